/-! the class's fire and the reference's are one -/
def cdM (T : Nat → Nat) (m : Nat) (kn : Nat → Bool) (r : Nat) : Prop := m ≤ T r ∧ T r < 1000000000 ∧ kn r = true
def bqM (T : Nat → Nat) (W : Nat → Int) (q r : Nat) : Prop := T q < T r ∨ (T q = T r ∧ (W r < W q ∨ (W r = W q ∧ q ≤ r)))
theorem bq_uniq {T : Nat → Nat} {W : Nat → Int} {q r : Nat} (h1 : bqM T W q r) (h2 : bqM T W r q) : q = r := by
  unfold bqM at h1 h2; omega
theorem bu_neg {TT : Int32 → Nat → Nat} {sr : Int32} {m r : Nat} (h : TT sr r ≤ 1000000000) : buT TT sr m r < 0 ↔ m ≤ TT sr r := by
  unfold buT
  split
  · next z => exact ⟨fun q => absurd q (nI_nn (by omega)), fun q => by omega⟩
  · next z => exact ⟨fun _ => by omega, fun _ => by decide⟩
theorem so_far {TT : Int32 → Nat → Nat} {sr : Int32} {r : Nat} (h : TT sr r ≤ 1000000000) : ¬ soT TT sr r = 1000000000 ↔ TT sr r < 1000000000 := by
  unfold soT
  rw [show (1000000000 : Int32) = nI 1000000000 from rfl, nI_eq (by omega) (by omega)]
  omega
theorem ty_best {TT : Int32 → Nat → Nat} {sr : Int32} {m p : Nat} {f : Nat → Int32} (hT : ∀ q, q < 25 → TT sr q ≤ 1000000000) : ∀ n, n ≤ 25 → (tyM (buT TT sr m) (soT TT sr) f p n = -9 ∧ ∀ r, r < n → ¬ cdM (TT sr) m (fun r => !decide (knB f p r = 0)) r) ∨ ∃ q, q < n ∧ tyM (buT TT sr m) (soT TT sr) f p n = nI q ∧ cdM (TT sr) m (fun r => !decide (knB f p r = 0)) q ∧ ∀ r, r < n → cdM (TT sr) m (fun r => !decide (knB f p r = 0)) r → bqM (TT sr) (fun r => (wtK (f (2 + r)) (f (27 + r))).toInt) q r
  | 0, _ => Or.inl ⟨rfl, fun r h => by omega⟩
  | n + 1, hn => by
    have ih := ty_best (p := p) (m := m) (f := f) hT n (by omega)
    have hc : (buT TT sr m n < 0 ∧ ¬ soT TT sr n = 1000000000 ∧ ¬ knB f p n = 0) ↔ cdM (TT sr) m (fun r => !decide (knB f p r = 0)) n := by
      unfold cdM
      rw [bu_neg (hT n (by omega)), so_far (hT n (by omega))]
      simp
    have self : bqM (TT sr) (fun r => (wtK (f (2 + r)) (f (27 + r))).toInt) n n := Or.inr ⟨rfl, Or.inr ⟨rfl, Nat.le_refl _⟩⟩
    rw [tyM]
    split
    · next h =>
      have hcd := hc.mp h
      rcases ih with ⟨e, hno⟩ | ⟨q, hq, e, hcq, hbest⟩
      · rw [e, if_pos (by decide)]
        refine Or.inr ⟨n, by omega, rfl, hcd, fun r hr hr2 => ?_⟩
        by_cases z : r = n
        · rw [z]; exact self
        · exact absurd hr2 (hno r (by omega))
      · have hTq := hT q (by omega)
        have hTn := hT n (by omega)
        rw [e, if_neg (nI_nn (by omega)), nI_clamp (by omega)]
        have new : (TT sr n < TT sr q ∨ (TT sr n = TT sr q ∧ (wtK (f (2 + q)) (f (27 + q))).toInt < (wtK (f (2 + n)) (f (27 + n))).toInt)) → ∃ q', q' < n + 1 ∧ nI n = nI q' ∧ cdM (TT sr) m (fun r => !decide (knB f p r = 0)) q' ∧ ∀ r, r < n + 1 → cdM (TT sr) m (fun r => !decide (knB f p r = 0)) r → bqM (TT sr) (fun r => (wtK (f (2 + r)) (f (27 + r))).toInt) q' r := by
          intro hlt
          refine ⟨n, by omega, rfl, hcd, fun r hr hr2 => ?_⟩
          by_cases z : r = n
          · rw [z]; exact self
          · have := hbest r (by omega) hr2
            unfold bqM at this ⊢
            simp only at this ⊢
            omega
        have old : ¬ (TT sr n < TT sr q ∨ (TT sr n = TT sr q ∧ (wtK (f (2 + q)) (f (27 + q))).toInt < (wtK (f (2 + n)) (f (27 + n))).toInt)) → ∃ q', q' < n + 1 ∧ nI q = nI q' ∧ cdM (TT sr) m (fun r => !decide (knB f p r = 0)) q' ∧ ∀ r, r < n + 1 → cdM (TT sr) m (fun r => !decide (knB f p r = 0)) r → bqM (TT sr) (fun r => (wtK (f (2 + r)) (f (27 + r))).toInt) q' r := by
          intro hlt
          refine ⟨q, by omega, rfl, hcq, fun r hr hr2 => ?_⟩
          by_cases z : r = n
          · rw [z]; unfold bqM; simp only; omega
          · exact hbest r (by omega) hr2
        have s1 : soT TT sr n < soT TT sr q ↔ TT sr n < TT sr q := nI_ltI (by omega) (by omega)
        have s2 : soT TT sr n = soT TT sr q ↔ TT sr n = TT sr q := nI_eq (by omega) (by omega)
        split
        · next z => exact Or.inr (new (Or.inl (s1.mp z)))
        · next z =>
          split
          · next z2 => exact Or.inr (new (Or.inr ⟨s2.mp z2.1, Int32.lt_iff_toInt_lt.mp z2.2⟩))
          · next z2 => exact Or.inr (old (fun w => w.elim (fun w => z (s1.mpr w)) (fun w => z2 ⟨s2.mpr w.1, Int32.lt_iff_toInt_lt.mpr w.2⟩)))
    · next h =>
      have hcd := mt hc.mpr h
      rcases ih with ⟨e, hno⟩ | ⟨q, hq, e, hcq, hbest⟩
      · refine Or.inl ⟨e, fun r hr => ?_⟩
        by_cases z : r = n
        · rw [z]; exact hcd
        · exact hno r (by omega)
      · refine Or.inr ⟨q, by omega, e, hcq, fun r hr hr2 => ?_⟩
        by_cases z : r = n
        · rw [z] at hr2; exact absurd hr2 hcd
        · exact hbest r (by omega) hr2
theorem dr_best {x : Int32} {wo : Nat → Int32} (hw : ∀ r, r < 25 → 0 ≤ (wo r).toInt) : ∀ n, n ≤ 25 → (drM x wo n = (-9, -1) ∧ ∀ r, r < n → bt x r = false) ∨ ∃ q, q < n ∧ drM x wo n = (nI q, wo q) ∧ bt x q = true ∧ ∀ r, r < n → bt x r = true → (wo r).toInt < (wo q).toInt ∨ ((wo r).toInt = (wo q).toInt ∧ q ≤ r)
  | 0, _ => Or.inl ⟨rfl, fun r h => by omega⟩
  | n + 1, hn => by
    have ih := dr_best (x := x) hw n (by omega)
    have hwn := hw n (by omega)
    rw [drM]
    rcases ih with ⟨e, hno⟩ | ⟨q, hq, e, hbq, hbest⟩
    · rw [e]
      by_cases h : bt x n = true
      · have hlt : (-1 : Int32) < wo n := by
          rw [Int32.lt_iff_toInt_lt, show (-1 : Int32).toInt = -1 from by decide]; omega
        rw [if_pos ⟨h, hlt⟩]
        refine Or.inr ⟨n, by omega, rfl, h, fun r hr hr2 => ?_⟩
        by_cases z : r = n
        · rw [z]; exact Or.inr ⟨rfl, Nat.le_refl _⟩
        · rw [hno r (by omega)] at hr2; exact absurd hr2 (by decide)
      · rw [if_neg (fun z => h z.1)]
        refine Or.inl ⟨rfl, fun r hr => ?_⟩
        by_cases z : r = n
        · rw [z]; simpa using h
        · exact hno r (by omega)
    · rw [e]
      by_cases h : bt x n = true ∧ (nI q, wo q).2 < wo n
      · rw [if_pos h]
        have hlt := Int32.lt_iff_toInt_lt.mp h.2
        refine Or.inr ⟨n, by omega, rfl, h.1, fun r hr hr2 => ?_⟩
        by_cases z : r = n
        · rw [z]; exact Or.inr ⟨rfl, Nat.le_refl _⟩
        · have := hbest r (by omega) hr2
          simp only at hlt
          omega
      · rw [if_neg h]
        refine Or.inr ⟨q, by omega, rfl, hbq, fun r hr hr2 => ?_⟩
        by_cases z : r = n
        · rw [z] at hr2 ⊢
          have : ¬ (wo q).toInt < (wo n).toInt := fun w => h ⟨hr2, Int32.lt_iff_toInt_lt.mpr w⟩
          omega
        · exact hbest r (by omega) hr2
theorem ch_best {fr wo : Nat → Int32} {ab : Int32} (hw : ∀ r, r < 25 → 0 ≤ (wo r).toInt) : ∀ n j, (chM fr wo ab j n = -9 ∧ ∀ i, j ≤ i → i < j + n → ∀ r, r < 25 → bt (fr i &&& ab) r = false) ∨ ∃ i q, j ≤ i ∧ i < j + n ∧ q < 25 ∧ chM fr wo ab j n = nI q ∧ bt (fr i &&& ab) q = true ∧ (∀ k, j ≤ k → k < i → ∀ r, r < 25 → bt (fr k &&& ab) r = false) ∧ ∀ r, r < 25 → bt (fr i &&& ab) r = true → (wo r).toInt < (wo q).toInt ∨ ((wo r).toInt = (wo q).toInt ∧ q ≤ r)
  | 0, j => Or.inl ⟨rfl, fun i h1 h2 => by omega⟩
  | n + 1, j => by
    rw [chM]
    rcases dr_best (x := fr j &&& ab) hw 25 (Nat.le_refl _) with ⟨e, hno⟩ | ⟨q, hq, e, hbq, hbest⟩
    · rw [e, if_pos rfl]
      rcases ch_best hw n (j + 1) with ⟨e2, h2⟩ | ⟨i, q, h1, h2, h3, h4, h5, h6, h7⟩
      · refine Or.inl ⟨e2, fun i a b => ?_⟩
        by_cases z : i = j
        · rw [z]; exact hno
        · exact h2 i (by omega) (by omega)
      · refine Or.inr ⟨i, q, by omega, by omega, h3, h4, h5, fun k a b => ?_, h7⟩
        by_cases z : k = j
        · rw [z]; exact hno
        · exact h6 k (by omega) b
    · rw [e, if_neg (nI_m9 q (by omega))]
      exact Or.inr ⟨j, q, Nat.le_refl _, by omega, hq, rfl, hbq, fun k a b => by omega, hbest⟩
theorem fr_tm {ct : Nat → Int32} {sr s0 : Int32} {r k : Nat} (hr : r < 32) (hk : k ≤ 100) : bt (frM ct sr s0 k) r = true ↔ tmM ct s0 sr r = k :=
  ⟨fun h => tm_of hr hk h, fun h => by have := (tm_fr (ct := ct) (sr := sr) (s0 := s0) (r := r) (by omega)).2; rwa [h] at this⟩
/-- both choose the same room -/
theorem ch_ty {ct wo f : Nat → Int32} {sr s0 ab : Int32} {m p : Nat} (hm1 : 1 ≤ m) (hm : m ≤ 100) (hwo : ∀ r, r < 25 → wo r = wtK (f (2 + r)) (f (27 + r)) ∧ 0 ≤ (wo r).toInt) (hab : ∀ r, r < 25 → bt ab r = !decide (knB f p r = 0)) : chM (frM ct sr s0) wo ab m (101 - m) = tyM (buT (tmM ct s0) sr m) (soT (tmM ct s0) sr) f p 25 := by
  have hcd : ∀ r, r < 25 → (cdM (tmM ct s0 sr) m (fun r => !decide (knB f p r = 0)) r ↔ ∃ i, m ≤ i ∧ i < m + (101 - m) ∧ bt (frM ct sr s0 i &&& ab) r = true) := by
    intro r hr
    unfold cdM
    constructor
    · rintro ⟨h1, h2, h3⟩
      have h4 := (tm_fr h2).1
      exact ⟨tmM ct s0 sr r, h1, by omega, by rw [b_and, hab r hr, (fr_tm (by omega) h4).mpr rfl]; simpa using h3⟩
    · rintro ⟨i, h1, h2, h3⟩
      rw [b_and, hab r hr, Bool.and_eq_true] at h3
      have := (fr_tm (by omega) (by omega)).mp h3.1
      exact ⟨by omega, by omega, h3.2⟩
  have t0 := ty_best (TT := tmM ct s0) (sr := sr) (m := m) (p := p) (f := f) (fun q _ => tm_le _ _ _ _) 25 (Nat.le_refl _)
  rcases ch_best (fr := frM ct sr s0) (ab := ab) (fun r hr => (hwo r hr).2) (101 - m) m with ⟨e, hno⟩ | ⟨i, q, h1, h2, h3, h4, h5, h6, h7⟩
  · rcases t0 with ⟨e2, _⟩ | ⟨q, hq, e2, hcq, _⟩
    · rw [e, e2]
    · obtain ⟨i, a, b, c⟩ := (hcd q hq).mp hcq
      rw [hno i a b q hq] at c
      exact absurd c (by decide)
  · have hcq := (hcd q h3).mpr ⟨i, h1, h2, h5⟩
    rcases t0 with ⟨_, hno⟩ | ⟨q2, hq2, e2, hcq2, hbest⟩
    · exact absurd hcq (hno q h3)
    · rw [h4, e2]
      have b1 := hbest q h3 hcq
      have tq : tmM ct s0 sr q = i := by
        rw [b_and, Bool.and_eq_true] at h5
        exact (fr_tm (by omega) (by omega)).mp h5.1
      obtain ⟨k, a, b, c⟩ := (hcd q2 hq2).mp hcq2
      have tq2 : tmM ct s0 sr q2 = k := by
        have c' := c
        rw [b_and, Bool.and_eq_true] at c'
        exact (fr_tm (by omega) (by omega)).mp c'.1
      have hki : i ≤ k := by
        rcases Nat.lt_or_ge k i with z | z
        · rw [h6 k a z q2 hq2] at c; exact absurd c (by decide)
        · exact z
      have b2 : bqM (tmM ct s0 sr) (fun r => (wtK (f (2 + r)) (f (27 + r))).toInt) q q2 := by
        by_cases z : i = k
        · rw [← z] at c
          have w := h7 q2 hq2 c
          rw [(hwo q h3).1, (hwo q2 hq2).1] at w
          exact Or.inr ⟨by omega, w⟩
        · exact Or.inl (by omega)
      rw [bq_uniq b1 b2]
theorem gn_two (bu so : Nat → Int32) : ∀ n i, (gnM bu so i n = 0 ∧ ∀ q, i ≤ q → q < i + n → ¬ (bu q < 0 ∧ so q < 1000000000)) ∨ (gnM bu so i n = 1 ∧ ∃ q, i ≤ q ∧ q < i + n ∧ bu q < 0 ∧ so q < 1000000000)
  | 0, i => Or.inl ⟨rfl, fun q a b => by omega⟩
  | n + 1, i => by
    rw [gnM]
    split
    · next h => exact Or.inr ⟨rfl, i, Nat.le_refl _, by omega, h.1, h.2⟩
    · next h =>
      rcases gn_two bu so n (i + 1) with ⟨e, f⟩ | ⟨e, q, a, b, c⟩
      · refine Or.inl ⟨e, fun q a b => ?_⟩
        by_cases z : q = i
        · rw [z]; exact h
        · exact f q (by omega) (by omega)
      · exact Or.inr ⟨e, q, by omega, by omega, c⟩
theorem go_two (fr : Nat → Int32) : ∀ n m, (goM fr m n = false ∧ ∀ j, m ≤ j → j < m + n → fr j = 0) ∨ (goM fr m n = true ∧ ∃ j, m ≤ j ∧ j < m + n ∧ fr j ≠ 0)
  | 0, m => Or.inl ⟨rfl, fun j a b => by omega⟩
  | n + 1, m => by
    rw [goM]
    split
    · next h =>
      rcases go_two fr n (m + 1) with ⟨e, f⟩ | ⟨e, j, a, b, c⟩
      · refine Or.inl ⟨e, fun j a b => ?_⟩
        by_cases z : j = m
        · rw [z]; exact h
        · exact f j (by omega) (by omega)
      · exact Or.inr ⟨e, j, by omega, by omega, c⟩
    · next h => exact Or.inr ⟨rfl, m, Nat.le_refl _, by omega, h⟩
theorem gn_iff {TT : Int32 → Nat → Nat} {sr : Int32} {m q : Nat} (h : TT sr q ≤ 1000000000) : (buT TT sr m q < 0 ∧ soT TT sr q < 1000000000) ↔ (m ≤ TT sr q ∧ TT sr q < 1000000000) := by
  rw [bu_neg h]
  unfold soT
  rw [show (1000000000 : Int32) = nI 1000000000 from rfl, nI_ltI (by omega) (by omega)]
/-- both stop in the same minute -/
theorem go_gn {ct : Nat → Int32} {cat : Nat → Nat} (hms : msM ct cat) {sr : Int32} {r0 : Nat} (hr0 : r0 < 25) {m : Nat} (hm1 : 1 ≤ m) (hm : m ≤ 101) : goM (frM ct sr (1 <<< (nI r0 &&& 31))) m (101 - m) = true ↔ ¬ gnM (buT (tmM ct (1 <<< (nI r0 &&& 31))) sr m) (soT (tmM ct (1 <<< (nI r0 &&& 31))) sr) 0 25 = 0 := by
  have big : ∀ j i, 25 ≤ i → bt (frM ct sr (1 <<< (nI r0 &&& 31)) j) i = false := fun j i hi => by
    have := bn_big (sr := sr) hms hr0 j i hi
    rcases hb : bt (frM ct sr (1 <<< (nI r0 &&& 31)) j) i with _ | _
    · rfl
    · rw [(bn_iff j).mpr ⟨j, Nat.le_refl _, hb⟩] at this; exact absurd this (by decide)
  rcases go_two (frM ct sr (1 <<< (nI r0 &&& 31))) (101 - m) m with ⟨e, f⟩ | ⟨e, j, a, b, c⟩ <;> rcases gn_two (buT (tmM ct (1 <<< (nI r0 &&& 31))) sr m) (soT (tmM ct (1 <<< (nI r0 &&& 31))) sr) 25 0 with ⟨e2, f2⟩ | ⟨e2, q, a2, b2, c2⟩ <;> rw [e, e2]
  · simp
  · exfalso
    have h := (gn_iff (tm_le _ _ _ _)).mp c2
    have h3 := tm_fr h.2
    have h4 := f _ h.1 (by omega)
    rw [h4, b_0] at h3
    exact absurd h3.2 (by decide)
  · exfalso
    apply c
    apply b_ext
    intro i hi
    rw [b_0]
    rcases Nat.lt_or_ge i 25 with z | z
    · rcases hb : bt (frM ct sr (1 <<< (nI r0 &&& 31)) j) i with _ | _
      · rfl
      · have := tm_of (by omega) (by omega) hb
        exact absurd ((gn_iff (tm_le _ _ _ _)).mpr ⟨by omega, by omega⟩) (f2 i (by omega) (by omega))
    · exact big j i z
  · simp
/-- what has been said so far -/
def rlM (tn : Nat) (tu : Nat → Nat) (m : Nat) (sr : Int32) (si sd sb : Nat → Int32) : Prop :=
  (∀ j, 1 ≤ j → j < m → si j = -9 ∨ ∃ r, r < 25 ∧ si j = nI r) ∧
  ∀ r, r < 25 → (bt sr r = false ∧ sd r = -9 ∧ sb r = -9 ∧ ∀ j, 1 ≤ j → j < m → si j ≠ nI r) ∨ (bt sr r = true ∧ ∃ j, 1 ≤ j ∧ j < m ∧ si j = nI r ∧ sd r = nI j ∧ sb r = pvT tn tu j ∧ ∀ i, 1 ≤ i → i < m → si i = nI r → i = j)
theorem rl_no {tn : Nat} {tu : Nat → Nat} {m : Nat} {sr : Int32} {si sd sb : Nat → Int32} (h : rlM tn tu m sr si sd sb) : rlM tn tu (m + 1) sr (upd si m (-9)) sd sb := by
  have old : ∀ j, j < m + 1 → j ≠ m → j < m := fun j a b => by omega
  refine ⟨fun j a b => ?_, fun r hr => ?_⟩
  · by_cases z : j = m
    · rw [z, upd_s]; exact Or.inl rfl
    · rw [upd_n _ _ z]; exact h.1 j a (old j b z)
  · rcases h.2 r hr with ⟨c1, c2, c3, c4⟩ | ⟨c1, j, a, b, c2, c3, c4, c5⟩
    · refine Or.inl ⟨c1, c2, c3, fun j a b => ?_⟩
      by_cases z : j = m
      · rw [z, upd_s]; exact fun w => nI_m9 r (by omega) w.symm
      · rw [upd_n _ _ z]; exact c4 j a (old j b z)
    · refine Or.inr ⟨c1, j, a, by omega, ?_, c3, c4, fun i a2 b2 e => ?_⟩
      · rw [upd_n _ _ (by omega)]; exact c2
      · by_cases z : i = m
        · rw [z, upd_s] at e; exact absurd e.symm (nI_m9 r (by omega))
        · rw [upd_n _ _ z] at e; exact c5 i a2 (old i b2 z) e
theorem rl_yes {tn : Nat} {tu : Nat → Nat} {m q : Nat} {sr : Int32} {si sd sb : Nat → Int32} (hm : 1 ≤ m) (hq : q < 25) (hs : bt sr q = false) (h : rlM tn tu m sr si sd sb) : rlM tn tu (m + 1) (sr ||| 1 <<< (nI q &&& 31)) (upd si m (nI q)) (upd sd q (nI m)) (upd sb q (pvT tn tu m)) := by
  have old : ∀ j, j < m + 1 → j ≠ m → j < m := fun j a b => by omega
  refine ⟨fun j a b => ?_, fun r hr => ?_⟩
  · by_cases z : j = m
    · rw [z, upd_s]; exact Or.inr ⟨q, hq, rfl⟩
    · rw [upd_n _ _ z]; exact h.1 j a (old j b z)
  · rw [b_or, b_one q (by omega)]
    by_cases e : r = q
    · rw [e, upd_s, upd_s]
      refine Or.inr ⟨by simp, m, hm, by omega, by rw [upd_s], rfl, rfl, fun i a b w => ?_⟩
      by_cases z : i = m
      · exact z
      · rw [upd_n _ _ z] at w
        rcases h.2 q hq with ⟨_, _, _, c4⟩ | ⟨c1, _⟩
        · exact absurd w (c4 i a (old i b z))
        · rw [hs] at c1; exact absurd c1 (by decide)
    · rw [upd_n _ _ e, upd_n _ _ e, decide_eq_false e, Bool.or_false]
      have ne : nI q ≠ nI r := fun w => e ((nI_eq (by omega) (by omega)).mp w).symm
      rcases h.2 r hr with ⟨c1, c2, c3, c4⟩ | ⟨c1, j, a, b, c2, c3, c4, c5⟩
      · refine Or.inl ⟨c1, c2, c3, fun j a b => ?_⟩
        by_cases z : j = m
        · rw [z, upd_s]; exact ne
        · rw [upd_n _ _ z]; exact c4 j a (old j b z)
      · refine Or.inr ⟨c1, j, a, by omega, ?_, c3, c4, fun i a2 b2 w => ?_⟩
        · rw [upd_n _ _ (by omega)]; exact c2
        · by_cases z : i = m
          · rw [z, upd_s] at w; exact absurd w ne
          · rw [upd_n _ _ z] at w; exact c5 i a2 (old i b2 z) w
/-- what a whole fire was, in both -/
def enM (ct : Nat → Int32) (r0 tn : Nat) (tu : Nat → Nat) (K : Int32 × Nat × (Nat → Int32)) (L : Int32 × Nat × (Nat → Int32) × (Nat → Int32)) : Prop :=
  L.1 = K.1 ∧ L.2.1 = K.2.1 + 1 ∧ K.2.1 ≤ 100 ∧ rlM tn tu (K.2.1 + 1) K.1 K.2.2 L.2.2.1 L.2.2.2 ∧ ∀ q, q < 25 → tmM ct (1 <<< (nI r0 &&& 31)) K.1 q < 1000000000 → tmM ct (1 <<< (nI r0 &&& 31)) K.1 q ≤ K.2.1
theorem rn_mr {ct wo f : Nat → Int32} {cat : Nat → Nat} (hms : msM ct cat) {r0 : Nat} (hr0 : r0 < 25) (hwo : ∀ r, r < 25 → wo r = wtK (f (2 + r)) (f (27 + r)) ∧ 0 ≤ (wo r).toInt) {tn : Nat} {tu : Nat → Nat} {ab : Nat → Int32} (x : Int32) (hab : ∀ m, 1 ≤ m → m ≤ 100 → ∀ r, r < 25 → bt (ab m) r = (!decide (tn = 0) && !decide (knB f (tu ((m - 1) % tn)) r = 0))) : ∀ n m sr si sd sb, 1 ≤ m → m + n = 101 → rlM tn tu m sr si sd sb → enM ct r0 tn tu (rnM ct wo (1 <<< (nI r0 &&& 31)) ab x n m sr si) (mrM (tmM ct (1 <<< (nI r0 &&& 31))) f tn tu x n m sr sd sb)
  | 0, m, sr, si, sd, sb, hm1, hm, h => by
    rw [rnM, mrM]
    refine ⟨rfl, ?_, ?_, ?_, fun q hq hf => ?_⟩
    · show m = m - 1 + 1; omega
    · show m - 1 ≤ 100; omega
    · show rlM tn tu (m - 1 + 1) sr si sd sb
      rw [show m - 1 + 1 = m by omega]; exact h
    · show tmM ct (1 <<< (nI r0 &&& 31)) sr q ≤ m - 1
      have := (tm_fr (show tmM ct (1 <<< (nI r0 &&& 31)) sr q < 1000000000 from hf)).1
      omega
  | n + 1, m, sr, si, sd, sb, hm1, hm, h => by
    have ih := rn_mr hms hr0 hwo x hab n (m + 1)
    have hgo := go_gn (sr := sr) hms hr0 hm1 (show m ≤ 101 by omega)
    rw [rnM, mrM]
    by_cases hg : gnM (buT (tmM ct (1 <<< (nI r0 &&& 31))) sr m) (soT (tmM ct (1 <<< (nI r0 &&& 31))) sr) 0 25 = 0
    · rw [if_pos hg, if_neg (fun z => hgo.mp z hg)]
      refine ⟨rfl, ?_, ?_, ?_, fun q hq hf => ?_⟩
      · show m = m - 1 + 1; omega
      · show m - 1 ≤ 100; omega
      · show rlM tn tu (m - 1 + 1) sr si sd sb
        rw [show m - 1 + 1 = m by omega]; exact h
      · show tmM ct (1 <<< (nI r0 &&& 31)) sr q ≤ m - 1
        have hf' : tmM ct (1 <<< (nI r0 &&& 31)) sr q < 1000000000 := hf
        rcases gn_two (buT (tmM ct (1 <<< (nI r0 &&& 31))) sr m) (soT (tmM ct (1 <<< (nI r0 &&& 31))) sr) 25 0 with ⟨_, f2⟩ | ⟨e2, _⟩
        · have := f2 q (by omega) (by omega)
          rw [gn_iff (tm_le _ _ _ _)] at this
          omega
        · rw [hg] at e2; exact absurd e2 (by decide)
    · rw [if_neg hg, if_pos (hgo.mpr hg)]
      by_cases hsi : siM x m = true
      · have e : rvT (tmM ct (1 <<< (nI r0 &&& 31))) f tn tu x m sr = -9 := by rw [rvT, if_pos (Or.inr hsi)]
        rw [if_pos hsi, e, if_pos (by decide)]
        exact ih sr _ sd sb (by omega) (by omega) (rl_no h)
      · rw [if_neg hsi]
        have e : chM (frM ct sr (1 <<< (nI r0 &&& 31))) wo (ab m) m (101 - m) = rvT (tmM ct (1 <<< (nI r0 &&& 31))) f tn tu x m sr := by
          rw [rvT]
          by_cases ht : tn = 0
          · rw [if_pos (Or.inl ht)]
            rcases ch_best (fr := frM ct sr (1 <<< (nI r0 &&& 31))) (ab := ab m) (fun r hr => (hwo r hr).2) (101 - m) m with ⟨e, _⟩ | ⟨i, q, _, _, h3, _, h5, _⟩
            · exact e
            · rw [b_and, hab m hm1 (by omega) q h3, decide_eq_true ht] at h5
              simp at h5
          · rw [if_neg (fun z => z.elim ht hsi)]
            exact ch_ty hm1 (by omega) hwo (fun r hr => by rw [hab m hm1 (by omega) r hr, decide_eq_false ht]; simp)
        rw [e]
        rcases rv_neg (TT := tmM ct (1 <<< (nI r0 &&& 31))) (f := f) (tn := tn) (tu := tu) (x := x) (m := m) (sr := sr) with e2 | ⟨q, hq, e2, ht, hty⟩
        · rw [e2, if_pos rfl, if_pos (by decide)]
          exact ih sr _ sd sb (by omega) (by omega) (rl_no h)
        · rw [e2, if_neg (nI_m9 q (by omega)), if_neg (nI_nn (by omega)), nI_clamp (by omega)]
          have hsp := ty_spec _ _ _ _ 25 q (Nat.le_refl _) hty (by omega)
          have h1 := (bu_neg (tm_le _ _ _ _)).mp hsp.1
          have h2 := (so_far (tm_le _ _ _ _)).mp hsp.2
          have hs := (tm_dn hms hr0 hq (by omega) h2).1
          exact ih _ _ _ _ (by omega) (by omega) (rl_yes hm1 hq hs h)
