/-! a fire, by the house, the room and the turns alone -/
def mkM (h : Nat → Int32) (c : Nat) : Nat → Int32
  | 0 => 0
  | n + 1 => if ctH h n = nI c then mkM h c n ||| 1 <<< (nI n &&& 31) else mkM h c n
theorem mk_bit (h : Nat → Int32) (c r : Nat) : ∀ n, n ≤ 25 → bt (mkM h c n) r = (decide (r < n) && decide (ctH h r = nI c))
  | 0, _ => by rw [mkM, b_0]; simp
  | n + 1, hn => by
    have ih := mk_bit h c r n (by omega)
    rw [mkM]
    split
    · next e =>
      rw [b_or, b_one n (by omega), ih]
      by_cases z : r = n
      · rw [z, e]; simp
      · rw [show decide (r < n + 1) = decide (r < n) by apply decide_eq_decide.mpr; omega]; simp [z]
    · next e =>
      rw [ih]
      by_cases z : r = n
      · rw [z]; simp [e]
      · rw [show decide (r < n + 1) = decide (r < n) by apply decide_eq_decide.mpr; omega]
def ctS (h : Nat → Int32) (c : Nat) : Int32 := mkM h c 25
def catS (h : Nat → Int32) (r : Nat) : Nat := if ctH h r = -9 then 0 else (ctH h r).toNatClampNeg
theorem ct_cases (k : Int32) : (ctK k = -9 ∧ ctF k = 1000000000) ∨ ∃ c, 1 ≤ c ∧ c ≤ 4 ∧ ctK k = nI c ∧ ctF k = nI c := by
  unfold ctK ctF
  by_cases h1 : k = 1
  · rw [if_pos h1, if_pos h1]; exact Or.inr ⟨1, by omega, by omega, rfl, rfl⟩
  · by_cases h2 : k = 2
    · rw [if_neg h1, if_neg h1, if_pos h2, if_pos h2]; exact Or.inr ⟨3, by omega, by omega, rfl, rfl⟩
    · by_cases h3 : k = 3
      · rw [if_neg h1, if_neg h1, if_neg h2, if_neg h2, if_pos h3, if_pos h3]; exact Or.inr ⟨3, by omega, by omega, rfl, rfl⟩
      · by_cases h4 : k = 4
        · rw [if_neg h1, if_neg h1, if_neg h2, if_neg h2, if_neg h3, if_neg h3, if_pos h4, if_pos h4]; exact Or.inl ⟨rfl, rfl⟩
        · by_cases h5 : k = 5
          · rw [if_neg h1, if_neg h1, if_neg h2, if_neg h2, if_neg h3, if_neg h3, if_neg h4, if_neg h4, if_pos h5]; exact Or.inr ⟨4, by omega, by omega, rfl, rfl⟩
          · rw [if_neg h1, if_neg h1, if_neg h2, if_neg h2, if_neg h3, if_neg h3, if_neg h4, if_neg h4, if_neg h5]; exact Or.inr ⟨2, by omega, by omega, rfl, rfl⟩
theorem cat_cases (h : Nat → Int32) (r : Nat) : (catS h r = 0 ∧ ctH h r = -9 ∧ ctF (h (2 + r)) = 1000000000) ∨ (1 ≤ catS h r ∧ catS h r ≤ 4 ∧ ctH h r = nI (catS h r) ∧ ctF (h (2 + r)) = nI (catS h r)) := by
  rcases ct_cases (h (2 + r)) with ⟨e1, e2⟩ | ⟨c, h1, h4, e1, e2⟩
  · have e : ctH h r = -9 := e1
    exact Or.inl ⟨by rw [catS, if_pos e], e, e2⟩
  · have e : ctH h r = nI c := e1
    have ec : catS h r = c := by rw [catS, e, if_neg (nI_m9 c (by omega)), nI_clamp (by omega)]
    exact Or.inr (by rw [ec]; exact ⟨h1, h4, e, e2⟩)
theorem ms_S (h : Nat → Int32) : msM (ctS h) (catS h) := by
  intro c h1 h4 r
  rw [ctS, mk_bit h c r 25 (Nat.le_refl _)]
  congr 1
  apply decide_eq_decide.mpr
  rcases cat_cases h r with ⟨e0, e, _⟩ | ⟨a, b, e, _⟩
  · rw [e, e0]; exact ⟨fun z => absurd z.symm (nI_m9 c (by omega)), fun z => by omega⟩
  · rw [e, nI_eq (by omega) (by omega)]
theorem cat_le (h : Nat → Int32) (r : Nat) : catS h r ≤ 4 := by
  rcases cat_cases h r with ⟨e0, _⟩ | ⟨_, b, _⟩ <;> omega
theorem cat_S (h : Nat → Int32) : catM (catS h) h := by
  intro r hr
  rcases cat_cases h r with ⟨e0, _, e⟩ | ⟨a, b, _, e⟩
  · exact Or.inr ⟨e0, e⟩
  · exact Or.inl ⟨by omega, b, e⟩
theorem lk_ct {B : Nat → Nat → Int32} {h : Nat → Int32} (hl : lkM B h 25) {c : Nat} (h1 : 1 ≤ c) (h4 : c ≤ 4) : B 0 c = ctS h c := by
  apply b_ext
  intro i _
  rw [hl.2 c h1 h4 i, ctS, mk_bit h c i 25 (Nat.le_refl _)]
theorem qb_ct {ct ct' : Nat → Int32} (h : ∀ c, 1 ≤ c → c ≤ 4 → ct c = ct' c) (sr s0 : Int32) : ∀ k, qbM ct sr s0 k = qbM ct' sr s0 k
  | 0 => rfl
  | k + 1 => by
    rw [qbM, qbM, qb_ct h sr s0 k]
    unfold fxM
    rw [h 1 (by omega) (by omega), h 2 (by omega) (by omega), h 3 (by omega) (by omega), h 4 (by omega) (by omega)]
theorem fr_ct {ct ct' : Nat → Int32} (h : ∀ c, 1 ≤ c → c ≤ 4 → ct c = ct' c) (sr s0 : Int32) : ∀ k, frM ct sr s0 k = frM ct' sr s0 k
  | 0 => rfl
  | k + 1 => by
    rw [frM, frM, qb_ct h sr s0 k]
    unfold fxM
    rw [h 1 (by omega) (by omega), h 2 (by omega) (by omega), h 3 (by omega) (by omega), h 4 (by omega) (by omega)]
theorem tm_ct {ct ct' : Nat → Int32} (h : ∀ c, 1 ≤ c → c ≤ 4 → ct c = ct' c) (s0 : Int32) : tmM ct s0 = tmM ct' s0 := by
  funext sr r
  unfold tmM
  congr 1
  funext k
  rw [fr_ct h]
theorem ms_ct {ct ct' : Nat → Int32} {cat : Nat → Nat} (h : ∀ c, 1 ≤ c → c ≤ 4 → ct c = ct' c) (hm : msM ct' cat) : msM ct cat := fun c h1 h4 r => by rw [h c h1 h4]; exact hm c h1 h4 r
theorem mr_congr {TT : Int32 → Nat → Nat} {f : Nat → Int32} {tn : Nat} {tu : Nat → Nat} {x : Int32} : ∀ n m sr sd sb sd' sb', (∀ r, r < 25 → sd r = sd' r) → (∀ r, r < 25 → sb r = sb' r) → (mrM TT f tn tu x n m sr sd sb).1 = (mrM TT f tn tu x n m sr sd' sb').1 ∧ (mrM TT f tn tu x n m sr sd sb).2.1 = (mrM TT f tn tu x n m sr sd' sb').2.1 ∧ (∀ r, r < 25 → (mrM TT f tn tu x n m sr sd sb).2.2.1 r = (mrM TT f tn tu x n m sr sd' sb').2.2.1 r) ∧ ∀ r, r < 25 → (mrM TT f tn tu x n m sr sd sb).2.2.2 r = (mrM TT f tn tu x n m sr sd' sb').2.2.2 r
  | 0, m, sr, sd, sb, sd', sb', h1, h2 => ⟨rfl, rfl, h1, h2⟩
  | n + 1, m, sr, sd, sb, sd', sb', h1, h2 => by
    rw [mrM, mrM]
    split
    · exact ⟨rfl, rfl, h1, h2⟩
    · split
      · exact mr_congr n _ _ _ _ _ _ h1 h2
      · refine mr_congr n _ _ _ _ _ _ (fun r hr => ?_) (fun r hr => ?_)
        · by_cases z : r = (rvT TT f tn tu x m sr).toNatClampNeg
          · rw [z, upd_s, upd_s]
          · rw [upd_n _ _ z, upd_n _ _ z]; exact h1 r hr
        · by_cases z : r = (rvT TT f tn tu x m sr).toNatClampNeg
          · rw [z, upd_s, upd_s]
          · rw [upd_n _ _ z, upd_n _ _ z]; exact h2 r hr
/-- the fire itself -/
def fiS (h : Nat → Int32) (r0 tn : Nat) (tu : Nat → Nat) (x : Int32) : Int32 × Nat × (Nat → Int32) × (Nat → Int32) := mrM (tmM (ctS h) (1 <<< (nI r0 &&& 31))) h tn tu x 100 1 0 (fun _ => -9) (fun _ => -9)
def tS (h : Nat → Int32) (r0 tn : Nat) (tu : Nat → Nat) (x : Int32) (q : Nat) : Nat := tmM (ctS h) (1 <<< (nI r0 &&& 31)) (fiS h r0 tn tu x).1 q
/-- the minute in which a room burnt, or -9 -/
def buS (h : Nat → Int32) (r0 tn : Nat) (tu : Nat → Nat) (x : Int32) (q : Nat) : Int32 := if tS h r0 tn tu x q < 1000000000 then nI (tS h r0 tn tu x q) else -9
def sdS (h : Nat → Int32) (r0 tn : Nat) (tu : Nat → Nat) (x : Int32) (q : Nat) : Int32 := (fiS h r0 tn tu x).2.2.1 q
def sbS (h : Nat → Int32) (r0 tn : Nat) (tu : Nat → Nat) (x : Int32) (q : Nat) : Int32 := (fiS h r0 tn tu x).2.2.2 q
def wS (h : Nat → Int32) (r0 tn : Nat) (tu : Nat → Nat) (x : Int32) : Int32 := smI (bwF (buS h r0 tn tu x) h) 25
def nS (h : Nat → Int32) (r0 tn : Nat) (tu : Nat → Nat) (x : Int32) : Int32 := smI (bmF (buS h r0 tn tu x)) 25
theorem rl_0 (tn : Nat) (tu : Nat → Nat) (si : Nat → Int32) : rlM tn tu 1 0 si (fun _ => -9) (fun _ => -9) :=
  ⟨fun j a b => by omega, fun r _ => Or.inl ⟨b_0 r, rfl, rfl, fun j a b => by omega⟩⟩
/-- the worths of a house are never below nothing -/
def okH (h : Nat → Int32) : Prop := ∀ r, r < 25 → 0 ≤ (wtH h r).toInt
/-- the class's fire -/
theorem cl_en {B : Nat → Nat → Int32} {h : Nat → Int32} (hl : lkM B h 25) (ho : okH h) {r0 : Nat} (hr0 : r0 < 25) {tn : Nat} {tu : Nat → Nat} {ab : Nat → Int32} (x : Int32) (hab : ∀ m, 1 ≤ m → m ≤ 100 → ∀ r, r < 25 → bt (ab m) r = (!decide (tn = 0) && !decide (knB h (tu ((m - 1) % tn)) r = 0))) (si : Nat → Int32) : enM (ctS h) r0 tn tu (rnM (B 0) (B 1) (1 <<< (nI r0 &&& 31)) ab x 100 1 0 si) (fiS h r0 tn tu x) := by
  have hc : ∀ c, 1 ≤ c → c ≤ 4 → B 0 c = ctS h c := fun c a b => lk_ct hl a b
  have := rn_mr (ct := B 0) (wo := B 1) (f := h) (ms_ct hc (ms_S h)) hr0 (fun r hr => ⟨hl.1 r hr, by rw [hl.1 r hr]; exact ho r hr⟩) x hab 100 1 0 si (fun _ => -9) (fun _ => -9) (by omega) (by omega) (rl_0 tn tu si)
  unfold enM at this ⊢
  rw [tm_ct hc] at this
  exact this
/-- the reference's fire -/
theorem re_bu (h : Nat → Int32) (r0 : Nat) (hr0 : r0 < 25) (tn : Nat) (tu : Nat → Nat) (x : Int32) (K : Int32 × Nat × (Nat → Int32)) (hE : enM (ctS h) r0 tn tu K (fiS h r0 tn tu x)) (q : Nat) (hq : q < 25) : buT (tmM (ctS h) (1 <<< (nI r0 &&& 31))) (fiS h r0 tn tu x).1 (fiS h r0 tn tu x).2.1 q = buS h r0 tn tu x q := by
  obtain ⟨e1, e2, e3, _, e5⟩ := hE
  unfold buT buS tS
  rw [e1, e2]
  by_cases z : tmM (ctS h) (1 <<< (nI r0 &&& 31)) K.1 q < 1000000000
  · have := e5 q hq z
    rw [if_pos (by omega), if_pos z]
  · rw [if_neg (by omega), if_neg z]
