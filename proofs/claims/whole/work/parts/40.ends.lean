/-! what the class has of a fire when it is over -/
def fdM (B : Nat → Nat → Int32) (h : Nat → Int32) (r0 tn : Nat) (tu : Nat → Nat) (x : Int32) : Prop :=
  ∃ L k, B 8 3 = nI L ∧ L < 101 ∧ B 8 4 = nI k ∧ k < 101 ∧ (∀ q, bt (B 5 L) q = (decide (q < 25) && !decide (buS h r0 tn tu x q < 0))) ∧
  (∀ q, q < 25 → fsM (fun j => bt (B 4 j) q) 0 (L + 1) = buS h r0 tn tu x q) ∧ (∀ q, q < 25 → tS h r0 tn tu x q < 1000000000 → tS h r0 tn tu x q ≤ L) ∧ (∃ q, q < 25 ∧ tS h r0 tn tu x q = L) ∧ rlM tn tu (k + 1) (fiS h r0 tn tu x).1 (B 7) (sdS h r0 tn tu x) (sbS h r0 tn tu x)
theorem fs_none {p : Nat → Bool} : ∀ n s, (∀ k, s ≤ k → k < s + n → p k = false) → fsM p s n = -9
  | 0, _, _ => rfl
  | n + 1, s, h => by
    rw [fsM, h s (Nat.le_refl _) (by omega), if_neg (by decide)]
    exact fs_none n (s + 1) (fun k a b => h k (by omega) (by omega))
theorem fs_some {p : Nat → Bool} {k : Nat} (hk : p k = true) : ∀ n s, s ≤ k → k < s + n → (∀ i, s ≤ i → i < k → p i = false) → fsM p s n = nI k
  | 0, s, h1, h2, _ => by omega
  | n + 1, s, h1, h2, h => by
    rw [fsM]
    by_cases z : s = k
    · rw [z, if_pos hk]
    · rw [h s (Nat.le_refl _) (by omega), if_neg (by decide)]
      exact fs_some hk n (s + 1) (by omega) (by omega) (fun i a b => h i (by omega) b)
theorem bu_S (h : Nat → Int32) (r0 tn : Nat) (tu : Nat → Nat) (x : Int32) (q : Nat) : buS h r0 tn tu x q < 0 ↔ ¬ tS h r0 tn tu x q < 1000000000 := by
  unfold buS
  split
  · next z => exact ⟨fun w => absurd w (nI_nn (by omega)), fun w => absurd z w⟩
  · next z => exact ⟨fun _ => z, fun _ => by decide⟩
theorem fd_of {B : Nat → Nat → Int32} {h : Nat → Int32} {r0 : Nat} (hr0 : r0 < 25) {tn : Nat} {tu : Nat → Nat} {x : Int32} {K : Int32 × Nat × (Nat → Int32)} {L : Nat} (hc : ∀ c, 1 ≤ c → c ≤ 4 → B 0 c = ctS h c) (hE : enM (ctS h) r0 tn tu K (fiS h r0 tn tu x)) (hv : vsM B (1 <<< (nI r0 &&& 31)) L) (h2 : B 8 2 = K.1) (h4 : B 8 4 = nI K.2.1) (h7 : B 7 = K.2.2) : fdM B h r0 tn tu x := by
  obtain ⟨e1, e2, e3, e4, e5⟩ := hE
  have hz := fun j a b => vs_zero hv (j := j) a b
  obtain ⟨v1, v2, v3, v4, v5⟩ := hv
  have efr : ∀ j, frM (B 0) (B 8 2) (1 <<< (nI r0 &&& 31)) j = frM (ctS h) K.1 (1 <<< (nI r0 &&& 31)) j := fun j => by rw [h2]; exact fr_ct hc _ _ j
  have ebn : ∀ j, bnM (B 0) (B 8 2) (1 <<< (nI r0 &&& 31)) j = bnM (ctS h) K.1 (1 <<< (nI r0 &&& 31)) j := fun j => by rw [h2, bnM, bnM, qb_ct hc]
  have eT : ∀ q, tS h r0 tn tu x q = tmM (ctS h) (1 <<< (nI r0 &&& 31)) K.1 q := fun q => by rw [tS, e1]
  have hle : ∀ q, q < 25 → tS h r0 tn tu x q < 1000000000 → tS h r0 tn tu x q ≤ L := by
    intro q hq hf
    rw [eT] at hf ⊢
    have hf2 := tm_fr hf
    rcases Nat.lt_or_ge L (tmM (ctS h) (1 <<< (nI r0 &&& 31)) K.1 q) with z | z
    · have := hz _ z (by omega)
      rw [efr] at this
      rw [this, b_0] at hf2
      exact absurd hf2.2 (by decide)
    · exact z
  refine ⟨L, K.2.1, v1, v2, h4, by omega, fun q => ?_, fun q hq => ?_, hle, ?_, ?_⟩
  · rw [(v3 L (by omega) v2).2.1, ebn]
    rcases Nat.lt_or_ge q 25 with z | z
    · rw [decide_eq_true z, Bool.true_and]
      have := tm_bn (ct := ctS h) (sr := K.1) (s0 := 1 <<< (nI r0 &&& 31)) (r := q) (k := L) (by omega) (by omega)
      have hS := bu_S h r0 tn tu x q
      have hq2 := hle q z
      rw [eT] at hS hq2
      by_cases w : tmM (ctS h) (1 <<< (nI r0 &&& 31)) K.1 q < 1000000000
      · rw [this.mpr (hq2 w), decide_eq_false (fun y => hS.mp y w)]; rfl
      · rw [decide_eq_true (hS.mpr w)]
        have := mt this.mp (by omega)
        simpa using this
    · rw [bn_big (ms_S h) hr0 L q z, decide_eq_false (by omega)]; rfl
  · have hB4 : ∀ j, j ≤ L → bt (B 4 j) q = bt (frM (ctS h) K.1 (1 <<< (nI r0 &&& 31)) j) q := fun j hj => by rw [(v3 j (by omega) (by omega)).1, efr]
    unfold buS
    by_cases w : tS h r0 tn tu x q < 1000000000
    · have hl := hle q hq w
      rw [if_pos w]
      rw [eT] at w hl ⊢
      have hf2 := tm_fr w
      refine fs_some ?_ _ _ (by omega) (by omega) (fun i a b => ?_)
      · rw [hB4 _ hl]; exact hf2.2
      · show bt (B 4 i) q = false
        rw [hB4 i (by omega)]
        rcases hb : bt (frM (ctS h) K.1 (1 <<< (nI r0 &&& 31)) i) q with _ | _
        · rfl
        · have := tm_of (by omega) (by omega) hb; omega
    · rw [if_neg w]
      refine fs_none _ _ (fun i a b => ?_)
      show bt (B 4 i) q = false
      rw [hB4 i (by omega)]
      rcases hb : bt (frM (ctS h) K.1 (1 <<< (nI r0 &&& 31)) i) q with _ | _
      · rfl
      · have := tm_of (by omega) (by omega) hb
        rw [eT] at w; omega
  · rcases v4 with z | z
    · exact ⟨r0, hr0, by rw [eT, z]; exact (tm_0 hr0 hr0).mpr rfl⟩
    · rw [efr] at z
      apply Classical.byContradiction
      intro hno
      apply z
      apply b_ext
      intro i hi
      rw [b_0]
      rcases hb : bt (frM (ctS h) K.1 (1 <<< (nI r0 &&& 31)) L) i with _ | _
      · rfl
      · rcases Nat.lt_or_ge i 25 with w | w
        · exact absurd ⟨i, w, by rw [eT]; exact tm_of (by omega) (by omega) hb⟩ hno
        · have := bn_big (ct := ctS h) (sr := K.1) (ms_S h) hr0 L i w
          rw [(bn_iff L).mpr ⟨L, Nat.le_refl _, hb⟩] at this; exact absurd this (by decide)
  · rw [e1, h7]; exact e4
theorem wb_sm {y : Int32} {wo bu f : Nat → Int32} : ∀ n, (∀ r, r < n → (bt y r = true ↔ ¬ bu r < 0) ∧ wo r = wtK (f (2 + r)) (f (27 + r))) → wbM y wo n = smI (bwF bu f) n
  | 0, _ => rfl
  | n + 1, h => by
    rw [wbM, smI, wb_sm n (fun r hr => h r (by omega)), bwF]
    have := h n (by omega)
    by_cases z : bu n < 0
    · rw [if_pos z, if_neg (fun w => this.1.mp w z), Int32.add_zero]
    · rw [if_neg z, if_pos (this.1.mpr z), this.2]
/-- the last minute in which something burnt, as the reference finds it -/
def lmM (bu : Nat → Int32) : Nat → Int32
  | 0 => 0
  | n + 1 => mxB (lmM bu n) (bu n)
theorem lm_eq {bu : Nat → Int32} {L : Nat} (hL : L < 1000) : ∀ n, (∀ q, q < n → bu q = -9 ∨ ∃ t, t ≤ L ∧ bu q = nI t) → ∃ k, k ≤ L ∧ lmM bu n = nI k ∧ ((∃ q, q < n ∧ bu q = nI L) → k = L)
  | 0, _ => ⟨0, by omega, rfl, fun ⟨q, a, _⟩ => by omega⟩
  | n + 1, h => by
    obtain ⟨k, h1, h2, h3⟩ := lm_eq hL n (fun q hq => h q (by omega))
    rw [lmM, h2, mxB]
    have split : (∃ q, q < n + 1 ∧ bu q = nI L) → bu n = nI L ∨ ∃ q, q < n ∧ bu q = nI L := by
      rintro ⟨q, a, b⟩
      by_cases z : q = n
      · rw [z] at b; exact Or.inl b
      · exact Or.inr ⟨q, by omega, b⟩
    rcases h n (by omega) with e | ⟨t, ht, e⟩
    · rw [e, if_neg (by rw [Int32.le_iff_toInt_le, nI_toInt (by omega)]; have : (-9 : Int32).toInt = -9 := by decide
                        omega)]
      refine ⟨k, h1, rfl, fun z => ?_⟩
      rcases split z with w | w
      · rw [e] at w; exact absurd w.symm (nI_m9 L (by omega))
      · exact h3 w
    · rw [e]
      by_cases z : nI k ≤ nI t
      rotate_left
      · rw [if_neg z]
        have z2 := mt (nI_leI (a := k) (b := t) (by omega) (by omega)).mpr z
        refine ⟨k, h1, rfl, fun y => ?_⟩
        rcases split y with w | w
        · rw [e] at w; have := (nI_eq (by omega) (by omega)).mp w; omega
        · exact h3 w
      · rw [if_pos z]
        have z2 := (nI_leI (a := k) (b := t) (by omega) (by omega)).mp z
        refine ⟨t, ht, rfl, fun y => ?_⟩
        rcases split y with w | w
        · rw [e] at w; exact (nI_eq (by omega) (by omega)).mp w
        · have := h3 w; omega
theorem sd_fs {tn : Nat} {tu : Nat → Nat} {k : Nat} {sr : Int32} {si sd sb : Nat → Int32} (h : rlM tn tu (k + 1) sr si sd sb) {r : Nat} (hr : r < 25) : fsM (fun j => decide (si j = nI r)) 1 k = sd r := by
  rcases h.2 r hr with ⟨_, c2, _, c4⟩ | ⟨_, j, a, b, c2, c3, _, c5⟩
  · rw [c2]
    exact fs_none _ _ (fun j a b => decide_eq_false (c4 j a (by omega)))
  · rw [c3]
    exact fs_some (decide_eq_true c2) _ _ a (by omega) (fun i a2 b2 => decide_eq_false (fun e => by have := c5 i a2 (by omega) e; omega))
/-- who said it, by the room -/
theorem sb_sp {tn : Nat} {tu : Nat → Nat} {k : Nat} {sr : Int32} {si sd sb : Nat → Int32} (h : rlM tn tu (k + 1) sr si sd sb) {r : Nat} (hr : r < 25) : (sd r = -9 ∧ sb r = -9) ∨ ∃ j, 1 ≤ j ∧ j ≤ k ∧ sd r = nI j ∧ sb r = pvT tn tu j := by
  rcases h.2 r hr with ⟨_, c2, c3, c4⟩ | ⟨_, j, a, b, c2, c3, c4, c5⟩
  · exact Or.inl ⟨c2, c3⟩
  · exact Or.inr ⟨j, a, by omega, c3, c4⟩
/-- the room said in a minute, as the reference finds it -/
def rsM (sd : Nat → Int32) (k : Nat) : Nat → Int32
  | 0 => 99
  | n + 1 => if sd n = nI k then nI n else rsM sd k n
theorem rs_none {sd : Nat → Int32} {k : Nat} : ∀ n, (∀ r, r < n → sd r ≠ nI k) → rsM sd k n = 99
  | 0, _ => rfl
  | n + 1, h => by rw [rsM, if_neg (h n (by omega)), rs_none n (fun r hr => h r (by omega))]
theorem rs_some {sd : Nat → Int32} {k q : Nat} (hq : sd q = nI k) : ∀ n, q < n → (∀ r, r < n → sd r = nI k → r = q) → rsM sd k n = nI q
  | 0, h1, _ => by omega
  | n + 1, h1, h => by
    rw [rsM]
    by_cases z : n = q
    · rw [z, if_pos hq]
    · rw [if_neg (fun w => z (h n (by omega) w))]
      exact rs_some hq n (by omega) (fun r hr => h r (by omega))
theorem rs_si {tn : Nat} {tu : Nat → Nat} {k : Nat} {sr : Int32} {si sd sb : Nat → Int32} (h : rlM tn tu (k + 1) sr si sd sb) (hk : k < 101) {j : Nat} (hj1 : 1 ≤ j) (hj : j < 1000) : rsM sd j 25 = if (if j ≤ k then si j else -9) = -9 then 99 else (if j ≤ k then si j else -9) := by
  have key : ∀ r, r < 25 → (sd r = nI j ↔ j ≤ k ∧ si j = nI r) := by
    intro r hr
    rcases h.2 r hr with ⟨_, c2, _, c4⟩ | ⟨_, i, a, b, c2, c3, _, c5⟩
    · rw [c2]
      exact ⟨fun w => absurd w.symm (nI_m9 j (by omega)), fun w => absurd w.2 (c4 j hj1 (by omega))⟩
    · rw [c3, nI_eq (by omega) (by omega)]
      exact ⟨fun w => by rw [← w]; exact ⟨by omega, c2⟩, fun w => (c5 j hj1 (by omega) w.2).symm⟩
  by_cases z : j ≤ k
  · rw [if_pos z]
    rcases h.1 j hj1 (by omega) with e | ⟨q, hq, e⟩
    · rw [e, if_pos rfl]
      exact rs_none _ (fun r hr w => by have := ((key r hr).mp w).2; rw [e] at this; exact nI_m9 r (by omega) this.symm)
    · rw [e, if_neg (nI_m9 q (by omega))]
      exact rs_some ((key q hq).mpr ⟨z, e⟩) _ hq (fun r hr w => by have := ((key r hr).mp w).2; rw [e] at this; exact ((nI_eq (by omega) (by omega)).mp this).symm)
  · rw [if_neg z, if_pos rfl]
    exact rs_none _ (fun r hr w => z ((key r hr).mp w).1)
