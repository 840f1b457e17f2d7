/-! the fire by bits is the fire by minutes -/
def tfN (p : Nat → Bool) : Nat → Nat → Nat
  | _, 0 => 1000000000
  | s, n + 1 => if p s = true then s else tfN p (s + 1) n
theorem tfN_cases (p : Nat → Bool) : ∀ n s, (tfN p s n = 1000000000 ∧ ∀ k, s ≤ k → k < s + n → p k = false) ∨ (s ≤ tfN p s n ∧ tfN p s n < s + n ∧ p (tfN p s n) = true ∧ ∀ k, s ≤ k → k < tfN p s n → p k = false)
  | 0, s => Or.inl ⟨rfl, fun k h1 h2 => by omega⟩
  | n + 1, s => by
    rw [tfN]
    split
    · next h => exact Or.inr ⟨Nat.le_refl _, by omega, h, fun k h1 h2 => by omega⟩
    · next h =>
      have h' : p s = false := by simpa using h
      rcases tfN_cases p n (s + 1) with ⟨e, f⟩ | ⟨a, b, c, d⟩
      · refine Or.inl ⟨e, fun k h1 h2 => ?_⟩
        by_cases q : k = s
        · rw [q]; exact h'
        · exact f k (by omega) (by omega)
      · refine Or.inr ⟨by omega, by omega, c, fun k h1 h2 => ?_⟩
        by_cases q : k = s
        · rw [q]; exact h'
        · exact d k (by omega) h2
def tmM (ct : Nat → Int32) (s0 : Int32) (sr : Int32) (r : Nat) : Nat := tfN (fun k => bt (frM ct sr s0 k) r) 0 101
/-- the catching masks are those of these numbers -/
def msM (ct : Nat → Int32) (cat : Nat → Nat) : Prop := ∀ c, 1 ≤ c → c ≤ 4 → ∀ r, bt (ct c) r = (decide (r < 25) && decide (cat r = c))
theorem b_ka : ∀ i, i < 32 → bt (-17318417) i = !(decide (i % 5 = 4) && decide (i < 25)) := by decide +kernel
theorem b_kb : ∀ i, i < 32 → bt (-1082402) i = !(decide (i % 5 = 0) && decide (i < 25)) := by decide +kernel
theorem b_kc : ∀ i, i < 32 → bt 33554431 i = decide (i < 25) := by decide +kernel
theorem bs_bit {x : Int32} (hx : ∀ i, 25 ≤ i → bt x i = false) {r : Nat} (hr : r < 25) : bt (bsI x) r = ((decide (5 ≤ r) && bt x (r - 5)) || (decide (r % 5 ≠ 0) && bt x (r - 1)) || (decide (r % 5 ≠ 4) && bt x (r + 1)) || (decide (r < 20) && bt x (r + 5))) := by
  have e1 : ∀ y : Int32, bt (y <<< ((1 : Int32) &&& 31)) r = (decide (1 ≤ r) && bt y (r - 1)) := fun y => b_shl 1 (by omega) y (by omega)
  have e5 : ∀ y : Int32, bt (y <<< ((5 : Int32) &&& 31)) r = (decide (5 ≤ r) && bt y (r - 5)) := fun y => b_shl 5 (by omega) y (by omega)
  have f1 : ∀ y : Int32, bt (y >>> ((1 : Int32) &&& 31)) r = bt y (1 + r) := fun y => by
    have := b_sshr 1 (by omega) y (i := r) (by omega)
    rw [if_pos (by omega)] at this; exact this
  have f5 : ∀ y : Int32, bt (y >>> ((5 : Int32) &&& 31)) r = bt y (5 + r) := fun y => by
    have := b_sshr 5 (by omega) y (i := r) (by omega)
    rw [if_pos (by omega)] at this; exact this
  unfold bsI
  rw [b_and, b_or, b_or, b_or, e1, e5, f1, f5, b_and, b_and, b_ka (r - 1) (by omega), b_kb (1 + r) (by omega), b_kc r (by omega), Nat.add_comm 1 r, Nat.add_comm 5 r]
  have hA : (decide (1 ≤ r) && (bt x (r - 1) && !(decide ((r - 1) % 5 = 4) && decide (r - 1 < 25)))) = (decide (r % 5 ≠ 0) && bt x (r - 1)) := by
    by_cases h : r % 5 = 0
    · by_cases h1 : 1 ≤ r
      · have : (r - 1) % 5 = 4 := by omega
        simp [h, this, show r - 1 < 25 by omega]
      · simp [h, h1]
    · have : ¬ (r - 1) % 5 = 4 := by omega
      simp [h, this, show 1 ≤ r by omega]
  have hB : (bt x (r + 1) && !(decide ((r + 1) % 5 = 0) && decide (r + 1 < 25))) = (decide (r % 5 ≠ 4) && bt x (r + 1)) := by
    by_cases h : r % 5 = 4
    · by_cases h1 : r + 1 < 25
      · have : (r + 1) % 5 = 0 := by omega
        simp [h, this, h1]
      · rw [hx (r + 1) (by omega)]; simp
    · have : ¬ (r + 1) % 5 = 0 := by omega
      simp [h, this]
  have hC : bt x (r + 5) = (decide (r < 20) && bt x (r + 5)) := by
    by_cases h : r < 20
    · simp [h]
    · rw [hx (r + 5) (by omega)]; simp
  rw [hA, hB, ← hC]
  simp only [hr, decide_true, Bool.and_true]
  cases (decide (r % 5 ≠ 0) && bt x (r - 1)) <;> cases (decide (r % 5 ≠ 4) && bt x (r + 1)) <;> cases (decide (5 ≤ r) && bt x (r - 5)) <;> cases bt x (r + 5) <;> rfl
theorem bs_iff {x : Int32} (hx : ∀ i, 25 ≤ i → bt x i = false) {r : Nat} (hr : r < 25) : bt (bsI x) r = true ↔ ∃ w n, w < 4 ∧ n < 25 ∧ bsW r w = nI n ∧ bt x n = true := by
  rw [bs_bit hx hr]
  constructor
  · intro h
    simp only [Bool.or_eq_true, Bool.and_eq_true, decide_eq_true_eq] at h
    rcases h with ((h | h) | h) | h
    · exact ⟨0, r - 5, by omega, by omega, by rw [bsW, if_pos rfl, if_neg (by omega)], h.2⟩
    · exact ⟨1, r - 1, by omega, by omega, by rw [bsW, if_neg (by omega), if_pos rfl, if_neg h.1], h.2⟩
    · exact ⟨2, r + 1, by omega, by omega, by rw [bsW, if_neg (by omega), if_neg (by omega), if_pos rfl, if_neg h.1], h.2⟩
    · exact ⟨3, r + 5, by omega, by omega, by rw [bsW, if_neg (by omega), if_neg (by omega), if_neg (by omega), if_neg (by omega)], h.2⟩
  · rintro ⟨w, n, hw, hn, e, hb⟩
    have ne : ∀ k, k < 25 → nI k = nI n → k = n := fun k hk q => (nI_eq (by omega) (by omega)).mp q
    have n9 : ¬ (-9 : Int32) = nI n := fun q => nI_m9 n (by omega) q.symm
    simp only [Bool.or_eq_true, Bool.and_eq_true, decide_eq_true_eq]
    rw [bsW] at e
    split at e
    · split at e
      · exact absurd e n9
      · have := ne (r - 5) (by omega) e
        exact Or.inl (Or.inl (Or.inl ⟨by omega, by rw [this]; exact hb⟩))
    · split at e
      · split at e
        · exact absurd e n9
        · next q => exact Or.inl (Or.inl (Or.inr ⟨q, by rw [ne (r - 1) (by omega) e]; exact hb⟩))
      · split at e
        · split at e
          · exact absurd e n9
          · next q => exact Or.inl (Or.inr ⟨q, by rw [ne (r + 1) (by omega) e]; exact hb⟩)
        · split at e
          · exact absurd e n9
          · next q => exact Or.inr ⟨by omega, by rw [ne (r + 5) (by omega) e]; exact hb⟩
/-- the burning rooms so many minutes ago -/
theorem qb_back (ct : Nat → Int32) (sr s0 : Int32) : ∀ k, (qbM ct sr s0 k).2.1 = (if 1 ≤ k then bnM ct sr s0 (k - 1) else 0) ∧ (qbM ct sr s0 k).2.2.1 = (if 2 ≤ k then bnM ct sr s0 (k - 2) else 0) ∧ (qbM ct sr s0 k).2.2.2 = (if 3 ≤ k then bnM ct sr s0 (k - 3) else 0)
  | 0 => ⟨rfl, rfl, rfl⟩
  | k + 1 => by
    obtain ⟨h1, h2, h3⟩ := qb_back ct sr s0 k
    refine ⟨?_, ?_, ?_⟩
    · rw [if_pos (by omega)]; rfl
    · show (qbM ct sr s0 k).2.1 = _
      rw [h1]
      by_cases e : 1 ≤ k
      · rw [if_pos e, if_pos (by omega), show k + 1 - 2 = k - 1 by omega]
      · rw [if_neg e, if_neg (by omega)]
    · show (qbM ct sr s0 k).2.2.1 = _
      rw [h2]
      by_cases e : 2 ≤ k
      · rw [if_pos e, if_pos (by omega), show k + 1 - 3 = k - 2 by omega]
      · rw [if_neg e, if_neg (by omega)]
/-- what catches fire -/
theorem fr_iff {ct : Nat → Int32} {cat : Nat → Nat} (hm : msM ct cat) {sr s0 : Int32} {k r : Nat} (hr : r < 25) : bt (frM ct sr s0 (k + 1)) r = true ↔ (1 ≤ cat r ∧ cat r ≤ 4 ∧ cat r ≤ k + 1 ∧ bt (bsI (bnM ct sr s0 (k + 1 - cat r))) r = true ∧ bt (bnM ct sr s0 k) r = false ∧ bt sr r = false) := by
  obtain ⟨h1, h2, h3⟩ := qb_back ct sr s0 k
  have z : ∀ c, 1 ≤ c → c ≤ 4 → bt (ct c) r = decide (cat r = c) := fun c a b => by rw [hm c a b r]; simp [hr]
  have h0 : (qbM ct sr s0 k).1 = bnM ct sr s0 k := rfl
  rw [frM, fxM, b_and, b_and, b_not _ (by omega), b_not _ (by omega), b_or, b_or, b_or, b_or, b_and, b_and, b_and, b_and, b_0, z 1 (by omega) (by omega), z 2 (by omega) (by omega), z 3 (by omega) (by omega), z 4 (by omega) (by omega), h0, h1, h2, h3]
  simp only [Bool.and_eq_true, Bool.or_eq_true, Bool.not_eq_true', Bool.false_or, decide_eq_true_eq]
  constructor
  · rintro ⟨⟨((⟨c, h⟩ | ⟨c, h⟩) | ⟨c, h⟩) | ⟨c, h⟩, p⟩, q⟩
    · rw [c]; exact ⟨by omega, by omega, by omega, h, p, q⟩
    · rw [c]
      by_cases e : 1 ≤ k
      · rw [if_pos e] at h; exact ⟨by omega, by omega, by omega, by rw [show k + 1 - 2 = k - 1 by omega]; exact h, p, q⟩
      · rw [if_neg e, bs_0, b_0] at h; simp at h
    · rw [c]
      by_cases e : 2 ≤ k
      · rw [if_pos e] at h; exact ⟨by omega, by omega, by omega, by rw [show k + 1 - 3 = k - 2 by omega]; exact h, p, q⟩
      · rw [if_neg e, bs_0, b_0] at h; simp at h
    · rw [c]
      by_cases e : 3 ≤ k
      · rw [if_pos e] at h; exact ⟨by omega, by omega, by omega, by rw [show k + 1 - 4 = k - 3 by omega]; exact h, p, q⟩
      · rw [if_neg e, bs_0, b_0] at h; simp at h
  · rintro ⟨a, b, c, h, p, q⟩
    refine ⟨⟨?_, p⟩, q⟩
    have : cat r = 1 ∨ cat r = 2 ∨ cat r = 3 ∨ cat r = 4 := by omega
    rcases this with e | e | e | e
    · rw [e] at h; exact Or.inl (Or.inl (Or.inl ⟨e, h⟩))
    · rw [e, show k + 1 - 2 = k - 1 by omega] at h; rw [if_pos (by omega)]; exact Or.inl (Or.inl (Or.inr ⟨e, h⟩))
    · rw [e, show k + 1 - 3 = k - 2 by omega] at h; rw [if_pos (show 2 ≤ k by omega)]; exact Or.inl (Or.inr ⟨e, h⟩)
    · rw [e, show k + 1 - 4 = k - 3 by omega] at h; rw [if_pos (show 3 ≤ k by omega)]; exact Or.inr ⟨e, h⟩
theorem bn_big {ct : Nat → Int32} {cat : Nat → Nat} (hm : msM ct cat) {sr : Int32} {r0 : Nat} (hr0 : r0 < 25) : ∀ k i, 25 ≤ i → bt (bnM ct sr (1 <<< (nI r0 &&& 31)) k) i = false
  | 0, i, h => by
    show bt (1 <<< (nI r0 &&& 31)) i = false
    rw [b_one r0 (by omega)]; exact decide_eq_false (by omega)
  | k + 1, i, h => by
    have z : ∀ c, 1 ≤ c → c ≤ 4 → bt (ct c) i = false := fun c a b => by rw [hm c a b i]; simp; omega
    rw [bnM_s, b_or, bn_big hm hr0 k i h, frM, fxM, b_and, b_and, b_or, b_or, b_or, b_or, b_and, b_and, b_and, b_and, b_0, z 1 (by omega) (by omega), z 2 (by omega) (by omega), z 3 (by omega) (by omega), z 4 (by omega) (by omega)]
    simp
theorem bn_iff {ct : Nat → Int32} {sr s0 : Int32} {r : Nat} : ∀ k, bt (bnM ct sr s0 k) r = true ↔ ∃ j, j ≤ k ∧ bt (frM ct sr s0 j) r = true
  | 0 => ⟨fun h => ⟨0, Nat.le_refl _, h⟩, fun ⟨j, h1, h2⟩ => by have e : j = 0 := by omega
                                                                rw [e] at h2; exact h2⟩
  | k + 1 => by
    rw [bnM_s, b_or, Bool.or_eq_true, bn_iff k]
    constructor
    · rintro (⟨j, h1, h2⟩ | h)
      · exact ⟨j, by omega, h2⟩
      · exact ⟨k + 1, Nat.le_refl _, h⟩
    · rintro ⟨j, h1, h2⟩
      by_cases e : j = k + 1
      · rw [e] at h2; exact Or.inr h2
      · exact Or.inl ⟨j, by omega, h2⟩
theorem fr_one {ct : Nat → Int32} {sr s0 : Int32} {r j k : Nat} (hr : r < 32) (h1 : bt (frM ct sr s0 j) r = true) (h2 : bt (frM ct sr s0 k) r = true) : ¬ j < k := by
  intro h
  obtain ⟨n, rfl⟩ : ∃ n, k = n + 1 := ⟨k - 1, by omega⟩
  have := (fr_bit hr h2).1
  rw [(bn_iff n).mpr ⟨j, by omega, h1⟩] at this
  exact absurd this (by decide)
theorem tm_of {ct : Nat → Int32} {sr s0 : Int32} {r k : Nat} (hr : r < 32) (hk : k ≤ 100) (h : bt (frM ct sr s0 k) r = true) : tmM ct s0 sr r = k := by
  rcases tfN_cases (fun k => bt (frM ct sr s0 k) r) 101 0 with ⟨_, f⟩ | ⟨_, b, c, d⟩
  · have := f k (by omega) (by omega); rw [h] at this; exact absurd this (by decide)
  · have e1 := fr_one hr h c
    have e2 := fr_one hr c h
    unfold tmM; omega
theorem tm_fr {ct : Nat → Int32} {sr s0 : Int32} {r : Nat} (h : tmM ct s0 sr r < 1000000000) : tmM ct s0 sr r ≤ 100 ∧ bt (frM ct sr s0 (tmM ct s0 sr r)) r = true := by
  unfold tmM at h ⊢
  rcases tfN_cases (fun k => bt (frM ct sr s0 k) r) 101 0 with ⟨e, _⟩ | ⟨_, b, c, d⟩
  · omega
  · exact ⟨by omega, c⟩
theorem tm_le (ct : Nat → Int32) (sr s0 : Int32) (r : Nat) : tmM ct s0 sr r ≤ 1000000000 := by
  rcases Nat.lt_or_ge (tmM ct s0 sr r) 1000000000 with h | h
  · omega
  · unfold tmM at h ⊢
    rcases tfN_cases (fun k => bt (frM ct sr s0 k) r) 101 0 with ⟨e, _⟩ | ⟨_, b, c, d⟩ <;> omega
theorem tm_bn {ct : Nat → Int32} {sr s0 : Int32} {r k : Nat} (hr : r < 32) (hk : k ≤ 100) : bt (bnM ct sr s0 k) r = true ↔ tmM ct s0 sr r ≤ k := by
  rw [bn_iff]
  constructor
  · rintro ⟨j, h1, h2⟩
    rw [tm_of hr (by omega) h2]; exact h1
  · intro h
    exact ⟨tmM ct s0 sr r, h, (tm_fr (by omega)).2⟩
/-- a room beside a burning one burns in its time -/
theorem tm_up {ct : Nat → Int32} {cat : Nat → Nat} (hm : msM ct cat) {sr : Int32} {r0 : Nat} (hr0 : r0 < 25) {r n w : Nat} (hr : r < 25) (hn : n < 25) (hw : w < 4) (e : bsW r w = nI n) (hs : bt sr r = false) (h1 : 1 ≤ cat r) (h4 : cat r ≤ 4) (hb : tmM ct (1 <<< (nI r0 &&& 31)) sr n + cat r ≤ 100) : tmM ct (1 <<< (nI r0 &&& 31)) sr r ≤ tmM ct (1 <<< (nI r0 &&& 31)) sr n + cat r := by
  obtain ⟨k, hk⟩ : ∃ k, tmM ct (1 <<< (nI r0 &&& 31)) sr n + cat r = k + 1 := ⟨tmM ct (1 <<< (nI r0 &&& 31)) sr n + cat r - 1, by omega⟩
  rw [hk]
  by_cases hbn : bt (bnM ct sr (1 <<< (nI r0 &&& 31)) k) r = true
  · have := (tm_bn (by omega) (by omega)).mp hbn; omega
  · have hf : bt (frM ct sr (1 <<< (nI r0 &&& 31)) (k + 1)) r = true := (fr_iff hm hr).mpr ⟨h1, h4, by omega, (bs_iff (fun i hi => bn_big hm hr0 _ i hi) hr).mpr ⟨w, n, hw, hn, e, (tm_bn (by omega) (by omega)).mpr (by omega)⟩, by simpa using hbn, hs⟩
    rw [tm_of (by omega) (by omega) hf]; exact Nat.le_refl _
/-- a room that caught fire caught it from one beside it -/
theorem tm_dn {ct : Nat → Int32} {cat : Nat → Nat} (hm : msM ct cat) {sr : Int32} {r0 : Nat} (hr0 : r0 < 25) {r : Nat} (hr : r < 25) (h0 : 1 ≤ tmM ct (1 <<< (nI r0 &&& 31)) sr r) (hf : tmM ct (1 <<< (nI r0 &&& 31)) sr r < 1000000000) : bt sr r = false ∧ 1 ≤ cat r ∧ cat r ≤ 4 ∧ ∃ w n, w < 4 ∧ n < 25 ∧ bsW r w = nI n ∧ tmM ct (1 <<< (nI r0 &&& 31)) sr n < 1000000000 ∧ tmM ct (1 <<< (nI r0 &&& 31)) sr r = tmM ct (1 <<< (nI r0 &&& 31)) sr n + cat r := by
  obtain ⟨hle, hb⟩ := tm_fr hf
  obtain ⟨k, hk⟩ : ∃ k, tmM ct (1 <<< (nI r0 &&& 31)) sr r = k + 1 := ⟨tmM ct (1 <<< (nI r0 &&& 31)) sr r - 1, by omega⟩
  rw [hk] at hb
  obtain ⟨c1, c4, ck, h, p, q⟩ := (fr_iff hm hr).mp hb
  obtain ⟨w, n, hw, hn, e, hbn⟩ := (bs_iff (fun i hi => bn_big hm hr0 _ i hi) hr).mp h
  have t1 := (tm_bn (by omega) (by omega)).mp hbn
  have t2 := tm_up hm hr0 hr hn hw e q c1 c4 (by omega)
  exact ⟨q, c1, c4, w, n, hw, hn, e, by omega, by omega⟩
def cN (p : Nat → Bool) : Nat → Nat
  | 0 => 0
  | n + 1 => cN p n + if p n = true then 1 else 0
theorem cN_mono {p q : Nat → Bool} : ∀ n, (∀ i, i < n → p i = true → q i = true) → cN p n ≤ cN q n
  | 0, _ => Nat.le_refl _
  | n + 1, h => by
    have ih := cN_mono n (fun i hi => h i (by omega))
    have := h n (by omega)
    rw [cN, cN]
    by_cases e : p n = true
    · rw [if_pos e, if_pos (this e)]; omega
    · rw [if_neg e]; omega
theorem cN_lt {p q : Nat → Bool} : ∀ n k, k < n → (∀ i, i < n → p i = true → q i = true) → p k = false → q k = true → cN p n < cN q n
  | 0, k, hk, _, _, _ => by omega
  | n + 1, k, hk, h, h1, h2 => by
    rw [cN, cN]
    by_cases e : k = n
    · rw [← e, h1, h2, if_neg (by decide), if_pos rfl, e]
      have := cN_mono n (fun i hi => h i (by omega)); omega
    · have ih := cN_lt n k (by omega) (fun i hi => h i (by omega)) h1 h2
      have := h n (by omega)
      by_cases e : p n = true
      · rw [if_pos e, if_pos (this e)]; omega
      · rw [if_neg e]; omega
theorem cN_all : ∀ n, cN (fun _ => true) n = n
  | 0 => rfl
  | n + 1 => by rw [cN, cN_all n]; simp
theorem tm_96 {ct : Nat → Int32} {cat : Nat → Nat} (hm : msM ct cat) {sr : Int32} {r0 : Nat} (hr0 : r0 < 25) {r : Nat} (hr : r < 25) (hf : tmM ct (1 <<< (nI r0 &&& 31)) sr r < 1000000000) : tmM ct (1 <<< (nI r0 &&& 31)) sr r ≤ 96 := by
  have key : ∀ k r, r < 25 → tmM ct (1 <<< (nI r0 &&& 31)) sr r = k → k < 1000000000 → k ≤ 4 * cN (fun q => decide (tmM ct (1 <<< (nI r0 &&& 31)) sr q < k)) 25 := by
    intro k
    induction k using Nat.strongRecOn with
    | _ k ih =>
      intro r hr e hk
      by_cases h0 : k = 0
      · omega
      · obtain ⟨_, c1, c4, w, n, hw, hn, _, t1, t2⟩ := tm_dn (sr := sr) hm hr0 hr (by omega) (by omega)
        have i1 := ih (tmM ct (1 <<< (nI r0 &&& 31)) sr n) (by omega) n hn rfl t1
        have i2 := cN_lt (p := fun q => decide (tmM ct (1 <<< (nI r0 &&& 31)) sr q < tmM ct (1 <<< (nI r0 &&& 31)) sr n)) (q := fun q => decide (tmM ct (1 <<< (nI r0 &&& 31)) sr q < k)) 25 n hn (fun i _ h => by simp only [decide_eq_true_eq] at h ⊢; omega) (by simp) (by simp only [decide_eq_true_eq]; omega)
        omega
  have i1 := key _ r hr rfl hf
  have i2 := cN_lt (p := fun q => decide (tmM ct (1 <<< (nI r0 &&& 31)) sr q < tmM ct (1 <<< (nI r0 &&& 31)) sr r)) (q := fun _ => true) 25 r hr (fun _ _ _ => rfl) (by simp) rfl
  rw [cN_all] at i2
  omega
theorem tm_0 {ct : Nat → Int32} {sr : Int32} {r0 : Nat} (hr0 : r0 < 25) {r : Nat} (hr : r < 25) : tmM ct (1 <<< (nI r0 &&& 31)) sr r = 0 ↔ r = r0 := by
  have e : ∀ q, bt (frM ct sr (1 <<< (nI r0 &&& 31)) 0) q = decide (q = r0) := fun q => b_one r0 (by omega) q
  constructor
  · intro h
    have := (tm_fr (ct := ct) (sr := sr) (s0 := 1 <<< (nI r0 &&& 31)) (r := r) (by omega)).2
    rw [h, e] at this
    simpa using this
  · intro h
    exact tm_of (by omega) (by omega) (by rw [e]; simpa using h)
theorem nI_nn {k : Nat} (h : k < 2 ^ 31) : ¬ nI k < 0 := by
  intro q
  exact absurd ((nI_ltI (a := k) (b := 0) h (by omega)).mp q) (by omega)
/-- the minutes are what the reference wants them to be -/
theorem tt_ok {ct : Nat → Int32} {cat : Nat → Nat} (hm : msM ct cat) (hc4 : ∀ r, r < 25 → cat r ≤ 4) {r0 : Nat} (hr0 : r0 < 25) : ttM (tmM ct (1 <<< (nI r0 &&& 31))) (fun _ => True) cat r0 := by
  refine ⟨trivial, fun q hq => ?_, fun sr q _ hq h => (tm_fr h).1, fun sr m bu sd _ hm1 hbu hsd => ?_, fun sr m r _ hm1 hr h1 h2 => ⟨trivial, fun q hq => ?_⟩⟩
  · unfold buT
    by_cases e : q = r0
    · rw [if_pos e, (tm_0 hr0 hq).mpr e, if_pos (by omega)]; rfl
    · have := mt (tm_0 (ct := ct) (sr := 0) hr0 hq).mp e
      rw [if_neg e, if_neg (by omega)]
  · have neg : ∀ r, r < 25 → (bu r < 0 ↔ m ≤ tmM ct (1 <<< (nI r0 &&& 31)) sr r) := by
      intro r hr
      have := tm_le ct sr (1 <<< (nI r0 &&& 31)) r
      rw [hbu r hr, buT]
      split
      · next h => exact ⟨fun z => absurd z (nI_nn (by omega)), fun z => by omega⟩
      · next h => exact ⟨fun _ => by omega, fun _ => by decide⟩
    refine ⟨fun r _ => tm_le _ _ _ _, fun r hr h => ?_, fun r hr hb h => ?_, fun r w n hr hb hs hc hw hn e hf => ?_, fun r hr hb hf => ?_⟩
    · have h' : tmM ct (1 <<< (nI r0 &&& 31)) sr r < m := by have := mt (neg r hr).mpr h; omega
      exact ⟨by rw [hbu r hr, buT, if_pos h'], by omega⟩
    · have hb' := (neg r hr).mp hb
      rcases Nat.lt_or_ge (tmM ct (1 <<< (nI r0 &&& 31)) sr r) 1000000000 with hf | hf
      · obtain ⟨q, c1, c4, _⟩ := tm_dn hm hr0 hr (by omega) hf
        rcases h with h | h
        · exact absurd ((hsd r hr).mpr q) h
        · omega
      · have := tm_le ct sr (1 <<< (nI r0 &&& 31)) r; omega
    · have := tm_96 hm hr0 hn hf
      have := hc4 r hr
      exact tm_up hm hr0 hr hn hw e ((hsd r hr).mp hs) (by omega) (by omega) (by omega)
    · have hb' := (neg r hr).mp hb
      obtain ⟨_, _, _, w, n, a1, a2, a3, a4, a5⟩ := tm_dn hm hr0 hr (by omega) hf
      exact ⟨w, n, a1, a2, a3, a4, a5⟩
  · have hf := tm_fr h2
    have hbn : bt (bnM ct sr (1 <<< (nI r0 &&& 31)) (m - 1)) r = false := by
      have := mt (tm_bn (ct := ct) (sr := sr) (s0 := 1 <<< (nI r0 &&& 31)) (r := r) (k := m - 1) (by omega) (by omega)).mp (by omega)
      simpa using this
    have same : ∀ j, j < m → frM ct (sr ||| 1 <<< (nI r &&& 31)) (1 <<< (nI r0 &&& 31)) j = frM ct sr (1 <<< (nI r0 &&& 31)) j := by
      intro j hj
      cases j with
      | zero => rfl
      | succ j =>
        have h3 := bn_mono (ct := ct) (sr := sr) (s0 := 1 <<< (nI r0 &&& 31)) (i := r) (j + 1) (m - 1 - (j + 1)) (by rw [show j + 1 + (m - 1 - (j + 1)) = m - 1 by omega]; exact hbn)
        rw [bnM_s, b_or] at h3
        simp only [Bool.or_eq_false_iff] at h3
        rw [frM, frM, qb_same (by omega) j h3.1, fx_same (by omega) (by have := h3.2; rw [frM] at this; exact this)]
    unfold buT
    by_cases e : tmM ct (1 <<< (nI r0 &&& 31)) sr q < m
    · have h3 := (tm_fr (ct := ct) (sr := sr) (s0 := 1 <<< (nI r0 &&& 31)) (r := q) (by omega))
      rw [← same _ e] at h3
      rw [tm_of (by omega) h3.1 h3.2]
    · have : ¬ tmM ct (1 <<< (nI r0 &&& 31)) (sr ||| 1 <<< (nI r &&& 31)) q < m := by
        intro z
        have h3 := (tm_fr (ct := ct) (sr := sr ||| 1 <<< (nI r &&& 31)) (s0 := 1 <<< (nI r0 &&& 31)) (r := q) (by omega))
        have h4 := h3.2
        rw [same _ z] at h4
        have := tm_of (by omega) h3.1 h4
        omega
      rw [if_neg e, if_neg this]
