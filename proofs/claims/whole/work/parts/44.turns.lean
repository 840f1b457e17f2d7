/-! whose turn it is, in one word for both -/
def trM (a P : Nat) (kp : Nat → Bool) : Nat → Nat × (Nat → Nat)
  | 0 => (0, fun _ => 0)
  | i + 1 => if kp ((a + i) % P) = true then ((trM a P kp i).1 + 1, fun j => if j = (trM a P kp i).1 then (a + i) % P else (trM a P kp i).2 j) else trM a P kp i
theorem tr_le (a P : Nat) (kp : Nat → Bool) : ∀ i, (trM a P kp i).1 ≤ i
  | 0 => Nat.le_refl _
  | i + 1 => by
    have := tr_le a P kp i
    rw [trM]
    split
    · show (trM a P kp i).1 + 1 ≤ i + 1; omega
    · omega
theorem tr_lt {a P : Nat} {kp : Nat → Bool} (hP : 0 < P) : ∀ i j, j < (trM a P kp i).1 → (trM a P kp i).2 j < P
  | 0, j, h => absurd h (Nat.not_lt_zero _)
  | i + 1, j, h => by
    rw [trM] at h ⊢
    split at h
    · next z =>
      rw [if_pos z]
      show (if j = (trM a P kp i).1 then (a + i) % P else (trM a P kp i).2 j) < P
      have h' : j < (trM a P kp i).1 + 1 := h
      split
      · exact Nat.mod_lt _ hP
      · exact tr_lt hP i j (by omega)
    · next z =>
      rw [if_neg z]
      exact tr_lt hP i j h
theorem tr_congr {a P : Nat} {kp kp' : Nat → Bool} (h : ∀ i, kp i = kp' i) : ∀ i, trM a P kp i = trM a P kp' i
  | 0 => rfl
  | i + 1 => by rw [trM, trM, tr_congr h i, h]
theorem tr_congrP {a P : Nat} {kp kp' : Nat → Bool} (hP : 0 < P) (h : ∀ i, i < P → kp i = kp' i) : ∀ i, trM a P kp i = trM a P kp' i
  | 0 => rfl
  | i + 1 => by rw [trM, trM, tr_congrP hP h i, h _ (Nat.mod_lt _ hP)]
theorem tr_ls (B : Nat → Nat → Int32) (f P : Nat) (x : Int32) : ∀ i, lsC f P x i = (trM f P (bt x) i).1 ∧ ∀ j, j < lsC f P x i → lsB B f P x i 3 j = nI ((trM f P (bt x) i).2 j)
  | 0 => ⟨rfl, fun j h => absurd h (Nat.not_lt_zero _)⟩
  | i + 1 => by
    obtain ⟨h1, h2⟩ := tr_ls B f P x i
    rw [lsC, lsB, trM]
    by_cases z : bt x ((f + i) % P) = true
    · rw [if_pos z, if_pos z, if_pos z]
      refine ⟨by rw [h1], fun j hj => ?_⟩
      rw [upB_n _ _ _ (by omega), upB_s]
      show upd _ _ _ j = nI (if j = (trM f P (bt x) i).1 then (f + i) % P else (trM f P (bt x) i).2 j)
      by_cases e : j = lsC f P x i
      · rw [e, upd_s, if_pos h1]
      · rw [upd_n _ _ e, if_neg (fun w => e (by rw [h1]; exact w))]
        exact h2 j (by omega)
    · rw [if_neg z, if_neg z, if_neg z]
      exact ⟨h1, h2⟩
theorem tr_tf (M : Nat → Nat → Int32) (a P : Nat) (w : Int32) : ∀ i, tfC a P w i = (trM a P (fun p => !decide (nI p = w)) i).1 ∧ ∀ j, j < tfC a P w i → tfB M a P w i 11 j = nI ((trM a P (fun p => !decide (nI p = w)) i).2 j)
  | 0 => ⟨rfl, fun j h => absurd h (Nat.not_lt_zero _)⟩
  | i + 1 => by
    obtain ⟨h1, h2⟩ := tr_tf M a P w i
    rw [tfC, tfB, trM]
    by_cases z : nI ((a + i) % P) = w
    · rw [if_pos z, if_pos z, if_neg (by rw [decide_eq_true z]; decide)]
      exact ⟨h1, h2⟩
    · rw [if_neg z, if_neg z, if_pos (by rw [decide_eq_false z]; rfl)]
      refine ⟨by rw [h1], fun j hj => ?_⟩
      rw [upB_n _ _ _ (by omega), upB_s]
      show upd _ _ _ j = nI (if j = (trM a P (fun p => !decide (nI p = w)) i).1 then (a + i) % P else (trM a P (fun p => !decide (nI p = w)) i).2 j)
      by_cases e : j = tfC a P w i
      · rw [e, upd_s, if_pos h1]
      · rw [upd_n _ _ e, if_neg (fun y => e (by rw [h1]; exact y))]
        exact h2 j (by omega)
theorem all_bits : ∀ P, P ≤ 5 → ∀ i, i < 32 → bt (1 <<< (nI P &&& 31) - 1) i = decide (i < P) := by decide +kernel
theorem say_bit (h : Nat → Int32) (p r : Nat) : ∀ n, n ≤ 25 → bt (sayM h p n) r = (decide (r < n) && !decide (knB h p r = 0))
  | 0, _ => by rw [sayM, b_0]; simp
  | n + 1, hn => by
    have ih := say_bit h p r n (by omega)
    rw [sayM]
    by_cases z : r = n
    · rw [z] at ih ⊢
      split
      · next c => rw [ih, knB, if_pos (show h (57 + (25 * p + n)) < ndK (h (2 + n)) from c)]; simp
      · next c => rw [b_or, b_one n (by omega), ih, knB, if_neg (show ¬ h (57 + (25 * p + n)) < ndK (h (2 + n)) from c)]; simp
    · rw [show decide (r < n + 1) = decide (r < n) by apply decide_eq_decide.mpr; omega]
      split
      · exact ih
      · rw [b_or, b_one n (by omega), ih]; simp [z]
/-- a blaze that has looked at a house of P people -/
def loM (B : Nat → Nat → Int32) (h : Nat → Int32) (P : Nat) : Prop := lkM B h 25 ∧ B 8 0 = nI P ∧ ∀ p, p < P → B 2 p = sayM h p 25
/-- those who may speak, in their order -/
def spkM (B : Nat → Nat → Int32) (P tn : Nat) (tu : Nat → Nat) : Prop := B 8 1 = nI tn ∧ tn ≤ 5 ∧ ∀ j, j < tn → B 3 j = nI (tu j) ∧ tu j < P
theorem lo_ls {B : Nat → Nat → Int32} {h : Nat → Int32} {P : Nat} (hl : loM B h P) (f : Nat) (x : Int32) (i : Nat) : loM (lsB B f P x i) h P := by
  obtain ⟨h1, h2, h3⟩ := hl
  unfold loM lkM
  rw [lsB_n B f P x (by omega) (by omega), lsB_n B f P x (by omega) (by omega), lsB_8 B f P x (by omega), lsB_n B f P x (by omega) (by omega)]
  exact ⟨h1, h2, h3⟩
theorem spk_ls (B : Nat → Nat → Int32) {f P : Nat} (x : Int32) (hP5 : P ≤ 5) : spkM (lsB B f P x P) P (trM f P (bt x) P).1 (trM f P (bt x) P).2 := by
  have t := tr_ls B f P x P
  refine ⟨by rw [lsB_c, t.1], by have := tr_le f P (bt x) P; omega, fun j hj => ⟨t.2 j (by rw [t.1]; exact hj), ?_⟩⟩
  have := tr_le f P (bt x) P
  exact tr_lt (by omega) P j hj
theorem sp_pv {B : Nat → Nat → Int32} {P tn : Nat} {tu : Nat → Nat} (hs : spkM B P tn tu) (j : Nat) : spM B tn j = pvT tn tu j := by
  unfold spM pvT
  by_cases z : tn = 0
  · rw [if_pos z, if_pos z]
  · rw [if_neg z, if_neg z]
    exact (hs.2.2 _ (Nat.mod_lt _ (by omega))).1
theorem ab_bits {B : Nat → Nat → Int32} {h : Nat → Int32} {P tn : Nat} {tu : Nat → Nat} (hl : loM B h P) (hP5 : P ≤ 5) (hs : spkM B P tn tu) (k r : Nat) (hr : r < 25) : bt (abM B tn k) r = (!decide (tn = 0) && !decide (knB h (tu ((k - 1) % tn)) r = 0)) := by
  unfold abM
  rw [sp_pv hs]
  unfold pvT
  by_cases z : tn = 0
  · rw [if_pos z, sbM, if_pos (by decide), b_0, decide_eq_true z]; rfl
  · rw [if_neg z]
    have ht := (hs.2.2 ((k - 1) % tn) (Nat.mod_lt _ (by omega))).2
    rw [sbM, if_neg (nI_nn (by omega)), hl.2.1, if_neg (fun w => by have := (nI_leI (by omega) (by omega)).mp w; omega), nI_clamp (by omega), hl.2.2 _ ht, say_bit h _ r 25 (Nat.le_refl _), decide_eq_true hr, decide_eq_false z]
    rfl
