def stB (M : Nat → Nat → Int32) (i : Nat) (F : Nat → Int32) : Nat → Nat → Int32 := fun j => if j = i then F else M j
theorem md_w0 {g g2 : ca_G} {o : Nat} {f : Nat → Int32} {M : Nat → Nat → Int32} (h : mdG g o M) (hE : g2 (o + 1) = .inl (182, f)) (hF : ∀ j, j ≠ o + 1 → g2 j = g j) : mdG g2 o (stB M 0 f) := by
  obtain ⟨c0, c1, c2, c3, c4, c5, c6, c7, c8, c9, c10, c11, c12, c13⟩ := h
  exact ⟨(hF o (by omega)).trans c0, hE, (hF (o + 2) (by omega)).trans c2, (hF (o + 3) (by omega)).trans c3, (hF (o + 4) (by omega)).trans c4, (hF (o + 5) (by omega)).trans c5, (hF (o + 6) (by omega)).trans c6, (hF (o + 7) (by omega)).trans c7, (hF (o + 8) (by omega)).trans c8, (hF (o + 9) (by omega)).trans c9, (hF (o + 10) (by omega)).trans c10, (hF (o + 11) (by omega)).trans c11, (hF (o + 12) (by omega)).trans c12, (hF (o + 13) (by omega)).trans c13⟩
theorem md_w1 {g g2 : ca_G} {o : Nat} {f : Nat → Int32} {M : Nat → Nat → Int32} (h : mdG g o M) (hE : g2 (o + 2) = .inl (182, f)) (hF : ∀ j, j ≠ o + 2 → g2 j = g j) : mdG g2 o (stB M 1 f) := by
  obtain ⟨c0, c1, c2, c3, c4, c5, c6, c7, c8, c9, c10, c11, c12, c13⟩ := h
  exact ⟨(hF o (by omega)).trans c0, (hF (o + 1) (by omega)).trans c1, hE, (hF (o + 3) (by omega)).trans c3, (hF (o + 4) (by omega)).trans c4, (hF (o + 5) (by omega)).trans c5, (hF (o + 6) (by omega)).trans c6, (hF (o + 7) (by omega)).trans c7, (hF (o + 8) (by omega)).trans c8, (hF (o + 9) (by omega)).trans c9, (hF (o + 10) (by omega)).trans c10, (hF (o + 11) (by omega)).trans c11, (hF (o + 12) (by omega)).trans c12, (hF (o + 13) (by omega)).trans c13⟩
theorem md_w2 {g g2 : ca_G} {o : Nat} {f : Nat → Int32} {M : Nat → Nat → Int32} (h : mdG g o M) (hE : g2 (o + 3) = .inl (182, f)) (hF : ∀ j, j ≠ o + 3 → g2 j = g j) : mdG g2 o (stB M 2 f) := by
  obtain ⟨c0, c1, c2, c3, c4, c5, c6, c7, c8, c9, c10, c11, c12, c13⟩ := h
  exact ⟨(hF o (by omega)).trans c0, (hF (o + 1) (by omega)).trans c1, (hF (o + 2) (by omega)).trans c2, hE, (hF (o + 4) (by omega)).trans c4, (hF (o + 5) (by omega)).trans c5, (hF (o + 6) (by omega)).trans c6, (hF (o + 7) (by omega)).trans c7, (hF (o + 8) (by omega)).trans c8, (hF (o + 9) (by omega)).trans c9, (hF (o + 10) (by omega)).trans c10, (hF (o + 11) (by omega)).trans c11, (hF (o + 12) (by omega)).trans c12, (hF (o + 13) (by omega)).trans c13⟩
theorem md_w3 {g g2 : ca_G} {o : Nat} {f : Nat → Int32} {M : Nat → Nat → Int32} (h : mdG g o M) (hE : g2 (o + 4) = .inl (182, f)) (hF : ∀ j, j ≠ o + 4 → g2 j = g j) : mdG g2 o (stB M 3 f) := by
  obtain ⟨c0, c1, c2, c3, c4, c5, c6, c7, c8, c9, c10, c11, c12, c13⟩ := h
  exact ⟨(hF o (by omega)).trans c0, (hF (o + 1) (by omega)).trans c1, (hF (o + 2) (by omega)).trans c2, (hF (o + 3) (by omega)).trans c3, hE, (hF (o + 5) (by omega)).trans c5, (hF (o + 6) (by omega)).trans c6, (hF (o + 7) (by omega)).trans c7, (hF (o + 8) (by omega)).trans c8, (hF (o + 9) (by omega)).trans c9, (hF (o + 10) (by omega)).trans c10, (hF (o + 11) (by omega)).trans c11, (hF (o + 12) (by omega)).trans c12, (hF (o + 13) (by omega)).trans c13⟩
theorem md_w4 {g g2 : ca_G} {o : Nat} {f : Nat → Int32} {M : Nat → Nat → Int32} (h : mdG g o M) (hE : g2 (o + 5) = .inl (96, f)) (hF : ∀ j, j ≠ o + 5 → g2 j = g j) : mdG g2 o (stB M 4 f) := by
  obtain ⟨c0, c1, c2, c3, c4, c5, c6, c7, c8, c9, c10, c11, c12, c13⟩ := h
  exact ⟨(hF o (by omega)).trans c0, (hF (o + 1) (by omega)).trans c1, (hF (o + 2) (by omega)).trans c2, (hF (o + 3) (by omega)).trans c3, (hF (o + 4) (by omega)).trans c4, hE, (hF (o + 6) (by omega)).trans c6, (hF (o + 7) (by omega)).trans c7, (hF (o + 8) (by omega)).trans c8, (hF (o + 9) (by omega)).trans c9, (hF (o + 10) (by omega)).trans c10, (hF (o + 11) (by omega)).trans c11, (hF (o + 12) (by omega)).trans c12, (hF (o + 13) (by omega)).trans c13⟩
theorem md_w5 {g g2 : ca_G} {o : Nat} {f : Nat → Int32} {M : Nat → Nat → Int32} (h : mdG g o M) (hE : g2 (o + 6) = .inl (25, f)) (hF : ∀ j, j ≠ o + 6 → g2 j = g j) : mdG g2 o (stB M 5 f) := by
  obtain ⟨c0, c1, c2, c3, c4, c5, c6, c7, c8, c9, c10, c11, c12, c13⟩ := h
  exact ⟨(hF o (by omega)).trans c0, (hF (o + 1) (by omega)).trans c1, (hF (o + 2) (by omega)).trans c2, (hF (o + 3) (by omega)).trans c3, (hF (o + 4) (by omega)).trans c4, (hF (o + 5) (by omega)).trans c5, hE, (hF (o + 7) (by omega)).trans c7, (hF (o + 8) (by omega)).trans c8, (hF (o + 9) (by omega)).trans c9, (hF (o + 10) (by omega)).trans c10, (hF (o + 11) (by omega)).trans c11, (hF (o + 12) (by omega)).trans c12, (hF (o + 13) (by omega)).trans c13⟩
theorem md_w6 {g g2 : ca_G} {o : Nat} {f : Nat → Int32} {M : Nat → Nat → Int32} (h : mdG g o M) (hE : g2 (o + 7) = .inl (7, f)) (hF : ∀ j, j ≠ o + 7 → g2 j = g j) : mdG g2 o (stB M 6 f) := by
  obtain ⟨c0, c1, c2, c3, c4, c5, c6, c7, c8, c9, c10, c11, c12, c13⟩ := h
  exact ⟨(hF o (by omega)).trans c0, (hF (o + 1) (by omega)).trans c1, (hF (o + 2) (by omega)).trans c2, (hF (o + 3) (by omega)).trans c3, (hF (o + 4) (by omega)).trans c4, (hF (o + 5) (by omega)).trans c5, (hF (o + 6) (by omega)).trans c6, hE, (hF (o + 8) (by omega)).trans c8, (hF (o + 9) (by omega)).trans c9, (hF (o + 10) (by omega)).trans c10, (hF (o + 11) (by omega)).trans c11, (hF (o + 12) (by omega)).trans c12, (hF (o + 13) (by omega)).trans c13⟩
theorem md_w7 {g g2 : ca_G} {o : Nat} {f : Nat → Int32} {M : Nat → Nat → Int32} (h : mdG g o M) (hE : g2 (o + 8) = .inl (25, f)) (hF : ∀ j, j ≠ o + 8 → g2 j = g j) : mdG g2 o (stB M 7 f) := by
  obtain ⟨c0, c1, c2, c3, c4, c5, c6, c7, c8, c9, c10, c11, c12, c13⟩ := h
  exact ⟨(hF o (by omega)).trans c0, (hF (o + 1) (by omega)).trans c1, (hF (o + 2) (by omega)).trans c2, (hF (o + 3) (by omega)).trans c3, (hF (o + 4) (by omega)).trans c4, (hF (o + 5) (by omega)).trans c5, (hF (o + 6) (by omega)).trans c6, (hF (o + 7) (by omega)).trans c7, hE, (hF (o + 9) (by omega)).trans c9, (hF (o + 10) (by omega)).trans c10, (hF (o + 11) (by omega)).trans c11, (hF (o + 12) (by omega)).trans c12, (hF (o + 13) (by omega)).trans c13⟩
theorem md_w8 {g g2 : ca_G} {o : Nat} {f : Nat → Int32} {M : Nat → Nat → Int32} (h : mdG g o M) (hE : g2 (o + 9) = .inl (25, f)) (hF : ∀ j, j ≠ o + 9 → g2 j = g j) : mdG g2 o (stB M 8 f) := by
  obtain ⟨c0, c1, c2, c3, c4, c5, c6, c7, c8, c9, c10, c11, c12, c13⟩ := h
  exact ⟨(hF o (by omega)).trans c0, (hF (o + 1) (by omega)).trans c1, (hF (o + 2) (by omega)).trans c2, (hF (o + 3) (by omega)).trans c3, (hF (o + 4) (by omega)).trans c4, (hF (o + 5) (by omega)).trans c5, (hF (o + 6) (by omega)).trans c6, (hF (o + 7) (by omega)).trans c7, (hF (o + 8) (by omega)).trans c8, hE, (hF (o + 10) (by omega)).trans c10, (hF (o + 11) (by omega)).trans c11, (hF (o + 12) (by omega)).trans c12, (hF (o + 13) (by omega)).trans c13⟩
theorem md_w9 {g g2 : ca_G} {o : Nat} {f : Nat → Int32} {M : Nat → Nat → Int32} (h : mdG g o M) (hE : g2 (o + 10) = .inl (25, f)) (hF : ∀ j, j ≠ o + 10 → g2 j = g j) : mdG g2 o (stB M 9 f) := by
  obtain ⟨c0, c1, c2, c3, c4, c5, c6, c7, c8, c9, c10, c11, c12, c13⟩ := h
  exact ⟨(hF o (by omega)).trans c0, (hF (o + 1) (by omega)).trans c1, (hF (o + 2) (by omega)).trans c2, (hF (o + 3) (by omega)).trans c3, (hF (o + 4) (by omega)).trans c4, (hF (o + 5) (by omega)).trans c5, (hF (o + 6) (by omega)).trans c6, (hF (o + 7) (by omega)).trans c7, (hF (o + 8) (by omega)).trans c8, (hF (o + 9) (by omega)).trans c9, hE, (hF (o + 11) (by omega)).trans c11, (hF (o + 12) (by omega)).trans c12, (hF (o + 13) (by omega)).trans c13⟩
theorem md_w10 {g g2 : ca_G} {o : Nat} {f : Nat → Int32} {M : Nat → Nat → Int32} (h : mdG g o M) (hE : g2 (o + 11) = .inl (25, f)) (hF : ∀ j, j ≠ o + 11 → g2 j = g j) : mdG g2 o (stB M 10 f) := by
  obtain ⟨c0, c1, c2, c3, c4, c5, c6, c7, c8, c9, c10, c11, c12, c13⟩ := h
  exact ⟨(hF o (by omega)).trans c0, (hF (o + 1) (by omega)).trans c1, (hF (o + 2) (by omega)).trans c2, (hF (o + 3) (by omega)).trans c3, (hF (o + 4) (by omega)).trans c4, (hF (o + 5) (by omega)).trans c5, (hF (o + 6) (by omega)).trans c6, (hF (o + 7) (by omega)).trans c7, (hF (o + 8) (by omega)).trans c8, (hF (o + 9) (by omega)).trans c9, (hF (o + 10) (by omega)).trans c10, hE, (hF (o + 12) (by omega)).trans c12, (hF (o + 13) (by omega)).trans c13⟩
theorem md_w11 {g g2 : ca_G} {o : Nat} {f : Nat → Int32} {M : Nat → Nat → Int32} (h : mdG g o M) (hE : g2 (o + 12) = .inl (5, f)) (hF : ∀ j, j ≠ o + 12 → g2 j = g j) : mdG g2 o (stB M 11 f) := by
  obtain ⟨c0, c1, c2, c3, c4, c5, c6, c7, c8, c9, c10, c11, c12, c13⟩ := h
  exact ⟨(hF o (by omega)).trans c0, (hF (o + 1) (by omega)).trans c1, (hF (o + 2) (by omega)).trans c2, (hF (o + 3) (by omega)).trans c3, (hF (o + 4) (by omega)).trans c4, (hF (o + 5) (by omega)).trans c5, (hF (o + 6) (by omega)).trans c6, (hF (o + 7) (by omega)).trans c7, (hF (o + 8) (by omega)).trans c8, (hF (o + 9) (by omega)).trans c9, (hF (o + 10) (by omega)).trans c10, (hF (o + 11) (by omega)).trans c11, hE, (hF (o + 13) (by omega)).trans c13⟩
theorem md_w12 {g g2 : ca_G} {o : Nat} {f : Nat → Int32} {M : Nat → Nat → Int32} (h : mdG g o M) (hE : g2 (o + 13) = .inl (4, f)) (hF : ∀ j, j ≠ o + 13 → g2 j = g j) : mdG g2 o (stB M 12 f) := by
  obtain ⟨c0, c1, c2, c3, c4, c5, c6, c7, c8, c9, c10, c11, c12, c13⟩ := h
  exact ⟨(hF o (by omega)).trans c0, (hF (o + 1) (by omega)).trans c1, (hF (o + 2) (by omega)).trans c2, (hF (o + 3) (by omega)).trans c3, (hF (o + 4) (by omega)).trans c4, (hF (o + 5) (by omega)).trans c5, (hF (o + 6) (by omega)).trans c6, (hF (o + 7) (by omega)).trans c7, (hF (o + 8) (by omega)).trans c8, (hF (o + 9) (by omega)).trans c9, (hF (o + 10) (by omega)).trans c10, (hF (o + 11) (by omega)).trans c11, (hF (o + 12) (by omega)).trans c12, hE⟩
def cpM (f t : Nat → Int32) (n : Nat) : Nat → Int32 := fun j => if j < n then f j else t j
theorem cpM_0 (f t : Nat → Int32) : cpM f t 0 = t := by funext j; unfold cpM; rw [if_neg (by omega)]
theorem cpM_s (f t : Nat → Int32) (n : Nat) : upd (cpM f t n) n (f n) = cpM f t (n + 1) := by
  funext j
  by_cases e : j = n
  · subst e; rw [upd_s]; unfold cpM; rw [if_pos (by omega)]
  · rw [upd_n _ _ e]; unfold cpM
    by_cases q : j < n
    · rw [if_pos q, if_pos (by omega)]
    · rw [if_neg q, if_neg (by omega)]
theorem dcI_mx (x : Int32) : mxB 0 (x - 1) = dcI x := by
  unfold mxB dcI
  by_cases h : (0 : Int32) < x - 1
  · rw [if_pos h, if_pos (Int32.le_of_lt h)]
  · rw [if_neg h]
    by_cases h2 : (0 : Int32) ≤ x - 1
    · rw [if_pos h2]; exact Int32.le_antisymm (Int32.not_lt.mp h) h2
    · rw [if_neg h2]

set_option maxRecDepth 100000 in
set_option maxHeartbeats 4000000 in
theorem c_X6_lays (l : Launch) (N : Nat) (g : ca_G) (a c : Nat) (f t : Nat → Int32) (ha : g a = .inl (182, f)) (hc : g c = .inl (182, t)) (hai : a < N) (hci : c < N) (hac : a ≠ c) : ca_Ct l yX6_lays cX6_lays 3 none 0 0 0 N 1000000 [.ref a, .ref c] g (fun rr g' => rr = none ∧ g' c = .inl (182, cpM f t 182) ∧ ∀ j, j ≠ c → g' j = g j) := by
  refine ca_intro (by decide) (Nat.le_of_ble_eq_true rfl) (fun X hX hN => ?_)
  show X 0 [_, _, none] [] N 1000000 g
  have loop : ∀ (n i : Nat), i + n = 182 → ∀ g1 : ca_G, g1 a = .inl (182, f) → g1 c = .inl (182, cpM f t i) → (∀ j, j ≠ c → g1 j = g j) → X 2 [some (.ref a), some (.ref c), some (.int (nI i))] [] N 1000000 g1 := by
    intro n
    induction n with
    | zero =>
      intro i hi g ha hc hfr
      obtain rfl : i = 182 := by omega
      refine ca_iload_n hX (q := 3) 2 rfl rfl rfl dX6_lays_2 ?_
      refine ca_sipush hX (q := 6) k_sipush_182 rfl dX6_lays_3 ?_
      refine ca_icmp_ge hX (q := 9) 21 rfl rfl dX6_lays_6 (fun _ => ?_) (fun z => absurd (nI_le (a := 182) (b := 182) (by omega) (by omega)) z)
      refine ca_vret hX rfl rfl rfl rfl dX6_lays_21 ?_
      exact ⟨rfl, hc, hfr⟩
    | succ n ih =>
      intro i hi g ha hc hfr
      refine ca_iload_n hX (q := 3) 2 rfl rfl rfl dX6_lays_2 ?_
      refine ca_sipush hX (q := 6) k_sipush_182 rfl dX6_lays_3 ?_
      refine ca_icmp_ge hX (q := 9) 21 rfl rfl dX6_lays_6 (fun z => absurd z (nI_ge (a := i) (b := 182) (by omega) (by omega))) (fun _ => ?_)
      refine ca_aload_n hX (q := 10) 1 rfl rfl rfl dX6_lays_9 ?_
      refine ca_iload_n hX (q := 11) 2 rfl rfl rfl dX6_lays_10 ?_
      refine ca_aload_n hX (q := 12) 0 rfl rfl rfl dX6_lays_11 ?_
      refine ca_iload_n hX (q := 13) 2 rfl rfl rfl dX6_lays_12 ?_
      refine ca_iaN hX (q := 14) (k := i) hai ha (by decide) rfl (by omega) rfl dX6_lays_13 ?_
      refine ca_iaS hX (q := 15) (k := i) hci hN (Nat.le_refl _) hc (by decide) rfl (by omega) rfl dX6_lays_14 (fun g hE hF => ?_)
      have ha := (hF a hac).trans ha
      have hc := hE
      have hfr := fun j (hj : j ≠ c) => (hF j hj).trans (hfr j hj)
      refine ca_iinc hX (q := 18) (ls' := [_, _, _]) k_iconst_1 rfl (Nat.le_of_ble_eq_true rfl) (Or.inr rfl) rfl rfl dX6_lays_15 ?_
      refine ca_goto hX 2 rfl dX6_lays_18 ?_
      rw [nI_1]
      exact ih (i + 1) (by omega) g ha (by rw [← cpM_s]; exact hc) hfr
  refine ca_iconst hX (q := 1) k_iconst_0 rfl dX6_lays_0 ?_
  refine ca_istore_n hX (q := 2) 2 rfl (ls' := [_, _, _]) (Nat.le_of_ble_eq_true rfl) (Nat.le_of_ble_eq_true rfl) (Or.inr rfl) rfl rfl dX6_lays_1 ?_
  exact loop 182 0 (by omega) g ha (by rw [cpM_0]; exact hc) (fun _ _ => rfl)

set_option maxRecDepth 100000 in
set_option maxHeartbeats 4000000 in
theorem c_X6_night (l : Launch) (N : Nat) (g : ca_G) (t : Nat) (f : Nat → Int32) (ht : g t = .inl (182, f)) (hti : t < N) (P : Nat) (hP : f 0 = nI P) (hP5 : P ≤ 5) (hsh : ∀ p, p < P → ¬ f (52 + p) ≤ 0) : ca_Ct l yX6_night cX6_night 3 none 1 0 0 N 1000000 [.ref t] g (fun rr g' => rr = none ∧ g' t = .inl (182, nsM P f) ∧ ∀ j, j ≠ t → g' j = g j) := by
  refine ca_intro (by decide) (Nat.le_of_ble_eq_true rfl) (fun X hX hN => ?_)
  show X 0 [_, none, none] [] N 1000000 g
  obtain ⟨g0, hg0⟩ : ∃ g0, g0 = g := ⟨g, rfl⟩
  have loop : ∀ (n i : Nat), i + n = P → ∀ g1 : ca_G, g1 t = .inl (182, ngM (upd f 1 (f 1 + 1)) i) → (∀ j, j ≠ t → g1 j = g0 j) → ∀ x, X 9 [some (.ref t), some (.int (nI i)), x] [] N 1000000 g1 := by
    intro n
    induction n with
    | zero =>
      intro i hi g ht hfr x
      have ei : i = P := by omega
      have l0 : ngM (upd f 1 (f 1 + 1)) i 0 = nI P := by rw [ngM_lo _ (by omega), upd_n _ _ (by omega), hP]
      refine ca_iload_n hX (q := 10) 1 rfl rfl rfl dX6_night_9 ?_
      refine ca_aload_n hX (q := 11) 0 rfl rfl rfl dX6_night_10 ?_
      refine ca_iconst hX (q := 12) k_iconst_0 rfl dX6_night_11 ?_
      refine ca_iaN hX (q := 13) (k := 0) hti ht (by decide) rfl (by omega) rfl dX6_night_12 ?_
      refine ca_icmp_ge hX (q := 16) 69 rfl rfl dX6_night_13 (fun _ => ?_) (fun z => absurd (by rw [l0, ei]; exact nI_le (Nat.le_refl _) (by omega)) z)
      refine ca_vret hX rfl rfl rfl rfl dX6_night_69 ?_
      exact ⟨rfl, by rw [ei] at ht; exact ht, by rw [hg0] at hfr; exact hfr⟩
    | succ n ih =>
      intro i hi g ht hfr x
      have l0 : ngM (upd f 1 (f 1 + 1)) i 0 = nI P := by rw [ngM_lo _ (by omega), upd_n _ _ (by omega), hP]
      have l1 : ngM (upd f 1 (f 1 + 1)) i 1 = f 1 + 1 := by rw [ngM_lo _ (by omega), upd_s]
      have l5 : ngM (upd f 1 (f 1 + 1)) i (52 + i) = f (52 + i) := by rw [ngM_lo _ (by omega), upd_n _ _ (by omega)]
      have hpos := hsh i (by omega)
      have hne : ¬ f (52 + i) = 0 := fun q => hpos (by rw [q]; decide)
      by_cases hcd : f 1 + 1 - (f 1 + 1) / f (52 + i) * f (52 + i) = 0
      · have inner : ∀ (n2 j : Nat), j + n2 = 25 → ∀ g1 : ca_G, g1 t = .inl (182, fgM (ngM (upd f 1 (f 1 + 1)) i) i j) → (∀ j, j ≠ t → g1 j = g0 j) → X 18 [some (.ref t), some (.int (nI i)), some (.int (nI j))] [] N 1000000 g1 := by
          intro n2
          induction n2 with
          | zero =>
            intro j hj g ht hfr
            have hj25 : j = 25 := by omega
            refine ca_iload_n hX (q := 19) 2 rfl rfl rfl dX6_night_18 ?_
            refine ca_bipush hX (q := 21) k_bipush_25 rfl dX6_night_19 ?_
            refine ca_icmp_ge hX (q := 24) 63 rfl rfl dX6_night_21 (fun _ => ?_) (fun z => absurd (by rw [hj25]; exact nI_le (a := 25) (b := 25) (by omega) (by omega)) z)
            refine ca_iinc hX (q := 66) (ls' := [_, _, _]) k_iconst_1 rfl (Nat.le_of_ble_eq_true rfl) (Or.inr rfl) rfl rfl dX6_night_63 ?_
            refine ca_goto hX 9 rfl dX6_night_66 ?_
            rw [nI_1]
            exact ih (i + 1) (by omega) g (by rw [hj25] at ht; rw [ngM, l5, if_neg hpos, l1, if_neg (fun q => q hcd)]; exact ht) hfr _
          | succ n2 ih2 =>
            intro j hj g ht hfr
            refine ca_iload_n hX (q := 19) 2 rfl rfl rfl dX6_night_18 ?_
            refine ca_bipush hX (q := 21) k_bipush_25 rfl dX6_night_19 ?_
            refine ca_icmp_ge hX (q := 24) 63 rfl rfl dX6_night_21 (fun z => absurd z (nI_ge (a := j) (b := 25) (by omega) (by omega))) (fun _ => ?_)
            refine ca_aload_n hX (q := 25) 0 rfl rfl rfl dX6_night_24 ?_
            refine ca_iconst hX (q := 26) k_iconst_1 rfl dX6_night_25 ?_
            refine ca_iaN hX (q := 27) (k := 1) hti ht (by decide) (by decide) (by decide) rfl dX6_night_26 ?_
            refine ca_aload_n hX (q := 28) 0 rfl rfl rfl dX6_night_27 ?_
            refine ca_bipush hX (q := 30) k_bipush_52 rfl dX6_night_28 ?_
            refine ca_iload_n hX (q := 31) 1 rfl rfl rfl dX6_night_30 ?_
            refine ca_iadd hX (q := 32) rfl dX6_night_31 ?_
            refine ca_iaN hX (q := 33) (k := 52 + i) hti ht (by decide) (nI_add 52 i) (by omega) rfl dX6_night_32 ?_
            rw [fgM_lo _ _ _ (show 1 < 57 by omega), fgM_lo _ _ _ (show 52 + i < 57 by omega), l1, l5]
            refine ca_irem hX (q := 34) hne rfl dX6_night_33 ?_
            refine ca_if_ne hX (q := 37) 63 rfl rfl dX6_night_34 (fun z => absurd hcd z) (fun _ => ?_)
            refine ca_aload_n hX (q := 38) 0 rfl rfl rfl dX6_night_37 ?_
            refine ca_iload_n hX (q := 39) 1 rfl rfl rfl dX6_night_38 ?_
            refine ca_iload_n hX (q := 40) 2 rfl rfl rfl dX6_night_39 ?_
            refine ca_cSi hX (q := 43) y_X6_known w_ml_X6_64 hN (c_X6_known l N g i j) (by decide) rfl (Nat.le_of_ble_eq_true rfl) rfl dX6_night_40 rfl ?_
            refine ca_iconst hX (q := 44) k_iconst_0 rfl dX6_night_43 ?_
            refine ca_aload_n hX (q := 45) 0 rfl rfl rfl dX6_night_44 ?_
            refine ca_iload_n hX (q := 46) 1 rfl rfl rfl dX6_night_45 ?_
            refine ca_iload_n hX (q := 47) 2 rfl rfl rfl dX6_night_46 ?_
            refine ca_cSi hX (q := 50) y_X6_known w_ml_X6_64 hN (c_X6_known l N g i j) (by decide) rfl (Nat.le_of_ble_eq_true rfl) rfl dX6_night_47 rfl ?_
            refine ca_iaN hX (q := 51) (k := 57 + (25 * i + j)) hti ht (by decide) rfl (by omega) rfl dX6_night_50 ?_
            refine ca_iconst hX (q := 52) k_iconst_1 rfl dX6_night_51 ?_
            refine ca_isub hX (q := 53) rfl dX6_night_52 ?_
            refine ca_cSi hX (q := 56) y_X6_most w_ml_X6_72 hN (c_X6_most l N g _ _) (by decide) rfl (Nat.le_of_ble_eq_true rfl) rfl dX6_night_53 rfl ?_
            refine ca_iaS hX (q := 57) (k := 57 + (25 * i + j)) hti hN (Nat.le_refl _) ht (by decide) rfl (by omega) rfl dX6_night_56 (fun g hE hF => ?_)
            have ht := hE
            have hfr := fun j (hj : j ≠ t) => (hF j hj).trans (hfr j hj)
            refine ca_iinc hX (q := 60) (ls' := [_, _, _]) k_iconst_1 rfl (Nat.le_of_ble_eq_true rfl) (Or.inr rfl) rfl rfl dX6_night_57 ?_
            refine ca_goto hX 18 rfl dX6_night_60 ?_
            rw [nI_1]
            exact ih2 (j + 1) (by omega) g (by rw [← fgM_s, ← dcI_mx]; exact ht) hfr
        refine ca_iload_n hX (q := 10) 1 rfl rfl rfl dX6_night_9 ?_
        refine ca_aload_n hX (q := 11) 0 rfl rfl rfl dX6_night_10 ?_
        refine ca_iconst hX (q := 12) k_iconst_0 rfl dX6_night_11 ?_
        refine ca_iaN hX (q := 13) (k := 0) hti ht (by decide) rfl (by omega) rfl dX6_night_12 ?_
        refine ca_icmp_ge hX (q := 16) 69 rfl rfl dX6_night_13 (fun z => absurd z (by rw [l0]; exact nI_ge (by omega) (by omega))) (fun _ => ?_)
        refine ca_iconst hX (q := 17) k_iconst_0 rfl dX6_night_16 ?_
        refine ca_istore_n hX (q := 18) 2 rfl (ls' := [_, _, _]) (Nat.le_of_ble_eq_true rfl) (Nat.le_of_ble_eq_true rfl) (Or.inr rfl) rfl rfl dX6_night_17 ?_
        exact inner 25 0 (by omega) g (by rw [fgM_0]; exact ht) hfr
      · refine ca_iload_n hX (q := 10) 1 rfl rfl rfl dX6_night_9 ?_
        refine ca_aload_n hX (q := 11) 0 rfl rfl rfl dX6_night_10 ?_
        refine ca_iconst hX (q := 12) k_iconst_0 rfl dX6_night_11 ?_
        refine ca_iaN hX (q := 13) (k := 0) hti ht (by decide) rfl (by omega) rfl dX6_night_12 ?_
        refine ca_icmp_ge hX (q := 16) 69 rfl rfl dX6_night_13 (fun z => absurd z (by rw [l0]; exact nI_ge (by omega) (by omega))) (fun _ => ?_)
        refine ca_iconst hX (q := 17) k_iconst_0 rfl dX6_night_16 ?_
        refine ca_istore_n hX (q := 18) 2 rfl (ls' := [_, _, _]) (Nat.le_of_ble_eq_true rfl) (Nat.le_of_ble_eq_true rfl) (Or.inr rfl) rfl rfl dX6_night_17 ?_
        refine ca_iload_n hX (q := 19) 2 rfl rfl rfl dX6_night_18 ?_
        refine ca_bipush hX (q := 21) k_bipush_25 rfl dX6_night_19 ?_
        refine ca_icmp_ge hX (q := 24) 63 rfl rfl dX6_night_21 (fun z => absurd z (nI_ge (a := 0) (b := 25) (by omega) (by omega))) (fun _ => ?_)
        refine ca_aload_n hX (q := 25) 0 rfl rfl rfl dX6_night_24 ?_
        refine ca_iconst hX (q := 26) k_iconst_1 rfl dX6_night_25 ?_
        refine ca_iaN hX (q := 27) (k := 1) hti ht (by decide) rfl (by omega) rfl dX6_night_26 ?_
        refine ca_aload_n hX (q := 28) 0 rfl rfl rfl dX6_night_27 ?_
        refine ca_bipush hX (q := 30) k_bipush_52 rfl dX6_night_28 ?_
        refine ca_iload_n hX (q := 31) 1 rfl rfl rfl dX6_night_30 ?_
        refine ca_iadd hX (q := 32) rfl dX6_night_31 ?_
        refine ca_iaN hX (q := 33) (k := 52 + i) hti ht (by decide) (nI_add 52 i) (by omega) rfl dX6_night_32 ?_
        rw [l1, l5]
        refine ca_irem hX (q := 34) hne rfl dX6_night_33 ?_
        refine ca_if_ne hX (q := 37) 63 rfl rfl dX6_night_34 (fun _ => ?_) (fun z => absurd z hcd)
        refine ca_iinc hX (q := 66) (ls' := [_, _, _]) k_iconst_1 rfl (Nat.le_of_ble_eq_true rfl) (Or.inr rfl) rfl rfl dX6_night_63 ?_
        refine ca_goto hX 9 rfl dX6_night_66 ?_
        rw [nI_1]
        exact ih (i + 1) (by omega) g (by rw [ngM, l5, if_neg hpos, l1, if_pos hcd]; exact ht) hfr _
  have hfr : ∀ j, j ≠ t → g j = g0 j := fun j _ => by rw [hg0]
  refine ca_aload_n hX (q := 1) 0 rfl rfl rfl dX6_night_0 ?_
  refine ca_iconst hX (q := 2) k_iconst_1 rfl dX6_night_1 ?_
  refine ca_dup2 hX (q := 3) rfl rfl rfl dX6_night_2 ?_
  refine ca_iaN hX (q := 4) (k := 1) hti ht (by decide) rfl (by omega) rfl dX6_night_3 ?_
  refine ca_iconst hX (q := 5) k_iconst_1 rfl dX6_night_4 ?_
  refine ca_iadd hX (q := 6) rfl dX6_night_5 ?_
  refine ca_iaS hX (q := 7) (k := 1) hti hN (Nat.le_refl _) ht (by decide) rfl (by omega) rfl dX6_night_6 (fun g hE hF => ?_)
  have ht := hE
  have hfr := fun j (hj : j ≠ t) => (hF j hj).trans (hfr j hj)
  refine ca_iconst hX (q := 8) k_iconst_0 rfl dX6_night_7 ?_
  refine ca_istore_n hX (q := 9) 1 rfl (ls' := [_, _, _]) (Nat.le_of_ble_eq_true rfl) (Nat.le_of_ble_eq_true rfl) (Or.inr rfl) rfl rfl dX6_night_8 ?_
  exact loop P 0 (by omega) g ht hfr _

