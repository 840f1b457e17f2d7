/-! the reference in the cells: M 0 s, 1 m, 2 image, 3 was, 4 letters, 5 row, 6 refused, 7 burnt, 8 soonest, 9 said in, 10 said by, 11 turns, 12 numbers; M 13: has an image, letters, row, turns, silent, place, seed -/
def mdG (g : ca_G) (o : Nat) (M : Nat → Nat → Int32) : Prop :=
  g o = .inr (5, [.ref (o + 1), .ref (o + 2), .ref (o + 3), .ref (o + 4), .int (M 13 0), .ref (o + 5), .ref (o + 6), .ref (o + 7), .int (M 13 1), .int (M 13 2), .ref (o + 8), .ref (o + 9), .ref (o + 10), .ref (o + 11), .ref (o + 12), .int (M 13 3), .int (M 13 4), .int (M 13 5), .ref (o + 13), .int (M 13 6)]) ∧
  g (o + 1) = .inl (182, M 0) ∧ g (o + 2) = .inl (182, M 1) ∧ g (o + 3) = .inl (182, M 2) ∧ g (o + 4) = .inl (182, M 3) ∧ g (o + 5) = .inl (96, M 4) ∧ g (o + 6) = .inl (25, M 5) ∧ g (o + 7) = .inl (7, M 6) ∧ g (o + 8) = .inl (25, M 7) ∧ g (o + 9) = .inl (25, M 8) ∧ g (o + 10) = .inl (25, M 9) ∧ g (o + 11) = .inl (25, M 10) ∧ g (o + 12) = .inl (5, M 11) ∧ g (o + 13) = .inl (4, M 12)
theorem mdG.fr {g g' : ca_G} {o lo hi : Nat} {M : Nat → Nat → Int32} (h : mdG g o M) (f : frG g g' lo hi) (hd : o + 14 ≤ lo ∨ hi ≤ o) : mdG g' o M := by
  obtain ⟨c0, c1, c2, c3, c4, c5, c6, c7, c8, c9, c10, c11, c12, c13⟩ := h
  exact ⟨(f o (by omega)).trans c0, (f (o + 1) (by omega)).trans c1, (f (o + 2) (by omega)).trans c2, (f (o + 3) (by omega)).trans c3, (f (o + 4) (by omega)).trans c4, (f (o + 5) (by omega)).trans c5, (f (o + 6) (by omega)).trans c6, (f (o + 7) (by omega)).trans c7, (f (o + 8) (by omega)).trans c8, (f (o + 9) (by omega)).trans c9, (f (o + 10) (by omega)).trans c10, (f (o + 11) (by omega)).trans c11, (f (o + 12) (by omega)).trans c12, (f (o + 13) (by omega)).trans c13⟩
theorem md_a0 {g g2 : ca_G} {o k : Nat} {x : Int32} {M : Nat → Nat → Int32} (h : mdG g o M) (hE : g2 (o + 1) = .inl (182, upd (M 0) k x)) (hF : ∀ j, j ≠ o + 1 → g2 j = g j) : mdG g2 o (upB M 0 k x) := by
  obtain ⟨c0, c1, c2, c3, c4, c5, c6, c7, c8, c9, c10, c11, c12, c13⟩ := h
  exact ⟨(hF o (by omega)).trans c0, hE, (hF (o + 2) (by omega)).trans c2, (hF (o + 3) (by omega)).trans c3, (hF (o + 4) (by omega)).trans c4, (hF (o + 5) (by omega)).trans c5, (hF (o + 6) (by omega)).trans c6, (hF (o + 7) (by omega)).trans c7, (hF (o + 8) (by omega)).trans c8, (hF (o + 9) (by omega)).trans c9, (hF (o + 10) (by omega)).trans c10, (hF (o + 11) (by omega)).trans c11, (hF (o + 12) (by omega)).trans c12, (hF (o + 13) (by omega)).trans c13⟩
theorem md_a1 {g g2 : ca_G} {o k : Nat} {x : Int32} {M : Nat → Nat → Int32} (h : mdG g o M) (hE : g2 (o + 2) = .inl (182, upd (M 1) k x)) (hF : ∀ j, j ≠ o + 2 → g2 j = g j) : mdG g2 o (upB M 1 k x) := by
  obtain ⟨c0, c1, c2, c3, c4, c5, c6, c7, c8, c9, c10, c11, c12, c13⟩ := h
  exact ⟨(hF o (by omega)).trans c0, (hF (o + 1) (by omega)).trans c1, hE, (hF (o + 3) (by omega)).trans c3, (hF (o + 4) (by omega)).trans c4, (hF (o + 5) (by omega)).trans c5, (hF (o + 6) (by omega)).trans c6, (hF (o + 7) (by omega)).trans c7, (hF (o + 8) (by omega)).trans c8, (hF (o + 9) (by omega)).trans c9, (hF (o + 10) (by omega)).trans c10, (hF (o + 11) (by omega)).trans c11, (hF (o + 12) (by omega)).trans c12, (hF (o + 13) (by omega)).trans c13⟩
theorem md_a2 {g g2 : ca_G} {o k : Nat} {x : Int32} {M : Nat → Nat → Int32} (h : mdG g o M) (hE : g2 (o + 3) = .inl (182, upd (M 2) k x)) (hF : ∀ j, j ≠ o + 3 → g2 j = g j) : mdG g2 o (upB M 2 k x) := by
  obtain ⟨c0, c1, c2, c3, c4, c5, c6, c7, c8, c9, c10, c11, c12, c13⟩ := h
  exact ⟨(hF o (by omega)).trans c0, (hF (o + 1) (by omega)).trans c1, (hF (o + 2) (by omega)).trans c2, hE, (hF (o + 4) (by omega)).trans c4, (hF (o + 5) (by omega)).trans c5, (hF (o + 6) (by omega)).trans c6, (hF (o + 7) (by omega)).trans c7, (hF (o + 8) (by omega)).trans c8, (hF (o + 9) (by omega)).trans c9, (hF (o + 10) (by omega)).trans c10, (hF (o + 11) (by omega)).trans c11, (hF (o + 12) (by omega)).trans c12, (hF (o + 13) (by omega)).trans c13⟩
theorem md_a3 {g g2 : ca_G} {o k : Nat} {x : Int32} {M : Nat → Nat → Int32} (h : mdG g o M) (hE : g2 (o + 4) = .inl (182, upd (M 3) k x)) (hF : ∀ j, j ≠ o + 4 → g2 j = g j) : mdG g2 o (upB M 3 k x) := by
  obtain ⟨c0, c1, c2, c3, c4, c5, c6, c7, c8, c9, c10, c11, c12, c13⟩ := h
  exact ⟨(hF o (by omega)).trans c0, (hF (o + 1) (by omega)).trans c1, (hF (o + 2) (by omega)).trans c2, (hF (o + 3) (by omega)).trans c3, hE, (hF (o + 5) (by omega)).trans c5, (hF (o + 6) (by omega)).trans c6, (hF (o + 7) (by omega)).trans c7, (hF (o + 8) (by omega)).trans c8, (hF (o + 9) (by omega)).trans c9, (hF (o + 10) (by omega)).trans c10, (hF (o + 11) (by omega)).trans c11, (hF (o + 12) (by omega)).trans c12, (hF (o + 13) (by omega)).trans c13⟩
theorem md_a4 {g g2 : ca_G} {o k : Nat} {x : Int32} {M : Nat → Nat → Int32} (h : mdG g o M) (hE : g2 (o + 5) = .inl (96, upd (M 4) k x)) (hF : ∀ j, j ≠ o + 5 → g2 j = g j) : mdG g2 o (upB M 4 k x) := by
  obtain ⟨c0, c1, c2, c3, c4, c5, c6, c7, c8, c9, c10, c11, c12, c13⟩ := h
  exact ⟨(hF o (by omega)).trans c0, (hF (o + 1) (by omega)).trans c1, (hF (o + 2) (by omega)).trans c2, (hF (o + 3) (by omega)).trans c3, (hF (o + 4) (by omega)).trans c4, hE, (hF (o + 6) (by omega)).trans c6, (hF (o + 7) (by omega)).trans c7, (hF (o + 8) (by omega)).trans c8, (hF (o + 9) (by omega)).trans c9, (hF (o + 10) (by omega)).trans c10, (hF (o + 11) (by omega)).trans c11, (hF (o + 12) (by omega)).trans c12, (hF (o + 13) (by omega)).trans c13⟩
theorem md_a5 {g g2 : ca_G} {o k : Nat} {x : Int32} {M : Nat → Nat → Int32} (h : mdG g o M) (hE : g2 (o + 6) = .inl (25, upd (M 5) k x)) (hF : ∀ j, j ≠ o + 6 → g2 j = g j) : mdG g2 o (upB M 5 k x) := by
  obtain ⟨c0, c1, c2, c3, c4, c5, c6, c7, c8, c9, c10, c11, c12, c13⟩ := h
  exact ⟨(hF o (by omega)).trans c0, (hF (o + 1) (by omega)).trans c1, (hF (o + 2) (by omega)).trans c2, (hF (o + 3) (by omega)).trans c3, (hF (o + 4) (by omega)).trans c4, (hF (o + 5) (by omega)).trans c5, hE, (hF (o + 7) (by omega)).trans c7, (hF (o + 8) (by omega)).trans c8, (hF (o + 9) (by omega)).trans c9, (hF (o + 10) (by omega)).trans c10, (hF (o + 11) (by omega)).trans c11, (hF (o + 12) (by omega)).trans c12, (hF (o + 13) (by omega)).trans c13⟩
theorem md_a6 {g g2 : ca_G} {o k : Nat} {x : Int32} {M : Nat → Nat → Int32} (h : mdG g o M) (hE : g2 (o + 7) = .inl (7, upd (M 6) k x)) (hF : ∀ j, j ≠ o + 7 → g2 j = g j) : mdG g2 o (upB M 6 k x) := by
  obtain ⟨c0, c1, c2, c3, c4, c5, c6, c7, c8, c9, c10, c11, c12, c13⟩ := h
  exact ⟨(hF o (by omega)).trans c0, (hF (o + 1) (by omega)).trans c1, (hF (o + 2) (by omega)).trans c2, (hF (o + 3) (by omega)).trans c3, (hF (o + 4) (by omega)).trans c4, (hF (o + 5) (by omega)).trans c5, (hF (o + 6) (by omega)).trans c6, hE, (hF (o + 8) (by omega)).trans c8, (hF (o + 9) (by omega)).trans c9, (hF (o + 10) (by omega)).trans c10, (hF (o + 11) (by omega)).trans c11, (hF (o + 12) (by omega)).trans c12, (hF (o + 13) (by omega)).trans c13⟩
theorem md_a7 {g g2 : ca_G} {o k : Nat} {x : Int32} {M : Nat → Nat → Int32} (h : mdG g o M) (hE : g2 (o + 8) = .inl (25, upd (M 7) k x)) (hF : ∀ j, j ≠ o + 8 → g2 j = g j) : mdG g2 o (upB M 7 k x) := by
  obtain ⟨c0, c1, c2, c3, c4, c5, c6, c7, c8, c9, c10, c11, c12, c13⟩ := h
  exact ⟨(hF o (by omega)).trans c0, (hF (o + 1) (by omega)).trans c1, (hF (o + 2) (by omega)).trans c2, (hF (o + 3) (by omega)).trans c3, (hF (o + 4) (by omega)).trans c4, (hF (o + 5) (by omega)).trans c5, (hF (o + 6) (by omega)).trans c6, (hF (o + 7) (by omega)).trans c7, hE, (hF (o + 9) (by omega)).trans c9, (hF (o + 10) (by omega)).trans c10, (hF (o + 11) (by omega)).trans c11, (hF (o + 12) (by omega)).trans c12, (hF (o + 13) (by omega)).trans c13⟩
theorem md_a8 {g g2 : ca_G} {o k : Nat} {x : Int32} {M : Nat → Nat → Int32} (h : mdG g o M) (hE : g2 (o + 9) = .inl (25, upd (M 8) k x)) (hF : ∀ j, j ≠ o + 9 → g2 j = g j) : mdG g2 o (upB M 8 k x) := by
  obtain ⟨c0, c1, c2, c3, c4, c5, c6, c7, c8, c9, c10, c11, c12, c13⟩ := h
  exact ⟨(hF o (by omega)).trans c0, (hF (o + 1) (by omega)).trans c1, (hF (o + 2) (by omega)).trans c2, (hF (o + 3) (by omega)).trans c3, (hF (o + 4) (by omega)).trans c4, (hF (o + 5) (by omega)).trans c5, (hF (o + 6) (by omega)).trans c6, (hF (o + 7) (by omega)).trans c7, (hF (o + 8) (by omega)).trans c8, hE, (hF (o + 10) (by omega)).trans c10, (hF (o + 11) (by omega)).trans c11, (hF (o + 12) (by omega)).trans c12, (hF (o + 13) (by omega)).trans c13⟩
theorem md_a9 {g g2 : ca_G} {o k : Nat} {x : Int32} {M : Nat → Nat → Int32} (h : mdG g o M) (hE : g2 (o + 10) = .inl (25, upd (M 9) k x)) (hF : ∀ j, j ≠ o + 10 → g2 j = g j) : mdG g2 o (upB M 9 k x) := by
  obtain ⟨c0, c1, c2, c3, c4, c5, c6, c7, c8, c9, c10, c11, c12, c13⟩ := h
  exact ⟨(hF o (by omega)).trans c0, (hF (o + 1) (by omega)).trans c1, (hF (o + 2) (by omega)).trans c2, (hF (o + 3) (by omega)).trans c3, (hF (o + 4) (by omega)).trans c4, (hF (o + 5) (by omega)).trans c5, (hF (o + 6) (by omega)).trans c6, (hF (o + 7) (by omega)).trans c7, (hF (o + 8) (by omega)).trans c8, (hF (o + 9) (by omega)).trans c9, hE, (hF (o + 11) (by omega)).trans c11, (hF (o + 12) (by omega)).trans c12, (hF (o + 13) (by omega)).trans c13⟩
theorem md_a10 {g g2 : ca_G} {o k : Nat} {x : Int32} {M : Nat → Nat → Int32} (h : mdG g o M) (hE : g2 (o + 11) = .inl (25, upd (M 10) k x)) (hF : ∀ j, j ≠ o + 11 → g2 j = g j) : mdG g2 o (upB M 10 k x) := by
  obtain ⟨c0, c1, c2, c3, c4, c5, c6, c7, c8, c9, c10, c11, c12, c13⟩ := h
  exact ⟨(hF o (by omega)).trans c0, (hF (o + 1) (by omega)).trans c1, (hF (o + 2) (by omega)).trans c2, (hF (o + 3) (by omega)).trans c3, (hF (o + 4) (by omega)).trans c4, (hF (o + 5) (by omega)).trans c5, (hF (o + 6) (by omega)).trans c6, (hF (o + 7) (by omega)).trans c7, (hF (o + 8) (by omega)).trans c8, (hF (o + 9) (by omega)).trans c9, (hF (o + 10) (by omega)).trans c10, hE, (hF (o + 12) (by omega)).trans c12, (hF (o + 13) (by omega)).trans c13⟩
theorem md_a11 {g g2 : ca_G} {o k : Nat} {x : Int32} {M : Nat → Nat → Int32} (h : mdG g o M) (hE : g2 (o + 12) = .inl (5, upd (M 11) k x)) (hF : ∀ j, j ≠ o + 12 → g2 j = g j) : mdG g2 o (upB M 11 k x) := by
  obtain ⟨c0, c1, c2, c3, c4, c5, c6, c7, c8, c9, c10, c11, c12, c13⟩ := h
  exact ⟨(hF o (by omega)).trans c0, (hF (o + 1) (by omega)).trans c1, (hF (o + 2) (by omega)).trans c2, (hF (o + 3) (by omega)).trans c3, (hF (o + 4) (by omega)).trans c4, (hF (o + 5) (by omega)).trans c5, (hF (o + 6) (by omega)).trans c6, (hF (o + 7) (by omega)).trans c7, (hF (o + 8) (by omega)).trans c8, (hF (o + 9) (by omega)).trans c9, (hF (o + 10) (by omega)).trans c10, (hF (o + 11) (by omega)).trans c11, hE, (hF (o + 13) (by omega)).trans c13⟩
theorem md_a12 {g g2 : ca_G} {o k : Nat} {x : Int32} {M : Nat → Nat → Int32} (h : mdG g o M) (hE : g2 (o + 13) = .inl (4, upd (M 12) k x)) (hF : ∀ j, j ≠ o + 13 → g2 j = g j) : mdG g2 o (upB M 12 k x) := by
  obtain ⟨c0, c1, c2, c3, c4, c5, c6, c7, c8, c9, c10, c11, c12, c13⟩ := h
  exact ⟨(hF o (by omega)).trans c0, (hF (o + 1) (by omega)).trans c1, (hF (o + 2) (by omega)).trans c2, (hF (o + 3) (by omega)).trans c3, (hF (o + 4) (by omega)).trans c4, (hF (o + 5) (by omega)).trans c5, (hF (o + 6) (by omega)).trans c6, (hF (o + 7) (by omega)).trans c7, (hF (o + 8) (by omega)).trans c8, (hF (o + 9) (by omega)).trans c9, (hF (o + 10) (by omega)).trans c10, (hF (o + 11) (by omega)).trans c11, (hF (o + 12) (by omega)).trans c12, hE⟩
theorem md_s0 {g g2 : ca_G} {o : Nat} {x : Int32} {M : Nat → Nat → Int32} (h : mdG g o M) (hE : g2 o = .inr (5, [.ref (o + 1), .ref (o + 2), .ref (o + 3), .ref (o + 4), .int x, .ref (o + 5), .ref (o + 6), .ref (o + 7), .int (M 13 1), .int (M 13 2), .ref (o + 8), .ref (o + 9), .ref (o + 10), .ref (o + 11), .ref (o + 12), .int (M 13 3), .int (M 13 4), .int (M 13 5), .ref (o + 13), .int (M 13 6)])) (hF : ∀ j, j ≠ o → g2 j = g j) : mdG g2 o (upB M 13 0 x) := by
  obtain ⟨c0, c1, c2, c3, c4, c5, c6, c7, c8, c9, c10, c11, c12, c13⟩ := h
  exact ⟨hE, (hF (o + 1) (by omega)).trans c1, (hF (o + 2) (by omega)).trans c2, (hF (o + 3) (by omega)).trans c3, (hF (o + 4) (by omega)).trans c4, (hF (o + 5) (by omega)).trans c5, (hF (o + 6) (by omega)).trans c6, (hF (o + 7) (by omega)).trans c7, (hF (o + 8) (by omega)).trans c8, (hF (o + 9) (by omega)).trans c9, (hF (o + 10) (by omega)).trans c10, (hF (o + 11) (by omega)).trans c11, (hF (o + 12) (by omega)).trans c12, (hF (o + 13) (by omega)).trans c13⟩
theorem md_s1 {g g2 : ca_G} {o : Nat} {x : Int32} {M : Nat → Nat → Int32} (h : mdG g o M) (hE : g2 o = .inr (5, [.ref (o + 1), .ref (o + 2), .ref (o + 3), .ref (o + 4), .int (M 13 0), .ref (o + 5), .ref (o + 6), .ref (o + 7), .int x, .int (M 13 2), .ref (o + 8), .ref (o + 9), .ref (o + 10), .ref (o + 11), .ref (o + 12), .int (M 13 3), .int (M 13 4), .int (M 13 5), .ref (o + 13), .int (M 13 6)])) (hF : ∀ j, j ≠ o → g2 j = g j) : mdG g2 o (upB M 13 1 x) := by
  obtain ⟨c0, c1, c2, c3, c4, c5, c6, c7, c8, c9, c10, c11, c12, c13⟩ := h
  exact ⟨hE, (hF (o + 1) (by omega)).trans c1, (hF (o + 2) (by omega)).trans c2, (hF (o + 3) (by omega)).trans c3, (hF (o + 4) (by omega)).trans c4, (hF (o + 5) (by omega)).trans c5, (hF (o + 6) (by omega)).trans c6, (hF (o + 7) (by omega)).trans c7, (hF (o + 8) (by omega)).trans c8, (hF (o + 9) (by omega)).trans c9, (hF (o + 10) (by omega)).trans c10, (hF (o + 11) (by omega)).trans c11, (hF (o + 12) (by omega)).trans c12, (hF (o + 13) (by omega)).trans c13⟩
theorem md_s2 {g g2 : ca_G} {o : Nat} {x : Int32} {M : Nat → Nat → Int32} (h : mdG g o M) (hE : g2 o = .inr (5, [.ref (o + 1), .ref (o + 2), .ref (o + 3), .ref (o + 4), .int (M 13 0), .ref (o + 5), .ref (o + 6), .ref (o + 7), .int (M 13 1), .int x, .ref (o + 8), .ref (o + 9), .ref (o + 10), .ref (o + 11), .ref (o + 12), .int (M 13 3), .int (M 13 4), .int (M 13 5), .ref (o + 13), .int (M 13 6)])) (hF : ∀ j, j ≠ o → g2 j = g j) : mdG g2 o (upB M 13 2 x) := by
  obtain ⟨c0, c1, c2, c3, c4, c5, c6, c7, c8, c9, c10, c11, c12, c13⟩ := h
  exact ⟨hE, (hF (o + 1) (by omega)).trans c1, (hF (o + 2) (by omega)).trans c2, (hF (o + 3) (by omega)).trans c3, (hF (o + 4) (by omega)).trans c4, (hF (o + 5) (by omega)).trans c5, (hF (o + 6) (by omega)).trans c6, (hF (o + 7) (by omega)).trans c7, (hF (o + 8) (by omega)).trans c8, (hF (o + 9) (by omega)).trans c9, (hF (o + 10) (by omega)).trans c10, (hF (o + 11) (by omega)).trans c11, (hF (o + 12) (by omega)).trans c12, (hF (o + 13) (by omega)).trans c13⟩
theorem md_s3 {g g2 : ca_G} {o : Nat} {x : Int32} {M : Nat → Nat → Int32} (h : mdG g o M) (hE : g2 o = .inr (5, [.ref (o + 1), .ref (o + 2), .ref (o + 3), .ref (o + 4), .int (M 13 0), .ref (o + 5), .ref (o + 6), .ref (o + 7), .int (M 13 1), .int (M 13 2), .ref (o + 8), .ref (o + 9), .ref (o + 10), .ref (o + 11), .ref (o + 12), .int x, .int (M 13 4), .int (M 13 5), .ref (o + 13), .int (M 13 6)])) (hF : ∀ j, j ≠ o → g2 j = g j) : mdG g2 o (upB M 13 3 x) := by
  obtain ⟨c0, c1, c2, c3, c4, c5, c6, c7, c8, c9, c10, c11, c12, c13⟩ := h
  exact ⟨hE, (hF (o + 1) (by omega)).trans c1, (hF (o + 2) (by omega)).trans c2, (hF (o + 3) (by omega)).trans c3, (hF (o + 4) (by omega)).trans c4, (hF (o + 5) (by omega)).trans c5, (hF (o + 6) (by omega)).trans c6, (hF (o + 7) (by omega)).trans c7, (hF (o + 8) (by omega)).trans c8, (hF (o + 9) (by omega)).trans c9, (hF (o + 10) (by omega)).trans c10, (hF (o + 11) (by omega)).trans c11, (hF (o + 12) (by omega)).trans c12, (hF (o + 13) (by omega)).trans c13⟩
theorem md_s4 {g g2 : ca_G} {o : Nat} {x : Int32} {M : Nat → Nat → Int32} (h : mdG g o M) (hE : g2 o = .inr (5, [.ref (o + 1), .ref (o + 2), .ref (o + 3), .ref (o + 4), .int (M 13 0), .ref (o + 5), .ref (o + 6), .ref (o + 7), .int (M 13 1), .int (M 13 2), .ref (o + 8), .ref (o + 9), .ref (o + 10), .ref (o + 11), .ref (o + 12), .int (M 13 3), .int x, .int (M 13 5), .ref (o + 13), .int (M 13 6)])) (hF : ∀ j, j ≠ o → g2 j = g j) : mdG g2 o (upB M 13 4 x) := by
  obtain ⟨c0, c1, c2, c3, c4, c5, c6, c7, c8, c9, c10, c11, c12, c13⟩ := h
  exact ⟨hE, (hF (o + 1) (by omega)).trans c1, (hF (o + 2) (by omega)).trans c2, (hF (o + 3) (by omega)).trans c3, (hF (o + 4) (by omega)).trans c4, (hF (o + 5) (by omega)).trans c5, (hF (o + 6) (by omega)).trans c6, (hF (o + 7) (by omega)).trans c7, (hF (o + 8) (by omega)).trans c8, (hF (o + 9) (by omega)).trans c9, (hF (o + 10) (by omega)).trans c10, (hF (o + 11) (by omega)).trans c11, (hF (o + 12) (by omega)).trans c12, (hF (o + 13) (by omega)).trans c13⟩
theorem md_s5 {g g2 : ca_G} {o : Nat} {x : Int32} {M : Nat → Nat → Int32} (h : mdG g o M) (hE : g2 o = .inr (5, [.ref (o + 1), .ref (o + 2), .ref (o + 3), .ref (o + 4), .int (M 13 0), .ref (o + 5), .ref (o + 6), .ref (o + 7), .int (M 13 1), .int (M 13 2), .ref (o + 8), .ref (o + 9), .ref (o + 10), .ref (o + 11), .ref (o + 12), .int (M 13 3), .int (M 13 4), .int x, .ref (o + 13), .int (M 13 6)])) (hF : ∀ j, j ≠ o → g2 j = g j) : mdG g2 o (upB M 13 5 x) := by
  obtain ⟨c0, c1, c2, c3, c4, c5, c6, c7, c8, c9, c10, c11, c12, c13⟩ := h
  exact ⟨hE, (hF (o + 1) (by omega)).trans c1, (hF (o + 2) (by omega)).trans c2, (hF (o + 3) (by omega)).trans c3, (hF (o + 4) (by omega)).trans c4, (hF (o + 5) (by omega)).trans c5, (hF (o + 6) (by omega)).trans c6, (hF (o + 7) (by omega)).trans c7, (hF (o + 8) (by omega)).trans c8, (hF (o + 9) (by omega)).trans c9, (hF (o + 10) (by omega)).trans c10, (hF (o + 11) (by omega)).trans c11, (hF (o + 12) (by omega)).trans c12, (hF (o + 13) (by omega)).trans c13⟩
theorem md_s6 {g g2 : ca_G} {o : Nat} {x : Int32} {M : Nat → Nat → Int32} (h : mdG g o M) (hE : g2 o = .inr (5, [.ref (o + 1), .ref (o + 2), .ref (o + 3), .ref (o + 4), .int (M 13 0), .ref (o + 5), .ref (o + 6), .ref (o + 7), .int (M 13 1), .int (M 13 2), .ref (o + 8), .ref (o + 9), .ref (o + 10), .ref (o + 11), .ref (o + 12), .int (M 13 3), .int (M 13 4), .int (M 13 5), .ref (o + 13), .int x])) (hF : ∀ j, j ≠ o → g2 j = g j) : mdG g2 o (upB M 13 6 x) := by
  obtain ⟨c0, c1, c2, c3, c4, c5, c6, c7, c8, c9, c10, c11, c12, c13⟩ := h
  exact ⟨hE, (hF (o + 1) (by omega)).trans c1, (hF (o + 2) (by omega)).trans c2, (hF (o + 3) (by omega)).trans c3, (hF (o + 4) (by omega)).trans c4, (hF (o + 5) (by omega)).trans c5, (hF (o + 6) (by omega)).trans c6, (hF (o + 7) (by omega)).trans c7, (hF (o + 8) (by omega)).trans c8, (hF (o + 9) (by omega)).trans c9, (hF (o + 10) (by omega)).trans c10, (hF (o + 11) (by omega)).trans c11, (hF (o + 12) (by omega)).trans c12, (hF (o + 13) (by omega)).trans c13⟩
def inB (v a b : Int32) : Int32 := if v < a then 0 else if b < v then 0 else 1
def mxB (a b : Int32) : Int32 := if a ≤ b then b else a
def ctF (k : Int32) : Int32 := if k = 1 then 1 else if k = 2 then 3 else if k = 3 then 3 else if k = 4 then 1000000000 else if k = 5 then 4 else 2
def knB (f : Nat → Int32) (p r : Nat) : Int32 := if f (57 + (25 * p + r)) < ndK (f (2 + r)) then 0 else 1
def bsW (r w : Nat) : Int32 := if w = 0 then (if r < 5 then -9 else nI (r - 5)) else if w = 1 then (if r % 5 = 0 then -9 else nI (r - 1)) else if w = 2 then (if r % 5 = 4 then -9 else nI (r + 1)) else if 20 ≤ r then -9 else nI (r + 5)

set_option maxRecDepth 100000 in
set_option maxHeartbeats 4000000 in
theorem c_X6_isIn (l : Launch) (N : Nat) (g : ca_G) (v a b : Int32) : ca_Ct l yX6_isIn cX6_isIn 3 (some .boolean) 0 0 0 N 1000000 [.int v, .int a, .int b] g (ca_pi (inB v a b) g) := by
  refine ca_intro (by decide) (Nat.le_of_ble_eq_true rfl) (fun X hX hN => ?_)
  show X 0 [_, _, _] [] N 1000000 g
  refine ca_iload_n hX (q := 1) 0 rfl rfl rfl dX6_isIn_0 ?_
  refine ca_iload_n hX (q := 2) 1 rfl rfl rfl dX6_isIn_1 ?_
  refine ca_icmp_lt hX (q := 5) 14 rfl rfl dX6_isIn_2 (fun c2 => ?_) (fun c2 => ?_)
  · refine ca_iconst hX (q := 15) k_iconst_0 rfl dX6_isIn_14 ?_
    refine ca_zret hX rfl rfl rfl rfl rfl dX6_isIn_15 ?_
    refine ⟨?_, rfl⟩; simp [inB, mxB, *]
  · refine ca_iload_n hX (q := 6) 0 rfl rfl rfl dX6_isIn_5 ?_
    refine ca_iload_n hX (q := 7) 2 rfl rfl rfl dX6_isIn_6 ?_
    refine ca_icmp_gt hX (q := 10) 14 rfl rfl dX6_isIn_7 (fun c7 => ?_) (fun c7 => ?_)
    · refine ca_iconst hX (q := 15) k_iconst_0 rfl dX6_isIn_14 ?_
      refine ca_zret hX rfl rfl rfl rfl rfl dX6_isIn_15 ?_
      refine ⟨?_, rfl⟩; simp [inB, mxB, *]
    · refine ca_iconst hX (q := 11) k_iconst_1 rfl dX6_isIn_10 ?_
      refine ca_goto hX 15 rfl dX6_isIn_11 ?_
      refine ca_zret hX rfl rfl rfl rfl rfl dX6_isIn_15 ?_
      refine ⟨?_, rfl⟩; simp [inB, mxB, *]

set_option maxRecDepth 100000 in
set_option maxHeartbeats 4000000 in
theorem c_X6_most (l : Launch) (N : Nat) (g : ca_G) (a b : Int32) : ca_Ct l yX6_most cX6_most 2 (some .int) 0 0 0 N 1000000 [.int a, .int b] g (ca_pi (mxB a b) g) := by
  refine ca_intro (by decide) (Nat.le_of_ble_eq_true rfl) (fun X hX hN => ?_)
  show X 0 [_, _] [] N 1000000 g
  refine ca_iload_n hX (q := 1) 0 rfl rfl rfl dX6_most_0 ?_
  refine ca_iload_n hX (q := 2) 1 rfl rfl rfl dX6_most_1 ?_
  refine ca_icmp_le hX (q := 5) 9 rfl rfl dX6_most_2 (fun c2 => ?_) (fun c2 => ?_)
  · refine ca_iload_n hX (q := 10) 1 rfl rfl rfl dX6_most_9 ?_
    refine ca_iret hX rfl rfl rfl rfl dX6_most_10 ?_
    refine ⟨?_, rfl⟩; simp [inB, mxB, *]
  · refine ca_iload_n hX (q := 6) 0 rfl rfl rfl dX6_most_5 ?_
    refine ca_goto hX 10 rfl dX6_most_6 ?_
    refine ca_iret hX rfl rfl rfl rfl dX6_most_10 ?_
    refine ⟨?_, rfl⟩; simp [inB, mxB, *]

set_option maxRecDepth 100000 in
set_option maxHeartbeats 4000000 in
theorem c_X6_isRoom (l : Launch) (N : Nat) (g : ca_G) (x : Int32) : ca_Ct l yX6_isRoom cX6_isRoom 1 (some .boolean) 1 0 0 N 1000000 [.int x] g (ca_pi (inB x 0 24) g) := by
  refine ca_intro (by decide) (Nat.le_of_ble_eq_true rfl) (fun X hX hN => ?_)
  show X 0 [_] [] N 1000000 g
  refine ca_iload_n hX (q := 1) 0 rfl rfl rfl dX6_isRoom_0 ?_
  refine ca_iconst hX (q := 2) k_iconst_0 rfl dX6_isRoom_1 ?_
  refine ca_bipush hX (q := 4) k_bipush_24 rfl dX6_isRoom_2 ?_
  refine ca_cSi hX (q := 7) y_X6_isIn w_ml_X6_55 hN (c_X6_isIn l N g x 0 24) (by decide) rfl (by decide) rfl dX6_isRoom_4 rfl ?_
  refine ca_zret hX rfl rfl (by unfold inB; split <;> first | rfl | (split <;> rfl)) rfl rfl dX6_isRoom_7 ?_
  exact ⟨rfl, rfl⟩

set_option maxRecDepth 100000 in
set_option maxHeartbeats 4000000 in
theorem c_X6_known (l : Launch) (N : Nat) (g : ca_G) (p r : Nat) : ca_Ct l yX6_known cX6_known 2 (some .int) 0 0 0 N 1000000 [.int (nI p), .int (nI r)] g (ca_pi (nI (57 + (25 * p + r))) g) := by
  refine ca_intro (by decide) (Nat.le_of_ble_eq_true rfl) (fun X hX hN => ?_)
  show X 0 [_, _] [] N 1000000 g
  refine ca_bipush hX (q := 2) k_bipush_57 rfl dX6_known_0 ?_
  refine ca_bipush hX (q := 4) k_bipush_25 rfl dX6_known_2 ?_
  refine ca_iload_n hX (q := 5) 0 rfl rfl rfl dX6_known_4 ?_
  refine ca_imul hX (q := 6) rfl dX6_known_5 ?_
  refine ca_iadd hX (q := 7) rfl dX6_known_6 ?_
  refine ca_iload_n hX (q := 8) 1 rfl rfl rfl dX6_known_7 ?_
  refine ca_iadd hX (q := 9) rfl dX6_known_8 ?_
  refine ca_iret hX rfl rfl rfl rfl dX6_known_9 ?_
  refine ⟨?_, rfl⟩
  rw [show (25 : Int32) * nI p = nI (25 * p) from pk_mul 25 p, show (57 : Int32) + nI (25 * p) = nI (57 + 25 * p) from nI_add 57 _, nI_add, Nat.add_assoc]

set_option maxRecDepth 100000 in
set_option maxHeartbeats 4000000 in
theorem c_X6_needs (l : Launch) (N : Nat) (g : ca_G) (t : Nat) (f : Nat → Int32) (ht : g t = .inl (182, f)) (hti : t < N) (r : Nat) (hr : r < 25) : ca_Ct l yX6_needs cX6_needs 3 (some .int) 0 0 0 N 1000000 [.ref t, .int (nI r)] g (ca_pi (ndK (f (2 + r))) g) := by
  refine ca_intro (by decide) (Nat.le_of_ble_eq_true rfl) (fun X hX hN => ?_)
  show X 0 [_, _, none] [] N 1000000 g
  refine ca_aload_n hX (q := 1) 0 rfl rfl rfl dX6_needs_0 ?_
  refine ca_iconst hX (q := 2) k_iconst_2 rfl dX6_needs_1 ?_
  refine ca_iload_n hX (q := 3) 1 rfl rfl rfl dX6_needs_2 ?_
  refine ca_iadd hX (q := 4) rfl dX6_needs_3 ?_
  refine ca_iaN hX (q := 5) (k := 2 + r) hti ht (by decide) (nI_add 2 r) (by omega) rfl dX6_needs_4 ?_
  refine ca_istore_n hX (q := 6) 2 rfl (ls' := [_, _, _]) (Nat.le_of_ble_eq_true rfl) (Nat.le_of_ble_eq_true rfl) (Or.inr rfl) rfl rfl dX6_needs_5 ?_
  refine ca_iload_n hX (q := 7) 2 rfl rfl rfl dX6_needs_6 ?_
  refine ca_iconst hX (q := 8) k_iconst_2 rfl dX6_needs_7 ?_
  refine ca_icmp_ne hX (q := 11) 15 rfl rfl dX6_needs_8 (fun c8 => ?_) (fun c8 => ?_)
  · refine ca_iload_n hX (q := 16) 2 rfl rfl rfl dX6_needs_15 ?_
    refine ca_iconst hX (q := 17) k_iconst_3 rfl dX6_needs_16 ?_
    refine ca_icmp_ne hX (q := 20) 24 rfl rfl dX6_needs_17 (fun c17 => ?_) (fun c17 => ?_)
    · refine ca_iconst hX (q := 25) k_iconst_1 rfl dX6_needs_24 ?_
      refine ca_iret hX rfl rfl rfl rfl dX6_needs_25 ?_
      refine ⟨?_, rfl⟩; simp [ndK, *]
    · refine ca_iconst hX (q := 21) k_iconst_4 rfl dX6_needs_20 ?_
      refine ca_goto hX 25 rfl dX6_needs_21 ?_
      refine ca_iret hX rfl rfl rfl rfl dX6_needs_25 ?_
      refine ⟨?_, rfl⟩; simp [ndK, *]
  · refine ca_iconst hX (q := 12) k_iconst_2 rfl dX6_needs_11 ?_
    refine ca_goto hX 25 rfl dX6_needs_12 ?_
    refine ca_iret hX rfl rfl rfl rfl dX6_needs_25 ?_
    refine ⟨?_, rfl⟩; simp [ndK, *]

set_option maxRecDepth 100000 in
set_option maxHeartbeats 4000000 in
theorem c_X6_catches (l : Launch) (N : Nat) (g : ca_G) (t : Nat) (f : Nat → Int32) (ht : g t = .inl (182, f)) (hti : t < N) (r : Nat) (hr : r < 25) : ca_Ct l yX6_catches cX6_catches 2 (some .int) 0 0 0 N 1000000 [.ref t, .int (nI r)] g (ca_pi (ctF (f (2 + r))) g) := by
  refine ca_intro (by decide) (Nat.le_of_ble_eq_true rfl) (fun X hX hN => ?_)
  show X 0 [_, _] [] N 1000000 g
  refine ca_aload_n hX (q := 1) 0 rfl rfl rfl dX6_catches_0 ?_
  refine ca_iconst hX (q := 2) k_iconst_2 rfl dX6_catches_1 ?_
  refine ca_iload_n hX (q := 3) 1 rfl rfl rfl dX6_catches_2 ?_
  refine ca_iadd hX (q := 4) rfl dX6_catches_3 ?_
  refine ca_iaN hX (q := 5) (k := 2 + r) hti ht (by decide) (nI_add 2 r) (by omega) rfl dX6_catches_4 ?_
  by_cases e5_1 : f (2 + r) = 1
  · refine ca_tabIn hX 40 dX6_catches_5 (by rw [e5_1]; decide) (by rw [e5_1]; decide) (by rw [e5_1]; rfl) rfl ?_
    refine ca_iconst hX (q := 41) k_iconst_1 rfl dX6_catches_40 ?_
    refine ca_iret hX rfl rfl rfl rfl dX6_catches_41 ?_
    refine ⟨?_, rfl⟩; simp [ctF, *]
  by_cases e5_2 : f (2 + r) = 2
  · refine ca_tabIn hX 42 dX6_catches_5 (by rw [e5_2]; decide) (by rw [e5_2]; decide) (by rw [e5_2]; rfl) rfl ?_
    refine ca_iconst hX (q := 43) k_iconst_3 rfl dX6_catches_42 ?_
    refine ca_iret hX rfl rfl rfl rfl dX6_catches_43 ?_
    refine ⟨?_, rfl⟩; simp [ctF, *]
  by_cases e5_3 : f (2 + r) = 3
  · refine ca_tabIn hX 42 dX6_catches_5 (by rw [e5_3]; decide) (by rw [e5_3]; decide) (by rw [e5_3]; rfl) rfl ?_
    refine ca_iconst hX (q := 43) k_iconst_3 rfl dX6_catches_42 ?_
    refine ca_iret hX rfl rfl rfl rfl dX6_catches_43 ?_
    refine ⟨?_, rfl⟩; simp [ctF, *]
  by_cases e5_4 : f (2 + r) = 4
  · refine ca_tabIn hX 44 dX6_catches_5 (by rw [e5_4]; decide) (by rw [e5_4]; decide) (by rw [e5_4]; rfl) rfl ?_
    refine ca_ldc hX (q := 46) w_k_X6_63 rfl dX6_catches_44 ?_
    refine ca_iret hX rfl rfl rfl rfl dX6_catches_46 ?_
    refine ⟨?_, rfl⟩; simp [ctF, *]
  by_cases e5_5 : f (2 + r) = 5
  · refine ca_tabIn hX 47 dX6_catches_5 (by rw [e5_5]; decide) (by rw [e5_5]; decide) (by rw [e5_5]; rfl) rfl ?_
    refine ca_iconst hX (q := 48) k_iconst_4 rfl dX6_catches_47 ?_
    refine ca_iret hX rfl rfl rfl rfl dX6_catches_48 ?_
    refine ⟨?_, rfl⟩; simp [ctF, *]
  refine ca_tabOut hX 49 dX6_catches_5 (by have z0 := lv_neT (k := 1) (a := 1) e5_1 (by decide); have z1 := lv_neT (k := 2) (a := 2) e5_2 (by decide); have z2 := lv_neT (k := 3) (a := 3) e5_3 (by decide); have z3 := lv_neT (k := 4) (a := 4) e5_4 (by decide); have z4 := lv_neT (k := 5) (a := 5) e5_5 (by decide); omega) rfl ?_
  refine ca_iconst hX (q := 50) k_iconst_2 rfl dX6_catches_49 ?_
  refine ca_iret hX rfl rfl rfl rfl dX6_catches_50 ?_
  refine ⟨?_, rfl⟩; simp [ctF, *]

theorem wt_12 (x : Int32) : 12 + 2 * x = 2 * (6 + x) := by rw [Int32.mul_add]; rfl

set_option maxRecDepth 100000 in
set_option maxHeartbeats 4000000 in
theorem c_X6_worth (l : Launch) (N : Nat) (g : ca_G) (t : Nat) (f : Nat → Int32) (ht : g t = .inl (182, f)) (hti : t < N) (r : Nat) (hr : r < 25) : ca_Ct l yX6_worth cX6_worth 3 (some .int) 0 0 0 N 1000000 [.ref t, .int (nI r)] g (ca_pi (wtK (f (2 + r)) (f (27 + r))) g) := by
  refine ca_intro (by decide) (Nat.le_of_ble_eq_true rfl) (fun X hX hN => ?_)
  show X 0 [_, _, none] [] N 1000000 g
  refine ca_aload_n hX (q := 1) 0 rfl rfl rfl dX6_worth_0 ?_
  refine ca_bipush hX (q := 3) k_bipush_27 rfl dX6_worth_1 ?_
  refine ca_iload_n hX (q := 4) 1 rfl rfl rfl dX6_worth_3 ?_
  refine ca_iadd hX (q := 5) rfl dX6_worth_4 ?_
  refine ca_iaN hX (q := 6) (k := 27 + r) hti ht (by decide) (nI_add 27 r) (by omega) rfl dX6_worth_5 ?_
  refine ca_istore_n hX (q := 7) 2 rfl (ls' := [_, _, _]) (Nat.le_of_ble_eq_true rfl) (Nat.le_of_ble_eq_true rfl) (Or.inr rfl) rfl rfl dX6_worth_6 ?_
  refine ca_aload_n hX (q := 8) 0 rfl rfl rfl dX6_worth_7 ?_
  refine ca_iconst hX (q := 9) k_iconst_2 rfl dX6_worth_8 ?_
  refine ca_iload_n hX (q := 10) 1 rfl rfl rfl dX6_worth_9 ?_
  refine ca_iadd hX (q := 11) rfl dX6_worth_10 ?_
  refine ca_iaN hX (q := 12) (k := 2 + r) hti ht (by decide) (nI_add 2 r) (by omega) rfl dX6_worth_11 ?_
  by_cases e12_2 : f (2 + r) = 2
  · refine ca_tabIn hX 44 dX6_worth_12 (by rw [e12_2]; decide) (by rw [e12_2]; decide) (by rw [e12_2]; rfl) rfl ?_
    refine ca_bipush hX (q := 46) k_bipush_6 rfl dX6_worth_44 ?_
    refine ca_iload_n hX (q := 47) 2 rfl rfl rfl dX6_worth_46 ?_
    refine ca_iadd hX (q := 48) rfl dX6_worth_47 ?_
    refine ca_iret hX rfl rfl rfl rfl dX6_worth_48 ?_
    refine ⟨?_, rfl⟩; simp [wtK, wt_12, *]
  by_cases e12_3 : f (2 + r) = 3
  · refine ca_tabIn hX 49 dX6_worth_12 (by rw [e12_3]; decide) (by rw [e12_3]; decide) (by rw [e12_3]; rfl) rfl ?_
    refine ca_bipush hX (q := 51) k_bipush_12 rfl dX6_worth_49 ?_
    refine ca_iconst hX (q := 52) k_iconst_2 rfl dX6_worth_51 ?_
    refine ca_iload_n hX (q := 53) 2 rfl rfl rfl dX6_worth_52 ?_
    refine ca_imul hX (q := 54) rfl dX6_worth_53 ?_
    refine ca_iadd hX (q := 55) rfl dX6_worth_54 ?_
    refine ca_iret hX rfl rfl rfl rfl dX6_worth_55 ?_
    refine ⟨?_, rfl⟩; simp [wtK, wt_12, *]
  by_cases e12_4 : f (2 + r) = 4
  · refine ca_tabIn hX 56 dX6_worth_12 (by rw [e12_4]; decide) (by rw [e12_4]; decide) (by rw [e12_4]; rfl) rfl ?_
    refine ca_iconst hX (q := 57) k_iconst_0 rfl dX6_worth_56 ?_
    refine ca_iret hX rfl rfl rfl rfl dX6_worth_57 ?_
    refine ⟨?_, rfl⟩; simp [wtK, wt_12, *]
  by_cases e12_5 : f (2 + r) = 5
  · refine ca_tabIn hX 58 dX6_worth_12 (by rw [e12_5]; decide) (by rw [e12_5]; decide) (by rw [e12_5]; rfl) rfl ?_
    refine ca_iload_n hX (q := 59) 2 rfl rfl rfl dX6_worth_58 ?_
    refine ca_iret hX rfl rfl rfl rfl dX6_worth_59 ?_
    refine ⟨?_, rfl⟩; simp [wtK, wt_12, *]
  refine ca_tabOut hX 60 dX6_worth_12 (by have z0 := lv_neT (k := 2) (a := 2) e12_2 (by decide); have z1 := lv_neT (k := 3) (a := 3) e12_3 (by decide); have z2 := lv_neT (k := 4) (a := 4) e12_4 (by decide); have z3 := lv_neT (k := 5) (a := 5) e12_5 (by decide); omega) rfl ?_
  refine ca_iconst hX (q := 61) k_iconst_1 rfl dX6_worth_60 ?_
  refine ca_iload_n hX (q := 62) 2 rfl rfl rfl dX6_worth_61 ?_
  refine ca_iadd hX (q := 63) rfl dX6_worth_62 ?_
  refine ca_iret hX rfl rfl rfl rfl dX6_worth_63 ?_
  refine ⟨?_, rfl⟩; simp [wtK, wt_12, *]

set_option maxRecDepth 100000 in
set_option maxHeartbeats 4000000 in
theorem c_X6_isKnown (l : Launch) (N : Nat) (g : ca_G) (t : Nat) (f : Nat → Int32) (ht : g t = .inl (182, f)) (hti : t < N) (p r : Nat) (hp : p < 5) (hr : r < 25) : ca_Ct l yX6_isKnown cX6_isKnown 3 (some .boolean) 1 0 0 N 1000000 [.ref t, .int (nI p), .int (nI r)] g (ca_pi (knB f p r) g) := by
  refine ca_intro (by decide) (Nat.le_of_ble_eq_true rfl) (fun X hX hN => ?_)
  show X 0 [_, _, _] [] N 1000000 g
  refine ca_aload_n hX (q := 1) 0 rfl rfl rfl dX6_isKnown_0 ?_
  refine ca_iload_n hX (q := 2) 1 rfl rfl rfl dX6_isKnown_1 ?_
  refine ca_iload_n hX (q := 3) 2 rfl rfl rfl dX6_isKnown_2 ?_
  refine ca_cSi hX (q := 6) y_X6_known w_ml_X6_64 hN (c_X6_known l N g p r) (by decide) rfl (Nat.le_of_ble_eq_true rfl) rfl dX6_isKnown_3 rfl ?_
  refine ca_iaN hX (q := 7) (k := 57 + (25 * p + r)) hti ht (by decide) rfl (by omega) rfl dX6_isKnown_6 ?_
  refine ca_aload_n hX (q := 8) 0 rfl rfl rfl dX6_isKnown_7 ?_
  refine ca_iload_n hX (q := 9) 2 rfl rfl rfl dX6_isKnown_8 ?_
  refine ca_cSi hX (q := 12) y_X6_needs w_ml_X6_68 hN (c_X6_needs l N g t f ht hti r hr) (by decide) rfl (Nat.le_of_ble_eq_true rfl) rfl dX6_isKnown_9 rfl ?_
  refine ca_icmp_lt hX (q := 15) 19 rfl rfl dX6_isKnown_12 (fun c12 => ?_) (fun c12 => ?_)
  · refine ca_iconst hX (q := 20) k_iconst_0 rfl dX6_isKnown_19 ?_
    refine ca_zret hX rfl rfl rfl rfl rfl dX6_isKnown_20 ?_
    refine ⟨?_, rfl⟩; simp [knB, *]
  · refine ca_iconst hX (q := 16) k_iconst_1 rfl dX6_isKnown_15 ?_
    refine ca_goto hX 20 rfl dX6_isKnown_16 ?_
    refine ca_zret hX rfl rfl rfl rfl rfl dX6_isKnown_20 ?_
    refine ⟨?_, rfl⟩; simp [knB, *]

set_option maxRecDepth 100000 in
set_option maxHeartbeats 4000000 in
theorem c_X6_beside (l : Launch) (N : Nat) (g : ca_G) (r w : Nat) (hr : r < 25) (hw : w < 4) : ca_Ct l yX6_beside cX6_beside 2 (some .int) 0 0 0 N 1000000 [.int (nI r), .int (nI w)] g (ca_pi (bsW r w) g) := by
  refine ca_intro (by decide) (Nat.le_of_ble_eq_true rfl) (fun X hX hN => ?_)
  show X 0 [_, _] [] N 1000000 g
  refine ca_iload_n hX (q := 1) 1 rfl rfl rfl dX6_beside_0 ?_
  have hq0 : nI w = 0 ↔ w = 0 := nI_eq (b := 0) (by omega) (by omega)
  by_cases e1_0 : nI w = 0
  · have hw0 := hq0.mp e1_0
    refine ca_tabIn hX 28 dX6_beside_1 (by rw [e1_0]; decide) (by rw [e1_0]; decide) (by rw [e1_0]; rfl) rfl ?_
    refine ca_iload_n hX (q := 29) 0 rfl rfl rfl dX6_beside_28 ?_
    refine ca_iconst hX (q := 30) k_iconst_5 rfl dX6_beside_29 ?_
    refine ca_icmp_ge hX (q := 33) 38 rfl rfl dX6_beside_30 (fun c30 => ?_) (fun c30 => ?_)
    · refine ca_iload_n hX (q := 39) 0 rfl rfl rfl dX6_beside_38 ?_
      refine ca_iconst hX (q := 40) k_iconst_5 rfl dX6_beside_39 ?_
      refine ca_isub hX (q := 41) rfl dX6_beside_40 ?_
      refine ca_iret hX rfl rfl rfl rfl dX6_beside_41 ?_
      exact ⟨by rw [bsW, if_pos hw0, if_neg (by have := nI_hi (b := 5) (a := r) c30 (by omega) (by omega); omega), show (5 : Int32) = nI 5 from rfl, pk_sub (by have := nI_hi (b := 5) (a := r) c30 (by omega) (by omega); omega)], rfl⟩
    · refine ca_bipush hX (q := 35) k_bipush_m9 rfl dX6_beside_33 ?_
      refine ca_goto hX 41 rfl dX6_beside_35 ?_
      refine ca_iret hX rfl rfl rfl rfl dX6_beside_41 ?_
      exact ⟨by rw [bsW, if_pos hw0, if_pos (nI_lo (b := 5) (a := r) c30 (by omega) (by omega))], rfl⟩
  have hq1 : nI w = 1 ↔ w = 1 := nI_eq (b := 1) (by omega) (by omega)
  by_cases e1_1 : nI w = 1
  · have hw1 := hq1.mp e1_1
    refine ca_tabIn hX 42 dX6_beside_1 (by rw [e1_1]; decide) (by rw [e1_1]; decide) (by rw [e1_1]; rfl) rfl ?_
    refine ca_iload_n hX (q := 43) 0 rfl rfl rfl dX6_beside_42 ?_
    refine ca_iconst hX (q := 44) k_iconst_5 rfl dX6_beside_43 ?_
    refine ca_irem hX (q := 45) (by decide) rfl dX6_beside_44 ?_
    refine ca_if_ne hX (q := 48) 53 rfl rfl dX6_beside_45 (fun c45 => ?_) (fun c45 => ?_)
    · refine ca_iload_n hX (q := 54) 0 rfl rfl rfl dX6_beside_53 ?_
      refine ca_iconst hX (q := 55) k_iconst_1 rfl dX6_beside_54 ?_
      refine ca_isub hX (q := 56) rfl dX6_beside_55 ?_
      refine ca_iret hX rfl rfl rfl rfl dX6_beside_56 ?_
      rw [(show nI r - nI r / 5 * 5 = nI (r % 5) from pk_rem (d := 5) (by omega) (by omega) (by omega))] at c45
      have hr5 : r % 5 ≠ 0 := fun q => c45 (by rw [q]; rfl)
      exact ⟨by rw [bsW, if_neg (by omega), if_pos hw1, if_neg hr5, nI_m1 (by omega)], rfl⟩
    · refine ca_bipush hX (q := 50) k_bipush_m9 rfl dX6_beside_48 ?_
      refine ca_goto hX 56 rfl dX6_beside_50 ?_
      refine ca_iret hX rfl rfl rfl rfl dX6_beside_56 ?_
      rw [(show nI r - nI r / 5 * 5 = nI (r % 5) from pk_rem (d := 5) (by omega) (by omega) (by omega))] at c45
      exact ⟨by rw [bsW, if_neg (by omega), if_pos hw1, if_pos ((nI_eq (b := 0) (by omega) (by omega)).mp c45)], rfl⟩
  have hq2 : nI w = 2 ↔ w = 2 := nI_eq (b := 2) (by omega) (by omega)
  by_cases e1_2 : nI w = 2
  · have hw2 := hq2.mp e1_2
    refine ca_tabIn hX 57 dX6_beside_1 (by rw [e1_2]; decide) (by rw [e1_2]; decide) (by rw [e1_2]; rfl) rfl ?_
    refine ca_iload_n hX (q := 58) 0 rfl rfl rfl dX6_beside_57 ?_
    refine ca_iconst hX (q := 59) k_iconst_5 rfl dX6_beside_58 ?_
    refine ca_irem hX (q := 60) (by decide) rfl dX6_beside_59 ?_
    refine ca_iconst hX (q := 61) k_iconst_4 rfl dX6_beside_60 ?_
    refine ca_icmp_ne hX (q := 64) 69 rfl rfl dX6_beside_61 (fun c61 => ?_) (fun c61 => ?_)
    · refine ca_iload_n hX (q := 70) 0 rfl rfl rfl dX6_beside_69 ?_
      refine ca_iconst hX (q := 71) k_iconst_1 rfl dX6_beside_70 ?_
      refine ca_iadd hX (q := 72) rfl dX6_beside_71 ?_
      refine ca_iret hX rfl rfl rfl rfl dX6_beside_72 ?_
      rw [(show nI r - nI r / 5 * 5 = nI (r % 5) from pk_rem (d := 5) (by omega) (by omega) (by omega))] at c61
      exact ⟨by rw [bsW, if_neg (by omega), if_neg (by omega), if_pos hw2, if_neg (fun q => c61 (by rw [q]; rfl)), nI_1], rfl⟩
    · refine ca_bipush hX (q := 66) k_bipush_m9 rfl dX6_beside_64 ?_
      refine ca_goto hX 72 rfl dX6_beside_66 ?_
      refine ca_iret hX rfl rfl rfl rfl dX6_beside_72 ?_
      rw [(show nI r - nI r / 5 * 5 = nI (r % 5) from pk_rem (d := 5) (by omega) (by omega) (by omega))] at c61
      exact ⟨by rw [bsW, if_neg (by omega), if_neg (by omega), if_pos hw2, if_pos ((nI_eq (b := 4) (by omega) (by omega)).mp c61)], rfl⟩
  have hn0 : w ≠ 0 := fun q => e1_0 (hq0.mpr q)
  have hn1 : w ≠ 1 := fun q => e1_1 (hq1.mpr q)
  have hn2 : w ≠ 2 := fun q => e1_2 (hq2.mpr q)
  refine ca_tabOut hX 73 dX6_beside_1 (by have z0 := lv_neT (k := 0) (a := 0) e1_0 (by decide); have z1 := lv_neT (k := 1) (a := 1) e1_1 (by decide); have z2 := lv_neT (k := 2) (a := 2) e1_2 (by decide); omega) rfl ?_
  refine ca_iload_n hX (q := 74) 0 rfl rfl rfl dX6_beside_73 ?_
  refine ca_bipush hX (q := 76) k_bipush_20 rfl dX6_beside_74 ?_
  refine ca_icmp_lt hX (q := 79) 84 rfl rfl dX6_beside_76 (fun c76 => ?_) (fun c76 => ?_)
  · refine ca_iload_n hX (q := 85) 0 rfl rfl rfl dX6_beside_84 ?_
    refine ca_iconst hX (q := 86) k_iconst_5 rfl dX6_beside_85 ?_
    refine ca_iadd hX (q := 87) rfl dX6_beside_86 ?_
    refine ca_iret hX rfl rfl rfl rfl dX6_beside_87 ?_
    exact ⟨by rw [bsW, if_neg (by omega), if_neg (by omega), if_neg (by omega), if_neg (by have := nI_hi2 (b := 20) (a := r) c76 (by omega) (by omega); omega), show (5 : Int32) = nI 5 from rfl, nI_add], rfl⟩
  · refine ca_bipush hX (q := 81) k_bipush_m9 rfl dX6_beside_79 ?_
    refine ca_goto hX 87 rfl dX6_beside_81 ?_
    refine ca_iret hX rfl rfl rfl rfl dX6_beside_87 ?_
    exact ⟨by rw [bsW, if_neg (by omega), if_neg (by omega), if_neg (by omega), if_pos (nI_lo2 (b := 20) (a := r) c76 (by omega) (by omega))], rfl⟩

