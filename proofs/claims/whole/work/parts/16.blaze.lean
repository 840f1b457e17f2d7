/-! a blaze in the cells: B 0 catching, 1 worths, 2 sayable, 3 order, 4 fresh, 5 burning, 6 beside, 7 said in; B 8: people, speakers, said rooms, last fresh, spoken minutes -/
def bzG (g : ca_G) (z : Nat) (B : Nat → Nat → Int32) : Prop :=
  g z = .inr (0, [.ref (z + 1), .ref (z + 2), .ref (z + 3), .ref (z + 4), .ref (z + 5), .ref (z + 6), .ref (z + 7), .ref (z + 8), .int (B 8 0), .int (B 8 1), .int (B 8 2), .int (B 8 3), .int (B 8 4)]) ∧
  g (z + 1) = .inl (5, B 0) ∧ g (z + 2) = .inl (25, B 1) ∧ g (z + 3) = .inl (5, B 2) ∧ g (z + 4) = .inl (5, B 3) ∧ g (z + 5) = .inl (101, B 4) ∧ g (z + 6) = .inl (101, B 5) ∧ g (z + 7) = .inl (101, B 6) ∧ g (z + 8) = .inl (101, B 7)
def upB (B : Nat → Nat → Int32) (i k : Nat) (x : Int32) : Nat → Nat → Int32 := fun j => if j = i then upd (B i) k x else B j
theorem upB_s (B : Nat → Nat → Int32) (i k : Nat) (x : Int32) : upB B i k x i = upd (B i) k x := if_pos rfl
theorem upB_n (B : Nat → Nat → Int32) {i j : Nat} (k : Nat) (x : Int32) (h : j ≠ i) : upB B i k x j = B j := if_neg h
theorem bzG.fr {g g' : ca_G} {z lo hi : Nat} {B : Nat → Nat → Int32} (h : bzG g z B) (f : frG g g' lo hi) (hd : z + 9 ≤ lo ∨ hi ≤ z) : bzG g' z B := by
  obtain ⟨c0, c1, c2, c3, c4, c5, c6, c7, c8⟩ := h
  exact ⟨(f z (by omega)).trans c0, (f (z + 1) (by omega)).trans c1, (f (z + 2) (by omega)).trans c2, (f (z + 3) (by omega)).trans c3, (f (z + 4) (by omega)).trans c4, (f (z + 5) (by omega)).trans c5, (f (z + 6) (by omega)).trans c6, (f (z + 7) (by omega)).trans c7, (f (z + 8) (by omega)).trans c8⟩

theorem bz_a0 {g g2 : ca_G} {z k : Nat} {x : Int32} {B : Nat → Nat → Int32} (h : bzG g z B) (hE : g2 (z + 1) = .inl (5, upd (B 0) k x)) (hF : ∀ j, j ≠ z + 1 → g2 j = g j) : bzG g2 z (upB B 0 k x) := by
  obtain ⟨c0, c1, c2, c3, c4, c5, c6, c7, c8⟩ := h
  exact ⟨(hF z (by omega)).trans c0, hE, (hF (z + 2) (by omega)).trans c2, (hF (z + 3) (by omega)).trans c3, (hF (z + 4) (by omega)).trans c4, (hF (z + 5) (by omega)).trans c5, (hF (z + 6) (by omega)).trans c6, (hF (z + 7) (by omega)).trans c7, (hF (z + 8) (by omega)).trans c8⟩
theorem bz_a1 {g g2 : ca_G} {z k : Nat} {x : Int32} {B : Nat → Nat → Int32} (h : bzG g z B) (hE : g2 (z + 2) = .inl (25, upd (B 1) k x)) (hF : ∀ j, j ≠ z + 2 → g2 j = g j) : bzG g2 z (upB B 1 k x) := by
  obtain ⟨c0, c1, c2, c3, c4, c5, c6, c7, c8⟩ := h
  exact ⟨(hF z (by omega)).trans c0, (hF (z + 1) (by omega)).trans c1, hE, (hF (z + 3) (by omega)).trans c3, (hF (z + 4) (by omega)).trans c4, (hF (z + 5) (by omega)).trans c5, (hF (z + 6) (by omega)).trans c6, (hF (z + 7) (by omega)).trans c7, (hF (z + 8) (by omega)).trans c8⟩
theorem bz_a2 {g g2 : ca_G} {z k : Nat} {x : Int32} {B : Nat → Nat → Int32} (h : bzG g z B) (hE : g2 (z + 3) = .inl (5, upd (B 2) k x)) (hF : ∀ j, j ≠ z + 3 → g2 j = g j) : bzG g2 z (upB B 2 k x) := by
  obtain ⟨c0, c1, c2, c3, c4, c5, c6, c7, c8⟩ := h
  exact ⟨(hF z (by omega)).trans c0, (hF (z + 1) (by omega)).trans c1, (hF (z + 2) (by omega)).trans c2, hE, (hF (z + 4) (by omega)).trans c4, (hF (z + 5) (by omega)).trans c5, (hF (z + 6) (by omega)).trans c6, (hF (z + 7) (by omega)).trans c7, (hF (z + 8) (by omega)).trans c8⟩
theorem bz_a3 {g g2 : ca_G} {z k : Nat} {x : Int32} {B : Nat → Nat → Int32} (h : bzG g z B) (hE : g2 (z + 4) = .inl (5, upd (B 3) k x)) (hF : ∀ j, j ≠ z + 4 → g2 j = g j) : bzG g2 z (upB B 3 k x) := by
  obtain ⟨c0, c1, c2, c3, c4, c5, c6, c7, c8⟩ := h
  exact ⟨(hF z (by omega)).trans c0, (hF (z + 1) (by omega)).trans c1, (hF (z + 2) (by omega)).trans c2, (hF (z + 3) (by omega)).trans c3, hE, (hF (z + 5) (by omega)).trans c5, (hF (z + 6) (by omega)).trans c6, (hF (z + 7) (by omega)).trans c7, (hF (z + 8) (by omega)).trans c8⟩
theorem bz_a4 {g g2 : ca_G} {z k : Nat} {x : Int32} {B : Nat → Nat → Int32} (h : bzG g z B) (hE : g2 (z + 5) = .inl (101, upd (B 4) k x)) (hF : ∀ j, j ≠ z + 5 → g2 j = g j) : bzG g2 z (upB B 4 k x) := by
  obtain ⟨c0, c1, c2, c3, c4, c5, c6, c7, c8⟩ := h
  exact ⟨(hF z (by omega)).trans c0, (hF (z + 1) (by omega)).trans c1, (hF (z + 2) (by omega)).trans c2, (hF (z + 3) (by omega)).trans c3, (hF (z + 4) (by omega)).trans c4, hE, (hF (z + 6) (by omega)).trans c6, (hF (z + 7) (by omega)).trans c7, (hF (z + 8) (by omega)).trans c8⟩
theorem bz_a5 {g g2 : ca_G} {z k : Nat} {x : Int32} {B : Nat → Nat → Int32} (h : bzG g z B) (hE : g2 (z + 6) = .inl (101, upd (B 5) k x)) (hF : ∀ j, j ≠ z + 6 → g2 j = g j) : bzG g2 z (upB B 5 k x) := by
  obtain ⟨c0, c1, c2, c3, c4, c5, c6, c7, c8⟩ := h
  exact ⟨(hF z (by omega)).trans c0, (hF (z + 1) (by omega)).trans c1, (hF (z + 2) (by omega)).trans c2, (hF (z + 3) (by omega)).trans c3, (hF (z + 4) (by omega)).trans c4, (hF (z + 5) (by omega)).trans c5, hE, (hF (z + 7) (by omega)).trans c7, (hF (z + 8) (by omega)).trans c8⟩
theorem bz_a6 {g g2 : ca_G} {z k : Nat} {x : Int32} {B : Nat → Nat → Int32} (h : bzG g z B) (hE : g2 (z + 7) = .inl (101, upd (B 6) k x)) (hF : ∀ j, j ≠ z + 7 → g2 j = g j) : bzG g2 z (upB B 6 k x) := by
  obtain ⟨c0, c1, c2, c3, c4, c5, c6, c7, c8⟩ := h
  exact ⟨(hF z (by omega)).trans c0, (hF (z + 1) (by omega)).trans c1, (hF (z + 2) (by omega)).trans c2, (hF (z + 3) (by omega)).trans c3, (hF (z + 4) (by omega)).trans c4, (hF (z + 5) (by omega)).trans c5, (hF (z + 6) (by omega)).trans c6, hE, (hF (z + 8) (by omega)).trans c8⟩
theorem bz_a7 {g g2 : ca_G} {z k : Nat} {x : Int32} {B : Nat → Nat → Int32} (h : bzG g z B) (hE : g2 (z + 8) = .inl (101, upd (B 7) k x)) (hF : ∀ j, j ≠ z + 8 → g2 j = g j) : bzG g2 z (upB B 7 k x) := by
  obtain ⟨c0, c1, c2, c3, c4, c5, c6, c7, c8⟩ := h
  exact ⟨(hF z (by omega)).trans c0, (hF (z + 1) (by omega)).trans c1, (hF (z + 2) (by omega)).trans c2, (hF (z + 3) (by omega)).trans c3, (hF (z + 4) (by omega)).trans c4, (hF (z + 5) (by omega)).trans c5, (hF (z + 6) (by omega)).trans c6, (hF (z + 7) (by omega)).trans c7, hE⟩
theorem bz_s0 {g g2 : ca_G} {z : Nat} {x : Int32} {B : Nat → Nat → Int32} (h : bzG g z B) (hE : g2 z = .inr (0, [.ref (z + 1), .ref (z + 2), .ref (z + 3), .ref (z + 4), .ref (z + 5), .ref (z + 6), .ref (z + 7), .ref (z + 8), .int x, .int (B 8 1), .int (B 8 2), .int (B 8 3), .int (B 8 4)])) (hF : ∀ j, j ≠ z → g2 j = g j) : bzG g2 z (upB B 8 0 x) := by
  obtain ⟨c0, c1, c2, c3, c4, c5, c6, c7, c8⟩ := h
  exact ⟨hE, (hF (z + 1) (by omega)).trans c1, (hF (z + 2) (by omega)).trans c2, (hF (z + 3) (by omega)).trans c3, (hF (z + 4) (by omega)).trans c4, (hF (z + 5) (by omega)).trans c5, (hF (z + 6) (by omega)).trans c6, (hF (z + 7) (by omega)).trans c7, (hF (z + 8) (by omega)).trans c8⟩
theorem bz_s1 {g g2 : ca_G} {z : Nat} {x : Int32} {B : Nat → Nat → Int32} (h : bzG g z B) (hE : g2 z = .inr (0, [.ref (z + 1), .ref (z + 2), .ref (z + 3), .ref (z + 4), .ref (z + 5), .ref (z + 6), .ref (z + 7), .ref (z + 8), .int (B 8 0), .int x, .int (B 8 2), .int (B 8 3), .int (B 8 4)])) (hF : ∀ j, j ≠ z → g2 j = g j) : bzG g2 z (upB B 8 1 x) := by
  obtain ⟨c0, c1, c2, c3, c4, c5, c6, c7, c8⟩ := h
  exact ⟨hE, (hF (z + 1) (by omega)).trans c1, (hF (z + 2) (by omega)).trans c2, (hF (z + 3) (by omega)).trans c3, (hF (z + 4) (by omega)).trans c4, (hF (z + 5) (by omega)).trans c5, (hF (z + 6) (by omega)).trans c6, (hF (z + 7) (by omega)).trans c7, (hF (z + 8) (by omega)).trans c8⟩
theorem bz_s2 {g g2 : ca_G} {z : Nat} {x : Int32} {B : Nat → Nat → Int32} (h : bzG g z B) (hE : g2 z = .inr (0, [.ref (z + 1), .ref (z + 2), .ref (z + 3), .ref (z + 4), .ref (z + 5), .ref (z + 6), .ref (z + 7), .ref (z + 8), .int (B 8 0), .int (B 8 1), .int x, .int (B 8 3), .int (B 8 4)])) (hF : ∀ j, j ≠ z → g2 j = g j) : bzG g2 z (upB B 8 2 x) := by
  obtain ⟨c0, c1, c2, c3, c4, c5, c6, c7, c8⟩ := h
  exact ⟨hE, (hF (z + 1) (by omega)).trans c1, (hF (z + 2) (by omega)).trans c2, (hF (z + 3) (by omega)).trans c3, (hF (z + 4) (by omega)).trans c4, (hF (z + 5) (by omega)).trans c5, (hF (z + 6) (by omega)).trans c6, (hF (z + 7) (by omega)).trans c7, (hF (z + 8) (by omega)).trans c8⟩
theorem bz_s3 {g g2 : ca_G} {z : Nat} {x : Int32} {B : Nat → Nat → Int32} (h : bzG g z B) (hE : g2 z = .inr (0, [.ref (z + 1), .ref (z + 2), .ref (z + 3), .ref (z + 4), .ref (z + 5), .ref (z + 6), .ref (z + 7), .ref (z + 8), .int (B 8 0), .int (B 8 1), .int (B 8 2), .int x, .int (B 8 4)])) (hF : ∀ j, j ≠ z → g2 j = g j) : bzG g2 z (upB B 8 3 x) := by
  obtain ⟨c0, c1, c2, c3, c4, c5, c6, c7, c8⟩ := h
  exact ⟨hE, (hF (z + 1) (by omega)).trans c1, (hF (z + 2) (by omega)).trans c2, (hF (z + 3) (by omega)).trans c3, (hF (z + 4) (by omega)).trans c4, (hF (z + 5) (by omega)).trans c5, (hF (z + 6) (by omega)).trans c6, (hF (z + 7) (by omega)).trans c7, (hF (z + 8) (by omega)).trans c8⟩
theorem bz_s4 {g g2 : ca_G} {z : Nat} {x : Int32} {B : Nat → Nat → Int32} (h : bzG g z B) (hE : g2 z = .inr (0, [.ref (z + 1), .ref (z + 2), .ref (z + 3), .ref (z + 4), .ref (z + 5), .ref (z + 6), .ref (z + 7), .ref (z + 8), .int (B 8 0), .int (B 8 1), .int (B 8 2), .int (B 8 3), .int x])) (hF : ∀ j, j ≠ z → g2 j = g j) : bzG g2 z (upB B 8 4 x) := by
  obtain ⟨c0, c1, c2, c3, c4, c5, c6, c7, c8⟩ := h
  exact ⟨hE, (hF (z + 1) (by omega)).trans c1, (hF (z + 2) (by omega)).trans c2, (hF (z + 3) (by omega)).trans c3, (hF (z + 4) (by omega)).trans c4, (hF (z + 5) (by omega)).trans c5, (hF (z + 6) (by omega)).trans c6, (hF (z + 7) (by omega)).trans c7, (hF (z + 8) (by omega)).trans c8⟩
def bsI (x : Int32) : Int32 := (((x &&& (-17318417)) <<< ((1 : Int32) &&& 31) ||| (x &&& (-1082402)) >>> ((1 : Int32) &&& 31)) ||| x <<< ((5 : Int32) &&& 31) ||| x >>> ((5 : Int32) &&& 31)) &&& 33554431

set_option maxRecDepth 100000 in
set_option maxHeartbeats 4000000 in
theorem c_X0_allBeside (l : Launch) (N : Nat) (g : ca_G) (x : Int32) : ca_Ct l yX0_allBeside cX0_allBeside 2 (some .int) 0 0 0 N 1000000 [.int x] g (ca_pi (bsI x) g) := by
  refine ca_intro (by decide) (Nat.le_of_ble_eq_true rfl) (fun X hX hN => ?_)
  show X 0 [_, none] [] N 1000000 g
  refine ca_iload_n hX (q := 1) 0 rfl rfl rfl dX0_allBeside_0 ?_
  refine ca_ldc hX (q := 3) w_k_X0_108 rfl dX0_allBeside_1 ?_
  refine ca_iand hX (q := 4) rfl dX0_allBeside_3 ?_
  refine ca_iconst hX (q := 5) k_iconst_1 rfl dX0_allBeside_4 ?_
  refine ca_ishl hX (q := 6) rfl dX0_allBeside_5 ?_
  refine ca_iload_n hX (q := 7) 0 rfl rfl rfl dX0_allBeside_6 ?_
  refine ca_ldc hX (q := 9) w_k_X0_109 rfl dX0_allBeside_7 ?_
  refine ca_iand hX (q := 10) rfl dX0_allBeside_9 ?_
  refine ca_iconst hX (q := 11) k_iconst_1 rfl dX0_allBeside_10 ?_
  refine ca_ishr hX (q := 12) rfl dX0_allBeside_11 ?_
  refine ca_ior hX (q := 13) rfl dX0_allBeside_12 ?_
  refine ca_istore_n hX (q := 14) 1 rfl (ls' := [_, _]) (Nat.le_of_ble_eq_true rfl) (Nat.le_of_ble_eq_true rfl) (Or.inr rfl) rfl rfl dX0_allBeside_13 ?_
  refine ca_iload_n hX (q := 15) 1 rfl rfl rfl dX0_allBeside_14 ?_
  refine ca_iload_n hX (q := 16) 0 rfl rfl rfl dX0_allBeside_15 ?_
  refine ca_iconst hX (q := 17) k_iconst_5 rfl dX0_allBeside_16 ?_
  refine ca_ishl hX (q := 18) rfl dX0_allBeside_17 ?_
  refine ca_ior hX (q := 19) rfl dX0_allBeside_18 ?_
  refine ca_iload_n hX (q := 20) 0 rfl rfl rfl dX0_allBeside_19 ?_
  refine ca_iconst hX (q := 21) k_iconst_5 rfl dX0_allBeside_20 ?_
  refine ca_ishr hX (q := 22) rfl dX0_allBeside_21 ?_
  refine ca_ior hX (q := 23) rfl dX0_allBeside_22 ?_
  refine ca_ldc hX (q := 25) w_k_X0_110 rfl dX0_allBeside_23 ?_
  refine ca_iand hX (q := 26) rfl dX0_allBeside_25 ?_
  refine ca_iret hX rfl rfl rfl rfl dX0_allBeside_26 ?_
  exact ⟨rfl, rfl⟩

set_option maxRecDepth 100000 in
set_option maxHeartbeats 4000000 in
theorem c_X0_lastMinute (l : Launch) (N : Nat) (g : ca_G) (z : Nat) (B : Nat → Nat → Int32) (hz : bzG g z B) (hb : z + 9 ≤ N) : ca_Ct l yX0_lastMinute cX0_lastMinute 1 (some .int) 0 0 0 N 1000000 [.ref z] g (ca_pi (B 8 3) g) := by
  refine ca_intro (by decide) (Nat.le_of_ble_eq_true rfl) (fun X hX hN => ?_)
  show X 0 [_] [] N 1000000 g
  obtain ⟨c0, c1, c2, c3, c4, c5, c6, c7, c8⟩ := id hz
  refine ca_aload_n hX (q := 1) 0 rfl rfl rfl dX0_lastMinute_0 ?_
  refine ca_getf hX (q := 4) cl_X0 11 (by decide) w_fl_X0_87 (by omega) c0 rfl rfl dX0_lastMinute_1 ?_
  refine ca_iret hX rfl rfl rfl rfl dX0_lastMinute_4 ?_
  exact ⟨rfl, rfl⟩

set_option maxRecDepth 100000 in
set_option maxHeartbeats 4000000 in
theorem c_X0_isMinute (l : Launch) (N : Nat) (g : ca_G) (m : Nat) (hm : m < 101) : ca_Ct l yX0_isMinute cX0_isMinute 1 (some .boolean) 0 0 0 N 1000000 [.int (nI m)] g (ca_pi 1 g) := by
  refine ca_intro (by decide) (Nat.le_of_ble_eq_true rfl) (fun X hX hN => ?_)
  show X 0 [_] [] N 1000000 g
  refine ca_iload_n hX (q := 1) 0 rfl rfl rfl dX0_isMinute_0 ?_
  refine ca_if_lt hX (q := 4) 14 rfl rfl dX0_isMinute_1 (fun z => absurd z (nI_nlt (a := m) (b := 0) (by omega) (by omega))) (fun _ => ?_)
  refine ca_iload_n hX (q := 5) 0 rfl rfl rfl dX0_isMinute_4 ?_
  refine ca_bipush hX (q := 7) k_bipush_101 rfl dX0_isMinute_5 ?_
  refine ca_icmp_ge hX (q := 10) 14 rfl rfl dX0_isMinute_7 (fun z => absurd z (nI_ge (a := m) (b := 101) (by omega) (by omega))) (fun _ => ?_)
  refine ca_iconst hX (q := 11) k_iconst_1 rfl dX0_isMinute_10 ?_
  refine ca_goto hX 15 rfl dX0_isMinute_11 ?_
  refine ca_zret hX rfl rfl rfl rfl rfl dX0_isMinute_15 ?_
  exact ⟨rfl, rfl⟩

set_option maxRecDepth 100000 in
set_option maxHeartbeats 4000000 in
theorem c_X0_burnt (l : Launch) (N : Nat) (g : ca_G) (z : Nat) (B : Nat → Nat → Int32) (hz : bzG g z B) (hb : z + 9 ≤ N) (L : Nat) (hL : B 8 3 = nI L) (hL1 : L < 101) : ca_Ct l yX0_burnt cX0_burnt 1 (some .int) 1 0 0 N 1000000 [.ref z] g (ca_pi (B 5 L) g) := by
  refine ca_intro (by decide) (Nat.le_of_ble_eq_true rfl) (fun X hX hN => ?_)
  show X 0 [_] [] N 1000000 g
  obtain ⟨c0, c1, c2, c3, c4, c5, c6, c7, c8⟩ := id hz
  rw [hL] at c0
  refine ca_aload_n hX (q := 1) 0 rfl rfl rfl dX0_burnt_0 ?_
  refine ca_getf hX (q := 4) cl_X0 11 (by decide) w_fl_X0_87 (by omega) c0 rfl rfl dX0_burnt_1 ?_
  refine ca_cSi hX (q := 7) y_X0_isMinute w_ml_X0_120 hN (c_X0_isMinute l N g L hL1) (by decide) rfl (by decide) rfl dX0_burnt_4 rfl ?_
  refine ca_if_eq hX (q := 10) 22 rfl rfl dX0_burnt_7 (fun z => absurd z (by decide)) (fun _ => ?_)
  refine ca_aload_n hX (q := 11) 0 rfl rfl rfl dX0_burnt_10 ?_
  refine ca_getf hX (q := 14) cl_X0 5 (by decide) w_fl_X0_27 (by omega) c0 rfl rfl dX0_burnt_11 ?_
  refine ca_aload_n hX (q := 15) 0 rfl rfl rfl dX0_burnt_14 ?_
  refine ca_getf hX (q := 18) cl_X0 11 (by decide) w_fl_X0_87 (by omega) c0 rfl rfl dX0_burnt_15 ?_
  refine ca_iaN hX (q := 19) (k := L) (by omega) c6 (by decide) rfl hL1 rfl dX0_burnt_18 ?_
  refine ca_goto hX 23 rfl dX0_burnt_19 ?_
  refine ca_iret hX rfl rfl rfl rfl dX0_burnt_23 ?_
  exact ⟨rfl, rfl⟩

set_option maxRecDepth 100000 in
set_option maxHeartbeats 4000000 in
theorem c_X0_roomsBurnt (l : Launch) (N : Nat) (g : ca_G) (z : Nat) (B : Nat → Nat → Int32) (hz : bzG g z B) (hb : z + 9 ≤ N) (L : Nat) (hL : B 8 3 = nI L) (hL1 : L < 101) : ca_Ct l yX0_roomsBurnt cX0_roomsBurnt 1 (some .int) 2 0 0 N 1000000 [.ref z] g (ca_pi (bcI (B 5 L)) g) := by
  refine ca_intro (by decide) (Nat.le_of_ble_eq_true rfl) (fun X hX hN => ?_)
  show X 0 [_] [] N 1000000 g
  obtain ⟨c0, c1, c2, c3, c4, c5, c6, c7, c8⟩ := id hz
  refine ca_aload_n hX (q := 1) 0 rfl rfl rfl dX0_roomsBurnt_0 ?_
  refine ca_cVi hX (q := 4) y_X0_burnt w_ml_X0_111 (by omega) hN c0 (c_X0_burnt l N g z B hz hb L hL hL1) (by decide) rfl (by decide) rfl dX0_roomsBurnt_1 rfl ?_
  refine ca_cSi hX (q := 7) y_J6_bitCount_0f7a4 w_ml_X0_115 hN (c_J6_bitCount l N g _) (by decide) rfl (by decide) rfl dX0_roomsBurnt_4 rfl ?_
  refine ca_iret hX rfl rfl rfl rfl dX0_roomsBurnt_7 ?_
  exact ⟨rfl, rfl⟩

def wbM (x : Int32) (wo : Nat → Int32) : Nat → Int32
  | 0 => 0
  | n + 1 => if bt x n = true then wbM x wo n + wo n else wbM x wo n

set_option maxRecDepth 100000 in
set_option maxHeartbeats 4000000 in
theorem c_X0_worthBurnt (l : Launch) (N : Nat) (g : ca_G) (z : Nat) (B : Nat → Nat → Int32) (hz : bzG g z B) (hb : z + 9 ≤ N) (L : Nat) (hL : B 8 3 = nI L) (hL1 : L < 101) : ca_Ct l yX0_worthBurnt cX0_worthBurnt 4 (some .int) 2 0 0 N 1000000 [.ref z] g (ca_pi (wbM (B 5 L) (B 1) 25) g) := by
  refine ca_intro (by decide) (Nat.le_of_ble_eq_true rfl) (fun X hX hN => ?_)
  show X 0 [_, none, none, none] [] N 1000000 g
  obtain ⟨c0, c1, c2, c3, c4, c5, c6, c7, c8⟩ := id hz
  have loop : ∀ (n i : Nat), i + n = 25 → X 9 [some (.ref z), some (.int (B 5 L)), some (.int (wbM (B 5 L) (B 1) i)), some (.int (nI i))] [] N 1000000 g := by
    intro n
    induction n with
    | zero =>
      intro i hi
      obtain rfl : i = 25 := by omega
      refine ca_iload_n hX (q := 10) 3 rfl rfl rfl dX0_worthBurnt_9 ?_
      refine ca_bipush hX (q := 12) k_bipush_25 rfl dX0_worthBurnt_10 ?_
      refine ca_icmp_ge hX (q := 15) 39 rfl rfl dX0_worthBurnt_12 (fun _ => ?_) (fun z => absurd (nI_le (a := 25) (b := 25) (by omega) (by omega)) z)
      refine ca_iload_n hX (q := 40) 2 rfl rfl rfl dX0_worthBurnt_39 ?_
      refine ca_iret hX rfl rfl rfl rfl dX0_worthBurnt_40 ?_
      exact ⟨rfl, rfl⟩
    | succ n ih =>
      intro i hi
      refine ca_iload_n hX (q := 10) 3 rfl rfl rfl dX0_worthBurnt_9 ?_
      refine ca_bipush hX (q := 12) k_bipush_25 rfl dX0_worthBurnt_10 ?_
      refine ca_icmp_ge hX (q := 15) 39 rfl rfl dX0_worthBurnt_12 (fun z => absurd z (nI_ge (a := i) (b := 25) (by omega) (by omega))) (fun _ => ?_)
      refine ca_iload_n hX (q := 16) 1 rfl rfl rfl dX0_worthBurnt_15 ?_
      refine ca_iload_n hX (q := 17) 3 rfl rfl rfl dX0_worthBurnt_16 ?_
      refine ca_ishr hX (q := 18) rfl dX0_worthBurnt_17 ?_
      refine ca_iconst hX (q := 19) k_iconst_1 rfl dX0_worthBurnt_18 ?_
      refine ca_iand hX (q := 20) rfl dX0_worthBurnt_19 ?_
      refine ca_iconst hX (q := 21) k_iconst_1 rfl dX0_worthBurnt_20 ?_
      refine ca_icmp_ne hX (q := 24) 33 rfl rfl dX0_worthBurnt_21 (fun c21 => ?_) (fun c21 => ?_)
      · refine ca_iinc hX (q := 36) (ls' := [_, _, _, _]) k_iconst_1 rfl (Nat.le_of_ble_eq_true rfl) (Or.inr rfl) rfl rfl dX0_worthBurnt_33 ?_
        refine ca_goto hX 9 rfl dX0_worthBurnt_36 ?_
        rw [b_tst (by omega)] at c21
        rw [nI_1, show wbM (B 5 L) (B 1) i = wbM (B 5 L) (B 1) (i + 1) by rw [wbM, if_neg c21]]
        exact ih (i + 1) (by omega)
      · refine ca_iload_n hX (q := 25) 2 rfl rfl rfl dX0_worthBurnt_24 ?_
        refine ca_aload_n hX (q := 26) 0 rfl rfl rfl dX0_worthBurnt_25 ?_
        refine ca_getf hX (q := 29) cl_X0 1 (by decide) w_fl_X0_15 (by omega) c0 rfl rfl dX0_worthBurnt_26 ?_
        refine ca_iload_n hX (q := 30) 3 rfl rfl rfl dX0_worthBurnt_29 ?_
        refine ca_iaN hX (q := 31) (k := i) (by omega) c2 (by decide) rfl (by omega) rfl dX0_worthBurnt_30 ?_
        refine ca_iadd hX (q := 32) rfl dX0_worthBurnt_31 ?_
        refine ca_istore_n hX (q := 33) 2 rfl (ls' := [_, _, _, _]) (Nat.le_of_ble_eq_true rfl) (Nat.le_of_ble_eq_true rfl) (Or.inr rfl) rfl rfl dX0_worthBurnt_32 ?_
        refine ca_iinc hX (q := 36) (ls' := [_, _, _, _]) k_iconst_1 rfl (Nat.le_of_ble_eq_true rfl) (Or.inr rfl) rfl rfl dX0_worthBurnt_33 ?_
        refine ca_goto hX 9 rfl dX0_worthBurnt_36 ?_
        rw [b_tst (by omega)] at c21
        rw [nI_1, show wbM (B 5 L) (B 1) i + B 1 i = wbM (B 5 L) (B 1) (i + 1) by rw [wbM, if_pos c21]]
        exact ih (i + 1) (by omega)
  refine ca_aload_n hX (q := 1) 0 rfl rfl rfl dX0_worthBurnt_0 ?_
  refine ca_cVi hX (q := 4) y_X0_burnt w_ml_X0_111 (by omega) hN c0 (c_X0_burnt l N g z B hz hb L hL hL1) (by decide) rfl (by decide) rfl dX0_worthBurnt_1 rfl ?_
  refine ca_istore_n hX (q := 5) 1 rfl (ls' := [_, _, _, _]) (Nat.le_of_ble_eq_true rfl) (Nat.le_of_ble_eq_true rfl) (Or.inr rfl) rfl rfl dX0_worthBurnt_4 ?_
  refine ca_iconst hX (q := 6) k_iconst_0 rfl dX0_worthBurnt_5 ?_
  refine ca_istore_n hX (q := 7) 2 rfl (ls' := [_, _, _, _]) (Nat.le_of_ble_eq_true rfl) (Nat.le_of_ble_eq_true rfl) (Or.inr rfl) rfl rfl dX0_worthBurnt_6 ?_
  refine ca_iconst hX (q := 8) k_iconst_0 rfl dX0_worthBurnt_7 ?_
  refine ca_istore_n hX (q := 9) 3 rfl (ls' := [_, _, _, _]) (Nat.le_of_ble_eq_true rfl) (Nat.le_of_ble_eq_true rfl) (Or.inr rfl) rfl rfl dX0_worthBurnt_8 ?_
  exact loop 25 0 (by omega)

def spM (B : Nat → Nat → Int32) (S m : Nat) : Int32 := if S = 0 then -9 else B 3 ((m - 1) % S)

set_option maxRecDepth 100000 in
set_option maxHeartbeats 4000000 in
theorem c_X0_speakerIn (l : Launch) (N : Nat) (g : ca_G) (z : Nat) (B : Nat → Nat → Int32) (hz : bzG g z B) (hb : z + 9 ≤ N) (S : Nat) (hS : B 8 1 = nI S) (hS5 : S ≤ 5) (m : Nat) (hm : 1 ≤ m) (hm2 : m < 1000) : ca_Ct l yX0_speakerIn cX0_speakerIn 2 (some .int) 0 0 0 N 1000000 [.ref z, .int (nI m)] g (ca_pi (spM B S m) g) := by
  refine ca_intro (by decide) (Nat.le_of_ble_eq_true rfl) (fun X hX hN => ?_)
  show X 0 [_, _] [] N 1000000 g
  obtain ⟨c0, c1, c2, c3, c4, c5, c6, c7, c8⟩ := id hz
  refine ca_iload_n hX (q := 1) 1 rfl rfl rfl dX0_speakerIn_0 ?_
  refine ca_iconst hX (q := 2) k_iconst_1 rfl dX0_speakerIn_1 ?_
  refine ca_icmp_lt hX (q := 5) 21 rfl rfl dX0_speakerIn_2 (fun z => absurd z (nI_nlt (a := m) (b := 1) (by omega) (by omega))) (fun _ => ?_)
  refine ca_aload_n hX (q := 6) 0 rfl rfl rfl dX0_speakerIn_5 ?_
  refine ca_getf hX (q := 9) cl_X0 9 (by decide) w_fl_X0_71 (by omega) c0 rfl rfl dX0_speakerIn_6 ?_
  refine ca_iconst hX (q := 10) k_iconst_1 rfl dX0_speakerIn_9 ?_
  refine ca_icmp_lt hX (q := 13) 21 rfl rfl dX0_speakerIn_10 (fun c10 => ?_) (fun c10 => ?_)
  · refine ca_bipush hX (q := 23) k_bipush_m9 rfl dX0_speakerIn_21 ?_
    refine ca_iret hX rfl rfl rfl rfl dX0_speakerIn_23 ?_
    refine ⟨?_, rfl⟩
    have : S = 0 := by
      rcases Nat.eq_zero_or_pos S with e | e
      · exact e
      · rw [hS] at c10; exact absurd c10 (nI_nlt (a := S) (b := 1) (by omega) (by omega))
    rw [spM, if_pos this]
  · refine ca_aload_n hX (q := 14) 0 rfl rfl rfl dX0_speakerIn_13 ?_
    refine ca_getf hX (q := 17) cl_X0 9 (by decide) w_fl_X0_71 (by omega) c0 rfl rfl dX0_speakerIn_14 ?_
    refine ca_iconst hX (q := 18) k_iconst_5 rfl dX0_speakerIn_17 ?_
    refine ca_icmp_le hX (q := 21) 24 rfl rfl dX0_speakerIn_18 (fun _ => ?_) (fun z => absurd (by rw [hS]; exact nI_le (a := S) (b := 5) (by omega) (by omega)) z)
    refine ca_aload_n hX (q := 25) 0 rfl rfl rfl dX0_speakerIn_24 ?_
    refine ca_getf hX (q := 28) cl_X0 3 (by decide) w_fl_X0_21 (by omega) c0 rfl rfl dX0_speakerIn_25 ?_
    refine ca_iload_n hX (q := 29) 1 rfl rfl rfl dX0_speakerIn_28 ?_
    refine ca_iconst hX (q := 30) k_iconst_1 rfl dX0_speakerIn_29 ?_
    refine ca_isub hX (q := 31) rfl dX0_speakerIn_30 ?_
    refine ca_aload_n hX (q := 32) 0 rfl rfl rfl dX0_speakerIn_31 ?_
    refine ca_getf hX (q := 35) cl_X0 9 (by decide) w_fl_X0_71 (by omega) c0 rfl rfl dX0_speakerIn_32 ?_
    refine ca_irem hX (q := 36) (fun e => c10 (by rw [e]; decide)) rfl dX0_speakerIn_35 ?_
    have hS0 : 0 < S := by
      rcases Nat.eq_zero_or_pos S with e | e
      · rw [hS, e] at c10; exact absurd (by decide) c10
      · exact e
    refine ca_iaN hX (q := 37) (k := (m - 1) % S) (by omega) c4 (by decide) (by rw [hS, show nI m - 1 = nI (m - 1) from by have := nI_pred (m - 1); rwa [show m - 1 + 1 = m by omega] at this, pk_rem (by omega) (by omega) (by omega)]) (by have := Nat.mod_lt (m - 1) hS0; omega) rfl dX0_speakerIn_36 ?_
    refine ca_iret hX rfl rfl rfl rfl dX0_speakerIn_37 ?_
    exact ⟨by rw [spM, if_neg (by omega)], rfl⟩

set_option maxRecDepth 100000 in
set_option maxHeartbeats 4000000 in
theorem c_X0_speakerIn_no (l : Launch) (N : Nat) (g : ca_G) (z : Nat) (B : Nat → Nat → Int32) (hz : bzG g z B) (hb : z + 9 ≤ N) (x : Int32) (hx : x < 1) : ca_Ct l yX0_speakerIn cX0_speakerIn 2 (some .int) 0 0 0 N 1000000 [.ref z, .int x] g (ca_pi (-9) g) := by
  refine ca_intro (by decide) (Nat.le_of_ble_eq_true rfl) (fun X hX hN => ?_)
  show X 0 [_, _] [] N 1000000 g
  obtain ⟨c0, c1, c2, c3, c4, c5, c6, c7, c8⟩ := id hz
  refine ca_iload_n hX (q := 1) 1 rfl rfl rfl dX0_speakerIn_0 ?_
  refine ca_iconst hX (q := 2) k_iconst_1 rfl dX0_speakerIn_1 ?_
  refine ca_icmp_lt hX (q := 5) 21 rfl rfl dX0_speakerIn_2 (fun _ => ?_) (fun z => absurd hx z)
  refine ca_bipush hX (q := 23) k_bipush_m9 rfl dX0_speakerIn_21 ?_
  refine ca_iret hX rfl rfl rfl rfl dX0_speakerIn_23 ?_
  exact ⟨rfl, rfl⟩

def sbM (B : Nat → Nat → Int32) (x : Int32) : Int32 := if x < 0 then 0 else if B 8 0 ≤ x then 0 else B 2 x.toNatClampNeg

set_option maxRecDepth 100000 in
set_option maxHeartbeats 4000000 in
theorem c_X0_sayableBy (l : Launch) (N : Nat) (g : ca_G) (z : Nat) (B : Nat → Nat → Int32) (hz : bzG g z B) (hb : z + 9 ≤ N) (P : Nat) (hP : B 8 0 = nI P) (hP5 : P ≤ 5) (x : Int32) : ca_Ct l yX0_sayableBy cX0_sayableBy 2 (some .int) 0 0 0 N 1000000 [.ref z, .int x] g (ca_pi (sbM B x) g) := by
  refine ca_intro (by decide) (Nat.le_of_ble_eq_true rfl) (fun X hX hN => ?_)
  show X 0 [_, _] [] N 1000000 g
  obtain ⟨c0, c1, c2, c3, c4, c5, c6, c7, c8⟩ := id hz
  refine ca_iload_n hX (q := 1) 1 rfl rfl rfl dX0_sayableBy_0 ?_
  refine ca_if_lt hX (q := 4) 21 rfl rfl dX0_sayableBy_1 (fun c1 => ?_) (fun c1 => ?_)
  · refine ca_iconst hX (q := 22) k_iconst_0 rfl dX0_sayableBy_21 ?_
    refine ca_iret hX rfl rfl rfl rfl dX0_sayableBy_22 ?_
    exact ⟨by rw [sbM, if_pos c1], rfl⟩
  · refine ca_iload_n hX (q := 5) 1 rfl rfl rfl dX0_sayableBy_4 ?_
    refine ca_aload_n hX (q := 6) 0 rfl rfl rfl dX0_sayableBy_5 ?_
    refine ca_getf hX (q := 9) cl_X0 8 (by decide) w_fl_X0_63 (by omega) c0 rfl rfl dX0_sayableBy_6 ?_
    refine ca_icmp_ge hX (q := 12) 21 rfl rfl dX0_sayableBy_9 (fun c9 => ?_) (fun c9 => ?_)
    · refine ca_iconst hX (q := 22) k_iconst_0 rfl dX0_sayableBy_21 ?_
      refine ca_iret hX rfl rfl rfl rfl dX0_sayableBy_22 ?_
      exact ⟨by rw [sbM, if_neg c1, if_pos c9], rfl⟩
    · refine ca_aload_n hX (q := 13) 0 rfl rfl rfl dX0_sayableBy_12 ?_
      refine ca_getf hX (q := 16) cl_X0 2 (by decide) w_fl_X0_18 (by omega) c0 rfl rfl dX0_sayableBy_13 ?_
      refine ca_iload_n hX (q := 17) 1 rfl rfl rfl dX0_sayableBy_16 ?_
      obtain ⟨j, hj, rfl⟩ := nI_of c1
      have hjP : j < P := by rw [hP] at c9; exact nI_lo c9 hj (by omega)
      refine ca_iaN hX (q := 18) (k := j) (by omega) c3 (by decide) rfl (by omega) rfl dX0_sayableBy_17 ?_
      refine ca_goto hX 22 rfl dX0_sayableBy_18 ?_
      refine ca_iret hX rfl rfl rfl rfl dX0_sayableBy_22 ?_
      exact ⟨by rw [sbM, if_neg c1, if_neg c9, nI_clamp hj], rfl⟩

