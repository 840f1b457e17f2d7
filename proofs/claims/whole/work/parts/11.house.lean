/-! a house in the cells: its numbers as the reference has them in one row (0 people, 1 night, 2 kinds, 27 figures, 52 sharp, 57 known) -/
def hsG (g : ca_G) (b : Nat) (h : Nat → Int32) : Prop :=
  g b = .inr (1, [.ref (b + 1), .ref (b + 2), .ref (b + 3), .ref (b + 4), .int (h 0), .int (h 1)]) ∧ g (b + 1) = .inl (25, fun r => h (2 + r)) ∧ g (b + 2) = .inl (25, fun r => h (27 + r)) ∧ g (b + 3) = .inl (5, fun r => h (52 + r)) ∧ g (b + 4) = .inl (125, fun r => h (57 + r))
def frG (g g' : ca_G) (lo hi : Nat) : Prop := ∀ j, (j < lo ∨ hi ≤ j) → g' j = g j
theorem frG.rf {g : ca_G} {lo hi : Nat} : frG g g lo hi := fun _ _ => rfl
theorem frG.tr {g g1 g2 : ca_G} {lo hi : Nat} (a : frG g g1 lo hi) (b : frG g1 g2 lo hi) : frG g g2 lo hi := fun j h => (b j h).trans (a j h)
theorem frG.wd {g g1 : ca_G} {lo hi lo' hi' : Nat} (a : frG g g1 lo hi) (h1 : lo' ≤ lo) (h2 : hi ≤ hi') : frG g g1 lo' hi' := fun j h => a j (by omega)
theorem hsG.fr {g g' : ca_G} {b lo hi : Nat} {h : Nat → Int32} (hh : hsG g b h) (f : frG g g' lo hi) (hd : b + 5 ≤ lo ∨ hi ≤ b) : hsG g' b h := by
  obtain ⟨h0, h1, h2, h3, h4⟩ := hh
  exact ⟨(f b (by omega)).trans h0, (f (b + 1) (by omega)).trans h1, (f (b + 2) (by omega)).trans h2, (f (b + 3) (by omega)).trans h3, (f (b + 4) (by omega)).trans h4⟩
def smI (f : Nat → Int32) : Nat → Int32
  | 0 => 0
  | n + 1 => smI f n + f n
def kdH (h : Nat → Int32) (r : Nat) : Int32 := h (2 + r)
def fgH (h : Nat → Int32) (r : Nat) : Int32 := h (27 + r)
def knH (h : Nat → Int32) (p r : Nat) : Int32 := h (57 + (25 * p + r))
def ndH (h : Nat → Int32) (r : Nat) : Int32 := ndK (kdH h r)
def ctH (h : Nat → Int32) (r : Nat) : Int32 := ctK (kdH h r)
def wtH (h : Nat → Int32) (r : Nat) : Int32 := wtK (kdH h r) (fgH h r)
def rmB (x : Int32) : Int32 := if x < 0 then 0 else if 25 ≤ x then 0 else 1
def hpB (h0 x : Int32) : Int32 := if x < 0 then 0 else if h0 ≤ x then 0 else if 5 ≤ x then 0 else 1
theorem rmB_ok {r : Nat} (h : r < 25) : rmB (nI r) = 1 := by
  rw [rmB, if_neg (nI_pos (by omega)), if_neg]
  exact nI_ge (a := r) (b := 25) h (by omega)
theorem hpB_ok {h0 : Int32} {P p : Nat} (e : h0 = nI P) (hP : P ≤ 5) (h : p < P) : hpB h0 (nI p) = 1 := by
  rw [hpB, if_neg (nI_pos (by omega)), if_neg (by rw [e]; exact nI_ge h (by omega)), if_neg]
  exact nI_ge (a := p) (b := 5) (by omega) (by omega)
theorem ixK {p r : Nat} (hp : p < 5) (hr : r < 25) : nI p * 25 + nI r = nI (25 * p + r) := by
  rw [show (25 : Int32) = nI 25 from rfl, pk_mul, nI_add, Nat.mul_comm]
theorem upd_s (f : Nat → Int32) (k : Nat) (x : Int32) : upd f k x k = x := pk_us
theorem upd_n (f : Nat → Int32) {k j : Nat} (x : Int32) (h : j ≠ k) : upd f k x j = f j := pk_un h
theorem upd_sh (h : Nat → Int32) (o k : Nat) (x : Int32) : upd (fun r => h (o + r)) k x = fun r => upd h (o + k) x (o + r) := by
  funext j
  by_cases e : j = k
  · subst e; rw [upd_s, upd_s]
  · rw [upd_n _ _ e, upd_n _ _ (by omega)]

set_option maxRecDepth 100000 in
set_option maxHeartbeats 4000000 in
theorem c_X5_isRoom (l : Launch) (N : Nat) (g : ca_G) (x : Int32) : ca_Ct l yX5_isRoom cX5_isRoom 1 (some .boolean) 0 0 0 N 1000000 [.int x] g (ca_pi (rmB x) g) := by
  refine ca_intro (by decide) (Nat.le_of_ble_eq_true rfl) (fun X hX hN => ?_)
  show X 0 [_] [] N 1000000 g
  refine ca_iload_n hX (q := 1) 0 rfl rfl rfl dX5_isRoom_0 ?_
  refine ca_if_lt hX (q := 4) 14 rfl rfl dX5_isRoom_1 (fun c1 => ?_) (fun c1 => ?_)
  · refine ca_iconst hX (q := 15) k_iconst_0 rfl dX5_isRoom_14 ?_
    refine ca_zret hX rfl rfl rfl rfl rfl dX5_isRoom_15 ?_
    refine ⟨?_, rfl⟩; simp [rmB, *]
  · refine ca_iload_n hX (q := 5) 0 rfl rfl rfl dX5_isRoom_4 ?_
    refine ca_bipush hX (q := 7) k_bipush_25 rfl dX5_isRoom_5 ?_
    refine ca_icmp_ge hX (q := 10) 14 rfl rfl dX5_isRoom_7 (fun c7 => ?_) (fun c7 => ?_)
    · refine ca_iconst hX (q := 15) k_iconst_0 rfl dX5_isRoom_14 ?_
      refine ca_zret hX rfl rfl rfl rfl rfl dX5_isRoom_15 ?_
      refine ⟨?_, rfl⟩; simp [rmB, *]
    · refine ca_iconst hX (q := 11) k_iconst_1 rfl dX5_isRoom_10 ?_
      refine ca_goto hX 15 rfl dX5_isRoom_11 ?_
      refine ca_zret hX rfl rfl rfl rfl rfl dX5_isRoom_15 ?_
      refine ⟨?_, rfl⟩; simp [rmB, *]

set_option maxRecDepth 100000 in
set_option maxHeartbeats 4000000 in
theorem c_X1_hasPerson (l : Launch) (N : Nat) (g : ca_G) (b : Nat) (h : Nat → Int32) (hh : hsG g b h) (hb : b + 5 ≤ N) (x : Int32) : ca_Ct l yX1_hasPerson cX1_hasPerson 2 (some .boolean) 0 0 0 N 1000000 [.ref b, .int x] g (ca_pi (hpB (h 0) x) g) := by
  refine ca_intro (by decide) (Nat.le_of_ble_eq_true rfl) (fun X hX hN => ?_)
  show X 0 [_, _] [] N 1000000 g
  obtain ⟨h0, h1, h2, h3, h4⟩ := hh
  refine ca_iload_n hX (q := 1) 1 rfl rfl rfl dX1_hasPerson_0 ?_
  refine ca_if_lt hX (q := 4) 21 rfl rfl dX1_hasPerson_1 (fun c1 => ?_) (fun c1 => ?_)
  · refine ca_iconst hX (q := 22) k_iconst_0 rfl dX1_hasPerson_21 ?_
    refine ca_zret hX rfl rfl rfl rfl rfl dX1_hasPerson_22 ?_
    refine ⟨?_, rfl⟩; simp [hpB, *]
  · refine ca_iload_n hX (q := 5) 1 rfl rfl rfl dX1_hasPerson_4 ?_
    refine ca_aload_n hX (q := 6) 0 rfl rfl rfl dX1_hasPerson_5 ?_
    refine ca_getf hX (q := 9) cl_X1 4 (by decide) w_fl_X1_24 (by omega) h0 rfl rfl dX1_hasPerson_6 ?_
    refine ca_icmp_ge hX (q := 12) 21 rfl rfl dX1_hasPerson_9 (fun c9 => ?_) (fun c9 => ?_)
    · refine ca_iconst hX (q := 22) k_iconst_0 rfl dX1_hasPerson_21 ?_
      refine ca_zret hX rfl rfl rfl rfl rfl dX1_hasPerson_22 ?_
      refine ⟨?_, rfl⟩; simp [hpB, *]
    · refine ca_iload_n hX (q := 13) 1 rfl rfl rfl dX1_hasPerson_12 ?_
      refine ca_iconst hX (q := 14) k_iconst_5 rfl dX1_hasPerson_13 ?_
      refine ca_icmp_ge hX (q := 17) 21 rfl rfl dX1_hasPerson_14 (fun c14 => ?_) (fun c14 => ?_)
      · refine ca_iconst hX (q := 22) k_iconst_0 rfl dX1_hasPerson_21 ?_
        refine ca_zret hX rfl rfl rfl rfl rfl dX1_hasPerson_22 ?_
        refine ⟨?_, rfl⟩; simp [hpB, *]
      · refine ca_iconst hX (q := 18) k_iconst_1 rfl dX1_hasPerson_17 ?_
        refine ca_goto hX 22 rfl dX1_hasPerson_18 ?_
        refine ca_zret hX rfl rfl rfl rfl rfl dX1_hasPerson_22 ?_
        refine ⟨?_, rfl⟩; simp [hpB, *]

set_option maxRecDepth 100000 in
set_option maxHeartbeats 4000000 in
theorem c_X1_kindOf (l : Launch) (N : Nat) (g : ca_G) (b : Nat) (h : Nat → Int32) (hh : hsG g b h) (hb : b + 5 ≤ N) (r : Nat) (hr : r < 25) : ca_Ct l yX1_kindOf cX1_kindOf 2 (some .int) 1 0 0 N 1000000 [.ref b, .int (nI r)] g (ca_pi (kdH h r) g) := by
  refine ca_intro (by decide) (Nat.le_of_ble_eq_true rfl) (fun X hX hN => ?_)
  show X 0 [_, _] [] N 1000000 g
  obtain ⟨h0, h1, h2, h3, h4⟩ := hh
  refine ca_iload_n hX (q := 1) 1 rfl rfl rfl dX1_kindOf_0 ?_
  refine ca_cSNi hX (q := 4) y_X5_isRoom w_mn_X1_37 hN (c_X5_isRoom l N g (nI r)) (by decide) rfl (by decide) rfl dX1_kindOf_1 rfl ?_
  refine ca_if_eq hX (q := 7) 16 rfl rfl dX1_kindOf_4 (fun z => absurd z (by rw [rmB_ok hr]; decide)) (fun _ => ?_)
  refine ca_aload_n hX (q := 8) 0 rfl rfl rfl dX1_kindOf_7 ?_
  refine ca_getf hX (q := 11) cl_X1 0 (by decide) w_fl_X1_9 (by omega) h0 rfl rfl dX1_kindOf_8 ?_
  refine ca_iload_n hX (q := 12) 1 rfl rfl rfl dX1_kindOf_11 ?_
  refine ca_iaN hX (q := 13) (k := r) (by omega) h1 (by decide) rfl (by omega) rfl dX1_kindOf_12 ?_
  refine ca_goto hX 18 rfl dX1_kindOf_13 ?_
  refine ca_iret hX rfl rfl rfl rfl dX1_kindOf_18 ?_
  exact ⟨rfl, rfl⟩

set_option maxRecDepth 100000 in
set_option maxHeartbeats 4000000 in
theorem c_X1_figureOf (l : Launch) (N : Nat) (g : ca_G) (b : Nat) (h : Nat → Int32) (hh : hsG g b h) (hb : b + 5 ≤ N) (r : Nat) (hr : r < 25) : ca_Ct l yX1_figureOf cX1_figureOf 2 (some .int) 1 0 0 N 1000000 [.ref b, .int (nI r)] g (ca_pi (fgH h r) g) := by
  refine ca_intro (by decide) (Nat.le_of_ble_eq_true rfl) (fun X hX hN => ?_)
  show X 0 [_, _] [] N 1000000 g
  obtain ⟨h0, h1, h2, h3, h4⟩ := hh
  refine ca_iload_n hX (q := 1) 1 rfl rfl rfl dX1_figureOf_0 ?_
  refine ca_cSNi hX (q := 4) y_X5_isRoom w_mn_X1_37 hN (c_X5_isRoom l N g (nI r)) (by decide) rfl (by decide) rfl dX1_figureOf_1 rfl ?_
  refine ca_if_eq hX (q := 7) 16 rfl rfl dX1_figureOf_4 (fun z => absurd z (by rw [rmB_ok hr]; decide)) (fun _ => ?_)
  refine ca_aload_n hX (q := 8) 0 rfl rfl rfl dX1_figureOf_7 ?_
  refine ca_getf hX (q := 11) cl_X1 1 (by decide) w_fl_X1_15 (by omega) h0 rfl rfl dX1_figureOf_8 ?_
  refine ca_iload_n hX (q := 12) 1 rfl rfl rfl dX1_figureOf_11 ?_
  refine ca_iaN hX (q := 13) (k := r) (by omega) h2 (by decide) rfl (by omega) rfl dX1_figureOf_12 ?_
  refine ca_goto hX 18 rfl dX1_figureOf_13 ?_
  refine ca_iret hX rfl rfl rfl rfl dX1_figureOf_18 ?_
  exact ⟨rfl, rfl⟩

set_option maxRecDepth 100000 in
set_option maxHeartbeats 4000000 in
theorem c_X1_needsOf (l : Launch) (N : Nat) (g : ca_G) (b : Nat) (h : Nat → Int32) (hh : hsG g b h) (hb : b + 5 ≤ N) (r : Nat) (hr : r < 25) : ca_Ct l yX1_needsOf cX1_needsOf 2 (some .int) 2 0 0 N 1000000 [.ref b, .int (nI r)] g (ca_pi (ndH h r) g) := by
  refine ca_intro (by decide) (Nat.le_of_ble_eq_true rfl) (fun X hX hN => ?_)
  show X 0 [_, _] [] N 1000000 g
  obtain ⟨h0, h1, h2, h3, h4⟩ := hh
  refine ca_aload_n hX (q := 1) 0 rfl rfl rfl dX1_needsOf_0 ?_
  refine ca_iload_n hX (q := 2) 1 rfl rfl rfl dX1_needsOf_1 ?_
  refine ca_cVi hX (q := 5) y_X1_kindOf w_ml_X1_41 (by omega) hN h0 (c_X1_kindOf l N g b h ⟨h0, h1, h2, h3, h4⟩ hb r hr) (by decide) rfl (by decide) rfl dX1_needsOf_2 rfl ?_
  refine ca_cSi hX (q := 8) y_X2_needs w_ml_X1_45 hN (c_X2_needs l N g _) (by decide) rfl (by decide) rfl dX1_needsOf_5 rfl ?_
  refine ca_iret hX rfl rfl rfl rfl dX1_needsOf_8 ?_
  exact ⟨rfl, rfl⟩

set_option maxRecDepth 100000 in
set_option maxHeartbeats 4000000 in
theorem c_X1_catchesOf (l : Launch) (N : Nat) (g : ca_G) (b : Nat) (h : Nat → Int32) (hh : hsG g b h) (hb : b + 5 ≤ N) (r : Nat) (hr : r < 25) : ca_Ct l yX1_catchesOf cX1_catchesOf 2 (some .int) 2 0 0 N 1000000 [.ref b, .int (nI r)] g (ca_pi (ctH h r) g) := by
  refine ca_intro (by decide) (Nat.le_of_ble_eq_true rfl) (fun X hX hN => ?_)
  show X 0 [_, _] [] N 1000000 g
  obtain ⟨h0, h1, h2, h3, h4⟩ := hh
  refine ca_aload_n hX (q := 1) 0 rfl rfl rfl dX1_catchesOf_0 ?_
  refine ca_iload_n hX (q := 2) 1 rfl rfl rfl dX1_catchesOf_1 ?_
  refine ca_cVi hX (q := 5) y_X1_kindOf w_ml_X1_41 (by omega) hN h0 (c_X1_kindOf l N g b h ⟨h0, h1, h2, h3, h4⟩ hb r hr) (by decide) rfl (by decide) rfl dX1_catchesOf_2 rfl ?_
  refine ca_cSi hX (q := 8) y_X2_catches w_ml_X1_50 hN (c_X2_catches l N g _) (by decide) rfl (by decide) rfl dX1_catchesOf_5 rfl ?_
  refine ca_iret hX rfl rfl rfl rfl dX1_catchesOf_8 ?_
  exact ⟨rfl, rfl⟩

set_option maxRecDepth 100000 in
set_option maxHeartbeats 4000000 in
theorem c_X1_worthOf (l : Launch) (N : Nat) (g : ca_G) (b : Nat) (h : Nat → Int32) (hh : hsG g b h) (hb : b + 5 ≤ N) (r : Nat) (hr : r < 25) : ca_Ct l yX1_worthOf cX1_worthOf 2 (some .int) 2 0 0 N 1000000 [.ref b, .int (nI r)] g (ca_pi (wtH h r) g) := by
  refine ca_intro (by decide) (Nat.le_of_ble_eq_true rfl) (fun X hX hN => ?_)
  show X 0 [_, _] [] N 1000000 g
  obtain ⟨h0, h1, h2, h3, h4⟩ := hh
  refine ca_aload_n hX (q := 1) 0 rfl rfl rfl dX1_worthOf_0 ?_
  refine ca_iload_n hX (q := 2) 1 rfl rfl rfl dX1_worthOf_1 ?_
  refine ca_cVi hX (q := 5) y_X1_kindOf w_ml_X1_41 (by omega) hN h0 (c_X1_kindOf l N g b h ⟨h0, h1, h2, h3, h4⟩ hb r hr) (by decide) rfl (by decide) rfl dX1_worthOf_2 rfl ?_
  refine ca_aload_n hX (q := 6) 0 rfl rfl rfl dX1_worthOf_5 ?_
  refine ca_iload_n hX (q := 7) 1 rfl rfl rfl dX1_worthOf_6 ?_
  refine ca_cVi hX (q := 10) y_X1_figureOf w_ml_X1_53 (by omega) hN h0 (c_X1_figureOf l N g b h ⟨h0, h1, h2, h3, h4⟩ hb r hr) (by decide) rfl (Nat.le_of_ble_eq_true rfl) rfl dX1_worthOf_7 rfl ?_
  refine ca_cSi hX (q := 13) y_X2_worth w_ml_X1_56 hN (c_X2_worth l N g _ _) (by decide) rfl (by decide) rfl dX1_worthOf_10 rfl ?_
  refine ca_iret hX rfl rfl rfl rfl dX1_worthOf_13 ?_
  exact ⟨rfl, rfl⟩

set_option maxRecDepth 100000 in
set_option maxHeartbeats 4000000 in
theorem c_X1_sharpOf (l : Launch) (N : Nat) (g : ca_G) (b : Nat) (h : Nat → Int32) (hh : hsG g b h) (hb : b + 5 ≤ N) (P : Nat) (hP : h 0 = nI P) (hP5 : P ≤ 5) (p : Nat) (hp : p < P) : ca_Ct l yX1_sharpOf cX1_sharpOf 2 (some .int) 1 0 0 N 1000000 [.ref b, .int (nI p)] g (ca_pi (h (52 + p)) g) := by
  refine ca_intro (by decide) (Nat.le_of_ble_eq_true rfl) (fun X hX hN => ?_)
  show X 0 [_, _] [] N 1000000 g
  obtain ⟨h0, h1, h2, h3, h4⟩ := hh
  refine ca_aload_n hX (q := 1) 0 rfl rfl rfl dX1_sharpOf_0 ?_
  refine ca_iload_n hX (q := 2) 1 rfl rfl rfl dX1_sharpOf_1 ?_
  refine ca_cVi hX (q := 5) y_X1_hasPerson w_ml_X1_60 (by omega) hN h0 (c_X1_hasPerson l N g b h ⟨h0, h1, h2, h3, h4⟩ hb (nI p)) (by decide) rfl (by decide) rfl dX1_sharpOf_2 rfl ?_
  refine ca_if_eq hX (q := 8) 17 rfl rfl dX1_sharpOf_5 (fun z => absurd z (by rw [hpB_ok hP hP5 hp]; decide)) (fun _ => ?_)
  refine ca_aload_n hX (q := 9) 0 rfl rfl rfl dX1_sharpOf_8 ?_
  refine ca_getf hX (q := 12) cl_X1 2 (by decide) w_fl_X1_18 (by omega) h0 rfl rfl dX1_sharpOf_9 ?_
  refine ca_iload_n hX (q := 13) 1 rfl rfl rfl dX1_sharpOf_12 ?_
  refine ca_iaN hX (q := 14) (k := p) (by omega) h3 (by decide) rfl (by omega) rfl dX1_sharpOf_13 ?_
  refine ca_goto hX 19 rfl dX1_sharpOf_14 ?_
  refine ca_iret hX rfl rfl rfl rfl dX1_sharpOf_19 ?_
  exact ⟨rfl, rfl⟩

set_option maxRecDepth 100000 in
set_option maxHeartbeats 4000000 in
theorem c_X1_knownBy (l : Launch) (N : Nat) (g : ca_G) (b : Nat) (h : Nat → Int32) (hh : hsG g b h) (hb : b + 5 ≤ N) (P : Nat) (hP : h 0 = nI P) (hP5 : P ≤ 5) (p r : Nat) (hp : p < P) (hr : r < 25) : ca_Ct l yX1_knownBy cX1_knownBy 3 (some .int) 1 0 0 N 1000000 [.ref b, .int (nI p), .int (nI r)] g (ca_pi (knH h p r) g) := by
  refine ca_intro (by decide) (Nat.le_of_ble_eq_true rfl) (fun X hX hN => ?_)
  show X 0 [_, _, _] [] N 1000000 g
  obtain ⟨h0, h1, h2, h3, h4⟩ := hh
  refine ca_aload_n hX (q := 1) 0 rfl rfl rfl dX1_knownBy_0 ?_
  refine ca_iload_n hX (q := 2) 1 rfl rfl rfl dX1_knownBy_1 ?_
  refine ca_cVi hX (q := 5) y_X1_hasPerson w_ml_X1_60 (by omega) hN h0 (c_X1_hasPerson l N g b h ⟨h0, h1, h2, h3, h4⟩ hb (nI p)) (by decide) rfl (by decide) rfl dX1_knownBy_2 rfl ?_
  refine ca_if_eq hX (q := 8) 29 rfl rfl dX1_knownBy_5 (fun z => absurd z (by rw [hpB_ok hP hP5 hp]; decide)) (fun _ => ?_)
  refine ca_iload_n hX (q := 9) 2 rfl rfl rfl dX1_knownBy_8 ?_
  refine ca_cSNi hX (q := 12) y_X5_isRoom w_mn_X1_37 hN (c_X5_isRoom l N g (nI r)) (by decide) rfl (by decide) rfl dX1_knownBy_9 rfl ?_
  refine ca_if_eq hX (q := 15) 29 rfl rfl dX1_knownBy_12 (fun z => absurd z (by rw [rmB_ok hr]; decide)) (fun _ => ?_)
  refine ca_aload_n hX (q := 16) 0 rfl rfl rfl dX1_knownBy_15 ?_
  refine ca_getf hX (q := 19) cl_X1 3 (by decide) w_fl_X1_21 (by omega) h0 rfl rfl dX1_knownBy_16 ?_
  refine ca_iload_n hX (q := 20) 1 rfl rfl rfl dX1_knownBy_19 ?_
  refine ca_bipush hX (q := 22) k_bipush_25 rfl dX1_knownBy_20 ?_
  refine ca_imul hX (q := 23) rfl dX1_knownBy_22 ?_
  refine ca_iload_n hX (q := 24) 2 rfl rfl rfl dX1_knownBy_23 ?_
  refine ca_iadd hX (q := 25) rfl dX1_knownBy_24 ?_
  refine ca_iaN hX (q := 26) (k := 25 * p + r) (by omega) h4 (by decide) (ixK (by omega) hr) (by omega) rfl dX1_knownBy_25 ?_
  refine ca_goto hX 31 rfl dX1_knownBy_26 ?_
  refine ca_iret hX rfl rfl rfl rfl dX1_knownBy_31 ?_
  exact ⟨rfl, rfl⟩

/-- an array's numbers within its length are all that a cell holds -/
theorem hsG.mk' {g : ca_G} {b : Nat} {h : Nat → Int32} {f1 f2 f3 f4 : Nat → Int32} {x y : Int32} (h0 : g b = .inr (1, [.ref (b + 1), .ref (b + 2), .ref (b + 3), .ref (b + 4), .int x, .int y])) (h1 : g (b + 1) = .inl (25, f1)) (h2 : g (b + 2) = .inl (25, f2)) (h3 : g (b + 3) = .inl (5, f3)) (h4 : g (b + 4) = .inl (125, f4)) (e0 : x = h 0) (e1 : y = h 1) (e2 : ∀ r, f1 r = h (2 + r)) (e3 : ∀ r, f2 r = h (27 + r)) (e4 : ∀ r, f3 r = h (52 + r)) (e5 : ∀ r, f4 r = h (57 + r)) : hsG g b h := by
  refine ⟨by rw [h0, e0, e1], ?_, ?_, ?_, ?_⟩
  · rw [h1, show f1 = fun r => h (2 + r) from funext e2]
  · rw [h2, show f2 = fun r => h (27 + r) from funext e3]
  · rw [h3, show f3 = fun r => h (52 + r) from funext e4]
  · rw [h4, show f4 = fun r => h (57 + r) from funext e5]
