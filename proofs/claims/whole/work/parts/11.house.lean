/-- a stretch of a row, 0 behind it -/
def msk (o n : Nat) (h : Nat → Int32) : Nat → Int32 := fun r => if r < n then h (o + r) else 0
/-! a house in the cells: its numbers as the reference has them in one row (0 people, 1 night, 2 kinds, 27 figures, 52 sharp, 57 known) -/
def hsG (g : ca_G) (b : Nat) (h : Nat → Int32) : Prop :=
  g b = .inr (1, [.ref (b + 1), .ref (b + 2), .ref (b + 3), .ref (b + 4), .int (h 0), .int (h 1)]) ∧ g (b + 1) = .inl (25, msk 2 25 h) ∧ g (b + 2) = .inl (25, msk 27 25 h) ∧ g (b + 3) = .inl (5, msk 52 5 h) ∧ g (b + 4) = .inl (125, msk 57 125 h)
def frG (g g' : ca_G) (lo hi : Nat) : Prop := ∀ j, (j < lo ∨ hi ≤ j) → g' j = g j
theorem frG.rf {g : ca_G} {lo hi : Nat} : frG g g lo hi := fun _ _ => rfl
theorem frG.tr {g g1 g2 : ca_G} {lo hi : Nat} (a : frG g g1 lo hi) (b : frG g1 g2 lo hi) : frG g g2 lo hi := fun j h => (b j h).trans (a j h)
theorem frG.wd {g g1 : ca_G} {lo hi lo' hi' : Nat} (a : frG g g1 lo hi) (h1 : lo' ≤ lo) (h2 : hi ≤ hi') : frG g g1 lo' hi' := fun j h => a j (by omega)
theorem hsG.fr {g g' : ca_G} {b lo hi : Nat} {h : Nat → Int32} (hh : hsG g b h) (f : frG g g' lo hi) (hd : b + 5 ≤ lo ∨ hi ≤ b) : hsG g' b h := by
  obtain ⟨h0, h1, h2, h3, h4⟩ := hh
  exact ⟨(f b (by omega)).trans h0, (f (b + 1) (by omega)).trans h1, (f (b + 2) (by omega)).trans h2, (f (b + 3) (by omega)).trans h3, (f (b + 4) (by omega)).trans h4⟩
def smI (f : Nat → Int32) : Nat → Int32
  | 0 => 0
  | n + 1 => smI f n + f n
def kdH (h : Nat → Int32) (r : Nat) : Int32 := h (2 + r)
def fgH (h : Nat → Int32) (r : Nat) : Int32 := h (27 + r)
def knH (h : Nat → Int32) (p r : Nat) : Int32 := h (57 + (25 * p + r))
def ndH (h : Nat → Int32) (r : Nat) : Int32 := ndK (kdH h r)
def ctH (h : Nat → Int32) (r : Nat) : Int32 := ctK (kdH h r)
def wtH (h : Nat → Int32) (r : Nat) : Int32 := wtK (kdH h r) (fgH h r)
def rmB (x : Int32) : Int32 := if x < 0 then 0 else if 25 ≤ x then 0 else 1
def hpB (h0 x : Int32) : Int32 := if x < 0 then 0 else if h0 ≤ x then 0 else if 5 ≤ x then 0 else 1
theorem rmB_ok {r : Nat} (h : r < 25) : rmB (nI r) = 1 := by
  rw [rmB, if_neg (nI_pos (by omega)), if_neg]
  exact nI_ge (a := r) (b := 25) h (by omega)
theorem hpB_ok {h0 : Int32} {P p : Nat} (e : h0 = nI P) (hP : P ≤ 5) (h : p < P) : hpB h0 (nI p) = 1 := by
  rw [hpB, if_neg (nI_pos (by omega)), if_neg (by rw [e]; exact nI_ge h (by omega)), if_neg]
  exact nI_ge (a := p) (b := 5) (by omega) (by omega)
theorem ixK {p r : Nat} (hp : p < 5) (hr : r < 25) : nI p * 25 + nI r = nI (25 * p + r) := by
  rw [show (25 : Int32) = nI 25 from rfl, pk_mul, nI_add, Nat.mul_comm]
theorem upd_s (f : Nat → Int32) (k : Nat) (x : Int32) : upd f k x k = x := pk_us
theorem upd_n (f : Nat → Int32) {k j : Nat} (x : Int32) (h : j ≠ k) : upd f k x j = f j := pk_un h
theorem msk_in {o n r : Nat} {h : Nat → Int32} (hr : r < n) : msk o n h r = h (o + r) := if_pos hr
theorem msk_upd {o n k : Nat} {h : Nat → Int32} {x : Int32} (hk : k < n) : upd (msk o n h) k x = msk o n (upd h (o + k) x) := by
  funext j
  unfold msk
  by_cases e : j = k
  · subst e; rw [upd_s, if_pos hk, upd_s]
  · rw [upd_n _ _ e]
    by_cases hj : j < n
    · rw [if_pos hj, if_pos hj, upd_n _ _ (by omega)]
    · rw [if_neg hj, if_neg hj]
theorem msk_ext {o n : Nat} {h h' : Nat → Int32} (e : ∀ j, j < n → h (o + j) = h' (o + j)) : msk o n h = msk o n h' := by
  funext j
  unfold msk
  by_cases hj : j < n
  · rw [if_pos hj, if_pos hj, e j hj]
  · rw [if_neg hj, if_neg hj]
theorem msk_cpy {o n : Nat} {h h' : Nat → Int32} : va_cpy (msk o n h) (msk o n h') 0 0 n = msk o n h := by
  funext j
  by_cases hj : j < n
  · rw [pk_cpy_in (by omega) (by omega)]; simp
  · rw [pk_cpy_out (by omega)]; unfold msk; rw [if_neg hj, if_neg hj]
theorem hsG.ext {g : ca_G} {b : Nat} {h h' : Nat → Int32} (hh : hsG g b h) (e : ∀ j, j < 182 → h j = h' j) : hsG g b h' := by
  obtain ⟨h0, h1, h2, h3, h4⟩ := hh
  refine ⟨by rw [h0, e 0 (by omega), e 1 (by omega)], ?_, ?_, ?_, ?_⟩
  · rw [h1, msk_ext (fun j hj => e _ (by omega))]
  · rw [h2, msk_ext (fun j hj => e _ (by omega))]
  · rw [h3, msk_ext (fun j hj => e _ (by omega))]
  · rw [h4, msk_ext (fun j hj => e _ (by omega))]

set_option maxRecDepth 100000 in
set_option maxHeartbeats 4000000 in
theorem c_X5_isRoom (l : Launch) (N : Nat) (g : ca_G) (x : Int32) : ca_Ct l yX5_isRoom cX5_isRoom 1 (some .boolean) 0 0 0 N 1000000 [.int x] g (ca_pi (rmB x) g) := by
  refine ca_intro (by decide) (Nat.le_of_ble_eq_true rfl) (fun X hX hN => ?_)
  show X 0 [_] [] N 1000000 g
  refine ca_iload_n hX (q := 1) 0 rfl rfl rfl dX5_isRoom_0 ?_
  refine ca_if_lt hX (q := 4) 14 rfl rfl dX5_isRoom_1 (fun c1 => ?_) (fun c1 => ?_)
  · refine ca_iconst hX (q := 15) k_iconst_0 rfl dX5_isRoom_14 ?_
    refine ca_zret hX rfl rfl rfl rfl rfl dX5_isRoom_15 ?_
    refine ⟨?_, rfl⟩; simp [rmB, *]
  · refine ca_iload_n hX (q := 5) 0 rfl rfl rfl dX5_isRoom_4 ?_
    refine ca_bipush hX (q := 7) k_bipush_25 rfl dX5_isRoom_5 ?_
    refine ca_icmp_ge hX (q := 10) 14 rfl rfl dX5_isRoom_7 (fun c7 => ?_) (fun c7 => ?_)
    · refine ca_iconst hX (q := 15) k_iconst_0 rfl dX5_isRoom_14 ?_
      refine ca_zret hX rfl rfl rfl rfl rfl dX5_isRoom_15 ?_
      refine ⟨?_, rfl⟩; simp [rmB, *]
    · refine ca_iconst hX (q := 11) k_iconst_1 rfl dX5_isRoom_10 ?_
      refine ca_goto hX 15 rfl dX5_isRoom_11 ?_
      refine ca_zret hX rfl rfl rfl rfl rfl dX5_isRoom_15 ?_
      refine ⟨?_, rfl⟩; simp [rmB, *]

set_option maxRecDepth 100000 in
set_option maxHeartbeats 4000000 in
theorem c_X1_hasPerson (l : Launch) (N : Nat) (g : ca_G) (b : Nat) (h : Nat → Int32) (hh : hsG g b h) (hb : b + 5 ≤ N) (x : Int32) : ca_Ct l yX1_hasPerson cX1_hasPerson 2 (some .boolean) 0 0 0 N 1000000 [.ref b, .int x] g (ca_pi (hpB (h 0) x) g) := by
  refine ca_intro (by decide) (Nat.le_of_ble_eq_true rfl) (fun X hX hN => ?_)
  show X 0 [_, _] [] N 1000000 g
  obtain ⟨h0, h1, h2, h3, h4⟩ := hh
  refine ca_iload_n hX (q := 1) 1 rfl rfl rfl dX1_hasPerson_0 ?_
  refine ca_if_lt hX (q := 4) 21 rfl rfl dX1_hasPerson_1 (fun c1 => ?_) (fun c1 => ?_)
  · refine ca_iconst hX (q := 22) k_iconst_0 rfl dX1_hasPerson_21 ?_
    refine ca_zret hX rfl rfl rfl rfl rfl dX1_hasPerson_22 ?_
    refine ⟨?_, rfl⟩; simp [hpB, *]
  · refine ca_iload_n hX (q := 5) 1 rfl rfl rfl dX1_hasPerson_4 ?_
    refine ca_aload_n hX (q := 6) 0 rfl rfl rfl dX1_hasPerson_5 ?_
    refine ca_getf hX (q := 9) cl_X1 4 (by decide) w_fl_X1_24 (by omega) h0 rfl rfl dX1_hasPerson_6 ?_
    refine ca_icmp_ge hX (q := 12) 21 rfl rfl dX1_hasPerson_9 (fun c9 => ?_) (fun c9 => ?_)
    · refine ca_iconst hX (q := 22) k_iconst_0 rfl dX1_hasPerson_21 ?_
      refine ca_zret hX rfl rfl rfl rfl rfl dX1_hasPerson_22 ?_
      refine ⟨?_, rfl⟩; simp [hpB, *]
    · refine ca_iload_n hX (q := 13) 1 rfl rfl rfl dX1_hasPerson_12 ?_
      refine ca_iconst hX (q := 14) k_iconst_5 rfl dX1_hasPerson_13 ?_
      refine ca_icmp_ge hX (q := 17) 21 rfl rfl dX1_hasPerson_14 (fun c14 => ?_) (fun c14 => ?_)
      · refine ca_iconst hX (q := 22) k_iconst_0 rfl dX1_hasPerson_21 ?_
        refine ca_zret hX rfl rfl rfl rfl rfl dX1_hasPerson_22 ?_
        refine ⟨?_, rfl⟩; simp [hpB, *]
      · refine ca_iconst hX (q := 18) k_iconst_1 rfl dX1_hasPerson_17 ?_
        refine ca_goto hX 22 rfl dX1_hasPerson_18 ?_
        refine ca_zret hX rfl rfl rfl rfl rfl dX1_hasPerson_22 ?_
        refine ⟨?_, rfl⟩; simp [hpB, *]

set_option maxRecDepth 100000 in
set_option maxHeartbeats 4000000 in
theorem c_X1_kindOf (l : Launch) (N : Nat) (g : ca_G) (b : Nat) (h : Nat → Int32) (hh : hsG g b h) (hb : b + 5 ≤ N) (r : Nat) (hr : r < 25) : ca_Ct l yX1_kindOf cX1_kindOf 2 (some .int) 1 0 0 N 1000000 [.ref b, .int (nI r)] g (ca_pi (kdH h r) g) := by
  refine ca_intro (by decide) (Nat.le_of_ble_eq_true rfl) (fun X hX hN => ?_)
  show X 0 [_, _] [] N 1000000 g
  obtain ⟨h0, h1, h2, h3, h4⟩ := hh
  refine ca_iload_n hX (q := 1) 1 rfl rfl rfl dX1_kindOf_0 ?_
  refine ca_cSNi hX (q := 4) y_X5_isRoom w_mn_X1_37 hN (c_X5_isRoom l N g (nI r)) (by decide) rfl (by decide) rfl dX1_kindOf_1 rfl ?_
  refine ca_if_eq hX (q := 7) 16 rfl rfl dX1_kindOf_4 (fun z => absurd z (by rw [rmB_ok hr]; decide)) (fun _ => ?_)
  refine ca_aload_n hX (q := 8) 0 rfl rfl rfl dX1_kindOf_7 ?_
  refine ca_getf hX (q := 11) cl_X1 0 (by decide) w_fl_X1_9 (by omega) h0 rfl rfl dX1_kindOf_8 ?_
  refine ca_iload_n hX (q := 12) 1 rfl rfl rfl dX1_kindOf_11 ?_
  refine ca_iaN hX (q := 13) (k := r) (by omega) h1 (by decide) rfl (by omega) rfl dX1_kindOf_12 ?_
  refine ca_goto hX 18 rfl dX1_kindOf_13 ?_
  refine ca_iret hX rfl rfl rfl rfl dX1_kindOf_18 ?_
  exact ⟨by rw [msk_in hr]; rfl, rfl⟩

set_option maxRecDepth 100000 in
set_option maxHeartbeats 4000000 in
theorem c_X1_figureOf (l : Launch) (N : Nat) (g : ca_G) (b : Nat) (h : Nat → Int32) (hh : hsG g b h) (hb : b + 5 ≤ N) (r : Nat) (hr : r < 25) : ca_Ct l yX1_figureOf cX1_figureOf 2 (some .int) 1 0 0 N 1000000 [.ref b, .int (nI r)] g (ca_pi (fgH h r) g) := by
  refine ca_intro (by decide) (Nat.le_of_ble_eq_true rfl) (fun X hX hN => ?_)
  show X 0 [_, _] [] N 1000000 g
  obtain ⟨h0, h1, h2, h3, h4⟩ := hh
  refine ca_iload_n hX (q := 1) 1 rfl rfl rfl dX1_figureOf_0 ?_
  refine ca_cSNi hX (q := 4) y_X5_isRoom w_mn_X1_37 hN (c_X5_isRoom l N g (nI r)) (by decide) rfl (by decide) rfl dX1_figureOf_1 rfl ?_
  refine ca_if_eq hX (q := 7) 16 rfl rfl dX1_figureOf_4 (fun z => absurd z (by rw [rmB_ok hr]; decide)) (fun _ => ?_)
  refine ca_aload_n hX (q := 8) 0 rfl rfl rfl dX1_figureOf_7 ?_
  refine ca_getf hX (q := 11) cl_X1 1 (by decide) w_fl_X1_15 (by omega) h0 rfl rfl dX1_figureOf_8 ?_
  refine ca_iload_n hX (q := 12) 1 rfl rfl rfl dX1_figureOf_11 ?_
  refine ca_iaN hX (q := 13) (k := r) (by omega) h2 (by decide) rfl (by omega) rfl dX1_figureOf_12 ?_
  refine ca_goto hX 18 rfl dX1_figureOf_13 ?_
  refine ca_iret hX rfl rfl rfl rfl dX1_figureOf_18 ?_
  exact ⟨by rw [msk_in hr]; rfl, rfl⟩

set_option maxRecDepth 100000 in
set_option maxHeartbeats 4000000 in
theorem c_X1_needsOf (l : Launch) (N : Nat) (g : ca_G) (b : Nat) (h : Nat → Int32) (hh : hsG g b h) (hb : b + 5 ≤ N) (r : Nat) (hr : r < 25) : ca_Ct l yX1_needsOf cX1_needsOf 2 (some .int) 2 0 0 N 1000000 [.ref b, .int (nI r)] g (ca_pi (ndH h r) g) := by
  refine ca_intro (by decide) (Nat.le_of_ble_eq_true rfl) (fun X hX hN => ?_)
  show X 0 [_, _] [] N 1000000 g
  obtain ⟨h0, h1, h2, h3, h4⟩ := hh
  refine ca_aload_n hX (q := 1) 0 rfl rfl rfl dX1_needsOf_0 ?_
  refine ca_iload_n hX (q := 2) 1 rfl rfl rfl dX1_needsOf_1 ?_
  refine ca_cVi hX (q := 5) y_X1_kindOf w_ml_X1_41 (by omega) hN h0 (c_X1_kindOf l N g b h ⟨h0, h1, h2, h3, h4⟩ hb r hr) (by decide) rfl (by decide) rfl dX1_needsOf_2 rfl ?_
  refine ca_cSi hX (q := 8) y_X2_needs w_ml_X1_45 hN (c_X2_needs l N g _) (by decide) rfl (by decide) rfl dX1_needsOf_5 rfl ?_
  refine ca_iret hX rfl rfl rfl rfl dX1_needsOf_8 ?_
  exact ⟨rfl, rfl⟩

set_option maxRecDepth 100000 in
set_option maxHeartbeats 4000000 in
theorem c_X1_catchesOf (l : Launch) (N : Nat) (g : ca_G) (b : Nat) (h : Nat → Int32) (hh : hsG g b h) (hb : b + 5 ≤ N) (r : Nat) (hr : r < 25) : ca_Ct l yX1_catchesOf cX1_catchesOf 2 (some .int) 2 0 0 N 1000000 [.ref b, .int (nI r)] g (ca_pi (ctH h r) g) := by
  refine ca_intro (by decide) (Nat.le_of_ble_eq_true rfl) (fun X hX hN => ?_)
  show X 0 [_, _] [] N 1000000 g
  obtain ⟨h0, h1, h2, h3, h4⟩ := hh
  refine ca_aload_n hX (q := 1) 0 rfl rfl rfl dX1_catchesOf_0 ?_
  refine ca_iload_n hX (q := 2) 1 rfl rfl rfl dX1_catchesOf_1 ?_
  refine ca_cVi hX (q := 5) y_X1_kindOf w_ml_X1_41 (by omega) hN h0 (c_X1_kindOf l N g b h ⟨h0, h1, h2, h3, h4⟩ hb r hr) (by decide) rfl (by decide) rfl dX1_catchesOf_2 rfl ?_
  refine ca_cSi hX (q := 8) y_X2_catches w_ml_X1_50 hN (c_X2_catches l N g _) (by decide) rfl (by decide) rfl dX1_catchesOf_5 rfl ?_
  refine ca_iret hX rfl rfl rfl rfl dX1_catchesOf_8 ?_
  exact ⟨rfl, rfl⟩

set_option maxRecDepth 100000 in
set_option maxHeartbeats 4000000 in
theorem c_X1_worthOf (l : Launch) (N : Nat) (g : ca_G) (b : Nat) (h : Nat → Int32) (hh : hsG g b h) (hb : b + 5 ≤ N) (r : Nat) (hr : r < 25) : ca_Ct l yX1_worthOf cX1_worthOf 2 (some .int) 2 0 0 N 1000000 [.ref b, .int (nI r)] g (ca_pi (wtH h r) g) := by
  refine ca_intro (by decide) (Nat.le_of_ble_eq_true rfl) (fun X hX hN => ?_)
  show X 0 [_, _] [] N 1000000 g
  obtain ⟨h0, h1, h2, h3, h4⟩ := hh
  refine ca_aload_n hX (q := 1) 0 rfl rfl rfl dX1_worthOf_0 ?_
  refine ca_iload_n hX (q := 2) 1 rfl rfl rfl dX1_worthOf_1 ?_
  refine ca_cVi hX (q := 5) y_X1_kindOf w_ml_X1_41 (by omega) hN h0 (c_X1_kindOf l N g b h ⟨h0, h1, h2, h3, h4⟩ hb r hr) (by decide) rfl (by decide) rfl dX1_worthOf_2 rfl ?_
  refine ca_aload_n hX (q := 6) 0 rfl rfl rfl dX1_worthOf_5 ?_
  refine ca_iload_n hX (q := 7) 1 rfl rfl rfl dX1_worthOf_6 ?_
  refine ca_cVi hX (q := 10) y_X1_figureOf w_ml_X1_53 (by omega) hN h0 (c_X1_figureOf l N g b h ⟨h0, h1, h2, h3, h4⟩ hb r hr) (by decide) rfl (Nat.le_of_ble_eq_true rfl) rfl dX1_worthOf_7 rfl ?_
  refine ca_cSi hX (q := 13) y_X2_worth w_ml_X1_56 hN (c_X2_worth l N g _ _) (by decide) rfl (by decide) rfl dX1_worthOf_10 rfl ?_
  refine ca_iret hX rfl rfl rfl rfl dX1_worthOf_13 ?_
  exact ⟨rfl, rfl⟩

set_option maxRecDepth 100000 in
set_option maxHeartbeats 4000000 in
theorem c_X1_sharpOf (l : Launch) (N : Nat) (g : ca_G) (b : Nat) (h : Nat → Int32) (hh : hsG g b h) (hb : b + 5 ≤ N) (P : Nat) (hP : h 0 = nI P) (hP5 : P ≤ 5) (p : Nat) (hp : p < P) : ca_Ct l yX1_sharpOf cX1_sharpOf 2 (some .int) 1 0 0 N 1000000 [.ref b, .int (nI p)] g (ca_pi (h (52 + p)) g) := by
  refine ca_intro (by decide) (Nat.le_of_ble_eq_true rfl) (fun X hX hN => ?_)
  show X 0 [_, _] [] N 1000000 g
  obtain ⟨h0, h1, h2, h3, h4⟩ := hh
  refine ca_aload_n hX (q := 1) 0 rfl rfl rfl dX1_sharpOf_0 ?_
  refine ca_iload_n hX (q := 2) 1 rfl rfl rfl dX1_sharpOf_1 ?_
  refine ca_cVi hX (q := 5) y_X1_hasPerson w_ml_X1_60 (by omega) hN h0 (c_X1_hasPerson l N g b h ⟨h0, h1, h2, h3, h4⟩ hb (nI p)) (by decide) rfl (by decide) rfl dX1_sharpOf_2 rfl ?_
  refine ca_if_eq hX (q := 8) 17 rfl rfl dX1_sharpOf_5 (fun z => absurd z (by rw [hpB_ok hP hP5 hp]; decide)) (fun _ => ?_)
  refine ca_aload_n hX (q := 9) 0 rfl rfl rfl dX1_sharpOf_8 ?_
  refine ca_getf hX (q := 12) cl_X1 2 (by decide) w_fl_X1_18 (by omega) h0 rfl rfl dX1_sharpOf_9 ?_
  refine ca_iload_n hX (q := 13) 1 rfl rfl rfl dX1_sharpOf_12 ?_
  refine ca_iaN hX (q := 14) (k := p) (by omega) h3 (by decide) rfl (by omega) rfl dX1_sharpOf_13 ?_
  refine ca_goto hX 19 rfl dX1_sharpOf_14 ?_
  refine ca_iret hX rfl rfl rfl rfl dX1_sharpOf_19 ?_
  exact ⟨by rw [msk_in (by omega)], rfl⟩

set_option maxRecDepth 100000 in
set_option maxHeartbeats 4000000 in
theorem c_X1_knownBy (l : Launch) (N : Nat) (g : ca_G) (b : Nat) (h : Nat → Int32) (hh : hsG g b h) (hb : b + 5 ≤ N) (P : Nat) (hP : h 0 = nI P) (hP5 : P ≤ 5) (p r : Nat) (hp : p < P) (hr : r < 25) : ca_Ct l yX1_knownBy cX1_knownBy 3 (some .int) 1 0 0 N 1000000 [.ref b, .int (nI p), .int (nI r)] g (ca_pi (knH h p r) g) := by
  refine ca_intro (by decide) (Nat.le_of_ble_eq_true rfl) (fun X hX hN => ?_)
  show X 0 [_, _, _] [] N 1000000 g
  obtain ⟨h0, h1, h2, h3, h4⟩ := hh
  refine ca_aload_n hX (q := 1) 0 rfl rfl rfl dX1_knownBy_0 ?_
  refine ca_iload_n hX (q := 2) 1 rfl rfl rfl dX1_knownBy_1 ?_
  refine ca_cVi hX (q := 5) y_X1_hasPerson w_ml_X1_60 (by omega) hN h0 (c_X1_hasPerson l N g b h ⟨h0, h1, h2, h3, h4⟩ hb (nI p)) (by decide) rfl (by decide) rfl dX1_knownBy_2 rfl ?_
  refine ca_if_eq hX (q := 8) 29 rfl rfl dX1_knownBy_5 (fun z => absurd z (by rw [hpB_ok hP hP5 hp]; decide)) (fun _ => ?_)
  refine ca_iload_n hX (q := 9) 2 rfl rfl rfl dX1_knownBy_8 ?_
  refine ca_cSNi hX (q := 12) y_X5_isRoom w_mn_X1_37 hN (c_X5_isRoom l N g (nI r)) (by decide) rfl (by decide) rfl dX1_knownBy_9 rfl ?_
  refine ca_if_eq hX (q := 15) 29 rfl rfl dX1_knownBy_12 (fun z => absurd z (by rw [rmB_ok hr]; decide)) (fun _ => ?_)
  refine ca_aload_n hX (q := 16) 0 rfl rfl rfl dX1_knownBy_15 ?_
  refine ca_getf hX (q := 19) cl_X1 3 (by decide) w_fl_X1_21 (by omega) h0 rfl rfl dX1_knownBy_16 ?_
  refine ca_iload_n hX (q := 20) 1 rfl rfl rfl dX1_knownBy_19 ?_
  refine ca_bipush hX (q := 22) k_bipush_25 rfl dX1_knownBy_20 ?_
  refine ca_imul hX (q := 23) rfl dX1_knownBy_22 ?_
  refine ca_iload_n hX (q := 24) 2 rfl rfl rfl dX1_knownBy_23 ?_
  refine ca_iadd hX (q := 25) rfl dX1_knownBy_24 ?_
  refine ca_iaN hX (q := 26) (k := 25 * p + r) (by omega) h4 (by decide) (ixK (by omega) hr) (by omega) rfl dX1_knownBy_25 ?_
  refine ca_goto hX 31 rfl dX1_knownBy_26 ?_
  refine ca_iret hX rfl rfl rfl rfl dX1_knownBy_31 ?_
  exact ⟨by rw [msk_in (by omega)]; rfl, rfl⟩

set_option maxRecDepth 100000 in
set_option maxHeartbeats 4000000 in
theorem c_X1_put (l : Launch) (N : Nat) (g : ca_G) (b : Nat) (h : Nat → Int32) (hh : hsG g b h) (hb : b + 5 ≤ N) (r : Nat) (hr : r < 25) (k f : Int32) : ca_Ct l yX1_put cX1_put 4 none 1 0 0 N 1000000 [.ref b, .int (nI r), .int k, .int f] g (fun rr g' => rr = none ∧ hsG g' b (upd (upd h (2 + r) k) (27 + r) f) ∧ frG g g' b (b + 5)) := by
  refine ca_intro (by decide) (Nat.le_of_ble_eq_true rfl) (fun X hX hN => ?_)
  show X 0 [_, _, _, _] [] N 1000000 g
  obtain ⟨h0, h1, h2, h3, h4⟩ := hh
  have hfr : ∀ j, (j < b ∨ b + 5 ≤ j) → g j = g j := fun _ _ => rfl
  refine ca_iload_n hX (q := 1) 1 rfl rfl rfl dX1_put_0 ?_
  refine ca_cSNi hX (q := 4) y_X5_isRoom w_mn_X1_37 hN (c_X5_isRoom l N g (nI r)) (by decide) rfl (by decide) rfl dX1_put_1 rfl ?_
  refine ca_if_eq hX (q := 7) 21 rfl rfl dX1_put_4 (fun z => absurd z (by rw [rmB_ok hr]; decide)) (fun _ => ?_)
  refine ca_aload_n hX (q := 8) 0 rfl rfl rfl dX1_put_7 ?_
  refine ca_getf hX (q := 11) cl_X1 0 (by decide) w_fl_X1_9 (by omega) h0 rfl rfl dX1_put_8 ?_
  refine ca_iload_n hX (q := 12) 1 rfl rfl rfl dX1_put_11 ?_
  refine ca_iload_n hX (q := 13) 2 rfl rfl rfl dX1_put_12 ?_
  refine ca_iaS hX (q := 14) (k := r) (by omega) hN (Nat.le_refl _) h1 (by decide) rfl (by omega) rfl dX1_put_13 (fun g hE hF => ?_)
  have h0 := (hF b (by omega)).trans h0
  have h1 := hE
  have h2 := (hF (b + 2) (by omega)).trans h2
  have h3 := (hF (b + 3) (by omega)).trans h3
  have h4 := (hF (b + 4) (by omega)).trans h4
  have hfr := fun j (hj : j < b ∨ b + 5 ≤ j) => (hF j (by omega)).trans (hfr j hj)
  refine ca_aload_n hX (q := 15) 0 rfl rfl rfl dX1_put_14 ?_
  refine ca_getf hX (q := 18) cl_X1 1 (by decide) w_fl_X1_15 (by omega) h0 rfl rfl dX1_put_15 ?_
  refine ca_iload_n hX (q := 19) 1 rfl rfl rfl dX1_put_18 ?_
  refine ca_iload_n hX (q := 20) 3 rfl rfl rfl dX1_put_19 ?_
  refine ca_iaS hX (q := 21) (k := r) (by omega) hN (Nat.le_refl _) h2 (by decide) rfl (by omega) rfl dX1_put_20 (fun g hE hF => ?_)
  have h0 := (hF b (by omega)).trans h0
  have h1 := (hF (b + 1) (by omega)).trans h1
  have h2 := hE
  have h3 := (hF (b + 3) (by omega)).trans h3
  have h4 := (hF (b + 4) (by omega)).trans h4
  have hfr := fun j (hj : j < b ∨ b + 5 ≤ j) => (hF j (by omega)).trans (hfr j hj)
  refine ca_vret hX rfl rfl rfl rfl dX1_put_21 ?_
  refine ⟨rfl, ⟨?_, ?_, ?_, ?_, ?_⟩, hfr⟩
  · rw [h0, upd_n _ _ (by omega), upd_n _ _ (by omega), upd_n _ _ (by omega), upd_n _ _ (by omega)]
  · rw [h1, msk_upd hr]; exact congrArg (fun f => Sum.inl (25, f)) (msk_ext fun j hj => by rw [upd_n _ _ (show 2 + j ≠ 27 + r by omega)])
  · rw [h2, msk_upd hr]; exact congrArg (fun f => Sum.inl (25, f)) (msk_ext fun j hj => by
      by_cases e : 27 + j = 27 + r
      · rw [e, upd_s, upd_s]
      · rw [upd_n _ _ e, upd_n _ _ e, upd_n _ _ (by omega)])
  · rw [h3]; exact congrArg (fun f => Sum.inl (5, f)) (msk_ext fun j hj => by rw [upd_n _ _ (by omega), upd_n _ _ (by omega)])
  · rw [h4]; exact congrArg (fun f => Sum.inl (125, f)) (msk_ext fun j hj => by rw [upd_n _ _ (by omega), upd_n _ _ (by omega)])

set_option maxRecDepth 100000 in
set_option maxHeartbeats 4000000 in
theorem c_X1_sharpen (l : Launch) (N : Nat) (g : ca_G) (b : Nat) (h : Nat → Int32) (hh : hsG g b h) (hb : b + 5 ≤ N) (P : Nat) (hP : h 0 = nI P) (hP5 : P ≤ 5) (p : Nat) (hp : p < P) (v : Int32) : ca_Ct l yX1_sharpen cX1_sharpen 3 none 1 0 0 N 1000000 [.ref b, .int (nI p), .int v] g (fun rr g' => rr = none ∧ hsG g' b (upd h (52 + p) v) ∧ frG g g' b (b + 5)) := by
  refine ca_intro (by decide) (Nat.le_of_ble_eq_true rfl) (fun X hX hN => ?_)
  show X 0 [_, _, _] [] N 1000000 g
  obtain ⟨h0, h1, h2, h3, h4⟩ := hh
  have hfr : ∀ j, (j < b ∨ b + 5 ≤ j) → g j = g j := fun _ _ => rfl
  refine ca_aload_n hX (q := 1) 0 rfl rfl rfl dX1_sharpen_0 ?_
  refine ca_iload_n hX (q := 2) 1 rfl rfl rfl dX1_sharpen_1 ?_
  refine ca_cVi hX (q := 5) y_X1_hasPerson w_ml_X1_60 (by omega) hN h0 (c_X1_hasPerson l N g b h ⟨h0, h1, h2, h3, h4⟩ hb (nI p)) (by decide) rfl (by decide) rfl dX1_sharpen_2 rfl ?_
  refine ca_if_eq hX (q := 8) 15 rfl rfl dX1_sharpen_5 (fun z => absurd z (by rw [hpB_ok hP hP5 hp]; decide)) (fun _ => ?_)
  refine ca_aload_n hX (q := 9) 0 rfl rfl rfl dX1_sharpen_8 ?_
  refine ca_getf hX (q := 12) cl_X1 2 (by decide) w_fl_X1_18 (by omega) h0 rfl rfl dX1_sharpen_9 ?_
  refine ca_iload_n hX (q := 13) 1 rfl rfl rfl dX1_sharpen_12 ?_
  refine ca_iload_n hX (q := 14) 2 rfl rfl rfl dX1_sharpen_13 ?_
  refine ca_iaS hX (q := 15) (k := p) (by omega) hN (Nat.le_refl _) h3 (by decide) rfl (by omega) rfl dX1_sharpen_14 (fun g hE hF => ?_)
  have h0 := (hF b (by omega)).trans h0
  have h1 := (hF (b + 1) (by omega)).trans h1
  have h2 := (hF (b + 2) (by omega)).trans h2
  have h3 := hE
  have h4 := (hF (b + 4) (by omega)).trans h4
  have hfr := fun j (hj : j < b ∨ b + 5 ≤ j) => (hF j (by omega)).trans (hfr j hj)
  refine ca_vret hX rfl rfl rfl rfl dX1_sharpen_15 ?_
  refine ⟨rfl, ⟨?_, ?_, ?_, ?_, ?_⟩, hfr⟩
  · rw [h0, upd_n _ _ (by omega), upd_n _ _ (by omega)]
  · rw [h1]; exact congrArg (fun f => Sum.inl (25, f)) (msk_ext fun j hj => by rw [upd_n _ _ (by omega)])
  · rw [h2]; exact congrArg (fun f => Sum.inl (25, f)) (msk_ext fun j hj => by rw [upd_n _ _ (by omega)])
  · rw [h3, msk_upd (by omega)]
  · rw [h4]; exact congrArg (fun f => Sum.inl (125, f)) (msk_ext fun j hj => by rw [upd_n _ _ (by omega)])

set_option maxRecDepth 100000 in
set_option maxHeartbeats 4000000 in
theorem c_X1_learn (l : Launch) (N : Nat) (g : ca_G) (b : Nat) (h : Nat → Int32) (hh : hsG g b h) (hb : b + 5 ≤ N) (P : Nat) (hP : h 0 = nI P) (hP5 : P ≤ 5) (p r : Nat) (hp : p < P) (hr : r < 25) (v : Int32) : ca_Ct l yX1_learn cX1_learn 4 none 1 0 0 N 1000000 [.ref b, .int (nI p), .int (nI r), .int v] g (fun rr g' => rr = none ∧ hsG g' b (upd h (57 + (25 * p + r)) v) ∧ frG g g' b (b + 5)) := by
  refine ca_intro (by decide) (Nat.le_of_ble_eq_true rfl) (fun X hX hN => ?_)
  show X 0 [_, _, _, _] [] N 1000000 g
  obtain ⟨h0, h1, h2, h3, h4⟩ := hh
  have hfr : ∀ j, (j < b ∨ b + 5 ≤ j) → g j = g j := fun _ _ => rfl
  refine ca_aload_n hX (q := 1) 0 rfl rfl rfl dX1_learn_0 ?_
  refine ca_iload_n hX (q := 2) 1 rfl rfl rfl dX1_learn_1 ?_
  refine ca_cVi hX (q := 5) y_X1_hasPerson w_ml_X1_60 (by omega) hN h0 (c_X1_hasPerson l N g b h ⟨h0, h1, h2, h3, h4⟩ hb (nI p)) (by decide) rfl (by decide) rfl dX1_learn_2 rfl ?_
  refine ca_if_eq hX (q := 8) 27 rfl rfl dX1_learn_5 (fun z => absurd z (by rw [hpB_ok hP hP5 hp]; decide)) (fun _ => ?_)
  refine ca_iload_n hX (q := 9) 2 rfl rfl rfl dX1_learn_8 ?_
  refine ca_cSNi hX (q := 12) y_X5_isRoom w_mn_X1_37 hN (c_X5_isRoom l N g (nI r)) (by decide) rfl (by decide) rfl dX1_learn_9 rfl ?_
  refine ca_if_eq hX (q := 15) 27 rfl rfl dX1_learn_12 (fun z => absurd z (by rw [rmB_ok hr]; decide)) (fun _ => ?_)
  refine ca_aload_n hX (q := 16) 0 rfl rfl rfl dX1_learn_15 ?_
  refine ca_getf hX (q := 19) cl_X1 3 (by decide) w_fl_X1_21 (by omega) h0 rfl rfl dX1_learn_16 ?_
  refine ca_iload_n hX (q := 20) 1 rfl rfl rfl dX1_learn_19 ?_
  refine ca_bipush hX (q := 22) k_bipush_25 rfl dX1_learn_20 ?_
  refine ca_imul hX (q := 23) rfl dX1_learn_22 ?_
  refine ca_iload_n hX (q := 24) 2 rfl rfl rfl dX1_learn_23 ?_
  refine ca_iadd hX (q := 25) rfl dX1_learn_24 ?_
  refine ca_iload_n hX (q := 26) 3 rfl rfl rfl dX1_learn_25 ?_
  refine ca_iaS hX (q := 27) (k := 25 * p + r) (by omega) hN (Nat.le_refl _) h4 (by decide) (ixK (by omega) hr) (by omega) rfl dX1_learn_26 (fun g hE hF => ?_)
  have h0 := (hF b (by omega)).trans h0
  have h1 := (hF (b + 1) (by omega)).trans h1
  have h2 := (hF (b + 2) (by omega)).trans h2
  have h3 := (hF (b + 3) (by omega)).trans h3
  have h4 := hE
  have hfr := fun j (hj : j < b ∨ b + 5 ≤ j) => (hF j (by omega)).trans (hfr j hj)
  refine ca_vret hX rfl rfl rfl rfl dX1_learn_27 ?_
  refine ⟨rfl, ⟨?_, ?_, ?_, ?_, ?_⟩, hfr⟩
  · rw [h0, upd_n _ _ (by omega), upd_n _ _ (by omega)]
  · rw [h1]; exact congrArg (fun f => Sum.inl (25, f)) (msk_ext fun j hj => by rw [upd_n _ _ (by omega)])
  · rw [h2]; exact congrArg (fun f => Sum.inl (25, f)) (msk_ext fun j hj => by rw [upd_n _ _ (by omega)])
  · rw [h3]; exact congrArg (fun f => Sum.inl (5, f)) (msk_ext fun j hj => by rw [upd_n _ _ (by omega)])
  · rw [h4, msk_upd (by omega)]
