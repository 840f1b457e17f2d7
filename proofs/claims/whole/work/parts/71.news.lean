/-! the constructors -/
theorem ca_rm {l : Launch} {y : MethodName} {cc : ByteArray} {nL : Nat} {ret : Option FieldType} {F mc ms N0 S0 : Nat} {post : ca_Post} {X : ca_J} (hX : ca_Good l y cc nL ret F mc ms N0 S0 none post X) : N0 + mc ≤ 1000 := by
  obtain ⟨p, e, R, s, m, args, below, meth, c, D, cI, ad, base, Q, rfl, hx, hb, hml, hown, hts, hK, hB, hR, hQ, hL⟩ := hX
  exact (hQ rfl).1
theorem mk_z (o n : Nat) : (fun _ => 0 : Nat → Int32) = msk o n (fun _ => 0) := by funext j; unfold msk; split <;> rfl

set_option maxRecDepth 100000 in
set_option maxHeartbeats 4000000 in
theorem n_X1 (l : Launch) (b : Nat) (g0 : ca_G) (hb0 : g0 b = .inr (1, [.null, .null, .null, .null, .int 0, .int 0])) : ca_Ct l yX1_init cX1_init 1 none 1 4 180 (b + 1) 0 [.ref b] g0 (fun rr g' => rr = none ∧ hsG g' b (fun _ => 0) ∧ ∀ j, j < b → g' j = g0 j) := by
  refine ca_intro (by decide) (Nat.le_of_ble_eq_true rfl) (fun X hX hN => ?_)
  have hR := ca_rm hX
  show X 0 [_] [] (b + 1) 0 g0
  obtain ⟨g, hgg⟩ : ∃ g, g = g0 := ⟨g0, rfl⟩
  rw [← hgg] at hb0 ⊢
  have hfr : ∀ j, j < b → g j = g0 j := fun j _ => by rw [hgg]
  refine ca_aload_n hX (q := 1) 0 rfl rfl rfl dX1_init_0 ?_
  refine ca_obj hX (q := 4) w_ml_X1_3 w_oi w_oc (by decide) (by decide) rfl dX1_init_1 ?_
  refine ca_aload_n hX (q := 5) 0 rfl rfl rfl dX1_init_4 ?_
  refine ca_bipush hX (q := 7) k_bipush_25 rfl dX1_init_5 ?_
  refine ca_newa hX (q := 9) (n := 25) w_arr rfl (by decide) (by omega) (by omega) (by omega) (by omega) rfl dX1_init_7 ?_
  obtain ⟨g, hG, hF0⟩ : ∃ g2 : ca_G, g2 = ca_up g (b + 1) (.inl (25, fun _ => 0)) ∧ ∀ j, j ≠ b + 1 → g2 j = g j := ⟨_, rfl, fun j hj => ca_up_n _ _ hj⟩
  rw [← hG]
  have ha0 : g (b + 1) = .inl (25, fun _ => 0) := by rw [hG]; exact ca_up_s _ _ _
  have hb0 := (hF0 b (by omega)).trans hb0
  have hfr : ∀ j, j < b → g j = g0 j := fun j hj => (hF0 j (by omega)).trans (hfr j hj)
  refine ca_putG hX (q := 12) (fs' := [.ref (b + 1), .null, .null, .null, .int 0, .int 0]) cl_X1 0 (by decide) w_fl_X1_9 (Or.inr ⟨rfl, rfl⟩) (fun _ => rfl) (fun _ => rfl) (by omega) (by omega) hb0 (Nat.le_of_ble_eq_true rfl) rfl rfl dX1_init_9 (fun g hE hF => ?_)
  have hb0 := hE
  have ha0 := (hF (b + 1) (by omega)).trans ha0
  have hfr : ∀ j, j < b → g j = g0 j := fun j hj => (hF j (by omega)).trans (hfr j hj)
  refine ca_aload_n hX (q := 13) 0 rfl rfl rfl dX1_init_12 ?_
  refine ca_bipush hX (q := 15) k_bipush_25 rfl dX1_init_13 ?_
  refine ca_newa hX (q := 17) (n := 25) w_arr rfl (by decide) (by omega) (by omega) (by omega) (by omega) rfl dX1_init_15 ?_
  obtain ⟨g, hG, hF0⟩ : ∃ g2 : ca_G, g2 = ca_up g (b + 1 + 1) (.inl (25, fun _ => 0)) ∧ ∀ j, j ≠ b + 2 → g2 j = g j := ⟨_, rfl, fun j hj => ca_up_n _ _ hj⟩
  rw [← hG]
  have ha1 : g (b + 2) = .inl (25, fun _ => 0) := by rw [hG]; exact ca_up_s _ _ _
  have hb0 := (hF0 b (by omega)).trans hb0
  have ha0 := (hF0 (b + 1) (by omega)).trans ha0
  have hfr : ∀ j, j < b → g j = g0 j := fun j hj => (hF0 j (by omega)).trans (hfr j hj)
  refine ca_putG hX (q := 20) (fs' := [.ref (b + 1), .ref (b + 2), .null, .null, .int 0, .int 0]) cl_X1 1 (by decide) w_fl_X1_15 (Or.inr ⟨rfl, rfl⟩) (fun _ => rfl) (fun _ => rfl) (by omega) (by omega) hb0 (Nat.le_of_ble_eq_true rfl) rfl rfl dX1_init_17 (fun g hE hF => ?_)
  have hb0 := hE
  have ha0 := (hF (b + 1) (by omega)).trans ha0
  have ha1 := (hF (b + 2) (by omega)).trans ha1
  have hfr : ∀ j, j < b → g j = g0 j := fun j hj => (hF j (by omega)).trans (hfr j hj)
  refine ca_aload_n hX (q := 21) 0 rfl rfl rfl dX1_init_20 ?_
  refine ca_iconst hX (q := 22) k_iconst_5 rfl dX1_init_21 ?_
  refine ca_newa hX (q := 24) (n := 5) w_arr rfl (by decide) (by omega) (by omega) (by omega) (by omega) rfl dX1_init_22 ?_
  obtain ⟨g, hG, hF0⟩ : ∃ g2 : ca_G, g2 = ca_up g (b + 1 + 1 + 1) (.inl (5, fun _ => 0)) ∧ ∀ j, j ≠ b + 3 → g2 j = g j := ⟨_, rfl, fun j hj => ca_up_n _ _ hj⟩
  rw [← hG]
  have ha2 : g (b + 3) = .inl (5, fun _ => 0) := by rw [hG]; exact ca_up_s _ _ _
  have hb0 := (hF0 b (by omega)).trans hb0
  have ha0 := (hF0 (b + 1) (by omega)).trans ha0
  have ha1 := (hF0 (b + 2) (by omega)).trans ha1
  have hfr : ∀ j, j < b → g j = g0 j := fun j hj => (hF0 j (by omega)).trans (hfr j hj)
  refine ca_putG hX (q := 27) (fs' := [.ref (b + 1), .ref (b + 2), .ref (b + 3), .null, .int 0, .int 0]) cl_X1 2 (by decide) w_fl_X1_18 (Or.inr ⟨rfl, rfl⟩) (fun _ => rfl) (fun _ => rfl) (by omega) (by omega) hb0 (Nat.le_of_ble_eq_true rfl) rfl rfl dX1_init_24 (fun g hE hF => ?_)
  have hb0 := hE
  have ha0 := (hF (b + 1) (by omega)).trans ha0
  have ha1 := (hF (b + 2) (by omega)).trans ha1
  have ha2 := (hF (b + 3) (by omega)).trans ha2
  have hfr : ∀ j, j < b → g j = g0 j := fun j hj => (hF j (by omega)).trans (hfr j hj)
  refine ca_aload_n hX (q := 28) 0 rfl rfl rfl dX1_init_27 ?_
  refine ca_bipush hX (q := 30) k_bipush_125 rfl dX1_init_28 ?_
  refine ca_newa hX (q := 32) (n := 125) w_arr rfl (by decide) (by omega) (by omega) (by omega) (by omega) rfl dX1_init_30 ?_
  obtain ⟨g, hG, hF0⟩ : ∃ g2 : ca_G, g2 = ca_up g (b + 1 + 1 + 1 + 1) (.inl (125, fun _ => 0)) ∧ ∀ j, j ≠ b + 4 → g2 j = g j := ⟨_, rfl, fun j hj => ca_up_n _ _ hj⟩
  rw [← hG]
  have ha3 : g (b + 4) = .inl (125, fun _ => 0) := by rw [hG]; exact ca_up_s _ _ _
  have hb0 := (hF0 b (by omega)).trans hb0
  have ha0 := (hF0 (b + 1) (by omega)).trans ha0
  have ha1 := (hF0 (b + 2) (by omega)).trans ha1
  have ha2 := (hF0 (b + 3) (by omega)).trans ha2
  have hfr : ∀ j, j < b → g j = g0 j := fun j hj => (hF0 j (by omega)).trans (hfr j hj)
  refine ca_putG hX (q := 35) (fs' := [.ref (b + 1), .ref (b + 2), .ref (b + 3), .ref (b + 4), .int 0, .int 0]) cl_X1 3 (by decide) w_fl_X1_21 (Or.inr ⟨rfl, rfl⟩) (fun _ => rfl) (fun _ => rfl) (by omega) (by omega) hb0 (Nat.le_of_ble_eq_true rfl) rfl rfl dX1_init_32 (fun g hE hF => ?_)
  have hb0 := hE
  have ha0 := (hF (b + 1) (by omega)).trans ha0
  have ha1 := (hF (b + 2) (by omega)).trans ha1
  have ha2 := (hF (b + 3) (by omega)).trans ha2
  have ha3 := (hF (b + 4) (by omega)).trans ha3
  have hfr : ∀ j, j < b → g j = g0 j := fun j hj => (hF j (by omega)).trans (hfr j hj)
  refine ca_aload_n hX (q := 36) 0 rfl rfl rfl dX1_init_35 ?_
  refine ca_iconst hX (q := 37) k_iconst_0 rfl dX1_init_36 ?_
  refine ca_putG hX (q := 40) (fs' := [.ref (b + 1), .ref (b + 2), .ref (b + 3), .ref (b + 4), .int 0, .int 0]) cl_X1 4 (by decide) w_fl_X1_24 (Or.inl rfl) (fun _ => rfl) (fun _ => rfl) (by omega) (by omega) hb0 (Nat.le_of_ble_eq_true rfl) rfl rfl dX1_init_37 (fun g hE hF => ?_)
  have hb0 := hE
  have ha0 := (hF (b + 1) (by omega)).trans ha0
  have ha1 := (hF (b + 2) (by omega)).trans ha1
  have ha2 := (hF (b + 3) (by omega)).trans ha2
  have ha3 := (hF (b + 4) (by omega)).trans ha3
  have hfr : ∀ j, j < b → g j = g0 j := fun j hj => (hF j (by omega)).trans (hfr j hj)
  refine ca_aload_n hX (q := 41) 0 rfl rfl rfl dX1_init_40 ?_
  refine ca_iconst hX (q := 42) k_iconst_0 rfl dX1_init_41 ?_
  refine ca_putG hX (q := 45) (fs' := [.ref (b + 1), .ref (b + 2), .ref (b + 3), .ref (b + 4), .int 0, .int 0]) cl_X1 5 (by decide) w_fl_X1_28 (Or.inl rfl) (fun _ => rfl) (fun _ => rfl) (by omega) (by omega) hb0 (Nat.le_of_ble_eq_true rfl) rfl rfl dX1_init_42 (fun g hE hF => ?_)
  have hb0 := hE
  have ha0 := (hF (b + 1) (by omega)).trans ha0
  have ha1 := (hF (b + 2) (by omega)).trans ha1
  have ha2 := (hF (b + 3) (by omega)).trans ha2
  have ha3 := (hF (b + 4) (by omega)).trans ha3
  have hfr : ∀ j, j < b → g j = g0 j := fun j hj => (hF j (by omega)).trans (hfr j hj)
  refine ca_vret hX rfl rfl rfl rfl dX1_init_45 ?_
  exact ⟨rfl, ⟨hb0, by rw [← mk_z]; exact ha0, by rw [← mk_z]; exact ha1, by rw [← mk_z]; exact ha2, by rw [← mk_z]; exact ha3⟩, hfr⟩

set_option maxRecDepth 100000 in
set_option maxHeartbeats 4000000 in
theorem n_X0 (l : Launch) (b : Nat) (g0 : ca_G) (hb0 : g0 b = .inr (0, [.null, .null, .null, .null, .null, .null, .null, .null, .int 0, .int 0, .int 0, .int 0, .int 0])) : ca_Ct l yX0_init cX0_init 1 none 1 8 444 (b + 1) 0 [.ref b] g0 (fun rr g' => rr = none ∧ bzG g' b (fun _ _ => 0) ∧ ∀ j, j < b → g' j = g0 j) := by
  refine ca_intro (by decide) (Nat.le_of_ble_eq_true rfl) (fun X hX hN => ?_)
  have hR := ca_rm hX
  show X 0 [_] [] (b + 1) 0 g0
  obtain ⟨g, hgg⟩ : ∃ g, g = g0 := ⟨g0, rfl⟩
  rw [← hgg] at hb0 ⊢
  have hfr : ∀ j, j < b → g j = g0 j := fun j _ => by rw [hgg]
  refine ca_aload_n hX (q := 1) 0 rfl rfl rfl dX0_init_0 ?_
  refine ca_obj hX (q := 4) w_ml_X0_5 w_oi w_oc (by decide) (by decide) rfl dX0_init_1 ?_
  refine ca_aload_n hX (q := 5) 0 rfl rfl rfl dX0_init_4 ?_
  refine ca_iconst hX (q := 6) k_iconst_5 rfl dX0_init_5 ?_
  refine ca_newa hX (q := 8) (n := 5) w_arr rfl (by decide) (by omega) (by omega) (by omega) (by omega) rfl dX0_init_6 ?_
  obtain ⟨g, hG, hF0⟩ : ∃ g2 : ca_G, g2 = ca_up g (b + 1) (.inl (5, fun _ => 0)) ∧ ∀ j, j ≠ b + 1 → g2 j = g j := ⟨_, rfl, fun j hj => ca_up_n _ _ hj⟩
  rw [← hG]
  have ha0 : g (b + 1) = .inl (5, fun _ => 0) := by rw [hG]; exact ca_up_s _ _ _
  have hb0 := (hF0 b (by omega)).trans hb0
  have hfr : ∀ j, j < b → g j = g0 j := fun j hj => (hF0 j (by omega)).trans (hfr j hj)
  refine ca_putG hX (q := 11) (fs' := [.ref (b + 1), .null, .null, .null, .null, .null, .null, .null, .int 0, .int 0, .int 0, .int 0, .int 0]) cl_X0 0 (by decide) w_fl_X0_11 (Or.inr ⟨rfl, rfl⟩) (fun _ => rfl) (fun _ => rfl) (by omega) (by omega) hb0 (Nat.le_of_ble_eq_true rfl) rfl rfl dX0_init_8 (fun g hE hF => ?_)
  have hb0 := hE
  have ha0 := (hF (b + 1) (by omega)).trans ha0
  have hfr : ∀ j, j < b → g j = g0 j := fun j hj => (hF j (by omega)).trans (hfr j hj)
  refine ca_aload_n hX (q := 12) 0 rfl rfl rfl dX0_init_11 ?_
  refine ca_bipush hX (q := 14) k_bipush_25 rfl dX0_init_12 ?_
  refine ca_newa hX (q := 16) (n := 25) w_arr rfl (by decide) (by omega) (by omega) (by omega) (by omega) rfl dX0_init_14 ?_
  obtain ⟨g, hG, hF0⟩ : ∃ g2 : ca_G, g2 = ca_up g (b + 1 + 1) (.inl (25, fun _ => 0)) ∧ ∀ j, j ≠ b + 2 → g2 j = g j := ⟨_, rfl, fun j hj => ca_up_n _ _ hj⟩
  rw [← hG]
  have ha1 : g (b + 2) = .inl (25, fun _ => 0) := by rw [hG]; exact ca_up_s _ _ _
  have hb0 := (hF0 b (by omega)).trans hb0
  have ha0 := (hF0 (b + 1) (by omega)).trans ha0
  have hfr : ∀ j, j < b → g j = g0 j := fun j hj => (hF0 j (by omega)).trans (hfr j hj)
  refine ca_putG hX (q := 19) (fs' := [.ref (b + 1), .ref (b + 2), .null, .null, .null, .null, .null, .null, .int 0, .int 0, .int 0, .int 0, .int 0]) cl_X0 1 (by decide) w_fl_X0_15 (Or.inr ⟨rfl, rfl⟩) (fun _ => rfl) (fun _ => rfl) (by omega) (by omega) hb0 (Nat.le_of_ble_eq_true rfl) rfl rfl dX0_init_16 (fun g hE hF => ?_)
  have hb0 := hE
  have ha0 := (hF (b + 1) (by omega)).trans ha0
  have ha1 := (hF (b + 2) (by omega)).trans ha1
  have hfr : ∀ j, j < b → g j = g0 j := fun j hj => (hF j (by omega)).trans (hfr j hj)
  refine ca_aload_n hX (q := 20) 0 rfl rfl rfl dX0_init_19 ?_
  refine ca_iconst hX (q := 21) k_iconst_5 rfl dX0_init_20 ?_
  refine ca_newa hX (q := 23) (n := 5) w_arr rfl (by decide) (by omega) (by omega) (by omega) (by omega) rfl dX0_init_21 ?_
  obtain ⟨g, hG, hF0⟩ : ∃ g2 : ca_G, g2 = ca_up g (b + 1 + 1 + 1) (.inl (5, fun _ => 0)) ∧ ∀ j, j ≠ b + 3 → g2 j = g j := ⟨_, rfl, fun j hj => ca_up_n _ _ hj⟩
  rw [← hG]
  have ha2 : g (b + 3) = .inl (5, fun _ => 0) := by rw [hG]; exact ca_up_s _ _ _
  have hb0 := (hF0 b (by omega)).trans hb0
  have ha0 := (hF0 (b + 1) (by omega)).trans ha0
  have ha1 := (hF0 (b + 2) (by omega)).trans ha1
  have hfr : ∀ j, j < b → g j = g0 j := fun j hj => (hF0 j (by omega)).trans (hfr j hj)
  refine ca_putG hX (q := 26) (fs' := [.ref (b + 1), .ref (b + 2), .ref (b + 3), .null, .null, .null, .null, .null, .int 0, .int 0, .int 0, .int 0, .int 0]) cl_X0 2 (by decide) w_fl_X0_18 (Or.inr ⟨rfl, rfl⟩) (fun _ => rfl) (fun _ => rfl) (by omega) (by omega) hb0 (Nat.le_of_ble_eq_true rfl) rfl rfl dX0_init_23 (fun g hE hF => ?_)
  have hb0 := hE
  have ha0 := (hF (b + 1) (by omega)).trans ha0
  have ha1 := (hF (b + 2) (by omega)).trans ha1
  have ha2 := (hF (b + 3) (by omega)).trans ha2
  have hfr : ∀ j, j < b → g j = g0 j := fun j hj => (hF j (by omega)).trans (hfr j hj)
  refine ca_aload_n hX (q := 27) 0 rfl rfl rfl dX0_init_26 ?_
  refine ca_iconst hX (q := 28) k_iconst_5 rfl dX0_init_27 ?_
  refine ca_newa hX (q := 30) (n := 5) w_arr rfl (by decide) (by omega) (by omega) (by omega) (by omega) rfl dX0_init_28 ?_
  obtain ⟨g, hG, hF0⟩ : ∃ g2 : ca_G, g2 = ca_up g (b + 1 + 1 + 1 + 1) (.inl (5, fun _ => 0)) ∧ ∀ j, j ≠ b + 4 → g2 j = g j := ⟨_, rfl, fun j hj => ca_up_n _ _ hj⟩
  rw [← hG]
  have ha3 : g (b + 4) = .inl (5, fun _ => 0) := by rw [hG]; exact ca_up_s _ _ _
  have hb0 := (hF0 b (by omega)).trans hb0
  have ha0 := (hF0 (b + 1) (by omega)).trans ha0
  have ha1 := (hF0 (b + 2) (by omega)).trans ha1
  have ha2 := (hF0 (b + 3) (by omega)).trans ha2
  have hfr : ∀ j, j < b → g j = g0 j := fun j hj => (hF0 j (by omega)).trans (hfr j hj)
  refine ca_putG hX (q := 33) (fs' := [.ref (b + 1), .ref (b + 2), .ref (b + 3), .ref (b + 4), .null, .null, .null, .null, .int 0, .int 0, .int 0, .int 0, .int 0]) cl_X0 3 (by decide) w_fl_X0_21 (Or.inr ⟨rfl, rfl⟩) (fun _ => rfl) (fun _ => rfl) (by omega) (by omega) hb0 (Nat.le_of_ble_eq_true rfl) rfl rfl dX0_init_30 (fun g hE hF => ?_)
  have hb0 := hE
  have ha0 := (hF (b + 1) (by omega)).trans ha0
  have ha1 := (hF (b + 2) (by omega)).trans ha1
  have ha2 := (hF (b + 3) (by omega)).trans ha2
  have ha3 := (hF (b + 4) (by omega)).trans ha3
  have hfr : ∀ j, j < b → g j = g0 j := fun j hj => (hF j (by omega)).trans (hfr j hj)
  refine ca_aload_n hX (q := 34) 0 rfl rfl rfl dX0_init_33 ?_
  refine ca_bipush hX (q := 36) k_bipush_101 rfl dX0_init_34 ?_
  refine ca_newa hX (q := 38) (n := 101) w_arr rfl (by decide) (by omega) (by omega) (by omega) (by omega) rfl dX0_init_36 ?_
  obtain ⟨g, hG, hF0⟩ : ∃ g2 : ca_G, g2 = ca_up g (b + 1 + 1 + 1 + 1 + 1) (.inl (101, fun _ => 0)) ∧ ∀ j, j ≠ b + 5 → g2 j = g j := ⟨_, rfl, fun j hj => ca_up_n _ _ hj⟩
  rw [← hG]
  have ha4 : g (b + 5) = .inl (101, fun _ => 0) := by rw [hG]; exact ca_up_s _ _ _
  have hb0 := (hF0 b (by omega)).trans hb0
  have ha0 := (hF0 (b + 1) (by omega)).trans ha0
  have ha1 := (hF0 (b + 2) (by omega)).trans ha1
  have ha2 := (hF0 (b + 3) (by omega)).trans ha2
  have ha3 := (hF0 (b + 4) (by omega)).trans ha3
  have hfr : ∀ j, j < b → g j = g0 j := fun j hj => (hF0 j (by omega)).trans (hfr j hj)
  refine ca_putG hX (q := 41) (fs' := [.ref (b + 1), .ref (b + 2), .ref (b + 3), .ref (b + 4), .ref (b + 5), .null, .null, .null, .int 0, .int 0, .int 0, .int 0, .int 0]) cl_X0 4 (by decide) w_fl_X0_24 (Or.inr ⟨rfl, rfl⟩) (fun _ => rfl) (fun _ => rfl) (by omega) (by omega) hb0 (Nat.le_of_ble_eq_true rfl) rfl rfl dX0_init_38 (fun g hE hF => ?_)
  have hb0 := hE
  have ha0 := (hF (b + 1) (by omega)).trans ha0
  have ha1 := (hF (b + 2) (by omega)).trans ha1
  have ha2 := (hF (b + 3) (by omega)).trans ha2
  have ha3 := (hF (b + 4) (by omega)).trans ha3
  have ha4 := (hF (b + 5) (by omega)).trans ha4
  have hfr : ∀ j, j < b → g j = g0 j := fun j hj => (hF j (by omega)).trans (hfr j hj)
  refine ca_aload_n hX (q := 42) 0 rfl rfl rfl dX0_init_41 ?_
  refine ca_bipush hX (q := 44) k_bipush_101 rfl dX0_init_42 ?_
  refine ca_newa hX (q := 46) (n := 101) w_arr rfl (by decide) (by omega) (by omega) (by omega) (by omega) rfl dX0_init_44 ?_
  obtain ⟨g, hG, hF0⟩ : ∃ g2 : ca_G, g2 = ca_up g (b + 1 + 1 + 1 + 1 + 1 + 1) (.inl (101, fun _ => 0)) ∧ ∀ j, j ≠ b + 6 → g2 j = g j := ⟨_, rfl, fun j hj => ca_up_n _ _ hj⟩
  rw [← hG]
  have ha5 : g (b + 6) = .inl (101, fun _ => 0) := by rw [hG]; exact ca_up_s _ _ _
  have hb0 := (hF0 b (by omega)).trans hb0
  have ha0 := (hF0 (b + 1) (by omega)).trans ha0
  have ha1 := (hF0 (b + 2) (by omega)).trans ha1
  have ha2 := (hF0 (b + 3) (by omega)).trans ha2
  have ha3 := (hF0 (b + 4) (by omega)).trans ha3
  have ha4 := (hF0 (b + 5) (by omega)).trans ha4
  have hfr : ∀ j, j < b → g j = g0 j := fun j hj => (hF0 j (by omega)).trans (hfr j hj)
  refine ca_putG hX (q := 49) (fs' := [.ref (b + 1), .ref (b + 2), .ref (b + 3), .ref (b + 4), .ref (b + 5), .ref (b + 6), .null, .null, .int 0, .int 0, .int 0, .int 0, .int 0]) cl_X0 5 (by decide) w_fl_X0_27 (Or.inr ⟨rfl, rfl⟩) (fun _ => rfl) (fun _ => rfl) (by omega) (by omega) hb0 (Nat.le_of_ble_eq_true rfl) rfl rfl dX0_init_46 (fun g hE hF => ?_)
  have hb0 := hE
  have ha0 := (hF (b + 1) (by omega)).trans ha0
  have ha1 := (hF (b + 2) (by omega)).trans ha1
  have ha2 := (hF (b + 3) (by omega)).trans ha2
  have ha3 := (hF (b + 4) (by omega)).trans ha3
  have ha4 := (hF (b + 5) (by omega)).trans ha4
  have ha5 := (hF (b + 6) (by omega)).trans ha5
  have hfr : ∀ j, j < b → g j = g0 j := fun j hj => (hF j (by omega)).trans (hfr j hj)
  refine ca_aload_n hX (q := 50) 0 rfl rfl rfl dX0_init_49 ?_
  refine ca_bipush hX (q := 52) k_bipush_101 rfl dX0_init_50 ?_
  refine ca_newa hX (q := 54) (n := 101) w_arr rfl (by decide) (by omega) (by omega) (by omega) (by omega) rfl dX0_init_52 ?_
  obtain ⟨g, hG, hF0⟩ : ∃ g2 : ca_G, g2 = ca_up g (b + 1 + 1 + 1 + 1 + 1 + 1 + 1) (.inl (101, fun _ => 0)) ∧ ∀ j, j ≠ b + 7 → g2 j = g j := ⟨_, rfl, fun j hj => ca_up_n _ _ hj⟩
  rw [← hG]
  have ha6 : g (b + 7) = .inl (101, fun _ => 0) := by rw [hG]; exact ca_up_s _ _ _
  have hb0 := (hF0 b (by omega)).trans hb0
  have ha0 := (hF0 (b + 1) (by omega)).trans ha0
  have ha1 := (hF0 (b + 2) (by omega)).trans ha1
  have ha2 := (hF0 (b + 3) (by omega)).trans ha2
  have ha3 := (hF0 (b + 4) (by omega)).trans ha3
  have ha4 := (hF0 (b + 5) (by omega)).trans ha4
  have ha5 := (hF0 (b + 6) (by omega)).trans ha5
  have hfr : ∀ j, j < b → g j = g0 j := fun j hj => (hF0 j (by omega)).trans (hfr j hj)
  refine ca_putG hX (q := 57) (fs' := [.ref (b + 1), .ref (b + 2), .ref (b + 3), .ref (b + 4), .ref (b + 5), .ref (b + 6), .ref (b + 7), .null, .int 0, .int 0, .int 0, .int 0, .int 0]) cl_X0 6 (by decide) w_fl_X0_30 (Or.inr ⟨rfl, rfl⟩) (fun _ => rfl) (fun _ => rfl) (by omega) (by omega) hb0 (Nat.le_of_ble_eq_true rfl) rfl rfl dX0_init_54 (fun g hE hF => ?_)
  have hb0 := hE
  have ha0 := (hF (b + 1) (by omega)).trans ha0
  have ha1 := (hF (b + 2) (by omega)).trans ha1
  have ha2 := (hF (b + 3) (by omega)).trans ha2
  have ha3 := (hF (b + 4) (by omega)).trans ha3
  have ha4 := (hF (b + 5) (by omega)).trans ha4
  have ha5 := (hF (b + 6) (by omega)).trans ha5
  have ha6 := (hF (b + 7) (by omega)).trans ha6
  have hfr : ∀ j, j < b → g j = g0 j := fun j hj => (hF j (by omega)).trans (hfr j hj)
  refine ca_aload_n hX (q := 58) 0 rfl rfl rfl dX0_init_57 ?_
  refine ca_bipush hX (q := 60) k_bipush_101 rfl dX0_init_58 ?_
  refine ca_newa hX (q := 62) (n := 101) w_arr rfl (by decide) (by omega) (by omega) (by omega) (by omega) rfl dX0_init_60 ?_
  obtain ⟨g, hG, hF0⟩ : ∃ g2 : ca_G, g2 = ca_up g (b + 1 + 1 + 1 + 1 + 1 + 1 + 1 + 1) (.inl (101, fun _ => 0)) ∧ ∀ j, j ≠ b + 8 → g2 j = g j := ⟨_, rfl, fun j hj => ca_up_n _ _ hj⟩
  rw [← hG]
  have ha7 : g (b + 8) = .inl (101, fun _ => 0) := by rw [hG]; exact ca_up_s _ _ _
  have hb0 := (hF0 b (by omega)).trans hb0
  have ha0 := (hF0 (b + 1) (by omega)).trans ha0
  have ha1 := (hF0 (b + 2) (by omega)).trans ha1
  have ha2 := (hF0 (b + 3) (by omega)).trans ha2
  have ha3 := (hF0 (b + 4) (by omega)).trans ha3
  have ha4 := (hF0 (b + 5) (by omega)).trans ha4
  have ha5 := (hF0 (b + 6) (by omega)).trans ha5
  have ha6 := (hF0 (b + 7) (by omega)).trans ha6
  have hfr : ∀ j, j < b → g j = g0 j := fun j hj => (hF0 j (by omega)).trans (hfr j hj)
  refine ca_putG hX (q := 65) (fs' := [.ref (b + 1), .ref (b + 2), .ref (b + 3), .ref (b + 4), .ref (b + 5), .ref (b + 6), .ref (b + 7), .ref (b + 8), .int 0, .int 0, .int 0, .int 0, .int 0]) cl_X0 7 (by decide) w_fl_X0_33 (Or.inr ⟨rfl, rfl⟩) (fun _ => rfl) (fun _ => rfl) (by omega) (by omega) hb0 (Nat.le_of_ble_eq_true rfl) rfl rfl dX0_init_62 (fun g hE hF => ?_)
  have hb0 := hE
  have ha0 := (hF (b + 1) (by omega)).trans ha0
  have ha1 := (hF (b + 2) (by omega)).trans ha1
  have ha2 := (hF (b + 3) (by omega)).trans ha2
  have ha3 := (hF (b + 4) (by omega)).trans ha3
  have ha4 := (hF (b + 5) (by omega)).trans ha4
  have ha5 := (hF (b + 6) (by omega)).trans ha5
  have ha6 := (hF (b + 7) (by omega)).trans ha6
  have ha7 := (hF (b + 8) (by omega)).trans ha7
  have hfr : ∀ j, j < b → g j = g0 j := fun j hj => (hF j (by omega)).trans (hfr j hj)
  refine ca_vret hX rfl rfl rfl rfl dX0_init_65 ?_
  exact ⟨rfl, ⟨hb0, ha0, ha1, ha2, ha3, ha4, ha5, ha6, ha7⟩, hfr⟩

set_option maxRecDepth 100000 in
set_option maxHeartbeats 4000000 in
theorem n_X6 (l : Launch) (b : Nat) (g0 : ca_G) (hb0 : g0 b = .inr (5, [.null, .null, .null, .null, .int 0, .null, .null, .null, .int 0, .int 0, .null, .null, .null, .null, .null, .int 0, .int 0, .int 0, .null, .int 0])) : ca_Ct l yX6_init cX6_init 1 none 1 13 965 (b + 1) 0 [.ref b] g0 (fun rr g' => rr = none ∧ mdG g' b (fun _ _ => 0) ∧ ∀ j, j < b → g' j = g0 j) := by
  refine ca_intro (by decide) (Nat.le_of_ble_eq_true rfl) (fun X hX hN => ?_)
  have hR := ca_rm hX
  show X 0 [_] [] (b + 1) 0 g0
  obtain ⟨g, hgg⟩ : ∃ g, g = g0 := ⟨g0, rfl⟩
  rw [← hgg] at hb0 ⊢
  have hfr : ∀ j, j < b → g j = g0 j := fun j _ => by rw [hgg]
  refine ca_aload_n hX (q := 1) 0 rfl rfl rfl dX6_init_0 ?_
  refine ca_obj hX (q := 4) w_ml_X6_1 w_oi w_oc (by decide) (by decide) rfl dX6_init_1 ?_
  refine ca_aload_n hX (q := 5) 0 rfl rfl rfl dX6_init_4 ?_
  refine ca_sipush hX (q := 8) k_sipush_182 rfl dX6_init_5 ?_
  refine ca_newa hX (q := 10) (n := 182) w_arr rfl (by decide) (by omega) (by omega) (by omega) (by omega) rfl dX6_init_8 ?_
  obtain ⟨g, hG, hF0⟩ : ∃ g2 : ca_G, g2 = ca_up g (b + 1) (.inl (182, fun _ => 0)) ∧ ∀ j, j ≠ b + 1 → g2 j = g j := ⟨_, rfl, fun j hj => ca_up_n _ _ hj⟩
  rw [← hG]
  have ha0 : g (b + 1) = .inl (182, fun _ => 0) := by rw [hG]; exact ca_up_s _ _ _
  have hb0 := (hF0 b (by omega)).trans hb0
  have hfr : ∀ j, j < b → g j = g0 j := fun j hj => (hF0 j (by omega)).trans (hfr j hj)
  refine ca_putG hX (q := 13) (fs' := [.ref (b + 1), .null, .null, .null, .int 0, .null, .null, .null, .int 0, .int 0, .null, .null, .null, .null, .null, .int 0, .int 0, .int 0, .null, .int 0]) cl_X6 0 (by decide) w_fl_X6_9 (Or.inr ⟨rfl, rfl⟩) (fun _ => rfl) (fun _ => rfl) (by omega) (by omega) hb0 (Nat.le_of_ble_eq_true rfl) rfl rfl dX6_init_10 (fun g hE hF => ?_)
  have hb0 := hE
  have ha0 := (hF (b + 1) (by omega)).trans ha0
  have hfr : ∀ j, j < b → g j = g0 j := fun j hj => (hF j (by omega)).trans (hfr j hj)
  refine ca_aload_n hX (q := 14) 0 rfl rfl rfl dX6_init_13 ?_
  refine ca_sipush hX (q := 17) k_sipush_182 rfl dX6_init_14 ?_
  refine ca_newa hX (q := 19) (n := 182) w_arr rfl (by decide) (by omega) (by omega) (by omega) (by omega) rfl dX6_init_17 ?_
  obtain ⟨g, hG, hF0⟩ : ∃ g2 : ca_G, g2 = ca_up g (b + 1 + 1) (.inl (182, fun _ => 0)) ∧ ∀ j, j ≠ b + 2 → g2 j = g j := ⟨_, rfl, fun j hj => ca_up_n _ _ hj⟩
  rw [← hG]
  have ha1 : g (b + 2) = .inl (182, fun _ => 0) := by rw [hG]; exact ca_up_s _ _ _
  have hb0 := (hF0 b (by omega)).trans hb0
  have ha0 := (hF0 (b + 1) (by omega)).trans ha0
  have hfr : ∀ j, j < b → g j = g0 j := fun j hj => (hF0 j (by omega)).trans (hfr j hj)
  refine ca_putG hX (q := 22) (fs' := [.ref (b + 1), .ref (b + 2), .null, .null, .int 0, .null, .null, .null, .int 0, .int 0, .null, .null, .null, .null, .null, .int 0, .int 0, .int 0, .null, .int 0]) cl_X6 1 (by decide) w_fl_X6_13 (Or.inr ⟨rfl, rfl⟩) (fun _ => rfl) (fun _ => rfl) (by omega) (by omega) hb0 (Nat.le_of_ble_eq_true rfl) rfl rfl dX6_init_19 (fun g hE hF => ?_)
  have hb0 := hE
  have ha0 := (hF (b + 1) (by omega)).trans ha0
  have ha1 := (hF (b + 2) (by omega)).trans ha1
  have hfr : ∀ j, j < b → g j = g0 j := fun j hj => (hF j (by omega)).trans (hfr j hj)
  refine ca_aload_n hX (q := 23) 0 rfl rfl rfl dX6_init_22 ?_
  refine ca_sipush hX (q := 26) k_sipush_182 rfl dX6_init_23 ?_
  refine ca_newa hX (q := 28) (n := 182) w_arr rfl (by decide) (by omega) (by omega) (by omega) (by omega) rfl dX6_init_26 ?_
  obtain ⟨g, hG, hF0⟩ : ∃ g2 : ca_G, g2 = ca_up g (b + 1 + 1 + 1) (.inl (182, fun _ => 0)) ∧ ∀ j, j ≠ b + 3 → g2 j = g j := ⟨_, rfl, fun j hj => ca_up_n _ _ hj⟩
  rw [← hG]
  have ha2 : g (b + 3) = .inl (182, fun _ => 0) := by rw [hG]; exact ca_up_s _ _ _
  have hb0 := (hF0 b (by omega)).trans hb0
  have ha0 := (hF0 (b + 1) (by omega)).trans ha0
  have ha1 := (hF0 (b + 2) (by omega)).trans ha1
  have hfr : ∀ j, j < b → g j = g0 j := fun j hj => (hF0 j (by omega)).trans (hfr j hj)
  refine ca_putG hX (q := 31) (fs' := [.ref (b + 1), .ref (b + 2), .ref (b + 3), .null, .int 0, .null, .null, .null, .int 0, .int 0, .null, .null, .null, .null, .null, .int 0, .int 0, .int 0, .null, .int 0]) cl_X6 2 (by decide) w_fl_X6_16 (Or.inr ⟨rfl, rfl⟩) (fun _ => rfl) (fun _ => rfl) (by omega) (by omega) hb0 (Nat.le_of_ble_eq_true rfl) rfl rfl dX6_init_28 (fun g hE hF => ?_)
  have hb0 := hE
  have ha0 := (hF (b + 1) (by omega)).trans ha0
  have ha1 := (hF (b + 2) (by omega)).trans ha1
  have ha2 := (hF (b + 3) (by omega)).trans ha2
  have hfr : ∀ j, j < b → g j = g0 j := fun j hj => (hF j (by omega)).trans (hfr j hj)
  refine ca_aload_n hX (q := 32) 0 rfl rfl rfl dX6_init_31 ?_
  refine ca_sipush hX (q := 35) k_sipush_182 rfl dX6_init_32 ?_
  refine ca_newa hX (q := 37) (n := 182) w_arr rfl (by decide) (by omega) (by omega) (by omega) (by omega) rfl dX6_init_35 ?_
  obtain ⟨g, hG, hF0⟩ : ∃ g2 : ca_G, g2 = ca_up g (b + 1 + 1 + 1 + 1) (.inl (182, fun _ => 0)) ∧ ∀ j, j ≠ b + 4 → g2 j = g j := ⟨_, rfl, fun j hj => ca_up_n _ _ hj⟩
  rw [← hG]
  have ha3 : g (b + 4) = .inl (182, fun _ => 0) := by rw [hG]; exact ca_up_s _ _ _
  have hb0 := (hF0 b (by omega)).trans hb0
  have ha0 := (hF0 (b + 1) (by omega)).trans ha0
  have ha1 := (hF0 (b + 2) (by omega)).trans ha1
  have ha2 := (hF0 (b + 3) (by omega)).trans ha2
  have hfr : ∀ j, j < b → g j = g0 j := fun j hj => (hF0 j (by omega)).trans (hfr j hj)
  refine ca_putG hX (q := 40) (fs' := [.ref (b + 1), .ref (b + 2), .ref (b + 3), .ref (b + 4), .int 0, .null, .null, .null, .int 0, .int 0, .null, .null, .null, .null, .null, .int 0, .int 0, .int 0, .null, .int 0]) cl_X6 3 (by decide) w_fl_X6_19 (Or.inr ⟨rfl, rfl⟩) (fun _ => rfl) (fun _ => rfl) (by omega) (by omega) hb0 (Nat.le_of_ble_eq_true rfl) rfl rfl dX6_init_37 (fun g hE hF => ?_)
  have hb0 := hE
  have ha0 := (hF (b + 1) (by omega)).trans ha0
  have ha1 := (hF (b + 2) (by omega)).trans ha1
  have ha2 := (hF (b + 3) (by omega)).trans ha2
  have ha3 := (hF (b + 4) (by omega)).trans ha3
  have hfr : ∀ j, j < b → g j = g0 j := fun j hj => (hF j (by omega)).trans (hfr j hj)
  refine ca_aload_n hX (q := 41) 0 rfl rfl rfl dX6_init_40 ?_
  refine ca_bipush hX (q := 43) k_bipush_96 rfl dX6_init_41 ?_
  refine ca_newa hX (q := 45) (n := 96) w_arr rfl (by decide) (by omega) (by omega) (by omega) (by omega) rfl dX6_init_43 ?_
  obtain ⟨g, hG, hF0⟩ : ∃ g2 : ca_G, g2 = ca_up g (b + 1 + 1 + 1 + 1 + 1) (.inl (96, fun _ => 0)) ∧ ∀ j, j ≠ b + 5 → g2 j = g j := ⟨_, rfl, fun j hj => ca_up_n _ _ hj⟩
  rw [← hG]
  have ha4 : g (b + 5) = .inl (96, fun _ => 0) := by rw [hG]; exact ca_up_s _ _ _
  have hb0 := (hF0 b (by omega)).trans hb0
  have ha0 := (hF0 (b + 1) (by omega)).trans ha0
  have ha1 := (hF0 (b + 2) (by omega)).trans ha1
  have ha2 := (hF0 (b + 3) (by omega)).trans ha2
  have ha3 := (hF0 (b + 4) (by omega)).trans ha3
  have hfr : ∀ j, j < b → g j = g0 j := fun j hj => (hF0 j (by omega)).trans (hfr j hj)
  refine ca_putG hX (q := 48) (fs' := [.ref (b + 1), .ref (b + 2), .ref (b + 3), .ref (b + 4), .int 0, .ref (b + 5), .null, .null, .int 0, .int 0, .null, .null, .null, .null, .null, .int 0, .int 0, .int 0, .null, .int 0]) cl_X6 5 (by decide) w_fl_X6_22 (Or.inr ⟨rfl, rfl⟩) (fun _ => rfl) (fun _ => rfl) (by omega) (by omega) hb0 (Nat.le_of_ble_eq_true rfl) rfl rfl dX6_init_45 (fun g hE hF => ?_)
  have hb0 := hE
  have ha0 := (hF (b + 1) (by omega)).trans ha0
  have ha1 := (hF (b + 2) (by omega)).trans ha1
  have ha2 := (hF (b + 3) (by omega)).trans ha2
  have ha3 := (hF (b + 4) (by omega)).trans ha3
  have ha4 := (hF (b + 5) (by omega)).trans ha4
  have hfr : ∀ j, j < b → g j = g0 j := fun j hj => (hF j (by omega)).trans (hfr j hj)
  refine ca_aload_n hX (q := 49) 0 rfl rfl rfl dX6_init_48 ?_
  refine ca_bipush hX (q := 51) k_bipush_25 rfl dX6_init_49 ?_
  refine ca_newa hX (q := 53) (n := 25) w_arr rfl (by decide) (by omega) (by omega) (by omega) (by omega) rfl dX6_init_51 ?_
  obtain ⟨g, hG, hF0⟩ : ∃ g2 : ca_G, g2 = ca_up g (b + 1 + 1 + 1 + 1 + 1 + 1) (.inl (25, fun _ => 0)) ∧ ∀ j, j ≠ b + 6 → g2 j = g j := ⟨_, rfl, fun j hj => ca_up_n _ _ hj⟩
  rw [← hG]
  have ha5 : g (b + 6) = .inl (25, fun _ => 0) := by rw [hG]; exact ca_up_s _ _ _
  have hb0 := (hF0 b (by omega)).trans hb0
  have ha0 := (hF0 (b + 1) (by omega)).trans ha0
  have ha1 := (hF0 (b + 2) (by omega)).trans ha1
  have ha2 := (hF0 (b + 3) (by omega)).trans ha2
  have ha3 := (hF0 (b + 4) (by omega)).trans ha3
  have ha4 := (hF0 (b + 5) (by omega)).trans ha4
  have hfr : ∀ j, j < b → g j = g0 j := fun j hj => (hF0 j (by omega)).trans (hfr j hj)
  refine ca_putG hX (q := 56) (fs' := [.ref (b + 1), .ref (b + 2), .ref (b + 3), .ref (b + 4), .int 0, .ref (b + 5), .ref (b + 6), .null, .int 0, .int 0, .null, .null, .null, .null, .null, .int 0, .int 0, .int 0, .null, .int 0]) cl_X6 6 (by decide) w_fl_X6_25 (Or.inr ⟨rfl, rfl⟩) (fun _ => rfl) (fun _ => rfl) (by omega) (by omega) hb0 (Nat.le_of_ble_eq_true rfl) rfl rfl dX6_init_53 (fun g hE hF => ?_)
  have hb0 := hE
  have ha0 := (hF (b + 1) (by omega)).trans ha0
  have ha1 := (hF (b + 2) (by omega)).trans ha1
  have ha2 := (hF (b + 3) (by omega)).trans ha2
  have ha3 := (hF (b + 4) (by omega)).trans ha3
  have ha4 := (hF (b + 5) (by omega)).trans ha4
  have ha5 := (hF (b + 6) (by omega)).trans ha5
  have hfr : ∀ j, j < b → g j = g0 j := fun j hj => (hF j (by omega)).trans (hfr j hj)
  refine ca_aload_n hX (q := 57) 0 rfl rfl rfl dX6_init_56 ?_
  refine ca_bipush hX (q := 59) k_bipush_7 rfl dX6_init_57 ?_
  refine ca_newa hX (q := 61) (n := 7) w_arr rfl (by decide) (by omega) (by omega) (by omega) (by omega) rfl dX6_init_59 ?_
  obtain ⟨g, hG, hF0⟩ : ∃ g2 : ca_G, g2 = ca_up g (b + 1 + 1 + 1 + 1 + 1 + 1 + 1) (.inl (7, fun _ => 0)) ∧ ∀ j, j ≠ b + 7 → g2 j = g j := ⟨_, rfl, fun j hj => ca_up_n _ _ hj⟩
  rw [← hG]
  have ha6 : g (b + 7) = .inl (7, fun _ => 0) := by rw [hG]; exact ca_up_s _ _ _
  have hb0 := (hF0 b (by omega)).trans hb0
  have ha0 := (hF0 (b + 1) (by omega)).trans ha0
  have ha1 := (hF0 (b + 2) (by omega)).trans ha1
  have ha2 := (hF0 (b + 3) (by omega)).trans ha2
  have ha3 := (hF0 (b + 4) (by omega)).trans ha3
  have ha4 := (hF0 (b + 5) (by omega)).trans ha4
  have ha5 := (hF0 (b + 6) (by omega)).trans ha5
  have hfr : ∀ j, j < b → g j = g0 j := fun j hj => (hF0 j (by omega)).trans (hfr j hj)
  refine ca_putG hX (q := 64) (fs' := [.ref (b + 1), .ref (b + 2), .ref (b + 3), .ref (b + 4), .int 0, .ref (b + 5), .ref (b + 6), .ref (b + 7), .int 0, .int 0, .null, .null, .null, .null, .null, .int 0, .int 0, .int 0, .null, .int 0]) cl_X6 7 (by decide) w_fl_X6_28 (Or.inr ⟨rfl, rfl⟩) (fun _ => rfl) (fun _ => rfl) (by omega) (by omega) hb0 (Nat.le_of_ble_eq_true rfl) rfl rfl dX6_init_61 (fun g hE hF => ?_)
  have hb0 := hE
  have ha0 := (hF (b + 1) (by omega)).trans ha0
  have ha1 := (hF (b + 2) (by omega)).trans ha1
  have ha2 := (hF (b + 3) (by omega)).trans ha2
  have ha3 := (hF (b + 4) (by omega)).trans ha3
  have ha4 := (hF (b + 5) (by omega)).trans ha4
  have ha5 := (hF (b + 6) (by omega)).trans ha5
  have ha6 := (hF (b + 7) (by omega)).trans ha6
  have hfr : ∀ j, j < b → g j = g0 j := fun j hj => (hF j (by omega)).trans (hfr j hj)
  refine ca_aload_n hX (q := 65) 0 rfl rfl rfl dX6_init_64 ?_
  refine ca_bipush hX (q := 67) k_bipush_25 rfl dX6_init_65 ?_
  refine ca_newa hX (q := 69) (n := 25) w_arr rfl (by decide) (by omega) (by omega) (by omega) (by omega) rfl dX6_init_67 ?_
  obtain ⟨g, hG, hF0⟩ : ∃ g2 : ca_G, g2 = ca_up g (b + 1 + 1 + 1 + 1 + 1 + 1 + 1 + 1) (.inl (25, fun _ => 0)) ∧ ∀ j, j ≠ b + 8 → g2 j = g j := ⟨_, rfl, fun j hj => ca_up_n _ _ hj⟩
  rw [← hG]
  have ha7 : g (b + 8) = .inl (25, fun _ => 0) := by rw [hG]; exact ca_up_s _ _ _
  have hb0 := (hF0 b (by omega)).trans hb0
  have ha0 := (hF0 (b + 1) (by omega)).trans ha0
  have ha1 := (hF0 (b + 2) (by omega)).trans ha1
  have ha2 := (hF0 (b + 3) (by omega)).trans ha2
  have ha3 := (hF0 (b + 4) (by omega)).trans ha3
  have ha4 := (hF0 (b + 5) (by omega)).trans ha4
  have ha5 := (hF0 (b + 6) (by omega)).trans ha5
  have ha6 := (hF0 (b + 7) (by omega)).trans ha6
  have hfr : ∀ j, j < b → g j = g0 j := fun j hj => (hF0 j (by omega)).trans (hfr j hj)
  refine ca_putG hX (q := 72) (fs' := [.ref (b + 1), .ref (b + 2), .ref (b + 3), .ref (b + 4), .int 0, .ref (b + 5), .ref (b + 6), .ref (b + 7), .int 0, .int 0, .ref (b + 8), .null, .null, .null, .null, .int 0, .int 0, .int 0, .null, .int 0]) cl_X6 10 (by decide) w_fl_X6_31 (Or.inr ⟨rfl, rfl⟩) (fun _ => rfl) (fun _ => rfl) (by omega) (by omega) hb0 (Nat.le_of_ble_eq_true rfl) rfl rfl dX6_init_69 (fun g hE hF => ?_)
  have hb0 := hE
  have ha0 := (hF (b + 1) (by omega)).trans ha0
  have ha1 := (hF (b + 2) (by omega)).trans ha1
  have ha2 := (hF (b + 3) (by omega)).trans ha2
  have ha3 := (hF (b + 4) (by omega)).trans ha3
  have ha4 := (hF (b + 5) (by omega)).trans ha4
  have ha5 := (hF (b + 6) (by omega)).trans ha5
  have ha6 := (hF (b + 7) (by omega)).trans ha6
  have ha7 := (hF (b + 8) (by omega)).trans ha7
  have hfr : ∀ j, j < b → g j = g0 j := fun j hj => (hF j (by omega)).trans (hfr j hj)
  refine ca_aload_n hX (q := 73) 0 rfl rfl rfl dX6_init_72 ?_
  refine ca_bipush hX (q := 75) k_bipush_25 rfl dX6_init_73 ?_
  refine ca_newa hX (q := 77) (n := 25) w_arr rfl (by decide) (by omega) (by omega) (by omega) (by omega) rfl dX6_init_75 ?_
  obtain ⟨g, hG, hF0⟩ : ∃ g2 : ca_G, g2 = ca_up g (b + 1 + 1 + 1 + 1 + 1 + 1 + 1 + 1 + 1) (.inl (25, fun _ => 0)) ∧ ∀ j, j ≠ b + 9 → g2 j = g j := ⟨_, rfl, fun j hj => ca_up_n _ _ hj⟩
  rw [← hG]
  have ha8 : g (b + 9) = .inl (25, fun _ => 0) := by rw [hG]; exact ca_up_s _ _ _
  have hb0 := (hF0 b (by omega)).trans hb0
  have ha0 := (hF0 (b + 1) (by omega)).trans ha0
  have ha1 := (hF0 (b + 2) (by omega)).trans ha1
  have ha2 := (hF0 (b + 3) (by omega)).trans ha2
  have ha3 := (hF0 (b + 4) (by omega)).trans ha3
  have ha4 := (hF0 (b + 5) (by omega)).trans ha4
  have ha5 := (hF0 (b + 6) (by omega)).trans ha5
  have ha6 := (hF0 (b + 7) (by omega)).trans ha6
  have ha7 := (hF0 (b + 8) (by omega)).trans ha7
  have hfr : ∀ j, j < b → g j = g0 j := fun j hj => (hF0 j (by omega)).trans (hfr j hj)
  refine ca_putG hX (q := 80) (fs' := [.ref (b + 1), .ref (b + 2), .ref (b + 3), .ref (b + 4), .int 0, .ref (b + 5), .ref (b + 6), .ref (b + 7), .int 0, .int 0, .ref (b + 8), .ref (b + 9), .null, .null, .null, .int 0, .int 0, .int 0, .null, .int 0]) cl_X6 11 (by decide) w_fl_X6_34 (Or.inr ⟨rfl, rfl⟩) (fun _ => rfl) (fun _ => rfl) (by omega) (by omega) hb0 (Nat.le_of_ble_eq_true rfl) rfl rfl dX6_init_77 (fun g hE hF => ?_)
  have hb0 := hE
  have ha0 := (hF (b + 1) (by omega)).trans ha0
  have ha1 := (hF (b + 2) (by omega)).trans ha1
  have ha2 := (hF (b + 3) (by omega)).trans ha2
  have ha3 := (hF (b + 4) (by omega)).trans ha3
  have ha4 := (hF (b + 5) (by omega)).trans ha4
  have ha5 := (hF (b + 6) (by omega)).trans ha5
  have ha6 := (hF (b + 7) (by omega)).trans ha6
  have ha7 := (hF (b + 8) (by omega)).trans ha7
  have ha8 := (hF (b + 9) (by omega)).trans ha8
  have hfr : ∀ j, j < b → g j = g0 j := fun j hj => (hF j (by omega)).trans (hfr j hj)
  refine ca_aload_n hX (q := 81) 0 rfl rfl rfl dX6_init_80 ?_
  refine ca_bipush hX (q := 83) k_bipush_25 rfl dX6_init_81 ?_
  refine ca_newa hX (q := 85) (n := 25) w_arr rfl (by decide) (by omega) (by omega) (by omega) (by omega) rfl dX6_init_83 ?_
  obtain ⟨g, hG, hF0⟩ : ∃ g2 : ca_G, g2 = ca_up g (b + 1 + 1 + 1 + 1 + 1 + 1 + 1 + 1 + 1 + 1) (.inl (25, fun _ => 0)) ∧ ∀ j, j ≠ b + 10 → g2 j = g j := ⟨_, rfl, fun j hj => ca_up_n _ _ hj⟩
  rw [← hG]
  have ha9 : g (b + 10) = .inl (25, fun _ => 0) := by rw [hG]; exact ca_up_s _ _ _
  have hb0 := (hF0 b (by omega)).trans hb0
  have ha0 := (hF0 (b + 1) (by omega)).trans ha0
  have ha1 := (hF0 (b + 2) (by omega)).trans ha1
  have ha2 := (hF0 (b + 3) (by omega)).trans ha2
  have ha3 := (hF0 (b + 4) (by omega)).trans ha3
  have ha4 := (hF0 (b + 5) (by omega)).trans ha4
  have ha5 := (hF0 (b + 6) (by omega)).trans ha5
  have ha6 := (hF0 (b + 7) (by omega)).trans ha6
  have ha7 := (hF0 (b + 8) (by omega)).trans ha7
  have ha8 := (hF0 (b + 9) (by omega)).trans ha8
  have hfr : ∀ j, j < b → g j = g0 j := fun j hj => (hF0 j (by omega)).trans (hfr j hj)
  refine ca_putG hX (q := 88) (fs' := [.ref (b + 1), .ref (b + 2), .ref (b + 3), .ref (b + 4), .int 0, .ref (b + 5), .ref (b + 6), .ref (b + 7), .int 0, .int 0, .ref (b + 8), .ref (b + 9), .ref (b + 10), .null, .null, .int 0, .int 0, .int 0, .null, .int 0]) cl_X6 12 (by decide) w_fl_X6_37 (Or.inr ⟨rfl, rfl⟩) (fun _ => rfl) (fun _ => rfl) (by omega) (by omega) hb0 (Nat.le_of_ble_eq_true rfl) rfl rfl dX6_init_85 (fun g hE hF => ?_)
  have hb0 := hE
  have ha0 := (hF (b + 1) (by omega)).trans ha0
  have ha1 := (hF (b + 2) (by omega)).trans ha1
  have ha2 := (hF (b + 3) (by omega)).trans ha2
  have ha3 := (hF (b + 4) (by omega)).trans ha3
  have ha4 := (hF (b + 5) (by omega)).trans ha4
  have ha5 := (hF (b + 6) (by omega)).trans ha5
  have ha6 := (hF (b + 7) (by omega)).trans ha6
  have ha7 := (hF (b + 8) (by omega)).trans ha7
  have ha8 := (hF (b + 9) (by omega)).trans ha8
  have ha9 := (hF (b + 10) (by omega)).trans ha9
  have hfr : ∀ j, j < b → g j = g0 j := fun j hj => (hF j (by omega)).trans (hfr j hj)
  refine ca_aload_n hX (q := 89) 0 rfl rfl rfl dX6_init_88 ?_
  refine ca_bipush hX (q := 91) k_bipush_25 rfl dX6_init_89 ?_
  refine ca_newa hX (q := 93) (n := 25) w_arr rfl (by decide) (by omega) (by omega) (by omega) (by omega) rfl dX6_init_91 ?_
  obtain ⟨g, hG, hF0⟩ : ∃ g2 : ca_G, g2 = ca_up g (b + 1 + 1 + 1 + 1 + 1 + 1 + 1 + 1 + 1 + 1 + 1) (.inl (25, fun _ => 0)) ∧ ∀ j, j ≠ b + 11 → g2 j = g j := ⟨_, rfl, fun j hj => ca_up_n _ _ hj⟩
  rw [← hG]
  have ha10 : g (b + 11) = .inl (25, fun _ => 0) := by rw [hG]; exact ca_up_s _ _ _
  have hb0 := (hF0 b (by omega)).trans hb0
  have ha0 := (hF0 (b + 1) (by omega)).trans ha0
  have ha1 := (hF0 (b + 2) (by omega)).trans ha1
  have ha2 := (hF0 (b + 3) (by omega)).trans ha2
  have ha3 := (hF0 (b + 4) (by omega)).trans ha3
  have ha4 := (hF0 (b + 5) (by omega)).trans ha4
  have ha5 := (hF0 (b + 6) (by omega)).trans ha5
  have ha6 := (hF0 (b + 7) (by omega)).trans ha6
  have ha7 := (hF0 (b + 8) (by omega)).trans ha7
  have ha8 := (hF0 (b + 9) (by omega)).trans ha8
  have ha9 := (hF0 (b + 10) (by omega)).trans ha9
  have hfr : ∀ j, j < b → g j = g0 j := fun j hj => (hF0 j (by omega)).trans (hfr j hj)
  refine ca_putG hX (q := 96) (fs' := [.ref (b + 1), .ref (b + 2), .ref (b + 3), .ref (b + 4), .int 0, .ref (b + 5), .ref (b + 6), .ref (b + 7), .int 0, .int 0, .ref (b + 8), .ref (b + 9), .ref (b + 10), .ref (b + 11), .null, .int 0, .int 0, .int 0, .null, .int 0]) cl_X6 13 (by decide) w_fl_X6_40 (Or.inr ⟨rfl, rfl⟩) (fun _ => rfl) (fun _ => rfl) (by omega) (by omega) hb0 (Nat.le_of_ble_eq_true rfl) rfl rfl dX6_init_93 (fun g hE hF => ?_)
  have hb0 := hE
  have ha0 := (hF (b + 1) (by omega)).trans ha0
  have ha1 := (hF (b + 2) (by omega)).trans ha1
  have ha2 := (hF (b + 3) (by omega)).trans ha2
  have ha3 := (hF (b + 4) (by omega)).trans ha3
  have ha4 := (hF (b + 5) (by omega)).trans ha4
  have ha5 := (hF (b + 6) (by omega)).trans ha5
  have ha6 := (hF (b + 7) (by omega)).trans ha6
  have ha7 := (hF (b + 8) (by omega)).trans ha7
  have ha8 := (hF (b + 9) (by omega)).trans ha8
  have ha9 := (hF (b + 10) (by omega)).trans ha9
  have ha10 := (hF (b + 11) (by omega)).trans ha10
  have hfr : ∀ j, j < b → g j = g0 j := fun j hj => (hF j (by omega)).trans (hfr j hj)
  refine ca_aload_n hX (q := 97) 0 rfl rfl rfl dX6_init_96 ?_
  refine ca_iconst hX (q := 98) k_iconst_5 rfl dX6_init_97 ?_
  refine ca_newa hX (q := 100) (n := 5) w_arr rfl (by decide) (by omega) (by omega) (by omega) (by omega) rfl dX6_init_98 ?_
  obtain ⟨g, hG, hF0⟩ : ∃ g2 : ca_G, g2 = ca_up g (b + 1 + 1 + 1 + 1 + 1 + 1 + 1 + 1 + 1 + 1 + 1 + 1) (.inl (5, fun _ => 0)) ∧ ∀ j, j ≠ b + 12 → g2 j = g j := ⟨_, rfl, fun j hj => ca_up_n _ _ hj⟩
  rw [← hG]
  have ha11 : g (b + 12) = .inl (5, fun _ => 0) := by rw [hG]; exact ca_up_s _ _ _
  have hb0 := (hF0 b (by omega)).trans hb0
  have ha0 := (hF0 (b + 1) (by omega)).trans ha0
  have ha1 := (hF0 (b + 2) (by omega)).trans ha1
  have ha2 := (hF0 (b + 3) (by omega)).trans ha2
  have ha3 := (hF0 (b + 4) (by omega)).trans ha3
  have ha4 := (hF0 (b + 5) (by omega)).trans ha4
  have ha5 := (hF0 (b + 6) (by omega)).trans ha5
  have ha6 := (hF0 (b + 7) (by omega)).trans ha6
  have ha7 := (hF0 (b + 8) (by omega)).trans ha7
  have ha8 := (hF0 (b + 9) (by omega)).trans ha8
  have ha9 := (hF0 (b + 10) (by omega)).trans ha9
  have ha10 := (hF0 (b + 11) (by omega)).trans ha10
  have hfr : ∀ j, j < b → g j = g0 j := fun j hj => (hF0 j (by omega)).trans (hfr j hj)
  refine ca_putG hX (q := 103) (fs' := [.ref (b + 1), .ref (b + 2), .ref (b + 3), .ref (b + 4), .int 0, .ref (b + 5), .ref (b + 6), .ref (b + 7), .int 0, .int 0, .ref (b + 8), .ref (b + 9), .ref (b + 10), .ref (b + 11), .ref (b + 12), .int 0, .int 0, .int 0, .null, .int 0]) cl_X6 14 (by decide) w_fl_X6_43 (Or.inr ⟨rfl, rfl⟩) (fun _ => rfl) (fun _ => rfl) (by omega) (by omega) hb0 (Nat.le_of_ble_eq_true rfl) rfl rfl dX6_init_100 (fun g hE hF => ?_)
  have hb0 := hE
  have ha0 := (hF (b + 1) (by omega)).trans ha0
  have ha1 := (hF (b + 2) (by omega)).trans ha1
  have ha2 := (hF (b + 3) (by omega)).trans ha2
  have ha3 := (hF (b + 4) (by omega)).trans ha3
  have ha4 := (hF (b + 5) (by omega)).trans ha4
  have ha5 := (hF (b + 6) (by omega)).trans ha5
  have ha6 := (hF (b + 7) (by omega)).trans ha6
  have ha7 := (hF (b + 8) (by omega)).trans ha7
  have ha8 := (hF (b + 9) (by omega)).trans ha8
  have ha9 := (hF (b + 10) (by omega)).trans ha9
  have ha10 := (hF (b + 11) (by omega)).trans ha10
  have ha11 := (hF (b + 12) (by omega)).trans ha11
  have hfr : ∀ j, j < b → g j = g0 j := fun j hj => (hF j (by omega)).trans (hfr j hj)
  refine ca_aload_n hX (q := 104) 0 rfl rfl rfl dX6_init_103 ?_
  refine ca_iconst hX (q := 105) k_iconst_4 rfl dX6_init_104 ?_
  refine ca_newa hX (q := 107) (n := 4) w_arr rfl (by decide) (by omega) (by omega) (by omega) (by omega) rfl dX6_init_105 ?_
  obtain ⟨g, hG, hF0⟩ : ∃ g2 : ca_G, g2 = ca_up g (b + 1 + 1 + 1 + 1 + 1 + 1 + 1 + 1 + 1 + 1 + 1 + 1 + 1) (.inl (4, fun _ => 0)) ∧ ∀ j, j ≠ b + 13 → g2 j = g j := ⟨_, rfl, fun j hj => ca_up_n _ _ hj⟩
  rw [← hG]
  have ha12 : g (b + 13) = .inl (4, fun _ => 0) := by rw [hG]; exact ca_up_s _ _ _
  have hb0 := (hF0 b (by omega)).trans hb0
  have ha0 := (hF0 (b + 1) (by omega)).trans ha0
  have ha1 := (hF0 (b + 2) (by omega)).trans ha1
  have ha2 := (hF0 (b + 3) (by omega)).trans ha2
  have ha3 := (hF0 (b + 4) (by omega)).trans ha3
  have ha4 := (hF0 (b + 5) (by omega)).trans ha4
  have ha5 := (hF0 (b + 6) (by omega)).trans ha5
  have ha6 := (hF0 (b + 7) (by omega)).trans ha6
  have ha7 := (hF0 (b + 8) (by omega)).trans ha7
  have ha8 := (hF0 (b + 9) (by omega)).trans ha8
  have ha9 := (hF0 (b + 10) (by omega)).trans ha9
  have ha10 := (hF0 (b + 11) (by omega)).trans ha10
  have ha11 := (hF0 (b + 12) (by omega)).trans ha11
  have hfr : ∀ j, j < b → g j = g0 j := fun j hj => (hF0 j (by omega)).trans (hfr j hj)
  refine ca_putG hX (q := 110) (fs' := [.ref (b + 1), .ref (b + 2), .ref (b + 3), .ref (b + 4), .int 0, .ref (b + 5), .ref (b + 6), .ref (b + 7), .int 0, .int 0, .ref (b + 8), .ref (b + 9), .ref (b + 10), .ref (b + 11), .ref (b + 12), .int 0, .int 0, .int 0, .ref (b + 13), .int 0]) cl_X6 18 (by decide) w_fl_X6_46 (Or.inr ⟨rfl, rfl⟩) (fun _ => rfl) (fun _ => rfl) (by omega) (by omega) hb0 (Nat.le_of_ble_eq_true rfl) rfl rfl dX6_init_107 (fun g hE hF => ?_)
  have hb0 := hE
  have ha0 := (hF (b + 1) (by omega)).trans ha0
  have ha1 := (hF (b + 2) (by omega)).trans ha1
  have ha2 := (hF (b + 3) (by omega)).trans ha2
  have ha3 := (hF (b + 4) (by omega)).trans ha3
  have ha4 := (hF (b + 5) (by omega)).trans ha4
  have ha5 := (hF (b + 6) (by omega)).trans ha5
  have ha6 := (hF (b + 7) (by omega)).trans ha6
  have ha7 := (hF (b + 8) (by omega)).trans ha7
  have ha8 := (hF (b + 9) (by omega)).trans ha8
  have ha9 := (hF (b + 10) (by omega)).trans ha9
  have ha10 := (hF (b + 11) (by omega)).trans ha10
  have ha11 := (hF (b + 12) (by omega)).trans ha11
  have ha12 := (hF (b + 13) (by omega)).trans ha12
  have hfr : ∀ j, j < b → g j = g0 j := fun j hj => (hF j (by omega)).trans (hfr j hj)
  refine ca_vret hX rfl rfl rfl rfl dX6_init_110 ?_
  exact ⟨rfl, ⟨hb0, ha0, ha1, ha2, ha3, ha4, ha5, ha6, ha7, ha8, ha9, ha10, ha11, ha12⟩, hfr⟩

set_option maxRecDepth 100000 in
set_option maxHeartbeats 4000000 in
theorem n_X3 (l : Launch) (b : Nat) (g0 : ca_G) (k : Nat) (hk : k < 1000) (hb0 : g0 b = .inr (2, [.null, .int 0])) : ca_Ct l yX3_init cX3_init 2 none 1 1 k (b + 1) 0 [.ref b, .int (nI k)] g0 (fun rr g' => rr = none ∧ nbG g' b k (fun _ => 0) 0 ∧ ∀ j, j < b → g' j = g0 j) := by
  refine ca_intro (by decide) (Nat.le_of_ble_eq_true rfl) (fun X hX hN => ?_)
  have hR := ca_rm hX
  show X 0 [_, _] [] (b + 1) 0 g0
  refine ca_aload_n hX (q := 1) 0 rfl rfl rfl dX3_init_0 ?_
  refine ca_obj hX (q := 4) w_ml_X3_3 w_oi w_oc (by decide) (by decide) rfl dX3_init_1 ?_
  refine ca_aload_n hX (q := 5) 0 rfl rfl rfl dX3_init_4 ?_
  refine ca_iconst hX (q := 6) k_iconst_0 rfl dX3_init_5 ?_
  refine ca_iload_n hX (q := 7) 1 rfl rfl rfl dX3_init_6 ?_
  refine ca_mmax hX (q := 10) w_ml_X3_9 w_mxs w_mxi w_mxc (by decide) (Nat.le_of_ble_eq_true rfl) rfl dX3_init_7 ?_
  rw [show (if (0 : Int32) < nI k then nI k else 0) = nI k by
    by_cases z : k = 0
    · rw [z]; rfl
    · rw [if_pos (show (0 : Int32) < nI k from (nI_ltI (a := 0) (b := k) (by omega) (by omega)).mpr (by omega))]]
  refine ca_newa hX (q := 12) (n := k) w_arr rfl (by omega) (by omega) (by omega) (by omega) (by omega) rfl dX3_init_10 ?_
  obtain ⟨g, hG, hF0⟩ : ∃ g2 : ca_G, g2 = ca_up g0 (b + 1) (.inl (k, fun _ => 0)) ∧ ∀ j, j ≠ b + 1 → g2 j = g0 j := ⟨_, rfl, fun j hj => ca_up_n _ _ hj⟩
  rw [← hG]
  have ha0 : g (b + 1) = .inl (k, fun _ => 0) := by rw [hG]; exact ca_up_s _ _ _
  have hb0 := (hF0 b (by omega)).trans hb0
  refine ca_putG hX (q := 15) (fs' := [.ref (b + 1), .int 0]) cl_X3 0 (by decide) w_fl_X3_15 (Or.inr ⟨rfl, rfl⟩) (fun _ => rfl) (fun _ => rfl) (by omega) (by omega) hb0 (Nat.le_of_ble_eq_true rfl) rfl rfl dX3_init_12 (fun g hE hF => ?_)
  have hb0 := hE
  have ha0 := (hF (b + 1) (by omega)).trans ha0
  have hfr : ∀ j, j < b → g j = g0 j := fun j hj => (hF j (by omega)).trans (hF0 j (by omega))
  refine ca_aload_n hX (q := 16) 0 rfl rfl rfl dX3_init_15 ?_
  refine ca_iconst hX (q := 17) k_iconst_0 rfl dX3_init_16 ?_
  refine ca_putG hX (q := 20) (fs' := [.ref (b + 1), .int 0]) cl_X3 1 (by decide) w_fl_X3_21 (Or.inl rfl) (fun _ => rfl) (fun _ => rfl) (by omega) (by omega) hb0 (Nat.le_of_ble_eq_true rfl) rfl rfl dX3_init_17 (fun g hE hF => ?_)
  refine ca_vret hX rfl rfl rfl (by omega) dX3_init_20 ?_
  exact ⟨rfl, ⟨hE, (hF (b + 1) (by omega)).trans ha0⟩, fun j hj => (hF j (by omega)).trans (hfr j hj)⟩

theorem w_it_X5 : Cond.instantiable RX5 8 ∈ ca_TT := ca_inT (List.mem_of_getElem? (i := 62) (by decide +kernel)) rfl
theorem w_it_X1 : Cond.instantiable RX1 6 ∈ ca_TT := ca_inT (List.mem_of_getElem? (i := 70) (by decide +kernel)) rfl
theorem w_it_X0 : Cond.instantiable RX0 13 ∈ ca_TT := ca_inT (List.mem_of_getElem? (i := 102) (by decide +kernel)) rfl
theorem w_it_X4 : Cond.instantiable RX4 1 ∈ ca_TT := ca_inT (List.mem_of_getElem? (i := 148) (by decide +kernel)) rfl
theorem w_it_X3 : Cond.instantiable RX3 2 ∈ ca_TT := ca_inT (List.mem_of_getElem? (i := 154) (by decide +kernel)) rfl
theorem w_it_X6 : Cond.instantiable RX6 20 ∈ ca_TT := ca_inT (List.mem_of_getElem? (i := 736) (by decide +kernel)) rfl
theorem df_X5 : ∀ (ad : Nat → Nat) j, j < 8 → defaultValue (tyX5 j) = vp_V (([.null, .null, .null, .null, .null, .null, .null, .int 0] : List Value).map (ca_vz ad)) j := by
  intro ad j hj
  have : j = 0 ∨ j = 1 ∨ j = 2 ∨ j = 3 ∨ j = 4 ∨ j = 5 ∨ j = 6 ∨ j = 7 := by omega
  rcases this with rfl | rfl | rfl | rfl | rfl | rfl | rfl | rfl <;> rfl
theorem df_X1 : ∀ (ad : Nat → Nat) j, j < 6 → defaultValue (tyX1 j) = vp_V (([.null, .null, .null, .null, .int 0, .int 0] : List Value).map (ca_vz ad)) j := by
  intro ad j hj
  have : j = 0 ∨ j = 1 ∨ j = 2 ∨ j = 3 ∨ j = 4 ∨ j = 5 := by omega
  rcases this with rfl | rfl | rfl | rfl | rfl | rfl <;> rfl
theorem df_X0 : ∀ (ad : Nat → Nat) j, j < 13 → defaultValue (tyX0 j) = vp_V (([.null, .null, .null, .null, .null, .null, .null, .null, .int 0, .int 0, .int 0, .int 0, .int 0] : List Value).map (ca_vz ad)) j := by
  intro ad j hj
  have : j = 0 ∨ j = 1 ∨ j = 2 ∨ j = 3 ∨ j = 4 ∨ j = 5 ∨ j = 6 ∨ j = 7 ∨ j = 8 ∨ j = 9 ∨ j = 10 ∨ j = 11 ∨ j = 12 := by omega
  rcases this with rfl | rfl | rfl | rfl | rfl | rfl | rfl | rfl | rfl | rfl | rfl | rfl | rfl <;> rfl
theorem df_X4 : ∀ (ad : Nat → Nat) j, j < 1 → defaultValue (tyX4 j) = vp_V (([.null] : List Value).map (ca_vz ad)) j := by
  intro ad j hj
  have : j = 0 := by omega
  rcases this with rfl <;> rfl
theorem df_X3 : ∀ (ad : Nat → Nat) j, j < 2 → defaultValue (tyX3 j) = vp_V (([.null, .int 0] : List Value).map (ca_vz ad)) j := by
  intro ad j hj
  have : j = 0 ∨ j = 1 := by omega
  rcases this with rfl | rfl <;> rfl
theorem df_X6 : ∀ (ad : Nat → Nat) j, j < 20 → defaultValue (tyX6 j) = vp_V (([.null, .null, .null, .null, .int 0, .null, .null, .null, .int 0, .int 0, .null, .null, .null, .null, .null, .int 0, .int 0, .int 0, .null, .int 0] : List Value).map (ca_vz ad)) j := by
  intro ad j hj
  have : j = 0 ∨ j = 1 ∨ j = 2 ∨ j = 3 ∨ j = 4 ∨ j = 5 ∨ j = 6 ∨ j = 7 ∨ j = 8 ∨ j = 9 ∨ j = 10 ∨ j = 11 ∨ j = 12 ∨ j = 13 ∨ j = 14 ∨ j = 15 ∨ j = 16 ∨ j = 17 ∨ j = 18 ∨ j = 19 := by omega
  rcases this with rfl | rfl | rfl | rfl | rfl | rfl | rfl | rfl | rfl | rfl | rfl | rfl | rfl | rfl | rfl | rfl | rfl | rfl | rfl | rfl <;> rfl
