/-! the constructors of Telling and of the class itself -/
set_option maxRecDepth 100000 in
set_option maxHeartbeats 4000000 in
theorem n_X4 (l : Launch) (b : Nat) (g0 : ca_G) (hb0 : g0 b = .inr (3, [.null])) : ca_Ct l yX4_init cX4_init 1 none 2 2 98 (b + 1) 0 [.ref b] g0 (fun rr g' => rr = none ∧ g' b = .inr (3, [.ref (b + 1)]) ∧ nbG g' (b + 1) 96 (fun _ => 0) 0 ∧ ∀ j, j < b → g' j = g0 j) := by
  refine ca_intro (by decide) (Nat.le_of_ble_eq_true rfl) (fun X hX hN => ?_)
  have hR := ca_rm hX
  show X 0 [_] [] (b + 1) 0 g0
  refine ca_aload_n hX (q := 1) 0 rfl rfl rfl dX4_init_0 ?_
  refine ca_obj hX (q := 4) w_ml_X4_3 w_oi w_oc (by decide) (by decide) rfl dX4_init_1 ?_
  refine ca_aload_n hX (q := 5) 0 rfl rfl rfl dX4_init_4 ?_
  refine ca_new hX (q := 8) cl_X3 w_cl_X4_9 w_is_X3 w_in_X3 df_X3 (by omega) (by omega) (by omega) (by omega) rfl dX4_init_5 ?_
  obtain ⟨g, hG, hF0⟩ : ∃ g2 : ca_G, g2 = ca_up g0 (b + 1) (.inr (2, [.null, .int 0])) ∧ ∀ j, j ≠ b + 1 → g2 j = g0 j := ⟨_, rfl, fun j hj => ca_up_n _ _ hj⟩
  rw [← hG]
  have ha0 : g (b + 1) = .inr (2, [.null, .int 0]) := by rw [hG]; exact ca_up_s _ _ _
  have hb0 := (hF0 b (by omega)).trans hb0
  refine ca_dup hX (q := 9) rfl rfl dX4_init_8 ?_
  refine ca_bipush hX (q := 11) k_bipush_96 rfl dX4_init_9 ?_
  refine ca_callI hX (q := 14) (i := b + 1) y_X3_init w_ml_X4_11 (by omega) (n_X3 l (b + 1) g 96 (by decide) ha0) (by decide) (by omega) (by omega) (Or.inl ⟨by omega, by omega, rfl⟩) rfl (Nat.le_of_ble_eq_true rfl) rfl dX4_init_11 rfl ?_
  rintro _ g1 ⟨rfl, hnb, hf1⟩
  have hb0 := (hf1 b (by omega)).trans hb0
  refine ca_putG hX (q := 17) (fs' := [.ref (b + 1)]) cl_X4 0 (by decide) w_fl_X4_14 (Or.inr ⟨rfl, rfl⟩) (fun _ => rfl) (fun _ => rfl) (by omega) (by omega) hb0 (Nat.le_of_ble_eq_true rfl) rfl rfl dX4_init_14 (fun g2 hE hF => ?_)
  refine ca_vret hX rfl rfl rfl rfl dX4_init_17 ?_
  exact ⟨rfl, hE, ⟨(hF (b + 1) (by omega)).trans hnb.1, (hF (b + 1 + 1) (by omega)).trans hnb.2⟩, fun j hj => (hF j (by omega)).trans ((hf1 j (by omega)).trans (hF0 j (by omega)))⟩

theorem ca_eqG {X : ca_J} {pc : Nat} {ls : List (Option Value)} {st : List Value} {N S : Nat} {g g2 : ca_G} (h : g2 = g) (k : X pc ls st N S g) : X pc ls st N S g2 := by rw [h]; exact k
theorem hsG.lt {g g' : ca_G} {b c : Nat} {h : Nat → Int32} (hh : hsG g b h) (f : ∀ j, j < c → g' j = g j) (hd : b + 5 ≤ c) : hsG g' b h := by
  obtain ⟨h0, h1, h2, h3, h4⟩ := hh
  exact ⟨(f b (by omega)).trans h0, (f (b + 1) (by omega)).trans h1, (f (b + 2) (by omega)).trans h2, (f (b + 3) (by omega)).trans h3, (f (b + 4) (by omega)).trans h4⟩
theorem nbG.lt {g g' : ca_G} {a n k c : Nat} {f : Nat → Int32} (h : nbG g a n f k) (fr : ∀ j, j < c → g' j = g j) (hd : a + 2 ≤ c) : nbG g' a n f k := ⟨(fr a (by omega)).trans h.1, (fr (a + 1) (by omega)).trans h.2⟩
theorem bzG.lt {g g' : ca_G} {z c : Nat} {B : Nat → Nat → Int32} (h : bzG g z B) (f : ∀ j, j < c → g' j = g j) (hd : z + 9 ≤ c) : bzG g' z B := by
  obtain ⟨h0, h1, h2, h3, h4, h5, h6, h7, h8⟩ := h
  exact ⟨(f z (by omega)).trans h0, (f (z + 1) (by omega)).trans h1, (f (z + 2) (by omega)).trans h2, (f (z + 3) (by omega)).trans h3, (f (z + 4) (by omega)).trans h4, (f (z + 5) (by omega)).trans h5, (f (z + 6) (by omega)).trans h6, (f (z + 7) (by omega)).trans h7, (f (z + 8) (by omega)).trans h8⟩

set_option maxRecDepth 100000 in
set_option maxHeartbeats 4000000 in
theorem n_X5 (l : Launch) (g : ca_G) (hb0 : g 0 = .inr (4, [.null, .null, .null, .null, .null, .null, .null, .int 0])) : ca_Ct l yX5_init cX5_init 1 none 3 30 1148 1 0 [.ref 0] g (fun rr g' => rr = none ∧ clX g' (fun _ _ => 0) (fun _ => 0) (fun _ _ => 0)) := by
  refine ca_intro (by decide) (Nat.le_of_ble_eq_true rfl) (fun X hX hN => ?_)
  have hR := ca_rm hX
  show X 0 [_] [] 1 0 g
  refine ca_aload_n hX (q := 1) 0 rfl rfl rfl dX5_init_0 ?_
  refine ca_obj hX (q := 4) w_ml_X5_1 w_oi w_oc (by decide) (by decide) rfl dX5_init_1 ?_
  refine ca_aload_n hX (q := 5) 0 rfl rfl rfl dX5_init_4 ?_
  refine ca_new hX (q := 8) cl_X1 w_cl_X5_7 w_is_X1 w_in_X1 df_X1 (by omega) (by omega) (by omega) (by omega) rfl dX5_init_5 ?_
  obtain ⟨ga, hG, hF0⟩ : ∃ g2 : ca_G, g2 = ca_up g 1 (.inr (1, [.null, .null, .null, .null, .int 0, .int 0])) ∧ frG g g2 1 2 := ⟨_, rfl, fun j hj => ca_up_n _ _ (by omega)⟩
  refine ca_eqG (h := hG.symm) ?_
  have hn : ga 1 = .inr (1, [.null, .null, .null, .null, .int 0, .int 0]) := by rw [hG]; exact ca_up_s _ _ _
  clear hG
  have hb0 := (hF0 0 (by omega)).trans hb0
  refine ca_dup hX (q := 9) rfl rfl dX5_init_8 ?_
  refine ca_callI hX (q := 12) (i := 1) y_X1_init w_ml_X5_9 (by omega) (n_X1 l 1 ga hn) (by decide) (by omega) (by omega) (Or.inl ⟨by omega, by omega, rfl⟩) rfl (Nat.le_of_ble_eq_true rfl) rfl dX5_init_9 rfl ?_
  rintro _ gb ⟨rfl, hc1, hf1⟩
  have hb0 := (hf1 0 (by omega)).trans hb0
  refine ca_putG hX (q := 15) (fs' := [.ref 1, .null, .null, .null, .null, .null, .null, .int 0]) cl_X5 0 (by decide) w_fl_X5_10 (Or.inr ⟨rfl, rfl⟩) (fun _ => rfl) (fun _ => rfl) (by omega) (by omega) hb0 (Nat.le_of_ble_eq_true rfl) rfl rfl dX5_init_12 (fun g hb0 hF => ?_)
  have hfp : frG gb g 0 1 := fun j hj => hF j (by omega)
  have hc1 := hc1.fr hfp (by omega)
  refine ca_aload_n hX (q := 16) 0 rfl rfl rfl dX5_init_15 ?_
  refine ca_new hX (q := 19) cl_X1 w_cl_X5_7 w_is_X1 w_in_X1 df_X1 (by omega) (by omega) (by omega) (by omega) rfl dX5_init_16 ?_
  obtain ⟨ga, hG, hF0⟩ : ∃ g2 : ca_G, g2 = ca_up g 6 (.inr (1, [.null, .null, .null, .null, .int 0, .int 0])) ∧ frG g g2 6 7 := ⟨_, rfl, fun j hj => ca_up_n _ _ (by omega)⟩
  refine ca_eqG (h := hG.symm) ?_
  have hn : ga 6 = .inr (1, [.null, .null, .null, .null, .int 0, .int 0]) := by rw [hG]; exact ca_up_s _ _ _
  clear hG
  have hc1 := hc1.fr hF0 (by omega)
  have hb0 := (hF0 0 (by omega)).trans hb0
  refine ca_dup hX (q := 20) rfl rfl dX5_init_19 ?_
  refine ca_callI hX (q := 23) (i := 6) y_X1_init w_ml_X5_9 (by omega) (n_X1 l 6 ga hn) (by decide) (by omega) (by omega) (Or.inl ⟨by omega, by omega, rfl⟩) rfl (Nat.le_of_ble_eq_true rfl) rfl dX5_init_20 rfl ?_
  rintro _ gb ⟨rfl, hc6, hf1⟩
  have hc1 := hc1.lt hf1 (by omega)
  have hb0 := (hf1 0 (by omega)).trans hb0
  refine ca_putG hX (q := 26) (fs' := [.ref 1, .ref 6, .null, .null, .null, .null, .null, .int 0]) cl_X5 1 (by decide) w_fl_X5_16 (Or.inr ⟨rfl, rfl⟩) (fun _ => rfl) (fun _ => rfl) (by omega) (by omega) hb0 (Nat.le_of_ble_eq_true rfl) rfl rfl dX5_init_23 (fun g hb0 hF => ?_)
  have hfp : frG gb g 0 1 := fun j hj => hF j (by omega)
  have hc1 := hc1.fr hfp (by omega)
  have hc6 := hc6.fr hfp (by omega)
  refine ca_aload_n hX (q := 27) 0 rfl rfl rfl dX5_init_26 ?_
  refine ca_new hX (q := 30) cl_X1 w_cl_X5_7 w_is_X1 w_in_X1 df_X1 (by omega) (by omega) (by omega) (by omega) rfl dX5_init_27 ?_
  obtain ⟨ga, hG, hF0⟩ : ∃ g2 : ca_G, g2 = ca_up g 11 (.inr (1, [.null, .null, .null, .null, .int 0, .int 0])) ∧ frG g g2 11 12 := ⟨_, rfl, fun j hj => ca_up_n _ _ (by omega)⟩
  refine ca_eqG (h := hG.symm) ?_
  have hn : ga 11 = .inr (1, [.null, .null, .null, .null, .int 0, .int 0]) := by rw [hG]; exact ca_up_s _ _ _
  clear hG
  have hc1 := hc1.fr hF0 (by omega)
  have hc6 := hc6.fr hF0 (by omega)
  have hb0 := (hF0 0 (by omega)).trans hb0
  refine ca_dup hX (q := 31) rfl rfl dX5_init_30 ?_
  refine ca_callI hX (q := 34) (i := 11) y_X1_init w_ml_X5_9 (by omega) (n_X1 l 11 ga hn) (by decide) (by omega) (by omega) (Or.inl ⟨by omega, by omega, rfl⟩) rfl (Nat.le_of_ble_eq_true rfl) rfl dX5_init_31 rfl ?_
  rintro _ gb ⟨rfl, hc11, hf1⟩
  have hc1 := hc1.lt hf1 (by omega)
  have hc6 := hc6.lt hf1 (by omega)
  have hb0 := (hf1 0 (by omega)).trans hb0
  refine ca_putG hX (q := 37) (fs' := [.ref 1, .ref 6, .ref 11, .null, .null, .null, .null, .int 0]) cl_X5 2 (by decide) w_fl_X5_19 (Or.inr ⟨rfl, rfl⟩) (fun _ => rfl) (fun _ => rfl) (by omega) (by omega) hb0 (Nat.le_of_ble_eq_true rfl) rfl rfl dX5_init_34 (fun g hb0 hF => ?_)
  have hfp : frG gb g 0 1 := fun j hj => hF j (by omega)
  have hc1 := hc1.fr hfp (by omega)
  have hc6 := hc6.fr hfp (by omega)
  have hc11 := hc11.fr hfp (by omega)
  refine ca_aload_n hX (q := 38) 0 rfl rfl rfl dX5_init_37 ?_
  refine ca_new hX (q := 41) cl_X0 w_cl_X5_22 w_is_X0 w_in_X0 df_X0 (by omega) (by omega) (by omega) (by omega) rfl dX5_init_38 ?_
  obtain ⟨ga, hG, hF0⟩ : ∃ g2 : ca_G, g2 = ca_up g 16 (.inr (0, [.null, .null, .null, .null, .null, .null, .null, .null, .int 0, .int 0, .int 0, .int 0, .int 0])) ∧ frG g g2 16 17 := ⟨_, rfl, fun j hj => ca_up_n _ _ (by omega)⟩
  refine ca_eqG (h := hG.symm) ?_
  have hn : ga 16 = .inr (0, [.null, .null, .null, .null, .null, .null, .null, .null, .int 0, .int 0, .int 0, .int 0, .int 0]) := by rw [hG]; exact ca_up_s _ _ _
  clear hG
  have hc1 := hc1.fr hF0 (by omega)
  have hc6 := hc6.fr hF0 (by omega)
  have hc11 := hc11.fr hF0 (by omega)
  have hb0 := (hF0 0 (by omega)).trans hb0
  refine ca_dup hX (q := 42) rfl rfl dX5_init_41 ?_
  refine ca_callI hX (q := 45) (i := 16) y_X0_init w_ml_X5_24 (by omega) (n_X0 l 16 ga hn) (by decide) (by omega) (by omega) (Or.inl ⟨by omega, by omega, rfl⟩) rfl (Nat.le_of_ble_eq_true rfl) rfl dX5_init_42 rfl ?_
  rintro _ gb ⟨rfl, hc16, hf1⟩
  have hc1 := hc1.lt hf1 (by omega)
  have hc6 := hc6.lt hf1 (by omega)
  have hc11 := hc11.lt hf1 (by omega)
  have hb0 := (hf1 0 (by omega)).trans hb0
  refine ca_putG hX (q := 48) (fs' := [.ref 1, .ref 6, .ref 11, .ref 16, .null, .null, .null, .int 0]) cl_X5 3 (by decide) w_fl_X5_25 (Or.inr ⟨rfl, rfl⟩) (fun _ => rfl) (fun _ => rfl) (by omega) (by omega) hb0 (Nat.le_of_ble_eq_true rfl) rfl rfl dX5_init_45 (fun g hb0 hF => ?_)
  have hfp : frG gb g 0 1 := fun j hj => hF j (by omega)
  have hc1 := hc1.fr hfp (by omega)
  have hc6 := hc6.fr hfp (by omega)
  have hc11 := hc11.fr hfp (by omega)
  have hc16 := hc16.fr hfp (by omega)
  refine ca_aload_n hX (q := 49) 0 rfl rfl rfl dX5_init_48 ?_
  refine ca_new hX (q := 52) cl_X4 w_cl_X5_29 w_is_X4 w_in_X4 df_X4 (by omega) (by omega) (by omega) (by omega) rfl dX5_init_49 ?_
  obtain ⟨ga, hG, hF0⟩ : ∃ g2 : ca_G, g2 = ca_up g 25 (.inr (3, [.null])) ∧ frG g g2 25 26 := ⟨_, rfl, fun j hj => ca_up_n _ _ (by omega)⟩
  refine ca_eqG (h := hG.symm) ?_
  have hn : ga 25 = .inr (3, [.null]) := by rw [hG]; exact ca_up_s _ _ _
  clear hG
  have hc1 := hc1.fr hF0 (by omega)
  have hc6 := hc6.fr hF0 (by omega)
  have hc11 := hc11.fr hF0 (by omega)
  have hc16 := hc16.fr hF0 (by omega)
  have hb0 := (hF0 0 (by omega)).trans hb0
  refine ca_dup hX (q := 53) rfl rfl dX5_init_52 ?_
  refine ca_callI hX (q := 56) (i := 25) y_X4_init w_ml_X5_31 (by omega) (n_X4 l 25 ga hn) (by decide) (by omega) (by omega) (Or.inl ⟨by omega, by omega, rfl⟩) rfl (Nat.le_of_ble_eq_true rfl) rfl dX5_init_53 rfl ?_
  rintro _ gb ⟨rfl, hc25, hc26, hf1⟩
  have hc1 := hc1.lt hf1 (by omega)
  have hc6 := hc6.lt hf1 (by omega)
  have hc11 := hc11.lt hf1 (by omega)
  have hc16 := hc16.lt hf1 (by omega)
  have hb0 := (hf1 0 (by omega)).trans hb0
  refine ca_putG hX (q := 59) (fs' := [.ref 1, .ref 6, .ref 11, .ref 16, .ref 25, .null, .null, .int 0]) cl_X5 4 (by decide) w_fl_X5_32 (Or.inr ⟨rfl, rfl⟩) (fun _ => rfl) (fun _ => rfl) (by omega) (by omega) hb0 (Nat.le_of_ble_eq_true rfl) rfl rfl dX5_init_56 (fun g hb0 hF => ?_)
  have hfp : frG gb g 0 1 := fun j hj => hF j (by omega)
  have hc1 := hc1.fr hfp (by omega)
  have hc6 := hc6.fr hfp (by omega)
  have hc11 := hc11.fr hfp (by omega)
  have hc16 := hc16.fr hfp (by omega)
  have hc25 := (hfp 25 (by omega)).trans hc25
  have hc26 := hc26.fr hfp (by omega)
  refine ca_aload_n hX (q := 60) 0 rfl rfl rfl dX5_init_59 ?_
  refine ca_new hX (q := 63) cl_X3 w_cl_X5_36 w_is_X3 w_in_X3 df_X3 (by omega) (by omega) (by omega) (by omega) rfl dX5_init_60 ?_
  obtain ⟨ga, hG, hF0⟩ : ∃ g2 : ca_G, g2 = ca_up g 28 (.inr (2, [.null, .int 0])) ∧ frG g g2 28 29 := ⟨_, rfl, fun j hj => ca_up_n _ _ (by omega)⟩
  refine ca_eqG (h := hG.symm) ?_
  have hn : ga 28 = .inr (2, [.null, .int 0]) := by rw [hG]; exact ca_up_s _ _ _
  clear hG
  have hc1 := hc1.fr hF0 (by omega)
  have hc6 := hc6.fr hF0 (by omega)
  have hc11 := hc11.fr hF0 (by omega)
  have hc16 := hc16.fr hF0 (by omega)
  have hc25 := (hF0 25 (by omega)).trans hc25
  have hc26 := hc26.fr hF0 (by omega)
  have hb0 := (hF0 0 (by omega)).trans hb0
  refine ca_dup hX (q := 64) rfl rfl dX5_init_63 ?_
  refine ca_bipush hX (q := 66) k_bipush_25 rfl dX5_init_64 ?_
  refine ca_callI hX (q := 69) (i := 28) y_X3_init w_ml_X5_38 (by omega) (n_X3 l 28 ga 25 (by decide) hn) (by decide) (by omega) (by omega) (Or.inl ⟨by omega, by omega, rfl⟩) rfl (Nat.le_of_ble_eq_true rfl) rfl dX5_init_66 rfl ?_
  rintro _ gb ⟨rfl, hc28, hf1⟩
  have hc1 := hc1.lt hf1 (by omega)
  have hc6 := hc6.lt hf1 (by omega)
  have hc11 := hc11.lt hf1 (by omega)
  have hc16 := hc16.lt hf1 (by omega)
  have hc25 := (hf1 25 (by omega)).trans hc25
  have hc26 := hc26.lt hf1 (by omega)
  have hb0 := (hf1 0 (by omega)).trans hb0
  refine ca_putG hX (q := 72) (fs' := [.ref 1, .ref 6, .ref 11, .ref 16, .ref 25, .ref 28, .null, .int 0]) cl_X5 5 (by decide) w_fl_X5_41 (Or.inr ⟨rfl, rfl⟩) (fun _ => rfl) (fun _ => rfl) (by omega) (by omega) hb0 (Nat.le_of_ble_eq_true rfl) rfl rfl dX5_init_69 (fun g hb0 hF => ?_)
  have hfp : frG gb g 0 1 := fun j hj => hF j (by omega)
  have hc1 := hc1.fr hfp (by omega)
  have hc6 := hc6.fr hfp (by omega)
  have hc11 := hc11.fr hfp (by omega)
  have hc16 := hc16.fr hfp (by omega)
  have hc25 := (hfp 25 (by omega)).trans hc25
  have hc26 := hc26.fr hfp (by omega)
  have hc28 := hc28.fr hfp (by omega)
  refine ca_aload_n hX (q := 73) 0 rfl rfl rfl dX5_init_72 ?_
  refine ca_bipush hX (q := 75) k_bipush_7 rfl dX5_init_73 ?_
  refine ca_newa hX (q := 77) (n := 7) w_arr rfl (by decide) (by omega) (by omega) (by omega) (by omega) rfl dX5_init_75 ?_
  obtain ⟨ga, hG, hF0⟩ : ∃ g2 : ca_G, g2 = ca_up g 30 (.inl (7, fun _ => 0)) ∧ frG g g2 30 31 := ⟨_, rfl, fun j hj => ca_up_n _ _ (by omega)⟩
  refine ca_eqG (h := hG.symm) ?_
  have hc30 : ga 30 = .inl (7, fun _ => 0) := by rw [hG]; exact ca_up_s _ _ _
  clear hG
  have hc1 := hc1.fr hF0 (by omega)
  have hc6 := hc6.fr hF0 (by omega)
  have hc11 := hc11.fr hF0 (by omega)
  have hc16 := hc16.fr hF0 (by omega)
  have hc25 := (hF0 25 (by omega)).trans hc25
  have hc26 := hc26.fr hF0 (by omega)
  have hc28 := hc28.fr hF0 (by omega)
  have hb0 := (hF0 0 (by omega)).trans hb0
  refine ca_putG hX (q := 80) (fs' := [.ref 1, .ref 6, .ref 11, .ref 16, .ref 25, .ref 28, .ref 30, .int 0]) cl_X5 6 (by decide) w_fl_X5_45 (Or.inr ⟨rfl, rfl⟩) (fun _ => rfl) (fun _ => rfl) (by omega) (by omega) hb0 (Nat.le_of_ble_eq_true rfl) rfl rfl dX5_init_77 (fun gb hb0 hF => ?_)
  have hfp : frG ga gb 0 1 := fun j hj => hF j (by omega)
  have hc1 := hc1.fr hfp (by omega)
  have hc6 := hc6.fr hfp (by omega)
  have hc11 := hc11.fr hfp (by omega)
  have hc16 := hc16.fr hfp (by omega)
  have hc25 := (hfp 25 (by omega)).trans hc25
  have hc26 := hc26.fr hfp (by omega)
  have hc28 := hc28.fr hfp (by omega)
  have hc30 := (hfp 30 (by omega)).trans hc30
  refine ca_aload_n hX (q := 81) 0 rfl rfl rfl dX5_init_80 ?_
  refine ca_iconst hX (q := 82) k_iconst_0 rfl dX5_init_81 ?_
  refine ca_putG hX (q := 85) (fs' := [.ref 1, .ref 6, .ref 11, .ref 16, .ref 25, .ref 28, .ref 30, .int 0]) cl_X5 7 (by decide) w_fl_X5_49 (Or.inl rfl) (fun _ => rfl) (fun _ => rfl) (by omega) (by omega) hb0 (Nat.le_of_ble_eq_true rfl) rfl rfl dX5_init_82 (fun g hb0 hF => ?_)
  have hfp : frG gb g 0 1 := fun j hj => hF j (by omega)
  have hc1 := hc1.fr hfp (by omega)
  have hc6 := hc6.fr hfp (by omega)
  have hc11 := hc11.fr hfp (by omega)
  have hc16 := hc16.fr hfp (by omega)
  have hc25 := (hfp 25 (by omega)).trans hc25
  have hc26 := hc26.fr hfp (by omega)
  have hc28 := hc28.fr hfp (by omega)
  have hc30 := (hfp 30 (by omega)).trans hc30
  refine ca_vret hX rfl rfl rfl rfl dX5_init_85 ?_
  exact ⟨rfl, ⟨hb0, hc1, hc6, hc11, hc16, hc25, hc26, hc28, hc30⟩⟩

