/-! the class itself: object 0, house 1, kept 6, trial 11, blaze 16, telling 25, row 28, refusals 30 -/
def cfG (g : ca_G) (im : Int32) : Prop := g 0 = .inr (4, [.ref 1, .ref 6, .ref 11, .ref 16, .ref 25, .ref 28, .ref 30, .int im])
theorem cfG.fr {g g' : ca_G} {im : Int32} {lo hi : Nat} (h : cfG g im) (f : frG g g' lo hi) (hl : 0 < lo) : cfG g' im := (f 0 (by omega)).trans h
theorem al_ls {B : Nat → Nat → Int32} {a P : Nat} (hP5 : P ≤ 5) : spkM (lsB B a P (1 <<< (nI P &&& 31) - 1) P) P (alT a P).1 (alT a P).2 := by
  have e : trM a P (bt (1 <<< (nI P &&& 31) - 1)) P = alT a P := by
    by_cases z : P = 0
    · rw [z]; rfl
    · exact tr_congrP (by omega) (fun i hi => by rw [all_bits P hP5 i (by omega)]; exact decide_eq_true hi) P
  have := spk_ls B (f := a) (P := P) (1 <<< (nI P &&& 31) - 1) hP5
  rw [e] at this
  exact this
/-- a blaze that holds a fire of a house -/
def bfG (g : ca_G) (h : Nat → Int32) (P r0 tn : Nat) (tu : Nat → Nat) (x : Int32) : Prop := ∃ B, bzG g 16 B ∧ loM B h P ∧ spkM B P tn tu ∧ fdM B h r0 tn tu x

set_option maxRecDepth 100000 in
set_option maxHeartbeats 4000000 in
theorem c_X5_worthBy (l : Launch) (N : Nat) (g : ca_G) (im : Int32) (hc : cfG g im) (hN31 : 31 ≤ N) (B : Nat → Nat → Int32) (hz : bzG g 16 B) (h : Nat → Int32) (P : Nat) (hl : loM B h P) (hP5 : P ≤ 5) (ho : okH h) (r0 : Nat) (hr0 : r0 < 25) (a : Nat) (ha : a < 5) : ca_Ct l yX5_worthBy cX5_worthBy 3 (some .int) 4 0 0 N 1000000 [.ref 0, .int (nI r0), .int (nI a)] g (fun rr g' => rr = some (.int (wS h r0 (alT a P).1 (alT a P).2 0)) ∧ frG g g' 16 25 ∧ bfG g' h P r0 (alT a P).1 (alT a P).2 0) := by
  refine ca_intro (by decide) (Nat.le_of_ble_eq_true rfl) (fun X hX hN => ?_)
  show X 0 [_, _, _] [] N 1000000 g
  have d0 := hz.1
  refine ca_aload_n hX (q := 1) 0 rfl rfl rfl dX5_worthBy_0 ?_
  refine ca_getf hX (q := 4) cl_X5 3 (by decide) w_fl_X5_25 (by omega) hc rfl rfl dX5_worthBy_1 ?_
  refine ca_iload_n hX (q := 5) 2 rfl rfl rfl dX5_worthBy_4 ?_
  refine ca_cV hX (q := 8) y_X0_letAllSpeak w_ml_X5_245 (by omega) hN d0 (c_X0_letAllSpeak l N g 16 B hz (by omega) P hl.2.1 hP5 a ha) (by decide) rfl (by decide) rfl dX5_worthBy_5 rfl ?_
  rintro _ g1 ⟨rfl, hz1, hf1⟩
  have hl1 := lo_ls hl a (1 <<< (nI P &&& 31) - 1) P
  have hs1 := al_ls (B := B) (a := a) hP5
  have hc := cfG.fr hc hf1 (by omega)
  have d0 := hz1.1
  refine ca_aload_n hX (q := 9) 0 rfl rfl rfl dX5_worthBy_8 ?_
  refine ca_getf hX (q := 12) cl_X5 3 (by decide) w_fl_X5_25 (by omega) hc rfl rfl dX5_worthBy_9 ?_
  refine ca_iload_n hX (q := 13) 1 rfl rfl rfl dX5_worthBy_12 ?_
  refine ca_iconst hX (q := 14) k_iconst_0 rfl dX5_worthBy_13 ?_
  refine ca_cV hX (q := 17) y_X0_burn w_ml_X5_248 (by omega) hN d0 (c_X0_burn l N g1 16 _ hz1 (by omega) _ hs1.1 hs1.2.1 P hl1.2.1 hP5 r0 hr0 0) (by decide) rfl (by decide) rfl dX5_worthBy_14 rfl ?_
  rintro _ g2 ⟨rfl, hf2, B2, L2, hz2, v, e0, e1, e2, e3, e80, e81, e82, e84, _, e7⟩
  obtain ⟨hl2, hs2, hd2⟩ := bn_end hl1 ho hP5 hs1 hr0 v e0 e1 e2 e3 e80 e81 e82 e84 e7
  obtain ⟨L, hL, hL1, hw⟩ := fd_w hl2 hd2
  have hc := cfG.fr hc hf2 (by omega)
  have d0 := hz2.1
  refine ca_aload_n hX (q := 18) 0 rfl rfl rfl dX5_worthBy_17 ?_
  refine ca_getf hX (q := 21) cl_X5 3 (by decide) w_fl_X5_25 (by omega) hc rfl rfl dX5_worthBy_18 ?_
  refine ca_cVi hX (q := 24) y_X0_worthBurnt w_ml_X5_138 (by omega) hN d0 (c_X0_worthBurnt l N g2 16 B2 hz2 (by omega) L hL hL1) (by decide) rfl (by decide) rfl dX5_worthBy_21 rfl ?_
  refine ca_iret hX rfl rfl rfl rfl dX5_worthBy_24 ?_
  exact ⟨by rw [hw], hf1.tr hf2, B2, hz2, hl2, hs2, hd2⟩

set_option maxRecDepth 100000 in
set_option maxHeartbeats 4000000 in
theorem c_X5_worthIn (l : Launch) (N : Nat) (g : ca_G) (im : Int32) (hc : cfG g im) (hN31 : 31 ≤ N) (B : Nat → Nat → Int32) (hz : bzG g 16 B) (b : Nat) (h : Nat → Int32) (hh : hsG g b h) (hb : b + 5 ≤ 16) (hb1 : 1 ≤ b) (P : Nat) (hP : h 0 = nI P) (hP5 : P ≤ 5) (ho : okH h) (r0 : Nat) (hr0 : r0 < 25) : ca_Ct l yX5_worthIn cX5_worthIn 3 (some .int) 5 0 0 N 1000000 [.ref 0, .ref b, .int (nI r0)] g (fun rr g' => rr = some (.int (wS h r0 (alT 0 P).1 (alT 0 P).2 0)) ∧ frG g g' 16 25 ∧ bfG g' h P r0 (alT 0 P).1 (alT 0 P).2 0) := by
  refine ca_intro (by decide) (Nat.le_of_ble_eq_true rfl) (fun X hX hN => ?_)
  show X 0 [_, _, _] [] N 1000000 g
  have d0 := hz.1
  refine ca_aload_n hX (q := 1) 0 rfl rfl rfl dX5_worthIn_0 ?_
  refine ca_getf hX (q := 4) cl_X5 3 (by decide) w_fl_X5_25 (by omega) hc rfl rfl dX5_worthIn_1 ?_
  refine ca_aload_n hX (q := 5) 1 rfl rfl rfl dX5_worthIn_4 ?_
  refine ca_cV hX (q := 8) y_X0_lookAt w_ml_X5_159 (by omega) hN d0 (c_X0_lookAt l N g 16 B hz (by omega) b h hh (by omega) (by omega) P hP hP5) (by decide) rfl (by decide) rfl dX5_worthIn_5 rfl ?_
  rintro _ g1 ⟨rfl, ⟨B1, hz1, hk1, hp1, hy1⟩, hf1⟩
  have hl1 : loM B1 h P := ⟨hk1, hp1, hy1⟩
  have hc := cfG.fr hc hf1 (by omega)
  have d0 := hz1.1
  refine ca_aload_n hX (q := 9) 0 rfl rfl rfl dX5_worthIn_8 ?_
  refine ca_iload_n hX (q := 10) 2 rfl rfl rfl dX5_worthIn_9 ?_
  refine ca_iconst hX (q := 11) k_iconst_0 rfl dX5_worthIn_10 ?_
  refine ca_cV hX (q := 14) y_X5_worthBy w_ml_X5_168 (by omega) hN hc (c_X5_worthBy l N g1 im hc hN31 B1 hz1 h P hl1 hP5 ho r0 hr0 0 (by omega)) (by decide) rfl (by decide) rfl dX5_worthIn_11 rfl ?_
  rintro _ g2 ⟨rfl, hf2, hb2⟩
  refine ca_iret hX rfl rfl rfl rfl dX5_worthIn_14 ?_
  exact ⟨rfl, hf1.tr hf2, hb2⟩

set_option maxRecDepth 100000 in
set_option maxHeartbeats 4000000 in
theorem c_X5_burnAsNow (l : Launch) (N : Nat) (g : ca_G) (im : Int32) (hc : cfG g im) (hN31 : 31 ≤ N) (B : Nat → Nat → Int32) (hz : bzG g 16 B) (h : Nat → Int32) (hh : hsG g 1 h) (P : Nat) (hP : h 0 = nI P) (hP5 : P ≤ 5) (ho : okH h) (r0 : Nat) (hr0 : r0 < 25) (a : Nat) (ha : a < 5) : ca_Ct l yX5_burnAsNow cX5_burnAsNow 3 none 4 0 0 N 1000000 [.ref 0, .int (nI r0), .int (nI a)] g (fun rr g' => rr = none ∧ frG g g' 16 25 ∧ bfG g' h P r0 (alT a P).1 (alT a P).2 0) := by
  refine ca_intro (by decide) (Nat.le_of_ble_eq_true rfl) (fun X hX hN => ?_)
  show X 0 [_, _, _] [] N 1000000 g
  have d0 := hz.1
  have h0 := hh.1
  refine ca_aload_n hX (q := 1) 0 rfl rfl rfl dX5_burnAsNow_0 ?_
  refine ca_getf hX (q := 4) cl_X5 3 (by decide) w_fl_X5_25 (by omega) hc rfl rfl dX5_burnAsNow_1 ?_
  refine ca_aload_n hX (q := 5) 0 rfl rfl rfl dX5_burnAsNow_4 ?_
  refine ca_getf hX (q := 8) cl_X5 0 (by decide) w_fl_X5_10 (by omega) hc rfl rfl dX5_burnAsNow_5 ?_
  refine ca_cV hX (q := 11) y_X0_lookAt w_ml_X5_159 (by omega) hN d0 (c_X0_lookAt l N g 16 B hz (by omega) 1 h hh (by omega) (by omega) P hP hP5) (by decide) rfl (by decide) rfl dX5_burnAsNow_8 rfl ?_
  rintro _ g1 ⟨rfl, ⟨B1, hz1, hk1, hp1, hy1⟩, hf1⟩
  have hl1 : loM B1 h P := ⟨hk1, hp1, hy1⟩
  have hc := cfG.fr hc hf1 (by omega)
  have d0 := hz1.1
  refine ca_aload_n hX (q := 12) 0 rfl rfl rfl dX5_burnAsNow_11 ?_
  refine ca_getf hX (q := 15) cl_X5 3 (by decide) w_fl_X5_25 (by omega) hc rfl rfl dX5_burnAsNow_12 ?_
  refine ca_iload_n hX (q := 16) 2 rfl rfl rfl dX5_burnAsNow_15 ?_
  refine ca_cV hX (q := 19) y_X0_letAllSpeak w_ml_X5_245 (by omega) hN d0 (c_X0_letAllSpeak l N g1 16 B1 hz1 (by omega) P hl1.2.1 hP5 a ha) (by decide) rfl (by decide) rfl dX5_burnAsNow_16 rfl ?_
  rintro _ g2 ⟨rfl, hz2, hf2⟩
  have hl2 := lo_ls hl1 a (1 <<< (nI P &&& 31) - 1) P
  have hs2 := al_ls (B := B1) (a := a) hP5
  have hc := cfG.fr hc hf2 (by omega)
  have d0 := hz2.1
  refine ca_aload_n hX (q := 20) 0 rfl rfl rfl dX5_burnAsNow_19 ?_
  refine ca_getf hX (q := 23) cl_X5 3 (by decide) w_fl_X5_25 (by omega) hc rfl rfl dX5_burnAsNow_20 ?_
  refine ca_iload_n hX (q := 24) 1 rfl rfl rfl dX5_burnAsNow_23 ?_
  refine ca_iconst hX (q := 25) k_iconst_0 rfl dX5_burnAsNow_24 ?_
  refine ca_cV hX (q := 28) y_X0_burn w_ml_X5_248 (by omega) hN d0 (c_X0_burn l N g2 16 _ hz2 (by omega) _ hs2.1 hs2.2.1 P hl2.2.1 hP5 r0 hr0 0) (by decide) rfl (by decide) rfl dX5_burnAsNow_25 rfl ?_
  rintro _ g3 ⟨rfl, hf3, B3, L3, hz3, v, e0, e1, e2, e3, e80, e81, e82, e84, _, e7⟩
  obtain ⟨hl3, hs3, hd3⟩ := bn_end hl2 ho hP5 hs2 hr0 v e0 e1 e2 e3 e80 e81 e82 e84 e7
  refine ca_vret hX rfl rfl rfl rfl dX5_burnAsNow_28 ?_
  exact ⟨rfl, (hf1.tr hf2).tr hf3, B3, hz3, hl3, hs3, hd3⟩

set_option maxRecDepth 100000 in
set_option maxHeartbeats 4000000 in
theorem c_X5_worthWithOnly (l : Launch) (N : Nat) (g : ca_G) (im : Int32) (hc : cfG g im) (hN31 : 31 ≤ N) (B : Nat → Nat → Int32) (hz : bzG g 16 B) (h : Nat → Int32) (P : Nat) (hl : loM B h P) (hP5 : P ≤ 5) (ho : okH h) (r0 : Nat) (hr0 : r0 < 25) (x : Int32) : ca_Ct l yX5_worthWithOnly cX5_worthWithOnly 3 (some .int) 4 0 0 N 1000000 [.ref 0, .int (nI r0), .int x] g (fun rr g' => rr = some (.int (wS h r0 (trM 0 P (bt x) P).1 (trM 0 P (bt x) P).2 0)) ∧ frG g g' 16 25 ∧ bfG g' h P r0 (trM 0 P (bt x) P).1 (trM 0 P (bt x) P).2 0) := by
  refine ca_intro (by decide) (Nat.le_of_ble_eq_true rfl) (fun X hX hN => ?_)
  show X 0 [_, _, _] [] N 1000000 g
  have d0 := hz.1
  refine ca_aload_n hX (q := 1) 0 rfl rfl rfl dX5_worthWithOnly_0 ?_
  refine ca_getf hX (q := 4) cl_X5 3 (by decide) w_fl_X5_25 (by omega) hc rfl rfl dX5_worthWithOnly_1 ?_
  refine ca_iconst hX (q := 5) k_iconst_0 rfl dX5_worthWithOnly_4 ?_
  refine ca_iload_n hX (q := 6) 2 rfl rfl rfl dX5_worthWithOnly_5 ?_
  refine ca_cV hX (q := 9) y_X0_letSpeak w_ml_X5_251 (by omega) hN d0 (c_X0_letSpeak l N g 16 B hz (by omega) P hl.2.1 hP5 0 (by omega) x) (by decide) rfl (by decide) rfl dX5_worthWithOnly_6 rfl ?_
  rintro _ g1 ⟨rfl, hz1, hf1⟩
  have hl1 := lo_ls hl 0 x P
  have hs1 := spk_ls B (f := 0) (P := P) x hP5
  have hc := cfG.fr hc hf1 (by omega)
  have d0 := hz1.1
  refine ca_aload_n hX (q := 10) 0 rfl rfl rfl dX5_worthWithOnly_9 ?_
  refine ca_getf hX (q := 13) cl_X5 3 (by decide) w_fl_X5_25 (by omega) hc rfl rfl dX5_worthWithOnly_10 ?_
  refine ca_iload_n hX (q := 14) 1 rfl rfl rfl dX5_worthWithOnly_13 ?_
  refine ca_iconst hX (q := 15) k_iconst_0 rfl dX5_worthWithOnly_14 ?_
  refine ca_cV hX (q := 18) y_X0_burn w_ml_X5_248 (by omega) hN d0 (c_X0_burn l N g1 16 _ hz1 (by omega) _ hs1.1 hs1.2.1 P hl1.2.1 hP5 r0 hr0 0) (by decide) rfl (by decide) rfl dX5_worthWithOnly_15 rfl ?_
  rintro _ g2 ⟨rfl, hf2, B2, L2, hz2, v, e0, e1, e2, e3, e80, e81, e82, e84, _, e7⟩
  obtain ⟨hl2, hs2, hd2⟩ := bn_end hl1 ho hP5 hs1 hr0 v e0 e1 e2 e3 e80 e81 e82 e84 e7
  obtain ⟨L, hL, hL1, hw⟩ := fd_w hl2 hd2
  have hc := cfG.fr hc hf2 (by omega)
  have d0 := hz2.1
  refine ca_aload_n hX (q := 19) 0 rfl rfl rfl dX5_worthWithOnly_18 ?_
  refine ca_getf hX (q := 22) cl_X5 3 (by decide) w_fl_X5_25 (by omega) hc rfl rfl dX5_worthWithOnly_19 ?_
  refine ca_cVi hX (q := 25) y_X0_worthBurnt w_ml_X5_138 (by omega) hN d0 (c_X0_worthBurnt l N g2 16 B2 hz2 (by omega) L hL hL1) (by decide) rfl (by decide) rfl dX5_worthWithOnly_22 rfl ?_
  refine ca_iret hX rfl rfl rfl rfl dX5_worthWithOnly_25 ?_
  exact ⟨by rw [hw], hf1.tr hf2, B2, hz2, hl2, hs2, hd2⟩

