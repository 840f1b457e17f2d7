/-! the class itself: object 0, house 1, kept 6, trial 11, blaze 16, telling 25, row 28, refusals 30 -/
def cfG (g : ca_G) (im : Int32) : Prop := g 0 = .inr (4, [.ref 1, .ref 6, .ref 11, .ref 16, .ref 25, .ref 28, .ref 30, .int im])
theorem cfG.fr {g g' : ca_G} {im : Int32} {lo hi : Nat} (h : cfG g im) (f : frG g g' lo hi) (hl : 0 < lo) : cfG g' im := (f 0 (by omega)).trans h
theorem al_ls {B : Nat → Nat → Int32} {a P : Nat} (hP5 : P ≤ 5) : spkM (lsB B a P (1 <<< (nI P &&& 31) - 1) P) P (alT a P).1 (alT a P).2 := by
  have e : trM a P (bt (1 <<< (nI P &&& 31) - 1)) P = alT a P := by
    by_cases z : P = 0
    · rw [z]; rfl
    · exact tr_congrP (by omega) (fun i hi => by rw [all_bits P hP5 i (by omega)]; exact decide_eq_true hi) P
  have := spk_ls B (f := a) (P := P) (1 <<< (nI P &&& 31) - 1) hP5
  rw [e] at this
  exact this
/-- a blaze that holds a fire of a house -/
def bfG (g : ca_G) (h : Nat → Int32) (P r0 tn : Nat) (tu : Nat → Nat) (x : Int32) : Prop := ∃ B, bzG g 16 B ∧ loM B h P ∧ spkM B P tn tu ∧ fdM B h r0 tn tu x

set_option maxRecDepth 100000 in
set_option maxHeartbeats 4000000 in
theorem c_X5_worthBy (l : Launch) (N : Nat) (g : ca_G) (im : Int32) (hc : cfG g im) (hN31 : 31 ≤ N) (B : Nat → Nat → Int32) (hz : bzG g 16 B) (h : Nat → Int32) (P : Nat) (hl : loM B h P) (hP5 : P ≤ 5) (ho : okH h) (r0 : Nat) (hr0 : r0 < 25) (a : Nat) (ha : a < 5) : ca_Ct l yX5_worthBy cX5_worthBy 3 (some .int) 4 0 0 N 1000000 [.ref 0, .int (nI r0), .int (nI a)] g (fun rr g' => rr = some (.int (wS h r0 (alT a P).1 (alT a P).2 0)) ∧ frG g g' 16 25 ∧ bfG g' h P r0 (alT a P).1 (alT a P).2 0) := by
  refine ca_intro (by decide) (Nat.le_of_ble_eq_true rfl) (fun X hX hN => ?_)
  show X 0 [_, _, _] [] N 1000000 g
  have d0 := hz.1
  refine ca_aload_n hX (q := 1) 0 rfl rfl rfl dX5_worthBy_0 ?_
  refine ca_getf hX (q := 4) cl_X5 3 (by decide) w_fl_X5_25 (by omega) hc rfl rfl dX5_worthBy_1 ?_
  refine ca_iload_n hX (q := 5) 2 rfl rfl rfl dX5_worthBy_4 ?_
  refine ca_cV hX (q := 8) y_X0_letAllSpeak w_ml_X5_245 (by omega) hN d0 (c_X0_letAllSpeak l N g 16 B hz (by omega) P hl.2.1 hP5 a ha) (by decide) rfl (by decide) rfl dX5_worthBy_5 rfl ?_
  rintro _ g1 ⟨rfl, hz1, hf1⟩
  have hl1 := lo_ls hl a (1 <<< (nI P &&& 31) - 1) P
  have hs1 := al_ls (B := B) (a := a) hP5
  have hc := cfG.fr hc hf1 (by omega)
  have d0 := hz1.1
  refine ca_aload_n hX (q := 9) 0 rfl rfl rfl dX5_worthBy_8 ?_
  refine ca_getf hX (q := 12) cl_X5 3 (by decide) w_fl_X5_25 (by omega) hc rfl rfl dX5_worthBy_9 ?_
  refine ca_iload_n hX (q := 13) 1 rfl rfl rfl dX5_worthBy_12 ?_
  refine ca_iconst hX (q := 14) k_iconst_0 rfl dX5_worthBy_13 ?_
  refine ca_cV hX (q := 17) y_X0_burn w_ml_X5_248 (by omega) hN d0 (c_X0_burn l N g1 16 _ hz1 (by omega) _ hs1.1 hs1.2.1 P hl1.2.1 hP5 r0 hr0 0) (by decide) rfl (by decide) rfl dX5_worthBy_14 rfl ?_
  rintro _ g2 ⟨rfl, hf2, B2, L2, hz2, v, e0, e1, e2, e3, e80, e81, e82, e84, _, e7⟩
  obtain ⟨hl2, hs2, hd2⟩ := bn_end hl1 ho hP5 hs1 hr0 v e0 e1 e2 e3 e80 e81 e82 e84 e7
  obtain ⟨L, hL, hL1, hw⟩ := fd_w hl2 hd2
  have hc := cfG.fr hc hf2 (by omega)
  have d0 := hz2.1
  refine ca_aload_n hX (q := 18) 0 rfl rfl rfl dX5_worthBy_17 ?_
  refine ca_getf hX (q := 21) cl_X5 3 (by decide) w_fl_X5_25 (by omega) hc rfl rfl dX5_worthBy_18 ?_
  refine ca_cVi hX (q := 24) y_X0_worthBurnt w_ml_X5_138 (by omega) hN d0 (c_X0_worthBurnt l N g2 16 B2 hz2 (by omega) L hL hL1) (by decide) rfl (by decide) rfl dX5_worthBy_21 rfl ?_
  refine ca_iret hX rfl rfl rfl rfl dX5_worthBy_24 ?_
  exact ⟨by rw [hw], hf1.tr hf2, B2, hz2, hl2, hs2, hd2⟩

set_option maxRecDepth 100000 in
set_option maxHeartbeats 4000000 in
theorem c_X5_worthIn (l : Launch) (N : Nat) (g : ca_G) (im : Int32) (hc : cfG g im) (hN31 : 31 ≤ N) (B : Nat → Nat → Int32) (hz : bzG g 16 B) (b : Nat) (h : Nat → Int32) (hh : hsG g b h) (hb : b + 5 ≤ 16) (hb1 : 1 ≤ b) (P : Nat) (hP : h 0 = nI P) (hP5 : P ≤ 5) (ho : okH h) (r0 : Nat) (hr0 : r0 < 25) : ca_Ct l yX5_worthIn cX5_worthIn 3 (some .int) 5 0 0 N 1000000 [.ref 0, .ref b, .int (nI r0)] g (fun rr g' => rr = some (.int (wS h r0 (alT 0 P).1 (alT 0 P).2 0)) ∧ frG g g' 16 25 ∧ bfG g' h P r0 (alT 0 P).1 (alT 0 P).2 0) := by
  refine ca_intro (by decide) (Nat.le_of_ble_eq_true rfl) (fun X hX hN => ?_)
  show X 0 [_, _, _] [] N 1000000 g
  have d0 := hz.1
  refine ca_aload_n hX (q := 1) 0 rfl rfl rfl dX5_worthIn_0 ?_
  refine ca_getf hX (q := 4) cl_X5 3 (by decide) w_fl_X5_25 (by omega) hc rfl rfl dX5_worthIn_1 ?_
  refine ca_aload_n hX (q := 5) 1 rfl rfl rfl dX5_worthIn_4 ?_
  refine ca_cV hX (q := 8) y_X0_lookAt w_ml_X5_159 (by omega) hN d0 (c_X0_lookAt l N g 16 B hz (by omega) b h hh (by omega) (by omega) P hP hP5) (by decide) rfl (by decide) rfl dX5_worthIn_5 rfl ?_
  rintro _ g1 ⟨rfl, ⟨B1, hz1, hk1, hp1, hy1⟩, hf1⟩
  have hl1 : loM B1 h P := ⟨hk1, hp1, hy1⟩
  have hc := cfG.fr hc hf1 (by omega)
  have d0 := hz1.1
  refine ca_aload_n hX (q := 9) 0 rfl rfl rfl dX5_worthIn_8 ?_
  refine ca_iload_n hX (q := 10) 2 rfl rfl rfl dX5_worthIn_9 ?_
  refine ca_iconst hX (q := 11) k_iconst_0 rfl dX5_worthIn_10 ?_
  refine ca_cV hX (q := 14) y_X5_worthBy w_ml_X5_168 (by omega) hN hc (c_X5_worthBy l N g1 im hc hN31 B1 hz1 h P hl1 hP5 ho r0 hr0 0 (by omega)) (by decide) rfl (by decide) rfl dX5_worthIn_11 rfl ?_
  rintro _ g2 ⟨rfl, hf2, hb2⟩
  refine ca_iret hX rfl rfl rfl rfl dX5_worthIn_14 ?_
  exact ⟨rfl, hf1.tr hf2, hb2⟩

set_option maxRecDepth 100000 in
set_option maxHeartbeats 4000000 in
theorem c_X5_burnAsNow (l : Launch) (N : Nat) (g : ca_G) (im : Int32) (hc : cfG g im) (hN31 : 31 ≤ N) (B : Nat → Nat → Int32) (hz : bzG g 16 B) (h : Nat → Int32) (hh : hsG g 1 h) (P : Nat) (hP : h 0 = nI P) (hP5 : P ≤ 5) (ho : okH h) (r0 : Nat) (hr0 : r0 < 25) (a : Nat) (ha : a < 5) : ca_Ct l yX5_burnAsNow cX5_burnAsNow 3 none 4 0 0 N 1000000 [.ref 0, .int (nI r0), .int (nI a)] g (fun rr g' => rr = none ∧ frG g g' 16 25 ∧ bfG g' h P r0 (alT a P).1 (alT a P).2 0) := by
  refine ca_intro (by decide) (Nat.le_of_ble_eq_true rfl) (fun X hX hN => ?_)
  show X 0 [_, _, _] [] N 1000000 g
  have d0 := hz.1
  have h0 := hh.1
  refine ca_aload_n hX (q := 1) 0 rfl rfl rfl dX5_burnAsNow_0 ?_
  refine ca_getf hX (q := 4) cl_X5 3 (by decide) w_fl_X5_25 (by omega) hc rfl rfl dX5_burnAsNow_1 ?_
  refine ca_aload_n hX (q := 5) 0 rfl rfl rfl dX5_burnAsNow_4 ?_
  refine ca_getf hX (q := 8) cl_X5 0 (by decide) w_fl_X5_10 (by omega) hc rfl rfl dX5_burnAsNow_5 ?_
  refine ca_cV hX (q := 11) y_X0_lookAt w_ml_X5_159 (by omega) hN d0 (c_X0_lookAt l N g 16 B hz (by omega) 1 h hh (by omega) (by omega) P hP hP5) (by decide) rfl (by decide) rfl dX5_burnAsNow_8 rfl ?_
  rintro _ g1 ⟨rfl, ⟨B1, hz1, hk1, hp1, hy1⟩, hf1⟩
  have hl1 : loM B1 h P := ⟨hk1, hp1, hy1⟩
  have hc := cfG.fr hc hf1 (by omega)
  have d0 := hz1.1
  refine ca_aload_n hX (q := 12) 0 rfl rfl rfl dX5_burnAsNow_11 ?_
  refine ca_getf hX (q := 15) cl_X5 3 (by decide) w_fl_X5_25 (by omega) hc rfl rfl dX5_burnAsNow_12 ?_
  refine ca_iload_n hX (q := 16) 2 rfl rfl rfl dX5_burnAsNow_15 ?_
  refine ca_cV hX (q := 19) y_X0_letAllSpeak w_ml_X5_245 (by omega) hN d0 (c_X0_letAllSpeak l N g1 16 B1 hz1 (by omega) P hl1.2.1 hP5 a ha) (by decide) rfl (by decide) rfl dX5_burnAsNow_16 rfl ?_
  rintro _ g2 ⟨rfl, hz2, hf2⟩
  have hl2 := lo_ls hl1 a (1 <<< (nI P &&& 31) - 1) P
  have hs2 := al_ls (B := B1) (a := a) hP5
  have hc := cfG.fr hc hf2 (by omega)
  have d0 := hz2.1
  refine ca_aload_n hX (q := 20) 0 rfl rfl rfl dX5_burnAsNow_19 ?_
  refine ca_getf hX (q := 23) cl_X5 3 (by decide) w_fl_X5_25 (by omega) hc rfl rfl dX5_burnAsNow_20 ?_
  refine ca_iload_n hX (q := 24) 1 rfl rfl rfl dX5_burnAsNow_23 ?_
  refine ca_iconst hX (q := 25) k_iconst_0 rfl dX5_burnAsNow_24 ?_
  refine ca_cV hX (q := 28) y_X0_burn w_ml_X5_248 (by omega) hN d0 (c_X0_burn l N g2 16 _ hz2 (by omega) _ hs2.1 hs2.2.1 P hl2.2.1 hP5 r0 hr0 0) (by decide) rfl (by decide) rfl dX5_burnAsNow_25 rfl ?_
  rintro _ g3 ⟨rfl, hf3, B3, L3, hz3, v, e0, e1, e2, e3, e80, e81, e82, e84, _, e7⟩
  obtain ⟨hl3, hs3, hd3⟩ := bn_end hl2 ho hP5 hs2 hr0 v e0 e1 e2 e3 e80 e81 e82 e84 e7
  refine ca_vret hX rfl rfl rfl rfl dX5_burnAsNow_28 ?_
  exact ⟨rfl, (hf1.tr hf2).tr hf3, B3, hz3, hl3, hs3, hd3⟩

set_option maxRecDepth 100000 in
set_option maxHeartbeats 4000000 in
theorem c_X5_worthWithOnly (l : Launch) (N : Nat) (g : ca_G) (im : Int32) (hc : cfG g im) (hN31 : 31 ≤ N) (B : Nat → Nat → Int32) (hz : bzG g 16 B) (h : Nat → Int32) (P : Nat) (hl : loM B h P) (hP5 : P ≤ 5) (ho : okH h) (r0 : Nat) (hr0 : r0 < 25) (x : Int32) : ca_Ct l yX5_worthWithOnly cX5_worthWithOnly 3 (some .int) 4 0 0 N 1000000 [.ref 0, .int (nI r0), .int x] g (fun rr g' => rr = some (.int (wS h r0 (trM 0 P (bt x) P).1 (trM 0 P (bt x) P).2 0)) ∧ frG g g' 16 25 ∧ bfG g' h P r0 (trM 0 P (bt x) P).1 (trM 0 P (bt x) P).2 0) := by
  refine ca_intro (by decide) (Nat.le_of_ble_eq_true rfl) (fun X hX hN => ?_)
  show X 0 [_, _, _] [] N 1000000 g
  have d0 := hz.1
  refine ca_aload_n hX (q := 1) 0 rfl rfl rfl dX5_worthWithOnly_0 ?_
  refine ca_getf hX (q := 4) cl_X5 3 (by decide) w_fl_X5_25 (by omega) hc rfl rfl dX5_worthWithOnly_1 ?_
  refine ca_iconst hX (q := 5) k_iconst_0 rfl dX5_worthWithOnly_4 ?_
  refine ca_iload_n hX (q := 6) 2 rfl rfl rfl dX5_worthWithOnly_5 ?_
  refine ca_cV hX (q := 9) y_X0_letSpeak w_ml_X5_251 (by omega) hN d0 (c_X0_letSpeak l N g 16 B hz (by omega) P hl.2.1 hP5 0 (by omega) x) (by decide) rfl (by decide) rfl dX5_worthWithOnly_6 rfl ?_
  rintro _ g1 ⟨rfl, hz1, hf1⟩
  have hl1 := lo_ls hl 0 x P
  have hs1 := spk_ls B (f := 0) (P := P) x hP5
  have hc := cfG.fr hc hf1 (by omega)
  have d0 := hz1.1
  refine ca_aload_n hX (q := 10) 0 rfl rfl rfl dX5_worthWithOnly_9 ?_
  refine ca_getf hX (q := 13) cl_X5 3 (by decide) w_fl_X5_25 (by omega) hc rfl rfl dX5_worthWithOnly_10 ?_
  refine ca_iload_n hX (q := 14) 1 rfl rfl rfl dX5_worthWithOnly_13 ?_
  refine ca_iconst hX (q := 15) k_iconst_0 rfl dX5_worthWithOnly_14 ?_
  refine ca_cV hX (q := 18) y_X0_burn w_ml_X5_248 (by omega) hN d0 (c_X0_burn l N g1 16 _ hz1 (by omega) _ hs1.1 hs1.2.1 P hl1.2.1 hP5 r0 hr0 0) (by decide) rfl (by decide) rfl dX5_worthWithOnly_15 rfl ?_
  rintro _ g2 ⟨rfl, hf2, B2, L2, hz2, v, e0, e1, e2, e3, e80, e81, e82, e84, _, e7⟩
  obtain ⟨hl2, hs2, hd2⟩ := bn_end hl1 ho hP5 hs1 hr0 v e0 e1 e2 e3 e80 e81 e82 e84 e7
  obtain ⟨L, hL, hL1, hw⟩ := fd_w hl2 hd2
  have hc := cfG.fr hc hf2 (by omega)
  have d0 := hz2.1
  refine ca_aload_n hX (q := 19) 0 rfl rfl rfl dX5_worthWithOnly_18 ?_
  refine ca_getf hX (q := 22) cl_X5 3 (by decide) w_fl_X5_25 (by omega) hc rfl rfl dX5_worthWithOnly_19 ?_
  refine ca_cVi hX (q := 25) y_X0_worthBurnt w_ml_X5_138 (by omega) hN d0 (c_X0_worthBurnt l N g2 16 B2 hz2 (by omega) L hL hL1) (by decide) rfl (by decide) rfl dX5_worthWithOnly_22 rfl ?_
  refine ca_iret hX rfl rfl rfl rfl dX5_worthWithOnly_25 ?_
  exact ⟨by rw [hw], hf1.tr hf2, B2, hz2, hl2, hs2, hd2⟩

def rwB (x : Int32) : Int32 := if x = -9 then 99 else x
def sdA (x : Int32) : Int32 := x * 1664525 + 1013904223

set_option maxRecDepth 100000 in
set_option maxHeartbeats 4000000 in
theorem c_X5_asRowTells (l : Launch) (N : Nat) (g : ca_G) (x : Int32) : ca_Ct l yX5_asRowTells cX5_asRowTells 1 (some .int) 0 0 0 N 1000000 [.int x] g (ca_pi (rwB x) g) := by
  refine ca_intro (by decide) (Nat.le_of_ble_eq_true rfl) (fun X hX hN => ?_)
  show X 0 [_] [] N 1000000 g
  refine ca_iload_n hX (q := 1) 0 rfl rfl rfl dX5_asRowTells_0 ?_
  refine ca_bipush hX (q := 3) k_bipush_m9 rfl dX5_asRowTells_1 ?_
  refine ca_icmp_ne hX (q := 6) 11 rfl rfl dX5_asRowTells_3 (fun c3 => ?_) (fun c3 => ?_)
  · refine ca_iload_n hX (q := 12) 0 rfl rfl rfl dX5_asRowTells_11 ?_
    refine ca_iret hX rfl rfl rfl rfl dX5_asRowTells_12 ?_
    refine ⟨?_, rfl⟩; simp [rwB, *]
  · refine ca_bipush hX (q := 8) k_bipush_99 rfl dX5_asRowTells_6 ?_
    refine ca_goto hX 12 rfl dX5_asRowTells_8 ?_
    refine ca_iret hX rfl rfl rfl rfl dX5_asRowTells_12 ?_
    refine ⟨?_, rfl⟩; simp [rwB, *]

set_option maxRecDepth 100000 in
set_option maxHeartbeats 4000000 in
theorem c_X5_seedAfter (l : Launch) (N : Nat) (g : ca_G) (x : Int32) : ca_Ct l yX5_seedAfter cX5_seedAfter 1 (some .int) 0 0 0 N 1000000 [.int x] g (ca_pi (sdA x) g) := by
  refine ca_intro (by decide) (Nat.le_of_ble_eq_true rfl) (fun X hX hN => ?_)
  show X 0 [_] [] N 1000000 g
  refine ca_iload_n hX (q := 1) 0 rfl rfl rfl dX5_seedAfter_0 ?_
  refine ca_ldc hX (q := 3) w_k_X5_254 rfl dX5_seedAfter_1 ?_
  refine ca_imul hX (q := 4) rfl dX5_seedAfter_3 ?_
  refine ca_ldc hX (q := 6) w_k_X5_255 rfl dX5_seedAfter_4 ?_
  refine ca_iadd hX (q := 7) rfl dX5_seedAfter_6 ?_
  refine ca_iret hX rfl rfl rfl rfl dX5_seedAfter_7 ?_
  exact ⟨rfl, rfl⟩

set_option maxRecDepth 100000 in
set_option maxHeartbeats 4000000 in
theorem c_X5_isPerson (l : Launch) (N : Nat) (g : ca_G) (im : Int32) (hc : cfG g im) (hN31 : 31 ≤ N) (h : Nat → Int32) (hh : hsG g 1 h) (x : Int32) : ca_Ct l yX5_isPerson cX5_isPerson 2 (some .boolean) 1 0 0 N 1000000 [.ref 0, .int x] g (ca_pi (hpB (h 0) x) g) := by
  refine ca_intro (by decide) (Nat.le_of_ble_eq_true rfl) (fun X hX hN => ?_)
  show X 0 [_, _] [] N 1000000 g
  have h0 := hh.1
  refine ca_aload_n hX (q := 1) 0 rfl rfl rfl dX5_isPerson_0 ?_
  refine ca_getf hX (q := 4) cl_X5 0 (by decide) w_fl_X5_10 (by omega) hc rfl rfl dX5_isPerson_1 ?_
  refine ca_iload_n hX (q := 5) 1 rfl rfl rfl dX5_isPerson_4 ?_
  refine ca_cVi hX (q := 8) y_X1_hasPerson w_ml_X5_242 (by omega) hN h0 (c_X1_hasPerson l N g 1 h hh (by omega) x) (by decide) rfl (by decide) rfl dX5_isPerson_5 rfl ?_
  refine ca_zret hX rfl rfl (by unfold hpB; split <;> first | rfl | (split <;> first | rfl | (split <;> rfl))) rfl rfl dX5_isPerson_8 ?_
  exact ⟨rfl, rfl⟩

def skM (h0 x : Int32) : Int32 := if h0 = 0 then (if x = 0 then 1 else 0) else hpB h0 x

set_option maxRecDepth 100000 in
set_option maxHeartbeats 4000000 in
theorem c_X5_isSpeaker (l : Launch) (N : Nat) (g : ca_G) (im : Int32) (hc : cfG g im) (hN31 : 31 ≤ N) (h : Nat → Int32) (hh : hsG g 1 h) (x : Int32) : ca_Ct l yX5_isSpeaker cX5_isSpeaker 2 (some .boolean) 2 0 0 N 1000000 [.ref 0, .int x] g (ca_pi (skM (h 0) x) g) := by
  refine ca_intro (by decide) (Nat.le_of_ble_eq_true rfl) (fun X hX hN => ?_)
  show X 0 [_, _] [] N 1000000 g
  have h0 := hh.1
  refine ca_aload_n hX (q := 1) 0 rfl rfl rfl dX5_isSpeaker_0 ?_
  refine ca_getf hX (q := 4) cl_X5 0 (by decide) w_fl_X5_10 (by omega) hc rfl rfl dX5_isSpeaker_1 ?_
  refine ca_getN hX (q := 7) cl_X1 4 (by decide) w_fn_X5_153 (by omega) h0 rfl rfl dX5_isSpeaker_4 ?_
  refine ca_if_ne hX (q := 10) 22 rfl rfl dX5_isSpeaker_7 (fun c7 => ?_) (fun c7 => ?_)
  · refine ca_aload_n hX (q := 23) 0 rfl rfl rfl dX5_isSpeaker_22 ?_
    refine ca_iload_n hX (q := 24) 1 rfl rfl rfl dX5_isSpeaker_23 ?_
    refine ca_cVi hX (q := 27) y_X5_isPerson w_ml_X5_97 (by omega) hN hc (c_X5_isPerson l N g im hc hN31 h hh x) (by decide) rfl (by decide) rfl dX5_isSpeaker_24 rfl ?_
    refine ca_zret hX rfl rfl (by first | rfl | (unfold hpB; split <;> first | rfl | (split <;> first | rfl | (split <;> rfl)))) rfl rfl dX5_isSpeaker_27 ?_
    refine ⟨?_, rfl⟩; simp [skM, *]
  · refine ca_iload_n hX (q := 11) 1 rfl rfl rfl dX5_isSpeaker_10 ?_
    refine ca_if_ne hX (q := 14) 18 rfl rfl dX5_isSpeaker_11 (fun c11 => ?_) (fun c11 => ?_)
    · refine ca_iconst hX (q := 19) k_iconst_0 rfl dX5_isSpeaker_18 ?_
      refine ca_goto hX 27 rfl dX5_isSpeaker_19 ?_
      refine ca_zret hX rfl rfl (by first | rfl | (unfold hpB; split <;> first | rfl | (split <;> first | rfl | (split <;> rfl)))) rfl rfl dX5_isSpeaker_27 ?_
      refine ⟨?_, rfl⟩; simp [skM, *]
    · refine ca_iconst hX (q := 15) k_iconst_1 rfl dX5_isSpeaker_14 ?_
      refine ca_goto hX 27 rfl dX5_isSpeaker_15 ?_
      refine ca_zret hX rfl rfl (by first | rfl | (unfold hpB; split <;> first | rfl | (split <;> first | rfl | (split <;> rfl)))) rfl rfl dX5_isSpeaker_27 ?_
      refine ⟨?_, rfl⟩; simp [skM, *]

set_option maxRecDepth 100000 in
set_option maxHeartbeats 4000000 in
theorem c_X5_refuse (l : Launch) (N : Nat) (g : ca_G) (im : Int32) (hc : cfG g im) (hN31 : 31 ≤ N) (rf : Nat → Int32) (h30 : g 30 = .inl (7, rf)) (c : Int32) (k : Nat) (hk0 : -c = nI k) (hk1 : 1 ≤ k) (hk : k < 7) : ca_Ct l yX5_refuse cX5_refuse 3 (some .int) 0 0 0 N 1000000 [.ref 0, .int c] g (fun rr g' => rr = some (.int c) ∧ g' 30 = .inl (7, upd rf k (rf k + 1)) ∧ frG g g' 30 31) := by
  refine ca_intro (by decide) (Nat.le_of_ble_eq_true rfl) (fun X hX hN => ?_)
  show X 0 [_, _, none] [] N 1000000 g
  refine ca_iload_n hX (q := 1) 1 rfl rfl rfl dX5_refuse_0 ?_
  refine ca_ineg hX (q := 2) rfl dX5_refuse_1 ?_
  refine ca_istore_n hX (q := 3) 2 rfl (ls' := [_, _, _]) (Nat.le_of_ble_eq_true rfl) (Nat.le_of_ble_eq_true rfl) (Or.inr rfl) rfl rfl dX5_refuse_2 ?_
  refine ca_iload_n hX (q := 4) 2 rfl rfl rfl dX5_refuse_3 ?_
  refine ca_iconst hX (q := 5) k_iconst_1 rfl dX5_refuse_4 ?_
  refine ca_icmp_lt hX (q := 8) 24 rfl rfl dX5_refuse_5 (fun z => absurd z (by rw [hk0]; exact fun z => absurd ((nI_ltI (a := k) (b := 1) (by omega) (by omega)).mp z) (by omega))) (fun _ => ?_)
  refine ca_iload_n hX (q := 9) 2 rfl rfl rfl dX5_refuse_8 ?_
  refine ca_bipush hX (q := 11) k_bipush_6 rfl dX5_refuse_9 ?_
  refine ca_icmp_gt hX (q := 14) 24 rfl rfl dX5_refuse_11 (fun z => absurd z (by rw [hk0]; exact fun z => absurd ((nI_ltI (a := 6) (b := k) (by omega) (by omega)).mp z) (by omega))) (fun _ => ?_)
  refine ca_aload_n hX (q := 15) 0 rfl rfl rfl dX5_refuse_14 ?_
  refine ca_getf hX (q := 18) cl_X5 6 (by decide) w_fl_X5_45 (by omega) hc rfl rfl dX5_refuse_15 ?_
  refine ca_iload_n hX (q := 19) 2 rfl rfl rfl dX5_refuse_18 ?_
  refine ca_dup2 hX (q := 20) rfl rfl rfl dX5_refuse_19 ?_
  refine ca_iaN hX (q := 21) (k := k) (by omega) h30 (by decide) hk0 hk rfl dX5_refuse_20 ?_
  refine ca_iconst hX (q := 22) k_iconst_1 rfl dX5_refuse_21 ?_
  refine ca_iadd hX (q := 23) rfl dX5_refuse_22 ?_
  refine ca_iaS hX (q := 24) (k := k) (by omega) hN (Nat.le_refl _) h30 (by decide) hk0 hk rfl dX5_refuse_23 (fun g hE hF => ?_)
  have h30 := hE
  refine ca_iload_n hX (q := 25) 1 rfl rfl rfl dX5_refuse_24 ?_
  refine ca_iret hX rfl rfl rfl rfl dX5_refuse_25 ?_
  exact ⟨rfl, hE, fun j hj => hF j (by omega)⟩

set_option maxRecDepth 100000 in
set_option maxHeartbeats 4000000 in
theorem c_X5_refuseLong (l : Launch) (N : Nat) (g : ca_G) (im : Int32) (hc : cfG g im) (hN31 : 31 ≤ N) (rf : Nat → Int32) (h30 : g 30 = .inl (7, rf)) (c : Int32) (k : Nat) (hk0 : -c = nI k) (hk1 : 1 ≤ k) (hk : k < 7) : ca_Ct l yX5_refuseLong cX5_refuseLong 2 (some .long) 1 0 0 N 1000000 [.ref 0, .int c] g (fun rr g' => rr = some (.long (4000000000000000000 - c.toInt64)) ∧ g' 30 = .inl (7, upd rf k (rf k + 1)) ∧ frG g g' 30 31) := by
  refine ca_intro (by decide) (Nat.le_of_ble_eq_true rfl) (fun X hX hN => ?_)
  show X 0 [_, _] [] N 1000000 g
  refine ca_ldc2 hX (q := 3) w_k_X5_240 rfl dX5_refuseLong_0 ?_
  refine ca_aload_n hX (q := 4) 0 rfl rfl rfl dX5_refuseLong_3 ?_
  refine ca_iload_n hX (q := 5) 1 rfl rfl rfl dX5_refuseLong_4 ?_
  refine ca_cV hX (q := 8) y_X5_refuse w_ml_X5_53 (by omega) hN hc (c_X5_refuse l N g im hc hN31 rf h30 c k hk0 hk1 hk) (by decide) rfl (Nat.le_of_ble_eq_true rfl) rfl dX5_refuseLong_5 rfl ?_
  rintro _ g1 ⟨rfl, h31, hfr⟩
  refine ca_i2l hX (q := 9) rfl dX5_refuseLong_8 ?_
  refine ca_lsub hX (q := 10) rfl dX5_refuseLong_9 ?_
  refine ca_lret hX rfl rfl rfl rfl dX5_refuseLong_10 ?_
  exact ⟨rfl, h31, hfr⟩

