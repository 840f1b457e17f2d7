/-! the class itself: object 0, house 1, kept 6, trial 11, blaze 16, telling 25, row 28, refusals 30 -/
def cfG (g : ca_G) (im : Int32) : Prop := g 0 = .inr (4, [.ref 1, .ref 6, .ref 11, .ref 16, .ref 25, .ref 28, .ref 30, .int im])
theorem cfG.fr {g g' : ca_G} {im : Int32} {lo hi : Nat} (h : cfG g im) (f : frG g g' lo hi) (hl : 0 < lo) : cfG g' im := (f 0 (by omega)).trans h
theorem al_ls {B : Nat → Nat → Int32} {a P : Nat} (hP5 : P ≤ 5) : spkM (lsB B a P (1 <<< (nI P &&& 31) - 1) P) P (alT a P).1 (alT a P).2 := by
  have e : trM a P (bt (1 <<< (nI P &&& 31) - 1)) P = alT a P := by
    by_cases z : P = 0
    · rw [z]; rfl
    · exact tr_congrP (by omega) (fun i hi => by rw [all_bits P hP5 i (by omega)]; exact decide_eq_true hi) P
  have := spk_ls B (f := a) (P := P) (1 <<< (nI P &&& 31) - 1) hP5
  rw [e] at this
  exact this
/-- a blaze that holds a fire of a house -/
def bfG (g : ca_G) (h : Nat → Int32) (P r0 tn : Nat) (tu : Nat → Nat) (x : Int32) : Prop := ∃ B, bzG g 16 B ∧ loM B h P ∧ spkM B P tn tu ∧ fdM B h r0 tn tu x

set_option maxRecDepth 100000 in
set_option maxHeartbeats 4000000 in
theorem c_X5_worthBy (l : Launch) (N : Nat) (g : ca_G) (im : Int32) (hc : cfG g im) (hN31 : 31 ≤ N) (B : Nat → Nat → Int32) (hz : bzG g 16 B) (h : Nat → Int32) (P : Nat) (hl : loM B h P) (hP5 : P ≤ 5) (ho : okH h) (r0 : Nat) (hr0 : r0 < 25) (a : Nat) (ha : a < 5) : ca_Ct l yX5_worthBy cX5_worthBy 3 (some .int) 4 0 0 N 1000000 [.ref 0, .int (nI r0), .int (nI a)] g (fun rr g' => rr = some (.int (wS h r0 (alT a P).1 (alT a P).2 0)) ∧ frG g g' 16 25 ∧ bfG g' h P r0 (alT a P).1 (alT a P).2 0) := by
  refine ca_intro (by decide) (Nat.le_of_ble_eq_true rfl) (fun X hX hN => ?_)
  show X 0 [_, _, _] [] N 1000000 g
  have d0 := hz.1
  refine ca_aload_n hX (q := 1) 0 rfl rfl rfl dX5_worthBy_0 ?_
  refine ca_getf hX (q := 4) cl_X5 3 (by decide) w_fl_X5_25 (by omega) hc rfl rfl dX5_worthBy_1 ?_
  refine ca_iload_n hX (q := 5) 2 rfl rfl rfl dX5_worthBy_4 ?_
  refine ca_cV hX (q := 8) y_X0_letAllSpeak w_ml_X5_245 (by omega) hN d0 (c_X0_letAllSpeak l N g 16 B hz (by omega) P hl.2.1 hP5 a ha) (by decide) rfl (by decide) rfl dX5_worthBy_5 rfl ?_
  rintro _ g1 ⟨rfl, hz1, hf1⟩
  have hl1 := lo_ls hl a (1 <<< (nI P &&& 31) - 1) P
  have hs1 := al_ls (B := B) (a := a) hP5
  have hc := cfG.fr hc hf1 (by omega)
  have d0 := hz1.1
  refine ca_aload_n hX (q := 9) 0 rfl rfl rfl dX5_worthBy_8 ?_
  refine ca_getf hX (q := 12) cl_X5 3 (by decide) w_fl_X5_25 (by omega) hc rfl rfl dX5_worthBy_9 ?_
  refine ca_iload_n hX (q := 13) 1 rfl rfl rfl dX5_worthBy_12 ?_
  refine ca_iconst hX (q := 14) k_iconst_0 rfl dX5_worthBy_13 ?_
  refine ca_cV hX (q := 17) y_X0_burn w_ml_X5_248 (by omega) hN d0 (c_X0_burn l N g1 16 _ hz1 (by omega) _ hs1.1 hs1.2.1 P hl1.2.1 hP5 r0 hr0 0) (by decide) rfl (by decide) rfl dX5_worthBy_14 rfl ?_
  rintro _ g2 ⟨rfl, hf2, B2, L2, hz2, v, e0, e1, e2, e3, e80, e81, e82, e84, _, e7⟩
  obtain ⟨hl2, hs2, hd2⟩ := bn_end hl1 ho hP5 hs1 hr0 v e0 e1 e2 e3 e80 e81 e82 e84 e7
  obtain ⟨L, hL, hL1, hw⟩ := fd_w hl2 hd2
  have hc := cfG.fr hc hf2 (by omega)
  have d0 := hz2.1
  refine ca_aload_n hX (q := 18) 0 rfl rfl rfl dX5_worthBy_17 ?_
  refine ca_getf hX (q := 21) cl_X5 3 (by decide) w_fl_X5_25 (by omega) hc rfl rfl dX5_worthBy_18 ?_
  refine ca_cVi hX (q := 24) y_X0_worthBurnt w_ml_X5_138 (by omega) hN d0 (c_X0_worthBurnt l N g2 16 B2 hz2 (by omega) L hL hL1) (by decide) rfl (by decide) rfl dX5_worthBy_21 rfl ?_
  refine ca_iret hX rfl rfl rfl rfl dX5_worthBy_24 ?_
  exact ⟨by rw [hw], hf1.tr hf2, B2, hz2, hl2, hs2, hd2⟩

