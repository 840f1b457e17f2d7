/-! the reference's fires, in the common words -/
theorem md_t {g g' : ca_G} {o t : Nat} {M M' : Nat → Nat → Int32} {f : Nat → Int32} (h : mdG g o M) (h' : mdG g' o M') (e0 : M' 0 = M 0) (e1 : M' 1 = M 1) (hto : o < t) (htd : t < o + 3) (ht : g t = .inl (182, f)) : g' t = .inl (182, f) := by
  have ht2 : t = o + 1 ∨ t = o + 2 := by omega
  rcases ht2 with z | z
  · rw [z] at ht ⊢; rw [h'.2.1, e0, ← h.2.1]; exact ht
  · rw [z] at ht ⊢; rw [h'.2.2.1, e1, ← h.2.2.1]; exact ht
/-- all speak, from one on -/
def alT (a P : Nat) : Nat × (Nat → Nat) := trM a P (fun _ => true) P
theorem tf_all {M : Nat → Nat → Int32} {a P : Nat} (hP5 : P ≤ 5) : tfB M a P (-9) P 13 3 = nI (alT a P).1 ∧ (alT a P).1 ≤ 5 ∧ ∀ j, j < (alT a P).1 → tfB M a P (-9) P 11 j = nI ((alT a P).2 j) ∧ (alT a P).2 j < 5 := by
  have t := tr_tf M a P (-9) P
  have e : trM a P (fun p => !decide (nI p = -9)) P = alT a P := by
    by_cases z : P = 0
    · rw [z]; rfl
    · exact tr_congrP (by omega) (fun i hi => by rw [decide_eq_false (nI_m9 i (by omega))]; rfl) P
  rw [e] at t
  have hle := tr_le a P (fun _ => true) P
  refine ⟨by rw [tfB_c, t.1], Nat.le_trans hle hP5, fun j hj => ⟨t.2 j (by rw [t.1]; exact hj), ?_⟩⟩
  have hlt : (alT a P).2 j < P := tr_lt (show 0 < P from Nat.lt_of_lt_of_le (Nat.lt_of_le_of_lt (Nat.zero_le _) hj) hle) P j hj
  omega
theorem sm_congr {u v : Nat → Int32} : ∀ n, (∀ i, i < n → u i = v i) → smI u n = smI v n
  | 0, _ => rfl
  | n + 1, h => by rw [smI, smI, sm_congr n (fun i hi => h i (by omega)), h n (by omega)]
/-- the reference's cells hold this fire -/
def rfM (M : Nat → Nat → Int32) (h : Nat → Int32) (r0 tn : Nat) (tu : Nat → Nat) (x : Int32) : Prop := ∀ q, q < 25 → M 7 q = buS h r0 tn tu x q ∧ M 9 q = sdS h r0 tn tu x q ∧ M 10 q = sbS h r0 tn tu x q
theorem rf_w {M : Nat → Nat → Int32} {h : Nat → Int32} {r0 tn : Nat} {tu : Nat → Nat} {x : Int32} (hf : rfM M h r0 tn tu x) : smI (bwF (M 7) h) 25 = wS h r0 tn tu x := sm_congr 25 (fun i hi => by rw [bwF, bwF, (hf i hi).1])
theorem rf_n {M : Nat → Nat → Int32} {h : Nat → Int32} {r0 tn : Nat} {tu : Nat → Nat} {x : Int32} (hf : rfM M h r0 tn tu x) : smI (bmF (M 7)) 25 = nS h r0 tn tu x := sm_congr 25 (fun i hi => by rw [bmF, bmF, (hf i hi).1])
theorem cp_m9 (b : Nat → Int32) {r : Nat} (hr : r < 25) : cpM (fun _ => -9) b 25 r = -9 := if_pos hr

set_option maxRecDepth 100000 in
set_option maxHeartbeats 4000000 in
theorem c_X6_worthBy (l : Launch) (N : Nat) (g : ca_G) (o : Nat) (M : Nat → Nat → Int32) (hm : mdG g o M) (ho : o + 14 ≤ N) (t : Nat) (f : Nat → Int32) (ht : g t = .inl (182, f)) (hto : o < t) (htd : t < o + 3) (P : Nat) (hP : f 0 = nI P) (hP5 : P ≤ 5) (ho2 : okH f) (r0 : Nat) (hr0 : r0 < 25) (a : Nat) (ha : a < 5) : ca_Ct l yX6_worthBy cX6_worthBy 4 (some .int) 4 0 0 N 1000000 [.ref o, .ref t, .int (nI r0), .int (nI a)] g (fun rr g' => rr = some (.int (wS f r0 (alT a P).1 (alT a P).2 0)) ∧ frG g g' o (o + 14) ∧ ∃ M', mdG g' o M' ∧ rfM M' f r0 (alT a P).1 (alT a P).2 0 ∧ M' 13 4 = 0 ∧ (∀ j, j ≠ 7 → j ≠ 8 → j ≠ 9 → j ≠ 10 → j ≠ 11 → j ≠ 13 → M' j = M j) ∧ ∀ j, j ≠ 3 → j ≠ 4 → M' 13 j = M 13 j) := by
  refine ca_intro (by decide) (Nat.le_of_ble_eq_true rfl) (fun X hX hN => ?_)
  show X 0 [_, _, _, _] [] N 1000000 g
  obtain ⟨c0, c1, c2, c3, c4, c5, c6, c7, c8, c9, c10, c11, c12, c13⟩ := id hm
  refine ca_aload_n hX (q := 1) 0 rfl rfl rfl dX6_worthBy_0 ?_
  refine ca_aload_n hX (q := 2) 1 rfl rfl rfl dX6_worthBy_1 ?_
  refine ca_iload_n hX (q := 3) 3 rfl rfl rfl dX6_worthBy_2 ?_
  refine ca_bipush hX (q := 5) k_bipush_m9 rfl dX6_worthBy_3 ?_
  refine ca_cV hX (q := 8) y_X6_turnsFrom w_ml_X6_106 (by omega) hN c0 (c_X6_turnsFrom l N g o M hm ho t f ht hto htd P hP hP5 a ha (-9)) (by decide) rfl (by decide) rfl dX6_worthBy_5 rfl ?_
  rintro _ g1 ⟨rfl, hm1, hf1⟩
  have ht1 := md_t hm hm1 (tfB_n M a P (-9) (by omega) (by omega) P) (tfB_n M a P (-9) (by omega) (by omega) P) hto htd ht
  have htf := tf_all (M := M) (a := a) hP5
  have hsi := tfB_si M a P (-9) P
  obtain ⟨c0, c1, c2, c3, c4, c5, c6, c7, c8, c9, c10, c11, c12, c13⟩ := id hm1
  refine ca_aload_n hX (q := 9) 0 rfl rfl rfl dX6_worthBy_8 ?_
  refine ca_aload_n hX (q := 10) 1 rfl rfl rfl dX6_worthBy_9 ?_
  refine ca_iload_n hX (q := 11) 2 rfl rfl rfl dX6_worthBy_10 ?_
  refine ca_cV hX (q := 14) y_X6_burns w_ml_X6_110 (by omega) hN c0 (c_X6_burns l N g1 o _ hm1 ho t f ht1 hto htd (catS f) (cat_S f) (tmM (ctS f) (1 <<< (nI r0 &&& 31))) (fun _ => True) r0 hr0 (tt_ok (ms_S f) (fun r _ => cat_le f r) hr0) (alT a P).1 (alT a P).2 0 htf.1 htf.2.1 htf.2.2 hsi) (by decide) rfl (by decide) rfl dX6_worthBy_11 rfl ?_
  rintro _ g2 ⟨rfl, hf2, M2, hm2, e2, e7, e9, e10, _⟩
  have ht2 := md_t hm1 hm2 (e2 0 (by omega) (by omega) (by omega) (by omega)) (e2 1 (by omega) (by omega) (by omega) (by omega)) hto htd ht1
  have hrf : rfM M2 f r0 (alT a P).1 (alT a P).2 0 := by
    obtain ⟨k1, k2, k3⟩ := re_end (h := f) (tn := (alT a P).1) hr0 (tu := (alT a P).2) 0 ho2 _ _ (fun r hr => cp_m9 (tfB M a P (-9) P 9) hr) (fun r hr => cp_m9 (tfB M a P (-9) P 10) hr)
    exact fun q hq => ⟨(e7 q hq).trans (k1 q hq), (congrFun e9 q).trans (k2 q hq), (congrFun e10 q).trans (k3 q hq)⟩
  obtain ⟨c0, c1, c2, c3, c4, c5, c6, c7, c8, c9, c10, c11, c12, c13⟩ := id hm2
  refine ca_aload_n hX (q := 15) 0 rfl rfl rfl dX6_worthBy_14 ?_
  refine ca_aload_n hX (q := 16) 1 rfl rfl rfl dX6_worthBy_15 ?_
  refine ca_cVi hX (q := 19) y_X6_burntWorth w_ml_X6_114 (by omega) hN c0 (c_X6_burntWorth l N g2 o M2 hm2 ho t f ht2 hto htd) (by decide) rfl (by decide) rfl dX6_worthBy_16 rfl ?_
  refine ca_iret hX rfl rfl rfl rfl dX6_worthBy_19 ?_
  exact ⟨by rw [rf_w hrf], hf1.tr hf2, M2, hm2, hrf, (by rw [e2 13 (by omega) (by omega) (by omega) (by omega)]; exact hsi), fun j n7 n8 n9 n10 n11 n13 => by rw [e2 j n7 n8 n9 n10]; exact tfB_n M a P (-9) n11 n13 P, fun j n3 n4 => by rw [e2 13 (by omega) (by omega) (by omega) (by omega)]; exact tfB_13 M a P (-9) n3 n4 P⟩

set_option maxRecDepth 100000 in
set_option maxHeartbeats 4000000 in
theorem c_X6_burnsBy (l : Launch) (N : Nat) (g : ca_G) (o : Nat) (M : Nat → Nat → Int32) (hm : mdG g o M) (ho : o + 14 ≤ N) (P : Nat) (hP : M 0 0 = nI P) (hP5 : P ≤ 5) (ho2 : okH (M 0)) (r0 : Nat) (hr0 : r0 < 25) (a : Nat) (ha : a < 5) : ca_Ct l yX6_burnsBy cX6_burnsBy 3 none 4 0 0 N 1000000 [.ref o, .int (nI r0), .int (nI a)] g (fun rr g' => rr = none ∧ frG g g' o (o + 14) ∧ ∃ M', mdG g' o M' ∧ rfM M' (M 0) r0 (alT a P).1 (alT a P).2 0 ∧ M' 13 4 = 0 ∧ (∀ j, j ≠ 7 → j ≠ 8 → j ≠ 9 → j ≠ 10 → j ≠ 11 → j ≠ 13 → M' j = M j) ∧ ∀ j, j ≠ 3 → j ≠ 4 → M' 13 j = M 13 j) := by
  refine ca_intro (by decide) (Nat.le_of_ble_eq_true rfl) (fun X hX hN => ?_)
  show X 0 [_, _, _] [] N 1000000 g
  obtain ⟨c0, c1, c2, c3, c4, c5, c6, c7, c8, c9, c10, c11, c12, c13⟩ := id hm
  have hs0 : g (o + 1) = .inl (182, M 0) := c1
  refine ca_aload_n hX (q := 1) 0 rfl rfl rfl dX6_burnsBy_0 ?_
  refine ca_aload_n hX (q := 2) 0 rfl rfl rfl dX6_burnsBy_1 ?_
  refine ca_getf hX (q := 5) cl_X6 0 (by decide) w_fl_X6_9 (by omega) c0 rfl rfl dX6_burnsBy_2 ?_
  refine ca_iload_n hX (q := 6) 2 rfl rfl rfl dX6_burnsBy_5 ?_
  refine ca_bipush hX (q := 8) k_bipush_m9 rfl dX6_burnsBy_6 ?_
  refine ca_cV hX (q := 11) y_X6_turnsFrom w_ml_X6_106 (by omega) hN c0 (c_X6_turnsFrom l N g o M hm ho (o + 1) (M 0) hs0 (by omega) (by omega) P hP hP5 a ha (-9)) (by decide) rfl (by decide) rfl dX6_burnsBy_8 rfl ?_
  rintro _ g1 ⟨rfl, hm1, hf1⟩
  have ht1 := md_t hm hm1 (tfB_n M a P (-9) (by omega) (by omega) P) (tfB_n M a P (-9) (by omega) (by omega) P) (by omega) (by omega) hs0
  have htf := tf_all (M := M) (a := a) hP5
  have hsi := tfB_si M a P (-9) P
  obtain ⟨c0, c1, c2, c3, c4, c5, c6, c7, c8, c9, c10, c11, c12, c13⟩ := id hm1
  refine ca_aload_n hX (q := 12) 0 rfl rfl rfl dX6_burnsBy_11 ?_
  refine ca_aload_n hX (q := 13) 0 rfl rfl rfl dX6_burnsBy_12 ?_
  refine ca_getf hX (q := 16) cl_X6 0 (by decide) w_fl_X6_9 (by omega) c0 rfl rfl dX6_burnsBy_13 ?_
  refine ca_iload_n hX (q := 17) 1 rfl rfl rfl dX6_burnsBy_16 ?_
  refine ca_cV hX (q := 20) y_X6_burns w_ml_X6_110 (by omega) hN c0 (c_X6_burns l N g1 o _ hm1 ho (o + 1) (M 0) ht1 (by omega) (by omega) (catS (M 0)) (cat_S (M 0)) (tmM (ctS (M 0)) (1 <<< (nI r0 &&& 31))) (fun _ => True) r0 hr0 (tt_ok (ms_S (M 0)) (fun r _ => cat_le (M 0) r) hr0) (alT a P).1 (alT a P).2 0 htf.1 htf.2.1 htf.2.2 hsi) (by decide) rfl (by decide) rfl dX6_burnsBy_17 rfl ?_
  rintro _ g2 ⟨rfl, hf2, M2, hm2, e2, e7, e9, e10, _⟩
  have ht2 := md_t hm1 hm2 (e2 0 (by omega) (by omega) (by omega) (by omega)) (e2 1 (by omega) (by omega) (by omega) (by omega)) (by omega) (by omega) ht1
  have hrf : rfM M2 (M 0) r0 (alT a P).1 (alT a P).2 0 := by
    obtain ⟨k1, k2, k3⟩ := re_end (h := M 0) (tn := (alT a P).1) hr0 (tu := (alT a P).2) 0 ho2 _ _ (fun r hr => cp_m9 (tfB M a P (-9) P 9) hr) (fun r hr => cp_m9 (tfB M a P (-9) P 10) hr)
    exact fun q hq => ⟨(e7 q hq).trans (k1 q hq), (congrFun e9 q).trans (k2 q hq), (congrFun e10 q).trans (k3 q hq)⟩
  obtain ⟨c0, c1, c2, c3, c4, c5, c6, c7, c8, c9, c10, c11, c12, c13⟩ := id hm2
  refine ca_vret hX rfl rfl rfl rfl dX6_burnsBy_20 ?_
  exact ⟨rfl, hf1.tr hf2, M2, hm2, hrf, (by rw [e2 13 (by omega) (by omega) (by omega) (by omega)]; exact hsi), fun j n7 n8 n9 n10 n11 n13 => by rw [e2 j n7 n8 n9 n10]; exact tfB_n M a P (-9) n11 n13 P, fun j n3 n4 => by rw [e2 13 (by omega) (by omega) (by omega) (by omega)]; exact tfB_13 M a P (-9) n3 n4 P⟩

