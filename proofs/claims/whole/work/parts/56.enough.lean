/-! leftOut, enough of both -/
def lvT (P p : Nat) : Nat × (Nat → Nat) := trM 0 P (fun q => !decide (q = p)) P
def lvV (h : Nat → Int32) (P r p : Nat) : Int32 := wS h r (lvT P p).1 (lvT P p).2 0
def loA (M : Nat → Nat → Int32) (P : Nat) (x : Int32) : An := if rmB x = 0 then noA M 1 else ((mxF (-9, -1) (lvV (M 0) P x.toNatClampNeg) P).1, M)
theorem lv_w (h : Nat → Int32) {P : Nat} (hP5 : P ≤ 5) (r : Nat) {i : Nat} (hi : i < P) : wS h r (trM 0 P (bt (((1 : Int32) <<< (nI P &&& 31) - 1) &&& ((1 : Int32) <<< (nI i &&& 31) ^^^ -1))) P).1 (trM 0 P (bt (((1 : Int32) <<< (nI P &&& 31) - 1) &&& ((1 : Int32) <<< (nI i &&& 31) ^^^ -1))) P).2 0 = lvV h P r i := by
  rw [tr_congrP (kp' := fun q => !decide (q = i)) (show 0 < P by omega) (fun q hq => by rw [b_and, all_bits P hP5 q (by omega), b_not _ (by omega), b_one i (by omega), decide_eq_true hq]; rfl)]
  rfl
theorem tf_lv {M : Nat → Nat → Int32} {P : Nat} (hP5 : P ≤ 5) {i : Nat} (hi : i < P) : tfB M 0 P (nI i) P 13 3 = nI (lvT P i).1 ∧ (lvT P i).1 ≤ 5 ∧ ∀ j, j < (lvT P i).1 → tfB M 0 P (nI i) P 11 j = nI ((lvT P i).2 j) ∧ (lvT P i).2 j < 5 := by
  have t := tr_tf M 0 P (nI i) P
  have e : trM 0 P (fun p => !decide (nI p = nI i)) P = lvT P i := tr_congrP (by omega) (fun q hq => by rw [show decide (nI q = nI i) = decide (q = i) from decide_eq_decide.mpr (nI_eq (by omega) (by omega))]) P
  rw [e] at t
  have hle : (lvT P i).1 ≤ P := tr_le 0 P _ P
  refine ⟨by rw [tfB_c, t.1], by omega, fun j hj => ⟨t.2 j (by rw [t.1]; exact hj), ?_⟩⟩
  have : (lvT P i).2 j < P := tr_lt (show 0 < P by omega) P j hj
  omega
theorem keM.tf {M M1 : Nat → Nat → Int32} (h : keM M M1) (a P : Nat) (w : Int32) (i : Nat) : keM M (tfB M1 a P w i) := by
  obtain ⟨a0, a1, a2, a3, a4, a5, a6, a7, a8⟩ := h
  unfold keM
  rw [tfB_n M1 a P w (j := 0) (by omega) (by omega), tfB_n M1 a P w (j := 2) (by omega) (by omega), tfB_n M1 a P w (j := 4) (by omega) (by omega), tfB_n M1 a P w (j := 5) (by omega) (by omega), tfB_n M1 a P w (j := 6) (by omega) (by omega), tfB_13 M1 a P w (j := 0) (by omega) (by omega), tfB_13 M1 a P w (j := 1) (by omega) (by omega), tfB_13 M1 a P w (j := 2) (by omega) (by omega), tfB_si]
  exact ⟨a0, a1, a2, a3, a4, a5, a6, a7, rfl⟩

set_option maxRecDepth 100000 in
set_option maxHeartbeats 4000000 in
theorem k_leftOut (l : Launch) (N : Nat) (g0 : ca_G) (M : Nat → Nat → Int32) (t : Nat → Int32) (B : Nat → Nat → Int32) (hx : clX g0 M t B) (hN31 : 31 ≤ N) (P : Nat) (w : wfH (M 0) P) (x1 : Int32) : ca_Ct l yX5_leftOut cX5_leftOut 7 (some .int) 5 0 0 N 1000000 [.ref 0, .int x1] g0 (clP g0 (loA M P x1)) := by
  refine ca_intro (by decide) (Nat.le_of_ble_eq_true rfl) (fun X hX hN => ?_)
  show X 0 [_, _, none, none, none, none, none] [] N 1000000 g0
  obtain ⟨g, hgg⟩ : ∃ g, g = g0 := ⟨g0, rfl⟩
  rw [← hgg] at hx ⊢
  have hfr : frG g0 g 0 31 := by rw [hgg]; exact frG.rf
  obtain ⟨hc, hh, hkp, htr, hz, htl, hlt, hrw, h30⟩ := id hx
  have h0 := hh.1
  have k0 := hkp.1
  have t0 := htr.1
  have d0 := hz.1
  have l0 := hlt.1
  have w0 := hrw.1
  have hP := w.1
  have hP5 := w.2.1
  have hok := wf_ok w
  refine ca_iload_n hX (q := 1) 1 rfl rfl rfl dX5_leftOut_0 ?_
  refine ca_cSi hX (q := 4) y_X5_isRoom w_ml_X5_78 hN (c_X5_isRoom l N g _) (by decide) rfl (Nat.le_of_ble_eq_true rfl) rfl dX5_leftOut_1 rfl ?_
  refine ca_if_ne hX (q := 7) 13 rfl rfl dX5_leftOut_4 (fun c4 => ?_) (fun c4 => ?_)
  · obtain ⟨r1, hr1, rfl⟩ := rm_ok c4
    have er1 := nI_clamp (n := r1) (by omega)
    refine ca_aload_n hX (q := 14) 0 rfl rfl rfl dX5_leftOut_13 ?_
    refine ca_getf hX (q := 17) cl_X5 3 (by decide) w_fl_X5_25 (by omega) hc rfl rfl dX5_leftOut_14 ?_
    refine ca_aload_n hX (q := 18) 0 rfl rfl rfl dX5_leftOut_17 ?_
    refine ca_getf hX (q := 21) cl_X5 0 (by decide) w_fl_X5_10 (by omega) hc rfl rfl dX5_leftOut_18 ?_
    refine ca_cV hX (q := 24) y_X0_lookAt w_ml_X5_159 (by omega) hN d0 (c_X0_lookAt l N g 16 B hz (by omega) 1 (M 0) hh (by omega) (by omega) P hP hP5) (by decide) rfl (Nat.le_of_ble_eq_true rfl) rfl dX5_leftOut_21 rfl ?_
    rintro _ g ⟨rfl, ⟨B, hz, hk1, hp1, hy1⟩, hf⟩
    have hlo : loM B (M 0) P := ⟨hk1, hp1, hy1⟩
    have hx := hx.bz hf hz
    have hfr := hfr.tr (hf.wd (by omega) (by omega))
    obtain ⟨hc, hh, hkp, htr, hz, htl, hlt, hrw, h30⟩ := id hx
    have h0 := hh.1
    have k0 := hkp.1
    have t0 := htr.1
    have d0 := hz.1
    have l0 := hlt.1
    have w0 := hrw.1
    refine ca_iconst hX (q := 25) k_iconst_1 rfl dX5_leftOut_24 ?_
    refine ca_aload_n hX (q := 26) 0 rfl rfl rfl dX5_leftOut_25 ?_
    refine ca_getf hX (q := 29) cl_X5 0 (by decide) w_fl_X5_10 (by omega) hc rfl rfl dX5_leftOut_26 ?_
    refine ca_getN hX (q := 32) cl_X1 4 (by decide) w_fn_X5_153 (by omega) h0 rfl rfl dX5_leftOut_29 ?_
    rw [hP]
    refine ca_ishl hX (q := 33) rfl dX5_leftOut_32 ?_
    refine ca_iconst hX (q := 34) k_iconst_1 rfl dX5_leftOut_33 ?_
    refine ca_isub hX (q := 35) rfl dX5_leftOut_34 ?_
    refine ca_istore_n hX (q := 36) 2 rfl (ls' := [_, _, _, _, _, _, _]) (Nat.le_of_ble_eq_true rfl) (Nat.le_of_ble_eq_true rfl) (Or.inr rfl) rfl rfl dX5_leftOut_35 ?_
    have loop : ∀ (n i : Nat) (g1 : ca_G) (B1 : Nat → Nat → Int32), i + n = P → clX g1 M t B1 → loM B1 (M 0) P → frG g0 g1 0 31 → X 45 [some (.ref 0), some (.int (nI r1)), some (.int ((1 : Int32) <<< (nI P &&& 31) - 1)), some (.int (mxF (-9, -1) (lvV (M 0) P r1) i).1), some (.int (mxF (-9, -1) (lvV (M 0) P r1) i).2), some (.int (nI i)), none] [] N 1000000 g1 := by
      intro n
      induction n with
      | zero =>
        intro i g B hi hx hlo hfr
        have hib : i = P := by omega
        rw [hib]
        obtain ⟨hc, hh, hkp, htr, hz, htl, hlt, hrw, h30⟩ := id hx
        have h0 := hh.1
        have k0 := hkp.1
        have t0 := htr.1
        have d0 := hz.1
        have l0 := hlt.1
        have w0 := hrw.1
        refine ca_iload hX (q := 47) rfl rfl dX5_leftOut_45 ?_
        refine ca_aload_n hX (q := 48) 0 rfl rfl rfl dX5_leftOut_47 ?_
        refine ca_getf hX (q := 51) cl_X5 0 (by decide) w_fl_X5_10 (by omega) hc rfl rfl dX5_leftOut_48 ?_
        refine ca_getN hX (q := 54) cl_X1 4 (by decide) w_fn_X5_153 (by omega) h0 rfl rfl dX5_leftOut_51 ?_
        refine ca_icmp_ge hX (q := 57) 92 rfl rfl dX5_leftOut_54 (fun _ => ?_) (fun z => absurd (by rw [hP]; exact nI_le (Nat.le_refl _) (by omega)) z)
        refine ca_iload_n hX (q := 93) 3 rfl rfl rfl dX5_leftOut_92 ?_
        refine ca_iret hX rfl rfl rfl rfl dX5_leftOut_93 ?_
        exact cl_end (by simp [loA, noA, nk1, nk2, nk3, nk4, nk6, c4, er1]) hfr hx
      | succ n ih =>
        intro i g B hi hx hlo hfr
        obtain ⟨hc, hh, hkp, htr, hz, htl, hlt, hrw, h30⟩ := id hx
        have h0 := hh.1
        have k0 := hkp.1
        have t0 := htr.1
        have d0 := hz.1
        have l0 := hlt.1
        have w0 := hrw.1
        refine ca_iload hX (q := 47) rfl rfl dX5_leftOut_45 ?_
        refine ca_aload_n hX (q := 48) 0 rfl rfl rfl dX5_leftOut_47 ?_
        refine ca_getf hX (q := 51) cl_X5 0 (by decide) w_fl_X5_10 (by omega) hc rfl rfl dX5_leftOut_48 ?_
        refine ca_getN hX (q := 54) cl_X1 4 (by decide) w_fn_X5_153 (by omega) h0 rfl rfl dX5_leftOut_51 ?_
        refine ca_icmp_ge hX (q := 57) 92 rfl rfl dX5_leftOut_54 (fun z => absurd z (by rw [hP]; exact nI_ge (a := i) (b := P) (by omega) (by omega))) (fun _ => ?_)
        refine ca_aload_n hX (q := 58) 0 rfl rfl rfl dX5_leftOut_57 ?_
        refine ca_iload_n hX (q := 59) 1 rfl rfl rfl dX5_leftOut_58 ?_
        refine ca_iload_n hX (q := 60) 2 rfl rfl rfl dX5_leftOut_59 ?_
        refine ca_iconst hX (q := 61) k_iconst_1 rfl dX5_leftOut_60 ?_
        refine ca_iload hX (q := 63) rfl rfl dX5_leftOut_61 ?_
        refine ca_ishl hX (q := 64) rfl dX5_leftOut_63 ?_
        refine ca_iconst hX (q := 65) k_iconst_m1 rfl dX5_leftOut_64 ?_
        refine ca_ixor hX (q := 66) rfl dX5_leftOut_65 ?_
        refine ca_iand hX (q := 67) rfl dX5_leftOut_66 ?_
        refine ca_cV hX (q := 70) y_X5_worthWithOnly w_ml_X5_162 (by omega) hN hc (c_X5_worthWithOnly l N g _ hc hN31 B hz (M 0) P hlo hP5 hok r1 hr1 (((1 : Int32) <<< (nI P &&& 31) - 1) &&& ((1 : Int32) <<< (nI i &&& 31) ^^^ -1))) (by decide) rfl (Nat.le_of_ble_eq_true rfl) rfl dX5_leftOut_67 rfl ?_
        rintro _ g ⟨rfl, hf, B, hz, hlo, hsp, hfd⟩
        have hx := hx.bz hf hz
        have hfr := hfr.tr (hf.wd (by omega) (by omega))
        obtain ⟨hc, hh, hkp, htr, hz, htl, hlt, hrw, h30⟩ := id hx
        have h0 := hh.1
        have k0 := hkp.1
        have t0 := htr.1
        have d0 := hz.1
        have l0 := hlt.1
        have w0 := hrw.1
        rw [lv_w (M 0) hP5 r1 (show i < P by omega)]
        refine ca_istore hX (q := 72) (ls' := [_, _, _, _, _, _, _]) (Nat.le_of_ble_eq_true rfl) (Nat.le_of_ble_eq_true rfl) (Or.inr rfl) rfl rfl dX5_leftOut_70 ?_
        refine ca_iload hX (q := 74) rfl rfl dX5_leftOut_72 ?_
        refine ca_iload hX (q := 76) rfl rfl dX5_leftOut_74 ?_
        refine ca_icmp_le hX (q := 79) 86 rfl rfl dX5_leftOut_76 (fun c76 => ?_) (fun c76 => ?_)
        · refine ca_iinc hX (q := 89) (ls' := [_, _, _, _, _, _, _]) k_iconst_1 rfl (Nat.le_of_ble_eq_true rfl) (Or.inr rfl) rfl rfl dX5_leftOut_86 ?_
          refine ca_goto hX 45 rfl dX5_leftOut_89 ?_
          have e1 : mxF (-9, -1) (lvV (M 0) P r1) (i + 1) = mxF (-9, -1) (lvV (M 0) P r1) i := by rw [mxF, if_pos c76]
          rw [nI_1]
          exact ca_drop hX (ca_le_s rfl (ca_le_s rfl (ca_le_s rfl (ca_le_s (by rw [e1]) (ca_le_s (by rw [e1]) (ca_le_s rfl (ca_le_n ca_le_0))))))) (ih (i + 1) _ B (by omega) hx hlo hfr)
        · refine ca_iload hX (q := 81) rfl rfl dX5_leftOut_79 ?_
          refine ca_istore hX (q := 83) (ls' := [_, _, _, _, _, _, _]) (Nat.le_of_ble_eq_true rfl) (Nat.le_of_ble_eq_true rfl) (Or.inr rfl) rfl rfl dX5_leftOut_81 ?_
          refine ca_iload hX (q := 85) rfl rfl dX5_leftOut_83 ?_
          refine ca_istore_n hX (q := 86) 3 rfl (ls' := [_, _, _, _, _, _, _]) (Nat.le_of_ble_eq_true rfl) (Nat.le_of_ble_eq_true rfl) (Or.inr rfl) rfl rfl dX5_leftOut_85 ?_
          refine ca_iinc hX (q := 89) (ls' := [_, _, _, _, _, _, _]) k_iconst_1 rfl (Nat.le_of_ble_eq_true rfl) (Or.inr rfl) rfl rfl dX5_leftOut_86 ?_
          refine ca_goto hX 45 rfl dX5_leftOut_89 ?_
          have e1 : mxF (-9, -1) (lvV (M 0) P r1) (i + 1) = (nI i, (lvV (M 0) P r1) i) := by rw [mxF, if_neg c76]
          rw [nI_1]
          exact ca_drop hX (ca_le_s rfl (ca_le_s rfl (ca_le_s rfl (ca_le_s (by rw [e1]) (ca_le_s (by rw [e1]) (ca_le_s rfl (ca_le_n ca_le_0))))))) (ih (i + 1) _ B (by omega) hx hlo hfr)
    refine ca_bipush hX (q := 38) k_bipush_m9 rfl dX5_leftOut_36 ?_
    refine ca_istore_n hX (q := 39) 3 rfl (ls' := [_, _, _, _, _, _, _]) (Nat.le_of_ble_eq_true rfl) (Nat.le_of_ble_eq_true rfl) (Or.inr rfl) rfl rfl dX5_leftOut_38 ?_
    refine ca_iconst hX (q := 40) k_iconst_m1 rfl dX5_leftOut_39 ?_
    refine ca_istore hX (q := 42) (ls' := [_, _, _, _, _, _, _]) (Nat.le_of_ble_eq_true rfl) (Nat.le_of_ble_eq_true rfl) (Or.inr rfl) rfl rfl dX5_leftOut_40 ?_
    refine ca_iconst hX (q := 43) k_iconst_0 rfl dX5_leftOut_42 ?_
    refine ca_istore hX (q := 45) (ls' := [_, _, _, _, _, _, _]) (Nat.le_of_ble_eq_true rfl) (Nat.le_of_ble_eq_true rfl) (Or.inr rfl) rfl rfl dX5_leftOut_43 ?_
    exact ca_drop hX (ca_le_s rfl (ca_le_s rfl (ca_le_s rfl (ca_le_s rfl (ca_le_s rfl (ca_le_s rfl (ca_le_n ca_le_0))))))) (loop P 0 _ B (by omega) hx hlo hfr)
  · refine ca_aload_n hX (q := 8) 0 rfl rfl rfl dX5_leftOut_7 ?_
    refine ca_iconst hX (q := 9) k_iconst_m1 rfl dX5_leftOut_8 ?_
    refine ca_cV hX (q := 12) y_X5_refuse w_ml_X5_53 (by omega) hN hc (c_X5_refuse l N g _ hc hN31 (M 6) h30 (-1) 1 (by decide) (by omega) (by omega)) (by decide) rfl (Nat.le_of_ble_eq_true rfl) rfl dX5_leftOut_9 rfl ?_
    rintro _ g ⟨rfl, h30, hf⟩
    have hx := hx.rf hf h30
    have hfr := hfr.tr (hf.wd (by omega) (by omega))
    refine ca_iret hX rfl rfl rfl rfl dX5_leftOut_12 ?_
    exact cl_end (by simp [loA, noA, nk1, nk2, nk3, nk4, nk6, c4]) hfr hx

set_option maxRecDepth 100000 in
set_option maxHeartbeats 4000000 in
theorem m_leftOut (l : Launch) (N : Nat) (g0 : ca_G) (o : Nat) (M : Nat → Nat → Int32) (hm : mdG g0 o M) (ho : o + 14 ≤ N) (hs4 : M 13 4 = 0) (P : Nat) (w : wfH (M 0) P) (x1 : Int32) : ca_Ct l yX6_leftOut cX6_leftOut 5 (some .int) 5 0 0 N 1000000 [.ref o, .int x1] g0 (reP o g0 (loA M P x1)) := by
  refine ca_intro (by decide) (Nat.le_of_ble_eq_true rfl) (fun X hX hN => ?_)
  show X 0 [_, _, none, none, none] [] N 1000000 g0
  obtain ⟨g, hgg⟩ : ∃ g, g = g0 := ⟨g0, rfl⟩
  rw [← hgg] at hm ⊢
  have hfr : frG g0 g o (o + 14) := by rw [hgg]; exact frG.rf
  have hke := keM.rf hs4
  obtain ⟨c0, c1, c2, c3, c4, c5, c6, c7, c8, c9, c10, c11, c12, c13⟩ := id hm
  have hP := w.1
  have hP5 := w.2.1
  have hok := wf_ok w
  refine ca_iload_n hX (q := 1) 1 rfl rfl rfl dX6_leftOut_0 ?_
  refine ca_cSi hX (q := 4) y_X6_isRoom w_ml_X6_138 hN (c_R_isRoom l N g _) (by decide) rfl (Nat.le_of_ble_eq_true rfl) rfl dX6_leftOut_1 rfl ?_
  refine ca_if_ne hX (q := 7) 13 rfl rfl dX6_leftOut_4 (fun b4 => ?_) (fun b4 => ?_)
  · obtain ⟨r1, hr1, rfl⟩ := rm_ok b4
    have er1 := nI_clamp (n := r1) (by omega)
    have loop : ∀ (n i : Nat) (g1 : ca_G) (M1 : Nat → Nat → Int32), i + n = P → mdG g1 o M1 → keM M M1 → frG g0 g1 o (o + 14) → X 21 [some (.ref o), some (.int (nI r1)), some (.int (mxF (-9, -1) (lvV (M 0) P r1) i).1), some (.int (mxF (-9, -1) (lvV (M 0) P r1) i).2), some (.int (nI i))] [] N 1000000 g1 := by
      intro n
      induction n with
      | zero =>
        intro i g M1 hi hm hke hfr
        have hib : i = P := by omega
        rw [hib]
        obtain ⟨c0, c1, c2, c3, c4, c5, c6, c7, c8, c9, c10, c11, c12, c13⟩ := id hm
        rw [hke.1] at c1
        refine ca_iload hX (q := 23) rfl rfl dX6_leftOut_21 ?_
        refine ca_aload_n hX (q := 24) 0 rfl rfl rfl dX6_leftOut_23 ?_
        refine ca_getf hX (q := 27) cl_X6 0 (by decide) w_fl_X6_9 (by omega) c0 rfl rfl dX6_leftOut_24 ?_
        refine ca_iconst hX (q := 28) k_iconst_0 rfl dX6_leftOut_27 ?_
        refine ca_iaN hX (q := 29) (k := 0) (by omega) c1 (by decide) (by decide) (by decide) rfl dX6_leftOut_28 ?_
        refine ca_icmp_ge hX (q := 32) 85 rfl rfl dX6_leftOut_29 (fun _ => ?_) (fun z => absurd (by rw [hP]; exact nI_le (Nat.le_refl _) (by omega)) z)
        refine ca_iload_n hX (q := 86) 2 rfl rfl rfl dX6_leftOut_85 ?_
        refine ca_iret hX rfl rfl rfl rfl dX6_leftOut_86 ?_
        exact re_end2 (by simp [loA, noA, nk1, nk2, nk3, nk4, nk6, z020, z021, z010, z011, b4, er1]) hfr hm hke
      | succ n ih =>
        intro i g M1 hi hm hke hfr
        obtain ⟨c0, c1, c2, c3, c4, c5, c6, c7, c8, c9, c10, c11, c12, c13⟩ := id hm
        rw [hke.1] at c1
        refine ca_iload hX (q := 23) rfl rfl dX6_leftOut_21 ?_
        refine ca_aload_n hX (q := 24) 0 rfl rfl rfl dX6_leftOut_23 ?_
        refine ca_getf hX (q := 27) cl_X6 0 (by decide) w_fl_X6_9 (by omega) c0 rfl rfl dX6_leftOut_24 ?_
        refine ca_iconst hX (q := 28) k_iconst_0 rfl dX6_leftOut_27 ?_
        refine ca_iaN hX (q := 29) (k := 0) (by omega) c1 (by decide) (by decide) (by decide) rfl dX6_leftOut_28 ?_
        refine ca_icmp_ge hX (q := 32) 85 rfl rfl dX6_leftOut_29 (fun z => absurd z (by rw [hP]; exact nI_ge (a := i) (b := P) (by omega) (by omega))) (fun _ => ?_)
        refine ca_aload_n hX (q := 33) 0 rfl rfl rfl dX6_leftOut_32 ?_
        refine ca_aload_n hX (q := 34) 0 rfl rfl rfl dX6_leftOut_33 ?_
        refine ca_getf hX (q := 37) cl_X6 0 (by decide) w_fl_X6_9 (by omega) c0 rfl rfl dX6_leftOut_34 ?_
        refine ca_iconst hX (q := 38) k_iconst_0 rfl dX6_leftOut_37 ?_
        refine ca_iload hX (q := 40) rfl rfl dX6_leftOut_38 ?_
        refine ca_cV hX (q := 43) y_X6_turnsFrom w_ml_X6_106 (by omega) hN c0 (c_X6_turnsFrom l N g o M1 hm ho (o + 1) (M 0) c1 (by omega) (by omega) P hP hP5 0 (by omega) (nI i)) (by decide) rfl (Nat.le_of_ble_eq_true rfl) rfl dX6_leftOut_40 rfl ?_
        rintro _ g ⟨rfl, hm, hf⟩
        have hke := hke.tf 0 P (nI i) P
        have hfr := hfr.tr hf
        obtain ⟨q1, q2, q3⟩ := tf_lv (M := M1) hP5 (show i < P by omega)
        obtain ⟨c0, c1, c2, c3, c4, c5, c6, c7, c8, c9, c10, c11, c12, c13⟩ := id hm
        rw [hke.1] at c1
        refine ca_aload_n hX (q := 44) 0 rfl rfl rfl dX6_leftOut_43 ?_
        refine ca_aload_n hX (q := 45) 0 rfl rfl rfl dX6_leftOut_44 ?_
        refine ca_getf hX (q := 48) cl_X6 0 (by decide) w_fl_X6_9 (by omega) c0 rfl rfl dX6_leftOut_45 ?_
        refine ca_iload_n hX (q := 49) 1 rfl rfl rfl dX6_leftOut_48 ?_
        refine ca_cV hX (q := 52) y_X6_burns w_ml_X6_110 (by omega) hN c0 (c_X6_burns l N g o _ hm ho (o + 1) (M 0) c1 (by omega) (by omega) (catS (M 0)) (cat_S (M 0)) (tmM (ctS (M 0)) (1 <<< (nI r1 &&& 31))) (fun _ => True) r1 hr1 (tt_ok (ms_S (M 0)) (fun r _ => cat_le (M 0) r) hr1) (lvT P i).1 (lvT P i).2 0 q1 q2 q3 hke.2.2.2.2.2.2.2.2) (by decide) rfl (Nat.le_of_ble_eq_true rfl) rfl dX6_leftOut_49 rfl ?_
        rintro _ g ⟨rfl, hf, M2, hm, e2, e7, e9, e10, _⟩
        have hrf : rfM M2 (M 0) r1 (lvT P i).1 (lvT P i).2 0 := by
          obtain ⟨k1, k2, k3⟩ := re_end (h := M 0) (tn := (lvT P i).1) hr1 (tu := (lvT P i).2) 0 hok _ _ (fun r hr => cp_m9 ((tfB M1 0 P (nI i) P) 9) hr) (fun r hr => cp_m9 ((tfB M1 0 P (nI i) P) 10) hr)
          exact fun q hq => ⟨(e7 q hq).trans (k1 q hq), (congrFun e9 q).trans (k2 q hq), (congrFun e10 q).trans (k3 q hq)⟩
        have hfr := hfr.tr hf
        have hke := hke.b2 e2
        obtain ⟨c0, c1, c2, c3, c4, c5, c6, c7, c8, c9, c10, c11, c12, c13⟩ := id hm
        rw [hke.1] at c1
        refine ca_aload_n hX (q := 53) 0 rfl rfl rfl dX6_leftOut_52 ?_
        refine ca_aload_n hX (q := 54) 0 rfl rfl rfl dX6_leftOut_53 ?_
        refine ca_getf hX (q := 57) cl_X6 0 (by decide) w_fl_X6_9 (by omega) c0 rfl rfl dX6_leftOut_54 ?_
        refine ca_cVi hX (q := 60) y_X6_burntWorth w_ml_X6_114 (by omega) hN c0 (c_X6_burntWorth l N g o M2 hm ho (o + 1) (M 0) c1 (by omega) (by omega)) (by decide) rfl (Nat.le_of_ble_eq_true rfl) rfl dX6_leftOut_57 rfl ?_
        rw [rf_w hrf, show wS (M 0) r1 (lvT P i).1 (lvT P i).2 0 = (lvV (M 0) P r1) i from rfl]
        refine ca_iload_n hX (q := 61) 3 rfl rfl rfl dX6_leftOut_60 ?_
        refine ca_icmp_gt hX (q := 64) 67 rfl rfl dX6_leftOut_61 (fun b61 => ?_) (fun b61 => ?_)
        · refine ca_iload hX (q := 69) rfl rfl dX6_leftOut_67 ?_
          refine ca_istore_n hX (q := 70) 2 rfl (ls' := [_, _, _, _, _]) (Nat.le_of_ble_eq_true rfl) (Nat.le_of_ble_eq_true rfl) (Or.inr rfl) rfl rfl dX6_leftOut_69 ?_
          refine ca_aload_n hX (q := 71) 0 rfl rfl rfl dX6_leftOut_70 ?_
          refine ca_aload_n hX (q := 72) 0 rfl rfl rfl dX6_leftOut_71 ?_
          refine ca_getf hX (q := 75) cl_X6 0 (by decide) w_fl_X6_9 (by omega) c0 rfl rfl dX6_leftOut_72 ?_
          refine ca_cVi hX (q := 78) y_X6_burntWorth w_ml_X6_114 (by omega) hN c0 (c_X6_burntWorth l N g o M2 hm ho (o + 1) (M 0) c1 (by omega) (by omega)) (by decide) rfl (Nat.le_of_ble_eq_true rfl) rfl dX6_leftOut_75 rfl ?_
          rw [rf_w hrf, show wS (M 0) r1 (lvT P i).1 (lvT P i).2 0 = (lvV (M 0) P r1) i from rfl]
          refine ca_istore_n hX (q := 79) 3 rfl (ls' := [_, _, _, _, _]) (Nat.le_of_ble_eq_true rfl) (Nat.le_of_ble_eq_true rfl) (Or.inr rfl) rfl rfl dX6_leftOut_78 ?_
          refine ca_iinc hX (q := 82) (ls' := [_, _, _, _, _]) k_iconst_1 rfl (Nat.le_of_ble_eq_true rfl) (Or.inr rfl) rfl rfl dX6_leftOut_79 ?_
          refine ca_goto hX 21 rfl dX6_leftOut_82 ?_
          have e1 : mxF (-9, -1) (lvV (M 0) P r1) (i + 1) = (nI i, (lvV (M 0) P r1) i) := by rw [mxF, if_neg (Int32.not_le.mpr b61)]
          rw [nI_1]
          exact ca_drop hX (ca_le_s rfl (ca_le_s rfl (ca_le_s (by rw [e1]) (ca_le_s (by rw [e1]) (ca_le_s rfl ca_le_0))))) (ih (i + 1) _ M2 (by omega) hm hke hfr)
        · refine ca_goto hX 79 rfl dX6_leftOut_64 ?_
          refine ca_iinc hX (q := 82) (ls' := [_, _, _, _, _]) k_iconst_1 rfl (Nat.le_of_ble_eq_true rfl) (Or.inr rfl) rfl rfl dX6_leftOut_79 ?_
          refine ca_goto hX 21 rfl dX6_leftOut_82 ?_
          have e1 : mxF (-9, -1) (lvV (M 0) P r1) (i + 1) = mxF (-9, -1) (lvV (M 0) P r1) i := by rw [mxF, if_pos (Int32.not_lt.mp b61)]
          rw [nI_1]
          exact ca_drop hX (ca_le_s rfl (ca_le_s rfl (ca_le_s (by rw [e1]) (ca_le_s (by rw [e1]) (ca_le_s rfl ca_le_0))))) (ih (i + 1) _ M2 (by omega) hm hke hfr)
    refine ca_bipush hX (q := 15) k_bipush_m9 rfl dX6_leftOut_13 ?_
    refine ca_istore_n hX (q := 16) 2 rfl (ls' := [_, _, _, _, _]) (Nat.le_of_ble_eq_true rfl) (Nat.le_of_ble_eq_true rfl) (Or.inr rfl) rfl rfl dX6_leftOut_15 ?_
    refine ca_iconst hX (q := 17) k_iconst_m1 rfl dX6_leftOut_16 ?_
    refine ca_istore_n hX (q := 18) 3 rfl (ls' := [_, _, _, _, _]) (Nat.le_of_ble_eq_true rfl) (Nat.le_of_ble_eq_true rfl) (Or.inr rfl) rfl rfl dX6_leftOut_17 ?_
    refine ca_iconst hX (q := 19) k_iconst_0 rfl dX6_leftOut_18 ?_
    refine ca_istore hX (q := 21) (ls' := [_, _, _, _, _]) (Nat.le_of_ble_eq_true rfl) (Nat.le_of_ble_eq_true rfl) (Or.inr rfl) rfl rfl dX6_leftOut_19 ?_
    exact loop P 0 _ M (by omega) hm hke hfr
  · refine ca_aload_n hX (q := 8) 0 rfl rfl rfl dX6_leftOut_7 ?_
    refine ca_iconst hX (q := 9) k_iconst_m1 rfl dX6_leftOut_8 ?_
    refine ca_cV hX (q := 12) y_X6_no w_ml_X6_51 (by omega) hN c0 (c_X6_no l N g o _ hm ho (-1) 1 (by decide) (by omega)) (by decide) rfl (Nat.le_of_ble_eq_true rfl) rfl dX6_leftOut_9 rfl ?_
    rintro _ g ⟨rfl, hm, hf⟩
    have hke := keM.no hke 1
    have hfr := hfr.tr hf
    refine ca_iret hX rfl rfl rfl rfl dX6_leftOut_12 ?_
    exact re_end2 (by simp [loA, noA, nk1, nk2, nk3, nk4, nk6, z020, z021, z010, z011, b4]) hfr hm hke

def enT (P s j : Nat) : Nat × (Nat → Nat) := trM 0 P (bt (nI s)) j
def enV (h : Nat → Int32) (P r s : Nat) : Int32 := wS h r (enT P s P).1 (enT P s P).2 0
def enF (v : Nat → Int32) (b : Int32) (e : Nat) : Nat → Nat
  | 0 => e
  | n + 1 => if bcI (nI n) < bcI (nI (enF v b e n)) then (if b < v n then enF v b e n else n) else enF v b e n
def enA (M : Nat → Nat → Int32) (P : Nat) (x : Int32) : An := if rmB x = 0 then noA M 1 else (nI (enF (enV (M 0) P x.toNatClampNeg) (wA (M 0) P x.toNatClampNeg 0) (2 ^ P - 1) (2 ^ P - 1)), M)
theorem en_le (v : Nat → Int32) (b : Int32) (e : Nat) : ∀ n, n ≤ e + 1 → enF v b e n ≤ e
  | 0, _ => Nat.le_refl _
  | n + 1, h => by
    have := en_le v b e n (by omega)
    rw [enF]
    split
    · split <;> omega
    · omega
theorem all_n : ∀ P, P ≤ 5 → (1 : Int32) <<< (nI P &&& 31) - 1 = nI (2 ^ P - 1) ∧ 2 ^ P - 1 ≤ 31 ∧ (1 : Int32) <<< (nI P &&& 31) = nI (2 ^ P - 1 + 1) := by decide
theorem en_top : ∀ P, P ≤ 5 → ∀ f, f ≤ 2 ^ P - 1 → ¬ bcI (nI (2 ^ P - 1)) < bcI (nI f) := by decide +kernel
theorem bits_eq : ∀ n, n < 32 → smI (fun k => (nI n >>> (nI k &&& 31)) &&& 1) 10 = bcI (nI n) := by decide +kernel
theorem b_tst0 {x : Int32} {r : Nat} (hr : r < 32) (h : (x >>> (nI r &&& 31)) &&& 1 = 0) : bt x r = false := by
  rcases hb : bt x r with _ | _
  · rfl
  · rw [(b_tst hr).mpr hb] at h; exact absurd h (by decide)
theorem b_tst1 {x : Int32} {r : Nat} (hr : r < 32) (h : ¬ (x >>> (nI r &&& 31)) &&& 1 = 0) : bt x r = true := by
  rcases hb : bt x r with _ | _
  · exfalso
    apply h
    apply b_ext
    intro i hi
    rw [b_and, b_1, b_0, b_sshr r hr x hi]
    by_cases z : i = 0
    · rw [z, if_pos (by omega), Nat.add_zero, hb]; rfl
    · rw [decide_eq_false z, Bool.and_false]
  · rfl
theorem en_lt5 {P : Nat} (hP5 : P ≤ 5) (s : Nat) : (enT P s P).1 ≤ 5 ∧ ∀ j, j < (enT P s P).1 → (enT P s P).2 j < 5 := by
  have hle : (enT P s P).1 ≤ P := tr_le 0 P _ P
  refine ⟨by omega, fun j hj => ?_⟩
  have : (enT P s P).2 j < P := tr_lt (show 0 < P by omega) P j hj
  omega

set_option maxRecDepth 100000 in
set_option maxHeartbeats 4000000 in
theorem c_X6_bits (l : Launch) (N : Nat) (g : ca_G) (x : Int32) : ca_Ct l yX6_bits cX6_bits 3 (some .int) 0 0 0 N 1000000 [.int x] g (ca_pi (smI (fun k => (x >>> (nI k &&& 31)) &&& 1) 10) g) := by
  refine ca_intro (by decide) (Nat.le_of_ble_eq_true rfl) (fun X hX hN => ?_)
  show X 0 [_, none, none] [] N 1000000 g
  have loop : ∀ (n i : Nat), i + n = 10 → X 4 [some (.int x), some (.int (smI (fun k => (x >>> (nI k &&& 31)) &&& 1) i)), some (.int (nI i))] [] N 1000000 g := by
    intro n
    induction n with
    | zero =>
      intro i  hi 
      have hib : i = 10 := by omega
      rw [hib]
      refine ca_iload_n hX (q := 5) 2 rfl rfl rfl dX6_bits_4 ?_
      refine ca_bipush hX (q := 7) k_bipush_10 rfl dX6_bits_5 ?_
      refine ca_icmp_ge hX (q := 10) 24 rfl rfl dX6_bits_7 (fun _ => ?_) (fun z => absurd (by decide) z)
      refine ca_iload_n hX (q := 25) 1 rfl rfl rfl dX6_bits_24 ?_
      refine ca_iret hX rfl rfl rfl rfl dX6_bits_25 ?_
      exact ⟨rfl, rfl⟩
    | succ n ih =>
      intro i  hi 
      refine ca_iload_n hX (q := 5) 2 rfl rfl rfl dX6_bits_4 ?_
      refine ca_bipush hX (q := 7) k_bipush_10 rfl dX6_bits_5 ?_
      refine ca_icmp_ge hX (q := 10) 24 rfl rfl dX6_bits_7 (fun z => absurd z (nI_ge (a := i) (b := 10) (by omega) (by omega))) (fun _ => ?_)
      refine ca_iload_n hX (q := 11) 1 rfl rfl rfl dX6_bits_10 ?_
      refine ca_iload_n hX (q := 12) 0 rfl rfl rfl dX6_bits_11 ?_
      refine ca_iload_n hX (q := 13) 2 rfl rfl rfl dX6_bits_12 ?_
      refine ca_ishr hX (q := 14) rfl dX6_bits_13 ?_
      refine ca_iconst hX (q := 15) k_iconst_1 rfl dX6_bits_14 ?_
      refine ca_iand hX (q := 16) rfl dX6_bits_15 ?_
      refine ca_iadd hX (q := 17) rfl dX6_bits_16 ?_
      refine ca_istore_n hX (q := 18) 1 rfl (ls' := [_, _, _]) (Nat.le_of_ble_eq_true rfl) (Nat.le_of_ble_eq_true rfl) (Or.inr rfl) rfl rfl dX6_bits_17 ?_
      refine ca_iinc hX (q := 21) (ls' := [_, _, _]) k_iconst_1 rfl (Nat.le_of_ble_eq_true rfl) (Or.inr rfl) rfl rfl dX6_bits_18 ?_
      refine ca_goto hX 4 rfl dX6_bits_21 ?_
      rw [nI_1]
      exact ih (i + 1) (by omega)
  refine ca_iconst hX (q := 1) k_iconst_0 rfl dX6_bits_0 ?_
  refine ca_istore_n hX (q := 2) 1 rfl (ls' := [_, _, _]) (Nat.le_of_ble_eq_true rfl) (Nat.le_of_ble_eq_true rfl) (Or.inr rfl) rfl rfl dX6_bits_1 ?_
  refine ca_iconst hX (q := 3) k_iconst_0 rfl dX6_bits_2 ?_
  refine ca_istore_n hX (q := 4) 2 rfl (ls' := [_, _, _]) (Nat.le_of_ble_eq_true rfl) (Nat.le_of_ble_eq_true rfl) (Or.inr rfl) rfl rfl dX6_bits_3 ?_
  exact loop 10 0 (by omega)

set_option maxRecDepth 100000 in
set_option maxHeartbeats 4000000 in
theorem k_enough (l : Launch) (N : Nat) (g0 : ca_G) (M : Nat → Nat → Int32) (t : Nat → Int32) (B : Nat → Nat → Int32) (hx : clX g0 M t B) (hN31 : 31 ≤ N) (P : Nat) (w : wfH (M 0) P) (x1 : Int32) : ca_Ct l yX5_enough cX5_enough 6 (some .int) 6 0 0 N 1000000 [.ref 0, .int x1] g0 (clP g0 (enA M P x1)) := by
  refine ca_intro (by decide) (Nat.le_of_ble_eq_true rfl) (fun X hX hN => ?_)
  show X 0 [_, _, none, none, none, none] [] N 1000000 g0
  obtain ⟨g, hgg⟩ : ∃ g, g = g0 := ⟨g0, rfl⟩
  rw [← hgg] at hx ⊢
  have hfr : frG g0 g 0 31 := by rw [hgg]; exact frG.rf
  obtain ⟨hc, hh, hkp, htr, hz, htl, hlt, hrw, h30⟩ := id hx
  have h0 := hh.1
  have k0 := hkp.1
  have t0 := htr.1
  have d0 := hz.1
  have l0 := hlt.1
  have w0 := hrw.1
  have hP := w.1
  have hP5 := w.2.1
  have hok := wf_ok w
  refine ca_iload_n hX (q := 1) 1 rfl rfl rfl dX5_enough_0 ?_
  refine ca_cSi hX (q := 4) y_X5_isRoom w_ml_X5_78 hN (c_X5_isRoom l N g _) (by decide) rfl (Nat.le_of_ble_eq_true rfl) rfl dX5_enough_1 rfl ?_
  refine ca_if_ne hX (q := 7) 13 rfl rfl dX5_enough_4 (fun c4 => ?_) (fun c4 => ?_)
  · obtain ⟨r1, hr1, rfl⟩ := rm_ok c4
    have er1 := nI_clamp (n := r1) (by omega)
    refine ca_aload_n hX (q := 14) 0 rfl rfl rfl dX5_enough_13 ?_
    refine ca_aload_n hX (q := 15) 0 rfl rfl rfl dX5_enough_14 ?_
    refine ca_getf hX (q := 18) cl_X5 0 (by decide) w_fl_X5_10 (by omega) hc rfl rfl dX5_enough_15 ?_
    refine ca_iload_n hX (q := 19) 1 rfl rfl rfl dX5_enough_18 ?_
    refine ca_cV hX (q := 22) y_X5_worthIn w_ml_X5_171 (by omega) hN hc (c_X5_worthIn l N g _ hc hN31 B hz 1 (M 0) hh (by omega) (by omega) P hP hP5 hok r1 hr1) (by decide) rfl (Nat.le_of_ble_eq_true rfl) rfl dX5_enough_19 rfl ?_
    rintro _ g ⟨rfl, hf, B, hz, hlo, hsp, hfd⟩
    have hx := hx.bz hf hz
    have hfr := hfr.tr (hf.wd (by omega) (by omega))
    obtain ⟨hc, hh, hkp, htr, hz, htl, hlt, hrw, h30⟩ := id hx
    have h0 := hh.1
    have k0 := hkp.1
    have t0 := htr.1
    have d0 := hz.1
    have l0 := hlt.1
    have w0 := hrw.1
    refine ca_istore_n hX (q := 23) 2 rfl (ls' := [_, _, _, _, _, _]) (Nat.le_of_ble_eq_true rfl) (Nat.le_of_ble_eq_true rfl) (Or.inr rfl) rfl rfl dX5_enough_22 ?_
    refine ca_iconst hX (q := 24) k_iconst_1 rfl dX5_enough_23 ?_
    refine ca_aload_n hX (q := 25) 0 rfl rfl rfl dX5_enough_24 ?_
    refine ca_getf hX (q := 28) cl_X5 0 (by decide) w_fl_X5_10 (by omega) hc rfl rfl dX5_enough_25 ?_
    refine ca_getN hX (q := 31) cl_X1 4 (by decide) w_fn_X5_153 (by omega) h0 rfl rfl dX5_enough_28 ?_
    rw [hP]
    refine ca_ishl hX (q := 32) rfl dX5_enough_31 ?_
    refine ca_iconst hX (q := 33) k_iconst_1 rfl dX5_enough_32 ?_
    refine ca_isub hX (q := 34) rfl dX5_enough_33 ?_
    obtain ⟨E, hEq, hE31, hEv, hEw⟩ : ∃ E, E = 2 ^ P - 1 ∧ E ≤ 31 ∧ (1 : Int32) <<< (nI P &&& 31) - 1 = nI E ∧ (1 : Int32) <<< (nI P &&& 31) = nI (E + 1) := ⟨2 ^ P - 1, rfl, (all_n P hP5).2.1, (all_n P hP5).1, (all_n P hP5).2.2⟩
    rw [hEv]
    refine ca_istore_n hX (q := 35) 3 rfl (ls' := [_, _, _, _, _, _]) (Nat.le_of_ble_eq_true rfl) (Nat.le_of_ble_eq_true rfl) (Or.inr rfl) rfl rfl dX5_enough_34 ?_
    refine ca_iload_n hX (q := 36) 3 rfl rfl rfl dX5_enough_35 ?_
    refine ca_istore hX (q := 38) (ls' := [_, _, _, _, _, _]) (Nat.le_of_ble_eq_true rfl) (Nat.le_of_ble_eq_true rfl) (Or.inr rfl) rfl rfl dX5_enough_36 ?_
    have loop : ∀ (n i : Nat) (g1 : ca_G) (B1 : Nat → Nat → Int32), i + n = E → clX g1 M t B1 → loM B1 (M 0) P → frG g0 g1 0 31 → X 41 [some (.ref 0), some (.int (nI r1)), some (.int (wA (M 0) P r1 0)), some (.int (nI E)), some (.int (nI (enF (enV (M 0) P r1) (wA (M 0) P r1 0) E i))), some (.int (nI i))] [] N 1000000 g1 := by
      intro n
      induction n with
      | zero =>
        intro i g B hi hx hlo hfr
        have hib : i = E := by omega
        rw [hib]
        obtain ⟨hc, hh, hkp, htr, hz, htl, hlt, hrw, h30⟩ := id hx
        have h0 := hh.1
        have k0 := hkp.1
        have t0 := htr.1
        have d0 := hz.1
        have l0 := hlt.1
        have w0 := hrw.1
        refine ca_iload hX (q := 43) rfl rfl dX5_enough_41 ?_
        refine ca_iload_n hX (q := 44) 3 rfl rfl rfl dX5_enough_43 ?_
        refine ca_icmp_ge hX (q := 47) 81 rfl rfl dX5_enough_44 (fun _ => ?_) (fun z => absurd (nI_le (Nat.le_refl _) (by omega)) z)
        refine ca_iload hX (q := 83) rfl rfl dX5_enough_81 ?_
        refine ca_iret hX rfl rfl rfl rfl dX5_enough_83 ?_
        rw [hEq]
        exact cl_end (by simp [enA, c4, er1]) hfr hx
      | succ n ih =>
        intro i g B hi hx hlo hfr
        obtain ⟨hc, hh, hkp, htr, hz, htl, hlt, hrw, h30⟩ := id hx
        have h0 := hh.1
        have k0 := hkp.1
        have t0 := htr.1
        have d0 := hz.1
        have l0 := hlt.1
        have w0 := hrw.1
        refine ca_iload hX (q := 43) rfl rfl dX5_enough_41 ?_
        refine ca_iload_n hX (q := 44) 3 rfl rfl rfl dX5_enough_43 ?_
        refine ca_icmp_ge hX (q := 47) 81 rfl rfl dX5_enough_44 (fun z => absurd z (nI_ge (a := i) (b := E) (by omega) (by omega))) (fun _ => ?_)
        refine ca_iload hX (q := 49) rfl rfl dX5_enough_47 ?_
        refine ca_cSi hX (q := 52) y_J6_bitCount_0f7a4 w_ml_X5_175 hN (c_J6_bitCount l N g _) (by decide) rfl (Nat.le_of_ble_eq_true rfl) rfl dX5_enough_49 rfl ?_
        refine ca_iload hX (q := 54) rfl rfl dX5_enough_52 ?_
        refine ca_cSi hX (q := 57) y_J6_bitCount_0f7a4 w_ml_X5_175 hN (c_J6_bitCount l N g _) (by decide) rfl (Nat.le_of_ble_eq_true rfl) rfl dX5_enough_54 rfl ?_
        refine ca_icmp_ge hX (q := 60) 75 rfl rfl dX5_enough_57 (fun c57 => ?_) (fun c57 => ?_)
        · refine ca_iinc hX (q := 78) (ls' := [_, _, _, _, _, _]) k_iconst_1 rfl (Nat.le_of_ble_eq_true rfl) (Or.inr rfl) rfl rfl dX5_enough_75 ?_
          refine ca_goto hX 41 rfl dX5_enough_78 ?_
          have e1 : (enF (enV (M 0) P r1) (wA (M 0) P r1 0) E (i + 1)) = (enF (enV (M 0) P r1) (wA (M 0) P r1 0) E i) := by rw [enF, if_neg (Int32.not_lt.mpr c57)]
          rw [nI_1]
          exact ca_drop hX (ca_le_s rfl (ca_le_s rfl (ca_le_s rfl (ca_le_s rfl (ca_le_s (by rw [e1]) (ca_le_s rfl ca_le_0)))))) (ih (i + 1) _ B (by omega) hx hlo hfr)
        · refine ca_aload_n hX (q := 61) 0 rfl rfl rfl dX5_enough_60 ?_
          refine ca_iload_n hX (q := 62) 1 rfl rfl rfl dX5_enough_61 ?_
          refine ca_iload hX (q := 64) rfl rfl dX5_enough_62 ?_
          refine ca_cV hX (q := 67) y_X5_worthWithOnly w_ml_X5_162 (by omega) hN hc (c_X5_worthWithOnly l N g _ hc hN31 B hz (M 0) P hlo hP5 hok r1 hr1 (nI i)) (by decide) rfl (Nat.le_of_ble_eq_true rfl) rfl dX5_enough_64 rfl ?_
          rintro _ g ⟨rfl, hf, B, hz, hlo, hsp, hfd⟩
          have hx := hx.bz hf hz
          have hfr := hfr.tr (hf.wd (by omega) (by omega))
          obtain ⟨hc, hh, hkp, htr, hz, htl, hlt, hrw, h30⟩ := id hx
          have h0 := hh.1
          have k0 := hkp.1
          have t0 := htr.1
          have d0 := hz.1
          have l0 := hlt.1
          have w0 := hrw.1
          refine ca_iload_n hX (q := 68) 2 rfl rfl rfl dX5_enough_67 ?_
          rw [show wS (M 0) r1 (trM 0 P (bt (nI i)) P).1 (trM 0 P (bt (nI i)) P).2 0 = (enV (M 0) P r1) i from rfl]
          refine ca_icmp_gt hX (q := 71) 75 rfl rfl dX5_enough_68 (fun c68 => ?_) (fun c68 => ?_)
          · refine ca_iinc hX (q := 78) (ls' := [_, _, _, _, _, _]) k_iconst_1 rfl (Nat.le_of_ble_eq_true rfl) (Or.inr rfl) rfl rfl dX5_enough_75 ?_
            refine ca_goto hX 41 rfl dX5_enough_78 ?_
            have e1 : (enF (enV (M 0) P r1) (wA (M 0) P r1 0) E (i + 1)) = (enF (enV (M 0) P r1) (wA (M 0) P r1 0) E i) := by rw [enF, if_pos (Int32.not_le.mp c57), if_pos c68]
            rw [nI_1]
            exact ca_drop hX (ca_le_s rfl (ca_le_s rfl (ca_le_s rfl (ca_le_s rfl (ca_le_s (by rw [e1]) (ca_le_s rfl ca_le_0)))))) (ih (i + 1) _ B (by omega) hx hlo hfr)
          · refine ca_iload hX (q := 73) rfl rfl dX5_enough_71 ?_
            refine ca_istore hX (q := 75) (ls' := [_, _, _, _, _, _]) (Nat.le_of_ble_eq_true rfl) (Nat.le_of_ble_eq_true rfl) (Or.inr rfl) rfl rfl dX5_enough_73 ?_
            refine ca_iinc hX (q := 78) (ls' := [_, _, _, _, _, _]) k_iconst_1 rfl (Nat.le_of_ble_eq_true rfl) (Or.inr rfl) rfl rfl dX5_enough_75 ?_
            refine ca_goto hX 41 rfl dX5_enough_78 ?_
            have e1 : (enF (enV (M 0) P r1) (wA (M 0) P r1 0) E (i + 1)) = i := by rw [enF, if_pos (Int32.not_le.mp c57), if_neg c68]
            rw [nI_1]
            exact ca_drop hX (ca_le_s rfl (ca_le_s rfl (ca_le_s rfl (ca_le_s rfl (ca_le_s (by rw [e1]) (ca_le_s rfl ca_le_0)))))) (ih (i + 1) _ B (by omega) hx hlo hfr)
    refine ca_iconst hX (q := 39) k_iconst_0 rfl dX5_enough_38 ?_
    refine ca_istore hX (q := 41) (ls' := [_, _, _, _, _, _]) (Nat.le_of_ble_eq_true rfl) (Nat.le_of_ble_eq_true rfl) (Or.inr rfl) rfl rfl dX5_enough_39 ?_
    exact loop E 0 _ B (by omega) hx hlo hfr
  · refine ca_aload_n hX (q := 8) 0 rfl rfl rfl dX5_enough_7 ?_
    refine ca_iconst hX (q := 9) k_iconst_m1 rfl dX5_enough_8 ?_
    refine ca_cV hX (q := 12) y_X5_refuse w_ml_X5_53 (by omega) hN hc (c_X5_refuse l N g _ hc hN31 (M 6) h30 (-1) 1 (by decide) (by omega) (by omega)) (by decide) rfl (Nat.le_of_ble_eq_true rfl) rfl dX5_enough_9 rfl ?_
    rintro _ g ⟨rfl, h30, hf⟩
    have hx := hx.rf hf h30
    have hfr := hfr.tr (hf.wd (by omega) (by omega))
    refine ca_iret hX rfl rfl rfl rfl dX5_enough_12 ?_
    exact cl_end (by simp [enA, noA, nk1, nk2, nk3, nk4, nk6, c4]) hfr hx

set_option maxRecDepth 100000 in
set_option maxHeartbeats 4000000 in
theorem m_enough (l : Launch) (N : Nat) (g0 : ca_G) (o : Nat) (M : Nat → Nat → Int32) (hm : mdG g0 o M) (ho : o + 14 ≤ N) (hs4 : M 13 4 = 0) (P : Nat) (w : wfH (M 0) P) (x1 : Int32) : ca_Ct l yX6_enough cX6_enough 6 (some .int) 5 0 0 N 1000000 [.ref o, .int x1] g0 (reP o g0 (enA M P x1)) := by
  refine ca_intro (by decide) (Nat.le_of_ble_eq_true rfl) (fun X hX hN => ?_)
  show X 0 [_, _, none, none, none, none] [] N 1000000 g0
  obtain ⟨g, hgg⟩ : ∃ g, g = g0 := ⟨g0, rfl⟩
  rw [← hgg] at hm ⊢
  have hfr : frG g0 g o (o + 14) := by rw [hgg]; exact frG.rf
  have hke := keM.rf hs4
  obtain ⟨c0, c1, c2, c3, c4, c5, c6, c7, c8, c9, c10, c11, c12, c13⟩ := id hm
  have hP := w.1
  have hP5 := w.2.1
  have hok := wf_ok w
  refine ca_iload_n hX (q := 1) 1 rfl rfl rfl dX6_enough_0 ?_
  refine ca_cSi hX (q := 4) y_X6_isRoom w_ml_X6_138 hN (c_R_isRoom l N g _) (by decide) rfl (Nat.le_of_ble_eq_true rfl) rfl dX6_enough_1 rfl ?_
  refine ca_if_ne hX (q := 7) 13 rfl rfl dX6_enough_4 (fun b4 => ?_) (fun b4 => ?_)
  · obtain ⟨r1, hr1, rfl⟩ := rm_ok b4
    have er1 := nI_clamp (n := r1) (by omega)
    refine ca_aload_n hX (q := 14) 0 rfl rfl rfl dX6_enough_13 ?_
    refine ca_aload_n hX (q := 15) 0 rfl rfl rfl dX6_enough_14 ?_
    refine ca_getf hX (q := 18) cl_X6 0 (by decide) w_fl_X6_9 (by omega) c0 rfl rfl dX6_enough_15 ?_
    refine ca_iload_n hX (q := 19) 1 rfl rfl rfl dX6_enough_18 ?_
    refine ca_iconst hX (q := 20) k_iconst_0 rfl dX6_enough_19 ?_
    refine ca_cV hX (q := 23) y_X6_worthBy w_ml_X6_171 (by omega) hN c0 (c_X6_worthBy l N g o M hm ho (o + 1) (M 0) c1 (by omega) (by omega) P hP hP5 hok r1 hr1 0 (by omega)) (by decide) rfl (Nat.le_of_ble_eq_true rfl) rfl dX6_enough_20 rfl ?_
    rintro _ g ⟨rfl, hf, M1, hm, hrf, e4, ej, e13⟩
    have hke := hke.tr (ke_bu e4 ej e13)
    have hfr := hfr.tr hf
    obtain ⟨c0, c1, c2, c3, c4, c5, c6, c7, c8, c9, c10, c11, c12, c13⟩ := id hm
    rw [hke.1] at c1
    refine ca_istore_n hX (q := 24) 2 rfl (ls' := [_, _, _, _, _, _]) (Nat.le_of_ble_eq_true rfl) (Nat.le_of_ble_eq_true rfl) (Or.inr rfl) rfl rfl dX6_enough_23 ?_
    refine ca_iconst hX (q := 25) k_iconst_1 rfl dX6_enough_24 ?_
    refine ca_aload_n hX (q := 26) 0 rfl rfl rfl dX6_enough_25 ?_
    refine ca_getf hX (q := 29) cl_X6 0 (by decide) w_fl_X6_9 (by omega) c0 rfl rfl dX6_enough_26 ?_
    refine ca_iconst hX (q := 30) k_iconst_0 rfl dX6_enough_29 ?_
    refine ca_iaN hX (q := 31) (k := 0) (by omega) c1 (by decide) (by decide) (by decide) rfl dX6_enough_30 ?_
    rw [hP]
    refine ca_ishl hX (q := 32) rfl dX6_enough_31 ?_
    refine ca_iconst hX (q := 33) k_iconst_1 rfl dX6_enough_32 ?_
    refine ca_isub hX (q := 34) rfl dX6_enough_33 ?_
    obtain ⟨E, hEq, hE31, hEv, hEw⟩ : ∃ E, E = 2 ^ P - 1 ∧ E ≤ 31 ∧ (1 : Int32) <<< (nI P &&& 31) - 1 = nI E ∧ (1 : Int32) <<< (nI P &&& 31) = nI (E + 1) := ⟨2 ^ P - 1, rfl, (all_n P hP5).2.1, (all_n P hP5).1, (all_n P hP5).2.2⟩
    rw [hEv]
    refine ca_istore_n hX (q := 35) 3 rfl (ls' := [_, _, _, _, _, _]) (Nat.le_of_ble_eq_true rfl) (Nat.le_of_ble_eq_true rfl) (Or.inr rfl) rfl rfl dX6_enough_34 ?_
    have loop : ∀ (n i : Nat) (g1 : ca_G) (M1 : Nat → Nat → Int32), i + n = E + 1 → mdG g1 o M1 → keM M M1 → frG g0 g1 o (o + 14) → X 38 [some (.ref o), some (.int (nI r1)), some (.int (wA (M 0) P r1 0)), some (.int (nI (enF (enV (M 0) P r1) (wA (M 0) P r1 0) E i))), some (.int (nI i)), none] [] N 1000000 g1 := by
      intro n
      induction n with
      | zero =>
        intro i g M1 hi hm hke hfr
        have hib : i = E + 1 := by omega
        rw [hib]
        obtain ⟨c0, c1, c2, c3, c4, c5, c6, c7, c8, c9, c10, c11, c12, c13⟩ := id hm
        rw [hke.1] at c1
        refine ca_iload hX (q := 40) rfl rfl dX6_enough_38 ?_
        refine ca_iconst hX (q := 41) k_iconst_1 rfl dX6_enough_40 ?_
        refine ca_aload_n hX (q := 42) 0 rfl rfl rfl dX6_enough_41 ?_
        refine ca_getf hX (q := 45) cl_X6 0 (by decide) w_fl_X6_9 (by omega) c0 rfl rfl dX6_enough_42 ?_
        refine ca_iconst hX (q := 46) k_iconst_0 rfl dX6_enough_45 ?_
        refine ca_iaN hX (q := 47) (k := 0) (by omega) c1 (by decide) (by decide) (by decide) rfl dX6_enough_46 ?_
        rw [hP]
        refine ca_ishl hX (q := 48) rfl dX6_enough_47 ?_
        rw [hEw]
        refine ca_icmp_ge hX (q := 51) 155 rfl rfl dX6_enough_48 (fun _ => ?_) (fun z => absurd (nI_le (Nat.le_refl _) (by omega)) z)
        refine ca_iload_n hX (q := 156) 3 rfl rfl rfl dX6_enough_155 ?_
        refine ca_iret hX rfl rfl rfl rfl dX6_enough_156 ?_
        rw [show (enF (enV (M 0) P r1) (wA (M 0) P r1 0) E (E + 1)) = (enF (enV (M 0) P r1) (wA (M 0) P r1 0) E E) by rw [enF, if_neg (by rw [hEq]; exact en_top P hP5 _ (en_le _ _ _ _ (by omega)))], hEq]
        exact re_end2 (by simp [enA, b4, er1]) hfr hm hke
      | succ n ih =>
        intro i g M1 hi hm hke hfr
        obtain ⟨c0, c1, c2, c3, c4, c5, c6, c7, c8, c9, c10, c11, c12, c13⟩ := id hm
        rw [hke.1] at c1
        refine ca_iload hX (q := 40) rfl rfl dX6_enough_38 ?_
        refine ca_iconst hX (q := 41) k_iconst_1 rfl dX6_enough_40 ?_
        refine ca_aload_n hX (q := 42) 0 rfl rfl rfl dX6_enough_41 ?_
        refine ca_getf hX (q := 45) cl_X6 0 (by decide) w_fl_X6_9 (by omega) c0 rfl rfl dX6_enough_42 ?_
        refine ca_iconst hX (q := 46) k_iconst_0 rfl dX6_enough_45 ?_
        refine ca_iaN hX (q := 47) (k := 0) (by omega) c1 (by decide) (by decide) (by decide) rfl dX6_enough_46 ?_
        rw [hP]
        refine ca_ishl hX (q := 48) rfl dX6_enough_47 ?_
        rw [hEw]
        refine ca_icmp_ge hX (q := 51) 155 rfl rfl dX6_enough_48 (fun z => absurd z (nI_ge (a := i) (b := E + 1) (by omega) (by omega))) (fun _ => ?_)
        refine ca_iload hX (q := 53) rfl rfl dX6_enough_51 ?_
        have hfe := en_le (enV (M 0) P r1) (wA (M 0) P r1 0) E i (by omega)
        refine ca_cSi hX (q := 56) y_X6_bits w_ml_X6_175 hN (c_X6_bits l N g _) (by decide) rfl (Nat.le_of_ble_eq_true rfl) rfl dX6_enough_53 rfl ?_
        refine ca_iload_n hX (q := 57) 3 rfl rfl rfl dX6_enough_56 ?_
        refine ca_cSi hX (q := 60) y_X6_bits w_ml_X6_175 hN (c_X6_bits l N g _) (by decide) rfl (Nat.le_of_ble_eq_true rfl) rfl dX6_enough_57 rfl ?_
        have hbq : bcI (nI i) < bcI (nI (enF (enV (M 0) P r1) (wA (M 0) P r1 0) E i)) ↔ bcI (nI i) < bcI (nI (enF (enV (M 0) P r1) (wA (M 0) P r1 0) E i)) := Iff.rfl
        rw [bits_eq i (by omega), bits_eq (enF (enV (M 0) P r1) (wA (M 0) P r1 0) E i) (by omega)]
        refine ca_icmp_lt hX (q := 63) 66 rfl rfl dX6_enough_60 (fun b60 => ?_) (fun b60 => ?_)
        · refine ca_aload_n hX (q := 67) 0 rfl rfl rfl dX6_enough_66 ?_
          refine ca_iconst hX (q := 68) k_iconst_0 rfl dX6_enough_67 ?_
          refine ca_puti hX (q := 71) (fs' := [_, _, _, _, _, _, _, _, _, _, _, _, _, _, _, _, _, _, _, _]) cl_X6 15 (by decide) w_fl_X6_96 rfl rfl (by omega) hN c0 (Nat.le_of_ble_eq_true rfl) rfl rfl dX6_enough_68 (fun g hE hF => ?_)
          have hm := md_s3 hm hE hF
          obtain ⟨c0, c1, c2, c3, c4, c5, c6, c7, c8, c9, c10, c11, c12, c13⟩ := id hm
          have hfr := frG.tr hfr (fun j hj => hF j (by omega))
          have hke := hke.up (k := 3) 0 (by omega) (by omega)
          have loop2 : ∀ (n2 j : Nat) (g1 : ca_G) (M1 : Nat → Nat → Int32), j + n2 = P → mdG g1 o M1 → keM M M1 → frG g0 g1 o (o + 14) → M1 13 3 = nI (enT P i j).1 → (∀ q, q < (enT P i j).1 → M1 11 q = nI ((enT P i j).2 q)) → X 74 [some (.ref o), some (.int (nI r1)), some (.int (wA (M 0) P r1 0)), some (.int (nI (enF (enV (M 0) P r1) (wA (M 0) P r1 0) E i))), some (.int (nI i)), some (.int (nI j))] [] N 1000000 g1 := by
            intro n2
            induction n2 with
            | zero =>
              intro j g M1 hj hm hke hfr h13 h11
              have hjb : j = P := by omega
              rw [hjb]
              obtain ⟨c0, c1, c2, c3, c4, c5, c6, c7, c8, c9, c10, c11, c12, c13⟩ := id hm
              rw [hke.1] at c1
              rw [hjb] at h13 h11
              refine ca_iload hX (q := 76) rfl rfl dX6_enough_74 ?_
              refine ca_aload_n hX (q := 77) 0 rfl rfl rfl dX6_enough_76 ?_
              refine ca_getf hX (q := 80) cl_X6 0 (by decide) w_fl_X6_9 (by omega) c0 rfl rfl dX6_enough_77 ?_
              refine ca_iconst hX (q := 81) k_iconst_0 rfl dX6_enough_80 ?_
              refine ca_iaN hX (q := 82) (k := 0) (by omega) c1 (by decide) (by decide) (by decide) rfl dX6_enough_81 ?_
              refine ca_icmp_ge hX (q := 85) 125 rfl rfl dX6_enough_82 (fun _ => ?_) (fun z => absurd (by rw [hP]; exact nI_le (Nat.le_refl _) (by omega)) z)
              refine ca_aload_n hX (q := 126) 0 rfl rfl rfl dX6_enough_125 ?_
              refine ca_aload_n hX (q := 127) 0 rfl rfl rfl dX6_enough_126 ?_
              refine ca_getf hX (q := 130) cl_X6 0 (by decide) w_fl_X6_9 (by omega) c0 rfl rfl dX6_enough_127 ?_
              refine ca_iload_n hX (q := 131) 1 rfl rfl rfl dX6_enough_130 ?_
              refine ca_cV hX (q := 134) y_X6_burns w_ml_X6_110 (by omega) hN c0 (c_X6_burns l N g o _ hm ho (o + 1) (M 0) c1 (by omega) (by omega) (catS (M 0)) (cat_S (M 0)) (tmM (ctS (M 0)) (1 <<< (nI r1 &&& 31))) (fun _ => True) r1 hr1 (tt_ok (ms_S (M 0)) (fun r _ => cat_le (M 0) r) hr1) (enT P i P).1 (enT P i P).2 0 h13 (en_lt5 hP5 i).1 (fun q hq => ⟨h11 q hq, (en_lt5 hP5 i).2 q hq⟩) hke.2.2.2.2.2.2.2.2) (by decide) rfl (Nat.le_of_ble_eq_true rfl) rfl dX6_enough_131 rfl ?_
              rintro _ g ⟨rfl, hf, M2, hm, e2, e7, e9, e10, _⟩
              have hrf : rfM M2 (M 0) r1 (enT P i P).1 (enT P i P).2 0 := by
                obtain ⟨k1, k2, k3⟩ := re_end (h := M 0) (tn := (enT P i P).1) hr1 (tu := (enT P i P).2) 0 hok _ _ (fun r hr => cp_m9 (M1 9) hr) (fun r hr => cp_m9 (M1 10) hr)
                exact fun q hq => ⟨(e7 q hq).trans (k1 q hq), (congrFun e9 q).trans (k2 q hq), (congrFun e10 q).trans (k3 q hq)⟩
              have hfr := hfr.tr hf
              have hke := hke.b2 e2
              obtain ⟨c0, c1, c2, c3, c4, c5, c6, c7, c8, c9, c10, c11, c12, c13⟩ := id hm
              rw [hke.1] at c1
              refine ca_aload_n hX (q := 135) 0 rfl rfl rfl dX6_enough_134 ?_
              refine ca_aload_n hX (q := 136) 0 rfl rfl rfl dX6_enough_135 ?_
              refine ca_getf hX (q := 139) cl_X6 0 (by decide) w_fl_X6_9 (by omega) c0 rfl rfl dX6_enough_136 ?_
              refine ca_cVi hX (q := 142) y_X6_burntWorth w_ml_X6_114 (by omega) hN c0 (c_X6_burntWorth l N g o M2 hm ho (o + 1) (M 0) c1 (by omega) (by omega)) (by decide) rfl (Nat.le_of_ble_eq_true rfl) rfl dX6_enough_139 rfl ?_
              rw [rf_w hrf, show wS (M 0) r1 (enT P i P).1 (enT P i P).2 0 = (enV (M 0) P r1) i from rfl]
              refine ca_iload_n hX (q := 143) 2 rfl rfl rfl dX6_enough_142 ?_
              refine ca_icmp_gt hX (q := 146) 149 rfl rfl dX6_enough_143 (fun b143 => ?_) (fun b143 => ?_)
              · refine ca_iinc hX (q := 152) (ls' := [_, _, _, _, _, _]) k_iconst_1 rfl (Nat.le_of_ble_eq_true rfl) (Or.inr rfl) rfl rfl dX6_enough_149 ?_
                refine ca_goto hX 38 rfl dX6_enough_152 ?_
                have e1 : (enF (enV (M 0) P r1) (wA (M 0) P r1 0) E (i + 1)) = (enF (enV (M 0) P r1) (wA (M 0) P r1 0) E i) := by rw [enF, if_pos (hbq.mp b60), if_pos b143]
                rw [nI_1]
                exact ca_drop hX (ca_le_s rfl (ca_le_s rfl (ca_le_s rfl (ca_le_s (by rw [e1]) (ca_le_s rfl (ca_le_n ca_le_0)))))) (ih (i + 1) _ M2 (by omega) hm hke hfr)
              · refine ca_iload hX (q := 148) rfl rfl dX6_enough_146 ?_
                refine ca_istore_n hX (q := 149) 3 rfl (ls' := [_, _, _, _, _, _]) (Nat.le_of_ble_eq_true rfl) (Nat.le_of_ble_eq_true rfl) (Or.inr rfl) rfl rfl dX6_enough_148 ?_
                refine ca_iinc hX (q := 152) (ls' := [_, _, _, _, _, _]) k_iconst_1 rfl (Nat.le_of_ble_eq_true rfl) (Or.inr rfl) rfl rfl dX6_enough_149 ?_
                refine ca_goto hX 38 rfl dX6_enough_152 ?_
                have e1 : (enF (enV (M 0) P r1) (wA (M 0) P r1 0) E (i + 1)) = i := by rw [enF, if_pos (hbq.mp b60), if_neg b143]
                rw [nI_1]
                exact ca_drop hX (ca_le_s rfl (ca_le_s rfl (ca_le_s rfl (ca_le_s (by rw [e1]) (ca_le_s rfl (ca_le_n ca_le_0)))))) (ih (i + 1) _ M2 (by omega) hm hke hfr)
            | succ n2 ih2 =>
              intro j g M1 hj hm hke hfr h13 h11
              obtain ⟨c0, c1, c2, c3, c4, c5, c6, c7, c8, c9, c10, c11, c12, c13⟩ := id hm
              rw [hke.1] at c1
              have hjl := tr_le 0 P (bt (nI i)) j
              refine ca_iload hX (q := 76) rfl rfl dX6_enough_74 ?_
              refine ca_aload_n hX (q := 77) 0 rfl rfl rfl dX6_enough_76 ?_
              refine ca_getf hX (q := 80) cl_X6 0 (by decide) w_fl_X6_9 (by omega) c0 rfl rfl dX6_enough_77 ?_
              refine ca_iconst hX (q := 81) k_iconst_0 rfl dX6_enough_80 ?_
              refine ca_iaN hX (q := 82) (k := 0) (by omega) c1 (by decide) (by decide) (by decide) rfl dX6_enough_81 ?_
              refine ca_icmp_ge hX (q := 85) 125 rfl rfl dX6_enough_82 (fun z => absurd z (by rw [hP]; exact nI_ge (a := j) (b := P) (by omega) (by omega))) (fun _ => ?_)
              refine ca_iload hX (q := 87) rfl rfl dX6_enough_85 ?_
              refine ca_iload hX (q := 89) rfl rfl dX6_enough_87 ?_
              refine ca_ishr hX (q := 90) rfl dX6_enough_89 ?_
              refine ca_iconst hX (q := 91) k_iconst_1 rfl dX6_enough_90 ?_
              refine ca_iand hX (q := 92) rfl dX6_enough_91 ?_
              refine ca_if_ne hX (q := 95) 98 rfl rfl dX6_enough_92 (fun b92 => ?_) (fun b92 => ?_)
              · refine ca_aload_n hX (q := 99) 0 rfl rfl rfl dX6_enough_98 ?_
                refine ca_getf hX (q := 102) cl_X6 14 (by decide) w_fl_X6_43 (by omega) c0 rfl rfl dX6_enough_99 ?_
                refine ca_aload_n hX (q := 103) 0 rfl rfl rfl dX6_enough_102 ?_
                refine ca_getf hX (q := 106) cl_X6 15 (by decide) w_fl_X6_96 (by omega) c0 rfl rfl dX6_enough_103 ?_
                refine ca_iload hX (q := 108) rfl rfl dX6_enough_106 ?_
                refine ca_iaS hX (q := 109) (k := (enT P i j).1) (by omega) hN (Nat.le_refl _) c12 (by decide) h13 (Nat.lt_of_le_of_lt hjl (by omega)) rfl dX6_enough_108 (fun g hE hF => ?_)
                have hm := md_a11 hm hE hF
                obtain ⟨c0, c1, c2, c3, c4, c5, c6, c7, c8, c9, c10, c11, c12, c13⟩ := id hm
                have hfr := frG.tr hfr (fun j hj => hF j (by omega))
                refine ca_aload_n hX (q := 110) 0 rfl rfl rfl dX6_enough_109 ?_
                refine ca_dup hX (q := 111) rfl rfl dX6_enough_110 ?_
                refine ca_getf hX (q := 114) cl_X6 15 (by decide) w_fl_X6_96 (by omega) c0 rfl rfl dX6_enough_111 ?_
                refine ca_iconst hX (q := 115) k_iconst_1 rfl dX6_enough_114 ?_
                refine ca_iadd hX (q := 116) rfl dX6_enough_115 ?_
                refine ca_puti hX (q := 119) (fs' := [_, _, _, _, _, _, _, _, _, _, _, _, _, _, _, _, _, _, _, _]) cl_X6 15 (by decide) w_fl_X6_96 rfl rfl (by omega) hN c0 (Nat.le_of_ble_eq_true rfl) rfl rfl dX6_enough_116 (fun g hE hF => ?_)
                have hm := md_s3 hm hE hF
                obtain ⟨c0, c1, c2, c3, c4, c5, c6, c7, c8, c9, c10, c11, c12, c13⟩ := id hm
                have hfr := frG.tr hfr (fun j hj => hF j (by omega))
                refine ca_iinc hX (q := 122) (ls' := [_, _, _, _, _, _]) k_iconst_1 rfl (Nat.le_of_ble_eq_true rfl) (Or.inr rfl) rfl rfl dX6_enough_119 ?_
                refine ca_goto hX 74 rfl dX6_enough_122 ?_
                have hb1 := b_tst1 (by omega) b92
                have eT : enT P i (j + 1) = ((enT P i j).1 + 1, fun q => if q = (enT P i j).1 then (0 + j) % P else (enT P i j).2 q) := by
                  show trM 0 P (bt (nI i)) (j + 1) = _
                  rw [trM, if_pos (by rw [Nat.zero_add, Nat.mod_eq_of_lt (by omega)]; exact hb1)]; rfl
                have e13 : upB M1 11 (enT P i j).1 (nI j) 13 3 + 1 = nI ((enT P i j).1 + 1) := by rw [upB_n _ _ _ (by omega), h13]; exact nI_add _ 1
                rw [nI_1]
                refine ih2 (j + 1) _ _ (by omega) hm ((hke.ar (i := 11) _ _ (by omega)).up (k := 3) _ (by omega) (by omega)) hfr ?_ ?_
                · rw [upB_s, upd_s, e13, eT]
                · intro q hq
                  rw [eT] at hq ⊢
                  have hq : q < (enT P i j).1 + 1 := hq
                  rw [upB_n _ _ _ (by omega), upB_s]
                  show _ = nI (if q = (enT P i j).1 then (0 + j) % P else (enT P i j).2 q)
                  by_cases z : q = (enT P i j).1
                  · rw [z, upd_s, if_pos rfl, Nat.zero_add, Nat.mod_eq_of_lt (by omega)]
                  · rw [upd_n _ _ z, if_neg z]; exact h11 q (by omega)
              · refine ca_goto hX 119 rfl dX6_enough_95 ?_
                refine ca_iinc hX (q := 122) (ls' := [_, _, _, _, _, _]) k_iconst_1 rfl (Nat.le_of_ble_eq_true rfl) (Or.inr rfl) rfl rfl dX6_enough_119 ?_
                refine ca_goto hX 74 rfl dX6_enough_122 ?_
                have hb1 := b_tst0 (by omega) b92
                have eT : enT P i (j + 1) = enT P i j := by
                  show trM 0 P (bt (nI i)) (j + 1) = _
                  rw [trM, if_neg (by rw [Nat.zero_add, Nat.mod_eq_of_lt (by omega), hb1]; decide)]; rfl
                rw [nI_1]
                exact ih2 (j + 1) _ M1 (by omega) hm hke hfr (by rw [eT]; exact h13) (by rw [eT]; exact h11)
          refine ca_iconst hX (q := 72) k_iconst_0 rfl dX6_enough_71 ?_
          refine ca_istore hX (q := 74) (ls' := [_, _, _, _, _, _]) (Nat.le_of_ble_eq_true rfl) (Nat.le_of_ble_eq_true rfl) (Or.inr rfl) rfl rfl dX6_enough_72 ?_
          exact ca_drop hX (ca_le_s rfl (ca_le_s rfl (ca_le_s rfl (ca_le_s rfl (ca_le_s rfl (ca_le_s rfl ca_le_0)))))) (loop2 P 0 _ _ (by omega) hm hke hfr (by rw [upB_s, upd_s]; rfl) (fun q hq => absurd hq (Nat.not_lt_zero _)))
        · refine ca_goto hX 149 rfl dX6_enough_63 ?_
          refine ca_iinc hX (q := 152) (ls' := [_, _, _, _, _, _]) k_iconst_1 rfl (Nat.le_of_ble_eq_true rfl) (Or.inr rfl) rfl rfl dX6_enough_149 ?_
          refine ca_goto hX 38 rfl dX6_enough_152 ?_
          have e1 : (enF (enV (M 0) P r1) (wA (M 0) P r1 0) E (i + 1)) = (enF (enV (M 0) P r1) (wA (M 0) P r1 0) E i) := by rw [enF, if_neg b60]
          rw [nI_1]
          exact ca_drop hX (ca_le_s rfl (ca_le_s rfl (ca_le_s rfl (ca_le_s (by rw [e1]) (ca_le_s rfl (ca_le_n ca_le_0)))))) (ih (i + 1) _ M1 (by omega) hm hke hfr)
    refine ca_iconst hX (q := 36) k_iconst_0 rfl dX6_enough_35 ?_
    refine ca_istore hX (q := 38) (ls' := [_, _, _, _, _, _]) (Nat.le_of_ble_eq_true rfl) (Nat.le_of_ble_eq_true rfl) (Or.inr rfl) rfl rfl dX6_enough_36 ?_
    exact ca_drop hX (ca_le_s rfl (ca_le_s rfl (ca_le_s rfl (ca_le_s rfl (ca_le_s rfl (ca_le_n ca_le_0)))))) (loop (E + 1) 0 _ M1 (by omega) hm hke hfr)
  · refine ca_aload_n hX (q := 8) 0 rfl rfl rfl dX6_enough_7 ?_
    refine ca_iconst hX (q := 9) k_iconst_m1 rfl dX6_enough_8 ?_
    refine ca_cV hX (q := 12) y_X6_no w_ml_X6_51 (by omega) hN c0 (c_X6_no l N g o _ hm ho (-1) 1 (by decide) (by omega)) (by decide) rfl (Nat.le_of_ble_eq_true rfl) rfl dX6_enough_9 rfl ?_
    rintro _ g ⟨rfl, hm, hf⟩
    have hke := keM.no hke 1
    have hfr := hfr.tr hf
    refine ca_iret hX rfl rfl rfl rfl dX6_enough_12 ?_
    exact re_end2 (by simp [enA, noA, nk1, nk2, nk3, nk4, nk6, z020, z021, z010, z011, b4]) hfr hm hke

