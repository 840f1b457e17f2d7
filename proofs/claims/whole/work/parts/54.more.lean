/-! more of the reference: talker, worstRoom, bestSpeaker, captain; show and wall of both -/
set_option maxRecDepth 100000 in
set_option maxHeartbeats 4000000 in
theorem m_talker (l : Launch) (N : Nat) (g0 : ca_G) (o : Nat) (M : Nat → Nat → Int32) (hm : mdG g0 o M) (ho : o + 14 ≤ N) (hs4 : M 13 4 = 0) (P : Nat) (w : wfH (M 0) P) (x1 x2 : Int32) : ca_Ct l yX6_talker cX6_talker 8 (some .int) 5 0 0 N 1000000 [.ref o, .int x1, .int x2] g0 (reP o g0 (tlA M P x1 x2)) := by
  refine ca_intro (by decide) (Nat.le_of_ble_eq_true rfl) (fun X hX hN => ?_)
  show X 0 [_, _, _, none, none, none, none, none] [] N 1000000 g0
  obtain ⟨g, hgg⟩ : ∃ g, g = g0 := ⟨g0, rfl⟩
  rw [← hgg] at hm ⊢
  have hfr : frG g0 g o (o + 14) := by rw [hgg]; exact frG.rf
  have hke := keM.rf hs4
  obtain ⟨c0, c1, c2, c3, c4, c5, c6, c7, c8, c9, c10, c11, c12, c13⟩ := id hm
  have hP := w.1
  have hP5 := w.2.1
  have hok := wf_ok w
  refine ca_aload_n hX (q := 1) 0 rfl rfl rfl dX6_talker_0 ?_
  refine ca_iload_n hX (q := 2) 1 rfl rfl rfl dX6_talker_1 ?_
  refine ca_iload_n hX (q := 3) 2 rfl rfl rfl dX6_talker_2 ?_
  refine ca_cVi hX (q := 6) y_X6_isFire w_ml_X6_161 (by omega) hN c0 (c_R_isFire l N g o M hm ho P hP hP5 _ _) (by decide) rfl (Nat.le_of_ble_eq_true rfl) rfl dX6_talker_3 rfl ?_
  refine ca_if_ne hX (q := 9) 15 rfl rfl dX6_talker_6 (fun b6 => ?_) (fun b6 => ?_)
  · obtain ⟨⟨r1, hr1, rfl⟩, a2, ha2, rfl⟩ := fk_ok hP hP5 b6
    have er1 := nI_clamp (n := r1) (by omega)
    have ea2 := nI_clamp (n := a2) (by omega)
    refine ca_aload_n hX (q := 16) 0 rfl rfl rfl dX6_talker_15 ?_
    refine ca_iload_n hX (q := 17) 1 rfl rfl rfl dX6_talker_16 ?_
    refine ca_iload_n hX (q := 18) 2 rfl rfl rfl dX6_talker_17 ?_
    refine ca_cV hX (q := 21) y_X6_burnsBy w_ml_X6_164 (by omega) hN c0 (c_X6_burnsBy l N g o M hm ho P hP hP5 hok r1 hr1 a2 ha2) (by decide) rfl (Nat.le_of_ble_eq_true rfl) rfl dX6_talker_18 rfl ?_
    rintro _ g ⟨rfl, hf, M1, hm, hrf, e4, ej, e13⟩
    have hke := hke.tr (ke_bu e4 ej e13)
    have hfr := hfr.tr hf
    obtain ⟨c0, c1, c2, c3, c4, c5, c6, c7, c8, c9, c10, c11, c12, c13⟩ := id hm
    rw [hke.1] at c1
    have loop : ∀ (n i : Nat), i + n = P → X 30 [some (.ref o), some (.int (nI r1)), some (.int (nI a2)), some (.int (mxF (-9, 0) (spV (M 0) r1 (alT a2 P).1 (alT a2 P).2 0) i).1), some (.int (mxF (-9, 0) (spV (M 0) r1 (alT a2 P).1 (alT a2 P).2 0) i).2), some (.int (nI i)), none, none] [] N 1000000 g := by
      intro n
      induction n with
      | zero =>
        intro i  hi 
        have hib : i = P := by omega
        rw [hib]
        refine ca_iload hX (q := 32) rfl rfl dX6_talker_30 ?_
        refine ca_aload_n hX (q := 33) 0 rfl rfl rfl dX6_talker_32 ?_
        refine ca_getf hX (q := 36) cl_X6 0 (by decide) w_fl_X6_9 (by omega) c0 rfl rfl dX6_talker_33 ?_
        refine ca_iconst hX (q := 37) k_iconst_0 rfl dX6_talker_36 ?_
        refine ca_iaN hX (q := 38) (k := 0) (by omega) c1 (by decide) (by decide) (by decide) rfl dX6_talker_37 ?_
        refine ca_icmp_ge hX (q := 41) 105 rfl rfl dX6_talker_38 (fun _ => ?_) (fun z => absurd (by rw [hP]; exact nI_le (Nat.le_refl _) (by omega)) z)
        refine ca_iload_n hX (q := 106) 3 rfl rfl rfl dX6_talker_105 ?_
        refine ca_iret hX rfl rfl rfl rfl dX6_talker_106 ?_
        exact re_end2 (by simp [tlA, noA, nk1, nk2, nk3, nk4, nk6, z020, z021, z010, z011, b6, er1, ea2]) hfr hm hke
      | succ n ih =>
        intro i  hi 
        refine ca_iload hX (q := 32) rfl rfl dX6_talker_30 ?_
        refine ca_aload_n hX (q := 33) 0 rfl rfl rfl dX6_talker_32 ?_
        refine ca_getf hX (q := 36) cl_X6 0 (by decide) w_fl_X6_9 (by omega) c0 rfl rfl dX6_talker_33 ?_
        refine ca_iconst hX (q := 37) k_iconst_0 rfl dX6_talker_36 ?_
        refine ca_iaN hX (q := 38) (k := 0) (by omega) c1 (by decide) (by decide) (by decide) rfl dX6_talker_37 ?_
        refine ca_icmp_ge hX (q := 41) 105 rfl rfl dX6_talker_38 (fun z => absurd z (by rw [hP]; exact nI_ge (a := i) (b := P) (by omega) (by omega))) (fun _ => ?_)
        have hV : smI (fun r => if M1 10 r = nI i then 1 else 0) 25 = (spV (M 0) r1 (alT a2 P).1 (alT a2 P).2 0) i := sm_congr 25 (fun q hq => by rw [(hrf q hq).2.2])
        have loop2 : ∀ (n2 j : Nat), j + n2 = 25 → X 47 [some (.ref o), some (.int (nI r1)), some (.int (nI a2)), some (.int (mxF (-9, 0) (spV (M 0) r1 (alT a2 P).1 (alT a2 P).2 0) i).1), some (.int (mxF (-9, 0) (spV (M 0) r1 (alT a2 P).1 (alT a2 P).2 0) i).2), some (.int (nI i)), some (.int (smI (fun r => if M1 10 r = nI i then 1 else 0) j)), some (.int (nI j))] [] N 1000000 g := by
          intro n2
          induction n2 with
          | zero =>
            intro j  hj 
            have hjb : j = 25 := by omega
            rw [hjb]
            refine ca_iload hX (q := 49) rfl rfl dX6_talker_47 ?_
            refine ca_bipush hX (q := 51) k_bipush_25 rfl dX6_talker_49 ?_
            refine ca_icmp_ge hX (q := 54) 82 rfl rfl dX6_talker_51 (fun _ => ?_) (fun z => absurd (nI_le (a := 25) (b := 25) (by omega) (by omega)) z)
            rw [hV]
            refine ca_iload hX (q := 84) rfl rfl dX6_talker_82 ?_
            refine ca_iload hX (q := 86) rfl rfl dX6_talker_84 ?_
            refine ca_icmp_gt hX (q := 89) 92 rfl rfl dX6_talker_86 (fun b86 => ?_) (fun b86 => ?_)
            · refine ca_iload hX (q := 94) rfl rfl dX6_talker_92 ?_
              refine ca_istore_n hX (q := 95) 3 rfl (ls' := [_, _, _, _, _, _, _, _]) (Nat.le_of_ble_eq_true rfl) (Nat.le_of_ble_eq_true rfl) (Or.inr rfl) rfl rfl dX6_talker_94 ?_
              refine ca_iload hX (q := 97) rfl rfl dX6_talker_95 ?_
              refine ca_istore hX (q := 99) (ls' := [_, _, _, _, _, _, _, _]) (Nat.le_of_ble_eq_true rfl) (Nat.le_of_ble_eq_true rfl) (Or.inr rfl) rfl rfl dX6_talker_97 ?_
              refine ca_iinc hX (q := 102) (ls' := [_, _, _, _, _, _, _, _]) k_iconst_1 rfl (Nat.le_of_ble_eq_true rfl) (Or.inr rfl) rfl rfl dX6_talker_99 ?_
              refine ca_goto hX 30 rfl dX6_talker_102 ?_
              have e1 : mxF (-9, 0) (spV (M 0) r1 (alT a2 P).1 (alT a2 P).2 0) (i + 1) = (nI i, (spV (M 0) r1 (alT a2 P).1 (alT a2 P).2 0) i) := by rw [mxF, if_neg (Int32.not_le.mpr b86)]
              rw [nI_1]
              exact ca_drop hX (ca_le_s rfl (ca_le_s rfl (ca_le_s rfl (ca_le_s (by rw [e1]) (ca_le_s (by rw [e1]) (ca_le_s rfl (ca_le_n (ca_le_n ca_le_0)))))))) (ih (i + 1) (by omega))
            · refine ca_goto hX 99 rfl dX6_talker_89 ?_
              refine ca_iinc hX (q := 102) (ls' := [_, _, _, _, _, _, _, _]) k_iconst_1 rfl (Nat.le_of_ble_eq_true rfl) (Or.inr rfl) rfl rfl dX6_talker_99 ?_
              refine ca_goto hX 30 rfl dX6_talker_102 ?_
              have e1 : mxF (-9, 0) (spV (M 0) r1 (alT a2 P).1 (alT a2 P).2 0) (i + 1) = mxF (-9, 0) (spV (M 0) r1 (alT a2 P).1 (alT a2 P).2 0) i := by rw [mxF, if_pos (Int32.not_lt.mp b86)]
              rw [nI_1]
              exact ca_drop hX (ca_le_s rfl (ca_le_s rfl (ca_le_s rfl (ca_le_s (by rw [e1]) (ca_le_s (by rw [e1]) (ca_le_s rfl (ca_le_n (ca_le_n ca_le_0)))))))) (ih (i + 1) (by omega))
          | succ n2 ih2 =>
            intro j  hj 
            refine ca_iload hX (q := 49) rfl rfl dX6_talker_47 ?_
            refine ca_bipush hX (q := 51) k_bipush_25 rfl dX6_talker_49 ?_
            refine ca_icmp_ge hX (q := 54) 82 rfl rfl dX6_talker_51 (fun z => absurd z (nI_ge (a := j) (b := 25) (by omega) (by omega))) (fun _ => ?_)
            refine ca_iload hX (q := 56) rfl rfl dX6_talker_54 ?_
            refine ca_aload_n hX (q := 57) 0 rfl rfl rfl dX6_talker_56 ?_
            refine ca_getf hX (q := 60) cl_X6 13 (by decide) w_fl_X6_40 (by omega) c0 rfl rfl dX6_talker_57 ?_
            refine ca_iload hX (q := 62) rfl rfl dX6_talker_60 ?_
            refine ca_iaN hX (q := 63) (k := j) (by omega) c11 (by decide) rfl (by omega) rfl dX6_talker_62 ?_
            refine ca_iload hX (q := 65) rfl rfl dX6_talker_63 ?_
            refine ca_icmp_ne hX (q := 68) 72 rfl rfl dX6_talker_65 (fun b65 => ?_) (fun b65 => ?_)
            · refine ca_iconst hX (q := 73) k_iconst_0 rfl dX6_talker_72 ?_
              refine ca_iadd hX (q := 74) rfl dX6_talker_73 ?_
              refine ca_istore hX (q := 76) (ls' := [_, _, _, _, _, _, _, _]) (Nat.le_of_ble_eq_true rfl) (Nat.le_of_ble_eq_true rfl) (Or.inr rfl) rfl rfl dX6_talker_74 ?_
              refine ca_iinc hX (q := 79) (ls' := [_, _, _, _, _, _, _, _]) k_iconst_1 rfl (Nat.le_of_ble_eq_true rfl) (Or.inr rfl) rfl rfl dX6_talker_76 ?_
              refine ca_goto hX 47 rfl dX6_talker_79 ?_
              rw [nI_1]
              exact ca_drop hX (ca_le_s rfl (ca_le_s rfl (ca_le_s rfl (ca_le_s rfl (ca_le_s rfl (ca_le_s rfl (ca_le_s (by simp [smI, b65]) (ca_le_s rfl ca_le_0)))))))) (ih2 (j + 1) (by omega))
            · refine ca_iconst hX (q := 69) k_iconst_1 rfl dX6_talker_68 ?_
              refine ca_goto hX 73 rfl dX6_talker_69 ?_
              refine ca_iadd hX (q := 74) rfl dX6_talker_73 ?_
              refine ca_istore hX (q := 76) (ls' := [_, _, _, _, _, _, _, _]) (Nat.le_of_ble_eq_true rfl) (Nat.le_of_ble_eq_true rfl) (Or.inr rfl) rfl rfl dX6_talker_74 ?_
              refine ca_iinc hX (q := 79) (ls' := [_, _, _, _, _, _, _, _]) k_iconst_1 rfl (Nat.le_of_ble_eq_true rfl) (Or.inr rfl) rfl rfl dX6_talker_76 ?_
              refine ca_goto hX 47 rfl dX6_talker_79 ?_
              rw [nI_1]
              exact ca_drop hX (ca_le_s rfl (ca_le_s rfl (ca_le_s rfl (ca_le_s rfl (ca_le_s rfl (ca_le_s rfl (ca_le_s (by simp [smI, b65]) (ca_le_s rfl ca_le_0)))))))) (ih2 (j + 1) (by omega))
        refine ca_iconst hX (q := 42) k_iconst_0 rfl dX6_talker_41 ?_
        refine ca_istore hX (q := 44) (ls' := [_, _, _, _, _, _, _, _]) (Nat.le_of_ble_eq_true rfl) (Nat.le_of_ble_eq_true rfl) (Or.inr rfl) rfl rfl dX6_talker_42 ?_
        refine ca_iconst hX (q := 45) k_iconst_0 rfl dX6_talker_44 ?_
        refine ca_istore hX (q := 47) (ls' := [_, _, _, _, _, _, _, _]) (Nat.le_of_ble_eq_true rfl) (Nat.le_of_ble_eq_true rfl) (Or.inr rfl) rfl rfl dX6_talker_45 ?_
        exact ca_drop hX (ca_le_s rfl (ca_le_s rfl (ca_le_s rfl (ca_le_s rfl (ca_le_s rfl (ca_le_s rfl (ca_le_s rfl (ca_le_s rfl ca_le_0)))))))) (loop2 25 0 (by omega))
    refine ca_bipush hX (q := 23) k_bipush_m9 rfl dX6_talker_21 ?_
    refine ca_istore_n hX (q := 24) 3 rfl (ls' := [_, _, _, _, _, _, _, _]) (Nat.le_of_ble_eq_true rfl) (Nat.le_of_ble_eq_true rfl) (Or.inr rfl) rfl rfl dX6_talker_23 ?_
    refine ca_iconst hX (q := 25) k_iconst_0 rfl dX6_talker_24 ?_
    refine ca_istore hX (q := 27) (ls' := [_, _, _, _, _, _, _, _]) (Nat.le_of_ble_eq_true rfl) (Nat.le_of_ble_eq_true rfl) (Or.inr rfl) rfl rfl dX6_talker_25 ?_
    refine ca_iconst hX (q := 28) k_iconst_0 rfl dX6_talker_27 ?_
    refine ca_istore hX (q := 30) (ls' := [_, _, _, _, _, _, _, _]) (Nat.le_of_ble_eq_true rfl) (Nat.le_of_ble_eq_true rfl) (Or.inr rfl) rfl rfl dX6_talker_28 ?_
    exact ca_drop hX (ca_le_s rfl (ca_le_s rfl (ca_le_s rfl (ca_le_s rfl (ca_le_s rfl (ca_le_s rfl (ca_le_n (ca_le_n ca_le_0)))))))) (loop P 0 (by omega))
  · refine ca_aload_n hX (q := 10) 0 rfl rfl rfl dX6_talker_9 ?_
    refine ca_iconst hX (q := 11) k_iconst_m1 rfl dX6_talker_10 ?_
    refine ca_cV hX (q := 14) y_X6_no w_ml_X6_51 (by omega) hN c0 (c_X6_no l N g o _ hm ho (-1) 1 (by decide) (by omega)) (by decide) rfl (Nat.le_of_ble_eq_true rfl) rfl dX6_talker_11 rfl ?_
    rintro _ g ⟨rfl, hm, hf⟩
    have hke := keM.no hke 1
    have hfr := hfr.tr hf
    refine ca_iret hX rfl rfl rfl rfl dX6_talker_14 ?_
    exact re_end2 (by simp [tlA, noA, nk1, nk2, nk3, nk4, nk6, z020, z021, z010, z011, b6]) hfr hm hke

set_option maxRecDepth 100000 in
set_option maxHeartbeats 4000000 in
theorem m_worstRoom (l : Launch) (N : Nat) (g0 : ca_G) (o : Nat) (M : Nat → Nat → Int32) (hm : mdG g0 o M) (ho : o + 14 ≤ N) (hs4 : M 13 4 = 0) (P : Nat) (w : wfH (M 0) P) : ca_Ct l yX6_worstRoom cX6_worstRoom 5 (some .int) 5 0 0 N 1000000 [.ref o] g0 (reP o g0 (woA M P)) := by
  refine ca_intro (by decide) (Nat.le_of_ble_eq_true rfl) (fun X hX hN => ?_)
  show X 0 [_, none, none, none, none] [] N 1000000 g0
  obtain ⟨g, hgg⟩ : ∃ g, g = g0 := ⟨g0, rfl⟩
  rw [← hgg] at hm ⊢
  have hfr : frG g0 g o (o + 14) := by rw [hgg]; exact frG.rf
  have hke := keM.rf hs4
  obtain ⟨c0, c1, c2, c3, c4, c5, c6, c7, c8, c9, c10, c11, c12, c13⟩ := id hm
  have hP := w.1
  have hP5 := w.2.1
  have hok := wf_ok w
  have loop : ∀ (n i : Nat) (g1 : ca_G) (M1 : Nat → Nat → Int32), i + n = 25 → mdG g1 o M1 → keM M M1 → frG g0 g1 o (o + 14) → X 6 [some (.ref o), some (.int (mxF (0, -1) (fun r => wA (M 0) P r 0) i).1), some (.int (mxF (0, -1) (fun r => wA (M 0) P r 0) i).2), some (.int (nI i)), none] [] N 1000000 g1 := by
    intro n
    induction n with
    | zero =>
      intro i g M1 hi hm hke hfr
      have hib : i = 25 := by omega
      rw [hib]
      obtain ⟨c0, c1, c2, c3, c4, c5, c6, c7, c8, c9, c10, c11, c12, c13⟩ := id hm
      rw [hke.1] at c1
      refine ca_iload_n hX (q := 7) 3 rfl rfl rfl dX6_worstRoom_6 ?_
      refine ca_bipush hX (q := 9) k_bipush_25 rfl dX6_worstRoom_7 ?_
      refine ca_icmp_ge hX (q := 12) 44 rfl rfl dX6_worstRoom_9 (fun _ => ?_) (fun z => absurd (nI_le (a := 25) (b := 25) (by omega) (by omega)) z)
      refine ca_iload_n hX (q := 45) 1 rfl rfl rfl dX6_worstRoom_44 ?_
      refine ca_iret hX rfl rfl rfl rfl dX6_worstRoom_45 ?_
      exact re_end2 (by simp [woA, noA, nk1, nk2, nk3, nk4, nk6, z020, z021, z010, z011, ]) hfr hm hke
    | succ n ih =>
      intro i g M1 hi hm hke hfr
      obtain ⟨c0, c1, c2, c3, c4, c5, c6, c7, c8, c9, c10, c11, c12, c13⟩ := id hm
      rw [hke.1] at c1
      refine ca_iload_n hX (q := 7) 3 rfl rfl rfl dX6_worstRoom_6 ?_
      refine ca_bipush hX (q := 9) k_bipush_25 rfl dX6_worstRoom_7 ?_
      refine ca_icmp_ge hX (q := 12) 44 rfl rfl dX6_worstRoom_9 (fun z => absurd z (nI_ge (a := i) (b := 25) (by omega) (by omega))) (fun _ => ?_)
      refine ca_aload_n hX (q := 13) 0 rfl rfl rfl dX6_worstRoom_12 ?_
      refine ca_aload_n hX (q := 14) 0 rfl rfl rfl dX6_worstRoom_13 ?_
      refine ca_getf hX (q := 17) cl_X6 0 (by decide) w_fl_X6_9 (by omega) c0 rfl rfl dX6_worstRoom_14 ?_
      refine ca_iload_n hX (q := 18) 3 rfl rfl rfl dX6_worstRoom_17 ?_
      refine ca_iconst hX (q := 19) k_iconst_0 rfl dX6_worstRoom_18 ?_
      refine ca_cV hX (q := 22) y_X6_worthBy w_ml_X6_171 (by omega) hN c0 (c_X6_worthBy l N g o M1 hm ho (o + 1) (M 0) c1 (by omega) (by omega) P hP hP5 hok i (by omega) 0 (by omega)) (by decide) rfl (Nat.le_of_ble_eq_true rfl) rfl dX6_worstRoom_19 rfl ?_
      rintro _ g ⟨rfl, hf, M1, hm, hrf, e4, ej, e13⟩
      have hke := hke.tr (ke_bu e4 ej e13)
      have hfr := hfr.tr hf
      obtain ⟨c0, c1, c2, c3, c4, c5, c6, c7, c8, c9, c10, c11, c12, c13⟩ := id hm
      rw [hke.1] at c1
      refine ca_istore hX (q := 24) (ls' := [_, _, _, _, _]) (Nat.le_of_ble_eq_true rfl) (Nat.le_of_ble_eq_true rfl) (Or.inr rfl) rfl rfl dX6_worstRoom_22 ?_
      refine ca_iload hX (q := 26) rfl rfl dX6_worstRoom_24 ?_
      refine ca_iload_n hX (q := 27) 2 rfl rfl rfl dX6_worstRoom_26 ?_
      refine ca_icmp_gt hX (q := 30) 33 rfl rfl dX6_worstRoom_27 (fun b27 => ?_) (fun b27 => ?_)
      · refine ca_iload_n hX (q := 34) 3 rfl rfl rfl dX6_worstRoom_33 ?_
        refine ca_istore_n hX (q := 35) 1 rfl (ls' := [_, _, _, _, _]) (Nat.le_of_ble_eq_true rfl) (Nat.le_of_ble_eq_true rfl) (Or.inr rfl) rfl rfl dX6_worstRoom_34 ?_
        refine ca_iload hX (q := 37) rfl rfl dX6_worstRoom_35 ?_
        refine ca_istore_n hX (q := 38) 2 rfl (ls' := [_, _, _, _, _]) (Nat.le_of_ble_eq_true rfl) (Nat.le_of_ble_eq_true rfl) (Or.inr rfl) rfl rfl dX6_worstRoom_37 ?_
        refine ca_iinc hX (q := 41) (ls' := [_, _, _, _, _]) k_iconst_1 rfl (Nat.le_of_ble_eq_true rfl) (Or.inr rfl) rfl rfl dX6_worstRoom_38 ?_
        refine ca_goto hX 6 rfl dX6_worstRoom_41 ?_
        have e1 : mxF (0, -1) (fun r => wA (M 0) P r 0) (i + 1) = (nI i, (fun r => wA (M 0) P r 0) i) := by rw [mxF, if_neg (Int32.not_le.mpr b27)]
        rw [nI_1]
        exact ca_drop hX (ca_le_s rfl (ca_le_s (by rw [e1]) (ca_le_s (by rw [e1]) (ca_le_s rfl (ca_le_n ca_le_0))))) (ih (i + 1) _ M1 (by omega) hm hke hfr)
      · refine ca_goto hX 38 rfl dX6_worstRoom_30 ?_
        refine ca_iinc hX (q := 41) (ls' := [_, _, _, _, _]) k_iconst_1 rfl (Nat.le_of_ble_eq_true rfl) (Or.inr rfl) rfl rfl dX6_worstRoom_38 ?_
        refine ca_goto hX 6 rfl dX6_worstRoom_41 ?_
        have e1 : mxF (0, -1) (fun r => wA (M 0) P r 0) (i + 1) = mxF (0, -1) (fun r => wA (M 0) P r 0) i := by rw [mxF, if_pos (Int32.not_lt.mp b27)]
        rw [nI_1]
        exact ca_drop hX (ca_le_s rfl (ca_le_s (by rw [e1]) (ca_le_s (by rw [e1]) (ca_le_s rfl (ca_le_n ca_le_0))))) (ih (i + 1) _ M1 (by omega) hm hke hfr)
  refine ca_iconst hX (q := 1) k_iconst_0 rfl dX6_worstRoom_0 ?_
  refine ca_istore_n hX (q := 2) 1 rfl (ls' := [_, _, _, _, _]) (Nat.le_of_ble_eq_true rfl) (Nat.le_of_ble_eq_true rfl) (Or.inr rfl) rfl rfl dX6_worstRoom_1 ?_
  refine ca_iconst hX (q := 3) k_iconst_m1 rfl dX6_worstRoom_2 ?_
  refine ca_istore_n hX (q := 4) 2 rfl (ls' := [_, _, _, _, _]) (Nat.le_of_ble_eq_true rfl) (Nat.le_of_ble_eq_true rfl) (Or.inr rfl) rfl rfl dX6_worstRoom_3 ?_
  refine ca_iconst hX (q := 5) k_iconst_0 rfl dX6_worstRoom_4 ?_
  refine ca_istore_n hX (q := 6) 3 rfl (ls' := [_, _, _, _, _]) (Nat.le_of_ble_eq_true rfl) (Nat.le_of_ble_eq_true rfl) (Or.inr rfl) rfl rfl dX6_worstRoom_5 ?_
  exact ca_drop hX (ca_le_s rfl (ca_le_s rfl (ca_le_s rfl (ca_le_s rfl (ca_le_n ca_le_0))))) (loop 25 0 _ M (by omega) hm hke hfr)

set_option maxRecDepth 100000 in
set_option maxHeartbeats 4000000 in
theorem m_bestSpeaker (l : Launch) (N : Nat) (g0 : ca_G) (o : Nat) (M : Nat → Nat → Int32) (hm : mdG g0 o M) (ho : o + 14 ≤ N) (hs4 : M 13 4 = 0) (P : Nat) (w : wfH (M 0) P) (x1 : Int32) : ca_Ct l yX6_bestSpeaker cX6_bestSpeaker 6 (some .int) 5 0 0 N 1000000 [.ref o, .int x1] g0 (reP o g0 (bsA M P x1)) := by
  refine ca_intro (by decide) (Nat.le_of_ble_eq_true rfl) (fun X hX hN => ?_)
  show X 0 [_, _, none, none, none, none] [] N 1000000 g0
  obtain ⟨g, hgg⟩ : ∃ g, g = g0 := ⟨g0, rfl⟩
  rw [← hgg] at hm ⊢
  have hfr : frG g0 g o (o + 14) := by rw [hgg]; exact frG.rf
  have hke := keM.rf hs4
  obtain ⟨c0, c1, c2, c3, c4, c5, c6, c7, c8, c9, c10, c11, c12, c13⟩ := id hm
  have hP := w.1
  have hP5 := w.2.1
  have hok := wf_ok w
  refine ca_iload_n hX (q := 1) 1 rfl rfl rfl dX6_bestSpeaker_0 ?_
  refine ca_cSi hX (q := 4) y_X6_isRoom w_ml_X6_138 hN (c_R_isRoom l N g _) (by decide) rfl (Nat.le_of_ble_eq_true rfl) rfl dX6_bestSpeaker_1 rfl ?_
  refine ca_if_ne hX (q := 7) 13 rfl rfl dX6_bestSpeaker_4 (fun b4 => ?_) (fun b4 => ?_)
  · obtain ⟨r1, hr1, rfl⟩ := rm_ok b4
    have er1 := nI_clamp (n := r1) (by omega)
    have loop : ∀ (n i : Nat) (g1 : ca_G) (M1 : Nat → Nat → Int32), i + n = P → mdG g1 o M1 → keM M M1 → frG g0 g1 o (o + 14) → X 22 [some (.ref o), some (.int (nI r1)), some (.int (mnF (-9, 1000000000) (fun p => wA (M 0) P r1 p) i).1), some (.int (mnF (-9, 1000000000) (fun p => wA (M 0) P r1 p) i).2), some (.int (nI i)), none] [] N 1000000 g1 := by
      intro n
      induction n with
      | zero =>
        intro i g M1 hi hm hke hfr
        have hib : i = P := by omega
        rw [hib]
        obtain ⟨c0, c1, c2, c3, c4, c5, c6, c7, c8, c9, c10, c11, c12, c13⟩ := id hm
        rw [hke.1] at c1
        refine ca_iload hX (q := 24) rfl rfl dX6_bestSpeaker_22 ?_
        refine ca_aload_n hX (q := 25) 0 rfl rfl rfl dX6_bestSpeaker_24 ?_
        refine ca_getf hX (q := 28) cl_X6 0 (by decide) w_fl_X6_9 (by omega) c0 rfl rfl dX6_bestSpeaker_25 ?_
        refine ca_iconst hX (q := 29) k_iconst_0 rfl dX6_bestSpeaker_28 ?_
        refine ca_iaN hX (q := 30) (k := 0) (by omega) c1 (by decide) (by decide) (by decide) rfl dX6_bestSpeaker_29 ?_
        refine ca_icmp_ge hX (q := 33) 67 rfl rfl dX6_bestSpeaker_30 (fun _ => ?_) (fun z => absurd (by rw [hP]; exact nI_le (Nat.le_refl _) (by omega)) z)
        refine ca_iload_n hX (q := 68) 2 rfl rfl rfl dX6_bestSpeaker_67 ?_
        refine ca_iret hX rfl rfl rfl rfl dX6_bestSpeaker_68 ?_
        exact re_end2 (by simp [bsA, noA, nk1, nk2, nk3, nk4, nk6, z020, z021, z010, z011, b4, er1]) hfr hm hke
      | succ n ih =>
        intro i g M1 hi hm hke hfr
        obtain ⟨c0, c1, c2, c3, c4, c5, c6, c7, c8, c9, c10, c11, c12, c13⟩ := id hm
        rw [hke.1] at c1
        refine ca_iload hX (q := 24) rfl rfl dX6_bestSpeaker_22 ?_
        refine ca_aload_n hX (q := 25) 0 rfl rfl rfl dX6_bestSpeaker_24 ?_
        refine ca_getf hX (q := 28) cl_X6 0 (by decide) w_fl_X6_9 (by omega) c0 rfl rfl dX6_bestSpeaker_25 ?_
        refine ca_iconst hX (q := 29) k_iconst_0 rfl dX6_bestSpeaker_28 ?_
        refine ca_iaN hX (q := 30) (k := 0) (by omega) c1 (by decide) (by decide) (by decide) rfl dX6_bestSpeaker_29 ?_
        refine ca_icmp_ge hX (q := 33) 67 rfl rfl dX6_bestSpeaker_30 (fun z => absurd z (by rw [hP]; exact nI_ge (a := i) (b := P) (by omega) (by omega))) (fun _ => ?_)
        refine ca_aload_n hX (q := 34) 0 rfl rfl rfl dX6_bestSpeaker_33 ?_
        refine ca_aload_n hX (q := 35) 0 rfl rfl rfl dX6_bestSpeaker_34 ?_
        refine ca_getf hX (q := 38) cl_X6 0 (by decide) w_fl_X6_9 (by omega) c0 rfl rfl dX6_bestSpeaker_35 ?_
        refine ca_iload_n hX (q := 39) 1 rfl rfl rfl dX6_bestSpeaker_38 ?_
        refine ca_iload hX (q := 41) rfl rfl dX6_bestSpeaker_39 ?_
        refine ca_cV hX (q := 44) y_X6_worthBy w_ml_X6_171 (by omega) hN c0 (c_X6_worthBy l N g o M1 hm ho (o + 1) (M 0) c1 (by omega) (by omega) P hP hP5 hok r1 hr1 i (by omega)) (by decide) rfl (Nat.le_of_ble_eq_true rfl) rfl dX6_bestSpeaker_41 rfl ?_
        rintro _ g ⟨rfl, hf, M1, hm, hrf, e4, ej, e13⟩
        have hke := hke.tr (ke_bu e4 ej e13)
        have hfr := hfr.tr hf
        obtain ⟨c0, c1, c2, c3, c4, c5, c6, c7, c8, c9, c10, c11, c12, c13⟩ := id hm
        rw [hke.1] at c1
        refine ca_istore hX (q := 46) (ls' := [_, _, _, _, _, _]) (Nat.le_of_ble_eq_true rfl) (Nat.le_of_ble_eq_true rfl) (Or.inr rfl) rfl rfl dX6_bestSpeaker_44 ?_
        refine ca_iload hX (q := 48) rfl rfl dX6_bestSpeaker_46 ?_
        refine ca_iload_n hX (q := 49) 3 rfl rfl rfl dX6_bestSpeaker_48 ?_
        refine ca_icmp_lt hX (q := 52) 55 rfl rfl dX6_bestSpeaker_49 (fun b49 => ?_) (fun b49 => ?_)
        · refine ca_iload hX (q := 57) rfl rfl dX6_bestSpeaker_55 ?_
          refine ca_istore_n hX (q := 58) 2 rfl (ls' := [_, _, _, _, _, _]) (Nat.le_of_ble_eq_true rfl) (Nat.le_of_ble_eq_true rfl) (Or.inr rfl) rfl rfl dX6_bestSpeaker_57 ?_
          refine ca_iload hX (q := 60) rfl rfl dX6_bestSpeaker_58 ?_
          refine ca_istore_n hX (q := 61) 3 rfl (ls' := [_, _, _, _, _, _]) (Nat.le_of_ble_eq_true rfl) (Nat.le_of_ble_eq_true rfl) (Or.inr rfl) rfl rfl dX6_bestSpeaker_60 ?_
          refine ca_iinc hX (q := 64) (ls' := [_, _, _, _, _, _]) k_iconst_1 rfl (Nat.le_of_ble_eq_true rfl) (Or.inr rfl) rfl rfl dX6_bestSpeaker_61 ?_
          refine ca_goto hX 22 rfl dX6_bestSpeaker_64 ?_
          have e1 : mnF (-9, 1000000000) (fun p => wA (M 0) P r1 p) (i + 1) = (nI i, (fun p => wA (M 0) P r1 p) i) := by rw [mnF, if_pos b49]
          rw [nI_1]
          exact ca_drop hX (ca_le_s rfl (ca_le_s rfl (ca_le_s (by rw [e1]) (ca_le_s (by rw [e1]) (ca_le_s rfl (ca_le_n ca_le_0)))))) (ih (i + 1) _ M1 (by omega) hm hke hfr)
        · refine ca_goto hX 61 rfl dX6_bestSpeaker_52 ?_
          refine ca_iinc hX (q := 64) (ls' := [_, _, _, _, _, _]) k_iconst_1 rfl (Nat.le_of_ble_eq_true rfl) (Or.inr rfl) rfl rfl dX6_bestSpeaker_61 ?_
          refine ca_goto hX 22 rfl dX6_bestSpeaker_64 ?_
          have e1 : mnF (-9, 1000000000) (fun p => wA (M 0) P r1 p) (i + 1) = mnF (-9, 1000000000) (fun p => wA (M 0) P r1 p) i := by rw [mnF, if_neg b49]
          rw [nI_1]
          exact ca_drop hX (ca_le_s rfl (ca_le_s rfl (ca_le_s (by rw [e1]) (ca_le_s (by rw [e1]) (ca_le_s rfl (ca_le_n ca_le_0)))))) (ih (i + 1) _ M1 (by omega) hm hke hfr)
    refine ca_bipush hX (q := 15) k_bipush_m9 rfl dX6_bestSpeaker_13 ?_
    refine ca_istore_n hX (q := 16) 2 rfl (ls' := [_, _, _, _, _, _]) (Nat.le_of_ble_eq_true rfl) (Nat.le_of_ble_eq_true rfl) (Or.inr rfl) rfl rfl dX6_bestSpeaker_15 ?_
    refine ca_ldc hX (q := 18) w_k_X6_63 rfl dX6_bestSpeaker_16 ?_
    refine ca_istore_n hX (q := 19) 3 rfl (ls' := [_, _, _, _, _, _]) (Nat.le_of_ble_eq_true rfl) (Nat.le_of_ble_eq_true rfl) (Or.inr rfl) rfl rfl dX6_bestSpeaker_18 ?_
    refine ca_iconst hX (q := 20) k_iconst_0 rfl dX6_bestSpeaker_19 ?_
    refine ca_istore hX (q := 22) (ls' := [_, _, _, _, _, _]) (Nat.le_of_ble_eq_true rfl) (Nat.le_of_ble_eq_true rfl) (Or.inr rfl) rfl rfl dX6_bestSpeaker_20 ?_
    exact ca_drop hX (ca_le_s rfl (ca_le_s rfl (ca_le_s rfl (ca_le_s rfl (ca_le_s rfl (ca_le_n ca_le_0)))))) (loop P 0 _ M (by omega) hm hke hfr)
  · refine ca_aload_n hX (q := 8) 0 rfl rfl rfl dX6_bestSpeaker_7 ?_
    refine ca_iconst hX (q := 9) k_iconst_m1 rfl dX6_bestSpeaker_8 ?_
    refine ca_cV hX (q := 12) y_X6_no w_ml_X6_51 (by omega) hN c0 (c_X6_no l N g o _ hm ho (-1) 1 (by decide) (by omega)) (by decide) rfl (Nat.le_of_ble_eq_true rfl) rfl dX6_bestSpeaker_9 rfl ?_
    rintro _ g ⟨rfl, hm, hf⟩
    have hke := keM.no hke 1
    have hfr := hfr.tr hf
    refine ca_iret hX rfl rfl rfl rfl dX6_bestSpeaker_12 ?_
    exact re_end2 (by simp [bsA, noA, nk1, nk2, nk3, nk4, nk6, z020, z021, z010, z011, b4]) hfr hm hke

set_option maxRecDepth 100000 in
set_option maxHeartbeats 4000000 in
theorem m_captain (l : Launch) (N : Nat) (g0 : ca_G) (o : Nat) (M : Nat → Nat → Int32) (hm : mdG g0 o M) (ho : o + 14 ≤ N) (hs4 : M 13 4 = 0) (P : Nat) (w : wfH (M 0) P) (x1 x2 x3 : Int32) : ca_Ct l yX6_captain cX6_captain 8 (some .int) 5 0 0 N 1000000 [.ref o, .int x1, .int x2, .int x3] g0 (reP o g0 (cpA M P x1 x2 x3)) := by
  refine ca_intro (by decide) (Nat.le_of_ble_eq_true rfl) (fun X hX hN => ?_)
  show X 0 [_, _, _, _, none, none, none, none] [] N 1000000 g0
  obtain ⟨g, hgg⟩ : ∃ g, g = g0 := ⟨g0, rfl⟩
  rw [← hgg] at hm ⊢
  have hfr : frG g0 g o (o + 14) := by rw [hgg]; exact frG.rf
  have hke := keM.rf hs4
  obtain ⟨c0, c1, c2, c3, c4, c5, c6, c7, c8, c9, c10, c11, c12, c13⟩ := id hm
  have hP := w.1
  have hP5 := w.2.1
  have hok := wf_ok w
  refine ca_iload_n hX (q := 1) 1 rfl rfl rfl dX6_captain_0 ?_
  refine ca_cSi hX (q := 4) y_X6_isRoom w_ml_X6_138 hN (c_R_isRoom l N g _) (by decide) rfl (Nat.le_of_ble_eq_true rfl) rfl dX6_captain_1 rfl ?_
  refine ca_if_eq hX (q := 7) 19 rfl rfl dX6_captain_4 (fun b4 => ?_) (fun b4 => ?_)
  · refine ca_aload_n hX (q := 20) 0 rfl rfl rfl dX6_captain_19 ?_
    refine ca_iconst hX (q := 21) k_iconst_m1 rfl dX6_captain_20 ?_
    refine ca_cV hX (q := 24) y_X6_no w_ml_X6_51 (by omega) hN c0 (c_X6_no l N g o _ hm ho (-1) 1 (by decide) (by omega)) (by decide) rfl (Nat.le_of_ble_eq_true rfl) rfl dX6_captain_21 rfl ?_
    rintro _ g ⟨rfl, hm, hf⟩
    have hke := keM.no hke 1
    have hfr := hfr.tr hf
    refine ca_iret hX rfl rfl rfl rfl dX6_captain_24 ?_
    exact re_end2 (by simp [cpA, noA, nk1, nk2, nk3, nk4, nk6, z020, z021, z010, z011, b4]) hfr hm hke
  · obtain ⟨r1, hr1, rfl⟩ := rm_ok b4
    have er1 := nI_clamp (n := r1) (by omega)
    refine ca_iload_n hX (q := 8) 2 rfl rfl rfl dX6_captain_7 ?_
    refine ca_cSi hX (q := 11) y_X6_isRoom w_ml_X6_138 hN (c_R_isRoom l N g _) (by decide) rfl (Nat.le_of_ble_eq_true rfl) rfl dX6_captain_8 rfl ?_
    refine ca_if_eq hX (q := 14) 19 rfl rfl dX6_captain_11 (fun b11 => ?_) (fun b11 => ?_)
    · refine ca_aload_n hX (q := 20) 0 rfl rfl rfl dX6_captain_19 ?_
      refine ca_iconst hX (q := 21) k_iconst_m1 rfl dX6_captain_20 ?_
      refine ca_cV hX (q := 24) y_X6_no w_ml_X6_51 (by omega) hN c0 (c_X6_no l N g o _ hm ho (-1) 1 (by decide) (by omega)) (by decide) rfl (Nat.le_of_ble_eq_true rfl) rfl dX6_captain_21 rfl ?_
      rintro _ g ⟨rfl, hm, hf⟩
      have hke := keM.no hke 1
      have hfr := hfr.tr hf
      refine ca_iret hX rfl rfl rfl rfl dX6_captain_24 ?_
      exact re_end2 (by simp [cpA, noA, nk1, nk2, nk3, nk4, nk6, z020, z021, z010, z011, b4, er1, b11]) hfr hm hke
    · obtain ⟨r2, hr2, rfl⟩ := rm_ok b11
      have er2 := nI_clamp (n := r2) (by omega)
      refine ca_iload_n hX (q := 15) 1 rfl rfl rfl dX6_captain_14 ?_
      refine ca_iload_n hX (q := 16) 2 rfl rfl rfl dX6_captain_15 ?_
      refine ca_icmp_ne hX (q := 19) 25 rfl rfl dX6_captain_16 (fun b16 => ?_) (fun b16 => ?_)
      · refine ca_iload_n hX (q := 26) 3 rfl rfl rfl dX6_captain_25 ?_
        refine ca_iconst hX (q := 27) k_iconst_0 rfl dX6_captain_26 ?_
        refine ca_iconst hX (q := 28) k_iconst_1 rfl dX6_captain_27 ?_
        refine ca_cSi hX (q := 31) y_X6_isIn w_ml_X6_55 hN (c_R_is01 l N g _) (by decide) rfl (Nat.le_of_ble_eq_true rfl) rfl dX6_captain_28 rfl ?_
        refine ca_if_ne hX (q := 34) 41 rfl rfl dX6_captain_31 (fun b31 => ?_) (fun b31 => ?_)
        · have hm9 := mn_9 (vMx (M 0) P r1 r2) P hP5
          have loop : ∀ (n i : Nat) (g1 : ca_G) (M1 : Nat → Nat → Int32), i + n = P → mdG g1 o M1 → keM M M1 → frG g0 g1 o (o + 14) → X 52 [some (.ref o), some (.int (nI r1)), some (.int (nI r2)), some (.int x3), some (.int (mnF (-9, 1000000000) (vMx (M 0) P r1 r2) i).1), some (.int (mnF (-9, 1000000000) (vMx (M 0) P r1 r2) i).2), some (.int (nI i)), none] [] N 1000000 g1 := by
            intro n
            induction n with
            | zero =>
              intro i g M1 hi hm hke hfr
              have hib : i = P := by omega
              rw [hib]
              obtain ⟨c0, c1, c2, c3, c4, c5, c6, c7, c8, c9, c10, c11, c12, c13⟩ := id hm
              rw [hke.1] at c1
              refine ca_iload hX (q := 54) rfl rfl dX6_captain_52 ?_
              refine ca_aload_n hX (q := 55) 0 rfl rfl rfl dX6_captain_54 ?_
              refine ca_getf hX (q := 58) cl_X6 0 (by decide) w_fl_X6_9 (by omega) c0 rfl rfl dX6_captain_55 ?_
              refine ca_iconst hX (q := 59) k_iconst_0 rfl dX6_captain_58 ?_
              refine ca_iaN hX (q := 60) (k := 0) (by omega) c1 (by decide) (by decide) (by decide) rfl dX6_captain_59 ?_
              refine ca_icmp_ge hX (q := 63) 114 rfl rfl dX6_captain_60 (fun _ => ?_) (fun z => absurd (by rw [hP]; exact nI_le (Nat.le_refl _) (by omega)) z)
              refine ca_iload hX (q := 116) rfl rfl dX6_captain_114 ?_
              refine ca_if_lt hX (q := 119) 123 rfl rfl dX6_captain_116 (fun b116 => ?_) (fun b116 => ?_)
              · have hq := hm9.mp b116
                refine ca_iload hX (q := 125) rfl rfl dX6_captain_123 ?_
                refine ca_goto hX 130 rfl dX6_captain_125 ?_
                refine ca_iret hX rfl rfl rfl rfl dX6_captain_130 ?_
                exact re_end2 (by simp [cpA, noA, nk1, nk2, nk3, nk4, nk6, z020, z021, z010, z011, b4, er1, b11, er2, b16, b31, b116, (Int32.not_le.mpr b116), hq]) hfr hm hke
              · have hq := mt hm9.mpr b116
                refine ca_iload_n hX (q := 120) 3 rfl rfl rfl dX6_captain_119 ?_
                refine ca_if_ne hX (q := 123) 128 rfl rfl dX6_captain_120 (fun b120 => ?_) (fun b120 => ?_)
                · refine ca_iload hX (q := 130) rfl rfl dX6_captain_128 ?_
                  refine ca_iret hX rfl rfl rfl rfl dX6_captain_130 ?_
                  exact re_end2 (by simp [cpA, noA, nk1, nk2, nk3, nk4, nk6, z020, z021, z010, z011, b4, er1, b11, er2, b16, b31, b116, (Int32.not_lt.mp b116), hq, b120]) hfr hm hke
                · refine ca_iload hX (q := 125) rfl rfl dX6_captain_123 ?_
                  refine ca_goto hX 130 rfl dX6_captain_125 ?_
                  refine ca_iret hX rfl rfl rfl rfl dX6_captain_130 ?_
                  exact re_end2 (by simp [cpA, noA, nk1, nk2, nk3, nk4, nk6, z020, z021, z010, z011, b4, er1, b11, er2, b16, b31, b116, (Int32.not_lt.mp b116), hq, b120]) hfr hm hke
            | succ n ih =>
              intro i g M1 hi hm hke hfr
              obtain ⟨c0, c1, c2, c3, c4, c5, c6, c7, c8, c9, c10, c11, c12, c13⟩ := id hm
              rw [hke.1] at c1
              refine ca_iload hX (q := 54) rfl rfl dX6_captain_52 ?_
              refine ca_aload_n hX (q := 55) 0 rfl rfl rfl dX6_captain_54 ?_
              refine ca_getf hX (q := 58) cl_X6 0 (by decide) w_fl_X6_9 (by omega) c0 rfl rfl dX6_captain_55 ?_
              refine ca_iconst hX (q := 59) k_iconst_0 rfl dX6_captain_58 ?_
              refine ca_iaN hX (q := 60) (k := 0) (by omega) c1 (by decide) (by decide) (by decide) rfl dX6_captain_59 ?_
              refine ca_icmp_ge hX (q := 63) 114 rfl rfl dX6_captain_60 (fun z => absurd z (by rw [hP]; exact nI_ge (a := i) (b := P) (by omega) (by omega))) (fun _ => ?_)
              refine ca_aload_n hX (q := 64) 0 rfl rfl rfl dX6_captain_63 ?_
              refine ca_aload_n hX (q := 65) 0 rfl rfl rfl dX6_captain_64 ?_
              refine ca_getf hX (q := 68) cl_X6 0 (by decide) w_fl_X6_9 (by omega) c0 rfl rfl dX6_captain_65 ?_
              refine ca_iload_n hX (q := 69) 1 rfl rfl rfl dX6_captain_68 ?_
              refine ca_iload hX (q := 71) rfl rfl dX6_captain_69 ?_
              refine ca_cV hX (q := 74) y_X6_worthBy w_ml_X6_171 (by omega) hN c0 (c_X6_worthBy l N g o M1 hm ho (o + 1) (M 0) c1 (by omega) (by omega) P hP hP5 hok r1 hr1 i (by omega)) (by decide) rfl (Nat.le_of_ble_eq_true rfl) rfl dX6_captain_71 rfl ?_
              rintro _ g ⟨rfl, hf, M1, hm, hrf, e4, ej, e13⟩
              have hke := hke.tr (ke_bu e4 ej e13)
              have hfr := hfr.tr hf
              obtain ⟨c0, c1, c2, c3, c4, c5, c6, c7, c8, c9, c10, c11, c12, c13⟩ := id hm
              rw [hke.1] at c1
              refine ca_aload_n hX (q := 75) 0 rfl rfl rfl dX6_captain_74 ?_
              refine ca_aload_n hX (q := 76) 0 rfl rfl rfl dX6_captain_75 ?_
              refine ca_getf hX (q := 79) cl_X6 0 (by decide) w_fl_X6_9 (by omega) c0 rfl rfl dX6_captain_76 ?_
              refine ca_iload_n hX (q := 80) 2 rfl rfl rfl dX6_captain_79 ?_
              refine ca_iload hX (q := 82) rfl rfl dX6_captain_80 ?_
              refine ca_cV hX (q := 85) y_X6_worthBy w_ml_X6_171 (by omega) hN c0 (c_X6_worthBy l N g o M1 hm ho (o + 1) (M 0) c1 (by omega) (by omega) P hP hP5 hok r2 hr2 i (by omega)) (by decide) rfl (Nat.le_of_ble_eq_true rfl) rfl dX6_captain_82 rfl ?_
              rintro _ g ⟨rfl, hf, M1, hm, hrf, e4, ej, e13⟩
              have hke := hke.tr (ke_bu e4 ej e13)
              have hfr := hfr.tr hf
              obtain ⟨c0, c1, c2, c3, c4, c5, c6, c7, c8, c9, c10, c11, c12, c13⟩ := id hm
              rw [hke.1] at c1
              refine ca_cSi hX (q := 88) y_X6_most w_ml_X6_72 hN (c_X6_most l N g _ _) (by decide) rfl (Nat.le_of_ble_eq_true rfl) rfl dX6_captain_85 rfl ?_
              rw [show mxB (wS (M 0) r1 (alT i P).1 (alT i P).2 0) (wS (M 0) r2 (alT i P).1 (alT i P).2 0) = (vMx (M 0) P r1 r2) i from rfl]
              refine ca_istore hX (q := 90) (ls' := [_, _, _, _, _, _, _, _]) (Nat.le_of_ble_eq_true rfl) (Nat.le_of_ble_eq_true rfl) (Or.inr rfl) rfl rfl dX6_captain_88 ?_
              refine ca_iload hX (q := 92) rfl rfl dX6_captain_90 ?_
              refine ca_iload hX (q := 94) rfl rfl dX6_captain_92 ?_
              refine ca_icmp_lt hX (q := 97) 100 rfl rfl dX6_captain_94 (fun b94 => ?_) (fun b94 => ?_)
              · refine ca_iload hX (q := 102) rfl rfl dX6_captain_100 ?_
                refine ca_istore hX (q := 104) (ls' := [_, _, _, _, _, _, _, _]) (Nat.le_of_ble_eq_true rfl) (Nat.le_of_ble_eq_true rfl) (Or.inr rfl) rfl rfl dX6_captain_102 ?_
                refine ca_iload hX (q := 106) rfl rfl dX6_captain_104 ?_
                refine ca_istore hX (q := 108) (ls' := [_, _, _, _, _, _, _, _]) (Nat.le_of_ble_eq_true rfl) (Nat.le_of_ble_eq_true rfl) (Or.inr rfl) rfl rfl dX6_captain_106 ?_
                refine ca_iinc hX (q := 111) (ls' := [_, _, _, _, _, _, _, _]) k_iconst_1 rfl (Nat.le_of_ble_eq_true rfl) (Or.inr rfl) rfl rfl dX6_captain_108 ?_
                refine ca_goto hX 52 rfl dX6_captain_111 ?_
                have e1 : mnF (-9, 1000000000) (vMx (M 0) P r1 r2) (i + 1) = (nI i, (vMx (M 0) P r1 r2) i) := by rw [mnF, if_pos b94]
                rw [nI_1]
                exact ca_drop hX (ca_le_s rfl (ca_le_s rfl (ca_le_s rfl (ca_le_s rfl (ca_le_s (by rw [e1]) (ca_le_s (by rw [e1]) (ca_le_s rfl (ca_le_n ca_le_0)))))))) (ih (i + 1) _ M1 (by omega) hm hke hfr)
              · refine ca_goto hX 108 rfl dX6_captain_97 ?_
                refine ca_iinc hX (q := 111) (ls' := [_, _, _, _, _, _, _, _]) k_iconst_1 rfl (Nat.le_of_ble_eq_true rfl) (Or.inr rfl) rfl rfl dX6_captain_108 ?_
                refine ca_goto hX 52 rfl dX6_captain_111 ?_
                have e1 : mnF (-9, 1000000000) (vMx (M 0) P r1 r2) (i + 1) = mnF (-9, 1000000000) (vMx (M 0) P r1 r2) i := by rw [mnF, if_neg b94]
                rw [nI_1]
                exact ca_drop hX (ca_le_s rfl (ca_le_s rfl (ca_le_s rfl (ca_le_s rfl (ca_le_s (by rw [e1]) (ca_le_s (by rw [e1]) (ca_le_s rfl (ca_le_n ca_le_0)))))))) (ih (i + 1) _ M1 (by omega) hm hke hfr)
          refine ca_bipush hX (q := 43) k_bipush_m9 rfl dX6_captain_41 ?_
          refine ca_istore hX (q := 45) (ls' := [_, _, _, _, _, _, _, _]) (Nat.le_of_ble_eq_true rfl) (Nat.le_of_ble_eq_true rfl) (Or.inr rfl) rfl rfl dX6_captain_43 ?_
          refine ca_ldc hX (q := 47) w_k_X6_63 rfl dX6_captain_45 ?_
          refine ca_istore hX (q := 49) (ls' := [_, _, _, _, _, _, _, _]) (Nat.le_of_ble_eq_true rfl) (Nat.le_of_ble_eq_true rfl) (Or.inr rfl) rfl rfl dX6_captain_47 ?_
          refine ca_iconst hX (q := 50) k_iconst_0 rfl dX6_captain_49 ?_
          refine ca_istore hX (q := 52) (ls' := [_, _, _, _, _, _, _, _]) (Nat.le_of_ble_eq_true rfl) (Nat.le_of_ble_eq_true rfl) (Or.inr rfl) rfl rfl dX6_captain_50 ?_
          exact ca_drop hX (ca_le_s rfl (ca_le_s rfl (ca_le_s rfl (ca_le_s rfl (ca_le_s rfl (ca_le_s rfl (ca_le_s rfl (ca_le_n ca_le_0)))))))) (loop P 0 _ M (by omega) hm hke hfr)
        · refine ca_aload_n hX (q := 35) 0 rfl rfl rfl dX6_captain_34 ?_
          refine ca_bipush hX (q := 37) k_bipush_m2 rfl dX6_captain_35 ?_
          refine ca_cV hX (q := 40) y_X6_no w_ml_X6_51 (by omega) hN c0 (c_X6_no l N g o _ hm ho (-2) 2 (by decide) (by omega)) (by decide) rfl (Nat.le_of_ble_eq_true rfl) rfl dX6_captain_37 rfl ?_
          rintro _ g ⟨rfl, hm, hf⟩
          have hke := keM.no hke 2
          have hfr := hfr.tr hf
          refine ca_iret hX rfl rfl rfl rfl dX6_captain_40 ?_
          exact re_end2 (by simp [cpA, noA, nk1, nk2, nk3, nk4, nk6, z020, z021, z010, z011, b4, er1, b11, er2, b16, b31]) hfr hm hke
      · refine ca_aload_n hX (q := 20) 0 rfl rfl rfl dX6_captain_19 ?_
        refine ca_iconst hX (q := 21) k_iconst_m1 rfl dX6_captain_20 ?_
        refine ca_cV hX (q := 24) y_X6_no w_ml_X6_51 (by omega) hN c0 (c_X6_no l N g o _ hm ho (-1) 1 (by decide) (by omega)) (by decide) rfl (Nat.le_of_ble_eq_true rfl) rfl dX6_captain_21 rfl ?_
        rintro _ g ⟨rfl, hm, hf⟩
        have hke := keM.no hke 1
        have hfr := hfr.tr hf
        refine ca_iret hX rfl rfl rfl rfl dX6_captain_24 ?_
        exact re_end2 (by simp [cpA, noA, nk1, nk2, nk3, nk4, nk6, z020, z021, z010, z011, b4, er1, b11, er2, b16]) hfr hm hke

theorem ty_f {bu so f f' : Nat → Int32} {p : Nat} (h1 : ∀ r, r < 25 → knB f p r = knB f' p r) (h2 : ∀ r, r < 25 → wtK (f (2 + r)) (f (27 + r)) = wtK (f' (2 + r)) (f' (27 + r))) : ∀ n, n ≤ 25 → tyM bu so f p n = tyM bu so f' p n
  | 0, _ => rfl
  | n + 1, hn => by
    have ih := ty_f (bu := bu) (so := so) h1 h2 n (by omega)
    rw [tyM, tyM, ← ih, h1 n (by omega), h2 n (by omega)]
    rcases tyM_cases bu so f p n with e | ⟨q, hq, e⟩
    · rw [e, if_pos (show (-9 : Int32) < 0 by decide)]; simp only [show (-9 : Int32) < 0 by decide, if_true]
    · rw [e, nI_clamp (by omega), h2 q (by omega)]
theorem fi_congr {h h' : Nat → Int32} (hk : ∀ r, r < 25 → h (2 + r) = h' (2 + r)) (hw : ∀ r, r < 25 → wtH h r = wtH h' r) (hn : ∀ p, p < 5 → ∀ r, r < 25 → h (57 + (25 * p + r)) = h' (57 + (25 * p + r))) (r0 tn : Nat) (tu : Nat → Nat) (htu : ∀ j, j < tn → tu j < 5) (x : Int32) : fiS h r0 tn tu x = fiS h' r0 tn tu x ∧ ctS h = ctS h' := by
  have hc : ctS h = ctS h' := by
    funext c
    have key : ∀ n, n ≤ 25 → mkM h c n = mkM h' c n := by
      intro n
      induction n with
      | zero => intro _; rfl
      | succ n ih =>
        intro hn1
        rw [mkM, mkM, ih (by omega), show ctH h n = ctH h' n by rw [ctH, ctH, kdH, kdH, hk n (by omega)]]
    exact key 25 (Nat.le_refl _)
  refine ⟨?_, hc⟩
  have hr : ∀ TT k sr, rvT TT h tn tu x k sr = rvT TT h' tn tu x k sr := by
    intro TT k sr
    unfold rvT
    by_cases z : tn = 0
    · rw [if_pos (Or.inl z), if_pos (Or.inl z)]
    · have := htu ((k - 1) % tn) (Nat.mod_lt _ (by omega))
      rw [ty_f (fun r hr => by unfold knB; rw [hk r hr, hn _ this r hr]) (fun r hr => hw r hr) 25 (Nat.le_refl _)]
  have hm : ∀ TT n k sr sd sb, mrM TT h tn tu x n k sr sd sb = mrM TT h' tn tu x n k sr sd sb := by
    intro TT n
    induction n with
    | zero => intro k sr sd sb; rfl
    | succ n ih =>
      intro k sr sd sb
      rw [mrM, mrM, hr, ih, ih]
  unfold fiS
  rw [hc, hm]
theorem wS_congr {h h' : Nat → Int32} (hk : ∀ r, r < 25 → h (2 + r) = h' (2 + r)) (hw : ∀ r, r < 25 → wtH h r = wtH h' r) (hn : ∀ p, p < 5 → ∀ r, r < 25 → h (57 + (25 * p + r)) = h' (57 + (25 * p + r))) (r0 tn : Nat) (tu : Nat → Nat) (htu : ∀ j, j < tn → tu j < 5) (x : Int32) : wS h r0 tn tu x = wS h' r0 tn tu x := by
  obtain ⟨e, ec⟩ := fi_congr hk hw hn r0 tn tu htu x
  unfold wS
  refine sm_congr 25 (fun r hr => ?_)
  have eb : buS h r0 tn tu x r = buS h' r0 tn tu x r := by unfold buS tS; rw [e, ec]
  unfold bwF
  rw [eb, show wtK (h (2 + r)) (h (27 + r)) = wtK (h' (2 + r)) (h' (27 + r)) from hw r hr]
theorem al_lt {P : Nat} (hP5 : P ≤ 5) (a j : Nat) (h : j < (alT a P).1) : (alT a P).2 j < 5 := by
  have hle := tr_le a P (fun _ => true) P
  have h' : j < (trM a P (fun _ => true) P).1 := h
  have : (alT a P).2 j < P := tr_lt (show 0 < P by omega) P j h
  omega
theorem ok_kn {h : Nat → Int32} (ho : okH h) {k : Nat} (hk : 57 ≤ k) (v : Int32) : okH (upd h k v) := by
  intro r hr
  have e : wtH (upd h k v) r = wtH h r := by unfold wtH kdH fgH; rw [upd_n _ _ (by omega), upd_n _ _ (by omega)]
  rw [e]; exact ho r hr
theorem upd_bk (f : Nat → Int32) (k : Nat) (x : Int32) : upd (upd f k x) k (f k) = f := by
  funext j
  by_cases h : j = k
  · rw [h, upd_s]
  · rw [upd_n _ _ h, upd_n _ _ h]
theorem wt_4 (f : Int32) : wtK 4 f = 0 := by unfold wtK; rfl
theorem ok_wl {h : Nat → Int32} (ho : okH h) (i : Nat) (hi : i < 25) : okH (upd h (2 + i) 4) := by
  intro r hr
  unfold wtH kdH fgH
  by_cases z : r = i
  · rw [z, upd_s, wt_4]; decide
  · rw [upd_n _ _ (by omega)]
    by_cases z2 : 27 + r = 2 + i
    · omega
    · rw [upd_n _ _ z2]; exact ho r hr
theorem keM.st {M M1 : Nat → Nat → Int32} (h : keM M M1) {i : Nat} (F : Nat → Int32) (hi : i = 1 ∨ i = 3) : keM M (stB M1 i F) := by
  obtain ⟨a0, a1, a2, a3, a4, a5, a6, a7, a8⟩ := h
  unfold keM
  rw [st_n _ _ (j := 0) (by omega), st_n _ _ (j := 2) (by omega), st_n _ _ (j := 4) (by omega), st_n _ _ (j := 5) (by omega), st_n _ _ (j := 6) (by omega), st_n _ _ (j := 13) (by omega)]
  exact ⟨a0, a1, a2, a3, a4, a5, a6, a7, a8⟩
def swV (h : Nat → Int32) (P r p i : Nat) : Int32 := wA (upd h (57 + (25 * p + i)) 9) P r 0
def shwA (M : Nat → Nat → Int32) (P : Nat) (x p : Int32) : An := if rmB x = 0 then noA M 1 else if hpB (M 0 0) p = 0 then noA M 1 else ((mnF (-9, wA (M 0) P x.toNatClampNeg 0) (swV (M 0) P x.toNatClampNeg p.toNatClampNeg) 25).1, M)

set_option maxRecDepth 100000 in
set_option maxHeartbeats 4000000 in
theorem k_show (l : Launch) (N : Nat) (g0 : ca_G) (M : Nat → Nat → Int32) (t : Nat → Int32) (B : Nat → Nat → Int32) (hx : clX g0 M t B) (hN31 : 31 ≤ N) (P : Nat) (w : wfH (M 0) P) (x1 x2 : Int32) : ca_Ct l yX5_show cX5_show 7 (some .int) 6 0 0 N 1000000 [.ref 0, .int x1, .int x2] g0 (clP g0 (shwA M P x1 x2)) := by
  refine ca_intro (by decide) (Nat.le_of_ble_eq_true rfl) (fun X hX hN => ?_)
  show X 0 [_, _, _, none, none, none, none] [] N 1000000 g0
  obtain ⟨g, hgg⟩ : ∃ g, g = g0 := ⟨g0, rfl⟩
  rw [← hgg] at hx ⊢
  have hfr : frG g0 g 0 31 := by rw [hgg]; exact frG.rf
  obtain ⟨hc, hh, hkp, htr, hz, htl, hlt, hrw, h30⟩ := id hx
  have h0 := hh.1
  have k0 := hkp.1
  have t0 := htr.1
  have d0 := hz.1
  have l0 := hlt.1
  have w0 := hrw.1
  have hP := w.1
  have hP5 := w.2.1
  have hok := wf_ok w
  refine ca_iload_n hX (q := 1) 1 rfl rfl rfl dX5_show_0 ?_
  refine ca_cSi hX (q := 4) y_X5_isRoom w_ml_X5_78 hN (c_X5_isRoom l N g _) (by decide) rfl (Nat.le_of_ble_eq_true rfl) rfl dX5_show_1 rfl ?_
  refine ca_if_eq hX (q := 7) 15 rfl rfl dX5_show_4 (fun c4 => ?_) (fun c4 => ?_)
  · refine ca_aload_n hX (q := 16) 0 rfl rfl rfl dX5_show_15 ?_
    refine ca_iconst hX (q := 17) k_iconst_m1 rfl dX5_show_16 ?_
    refine ca_cV hX (q := 20) y_X5_refuse w_ml_X5_53 (by omega) hN hc (c_X5_refuse l N g _ hc hN31 (M 6) h30 (-1) 1 (by decide) (by omega) (by omega)) (by decide) rfl (Nat.le_of_ble_eq_true rfl) rfl dX5_show_17 rfl ?_
    rintro _ g ⟨rfl, h30, hf⟩
    have hx := hx.rf hf h30
    have hfr := hfr.tr (hf.wd (by omega) (by omega))
    refine ca_iret hX rfl rfl rfl rfl dX5_show_20 ?_
    exact cl_end (by simp [shwA, noA, nk1, nk2, nk3, nk4, nk6, c4]) hfr hx
  · obtain ⟨r1, hr1, rfl⟩ := rm_ok c4
    have er1 := nI_clamp (n := r1) (by omega)
    refine ca_aload_n hX (q := 8) 0 rfl rfl rfl dX5_show_7 ?_
    refine ca_iload_n hX (q := 9) 2 rfl rfl rfl dX5_show_8 ?_
    refine ca_cVi hX (q := 12) y_X5_isPerson w_ml_X5_97 (by omega) hN hc (c_X5_isPerson l N g _ hc hN31 (M 0) hh _) (by decide) rfl (Nat.le_of_ble_eq_true rfl) rfl dX5_show_9 rfl ?_
    refine ca_if_ne hX (q := 15) 21 rfl rfl dX5_show_12 (fun c12 => ?_) (fun c12 => ?_)
    · obtain ⟨p2, hp2, rfl⟩ := hp_ok hP hP5 c12
      have ep2 := nI_clamp (n := p2) (by omega)
      refine ca_aload_n hX (q := 22) 0 rfl rfl rfl dX5_show_21 ?_
      refine ca_aload_n hX (q := 23) 0 rfl rfl rfl dX5_show_22 ?_
      refine ca_getf hX (q := 26) cl_X5 0 (by decide) w_fl_X5_10 (by omega) hc rfl rfl dX5_show_23 ?_
      refine ca_iload_n hX (q := 27) 1 rfl rfl rfl dX5_show_26 ?_
      refine ca_cV hX (q := 30) y_X5_worthIn w_ml_X5_171 (by omega) hN hc (c_X5_worthIn l N g _ hc hN31 B hz 1 (M 0) hh (by omega) (by omega) P hP hP5 hok r1 hr1) (by decide) rfl (Nat.le_of_ble_eq_true rfl) rfl dX5_show_27 rfl ?_
      rintro _ g ⟨rfl, hf, B, hz, hlo, hsp, hfd⟩
      have hx := hx.bz hf hz
      have hfr := hfr.tr (hf.wd (by omega) (by omega))
      obtain ⟨hc, hh, hkp, htr, hz, htl, hlt, hrw, h30⟩ := id hx
      have h0 := hh.1
      have k0 := hkp.1
      have t0 := htr.1
      have d0 := hz.1
      have l0 := hlt.1
      have w0 := hrw.1
      refine ca_istore_n hX (q := 31) 3 rfl (ls' := [_, _, _, _, _, _, _]) (Nat.le_of_ble_eq_true rfl) (Nat.le_of_ble_eq_true rfl) (Or.inr rfl) rfl rfl dX5_show_30 ?_
      refine ca_bipush hX (q := 33) k_bipush_m9 rfl dX5_show_31 ?_
      refine ca_istore hX (q := 35) (ls' := [_, _, _, _, _, _, _]) (Nat.le_of_ble_eq_true rfl) (Nat.le_of_ble_eq_true rfl) (Or.inr rfl) rfl rfl dX5_show_33 ?_
      refine ca_aload_n hX (q := 36) 0 rfl rfl rfl dX5_show_35 ?_
      refine ca_getf hX (q := 39) cl_X5 2 (by decide) w_fl_X5_19 (by omega) hc rfl rfl dX5_show_36 ?_
      refine ca_aload_n hX (q := 40) 0 rfl rfl rfl dX5_show_39 ?_
      refine ca_getf hX (q := 43) cl_X5 0 (by decide) w_fl_X5_10 (by omega) hc rfl rfl dX5_show_40 ?_
      refine ca_cV hX (q := 46) y_X1_become w_ml_X5_67 (by omega) hN t0 (c_X1_become l N g 11 t htr (by omega) 1 (M 0) hh (by omega) (by omega)) (by decide) rfl (Nat.le_of_ble_eq_true rfl) rfl dX5_show_43 rfl ?_
      rintro _ g ⟨rfl, hq, hf⟩
      have hx := hx.tr hf hq
      have hfr := hfr.tr (hf.wd (by omega) (by omega))
      obtain ⟨hc, hh, hkp, htr, hz, htl, hlt, hrw, h30⟩ := id hx
      have h0 := hh.1
      have k0 := hkp.1
      have t0 := htr.1
      have d0 := hz.1
      have l0 := hlt.1
      have w0 := hrw.1
      have loop : ∀ (n i : Nat) (g1 : ca_G) (B1 : Nat → Nat → Int32), i + n = 25 → clX g1 M (M 0) B1 → frG g0 g1 0 31 → X 49 [some (.ref 0), some (.int (nI r1)), some (.int (nI p2)), some (.int (mnF (-9, wA (M 0) P r1 0) (swV (M 0) P r1 p2) i).2), some (.int (mnF (-9, wA (M 0) P r1 0) (swV (M 0) P r1 p2) i).1), some (.int (nI i)), none] [] N 1000000 g1 := by
        intro n
        induction n with
        | zero =>
          intro i g B hi hx hfr
          have hib : i = 25 := by omega
          rw [hib]
          obtain ⟨hc, hh, hkp, htr, hz, htl, hlt, hrw, h30⟩ := id hx
          have h0 := hh.1
          have k0 := hkp.1
          have t0 := htr.1
          have d0 := hz.1
          have l0 := hlt.1
          have w0 := hrw.1
          refine ca_iload hX (q := 51) rfl rfl dX5_show_49 ?_
          refine ca_bipush hX (q := 53) k_bipush_25 rfl dX5_show_51 ?_
          refine ca_icmp_ge hX (q := 56) 118 rfl rfl dX5_show_53 (fun _ => ?_) (fun z => absurd (nI_le (a := 25) (b := 25) (by omega) (by omega)) z)
          refine ca_iload hX (q := 120) rfl rfl dX5_show_118 ?_
          refine ca_iret hX rfl rfl rfl rfl dX5_show_120 ?_
          exact cl_end (by simp [shwA, noA, nk1, nk2, nk3, nk4, nk6, c4, er1, c12, ep2]) hfr hx
        | succ n ih =>
          intro i g B hi hx hfr
          obtain ⟨hc, hh, hkp, htr, hz, htl, hlt, hrw, h30⟩ := id hx
          have h0 := hh.1
          have k0 := hkp.1
          have t0 := htr.1
          have d0 := hz.1
          have l0 := hlt.1
          have w0 := hrw.1
          refine ca_iload hX (q := 51) rfl rfl dX5_show_49 ?_
          refine ca_bipush hX (q := 53) k_bipush_25 rfl dX5_show_51 ?_
          refine ca_icmp_ge hX (q := 56) 118 rfl rfl dX5_show_53 (fun z => absurd z (nI_ge (a := i) (b := 25) (by omega) (by omega))) (fun _ => ?_)
          refine ca_aload_n hX (q := 57) 0 rfl rfl rfl dX5_show_56 ?_
          refine ca_getf hX (q := 60) cl_X5 2 (by decide) w_fl_X5_19 (by omega) hc rfl rfl dX5_show_57 ?_
          refine ca_iload_n hX (q := 61) 2 rfl rfl rfl dX5_show_60 ?_
          refine ca_iload hX (q := 63) rfl rfl dX5_show_61 ?_
          refine ca_bipush hX (q := 65) k_bipush_9 rfl dX5_show_63 ?_
          refine ca_cV hX (q := 68) y_X1_learn w_ml_X5_115 (by omega) hN t0 (c_X1_learn l N g 11 (M 0) htr (by omega) P hP hP5 p2 i hp2 (by omega) 9) (by decide) rfl (Nat.le_of_ble_eq_true rfl) rfl dX5_show_65 rfl ?_
          rintro _ g ⟨rfl, hq, hf⟩
          have hx := hx.tr hf hq
          have hfr := hfr.tr (hf.wd (by omega) (by omega))
          obtain ⟨hc, hh, hkp, htr, hz, htl, hlt, hrw, h30⟩ := id hx
          have h0 := hh.1
          have k0 := hkp.1
          have t0 := htr.1
          have d0 := hz.1
          have l0 := hlt.1
          have w0 := hrw.1
          refine ca_aload_n hX (q := 69) 0 rfl rfl rfl dX5_show_68 ?_
          refine ca_aload_n hX (q := 70) 0 rfl rfl rfl dX5_show_69 ?_
          refine ca_getf hX (q := 73) cl_X5 2 (by decide) w_fl_X5_19 (by omega) hc rfl rfl dX5_show_70 ?_
          refine ca_iload_n hX (q := 74) 1 rfl rfl rfl dX5_show_73 ?_
          refine ca_cV hX (q := 77) y_X5_worthIn w_ml_X5_171 (by omega) hN hc (c_X5_worthIn l N g _ hc hN31 B hz 11 (upd (M 0) (57 + (25 * p2 + i)) 9) htr (by omega) (by omega) P (by rw [upd_n _ _ (by omega)]; exact hP) hP5 (ok_kn hok (by omega) 9) r1 hr1) (by decide) rfl (Nat.le_of_ble_eq_true rfl) rfl dX5_show_74 rfl ?_
          rintro _ g ⟨rfl, hf, B, hz, hlo, hsp, hfd⟩
          have hx := hx.bz hf hz
          have hfr := hfr.tr (hf.wd (by omega) (by omega))
          obtain ⟨hc, hh, hkp, htr, hz, htl, hlt, hrw, h30⟩ := id hx
          have h0 := hh.1
          have k0 := hkp.1
          have t0 := htr.1
          have d0 := hz.1
          have l0 := hlt.1
          have w0 := hrw.1
          rw [show wS (upd (M 0) (57 + (25 * p2 + i)) 9) r1 (alT 0 P).1 (alT 0 P).2 0 = (swV (M 0) P r1 p2) i from rfl]
          refine ca_istore hX (q := 79) (ls' := [_, _, _, _, _, _, _]) (Nat.le_of_ble_eq_true rfl) (Nat.le_of_ble_eq_true rfl) (Or.inr rfl) rfl rfl dX5_show_77 ?_
          refine ca_iload hX (q := 81) rfl rfl dX5_show_79 ?_
          refine ca_iload_n hX (q := 82) 3 rfl rfl rfl dX5_show_81 ?_
          refine ca_icmp_ge hX (q := 85) 92 rfl rfl dX5_show_82 (fun c82 => ?_) (fun c82 => ?_)
          · refine ca_aload_n hX (q := 93) 0 rfl rfl rfl dX5_show_92 ?_
            refine ca_getf hX (q := 96) cl_X5 2 (by decide) w_fl_X5_19 (by omega) hc rfl rfl dX5_show_93 ?_
            refine ca_iload_n hX (q := 97) 2 rfl rfl rfl dX5_show_96 ?_
            refine ca_iload hX (q := 99) rfl rfl dX5_show_97 ?_
            refine ca_aload_n hX (q := 100) 0 rfl rfl rfl dX5_show_99 ?_
            refine ca_getf hX (q := 103) cl_X5 0 (by decide) w_fl_X5_10 (by omega) hc rfl rfl dX5_show_100 ?_
            refine ca_iload_n hX (q := 104) 2 rfl rfl rfl dX5_show_103 ?_
            refine ca_iload hX (q := 106) rfl rfl dX5_show_104 ?_
            refine ca_cVi hX (q := 109) y_X1_knownBy w_ml_X5_103 (by omega) hN h0 (c_X1_knownBy l N g 1 (M 0) hh (by omega) P hP hP5 p2 i hp2 (by omega)) (by decide) rfl (Nat.le_of_ble_eq_true rfl) rfl dX5_show_106 rfl ?_
            refine ca_cV hX (q := 112) y_X1_learn w_ml_X5_115 (by omega) hN t0 (c_X1_learn l N g 11 (upd (M 0) (57 + (25 * p2 + i)) 9) htr (by omega) P (by rw [upd_n _ _ (by omega)]; exact hP) hP5 p2 i hp2 (by omega) (knH (M 0) p2 i)) (by decide) rfl (Nat.le_of_ble_eq_true rfl) rfl dX5_show_109 rfl ?_
            rintro _ g ⟨rfl, hq, hf⟩
            rw [show knH (M 0) p2 i = M 0 (57 + (25 * p2 + i)) from rfl, upd_bk] at hq
            have hx := hx.tr hf hq
            have hfr := hfr.tr (hf.wd (by omega) (by omega))
            obtain ⟨hc, hh, hkp, htr, hz, htl, hlt, hrw, h30⟩ := id hx
            have h0 := hh.1
            have k0 := hkp.1
            have t0 := htr.1
            have d0 := hz.1
            have l0 := hlt.1
            have w0 := hrw.1
            refine ca_iinc hX (q := 115) (ls' := [_, _, _, _, _, _, _]) k_iconst_1 rfl (Nat.le_of_ble_eq_true rfl) (Or.inr rfl) rfl rfl dX5_show_112 ?_
            refine ca_goto hX 49 rfl dX5_show_115 ?_
            have e1 : mnF (-9, wA (M 0) P r1 0) (swV (M 0) P r1 p2) (i + 1) = mnF (-9, wA (M 0) P r1 0) (swV (M 0) P r1 p2) i := by rw [mnF, if_neg (Int32.not_lt.mpr c82)]
            rw [nI_1]
            exact ca_drop hX (ca_le_s rfl (ca_le_s rfl (ca_le_s rfl (ca_le_s (by rw [e1]) (ca_le_s (by rw [e1]) (ca_le_s rfl (ca_le_n ca_le_0))))))) (ih (i + 1) _ B (by omega) hx hfr)
          · refine ca_iload hX (q := 87) rfl rfl dX5_show_85 ?_
            refine ca_istore_n hX (q := 88) 3 rfl (ls' := [_, _, _, _, _, _, _]) (Nat.le_of_ble_eq_true rfl) (Nat.le_of_ble_eq_true rfl) (Or.inr rfl) rfl rfl dX5_show_87 ?_
            refine ca_iload hX (q := 90) rfl rfl dX5_show_88 ?_
            refine ca_istore hX (q := 92) (ls' := [_, _, _, _, _, _, _]) (Nat.le_of_ble_eq_true rfl) (Nat.le_of_ble_eq_true rfl) (Or.inr rfl) rfl rfl dX5_show_90 ?_
            refine ca_aload_n hX (q := 93) 0 rfl rfl rfl dX5_show_92 ?_
            refine ca_getf hX (q := 96) cl_X5 2 (by decide) w_fl_X5_19 (by omega) hc rfl rfl dX5_show_93 ?_
            refine ca_iload_n hX (q := 97) 2 rfl rfl rfl dX5_show_96 ?_
            refine ca_iload hX (q := 99) rfl rfl dX5_show_97 ?_
            refine ca_aload_n hX (q := 100) 0 rfl rfl rfl dX5_show_99 ?_
            refine ca_getf hX (q := 103) cl_X5 0 (by decide) w_fl_X5_10 (by omega) hc rfl rfl dX5_show_100 ?_
            refine ca_iload_n hX (q := 104) 2 rfl rfl rfl dX5_show_103 ?_
            refine ca_iload hX (q := 106) rfl rfl dX5_show_104 ?_
            refine ca_cVi hX (q := 109) y_X1_knownBy w_ml_X5_103 (by omega) hN h0 (c_X1_knownBy l N g 1 (M 0) hh (by omega) P hP hP5 p2 i hp2 (by omega)) (by decide) rfl (Nat.le_of_ble_eq_true rfl) rfl dX5_show_106 rfl ?_
            refine ca_cV hX (q := 112) y_X1_learn w_ml_X5_115 (by omega) hN t0 (c_X1_learn l N g 11 (upd (M 0) (57 + (25 * p2 + i)) 9) htr (by omega) P (by rw [upd_n _ _ (by omega)]; exact hP) hP5 p2 i hp2 (by omega) (knH (M 0) p2 i)) (by decide) rfl (Nat.le_of_ble_eq_true rfl) rfl dX5_show_109 rfl ?_
            rintro _ g ⟨rfl, hq, hf⟩
            rw [show knH (M 0) p2 i = M 0 (57 + (25 * p2 + i)) from rfl, upd_bk] at hq
            have hx := hx.tr hf hq
            have hfr := hfr.tr (hf.wd (by omega) (by omega))
            obtain ⟨hc, hh, hkp, htr, hz, htl, hlt, hrw, h30⟩ := id hx
            have h0 := hh.1
            have k0 := hkp.1
            have t0 := htr.1
            have d0 := hz.1
            have l0 := hlt.1
            have w0 := hrw.1
            refine ca_iinc hX (q := 115) (ls' := [_, _, _, _, _, _, _]) k_iconst_1 rfl (Nat.le_of_ble_eq_true rfl) (Or.inr rfl) rfl rfl dX5_show_112 ?_
            refine ca_goto hX 49 rfl dX5_show_115 ?_
            have e1 : mnF (-9, wA (M 0) P r1 0) (swV (M 0) P r1 p2) (i + 1) = (nI i, (swV (M 0) P r1 p2) i) := by rw [mnF, if_pos (Int32.not_le.mp c82)]
            rw [nI_1]
            exact ca_drop hX (ca_le_s rfl (ca_le_s rfl (ca_le_s rfl (ca_le_s (by rw [e1]) (ca_le_s (by rw [e1]) (ca_le_s rfl (ca_le_n ca_le_0))))))) (ih (i + 1) _ B (by omega) hx hfr)
      refine ca_iconst hX (q := 47) k_iconst_0 rfl dX5_show_46 ?_
      refine ca_istore hX (q := 49) (ls' := [_, _, _, _, _, _, _]) (Nat.le_of_ble_eq_true rfl) (Nat.le_of_ble_eq_true rfl) (Or.inr rfl) rfl rfl dX5_show_47 ?_
      exact ca_drop hX (ca_le_s rfl (ca_le_s rfl (ca_le_s rfl (ca_le_s rfl (ca_le_s rfl (ca_le_s rfl (ca_le_n ca_le_0))))))) (loop 25 0 _ B (by omega) hx hfr)
    · refine ca_aload_n hX (q := 16) 0 rfl rfl rfl dX5_show_15 ?_
      refine ca_iconst hX (q := 17) k_iconst_m1 rfl dX5_show_16 ?_
      refine ca_cV hX (q := 20) y_X5_refuse w_ml_X5_53 (by omega) hN hc (c_X5_refuse l N g _ hc hN31 (M 6) h30 (-1) 1 (by decide) (by omega) (by omega)) (by decide) rfl (Nat.le_of_ble_eq_true rfl) rfl dX5_show_17 rfl ?_
      rintro _ g ⟨rfl, h30, hf⟩
      have hx := hx.rf hf h30
      have hfr := hfr.tr (hf.wd (by omega) (by omega))
      refine ca_iret hX rfl rfl rfl rfl dX5_show_20 ?_
      exact cl_end (by simp [shwA, noA, nk1, nk2, nk3, nk4, nk6, c4, er1, c12]) hfr hx

set_option maxRecDepth 100000 in
set_option maxHeartbeats 4000000 in
theorem m_show (l : Launch) (N : Nat) (g0 : ca_G) (o : Nat) (M : Nat → Nat → Int32) (hm : mdG g0 o M) (ho : o + 14 ≤ N) (hs4 : M 13 4 = 0) (P : Nat) (w : wfH (M 0) P) (x1 x2 : Int32) : ca_Ct l yX6_show cX6_show 7 (some .int) 5 0 0 N 1000000 [.ref o, .int x1, .int x2] g0 (reP o g0 (shwA M P x1 x2)) := by
  refine ca_intro (by decide) (Nat.le_of_ble_eq_true rfl) (fun X hX hN => ?_)
  show X 0 [_, _, _, none, none, none, none] [] N 1000000 g0
  obtain ⟨g, hgg⟩ : ∃ g, g = g0 := ⟨g0, rfl⟩
  rw [← hgg] at hm ⊢
  have hfr : frG g0 g o (o + 14) := by rw [hgg]; exact frG.rf
  have hke := keM.rf hs4
  obtain ⟨c0, c1, c2, c3, c4, c5, c6, c7, c8, c9, c10, c11, c12, c13⟩ := id hm
  have hP := w.1
  have hP5 := w.2.1
  have hok := wf_ok w
  refine ca_iload_n hX (q := 1) 1 rfl rfl rfl dX6_show_0 ?_
  refine ca_cSi hX (q := 4) y_X6_isRoom w_ml_X6_138 hN (c_R_isRoom l N g _) (by decide) rfl (Nat.le_of_ble_eq_true rfl) rfl dX6_show_1 rfl ?_
  refine ca_if_eq hX (q := 7) 15 rfl rfl dX6_show_4 (fun b4 => ?_) (fun b4 => ?_)
  · refine ca_aload_n hX (q := 16) 0 rfl rfl rfl dX6_show_15 ?_
    refine ca_iconst hX (q := 17) k_iconst_m1 rfl dX6_show_16 ?_
    refine ca_cV hX (q := 20) y_X6_no w_ml_X6_51 (by omega) hN c0 (c_X6_no l N g o _ hm ho (-1) 1 (by decide) (by omega)) (by decide) rfl (Nat.le_of_ble_eq_true rfl) rfl dX6_show_17 rfl ?_
    rintro _ g ⟨rfl, hm, hf⟩
    have hke := keM.no hke 1
    have hfr := hfr.tr hf
    refine ca_iret hX rfl rfl rfl rfl dX6_show_20 ?_
    exact re_end2 (by simp [shwA, noA, nk1, nk2, nk3, nk4, nk6, z020, z021, z010, z011, b4]) hfr hm hke
  · obtain ⟨r1, hr1, rfl⟩ := rm_ok b4
    have er1 := nI_clamp (n := r1) (by omega)
    refine ca_aload_n hX (q := 8) 0 rfl rfl rfl dX6_show_7 ?_
    refine ca_iload_n hX (q := 9) 2 rfl rfl rfl dX6_show_8 ?_
    refine ca_cVi hX (q := 12) y_X6_isPerson w_ml_X6_59 (by omega) hN c0 (c_R_isPerson l N g o M hm ho P hP hP5 _) (by decide) rfl (Nat.le_of_ble_eq_true rfl) rfl dX6_show_9 rfl ?_
    refine ca_if_ne hX (q := 15) 21 rfl rfl dX6_show_12 (fun b12 => ?_) (fun b12 => ?_)
    · obtain ⟨p2, hp2, rfl⟩ := hp_ok hP hP5 b12
      have ep2 := nI_clamp (n := p2) (by omega)
      refine ca_bipush hX (q := 23) k_bipush_m9 rfl dX6_show_21 ?_
      refine ca_istore_n hX (q := 24) 3 rfl (ls' := [_, _, _, _, _, _, _]) (Nat.le_of_ble_eq_true rfl) (Nat.le_of_ble_eq_true rfl) (Or.inr rfl) rfl rfl dX6_show_23 ?_
      refine ca_aload_n hX (q := 25) 0 rfl rfl rfl dX6_show_24 ?_
      refine ca_aload_n hX (q := 26) 0 rfl rfl rfl dX6_show_25 ?_
      refine ca_getf hX (q := 29) cl_X6 0 (by decide) w_fl_X6_9 (by omega) c0 rfl rfl dX6_show_26 ?_
      refine ca_iload_n hX (q := 30) 1 rfl rfl rfl dX6_show_29 ?_
      refine ca_iconst hX (q := 31) k_iconst_0 rfl dX6_show_30 ?_
      refine ca_cV hX (q := 34) y_X6_worthBy w_ml_X6_171 (by omega) hN c0 (c_X6_worthBy l N g o M hm ho (o + 1) (M 0) c1 (by omega) (by omega) P hP hP5 hok r1 hr1 0 (by omega)) (by decide) rfl (Nat.le_of_ble_eq_true rfl) rfl dX6_show_31 rfl ?_
      rintro _ g ⟨rfl, hf, M1, hm, hrf, e4, ej, e13⟩
      have hke := hke.tr (ke_bu e4 ej e13)
      have hfr := hfr.tr hf
      obtain ⟨c0, c1, c2, c3, c4, c5, c6, c7, c8, c9, c10, c11, c12, c13⟩ := id hm
      rw [hke.1] at c1
      refine ca_istore hX (q := 36) (ls' := [_, _, _, _, _, _, _]) (Nat.le_of_ble_eq_true rfl) (Nat.le_of_ble_eq_true rfl) (Or.inr rfl) rfl rfl dX6_show_34 ?_
      have loop : ∀ (n i : Nat) (g1 : ca_G) (M1 : Nat → Nat → Int32), i + n = 25 → mdG g1 o M1 → keM M M1 → frG g0 g1 o (o + 14) → X 39 [some (.ref o), some (.int (nI r1)), some (.int (nI p2)), some (.int (mnF (-9, wA (M 0) P r1 0) (swV (M 0) P r1 p2) i).1), some (.int (mnF (-9, wA (M 0) P r1 0) (swV (M 0) P r1 p2) i).2), some (.int (nI i)), none] [] N 1000000 g1 := by
        intro n
        induction n with
        | zero =>
          intro i g M1 hi hm hke hfr
          have hib : i = 25 := by omega
          rw [hib]
          obtain ⟨c0, c1, c2, c3, c4, c5, c6, c7, c8, c9, c10, c11, c12, c13⟩ := id hm
          rw [hke.1] at c1
          refine ca_iload hX (q := 41) rfl rfl dX6_show_39 ?_
          refine ca_bipush hX (q := 43) k_bipush_25 rfl dX6_show_41 ?_
          refine ca_icmp_ge hX (q := 46) 105 rfl rfl dX6_show_43 (fun _ => ?_) (fun z => absurd (nI_le (a := 25) (b := 25) (by omega) (by omega)) z)
          refine ca_iload_n hX (q := 106) 3 rfl rfl rfl dX6_show_105 ?_
          refine ca_iret hX rfl rfl rfl rfl dX6_show_106 ?_
          exact re_end2 (by simp [shwA, noA, nk1, nk2, nk3, nk4, nk6, z020, z021, z010, z011, b4, er1, b12, ep2]) hfr hm hke
        | succ n ih =>
          intro i g M1 hi hm hke hfr
          obtain ⟨c0, c1, c2, c3, c4, c5, c6, c7, c8, c9, c10, c11, c12, c13⟩ := id hm
          rw [hke.1] at c1
          refine ca_iload hX (q := 41) rfl rfl dX6_show_39 ?_
          refine ca_bipush hX (q := 43) k_bipush_25 rfl dX6_show_41 ?_
          refine ca_icmp_ge hX (q := 46) 105 rfl rfl dX6_show_43 (fun z => absurd z (nI_ge (a := i) (b := 25) (by omega) (by omega))) (fun _ => ?_)
          refine ca_aload_n hX (q := 47) 0 rfl rfl rfl dX6_show_46 ?_
          refine ca_getf hX (q := 50) cl_X6 0 (by decide) w_fl_X6_9 (by omega) c0 rfl rfl dX6_show_47 ?_
          refine ca_aload_n hX (q := 51) 0 rfl rfl rfl dX6_show_50 ?_
          refine ca_getf hX (q := 54) cl_X6 1 (by decide) w_fl_X6_13 (by omega) c0 rfl rfl dX6_show_51 ?_
          refine ca_cS hX (q := 57) y_X6_lays w_ml_X6_147 hN (c_X6_lays l N g (o + 1) (o + 2) _ _ c1 c2 (by omega) (by omega) (by omega)) (by decide) rfl (Nat.le_of_ble_eq_true rfl) rfl dX6_show_54 rfl ?_
          rintro _ g ⟨rfl, hE, hF⟩
          refine ca_same hX (f' := M 0) (by omega) hN hE (fun j hj => if_pos hj) (fun g hE2 hF2 => ?_)
          have hm := md_f1 hm hE2 (fun j hj => (hF2 j hj).trans (hF j hj))
          have hke := hke.st (i := 1) (M 0) (by omega)
          obtain ⟨c0, c1, c2, c3, c4, c5, c6, c7, c8, c9, c10, c11, c12, c13⟩ := id hm
          rw [hke.1] at c1
          have hfr := hfr.tr (fun j hj => (hF2 j (by omega)).trans (hF j (by omega)))
          refine ca_aload_n hX (q := 58) 0 rfl rfl rfl dX6_show_57 ?_
          refine ca_getf hX (q := 61) cl_X6 1 (by decide) w_fl_X6_13 (by omega) c0 rfl rfl dX6_show_58 ?_
          refine ca_iload_n hX (q := 62) 2 rfl rfl rfl dX6_show_61 ?_
          refine ca_iload hX (q := 64) rfl rfl dX6_show_62 ?_
          refine ca_cSi hX (q := 67) y_X6_known w_ml_X6_64 hN (c_X6_known l N g p2 i) (by decide) rfl (Nat.le_of_ble_eq_true rfl) rfl dX6_show_64 rfl ?_
          refine ca_bipush hX (q := 69) k_bipush_9 rfl dX6_show_67 ?_
          refine ca_iaS hX (q := 70) (k := 57 + (25 * p2 + i)) (by omega) hN (Nat.le_refl _) c2 (by decide) rfl (by omega) rfl dX6_show_69 (fun g hE hF => ?_)
          have hm := md_a1 hm hE hF
          have hke := hke.ar (i := 1) (57 + (25 * p2 + i)) 9 (by omega)
          obtain ⟨c0, c1, c2, c3, c4, c5, c6, c7, c8, c9, c10, c11, c12, c13⟩ := id hm
          rw [hke.1] at c1
          have hfr := frG.tr hfr (fun j hj => hF j (by omega))
          refine ca_aload_n hX (q := 71) 0 rfl rfl rfl dX6_show_70 ?_
          refine ca_aload_n hX (q := 72) 0 rfl rfl rfl dX6_show_71 ?_
          refine ca_getf hX (q := 75) cl_X6 1 (by decide) w_fl_X6_13 (by omega) c0 rfl rfl dX6_show_72 ?_
          refine ca_iload_n hX (q := 76) 1 rfl rfl rfl dX6_show_75 ?_
          refine ca_iconst hX (q := 77) k_iconst_0 rfl dX6_show_76 ?_
          refine ca_cV hX (q := 80) y_X6_worthBy w_ml_X6_171 (by omega) hN c0 (c_X6_worthBy l N g o _ hm ho (o + 2) (upd (M 0) (57 + (25 * p2 + i)) 9) c2 (by omega) (by omega) P (by rw [upd_n _ _ (by omega)]; exact hP) hP5 (ok_kn hok (by omega) 9) r1 hr1 0 (by omega)) (by decide) rfl (Nat.le_of_ble_eq_true rfl) rfl dX6_show_77 rfl ?_
          rintro _ g ⟨rfl, hf, M1, hm, hrf, e4, ej, e13⟩
          have hke := hke.tr (ke_bu e4 ej e13)
          have hfr := hfr.tr hf
          obtain ⟨c0, c1, c2, c3, c4, c5, c6, c7, c8, c9, c10, c11, c12, c13⟩ := id hm
          rw [hke.1] at c1
          rw [show wS (upd (M 0) (57 + (25 * p2 + i)) 9) r1 (alT 0 P).1 (alT 0 P).2 0 = (swV (M 0) P r1 p2) i from rfl]
          refine ca_istore hX (q := 82) (ls' := [_, _, _, _, _, _, _]) (Nat.le_of_ble_eq_true rfl) (Nat.le_of_ble_eq_true rfl) (Or.inr rfl) rfl rfl dX6_show_80 ?_
          refine ca_iload hX (q := 84) rfl rfl dX6_show_82 ?_
          refine ca_iload hX (q := 86) rfl rfl dX6_show_84 ?_
          refine ca_icmp_lt hX (q := 89) 92 rfl rfl dX6_show_86 (fun b86 => ?_) (fun b86 => ?_)
          · refine ca_iload hX (q := 94) rfl rfl dX6_show_92 ?_
            refine ca_istore_n hX (q := 95) 3 rfl (ls' := [_, _, _, _, _, _, _]) (Nat.le_of_ble_eq_true rfl) (Nat.le_of_ble_eq_true rfl) (Or.inr rfl) rfl rfl dX6_show_94 ?_
            refine ca_iload hX (q := 97) rfl rfl dX6_show_95 ?_
            refine ca_istore hX (q := 99) (ls' := [_, _, _, _, _, _, _]) (Nat.le_of_ble_eq_true rfl) (Nat.le_of_ble_eq_true rfl) (Or.inr rfl) rfl rfl dX6_show_97 ?_
            refine ca_iinc hX (q := 102) (ls' := [_, _, _, _, _, _, _]) k_iconst_1 rfl (Nat.le_of_ble_eq_true rfl) (Or.inr rfl) rfl rfl dX6_show_99 ?_
            refine ca_goto hX 39 rfl dX6_show_102 ?_
            have e1 : mnF (-9, wA (M 0) P r1 0) (swV (M 0) P r1 p2) (i + 1) = (nI i, (swV (M 0) P r1 p2) i) := by rw [mnF, if_pos b86]
            rw [nI_1]
            exact ca_drop hX (ca_le_s rfl (ca_le_s rfl (ca_le_s rfl (ca_le_s (by rw [e1]) (ca_le_s (by rw [e1]) (ca_le_s rfl (ca_le_n ca_le_0))))))) (ih (i + 1) _ M1 (by omega) hm hke hfr)
          · refine ca_goto hX 99 rfl dX6_show_89 ?_
            refine ca_iinc hX (q := 102) (ls' := [_, _, _, _, _, _, _]) k_iconst_1 rfl (Nat.le_of_ble_eq_true rfl) (Or.inr rfl) rfl rfl dX6_show_99 ?_
            refine ca_goto hX 39 rfl dX6_show_102 ?_
            have e1 : mnF (-9, wA (M 0) P r1 0) (swV (M 0) P r1 p2) (i + 1) = mnF (-9, wA (M 0) P r1 0) (swV (M 0) P r1 p2) i := by rw [mnF, if_neg b86]
            rw [nI_1]
            exact ca_drop hX (ca_le_s rfl (ca_le_s rfl (ca_le_s rfl (ca_le_s (by rw [e1]) (ca_le_s (by rw [e1]) (ca_le_s rfl (ca_le_n ca_le_0))))))) (ih (i + 1) _ M1 (by omega) hm hke hfr)
      refine ca_iconst hX (q := 37) k_iconst_0 rfl dX6_show_36 ?_
      refine ca_istore hX (q := 39) (ls' := [_, _, _, _, _, _, _]) (Nat.le_of_ble_eq_true rfl) (Nat.le_of_ble_eq_true rfl) (Or.inr rfl) rfl rfl dX6_show_37 ?_
      exact ca_drop hX (ca_le_s rfl (ca_le_s rfl (ca_le_s rfl (ca_le_s rfl (ca_le_s rfl (ca_le_s rfl (ca_le_n ca_le_0))))))) (loop 25 0 _ M1 (by omega) hm hke hfr)
    · refine ca_aload_n hX (q := 16) 0 rfl rfl rfl dX6_show_15 ?_
      refine ca_iconst hX (q := 17) k_iconst_m1 rfl dX6_show_16 ?_
      refine ca_cV hX (q := 20) y_X6_no w_ml_X6_51 (by omega) hN c0 (c_X6_no l N g o _ hm ho (-1) 1 (by decide) (by omega)) (by decide) rfl (Nat.le_of_ble_eq_true rfl) rfl dX6_show_17 rfl ?_
      rintro _ g ⟨rfl, hm, hf⟩
      have hke := keM.no hke 1
      have hfr := hfr.tr hf
      refine ca_iret hX rfl rfl rfl rfl dX6_show_20 ?_
      exact re_end2 (by simp [shwA, noA, nk1, nk2, nk3, nk4, nk6, z020, z021, z010, z011, b4, er1, b12]) hfr hm hke

