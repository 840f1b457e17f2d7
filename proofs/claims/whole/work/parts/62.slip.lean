/-! slip of both: the walks -/
def k8M (M M' : Nat → Nat → Int32) : Prop := M' 0 = M 0 ∧ M' 2 = M 2 ∧ M' 4 = M 4 ∧ M' 5 = M 5 ∧ M' 6 = M 6 ∧ M' 13 0 = M 13 0 ∧ M' 13 1 = M 13 1 ∧ M' 13 2 = M 13 2
theorem keM.k8 {M M1 : Nat → Nat → Int32} (h : keM M M1) : k8M M M1 := ⟨h.1, h.2.1, h.2.2.1, h.2.2.2.1, h.2.2.2.2.1, h.2.2.2.2.2.1, h.2.2.2.2.2.2.1, h.2.2.2.2.2.2.2.1⟩
theorem k8M.ke {M M1 : Nat → Nat → Int32} (h : k8M M M1) : keM M (upB M1 13 4 0) := by
  obtain ⟨a0, a1, a2, a3, a4, a5, a6, a7⟩ := h
  unfold keM
  rw [upB_s, upB_n _ _ _ (j := 0) (by omega), upB_n _ _ _ (j := 2) (by omega), upB_n _ _ _ (j := 4) (by omega), upB_n _ _ _ (j := 5) (by omega), upB_n _ _ _ (j := 6) (by omega), upd_n _ _ (by omega), upd_n _ _ (by omega), upd_n _ _ (by omega), upd_s]
  exact ⟨a0, a1, a2, a3, a4, a5, a6, a7, rfl⟩
theorem k8M.up {M M1 : Nat → Nat → Int32} (h : k8M M M1) {k : Nat} (x : Int32) (hk : 3 ≤ k) : k8M M (upB M1 13 k x) := by
  obtain ⟨a0, a1, a2, a3, a4, a5, a6, a7⟩ := h
  unfold k8M
  rw [upB_s, upB_n _ _ _ (j := 0) (by omega), upB_n _ _ _ (j := 2) (by omega), upB_n _ _ _ (j := 4) (by omega), upB_n _ _ _ (j := 5) (by omega), upB_n _ _ _ (j := 6) (by omega), upd_n _ _ (by omega), upd_n _ _ (by omega), upd_n _ _ (by omega)]
  exact ⟨a0, a1, a2, a3, a4, a5, a6, a7⟩
theorem k8M.b2 {M M1 M2 : Nat → Nat → Int32} (h : k8M M M1) (e : ∀ j, j ≠ 7 → j ≠ 8 → j ≠ 9 → j ≠ 10 → M2 j = M1 j) : k8M M M2 := by
  obtain ⟨a0, a1, a2, a3, a4, a5, a6, a7⟩ := h
  have e13 := e 13 (by omega) (by omega) (by omega) (by omega)
  exact ⟨(e 0 (by omega) (by omega) (by omega) (by omega)).trans a0, (e 2 (by omega) (by omega) (by omega) (by omega)).trans a1, (e 4 (by omega) (by omega) (by omega) (by omega)).trans a2, (e 5 (by omega) (by omega) (by omega) (by omega)).trans a3, (e 6 (by omega) (by omega) (by omega) (by omega)).trans a4, by rw [e13]; exact a5, by rw [e13]; exact a6, by rw [e13]; exact a7⟩
theorem k8M.tf {M M1 : Nat → Nat → Int32} (h : k8M M M1) (a P : Nat) (w : Int32) (i : Nat) : k8M M (tfB M1 a P w i) := by
  obtain ⟨a0, a1, a2, a3, a4, a5, a6, a7⟩ := h
  unfold k8M
  rw [tfB_n M1 a P w (j := 0) (by omega) (by omega), tfB_n M1 a P w (j := 2) (by omega) (by omega), tfB_n M1 a P w (j := 4) (by omega) (by omega), tfB_n M1 a P w (j := 5) (by omega) (by omega), tfB_n M1 a P w (j := 6) (by omega) (by omega), tfB_13 M1 a P w (j := 0) (by omega) (by omega), tfB_13 M1 a P w (j := 1) (by omega) (by omega), tfB_13 M1 a P w (j := 2) (by omega) (by omega)]
  exact ⟨a0, a1, a2, a3, a4, a5, a6, a7⟩

set_option maxRecDepth 100000 in
set_option maxHeartbeats 4000000 in
theorem k_slw (l : Launch) (N : Nat) (g0 : ca_G) (M : Nat → Nat → Int32) (t : Nat → Int32) (B : Nat → Nat → Int32) (hx : clX g0 M t B) (hN31 : 31 ≤ N) (P : Nat) (w : wfH (M 0) P) (r1 : Nat) (hr1 : r1 < 25) (kn : Nat) (hkn : kn ≤ 7) (kq : Nat) (hq2 : 2 ≤ kq) (hq20 : kq ≤ 20) (x4 : Int32) : ca_Ct l yX5_slipsWithin cX5_slipsWithin 8 (some .long) 4 0 0 N 1000000 [.ref 0, .int (nI r1), .int (nI kn), .int (nI kq), .int x4] g0 (fun rr g0' => rr = some (.long (lN (abN (M 0) P r1 kn kq x4 (2 ^ kn)))) ∧ frG g0 g0' 0 31 ∧ ∃ B, clX g0' M t B) := by
  refine ca_intro (by decide) (Nat.le_of_ble_eq_true rfl) (fun X hX hN => ?_)
  show X 0 [_, _, _, _, _, none, none, none] [] N 1000000 g0
  obtain ⟨g, hgg⟩ : ∃ g, g = g0 := ⟨g0, rfl⟩
  rw [← hgg] at hx ⊢
  have hfr : frG g0 g 0 31 := by rw [hgg]; exact frG.rf
  obtain ⟨hc, hh, hkp, htr, hz, htl, hlt, hrw, h30⟩ := id hx
  have h0 := hh.1
  have k0 := hkp.1
  have t0 := htr.1
  have d0 := hz.1
  have l0 := hlt.1
  have w0 := hrw.1
  have hP := w.1
  have hP5 := w.2.1
  have hok := wf_ok w
  refine ca_aload_n hX (q := 1) 0 rfl rfl rfl dX5_slipsWithin_0 ?_
  refine ca_getf hX (q := 4) cl_X5 3 (by decide) w_fl_X5_25 (by omega) hc rfl rfl dX5_slipsWithin_1 ?_
  refine ca_aload_n hX (q := 5) 0 rfl rfl rfl dX5_slipsWithin_4 ?_
  refine ca_getf hX (q := 8) cl_X5 0 (by decide) w_fl_X5_10 (by omega) hc rfl rfl dX5_slipsWithin_5 ?_
  refine ca_cV hX (q := 11) y_X0_lookAt w_ml_X5_159 (by omega) hN d0 (c_X0_lookAt l N g 16 B hz (by omega) 1 (M 0) hh (by omega) (by omega) P hP hP5) (by decide) rfl (Nat.le_of_ble_eq_true rfl) rfl dX5_slipsWithin_8 rfl ?_
  rintro _ g ⟨rfl, ⟨B, hz, hk1, hp1, hy1⟩, hf⟩
  have hlo : loM B (M 0) P := ⟨hk1, hp1, hy1⟩
  have hx := hx.bz hf hz
  have hfr := hfr.tr (hf.wd (by omega) (by omega))
  obtain ⟨hc, hh, hkp, htr, hz, htl, hlt, hrw, h30⟩ := id hx
  have h0 := hh.1
  have k0 := hkp.1
  have t0 := htr.1
  have d0 := hz.1
  have l0 := hlt.1
  have w0 := hrw.1
  refine ca_aload_n hX (q := 12) 0 rfl rfl rfl dX5_slipsWithin_11 ?_
  refine ca_getf hX (q := 15) cl_X5 3 (by decide) w_fl_X5_25 (by omega) hc rfl rfl dX5_slipsWithin_12 ?_
  refine ca_iconst hX (q := 16) k_iconst_0 rfl dX5_slipsWithin_15 ?_
  refine ca_cV hX (q := 19) y_X0_letAllSpeak w_ml_X5_245 (by omega) hN d0 (c_X0_letAllSpeak l N g 16 B hz (by omega) P hlo.2.1 hP5 0 (by omega)) (by decide) rfl (Nat.le_of_ble_eq_true rfl) rfl dX5_slipsWithin_16 rfl ?_
  rintro _ g ⟨rfl, hz, hf⟩
  have hlo := lo_ls hlo 0 (1 <<< (nI P &&& 31) - 1) P
  have hsp := al_ls (B := B) (a := 0) hP5
  have hx := hx.bz hf hz
  have hfr := hfr.tr (hf.wd (by omega) (by omega))
  obtain ⟨hc, hh, hkp, htr, hz, htl, hlt, hrw, h30⟩ := id hx
  have h0 := hh.1
  have k0 := hkp.1
  have t0 := htr.1
  have d0 := hz.1
  have l0 := hlt.1
  have w0 := hrw.1
  obtain ⟨E, hEq, hE1, hE2⟩ : ∃ E, E = 2 ^ kn ∧ (1 : Int32) <<< (nI kn &&& 31) = nI E ∧ E ≤ 128 := ⟨2 ^ kn, rfl, shl7 kn hkn⟩
  have loop : ∀ (n i : Nat) (g1 : ca_G) (B1 : Nat → Nat → Int32), i + n = E → clX g1 M t B1 → loM B1 (M 0) P → spkM B1 P (alT 0 P).1 (alT 0 P).2 → frG g0 g1 0 31 → X 25 [some (.ref 0), some (.int (nI r1)), some (.int (nI kn)), some (.int (nI kq)), some (.int x4), some (.long (lN (abN (M 0) P r1 kn kq x4 i))), none, some (.int (nI i))] [] N 1000000 g1 := by
    intro n
    induction n with
    | zero =>
      intro i g B hi hx hlo hsp hfr
      have hib : i = E := by omega
      rw [hib]
      obtain ⟨hc, hh, hkp, htr, hz, htl, hlt, hrw, h30⟩ := id hx
      have h0 := hh.1
      have k0 := hkp.1
      have t0 := htr.1
      have d0 := hz.1
      have l0 := hlt.1
      have w0 := hrw.1
      refine ca_iload hX (q := 27) rfl rfl dX5_slipsWithin_25 ?_
      refine ca_iconst hX (q := 28) k_iconst_1 rfl dX5_slipsWithin_27 ?_
      refine ca_iload_n hX (q := 29) 2 rfl rfl rfl dX5_slipsWithin_28 ?_
      refine ca_ishl hX (q := 30) rfl dX5_slipsWithin_29 ?_
      rw [hE1]
      refine ca_icmp_ge hX (q := 33) 79 rfl rfl dX5_slipsWithin_30 (fun _ => ?_) (fun z => absurd (nI_le (Nat.le_refl _) (by omega)) z)
      refine ca_lload hX (q := 81) rfl rfl dX5_slipsWithin_79 ?_
      refine ca_lret hX rfl rfl rfl rfl dX5_slipsWithin_81 ?_
      rw [hEq]
      exact ⟨rfl, hfr, B, hx⟩
    | succ n ih =>
      intro i g B hi hx hlo hsp hfr
      obtain ⟨hc, hh, hkp, htr, hz, htl, hlt, hrw, h30⟩ := id hx
      have h0 := hh.1
      have k0 := hkp.1
      have t0 := htr.1
      have d0 := hz.1
      have l0 := hlt.1
      have w0 := hrw.1
      refine ca_iload hX (q := 27) rfl rfl dX5_slipsWithin_25 ?_
      refine ca_iconst hX (q := 28) k_iconst_1 rfl dX5_slipsWithin_27 ?_
      refine ca_iload_n hX (q := 29) 2 rfl rfl rfl dX5_slipsWithin_28 ?_
      refine ca_ishl hX (q := 30) rfl dX5_slipsWithin_29 ?_
      rw [hE1]
      refine ca_icmp_ge hX (q := 33) 79 rfl rfl dX5_slipsWithin_30 (fun z => absurd z (nI_ge (a := i) (b := E) (by omega) (by omega))) (fun _ => ?_)
      refine ca_aload_n hX (q := 34) 0 rfl rfl rfl dX5_slipsWithin_33 ?_
      refine ca_getf hX (q := 37) cl_X5 3 (by decide) w_fl_X5_25 (by omega) hc rfl rfl dX5_slipsWithin_34 ?_
      refine ca_iload_n hX (q := 38) 1 rfl rfl rfl dX5_slipsWithin_37 ?_
      refine ca_iload hX (q := 40) rfl rfl dX5_slipsWithin_38 ?_
      refine ca_cV hX (q := 43) y_X0_burn w_ml_X5_248 (by omega) hN d0 (c_X0_burn l N g 16 B hz (by omega) _ hsp.1 hsp.2.1 P hlo.2.1 hP5 r1 hr1 (nI i)) (by decide) rfl (Nat.le_of_ble_eq_true rfl) rfl dX5_slipsWithin_40 rfl ?_
      rintro _ g ⟨rfl, hf, B3, L3, hz, v, e0, e1, e2, e3, e80, e81, e82, e84, _, e7⟩
      obtain ⟨hlo, hsp, hfd⟩ := bn_end hlo hok hP5 hsp hr1 v e0 e1 e2 e3 e80 e81 e82 e84 e7
      have hx := hx.bz hf hz
      have hfr := hfr.tr (hf.wd (by omega) (by omega))
      obtain ⟨hc, hh, hkp, htr, hz, htl, hlt, hrw, h30⟩ := id hx
      have h0 := hh.1
      have k0 := hkp.1
      have t0 := htr.1
      have d0 := hz.1
      have l0 := hlt.1
      have w0 := hrw.1
      refine ca_aload_n hX (q := 44) 0 rfl rfl rfl dX5_slipsWithin_43 ?_
      refine ca_getf hX (q := 47) cl_X5 3 (by decide) w_fl_X5_25 (by omega) hc rfl rfl dX5_slipsWithin_44 ?_
      obtain ⟨L, hL, hL1, hw⟩ := fd_w hlo hfd
      refine ca_cVi hX (q := 50) y_X0_worthBurnt w_ml_X5_138 (by omega) hN d0 (c_X0_worthBurnt l N g 16 B3 hz (by omega) L hL hL1) (by decide) rfl (Nat.le_of_ble_eq_true rfl) rfl dX5_slipsWithin_47 rfl ?_
      rw [hw]
      refine ca_iload hX (q := 52) rfl rfl dX5_slipsWithin_50 ?_
      refine ca_icmp_gt hX (q := 55) 73 rfl rfl dX5_slipsWithin_52 (fun c52 => ?_) (fun c52 => ?_)
      · refine ca_iinc hX (q := 76) (ls' := [_, _, _, _, _, _, _, _]) k_iconst_1 rfl (Nat.le_of_ble_eq_true rfl) (Or.inr rfl) rfl rfl dX5_slipsWithin_73 ?_
        refine ca_goto hX 25 rfl dX5_slipsWithin_76 ?_
        have e1 : (abN (M 0) P r1 kn kq x4 (i + 1)) = (abN (M 0) P r1 kn kq x4 i) := by rw [abN, if_pos c52, Nat.add_zero]
        rw [show nI i + 1 = nI (i + 1) from nI_add i 1]
        exact ca_drop hX (ca_le_s rfl (ca_le_s rfl (ca_le_s rfl (ca_le_s rfl (ca_le_s rfl (ca_le_s (by rw [e1]) (ca_le_n (ca_le_s rfl ca_le_0)))))))) (ih (i + 1) _ B3 (by omega) hx hlo hsp hfr)
      · refine ca_lload hX (q := 57) rfl rfl dX5_slipsWithin_55 ?_
        refine ca_iload_n hX (q := 58) 3 rfl rfl rfl dX5_slipsWithin_57 ?_
        refine ca_iconst hX (q := 59) k_iconst_1 rfl dX5_slipsWithin_58 ?_
        refine ca_isub hX (q := 60) rfl dX5_slipsWithin_59 ?_
        refine ca_iload_n hX (q := 61) 2 rfl rfl rfl dX5_slipsWithin_60 ?_
        refine ca_iload hX (q := 63) rfl rfl dX5_slipsWithin_61 ?_
        refine ca_cSi hX (q := 66) y_J6_bitCount_0f7a4 w_ml_X5_175 hN (c_J6_bitCount l N g _) (by decide) rfl (Nat.le_of_ble_eq_true rfl) rfl dX5_slipsWithin_63 rfl ?_
        refine ca_isub hX (q := 67) rfl dX5_slipsWithin_66 ?_
        obtain ⟨hpc1, hpc2⟩ := pc_ok kn hkn i (by omega)
        rw [nI_m1 (show 1 ≤ kq by omega), hpc1, pk_sub hpc2]
        refine ca_cSl hX (q := 70) y_X5_power w_ml_X5_202 hN (c_X5_power l N g (kq - 1) (kn - pcN i) (by omega) (by omega)) (by decide) rfl (Nat.le_of_ble_eq_true rfl) rfl dX5_slipsWithin_67 rfl ?_
        refine ca_ladd hX (q := 71) rfl dX5_slipsWithin_70 ?_
        refine ca_lstore hX (q := 73) (ls' := [_, _, _, _, _, _, _, _]) (Nat.le_of_ble_eq_true rfl) (Nat.le_of_ble_eq_true rfl) (Or.inr rfl) rfl rfl dX5_slipsWithin_71 ?_
        refine ca_iinc hX (q := 76) (ls' := [_, _, _, _, _, _, _, _]) k_iconst_1 rfl (Nat.le_of_ble_eq_true rfl) (Or.inr rfl) rfl rfl dX5_slipsWithin_73 ?_
        refine ca_goto hX 25 rfl dX5_slipsWithin_76 ?_
        have e1 : (abN (M 0) P r1 kn kq x4 (i + 1)) = (abN (M 0) P r1 kn kq x4 i) + (kq - 1) ^ (kn - pcN i) := by rw [abN, if_neg c52]
        rw [lN_add, show nI i + 1 = nI (i + 1) from nI_add i 1]
        exact ca_drop hX (ca_le_s rfl (ca_le_s rfl (ca_le_s rfl (ca_le_s rfl (ca_le_s rfl (ca_le_s (by rw [e1]) (ca_le_n (ca_le_s rfl ca_le_0)))))))) (ih (i + 1) _ B3 (by omega) hx hlo hsp hfr)
  refine ca_lconst hX (q := 20) k_lconst_0 rfl dX5_slipsWithin_19 ?_
  refine ca_lstore hX (q := 22) (ls' := [_, _, _, _, _, _, _, _]) (Nat.le_of_ble_eq_true rfl) (Nat.le_of_ble_eq_true rfl) (Or.inr rfl) rfl rfl dX5_slipsWithin_20 ?_
  refine ca_iconst hX (q := 23) k_iconst_0 rfl dX5_slipsWithin_22 ?_
  refine ca_istore hX (q := 25) (ls' := [_, _, _, _, _, _, _, _]) (Nat.le_of_ble_eq_true rfl) (Nat.le_of_ble_eq_true rfl) (Or.inr rfl) rfl rfl dX5_slipsWithin_23 ?_
  exact ca_drop hX (ca_le_s rfl (ca_le_s rfl (ca_le_s rfl (ca_le_s rfl (ca_le_s rfl (ca_le_s rfl (ca_le_n (ca_le_s rfl ca_le_0)))))))) (loop E 0 _ _ (by omega) hx hlo hsp hfr)

set_option maxRecDepth 100000 in
set_option maxHeartbeats 4000000 in
theorem k_slip (l : Launch) (N : Nat) (g0 : ca_G) (M : Nat → Nat → Int32) (t : Nat → Int32) (B : Nat → Nat → Int32) (hx : clX g0 M t B) (hN31 : 31 ≤ N) (P : Nat) (w : wfH (M 0) P) (x1 x2 x3 x4 x5 : Int32) : ca_Ct l yX5_slip cX5_slip 12 (some .long) 5 0 0 N 1000000 [.ref 0, .int x1, .int x2, .int x3, .int x4, .int x5] g0 (clPl g0 (slA M P x1 x2 x3 x4 x5)) := by
  refine ca_intro (by decide) (Nat.le_of_ble_eq_true rfl) (fun X hX hN => ?_)
  show X 0 [_, _, _, _, _, _, none, none, none, none, none, none] [] N 1000000 g0
  obtain ⟨g, hgg⟩ : ∃ g, g = g0 := ⟨g0, rfl⟩
  rw [← hgg] at hx ⊢
  have hfr : frG g0 g 0 31 := by rw [hgg]; exact frG.rf
  obtain ⟨hc, hh, hkp, htr, hz, htl, hlt, hrw, h30⟩ := id hx
  have h0 := hh.1
  have k0 := hkp.1
  have t0 := htr.1
  have d0 := hz.1
  have l0 := hlt.1
  have w0 := hrw.1
  have hP := w.1
  have hP5 := w.2.1
  have hok := wf_ok w
  refine ca_iload_n hX (q := 1) 1 rfl rfl rfl dX5_slip_0 ?_
  refine ca_cSi hX (q := 4) y_X5_isRoom w_ml_X5_78 hN (c_X5_isRoom l N g _) (by decide) rfl (Nat.le_of_ble_eq_true rfl) rfl dX5_slip_1 rfl ?_
  refine ca_if_ne hX (q := 7) 13 rfl rfl dX5_slip_4 (fun c4 => ?_) (fun c4 => ?_)
  · obtain ⟨r1, hr1, rfl⟩ := rm_ok c4
    have er1 := nI_clamp (n := r1) (by omega)
    refine ca_iload_n hX (q := 14) 2 rfl rfl rfl dX5_slip_13 ?_
    refine ca_if_lt hX (q := 17) 27 rfl rfl dX5_slip_14 (fun c14 => ?_) (fun c14 => ?_)
    · refine ca_aload_n hX (q := 28) 0 rfl rfl rfl dX5_slip_27 ?_
      refine ca_bipush hX (q := 30) k_bipush_m4 rfl dX5_slip_28 ?_
      refine ca_cV hX (q := 33) y_X5_refuseLong w_ml_X5_194 (by omega) hN hc (c_X5_refuseLong l N g _ hc hN31 (M 6) h30 (-4) 4 (by decide) (by omega) (by omega)) (by decide) rfl (Nat.le_of_ble_eq_true rfl) rfl dX5_slip_30 rfl ?_
      rintro _ g ⟨rfl, h30, hf⟩
      have hx := hx.rf hf h30
      have hfr := hfr.tr (hf.wd (by omega) (by omega))
      refine ca_lret hX rfl rfl rfl rfl dX5_slip_33 ?_
      exact cl_endl (by simp [slA, noL, b01, nk1, nk2, nk4, nk6, c4, er1, c14, (Int32.not_le.mpr c14)]) hfr hx
    · refine ca_iload hX (q := 19) rfl rfl dX5_slip_17 ?_
      refine ca_if_lt hX (q := 22) 27 rfl rfl dX5_slip_19 (fun c19 => ?_) (fun c19 => ?_)
      · refine ca_aload_n hX (q := 28) 0 rfl rfl rfl dX5_slip_27 ?_
        refine ca_bipush hX (q := 30) k_bipush_m4 rfl dX5_slip_28 ?_
        refine ca_cV hX (q := 33) y_X5_refuseLong w_ml_X5_194 (by omega) hN hc (c_X5_refuseLong l N g _ hc hN31 (M 6) h30 (-4) 4 (by decide) (by omega) (by omega)) (by decide) rfl (Nat.le_of_ble_eq_true rfl) rfl dX5_slip_30 rfl ?_
        rintro _ g ⟨rfl, h30, hf⟩
        have hx := hx.rf hf h30
        have hfr := hfr.tr (hf.wd (by omega) (by omega))
        refine ca_lret hX rfl rfl rfl rfl dX5_slip_33 ?_
        exact cl_endl (by simp [slA, noL, b01, nk1, nk2, nk4, nk6, c4, er1, c14, (Int32.not_lt.mp c14), c19, (Int32.not_le.mpr c19)]) hfr hx
      · refine ca_iload_n hX (q := 23) 3 rfl rfl rfl dX5_slip_22 ?_
        refine ca_iconst hX (q := 24) k_iconst_2 rfl dX5_slip_23 ?_
        refine ca_icmp_ge hX (q := 27) 34 rfl rfl dX5_slip_24 (fun c24 => ?_) (fun c24 => ?_)
        · refine ca_iload_n hX (q := 35) 2 rfl rfl rfl dX5_slip_34 ?_
          refine ca_bipush hX (q := 37) k_bipush_7 rfl dX5_slip_35 ?_
          refine ca_icmp_gt hX (q := 40) 54 rfl rfl dX5_slip_37 (fun c37 => ?_) (fun c37 => ?_)
          · refine ca_aload_n hX (q := 55) 0 rfl rfl rfl dX5_slip_54 ?_
            refine ca_bipush hX (q := 57) k_bipush_m6 rfl dX5_slip_55 ?_
            refine ca_cV hX (q := 60) y_X5_refuseLong w_ml_X5_194 (by omega) hN hc (c_X5_refuseLong l N g _ hc hN31 (M 6) h30 (-6) 6 (by decide) (by omega) (by omega)) (by decide) rfl (Nat.le_of_ble_eq_true rfl) rfl dX5_slip_57 rfl ?_
            rintro _ g ⟨rfl, h30, hf⟩
            have hx := hx.rf hf h30
            have hfr := hfr.tr (hf.wd (by omega) (by omega))
            refine ca_lret hX rfl rfl rfl rfl dX5_slip_60 ?_
            exact cl_endl (by simp [slA, noL, b01, nk1, nk2, nk4, nk6, c4, er1, c14, (Int32.not_lt.mp c14), c19, (Int32.not_lt.mp c19), c24, (Int32.not_lt.mpr c24), c37, (Int32.not_le.mpr c37)]) hfr hx
          · refine ca_iload_n hX (q := 41) 3 rfl rfl rfl dX5_slip_40 ?_
            refine ca_bipush hX (q := 43) k_bipush_20 rfl dX5_slip_41 ?_
            refine ca_icmp_gt hX (q := 46) 54 rfl rfl dX5_slip_43 (fun c43 => ?_) (fun c43 => ?_)
            · refine ca_aload_n hX (q := 55) 0 rfl rfl rfl dX5_slip_54 ?_
              refine ca_bipush hX (q := 57) k_bipush_m6 rfl dX5_slip_55 ?_
              refine ca_cV hX (q := 60) y_X5_refuseLong w_ml_X5_194 (by omega) hN hc (c_X5_refuseLong l N g _ hc hN31 (M 6) h30 (-6) 6 (by decide) (by omega) (by omega)) (by decide) rfl (Nat.le_of_ble_eq_true rfl) rfl dX5_slip_57 rfl ?_
              rintro _ g ⟨rfl, h30, hf⟩
              have hx := hx.rf hf h30
              have hfr := hfr.tr (hf.wd (by omega) (by omega))
              refine ca_lret hX rfl rfl rfl rfl dX5_slip_60 ?_
              exact cl_endl (by simp [slA, noL, b01, nk1, nk2, nk4, nk6, c4, er1, c14, (Int32.not_lt.mp c14), c19, (Int32.not_lt.mp c19), c24, (Int32.not_lt.mpr c24), c37, (Int32.not_lt.mp c37), c43, (Int32.not_le.mpr c43)]) hfr hx
            · refine ca_iload hX (q := 48) rfl rfl dX5_slip_46 ?_
              refine ca_sipush hX (q := 51) k_sipush_999 rfl dX5_slip_48 ?_
              refine ca_icmp_le hX (q := 54) 61 rfl rfl dX5_slip_51 (fun c51 => ?_) (fun c51 => ?_)
              · obtain ⟨kn, -, hkn, rfl⟩ := rg_ok (lo := 0) (hi := 7) rfl rfl (by omega) (by omega) (Int32.not_lt.mp c14) (Int32.not_lt.mp c37)
                obtain ⟨kq, hq2, hq20, rfl⟩ := rg_ok (lo := 2) (hi := 20) rfl rfl (by omega) (by omega) c24 (Int32.not_lt.mp c43)
                have en := nI_clamp (n := kn) (by omega)
                have eq := nI_clamp (n := kq) (by omega)
                obtain ⟨hD0, hD31⟩ := pw_31 hq20 hkn hq2
                have hA40 := ab_40 (M 0) P r1 kn kq x4 hq20 hkn (shl7 kn hkn).2
                have hG := Nat.gcd_pos_of_pos_right (abN (M 0) P r1 kn kq x4 (2 ^ kn)) hD0
                have hGl := Nat.gcd_le_right (abN (M 0) P r1 kn kq x4 (2 ^ kn)) hD0
                refine ca_iload hX (q := 63) rfl rfl dX5_slip_61 ?_
                refine ca_if_eq hX (q := 66) 79 rfl rfl dX5_slip_63 (fun c63 => ?_) (fun c63 => ?_)
                · refine ca_aload_n hX (q := 80) 0 rfl rfl rfl dX5_slip_79 ?_
                  refine ca_iload_n hX (q := 81) 1 rfl rfl rfl dX5_slip_80 ?_
                  refine ca_iload_n hX (q := 82) 2 rfl rfl rfl dX5_slip_81 ?_
                  refine ca_iload_n hX (q := 83) 3 rfl rfl rfl dX5_slip_82 ?_
                  refine ca_iload hX (q := 85) rfl rfl dX5_slip_83 ?_
                  refine ca_cV hX (q := 88) y_X5_slipsWithin w_ml_X5_198 (by omega) hN hc (k_slw l N g M t B hx hN31 P w r1 hr1 kn hkn kq hq2 hq20 x4) (by decide) rfl (Nat.le_of_ble_eq_true rfl) rfl dX5_slip_85 rfl ?_
                  rintro _ g ⟨rfl, hf, B, hx⟩
                  have hfr := hfr.tr hf
                  obtain ⟨hc, hh, hkp, htr, hz, htl, hlt, hrw, h30⟩ := id hx
                  have h0 := hh.1
                  have k0 := hkp.1
                  have t0 := htr.1
                  have d0 := hz.1
                  have l0 := hlt.1
                  have w0 := hrw.1
                  refine ca_lstore hX (q := 90) (ls' := [_, _, _, _, _, _, _, _, _, _, _, _]) (Nat.le_of_ble_eq_true rfl) (Nat.le_of_ble_eq_true rfl) (Or.inr rfl) rfl rfl dX5_slip_88 ?_
                  refine ca_iload_n hX (q := 91) 3 rfl rfl rfl dX5_slip_90 ?_
                  refine ca_iload_n hX (q := 92) 2 rfl rfl rfl dX5_slip_91 ?_
                  refine ca_cSl hX (q := 95) y_X5_power w_ml_X5_202 hN (c_X5_power l N g kq kn (by omega) (by omega)) (by decide) rfl (Nat.le_of_ble_eq_true rfl) rfl dX5_slip_92 rfl ?_
                  refine ca_lstore hX (q := 97) (ls' := [_, _, _, _, _, _, _, _, _, _, _, _]) (Nat.le_of_ble_eq_true rfl) (Nat.le_of_ble_eq_true rfl) (Or.inr rfl) rfl rfl dX5_slip_95 ?_
                  refine ca_lload hX (q := 99) rfl rfl dX5_slip_97 ?_
                  refine ca_lload hX (q := 101) rfl rfl dX5_slip_99 ?_
                  refine ca_cSl hX (q := 104) y_X5_commonDivisor w_ml_X5_206 hN (c_X5_commonDivisor l N g (abN (M 0) P r1 kn kq x4 (2 ^ kn)) (kq ^ kn) hA40 hD0 hD31) (by decide) rfl (Nat.le_of_ble_eq_true rfl) rfl dX5_slip_101 rfl ?_
                  refine ca_lstore hX (q := 106) (ls' := [_, _, _, _, _, _, _, _, _, _, _, _]) (Nat.le_of_ble_eq_true rfl) (Nat.le_of_ble_eq_true rfl) (Or.inr rfl) rfl rfl dX5_slip_104 ?_
                  refine ca_lload hX (q := 108) rfl rfl dX5_slip_106 ?_
                  refine ca_lconst hX (q := 109) k_lconst_1 rfl dX5_slip_108 ?_
                  refine ca_lcmp hX (q := 110) rfl dX5_slip_109 ?_
                  refine ca_if_ge hX (q := 113) 115 rfl rfl dX5_slip_110 (fun _ => ?_) (fun z => absurd ((lg_cmp_ge _ _).mpr ((pk_lLE (a := 1) (b := (Nat.gcd (abN (M 0) P r1 kn kq x4 (2 ^ kn)) (kq ^ kn))) (by omega) (by omega)).mpr (by omega))) z)
                  refine ca_iload hX (q := 117) rfl rfl dX5_slip_115 ?_
                  refine ca_if_ne hX (q := 120) 125 rfl rfl dX5_slip_117 (fun c117 => ?_) (fun c117 => ?_)
                  · exact absurd c63 c117
                  · refine ca_lload hX (q := 122) rfl rfl dX5_slip_120 ?_
                    refine ca_goto hX 127 rfl dX5_slip_122 ?_
                    refine ca_lload hX (q := 129) rfl rfl dX5_slip_127 ?_
                    refine ca_ldiv hX (q := 130) (fun z => absurd ((pk_lEQ (a := (Nat.gcd (abN (M 0) P r1 kn kq x4 (2 ^ kn)) (kq ^ kn))) (b := 0) (by omega) (by omega)).mp z) (by omega)) rfl dX5_slip_129 ?_
                    refine ca_lret hX rfl rfl rfl rfl dX5_slip_130 ?_
                    rw [pk_lDiv (by omega) hG (by omega)]
                    exact cl_endl (by simp [slA, b01, c4, er1, c14, (Int32.not_lt.mp c14), c19, (Int32.not_lt.mp c19), c24, (Int32.not_lt.mpr c24), c37, (Int32.not_lt.mp c37), c43, (Int32.not_lt.mp c43), c51, (Int32.not_lt.mpr c51), en, eq, c63, c117]) hfr hx
                · refine ca_iload hX (q := 68) rfl rfl dX5_slip_66 ?_
                  refine ca_iconst hX (q := 69) k_iconst_1 rfl dX5_slip_68 ?_
                  refine ca_icmp_eq hX (q := 72) 79 rfl rfl dX5_slip_69 (fun c69 => ?_) (fun c69 => ?_)
                  · refine ca_aload_n hX (q := 80) 0 rfl rfl rfl dX5_slip_79 ?_
                    refine ca_iload_n hX (q := 81) 1 rfl rfl rfl dX5_slip_80 ?_
                    refine ca_iload_n hX (q := 82) 2 rfl rfl rfl dX5_slip_81 ?_
                    refine ca_iload_n hX (q := 83) 3 rfl rfl rfl dX5_slip_82 ?_
                    refine ca_iload hX (q := 85) rfl rfl dX5_slip_83 ?_
                    refine ca_cV hX (q := 88) y_X5_slipsWithin w_ml_X5_198 (by omega) hN hc (k_slw l N g M t B hx hN31 P w r1 hr1 kn hkn kq hq2 hq20 x4) (by decide) rfl (Nat.le_of_ble_eq_true rfl) rfl dX5_slip_85 rfl ?_
                    rintro _ g ⟨rfl, hf, B, hx⟩
                    have hfr := hfr.tr hf
                    obtain ⟨hc, hh, hkp, htr, hz, htl, hlt, hrw, h30⟩ := id hx
                    have h0 := hh.1
                    have k0 := hkp.1
                    have t0 := htr.1
                    have d0 := hz.1
                    have l0 := hlt.1
                    have w0 := hrw.1
                    refine ca_lstore hX (q := 90) (ls' := [_, _, _, _, _, _, _, _, _, _, _, _]) (Nat.le_of_ble_eq_true rfl) (Nat.le_of_ble_eq_true rfl) (Or.inr rfl) rfl rfl dX5_slip_88 ?_
                    refine ca_iload_n hX (q := 91) 3 rfl rfl rfl dX5_slip_90 ?_
                    refine ca_iload_n hX (q := 92) 2 rfl rfl rfl dX5_slip_91 ?_
                    refine ca_cSl hX (q := 95) y_X5_power w_ml_X5_202 hN (c_X5_power l N g kq kn (by omega) (by omega)) (by decide) rfl (Nat.le_of_ble_eq_true rfl) rfl dX5_slip_92 rfl ?_
                    refine ca_lstore hX (q := 97) (ls' := [_, _, _, _, _, _, _, _, _, _, _, _]) (Nat.le_of_ble_eq_true rfl) (Nat.le_of_ble_eq_true rfl) (Or.inr rfl) rfl rfl dX5_slip_95 ?_
                    refine ca_lload hX (q := 99) rfl rfl dX5_slip_97 ?_
                    refine ca_lload hX (q := 101) rfl rfl dX5_slip_99 ?_
                    refine ca_cSl hX (q := 104) y_X5_commonDivisor w_ml_X5_206 hN (c_X5_commonDivisor l N g (abN (M 0) P r1 kn kq x4 (2 ^ kn)) (kq ^ kn) hA40 hD0 hD31) (by decide) rfl (Nat.le_of_ble_eq_true rfl) rfl dX5_slip_101 rfl ?_
                    refine ca_lstore hX (q := 106) (ls' := [_, _, _, _, _, _, _, _, _, _, _, _]) (Nat.le_of_ble_eq_true rfl) (Nat.le_of_ble_eq_true rfl) (Or.inr rfl) rfl rfl dX5_slip_104 ?_
                    refine ca_lload hX (q := 108) rfl rfl dX5_slip_106 ?_
                    refine ca_lconst hX (q := 109) k_lconst_1 rfl dX5_slip_108 ?_
                    refine ca_lcmp hX (q := 110) rfl dX5_slip_109 ?_
                    refine ca_if_ge hX (q := 113) 115 rfl rfl dX5_slip_110 (fun _ => ?_) (fun z => absurd ((lg_cmp_ge _ _).mpr ((pk_lLE (a := 1) (b := (Nat.gcd (abN (M 0) P r1 kn kq x4 (2 ^ kn)) (kq ^ kn))) (by omega) (by omega)).mpr (by omega))) z)
                    refine ca_iload hX (q := 117) rfl rfl dX5_slip_115 ?_
                    refine ca_if_ne hX (q := 120) 125 rfl rfl dX5_slip_117 (fun c117 => ?_) (fun c117 => ?_)
                    · refine ca_lload hX (q := 127) rfl rfl dX5_slip_125 ?_
                      refine ca_lload hX (q := 129) rfl rfl dX5_slip_127 ?_
                      refine ca_ldiv hX (q := 130) (fun z => absurd ((pk_lEQ (a := (Nat.gcd (abN (M 0) P r1 kn kq x4 (2 ^ kn)) (kq ^ kn))) (b := 0) (by omega) (by omega)).mp z) (by omega)) rfl dX5_slip_129 ?_
                      refine ca_lret hX rfl rfl rfl rfl dX5_slip_130 ?_
                      rw [pk_lDiv (by omega) hG (by omega)]
                      exact cl_endl (by simp [slA, b01, c4, er1, c14, (Int32.not_lt.mp c14), c19, (Int32.not_lt.mp c19), c24, (Int32.not_lt.mpr c24), c37, (Int32.not_lt.mp c37), c43, (Int32.not_lt.mp c43), c51, (Int32.not_lt.mpr c51), en, eq, c63, c69, c117]) hfr hx
                    · exact absurd c117 c63
                  · refine ca_aload_n hX (q := 73) 0 rfl rfl rfl dX5_slip_72 ?_
                    refine ca_bipush hX (q := 75) k_bipush_m2 rfl dX5_slip_73 ?_
                    refine ca_cV hX (q := 78) y_X5_refuseLong w_ml_X5_194 (by omega) hN hc (c_X5_refuseLong l N g _ hc hN31 (M 6) h30 (-2) 2 (by decide) (by omega) (by omega)) (by decide) rfl (Nat.le_of_ble_eq_true rfl) rfl dX5_slip_75 rfl ?_
                    rintro _ g ⟨rfl, h30, hf⟩
                    have hx := hx.rf hf h30
                    have hfr := hfr.tr (hf.wd (by omega) (by omega))
                    refine ca_lret hX rfl rfl rfl rfl dX5_slip_78 ?_
                    exact cl_endl (by simp [slA, noL, b01, nk1, nk2, nk4, nk6, c4, er1, c14, (Int32.not_lt.mp c14), c19, (Int32.not_lt.mp c19), c24, (Int32.not_lt.mpr c24), c37, (Int32.not_lt.mp c37), c43, (Int32.not_lt.mp c43), c51, (Int32.not_lt.mpr c51), en, eq, c63, c69]) hfr hx
              · refine ca_aload_n hX (q := 55) 0 rfl rfl rfl dX5_slip_54 ?_
                refine ca_bipush hX (q := 57) k_bipush_m6 rfl dX5_slip_55 ?_
                refine ca_cV hX (q := 60) y_X5_refuseLong w_ml_X5_194 (by omega) hN hc (c_X5_refuseLong l N g _ hc hN31 (M 6) h30 (-6) 6 (by decide) (by omega) (by omega)) (by decide) rfl (Nat.le_of_ble_eq_true rfl) rfl dX5_slip_57 rfl ?_
                rintro _ g ⟨rfl, h30, hf⟩
                have hx := hx.rf hf h30
                have hfr := hfr.tr (hf.wd (by omega) (by omega))
                refine ca_lret hX rfl rfl rfl rfl dX5_slip_60 ?_
                exact cl_endl (by simp [slA, noL, b01, nk1, nk2, nk4, nk6, c4, er1, c14, (Int32.not_lt.mp c14), c19, (Int32.not_lt.mp c19), c24, (Int32.not_lt.mpr c24), c37, (Int32.not_lt.mp c37), c43, (Int32.not_lt.mp c43), c51, (Int32.not_le.mp c51)]) hfr hx
        · refine ca_aload_n hX (q := 28) 0 rfl rfl rfl dX5_slip_27 ?_
          refine ca_bipush hX (q := 30) k_bipush_m4 rfl dX5_slip_28 ?_
          refine ca_cV hX (q := 33) y_X5_refuseLong w_ml_X5_194 (by omega) hN hc (c_X5_refuseLong l N g _ hc hN31 (M 6) h30 (-4) 4 (by decide) (by omega) (by omega)) (by decide) rfl (Nat.le_of_ble_eq_true rfl) rfl dX5_slip_30 rfl ?_
          rintro _ g ⟨rfl, h30, hf⟩
          have hx := hx.rf hf h30
          have hfr := hfr.tr (hf.wd (by omega) (by omega))
          refine ca_lret hX rfl rfl rfl rfl dX5_slip_33 ?_
          exact cl_endl (by simp [slA, noL, b01, nk1, nk2, nk4, nk6, c4, er1, c14, (Int32.not_lt.mp c14), c19, (Int32.not_lt.mp c19), c24, (Int32.not_le.mp c24)]) hfr hx
  · refine ca_aload_n hX (q := 8) 0 rfl rfl rfl dX5_slip_7 ?_
    refine ca_iconst hX (q := 9) k_iconst_m1 rfl dX5_slip_8 ?_
    refine ca_cV hX (q := 12) y_X5_refuseLong w_ml_X5_194 (by omega) hN hc (c_X5_refuseLong l N g _ hc hN31 (M 6) h30 (-1) 1 (by decide) (by omega) (by omega)) (by decide) rfl (Nat.le_of_ble_eq_true rfl) rfl dX5_slip_9 rfl ?_
    rintro _ g ⟨rfl, h30, hf⟩
    have hx := hx.rf hf h30
    have hfr := hfr.tr (hf.wd (by omega) (by omega))
    refine ca_lret hX rfl rfl rfl rfl dX5_slip_12 ?_
    exact cl_endl (by simp [slA, noL, b01, nk1, nk2, nk4, nk6, c4]) hfr hx

set_option maxRecDepth 100000 in
set_option maxHeartbeats 4000000 in
theorem m_slip (l : Launch) (N : Nat) (g0 : ca_G) (o : Nat) (M : Nat → Nat → Int32) (hm : mdG g0 o M) (ho : o + 14 ≤ N) (hs4 : M 13 4 = 0) (P : Nat) (w : wfH (M 0) P) (x1 x2 x3 x4 x5 : Int32) : ca_Ct l yX6_slip cX6_slip 14 (some .long) 5 0 0 N 1000000 [.ref o, .int x1, .int x2, .int x3, .int x4, .int x5] g0 (rePl o g0 (slA M P x1 x2 x3 x4 x5)) := by
  refine ca_intro (by decide) (Nat.le_of_ble_eq_true rfl) (fun X hX hN => ?_)
  show X 0 [_, _, _, _, _, _, none, none, none, none, none, none, none, none] [] N 1000000 g0
  obtain ⟨g, hgg⟩ : ∃ g, g = g0 := ⟨g0, rfl⟩
  rw [← hgg] at hm ⊢
  have hfr : frG g0 g o (o + 14) := by rw [hgg]; exact frG.rf
  have hke := keM.rf hs4
  obtain ⟨c0, c1, c2, c3, c4, c5, c6, c7, c8, c9, c10, c11, c12, c13⟩ := id hm
  have hP := w.1
  have hP5 := w.2.1
  have hok := wf_ok w
  refine ca_iload_n hX (q := 1) 1 rfl rfl rfl dX6_slip_0 ?_
  refine ca_cSi hX (q := 4) y_X6_isRoom w_ml_X6_138 hN (c_R_isRoom l N g _) (by decide) rfl (Nat.le_of_ble_eq_true rfl) rfl dX6_slip_1 rfl ?_
  refine ca_if_ne hX (q := 7) 13 rfl rfl dX6_slip_4 (fun b4 => ?_) (fun b4 => ?_)
  · obtain ⟨r1, hr1, rfl⟩ := rm_ok b4
    have er1 := nI_clamp (n := r1) (by omega)
    refine ca_iload_n hX (q := 14) 2 rfl rfl rfl dX6_slip_13 ?_
    refine ca_if_lt hX (q := 17) 27 rfl rfl dX6_slip_14 (fun b14 => ?_) (fun b14 => ?_)
    · refine ca_aload_n hX (q := 28) 0 rfl rfl rfl dX6_slip_27 ?_
      refine ca_bipush hX (q := 30) k_bipush_m4 rfl dX6_slip_28 ?_
      refine ca_cV hX (q := 33) y_X6_noWide w_ml_X6_182 (by omega) hN c0 (c_X6_noWide l N g o _ hm ho (-4) 4 (by decide) (by omega)) (by decide) rfl (Nat.le_of_ble_eq_true rfl) rfl dX6_slip_30 rfl ?_
      rintro _ g ⟨rfl, hm, hf⟩
      have hke := keM.no hke 4
      have hfr := hfr.tr hf
      refine ca_lret hX rfl rfl rfl rfl dX6_slip_33 ?_
      exact re_endl (by simp [slA, noL, nk1, nk2, nk4, nk6, z010, z011, b4, er1, b14, (Int32.not_le.mpr b14)]) hfr hm hke
    · refine ca_iload hX (q := 19) rfl rfl dX6_slip_17 ?_
      refine ca_if_lt hX (q := 22) 27 rfl rfl dX6_slip_19 (fun b19 => ?_) (fun b19 => ?_)
      · refine ca_aload_n hX (q := 28) 0 rfl rfl rfl dX6_slip_27 ?_
        refine ca_bipush hX (q := 30) k_bipush_m4 rfl dX6_slip_28 ?_
        refine ca_cV hX (q := 33) y_X6_noWide w_ml_X6_182 (by omega) hN c0 (c_X6_noWide l N g o _ hm ho (-4) 4 (by decide) (by omega)) (by decide) rfl (Nat.le_of_ble_eq_true rfl) rfl dX6_slip_30 rfl ?_
        rintro _ g ⟨rfl, hm, hf⟩
        have hke := keM.no hke 4
        have hfr := hfr.tr hf
        refine ca_lret hX rfl rfl rfl rfl dX6_slip_33 ?_
        exact re_endl (by simp [slA, noL, nk1, nk2, nk4, nk6, z010, z011, b4, er1, b14, (Int32.not_lt.mp b14), b19, (Int32.not_le.mpr b19)]) hfr hm hke
      · refine ca_iload_n hX (q := 23) 3 rfl rfl rfl dX6_slip_22 ?_
        refine ca_iconst hX (q := 24) k_iconst_2 rfl dX6_slip_23 ?_
        refine ca_icmp_ge hX (q := 27) 34 rfl rfl dX6_slip_24 (fun b24 => ?_) (fun b24 => ?_)
        · refine ca_iload_n hX (q := 35) 2 rfl rfl rfl dX6_slip_34 ?_
          refine ca_bipush hX (q := 37) k_bipush_7 rfl dX6_slip_35 ?_
          refine ca_icmp_gt hX (q := 40) 54 rfl rfl dX6_slip_37 (fun b37 => ?_) (fun b37 => ?_)
          · refine ca_aload_n hX (q := 55) 0 rfl rfl rfl dX6_slip_54 ?_
            refine ca_bipush hX (q := 57) k_bipush_m6 rfl dX6_slip_55 ?_
            refine ca_cV hX (q := 60) y_X6_noWide w_ml_X6_182 (by omega) hN c0 (c_X6_noWide l N g o _ hm ho (-6) 6 (by decide) (by omega)) (by decide) rfl (Nat.le_of_ble_eq_true rfl) rfl dX6_slip_57 rfl ?_
            rintro _ g ⟨rfl, hm, hf⟩
            have hke := keM.no hke 6
            have hfr := hfr.tr hf
            refine ca_lret hX rfl rfl rfl rfl dX6_slip_60 ?_
            exact re_endl (by simp [slA, noL, nk1, nk2, nk4, nk6, z010, z011, b4, er1, b14, (Int32.not_lt.mp b14), b19, (Int32.not_lt.mp b19), b24, (Int32.not_lt.mpr b24), b37, (Int32.not_le.mpr b37)]) hfr hm hke
          · refine ca_iload_n hX (q := 41) 3 rfl rfl rfl dX6_slip_40 ?_
            refine ca_bipush hX (q := 43) k_bipush_20 rfl dX6_slip_41 ?_
            refine ca_icmp_gt hX (q := 46) 54 rfl rfl dX6_slip_43 (fun b43 => ?_) (fun b43 => ?_)
            · refine ca_aload_n hX (q := 55) 0 rfl rfl rfl dX6_slip_54 ?_
              refine ca_bipush hX (q := 57) k_bipush_m6 rfl dX6_slip_55 ?_
              refine ca_cV hX (q := 60) y_X6_noWide w_ml_X6_182 (by omega) hN c0 (c_X6_noWide l N g o _ hm ho (-6) 6 (by decide) (by omega)) (by decide) rfl (Nat.le_of_ble_eq_true rfl) rfl dX6_slip_57 rfl ?_
              rintro _ g ⟨rfl, hm, hf⟩
              have hke := keM.no hke 6
              have hfr := hfr.tr hf
              refine ca_lret hX rfl rfl rfl rfl dX6_slip_60 ?_
              exact re_endl (by simp [slA, noL, nk1, nk2, nk4, nk6, z010, z011, b4, er1, b14, (Int32.not_lt.mp b14), b19, (Int32.not_lt.mp b19), b24, (Int32.not_lt.mpr b24), b37, (Int32.not_lt.mp b37), b43, (Int32.not_le.mpr b43)]) hfr hm hke
            · refine ca_iload hX (q := 48) rfl rfl dX6_slip_46 ?_
              refine ca_sipush hX (q := 51) k_sipush_999 rfl dX6_slip_48 ?_
              refine ca_icmp_le hX (q := 54) 61 rfl rfl dX6_slip_51 (fun b51 => ?_) (fun b51 => ?_)
              · obtain ⟨kn, -, hkn, rfl⟩ := rg_ok (lo := 0) (hi := 7) rfl rfl (by omega) (by omega) (Int32.not_lt.mp b14) (Int32.not_lt.mp b37)
                obtain ⟨kq, hq2, hq20, rfl⟩ := rg_ok (lo := 2) (hi := 20) rfl rfl (by omega) (by omega) b24 (Int32.not_lt.mp b43)
                have en := nI_clamp (n := kn) (by omega)
                have eq := nI_clamp (n := kq) (by omega)
                obtain ⟨hD0, hD31⟩ := pw_31 hq20 hkn hq2
                have hA40 := ab_40 (M 0) P r1 kn kq x4 hq20 hkn (shl7 kn hkn).2
                have hG := Nat.gcd_pos_of_pos_right (abN (M 0) P r1 kn kq x4 (2 ^ kn)) hD0
                have hGl := Nat.gcd_le_right (abN (M 0) P r1 kn kq x4 (2 ^ kn)) hD0
                refine ca_iload hX (q := 63) rfl rfl dX6_slip_61 ?_
                refine ca_iconst hX (q := 64) k_iconst_0 rfl dX6_slip_63 ?_
                refine ca_iconst hX (q := 65) k_iconst_1 rfl dX6_slip_64 ?_
                refine ca_cSi hX (q := 68) y_X6_isIn w_ml_X6_55 hN (c_R_is01 l N g _) (by decide) rfl (Nat.le_of_ble_eq_true rfl) rfl dX6_slip_65 rfl ?_
                refine ca_if_ne hX (q := 71) 78 rfl rfl dX6_slip_68 (fun b68 => ?_) (fun b68 => ?_)
                · obtain ⟨E, hEq, hE1, hE2⟩ : ∃ E, E = 2 ^ kn ∧ (1 : Int32) <<< (nI kn &&& 31) = nI E ∧ E ≤ 128 := ⟨2 ^ kn, rfl, shl7 kn hkn⟩
                  have loop : ∀ (n i : Nat) (g1 : ca_G) (M1 : Nat → Nat → Int32), i + n = E → mdG g1 o M1 → k8M M M1 → frG g0 g1 o (o + 14) → X 109 [some (.ref o), some (.int (nI r1)), some (.int (nI kn)), some (.int (nI kq)), some (.int x4), some (.int x5), some (.long (lN (abN (M 0) P r1 kn kq x4 i))), none, some (.long (lN (kq ^ kn))), none, some (.int (nI i)), none, none, none] [] N 1000000 g1 := by
                    intro n
                    induction n with
                    | zero =>
                      intro i g M1 hi hm hke hfr
                      have hib : i = E := by omega
                      rw [hib]
                      obtain ⟨c0, c1, c2, c3, c4, c5, c6, c7, c8, c9, c10, c11, c12, c13⟩ := id hm
                      rw [hke.1] at c1
                      refine ca_iload hX (q := 111) rfl rfl dX6_slip_109 ?_
                      refine ca_iconst hX (q := 112) k_iconst_1 rfl dX6_slip_111 ?_
                      refine ca_iload_n hX (q := 113) 2 rfl rfl rfl dX6_slip_112 ?_
                      refine ca_ishl hX (q := 114) rfl dX6_slip_113 ?_
                      rw [hE1]
                      refine ca_icmp_ge hX (q := 117) 204 rfl rfl dX6_slip_114 (fun _ => ?_) (fun z => absurd (nI_le (Nat.le_refl _) (by omega)) z)
                      refine ca_aload_n hX (q := 205) 0 rfl rfl rfl dX6_slip_204 ?_
                      refine ca_iconst hX (q := 206) k_iconst_0 rfl dX6_slip_205 ?_
                      refine ca_puti hX (q := 209) (fs' := [_, _, _, _, _, _, _, _, _, _, _, _, _, _, _, _, _, _, _, _]) cl_X6 16 (by decide) w_fl_X6_100 rfl rfl (by omega) hN c0 (Nat.le_of_ble_eq_true rfl) rfl rfl dX6_slip_206 (fun g hE hF => ?_)
                      have hm := md_s4 hm hE hF
                      obtain ⟨c0, c1, c2, c3, c4, c5, c6, c7, c8, c9, c10, c11, c12, c13⟩ := id hm
                      have hfr := frG.tr hfr (fun j hj => hF j (by omega))
                      have hke := hke.ke
                      refine ca_lload hX (q := 211) rfl rfl dX6_slip_209 ?_
                      refine ca_lload hX (q := 213) rfl rfl dX6_slip_211 ?_
                      refine ca_iload hX (q := 215) rfl rfl dX6_slip_213 ?_
                      rw [hEq]
                      refine ca_cSl hX (q := 218) y_X6_partOf w_ml_X6_186 hN (c_X6_partOf l N g (abN (M 0) P r1 kn kq x4 (2 ^ kn)) (kq ^ kn) hA40 hD0 hD31 x5 b68) (by decide) rfl (Nat.le_of_ble_eq_true rfl) rfl dX6_slip_215 rfl ?_
                      refine ca_lret hX rfl rfl rfl rfl dX6_slip_218 ?_
                      exact re_endl (by simp [slA, b4, er1, b14, b19, b24, (Int32.not_lt.mpr b24), b37, b43, b51, (Int32.not_lt.mpr b51), en, eq, b68]) hfr hm hke
                    | succ n ih =>
                      intro i g M1 hi hm hke hfr
                      obtain ⟨c0, c1, c2, c3, c4, c5, c6, c7, c8, c9, c10, c11, c12, c13⟩ := id hm
                      rw [hke.1] at c1
                      refine ca_iload hX (q := 111) rfl rfl dX6_slip_109 ?_
                      refine ca_iconst hX (q := 112) k_iconst_1 rfl dX6_slip_111 ?_
                      refine ca_iload_n hX (q := 113) 2 rfl rfl rfl dX6_slip_112 ?_
                      refine ca_ishl hX (q := 114) rfl dX6_slip_113 ?_
                      rw [hE1]
                      refine ca_icmp_ge hX (q := 117) 204 rfl rfl dX6_slip_114 (fun z => absurd z (nI_ge (a := i) (b := E) (by omega) (by omega))) (fun _ => ?_)
                      obtain ⟨hpc1, hpc2⟩ := pc_ok kn hkn i (by omega)
                      have loop2 : ∀ (n2 j : Nat), j + n2 = kn - pcN i → X 127 [some (.ref o), some (.int (nI r1)), some (.int (nI kn)), some (.int (nI kq)), some (.int x4), some (.int x5), some (.long (lN (abN (M 0) P r1 kn kq x4 i))), none, some (.long (lN (kq ^ kn))), none, some (.int (nI i)), some (.long (lN ((kq - 1) ^ j))), none, some (.int (nI (pcN i + j)))] [] N 1000000 g := by
                        intro n2
                        induction n2 with
                        | zero =>
                          intro j  hj 
                          have hjb : j = kn - pcN i := by omega
                          rw [hjb]
                          refine ca_iload hX (q := 129) rfl rfl dX6_slip_127 ?_
                          refine ca_iload_n hX (q := 130) 2 rfl rfl rfl dX6_slip_129 ?_
                          refine ca_icmp_ge hX (q := 133) 148 rfl rfl dX6_slip_130 (fun _ => ?_) (fun z => absurd (nI_le (by omega) (by omega)) z)
                          refine ca_aload_n hX (q := 149) 0 rfl rfl rfl dX6_slip_148 ?_
                          refine ca_aload_n hX (q := 150) 0 rfl rfl rfl dX6_slip_149 ?_
                          refine ca_getf hX (q := 153) cl_X6 0 (by decide) w_fl_X6_9 (by omega) c0 rfl rfl dX6_slip_150 ?_
                          refine ca_iconst hX (q := 154) k_iconst_0 rfl dX6_slip_153 ?_
                          refine ca_bipush hX (q := 156) k_bipush_m9 rfl dX6_slip_154 ?_
                          refine ca_cV hX (q := 159) y_X6_turnsFrom w_ml_X6_106 (by omega) hN c0 (c_X6_turnsFrom l N g o M1 hm ho (o + 1) (M 0) c1 (by omega) (by omega) P hP hP5 0 (by omega) (-9)) (by decide) rfl (Nat.le_of_ble_eq_true rfl) rfl dX6_slip_156 rfl ?_
                          rintro _ g ⟨rfl, hm, hf⟩
                          have hke := hke.tf 0 P (-9) P
                          have hfr := hfr.tr hf
                          obtain ⟨q1, q2, q3⟩ := tf_all (M := M1) (a := 0) hP5
                          obtain ⟨c0, c1, c2, c3, c4, c5, c6, c7, c8, c9, c10, c11, c12, c13⟩ := id hm
                          rw [hke.1] at c1
                          refine ca_aload_n hX (q := 160) 0 rfl rfl rfl dX6_slip_159 ?_
                          refine ca_iload hX (q := 162) rfl rfl dX6_slip_160 ?_
                          refine ca_puti hX (q := 165) (fs' := [_, _, _, _, _, _, _, _, _, _, _, _, _, _, _, _, _, _, _, _]) cl_X6 16 (by decide) w_fl_X6_100 rfl rfl (by omega) hN c0 (Nat.le_of_ble_eq_true rfl) rfl rfl dX6_slip_162 (fun g hE hF => ?_)
                          have hm := md_s4 hm hE hF
                          obtain ⟨c0, c1, c2, c3, c4, c5, c6, c7, c8, c9, c10, c11, c12, c13⟩ := id hm
                          have hfr := frG.tr hfr (fun j hj => hF j (by omega))
                          have hke := hke.up (k := 4) (nI i) (by omega)
                          rw [hke.1] at c1
                          refine ca_aload_n hX (q := 166) 0 rfl rfl rfl dX6_slip_165 ?_
                          refine ca_aload_n hX (q := 167) 0 rfl rfl rfl dX6_slip_166 ?_
                          refine ca_getf hX (q := 170) cl_X6 0 (by decide) w_fl_X6_9 (by omega) c0 rfl rfl dX6_slip_167 ?_
                          refine ca_iload_n hX (q := 171) 1 rfl rfl rfl dX6_slip_170 ?_
                          refine ca_cV hX (q := 174) y_X6_burns w_ml_X6_110 (by omega) hN c0 (c_X6_burns l N g o _ hm ho (o + 1) (M 0) c1 (by omega) (by omega) (catS (M 0)) (cat_S (M 0)) (tmM (ctS (M 0)) (1 <<< (nI r1 &&& 31))) (fun _ => True) r1 hr1 (tt_ok (ms_S (M 0)) (fun r _ => cat_le (M 0) r) hr1) (alT 0 P).1 (alT 0 P).2 (nI i) (by rw [upB_s, upd_n _ _ (by omega)]; exact q1) q2 (fun j hj => by rw [upB_n _ _ _ (by omega)]; exact q3 j hj) (by rw [upB_s, upd_s])) (by decide) rfl (Nat.le_of_ble_eq_true rfl) rfl dX6_slip_171 rfl ?_
                          rintro _ g ⟨rfl, hf, M2, hm, e2, e7, e9, e10, _⟩
                          have hrf : rfM M2 (M 0) r1 (alT 0 P).1 (alT 0 P).2 (nI i) := by
                            obtain ⟨k1, k2, k3⟩ := re_end (h := M 0) (tn := (alT 0 P).1) hr1 (tu := (alT 0 P).2) (nI i) hok _ _ (fun r hr => cp_m9 ((upB (tfB M1 0 P (-9) P) 13 4 (nI i)) 9) hr) (fun r hr => cp_m9 ((upB (tfB M1 0 P (-9) P) 13 4 (nI i)) 10) hr)
                            exact fun q hq => ⟨(e7 q hq).trans (k1 q hq), (congrFun e9 q).trans (k2 q hq), (congrFun e10 q).trans (k3 q hq)⟩
                          have hfr := hfr.tr hf
                          have hke := hke.b2 e2
                          obtain ⟨c0, c1, c2, c3, c4, c5, c6, c7, c8, c9, c10, c11, c12, c13⟩ := id hm
                          rw [hke.1] at c1
                          refine ca_lload hX (q := 176) rfl rfl dX6_slip_174 ?_
                          refine ca_aload_n hX (q := 177) 0 rfl rfl rfl dX6_slip_176 ?_
                          refine ca_aload_n hX (q := 178) 0 rfl rfl rfl dX6_slip_177 ?_
                          refine ca_getf hX (q := 181) cl_X6 0 (by decide) w_fl_X6_9 (by omega) c0 rfl rfl dX6_slip_178 ?_
                          refine ca_cVi hX (q := 184) y_X6_burntWorth w_ml_X6_114 (by omega) hN c0 (c_X6_burntWorth l N g o M2 hm ho (o + 1) (M 0) c1 (by omega) (by omega)) (by decide) rfl (Nat.le_of_ble_eq_true rfl) rfl dX6_slip_181 rfl ?_
                          rw [rf_w hrf]
                          refine ca_iload hX (q := 186) rfl rfl dX6_slip_184 ?_
                          refine ca_icmp_gt hX (q := 189) 194 rfl rfl dX6_slip_186 (fun b186 => ?_) (fun b186 => ?_)
                          · refine ca_lconst hX (q := 195) k_lconst_0 rfl dX6_slip_194 ?_
                            refine ca_ladd hX (q := 196) rfl dX6_slip_195 ?_
                            refine ca_lstore hX (q := 198) (ls' := [_, _, _, _, _, _, _, _, _, _, _, _, _, _]) (Nat.le_of_ble_eq_true rfl) (Nat.le_of_ble_eq_true rfl) (Or.inr rfl) rfl rfl dX6_slip_196 ?_
                            refine ca_iinc hX (q := 201) (ls' := [_, _, _, _, _, _, _, _, _, _, _, _, _, _]) k_iconst_1 rfl (Nat.le_of_ble_eq_true rfl) (Or.inr rfl) rfl rfl dX6_slip_198 ?_
                            refine ca_goto hX 109 rfl dX6_slip_201 ?_
                            have e1 : (abN (M 0) P r1 kn kq x4 (i + 1)) = (abN (M 0) P r1 kn kq x4 i) := by rw [abN, if_pos b186, Nat.add_zero]
                            rw [Int64.add_zero, show nI i + 1 = nI (i + 1) from nI_add i 1]
                            exact ca_drop hX (ca_le_s rfl (ca_le_s rfl (ca_le_s rfl (ca_le_s rfl (ca_le_s rfl (ca_le_s rfl (ca_le_s (by rw [e1]) (ca_le_n (ca_le_s rfl (ca_le_n (ca_le_s rfl (ca_le_n (ca_le_n (ca_le_n ca_le_0)))))))))))))) (ih (i + 1) _ M2 (by omega) hm hke hfr)
                          · refine ca_lload hX (q := 191) rfl rfl dX6_slip_189 ?_
                            refine ca_goto hX 195 rfl dX6_slip_191 ?_
                            refine ca_ladd hX (q := 196) rfl dX6_slip_195 ?_
                            refine ca_lstore hX (q := 198) (ls' := [_, _, _, _, _, _, _, _, _, _, _, _, _, _]) (Nat.le_of_ble_eq_true rfl) (Nat.le_of_ble_eq_true rfl) (Or.inr rfl) rfl rfl dX6_slip_196 ?_
                            refine ca_iinc hX (q := 201) (ls' := [_, _, _, _, _, _, _, _, _, _, _, _, _, _]) k_iconst_1 rfl (Nat.le_of_ble_eq_true rfl) (Or.inr rfl) rfl rfl dX6_slip_198 ?_
                            refine ca_goto hX 109 rfl dX6_slip_201 ?_
                            have e1 : (abN (M 0) P r1 kn kq x4 (i + 1)) = (abN (M 0) P r1 kn kq x4 i) + (kq - 1) ^ (kn - pcN i) := by rw [abN, if_neg b186]
                            rw [lN_add, show nI i + 1 = nI (i + 1) from nI_add i 1]
                            exact ca_drop hX (ca_le_s rfl (ca_le_s rfl (ca_le_s rfl (ca_le_s rfl (ca_le_s rfl (ca_le_s rfl (ca_le_s (by rw [e1]) (ca_le_n (ca_le_s rfl (ca_le_n (ca_le_s rfl (ca_le_n (ca_le_n (ca_le_n ca_le_0)))))))))))))) (ih (i + 1) _ M2 (by omega) hm hke hfr)
                        | succ n2 ih2 =>
                          intro j  hj 
                          refine ca_iload hX (q := 129) rfl rfl dX6_slip_127 ?_
                          refine ca_iload_n hX (q := 130) 2 rfl rfl rfl dX6_slip_129 ?_
                          refine ca_icmp_ge hX (q := 133) 148 rfl rfl dX6_slip_130 (fun z => absurd z (nI_ge (a := pcN i + j) (b := kn) (by omega) (by omega))) (fun _ => ?_)
                          refine ca_lload hX (q := 135) rfl rfl dX6_slip_133 ?_
                          refine ca_iload_n hX (q := 136) 3 rfl rfl rfl dX6_slip_135 ?_
                          refine ca_iconst hX (q := 137) k_iconst_1 rfl dX6_slip_136 ?_
                          refine ca_isub hX (q := 138) rfl dX6_slip_137 ?_
                          refine ca_i2l hX (q := 139) rfl dX6_slip_138 ?_
                          refine ca_lmul hX (q := 140) rfl dX6_slip_139 ?_
                          refine ca_lstore hX (q := 142) (ls' := [_, _, _, _, _, _, _, _, _, _, _, _, _, _]) (Nat.le_of_ble_eq_true rfl) (Nat.le_of_ble_eq_true rfl) (Or.inr rfl) rfl rfl dX6_slip_140 ?_
                          refine ca_iinc hX (q := 145) (ls' := [_, _, _, _, _, _, _, _, _, _, _, _, _, _]) k_iconst_1 rfl (Nat.le_of_ble_eq_true rfl) (Or.inr rfl) rfl rfl dX6_slip_142 ?_
                          refine ca_goto hX 127 rfl dX6_slip_145 ?_
                          rw [show nI (pcN i + j) + 1 = nI (pcN i + (j + 1)) from nI_add _ 1, nI_m1 (show 1 ≤ kq by omega), nI_l (show kq - 1 < 2 ^ 31 by omega), lN_mul, ← Nat.pow_succ]
                          exact ih2 (j + 1) (by omega)
                      refine ca_lconst hX (q := 118) k_lconst_1 rfl dX6_slip_117 ?_
                      refine ca_lstore hX (q := 120) (ls' := [_, _, _, _, _, _, _, _, _, _, _, _, _, _]) (Nat.le_of_ble_eq_true rfl) (Nat.le_of_ble_eq_true rfl) (Or.inr rfl) rfl rfl dX6_slip_118 ?_
                      refine ca_iload hX (q := 122) rfl rfl dX6_slip_120 ?_
                      refine ca_cSi hX (q := 125) y_X6_bits w_ml_X6_175 hN (c_X6_bits l N g _) (by decide) rfl (Nat.le_of_ble_eq_true rfl) rfl dX6_slip_122 rfl ?_
                      rw [bits_e2 i (by omega), hpc1]
                      refine ca_istore hX (q := 127) (ls' := [_, _, _, _, _, _, _, _, _, _, _, _, _, _]) (Nat.le_of_ble_eq_true rfl) (Nat.le_of_ble_eq_true rfl) (Or.inr rfl) rfl rfl dX6_slip_125 ?_
                      exact ca_drop hX (ca_le_s rfl (ca_le_s rfl (ca_le_s rfl (ca_le_s rfl (ca_le_s rfl (ca_le_s rfl (ca_le_s rfl (ca_le_n (ca_le_s rfl (ca_le_n (ca_le_s rfl (ca_le_s rfl (ca_le_n (ca_le_s rfl ca_le_0)))))))))))))) (loop2 (kn - pcN i) 0 (by omega))
                  have after : X 109 [some (.ref o), some (.int (nI r1)), some (.int (nI kn)), some (.int (nI kq)), some (.int x4), some (.int x5), some (.long 0), none, some (.long (lN (kq ^ kn))), none, some (.int 0), none, none, none] [] N 1000000 g := loop E 0 _ M (by omega) hm hke.k8 hfr
                  have loop1 : ∀ (n i : Nat), i + n = kn → X 87 [some (.ref o), some (.int (nI r1)), some (.int (nI kn)), some (.int (nI kq)), some (.int x4), some (.int x5), some (.long 0), none, some (.long (lN (kq ^ i))), none, some (.int (nI i)), none, none, none] [] N 1000000 g := by
                    intro n
                    induction n with
                    | zero =>
                      intro i  hi 
                      have hib : i = kn := by omega
                      rw [hib]
                      refine ca_iload hX (q := 89) rfl rfl dX6_slip_87 ?_
                      refine ca_iload_n hX (q := 90) 2 rfl rfl rfl dX6_slip_89 ?_
                      refine ca_icmp_ge hX (q := 93) 106 rfl rfl dX6_slip_90 (fun _ => ?_) (fun z => absurd (nI_le (Nat.le_refl _) (by omega)) z)
                      refine ca_iconst hX (q := 107) k_iconst_0 rfl dX6_slip_106 ?_
                      refine ca_istore hX (q := 109) (ls' := [_, _, _, _, _, _, _, _, _, _, _, _, _, _]) (Nat.le_of_ble_eq_true rfl) (Nat.le_of_ble_eq_true rfl) (Or.inr rfl) rfl rfl dX6_slip_107 ?_
                      exact after
                    | succ n ih =>
                      intro i  hi 
                      refine ca_iload hX (q := 89) rfl rfl dX6_slip_87 ?_
                      refine ca_iload_n hX (q := 90) 2 rfl rfl rfl dX6_slip_89 ?_
                      refine ca_icmp_ge hX (q := 93) 106 rfl rfl dX6_slip_90 (fun z => absurd z (nI_ge (a := i) (b := kn) (by omega) (by omega))) (fun _ => ?_)
                      refine ca_lload hX (q := 95) rfl rfl dX6_slip_93 ?_
                      refine ca_iload_n hX (q := 96) 3 rfl rfl rfl dX6_slip_95 ?_
                      refine ca_i2l hX (q := 97) rfl dX6_slip_96 ?_
                      refine ca_lmul hX (q := 98) rfl dX6_slip_97 ?_
                      refine ca_lstore hX (q := 100) (ls' := [_, _, _, _, _, _, _, _, _, _, _, _, _, _]) (Nat.le_of_ble_eq_true rfl) (Nat.le_of_ble_eq_true rfl) (Or.inr rfl) rfl rfl dX6_slip_98 ?_
                      refine ca_iinc hX (q := 103) (ls' := [_, _, _, _, _, _, _, _, _, _, _, _, _, _]) k_iconst_1 rfl (Nat.le_of_ble_eq_true rfl) (Or.inr rfl) rfl rfl dX6_slip_100 ?_
                      refine ca_goto hX 87 rfl dX6_slip_103 ?_
                      rw [show nI i + 1 = nI (i + 1) from nI_add i 1, nI_l (show kq < 2 ^ 31 by omega), lN_mul, ← Nat.pow_succ]
                      exact ih (i + 1) (by omega)
                  refine ca_lconst hX (q := 79) k_lconst_0 rfl dX6_slip_78 ?_
                  refine ca_lstore hX (q := 81) (ls' := [_, _, _, _, _, _, _, _, _, _, _, _, _, _]) (Nat.le_of_ble_eq_true rfl) (Nat.le_of_ble_eq_true rfl) (Or.inr rfl) rfl rfl dX6_slip_79 ?_
                  refine ca_lconst hX (q := 82) k_lconst_1 rfl dX6_slip_81 ?_
                  refine ca_lstore hX (q := 84) (ls' := [_, _, _, _, _, _, _, _, _, _, _, _, _, _]) (Nat.le_of_ble_eq_true rfl) (Nat.le_of_ble_eq_true rfl) (Or.inr rfl) rfl rfl dX6_slip_82 ?_
                  refine ca_iconst hX (q := 85) k_iconst_0 rfl dX6_slip_84 ?_
                  refine ca_istore hX (q := 87) (ls' := [_, _, _, _, _, _, _, _, _, _, _, _, _, _]) (Nat.le_of_ble_eq_true rfl) (Nat.le_of_ble_eq_true rfl) (Or.inr rfl) rfl rfl dX6_slip_85 ?_
                  exact loop1 kn 0 (by omega)
                · refine ca_aload_n hX (q := 72) 0 rfl rfl rfl dX6_slip_71 ?_
                  refine ca_bipush hX (q := 74) k_bipush_m2 rfl dX6_slip_72 ?_
                  refine ca_cV hX (q := 77) y_X6_noWide w_ml_X6_182 (by omega) hN c0 (c_X6_noWide l N g o _ hm ho (-2) 2 (by decide) (by omega)) (by decide) rfl (Nat.le_of_ble_eq_true rfl) rfl dX6_slip_74 rfl ?_
                  rintro _ g ⟨rfl, hm, hf⟩
                  have hke := keM.no hke 2
                  have hfr := hfr.tr hf
                  refine ca_lret hX rfl rfl rfl rfl dX6_slip_77 ?_
                  exact re_endl (by simp [slA, noL, nk1, nk2, nk4, nk6, z010, z011, b4, er1, b14, (Int32.not_lt.mp b14), b19, (Int32.not_lt.mp b19), b24, (Int32.not_lt.mpr b24), b37, (Int32.not_lt.mp b37), b43, (Int32.not_lt.mp b43), b51, (Int32.not_lt.mpr b51), en, eq, b68]) hfr hm hke
              · refine ca_aload_n hX (q := 55) 0 rfl rfl rfl dX6_slip_54 ?_
                refine ca_bipush hX (q := 57) k_bipush_m6 rfl dX6_slip_55 ?_
                refine ca_cV hX (q := 60) y_X6_noWide w_ml_X6_182 (by omega) hN c0 (c_X6_noWide l N g o _ hm ho (-6) 6 (by decide) (by omega)) (by decide) rfl (Nat.le_of_ble_eq_true rfl) rfl dX6_slip_57 rfl ?_
                rintro _ g ⟨rfl, hm, hf⟩
                have hke := keM.no hke 6
                have hfr := hfr.tr hf
                refine ca_lret hX rfl rfl rfl rfl dX6_slip_60 ?_
                exact re_endl (by simp [slA, noL, nk1, nk2, nk4, nk6, z010, z011, b4, er1, b14, (Int32.not_lt.mp b14), b19, (Int32.not_lt.mp b19), b24, (Int32.not_lt.mpr b24), b37, (Int32.not_lt.mp b37), b43, (Int32.not_lt.mp b43), b51, (Int32.not_le.mp b51)]) hfr hm hke
        · refine ca_aload_n hX (q := 28) 0 rfl rfl rfl dX6_slip_27 ?_
          refine ca_bipush hX (q := 30) k_bipush_m4 rfl dX6_slip_28 ?_
          refine ca_cV hX (q := 33) y_X6_noWide w_ml_X6_182 (by omega) hN c0 (c_X6_noWide l N g o _ hm ho (-4) 4 (by decide) (by omega)) (by decide) rfl (Nat.le_of_ble_eq_true rfl) rfl dX6_slip_30 rfl ?_
          rintro _ g ⟨rfl, hm, hf⟩
          have hke := keM.no hke 4
          have hfr := hfr.tr hf
          refine ca_lret hX rfl rfl rfl rfl dX6_slip_33 ?_
          exact re_endl (by simp [slA, noL, nk1, nk2, nk4, nk6, z010, z011, b4, er1, b14, (Int32.not_lt.mp b14), b19, (Int32.not_lt.mp b19), b24, (Int32.not_le.mp b24)]) hfr hm hke
  · refine ca_aload_n hX (q := 8) 0 rfl rfl rfl dX6_slip_7 ?_
    refine ca_iconst hX (q := 9) k_iconst_m1 rfl dX6_slip_8 ?_
    refine ca_cV hX (q := 12) y_X6_noWide w_ml_X6_182 (by omega) hN c0 (c_X6_noWide l N g o _ hm ho (-1) 1 (by decide) (by omega)) (by decide) rfl (Nat.le_of_ble_eq_true rfl) rfl dX6_slip_9 rfl ?_
    rintro _ g ⟨rfl, hm, hf⟩
    have hke := keM.no hke 1
    have hfr := hfr.tr hf
    refine ca_lret hX rfl rfl rfl rfl dX6_slip_12 ?_
    exact re_endl (by simp [slA, noL, nk1, nk2, nk4, nk6, z010, z011, b4]) hfr hm hke

