/-! whatWas, lots of both -/
theorem ww_0 (h : Nat → Int32) (q : Nat) (x : Int32) : upd (upd h (2 + q) x) (27 + q) (fgH h q) = upd h (2 + q) x := by
  have : fgH h q = (upd h (2 + q) x) (27 + q) := by rw [upd_n _ _ (by omega)]; rfl
  rw [this]; exact upd_id _ _
theorem ww_1 (h : Nat → Int32) (q : Nat) (x : Int32) : upd (upd h (2 + q) (kdH h q)) (27 + q) x = upd h (27 + q) x := by
  rw [show kdH h q = h (2 + q) from rfl, upd_id]

set_option maxRecDepth 100000 in
set_option maxHeartbeats 4000000 in
theorem k_whatWas (l : Launch) (N : Nat) (g0 : ca_G) (M : Nat → Nat → Int32) (t : Nat → Int32) (B : Nat → Nat → Int32) (hx : clX g0 M t B) (hN31 : 31 ≤ N) (P : Nat) (w : wfH (M 0) P) (k : Nat) (hk : M 13 2 = nI k) (hk6 : k ≤ 25) (x1 x2 x3 : Int32) : ca_Ct l yX5_whatWas cX5_whatWas 7 (some .int) 5 0 0 N 1000000 [.ref 0, .int x1, .int x2, .int x3] g0 (clP g0 (wwA M P k x1 x2 x3)) := by
  refine ca_intro (by decide) (Nat.le_of_ble_eq_true rfl) (fun X hX hN => ?_)
  show X 0 [_, _, _, _, none, none, none] [] N 1000000 g0
  obtain ⟨g, hgg⟩ : ∃ g, g = g0 := ⟨g0, rfl⟩
  rw [← hgg] at hx ⊢
  have hfr : frG g0 g 0 31 := by rw [hgg]; exact frG.rf
  obtain ⟨hc, hh, hkp, htr, hz, htl, hlt, hrw, h30⟩ := id hx
  have h0 := hh.1
  have k0 := hkp.1
  have t0 := htr.1
  have d0 := hz.1
  have l0 := hlt.1
  have w0 := hrw.1
  have hP := w.1
  have hP5 := w.2.1
  have hok := wf_ok w
  refine ca_iload_n hX (q := 1) 1 rfl rfl rfl dX5_whatWas_0 ?_
  refine ca_cSi hX (q := 4) y_X5_isRoom w_ml_X5_78 hN (c_X5_isRoom l N g _) (by decide) rfl (Nat.le_of_ble_eq_true rfl) rfl dX5_whatWas_1 rfl ?_
  refine ca_if_eq hX (q := 7) 14 rfl rfl dX5_whatWas_4 (fun c4 => ?_) (fun c4 => ?_)
  · refine ca_aload_n hX (q := 15) 0 rfl rfl rfl dX5_whatWas_14 ?_
    refine ca_iconst hX (q := 16) k_iconst_m1 rfl dX5_whatWas_15 ?_
    refine ca_cV hX (q := 19) y_X5_refuse w_ml_X5_53 (by omega) hN hc (c_X5_refuse l N g _ hc hN31 (M 6) h30 (-1) 1 (by decide) (by omega) (by omega)) (by decide) rfl (Nat.le_of_ble_eq_true rfl) rfl dX5_whatWas_16 rfl ?_
    rintro _ g ⟨rfl, h30, hf⟩
    have hx := hx.rf hf h30
    have hfr := hfr.tr (hf.wd (by omega) (by omega))
    refine ca_iret hX rfl rfl rfl rfl dX5_whatWas_19 ?_
    exact cl_end (by simp [wwA, b01, noA, nk1, nk2, nk3, nk4, nk6, c4]) hfr hx
  · obtain ⟨r1, hr1, rfl⟩ := rm_ok c4
    have er1 := nI_clamp (n := r1) (by omega)
    refine ca_iload_n hX (q := 8) 2 rfl rfl rfl dX5_whatWas_7 ?_
    refine ca_cSi hX (q := 11) y_X5_isRoom w_ml_X5_78 hN (c_X5_isRoom l N g _) (by decide) rfl (Nat.le_of_ble_eq_true rfl) rfl dX5_whatWas_8 rfl ?_
    refine ca_if_ne hX (q := 14) 20 rfl rfl dX5_whatWas_11 (fun c11 => ?_) (fun c11 => ?_)
    · obtain ⟨r2, hr2, rfl⟩ := rm_ok c11
      have er2 := nI_clamp (n := r2) (by omega)
      refine ca_iload_n hX (q := 21) 3 rfl rfl rfl dX5_whatWas_20 ?_
      refine ca_if_eq hX (q := 24) 36 rfl rfl dX5_whatWas_21 (fun c21 => ?_) (fun c21 => ?_)
      · refine ca_aload_n hX (q := 37) 0 rfl rfl rfl dX5_whatWas_36 ?_
        refine ca_getf hX (q := 40) cl_X5 2 (by decide) w_fl_X5_19 (by omega) hc rfl rfl dX5_whatWas_37 ?_
        refine ca_aload_n hX (q := 41) 0 rfl rfl rfl dX5_whatWas_40 ?_
        refine ca_getf hX (q := 44) cl_X5 0 (by decide) w_fl_X5_10 (by omega) hc rfl rfl dX5_whatWas_41 ?_
        refine ca_cV hX (q := 47) y_X1_become w_ml_X5_67 (by omega) hN t0 (c_X1_become l N g 11 t htr (by omega) 1 (M 0) hh (by omega) (by omega)) (by decide) rfl (Nat.le_of_ble_eq_true rfl) rfl dX5_whatWas_44 rfl ?_
        rintro _ g ⟨rfl, hq, hf⟩
        rw [show M 0 = upd (upd (M 0) (2 + r2) (M 0 (2 + r2))) (27 + r2) (M 0 (27 + r2)) by rw [show M 0 (2 + r2) = kdH (M 0) r2 from rfl, ww_1, upd_id]] at hq
        have hx := hx.tr hf hq
        have hfr := hfr.tr (hf.wd (by omega) (by omega))
        obtain ⟨hc, hh, hkp, htr, hz, htl, hlt, hrw, h30⟩ := id hx
        have h0 := hh.1
        have k0 := hkp.1
        have t0 := htr.1
        have d0 := hz.1
        have l0 := hlt.1
        have w0 := hrw.1
        have hb01 : ¬ b01 x3 = 0 := by (first | (rw [c21]; decide) | (rw [c26]; decide))
        have hwn := ww_n (w := x3)
        have loop : ∀ (n i : Nat) (g1 : ca_G) (B1 : Nat → Nat → Int32) (a b : Int32), i + n = wwN x3 → clX g1 M (upd (upd (M 0) (2 + r2) a) (27 + r2) b) B1 → frG g0 g1 0 31 → X 66 [some (.ref 0), some (.int (nI r1)), some (.int (nI r2)), some (.int x3), some (.int (nI (wwN x3))), some (.int (wwF (M 0) P r1 r2 x3 (M 5) k i)), some (.int (nI i))] [] N 1000000 g1 := by
          intro n
          induction n with
          | zero =>
            intro i g B a b hi hx hfr
            have hib : i = wwN x3 := by omega
            rw [hib]
            obtain ⟨hc, hh, hkp, htr, hz, htl, hlt, hrw, h30⟩ := id hx
            have h0 := hh.1
            have k0 := hkp.1
            have t0 := htr.1
            have d0 := hz.1
            have l0 := hlt.1
            have w0 := hrw.1
            refine ca_iload hX (q := 68) rfl rfl dX5_whatWas_66 ?_
            refine ca_iload hX (q := 70) rfl rfl dX5_whatWas_68 ?_
            refine ca_icmp_ge hX (q := 73) 139 rfl rfl dX5_whatWas_70 (fun _ => ?_) (fun z => absurd (nI_le (Nat.le_refl _) (by omega)) z)
            refine ca_iload hX (q := 141) rfl rfl dX5_whatWas_139 ?_
            refine ca_iret hX rfl rfl rfl rfl dX5_whatWas_141 ?_
            exact cl_end (by simp [wwA, noA, nk1, nk2, nk3, nk4, nk6, c4, er1, c11, er2, hb01]) hfr hx
          | succ n ih =>
            intro i g B a b hi hx hfr
            obtain ⟨hc, hh, hkp, htr, hz, htl, hlt, hrw, h30⟩ := id hx
            have h0 := hh.1
            have k0 := hkp.1
            have t0 := htr.1
            have d0 := hz.1
            have l0 := hlt.1
            have w0 := hrw.1
            refine ca_iload hX (q := 68) rfl rfl dX5_whatWas_66 ?_
            refine ca_iload hX (q := 70) rfl rfl dX5_whatWas_68 ?_
            refine ca_icmp_ge hX (q := 73) 139 rfl rfl dX5_whatWas_70 (fun z => absurd z (nI_ge (a := i) (b := wwN x3) (by omega) (by omega))) (fun _ => ?_)
            refine ca_iload_n hX (q := 74) 3 rfl rfl rfl dX5_whatWas_73 ?_
            refine ca_if_ne hX (q := 77) 98 rfl rfl dX5_whatWas_74 (fun c74 => ?_) (fun c74 => ?_)
            · refine ca_aload_n hX (q := 99) 0 rfl rfl rfl dX5_whatWas_98 ?_
              refine ca_getf hX (q := 102) cl_X5 2 (by decide) w_fl_X5_19 (by omega) hc rfl rfl dX5_whatWas_99 ?_
              refine ca_iload_n hX (q := 103) 2 rfl rfl rfl dX5_whatWas_102 ?_
              refine ca_aload_n hX (q := 104) 0 rfl rfl rfl dX5_whatWas_103 ?_
              refine ca_getf hX (q := 107) cl_X5 0 (by decide) w_fl_X5_10 (by omega) hc rfl rfl dX5_whatWas_104 ?_
              refine ca_iload_n hX (q := 108) 2 rfl rfl rfl dX5_whatWas_107 ?_
              refine ca_cVi hX (q := 111) y_X1_kindOf w_ml_X5_82 (by omega) hN h0 (c_X1_kindOf l N g 1 (M 0) hh (by omega) r2 hr2) (by decide) rfl (Nat.le_of_ble_eq_true rfl) rfl dX5_whatWas_108 rfl ?_
              refine ca_iload hX (q := 113) rfl rfl dX5_whatWas_111 ?_
              refine ca_cV hX (q := 116) y_X1_put w_ml_X5_107 (by omega) hN t0 (c_X1_put l N g 11 (upd (upd (M 0) (2 + r2) a) (27 + r2) b) htr (by omega) r2 hr2 (kdH (M 0) r2) (nI i)) (by decide) rfl (Nat.le_of_ble_eq_true rfl) rfl dX5_whatWas_113 rfl ?_
              rintro _ g ⟨rfl, hq, hf⟩
              rw [upd_4 (M 0) _ _ _ _ _ _ (by omega)] at hq
              have heq : upd (upd (M 0) (2 + r2) (kdH (M 0) r2)) (27 + r2) (nI i) = wwH (M 0) r2 x3 i := by rw [ww_1, wwH, if_neg c74]
              have hx := hx.tr hf hq
              have hfr := hfr.tr (hf.wd (by omega) (by omega))
              obtain ⟨hc, hh, hkp, htr, hz, htl, hlt, hrw, h30⟩ := id hx
              have h0 := hh.1
              have k0 := hkp.1
              have t0 := htr.1
              have d0 := hz.1
              have l0 := hlt.1
              have w0 := hrw.1
              refine ca_aload_n hX (q := 117) 0 rfl rfl rfl dX5_whatWas_116 ?_
              refine ca_iload_n hX (q := 118) 1 rfl rfl rfl dX5_whatWas_117 ?_
              refine ca_cV hX (q := 121) y_X5_burnsAsRowTells w_ml_X5_210 (by omega) hN hc (k_bart l N g M _ B hx hN31 P (by rw [heq]; exact (wf_ww w hr2 x3 (by omega)).1) hP5 (by rw [heq]; exact wf_ok (wf_ww w hr2 x3 (by omega))) k hk hk6 r1 hr1) (by decide) rfl (Nat.le_of_ble_eq_true rfl) rfl dX5_whatWas_118 rfl ?_
              rintro _ g ⟨rfl, hf, B, hx⟩
              have hfr := hfr.tr hf
              obtain ⟨hc, hh, hkp, htr, hz, htl, hlt, hrw, h30⟩ := id hx
              have h0 := hh.1
              have k0 := hkp.1
              have t0 := htr.1
              have d0 := hz.1
              have l0 := hlt.1
              have w0 := hrw.1
              rw [heq]
              refine ca_if_eq hX (q := 124) 133 rfl rfl dX5_whatWas_121 (fun c121 => ?_) (fun c121 => ?_)
              · refine ca_iinc hX (q := 136) (ls' := [_, _, _, _, _, _, _]) k_iconst_1 rfl (Nat.le_of_ble_eq_true rfl) (Or.inr rfl) rfl rfl dX5_whatWas_133 ?_
                refine ca_goto hX 66 rfl dX5_whatWas_136 ?_
                have e1 : (wwF (M 0) P r1 r2 x3 (M 5) k (i + 1)) = (wwF (M 0) P r1 r2 x3 (M 5) k i) := by rw [wwF, if_pos c121]
                rw [nI_1]
                exact ca_drop hX (ca_le_s rfl (ca_le_s rfl (ca_le_s rfl (ca_le_s rfl (ca_le_s rfl (ca_le_s (by rw [e1]) (ca_le_s rfl ca_le_0))))))) (ih (i + 1) _ B _ _ (by omega) hx hfr)
              · refine ca_iload hX (q := 126) rfl rfl dX5_whatWas_124 ?_
                refine ca_iconst hX (q := 127) k_iconst_1 rfl dX5_whatWas_126 ?_
                refine ca_iload hX (q := 129) rfl rfl dX5_whatWas_127 ?_
                refine ca_ishl hX (q := 130) rfl dX5_whatWas_129 ?_
                refine ca_ior hX (q := 131) rfl dX5_whatWas_130 ?_
                refine ca_istore hX (q := 133) (ls' := [_, _, _, _, _, _, _]) (Nat.le_of_ble_eq_true rfl) (Nat.le_of_ble_eq_true rfl) (Or.inr rfl) rfl rfl dX5_whatWas_131 ?_
                refine ca_iinc hX (q := 136) (ls' := [_, _, _, _, _, _, _]) k_iconst_1 rfl (Nat.le_of_ble_eq_true rfl) (Or.inr rfl) rfl rfl dX5_whatWas_133 ?_
                refine ca_goto hX 66 rfl dX5_whatWas_136 ?_
                have e1 : (wwF (M 0) P r1 r2 x3 (M 5) k (i + 1)) = (wwF (M 0) P r1 r2 x3 (M 5) k i) ||| 1 <<< (nI i &&& 31) := by rw [wwF, if_neg c121]
                rw [nI_1]
                exact ca_drop hX (ca_le_s rfl (ca_le_s rfl (ca_le_s rfl (ca_le_s rfl (ca_le_s rfl (ca_le_s (by rw [e1]) (ca_le_s rfl ca_le_0))))))) (ih (i + 1) _ B _ _ (by omega) hx hfr)
            · refine ca_aload_n hX (q := 78) 0 rfl rfl rfl dX5_whatWas_77 ?_
              refine ca_getf hX (q := 81) cl_X5 2 (by decide) w_fl_X5_19 (by omega) hc rfl rfl dX5_whatWas_78 ?_
              refine ca_iload_n hX (q := 82) 2 rfl rfl rfl dX5_whatWas_81 ?_
              refine ca_iload hX (q := 84) rfl rfl dX5_whatWas_82 ?_
              refine ca_aload_n hX (q := 85) 0 rfl rfl rfl dX5_whatWas_84 ?_
              refine ca_getf hX (q := 88) cl_X5 0 (by decide) w_fl_X5_10 (by omega) hc rfl rfl dX5_whatWas_85 ?_
              refine ca_iload_n hX (q := 89) 2 rfl rfl rfl dX5_whatWas_88 ?_
              refine ca_cVi hX (q := 92) y_X1_figureOf w_ml_X5_85 (by omega) hN h0 (c_X1_figureOf l N g 1 (M 0) hh (by omega) r2 hr2) (by decide) rfl (Nat.le_of_ble_eq_true rfl) rfl dX5_whatWas_89 rfl ?_
              refine ca_cV hX (q := 95) y_X1_put w_ml_X5_107 (by omega) hN t0 (c_X1_put l N g 11 (upd (upd (M 0) (2 + r2) a) (27 + r2) b) htr (by omega) r2 hr2 (nI i) (fgH (M 0) r2)) (by decide) rfl (Nat.le_of_ble_eq_true rfl) rfl dX5_whatWas_92 rfl ?_
              rintro _ g ⟨rfl, hq, hf⟩
              rw [upd_4 (M 0) _ _ _ _ _ _ (by omega)] at hq
              have heq : upd (upd (M 0) (2 + r2) (nI i)) (27 + r2) (fgH (M 0) r2) = wwH (M 0) r2 x3 i := by rw [ww_0, wwH, if_pos c74]
              have hx := hx.tr hf hq
              have hfr := hfr.tr (hf.wd (by omega) (by omega))
              obtain ⟨hc, hh, hkp, htr, hz, htl, hlt, hrw, h30⟩ := id hx
              have h0 := hh.1
              have k0 := hkp.1
              have t0 := htr.1
              have d0 := hz.1
              have l0 := hlt.1
              have w0 := hrw.1
              refine ca_goto hX 116 rfl dX5_whatWas_95 ?_
              refine ca_aload_n hX (q := 117) 0 rfl rfl rfl dX5_whatWas_116 ?_
              refine ca_iload_n hX (q := 118) 1 rfl rfl rfl dX5_whatWas_117 ?_
              refine ca_cV hX (q := 121) y_X5_burnsAsRowTells w_ml_X5_210 (by omega) hN hc (k_bart l N g M _ B hx hN31 P (by rw [heq]; exact (wf_ww w hr2 x3 (by omega)).1) hP5 (by rw [heq]; exact wf_ok (wf_ww w hr2 x3 (by omega))) k hk hk6 r1 hr1) (by decide) rfl (Nat.le_of_ble_eq_true rfl) rfl dX5_whatWas_118 rfl ?_
              rintro _ g ⟨rfl, hf, B, hx⟩
              have hfr := hfr.tr hf
              obtain ⟨hc, hh, hkp, htr, hz, htl, hlt, hrw, h30⟩ := id hx
              have h0 := hh.1
              have k0 := hkp.1
              have t0 := htr.1
              have d0 := hz.1
              have l0 := hlt.1
              have w0 := hrw.1
              rw [heq]
              refine ca_if_eq hX (q := 124) 133 rfl rfl dX5_whatWas_121 (fun c121 => ?_) (fun c121 => ?_)
              · refine ca_iinc hX (q := 136) (ls' := [_, _, _, _, _, _, _]) k_iconst_1 rfl (Nat.le_of_ble_eq_true rfl) (Or.inr rfl) rfl rfl dX5_whatWas_133 ?_
                refine ca_goto hX 66 rfl dX5_whatWas_136 ?_
                have e1 : (wwF (M 0) P r1 r2 x3 (M 5) k (i + 1)) = (wwF (M 0) P r1 r2 x3 (M 5) k i) := by rw [wwF, if_pos c121]
                rw [nI_1]
                exact ca_drop hX (ca_le_s rfl (ca_le_s rfl (ca_le_s rfl (ca_le_s rfl (ca_le_s rfl (ca_le_s (by rw [e1]) (ca_le_s rfl ca_le_0))))))) (ih (i + 1) _ B _ _ (by omega) hx hfr)
              · refine ca_iload hX (q := 126) rfl rfl dX5_whatWas_124 ?_
                refine ca_iconst hX (q := 127) k_iconst_1 rfl dX5_whatWas_126 ?_
                refine ca_iload hX (q := 129) rfl rfl dX5_whatWas_127 ?_
                refine ca_ishl hX (q := 130) rfl dX5_whatWas_129 ?_
                refine ca_ior hX (q := 131) rfl dX5_whatWas_130 ?_
                refine ca_istore hX (q := 133) (ls' := [_, _, _, _, _, _, _]) (Nat.le_of_ble_eq_true rfl) (Nat.le_of_ble_eq_true rfl) (Or.inr rfl) rfl rfl dX5_whatWas_131 ?_
                refine ca_iinc hX (q := 136) (ls' := [_, _, _, _, _, _, _]) k_iconst_1 rfl (Nat.le_of_ble_eq_true rfl) (Or.inr rfl) rfl rfl dX5_whatWas_133 ?_
                refine ca_goto hX 66 rfl dX5_whatWas_136 ?_
                have e1 : (wwF (M 0) P r1 r2 x3 (M 5) k (i + 1)) = (wwF (M 0) P r1 r2 x3 (M 5) k i) ||| 1 <<< (nI i &&& 31) := by rw [wwF, if_neg c121]
                rw [nI_1]
                exact ca_drop hX (ca_le_s rfl (ca_le_s rfl (ca_le_s rfl (ca_le_s rfl (ca_le_s rfl (ca_le_s (by rw [e1]) (ca_le_s rfl ca_le_0))))))) (ih (i + 1) _ B _ _ (by omega) hx hfr)
        refine ca_iload_n hX (q := 48) 3 rfl rfl rfl dX5_whatWas_47 ?_
        refine ca_if_ne hX (q := 51) 56 rfl rfl dX5_whatWas_48 (fun c48 => ?_) (fun c48 => ?_)
        · refine ca_bipush hX (q := 58) k_bipush_10 rfl dX5_whatWas_56 ?_
          refine ca_istore hX (q := 60) (ls' := [_, _, _, _, _, _, _]) (Nat.le_of_ble_eq_true rfl) (Nat.le_of_ble_eq_true rfl) (Or.inr rfl) rfl rfl dX5_whatWas_58 ?_
          refine ca_iconst hX (q := 61) k_iconst_0 rfl dX5_whatWas_60 ?_
          refine ca_istore hX (q := 63) (ls' := [_, _, _, _, _, _, _]) (Nat.le_of_ble_eq_true rfl) (Nat.le_of_ble_eq_true rfl) (Or.inr rfl) rfl rfl dX5_whatWas_61 ?_
          refine ca_iconst hX (q := 64) k_iconst_0 rfl dX5_whatWas_63 ?_
          refine ca_istore hX (q := 66) (ls' := [_, _, _, _, _, _, _]) (Nat.le_of_ble_eq_true rfl) (Nat.le_of_ble_eq_true rfl) (Or.inr rfl) rfl rfl dX5_whatWas_64 ?_
          first | (exact ca_drop hX (ca_le_s rfl (ca_le_s rfl (ca_le_s rfl (ca_le_s rfl (ca_le_s (by rw [wwN, if_neg c48]; rfl) (ca_le_s rfl (ca_le_s rfl ca_le_0))))))) (loop (wwN x3) 0 _ B _ _ (by omega) hx hfr)) | (exact ca_drop hX (ca_le_s rfl (ca_le_s rfl (ca_le_s rfl (ca_le_s rfl (ca_le_s (by rw [wwN, if_pos c48]; rfl) (ca_le_s rfl (ca_le_s rfl ca_le_0))))))) (loop (wwN x3) 0 _ B _ _ (by omega) hx hfr))
        · refine ca_bipush hX (q := 53) k_bipush_6 rfl dX5_whatWas_51 ?_
          refine ca_goto hX 58 rfl dX5_whatWas_53 ?_
          refine ca_istore hX (q := 60) (ls' := [_, _, _, _, _, _, _]) (Nat.le_of_ble_eq_true rfl) (Nat.le_of_ble_eq_true rfl) (Or.inr rfl) rfl rfl dX5_whatWas_58 ?_
          refine ca_iconst hX (q := 61) k_iconst_0 rfl dX5_whatWas_60 ?_
          refine ca_istore hX (q := 63) (ls' := [_, _, _, _, _, _, _]) (Nat.le_of_ble_eq_true rfl) (Nat.le_of_ble_eq_true rfl) (Or.inr rfl) rfl rfl dX5_whatWas_61 ?_
          refine ca_iconst hX (q := 64) k_iconst_0 rfl dX5_whatWas_63 ?_
          refine ca_istore hX (q := 66) (ls' := [_, _, _, _, _, _, _]) (Nat.le_of_ble_eq_true rfl) (Nat.le_of_ble_eq_true rfl) (Or.inr rfl) rfl rfl dX5_whatWas_64 ?_
          first | (exact ca_drop hX (ca_le_s rfl (ca_le_s rfl (ca_le_s rfl (ca_le_s rfl (ca_le_s (by rw [wwN, if_neg c48]; rfl) (ca_le_s rfl (ca_le_s rfl ca_le_0))))))) (loop (wwN x3) 0 _ B _ _ (by omega) hx hfr)) | (exact ca_drop hX (ca_le_s rfl (ca_le_s rfl (ca_le_s rfl (ca_le_s rfl (ca_le_s (by rw [wwN, if_pos c48]; rfl) (ca_le_s rfl (ca_le_s rfl ca_le_0))))))) (loop (wwN x3) 0 _ B _ _ (by omega) hx hfr))
      · refine ca_iload_n hX (q := 25) 3 rfl rfl rfl dX5_whatWas_24 ?_
        refine ca_iconst hX (q := 26) k_iconst_1 rfl dX5_whatWas_25 ?_
        refine ca_icmp_eq hX (q := 29) 36 rfl rfl dX5_whatWas_26 (fun c26 => ?_) (fun c26 => ?_)
        · refine ca_aload_n hX (q := 37) 0 rfl rfl rfl dX5_whatWas_36 ?_
          refine ca_getf hX (q := 40) cl_X5 2 (by decide) w_fl_X5_19 (by omega) hc rfl rfl dX5_whatWas_37 ?_
          refine ca_aload_n hX (q := 41) 0 rfl rfl rfl dX5_whatWas_40 ?_
          refine ca_getf hX (q := 44) cl_X5 0 (by decide) w_fl_X5_10 (by omega) hc rfl rfl dX5_whatWas_41 ?_
          refine ca_cV hX (q := 47) y_X1_become w_ml_X5_67 (by omega) hN t0 (c_X1_become l N g 11 t htr (by omega) 1 (M 0) hh (by omega) (by omega)) (by decide) rfl (Nat.le_of_ble_eq_true rfl) rfl dX5_whatWas_44 rfl ?_
          rintro _ g ⟨rfl, hq, hf⟩
          rw [show M 0 = upd (upd (M 0) (2 + r2) (M 0 (2 + r2))) (27 + r2) (M 0 (27 + r2)) by rw [show M 0 (2 + r2) = kdH (M 0) r2 from rfl, ww_1, upd_id]] at hq
          have hx := hx.tr hf hq
          have hfr := hfr.tr (hf.wd (by omega) (by omega))
          obtain ⟨hc, hh, hkp, htr, hz, htl, hlt, hrw, h30⟩ := id hx
          have h0 := hh.1
          have k0 := hkp.1
          have t0 := htr.1
          have d0 := hz.1
          have l0 := hlt.1
          have w0 := hrw.1
          have hb01 : ¬ b01 x3 = 0 := by (first | (rw [c21]; decide) | (rw [c26]; decide))
          have hwn := ww_n (w := x3)
          have loop : ∀ (n i : Nat) (g1 : ca_G) (B1 : Nat → Nat → Int32) (a b : Int32), i + n = wwN x3 → clX g1 M (upd (upd (M 0) (2 + r2) a) (27 + r2) b) B1 → frG g0 g1 0 31 → X 66 [some (.ref 0), some (.int (nI r1)), some (.int (nI r2)), some (.int x3), some (.int (nI (wwN x3))), some (.int (wwF (M 0) P r1 r2 x3 (M 5) k i)), some (.int (nI i))] [] N 1000000 g1 := by
            intro n
            induction n with
            | zero =>
              intro i g B a b hi hx hfr
              have hib : i = wwN x3 := by omega
              rw [hib]
              obtain ⟨hc, hh, hkp, htr, hz, htl, hlt, hrw, h30⟩ := id hx
              have h0 := hh.1
              have k0 := hkp.1
              have t0 := htr.1
              have d0 := hz.1
              have l0 := hlt.1
              have w0 := hrw.1
              refine ca_iload hX (q := 68) rfl rfl dX5_whatWas_66 ?_
              refine ca_iload hX (q := 70) rfl rfl dX5_whatWas_68 ?_
              refine ca_icmp_ge hX (q := 73) 139 rfl rfl dX5_whatWas_70 (fun _ => ?_) (fun z => absurd (nI_le (Nat.le_refl _) (by omega)) z)
              refine ca_iload hX (q := 141) rfl rfl dX5_whatWas_139 ?_
              refine ca_iret hX rfl rfl rfl rfl dX5_whatWas_141 ?_
              exact cl_end (by simp [wwA, noA, nk1, nk2, nk3, nk4, nk6, c4, er1, c11, er2, hb01]) hfr hx
            | succ n ih =>
              intro i g B a b hi hx hfr
              obtain ⟨hc, hh, hkp, htr, hz, htl, hlt, hrw, h30⟩ := id hx
              have h0 := hh.1
              have k0 := hkp.1
              have t0 := htr.1
              have d0 := hz.1
              have l0 := hlt.1
              have w0 := hrw.1
              refine ca_iload hX (q := 68) rfl rfl dX5_whatWas_66 ?_
              refine ca_iload hX (q := 70) rfl rfl dX5_whatWas_68 ?_
              refine ca_icmp_ge hX (q := 73) 139 rfl rfl dX5_whatWas_70 (fun z => absurd z (nI_ge (a := i) (b := wwN x3) (by omega) (by omega))) (fun _ => ?_)
              refine ca_iload_n hX (q := 74) 3 rfl rfl rfl dX5_whatWas_73 ?_
              refine ca_if_ne hX (q := 77) 98 rfl rfl dX5_whatWas_74 (fun c74 => ?_) (fun c74 => ?_)
              · refine ca_aload_n hX (q := 99) 0 rfl rfl rfl dX5_whatWas_98 ?_
                refine ca_getf hX (q := 102) cl_X5 2 (by decide) w_fl_X5_19 (by omega) hc rfl rfl dX5_whatWas_99 ?_
                refine ca_iload_n hX (q := 103) 2 rfl rfl rfl dX5_whatWas_102 ?_
                refine ca_aload_n hX (q := 104) 0 rfl rfl rfl dX5_whatWas_103 ?_
                refine ca_getf hX (q := 107) cl_X5 0 (by decide) w_fl_X5_10 (by omega) hc rfl rfl dX5_whatWas_104 ?_
                refine ca_iload_n hX (q := 108) 2 rfl rfl rfl dX5_whatWas_107 ?_
                refine ca_cVi hX (q := 111) y_X1_kindOf w_ml_X5_82 (by omega) hN h0 (c_X1_kindOf l N g 1 (M 0) hh (by omega) r2 hr2) (by decide) rfl (Nat.le_of_ble_eq_true rfl) rfl dX5_whatWas_108 rfl ?_
                refine ca_iload hX (q := 113) rfl rfl dX5_whatWas_111 ?_
                refine ca_cV hX (q := 116) y_X1_put w_ml_X5_107 (by omega) hN t0 (c_X1_put l N g 11 (upd (upd (M 0) (2 + r2) a) (27 + r2) b) htr (by omega) r2 hr2 (kdH (M 0) r2) (nI i)) (by decide) rfl (Nat.le_of_ble_eq_true rfl) rfl dX5_whatWas_113 rfl ?_
                rintro _ g ⟨rfl, hq, hf⟩
                rw [upd_4 (M 0) _ _ _ _ _ _ (by omega)] at hq
                have heq : upd (upd (M 0) (2 + r2) (kdH (M 0) r2)) (27 + r2) (nI i) = wwH (M 0) r2 x3 i := by rw [ww_1, wwH, if_neg c74]
                have hx := hx.tr hf hq
                have hfr := hfr.tr (hf.wd (by omega) (by omega))
                obtain ⟨hc, hh, hkp, htr, hz, htl, hlt, hrw, h30⟩ := id hx
                have h0 := hh.1
                have k0 := hkp.1
                have t0 := htr.1
                have d0 := hz.1
                have l0 := hlt.1
                have w0 := hrw.1
                refine ca_aload_n hX (q := 117) 0 rfl rfl rfl dX5_whatWas_116 ?_
                refine ca_iload_n hX (q := 118) 1 rfl rfl rfl dX5_whatWas_117 ?_
                refine ca_cV hX (q := 121) y_X5_burnsAsRowTells w_ml_X5_210 (by omega) hN hc (k_bart l N g M _ B hx hN31 P (by rw [heq]; exact (wf_ww w hr2 x3 (by omega)).1) hP5 (by rw [heq]; exact wf_ok (wf_ww w hr2 x3 (by omega))) k hk hk6 r1 hr1) (by decide) rfl (Nat.le_of_ble_eq_true rfl) rfl dX5_whatWas_118 rfl ?_
                rintro _ g ⟨rfl, hf, B, hx⟩
                have hfr := hfr.tr hf
                obtain ⟨hc, hh, hkp, htr, hz, htl, hlt, hrw, h30⟩ := id hx
                have h0 := hh.1
                have k0 := hkp.1
                have t0 := htr.1
                have d0 := hz.1
                have l0 := hlt.1
                have w0 := hrw.1
                rw [heq]
                refine ca_if_eq hX (q := 124) 133 rfl rfl dX5_whatWas_121 (fun c121 => ?_) (fun c121 => ?_)
                · refine ca_iinc hX (q := 136) (ls' := [_, _, _, _, _, _, _]) k_iconst_1 rfl (Nat.le_of_ble_eq_true rfl) (Or.inr rfl) rfl rfl dX5_whatWas_133 ?_
                  refine ca_goto hX 66 rfl dX5_whatWas_136 ?_
                  have e1 : (wwF (M 0) P r1 r2 x3 (M 5) k (i + 1)) = (wwF (M 0) P r1 r2 x3 (M 5) k i) := by rw [wwF, if_pos c121]
                  rw [nI_1]
                  exact ca_drop hX (ca_le_s rfl (ca_le_s rfl (ca_le_s rfl (ca_le_s rfl (ca_le_s rfl (ca_le_s (by rw [e1]) (ca_le_s rfl ca_le_0))))))) (ih (i + 1) _ B _ _ (by omega) hx hfr)
                · refine ca_iload hX (q := 126) rfl rfl dX5_whatWas_124 ?_
                  refine ca_iconst hX (q := 127) k_iconst_1 rfl dX5_whatWas_126 ?_
                  refine ca_iload hX (q := 129) rfl rfl dX5_whatWas_127 ?_
                  refine ca_ishl hX (q := 130) rfl dX5_whatWas_129 ?_
                  refine ca_ior hX (q := 131) rfl dX5_whatWas_130 ?_
                  refine ca_istore hX (q := 133) (ls' := [_, _, _, _, _, _, _]) (Nat.le_of_ble_eq_true rfl) (Nat.le_of_ble_eq_true rfl) (Or.inr rfl) rfl rfl dX5_whatWas_131 ?_
                  refine ca_iinc hX (q := 136) (ls' := [_, _, _, _, _, _, _]) k_iconst_1 rfl (Nat.le_of_ble_eq_true rfl) (Or.inr rfl) rfl rfl dX5_whatWas_133 ?_
                  refine ca_goto hX 66 rfl dX5_whatWas_136 ?_
                  have e1 : (wwF (M 0) P r1 r2 x3 (M 5) k (i + 1)) = (wwF (M 0) P r1 r2 x3 (M 5) k i) ||| 1 <<< (nI i &&& 31) := by rw [wwF, if_neg c121]
                  rw [nI_1]
                  exact ca_drop hX (ca_le_s rfl (ca_le_s rfl (ca_le_s rfl (ca_le_s rfl (ca_le_s rfl (ca_le_s (by rw [e1]) (ca_le_s rfl ca_le_0))))))) (ih (i + 1) _ B _ _ (by omega) hx hfr)
              · refine ca_aload_n hX (q := 78) 0 rfl rfl rfl dX5_whatWas_77 ?_
                refine ca_getf hX (q := 81) cl_X5 2 (by decide) w_fl_X5_19 (by omega) hc rfl rfl dX5_whatWas_78 ?_
                refine ca_iload_n hX (q := 82) 2 rfl rfl rfl dX5_whatWas_81 ?_
                refine ca_iload hX (q := 84) rfl rfl dX5_whatWas_82 ?_
                refine ca_aload_n hX (q := 85) 0 rfl rfl rfl dX5_whatWas_84 ?_
                refine ca_getf hX (q := 88) cl_X5 0 (by decide) w_fl_X5_10 (by omega) hc rfl rfl dX5_whatWas_85 ?_
                refine ca_iload_n hX (q := 89) 2 rfl rfl rfl dX5_whatWas_88 ?_
                refine ca_cVi hX (q := 92) y_X1_figureOf w_ml_X5_85 (by omega) hN h0 (c_X1_figureOf l N g 1 (M 0) hh (by omega) r2 hr2) (by decide) rfl (Nat.le_of_ble_eq_true rfl) rfl dX5_whatWas_89 rfl ?_
                refine ca_cV hX (q := 95) y_X1_put w_ml_X5_107 (by omega) hN t0 (c_X1_put l N g 11 (upd (upd (M 0) (2 + r2) a) (27 + r2) b) htr (by omega) r2 hr2 (nI i) (fgH (M 0) r2)) (by decide) rfl (Nat.le_of_ble_eq_true rfl) rfl dX5_whatWas_92 rfl ?_
                rintro _ g ⟨rfl, hq, hf⟩
                rw [upd_4 (M 0) _ _ _ _ _ _ (by omega)] at hq
                have heq : upd (upd (M 0) (2 + r2) (nI i)) (27 + r2) (fgH (M 0) r2) = wwH (M 0) r2 x3 i := by rw [ww_0, wwH, if_pos c74]
                have hx := hx.tr hf hq
                have hfr := hfr.tr (hf.wd (by omega) (by omega))
                obtain ⟨hc, hh, hkp, htr, hz, htl, hlt, hrw, h30⟩ := id hx
                have h0 := hh.1
                have k0 := hkp.1
                have t0 := htr.1
                have d0 := hz.1
                have l0 := hlt.1
                have w0 := hrw.1
                refine ca_goto hX 116 rfl dX5_whatWas_95 ?_
                refine ca_aload_n hX (q := 117) 0 rfl rfl rfl dX5_whatWas_116 ?_
                refine ca_iload_n hX (q := 118) 1 rfl rfl rfl dX5_whatWas_117 ?_
                refine ca_cV hX (q := 121) y_X5_burnsAsRowTells w_ml_X5_210 (by omega) hN hc (k_bart l N g M _ B hx hN31 P (by rw [heq]; exact (wf_ww w hr2 x3 (by omega)).1) hP5 (by rw [heq]; exact wf_ok (wf_ww w hr2 x3 (by omega))) k hk hk6 r1 hr1) (by decide) rfl (Nat.le_of_ble_eq_true rfl) rfl dX5_whatWas_118 rfl ?_
                rintro _ g ⟨rfl, hf, B, hx⟩
                have hfr := hfr.tr hf
                obtain ⟨hc, hh, hkp, htr, hz, htl, hlt, hrw, h30⟩ := id hx
                have h0 := hh.1
                have k0 := hkp.1
                have t0 := htr.1
                have d0 := hz.1
                have l0 := hlt.1
                have w0 := hrw.1
                rw [heq]
                refine ca_if_eq hX (q := 124) 133 rfl rfl dX5_whatWas_121 (fun c121 => ?_) (fun c121 => ?_)
                · refine ca_iinc hX (q := 136) (ls' := [_, _, _, _, _, _, _]) k_iconst_1 rfl (Nat.le_of_ble_eq_true rfl) (Or.inr rfl) rfl rfl dX5_whatWas_133 ?_
                  refine ca_goto hX 66 rfl dX5_whatWas_136 ?_
                  have e1 : (wwF (M 0) P r1 r2 x3 (M 5) k (i + 1)) = (wwF (M 0) P r1 r2 x3 (M 5) k i) := by rw [wwF, if_pos c121]
                  rw [nI_1]
                  exact ca_drop hX (ca_le_s rfl (ca_le_s rfl (ca_le_s rfl (ca_le_s rfl (ca_le_s rfl (ca_le_s (by rw [e1]) (ca_le_s rfl ca_le_0))))))) (ih (i + 1) _ B _ _ (by omega) hx hfr)
                · refine ca_iload hX (q := 126) rfl rfl dX5_whatWas_124 ?_
                  refine ca_iconst hX (q := 127) k_iconst_1 rfl dX5_whatWas_126 ?_
                  refine ca_iload hX (q := 129) rfl rfl dX5_whatWas_127 ?_
                  refine ca_ishl hX (q := 130) rfl dX5_whatWas_129 ?_
                  refine ca_ior hX (q := 131) rfl dX5_whatWas_130 ?_
                  refine ca_istore hX (q := 133) (ls' := [_, _, _, _, _, _, _]) (Nat.le_of_ble_eq_true rfl) (Nat.le_of_ble_eq_true rfl) (Or.inr rfl) rfl rfl dX5_whatWas_131 ?_
                  refine ca_iinc hX (q := 136) (ls' := [_, _, _, _, _, _, _]) k_iconst_1 rfl (Nat.le_of_ble_eq_true rfl) (Or.inr rfl) rfl rfl dX5_whatWas_133 ?_
                  refine ca_goto hX 66 rfl dX5_whatWas_136 ?_
                  have e1 : (wwF (M 0) P r1 r2 x3 (M 5) k (i + 1)) = (wwF (M 0) P r1 r2 x3 (M 5) k i) ||| 1 <<< (nI i &&& 31) := by rw [wwF, if_neg c121]
                  rw [nI_1]
                  exact ca_drop hX (ca_le_s rfl (ca_le_s rfl (ca_le_s rfl (ca_le_s rfl (ca_le_s rfl (ca_le_s (by rw [e1]) (ca_le_s rfl ca_le_0))))))) (ih (i + 1) _ B _ _ (by omega) hx hfr)
          refine ca_iload_n hX (q := 48) 3 rfl rfl rfl dX5_whatWas_47 ?_
          refine ca_if_ne hX (q := 51) 56 rfl rfl dX5_whatWas_48 (fun c48 => ?_) (fun c48 => ?_)
          · refine ca_bipush hX (q := 58) k_bipush_10 rfl dX5_whatWas_56 ?_
            refine ca_istore hX (q := 60) (ls' := [_, _, _, _, _, _, _]) (Nat.le_of_ble_eq_true rfl) (Nat.le_of_ble_eq_true rfl) (Or.inr rfl) rfl rfl dX5_whatWas_58 ?_
            refine ca_iconst hX (q := 61) k_iconst_0 rfl dX5_whatWas_60 ?_
            refine ca_istore hX (q := 63) (ls' := [_, _, _, _, _, _, _]) (Nat.le_of_ble_eq_true rfl) (Nat.le_of_ble_eq_true rfl) (Or.inr rfl) rfl rfl dX5_whatWas_61 ?_
            refine ca_iconst hX (q := 64) k_iconst_0 rfl dX5_whatWas_63 ?_
            refine ca_istore hX (q := 66) (ls' := [_, _, _, _, _, _, _]) (Nat.le_of_ble_eq_true rfl) (Nat.le_of_ble_eq_true rfl) (Or.inr rfl) rfl rfl dX5_whatWas_64 ?_
            first | (exact ca_drop hX (ca_le_s rfl (ca_le_s rfl (ca_le_s rfl (ca_le_s rfl (ca_le_s (by rw [wwN, if_neg c48]; rfl) (ca_le_s rfl (ca_le_s rfl ca_le_0))))))) (loop (wwN x3) 0 _ B _ _ (by omega) hx hfr)) | (exact ca_drop hX (ca_le_s rfl (ca_le_s rfl (ca_le_s rfl (ca_le_s rfl (ca_le_s (by rw [wwN, if_pos c48]; rfl) (ca_le_s rfl (ca_le_s rfl ca_le_0))))))) (loop (wwN x3) 0 _ B _ _ (by omega) hx hfr))
          · refine ca_bipush hX (q := 53) k_bipush_6 rfl dX5_whatWas_51 ?_
            refine ca_goto hX 58 rfl dX5_whatWas_53 ?_
            refine ca_istore hX (q := 60) (ls' := [_, _, _, _, _, _, _]) (Nat.le_of_ble_eq_true rfl) (Nat.le_of_ble_eq_true rfl) (Or.inr rfl) rfl rfl dX5_whatWas_58 ?_
            refine ca_iconst hX (q := 61) k_iconst_0 rfl dX5_whatWas_60 ?_
            refine ca_istore hX (q := 63) (ls' := [_, _, _, _, _, _, _]) (Nat.le_of_ble_eq_true rfl) (Nat.le_of_ble_eq_true rfl) (Or.inr rfl) rfl rfl dX5_whatWas_61 ?_
            refine ca_iconst hX (q := 64) k_iconst_0 rfl dX5_whatWas_63 ?_
            refine ca_istore hX (q := 66) (ls' := [_, _, _, _, _, _, _]) (Nat.le_of_ble_eq_true rfl) (Nat.le_of_ble_eq_true rfl) (Or.inr rfl) rfl rfl dX5_whatWas_64 ?_
            first | (exact ca_drop hX (ca_le_s rfl (ca_le_s rfl (ca_le_s rfl (ca_le_s rfl (ca_le_s (by rw [wwN, if_neg c48]; rfl) (ca_le_s rfl (ca_le_s rfl ca_le_0))))))) (loop (wwN x3) 0 _ B _ _ (by omega) hx hfr)) | (exact ca_drop hX (ca_le_s rfl (ca_le_s rfl (ca_le_s rfl (ca_le_s rfl (ca_le_s (by rw [wwN, if_pos c48]; rfl) (ca_le_s rfl (ca_le_s rfl ca_le_0))))))) (loop (wwN x3) 0 _ B _ _ (by omega) hx hfr))
        · refine ca_aload_n hX (q := 30) 0 rfl rfl rfl dX5_whatWas_29 ?_
          refine ca_bipush hX (q := 32) k_bipush_m2 rfl dX5_whatWas_30 ?_
          refine ca_cV hX (q := 35) y_X5_refuse w_ml_X5_53 (by omega) hN hc (c_X5_refuse l N g _ hc hN31 (M 6) h30 (-2) 2 (by decide) (by omega) (by omega)) (by decide) rfl (Nat.le_of_ble_eq_true rfl) rfl dX5_whatWas_32 rfl ?_
          rintro _ g ⟨rfl, h30, hf⟩
          have hx := hx.rf hf h30
          have hfr := hfr.tr (hf.wd (by omega) (by omega))
          refine ca_iret hX rfl rfl rfl rfl dX5_whatWas_35 ?_
          exact cl_end (by simp [wwA, b01, noA, nk1, nk2, nk3, nk4, nk6, c4, er1, c11, er2, c21, c26]) hfr hx
    · refine ca_aload_n hX (q := 15) 0 rfl rfl rfl dX5_whatWas_14 ?_
      refine ca_iconst hX (q := 16) k_iconst_m1 rfl dX5_whatWas_15 ?_
      refine ca_cV hX (q := 19) y_X5_refuse w_ml_X5_53 (by omega) hN hc (c_X5_refuse l N g _ hc hN31 (M 6) h30 (-1) 1 (by decide) (by omega) (by omega)) (by decide) rfl (Nat.le_of_ble_eq_true rfl) rfl dX5_whatWas_16 rfl ?_
      rintro _ g ⟨rfl, h30, hf⟩
      have hx := hx.rf hf h30
      have hfr := hfr.tr (hf.wd (by omega) (by omega))
      refine ca_iret hX rfl rfl rfl rfl dX5_whatWas_19 ?_
      exact cl_end (by simp [wwA, b01, noA, nk1, nk2, nk3, nk4, nk6, c4, er1, c11]) hfr hx

set_option maxRecDepth 100000 in
set_option maxHeartbeats 4000000 in
theorem m_whatWas (l : Launch) (N : Nat) (g0 : ca_G) (o : Nat) (M : Nat → Nat → Int32) (hm : mdG g0 o M) (ho : o + 14 ≤ N) (hs4 : M 13 4 = 0) (P : Nat) (w : wfH (M 0) P) (k : Nat) (hk : M 13 2 = nI k) (hk6 : k ≤ 25) (x1 x2 x3 : Int32) : ca_Ct l yX6_whatWas cX6_whatWas 9 (some .int) 5 0 0 N 1000000 [.ref o, .int x1, .int x2, .int x3] g0 (reP o g0 (wwA M P k x1 x2 x3)) := by
  refine ca_intro (by decide) (Nat.le_of_ble_eq_true rfl) (fun X hX hN => ?_)
  show X 0 [_, _, _, _, none, none, none, none, none] [] N 1000000 g0
  obtain ⟨g, hgg⟩ : ∃ g, g = g0 := ⟨g0, rfl⟩
  rw [← hgg] at hm ⊢
  have hfr : frG g0 g o (o + 14) := by rw [hgg]; exact frG.rf
  have hke := keM.rf hs4
  obtain ⟨c0, c1, c2, c3, c4, c5, c6, c7, c8, c9, c10, c11, c12, c13⟩ := id hm
  have hP := w.1
  have hP5 := w.2.1
  have hok := wf_ok w
  refine ca_iload_n hX (q := 1) 1 rfl rfl rfl dX6_whatWas_0 ?_
  refine ca_cSi hX (q := 4) y_X6_isRoom w_ml_X6_138 hN (c_R_isRoom l N g _) (by decide) rfl (Nat.le_of_ble_eq_true rfl) rfl dX6_whatWas_1 rfl ?_
  refine ca_if_eq hX (q := 7) 14 rfl rfl dX6_whatWas_4 (fun b4 => ?_) (fun b4 => ?_)
  · refine ca_aload_n hX (q := 15) 0 rfl rfl rfl dX6_whatWas_14 ?_
    refine ca_iconst hX (q := 16) k_iconst_m1 rfl dX6_whatWas_15 ?_
    refine ca_cV hX (q := 19) y_X6_no w_ml_X6_51 (by omega) hN c0 (c_X6_no l N g o _ hm ho (-1) 1 (by decide) (by omega)) (by decide) rfl (Nat.le_of_ble_eq_true rfl) rfl dX6_whatWas_16 rfl ?_
    rintro _ g ⟨rfl, hm, hf⟩
    have hke := keM.no hke 1
    have hfr := hfr.tr hf
    refine ca_iret hX rfl rfl rfl rfl dX6_whatWas_19 ?_
    exact re_end2 (by simp [wwA, noA, nk1, nk2, nk3, nk4, nk6, z020, z021, z010, z011, b4]) hfr hm hke
  · obtain ⟨r1, hr1, rfl⟩ := rm_ok b4
    have er1 := nI_clamp (n := r1) (by omega)
    refine ca_iload_n hX (q := 8) 2 rfl rfl rfl dX6_whatWas_7 ?_
    refine ca_cSi hX (q := 11) y_X6_isRoom w_ml_X6_138 hN (c_R_isRoom l N g _) (by decide) rfl (Nat.le_of_ble_eq_true rfl) rfl dX6_whatWas_8 rfl ?_
    refine ca_if_ne hX (q := 14) 20 rfl rfl dX6_whatWas_11 (fun b11 => ?_) (fun b11 => ?_)
    · obtain ⟨r2, hr2, rfl⟩ := rm_ok b11
      have er2 := nI_clamp (n := r2) (by omega)
      refine ca_iload_n hX (q := 21) 3 rfl rfl rfl dX6_whatWas_20 ?_
      refine ca_iconst hX (q := 22) k_iconst_0 rfl dX6_whatWas_21 ?_
      refine ca_iconst hX (q := 23) k_iconst_1 rfl dX6_whatWas_22 ?_
      refine ca_cSi hX (q := 26) y_X6_isIn w_ml_X6_55 hN (c_R_is01 l N g _) (by decide) rfl (Nat.le_of_ble_eq_true rfl) rfl dX6_whatWas_23 rfl ?_
      refine ca_if_ne hX (q := 29) 36 rfl rfl dX6_whatWas_26 (fun b26 => ?_) (fun b26 => ?_)
      · have hwn := ww_n (w := x3)
        have loop : ∀ (n i : Nat) (g1 : ca_G) (M1 : Nat → Nat → Int32), i + n = wwN x3 → mdG g1 o M1 → keM M M1 → frG g0 g1 o (o + 14) → X 42 [some (.ref o), some (.int (nI r1)), some (.int (nI r2)), some (.int x3), some (.int (wwF (M 0) P r1 r2 x3 (M 5) k i)), some (.int (nI i)), none, none, none] [] N 1000000 g1 := by
          intro n
          induction n with
          | zero =>
            intro i g M1 hi hm hke hfr
            have hib : i = wwN x3 := by omega
            rw [hib]
            obtain ⟨c0, c1, c2, c3, c4, c5, c6, c7, c8, c9, c10, c11, c12, c13⟩ := id hm
            rw [hke.1] at c1
            refine ca_iload hX (q := 44) rfl rfl dX6_whatWas_42 ?_
            refine ca_iload_n hX (q := 45) 3 rfl rfl rfl dX6_whatWas_44 ?_
            refine ca_if_ne hX (q := 48) 53 rfl rfl dX6_whatWas_45 (fun b45 => ?_) (fun b45 => ?_)
            · refine ca_bipush hX (q := 55) k_bipush_10 rfl dX6_whatWas_53 ?_
              refine ca_icmp_ge hX (q := 58) 187 rfl rfl dX6_whatWas_55 (fun _ => ?_) (fun z => absurd (by unfold wwN; first | (rw [if_pos b45]; decide) | (rw [if_neg b45]; decide)) z)
              refine ca_iload hX (q := 189) rfl rfl dX6_whatWas_187 ?_
              refine ca_iret hX rfl rfl rfl rfl dX6_whatWas_189 ?_
              exact re_end2 (by simp [wwA, b4, er1, b11, er2, b26]) hfr hm hke
            · refine ca_bipush hX (q := 50) k_bipush_6 rfl dX6_whatWas_48 ?_
              refine ca_goto hX 55 rfl dX6_whatWas_50 ?_
              refine ca_icmp_ge hX (q := 58) 187 rfl rfl dX6_whatWas_55 (fun _ => ?_) (fun z => absurd (by unfold wwN; first | (rw [if_pos b45]; decide) | (rw [if_neg b45]; decide)) z)
              refine ca_iload hX (q := 189) rfl rfl dX6_whatWas_187 ?_
              refine ca_iret hX rfl rfl rfl rfl dX6_whatWas_189 ?_
              exact re_end2 (by simp [wwA, b4, er1, b11, er2, b26]) hfr hm hke
          | succ n ih =>
            intro i g M1 hi hm hke hfr
            obtain ⟨c0, c1, c2, c3, c4, c5, c6, c7, c8, c9, c10, c11, c12, c13⟩ := id hm
            rw [hke.1] at c1
            refine ca_iload hX (q := 44) rfl rfl dX6_whatWas_42 ?_
            refine ca_iload_n hX (q := 45) 3 rfl rfl rfl dX6_whatWas_44 ?_
            refine ca_if_ne hX (q := 48) 53 rfl rfl dX6_whatWas_45 (fun b45 => ?_) (fun b45 => ?_)
            · refine ca_bipush hX (q := 55) k_bipush_10 rfl dX6_whatWas_53 ?_
              refine ca_icmp_ge hX (q := 58) 187 rfl rfl dX6_whatWas_55 (fun z => absurd z (fun z => by have hw : i + (n + 1) = wwN x3 := hi; unfold wwN at hw; first | (rw [if_pos b45] at hw; have := (nI_leI (a := 6) (b := i) (by omega) (by omega)).mp z; omega) | (rw [if_neg b45] at hw; have := (nI_leI (a := 10) (b := i) (by omega) (by omega)).mp z; omega))) (fun _ => ?_)
              refine ca_aload_n hX (q := 59) 0 rfl rfl rfl dX6_whatWas_58 ?_
              refine ca_getf hX (q := 62) cl_X6 0 (by decide) w_fl_X6_9 (by omega) c0 rfl rfl dX6_whatWas_59 ?_
              refine ca_aload_n hX (q := 63) 0 rfl rfl rfl dX6_whatWas_62 ?_
              refine ca_getf hX (q := 66) cl_X6 1 (by decide) w_fl_X6_13 (by omega) c0 rfl rfl dX6_whatWas_63 ?_
              refine ca_cS hX (q := 69) y_X6_lays w_ml_X6_147 hN (c_X6_lays l N g (o + 1) (o + 2) _ _ c1 c2 (by omega) (by omega) (by omega)) (by decide) rfl (Nat.le_of_ble_eq_true rfl) rfl dX6_whatWas_66 rfl ?_
              rintro _ g ⟨rfl, hE, hF⟩
              refine ca_same hX (f' := M 0) (by omega) hN hE (fun j hj => if_pos hj) (fun g hE2 hF2 => ?_)
              have hm := md_f1 hm hE2 (fun j hj => (hF2 j hj).trans (hF j hj))
              have hke := hke.st (i := 1) (M 0) (by omega)
              obtain ⟨c0, c1, c2, c3, c4, c5, c6, c7, c8, c9, c10, c11, c12, c13⟩ := id hm
              rw [hke.1] at c1
              have hfr := hfr.tr (fun j hj => (hF2 j (by omega)).trans (hF j (by omega)))
              refine ca_aload_n hX (q := 70) 0 rfl rfl rfl dX6_whatWas_69 ?_
              refine ca_getf hX (q := 73) cl_X6 1 (by decide) w_fl_X6_13 (by omega) c0 rfl rfl dX6_whatWas_70 ?_
              refine ca_iload_n hX (q := 74) 3 rfl rfl rfl dX6_whatWas_73 ?_
              refine ca_if_ne hX (q := 77) 81 rfl rfl dX6_whatWas_74 (fun b74 => ?_) (fun b74 => ?_)
              · refine ca_bipush hX (q := 83) k_bipush_27 rfl dX6_whatWas_81 ?_
                refine ca_iload_n hX (q := 84) 2 rfl rfl rfl dX6_whatWas_83 ?_
                refine ca_iadd hX (q := 85) rfl dX6_whatWas_84 ?_
                refine ca_iload hX (q := 87) rfl rfl dX6_whatWas_85 ?_
                refine ca_iaS hX (q := 88) (k := 27 + r2) (by omega) hN (Nat.le_refl _) c2 (by decide) (nI_add 27 r2) (by omega) rfl dX6_whatWas_87 (fun g hE hF => ?_)
                have hm := md_a1 hm hE hF
                have hke := hke.ar (i := 1) (27 + r2) (nI i) (by omega)
                obtain ⟨c0, c1, c2, c3, c4, c5, c6, c7, c8, c9, c10, c11, c12, c13⟩ := id hm
                rw [hke.1] at c1
                have hfr := frG.tr hfr (fun j hj => hF j (by omega))
                have ec2 : g (o + 2) = .inl (182, wwH (M 0) r2 x3 i) := by unfold wwH; first | (rw [if_pos b74]; exact c2) | (rw [if_neg b74]; exact c2)
                refine ca_aload_n hX (q := 89) 0 rfl rfl rfl dX6_whatWas_88 ?_
                refine ca_aload_n hX (q := 90) 0 rfl rfl rfl dX6_whatWas_89 ?_
                refine ca_getf hX (q := 93) cl_X6 1 (by decide) w_fl_X6_13 (by omega) c0 rfl rfl dX6_whatWas_90 ?_
                refine ca_iload_n hX (q := 94) 1 rfl rfl rfl dX6_whatWas_93 ?_
                refine ca_iconst hX (q := 95) k_iconst_0 rfl dX6_whatWas_94 ?_
                refine ca_cV hX (q := 98) y_X6_worthBy w_ml_X6_171 (by omega) hN c0 (c_X6_worthBy l N g o _ hm ho (o + 2) (wwH (M 0) r2 x3 i) ec2 (by omega) (by omega) P (wf_ww w hr2 x3 (by omega)).1 hP5 (wf_ok (wf_ww w hr2 x3 (by omega))) r1 hr1 0 (by omega)) (by decide) rfl (Nat.le_of_ble_eq_true rfl) rfl dX6_whatWas_95 rfl ?_
                rintro _ g ⟨rfl, hf, M1, hm, hrf, e4, ej, e13⟩
                have hke := hke.tr (ke_bu e4 ej e13)
                have hfr := hfr.tr hf
                obtain ⟨c0, c1, c2, c3, c4, c5, c6, c7, c8, c9, c10, c11, c12, c13⟩ := id hm
                rw [hke.1] at c1
                have c6 : g (o + 6) = .inl (25, M 5) := by rw [c6, hke.2.2.2.1]
                have h132 : M1 13 2 = nI k := by rw [hke.2.2.2.2.2.2.2.1, hk]
                refine ca_istore hX (q := 100) (ls' := [_, _, _, _, _, _, _, _, _]) (Nat.le_of_ble_eq_true rfl) (Nat.le_of_ble_eq_true rfl) (Or.inr rfl) rfl rfl dX6_whatWas_98 ?_
                have hV : raM (fun q => if M1 7 q < 0 then 99 else M1 7 q) (M 5) k = rtM (rtV (wwH (M 0) r2 x3 i) P r1) (M 5) 0 k := by rw [rt_ra]; exact ra_cg k (fun q hq => by rw [(hrf q (by omega)).1]; exact bu_rw _ _ _ _ _ _)
                have loop2 : ∀ (n2 j : Nat), j + n2 = k → X 106 [some (.ref o), some (.int (nI r1)), some (.int (nI r2)), some (.int x3), some (.int (wwF (M 0) P r1 r2 x3 (M 5) k i)), some (.int (nI i)), some (.int (wA (wwH (M 0) r2 x3 i) P r1 0)), some (.int (raM (fun q => if M1 7 q < 0 then 99 else M1 7 q) (M 5) j)), some (.int (nI j))] [] N 1000000 g := by
                  intro n2
                  induction n2 with
                  | zero =>
                    intro j  hj 
                    have hjb : j = k := by omega
                    rw [hjb]
                    refine ca_iload hX (q := 108) rfl rfl dX6_whatWas_106 ?_
                    refine ca_aload_n hX (q := 109) 0 rfl rfl rfl dX6_whatWas_108 ?_
                    refine ca_getf hX (q := 112) cl_X6 9 (by decide) w_fl_X6_190 (by omega) c0 rfl rfl dX6_whatWas_109 ?_
                    refine ca_icmp_ge hX (q := 115) 163 rfl rfl dX6_whatWas_112 (fun _ => ?_) (fun z => absurd (by rw [h132]; exact nI_le (Nat.le_refl _) (by omega)) z)
                    rw [hV]
                    refine ca_iload hX (q := 165) rfl rfl dX6_whatWas_163 ?_
                    refine ca_iload hX (q := 167) rfl rfl dX6_whatWas_165 ?_
                    refine ca_if_eq hX (q := 170) 177 rfl rfl dX6_whatWas_167 (fun b167 => ?_) (fun b167 => ?_)
                    · refine ca_iconst hX (q := 178) k_iconst_0 rfl dX6_whatWas_177 ?_
                      refine ca_ior hX (q := 179) rfl dX6_whatWas_178 ?_
                      refine ca_istore hX (q := 181) (ls' := [_, _, _, _, _, _, _, _, _]) (Nat.le_of_ble_eq_true rfl) (Nat.le_of_ble_eq_true rfl) (Or.inr rfl) rfl rfl dX6_whatWas_179 ?_
                      refine ca_iinc hX (q := 184) (ls' := [_, _, _, _, _, _, _, _, _]) k_iconst_1 rfl (Nat.le_of_ble_eq_true rfl) (Or.inr rfl) rfl rfl dX6_whatWas_181 ?_
                      refine ca_goto hX 42 rfl dX6_whatWas_184 ?_
                      have e1 : (wwF (M 0) P r1 r2 x3 (M 5) k (i + 1)) = (wwF (M 0) P r1 r2 x3 (M 5) k i) := by rw [wwF, if_pos b167]
                      rw [Int32.or_zero, show nI i + 1 = nI (i + 1) from nI_add i 1]
                      exact ca_drop hX (ca_le_s rfl (ca_le_s rfl (ca_le_s rfl (ca_le_s rfl (ca_le_s (by rw [e1]) (ca_le_s rfl (ca_le_n (ca_le_n (ca_le_n ca_le_0))))))))) (ih (i + 1) _ M1 (by omega) hm hke hfr)
                    · refine ca_iconst hX (q := 171) k_iconst_1 rfl dX6_whatWas_170 ?_
                      refine ca_iload hX (q := 173) rfl rfl dX6_whatWas_171 ?_
                      refine ca_ishl hX (q := 174) rfl dX6_whatWas_173 ?_
                      refine ca_goto hX 178 rfl dX6_whatWas_174 ?_
                      refine ca_ior hX (q := 179) rfl dX6_whatWas_178 ?_
                      refine ca_istore hX (q := 181) (ls' := [_, _, _, _, _, _, _, _, _]) (Nat.le_of_ble_eq_true rfl) (Nat.le_of_ble_eq_true rfl) (Or.inr rfl) rfl rfl dX6_whatWas_179 ?_
                      refine ca_iinc hX (q := 184) (ls' := [_, _, _, _, _, _, _, _, _]) k_iconst_1 rfl (Nat.le_of_ble_eq_true rfl) (Or.inr rfl) rfl rfl dX6_whatWas_181 ?_
                      refine ca_goto hX 42 rfl dX6_whatWas_184 ?_
                      have e1 : (wwF (M 0) P r1 r2 x3 (M 5) k (i + 1)) = (wwF (M 0) P r1 r2 x3 (M 5) k i) ||| 1 <<< (nI i &&& 31) := by rw [wwF, if_neg b167]
                      rw [show nI i + 1 = nI (i + 1) from nI_add i 1]
                      exact ca_drop hX (ca_le_s rfl (ca_le_s rfl (ca_le_s rfl (ca_le_s rfl (ca_le_s (by rw [e1]) (ca_le_s rfl (ca_le_n (ca_le_n (ca_le_n ca_le_0))))))))) (ih (i + 1) _ M1 (by omega) hm hke hfr)
                  | succ n2 ih2 =>
                    intro j  hj 
                    refine ca_iload hX (q := 108) rfl rfl dX6_whatWas_106 ?_
                    refine ca_aload_n hX (q := 109) 0 rfl rfl rfl dX6_whatWas_108 ?_
                    refine ca_getf hX (q := 112) cl_X6 9 (by decide) w_fl_X6_190 (by omega) c0 rfl rfl dX6_whatWas_109 ?_
                    refine ca_icmp_ge hX (q := 115) 163 rfl rfl dX6_whatWas_112 (fun z => absurd z (by rw [h132]; exact nI_ge (a := j) (b := k) (by omega) (by omega))) (fun _ => ?_)
                    refine ca_iload hX (q := 117) rfl rfl dX6_whatWas_115 ?_
                    refine ca_aload_n hX (q := 118) 0 rfl rfl rfl dX6_whatWas_117 ?_
                    refine ca_getf hX (q := 121) cl_X6 10 (by decide) w_fl_X6_31 (by omega) c0 rfl rfl dX6_whatWas_118 ?_
                    refine ca_iload hX (q := 123) rfl rfl dX6_whatWas_121 ?_
                    refine ca_iaN hX (q := 124) (k := j) (by omega) c8 (by decide) rfl (by omega) rfl dX6_whatWas_123 ?_
                    refine ca_if_ge hX (q := 127) 132 rfl rfl dX6_whatWas_124 (fun b124 => ?_) (fun b124 => ?_)
                    · refine ca_aload_n hX (q := 133) 0 rfl rfl rfl dX6_whatWas_132 ?_
                      refine ca_getf hX (q := 136) cl_X6 10 (by decide) w_fl_X6_31 (by omega) c0 rfl rfl dX6_whatWas_133 ?_
                      refine ca_iload hX (q := 138) rfl rfl dX6_whatWas_136 ?_
                      refine ca_iaN hX (q := 139) (k := j) (by omega) c8 (by decide) rfl (by omega) rfl dX6_whatWas_138 ?_
                      refine ca_aload_n hX (q := 140) 0 rfl rfl rfl dX6_whatWas_139 ?_
                      refine ca_getf hX (q := 143) cl_X6 6 (by decide) w_fl_X6_25 (by omega) c0 rfl rfl dX6_whatWas_140 ?_
                      refine ca_iload hX (q := 145) rfl rfl dX6_whatWas_143 ?_
                      refine ca_iaN hX (q := 146) (k := j) (by omega) c6 (by decide) rfl (by omega) rfl dX6_whatWas_145 ?_
                      refine ca_icmp_ne hX (q := 149) 153 rfl rfl dX6_whatWas_146 (fun b146 => ?_) (fun b146 => ?_)
                      · refine ca_iconst hX (q := 154) k_iconst_0 rfl dX6_whatWas_153 ?_
                        refine ca_iand hX (q := 155) rfl dX6_whatWas_154 ?_
                        refine ca_istore hX (q := 157) (ls' := [_, _, _, _, _, _, _, _, _]) (Nat.le_of_ble_eq_true rfl) (Nat.le_of_ble_eq_true rfl) (Or.inr rfl) rfl rfl dX6_whatWas_155 ?_
                        refine ca_iinc hX (q := 160) (ls' := [_, _, _, _, _, _, _, _, _]) k_iconst_1 rfl (Nat.le_of_ble_eq_true rfl) (Or.inr rfl) rfl rfl dX6_whatWas_157 ?_
                        refine ca_goto hX 106 rfl dX6_whatWas_160 ?_
                        have hvj : (if M1 7 j < 0 then 99 else M1 7 j) = M1 7 j := if_neg (Int32.not_lt.mpr b124)
                        rw [show nI j + 1 = nI (j + 1) from nI_add j 1]
                        exact ca_drop hX (ca_le_s rfl (ca_le_s rfl (ca_le_s rfl (ca_le_s rfl (ca_le_s rfl (ca_le_s rfl (ca_le_s rfl (ca_le_s (by rw [raM, hvj, if_neg b146]) (ca_le_s rfl ca_le_0))))))))) (ih2 (j + 1) (by omega))
                      · refine ca_iconst hX (q := 150) k_iconst_1 rfl dX6_whatWas_149 ?_
                        refine ca_goto hX 154 rfl dX6_whatWas_150 ?_
                        refine ca_iand hX (q := 155) rfl dX6_whatWas_154 ?_
                        refine ca_istore hX (q := 157) (ls' := [_, _, _, _, _, _, _, _, _]) (Nat.le_of_ble_eq_true rfl) (Nat.le_of_ble_eq_true rfl) (Or.inr rfl) rfl rfl dX6_whatWas_155 ?_
                        refine ca_iinc hX (q := 160) (ls' := [_, _, _, _, _, _, _, _, _]) k_iconst_1 rfl (Nat.le_of_ble_eq_true rfl) (Or.inr rfl) rfl rfl dX6_whatWas_157 ?_
                        refine ca_goto hX 106 rfl dX6_whatWas_160 ?_
                        have hvj : (if M1 7 j < 0 then 99 else M1 7 j) = M1 7 j := if_neg (Int32.not_lt.mpr b124)
                        rw [show nI j + 1 = nI (j + 1) from nI_add j 1]
                        exact ca_drop hX (ca_le_s rfl (ca_le_s rfl (ca_le_s rfl (ca_le_s rfl (ca_le_s rfl (ca_le_s rfl (ca_le_s rfl (ca_le_s (by rw [raM, hvj, if_pos b146]) (ca_le_s rfl ca_le_0))))))))) (ih2 (j + 1) (by omega))
                    · refine ca_bipush hX (q := 129) k_bipush_99 rfl dX6_whatWas_127 ?_
                      refine ca_goto hX 139 rfl dX6_whatWas_129 ?_
                      refine ca_aload_n hX (q := 140) 0 rfl rfl rfl dX6_whatWas_139 ?_
                      refine ca_getf hX (q := 143) cl_X6 6 (by decide) w_fl_X6_25 (by omega) c0 rfl rfl dX6_whatWas_140 ?_
                      refine ca_iload hX (q := 145) rfl rfl dX6_whatWas_143 ?_
                      refine ca_iaN hX (q := 146) (k := j) (by omega) c6 (by decide) rfl (by omega) rfl dX6_whatWas_145 ?_
                      refine ca_icmp_ne hX (q := 149) 153 rfl rfl dX6_whatWas_146 (fun b146 => ?_) (fun b146 => ?_)
                      · refine ca_iconst hX (q := 154) k_iconst_0 rfl dX6_whatWas_153 ?_
                        refine ca_iand hX (q := 155) rfl dX6_whatWas_154 ?_
                        refine ca_istore hX (q := 157) (ls' := [_, _, _, _, _, _, _, _, _]) (Nat.le_of_ble_eq_true rfl) (Nat.le_of_ble_eq_true rfl) (Or.inr rfl) rfl rfl dX6_whatWas_155 ?_
                        refine ca_iinc hX (q := 160) (ls' := [_, _, _, _, _, _, _, _, _]) k_iconst_1 rfl (Nat.le_of_ble_eq_true rfl) (Or.inr rfl) rfl rfl dX6_whatWas_157 ?_
                        refine ca_goto hX 106 rfl dX6_whatWas_160 ?_
                        have hvj : (if M1 7 j < 0 then 99 else M1 7 j) = 99 := if_pos (Int32.not_le.mp b124)
                        rw [show nI j + 1 = nI (j + 1) from nI_add j 1]
                        exact ca_drop hX (ca_le_s rfl (ca_le_s rfl (ca_le_s rfl (ca_le_s rfl (ca_le_s rfl (ca_le_s rfl (ca_le_s rfl (ca_le_s (by rw [raM, hvj, if_neg b146]) (ca_le_s rfl ca_le_0))))))))) (ih2 (j + 1) (by omega))
                      · refine ca_iconst hX (q := 150) k_iconst_1 rfl dX6_whatWas_149 ?_
                        refine ca_goto hX 154 rfl dX6_whatWas_150 ?_
                        refine ca_iand hX (q := 155) rfl dX6_whatWas_154 ?_
                        refine ca_istore hX (q := 157) (ls' := [_, _, _, _, _, _, _, _, _]) (Nat.le_of_ble_eq_true rfl) (Nat.le_of_ble_eq_true rfl) (Or.inr rfl) rfl rfl dX6_whatWas_155 ?_
                        refine ca_iinc hX (q := 160) (ls' := [_, _, _, _, _, _, _, _, _]) k_iconst_1 rfl (Nat.le_of_ble_eq_true rfl) (Or.inr rfl) rfl rfl dX6_whatWas_157 ?_
                        refine ca_goto hX 106 rfl dX6_whatWas_160 ?_
                        have hvj : (if M1 7 j < 0 then 99 else M1 7 j) = 99 := if_pos (Int32.not_le.mp b124)
                        rw [show nI j + 1 = nI (j + 1) from nI_add j 1]
                        exact ca_drop hX (ca_le_s rfl (ca_le_s rfl (ca_le_s rfl (ca_le_s rfl (ca_le_s rfl (ca_le_s rfl (ca_le_s rfl (ca_le_s (by rw [raM, hvj, if_pos b146]) (ca_le_s rfl ca_le_0))))))))) (ih2 (j + 1) (by omega))
                refine ca_iconst hX (q := 101) k_iconst_1 rfl dX6_whatWas_100 ?_
                refine ca_istore hX (q := 103) (ls' := [_, _, _, _, _, _, _, _, _]) (Nat.le_of_ble_eq_true rfl) (Nat.le_of_ble_eq_true rfl) (Or.inr rfl) rfl rfl dX6_whatWas_101 ?_
                refine ca_iconst hX (q := 104) k_iconst_0 rfl dX6_whatWas_103 ?_
                refine ca_istore hX (q := 106) (ls' := [_, _, _, _, _, _, _, _, _]) (Nat.le_of_ble_eq_true rfl) (Nat.le_of_ble_eq_true rfl) (Or.inr rfl) rfl rfl dX6_whatWas_104 ?_
                exact ca_drop hX (ca_le_s rfl (ca_le_s rfl (ca_le_s rfl (ca_le_s rfl (ca_le_s rfl (ca_le_s rfl (ca_le_s rfl (ca_le_s rfl (ca_le_s rfl ca_le_0))))))))) (loop2 k 0 (by omega))
              · refine ca_iconst hX (q := 78) k_iconst_2 rfl dX6_whatWas_77 ?_
                refine ca_goto hX 83 rfl dX6_whatWas_78 ?_
                refine ca_iload_n hX (q := 84) 2 rfl rfl rfl dX6_whatWas_83 ?_
                refine ca_iadd hX (q := 85) rfl dX6_whatWas_84 ?_
                refine ca_iload hX (q := 87) rfl rfl dX6_whatWas_85 ?_
                refine ca_iaS hX (q := 88) (k := 2 + r2) (by omega) hN (Nat.le_refl _) c2 (by decide) (nI_add 2 r2) (by omega) rfl dX6_whatWas_87 (fun g hE hF => ?_)
                have hm := md_a1 hm hE hF
                have hke := hke.ar (i := 1) (2 + r2) (nI i) (by omega)
                obtain ⟨c0, c1, c2, c3, c4, c5, c6, c7, c8, c9, c10, c11, c12, c13⟩ := id hm
                rw [hke.1] at c1
                have hfr := frG.tr hfr (fun j hj => hF j (by omega))
                have ec2 : g (o + 2) = .inl (182, wwH (M 0) r2 x3 i) := by unfold wwH; first | (rw [if_pos b74]; exact c2) | (rw [if_neg b74]; exact c2)
                refine ca_aload_n hX (q := 89) 0 rfl rfl rfl dX6_whatWas_88 ?_
                refine ca_aload_n hX (q := 90) 0 rfl rfl rfl dX6_whatWas_89 ?_
                refine ca_getf hX (q := 93) cl_X6 1 (by decide) w_fl_X6_13 (by omega) c0 rfl rfl dX6_whatWas_90 ?_
                refine ca_iload_n hX (q := 94) 1 rfl rfl rfl dX6_whatWas_93 ?_
                refine ca_iconst hX (q := 95) k_iconst_0 rfl dX6_whatWas_94 ?_
                refine ca_cV hX (q := 98) y_X6_worthBy w_ml_X6_171 (by omega) hN c0 (c_X6_worthBy l N g o _ hm ho (o + 2) (wwH (M 0) r2 x3 i) ec2 (by omega) (by omega) P (wf_ww w hr2 x3 (by omega)).1 hP5 (wf_ok (wf_ww w hr2 x3 (by omega))) r1 hr1 0 (by omega)) (by decide) rfl (Nat.le_of_ble_eq_true rfl) rfl dX6_whatWas_95 rfl ?_
                rintro _ g ⟨rfl, hf, M1, hm, hrf, e4, ej, e13⟩
                have hke := hke.tr (ke_bu e4 ej e13)
                have hfr := hfr.tr hf
                obtain ⟨c0, c1, c2, c3, c4, c5, c6, c7, c8, c9, c10, c11, c12, c13⟩ := id hm
                rw [hke.1] at c1
                have c6 : g (o + 6) = .inl (25, M 5) := by rw [c6, hke.2.2.2.1]
                have h132 : M1 13 2 = nI k := by rw [hke.2.2.2.2.2.2.2.1, hk]
                refine ca_istore hX (q := 100) (ls' := [_, _, _, _, _, _, _, _, _]) (Nat.le_of_ble_eq_true rfl) (Nat.le_of_ble_eq_true rfl) (Or.inr rfl) rfl rfl dX6_whatWas_98 ?_
                have hV : raM (fun q => if M1 7 q < 0 then 99 else M1 7 q) (M 5) k = rtM (rtV (wwH (M 0) r2 x3 i) P r1) (M 5) 0 k := by rw [rt_ra]; exact ra_cg k (fun q hq => by rw [(hrf q (by omega)).1]; exact bu_rw _ _ _ _ _ _)
                have loop2 : ∀ (n2 j : Nat), j + n2 = k → X 106 [some (.ref o), some (.int (nI r1)), some (.int (nI r2)), some (.int x3), some (.int (wwF (M 0) P r1 r2 x3 (M 5) k i)), some (.int (nI i)), some (.int (wA (wwH (M 0) r2 x3 i) P r1 0)), some (.int (raM (fun q => if M1 7 q < 0 then 99 else M1 7 q) (M 5) j)), some (.int (nI j))] [] N 1000000 g := by
                  intro n2
                  induction n2 with
                  | zero =>
                    intro j  hj 
                    have hjb : j = k := by omega
                    rw [hjb]
                    refine ca_iload hX (q := 108) rfl rfl dX6_whatWas_106 ?_
                    refine ca_aload_n hX (q := 109) 0 rfl rfl rfl dX6_whatWas_108 ?_
                    refine ca_getf hX (q := 112) cl_X6 9 (by decide) w_fl_X6_190 (by omega) c0 rfl rfl dX6_whatWas_109 ?_
                    refine ca_icmp_ge hX (q := 115) 163 rfl rfl dX6_whatWas_112 (fun _ => ?_) (fun z => absurd (by rw [h132]; exact nI_le (Nat.le_refl _) (by omega)) z)
                    rw [hV]
                    refine ca_iload hX (q := 165) rfl rfl dX6_whatWas_163 ?_
                    refine ca_iload hX (q := 167) rfl rfl dX6_whatWas_165 ?_
                    refine ca_if_eq hX (q := 170) 177 rfl rfl dX6_whatWas_167 (fun b167 => ?_) (fun b167 => ?_)
                    · refine ca_iconst hX (q := 178) k_iconst_0 rfl dX6_whatWas_177 ?_
                      refine ca_ior hX (q := 179) rfl dX6_whatWas_178 ?_
                      refine ca_istore hX (q := 181) (ls' := [_, _, _, _, _, _, _, _, _]) (Nat.le_of_ble_eq_true rfl) (Nat.le_of_ble_eq_true rfl) (Or.inr rfl) rfl rfl dX6_whatWas_179 ?_
                      refine ca_iinc hX (q := 184) (ls' := [_, _, _, _, _, _, _, _, _]) k_iconst_1 rfl (Nat.le_of_ble_eq_true rfl) (Or.inr rfl) rfl rfl dX6_whatWas_181 ?_
                      refine ca_goto hX 42 rfl dX6_whatWas_184 ?_
                      have e1 : (wwF (M 0) P r1 r2 x3 (M 5) k (i + 1)) = (wwF (M 0) P r1 r2 x3 (M 5) k i) := by rw [wwF, if_pos b167]
                      rw [Int32.or_zero, show nI i + 1 = nI (i + 1) from nI_add i 1]
                      exact ca_drop hX (ca_le_s rfl (ca_le_s rfl (ca_le_s rfl (ca_le_s rfl (ca_le_s (by rw [e1]) (ca_le_s rfl (ca_le_n (ca_le_n (ca_le_n ca_le_0))))))))) (ih (i + 1) _ M1 (by omega) hm hke hfr)
                    · refine ca_iconst hX (q := 171) k_iconst_1 rfl dX6_whatWas_170 ?_
                      refine ca_iload hX (q := 173) rfl rfl dX6_whatWas_171 ?_
                      refine ca_ishl hX (q := 174) rfl dX6_whatWas_173 ?_
                      refine ca_goto hX 178 rfl dX6_whatWas_174 ?_
                      refine ca_ior hX (q := 179) rfl dX6_whatWas_178 ?_
                      refine ca_istore hX (q := 181) (ls' := [_, _, _, _, _, _, _, _, _]) (Nat.le_of_ble_eq_true rfl) (Nat.le_of_ble_eq_true rfl) (Or.inr rfl) rfl rfl dX6_whatWas_179 ?_
                      refine ca_iinc hX (q := 184) (ls' := [_, _, _, _, _, _, _, _, _]) k_iconst_1 rfl (Nat.le_of_ble_eq_true rfl) (Or.inr rfl) rfl rfl dX6_whatWas_181 ?_
                      refine ca_goto hX 42 rfl dX6_whatWas_184 ?_
                      have e1 : (wwF (M 0) P r1 r2 x3 (M 5) k (i + 1)) = (wwF (M 0) P r1 r2 x3 (M 5) k i) ||| 1 <<< (nI i &&& 31) := by rw [wwF, if_neg b167]
                      rw [show nI i + 1 = nI (i + 1) from nI_add i 1]
                      exact ca_drop hX (ca_le_s rfl (ca_le_s rfl (ca_le_s rfl (ca_le_s rfl (ca_le_s (by rw [e1]) (ca_le_s rfl (ca_le_n (ca_le_n (ca_le_n ca_le_0))))))))) (ih (i + 1) _ M1 (by omega) hm hke hfr)
                  | succ n2 ih2 =>
                    intro j  hj 
                    refine ca_iload hX (q := 108) rfl rfl dX6_whatWas_106 ?_
                    refine ca_aload_n hX (q := 109) 0 rfl rfl rfl dX6_whatWas_108 ?_
                    refine ca_getf hX (q := 112) cl_X6 9 (by decide) w_fl_X6_190 (by omega) c0 rfl rfl dX6_whatWas_109 ?_
                    refine ca_icmp_ge hX (q := 115) 163 rfl rfl dX6_whatWas_112 (fun z => absurd z (by rw [h132]; exact nI_ge (a := j) (b := k) (by omega) (by omega))) (fun _ => ?_)
                    refine ca_iload hX (q := 117) rfl rfl dX6_whatWas_115 ?_
                    refine ca_aload_n hX (q := 118) 0 rfl rfl rfl dX6_whatWas_117 ?_
                    refine ca_getf hX (q := 121) cl_X6 10 (by decide) w_fl_X6_31 (by omega) c0 rfl rfl dX6_whatWas_118 ?_
                    refine ca_iload hX (q := 123) rfl rfl dX6_whatWas_121 ?_
                    refine ca_iaN hX (q := 124) (k := j) (by omega) c8 (by decide) rfl (by omega) rfl dX6_whatWas_123 ?_
                    refine ca_if_ge hX (q := 127) 132 rfl rfl dX6_whatWas_124 (fun b124 => ?_) (fun b124 => ?_)
                    · refine ca_aload_n hX (q := 133) 0 rfl rfl rfl dX6_whatWas_132 ?_
                      refine ca_getf hX (q := 136) cl_X6 10 (by decide) w_fl_X6_31 (by omega) c0 rfl rfl dX6_whatWas_133 ?_
                      refine ca_iload hX (q := 138) rfl rfl dX6_whatWas_136 ?_
                      refine ca_iaN hX (q := 139) (k := j) (by omega) c8 (by decide) rfl (by omega) rfl dX6_whatWas_138 ?_
                      refine ca_aload_n hX (q := 140) 0 rfl rfl rfl dX6_whatWas_139 ?_
                      refine ca_getf hX (q := 143) cl_X6 6 (by decide) w_fl_X6_25 (by omega) c0 rfl rfl dX6_whatWas_140 ?_
                      refine ca_iload hX (q := 145) rfl rfl dX6_whatWas_143 ?_
                      refine ca_iaN hX (q := 146) (k := j) (by omega) c6 (by decide) rfl (by omega) rfl dX6_whatWas_145 ?_
                      refine ca_icmp_ne hX (q := 149) 153 rfl rfl dX6_whatWas_146 (fun b146 => ?_) (fun b146 => ?_)
                      · refine ca_iconst hX (q := 154) k_iconst_0 rfl dX6_whatWas_153 ?_
                        refine ca_iand hX (q := 155) rfl dX6_whatWas_154 ?_
                        refine ca_istore hX (q := 157) (ls' := [_, _, _, _, _, _, _, _, _]) (Nat.le_of_ble_eq_true rfl) (Nat.le_of_ble_eq_true rfl) (Or.inr rfl) rfl rfl dX6_whatWas_155 ?_
                        refine ca_iinc hX (q := 160) (ls' := [_, _, _, _, _, _, _, _, _]) k_iconst_1 rfl (Nat.le_of_ble_eq_true rfl) (Or.inr rfl) rfl rfl dX6_whatWas_157 ?_
                        refine ca_goto hX 106 rfl dX6_whatWas_160 ?_
                        have hvj : (if M1 7 j < 0 then 99 else M1 7 j) = M1 7 j := if_neg (Int32.not_lt.mpr b124)
                        rw [show nI j + 1 = nI (j + 1) from nI_add j 1]
                        exact ca_drop hX (ca_le_s rfl (ca_le_s rfl (ca_le_s rfl (ca_le_s rfl (ca_le_s rfl (ca_le_s rfl (ca_le_s rfl (ca_le_s (by rw [raM, hvj, if_neg b146]) (ca_le_s rfl ca_le_0))))))))) (ih2 (j + 1) (by omega))
                      · refine ca_iconst hX (q := 150) k_iconst_1 rfl dX6_whatWas_149 ?_
                        refine ca_goto hX 154 rfl dX6_whatWas_150 ?_
                        refine ca_iand hX (q := 155) rfl dX6_whatWas_154 ?_
                        refine ca_istore hX (q := 157) (ls' := [_, _, _, _, _, _, _, _, _]) (Nat.le_of_ble_eq_true rfl) (Nat.le_of_ble_eq_true rfl) (Or.inr rfl) rfl rfl dX6_whatWas_155 ?_
                        refine ca_iinc hX (q := 160) (ls' := [_, _, _, _, _, _, _, _, _]) k_iconst_1 rfl (Nat.le_of_ble_eq_true rfl) (Or.inr rfl) rfl rfl dX6_whatWas_157 ?_
                        refine ca_goto hX 106 rfl dX6_whatWas_160 ?_
                        have hvj : (if M1 7 j < 0 then 99 else M1 7 j) = M1 7 j := if_neg (Int32.not_lt.mpr b124)
                        rw [show nI j + 1 = nI (j + 1) from nI_add j 1]
                        exact ca_drop hX (ca_le_s rfl (ca_le_s rfl (ca_le_s rfl (ca_le_s rfl (ca_le_s rfl (ca_le_s rfl (ca_le_s rfl (ca_le_s (by rw [raM, hvj, if_pos b146]) (ca_le_s rfl ca_le_0))))))))) (ih2 (j + 1) (by omega))
                    · refine ca_bipush hX (q := 129) k_bipush_99 rfl dX6_whatWas_127 ?_
                      refine ca_goto hX 139 rfl dX6_whatWas_129 ?_
                      refine ca_aload_n hX (q := 140) 0 rfl rfl rfl dX6_whatWas_139 ?_
                      refine ca_getf hX (q := 143) cl_X6 6 (by decide) w_fl_X6_25 (by omega) c0 rfl rfl dX6_whatWas_140 ?_
                      refine ca_iload hX (q := 145) rfl rfl dX6_whatWas_143 ?_
                      refine ca_iaN hX (q := 146) (k := j) (by omega) c6 (by decide) rfl (by omega) rfl dX6_whatWas_145 ?_
                      refine ca_icmp_ne hX (q := 149) 153 rfl rfl dX6_whatWas_146 (fun b146 => ?_) (fun b146 => ?_)
                      · refine ca_iconst hX (q := 154) k_iconst_0 rfl dX6_whatWas_153 ?_
                        refine ca_iand hX (q := 155) rfl dX6_whatWas_154 ?_
                        refine ca_istore hX (q := 157) (ls' := [_, _, _, _, _, _, _, _, _]) (Nat.le_of_ble_eq_true rfl) (Nat.le_of_ble_eq_true rfl) (Or.inr rfl) rfl rfl dX6_whatWas_155 ?_
                        refine ca_iinc hX (q := 160) (ls' := [_, _, _, _, _, _, _, _, _]) k_iconst_1 rfl (Nat.le_of_ble_eq_true rfl) (Or.inr rfl) rfl rfl dX6_whatWas_157 ?_
                        refine ca_goto hX 106 rfl dX6_whatWas_160 ?_
                        have hvj : (if M1 7 j < 0 then 99 else M1 7 j) = 99 := if_pos (Int32.not_le.mp b124)
                        rw [show nI j + 1 = nI (j + 1) from nI_add j 1]
                        exact ca_drop hX (ca_le_s rfl (ca_le_s rfl (ca_le_s rfl (ca_le_s rfl (ca_le_s rfl (ca_le_s rfl (ca_le_s rfl (ca_le_s (by rw [raM, hvj, if_neg b146]) (ca_le_s rfl ca_le_0))))))))) (ih2 (j + 1) (by omega))
                      · refine ca_iconst hX (q := 150) k_iconst_1 rfl dX6_whatWas_149 ?_
                        refine ca_goto hX 154 rfl dX6_whatWas_150 ?_
                        refine ca_iand hX (q := 155) rfl dX6_whatWas_154 ?_
                        refine ca_istore hX (q := 157) (ls' := [_, _, _, _, _, _, _, _, _]) (Nat.le_of_ble_eq_true rfl) (Nat.le_of_ble_eq_true rfl) (Or.inr rfl) rfl rfl dX6_whatWas_155 ?_
                        refine ca_iinc hX (q := 160) (ls' := [_, _, _, _, _, _, _, _, _]) k_iconst_1 rfl (Nat.le_of_ble_eq_true rfl) (Or.inr rfl) rfl rfl dX6_whatWas_157 ?_
                        refine ca_goto hX 106 rfl dX6_whatWas_160 ?_
                        have hvj : (if M1 7 j < 0 then 99 else M1 7 j) = 99 := if_pos (Int32.not_le.mp b124)
                        rw [show nI j + 1 = nI (j + 1) from nI_add j 1]
                        exact ca_drop hX (ca_le_s rfl (ca_le_s rfl (ca_le_s rfl (ca_le_s rfl (ca_le_s rfl (ca_le_s rfl (ca_le_s rfl (ca_le_s (by rw [raM, hvj, if_pos b146]) (ca_le_s rfl ca_le_0))))))))) (ih2 (j + 1) (by omega))
                refine ca_iconst hX (q := 101) k_iconst_1 rfl dX6_whatWas_100 ?_
                refine ca_istore hX (q := 103) (ls' := [_, _, _, _, _, _, _, _, _]) (Nat.le_of_ble_eq_true rfl) (Nat.le_of_ble_eq_true rfl) (Or.inr rfl) rfl rfl dX6_whatWas_101 ?_
                refine ca_iconst hX (q := 104) k_iconst_0 rfl dX6_whatWas_103 ?_
                refine ca_istore hX (q := 106) (ls' := [_, _, _, _, _, _, _, _, _]) (Nat.le_of_ble_eq_true rfl) (Nat.le_of_ble_eq_true rfl) (Or.inr rfl) rfl rfl dX6_whatWas_104 ?_
                exact ca_drop hX (ca_le_s rfl (ca_le_s rfl (ca_le_s rfl (ca_le_s rfl (ca_le_s rfl (ca_le_s rfl (ca_le_s rfl (ca_le_s rfl (ca_le_s rfl ca_le_0))))))))) (loop2 k 0 (by omega))
            · refine ca_bipush hX (q := 50) k_bipush_6 rfl dX6_whatWas_48 ?_
              refine ca_goto hX 55 rfl dX6_whatWas_50 ?_
              refine ca_icmp_ge hX (q := 58) 187 rfl rfl dX6_whatWas_55 (fun z => absurd z (fun z => by have hw : i + (n + 1) = wwN x3 := hi; unfold wwN at hw; first | (rw [if_pos b45] at hw; have := (nI_leI (a := 6) (b := i) (by omega) (by omega)).mp z; omega) | (rw [if_neg b45] at hw; have := (nI_leI (a := 10) (b := i) (by omega) (by omega)).mp z; omega))) (fun _ => ?_)
              refine ca_aload_n hX (q := 59) 0 rfl rfl rfl dX6_whatWas_58 ?_
              refine ca_getf hX (q := 62) cl_X6 0 (by decide) w_fl_X6_9 (by omega) c0 rfl rfl dX6_whatWas_59 ?_
              refine ca_aload_n hX (q := 63) 0 rfl rfl rfl dX6_whatWas_62 ?_
              refine ca_getf hX (q := 66) cl_X6 1 (by decide) w_fl_X6_13 (by omega) c0 rfl rfl dX6_whatWas_63 ?_
              refine ca_cS hX (q := 69) y_X6_lays w_ml_X6_147 hN (c_X6_lays l N g (o + 1) (o + 2) _ _ c1 c2 (by omega) (by omega) (by omega)) (by decide) rfl (Nat.le_of_ble_eq_true rfl) rfl dX6_whatWas_66 rfl ?_
              rintro _ g ⟨rfl, hE, hF⟩
              refine ca_same hX (f' := M 0) (by omega) hN hE (fun j hj => if_pos hj) (fun g hE2 hF2 => ?_)
              have hm := md_f1 hm hE2 (fun j hj => (hF2 j hj).trans (hF j hj))
              have hke := hke.st (i := 1) (M 0) (by omega)
              obtain ⟨c0, c1, c2, c3, c4, c5, c6, c7, c8, c9, c10, c11, c12, c13⟩ := id hm
              rw [hke.1] at c1
              have hfr := hfr.tr (fun j hj => (hF2 j (by omega)).trans (hF j (by omega)))
              refine ca_aload_n hX (q := 70) 0 rfl rfl rfl dX6_whatWas_69 ?_
              refine ca_getf hX (q := 73) cl_X6 1 (by decide) w_fl_X6_13 (by omega) c0 rfl rfl dX6_whatWas_70 ?_
              refine ca_iload_n hX (q := 74) 3 rfl rfl rfl dX6_whatWas_73 ?_
              refine ca_if_ne hX (q := 77) 81 rfl rfl dX6_whatWas_74 (fun b74 => ?_) (fun b74 => ?_)
              · refine ca_bipush hX (q := 83) k_bipush_27 rfl dX6_whatWas_81 ?_
                refine ca_iload_n hX (q := 84) 2 rfl rfl rfl dX6_whatWas_83 ?_
                refine ca_iadd hX (q := 85) rfl dX6_whatWas_84 ?_
                refine ca_iload hX (q := 87) rfl rfl dX6_whatWas_85 ?_
                refine ca_iaS hX (q := 88) (k := 27 + r2) (by omega) hN (Nat.le_refl _) c2 (by decide) (nI_add 27 r2) (by omega) rfl dX6_whatWas_87 (fun g hE hF => ?_)
                have hm := md_a1 hm hE hF
                have hke := hke.ar (i := 1) (27 + r2) (nI i) (by omega)
                obtain ⟨c0, c1, c2, c3, c4, c5, c6, c7, c8, c9, c10, c11, c12, c13⟩ := id hm
                rw [hke.1] at c1
                have hfr := frG.tr hfr (fun j hj => hF j (by omega))
                have ec2 : g (o + 2) = .inl (182, wwH (M 0) r2 x3 i) := by unfold wwH; first | (rw [if_pos b74]; exact c2) | (rw [if_neg b74]; exact c2)
                refine ca_aload_n hX (q := 89) 0 rfl rfl rfl dX6_whatWas_88 ?_
                refine ca_aload_n hX (q := 90) 0 rfl rfl rfl dX6_whatWas_89 ?_
                refine ca_getf hX (q := 93) cl_X6 1 (by decide) w_fl_X6_13 (by omega) c0 rfl rfl dX6_whatWas_90 ?_
                refine ca_iload_n hX (q := 94) 1 rfl rfl rfl dX6_whatWas_93 ?_
                refine ca_iconst hX (q := 95) k_iconst_0 rfl dX6_whatWas_94 ?_
                refine ca_cV hX (q := 98) y_X6_worthBy w_ml_X6_171 (by omega) hN c0 (c_X6_worthBy l N g o _ hm ho (o + 2) (wwH (M 0) r2 x3 i) ec2 (by omega) (by omega) P (wf_ww w hr2 x3 (by omega)).1 hP5 (wf_ok (wf_ww w hr2 x3 (by omega))) r1 hr1 0 (by omega)) (by decide) rfl (Nat.le_of_ble_eq_true rfl) rfl dX6_whatWas_95 rfl ?_
                rintro _ g ⟨rfl, hf, M1, hm, hrf, e4, ej, e13⟩
                have hke := hke.tr (ke_bu e4 ej e13)
                have hfr := hfr.tr hf
                obtain ⟨c0, c1, c2, c3, c4, c5, c6, c7, c8, c9, c10, c11, c12, c13⟩ := id hm
                rw [hke.1] at c1
                have c6 : g (o + 6) = .inl (25, M 5) := by rw [c6, hke.2.2.2.1]
                have h132 : M1 13 2 = nI k := by rw [hke.2.2.2.2.2.2.2.1, hk]
                refine ca_istore hX (q := 100) (ls' := [_, _, _, _, _, _, _, _, _]) (Nat.le_of_ble_eq_true rfl) (Nat.le_of_ble_eq_true rfl) (Or.inr rfl) rfl rfl dX6_whatWas_98 ?_
                have hV : raM (fun q => if M1 7 q < 0 then 99 else M1 7 q) (M 5) k = rtM (rtV (wwH (M 0) r2 x3 i) P r1) (M 5) 0 k := by rw [rt_ra]; exact ra_cg k (fun q hq => by rw [(hrf q (by omega)).1]; exact bu_rw _ _ _ _ _ _)
                have loop2 : ∀ (n2 j : Nat), j + n2 = k → X 106 [some (.ref o), some (.int (nI r1)), some (.int (nI r2)), some (.int x3), some (.int (wwF (M 0) P r1 r2 x3 (M 5) k i)), some (.int (nI i)), some (.int (wA (wwH (M 0) r2 x3 i) P r1 0)), some (.int (raM (fun q => if M1 7 q < 0 then 99 else M1 7 q) (M 5) j)), some (.int (nI j))] [] N 1000000 g := by
                  intro n2
                  induction n2 with
                  | zero =>
                    intro j  hj 
                    have hjb : j = k := by omega
                    rw [hjb]
                    refine ca_iload hX (q := 108) rfl rfl dX6_whatWas_106 ?_
                    refine ca_aload_n hX (q := 109) 0 rfl rfl rfl dX6_whatWas_108 ?_
                    refine ca_getf hX (q := 112) cl_X6 9 (by decide) w_fl_X6_190 (by omega) c0 rfl rfl dX6_whatWas_109 ?_
                    refine ca_icmp_ge hX (q := 115) 163 rfl rfl dX6_whatWas_112 (fun _ => ?_) (fun z => absurd (by rw [h132]; exact nI_le (Nat.le_refl _) (by omega)) z)
                    rw [hV]
                    refine ca_iload hX (q := 165) rfl rfl dX6_whatWas_163 ?_
                    refine ca_iload hX (q := 167) rfl rfl dX6_whatWas_165 ?_
                    refine ca_if_eq hX (q := 170) 177 rfl rfl dX6_whatWas_167 (fun b167 => ?_) (fun b167 => ?_)
                    · refine ca_iconst hX (q := 178) k_iconst_0 rfl dX6_whatWas_177 ?_
                      refine ca_ior hX (q := 179) rfl dX6_whatWas_178 ?_
                      refine ca_istore hX (q := 181) (ls' := [_, _, _, _, _, _, _, _, _]) (Nat.le_of_ble_eq_true rfl) (Nat.le_of_ble_eq_true rfl) (Or.inr rfl) rfl rfl dX6_whatWas_179 ?_
                      refine ca_iinc hX (q := 184) (ls' := [_, _, _, _, _, _, _, _, _]) k_iconst_1 rfl (Nat.le_of_ble_eq_true rfl) (Or.inr rfl) rfl rfl dX6_whatWas_181 ?_
                      refine ca_goto hX 42 rfl dX6_whatWas_184 ?_
                      have e1 : (wwF (M 0) P r1 r2 x3 (M 5) k (i + 1)) = (wwF (M 0) P r1 r2 x3 (M 5) k i) := by rw [wwF, if_pos b167]
                      rw [Int32.or_zero, show nI i + 1 = nI (i + 1) from nI_add i 1]
                      exact ca_drop hX (ca_le_s rfl (ca_le_s rfl (ca_le_s rfl (ca_le_s rfl (ca_le_s (by rw [e1]) (ca_le_s rfl (ca_le_n (ca_le_n (ca_le_n ca_le_0))))))))) (ih (i + 1) _ M1 (by omega) hm hke hfr)
                    · refine ca_iconst hX (q := 171) k_iconst_1 rfl dX6_whatWas_170 ?_
                      refine ca_iload hX (q := 173) rfl rfl dX6_whatWas_171 ?_
                      refine ca_ishl hX (q := 174) rfl dX6_whatWas_173 ?_
                      refine ca_goto hX 178 rfl dX6_whatWas_174 ?_
                      refine ca_ior hX (q := 179) rfl dX6_whatWas_178 ?_
                      refine ca_istore hX (q := 181) (ls' := [_, _, _, _, _, _, _, _, _]) (Nat.le_of_ble_eq_true rfl) (Nat.le_of_ble_eq_true rfl) (Or.inr rfl) rfl rfl dX6_whatWas_179 ?_
                      refine ca_iinc hX (q := 184) (ls' := [_, _, _, _, _, _, _, _, _]) k_iconst_1 rfl (Nat.le_of_ble_eq_true rfl) (Or.inr rfl) rfl rfl dX6_whatWas_181 ?_
                      refine ca_goto hX 42 rfl dX6_whatWas_184 ?_
                      have e1 : (wwF (M 0) P r1 r2 x3 (M 5) k (i + 1)) = (wwF (M 0) P r1 r2 x3 (M 5) k i) ||| 1 <<< (nI i &&& 31) := by rw [wwF, if_neg b167]
                      rw [show nI i + 1 = nI (i + 1) from nI_add i 1]
                      exact ca_drop hX (ca_le_s rfl (ca_le_s rfl (ca_le_s rfl (ca_le_s rfl (ca_le_s (by rw [e1]) (ca_le_s rfl (ca_le_n (ca_le_n (ca_le_n ca_le_0))))))))) (ih (i + 1) _ M1 (by omega) hm hke hfr)
                  | succ n2 ih2 =>
                    intro j  hj 
                    refine ca_iload hX (q := 108) rfl rfl dX6_whatWas_106 ?_
                    refine ca_aload_n hX (q := 109) 0 rfl rfl rfl dX6_whatWas_108 ?_
                    refine ca_getf hX (q := 112) cl_X6 9 (by decide) w_fl_X6_190 (by omega) c0 rfl rfl dX6_whatWas_109 ?_
                    refine ca_icmp_ge hX (q := 115) 163 rfl rfl dX6_whatWas_112 (fun z => absurd z (by rw [h132]; exact nI_ge (a := j) (b := k) (by omega) (by omega))) (fun _ => ?_)
                    refine ca_iload hX (q := 117) rfl rfl dX6_whatWas_115 ?_
                    refine ca_aload_n hX (q := 118) 0 rfl rfl rfl dX6_whatWas_117 ?_
                    refine ca_getf hX (q := 121) cl_X6 10 (by decide) w_fl_X6_31 (by omega) c0 rfl rfl dX6_whatWas_118 ?_
                    refine ca_iload hX (q := 123) rfl rfl dX6_whatWas_121 ?_
                    refine ca_iaN hX (q := 124) (k := j) (by omega) c8 (by decide) rfl (by omega) rfl dX6_whatWas_123 ?_
                    refine ca_if_ge hX (q := 127) 132 rfl rfl dX6_whatWas_124 (fun b124 => ?_) (fun b124 => ?_)
                    · refine ca_aload_n hX (q := 133) 0 rfl rfl rfl dX6_whatWas_132 ?_
                      refine ca_getf hX (q := 136) cl_X6 10 (by decide) w_fl_X6_31 (by omega) c0 rfl rfl dX6_whatWas_133 ?_
                      refine ca_iload hX (q := 138) rfl rfl dX6_whatWas_136 ?_
                      refine ca_iaN hX (q := 139) (k := j) (by omega) c8 (by decide) rfl (by omega) rfl dX6_whatWas_138 ?_
                      refine ca_aload_n hX (q := 140) 0 rfl rfl rfl dX6_whatWas_139 ?_
                      refine ca_getf hX (q := 143) cl_X6 6 (by decide) w_fl_X6_25 (by omega) c0 rfl rfl dX6_whatWas_140 ?_
                      refine ca_iload hX (q := 145) rfl rfl dX6_whatWas_143 ?_
                      refine ca_iaN hX (q := 146) (k := j) (by omega) c6 (by decide) rfl (by omega) rfl dX6_whatWas_145 ?_
                      refine ca_icmp_ne hX (q := 149) 153 rfl rfl dX6_whatWas_146 (fun b146 => ?_) (fun b146 => ?_)
                      · refine ca_iconst hX (q := 154) k_iconst_0 rfl dX6_whatWas_153 ?_
                        refine ca_iand hX (q := 155) rfl dX6_whatWas_154 ?_
                        refine ca_istore hX (q := 157) (ls' := [_, _, _, _, _, _, _, _, _]) (Nat.le_of_ble_eq_true rfl) (Nat.le_of_ble_eq_true rfl) (Or.inr rfl) rfl rfl dX6_whatWas_155 ?_
                        refine ca_iinc hX (q := 160) (ls' := [_, _, _, _, _, _, _, _, _]) k_iconst_1 rfl (Nat.le_of_ble_eq_true rfl) (Or.inr rfl) rfl rfl dX6_whatWas_157 ?_
                        refine ca_goto hX 106 rfl dX6_whatWas_160 ?_
                        have hvj : (if M1 7 j < 0 then 99 else M1 7 j) = M1 7 j := if_neg (Int32.not_lt.mpr b124)
                        rw [show nI j + 1 = nI (j + 1) from nI_add j 1]
                        exact ca_drop hX (ca_le_s rfl (ca_le_s rfl (ca_le_s rfl (ca_le_s rfl (ca_le_s rfl (ca_le_s rfl (ca_le_s rfl (ca_le_s (by rw [raM, hvj, if_neg b146]) (ca_le_s rfl ca_le_0))))))))) (ih2 (j + 1) (by omega))
                      · refine ca_iconst hX (q := 150) k_iconst_1 rfl dX6_whatWas_149 ?_
                        refine ca_goto hX 154 rfl dX6_whatWas_150 ?_
                        refine ca_iand hX (q := 155) rfl dX6_whatWas_154 ?_
                        refine ca_istore hX (q := 157) (ls' := [_, _, _, _, _, _, _, _, _]) (Nat.le_of_ble_eq_true rfl) (Nat.le_of_ble_eq_true rfl) (Or.inr rfl) rfl rfl dX6_whatWas_155 ?_
                        refine ca_iinc hX (q := 160) (ls' := [_, _, _, _, _, _, _, _, _]) k_iconst_1 rfl (Nat.le_of_ble_eq_true rfl) (Or.inr rfl) rfl rfl dX6_whatWas_157 ?_
                        refine ca_goto hX 106 rfl dX6_whatWas_160 ?_
                        have hvj : (if M1 7 j < 0 then 99 else M1 7 j) = M1 7 j := if_neg (Int32.not_lt.mpr b124)
                        rw [show nI j + 1 = nI (j + 1) from nI_add j 1]
                        exact ca_drop hX (ca_le_s rfl (ca_le_s rfl (ca_le_s rfl (ca_le_s rfl (ca_le_s rfl (ca_le_s rfl (ca_le_s rfl (ca_le_s (by rw [raM, hvj, if_pos b146]) (ca_le_s rfl ca_le_0))))))))) (ih2 (j + 1) (by omega))
                    · refine ca_bipush hX (q := 129) k_bipush_99 rfl dX6_whatWas_127 ?_
                      refine ca_goto hX 139 rfl dX6_whatWas_129 ?_
                      refine ca_aload_n hX (q := 140) 0 rfl rfl rfl dX6_whatWas_139 ?_
                      refine ca_getf hX (q := 143) cl_X6 6 (by decide) w_fl_X6_25 (by omega) c0 rfl rfl dX6_whatWas_140 ?_
                      refine ca_iload hX (q := 145) rfl rfl dX6_whatWas_143 ?_
                      refine ca_iaN hX (q := 146) (k := j) (by omega) c6 (by decide) rfl (by omega) rfl dX6_whatWas_145 ?_
                      refine ca_icmp_ne hX (q := 149) 153 rfl rfl dX6_whatWas_146 (fun b146 => ?_) (fun b146 => ?_)
                      · refine ca_iconst hX (q := 154) k_iconst_0 rfl dX6_whatWas_153 ?_
                        refine ca_iand hX (q := 155) rfl dX6_whatWas_154 ?_
                        refine ca_istore hX (q := 157) (ls' := [_, _, _, _, _, _, _, _, _]) (Nat.le_of_ble_eq_true rfl) (Nat.le_of_ble_eq_true rfl) (Or.inr rfl) rfl rfl dX6_whatWas_155 ?_
                        refine ca_iinc hX (q := 160) (ls' := [_, _, _, _, _, _, _, _, _]) k_iconst_1 rfl (Nat.le_of_ble_eq_true rfl) (Or.inr rfl) rfl rfl dX6_whatWas_157 ?_
                        refine ca_goto hX 106 rfl dX6_whatWas_160 ?_
                        have hvj : (if M1 7 j < 0 then 99 else M1 7 j) = 99 := if_pos (Int32.not_le.mp b124)
                        rw [show nI j + 1 = nI (j + 1) from nI_add j 1]
                        exact ca_drop hX (ca_le_s rfl (ca_le_s rfl (ca_le_s rfl (ca_le_s rfl (ca_le_s rfl (ca_le_s rfl (ca_le_s rfl (ca_le_s (by rw [raM, hvj, if_neg b146]) (ca_le_s rfl ca_le_0))))))))) (ih2 (j + 1) (by omega))
                      · refine ca_iconst hX (q := 150) k_iconst_1 rfl dX6_whatWas_149 ?_
                        refine ca_goto hX 154 rfl dX6_whatWas_150 ?_
                        refine ca_iand hX (q := 155) rfl dX6_whatWas_154 ?_
                        refine ca_istore hX (q := 157) (ls' := [_, _, _, _, _, _, _, _, _]) (Nat.le_of_ble_eq_true rfl) (Nat.le_of_ble_eq_true rfl) (Or.inr rfl) rfl rfl dX6_whatWas_155 ?_
                        refine ca_iinc hX (q := 160) (ls' := [_, _, _, _, _, _, _, _, _]) k_iconst_1 rfl (Nat.le_of_ble_eq_true rfl) (Or.inr rfl) rfl rfl dX6_whatWas_157 ?_
                        refine ca_goto hX 106 rfl dX6_whatWas_160 ?_
                        have hvj : (if M1 7 j < 0 then 99 else M1 7 j) = 99 := if_pos (Int32.not_le.mp b124)
                        rw [show nI j + 1 = nI (j + 1) from nI_add j 1]
                        exact ca_drop hX (ca_le_s rfl (ca_le_s rfl (ca_le_s rfl (ca_le_s rfl (ca_le_s rfl (ca_le_s rfl (ca_le_s rfl (ca_le_s (by rw [raM, hvj, if_pos b146]) (ca_le_s rfl ca_le_0))))))))) (ih2 (j + 1) (by omega))
                refine ca_iconst hX (q := 101) k_iconst_1 rfl dX6_whatWas_100 ?_
                refine ca_istore hX (q := 103) (ls' := [_, _, _, _, _, _, _, _, _]) (Nat.le_of_ble_eq_true rfl) (Nat.le_of_ble_eq_true rfl) (Or.inr rfl) rfl rfl dX6_whatWas_101 ?_
                refine ca_iconst hX (q := 104) k_iconst_0 rfl dX6_whatWas_103 ?_
                refine ca_istore hX (q := 106) (ls' := [_, _, _, _, _, _, _, _, _]) (Nat.le_of_ble_eq_true rfl) (Nat.le_of_ble_eq_true rfl) (Or.inr rfl) rfl rfl dX6_whatWas_104 ?_
                exact ca_drop hX (ca_le_s rfl (ca_le_s rfl (ca_le_s rfl (ca_le_s rfl (ca_le_s rfl (ca_le_s rfl (ca_le_s rfl (ca_le_s rfl (ca_le_s rfl ca_le_0))))))))) (loop2 k 0 (by omega))
              · refine ca_iconst hX (q := 78) k_iconst_2 rfl dX6_whatWas_77 ?_
                refine ca_goto hX 83 rfl dX6_whatWas_78 ?_
                refine ca_iload_n hX (q := 84) 2 rfl rfl rfl dX6_whatWas_83 ?_
                refine ca_iadd hX (q := 85) rfl dX6_whatWas_84 ?_
                refine ca_iload hX (q := 87) rfl rfl dX6_whatWas_85 ?_
                refine ca_iaS hX (q := 88) (k := 2 + r2) (by omega) hN (Nat.le_refl _) c2 (by decide) (nI_add 2 r2) (by omega) rfl dX6_whatWas_87 (fun g hE hF => ?_)
                have hm := md_a1 hm hE hF
                have hke := hke.ar (i := 1) (2 + r2) (nI i) (by omega)
                obtain ⟨c0, c1, c2, c3, c4, c5, c6, c7, c8, c9, c10, c11, c12, c13⟩ := id hm
                rw [hke.1] at c1
                have hfr := frG.tr hfr (fun j hj => hF j (by omega))
                have ec2 : g (o + 2) = .inl (182, wwH (M 0) r2 x3 i) := by unfold wwH; first | (rw [if_pos b74]; exact c2) | (rw [if_neg b74]; exact c2)
                refine ca_aload_n hX (q := 89) 0 rfl rfl rfl dX6_whatWas_88 ?_
                refine ca_aload_n hX (q := 90) 0 rfl rfl rfl dX6_whatWas_89 ?_
                refine ca_getf hX (q := 93) cl_X6 1 (by decide) w_fl_X6_13 (by omega) c0 rfl rfl dX6_whatWas_90 ?_
                refine ca_iload_n hX (q := 94) 1 rfl rfl rfl dX6_whatWas_93 ?_
                refine ca_iconst hX (q := 95) k_iconst_0 rfl dX6_whatWas_94 ?_
                refine ca_cV hX (q := 98) y_X6_worthBy w_ml_X6_171 (by omega) hN c0 (c_X6_worthBy l N g o _ hm ho (o + 2) (wwH (M 0) r2 x3 i) ec2 (by omega) (by omega) P (wf_ww w hr2 x3 (by omega)).1 hP5 (wf_ok (wf_ww w hr2 x3 (by omega))) r1 hr1 0 (by omega)) (by decide) rfl (Nat.le_of_ble_eq_true rfl) rfl dX6_whatWas_95 rfl ?_
                rintro _ g ⟨rfl, hf, M1, hm, hrf, e4, ej, e13⟩
                have hke := hke.tr (ke_bu e4 ej e13)
                have hfr := hfr.tr hf
                obtain ⟨c0, c1, c2, c3, c4, c5, c6, c7, c8, c9, c10, c11, c12, c13⟩ := id hm
                rw [hke.1] at c1
                have c6 : g (o + 6) = .inl (25, M 5) := by rw [c6, hke.2.2.2.1]
                have h132 : M1 13 2 = nI k := by rw [hke.2.2.2.2.2.2.2.1, hk]
                refine ca_istore hX (q := 100) (ls' := [_, _, _, _, _, _, _, _, _]) (Nat.le_of_ble_eq_true rfl) (Nat.le_of_ble_eq_true rfl) (Or.inr rfl) rfl rfl dX6_whatWas_98 ?_
                have hV : raM (fun q => if M1 7 q < 0 then 99 else M1 7 q) (M 5) k = rtM (rtV (wwH (M 0) r2 x3 i) P r1) (M 5) 0 k := by rw [rt_ra]; exact ra_cg k (fun q hq => by rw [(hrf q (by omega)).1]; exact bu_rw _ _ _ _ _ _)
                have loop2 : ∀ (n2 j : Nat), j + n2 = k → X 106 [some (.ref o), some (.int (nI r1)), some (.int (nI r2)), some (.int x3), some (.int (wwF (M 0) P r1 r2 x3 (M 5) k i)), some (.int (nI i)), some (.int (wA (wwH (M 0) r2 x3 i) P r1 0)), some (.int (raM (fun q => if M1 7 q < 0 then 99 else M1 7 q) (M 5) j)), some (.int (nI j))] [] N 1000000 g := by
                  intro n2
                  induction n2 with
                  | zero =>
                    intro j  hj 
                    have hjb : j = k := by omega
                    rw [hjb]
                    refine ca_iload hX (q := 108) rfl rfl dX6_whatWas_106 ?_
                    refine ca_aload_n hX (q := 109) 0 rfl rfl rfl dX6_whatWas_108 ?_
                    refine ca_getf hX (q := 112) cl_X6 9 (by decide) w_fl_X6_190 (by omega) c0 rfl rfl dX6_whatWas_109 ?_
                    refine ca_icmp_ge hX (q := 115) 163 rfl rfl dX6_whatWas_112 (fun _ => ?_) (fun z => absurd (by rw [h132]; exact nI_le (Nat.le_refl _) (by omega)) z)
                    rw [hV]
                    refine ca_iload hX (q := 165) rfl rfl dX6_whatWas_163 ?_
                    refine ca_iload hX (q := 167) rfl rfl dX6_whatWas_165 ?_
                    refine ca_if_eq hX (q := 170) 177 rfl rfl dX6_whatWas_167 (fun b167 => ?_) (fun b167 => ?_)
                    · refine ca_iconst hX (q := 178) k_iconst_0 rfl dX6_whatWas_177 ?_
                      refine ca_ior hX (q := 179) rfl dX6_whatWas_178 ?_
                      refine ca_istore hX (q := 181) (ls' := [_, _, _, _, _, _, _, _, _]) (Nat.le_of_ble_eq_true rfl) (Nat.le_of_ble_eq_true rfl) (Or.inr rfl) rfl rfl dX6_whatWas_179 ?_
                      refine ca_iinc hX (q := 184) (ls' := [_, _, _, _, _, _, _, _, _]) k_iconst_1 rfl (Nat.le_of_ble_eq_true rfl) (Or.inr rfl) rfl rfl dX6_whatWas_181 ?_
                      refine ca_goto hX 42 rfl dX6_whatWas_184 ?_
                      have e1 : (wwF (M 0) P r1 r2 x3 (M 5) k (i + 1)) = (wwF (M 0) P r1 r2 x3 (M 5) k i) := by rw [wwF, if_pos b167]
                      rw [Int32.or_zero, show nI i + 1 = nI (i + 1) from nI_add i 1]
                      exact ca_drop hX (ca_le_s rfl (ca_le_s rfl (ca_le_s rfl (ca_le_s rfl (ca_le_s (by rw [e1]) (ca_le_s rfl (ca_le_n (ca_le_n (ca_le_n ca_le_0))))))))) (ih (i + 1) _ M1 (by omega) hm hke hfr)
                    · refine ca_iconst hX (q := 171) k_iconst_1 rfl dX6_whatWas_170 ?_
                      refine ca_iload hX (q := 173) rfl rfl dX6_whatWas_171 ?_
                      refine ca_ishl hX (q := 174) rfl dX6_whatWas_173 ?_
                      refine ca_goto hX 178 rfl dX6_whatWas_174 ?_
                      refine ca_ior hX (q := 179) rfl dX6_whatWas_178 ?_
                      refine ca_istore hX (q := 181) (ls' := [_, _, _, _, _, _, _, _, _]) (Nat.le_of_ble_eq_true rfl) (Nat.le_of_ble_eq_true rfl) (Or.inr rfl) rfl rfl dX6_whatWas_179 ?_
                      refine ca_iinc hX (q := 184) (ls' := [_, _, _, _, _, _, _, _, _]) k_iconst_1 rfl (Nat.le_of_ble_eq_true rfl) (Or.inr rfl) rfl rfl dX6_whatWas_181 ?_
                      refine ca_goto hX 42 rfl dX6_whatWas_184 ?_
                      have e1 : (wwF (M 0) P r1 r2 x3 (M 5) k (i + 1)) = (wwF (M 0) P r1 r2 x3 (M 5) k i) ||| 1 <<< (nI i &&& 31) := by rw [wwF, if_neg b167]
                      rw [show nI i + 1 = nI (i + 1) from nI_add i 1]
                      exact ca_drop hX (ca_le_s rfl (ca_le_s rfl (ca_le_s rfl (ca_le_s rfl (ca_le_s (by rw [e1]) (ca_le_s rfl (ca_le_n (ca_le_n (ca_le_n ca_le_0))))))))) (ih (i + 1) _ M1 (by omega) hm hke hfr)
                  | succ n2 ih2 =>
                    intro j  hj 
                    refine ca_iload hX (q := 108) rfl rfl dX6_whatWas_106 ?_
                    refine ca_aload_n hX (q := 109) 0 rfl rfl rfl dX6_whatWas_108 ?_
                    refine ca_getf hX (q := 112) cl_X6 9 (by decide) w_fl_X6_190 (by omega) c0 rfl rfl dX6_whatWas_109 ?_
                    refine ca_icmp_ge hX (q := 115) 163 rfl rfl dX6_whatWas_112 (fun z => absurd z (by rw [h132]; exact nI_ge (a := j) (b := k) (by omega) (by omega))) (fun _ => ?_)
                    refine ca_iload hX (q := 117) rfl rfl dX6_whatWas_115 ?_
                    refine ca_aload_n hX (q := 118) 0 rfl rfl rfl dX6_whatWas_117 ?_
                    refine ca_getf hX (q := 121) cl_X6 10 (by decide) w_fl_X6_31 (by omega) c0 rfl rfl dX6_whatWas_118 ?_
                    refine ca_iload hX (q := 123) rfl rfl dX6_whatWas_121 ?_
                    refine ca_iaN hX (q := 124) (k := j) (by omega) c8 (by decide) rfl (by omega) rfl dX6_whatWas_123 ?_
                    refine ca_if_ge hX (q := 127) 132 rfl rfl dX6_whatWas_124 (fun b124 => ?_) (fun b124 => ?_)
                    · refine ca_aload_n hX (q := 133) 0 rfl rfl rfl dX6_whatWas_132 ?_
                      refine ca_getf hX (q := 136) cl_X6 10 (by decide) w_fl_X6_31 (by omega) c0 rfl rfl dX6_whatWas_133 ?_
                      refine ca_iload hX (q := 138) rfl rfl dX6_whatWas_136 ?_
                      refine ca_iaN hX (q := 139) (k := j) (by omega) c8 (by decide) rfl (by omega) rfl dX6_whatWas_138 ?_
                      refine ca_aload_n hX (q := 140) 0 rfl rfl rfl dX6_whatWas_139 ?_
                      refine ca_getf hX (q := 143) cl_X6 6 (by decide) w_fl_X6_25 (by omega) c0 rfl rfl dX6_whatWas_140 ?_
                      refine ca_iload hX (q := 145) rfl rfl dX6_whatWas_143 ?_
                      refine ca_iaN hX (q := 146) (k := j) (by omega) c6 (by decide) rfl (by omega) rfl dX6_whatWas_145 ?_
                      refine ca_icmp_ne hX (q := 149) 153 rfl rfl dX6_whatWas_146 (fun b146 => ?_) (fun b146 => ?_)
                      · refine ca_iconst hX (q := 154) k_iconst_0 rfl dX6_whatWas_153 ?_
                        refine ca_iand hX (q := 155) rfl dX6_whatWas_154 ?_
                        refine ca_istore hX (q := 157) (ls' := [_, _, _, _, _, _, _, _, _]) (Nat.le_of_ble_eq_true rfl) (Nat.le_of_ble_eq_true rfl) (Or.inr rfl) rfl rfl dX6_whatWas_155 ?_
                        refine ca_iinc hX (q := 160) (ls' := [_, _, _, _, _, _, _, _, _]) k_iconst_1 rfl (Nat.le_of_ble_eq_true rfl) (Or.inr rfl) rfl rfl dX6_whatWas_157 ?_
                        refine ca_goto hX 106 rfl dX6_whatWas_160 ?_
                        have hvj : (if M1 7 j < 0 then 99 else M1 7 j) = M1 7 j := if_neg (Int32.not_lt.mpr b124)
                        rw [show nI j + 1 = nI (j + 1) from nI_add j 1]
                        exact ca_drop hX (ca_le_s rfl (ca_le_s rfl (ca_le_s rfl (ca_le_s rfl (ca_le_s rfl (ca_le_s rfl (ca_le_s rfl (ca_le_s (by rw [raM, hvj, if_neg b146]) (ca_le_s rfl ca_le_0))))))))) (ih2 (j + 1) (by omega))
                      · refine ca_iconst hX (q := 150) k_iconst_1 rfl dX6_whatWas_149 ?_
                        refine ca_goto hX 154 rfl dX6_whatWas_150 ?_
                        refine ca_iand hX (q := 155) rfl dX6_whatWas_154 ?_
                        refine ca_istore hX (q := 157) (ls' := [_, _, _, _, _, _, _, _, _]) (Nat.le_of_ble_eq_true rfl) (Nat.le_of_ble_eq_true rfl) (Or.inr rfl) rfl rfl dX6_whatWas_155 ?_
                        refine ca_iinc hX (q := 160) (ls' := [_, _, _, _, _, _, _, _, _]) k_iconst_1 rfl (Nat.le_of_ble_eq_true rfl) (Or.inr rfl) rfl rfl dX6_whatWas_157 ?_
                        refine ca_goto hX 106 rfl dX6_whatWas_160 ?_
                        have hvj : (if M1 7 j < 0 then 99 else M1 7 j) = M1 7 j := if_neg (Int32.not_lt.mpr b124)
                        rw [show nI j + 1 = nI (j + 1) from nI_add j 1]
                        exact ca_drop hX (ca_le_s rfl (ca_le_s rfl (ca_le_s rfl (ca_le_s rfl (ca_le_s rfl (ca_le_s rfl (ca_le_s rfl (ca_le_s (by rw [raM, hvj, if_pos b146]) (ca_le_s rfl ca_le_0))))))))) (ih2 (j + 1) (by omega))
                    · refine ca_bipush hX (q := 129) k_bipush_99 rfl dX6_whatWas_127 ?_
                      refine ca_goto hX 139 rfl dX6_whatWas_129 ?_
                      refine ca_aload_n hX (q := 140) 0 rfl rfl rfl dX6_whatWas_139 ?_
                      refine ca_getf hX (q := 143) cl_X6 6 (by decide) w_fl_X6_25 (by omega) c0 rfl rfl dX6_whatWas_140 ?_
                      refine ca_iload hX (q := 145) rfl rfl dX6_whatWas_143 ?_
                      refine ca_iaN hX (q := 146) (k := j) (by omega) c6 (by decide) rfl (by omega) rfl dX6_whatWas_145 ?_
                      refine ca_icmp_ne hX (q := 149) 153 rfl rfl dX6_whatWas_146 (fun b146 => ?_) (fun b146 => ?_)
                      · refine ca_iconst hX (q := 154) k_iconst_0 rfl dX6_whatWas_153 ?_
                        refine ca_iand hX (q := 155) rfl dX6_whatWas_154 ?_
                        refine ca_istore hX (q := 157) (ls' := [_, _, _, _, _, _, _, _, _]) (Nat.le_of_ble_eq_true rfl) (Nat.le_of_ble_eq_true rfl) (Or.inr rfl) rfl rfl dX6_whatWas_155 ?_
                        refine ca_iinc hX (q := 160) (ls' := [_, _, _, _, _, _, _, _, _]) k_iconst_1 rfl (Nat.le_of_ble_eq_true rfl) (Or.inr rfl) rfl rfl dX6_whatWas_157 ?_
                        refine ca_goto hX 106 rfl dX6_whatWas_160 ?_
                        have hvj : (if M1 7 j < 0 then 99 else M1 7 j) = 99 := if_pos (Int32.not_le.mp b124)
                        rw [show nI j + 1 = nI (j + 1) from nI_add j 1]
                        exact ca_drop hX (ca_le_s rfl (ca_le_s rfl (ca_le_s rfl (ca_le_s rfl (ca_le_s rfl (ca_le_s rfl (ca_le_s rfl (ca_le_s (by rw [raM, hvj, if_neg b146]) (ca_le_s rfl ca_le_0))))))))) (ih2 (j + 1) (by omega))
                      · refine ca_iconst hX (q := 150) k_iconst_1 rfl dX6_whatWas_149 ?_
                        refine ca_goto hX 154 rfl dX6_whatWas_150 ?_
                        refine ca_iand hX (q := 155) rfl dX6_whatWas_154 ?_
                        refine ca_istore hX (q := 157) (ls' := [_, _, _, _, _, _, _, _, _]) (Nat.le_of_ble_eq_true rfl) (Nat.le_of_ble_eq_true rfl) (Or.inr rfl) rfl rfl dX6_whatWas_155 ?_
                        refine ca_iinc hX (q := 160) (ls' := [_, _, _, _, _, _, _, _, _]) k_iconst_1 rfl (Nat.le_of_ble_eq_true rfl) (Or.inr rfl) rfl rfl dX6_whatWas_157 ?_
                        refine ca_goto hX 106 rfl dX6_whatWas_160 ?_
                        have hvj : (if M1 7 j < 0 then 99 else M1 7 j) = 99 := if_pos (Int32.not_le.mp b124)
                        rw [show nI j + 1 = nI (j + 1) from nI_add j 1]
                        exact ca_drop hX (ca_le_s rfl (ca_le_s rfl (ca_le_s rfl (ca_le_s rfl (ca_le_s rfl (ca_le_s rfl (ca_le_s rfl (ca_le_s (by rw [raM, hvj, if_pos b146]) (ca_le_s rfl ca_le_0))))))))) (ih2 (j + 1) (by omega))
                refine ca_iconst hX (q := 101) k_iconst_1 rfl dX6_whatWas_100 ?_
                refine ca_istore hX (q := 103) (ls' := [_, _, _, _, _, _, _, _, _]) (Nat.le_of_ble_eq_true rfl) (Nat.le_of_ble_eq_true rfl) (Or.inr rfl) rfl rfl dX6_whatWas_101 ?_
                refine ca_iconst hX (q := 104) k_iconst_0 rfl dX6_whatWas_103 ?_
                refine ca_istore hX (q := 106) (ls' := [_, _, _, _, _, _, _, _, _]) (Nat.le_of_ble_eq_true rfl) (Nat.le_of_ble_eq_true rfl) (Or.inr rfl) rfl rfl dX6_whatWas_104 ?_
                exact ca_drop hX (ca_le_s rfl (ca_le_s rfl (ca_le_s rfl (ca_le_s rfl (ca_le_s rfl (ca_le_s rfl (ca_le_s rfl (ca_le_s rfl (ca_le_s rfl ca_le_0))))))))) (loop2 k 0 (by omega))
        refine ca_iconst hX (q := 37) k_iconst_0 rfl dX6_whatWas_36 ?_
        refine ca_istore hX (q := 39) (ls' := [_, _, _, _, _, _, _, _, _]) (Nat.le_of_ble_eq_true rfl) (Nat.le_of_ble_eq_true rfl) (Or.inr rfl) rfl rfl dX6_whatWas_37 ?_
        refine ca_iconst hX (q := 40) k_iconst_0 rfl dX6_whatWas_39 ?_
        refine ca_istore hX (q := 42) (ls' := [_, _, _, _, _, _, _, _, _]) (Nat.le_of_ble_eq_true rfl) (Nat.le_of_ble_eq_true rfl) (Or.inr rfl) rfl rfl dX6_whatWas_40 ?_
        exact ca_drop hX (ca_le_s rfl (ca_le_s rfl (ca_le_s rfl (ca_le_s rfl (ca_le_s rfl (ca_le_s rfl (ca_le_n (ca_le_n (ca_le_n ca_le_0))))))))) (loop (wwN x3) 0 _ M (by omega) hm hke hfr)
      · refine ca_aload_n hX (q := 30) 0 rfl rfl rfl dX6_whatWas_29 ?_
        refine ca_bipush hX (q := 32) k_bipush_m2 rfl dX6_whatWas_30 ?_
        refine ca_cV hX (q := 35) y_X6_no w_ml_X6_51 (by omega) hN c0 (c_X6_no l N g o _ hm ho (-2) 2 (by decide) (by omega)) (by decide) rfl (Nat.le_of_ble_eq_true rfl) rfl dX6_whatWas_32 rfl ?_
        rintro _ g ⟨rfl, hm, hf⟩
        have hke := keM.no hke 2
        have hfr := hfr.tr hf
        refine ca_iret hX rfl rfl rfl rfl dX6_whatWas_35 ?_
        exact re_end2 (by simp [wwA, noA, nk1, nk2, nk3, nk4, nk6, z020, z021, z010, z011, b4, er1, b11, er2, b26]) hfr hm hke
    · refine ca_aload_n hX (q := 15) 0 rfl rfl rfl dX6_whatWas_14 ?_
      refine ca_iconst hX (q := 16) k_iconst_m1 rfl dX6_whatWas_15 ?_
      refine ca_cV hX (q := 19) y_X6_no w_ml_X6_51 (by omega) hN c0 (c_X6_no l N g o _ hm ho (-1) 1 (by decide) (by omega)) (by decide) rfl (Nat.le_of_ble_eq_true rfl) rfl dX6_whatWas_16 rfl ?_
      rintro _ g ⟨rfl, hm, hf⟩
      have hke := keM.no hke 1
      have hfr := hfr.tr hf
      refine ca_iret hX rfl rfl rfl rfl dX6_whatWas_19 ?_
      exact re_end2 (by simp [wwA, noA, nk1, nk2, nk3, nk4, nk6, z020, z021, z010, z011, b4, er1, b11]) hfr hm hke

def dwN (x : Int32) (n : Nat) : Nat := ((x &&& 2147483647).toNatClampNeg / 256) % n
theorem b_m31 : ∀ i, i < 32 → bt 2147483647 i = decide (i < 31) := by decide +kernel
theorem and_nn (x : Int32) : ∃ m, m < 2 ^ 31 ∧ x &&& 2147483647 = nI m := by
  have hb : bt (x &&& 2147483647) 31 = false := by rw [b_and, b_m31 31 (by omega)]; simp
  have h0 : 0 ≤ (x &&& 2147483647).toInt := by
    have : (x &&& 2147483647).toBitVec.msb = false := by rw [BitVec.msb_eq_getLsbD_last]; exact hb
    show 0 ≤ (x &&& 2147483647).toBitVec.toInt
    rw [BitVec.toInt_eq_msb_cond, this]; simp
  have h1 := Int32.toInt_lt (x &&& 2147483647)
  refine ⟨(x &&& 2147483647).toInt.toNat, by omega, Int32.toInt_inj.mp ?_⟩
  rw [nI_toInt (by omega)]; omega
theorem dw_ok (x : Int32) {n : Nat} (h0 : 0 < n) (hn : n < 1000) : (x &&& 2147483647) / 256 - (x &&& 2147483647) / 256 / nI n * nI n = nI (dwN x n) := by
  obtain ⟨k, hk, e⟩ := and_nn x
  unfold dwN
  rw [e, nI_clamp hk, show (256 : Int32) = nI 256 from rfl, pk_div hk (by omega) (by omega), pk_rem (by omega) h0 (by omega)]
theorem dw_lt (x : Int32) {n : Nat} (h0 : 0 < n) : dwN x n < n := Nat.mod_lt _ h0
def loF (h : Nat → Int32) (P : Nat) (w z : Int32) : Nat → Int32 × Int32
  | 0 => (z, 0)
  | i + 1 =>
    let s1 := sdA (loF h P w z i).1
    let s2 := if P = 0 then s1 else sdA s1
    let a := if P = 0 then 0 else dwN s2 P
    (s2, (loF h P w z i).2 + (if w = 0 then wA h P (dwN s1 25) a else nS h (dwN s1 25) (alT a P).1 (alT a P).2 0))
def ltA (M : Nat → Nat → Int32) (P : Nat) (x z w : Int32) : An := if x < 1 then noA M 4 else if 20 < x then noA M 6 else if b01 w = 0 then noA M 2 else ((loF (M 0) P w z x.toNatClampNeg).2, M)
theorem n20_ok {x : Int32} (h1 : 1 ≤ x) (h2 : x ≤ 20) : ∃ k, k ≤ 20 ∧ x = nI k := by
  rw [Int32.le_iff_toInt_le, show (1 : Int32).toInt = 1 from rfl] at h1
  rw [Int32.le_iff_toInt_le, show (20 : Int32).toInt = 20 from rfl] at h2
  refine ⟨x.toInt.toNat, by omega, Int32.toInt_inj.mp ?_⟩
  rw [nI_toInt (by omega)]; omega

set_option maxRecDepth 100000 in
set_option maxHeartbeats 4000000 in
theorem c_X5_drawn (l : Launch) (N : Nat) (g : ca_G) (x : Int32) (n : Nat) (hn0 : 0 < n) (hn : n < 1000) : ca_Ct l yX5_drawn cX5_drawn 2 (some .int) 0 0 0 N 1000000 [.int x, .int (nI n)] g (ca_pi (nI (dwN x n)) g) := by
  refine ca_intro (by decide) (Nat.le_of_ble_eq_true rfl) (fun X hX hN => ?_)
  show X 0 [_, _] [] N 1000000 g
  refine ca_iload_n hX (q := 1) 1 rfl rfl rfl dX5_drawn_0 ?_
  refine ca_iconst hX (q := 2) k_iconst_1 rfl dX5_drawn_1 ?_
  refine ca_icmp_ge hX (q := 5) 9 rfl rfl dX5_drawn_2 (fun _ => ?_) (fun z => absurd (nI_le (a := 1) (b := n) (by omega) (by omega)) z)
  refine ca_iload_n hX (q := 10) 0 rfl rfl rfl dX5_drawn_9 ?_
  refine ca_ldcw hX (q := 13) w_k_X5_256 rfl dX5_drawn_10 ?_
  refine ca_iand hX (q := 14) rfl dX5_drawn_13 ?_
  refine ca_sipush hX (q := 17) k_sipush_256 rfl dX5_drawn_14 ?_
  refine ca_idiv hX (q := 18) (by decide) rfl dX5_drawn_17 ?_
  refine ca_iload_n hX (q := 19) 1 rfl rfl rfl dX5_drawn_18 ?_
  refine ca_irem hX (q := 20) (nI_ne0 (by omega) (by omega)) rfl dX5_drawn_19 ?_
  refine ca_iret hX rfl rfl rfl rfl dX5_drawn_20 ?_
  exact ⟨by rw [dw_ok x hn0 hn], rfl⟩

set_option maxRecDepth 100000 in
set_option maxHeartbeats 4000000 in
theorem c_X6_drawn (l : Launch) (N : Nat) (g : ca_G) (o : Nat) (M : Nat → Nat → Int32) (hm : mdG g o M) (ho : o + 14 ≤ N) (n : Nat) (hn0 : 0 < n) (hn : n < 1000) : ca_Ct l yX6_drawn cX6_drawn 2 (some .int) 0 0 0 N 1000000 [.ref o, .int (nI n)] g (fun rr g' => rr = some (.int (nI (dwN (sdA (M 13 6)) n))) ∧ mdG g' o (upB M 13 6 (sdA (M 13 6))) ∧ frG g g' o (o + 14)) := by
  refine ca_intro (by decide) (Nat.le_of_ble_eq_true rfl) (fun X hX hN => ?_)
  show X 0 [_, _] [] N 1000000 g
  have hfr : frG g g o (o + 14) := frG.rf
  obtain ⟨c0, c1, c2, c3, c4, c5, c6, c7, c8, c9, c10, c11, c12, c13⟩ := id hm
  refine ca_aload_n hX (q := 1) 0 rfl rfl rfl dX6_drawn_0 ?_
  refine ca_aload_n hX (q := 2) 0 rfl rfl rfl dX6_drawn_1 ?_
  refine ca_getf hX (q := 5) cl_X6 19 (by decide) w_fl_X6_193 (by omega) c0 rfl rfl dX6_drawn_2 ?_
  refine ca_ldc hX (q := 7) w_k_X6_196 rfl dX6_drawn_5 ?_
  refine ca_imul hX (q := 8) rfl dX6_drawn_7 ?_
  refine ca_ldc hX (q := 10) w_k_X6_197 rfl dX6_drawn_8 ?_
  refine ca_iadd hX (q := 11) rfl dX6_drawn_10 ?_
  refine ca_puti hX (q := 14) (fs' := [_, _, _, _, _, _, _, _, _, _, _, _, _, _, _, _, _, _, _, _]) cl_X6 19 (by decide) w_fl_X6_193 rfl rfl (by omega) hN c0 (Nat.le_of_ble_eq_true rfl) rfl rfl dX6_drawn_11 (fun g hE hF => ?_)
  have hm := md_s6 hm hE hF
  obtain ⟨c0, c1, c2, c3, c4, c5, c6, c7, c8, c9, c10, c11, c12, c13⟩ := id hm
  have hfr := frG.tr hfr (fun j hj => hF j (by omega))
  refine ca_aload_n hX (q := 15) 0 rfl rfl rfl dX6_drawn_14 ?_
  refine ca_getf hX (q := 18) cl_X6 19 (by decide) w_fl_X6_193 (by omega) c0 rfl rfl dX6_drawn_15 ?_
  refine ca_ldc hX (q := 20) w_k_X6_198 rfl dX6_drawn_18 ?_
  refine ca_iand hX (q := 21) rfl dX6_drawn_20 ?_
  refine ca_sipush hX (q := 24) k_sipush_256 rfl dX6_drawn_21 ?_
  refine ca_idiv hX (q := 25) (by decide) rfl dX6_drawn_24 ?_
  refine ca_iload_n hX (q := 26) 1 rfl rfl rfl dX6_drawn_25 ?_
  refine ca_irem hX (q := 27) (nI_ne0 (by omega) (by omega)) rfl dX6_drawn_26 ?_
  refine ca_iret hX rfl rfl rfl rfl dX6_drawn_27 ?_
  rw [show M 13 6 * 1664525 + 1013904223 = sdA (M 13 6) from rfl] at hm ⊢
  exact ⟨by rw [upB_s, upd_s, dw_ok _ hn0 hn], hm, hfr⟩

set_option maxRecDepth 100000 in
set_option maxHeartbeats 4000000 in
theorem k_lots (l : Launch) (N : Nat) (g0 : ca_G) (M : Nat → Nat → Int32) (t : Nat → Int32) (B : Nat → Nat → Int32) (hx : clX g0 M t B) (hN31 : 31 ≤ N) (P : Nat) (w : wfH (M 0) P) (x1 x2 x3 : Int32) : ca_Ct l yX5_lots cX5_lots 10 (some .int) 5 0 0 N 1000000 [.ref 0, .int x1, .int x2, .int x3] g0 (clP g0 (ltA M P x1 x2 x3)) := by
  refine ca_intro (by decide) (Nat.le_of_ble_eq_true rfl) (fun X hX hN => ?_)
  show X 0 [_, _, _, _, none, none, none, none, none, none] [] N 1000000 g0
  obtain ⟨g, hgg⟩ : ∃ g, g = g0 := ⟨g0, rfl⟩
  rw [← hgg] at hx ⊢
  have hfr : frG g0 g 0 31 := by rw [hgg]; exact frG.rf
  obtain ⟨hc, hh, hkp, htr, hz, htl, hlt, hrw, h30⟩ := id hx
  have h0 := hh.1
  have k0 := hkp.1
  have t0 := htr.1
  have d0 := hz.1
  have l0 := hlt.1
  have w0 := hrw.1
  have hP := w.1
  have hP5 := w.2.1
  have hok := wf_ok w
  refine ca_iload_n hX (q := 1) 1 rfl rfl rfl dX5_lots_0 ?_
  refine ca_iconst hX (q := 2) k_iconst_1 rfl dX5_lots_1 ?_
  refine ca_icmp_ge hX (q := 5) 12 rfl rfl dX5_lots_2 (fun c2 => ?_) (fun c2 => ?_)
  · refine ca_iload_n hX (q := 13) 1 rfl rfl rfl dX5_lots_12 ?_
    refine ca_bipush hX (q := 15) k_bipush_20 rfl dX5_lots_13 ?_
    refine ca_icmp_le hX (q := 18) 25 rfl rfl dX5_lots_15 (fun c15 => ?_) (fun c15 => ?_)
    · obtain ⟨k, hk, rfl⟩ := n20_ok c2 c15
      have ek := nI_clamp (n := k) (by omega)
      refine ca_iload_n hX (q := 26) 3 rfl rfl rfl dX5_lots_25 ?_
      refine ca_if_eq hX (q := 29) 41 rfl rfl dX5_lots_26 (fun c26 => ?_) (fun c26 => ?_)
      · refine ca_aload_n hX (q := 42) 0 rfl rfl rfl dX5_lots_41 ?_
        refine ca_getf hX (q := 45) cl_X5 3 (by decide) w_fl_X5_25 (by omega) hc rfl rfl dX5_lots_42 ?_
        refine ca_aload_n hX (q := 46) 0 rfl rfl rfl dX5_lots_45 ?_
        refine ca_getf hX (q := 49) cl_X5 0 (by decide) w_fl_X5_10 (by omega) hc rfl rfl dX5_lots_46 ?_
        refine ca_cV hX (q := 52) y_X0_lookAt w_ml_X5_159 (by omega) hN d0 (c_X0_lookAt l N g 16 B hz (by omega) 1 (M 0) hh (by omega) (by omega) P hP hP5) (by decide) rfl (Nat.le_of_ble_eq_true rfl) rfl dX5_lots_49 rfl ?_
        rintro _ g ⟨rfl, ⟨B, hz, hk1, hp1, hy1⟩, hf⟩
        have hlo : loM B (M 0) P := ⟨hk1, hp1, hy1⟩
        have hx := hx.bz hf hz
        have hfr := hfr.tr (hf.wd (by omega) (by omega))
        obtain ⟨hc, hh, hkp, htr, hz, htl, hlt, hrw, h30⟩ := id hx
        have h0 := hh.1
        have k0 := hkp.1
        have t0 := htr.1
        have d0 := hz.1
        have l0 := hlt.1
        have w0 := hrw.1
        have hb01 : ¬ b01 x3 = 0 := by (first | (rw [c26]; decide) | (rw [c31]; decide))
        have loop : ∀ (n i : Nat) (g1 : ca_G) (B1 : Nat → Nat → Int32), i + n = k → clX g1 M t B1 → loM B1 (M 0) P → frG g0 g1 0 31 → X 61 [some (.ref 0), some (.int (nI k)), some (.int x2), some (.int x3), some (.int (loF (M 0) P x3 x2 i).1), some (.int (loF (M 0) P x3 x2 i).2), some (.int (nI i)), none, none, none] [] N 1000000 g1 := by
          intro n
          induction n with
          | zero =>
            intro i g B hi hx hlo hfr
            have hib : i = k := by omega
            rw [hib]
            obtain ⟨hc, hh, hkp, htr, hz, htl, hlt, hrw, h30⟩ := id hx
            have h0 := hh.1
            have k0 := hkp.1
            have t0 := htr.1
            have d0 := hz.1
            have l0 := hlt.1
            have w0 := hrw.1
            refine ca_iload hX (q := 63) rfl rfl dX5_lots_61 ?_
            refine ca_iload_n hX (q := 64) 1 rfl rfl rfl dX5_lots_63 ?_
            refine ca_icmp_ge hX (q := 67) 154 rfl rfl dX5_lots_64 (fun _ => ?_) (fun z => absurd (nI_le (Nat.le_refl _) (by omega)) z)
            refine ca_iload hX (q := 156) rfl rfl dX5_lots_154 ?_
            refine ca_iret hX rfl rfl rfl rfl dX5_lots_156 ?_
            exact cl_end (by simp [ltA, c2, (Int32.not_lt.mpr c2), c15, (Int32.not_lt.mpr c15), ek, hb01]) hfr hx
          | succ n ih =>
            intro i g B hi hx hlo hfr
            obtain ⟨hc, hh, hkp, htr, hz, htl, hlt, hrw, h30⟩ := id hx
            have h0 := hh.1
            have k0 := hkp.1
            have t0 := htr.1
            have d0 := hz.1
            have l0 := hlt.1
            have w0 := hrw.1
            refine ca_iload hX (q := 63) rfl rfl dX5_lots_61 ?_
            refine ca_iload_n hX (q := 64) 1 rfl rfl rfl dX5_lots_63 ?_
            refine ca_icmp_ge hX (q := 67) 154 rfl rfl dX5_lots_64 (fun z => absurd z (nI_ge (a := i) (b := k) (by omega) (by omega))) (fun _ => ?_)
            refine ca_iload hX (q := 69) rfl rfl dX5_lots_67 ?_
            refine ca_cSi hX (q := 72) y_X5_seedAfter w_ml_X5_225 hN (c_X5_seedAfter l N g _) (by decide) rfl (Nat.le_of_ble_eq_true rfl) rfl dX5_lots_69 rfl ?_
            refine ca_istore hX (q := 74) (ls' := [_, _, _, _, _, _, _, _, _, _]) (Nat.le_of_ble_eq_true rfl) (Nat.le_of_ble_eq_true rfl) (Or.inr rfl) rfl rfl dX5_lots_72 ?_
            refine ca_iload hX (q := 76) rfl rfl dX5_lots_74 ?_
            refine ca_bipush hX (q := 78) k_bipush_25 rfl dX5_lots_76 ?_
            refine ca_cSi hX (q := 81) y_X5_drawn w_ml_X5_228 hN (c_X5_drawn l N g (sdA (loF (M 0) P x3 x2 i).1) 25 (by omega) (by omega)) (by decide) rfl (Nat.le_of_ble_eq_true rfl) rfl dX5_lots_78 rfl ?_
            refine ca_istore hX (q := 83) (ls' := [_, _, _, _, _, _, _, _, _, _]) (Nat.le_of_ble_eq_true rfl) (Nat.le_of_ble_eq_true rfl) (Or.inr rfl) rfl rfl dX5_lots_81 ?_
            refine ca_iconst hX (q := 84) k_iconst_0 rfl dX5_lots_83 ?_
            refine ca_istore hX (q := 86) (ls' := [_, _, _, _, _, _, _, _, _, _]) (Nat.le_of_ble_eq_true rfl) (Nat.le_of_ble_eq_true rfl) (Or.inr rfl) rfl rfl dX5_lots_84 ?_
            refine ca_aload_n hX (q := 87) 0 rfl rfl rfl dX5_lots_86 ?_
            refine ca_getf hX (q := 90) cl_X5 0 (by decide) w_fl_X5_10 (by omega) hc rfl rfl dX5_lots_87 ?_
            refine ca_getN hX (q := 93) cl_X1 4 (by decide) w_fn_X5_153 (by omega) h0 rfl rfl dX5_lots_90 ?_
            refine ca_if_le hX (q := 96) 117 rfl rfl dX5_lots_93 (fun c93 => ?_) (fun c93 => ?_)
            · have hp0 : P = 0 := (nI_gt0 (by omega)).mp (by rw [← hP]; exact c93)
              refine ca_aload_n hX (q := 118) 0 rfl rfl rfl dX5_lots_117 ?_
              refine ca_iload hX (q := 120) rfl rfl dX5_lots_118 ?_
              refine ca_iload hX (q := 122) rfl rfl dX5_lots_120 ?_
              refine ca_cV hX (q := 125) y_X5_worthBy w_ml_X5_168 (by omega) hN hc (c_X5_worthBy l N g _ hc hN31 B hz (M 0) P hlo hP5 hok (dwN (sdA (loF (M 0) P x3 x2 i).1) 25) (dw_lt _ (by omega)) 0 (by omega)) (by decide) rfl (Nat.le_of_ble_eq_true rfl) rfl dX5_lots_122 rfl ?_
              rintro _ g ⟨rfl, hf, B, hz, hlo, hsp, hfd⟩
              have hx := hx.bz hf hz
              have hfr := hfr.tr (hf.wd (by omega) (by omega))
              obtain ⟨hc, hh, hkp, htr, hz, htl, hlt, hrw, h30⟩ := id hx
              have h0 := hh.1
              have k0 := hkp.1
              have t0 := htr.1
              have d0 := hz.1
              have l0 := hlt.1
              have w0 := hrw.1
              refine ca_istore hX (q := 127) (ls' := [_, _, _, _, _, _, _, _, _, _]) (Nat.le_of_ble_eq_true rfl) (Nat.le_of_ble_eq_true rfl) (Or.inr rfl) rfl rfl dX5_lots_125 ?_
              refine ca_iload hX (q := 129) rfl rfl dX5_lots_127 ?_
              refine ca_iload_n hX (q := 130) 3 rfl rfl rfl dX5_lots_129 ?_
              refine ca_if_ne hX (q := 133) 138 rfl rfl dX5_lots_130 (fun c130 => ?_) (fun c130 => ?_)
              · refine ca_aload_n hX (q := 139) 0 rfl rfl rfl dX5_lots_138 ?_
                refine ca_getf hX (q := 142) cl_X5 3 (by decide) w_fl_X5_25 (by omega) hc rfl rfl dX5_lots_139 ?_
                obtain ⟨L, hL, hL1, hw⟩ := fd_n hfd
                refine ca_cVi hX (q := 145) y_X0_roomsBurnt w_ml_X5_135 (by omega) hN d0 (c_X0_roomsBurnt l N g 16 B hz (by omega) L hL hL1) (by decide) rfl (Nat.le_of_ble_eq_true rfl) rfl dX5_lots_142 rfl ?_
                try rw [hw]
                refine ca_iadd hX (q := 146) rfl dX5_lots_145 ?_
                refine ca_istore hX (q := 148) (ls' := [_, _, _, _, _, _, _, _, _, _]) (Nat.le_of_ble_eq_true rfl) (Nat.le_of_ble_eq_true rfl) (Or.inr rfl) rfl rfl dX5_lots_146 ?_
                refine ca_iinc hX (q := 151) (ls' := [_, _, _, _, _, _, _, _, _, _]) k_iconst_1 rfl (Nat.le_of_ble_eq_true rfl) (Or.inr rfl) rfl rfl dX5_lots_148 ?_
                refine ca_goto hX 61 rfl dX5_lots_151 ?_
                have e1 : (loF (M 0) P x3 x2 (i + 1)) = ((sdA (loF (M 0) P x3 x2 i).1), (loF (M 0) P x3 x2 i).2 + nS (M 0) (dwN (sdA (loF (M 0) P x3 x2 i).1) 25) (alT 0 P).1 (alT 0 P).2 0) := by rw [loF]; simp only [hp0, if_true, if_false, if_neg c130]
                rw [show nI i + 1 = nI (i + 1) from nI_add i 1]
                exact ca_drop hX (ca_le_s rfl (ca_le_s rfl (ca_le_s rfl (ca_le_s rfl (ca_le_s (by rw [e1]) (ca_le_s (by rw [e1]) (ca_le_s rfl (ca_le_n (ca_le_n (ca_le_n ca_le_0)))))))))) (ih (i + 1) _ B (by omega) hx hlo hfr)
              · refine ca_iload hX (q := 135) rfl rfl dX5_lots_133 ?_
                refine ca_goto hX 145 rfl dX5_lots_135 ?_
                try rw [hw]
                refine ca_iadd hX (q := 146) rfl dX5_lots_145 ?_
                refine ca_istore hX (q := 148) (ls' := [_, _, _, _, _, _, _, _, _, _]) (Nat.le_of_ble_eq_true rfl) (Nat.le_of_ble_eq_true rfl) (Or.inr rfl) rfl rfl dX5_lots_146 ?_
                refine ca_iinc hX (q := 151) (ls' := [_, _, _, _, _, _, _, _, _, _]) k_iconst_1 rfl (Nat.le_of_ble_eq_true rfl) (Or.inr rfl) rfl rfl dX5_lots_148 ?_
                refine ca_goto hX 61 rfl dX5_lots_151 ?_
                have e1 : (loF (M 0) P x3 x2 (i + 1)) = ((sdA (loF (M 0) P x3 x2 i).1), (loF (M 0) P x3 x2 i).2 + wA (M 0) P (dwN (sdA (loF (M 0) P x3 x2 i).1) 25) 0) := by rw [loF]; simp only [hp0, if_true, if_false, if_pos c130]
                rw [show nI i + 1 = nI (i + 1) from nI_add i 1]
                exact ca_drop hX (ca_le_s rfl (ca_le_s rfl (ca_le_s rfl (ca_le_s rfl (ca_le_s (by rw [e1]) (ca_le_s (by rw [e1]) (ca_le_s rfl (ca_le_n (ca_le_n (ca_le_n ca_le_0)))))))))) (ih (i + 1) _ B (by omega) hx hlo hfr)
            · have hp0 : ¬ P = 0 := fun z => c93 (by rw [hP, z]; decide)
              have hd := dw_lt (sdA (sdA (loF (M 0) P x3 x2 i).1)) (n := P) (by omega)
              refine ca_iload hX (q := 98) rfl rfl dX5_lots_96 ?_
              refine ca_cSi hX (q := 101) y_X5_seedAfter w_ml_X5_225 hN (c_X5_seedAfter l N g _) (by decide) rfl (Nat.le_of_ble_eq_true rfl) rfl dX5_lots_98 rfl ?_
              refine ca_istore hX (q := 103) (ls' := [_, _, _, _, _, _, _, _, _, _]) (Nat.le_of_ble_eq_true rfl) (Nat.le_of_ble_eq_true rfl) (Or.inr rfl) rfl rfl dX5_lots_101 ?_
              refine ca_iload hX (q := 105) rfl rfl dX5_lots_103 ?_
              refine ca_aload_n hX (q := 106) 0 rfl rfl rfl dX5_lots_105 ?_
              refine ca_getf hX (q := 109) cl_X5 0 (by decide) w_fl_X5_10 (by omega) hc rfl rfl dX5_lots_106 ?_
              refine ca_getN hX (q := 112) cl_X1 4 (by decide) w_fn_X5_153 (by omega) h0 rfl rfl dX5_lots_109 ?_
              rw [hP]
              refine ca_cSi hX (q := 115) y_X5_drawn w_ml_X5_228 hN (c_X5_drawn l N g (sdA (sdA (loF (M 0) P x3 x2 i).1)) P (by omega) (by omega)) (by decide) rfl (Nat.le_of_ble_eq_true rfl) rfl dX5_lots_112 rfl ?_
              refine ca_istore hX (q := 117) (ls' := [_, _, _, _, _, _, _, _, _, _]) (Nat.le_of_ble_eq_true rfl) (Nat.le_of_ble_eq_true rfl) (Or.inr rfl) rfl rfl dX5_lots_115 ?_
              refine ca_aload_n hX (q := 118) 0 rfl rfl rfl dX5_lots_117 ?_
              refine ca_iload hX (q := 120) rfl rfl dX5_lots_118 ?_
              refine ca_iload hX (q := 122) rfl rfl dX5_lots_120 ?_
              refine ca_cV hX (q := 125) y_X5_worthBy w_ml_X5_168 (by omega) hN hc (c_X5_worthBy l N g _ hc hN31 B hz (M 0) P hlo hP5 hok (dwN (sdA (loF (M 0) P x3 x2 i).1) 25) (dw_lt _ (by omega)) (dwN (sdA (sdA (loF (M 0) P x3 x2 i).1)) P) (by omega)) (by decide) rfl (Nat.le_of_ble_eq_true rfl) rfl dX5_lots_122 rfl ?_
              rintro _ g ⟨rfl, hf, B, hz, hlo, hsp, hfd⟩
              have hx := hx.bz hf hz
              have hfr := hfr.tr (hf.wd (by omega) (by omega))
              obtain ⟨hc, hh, hkp, htr, hz, htl, hlt, hrw, h30⟩ := id hx
              have h0 := hh.1
              have k0 := hkp.1
              have t0 := htr.1
              have d0 := hz.1
              have l0 := hlt.1
              have w0 := hrw.1
              refine ca_istore hX (q := 127) (ls' := [_, _, _, _, _, _, _, _, _, _]) (Nat.le_of_ble_eq_true rfl) (Nat.le_of_ble_eq_true rfl) (Or.inr rfl) rfl rfl dX5_lots_125 ?_
              refine ca_iload hX (q := 129) rfl rfl dX5_lots_127 ?_
              refine ca_iload_n hX (q := 130) 3 rfl rfl rfl dX5_lots_129 ?_
              refine ca_if_ne hX (q := 133) 138 rfl rfl dX5_lots_130 (fun c130 => ?_) (fun c130 => ?_)
              · refine ca_aload_n hX (q := 139) 0 rfl rfl rfl dX5_lots_138 ?_
                refine ca_getf hX (q := 142) cl_X5 3 (by decide) w_fl_X5_25 (by omega) hc rfl rfl dX5_lots_139 ?_
                obtain ⟨L, hL, hL1, hw⟩ := fd_n hfd
                refine ca_cVi hX (q := 145) y_X0_roomsBurnt w_ml_X5_135 (by omega) hN d0 (c_X0_roomsBurnt l N g 16 B hz (by omega) L hL hL1) (by decide) rfl (Nat.le_of_ble_eq_true rfl) rfl dX5_lots_142 rfl ?_
                try rw [hw]
                refine ca_iadd hX (q := 146) rfl dX5_lots_145 ?_
                refine ca_istore hX (q := 148) (ls' := [_, _, _, _, _, _, _, _, _, _]) (Nat.le_of_ble_eq_true rfl) (Nat.le_of_ble_eq_true rfl) (Or.inr rfl) rfl rfl dX5_lots_146 ?_
                refine ca_iinc hX (q := 151) (ls' := [_, _, _, _, _, _, _, _, _, _]) k_iconst_1 rfl (Nat.le_of_ble_eq_true rfl) (Or.inr rfl) rfl rfl dX5_lots_148 ?_
                refine ca_goto hX 61 rfl dX5_lots_151 ?_
                have e1 : (loF (M 0) P x3 x2 (i + 1)) = ((sdA (sdA (loF (M 0) P x3 x2 i).1)), (loF (M 0) P x3 x2 i).2 + nS (M 0) (dwN (sdA (loF (M 0) P x3 x2 i).1) 25) (alT (dwN (sdA (sdA (loF (M 0) P x3 x2 i).1)) P) P).1 (alT (dwN (sdA (sdA (loF (M 0) P x3 x2 i).1)) P) P).2 0) := by rw [loF]; simp only [hp0, if_true, if_false, if_neg c130]
                rw [show nI i + 1 = nI (i + 1) from nI_add i 1]
                exact ca_drop hX (ca_le_s rfl (ca_le_s rfl (ca_le_s rfl (ca_le_s rfl (ca_le_s (by rw [e1]) (ca_le_s (by rw [e1]) (ca_le_s rfl (ca_le_n (ca_le_n (ca_le_n ca_le_0)))))))))) (ih (i + 1) _ B (by omega) hx hlo hfr)
              · refine ca_iload hX (q := 135) rfl rfl dX5_lots_133 ?_
                refine ca_goto hX 145 rfl dX5_lots_135 ?_
                try rw [hw]
                refine ca_iadd hX (q := 146) rfl dX5_lots_145 ?_
                refine ca_istore hX (q := 148) (ls' := [_, _, _, _, _, _, _, _, _, _]) (Nat.le_of_ble_eq_true rfl) (Nat.le_of_ble_eq_true rfl) (Or.inr rfl) rfl rfl dX5_lots_146 ?_
                refine ca_iinc hX (q := 151) (ls' := [_, _, _, _, _, _, _, _, _, _]) k_iconst_1 rfl (Nat.le_of_ble_eq_true rfl) (Or.inr rfl) rfl rfl dX5_lots_148 ?_
                refine ca_goto hX 61 rfl dX5_lots_151 ?_
                have e1 : (loF (M 0) P x3 x2 (i + 1)) = ((sdA (sdA (loF (M 0) P x3 x2 i).1)), (loF (M 0) P x3 x2 i).2 + wA (M 0) P (dwN (sdA (loF (M 0) P x3 x2 i).1) 25) (dwN (sdA (sdA (loF (M 0) P x3 x2 i).1)) P)) := by rw [loF]; simp only [hp0, if_true, if_false, if_pos c130]
                rw [show nI i + 1 = nI (i + 1) from nI_add i 1]
                exact ca_drop hX (ca_le_s rfl (ca_le_s rfl (ca_le_s rfl (ca_le_s rfl (ca_le_s (by rw [e1]) (ca_le_s (by rw [e1]) (ca_le_s rfl (ca_le_n (ca_le_n (ca_le_n ca_le_0)))))))))) (ih (i + 1) _ B (by omega) hx hlo hfr)
        refine ca_iload_n hX (q := 53) 2 rfl rfl rfl dX5_lots_52 ?_
        refine ca_istore hX (q := 55) (ls' := [_, _, _, _, _, _, _, _, _, _]) (Nat.le_of_ble_eq_true rfl) (Nat.le_of_ble_eq_true rfl) (Or.inr rfl) rfl rfl dX5_lots_53 ?_
        refine ca_iconst hX (q := 56) k_iconst_0 rfl dX5_lots_55 ?_
        refine ca_istore hX (q := 58) (ls' := [_, _, _, _, _, _, _, _, _, _]) (Nat.le_of_ble_eq_true rfl) (Nat.le_of_ble_eq_true rfl) (Or.inr rfl) rfl rfl dX5_lots_56 ?_
        refine ca_iconst hX (q := 59) k_iconst_0 rfl dX5_lots_58 ?_
        refine ca_istore hX (q := 61) (ls' := [_, _, _, _, _, _, _, _, _, _]) (Nat.le_of_ble_eq_true rfl) (Nat.le_of_ble_eq_true rfl) (Or.inr rfl) rfl rfl dX5_lots_59 ?_
        exact ca_drop hX (ca_le_s rfl (ca_le_s rfl (ca_le_s rfl (ca_le_s rfl (ca_le_s rfl (ca_le_s rfl (ca_le_s rfl (ca_le_n (ca_le_n (ca_le_n ca_le_0)))))))))) (loop k 0 _ B (by omega) hx hlo hfr)
      · refine ca_iload_n hX (q := 30) 3 rfl rfl rfl dX5_lots_29 ?_
        refine ca_iconst hX (q := 31) k_iconst_1 rfl dX5_lots_30 ?_
        refine ca_icmp_eq hX (q := 34) 41 rfl rfl dX5_lots_31 (fun c31 => ?_) (fun c31 => ?_)
        · refine ca_aload_n hX (q := 42) 0 rfl rfl rfl dX5_lots_41 ?_
          refine ca_getf hX (q := 45) cl_X5 3 (by decide) w_fl_X5_25 (by omega) hc rfl rfl dX5_lots_42 ?_
          refine ca_aload_n hX (q := 46) 0 rfl rfl rfl dX5_lots_45 ?_
          refine ca_getf hX (q := 49) cl_X5 0 (by decide) w_fl_X5_10 (by omega) hc rfl rfl dX5_lots_46 ?_
          refine ca_cV hX (q := 52) y_X0_lookAt w_ml_X5_159 (by omega) hN d0 (c_X0_lookAt l N g 16 B hz (by omega) 1 (M 0) hh (by omega) (by omega) P hP hP5) (by decide) rfl (Nat.le_of_ble_eq_true rfl) rfl dX5_lots_49 rfl ?_
          rintro _ g ⟨rfl, ⟨B, hz, hk1, hp1, hy1⟩, hf⟩
          have hlo : loM B (M 0) P := ⟨hk1, hp1, hy1⟩
          have hx := hx.bz hf hz
          have hfr := hfr.tr (hf.wd (by omega) (by omega))
          obtain ⟨hc, hh, hkp, htr, hz, htl, hlt, hrw, h30⟩ := id hx
          have h0 := hh.1
          have k0 := hkp.1
          have t0 := htr.1
          have d0 := hz.1
          have l0 := hlt.1
          have w0 := hrw.1
          have hb01 : ¬ b01 x3 = 0 := by (first | (rw [c26]; decide) | (rw [c31]; decide))
          have loop : ∀ (n i : Nat) (g1 : ca_G) (B1 : Nat → Nat → Int32), i + n = k → clX g1 M t B1 → loM B1 (M 0) P → frG g0 g1 0 31 → X 61 [some (.ref 0), some (.int (nI k)), some (.int x2), some (.int x3), some (.int (loF (M 0) P x3 x2 i).1), some (.int (loF (M 0) P x3 x2 i).2), some (.int (nI i)), none, none, none] [] N 1000000 g1 := by
            intro n
            induction n with
            | zero =>
              intro i g B hi hx hlo hfr
              have hib : i = k := by omega
              rw [hib]
              obtain ⟨hc, hh, hkp, htr, hz, htl, hlt, hrw, h30⟩ := id hx
              have h0 := hh.1
              have k0 := hkp.1
              have t0 := htr.1
              have d0 := hz.1
              have l0 := hlt.1
              have w0 := hrw.1
              refine ca_iload hX (q := 63) rfl rfl dX5_lots_61 ?_
              refine ca_iload_n hX (q := 64) 1 rfl rfl rfl dX5_lots_63 ?_
              refine ca_icmp_ge hX (q := 67) 154 rfl rfl dX5_lots_64 (fun _ => ?_) (fun z => absurd (nI_le (Nat.le_refl _) (by omega)) z)
              refine ca_iload hX (q := 156) rfl rfl dX5_lots_154 ?_
              refine ca_iret hX rfl rfl rfl rfl dX5_lots_156 ?_
              exact cl_end (by simp [ltA, c2, (Int32.not_lt.mpr c2), c15, (Int32.not_lt.mpr c15), ek, hb01]) hfr hx
            | succ n ih =>
              intro i g B hi hx hlo hfr
              obtain ⟨hc, hh, hkp, htr, hz, htl, hlt, hrw, h30⟩ := id hx
              have h0 := hh.1
              have k0 := hkp.1
              have t0 := htr.1
              have d0 := hz.1
              have l0 := hlt.1
              have w0 := hrw.1
              refine ca_iload hX (q := 63) rfl rfl dX5_lots_61 ?_
              refine ca_iload_n hX (q := 64) 1 rfl rfl rfl dX5_lots_63 ?_
              refine ca_icmp_ge hX (q := 67) 154 rfl rfl dX5_lots_64 (fun z => absurd z (nI_ge (a := i) (b := k) (by omega) (by omega))) (fun _ => ?_)
              refine ca_iload hX (q := 69) rfl rfl dX5_lots_67 ?_
              refine ca_cSi hX (q := 72) y_X5_seedAfter w_ml_X5_225 hN (c_X5_seedAfter l N g _) (by decide) rfl (Nat.le_of_ble_eq_true rfl) rfl dX5_lots_69 rfl ?_
              refine ca_istore hX (q := 74) (ls' := [_, _, _, _, _, _, _, _, _, _]) (Nat.le_of_ble_eq_true rfl) (Nat.le_of_ble_eq_true rfl) (Or.inr rfl) rfl rfl dX5_lots_72 ?_
              refine ca_iload hX (q := 76) rfl rfl dX5_lots_74 ?_
              refine ca_bipush hX (q := 78) k_bipush_25 rfl dX5_lots_76 ?_
              refine ca_cSi hX (q := 81) y_X5_drawn w_ml_X5_228 hN (c_X5_drawn l N g (sdA (loF (M 0) P x3 x2 i).1) 25 (by omega) (by omega)) (by decide) rfl (Nat.le_of_ble_eq_true rfl) rfl dX5_lots_78 rfl ?_
              refine ca_istore hX (q := 83) (ls' := [_, _, _, _, _, _, _, _, _, _]) (Nat.le_of_ble_eq_true rfl) (Nat.le_of_ble_eq_true rfl) (Or.inr rfl) rfl rfl dX5_lots_81 ?_
              refine ca_iconst hX (q := 84) k_iconst_0 rfl dX5_lots_83 ?_
              refine ca_istore hX (q := 86) (ls' := [_, _, _, _, _, _, _, _, _, _]) (Nat.le_of_ble_eq_true rfl) (Nat.le_of_ble_eq_true rfl) (Or.inr rfl) rfl rfl dX5_lots_84 ?_
              refine ca_aload_n hX (q := 87) 0 rfl rfl rfl dX5_lots_86 ?_
              refine ca_getf hX (q := 90) cl_X5 0 (by decide) w_fl_X5_10 (by omega) hc rfl rfl dX5_lots_87 ?_
              refine ca_getN hX (q := 93) cl_X1 4 (by decide) w_fn_X5_153 (by omega) h0 rfl rfl dX5_lots_90 ?_
              refine ca_if_le hX (q := 96) 117 rfl rfl dX5_lots_93 (fun c93 => ?_) (fun c93 => ?_)
              · have hp0 : P = 0 := (nI_gt0 (by omega)).mp (by rw [← hP]; exact c93)
                refine ca_aload_n hX (q := 118) 0 rfl rfl rfl dX5_lots_117 ?_
                refine ca_iload hX (q := 120) rfl rfl dX5_lots_118 ?_
                refine ca_iload hX (q := 122) rfl rfl dX5_lots_120 ?_
                refine ca_cV hX (q := 125) y_X5_worthBy w_ml_X5_168 (by omega) hN hc (c_X5_worthBy l N g _ hc hN31 B hz (M 0) P hlo hP5 hok (dwN (sdA (loF (M 0) P x3 x2 i).1) 25) (dw_lt _ (by omega)) 0 (by omega)) (by decide) rfl (Nat.le_of_ble_eq_true rfl) rfl dX5_lots_122 rfl ?_
                rintro _ g ⟨rfl, hf, B, hz, hlo, hsp, hfd⟩
                have hx := hx.bz hf hz
                have hfr := hfr.tr (hf.wd (by omega) (by omega))
                obtain ⟨hc, hh, hkp, htr, hz, htl, hlt, hrw, h30⟩ := id hx
                have h0 := hh.1
                have k0 := hkp.1
                have t0 := htr.1
                have d0 := hz.1
                have l0 := hlt.1
                have w0 := hrw.1
                refine ca_istore hX (q := 127) (ls' := [_, _, _, _, _, _, _, _, _, _]) (Nat.le_of_ble_eq_true rfl) (Nat.le_of_ble_eq_true rfl) (Or.inr rfl) rfl rfl dX5_lots_125 ?_
                refine ca_iload hX (q := 129) rfl rfl dX5_lots_127 ?_
                refine ca_iload_n hX (q := 130) 3 rfl rfl rfl dX5_lots_129 ?_
                refine ca_if_ne hX (q := 133) 138 rfl rfl dX5_lots_130 (fun c130 => ?_) (fun c130 => ?_)
                · refine ca_aload_n hX (q := 139) 0 rfl rfl rfl dX5_lots_138 ?_
                  refine ca_getf hX (q := 142) cl_X5 3 (by decide) w_fl_X5_25 (by omega) hc rfl rfl dX5_lots_139 ?_
                  obtain ⟨L, hL, hL1, hw⟩ := fd_n hfd
                  refine ca_cVi hX (q := 145) y_X0_roomsBurnt w_ml_X5_135 (by omega) hN d0 (c_X0_roomsBurnt l N g 16 B hz (by omega) L hL hL1) (by decide) rfl (Nat.le_of_ble_eq_true rfl) rfl dX5_lots_142 rfl ?_
                  try rw [hw]
                  refine ca_iadd hX (q := 146) rfl dX5_lots_145 ?_
                  refine ca_istore hX (q := 148) (ls' := [_, _, _, _, _, _, _, _, _, _]) (Nat.le_of_ble_eq_true rfl) (Nat.le_of_ble_eq_true rfl) (Or.inr rfl) rfl rfl dX5_lots_146 ?_
                  refine ca_iinc hX (q := 151) (ls' := [_, _, _, _, _, _, _, _, _, _]) k_iconst_1 rfl (Nat.le_of_ble_eq_true rfl) (Or.inr rfl) rfl rfl dX5_lots_148 ?_
                  refine ca_goto hX 61 rfl dX5_lots_151 ?_
                  have e1 : (loF (M 0) P x3 x2 (i + 1)) = ((sdA (loF (M 0) P x3 x2 i).1), (loF (M 0) P x3 x2 i).2 + nS (M 0) (dwN (sdA (loF (M 0) P x3 x2 i).1) 25) (alT 0 P).1 (alT 0 P).2 0) := by rw [loF]; simp only [hp0, if_true, if_false, if_neg c130]
                  rw [show nI i + 1 = nI (i + 1) from nI_add i 1]
                  exact ca_drop hX (ca_le_s rfl (ca_le_s rfl (ca_le_s rfl (ca_le_s rfl (ca_le_s (by rw [e1]) (ca_le_s (by rw [e1]) (ca_le_s rfl (ca_le_n (ca_le_n (ca_le_n ca_le_0)))))))))) (ih (i + 1) _ B (by omega) hx hlo hfr)
                · refine ca_iload hX (q := 135) rfl rfl dX5_lots_133 ?_
                  refine ca_goto hX 145 rfl dX5_lots_135 ?_
                  try rw [hw]
                  refine ca_iadd hX (q := 146) rfl dX5_lots_145 ?_
                  refine ca_istore hX (q := 148) (ls' := [_, _, _, _, _, _, _, _, _, _]) (Nat.le_of_ble_eq_true rfl) (Nat.le_of_ble_eq_true rfl) (Or.inr rfl) rfl rfl dX5_lots_146 ?_
                  refine ca_iinc hX (q := 151) (ls' := [_, _, _, _, _, _, _, _, _, _]) k_iconst_1 rfl (Nat.le_of_ble_eq_true rfl) (Or.inr rfl) rfl rfl dX5_lots_148 ?_
                  refine ca_goto hX 61 rfl dX5_lots_151 ?_
                  have e1 : (loF (M 0) P x3 x2 (i + 1)) = ((sdA (loF (M 0) P x3 x2 i).1), (loF (M 0) P x3 x2 i).2 + wA (M 0) P (dwN (sdA (loF (M 0) P x3 x2 i).1) 25) 0) := by rw [loF]; simp only [hp0, if_true, if_false, if_pos c130]
                  rw [show nI i + 1 = nI (i + 1) from nI_add i 1]
                  exact ca_drop hX (ca_le_s rfl (ca_le_s rfl (ca_le_s rfl (ca_le_s rfl (ca_le_s (by rw [e1]) (ca_le_s (by rw [e1]) (ca_le_s rfl (ca_le_n (ca_le_n (ca_le_n ca_le_0)))))))))) (ih (i + 1) _ B (by omega) hx hlo hfr)
              · have hp0 : ¬ P = 0 := fun z => c93 (by rw [hP, z]; decide)
                have hd := dw_lt (sdA (sdA (loF (M 0) P x3 x2 i).1)) (n := P) (by omega)
                refine ca_iload hX (q := 98) rfl rfl dX5_lots_96 ?_
                refine ca_cSi hX (q := 101) y_X5_seedAfter w_ml_X5_225 hN (c_X5_seedAfter l N g _) (by decide) rfl (Nat.le_of_ble_eq_true rfl) rfl dX5_lots_98 rfl ?_
                refine ca_istore hX (q := 103) (ls' := [_, _, _, _, _, _, _, _, _, _]) (Nat.le_of_ble_eq_true rfl) (Nat.le_of_ble_eq_true rfl) (Or.inr rfl) rfl rfl dX5_lots_101 ?_
                refine ca_iload hX (q := 105) rfl rfl dX5_lots_103 ?_
                refine ca_aload_n hX (q := 106) 0 rfl rfl rfl dX5_lots_105 ?_
                refine ca_getf hX (q := 109) cl_X5 0 (by decide) w_fl_X5_10 (by omega) hc rfl rfl dX5_lots_106 ?_
                refine ca_getN hX (q := 112) cl_X1 4 (by decide) w_fn_X5_153 (by omega) h0 rfl rfl dX5_lots_109 ?_
                rw [hP]
                refine ca_cSi hX (q := 115) y_X5_drawn w_ml_X5_228 hN (c_X5_drawn l N g (sdA (sdA (loF (M 0) P x3 x2 i).1)) P (by omega) (by omega)) (by decide) rfl (Nat.le_of_ble_eq_true rfl) rfl dX5_lots_112 rfl ?_
                refine ca_istore hX (q := 117) (ls' := [_, _, _, _, _, _, _, _, _, _]) (Nat.le_of_ble_eq_true rfl) (Nat.le_of_ble_eq_true rfl) (Or.inr rfl) rfl rfl dX5_lots_115 ?_
                refine ca_aload_n hX (q := 118) 0 rfl rfl rfl dX5_lots_117 ?_
                refine ca_iload hX (q := 120) rfl rfl dX5_lots_118 ?_
                refine ca_iload hX (q := 122) rfl rfl dX5_lots_120 ?_
                refine ca_cV hX (q := 125) y_X5_worthBy w_ml_X5_168 (by omega) hN hc (c_X5_worthBy l N g _ hc hN31 B hz (M 0) P hlo hP5 hok (dwN (sdA (loF (M 0) P x3 x2 i).1) 25) (dw_lt _ (by omega)) (dwN (sdA (sdA (loF (M 0) P x3 x2 i).1)) P) (by omega)) (by decide) rfl (Nat.le_of_ble_eq_true rfl) rfl dX5_lots_122 rfl ?_
                rintro _ g ⟨rfl, hf, B, hz, hlo, hsp, hfd⟩
                have hx := hx.bz hf hz
                have hfr := hfr.tr (hf.wd (by omega) (by omega))
                obtain ⟨hc, hh, hkp, htr, hz, htl, hlt, hrw, h30⟩ := id hx
                have h0 := hh.1
                have k0 := hkp.1
                have t0 := htr.1
                have d0 := hz.1
                have l0 := hlt.1
                have w0 := hrw.1
                refine ca_istore hX (q := 127) (ls' := [_, _, _, _, _, _, _, _, _, _]) (Nat.le_of_ble_eq_true rfl) (Nat.le_of_ble_eq_true rfl) (Or.inr rfl) rfl rfl dX5_lots_125 ?_
                refine ca_iload hX (q := 129) rfl rfl dX5_lots_127 ?_
                refine ca_iload_n hX (q := 130) 3 rfl rfl rfl dX5_lots_129 ?_
                refine ca_if_ne hX (q := 133) 138 rfl rfl dX5_lots_130 (fun c130 => ?_) (fun c130 => ?_)
                · refine ca_aload_n hX (q := 139) 0 rfl rfl rfl dX5_lots_138 ?_
                  refine ca_getf hX (q := 142) cl_X5 3 (by decide) w_fl_X5_25 (by omega) hc rfl rfl dX5_lots_139 ?_
                  obtain ⟨L, hL, hL1, hw⟩ := fd_n hfd
                  refine ca_cVi hX (q := 145) y_X0_roomsBurnt w_ml_X5_135 (by omega) hN d0 (c_X0_roomsBurnt l N g 16 B hz (by omega) L hL hL1) (by decide) rfl (Nat.le_of_ble_eq_true rfl) rfl dX5_lots_142 rfl ?_
                  try rw [hw]
                  refine ca_iadd hX (q := 146) rfl dX5_lots_145 ?_
                  refine ca_istore hX (q := 148) (ls' := [_, _, _, _, _, _, _, _, _, _]) (Nat.le_of_ble_eq_true rfl) (Nat.le_of_ble_eq_true rfl) (Or.inr rfl) rfl rfl dX5_lots_146 ?_
                  refine ca_iinc hX (q := 151) (ls' := [_, _, _, _, _, _, _, _, _, _]) k_iconst_1 rfl (Nat.le_of_ble_eq_true rfl) (Or.inr rfl) rfl rfl dX5_lots_148 ?_
                  refine ca_goto hX 61 rfl dX5_lots_151 ?_
                  have e1 : (loF (M 0) P x3 x2 (i + 1)) = ((sdA (sdA (loF (M 0) P x3 x2 i).1)), (loF (M 0) P x3 x2 i).2 + nS (M 0) (dwN (sdA (loF (M 0) P x3 x2 i).1) 25) (alT (dwN (sdA (sdA (loF (M 0) P x3 x2 i).1)) P) P).1 (alT (dwN (sdA (sdA (loF (M 0) P x3 x2 i).1)) P) P).2 0) := by rw [loF]; simp only [hp0, if_true, if_false, if_neg c130]
                  rw [show nI i + 1 = nI (i + 1) from nI_add i 1]
                  exact ca_drop hX (ca_le_s rfl (ca_le_s rfl (ca_le_s rfl (ca_le_s rfl (ca_le_s (by rw [e1]) (ca_le_s (by rw [e1]) (ca_le_s rfl (ca_le_n (ca_le_n (ca_le_n ca_le_0)))))))))) (ih (i + 1) _ B (by omega) hx hlo hfr)
                · refine ca_iload hX (q := 135) rfl rfl dX5_lots_133 ?_
                  refine ca_goto hX 145 rfl dX5_lots_135 ?_
                  try rw [hw]
                  refine ca_iadd hX (q := 146) rfl dX5_lots_145 ?_
                  refine ca_istore hX (q := 148) (ls' := [_, _, _, _, _, _, _, _, _, _]) (Nat.le_of_ble_eq_true rfl) (Nat.le_of_ble_eq_true rfl) (Or.inr rfl) rfl rfl dX5_lots_146 ?_
                  refine ca_iinc hX (q := 151) (ls' := [_, _, _, _, _, _, _, _, _, _]) k_iconst_1 rfl (Nat.le_of_ble_eq_true rfl) (Or.inr rfl) rfl rfl dX5_lots_148 ?_
                  refine ca_goto hX 61 rfl dX5_lots_151 ?_
                  have e1 : (loF (M 0) P x3 x2 (i + 1)) = ((sdA (sdA (loF (M 0) P x3 x2 i).1)), (loF (M 0) P x3 x2 i).2 + wA (M 0) P (dwN (sdA (loF (M 0) P x3 x2 i).1) 25) (dwN (sdA (sdA (loF (M 0) P x3 x2 i).1)) P)) := by rw [loF]; simp only [hp0, if_true, if_false, if_pos c130]
                  rw [show nI i + 1 = nI (i + 1) from nI_add i 1]
                  exact ca_drop hX (ca_le_s rfl (ca_le_s rfl (ca_le_s rfl (ca_le_s rfl (ca_le_s (by rw [e1]) (ca_le_s (by rw [e1]) (ca_le_s rfl (ca_le_n (ca_le_n (ca_le_n ca_le_0)))))))))) (ih (i + 1) _ B (by omega) hx hlo hfr)
          refine ca_iload_n hX (q := 53) 2 rfl rfl rfl dX5_lots_52 ?_
          refine ca_istore hX (q := 55) (ls' := [_, _, _, _, _, _, _, _, _, _]) (Nat.le_of_ble_eq_true rfl) (Nat.le_of_ble_eq_true rfl) (Or.inr rfl) rfl rfl dX5_lots_53 ?_
          refine ca_iconst hX (q := 56) k_iconst_0 rfl dX5_lots_55 ?_
          refine ca_istore hX (q := 58) (ls' := [_, _, _, _, _, _, _, _, _, _]) (Nat.le_of_ble_eq_true rfl) (Nat.le_of_ble_eq_true rfl) (Or.inr rfl) rfl rfl dX5_lots_56 ?_
          refine ca_iconst hX (q := 59) k_iconst_0 rfl dX5_lots_58 ?_
          refine ca_istore hX (q := 61) (ls' := [_, _, _, _, _, _, _, _, _, _]) (Nat.le_of_ble_eq_true rfl) (Nat.le_of_ble_eq_true rfl) (Or.inr rfl) rfl rfl dX5_lots_59 ?_
          exact ca_drop hX (ca_le_s rfl (ca_le_s rfl (ca_le_s rfl (ca_le_s rfl (ca_le_s rfl (ca_le_s rfl (ca_le_s rfl (ca_le_n (ca_le_n (ca_le_n ca_le_0)))))))))) (loop k 0 _ B (by omega) hx hlo hfr)
        · refine ca_aload_n hX (q := 35) 0 rfl rfl rfl dX5_lots_34 ?_
          refine ca_bipush hX (q := 37) k_bipush_m2 rfl dX5_lots_35 ?_
          refine ca_cV hX (q := 40) y_X5_refuse w_ml_X5_53 (by omega) hN hc (c_X5_refuse l N g _ hc hN31 (M 6) h30 (-2) 2 (by decide) (by omega) (by omega)) (by decide) rfl (Nat.le_of_ble_eq_true rfl) rfl dX5_lots_37 rfl ?_
          rintro _ g ⟨rfl, h30, hf⟩
          have hx := hx.rf hf h30
          have hfr := hfr.tr (hf.wd (by omega) (by omega))
          refine ca_iret hX rfl rfl rfl rfl dX5_lots_40 ?_
          exact cl_end (by simp [ltA, b01, noA, nk1, nk2, nk3, nk4, nk6, c2, (Int32.not_lt.mpr c2), c15, (Int32.not_lt.mpr c15), ek, c26, c31]) hfr hx
    · refine ca_aload_n hX (q := 19) 0 rfl rfl rfl dX5_lots_18 ?_
      refine ca_bipush hX (q := 21) k_bipush_m6 rfl dX5_lots_19 ?_
      refine ca_cV hX (q := 24) y_X5_refuse w_ml_X5_53 (by omega) hN hc (c_X5_refuse l N g _ hc hN31 (M 6) h30 (-6) 6 (by decide) (by omega) (by omega)) (by decide) rfl (Nat.le_of_ble_eq_true rfl) rfl dX5_lots_21 rfl ?_
      rintro _ g ⟨rfl, h30, hf⟩
      have hx := hx.rf hf h30
      have hfr := hfr.tr (hf.wd (by omega) (by omega))
      refine ca_iret hX rfl rfl rfl rfl dX5_lots_24 ?_
      exact cl_end (by simp [ltA, b01, noA, nk1, nk2, nk3, nk4, nk6, c2, (Int32.not_lt.mpr c2), c15, (Int32.not_le.mp c15)]) hfr hx
  · refine ca_aload_n hX (q := 6) 0 rfl rfl rfl dX5_lots_5 ?_
    refine ca_bipush hX (q := 8) k_bipush_m4 rfl dX5_lots_6 ?_
    refine ca_cV hX (q := 11) y_X5_refuse w_ml_X5_53 (by omega) hN hc (c_X5_refuse l N g _ hc hN31 (M 6) h30 (-4) 4 (by decide) (by omega) (by omega)) (by decide) rfl (Nat.le_of_ble_eq_true rfl) rfl dX5_lots_8 rfl ?_
    rintro _ g ⟨rfl, h30, hf⟩
    have hx := hx.rf hf h30
    have hfr := hfr.tr (hf.wd (by omega) (by omega))
    refine ca_iret hX rfl rfl rfl rfl dX5_lots_11 ?_
    exact cl_end (by simp [ltA, b01, noA, nk1, nk2, nk3, nk4, nk6, c2, (Int32.not_le.mp c2)]) hfr hx

set_option maxRecDepth 100000 in
set_option maxHeartbeats 4000000 in
theorem m_lots (l : Launch) (N : Nat) (g0 : ca_G) (o : Nat) (M : Nat → Nat → Int32) (hm : mdG g0 o M) (ho : o + 14 ≤ N) (hs4 : M 13 4 = 0) (P : Nat) (w : wfH (M 0) P) (x1 x2 x3 : Int32) : ca_Ct l yX6_lots cX6_lots 8 (some .int) 5 0 0 N 1000000 [.ref o, .int x1, .int x2, .int x3] g0 (reP o g0 (ltA M P x1 x2 x3)) := by
  refine ca_intro (by decide) (Nat.le_of_ble_eq_true rfl) (fun X hX hN => ?_)
  show X 0 [_, _, _, _, none, none, none, none] [] N 1000000 g0
  obtain ⟨g, hgg⟩ : ∃ g, g = g0 := ⟨g0, rfl⟩
  rw [← hgg] at hm ⊢
  have hfr : frG g0 g o (o + 14) := by rw [hgg]; exact frG.rf
  have hke := keM.rf hs4
  obtain ⟨c0, c1, c2, c3, c4, c5, c6, c7, c8, c9, c10, c11, c12, c13⟩ := id hm
  have hP := w.1
  have hP5 := w.2.1
  have hok := wf_ok w
  refine ca_iload_n hX (q := 1) 1 rfl rfl rfl dX6_lots_0 ?_
  refine ca_iconst hX (q := 2) k_iconst_1 rfl dX6_lots_1 ?_
  refine ca_icmp_ge hX (q := 5) 12 rfl rfl dX6_lots_2 (fun b2 => ?_) (fun b2 => ?_)
  · refine ca_iload_n hX (q := 13) 1 rfl rfl rfl dX6_lots_12 ?_
    refine ca_bipush hX (q := 15) k_bipush_20 rfl dX6_lots_13 ?_
    refine ca_icmp_le hX (q := 18) 25 rfl rfl dX6_lots_15 (fun b15 => ?_) (fun b15 => ?_)
    · obtain ⟨k, hk, rfl⟩ := n20_ok b2 b15
      have ek := nI_clamp (n := k) (by omega)
      refine ca_iload_n hX (q := 26) 3 rfl rfl rfl dX6_lots_25 ?_
      refine ca_iconst hX (q := 27) k_iconst_0 rfl dX6_lots_26 ?_
      refine ca_iconst hX (q := 28) k_iconst_1 rfl dX6_lots_27 ?_
      refine ca_cSi hX (q := 31) y_X6_isIn w_ml_X6_55 hN (c_R_is01 l N g _) (by decide) rfl (Nat.le_of_ble_eq_true rfl) rfl dX6_lots_28 rfl ?_
      refine ca_if_ne hX (q := 34) 41 rfl rfl dX6_lots_31 (fun b31 => ?_) (fun b31 => ?_)
      · refine ca_aload_n hX (q := 42) 0 rfl rfl rfl dX6_lots_41 ?_
        refine ca_iload_n hX (q := 43) 2 rfl rfl rfl dX6_lots_42 ?_
        refine ca_puti hX (q := 46) (fs' := [_, _, _, _, _, _, _, _, _, _, _, _, _, _, _, _, _, _, _, _]) cl_X6 19 (by decide) w_fl_X6_193 rfl rfl (by omega) hN c0 (Nat.le_of_ble_eq_true rfl) rfl rfl dX6_lots_43 (fun g hE hF => ?_)
        have hm := md_s6 hm hE hF
        obtain ⟨c0, c1, c2, c3, c4, c5, c6, c7, c8, c9, c10, c11, c12, c13⟩ := id hm
        have hfr := frG.tr hfr (fun j hj => hF j (by omega))
        have hke := hke.up (k := 6) x2 (by omega) (by omega)
        have loop : ∀ (n i : Nat) (g1 : ca_G) (M1 : Nat → Nat → Int32), i + n = k → mdG g1 o M1 → keM M M1 → frG g0 g1 o (o + 14) → M1 13 6 = (loF (M 0) P x3 x2 i).1 → X 52 [some (.ref o), some (.int (nI k)), some (.int x2), some (.int x3), some (.int (loF (M 0) P x3 x2 i).2), some (.int (nI i)), none, none] [] N 1000000 g1 := by
          intro n
          induction n with
          | zero =>
            intro i g M1 hi hm hke hfr h6
            have hib : i = k := by omega
            rw [hib]
            obtain ⟨c0, c1, c2, c3, c4, c5, c6, c7, c8, c9, c10, c11, c12, c13⟩ := id hm
            rw [hke.1] at c1
            refine ca_iload hX (q := 54) rfl rfl dX6_lots_52 ?_
            refine ca_iload_n hX (q := 55) 1 rfl rfl rfl dX6_lots_54 ?_
            refine ca_icmp_ge hX (q := 58) 125 rfl rfl dX6_lots_55 (fun _ => ?_) (fun z => absurd (nI_le (Nat.le_refl _) (by omega)) z)
            refine ca_iload hX (q := 127) rfl rfl dX6_lots_125 ?_
            refine ca_iret hX rfl rfl rfl rfl dX6_lots_127 ?_
            exact re_end2 (by simp [ltA, b2, (Int32.not_lt.mpr b2), b15, (Int32.not_lt.mpr b15), ek, b31]) hfr hm hke
          | succ n ih =>
            intro i g M1 hi hm hke hfr h6
            obtain ⟨c0, c1, c2, c3, c4, c5, c6, c7, c8, c9, c10, c11, c12, c13⟩ := id hm
            rw [hke.1] at c1
            refine ca_iload hX (q := 54) rfl rfl dX6_lots_52 ?_
            refine ca_iload_n hX (q := 55) 1 rfl rfl rfl dX6_lots_54 ?_
            refine ca_icmp_ge hX (q := 58) 125 rfl rfl dX6_lots_55 (fun z => absurd z (nI_ge (a := i) (b := k) (by omega) (by omega))) (fun _ => ?_)
            refine ca_aload_n hX (q := 59) 0 rfl rfl rfl dX6_lots_58 ?_
            refine ca_bipush hX (q := 61) k_bipush_25 rfl dX6_lots_59 ?_
            refine ca_cV hX (q := 64) y_X6_drawn w_ml_X6_199 (by omega) hN c0 (c_X6_drawn l N g o M1 hm ho 25 (by omega) (by omega)) (by decide) rfl (Nat.le_of_ble_eq_true rfl) rfl dX6_lots_61 rfl ?_
            rintro _ g ⟨rfl, hm, hf⟩
            rw [h6] at hm ⊢
            have hke := hke.up (k := 6) (sdA (loF (M 0) P x3 x2 i).1) (by omega) (by omega)
            have hfr := hfr.tr hf
            have h6 : upB M1 13 6 (sdA (loF (M 0) P x3 x2 i).1) 13 6 = (sdA (loF (M 0) P x3 x2 i).1) := by rw [upB_s, upd_s]
            obtain ⟨c0, c1, c2, c3, c4, c5, c6, c7, c8, c9, c10, c11, c12, c13⟩ := id hm
            rw [hke.1] at c1
            refine ca_istore hX (q := 66) (ls' := [_, _, _, _, _, _, _, _]) (Nat.le_of_ble_eq_true rfl) (Nat.le_of_ble_eq_true rfl) (Or.inr rfl) rfl rfl dX6_lots_64 ?_
            refine ca_aload_n hX (q := 67) 0 rfl rfl rfl dX6_lots_66 ?_
            refine ca_aload_n hX (q := 68) 0 rfl rfl rfl dX6_lots_67 ?_
            refine ca_getf hX (q := 71) cl_X6 0 (by decide) w_fl_X6_9 (by omega) c0 rfl rfl dX6_lots_68 ?_
            refine ca_iload hX (q := 73) rfl rfl dX6_lots_71 ?_
            refine ca_aload_n hX (q := 74) 0 rfl rfl rfl dX6_lots_73 ?_
            refine ca_getf hX (q := 77) cl_X6 0 (by decide) w_fl_X6_9 (by omega) c0 rfl rfl dX6_lots_74 ?_
            refine ca_iconst hX (q := 78) k_iconst_0 rfl dX6_lots_77 ?_
            refine ca_iaN hX (q := 79) (k := 0) (by omega) c1 (by decide) (by decide) (by decide) rfl dX6_lots_78 ?_
            refine ca_if_ne hX (q := 82) 86 rfl rfl dX6_lots_79 (fun b79 => ?_) (fun b79 => ?_)
            · have hp0 : ¬ P = 0 := fun z => b79 (by rw [hP, z]; rfl)
              have hd := dw_lt (sdA (sdA (loF (M 0) P x3 x2 i).1)) (n := P) (by omega)
              refine ca_aload_n hX (q := 87) 0 rfl rfl rfl dX6_lots_86 ?_
              refine ca_aload_n hX (q := 88) 0 rfl rfl rfl dX6_lots_87 ?_
              refine ca_getf hX (q := 91) cl_X6 0 (by decide) w_fl_X6_9 (by omega) c0 rfl rfl dX6_lots_88 ?_
              refine ca_iconst hX (q := 92) k_iconst_0 rfl dX6_lots_91 ?_
              refine ca_iaN hX (q := 93) (k := 0) (by omega) c1 (by decide) (by decide) (by decide) rfl dX6_lots_92 ?_
              rw [hP]
              refine ca_cV hX (q := 96) y_X6_drawn w_ml_X6_199 (by omega) hN c0 (c_X6_drawn l N g o _ hm ho P (by omega) (by omega)) (by decide) rfl (Nat.le_of_ble_eq_true rfl) rfl dX6_lots_93 rfl ?_
              rintro _ g ⟨rfl, hm, hf⟩
              rw [h6] at hm ⊢
              have hke := hke.up (k := 6) (sdA (sdA (loF (M 0) P x3 x2 i).1)) (by omega) (by omega)
              have hfr := hfr.tr hf
              have h6 : upB (upB M1 13 6 (sdA (loF (M 0) P x3 x2 i).1)) 13 6 (sdA (sdA (loF (M 0) P x3 x2 i).1)) 13 6 = sdA (sdA (loF (M 0) P x3 x2 i).1) := by rw [upB_s, upd_s]
              obtain ⟨c0, c1, c2, c3, c4, c5, c6, c7, c8, c9, c10, c11, c12, c13⟩ := id hm
              rw [hke.1] at c1
              refine ca_cV hX (q := 99) y_X6_worthBy w_ml_X6_171 (by omega) hN c0 (c_X6_worthBy l N g o _ hm ho (o + 1) (M 0) c1 (by omega) (by omega) P hP hP5 hok (dwN (sdA (loF (M 0) P x3 x2 i).1) 25) (dw_lt _ (by omega)) (dwN (sdA (sdA (loF (M 0) P x3 x2 i).1)) P) (by omega)) (by decide) rfl (Nat.le_of_ble_eq_true rfl) rfl dX6_lots_96 rfl ?_
              rintro _ g ⟨rfl, hf, M1, hm, hrf, e4, ej, e13⟩
              have hke := hke.tr (ke_bu e4 ej e13)
              have hfr := hfr.tr hf
              obtain ⟨c0, c1, c2, c3, c4, c5, c6, c7, c8, c9, c10, c11, c12, c13⟩ := id hm
              rw [hke.1] at c1
              have h6 := (e13 6 (by omega) (by omega)).trans h6
              refine ca_istore hX (q := 101) (ls' := [_, _, _, _, _, _, _, _]) (Nat.le_of_ble_eq_true rfl) (Nat.le_of_ble_eq_true rfl) (Or.inr rfl) rfl rfl dX6_lots_99 ?_
              refine ca_iload hX (q := 103) rfl rfl dX6_lots_101 ?_
              refine ca_iload_n hX (q := 104) 3 rfl rfl rfl dX6_lots_103 ?_
              refine ca_if_ne hX (q := 107) 112 rfl rfl dX6_lots_104 (fun b104 => ?_) (fun b104 => ?_)
              · refine ca_aload_n hX (q := 113) 0 rfl rfl rfl dX6_lots_112 ?_
                have hw := rf_n hrf
                refine ca_cVi hX (q := 116) y_X6_burntMany w_ml_X6_168 (by omega) hN c0 (c_X6_burntMany l N g o M1 hm ho) (by decide) rfl (Nat.le_of_ble_eq_true rfl) rfl dX6_lots_113 rfl ?_
                try rw [hw]
                refine ca_iadd hX (q := 117) rfl dX6_lots_116 ?_
                refine ca_istore hX (q := 119) (ls' := [_, _, _, _, _, _, _, _]) (Nat.le_of_ble_eq_true rfl) (Nat.le_of_ble_eq_true rfl) (Or.inr rfl) rfl rfl dX6_lots_117 ?_
                refine ca_iinc hX (q := 122) (ls' := [_, _, _, _, _, _, _, _]) k_iconst_1 rfl (Nat.le_of_ble_eq_true rfl) (Or.inr rfl) rfl rfl dX6_lots_119 ?_
                refine ca_goto hX 52 rfl dX6_lots_122 ?_
                have e1 : (loF (M 0) P x3 x2 (i + 1)) = ((sdA (sdA (loF (M 0) P x3 x2 i).1)), (loF (M 0) P x3 x2 i).2 + nS (M 0) (dwN (sdA (loF (M 0) P x3 x2 i).1) 25) (alT (dwN (sdA (sdA (loF (M 0) P x3 x2 i).1)) P) P).1 (alT (dwN (sdA (sdA (loF (M 0) P x3 x2 i).1)) P) P).2 0) := by rw [loF]; simp only [hp0, if_true, if_false, if_neg b104]
                rw [show nI i + 1 = nI (i + 1) from nI_add i 1]
                exact ca_drop hX (ca_le_s rfl (ca_le_s rfl (ca_le_s rfl (ca_le_s rfl (ca_le_s (by rw [e1]) (ca_le_s rfl (ca_le_n (ca_le_n ca_le_0)))))))) (ih (i + 1) _ M1 (by omega) hm hke hfr (by rw [e1]; exact h6))
              · refine ca_iload hX (q := 109) rfl rfl dX6_lots_107 ?_
                refine ca_goto hX 116 rfl dX6_lots_109 ?_
                try rw [hw]
                refine ca_iadd hX (q := 117) rfl dX6_lots_116 ?_
                refine ca_istore hX (q := 119) (ls' := [_, _, _, _, _, _, _, _]) (Nat.le_of_ble_eq_true rfl) (Nat.le_of_ble_eq_true rfl) (Or.inr rfl) rfl rfl dX6_lots_117 ?_
                refine ca_iinc hX (q := 122) (ls' := [_, _, _, _, _, _, _, _]) k_iconst_1 rfl (Nat.le_of_ble_eq_true rfl) (Or.inr rfl) rfl rfl dX6_lots_119 ?_
                refine ca_goto hX 52 rfl dX6_lots_122 ?_
                have e1 : (loF (M 0) P x3 x2 (i + 1)) = ((sdA (sdA (loF (M 0) P x3 x2 i).1)), (loF (M 0) P x3 x2 i).2 + wA (M 0) P (dwN (sdA (loF (M 0) P x3 x2 i).1) 25) (dwN (sdA (sdA (loF (M 0) P x3 x2 i).1)) P)) := by rw [loF]; simp only [hp0, if_true, if_false, if_pos b104]
                rw [show nI i + 1 = nI (i + 1) from nI_add i 1]
                exact ca_drop hX (ca_le_s rfl (ca_le_s rfl (ca_le_s rfl (ca_le_s rfl (ca_le_s (by rw [e1]) (ca_le_s rfl (ca_le_n (ca_le_n ca_le_0)))))))) (ih (i + 1) _ M1 (by omega) hm hke hfr (by rw [e1]; exact h6))
            · have hp0 : P = 0 := (nI_eq (b := 0) (by omega) (by omega)).mp (by rw [← hP]; exact b79)
              refine ca_iconst hX (q := 83) k_iconst_0 rfl dX6_lots_82 ?_
              refine ca_goto hX 96 rfl dX6_lots_83 ?_
              refine ca_cV hX (q := 99) y_X6_worthBy w_ml_X6_171 (by omega) hN c0 (c_X6_worthBy l N g o _ hm ho (o + 1) (M 0) c1 (by omega) (by omega) P hP hP5 hok (dwN (sdA (loF (M 0) P x3 x2 i).1) 25) (dw_lt _ (by omega)) 0 (by omega)) (by decide) rfl (Nat.le_of_ble_eq_true rfl) rfl dX6_lots_96 rfl ?_
              rintro _ g ⟨rfl, hf, M1, hm, hrf, e4, ej, e13⟩
              have hke := hke.tr (ke_bu e4 ej e13)
              have hfr := hfr.tr hf
              obtain ⟨c0, c1, c2, c3, c4, c5, c6, c7, c8, c9, c10, c11, c12, c13⟩ := id hm
              rw [hke.1] at c1
              have h6 := (e13 6 (by omega) (by omega)).trans h6
              refine ca_istore hX (q := 101) (ls' := [_, _, _, _, _, _, _, _]) (Nat.le_of_ble_eq_true rfl) (Nat.le_of_ble_eq_true rfl) (Or.inr rfl) rfl rfl dX6_lots_99 ?_
              refine ca_iload hX (q := 103) rfl rfl dX6_lots_101 ?_
              refine ca_iload_n hX (q := 104) 3 rfl rfl rfl dX6_lots_103 ?_
              refine ca_if_ne hX (q := 107) 112 rfl rfl dX6_lots_104 (fun b104 => ?_) (fun b104 => ?_)
              · refine ca_aload_n hX (q := 113) 0 rfl rfl rfl dX6_lots_112 ?_
                have hw := rf_n hrf
                refine ca_cVi hX (q := 116) y_X6_burntMany w_ml_X6_168 (by omega) hN c0 (c_X6_burntMany l N g o M1 hm ho) (by decide) rfl (Nat.le_of_ble_eq_true rfl) rfl dX6_lots_113 rfl ?_
                try rw [hw]
                refine ca_iadd hX (q := 117) rfl dX6_lots_116 ?_
                refine ca_istore hX (q := 119) (ls' := [_, _, _, _, _, _, _, _]) (Nat.le_of_ble_eq_true rfl) (Nat.le_of_ble_eq_true rfl) (Or.inr rfl) rfl rfl dX6_lots_117 ?_
                refine ca_iinc hX (q := 122) (ls' := [_, _, _, _, _, _, _, _]) k_iconst_1 rfl (Nat.le_of_ble_eq_true rfl) (Or.inr rfl) rfl rfl dX6_lots_119 ?_
                refine ca_goto hX 52 rfl dX6_lots_122 ?_
                have e1 : (loF (M 0) P x3 x2 (i + 1)) = ((sdA (loF (M 0) P x3 x2 i).1), (loF (M 0) P x3 x2 i).2 + nS (M 0) (dwN (sdA (loF (M 0) P x3 x2 i).1) 25) (alT 0 P).1 (alT 0 P).2 0) := by rw [loF]; simp only [hp0, if_true, if_false, if_neg b104]
                rw [show nI i + 1 = nI (i + 1) from nI_add i 1]
                exact ca_drop hX (ca_le_s rfl (ca_le_s rfl (ca_le_s rfl (ca_le_s rfl (ca_le_s (by rw [e1]) (ca_le_s rfl (ca_le_n (ca_le_n ca_le_0)))))))) (ih (i + 1) _ M1 (by omega) hm hke hfr (by rw [e1]; exact h6))
              · refine ca_iload hX (q := 109) rfl rfl dX6_lots_107 ?_
                refine ca_goto hX 116 rfl dX6_lots_109 ?_
                try rw [hw]
                refine ca_iadd hX (q := 117) rfl dX6_lots_116 ?_
                refine ca_istore hX (q := 119) (ls' := [_, _, _, _, _, _, _, _]) (Nat.le_of_ble_eq_true rfl) (Nat.le_of_ble_eq_true rfl) (Or.inr rfl) rfl rfl dX6_lots_117 ?_
                refine ca_iinc hX (q := 122) (ls' := [_, _, _, _, _, _, _, _]) k_iconst_1 rfl (Nat.le_of_ble_eq_true rfl) (Or.inr rfl) rfl rfl dX6_lots_119 ?_
                refine ca_goto hX 52 rfl dX6_lots_122 ?_
                have e1 : (loF (M 0) P x3 x2 (i + 1)) = ((sdA (loF (M 0) P x3 x2 i).1), (loF (M 0) P x3 x2 i).2 + wA (M 0) P (dwN (sdA (loF (M 0) P x3 x2 i).1) 25) 0) := by rw [loF]; simp only [hp0, if_true, if_false, if_pos b104]
                rw [show nI i + 1 = nI (i + 1) from nI_add i 1]
                exact ca_drop hX (ca_le_s rfl (ca_le_s rfl (ca_le_s rfl (ca_le_s rfl (ca_le_s (by rw [e1]) (ca_le_s rfl (ca_le_n (ca_le_n ca_le_0)))))))) (ih (i + 1) _ M1 (by omega) hm hke hfr (by rw [e1]; exact h6))
        refine ca_iconst hX (q := 47) k_iconst_0 rfl dX6_lots_46 ?_
        refine ca_istore hX (q := 49) (ls' := [_, _, _, _, _, _, _, _]) (Nat.le_of_ble_eq_true rfl) (Nat.le_of_ble_eq_true rfl) (Or.inr rfl) rfl rfl dX6_lots_47 ?_
        refine ca_iconst hX (q := 50) k_iconst_0 rfl dX6_lots_49 ?_
        refine ca_istore hX (q := 52) (ls' := [_, _, _, _, _, _, _, _]) (Nat.le_of_ble_eq_true rfl) (Nat.le_of_ble_eq_true rfl) (Or.inr rfl) rfl rfl dX6_lots_50 ?_
        exact ca_drop hX (ca_le_s rfl (ca_le_s rfl (ca_le_s rfl (ca_le_s rfl (ca_le_s rfl (ca_le_s rfl (ca_le_n (ca_le_n ca_le_0)))))))) (loop k 0 _ _ (by omega) hm hke hfr (by rw [upB_s, upd_s]; rfl))
      · refine ca_aload_n hX (q := 35) 0 rfl rfl rfl dX6_lots_34 ?_
        refine ca_bipush hX (q := 37) k_bipush_m2 rfl dX6_lots_35 ?_
        refine ca_cV hX (q := 40) y_X6_no w_ml_X6_51 (by omega) hN c0 (c_X6_no l N g o _ hm ho (-2) 2 (by decide) (by omega)) (by decide) rfl (Nat.le_of_ble_eq_true rfl) rfl dX6_lots_37 rfl ?_
        rintro _ g ⟨rfl, hm, hf⟩
        have hke := keM.no hke 2
        have hfr := hfr.tr hf
        refine ca_iret hX rfl rfl rfl rfl dX6_lots_40 ?_
        exact re_end2 (by simp [ltA, noA, nk1, nk2, nk3, nk4, nk6, z020, z021, z010, z011, b2, (Int32.not_lt.mpr b2), b15, (Int32.not_lt.mpr b15), ek, b31]) hfr hm hke
    · refine ca_aload_n hX (q := 19) 0 rfl rfl rfl dX6_lots_18 ?_
      refine ca_bipush hX (q := 21) k_bipush_m6 rfl dX6_lots_19 ?_
      refine ca_cV hX (q := 24) y_X6_no w_ml_X6_51 (by omega) hN c0 (c_X6_no l N g o _ hm ho (-6) 6 (by decide) (by omega)) (by decide) rfl (Nat.le_of_ble_eq_true rfl) rfl dX6_lots_21 rfl ?_
      rintro _ g ⟨rfl, hm, hf⟩
      have hke := keM.no hke 6
      have hfr := hfr.tr hf
      refine ca_iret hX rfl rfl rfl rfl dX6_lots_24 ?_
      exact re_end2 (by simp [ltA, noA, nk1, nk2, nk3, nk4, nk6, z020, z021, z010, z011, b2, (Int32.not_lt.mpr b2), b15, (Int32.not_le.mp b15)]) hfr hm hke
  · refine ca_aload_n hX (q := 6) 0 rfl rfl rfl dX6_lots_5 ?_
    refine ca_bipush hX (q := 8) k_bipush_m4 rfl dX6_lots_6 ?_
    refine ca_cV hX (q := 11) y_X6_no w_ml_X6_51 (by omega) hN c0 (c_X6_no l N g o _ hm ho (-4) 4 (by decide) (by omega)) (by decide) rfl (Nat.le_of_ble_eq_true rfl) rfl dX6_lots_8 rfl ?_
    rintro _ g ⟨rfl, hm, hf⟩
    have hke := keM.no hke 4
    have hfr := hfr.tr hf
    refine ca_iret hX rfl rfl rfl rfl dX6_lots_11 ?_
    exact re_end2 (by simp [ltA, noA, nk1, nk2, nk3, nk4, nk6, z020, z021, z010, z011, b2, (Int32.not_le.mp b2)]) hfr hm hke

