/-! wall, mayWait, leftOut of both -/
def wlF (d : Int32 × Int32) (v : Nat → Int32) (r : Nat) : Nat → Int32 × Int32
  | 0 => d
  | n + 1 => if n = r then wlF d v r n else if v n < (wlF d v r n).2 then (nI n, v n) else wlF d v r n
def wlV (h : Nat → Int32) (P r i : Nat) : Int32 := wA (upd h (2 + i) 4) P r 0
def wlA (M : Nat → Nat → Int32) (P : Nat) (x : Int32) : An := if rmB x = 0 then noA M 1 else ((wlF (-9, wA (M 0) P x.toNatClampNeg 0) (wlV (M 0) P x.toNatClampNeg) x.toNatClampNeg 25).1, M)
theorem wl_wt (h : Nat → Int32) {i : Nat} (hi : i < 25) (r : Nat) (hr : r < 25) : wtH (upd (upd h (2 + i) 4) (27 + i) 0) r = wtH (upd h (2 + i) 4) r := by
  unfold wtH kdH fgH
  rw [upd_n _ _ (show 2 + r ≠ 27 + i by omega)]
  by_cases z : r = i
  · rw [z, upd_s, upd_s, wt_4, wt_4]
  · rw [upd_n _ _ (show 27 + r ≠ 27 + i by omega)]
theorem wl_eq (h : Nat → Int32) {P : Nat} (hP5 : P ≤ 5) {i : Nat} (hi : i < 25) (r a : Nat) : wA (upd (upd h (2 + i) 4) (27 + i) 0) P r a = wA (upd h (2 + i) 4) P r a :=
  wS_congr (fun q hq => upd_n _ _ (by omega)) (fun q hq => wl_wt h hi q hq) (fun p hp q hq => upd_n _ _ (by omega)) r _ _ (fun j hj => al_lt hP5 a j hj) 0
theorem ok_wl2 {h : Nat → Int32} (ho : okH h) (i : Nat) (hi : i < 25) : okH (upd (upd h (2 + i) 4) (27 + i) 0) := fun r hr => by
  rw [wl_wt h hi r hr]; exact ok_wl ho i hi r hr
theorem upd_bk2 (f : Nat → Int32) {j k : Nat} (hjk : j ≠ k) (x y : Int32) : upd (upd (upd (upd f j x) k y) j (f j)) k (f k) = f := by
  funext q
  by_cases h : q = k
  · rw [h, upd_s]
  · rw [upd_n _ _ h]
    by_cases h2 : q = j
    · rw [h2, upd_s]
    · rw [upd_n _ _ h2, upd_n _ _ h, upd_n _ _ h2]
theorem pn_lo (P : Nat) (h : Nat → Int32) {j : Nat} (hj : j < 57) (h1 : j ≠ 1) : ∀ n, pnM P h n j = h j
  | 0 => rfl
  | n + 1 => by rw [pnM, nsM, ngM_lo _ hj, upd_n _ _ h1]; exact pn_lo P h hj h1 n
theorem ok_pn {h : Nat → Int32} (ho : okH h) (P n : Nat) : okH (pnM P h n) := by
  intro r hr
  unfold wtH kdH fgH
  rw [pn_lo P h (by omega) (by omega), pn_lo P h (by omega) (by omega)]; exact ho r hr
def mwM (v : Nat → Int32) (b : Int32) : Nat → Nat → Int32
  | _, 0 => -9
  | i, n + 1 => if b < v i then nI i else mwM v b (i + 1) n
def mwV (h : Nat → Int32) (P r n : Nat) : Int32 := wA (pnM P h n) P r 0
def mwA (M : Nat → Nat → Int32) (P : Nat) (x : Int32) : An := if rmB x = 0 then noA M 1 else (mwM (mwV (M 0) P x.toNatClampNeg) (wA (M 0) P x.toNatClampNeg 0) 1 99, M)

set_option maxRecDepth 100000 in
set_option maxHeartbeats 4000000 in
theorem k_wall (l : Launch) (N : Nat) (g0 : ca_G) (M : Nat → Nat → Int32) (t : Nat → Int32) (B : Nat → Nat → Int32) (hx : clX g0 M t B) (hN31 : 31 ≤ N) (P : Nat) (w : wfH (M 0) P) (x1 : Int32) : ca_Ct l yX5_wall cX5_wall 6 (some .int) 6 0 0 N 1000000 [.ref 0, .int x1] g0 (clP g0 (wlA M P x1)) := by
  refine ca_intro (by decide) (Nat.le_of_ble_eq_true rfl) (fun X hX hN => ?_)
  show X 0 [_, _, none, none, none, none] [] N 1000000 g0
  obtain ⟨g, hgg⟩ : ∃ g, g = g0 := ⟨g0, rfl⟩
  rw [← hgg] at hx ⊢
  have hfr : frG g0 g 0 31 := by rw [hgg]; exact frG.rf
  obtain ⟨hc, hh, hkp, htr, hz, htl, hlt, hrw, h30⟩ := id hx
  have h0 := hh.1
  have k0 := hkp.1
  have t0 := htr.1
  have d0 := hz.1
  have l0 := hlt.1
  have w0 := hrw.1
  have hP := w.1
  have hP5 := w.2.1
  have hok := wf_ok w
  refine ca_iload_n hX (q := 1) 1 rfl rfl rfl dX5_wall_0 ?_
  refine ca_cSi hX (q := 4) y_X5_isRoom w_ml_X5_78 hN (c_X5_isRoom l N g _) (by decide) rfl (Nat.le_of_ble_eq_true rfl) rfl dX5_wall_1 rfl ?_
  refine ca_if_ne hX (q := 7) 13 rfl rfl dX5_wall_4 (fun c4 => ?_) (fun c4 => ?_)
  · obtain ⟨r1, hr1, rfl⟩ := rm_ok c4
    have er1 := nI_clamp (n := r1) (by omega)
    refine ca_aload_n hX (q := 14) 0 rfl rfl rfl dX5_wall_13 ?_
    refine ca_aload_n hX (q := 15) 0 rfl rfl rfl dX5_wall_14 ?_
    refine ca_getf hX (q := 18) cl_X5 0 (by decide) w_fl_X5_10 (by omega) hc rfl rfl dX5_wall_15 ?_
    refine ca_iload_n hX (q := 19) 1 rfl rfl rfl dX5_wall_18 ?_
    refine ca_cV hX (q := 22) y_X5_worthIn w_ml_X5_171 (by omega) hN hc (c_X5_worthIn l N g _ hc hN31 B hz 1 (M 0) hh (by omega) (by omega) P hP hP5 hok r1 hr1) (by decide) rfl (Nat.le_of_ble_eq_true rfl) rfl dX5_wall_19 rfl ?_
    rintro _ g ⟨rfl, hf, B, hz, hlo, hsp, hfd⟩
    have hx := hx.bz hf hz
    have hfr := hfr.tr (hf.wd (by omega) (by omega))
    obtain ⟨hc, hh, hkp, htr, hz, htl, hlt, hrw, h30⟩ := id hx
    have h0 := hh.1
    have k0 := hkp.1
    have t0 := htr.1
    have d0 := hz.1
    have l0 := hlt.1
    have w0 := hrw.1
    refine ca_istore_n hX (q := 23) 2 rfl (ls' := [_, _, _, _, _, _]) (Nat.le_of_ble_eq_true rfl) (Nat.le_of_ble_eq_true rfl) (Or.inr rfl) rfl rfl dX5_wall_22 ?_
    refine ca_bipush hX (q := 25) k_bipush_m9 rfl dX5_wall_23 ?_
    refine ca_istore_n hX (q := 26) 3 rfl (ls' := [_, _, _, _, _, _]) (Nat.le_of_ble_eq_true rfl) (Nat.le_of_ble_eq_true rfl) (Or.inr rfl) rfl rfl dX5_wall_25 ?_
    refine ca_aload_n hX (q := 27) 0 rfl rfl rfl dX5_wall_26 ?_
    refine ca_getf hX (q := 30) cl_X5 2 (by decide) w_fl_X5_19 (by omega) hc rfl rfl dX5_wall_27 ?_
    refine ca_aload_n hX (q := 31) 0 rfl rfl rfl dX5_wall_30 ?_
    refine ca_getf hX (q := 34) cl_X5 0 (by decide) w_fl_X5_10 (by omega) hc rfl rfl dX5_wall_31 ?_
    refine ca_cV hX (q := 37) y_X1_become w_ml_X5_67 (by omega) hN t0 (c_X1_become l N g 11 t htr (by omega) 1 (M 0) hh (by omega) (by omega)) (by decide) rfl (Nat.le_of_ble_eq_true rfl) rfl dX5_wall_34 rfl ?_
    rintro _ g ⟨rfl, hq, hf⟩
    have hx := hx.tr hf hq
    have hfr := hfr.tr (hf.wd (by omega) (by omega))
    obtain ⟨hc, hh, hkp, htr, hz, htl, hlt, hrw, h30⟩ := id hx
    have h0 := hh.1
    have k0 := hkp.1
    have t0 := htr.1
    have d0 := hz.1
    have l0 := hlt.1
    have w0 := hrw.1
    have loop : ∀ (n i : Nat) (g1 : ca_G) (B1 : Nat → Nat → Int32), i + n = 25 → clX g1 M (M 0) B1 → frG g0 g1 0 31 → X 40 [some (.ref 0), some (.int (nI r1)), some (.int (wlF (-9, wA (M 0) P r1 0) (wlV (M 0) P r1) r1 i).2), some (.int (wlF (-9, wA (M 0) P r1 0) (wlV (M 0) P r1) r1 i).1), some (.int (nI i)), none] [] N 1000000 g1 := by
      intro n
      induction n with
      | zero =>
        intro i g B hi hx hfr
        have hib : i = 25 := by omega
        rw [hib]
        obtain ⟨hc, hh, hkp, htr, hz, htl, hlt, hrw, h30⟩ := id hx
        have h0 := hh.1
        have k0 := hkp.1
        have t0 := htr.1
        have d0 := hz.1
        have l0 := hlt.1
        have w0 := hrw.1
        refine ca_iload hX (q := 42) rfl rfl dX5_wall_40 ?_
        refine ca_bipush hX (q := 44) k_bipush_25 rfl dX5_wall_42 ?_
        refine ca_icmp_ge hX (q := 47) 123 rfl rfl dX5_wall_44 (fun _ => ?_) (fun z => absurd (nI_le (a := 25) (b := 25) (by omega) (by omega)) z)
        refine ca_iload_n hX (q := 124) 3 rfl rfl rfl dX5_wall_123 ?_
        refine ca_iret hX rfl rfl rfl rfl dX5_wall_124 ?_
        exact cl_end (by simp [wlA, noA, nk1, nk2, nk3, nk4, nk6, c4, er1]) hfr hx
      | succ n ih =>
        intro i g B hi hx hfr
        obtain ⟨hc, hh, hkp, htr, hz, htl, hlt, hrw, h30⟩ := id hx
        have h0 := hh.1
        have k0 := hkp.1
        have t0 := htr.1
        have d0 := hz.1
        have l0 := hlt.1
        have w0 := hrw.1
        refine ca_iload hX (q := 42) rfl rfl dX5_wall_40 ?_
        refine ca_bipush hX (q := 44) k_bipush_25 rfl dX5_wall_42 ?_
        refine ca_icmp_ge hX (q := 47) 123 rfl rfl dX5_wall_44 (fun z => absurd z (nI_ge (a := i) (b := 25) (by omega) (by omega))) (fun _ => ?_)
        refine ca_iload hX (q := 49) rfl rfl dX5_wall_47 ?_
        refine ca_iload_n hX (q := 50) 1 rfl rfl rfl dX5_wall_49 ?_
        refine ca_icmp_ne hX (q := 53) 56 rfl rfl dX5_wall_50 (fun c50 => ?_) (fun c50 => ?_)
        · have hne : ¬ i = r1 := fun z => c50 (by rw [z])
          refine ca_aload_n hX (q := 57) 0 rfl rfl rfl dX5_wall_56 ?_
          refine ca_getf hX (q := 60) cl_X5 2 (by decide) w_fl_X5_19 (by omega) hc rfl rfl dX5_wall_57 ?_
          refine ca_iload hX (q := 62) rfl rfl dX5_wall_60 ?_
          refine ca_iconst hX (q := 63) k_iconst_4 rfl dX5_wall_62 ?_
          refine ca_iconst hX (q := 64) k_iconst_0 rfl dX5_wall_63 ?_
          refine ca_cV hX (q := 67) y_X1_put w_ml_X5_107 (by omega) hN t0 (c_X1_put l N g 11 (M 0) htr (by omega) i (by omega) 4 0) (by decide) rfl (Nat.le_of_ble_eq_true rfl) rfl dX5_wall_64 rfl ?_
          rintro _ g ⟨rfl, hq, hf⟩
          have hx := hx.tr hf hq
          have hfr := hfr.tr (hf.wd (by omega) (by omega))
          obtain ⟨hc, hh, hkp, htr, hz, htl, hlt, hrw, h30⟩ := id hx
          have h0 := hh.1
          have k0 := hkp.1
          have t0 := htr.1
          have d0 := hz.1
          have l0 := hlt.1
          have w0 := hrw.1
          refine ca_aload_n hX (q := 68) 0 rfl rfl rfl dX5_wall_67 ?_
          refine ca_aload_n hX (q := 69) 0 rfl rfl rfl dX5_wall_68 ?_
          refine ca_getf hX (q := 72) cl_X5 2 (by decide) w_fl_X5_19 (by omega) hc rfl rfl dX5_wall_69 ?_
          refine ca_iload_n hX (q := 73) 1 rfl rfl rfl dX5_wall_72 ?_
          refine ca_cV hX (q := 76) y_X5_worthIn w_ml_X5_171 (by omega) hN hc (c_X5_worthIn l N g _ hc hN31 B hz 11 (upd (upd (M 0) (2 + i) 4) (27 + i) 0) htr (by omega) (by omega) P (by rw [upd_n _ _ (by omega), upd_n _ _ (by omega)]; exact hP) hP5 (ok_wl2 hok i (by omega)) r1 hr1) (by decide) rfl (Nat.le_of_ble_eq_true rfl) rfl dX5_wall_73 rfl ?_
          rintro _ g ⟨rfl, hf, B, hz, hlo, hsp, hfd⟩
          have hx := hx.bz hf hz
          have hfr := hfr.tr (hf.wd (by omega) (by omega))
          obtain ⟨hc, hh, hkp, htr, hz, htl, hlt, hrw, h30⟩ := id hx
          have h0 := hh.1
          have k0 := hkp.1
          have t0 := htr.1
          have d0 := hz.1
          have l0 := hlt.1
          have w0 := hrw.1
          rw [show wS (upd (upd (M 0) (2 + i) 4) (27 + i) 0) r1 (alT 0 P).1 (alT 0 P).2 0 = (wlV (M 0) P r1) i from wl_eq (M 0) hP5 (by omega) r1 0]
          refine ca_istore hX (q := 78) (ls' := [_, _, _, _, _, _]) (Nat.le_of_ble_eq_true rfl) (Nat.le_of_ble_eq_true rfl) (Or.inr rfl) rfl rfl dX5_wall_76 ?_
          refine ca_iload hX (q := 80) rfl rfl dX5_wall_78 ?_
          refine ca_iload_n hX (q := 81) 2 rfl rfl rfl dX5_wall_80 ?_
          refine ca_icmp_ge hX (q := 84) 90 rfl rfl dX5_wall_81 (fun c81 => ?_) (fun c81 => ?_)
          · refine ca_aload_n hX (q := 91) 0 rfl rfl rfl dX5_wall_90 ?_
            refine ca_getf hX (q := 94) cl_X5 2 (by decide) w_fl_X5_19 (by omega) hc rfl rfl dX5_wall_91 ?_
            refine ca_iload hX (q := 96) rfl rfl dX5_wall_94 ?_
            refine ca_aload_n hX (q := 97) 0 rfl rfl rfl dX5_wall_96 ?_
            refine ca_getf hX (q := 100) cl_X5 0 (by decide) w_fl_X5_10 (by omega) hc rfl rfl dX5_wall_97 ?_
            refine ca_iload hX (q := 102) rfl rfl dX5_wall_100 ?_
            refine ca_cVi hX (q := 105) y_X1_kindOf w_ml_X5_82 (by omega) hN h0 (c_X1_kindOf l N g 1 (M 0) hh (by omega) i (by omega)) (by decide) rfl (Nat.le_of_ble_eq_true rfl) rfl dX5_wall_102 rfl ?_
            refine ca_aload_n hX (q := 106) 0 rfl rfl rfl dX5_wall_105 ?_
            refine ca_getf hX (q := 109) cl_X5 0 (by decide) w_fl_X5_10 (by omega) hc rfl rfl dX5_wall_106 ?_
            refine ca_iload hX (q := 111) rfl rfl dX5_wall_109 ?_
            refine ca_cVi hX (q := 114) y_X1_figureOf w_ml_X5_85 (by omega) hN h0 (c_X1_figureOf l N g 1 (M 0) hh (by omega) i (by omega)) (by decide) rfl (Nat.le_of_ble_eq_true rfl) rfl dX5_wall_111 rfl ?_
            refine ca_cV hX (q := 117) y_X1_put w_ml_X5_107 (by omega) hN t0 (c_X1_put l N g 11 (upd (upd (M 0) (2 + i) 4) (27 + i) 0) htr (by omega) i (by omega) (kdH (M 0) i) (fgH (M 0) i)) (by decide) rfl (Nat.le_of_ble_eq_true rfl) rfl dX5_wall_114 rfl ?_
            rintro _ g ⟨rfl, hq, hf⟩
            rw [show kdH (M 0) i = M 0 (2 + i) from rfl, show fgH (M 0) i = M 0 (27 + i) from rfl, upd_bk2 (M 0) (by omega)] at hq
            have hx := hx.tr hf hq
            have hfr := hfr.tr (hf.wd (by omega) (by omega))
            obtain ⟨hc, hh, hkp, htr, hz, htl, hlt, hrw, h30⟩ := id hx
            have h0 := hh.1
            have k0 := hkp.1
            have t0 := htr.1
            have d0 := hz.1
            have l0 := hlt.1
            have w0 := hrw.1
            refine ca_iinc hX (q := 120) (ls' := [_, _, _, _, _, _]) k_iconst_1 rfl (Nat.le_of_ble_eq_true rfl) (Or.inr rfl) rfl rfl dX5_wall_117 ?_
            refine ca_goto hX 40 rfl dX5_wall_120 ?_
            have e1 : wlF (-9, wA (M 0) P r1 0) (wlV (M 0) P r1) r1 (i + 1) = wlF (-9, wA (M 0) P r1 0) (wlV (M 0) P r1) r1 i := by rw [wlF, if_neg hne, if_neg (Int32.not_lt.mpr c81)]
            rw [nI_1]
            exact ca_drop hX (ca_le_s rfl (ca_le_s rfl (ca_le_s (by rw [e1]) (ca_le_s (by rw [e1]) (ca_le_s rfl (ca_le_n ca_le_0)))))) (ih (i + 1) _ B (by omega) hx hfr)
          · refine ca_iload hX (q := 86) rfl rfl dX5_wall_84 ?_
            refine ca_istore_n hX (q := 87) 2 rfl (ls' := [_, _, _, _, _, _]) (Nat.le_of_ble_eq_true rfl) (Nat.le_of_ble_eq_true rfl) (Or.inr rfl) rfl rfl dX5_wall_86 ?_
            refine ca_iload hX (q := 89) rfl rfl dX5_wall_87 ?_
            refine ca_istore_n hX (q := 90) 3 rfl (ls' := [_, _, _, _, _, _]) (Nat.le_of_ble_eq_true rfl) (Nat.le_of_ble_eq_true rfl) (Or.inr rfl) rfl rfl dX5_wall_89 ?_
            refine ca_aload_n hX (q := 91) 0 rfl rfl rfl dX5_wall_90 ?_
            refine ca_getf hX (q := 94) cl_X5 2 (by decide) w_fl_X5_19 (by omega) hc rfl rfl dX5_wall_91 ?_
            refine ca_iload hX (q := 96) rfl rfl dX5_wall_94 ?_
            refine ca_aload_n hX (q := 97) 0 rfl rfl rfl dX5_wall_96 ?_
            refine ca_getf hX (q := 100) cl_X5 0 (by decide) w_fl_X5_10 (by omega) hc rfl rfl dX5_wall_97 ?_
            refine ca_iload hX (q := 102) rfl rfl dX5_wall_100 ?_
            refine ca_cVi hX (q := 105) y_X1_kindOf w_ml_X5_82 (by omega) hN h0 (c_X1_kindOf l N g 1 (M 0) hh (by omega) i (by omega)) (by decide) rfl (Nat.le_of_ble_eq_true rfl) rfl dX5_wall_102 rfl ?_
            refine ca_aload_n hX (q := 106) 0 rfl rfl rfl dX5_wall_105 ?_
            refine ca_getf hX (q := 109) cl_X5 0 (by decide) w_fl_X5_10 (by omega) hc rfl rfl dX5_wall_106 ?_
            refine ca_iload hX (q := 111) rfl rfl dX5_wall_109 ?_
            refine ca_cVi hX (q := 114) y_X1_figureOf w_ml_X5_85 (by omega) hN h0 (c_X1_figureOf l N g 1 (M 0) hh (by omega) i (by omega)) (by decide) rfl (Nat.le_of_ble_eq_true rfl) rfl dX5_wall_111 rfl ?_
            refine ca_cV hX (q := 117) y_X1_put w_ml_X5_107 (by omega) hN t0 (c_X1_put l N g 11 (upd (upd (M 0) (2 + i) 4) (27 + i) 0) htr (by omega) i (by omega) (kdH (M 0) i) (fgH (M 0) i)) (by decide) rfl (Nat.le_of_ble_eq_true rfl) rfl dX5_wall_114 rfl ?_
            rintro _ g ⟨rfl, hq, hf⟩
            rw [show kdH (M 0) i = M 0 (2 + i) from rfl, show fgH (M 0) i = M 0 (27 + i) from rfl, upd_bk2 (M 0) (by omega)] at hq
            have hx := hx.tr hf hq
            have hfr := hfr.tr (hf.wd (by omega) (by omega))
            obtain ⟨hc, hh, hkp, htr, hz, htl, hlt, hrw, h30⟩ := id hx
            have h0 := hh.1
            have k0 := hkp.1
            have t0 := htr.1
            have d0 := hz.1
            have l0 := hlt.1
            have w0 := hrw.1
            refine ca_iinc hX (q := 120) (ls' := [_, _, _, _, _, _]) k_iconst_1 rfl (Nat.le_of_ble_eq_true rfl) (Or.inr rfl) rfl rfl dX5_wall_117 ?_
            refine ca_goto hX 40 rfl dX5_wall_120 ?_
            have e1 : wlF (-9, wA (M 0) P r1 0) (wlV (M 0) P r1) r1 (i + 1) = (nI i, (wlV (M 0) P r1) i) := by rw [wlF, if_neg hne, if_pos (Int32.not_le.mp c81)]
            rw [nI_1]
            exact ca_drop hX (ca_le_s rfl (ca_le_s rfl (ca_le_s (by rw [e1]) (ca_le_s (by rw [e1]) (ca_le_s rfl (ca_le_n ca_le_0)))))) (ih (i + 1) _ B (by omega) hx hfr)
        · have hee : i = r1 := (nI_eq (by omega) (by omega)).mp c50
          refine ca_goto hX 117 rfl dX5_wall_53 ?_
          refine ca_iinc hX (q := 120) (ls' := [_, _, _, _, _, _]) k_iconst_1 rfl (Nat.le_of_ble_eq_true rfl) (Or.inr rfl) rfl rfl dX5_wall_117 ?_
          refine ca_goto hX 40 rfl dX5_wall_120 ?_
          have e1 : wlF (-9, wA (M 0) P r1 0) (wlV (M 0) P r1) r1 (i + 1) = wlF (-9, wA (M 0) P r1 0) (wlV (M 0) P r1) r1 i := by rw [wlF, if_pos hee]
          rw [nI_1]
          exact ca_drop hX (ca_le_s rfl (ca_le_s rfl (ca_le_s (by rw [e1]) (ca_le_s (by rw [e1]) (ca_le_s rfl (ca_le_n ca_le_0)))))) (ih (i + 1) _ B (by omega) hx hfr)
    refine ca_iconst hX (q := 38) k_iconst_0 rfl dX5_wall_37 ?_
    refine ca_istore hX (q := 40) (ls' := [_, _, _, _, _, _]) (Nat.le_of_ble_eq_true rfl) (Nat.le_of_ble_eq_true rfl) (Or.inr rfl) rfl rfl dX5_wall_38 ?_
    exact ca_drop hX (ca_le_s rfl (ca_le_s rfl (ca_le_s rfl (ca_le_s rfl (ca_le_s rfl (ca_le_n ca_le_0)))))) (loop 25 0 _ B (by omega) hx hfr)
  · refine ca_aload_n hX (q := 8) 0 rfl rfl rfl dX5_wall_7 ?_
    refine ca_iconst hX (q := 9) k_iconst_m1 rfl dX5_wall_8 ?_
    refine ca_cV hX (q := 12) y_X5_refuse w_ml_X5_53 (by omega) hN hc (c_X5_refuse l N g _ hc hN31 (M 6) h30 (-1) 1 (by decide) (by omega) (by omega)) (by decide) rfl (Nat.le_of_ble_eq_true rfl) rfl dX5_wall_9 rfl ?_
    rintro _ g ⟨rfl, h30, hf⟩
    have hx := hx.rf hf h30
    have hfr := hfr.tr (hf.wd (by omega) (by omega))
    refine ca_iret hX rfl rfl rfl rfl dX5_wall_12 ?_
    exact cl_end (by simp [wlA, noA, nk1, nk2, nk3, nk4, nk6, c4]) hfr hx

set_option maxRecDepth 100000 in
set_option maxHeartbeats 4000000 in
theorem m_wall (l : Launch) (N : Nat) (g0 : ca_G) (o : Nat) (M : Nat → Nat → Int32) (hm : mdG g0 o M) (ho : o + 14 ≤ N) (hs4 : M 13 4 = 0) (P : Nat) (w : wfH (M 0) P) (x1 : Int32) : ca_Ct l yX6_wall cX6_wall 6 (some .int) 5 0 0 N 1000000 [.ref o, .int x1] g0 (reP o g0 (wlA M P x1)) := by
  refine ca_intro (by decide) (Nat.le_of_ble_eq_true rfl) (fun X hX hN => ?_)
  show X 0 [_, _, none, none, none, none] [] N 1000000 g0
  obtain ⟨g, hgg⟩ : ∃ g, g = g0 := ⟨g0, rfl⟩
  rw [← hgg] at hm ⊢
  have hfr : frG g0 g o (o + 14) := by rw [hgg]; exact frG.rf
  have hke := keM.rf hs4
  obtain ⟨c0, c1, c2, c3, c4, c5, c6, c7, c8, c9, c10, c11, c12, c13⟩ := id hm
  have hP := w.1
  have hP5 := w.2.1
  have hok := wf_ok w
  refine ca_iload_n hX (q := 1) 1 rfl rfl rfl dX6_wall_0 ?_
  refine ca_cSi hX (q := 4) y_X6_isRoom w_ml_X6_138 hN (c_R_isRoom l N g _) (by decide) rfl (Nat.le_of_ble_eq_true rfl) rfl dX6_wall_1 rfl ?_
  refine ca_if_ne hX (q := 7) 13 rfl rfl dX6_wall_4 (fun b4 => ?_) (fun b4 => ?_)
  · obtain ⟨r1, hr1, rfl⟩ := rm_ok b4
    have er1 := nI_clamp (n := r1) (by omega)
    refine ca_bipush hX (q := 15) k_bipush_m9 rfl dX6_wall_13 ?_
    refine ca_istore_n hX (q := 16) 2 rfl (ls' := [_, _, _, _, _, _]) (Nat.le_of_ble_eq_true rfl) (Nat.le_of_ble_eq_true rfl) (Or.inr rfl) rfl rfl dX6_wall_15 ?_
    refine ca_aload_n hX (q := 17) 0 rfl rfl rfl dX6_wall_16 ?_
    refine ca_aload_n hX (q := 18) 0 rfl rfl rfl dX6_wall_17 ?_
    refine ca_getf hX (q := 21) cl_X6 0 (by decide) w_fl_X6_9 (by omega) c0 rfl rfl dX6_wall_18 ?_
    refine ca_iload_n hX (q := 22) 1 rfl rfl rfl dX6_wall_21 ?_
    refine ca_iconst hX (q := 23) k_iconst_0 rfl dX6_wall_22 ?_
    refine ca_cV hX (q := 26) y_X6_worthBy w_ml_X6_171 (by omega) hN c0 (c_X6_worthBy l N g o M hm ho (o + 1) (M 0) c1 (by omega) (by omega) P hP hP5 hok r1 hr1 0 (by omega)) (by decide) rfl (Nat.le_of_ble_eq_true rfl) rfl dX6_wall_23 rfl ?_
    rintro _ g ⟨rfl, hf, M1, hm, hrf, e4, ej, e13⟩
    have hke := hke.tr (ke_bu e4 ej e13)
    have hfr := hfr.tr hf
    obtain ⟨c0, c1, c2, c3, c4, c5, c6, c7, c8, c9, c10, c11, c12, c13⟩ := id hm
    rw [hke.1] at c1
    refine ca_istore_n hX (q := 27) 3 rfl (ls' := [_, _, _, _, _, _]) (Nat.le_of_ble_eq_true rfl) (Nat.le_of_ble_eq_true rfl) (Or.inr rfl) rfl rfl dX6_wall_26 ?_
    have loop : ∀ (n i : Nat) (g1 : ca_G) (M1 : Nat → Nat → Int32), i + n = 25 → mdG g1 o M1 → keM M M1 → frG g0 g1 o (o + 14) → X 30 [some (.ref o), some (.int (nI r1)), some (.int (wlF (-9, wA (M 0) P r1 0) (wlV (M 0) P r1) r1 i).1), some (.int (wlF (-9, wA (M 0) P r1 0) (wlV (M 0) P r1) r1 i).2), some (.int (nI i)), none] [] N 1000000 g1 := by
      intro n
      induction n with
      | zero =>
        intro i g M1 hi hm hke hfr
        have hib : i = 25 := by omega
        rw [hib]
        obtain ⟨c0, c1, c2, c3, c4, c5, c6, c7, c8, c9, c10, c11, c12, c13⟩ := id hm
        rw [hke.1] at c1
        refine ca_iload hX (q := 32) rfl rfl dX6_wall_30 ?_
        refine ca_bipush hX (q := 34) k_bipush_25 rfl dX6_wall_32 ?_
        refine ca_icmp_ge hX (q := 37) 100 rfl rfl dX6_wall_34 (fun _ => ?_) (fun z => absurd (nI_le (a := 25) (b := 25) (by omega) (by omega)) z)
        refine ca_iload_n hX (q := 101) 2 rfl rfl rfl dX6_wall_100 ?_
        refine ca_iret hX rfl rfl rfl rfl dX6_wall_101 ?_
        exact re_end2 (by simp [wlA, noA, nk1, nk2, nk3, nk4, nk6, z020, z021, z010, z011, b4, er1]) hfr hm hke
      | succ n ih =>
        intro i g M1 hi hm hke hfr
        obtain ⟨c0, c1, c2, c3, c4, c5, c6, c7, c8, c9, c10, c11, c12, c13⟩ := id hm
        rw [hke.1] at c1
        refine ca_iload hX (q := 32) rfl rfl dX6_wall_30 ?_
        refine ca_bipush hX (q := 34) k_bipush_25 rfl dX6_wall_32 ?_
        refine ca_icmp_ge hX (q := 37) 100 rfl rfl dX6_wall_34 (fun z => absurd z (nI_ge (a := i) (b := 25) (by omega) (by omega))) (fun _ => ?_)
        refine ca_iload hX (q := 39) rfl rfl dX6_wall_37 ?_
        refine ca_iload_n hX (q := 40) 1 rfl rfl rfl dX6_wall_39 ?_
        refine ca_icmp_ne hX (q := 43) 46 rfl rfl dX6_wall_40 (fun b40 => ?_) (fun b40 => ?_)
        · have hne : ¬ i = r1 := fun z => b40 (by rw [z])
          refine ca_aload_n hX (q := 47) 0 rfl rfl rfl dX6_wall_46 ?_
          refine ca_getf hX (q := 50) cl_X6 0 (by decide) w_fl_X6_9 (by omega) c0 rfl rfl dX6_wall_47 ?_
          refine ca_aload_n hX (q := 51) 0 rfl rfl rfl dX6_wall_50 ?_
          refine ca_getf hX (q := 54) cl_X6 1 (by decide) w_fl_X6_13 (by omega) c0 rfl rfl dX6_wall_51 ?_
          refine ca_cS hX (q := 57) y_X6_lays w_ml_X6_147 hN (c_X6_lays l N g (o + 1) (o + 2) _ _ c1 c2 (by omega) (by omega) (by omega)) (by decide) rfl (Nat.le_of_ble_eq_true rfl) rfl dX6_wall_54 rfl ?_
          rintro _ g ⟨rfl, hE, hF⟩
          refine ca_same hX (f' := M 0) (by omega) hN hE (fun j hj => if_pos hj) (fun g hE2 hF2 => ?_)
          have hm := md_f1 hm hE2 (fun j hj => (hF2 j hj).trans (hF j hj))
          have hke := hke.st (i := 1) (M 0) (by omega)
          obtain ⟨c0, c1, c2, c3, c4, c5, c6, c7, c8, c9, c10, c11, c12, c13⟩ := id hm
          rw [hke.1] at c1
          have hfr := hfr.tr (fun j hj => (hF2 j (by omega)).trans (hF j (by omega)))
          refine ca_aload_n hX (q := 58) 0 rfl rfl rfl dX6_wall_57 ?_
          refine ca_getf hX (q := 61) cl_X6 1 (by decide) w_fl_X6_13 (by omega) c0 rfl rfl dX6_wall_58 ?_
          refine ca_iconst hX (q := 62) k_iconst_2 rfl dX6_wall_61 ?_
          refine ca_iload hX (q := 64) rfl rfl dX6_wall_62 ?_
          refine ca_iadd hX (q := 65) rfl dX6_wall_64 ?_
          refine ca_iconst hX (q := 66) k_iconst_4 rfl dX6_wall_65 ?_
          refine ca_iaS hX (q := 67) (k := 2 + i) (by omega) hN (Nat.le_refl _) c2 (by decide) (nI_add 2 i) (by omega) rfl dX6_wall_66 (fun g hE hF => ?_)
          have hm := md_a1 hm hE hF
          have hke := hke.ar (i := 1) (2 + i) 4 (by omega)
          obtain ⟨c0, c1, c2, c3, c4, c5, c6, c7, c8, c9, c10, c11, c12, c13⟩ := id hm
          rw [hke.1] at c1
          have hfr := frG.tr hfr (fun j hj => hF j (by omega))
          refine ca_aload_n hX (q := 68) 0 rfl rfl rfl dX6_wall_67 ?_
          refine ca_aload_n hX (q := 69) 0 rfl rfl rfl dX6_wall_68 ?_
          refine ca_getf hX (q := 72) cl_X6 1 (by decide) w_fl_X6_13 (by omega) c0 rfl rfl dX6_wall_69 ?_
          refine ca_iload_n hX (q := 73) 1 rfl rfl rfl dX6_wall_72 ?_
          refine ca_iconst hX (q := 74) k_iconst_0 rfl dX6_wall_73 ?_
          refine ca_cV hX (q := 77) y_X6_worthBy w_ml_X6_171 (by omega) hN c0 (c_X6_worthBy l N g o _ hm ho (o + 2) (upd (M 0) (2 + i) 4) c2 (by omega) (by omega) P (by rw [upd_n _ _ (by omega)]; exact hP) hP5 (ok_wl hok i (by omega)) r1 hr1 0 (by omega)) (by decide) rfl (Nat.le_of_ble_eq_true rfl) rfl dX6_wall_74 rfl ?_
          rintro _ g ⟨rfl, hf, M1, hm, hrf, e4, ej, e13⟩
          have hke := hke.tr (ke_bu e4 ej e13)
          have hfr := hfr.tr hf
          obtain ⟨c0, c1, c2, c3, c4, c5, c6, c7, c8, c9, c10, c11, c12, c13⟩ := id hm
          rw [hke.1] at c1
          rw [show wS (upd (M 0) (2 + i) 4) r1 (alT 0 P).1 (alT 0 P).2 0 = (wlV (M 0) P r1) i from rfl]
          refine ca_istore hX (q := 79) (ls' := [_, _, _, _, _, _]) (Nat.le_of_ble_eq_true rfl) (Nat.le_of_ble_eq_true rfl) (Or.inr rfl) rfl rfl dX6_wall_77 ?_
          refine ca_iload hX (q := 81) rfl rfl dX6_wall_79 ?_
          refine ca_iload_n hX (q := 82) 3 rfl rfl rfl dX6_wall_81 ?_
          refine ca_icmp_lt hX (q := 85) 88 rfl rfl dX6_wall_82 (fun b82 => ?_) (fun b82 => ?_)
          · refine ca_iload hX (q := 90) rfl rfl dX6_wall_88 ?_
            refine ca_istore_n hX (q := 91) 2 rfl (ls' := [_, _, _, _, _, _]) (Nat.le_of_ble_eq_true rfl) (Nat.le_of_ble_eq_true rfl) (Or.inr rfl) rfl rfl dX6_wall_90 ?_
            refine ca_iload hX (q := 93) rfl rfl dX6_wall_91 ?_
            refine ca_istore_n hX (q := 94) 3 rfl (ls' := [_, _, _, _, _, _]) (Nat.le_of_ble_eq_true rfl) (Nat.le_of_ble_eq_true rfl) (Or.inr rfl) rfl rfl dX6_wall_93 ?_
            refine ca_iinc hX (q := 97) (ls' := [_, _, _, _, _, _]) k_iconst_1 rfl (Nat.le_of_ble_eq_true rfl) (Or.inr rfl) rfl rfl dX6_wall_94 ?_
            refine ca_goto hX 30 rfl dX6_wall_97 ?_
            have e1 : wlF (-9, wA (M 0) P r1 0) (wlV (M 0) P r1) r1 (i + 1) = (nI i, (wlV (M 0) P r1) i) := by rw [wlF, if_neg hne, if_pos b82]
            rw [nI_1]
            exact ca_drop hX (ca_le_s rfl (ca_le_s rfl (ca_le_s (by rw [e1]) (ca_le_s (by rw [e1]) (ca_le_s rfl (ca_le_n ca_le_0)))))) (ih (i + 1) _ M1 (by omega) hm hke hfr)
          · refine ca_goto hX 94 rfl dX6_wall_85 ?_
            refine ca_iinc hX (q := 97) (ls' := [_, _, _, _, _, _]) k_iconst_1 rfl (Nat.le_of_ble_eq_true rfl) (Or.inr rfl) rfl rfl dX6_wall_94 ?_
            refine ca_goto hX 30 rfl dX6_wall_97 ?_
            have e1 : wlF (-9, wA (M 0) P r1 0) (wlV (M 0) P r1) r1 (i + 1) = wlF (-9, wA (M 0) P r1 0) (wlV (M 0) P r1) r1 i := by rw [wlF, if_neg hne, if_neg b82]
            rw [nI_1]
            exact ca_drop hX (ca_le_s rfl (ca_le_s rfl (ca_le_s (by rw [e1]) (ca_le_s (by rw [e1]) (ca_le_s rfl (ca_le_n ca_le_0)))))) (ih (i + 1) _ M1 (by omega) hm hke hfr)
        · have hee : i = r1 := (nI_eq (by omega) (by omega)).mp b40
          refine ca_goto hX 94 rfl dX6_wall_43 ?_
          refine ca_iinc hX (q := 97) (ls' := [_, _, _, _, _, _]) k_iconst_1 rfl (Nat.le_of_ble_eq_true rfl) (Or.inr rfl) rfl rfl dX6_wall_94 ?_
          refine ca_goto hX 30 rfl dX6_wall_97 ?_
          have e1 : wlF (-9, wA (M 0) P r1 0) (wlV (M 0) P r1) r1 (i + 1) = wlF (-9, wA (M 0) P r1 0) (wlV (M 0) P r1) r1 i := by rw [wlF, if_pos hee]
          rw [nI_1]
          exact ca_drop hX (ca_le_s rfl (ca_le_s rfl (ca_le_s (by rw [e1]) (ca_le_s (by rw [e1]) (ca_le_s rfl (ca_le_n ca_le_0)))))) (ih (i + 1) _ M1 (by omega) hm hke hfr)
    refine ca_iconst hX (q := 28) k_iconst_0 rfl dX6_wall_27 ?_
    refine ca_istore hX (q := 30) (ls' := [_, _, _, _, _, _]) (Nat.le_of_ble_eq_true rfl) (Nat.le_of_ble_eq_true rfl) (Or.inr rfl) rfl rfl dX6_wall_28 ?_
    exact ca_drop hX (ca_le_s rfl (ca_le_s rfl (ca_le_s rfl (ca_le_s rfl (ca_le_s rfl (ca_le_n ca_le_0)))))) (loop 25 0 _ M1 (by omega) hm hke hfr)
  · refine ca_aload_n hX (q := 8) 0 rfl rfl rfl dX6_wall_7 ?_
    refine ca_iconst hX (q := 9) k_iconst_m1 rfl dX6_wall_8 ?_
    refine ca_cV hX (q := 12) y_X6_no w_ml_X6_51 (by omega) hN c0 (c_X6_no l N g o _ hm ho (-1) 1 (by decide) (by omega)) (by decide) rfl (Nat.le_of_ble_eq_true rfl) rfl dX6_wall_9 rfl ?_
    rintro _ g ⟨rfl, hm, hf⟩
    have hke := keM.no hke 1
    have hfr := hfr.tr hf
    refine ca_iret hX rfl rfl rfl rfl dX6_wall_12 ?_
    exact re_end2 (by simp [wlA, noA, nk1, nk2, nk3, nk4, nk6, z020, z021, z010, z011, b4]) hfr hm hke

set_option maxRecDepth 100000 in
set_option maxHeartbeats 4000000 in
theorem k_mayWait (l : Launch) (N : Nat) (g0 : ca_G) (M : Nat → Nat → Int32) (t : Nat → Int32) (B : Nat → Nat → Int32) (hx : clX g0 M t B) (hN31 : 31 ≤ N) (P : Nat) (w : wfH (M 0) P) (x1 : Int32) : ca_Ct l yX5_mayWait cX5_mayWait 4 (some .int) 6 0 0 N 1000000 [.ref 0, .int x1] g0 (clP g0 (mwA M P x1)) := by
  refine ca_intro (by decide) (Nat.le_of_ble_eq_true rfl) (fun X hX hN => ?_)
  show X 0 [_, _, none, none] [] N 1000000 g0
  obtain ⟨g, hgg⟩ : ∃ g, g = g0 := ⟨g0, rfl⟩
  rw [← hgg] at hx ⊢
  have hfr : frG g0 g 0 31 := by rw [hgg]; exact frG.rf
  obtain ⟨hc, hh, hkp, htr, hz, htl, hlt, hrw, h30⟩ := id hx
  have h0 := hh.1
  have k0 := hkp.1
  have t0 := htr.1
  have d0 := hz.1
  have l0 := hlt.1
  have w0 := hrw.1
  have hP := w.1
  have hP5 := w.2.1
  have hok := wf_ok w
  refine ca_iload_n hX (q := 1) 1 rfl rfl rfl dX5_mayWait_0 ?_
  refine ca_cSi hX (q := 4) y_X5_isRoom w_ml_X5_78 hN (c_X5_isRoom l N g _) (by decide) rfl (Nat.le_of_ble_eq_true rfl) rfl dX5_mayWait_1 rfl ?_
  refine ca_if_ne hX (q := 7) 13 rfl rfl dX5_mayWait_4 (fun c4 => ?_) (fun c4 => ?_)
  · obtain ⟨r1, hr1, rfl⟩ := rm_ok c4
    have er1 := nI_clamp (n := r1) (by omega)
    refine ca_aload_n hX (q := 14) 0 rfl rfl rfl dX5_mayWait_13 ?_
    refine ca_aload_n hX (q := 15) 0 rfl rfl rfl dX5_mayWait_14 ?_
    refine ca_getf hX (q := 18) cl_X5 0 (by decide) w_fl_X5_10 (by omega) hc rfl rfl dX5_mayWait_15 ?_
    refine ca_iload_n hX (q := 19) 1 rfl rfl rfl dX5_mayWait_18 ?_
    refine ca_cV hX (q := 22) y_X5_worthIn w_ml_X5_171 (by omega) hN hc (c_X5_worthIn l N g _ hc hN31 B hz 1 (M 0) hh (by omega) (by omega) P hP hP5 hok r1 hr1) (by decide) rfl (Nat.le_of_ble_eq_true rfl) rfl dX5_mayWait_19 rfl ?_
    rintro _ g ⟨rfl, hf, B, hz, hlo, hsp, hfd⟩
    have hx := hx.bz hf hz
    have hfr := hfr.tr (hf.wd (by omega) (by omega))
    obtain ⟨hc, hh, hkp, htr, hz, htl, hlt, hrw, h30⟩ := id hx
    have h0 := hh.1
    have k0 := hkp.1
    have t0 := htr.1
    have d0 := hz.1
    have l0 := hlt.1
    have w0 := hrw.1
    refine ca_istore_n hX (q := 23) 2 rfl (ls' := [_, _, _, _]) (Nat.le_of_ble_eq_true rfl) (Nat.le_of_ble_eq_true rfl) (Or.inr rfl) rfl rfl dX5_mayWait_22 ?_
    refine ca_aload_n hX (q := 24) 0 rfl rfl rfl dX5_mayWait_23 ?_
    refine ca_getf hX (q := 27) cl_X5 2 (by decide) w_fl_X5_19 (by omega) hc rfl rfl dX5_mayWait_24 ?_
    refine ca_aload_n hX (q := 28) 0 rfl rfl rfl dX5_mayWait_27 ?_
    refine ca_getf hX (q := 31) cl_X5 0 (by decide) w_fl_X5_10 (by omega) hc rfl rfl dX5_mayWait_28 ?_
    refine ca_cV hX (q := 34) y_X1_become w_ml_X5_67 (by omega) hN t0 (c_X1_become l N g 11 t htr (by omega) 1 (M 0) hh (by omega) (by omega)) (by decide) rfl (Nat.le_of_ble_eq_true rfl) rfl dX5_mayWait_31 rfl ?_
    rintro _ g ⟨rfl, hq, hf⟩
    have hx := hx.tr hf hq
    have hfr := hfr.tr (hf.wd (by omega) (by omega))
    obtain ⟨hc, hh, hkp, htr, hz, htl, hlt, hrw, h30⟩ := id hx
    have h0 := hh.1
    have k0 := hkp.1
    have t0 := htr.1
    have d0 := hz.1
    have l0 := hlt.1
    have w0 := hrw.1
    have loop : ∀ (n i : Nat) (g1 : ca_G) (B1 : Nat → Nat → Int32), i + n = 99 → clX g1 M (pnM P (M 0) i) B1 → frG g0 g1 0 31 → mwM (mwV (M 0) P r1) (wA (M 0) P r1 0) 1 99 = mwM (mwV (M 0) P r1) (wA (M 0) P r1 0) (i + 1) n → X 36 [some (.ref 0), some (.int (nI r1)), some (.int (wA (M 0) P r1 0)), some (.int (nI (i + 1)))] [] N 1000000 g1 := by
      intro n
      induction n with
      | zero =>
        intro i g B hi hx hfr he
        have hib : i = 99 := by omega
        rw [hib]
        obtain ⟨hc, hh, hkp, htr, hz, htl, hlt, hrw, h30⟩ := id hx
        have h0 := hh.1
        have k0 := hkp.1
        have t0 := htr.1
        have d0 := hz.1
        have l0 := hlt.1
        have w0 := hrw.1
        refine ca_iload_n hX (q := 37) 3 rfl rfl rfl dX5_mayWait_36 ?_
        refine ca_bipush hX (q := 39) k_bipush_99 rfl dX5_mayWait_37 ?_
        refine ca_icmp_gt hX (q := 42) 71 rfl rfl dX5_mayWait_39 (fun _ => ?_) (fun z => absurd (by decide) z)
        refine ca_bipush hX (q := 73) k_bipush_m9 rfl dX5_mayWait_71 ?_
        refine ca_iret hX rfl rfl rfl rfl dX5_mayWait_73 ?_
        have he : mwM (mwV (M 0) P r1) (wA (M 0) P r1 0) 1 99 = -9 := he
        exact cl_end (by simp [mwA, c4, er1, he]) hfr hx
      | succ n ih =>
        intro i g B hi hx hfr he
        obtain ⟨hc, hh, hkp, htr, hz, htl, hlt, hrw, h30⟩ := id hx
        have h0 := hh.1
        have k0 := hkp.1
        have t0 := htr.1
        have d0 := hz.1
        have l0 := hlt.1
        have w0 := hrw.1
        refine ca_iload_n hX (q := 37) 3 rfl rfl rfl dX5_mayWait_36 ?_
        refine ca_bipush hX (q := 39) k_bipush_99 rfl dX5_mayWait_37 ?_
        refine ca_icmp_gt hX (q := 42) 71 rfl rfl dX5_mayWait_39 (fun z => absurd z (fun z => absurd ((nI_ltI (a := 99) (b := i + 1) (by omega) (by omega)).mp z) (by omega))) (fun _ => ?_)
        refine ca_aload_n hX (q := 43) 0 rfl rfl rfl dX5_mayWait_42 ?_
        refine ca_getf hX (q := 46) cl_X5 2 (by decide) w_fl_X5_19 (by omega) hc rfl rfl dX5_mayWait_43 ?_
        refine ca_iconst hX (q := 47) k_iconst_1 rfl dX5_mayWait_46 ?_
        refine ca_cV hX (q := 50) y_X1_passNights w_ml_X5_122 (by omega) hN t0 (c_X1_passNights l N g 11 (pnM P (M 0) i) htr (by omega) P (by rw [pnM_0]; exact hP) hP5 1 (by omega)) (by decide) rfl (Nat.le_of_ble_eq_true rfl) rfl dX5_mayWait_47 rfl ?_
        rintro _ g ⟨rfl, hq, hf⟩
        have hq : hsG g 11 (pnM P (M 0) (i + 1)) := hq
        have hx := hx.tr hf hq
        have hfr := hfr.tr (hf.wd (by omega) (by omega))
        obtain ⟨hc, hh, hkp, htr, hz, htl, hlt, hrw, h30⟩ := id hx
        have h0 := hh.1
        have k0 := hkp.1
        have t0 := htr.1
        have d0 := hz.1
        have l0 := hlt.1
        have w0 := hrw.1
        refine ca_aload_n hX (q := 51) 0 rfl rfl rfl dX5_mayWait_50 ?_
        refine ca_aload_n hX (q := 52) 0 rfl rfl rfl dX5_mayWait_51 ?_
        refine ca_getf hX (q := 55) cl_X5 2 (by decide) w_fl_X5_19 (by omega) hc rfl rfl dX5_mayWait_52 ?_
        refine ca_iload_n hX (q := 56) 1 rfl rfl rfl dX5_mayWait_55 ?_
        refine ca_cV hX (q := 59) y_X5_worthIn w_ml_X5_171 (by omega) hN hc (c_X5_worthIn l N g _ hc hN31 B hz 11 (pnM P (M 0) (i + 1)) htr (by omega) (by omega) P (by rw [pnM_0]; exact hP) hP5 (ok_pn hok P (i + 1)) r1 hr1) (by decide) rfl (Nat.le_of_ble_eq_true rfl) rfl dX5_mayWait_56 rfl ?_
        rintro _ g ⟨rfl, hf, B, hz, hlo, hsp, hfd⟩
        have hx := hx.bz hf hz
        have hfr := hfr.tr (hf.wd (by omega) (by omega))
        obtain ⟨hc, hh, hkp, htr, hz, htl, hlt, hrw, h30⟩ := id hx
        have h0 := hh.1
        have k0 := hkp.1
        have t0 := htr.1
        have d0 := hz.1
        have l0 := hlt.1
        have w0 := hrw.1
        refine ca_iload_n hX (q := 60) 2 rfl rfl rfl dX5_mayWait_59 ?_
        rw [show wS (pnM P (M 0) (i + 1)) r1 (alT 0 P).1 (alT 0 P).2 0 = (mwV (M 0) P r1) (i + 1) from rfl]
        refine ca_icmp_le hX (q := 63) 65 rfl rfl dX5_mayWait_60 (fun c60 => ?_) (fun c60 => ?_)
        · refine ca_iinc hX (q := 68) (ls' := [_, _, _, _]) k_iconst_1 rfl (Nat.le_of_ble_eq_true rfl) (Or.inr rfl) rfl rfl dX5_mayWait_65 ?_
          refine ca_goto hX 36 rfl dX5_mayWait_68 ?_
          have he := he.trans (show mwM (mwV (M 0) P r1) (wA (M 0) P r1 0) (i + 1) (n + 1) = mwM (mwV (M 0) P r1) (wA (M 0) P r1 0) (i + 1 + 1) n by rw [mwM, if_neg (Int32.not_lt.mpr c60)])
          rw [nI_1]
          exact ih (i + 1) _ B (by omega) hx hfr he
        · refine ca_iload_n hX (q := 64) 3 rfl rfl rfl dX5_mayWait_63 ?_
          refine ca_iret hX rfl rfl rfl rfl dX5_mayWait_64 ?_
          have he := he.trans (show mwM (mwV (M 0) P r1) (wA (M 0) P r1 0) (i + 1) (n + 1) = nI (i + 1) by rw [mwM, if_pos (Int32.not_le.mp c60)])
          exact cl_end (by simp [mwA, c4, er1, he]) hfr hx
    refine ca_iconst hX (q := 35) k_iconst_1 rfl dX5_mayWait_34 ?_
    refine ca_istore_n hX (q := 36) 3 rfl (ls' := [_, _, _, _]) (Nat.le_of_ble_eq_true rfl) (Nat.le_of_ble_eq_true rfl) (Or.inr rfl) rfl rfl dX5_mayWait_35 ?_
    exact loop 99 0 _ B (by omega) hx hfr rfl
  · refine ca_aload_n hX (q := 8) 0 rfl rfl rfl dX5_mayWait_7 ?_
    refine ca_iconst hX (q := 9) k_iconst_m1 rfl dX5_mayWait_8 ?_
    refine ca_cV hX (q := 12) y_X5_refuse w_ml_X5_53 (by omega) hN hc (c_X5_refuse l N g _ hc hN31 (M 6) h30 (-1) 1 (by decide) (by omega) (by omega)) (by decide) rfl (Nat.le_of_ble_eq_true rfl) rfl dX5_mayWait_9 rfl ?_
    rintro _ g ⟨rfl, h30, hf⟩
    have hx := hx.rf hf h30
    have hfr := hfr.tr (hf.wd (by omega) (by omega))
    refine ca_iret hX rfl rfl rfl rfl dX5_mayWait_12 ?_
    exact cl_end (by simp [mwA, noA, nk1, nk2, nk3, nk4, nk6, c4]) hfr hx

theorem mw_0 (v : Nat → Int32) : mwM v (v 0) 0 100 = mwM v (v 0) 1 99 := by rw [mwM, if_neg Int32.lt_irrefl]

set_option maxRecDepth 100000 in
set_option maxHeartbeats 4000000 in
theorem m_mayWait (l : Launch) (N : Nat) (g0 : ca_G) (o : Nat) (M : Nat → Nat → Int32) (hm : mdG g0 o M) (ho : o + 14 ≤ N) (hs4 : M 13 4 = 0) (P : Nat) (w : wfH (M 0) P) (x1 : Int32) : ca_Ct l yX6_mayWait cX6_mayWait 4 (some .int) 5 0 0 N 1000000 [.ref o, .int x1] g0 (reP o g0 (mwA M P x1)) := by
  refine ca_intro (by decide) (Nat.le_of_ble_eq_true rfl) (fun X hX hN => ?_)
  show X 0 [_, _, none, none] [] N 1000000 g0
  obtain ⟨g, hgg⟩ : ∃ g, g = g0 := ⟨g0, rfl⟩
  rw [← hgg] at hm ⊢
  have hfr : frG g0 g o (o + 14) := by rw [hgg]; exact frG.rf
  have hke := keM.rf hs4
  obtain ⟨c0, c1, c2, c3, c4, c5, c6, c7, c8, c9, c10, c11, c12, c13⟩ := id hm
  have hP := w.1
  have hP5 := w.2.1
  have hok := wf_ok w
  refine ca_iload_n hX (q := 1) 1 rfl rfl rfl dX6_mayWait_0 ?_
  refine ca_cSi hX (q := 4) y_X6_isRoom w_ml_X6_138 hN (c_R_isRoom l N g _) (by decide) rfl (Nat.le_of_ble_eq_true rfl) rfl dX6_mayWait_1 rfl ?_
  refine ca_if_ne hX (q := 7) 13 rfl rfl dX6_mayWait_4 (fun b4 => ?_) (fun b4 => ?_)
  · obtain ⟨r1, hr1, rfl⟩ := rm_ok b4
    have er1 := nI_clamp (n := r1) (by omega)
    refine ca_aload_n hX (q := 14) 0 rfl rfl rfl dX6_mayWait_13 ?_
    refine ca_aload_n hX (q := 15) 0 rfl rfl rfl dX6_mayWait_14 ?_
    refine ca_getf hX (q := 18) cl_X6 0 (by decide) w_fl_X6_9 (by omega) c0 rfl rfl dX6_mayWait_15 ?_
    refine ca_iload_n hX (q := 19) 1 rfl rfl rfl dX6_mayWait_18 ?_
    refine ca_iconst hX (q := 20) k_iconst_0 rfl dX6_mayWait_19 ?_
    refine ca_cV hX (q := 23) y_X6_worthBy w_ml_X6_171 (by omega) hN c0 (c_X6_worthBy l N g o M hm ho (o + 1) (M 0) c1 (by omega) (by omega) P hP hP5 hok r1 hr1 0 (by omega)) (by decide) rfl (Nat.le_of_ble_eq_true rfl) rfl dX6_mayWait_20 rfl ?_
    rintro _ g ⟨rfl, hf, M1, hm, hrf, e4, ej, e13⟩
    have hke := hke.tr (ke_bu e4 ej e13)
    have hfr := hfr.tr hf
    obtain ⟨c0, c1, c2, c3, c4, c5, c6, c7, c8, c9, c10, c11, c12, c13⟩ := id hm
    rw [hke.1] at c1
    refine ca_istore_n hX (q := 24) 2 rfl (ls' := [_, _, _, _]) (Nat.le_of_ble_eq_true rfl) (Nat.le_of_ble_eq_true rfl) (Or.inr rfl) rfl rfl dX6_mayWait_23 ?_
    refine ca_aload_n hX (q := 25) 0 rfl rfl rfl dX6_mayWait_24 ?_
    refine ca_getf hX (q := 28) cl_X6 0 (by decide) w_fl_X6_9 (by omega) c0 rfl rfl dX6_mayWait_25 ?_
    refine ca_aload_n hX (q := 29) 0 rfl rfl rfl dX6_mayWait_28 ?_
    refine ca_getf hX (q := 32) cl_X6 1 (by decide) w_fl_X6_13 (by omega) c0 rfl rfl dX6_mayWait_29 ?_
    refine ca_cS hX (q := 35) y_X6_lays w_ml_X6_147 hN (c_X6_lays l N g (o + 1) (o + 2) _ _ c1 c2 (by omega) (by omega) (by omega)) (by decide) rfl (Nat.le_of_ble_eq_true rfl) rfl dX6_mayWait_32 rfl ?_
    rintro _ g ⟨rfl, hE, hF⟩
    refine ca_same hX (f' := M 0) (by omega) hN hE (fun j hj => if_pos hj) (fun g hE2 hF2 => ?_)
    have hm := md_f1 hm hE2 (fun j hj => (hF2 j hj).trans (hF j hj))
    have hke := hke.st (i := 1) (M 0) (by omega)
    obtain ⟨c0, c1, c2, c3, c4, c5, c6, c7, c8, c9, c10, c11, c12, c13⟩ := id hm
    rw [hke.1] at c1
    have hfr := hfr.tr (fun j hj => (hF2 j (by omega)).trans (hF j (by omega)))
    have loop : ∀ (n i : Nat) (g1 : ca_G) (M1 : Nat → Nat → Int32), i + n = 100 → mdG g1 o M1 → keM M M1 → frG g0 g1 o (o + 14) → M1 1 = pnM P (M 0) i → mwM (mwV (M 0) P r1) (wA (M 0) P r1 0) 1 99 = mwM (mwV (M 0) P r1) (wA (M 0) P r1 0) i n → X 37 [some (.ref o), some (.int (nI r1)), some (.int (wA (M 0) P r1 0)), some (.int (nI i))] [] N 1000000 g1 := by
      intro n
      induction n with
      | zero =>
        intro i g M1 hi hm hke hfr h1 he
        have hib : i = 100 := by omega
        rw [hib]
        obtain ⟨c0, c1, c2, c3, c4, c5, c6, c7, c8, c9, c10, c11, c12, c13⟩ := id hm
        rw [hke.1] at c1
        rw [h1] at c2
        refine ca_iload_n hX (q := 38) 3 rfl rfl rfl dX6_mayWait_37 ?_
        refine ca_bipush hX (q := 40) k_bipush_99 rfl dX6_mayWait_38 ?_
        refine ca_icmp_gt hX (q := 43) 72 rfl rfl dX6_mayWait_40 (fun _ => ?_) (fun z => absurd (by decide) z)
        refine ca_bipush hX (q := 74) k_bipush_m9 rfl dX6_mayWait_72 ?_
        refine ca_iret hX rfl rfl rfl rfl dX6_mayWait_74 ?_
        have he : mwM (mwV (M 0) P r1) (wA (M 0) P r1 0) 1 99 = -9 := he
        exact re_end2 (by simp [mwA, b4, er1, he]) hfr hm hke
      | succ n ih =>
        intro i g M1 hi hm hke hfr h1 he
        obtain ⟨c0, c1, c2, c3, c4, c5, c6, c7, c8, c9, c10, c11, c12, c13⟩ := id hm
        rw [hke.1] at c1
        rw [h1] at c2
        refine ca_iload_n hX (q := 38) 3 rfl rfl rfl dX6_mayWait_37 ?_
        refine ca_bipush hX (q := 40) k_bipush_99 rfl dX6_mayWait_38 ?_
        refine ca_icmp_gt hX (q := 43) 72 rfl rfl dX6_mayWait_40 (fun z => absurd z (fun z => absurd ((nI_ltI (a := 99) (b := i) (by omega) (by omega)).mp z) (by omega))) (fun _ => ?_)
        refine ca_aload_n hX (q := 44) 0 rfl rfl rfl dX6_mayWait_43 ?_
        refine ca_aload_n hX (q := 45) 0 rfl rfl rfl dX6_mayWait_44 ?_
        refine ca_getf hX (q := 48) cl_X6 1 (by decide) w_fl_X6_13 (by omega) c0 rfl rfl dX6_mayWait_45 ?_
        refine ca_iload_n hX (q := 49) 1 rfl rfl rfl dX6_mayWait_48 ?_
        refine ca_iconst hX (q := 50) k_iconst_0 rfl dX6_mayWait_49 ?_
        refine ca_cV hX (q := 53) y_X6_worthBy w_ml_X6_171 (by omega) hN c0 (c_X6_worthBy l N g o _ hm ho (o + 2) (pnM P (M 0) i) c2 (by omega) (by omega) P (by rw [pnM_0]; exact hP) hP5 (ok_pn hok P i) r1 hr1 0 (by omega)) (by decide) rfl (Nat.le_of_ble_eq_true rfl) rfl dX6_mayWait_50 rfl ?_
        rintro _ g ⟨rfl, hf, M1, hm, hrf, e4, ej, e13⟩
        have hke := hke.tr (ke_bu e4 ej e13)
        have hfr := hfr.tr hf
        obtain ⟨c0, c1, c2, c3, c4, c5, c6, c7, c8, c9, c10, c11, c12, c13⟩ := id hm
        rw [hke.1] at c1
        have h1 := (ej 1 (by omega) (by omega) (by omega) (by omega) (by omega) (by omega)).trans h1
        rw [h1] at c2
        refine ca_iload_n hX (q := 54) 2 rfl rfl rfl dX6_mayWait_53 ?_
        rw [show wS (pnM P (M 0) i) r1 (alT 0 P).1 (alT 0 P).2 0 = (mwV (M 0) P r1) i from rfl]
        refine ca_icmp_le hX (q := 57) 59 rfl rfl dX6_mayWait_54 (fun b54 => ?_) (fun b54 => ?_)
        · refine ca_aload_n hX (q := 60) 0 rfl rfl rfl dX6_mayWait_59 ?_
          refine ca_getf hX (q := 63) cl_X6 1 (by decide) w_fl_X6_13 (by omega) c0 rfl rfl dX6_mayWait_60 ?_
          refine ca_cS hX (q := 66) y_X6_night w_ml_X6_141 hN (c_X6_night l N g (o + 2) (pnM P (M 0) i) c2 (by omega) P (by rw [pnM_0]; exact hP) hP5 (fun p hp => by rw [pn_lo P (M 0) (by omega) (by omega)]; exact wf_sh w p hp)) (by decide) rfl (Nat.le_of_ble_eq_true rfl) rfl dX6_mayWait_63 rfl ?_
          rintro _ g ⟨rfl, hE, hF⟩
          have hm := md_f1 hm hE hF
          have hke := hke.st (i := 1) (nsM P (pnM P (M 0) i)) (by omega)
          have hfr := hfr.tr (fun j hj => hF j (by omega))
          obtain ⟨c0, c1, c2, c3, c4, c5, c6, c7, c8, c9, c10, c11, c12, c13⟩ := id hm
          rw [hke.1] at c1
          refine ca_iinc hX (q := 69) (ls' := [_, _, _, _]) k_iconst_1 rfl (Nat.le_of_ble_eq_true rfl) (Or.inr rfl) rfl rfl dX6_mayWait_66 ?_
          refine ca_goto hX 37 rfl dX6_mayWait_69 ?_
          have he := he.trans (show mwM (mwV (M 0) P r1) (wA (M 0) P r1 0) i (n + 1) = mwM (mwV (M 0) P r1) (wA (M 0) P r1 0) (i + 1) n by rw [mwM, if_neg (Int32.not_lt.mpr b54)])
          rw [nI_1]
          exact ih (i + 1) _ _ (by omega) hm hke hfr (st_s _ _ _) he
        · refine ca_iload_n hX (q := 58) 3 rfl rfl rfl dX6_mayWait_57 ?_
          refine ca_iret hX rfl rfl rfl rfl dX6_mayWait_58 ?_
          have he := he.trans (show mwM (mwV (M 0) P r1) (wA (M 0) P r1 0) i (n + 1) = nI i by rw [mwM, if_pos (Int32.not_le.mp b54)])
          exact re_end2 (by simp [mwA, b4, er1, he]) hfr hm hke
    refine ca_iconst hX (q := 36) k_iconst_0 rfl dX6_mayWait_35 ?_
    refine ca_istore_n hX (q := 37) 3 rfl (ls' := [_, _, _, _]) (Nat.le_of_ble_eq_true rfl) (Nat.le_of_ble_eq_true rfl) (Or.inr rfl) rfl rfl dX6_mayWait_36 ?_
    exact loop 100 0 _ _ (by omega) hm hke hfr (st_s _ _ _) (mw_0 (mwV (M 0) P r1)).symm
  · refine ca_aload_n hX (q := 8) 0 rfl rfl rfl dX6_mayWait_7 ?_
    refine ca_iconst hX (q := 9) k_iconst_m1 rfl dX6_mayWait_8 ?_
    refine ca_cV hX (q := 12) y_X6_no w_ml_X6_51 (by omega) hN c0 (c_X6_no l N g o _ hm ho (-1) 1 (by decide) (by omega)) (by decide) rfl (Nat.le_of_ble_eq_true rfl) rfl dX6_mayWait_9 rfl ?_
    rintro _ g ⟨rfl, hm, hf⟩
    have hke := keM.no hke 1
    have hfr := hfr.tr hf
    refine ca_iret hX rfl rfl rfl rfl dX6_mayWait_12 ?_
    exact re_end2 (by simp [mwA, noA, nk1, nk2, nk3, nk4, nk6, z020, z021, z010, z011, b4]) hfr hm hke

