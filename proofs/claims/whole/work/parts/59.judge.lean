/-! judge, whatWas, lots of both -/
def juV (h : Nat → Int32) (P r : Nat) (rf : Nat → Int32) (p : Nat) : Bool := !decide (rf p = rsM (sdS h r (alT 0 P).1 (alT 0 P).2 0) (p + 1) 25)
def juA (M : Nat → Nat → Int32) (P k : Nat) (x : Int32) : An := if rmB x = 0 then noA M 1 else (fsM (juV (M 0) P x.toNatClampNeg (M 5)) 0 k, upB M 13 2 0)
theorem rs_cg {u v : Nat → Int32} (j : Nat) : ∀ n, (∀ r, r < n → u r = v r) → rsM u j n = rsM v j n
  | 0, _ => rfl
  | n + 1, h => by rw [rsM, rsM, rs_cg j n (fun r hr => h r (by omega)), h n (by omega)]
theorem at_M {f : Nat → Int32} {k j : Nat} (h : j < k) : atM f k j = f j := if_pos h

theorem nk0 : nI 0 = 0 := rfl

set_option maxRecDepth 100000 in
set_option maxHeartbeats 4000000 in
theorem k_judge (l : Launch) (N : Nat) (g0 : ca_G) (M : Nat → Nat → Int32) (t : Nat → Int32) (B : Nat → Nat → Int32) (hx : clX g0 M t B) (hN31 : 31 ≤ N) (P : Nat) (w : wfH (M 0) P) (k : Nat) (hk : M 13 2 = nI k) (hk6 : k ≤ 25) (x1 : Int32) : ca_Ct l yX5_judge cX5_judge 4 (some .int) 5 0 0 N 1000000 [.ref 0, .int x1] g0 (clP g0 (juA M P k x1)) := by
  refine ca_intro (by decide) (Nat.le_of_ble_eq_true rfl) (fun X hX hN => ?_)
  show X 0 [_, _, none, none] [] N 1000000 g0
  obtain ⟨g, hgg⟩ : ∃ g, g = g0 := ⟨g0, rfl⟩
  rw [← hgg] at hx ⊢
  have hfr : frG g0 g 0 31 := by rw [hgg]; exact frG.rf
  obtain ⟨hc, hh, hkp, htr, hz, htl, hlt, hrw, h30⟩ := id hx
  have h0 := hh.1
  have k0 := hkp.1
  have t0 := htr.1
  have d0 := hz.1
  have l0 := hlt.1
  have w0 := hrw.1
  have hP := w.1
  have hP5 := w.2.1
  have hok := wf_ok w
  refine ca_iload_n hX (q := 1) 1 rfl rfl rfl dX5_judge_0 ?_
  refine ca_cSi hX (q := 4) y_X5_isRoom w_ml_X5_78 hN (c_X5_isRoom l N g _) (by decide) rfl (Nat.le_of_ble_eq_true rfl) rfl dX5_judge_1 rfl ?_
  refine ca_if_ne hX (q := 7) 13 rfl rfl dX5_judge_4 (fun c4 => ?_) (fun c4 => ?_)
  · obtain ⟨r1, hr1, rfl⟩ := rm_ok c4
    have er1 := nI_clamp (n := r1) (by omega)
    refine ca_aload_n hX (q := 14) 0 rfl rfl rfl dX5_judge_13 ?_
    refine ca_iload_n hX (q := 15) 1 rfl rfl rfl dX5_judge_14 ?_
    refine ca_iconst hX (q := 16) k_iconst_0 rfl dX5_judge_15 ?_
    refine ca_cV hX (q := 19) y_X5_burnAsNow w_ml_X5_132 (by omega) hN hc (c_X5_burnAsNow l N g _ hc hN31 B hz (M 0) hh P hP hP5 hok r1 hr1 0 (by omega)) (by decide) rfl (Nat.le_of_ble_eq_true rfl) rfl dX5_judge_16 rfl ?_
    rintro _ g ⟨rfl, hf, B, hz, hlo, hsp, hfd⟩
    have hx := hx.bz hf hz
    have hfr := hfr.tr (hf.wd (by omega) (by omega))
    obtain ⟨hc, hh, hkp, htr, hz, htl, hlt, hrw, h30⟩ := id hx
    have h0 := hh.1
    have k0 := hkp.1
    have t0 := htr.1
    have d0 := hz.1
    have l0 := hlt.1
    have w0 := hrw.1
    have hnr : nbG g 28 25 (M 5) k := ⟨by rw [← hk]; exact hrw.1, hrw.2⟩
    obtain ⟨ks, hk1, hk2, hsd, hsb, hts, hrs⟩ := fd_s hsp hfd
    have loop : ∀ (n i : Nat), i + n = k → fsM (juV (M 0) P r1 (M 5)) 0 k = fsM (juV (M 0) P r1 (M 5)) i n → X 24 [some (.ref 0), some (.int (nI r1)), some (.int (-9)), some (.int (nI i))] [] N 1000000 g := by
      intro n
      induction n with
      | zero =>
        intro i  hi he
        have hib : i = k := by omega
        rw [hib]
        refine ca_iload_n hX (q := 25) 3 rfl rfl rfl dX5_judge_24 ?_
        refine ca_aload_n hX (q := 26) 0 rfl rfl rfl dX5_judge_25 ?_
        refine ca_getf hX (q := 29) cl_X5 5 (by decide) w_fl_X5_41 (by omega) hc rfl rfl dX5_judge_26 ?_
        refine ca_getN hX (q := 32) cl_X3 1 (by decide) w_fn_X5_213 (by omega) w0 rfl rfl dX5_judge_29 ?_
        refine ca_icmp_ge hX (q := 35) 73 rfl rfl dX5_judge_32 (fun _ => ?_) (fun z => absurd (by rw [hk]; exact nI_le (Nat.le_refl _) (by omega)) z)
        refine ca_aload_n hX (q := 74) 0 rfl rfl rfl dX5_judge_73 ?_
        refine ca_getf hX (q := 77) cl_X5 5 (by decide) w_fl_X5_41 (by omega) hc rfl rfl dX5_judge_74 ?_
        refine ca_cV hX (q := 80) y_X3_forget w_ml_X5_75 (by omega) hN w0 (c_X3_forget l N g 28 25 k (M 5) hnr (by omega) (by omega) hk6) (by decide) rfl (Nat.le_of_ble_eq_true rfl) rfl dX5_judge_77 rfl ?_
        rintro _ g ⟨rfl, hq, hf⟩
        have hx := hx.ro hf hq
        have hfr := hfr.tr (hf.wd (by omega) (by omega))
        rw [st_id] at hx
        refine ca_iload_n hX (q := 81) 2 rfl rfl rfl dX5_judge_80 ?_
        refine ca_iret hX rfl rfl rfl rfl dX5_judge_81 ?_
        have he : fsM (juV (M 0) P r1 (M 5)) 0 k = -9 := he
        exact cl_end (by simp [juA, c4, er1, he, nk0]) hfr hx
      | succ n ih =>
        intro i  hi he
        refine ca_iload_n hX (q := 25) 3 rfl rfl rfl dX5_judge_24 ?_
        refine ca_aload_n hX (q := 26) 0 rfl rfl rfl dX5_judge_25 ?_
        refine ca_getf hX (q := 29) cl_X5 5 (by decide) w_fl_X5_41 (by omega) hc rfl rfl dX5_judge_26 ?_
        refine ca_getN hX (q := 32) cl_X3 1 (by decide) w_fn_X5_213 (by omega) w0 rfl rfl dX5_judge_29 ?_
        refine ca_icmp_ge hX (q := 35) 73 rfl rfl dX5_judge_32 (fun z => absurd z (by rw [hk]; exact nI_ge (a := i) (b := k) (by omega) (by omega))) (fun _ => ?_)
        refine ca_iload_n hX (q := 36) 2 rfl rfl rfl dX5_judge_35 ?_
        refine ca_bipush hX (q := 38) k_bipush_m9 rfl dX5_judge_36 ?_
        refine ca_icmp_ne hX (q := 41) 73 rfl rfl dX5_judge_38 (fun z => absurd rfl z) (fun _ => ?_)
        refine ca_aload_n hX (q := 42) 0 rfl rfl rfl dX5_judge_41 ?_
        refine ca_getf hX (q := 45) cl_X5 5 (by decide) w_fl_X5_41 (by omega) hc rfl rfl dX5_judge_42 ?_
        refine ca_iload_n hX (q := 46) 3 rfl rfl rfl dX5_judge_45 ?_
        have hrsV := hrs (i + 1) (by omega) (by omega)
        refine ca_cVi hX (q := 49) y_X3_at w_ml_X5_216 (by omega) hN w0 (c_X3_at l N g 28 25 k (M 5) hnr (by omega) (by omega) hk6 i (by omega)) (by decide) rfl (Nat.le_of_ble_eq_true rfl) rfl dX5_judge_46 rfl ?_
        rw [at_M (show i < k by omega)]
        refine ca_aload_n hX (q := 50) 0 rfl rfl rfl dX5_judge_49 ?_
        refine ca_getf hX (q := 53) cl_X5 3 (by decide) w_fl_X5_25 (by omega) hc rfl rfl dX5_judge_50 ?_
        refine ca_iload_n hX (q := 54) 3 rfl rfl rfl dX5_judge_53 ?_
        refine ca_iconst hX (q := 55) k_iconst_1 rfl dX5_judge_54 ?_
        refine ca_iadd hX (q := 56) rfl dX5_judge_55 ?_
        rw [nI_1]
        refine ca_cVi hX (q := 59) y_X0_roomSaidIn w_ml_X5_219 (by omega) hN d0 (c_X0_roomSaidIn l N g 16 B hz (by omega) ks hk1 hk2 (i + 1) (by omega) (by omega)) (by decide) rfl (Nat.le_of_ble_eq_true rfl) rfl dX5_judge_56 rfl ?_
        refine ca_cSi hX (q := 62) y_X5_asRowTells w_ml_X5_222 hN (c_X5_asRowTells l N g _) (by decide) rfl (Nat.le_of_ble_eq_true rfl) rfl dX5_judge_59 rfl ?_
        refine ca_icmp_eq hX (q := 65) 67 rfl rfl dX5_judge_62 (fun c62 => ?_) (fun c62 => ?_)
        · refine ca_iinc hX (q := 70) (ls' := [_, _, _, _]) k_iconst_1 rfl (Nat.le_of_ble_eq_true rfl) (Or.inr rfl) rfl rfl dX5_judge_67 ?_
          refine ca_goto hX 24 rfl dX5_judge_70 ?_
          have hv : (juV (M 0) P r1 (M 5)) i = false := by unfold juV; rw [decide_eq_true (by rw [hrsV]; exact c62)]; rfl
          rw [nI_1]
          exact ih (i + 1) (by omega) (he.trans (by rw [fsM, hv, if_neg (by decide)]))
        · refine ca_iload_n hX (q := 66) 3 rfl rfl rfl dX5_judge_65 ?_
          refine ca_istore_n hX (q := 67) 2 rfl (ls' := [_, _, _, _]) (Nat.le_of_ble_eq_true rfl) (Nat.le_of_ble_eq_true rfl) (Or.inr rfl) rfl rfl dX5_judge_66 ?_
          refine ca_iinc hX (q := 70) (ls' := [_, _, _, _]) k_iconst_1 rfl (Nat.le_of_ble_eq_true rfl) (Or.inr rfl) rfl rfl dX5_judge_67 ?_
          refine ca_goto hX 24 rfl dX5_judge_70 ?_
          have hv : (juV (M 0) P r1 (M 5)) i = true := by unfold juV; rw [decide_eq_false (by rw [hrsV]; exact c62)]; rfl
          have he := he.trans (show fsM (juV (M 0) P r1 (M 5)) i (n + 1) = nI i by rw [fsM, if_pos hv])
          refine ca_iload_n hX (q := 25) 3 rfl rfl rfl dX5_judge_24 ?_
          refine ca_aload_n hX (q := 26) 0 rfl rfl rfl dX5_judge_25 ?_
          refine ca_getf hX (q := 29) cl_X5 5 (by decide) w_fl_X5_41 (by omega) hc rfl rfl dX5_judge_26 ?_
          refine ca_getN hX (q := 32) cl_X3 1 (by decide) w_fn_X5_213 (by omega) w0 rfl rfl dX5_judge_29 ?_
          refine ca_icmp_ge hX (q := 35) 73 rfl rfl dX5_judge_32 (fun c32 => ?_) (fun c32 => ?_)
          · refine ca_aload_n hX (q := 74) 0 rfl rfl rfl dX5_judge_73 ?_
            refine ca_getf hX (q := 77) cl_X5 5 (by decide) w_fl_X5_41 (by omega) hc rfl rfl dX5_judge_74 ?_
            refine ca_cV hX (q := 80) y_X3_forget w_ml_X5_75 (by omega) hN w0 (c_X3_forget l N g 28 25 k (M 5) hnr (by omega) (by omega) hk6) (by decide) rfl (Nat.le_of_ble_eq_true rfl) rfl dX5_judge_77 rfl ?_
            rintro _ g ⟨rfl, hq, hf⟩
            have hx := hx.ro hf hq
            have hfr := hfr.tr (hf.wd (by omega) (by omega))
            rw [st_id] at hx
            refine ca_iload_n hX (q := 81) 2 rfl rfl rfl dX5_judge_80 ?_
            refine ca_iret hX rfl rfl rfl rfl dX5_judge_81 ?_
            exact cl_end (by simp [juA, c4, er1, he, nk0]) hfr hx
          · refine ca_iload_n hX (q := 36) 2 rfl rfl rfl dX5_judge_35 ?_
            refine ca_bipush hX (q := 38) k_bipush_m9 rfl dX5_judge_36 ?_
            refine ca_icmp_ne hX (q := 41) 73 rfl rfl dX5_judge_38 (fun _ => ?_) (fun z => absurd z (nI_m9 i (by omega)))
            refine ca_aload_n hX (q := 74) 0 rfl rfl rfl dX5_judge_73 ?_
            refine ca_getf hX (q := 77) cl_X5 5 (by decide) w_fl_X5_41 (by omega) hc rfl rfl dX5_judge_74 ?_
            refine ca_cV hX (q := 80) y_X3_forget w_ml_X5_75 (by omega) hN w0 (c_X3_forget l N g 28 25 k (M 5) hnr (by omega) (by omega) hk6) (by decide) rfl (Nat.le_of_ble_eq_true rfl) rfl dX5_judge_77 rfl ?_
            rintro _ g ⟨rfl, hq, hf⟩
            have hx := hx.ro hf hq
            have hfr := hfr.tr (hf.wd (by omega) (by omega))
            rw [st_id] at hx
            refine ca_iload_n hX (q := 81) 2 rfl rfl rfl dX5_judge_80 ?_
            refine ca_iret hX rfl rfl rfl rfl dX5_judge_81 ?_
            exact cl_end (by simp [juA, c4, er1, he, nk0]) hfr hx
    refine ca_bipush hX (q := 21) k_bipush_m9 rfl dX5_judge_19 ?_
    refine ca_istore_n hX (q := 22) 2 rfl (ls' := [_, _, _, _]) (Nat.le_of_ble_eq_true rfl) (Nat.le_of_ble_eq_true rfl) (Or.inr rfl) rfl rfl dX5_judge_21 ?_
    refine ca_iconst hX (q := 23) k_iconst_0 rfl dX5_judge_22 ?_
    refine ca_istore_n hX (q := 24) 3 rfl (ls' := [_, _, _, _]) (Nat.le_of_ble_eq_true rfl) (Nat.le_of_ble_eq_true rfl) (Or.inr rfl) rfl rfl dX5_judge_23 ?_
    exact loop k 0 (by omega) rfl
  · refine ca_aload_n hX (q := 8) 0 rfl rfl rfl dX5_judge_7 ?_
    refine ca_iconst hX (q := 9) k_iconst_m1 rfl dX5_judge_8 ?_
    refine ca_cV hX (q := 12) y_X5_refuse w_ml_X5_53 (by omega) hN hc (c_X5_refuse l N g _ hc hN31 (M 6) h30 (-1) 1 (by decide) (by omega) (by omega)) (by decide) rfl (Nat.le_of_ble_eq_true rfl) rfl dX5_judge_9 rfl ?_
    rintro _ g ⟨rfl, h30, hf⟩
    have hx := hx.rf hf h30
    have hfr := hfr.tr (hf.wd (by omega) (by omega))
    refine ca_iret hX rfl rfl rfl rfl dX5_judge_12 ?_
    exact cl_end (by simp [juA, noA, nk1, nk2, nk3, nk4, nk6, c4]) hfr hx

set_option maxRecDepth 100000 in
set_option maxHeartbeats 4000000 in
theorem m_judge (l : Launch) (N : Nat) (g0 : ca_G) (o : Nat) (M : Nat → Nat → Int32) (hm : mdG g0 o M) (ho : o + 14 ≤ N) (hs4 : M 13 4 = 0) (P : Nat) (w : wfH (M 0) P) (k : Nat) (hk : M 13 2 = nI k) (hk6 : k ≤ 25) (x1 : Int32) : ca_Ct l yX6_judge cX6_judge 6 (some .int) 5 0 0 N 1000000 [.ref o, .int x1] g0 (reP o g0 (juA M P k x1)) := by
  refine ca_intro (by decide) (Nat.le_of_ble_eq_true rfl) (fun X hX hN => ?_)
  show X 0 [_, _, none, none, none, none] [] N 1000000 g0
  obtain ⟨g, hgg⟩ : ∃ g, g = g0 := ⟨g0, rfl⟩
  rw [← hgg] at hm ⊢
  have hfr : frG g0 g o (o + 14) := by rw [hgg]; exact frG.rf
  have hke := keM.rf hs4
  obtain ⟨c0, c1, c2, c3, c4, c5, c6, c7, c8, c9, c10, c11, c12, c13⟩ := id hm
  have hP := w.1
  have hP5 := w.2.1
  have hok := wf_ok w
  refine ca_iload_n hX (q := 1) 1 rfl rfl rfl dX6_judge_0 ?_
  refine ca_cSi hX (q := 4) y_X6_isRoom w_ml_X6_138 hN (c_R_isRoom l N g _) (by decide) rfl (Nat.le_of_ble_eq_true rfl) rfl dX6_judge_1 rfl ?_
  refine ca_if_ne hX (q := 7) 13 rfl rfl dX6_judge_4 (fun b4 => ?_) (fun b4 => ?_)
  · obtain ⟨r1, hr1, rfl⟩ := rm_ok b4
    have er1 := nI_clamp (n := r1) (by omega)
    refine ca_aload_n hX (q := 14) 0 rfl rfl rfl dX6_judge_13 ?_
    refine ca_getf hX (q := 17) cl_X6 9 (by decide) w_fl_X6_190 (by omega) c0 rfl rfl dX6_judge_14 ?_
    rw [hk]
    refine ca_istore_n hX (q := 18) 2 rfl (ls' := [_, _, _, _, _, _]) (Nat.le_of_ble_eq_true rfl) (Nat.le_of_ble_eq_true rfl) (Or.inr rfl) rfl rfl dX6_judge_17 ?_
    refine ca_aload_n hX (q := 19) 0 rfl rfl rfl dX6_judge_18 ?_
    refine ca_iconst hX (q := 20) k_iconst_0 rfl dX6_judge_19 ?_
    refine ca_puti hX (q := 23) (fs' := [_, _, _, _, _, _, _, _, _, _, _, _, _, _, _, _, _, _, _, _]) cl_X6 9 (by decide) w_fl_X6_190 rfl rfl (by omega) hN c0 (Nat.le_of_ble_eq_true rfl) rfl rfl dX6_judge_20 (fun g hE hF => ?_)
    have hm := md_s2 hm hE hF
    obtain ⟨c0, c1, c2, c3, c4, c5, c6, c7, c8, c9, c10, c11, c12, c13⟩ := id hm
    have hfr := frG.tr hfr (fun j hj => hF j (by omega))
    have hke := keM.rf (M := upB M 13 2 0) (by rw [up_134 _ _ (by omega)]; exact hs4)
    refine ca_aload_n hX (q := 24) 0 rfl rfl rfl dX6_judge_23 ?_
    refine ca_iload_n hX (q := 25) 1 rfl rfl rfl dX6_judge_24 ?_
    refine ca_iconst hX (q := 26) k_iconst_0 rfl dX6_judge_25 ?_
    refine ca_cV hX (q := 29) y_X6_burnsBy w_ml_X6_164 (by omega) hN c0 (c_X6_burnsBy l N g o (upB M 13 2 0) hm ho P hP hP5 hok r1 hr1 0 (by omega)) (by decide) rfl (Nat.le_of_ble_eq_true rfl) rfl dX6_judge_26 rfl ?_
    rintro _ g ⟨rfl, hf, M1, hm, hrf, e4, ej, e13⟩
    have hke := hke.tr (ke_bu e4 ej e13)
    have hfr := hfr.tr hf
    obtain ⟨c0, c1, c2, c3, c4, c5, c6, c7, c8, c9, c10, c11, c12, c13⟩ := id hm
    rw [hke.1] at c1
    have hrf : rfM M1 (M 0) r1 (alT 0 P).1 (alT 0 P).2 0 := hrf
    have c6 : g (o + 6) = .inl (25, M 5) := by rw [c6, hke.2.2.2.1]; rfl
    have loop : ∀ (n i : Nat), i + n = k → fsM (juV (M 0) P r1 (M 5)) 0 k = fsM (juV (M 0) P r1 (M 5)) i n → X 31 [some (.ref o), some (.int (nI r1)), some (.int (nI k)), some (.int (nI i)), none, none] [] N 1000000 g := by
      intro n
      induction n with
      | zero =>
        intro i  hi he
        have hib : i = k := by omega
        rw [hib]
        refine ca_iload_n hX (q := 32) 3 rfl rfl rfl dX6_judge_31 ?_
        refine ca_iload_n hX (q := 33) 2 rfl rfl rfl dX6_judge_32 ?_
        refine ca_icmp_ge hX (q := 36) 92 rfl rfl dX6_judge_33 (fun _ => ?_) (fun z => absurd (nI_le (Nat.le_refl _) (by omega)) z)
        refine ca_bipush hX (q := 94) k_bipush_m9 rfl dX6_judge_92 ?_
        refine ca_iret hX rfl rfl rfl rfl dX6_judge_94 ?_
        have he : fsM (juV (M 0) P r1 (M 5)) 0 k = -9 := he
        exact re_end2 (by simp [juA, b4, er1, he]) hfr hm hke
      | succ n ih =>
        intro i  hi he
        refine ca_iload_n hX (q := 32) 3 rfl rfl rfl dX6_judge_31 ?_
        refine ca_iload_n hX (q := 33) 2 rfl rfl rfl dX6_judge_32 ?_
        refine ca_icmp_ge hX (q := 36) 92 rfl rfl dX6_judge_33 (fun z => absurd z (nI_ge (a := i) (b := k) (by omega) (by omega))) (fun _ => ?_)
        have hrsV : rsM (M1 9) (i + 1) 25 = rsM (sdS (M 0) r1 (alT 0 P).1 (alT 0 P).2 0) (i + 1) 25 := rs_cg (i + 1) 25 (fun r hr => (hrf r hr).2.1)
        have loop2 : ∀ (n2 j : Nat), j + n2 = 25 → X 43 [some (.ref o), some (.int (nI r1)), some (.int (nI k)), some (.int (nI i)), some (.int (rsM (M1 9) (i + 1) j)), some (.int (nI j))] [] N 1000000 g := by
          intro n2
          induction n2 with
          | zero =>
            intro j  hj 
            have hjb : j = 25 := by omega
            rw [hjb]
            refine ca_iload hX (q := 45) rfl rfl dX6_judge_43 ?_
            refine ca_bipush hX (q := 47) k_bipush_25 rfl dX6_judge_45 ?_
            refine ca_icmp_ge hX (q := 50) 73 rfl rfl dX6_judge_47 (fun _ => ?_) (fun z => absurd (nI_le (a := 25) (b := 25) (by omega) (by omega)) z)
            rw [hrsV]
            refine ca_iload hX (q := 75) rfl rfl dX6_judge_73 ?_
            refine ca_aload_n hX (q := 76) 0 rfl rfl rfl dX6_judge_75 ?_
            refine ca_getf hX (q := 79) cl_X6 6 (by decide) w_fl_X6_25 (by omega) c0 rfl rfl dX6_judge_76 ?_
            refine ca_iload_n hX (q := 80) 3 rfl rfl rfl dX6_judge_79 ?_
            refine ca_iaN hX (q := 81) (k := i) (by omega) c6 (by decide) rfl (by omega) rfl dX6_judge_80 ?_
            refine ca_icmp_eq hX (q := 84) 86 rfl rfl dX6_judge_81 (fun b81 => ?_) (fun b81 => ?_)
            · refine ca_iinc hX (q := 89) (ls' := [_, _, _, _, _, _]) k_iconst_1 rfl (Nat.le_of_ble_eq_true rfl) (Or.inr rfl) rfl rfl dX6_judge_86 ?_
              refine ca_goto hX 31 rfl dX6_judge_89 ?_
              have hv : (juV (M 0) P r1 (M 5)) i = false := by unfold juV; rw [decide_eq_true b81.symm]; rfl
              rw [nI_1]
              exact ca_drop hX (ca_le_s rfl (ca_le_s rfl (ca_le_s rfl (ca_le_s rfl (ca_le_n (ca_le_n ca_le_0)))))) (ih (i + 1) (by omega) (he.trans (by rw [fsM, hv, if_neg (by decide)])))
            · refine ca_iload_n hX (q := 85) 3 rfl rfl rfl dX6_judge_84 ?_
              refine ca_iret hX rfl rfl rfl rfl dX6_judge_85 ?_
              have hv : (juV (M 0) P r1 (M 5)) i = true := by unfold juV; rw [decide_eq_false (fun z => b81 z.symm)]; rfl
              have he := he.trans (show fsM (juV (M 0) P r1 (M 5)) i (n + 1) = nI i by rw [fsM, if_pos hv])
              exact re_end2 (by simp [juA, b4, er1, he]) hfr hm hke
          | succ n2 ih2 =>
            intro j  hj 
            refine ca_iload hX (q := 45) rfl rfl dX6_judge_43 ?_
            refine ca_bipush hX (q := 47) k_bipush_25 rfl dX6_judge_45 ?_
            refine ca_icmp_ge hX (q := 50) 73 rfl rfl dX6_judge_47 (fun z => absurd z (nI_ge (a := j) (b := 25) (by omega) (by omega))) (fun _ => ?_)
            refine ca_aload_n hX (q := 51) 0 rfl rfl rfl dX6_judge_50 ?_
            refine ca_getf hX (q := 54) cl_X6 12 (by decide) w_fl_X6_37 (by omega) c0 rfl rfl dX6_judge_51 ?_
            refine ca_iload hX (q := 56) rfl rfl dX6_judge_54 ?_
            refine ca_iaN hX (q := 57) (k := j) (by omega) c10 (by decide) rfl (by omega) rfl dX6_judge_56 ?_
            refine ca_iload_n hX (q := 58) 3 rfl rfl rfl dX6_judge_57 ?_
            refine ca_iconst hX (q := 59) k_iconst_1 rfl dX6_judge_58 ?_
            refine ca_iadd hX (q := 60) rfl dX6_judge_59 ?_
            rw [show nI i + 1 = nI (i + 1) from nI_add i 1]
            refine ca_icmp_ne hX (q := 63) 67 rfl rfl dX6_judge_60 (fun b60 => ?_) (fun b60 => ?_)
            · refine ca_iinc hX (q := 70) (ls' := [_, _, _, _, _, _]) k_iconst_1 rfl (Nat.le_of_ble_eq_true rfl) (Or.inr rfl) rfl rfl dX6_judge_67 ?_
              refine ca_goto hX 43 rfl dX6_judge_70 ?_
              rw [show nI j + 1 = nI (j + 1) from nI_add j 1]
              exact ca_drop hX (ca_le_s rfl (ca_le_s rfl (ca_le_s rfl (ca_le_s rfl (ca_le_s (by rw [rsM, if_neg b60]) (ca_le_s rfl ca_le_0)))))) (ih2 (j + 1) (by omega))
            · refine ca_iload hX (q := 65) rfl rfl dX6_judge_63 ?_
              refine ca_istore hX (q := 67) (ls' := [_, _, _, _, _, _]) (Nat.le_of_ble_eq_true rfl) (Nat.le_of_ble_eq_true rfl) (Or.inr rfl) rfl rfl dX6_judge_65 ?_
              refine ca_iinc hX (q := 70) (ls' := [_, _, _, _, _, _]) k_iconst_1 rfl (Nat.le_of_ble_eq_true rfl) (Or.inr rfl) rfl rfl dX6_judge_67 ?_
              refine ca_goto hX 43 rfl dX6_judge_70 ?_
              rw [show nI j + 1 = nI (j + 1) from nI_add j 1]
              exact ca_drop hX (ca_le_s rfl (ca_le_s rfl (ca_le_s rfl (ca_le_s rfl (ca_le_s (by rw [rsM, if_pos b60]) (ca_le_s rfl ca_le_0)))))) (ih2 (j + 1) (by omega))
        refine ca_bipush hX (q := 38) k_bipush_99 rfl dX6_judge_36 ?_
        refine ca_istore hX (q := 40) (ls' := [_, _, _, _, _, _]) (Nat.le_of_ble_eq_true rfl) (Nat.le_of_ble_eq_true rfl) (Or.inr rfl) rfl rfl dX6_judge_38 ?_
        refine ca_iconst hX (q := 41) k_iconst_0 rfl dX6_judge_40 ?_
        refine ca_istore hX (q := 43) (ls' := [_, _, _, _, _, _]) (Nat.le_of_ble_eq_true rfl) (Nat.le_of_ble_eq_true rfl) (Or.inr rfl) rfl rfl dX6_judge_41 ?_
        exact ca_drop hX (ca_le_s rfl (ca_le_s rfl (ca_le_s rfl (ca_le_s rfl (ca_le_s rfl (ca_le_s rfl ca_le_0)))))) (loop2 25 0 (by omega))
    refine ca_iconst hX (q := 30) k_iconst_0 rfl dX6_judge_29 ?_
    refine ca_istore_n hX (q := 31) 3 rfl (ls' := [_, _, _, _, _, _]) (Nat.le_of_ble_eq_true rfl) (Nat.le_of_ble_eq_true rfl) (Or.inr rfl) rfl rfl dX6_judge_30 ?_
    exact ca_drop hX (ca_le_s rfl (ca_le_s rfl (ca_le_s rfl (ca_le_s rfl (ca_le_n (ca_le_n ca_le_0)))))) (loop k 0 (by omega) rfl)
  · refine ca_aload_n hX (q := 8) 0 rfl rfl rfl dX6_judge_7 ?_
    refine ca_iconst hX (q := 9) k_iconst_m1 rfl dX6_judge_8 ?_
    refine ca_cV hX (q := 12) y_X6_no w_ml_X6_51 (by omega) hN c0 (c_X6_no l N g o _ hm ho (-1) 1 (by decide) (by omega)) (by decide) rfl (Nat.le_of_ble_eq_true rfl) rfl dX6_judge_9 rfl ?_
    rintro _ g ⟨rfl, hm, hf⟩
    have hke := keM.no hke 1
    have hfr := hfr.tr hf
    refine ca_iret hX rfl rfl rfl rfl dX6_judge_12 ?_
    exact re_end2 (by simp [juA, noA, nk1, nk2, nk3, nk4, nk6, z020, z021, z010, z011, b4]) hfr hm hke

def rtM (v rf : Nat → Int32) : Nat → Nat → Int32
  | _, 0 => 1
  | i, n + 1 => if rf i = v i then rtM v rf (i + 1) n else 0
def raM (v rf : Nat → Int32) : Nat → Int32
  | 0 => 1
  | n + 1 => raM v rf n &&& (if v n = rf n then 1 else 0)
theorem rt_two (v rf : Nat → Int32) : ∀ n i, (rtM v rf i n = 1 ∧ ∀ j, i ≤ j → j < i + n → rf j = v j) ∨ (rtM v rf i n = 0 ∧ ∃ j, i ≤ j ∧ j < i + n ∧ ¬ rf j = v j)
  | 0, i => Or.inl ⟨rfl, fun j a b => by omega⟩
  | n + 1, i => by
    rw [rtM]
    by_cases z : rf i = v i
    · rw [if_pos z]
      rcases rt_two v rf n (i + 1) with ⟨a, b⟩ | ⟨a, j, b, c, d⟩
      · refine Or.inl ⟨a, fun j h1 h2 => ?_⟩
        by_cases y : j = i
        · rw [y]; exact z
        · exact b j (by omega) (by omega)
      · exact Or.inr ⟨a, j, by omega, by omega, d⟩
    · rw [if_neg z]; exact Or.inr ⟨rfl, i, Nat.le_refl _, by omega, z⟩
theorem ra_two (v rf : Nat → Int32) : ∀ n, (raM v rf n = 1 ∧ ∀ j, j < n → rf j = v j) ∨ (raM v rf n = 0 ∧ ∃ j, j < n ∧ ¬ rf j = v j)
  | 0 => Or.inl ⟨rfl, fun j a => absurd a (Nat.not_lt_zero _)⟩
  | n + 1 => by
    rw [raM]
    rcases ra_two v rf n with ⟨a, b⟩ | ⟨a, j, c, d⟩
    · by_cases z : v n = rf n
      · rw [if_pos z, a]
        refine Or.inl ⟨rfl, fun j hj => ?_⟩
        by_cases y : j = n
        · rw [y]; exact z.symm
        · exact b j (by omega)
      · rw [if_neg z, a]; exact Or.inr ⟨rfl, n, by omega, fun q => z q.symm⟩
    · rw [a]
      refine Or.inr ⟨?_, j, by omega, d⟩
      split <;> rfl
theorem rt_ra (v rf : Nat → Int32) (n : Nat) : rtM v rf 0 n = raM v rf n := by
  rcases rt_two v rf n 0 with ⟨a, b⟩ | ⟨a, j, _, c, d⟩
  · rcases ra_two v rf n with ⟨e, _⟩ | ⟨_, i, f, q⟩
    · rw [a, e]
    · exact absurd (b i (by omega) (by omega)) q
  · rcases ra_two v rf n with ⟨_, e⟩ | ⟨f, _⟩
    · exact absurd (e j (by omega)) d
    · rw [a, f]
theorem ra_cg {u v rf : Nat → Int32} : ∀ n, (∀ i, i < n → u i = v i) → raM u rf n = raM v rf n
  | 0, _ => rfl
  | n + 1, h => by rw [raM, raM, ra_cg n (fun i hi => h i (by omega)), h n (by omega)]
def rtV (h : Nat → Int32) (P r p : Nat) : Int32 := rwB (buS h r (alT 0 P).1 (alT 0 P).2 0 p)
theorem bu_rw (h : Nat → Int32) (r tn : Nat) (tu : Nat → Nat) (x : Int32) (q : Nat) : (if buS h r tn tu x q < 0 then 99 else buS h r tn tu x q) = rwB (buS h r tn tu x q) := by
  have hb := bu_S h r tn tu x q
  unfold rwB
  by_cases z : tS h r tn tu x q < 1000000000
  · have e : buS h r tn tu x q = nI (tS h r tn tu x q) := if_pos z
    rw [if_neg (fun y => hb.mp y z), if_neg (by rw [e]; exact nI_m9 _ (by omega))]
  · rw [if_pos (hb.mpr z), if_pos (show buS h r tn tu x q = -9 from if_neg z)]
theorem wf_kd {h : Nat → Int32} {P : Nat} (w : wfH h P) {q i : Nat} (hq : q < 25) (hi : i ≤ 5) : wfH (upd h (2 + q) (nI i)) P := by
  obtain ⟨a, b, c, d, e⟩ := w
  refine ⟨by rw [upd_n _ _ (by omega)]; exact a, b, fun r hr => ?_, fun r hr => by rw [upd_n _ _ (by omega)]; exact d r hr, fun p hp => by rw [upd_n _ _ (by omega)]; exact e p hp⟩
  by_cases z : r = q
  · rw [z, upd_s]; exact ⟨i, hi, rfl⟩
  · rw [upd_n _ _ (by omega)]; exact c r hr
theorem wf_fg {h : Nat → Int32} {P : Nat} (w : wfH h P) {q i : Nat} (hq : q < 25) (hi : i ≤ 9) : wfH (upd h (27 + q) (nI i)) P := by
  obtain ⟨a, b, c, d, e⟩ := w
  refine ⟨by rw [upd_n _ _ (by omega)]; exact a, b, fun r hr => by rw [upd_n _ _ (by omega)]; exact c r hr, fun r hr => ?_, fun p hp => by rw [upd_n _ _ (by omega)]; exact e p hp⟩
  by_cases z : r = q
  · rw [z, upd_s]; exact ⟨i, hi, rfl⟩
  · rw [upd_n _ _ (by omega)]; exact d r hr
def wwN (w : Int32) : Nat := if w = 0 then 6 else 10
def wwH (h : Nat → Int32) (q : Nat) (w : Int32) (i : Nat) : Nat → Int32 := if w = 0 then upd h (2 + q) (nI i) else upd h (27 + q) (nI i)
theorem wf_ww {h : Nat → Int32} {P : Nat} (w : wfH h P) {q i : Nat} (hq : q < 25) (x : Int32) (hi : i < wwN x) : wfH (wwH h q x i) P := by
  unfold wwN at hi
  unfold wwH
  by_cases z : x = 0
  · rw [if_pos z] at hi ⊢; exact wf_kd w hq (by omega)
  · rw [if_neg z] at hi ⊢; exact wf_fg w hq (by omega)
def wwF (h : Nat → Int32) (P r q : Nat) (w : Int32) (rf : Nat → Int32) (k : Nat) : Nat → Int32
  | 0 => 0
  | i + 1 => if rtM (rtV (wwH h q w i) P r) rf 0 k = 0 then wwF h P r q w rf k i else wwF h P r q w rf k i ||| 1 <<< (nI i &&& 31)
def wwA (M : Nat → Nat → Int32) (P k : Nat) (x y w : Int32) : An := if rmB x = 0 then noA M 1 else if rmB y = 0 then noA M 1 else if b01 w = 0 then noA M 2 else (wwF (M 0) P x.toNatClampNeg y.toNatClampNeg w (M 5) k (wwN w), M)
theorem ww_n {w : Int32} : wwN w ≤ 10 := by unfold wwN; split <;> omega
theorem upd_4 (f : Nat → Int32) (j k : Nat) (a b c d : Int32) (h : j ≠ k) : upd (upd (upd (upd f j a) k b) j c) k d = upd (upd f j c) k d := by
  funext q
  by_cases z : q = k
  · rw [z, upd_s, upd_s]
  · rw [upd_n _ _ z, upd_n _ _ z]
    by_cases y : q = j
    · rw [y, upd_s, upd_s]
    · rw [upd_n _ _ y, upd_n _ _ y, upd_n _ _ z, upd_n _ _ y]
theorem upd_id (f : Nat → Int32) (k : Nat) : upd f k (f k) = f := by
  funext q
  by_cases z : q = k
  · rw [z, upd_s]
  · rw [upd_n _ _ z]
theorem upd_c (f : Nat → Int32) {j k : Nat} (a b : Int32) (h : j ≠ k) : upd (upd f j a) k b = upd (upd f k b) j a := by
  funext q
  by_cases z : q = k
  · rw [z, upd_s, upd_n _ _ (by omega), upd_s]
  · rw [upd_n _ _ z]
    by_cases y : q = j
    · rw [y, upd_s, upd_s]
    · rw [upd_n _ _ y, upd_n _ _ y, upd_n _ _ z]

set_option maxRecDepth 100000 in
set_option maxHeartbeats 4000000 in
theorem k_bart (l : Launch) (N : Nat) (g0 : ca_G) (M : Nat → Nat → Int32) (t : Nat → Int32) (B : Nat → Nat → Int32) (hx : clX g0 M t B) (hN31 : 31 ≤ N) (P : Nat) (hP : t 0 = nI P) (hP5 : P ≤ 5) (hok : okH t) (k : Nat) (hk : M 13 2 = nI k) (hk6 : k ≤ 25) (r1 : Nat) (hr1 : r1 < 25) : ca_Ct l yX5_burnsAsRowTells cX5_burnsAsRowTells 3 (some .boolean) 4 0 0 N 1000000 [.ref 0, .int (nI r1)] g0 (fun rr g0' => rr = some (.int (rtM (rtV t P r1) (M 5) 0 k)) ∧ frG g0 g0' 0 31 ∧ ∃ B, clX g0' M t B) := by
  refine ca_intro (by decide) (Nat.le_of_ble_eq_true rfl) (fun X hX hN => ?_)
  show X 0 [_, _, none] [] N 1000000 g0
  obtain ⟨g, hgg⟩ : ∃ g, g = g0 := ⟨g0, rfl⟩
  rw [← hgg] at hx ⊢
  have hfr : frG g0 g 0 31 := by rw [hgg]; exact frG.rf
  obtain ⟨hc, hh, hkp, htr, hz, htl, hlt, hrw, h30⟩ := id hx
  have h0 := hh.1
  have k0 := hkp.1
  have t0 := htr.1
  have d0 := hz.1
  have l0 := hlt.1
  have w0 := hrw.1
  refine ca_aload_n hX (q := 1) 0 rfl rfl rfl dX5_burnsAsRowTells_0 ?_
  refine ca_getf hX (q := 4) cl_X5 3 (by decide) w_fl_X5_25 (by omega) hc rfl rfl dX5_burnsAsRowTells_1 ?_
  refine ca_aload_n hX (q := 5) 0 rfl rfl rfl dX5_burnsAsRowTells_4 ?_
  refine ca_getf hX (q := 8) cl_X5 2 (by decide) w_fl_X5_19 (by omega) hc rfl rfl dX5_burnsAsRowTells_5 ?_
  refine ca_cV hX (q := 11) y_X0_lookAt w_ml_X5_159 (by omega) hN d0 (c_X0_lookAt l N g 16 B hz (by omega) 11 t htr (by omega) (by omega) P hP hP5) (by decide) rfl (Nat.le_of_ble_eq_true rfl) rfl dX5_burnsAsRowTells_8 rfl ?_
  rintro _ g ⟨rfl, ⟨B, hz, hk1, hp1, hy1⟩, hf⟩
  have hlo : loM B t P := ⟨hk1, hp1, hy1⟩
  have hx := hx.bz hf hz
  have hfr := hfr.tr (hf.wd (by omega) (by omega))
  obtain ⟨hc, hh, hkp, htr, hz, htl, hlt, hrw, h30⟩ := id hx
  have h0 := hh.1
  have k0 := hkp.1
  have t0 := htr.1
  have d0 := hz.1
  have l0 := hlt.1
  have w0 := hrw.1
  refine ca_aload_n hX (q := 12) 0 rfl rfl rfl dX5_burnsAsRowTells_11 ?_
  refine ca_getf hX (q := 15) cl_X5 3 (by decide) w_fl_X5_25 (by omega) hc rfl rfl dX5_burnsAsRowTells_12 ?_
  refine ca_iconst hX (q := 16) k_iconst_0 rfl dX5_burnsAsRowTells_15 ?_
  refine ca_cV hX (q := 19) y_X0_letAllSpeak w_ml_X5_245 (by omega) hN d0 (c_X0_letAllSpeak l N g 16 B hz (by omega) P hlo.2.1 hP5 0 (by omega)) (by decide) rfl (Nat.le_of_ble_eq_true rfl) rfl dX5_burnsAsRowTells_16 rfl ?_
  rintro _ g ⟨rfl, hz, hf⟩
  have hlo := lo_ls hlo 0 (1 <<< (nI P &&& 31) - 1) P
  have hsp := al_ls (B := B) (a := 0) hP5
  have hx := hx.bz hf hz
  have hfr := hfr.tr (hf.wd (by omega) (by omega))
  obtain ⟨hc, hh, hkp, htr, hz, htl, hlt, hrw, h30⟩ := id hx
  have h0 := hh.1
  have k0 := hkp.1
  have t0 := htr.1
  have d0 := hz.1
  have l0 := hlt.1
  have w0 := hrw.1
  refine ca_aload_n hX (q := 20) 0 rfl rfl rfl dX5_burnsAsRowTells_19 ?_
  refine ca_getf hX (q := 23) cl_X5 3 (by decide) w_fl_X5_25 (by omega) hc rfl rfl dX5_burnsAsRowTells_20 ?_
  refine ca_iload_n hX (q := 24) 1 rfl rfl rfl dX5_burnsAsRowTells_23 ?_
  refine ca_iconst hX (q := 25) k_iconst_0 rfl dX5_burnsAsRowTells_24 ?_
  refine ca_cV hX (q := 28) y_X0_burn w_ml_X5_248 (by omega) hN d0 (c_X0_burn l N g 16 _ hz (by omega) _ hsp.1 hsp.2.1 P hlo.2.1 hP5 r1 hr1 0) (by decide) rfl (Nat.le_of_ble_eq_true rfl) rfl dX5_burnsAsRowTells_25 rfl ?_
  rintro _ g ⟨rfl, hf, B3, L3, hz, v, e0, e1, e2, e3, e80, e81, e82, e84, _, e7⟩
  obtain ⟨hlo, hsp, hfd⟩ := bn_end hlo hok hP5 hsp hr1 v e0 e1 e2 e3 e80 e81 e82 e84 e7
  have hx := hx.bz hf hz
  have hfr := hfr.tr (hf.wd (by omega) (by omega))
  obtain ⟨hc, hh, hkp, htr, hz, htl, hlt, hrw, h30⟩ := id hx
  have h0 := hh.1
  have k0 := hkp.1
  have t0 := htr.1
  have d0 := hz.1
  have l0 := hlt.1
  have w0 := hrw.1
  have hnr : nbG g 28 25 (M 5) k := ⟨by rw [← hk]; exact hrw.1, hrw.2⟩
  obtain ⟨L, hL, hL1, hmb⟩ := fd_b hfd
  have loop : ∀ (n i : Nat), i + n = k → rtM (rtV t P r1) (M 5) 0 k = rtM (rtV t P r1) (M 5) i n → X 30 [some (.ref 0), some (.int (nI r1)), some (.int (nI i))] [] N 1000000 g := by
    intro n
    induction n with
    | zero =>
      intro i  hi he
      have hib : i = k := by omega
      rw [hib]
      refine ca_iload_n hX (q := 31) 2 rfl rfl rfl dX5_burnsAsRowTells_30 ?_
      refine ca_aload_n hX (q := 32) 0 rfl rfl rfl dX5_burnsAsRowTells_31 ?_
      refine ca_getf hX (q := 35) cl_X5 5 (by decide) w_fl_X5_41 (by omega) hc rfl rfl dX5_burnsAsRowTells_32 ?_
      refine ca_getN hX (q := 38) cl_X3 1 (by decide) w_fn_X5_213 (by omega) w0 rfl rfl dX5_burnsAsRowTells_35 ?_
      refine ca_icmp_ge hX (q := 41) 71 rfl rfl dX5_burnsAsRowTells_38 (fun _ => ?_) (fun z => absurd (by rw [hk]; exact nI_le (Nat.le_refl _) (by omega)) z)
      refine ca_iconst hX (q := 72) k_iconst_1 rfl dX5_burnsAsRowTells_71 ?_
      refine ca_zret hX rfl rfl rfl rfl rfl dX5_burnsAsRowTells_72 ?_
      exact ⟨by rw [he]; rfl, hfr, B3, hx⟩
    | succ n ih =>
      intro i  hi he
      refine ca_iload_n hX (q := 31) 2 rfl rfl rfl dX5_burnsAsRowTells_30 ?_
      refine ca_aload_n hX (q := 32) 0 rfl rfl rfl dX5_burnsAsRowTells_31 ?_
      refine ca_getf hX (q := 35) cl_X5 5 (by decide) w_fl_X5_41 (by omega) hc rfl rfl dX5_burnsAsRowTells_32 ?_
      refine ca_getN hX (q := 38) cl_X3 1 (by decide) w_fn_X5_213 (by omega) w0 rfl rfl dX5_burnsAsRowTells_35 ?_
      refine ca_icmp_ge hX (q := 41) 71 rfl rfl dX5_burnsAsRowTells_38 (fun z => absurd z (by rw [hk]; exact nI_ge (a := i) (b := k) (by omega) (by omega))) (fun _ => ?_)
      refine ca_aload_n hX (q := 42) 0 rfl rfl rfl dX5_burnsAsRowTells_41 ?_
      refine ca_getf hX (q := 45) cl_X5 5 (by decide) w_fl_X5_41 (by omega) hc rfl rfl dX5_burnsAsRowTells_42 ?_
      refine ca_iload_n hX (q := 46) 2 rfl rfl rfl dX5_burnsAsRowTells_45 ?_
      refine ca_cVi hX (q := 49) y_X3_at w_ml_X5_216 (by omega) hN w0 (c_X3_at l N g 28 25 k (M 5) hnr (by omega) (by omega) hk6 i (by omega)) (by decide) rfl (Nat.le_of_ble_eq_true rfl) rfl dX5_burnsAsRowTells_46 rfl ?_
      rw [at_M (show i < k by omega)]
      refine ca_aload_n hX (q := 50) 0 rfl rfl rfl dX5_burnsAsRowTells_49 ?_
      refine ca_getf hX (q := 53) cl_X5 3 (by decide) w_fl_X5_25 (by omega) hc rfl rfl dX5_burnsAsRowTells_50 ?_
      refine ca_iload_n hX (q := 54) 2 rfl rfl rfl dX5_burnsAsRowTells_53 ?_
      refine ca_cVi hX (q := 57) y_X0_minuteBurnt w_ml_X5_144 (by omega) hN d0 (c_X0_minuteBurnt l N g 16 B3 hz (by omega) L hL hL1 i (by omega)) (by decide) rfl (Nat.le_of_ble_eq_true rfl) rfl dX5_burnsAsRowTells_54 rfl ?_
      rw [hmb i (by omega)]
      refine ca_cSi hX (q := 60) y_X5_asRowTells w_ml_X5_222 hN (c_X5_asRowTells l N g _) (by decide) rfl (Nat.le_of_ble_eq_true rfl) rfl dX5_burnsAsRowTells_57 rfl ?_
      rw [show rwB (buS t r1 (alT 0 P).1 (alT 0 P).2 0 i) = (rtV t P r1) i from rfl]
      refine ca_icmp_eq hX (q := 63) 65 rfl rfl dX5_burnsAsRowTells_60 (fun c60 => ?_) (fun c60 => ?_)
      · refine ca_iinc hX (q := 68) (ls' := [_, _, _]) k_iconst_1 rfl (Nat.le_of_ble_eq_true rfl) (Or.inr rfl) rfl rfl dX5_burnsAsRowTells_65 ?_
        refine ca_goto hX 30 rfl dX5_burnsAsRowTells_68 ?_
        rw [nI_1]
        exact ih (i + 1) (by omega) (he.trans (by rw [rtM, if_pos c60]))
      · refine ca_iconst hX (q := 64) k_iconst_0 rfl dX5_burnsAsRowTells_63 ?_
        refine ca_zret hX rfl rfl rfl rfl rfl dX5_burnsAsRowTells_64 ?_
        exact ⟨by rw [he, rtM, if_neg c60], hfr, B3, hx⟩
  refine ca_iconst hX (q := 29) k_iconst_0 rfl dX5_burnsAsRowTells_28 ?_
  refine ca_istore_n hX (q := 30) 2 rfl (ls' := [_, _, _]) (Nat.le_of_ble_eq_true rfl) (Nat.le_of_ble_eq_true rfl) (Or.inr rfl) rfl rfl dX5_burnsAsRowTells_29 ?_
  exact loop k 0 (by omega) rfl

