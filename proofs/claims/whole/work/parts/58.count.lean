/-! unlike, count, judge of both -/
def ulB (h : Nat → Int32) (p q r : Nat) : Bool := kwB h r p && !kwB h r q
theorem ul_bit (h : Nat → Int32) (p q r : Nat) : bt (sayM h p 25 &&& (sayM h q 25 ^^^ -1)) r = (decide (r < 25) && ulB h p q r) := by
  rw [b_and]
  rcases Nat.lt_or_ge r 25 with z | z
  · rw [b_not _ (by omega), say_kw h p r z, say_kw h q r z, decide_eq_true z]; rfl
  · rw [say_hi h p r z, decide_eq_false (by omega)]; rfl
theorem ul_bc (h : Nat → Int32) (p q : Nat) : bcI (sayM h p 25 &&& (sayM h q 25 ^^^ -1)) = nI (cN (ulB h p q) 25) := by
  rw [bc_25 (fun i hi => by rw [ul_bit, decide_eq_false (by omega)]; rfl), cN_sN]
  congr 1
  exact sN_eq 25 (fun r hr => by rw [ul_bit, decide_eq_true hr]; rfl)
theorem fs_cg {p q : Nat → Bool} : ∀ n s, (∀ i, s ≤ i → i < s + n → p i = q i) → fsM p s n = fsM q s n
  | 0, _, _ => rfl
  | n + 1, s, h => by rw [fsM, fsM, h s (Nat.le_refl _) (by omega), fs_cg n (s + 1) (fun i a b => h i (by omega) (by omega))]
theorem ul_fs (h : Nat → Int32) (p q : Nat) : fsM (bt (sayM h p 25 &&& (sayM h q 25 ^^^ -1))) 0 25 = fsM (ulB h p q) 0 25 :=
  fs_cg 25 0 (fun i _ hi => by rw [ul_bit, decide_eq_true (by omega)]; rfl)
def ffM (u : Nat → Bool) : Nat → Int32
  | 0 => -9
  | n + 1 => if u n = true then (if cN u n = 0 then nI n else ffM u n) else ffM u n
theorem ff_two (u : Nat → Bool) : ∀ n, (cN u n = 0 ∧ ffM u n = -9 ∧ ∀ i, i < n → u i = false) ∨ ∃ k, k < n ∧ u k = true ∧ (∀ i, i < k → u i = false) ∧ ffM u n = nI k ∧ cN u n ≠ 0
  | 0 => Or.inl ⟨rfl, rfl, fun i hi => absurd hi (Nat.not_lt_zero _)⟩
  | n + 1 => by
    rw [ffM, cN_s]
    rcases hu : u n with _ | _
    · rw [if_neg (by decide), if_neg (by decide)]
      rcases ff_two u n with ⟨a, b, c⟩ | ⟨k, a, b, c, d, e⟩
      · refine Or.inl ⟨a, b, fun i hi => ?_⟩
        by_cases z : i = n
        · rw [z]; exact hu
        · exact c i (by omega)
      · exact Or.inr ⟨k, by omega, b, c, d, e⟩
    · rw [if_pos rfl, if_pos rfl]
      rcases ff_two u n with ⟨a, b, c⟩ | ⟨k, a, b, c, d, e⟩
      · exact Or.inr ⟨n, by omega, hu, c, by rw [if_pos a], by omega⟩
      · exact Or.inr ⟨k, by omega, b, c, by rw [if_neg e]; exact d, by omega⟩
theorem ff_fs (u : Nat → Bool) (n : Nat) : ffM u n = fsM u 0 n := by
  rcases ff_two u n with ⟨_, b, c⟩ | ⟨k, a, b, c, d, _⟩
  · rw [b, fs_none n 0 (fun i _ hi => c i (by omega))]
  · rw [d, fs_some b n 0 (by omega) (by omega) (fun i _ hi => c i hi)]
def unA (M : Nat → Nat → Int32) (x y w : Int32) : An := if hpB (M 0 0) x = 0 then noA M 1 else if hpB (M 0 0) y = 0 then noA M 1 else if x = y then noA M 1 else if b01 w = 0 then noA M 2 else (if w = 0 then nI (cN (ulB (M 0) x.toNatClampNeg y.toNatClampNeg) 25) else fsM (ulB (M 0) x.toNatClampNeg y.toNatClampNeg) 0 25, M)

set_option maxRecDepth 100000 in
set_option maxHeartbeats 4000000 in
theorem c_X5_firstOf (l : Launch) (N : Nat) (g : ca_G) (x : Int32) : ca_Ct l yX5_firstOf cX5_firstOf 2 (some .int) 0 0 0 N 1000000 [.int x] g (ca_pi (fsM (bt x) 0 25) g) := by
  refine ca_intro (by decide) (Nat.le_of_ble_eq_true rfl) (fun X hX hN => ?_)
  show X 0 [_, none] [] N 1000000 g
  have loop : ∀ (n i : Nat), i + n = 25 → fsM (bt x) 0 25 = fsM (bt x) i n → X 2 [some (.int x), some (.int (nI i))] [] N 1000000 g := by
    intro n
    induction n with
    | zero =>
      intro i  hi he
      have hib : i = 25 := by omega
      rw [hib]
      refine ca_iload_n hX (q := 3) 1 rfl rfl rfl dX5_firstOf_2 ?_
      refine ca_bipush hX (q := 5) k_bipush_25 rfl dX5_firstOf_3 ?_
      refine ca_icmp_ge hX (q := 8) 25 rfl rfl dX5_firstOf_5 (fun _ => ?_) (fun z => absurd (nI_le (a := 25) (b := 25) (by omega) (by omega)) z)
      refine ca_bipush hX (q := 27) k_bipush_m9 rfl dX5_firstOf_25 ?_
      refine ca_iret hX rfl rfl rfl rfl dX5_firstOf_27 ?_
      exact ⟨by rw [he]; rfl, rfl⟩
    | succ n ih =>
      intro i  hi he
      refine ca_iload_n hX (q := 3) 1 rfl rfl rfl dX5_firstOf_2 ?_
      refine ca_bipush hX (q := 5) k_bipush_25 rfl dX5_firstOf_3 ?_
      refine ca_icmp_ge hX (q := 8) 25 rfl rfl dX5_firstOf_5 (fun z => absurd z (nI_ge (a := i) (b := 25) (by omega) (by omega))) (fun _ => ?_)
      refine ca_iload_n hX (q := 9) 0 rfl rfl rfl dX5_firstOf_8 ?_
      refine ca_iload_n hX (q := 10) 1 rfl rfl rfl dX5_firstOf_9 ?_
      refine ca_ishr hX (q := 11) rfl dX5_firstOf_10 ?_
      refine ca_iconst hX (q := 12) k_iconst_1 rfl dX5_firstOf_11 ?_
      refine ca_iand hX (q := 13) rfl dX5_firstOf_12 ?_
      refine ca_iconst hX (q := 14) k_iconst_1 rfl dX5_firstOf_13 ?_
      refine ca_icmp_ne hX (q := 17) 19 rfl rfl dX5_firstOf_14 (fun c14 => ?_) (fun c14 => ?_)
      · refine ca_iinc hX (q := 22) (ls' := [_, _]) k_iconst_1 rfl (Nat.le_of_ble_eq_true rfl) (Or.inr rfl) rfl rfl dX5_firstOf_19 ?_
        refine ca_goto hX 2 rfl dX5_firstOf_22 ?_
        have hb : ¬ bt x i = true := mt (b_tst (by omega)).mpr c14
        rw [nI_1]
        exact ih (i + 1) (by omega) (he.trans (by rw [fsM, if_neg hb]))
      · refine ca_iload_n hX (q := 18) 1 rfl rfl rfl dX5_firstOf_17 ?_
        refine ca_iret hX rfl rfl rfl rfl dX5_firstOf_18 ?_
        have hb := (b_tst (by omega)).mp c14
        exact ⟨by rw [he, fsM, if_pos hb], rfl⟩
  refine ca_iconst hX (q := 1) k_iconst_0 rfl dX5_firstOf_0 ?_
  refine ca_istore_n hX (q := 2) 1 rfl (ls' := [_, _]) (Nat.le_of_ble_eq_true rfl) (Nat.le_of_ble_eq_true rfl) (Or.inr rfl) rfl rfl dX5_firstOf_1 ?_
  exact loop 25 0 (by omega) rfl

set_option maxRecDepth 100000 in
set_option maxHeartbeats 4000000 in
theorem k_unlike (l : Launch) (N : Nat) (g0 : ca_G) (M : Nat → Nat → Int32) (t : Nat → Int32) (B : Nat → Nat → Int32) (hx : clX g0 M t B) (hN31 : 31 ≤ N) (P : Nat) (w : wfH (M 0) P) (x1 x2 x3 : Int32) : ca_Ct l yX5_unlike cX5_unlike 5 (some .int) 3 0 0 N 1000000 [.ref 0, .int x1, .int x2, .int x3] g0 (clP g0 (unA M x1 x2 x3)) := by
  refine ca_intro (by decide) (Nat.le_of_ble_eq_true rfl) (fun X hX hN => ?_)
  show X 0 [_, _, _, _, none] [] N 1000000 g0
  obtain ⟨g, hgg⟩ : ∃ g, g = g0 := ⟨g0, rfl⟩
  rw [← hgg] at hx ⊢
  have hfr : frG g0 g 0 31 := by rw [hgg]; exact frG.rf
  obtain ⟨hc, hh, hkp, htr, hz, htl, hlt, hrw, h30⟩ := id hx
  have h0 := hh.1
  have k0 := hkp.1
  have t0 := htr.1
  have d0 := hz.1
  have l0 := hlt.1
  have w0 := hrw.1
  have hP := w.1
  have hP5 := w.2.1
  have hok := wf_ok w
  refine ca_aload_n hX (q := 1) 0 rfl rfl rfl dX5_unlike_0 ?_
  refine ca_iload_n hX (q := 2) 1 rfl rfl rfl dX5_unlike_1 ?_
  refine ca_cVi hX (q := 5) y_X5_isPerson w_ml_X5_97 (by omega) hN hc (c_X5_isPerson l N g _ hc hN31 (M 0) hh _) (by decide) rfl (Nat.le_of_ble_eq_true rfl) rfl dX5_unlike_2 rfl ?_
  refine ca_if_eq hX (q := 8) 21 rfl rfl dX5_unlike_5 (fun c5 => ?_) (fun c5 => ?_)
  · refine ca_aload_n hX (q := 22) 0 rfl rfl rfl dX5_unlike_21 ?_
    refine ca_iconst hX (q := 23) k_iconst_m1 rfl dX5_unlike_22 ?_
    refine ca_cV hX (q := 26) y_X5_refuse w_ml_X5_53 (by omega) hN hc (c_X5_refuse l N g _ hc hN31 (M 6) h30 (-1) 1 (by decide) (by omega) (by omega)) (by decide) rfl (Nat.le_of_ble_eq_true rfl) rfl dX5_unlike_23 rfl ?_
    rintro _ g ⟨rfl, h30, hf⟩
    have hx := hx.rf hf h30
    have hfr := hfr.tr (hf.wd (by omega) (by omega))
    refine ca_iret hX rfl rfl rfl rfl dX5_unlike_26 ?_
    exact cl_end (by simp [unA, b01, noA, nk1, nk2, nk3, nk4, nk6, c5]) hfr hx
  · obtain ⟨p1, hp1, rfl⟩ := hp_ok hP hP5 c5
    have ep1 := nI_clamp (n := p1) (by omega)
    refine ca_aload_n hX (q := 9) 0 rfl rfl rfl dX5_unlike_8 ?_
    refine ca_iload_n hX (q := 10) 2 rfl rfl rfl dX5_unlike_9 ?_
    refine ca_cVi hX (q := 13) y_X5_isPerson w_ml_X5_97 (by omega) hN hc (c_X5_isPerson l N g _ hc hN31 (M 0) hh _) (by decide) rfl (Nat.le_of_ble_eq_true rfl) rfl dX5_unlike_10 rfl ?_
    refine ca_if_eq hX (q := 16) 21 rfl rfl dX5_unlike_13 (fun c13 => ?_) (fun c13 => ?_)
    · refine ca_aload_n hX (q := 22) 0 rfl rfl rfl dX5_unlike_21 ?_
      refine ca_iconst hX (q := 23) k_iconst_m1 rfl dX5_unlike_22 ?_
      refine ca_cV hX (q := 26) y_X5_refuse w_ml_X5_53 (by omega) hN hc (c_X5_refuse l N g _ hc hN31 (M 6) h30 (-1) 1 (by decide) (by omega) (by omega)) (by decide) rfl (Nat.le_of_ble_eq_true rfl) rfl dX5_unlike_23 rfl ?_
      rintro _ g ⟨rfl, h30, hf⟩
      have hx := hx.rf hf h30
      have hfr := hfr.tr (hf.wd (by omega) (by omega))
      refine ca_iret hX rfl rfl rfl rfl dX5_unlike_26 ?_
      exact cl_end (by simp [unA, b01, noA, nk1, nk2, nk3, nk4, nk6, c5, ep1, c13]) hfr hx
    · obtain ⟨p2, hp2, rfl⟩ := hp_ok hP hP5 c13
      have ep2 := nI_clamp (n := p2) (by omega)
      refine ca_iload_n hX (q := 17) 1 rfl rfl rfl dX5_unlike_16 ?_
      refine ca_iload_n hX (q := 18) 2 rfl rfl rfl dX5_unlike_17 ?_
      refine ca_icmp_ne hX (q := 21) 27 rfl rfl dX5_unlike_18 (fun c18 => ?_) (fun c18 => ?_)
      · refine ca_iload_n hX (q := 28) 3 rfl rfl rfl dX5_unlike_27 ?_
        refine ca_if_eq hX (q := 31) 43 rfl rfl dX5_unlike_28 (fun c28 => ?_) (fun c28 => ?_)
        · refine ca_aload_n hX (q := 44) 0 rfl rfl rfl dX5_unlike_43 ?_
          refine ca_getf hX (q := 47) cl_X5 0 (by decide) w_fl_X5_10 (by omega) hc rfl rfl dX5_unlike_44 ?_
          refine ca_iload_n hX (q := 48) 1 rfl rfl rfl dX5_unlike_47 ?_
          refine ca_cVi hX (q := 51) y_X1_roomsSayableBy w_ml_X5_185 (by omega) hN h0 (c_X1_roomsSayableBy l N g 1 (M 0) hh (by omega) P hP hP5 p1 hp1) (by decide) rfl (Nat.le_of_ble_eq_true rfl) rfl dX5_unlike_48 rfl ?_
          refine ca_aload_n hX (q := 52) 0 rfl rfl rfl dX5_unlike_51 ?_
          refine ca_getf hX (q := 55) cl_X5 0 (by decide) w_fl_X5_10 (by omega) hc rfl rfl dX5_unlike_52 ?_
          refine ca_iload_n hX (q := 56) 2 rfl rfl rfl dX5_unlike_55 ?_
          refine ca_cVi hX (q := 59) y_X1_roomsSayableBy w_ml_X5_185 (by omega) hN h0 (c_X1_roomsSayableBy l N g 1 (M 0) hh (by omega) P hP hP5 p2 hp2) (by decide) rfl (Nat.le_of_ble_eq_true rfl) rfl dX5_unlike_56 rfl ?_
          refine ca_iconst hX (q := 60) k_iconst_m1 rfl dX5_unlike_59 ?_
          refine ca_ixor hX (q := 61) rfl dX5_unlike_60 ?_
          refine ca_iand hX (q := 62) rfl dX5_unlike_61 ?_
          refine ca_istore hX (q := 64) (ls' := [_, _, _, _, _]) (Nat.le_of_ble_eq_true rfl) (Nat.le_of_ble_eq_true rfl) (Or.inr rfl) rfl rfl dX5_unlike_62 ?_
          refine ca_iload_n hX (q := 65) 3 rfl rfl rfl dX5_unlike_64 ?_
          refine ca_if_ne hX (q := 68) 74 rfl rfl dX5_unlike_65 (fun c65 => ?_) (fun c65 => ?_)
          · exact absurd c28 c65
          · refine ca_iload hX (q := 70) rfl rfl dX5_unlike_68 ?_
            refine ca_cSi hX (q := 73) y_J6_bitCount_0f7a4 w_ml_X5_175 hN (c_J6_bitCount l N g _) (by decide) rfl (Nat.le_of_ble_eq_true rfl) rfl dX5_unlike_70 rfl ?_
            refine ca_iret hX rfl rfl rfl rfl dX5_unlike_73 ?_
            rw [ul_bc]
            exact cl_end (by simp [unA, b01, noA, nk1, nk2, nk3, nk4, nk6, c5, ep1, c13, ep2, c18, c28, c65]) hfr hx
        · refine ca_iload_n hX (q := 32) 3 rfl rfl rfl dX5_unlike_31 ?_
          refine ca_iconst hX (q := 33) k_iconst_1 rfl dX5_unlike_32 ?_
          refine ca_icmp_eq hX (q := 36) 43 rfl rfl dX5_unlike_33 (fun c33 => ?_) (fun c33 => ?_)
          · refine ca_aload_n hX (q := 44) 0 rfl rfl rfl dX5_unlike_43 ?_
            refine ca_getf hX (q := 47) cl_X5 0 (by decide) w_fl_X5_10 (by omega) hc rfl rfl dX5_unlike_44 ?_
            refine ca_iload_n hX (q := 48) 1 rfl rfl rfl dX5_unlike_47 ?_
            refine ca_cVi hX (q := 51) y_X1_roomsSayableBy w_ml_X5_185 (by omega) hN h0 (c_X1_roomsSayableBy l N g 1 (M 0) hh (by omega) P hP hP5 p1 hp1) (by decide) rfl (Nat.le_of_ble_eq_true rfl) rfl dX5_unlike_48 rfl ?_
            refine ca_aload_n hX (q := 52) 0 rfl rfl rfl dX5_unlike_51 ?_
            refine ca_getf hX (q := 55) cl_X5 0 (by decide) w_fl_X5_10 (by omega) hc rfl rfl dX5_unlike_52 ?_
            refine ca_iload_n hX (q := 56) 2 rfl rfl rfl dX5_unlike_55 ?_
            refine ca_cVi hX (q := 59) y_X1_roomsSayableBy w_ml_X5_185 (by omega) hN h0 (c_X1_roomsSayableBy l N g 1 (M 0) hh (by omega) P hP hP5 p2 hp2) (by decide) rfl (Nat.le_of_ble_eq_true rfl) rfl dX5_unlike_56 rfl ?_
            refine ca_iconst hX (q := 60) k_iconst_m1 rfl dX5_unlike_59 ?_
            refine ca_ixor hX (q := 61) rfl dX5_unlike_60 ?_
            refine ca_iand hX (q := 62) rfl dX5_unlike_61 ?_
            refine ca_istore hX (q := 64) (ls' := [_, _, _, _, _]) (Nat.le_of_ble_eq_true rfl) (Nat.le_of_ble_eq_true rfl) (Or.inr rfl) rfl rfl dX5_unlike_62 ?_
            refine ca_iload_n hX (q := 65) 3 rfl rfl rfl dX5_unlike_64 ?_
            refine ca_if_ne hX (q := 68) 74 rfl rfl dX5_unlike_65 (fun c65 => ?_) (fun c65 => ?_)
            · refine ca_iload hX (q := 76) rfl rfl dX5_unlike_74 ?_
              refine ca_cSi hX (q := 79) y_X5_firstOf w_ml_X5_188 hN (c_X5_firstOf l N g _) (by decide) rfl (Nat.le_of_ble_eq_true rfl) rfl dX5_unlike_76 rfl ?_
              refine ca_iret hX rfl rfl rfl rfl dX5_unlike_79 ?_
              rw [ul_fs]
              exact cl_end (by simp [unA, b01, noA, nk1, nk2, nk3, nk4, nk6, c5, ep1, c13, ep2, c18, c28, c33, c65]) hfr hx
            · exact absurd c65 c28
          · refine ca_aload_n hX (q := 37) 0 rfl rfl rfl dX5_unlike_36 ?_
            refine ca_bipush hX (q := 39) k_bipush_m2 rfl dX5_unlike_37 ?_
            refine ca_cV hX (q := 42) y_X5_refuse w_ml_X5_53 (by omega) hN hc (c_X5_refuse l N g _ hc hN31 (M 6) h30 (-2) 2 (by decide) (by omega) (by omega)) (by decide) rfl (Nat.le_of_ble_eq_true rfl) rfl dX5_unlike_39 rfl ?_
            rintro _ g ⟨rfl, h30, hf⟩
            have hx := hx.rf hf h30
            have hfr := hfr.tr (hf.wd (by omega) (by omega))
            refine ca_iret hX rfl rfl rfl rfl dX5_unlike_42 ?_
            exact cl_end (by simp [unA, b01, noA, nk1, nk2, nk3, nk4, nk6, c5, ep1, c13, ep2, c18, c28, c33]) hfr hx
      · refine ca_aload_n hX (q := 22) 0 rfl rfl rfl dX5_unlike_21 ?_
        refine ca_iconst hX (q := 23) k_iconst_m1 rfl dX5_unlike_22 ?_
        refine ca_cV hX (q := 26) y_X5_refuse w_ml_X5_53 (by omega) hN hc (c_X5_refuse l N g _ hc hN31 (M 6) h30 (-1) 1 (by decide) (by omega) (by omega)) (by decide) rfl (Nat.le_of_ble_eq_true rfl) rfl dX5_unlike_23 rfl ?_
        rintro _ g ⟨rfl, h30, hf⟩
        have hx := hx.rf hf h30
        have hfr := hfr.tr (hf.wd (by omega) (by omega))
        refine ca_iret hX rfl rfl rfl rfl dX5_unlike_26 ?_
        exact cl_end (by simp [unA, b01, noA, nk1, nk2, nk3, nk4, nk6, c5, ep1, c13, ep2, c18]) hfr hx

set_option maxRecDepth 100000 in
set_option maxHeartbeats 4000000 in
theorem m_unlike (l : Launch) (N : Nat) (g0 : ca_G) (o : Nat) (M : Nat → Nat → Int32) (hm : mdG g0 o M) (ho : o + 14 ≤ N) (hs4 : M 13 4 = 0) (P : Nat) (w : wfH (M 0) P) (x1 x2 x3 : Int32) : ca_Ct l yX6_unlike cX6_unlike 7 (some .int) 3 0 0 N 1000000 [.ref o, .int x1, .int x2, .int x3] g0 (reP o g0 (unA M x1 x2 x3)) := by
  refine ca_intro (by decide) (Nat.le_of_ble_eq_true rfl) (fun X hX hN => ?_)
  show X 0 [_, _, _, _, none, none, none] [] N 1000000 g0
  obtain ⟨g, hgg⟩ : ∃ g, g = g0 := ⟨g0, rfl⟩
  rw [← hgg] at hm ⊢
  have hfr : frG g0 g o (o + 14) := by rw [hgg]; exact frG.rf
  have hke := keM.rf hs4
  obtain ⟨c0, c1, c2, c3, c4, c5, c6, c7, c8, c9, c10, c11, c12, c13⟩ := id hm
  have hP := w.1
  have hP5 := w.2.1
  have hok := wf_ok w
  refine ca_aload_n hX (q := 1) 0 rfl rfl rfl dX6_unlike_0 ?_
  refine ca_iload_n hX (q := 2) 1 rfl rfl rfl dX6_unlike_1 ?_
  refine ca_cVi hX (q := 5) y_X6_isPerson w_ml_X6_59 (by omega) hN c0 (c_R_isPerson l N g o M hm ho P hP hP5 _) (by decide) rfl (Nat.le_of_ble_eq_true rfl) rfl dX6_unlike_2 rfl ?_
  refine ca_if_eq hX (q := 8) 21 rfl rfl dX6_unlike_5 (fun b5 => ?_) (fun b5 => ?_)
  · refine ca_aload_n hX (q := 22) 0 rfl rfl rfl dX6_unlike_21 ?_
    refine ca_iconst hX (q := 23) k_iconst_m1 rfl dX6_unlike_22 ?_
    refine ca_cV hX (q := 26) y_X6_no w_ml_X6_51 (by omega) hN c0 (c_X6_no l N g o _ hm ho (-1) 1 (by decide) (by omega)) (by decide) rfl (Nat.le_of_ble_eq_true rfl) rfl dX6_unlike_23 rfl ?_
    rintro _ g ⟨rfl, hm, hf⟩
    have hke := keM.no hke 1
    have hfr := hfr.tr hf
    refine ca_iret hX rfl rfl rfl rfl dX6_unlike_26 ?_
    exact re_end2 (by simp [unA, noA, nk1, nk2, nk3, nk4, nk6, z020, z021, z010, z011, b5]) hfr hm hke
  · obtain ⟨p1, hp1, rfl⟩ := hp_ok hP hP5 b5
    have ep1 := nI_clamp (n := p1) (by omega)
    refine ca_aload_n hX (q := 9) 0 rfl rfl rfl dX6_unlike_8 ?_
    refine ca_iload_n hX (q := 10) 2 rfl rfl rfl dX6_unlike_9 ?_
    refine ca_cVi hX (q := 13) y_X6_isPerson w_ml_X6_59 (by omega) hN c0 (c_R_isPerson l N g o M hm ho P hP hP5 _) (by decide) rfl (Nat.le_of_ble_eq_true rfl) rfl dX6_unlike_10 rfl ?_
    refine ca_if_eq hX (q := 16) 21 rfl rfl dX6_unlike_13 (fun b13 => ?_) (fun b13 => ?_)
    · refine ca_aload_n hX (q := 22) 0 rfl rfl rfl dX6_unlike_21 ?_
      refine ca_iconst hX (q := 23) k_iconst_m1 rfl dX6_unlike_22 ?_
      refine ca_cV hX (q := 26) y_X6_no w_ml_X6_51 (by omega) hN c0 (c_X6_no l N g o _ hm ho (-1) 1 (by decide) (by omega)) (by decide) rfl (Nat.le_of_ble_eq_true rfl) rfl dX6_unlike_23 rfl ?_
      rintro _ g ⟨rfl, hm, hf⟩
      have hke := keM.no hke 1
      have hfr := hfr.tr hf
      refine ca_iret hX rfl rfl rfl rfl dX6_unlike_26 ?_
      exact re_end2 (by simp [unA, noA, nk1, nk2, nk3, nk4, nk6, z020, z021, z010, z011, b5, ep1, b13]) hfr hm hke
    · obtain ⟨p2, hp2, rfl⟩ := hp_ok hP hP5 b13
      have ep2 := nI_clamp (n := p2) (by omega)
      refine ca_iload_n hX (q := 17) 1 rfl rfl rfl dX6_unlike_16 ?_
      refine ca_iload_n hX (q := 18) 2 rfl rfl rfl dX6_unlike_17 ?_
      refine ca_icmp_ne hX (q := 21) 27 rfl rfl dX6_unlike_18 (fun b18 => ?_) (fun b18 => ?_)
      · refine ca_iload_n hX (q := 28) 3 rfl rfl rfl dX6_unlike_27 ?_
        refine ca_iconst hX (q := 29) k_iconst_0 rfl dX6_unlike_28 ?_
        refine ca_iconst hX (q := 30) k_iconst_1 rfl dX6_unlike_29 ?_
        refine ca_cSi hX (q := 33) y_X6_isIn w_ml_X6_55 hN (c_R_is01 l N g _) (by decide) rfl (Nat.le_of_ble_eq_true rfl) rfl dX6_unlike_30 rfl ?_
        refine ca_if_ne hX (q := 36) 43 rfl rfl dX6_unlike_33 (fun b33 => ?_) (fun b33 => ?_)
        · have loop : ∀ (n i : Nat), i + n = 25 → X 53 [some (.ref o), some (.int (nI p1)), some (.int (nI p2)), some (.int x3), some (.int (nI (cN (ulB (M 0) p1 p2) i))), some (.int (ffM (ulB (M 0) p1 p2) i)), some (.int (nI i))] [] N 1000000 g := by
            intro n
            induction n with
            | zero =>
              intro i  hi 
              have hib : i = 25 := by omega
              rw [hib]
              refine ca_iload hX (q := 55) rfl rfl dX6_unlike_53 ?_
              refine ca_bipush hX (q := 57) k_bipush_25 rfl dX6_unlike_55 ?_
              refine ca_icmp_ge hX (q := 60) 112 rfl rfl dX6_unlike_57 (fun _ => ?_) (fun z => absurd (nI_le (a := 25) (b := 25) (by omega) (by omega)) z)
              refine ca_iload_n hX (q := 113) 3 rfl rfl rfl dX6_unlike_112 ?_
              refine ca_if_ne hX (q := 116) 121 rfl rfl dX6_unlike_113 (fun b113 => ?_) (fun b113 => ?_)
              · refine ca_iload hX (q := 123) rfl rfl dX6_unlike_121 ?_
                refine ca_iret hX rfl rfl rfl rfl dX6_unlike_123 ?_
                exact re_end2 (by simp [unA, noA, nk1, nk2, nk3, nk4, nk6, z020, z021, z010, z011, b5, ep1, b13, ep2, b18, b33, b113, ff_fs]) hfr hm hke
              · refine ca_iload hX (q := 118) rfl rfl dX6_unlike_116 ?_
                refine ca_goto hX 123 rfl dX6_unlike_118 ?_
                refine ca_iret hX rfl rfl rfl rfl dX6_unlike_123 ?_
                exact re_end2 (by simp [unA, noA, nk1, nk2, nk3, nk4, nk6, z020, z021, z010, z011, b5, ep1, b13, ep2, b18, b33, b113, ff_fs]) hfr hm hke
            | succ n ih =>
              intro i  hi 
              refine ca_iload hX (q := 55) rfl rfl dX6_unlike_53 ?_
              refine ca_bipush hX (q := 57) k_bipush_25 rfl dX6_unlike_55 ?_
              refine ca_icmp_ge hX (q := 60) 112 rfl rfl dX6_unlike_57 (fun z => absurd z (nI_ge (a := i) (b := 25) (by omega) (by omega))) (fun _ => ?_)
              refine ca_aload_n hX (q := 61) 0 rfl rfl rfl dX6_unlike_60 ?_
              refine ca_getf hX (q := 64) cl_X6 0 (by decide) w_fl_X6_9 (by omega) c0 rfl rfl dX6_unlike_61 ?_
              refine ca_iload_n hX (q := 65) 1 rfl rfl rfl dX6_unlike_64 ?_
              refine ca_iload hX (q := 67) rfl rfl dX6_unlike_65 ?_
              refine ca_cSi hX (q := 70) y_X6_isKnown w_ml_X6_81 hN (c_X6_isKnown l N g (o + 1) (M 0) c1 (by omega) p1 i (by omega) (by omega)) (by decide) rfl (Nat.le_of_ble_eq_true rfl) rfl dX6_unlike_67 rfl ?_
              refine ca_if_eq hX (q := 73) 106 rfl rfl dX6_unlike_70 (fun b70 => ?_) (fun b70 => ?_)
              · refine ca_iinc hX (q := 109) (ls' := [_, _, _, _, _, _, _]) k_iconst_1 rfl (Nat.le_of_ble_eq_true rfl) (Or.inr rfl) rfl rfl dX6_unlike_106 ?_
                refine ca_goto hX 53 rfl dX6_unlike_109 ?_
                have hu : (ulB (M 0) p1 p2) i = false := by unfold ulB kwB; rw [decide_eq_true b70]; rfl
                have e1 : cN (ulB (M 0) p1 p2) (i + 1) = cN (ulB (M 0) p1 p2) i := by rw [cN_s, hu, if_neg (by decide)]; rfl
                have e2 : ffM (ulB (M 0) p1 p2) (i + 1) = ffM (ulB (M 0) p1 p2) i := by rw [ffM, hu, if_neg (by decide)]
                rw [show nI i + 1 = nI (i + 1) from nI_add i 1]
                exact ca_drop hX (ca_le_s rfl (ca_le_s rfl (ca_le_s rfl (ca_le_s rfl (ca_le_s (by rw [e1]) (ca_le_s (by rw [e2]) (ca_le_s rfl ca_le_0))))))) (ih (i + 1) (by omega))
              · refine ca_aload_n hX (q := 74) 0 rfl rfl rfl dX6_unlike_73 ?_
                refine ca_getf hX (q := 77) cl_X6 0 (by decide) w_fl_X6_9 (by omega) c0 rfl rfl dX6_unlike_74 ?_
                refine ca_iload_n hX (q := 78) 2 rfl rfl rfl dX6_unlike_77 ?_
                refine ca_iload hX (q := 80) rfl rfl dX6_unlike_78 ?_
                refine ca_cSi hX (q := 83) y_X6_isKnown w_ml_X6_81 hN (c_X6_isKnown l N g (o + 1) (M 0) c1 (by omega) p2 i (by omega) (by omega)) (by decide) rfl (Nat.le_of_ble_eq_true rfl) rfl dX6_unlike_80 rfl ?_
                refine ca_if_eq hX (q := 86) 89 rfl rfl dX6_unlike_83 (fun b83 => ?_) (fun b83 => ?_)
                · refine ca_iload hX (q := 91) rfl rfl dX6_unlike_89 ?_
                  refine ca_if_ne hX (q := 94) 99 rfl rfl dX6_unlike_91 (fun b91 => ?_) (fun b91 => ?_)
                  · refine ca_iload hX (q := 101) rfl rfl dX6_unlike_99 ?_
                    refine ca_istore hX (q := 103) (ls' := [_, _, _, _, _, _, _]) (Nat.le_of_ble_eq_true rfl) (Nat.le_of_ble_eq_true rfl) (Or.inr rfl) rfl rfl dX6_unlike_101 ?_
                    refine ca_iinc hX (q := 106) (ls' := [_, _, _, _, _, _, _]) k_iconst_1 rfl (Nat.le_of_ble_eq_true rfl) (Or.inr rfl) rfl rfl dX6_unlike_103 ?_
                    refine ca_iinc hX (q := 109) (ls' := [_, _, _, _, _, _, _]) k_iconst_1 rfl (Nat.le_of_ble_eq_true rfl) (Or.inr rfl) rfl rfl dX6_unlike_106 ?_
                    refine ca_goto hX 53 rfl dX6_unlike_109 ?_
                    have hu : (ulB (M 0) p1 p2) i = true := by unfold ulB kwB; rw [decide_eq_false b70, decide_eq_true b83]; rfl
                    have e1 : cN (ulB (M 0) p1 p2) (i + 1) = cN (ulB (M 0) p1 p2) i + 1 := by rw [cN_s, hu, if_pos rfl]
                    have e2 : ffM (ulB (M 0) p1 p2) (i + 1) = ffM (ulB (M 0) p1 p2) i := by rw [ffM, hu, if_pos rfl, if_neg (fun z => b91 (by rw [z]; rfl))]
                    rw [show nI i + 1 = nI (i + 1) from nI_add i 1, show nI (cN (ulB (M 0) p1 p2) i) + 1 = nI (cN (ulB (M 0) p1 p2) i + 1) from nI_add _ 1]
                    exact ca_drop hX (ca_le_s rfl (ca_le_s rfl (ca_le_s rfl (ca_le_s rfl (ca_le_s (by rw [e1]) (ca_le_s (by rw [e2]) (ca_le_s rfl ca_le_0))))))) (ih (i + 1) (by omega))
                  · refine ca_iload hX (q := 96) rfl rfl dX6_unlike_94 ?_
                    refine ca_goto hX 101 rfl dX6_unlike_96 ?_
                    refine ca_istore hX (q := 103) (ls' := [_, _, _, _, _, _, _]) (Nat.le_of_ble_eq_true rfl) (Nat.le_of_ble_eq_true rfl) (Or.inr rfl) rfl rfl dX6_unlike_101 ?_
                    refine ca_iinc hX (q := 106) (ls' := [_, _, _, _, _, _, _]) k_iconst_1 rfl (Nat.le_of_ble_eq_true rfl) (Or.inr rfl) rfl rfl dX6_unlike_103 ?_
                    refine ca_iinc hX (q := 109) (ls' := [_, _, _, _, _, _, _]) k_iconst_1 rfl (Nat.le_of_ble_eq_true rfl) (Or.inr rfl) rfl rfl dX6_unlike_106 ?_
                    refine ca_goto hX 53 rfl dX6_unlike_109 ?_
                    have hu : (ulB (M 0) p1 p2) i = true := by unfold ulB kwB; rw [decide_eq_false b70, decide_eq_true b83]; rfl
                    have e1 : cN (ulB (M 0) p1 p2) (i + 1) = cN (ulB (M 0) p1 p2) i + 1 := by rw [cN_s, hu, if_pos rfl]
                    have e2 : ffM (ulB (M 0) p1 p2) (i + 1) = nI i := by rw [ffM, hu, if_pos rfl, if_pos ((nI_eq (b := 0) (by have := cN_le (ulB (M 0) p1 p2) i; omega) (by omega)).mp b91)]
                    rw [show nI i + 1 = nI (i + 1) from nI_add i 1, show nI (cN (ulB (M 0) p1 p2) i) + 1 = nI (cN (ulB (M 0) p1 p2) i + 1) from nI_add _ 1]
                    exact ca_drop hX (ca_le_s rfl (ca_le_s rfl (ca_le_s rfl (ca_le_s rfl (ca_le_s (by rw [e1]) (ca_le_s (by rw [e2]) (ca_le_s rfl ca_le_0))))))) (ih (i + 1) (by omega))
                · refine ca_goto hX 106 rfl dX6_unlike_86 ?_
                  refine ca_iinc hX (q := 109) (ls' := [_, _, _, _, _, _, _]) k_iconst_1 rfl (Nat.le_of_ble_eq_true rfl) (Or.inr rfl) rfl rfl dX6_unlike_106 ?_
                  refine ca_goto hX 53 rfl dX6_unlike_109 ?_
                  have hu : (ulB (M 0) p1 p2) i = false := by unfold ulB kwB; rw [decide_eq_false b83]; simp
                  have e1 : cN (ulB (M 0) p1 p2) (i + 1) = cN (ulB (M 0) p1 p2) i := by rw [cN_s, hu, if_neg (by decide)]; rfl
                  have e2 : ffM (ulB (M 0) p1 p2) (i + 1) = ffM (ulB (M 0) p1 p2) i := by rw [ffM, hu, if_neg (by decide)]
                  rw [show nI i + 1 = nI (i + 1) from nI_add i 1]
                  exact ca_drop hX (ca_le_s rfl (ca_le_s rfl (ca_le_s rfl (ca_le_s rfl (ca_le_s (by rw [e1]) (ca_le_s (by rw [e2]) (ca_le_s rfl ca_le_0))))))) (ih (i + 1) (by omega))
          refine ca_iconst hX (q := 44) k_iconst_0 rfl dX6_unlike_43 ?_
          refine ca_istore hX (q := 46) (ls' := [_, _, _, _, _, _, _]) (Nat.le_of_ble_eq_true rfl) (Nat.le_of_ble_eq_true rfl) (Or.inr rfl) rfl rfl dX6_unlike_44 ?_
          refine ca_bipush hX (q := 48) k_bipush_m9 rfl dX6_unlike_46 ?_
          refine ca_istore hX (q := 50) (ls' := [_, _, _, _, _, _, _]) (Nat.le_of_ble_eq_true rfl) (Nat.le_of_ble_eq_true rfl) (Or.inr rfl) rfl rfl dX6_unlike_48 ?_
          refine ca_iconst hX (q := 51) k_iconst_0 rfl dX6_unlike_50 ?_
          refine ca_istore hX (q := 53) (ls' := [_, _, _, _, _, _, _]) (Nat.le_of_ble_eq_true rfl) (Nat.le_of_ble_eq_true rfl) (Or.inr rfl) rfl rfl dX6_unlike_51 ?_
          exact loop 25 0 (by omega)
        · refine ca_aload_n hX (q := 37) 0 rfl rfl rfl dX6_unlike_36 ?_
          refine ca_bipush hX (q := 39) k_bipush_m2 rfl dX6_unlike_37 ?_
          refine ca_cV hX (q := 42) y_X6_no w_ml_X6_51 (by omega) hN c0 (c_X6_no l N g o _ hm ho (-2) 2 (by decide) (by omega)) (by decide) rfl (Nat.le_of_ble_eq_true rfl) rfl dX6_unlike_39 rfl ?_
          rintro _ g ⟨rfl, hm, hf⟩
          have hke := keM.no hke 2
          have hfr := hfr.tr hf
          refine ca_iret hX rfl rfl rfl rfl dX6_unlike_42 ?_
          exact re_end2 (by simp [unA, noA, nk1, nk2, nk3, nk4, nk6, z020, z021, z010, z011, b5, ep1, b13, ep2, b18, b33]) hfr hm hke
      · refine ca_aload_n hX (q := 22) 0 rfl rfl rfl dX6_unlike_21 ?_
        refine ca_iconst hX (q := 23) k_iconst_m1 rfl dX6_unlike_22 ?_
        refine ca_cV hX (q := 26) y_X6_no w_ml_X6_51 (by omega) hN c0 (c_X6_no l N g o _ hm ho (-1) 1 (by decide) (by omega)) (by decide) rfl (Nat.le_of_ble_eq_true rfl) rfl dX6_unlike_23 rfl ?_
        rintro _ g ⟨rfl, hm, hf⟩
        have hke := keM.no hke 1
        have hfr := hfr.tr hf
        refine ca_iret hX rfl rfl rfl rfl dX6_unlike_26 ?_
        exact re_end2 (by simp [unA, noA, nk1, nk2, nk3, nk4, nk6, z020, z021, z010, z011, b5, ep1, b13, ep2, b18]) hfr hm hke

def coA (M : Nat → Nat → Int32) (P : Nat) (x : Int32) : An := if inB x 11 16 = 0 then (if x = 0 then M 0 0 else if x = 1 then M 0 1 else if x = 2 then smI (wtH (M 0)) 25 else if x = 3 then smI (wallM (M 0)) 25 else if x = 4 then nI (ksN (M 0) P) else if x = 5 then smI (fun p => smI (knH (M 0) p) 25) P else if x = 6 then M 13 2 else if x = 7 then M 13 1 else -9, M) else (M 6 (x - 10).toNatClampNeg, M)
theorem zc0 : inB 0 11 16 = 0 := by decide
theorem zc1 : inB 1 11 16 = 0 := by decide
theorem zc2 : inB 2 11 16 = 0 := by decide
theorem zc3 : inB 3 11 16 = 0 := by decide
theorem zc4 : inB 4 11 16 = 0 := by decide
theorem zc5 : inB 5 11 16 = 0 := by decide
theorem zc6 : inB 6 11 16 = 0 := by decide
theorem zc7 : inB 7 11 16 = 0 := by decide
theorem in_lo {x : Int32} (h : x ≤ 10) : inB x 11 16 = 0 := by
  unfold inB; rw [if_pos]
  exact Int32.not_le.mp (fun z => absurd ((i5_1 (a := 10) (b := 11) rfl rfl x).mpr z) (Int32.not_lt.mpr h))
theorem in_hi {x : Int32} (h : 16 < x) : inB x 11 16 = 0 := by
  unfold inB
  by_cases c : x < 11
  · rw [if_pos c]
  · rw [if_neg c, if_pos h]
theorem in_mid {x : Int32} (h : ¬ inB x 11 16 = 0) : ∃ k, k < 7 ∧ x - 10 = nI k := by
  have h1 : ¬ x ≤ 10 := fun z => h (in_lo z)
  have h2 : ¬ 16 < x := fun z => h (in_hi z)
  have h1 := Int32.not_le.mp h1
  have h2 := Int32.not_lt.mp h2
  rw [Int32.lt_iff_toInt_lt, show (10 : Int32).toInt = 10 from rfl] at h1
  rw [Int32.le_iff_toInt_le, show (16 : Int32).toInt = 16 from rfl] at h2
  have ex : x = nI x.toInt.toNat := Int32.toInt_inj.mp (by rw [nI_toInt (by omega)]; omega)
  refine ⟨x.toInt.toNat - 10, by omega, ?_⟩
  rw [ex, show (10 : Int32) = nI 10 from rfl, pk_sub (by omega), ← ex]
theorem in_mid2 {x : Int32} (h1 : ¬ x ≤ 10) (h2 : ¬ 16 < x) : ¬ inB x 11 16 = 0 := by
  have h1 := mt (i5_1 (a := 10) (b := 11) rfl rfl x).mp
  intro z
  unfold inB at z
  by_cases c : x < 11
  · exact absurd (Int32.not_le.mp ‹¬ x ≤ 10›) (fun y => absurd ((i5_1 (a := 10) (b := 11) rfl rfl x).mp y) (Int32.not_le.mpr c))
  · rw [if_neg c, if_neg h2] at z; exact absurd z (by decide)
theorem wl_k : ∀ k, k ≤ 5 → ((nI k < 4 → ¬ (nI k = 4 ∨ nI k = 5)) ∧ (¬ nI k < 4 → (nI k = 4 ∨ nI k = 5))) := by decide

set_option maxRecDepth 100000 in
set_option maxHeartbeats 4000000 in
theorem k_count (l : Launch) (N : Nat) (g0 : ca_G) (M : Nat → Nat → Int32) (t : Nat → Int32) (B : Nat → Nat → Int32) (hx : clX g0 M t B) (hN31 : 31 ≤ N) (P : Nat) (w : wfH (M 0) P) (x1 : Int32) : ca_Ct l yX5_count cX5_count 2 (some .int) 4 0 0 N 1000000 [.ref 0, .int x1] g0 (clP g0 (coA M P x1)) := by
  refine ca_intro (by decide) (Nat.le_of_ble_eq_true rfl) (fun X hX hN => ?_)
  show X 0 [_, _] [] N 1000000 g0
  obtain ⟨g, hgg⟩ : ∃ g, g = g0 := ⟨g0, rfl⟩
  rw [← hgg] at hx ⊢
  have hfr : frG g0 g 0 31 := by rw [hgg]; exact frG.rf
  obtain ⟨hc, hh, hkp, htr, hz, htl, hlt, hrw, h30⟩ := id hx
  have h0 := hh.1
  have k0 := hkp.1
  have t0 := htr.1
  have d0 := hz.1
  have l0 := hlt.1
  have w0 := hrw.1
  have hP := w.1
  have hP5 := w.2.1
  have hok := wf_ok w
  refine ca_iload_n hX (q := 1) 1 rfl rfl rfl dX5_count_0 ?_
  by_cases e1_0 : x1 = 0
  · refine ca_tabIn hX 48 dX5_count_1 (by rw [e1_0]; decide) (by rw [e1_0]; decide) (by rw [e1_0]; rfl) rfl ?_
    refine ca_aload_n hX (q := 49) 0 rfl rfl rfl dX5_count_48 ?_
    refine ca_getf hX (q := 52) cl_X5 0 (by decide) w_fl_X5_10 (by omega) hc rfl rfl dX5_count_49 ?_
    refine ca_getN hX (q := 55) cl_X1 4 (by decide) w_fn_X5_153 (by omega) h0 rfl rfl dX5_count_52 ?_
    refine ca_iret hX rfl rfl rfl rfl dX5_count_55 ?_
    exact cl_end (by simp [coA, noA, nk1, nk2, nk3, nk4, nk6, e1_0, zc0, zc1, zc2, zc3, zc4, zc5, zc6, zc7]) hfr hx
  by_cases e1_1 : x1 = 1
  · refine ca_tabIn hX 56 dX5_count_1 (by rw [e1_1]; decide) (by rw [e1_1]; decide) (by rw [e1_1]; rfl) rfl ?_
    refine ca_aload_n hX (q := 57) 0 rfl rfl rfl dX5_count_56 ?_
    refine ca_getf hX (q := 60) cl_X5 0 (by decide) w_fl_X5_10 (by omega) hc rfl rfl dX5_count_57 ?_
    refine ca_getN hX (q := 63) cl_X1 5 (by decide) w_fn_X5_118 (by omega) h0 rfl rfl dX5_count_60 ?_
    refine ca_iret hX rfl rfl rfl rfl dX5_count_63 ?_
    exact cl_end (by simp [coA, noA, nk1, nk2, nk3, nk4, nk6, e1_0, e1_1, zc0, zc1, zc2, zc3, zc4, zc5, zc6, zc7]) hfr hx
  by_cases e1_2 : x1 = 2
  · refine ca_tabIn hX 64 dX5_count_1 (by rw [e1_2]; decide) (by rw [e1_2]; decide) (by rw [e1_2]; rfl) rfl ?_
    refine ca_aload_n hX (q := 65) 0 rfl rfl rfl dX5_count_64 ?_
    refine ca_getf hX (q := 68) cl_X5 0 (by decide) w_fl_X5_10 (by omega) hc rfl rfl dX5_count_65 ?_
    refine ca_cVi hX (q := 71) y_X1_allWorth w_ml_X5_231 (by omega) hN h0 (c_X1_allWorth l N g 1 (M 0) hh (by omega)) (by decide) rfl (Nat.le_of_ble_eq_true rfl) rfl dX5_count_68 rfl ?_
    refine ca_iret hX rfl rfl rfl rfl dX5_count_71 ?_
    exact cl_end (by simp [coA, noA, nk1, nk2, nk3, nk4, nk6, e1_0, e1_1, e1_2, zc0, zc1, zc2, zc3, zc4, zc5, zc6, zc7]) hfr hx
  by_cases e1_3 : x1 = 3
  · refine ca_tabIn hX 72 dX5_count_1 (by rw [e1_3]; decide) (by rw [e1_3]; decide) (by rw [e1_3]; rfl) rfl ?_
    refine ca_aload_n hX (q := 73) 0 rfl rfl rfl dX5_count_72 ?_
    refine ca_getf hX (q := 76) cl_X5 0 (by decide) w_fl_X5_10 (by omega) hc rfl rfl dX5_count_73 ?_
    refine ca_cVi hX (q := 79) y_X1_walls w_ml_X5_234 (by omega) hN h0 (c_X1_walls l N g 1 (M 0) hh (by omega)) (by decide) rfl (Nat.le_of_ble_eq_true rfl) rfl dX5_count_76 rfl ?_
    refine ca_iret hX rfl rfl rfl rfl dX5_count_79 ?_
    exact cl_end (by simp [coA, noA, nk1, nk2, nk3, nk4, nk6, e1_0, e1_1, e1_2, e1_3, zc0, zc1, zc2, zc3, zc4, zc5, zc6, zc7]) hfr hx
  by_cases e1_4 : x1 = 4
  · refine ca_tabIn hX 80 dX5_count_1 (by rw [e1_4]; decide) (by rw [e1_4]; decide) (by rw [e1_4]; rfl) rfl ?_
    refine ca_aload_n hX (q := 81) 0 rfl rfl rfl dX5_count_80 ?_
    refine ca_getf hX (q := 84) cl_X5 0 (by decide) w_fl_X5_10 (by omega) hc rfl rfl dX5_count_81 ?_
    have hso := so_eq (M 0) P
    refine ca_cVi hX (q := 87) y_X1_somebodysRooms w_ml_X5_191 (by omega) hN h0 (c_X1_somebodysRooms l N g 1 (M 0) hh (by omega) P hP hP5) (by decide) rfl (Nat.le_of_ble_eq_true rfl) rfl dX5_count_84 rfl ?_
    refine ca_iret hX rfl rfl rfl rfl dX5_count_87 ?_
    exact cl_end (by simp [coA, noA, nk1, nk2, nk3, nk4, nk6, e1_0, e1_1, e1_2, e1_3, e1_4, hso, zc0, zc1, zc2, zc3, zc4, zc5, zc6, zc7]) hfr hx
  by_cases e1_5 : x1 = 5
  · refine ca_tabIn hX 88 dX5_count_1 (by rw [e1_5]; decide) (by rw [e1_5]; decide) (by rw [e1_5]; rfl) rfl ?_
    refine ca_aload_n hX (q := 89) 0 rfl rfl rfl dX5_count_88 ?_
    refine ca_getf hX (q := 92) cl_X5 0 (by decide) w_fl_X5_10 (by omega) hc rfl rfl dX5_count_89 ?_
    refine ca_cVi hX (q := 95) y_X1_allKnown w_ml_X5_237 (by omega) hN h0 (c_X1_allKnown l N g 1 (M 0) hh (by omega) P hP hP5) (by decide) rfl (Nat.le_of_ble_eq_true rfl) rfl dX5_count_92 rfl ?_
    refine ca_iret hX rfl rfl rfl rfl dX5_count_95 ?_
    exact cl_end (by simp [coA, noA, nk1, nk2, nk3, nk4, nk6, e1_0, e1_1, e1_2, e1_3, e1_4, e1_5, zc0, zc1, zc2, zc3, zc4, zc5, zc6, zc7]) hfr hx
  by_cases e1_6 : x1 = 6
  · refine ca_tabIn hX 96 dX5_count_1 (by rw [e1_6]; decide) (by rw [e1_6]; decide) (by rw [e1_6]; rfl) rfl ?_
    refine ca_aload_n hX (q := 97) 0 rfl rfl rfl dX5_count_96 ?_
    refine ca_getf hX (q := 100) cl_X5 5 (by decide) w_fl_X5_41 (by omega) hc rfl rfl dX5_count_97 ?_
    refine ca_getN hX (q := 103) cl_X3 1 (by decide) w_fn_X5_213 (by omega) w0 rfl rfl dX5_count_100 ?_
    refine ca_iret hX rfl rfl rfl rfl dX5_count_103 ?_
    exact cl_end (by simp [coA, noA, nk1, nk2, nk3, nk4, nk6, e1_0, e1_1, e1_2, e1_3, e1_4, e1_5, e1_6, zc0, zc1, zc2, zc3, zc4, zc5, zc6, zc7]) hfr hx
  by_cases e1_7 : x1 = 7
  · refine ca_tabIn hX 104 dX5_count_1 (by rw [e1_7]; decide) (by rw [e1_7]; decide) (by rw [e1_7]; rfl) rfl ?_
    refine ca_aload_n hX (q := 105) 0 rfl rfl rfl dX5_count_104 ?_
    refine ca_getf hX (q := 108) cl_X5 4 (by decide) w_fl_X5_32 (by omega) hc rfl rfl dX5_count_105 ?_
    refine ca_getN hX (q := 111) cl_X4 0 (by decide) w_fn_X5_57 (by omega) htl rfl rfl dX5_count_108 ?_
    refine ca_getN hX (q := 114) cl_X3 1 (by decide) w_fn_X5_213 (by omega) l0 rfl rfl dX5_count_111 ?_
    refine ca_iret hX rfl rfl rfl rfl dX5_count_114 ?_
    exact cl_end (by simp [coA, noA, nk1, nk2, nk3, nk4, nk6, e1_0, e1_1, e1_2, e1_3, e1_4, e1_5, e1_6, e1_7, zc0, zc1, zc2, zc3, zc4, zc5, zc6, zc7]) hfr hx
  refine ca_tabOut hX 115 dX5_count_1 (by have z0 := lv_neT (k := 0) (a := 0) e1_0 (by decide); have z1 := lv_neT (k := 1) (a := 1) e1_1 (by decide); have z2 := lv_neT (k := 2) (a := 2) e1_2 (by decide); have z3 := lv_neT (k := 3) (a := 3) e1_3 (by decide); have z4 := lv_neT (k := 4) (a := 4) e1_4 (by decide); have z5 := lv_neT (k := 5) (a := 5) e1_5 (by decide); have z6 := lv_neT (k := 6) (a := 6) e1_6 (by decide); have z7 := lv_neT (k := 7) (a := 7) e1_7 (by decide); omega) rfl ?_
  refine ca_iload_n hX (q := 116) 1 rfl rfl rfl dX5_count_115 ?_
  refine ca_bipush hX (q := 118) k_bipush_10 rfl dX5_count_116 ?_
  refine ca_icmp_le hX (q := 121) 139 rfl rfl dX5_count_118 (fun c118 => ?_) (fun c118 => ?_)
  · have hin := in_lo c118
    refine ca_bipush hX (q := 141) k_bipush_m9 rfl dX5_count_139 ?_
    refine ca_iret hX rfl rfl rfl rfl dX5_count_141 ?_
    exact cl_end (by simp [coA, noA, nk1, nk2, nk3, nk4, nk6, e1_0, e1_1, e1_2, e1_3, e1_4, e1_5, e1_6, e1_7, c118, (Int32.not_lt.mpr c118), hin, zc0, zc1, zc2, zc3, zc4, zc5, zc6, zc7]) hfr hx
  · refine ca_iload_n hX (q := 122) 1 rfl rfl rfl dX5_count_121 ?_
    refine ca_bipush hX (q := 124) k_bipush_16 rfl dX5_count_122 ?_
    refine ca_icmp_gt hX (q := 127) 139 rfl rfl dX5_count_124 (fun c124 => ?_) (fun c124 => ?_)
    · have hin := in_hi c124
      refine ca_bipush hX (q := 141) k_bipush_m9 rfl dX5_count_139 ?_
      refine ca_iret hX rfl rfl rfl rfl dX5_count_141 ?_
      exact cl_end (by simp [coA, noA, nk1, nk2, nk3, nk4, nk6, e1_0, e1_1, e1_2, e1_3, e1_4, e1_5, e1_6, e1_7, c118, (Int32.not_le.mp c118), c124, (Int32.not_le.mpr c124), hin, zc0, zc1, zc2, zc3, zc4, zc5, zc6, zc7]) hfr hx
    · have hin := in_mid2 c118 c124
      obtain ⟨k, hk7, ek⟩ := in_mid hin
      have ek2 := nI_clamp (n := k) (by omega)
      refine ca_aload_n hX (q := 128) 0 rfl rfl rfl dX5_count_127 ?_
      refine ca_getf hX (q := 131) cl_X5 6 (by decide) w_fl_X5_45 (by omega) hc rfl rfl dX5_count_128 ?_
      refine ca_iload_n hX (q := 132) 1 rfl rfl rfl dX5_count_131 ?_
      refine ca_bipush hX (q := 134) k_bipush_10 rfl dX5_count_132 ?_
      refine ca_isub hX (q := 135) rfl dX5_count_134 ?_
      refine ca_iaN hX (q := 136) (k := k) (by omega) h30 (by decide) ek hk7 rfl dX5_count_135 ?_
      refine ca_goto hX 141 rfl dX5_count_136 ?_
      refine ca_iret hX rfl rfl rfl rfl dX5_count_141 ?_
      exact cl_end (by simp [coA, noA, nk1, nk2, nk3, nk4, nk6, e1_0, e1_1, e1_2, e1_3, e1_4, e1_5, e1_6, e1_7, c118, (Int32.not_le.mp c118), c124, (Int32.not_lt.mp c124), hin, ek, ek2, zc0, zc1, zc2, zc3, zc4, zc5, zc6, zc7]) hfr hx

set_option maxRecDepth 100000 in
set_option maxHeartbeats 4000000 in
theorem m_count (l : Launch) (N : Nat) (g0 : ca_G) (o : Nat) (M : Nat → Nat → Int32) (hm : mdG g0 o M) (ho : o + 14 ≤ N) (hs4 : M 13 4 = 0) (P : Nat) (w : wfH (M 0) P) (x1 : Int32) : ca_Ct l yX6_count cX6_count 5 (some .int) 3 0 0 N 1000000 [.ref o, .int x1] g0 (reP o g0 (coA M P x1)) := by
  refine ca_intro (by decide) (Nat.le_of_ble_eq_true rfl) (fun X hX hN => ?_)
  show X 0 [_, _, none, none, none] [] N 1000000 g0
  obtain ⟨g, hgg⟩ : ∃ g, g = g0 := ⟨g0, rfl⟩
  rw [← hgg] at hm ⊢
  have hfr : frG g0 g o (o + 14) := by rw [hgg]; exact frG.rf
  have hke := keM.rf hs4
  obtain ⟨c0, c1, c2, c3, c4, c5, c6, c7, c8, c9, c10, c11, c12, c13⟩ := id hm
  have hP := w.1
  have hP5 := w.2.1
  have hok := wf_ok w
  refine ca_iload_n hX (q := 1) 1 rfl rfl rfl dX6_count_0 ?_
  refine ca_bipush hX (q := 3) k_bipush_11 rfl dX6_count_1 ?_
  refine ca_bipush hX (q := 5) k_bipush_16 rfl dX6_count_3 ?_
  refine ca_cSi hX (q := 8) y_X6_isIn w_ml_X6_55 hN (c_X6_isIn l N g _ 11 16) (by decide) rfl (Nat.le_of_ble_eq_true rfl) rfl dX6_count_5 rfl ?_
  refine ca_if_eq hX (q := 11) 21 rfl rfl dX6_count_8 (fun b8 => ?_) (fun b8 => ?_)
  · refine ca_iconst hX (q := 22) k_iconst_0 rfl dX6_count_21 ?_
    refine ca_istore_n hX (q := 23) 2 rfl (ls' := [_, _, _, _, _]) (Nat.le_of_ble_eq_true rfl) (Nat.le_of_ble_eq_true rfl) (Or.inr rfl) rfl rfl dX6_count_22 ?_
    refine ca_iload_n hX (q := 24) 1 rfl rfl rfl dX6_count_23 ?_
    by_cases e24_0 : x1 = 0
    · refine ca_tabIn hX 72 dX6_count_24 (by rw [e24_0]; decide) (by rw [e24_0]; decide) (by rw [e24_0]; rfl) rfl ?_
      refine ca_aload_n hX (q := 73) 0 rfl rfl rfl dX6_count_72 ?_
      refine ca_getf hX (q := 76) cl_X6 0 (by decide) w_fl_X6_9 (by omega) c0 rfl rfl dX6_count_73 ?_
      refine ca_iconst hX (q := 77) k_iconst_0 rfl dX6_count_76 ?_
      refine ca_iaN hX (q := 78) (k := 0) (by omega) c1 (by decide) (by decide) (by decide) rfl dX6_count_77 ?_
      refine ca_iret hX rfl rfl rfl rfl dX6_count_78 ?_
      exact re_end2 (by simp [coA, noA, nk1, nk2, nk3, nk4, nk6, z020, z021, z010, z011, b8, e24_0, kf_0, zc0, zc1, zc2, zc3, zc4, zc5, zc6, zc7]) hfr hm hke
    by_cases e24_1 : x1 = 1
    · refine ca_tabIn hX 79 dX6_count_24 (by rw [e24_1]; decide) (by rw [e24_1]; decide) (by rw [e24_1]; rfl) rfl ?_
      refine ca_aload_n hX (q := 80) 0 rfl rfl rfl dX6_count_79 ?_
      refine ca_getf hX (q := 83) cl_X6 0 (by decide) w_fl_X6_9 (by omega) c0 rfl rfl dX6_count_80 ?_
      refine ca_iconst hX (q := 84) k_iconst_1 rfl dX6_count_83 ?_
      refine ca_iaN hX (q := 85) (k := 1) (by omega) c1 (by decide) (by decide) (by decide) rfl dX6_count_84 ?_
      refine ca_iret hX rfl rfl rfl rfl dX6_count_85 ?_
      exact re_end2 (by simp [coA, noA, nk1, nk2, nk3, nk4, nk6, z020, z021, z010, z011, b8, e24_0, e24_1, kf_0, zc0, zc1, zc2, zc3, zc4, zc5, zc6, zc7]) hfr hm hke
    by_cases e24_2 : x1 = 2
    · refine ca_tabIn hX 86 dX6_count_24 (by rw [e24_2]; decide) (by rw [e24_2]; decide) (by rw [e24_2]; rfl) rfl ?_
      have loop : ∀ (n i : Nat), i + n = 25 → X 88 [some (.ref o), some (.int x1), some (.int (smI (wtH (M 0)) i)), some (.int (nI i)), none] [] N 1000000 g := by
        intro n
        induction n with
        | zero =>
          intro i  hi 
          have hib : i = 25 := by omega
          rw [hib]
          refine ca_iload_n hX (q := 89) 3 rfl rfl rfl dX6_count_88 ?_
          refine ca_bipush hX (q := 91) k_bipush_25 rfl dX6_count_89 ?_
          refine ca_icmp_ge hX (q := 94) 111 rfl rfl dX6_count_91 (fun _ => ?_) (fun z => absurd (nI_le (a := 25) (b := 25) (by omega) (by omega)) z)
          refine ca_iload_n hX (q := 112) 2 rfl rfl rfl dX6_count_111 ?_
          refine ca_iret hX rfl rfl rfl rfl dX6_count_112 ?_
          exact re_end2 (by simp [coA, noA, nk1, nk2, nk3, nk4, nk6, z020, z021, z010, z011, b8, e24_0, e24_1, e24_2, zc0, zc1, zc2, zc3, zc4, zc5, zc6, zc7]) hfr hm hke
        | succ n ih =>
          intro i  hi 
          refine ca_iload_n hX (q := 89) 3 rfl rfl rfl dX6_count_88 ?_
          refine ca_bipush hX (q := 91) k_bipush_25 rfl dX6_count_89 ?_
          refine ca_icmp_ge hX (q := 94) 111 rfl rfl dX6_count_91 (fun z => absurd z (nI_ge (a := i) (b := 25) (by omega) (by omega))) (fun _ => ?_)
          refine ca_iload_n hX (q := 95) 2 rfl rfl rfl dX6_count_94 ?_
          refine ca_aload_n hX (q := 96) 0 rfl rfl rfl dX6_count_95 ?_
          refine ca_getf hX (q := 99) cl_X6 0 (by decide) w_fl_X6_9 (by omega) c0 rfl rfl dX6_count_96 ?_
          refine ca_iload_n hX (q := 100) 3 rfl rfl rfl dX6_count_99 ?_
          refine ca_cSi hX (q := 103) y_X6_worth w_ml_X6_85 hN (c_X6_worth l N g (o + 1) (M 0) c1 (by omega) i (by omega)) (by decide) rfl (Nat.le_of_ble_eq_true rfl) rfl dX6_count_100 rfl ?_
          refine ca_iadd hX (q := 104) rfl dX6_count_103 ?_
          refine ca_istore_n hX (q := 105) 2 rfl (ls' := [_, _, _, _, _]) (Nat.le_of_ble_eq_true rfl) (Nat.le_of_ble_eq_true rfl) (Or.inr rfl) rfl rfl dX6_count_104 ?_
          refine ca_iinc hX (q := 108) (ls' := [_, _, _, _, _]) k_iconst_1 rfl (Nat.le_of_ble_eq_true rfl) (Or.inr rfl) rfl rfl dX6_count_105 ?_
          refine ca_goto hX 88 rfl dX6_count_108 ?_
          rw [nI_1]
          exact ih (i + 1) (by omega)
      refine ca_iconst hX (q := 87) k_iconst_0 rfl dX6_count_86 ?_
      refine ca_istore_n hX (q := 88) 3 rfl (ls' := [_, _, _, _, _]) (Nat.le_of_ble_eq_true rfl) (Nat.le_of_ble_eq_true rfl) (Or.inr rfl) rfl rfl dX6_count_87 ?_
      exact ca_drop hX (ca_le_s rfl (ca_le_s rfl (ca_le_s rfl (ca_le_s rfl (ca_le_n ca_le_0))))) (loop 25 0 (by omega))
    by_cases e24_3 : x1 = 3
    · refine ca_tabIn hX 113 dX6_count_24 (by rw [e24_3]; decide) (by rw [e24_3]; decide) (by rw [e24_3]; rfl) rfl ?_
      have loop : ∀ (n i : Nat), i + n = 25 → X 115 [some (.ref o), some (.int x1), some (.int (smI (wallM (M 0)) i)), some (.int (nI i)), none] [] N 1000000 g := by
        intro n
        induction n with
        | zero =>
          intro i  hi 
          have hib : i = 25 := by omega
          rw [hib]
          refine ca_iload_n hX (q := 116) 3 rfl rfl rfl dX6_count_115 ?_
          refine ca_bipush hX (q := 118) k_bipush_25 rfl dX6_count_116 ?_
          refine ca_icmp_ge hX (q := 121) 147 rfl rfl dX6_count_118 (fun _ => ?_) (fun z => absurd (nI_le (a := 25) (b := 25) (by omega) (by omega)) z)
          refine ca_iload_n hX (q := 148) 2 rfl rfl rfl dX6_count_147 ?_
          refine ca_iret hX rfl rfl rfl rfl dX6_count_148 ?_
          exact re_end2 (by simp [coA, noA, nk1, nk2, nk3, nk4, nk6, z020, z021, z010, z011, b8, e24_0, e24_1, e24_2, e24_3, zc0, zc1, zc2, zc3, zc4, zc5, zc6, zc7]) hfr hm hke
        | succ n ih =>
          intro i  hi 
          refine ca_iload_n hX (q := 116) 3 rfl rfl rfl dX6_count_115 ?_
          refine ca_bipush hX (q := 118) k_bipush_25 rfl dX6_count_116 ?_
          refine ca_icmp_ge hX (q := 121) 147 rfl rfl dX6_count_118 (fun z => absurd z (nI_ge (a := i) (b := 25) (by omega) (by omega))) (fun _ => ?_)
          refine ca_iload_n hX (q := 122) 2 rfl rfl rfl dX6_count_121 ?_
          refine ca_aload_n hX (q := 123) 0 rfl rfl rfl dX6_count_122 ?_
          refine ca_getf hX (q := 126) cl_X6 0 (by decide) w_fl_X6_9 (by omega) c0 rfl rfl dX6_count_123 ?_
          refine ca_iconst hX (q := 127) k_iconst_2 rfl dX6_count_126 ?_
          refine ca_iload_n hX (q := 128) 3 rfl rfl rfl dX6_count_127 ?_
          refine ca_iadd hX (q := 129) rfl dX6_count_128 ?_
          refine ca_iaN hX (q := 130) (k := 2 + i) (by omega) c1 (by decide) (nI_add 2 i) (by omega) rfl dX6_count_129 ?_
          refine ca_iconst hX (q := 131) k_iconst_4 rfl dX6_count_130 ?_
          obtain ⟨kk, hkk, ekk⟩ := w.2.2.1 i (by omega)
          refine ca_icmp_lt hX (q := 134) 138 rfl rfl dX6_count_131 (fun b131 => ?_) (fun b131 => ?_)
          · refine ca_iconst hX (q := 139) k_iconst_0 rfl dX6_count_138 ?_
            refine ca_iadd hX (q := 140) rfl dX6_count_139 ?_
            refine ca_istore_n hX (q := 141) 2 rfl (ls' := [_, _, _, _, _]) (Nat.le_of_ble_eq_true rfl) (Nat.le_of_ble_eq_true rfl) (Or.inr rfl) rfl rfl dX6_count_140 ?_
            refine ca_iinc hX (q := 144) (ls' := [_, _, _, _, _]) k_iconst_1 rfl (Nat.le_of_ble_eq_true rfl) (Or.inr rfl) rfl rfl dX6_count_141 ?_
            refine ca_goto hX 115 rfl dX6_count_144 ?_
            rw [show nI i + 1 = nI (i + 1) from nI_add i 1, show smI (wallM (M 0)) i + 0 = smI (wallM (M 0)) (i + 1) by rw [smI, show wallM (M 0) i = 0 from if_neg (by show ¬ (M 0 (2 + i) = 4 ∨ M 0 (2 + i) = 5); rw [ekk] at b131 ⊢; exact (wl_k kk hkk).1 b131)]]
            exact ih (i + 1) (by omega)
          · refine ca_iconst hX (q := 135) k_iconst_1 rfl dX6_count_134 ?_
            refine ca_goto hX 139 rfl dX6_count_135 ?_
            refine ca_iadd hX (q := 140) rfl dX6_count_139 ?_
            refine ca_istore_n hX (q := 141) 2 rfl (ls' := [_, _, _, _, _]) (Nat.le_of_ble_eq_true rfl) (Nat.le_of_ble_eq_true rfl) (Or.inr rfl) rfl rfl dX6_count_140 ?_
            refine ca_iinc hX (q := 144) (ls' := [_, _, _, _, _]) k_iconst_1 rfl (Nat.le_of_ble_eq_true rfl) (Or.inr rfl) rfl rfl dX6_count_141 ?_
            refine ca_goto hX 115 rfl dX6_count_144 ?_
            rw [show nI i + 1 = nI (i + 1) from nI_add i 1, show smI (wallM (M 0)) i + 1 = smI (wallM (M 0)) (i + 1) by rw [smI, show wallM (M 0) i = 1 from if_pos (by show M 0 (2 + i) = 4 ∨ M 0 (2 + i) = 5; rw [ekk] at b131 ⊢; exact (wl_k kk hkk).2 b131)]]
            exact ih (i + 1) (by omega)
      refine ca_iconst hX (q := 114) k_iconst_0 rfl dX6_count_113 ?_
      refine ca_istore_n hX (q := 115) 3 rfl (ls' := [_, _, _, _, _]) (Nat.le_of_ble_eq_true rfl) (Nat.le_of_ble_eq_true rfl) (Or.inr rfl) rfl rfl dX6_count_114 ?_
      exact ca_drop hX (ca_le_s rfl (ca_le_s rfl (ca_le_s rfl (ca_le_s rfl (ca_le_n ca_le_0))))) (loop 25 0 (by omega))
    by_cases e24_4 : x1 = 4
    · refine ca_tabIn hX 149 dX6_count_24 (by rw [e24_4]; decide) (by rw [e24_4]; decide) (by rw [e24_4]; rfl) rfl ?_
      refine ca_aload_n hX (q := 150) 0 rfl rfl rfl dX6_count_149 ?_
      refine ca_iconst hX (q := 151) k_iconst_0 rfl dX6_count_150 ?_
      refine ca_cVi hX (q := 154) y_X6_knownMany w_ml_X6_154 (by omega) hN c0 (c_X6_knownMany l N g o M hm ho P hP hP5 0) (by decide) rfl (Nat.le_of_ble_eq_true rfl) rfl dX6_count_151 rfl ?_
      refine ca_iret hX rfl rfl rfl rfl dX6_count_154 ?_
      exact re_end2 (by simp [coA, noA, nk1, nk2, nk3, nk4, nk6, z020, z021, z010, z011, b8, e24_0, e24_1, e24_2, e24_3, e24_4, kf_0, zc0, zc1, zc2, zc3, zc4, zc5, zc6, zc7]) hfr hm hke
    by_cases e24_5 : x1 = 5
    · refine ca_tabIn hX 155 dX6_count_24 (by rw [e24_5]; decide) (by rw [e24_5]; decide) (by rw [e24_5]; rfl) rfl ?_
      have loop : ∀ (n i : Nat), i + n = P → X 157 [some (.ref o), some (.int x1), some (.int (smI (fun p => smI (knH (M 0) p) 25) i)), some (.int (nI i)), none] [] N 1000000 g := by
        intro n
        induction n with
        | zero =>
          intro i  hi 
          have hib : i = P := by omega
          rw [hib]
          refine ca_iload_n hX (q := 158) 3 rfl rfl rfl dX6_count_157 ?_
          refine ca_aload_n hX (q := 159) 0 rfl rfl rfl dX6_count_158 ?_
          refine ca_getf hX (q := 162) cl_X6 0 (by decide) w_fl_X6_9 (by omega) c0 rfl rfl dX6_count_159 ?_
          refine ca_iconst hX (q := 163) k_iconst_0 rfl dX6_count_162 ?_
          refine ca_iaN hX (q := 164) (k := 0) (by omega) c1 (by decide) (by decide) (by decide) rfl dX6_count_163 ?_
          refine ca_icmp_ge hX (q := 167) 203 rfl rfl dX6_count_164 (fun _ => ?_) (fun z => absurd (by rw [hP]; exact nI_le (Nat.le_refl _) (by omega)) z)
          refine ca_iload_n hX (q := 204) 2 rfl rfl rfl dX6_count_203 ?_
          refine ca_iret hX rfl rfl rfl rfl dX6_count_204 ?_
          exact re_end2 (by simp [coA, noA, nk1, nk2, nk3, nk4, nk6, z020, z021, z010, z011, b8, e24_0, e24_1, e24_2, e24_3, e24_4, e24_5, zc0, zc1, zc2, zc3, zc4, zc5, zc6, zc7]) hfr hm hke
        | succ n ih =>
          intro i  hi 
          refine ca_iload_n hX (q := 158) 3 rfl rfl rfl dX6_count_157 ?_
          refine ca_aload_n hX (q := 159) 0 rfl rfl rfl dX6_count_158 ?_
          refine ca_getf hX (q := 162) cl_X6 0 (by decide) w_fl_X6_9 (by omega) c0 rfl rfl dX6_count_159 ?_
          refine ca_iconst hX (q := 163) k_iconst_0 rfl dX6_count_162 ?_
          refine ca_iaN hX (q := 164) (k := 0) (by omega) c1 (by decide) (by decide) (by decide) rfl dX6_count_163 ?_
          refine ca_icmp_ge hX (q := 167) 203 rfl rfl dX6_count_164 (fun z => absurd z (by rw [hP]; exact nI_ge (a := i) (b := P) (by omega) (by omega))) (fun _ => ?_)
          have loop2 : ∀ (n2 j : Nat), j + n2 = 25 → X 170 [some (.ref o), some (.int x1), some (.int ((smI (fun p => smI (knH (M 0) p) 25) i) + smI (knH (M 0) i) j)), some (.int (nI i)), some (.int (nI j))] [] N 1000000 g := by
            intro n2
            induction n2 with
            | zero =>
              intro j  hj 
              have hjb : j = 25 := by omega
              rw [hjb]
              refine ca_iload hX (q := 172) rfl rfl dX6_count_170 ?_
              refine ca_bipush hX (q := 174) k_bipush_25 rfl dX6_count_172 ?_
              refine ca_icmp_ge hX (q := 177) 197 rfl rfl dX6_count_174 (fun _ => ?_) (fun z => absurd (nI_le (a := 25) (b := 25) (by omega) (by omega)) z)
              refine ca_iinc hX (q := 200) (ls' := [_, _, _, _, _]) k_iconst_1 rfl (Nat.le_of_ble_eq_true rfl) (Or.inr rfl) rfl rfl dX6_count_197 ?_
              refine ca_goto hX 157 rfl dX6_count_200 ?_
              rw [nI_1]
              exact ca_drop hX (ca_le_s rfl (ca_le_s rfl (ca_le_s rfl (ca_le_s rfl (ca_le_n ca_le_0))))) (ih (i + 1) (by omega))
            | succ n2 ih2 =>
              intro j  hj 
              refine ca_iload hX (q := 172) rfl rfl dX6_count_170 ?_
              refine ca_bipush hX (q := 174) k_bipush_25 rfl dX6_count_172 ?_
              refine ca_icmp_ge hX (q := 177) 197 rfl rfl dX6_count_174 (fun z => absurd z (nI_ge (a := j) (b := 25) (by omega) (by omega))) (fun _ => ?_)
              refine ca_iload_n hX (q := 178) 2 rfl rfl rfl dX6_count_177 ?_
              refine ca_aload_n hX (q := 179) 0 rfl rfl rfl dX6_count_178 ?_
              refine ca_getf hX (q := 182) cl_X6 0 (by decide) w_fl_X6_9 (by omega) c0 rfl rfl dX6_count_179 ?_
              refine ca_iload_n hX (q := 183) 3 rfl rfl rfl dX6_count_182 ?_
              refine ca_iload hX (q := 185) rfl rfl dX6_count_183 ?_
              refine ca_cSi hX (q := 188) y_X6_known w_ml_X6_64 hN (c_X6_known l N g i j) (by decide) rfl (Nat.le_of_ble_eq_true rfl) rfl dX6_count_185 rfl ?_
              refine ca_iaN hX (q := 189) (k := 57 + (25 * i + j)) (by omega) c1 (by decide) rfl (by omega) rfl dX6_count_188 ?_
              refine ca_iadd hX (q := 190) rfl dX6_count_189 ?_
              refine ca_istore_n hX (q := 191) 2 rfl (ls' := [_, _, _, _, _]) (Nat.le_of_ble_eq_true rfl) (Nat.le_of_ble_eq_true rfl) (Or.inr rfl) rfl rfl dX6_count_190 ?_
              refine ca_iinc hX (q := 194) (ls' := [_, _, _, _, _]) k_iconst_1 rfl (Nat.le_of_ble_eq_true rfl) (Or.inr rfl) rfl rfl dX6_count_191 ?_
              refine ca_goto hX 170 rfl dX6_count_194 ?_
              rw [nI_1, Int32.add_assoc]
              exact ih2 (j + 1) (by omega)
          refine ca_iconst hX (q := 168) k_iconst_0 rfl dX6_count_167 ?_
          refine ca_istore hX (q := 170) (ls' := [_, _, _, _, _]) (Nat.le_of_ble_eq_true rfl) (Nat.le_of_ble_eq_true rfl) (Or.inr rfl) rfl rfl dX6_count_168 ?_
          have z := loop2 25 0 (by omega)
          rw [show smI (knH (M 0) i) 0 = 0 from rfl, Int32.add_zero] at z
          exact z
      refine ca_iconst hX (q := 156) k_iconst_0 rfl dX6_count_155 ?_
      refine ca_istore_n hX (q := 157) 3 rfl (ls' := [_, _, _, _, _]) (Nat.le_of_ble_eq_true rfl) (Nat.le_of_ble_eq_true rfl) (Or.inr rfl) rfl rfl dX6_count_156 ?_
      exact ca_drop hX (ca_le_s rfl (ca_le_s rfl (ca_le_s rfl (ca_le_s rfl (ca_le_n ca_le_0))))) (loop P 0 (by omega))
    by_cases e24_6 : x1 = 6
    · refine ca_tabIn hX 205 dX6_count_24 (by rw [e24_6]; decide) (by rw [e24_6]; decide) (by rw [e24_6]; rfl) rfl ?_
      refine ca_aload_n hX (q := 206) 0 rfl rfl rfl dX6_count_205 ?_
      refine ca_getf hX (q := 209) cl_X6 9 (by decide) w_fl_X6_190 (by omega) c0 rfl rfl dX6_count_206 ?_
      refine ca_iret hX rfl rfl rfl rfl dX6_count_209 ?_
      exact re_end2 (by simp [coA, noA, nk1, nk2, nk3, nk4, nk6, z020, z021, z010, z011, b8, e24_0, e24_1, e24_2, e24_3, e24_4, e24_5, e24_6, kf_0, zc0, zc1, zc2, zc3, zc4, zc5, zc6, zc7]) hfr hm hke
    by_cases e24_7 : x1 = 7
    · refine ca_tabIn hX 210 dX6_count_24 (by rw [e24_7]; decide) (by rw [e24_7]; decide) (by rw [e24_7]; rfl) rfl ?_
      refine ca_aload_n hX (q := 211) 0 rfl rfl rfl dX6_count_210 ?_
      refine ca_getf hX (q := 214) cl_X6 8 (by decide) w_fl_X6_118 (by omega) c0 rfl rfl dX6_count_211 ?_
      refine ca_iret hX rfl rfl rfl rfl dX6_count_214 ?_
      exact re_end2 (by simp [coA, noA, nk1, nk2, nk3, nk4, nk6, z020, z021, z010, z011, b8, e24_0, e24_1, e24_2, e24_3, e24_4, e24_5, e24_6, e24_7, kf_0, zc0, zc1, zc2, zc3, zc4, zc5, zc6, zc7]) hfr hm hke
    refine ca_tabOut hX 215 dX6_count_24 (by have z0 := lv_neT (k := 0) (a := 0) e24_0 (by decide); have z1 := lv_neT (k := 1) (a := 1) e24_1 (by decide); have z2 := lv_neT (k := 2) (a := 2) e24_2 (by decide); have z3 := lv_neT (k := 3) (a := 3) e24_3 (by decide); have z4 := lv_neT (k := 4) (a := 4) e24_4 (by decide); have z5 := lv_neT (k := 5) (a := 5) e24_5 (by decide); have z6 := lv_neT (k := 6) (a := 6) e24_6 (by decide); have z7 := lv_neT (k := 7) (a := 7) e24_7 (by decide); omega) rfl ?_
    refine ca_bipush hX (q := 217) k_bipush_m9 rfl dX6_count_215 ?_
    refine ca_iret hX rfl rfl rfl rfl dX6_count_217 ?_
    exact re_end2 (by simp [coA, noA, nk1, nk2, nk3, nk4, nk6, z020, z021, z010, z011, b8, e24_0, e24_1, e24_2, e24_3, e24_4, e24_5, e24_6, e24_7, kf_0, zc0, zc1, zc2, zc3, zc4, zc5, zc6, zc7]) hfr hm hke
  · obtain ⟨k, hk7, ek⟩ := in_mid b8
    have ek2 := nI_clamp (n := k) (by omega)
    refine ca_aload_n hX (q := 12) 0 rfl rfl rfl dX6_count_11 ?_
    refine ca_getf hX (q := 15) cl_X6 7 (by decide) w_fl_X6_28 (by omega) c0 rfl rfl dX6_count_12 ?_
    refine ca_iload_n hX (q := 16) 1 rfl rfl rfl dX6_count_15 ?_
    refine ca_bipush hX (q := 18) k_bipush_10 rfl dX6_count_16 ?_
    refine ca_isub hX (q := 19) rfl dX6_count_18 ?_
    refine ca_iaN hX (q := 20) (k := k) (by omega) c7 (by decide) ek hk7 rfl dX6_count_19 ?_
    refine ca_iret hX rfl rfl rfl rfl dX6_count_20 ?_
    exact re_end2 (by simp [coA, noA, nk1, nk2, nk3, nk4, nk6, z020, z021, z010, z011, b8, ek, ek2, kf_0, zc0, zc1, zc2, zc3, zc4, zc5, zc6, zc7]) hfr hm hke

