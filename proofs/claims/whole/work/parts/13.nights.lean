theorem w_mxs : Cond.static Lib.Math.max.name ∈ ca_TT := y_J9_max_7cf53.2
theorem w_mxi : Cond.initialized "java/lang/Math" ∈ ca_TT := w_in_J9
theorem w_mxc : Cond.code Lib.Math.max.name Lib.Math.max.code 2 (some .int) ∈ ca_TT := y0_J9_max_7cf53.1
theorem w_mns : Cond.static Lib.Math.min.name ∈ ca_TT := y_J9_min_7cf53.2
theorem w_mnc : Cond.code Lib.Math.min.name Lib.Math.min.code 2 (some .int) ∈ ca_TT := y0_J9_min_7cf53.1

set_option maxRecDepth 100000 in
set_option maxHeartbeats 4000000 in
theorem c_X1_forgetSome (l : Launch) (N : Nat) (g : ca_G) (b : Nat) (h : Nat → Int32) (hh : hsG g b h) (hb : b + 5 ≤ N) (P : Nat) (hP : h 0 = nI P) (hP5 : P ≤ 5) (p : Nat) (hp : p < P) : ca_Ct l yX1_forgetSome cX1_forgetSome 4 none 1 0 0 N 1000000 [.ref b, .int (nI p)] g (fun rr g' => rr = none ∧ hsG g' b (fgM h p 25) ∧ frG g g' b (b + 5)) := by
  refine ca_intro (by decide) (Nat.le_of_ble_eq_true rfl) (fun X hX hN => ?_)
  show X 0 [_, _, none, none] [] N 1000000 g
  obtain ⟨g0, hg0⟩ : ∃ g0, g0 = g := ⟨g, rfl⟩
  have loop : ∀ (n i : Nat), i + n = 25 → ∀ g, hsG g b (fgM h p i) → frG g0 g b (b + 5) → ∀ x, X 11 [some (.ref b), some (.int (nI p)), some (.int (nI i)), x] [] N 1000000 g := by
    rw [hg0]
    clear hh
    intro n
    induction n with
    | zero =>
      intro i hi g hh hfr x
      obtain rfl : i = 25 := by omega
      obtain ⟨h0, h1, h2, h3, h4⟩ := id hh
      refine ca_iload_n hX (q := 12) 2 rfl rfl rfl dX1_forgetSome_11 ?_
      refine ca_bipush hX (q := 14) k_bipush_25 rfl dX1_forgetSome_12 ?_
      refine ca_icmp_ge hX (q := 17) 48 rfl rfl dX1_forgetSome_14 (fun _ => ?_) (fun z => absurd (nI_le (a := 25) (b := 25) (by omega) (by omega)) z)
      refine ca_vret hX rfl rfl rfl rfl dX1_forgetSome_48 ?_
      exact ⟨rfl, hh, hfr⟩
    | succ n ih =>
      intro i hi g hh hfr x
      obtain ⟨h0, h1, h2, h3, h4⟩ := id hh
      refine ca_iload_n hX (q := 12) 2 rfl rfl rfl dX1_forgetSome_11 ?_
      refine ca_bipush hX (q := 14) k_bipush_25 rfl dX1_forgetSome_12 ?_
      refine ca_icmp_ge hX (q := 17) 48 rfl rfl dX1_forgetSome_14 (fun z => absurd z (nI_ge (a := i) (b := 25) (by omega) (by omega))) (fun _ => ?_)
      refine ca_iload_n hX (q := 18) 1 rfl rfl rfl dX1_forgetSome_17 ?_
      refine ca_bipush hX (q := 20) k_bipush_25 rfl dX1_forgetSome_18 ?_
      refine ca_imul hX (q := 21) rfl dX1_forgetSome_20 ?_
      refine ca_iload_n hX (q := 22) 2 rfl rfl rfl dX1_forgetSome_21 ?_
      refine ca_iadd hX (q := 23) rfl dX1_forgetSome_22 ?_
      refine ca_istore_n hX (q := 24) 3 rfl (ls' := [_, _, _, _]) (Nat.le_of_ble_eq_true rfl) (Nat.le_of_ble_eq_true rfl) (Or.inr rfl) rfl rfl dX1_forgetSome_23 ?_
      refine ca_aload_n hX (q := 25) 0 rfl rfl rfl dX1_forgetSome_24 ?_
      refine ca_getf hX (q := 28) cl_X1 3 (by decide) w_fl_X1_21 (by omega) h0 rfl rfl dX1_forgetSome_25 ?_
      refine ca_iload_n hX (q := 29) 3 rfl rfl rfl dX1_forgetSome_28 ?_
      refine ca_iconst hX (q := 30) k_iconst_0 rfl dX1_forgetSome_29 ?_
      refine ca_aload_n hX (q := 31) 0 rfl rfl rfl dX1_forgetSome_30 ?_
      refine ca_getf hX (q := 34) cl_X1 3 (by decide) w_fl_X1_21 (by omega) h0 rfl rfl dX1_forgetSome_31 ?_
      refine ca_iload_n hX (q := 35) 3 rfl rfl rfl dX1_forgetSome_34 ?_
      refine ca_iaN hX (q := 36) (k := 25 * p + i) (by omega) h4 (by decide) (ixK (by omega) (by omega)) (by omega) rfl dX1_forgetSome_35 ?_
      refine ca_iconst hX (q := 37) k_iconst_1 rfl dX1_forgetSome_36 ?_
      refine ca_isub hX (q := 38) rfl dX1_forgetSome_37 ?_
      refine ca_mmax hX (q := 41) w_ml_X1_78 w_mxs w_mxi w_mxc (by decide) (Nat.le_of_ble_eq_true rfl) rfl dX1_forgetSome_38 ?_
      refine ca_iaS hX (q := 42) (k := 25 * p + i) (by omega) hN (Nat.le_refl _) h4 (by decide) (ixK (by omega) (by omega)) (by omega) rfl dX1_forgetSome_41 (fun g hE hF => ?_)
      have h0 := (hF b (by omega)).trans h0
      have h1 := (hF (b + 1) (by omega)).trans h1
      have h2 := (hF (b + 2) (by omega)).trans h2
      have h3 := (hF (b + 3) (by omega)).trans h3
      have h4 := hE
      have hfr : frG _ g b (b + 5) := fun j hj => (hF j (by omega)).trans (hfr j hj)
      refine ca_iinc hX (q := 45) (ls' := [_, _, _, _]) k_iconst_1 rfl (Nat.le_of_ble_eq_true rfl) (Or.inr rfl) rfl rfl dX1_forgetSome_42 ?_
      refine ca_goto hX 11 rfl dX1_forgetSome_45 ?_
      rw [nI_1]
      refine ih (i + 1) (by omega) _ ?_ hfr _
      rw [← fgM_s, dcI, ← msk_in (o := 57) (n := 125) (r := 25 * p + i) (h := fgM h p i) (by omega)]
      refine ⟨?_, ?_, ?_, ?_, ?_⟩
      · rw [h0, upd_n _ _ (by omega), upd_n _ _ (by omega)]
      · rw [h1]; exact congrArg (fun f => Sum.inl (25, f)) (msk_ext fun j hj => by rw [upd_n _ _ (by omega)])
      · rw [h2]; exact congrArg (fun f => Sum.inl (25, f)) (msk_ext fun j hj => by rw [upd_n _ _ (by omega)])
      · rw [h3]; exact congrArg (fun f => Sum.inl (5, f)) (msk_ext fun j hj => by rw [upd_n _ _ (by omega)])
      · rw [h4, msk_upd (by omega)]
  obtain ⟨h0, h1, h2, h3, h4⟩ := id hh
  refine ca_aload_n hX (q := 1) 0 rfl rfl rfl dX1_forgetSome_0 ?_
  refine ca_iload_n hX (q := 2) 1 rfl rfl rfl dX1_forgetSome_1 ?_
  refine ca_cVi hX (q := 5) y_X1_hasPerson w_ml_X1_60 (by omega) hN h0 (c_X1_hasPerson l N g b h hh hb (nI p)) (by decide) rfl (by decide) rfl dX1_forgetSome_2 rfl ?_
  refine ca_if_ne hX (q := 8) 9 rfl rfl dX1_forgetSome_5 (fun _ => ?_) (fun z => absurd z (by rw [hpB_ok hP hP5 hp]; decide))
  refine ca_iconst hX (q := 10) k_iconst_0 rfl dX1_forgetSome_9 ?_
  refine ca_istore_n hX (q := 11) 2 rfl (ls' := [_, _, _, _]) (Nat.le_of_ble_eq_true rfl) (Nat.le_of_ble_eq_true rfl) (Or.inr rfl) rfl rfl dX1_forgetSome_10 ?_
  exact loop 25 0 (by omega) g (by rw [fgM_0]; exact hh) (by rw [hg0]; exact frG.rf) _

set_option maxRecDepth 100000 in
set_option maxHeartbeats 4000000 in
theorem c_X1_passNights (l : Launch) (N : Nat) (g : ca_G) (b : Nat) (h : Nat → Int32) (hh : hsG g b h) (hb : b + 5 ≤ N) (P : Nat) (hP : h 0 = nI P) (hP5 : P ≤ 5) (k : Nat) (hk : k < 1000) : ca_Ct l yX1_passNights cX1_passNights 5 none 2 0 0 N 1000000 [.ref b, .int (nI k)] g (fun rr g' => rr = none ∧ hsG g' b (pnM P h k) ∧ frG g g' b (b + 5)) := by
  refine ca_intro (by decide) (Nat.le_of_ble_eq_true rfl) (fun X hX hN => ?_)
  show X 0 [_, _, none, none, none] [] N 1000000 g
  have loop : ∀ (n i : Nat), i + n = k → ∀ g1, hsG g1 b (pnM P h i) → frG g g1 b (b + 5) → ∀ x z, X 2 [some (.ref b), some (.int (nI k)), some (.int (nI i)), x, z] [] N 1000000 g1 := by
    intro n
    induction n with
    | zero =>
      intro i hi g hh hfr x z
      have ei : i = k := by omega
      subst ei
      obtain ⟨h0, h1, h2, h3, h4⟩ := id hh
      refine ca_iload_n hX (q := 3) 2 rfl rfl rfl dX1_passNights_2 ?_
      refine ca_iload_n hX (q := 4) 1 rfl rfl rfl dX1_passNights_3 ?_
      refine ca_icmp_ge hX (q := 7) 66 rfl rfl dX1_passNights_4 (fun _ => ?_) (fun z => absurd (nI_le (Nat.le_refl _) (by omega)) z)
      refine ca_vret hX rfl rfl rfl rfl dX1_passNights_66 ?_
      exact ⟨rfl, hh, hfr⟩
    | succ n ih =>
      intro i hi g1 hh1 hfr1 x z
      have inner : ∀ (n2 j : Nat), j + n2 = P → ∀ g1, hsG g1 b (ngM (upd (pnM P h i) 1 (pnM P h i 1 + 1)) j) → frG g g1 b (b + 5) → ∀ x, X 19 [some (.ref b), some (.int (nI k)), some (.int (nI i)), some (.int (nI j)), x] [] N 1000000 g1 := by
        intro n2
        induction n2 with
        | zero =>
          intro j hj g hh hfr x
          have ej : j = P := by omega
          have hq : (ngM (upd (pnM P h i) 1 (pnM P h i 1 + 1)) j) 0 = nI P := by rw [ngM_lo _ (by omega), upd_n _ _ (by omega), pnM_0, hP]
          obtain ⟨h0, h1, h2, h3, h4⟩ := id hh
          refine ca_iload_n hX (q := 20) 3 rfl rfl rfl dX1_passNights_19 ?_
          refine ca_aload_n hX (q := 21) 0 rfl rfl rfl dX1_passNights_20 ?_
          refine ca_getf hX (q := 24) cl_X1 4 (by decide) w_fl_X1_24 (by omega) h0 rfl rfl dX1_passNights_21 ?_
          refine ca_icmp_ge hX (q := 27) 60 rfl rfl dX1_passNights_24 (fun _ => ?_) (fun z => absurd (by rw [hq, ej]; exact nI_le (Nat.le_refl _) (by omega)) z)
          refine ca_iinc hX (q := 63) (ls' := [_, _, _, _, _]) k_iconst_1 rfl (Nat.le_of_ble_eq_true rfl) (Or.inr rfl) rfl rfl dX1_passNights_60 ?_
          refine ca_goto hX 2 rfl dX1_passNights_63 ?_
          rw [nI_1]
          exact ih (i + 1) (by omega) g (by rw [pnM, nsM]; rw [ej] at hh; exact hh) hfr _ _
        | succ n2 ih2 =>
          intro j hj g hh hfr x
          have hq : (ngM (upd (pnM P h i) 1 (pnM P h i 1 + 1)) j) 0 = nI P := by rw [ngM_lo _ (by omega), upd_n _ _ (by omega), pnM_0, hP]
          obtain ⟨h0, h1, h2, h3, h4⟩ := id hh
          refine ca_iload_n hX (q := 20) 3 rfl rfl rfl dX1_passNights_19 ?_
          refine ca_aload_n hX (q := 21) 0 rfl rfl rfl dX1_passNights_20 ?_
          refine ca_getf hX (q := 24) cl_X1 4 (by decide) w_fl_X1_24 (by omega) h0 rfl rfl dX1_passNights_21 ?_
          refine ca_icmp_ge hX (q := 27) 60 rfl rfl dX1_passNights_24 (fun z => absurd z (by rw [hq]; exact nI_ge (a := j) (b := P) (by omega) (by omega))) (fun _ => ?_)
          refine ca_aload_n hX (q := 28) 0 rfl rfl rfl dX1_passNights_27 ?_
          refine ca_iload_n hX (q := 29) 3 rfl rfl rfl dX1_passNights_28 ?_
          refine ca_cVi hX (q := 32) y_X1_sharpOf w_ml_X1_71 (by omega) hN h0 (c_X1_sharpOf l N g b _ hh hb P hq hP5 j (by omega)) (by decide) rfl (by decide) rfl dX1_passNights_29 rfl ?_
          refine ca_istore hX (q := 34) (ls' := [_, _, _, _, _]) (Nat.le_of_ble_eq_true rfl) (Nat.le_of_ble_eq_true rfl) (Or.inr rfl) rfl rfl dX1_passNights_32 ?_
          refine ca_iload hX (q := 36) rfl rfl dX1_passNights_34 ?_
          refine ca_if_le hX (q := 39) 54 rfl rfl dX1_passNights_36 (fun c36 => ?_) (fun c36 => ?_)
          · refine ca_iinc hX (q := 57) (ls' := [_, _, _, _, _]) k_iconst_1 rfl (Nat.le_of_ble_eq_true rfl) (Or.inr rfl) rfl rfl dX1_passNights_54 ?_
            refine ca_goto hX 19 rfl dX1_passNights_57 ?_
            rw [nI_1]
            refine ih2 (j + 1) (by omega) g ?_ hfr _
            rw [ngM, if_pos c36]; exact hh
          · refine ca_aload_n hX (q := 40) 0 rfl rfl rfl dX1_passNights_39 ?_
            refine ca_getf hX (q := 43) cl_X1 5 (by decide) w_fl_X1_28 (by omega) h0 rfl rfl dX1_passNights_40 ?_
            refine ca_iload hX (q := 45) rfl rfl dX1_passNights_43 ?_
            refine ca_irem hX (q := 46) (fun e => c36 (by rw [e]; decide)) rfl dX1_passNights_45 ?_
            refine ca_if_ne hX (q := 49) 54 rfl rfl dX1_passNights_46 (fun c46 => ?_) (fun c46 => ?_)
            · refine ca_iinc hX (q := 57) (ls' := [_, _, _, _, _]) k_iconst_1 rfl (Nat.le_of_ble_eq_true rfl) (Or.inr rfl) rfl rfl dX1_passNights_54 ?_
              refine ca_goto hX 19 rfl dX1_passNights_57 ?_
              rw [nI_1]
              refine ih2 (j + 1) (by omega) g ?_ hfr _
              rw [ngM, if_neg c36, if_pos c46]; exact hh
            · refine ca_aload_n hX (q := 50) 0 rfl rfl rfl dX1_passNights_49 ?_
              refine ca_iload_n hX (q := 51) 3 rfl rfl rfl dX1_passNights_50 ?_
              refine ca_cV hX (q := 54) y_X1_forgetSome w_ml_X1_74 (by omega) hN h0 (c_X1_forgetSome l N g b _ hh hb P hq hP5 j (by omega)) (by decide) rfl (by decide) rfl dX1_passNights_51 rfl ?_
              rintro _ g ⟨rfl, hh, hf⟩
              have hfr := frG.tr hfr hf
              refine ca_iinc hX (q := 57) (ls' := [_, _, _, _, _]) k_iconst_1 rfl (Nat.le_of_ble_eq_true rfl) (Or.inr rfl) rfl rfl dX1_passNights_54 ?_
              refine ca_goto hX 19 rfl dX1_passNights_57 ?_
              rw [nI_1]
              refine ih2 (j + 1) (by omega) g ?_ hfr _
              rw [ngM, if_neg c36, if_neg (fun z => z c46)]; exact hh
      obtain ⟨h0, h1, h2, h3, h4⟩ := id hh1
      refine ca_iload_n hX (q := 3) 2 rfl rfl rfl dX1_passNights_2 ?_
      refine ca_iload_n hX (q := 4) 1 rfl rfl rfl dX1_passNights_3 ?_
      refine ca_icmp_ge hX (q := 7) 66 rfl rfl dX1_passNights_4 (fun z => absurd z (nI_ge (a := i) (b := k) (by omega) (by omega))) (fun _ => ?_)
      refine ca_aload_n hX (q := 8) 0 rfl rfl rfl dX1_passNights_7 ?_
      refine ca_dup hX (q := 9) rfl rfl dX1_passNights_8 ?_
      refine ca_getf hX (q := 12) cl_X1 5 (by decide) w_fl_X1_28 (by omega) h0 rfl rfl dX1_passNights_9 ?_
      refine ca_iconst hX (q := 13) k_iconst_1 rfl dX1_passNights_12 ?_
      refine ca_iadd hX (q := 14) rfl dX1_passNights_13 ?_
      refine ca_puti hX (q := 17) (fs' := [_, _, _, _, _, _]) cl_X1 5 (by decide) w_fl_X1_28 rfl rfl (by omega) hN h0 (Nat.le_of_ble_eq_true rfl) rfl rfl dX1_passNights_14 (fun g2 hE hF => ?_)
      have h0 := hE
      have h1 := (hF (b + 1) (by omega)).trans h1
      have h2 := (hF (b + 2) (by omega)).trans h2
      have h3 := (hF (b + 3) (by omega)).trans h3
      have h4 := (hF (b + 4) (by omega)).trans h4
      have hfr1 : frG g _ b (b + 5) := fun j hj => (hF j (by omega)).trans (hfr1 j hj)
      refine ca_iconst hX (q := 18) k_iconst_0 rfl dX1_passNights_17 ?_
      refine ca_istore_n hX (q := 19) 3 rfl (ls' := [_, _, _, _, _]) (Nat.le_of_ble_eq_true rfl) (Nat.le_of_ble_eq_true rfl) (Or.inr rfl) rfl rfl dX1_passNights_18 ?_
      refine inner P 0 (by omega) _ ?_ hfr1 _
      rw [ngM]
      refine ⟨?_, ?_, ?_, ?_, ?_⟩
      · rw [h0, upd_n _ _ (by omega), upd_s]
      · rw [h1]; exact congrArg (fun f => Sum.inl (25, f)) (msk_ext fun j hj => by rw [upd_n _ _ (by omega)])
      · rw [h2]; exact congrArg (fun f => Sum.inl (25, f)) (msk_ext fun j hj => by rw [upd_n _ _ (by omega)])
      · rw [h3]; exact congrArg (fun f => Sum.inl (5, f)) (msk_ext fun j hj => by rw [upd_n _ _ (by omega)])
      · rw [h4]; exact congrArg (fun f => Sum.inl (125, f)) (msk_ext fun j hj => by rw [upd_n _ _ (by omega)])
  refine ca_iconst hX (q := 1) k_iconst_0 rfl dX1_passNights_0 ?_
  refine ca_istore_n hX (q := 2) 2 rfl (ls' := [_, _, _, _, _]) (Nat.le_of_ble_eq_true rfl) (Nat.le_of_ble_eq_true rfl) (Or.inr rfl) rfl rfl dX1_passNights_1 ?_
  exact loop k 0 (by omega) g hh frG.rf _ _
