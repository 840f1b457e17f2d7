/-! a look at a house -/
def lkM (B : Nat → Nat → Int32) (h : Nat → Int32) (i : Nat) : Prop := (∀ r, r < i → B 1 r = wtH h r) ∧ ∀ c, 1 ≤ c → c ≤ 4 → ∀ r, bt (B 0 c) r = (decide (r < i) && decide (ctH h r = nI c))
theorem lkM_n {B : Nat → Nat → Int32} {h : Nat → Int32} {i : Nat} {w : Int32} (hB : lkM B h i) (hw : w = wtH h i) (hc : ∀ c, 1 ≤ c → c ≤ 4 → ctH h i ≠ nI c) : lkM (upB B 1 i w) h (i + 1) := by
  refine ⟨fun r hr => ?_, fun c h1 h4 r => ?_⟩
  · rw [upB_s]
    by_cases e : r = i
    · subst e; rw [upd_s, hw]
    · rw [upd_n _ _ e]; exact hB.1 r (by omega)
  · rw [upB_n _ _ _ (by omega), hB.2 c h1 h4 r]
    by_cases e : r = i
    · subst e; simp [hc c h1 h4]
    · rw [show decide (r < i + 1) = decide (r < i) by apply decide_eq_decide.mpr; omega]
theorem lkM_c {B : Nat → Nat → Int32} {h : Nat → Int32} {i c0 : Nat} {w : Int32} (hi : i < 25) (hB : lkM B h i) (hw : w = wtH h i) (hc : ctH h i = nI c0) (hc4 : c0 ≤ 4) : lkM (upB (upB B 1 i w) 0 c0 (upB B 1 i w 0 c0 ||| 1 <<< (nI i &&& 31))) h (i + 1) := by
  refine ⟨fun r hr => ?_, fun c h1 h4 r => ?_⟩
  · rw [upB_n _ _ _ (by omega), upB_s]
    by_cases e : r = i
    · subst e; rw [upd_s, hw]
    · rw [upd_n _ _ e]; exact hB.1 r (by omega)
  · rw [upB_s, upB_n _ _ _ (show (0 : Nat) ≠ 1 by omega)]
    by_cases ec : c = c0
    · subst ec
      rw [upd_s, b_or, b_one i (by omega), hB.2 c h1 h4 r]
      by_cases e : r = i
      · subst e; simp [hc]
      · rw [show decide (r < i + 1) = decide (r < i) by apply decide_eq_decide.mpr; omega]; simp [e]
    · rw [upd_n _ _ ec, hB.2 c h1 h4 r]
      by_cases e : r = i
      · subst e
        have : ctH h r ≠ nI c := by rw [hc]; intro z; exact ec ((nI_eq (by omega) (by omega)).mp z).symm
        simp [this]
      · rw [show decide (r < i + 1) = decide (r < i) by apply decide_eq_decide.mpr; omega]

set_option maxRecDepth 100000 in
set_option maxHeartbeats 4000000 in
theorem c_X0_lookAt (l : Launch) (N : Nat) (g : ca_G) (z : Nat) (B : Nat → Nat → Int32) (hz : bzG g z B) (hb : z + 9 ≤ N) (b : Nat) (h : Nat → Int32) (hh : hsG g b h) (hbh : b + 5 ≤ N) (hd : b + 5 ≤ z ∨ z + 9 ≤ b) (P : Nat) (hP : h 0 = nI P) (hP5 : P ≤ 5) : ca_Ct l yX0_lookAt cX0_lookAt 5 none 2 0 0 N 1000000 [.ref z, .ref b] g (fun rr g' => rr = none ∧ (∃ B', bzG g' z B' ∧ lkM B' h 25 ∧ B' 8 0 = nI P ∧ ∀ p, p < P → B' 2 p = sayM h p 25) ∧ frG g g' z (z + 9)) := by
  refine ca_intro (by decide) (Nat.le_of_ble_eq_true rfl) (fun X hX hN => ?_)
  show X 0 [_, _, none, none, none] [] N 1000000 g
  have loop3 : ∀ (n i : Nat), i + n = P → ∀ g1 B1, bzG g1 z B1 → hsG g1 b h → frG g g1 z (z + 9) → lkM B1 h 25 → B1 8 0 = nI P → (∀ p, p < i → B1 2 p = sayM h p 25) → ∀ o1 o2, X 101 [some (.ref z), some (.ref b), some (.int (nI i)), o1, o2] [] N 1000000 g1 := by
    intro n
    induction n with
    | zero =>
      intro i hi g B1 hz hh hfr hl hq hs o1 o2
      obtain ⟨c0, c1, c2, c3, c4, c5, c6, c7, c8⟩ := id hz
      obtain ⟨h0, h1, h2, h3, h4⟩ := id hh
      refine ca_iload_n hX (q := 102) 2 rfl rfl rfl dX0_lookAt_101 ?_
      refine ca_aload_n hX (q := 103) 0 rfl rfl rfl dX0_lookAt_102 ?_
      refine ca_getf hX (q := 106) cl_X0 8 (by decide) w_fl_X0_63 (by omega) c0 rfl rfl dX0_lookAt_103 ?_
      refine ca_icmp_ge hX (q := 109) 126 rfl rfl dX0_lookAt_106 (fun _ => ?_) (fun z => absurd (by rw [hq]; exact nI_le (by omega) (by omega)) z)
      refine ca_vret hX rfl rfl rfl rfl dX0_lookAt_126 ?_
      exact ⟨rfl, ⟨B1, hz, hl, hq, fun p hp => hs p (by omega)⟩, hfr⟩
    | succ n ih =>
      intro i hi g B1 hz hh hfr hl hq hs o1 o2
      obtain ⟨c0, c1, c2, c3, c4, c5, c6, c7, c8⟩ := id hz
      obtain ⟨h0, h1, h2, h3, h4⟩ := id hh
      refine ca_iload_n hX (q := 102) 2 rfl rfl rfl dX0_lookAt_101 ?_
      refine ca_aload_n hX (q := 103) 0 rfl rfl rfl dX0_lookAt_102 ?_
      refine ca_getf hX (q := 106) cl_X0 8 (by decide) w_fl_X0_63 (by omega) c0 rfl rfl dX0_lookAt_103 ?_
      refine ca_icmp_ge hX (q := 109) 126 rfl rfl dX0_lookAt_106 (fun z => absurd z (by rw [hq]; exact nI_ge (by omega) (by omega))) (fun _ => ?_)
      refine ca_aload_n hX (q := 110) 0 rfl rfl rfl dX0_lookAt_109 ?_
      refine ca_getf hX (q := 113) cl_X0 2 (by decide) w_fl_X0_18 (by omega) c0 rfl rfl dX0_lookAt_110 ?_
      refine ca_iload_n hX (q := 114) 2 rfl rfl rfl dX0_lookAt_113 ?_
      refine ca_aload_n hX (q := 115) 1 rfl rfl rfl dX0_lookAt_114 ?_
      refine ca_iload_n hX (q := 116) 2 rfl rfl rfl dX0_lookAt_115 ?_
      refine ca_cVi hX (q := 119) y_X1_roomsSayableBy w_ml_X0_64 (by omega) hN h0 (c_X1_roomsSayableBy l N g b h hh hbh P hP hP5 i (by omega)) (by decide) rfl (Nat.le_of_ble_eq_true rfl) rfl dX0_lookAt_116 rfl ?_
      refine ca_iaS hX (q := 120) (k := i) (by omega) hN (Nat.le_refl _) c3 (by decide) rfl (by omega) rfl dX0_lookAt_119 (fun g hE hF => ?_)
      have hz := bz_a2 hz hE hF
      have hf1 : frG _ g z (z + 9) := fun j hj => hF j (by omega)
      have hh := hh.fr hf1 (by omega)
      have hfr := frG.tr hfr hf1
      obtain ⟨c0, c1, c2, c3, c4, c5, c6, c7, c8⟩ := id hz
      obtain ⟨h0, h1, h2, h3, h4⟩ := id hh
      refine ca_iinc hX (q := 123) (ls' := [_, _, _, _, _]) k_iconst_1 rfl (Nat.le_of_ble_eq_true rfl) (Or.inr rfl) rfl rfl dX0_lookAt_120 ?_
      refine ca_goto hX 101 rfl dX0_lookAt_123 ?_
      rw [nI_1]
      refine ih (i + 1) (by omega) g _ hz hh hfr ⟨fun r hr => ?_, fun c e1 e2 r => ?_⟩ ?_ (fun p hp => ?_) _ _
      · rw [upB_n _ _ _ (by omega)]; exact hl.1 r hr
      · rw [upB_n _ _ _ (by omega)]; exact hl.2 c e1 e2 r
      · rw [upB_n _ _ _ (by omega)]; exact hq
      · rw [upB_s]
        by_cases e : p = i
        · rw [e, upd_s]
        · rw [upd_n _ _ e]; exact hs p (by omega)
  have loop2 : ∀ (n i : Nat), i + n = 25 → ∀ g1 B1, bzG g1 z B1 → hsG g1 b h → frG g g1 z (z + 9) → lkM B1 h i → ∀ o1 o2, X 22 [some (.ref z), some (.ref b), some (.int (nI i)), o1, o2] [] N 1000000 g1 := by
    intro n
    induction n with
    | zero =>
      intro i hi g B1 hz hh hfr hl o1 o2
      obtain rfl : i = 25 := by omega
      obtain ⟨c0, c1, c2, c3, c4, c5, c6, c7, c8⟩ := id hz
      obtain ⟨h0, h1, h2, h3, h4⟩ := id hh
      refine ca_iload_n hX (q := 23) 2 rfl rfl rfl dX0_lookAt_22 ?_
      refine ca_bipush hX (q := 25) k_bipush_25 rfl dX0_lookAt_23 ?_
      refine ca_icmp_ge hX (q := 28) 87 rfl rfl dX0_lookAt_25 (fun _ => ?_) (fun z => absurd (nI_le (a := 25) (b := 25) (by omega) (by omega)) z)
      refine ca_aload_n hX (q := 88) 0 rfl rfl rfl dX0_lookAt_87 ?_
      refine ca_aload_n hX (q := 89) 1 rfl rfl rfl dX0_lookAt_88 ?_
      refine ca_getN hX (q := 92) cl_X1 4 (by decide) w_fn_X0_54 (by omega) h0 rfl rfl dX0_lookAt_89 ?_
      refine ca_iconst hX (q := 93) k_iconst_5 rfl dX0_lookAt_92 ?_
      refine ca_mmin hX (q := 96) w_ml_X0_58 w_mns w_mxi w_mnc (by decide) (Nat.le_of_ble_eq_true rfl) rfl dX0_lookAt_93 ?_
      have emin : (if (5 : Int32) < h 0 then 5 else h 0) = nI P := by
        rw [hP]; exact if_neg (nI_nlt (a := 5) (b := P) (by omega) (by omega))
      rw [emin]
      refine ca_puti hX (q := 99) (fs' := [_, _, _, _, _, _, _, _, _, _, _, _, _]) cl_X0 8 (by decide) w_fl_X0_63 rfl rfl (by omega) hN c0 (Nat.le_of_ble_eq_true rfl) rfl rfl dX0_lookAt_96 (fun g hE hF => ?_)
      have hz := bz_s0 hz hE hF
      have hf1 : frG _ g z (z + 9) := fun j hj => hF j (by omega)
      have hh := hh.fr hf1 (by omega)
      have hfr := frG.tr hfr hf1
      obtain ⟨c0, c1, c2, c3, c4, c5, c6, c7, c8⟩ := id hz
      obtain ⟨h0, h1, h2, h3, h4⟩ := id hh
      refine ca_iconst hX (q := 100) k_iconst_0 rfl dX0_lookAt_99 ?_
      refine ca_istore_n hX (q := 101) 2 rfl (ls' := [_, _, _, _, _]) (Nat.le_of_ble_eq_true rfl) (Nat.le_of_ble_eq_true rfl) (Or.inr rfl) rfl rfl dX0_lookAt_100 ?_
      refine loop3 P 0 (by omega) g _ hz hh hfr ⟨fun r hr => ?_, fun c e1 e2 r => ?_⟩ ?_ (fun p hp => absurd hp (by omega)) _ _
      · rw [upB_n _ _ _ (by omega)]; exact hl.1 r hr
      · rw [upB_n _ _ _ (by omega)]; exact hl.2 c e1 e2 r
      · rw [upB_s, upd_s]
    | succ n ih =>
      intro i hi g B1 hz hh hfr hl o1 o2
      obtain ⟨c0, c1, c2, c3, c4, c5, c6, c7, c8⟩ := id hz
      obtain ⟨h0, h1, h2, h3, h4⟩ := id hh
      refine ca_iload_n hX (q := 23) 2 rfl rfl rfl dX0_lookAt_22 ?_
      refine ca_bipush hX (q := 25) k_bipush_25 rfl dX0_lookAt_23 ?_
      refine ca_icmp_ge hX (q := 28) 87 rfl rfl dX0_lookAt_25 (fun z => absurd z (nI_ge (a := i) (b := 25) (by omega) (by omega))) (fun _ => ?_)
      refine ca_aload_n hX (q := 29) 1 rfl rfl rfl dX0_lookAt_28 ?_
      refine ca_getN hX (q := 32) cl_X1 0 (by decide) w_fn_X0_36 (by omega) h0 rfl rfl dX0_lookAt_29 ?_
      refine ca_iload_n hX (q := 33) 2 rfl rfl rfl dX0_lookAt_32 ?_
      refine ca_iaN hX (q := 34) (k := i) (by omega) h1 (by decide) rfl (by omega) rfl dX0_lookAt_33 ?_
      refine ca_istore_n hX (q := 35) 3 rfl (ls' := [_, _, _, _, _]) (Nat.le_of_ble_eq_true rfl) (Nat.le_of_ble_eq_true rfl) (Or.inr rfl) rfl rfl dX0_lookAt_34 ?_
      refine ca_aload_n hX (q := 36) 0 rfl rfl rfl dX0_lookAt_35 ?_
      refine ca_getf hX (q := 39) cl_X0 1 (by decide) w_fl_X0_15 (by omega) c0 rfl rfl dX0_lookAt_36 ?_
      refine ca_iload_n hX (q := 40) 2 rfl rfl rfl dX0_lookAt_39 ?_
      refine ca_iload_n hX (q := 41) 3 rfl rfl rfl dX0_lookAt_40 ?_
      refine ca_aload_n hX (q := 42) 1 rfl rfl rfl dX0_lookAt_41 ?_
      refine ca_getN hX (q := 45) cl_X1 1 (by decide) w_fn_X0_41 (by omega) h0 rfl rfl dX0_lookAt_42 ?_
      refine ca_iload_n hX (q := 46) 2 rfl rfl rfl dX0_lookAt_45 ?_
      refine ca_iaN hX (q := 47) (k := i) (by omega) h2 (by decide) rfl (by omega) rfl dX0_lookAt_46 ?_
      refine ca_cSi hX (q := 50) y_X2_worth w_ml_X0_44 hN (c_X2_worth l N g _ _) (by decide) rfl (Nat.le_of_ble_eq_true rfl) rfl dX0_lookAt_47 rfl ?_
      refine ca_iaS hX (q := 51) (k := i) (by omega) hN (Nat.le_refl _) c2 (by decide) rfl (by omega) rfl dX0_lookAt_50 (fun g hE hF => ?_)
      have hz := bz_a1 hz hE hF
      have hf1 : frG _ g z (z + 9) := fun j hj => hF j (by omega)
      have hh := hh.fr hf1 (by omega)
      have hfr := frG.tr hfr hf1
      obtain ⟨c0, c1, c2, c3, c4, c5, c6, c7, c8⟩ := id hz
      obtain ⟨h0, h1, h2, h3, h4⟩ := id hh
      refine ca_iload_n hX (q := 52) 3 rfl rfl rfl dX0_lookAt_51 ?_
      refine ca_cSi hX (q := 55) y_X2_catches w_ml_X0_50 hN (c_X2_catches l N g _) (by decide) rfl (by decide) rfl dX0_lookAt_52 rfl ?_
      refine ca_istore hX (q := 57) (ls' := [_, _, _, _, _]) (Nat.le_of_ble_eq_true rfl) (Nat.le_of_ble_eq_true rfl) (Or.inr rfl) rfl rfl dX0_lookAt_55 ?_
      refine ca_iload hX (q := 59) rfl rfl dX0_lookAt_57 ?_
      refine ca_if_le hX (q := 62) 81 rfl rfl dX0_lookAt_59 (fun c59 => ?_) (fun c59 => ?_)
      · refine ca_iinc hX (q := 84) (ls' := [_, _, _, _, _]) k_iconst_1 rfl (Nat.le_of_ble_eq_true rfl) (Or.inr rfl) rfl rfl dX0_lookAt_81 ?_
        refine ca_goto hX 22 rfl dX0_lookAt_84 ?_
        rw [nI_1]
        exact ih (i + 1) (by omega) g _ hz hh hfr (lkM_n hl (by rw [msk_in (by omega), msk_in (by omega)]; rfl) (fun c e1 e2 e3 => by
          rw [msk_in (by omega)] at c59
          have e4 : ctK (h (2 + i)) = nI c := e3
          rw [e4] at c59
          exact nI_nle (by omega) (by omega) c59)) _ _
      · refine ca_iload hX (q := 64) rfl rfl dX0_lookAt_62 ?_
        refine ca_iconst hX (q := 65) k_iconst_4 rfl dX0_lookAt_64 ?_
        refine ca_icmp_gt hX (q := 68) 81 rfl rfl dX0_lookAt_65 (fun c65 => ?_) (fun c65 => ?_)
        · refine ca_iinc hX (q := 84) (ls' := [_, _, _, _, _]) k_iconst_1 rfl (Nat.le_of_ble_eq_true rfl) (Or.inr rfl) rfl rfl dX0_lookAt_81 ?_
          refine ca_goto hX 22 rfl dX0_lookAt_84 ?_
          rw [nI_1]
          exact ih (i + 1) (by omega) g _ hz hh hfr (lkM_n hl (by rw [msk_in (by omega), msk_in (by omega)]; rfl) (fun c e1 e2 e3 => by
            rw [msk_in (by omega)] at c65
            have e4 : ctK (h (2 + i)) = nI c := e3
            rw [e4] at c65
            exact nI_nlt (a := 4) (b := c) (by omega) (by omega) c65)) _ _
        · obtain ⟨c, hc31, ec⟩ := nI_of (x := ctK (msk 2 25 h i)) (fun q => c59 (Int32.le_of_lt q))
          have hc4 : c ≤ 4 := by rw [ec] at c65; exact nI_lo2 (a := 4) (b := c) c65 (by omega) hc31
          refine ca_aload_n hX (q := 69) 0 rfl rfl rfl dX0_lookAt_68 ?_
          refine ca_getf hX (q := 72) cl_X0 0 (by decide) w_fl_X0_11 (by omega) c0 rfl rfl dX0_lookAt_69 ?_
          refine ca_iload hX (q := 74) rfl rfl dX0_lookAt_72 ?_
          refine ca_dup2 hX (q := 75) rfl rfl rfl dX0_lookAt_74 ?_
          refine ca_iaN hX (q := 76) (k := c) (by omega) c1 (by decide) ec (by omega) rfl dX0_lookAt_75 ?_
          refine ca_iconst hX (q := 77) k_iconst_1 rfl dX0_lookAt_76 ?_
          refine ca_iload_n hX (q := 78) 2 rfl rfl rfl dX0_lookAt_77 ?_
          refine ca_ishl hX (q := 79) rfl dX0_lookAt_78 ?_
          refine ca_ior hX (q := 80) rfl dX0_lookAt_79 ?_
          refine ca_iaS hX (q := 81) (k := c) (by omega) hN (Nat.le_refl _) c1 (by decide) ec (by omega) rfl dX0_lookAt_80 (fun g hE hF => ?_)
          have hz := bz_a0 hz hE hF
          have hf1 : frG _ g z (z + 9) := fun j hj => hF j (by omega)
          have hh := hh.fr hf1 (by omega)
          have hfr := frG.tr hfr hf1
          obtain ⟨c0, c1, c2, c3, c4, c5, c6, c7, c8⟩ := id hz
          obtain ⟨h0, h1, h2, h3, h4⟩ := id hh
          refine ca_iinc hX (q := 84) (ls' := [_, _, _, _, _]) k_iconst_1 rfl (Nat.le_of_ble_eq_true rfl) (Or.inr rfl) rfl rfl dX0_lookAt_81 ?_
          refine ca_goto hX 22 rfl dX0_lookAt_84 ?_
          rw [nI_1]
          refine ih (i + 1) (by omega) g _ hz hh hfr (lkM_c (by omega) hl (by rw [msk_in (by omega), msk_in (by omega)]; rfl) ?_ hc4) _ _
          rw [msk_in (by omega)] at ec
          exact ec
  have loop1 : ∀ (n i : Nat), i + n = 5 → ∀ g1 B1, bzG g1 z B1 → hsG g1 b h → frG g g1 z (z + 9) → (∀ j, j < i → B1 0 j = 0) → X 2 [some (.ref z), some (.ref b), some (.int (nI i)), none, none] [] N 1000000 g1 := by
    intro n
    induction n with
    | zero =>
      intro i hi g B1 hz hh hfr hl
      obtain rfl : i = 5 := by omega
      obtain ⟨c0, c1, c2, c3, c4, c5, c6, c7, c8⟩ := id hz
      obtain ⟨h0, h1, h2, h3, h4⟩ := id hh
      refine ca_iload_n hX (q := 3) 2 rfl rfl rfl dX0_lookAt_2 ?_
      refine ca_iconst hX (q := 4) k_iconst_4 rfl dX0_lookAt_3 ?_
      refine ca_icmp_gt hX (q := 7) 20 rfl rfl dX0_lookAt_4 (fun _ => ?_) (fun z => absurd (nI_lt (a := 4) (b := 5) (by omega) (by omega)) z)
      refine ca_iconst hX (q := 21) k_iconst_0 rfl dX0_lookAt_20 ?_
      refine ca_istore_n hX (q := 22) 2 rfl (ls' := [_, _, _, _, _]) (Nat.le_of_ble_eq_true rfl) (Nat.le_of_ble_eq_true rfl) (Or.inr rfl) rfl rfl dX0_lookAt_21 ?_
      exact loop2 25 0 (by omega) g _ hz hh hfr ⟨fun r hr => absurd hr (by omega), fun c e1 e2 r => by rw [hl c (by omega), b_0]; simp⟩ _ _
    | succ n ih =>
      intro i hi g B1 hz hh hfr hl
      obtain ⟨c0, c1, c2, c3, c4, c5, c6, c7, c8⟩ := id hz
      obtain ⟨h0, h1, h2, h3, h4⟩ := id hh
      refine ca_iload_n hX (q := 3) 2 rfl rfl rfl dX0_lookAt_2 ?_
      refine ca_iconst hX (q := 4) k_iconst_4 rfl dX0_lookAt_3 ?_
      refine ca_icmp_gt hX (q := 7) 20 rfl rfl dX0_lookAt_4 (fun z => absurd z (nI_nlt (a := 4) (b := i) (by omega) (by omega))) (fun _ => ?_)
      refine ca_aload_n hX (q := 8) 0 rfl rfl rfl dX0_lookAt_7 ?_
      refine ca_getf hX (q := 11) cl_X0 0 (by decide) w_fl_X0_11 (by omega) c0 rfl rfl dX0_lookAt_8 ?_
      refine ca_iload_n hX (q := 12) 2 rfl rfl rfl dX0_lookAt_11 ?_
      refine ca_iconst hX (q := 13) k_iconst_0 rfl dX0_lookAt_12 ?_
      refine ca_iaS hX (q := 14) (k := i) (by omega) hN (Nat.le_refl _) c1 (by decide) rfl (by omega) rfl dX0_lookAt_13 (fun g hE hF => ?_)
      have hz := bz_a0 hz hE hF
      have hf1 : frG _ g z (z + 9) := fun j hj => hF j (by omega)
      have hh := hh.fr hf1 (by omega)
      have hfr := frG.tr hfr hf1
      obtain ⟨c0, c1, c2, c3, c4, c5, c6, c7, c8⟩ := id hz
      obtain ⟨h0, h1, h2, h3, h4⟩ := id hh
      refine ca_iinc hX (q := 17) (ls' := [_, _, _, _, _]) k_iconst_1 rfl (Nat.le_of_ble_eq_true rfl) (Or.inr rfl) rfl rfl dX0_lookAt_14 ?_
      refine ca_goto hX 2 rfl dX0_lookAt_17 ?_
      rw [nI_1]
      refine ih (i + 1) (by omega) g _ hz hh hfr (fun j hj => ?_)
      rw [upB_s]
      by_cases e : j = i
      · rw [e, upd_s]
      · rw [upd_n _ _ e]; exact hl j (by omega)
  obtain ⟨c0, c1, c2, c3, c4, c5, c6, c7, c8⟩ := id hz
  obtain ⟨h0, h1, h2, h3, h4⟩ := id hh
  refine ca_iconst hX (q := 1) k_iconst_0 rfl dX0_lookAt_0 ?_
  refine ca_istore_n hX (q := 2) 2 rfl (ls' := [_, _, _, _, _]) (Nat.le_of_ble_eq_true rfl) (Nat.le_of_ble_eq_true rfl) (Or.inr rfl) rfl rfl dX0_lookAt_1 ?_
  exact loop1 5 0 (by omega) g B hz hh frG.rf (fun j hj => absurd hj (by omega))

