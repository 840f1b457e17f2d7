/-! the reference's public methods: the small ones -/
set_option maxRecDepth 100000 in
set_option maxHeartbeats 4000000 in
theorem c_X6_clear (l : Launch) (N : Nat) (g : ca_G) (o : Nat) (M : Nat → Nat → Int32) (hm : mdG g o M) (ho : o + 14 ≤ N) : ca_Ct l yX6_clear cX6_clear 2 (some .int) 0 0 0 N 1000000 [.ref o] g (fun rr g' => rr = some (.int (M 13 2)) ∧ mdG g' o (upB M 13 2 0) ∧ frG g g' o (o + 14)) := by
  refine ca_intro (by decide) (Nat.le_of_ble_eq_true rfl) (fun X hX hN => ?_)
  show X 0 [_, none] [] N 1000000 g
  have hfr : frG g g o (o + 14) := frG.rf
  obtain ⟨c0, c1, c2, c3, c4, c5, c6, c7, c8, c9, c10, c11, c12, c13⟩ := id hm
  refine ca_aload_n hX (q := 1) 0 rfl rfl rfl dX6_clear_0 ?_
  refine ca_getf hX (q := 4) cl_X6 9 (by decide) w_fl_X6_190 (by omega) c0 rfl rfl dX6_clear_1 ?_
  refine ca_istore_n hX (q := 5) 1 rfl (ls' := [_, _]) (Nat.le_of_ble_eq_true rfl) (Nat.le_of_ble_eq_true rfl) (Or.inr rfl) rfl rfl dX6_clear_4 ?_
  refine ca_aload_n hX (q := 6) 0 rfl rfl rfl dX6_clear_5 ?_
  refine ca_iconst hX (q := 7) k_iconst_0 rfl dX6_clear_6 ?_
  refine ca_puti hX (q := 10) (fs' := [_, _, _, _, _, _, _, _, _, _, _, _, _, _, _, _, _, _, _, _]) cl_X6 9 (by decide) w_fl_X6_190 rfl rfl (by omega) hN c0 (Nat.le_of_ble_eq_true rfl) rfl rfl dX6_clear_7 (fun g hE hF => ?_)
  have hm := md_s2 hm hE hF
  obtain ⟨c0, c1, c2, c3, c4, c5, c6, c7, c8, c9, c10, c11, c12, c13⟩ := id hm
  have hfr := frG.tr hfr (fun j hj => hF j (by omega))
  refine ca_iload_n hX (q := 11) 1 rfl rfl rfl dX6_clear_10 ?_
  refine ca_iret hX rfl rfl rfl rfl dX6_clear_11 ?_
  exact ⟨rfl, hm, hfr⟩

def leR (M : Nat → Nat → Int32) (k : Nat) (c : Int32) : Int32 × (Nat → Nat → Int32) := if c < 0 then (-4, upB M 6 4 (M 6 4 + 1)) else if 255 < c then (-6, upB M 6 6 (M 6 6 + 1)) else if k = 96 then (-6, upB M 6 6 (M 6 6 + 1)) else (nI (k + 1), upB (upB M 4 k c) 13 1 (nI (k + 1)))

set_option maxRecDepth 100000 in
set_option maxHeartbeats 4000000 in
theorem c_X6_letter (l : Launch) (N : Nat) (g : ca_G) (o : Nat) (M : Nat → Nat → Int32) (hm : mdG g o M) (ho : o + 14 ≤ N) (k : Nat) (hk : M 13 1 = nI k) (hk96 : k ≤ 96) (c : Int32) : ca_Ct l yX6_letter cX6_letter 2 (some .int) 1 0 0 N 1000000 [.ref o, .int c] g (fun rr g' => rr = some (.int (leR M k c).1) ∧ mdG g' o (leR M k c).2 ∧ frG g g' o (o + 14)) := by
  refine ca_intro (by decide) (Nat.le_of_ble_eq_true rfl) (fun X hX hN => ?_)
  show X 0 [_, _] [] N 1000000 g
  have hfr : frG g g o (o + 14) := frG.rf
  obtain ⟨c0, c1, c2, c3, c4, c5, c6, c7, c8, c9, c10, c11, c12, c13⟩ := id hm
  refine ca_iload_n hX (q := 1) 1 rfl rfl rfl dX6_letter_0 ?_
  refine ca_if_ge hX (q := 4) 11 rfl rfl dX6_letter_1 (fun c1 => ?_) (fun c1 => ?_)
  · refine ca_iload_n hX (q := 12) 1 rfl rfl rfl dX6_letter_11 ?_
    refine ca_sipush hX (q := 15) k_sipush_255 rfl dX6_letter_12 ?_
    refine ca_icmp_gt hX (q := 18) 27 rfl rfl dX6_letter_15 (fun c15 => ?_) (fun c15 => ?_)
    · refine ca_aload_n hX (q := 28) 0 rfl rfl rfl dX6_letter_27 ?_
      refine ca_bipush hX (q := 30) k_bipush_m6 rfl dX6_letter_28 ?_
      refine ca_cV hX (q := 33) y_X6_no w_ml_X6_51 (by omega) hN c0 (c_X6_no l N g o M hm ho (-6) 6 (by decide) (by omega)) (by decide) rfl (by decide) rfl dX6_letter_30 rfl ?_
      rintro _ g ⟨rfl, hm, hfr⟩
      refine ca_iret hX rfl rfl rfl rfl dX6_letter_33 ?_
      have e96 : k ≠ 96 := fun e => c24 (by rw [hk, e]; rfl)
      have e1 : M 13 1 + 1 = nI (k + 1) := by rw [hk]; exact nI_add k 1
      have hm : mdG g o (upB (upB M 4 k c) 13 1 (M 13 1 + 1)) := hm
      rw [e1] at hm
      exact ⟨by rw [leR, if_neg (Int32.not_lt.mpr c1), if_neg c15, if_neg e96]; exact congrArg (fun z => some (Value.int z)) e1, by rw [leR, if_neg (Int32.not_lt.mpr c1), if_neg c15, if_neg e96]; exact hm, hfr⟩
    · refine ca_aload_n hX (q := 19) 0 rfl rfl rfl dX6_letter_18 ?_
      refine ca_getf hX (q := 22) cl_X6 8 (by decide) w_fl_X6_118 (by omega) c0 rfl rfl dX6_letter_19 ?_
      refine ca_bipush hX (q := 24) k_bipush_96 rfl dX6_letter_22 ?_
      refine ca_icmp_ne hX (q := 27) 34 rfl rfl dX6_letter_24 (fun c24 => ?_) (fun c24 => ?_)
      · refine ca_aload_n hX (q := 35) 0 rfl rfl rfl dX6_letter_34 ?_
        refine ca_getf hX (q := 38) cl_X6 5 (by decide) w_fl_X6_22 (by omega) c0 rfl rfl dX6_letter_35 ?_
        refine ca_aload_n hX (q := 39) 0 rfl rfl rfl dX6_letter_38 ?_
        refine ca_getf hX (q := 42) cl_X6 8 (by decide) w_fl_X6_118 (by omega) c0 rfl rfl dX6_letter_39 ?_
        refine ca_iload_n hX (q := 43) 1 rfl rfl rfl dX6_letter_42 ?_
        refine ca_iaS hX (q := 44) (k := k) (by omega) hN (Nat.le_refl _) c5 (by decide) hk (Nat.lt_of_le_of_ne hk96 (fun e => c24 (by rw [hk, e]; rfl))) rfl dX6_letter_43 (fun g hE hF => ?_)
        have hm := md_a4 hm hE hF
        obtain ⟨c0, c1, c2, c3, c4, c5, c6, c7, c8, c9, c10, c11, c12, c13⟩ := id hm
        have hfr := frG.tr hfr (fun j hj => hF j (by omega))
        refine ca_aload_n hX (q := 45) 0 rfl rfl rfl dX6_letter_44 ?_
        refine ca_dup hX (q := 46) rfl rfl dX6_letter_45 ?_
        refine ca_getf hX (q := 49) cl_X6 8 (by decide) w_fl_X6_118 (by omega) c0 rfl rfl dX6_letter_46 ?_
        refine ca_iconst hX (q := 50) k_iconst_1 rfl dX6_letter_49 ?_
        refine ca_iadd hX (q := 51) rfl dX6_letter_50 ?_
        refine ca_puti hX (q := 54) (fs' := [_, _, _, _, _, _, _, _, _, _, _, _, _, _, _, _, _, _, _, _]) cl_X6 8 (by decide) w_fl_X6_118 rfl rfl (by omega) hN c0 (Nat.le_of_ble_eq_true rfl) rfl rfl dX6_letter_51 (fun g hE hF => ?_)
        have hm := md_s1 hm hE hF
        obtain ⟨c0, c1, c2, c3, c4, c5, c6, c7, c8, c9, c10, c11, c12, c13⟩ := id hm
        have hfr := frG.tr hfr (fun j hj => hF j (by omega))
        refine ca_aload_n hX (q := 55) 0 rfl rfl rfl dX6_letter_54 ?_
        refine ca_getf hX (q := 58) cl_X6 8 (by decide) w_fl_X6_118 (by omega) c0 rfl rfl dX6_letter_55 ?_
        refine ca_iret hX rfl rfl rfl rfl dX6_letter_58 ?_
        exact ⟨by rw [leR, if_neg (Int32.not_lt.mpr c1), if_pos c15], by rw [leR, if_neg (Int32.not_lt.mpr c1), if_pos c15]; exact hm, hfr⟩
      · refine ca_aload_n hX (q := 28) 0 rfl rfl rfl dX6_letter_27 ?_
        refine ca_bipush hX (q := 30) k_bipush_m6 rfl dX6_letter_28 ?_
        refine ca_cV hX (q := 33) y_X6_no w_ml_X6_51 (by omega) hN c0 (c_X6_no l N g o M hm ho (-6) 6 (by decide) (by omega)) (by decide) rfl (by decide) rfl dX6_letter_30 rfl ?_
        rintro _ g ⟨rfl, hm, hfr⟩
        refine ca_iret hX rfl rfl rfl rfl dX6_letter_33 ?_
        have e96 : k = 96 := (nI_eq (b := 96) (by omega) (by omega)).mp (hk.symm.trans (Classical.not_not.mp c24))
        exact ⟨by rw [leR, if_neg (Int32.not_lt.mpr c1), if_neg c15, if_pos e96], by rw [leR, if_neg (Int32.not_lt.mpr c1), if_neg c15, if_pos e96]; exact hm, hfr⟩
  · refine ca_aload_n hX (q := 5) 0 rfl rfl rfl dX6_letter_4 ?_
    refine ca_bipush hX (q := 7) k_bipush_m4 rfl dX6_letter_5 ?_
    refine ca_cV hX (q := 10) y_X6_no w_ml_X6_51 (by omega) hN c0 (c_X6_no l N g o M hm ho (-4) 4 (by decide) (by omega)) (by decide) rfl (by decide) rfl dX6_letter_7 rfl ?_
    rintro _ g ⟨rfl, hm, hfr⟩
    refine ca_iret hX rfl rfl rfl rfl dX6_letter_10 ?_
    exact ⟨by rw [leR, if_pos (Int32.not_le.mp c1)], by rw [leR, if_pos (Int32.not_le.mp c1)]; exact hm, hfr⟩

