/-! strings: the constants of Telling, String.length, isEmpty, charAt -/
theorem sl_b : ∀ k, k < 7 → ca_sL.getD k 0 < 100 := by decide
section CASTR
variable {l : Launch} {y : MethodName} {cc : ByteArray} {nL : Nat} {ret : Option FieldType} {F mc ms N0 S0 : Nat} {sc : ca_Sc} {post : ca_Post} {X : ca_J}
variable {pc q : Nat} {ls : List (Option Value)} {st : List Value} {N S : Nat} {g : ca_G}
variable {y' : MethodName} {cc' : ByteArray} {nL' : Nat} {ret' : Option FieldType} {F' mc' ms' S0' idx : Nat} {post' : ca_Post} {As : List Value}
theorem ca_ldcs (hX : ca_Good l y cc nL ret F mc ms N0 S0 sc post X) (k : Nat) (hk : k < 7) (hi : ca_sI k = idx) (hy : y.cls = "FoughtFromMemory$Telling") (hq : pc + 2 = q) (hd : decode cc pc = .ok (.ldc idx, 2)) (kk : X q ls (.ref (1000 + k) :: st) N S g) : X pc ls st N S g := by
  obtain ⟨p, e, R, s, m, args, below, meth, c, D, cI, ad, base, Q, rfl, hx, hb, hml, hown, hts, hK, hB, hR, hQ, hL⟩ := hX
  subst hq
  intro h1 h2 h3 h4 H locs la q1 q2 q3 q4
  have hr := hK.2.2.1 k hk
  rw [hi] at hr
  exact va_ldcS hx hb (own := "FoughtFromMemory$Telling") (by rw [← hy]; exact hown) hr hd (kk h1 h2 h3 h4 H locs la q1 q2 q3 q4)
theorem ca_sgv (hX : ca_Good l y cc nL ret F mc ms N0 S0 sc post X) {k : Nat} (hk : k < 7) (hl : Cond.fieldLink y.cls idx "java/lang/String" "value" "[B" ∈ ca_TT) (hq : pc + 3 = q) (hd : decode cc pc = .ok (.getfield idx, 3)) (kk : X q ls (.ref (1100 + k) :: st) N S g) : X pc ls (.ref (1000 + k) :: st) N S g := by
  obtain ⟨p, e, R, s, m, args, below, meth, c, D, cI, ad, base, Q, rfl, hx, hb, hml, hown, hts, hK, hB, hR, hQ, hL⟩ := hX
  subst hq
  intro h1 h2 h3 h4 H locs la q1 q2 q3 q4
  exact vk_getf hx hb (hK.2.2.2.1.1 k hk).2.2.1 q3 hown (hts _ hl) (fun _ z => z) hd (kk h1 h2 h3 h4 H locs la q1 q2 q3 q4)
theorem ca_sgc (hX : ca_Good l y cc nL ret F mc ms N0 S0 sc post X) {k : Nat} (hk : k < 7) (hl : Cond.fieldLink y.cls idx "java/lang/String" "coder" "B" ∈ ca_TT) (hq : pc + 3 = q) (hd : decode cc pc = .ok (.getfield idx, 3)) (kk : X q ls (.int 0 :: st) N S g) : X pc ls (.ref (1000 + k) :: st) N S g := by
  obtain ⟨p, e, R, s, m, args, below, meth, c, D, cI, ad, base, Q, rfl, hx, hb, hml, hown, hts, hK, hB, hR, hQ, hL⟩ := hX
  subst hq
  intro h1 h2 h3 h4 H locs la q1 q2 q3 q4
  exact vk_getf hx hb (hK.2.2.2.1.1 k hk).2.1 q3 hown (hts _ hl) (fun _ z => z) hd (kk h1 h2 h3 h4 H locs la q1 q2 q3 q4)
theorem ca_sal (hX : ca_Good l y cc nL ret F mc ms N0 S0 sc post X) {k : Nat} (hk : k < 7) (hq : pc + 1 = q) (hd : decode cc pc = .ok (.arraylength, 1)) (kk : X q ls (.int (nI (ca_sL.getD k 0)) :: st) N S g) : X pc ls (.ref (1100 + k) :: st) N S g := by
  obtain ⟨p, e, R, s, m, args, below, meth, c, D, cI, ad, base, Q, rfl, hx, hb, hml, hown, hts, hK, hB, hR, hQ, hL⟩ := hX
  subst hq
  intro h1 h2 h3 h4 H locs la q1 q2 q3 q4
  exact va_tlen hx hb (hK.2.2.2.1.1 k hk).2.2.2 q3 rfl hd (kk h1 h2 h3 h4 H locs la q1 q2 q3 q4)
theorem ca_sba (hX : ca_Good l y cc nL ret F mc ms N0 S0 sc post X) {k j : Nat} (hk : k < 7) (hj : j < ca_sL.getD k 0) (hj8 : j < 8) (hq : pc + 1 = q) (hd : decode cc pc = .ok (.baload, 1)) (kk : X q ls (.int ((ca_sB.getD k []).getD j 0) :: st) N S g) : X pc ls (.int (nI j) :: .ref (1100 + k) :: st) N S g := by
  obtain ⟨p, e, R, s, m, args, below, meth, c, D, cI, ad, base, Q, rfl, hx, hb, hml, hown, hts, hK, hB, hR, hQ, hL⟩ := hX
  subst hq
  intro h1 h2 h3 h4 H locs la q1 q2 q3 q4
  exact va_tb hx hb (hK.2.2.2.1.1 k hk).2.2.2 q3 (vp_in_nI hj (by have := sl_b k hk; omega)) (by rw [nI_clamp (by omega)]; rfl) hd (kk h1 h2 h3 h4 H locs la q1 q2 q3 q4)
theorem ca_gsc (hX : ca_Good l y cc nL ret F mc ms N0 S0 sc post X) (hl : Cond.fieldLink y.cls idx "java/lang/String" "COMPACT_STRINGS" "Z" ∈ ca_TT) (hq : pc + 3 = q) (hd : decode cc pc = .ok (.getstatic idx, 3)) (kk : X q ls (.int 1 :: st) N S g) : X pc ls st N S g := by
  obtain ⟨p, e, R, s, m, args, below, meth, c, D, cI, ad, base, Q, rfl, hx, hb, hml, hown, hts, hK, hB, hR, hQ, hL⟩ := hX
  subst hq
  intro h1 h2 h3 h4 H locs la q1 q2 q3 q4
  exact va_gets hx hb hK.2.2.2.2.1 q3 hown (hts _ hl) (fun _ z => z) hd (kk h1 h2 h3 h4 H locs la q1 q2 q3 q4)
theorem ca_gsf (hX : ca_Good l y cc nL ret F mc ms N0 S0 sc post X) (hl : Cond.fieldLink y.cls idx "jdk/internal/util/Preconditions" "SIOOBE_FORMATTER" "Ljava/util/function/BiFunction;" ∈ ca_TT) (hq : pc + 3 = q) (hd : decode cc pc = .ok (.getstatic idx, 3)) (kk : ∀ v, (v = .null ∨ v = .ref 1200) → X q ls (v :: st) N S g) : X pc ls st N S g := by
  obtain ⟨p, e, R, s, m, args, below, meth, c, D, cI, ad, base, Q, rfl, hx, hb, hml, hown, hts, hK, hB, hR, hQ, hL⟩ := hX
  subst hq
  intro h1 h2 h3 h4 H locs la q1 q2 q3 q4
  rcases hK.2.2.2.2.2 with z | z
  · exact va_gets hx hb z q3 hown (hts _ hl) (fun _ z => z) hd (kk .null (Or.inl rfl) h1 h2 h3 h4 H locs la q1 q2 q3 q4)
  · exact va_gets hx hb z q3 hown (hts _ hl) (fun _ z => z) hd (kk (.ref 1200) (Or.inr rfl) h1 h2 h3 h4 H locs la q1 q2 q3 q4)
def ca_YQ (y : MethodName) (cc : ByteArray) (nL : Nat) (ret : Option FieldType) (n : Nat) : Prop := ca_Y y cc nL ret n ∧ Cond.instanceMethod y ∈ ca_TT ∧ Cond.selects y.cls y y ∈ ca_TT ∧ y.cls = "java/lang/String"
theorem ca_cQ (hX : ca_Good l y cc nL ret F 0 0 N 1000000 sc post X) {n k : Nat} (hY : ca_YQ y' cc' nL' ret' n) (hl : Cond.methodLink y.cls idx y' ∈ ca_TT) (hk7 : k < 7) (hN : N ≤ 1000) (hC : ca_Ct l y' cc' nL' ret' F' 0 0 N 1000000 (.ref (1000 + k) :: As) g post') (hF : F' < F) (hn : As.length = n) (hst : (st.map fun v => v.category).sum ≤ 8) (hq : pc + 3 = q) (hd : decode cc pc = .ok (.invokevirtual idx, 3)) {stk : List Value} (hk : stk = As.reverse ++ .ref (1000 + k) :: st)
    (kk : ∀ (r : Option Value) (g' : ca_G), post' r g' → X q ls (r.toList ++ st) N 1000000 g') : X pc ls stk N 1000000 g := by
  obtain ⟨p, e, R, s, m, args, below, meth, c, D, cI, ad, base, Q, rfl, hx, hb, hml, hown, hts, hK, hB, hR, hQ, hL⟩ := hX
  subst hq
  subst hk
  intro h1 h2 h3 h4 H locs la q1 q2 q3 q4
  obtain ⟨⟨w1, w2, w3, w4⟩, w5, w6, w7⟩ := hY
  have hrec := vk_recv hK.2.2.2.1 hk7 q3
  rw [← w7] at hrec
  refine ca_back (mc' := 0) (ms' := 0) (S0' := 1000000) (post' := post') (a := (Value.ref (ad (1000 + k)) :: As.map (ca_vz ad)).toArray) h1 h3 (by omega) (by omega) (by omega) q3 q4 ?_ kk
  refine va_runV (C := y'.cls) (nL := nL) (b := ad (1000 + k)) (As := As.map (ca_vz ad)) ⟨hx, hb, hml, hown, hts⟩ (hC D cI ad base) ⟨callB_of n hts (ca_goodIn w1) rfl rfl rfl (hts _ w2) (hts _ hl) w3 ⟨by show F' + 1 ≤ _; have := hB.2.2.1; omega, by show 8 + (nL' + 11) + 37 * F' ≤ _; have := hB.2.2.2.1; omega⟩, hts _ w5, hts _ w6⟩ ⟨ca_Pblind, hrec, fun U hU hW => ⟨rfl, ?_⟩⟩ rfl (by rw [List.length_map]; exact hn) q4.1 (by show List.map _ _ = _; simp [ca_vz]) (by rw [ca_cat]; show 2 * 0 + _ ≤ 8; omega) hd ⟨by have := hB.2.2.2.2.1; omega, by have := hB.2.2.2.2.2; omega⟩
  exact ⟨fun z => by rw [hU]; exact q1 (by omega), by rw [hU]; exact q2, hK.warm q3 hU hW, hB.1, by omega, by rw [hU]; exact Nat.le_trans hB.2.1 q3.1⟩
theorem ca_cQi (hX : ca_Good l y cc nL ret F 0 0 N 1000000 sc post X) {n k : Nat} {v : Int32} (hY : ca_YQ y' cc' nL' ret' n) (hl : Cond.methodLink y.cls idx y' ∈ ca_TT) (hk7 : k < 7) (hN : N ≤ 1000) (hC : ca_Ct l y' cc' nL' ret' F' 0 0 N 1000000 (.ref (1000 + k) :: As) g (ca_pi v g)) (hF : F' < F) (hn : As.length = n) (hst : (st.map fun v => v.category).sum ≤ 8) (hq : pc + 3 = q) (hd : decode cc pc = .ok (.invokevirtual idx, 3)) {stk : List Value} (hk : stk = As.reverse ++ .ref (1000 + k) :: st)
    (kk : X q ls (.int v :: st) N 1000000 g) : X pc ls stk N 1000000 g :=
  ca_cQ hX hY hl hk7 hN hC hF hn hst hq hd hk (fun r g' h => by rw [h.1, h.2]; exact kk)
end CASTR
theorem w_fl_J0_9 : Cond.fieldLink RJ0 9 "java/lang/String" "value" "[B" ∈ ca_TT := ca_inT (List.mem_of_getElem? (i := 1064) (by decide +kernel)) rfl
theorem w_fl_J0_15 : Cond.fieldLink RJ0 15 "java/lang/String" "coder" "B" ∈ ca_TT := ca_inT (List.mem_of_getElem? (i := 1065) (by decide +kernel)) rfl
theorem w_fl_J0_38 : Cond.fieldLink RJ0 38 "java/lang/String" "COMPACT_STRINGS" "Z" ∈ ca_TT := ca_inT (List.mem_of_getElem? (i := 263) (by decide +kernel)) rfl
theorem w_fl_J0_1053 : Cond.fieldLink RJ0 1053 "jdk/internal/util/Preconditions" "SIOOBE_FORMATTER" "Ljava/util/function/BiFunction;" ∈ ca_TT := ca_inT (List.mem_of_getElem? (i := 279) (by decide +kernel)) rfl
theorem w_im_J0_length_8abf5 : Cond.instanceMethod yJ0_length_8abf5 ∈ ca_TT := ca_inT (List.mem_of_getElem? (i := 256) (by decide +kernel)) rfl
theorem w_se_J0_length_8abf5 : Cond.selects RJ0 yJ0_length_8abf5 yJ0_length_8abf5 ∈ ca_TT := ca_inT (List.mem_of_getElem? (i := 257) (by decide +kernel)) rfl
theorem y_J0_length_8abf5 : ca_YQ yJ0_length_8abf5 cJ0_length_8abf5 1 (some .int) 0 := ⟨y0_J0_length_8abf5, w_im_J0_length_8abf5, w_se_J0_length_8abf5, rfl⟩
theorem w_im_J0_isEmpty_aae02 : Cond.instanceMethod yJ0_isEmpty_aae02 ∈ ca_TT := ca_inT (List.mem_of_getElem? (i := 311) (by decide +kernel)) rfl
theorem w_se_J0_isEmpty_aae02 : Cond.selects RJ0 yJ0_isEmpty_aae02 yJ0_isEmpty_aae02 ∈ ca_TT := ca_inT (List.mem_of_getElem? (i := 312) (by decide +kernel)) rfl
theorem y_J0_isEmpty_aae02 : ca_YQ yJ0_isEmpty_aae02 cJ0_isEmpty_aae02 1 (some .boolean) 0 := ⟨y0_J0_isEmpty_aae02, w_im_J0_isEmpty_aae02, w_se_J0_isEmpty_aae02, rfl⟩
theorem w_im_J0_charAt_5068e : Cond.instanceMethod yJ0_charAt_5068e ∈ ca_TT := ca_inT (List.mem_of_getElem? (i := 266) (by decide +kernel)) rfl
theorem w_se_J0_charAt_5068e : Cond.selects RJ0 yJ0_charAt_5068e yJ0_charAt_5068e ∈ ca_TT := ca_inT (List.mem_of_getElem? (i := 267) (by decide +kernel)) rfl
theorem y_J0_charAt_5068e : ca_YQ yJ0_charAt_5068e cJ0_charAt_5068e 2 (some .char) 1 := ⟨y0_J0_charAt_5068e, w_im_J0_charAt_5068e, w_se_J0_charAt_5068e, rfl⟩
theorem w_im_J0_coder_7d493 : Cond.instanceMethod yJ0_coder_7d493 ∈ ca_TT := ca_inT (List.mem_of_getElem? (i := 260) (by decide +kernel)) rfl
theorem w_se_J0_coder_7d493 : Cond.selects RJ0 yJ0_coder_7d493 yJ0_coder_7d493 ∈ ca_TT := ca_inT (List.mem_of_getElem? (i := 261) (by decide +kernel)) rfl
theorem y_J0_coder_7d493 : ca_YQ yJ0_coder_7d493 cJ0_coder_7d493 1 (some .byte) 0 := ⟨y0_J0_coder_7d493, w_im_J0_coder_7d493, w_se_J0_coder_7d493, rfl⟩
theorem w_im_J0_isLatin1_aae02 : Cond.instanceMethod yJ0_isLatin1_aae02 ∈ ca_TT := ca_inT (List.mem_of_getElem? (i := 270) (by decide +kernel)) rfl
theorem w_se_J0_isLatin1_aae02 : Cond.selects RJ0 yJ0_isLatin1_aae02 yJ0_isLatin1_aae02 ∈ ca_TT := ca_inT (List.mem_of_getElem? (i := 271) (by decide +kernel)) rfl
theorem y_J0_isLatin1_aae02 : ca_YQ yJ0_isLatin1_aae02 cJ0_isLatin1_aae02 1 (some .boolean) 0 := ⟨y0_J0_isLatin1_aae02, w_im_J0_isLatin1_aae02, w_se_J0_isLatin1_aae02, rfl⟩
set_option maxRecDepth 100000 in
set_option maxHeartbeats 4000000 in
theorem c_coder (l : Launch) (N : Nat) (g : ca_G) (k : Nat) (hk : k < 7) : ca_Ct l yJ0_coder_7d493 cJ0_coder_7d493 1 (some .byte) 0 0 0 N 1000000 [.ref (1000 + k)] g (ca_pi 0 g) := by
  refine ca_intro (by decide) (Nat.le_of_ble_eq_true rfl) (fun X hX hN => ?_)
  show X 0 [_] [] N 1000000 g
  refine ca_gsc hX (q := 3) w_fl_J0_38 rfl dJ0_coder_7d493_0 ?_
  refine ca_if_eq hX (q := 6) 13 rfl rfl dJ0_coder_7d493_3 (fun z => absurd z (by decide)) (fun _ => ?_)
  refine ca_aload_n hX (q := 7) 0 rfl rfl rfl dJ0_coder_7d493_6 ?_
  refine ca_sgc hX (q := 10) hk w_fl_J0_15 rfl dJ0_coder_7d493_7 ?_
  refine ca_goto hX 14 rfl dJ0_coder_7d493_10 ?_
  refine ca_zret hX rfl rfl rfl rfl rfl dJ0_coder_7d493_14 ?_
  exact ⟨rfl, rfl⟩

theorem sl_shr : ∀ k, k < 7 → nI (ca_sL.getD k 0) >>> ((0 : Int32) &&& 31) = nI (ca_sL.getD k 0) := by decide

set_option maxRecDepth 100000 in
set_option maxHeartbeats 4000000 in
theorem c_length (l : Launch) (N : Nat) (g : ca_G) (k : Nat) (hk : k < 7) : ca_Ct l yJ0_length_8abf5 cJ0_length_8abf5 1 (some .int) 1 0 0 N 1000000 [.ref (1000 + k)] g (ca_pi (nI (ca_sL.getD k 0)) g) := by
  refine ca_intro (by decide) (Nat.le_of_ble_eq_true rfl) (fun X hX hN => ?_)
  show X 0 [_] [] N 1000000 g
  refine ca_aload_n hX (q := 1) 0 rfl rfl rfl dJ0_length_8abf5_0 ?_
  refine ca_sgv hX (q := 4) hk w_fl_J0_9 rfl dJ0_length_8abf5_1 ?_
  refine ca_sal hX (q := 5) hk rfl dJ0_length_8abf5_4 ?_
  refine ca_aload_n hX (q := 6) 0 rfl rfl rfl dJ0_length_8abf5_5 ?_
  refine ca_cQi hX (q := 9) y_J0_coder_7d493 w_ml_J0_335 hk hN (c_coder l N g k hk) (by decide) rfl (Nat.le_of_ble_eq_true rfl) rfl dJ0_length_8abf5_6 rfl ?_
  refine ca_ishr hX (q := 10) rfl dJ0_length_8abf5_9 ?_
  refine ca_iret hX rfl rfl rfl rfl dJ0_length_8abf5_10 ?_
  exact ⟨by rw [sl_shr k hk], rfl⟩

theorem sl_0 : ∀ k, k < 7 → (nI (ca_sL.getD k 0) = 0 ↔ ca_sL.getD k 0 = 0) := by decide

set_option maxRecDepth 100000 in
set_option maxHeartbeats 4000000 in
theorem c_isEmpty (l : Launch) (N : Nat) (g : ca_G) (k : Nat) (hk : k < 7) : ca_Ct l yJ0_isEmpty_aae02 cJ0_isEmpty_aae02 1 (some .boolean) 0 0 0 N 1000000 [.ref (1000 + k)] g (ca_pi (if ca_sL.getD k 0 = 0 then 1 else 0) g) := by
  refine ca_intro (by decide) (Nat.le_of_ble_eq_true rfl) (fun X hX hN => ?_)
  show X 0 [_] [] N 1000000 g
  refine ca_aload_n hX (q := 1) 0 rfl rfl rfl dJ0_isEmpty_aae02_0 ?_
  refine ca_sgv hX (q := 4) hk w_fl_J0_9 rfl dJ0_isEmpty_aae02_1 ?_
  refine ca_sal hX (q := 5) hk rfl dJ0_isEmpty_aae02_4 ?_
  refine ca_if_ne hX (q := 8) 12 rfl rfl dJ0_isEmpty_aae02_5 (fun c5 => ?_) (fun c5 => ?_)
  · refine ca_iconst hX (q := 13) k_iconst_0 rfl dJ0_isEmpty_aae02_12 ?_
    refine ca_zret hX rfl rfl rfl rfl rfl dJ0_isEmpty_aae02_13 ?_
    exact ⟨by rw [if_neg (mt (sl_0 k hk).mpr c5)], rfl⟩
  · refine ca_iconst hX (q := 9) k_iconst_1 rfl dJ0_isEmpty_aae02_8 ?_
    refine ca_goto hX 13 rfl dJ0_isEmpty_aae02_9 ?_
    refine ca_zret hX rfl rfl rfl rfl rfl dJ0_isEmpty_aae02_13 ?_
    exact ⟨by rw [if_pos ((sl_0 k hk).mp c5)], rfl⟩

set_option maxRecDepth 100000 in
set_option maxHeartbeats 4000000 in
theorem c_isLatin1 (l : Launch) (N : Nat) (g : ca_G) (k : Nat) (hk : k < 7) : ca_Ct l yJ0_isLatin1_aae02 cJ0_isLatin1_aae02 1 (some .boolean) 0 0 0 N 1000000 [.ref (1000 + k)] g (ca_pi 1 g) := by
  refine ca_intro (by decide) (Nat.le_of_ble_eq_true rfl) (fun X hX hN => ?_)
  show X 0 [_] [] N 1000000 g
  refine ca_gsc hX (q := 3) w_fl_J0_38 rfl dJ0_isLatin1_aae02_0 ?_
  refine ca_if_eq hX (q := 6) 17 rfl rfl dJ0_isLatin1_aae02_3 (fun z => absurd z (by decide)) (fun _ => ?_)
  refine ca_aload_n hX (q := 7) 0 rfl rfl rfl dJ0_isLatin1_aae02_6 ?_
  refine ca_sgc hX (q := 10) hk w_fl_J0_15 rfl dJ0_isLatin1_aae02_7 ?_
  refine ca_if_ne hX (q := 13) 17 rfl rfl dJ0_isLatin1_aae02_10 (fun z => absurd (show (0 : Int32) = 0 from rfl) z) (fun _ => ?_)
  refine ca_iconst hX (q := 14) k_iconst_1 rfl dJ0_isLatin1_aae02_13 ?_
  refine ca_goto hX 18 rfl dJ0_isLatin1_aae02_14 ?_
  refine ca_zret hX rfl rfl rfl rfl rfl dJ0_isLatin1_aae02_18 ?_
  exact ⟨rfl, rfl⟩

set_option maxRecDepth 100000 in
set_option maxHeartbeats 4000000 in
theorem c_preIndex_n (l : Launch) (N : Nat) (g : ca_G) (i n : Nat) (hi : i < n) (hn : n < 100) : ca_Ct l yJ3_checkIndex_8e157 cJ3_checkIndex_8e157 3 (some .int) 0 0 0 N 1000000 [.int (nI i), .int (nI n), .null] g (ca_pi (nI i) g) := by
  refine ca_intro (by decide) (Nat.le_of_ble_eq_true rfl) (fun X hX hN => ?_)
  show X 0 [_, _, _] [] N 1000000 g
  refine ca_iload_n hX (q := 1) 0 rfl rfl rfl dJ3_checkIndex_8e157_0 ?_
  refine ca_if_lt hX (q := 4) 9 rfl rfl dJ3_checkIndex_8e157_1 (fun z => absurd z (nI_nn (by omega))) (fun _ => ?_)
  refine ca_iload_n hX (q := 5) 0 rfl rfl rfl dJ3_checkIndex_8e157_4 ?_
  refine ca_iload_n hX (q := 6) 1 rfl rfl rfl dJ3_checkIndex_8e157_5 ?_
  refine ca_icmp_lt hX (q := 9) 16 rfl rfl dJ3_checkIndex_8e157_6 (fun _ => ?_) (fun z => absurd ((nI_ltI (by omega) (by omega)).mpr hi) z)
  refine ca_iload_n hX (q := 17) 0 rfl rfl rfl dJ3_checkIndex_8e157_16 ?_
  refine ca_iret hX rfl rfl rfl rfl dJ3_checkIndex_8e157_17 ?_
  exact ⟨rfl, rfl⟩

set_option maxRecDepth 100000 in
set_option maxHeartbeats 4000000 in
theorem c_preIndex_r (l : Launch) (N : Nat) (g : ca_G) (i n : Nat) (hi : i < n) (hn : n < 100) : ca_Ct l yJ3_checkIndex_8e157 cJ3_checkIndex_8e157 3 (some .int) 0 0 0 N 1000000 [.int (nI i), .int (nI n), .ref 1200] g (ca_pi (nI i) g) := by
  refine ca_intro (by decide) (Nat.le_of_ble_eq_true rfl) (fun X hX hN => ?_)
  show X 0 [_, _, _] [] N 1000000 g
  refine ca_iload_n hX (q := 1) 0 rfl rfl rfl dJ3_checkIndex_8e157_0 ?_
  refine ca_if_lt hX (q := 4) 9 rfl rfl dJ3_checkIndex_8e157_1 (fun z => absurd z (nI_nn (by omega))) (fun _ => ?_)
  refine ca_iload_n hX (q := 5) 0 rfl rfl rfl dJ3_checkIndex_8e157_4 ?_
  refine ca_iload_n hX (q := 6) 1 rfl rfl rfl dJ3_checkIndex_8e157_5 ?_
  refine ca_icmp_lt hX (q := 9) 16 rfl rfl dJ3_checkIndex_8e157_6 (fun _ => ?_) (fun z => absurd ((nI_ltI (by omega) (by omega)).mpr hi) z)
  refine ca_iload_n hX (q := 17) 0 rfl rfl rfl dJ3_checkIndex_8e157_16 ?_
  refine ca_iret hX rfl rfl rfl rfl dJ3_checkIndex_8e157_17 ?_
  exact ⟨rfl, rfl⟩

theorem c_preIndex (l : Launch) (N : Nat) (g : ca_G) (i n : Nat) (hi : i < n) (hn : n < 100) (v : Value) (hv : v = .null ∨ v = .ref 1200) : ca_Ct l yJ3_checkIndex_8e157 cJ3_checkIndex_8e157 3 (some .int) 0 0 0 N 1000000 [.int (nI i), .int (nI n), v] g (ca_pi (nI i) g) := by
  rcases hv with rfl | rfl
  · exact c_preIndex_n l N g i n hi hn
  · exact c_preIndex_r l N g i n hi hn

set_option maxRecDepth 100000 in
set_option maxHeartbeats 4000000 in
theorem c_strIndex (l : Launch) (N : Nat) (g : ca_G) (i n : Nat) (hi : i < n) (hn : n < 100) : ca_Ct l yJ0_checkIndex_df160 cJ0_checkIndex_df160 2 none 1 0 0 N 1000000 [.int (nI i), .int (nI n)] g (fun rr g' => rr = none ∧ g' = g) := by
  refine ca_intro (by decide) (Nat.le_of_ble_eq_true rfl) (fun X hX hN => ?_)
  show X 0 [_, _] [] N 1000000 g
  refine ca_iload_n hX (q := 1) 0 rfl rfl rfl dJ0_checkIndex_df160_0 ?_
  refine ca_iload_n hX (q := 2) 1 rfl rfl rfl dJ0_checkIndex_df160_1 ?_
  refine ca_gsf hX (q := 5) w_fl_J0_1053 rfl dJ0_checkIndex_df160_2 (fun v hv => ?_)
  refine ca_cSi hX (q := 8) y_J3_checkIndex_8e157 w_ml_J0_1059 hN (c_preIndex l N g i n hi hn v hv) (by decide) rfl (Nat.le_of_ble_eq_true rfl) rfl dJ0_checkIndex_df160_5 rfl ?_
  refine ca_pop hX (q := 9) rfl rfl dJ0_checkIndex_df160_8 ?_
  refine ca_vret hX rfl rfl rfl rfl dJ0_checkIndex_df160_9 ?_
  exact ⟨rfl, rfl⟩

def sgF (k i : Nat) : Int32 := (ca_sB.getD k []).getD i 0
theorem i2_ok : ∀ k, k < 7 → ∀ j, j < 8 → j < ca_sL.getD k 0 → (((ca_sB.getD k []).getD j 0 &&& 255).toUInt32 % 65536).toInt32 = sgF k j := by decide
theorem sg_nar : ∀ k, k < 7 → ∀ j, j < 8 → j < ca_sL.getD k 0 → narrow .char (.int (sgF k j)) = .int (sgF k j) := by decide
theorem sl_8 : ∀ k, k < 7 → ca_sL.getD k 0 < 100 := by decide

set_option maxRecDepth 100000 in
set_option maxHeartbeats 4000000 in
theorem c_l1charAt (l : Launch) (N : Nat) (g : ca_G) (k : Nat) (hk : k < 7) (j : Nat) (hj : j < ca_sL.getD k 0) (hj8 : j < 8) : ca_Ct l yJ1_charAt_3b067 cJ1_charAt_3b067 2 (some .char) 2 0 0 N 1000000 [.ref (1100 + k), .int (nI j)] g (ca_pi (sgF k j) g) := by
  refine ca_intro (by decide) (Nat.le_of_ble_eq_true rfl) (fun X hX hN => ?_)
  show X 0 [_, _] [] N 1000000 g
  refine ca_iload_n hX (q := 1) 1 rfl rfl rfl dJ1_charAt_3b067_0 ?_
  refine ca_aload_n hX (q := 2) 0 rfl rfl rfl dJ1_charAt_3b067_1 ?_
  refine ca_sal hX (q := 3) hk rfl dJ1_charAt_3b067_2 ?_
  refine ca_cS hX (q := 6) y_J0_checkIndex_df160 w_ml_J1_9 hN (c_strIndex l N g j (ca_sL.getD k 0) hj (sl_8 k hk)) (by decide) rfl (Nat.le_of_ble_eq_true rfl) rfl dJ1_charAt_3b067_3 rfl ?_
  rintro _ g ⟨rfl, rfl⟩
  refine ca_aload_n hX (q := 7) 0 rfl rfl rfl dJ1_charAt_3b067_6 ?_
  refine ca_iload_n hX (q := 8) 1 rfl rfl rfl dJ1_charAt_3b067_7 ?_
  refine ca_sba hX (q := 9) hk hj hj8 rfl dJ1_charAt_3b067_8 ?_
  refine ca_sipush hX (q := 12) k_sipush_255 rfl dJ1_charAt_3b067_9 ?_
  refine ca_iand hX (q := 13) rfl dJ1_charAt_3b067_12 ?_
  refine ca_i2c hX (q := 14) rfl dJ1_charAt_3b067_13 ?_
  rw [i2_ok k hk j hj8 hj]
  refine ca_zret hX rfl rfl (sg_nar k hk j hj8 hj) rfl rfl dJ1_charAt_3b067_14 ?_
  exact ⟨rfl, rfl⟩

set_option maxRecDepth 100000 in
set_option maxHeartbeats 4000000 in
theorem c_charAt (l : Launch) (N : Nat) (g : ca_G) (k : Nat) (hk : k < 7) (j : Nat) (hj : j < ca_sL.getD k 0) (hj8 : j < 8) : ca_Ct l yJ0_charAt_5068e cJ0_charAt_5068e 2 (some .char) 3 0 0 N 1000000 [.ref (1000 + k), .int (nI j)] g (ca_pi (sgF k j) g) := by
  refine ca_intro (by decide) (Nat.le_of_ble_eq_true rfl) (fun X hX hN => ?_)
  show X 0 [_, _] [] N 1000000 g
  refine ca_aload_n hX (q := 1) 0 rfl rfl rfl dJ0_charAt_5068e_0 ?_
  refine ca_cQi hX (q := 4) y_J0_isLatin1_aae02 w_ml_J0_492 hk hN (c_isLatin1 l N g k hk) (by decide) rfl (Nat.le_of_ble_eq_true rfl) rfl dJ0_charAt_5068e_1 rfl ?_
  refine ca_if_eq hX (q := 7) 16 rfl rfl dJ0_charAt_5068e_4 (fun z => absurd z (by decide)) (fun _ => ?_)
  refine ca_aload_n hX (q := 8) 0 rfl rfl rfl dJ0_charAt_5068e_7 ?_
  refine ca_sgv hX (q := 11) hk w_fl_J0_9 rfl dJ0_charAt_5068e_8 ?_
  refine ca_iload_n hX (q := 12) 1 rfl rfl rfl dJ0_charAt_5068e_11 ?_
  refine ca_cSi hX (q := 15) y_J1_charAt_3b067 w_ml_J0_495 hN (c_l1charAt l N g k hk j hj hj8) (by decide) rfl (Nat.le_of_ble_eq_true rfl) rfl dJ0_charAt_5068e_12 rfl ?_
  refine ca_zret hX rfl rfl (sg_nar k hk j hj8 hj) rfl rfl dJ0_charAt_5068e_15 ?_
  exact ⟨rfl, rfl⟩

