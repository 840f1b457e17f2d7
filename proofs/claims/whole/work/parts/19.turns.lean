section CAFM
variable {l : Launch} {y : MethodName} {cc : ByteArray} {nL : Nat} {ret : Option FieldType} {F mc ms N0 S0 : Nat} {sc : ca_Sc} {post : ca_Post} {X : ca_J}
variable {pc q : Nat} {ls : List (Option Value)} {st : List Value} {N S : Nat} {g : ca_G} {idx : Nat}
theorem ca_floorMod (hX : ca_Good l y cc nL ret F mc ms N0 S0 sc post X) {a b : Int32} (wl : Cond.methodLink y.cls idx yJ9_floorMod_7cf53 ∈ ca_TT) (hb0 : ¬ b = 0) (hx0 : 0 ≤ a ^^^ b) (hF : 1 ≤ F) (hst : (st.map fun v => v.category).sum ≤ 8) (hq : pc + 3 = q) (hd : decode cc pc = .ok (.invokestatic idx, 3)) (kk : X q ls (.int (a - a / b * b) :: st) N S g) : X pc ls (.int b :: .int a :: st) N S g := by
  obtain ⟨p, e, R, s, m, args, below, meth, c, D, cI, ad, base, Q, rfl, hx, hb, hml, hown, hts, hK, hB, hR, hQ, hL⟩ := hX
  subst hq
  intro h1 h2 h3 h4 H locs la q1 q2 q3 q4
  intro T hT X0
  have hcode : (Cond.code yJ9_floorMod_7cf53 cJ9_floorMod_7cf53 3 (some .int)).before args s = true := hts _ y0_J9_floorMod_7cf53.1
  obtain ⟨v, vm', X', ⟨first, t, hpost⟩, hstep⟩ := X0.staticByContractV hx hown (hts _ wl) (hts _ y_J9_floorMod_7cf53.2) (hts _ w_in_J9) hcode (by decide) (fm_meets l a b hb0 hx0) rfl rfl rfl rfl
    (fun args' first o s₂ h => by
      simp only [fm_spec, Cond.after_and, Bool.and_eq_true] at h
      cases o with
      | returned r => exact ⟨r, rfl⟩
      | threw y => have h1 := h.1; simp [Cond.after, Cond.holds, Cond.value] at h1)
    (g := F0 m pc la ((.int b :: .int a :: st).map (ca_vz ad))) rfl (by show la.size = _; rw [q4.1, hml]) (argsL := [.int a, .int b]) (rest := st.map (ca_vz ad))
    (fun sig hs => by
      have h : parseMethodDescriptor "(II)I" = some { parameters := [.int, .int], returnType := some .int } := by decide +kernel
      rw [show yJ9_floorMod_7cf53.desc = "(II)I" from rfl, h] at hs
      rw [← Option.some.inj hs]; rfl)
    rfl (by rw [hb]; exact hd)
    (fun vm' hW => by
      simp only [fm_spec, Cond.before_and, Bool.and_eq_true]
      refine ⟨?_, rfl, rfl, rfl, ?_, ?_⟩
      · have q := hcode
        rw [← Cond.code_setVm hW.alike] at q
        simp only [Cond.before, Cond.holds, Cond.value, State.methodNamed?, State.vm_setVm] at q ⊢
        exact q
      · simp [Cond.before, Cond.holds, Cond.value, Term.eval]
      · simp [Cond.before, Cond.holds, Cond.value, Term.eval])
    (by show 0 + 1 ≤ R.frames; have := hB.2.2.1; omega) (by rw [ca_cat]; show 2 * 0 + _ + (3 + 11) + 0 ≤ R.locals; have := hB.2.2.2.1; omega) (by show N - N0 + 0 ≤ R.cells; have := hB.2.2.2.2.1; omega) (by show S - S0 + 0 ≤ R.slots; have := hB.2.2.2.2.2; omega)
  obtain rfl : v = some (.int (a - a / b * b)) := by
    rcases v with _ | w
    · simp [fm_spec, Cond.after, Cond.holds, Cond.value, Term.eval] at hpost
    · cases w <;> simp [fm_spec, Cond.after, Cond.holds, Cond.value, Term.eval] at hpost
      rw [hpost]
  obtain ⟨t2, a1, b1⟩ := kk h1 h2 h3 h4 H locs la q1 q2 q3 q4 (T.setVm vm') hT X'
  exact ⟨t2, hstep t2 a1, b1⟩
end CAFM
theorem nx_xor (a b : Nat) : nI a ^^^ nI b = nI (a ^^^ b) := by
  apply Int32.toBitVec_inj.1
  show BitVec.ofNat 32 a ^^^ BitVec.ofNat 32 b = BitVec.ofNat 32 (a ^^^ b)
  apply BitVec.eq_of_getLsbD_eq
  intro i hi
  simp [hi]
theorem fm_pos {a b : Nat} (ha : a < 16) (hb : b < 16) : 0 ≤ nI a ^^^ nI b := by
  rw [nx_xor]
  exact nI_pos' (Nat.lt_trans (Nat.xor_lt_two_pow (n := 4) ha hb) (by decide))
/-! whose turn it is -/
def lsC (f P : Nat) (x : Int32) : Nat → Nat
  | 0 => 0
  | i + 1 => if bt x ((f + i) % P) = true then lsC f P x i + 1 else lsC f P x i
theorem lsC_le (f P : Nat) (x : Int32) : ∀ i, lsC f P x i ≤ i
  | 0 => Nat.le_refl _
  | i + 1 => by rw [lsC]; have := lsC_le f P x i; split <;> omega
def lsB (B : Nat → Nat → Int32) (f P : Nat) (x : Int32) : Nat → (Nat → Nat → Int32)
  | 0 => upB B 8 1 0
  | i + 1 => if bt x ((f + i) % P) = true then upB (upB (lsB B f P x i) 3 (lsC f P x i) (nI ((f + i) % P))) 8 1 (nI (lsC f P x i + 1)) else lsB B f P x i
theorem lsB_c (B : Nat → Nat → Int32) (f P : Nat) (x : Int32) : ∀ i, lsB B f P x i 8 1 = nI (lsC f P x i)
  | 0 => by rw [lsB, upB_s, upd_s, lsC]; rfl
  | i + 1 => by
    rw [lsB, lsC]
    split
    · rw [upB_s, upd_s]
    · exact lsB_c B f P x i
theorem lsB_n (B : Nat → Nat → Int32) (f P : Nat) (x : Int32) {a : Nat} (h3 : a ≠ 3) (h8 : a ≠ 8) : ∀ i, lsB B f P x i a = B a
  | 0 => upB_n _ _ _ h8
  | i + 1 => by
    rw [lsB]
    split
    · rw [upB_n _ _ _ h8, upB_n _ _ _ h3]; exact lsB_n B f P x h3 h8 i
    · exact lsB_n B f P x h3 h8 i
theorem lsB_8 (B : Nat → Nat → Int32) (f P : Nat) (x : Int32) {a : Nat} (h : a ≠ 1) : ∀ i, lsB B f P x i 8 a = B 8 a
  | 0 => by rw [lsB, upB_s, upd_n _ _ h]
  | i + 1 => by
    rw [lsB]
    split
    · rw [upB_s, upd_n _ _ h, upB_n _ _ _ (by omega)]; exact lsB_8 B f P x h i
    · exact lsB_8 B f P x h i

set_option maxRecDepth 100000 in
set_option maxHeartbeats 4000000 in
theorem c_X0_letSpeak (l : Launch) (N : Nat) (g : ca_G) (z : Nat) (B : Nat → Nat → Int32) (hz : bzG g z B) (hb : z + 9 ≤ N) (P : Nat) (hP : B 8 0 = nI P) (hP5 : P ≤ 5) (f : Nat) (hf : f < 5) (x : Int32) : ca_Ct l yX0_letSpeak cX0_letSpeak 5 none 1 0 0 N 1000000 [.ref z, .int (nI f), .int x] g (fun rr g' => rr = none ∧ bzG g' z (lsB B f P x P) ∧ frG g g' z (z + 9)) := by
  refine ca_intro (by decide) (Nat.le_of_ble_eq_true rfl) (fun X hX hN => ?_)
  show X 0 [_, _, _, none, none] [] N 1000000 g
  have loop : ∀ (n i : Nat), i + n = P → ∀ g1, bzG g1 z (lsB B f P x i) → frG g g1 z (z + 9) → ∀ o, X 7 [some (.ref z), some (.int (nI f)), some (.int x), some (.int (nI i)), o] [] N 1000000 g1 := by
    intro n
    induction n with
    | zero =>
      intro i hi g hz hfr o
      have hq : lsB B f P x i 8 0 = nI P := by rw [lsB_8 _ _ _ _ (by omega), hP]
      have hs := lsB_c B f P x i
      have hle := lsC_le f P x i
      obtain ⟨c0, c1, c2, c3, c4, c5, c6, c7, c8⟩ := id hz
      refine ca_iload_n hX (q := 8) 3 rfl rfl rfl dX0_letSpeak_7 ?_
      refine ca_aload_n hX (q := 9) 0 rfl rfl rfl dX0_letSpeak_8 ?_
      refine ca_getf hX (q := 12) cl_X0 8 (by decide) w_fl_X0_63 (by omega) c0 rfl rfl dX0_letSpeak_9 ?_
      refine ca_icmp_ge hX (q := 15) 72 rfl rfl dX0_letSpeak_12 (fun _ => ?_) (fun z => absurd (by rw [hq]; exact nI_le (by omega) (by omega)) z)
      refine ca_vret hX rfl rfl rfl rfl dX0_letSpeak_72 ?_
      exact ⟨rfl, by rw [show i = P by omega] at hz; exact hz, hfr⟩
    | succ n ih =>
      intro i hi g hz hfr o
      have hq : lsB B f P x i 8 0 = nI P := by rw [lsB_8 _ _ _ _ (by omega), hP]
      have hs := lsB_c B f P x i
      have hle := lsC_le f P x i
      obtain ⟨c0, c1, c2, c3, c4, c5, c6, c7, c8⟩ := id hz
      refine ca_iload_n hX (q := 8) 3 rfl rfl rfl dX0_letSpeak_7 ?_
      refine ca_aload_n hX (q := 9) 0 rfl rfl rfl dX0_letSpeak_8 ?_
      refine ca_getf hX (q := 12) cl_X0 8 (by decide) w_fl_X0_63 (by omega) c0 rfl rfl dX0_letSpeak_9 ?_
      refine ca_icmp_ge hX (q := 15) 72 rfl rfl dX0_letSpeak_12 (fun z => absurd z (by rw [hq]; exact nI_ge (by omega) (by omega))) (fun _ => ?_)
      refine ca_iload_n hX (q := 16) 1 rfl rfl rfl dX0_letSpeak_15 ?_
      refine ca_iload_n hX (q := 17) 3 rfl rfl rfl dX0_letSpeak_16 ?_
      refine ca_iadd hX (q := 18) rfl dX0_letSpeak_17 ?_
      refine ca_aload_n hX (q := 19) 0 rfl rfl rfl dX0_letSpeak_18 ?_
      refine ca_getf hX (q := 22) cl_X0 8 (by decide) w_fl_X0_63 (by omega) c0 rfl rfl dX0_letSpeak_19 ?_
      refine ca_floorMod hX (q := 25) w_ml_X0_74 (by rw [hq]; exact nI_ne0 (by omega) (by omega)) (by rw [hq, nI_add]; exact fm_pos (by omega) (by omega)) (by decide) (Nat.le_of_ble_eq_true rfl) rfl dX0_letSpeak_22 ?_
      rw [hq, nI_add, pk_rem (by omega) (by omega) (by omega)]
      refine ca_istore hX (q := 27) (ls' := [_, _, _, _, _]) (Nat.le_of_ble_eq_true rfl) (Nat.le_of_ble_eq_true rfl) (Or.inr rfl) rfl rfl dX0_letSpeak_25 ?_
      refine ca_iload_n hX (q := 28) 2 rfl rfl rfl dX0_letSpeak_27 ?_
      refine ca_iload hX (q := 30) rfl rfl dX0_letSpeak_28 ?_
      refine ca_ishr hX (q := 31) rfl dX0_letSpeak_30 ?_
      refine ca_iconst hX (q := 32) k_iconst_1 rfl dX0_letSpeak_31 ?_
      refine ca_iand hX (q := 33) rfl dX0_letSpeak_32 ?_
      refine ca_iconst hX (q := 34) k_iconst_1 rfl dX0_letSpeak_33 ?_
      refine ca_icmp_ne hX (q := 37) 66 rfl rfl dX0_letSpeak_34 (fun c34 => ?_) (fun c34 => ?_)
      · refine ca_iinc hX (q := 69) (ls' := [_, _, _, _, _]) k_iconst_1 rfl (Nat.le_of_ble_eq_true rfl) (Or.inr rfl) rfl rfl dX0_letSpeak_66 ?_
        refine ca_goto hX 7 rfl dX0_letSpeak_69 ?_
        rw [b_tst (by have := Nat.mod_lt (f + i) (show 0 < P by omega); omega)] at c34
        rw [nI_1]
        exact ih (i + 1) (by omega) g (by rw [lsB, if_neg c34]; exact hz) hfr _
      · refine ca_aload_n hX (q := 38) 0 rfl rfl rfl dX0_letSpeak_37 ?_
        refine ca_getf hX (q := 41) cl_X0 9 (by decide) w_fl_X0_71 (by omega) c0 rfl rfl dX0_letSpeak_38 ?_
        refine ca_iconst hX (q := 42) k_iconst_5 rfl dX0_letSpeak_41 ?_
        refine ca_icmp_ge hX (q := 45) 66 rfl rfl dX0_letSpeak_42 (fun z => absurd z (by rw [hs]; exact nI_ge (a := lsC f P x i) (b := 5) (by omega) (by omega))) (fun _ => ?_)
        refine ca_aload_n hX (q := 46) 0 rfl rfl rfl dX0_letSpeak_45 ?_
        refine ca_getf hX (q := 49) cl_X0 3 (by decide) w_fl_X0_21 (by omega) c0 rfl rfl dX0_letSpeak_46 ?_
        refine ca_aload_n hX (q := 50) 0 rfl rfl rfl dX0_letSpeak_49 ?_
        refine ca_getf hX (q := 53) cl_X0 9 (by decide) w_fl_X0_71 (by omega) c0 rfl rfl dX0_letSpeak_50 ?_
        refine ca_iload hX (q := 55) rfl rfl dX0_letSpeak_53 ?_
        refine ca_iaS hX (q := 56) (k := lsC f P x i) (by omega) hN (Nat.le_refl _) c4 (by decide) hs (by omega) rfl dX0_letSpeak_55 (fun g hE hF => ?_)
        have hz := bz_a3 hz hE hF
        obtain ⟨c0, c1, c2, c3, c4, c5, c6, c7, c8⟩ := id hz
        have hfr := frG.tr hfr (fun j hj => hF j (by omega))
        refine ca_aload_n hX (q := 57) 0 rfl rfl rfl dX0_letSpeak_56 ?_
        refine ca_dup hX (q := 58) rfl rfl dX0_letSpeak_57 ?_
        refine ca_getf hX (q := 61) cl_X0 9 (by decide) w_fl_X0_71 (by omega) c0 rfl rfl dX0_letSpeak_58 ?_
        refine ca_iconst hX (q := 62) k_iconst_1 rfl dX0_letSpeak_61 ?_
        refine ca_iadd hX (q := 63) rfl dX0_letSpeak_62 ?_
        refine ca_puti hX (q := 66) (fs' := [_, _, _, _, _, _, _, _, _, _, _, _, _]) cl_X0 9 (by decide) w_fl_X0_71 rfl rfl (by omega) hN c0 (Nat.le_of_ble_eq_true rfl) rfl rfl dX0_letSpeak_63 (fun g hE hF => ?_)
        have hz := bz_s1 hz hE hF
        obtain ⟨c0, c1, c2, c3, c4, c5, c6, c7, c8⟩ := id hz
        have hfr := frG.tr hfr (fun j hj => hF j (by omega))
        refine ca_iinc hX (q := 69) (ls' := [_, _, _, _, _]) k_iconst_1 rfl (Nat.le_of_ble_eq_true rfl) (Or.inr rfl) rfl rfl dX0_letSpeak_66 ?_
        refine ca_goto hX 7 rfl dX0_letSpeak_69 ?_
        rw [b_tst (by have := Nat.mod_lt (f + i) (show 0 < P by omega); omega)] at c34
        rw [nI_1]
        refine ih (i + 1) (by omega) g ?_ hfr _
        rw [lsB, if_pos c34, ← nI_1]
        rw [show upB (lsB B f P x i) 3 (lsC f P x i) (nI ((f + i) % P)) 8 1 = nI (lsC f P x i) by rw [upB_n _ _ _ (by omega), hs]] at hz
        exact hz
  have hfr : frG g g z (z + 9) := frG.rf
  obtain ⟨c0, c1, c2, c3, c4, c5, c6, c7, c8⟩ := id hz
  refine ca_aload_n hX (q := 1) 0 rfl rfl rfl dX0_letSpeak_0 ?_
  refine ca_iconst hX (q := 2) k_iconst_0 rfl dX0_letSpeak_1 ?_
  refine ca_puti hX (q := 5) (fs' := [_, _, _, _, _, _, _, _, _, _, _, _, _]) cl_X0 9 (by decide) w_fl_X0_71 rfl rfl (by omega) hN c0 (Nat.le_of_ble_eq_true rfl) rfl rfl dX0_letSpeak_2 (fun g hE hF => ?_)
  have hz := bz_s1 hz hE hF
  obtain ⟨c0, c1, c2, c3, c4, c5, c6, c7, c8⟩ := id hz
  have hfr := frG.tr hfr (fun j hj => hF j (by omega))
  refine ca_iconst hX (q := 6) k_iconst_0 rfl dX0_letSpeak_5 ?_
  refine ca_istore_n hX (q := 7) 3 rfl (ls' := [_, _, _, _, _]) (Nat.le_of_ble_eq_true rfl) (Nat.le_of_ble_eq_true rfl) (Or.inr rfl) rfl rfl dX0_letSpeak_6 ?_
  exact loop P 0 (by omega) _ hz hfr _

set_option maxRecDepth 100000 in
set_option maxHeartbeats 4000000 in
theorem c_X0_letAllSpeak (l : Launch) (N : Nat) (g : ca_G) (z : Nat) (B : Nat → Nat → Int32) (hz : bzG g z B) (hb : z + 9 ≤ N) (P : Nat) (hP : B 8 0 = nI P) (hP5 : P ≤ 5) (f : Nat) (hf : f < 5) : ca_Ct l yX0_letAllSpeak cX0_letAllSpeak 2 none 2 0 0 N 1000000 [.ref z, .int (nI f)] g (fun rr g' => rr = none ∧ bzG g' z (lsB B f P (1 <<< (nI P &&& 31) - 1) P) ∧ frG g g' z (z + 9)) := by
  refine ca_intro (by decide) (Nat.le_of_ble_eq_true rfl) (fun X hX hN => ?_)
  show X 0 [_, _] [] N 1000000 g
  obtain ⟨c0, c1, c2, c3, c4, c5, c6, c7, c8⟩ := id hz
  rw [hP] at c0
  refine ca_aload_n hX (q := 1) 0 rfl rfl rfl dX0_letAllSpeak_0 ?_
  refine ca_iload_n hX (q := 2) 1 rfl rfl rfl dX0_letAllSpeak_1 ?_
  refine ca_iconst hX (q := 3) k_iconst_1 rfl dX0_letAllSpeak_2 ?_
  refine ca_aload_n hX (q := 4) 0 rfl rfl rfl dX0_letAllSpeak_3 ?_
  refine ca_getf hX (q := 7) cl_X0 8 (by decide) w_fl_X0_63 (by omega) c0 rfl rfl dX0_letAllSpeak_4 ?_
  refine ca_ishl hX (q := 8) rfl dX0_letAllSpeak_7 ?_
  refine ca_iconst hX (q := 9) k_iconst_1 rfl dX0_letAllSpeak_8 ?_
  refine ca_isub hX (q := 10) rfl dX0_letAllSpeak_9 ?_
  refine ca_cV hX (q := 13) y_X0_letSpeak w_ml_X0_67 (by omega) hN c0 (c_X0_letSpeak l N g z B hz hb P hP hP5 f hf _) (by decide) rfl (by decide) rfl dX0_letAllSpeak_10 rfl ?_
  rintro _ g1 ⟨rfl, hz1, hf1⟩
  refine ca_vret hX rfl rfl rfl rfl dX0_letAllSpeak_13 ?_
  exact ⟨rfl, hz1, hf1⟩

