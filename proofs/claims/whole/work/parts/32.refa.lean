def skB (h0 x : Int32) : Int32 := if inB x 0 (h0 - 1) = 0 then (if x = 0 then 1 else 0) else 1
def gnM (bu so : Nat → Int32) : Nat → Nat → Int32
  | _, 0 => 0
  | i, n + 1 => if bu i < 0 ∧ so i < 1000000000 then 1 else gnM bu so (i + 1) n
def bmF (bu : Nat → Int32) (r : Nat) : Int32 := if bu r < 0 then 0 else 1
def bwF (bu f : Nat → Int32) (r : Nat) : Int32 := if bu r < 0 then 0 else wtK (f (2 + r)) (f (27 + r))

set_option maxRecDepth 100000 in
set_option maxHeartbeats 4000000 in
theorem c_X6_isPerson (l : Launch) (N : Nat) (g : ca_G) (o : Nat) (M : Nat → Nat → Int32) (hm : mdG g o M) (ho : o + 14 ≤ N) (x : Int32) : ca_Ct l yX6_isPerson cX6_isPerson 2 (some .boolean) 1 0 0 N 1000000 [.ref o, .int x] g (ca_pi (inB x 0 (M 0 0 - 1)) g) := by
  refine ca_intro (by decide) (Nat.le_of_ble_eq_true rfl) (fun X hX hN => ?_)
  show X 0 [_, _] [] N 1000000 g
  obtain ⟨c0, c1, c2, c3, c4, c5, c6, c7, c8, c9, c10, c11, c12, c13⟩ := id hm
  refine ca_iload_n hX (q := 1) 1 rfl rfl rfl dX6_isPerson_0 ?_
  refine ca_iconst hX (q := 2) k_iconst_0 rfl dX6_isPerson_1 ?_
  refine ca_aload_n hX (q := 3) 0 rfl rfl rfl dX6_isPerson_2 ?_
  refine ca_getf hX (q := 6) cl_X6 0 (by decide) w_fl_X6_9 (by omega) c0 rfl rfl dX6_isPerson_3 ?_
  refine ca_iconst hX (q := 7) k_iconst_0 rfl dX6_isPerson_6 ?_
  refine ca_iaN hX (q := 8) (k := 0) (by omega) c1 (by decide) rfl (by omega) rfl dX6_isPerson_7 ?_
  refine ca_iconst hX (q := 9) k_iconst_1 rfl dX6_isPerson_8 ?_
  refine ca_isub hX (q := 10) rfl dX6_isPerson_9 ?_
  refine ca_cSi hX (q := 13) y_X6_isIn w_ml_X6_55 hN (c_X6_isIn l N g x 0 (M 0 0 - 1)) (by decide) rfl (by decide) rfl dX6_isPerson_10 rfl ?_
  refine ca_zret hX rfl rfl (by unfold inB; split <;> first | rfl | (split <;> rfl)) rfl rfl dX6_isPerson_13 ?_
  exact ⟨rfl, rfl⟩

set_option maxRecDepth 100000 in
set_option maxHeartbeats 4000000 in
theorem c_X6_isSpeaker (l : Launch) (N : Nat) (g : ca_G) (o : Nat) (M : Nat → Nat → Int32) (hm : mdG g o M) (ho : o + 14 ≤ N) (x : Int32) : ca_Ct l yX6_isSpeaker cX6_isSpeaker 2 (some .boolean) 2 0 0 N 1000000 [.ref o, .int x] g (ca_pi (skB (M 0 0) x) g) := by
  refine ca_intro (by decide) (Nat.le_of_ble_eq_true rfl) (fun X hX hN => ?_)
  show X 0 [_, _] [] N 1000000 g
  obtain ⟨c0, c1, c2, c3, c4, c5, c6, c7, c8, c9, c10, c11, c12, c13⟩ := id hm
  refine ca_aload_n hX (q := 1) 0 rfl rfl rfl dX6_isSpeaker_0 ?_
  refine ca_iload_n hX (q := 2) 1 rfl rfl rfl dX6_isSpeaker_1 ?_
  refine ca_cVi hX (q := 5) y_X6_isPerson w_ml_X6_59 (by omega) hN c0 (c_X6_isPerson l N g o M hm ho x) (by decide) rfl (by decide) rfl dX6_isSpeaker_2 rfl ?_
  refine ca_if_ne hX (q := 8) 12 rfl rfl dX6_isSpeaker_5 (fun c5 => ?_) (fun c5 => ?_)
  · refine ca_iconst hX (q := 13) k_iconst_1 rfl dX6_isSpeaker_12 ?_
    refine ca_goto hX 17 rfl dX6_isSpeaker_13 ?_
    refine ca_zret hX rfl rfl rfl rfl rfl dX6_isSpeaker_17 ?_
    refine ⟨?_, rfl⟩; simp [skB, *]
  · refine ca_iload_n hX (q := 9) 1 rfl rfl rfl dX6_isSpeaker_8 ?_
    refine ca_if_ne hX (q := 12) 16 rfl rfl dX6_isSpeaker_9 (fun c9 => ?_) (fun c9 => ?_)
    · refine ca_iconst hX (q := 17) k_iconst_0 rfl dX6_isSpeaker_16 ?_
      refine ca_zret hX rfl rfl rfl rfl rfl dX6_isSpeaker_17 ?_
      refine ⟨?_, rfl⟩; simp [skB, *]
    · refine ca_iconst hX (q := 13) k_iconst_1 rfl dX6_isSpeaker_12 ?_
      refine ca_goto hX 17 rfl dX6_isSpeaker_13 ?_
      refine ca_zret hX rfl rfl rfl rfl rfl dX6_isSpeaker_17 ?_
      refine ⟨?_, rfl⟩; simp [skB, *]

set_option maxRecDepth 100000 in
set_option maxHeartbeats 4000000 in
theorem c_X6_no (l : Launch) (N : Nat) (g : ca_G) (o : Nat) (M : Nat → Nat → Int32) (hm : mdG g o M) (ho : o + 14 ≤ N) (c : Int32) (k : Nat) (hc : -c = nI k) (hk : k < 7) : ca_Ct l yX6_no cX6_no 2 (some .int) 0 0 0 N 1000000 [.ref o, .int c] g (fun rr g' => rr = some (.int c) ∧ mdG g' o (upB M 6 k (M 6 k + 1)) ∧ frG g g' o (o + 14)) := by
  refine ca_intro (by decide) (Nat.le_of_ble_eq_true rfl) (fun X hX hN => ?_)
  show X 0 [_, _] [] N 1000000 g
  have hfr : frG g g o (o + 14) := frG.rf
  obtain ⟨c0, c1, c2, c3, c4, c5, c6, c7, c8, c9, c10, c11, c12, c13⟩ := id hm
  refine ca_aload_n hX (q := 1) 0 rfl rfl rfl dX6_no_0 ?_
  refine ca_getf hX (q := 4) cl_X6 7 (by decide) w_fl_X6_28 (by omega) c0 rfl rfl dX6_no_1 ?_
  refine ca_iload_n hX (q := 5) 1 rfl rfl rfl dX6_no_4 ?_
  refine ca_ineg hX (q := 6) rfl dX6_no_5 ?_
  refine ca_dup2 hX (q := 7) rfl rfl rfl dX6_no_6 ?_
  refine ca_iaN hX (q := 8) (k := k) (by omega) c7 (by decide) hc hk rfl dX6_no_7 ?_
  refine ca_iconst hX (q := 9) k_iconst_1 rfl dX6_no_8 ?_
  refine ca_iadd hX (q := 10) rfl dX6_no_9 ?_
  refine ca_iaS hX (q := 11) (k := k) (by omega) hN (Nat.le_refl _) c7 (by decide) hc hk rfl dX6_no_10 (fun g hE hF => ?_)
  have hm := md_a6 hm hE hF
  obtain ⟨c0, c1, c2, c3, c4, c5, c6, c7, c8, c9, c10, c11, c12, c13⟩ := id hm
  have hfr := frG.tr hfr (fun j hj => hF j (by omega))
  refine ca_iload_n hX (q := 12) 1 rfl rfl rfl dX6_no_11 ?_
  refine ca_iret hX rfl rfl rfl rfl dX6_no_12 ?_
  exact ⟨rfl, hm, hfr⟩

set_option maxRecDepth 100000 in
set_option maxHeartbeats 4000000 in
theorem c_X6_noWide (l : Launch) (N : Nat) (g : ca_G) (o : Nat) (M : Nat → Nat → Int32) (hm : mdG g o M) (ho : o + 14 ≤ N) (c : Int32) (k : Nat) (hc : -c = nI k) (hk : k < 7) : ca_Ct l yX6_noWide cX6_noWide 2 (some .long) 1 0 0 N 1000000 [.ref o, .int c] g (fun rr g' => rr = some (.long (4000000000000000000 - c.toInt64)) ∧ mdG g' o (upB M 6 k (M 6 k + 1)) ∧ frG g g' o (o + 14)) := by
  refine ca_intro (by decide) (Nat.le_of_ble_eq_true rfl) (fun X hX hN => ?_)
  show X 0 [_, _] [] N 1000000 g
  obtain ⟨c0, c1, c2, c3, c4, c5, c6, c7, c8, c9, c10, c11, c12, c13⟩ := id hm
  refine ca_ldc2 hX (q := 3) w_k_X6_49 rfl dX6_noWide_0 ?_
  refine ca_aload_n hX (q := 4) 0 rfl rfl rfl dX6_noWide_3 ?_
  refine ca_iload_n hX (q := 5) 1 rfl rfl rfl dX6_noWide_4 ?_
  refine ca_cV hX (q := 8) y_X6_no w_ml_X6_51 (by omega) hN c0 (c_X6_no l N g o M hm ho c k hc hk) (by decide) rfl (Nat.le_of_ble_eq_true rfl) rfl dX6_noWide_5 rfl ?_
  rintro _ g ⟨rfl, hm, hfr⟩
  refine ca_i2l hX (q := 9) rfl dX6_noWide_8 ?_
  refine ca_lsub hX (q := 10) rfl dX6_noWide_9 ?_
  refine ca_lret hX rfl rfl rfl rfl dX6_noWide_10 ?_
  exact ⟨rfl, hm, hfr⟩

set_option maxRecDepth 100000 in
set_option maxHeartbeats 4000000 in
theorem c_X6_isGoingOn (l : Launch) (N : Nat) (g : ca_G) (o : Nat) (M : Nat → Nat → Int32) (hm : mdG g o M) (ho : o + 14 ≤ N) : ca_Ct l yX6_isGoingOn cX6_isGoingOn 2 (some .boolean) 0 0 0 N 1000000 [.ref o] g (ca_pi (gnM (M 7) (M 8) 0 25) g) := by
  refine ca_intro (by decide) (Nat.le_of_ble_eq_true rfl) (fun X hX hN => ?_)
  show X 0 [_, none] [] N 1000000 g
  obtain ⟨c0, c1, c2, c3, c4, c5, c6, c7, c8, c9, c10, c11, c12, c13⟩ := id hm
  have loop : ∀ (n i : Nat), i + n = 25 → gnM (M 7) (M 8) 0 25 = gnM (M 7) (M 8) i n → X 2 [some (.ref o), some (.int (nI i))] [] N 1000000 g := by
    intro n
    induction n with
    | zero =>
      intro i hi e
      obtain rfl : i = 25 := by omega
      refine ca_iload_n hX (q := 3) 1 rfl rfl rfl dX6_isGoingOn_2 ?_
      refine ca_bipush hX (q := 5) k_bipush_25 rfl dX6_isGoingOn_3 ?_
      refine ca_icmp_ge hX (q := 8) 36 rfl rfl dX6_isGoingOn_5 (fun _ => ?_) (fun z => absurd (nI_le (a := 25) (b := 25) (by omega) (by omega)) z)
      refine ca_iconst hX (q := 37) k_iconst_0 rfl dX6_isGoingOn_36 ?_
      refine ca_zret hX rfl rfl rfl rfl rfl dX6_isGoingOn_37 ?_
      exact ⟨by rw [e]; rfl, rfl⟩
    | succ n ih =>
      intro i hi e
      refine ca_iload_n hX (q := 3) 1 rfl rfl rfl dX6_isGoingOn_2 ?_
      refine ca_bipush hX (q := 5) k_bipush_25 rfl dX6_isGoingOn_3 ?_
      refine ca_icmp_ge hX (q := 8) 36 rfl rfl dX6_isGoingOn_5 (fun z => absurd z (nI_ge (a := i) (b := 25) (by omega) (by omega))) (fun _ => ?_)
      refine ca_aload_n hX (q := 9) 0 rfl rfl rfl dX6_isGoingOn_8 ?_
      refine ca_getf hX (q := 12) cl_X6 10 (by decide) w_fl_X6_31 (by omega) c0 rfl rfl dX6_isGoingOn_9 ?_
      refine ca_iload_n hX (q := 13) 1 rfl rfl rfl dX6_isGoingOn_12 ?_
      refine ca_iaN hX (q := 14) (k := i) (by omega) c8 (by decide) rfl (by omega) rfl dX6_isGoingOn_13 ?_
      refine ca_if_ge hX (q := 17) 30 rfl rfl dX6_isGoingOn_14 (fun c14 => ?_) (fun c14 => ?_)
      · refine ca_iinc hX (q := 33) (ls' := [_, _]) k_iconst_1 rfl (Nat.le_of_ble_eq_true rfl) (Or.inr rfl) rfl rfl dX6_isGoingOn_30 ?_
        refine ca_goto hX 2 rfl dX6_isGoingOn_33 ?_
        rw [nI_1]
        exact ih (i + 1) (by omega) (by rw [e, gnM, if_neg (fun q => Int32.not_lt.mpr c14 q.1)])
      · refine ca_aload_n hX (q := 18) 0 rfl rfl rfl dX6_isGoingOn_17 ?_
        refine ca_getf hX (q := 21) cl_X6 11 (by decide) w_fl_X6_34 (by omega) c0 rfl rfl dX6_isGoingOn_18 ?_
        refine ca_iload_n hX (q := 22) 1 rfl rfl rfl dX6_isGoingOn_21 ?_
        refine ca_iaN hX (q := 23) (k := i) (by omega) c9 (by decide) rfl (by omega) rfl dX6_isGoingOn_22 ?_
        refine ca_ldc hX (q := 25) w_k_X6_63 rfl dX6_isGoingOn_23 ?_
        refine ca_icmp_ge hX (q := 28) 30 rfl rfl dX6_isGoingOn_25 (fun c25 => ?_) (fun c25 => ?_)
        · refine ca_iinc hX (q := 33) (ls' := [_, _]) k_iconst_1 rfl (Nat.le_of_ble_eq_true rfl) (Or.inr rfl) rfl rfl dX6_isGoingOn_30 ?_
          refine ca_goto hX 2 rfl dX6_isGoingOn_33 ?_
          rw [nI_1]
          exact ih (i + 1) (by omega) (by rw [e, gnM, if_neg (fun q => Int32.not_lt.mpr c25 q.2)])
        · refine ca_iconst hX (q := 29) k_iconst_1 rfl dX6_isGoingOn_28 ?_
          refine ca_zret hX rfl rfl rfl rfl rfl dX6_isGoingOn_29 ?_
          exact ⟨by rw [e, gnM, if_pos ⟨Int32.not_le.mp c14, Int32.not_le.mp c25⟩], rfl⟩
  refine ca_iconst hX (q := 1) k_iconst_0 rfl dX6_isGoingOn_0 ?_
  refine ca_istore_n hX (q := 2) 1 rfl (ls' := [_, _]) (Nat.le_of_ble_eq_true rfl) (Nat.le_of_ble_eq_true rfl) (Or.inr rfl) rfl rfl dX6_isGoingOn_1 ?_
  exact loop 25 0 (by omega) rfl

set_option maxRecDepth 100000 in
set_option maxHeartbeats 4000000 in
theorem c_X6_burntMany (l : Launch) (N : Nat) (g : ca_G) (o : Nat) (M : Nat → Nat → Int32) (hm : mdG g o M) (ho : o + 14 ≤ N) : ca_Ct l yX6_burntMany cX6_burntMany 3 (some .int) 0 0 0 N 1000000 [.ref o] g (ca_pi (smI (bmF (M 7)) 25) g) := by
  refine ca_intro (by decide) (Nat.le_of_ble_eq_true rfl) (fun X hX hN => ?_)
  show X 0 [_, none, none] [] N 1000000 g
  obtain ⟨c0, c1, c2, c3, c4, c5, c6, c7, c8, c9, c10, c11, c12, c13⟩ := id hm
  have loop : ∀ (n i : Nat), i + n = 25 → X 4 [some (.ref o), some (.int (smI (bmF (M 7)) i)), some (.int (nI i))] [] N 1000000 g := by
    intro n
    induction n with
    | zero =>
      intro i hi
      obtain rfl : i = 25 := by omega
      refine ca_iload_n hX (q := 5) 2 rfl rfl rfl dX6_burntMany_4 ?_
      refine ca_bipush hX (q := 7) k_bipush_25 rfl dX6_burntMany_5 ?_
      refine ca_icmp_ge hX (q := 10) 33 rfl rfl dX6_burntMany_7 (fun _ => ?_) (fun z => absurd (nI_le (a := 25) (b := 25) (by omega) (by omega)) z)
      refine ca_iload_n hX (q := 34) 1 rfl rfl rfl dX6_burntMany_33 ?_
      refine ca_iret hX rfl rfl rfl rfl dX6_burntMany_34 ?_
      exact ⟨rfl, rfl⟩
    | succ n ih =>
      intro i hi
      refine ca_iload_n hX (q := 5) 2 rfl rfl rfl dX6_burntMany_4 ?_
      refine ca_bipush hX (q := 7) k_bipush_25 rfl dX6_burntMany_5 ?_
      refine ca_icmp_ge hX (q := 10) 33 rfl rfl dX6_burntMany_7 (fun z => absurd z (nI_ge (a := i) (b := 25) (by omega) (by omega))) (fun _ => ?_)
      refine ca_iload_n hX (q := 11) 1 rfl rfl rfl dX6_burntMany_10 ?_
      refine ca_aload_n hX (q := 12) 0 rfl rfl rfl dX6_burntMany_11 ?_
      refine ca_getf hX (q := 15) cl_X6 10 (by decide) w_fl_X6_31 (by omega) c0 rfl rfl dX6_burntMany_12 ?_
      refine ca_iload_n hX (q := 16) 2 rfl rfl rfl dX6_burntMany_15 ?_
      refine ca_iaN hX (q := 17) (k := i) (by omega) c8 (by decide) rfl (by omega) rfl dX6_burntMany_16 ?_
      refine ca_if_lt hX (q := 20) 24 rfl rfl dX6_burntMany_17 (fun c17 => ?_) (fun c17 => ?_)
      · refine ca_iconst hX (q := 25) k_iconst_0 rfl dX6_burntMany_24 ?_
        refine ca_iadd hX (q := 26) rfl dX6_burntMany_25 ?_
        refine ca_istore_n hX (q := 27) 1 rfl (ls' := [_, _, _]) (Nat.le_of_ble_eq_true rfl) (Nat.le_of_ble_eq_true rfl) (Or.inr rfl) rfl rfl dX6_burntMany_26 ?_
        refine ca_iinc hX (q := 30) (ls' := [_, _, _]) k_iconst_1 rfl (Nat.le_of_ble_eq_true rfl) (Or.inr rfl) rfl rfl dX6_burntMany_27 ?_
        refine ca_goto hX 4 rfl dX6_burntMany_30 ?_
        rw [nI_1, show smI (bmF (M 7)) i + 0 = smI (bmF (M 7)) (i + 1) by rw [smI, show (bmF (M 7)) i = 0 from if_pos c17]]
        exact ih (i + 1) (by omega)
      · refine ca_iconst hX (q := 21) k_iconst_1 rfl dX6_burntMany_20 ?_
        refine ca_goto hX 25 rfl dX6_burntMany_21 ?_
        refine ca_iadd hX (q := 26) rfl dX6_burntMany_25 ?_
        refine ca_istore_n hX (q := 27) 1 rfl (ls' := [_, _, _]) (Nat.le_of_ble_eq_true rfl) (Nat.le_of_ble_eq_true rfl) (Or.inr rfl) rfl rfl dX6_burntMany_26 ?_
        refine ca_iinc hX (q := 30) (ls' := [_, _, _]) k_iconst_1 rfl (Nat.le_of_ble_eq_true rfl) (Or.inr rfl) rfl rfl dX6_burntMany_27 ?_
        refine ca_goto hX 4 rfl dX6_burntMany_30 ?_
        rw [nI_1, show smI (bmF (M 7)) i + 1 = smI (bmF (M 7)) (i + 1) by rw [smI, show (bmF (M 7)) i = 1 from if_neg c17]]
        exact ih (i + 1) (by omega)
  refine ca_iconst hX (q := 1) k_iconst_0 rfl dX6_burntMany_0 ?_
  refine ca_istore_n hX (q := 2) 1 rfl (ls' := [_, _, _]) (Nat.le_of_ble_eq_true rfl) (Nat.le_of_ble_eq_true rfl) (Or.inr rfl) rfl rfl dX6_burntMany_1 ?_
  refine ca_iconst hX (q := 3) k_iconst_0 rfl dX6_burntMany_2 ?_
  refine ca_istore_n hX (q := 4) 2 rfl (ls' := [_, _, _]) (Nat.le_of_ble_eq_true rfl) (Nat.le_of_ble_eq_true rfl) (Or.inr rfl) rfl rfl dX6_burntMany_3 ?_
  exact loop 25 0 (by omega)

set_option maxRecDepth 100000 in
set_option maxHeartbeats 4000000 in
theorem c_X6_burntWorth (l : Launch) (N : Nat) (g : ca_G) (o : Nat) (M : Nat → Nat → Int32) (hm : mdG g o M) (ho : o + 14 ≤ N) (t : Nat) (f : Nat → Int32) (ht : g t = .inl (182, f)) (hto : o < t) (htd : t < o + 3) : ca_Ct l yX6_burntWorth cX6_burntWorth 4 (some .int) 1 0 0 N 1000000 [.ref o, .ref t] g (ca_pi (smI (bwF (M 7) f) 25) g) := by
  refine ca_intro (by decide) (Nat.le_of_ble_eq_true rfl) (fun X hX hN => ?_)
  show X 0 [_, _, none, none] [] N 1000000 g
  obtain ⟨c0, c1, c2, c3, c4, c5, c6, c7, c8, c9, c10, c11, c12, c13⟩ := id hm
  have loop : ∀ (n i : Nat), i + n = 25 → X 4 [some (.ref o), some (.ref t), some (.int (smI (bwF (M 7) f) i)), some (.int (nI i))] [] N 1000000 g := by
    intro n
    induction n with
    | zero =>
      intro i hi
      obtain rfl : i = 25 := by omega
      refine ca_iload_n hX (q := 5) 3 rfl rfl rfl dX6_burntWorth_4 ?_
      refine ca_bipush hX (q := 7) k_bipush_25 rfl dX6_burntWorth_5 ?_
      refine ca_icmp_ge hX (q := 10) 37 rfl rfl dX6_burntWorth_7 (fun _ => ?_) (fun z => absurd (nI_le (a := 25) (b := 25) (by omega) (by omega)) z)
      refine ca_iload_n hX (q := 38) 2 rfl rfl rfl dX6_burntWorth_37 ?_
      refine ca_iret hX rfl rfl rfl rfl dX6_burntWorth_38 ?_
      exact ⟨rfl, rfl⟩
    | succ n ih =>
      intro i hi
      refine ca_iload_n hX (q := 5) 3 rfl rfl rfl dX6_burntWorth_4 ?_
      refine ca_bipush hX (q := 7) k_bipush_25 rfl dX6_burntWorth_5 ?_
      refine ca_icmp_ge hX (q := 10) 37 rfl rfl dX6_burntWorth_7 (fun z => absurd z (nI_ge (a := i) (b := 25) (by omega) (by omega))) (fun _ => ?_)
      refine ca_iload_n hX (q := 11) 2 rfl rfl rfl dX6_burntWorth_10 ?_
      refine ca_aload_n hX (q := 12) 0 rfl rfl rfl dX6_burntWorth_11 ?_
      refine ca_getf hX (q := 15) cl_X6 10 (by decide) w_fl_X6_31 (by omega) c0 rfl rfl dX6_burntWorth_12 ?_
      refine ca_iload_n hX (q := 16) 3 rfl rfl rfl dX6_burntWorth_15 ?_
      refine ca_iaN hX (q := 17) (k := i) (by omega) c8 (by decide) rfl (by omega) rfl dX6_burntWorth_16 ?_
      refine ca_if_lt hX (q := 20) 28 rfl rfl dX6_burntWorth_17 (fun c17 => ?_) (fun c17 => ?_)
      · refine ca_iconst hX (q := 29) k_iconst_0 rfl dX6_burntWorth_28 ?_
        refine ca_iadd hX (q := 30) rfl dX6_burntWorth_29 ?_
        refine ca_istore_n hX (q := 31) 2 rfl (ls' := [_, _, _, _]) (Nat.le_of_ble_eq_true rfl) (Nat.le_of_ble_eq_true rfl) (Or.inr rfl) rfl rfl dX6_burntWorth_30 ?_
        refine ca_iinc hX (q := 34) (ls' := [_, _, _, _]) k_iconst_1 rfl (Nat.le_of_ble_eq_true rfl) (Or.inr rfl) rfl rfl dX6_burntWorth_31 ?_
        refine ca_goto hX 4 rfl dX6_burntWorth_34 ?_
        rw [nI_1, show smI (bwF (M 7) f) i + 0 = smI (bwF (M 7) f) (i + 1) by rw [smI, show (bwF (M 7) f) i = 0 from if_pos c17]]
        exact ih (i + 1) (by omega)
      · refine ca_aload_n hX (q := 21) 1 rfl rfl rfl dX6_burntWorth_20 ?_
        refine ca_iload_n hX (q := 22) 3 rfl rfl rfl dX6_burntWorth_21 ?_
        refine ca_cSi hX (q := 25) y_X6_worth w_ml_X6_85 hN (c_X6_worth l N g t f ht (by omega) i (by omega)) (by decide) rfl (Nat.le_of_ble_eq_true rfl) rfl dX6_burntWorth_22 rfl ?_
        refine ca_goto hX 29 rfl dX6_burntWorth_25 ?_
        refine ca_iadd hX (q := 30) rfl dX6_burntWorth_29 ?_
        refine ca_istore_n hX (q := 31) 2 rfl (ls' := [_, _, _, _]) (Nat.le_of_ble_eq_true rfl) (Nat.le_of_ble_eq_true rfl) (Or.inr rfl) rfl rfl dX6_burntWorth_30 ?_
        refine ca_iinc hX (q := 34) (ls' := [_, _, _, _]) k_iconst_1 rfl (Nat.le_of_ble_eq_true rfl) (Or.inr rfl) rfl rfl dX6_burntWorth_31 ?_
        refine ca_goto hX 4 rfl dX6_burntWorth_34 ?_
        rw [nI_1, show smI (bwF (M 7) f) i + wtK (f (2 + i)) (f (27 + i)) = smI (bwF (M 7) f) (i + 1) by rw [smI, show (bwF (M 7) f) i = wtK (f (2 + i)) (f (27 + i)) from if_neg c17]]
        exact ih (i + 1) (by omega)
  refine ca_iconst hX (q := 1) k_iconst_0 rfl dX6_burntWorth_0 ?_
  refine ca_istore_n hX (q := 2) 2 rfl (ls' := [_, _, _, _]) (Nat.le_of_ble_eq_true rfl) (Nat.le_of_ble_eq_true rfl) (Or.inr rfl) rfl rfl dX6_burntWorth_1 ?_
  refine ca_iconst hX (q := 3) k_iconst_0 rfl dX6_burntWorth_2 ?_
  refine ca_istore_n hX (q := 4) 3 rfl (ls' := [_, _, _, _]) (Nat.le_of_ble_eq_true rfl) (Nat.le_of_ble_eq_true rfl) (Or.inr rfl) rfl rfl dX6_burntWorth_3 ?_
  exact loop 25 0 (by omega)

def tfC (a P : Nat) (w : Int32) : Nat → Nat
  | 0 => 0
  | i + 1 => if nI ((a + i) % P) = w then tfC a P w i else tfC a P w i + 1
theorem tfC_le (a P : Nat) (w : Int32) : ∀ i, tfC a P w i ≤ i
  | 0 => Nat.le_refl _
  | i + 1 => by rw [tfC]; have := tfC_le a P w i; split <;> omega
def tfB (M : Nat → Nat → Int32) (a P : Nat) (w : Int32) : Nat → (Nat → Nat → Int32)
  | 0 => upB (upB M 13 3 0) 13 4 0
  | i + 1 => if nI ((a + i) % P) = w then tfB M a P w i else upB (upB (tfB M a P w i) 11 (tfC a P w i) (nI ((a + i) % P))) 13 3 (nI (tfC a P w i + 1))
theorem tfB_c (M : Nat → Nat → Int32) (a P : Nat) (w : Int32) : ∀ i, tfB M a P w i 13 3 = nI (tfC a P w i)
  | 0 => by rw [tfB, upB_s, upd_n _ _ (by omega), upB_s, upd_s, tfC]; rfl
  | i + 1 => by
    rw [tfB, tfC]
    split
    · exact tfB_c M a P w i
    · rw [upB_s, upd_s]
theorem tfB_n (M : Nat → Nat → Int32) (a P : Nat) (w : Int32) {j : Nat} (h3 : j ≠ 11) (h8 : j ≠ 13) : ∀ i, tfB M a P w i j = M j
  | 0 => by rw [tfB, upB_n _ _ _ h8, upB_n _ _ _ h8]
  | i + 1 => by
    rw [tfB]
    split
    · exact tfB_n M a P w h3 h8 i
    · rw [upB_n _ _ _ h8, upB_n _ _ _ h3]; exact tfB_n M a P w h3 h8 i
theorem tfB_13 (M : Nat → Nat → Int32) (a P : Nat) (w : Int32) {j : Nat} (h : j ≠ 3) (h4 : j ≠ 4) : ∀ i, tfB M a P w i 13 j = M 13 j
  | 0 => by rw [tfB, upB_s, upd_n _ _ h4, upB_s, upd_n _ _ h]
  | i + 1 => by
    rw [tfB]
    split
    · exact tfB_13 M a P w h h4 i
    · rw [upB_s, upd_n _ _ h, upB_n _ _ _ (by omega)]; exact tfB_13 M a P w h h4 i
theorem tfB_si (M : Nat → Nat → Int32) (a P : Nat) (w : Int32) : ∀ i, tfB M a P w i 13 4 = 0
  | 0 => by rw [tfB, upB_s, upd_s]
  | i + 1 => by
    rw [tfB]
    split
    · exact tfB_si M a P w i
    · rw [upB_s, upd_n _ _ (by omega), upB_n _ _ _ (by omega)]; exact tfB_si M a P w i

set_option maxRecDepth 100000 in
set_option maxHeartbeats 4000000 in
theorem c_X6_turnsFrom (l : Launch) (N : Nat) (g : ca_G) (o : Nat) (M : Nat → Nat → Int32) (hm : mdG g o M) (ho : o + 14 ≤ N) (t : Nat) (f : Nat → Int32) (ht : g t = .inl (182, f)) (hto : o < t) (htd : t < o + 3) (P : Nat) (hP : f 0 = nI P) (hP5 : P ≤ 5) (a : Nat) (ha : a < 5) (w : Int32) : ca_Ct l yX6_turnsFrom cX6_turnsFrom 6 none 0 0 0 N 1000000 [.ref o, .ref t, .int (nI a), .int w] g (fun rr g' => rr = none ∧ mdG g' o (tfB M a P w P) ∧ frG g g' o (o + 14)) := by
  refine ca_intro (by decide) (Nat.le_of_ble_eq_true rfl) (fun X hX hN => ?_)
  show X 0 [_, _, _, _, none, none] [] N 1000000 g
  have loop : ∀ (n i : Nat), i + n = P → ∀ g1, mdG g1 o (tfB M a P w i) → g1 t = .inl (182, f) → frG g g1 o (o + 14) → ∀ x, X 13 [some (.ref o), some (.ref t), some (.int (nI a)), some (.int w), some (.int (nI i)), x] [] N 1000000 g1 := by
    intro n
    induction n with
    | zero =>
      intro i hi g hm ht hfr x
      obtain ⟨c0, c1, c2, c3, c4, c5, c6, c7, c8, c9, c10, c11, c12, c13⟩ := id hm
      refine ca_iload hX (q := 15) rfl rfl dX6_turnsFrom_13 ?_
      refine ca_aload_n hX (q := 16) 1 rfl rfl rfl dX6_turnsFrom_15 ?_
      refine ca_iconst hX (q := 17) k_iconst_0 rfl dX6_turnsFrom_16 ?_
      refine ca_iaN hX (q := 18) (k := 0) (by omega) ht (by decide) rfl (by omega) rfl dX6_turnsFrom_17 ?_
      refine ca_icmp_ge hX (q := 21) 67 rfl rfl dX6_turnsFrom_18 (fun _ => ?_) (fun z => absurd (by rw [hP]; exact nI_le (by omega) (by omega)) z)
      refine ca_vret hX rfl rfl rfl rfl dX6_turnsFrom_67 ?_
      exact ⟨rfl, by rw [show i = P by omega] at hm; exact hm, hfr⟩
    | succ n ih =>
      intro i hi g hm ht hfr x
      have hs := tfB_c M a P w i
      have hle := tfC_le a P w i
      obtain ⟨c0, c1, c2, c3, c4, c5, c6, c7, c8, c9, c10, c11, c12, c13⟩ := id hm
      refine ca_iload hX (q := 15) rfl rfl dX6_turnsFrom_13 ?_
      refine ca_aload_n hX (q := 16) 1 rfl rfl rfl dX6_turnsFrom_15 ?_
      refine ca_iconst hX (q := 17) k_iconst_0 rfl dX6_turnsFrom_16 ?_
      refine ca_iaN hX (q := 18) (k := 0) (by omega) ht (by decide) rfl (by omega) rfl dX6_turnsFrom_17 ?_
      refine ca_icmp_ge hX (q := 21) 67 rfl rfl dX6_turnsFrom_18 (fun z => absurd z (by rw [hP]; exact nI_ge (by omega) (by omega))) (fun _ => ?_)
      refine ca_iload_n hX (q := 22) 2 rfl rfl rfl dX6_turnsFrom_21 ?_
      refine ca_iload hX (q := 24) rfl rfl dX6_turnsFrom_22 ?_
      refine ca_iadd hX (q := 25) rfl dX6_turnsFrom_24 ?_
      refine ca_aload_n hX (q := 26) 1 rfl rfl rfl dX6_turnsFrom_25 ?_
      refine ca_iconst hX (q := 27) k_iconst_0 rfl dX6_turnsFrom_26 ?_
      refine ca_iaN hX (q := 28) (k := 0) (by omega) ht (by decide) rfl (by omega) rfl dX6_turnsFrom_27 ?_
      rw [hP, nI_add]
      refine ca_irem hX (q := 29) (nI_ne0 (by omega) (by omega)) rfl dX6_turnsFrom_28 ?_
      rw [pk_rem (by omega) (by omega) (by omega)]
      refine ca_istore hX (q := 31) (ls' := [_, _, _, _, _, _]) (Nat.le_of_ble_eq_true rfl) (Nat.le_of_ble_eq_true rfl) (Or.inr rfl) rfl rfl dX6_turnsFrom_29 ?_
      refine ca_iload hX (q := 33) rfl rfl dX6_turnsFrom_31 ?_
      refine ca_iload_n hX (q := 34) 3 rfl rfl rfl dX6_turnsFrom_33 ?_
      refine ca_icmp_ne hX (q := 37) 40 rfl rfl dX6_turnsFrom_34 (fun c34 => ?_) (fun c34 => ?_)
      · refine ca_aload_n hX (q := 41) 0 rfl rfl rfl dX6_turnsFrom_40 ?_
        refine ca_getf hX (q := 44) cl_X6 14 (by decide) w_fl_X6_43 (by omega) c0 rfl rfl dX6_turnsFrom_41 ?_
        refine ca_aload_n hX (q := 45) 0 rfl rfl rfl dX6_turnsFrom_44 ?_
        refine ca_getf hX (q := 48) cl_X6 15 (by decide) w_fl_X6_96 (by omega) c0 rfl rfl dX6_turnsFrom_45 ?_
        refine ca_iload hX (q := 50) rfl rfl dX6_turnsFrom_48 ?_
        refine ca_iaS hX (q := 51) (k := tfC a P w i) (by omega) hN (Nat.le_refl _) c12 (by decide) hs (by omega) rfl dX6_turnsFrom_50 (fun g hE hF => ?_)
        have hm := md_a11 hm hE hF
        obtain ⟨c0, c1, c2, c3, c4, c5, c6, c7, c8, c9, c10, c11, c12, c13⟩ := id hm
        have hfr := frG.tr hfr (fun j hj => hF j (by omega))
        have ht := (hF t (by omega)).trans ht
        refine ca_aload_n hX (q := 52) 0 rfl rfl rfl dX6_turnsFrom_51 ?_
        refine ca_dup hX (q := 53) rfl rfl dX6_turnsFrom_52 ?_
        refine ca_getf hX (q := 56) cl_X6 15 (by decide) w_fl_X6_96 (by omega) c0 rfl rfl dX6_turnsFrom_53 ?_
        refine ca_iconst hX (q := 57) k_iconst_1 rfl dX6_turnsFrom_56 ?_
        refine ca_iadd hX (q := 58) rfl dX6_turnsFrom_57 ?_
        refine ca_puti hX (q := 61) (fs' := [_, _, _, _, _, _, _, _, _, _, _, _, _, _, _, _, _, _, _, _]) cl_X6 15 (by decide) w_fl_X6_96 rfl rfl (by omega) hN c0 (Nat.le_of_ble_eq_true rfl) rfl rfl dX6_turnsFrom_58 (fun g hE hF => ?_)
        have hm := md_s3 hm hE hF
        obtain ⟨c0, c1, c2, c3, c4, c5, c6, c7, c8, c9, c10, c11, c12, c13⟩ := id hm
        have hfr := frG.tr hfr (fun j hj => hF j (by omega))
        have ht := (hF t (by omega)).trans ht
        refine ca_iinc hX (q := 64) (ls' := [_, _, _, _, _, _]) k_iconst_1 rfl (Nat.le_of_ble_eq_true rfl) (Or.inr rfl) rfl rfl dX6_turnsFrom_61 ?_
        refine ca_goto hX 13 rfl dX6_turnsFrom_64 ?_
        rw [nI_1]
        refine ih (i + 1) (by omega) g ?_ ht hfr _
        rw [tfB, if_neg c34, ← nI_1]
        rw [show upB (tfB M a P w i) 11 (tfC a P w i) (nI ((a + i) % P)) 13 3 = nI (tfC a P w i) by rw [upB_n _ _ _ (by omega), hs]] at hm
        exact hm
      · refine ca_goto hX 61 rfl dX6_turnsFrom_37 ?_
        refine ca_iinc hX (q := 64) (ls' := [_, _, _, _, _, _]) k_iconst_1 rfl (Nat.le_of_ble_eq_true rfl) (Or.inr rfl) rfl rfl dX6_turnsFrom_61 ?_
        refine ca_goto hX 13 rfl dX6_turnsFrom_64 ?_
        rw [nI_1]
        exact ih (i + 1) (by omega) g (by rw [tfB, if_pos c34]; exact hm) ht hfr _
  have hfr : frG g g o (o + 14) := frG.rf
  obtain ⟨c0, c1, c2, c3, c4, c5, c6, c7, c8, c9, c10, c11, c12, c13⟩ := id hm
  refine ca_aload_n hX (q := 1) 0 rfl rfl rfl dX6_turnsFrom_0 ?_
  refine ca_iconst hX (q := 2) k_iconst_0 rfl dX6_turnsFrom_1 ?_
  refine ca_puti hX (q := 5) (fs' := [_, _, _, _, _, _, _, _, _, _, _, _, _, _, _, _, _, _, _, _]) cl_X6 15 (by decide) w_fl_X6_96 rfl rfl (by omega) hN c0 (Nat.le_of_ble_eq_true rfl) rfl rfl dX6_turnsFrom_2 (fun g hE hF => ?_)
  have hm := md_s3 hm hE hF
  obtain ⟨c0, c1, c2, c3, c4, c5, c6, c7, c8, c9, c10, c11, c12, c13⟩ := id hm
  have hfr := frG.tr hfr (fun j hj => hF j (by omega))
  have ht := (hF t (by omega)).trans ht
  refine ca_aload_n hX (q := 6) 0 rfl rfl rfl dX6_turnsFrom_5 ?_
  refine ca_iconst hX (q := 7) k_iconst_0 rfl dX6_turnsFrom_6 ?_
  refine ca_puti hX (q := 10) (fs' := [_, _, _, _, _, _, _, _, _, _, _, _, _, _, _, _, _, _, _, _]) cl_X6 16 (by decide) w_fl_X6_100 rfl rfl (by omega) hN c0 (Nat.le_of_ble_eq_true rfl) rfl rfl dX6_turnsFrom_7 (fun g hE hF => ?_)
  have hm := md_s4 hm hE hF
  obtain ⟨c0, c1, c2, c3, c4, c5, c6, c7, c8, c9, c10, c11, c12, c13⟩ := id hm
  have hfr := frG.tr hfr (fun j hj => hF j (by omega))
  have ht := (hF t (by omega)).trans ht
  refine ca_iconst hX (q := 11) k_iconst_0 rfl dX6_turnsFrom_10 ?_
  refine ca_istore hX (q := 13) (ls' := [_, _, _, _, _, _]) (Nat.le_of_ble_eq_true rfl) (Nat.le_of_ble_eq_true rfl) (Or.inr rfl) rfl rfl dX6_turnsFrom_11 ?_
  exact loop P 0 (by omega) g hm ht hfr _

