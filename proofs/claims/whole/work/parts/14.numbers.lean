theorem nI_lo {a b : Nat} (h : ¬ nI b ≤ nI a) (ha : a < 2 ^ 31) (hb : b < 2 ^ 31) : a < b := by
  rcases Nat.lt_or_ge a b with z | z
  · exact z
  · exact absurd (nI_le z ha) h
theorem nI_hi {a b : Nat} (h : nI b ≤ nI a) (ha : a < 2 ^ 31) (hb : b < 2 ^ 31) : b ≤ a := (nI_leI hb ha).mp h
section CACPY
variable {l : Launch} {y : MethodName} {cc : ByteArray} {nL : Nat} {ret : Option FieldType} {F mc ms N0 S0 : Nat} {sc : ca_Sc} {post : ca_Post} {X : ca_J}
variable {pc q : Nat} {ls : List (Option Value)} {st : List Value} {N S : Nat} {g : ca_G} {idx : Nat}
theorem ca_cpy (hX : ca_Good l y cc nL ret F mc ms N0 S0 sc post X) {i j n : Nat} {f0 f1 : Nat → Int32} {x : Int32} (wl : Cond.methodLink y.cls idx arraycopyName ∈ ca_TT) (hi : i < N) (hj : j < N) (hN : N ≤ 1000) (hS : 1000000 ≤ S) (gi : g i = .inl (n, f0)) (gj : g j = .inl (n, f1)) (hx : x = nI n) (hn : n < 100000) (hF : 1 ≤ F) (hst : (st.map fun v => v.category).sum ≤ 2) (hq : pc + 3 = q) (hd : decode cc pc = .ok (.invokestatic idx, 3))
    (kk : ∀ g2 : ca_G, g2 j = .inl (n, va_cpy f0 f1 0 0 n) → (∀ k, k ≠ j → g2 k = g k) → X q ls st N S g2) : X pc ls (.int x :: .int 0 :: .ref j :: .int 0 :: .ref i :: st) N S g := by
  subst hx
  have hz : (0 : Int32).toNatClampNeg = 0 := by decide
  refine ca_copy hX wl w_native w_acs w_in_J10 hi hj hN hS gi gj (by decide) (by decide) (nI_pos (by omega)) (by rw [hz, nI_clamp (by omega)]; omega) (by rw [hz, nI_clamp (by omega)]; omega) hF hst hq hd ?_
  rw [hz, nI_clamp (by omega)]
  exact kk _ (ca_up_s _ _ _) (fun k hk => ca_up_n _ _ hk)
end CACPY
theorem tkM_0 (h : Nat → Int32) (P : Nat) (v : Int32) : upd (upd h 0 (nI (P + 1))) (52 + P) v = tkM h P v 0 := by
  funext j
  unfold tkM
  by_cases e : j = 0
  · subst e; rw [upd_n _ _ (by omega), upd_s, if_pos rfl]
  · rw [if_neg e]
    by_cases e2 : j = 52 + P
    · rw [if_pos e2, e2, upd_s]
    · rw [if_neg e2, upd_n _ _ e2, upd_n _ _ e, if_neg (by omega)]
theorem tkM_s (h : Nat → Int32) (P : Nat) (v : Int32) (n : Nat) (hP : P < 5) : upd (tkM h P v n) (57 + (25 * P + n)) 0 = tkM h P v (n + 1) := by
  funext j
  by_cases e : j = 57 + (25 * P + n)
  · subst e; rw [upd_s]; unfold tkM; rw [if_neg (by omega), if_neg (by omega), if_pos (by omega)]
  · rw [upd_n _ _ e]; unfold tkM
    by_cases e1 : j = 0
    · rw [if_pos e1, if_pos e1]
    · rw [if_neg e1, if_neg e1]
      by_cases e2 : j = 52 + P
      · rw [if_pos e2, if_pos e2]
      · rw [if_neg e2, if_neg e2]
        by_cases e3 : 57 + 25 * P ≤ j ∧ j < 57 + 25 * P + n
        · rw [if_pos e3, if_pos (by omega)]
        · rw [if_neg e3, if_neg (by omega)]
theorem tkM_z (h : Nat → Int32) (P : Nat) (v : Int32) (n : Nat) : tkM h P v n 0 = nI (P + 1) := by unfold tkM; rw [if_pos rfl]

set_option maxRecDepth 100000 in
set_option maxHeartbeats 4000000 in
theorem c_X1_takeIn (l : Launch) (N : Nat) (g : ca_G) (b : Nat) (h : Nat → Int32) (hh : hsG g b h) (hb : b + 5 ≤ N) (P : Nat) (hP : h 0 = nI P) (hP5 : P < 5) (v : Int32) : ca_Ct l yX1_takeIn cX1_takeIn 4 (some .boolean) 2 0 0 N 1000000 [.ref b, .int v] g (fun rr g' => rr = some (.int 1) ∧ hsG g' b (tkM h P v 25) ∧ frG g g' b (b + 5)) := by
  refine ca_intro (by decide) (Nat.le_of_ble_eq_true rfl) (fun X hX hN => ?_)
  show X 0 [_, _, none, none] [] N 1000000 g
  have loop : ∀ (n i : Nat), i + n = 25 → ∀ g1, hsG g1 b (tkM h P v i) → frG g g1 b (b + 5) → X 33 [some (.ref b), some (.int v), some (.int (nI P)), some (.int (nI i))] [] N 1000000 g1 := by
    intro n
    induction n with
    | zero =>
      intro i hi g hh hfr
      obtain rfl : i = 25 := by omega
      obtain ⟨h0, h1, h2, h3, h4⟩ := id hh
      refine ca_iload_n hX (q := 34) 3 rfl rfl rfl dX1_takeIn_33 ?_
      refine ca_bipush hX (q := 36) k_bipush_25 rfl dX1_takeIn_34 ?_
      refine ca_icmp_ge hX (q := 39) 52 rfl rfl dX1_takeIn_36 (fun _ => ?_) (fun z => absurd (nI_le (a := 25) (b := 25) (by omega) (by omega)) z)
      refine ca_iconst hX (q := 53) k_iconst_1 rfl dX1_takeIn_52 ?_
      refine ca_zret hX rfl rfl rfl rfl rfl dX1_takeIn_53 ?_
      exact ⟨rfl, hh, hfr⟩
    | succ n ih =>
      intro i hi g hh hfr
      obtain ⟨h0, h1, h2, h3, h4⟩ := id hh
      refine ca_iload_n hX (q := 34) 3 rfl rfl rfl dX1_takeIn_33 ?_
      refine ca_bipush hX (q := 36) k_bipush_25 rfl dX1_takeIn_34 ?_
      refine ca_icmp_ge hX (q := 39) 52 rfl rfl dX1_takeIn_36 (fun z => absurd z (nI_ge (a := i) (b := 25) (by omega) (by omega))) (fun _ => ?_)
      refine ca_aload_n hX (q := 40) 0 rfl rfl rfl dX1_takeIn_39 ?_
      refine ca_iload_n hX (q := 41) 2 rfl rfl rfl dX1_takeIn_40 ?_
      refine ca_iload_n hX (q := 42) 3 rfl rfl rfl dX1_takeIn_41 ?_
      refine ca_iconst hX (q := 43) k_iconst_0 rfl dX1_takeIn_42 ?_
      refine ca_cV hX (q := 46) y_X1_learn w_ml_X1_67 (by omega) hN h0 (c_X1_learn l N g b _ hh hb (P + 1) (tkM_z h P v i) (by omega) P i (by omega) (by omega) 0) (by decide) rfl (by decide) rfl dX1_takeIn_43 rfl ?_
      rintro _ g ⟨rfl, hh, hf⟩
      have hfr := frG.tr hfr hf
      refine ca_iinc hX (q := 49) (ls' := [_, _, _, _]) k_iconst_1 rfl (Nat.le_of_ble_eq_true rfl) (Or.inr rfl) rfl rfl dX1_takeIn_46 ?_
      refine ca_goto hX 33 rfl dX1_takeIn_49 ?_
      rw [nI_1]
      exact ih (i + 1) (by omega) g (by rw [← tkM_s _ _ _ _ hP5]; exact hh) hfr
  obtain ⟨h0, h1, h2, h3, h4⟩ := id hh
  rw [hP] at h0
  refine ca_aload_n hX (q := 1) 0 rfl rfl rfl dX1_takeIn_0 ?_
  refine ca_getf hX (q := 4) cl_X1 4 (by decide) w_fl_X1_24 (by omega) h0 rfl rfl dX1_takeIn_1 ?_
  refine ca_iconst hX (q := 5) k_iconst_5 rfl dX1_takeIn_4 ?_
  refine ca_icmp_lt hX (q := 8) 10 rfl rfl dX1_takeIn_5 (fun _ => ?_) (fun z => absurd (nI_lt (a := P) (b := 5) (by omega) (by omega)) z)
  refine ca_aload_n hX (q := 11) 0 rfl rfl rfl dX1_takeIn_10 ?_
  refine ca_getf hX (q := 14) cl_X1 4 (by decide) w_fl_X1_24 (by omega) h0 rfl rfl dX1_takeIn_11 ?_
  refine ca_istore_n hX (q := 15) 2 rfl (ls' := [_, _, _, _]) (Nat.le_of_ble_eq_true rfl) (Nat.le_of_ble_eq_true rfl) (Or.inr rfl) rfl rfl dX1_takeIn_14 ?_
  refine ca_aload_n hX (q := 16) 0 rfl rfl rfl dX1_takeIn_15 ?_
  refine ca_dup hX (q := 17) rfl rfl dX1_takeIn_16 ?_
  refine ca_getf hX (q := 20) cl_X1 4 (by decide) w_fl_X1_24 (by omega) h0 rfl rfl dX1_takeIn_17 ?_
  refine ca_iconst hX (q := 21) k_iconst_1 rfl dX1_takeIn_20 ?_
  refine ca_iadd hX (q := 22) rfl dX1_takeIn_21 ?_
  refine ca_puti hX (q := 25) (fs' := [_, _, _, _, _, _]) cl_X1 4 (by decide) w_fl_X1_24 rfl rfl (by omega) hN h0 (Nat.le_of_ble_eq_true rfl) rfl rfl dX1_takeIn_22 (fun g2 hE hF => ?_)
  have h0 := hE
  have h1 := (hF (b + 1) (by omega)).trans h1
  have h2 := (hF (b + 2) (by omega)).trans h2
  have h3 := (hF (b + 3) (by omega)).trans h3
  have h4 := (hF (b + 4) (by omega)).trans h4
  have hh2 : hsG g2 b (upd h 0 (nI (P + 1))) := by
    refine ⟨?_, ?_, ?_, ?_, ?_⟩
    · rw [h0, upd_s, upd_n _ _ (by omega), ← nI_1]
    · rw [h1]; exact congrArg (fun f => Sum.inl (25, f)) (msk_ext fun j hj => by rw [upd_n _ _ (by omega)])
    · rw [h2]; exact congrArg (fun f => Sum.inl (25, f)) (msk_ext fun j hj => by rw [upd_n _ _ (by omega)])
    · rw [h3]; exact congrArg (fun f => Sum.inl (5, f)) (msk_ext fun j hj => by rw [upd_n _ _ (by omega)])
    · rw [h4]; exact congrArg (fun f => Sum.inl (125, f)) (msk_ext fun j hj => by rw [upd_n _ _ (by omega)])
  have hfr : frG g g2 b (b + 5) := fun j hj => hF j (by omega)
  refine ca_aload_n hX (q := 26) 0 rfl rfl rfl dX1_takeIn_25 ?_
  refine ca_iload_n hX (q := 27) 2 rfl rfl rfl dX1_takeIn_26 ?_
  refine ca_iload_n hX (q := 28) 1 rfl rfl rfl dX1_takeIn_27 ?_
  refine ca_cV hX (q := 31) y_X1_sharpen w_ml_X1_63 (by omega) hN h0 (c_X1_sharpen l N g2 b _ hh2 hb (P + 1) (upd_s _ _ _) (by omega) P (by omega) v) (by decide) rfl (by decide) rfl dX1_takeIn_28 rfl ?_
  rintro _ g3 ⟨rfl, hh3, hf⟩
  rw [tkM_0] at hh3
  have hfr := frG.tr hfr hf
  refine ca_iconst hX (q := 32) k_iconst_0 rfl dX1_takeIn_31 ?_
  refine ca_istore_n hX (q := 33) 3 rfl (ls' := [_, _, _, _]) (Nat.le_of_ble_eq_true rfl) (Nat.le_of_ble_eq_true rfl) (Or.inr rfl) rfl rfl dX1_takeIn_32 ?_
  exact loop 25 0 (by omega) g3 hh3 hfr

set_option maxRecDepth 100000 in
set_option maxHeartbeats 4000000 in
theorem c_X1_takeIn_full (l : Launch) (N : Nat) (g : ca_G) (b : Nat) (h : Nat → Int32) (hh : hsG g b h) (hb : b + 5 ≤ N) (hP : h 0 = 5) (v : Int32) : ca_Ct l yX1_takeIn cX1_takeIn 4 (some .boolean) 2 0 0 N 1000000 [.ref b, .int v] g (ca_pi 0 g) := by
  refine ca_intro (by decide) (Nat.le_of_ble_eq_true rfl) (fun X hX hN => ?_)
  show X 0 [_, _, none, none] [] N 1000000 g
  obtain ⟨h0, h1, h2, h3, h4⟩ := hh
  rw [hP] at h0
  refine ca_aload_n hX (q := 1) 0 rfl rfl rfl dX1_takeIn_0 ?_
  refine ca_getf hX (q := 4) cl_X1 4 (by decide) w_fl_X1_24 (by omega) h0 rfl rfl dX1_takeIn_1 ?_
  refine ca_iconst hX (q := 5) k_iconst_5 rfl dX1_takeIn_4 ?_
  refine ca_icmp_lt hX (q := 8) 10 rfl rfl dX1_takeIn_5 (fun z => absurd z (by decide)) (fun _ => ?_)
  refine ca_iconst hX (q := 9) k_iconst_0 rfl dX1_takeIn_8 ?_
  refine ca_zret hX rfl rfl rfl rfl rfl dX1_takeIn_9 ?_
  exact ⟨rfl, rfl⟩

set_option maxRecDepth 100000 in
set_option maxHeartbeats 4000000 in
theorem c_X1_become (l : Launch) (N : Nat) (g : ca_G) (b : Nat) (h : Nat → Int32) (hh : hsG g b h) (hb : b + 5 ≤ N) (c : Nat) (k : Nat → Int32) (hk : hsG g c k) (hc : c + 5 ≤ N) (hd : b + 5 ≤ c ∨ c + 5 ≤ b) : ca_Ct l yX1_become cX1_become 2 none 1 0 0 N 1000000 [.ref b, .ref c] g (fun rr g' => rr = none ∧ hsG g' b (k) ∧ frG g g' b (b + 5)) := by
  refine ca_intro (by decide) (Nat.le_of_ble_eq_true rfl) (fun X hX hN => ?_)
  show X 0 [_, _] [] N 1000000 g
  obtain ⟨h0, h1, h2, h3, h4⟩ := hh
  obtain ⟨k0, k1, k2, k3, k4⟩ := hk
  have hfr : ∀ j, (j < b ∨ b + 5 ≤ j) → g j = g j := fun _ _ => rfl
  refine ca_aload_n hX (q := 1) 1 rfl rfl rfl dX1_become_0 ?_
  refine ca_getf hX (q := 4) cl_X1 0 (by decide) w_fl_X1_9 (by omega) k0 rfl rfl dX1_become_1 ?_
  refine ca_iconst hX (q := 5) k_iconst_0 rfl dX1_become_4 ?_
  refine ca_aload_n hX (q := 6) 0 rfl rfl rfl dX1_become_5 ?_
  refine ca_getf hX (q := 9) cl_X1 0 (by decide) w_fl_X1_9 (by omega) h0 rfl rfl dX1_become_6 ?_
  refine ca_iconst hX (q := 10) k_iconst_0 rfl dX1_become_9 ?_
  refine ca_bipush hX (q := 12) k_bipush_25 rfl dX1_become_10 ?_
  refine ca_cpy hX w_ml_X1_31 (by omega) (by omega) hN (Nat.le_refl _) k1 h1 rfl (by decide) (by decide) (Nat.le_of_ble_eq_true rfl) rfl dX1_become_12 (fun g hE hF => ?_)
  have h0 := (hF b (by omega)).trans h0
  have h1 := hE
  have h2 := (hF (b + 2) (by omega)).trans h2
  have h3 := (hF (b + 3) (by omega)).trans h3
  have h4 := (hF (b + 4) (by omega)).trans h4
  have k0 := (hF c (by omega)).trans k0
  have k1 := (hF (c + 1) (by omega)).trans k1
  have k2 := (hF (c + 2) (by omega)).trans k2
  have k3 := (hF (c + 3) (by omega)).trans k3
  have k4 := (hF (c + 4) (by omega)).trans k4
  have hfr := fun j (hj : j < b ∨ b + 5 ≤ j) => (hF j (by omega)).trans (hfr j hj)
  refine ca_aload_n hX (q := 16) 1 rfl rfl rfl dX1_become_15 ?_
  refine ca_getf hX (q := 19) cl_X1 1 (by decide) w_fl_X1_15 (by omega) k0 rfl rfl dX1_become_16 ?_
  refine ca_iconst hX (q := 20) k_iconst_0 rfl dX1_become_19 ?_
  refine ca_aload_n hX (q := 21) 0 rfl rfl rfl dX1_become_20 ?_
  refine ca_getf hX (q := 24) cl_X1 1 (by decide) w_fl_X1_15 (by omega) h0 rfl rfl dX1_become_21 ?_
  refine ca_iconst hX (q := 25) k_iconst_0 rfl dX1_become_24 ?_
  refine ca_bipush hX (q := 27) k_bipush_25 rfl dX1_become_25 ?_
  refine ca_cpy hX w_ml_X1_31 (by omega) (by omega) hN (Nat.le_refl _) k2 h2 rfl (by decide) (by decide) (Nat.le_of_ble_eq_true rfl) rfl dX1_become_27 (fun g hE hF => ?_)
  have h0 := (hF b (by omega)).trans h0
  have h1 := (hF (b + 1) (by omega)).trans h1
  have h2 := hE
  have h3 := (hF (b + 3) (by omega)).trans h3
  have h4 := (hF (b + 4) (by omega)).trans h4
  have k0 := (hF c (by omega)).trans k0
  have k1 := (hF (c + 1) (by omega)).trans k1
  have k2 := (hF (c + 2) (by omega)).trans k2
  have k3 := (hF (c + 3) (by omega)).trans k3
  have k4 := (hF (c + 4) (by omega)).trans k4
  have hfr := fun j (hj : j < b ∨ b + 5 ≤ j) => (hF j (by omega)).trans (hfr j hj)
  refine ca_aload_n hX (q := 31) 1 rfl rfl rfl dX1_become_30 ?_
  refine ca_getf hX (q := 34) cl_X1 2 (by decide) w_fl_X1_18 (by omega) k0 rfl rfl dX1_become_31 ?_
  refine ca_iconst hX (q := 35) k_iconst_0 rfl dX1_become_34 ?_
  refine ca_aload_n hX (q := 36) 0 rfl rfl rfl dX1_become_35 ?_
  refine ca_getf hX (q := 39) cl_X1 2 (by decide) w_fl_X1_18 (by omega) h0 rfl rfl dX1_become_36 ?_
  refine ca_iconst hX (q := 40) k_iconst_0 rfl dX1_become_39 ?_
  refine ca_iconst hX (q := 41) k_iconst_5 rfl dX1_become_40 ?_
  refine ca_cpy hX w_ml_X1_31 (by omega) (by omega) hN (Nat.le_refl _) k3 h3 rfl (by decide) (by decide) (Nat.le_of_ble_eq_true rfl) rfl dX1_become_41 (fun g hE hF => ?_)
  have h0 := (hF b (by omega)).trans h0
  have h1 := (hF (b + 1) (by omega)).trans h1
  have h2 := (hF (b + 2) (by omega)).trans h2
  have h3 := hE
  have h4 := (hF (b + 4) (by omega)).trans h4
  have k0 := (hF c (by omega)).trans k0
  have k1 := (hF (c + 1) (by omega)).trans k1
  have k2 := (hF (c + 2) (by omega)).trans k2
  have k3 := (hF (c + 3) (by omega)).trans k3
  have k4 := (hF (c + 4) (by omega)).trans k4
  have hfr := fun j (hj : j < b ∨ b + 5 ≤ j) => (hF j (by omega)).trans (hfr j hj)
  refine ca_aload_n hX (q := 45) 1 rfl rfl rfl dX1_become_44 ?_
  refine ca_getf hX (q := 48) cl_X1 3 (by decide) w_fl_X1_21 (by omega) k0 rfl rfl dX1_become_45 ?_
  refine ca_iconst hX (q := 49) k_iconst_0 rfl dX1_become_48 ?_
  refine ca_aload_n hX (q := 50) 0 rfl rfl rfl dX1_become_49 ?_
  refine ca_getf hX (q := 53) cl_X1 3 (by decide) w_fl_X1_21 (by omega) h0 rfl rfl dX1_become_50 ?_
  refine ca_iconst hX (q := 54) k_iconst_0 rfl dX1_become_53 ?_
  refine ca_bipush hX (q := 56) k_bipush_125 rfl dX1_become_54 ?_
  refine ca_cpy hX w_ml_X1_31 (by omega) (by omega) hN (Nat.le_refl _) k4 h4 rfl (by decide) (by decide) (Nat.le_of_ble_eq_true rfl) rfl dX1_become_56 (fun g hE hF => ?_)
  have h0 := (hF b (by omega)).trans h0
  have h1 := (hF (b + 1) (by omega)).trans h1
  have h2 := (hF (b + 2) (by omega)).trans h2
  have h3 := (hF (b + 3) (by omega)).trans h3
  have h4 := hE
  have k0 := (hF c (by omega)).trans k0
  have k1 := (hF (c + 1) (by omega)).trans k1
  have k2 := (hF (c + 2) (by omega)).trans k2
  have k3 := (hF (c + 3) (by omega)).trans k3
  have k4 := (hF (c + 4) (by omega)).trans k4
  have hfr := fun j (hj : j < b ∨ b + 5 ≤ j) => (hF j (by omega)).trans (hfr j hj)
  refine ca_aload_n hX (q := 60) 0 rfl rfl rfl dX1_become_59 ?_
  refine ca_aload_n hX (q := 61) 1 rfl rfl rfl dX1_become_60 ?_
  refine ca_getf hX (q := 64) cl_X1 4 (by decide) w_fl_X1_24 (by omega) k0 rfl rfl dX1_become_61 ?_
  refine ca_puti hX (q := 67) (fs' := [_, _, _, _, _, _]) cl_X1 4 (by decide) w_fl_X1_24 rfl rfl (by omega) hN h0 (Nat.le_of_ble_eq_true rfl) rfl rfl dX1_become_64 (fun g hE hF => ?_)
  have h0 := hE
  have h1 := (hF (b + 1) (by omega)).trans h1
  have h2 := (hF (b + 2) (by omega)).trans h2
  have h3 := (hF (b + 3) (by omega)).trans h3
  have h4 := (hF (b + 4) (by omega)).trans h4
  have k0 := (hF c (by omega)).trans k0
  have k1 := (hF (c + 1) (by omega)).trans k1
  have k2 := (hF (c + 2) (by omega)).trans k2
  have k3 := (hF (c + 3) (by omega)).trans k3
  have k4 := (hF (c + 4) (by omega)).trans k4
  have hfr := fun j (hj : j < b ∨ b + 5 ≤ j) => (hF j (by omega)).trans (hfr j hj)
  refine ca_aload_n hX (q := 68) 0 rfl rfl rfl dX1_become_67 ?_
  refine ca_aload_n hX (q := 69) 1 rfl rfl rfl dX1_become_68 ?_
  refine ca_getf hX (q := 72) cl_X1 5 (by decide) w_fl_X1_28 (by omega) k0 rfl rfl dX1_become_69 ?_
  refine ca_puti hX (q := 75) (fs' := [_, _, _, _, _, _]) cl_X1 5 (by decide) w_fl_X1_28 rfl rfl (by omega) hN h0 (Nat.le_of_ble_eq_true rfl) rfl rfl dX1_become_72 (fun g hE hF => ?_)
  have h0 := hE
  have h1 := (hF (b + 1) (by omega)).trans h1
  have h2 := (hF (b + 2) (by omega)).trans h2
  have h3 := (hF (b + 3) (by omega)).trans h3
  have h4 := (hF (b + 4) (by omega)).trans h4
  have k0 := (hF c (by omega)).trans k0
  have k1 := (hF (c + 1) (by omega)).trans k1
  have k2 := (hF (c + 2) (by omega)).trans k2
  have k3 := (hF (c + 3) (by omega)).trans k3
  have k4 := (hF (c + 4) (by omega)).trans k4
  have hfr := fun j (hj : j < b ∨ b + 5 ≤ j) => (hF j (by omega)).trans (hfr j hj)
  refine ca_vret hX rfl rfl rfl rfl dX1_become_75 ?_
  refine ⟨rfl, ⟨?_, ?_, ?_, ?_, ?_⟩, hfr⟩
  · exact h0
  · rw [h1, msk_cpy]
  · rw [h2, msk_cpy]
  · rw [h3, msk_cpy]
  · rw [h4, msk_cpy]

/-- numbers told one by one: a row of n, k of them told -/
def nbG (g : ca_G) (a n : Nat) (f : Nat → Int32) (k : Nat) : Prop := g a = .inr (2, [.ref (a + 1), .int (nI k)]) ∧ g (a + 1) = .inl (n, f)
theorem nbG.fr {g g' : ca_G} {a n k lo hi : Nat} {f : Nat → Int32} (h : nbG g a n f k) (fr : frG g g' lo hi) (hd : a + 2 ≤ lo ∨ hi ≤ a) : nbG g' a n f k := ⟨(fr a (by omega)).trans h.1, (fr (a + 1) (by omega)).trans h.2⟩
def atM (f : Nat → Int32) (k j : Nat) : Int32 := if j < k then f j else -9

set_option maxRecDepth 100000 in
set_option maxHeartbeats 4000000 in
theorem c_X3_isFull (l : Launch) (N : Nat) (g : ca_G) (a n k : Nat) (f : Nat → Int32) (hh : nbG g a n f k) (ha : a + 2 ≤ N) (hn : n < 1000) (hk : k ≤ n) : ca_Ct l yX3_isFull cX3_isFull 1 (some .boolean) 0 0 0 N 1000000 [.ref a] g (ca_pi (if k < n then 0 else 1) g) := by
  refine ca_intro (by decide) (Nat.le_of_ble_eq_true rfl) (fun X hX hN => ?_)
  show X 0 [_] [] N 1000000 g
  obtain ⟨h0, h1⟩ := id hh
  refine ca_aload_n hX (q := 1) 0 rfl rfl rfl dX3_isFull_0 ?_
  refine ca_getf hX (q := 4) cl_X3 1 (by decide) w_fl_X3_21 (by omega) h0 rfl rfl dX3_isFull_1 ?_
  refine ca_aload_n hX (q := 5) 0 rfl rfl rfl dX3_isFull_4 ?_
  refine ca_getf hX (q := 8) cl_X3 0 (by decide) w_fl_X3_15 (by omega) h0 rfl rfl dX3_isFull_5 ?_
  refine ca_alen hX (q := 9) (by omega) h1 (rfl : Int32.ofNat n = nI n) rfl dX3_isFull_8 ?_
  refine ca_icmp_lt hX (q := 12) 16 rfl rfl dX3_isFull_9 (fun c9 => ?_) (fun c9 => ?_)
  · refine ca_iconst hX (q := 17) k_iconst_0 rfl dX3_isFull_16 ?_
    refine ca_zret hX rfl rfl rfl rfl rfl dX3_isFull_17 ?_
    exact ⟨by rw [if_pos ((nI_ltI (by omega) (by omega)).mp c9)], rfl⟩
  · refine ca_iconst hX (q := 13) k_iconst_1 rfl dX3_isFull_12 ?_
    refine ca_goto hX 17 rfl dX3_isFull_13 ?_
    refine ca_zret hX rfl rfl rfl rfl rfl dX3_isFull_17 ?_
    exact ⟨by rw [if_neg (fun z => c9 ((nI_ltI (by omega) (by omega)).mpr z))], rfl⟩

set_option maxRecDepth 100000 in
set_option maxHeartbeats 4000000 in
theorem c_X3_add (l : Launch) (N : Nat) (g : ca_G) (a n k : Nat) (f : Nat → Int32) (hh : nbG g a n f k) (ha : a + 2 ≤ N) (hn : n < 1000) (hk : k < n) (x : Int32) : ca_Ct l yX3_add cX3_add 2 (some .int) 0 0 0 N 1000000 [.ref a, .int x] g (fun rr g' => rr = some (.int (nI (k + 1))) ∧ nbG g' a n (upd f k x) (k + 1) ∧ frG g g' a (a + 2)) := by
  refine ca_intro (by decide) (Nat.le_of_ble_eq_true rfl) (fun X hX hN => ?_)
  show X 0 [_, _] [] N 1000000 g
  obtain ⟨h0, h1⟩ := id hh
  have hfr : ∀ j, (j < a ∨ a + 2 ≤ j) → g j = g j := fun _ _ => rfl
  refine ca_aload_n hX (q := 1) 0 rfl rfl rfl dX3_add_0 ?_
  refine ca_getf hX (q := 4) cl_X3 1 (by decide) w_fl_X3_21 (by omega) h0 rfl rfl dX3_add_1 ?_
  refine ca_if_lt hX (q := 7) 39 rfl rfl dX3_add_4 (fun z => absurd z (nI_pos (by omega))) (fun _ => ?_)
  refine ca_aload_n hX (q := 8) 0 rfl rfl rfl dX3_add_7 ?_
  refine ca_getf hX (q := 11) cl_X3 1 (by decide) w_fl_X3_21 (by omega) h0 rfl rfl dX3_add_8 ?_
  refine ca_aload_n hX (q := 12) 0 rfl rfl rfl dX3_add_11 ?_
  refine ca_getf hX (q := 15) cl_X3 0 (by decide) w_fl_X3_15 (by omega) h0 rfl rfl dX3_add_12 ?_
  refine ca_alen hX (q := 16) (by omega) h1 (rfl : Int32.ofNat n = nI n) rfl dX3_add_15 ?_
  refine ca_icmp_ge hX (q := 19) 39 rfl rfl dX3_add_16 (fun z => absurd z (nI_ge (by omega) (by omega))) (fun _ => ?_)
  refine ca_aload_n hX (q := 20) 0 rfl rfl rfl dX3_add_19 ?_
  refine ca_getf hX (q := 23) cl_X3 0 (by decide) w_fl_X3_15 (by omega) h0 rfl rfl dX3_add_20 ?_
  refine ca_aload_n hX (q := 24) 0 rfl rfl rfl dX3_add_23 ?_
  refine ca_getf hX (q := 27) cl_X3 1 (by decide) w_fl_X3_21 (by omega) h0 rfl rfl dX3_add_24 ?_
  refine ca_iload_n hX (q := 28) 1 rfl rfl rfl dX3_add_27 ?_
  refine ca_iaS hX (q := 29) (k := k) (by omega) hN (Nat.le_refl _) h1 (by omega) rfl hk rfl dX3_add_28 (fun g hE hF => ?_)
  have h0 := (hF a (by omega)).trans h0
  have h1 := hE
  have hfr := fun j (hj : j < a ∨ a + 2 ≤ j) => (hF j (by omega)).trans (hfr j hj)
  refine ca_aload_n hX (q := 30) 0 rfl rfl rfl dX3_add_29 ?_
  refine ca_dup hX (q := 31) rfl rfl dX3_add_30 ?_
  refine ca_getf hX (q := 34) cl_X3 1 (by decide) w_fl_X3_21 (by omega) h0 rfl rfl dX3_add_31 ?_
  refine ca_iconst hX (q := 35) k_iconst_1 rfl dX3_add_34 ?_
  refine ca_iadd hX (q := 36) rfl dX3_add_35 ?_
  refine ca_puti hX (q := 39) (fs' := [_, _]) cl_X3 1 (by decide) w_fl_X3_21 rfl rfl (by omega) hN h0 (Nat.le_of_ble_eq_true rfl) rfl rfl dX3_add_36 (fun g hE hF => ?_)
  have h0 := hE
  have h1 := (hF (a + 1) (by omega)).trans h1
  have hfr := fun j (hj : j < a ∨ a + 2 ≤ j) => (hF j (by omega)).trans (hfr j hj)
  refine ca_aload_n hX (q := 40) 0 rfl rfl rfl dX3_add_39 ?_
  refine ca_getf hX (q := 43) cl_X3 1 (by decide) w_fl_X3_21 (by omega) h0 rfl rfl dX3_add_40 ?_
  refine ca_iret hX rfl rfl rfl rfl dX3_add_43 ?_
  rw [nI_1] at h0 ⊢
  exact ⟨rfl, ⟨h0, h1⟩, hfr⟩

set_option maxRecDepth 100000 in
set_option maxHeartbeats 4000000 in
theorem c_X3_at (l : Launch) (N : Nat) (g : ca_G) (a n k : Nat) (f : Nat → Int32) (hh : nbG g a n f k) (ha : a + 2 ≤ N) (hn : n < 1000) (hk : k ≤ n) (j : Nat) (hj : j < 100000) : ca_Ct l yX3_at cX3_at 2 (some .int) 0 0 0 N 1000000 [.ref a, .int (nI j)] g (ca_pi (atM f k j) g) := by
  refine ca_intro (by decide) (Nat.le_of_ble_eq_true rfl) (fun X hX hN => ?_)
  show X 0 [_, _] [] N 1000000 g
  obtain ⟨h0, h1⟩ := id hh
  refine ca_iload_n hX (q := 1) 1 rfl rfl rfl dX3_at_0 ?_
  refine ca_if_lt hX (q := 4) 30 rfl rfl dX3_at_1 (fun z => absurd z (nI_pos (by omega))) (fun _ => ?_)
  refine ca_iload_n hX (q := 5) 1 rfl rfl rfl dX3_at_4 ?_
  refine ca_aload_n hX (q := 6) 0 rfl rfl rfl dX3_at_5 ?_
  refine ca_getf hX (q := 9) cl_X3 1 (by decide) w_fl_X3_21 (by omega) h0 rfl rfl dX3_at_6 ?_
  refine ca_icmp_ge hX (q := 12) 30 rfl rfl dX3_at_9 (fun c9 => ?_) (fun c9 => ?_)
  · refine ca_bipush hX (q := 32) k_bipush_m9 rfl dX3_at_30 ?_
    refine ca_iret hX rfl rfl rfl rfl dX3_at_32 ?_
    exact ⟨by rw [atM, if_neg (by have := nI_hi c9 (by omega) (by omega); omega)], rfl⟩
  · refine ca_iload_n hX (q := 13) 1 rfl rfl rfl dX3_at_12 ?_
    refine ca_aload_n hX (q := 14) 0 rfl rfl rfl dX3_at_13 ?_
    refine ca_getf hX (q := 17) cl_X3 0 (by decide) w_fl_X3_15 (by omega) h0 rfl rfl dX3_at_14 ?_
    refine ca_alen hX (q := 18) (by omega) h1 (rfl : Int32.ofNat n = nI n) rfl dX3_at_17 ?_
    refine ca_icmp_ge hX (q := 21) 30 rfl rfl dX3_at_18 (fun z => absurd z (nI_ge (by have := nI_lo c9 (by omega) (by omega); omega) (by omega))) (fun _ => ?_)
    refine ca_aload_n hX (q := 22) 0 rfl rfl rfl dX3_at_21 ?_
    refine ca_getf hX (q := 25) cl_X3 0 (by decide) w_fl_X3_15 (by omega) h0 rfl rfl dX3_at_22 ?_
    refine ca_iload_n hX (q := 26) 1 rfl rfl rfl dX3_at_25 ?_
    refine ca_iaN hX (q := 27) (k := j) (by omega) h1 (by omega) rfl (by have := nI_lo c9 (by omega) (by omega); omega) rfl dX3_at_26 ?_
    refine ca_goto hX 32 rfl dX3_at_27 ?_
    refine ca_iret hX rfl rfl rfl rfl dX3_at_32 ?_
    exact ⟨by rw [atM, if_pos (by have := nI_lo c9 (by omega) (by omega); omega)], rfl⟩

set_option maxRecDepth 100000 in
set_option maxHeartbeats 4000000 in
theorem c_X3_forget (l : Launch) (N : Nat) (g : ca_G) (a n k : Nat) (f : Nat → Int32) (hh : nbG g a n f k) (ha : a + 2 ≤ N) (hn : n < 1000) (hk : k ≤ n) : ca_Ct l yX3_forget cX3_forget 1 none 0 0 0 N 1000000 [.ref a] g (fun rr g' => rr = none ∧ nbG g' a n (f) 0 ∧ frG g g' a (a + 2)) := by
  refine ca_intro (by decide) (Nat.le_of_ble_eq_true rfl) (fun X hX hN => ?_)
  show X 0 [_] [] N 1000000 g
  obtain ⟨h0, h1⟩ := id hh
  have hfr : ∀ j, (j < a ∨ a + 2 ≤ j) → g j = g j := fun _ _ => rfl
  refine ca_aload_n hX (q := 1) 0 rfl rfl rfl dX3_forget_0 ?_
  refine ca_iconst hX (q := 2) k_iconst_0 rfl dX3_forget_1 ?_
  refine ca_puti hX (q := 5) (fs' := [_, _]) cl_X3 1 (by decide) w_fl_X3_21 rfl rfl (by omega) hN h0 (Nat.le_of_ble_eq_true rfl) rfl rfl dX3_forget_2 (fun g hE hF => ?_)
  have h0 := hE
  have h1 := (hF (a + 1) (by omega)).trans h1
  have hfr := fun j (hj : j < a ∨ a + 2 ≤ j) => (hF j (by omega)).trans (hfr j hj)
  refine ca_vret hX rfl rfl rfl rfl dX3_forget_5 ?_
  exact ⟨rfl, ⟨h0, h1⟩, hfr⟩
