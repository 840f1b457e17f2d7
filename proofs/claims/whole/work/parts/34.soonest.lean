set_option maxRecDepth 100000 in
set_option maxHeartbeats 4000000 in
theorem c_X6_findsSoonest (l : Launch) (N : Nat) (g : ca_G) (o : Nat) (M : Nat → Nat → Int32) (hm : mdG g o M) (ho : o + 14 ≤ N) (t : Nat) (f : Nat → Int32) (ht : g t = .inl (182, f)) (hto : o < t) (htd : t < o + 3) (cat : Nat → Nat) (hcat : catM cat f) (T : Nat → Nat) (hT : tauM cat (M 7) (M 9) T) : ca_Ct l yX6_findsSoonest cX6_findsSoonest 6 none 1 0 0 N 1000000 [.ref o, .ref t] g (fun rr g' => rr = none ∧ (∃ M', mdG g' o M' ∧ (∀ j, j ≠ 8 → M' j = M j) ∧ ∀ r, r < 25 → M' 8 r = nI (T r)) ∧ frG g g' o (o + 14)) := by
  refine ca_intro (by decide) (Nat.le_of_ble_eq_true rfl) (fun X hX hN => ?_)
  show X 0 [_, _, none, none, none, none] [] N 1000000 g
  obtain ⟨gz, hgz⟩ : ∃ gz, gz = g := ⟨g, rfl⟩
  have done : ∀ g1 M1 s x1 x2 x3, mdG g1 o M1 → g1 t = .inl (182, f) → frG gz g1 o (o + 14) → (∀ j, j ≠ 8 → M1 j = M j) → (∀ r, r < 25 → M1 8 r = nI (s r)) → siN cat (M 7) (M 9) T s → clN cat (M 7) (M 9) s 25 0 → X 42 [some (.ref o), some (.ref t), some (.int 0), x1, x2, x3] [] N 1000000 g1 := by
    intro g M1 s x1 x2 x3 hm ht hfr hj hs8 hsi hcl
    obtain ⟨c0, c1, c2, c3, c4, c5, c6, c7, c8, c9, c10, c11, c12, c13⟩ := id hm
    refine ca_iload_n hX (q := 43) 2 rfl rfl rfl dX6_findsSoonest_42 ?_
    refine ca_if_eq hX (q := 46) 182 rfl rfl dX6_findsSoonest_43 (fun _ => ?_) (fun z => absurd rfl z)
    refine ca_vret hX rfl rfl rfl rfl dX6_findsSoonest_182 ?_
    exact ⟨rfl, ⟨M1, hm, hj, fun r hr => by rw [hs8 r hr, tau_end hT hsi hcl r hr]⟩, by rw [hgz] at hfr; exact hfr⟩
  have main : ∀ k, ∀ g1 M1 s x1 x2 x3, mdG g1 o M1 → g1 t = .inl (182, f) → frG gz g1 o (o + 14) → (∀ j, j ≠ 8 → M1 j = M j) → (∀ r, r < 25 → M1 8 r = nI (s r)) → siN cat (M 7) (M 9) T s → sN s 25 = k → X 42 [some (.ref o), some (.ref t), some (.int 1), x1, x2, x3] [] N 1000000 g1 := by
    intro k
    induction k using Nat.strongRecOn with
    | _ k ihk =>
      intro g0 M0 s0 x1 x2 x3 hm0 ht0 hfr0 hj0 hs80 hsi0 hk
      have rooms : ∀ (n i : Nat), i + n = 25 → ∀ g1 M1 s mo x1 x2, mdG g1 o M1 → g1 t = .inl (182, f) → frG gz g1 o (o + 14) → (∀ j, j ≠ 8 → M1 j = M j) → (∀ r, r < 25 → M1 8 r = nI (s r)) → siN cat (M 7) (M 9) T s → ((mo = 0 ∧ clN cat (M 7) (M 9) s i 0 ∧ s = s0) ∨ (mo = 1 ∧ sN s 25 < sN s0 25)) → X 50 [some (.ref o), some (.ref t), some (.int mo), some (.int (nI i)), x1, x2] [] N 1000000 g1 := by
        intro n
        induction n with
        | zero =>
        intro i hi g M1 s mo x1 x2 hm ht hfr hj hs8 hsi hmo
        have hi25 : i = 25 := by omega
        obtain ⟨c0, c1, c2, c3, c4, c5, c6, c7, c8, c9, c10, c11, c12, c13⟩ := id hm
        refine ca_iload_n hX (q := 51) 3 rfl rfl rfl dX6_findsSoonest_50 ?_
        refine ca_bipush hX (q := 53) k_bipush_25 rfl dX6_findsSoonest_51 ?_
        refine ca_icmp_ge hX (q := 56) 179 rfl rfl dX6_findsSoonest_53 (fun _ => ?_) (fun z => absurd (by rw [hi25]; exact nI_le (a := 25) (b := 25) (by omega) (by omega)) z)
        refine ca_goto hX 42 rfl dX6_findsSoonest_179 ?_
        rcases hmo with ⟨q1, q2, q3⟩ | ⟨q1, q2⟩
        · rw [q1]
          rw [hi25] at q2
          exact done g M1 s _ _ _ hm ht hfr hj hs8 hsi q2
        · rw [q1]
          exact ihk (sN s 25) (by rw [← hk]; exact q2) g M1 s _ _ _ hm ht hfr hj hs8 hsi rfl
        | succ n ih =>
        intro i hi g M1 s mo x1 x2 hm ht hfr hj hs8 hsi hmo
        obtain ⟨c0, c1, c2, c3, c4, c5, c6, c7, c8, c9, c10, c11, c12, c13⟩ := id hm
        refine ca_iload_n hX (q := 51) 3 rfl rfl rfl dX6_findsSoonest_50 ?_
        refine ca_bipush hX (q := 53) k_bipush_25 rfl dX6_findsSoonest_51 ?_
        refine ca_icmp_ge hX (q := 56) 179 rfl rfl dX6_findsSoonest_53 (fun z => absurd z (nI_ge (a := i) (b := 25) (by omega) (by omega))) (fun _ => ?_)
        refine ca_aload_n hX (q := 57) 0 rfl rfl rfl dX6_findsSoonest_56 ?_
        refine ca_getf hX (q := 60) cl_X6 10 (by decide) w_fl_X6_31 (by omega) c0 rfl rfl dX6_findsSoonest_57 ?_
        refine ca_iload_n hX (q := 61) 3 rfl rfl rfl dX6_findsSoonest_60 ?_
        refine ca_iaN hX (q := 62) (k := i) (by omega) c8 (by decide) rfl (by omega) rfl dX6_findsSoonest_61 ?_
        rw [hj 7 (by omega)]
        refine ca_if_ge hX (q := 65) 173 rfl rfl dX6_findsSoonest_62 (fun c62 => ?_) (fun c62 => ?_)
        · refine ca_iinc hX (q := 176) (ls' := [_, _, _, _, _, _]) k_iconst_1 rfl (Nat.le_of_ble_eq_true rfl) (Or.inr rfl) rfl rfl dX6_findsSoonest_173 ?_
          refine ca_goto hX 50 rfl dX6_findsSoonest_176 ?_
          rw [nI_1]
          refine ih (i + 1) (by omega) g M1 s mo _ _ hm ht hfr hj hs8 hsi ?_
          rcases hmo with ⟨q1, q2, q3⟩ | q
          · refine Or.inl ⟨q1, fun r w' n' e1 e2 e3 e4 e5 e6 e7 e8 e9 => ?_, q3⟩
            by_cases hh : r < i
            · exact q2 r w' n' (Or.inl hh) e2 e3 e4 e5 e6 e7 e8 e9
            · have er : r = i := by omega
              rw [er] at e4 e5 e6
              exact absurd e4 (Int32.not_lt.mpr c62)
          · exact Or.inr q
        · refine ca_aload_n hX (q := 66) 0 rfl rfl rfl dX6_findsSoonest_65 ?_
          refine ca_getf hX (q := 69) cl_X6 12 (by decide) w_fl_X6_37 (by omega) c0 rfl rfl dX6_findsSoonest_66 ?_
          refine ca_iload_n hX (q := 70) 3 rfl rfl rfl dX6_findsSoonest_69 ?_
          refine ca_iaN hX (q := 71) (k := i) (by omega) c10 (by decide) rfl (by omega) rfl dX6_findsSoonest_70 ?_
          rw [hj 9 (by omega)]
          refine ca_if_ge hX (q := 74) 173 rfl rfl dX6_findsSoonest_71 (fun c71 => ?_) (fun c71 => ?_)
          · refine ca_iinc hX (q := 176) (ls' := [_, _, _, _, _, _]) k_iconst_1 rfl (Nat.le_of_ble_eq_true rfl) (Or.inr rfl) rfl rfl dX6_findsSoonest_173 ?_
            refine ca_goto hX 50 rfl dX6_findsSoonest_176 ?_
            rw [nI_1]
            refine ih (i + 1) (by omega) g M1 s mo _ _ hm ht hfr hj hs8 hsi ?_
            rcases hmo with ⟨q1, q2, q3⟩ | q
            · refine Or.inl ⟨q1, fun r w' n' e1 e2 e3 e4 e5 e6 e7 e8 e9 => ?_, q3⟩
              by_cases hh : r < i
              · exact q2 r w' n' (Or.inl hh) e2 e3 e4 e5 e6 e7 e8 e9
              · have er : r = i := by omega
                rw [er] at e4 e5 e6
                exact absurd e5 (Int32.not_lt.mpr c71)
            · exact Or.inr q
          · refine ca_aload_n hX (q := 75) 1 rfl rfl rfl dX6_findsSoonest_74 ?_
            refine ca_iload_n hX (q := 76) 3 rfl rfl rfl dX6_findsSoonest_75 ?_
            refine ca_cSi hX (q := 79) y_X6_catches w_ml_X6_75 hN (c_X6_catches l N g t f ht (by omega) i (by omega)) (by decide) rfl (by decide) rfl dX6_findsSoonest_76 rfl ?_
            refine ca_ldc hX (q := 81) w_k_X6_63 rfl dX6_findsSoonest_79 ?_
            refine ca_icmp_ne hX (q := 84) 87 rfl rfl dX6_findsSoonest_81 (fun c81 => ?_) (fun c81 => ?_)
            · have hbu : M 7 i < 0 := Int32.not_le.mp c62
              have hsd : M 9 i < 0 := Int32.not_le.mp c71
              obtain ⟨hc0, hc4, hct⟩ : cat i ≠ 0 ∧ cat i ≤ 4 ∧ ctF (f (2 + i)) = nI (cat i) := by
                rcases hcat i (by omega) with a | a
                · exact a
                · exact absurd a.2 c81
              have inner : ∀ (n2 w : Nat), w + n2 = 4 → ∀ g1 M1 s mo x, mdG g1 o M1 → g1 t = .inl (182, f) → frG gz g1 o (o + 14) → (∀ j, j ≠ 8 → M1 j = M j) → (∀ r, r < 25 → M1 8 r = nI (s r)) → siN cat (M 7) (M 9) T s → ((mo = 0 ∧ clN cat (M 7) (M 9) s i w ∧ s = s0) ∨ (mo = 1 ∧ sN s 25 < sN s0 25)) → X 90 [some (.ref o), some (.ref t), some (.int mo), some (.int (nI i)), some (.int (nI w)), x] [] N 1000000 g1 := by
                intro n2
                induction n2 with
                | zero =>
                  intro w hw g M1 s mo x hm ht hfr hj hs8 hsi hmo
                  have hw4 : w = 4 := by omega
                  obtain ⟨c0, c1, c2, c3, c4, c5, c6, c7, c8, c9, c10, c11, c12, c13⟩ := id hm
                  refine ca_iload hX (q := 92) rfl rfl dX6_findsSoonest_90 ?_
                  refine ca_iconst hX (q := 93) k_iconst_4 rfl dX6_findsSoonest_92 ?_
                  refine ca_icmp_ge hX (q := 96) 173 rfl rfl dX6_findsSoonest_93 (fun _ => ?_) (fun z => absurd (by rw [hw4]; exact nI_le (a := 4) (b := 4) (by omega) (by omega)) z)
                  refine ca_iinc hX (q := 176) (ls' := [_, _, _, _, _, _]) k_iconst_1 rfl (Nat.le_of_ble_eq_true rfl) (Or.inr rfl) rfl rfl dX6_findsSoonest_173 ?_
                  refine ca_goto hX 50 rfl dX6_findsSoonest_176 ?_
                  rw [nI_1]
                  refine ih (i + 1) (by omega) g M1 s mo _ _ hm ht hfr hj hs8 hsi ?_
                  rcases hmo with ⟨q1, q2, q3⟩ | q
                  · refine Or.inl ⟨q1, fun r w' n e1 e2 e3 => q2 r w' n ?_ e2 e3, q3⟩
                    omega
                  · exact Or.inr q
                | succ n2 ih3 =>
                  intro w hw g M1 s mo x hm ht hfr hj hs8 hsi hmo
                  have hsi0 := (hsi i (by omega)).2.1
                  obtain ⟨c0, c1, c2, c3, c4, c5, c6, c7, c8, c9, c10, c11, c12, c13⟩ := id hm
                  refine ca_iload hX (q := 92) rfl rfl dX6_findsSoonest_90 ?_
                  refine ca_iconst hX (q := 93) k_iconst_4 rfl dX6_findsSoonest_92 ?_
                  refine ca_icmp_ge hX (q := 96) 173 rfl rfl dX6_findsSoonest_93 (fun z => absurd z (nI_ge (a := w) (b := 4) (by omega) (by omega))) (fun _ => ?_)
                  refine ca_iload_n hX (q := 97) 3 rfl rfl rfl dX6_findsSoonest_96 ?_
                  refine ca_iload hX (q := 99) rfl rfl dX6_findsSoonest_97 ?_
                  refine ca_cSi hX (q := 102) y_X6_beside w_ml_X6_78 hN (c_X6_beside l N g i w (by omega) (by omega)) (by decide) rfl (by decide) rfl dX6_findsSoonest_99 rfl ?_
                  refine ca_istore hX (q := 104) (ls' := [_, _, _, _, _, _]) (Nat.le_of_ble_eq_true rfl) (Nat.le_of_ble_eq_true rfl) (Or.inr rfl) rfl rfl dX6_findsSoonest_102 ?_
                  refine ca_iload hX (q := 106) rfl rfl dX6_findsSoonest_104 ?_
                  refine ca_if_lt hX (q := 109) 167 rfl rfl dX6_findsSoonest_106 (fun c106 => ?_) (fun c106 => ?_)
                  · refine ca_iinc hX (q := 170) (ls' := [_, _, _, _, _, _]) k_iconst_1 rfl (Nat.le_of_ble_eq_true rfl) (Or.inr rfl) rfl rfl dX6_findsSoonest_167 ?_
                    refine ca_goto hX 90 rfl dX6_findsSoonest_170 ?_
                    rw [nI_1]
                    refine ih3 (w + 1) (by omega) g M1 s mo _ hm ht hfr hj hs8 hsi ?_
                    rcases hmo with ⟨q1, q2, q3⟩ | q
                    · refine Or.inl ⟨q1, fun r w' n' e1 e2 e3 e4 e5 e6 e7 e8 e9 => ?_, q3⟩
                      by_cases hh : r < i ∨ (r = i ∧ w' < w)
                      · exact q2 r w' n' hh e2 e3 e4 e5 e6 e7 e8 e9
                      · obtain ⟨er, ew⟩ : r = i ∧ w' = w := by omega
                        rw [er, ew] at e8
                        rw [e8] at c106; exact absurd c106 (nI_pos (by omega))
                    · exact Or.inr q
                  · rcases bsW_cases (r := i) (w := w) (by omega) (by omega) with e9 | ⟨n, hn, en⟩
                    · exact absurd (by rw [e9]; decide) c106
                    rw [en]
                    refine ca_aload_n hX (q := 110) 0 rfl rfl rfl dX6_findsSoonest_109 ?_
                    refine ca_getf hX (q := 113) cl_X6 11 (by decide) w_fl_X6_34 (by omega) c0 rfl rfl dX6_findsSoonest_110 ?_
                    refine ca_iload hX (q := 115) rfl rfl dX6_findsSoonest_113 ?_
                    refine ca_iaN hX (q := 116) (k := n) (by omega) c9 (by decide) rfl (by omega) rfl dX6_findsSoonest_115 ?_
                    rw [hs8 n hn]
                    refine ca_ldc hX (q := 118) w_k_X6_63 rfl dX6_findsSoonest_116 ?_
                    refine ca_icmp_eq hX (q := 121) 167 rfl rfl dX6_findsSoonest_118 (fun c118 => ?_) (fun c118 => ?_)
                    · refine ca_iinc hX (q := 170) (ls' := [_, _, _, _, _, _]) k_iconst_1 rfl (Nat.le_of_ble_eq_true rfl) (Or.inr rfl) rfl rfl dX6_findsSoonest_167 ?_
                      refine ca_goto hX 90 rfl dX6_findsSoonest_170 ?_
                      rw [nI_1]
                      refine ih3 (w + 1) (by omega) g M1 s mo _ hm ht hfr hj hs8 hsi ?_
                      rcases hmo with ⟨q1, q2, q3⟩ | q
                      · refine Or.inl ⟨q1, fun r w' n' e1 e2 e3 e4 e5 e6 e7 e8 e9 => ?_, q3⟩
                        by_cases hh : r < i ∨ (r = i ∧ w' < w)
                        · exact q2 r w' n' hh e2 e3 e4 e5 e6 e7 e8 e9
                        · obtain ⟨er, ew⟩ : r = i ∧ w' = w := by omega
                          rw [er, ew] at e8
                          rw [er]
                          have en2 : n' = n := (nI_eq (by omega) (by omega)).mp (e8.symm.trans en)
                          rw [en2] at e9
                          have q5 := (nI_eq (b := 1000000000) (by omega) (by omega)).mp c118
                          omega
                      · exact Or.inr q
                    · have hfar : ¬ s n = 1000000000 := fun q => c118 (by rw [q]; rfl)
                      have hsn := (hsi n hn).2.1
                      refine ca_aload_n hX (q := 122) 0 rfl rfl rfl dX6_findsSoonest_121 ?_
                      refine ca_getf hX (q := 125) cl_X6 11 (by decide) w_fl_X6_34 (by omega) c0 rfl rfl dX6_findsSoonest_122 ?_
                      refine ca_iload hX (q := 127) rfl rfl dX6_findsSoonest_125 ?_
                      refine ca_iaN hX (q := 128) (k := n) (by omega) c9 (by decide) rfl (by omega) rfl dX6_findsSoonest_127 ?_
                      rw [hs8 n hn]
                      refine ca_aload_n hX (q := 129) 1 rfl rfl rfl dX6_findsSoonest_128 ?_
                      refine ca_iload_n hX (q := 130) 3 rfl rfl rfl dX6_findsSoonest_129 ?_
                      refine ca_cSi hX (q := 133) y_X6_catches w_ml_X6_75 hN (c_X6_catches l N g t f ht (by omega) i (by omega)) (by decide) rfl (Nat.le_of_ble_eq_true rfl) rfl dX6_findsSoonest_130 rfl ?_
                      rw [hct]
                      refine ca_iadd hX (q := 134) rfl dX6_findsSoonest_133 ?_
                      rw [nI_add]
                      refine ca_aload_n hX (q := 135) 0 rfl rfl rfl dX6_findsSoonest_134 ?_
                      refine ca_getf hX (q := 138) cl_X6 11 (by decide) w_fl_X6_34 (by omega) c0 rfl rfl dX6_findsSoonest_135 ?_
                      refine ca_iload_n hX (q := 139) 3 rfl rfl rfl dX6_findsSoonest_138 ?_
                      refine ca_iaN hX (q := 140) (k := i) (by omega) c9 (by decide) rfl (by omega) rfl dX6_findsSoonest_139 ?_
                      rw [hs8 i (by omega)]
                      refine ca_icmp_lt hX (q := 143) 146 rfl rfl dX6_findsSoonest_140 (fun c140 => ?_) (fun c140 => ?_)
                      · refine ca_aload_n hX (q := 147) 0 rfl rfl rfl dX6_findsSoonest_146 ?_
                        refine ca_getf hX (q := 150) cl_X6 11 (by decide) w_fl_X6_34 (by omega) c0 rfl rfl dX6_findsSoonest_147 ?_
                        refine ca_iload_n hX (q := 151) 3 rfl rfl rfl dX6_findsSoonest_150 ?_
                        refine ca_aload_n hX (q := 152) 0 rfl rfl rfl dX6_findsSoonest_151 ?_
                        refine ca_getf hX (q := 155) cl_X6 11 (by decide) w_fl_X6_34 (by omega) c0 rfl rfl dX6_findsSoonest_152 ?_
                        refine ca_iload hX (q := 157) rfl rfl dX6_findsSoonest_155 ?_
                        refine ca_iaN hX (q := 158) (k := n) (by omega) c9 (by decide) rfl (by omega) rfl dX6_findsSoonest_157 ?_
                        rw [hs8 n hn]
                        refine ca_aload_n hX (q := 159) 1 rfl rfl rfl dX6_findsSoonest_158 ?_
                        refine ca_iload_n hX (q := 160) 3 rfl rfl rfl dX6_findsSoonest_159 ?_
                        refine ca_cSi hX (q := 163) y_X6_catches w_ml_X6_75 hN (c_X6_catches l N g t f ht (by omega) i (by omega)) (by decide) rfl (Nat.le_of_ble_eq_true rfl) rfl dX6_findsSoonest_160 rfl ?_
                        rw [hct]
                        refine ca_iadd hX (q := 164) rfl dX6_findsSoonest_163 ?_
                        rw [nI_add]
                        refine ca_iaS hX (q := 165) (k := i) (by omega) hN (Nat.le_refl _) c9 (by decide) rfl (by omega) rfl dX6_findsSoonest_164 (fun g hE hF => ?_)
                        have hm := md_a8 hm hE hF
                        obtain ⟨c0, c1, c2, c3, c4, c5, c6, c7, c8, c9, c10, c11, c12, c13⟩ := id hm
                        have hfr := frG.tr hfr (fun j hj => hF j (by omega))
                        have ht := (hF t (by omega)).trans ht
                        refine ca_iconst hX (q := 166) k_iconst_1 rfl dX6_findsSoonest_165 ?_
                        refine ca_istore_n hX (q := 167) 2 rfl (ls' := [_, _, _, _, _, _]) (Nat.le_of_ble_eq_true rfl) (Nat.le_of_ble_eq_true rfl) (Or.inr rfl) rfl rfl dX6_findsSoonest_166 ?_
                        refine ca_iinc hX (q := 170) (ls' := [_, _, _, _, _, _]) k_iconst_1 rfl (Nat.le_of_ble_eq_true rfl) (Or.inr rfl) rfl rfl dX6_findsSoonest_167 ?_
                        refine ca_goto hX 90 rfl dX6_findsSoonest_170 ?_
                        have q5 := nI_hi2 c140 (by omega) (by omega)
                        rw [nI_1]
                        refine ih3 (w + 1) (by omega) g _ (uN s i (s n + cat i)) 1 _ hm ht hfr (fun j e => (upB_n _ _ _ e).trans (hj j e)) (fun r hr => ?_) (si_relax hT hsi (by omega) hbu hsd hc0 (by omega) hn en (by omega) q5) (Or.inr ⟨rfl, ?_⟩)
                        · rw [upB_s]
                          by_cases e : r = i
                          · rw [e, upd_s]; exact congrArg nI (if_pos rfl).symm
                          · rw [upd_n _ _ e, hs8 r hr]; exact congrArg nI (if_neg e).symm
                        · have h1 := (sN_u s i (s n + cat i) q5 25).2 (by omega)
                          rcases hmo with ⟨-, -, q3⟩ | q
                          · rw [q3] at h1 ⊢; exact h1
                          · omega
                      · refine ca_goto hX 167 rfl dX6_findsSoonest_143 ?_
                        refine ca_iinc hX (q := 170) (ls' := [_, _, _, _, _, _]) k_iconst_1 rfl (Nat.le_of_ble_eq_true rfl) (Or.inr rfl) rfl rfl dX6_findsSoonest_167 ?_
                        refine ca_goto hX 90 rfl dX6_findsSoonest_170 ?_
                        rw [nI_1]
                        refine ih3 (w + 1) (by omega) g M1 s mo _ hm ht hfr hj hs8 hsi ?_
                        rcases hmo with ⟨q1, q2, q3⟩ | q
                        · refine Or.inl ⟨q1, fun r w' n' e1 e2 e3 e4 e5 e6 e7 e8 e9 => ?_, q3⟩
                          by_cases hh : r < i ∨ (r = i ∧ w' < w)
                          · exact q2 r w' n' hh e2 e3 e4 e5 e6 e7 e8 e9
                          · obtain ⟨er, ew⟩ : r = i ∧ w' = w := by omega
                            rw [er, ew] at e8
                            rw [er]
                            have en2 : n' = n := (nI_eq (by omega) (by omega)).mp (e8.symm.trans en)
                            rw [en2]
                            have q5 := nI_lo2 c140 (by omega) (by omega)
                            omega
                        · exact Or.inr q
              refine ca_iconst hX (q := 88) k_iconst_0 rfl dX6_findsSoonest_87 ?_
              refine ca_istore hX (q := 90) (ls' := [_, _, _, _, _, _]) (Nat.le_of_ble_eq_true rfl) (Nat.le_of_ble_eq_true rfl) (Or.inr rfl) rfl rfl dX6_findsSoonest_88 ?_
              exact inner 4 0 (by omega) g M1 s mo _ hm ht hfr hj hs8 hsi hmo
            · refine ca_goto hX 173 rfl dX6_findsSoonest_84 ?_
              refine ca_iinc hX (q := 176) (ls' := [_, _, _, _, _, _]) k_iconst_1 rfl (Nat.le_of_ble_eq_true rfl) (Or.inr rfl) rfl rfl dX6_findsSoonest_173 ?_
              refine ca_goto hX 50 rfl dX6_findsSoonest_176 ?_
              rw [nI_1]
              refine ih (i + 1) (by omega) g M1 s mo _ _ hm ht hfr hj hs8 hsi ?_
              rcases hmo with ⟨q1, q2, q3⟩ | q
              · refine Or.inl ⟨q1, fun r w' n' e1 e2 e3 e4 e5 e6 e7 e8 e9 => ?_, q3⟩
                by_cases hh : r < i
                · exact q2 r w' n' (Or.inl hh) e2 e3 e4 e5 e6 e7 e8 e9
                · have er : r = i := by omega
                  rw [er] at e4 e5 e6
                  rcases hcat i (by omega) with a | a
                  · rw [a.2.2] at c81
                    exact absurd ((nI_eq (b := 1000000000) (by omega) (by omega)).mp c81) (by omega)
                  · exact absurd a.1 e6
              · exact Or.inr q
      obtain ⟨c0, c1, c2, c3, c4, c5, c6, c7, c8, c9, c10, c11, c12, c13⟩ := id hm0
      refine ca_iload_n hX (q := 43) 2 rfl rfl rfl dX6_findsSoonest_42 ?_
      refine ca_if_eq hX (q := 46) 182 rfl rfl dX6_findsSoonest_43 (fun z => absurd z (by decide)) (fun _ => ?_)
      refine ca_iconst hX (q := 47) k_iconst_0 rfl dX6_findsSoonest_46 ?_
      refine ca_istore_n hX (q := 48) 2 rfl (ls' := [_, _, _, _, _, _]) (Nat.le_of_ble_eq_true rfl) (Nat.le_of_ble_eq_true rfl) (Or.inr rfl) rfl rfl dX6_findsSoonest_47 ?_
      refine ca_iconst hX (q := 49) k_iconst_0 rfl dX6_findsSoonest_48 ?_
      refine ca_istore_n hX (q := 50) 3 rfl (ls' := [_, _, _, _, _, _]) (Nat.le_of_ble_eq_true rfl) (Nat.le_of_ble_eq_true rfl) (Or.inr rfl) rfl rfl dX6_findsSoonest_49 ?_
      exact rooms 25 0 (by omega) g0 M0 s0 0 _ _ hm0 ht0 hfr0 hj0 hs80 hsi0 (Or.inl ⟨rfl, fun r w n e1 => absurd e1 (by omega), rfl⟩)
  have loop : ∀ (n i : Nat), i + n = 25 → ∀ g1 M1, mdG g1 o M1 → g1 t = .inl (182, f) → frG gz g1 o (o + 14) → (∀ j, j ≠ 8 → M1 j = M j) → (∀ r, r < i → M1 8 r = nI (if M 7 r < 0 then 1000000000 else T r)) → X 2 [some (.ref o), some (.ref t), some (.int (nI i)), none, none, none] [] N 1000000 g1 := by
    intro n
    induction n with
    | zero =>
      intro i hi g M1 hm ht hfr hj h8
      have hi25 : i = 25 := by omega
      obtain ⟨c0, c1, c2, c3, c4, c5, c6, c7, c8, c9, c10, c11, c12, c13⟩ := id hm
      refine ca_iload_n hX (q := 3) 2 rfl rfl rfl dX6_findsSoonest_2 ?_
      refine ca_bipush hX (q := 5) k_bipush_25 rfl dX6_findsSoonest_3 ?_
      refine ca_icmp_ge hX (q := 8) 40 rfl rfl dX6_findsSoonest_5 (fun _ => ?_) (fun z => absurd (by rw [hi25]; exact nI_le (a := 25) (b := 25) (by omega) (by omega)) z)
      refine ca_iconst hX (q := 41) k_iconst_1 rfl dX6_findsSoonest_40 ?_
      refine ca_istore_n hX (q := 42) 2 rfl (ls' := [_, _, _, _, _, _]) (Nat.le_of_ble_eq_true rfl) (Nat.le_of_ble_eq_true rfl) (Or.inr rfl) rfl rfl dX6_findsSoonest_41 ?_
      refine main _ g M1 (fun r => if M 7 r < 0 then 1000000000 else T r) _ _ _ hm ht hfr hj (fun r hr => h8 r (by omega)) (fun r hr => ?_) rfl
      have h1 := hT.1 r hr
      by_cases hb : M 7 r < 0
      · simp only [if_pos hb]
        exact ⟨h1, Nat.le_refl _, fun z => absurd hb z, fun _ _ => trivial⟩
      · simp only [if_neg hb]
        exact ⟨Nat.le_refl _, h1, fun _ => trivial, fun z => absurd z hb⟩
    | succ n ih =>
      intro i hi g M1 hm ht hfr hj h8
      obtain ⟨c0, c1, c2, c3, c4, c5, c6, c7, c8, c9, c10, c11, c12, c13⟩ := id hm
      refine ca_iload_n hX (q := 3) 2 rfl rfl rfl dX6_findsSoonest_2 ?_
      refine ca_bipush hX (q := 5) k_bipush_25 rfl dX6_findsSoonest_3 ?_
      refine ca_icmp_ge hX (q := 8) 40 rfl rfl dX6_findsSoonest_5 (fun z => absurd z (nI_ge (a := i) (b := 25) (by omega) (by omega))) (fun _ => ?_)
      refine ca_aload_n hX (q := 9) 0 rfl rfl rfl dX6_findsSoonest_8 ?_
      refine ca_getf hX (q := 12) cl_X6 11 (by decide) w_fl_X6_34 (by omega) c0 rfl rfl dX6_findsSoonest_9 ?_
      refine ca_iload_n hX (q := 13) 2 rfl rfl rfl dX6_findsSoonest_12 ?_
      refine ca_aload_n hX (q := 14) 0 rfl rfl rfl dX6_findsSoonest_13 ?_
      refine ca_getf hX (q := 17) cl_X6 10 (by decide) w_fl_X6_31 (by omega) c0 rfl rfl dX6_findsSoonest_14 ?_
      refine ca_iload_n hX (q := 18) 2 rfl rfl rfl dX6_findsSoonest_17 ?_
      refine ca_iaN hX (q := 19) (k := i) (by omega) c8 (by decide) rfl (by omega) rfl dX6_findsSoonest_18 ?_
      rw [hj 7 (by omega)]
      refine ca_if_lt hX (q := 22) 31 rfl rfl dX6_findsSoonest_19 (fun c19 => ?_) (fun c19 => ?_)
      · refine ca_ldc hX (q := 33) w_k_X6_63 rfl dX6_findsSoonest_31 ?_
        refine ca_iaS hX (q := 34) (k := i) (by omega) hN (Nat.le_refl _) c9 (by decide) rfl (by omega) rfl dX6_findsSoonest_33 (fun g hE hF => ?_)
        have hm := md_a8 hm hE hF
        obtain ⟨c0, c1, c2, c3, c4, c5, c6, c7, c8, c9, c10, c11, c12, c13⟩ := id hm
        have hfr := frG.tr hfr (fun j hj => hF j (by omega))
        have ht := (hF t (by omega)).trans ht
        refine ca_iinc hX (q := 37) (ls' := [_, _, _, _, _, _]) k_iconst_1 rfl (Nat.le_of_ble_eq_true rfl) (Or.inr rfl) rfl rfl dX6_findsSoonest_34 ?_
        refine ca_goto hX 2 rfl dX6_findsSoonest_37 ?_
        rw [nI_1]
        refine ih (i + 1) (by omega) g _ hm ht hfr (fun j e => (upB_n _ _ _ e).trans (hj j e)) (fun r hr => ?_)
        rw [upB_s]
        by_cases e : r = i
        · rw [e, upd_s]
          rw [if_pos c19]; rfl
        · rw [upd_n _ _ e]; exact h8 r (by omega)
      · refine ca_aload_n hX (q := 23) 0 rfl rfl rfl dX6_findsSoonest_22 ?_
        refine ca_getf hX (q := 26) cl_X6 10 (by decide) w_fl_X6_31 (by omega) c0 rfl rfl dX6_findsSoonest_23 ?_
        refine ca_iload_n hX (q := 27) 2 rfl rfl rfl dX6_findsSoonest_26 ?_
        refine ca_iaN hX (q := 28) (k := i) (by omega) c8 (by decide) rfl (by omega) rfl dX6_findsSoonest_27 ?_
        rw [hj 7 (by omega)]
        refine ca_goto hX 33 rfl dX6_findsSoonest_28 ?_
        refine ca_iaS hX (q := 34) (k := i) (by omega) hN (Nat.le_refl _) c9 (by decide) rfl (by omega) rfl dX6_findsSoonest_33 (fun g hE hF => ?_)
        have hm := md_a8 hm hE hF
        obtain ⟨c0, c1, c2, c3, c4, c5, c6, c7, c8, c9, c10, c11, c12, c13⟩ := id hm
        have hfr := frG.tr hfr (fun j hj => hF j (by omega))
        have ht := (hF t (by omega)).trans ht
        refine ca_iinc hX (q := 37) (ls' := [_, _, _, _, _, _]) k_iconst_1 rfl (Nat.le_of_ble_eq_true rfl) (Or.inr rfl) rfl rfl dX6_findsSoonest_34 ?_
        refine ca_goto hX 2 rfl dX6_findsSoonest_37 ?_
        rw [nI_1]
        refine ih (i + 1) (by omega) g _ hm ht hfr (fun j e => (upB_n _ _ _ e).trans (hj j e)) (fun r hr => ?_)
        rw [upB_s]
        by_cases e : r = i
        · rw [e, upd_s]
          rw [if_neg c19]; exact (hT.2.1 i (by omega) c19).1
        · rw [upd_n _ _ e]; exact h8 r (by omega)
  obtain ⟨c0, c1, c2, c3, c4, c5, c6, c7, c8, c9, c10, c11, c12, c13⟩ := id hm
  refine ca_iconst hX (q := 1) k_iconst_0 rfl dX6_findsSoonest_0 ?_
  refine ca_istore_n hX (q := 2) 2 rfl (ls' := [_, _, _, _, _, _]) (Nat.le_of_ble_eq_true rfl) (Nat.le_of_ble_eq_true rfl) (Or.inr rfl) rfl rfl dX6_findsSoonest_1 ?_
  exact loop 25 0 (by omega) g M hm ht (by rw [hgz]; exact frG.rf) (fun _ _ => rfl) (fun r hr => absurd hr (by omega))

