def ca_le : List (Option Value) → List (Option Value) → Prop
  | [], _ => True
  | none :: a, _ :: b => ca_le a b
  | some v :: a, w :: b => w = some v ∧ ca_le a b
  | _ :: _, [] => False
theorem ca_le_at : ∀ (a b : List (Option Value)), ca_le a b → ∀ (j : Nat) (v : Value), a[j]? = some (some v) → b[j]? = some (some v)
  | [], _, _, j, v, h => by simp at h
  | none :: a, _ :: b, q, 0, v, h => by simp at h
  | none :: a, _ :: b, q, j + 1, v, h => by
    simp only [List.getElem?_cons_succ] at h ⊢
    exact ca_le_at a b q j v h
  | some u :: a, w :: b, q, 0, v, h => by
    simp only [List.getElem?_cons_zero] at h ⊢
    rw [q.1]; exact h
  | some u :: a, w :: b, q, j + 1, v, h => by
    simp only [List.getElem?_cons_succ] at h ⊢
    exact ca_le_at a b q.2 j v h
  | none :: a, [], q, _, _, _ => q.elim
  | some u :: a, [], q, _, _, _ => q.elim
/-- fewer locals are known -/
theorem ca_drop {l : Launch} {y : MethodName} {cc : ByteArray} {nL : Nat} {ret : Option FieldType} {F mc ms N0 S0 : Nat} {sc : ca_Sc} {post : ca_Post} {X : ca_J} {pc : Nat} {ls ls' : List (Option Value)} {st : List Value} {N S : Nat} {g : ca_G} (hX : ca_Good l y cc nL ret F mc ms N0 S0 sc post X) (hl : ca_le ls' ls) (k : X pc ls' st N S g) : X pc ls st N S g := by
  obtain ⟨p, e, R, s, m, args, below, meth, c, D, cI, ad, base, Q, rfl, hx, hb, hml, hown, hts, hK, hB, hR, hQ, hL⟩ := hX
  intro h1 h2 h3 h4 H locs la q1 q2 q3 q4
  refine k h1 h2 h3 h4 H locs la q1 q2 q3 ⟨q4.1, q4.2.1, fun q hq => q4.2.2 q ?_⟩
  obtain ⟨j, v, e1, e2⟩ := (ca_lv_mem _ _).mp hq
  exact (ca_lv_mem _ _).mpr ⟨j, v, ca_le_at _ _ hl j v e1, e2⟩
theorem gn_none {bu so : Nat → Int32} : ∀ n i, (∀ q, i ≤ q → q < i + n → ¬ (bu q < 0 ∧ so q < 1000000000)) → gnM bu so i n = 0
  | 0, _, _ => rfl
  | n + 1, i, h => by
    rw [gnM, if_neg (h i (Nat.le_refl _) (by omega))]
    exact gn_none n (i + 1) (fun q h1 h2 => h q (by omega) (by omega))
theorem rv_neg {TT : Int32 → Nat → Nat} {f : Nat → Int32} {tn : Nat} {tu : Nat → Nat} {x : Int32} {m : Nat} {sr : Int32} : rvT TT f tn tu x m sr = -9 ∨ ∃ r, r < 25 ∧ rvT TT f tn tu x m sr = nI r ∧ ¬ tn = 0 ∧ tyM (buT TT sr m) (soT TT sr) f (tu ((m - 1) % tn)) 25 = nI r := by
  unfold rvT
  split
  · exact Or.inl rfl
  · next h =>
    rcases tyM_cases (buT TT sr m) (soT TT sr) f (tu ((m - 1) % tn)) 25 with e | ⟨q, hq, e⟩
    · exact Or.inl e
    · exact Or.inr ⟨q, hq, e, fun z => h (Or.inl z), e⟩

set_option maxRecDepth 100000 in
set_option maxHeartbeats 4000000 in
theorem c_X6_burns (l : Launch) (N : Nat) (g : ca_G) (o : Nat) (M : Nat → Nat → Int32) (hm : mdG g o M) (ho : o + 14 ≤ N) (t : Nat) (f : Nat → Int32) (ht : g t = .inl (182, f)) (hto : o < t) (htd : t < o + 3) (cat : Nat → Nat) (hcat : catM cat f) (TT : Int32 → Nat → Nat) (ok : Int32 → Prop) (r0 : Nat) (hr0 : r0 < 25) (hTT : ttM TT ok cat r0) (tn : Nat) (tu : Nat → Nat) (x : Int32) (htn : M 13 3 = nI tn) (htn5 : tn ≤ 5) (htu : ∀ j, j < tn → M 11 j = nI (tu j) ∧ tu j < 5) (hx : M 13 4 = x) : ca_Ct l yX6_burns cX6_burns 8 none 3 0 0 N 1000000 [.ref o, .ref t, .int (nI r0)] g (fun rr g' => rr = none ∧ frG g g' o (o + 14) ∧ ∃ M', mdG g' o M' ∧ (∀ j, j ≠ 7 → j ≠ 8 → j ≠ 9 → j ≠ 10 → M' j = M j) ∧ (∀ q, q < 25 → M' 7 q = buT TT (mrM TT f tn tu x 100 1 0 (cpM (fun _ => -9) (M 9) 25) (cpM (fun _ => -9) (M 10) 25)).1 (mrM TT f tn tu x 100 1 0 (cpM (fun _ => -9) (M 9) 25) (cpM (fun _ => -9) (M 10) 25)).2.1 q) ∧ M' 9 = (mrM TT f tn tu x 100 1 0 (cpM (fun _ => -9) (M 9) 25) (cpM (fun _ => -9) (M 10) 25)).2.2.1 ∧ M' 10 = (mrM TT f tn tu x 100 1 0 (cpM (fun _ => -9) (M 9) 25) (cpM (fun _ => -9) (M 10) 25)).2.2.2 ∧ ok (mrM TT f tn tu x 100 1 0 (cpM (fun _ => -9) (M 9) 25) (cpM (fun _ => -9) (M 10) 25)).1) := by
  refine ca_intro (by decide) (Nat.le_of_ble_eq_true rfl) (fun X hX hN => ?_)
  show X 0 [_, _, _, none, none, none, none, none] [] N 1000000 g
  obtain ⟨gz, hgz⟩ : ∃ gz, gz = g := ⟨g, rfl⟩
  obtain ⟨K, hK⟩ : ∃ K, K = mrM TT f tn tu x 100 1 0 (cpM (fun _ => -9) (M 9) 25) (cpM (fun _ => -9) (M 10) 25) := ⟨_, rfl⟩
  have hm0 := hm
  have ht00 := ht
  have main : ∀ (n m : Nat), m + n = 101 → 1 ≤ m → ∀ g1 M1 sr, mdG g1 o M1 → g1 t = .inl (182, f) → frG gz g1 o (o + 14) → (∀ j, j ≠ 7 → j ≠ 8 → j ≠ 9 → j ≠ 10 → M1 j = M j) → (∀ q, q < 25 → M1 7 q = buT TT sr m q) → (∀ q, q < 25 → M1 8 q = soT TT sr q) → (∀ q, q < 25 → (M1 9 q < 0 ↔ bt sr q = false)) → ok sr → K = mrM TT f tn tu x n m sr (M1 9) (M1 10) → X 52 [some (.ref o), some (.ref t), some (.int (nI r0)), some (.int (nI m)), none, none, none, none] [] N 1000000 g1 := by
    intro n
    induction n with
    | zero =>
      intro m hmn hm1 g M1 sr hm ht hfr ho2 h7 h8 h9 hok eK
      have egn : gnM (M1 7) (M1 8) 0 25 = gnM (buT TT sr m) (soT TT sr) 0 25 := gn_congr h7 h8 25 0 (by omega)
      have hz0 : gnM (M1 7) (M1 8) 0 25 = 0 := by
        refine gn_none 25 0 (fun q _ hq z => ?_)
        rw [h7 q (by omega), h8 q (by omega), soT] at z
        rcases Nat.lt_or_ge (TT sr q) 1000000000 with z2 | z2
        · have := hTT.2.2.1 sr q hok (by omega) z2
          rw [buT, if_pos (by omega)] at z
          exact nI_pos (by omega) z.1
        · have hle := (hTT.2.2.2.1 sr m (M1 7) (M1 9) hok (by omega) h7 h9).1 q (by omega)
          exact nI_nlt (b := 1000000000) z2 (by omega) z.2
      obtain ⟨c0, c1, c2, c3, c4, c5, c6, c7, c8, c9, c10, c11, c12, c13⟩ := id hm
      refine ca_aload_n hX (q := 53) 0 rfl rfl rfl dX6_burns_52 ?_
      refine ca_cVi hX (q := 56) y_X6_isGoingOn w_ml_X6_92 (by omega) hN c0 (c_X6_isGoingOn l N g o M1 hm ho) (by decide) rfl (by decide) rfl dX6_burns_53 rfl ?_
      refine ca_if_eq hX (q := 59) 220 rfl rfl dX6_burns_56 (fun _ => ?_) (fun z => absurd hz0 z)
      refine ca_vret hX rfl rfl rfl rfl dX6_burns_220 ?_
      have e : K = (sr, m, M1 9, M1 10) := by
        rw [eK]; rfl
      rw [hK] at e
      refine ⟨rfl, by rw [hgz] at hfr; exact hfr, M1, hm, ho2, fun q hq => ?_, ?_, ?_, ?_⟩
      · rw [e]; exact h7 q hq
      · rw [e]
      · rw [e]
      · rw [e]; exact hok
    | succ n ih =>
      intro m hmn hm1 g M1 sr hm ht hfr ho2 h7 h8 h9 hok eK
      have egn : gnM (M1 7) (M1 8) 0 25 = gnM (buT TT sr m) (soT TT sr) 0 25 := gn_congr h7 h8 25 0 (by omega)
      obtain ⟨c0, c1, c2, c3, c4, c5, c6, c7, c8, c9, c10, c11, c12, c13⟩ := id hm
      refine ca_aload_n hX (q := 53) 0 rfl rfl rfl dX6_burns_52 ?_
      refine ca_cVi hX (q := 56) y_X6_isGoingOn w_ml_X6_92 (by omega) hN c0 (c_X6_isGoingOn l N g o M1 hm ho) (by decide) rfl (by decide) rfl dX6_burns_53 rfl ?_
      refine ca_if_eq hX (q := 59) 220 rfl rfl dX6_burns_56 (fun c56 => ?_) (fun c56 => ?_)
      · refine ca_vret hX rfl rfl rfl rfl dX6_burns_220 ?_
        have e : K = (sr, m, M1 9, M1 10) := by
          rw [eK, mrM, if_pos (by rw [← egn]; exact c56)]
        rw [hK] at e
        refine ⟨rfl, by rw [hgz] at hfr; exact hfr, M1, hm, ho2, fun q hq => ?_, ?_, ?_, ?_⟩
        · rw [e]; exact h7 q hq
        · rw [e]
        · rw [e]
        · rw [e]; exact hok
      · have hgo : ¬ gnM (buT TT sr m) (soT TT sr) 0 25 = 0 := by rw [← egn]; exact c56
        have join : ∀ g1 M1 sr, mdG g1 o M1 → g1 t = .inl (182, f) → frG gz g1 o (o + 14) → (∀ j, j ≠ 7 → j ≠ 8 → j ≠ 9 → j ≠ 10 → M1 j = M j) → (∀ q, q < 25 → M1 7 q = buT TT sr m q) → (∀ q, q < 25 → M1 8 q = soT TT sr q) → (∀ q, q < 25 → (M1 9 q < 0 ↔ bt sr q = false)) → ok sr → K = mrM TT f tn tu x n (m + 1) sr (M1 9) (M1 10) → X 164 [some (.ref o), some (.ref t), some (.int (nI r0)), some (.int (nI m)), none, none, none, none] [] N 1000000 g1 := by
          intro ga Ma sr hma hta hfra ho2a h7a h8a h9 hok eK
          have hTTle : ∀ q, q < 25 → TT sr q ≤ 1000000000 := fun q hq => (hTT.2.2.2.1 sr m (Ma 7) (Ma 9) hok (by omega) h7a h9).1 q hq
          have kloop : ∀ (nk k : Nat), k + nk = 25 → ∀ g1 M1, mdG g1 o M1 → g1 t = .inl (182, f) → frG gz g1 o (o + 14) → (∀ j, j ≠ 7 → j ≠ 8 → j ≠ 9 → j ≠ 10 → M1 j = M j) → (∀ q, q < 25 → M1 7 q = if q < k then buT TT sr (m + 1) q else buT TT sr m q) → (∀ q, q < 25 → M1 8 q = soT TT sr q) → M1 9 = Ma 9 → M1 10 = Ma 10 → X 167 [some (.ref o), some (.ref t), some (.int (nI r0)), some (.int (nI m)), none, none, none, some (.int (nI k))] [] N 1000000 g1 := by
            intro nk
            induction nk with
            | zero =>
              intro k hk g M1 hm ht hfr ho2 h7 h8 e9 e10
              have hk25 : k = 25 := by omega
              obtain ⟨c0, c1, c2, c3, c4, c5, c6, c7, c8, c9, c10, c11, c12, c13⟩ := id hm
              refine ca_iload hX (q := 169) rfl rfl dX6_burns_167 ?_
              refine ca_bipush hX (q := 171) k_bipush_25 rfl dX6_burns_169 ?_
              refine ca_icmp_ge hX (q := 174) 209 rfl rfl dX6_burns_171 (fun _ => ?_) (fun z => absurd (by rw [hk25]; exact nI_le (a := 25) (b := 25) (by omega) (by omega)) z)
              refine ca_aload_n hX (q := 210) 0 rfl rfl rfl dX6_burns_209 ?_
              refine ca_aload_n hX (q := 211) 1 rfl rfl rfl dX6_burns_210 ?_
              refine ca_cV hX (q := 214) y_X6_findsSoonest w_ml_X6_88 (by omega) hN c0 (c_X6_findsSoonest l N g o M1 hm ho t f ht hto htd cat hcat (TT sr) (hTT.2.2.2.1 sr (m + 1) (M1 7) (M1 9) hok (by omega) (fun q hq => by rw [h7 q hq, if_pos (by omega)]) (by rw [e9]; exact h9))) (by decide) rfl (by decide) rfl dX6_burns_211 rfl ?_
              rintro _ g ⟨rfl, ⟨M2, hm, hM2, h82⟩, hf2⟩
              have hfr := frG.tr hfr hf2
              refine ca_iinc hX (q := 217) (ls' := [_, _, _, _, _, _, _, _]) k_iconst_1 rfl (Nat.le_of_ble_eq_true rfl) (Or.inr rfl) rfl rfl dX6_burns_214 ?_
              refine ca_goto hX 52 rfl dX6_burns_217 ?_
              rw [nI_1]
              have ht2 : g t = .inl (182, f) := by
                obtain ⟨-, d1, d2, -⟩ := id hm
                rcases (show t = o + 1 ∨ t = o + 2 by omega) with e | e
                · rw [e, d1, hM2 0 (by omega), ho2 0 (by omega) (by omega) (by omega) (by omega)]
                  rw [e, hm0.2.1] at ht00; exact ht00
                · rw [e, d2, hM2 1 (by omega), ho2 1 (by omega) (by omega) (by omega) (by omega)]
                  rw [e, hm0.2.2.1] at ht00; exact ht00
              refine ca_drop hX (ls' := [some (.ref o), some (.ref t), some (.int (nI r0)), some (.int (nI (m + 1))), none, none, none, none]) (by simp [ca_le]) (ih (m + 1) (by omega) (by omega) g M2 sr hm ht2 hfr (fun j a b c d => (hM2 j b).trans (ho2 j a b c d)) (fun q hq => ?_) (fun q hq => h82 q hq) (fun q hq => ?_) hok ?_)
              · rw [hM2 7 (by omega), h7 q hq, if_pos (by omega)]
              · rw [hM2 9 (by omega), e9]; exact h9 q hq
              · rw [hM2 9 (by omega), hM2 10 (by omega), e9, e10]; exact eK
            | succ nk ihk =>
              intro k hk g M1 hm ht hfr ho2 h7 h8 e9 e10
              obtain ⟨c0, c1, c2, c3, c4, c5, c6, c7, c8, c9, c10, c11, c12, c13⟩ := id hm
              refine ca_iload hX (q := 169) rfl rfl dX6_burns_167 ?_
              refine ca_bipush hX (q := 171) k_bipush_25 rfl dX6_burns_169 ?_
              refine ca_icmp_ge hX (q := 174) 209 rfl rfl dX6_burns_171 (fun z => absurd z (nI_ge (a := k) (b := 25) (by omega) (by omega))) (fun _ => ?_)
              refine ca_aload_n hX (q := 175) 0 rfl rfl rfl dX6_burns_174 ?_
              refine ca_getf hX (q := 178) cl_X6 10 (by decide) w_fl_X6_31 (by omega) c0 rfl rfl dX6_burns_175 ?_
              refine ca_iload hX (q := 180) rfl rfl dX6_burns_178 ?_
              refine ca_iaN hX (q := 181) (k := k) (by omega) c8 (by decide) rfl (by omega) rfl dX6_burns_180 ?_
              refine ca_if_ge hX (q := 184) 203 rfl rfl dX6_burns_181 (fun c181 => ?_) (fun c181 => ?_)
              · refine ca_iinc hX (q := 206) (ls' := [_, _, _, _, _, _, _, _]) k_iconst_1 rfl (Nat.le_of_ble_eq_true rfl) (Or.inr rfl) rfl rfl dX6_burns_203 ?_
                refine ca_goto hX 167 rfl dX6_burns_206 ?_
                rw [nI_1]
                refine ihk (k + 1) (by omega) g M1 hm ht hfr ho2 (fun q hq => ?_) h8 e9 e10
                by_cases e : q = k
                · rw [h7 q hq, e, if_neg (by omega), if_pos (by omega)]
                  rw [h7 k (by omega), if_neg (by omega)] at c181
                  have hlt : TT sr k < m := by
                    rcases Nat.lt_or_ge (TT sr k) m with q2 | q2
                    · exact q2
                    · rw [buT, if_neg (by omega)] at c181; exact absurd c181 (by decide)
                  unfold buT
                  rw [if_pos hlt, if_pos (by omega)]
                · rw [h7 q hq]
                  by_cases z : q < k
                  · rw [if_pos z, if_pos (by omega)]
                  · rw [if_neg z, if_neg (by omega)]
              · refine ca_aload_n hX (q := 185) 0 rfl rfl rfl dX6_burns_184 ?_
                refine ca_getf hX (q := 188) cl_X6 11 (by decide) w_fl_X6_34 (by omega) c0 rfl rfl dX6_burns_185 ?_
                refine ca_iload hX (q := 190) rfl rfl dX6_burns_188 ?_
                refine ca_iaN hX (q := 191) (k := k) (by omega) c9 (by decide) rfl (by omega) rfl dX6_burns_190 ?_
                refine ca_iload_n hX (q := 192) 3 rfl rfl rfl dX6_burns_191 ?_
                refine ca_icmp_ne hX (q := 195) 203 rfl rfl dX6_burns_192 (fun c192 => ?_) (fun c192 => ?_)
                · refine ca_iinc hX (q := 206) (ls' := [_, _, _, _, _, _, _, _]) k_iconst_1 rfl (Nat.le_of_ble_eq_true rfl) (Or.inr rfl) rfl rfl dX6_burns_203 ?_
                  refine ca_goto hX 167 rfl dX6_burns_206 ?_
                  rw [nI_1]
                  refine ihk (k + 1) (by omega) g M1 hm ht hfr ho2 (fun q hq => ?_) h8 e9 e10
                  by_cases e : q = k
                  · rw [h7 q hq, e, if_neg (by omega), if_pos (by omega)]
                    rw [h8 k (by omega)] at c192
                    rw [h7 k (by omega), if_neg (by omega)] at c181
                    have hne : ¬ TT sr k = m := fun q2 => c192 (by rw [soT, q2])
                    unfold buT
                    by_cases q2 : TT sr k < m
                    · rw [if_pos q2, if_pos (by omega)]
                    · rw [if_neg q2, if_neg (by omega)]
                  · rw [h7 q hq]
                    by_cases z : q < k
                    · rw [if_pos z, if_pos (by omega)]
                    · rw [if_neg z, if_neg (by omega)]
                · refine ca_aload_n hX (q := 196) 0 rfl rfl rfl dX6_burns_195 ?_
                  refine ca_getf hX (q := 199) cl_X6 10 (by decide) w_fl_X6_31 (by omega) c0 rfl rfl dX6_burns_196 ?_
                  refine ca_iload hX (q := 201) rfl rfl dX6_burns_199 ?_
                  refine ca_iload_n hX (q := 202) 3 rfl rfl rfl dX6_burns_201 ?_
                  refine ca_iaS hX (q := 203) (k := k) (by omega) hN (Nat.le_refl _) c8 (by decide) rfl (by omega) rfl dX6_burns_202 (fun g hE hF => ?_)
                  have hm := md_a7 hm hE hF
                  obtain ⟨c0, c1, c2, c3, c4, c5, c6, c7, c8, c9, c10, c11, c12, c13⟩ := id hm
                  have hfr := frG.tr hfr (fun j hj => hF j (by omega))
                  have ht := (hF t (by omega)).trans ht
                  refine ca_iinc hX (q := 206) (ls' := [_, _, _, _, _, _, _, _]) k_iconst_1 rfl (Nat.le_of_ble_eq_true rfl) (Or.inr rfl) rfl rfl dX6_burns_203 ?_
                  refine ca_goto hX 167 rfl dX6_burns_206 ?_
                  rw [nI_1]
                  rw [h8 k (by omega), soT] at c192
                  have hkm : TT sr k = m := (nI_eq (by have := hTTle k (by omega); omega) (by omega)).mp c192
                  refine ihk (k + 1) (by omega) g _ hm ht hfr (fun j a b c d => (upB_n _ _ _ a).trans (ho2 j a b c d)) (fun q hq => ?_) (fun q hq => ?_) ?_ ?_
                  · rw [upB_s]
                    by_cases e : q = k
                    · rw [e, upd_s, if_pos (by omega), buT, if_pos (by omega), hkm]
                    · rw [upd_n _ _ e, h7 q hq]
                      by_cases z : q < k
                      · rw [if_pos z, if_pos (by omega)]
                      · rw [if_neg z, if_neg (by omega)]
                  · rw [upB_n _ _ _ (by omega)]; exact h8 q hq
                  · rw [upB_n _ _ _ (by omega)]; exact e9
                  · rw [upB_n _ _ _ (by omega)]; exact e10
          obtain ⟨c0, c1, c2, c3, c4, c5, c6, c7, c8, c9, c10, c11, c12, c13⟩ := id hma
          refine ca_iconst hX (q := 165) k_iconst_0 rfl dX6_burns_164 ?_
          refine ca_istore hX (q := 167) (ls' := [_, _, _, _, _, _, _, _]) (Nat.le_of_ble_eq_true rfl) (Nat.le_of_ble_eq_true rfl) (Or.inr rfl) rfl rfl dX6_burns_165 ?_
          exact kloop 25 0 (by omega) ga Ma hma hta hfra ho2a (fun q hq => by rw [if_neg (by omega)]; exact h7a q hq) h8a rfl rfl
        have b135 : X 135 [some (.ref o), some (.ref t), some (.int (nI r0)), some (.int (nI m)), some (.int (pvT tn tu m)), none, none, none] [.int (rvT TT f tn tu x m sr)] N 1000000 g := by
          refine ca_istore hX (q := 137) (ls' := [_, _, _, _, _, _, _, _]) (Nat.le_of_ble_eq_true rfl) (Nat.le_of_ble_eq_true rfl) (Or.inr rfl) rfl rfl dX6_burns_135 ?_
          refine ca_iload hX (q := 139) rfl rfl dX6_burns_137 ?_
          refine ca_if_lt hX (q := 142) 164 rfl rfl dX6_burns_139 (fun c139 => ?_) (fun c139 => ?_)
          · refine ca_drop hX (ls' := [some (.ref o), some (.ref t), some (.int (nI r0)), some (.int (nI m)), none, none, none, none]) (by simp [ca_le]) (join g M1 sr hm ht hfr ho2 h7 h8 h9 hok ?_)
            rw [eK, mrM, if_neg hgo, if_pos c139]
          · rcases rv_neg (TT := TT) (f := f) (tn := tn) (tu := tu) (x := x) (m := m) (sr := sr) with e9 | ⟨r, hr, er, htn0, ety⟩
            · exact absurd (by rw [e9]; decide) c139
            have hsp := ty_spec (buT TT sr m) (soT TT sr) f (tu ((m - 1) % tn)) 25 r (by omega) ety (by omega)
            have hTTle : TT sr r ≤ 1000000000 := (hTT.2.2.2.1 sr m (M1 7) (M1 9) hok (by omega) h7 h9).1 r hr
            have hmr : m ≤ TT sr r := by
              rcases Nat.lt_or_ge (TT sr r) m with z | z
              · have := hsp.1; rw [buT, if_pos z] at this; exact absurd this (nI_pos (by omega))
              · exact z
            have hfin : TT sr r < 1000000000 := by
              rcases Nat.lt_or_ge (TT sr r) 1000000000 with z | z
              · exact z
              · exact absurd (by rw [soT, show TT sr r = 1000000000 by omega]; rfl) hsp.2
            obtain ⟨hok2, hbu2⟩ := hTT.2.2.2.2 sr m r hok (by omega) hr hmr hfin
            have eK2 : K = mrM TT f tn tu x n (m + 1) (sr ||| 1 <<< (nI r &&& 31)) (upd (M1 9) r (nI m)) (upd (M1 10) r (pvT tn tu m)) := by
              rw [eK, mrM, if_neg hgo, if_neg c139, er, nI_clamp (by omega)]
            have hsd2 : ∀ q, q < 25 → (upd (M1 9) r (nI m) q < 0 ↔ bt (sr ||| 1 <<< (nI r &&& 31)) q = false) := by
              intro q hq
              rw [b_or, b_one r (by omega)]
              by_cases e : q = r
              · rw [e, upd_s]
                constructor
                · intro z; exact absurd z (nI_pos (by omega))
                · intro z; simp at z
              · rw [upd_n _ _ e, h9 q hq]; simp [e]
            rw [er]
            refine ca_aload_n hX (q := 143) 0 rfl rfl rfl dX6_burns_142 ?_
            refine ca_getf hX (q := 146) cl_X6 12 (by decide) w_fl_X6_37 (by omega) c0 rfl rfl dX6_burns_143 ?_
            refine ca_iload hX (q := 148) rfl rfl dX6_burns_146 ?_
            refine ca_iload_n hX (q := 149) 3 rfl rfl rfl dX6_burns_148 ?_
            refine ca_iaS hX (q := 150) (k := r) (by omega) hN (Nat.le_refl _) c10 (by decide) rfl hr rfl dX6_burns_149 (fun g hE hF => ?_)
            have hm := md_a9 hm hE hF
            obtain ⟨c0, c1, c2, c3, c4, c5, c6, c7, c8, c9, c10, c11, c12, c13⟩ := id hm
            have hfr := frG.tr hfr (fun j hj => hF j (by omega))
            have ht := (hF t (by omega)).trans ht
            refine ca_aload_n hX (q := 151) 0 rfl rfl rfl dX6_burns_150 ?_
            refine ca_getf hX (q := 154) cl_X6 13 (by decide) w_fl_X6_40 (by omega) c0 rfl rfl dX6_burns_151 ?_
            refine ca_iload hX (q := 156) rfl rfl dX6_burns_154 ?_
            refine ca_iload hX (q := 158) rfl rfl dX6_burns_156 ?_
            refine ca_iaS hX (q := 159) (k := r) (by omega) hN (Nat.le_refl _) c11 (by decide) rfl hr rfl dX6_burns_158 (fun g hE hF => ?_)
            have hm := md_a10 hm hE hF
            obtain ⟨c0, c1, c2, c3, c4, c5, c6, c7, c8, c9, c10, c11, c12, c13⟩ := id hm
            have hfr := frG.tr hfr (fun j hj => hF j (by omega))
            have ht := (hF t (by omega)).trans ht
            refine ca_aload_n hX (q := 160) 0 rfl rfl rfl dX6_burns_159 ?_
            refine ca_aload_n hX (q := 161) 1 rfl rfl rfl dX6_burns_160 ?_
            refine ca_cV hX (q := 164) y_X6_findsSoonest w_ml_X6_88 (by omega) hN c0 (c_X6_findsSoonest l N g o _ hm ho t f ht hto htd cat hcat (TT (sr ||| 1 <<< (nI r &&& 31))) (hTT.2.2.2.1 (sr ||| 1 <<< (nI r &&& 31)) m _ _ hok2 (by omega) (fun q hq => (h7 q hq).trans (hbu2 q hq).symm) hsd2)) (by decide) rfl (by decide) rfl dX6_burns_161 rfl ?_
            rintro _ g4 ⟨rfl, ⟨M4, hm4, hM4, h84⟩, hf4⟩
            have hfr := frG.tr hfr hf4
            have ht4 : g4 t = .inl (182, f) := by
              obtain ⟨-, d1, d2, -⟩ := id hm4
              rcases (show t = o + 1 ∨ t = o + 2 by omega) with e | e
              · rw [e, d1, hM4 0 (by omega)]
                show Sum.inl (182, M1 0) = _
                rw [ho2 0 (by omega) (by omega) (by omega) (by omega)]
                rw [e, hm0.2.1] at ht00; exact ht00
              · rw [e, d2, hM4 1 (by omega)]
                show Sum.inl (182, M1 1) = _
                rw [ho2 1 (by omega) (by omega) (by omega) (by omega)]
                rw [e, hm0.2.2.1] at ht00; exact ht00
            refine ca_drop hX (ls' := [some (.ref o), some (.ref t), some (.int (nI r0)), some (.int (nI m)), none, none, none, none]) (by simp [ca_le]) (join g4 M4 (sr ||| 1 <<< (nI r &&& 31)) hm4 ht4 hfr (fun j a b c d => ?_) (fun q hq => ?_) (fun q hq => h84 q hq) (fun q hq => ?_) hok2 ?_)
            · rw [hM4 j b, upB_n _ _ _ d, upB_n _ _ _ c]; exact ho2 j a b c d
            · rw [hM4 7 (by omega)]; exact (h7 q hq).trans (hbu2 q hq).symm
            · rw [hM4 9 (by omega)]; exact hsd2 q hq
            · rw [hM4 9 (by omega), hM4 10 (by omega)]; exact eK2
        have c111 : ∀ sv, sv = (if siM x m = true then (1 : Int32) else 0) → X 111 [some (.ref o), some (.ref t), some (.int (nI r0)), some (.int (nI m)), some (.int (pvT tn tu m)), none, none, none] [.int sv] N 1000000 g := by
          intro sv hsv
          by_cases h0 : tn = 0
          · have e9 : rvT TT f tn tu x m sr = -9 := by unfold rvT; rw [if_pos (Or.inl h0)]
            have b := b135
            rw [e9] at b
            have ep : pvT tn tu m = -9 := by unfold pvT; rw [if_pos h0]
            refine ca_istore hX (q := 113) (ls' := [_, _, _, _, _, _, _, _]) (Nat.le_of_ble_eq_true rfl) (Nat.le_of_ble_eq_true rfl) (Or.inr rfl) rfl rfl dX6_burns_111 ?_
            refine ca_iload hX (q := 115) rfl rfl dX6_burns_113 ?_
            refine ca_if_lt hX (q := 118) 123 rfl rfl dX6_burns_115 (fun _ => ?_) (fun z => absurd (by rw [ep]; decide) z)
            refine ca_bipush hX (q := 125) k_bipush_m9 rfl dX6_burns_123 ?_
            refine ca_goto hX 135 rfl dX6_burns_125 ?_
            exact ca_drop hX (by simp [ca_le]) b
          · have ep : pvT tn tu m = nI (tu ((m - 1) % tn)) := by unfold pvT; rw [if_neg h0]
            have hpp : ¬ pvT tn tu m < 0 := by rw [ep]; exact nI_pos (by have := (htu _ (Nat.mod_lt (m - 1) (show 0 < tn by omega))).2; omega)
            by_cases hsi : siM x m = true
            · have e9 : rvT TT f tn tu x m sr = -9 := by unfold rvT; rw [if_pos (Or.inr hsi)]
              have b := b135
              rw [e9] at b
              rw [if_pos hsi] at hsv
              refine ca_istore hX (q := 113) (ls' := [_, _, _, _, _, _, _, _]) (Nat.le_of_ble_eq_true rfl) (Nat.le_of_ble_eq_true rfl) (Or.inr rfl) rfl rfl dX6_burns_111 ?_
              refine ca_iload hX (q := 115) rfl rfl dX6_burns_113 ?_
              refine ca_if_lt hX (q := 118) 123 rfl rfl dX6_burns_115 (fun z => absurd z hpp) (fun _ => ?_)
              refine ca_iload hX (q := 120) rfl rfl dX6_burns_118 ?_
              refine ca_if_eq hX (q := 123) 128 rfl rfl dX6_burns_120 (fun z => absurd z (by rw [hsv]; decide)) (fun _ => ?_)
              refine ca_bipush hX (q := 125) k_bipush_m9 rfl dX6_burns_123 ?_
              refine ca_goto hX 135 rfl dX6_burns_125 ?_
              exact ca_drop hX (by simp [ca_le]) b
            · rw [if_neg hsi] at hsv
              have e9 : rvT TT f tn tu x m sr = tyM (M1 7) (M1 8) f (tu ((m - 1) % tn)) 25 := by
                unfold rvT
                rw [if_neg (fun z => z.elim h0 hsi)]
                exact (ty_congr h7 h8 25 (by omega)).symm
              have b := b135
              rw [e9] at b
              refine ca_istore hX (q := 113) (ls' := [_, _, _, _, _, _, _, _]) (Nat.le_of_ble_eq_true rfl) (Nat.le_of_ble_eq_true rfl) (Or.inr rfl) rfl rfl dX6_burns_111 ?_
              refine ca_iload hX (q := 115) rfl rfl dX6_burns_113 ?_
              refine ca_if_lt hX (q := 118) 123 rfl rfl dX6_burns_115 (fun z => absurd z hpp) (fun _ => ?_)
              refine ca_iload hX (q := 120) rfl rfl dX6_burns_118 ?_
              refine ca_if_eq hX (q := 123) 128 rfl rfl dX6_burns_120 (fun _ => ?_) (fun z => absurd hsv z)
              refine ca_aload_n hX (q := 129) 0 rfl rfl rfl dX6_burns_128 ?_
              refine ca_aload_n hX (q := 130) 1 rfl rfl rfl dX6_burns_129 ?_
              refine ca_iload hX (q := 132) rfl rfl dX6_burns_130 ?_
              rw [ep]
              refine ca_cVi hX (q := 135) y_X6_toSay w_ml_X6_103 (by omega) hN c0 (c_X6_toSay l N g o M1 hm ho t f ht hto htd (tu ((m - 1) % tn)) (htu _ (Nat.mod_lt _ (by omega))).2) (by decide) rfl (by decide) rfl dX6_burns_132 rfl ?_
              rw [ep] at b
              exact ca_drop hX (by simp [ca_le]) b
        have a84 : X 84 [some (.ref o), some (.ref t), some (.int (nI r0)), some (.int (nI m)), none, none, none, none] [.int (pvT tn tu m)] N 1000000 g := by
          refine ca_istore hX (q := 86) (ls' := [_, _, _, _, _, _, _, _]) (Nat.le_of_ble_eq_true rfl) (Nat.le_of_ble_eq_true rfl) (Or.inr rfl) rfl rfl dX6_burns_84 ?_
          refine ca_iload_n hX (q := 87) 3 rfl rfl rfl dX6_burns_86 ?_
          refine ca_bipush hX (q := 89) k_bipush_7 rfl dX6_burns_87 ?_
          refine ca_icmp_gt hX (q := 92) 110 rfl rfl dX6_burns_89 (fun c89 => ?_) (fun c89 => ?_)
          · refine ca_iconst hX (q := 111) k_iconst_0 rfl dX6_burns_110 ?_
            refine ca_drop hX (by simp [ca_le]) (c111 0 ?_)
            rw [if_neg]
            unfold siM
            rw [decide_eq_false (by have := nI_hi2 (a := 7) (b := m) c89 (by omega) (by omega); omega)]
            simp
          · refine ca_aload_n hX (q := 93) 0 rfl rfl rfl dX6_burns_92 ?_
            refine ca_getf hX (q := 96) cl_X6 16 (by decide) w_fl_X6_100 (by omega) c0 rfl rfl dX6_burns_93 ?_
            refine ca_iload_n hX (q := 97) 3 rfl rfl rfl dX6_burns_96 ?_
            refine ca_iconst hX (q := 98) k_iconst_1 rfl dX6_burns_97 ?_
            refine ca_isub hX (q := 99) rfl dX6_burns_98 ?_
            refine ca_ishr hX (q := 100) rfl dX6_burns_99 ?_
            refine ca_iconst hX (q := 101) k_iconst_1 rfl dX6_burns_100 ?_
            refine ca_iand hX (q := 102) rfl dX6_burns_101 ?_
            refine ca_iconst hX (q := 103) k_iconst_1 rfl dX6_burns_102 ?_
            refine ca_icmp_ne hX (q := 106) 110 rfl rfl dX6_burns_103 (fun c103 => ?_) (fun c103 => ?_)
            · refine ca_iconst hX (q := 111) k_iconst_0 rfl dX6_burns_110 ?_
              refine ca_drop hX (by simp [ca_le]) (c111 0 ?_)
              have hm7 := nI_lo2 (a := 7) (b := m) c89 (by omega) (by omega)
              rw [ho2 13 (by omega) (by omega) (by omega) (by omega), hx, nI_m1 (by omega), b_tst (by omega)] at c103
              rw [if_neg]
              unfold siM
              intro h
              simp only [Bool.and_eq_true] at h
              exact c103 h.2
            · refine ca_iconst hX (q := 107) k_iconst_1 rfl dX6_burns_106 ?_
              refine ca_goto hX 111 rfl dX6_burns_107 ?_
              refine ca_drop hX (by simp [ca_le]) (c111 1 ?_)
              have hm7 := nI_lo2 (a := 7) (b := m) c89 (by omega) (by omega)
              rw [ho2 13 (by omega) (by omega) (by omega) (by omega), hx, nI_m1 (by omega), b_tst (by omega)] at c103
              rw [if_pos]
              unfold siM
              rw [c103, decide_eq_true (by omega)]
              rfl
        have a59 : X 59 [some (.ref o), some (.ref t), some (.int (nI r0)), some (.int (nI m)), none, none, none, none] [] N 1000000 g := by
          have htm : M1 13 3 = nI tn := by rw [ho2 13 (by omega) (by omega) (by omega) (by omega), htn]
          by_cases h0 : tn = 0
          · have ep : pvT tn tu m = -9 := by unfold pvT; rw [if_pos h0]
            have b := a84
            rw [ep] at b
            refine ca_aload_n hX (q := 60) 0 rfl rfl rfl dX6_burns_59 ?_
            refine ca_getf hX (q := 63) cl_X6 15 (by decide) w_fl_X6_96 (by omega) c0 rfl rfl dX6_burns_60 ?_
            refine ca_if_ne hX (q := 66) 71 rfl rfl dX6_burns_63 (fun z => absurd (by rw [htm, h0]; rfl) z) (fun _ => ?_)
            refine ca_bipush hX (q := 68) k_bipush_m9 rfl dX6_burns_66 ?_
            refine ca_goto hX 84 rfl dX6_burns_68 ?_
            exact b
          · have ep : pvT tn tu m = M1 11 ((m - 1) % tn) := by
              unfold pvT
              rw [if_neg h0, ho2 11 (by omega) (by omega) (by omega) (by omega), (htu _ (Nat.mod_lt (m - 1) (show 0 < tn by omega))).1]
            have b := a84
            rw [ep] at b
            refine ca_aload_n hX (q := 60) 0 rfl rfl rfl dX6_burns_59 ?_
            refine ca_getf hX (q := 63) cl_X6 15 (by decide) w_fl_X6_96 (by omega) c0 rfl rfl dX6_burns_60 ?_
            refine ca_if_ne hX (q := 66) 71 rfl rfl dX6_burns_63 (fun _ => ?_) (fun z => absurd z (by rw [htm]; exact nI_ne0 (by omega) (by omega)))
            refine ca_aload_n hX (q := 72) 0 rfl rfl rfl dX6_burns_71 ?_
            refine ca_getf hX (q := 75) cl_X6 14 (by decide) w_fl_X6_43 (by omega) c0 rfl rfl dX6_burns_72 ?_
            refine ca_iload_n hX (q := 76) 3 rfl rfl rfl dX6_burns_75 ?_
            refine ca_iconst hX (q := 77) k_iconst_1 rfl dX6_burns_76 ?_
            refine ca_isub hX (q := 78) rfl dX6_burns_77 ?_
            refine ca_aload_n hX (q := 79) 0 rfl rfl rfl dX6_burns_78 ?_
            refine ca_getf hX (q := 82) cl_X6 15 (by decide) w_fl_X6_96 (by omega) c0 rfl rfl dX6_burns_79 ?_
            refine ca_irem hX (q := 83) (by rw [htm]; exact nI_ne0 (by omega) (by omega)) rfl dX6_burns_82 ?_
            refine ca_iaN hX (q := 84) (k := (m - 1) % tn) (by omega) c12 (by decide) (by rw [htm, nI_m1 (by omega), pk_rem (by omega) (by omega) (by omega)]) (by have := Nat.mod_lt (m - 1) (show 0 < tn by omega); omega) rfl dX6_burns_83 ?_
            exact b
        exact a59
  have init : ∀ (n i : Nat), i + n = 25 → ∀ g1 M1, mdG g1 o M1 → g1 t = .inl (182, f) → frG gz g1 o (o + 14) → (∀ j, j ≠ 7 → j ≠ 8 → j ≠ 9 → j ≠ 10 → M1 j = M j) → (∀ q, q < i → M1 7 q = -9) → M1 9 = cpM (fun _ => -9) (M 9) i → M1 10 = cpM (fun _ => -9) (M 10) i → X 2 [some (.ref o), some (.ref t), some (.int (nI r0)), some (.int (nI i)), none, none, none, none] [] N 1000000 g1 := by
    intro n
    induction n with
    | zero =>
      intro i hi g M1 hm ht hfr ho2 h7 h9 h10
      have hi25 : i = 25 := by omega
      obtain ⟨c0, c1, c2, c3, c4, c5, c6, c7, c8, c9, c10, c11, c12, c13⟩ := id hm
      refine ca_iload_n hX (q := 3) 3 rfl rfl rfl dX6_burns_2 ?_
      refine ca_bipush hX (q := 5) k_bipush_25 rfl dX6_burns_3 ?_
      refine ca_icmp_ge hX (q := 8) 38 rfl rfl dX6_burns_5 (fun _ => ?_) (fun z => absurd (by rw [hi25]; exact nI_le (a := 25) (b := 25) (by omega) (by omega)) z)
      refine ca_aload_n hX (q := 39) 0 rfl rfl rfl dX6_burns_38 ?_
      refine ca_getf hX (q := 42) cl_X6 10 (by decide) w_fl_X6_31 (by omega) c0 rfl rfl dX6_burns_39 ?_
      refine ca_iload_n hX (q := 43) 2 rfl rfl rfl dX6_burns_42 ?_
      refine ca_iconst hX (q := 44) k_iconst_0 rfl dX6_burns_43 ?_
      refine ca_iaS hX (q := 45) (k := r0) (by omega) hN (Nat.le_refl _) c8 (by decide) rfl hr0 rfl dX6_burns_44 (fun g hE hF => ?_)
      have hm := md_a7 hm hE hF
      obtain ⟨c0, c1, c2, c3, c4, c5, c6, c7, c8, c9, c10, c11, c12, c13⟩ := id hm
      have hfr := frG.tr hfr (fun j hj => hF j (by omega))
      have ht := (hF t (by omega)).trans ht
      have hb0 : ∀ q, q < 25 → upB M1 7 r0 0 7 q = buT TT 0 1 q := by
        intro q hq
        rw [upB_s, hTT.2.1 q hq]
        by_cases e : q = r0
        · rw [e, upd_s, if_pos rfl]
        · rw [upd_n _ _ e, if_neg e]; exact h7 q (by omega)
      have hs0 : ∀ q, q < 25 → (upB M1 7 r0 0 9 q < 0 ↔ bt 0 q = false) := by
        intro q hq
        rw [upB_n _ _ _ (by omega), h9, b_0]
        unfold cpM
        rw [if_pos (by omega)]
        exact ⟨fun _ => rfl, fun _ => (by decide : (-9 : Int32) < 0)⟩
      refine ca_aload_n hX (q := 46) 0 rfl rfl rfl dX6_burns_45 ?_
      refine ca_aload_n hX (q := 47) 1 rfl rfl rfl dX6_burns_46 ?_
      refine ca_cV hX (q := 50) y_X6_findsSoonest w_ml_X6_88 (by omega) hN c0 (c_X6_findsSoonest l N g o _ hm ho t f ht hto htd cat hcat (TT 0) (hTT.2.2.2.1 0 1 _ _ hTT.1 (by omega) hb0 hs0)) (by decide) rfl (by decide) rfl dX6_burns_47 rfl ?_
      rintro _ g4 ⟨rfl, ⟨M4, hm4, hM4, h84⟩, hf4⟩
      have hfr := frG.tr hfr hf4
      refine ca_iconst hX (q := 51) k_iconst_1 rfl dX6_burns_50 ?_
      refine ca_istore_n hX (q := 52) 3 rfl (ls' := [_, _, _, _, _, _, _, _]) (Nat.le_of_ble_eq_true rfl) (Nat.le_of_ble_eq_true rfl) (Or.inr rfl) rfl rfl dX6_burns_51 ?_
      have ht4 : g4 t = .inl (182, f) := by
        obtain ⟨-, d1, d2, -⟩ := id hm4
        rcases (show t = o + 1 ∨ t = o + 2 by omega) with e | e
        · rw [e, d1, hM4 0 (by omega)]
          show Sum.inl (182, M1 0) = _
          rw [ho2 0 (by omega) (by omega) (by omega) (by omega)]
          rw [e, hm0.2.1] at ht00; exact ht00
        · rw [e, d2, hM4 1 (by omega)]
          show Sum.inl (182, M1 1) = _
          rw [ho2 1 (by omega) (by omega) (by omega) (by omega)]
          rw [e, hm0.2.2.1] at ht00; exact ht00
      refine main 100 1 (by omega) (by omega) g4 M4 0 hm4 ht4 hfr (fun j a b c d => ?_) (fun q hq => ?_) (fun q hq => h84 q hq) (fun q hq => ?_) hTT.1 ?_
      · rw [hM4 j b, upB_n _ _ _ a]; exact ho2 j a b c d
      · rw [hM4 7 (by omega)]; exact hb0 q hq
      · rw [hM4 9 (by omega)]; exact hs0 q hq
      · rw [hM4 9 (by omega), hM4 10 (by omega), upB_n _ _ _ (by omega), upB_n _ _ _ (by omega), h9, h10, hi25]; exact hK
    | succ n ihi =>
      intro i hi g M1 hm ht hfr ho2 h7 h9 h10
      obtain ⟨c0, c1, c2, c3, c4, c5, c6, c7, c8, c9, c10, c11, c12, c13⟩ := id hm
      refine ca_iload_n hX (q := 3) 3 rfl rfl rfl dX6_burns_2 ?_
      refine ca_bipush hX (q := 5) k_bipush_25 rfl dX6_burns_3 ?_
      refine ca_icmp_ge hX (q := 8) 38 rfl rfl dX6_burns_5 (fun z => absurd z (nI_ge (a := i) (b := 25) (by omega) (by omega))) (fun _ => ?_)
      refine ca_aload_n hX (q := 9) 0 rfl rfl rfl dX6_burns_8 ?_
      refine ca_getf hX (q := 12) cl_X6 10 (by decide) w_fl_X6_31 (by omega) c0 rfl rfl dX6_burns_9 ?_
      refine ca_iload_n hX (q := 13) 3 rfl rfl rfl dX6_burns_12 ?_
      refine ca_bipush hX (q := 15) k_bipush_m9 rfl dX6_burns_13 ?_
      refine ca_iaS hX (q := 16) (k := i) (by omega) hN (Nat.le_refl _) c8 (by decide) rfl (by omega) rfl dX6_burns_15 (fun g hE hF => ?_)
      have hm := md_a7 hm hE hF
      obtain ⟨c0, c1, c2, c3, c4, c5, c6, c7, c8, c9, c10, c11, c12, c13⟩ := id hm
      have hfr := frG.tr hfr (fun j hj => hF j (by omega))
      have ht := (hF t (by omega)).trans ht
      refine ca_aload_n hX (q := 17) 0 rfl rfl rfl dX6_burns_16 ?_
      refine ca_getf hX (q := 20) cl_X6 12 (by decide) w_fl_X6_37 (by omega) c0 rfl rfl dX6_burns_17 ?_
      refine ca_iload_n hX (q := 21) 3 rfl rfl rfl dX6_burns_20 ?_
      refine ca_bipush hX (q := 23) k_bipush_m9 rfl dX6_burns_21 ?_
      refine ca_iaS hX (q := 24) (k := i) (by omega) hN (Nat.le_refl _) c10 (by decide) rfl (by omega) rfl dX6_burns_23 (fun g hE hF => ?_)
      have hm := md_a9 hm hE hF
      obtain ⟨c0, c1, c2, c3, c4, c5, c6, c7, c8, c9, c10, c11, c12, c13⟩ := id hm
      have hfr := frG.tr hfr (fun j hj => hF j (by omega))
      have ht := (hF t (by omega)).trans ht
      refine ca_aload_n hX (q := 25) 0 rfl rfl rfl dX6_burns_24 ?_
      refine ca_getf hX (q := 28) cl_X6 13 (by decide) w_fl_X6_40 (by omega) c0 rfl rfl dX6_burns_25 ?_
      refine ca_iload_n hX (q := 29) 3 rfl rfl rfl dX6_burns_28 ?_
      refine ca_bipush hX (q := 31) k_bipush_m9 rfl dX6_burns_29 ?_
      refine ca_iaS hX (q := 32) (k := i) (by omega) hN (Nat.le_refl _) c11 (by decide) rfl (by omega) rfl dX6_burns_31 (fun g hE hF => ?_)
      have hm := md_a10 hm hE hF
      obtain ⟨c0, c1, c2, c3, c4, c5, c6, c7, c8, c9, c10, c11, c12, c13⟩ := id hm
      have hfr := frG.tr hfr (fun j hj => hF j (by omega))
      have ht := (hF t (by omega)).trans ht
      refine ca_iinc hX (q := 35) (ls' := [_, _, _, _, _, _, _, _]) k_iconst_1 rfl (Nat.le_of_ble_eq_true rfl) (Or.inr rfl) rfl rfl dX6_burns_32 ?_
      refine ca_goto hX 2 rfl dX6_burns_35 ?_
      rw [nI_1]
      refine ihi (i + 1) (by omega) g _ hm ht hfr (fun j a b c d => ?_) (fun q hq => ?_) ?_ ?_
      · rw [upB_n _ _ _ d, upB_n _ _ _ c, upB_n _ _ _ a]; exact ho2 j a b c d
      · rw [upB_n _ _ _ (by omega), upB_n _ _ _ (by omega), upB_s]
        by_cases e : q = i
        · rw [e, upd_s]
        · rw [upd_n _ _ e]; exact h7 q (by omega)
      · rw [upB_n _ _ _ (by omega), upB_s, upB_n _ _ _ (by omega), h9]; exact cpM_s _ _ _
      · rw [upB_s, upB_n _ _ _ (by omega), upB_n _ _ _ (by omega), h10]; exact cpM_s _ _ _
  obtain ⟨c0, c1, c2, c3, c4, c5, c6, c7, c8, c9, c10, c11, c12, c13⟩ := id hm
  refine ca_iconst hX (q := 1) k_iconst_0 rfl dX6_burns_0 ?_
  refine ca_istore_n hX (q := 2) 3 rfl (ls' := [_, _, _, _, _, _, _, _]) (Nat.le_of_ble_eq_true rfl) (Nat.le_of_ble_eq_true rfl) (Or.inr rfl) rfl rfl dX6_burns_1 ?_
  exact init 25 0 (by omega) g M hm ht (by rw [hgz]; exact frG.rf) (fun _ _ _ _ _ => rfl) (fun q hq => absurd hq (by omega)) (cpM_0 _ _).symm (cpM_0 _ _).symm

