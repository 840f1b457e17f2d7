/-! what a statement does: the reference -/
def tkR (h : Nat → Int32) (P : Nat) (v : Int32) (n : Nat) : Nat → Int32 := fun j => if j = 52 + P then v else if 57 + 25 * P ≤ j ∧ j < 57 + 25 * P + n then 0 else h j
theorem tkR_i (h : Nat → Int32) (P : Nat) (v : Int32) : upd h (52 + P) v = tkR h P v 0 := by
  funext j
  unfold tkR
  by_cases e : j = 52 + P
  · rw [e, upd_s, if_pos rfl]
  · rw [upd_n _ _ e, if_neg e, if_neg (by omega)]
theorem tkR_s (h : Nat → Int32) (P : Nat) (v : Int32) (n : Nat) (hP : P < 5) : upd (tkR h P v n) (57 + (25 * P + n)) 0 = tkR h P v (n + 1) := by
  funext j
  by_cases e : j = 57 + (25 * P + n)
  · rw [e, upd_s]; unfold tkR; rw [if_neg (by omega), if_pos (by omega)]
  · rw [upd_n _ _ e]; unfold tkR
    by_cases z : j = 52 + P
    · rw [if_pos z, if_pos z]
    · rw [if_neg z, if_neg z]
      by_cases q : 57 + 25 * P ≤ j ∧ j < 57 + 25 * P + n
      · rw [if_pos q, if_pos (by omega)]
      · rw [if_neg q, if_neg (by omega)]
theorem tkR_0 (h : Nat → Int32) (P : Nat) (v : Int32) (n : Nat) : tkR h P v n 0 = h 0 := by unfold tkR; rw [if_neg (by omega), if_neg (by omega)]
theorem tkR_e (h : Nat → Int32) (P : Nat) (v : Int32) : upd (tkR h P v 25) 0 (nI (P + 1)) = tkM h P v 25 := by
  funext j
  unfold tkM
  by_cases e : j = 0
  · rw [e, upd_s, if_pos rfl]
  · rw [upd_n _ _ e, if_neg e]; rfl
def dnP (o : Nat) (g : ca_G) (M : Nat → Nat → Int32) (L pl P : Nat) : ca_Post := fun rr g' => frG g g' o (o + 14) ∧ ((∃ h' P', stE (M 4) L pl (M 0) P = some (h', P') ∧ rr = some (.int 1) ∧ mdG g' o (stB M 0 h')) ∨ (stE (M 4) L pl (M 0) P = none ∧ rr = some (.int 0) ∧ mdG g' o M))

set_option maxRecDepth 100000 in
set_option maxHeartbeats 4000000 in
theorem c_X6_isDone (l : Launch) (N : Nat) (g0 : ca_G) (o : Nat) (M : Nat → Nat → Int32) (hm : mdG g0 o M) (ho : o + 14 ≤ N) (P : Nat) (w : wfH (M 0) P) (L pl : Nat) (ho2 : okF (M 4) L pl) (hnu : nuP (M 4) L pl M) (x1 : Int32) (hx1 : x1 = atM (M 4) L pl) : ca_Ct l yX6_isDone cX6_isDone 5 (some .boolean) 2 0 0 N 1000000 [.ref o, .int x1] g0 (dnP o g0 M L pl P) := by
  refine ca_intro (by decide) (Nat.le_of_ble_eq_true rfl) (fun X hX hN => ?_)
  show X 0 [_, _, none, none, none] [] N 1000000 g0
  obtain ⟨g, hgg⟩ : ∃ g, g = g0 := ⟨g0, rfl⟩
  rw [← hgg] at hm ⊢
  have hfr : frG g0 g o (o + 14) := by rw [hgg]; exact frG.rf
  obtain ⟨c0, c1, c2, c3, c4, c5, c6, c7, c8, c9, c10, c11, c12, c13⟩ := id hm
  have hP := w.1
  have hP5 := w.2.1
  have hok := wf_ok w
  refine ca_aload_n hX (q := 1) 0 rfl rfl rfl dX6_isDone_0 ?_
  refine ca_getf hX (q := 4) cl_X6 18 (by decide) w_fl_X6_46 (by omega) c0 rfl rfl dX6_isDone_1 ?_
  refine ca_iconst hX (q := 5) k_iconst_0 rfl dX6_isDone_4 ?_
  refine ca_iaN hX (q := 6) (k := 0) (by omega) c13 (by decide) rfl (by omega) rfl dX6_isDone_5 ?_
  refine ca_istore_n hX (q := 7) 2 rfl (ls' := [_, _, _, _, _]) (Nat.le_of_ble_eq_true rfl) (Nat.le_of_ble_eq_true rfl) (Or.inr rfl) rfl rfl dX6_isDone_6 ?_
  refine ca_aload_n hX (q := 8) 0 rfl rfl rfl dX6_isDone_7 ?_
  refine ca_getf hX (q := 11) cl_X6 18 (by decide) w_fl_X6_46 (by omega) c0 rfl rfl dX6_isDone_8 ?_
  refine ca_iconst hX (q := 12) k_iconst_1 rfl dX6_isDone_11 ?_
  refine ca_iaN hX (q := 13) (k := 1) (by omega) c13 (by decide) rfl (by omega) rfl dX6_isDone_12 ?_
  refine ca_aload_n hX (q := 14) 0 rfl rfl rfl dX6_isDone_13 ?_
  refine ca_getf hX (q := 17) cl_X6 18 (by decide) w_fl_X6_46 (by omega) c0 rfl rfl dX6_isDone_14 ?_
  refine ca_iconst hX (q := 18) k_iconst_2 rfl dX6_isDone_17 ?_
  refine ca_iaN hX (q := 19) (k := 2) (by omega) c13 (by decide) rfl (by omega) rfl dX6_isDone_18 ?_
  refine ca_icmp_gt hX (q := 22) 38 rfl rfl dX6_isDone_19 (fun b19 => ?_) (fun b19 => ?_)
  · refine ca_iconst hX (q := 39) k_iconst_0 rfl dX6_isDone_38 ?_
    refine ca_istore_n hX (q := 40) 3 rfl (ls' := [_, _, _, _, _]) (Nat.le_of_ble_eq_true rfl) (Nat.le_of_ble_eq_true rfl) (Or.inr rfl) rfl rfl dX6_isDone_39 ?_
    refine ca_iload_n hX (q := 41) 1 rfl rfl rfl dX6_isDone_40 ?_
    by_cases e41_107 : x1 = 107
    · refine ca_look hX (off := 178) 219 dX6_isDone_41 (by decide) (by rw [e41_107]; decide) rfl ?_
      have hk : kF (M 4) L pl = 3 := by show fmI (atM (M 4) L pl) = 3; rw [← hx1, e41_107]; rfl
      have hEs : stE (M 4) L pl (M 0) P = doK (M 0) P (dN (M 4) (pl + 1)) (pN (M 4) (pl + 2)) (pN (M 4) (pl + 4)) (dN (M 4) (pl + 6)) := by unfold stE; rw [hk]; rfl
      obtain ⟨n0, n1, n2, n3⟩ := hnu.2.2.2.1 hk
      rw [nu_1 (ok_dg ho2 hk 1 (by decide) (by decide) (by decide))] at n0
      rw [nu_2 (ok_dg ho2 hk 2 (by decide) (by decide) (by decide)) (ok_dg ho2 hk 3 (by decide) (by decide) (by decide))] at n1
      rw [nu_2 (ok_dg ho2 hk 4 (by decide) (by decide) (by decide)) (ok_dg ho2 hk 5 (by decide) (by decide) (by decide))] at n2
      rw [nu_1 (ok_dg ho2 hk 6 (by decide) (by decide) (by decide))] at n3
      have hp9 := (dg_N (ok_dg ho2 hk 1 (by decide) (by decide) (by decide))).2.2.1
      have ha9 := p_99 (ok_dg ho2 hk 2 (by decide) (by decide) (by decide)) (ok_dg ho2 hk 3 (by decide) (by decide) (by decide))
      have hb9 := p_99 (ok_dg ho2 hk 4 (by decide) (by decide) (by decide)) (ok_dg ho2 hk 5 (by decide) (by decide) (by decide))
      rw [n0]
      have hst : ¬ (pN (M 4) (pl + 2) ≤ pN (M 4) (pl + 4) ∧ pN (M 4) (pl + 4) < 25) := by rw [n1, n2] at b19; have := (nI_ltI (by omega) (by omega)).mp b19; omega
      refine ca_aload_n hX (q := 220) 0 rfl rfl rfl dX6_isDone_219 ?_
      refine ca_iload_n hX (q := 221) 2 rfl rfl rfl dX6_isDone_220 ?_
      refine ca_cVi hX (q := 224) y_X6_isPerson w_ml_X6_59 (by omega) hN c0 (c_R_isPerson l N g o M hm ho P hP hP5 _) (by decide) rfl (Nat.le_of_ble_eq_true rfl) rfl dX6_isDone_221 rfl ?_
      refine ca_if_eq hX (q := 227) 231 rfl rfl dX6_isDone_224 (fun b224 => ?_) (fun b224 => ?_)
      · have hst2 : ¬ (dN (M 4) (pl + 1) < P ∧ pN (M 4) (pl + 2) ≤ pN (M 4) (pl + 4) ∧ pN (M 4) (pl + 4) < 25) := fun z => by rw [hpB_ok hP hP5 z.1] at b224; exact absurd b224 (by decide)
        refine ca_iconst hX (q := 232) k_iconst_0 rfl dX6_isDone_231 ?_
        refine ca_zret hX rfl rfl rfl rfl rfl dX6_isDone_232 ?_
        exact ⟨hfr, Or.inr ⟨by rw [hEs, doK, if_neg (by first | exact hst2 | exact (fun z => hst z.2))], rfl, hm⟩⟩
      · have hpP : dN (M 4) (pl + 1) < P := Classical.byContradiction (fun z => b224 (by rw [hP]; exact hpB_no hP5 z (by omega)))
        refine ca_iload_n hX (q := 228) 3 rfl rfl rfl dX6_isDone_227 ?_
        refine ca_if_ne hX (q := 231) 233 rfl rfl dX6_isDone_228 (fun b228 => ?_) (fun b228 => ?_)
        · exact absurd rfl b228
        · refine ca_iconst hX (q := 232) k_iconst_0 rfl dX6_isDone_231 ?_
          refine ca_zret hX rfl rfl rfl rfl rfl dX6_isDone_232 ?_
          exact ⟨hfr, Or.inr ⟨by rw [hEs, doK, if_neg (by first | exact hst2 | exact (fun z => hst z.2))], rfl, hm⟩⟩
    by_cases e41_112 : x1 = 112
    · refine ca_look hX (off := 102) 143 dX6_isDone_41 (by decide) (by rw [e41_112]; decide) rfl ?_
      have hk : kF (M 4) L pl = 2 := by show fmI (atM (M 4) L pl) = 2; rw [← hx1, e41_112]; rfl
      have hEs : stE (M 4) L pl (M 0) P = doP (M 0) P (dN (M 4) (pl + 1)) := by unfold stE; rw [hk]; rfl
      have n0 := hnu.2.2.1 hk
      rw [nu_1 (ok_dg ho2 hk 1 (by decide) (by decide) (by decide))] at n0
      have hd9 := (dg_N (ok_dg ho2 hk 1 (by decide) (by decide) (by decide))).2.2.1
      rw [n0]
      refine ca_iload_n hX (q := 144) 2 rfl rfl rfl dX6_isDone_143 ?_
      refine ca_if_eq hX (q := 147) 157 rfl rfl dX6_isDone_144 (fun b144 => ?_) (fun b144 => ?_)
      · have hst : ¬ (1 ≤ dN (M 4) (pl + 1) ∧ P < 5) := by have := (nI_eq (b := 0) (by omega) (by omega)).mp b144; omega
        refine ca_iconst hX (q := 158) k_iconst_0 rfl dX6_isDone_157 ?_
        refine ca_zret hX rfl rfl rfl rfl rfl dX6_isDone_158 ?_
        exact ⟨hfr, Or.inr ⟨by rw [hEs, doP, if_neg hst], rfl, hm⟩⟩
      · have hd1 : ¬ dN (M 4) (pl + 1) = 0 := fun z => b144 (by rw [z]; rfl)
        refine ca_aload_n hX (q := 148) 0 rfl rfl rfl dX6_isDone_147 ?_
        refine ca_getf hX (q := 151) cl_X6 0 (by decide) w_fl_X6_9 (by omega) c0 rfl rfl dX6_isDone_148 ?_
        refine ca_iconst hX (q := 152) k_iconst_0 rfl dX6_isDone_151 ?_
        refine ca_iaN hX (q := 153) (k := 0) (by omega) c1 (by decide) rfl (by omega) rfl dX6_isDone_152 ?_
        refine ca_iconst hX (q := 154) k_iconst_5 rfl dX6_isDone_153 ?_
        rw [hP]
        refine ca_icmp_ne hX (q := 157) 159 rfl rfl dX6_isDone_154 (fun b154 => ?_) (fun b154 => ?_)
        · have hP4 : P < 5 := by
            have : P ≠ 5 := fun z => b154 (by rw [z]; rfl)
            omega
          refine ca_aload_n hX (q := 160) 0 rfl rfl rfl dX6_isDone_159 ?_
          refine ca_getf hX (q := 163) cl_X6 0 (by decide) w_fl_X6_9 (by omega) c0 rfl rfl dX6_isDone_160 ?_
          refine ca_bipush hX (q := 165) k_bipush_52 rfl dX6_isDone_163 ?_
          refine ca_aload_n hX (q := 166) 0 rfl rfl rfl dX6_isDone_165 ?_
          refine ca_getf hX (q := 169) cl_X6 0 (by decide) w_fl_X6_9 (by omega) c0 rfl rfl dX6_isDone_166 ?_
          refine ca_iconst hX (q := 170) k_iconst_0 rfl dX6_isDone_169 ?_
          refine ca_iaN hX (q := 171) (k := 0) (by omega) c1 (by decide) rfl (by omega) rfl dX6_isDone_170 ?_
          rw [hP]
          refine ca_iadd hX (q := 172) rfl dX6_isDone_171 ?_
          refine ca_iload_n hX (q := 173) 2 rfl rfl rfl dX6_isDone_172 ?_
          refine ca_iaS hX (q := 174) (k := 52 + P) (by omega) hN (Nat.le_refl _) c1 (by decide) (nI_add 52 P) (by omega) rfl dX6_isDone_173 (fun g hE hF => ?_)
          have hm := md_a0 hm hE hF
          obtain ⟨c0, c1, c2, c3, c4, c5, c6, c7, c8, c9, c10, c11, c12, c13⟩ := id hm
          have hfr := frG.tr hfr (fun j hj => hF j (by omega))
          have hE2 := hEs
          rw [upB_st, tkR_i] at hm
          have loop : ∀ (n i : Nat) (g1 : ca_G), i + n = 25 → mdG g1 o (stB M 0 (tkR (M 0) P (nI (dN (M 4) (pl + 1))) i)) → frG g0 g1 o (o + 14) → X 177 [some (.ref o), some (.int x1), some (.int (nI (dN (M 4) (pl + 1)))), some (.int 0), some (.int (nI i))] [] N 1000000 g1 := by
            intro n
            induction n with
            | zero =>
              intro i g  hi hm hfr
              have hib : i = 25 := by omega
              rw [hib]
              rw [hib] at hm
              obtain ⟨c0, c1, c2, c3, c4, c5, c6, c7, c8, c9, c10, c11, c12, c13⟩ := id hm
              refine ca_iload hX (q := 179) rfl rfl dX6_isDone_177 ?_
              refine ca_bipush hX (q := 181) k_bipush_25 rfl dX6_isDone_179 ?_
              refine ca_icmp_ge hX (q := 184) 207 rfl rfl dX6_isDone_181 (fun _ => ?_) (fun z => absurd (nI_le (a := 25) (b := 25) (by omega) (by omega)) z)
              refine ca_aload_n hX (q := 208) 0 rfl rfl rfl dX6_isDone_207 ?_
              refine ca_getf hX (q := 211) cl_X6 0 (by decide) w_fl_X6_9 (by omega) c0 rfl rfl dX6_isDone_208 ?_
              refine ca_iconst hX (q := 212) k_iconst_0 rfl dX6_isDone_211 ?_
              refine ca_dup2 hX (q := 213) rfl rfl rfl dX6_isDone_212 ?_
              refine ca_iaN hX (q := 214) (k := 0) (by omega) c1 (by decide) rfl (by omega) rfl dX6_isDone_213 ?_
              refine ca_iconst hX (q := 215) k_iconst_1 rfl dX6_isDone_214 ?_
              refine ca_iadd hX (q := 216) rfl dX6_isDone_215 ?_
              refine ca_iaS hX (q := 217) (k := 0) (by omega) hN (Nat.le_refl _) c1 (by decide) rfl (by omega) rfl dX6_isDone_216 (fun g hE hF => ?_)
              have hm := md_a0 hm hE hF
              obtain ⟨c0, c1, c2, c3, c4, c5, c6, c7, c8, c9, c10, c11, c12, c13⟩ := id hm
              have hfr := frG.tr hfr (fun j hj => hF j (by omega))
              refine ca_iconst hX (q := 218) k_iconst_1 rfl dX6_isDone_217 ?_
              refine ca_zret hX rfl rfl rfl rfl rfl dX6_isDone_218 ?_
              rw [show stB M 0 (tkR (M 0) P (nI (dN (M 4) (pl + 1))) 25) 0 0 + 1 = nI (P + 1) by rw [show stB M 0 (tkR (M 0) P (nI (dN (M 4) (pl + 1))) 25) 0 0 = nI P from (tkR_0 _ _ _ _).trans hP]; exact nI_add P 1, upB_st, st_s, st_st, tkR_e] at hm
              exact ⟨hfr, Or.inl ⟨_, _, by rw [hE2, doP, if_pos ⟨by omega, hP4⟩], rfl, hm⟩⟩
            | succ n ih =>
              intro i g  hi hm hfr
              obtain ⟨c0, c1, c2, c3, c4, c5, c6, c7, c8, c9, c10, c11, c12, c13⟩ := id hm
              refine ca_iload hX (q := 179) rfl rfl dX6_isDone_177 ?_
              refine ca_bipush hX (q := 181) k_bipush_25 rfl dX6_isDone_179 ?_
              refine ca_icmp_ge hX (q := 184) 207 rfl rfl dX6_isDone_181 (fun z => absurd z (nI_ge (a := i) (b := 25) (by omega) (by omega))) (fun _ => ?_)
              refine ca_aload_n hX (q := 185) 0 rfl rfl rfl dX6_isDone_184 ?_
              refine ca_getf hX (q := 188) cl_X6 0 (by decide) w_fl_X6_9 (by omega) c0 rfl rfl dX6_isDone_185 ?_
              refine ca_aload_n hX (q := 189) 0 rfl rfl rfl dX6_isDone_188 ?_
              refine ca_getf hX (q := 192) cl_X6 0 (by decide) w_fl_X6_9 (by omega) c0 rfl rfl dX6_isDone_189 ?_
              refine ca_iconst hX (q := 193) k_iconst_0 rfl dX6_isDone_192 ?_
              refine ca_iaN hX (q := 194) (k := 0) (by omega) c1 (by decide) rfl (by omega) rfl dX6_isDone_193 ?_
              refine ca_iload hX (q := 196) rfl rfl dX6_isDone_194 ?_
              rw [show stB M 0 (tkR (M 0) P (nI (dN (M 4) (pl + 1))) i) 0 0 = nI P from (tkR_0 _ _ _ _).trans hP]
              refine ca_cSi hX (q := 199) y_X6_known w_ml_X6_64 hN (c_X6_known l N g P i) (by decide) rfl (Nat.le_of_ble_eq_true rfl) rfl dX6_isDone_196 rfl ?_
              refine ca_iconst hX (q := 200) k_iconst_0 rfl dX6_isDone_199 ?_
              refine ca_iaS hX (q := 201) (k := 57 + (25 * P + i)) (by omega) hN (Nat.le_refl _) c1 (by decide) rfl (by omega) rfl dX6_isDone_200 (fun g hE hF => ?_)
              have hm := md_a0 hm hE hF
              obtain ⟨c0, c1, c2, c3, c4, c5, c6, c7, c8, c9, c10, c11, c12, c13⟩ := id hm
              have hfr := frG.tr hfr (fun j hj => hF j (by omega))
              refine ca_iinc hX (q := 204) (ls' := [_, _, _, _, _]) k_iconst_1 rfl (Nat.le_of_ble_eq_true rfl) (Or.inr rfl) rfl rfl dX6_isDone_201 ?_
              refine ca_goto hX 177 rfl dX6_isDone_204 ?_
              rw [upB_st, st_s, st_st, tkR_s _ _ _ _ hP4] at hm
              rw [nI_1]
              exact ih (i + 1) _ (by omega) hm hfr
          obtain ⟨c0, c1, c2, c3, c4, c5, c6, c7, c8, c9, c10, c11, c12, c13⟩ := id hm
          refine ca_iconst hX (q := 175) k_iconst_0 rfl dX6_isDone_174 ?_
          refine ca_istore hX (q := 177) (ls' := [_, _, _, _, _]) (Nat.le_of_ble_eq_true rfl) (Nat.le_of_ble_eq_true rfl) (Or.inr rfl) rfl rfl dX6_isDone_175 ?_
          exact loop 25 0 _ (by omega) hm hfr
        · have hst : ¬ (1 ≤ dN (M 4) (pl + 1) ∧ P < 5) := by have := (nI_eq (b := 5) (by omega) (by omega)).mp b154; omega
          refine ca_iconst hX (q := 158) k_iconst_0 rfl dX6_isDone_157 ?_
          refine ca_zret hX rfl rfl rfl rfl rfl dX6_isDone_158 ?_
          exact ⟨hfr, Or.inr ⟨by rw [hEs, doP, if_neg hst], rfl, hm⟩⟩
    by_cases e41_114 : x1 = 114
    · refine ca_look hX (off := 43) 84 dX6_isDone_41 (by decide) (by rw [e41_114]; decide) rfl ?_
      have hk : kF (M 4) L pl = 0 := by show fmI (atM (M 4) L pl) = 0; rw [← hx1, e41_114]; rfl
      have hEs : stE (M 4) L pl (M 0) P = doT (M 0) P (kdN (M 4) (pl + 1)) (pN (M 4) (pl + 2)) (pN (M 4) (pl + 2)) (dN (M 4) (pl + 4)) := by unfold stE; rw [hk]; rfl
      obtain ⟨n0, n1, n2, n3⟩ := hnu.1 hk
      rw [(ok_kd ho2 hk (by decide) (by decide) (by decide)).2.2.2.2, (ok_kd ho2 hk (by decide) (by decide) (by decide)).2.1] at n0
      rw [nu_2 (ok_dg ho2 hk 2 (by decide) (by decide) (by decide)) (ok_dg ho2 hk 3 (by decide) (by decide) (by decide))] at n1
      rw [nu_2 (ok_dg ho2 hk 2 (by decide) (by decide) (by decide)) (ok_dg ho2 hk 3 (by decide) (by decide) (by decide))] at n2
      rw [nu_1 (ok_dg ho2 hk 4 (by decide) (by decide) (by decide))] at n3
      have ha9 := p_99 (ok_dg ho2 hk 2 (by decide) (by decide) (by decide)) (ok_dg ho2 hk 3 (by decide) (by decide) (by decide))
      have hb9 := p_99 (ok_dg ho2 hk 2 (by decide) (by decide) (by decide)) (ok_dg ho2 hk 3 (by decide) (by decide) (by decide))
      rw [n0]
      have hst : ¬ (pN (M 4) (pl + 2) ≤ pN (M 4) (pl + 2) ∧ pN (M 4) (pl + 2) < 25) := by rw [n1, n2] at b19; have := (nI_ltI (by omega) (by omega)).mp b19; omega
      refine ca_iload_n hX (q := 85) 3 rfl rfl rfl dX6_isDone_84 ?_
      refine ca_if_ne hX (q := 88) 90 rfl rfl dX6_isDone_85 (fun b85 => ?_) (fun b85 => ?_)
      · exact absurd rfl b85
      · refine ca_iconst hX (q := 89) k_iconst_0 rfl dX6_isDone_88 ?_
        refine ca_zret hX rfl rfl rfl rfl rfl dX6_isDone_89 ?_
        exact ⟨hfr, Or.inr ⟨by rw [hEs, doT, if_neg hst], rfl, hm⟩⟩
    by_cases e41_118 : x1 = 118
    · refine ca_look hX (off := 43) 84 dX6_isDone_41 (by decide) (by rw [e41_118]; decide) rfl ?_
      have hk : kF (M 4) L pl = 1 := by show fmI (atM (M 4) L pl) = 1; rw [← hx1, e41_118]; rfl
      have hEs : stE (M 4) L pl (M 0) P = doT (M 0) P (kdN (M 4) (pl + 1)) (pN (M 4) (pl + 2)) (pN (M 4) (pl + 4)) (dN (M 4) (pl + 6)) := by unfold stE; rw [hk]; rfl
      obtain ⟨n0, n1, n2, n3⟩ := hnu.2.1 hk
      rw [(ok_kd ho2 hk (by decide) (by decide) (by decide)).2.2.2.2, (ok_kd ho2 hk (by decide) (by decide) (by decide)).2.1] at n0
      rw [nu_2 (ok_dg ho2 hk 2 (by decide) (by decide) (by decide)) (ok_dg ho2 hk 3 (by decide) (by decide) (by decide))] at n1
      rw [nu_2 (ok_dg ho2 hk 4 (by decide) (by decide) (by decide)) (ok_dg ho2 hk 5 (by decide) (by decide) (by decide))] at n2
      rw [nu_1 (ok_dg ho2 hk 6 (by decide) (by decide) (by decide))] at n3
      have ha9 := p_99 (ok_dg ho2 hk 2 (by decide) (by decide) (by decide)) (ok_dg ho2 hk 3 (by decide) (by decide) (by decide))
      have hb9 := p_99 (ok_dg ho2 hk 4 (by decide) (by decide) (by decide)) (ok_dg ho2 hk 5 (by decide) (by decide) (by decide))
      rw [n0]
      have hst : ¬ (pN (M 4) (pl + 2) ≤ pN (M 4) (pl + 4) ∧ pN (M 4) (pl + 4) < 25) := by rw [n1, n2] at b19; have := (nI_ltI (by omega) (by omega)).mp b19; omega
      refine ca_iload_n hX (q := 85) 3 rfl rfl rfl dX6_isDone_84 ?_
      refine ca_if_ne hX (q := 88) 90 rfl rfl dX6_isDone_85 (fun b85 => ?_) (fun b85 => ?_)
      · exact absurd rfl b85
      · refine ca_iconst hX (q := 89) k_iconst_0 rfl dX6_isDone_88 ?_
        refine ca_zret hX rfl rfl rfl rfl rfl dX6_isDone_89 ?_
        exact ⟨hfr, Or.inr ⟨by rw [hEs, doT, if_neg hst], rfl, hm⟩⟩
    refine ca_look hX (off := 236) 277 dX6_isDone_41 (by decide) (by have z0 := lv_neT (k := 107) (a := 107) e41_107 (by decide); have z1 := lv_neT (k := 112) (a := 112) e41_112 (by decide); have z2 := lv_neT (k := 114) (a := 114) e41_114 (by decide); have z3 := lv_neT (k := 118) (a := 118) e41_118 (by decide); simp [Op.lookupswitch.offset, Ne.symm z0, Ne.symm z1, Ne.symm z2, Ne.symm z3]) rfl ?_
    have hk : kF (M 4) L pl = 4 := by
      have h5 : kF (M 4) L pl ≠ 5 := fun z => absurd ho2.1 (by rw [z]; decide)
      have e : kF (M 4) L pl = fmI x1 := by rw [hx1]
      rw [e] at h5 ⊢
      unfold fmI at h5 ⊢
      rw [if_neg e41_107, if_neg e41_112, if_neg e41_114, if_neg e41_118] at h5
      rw [if_neg e41_107, if_neg e41_112, if_neg e41_114, if_neg e41_118]
      by_cases z : x1 = 110
      · rw [if_pos z]
      · rw [if_neg z] at h5; exact absurd rfl h5
    have hEs : stE (M 4) L pl (M 0) P = doN (M 0) P (pN (M 4) (pl + 1)) := by unfold stE; rw [hk]; rfl
    have n0 := hnu.2.2.2.2 hk
    rw [nu_2 (ok_dg ho2 hk 1 (by decide) (by decide) (by decide)) (ok_dg ho2 hk 2 (by decide) (by decide) (by decide))] at n0
    have hm9 := p_99 (ok_dg ho2 hk 1 (by decide) (by decide) (by decide)) (ok_dg ho2 hk 2 (by decide) (by decide) (by decide))
    rw [n0]
    refine ca_iload_n hX (q := 278) 2 rfl rfl rfl dX6_isDone_277 ?_
    refine ca_iconst hX (q := 279) k_iconst_1 rfl dX6_isDone_278 ?_
    refine ca_bipush hX (q := 281) k_bipush_60 rfl dX6_isDone_279 ?_
    refine ca_cSi hX (q := 284) y_X6_isIn w_ml_X6_55 hN (c_X6_isIn l N g _ 1 60) (by decide) rfl (Nat.le_of_ble_eq_true rfl) rfl dX6_isDone_281 rfl ?_
    refine ca_if_eq hX (q := 287) 301 rfl rfl dX6_isDone_284 (fun b284 => ?_) (fun b284 => ?_)
    · have hst : ¬ (1 ≤ (pN (M 4) (pl + 1)) ∧ (pN (M 4) (pl + 1)) ≤ 60 ∧ ¬ 999 < M 0 1 + nI (pN (M 4) (pl + 1))) := fun z => absurd b284 (by unfold inB; rw [if_neg (Int32.not_lt.mpr (show (1 : Int32) ≤ nI (pN (M 4) (pl + 1)) from (nI_leI (a := 1) (by omega) (by omega)).mpr z.1)), if_neg (Int32.not_lt.mpr (show nI (pN (M 4) (pl + 1)) ≤ 60 from (nI_leI (b := 60) (by omega) (by omega)).mpr z.2.1))]; decide)
      refine ca_iconst hX (q := 302) k_iconst_0 rfl dX6_isDone_301 ?_
      refine ca_zret hX rfl rfl rfl rfl rfl dX6_isDone_302 ?_
      exact ⟨hfr, Or.inr ⟨by rw [hEs, doN, if_neg hst], rfl, hm⟩⟩
    · have hin : 1 ≤ (pN (M 4) (pl + 1)) ∧ (pN (M 4) (pl + 1)) ≤ 60 := by
        unfold inB at b284
        by_cases z1 : nI (pN (M 4) (pl + 1)) < 1
        · rw [if_pos z1] at b284; exact absurd rfl b284
        · rw [if_neg z1] at b284
          by_cases z2 : 60 < nI (pN (M 4) (pl + 1))
          · rw [if_pos z2] at b284; exact absurd rfl b284
          · exact ⟨(nI_leI (a := 1) (by omega) (by omega)).mp (Int32.not_lt.mp z1), (nI_leI (b := 60) (by omega) (by omega)).mp (Int32.not_lt.mp z2)⟩
      refine ca_aload_n hX (q := 288) 0 rfl rfl rfl dX6_isDone_287 ?_
      refine ca_getf hX (q := 291) cl_X6 0 (by decide) w_fl_X6_9 (by omega) c0 rfl rfl dX6_isDone_288 ?_
      refine ca_iconst hX (q := 292) k_iconst_1 rfl dX6_isDone_291 ?_
      refine ca_iaN hX (q := 293) (k := 1) (by omega) c1 (by decide) rfl (by omega) rfl dX6_isDone_292 ?_
      refine ca_iload_n hX (q := 294) 2 rfl rfl rfl dX6_isDone_293 ?_
      refine ca_iadd hX (q := 295) rfl dX6_isDone_294 ?_
      refine ca_sipush hX (q := 298) k_sipush_999 rfl dX6_isDone_295 ?_
      refine ca_icmp_le hX (q := 301) 303 rfl rfl dX6_isDone_298 (fun b298 => ?_) (fun b298 => ?_)
      · have hst : 1 ≤ (pN (M 4) (pl + 1)) ∧ (pN (M 4) (pl + 1)) ≤ 60 ∧ ¬ 999 < M 0 1 + nI (pN (M 4) (pl + 1)) := ⟨hin.1, hin.2, Int32.not_lt.mpr b298⟩
        have hE2 := hEs
        have loop : ∀ (n i : Nat) (g1 : ca_G), i + n = (pN (M 4) (pl + 1)) → mdG g1 o (stB M 0 (pnM P (M 0) i)) → frG g0 g1 o (o + 14) → X 306 [some (.ref o), some (.int x1), some (.int (nI (pN (M 4) (pl + 1)))), some (.int 0), some (.int (nI i))] [] N 1000000 g1 := by
          intro n
          induction n with
          | zero =>
            intro i g  hi hm hfr
            have hib : i = (pN (M 4) (pl + 1)) := by omega
            rw [hib]
            obtain ⟨c0, c1, c2, c3, c4, c5, c6, c7, c8, c9, c10, c11, c12, c13⟩ := id hm
            refine ca_iload hX (q := 308) rfl rfl dX6_isDone_306 ?_
            refine ca_iload_n hX (q := 309) 2 rfl rfl rfl dX6_isDone_308 ?_
            refine ca_icmp_ge hX (q := 312) 325 rfl rfl dX6_isDone_309 (fun _ => ?_) (fun z => absurd (nI_le (Nat.le_refl _) (by omega)) z)
            refine ca_iconst hX (q := 326) k_iconst_1 rfl dX6_isDone_325 ?_
            refine ca_zret hX rfl rfl rfl rfl rfl dX6_isDone_326 ?_
            exact ⟨hfr, Or.inl ⟨_, _, by rw [hE2, doN, if_pos hst], rfl, by rw [hib] at hm; exact hm⟩⟩
          | succ n ih =>
            intro i g  hi hm hfr
            obtain ⟨c0, c1, c2, c3, c4, c5, c6, c7, c8, c9, c10, c11, c12, c13⟩ := id hm
            refine ca_iload hX (q := 308) rfl rfl dX6_isDone_306 ?_
            refine ca_iload_n hX (q := 309) 2 rfl rfl rfl dX6_isDone_308 ?_
            refine ca_icmp_ge hX (q := 312) 325 rfl rfl dX6_isDone_309 (fun z => absurd z (nI_ge (a := i) (b := (pN (M 4) (pl + 1))) (by omega) (by omega))) (fun _ => ?_)
            refine ca_aload_n hX (q := 313) 0 rfl rfl rfl dX6_isDone_312 ?_
            refine ca_getf hX (q := 316) cl_X6 0 (by decide) w_fl_X6_9 (by omega) c0 rfl rfl dX6_isDone_313 ?_
            refine ca_cS hX (q := 319) y_X6_night w_ml_X6_141 hN (c_X6_night l N g (o + 1) (pnM P (M 0) i) c1 (by omega) P (by rw [pnM_0]; exact hP) hP5 (fun p hp => by rw [pn_lo P (M 0) (by omega) (by omega)]; exact wf_sh w p hp)) (by decide) rfl (Nat.le_of_ble_eq_true rfl) rfl dX6_isDone_316 rfl ?_
            rintro _ g ⟨rfl, hE0, hF0⟩
            have hm := md_f0 hm hE0 hF0
            rw [st_st] at hm
            have hfr := hfr.tr (fun j hj => hF0 j (by omega))
            obtain ⟨c0, c1, c2, c3, c4, c5, c6, c7, c8, c9, c10, c11, c12, c13⟩ := id hm
            refine ca_iinc hX (q := 322) (ls' := [_, _, _, _, _]) k_iconst_1 rfl (Nat.le_of_ble_eq_true rfl) (Or.inr rfl) rfl rfl dX6_isDone_319 ?_
            refine ca_goto hX 306 rfl dX6_isDone_322 ?_
            rw [nI_1]
            exact ih (i + 1) _ (by omega) hm hfr
        refine ca_iconst hX (q := 304) k_iconst_0 rfl dX6_isDone_303 ?_
        refine ca_istore hX (q := 306) (ls' := [_, _, _, _, _]) (Nat.le_of_ble_eq_true rfl) (Nat.le_of_ble_eq_true rfl) (Or.inr rfl) rfl rfl dX6_isDone_304 ?_
        exact loop (pN (M 4) (pl + 1)) 0 _ (by omega) (by rw [show pnM P (M 0) 0 = M 0 from rfl, st_id]; exact hm) hfr
      · have hst : ¬ (1 ≤ (pN (M 4) (pl + 1)) ∧ (pN (M 4) (pl + 1)) ≤ 60 ∧ ¬ 999 < M 0 1 + nI (pN (M 4) (pl + 1))) := fun z => z.2.2 (Int32.not_le.mp b298)
        refine ca_iconst hX (q := 302) k_iconst_0 rfl dX6_isDone_301 ?_
        refine ca_zret hX rfl rfl rfl rfl rfl dX6_isDone_302 ?_
        exact ⟨hfr, Or.inr ⟨by rw [hEs, doN, if_neg hst], rfl, hm⟩⟩
  · refine ca_aload_n hX (q := 23) 0 rfl rfl rfl dX6_isDone_22 ?_
    refine ca_getf hX (q := 26) cl_X6 18 (by decide) w_fl_X6_46 (by omega) c0 rfl rfl dX6_isDone_23 ?_
    refine ca_iconst hX (q := 27) k_iconst_2 rfl dX6_isDone_26 ?_
    refine ca_iaN hX (q := 28) (k := 2) (by omega) c13 (by decide) rfl (by omega) rfl dX6_isDone_27 ?_
    refine ca_cSi hX (q := 31) y_X6_isRoom w_ml_X6_138 hN (c_R_isRoom l N g _) (by decide) rfl (Nat.le_of_ble_eq_true rfl) rfl dX6_isDone_28 rfl ?_
    refine ca_if_eq hX (q := 34) 38 rfl rfl dX6_isDone_31 (fun b31 => ?_) (fun b31 => ?_)
    · refine ca_iconst hX (q := 39) k_iconst_0 rfl dX6_isDone_38 ?_
      refine ca_istore_n hX (q := 40) 3 rfl (ls' := [_, _, _, _, _]) (Nat.le_of_ble_eq_true rfl) (Nat.le_of_ble_eq_true rfl) (Or.inr rfl) rfl rfl dX6_isDone_39 ?_
      refine ca_iload_n hX (q := 41) 1 rfl rfl rfl dX6_isDone_40 ?_
      by_cases e41_107 : x1 = 107
      · refine ca_look hX (off := 178) 219 dX6_isDone_41 (by decide) (by rw [e41_107]; decide) rfl ?_
        have hk : kF (M 4) L pl = 3 := by show fmI (atM (M 4) L pl) = 3; rw [← hx1, e41_107]; rfl
        have hEs : stE (M 4) L pl (M 0) P = doK (M 0) P (dN (M 4) (pl + 1)) (pN (M 4) (pl + 2)) (pN (M 4) (pl + 4)) (dN (M 4) (pl + 6)) := by unfold stE; rw [hk]; rfl
        obtain ⟨n0, n1, n2, n3⟩ := hnu.2.2.2.1 hk
        rw [nu_1 (ok_dg ho2 hk 1 (by decide) (by decide) (by decide))] at n0
        rw [nu_2 (ok_dg ho2 hk 2 (by decide) (by decide) (by decide)) (ok_dg ho2 hk 3 (by decide) (by decide) (by decide))] at n1
        rw [nu_2 (ok_dg ho2 hk 4 (by decide) (by decide) (by decide)) (ok_dg ho2 hk 5 (by decide) (by decide) (by decide))] at n2
        rw [nu_1 (ok_dg ho2 hk 6 (by decide) (by decide) (by decide))] at n3
        have hp9 := (dg_N (ok_dg ho2 hk 1 (by decide) (by decide) (by decide))).2.2.1
        have ha9 := p_99 (ok_dg ho2 hk 2 (by decide) (by decide) (by decide)) (ok_dg ho2 hk 3 (by decide) (by decide) (by decide))
        have hb9 := p_99 (ok_dg ho2 hk 4 (by decide) (by decide) (by decide)) (ok_dg ho2 hk 5 (by decide) (by decide) (by decide))
        rw [n0]
        have hst : ¬ (pN (M 4) (pl + 2) ≤ pN (M 4) (pl + 4) ∧ pN (M 4) (pl + 4) < 25) := fun z => by rw [n2, rmB_ok z.2] at b31; exact absurd b31 (by decide)
        refine ca_aload_n hX (q := 220) 0 rfl rfl rfl dX6_isDone_219 ?_
        refine ca_iload_n hX (q := 221) 2 rfl rfl rfl dX6_isDone_220 ?_
        refine ca_cVi hX (q := 224) y_X6_isPerson w_ml_X6_59 (by omega) hN c0 (c_R_isPerson l N g o M hm ho P hP hP5 _) (by decide) rfl (Nat.le_of_ble_eq_true rfl) rfl dX6_isDone_221 rfl ?_
        refine ca_if_eq hX (q := 227) 231 rfl rfl dX6_isDone_224 (fun b224 => ?_) (fun b224 => ?_)
        · have hst2 : ¬ (dN (M 4) (pl + 1) < P ∧ pN (M 4) (pl + 2) ≤ pN (M 4) (pl + 4) ∧ pN (M 4) (pl + 4) < 25) := fun z => by rw [hpB_ok hP hP5 z.1] at b224; exact absurd b224 (by decide)
          refine ca_iconst hX (q := 232) k_iconst_0 rfl dX6_isDone_231 ?_
          refine ca_zret hX rfl rfl rfl rfl rfl dX6_isDone_232 ?_
          exact ⟨hfr, Or.inr ⟨by rw [hEs, doK, if_neg (by first | exact hst2 | exact (fun z => hst z.2))], rfl, hm⟩⟩
        · have hpP : dN (M 4) (pl + 1) < P := Classical.byContradiction (fun z => b224 (by rw [hP]; exact hpB_no hP5 z (by omega)))
          refine ca_iload_n hX (q := 228) 3 rfl rfl rfl dX6_isDone_227 ?_
          refine ca_if_ne hX (q := 231) 233 rfl rfl dX6_isDone_228 (fun b228 => ?_) (fun b228 => ?_)
          · exact absurd rfl b228
          · refine ca_iconst hX (q := 232) k_iconst_0 rfl dX6_isDone_231 ?_
            refine ca_zret hX rfl rfl rfl rfl rfl dX6_isDone_232 ?_
            exact ⟨hfr, Or.inr ⟨by rw [hEs, doK, if_neg (by first | exact hst2 | exact (fun z => hst z.2))], rfl, hm⟩⟩
      by_cases e41_112 : x1 = 112
      · refine ca_look hX (off := 102) 143 dX6_isDone_41 (by decide) (by rw [e41_112]; decide) rfl ?_
        have hk : kF (M 4) L pl = 2 := by show fmI (atM (M 4) L pl) = 2; rw [← hx1, e41_112]; rfl
        have hEs : stE (M 4) L pl (M 0) P = doP (M 0) P (dN (M 4) (pl + 1)) := by unfold stE; rw [hk]; rfl
        have n0 := hnu.2.2.1 hk
        rw [nu_1 (ok_dg ho2 hk 1 (by decide) (by decide) (by decide))] at n0
        have hd9 := (dg_N (ok_dg ho2 hk 1 (by decide) (by decide) (by decide))).2.2.1
        rw [n0]
        refine ca_iload_n hX (q := 144) 2 rfl rfl rfl dX6_isDone_143 ?_
        refine ca_if_eq hX (q := 147) 157 rfl rfl dX6_isDone_144 (fun b144 => ?_) (fun b144 => ?_)
        · have hst : ¬ (1 ≤ dN (M 4) (pl + 1) ∧ P < 5) := by have := (nI_eq (b := 0) (by omega) (by omega)).mp b144; omega
          refine ca_iconst hX (q := 158) k_iconst_0 rfl dX6_isDone_157 ?_
          refine ca_zret hX rfl rfl rfl rfl rfl dX6_isDone_158 ?_
          exact ⟨hfr, Or.inr ⟨by rw [hEs, doP, if_neg hst], rfl, hm⟩⟩
        · have hd1 : ¬ dN (M 4) (pl + 1) = 0 := fun z => b144 (by rw [z]; rfl)
          refine ca_aload_n hX (q := 148) 0 rfl rfl rfl dX6_isDone_147 ?_
          refine ca_getf hX (q := 151) cl_X6 0 (by decide) w_fl_X6_9 (by omega) c0 rfl rfl dX6_isDone_148 ?_
          refine ca_iconst hX (q := 152) k_iconst_0 rfl dX6_isDone_151 ?_
          refine ca_iaN hX (q := 153) (k := 0) (by omega) c1 (by decide) rfl (by omega) rfl dX6_isDone_152 ?_
          refine ca_iconst hX (q := 154) k_iconst_5 rfl dX6_isDone_153 ?_
          rw [hP]
          refine ca_icmp_ne hX (q := 157) 159 rfl rfl dX6_isDone_154 (fun b154 => ?_) (fun b154 => ?_)
          · have hP4 : P < 5 := by
              have : P ≠ 5 := fun z => b154 (by rw [z]; rfl)
              omega
            refine ca_aload_n hX (q := 160) 0 rfl rfl rfl dX6_isDone_159 ?_
            refine ca_getf hX (q := 163) cl_X6 0 (by decide) w_fl_X6_9 (by omega) c0 rfl rfl dX6_isDone_160 ?_
            refine ca_bipush hX (q := 165) k_bipush_52 rfl dX6_isDone_163 ?_
            refine ca_aload_n hX (q := 166) 0 rfl rfl rfl dX6_isDone_165 ?_
            refine ca_getf hX (q := 169) cl_X6 0 (by decide) w_fl_X6_9 (by omega) c0 rfl rfl dX6_isDone_166 ?_
            refine ca_iconst hX (q := 170) k_iconst_0 rfl dX6_isDone_169 ?_
            refine ca_iaN hX (q := 171) (k := 0) (by omega) c1 (by decide) rfl (by omega) rfl dX6_isDone_170 ?_
            rw [hP]
            refine ca_iadd hX (q := 172) rfl dX6_isDone_171 ?_
            refine ca_iload_n hX (q := 173) 2 rfl rfl rfl dX6_isDone_172 ?_
            refine ca_iaS hX (q := 174) (k := 52 + P) (by omega) hN (Nat.le_refl _) c1 (by decide) (nI_add 52 P) (by omega) rfl dX6_isDone_173 (fun g hE hF => ?_)
            have hm := md_a0 hm hE hF
            obtain ⟨c0, c1, c2, c3, c4, c5, c6, c7, c8, c9, c10, c11, c12, c13⟩ := id hm
            have hfr := frG.tr hfr (fun j hj => hF j (by omega))
            have hE2 := hEs
            rw [upB_st, tkR_i] at hm
            have loop : ∀ (n i : Nat) (g1 : ca_G), i + n = 25 → mdG g1 o (stB M 0 (tkR (M 0) P (nI (dN (M 4) (pl + 1))) i)) → frG g0 g1 o (o + 14) → X 177 [some (.ref o), some (.int x1), some (.int (nI (dN (M 4) (pl + 1)))), some (.int 0), some (.int (nI i))] [] N 1000000 g1 := by
              intro n
              induction n with
              | zero =>
                intro i g  hi hm hfr
                have hib : i = 25 := by omega
                rw [hib]
                rw [hib] at hm
                obtain ⟨c0, c1, c2, c3, c4, c5, c6, c7, c8, c9, c10, c11, c12, c13⟩ := id hm
                refine ca_iload hX (q := 179) rfl rfl dX6_isDone_177 ?_
                refine ca_bipush hX (q := 181) k_bipush_25 rfl dX6_isDone_179 ?_
                refine ca_icmp_ge hX (q := 184) 207 rfl rfl dX6_isDone_181 (fun _ => ?_) (fun z => absurd (nI_le (a := 25) (b := 25) (by omega) (by omega)) z)
                refine ca_aload_n hX (q := 208) 0 rfl rfl rfl dX6_isDone_207 ?_
                refine ca_getf hX (q := 211) cl_X6 0 (by decide) w_fl_X6_9 (by omega) c0 rfl rfl dX6_isDone_208 ?_
                refine ca_iconst hX (q := 212) k_iconst_0 rfl dX6_isDone_211 ?_
                refine ca_dup2 hX (q := 213) rfl rfl rfl dX6_isDone_212 ?_
                refine ca_iaN hX (q := 214) (k := 0) (by omega) c1 (by decide) rfl (by omega) rfl dX6_isDone_213 ?_
                refine ca_iconst hX (q := 215) k_iconst_1 rfl dX6_isDone_214 ?_
                refine ca_iadd hX (q := 216) rfl dX6_isDone_215 ?_
                refine ca_iaS hX (q := 217) (k := 0) (by omega) hN (Nat.le_refl _) c1 (by decide) rfl (by omega) rfl dX6_isDone_216 (fun g hE hF => ?_)
                have hm := md_a0 hm hE hF
                obtain ⟨c0, c1, c2, c3, c4, c5, c6, c7, c8, c9, c10, c11, c12, c13⟩ := id hm
                have hfr := frG.tr hfr (fun j hj => hF j (by omega))
                refine ca_iconst hX (q := 218) k_iconst_1 rfl dX6_isDone_217 ?_
                refine ca_zret hX rfl rfl rfl rfl rfl dX6_isDone_218 ?_
                rw [show stB M 0 (tkR (M 0) P (nI (dN (M 4) (pl + 1))) 25) 0 0 + 1 = nI (P + 1) by rw [show stB M 0 (tkR (M 0) P (nI (dN (M 4) (pl + 1))) 25) 0 0 = nI P from (tkR_0 _ _ _ _).trans hP]; exact nI_add P 1, upB_st, st_s, st_st, tkR_e] at hm
                exact ⟨hfr, Or.inl ⟨_, _, by rw [hE2, doP, if_pos ⟨by omega, hP4⟩], rfl, hm⟩⟩
              | succ n ih =>
                intro i g  hi hm hfr
                obtain ⟨c0, c1, c2, c3, c4, c5, c6, c7, c8, c9, c10, c11, c12, c13⟩ := id hm
                refine ca_iload hX (q := 179) rfl rfl dX6_isDone_177 ?_
                refine ca_bipush hX (q := 181) k_bipush_25 rfl dX6_isDone_179 ?_
                refine ca_icmp_ge hX (q := 184) 207 rfl rfl dX6_isDone_181 (fun z => absurd z (nI_ge (a := i) (b := 25) (by omega) (by omega))) (fun _ => ?_)
                refine ca_aload_n hX (q := 185) 0 rfl rfl rfl dX6_isDone_184 ?_
                refine ca_getf hX (q := 188) cl_X6 0 (by decide) w_fl_X6_9 (by omega) c0 rfl rfl dX6_isDone_185 ?_
                refine ca_aload_n hX (q := 189) 0 rfl rfl rfl dX6_isDone_188 ?_
                refine ca_getf hX (q := 192) cl_X6 0 (by decide) w_fl_X6_9 (by omega) c0 rfl rfl dX6_isDone_189 ?_
                refine ca_iconst hX (q := 193) k_iconst_0 rfl dX6_isDone_192 ?_
                refine ca_iaN hX (q := 194) (k := 0) (by omega) c1 (by decide) rfl (by omega) rfl dX6_isDone_193 ?_
                refine ca_iload hX (q := 196) rfl rfl dX6_isDone_194 ?_
                rw [show stB M 0 (tkR (M 0) P (nI (dN (M 4) (pl + 1))) i) 0 0 = nI P from (tkR_0 _ _ _ _).trans hP]
                refine ca_cSi hX (q := 199) y_X6_known w_ml_X6_64 hN (c_X6_known l N g P i) (by decide) rfl (Nat.le_of_ble_eq_true rfl) rfl dX6_isDone_196 rfl ?_
                refine ca_iconst hX (q := 200) k_iconst_0 rfl dX6_isDone_199 ?_
                refine ca_iaS hX (q := 201) (k := 57 + (25 * P + i)) (by omega) hN (Nat.le_refl _) c1 (by decide) rfl (by omega) rfl dX6_isDone_200 (fun g hE hF => ?_)
                have hm := md_a0 hm hE hF
                obtain ⟨c0, c1, c2, c3, c4, c5, c6, c7, c8, c9, c10, c11, c12, c13⟩ := id hm
                have hfr := frG.tr hfr (fun j hj => hF j (by omega))
                refine ca_iinc hX (q := 204) (ls' := [_, _, _, _, _]) k_iconst_1 rfl (Nat.le_of_ble_eq_true rfl) (Or.inr rfl) rfl rfl dX6_isDone_201 ?_
                refine ca_goto hX 177 rfl dX6_isDone_204 ?_
                rw [upB_st, st_s, st_st, tkR_s _ _ _ _ hP4] at hm
                rw [nI_1]
                exact ih (i + 1) _ (by omega) hm hfr
            obtain ⟨c0, c1, c2, c3, c4, c5, c6, c7, c8, c9, c10, c11, c12, c13⟩ := id hm
            refine ca_iconst hX (q := 175) k_iconst_0 rfl dX6_isDone_174 ?_
            refine ca_istore hX (q := 177) (ls' := [_, _, _, _, _]) (Nat.le_of_ble_eq_true rfl) (Nat.le_of_ble_eq_true rfl) (Or.inr rfl) rfl rfl dX6_isDone_175 ?_
            exact loop 25 0 _ (by omega) hm hfr
          · have hst : ¬ (1 ≤ dN (M 4) (pl + 1) ∧ P < 5) := by have := (nI_eq (b := 5) (by omega) (by omega)).mp b154; omega
            refine ca_iconst hX (q := 158) k_iconst_0 rfl dX6_isDone_157 ?_
            refine ca_zret hX rfl rfl rfl rfl rfl dX6_isDone_158 ?_
            exact ⟨hfr, Or.inr ⟨by rw [hEs, doP, if_neg hst], rfl, hm⟩⟩
      by_cases e41_114 : x1 = 114
      · refine ca_look hX (off := 43) 84 dX6_isDone_41 (by decide) (by rw [e41_114]; decide) rfl ?_
        have hk : kF (M 4) L pl = 0 := by show fmI (atM (M 4) L pl) = 0; rw [← hx1, e41_114]; rfl
        have hEs : stE (M 4) L pl (M 0) P = doT (M 0) P (kdN (M 4) (pl + 1)) (pN (M 4) (pl + 2)) (pN (M 4) (pl + 2)) (dN (M 4) (pl + 4)) := by unfold stE; rw [hk]; rfl
        obtain ⟨n0, n1, n2, n3⟩ := hnu.1 hk
        rw [(ok_kd ho2 hk (by decide) (by decide) (by decide)).2.2.2.2, (ok_kd ho2 hk (by decide) (by decide) (by decide)).2.1] at n0
        rw [nu_2 (ok_dg ho2 hk 2 (by decide) (by decide) (by decide)) (ok_dg ho2 hk 3 (by decide) (by decide) (by decide))] at n1
        rw [nu_2 (ok_dg ho2 hk 2 (by decide) (by decide) (by decide)) (ok_dg ho2 hk 3 (by decide) (by decide) (by decide))] at n2
        rw [nu_1 (ok_dg ho2 hk 4 (by decide) (by decide) (by decide))] at n3
        have ha9 := p_99 (ok_dg ho2 hk 2 (by decide) (by decide) (by decide)) (ok_dg ho2 hk 3 (by decide) (by decide) (by decide))
        have hb9 := p_99 (ok_dg ho2 hk 2 (by decide) (by decide) (by decide)) (ok_dg ho2 hk 3 (by decide) (by decide) (by decide))
        rw [n0]
        have hst : ¬ (pN (M 4) (pl + 2) ≤ pN (M 4) (pl + 2) ∧ pN (M 4) (pl + 2) < 25) := fun z => by rw [n2, rmB_ok z.2] at b31; exact absurd b31 (by decide)
        refine ca_iload_n hX (q := 85) 3 rfl rfl rfl dX6_isDone_84 ?_
        refine ca_if_ne hX (q := 88) 90 rfl rfl dX6_isDone_85 (fun b85 => ?_) (fun b85 => ?_)
        · exact absurd rfl b85
        · refine ca_iconst hX (q := 89) k_iconst_0 rfl dX6_isDone_88 ?_
          refine ca_zret hX rfl rfl rfl rfl rfl dX6_isDone_89 ?_
          exact ⟨hfr, Or.inr ⟨by rw [hEs, doT, if_neg hst], rfl, hm⟩⟩
      by_cases e41_118 : x1 = 118
      · refine ca_look hX (off := 43) 84 dX6_isDone_41 (by decide) (by rw [e41_118]; decide) rfl ?_
        have hk : kF (M 4) L pl = 1 := by show fmI (atM (M 4) L pl) = 1; rw [← hx1, e41_118]; rfl
        have hEs : stE (M 4) L pl (M 0) P = doT (M 0) P (kdN (M 4) (pl + 1)) (pN (M 4) (pl + 2)) (pN (M 4) (pl + 4)) (dN (M 4) (pl + 6)) := by unfold stE; rw [hk]; rfl
        obtain ⟨n0, n1, n2, n3⟩ := hnu.2.1 hk
        rw [(ok_kd ho2 hk (by decide) (by decide) (by decide)).2.2.2.2, (ok_kd ho2 hk (by decide) (by decide) (by decide)).2.1] at n0
        rw [nu_2 (ok_dg ho2 hk 2 (by decide) (by decide) (by decide)) (ok_dg ho2 hk 3 (by decide) (by decide) (by decide))] at n1
        rw [nu_2 (ok_dg ho2 hk 4 (by decide) (by decide) (by decide)) (ok_dg ho2 hk 5 (by decide) (by decide) (by decide))] at n2
        rw [nu_1 (ok_dg ho2 hk 6 (by decide) (by decide) (by decide))] at n3
        have ha9 := p_99 (ok_dg ho2 hk 2 (by decide) (by decide) (by decide)) (ok_dg ho2 hk 3 (by decide) (by decide) (by decide))
        have hb9 := p_99 (ok_dg ho2 hk 4 (by decide) (by decide) (by decide)) (ok_dg ho2 hk 5 (by decide) (by decide) (by decide))
        rw [n0]
        have hst : ¬ (pN (M 4) (pl + 2) ≤ pN (M 4) (pl + 4) ∧ pN (M 4) (pl + 4) < 25) := fun z => by rw [n2, rmB_ok z.2] at b31; exact absurd b31 (by decide)
        refine ca_iload_n hX (q := 85) 3 rfl rfl rfl dX6_isDone_84 ?_
        refine ca_if_ne hX (q := 88) 90 rfl rfl dX6_isDone_85 (fun b85 => ?_) (fun b85 => ?_)
        · exact absurd rfl b85
        · refine ca_iconst hX (q := 89) k_iconst_0 rfl dX6_isDone_88 ?_
          refine ca_zret hX rfl rfl rfl rfl rfl dX6_isDone_89 ?_
          exact ⟨hfr, Or.inr ⟨by rw [hEs, doT, if_neg hst], rfl, hm⟩⟩
      refine ca_look hX (off := 236) 277 dX6_isDone_41 (by decide) (by have z0 := lv_neT (k := 107) (a := 107) e41_107 (by decide); have z1 := lv_neT (k := 112) (a := 112) e41_112 (by decide); have z2 := lv_neT (k := 114) (a := 114) e41_114 (by decide); have z3 := lv_neT (k := 118) (a := 118) e41_118 (by decide); simp [Op.lookupswitch.offset, Ne.symm z0, Ne.symm z1, Ne.symm z2, Ne.symm z3]) rfl ?_
      have hk : kF (M 4) L pl = 4 := by
        have h5 : kF (M 4) L pl ≠ 5 := fun z => absurd ho2.1 (by rw [z]; decide)
        have e : kF (M 4) L pl = fmI x1 := by rw [hx1]
        rw [e] at h5 ⊢
        unfold fmI at h5 ⊢
        rw [if_neg e41_107, if_neg e41_112, if_neg e41_114, if_neg e41_118] at h5
        rw [if_neg e41_107, if_neg e41_112, if_neg e41_114, if_neg e41_118]
        by_cases z : x1 = 110
        · rw [if_pos z]
        · rw [if_neg z] at h5; exact absurd rfl h5
      have hEs : stE (M 4) L pl (M 0) P = doN (M 0) P (pN (M 4) (pl + 1)) := by unfold stE; rw [hk]; rfl
      have n0 := hnu.2.2.2.2 hk
      rw [nu_2 (ok_dg ho2 hk 1 (by decide) (by decide) (by decide)) (ok_dg ho2 hk 2 (by decide) (by decide) (by decide))] at n0
      have hm9 := p_99 (ok_dg ho2 hk 1 (by decide) (by decide) (by decide)) (ok_dg ho2 hk 2 (by decide) (by decide) (by decide))
      rw [n0]
      refine ca_iload_n hX (q := 278) 2 rfl rfl rfl dX6_isDone_277 ?_
      refine ca_iconst hX (q := 279) k_iconst_1 rfl dX6_isDone_278 ?_
      refine ca_bipush hX (q := 281) k_bipush_60 rfl dX6_isDone_279 ?_
      refine ca_cSi hX (q := 284) y_X6_isIn w_ml_X6_55 hN (c_X6_isIn l N g _ 1 60) (by decide) rfl (Nat.le_of_ble_eq_true rfl) rfl dX6_isDone_281 rfl ?_
      refine ca_if_eq hX (q := 287) 301 rfl rfl dX6_isDone_284 (fun b284 => ?_) (fun b284 => ?_)
      · have hst : ¬ (1 ≤ (pN (M 4) (pl + 1)) ∧ (pN (M 4) (pl + 1)) ≤ 60 ∧ ¬ 999 < M 0 1 + nI (pN (M 4) (pl + 1))) := fun z => absurd b284 (by unfold inB; rw [if_neg (Int32.not_lt.mpr (show (1 : Int32) ≤ nI (pN (M 4) (pl + 1)) from (nI_leI (a := 1) (by omega) (by omega)).mpr z.1)), if_neg (Int32.not_lt.mpr (show nI (pN (M 4) (pl + 1)) ≤ 60 from (nI_leI (b := 60) (by omega) (by omega)).mpr z.2.1))]; decide)
        refine ca_iconst hX (q := 302) k_iconst_0 rfl dX6_isDone_301 ?_
        refine ca_zret hX rfl rfl rfl rfl rfl dX6_isDone_302 ?_
        exact ⟨hfr, Or.inr ⟨by rw [hEs, doN, if_neg hst], rfl, hm⟩⟩
      · have hin : 1 ≤ (pN (M 4) (pl + 1)) ∧ (pN (M 4) (pl + 1)) ≤ 60 := by
          unfold inB at b284
          by_cases z1 : nI (pN (M 4) (pl + 1)) < 1
          · rw [if_pos z1] at b284; exact absurd rfl b284
          · rw [if_neg z1] at b284
            by_cases z2 : 60 < nI (pN (M 4) (pl + 1))
            · rw [if_pos z2] at b284; exact absurd rfl b284
            · exact ⟨(nI_leI (a := 1) (by omega) (by omega)).mp (Int32.not_lt.mp z1), (nI_leI (b := 60) (by omega) (by omega)).mp (Int32.not_lt.mp z2)⟩
        refine ca_aload_n hX (q := 288) 0 rfl rfl rfl dX6_isDone_287 ?_
        refine ca_getf hX (q := 291) cl_X6 0 (by decide) w_fl_X6_9 (by omega) c0 rfl rfl dX6_isDone_288 ?_
        refine ca_iconst hX (q := 292) k_iconst_1 rfl dX6_isDone_291 ?_
        refine ca_iaN hX (q := 293) (k := 1) (by omega) c1 (by decide) rfl (by omega) rfl dX6_isDone_292 ?_
        refine ca_iload_n hX (q := 294) 2 rfl rfl rfl dX6_isDone_293 ?_
        refine ca_iadd hX (q := 295) rfl dX6_isDone_294 ?_
        refine ca_sipush hX (q := 298) k_sipush_999 rfl dX6_isDone_295 ?_
        refine ca_icmp_le hX (q := 301) 303 rfl rfl dX6_isDone_298 (fun b298 => ?_) (fun b298 => ?_)
        · have hst : 1 ≤ (pN (M 4) (pl + 1)) ∧ (pN (M 4) (pl + 1)) ≤ 60 ∧ ¬ 999 < M 0 1 + nI (pN (M 4) (pl + 1)) := ⟨hin.1, hin.2, Int32.not_lt.mpr b298⟩
          have hE2 := hEs
          have loop : ∀ (n i : Nat) (g1 : ca_G), i + n = (pN (M 4) (pl + 1)) → mdG g1 o (stB M 0 (pnM P (M 0) i)) → frG g0 g1 o (o + 14) → X 306 [some (.ref o), some (.int x1), some (.int (nI (pN (M 4) (pl + 1)))), some (.int 0), some (.int (nI i))] [] N 1000000 g1 := by
            intro n
            induction n with
            | zero =>
              intro i g  hi hm hfr
              have hib : i = (pN (M 4) (pl + 1)) := by omega
              rw [hib]
              obtain ⟨c0, c1, c2, c3, c4, c5, c6, c7, c8, c9, c10, c11, c12, c13⟩ := id hm
              refine ca_iload hX (q := 308) rfl rfl dX6_isDone_306 ?_
              refine ca_iload_n hX (q := 309) 2 rfl rfl rfl dX6_isDone_308 ?_
              refine ca_icmp_ge hX (q := 312) 325 rfl rfl dX6_isDone_309 (fun _ => ?_) (fun z => absurd (nI_le (Nat.le_refl _) (by omega)) z)
              refine ca_iconst hX (q := 326) k_iconst_1 rfl dX6_isDone_325 ?_
              refine ca_zret hX rfl rfl rfl rfl rfl dX6_isDone_326 ?_
              exact ⟨hfr, Or.inl ⟨_, _, by rw [hE2, doN, if_pos hst], rfl, by rw [hib] at hm; exact hm⟩⟩
            | succ n ih =>
              intro i g  hi hm hfr
              obtain ⟨c0, c1, c2, c3, c4, c5, c6, c7, c8, c9, c10, c11, c12, c13⟩ := id hm
              refine ca_iload hX (q := 308) rfl rfl dX6_isDone_306 ?_
              refine ca_iload_n hX (q := 309) 2 rfl rfl rfl dX6_isDone_308 ?_
              refine ca_icmp_ge hX (q := 312) 325 rfl rfl dX6_isDone_309 (fun z => absurd z (nI_ge (a := i) (b := (pN (M 4) (pl + 1))) (by omega) (by omega))) (fun _ => ?_)
              refine ca_aload_n hX (q := 313) 0 rfl rfl rfl dX6_isDone_312 ?_
              refine ca_getf hX (q := 316) cl_X6 0 (by decide) w_fl_X6_9 (by omega) c0 rfl rfl dX6_isDone_313 ?_
              refine ca_cS hX (q := 319) y_X6_night w_ml_X6_141 hN (c_X6_night l N g (o + 1) (pnM P (M 0) i) c1 (by omega) P (by rw [pnM_0]; exact hP) hP5 (fun p hp => by rw [pn_lo P (M 0) (by omega) (by omega)]; exact wf_sh w p hp)) (by decide) rfl (Nat.le_of_ble_eq_true rfl) rfl dX6_isDone_316 rfl ?_
              rintro _ g ⟨rfl, hE0, hF0⟩
              have hm := md_f0 hm hE0 hF0
              rw [st_st] at hm
              have hfr := hfr.tr (fun j hj => hF0 j (by omega))
              obtain ⟨c0, c1, c2, c3, c4, c5, c6, c7, c8, c9, c10, c11, c12, c13⟩ := id hm
              refine ca_iinc hX (q := 322) (ls' := [_, _, _, _, _]) k_iconst_1 rfl (Nat.le_of_ble_eq_true rfl) (Or.inr rfl) rfl rfl dX6_isDone_319 ?_
              refine ca_goto hX 306 rfl dX6_isDone_322 ?_
              rw [nI_1]
              exact ih (i + 1) _ (by omega) hm hfr
          refine ca_iconst hX (q := 304) k_iconst_0 rfl dX6_isDone_303 ?_
          refine ca_istore hX (q := 306) (ls' := [_, _, _, _, _]) (Nat.le_of_ble_eq_true rfl) (Nat.le_of_ble_eq_true rfl) (Or.inr rfl) rfl rfl dX6_isDone_304 ?_
          exact loop (pN (M 4) (pl + 1)) 0 _ (by omega) (by rw [show pnM P (M 0) 0 = M 0 from rfl, st_id]; exact hm) hfr
        · have hst : ¬ (1 ≤ (pN (M 4) (pl + 1)) ∧ (pN (M 4) (pl + 1)) ≤ 60 ∧ ¬ 999 < M 0 1 + nI (pN (M 4) (pl + 1))) := fun z => z.2.2 (Int32.not_le.mp b298)
          refine ca_iconst hX (q := 302) k_iconst_0 rfl dX6_isDone_301 ?_
          refine ca_zret hX rfl rfl rfl rfl rfl dX6_isDone_302 ?_
          exact ⟨hfr, Or.inr ⟨by rw [hEs, doN, if_neg hst], rfl, hm⟩⟩
    · refine ca_iconst hX (q := 35) k_iconst_1 rfl dX6_isDone_34 ?_
      refine ca_goto hX 39 rfl dX6_isDone_35 ?_
      refine ca_istore_n hX (q := 40) 3 rfl (ls' := [_, _, _, _, _]) (Nat.le_of_ble_eq_true rfl) (Nat.le_of_ble_eq_true rfl) (Or.inr rfl) rfl rfl dX6_isDone_39 ?_
      refine ca_iload_n hX (q := 41) 1 rfl rfl rfl dX6_isDone_40 ?_
      by_cases e41_107 : x1 = 107
      · refine ca_look hX (off := 178) 219 dX6_isDone_41 (by decide) (by rw [e41_107]; decide) rfl ?_
        have hk : kF (M 4) L pl = 3 := by show fmI (atM (M 4) L pl) = 3; rw [← hx1, e41_107]; rfl
        have hEs : stE (M 4) L pl (M 0) P = doK (M 0) P (dN (M 4) (pl + 1)) (pN (M 4) (pl + 2)) (pN (M 4) (pl + 4)) (dN (M 4) (pl + 6)) := by unfold stE; rw [hk]; rfl
        obtain ⟨n0, n1, n2, n3⟩ := hnu.2.2.2.1 hk
        rw [nu_1 (ok_dg ho2 hk 1 (by decide) (by decide) (by decide))] at n0
        rw [nu_2 (ok_dg ho2 hk 2 (by decide) (by decide) (by decide)) (ok_dg ho2 hk 3 (by decide) (by decide) (by decide))] at n1
        rw [nu_2 (ok_dg ho2 hk 4 (by decide) (by decide) (by decide)) (ok_dg ho2 hk 5 (by decide) (by decide) (by decide))] at n2
        rw [nu_1 (ok_dg ho2 hk 6 (by decide) (by decide) (by decide))] at n3
        have hp9 := (dg_N (ok_dg ho2 hk 1 (by decide) (by decide) (by decide))).2.2.1
        have ha9 := p_99 (ok_dg ho2 hk 2 (by decide) (by decide) (by decide)) (ok_dg ho2 hk 3 (by decide) (by decide) (by decide))
        have hb9 := p_99 (ok_dg ho2 hk 4 (by decide) (by decide) (by decide)) (ok_dg ho2 hk 5 (by decide) (by decide) (by decide))
        rw [n0]
        have hst : pN (M 4) (pl + 2) ≤ pN (M 4) (pl + 4) ∧ pN (M 4) (pl + 4) < 25 := by
          rw [n1, n2] at b19
          rw [n2] at b31
          have z1 := mt (nI_ltI (a := pN (M 4) (pl + 4)) (b := pN (M 4) (pl + 2)) (by omega) (by omega)).mpr b19
          obtain ⟨q, hq, eq⟩ := rm_ok b31
          have := (nI_eq (by omega) (by omega)).mp eq
          omega
        refine ca_aload_n hX (q := 220) 0 rfl rfl rfl dX6_isDone_219 ?_
        refine ca_iload_n hX (q := 221) 2 rfl rfl rfl dX6_isDone_220 ?_
        refine ca_cVi hX (q := 224) y_X6_isPerson w_ml_X6_59 (by omega) hN c0 (c_R_isPerson l N g o M hm ho P hP hP5 _) (by decide) rfl (Nat.le_of_ble_eq_true rfl) rfl dX6_isDone_221 rfl ?_
        refine ca_if_eq hX (q := 227) 231 rfl rfl dX6_isDone_224 (fun b224 => ?_) (fun b224 => ?_)
        · have hst2 : ¬ (dN (M 4) (pl + 1) < P ∧ pN (M 4) (pl + 2) ≤ pN (M 4) (pl + 4) ∧ pN (M 4) (pl + 4) < 25) := fun z => by rw [hpB_ok hP hP5 z.1] at b224; exact absurd b224 (by decide)
          refine ca_iconst hX (q := 232) k_iconst_0 rfl dX6_isDone_231 ?_
          refine ca_zret hX rfl rfl rfl rfl rfl dX6_isDone_232 ?_
          exact ⟨hfr, Or.inr ⟨by rw [hEs, doK, if_neg (by first | exact hst2 | exact (fun z => hst z.2))], rfl, hm⟩⟩
        · have hpP : dN (M 4) (pl + 1) < P := Classical.byContradiction (fun z => b224 (by rw [hP]; exact hpB_no hP5 z (by omega)))
          refine ca_iload_n hX (q := 228) 3 rfl rfl rfl dX6_isDone_227 ?_
          refine ca_if_ne hX (q := 231) 233 rfl rfl dX6_isDone_228 (fun b228 => ?_) (fun b228 => ?_)
          · refine ca_aload_n hX (q := 234) 0 rfl rfl rfl dX6_isDone_233 ?_
            refine ca_getf hX (q := 237) cl_X6 18 (by decide) w_fl_X6_46 (by omega) c0 rfl rfl dX6_isDone_234 ?_
            refine ca_iconst hX (q := 238) k_iconst_1 rfl dX6_isDone_237 ?_
            refine ca_iaN hX (q := 239) (k := 1) (by omega) c13 (by decide) rfl (by omega) rfl dX6_isDone_238 ?_
            have hE2 := hEs
            rw [n1]
            have loop : ∀ (n i : Nat) (g1 : ca_G), i + n = (pN (M 4) (pl + 4)) + 1 - (pN (M 4) (pl + 2)) → mdG g1 o (stB M 0 (lnM (M 0) (dN (M 4) (pl + 1)) (nI (dN (M 4) (pl + 6))) (pN (M 4) (pl + 2)) i)) → frG g0 g1 o (o + 14) → X 241 [some (.ref o), some (.int x1), some (.int (nI (dN (M 4) (pl + 1)))), some (.int 1), some (.int (nI ((pN (M 4) (pl + 2)) + i)))] [] N 1000000 g1 := by
              intro n
              induction n with
              | zero =>
                intro i g  hi hm hfr
                have hib : i = (pN (M 4) (pl + 4)) + 1 - (pN (M 4) (pl + 2)) := by omega
                rw [hib]
                obtain ⟨c0, c1, c2, c3, c4, c5, c6, c7, c8, c9, c10, c11, c12, c13⟩ := id hm
                refine ca_iload hX (q := 243) rfl rfl dX6_isDone_241 ?_
                refine ca_aload_n hX (q := 244) 0 rfl rfl rfl dX6_isDone_243 ?_
                refine ca_getf hX (q := 247) cl_X6 18 (by decide) w_fl_X6_46 (by omega) c0 rfl rfl dX6_isDone_244 ?_
                refine ca_iconst hX (q := 248) k_iconst_2 rfl dX6_isDone_247 ?_
                refine ca_iaN hX (q := 249) (k := 2) (by omega) c13 (by decide) rfl (by omega) rfl dX6_isDone_248 ?_
                rw [show stB M 0 (lnM (M 0) (dN (M 4) (pl + 1)) (nI (dN (M 4) (pl + 6))) (pN (M 4) (pl + 2)) i) 12 2 = nI (pN (M 4) (pl + 4)) from n2]
                refine ca_icmp_gt hX (q := 252) 275 rfl rfl dX6_isDone_249 (fun _ => ?_) (fun z => absurd ((nI_ltI (by omega) (by omega)).mpr (by omega)) z)
                refine ca_iconst hX (q := 276) k_iconst_1 rfl dX6_isDone_275 ?_
                refine ca_zret hX rfl rfl rfl rfl rfl dX6_isDone_276 ?_
                exact ⟨hfr, Or.inl ⟨_, _, by rw [hE2, doK, if_pos ⟨hpP, hst⟩], rfl, by rw [hib] at hm; exact hm⟩⟩
              | succ n ih =>
                intro i g  hi hm hfr
                obtain ⟨c0, c1, c2, c3, c4, c5, c6, c7, c8, c9, c10, c11, c12, c13⟩ := id hm
                refine ca_iload hX (q := 243) rfl rfl dX6_isDone_241 ?_
                refine ca_aload_n hX (q := 244) 0 rfl rfl rfl dX6_isDone_243 ?_
                refine ca_getf hX (q := 247) cl_X6 18 (by decide) w_fl_X6_46 (by omega) c0 rfl rfl dX6_isDone_244 ?_
                refine ca_iconst hX (q := 248) k_iconst_2 rfl dX6_isDone_247 ?_
                refine ca_iaN hX (q := 249) (k := 2) (by omega) c13 (by decide) rfl (by omega) rfl dX6_isDone_248 ?_
                rw [show stB M 0 (lnM (M 0) (dN (M 4) (pl + 1)) (nI (dN (M 4) (pl + 6))) (pN (M 4) (pl + 2)) i) 12 2 = nI (pN (M 4) (pl + 4)) from n2]
                refine ca_icmp_gt hX (q := 252) 275 rfl rfl dX6_isDone_249 (fun z => absurd z (fun z => absurd ((nI_ltI (a := (pN (M 4) (pl + 4))) (b := (pN (M 4) (pl + 2)) + i) (by omega) (by omega)).mp z) (by omega))) (fun _ => ?_)
                refine ca_aload_n hX (q := 253) 0 rfl rfl rfl dX6_isDone_252 ?_
                refine ca_getf hX (q := 256) cl_X6 0 (by decide) w_fl_X6_9 (by omega) c0 rfl rfl dX6_isDone_253 ?_
                refine ca_iload_n hX (q := 257) 2 rfl rfl rfl dX6_isDone_256 ?_
                refine ca_iload hX (q := 259) rfl rfl dX6_isDone_257 ?_
                refine ca_cSi hX (q := 262) y_X6_known w_ml_X6_64 hN (c_X6_known l N g (dN (M 4) (pl + 1)) ((pN (M 4) (pl + 2)) + i)) (by decide) rfl (Nat.le_of_ble_eq_true rfl) rfl dX6_isDone_259 rfl ?_
                refine ca_aload_n hX (q := 263) 0 rfl rfl rfl dX6_isDone_262 ?_
                refine ca_getf hX (q := 266) cl_X6 18 (by decide) w_fl_X6_46 (by omega) c0 rfl rfl dX6_isDone_263 ?_
                refine ca_iconst hX (q := 267) k_iconst_3 rfl dX6_isDone_266 ?_
                refine ca_iaN hX (q := 268) (k := 3) (by omega) c13 (by decide) rfl (by omega) rfl dX6_isDone_267 ?_
                refine ca_iaS hX (q := 269) (k := 57 + (25 * (dN (M 4) (pl + 1)) + ((pN (M 4) (pl + 2)) + i))) (by omega) hN (Nat.le_refl _) c1 (by decide) rfl (by omega) rfl dX6_isDone_268 (fun g hE hF => ?_)
                have hm := md_a0 hm hE hF
                obtain ⟨c0, c1, c2, c3, c4, c5, c6, c7, c8, c9, c10, c11, c12, c13⟩ := id hm
                have hfr := frG.tr hfr (fun j hj => hF j (by omega))
                refine ca_iinc hX (q := 272) (ls' := [_, _, _, _, _]) k_iconst_1 rfl (Nat.le_of_ble_eq_true rfl) (Or.inr rfl) rfl rfl dX6_isDone_269 ?_
                refine ca_goto hX 241 rfl dX6_isDone_272 ?_
                have hm : mdG g o (upB (stB M 0 (lnM (M 0) (dN (M 4) (pl + 1)) (nI (dN (M 4) (pl + 6))) (pN (M 4) (pl + 2)) i)) 0 (57 + (25 * (dN (M 4) (pl + 1)) + ((pN (M 4) (pl + 2)) + i))) (M 12 3)) := hm
                rw [upB_st, st_s, st_st, n3] at hm
                rw [show nI ((pN (M 4) (pl + 2)) + i) + 1 = nI ((pN (M 4) (pl + 2)) + (i + 1)) from nI_add _ 1]
                exact ih (i + 1) _ (by omega) hm hfr
            refine ca_istore hX (q := 241) (ls' := [_, _, _, _, _]) (Nat.le_of_ble_eq_true rfl) (Nat.le_of_ble_eq_true rfl) (Or.inr rfl) rfl rfl dX6_isDone_239 ?_
            exact loop ((pN (M 4) (pl + 4)) + 1 - (pN (M 4) (pl + 2))) 0 _ (by omega) (by rw [show (lnM (M 0) (dN (M 4) (pl + 1)) (nI (dN (M 4) (pl + 6))) (pN (M 4) (pl + 2)) 0) = M 0 from rfl, st_id]; exact hm) hfr
          · exact absurd b228 (by decide)
      by_cases e41_112 : x1 = 112
      · refine ca_look hX (off := 102) 143 dX6_isDone_41 (by decide) (by rw [e41_112]; decide) rfl ?_
        have hk : kF (M 4) L pl = 2 := by show fmI (atM (M 4) L pl) = 2; rw [← hx1, e41_112]; rfl
        have hEs : stE (M 4) L pl (M 0) P = doP (M 0) P (dN (M 4) (pl + 1)) := by unfold stE; rw [hk]; rfl
        have n0 := hnu.2.2.1 hk
        rw [nu_1 (ok_dg ho2 hk 1 (by decide) (by decide) (by decide))] at n0
        have hd9 := (dg_N (ok_dg ho2 hk 1 (by decide) (by decide) (by decide))).2.2.1
        rw [n0]
        refine ca_iload_n hX (q := 144) 2 rfl rfl rfl dX6_isDone_143 ?_
        refine ca_if_eq hX (q := 147) 157 rfl rfl dX6_isDone_144 (fun b144 => ?_) (fun b144 => ?_)
        · have hst : ¬ (1 ≤ dN (M 4) (pl + 1) ∧ P < 5) := by have := (nI_eq (b := 0) (by omega) (by omega)).mp b144; omega
          refine ca_iconst hX (q := 158) k_iconst_0 rfl dX6_isDone_157 ?_
          refine ca_zret hX rfl rfl rfl rfl rfl dX6_isDone_158 ?_
          exact ⟨hfr, Or.inr ⟨by rw [hEs, doP, if_neg hst], rfl, hm⟩⟩
        · have hd1 : ¬ dN (M 4) (pl + 1) = 0 := fun z => b144 (by rw [z]; rfl)
          refine ca_aload_n hX (q := 148) 0 rfl rfl rfl dX6_isDone_147 ?_
          refine ca_getf hX (q := 151) cl_X6 0 (by decide) w_fl_X6_9 (by omega) c0 rfl rfl dX6_isDone_148 ?_
          refine ca_iconst hX (q := 152) k_iconst_0 rfl dX6_isDone_151 ?_
          refine ca_iaN hX (q := 153) (k := 0) (by omega) c1 (by decide) rfl (by omega) rfl dX6_isDone_152 ?_
          refine ca_iconst hX (q := 154) k_iconst_5 rfl dX6_isDone_153 ?_
          rw [hP]
          refine ca_icmp_ne hX (q := 157) 159 rfl rfl dX6_isDone_154 (fun b154 => ?_) (fun b154 => ?_)
          · have hP4 : P < 5 := by
              have : P ≠ 5 := fun z => b154 (by rw [z]; rfl)
              omega
            refine ca_aload_n hX (q := 160) 0 rfl rfl rfl dX6_isDone_159 ?_
            refine ca_getf hX (q := 163) cl_X6 0 (by decide) w_fl_X6_9 (by omega) c0 rfl rfl dX6_isDone_160 ?_
            refine ca_bipush hX (q := 165) k_bipush_52 rfl dX6_isDone_163 ?_
            refine ca_aload_n hX (q := 166) 0 rfl rfl rfl dX6_isDone_165 ?_
            refine ca_getf hX (q := 169) cl_X6 0 (by decide) w_fl_X6_9 (by omega) c0 rfl rfl dX6_isDone_166 ?_
            refine ca_iconst hX (q := 170) k_iconst_0 rfl dX6_isDone_169 ?_
            refine ca_iaN hX (q := 171) (k := 0) (by omega) c1 (by decide) rfl (by omega) rfl dX6_isDone_170 ?_
            rw [hP]
            refine ca_iadd hX (q := 172) rfl dX6_isDone_171 ?_
            refine ca_iload_n hX (q := 173) 2 rfl rfl rfl dX6_isDone_172 ?_
            refine ca_iaS hX (q := 174) (k := 52 + P) (by omega) hN (Nat.le_refl _) c1 (by decide) (nI_add 52 P) (by omega) rfl dX6_isDone_173 (fun g hE hF => ?_)
            have hm := md_a0 hm hE hF
            obtain ⟨c0, c1, c2, c3, c4, c5, c6, c7, c8, c9, c10, c11, c12, c13⟩ := id hm
            have hfr := frG.tr hfr (fun j hj => hF j (by omega))
            have hE2 := hEs
            rw [upB_st, tkR_i] at hm
            have loop : ∀ (n i : Nat) (g1 : ca_G), i + n = 25 → mdG g1 o (stB M 0 (tkR (M 0) P (nI (dN (M 4) (pl + 1))) i)) → frG g0 g1 o (o + 14) → X 177 [some (.ref o), some (.int x1), some (.int (nI (dN (M 4) (pl + 1)))), some (.int 1), some (.int (nI i))] [] N 1000000 g1 := by
              intro n
              induction n with
              | zero =>
                intro i g  hi hm hfr
                have hib : i = 25 := by omega
                rw [hib]
                rw [hib] at hm
                obtain ⟨c0, c1, c2, c3, c4, c5, c6, c7, c8, c9, c10, c11, c12, c13⟩ := id hm
                refine ca_iload hX (q := 179) rfl rfl dX6_isDone_177 ?_
                refine ca_bipush hX (q := 181) k_bipush_25 rfl dX6_isDone_179 ?_
                refine ca_icmp_ge hX (q := 184) 207 rfl rfl dX6_isDone_181 (fun _ => ?_) (fun z => absurd (nI_le (a := 25) (b := 25) (by omega) (by omega)) z)
                refine ca_aload_n hX (q := 208) 0 rfl rfl rfl dX6_isDone_207 ?_
                refine ca_getf hX (q := 211) cl_X6 0 (by decide) w_fl_X6_9 (by omega) c0 rfl rfl dX6_isDone_208 ?_
                refine ca_iconst hX (q := 212) k_iconst_0 rfl dX6_isDone_211 ?_
                refine ca_dup2 hX (q := 213) rfl rfl rfl dX6_isDone_212 ?_
                refine ca_iaN hX (q := 214) (k := 0) (by omega) c1 (by decide) rfl (by omega) rfl dX6_isDone_213 ?_
                refine ca_iconst hX (q := 215) k_iconst_1 rfl dX6_isDone_214 ?_
                refine ca_iadd hX (q := 216) rfl dX6_isDone_215 ?_
                refine ca_iaS hX (q := 217) (k := 0) (by omega) hN (Nat.le_refl _) c1 (by decide) rfl (by omega) rfl dX6_isDone_216 (fun g hE hF => ?_)
                have hm := md_a0 hm hE hF
                obtain ⟨c0, c1, c2, c3, c4, c5, c6, c7, c8, c9, c10, c11, c12, c13⟩ := id hm
                have hfr := frG.tr hfr (fun j hj => hF j (by omega))
                refine ca_iconst hX (q := 218) k_iconst_1 rfl dX6_isDone_217 ?_
                refine ca_zret hX rfl rfl rfl rfl rfl dX6_isDone_218 ?_
                rw [show stB M 0 (tkR (M 0) P (nI (dN (M 4) (pl + 1))) 25) 0 0 + 1 = nI (P + 1) by rw [show stB M 0 (tkR (M 0) P (nI (dN (M 4) (pl + 1))) 25) 0 0 = nI P from (tkR_0 _ _ _ _).trans hP]; exact nI_add P 1, upB_st, st_s, st_st, tkR_e] at hm
                exact ⟨hfr, Or.inl ⟨_, _, by rw [hE2, doP, if_pos ⟨by omega, hP4⟩], rfl, hm⟩⟩
              | succ n ih =>
                intro i g  hi hm hfr
                obtain ⟨c0, c1, c2, c3, c4, c5, c6, c7, c8, c9, c10, c11, c12, c13⟩ := id hm
                refine ca_iload hX (q := 179) rfl rfl dX6_isDone_177 ?_
                refine ca_bipush hX (q := 181) k_bipush_25 rfl dX6_isDone_179 ?_
                refine ca_icmp_ge hX (q := 184) 207 rfl rfl dX6_isDone_181 (fun z => absurd z (nI_ge (a := i) (b := 25) (by omega) (by omega))) (fun _ => ?_)
                refine ca_aload_n hX (q := 185) 0 rfl rfl rfl dX6_isDone_184 ?_
                refine ca_getf hX (q := 188) cl_X6 0 (by decide) w_fl_X6_9 (by omega) c0 rfl rfl dX6_isDone_185 ?_
                refine ca_aload_n hX (q := 189) 0 rfl rfl rfl dX6_isDone_188 ?_
                refine ca_getf hX (q := 192) cl_X6 0 (by decide) w_fl_X6_9 (by omega) c0 rfl rfl dX6_isDone_189 ?_
                refine ca_iconst hX (q := 193) k_iconst_0 rfl dX6_isDone_192 ?_
                refine ca_iaN hX (q := 194) (k := 0) (by omega) c1 (by decide) rfl (by omega) rfl dX6_isDone_193 ?_
                refine ca_iload hX (q := 196) rfl rfl dX6_isDone_194 ?_
                rw [show stB M 0 (tkR (M 0) P (nI (dN (M 4) (pl + 1))) i) 0 0 = nI P from (tkR_0 _ _ _ _).trans hP]
                refine ca_cSi hX (q := 199) y_X6_known w_ml_X6_64 hN (c_X6_known l N g P i) (by decide) rfl (Nat.le_of_ble_eq_true rfl) rfl dX6_isDone_196 rfl ?_
                refine ca_iconst hX (q := 200) k_iconst_0 rfl dX6_isDone_199 ?_
                refine ca_iaS hX (q := 201) (k := 57 + (25 * P + i)) (by omega) hN (Nat.le_refl _) c1 (by decide) rfl (by omega) rfl dX6_isDone_200 (fun g hE hF => ?_)
                have hm := md_a0 hm hE hF
                obtain ⟨c0, c1, c2, c3, c4, c5, c6, c7, c8, c9, c10, c11, c12, c13⟩ := id hm
                have hfr := frG.tr hfr (fun j hj => hF j (by omega))
                refine ca_iinc hX (q := 204) (ls' := [_, _, _, _, _]) k_iconst_1 rfl (Nat.le_of_ble_eq_true rfl) (Or.inr rfl) rfl rfl dX6_isDone_201 ?_
                refine ca_goto hX 177 rfl dX6_isDone_204 ?_
                rw [upB_st, st_s, st_st, tkR_s _ _ _ _ hP4] at hm
                rw [nI_1]
                exact ih (i + 1) _ (by omega) hm hfr
            obtain ⟨c0, c1, c2, c3, c4, c5, c6, c7, c8, c9, c10, c11, c12, c13⟩ := id hm
            refine ca_iconst hX (q := 175) k_iconst_0 rfl dX6_isDone_174 ?_
            refine ca_istore hX (q := 177) (ls' := [_, _, _, _, _]) (Nat.le_of_ble_eq_true rfl) (Nat.le_of_ble_eq_true rfl) (Or.inr rfl) rfl rfl dX6_isDone_175 ?_
            exact loop 25 0 _ (by omega) hm hfr
          · have hst : ¬ (1 ≤ dN (M 4) (pl + 1) ∧ P < 5) := by have := (nI_eq (b := 5) (by omega) (by omega)).mp b154; omega
            refine ca_iconst hX (q := 158) k_iconst_0 rfl dX6_isDone_157 ?_
            refine ca_zret hX rfl rfl rfl rfl rfl dX6_isDone_158 ?_
            exact ⟨hfr, Or.inr ⟨by rw [hEs, doP, if_neg hst], rfl, hm⟩⟩
      by_cases e41_114 : x1 = 114
      · refine ca_look hX (off := 43) 84 dX6_isDone_41 (by decide) (by rw [e41_114]; decide) rfl ?_
        have hk : kF (M 4) L pl = 0 := by show fmI (atM (M 4) L pl) = 0; rw [← hx1, e41_114]; rfl
        have hEs : stE (M 4) L pl (M 0) P = doT (M 0) P (kdN (M 4) (pl + 1)) (pN (M 4) (pl + 2)) (pN (M 4) (pl + 2)) (dN (M 4) (pl + 4)) := by unfold stE; rw [hk]; rfl
        obtain ⟨n0, n1, n2, n3⟩ := hnu.1 hk
        rw [(ok_kd ho2 hk (by decide) (by decide) (by decide)).2.2.2.2, (ok_kd ho2 hk (by decide) (by decide) (by decide)).2.1] at n0
        rw [nu_2 (ok_dg ho2 hk 2 (by decide) (by decide) (by decide)) (ok_dg ho2 hk 3 (by decide) (by decide) (by decide))] at n1
        rw [nu_2 (ok_dg ho2 hk 2 (by decide) (by decide) (by decide)) (ok_dg ho2 hk 3 (by decide) (by decide) (by decide))] at n2
        rw [nu_1 (ok_dg ho2 hk 4 (by decide) (by decide) (by decide))] at n3
        have ha9 := p_99 (ok_dg ho2 hk 2 (by decide) (by decide) (by decide)) (ok_dg ho2 hk 3 (by decide) (by decide) (by decide))
        have hb9 := p_99 (ok_dg ho2 hk 2 (by decide) (by decide) (by decide)) (ok_dg ho2 hk 3 (by decide) (by decide) (by decide))
        rw [n0]
        have hst : pN (M 4) (pl + 2) ≤ pN (M 4) (pl + 2) ∧ pN (M 4) (pl + 2) < 25 := by
          rw [n1, n2] at b19
          rw [n2] at b31
          have z1 := mt (nI_ltI (a := pN (M 4) (pl + 2)) (b := pN (M 4) (pl + 2)) (by omega) (by omega)).mpr b19
          obtain ⟨q, hq, eq⟩ := rm_ok b31
          have := (nI_eq (by omega) (by omega)).mp eq
          omega
        refine ca_iload_n hX (q := 85) 3 rfl rfl rfl dX6_isDone_84 ?_
        refine ca_if_ne hX (q := 88) 90 rfl rfl dX6_isDone_85 (fun b85 => ?_) (fun b85 => ?_)
        · refine ca_aload_n hX (q := 91) 0 rfl rfl rfl dX6_isDone_90 ?_
          refine ca_getf hX (q := 94) cl_X6 18 (by decide) w_fl_X6_46 (by omega) c0 rfl rfl dX6_isDone_91 ?_
          refine ca_iconst hX (q := 95) k_iconst_1 rfl dX6_isDone_94 ?_
          refine ca_iaN hX (q := 96) (k := 1) (by omega) c13 (by decide) rfl (by omega) rfl dX6_isDone_95 ?_
          have hE2 := hEs
          rw [n1]
          have loop : ∀ (n i : Nat) (g1 : ca_G), i + n = (pN (M 4) (pl + 2)) + 1 - (pN (M 4) (pl + 2)) → mdG g1 o (stB M 0 (thM (M 0) (nI (kdN (M 4) (pl + 1))) (nI (dN (M 4) (pl + 4))) (pN (M 4) (pl + 2)) i)) → frG g0 g1 o (o + 14) → X 98 [some (.ref o), some (.int x1), some (.int (nI (kdN (M 4) (pl + 1)))), some (.int 1), some (.int (nI ((pN (M 4) (pl + 2)) + i)))] [] N 1000000 g1 := by
            intro n
            induction n with
            | zero =>
              intro i g  hi hm hfr
              have hib : i = (pN (M 4) (pl + 2)) + 1 - (pN (M 4) (pl + 2)) := by omega
              rw [hib]
              obtain ⟨c0, c1, c2, c3, c4, c5, c6, c7, c8, c9, c10, c11, c12, c13⟩ := id hm
              refine ca_iload hX (q := 100) rfl rfl dX6_isDone_98 ?_
              refine ca_aload_n hX (q := 101) 0 rfl rfl rfl dX6_isDone_100 ?_
              refine ca_getf hX (q := 104) cl_X6 18 (by decide) w_fl_X6_46 (by omega) c0 rfl rfl dX6_isDone_101 ?_
              refine ca_iconst hX (q := 105) k_iconst_2 rfl dX6_isDone_104 ?_
              refine ca_iaN hX (q := 106) (k := 2) (by omega) c13 (by decide) rfl (by omega) rfl dX6_isDone_105 ?_
              rw [show stB M 0 (thM (M 0) (nI (kdN (M 4) (pl + 1))) (nI (dN (M 4) (pl + 4))) (pN (M 4) (pl + 2)) i) 12 2 = nI (pN (M 4) (pl + 2)) from n2]
              refine ca_icmp_gt hX (q := 109) 141 rfl rfl dX6_isDone_106 (fun _ => ?_) (fun z => absurd ((nI_ltI (by omega) (by omega)).mpr (by omega)) z)
              refine ca_iconst hX (q := 142) k_iconst_1 rfl dX6_isDone_141 ?_
              refine ca_zret hX rfl rfl rfl rfl rfl dX6_isDone_142 ?_
              exact ⟨hfr, Or.inl ⟨_, _, by rw [hE2, doT, if_pos hst], rfl, by rw [hib] at hm; exact hm⟩⟩
            | succ n ih =>
              intro i g  hi hm hfr
              obtain ⟨c0, c1, c2, c3, c4, c5, c6, c7, c8, c9, c10, c11, c12, c13⟩ := id hm
              refine ca_iload hX (q := 100) rfl rfl dX6_isDone_98 ?_
              refine ca_aload_n hX (q := 101) 0 rfl rfl rfl dX6_isDone_100 ?_
              refine ca_getf hX (q := 104) cl_X6 18 (by decide) w_fl_X6_46 (by omega) c0 rfl rfl dX6_isDone_101 ?_
              refine ca_iconst hX (q := 105) k_iconst_2 rfl dX6_isDone_104 ?_
              refine ca_iaN hX (q := 106) (k := 2) (by omega) c13 (by decide) rfl (by omega) rfl dX6_isDone_105 ?_
              rw [show stB M 0 (thM (M 0) (nI (kdN (M 4) (pl + 1))) (nI (dN (M 4) (pl + 4))) (pN (M 4) (pl + 2)) i) 12 2 = nI (pN (M 4) (pl + 2)) from n2]
              refine ca_icmp_gt hX (q := 109) 141 rfl rfl dX6_isDone_106 (fun z => absurd z (fun z => absurd ((nI_ltI (a := (pN (M 4) (pl + 2))) (b := (pN (M 4) (pl + 2)) + i) (by omega) (by omega)).mp z) (by omega))) (fun _ => ?_)
              refine ca_aload_n hX (q := 110) 0 rfl rfl rfl dX6_isDone_109 ?_
              refine ca_getf hX (q := 113) cl_X6 0 (by decide) w_fl_X6_9 (by omega) c0 rfl rfl dX6_isDone_110 ?_
              refine ca_iconst hX (q := 114) k_iconst_2 rfl dX6_isDone_113 ?_
              refine ca_iload hX (q := 116) rfl rfl dX6_isDone_114 ?_
              refine ca_iadd hX (q := 117) rfl dX6_isDone_116 ?_
              refine ca_iload_n hX (q := 118) 2 rfl rfl rfl dX6_isDone_117 ?_
              refine ca_iaS hX (q := 119) (k := 2 + ((pN (M 4) (pl + 2)) + i)) (by omega) hN (Nat.le_refl _) c1 (by decide) (nI_add 2 ((pN (M 4) (pl + 2)) + i)) (by omega) rfl dX6_isDone_118 (fun g hE hF => ?_)
              have hm := md_a0 hm hE hF
              obtain ⟨c0, c1, c2, c3, c4, c5, c6, c7, c8, c9, c10, c11, c12, c13⟩ := id hm
              have hfr := frG.tr hfr (fun j hj => hF j (by omega))
              refine ca_aload_n hX (q := 120) 0 rfl rfl rfl dX6_isDone_119 ?_
              refine ca_getf hX (q := 123) cl_X6 0 (by decide) w_fl_X6_9 (by omega) c0 rfl rfl dX6_isDone_120 ?_
              refine ca_bipush hX (q := 125) k_bipush_27 rfl dX6_isDone_123 ?_
              refine ca_iload hX (q := 127) rfl rfl dX6_isDone_125 ?_
              refine ca_iadd hX (q := 128) rfl dX6_isDone_127 ?_
              refine ca_aload_n hX (q := 129) 0 rfl rfl rfl dX6_isDone_128 ?_
              refine ca_getf hX (q := 132) cl_X6 18 (by decide) w_fl_X6_46 (by omega) c0 rfl rfl dX6_isDone_129 ?_
              refine ca_iconst hX (q := 133) k_iconst_3 rfl dX6_isDone_132 ?_
              refine ca_iaN hX (q := 134) (k := 3) (by omega) c13 (by decide) rfl (by omega) rfl dX6_isDone_133 ?_
              refine ca_iaS hX (q := 135) (k := 27 + ((pN (M 4) (pl + 2)) + i)) (by omega) hN (Nat.le_refl _) c1 (by decide) (nI_add 27 ((pN (M 4) (pl + 2)) + i)) (by omega) rfl dX6_isDone_134 (fun g hE hF => ?_)
              have hm := md_a0 hm hE hF
              obtain ⟨c0, c1, c2, c3, c4, c5, c6, c7, c8, c9, c10, c11, c12, c13⟩ := id hm
              have hfr := frG.tr hfr (fun j hj => hF j (by omega))
              refine ca_iinc hX (q := 138) (ls' := [_, _, _, _, _]) k_iconst_1 rfl (Nat.le_of_ble_eq_true rfl) (Or.inr rfl) rfl rfl dX6_isDone_135 ?_
              refine ca_goto hX 98 rfl dX6_isDone_138 ?_
              have hm : mdG g o (upB (upB (stB M 0 (thM (M 0) (nI (kdN (M 4) (pl + 1))) (nI (dN (M 4) (pl + 4))) (pN (M 4) (pl + 2)) i)) 0 (2 + ((pN (M 4) (pl + 2)) + i)) (nI (kdN (M 4) (pl + 1)))) 0 (27 + ((pN (M 4) (pl + 2)) + i)) (M 12 3)) := hm
              rw [up_up0, st_s, st_st, n3] at hm
              rw [show nI ((pN (M 4) (pl + 2)) + i) + 1 = nI ((pN (M 4) (pl + 2)) + (i + 1)) from nI_add _ 1]
              exact ih (i + 1) _ (by omega) hm hfr
          refine ca_istore hX (q := 98) (ls' := [_, _, _, _, _]) (Nat.le_of_ble_eq_true rfl) (Nat.le_of_ble_eq_true rfl) (Or.inr rfl) rfl rfl dX6_isDone_96 ?_
          exact loop ((pN (M 4) (pl + 2)) + 1 - (pN (M 4) (pl + 2))) 0 _ (by omega) (by rw [show thM (M 0) (nI (kdN (M 4) (pl + 1))) (nI (dN (M 4) (pl + 4))) (pN (M 4) (pl + 2)) 0 = M 0 from rfl, st_id]; exact hm) hfr
        · exact absurd b85 (by decide)
      by_cases e41_118 : x1 = 118
      · refine ca_look hX (off := 43) 84 dX6_isDone_41 (by decide) (by rw [e41_118]; decide) rfl ?_
        have hk : kF (M 4) L pl = 1 := by show fmI (atM (M 4) L pl) = 1; rw [← hx1, e41_118]; rfl
        have hEs : stE (M 4) L pl (M 0) P = doT (M 0) P (kdN (M 4) (pl + 1)) (pN (M 4) (pl + 2)) (pN (M 4) (pl + 4)) (dN (M 4) (pl + 6)) := by unfold stE; rw [hk]; rfl
        obtain ⟨n0, n1, n2, n3⟩ := hnu.2.1 hk
        rw [(ok_kd ho2 hk (by decide) (by decide) (by decide)).2.2.2.2, (ok_kd ho2 hk (by decide) (by decide) (by decide)).2.1] at n0
        rw [nu_2 (ok_dg ho2 hk 2 (by decide) (by decide) (by decide)) (ok_dg ho2 hk 3 (by decide) (by decide) (by decide))] at n1
        rw [nu_2 (ok_dg ho2 hk 4 (by decide) (by decide) (by decide)) (ok_dg ho2 hk 5 (by decide) (by decide) (by decide))] at n2
        rw [nu_1 (ok_dg ho2 hk 6 (by decide) (by decide) (by decide))] at n3
        have ha9 := p_99 (ok_dg ho2 hk 2 (by decide) (by decide) (by decide)) (ok_dg ho2 hk 3 (by decide) (by decide) (by decide))
        have hb9 := p_99 (ok_dg ho2 hk 4 (by decide) (by decide) (by decide)) (ok_dg ho2 hk 5 (by decide) (by decide) (by decide))
        rw [n0]
        have hst : pN (M 4) (pl + 2) ≤ pN (M 4) (pl + 4) ∧ pN (M 4) (pl + 4) < 25 := by
          rw [n1, n2] at b19
          rw [n2] at b31
          have z1 := mt (nI_ltI (a := pN (M 4) (pl + 4)) (b := pN (M 4) (pl + 2)) (by omega) (by omega)).mpr b19
          obtain ⟨q, hq, eq⟩ := rm_ok b31
          have := (nI_eq (by omega) (by omega)).mp eq
          omega
        refine ca_iload_n hX (q := 85) 3 rfl rfl rfl dX6_isDone_84 ?_
        refine ca_if_ne hX (q := 88) 90 rfl rfl dX6_isDone_85 (fun b85 => ?_) (fun b85 => ?_)
        · refine ca_aload_n hX (q := 91) 0 rfl rfl rfl dX6_isDone_90 ?_
          refine ca_getf hX (q := 94) cl_X6 18 (by decide) w_fl_X6_46 (by omega) c0 rfl rfl dX6_isDone_91 ?_
          refine ca_iconst hX (q := 95) k_iconst_1 rfl dX6_isDone_94 ?_
          refine ca_iaN hX (q := 96) (k := 1) (by omega) c13 (by decide) rfl (by omega) rfl dX6_isDone_95 ?_
          have hE2 := hEs
          rw [n1]
          have loop : ∀ (n i : Nat) (g1 : ca_G), i + n = (pN (M 4) (pl + 4)) + 1 - (pN (M 4) (pl + 2)) → mdG g1 o (stB M 0 (thM (M 0) (nI (kdN (M 4) (pl + 1))) (nI (dN (M 4) (pl + 6))) (pN (M 4) (pl + 2)) i)) → frG g0 g1 o (o + 14) → X 98 [some (.ref o), some (.int x1), some (.int (nI (kdN (M 4) (pl + 1)))), some (.int 1), some (.int (nI ((pN (M 4) (pl + 2)) + i)))] [] N 1000000 g1 := by
            intro n
            induction n with
            | zero =>
              intro i g  hi hm hfr
              have hib : i = (pN (M 4) (pl + 4)) + 1 - (pN (M 4) (pl + 2)) := by omega
              rw [hib]
              obtain ⟨c0, c1, c2, c3, c4, c5, c6, c7, c8, c9, c10, c11, c12, c13⟩ := id hm
              refine ca_iload hX (q := 100) rfl rfl dX6_isDone_98 ?_
              refine ca_aload_n hX (q := 101) 0 rfl rfl rfl dX6_isDone_100 ?_
              refine ca_getf hX (q := 104) cl_X6 18 (by decide) w_fl_X6_46 (by omega) c0 rfl rfl dX6_isDone_101 ?_
              refine ca_iconst hX (q := 105) k_iconst_2 rfl dX6_isDone_104 ?_
              refine ca_iaN hX (q := 106) (k := 2) (by omega) c13 (by decide) rfl (by omega) rfl dX6_isDone_105 ?_
              rw [show stB M 0 (thM (M 0) (nI (kdN (M 4) (pl + 1))) (nI (dN (M 4) (pl + 6))) (pN (M 4) (pl + 2)) i) 12 2 = nI (pN (M 4) (pl + 4)) from n2]
              refine ca_icmp_gt hX (q := 109) 141 rfl rfl dX6_isDone_106 (fun _ => ?_) (fun z => absurd ((nI_ltI (by omega) (by omega)).mpr (by omega)) z)
              refine ca_iconst hX (q := 142) k_iconst_1 rfl dX6_isDone_141 ?_
              refine ca_zret hX rfl rfl rfl rfl rfl dX6_isDone_142 ?_
              exact ⟨hfr, Or.inl ⟨_, _, by rw [hE2, doT, if_pos hst], rfl, by rw [hib] at hm; exact hm⟩⟩
            | succ n ih =>
              intro i g  hi hm hfr
              obtain ⟨c0, c1, c2, c3, c4, c5, c6, c7, c8, c9, c10, c11, c12, c13⟩ := id hm
              refine ca_iload hX (q := 100) rfl rfl dX6_isDone_98 ?_
              refine ca_aload_n hX (q := 101) 0 rfl rfl rfl dX6_isDone_100 ?_
              refine ca_getf hX (q := 104) cl_X6 18 (by decide) w_fl_X6_46 (by omega) c0 rfl rfl dX6_isDone_101 ?_
              refine ca_iconst hX (q := 105) k_iconst_2 rfl dX6_isDone_104 ?_
              refine ca_iaN hX (q := 106) (k := 2) (by omega) c13 (by decide) rfl (by omega) rfl dX6_isDone_105 ?_
              rw [show stB M 0 (thM (M 0) (nI (kdN (M 4) (pl + 1))) (nI (dN (M 4) (pl + 6))) (pN (M 4) (pl + 2)) i) 12 2 = nI (pN (M 4) (pl + 4)) from n2]
              refine ca_icmp_gt hX (q := 109) 141 rfl rfl dX6_isDone_106 (fun z => absurd z (fun z => absurd ((nI_ltI (a := (pN (M 4) (pl + 4))) (b := (pN (M 4) (pl + 2)) + i) (by omega) (by omega)).mp z) (by omega))) (fun _ => ?_)
              refine ca_aload_n hX (q := 110) 0 rfl rfl rfl dX6_isDone_109 ?_
              refine ca_getf hX (q := 113) cl_X6 0 (by decide) w_fl_X6_9 (by omega) c0 rfl rfl dX6_isDone_110 ?_
              refine ca_iconst hX (q := 114) k_iconst_2 rfl dX6_isDone_113 ?_
              refine ca_iload hX (q := 116) rfl rfl dX6_isDone_114 ?_
              refine ca_iadd hX (q := 117) rfl dX6_isDone_116 ?_
              refine ca_iload_n hX (q := 118) 2 rfl rfl rfl dX6_isDone_117 ?_
              refine ca_iaS hX (q := 119) (k := 2 + ((pN (M 4) (pl + 2)) + i)) (by omega) hN (Nat.le_refl _) c1 (by decide) (nI_add 2 ((pN (M 4) (pl + 2)) + i)) (by omega) rfl dX6_isDone_118 (fun g hE hF => ?_)
              have hm := md_a0 hm hE hF
              obtain ⟨c0, c1, c2, c3, c4, c5, c6, c7, c8, c9, c10, c11, c12, c13⟩ := id hm
              have hfr := frG.tr hfr (fun j hj => hF j (by omega))
              refine ca_aload_n hX (q := 120) 0 rfl rfl rfl dX6_isDone_119 ?_
              refine ca_getf hX (q := 123) cl_X6 0 (by decide) w_fl_X6_9 (by omega) c0 rfl rfl dX6_isDone_120 ?_
              refine ca_bipush hX (q := 125) k_bipush_27 rfl dX6_isDone_123 ?_
              refine ca_iload hX (q := 127) rfl rfl dX6_isDone_125 ?_
              refine ca_iadd hX (q := 128) rfl dX6_isDone_127 ?_
              refine ca_aload_n hX (q := 129) 0 rfl rfl rfl dX6_isDone_128 ?_
              refine ca_getf hX (q := 132) cl_X6 18 (by decide) w_fl_X6_46 (by omega) c0 rfl rfl dX6_isDone_129 ?_
              refine ca_iconst hX (q := 133) k_iconst_3 rfl dX6_isDone_132 ?_
              refine ca_iaN hX (q := 134) (k := 3) (by omega) c13 (by decide) rfl (by omega) rfl dX6_isDone_133 ?_
              refine ca_iaS hX (q := 135) (k := 27 + ((pN (M 4) (pl + 2)) + i)) (by omega) hN (Nat.le_refl _) c1 (by decide) (nI_add 27 ((pN (M 4) (pl + 2)) + i)) (by omega) rfl dX6_isDone_134 (fun g hE hF => ?_)
              have hm := md_a0 hm hE hF
              obtain ⟨c0, c1, c2, c3, c4, c5, c6, c7, c8, c9, c10, c11, c12, c13⟩ := id hm
              have hfr := frG.tr hfr (fun j hj => hF j (by omega))
              refine ca_iinc hX (q := 138) (ls' := [_, _, _, _, _]) k_iconst_1 rfl (Nat.le_of_ble_eq_true rfl) (Or.inr rfl) rfl rfl dX6_isDone_135 ?_
              refine ca_goto hX 98 rfl dX6_isDone_138 ?_
              have hm : mdG g o (upB (upB (stB M 0 (thM (M 0) (nI (kdN (M 4) (pl + 1))) (nI (dN (M 4) (pl + 6))) (pN (M 4) (pl + 2)) i)) 0 (2 + ((pN (M 4) (pl + 2)) + i)) (nI (kdN (M 4) (pl + 1)))) 0 (27 + ((pN (M 4) (pl + 2)) + i)) (M 12 3)) := hm
              rw [up_up0, st_s, st_st, n3] at hm
              rw [show nI ((pN (M 4) (pl + 2)) + i) + 1 = nI ((pN (M 4) (pl + 2)) + (i + 1)) from nI_add _ 1]
              exact ih (i + 1) _ (by omega) hm hfr
          refine ca_istore hX (q := 98) (ls' := [_, _, _, _, _]) (Nat.le_of_ble_eq_true rfl) (Nat.le_of_ble_eq_true rfl) (Or.inr rfl) rfl rfl dX6_isDone_96 ?_
          exact loop ((pN (M 4) (pl + 4)) + 1 - (pN (M 4) (pl + 2))) 0 _ (by omega) (by rw [show thM (M 0) (nI (kdN (M 4) (pl + 1))) (nI (dN (M 4) (pl + 6))) (pN (M 4) (pl + 2)) 0 = M 0 from rfl, st_id]; exact hm) hfr
        · exact absurd b85 (by decide)
      refine ca_look hX (off := 236) 277 dX6_isDone_41 (by decide) (by have z0 := lv_neT (k := 107) (a := 107) e41_107 (by decide); have z1 := lv_neT (k := 112) (a := 112) e41_112 (by decide); have z2 := lv_neT (k := 114) (a := 114) e41_114 (by decide); have z3 := lv_neT (k := 118) (a := 118) e41_118 (by decide); simp [Op.lookupswitch.offset, Ne.symm z0, Ne.symm z1, Ne.symm z2, Ne.symm z3]) rfl ?_
      have hk : kF (M 4) L pl = 4 := by
        have h5 : kF (M 4) L pl ≠ 5 := fun z => absurd ho2.1 (by rw [z]; decide)
        have e : kF (M 4) L pl = fmI x1 := by rw [hx1]
        rw [e] at h5 ⊢
        unfold fmI at h5 ⊢
        rw [if_neg e41_107, if_neg e41_112, if_neg e41_114, if_neg e41_118] at h5
        rw [if_neg e41_107, if_neg e41_112, if_neg e41_114, if_neg e41_118]
        by_cases z : x1 = 110
        · rw [if_pos z]
        · rw [if_neg z] at h5; exact absurd rfl h5
      have hEs : stE (M 4) L pl (M 0) P = doN (M 0) P (pN (M 4) (pl + 1)) := by unfold stE; rw [hk]; rfl
      have n0 := hnu.2.2.2.2 hk
      rw [nu_2 (ok_dg ho2 hk 1 (by decide) (by decide) (by decide)) (ok_dg ho2 hk 2 (by decide) (by decide) (by decide))] at n0
      have hm9 := p_99 (ok_dg ho2 hk 1 (by decide) (by decide) (by decide)) (ok_dg ho2 hk 2 (by decide) (by decide) (by decide))
      rw [n0]
      refine ca_iload_n hX (q := 278) 2 rfl rfl rfl dX6_isDone_277 ?_
      refine ca_iconst hX (q := 279) k_iconst_1 rfl dX6_isDone_278 ?_
      refine ca_bipush hX (q := 281) k_bipush_60 rfl dX6_isDone_279 ?_
      refine ca_cSi hX (q := 284) y_X6_isIn w_ml_X6_55 hN (c_X6_isIn l N g _ 1 60) (by decide) rfl (Nat.le_of_ble_eq_true rfl) rfl dX6_isDone_281 rfl ?_
      refine ca_if_eq hX (q := 287) 301 rfl rfl dX6_isDone_284 (fun b284 => ?_) (fun b284 => ?_)
      · have hst : ¬ (1 ≤ (pN (M 4) (pl + 1)) ∧ (pN (M 4) (pl + 1)) ≤ 60 ∧ ¬ 999 < M 0 1 + nI (pN (M 4) (pl + 1))) := fun z => absurd b284 (by unfold inB; rw [if_neg (Int32.not_lt.mpr (show (1 : Int32) ≤ nI (pN (M 4) (pl + 1)) from (nI_leI (a := 1) (by omega) (by omega)).mpr z.1)), if_neg (Int32.not_lt.mpr (show nI (pN (M 4) (pl + 1)) ≤ 60 from (nI_leI (b := 60) (by omega) (by omega)).mpr z.2.1))]; decide)
        refine ca_iconst hX (q := 302) k_iconst_0 rfl dX6_isDone_301 ?_
        refine ca_zret hX rfl rfl rfl rfl rfl dX6_isDone_302 ?_
        exact ⟨hfr, Or.inr ⟨by rw [hEs, doN, if_neg hst], rfl, hm⟩⟩
      · have hin : 1 ≤ (pN (M 4) (pl + 1)) ∧ (pN (M 4) (pl + 1)) ≤ 60 := by
          unfold inB at b284
          by_cases z1 : nI (pN (M 4) (pl + 1)) < 1
          · rw [if_pos z1] at b284; exact absurd rfl b284
          · rw [if_neg z1] at b284
            by_cases z2 : 60 < nI (pN (M 4) (pl + 1))
            · rw [if_pos z2] at b284; exact absurd rfl b284
            · exact ⟨(nI_leI (a := 1) (by omega) (by omega)).mp (Int32.not_lt.mp z1), (nI_leI (b := 60) (by omega) (by omega)).mp (Int32.not_lt.mp z2)⟩
        refine ca_aload_n hX (q := 288) 0 rfl rfl rfl dX6_isDone_287 ?_
        refine ca_getf hX (q := 291) cl_X6 0 (by decide) w_fl_X6_9 (by omega) c0 rfl rfl dX6_isDone_288 ?_
        refine ca_iconst hX (q := 292) k_iconst_1 rfl dX6_isDone_291 ?_
        refine ca_iaN hX (q := 293) (k := 1) (by omega) c1 (by decide) rfl (by omega) rfl dX6_isDone_292 ?_
        refine ca_iload_n hX (q := 294) 2 rfl rfl rfl dX6_isDone_293 ?_
        refine ca_iadd hX (q := 295) rfl dX6_isDone_294 ?_
        refine ca_sipush hX (q := 298) k_sipush_999 rfl dX6_isDone_295 ?_
        refine ca_icmp_le hX (q := 301) 303 rfl rfl dX6_isDone_298 (fun b298 => ?_) (fun b298 => ?_)
        · have hst : 1 ≤ (pN (M 4) (pl + 1)) ∧ (pN (M 4) (pl + 1)) ≤ 60 ∧ ¬ 999 < M 0 1 + nI (pN (M 4) (pl + 1)) := ⟨hin.1, hin.2, Int32.not_lt.mpr b298⟩
          have hE2 := hEs
          have loop : ∀ (n i : Nat) (g1 : ca_G), i + n = (pN (M 4) (pl + 1)) → mdG g1 o (stB M 0 (pnM P (M 0) i)) → frG g0 g1 o (o + 14) → X 306 [some (.ref o), some (.int x1), some (.int (nI (pN (M 4) (pl + 1)))), some (.int 1), some (.int (nI i))] [] N 1000000 g1 := by
            intro n
            induction n with
            | zero =>
              intro i g  hi hm hfr
              have hib : i = (pN (M 4) (pl + 1)) := by omega
              rw [hib]
              obtain ⟨c0, c1, c2, c3, c4, c5, c6, c7, c8, c9, c10, c11, c12, c13⟩ := id hm
              refine ca_iload hX (q := 308) rfl rfl dX6_isDone_306 ?_
              refine ca_iload_n hX (q := 309) 2 rfl rfl rfl dX6_isDone_308 ?_
              refine ca_icmp_ge hX (q := 312) 325 rfl rfl dX6_isDone_309 (fun _ => ?_) (fun z => absurd (nI_le (Nat.le_refl _) (by omega)) z)
              refine ca_iconst hX (q := 326) k_iconst_1 rfl dX6_isDone_325 ?_
              refine ca_zret hX rfl rfl rfl rfl rfl dX6_isDone_326 ?_
              exact ⟨hfr, Or.inl ⟨_, _, by rw [hE2, doN, if_pos hst], rfl, by rw [hib] at hm; exact hm⟩⟩
            | succ n ih =>
              intro i g  hi hm hfr
              obtain ⟨c0, c1, c2, c3, c4, c5, c6, c7, c8, c9, c10, c11, c12, c13⟩ := id hm
              refine ca_iload hX (q := 308) rfl rfl dX6_isDone_306 ?_
              refine ca_iload_n hX (q := 309) 2 rfl rfl rfl dX6_isDone_308 ?_
              refine ca_icmp_ge hX (q := 312) 325 rfl rfl dX6_isDone_309 (fun z => absurd z (nI_ge (a := i) (b := (pN (M 4) (pl + 1))) (by omega) (by omega))) (fun _ => ?_)
              refine ca_aload_n hX (q := 313) 0 rfl rfl rfl dX6_isDone_312 ?_
              refine ca_getf hX (q := 316) cl_X6 0 (by decide) w_fl_X6_9 (by omega) c0 rfl rfl dX6_isDone_313 ?_
              refine ca_cS hX (q := 319) y_X6_night w_ml_X6_141 hN (c_X6_night l N g (o + 1) (pnM P (M 0) i) c1 (by omega) P (by rw [pnM_0]; exact hP) hP5 (fun p hp => by rw [pn_lo P (M 0) (by omega) (by omega)]; exact wf_sh w p hp)) (by decide) rfl (Nat.le_of_ble_eq_true rfl) rfl dX6_isDone_316 rfl ?_
              rintro _ g ⟨rfl, hE0, hF0⟩
              have hm := md_f0 hm hE0 hF0
              rw [st_st] at hm
              have hfr := hfr.tr (fun j hj => hF0 j (by omega))
              obtain ⟨c0, c1, c2, c3, c4, c5, c6, c7, c8, c9, c10, c11, c12, c13⟩ := id hm
              refine ca_iinc hX (q := 322) (ls' := [_, _, _, _, _]) k_iconst_1 rfl (Nat.le_of_ble_eq_true rfl) (Or.inr rfl) rfl rfl dX6_isDone_319 ?_
              refine ca_goto hX 306 rfl dX6_isDone_322 ?_
              rw [nI_1]
              exact ih (i + 1) _ (by omega) hm hfr
          refine ca_iconst hX (q := 304) k_iconst_0 rfl dX6_isDone_303 ?_
          refine ca_istore hX (q := 306) (ls' := [_, _, _, _, _]) (Nat.le_of_ble_eq_true rfl) (Nat.le_of_ble_eq_true rfl) (Or.inr rfl) rfl rfl dX6_isDone_304 ?_
          exact loop (pN (M 4) (pl + 1)) 0 _ (by omega) (by rw [show pnM P (M 0) 0 = M 0 from rfl, st_id]; exact hm) hfr
        · have hst : ¬ (1 ≤ (pN (M 4) (pl + 1)) ∧ (pN (M 4) (pl + 1)) ≤ 60 ∧ ¬ 999 < M 0 1 + nI (pN (M 4) (pl + 1))) := fun z => z.2.2 (Int32.not_le.mp b298)
          refine ca_iconst hX (q := 302) k_iconst_0 rfl dX6_isDone_301 ?_
          refine ca_zret hX rfl rfl rfl rfl rfl dX6_isDone_302 ?_
          exact ⟨hfr, Or.inr ⟨by rw [hEs, doN, if_neg hst], rfl, hm⟩⟩

