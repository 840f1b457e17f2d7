/-! the reference's readsStatement -/
theorem seg_dg (f : Nat → Int32) (L pl : Nat) {K s d : Nat} (hK : K < 6) (hs : ∀ i, i < d → sgF K (s + i) = 48 ∧ s + i < ca_sL.getD K 0) : fcN (uF f L pl K) s d = s + fcN (fun i => dgB f L (pl + s + i)) 0 d := by
  have h := fc_sh (uF f L pl K) s d 0
  rw [Nat.add_zero] at h
  rw [← h]
  congr 1
  refine fc_cg d 0 (fun i _ hi => ?_)
  obtain ⟨a, b⟩ := hs i (by omega)
  rw [u_hr f L pl hK b, a, show pl + (s + i) = pl + s + i by omega]
  unfold dgB ftI inB
  rfl
theorem seg_kd (f : Nat → Int32) (L pl : Nat) {K : Nat} (hK : K < 6) (h1 : sgF K 1 = 75) (h2 : 1 < ca_sL.getD K 0) : fcN (uF f L pl K) 1 1 = 1 + (if klI (hrI f L (pl + 1)) = -9 then 0 else 1) := by
  have hft : ftI (hrI f L (pl + 1)) 75 = if klI (hrI f L (pl + 1)) = -9 then 0 else 1 := by unfold ftI; rw [if_neg (by decide), if_pos rfl]
  rw [fcN, fcN, u_hr f L pl hK h2, h1, hft]
  by_cases z : klI (hrI f L (pl + 1)) = -9
  · rw [if_pos z, if_pos z]; rfl
  · rw [if_neg z, if_neg z]; rfl
theorem seg_eq (f : Nat → Int32) (L pl : Nat) {K s : Nat} (hK : K < 6) (hs : s < ca_sL.getD K 0) (h48 : ¬ sgF K s = 48) (h75 : ¬ sgF K s = 75) : fcN (uF f L pl K) s 1 = if hrI f L (pl + s) = sgF K s then s + 1 else s := by
  rw [fcN, fcN, u_hr f L pl hK hs]
  unfold ftI
  rw [if_neg h48, if_neg h75]
  by_cases z : hrI f L (pl + s) = sgF K s
  · rw [if_pos z, if_pos z]; rfl
  · rw [if_neg z, if_neg z]; rfl
theorem k_hr {f : Nat → Int32} {L pl : Nat} {c : Int32} (h : hrI f L pl = c) (hc : ¬ c = -1) : atM f L pl = c := by
  rcases hr_at f L pl with ⟨_, a, b⟩ | ⟨_, a, _⟩
  · rw [b, ← a]; exact h
  · rw [a] at h; exact absurd h.symm hc
theorem k_no {f : Nat → Int32} {L pl : Nat} (h0 : ¬ hrI f L pl = 107) (h1 : ¬ hrI f L pl = 110) (h2 : ¬ hrI f L pl = 112) (h3 : ¬ hrI f L pl = 114) (h4 : ¬ hrI f L pl = 118) : fmI (atM f L pl) = 5 := by
  unfold fmI
  rcases hr_at f L pl with ⟨_, a, b⟩ | ⟨_, _, b⟩
  · rw [b, ← a, if_neg h0, if_neg h1, if_neg h2, if_neg h3, if_neg h4]
  · rw [b]; rfl
def nuP (f : Nat → Int32) (L pl : Nat) (M' : Nat → Nat → Int32) : Prop :=
  (kF f L pl = 0 → M' 12 0 = klI (hrI f L (pl + 1)) ∧ M' 12 1 = nuI f (pl + 2) 2 ∧ M' 12 2 = nuI f (pl + 2) 2 ∧ M' 12 3 = nuI f (pl + 4) 1) ∧
  (kF f L pl = 1 → M' 12 0 = klI (hrI f L (pl + 1)) ∧ M' 12 1 = nuI f (pl + 2) 2 ∧ M' 12 2 = nuI f (pl + 4) 2 ∧ M' 12 3 = nuI f (pl + 6) 1) ∧
  (kF f L pl = 2 → M' 12 0 = nuI f (pl + 1) 1) ∧
  (kF f L pl = 3 → M' 12 0 = nuI f (pl + 1) 1 ∧ M' 12 1 = nuI f (pl + 2) 2 ∧ M' 12 2 = nuI f (pl + 4) 2 ∧ M' 12 3 = nuI f (pl + 6) 1) ∧
  (kF f L pl = 4 → M' 12 0 = nuI f (pl + 1) 2)
def rsP (o : Nat) (g : ca_G) (M : Nat → Nat → Int32) (L pl : Nat) : ca_Post := fun rr g' => ∃ M', mdG g' o M' ∧ rdM M M' ∧ frG g g' o (o + 14) ∧ ((rr = some (.int 1) ∧ okF (M 4) L pl ∧ M' 13 5 = nI (pl + lenF (kF (M 4) L pl)) ∧ nuP (M 4) L pl M') ∨ (rr = some (.int 0) ∧ ¬ okF (M 4) L pl ∧ M' 13 5 = nI (pl + fcF (M 4) L pl)))

set_option maxRecDepth 100000 in
set_option maxHeartbeats 4000000 in
theorem c_X6_readsStatement (l : Launch) (N : Nat) (g : ca_G) (o : Nat) (M : Nat → Nat → Int32) (hm : mdG g o M) (ho : o + 14 ≤ N) (L : Nat) (h131 : M 13 1 = nI L) (hL : L ≤ 96) (pl : Nat) (hp : pl < 800) (h5 : M 13 5 = nI pl) : ca_Ct l yX6_readsStatement cX6_readsStatement 3 (some .boolean) 2 0 0 N 1000000 [.ref o] g (rsP o g M L pl) := by
  refine ca_intro (by decide) (Nat.le_of_ble_eq_true rfl) (fun X hX hN => ?_)
  show X 0 [_, none, none] [] N 1000000 g
  have hfr : frG g g o (o + 14) := frG.rf
  obtain ⟨c0, c1, c2, c3, c4, c5, c6, c7, c8, c9, c10, c11, c12, c13⟩ := id hm
  refine ca_aload_n hX (q := 1) 0 rfl rfl rfl dX6_readsStatement_0 ?_
  refine ca_cVi hX (q := 4) y_X6_here w_ml_X6_124 (by omega) hN c0 (c_X6_here l N g o M hm ho L h131 hL pl (by omega) h5) (by decide) rfl (Nat.le_of_ble_eq_true rfl) rfl dX6_readsStatement_1 rfl ?_
  refine ca_istore_n hX (q := 5) 1 rfl (ls' := [_, _, _]) (Nat.le_of_ble_eq_true rfl) (Nat.le_of_ble_eq_true rfl) (Or.inr rfl) rfl rfl dX6_readsStatement_4 ?_
  refine ca_aload_n hX (q := 6) 0 rfl rfl rfl dX6_readsStatement_5 ?_
  refine ca_dup hX (q := 7) rfl rfl dX6_readsStatement_6 ?_
  refine ca_getf hX (q := 10) cl_X6 17 (by decide) w_fl_X6_121 (by omega) c0 rfl rfl dX6_readsStatement_7 ?_
  refine ca_iconst hX (q := 11) k_iconst_1 rfl dX6_readsStatement_10 ?_
  refine ca_iadd hX (q := 12) rfl dX6_readsStatement_11 ?_
  refine ca_puti hX (q := 15) (fs' := [_, _, _, _, _, _, _, _, _, _, _, _, _, _, _, _, _, _, _, _]) cl_X6 17 (by decide) w_fl_X6_121 rfl rfl (by omega) hN c0 (Nat.le_of_ble_eq_true rfl) rfl rfl dX6_readsStatement_12 (fun g hE hF => ?_)
  have hm := md_s5 hm hE hF
  obtain ⟨c0, c1, c2, c3, c4, c5, c6, c7, c8, c9, c10, c11, c12, c13⟩ := id hm
  have hfr := frG.tr hfr (fun j hj => hF j (by omega))
  obtain ⟨M1, hM1⟩ : ∃ M1, M1 = upB M 13 5 (M 13 5 + 1) := ⟨_, rfl⟩
  rw [← hM1] at hm
  have hrd : rdM M M1 := by rw [hM1]; exact rdM.rf.pl _
  have h5 : M1 13 5 = nI (pl + 1) := by rw [hM1, upB_s, upd_s, h5]; exact nI_add pl 1
  obtain ⟨c0, c1, c2, c3, c4, c5, c6, c7, c8, c9, c10, c11, c12, c13⟩ := id hm
  refine ca_iload_n hX (q := 16) 1 rfl rfl rfl dX6_readsStatement_15 ?_
  by_cases e16_107 : hrI (M 4) L pl = 107
  · refine ca_tabIn hX 179 dX6_readsStatement_16 (by rw [e16_107]; decide) (by rw [e16_107]; decide) (by rw [e16_107]; rfl) rfl ?_
    have hk : kF (M 4) L pl = 3 := by show fmI (atM (M 4) L pl) = 3; rw [k_hr e16_107 (by decide)]; rfl
    have hl : lenF (kF (M 4) L pl) = 8 := by rw [hk]; rfl
    have f0 : fcN (uF (M 4) L pl 3) 0 1 = 1 := by rw [seg_eq (M 4) L pl (by decide) (by decide) (by decide) (by decide), Nat.add_zero, e16_107]; rfl
    have hFc : fcF (M 4) L pl = fcS (uF (M 4) L pl 3) 0 [1, 1, 2, 2, 1, 1] := by unfold fcF; rw [hk, ← fc_S]; rfl
    refine ca_aload_n hX (q := 180) 0 rfl rfl rfl dX6_readsStatement_179 ?_
    refine ca_iconst hX (q := 181) k_iconst_0 rfl dX6_readsStatement_180 ?_
    refine ca_iconst hX (q := 182) k_iconst_1 rfl dX6_readsStatement_181 ?_
    refine ca_cV hX (q := 185) y_X6_readsNumber w_ml_X6_134 (by omega) hN c0 (c_X6_readsNumber l N g o M1 hm ho L (by rw [hrd.2 1 (by omega)]; exact h131) hL (pl + 1) (by omega) h5 0 (by omega) 1 (by omega)) (by decide) rfl (Nat.le_of_ble_eq_true rfl) rfl dX6_readsStatement_182 rfl ?_
    rintro _ g ⟨c1n, Ma, rfl, hc1, hfs, hm, hr2, hf, h5, hnu, hoth⟩
    rw [(hrd.1 4 (by omega) (by omega))] at hfs hnu
    have f1 : fcN (uF (M 4) L pl 3) 1 1 = 1 + c1n := by rw [seg_dg (M 4) L pl (by decide) (by decide), hfs]
    have hrd := hrd.tr hr2
    have hfr := hfr.tr hf
    obtain ⟨c0, c1, c2, c3, c4, c5, c6, c7, c8, c9, c10, c11, c12, c13⟩ := id hm
    refine ca_if_eq hX (q := 188) 219 rfl rfl dX6_readsStatement_185 (fun b185 => ?_) (fun b185 => ?_)
    · have q1 : ¬ c1n = 1 := fun z => by rw [if_pos z] at b185; exact absurd b185 (by decide)
      refine ca_iconst hX (q := 220) k_iconst_0 rfl dX6_readsStatement_219 ?_
      refine ca_istore_n hX (q := 221) 2 rfl (ls' := [_, _, _]) (Nat.le_of_ble_eq_true rfl) (Nat.le_of_ble_eq_true rfl) (Or.inr rfl) rfl rfl dX6_readsStatement_220 ?_
      refine ca_goto hX 246 rfl dX6_readsStatement_221 ?_
      refine ca_iload_n hX (q := 247) 2 rfl rfl rfl dX6_readsStatement_246 ?_
      refine ca_if_eq hX (q := 250) 259 rfl rfl dX6_readsStatement_247 (fun b247 => ?_) (fun b247 => ?_)
      · refine ca_iconst hX (q := 260) k_iconst_0 rfl dX6_readsStatement_259 ?_
        refine ca_zret hX rfl rfl rfl rfl rfl dX6_readsStatement_260 ?_
        have hFv : fcF (M 4) L pl = 1 + c1n := by rw [hFc]; simp [fcS, f0, f1, q1] <;> (intro z; omega)
        exact ⟨_, hm, hrd, hfr, Or.inr ⟨rfl, fun z => by have := z.2; rw [hFv, hl] at this; omega, by rw [hFv]; first | exact h5 | (rw [upB_n _ _ _ (by omega)]; exact h5) | (rw [← Nat.add_assoc]; exact h5) | (rw [upB_n _ _ _ (by omega), ← Nat.add_assoc]; exact h5)⟩⟩
      · exact absurd rfl b247
    · have q1 : c1n = 1 := Classical.byContradiction (fun z => b185 (if_neg z))
      rw [q1] at h5 f1
      have n0 := hnu q1
      refine ca_aload_n hX (q := 189) 0 rfl rfl rfl dX6_readsStatement_188 ?_
      refine ca_iconst hX (q := 190) k_iconst_1 rfl dX6_readsStatement_189 ?_
      refine ca_iconst hX (q := 191) k_iconst_2 rfl dX6_readsStatement_190 ?_
      refine ca_cV hX (q := 194) y_X6_readsNumber w_ml_X6_134 (by omega) hN c0 (c_X6_readsNumber l N g o Ma hm ho L (by rw [hrd.2 1 (by omega)]; exact h131) hL (pl + 2) (by omega) h5 1 (by omega) 2 (by omega)) (by decide) rfl (Nat.le_of_ble_eq_true rfl) rfl dX6_readsStatement_191 rfl ?_
      rintro _ g ⟨c2n, Mb, rfl, hc2, hfs, hm, hr2, hf, h5, hnu, hoth⟩
      rw [(hrd.1 4 (by omega) (by omega))] at hfs hnu
      have f2 : fcN (uF (M 4) L pl 3) 2 2 = 2 + c2n := by rw [seg_dg (M 4) L pl (by decide) (by decide), hfs]
      have hrd := hrd.tr hr2
      have hfr := hfr.tr hf
      have n0 := (hoth 0 (by omega)).trans n0
      obtain ⟨c0, c1, c2, c3, c4, c5, c6, c7, c8, c9, c10, c11, c12, c13⟩ := id hm
      refine ca_if_eq hX (q := 197) 219 rfl rfl dX6_readsStatement_194 (fun b194 => ?_) (fun b194 => ?_)
      · have q2 : ¬ c2n = 2 := fun z => by rw [if_pos z] at b194; exact absurd b194 (by decide)
        refine ca_iconst hX (q := 220) k_iconst_0 rfl dX6_readsStatement_219 ?_
        refine ca_istore_n hX (q := 221) 2 rfl (ls' := [_, _, _]) (Nat.le_of_ble_eq_true rfl) (Nat.le_of_ble_eq_true rfl) (Or.inr rfl) rfl rfl dX6_readsStatement_220 ?_
        refine ca_goto hX 246 rfl dX6_readsStatement_221 ?_
        refine ca_iload_n hX (q := 247) 2 rfl rfl rfl dX6_readsStatement_246 ?_
        refine ca_if_eq hX (q := 250) 259 rfl rfl dX6_readsStatement_247 (fun b247 => ?_) (fun b247 => ?_)
        · refine ca_iconst hX (q := 260) k_iconst_0 rfl dX6_readsStatement_259 ?_
          refine ca_zret hX rfl rfl rfl rfl rfl dX6_readsStatement_260 ?_
          have hFv : fcF (M 4) L pl = 2 + c2n := by rw [hFc]; simp [fcS, f0, f1, f2, q1, q2] <;> (intro z; omega)
          exact ⟨_, hm, hrd, hfr, Or.inr ⟨rfl, fun z => by have := z.2; rw [hFv, hl] at this; omega, by rw [hFv]; first | exact h5 | (rw [upB_n _ _ _ (by omega)]; exact h5) | (rw [← Nat.add_assoc]; exact h5) | (rw [upB_n _ _ _ (by omega), ← Nat.add_assoc]; exact h5)⟩⟩
        · exact absurd rfl b247
      · have q2 : c2n = 2 := Classical.byContradiction (fun z => b194 (if_neg z))
        rw [q2] at h5 f2
        have n1 := hnu q2
        refine ca_aload_n hX (q := 198) 0 rfl rfl rfl dX6_readsStatement_197 ?_
        refine ca_iconst hX (q := 199) k_iconst_2 rfl dX6_readsStatement_198 ?_
        refine ca_iconst hX (q := 200) k_iconst_2 rfl dX6_readsStatement_199 ?_
        refine ca_cV hX (q := 203) y_X6_readsNumber w_ml_X6_134 (by omega) hN c0 (c_X6_readsNumber l N g o Mb hm ho L (by rw [hrd.2 1 (by omega)]; exact h131) hL (pl + 4) (by omega) h5 2 (by omega) 2 (by omega)) (by decide) rfl (Nat.le_of_ble_eq_true rfl) rfl dX6_readsStatement_200 rfl ?_
        rintro _ g ⟨c4n, Mc, rfl, hc4, hfs, hm, hr2, hf, h5, hnu, hoth⟩
        rw [(hrd.1 4 (by omega) (by omega))] at hfs hnu
        have f4 : fcN (uF (M 4) L pl 3) 4 2 = 4 + c4n := by rw [seg_dg (M 4) L pl (by decide) (by decide), hfs]
        have hrd := hrd.tr hr2
        have hfr := hfr.tr hf
        have n0 := (hoth 0 (by omega)).trans n0
        have n1 := (hoth 1 (by omega)).trans n1
        obtain ⟨c0, c1, c2, c3, c4, c5, c6, c7, c8, c9, c10, c11, c12, c13⟩ := id hm
        refine ca_if_eq hX (q := 206) 219 rfl rfl dX6_readsStatement_203 (fun b203 => ?_) (fun b203 => ?_)
        · have q4 : ¬ c4n = 2 := fun z => by rw [if_pos z] at b203; exact absurd b203 (by decide)
          refine ca_iconst hX (q := 220) k_iconst_0 rfl dX6_readsStatement_219 ?_
          refine ca_istore_n hX (q := 221) 2 rfl (ls' := [_, _, _]) (Nat.le_of_ble_eq_true rfl) (Nat.le_of_ble_eq_true rfl) (Or.inr rfl) rfl rfl dX6_readsStatement_220 ?_
          refine ca_goto hX 246 rfl dX6_readsStatement_221 ?_
          refine ca_iload_n hX (q := 247) 2 rfl rfl rfl dX6_readsStatement_246 ?_
          refine ca_if_eq hX (q := 250) 259 rfl rfl dX6_readsStatement_247 (fun b247 => ?_) (fun b247 => ?_)
          · refine ca_iconst hX (q := 260) k_iconst_0 rfl dX6_readsStatement_259 ?_
            refine ca_zret hX rfl rfl rfl rfl rfl dX6_readsStatement_260 ?_
            have hFv : fcF (M 4) L pl = 4 + c4n := by rw [hFc]; simp [fcS, f0, f1, f2, f4, q1, q2, q4] <;> (intro z; omega)
            exact ⟨_, hm, hrd, hfr, Or.inr ⟨rfl, fun z => by have := z.2; rw [hFv, hl] at this; omega, by rw [hFv]; first | exact h5 | (rw [upB_n _ _ _ (by omega)]; exact h5) | (rw [← Nat.add_assoc]; exact h5) | (rw [upB_n _ _ _ (by omega), ← Nat.add_assoc]; exact h5)⟩⟩
          · exact absurd rfl b247
        · have q4 : c4n = 2 := Classical.byContradiction (fun z => b203 (if_neg z))
          rw [q4] at h5 f4
          have n2 := hnu q4
          refine ca_aload_n hX (q := 207) 0 rfl rfl rfl dX6_readsStatement_206 ?_
          refine ca_iconst hX (q := 208) k_iconst_3 rfl dX6_readsStatement_207 ?_
          refine ca_iconst hX (q := 209) k_iconst_1 rfl dX6_readsStatement_208 ?_
          refine ca_cV hX (q := 212) y_X6_readsNumber w_ml_X6_134 (by omega) hN c0 (c_X6_readsNumber l N g o Mc hm ho L (by rw [hrd.2 1 (by omega)]; exact h131) hL (pl + 6) (by omega) h5 3 (by omega) 1 (by omega)) (by decide) rfl (Nat.le_of_ble_eq_true rfl) rfl dX6_readsStatement_209 rfl ?_
          rintro _ g ⟨c6n, Md, rfl, hc6, hfs, hm, hr2, hf, h5, hnu, hoth⟩
          rw [(hrd.1 4 (by omega) (by omega))] at hfs hnu
          have f6 : fcN (uF (M 4) L pl 3) 6 1 = 6 + c6n := by rw [seg_dg (M 4) L pl (by decide) (by decide), hfs]
          have hrd := hrd.tr hr2
          have hfr := hfr.tr hf
          have n0 := (hoth 0 (by omega)).trans n0
          have n1 := (hoth 1 (by omega)).trans n1
          have n2 := (hoth 2 (by omega)).trans n2
          obtain ⟨c0, c1, c2, c3, c4, c5, c6, c7, c8, c9, c10, c11, c12, c13⟩ := id hm
          refine ca_if_eq hX (q := 215) 219 rfl rfl dX6_readsStatement_212 (fun b212 => ?_) (fun b212 => ?_)
          · have q6 : ¬ c6n = 1 := fun z => by rw [if_pos z] at b212; exact absurd b212 (by decide)
            refine ca_iconst hX (q := 220) k_iconst_0 rfl dX6_readsStatement_219 ?_
            refine ca_istore_n hX (q := 221) 2 rfl (ls' := [_, _, _]) (Nat.le_of_ble_eq_true rfl) (Nat.le_of_ble_eq_true rfl) (Or.inr rfl) rfl rfl dX6_readsStatement_220 ?_
            refine ca_goto hX 246 rfl dX6_readsStatement_221 ?_
            refine ca_iload_n hX (q := 247) 2 rfl rfl rfl dX6_readsStatement_246 ?_
            refine ca_if_eq hX (q := 250) 259 rfl rfl dX6_readsStatement_247 (fun b247 => ?_) (fun b247 => ?_)
            · refine ca_iconst hX (q := 260) k_iconst_0 rfl dX6_readsStatement_259 ?_
              refine ca_zret hX rfl rfl rfl rfl rfl dX6_readsStatement_260 ?_
              have hFv : fcF (M 4) L pl = 6 + c6n := by rw [hFc]; simp [fcS, f0, f1, f2, f4, f6, q1, q2, q4, q6] <;> (intro z; omega)
              exact ⟨_, hm, hrd, hfr, Or.inr ⟨rfl, fun z => by have := z.2; rw [hFv, hl] at this; omega, by rw [hFv]; first | exact h5 | (rw [upB_n _ _ _ (by omega)]; exact h5) | (rw [← Nat.add_assoc]; exact h5) | (rw [upB_n _ _ _ (by omega), ← Nat.add_assoc]; exact h5)⟩⟩
            · exact absurd rfl b247
          · have q6 : c6n = 1 := Classical.byContradiction (fun z => b212 (if_neg z))
            rw [q6] at h5 f6
            have n3 := hnu q6
            refine ca_iconst hX (q := 216) k_iconst_1 rfl dX6_readsStatement_215 ?_
            refine ca_goto hX 220 rfl dX6_readsStatement_216 ?_
            refine ca_istore_n hX (q := 221) 2 rfl (ls' := [_, _, _]) (Nat.le_of_ble_eq_true rfl) (Nat.le_of_ble_eq_true rfl) (Or.inr rfl) rfl rfl dX6_readsStatement_220 ?_
            refine ca_goto hX 246 rfl dX6_readsStatement_221 ?_
            refine ca_iload_n hX (q := 247) 2 rfl rfl rfl dX6_readsStatement_246 ?_
            refine ca_if_eq hX (q := 250) 259 rfl rfl dX6_readsStatement_247 (fun b247 => ?_) (fun b247 => ?_)
            · exact absurd b247 (by decide)
            · have h5z : Md 13 5 = nI (pl + 7) := h5
              have hrdz := hrd
              have hnums : Md 12 0 = _ ∧ Md 12 1 = _ ∧ Md 12 2 = _ ∧ Md 12 3 = _ := ⟨n0, n1, n2, n3⟩
              refine ca_aload_n hX (q := 251) 0 rfl rfl rfl dX6_readsStatement_250 ?_
              refine ca_cVi hX (q := 254) y_X6_here w_ml_X6_124 (by omega) hN c0 (c_X6_here l N g o _ hm ho L (by first | (rw [hrd.2 1 (by omega)]; exact h131) | (rw [upB_n _ _ _ (by omega), hrd.2 1 (by omega)]; exact h131)) hL _ (by omega) h5z) (by decide) rfl (Nat.le_of_ble_eq_true rfl) rfl dX6_readsStatement_251 rfl ?_
              refine ca_bipush hX (q := 256) k_bipush_59 rfl dX6_readsStatement_254 ?_
              rw [hrdz.1 4 (by omega) (by omega)]
              refine ca_icmp_eq hX (q := 259) 261 rfl rfl dX6_readsStatement_256 (fun b256 => ?_) (fun b256 => ?_)
              · have hsem := b256
                refine ca_aload_n hX (q := 262) 0 rfl rfl rfl dX6_readsStatement_261 ?_
                refine ca_dup hX (q := 263) rfl rfl dX6_readsStatement_262 ?_
                refine ca_getf hX (q := 266) cl_X6 17 (by decide) w_fl_X6_121 (by omega) c0 rfl rfl dX6_readsStatement_263 ?_
                refine ca_iconst hX (q := 267) k_iconst_1 rfl dX6_readsStatement_266 ?_
                refine ca_iadd hX (q := 268) rfl dX6_readsStatement_267 ?_
                refine ca_puti hX (q := 271) (fs' := [_, _, _, _, _, _, _, _, _, _, _, _, _, _, _, _, _, _, _, _]) cl_X6 17 (by decide) w_fl_X6_121 rfl rfl (by omega) hN c0 (Nat.le_of_ble_eq_true rfl) rfl rfl dX6_readsStatement_268 (fun g hE hF => ?_)
                have hm := md_s5 hm hE hF
                obtain ⟨c0, c1, c2, c3, c4, c5, c6, c7, c8, c9, c10, c11, c12, c13⟩ := id hm
                have hfr := frG.tr hfr (fun j hj => hF j (by omega))
                refine ca_iconst hX (q := 272) k_iconst_1 rfl dX6_readsStatement_271 ?_
                refine ca_zret hX rfl rfl rfl rfl rfl dX6_readsStatement_272 ?_
                have fl : fcN (uF (M 4) L pl 3) 7 1 = 7 + 1 := by rw [seg_eq (M 4) L pl (by decide) (by decide) (by decide) (by decide), if_pos (show hrI (M 4) L (pl + 7) = sgF 3 7 from hsem)]
                have hFv : fcF (M 4) L pl = 8 := by rw [hFc]; simp [fcS, f0, f1, f2, f4, f6, q1, q2, q4, q6, fl]
                refine ⟨_, hm, hrdz.pl _, hfr, Or.inl ⟨rfl, ⟨by rw [hl]; decide, by rw [hFv, hl]⟩, by rw [upB_s, upd_s, hl, h5z]; exact nI_add _ 1, ?_⟩⟩
                refine ⟨fun z => ?_, fun z => ?_, fun z => ?_, fun z => ?_, fun z => ?_⟩ <;> first | (rw [hk] at z; exact absurd z (by decide)) | (simp only [upB_n _ _ _ (show (12 : Nat) ≠ 13 by decide)]; exact hnums)
              · have hsem := b256
                refine ca_iconst hX (q := 260) k_iconst_0 rfl dX6_readsStatement_259 ?_
                refine ca_zret hX rfl rfl rfl rfl rfl dX6_readsStatement_260 ?_
                have fl : fcN (uF (M 4) L pl 3) 7 1 = 7 := by rw [seg_eq (M 4) L pl (by decide) (by decide) (by decide) (by decide), if_neg (show ¬ hrI (M 4) L (pl + 7) = sgF 3 7 from hsem)]
                have hFv : fcF (M 4) L pl = 7 := by rw [hFc]; simp [fcS, f0, f1, f2, f4, f6, q1, q2, q4, q6, fl]
                exact ⟨_, hm, hrdz, hfr, Or.inr ⟨rfl, fun z => by have := z.2; rw [hFv, hl] at this; omega, by rw [hFv]; exact h5z⟩⟩
  by_cases e16_108 : hrI (M 4) L pl = 108
  · refine ca_tabIn hX 234 dX6_readsStatement_16 (by rw [e16_108]; decide) (by rw [e16_108]; decide) (by rw [e16_108]; rfl) rfl ?_
    refine ca_aload_n hX (q := 235) 0 rfl rfl rfl dX6_readsStatement_234 ?_
    refine ca_dup hX (q := 236) rfl rfl dX6_readsStatement_235 ?_
    refine ca_getf hX (q := 239) cl_X6 17 (by decide) w_fl_X6_121 (by omega) c0 rfl rfl dX6_readsStatement_236 ?_
    refine ca_iconst hX (q := 240) k_iconst_1 rfl dX6_readsStatement_239 ?_
    refine ca_isub hX (q := 241) rfl dX6_readsStatement_240 ?_
    refine ca_puti hX (q := 244) (fs' := [_, _, _, _, _, _, _, _, _, _, _, _, _, _, _, _, _, _, _, _]) cl_X6 17 (by decide) w_fl_X6_121 rfl rfl (by omega) hN c0 (Nat.le_of_ble_eq_true rfl) rfl rfl dX6_readsStatement_241 (fun g hE hF => ?_)
    have hm := md_s5 hm hE hF
    obtain ⟨c0, c1, c2, c3, c4, c5, c6, c7, c8, c9, c10, c11, c12, c13⟩ := id hm
    have hfr := frG.tr hfr (fun j hj => hF j (by omega))
    refine ca_iconst hX (q := 245) k_iconst_0 rfl dX6_readsStatement_244 ?_
    refine ca_zret hX rfl rfl rfl rfl rfl dX6_readsStatement_245 ?_
    have hk : kF (M 4) L pl = 5 := k_no (fun z => absurd (e16_108.symm.trans z) (by decide)) (fun z => absurd (e16_108.symm.trans z) (by decide)) (fun z => absurd (e16_108.symm.trans z) (by decide)) (fun z => absurd (e16_108.symm.trans z) (by decide)) (fun z => absurd (e16_108.symm.trans z) (by decide))
    have e5 : M1 13 5 - 1 = nI pl := by rw [h5]; exact nI_m1 (by omega)
    rw [e5] at hm
    exact ⟨_, hm, hrd.pl _, hfr, Or.inr ⟨rfl, fun z => by have := z.1; rw [hk] at this; exact absurd this (by decide), by rw [upB_s, upd_s]; unfold fcF; rw [hk]; rfl⟩⟩
  by_cases e16_109 : hrI (M 4) L pl = 109
  · refine ca_tabIn hX 234 dX6_readsStatement_16 (by rw [e16_109]; decide) (by rw [e16_109]; decide) (by rw [e16_109]; rfl) rfl ?_
    refine ca_aload_n hX (q := 235) 0 rfl rfl rfl dX6_readsStatement_234 ?_
    refine ca_dup hX (q := 236) rfl rfl dX6_readsStatement_235 ?_
    refine ca_getf hX (q := 239) cl_X6 17 (by decide) w_fl_X6_121 (by omega) c0 rfl rfl dX6_readsStatement_236 ?_
    refine ca_iconst hX (q := 240) k_iconst_1 rfl dX6_readsStatement_239 ?_
    refine ca_isub hX (q := 241) rfl dX6_readsStatement_240 ?_
    refine ca_puti hX (q := 244) (fs' := [_, _, _, _, _, _, _, _, _, _, _, _, _, _, _, _, _, _, _, _]) cl_X6 17 (by decide) w_fl_X6_121 rfl rfl (by omega) hN c0 (Nat.le_of_ble_eq_true rfl) rfl rfl dX6_readsStatement_241 (fun g hE hF => ?_)
    have hm := md_s5 hm hE hF
    obtain ⟨c0, c1, c2, c3, c4, c5, c6, c7, c8, c9, c10, c11, c12, c13⟩ := id hm
    have hfr := frG.tr hfr (fun j hj => hF j (by omega))
    refine ca_iconst hX (q := 245) k_iconst_0 rfl dX6_readsStatement_244 ?_
    refine ca_zret hX rfl rfl rfl rfl rfl dX6_readsStatement_245 ?_
    have hk : kF (M 4) L pl = 5 := k_no (fun z => absurd (e16_109.symm.trans z) (by decide)) (fun z => absurd (e16_109.symm.trans z) (by decide)) (fun z => absurd (e16_109.symm.trans z) (by decide)) (fun z => absurd (e16_109.symm.trans z) (by decide)) (fun z => absurd (e16_109.symm.trans z) (by decide))
    have e5 : M1 13 5 - 1 = nI pl := by rw [h5]; exact nI_m1 (by omega)
    rw [e5] at hm
    exact ⟨_, hm, hrd.pl _, hfr, Or.inr ⟨rfl, fun z => by have := z.1; rw [hk] at this; exact absurd this (by decide), by rw [upB_s, upd_s]; unfold fcF; rw [hk]; rfl⟩⟩
  by_cases e16_110 : hrI (M 4) L pl = 110
  · refine ca_tabIn hX 224 dX6_readsStatement_16 (by rw [e16_110]; decide) (by rw [e16_110]; decide) (by rw [e16_110]; rfl) rfl ?_
    have hk : kF (M 4) L pl = 4 := by show fmI (atM (M 4) L pl) = 4; rw [k_hr e16_110 (by decide)]; rfl
    have hl : lenF (kF (M 4) L pl) = 4 := by rw [hk]; rfl
    have f0 : fcN (uF (M 4) L pl 4) 0 1 = 1 := by rw [seg_eq (M 4) L pl (by decide) (by decide) (by decide) (by decide), Nat.add_zero, e16_110]; rfl
    have hFc : fcF (M 4) L pl = fcS (uF (M 4) L pl 4) 0 [1, 2, 1] := by unfold fcF; rw [hk, ← fc_S]; rfl
    refine ca_aload_n hX (q := 225) 0 rfl rfl rfl dX6_readsStatement_224 ?_
    refine ca_iconst hX (q := 226) k_iconst_0 rfl dX6_readsStatement_225 ?_
    refine ca_iconst hX (q := 227) k_iconst_2 rfl dX6_readsStatement_226 ?_
    refine ca_cV hX (q := 230) y_X6_readsNumber w_ml_X6_134 (by omega) hN c0 (c_X6_readsNumber l N g o M1 hm ho L (by rw [hrd.2 1 (by omega)]; exact h131) hL (pl + 1) (by omega) h5 0 (by omega) 2 (by omega)) (by decide) rfl (Nat.le_of_ble_eq_true rfl) rfl dX6_readsStatement_227 rfl ?_
    rintro _ g ⟨c1n, Ma, rfl, hc1, hfs, hm, hr2, hf, h5, hnu, hoth⟩
    rw [(hrd.1 4 (by omega) (by omega))] at hfs hnu
    have f1 : fcN (uF (M 4) L pl 4) 1 2 = 1 + c1n := by rw [seg_dg (M 4) L pl (by decide) (by decide), hfs]
    have hrd := hrd.tr hr2
    have hfr := hfr.tr hf
    obtain ⟨c0, c1, c2, c3, c4, c5, c6, c7, c8, c9, c10, c11, c12, c13⟩ := id hm
    refine ca_istore_n hX (q := 231) 2 rfl (ls' := [_, _, _]) (Nat.le_of_ble_eq_true rfl) (Nat.le_of_ble_eq_true rfl) (Or.inr rfl) rfl rfl dX6_readsStatement_230 ?_
    refine ca_goto hX 246 rfl dX6_readsStatement_231 ?_
    refine ca_iload_n hX (q := 247) 2 rfl rfl rfl dX6_readsStatement_246 ?_
    refine ca_if_eq hX (q := 250) 259 rfl rfl dX6_readsStatement_247 (fun b247 => ?_) (fun b247 => ?_)
    · refine ca_iconst hX (q := 260) k_iconst_0 rfl dX6_readsStatement_259 ?_
      refine ca_zret hX rfl rfl rfl rfl rfl dX6_readsStatement_260 ?_
      have q1 : ¬ c1n = 2 := fun z => by rw [if_pos z] at b247; exact absurd b247 (by decide)
      have hFv : fcF (M 4) L pl = 1 + c1n := by rw [hFc]; simp [fcS, f0, f1, q1] <;> (intro z; omega)
      exact ⟨_, hm, hrd, hfr, Or.inr ⟨rfl, fun z => by have := z.2; rw [hFv, hl] at this; omega, by rw [hFv]; first | exact h5 | (rw [upB_n _ _ _ (by omega)]; exact h5) | (rw [← Nat.add_assoc]; exact h5) | (rw [upB_n _ _ _ (by omega), ← Nat.add_assoc]; exact h5)⟩⟩
    · have q1 : c1n = 2 := Classical.byContradiction (fun z => b247 (if_neg z))
      rw [q1] at h5 f1
      have n0 := hnu q1
      have h5z : Ma 13 5 = nI (pl + 3) := h5
      have hrdz := hrd
      have hnums := n0
      refine ca_aload_n hX (q := 251) 0 rfl rfl rfl dX6_readsStatement_250 ?_
      refine ca_cVi hX (q := 254) y_X6_here w_ml_X6_124 (by omega) hN c0 (c_X6_here l N g o _ hm ho L (by first | (rw [hrd.2 1 (by omega)]; exact h131) | (rw [upB_n _ _ _ (by omega), hrd.2 1 (by omega)]; exact h131)) hL _ (by omega) h5z) (by decide) rfl (Nat.le_of_ble_eq_true rfl) rfl dX6_readsStatement_251 rfl ?_
      refine ca_bipush hX (q := 256) k_bipush_59 rfl dX6_readsStatement_254 ?_
      rw [hrdz.1 4 (by omega) (by omega)]
      refine ca_icmp_eq hX (q := 259) 261 rfl rfl dX6_readsStatement_256 (fun b256 => ?_) (fun b256 => ?_)
      · have hsem := b256
        refine ca_aload_n hX (q := 262) 0 rfl rfl rfl dX6_readsStatement_261 ?_
        refine ca_dup hX (q := 263) rfl rfl dX6_readsStatement_262 ?_
        refine ca_getf hX (q := 266) cl_X6 17 (by decide) w_fl_X6_121 (by omega) c0 rfl rfl dX6_readsStatement_263 ?_
        refine ca_iconst hX (q := 267) k_iconst_1 rfl dX6_readsStatement_266 ?_
        refine ca_iadd hX (q := 268) rfl dX6_readsStatement_267 ?_
        refine ca_puti hX (q := 271) (fs' := [_, _, _, _, _, _, _, _, _, _, _, _, _, _, _, _, _, _, _, _]) cl_X6 17 (by decide) w_fl_X6_121 rfl rfl (by omega) hN c0 (Nat.le_of_ble_eq_true rfl) rfl rfl dX6_readsStatement_268 (fun g hE hF => ?_)
        have hm := md_s5 hm hE hF
        obtain ⟨c0, c1, c2, c3, c4, c5, c6, c7, c8, c9, c10, c11, c12, c13⟩ := id hm
        have hfr := frG.tr hfr (fun j hj => hF j (by omega))
        refine ca_iconst hX (q := 272) k_iconst_1 rfl dX6_readsStatement_271 ?_
        refine ca_zret hX rfl rfl rfl rfl rfl dX6_readsStatement_272 ?_
        have fl : fcN (uF (M 4) L pl 4) 3 1 = 3 + 1 := by rw [seg_eq (M 4) L pl (by decide) (by decide) (by decide) (by decide), if_pos (show hrI (M 4) L (pl + 3) = sgF 4 3 from hsem)]
        have hFv : fcF (M 4) L pl = 4 := by rw [hFc]; simp [fcS, f0, f1, q1, fl]
        refine ⟨_, hm, hrdz.pl _, hfr, Or.inl ⟨rfl, ⟨by rw [hl]; decide, by rw [hFv, hl]⟩, by rw [upB_s, upd_s, hl, h5z]; exact nI_add _ 1, ?_⟩⟩
        refine ⟨fun z => ?_, fun z => ?_, fun z => ?_, fun z => ?_, fun z => ?_⟩ <;> first | (rw [hk] at z; exact absurd z (by decide)) | (simp only [upB_n _ _ _ (show (12 : Nat) ≠ 13 by decide)]; exact hnums)
      · have hsem := b256
        refine ca_iconst hX (q := 260) k_iconst_0 rfl dX6_readsStatement_259 ?_
        refine ca_zret hX rfl rfl rfl rfl rfl dX6_readsStatement_260 ?_
        have fl : fcN (uF (M 4) L pl 4) 3 1 = 3 := by rw [seg_eq (M 4) L pl (by decide) (by decide) (by decide) (by decide), if_neg (show ¬ hrI (M 4) L (pl + 3) = sgF 4 3 from hsem)]
        have hFv : fcF (M 4) L pl = 3 := by rw [hFc]; simp [fcS, f0, f1, q1, fl]
        exact ⟨_, hm, hrdz, hfr, Or.inr ⟨rfl, fun z => by have := z.2; rw [hFv, hl] at this; omega, by rw [hFv]; exact h5z⟩⟩
  by_cases e16_111 : hrI (M 4) L pl = 111
  · refine ca_tabIn hX 234 dX6_readsStatement_16 (by rw [e16_111]; decide) (by rw [e16_111]; decide) (by rw [e16_111]; rfl) rfl ?_
    refine ca_aload_n hX (q := 235) 0 rfl rfl rfl dX6_readsStatement_234 ?_
    refine ca_dup hX (q := 236) rfl rfl dX6_readsStatement_235 ?_
    refine ca_getf hX (q := 239) cl_X6 17 (by decide) w_fl_X6_121 (by omega) c0 rfl rfl dX6_readsStatement_236 ?_
    refine ca_iconst hX (q := 240) k_iconst_1 rfl dX6_readsStatement_239 ?_
    refine ca_isub hX (q := 241) rfl dX6_readsStatement_240 ?_
    refine ca_puti hX (q := 244) (fs' := [_, _, _, _, _, _, _, _, _, _, _, _, _, _, _, _, _, _, _, _]) cl_X6 17 (by decide) w_fl_X6_121 rfl rfl (by omega) hN c0 (Nat.le_of_ble_eq_true rfl) rfl rfl dX6_readsStatement_241 (fun g hE hF => ?_)
    have hm := md_s5 hm hE hF
    obtain ⟨c0, c1, c2, c3, c4, c5, c6, c7, c8, c9, c10, c11, c12, c13⟩ := id hm
    have hfr := frG.tr hfr (fun j hj => hF j (by omega))
    refine ca_iconst hX (q := 245) k_iconst_0 rfl dX6_readsStatement_244 ?_
    refine ca_zret hX rfl rfl rfl rfl rfl dX6_readsStatement_245 ?_
    have hk : kF (M 4) L pl = 5 := k_no (fun z => absurd (e16_111.symm.trans z) (by decide)) (fun z => absurd (e16_111.symm.trans z) (by decide)) (fun z => absurd (e16_111.symm.trans z) (by decide)) (fun z => absurd (e16_111.symm.trans z) (by decide)) (fun z => absurd (e16_111.symm.trans z) (by decide))
    have e5 : M1 13 5 - 1 = nI pl := by rw [h5]; exact nI_m1 (by omega)
    rw [e5] at hm
    exact ⟨_, hm, hrd.pl _, hfr, Or.inr ⟨rfl, fun z => by have := z.1; rw [hk] at this; exact absurd this (by decide), by rw [upB_s, upd_s]; unfold fcF; rw [hk]; rfl⟩⟩
  by_cases e16_112 : hrI (M 4) L pl = 112
  · refine ca_tabIn hX 169 dX6_readsStatement_16 (by rw [e16_112]; decide) (by rw [e16_112]; decide) (by rw [e16_112]; rfl) rfl ?_
    have hk : kF (M 4) L pl = 2 := by show fmI (atM (M 4) L pl) = 2; rw [k_hr e16_112 (by decide)]; rfl
    have hl : lenF (kF (M 4) L pl) = 3 := by rw [hk]; rfl
    have f0 : fcN (uF (M 4) L pl 2) 0 1 = 1 := by rw [seg_eq (M 4) L pl (by decide) (by decide) (by decide) (by decide), Nat.add_zero, e16_112]; rfl
    have hFc : fcF (M 4) L pl = fcS (uF (M 4) L pl 2) 0 [1, 1, 1] := by unfold fcF; rw [hk, ← fc_S]; rfl
    refine ca_aload_n hX (q := 170) 0 rfl rfl rfl dX6_readsStatement_169 ?_
    refine ca_iconst hX (q := 171) k_iconst_0 rfl dX6_readsStatement_170 ?_
    refine ca_iconst hX (q := 172) k_iconst_1 rfl dX6_readsStatement_171 ?_
    refine ca_cV hX (q := 175) y_X6_readsNumber w_ml_X6_134 (by omega) hN c0 (c_X6_readsNumber l N g o M1 hm ho L (by rw [hrd.2 1 (by omega)]; exact h131) hL (pl + 1) (by omega) h5 0 (by omega) 1 (by omega)) (by decide) rfl (Nat.le_of_ble_eq_true rfl) rfl dX6_readsStatement_172 rfl ?_
    rintro _ g ⟨c1n, Ma, rfl, hc1, hfs, hm, hr2, hf, h5, hnu, hoth⟩
    rw [(hrd.1 4 (by omega) (by omega))] at hfs hnu
    have f1 : fcN (uF (M 4) L pl 2) 1 1 = 1 + c1n := by rw [seg_dg (M 4) L pl (by decide) (by decide), hfs]
    have hrd := hrd.tr hr2
    have hfr := hfr.tr hf
    obtain ⟨c0, c1, c2, c3, c4, c5, c6, c7, c8, c9, c10, c11, c12, c13⟩ := id hm
    refine ca_istore_n hX (q := 176) 2 rfl (ls' := [_, _, _]) (Nat.le_of_ble_eq_true rfl) (Nat.le_of_ble_eq_true rfl) (Or.inr rfl) rfl rfl dX6_readsStatement_175 ?_
    refine ca_goto hX 246 rfl dX6_readsStatement_176 ?_
    refine ca_iload_n hX (q := 247) 2 rfl rfl rfl dX6_readsStatement_246 ?_
    refine ca_if_eq hX (q := 250) 259 rfl rfl dX6_readsStatement_247 (fun b247 => ?_) (fun b247 => ?_)
    · refine ca_iconst hX (q := 260) k_iconst_0 rfl dX6_readsStatement_259 ?_
      refine ca_zret hX rfl rfl rfl rfl rfl dX6_readsStatement_260 ?_
      have q1 : ¬ c1n = 1 := fun z => by rw [if_pos z] at b247; exact absurd b247 (by decide)
      have hFv : fcF (M 4) L pl = 1 + c1n := by rw [hFc]; simp [fcS, f0, f1, q1] <;> (intro z; omega)
      exact ⟨_, hm, hrd, hfr, Or.inr ⟨rfl, fun z => by have := z.2; rw [hFv, hl] at this; omega, by rw [hFv]; first | exact h5 | (rw [upB_n _ _ _ (by omega)]; exact h5) | (rw [← Nat.add_assoc]; exact h5) | (rw [upB_n _ _ _ (by omega), ← Nat.add_assoc]; exact h5)⟩⟩
    · have q1 : c1n = 1 := Classical.byContradiction (fun z => b247 (if_neg z))
      rw [q1] at h5 f1
      have n0 := hnu q1
      have h5z : Ma 13 5 = nI (pl + 2) := h5
      have hrdz := hrd
      have hnums := n0
      refine ca_aload_n hX (q := 251) 0 rfl rfl rfl dX6_readsStatement_250 ?_
      refine ca_cVi hX (q := 254) y_X6_here w_ml_X6_124 (by omega) hN c0 (c_X6_here l N g o _ hm ho L (by first | (rw [hrd.2 1 (by omega)]; exact h131) | (rw [upB_n _ _ _ (by omega), hrd.2 1 (by omega)]; exact h131)) hL _ (by omega) h5z) (by decide) rfl (Nat.le_of_ble_eq_true rfl) rfl dX6_readsStatement_251 rfl ?_
      refine ca_bipush hX (q := 256) k_bipush_59 rfl dX6_readsStatement_254 ?_
      rw [hrdz.1 4 (by omega) (by omega)]
      refine ca_icmp_eq hX (q := 259) 261 rfl rfl dX6_readsStatement_256 (fun b256 => ?_) (fun b256 => ?_)
      · have hsem := b256
        refine ca_aload_n hX (q := 262) 0 rfl rfl rfl dX6_readsStatement_261 ?_
        refine ca_dup hX (q := 263) rfl rfl dX6_readsStatement_262 ?_
        refine ca_getf hX (q := 266) cl_X6 17 (by decide) w_fl_X6_121 (by omega) c0 rfl rfl dX6_readsStatement_263 ?_
        refine ca_iconst hX (q := 267) k_iconst_1 rfl dX6_readsStatement_266 ?_
        refine ca_iadd hX (q := 268) rfl dX6_readsStatement_267 ?_
        refine ca_puti hX (q := 271) (fs' := [_, _, _, _, _, _, _, _, _, _, _, _, _, _, _, _, _, _, _, _]) cl_X6 17 (by decide) w_fl_X6_121 rfl rfl (by omega) hN c0 (Nat.le_of_ble_eq_true rfl) rfl rfl dX6_readsStatement_268 (fun g hE hF => ?_)
        have hm := md_s5 hm hE hF
        obtain ⟨c0, c1, c2, c3, c4, c5, c6, c7, c8, c9, c10, c11, c12, c13⟩ := id hm
        have hfr := frG.tr hfr (fun j hj => hF j (by omega))
        refine ca_iconst hX (q := 272) k_iconst_1 rfl dX6_readsStatement_271 ?_
        refine ca_zret hX rfl rfl rfl rfl rfl dX6_readsStatement_272 ?_
        have fl : fcN (uF (M 4) L pl 2) 2 1 = 2 + 1 := by rw [seg_eq (M 4) L pl (by decide) (by decide) (by decide) (by decide), if_pos (show hrI (M 4) L (pl + 2) = sgF 2 2 from hsem)]
        have hFv : fcF (M 4) L pl = 3 := by rw [hFc]; simp [fcS, f0, f1, q1, fl]
        refine ⟨_, hm, hrdz.pl _, hfr, Or.inl ⟨rfl, ⟨by rw [hl]; decide, by rw [hFv, hl]⟩, by rw [upB_s, upd_s, hl, h5z]; exact nI_add _ 1, ?_⟩⟩
        refine ⟨fun z => ?_, fun z => ?_, fun z => ?_, fun z => ?_, fun z => ?_⟩ <;> first | (rw [hk] at z; exact absurd z (by decide)) | (simp only [upB_n _ _ _ (show (12 : Nat) ≠ 13 by decide)]; exact hnums)
      · have hsem := b256
        refine ca_iconst hX (q := 260) k_iconst_0 rfl dX6_readsStatement_259 ?_
        refine ca_zret hX rfl rfl rfl rfl rfl dX6_readsStatement_260 ?_
        have fl : fcN (uF (M 4) L pl 2) 2 1 = 2 := by rw [seg_eq (M 4) L pl (by decide) (by decide) (by decide) (by decide), if_neg (show ¬ hrI (M 4) L (pl + 2) = sgF 2 2 from hsem)]
        have hFv : fcF (M 4) L pl = 2 := by rw [hFc]; simp [fcS, f0, f1, q1, fl]
        exact ⟨_, hm, hrdz, hfr, Or.inr ⟨rfl, fun z => by have := z.2; rw [hFv, hl] at this; omega, by rw [hFv]; exact h5z⟩⟩
  by_cases e16_113 : hrI (M 4) L pl = 113
  · refine ca_tabIn hX 234 dX6_readsStatement_16 (by rw [e16_113]; decide) (by rw [e16_113]; decide) (by rw [e16_113]; rfl) rfl ?_
    refine ca_aload_n hX (q := 235) 0 rfl rfl rfl dX6_readsStatement_234 ?_
    refine ca_dup hX (q := 236) rfl rfl dX6_readsStatement_235 ?_
    refine ca_getf hX (q := 239) cl_X6 17 (by decide) w_fl_X6_121 (by omega) c0 rfl rfl dX6_readsStatement_236 ?_
    refine ca_iconst hX (q := 240) k_iconst_1 rfl dX6_readsStatement_239 ?_
    refine ca_isub hX (q := 241) rfl dX6_readsStatement_240 ?_
    refine ca_puti hX (q := 244) (fs' := [_, _, _, _, _, _, _, _, _, _, _, _, _, _, _, _, _, _, _, _]) cl_X6 17 (by decide) w_fl_X6_121 rfl rfl (by omega) hN c0 (Nat.le_of_ble_eq_true rfl) rfl rfl dX6_readsStatement_241 (fun g hE hF => ?_)
    have hm := md_s5 hm hE hF
    obtain ⟨c0, c1, c2, c3, c4, c5, c6, c7, c8, c9, c10, c11, c12, c13⟩ := id hm
    have hfr := frG.tr hfr (fun j hj => hF j (by omega))
    refine ca_iconst hX (q := 245) k_iconst_0 rfl dX6_readsStatement_244 ?_
    refine ca_zret hX rfl rfl rfl rfl rfl dX6_readsStatement_245 ?_
    have hk : kF (M 4) L pl = 5 := k_no (fun z => absurd (e16_113.symm.trans z) (by decide)) (fun z => absurd (e16_113.symm.trans z) (by decide)) (fun z => absurd (e16_113.symm.trans z) (by decide)) (fun z => absurd (e16_113.symm.trans z) (by decide)) (fun z => absurd (e16_113.symm.trans z) (by decide))
    have e5 : M1 13 5 - 1 = nI pl := by rw [h5]; exact nI_m1 (by omega)
    rw [e5] at hm
    exact ⟨_, hm, hrd.pl _, hfr, Or.inr ⟨rfl, fun z => by have := z.1; rw [hk] at this; exact absurd this (by decide), by rw [upB_s, upd_s]; unfold fcF; rw [hk]; rfl⟩⟩
  by_cases e16_114 : hrI (M 4) L pl = 114
  · refine ca_tabIn hX 80 dX6_readsStatement_16 (by rw [e16_114]; decide) (by rw [e16_114]; decide) (by rw [e16_114]; rfl) rfl ?_
    have hk : kF (M 4) L pl = 0 := by show fmI (atM (M 4) L pl) = 0; rw [k_hr e16_114 (by decide)]; rfl
    have hl : lenF (kF (M 4) L pl) = 6 := by rw [hk]; rfl
    have f0 : fcN (uF (M 4) L pl 0) 0 1 = 1 := by rw [seg_eq (M 4) L pl (by decide) (by decide) (by decide) (by decide), Nat.add_zero, e16_114]; rfl
    have hFc : fcF (M 4) L pl = fcS (uF (M 4) L pl 0) 0 [1, 1, 2, 1, 1] := by unfold fcF; rw [hk, ← fc_S]; rfl
    refine ca_aload_n hX (q := 81) 0 rfl rfl rfl dX6_readsStatement_80 ?_
    refine ca_cV hX (q := 84) y_X6_readsKind w_ml_X6_131 (by omega) hN c0 (c_X6_readsKind l N g o M1 hm ho L (by rw [hrd.2 1 (by omega)]; exact h131) hL (pl + 1) (by omega) h5) (by decide) rfl (Nat.le_of_ble_eq_true rfl) rfl dX6_readsStatement_81 rfl ?_
    rintro _ g ⟨Ma, rfl, hm, hr2, hf, h5, n0, hoth⟩
    rw [(hrd.1 4 (by omega) (by omega))] at h5 n0
    have f1 := seg_kd (M 4) L pl (K := 0) (by decide) (by decide) (by decide)
    rw [(hrd.1 4 (by omega) (by omega))]
    have hrd := hrd.tr hr2
    have hfr := hfr.tr hf
    obtain ⟨c0, c1, c2, c3, c4, c5, c6, c7, c8, c9, c10, c11, c12, c13⟩ := id hm
    refine ca_if_eq hX (q := 87) 109 rfl rfl dX6_readsStatement_84 (fun b84 => ?_) (fun b84 => ?_)
    · have q1 : klI (hrI (M 4) L (pl + 1)) = -9 := Classical.byContradiction (fun z => by rw [if_neg z] at b84; exact absurd b84 (by decide))
      rw [if_pos q1] at h5
      refine ca_iconst hX (q := 110) k_iconst_0 rfl dX6_readsStatement_109 ?_
      refine ca_istore_n hX (q := 111) 2 rfl (ls' := [_, _, _]) (Nat.le_of_ble_eq_true rfl) (Nat.le_of_ble_eq_true rfl) (Or.inr rfl) rfl rfl dX6_readsStatement_110 ?_
      refine ca_aload_n hX (q := 112) 0 rfl rfl rfl dX6_readsStatement_111 ?_
      refine ca_getf hX (q := 115) cl_X6 18 (by decide) w_fl_X6_46 (by omega) c0 rfl rfl dX6_readsStatement_112 ?_
      refine ca_iconst hX (q := 116) k_iconst_2 rfl dX6_readsStatement_115 ?_
      refine ca_aload_n hX (q := 117) 0 rfl rfl rfl dX6_readsStatement_116 ?_
      refine ca_getf hX (q := 120) cl_X6 18 (by decide) w_fl_X6_46 (by omega) c0 rfl rfl dX6_readsStatement_117 ?_
      refine ca_iconst hX (q := 121) k_iconst_1 rfl dX6_readsStatement_120 ?_
      refine ca_iaN hX (q := 122) (k := 1) (by omega) c13 (by decide) rfl (by omega) rfl dX6_readsStatement_121 ?_
      refine ca_iaS hX (q := 123) (k := 2) (by omega) hN (Nat.le_refl _) c13 (by decide) rfl (by omega) rfl dX6_readsStatement_122 (fun g hE hF => ?_)
      have hm := md_a12 hm hE hF
      obtain ⟨c0, c1, c2, c3, c4, c5, c6, c7, c8, c9, c10, c11, c12, c13⟩ := id hm
      have hfr := frG.tr hfr (fun j hj => hF j (by omega))
      refine ca_goto hX 246 rfl dX6_readsStatement_123 ?_
      refine ca_iload_n hX (q := 247) 2 rfl rfl rfl dX6_readsStatement_246 ?_
      refine ca_if_eq hX (q := 250) 259 rfl rfl dX6_readsStatement_247 (fun b247 => ?_) (fun b247 => ?_)
      · refine ca_iconst hX (q := 260) k_iconst_0 rfl dX6_readsStatement_259 ?_
        refine ca_zret hX rfl rfl rfl rfl rfl dX6_readsStatement_260 ?_
        have hFv : fcF (M 4) L pl = 1 := by rw [hFc]; simp [fcS, f0, f1, q1] <;> (intro z; omega)
        exact ⟨_, hm, (hrd.nu _ _), hfr, Or.inr ⟨rfl, fun z => by have := z.2; rw [hFv, hl] at this; omega, by rw [hFv]; first | exact h5 | (rw [upB_n _ _ _ (by omega)]; exact h5) | (rw [← Nat.add_assoc]; exact h5) | (rw [upB_n _ _ _ (by omega), ← Nat.add_assoc]; exact h5)⟩⟩
      · exact absurd rfl b247
    · have q1 : ¬ klI (hrI (M 4) L (pl + 1)) = -9 := fun z => b84 (if_pos z)
      rw [if_neg q1] at h5
      refine ca_aload_n hX (q := 88) 0 rfl rfl rfl dX6_readsStatement_87 ?_
      refine ca_iconst hX (q := 89) k_iconst_1 rfl dX6_readsStatement_88 ?_
      refine ca_iconst hX (q := 90) k_iconst_2 rfl dX6_readsStatement_89 ?_
      refine ca_cV hX (q := 93) y_X6_readsNumber w_ml_X6_134 (by omega) hN c0 (c_X6_readsNumber l N g o Ma hm ho L (by rw [hrd.2 1 (by omega)]; exact h131) hL (pl + 2) (by omega) h5 1 (by omega) 2 (by omega)) (by decide) rfl (Nat.le_of_ble_eq_true rfl) rfl dX6_readsStatement_90 rfl ?_
      rintro _ g ⟨c2n, Mb, rfl, hc2, hfs, hm, hr2, hf, h5, hnu, hoth⟩
      rw [(hrd.1 4 (by omega) (by omega))] at hfs hnu
      have f2 : fcN (uF (M 4) L pl 0) 2 2 = 2 + c2n := by rw [seg_dg (M 4) L pl (by decide) (by decide), hfs]
      have hrd := hrd.tr hr2
      have hfr := hfr.tr hf
      have n0 := (hoth 0 (by omega)).trans n0
      obtain ⟨c0, c1, c2, c3, c4, c5, c6, c7, c8, c9, c10, c11, c12, c13⟩ := id hm
      refine ca_if_eq hX (q := 96) 109 rfl rfl dX6_readsStatement_93 (fun b93 => ?_) (fun b93 => ?_)
      · have q2 : ¬ c2n = 2 := fun z => by rw [if_pos z] at b93; exact absurd b93 (by decide)
        refine ca_iconst hX (q := 110) k_iconst_0 rfl dX6_readsStatement_109 ?_
        refine ca_istore_n hX (q := 111) 2 rfl (ls' := [_, _, _]) (Nat.le_of_ble_eq_true rfl) (Nat.le_of_ble_eq_true rfl) (Or.inr rfl) rfl rfl dX6_readsStatement_110 ?_
        refine ca_aload_n hX (q := 112) 0 rfl rfl rfl dX6_readsStatement_111 ?_
        refine ca_getf hX (q := 115) cl_X6 18 (by decide) w_fl_X6_46 (by omega) c0 rfl rfl dX6_readsStatement_112 ?_
        refine ca_iconst hX (q := 116) k_iconst_2 rfl dX6_readsStatement_115 ?_
        refine ca_aload_n hX (q := 117) 0 rfl rfl rfl dX6_readsStatement_116 ?_
        refine ca_getf hX (q := 120) cl_X6 18 (by decide) w_fl_X6_46 (by omega) c0 rfl rfl dX6_readsStatement_117 ?_
        refine ca_iconst hX (q := 121) k_iconst_1 rfl dX6_readsStatement_120 ?_
        refine ca_iaN hX (q := 122) (k := 1) (by omega) c13 (by decide) rfl (by omega) rfl dX6_readsStatement_121 ?_
        refine ca_iaS hX (q := 123) (k := 2) (by omega) hN (Nat.le_refl _) c13 (by decide) rfl (by omega) rfl dX6_readsStatement_122 (fun g hE hF => ?_)
        have hm := md_a12 hm hE hF
        obtain ⟨c0, c1, c2, c3, c4, c5, c6, c7, c8, c9, c10, c11, c12, c13⟩ := id hm
        have hfr := frG.tr hfr (fun j hj => hF j (by omega))
        refine ca_goto hX 246 rfl dX6_readsStatement_123 ?_
        refine ca_iload_n hX (q := 247) 2 rfl rfl rfl dX6_readsStatement_246 ?_
        refine ca_if_eq hX (q := 250) 259 rfl rfl dX6_readsStatement_247 (fun b247 => ?_) (fun b247 => ?_)
        · refine ca_iconst hX (q := 260) k_iconst_0 rfl dX6_readsStatement_259 ?_
          refine ca_zret hX rfl rfl rfl rfl rfl dX6_readsStatement_260 ?_
          have hFv : fcF (M 4) L pl = 2 + c2n := by rw [hFc]; simp [fcS, f0, f1, f2, q1, q2] <;> (intro z; omega)
          exact ⟨_, hm, (hrd.nu _ _), hfr, Or.inr ⟨rfl, fun z => by have := z.2; rw [hFv, hl] at this; omega, by rw [hFv]; first | exact h5 | (rw [upB_n _ _ _ (by omega)]; exact h5) | (rw [← Nat.add_assoc]; exact h5) | (rw [upB_n _ _ _ (by omega), ← Nat.add_assoc]; exact h5)⟩⟩
        · exact absurd rfl b247
      · have q2 : c2n = 2 := Classical.byContradiction (fun z => b93 (if_neg z))
        rw [q2] at h5 f2
        have n1 := hnu q2
        refine ca_aload_n hX (q := 97) 0 rfl rfl rfl dX6_readsStatement_96 ?_
        refine ca_iconst hX (q := 98) k_iconst_3 rfl dX6_readsStatement_97 ?_
        refine ca_iconst hX (q := 99) k_iconst_1 rfl dX6_readsStatement_98 ?_
        refine ca_cV hX (q := 102) y_X6_readsNumber w_ml_X6_134 (by omega) hN c0 (c_X6_readsNumber l N g o Mb hm ho L (by rw [hrd.2 1 (by omega)]; exact h131) hL (pl + 4) (by omega) h5 3 (by omega) 1 (by omega)) (by decide) rfl (Nat.le_of_ble_eq_true rfl) rfl dX6_readsStatement_99 rfl ?_
        rintro _ g ⟨c4n, Mc, rfl, hc4, hfs, hm, hr2, hf, h5, hnu, hoth⟩
        rw [(hrd.1 4 (by omega) (by omega))] at hfs hnu
        have f4 : fcN (uF (M 4) L pl 0) 4 1 = 4 + c4n := by rw [seg_dg (M 4) L pl (by decide) (by decide), hfs]
        have hrd := hrd.tr hr2
        have hfr := hfr.tr hf
        have n0 := (hoth 0 (by omega)).trans n0
        have n1 := (hoth 1 (by omega)).trans n1
        obtain ⟨c0, c1, c2, c3, c4, c5, c6, c7, c8, c9, c10, c11, c12, c13⟩ := id hm
        refine ca_if_eq hX (q := 105) 109 rfl rfl dX6_readsStatement_102 (fun b102 => ?_) (fun b102 => ?_)
        · have q4 : ¬ c4n = 1 := fun z => by rw [if_pos z] at b102; exact absurd b102 (by decide)
          refine ca_iconst hX (q := 110) k_iconst_0 rfl dX6_readsStatement_109 ?_
          refine ca_istore_n hX (q := 111) 2 rfl (ls' := [_, _, _]) (Nat.le_of_ble_eq_true rfl) (Nat.le_of_ble_eq_true rfl) (Or.inr rfl) rfl rfl dX6_readsStatement_110 ?_
          refine ca_aload_n hX (q := 112) 0 rfl rfl rfl dX6_readsStatement_111 ?_
          refine ca_getf hX (q := 115) cl_X6 18 (by decide) w_fl_X6_46 (by omega) c0 rfl rfl dX6_readsStatement_112 ?_
          refine ca_iconst hX (q := 116) k_iconst_2 rfl dX6_readsStatement_115 ?_
          refine ca_aload_n hX (q := 117) 0 rfl rfl rfl dX6_readsStatement_116 ?_
          refine ca_getf hX (q := 120) cl_X6 18 (by decide) w_fl_X6_46 (by omega) c0 rfl rfl dX6_readsStatement_117 ?_
          refine ca_iconst hX (q := 121) k_iconst_1 rfl dX6_readsStatement_120 ?_
          refine ca_iaN hX (q := 122) (k := 1) (by omega) c13 (by decide) rfl (by omega) rfl dX6_readsStatement_121 ?_
          refine ca_iaS hX (q := 123) (k := 2) (by omega) hN (Nat.le_refl _) c13 (by decide) rfl (by omega) rfl dX6_readsStatement_122 (fun g hE hF => ?_)
          have hm := md_a12 hm hE hF
          obtain ⟨c0, c1, c2, c3, c4, c5, c6, c7, c8, c9, c10, c11, c12, c13⟩ := id hm
          have hfr := frG.tr hfr (fun j hj => hF j (by omega))
          refine ca_goto hX 246 rfl dX6_readsStatement_123 ?_
          refine ca_iload_n hX (q := 247) 2 rfl rfl rfl dX6_readsStatement_246 ?_
          refine ca_if_eq hX (q := 250) 259 rfl rfl dX6_readsStatement_247 (fun b247 => ?_) (fun b247 => ?_)
          · refine ca_iconst hX (q := 260) k_iconst_0 rfl dX6_readsStatement_259 ?_
            refine ca_zret hX rfl rfl rfl rfl rfl dX6_readsStatement_260 ?_
            have hFv : fcF (M 4) L pl = 4 + c4n := by rw [hFc]; simp [fcS, f0, f1, f2, f4, q1, q2, q4] <;> (intro z; omega)
            exact ⟨_, hm, (hrd.nu _ _), hfr, Or.inr ⟨rfl, fun z => by have := z.2; rw [hFv, hl] at this; omega, by rw [hFv]; first | exact h5 | (rw [upB_n _ _ _ (by omega)]; exact h5) | (rw [← Nat.add_assoc]; exact h5) | (rw [upB_n _ _ _ (by omega), ← Nat.add_assoc]; exact h5)⟩⟩
          · exact absurd rfl b247
        · have q4 : c4n = 1 := Classical.byContradiction (fun z => b102 (if_neg z))
          rw [q4] at h5 f4
          have n3 := hnu q4
          refine ca_iconst hX (q := 106) k_iconst_1 rfl dX6_readsStatement_105 ?_
          refine ca_goto hX 110 rfl dX6_readsStatement_106 ?_
          refine ca_istore_n hX (q := 111) 2 rfl (ls' := [_, _, _]) (Nat.le_of_ble_eq_true rfl) (Nat.le_of_ble_eq_true rfl) (Or.inr rfl) rfl rfl dX6_readsStatement_110 ?_
          refine ca_aload_n hX (q := 112) 0 rfl rfl rfl dX6_readsStatement_111 ?_
          refine ca_getf hX (q := 115) cl_X6 18 (by decide) w_fl_X6_46 (by omega) c0 rfl rfl dX6_readsStatement_112 ?_
          refine ca_iconst hX (q := 116) k_iconst_2 rfl dX6_readsStatement_115 ?_
          refine ca_aload_n hX (q := 117) 0 rfl rfl rfl dX6_readsStatement_116 ?_
          refine ca_getf hX (q := 120) cl_X6 18 (by decide) w_fl_X6_46 (by omega) c0 rfl rfl dX6_readsStatement_117 ?_
          refine ca_iconst hX (q := 121) k_iconst_1 rfl dX6_readsStatement_120 ?_
          refine ca_iaN hX (q := 122) (k := 1) (by omega) c13 (by decide) rfl (by omega) rfl dX6_readsStatement_121 ?_
          refine ca_iaS hX (q := 123) (k := 2) (by omega) hN (Nat.le_refl _) c13 (by decide) rfl (by omega) rfl dX6_readsStatement_122 (fun g hE hF => ?_)
          have hm := md_a12 hm hE hF
          obtain ⟨c0, c1, c2, c3, c4, c5, c6, c7, c8, c9, c10, c11, c12, c13⟩ := id hm
          have hfr := frG.tr hfr (fun j hj => hF j (by omega))
          refine ca_goto hX 246 rfl dX6_readsStatement_123 ?_
          refine ca_iload_n hX (q := 247) 2 rfl rfl rfl dX6_readsStatement_246 ?_
          refine ca_if_eq hX (q := 250) 259 rfl rfl dX6_readsStatement_247 (fun b247 => ?_) (fun b247 => ?_)
          · exact absurd b247 (by decide)
          · have h5z : upB Mc 12 2 (Mc 12 1) 13 5 = nI (pl + 5) := by rw [upB_n _ _ _ (by omega)]; exact h5
            have hrdz : rdM M (upB Mc 12 2 (Mc 12 1)) := hrd.nu _ _
            have hnums : upB Mc 12 2 (Mc 12 1) 12 0 = klI (hrI (M 4) L (pl + 1)) ∧ upB Mc 12 2 (Mc 12 1) 12 1 = nuI (M 4) (pl + 2) 2 ∧ upB Mc 12 2 (Mc 12 1) 12 2 = nuI (M 4) (pl + 2) 2 ∧ upB Mc 12 2 (Mc 12 1) 12 3 = nuI (M 4) (pl + 4) 1 := by
              rw [upB_s, upd_n _ _ (by omega), upd_n _ _ (by omega), upd_s, upd_n _ _ (by omega)]
              exact ⟨n0, n1, n1, n3⟩
            refine ca_aload_n hX (q := 251) 0 rfl rfl rfl dX6_readsStatement_250 ?_
            refine ca_cVi hX (q := 254) y_X6_here w_ml_X6_124 (by omega) hN c0 (c_X6_here l N g o _ hm ho L (by first | (rw [hrd.2 1 (by omega)]; exact h131) | (rw [upB_n _ _ _ (by omega), hrd.2 1 (by omega)]; exact h131)) hL _ (by omega) h5z) (by decide) rfl (Nat.le_of_ble_eq_true rfl) rfl dX6_readsStatement_251 rfl ?_
            refine ca_bipush hX (q := 256) k_bipush_59 rfl dX6_readsStatement_254 ?_
            rw [hrdz.1 4 (by omega) (by omega)]
            refine ca_icmp_eq hX (q := 259) 261 rfl rfl dX6_readsStatement_256 (fun b256 => ?_) (fun b256 => ?_)
            · have hsem := b256
              refine ca_aload_n hX (q := 262) 0 rfl rfl rfl dX6_readsStatement_261 ?_
              refine ca_dup hX (q := 263) rfl rfl dX6_readsStatement_262 ?_
              refine ca_getf hX (q := 266) cl_X6 17 (by decide) w_fl_X6_121 (by omega) c0 rfl rfl dX6_readsStatement_263 ?_
              refine ca_iconst hX (q := 267) k_iconst_1 rfl dX6_readsStatement_266 ?_
              refine ca_iadd hX (q := 268) rfl dX6_readsStatement_267 ?_
              refine ca_puti hX (q := 271) (fs' := [_, _, _, _, _, _, _, _, _, _, _, _, _, _, _, _, _, _, _, _]) cl_X6 17 (by decide) w_fl_X6_121 rfl rfl (by omega) hN c0 (Nat.le_of_ble_eq_true rfl) rfl rfl dX6_readsStatement_268 (fun g hE hF => ?_)
              have hm := md_s5 hm hE hF
              obtain ⟨c0, c1, c2, c3, c4, c5, c6, c7, c8, c9, c10, c11, c12, c13⟩ := id hm
              have hfr := frG.tr hfr (fun j hj => hF j (by omega))
              refine ca_iconst hX (q := 272) k_iconst_1 rfl dX6_readsStatement_271 ?_
              refine ca_zret hX rfl rfl rfl rfl rfl dX6_readsStatement_272 ?_
              have fl : fcN (uF (M 4) L pl 0) 5 1 = 5 + 1 := by rw [seg_eq (M 4) L pl (by decide) (by decide) (by decide) (by decide), if_pos (show hrI (M 4) L (pl + 5) = sgF 0 5 from hsem)]
              have hFv : fcF (M 4) L pl = 6 := by rw [hFc]; simp [fcS, f0, f1, f2, f4, q1, q2, q4, fl]
              refine ⟨_, hm, hrdz.pl _, hfr, Or.inl ⟨rfl, ⟨by rw [hl]; decide, by rw [hFv, hl]⟩, by rw [upB_s, upd_s, hl, h5z]; exact nI_add _ 1, ?_⟩⟩
              refine ⟨fun z => ?_, fun z => ?_, fun z => ?_, fun z => ?_, fun z => ?_⟩ <;> first | (rw [hk] at z; exact absurd z (by decide)) | (simp only [upB_n _ _ _ (show (12 : Nat) ≠ 13 by decide)]; exact hnums)
            · have hsem := b256
              refine ca_iconst hX (q := 260) k_iconst_0 rfl dX6_readsStatement_259 ?_
              refine ca_zret hX rfl rfl rfl rfl rfl dX6_readsStatement_260 ?_
              have fl : fcN (uF (M 4) L pl 0) 5 1 = 5 := by rw [seg_eq (M 4) L pl (by decide) (by decide) (by decide) (by decide), if_neg (show ¬ hrI (M 4) L (pl + 5) = sgF 0 5 from hsem)]
              have hFv : fcF (M 4) L pl = 5 := by rw [hFc]; simp [fcS, f0, f1, f2, f4, q1, q2, q4, fl]
              exact ⟨_, hm, hrdz, hfr, Or.inr ⟨rfl, fun z => by have := z.2; rw [hFv, hl] at this; omega, by rw [hFv]; exact h5z⟩⟩
  by_cases e16_115 : hrI (M 4) L pl = 115
  · refine ca_tabIn hX 234 dX6_readsStatement_16 (by rw [e16_115]; decide) (by rw [e16_115]; decide) (by rw [e16_115]; rfl) rfl ?_
    refine ca_aload_n hX (q := 235) 0 rfl rfl rfl dX6_readsStatement_234 ?_
    refine ca_dup hX (q := 236) rfl rfl dX6_readsStatement_235 ?_
    refine ca_getf hX (q := 239) cl_X6 17 (by decide) w_fl_X6_121 (by omega) c0 rfl rfl dX6_readsStatement_236 ?_
    refine ca_iconst hX (q := 240) k_iconst_1 rfl dX6_readsStatement_239 ?_
    refine ca_isub hX (q := 241) rfl dX6_readsStatement_240 ?_
    refine ca_puti hX (q := 244) (fs' := [_, _, _, _, _, _, _, _, _, _, _, _, _, _, _, _, _, _, _, _]) cl_X6 17 (by decide) w_fl_X6_121 rfl rfl (by omega) hN c0 (Nat.le_of_ble_eq_true rfl) rfl rfl dX6_readsStatement_241 (fun g hE hF => ?_)
    have hm := md_s5 hm hE hF
    obtain ⟨c0, c1, c2, c3, c4, c5, c6, c7, c8, c9, c10, c11, c12, c13⟩ := id hm
    have hfr := frG.tr hfr (fun j hj => hF j (by omega))
    refine ca_iconst hX (q := 245) k_iconst_0 rfl dX6_readsStatement_244 ?_
    refine ca_zret hX rfl rfl rfl rfl rfl dX6_readsStatement_245 ?_
    have hk : kF (M 4) L pl = 5 := k_no (fun z => absurd (e16_115.symm.trans z) (by decide)) (fun z => absurd (e16_115.symm.trans z) (by decide)) (fun z => absurd (e16_115.symm.trans z) (by decide)) (fun z => absurd (e16_115.symm.trans z) (by decide)) (fun z => absurd (e16_115.symm.trans z) (by decide))
    have e5 : M1 13 5 - 1 = nI pl := by rw [h5]; exact nI_m1 (by omega)
    rw [e5] at hm
    exact ⟨_, hm, hrd.pl _, hfr, Or.inr ⟨rfl, fun z => by have := z.1; rw [hk] at this; exact absurd this (by decide), by rw [upB_s, upd_s]; unfold fcF; rw [hk]; rfl⟩⟩
  by_cases e16_116 : hrI (M 4) L pl = 116
  · refine ca_tabIn hX 234 dX6_readsStatement_16 (by rw [e16_116]; decide) (by rw [e16_116]; decide) (by rw [e16_116]; rfl) rfl ?_
    refine ca_aload_n hX (q := 235) 0 rfl rfl rfl dX6_readsStatement_234 ?_
    refine ca_dup hX (q := 236) rfl rfl dX6_readsStatement_235 ?_
    refine ca_getf hX (q := 239) cl_X6 17 (by decide) w_fl_X6_121 (by omega) c0 rfl rfl dX6_readsStatement_236 ?_
    refine ca_iconst hX (q := 240) k_iconst_1 rfl dX6_readsStatement_239 ?_
    refine ca_isub hX (q := 241) rfl dX6_readsStatement_240 ?_
    refine ca_puti hX (q := 244) (fs' := [_, _, _, _, _, _, _, _, _, _, _, _, _, _, _, _, _, _, _, _]) cl_X6 17 (by decide) w_fl_X6_121 rfl rfl (by omega) hN c0 (Nat.le_of_ble_eq_true rfl) rfl rfl dX6_readsStatement_241 (fun g hE hF => ?_)
    have hm := md_s5 hm hE hF
    obtain ⟨c0, c1, c2, c3, c4, c5, c6, c7, c8, c9, c10, c11, c12, c13⟩ := id hm
    have hfr := frG.tr hfr (fun j hj => hF j (by omega))
    refine ca_iconst hX (q := 245) k_iconst_0 rfl dX6_readsStatement_244 ?_
    refine ca_zret hX rfl rfl rfl rfl rfl dX6_readsStatement_245 ?_
    have hk : kF (M 4) L pl = 5 := k_no (fun z => absurd (e16_116.symm.trans z) (by decide)) (fun z => absurd (e16_116.symm.trans z) (by decide)) (fun z => absurd (e16_116.symm.trans z) (by decide)) (fun z => absurd (e16_116.symm.trans z) (by decide)) (fun z => absurd (e16_116.symm.trans z) (by decide))
    have e5 : M1 13 5 - 1 = nI pl := by rw [h5]; exact nI_m1 (by omega)
    rw [e5] at hm
    exact ⟨_, hm, hrd.pl _, hfr, Or.inr ⟨rfl, fun z => by have := z.1; rw [hk] at this; exact absurd this (by decide), by rw [upB_s, upd_s]; unfold fcF; rw [hk]; rfl⟩⟩
  by_cases e16_117 : hrI (M 4) L pl = 117
  · refine ca_tabIn hX 234 dX6_readsStatement_16 (by rw [e16_117]; decide) (by rw [e16_117]; decide) (by rw [e16_117]; rfl) rfl ?_
    refine ca_aload_n hX (q := 235) 0 rfl rfl rfl dX6_readsStatement_234 ?_
    refine ca_dup hX (q := 236) rfl rfl dX6_readsStatement_235 ?_
    refine ca_getf hX (q := 239) cl_X6 17 (by decide) w_fl_X6_121 (by omega) c0 rfl rfl dX6_readsStatement_236 ?_
    refine ca_iconst hX (q := 240) k_iconst_1 rfl dX6_readsStatement_239 ?_
    refine ca_isub hX (q := 241) rfl dX6_readsStatement_240 ?_
    refine ca_puti hX (q := 244) (fs' := [_, _, _, _, _, _, _, _, _, _, _, _, _, _, _, _, _, _, _, _]) cl_X6 17 (by decide) w_fl_X6_121 rfl rfl (by omega) hN c0 (Nat.le_of_ble_eq_true rfl) rfl rfl dX6_readsStatement_241 (fun g hE hF => ?_)
    have hm := md_s5 hm hE hF
    obtain ⟨c0, c1, c2, c3, c4, c5, c6, c7, c8, c9, c10, c11, c12, c13⟩ := id hm
    have hfr := frG.tr hfr (fun j hj => hF j (by omega))
    refine ca_iconst hX (q := 245) k_iconst_0 rfl dX6_readsStatement_244 ?_
    refine ca_zret hX rfl rfl rfl rfl rfl dX6_readsStatement_245 ?_
    have hk : kF (M 4) L pl = 5 := k_no (fun z => absurd (e16_117.symm.trans z) (by decide)) (fun z => absurd (e16_117.symm.trans z) (by decide)) (fun z => absurd (e16_117.symm.trans z) (by decide)) (fun z => absurd (e16_117.symm.trans z) (by decide)) (fun z => absurd (e16_117.symm.trans z) (by decide))
    have e5 : M1 13 5 - 1 = nI pl := by rw [h5]; exact nI_m1 (by omega)
    rw [e5] at hm
    exact ⟨_, hm, hrd.pl _, hfr, Or.inr ⟨rfl, fun z => by have := z.1; rw [hk] at this; exact absurd this (by decide), by rw [upB_s, upd_s]; unfold fcF; rw [hk]; rfl⟩⟩
  by_cases e16_118 : hrI (M 4) L pl = 118
  · refine ca_tabIn hX 126 dX6_readsStatement_16 (by rw [e16_118]; decide) (by rw [e16_118]; decide) (by rw [e16_118]; rfl) rfl ?_
    have hk : kF (M 4) L pl = 1 := by show fmI (atM (M 4) L pl) = 1; rw [k_hr e16_118 (by decide)]; rfl
    have hl : lenF (kF (M 4) L pl) = 8 := by rw [hk]; rfl
    have f0 : fcN (uF (M 4) L pl 1) 0 1 = 1 := by rw [seg_eq (M 4) L pl (by decide) (by decide) (by decide) (by decide), Nat.add_zero, e16_118]; rfl
    have hFc : fcF (M 4) L pl = fcS (uF (M 4) L pl 1) 0 [1, 1, 2, 2, 1, 1] := by unfold fcF; rw [hk, ← fc_S]; rfl
    refine ca_aload_n hX (q := 127) 0 rfl rfl rfl dX6_readsStatement_126 ?_
    refine ca_cV hX (q := 130) y_X6_readsKind w_ml_X6_131 (by omega) hN c0 (c_X6_readsKind l N g o M1 hm ho L (by rw [hrd.2 1 (by omega)]; exact h131) hL (pl + 1) (by omega) h5) (by decide) rfl (Nat.le_of_ble_eq_true rfl) rfl dX6_readsStatement_127 rfl ?_
    rintro _ g ⟨Ma, rfl, hm, hr2, hf, h5, n0, hoth⟩
    rw [(hrd.1 4 (by omega) (by omega))] at h5 n0
    have f1 := seg_kd (M 4) L pl (K := 1) (by decide) (by decide) (by decide)
    rw [(hrd.1 4 (by omega) (by omega))]
    have hrd := hrd.tr hr2
    have hfr := hfr.tr hf
    obtain ⟨c0, c1, c2, c3, c4, c5, c6, c7, c8, c9, c10, c11, c12, c13⟩ := id hm
    refine ca_if_eq hX (q := 133) 164 rfl rfl dX6_readsStatement_130 (fun b130 => ?_) (fun b130 => ?_)
    · have q1 : klI (hrI (M 4) L (pl + 1)) = -9 := Classical.byContradiction (fun z => by rw [if_neg z] at b130; exact absurd b130 (by decide))
      rw [if_pos q1] at h5
      refine ca_iconst hX (q := 165) k_iconst_0 rfl dX6_readsStatement_164 ?_
      refine ca_istore_n hX (q := 166) 2 rfl (ls' := [_, _, _]) (Nat.le_of_ble_eq_true rfl) (Nat.le_of_ble_eq_true rfl) (Or.inr rfl) rfl rfl dX6_readsStatement_165 ?_
      refine ca_goto hX 246 rfl dX6_readsStatement_166 ?_
      refine ca_iload_n hX (q := 247) 2 rfl rfl rfl dX6_readsStatement_246 ?_
      refine ca_if_eq hX (q := 250) 259 rfl rfl dX6_readsStatement_247 (fun b247 => ?_) (fun b247 => ?_)
      · refine ca_iconst hX (q := 260) k_iconst_0 rfl dX6_readsStatement_259 ?_
        refine ca_zret hX rfl rfl rfl rfl rfl dX6_readsStatement_260 ?_
        have hFv : fcF (M 4) L pl = 1 := by rw [hFc]; simp [fcS, f0, f1, q1] <;> (intro z; omega)
        exact ⟨_, hm, hrd, hfr, Or.inr ⟨rfl, fun z => by have := z.2; rw [hFv, hl] at this; omega, by rw [hFv]; first | exact h5 | (rw [upB_n _ _ _ (by omega)]; exact h5) | (rw [← Nat.add_assoc]; exact h5) | (rw [upB_n _ _ _ (by omega), ← Nat.add_assoc]; exact h5)⟩⟩
      · exact absurd rfl b247
    · have q1 : ¬ klI (hrI (M 4) L (pl + 1)) = -9 := fun z => b130 (if_pos z)
      rw [if_neg q1] at h5
      refine ca_aload_n hX (q := 134) 0 rfl rfl rfl dX6_readsStatement_133 ?_
      refine ca_iconst hX (q := 135) k_iconst_1 rfl dX6_readsStatement_134 ?_
      refine ca_iconst hX (q := 136) k_iconst_2 rfl dX6_readsStatement_135 ?_
      refine ca_cV hX (q := 139) y_X6_readsNumber w_ml_X6_134 (by omega) hN c0 (c_X6_readsNumber l N g o Ma hm ho L (by rw [hrd.2 1 (by omega)]; exact h131) hL (pl + 2) (by omega) h5 1 (by omega) 2 (by omega)) (by decide) rfl (Nat.le_of_ble_eq_true rfl) rfl dX6_readsStatement_136 rfl ?_
      rintro _ g ⟨c2n, Mb, rfl, hc2, hfs, hm, hr2, hf, h5, hnu, hoth⟩
      rw [(hrd.1 4 (by omega) (by omega))] at hfs hnu
      have f2 : fcN (uF (M 4) L pl 1) 2 2 = 2 + c2n := by rw [seg_dg (M 4) L pl (by decide) (by decide), hfs]
      have hrd := hrd.tr hr2
      have hfr := hfr.tr hf
      have n0 := (hoth 0 (by omega)).trans n0
      obtain ⟨c0, c1, c2, c3, c4, c5, c6, c7, c8, c9, c10, c11, c12, c13⟩ := id hm
      refine ca_if_eq hX (q := 142) 164 rfl rfl dX6_readsStatement_139 (fun b139 => ?_) (fun b139 => ?_)
      · have q2 : ¬ c2n = 2 := fun z => by rw [if_pos z] at b139; exact absurd b139 (by decide)
        refine ca_iconst hX (q := 165) k_iconst_0 rfl dX6_readsStatement_164 ?_
        refine ca_istore_n hX (q := 166) 2 rfl (ls' := [_, _, _]) (Nat.le_of_ble_eq_true rfl) (Nat.le_of_ble_eq_true rfl) (Or.inr rfl) rfl rfl dX6_readsStatement_165 ?_
        refine ca_goto hX 246 rfl dX6_readsStatement_166 ?_
        refine ca_iload_n hX (q := 247) 2 rfl rfl rfl dX6_readsStatement_246 ?_
        refine ca_if_eq hX (q := 250) 259 rfl rfl dX6_readsStatement_247 (fun b247 => ?_) (fun b247 => ?_)
        · refine ca_iconst hX (q := 260) k_iconst_0 rfl dX6_readsStatement_259 ?_
          refine ca_zret hX rfl rfl rfl rfl rfl dX6_readsStatement_260 ?_
          have hFv : fcF (M 4) L pl = 2 + c2n := by rw [hFc]; simp [fcS, f0, f1, f2, q1, q2] <;> (intro z; omega)
          exact ⟨_, hm, hrd, hfr, Or.inr ⟨rfl, fun z => by have := z.2; rw [hFv, hl] at this; omega, by rw [hFv]; first | exact h5 | (rw [upB_n _ _ _ (by omega)]; exact h5) | (rw [← Nat.add_assoc]; exact h5) | (rw [upB_n _ _ _ (by omega), ← Nat.add_assoc]; exact h5)⟩⟩
        · exact absurd rfl b247
      · have q2 : c2n = 2 := Classical.byContradiction (fun z => b139 (if_neg z))
        rw [q2] at h5 f2
        have n1 := hnu q2
        refine ca_aload_n hX (q := 143) 0 rfl rfl rfl dX6_readsStatement_142 ?_
        refine ca_iconst hX (q := 144) k_iconst_2 rfl dX6_readsStatement_143 ?_
        refine ca_iconst hX (q := 145) k_iconst_2 rfl dX6_readsStatement_144 ?_
        refine ca_cV hX (q := 148) y_X6_readsNumber w_ml_X6_134 (by omega) hN c0 (c_X6_readsNumber l N g o Mb hm ho L (by rw [hrd.2 1 (by omega)]; exact h131) hL (pl + 4) (by omega) h5 2 (by omega) 2 (by omega)) (by decide) rfl (Nat.le_of_ble_eq_true rfl) rfl dX6_readsStatement_145 rfl ?_
        rintro _ g ⟨c4n, Mc, rfl, hc4, hfs, hm, hr2, hf, h5, hnu, hoth⟩
        rw [(hrd.1 4 (by omega) (by omega))] at hfs hnu
        have f4 : fcN (uF (M 4) L pl 1) 4 2 = 4 + c4n := by rw [seg_dg (M 4) L pl (by decide) (by decide), hfs]
        have hrd := hrd.tr hr2
        have hfr := hfr.tr hf
        have n0 := (hoth 0 (by omega)).trans n0
        have n1 := (hoth 1 (by omega)).trans n1
        obtain ⟨c0, c1, c2, c3, c4, c5, c6, c7, c8, c9, c10, c11, c12, c13⟩ := id hm
        refine ca_if_eq hX (q := 151) 164 rfl rfl dX6_readsStatement_148 (fun b148 => ?_) (fun b148 => ?_)
        · have q4 : ¬ c4n = 2 := fun z => by rw [if_pos z] at b148; exact absurd b148 (by decide)
          refine ca_iconst hX (q := 165) k_iconst_0 rfl dX6_readsStatement_164 ?_
          refine ca_istore_n hX (q := 166) 2 rfl (ls' := [_, _, _]) (Nat.le_of_ble_eq_true rfl) (Nat.le_of_ble_eq_true rfl) (Or.inr rfl) rfl rfl dX6_readsStatement_165 ?_
          refine ca_goto hX 246 rfl dX6_readsStatement_166 ?_
          refine ca_iload_n hX (q := 247) 2 rfl rfl rfl dX6_readsStatement_246 ?_
          refine ca_if_eq hX (q := 250) 259 rfl rfl dX6_readsStatement_247 (fun b247 => ?_) (fun b247 => ?_)
          · refine ca_iconst hX (q := 260) k_iconst_0 rfl dX6_readsStatement_259 ?_
            refine ca_zret hX rfl rfl rfl rfl rfl dX6_readsStatement_260 ?_
            have hFv : fcF (M 4) L pl = 4 + c4n := by rw [hFc]; simp [fcS, f0, f1, f2, f4, q1, q2, q4] <;> (intro z; omega)
            exact ⟨_, hm, hrd, hfr, Or.inr ⟨rfl, fun z => by have := z.2; rw [hFv, hl] at this; omega, by rw [hFv]; first | exact h5 | (rw [upB_n _ _ _ (by omega)]; exact h5) | (rw [← Nat.add_assoc]; exact h5) | (rw [upB_n _ _ _ (by omega), ← Nat.add_assoc]; exact h5)⟩⟩
          · exact absurd rfl b247
        · have q4 : c4n = 2 := Classical.byContradiction (fun z => b148 (if_neg z))
          rw [q4] at h5 f4
          have n2 := hnu q4
          refine ca_aload_n hX (q := 152) 0 rfl rfl rfl dX6_readsStatement_151 ?_
          refine ca_iconst hX (q := 153) k_iconst_3 rfl dX6_readsStatement_152 ?_
          refine ca_iconst hX (q := 154) k_iconst_1 rfl dX6_readsStatement_153 ?_
          refine ca_cV hX (q := 157) y_X6_readsNumber w_ml_X6_134 (by omega) hN c0 (c_X6_readsNumber l N g o Mc hm ho L (by rw [hrd.2 1 (by omega)]; exact h131) hL (pl + 6) (by omega) h5 3 (by omega) 1 (by omega)) (by decide) rfl (Nat.le_of_ble_eq_true rfl) rfl dX6_readsStatement_154 rfl ?_
          rintro _ g ⟨c6n, Md, rfl, hc6, hfs, hm, hr2, hf, h5, hnu, hoth⟩
          rw [(hrd.1 4 (by omega) (by omega))] at hfs hnu
          have f6 : fcN (uF (M 4) L pl 1) 6 1 = 6 + c6n := by rw [seg_dg (M 4) L pl (by decide) (by decide), hfs]
          have hrd := hrd.tr hr2
          have hfr := hfr.tr hf
          have n0 := (hoth 0 (by omega)).trans n0
          have n1 := (hoth 1 (by omega)).trans n1
          have n2 := (hoth 2 (by omega)).trans n2
          obtain ⟨c0, c1, c2, c3, c4, c5, c6, c7, c8, c9, c10, c11, c12, c13⟩ := id hm
          refine ca_if_eq hX (q := 160) 164 rfl rfl dX6_readsStatement_157 (fun b157 => ?_) (fun b157 => ?_)
          · have q6 : ¬ c6n = 1 := fun z => by rw [if_pos z] at b157; exact absurd b157 (by decide)
            refine ca_iconst hX (q := 165) k_iconst_0 rfl dX6_readsStatement_164 ?_
            refine ca_istore_n hX (q := 166) 2 rfl (ls' := [_, _, _]) (Nat.le_of_ble_eq_true rfl) (Nat.le_of_ble_eq_true rfl) (Or.inr rfl) rfl rfl dX6_readsStatement_165 ?_
            refine ca_goto hX 246 rfl dX6_readsStatement_166 ?_
            refine ca_iload_n hX (q := 247) 2 rfl rfl rfl dX6_readsStatement_246 ?_
            refine ca_if_eq hX (q := 250) 259 rfl rfl dX6_readsStatement_247 (fun b247 => ?_) (fun b247 => ?_)
            · refine ca_iconst hX (q := 260) k_iconst_0 rfl dX6_readsStatement_259 ?_
              refine ca_zret hX rfl rfl rfl rfl rfl dX6_readsStatement_260 ?_
              have hFv : fcF (M 4) L pl = 6 + c6n := by rw [hFc]; simp [fcS, f0, f1, f2, f4, f6, q1, q2, q4, q6] <;> (intro z; omega)
              exact ⟨_, hm, hrd, hfr, Or.inr ⟨rfl, fun z => by have := z.2; rw [hFv, hl] at this; omega, by rw [hFv]; first | exact h5 | (rw [upB_n _ _ _ (by omega)]; exact h5) | (rw [← Nat.add_assoc]; exact h5) | (rw [upB_n _ _ _ (by omega), ← Nat.add_assoc]; exact h5)⟩⟩
            · exact absurd rfl b247
          · have q6 : c6n = 1 := Classical.byContradiction (fun z => b157 (if_neg z))
            rw [q6] at h5 f6
            have n3 := hnu q6
            refine ca_iconst hX (q := 161) k_iconst_1 rfl dX6_readsStatement_160 ?_
            refine ca_goto hX 165 rfl dX6_readsStatement_161 ?_
            refine ca_istore_n hX (q := 166) 2 rfl (ls' := [_, _, _]) (Nat.le_of_ble_eq_true rfl) (Nat.le_of_ble_eq_true rfl) (Or.inr rfl) rfl rfl dX6_readsStatement_165 ?_
            refine ca_goto hX 246 rfl dX6_readsStatement_166 ?_
            refine ca_iload_n hX (q := 247) 2 rfl rfl rfl dX6_readsStatement_246 ?_
            refine ca_if_eq hX (q := 250) 259 rfl rfl dX6_readsStatement_247 (fun b247 => ?_) (fun b247 => ?_)
            · exact absurd b247 (by decide)
            · have h5z : Md 13 5 = nI (pl + 7) := h5
              have hrdz := hrd
              have hnums : Md 12 0 = _ ∧ Md 12 1 = _ ∧ Md 12 2 = _ ∧ Md 12 3 = _ := ⟨n0, n1, n2, n3⟩
              refine ca_aload_n hX (q := 251) 0 rfl rfl rfl dX6_readsStatement_250 ?_
              refine ca_cVi hX (q := 254) y_X6_here w_ml_X6_124 (by omega) hN c0 (c_X6_here l N g o _ hm ho L (by first | (rw [hrd.2 1 (by omega)]; exact h131) | (rw [upB_n _ _ _ (by omega), hrd.2 1 (by omega)]; exact h131)) hL _ (by omega) h5z) (by decide) rfl (Nat.le_of_ble_eq_true rfl) rfl dX6_readsStatement_251 rfl ?_
              refine ca_bipush hX (q := 256) k_bipush_59 rfl dX6_readsStatement_254 ?_
              rw [hrdz.1 4 (by omega) (by omega)]
              refine ca_icmp_eq hX (q := 259) 261 rfl rfl dX6_readsStatement_256 (fun b256 => ?_) (fun b256 => ?_)
              · have hsem := b256
                refine ca_aload_n hX (q := 262) 0 rfl rfl rfl dX6_readsStatement_261 ?_
                refine ca_dup hX (q := 263) rfl rfl dX6_readsStatement_262 ?_
                refine ca_getf hX (q := 266) cl_X6 17 (by decide) w_fl_X6_121 (by omega) c0 rfl rfl dX6_readsStatement_263 ?_
                refine ca_iconst hX (q := 267) k_iconst_1 rfl dX6_readsStatement_266 ?_
                refine ca_iadd hX (q := 268) rfl dX6_readsStatement_267 ?_
                refine ca_puti hX (q := 271) (fs' := [_, _, _, _, _, _, _, _, _, _, _, _, _, _, _, _, _, _, _, _]) cl_X6 17 (by decide) w_fl_X6_121 rfl rfl (by omega) hN c0 (Nat.le_of_ble_eq_true rfl) rfl rfl dX6_readsStatement_268 (fun g hE hF => ?_)
                have hm := md_s5 hm hE hF
                obtain ⟨c0, c1, c2, c3, c4, c5, c6, c7, c8, c9, c10, c11, c12, c13⟩ := id hm
                have hfr := frG.tr hfr (fun j hj => hF j (by omega))
                refine ca_iconst hX (q := 272) k_iconst_1 rfl dX6_readsStatement_271 ?_
                refine ca_zret hX rfl rfl rfl rfl rfl dX6_readsStatement_272 ?_
                have fl : fcN (uF (M 4) L pl 1) 7 1 = 7 + 1 := by rw [seg_eq (M 4) L pl (by decide) (by decide) (by decide) (by decide), if_pos (show hrI (M 4) L (pl + 7) = sgF 1 7 from hsem)]
                have hFv : fcF (M 4) L pl = 8 := by rw [hFc]; simp [fcS, f0, f1, f2, f4, f6, q1, q2, q4, q6, fl]
                refine ⟨_, hm, hrdz.pl _, hfr, Or.inl ⟨rfl, ⟨by rw [hl]; decide, by rw [hFv, hl]⟩, by rw [upB_s, upd_s, hl, h5z]; exact nI_add _ 1, ?_⟩⟩
                refine ⟨fun z => ?_, fun z => ?_, fun z => ?_, fun z => ?_, fun z => ?_⟩ <;> first | (rw [hk] at z; exact absurd z (by decide)) | (simp only [upB_n _ _ _ (show (12 : Nat) ≠ 13 by decide)]; exact hnums)
              · have hsem := b256
                refine ca_iconst hX (q := 260) k_iconst_0 rfl dX6_readsStatement_259 ?_
                refine ca_zret hX rfl rfl rfl rfl rfl dX6_readsStatement_260 ?_
                have fl : fcN (uF (M 4) L pl 1) 7 1 = 7 := by rw [seg_eq (M 4) L pl (by decide) (by decide) (by decide) (by decide), if_neg (show ¬ hrI (M 4) L (pl + 7) = sgF 1 7 from hsem)]
                have hFv : fcF (M 4) L pl = 7 := by rw [hFc]; simp [fcS, f0, f1, f2, f4, f6, q1, q2, q4, q6, fl]
                exact ⟨_, hm, hrdz, hfr, Or.inr ⟨rfl, fun z => by have := z.2; rw [hFv, hl] at this; omega, by rw [hFv]; exact h5z⟩⟩
  refine ca_tabOut hX 234 dX6_readsStatement_16 (by have z0 := lv_neT (k := 107) (a := 107) e16_107 (by decide); have z1 := lv_neT (k := 108) (a := 108) e16_108 (by decide); have z2 := lv_neT (k := 109) (a := 109) e16_109 (by decide); have z3 := lv_neT (k := 110) (a := 110) e16_110 (by decide); have z4 := lv_neT (k := 111) (a := 111) e16_111 (by decide); have z5 := lv_neT (k := 112) (a := 112) e16_112 (by decide); have z6 := lv_neT (k := 113) (a := 113) e16_113 (by decide); have z7 := lv_neT (k := 114) (a := 114) e16_114 (by decide); have z8 := lv_neT (k := 115) (a := 115) e16_115 (by decide); have z9 := lv_neT (k := 116) (a := 116) e16_116 (by decide); have z10 := lv_neT (k := 117) (a := 117) e16_117 (by decide); have z11 := lv_neT (k := 118) (a := 118) e16_118 (by decide); omega) rfl ?_
  refine ca_aload_n hX (q := 235) 0 rfl rfl rfl dX6_readsStatement_234 ?_
  refine ca_dup hX (q := 236) rfl rfl dX6_readsStatement_235 ?_
  refine ca_getf hX (q := 239) cl_X6 17 (by decide) w_fl_X6_121 (by omega) c0 rfl rfl dX6_readsStatement_236 ?_
  refine ca_iconst hX (q := 240) k_iconst_1 rfl dX6_readsStatement_239 ?_
  refine ca_isub hX (q := 241) rfl dX6_readsStatement_240 ?_
  refine ca_puti hX (q := 244) (fs' := [_, _, _, _, _, _, _, _, _, _, _, _, _, _, _, _, _, _, _, _]) cl_X6 17 (by decide) w_fl_X6_121 rfl rfl (by omega) hN c0 (Nat.le_of_ble_eq_true rfl) rfl rfl dX6_readsStatement_241 (fun g hE hF => ?_)
  have hm := md_s5 hm hE hF
  obtain ⟨c0, c1, c2, c3, c4, c5, c6, c7, c8, c9, c10, c11, c12, c13⟩ := id hm
  have hfr := frG.tr hfr (fun j hj => hF j (by omega))
  refine ca_iconst hX (q := 245) k_iconst_0 rfl dX6_readsStatement_244 ?_
  refine ca_zret hX rfl rfl rfl rfl rfl dX6_readsStatement_245 ?_
  have hk : kF (M 4) L pl = 5 := k_no e16_107 e16_110 e16_112 e16_114 e16_118
  have e5 : M1 13 5 - 1 = nI pl := by rw [h5]; exact nI_m1 (by omega)
  rw [e5] at hm
  exact ⟨_, hm, hrd.pl _, hfr, Or.inr ⟨rfl, fun z => by have := z.1; rw [hk] at this; exact absurd this (by decide), by rw [upB_s, upd_s]; unfold fcF; rw [hk]; rfl⟩⟩

