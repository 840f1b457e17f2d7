/-! house of the reference -/
def hoM (M M1 : Nat → Nat → Int32) (h1 : Nat → Int32) : Prop := M1 0 = h1 ∧ M1 3 = M 0 ∧ M1 2 = M 2 ∧ M1 4 = M 4 ∧ M1 5 = M 5 ∧ M1 6 = M 6 ∧ ∀ j, j ≠ 5 → M1 13 j = M 13 j
theorem ho_ke {M M1 : Nat → Nat → Int32} {h1 : Nat → Int32} (a : hoM M M1 h1) (h4 : M 13 4 = 0) : keM (stB (upB M 13 1 0) 0 h1) (upB M1 13 1 0) := by
  obtain ⟨a0, a3, a2, a4, a5, a6, a13⟩ := a
  unfold keM
  rw [st_s, st_n _ _ (j := 2) (by omega), st_n _ _ (j := 4) (by omega), st_n _ _ (j := 5) (by omega), st_n _ _ (j := 6) (by omega), st_n _ _ (j := 13) (by omega), upB_s, upB_s, upB_n _ _ _ (j := 0) (by omega), upB_n _ _ _ (j := 2) (by omega), upB_n _ _ _ (j := 4) (by omega), upB_n _ _ _ (j := 5) (by omega), upB_n _ _ _ (j := 6) (by omega), upB_n _ _ _ (j := 2) (by omega), upB_n _ _ _ (j := 4) (by omega), upB_n _ _ _ (j := 5) (by omega), upB_n _ _ _ (j := 6) (by omega), upd_s, upd_s, upd_n _ _ (by omega), upd_n _ _ (by omega), upd_n _ _ (by omega), upd_n _ _ (by omega), upd_n _ _ (by omega)]
  exact ⟨a0, a2, a4, a5, a6, a13 0 (by omega), rfl, a13 2 (by omega), (a13 4 (by omega)).trans h4⟩
theorem ho_k0 {M M1 : Nat → Nat → Int32} (a : hoM M M1 (M 0)) (h4 : M 13 4 = 0) : keM (upB M 13 1 0) (upB M1 13 1 0) := by
  have := ho_ke a h4
  rw [show stB (upB M 13 1 0) 0 (M 0) = upB M 13 1 0 from st_id (upB M 13 1 0) 0] at this
  exact this
theorem rd_ho {M M1 : Nat → Nat → Int32} (a : rdM M M1) : hoM M (upB (stB M1 3 (M 0)) 13 5 0) (M 0) := by
  unfold hoM
  rw [upB_s, upB_n _ _ _ (j := 0) (by omega), upB_n _ _ _ (j := 2) (by omega), upB_n _ _ _ (j := 3) (by omega), upB_n _ _ _ (j := 4) (by omega), upB_n _ _ _ (j := 5) (by omega), upB_n _ _ _ (j := 6) (by omega), st_s, st_n _ _ (j := 0) (by omega), st_n _ _ (j := 2) (by omega), st_n _ _ (j := 4) (by omega), st_n _ _ (j := 5) (by omega), st_n _ _ (j := 6) (by omega), st_n _ _ (j := 13) (by omega)]
  exact ⟨a.1 0 (by omega) (by omega), rfl, a.1 2 (by omega) (by omega), a.1 4 (by omega) (by omega), a.1 5 (by omega) (by omega), a.1 6 (by omega) (by omega), fun j hj => by rw [upd_n _ _ hj]; exact a.2 j hj⟩
theorem hoM.rd {M M1 M2 : Nat → Nat → Int32} {h1 : Nat → Int32} (a : hoM M M1 h1) (b : rdM M1 M2) : hoM M M2 h1 := by
  obtain ⟨a0, a3, a2, a4, a5, a6, a13⟩ := a
  exact ⟨(b.1 0 (by omega) (by omega)).trans a0, (b.1 3 (by omega) (by omega)).trans a3, (b.1 2 (by omega) (by omega)).trans a2, (b.1 4 (by omega) (by omega)).trans a4, (b.1 5 (by omega) (by omega)).trans a5, (b.1 6 (by omega) (by omega)).trans a6, fun j hj => (b.2 j hj).trans (a13 j hj)⟩
theorem hoM.st {M M1 : Nat → Nat → Int32} {h1 : Nat → Int32} (a : hoM M M1 h1) (h2 : Nat → Int32) : hoM M (stB M1 0 h2) h2 := by
  obtain ⟨a0, a3, a2, a4, a5, a6, a13⟩ := a
  unfold hoM
  rw [st_s, st_n _ _ (j := 2) (by omega), st_n _ _ (j := 3) (by omega), st_n _ _ (j := 4) (by omega), st_n _ _ (j := 5) (by omega), st_n _ _ (j := 6) (by omega), st_n _ _ (j := 13) (by omega)]
  exact ⟨rfl, a3, a2, a4, a5, a6, a13⟩

theorem cs_le (f : Nat → Int32) (L : Nat) : ∀ n pl, csF f L n pl ≤ n
  | 0, _ => Nat.le_refl _
  | n + 1, pl => by
    rw [csF]
    have := cs_le f L n (pl + lenF (kF f L pl))
    split <;> omega
theorem cs_lt (f : Nat → Int32) (L n pl : Nat) (hn : n < 1000 := by omega) : csF f L n pl < 1000 := Nat.lt_of_le_of_lt (cs_le f L n pl) hn

set_option maxRecDepth 100000 in
set_option maxHeartbeats 4000000 in
theorem m_house (l : Launch) (N : Nat) (g0 : ca_G) (o : Nat) (M : Nat → Nat → Int32) (hm : mdG g0 o M) (ho : o + 14 ≤ N) (hs4 : M 13 4 = 0) (P : Nat) (w : wfH (M 0) P) (L : Nat) (h131 : M 13 1 = nI L) (hL : L ≤ 96) : ca_Ct l yX6_house cX6_house 6 (some .int) 5 0 0 N 1000000 [.ref o] g0 (reP o g0 (hoA M P L)) := by
  refine ca_intro (by decide) (Nat.le_of_ble_eq_true rfl) (fun X hX hN => ?_)
  show X 0 [_, none, none, none, none, none] [] N 1000000 g0
  obtain ⟨g, hgg⟩ : ∃ g, g = g0 := ⟨g0, rfl⟩
  rw [← hgg] at hm ⊢
  have hfr : frG g0 g o (o + 14) := by rw [hgg]; exact frG.rf
  have hke := keM.rf hs4
  obtain ⟨c0, c1, c2, c3, c4, c5, c6, c7, c8, c9, c10, c11, c12, c13⟩ := id hm
  have hP := w.1
  have hP5 := w.2.1
  have hok := wf_ok w
  have hT : (csF (M 4) L 97 0) < 1000 := cs_lt (M 4) L 97 0
  have fail : ∀ (g1 : ca_G) (M1 : Nat → Nat → Int32) (x v : Int32), mdG g1 o M1 → rdM M M1 → frG g0 g1 o (o + 14) → (hoR (M 4) L (M 0) P).1 = v → v < 0 → ¬ v = -9 → X 46 [some (.ref o), some (.int x), some (.int v), none, none, none] [] N 1000000 g1 := by
    intro g M1 x v hm hrd hfr hv hv0 hv9
    obtain ⟨c0, c1, c2, c3, c4, c5, c6, c7, c8, c9, c10, c11, c12, c13⟩ := id hm
    refine ca_aload_n hX (q := 47) 0 rfl rfl rfl dX6_house_46 ?_
    refine ca_getf hX (q := 50) cl_X6 0 (by decide) w_fl_X6_9 (by omega) c0 rfl rfl dX6_house_47 ?_
    refine ca_aload_n hX (q := 51) 0 rfl rfl rfl dX6_house_50 ?_
    refine ca_getf hX (q := 54) cl_X6 3 (by decide) w_fl_X6_19 (by omega) c0 rfl rfl dX6_house_51 ?_
    refine ca_cS hX (q := 57) y_X6_lays w_ml_X6_147 hN (c_X6_lays l N g (o + 1) (o + 4) _ _ c1 c4 (by omega) (by omega) (by omega)) (by decide) rfl (Nat.le_of_ble_eq_true rfl) rfl dX6_house_54 rfl ?_
    rintro _ g ⟨rfl, hE, hF⟩
    refine ca_same hX (f' := M 0) (by omega) hN hE (fun j hj => (if_pos hj).trans (congrFun (hrd.1 0 (by omega) (by omega)) j)) (fun g hE2 hF2 => ?_)
    have hm := md_f3 hm hE2 (fun j hj => (hF2 j hj).trans (hF j hj))
    have hfr := hfr.tr (fun j hj => (hF2 j (by omega)).trans (hF j (by omega)))
    obtain ⟨c0, c1, c2, c3, c4, c5, c6, c7, c8, c9, c10, c11, c12, c13⟩ := id hm
    refine ca_aload_n hX (q := 58) 0 rfl rfl rfl dX6_house_57 ?_
    refine ca_iconst hX (q := 59) k_iconst_0 rfl dX6_house_58 ?_
    refine ca_puti hX (q := 62) (fs' := [_, _, _, _, _, _, _, _, _, _, _, _, _, _, _, _, _, _, _, _]) cl_X6 17 (by decide) w_fl_X6_121 rfl rfl (by omega) hN c0 (Nat.le_of_ble_eq_true rfl) rfl rfl dX6_house_59 (fun g hE hF => ?_)
    have hm := md_s5 hm hE hF
    obtain ⟨c0, c1, c2, c3, c4, c5, c6, c7, c8, c9, c10, c11, c12, c13⟩ := id hm
    have hfr := frG.tr hfr (fun j hj => hF j (by omega))
    refine ca_iload_n hX (q := 63) 2 rfl rfl rfl dX6_house_62 ?_
    refine ca_bipush hX (q := 65) k_bipush_m9 rfl dX6_house_63 ?_
    refine ca_icmp_ne hX (q := 68) 128 rfl rfl dX6_house_65 (fun _ => ?_) (fun z => absurd z hv9)
    refine ca_aload_n hX (q := 129) 0 rfl rfl rfl dX6_house_128 ?_
    refine ca_iconst hX (q := 130) k_iconst_0 rfl dX6_house_129 ?_
    refine ca_puti hX (q := 133) (fs' := [_, _, _, _, _, _, _, _, _, _, _, _, _, _, _, _, _, _, _, _]) cl_X6 8 (by decide) w_fl_X6_118 rfl rfl (by omega) hN c0 (Nat.le_of_ble_eq_true rfl) rfl rfl dX6_house_130 (fun g hE hF => ?_)
    have hm := md_s1 hm hE hF
    obtain ⟨c0, c1, c2, c3, c4, c5, c6, c7, c8, c9, c10, c11, c12, c13⟩ := id hm
    have hfr := frG.tr hfr (fun j hj => hF j (by omega))
    refine ca_iload_n hX (q := 134) 2 rfl rfl rfl dX6_house_133 ?_
    refine ca_bipush hX (q := 136) k_bipush_m9 rfl dX6_house_134 ?_
    refine ca_icmp_ne hX (q := 139) 143 rfl rfl dX6_house_136 (fun _ => ?_) (fun z => absurd z hv9)
    refine ca_iload_n hX (q := 144) 2 rfl rfl rfl dX6_house_143 ?_
    refine ca_iret hX rfl rfl rfl rfl dX6_house_144 ?_
    exact re_end2 (by unfold hoA; rw [hv, if_pos hv0]) hfr hm (ho_k0 (rd_ho hrd) hs4)
  have loop2 : ∀ (n pl : Nat) (g1 : ca_G) (M1 : Nat → Nat → Int32) (h1 : Nat → Int32) (P1 : Nat), L + 1 ≤ pl + n → pl ≤ L + 8 → mdG g1 o M1 → hoM M M1 h1 → frG g0 g1 o (o + 14) → M1 13 5 = nI pl → wfH h1 P1 → psF (M 4) L n pl = -9 → (hoR (M 4) L (M 0) P) = dnF (M 4) L (nI (csF (M 4) L 97 0)) n pl h1 P1 → X 62 [some (.ref o), some (.int (nI (csF (M 4) L 97 0))), some (.int (-9)), none, none, none] [] N 1000000 g1 := by
    intro n
    induction n with
    | zero =>
      intro pl g M1 h1 P1 hpn hpl hm hho hfr h5 hw hps he
      obtain ⟨c0, c1, c2, c3, c4, c5, c6, c7, c8, c9, c10, c11, c12, c13⟩ := id hm
      have h131b : M1 13 1 = nI L := (hho.2.2.2.2.2.2 1 (by omega)).trans h131
      have hlp : L ≤ pl := by omega
      refine ca_iload_n hX (q := 63) 2 rfl rfl rfl dX6_house_62 ?_
      refine ca_bipush hX (q := 65) k_bipush_m9 rfl dX6_house_63 ?_
      refine ca_icmp_ne hX (q := 68) 128 rfl rfl dX6_house_65 (fun z => absurd rfl z) (fun _ => ?_)
      refine ca_aload_n hX (q := 69) 0 rfl rfl rfl dX6_house_68 ?_
      refine ca_getf hX (q := 72) cl_X6 17 (by decide) w_fl_X6_121 (by omega) c0 rfl rfl dX6_house_69 ?_
      refine ca_aload_n hX (q := 73) 0 rfl rfl rfl dX6_house_72 ?_
      refine ca_getf hX (q := 76) cl_X6 8 (by decide) w_fl_X6_118 (by omega) c0 rfl rfl dX6_house_73 ?_
      rw [h5, h131b]
      refine ca_icmp_ge hX (q := 79) 128 rfl rfl dX6_house_76 (fun _ => ?_) (fun z => absurd (nI_le hlp (by omega)) z)
      refine ca_aload_n hX (q := 129) 0 rfl rfl rfl dX6_house_128 ?_
      refine ca_iconst hX (q := 130) k_iconst_0 rfl dX6_house_129 ?_
      refine ca_puti hX (q := 133) (fs' := [_, _, _, _, _, _, _, _, _, _, _, _, _, _, _, _, _, _, _, _]) cl_X6 8 (by decide) w_fl_X6_118 rfl rfl (by omega) hN c0 (Nat.le_of_ble_eq_true rfl) rfl rfl dX6_house_130 (fun g hE hF => ?_)
      have hm := md_s1 hm hE hF
      obtain ⟨c0, c1, c2, c3, c4, c5, c6, c7, c8, c9, c10, c11, c12, c13⟩ := id hm
      have hfr := frG.tr hfr (fun j hj => hF j (by omega))
      refine ca_iload_n hX (q := 134) 2 rfl rfl rfl dX6_house_133 ?_
      refine ca_bipush hX (q := 136) k_bipush_m9 rfl dX6_house_134 ?_
      refine ca_icmp_ne hX (q := 139) 143 rfl rfl dX6_house_136 (fun z => absurd rfl z) (fun _ => ?_)
      refine ca_iload_n hX (q := 140) 1 rfl rfl rfl dX6_house_139 ?_
      refine ca_goto hX 144 rfl dX6_house_140 ?_
      refine ca_iret hX rfl rfl rfl rfl dX6_house_144 ?_
      exact re_end2 (by unfold hoA; rw [he, dn_end hlp, if_neg (nI_nn (by omega))]) hfr hm (ho_ke hho hs4)
    | succ n ih =>
      intro pl g M1 h1 P1 hpn hpl hm hho hfr h5 hw hps he
      obtain ⟨c0, c1, c2, c3, c4, c5, c6, c7, c8, c9, c10, c11, c12, c13⟩ := id hm
      have h131b : M1 13 1 = nI L := (hho.2.2.2.2.2.2 1 (by omega)).trans h131
      by_cases hlp : L ≤ pl
      · refine ca_iload_n hX (q := 63) 2 rfl rfl rfl dX6_house_62 ?_
        refine ca_bipush hX (q := 65) k_bipush_m9 rfl dX6_house_63 ?_
        refine ca_icmp_ne hX (q := 68) 128 rfl rfl dX6_house_65 (fun z => absurd rfl z) (fun _ => ?_)
        refine ca_aload_n hX (q := 69) 0 rfl rfl rfl dX6_house_68 ?_
        refine ca_getf hX (q := 72) cl_X6 17 (by decide) w_fl_X6_121 (by omega) c0 rfl rfl dX6_house_69 ?_
        refine ca_aload_n hX (q := 73) 0 rfl rfl rfl dX6_house_72 ?_
        refine ca_getf hX (q := 76) cl_X6 8 (by decide) w_fl_X6_118 (by omega) c0 rfl rfl dX6_house_73 ?_
        rw [h5, h131b]
        refine ca_icmp_ge hX (q := 79) 128 rfl rfl dX6_house_76 (fun _ => ?_) (fun z => absurd (nI_le hlp (by omega)) z)
        refine ca_aload_n hX (q := 129) 0 rfl rfl rfl dX6_house_128 ?_
        refine ca_iconst hX (q := 130) k_iconst_0 rfl dX6_house_129 ?_
        refine ca_puti hX (q := 133) (fs' := [_, _, _, _, _, _, _, _, _, _, _, _, _, _, _, _, _, _, _, _]) cl_X6 8 (by decide) w_fl_X6_118 rfl rfl (by omega) hN c0 (Nat.le_of_ble_eq_true rfl) rfl rfl dX6_house_130 (fun g hE hF => ?_)
        have hm := md_s1 hm hE hF
        obtain ⟨c0, c1, c2, c3, c4, c5, c6, c7, c8, c9, c10, c11, c12, c13⟩ := id hm
        have hfr := frG.tr hfr (fun j hj => hF j (by omega))
        refine ca_iload_n hX (q := 134) 2 rfl rfl rfl dX6_house_133 ?_
        refine ca_bipush hX (q := 136) k_bipush_m9 rfl dX6_house_134 ?_
        refine ca_icmp_ne hX (q := 139) 143 rfl rfl dX6_house_136 (fun z => absurd rfl z) (fun _ => ?_)
        refine ca_iload_n hX (q := 140) 1 rfl rfl rfl dX6_house_139 ?_
        refine ca_goto hX 144 rfl dX6_house_140 ?_
        refine ca_iret hX rfl rfl rfl rfl dX6_house_144 ?_
        exact re_end2 (by unfold hoA; rw [he, dn_end hlp, if_neg (nI_nn (by omega))]) hfr hm (ho_ke hho hs4)
      · refine ca_iload_n hX (q := 63) 2 rfl rfl rfl dX6_house_62 ?_
        refine ca_bipush hX (q := 65) k_bipush_m9 rfl dX6_house_63 ?_
        refine ca_icmp_ne hX (q := 68) 128 rfl rfl dX6_house_65 (fun z => absurd rfl z) (fun _ => ?_)
        refine ca_aload_n hX (q := 69) 0 rfl rfl rfl dX6_house_68 ?_
        refine ca_getf hX (q := 72) cl_X6 17 (by decide) w_fl_X6_121 (by omega) c0 rfl rfl dX6_house_69 ?_
        refine ca_aload_n hX (q := 73) 0 rfl rfl rfl dX6_house_72 ?_
        refine ca_getf hX (q := 76) cl_X6 8 (by decide) w_fl_X6_118 (by omega) c0 rfl rfl dX6_house_73 ?_
        rw [h5, h131b]
        refine ca_icmp_ge hX (q := 79) 128 rfl rfl dX6_house_76 (fun z => absurd z (nI_ge (a := pl) (b := L) (by omega) (by omega))) (fun _ => ?_)
        have hok := ps_ok hlp hL hps
        have hx1 : hrI (M 4) L pl = atM (M 4) L pl := by
          rcases hr_at (M 4) L pl with ⟨_, a, b⟩ | ⟨a, _, _⟩
          · rw [a, b]
          · exact absurd (show pl < L by omega) a
        refine ca_aload_n hX (q := 80) 0 rfl rfl rfl dX6_house_79 ?_
        refine ca_getf hX (q := 83) cl_X6 17 (by decide) w_fl_X6_121 (by omega) c0 rfl rfl dX6_house_80 ?_
        rw [h5]
        refine ca_istore_n hX (q := 84) 3 rfl (ls' := [_, _, _, _, _, _]) (Nat.le_of_ble_eq_true rfl) (Nat.le_of_ble_eq_true rfl) (Or.inr rfl) rfl rfl dX6_house_83 ?_
        refine ca_aload_n hX (q := 85) 0 rfl rfl rfl dX6_house_84 ?_
        refine ca_cVi hX (q := 88) y_X6_here w_ml_X6_124 (by omega) hN c0 (c_X6_here l N g o M1 hm ho L h131b hL pl (by omega) h5) (by decide) rfl (Nat.le_of_ble_eq_true rfl) rfl dX6_house_85 rfl ?_
        rw [hho.2.2.2.1]
        refine ca_istore hX (q := 90) (ls' := [_, _, _, _, _, _]) (Nat.le_of_ble_eq_true rfl) (Nat.le_of_ble_eq_true rfl) (Or.inr rfl) rfl rfl dX6_house_88 ?_
        refine ca_aload_n hX (q := 91) 0 rfl rfl rfl dX6_house_90 ?_
        refine ca_cV hX (q := 94) y_X6_readsStatement w_ml_X6_144 (by omega) hN c0 (c_X6_readsStatement l N g o M1 hm ho L h131b hL pl (by omega) h5) (by decide) rfl (Nat.le_of_ble_eq_true rfl) rfl dX6_house_91 rfl ?_
        rintro rr g ⟨M2, hm, hr2, hf, hd⟩
        rw [hho.2.2.2.1] at hd
        have hho := hho.rd hr2
        have hfr := hfr.tr hf
        obtain ⟨c0, c1, c2, c3, c4, c5, c6, c7, c8, c9, c10, c11, c12, c13⟩ := id hm
        rcases hd with ⟨rfl, ho3, h5, hnu⟩ | ⟨rfl, ho3, h5⟩
        · refine ca_istore hX (q := 96) (ls' := [_, _, _, _, _, _]) (Nat.le_of_ble_eq_true rfl) (Nat.le_of_ble_eq_true rfl) (Or.inr rfl) rfl rfl dX6_house_94 ?_
          refine ca_aload_n hX (q := 97) 0 rfl rfl rfl dX6_house_96 ?_
          refine ca_iload hX (q := 99) rfl rfl dX6_house_97 ?_
          refine ca_cV hX (q := 102) y_X6_isDone w_ml_X6_151 (by omega) hN c0 (c_X6_isDone l N g o M2 hm ho P1 (by rw [hho.1]; exact hw) L pl (by rw [hho.2.2.2.1]; exact hok.1) (by rw [hho.2.2.2.1]; exact hnu) _ (by rw [hho.2.2.2.1]; exact hx1)) (by decide) rfl (Nat.le_of_ble_eq_true rfl) rfl dX6_house_99 rfl ?_
          rintro rr g ⟨hf, hd2⟩
          rw [hho.2.2.2.1, hho.1] at hd2
          have hfr := hfr.tr hf
          rcases hd2 with ⟨h2, P2, e2, rfl, hm⟩ | ⟨e2, rfl, hm⟩
          · have hho := hho.st h2
            refine ca_if_eq hX (q := 105) 108 rfl rfl dX6_house_102 (fun z => absurd z (by decide)) (fun _ => ?_)
            refine ca_goto hX 62 rfl dX6_house_105 ?_
            have hl3 := len_3 hok.1
            refine ca_drop hX (ca_le_s rfl (ca_le_s rfl (ca_le_s rfl (ca_le_n (ca_le_n (ca_le_n ca_le_0)))))) (ih (pl + lenF (kF (M 4) L pl)) _ _ h2 P2 (by omega) (by omega) hm hho hfr ?_ (wf_st hok.1 hw e2) hok.2 (he.trans (dn_some hlp e2)))
            rw [st_n _ _ (by omega)]; exact h5
          · obtain ⟨c0, c1, c2, c3, c4, c5, c6, c7, c8, c9, c10, c11, c12, c13⟩ := id hm
            have hlt : pl < L := by omega
            have hn9 := neg_9 pl (by omega)
            refine ca_if_eq hX (q := 105) 108 rfl rfl dX6_house_102 (fun _ => ?_) (fun z => absurd rfl z)
            refine ca_sipush hX (q := 111) k_sipush_m2000 rfl dX6_house_108 ?_
            refine ca_iload_n hX (q := 112) 3 rfl rfl rfl dX6_house_111 ?_
            refine ca_isub hX (q := 113) rfl dX6_house_112 ?_
            refine ca_istore_n hX (q := 114) 2 rfl (ls' := [_, _, _, _, _, _]) (Nat.le_of_ble_eq_true rfl) (Nat.le_of_ble_eq_true rfl) (Or.inr rfl) rfl rfl dX6_house_113 ?_
            refine ca_aload_n hX (q := 115) 0 rfl rfl rfl dX6_house_114 ?_
            refine ca_getf hX (q := 118) cl_X6 3 (by decide) w_fl_X6_19 (by omega) c0 rfl rfl dX6_house_115 ?_
            refine ca_aload_n hX (q := 119) 0 rfl rfl rfl dX6_house_118 ?_
            refine ca_getf hX (q := 122) cl_X6 0 (by decide) w_fl_X6_9 (by omega) c0 rfl rfl dX6_house_119 ?_
            refine ca_cS hX (q := 125) y_X6_lays w_ml_X6_147 hN (c_X6_lays l N g (o + 4) (o + 1) _ _ c4 c1 (by omega) (by omega) (by omega)) (by decide) rfl (Nat.le_of_ble_eq_true rfl) rfl dX6_house_122 rfl ?_
            rintro _ g ⟨rfl, hE, hF⟩
            refine ca_same hX (f' := M 0) (by omega) hN hE (fun j hj => (if_pos hj).trans (congrFun hho.2.1 j)) (fun g hE2 hF2 => ?_)
            have hm := md_f0 hm hE2 (fun j hj => (hF2 j hj).trans (hF j hj))
            have hfr := hfr.tr (fun j hj => (hF2 j (by omega)).trans (hF j (by omega)))
            have hho := hho.st (M 0)
            obtain ⟨c0, c1, c2, c3, c4, c5, c6, c7, c8, c9, c10, c11, c12, c13⟩ := id hm
            refine ca_goto hX 62 rfl dX6_house_125 ?_
            refine ca_iload_n hX (q := 63) 2 rfl rfl rfl dX6_house_62 ?_
            refine ca_bipush hX (q := 65) k_bipush_m9 rfl dX6_house_63 ?_
            refine ca_icmp_ne hX (q := 68) 128 rfl rfl dX6_house_65 (fun _ => ?_) (fun z => absurd z hn9.2.1)
            refine ca_aload_n hX (q := 129) 0 rfl rfl rfl dX6_house_128 ?_
            refine ca_iconst hX (q := 130) k_iconst_0 rfl dX6_house_129 ?_
            refine ca_puti hX (q := 133) (fs' := [_, _, _, _, _, _, _, _, _, _, _, _, _, _, _, _, _, _, _, _]) cl_X6 8 (by decide) w_fl_X6_118 rfl rfl (by omega) hN c0 (Nat.le_of_ble_eq_true rfl) rfl rfl dX6_house_130 (fun g hE hF => ?_)
            have hm := md_s1 hm hE hF
            obtain ⟨c0, c1, c2, c3, c4, c5, c6, c7, c8, c9, c10, c11, c12, c13⟩ := id hm
            have hfr := frG.tr hfr (fun j hj => hF j (by omega))
            refine ca_iload_n hX (q := 134) 2 rfl rfl rfl dX6_house_133 ?_
            refine ca_bipush hX (q := 136) k_bipush_m9 rfl dX6_house_134 ?_
            refine ca_icmp_ne hX (q := 139) 143 rfl rfl dX6_house_136 (fun _ => ?_) (fun z => absurd z hn9.2.1)
            refine ca_iload_n hX (q := 144) 2 rfl rfl rfl dX6_house_143 ?_
            refine ca_iret hX rfl rfl rfl rfl dX6_house_144 ?_
            exact re_end2 (by unfold hoA; rw [he, dn_none hlp e2, if_pos hn9.2.2.2]) hfr hm (ho_k0 hho hs4)
        · exact absurd hok.1 ho3
  have pass2 : ∀ (g1 : ca_G) (M1 : Nat → Nat → Int32), mdG g1 o M1 → rdM M M1 → frG g0 g1 o (o + 14) → stI (M 4) L = -9 → X 46 [some (.ref o), some (.int (nI (csF (M 4) L 97 0))), some (.int (-9)), none, none, none] [] N 1000000 g1 := by
    intro g M1 hm hrd hfr hst
    obtain ⟨c0, c1, c2, c3, c4, c5, c6, c7, c8, c9, c10, c11, c12, c13⟩ := id hm
    refine ca_aload_n hX (q := 47) 0 rfl rfl rfl dX6_house_46 ?_
    refine ca_getf hX (q := 50) cl_X6 0 (by decide) w_fl_X6_9 (by omega) c0 rfl rfl dX6_house_47 ?_
    refine ca_aload_n hX (q := 51) 0 rfl rfl rfl dX6_house_50 ?_
    refine ca_getf hX (q := 54) cl_X6 3 (by decide) w_fl_X6_19 (by omega) c0 rfl rfl dX6_house_51 ?_
    refine ca_cS hX (q := 57) y_X6_lays w_ml_X6_147 hN (c_X6_lays l N g (o + 1) (o + 4) _ _ c1 c4 (by omega) (by omega) (by omega)) (by decide) rfl (Nat.le_of_ble_eq_true rfl) rfl dX6_house_54 rfl ?_
    rintro _ g ⟨rfl, hE, hF⟩
    refine ca_same hX (f' := M 0) (by omega) hN hE (fun j hj => (if_pos hj).trans (congrFun (hrd.1 0 (by omega) (by omega)) j)) (fun g hE2 hF2 => ?_)
    have hm := md_f3 hm hE2 (fun j hj => (hF2 j hj).trans (hF j hj))
    have hfr := hfr.tr (fun j hj => (hF2 j (by omega)).trans (hF j (by omega)))
    obtain ⟨c0, c1, c2, c3, c4, c5, c6, c7, c8, c9, c10, c11, c12, c13⟩ := id hm
    refine ca_aload_n hX (q := 58) 0 rfl rfl rfl dX6_house_57 ?_
    refine ca_iconst hX (q := 59) k_iconst_0 rfl dX6_house_58 ?_
    refine ca_puti hX (q := 62) (fs' := [_, _, _, _, _, _, _, _, _, _, _, _, _, _, _, _, _, _, _, _]) cl_X6 17 (by decide) w_fl_X6_121 rfl rfl (by omega) hN c0 (Nat.le_of_ble_eq_true rfl) rfl rfl dX6_house_59 (fun g hE hF => ?_)
    have hm := md_s5 hm hE hF
    obtain ⟨c0, c1, c2, c3, c4, c5, c6, c7, c8, c9, c10, c11, c12, c13⟩ := id hm
    have hfr := frG.tr hfr (fun j hj => hF j (by omega))
    exact loop2 97 0 _ _ (M 0) P (by omega) (by omega) hm (rd_ho hrd) hfr (by rw [upB_s, upd_s]; rfl) w (st_ps hst) (by unfold hoR; rw [if_pos hst])
  have loop1 : ∀ (n c pl : Nat) (g1 : ca_G) (M1 : Nat → Nat → Int32), (pl < L ∨ (L = 0 ∧ pl = 0)) → L + 1 ≤ pl + n → c ≤ pl → mdG g1 o M1 → rdM M M1 → frG g0 g1 o (o + 14) → M1 13 5 = nI pl → (L ≠ 0 → psF (M 4) L 97 0 = psF (M 4) L n pl) → c + csF (M 4) L n pl = (csF (M 4) L 97 0) → X 10 [some (.ref o), some (.int (nI c)), some (.int (-9)), none, none, none] [] N 1000000 g1 := by
    intro n
    induction n with
    | zero =>
      intro c pl g M1 hpL hpn hcp hm hrd hfr h5 hps hc
      omega
    | succ n ih =>
      intro c pl g M1 hpL hpn hcp hm hrd hfr h5 hps hc
      obtain ⟨c0, c1, c2, c3, c4, c5, c6, c7, c8, c9, c10, c11, c12, c13⟩ := id hm
      have h131b : M1 13 1 = nI L := (hrd.2 1 (by omega)).trans h131
      refine ca_aload_n hX (q := 11) 0 rfl rfl rfl dX6_house_10 ?_
      refine ca_cV hX (q := 14) y_X6_readsStatement w_ml_X6_144 (by omega) hN c0 (c_X6_readsStatement l N g o M1 hm ho L h131b hL pl (by omega) h5) (by decide) rfl (Nat.le_of_ble_eq_true rfl) rfl dX6_house_11 rfl ?_
      rintro rr g ⟨M2, hm, hr2, hf, hd⟩
      rw [hrd.1 4 (by omega) (by omega)] at hd
      have hrd := hrd.tr hr2
      have hfr := hfr.tr hf
      obtain ⟨c0, c1, c2, c3, c4, c5, c6, c7, c8, c9, c10, c11, c12, c13⟩ := id hm
      rcases hd with ⟨rfl, ho3, h5, hnu⟩ | ⟨rfl, ho3, h5⟩
      · have hlp : ¬ L ≤ pl := by
          rcases hpL with z | z
          · omega
          · intro _
            have hk5 : kF (M 4) L pl = 5 := by
              show fmI (atM (M 4) L pl) = 5
              rw [show atM (M 4) L pl = -9 from if_neg (by omega)]; rfl
            exact absurd ho3.1 (by rw [hk5]; decide)
        have hl3 := len_3 ho3
        have hcs : c + (csF (M 4) L n (pl + lenF (kF (M 4) L pl)) + 1) = (csF (M 4) L 97 0) := by rw [← hc, csF, if_neg hlp]
        refine ca_if_ne hX (q := 17) 26 rfl rfl dX6_house_14 (fun _ => ?_) (fun z => absurd z (by decide))
        refine ca_iinc hX (q := 29) (ls' := [_, _, _, _, _, _]) k_iconst_1 rfl (Nat.le_of_ble_eq_true rfl) (Or.inr rfl) rfl rfl dX6_house_26 ?_
        refine ca_iload_n hX (q := 30) 2 rfl rfl rfl dX6_house_29 ?_
        refine ca_bipush hX (q := 32) k_bipush_m9 rfl dX6_house_30 ?_
        refine ca_icmp_ne hX (q := 35) 46 rfl rfl dX6_house_32 (fun z => absurd rfl z) (fun _ => ?_)
        refine ca_aload_n hX (q := 36) 0 rfl rfl rfl dX6_house_35 ?_
        refine ca_getf hX (q := 39) cl_X6 17 (by decide) w_fl_X6_121 (by omega) c0 rfl rfl dX6_house_36 ?_
        refine ca_aload_n hX (q := 40) 0 rfl rfl rfl dX6_house_39 ?_
        refine ca_getf hX (q := 43) cl_X6 8 (by decide) w_fl_X6_118 (by omega) c0 rfl rfl dX6_house_40 ?_
        rw [h5, show M2 13 1 = nI L from (hrd.2 1 (by omega)).trans h131]
        refine ca_icmp_lt hX (q := 46) 10 rfl rfl dX6_house_43 (fun b43 => ?_) (fun b43 => ?_)
        · have hlt := (nI_ltI (by omega) (by omega)).mp b43
          rw [show nI c + 1 = nI (c + 1) from nI_add c 1]
          exact ih (c + 1) (pl + lenF (kF (M 4) L pl)) _ M2 (Or.inl hlt) (by omega) (by omega) hm hrd hfr h5 (fun z => (hps z).trans (by rw [psF, if_neg hlp, if_pos (show 0 < lenF (kF (M 4) L pl) ∧ fcF (M 4) L pl = lenF (kF (M 4) L pl) from ho3)])) (by omega)
        · have hge := mt (nI_ltI (a := pl + lenF (kF (M 4) L pl)) (b := L) (by omega) (by omega)).mpr b43
          rw [show nI c + 1 = nI (csF (M 4) L 97 0) by rw [show (csF (M 4) L 97 0) = c + 1 by rw [cs_end (show L ≤ pl + lenF (kF (M 4) L pl) by omega)] at hcs; omega]; exact nI_add c 1]
          exact pass2 _ M2 hm hrd hfr (by unfold stI; rw [if_neg (by omega), hps (by omega), psF, if_neg hlp, if_pos (show 0 < lenF (kF (M 4) L pl) ∧ fcF (M 4) L pl = lenF (kF (M 4) L pl) from ho3), ps_end2 (by omega)])
      · have h2 := (fcN_le (uF (M 4) L pl (kF (M 4) L pl)) (lenF (kF (M 4) L pl)) 0).2
        have h8 : lenF (kF (M 4) L pl) ≤ 8 := len_8 _ (fm_7 _)
        have hfc : fcF (M 4) L pl ≤ 8 := by unfold fcF; omega
        have hn9 := neg_9 (pl + fcF (M 4) L pl) (by omega)
        have hst : stI (M 4) L = nI (pl + fcF (M 4) L pl) := by
          unfold stI
          rcases hpL with z | z
          · rw [if_neg (by omega), hps (by omega), psF, if_neg (by omega), if_neg (show ¬ (0 < lenF (kF (M 4) L pl) ∧ fcF (M 4) L pl = lenF (kF (M 4) L pl)) from ho3)]
          · rw [if_pos z.1, z.2]
            have hk5 : kF (M 4) L 0 = 5 := by
              show fmI (atM (M 4) L 0) = 5
              rw [show atM (M 4) L 0 = -9 from if_neg (by omega)]; rfl
            unfold fcF
            rw [hk5]; rfl
        have hR : (hoR (M 4) L (M 0) P).1 = -1000 - nI (pl + fcF (M 4) L pl) := by unfold hoR; rw [if_neg (by rw [hst]; exact nI_m9 _ (by omega)), hst]
        refine ca_if_ne hX (q := 17) 26 rfl rfl dX6_house_14 (fun z => absurd rfl z) (fun _ => ?_)
        refine ca_sipush hX (q := 20) k_sipush_m1000 rfl dX6_house_17 ?_
        refine ca_aload_n hX (q := 21) 0 rfl rfl rfl dX6_house_20 ?_
        refine ca_getf hX (q := 24) cl_X6 17 (by decide) w_fl_X6_121 (by omega) c0 rfl rfl dX6_house_21 ?_
        rw [h5]
        refine ca_isub hX (q := 25) rfl dX6_house_24 ?_
        refine ca_istore_n hX (q := 26) 2 rfl (ls' := [_, _, _, _, _, _]) (Nat.le_of_ble_eq_true rfl) (Nat.le_of_ble_eq_true rfl) (Or.inr rfl) rfl rfl dX6_house_25 ?_
        refine ca_iinc hX (q := 29) (ls' := [_, _, _, _, _, _]) k_iconst_1 rfl (Nat.le_of_ble_eq_true rfl) (Or.inr rfl) rfl rfl dX6_house_26 ?_
        refine ca_iload_n hX (q := 30) 2 rfl rfl rfl dX6_house_29 ?_
        refine ca_bipush hX (q := 32) k_bipush_m9 rfl dX6_house_30 ?_
        refine ca_icmp_ne hX (q := 35) 46 rfl rfl dX6_house_32 (fun _ => ?_) (fun z => absurd z hn9.1)
        exact fail _ M2 _ _ hm hrd hfr hR hn9.2.2.1 hn9.1
  refine ca_aload_n hX (q := 1) 0 rfl rfl rfl dX6_house_0 ?_
  refine ca_iconst hX (q := 2) k_iconst_0 rfl dX6_house_1 ?_
  refine ca_puti hX (q := 5) (fs' := [_, _, _, _, _, _, _, _, _, _, _, _, _, _, _, _, _, _, _, _]) cl_X6 17 (by decide) w_fl_X6_121 rfl rfl (by omega) hN c0 (Nat.le_of_ble_eq_true rfl) rfl rfl dX6_house_2 (fun g hE hF => ?_)
  have hm := md_s5 hm hE hF
  obtain ⟨c0, c1, c2, c3, c4, c5, c6, c7, c8, c9, c10, c11, c12, c13⟩ := id hm
  have hfr := frG.tr hfr (fun j hj => hF j (by omega))
  refine ca_iconst hX (q := 6) k_iconst_0 rfl dX6_house_5 ?_
  refine ca_istore_n hX (q := 7) 1 rfl (ls' := [_, _, _, _, _, _]) (Nat.le_of_ble_eq_true rfl) (Nat.le_of_ble_eq_true rfl) (Or.inr rfl) rfl rfl dX6_house_6 ?_
  refine ca_bipush hX (q := 9) k_bipush_m9 rfl dX6_house_7 ?_
  refine ca_istore_n hX (q := 10) 2 rfl (ls' := [_, _, _, _, _, _]) (Nat.le_of_ble_eq_true rfl) (Nat.le_of_ble_eq_true rfl) (Or.inr rfl) rfl rfl dX6_house_9 ?_
  exact ca_drop hX (ca_le_s rfl (ca_le_s rfl (ca_le_s rfl (ca_le_n (ca_le_n (ca_le_n ca_le_0)))))) (loop1 97 0 0 _ _ (by omega) (by omega) (by omega) hm (rdM.rf.pl 0) hfr (by rw [upB_s, upd_s]; rfl) (fun _ => rfl) (by omega))

