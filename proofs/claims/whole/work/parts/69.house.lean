/-! house of both -/
def csF (f : Nat → Int32) (L : Nat) : Nat → Nat → Nat
  | 0, _ => 0
  | n + 1, pl => if L ≤ pl then 0 else csF f L n (pl + lenF (kF f L pl)) + 1
def dnF (f : Nat → Int32) (L : Nat) (T : Int32) : Nat → Nat → (Nat → Int32) → Nat → Int32 × (Nat → Int32) × Nat
  | 0, _, h, P => (T, h, P)
  | n + 1, pl, h, P => if L ≤ pl then (T, h, P) else match stE f L pl h P with
    | none => (-2000 - nI pl, h, P)
    | some e => dnF f L T n (pl + lenF (kF f L pl)) e.1 e.2
def hoR (f : Nat → Int32) (L : Nat) (h : Nat → Int32) (P : Nat) : Int32 × (Nat → Int32) × Nat := if stI f L = -9 then dnF f L (nI (csF f L 97 0)) 97 0 h P else (-1000 - stI f L, h, P)
def hoA (M : Nat → Nat → Int32) (P L : Nat) : An := ((hoR (M 4) L (M 0) P).1, if (hoR (M 4) L (M 0) P).1 < 0 then upB M 13 1 0 else stB (upB M 13 1 0) 0 (hoR (M 4) L (M 0) P).2.1)
theorem dn_end {f : Nat → Int32} {L : Nat} {T : Int32} {n pl : Nat} {h : Nat → Int32} {P : Nat} (hl : L ≤ pl) : dnF f L T n pl h P = (T, h, P) := by
  cases n with
  | zero => rfl
  | succ n => rw [dnF, if_pos hl]
theorem cs_end {f : Nat → Int32} {L n pl : Nat} (hl : L ≤ pl) : csF f L n pl = 0 := by
  cases n with
  | zero => rfl
  | succ n => rw [csF, if_pos hl]
theorem ps_end2 {f : Nat → Int32} {L n pl : Nat} (hl : L ≤ pl) : psF f L n pl = -9 := by
  cases n with
  | zero => rfl
  | succ n => rw [psF, if_pos hl]
theorem dn_none {f : Nat → Int32} {L : Nat} {T : Int32} {n pl : Nat} {h : Nat → Int32} {P : Nat} (hl : ¬ L ≤ pl) (e : stE f L pl h P = none) : dnF f L T (n + 1) pl h P = (-2000 - nI pl, h, P) := by rw [dnF, if_neg hl, e]
theorem dn_some {f : Nat → Int32} {L : Nat} {T : Int32} {n pl : Nat} {h h' : Nat → Int32} {P P' : Nat} (hl : ¬ L ≤ pl) (e : stE f L pl h P = some (h', P')) : dnF f L T (n + 1) pl h P = dnF f L T n (pl + lenF (kF f L pl)) h' P' := by rw [dnF, if_neg hl, e]
theorem ps_ok {f : Nat → Int32} {L n pl : Nat} (hl : ¬ L ≤ pl) (hL : L ≤ 96) (h : psF f L (n + 1) pl = -9) : okF f L pl ∧ psF f L n (pl + lenF (kF f L pl)) = -9 := by
  rw [psF, if_neg hl] at h
  split at h
  · next z => exact ⟨z, h⟩
  · exfalso
    have h2 := (fcN_le (uF f L pl (kF f L pl)) (lenF (kF f L pl)) 0).2
    have h8 : lenF (kF f L pl) ≤ 8 := len_8 _ (fm_7 _)
    exact nI_m9 _ (show pl + fcF f L pl < 2 ^ 31 by unfold fcF; omega) h
theorem len_3 {f : Nat → Int32} {L pl : Nat} (h : okF f L pl) : 3 ≤ lenF (kF f L pl) ∧ lenF (kF f L pl) ≤ 8 := by
  have h7 := fm_7 (atM f L pl)
  have : ∀ k, k < 7 → 0 < ca_sL.getD k 0 → 3 ≤ ca_sL.getD k 0 ∧ ca_sL.getD k 0 ≤ 8 := by decide
  exact this _ h7 h.1
theorem st_not (f : Nat → Int32) (L : Nat) (hL : L ≤ 96) : stI f L = -9 ∨ ∃ k, k < 200 ∧ stI f L = nI k := by
  unfold stI
  by_cases z : L = 0
  · rw [if_pos z]; exact Or.inr ⟨0, by omega, rfl⟩
  · rw [if_neg z]
    have : ∀ n pl, pl ≤ L + 8 → psF f L n pl = -9 ∨ ∃ k, k < 200 ∧ psF f L n pl = nI k := by
      intro n
      induction n with
      | zero => intro pl _; exact Or.inl rfl
      | succ n ih =>
        intro pl hpl
        rw [psF]
        split
        · exact Or.inl rfl
        · split
          · next y => exact ih _ (by have := (len_3 (f := f) (L := L) (pl := pl) y).2; omega)
          · have h2 := (fcN_le (uF f L pl (kF f L pl)) (lenF (kF f L pl)) 0).2
            have h8 : lenF (kF f L pl) ≤ 8 := len_8 _ (fm_7 _)
            exact Or.inr ⟨_, (show pl + fcF f L pl < 200 by unfold fcF; omega), rfl⟩
    exact this 97 0 (by omega)
theorem neg_9 : ∀ k, k < 300 → ¬ (-1000 - nI k = (-9 : Int32)) ∧ ¬ (-2000 - nI k = (-9 : Int32)) ∧ -1000 - nI k < (0 : Int32) ∧ -2000 - nI k < (0 : Int32) := by decide +kernel

theorem st_ps {f : Nat → Int32} {L : Nat} (h : stI f L = -9) : psF f L 97 0 = -9 := by
  unfold stI at h
  by_cases z : L = 0
  · rw [if_pos z] at h; exact absurd h (by decide)
  · rw [if_neg z] at h; exact h

set_option maxRecDepth 100000 in
set_option maxHeartbeats 4000000 in
theorem c_X4_tellTo (l : Launch) (N : Nat) (g : ca_G) (f : Nat → Int32) (L : Nat) (h25 : g 25 = .inr (3, [.ref 26])) (hn : nbG g 26 96 f L) (hL : L ≤ 96) (hN31 : 31 ≤ N) (h : Nat → Int32) (ht : hsG g 11 h) (P : Nat) (w : wfH h P) : ca_Ct l yX4_tellTo cX4_tellTo 5 (some .int) 8 0 0 N 1000000 [.ref 25, .ref 11] g (fun rr g' => rr = some (.int (hoR f L h P).1) ∧ frG g g' 11 16 ∧ hsG g' 11 (hoR f L h P).2.1) := by
  refine ca_intro (by decide) (Nat.le_of_ble_eq_true rfl) (fun X hX hN => ?_)
  show X 0 [_, _, none, none, none] [] N 1000000 g
  have hfr : frG g g 11 16 := frG.rf
  have l0 := hn.1
  have t0 := ht.1
  have loop : stI f L = -9 → ∀ (n c pl : Nat) (g1 : ca_G) (h1 : Nat → Int32) (P1 : Nat), L + 1 ≤ pl + n → c ≤ pl → pl ≤ L + 8 → g1 25 = .inr (3, [.ref 26]) → nbG g1 26 96 f L → hsG g1 11 h1 → frG g g1 11 16 → wfH h1 P1 → psF f L n pl = -9 → c + csF f L n pl = csF f L 97 0 → (hoR f L h P) = dnF f L (nI (csF f L 97 0)) n pl h1 P1 → X 22 [some (.ref 25), some (.ref 11), some (.int (-9)), some (.int (nI pl)), some (.int (nI c))] [] N 1000000 g1 := by
    intro hst n
    induction n with
    | zero =>
      intro c pl g h1 P1 hpn hcp hpl h25 hn ht hfr hw hps hc he
      have l0 := hn.1
      have t0 := ht.1
      have hlp : L ≤ pl := by omega
      refine ca_iload_n hX (q := 23) 3 rfl rfl rfl dX4_tellTo_22 ?_
      refine ca_aload_n hX (q := 24) 0 rfl rfl rfl dX4_tellTo_23 ?_
      refine ca_getf hX (q := 27) cl_X4 0 (by decide) w_fl_X4_14 (by omega) h25 rfl rfl dX4_tellTo_24 ?_
      refine ca_getN hX (q := 30) cl_X3 1 (by decide) w_fn_X4_24 (by omega) l0 rfl rfl dX4_tellTo_27 ?_
      refine ca_icmp_ge hX (q := 33) 78 rfl rfl dX4_tellTo_30 (fun _ => ?_) (fun z => absurd (nI_le hlp (by omega)) z)
      refine ca_iload hX (q := 80) rfl rfl dX4_tellTo_78 ?_
      refine ca_iret hX rfl rfl rfl rfl dX4_tellTo_80 ?_
      exact ⟨by rw [he, dn_end hlp, ← hc, cs_end hlp]; rfl, hfr, by rw [he, dn_end hlp]; exact ht⟩
    | succ n ih =>
      intro c pl g h1 P1 hpn hcp hpl h25 hn ht hfr hw hps hc he
      have l0 := hn.1
      have t0 := ht.1
      by_cases hlp : L ≤ pl
      · refine ca_iload_n hX (q := 23) 3 rfl rfl rfl dX4_tellTo_22 ?_
        refine ca_aload_n hX (q := 24) 0 rfl rfl rfl dX4_tellTo_23 ?_
        refine ca_getf hX (q := 27) cl_X4 0 (by decide) w_fl_X4_14 (by omega) h25 rfl rfl dX4_tellTo_24 ?_
        refine ca_getN hX (q := 30) cl_X3 1 (by decide) w_fn_X4_24 (by omega) l0 rfl rfl dX4_tellTo_27 ?_
        refine ca_icmp_ge hX (q := 33) 78 rfl rfl dX4_tellTo_30 (fun _ => ?_) (fun z => absurd (nI_le hlp (by omega)) z)
        refine ca_iload hX (q := 80) rfl rfl dX4_tellTo_78 ?_
        refine ca_iret hX rfl rfl rfl rfl dX4_tellTo_80 ?_
        exact ⟨by rw [he, dn_end hlp, ← hc, cs_end hlp]; rfl, hfr, by rw [he, dn_end hlp]; exact ht⟩
      · refine ca_iload_n hX (q := 23) 3 rfl rfl rfl dX4_tellTo_22 ?_
        refine ca_aload_n hX (q := 24) 0 rfl rfl rfl dX4_tellTo_23 ?_
        refine ca_getf hX (q := 27) cl_X4 0 (by decide) w_fl_X4_14 (by omega) h25 rfl rfl dX4_tellTo_24 ?_
        refine ca_getN hX (q := 30) cl_X3 1 (by decide) w_fn_X4_24 (by omega) l0 rfl rfl dX4_tellTo_27 ?_
        refine ca_icmp_ge hX (q := 33) 78 rfl rfl dX4_tellTo_30 (fun z => absurd z (nI_ge (a := pl) (b := L) (by omega) (by omega))) (fun _ => ?_)
        refine ca_iload hX (q := 35) rfl rfl dX4_tellTo_33 ?_
        refine ca_bipush hX (q := 37) k_bipush_96 rfl dX4_tellTo_35 ?_
        refine ca_icmp_ge hX (q := 40) 78 rfl rfl dX4_tellTo_37 (fun z => absurd z (nI_ge (a := c) (b := 96) (by omega) (by omega))) (fun _ => ?_)
        have hok := ps_ok hlp hL hps
        refine ca_aload_n hX (q := 41) 0 rfl rfl rfl dX4_tellTo_40 ?_
        refine ca_iload_n hX (q := 42) 3 rfl rfl rfl dX4_tellTo_41 ?_
        refine ca_aload_n hX (q := 43) 1 rfl rfl rfl dX4_tellTo_42 ?_
        refine ca_cV hX (q := 46) y_X4_tellStatement w_ml_X4_28 (by omega) hN h25 (c_X4_tellStatement l N g f L h25 hn hL hN31 h1 ht P1 hw.1 hw.2.1 pl (by omega) hok.1) (by decide) rfl (Nat.le_of_ble_eq_true rfl) rfl dX4_tellTo_43 rfl ?_
        rintro rr g ⟨hf, hd⟩
        have h25 := (hf 25 (by omega)).trans h25
        have hn := hn.fr hf (by omega)
        have hfr := hfr.tr hf
        have l0 := hn.1
        rcases hd with ⟨h2, P2, e2, rfl, ht2⟩ | ⟨e2, rfl, ht2⟩
        · have t0 := ht2.1
          refine ca_if_ne hX (q := 49) 55 rfl rfl dX4_tellTo_46 (fun _ => ?_) (fun z => absurd z (by decide))
          refine ca_iload_n hX (q := 56) 3 rfl rfl rfl dX4_tellTo_55 ?_
          refine ca_aload_n hX (q := 57) 0 rfl rfl rfl dX4_tellTo_56 ?_
          refine ca_getf hX (q := 60) cl_X4 0 (by decide) w_fl_X4_14 (by omega) h25 rfl rfl dX4_tellTo_57 ?_
          refine ca_iload_n hX (q := 61) 3 rfl rfl rfl dX4_tellTo_60 ?_
          refine ca_cVi hX (q := 64) y_X3_at w_ml_X4_32 (by omega) hN l0 (c_X3_at l N g 26 96 L f hn (by omega) (by omega) hL pl (by omega)) (by decide) rfl (Nat.le_of_ble_eq_true rfl) rfl dX4_tellTo_61 rfl ?_
          refine ca_cS hX (q := 67) y_X4_formOf w_ml_X4_36 hN (c_X4_formOf l N g _) (by decide) rfl (Nat.le_of_ble_eq_true rfl) rfl dX4_tellTo_64 rfl ?_
          rintro _ g ⟨rfl, rfl⟩
          have hk7 := fm_7 (atM f L pl)
          refine ca_cQi hX (q := 70) y_J0_length_8abf5 w_ml_X4_40 (k := (fmI (atM f L pl))) hk7 hN (c_length l N g (fmI (atM f L pl)) hk7) (by decide) rfl (Nat.le_of_ble_eq_true rfl) rfl dX4_tellTo_67 rfl ?_
          refine ca_iadd hX (q := 71) rfl dX4_tellTo_70 ?_
          refine ca_istore_n hX (q := 72) 3 rfl (ls' := [_, _, _, _, _]) (Nat.le_of_ble_eq_true rfl) (Nat.le_of_ble_eq_true rfl) (Or.inr rfl) rfl rfl dX4_tellTo_71 ?_
          refine ca_iinc hX (q := 75) (ls' := [_, _, _, _, _]) k_iconst_1 rfl (Nat.le_of_ble_eq_true rfl) (Or.inr rfl) rfl rfl dX4_tellTo_72 ?_
          refine ca_goto hX 22 rfl dX4_tellTo_75 ?_
          rw [show nI c + 1 = nI (c + 1) from nI_add c 1, nI_add]
          have hl3 := len_3 hok.1
          have hcs : csF f L (n + 1) pl = csF f L n (pl + lenF (kF f L pl)) + 1 := by rw [csF, if_neg hlp]
          exact ih (c + 1) (pl + lenF (kF f L pl)) _ h2 P2 (by omega) (by omega) (by omega) h25 hn ht2 hfr (wf_st hok.1 hw e2) hok.2 (by rw [hcs] at hc; omega) (he.trans (dn_some hlp e2))
        · refine ca_if_ne hX (q := 49) 55 rfl rfl dX4_tellTo_46 (fun z => absurd rfl z) (fun _ => ?_)
          refine ca_sipush hX (q := 52) k_sipush_m2000 rfl dX4_tellTo_49 ?_
          refine ca_iload_n hX (q := 53) 3 rfl rfl rfl dX4_tellTo_52 ?_
          refine ca_isub hX (q := 54) rfl dX4_tellTo_53 ?_
          refine ca_iret hX rfl rfl rfl rfl dX4_tellTo_54 ?_
          exact ⟨by rw [he, dn_none hlp e2], hfr, by rw [he, dn_none hlp e2]; exact ht2⟩
  refine ca_aload_n hX (q := 1) 0 rfl rfl rfl dX4_tellTo_0 ?_
  refine ca_cVi hX (q := 4) y_X4_firstStray w_ml_X4_20 (by omega) hN h25 (c_X4_firstStray l N g f L h25 hn hL hN31) (by decide) rfl (Nat.le_of_ble_eq_true rfl) rfl dX4_tellTo_1 rfl ?_
  refine ca_istore_n hX (q := 5) 2 rfl (ls' := [_, _, _, _, _]) (Nat.le_of_ble_eq_true rfl) (Nat.le_of_ble_eq_true rfl) (Or.inr rfl) rfl rfl dX4_tellTo_4 ?_
  refine ca_iload_n hX (q := 6) 2 rfl rfl rfl dX4_tellTo_5 ?_
  refine ca_bipush hX (q := 8) k_bipush_m9 rfl dX4_tellTo_6 ?_
  refine ca_icmp_eq hX (q := 11) 17 rfl rfl dX4_tellTo_8 (fun c8 => ?_) (fun c8 => ?_)
  · rw [c8]
    refine ca_iconst hX (q := 18) k_iconst_0 rfl dX4_tellTo_17 ?_
    refine ca_istore_n hX (q := 19) 3 rfl (ls' := [_, _, _, _, _]) (Nat.le_of_ble_eq_true rfl) (Nat.le_of_ble_eq_true rfl) (Or.inr rfl) rfl rfl dX4_tellTo_18 ?_
    refine ca_iconst hX (q := 20) k_iconst_0 rfl dX4_tellTo_19 ?_
    refine ca_istore hX (q := 22) (ls' := [_, _, _, _, _]) (Nat.le_of_ble_eq_true rfl) (Nat.le_of_ble_eq_true rfl) (Or.inr rfl) rfl rfl dX4_tellTo_20 ?_
    exact loop c8 97 0 0 _ h P (by omega) (by omega) (by omega) h25 hn ht hfr w (st_ps c8) (by omega) (by unfold hoR; rw [if_pos c8])
  · refine ca_sipush hX (q := 14) k_sipush_m1000 rfl dX4_tellTo_11 ?_
    refine ca_iload_n hX (q := 15) 2 rfl rfl rfl dX4_tellTo_14 ?_
    refine ca_isub hX (q := 16) rfl dX4_tellTo_15 ?_
    refine ca_iret hX rfl rfl rfl rfl dX4_tellTo_16 ?_
    exact ⟨by unfold hoR; rw [if_neg c8], hfr, by unfold hoR; rw [if_neg c8]; exact ht⟩

set_option maxRecDepth 100000 in
set_option maxHeartbeats 4000000 in
theorem k_house (l : Launch) (N : Nat) (g0 : ca_G) (M : Nat → Nat → Int32) (t : Nat → Int32) (B : Nat → Nat → Int32) (hx : clX g0 M t B) (hN31 : 31 ≤ N) (P : Nat) (w : wfH (M 0) P) (k : Nat) (hk : M 13 1 = nI k) (hk6 : k ≤ 96) : ca_Ct l yX5_house cX5_house 2 (some .int) 9 0 0 N 1000000 [.ref 0] g0 (clP g0 (hoA M P k)) := by
  refine ca_intro (by decide) (Nat.le_of_ble_eq_true rfl) (fun X hX hN => ?_)
  show X 0 [_, none] [] N 1000000 g0
  obtain ⟨g, hgg⟩ : ∃ g, g = g0 := ⟨g0, rfl⟩
  rw [← hgg] at hx ⊢
  have hfr : frG g0 g 0 31 := by rw [hgg]; exact frG.rf
  obtain ⟨hc, hh, hkp, htr, hz, htl, hlt, hrw, h30⟩ := id hx
  have h0 := hh.1
  have k0 := hkp.1
  have t0 := htr.1
  have d0 := hz.1
  have l0 := hlt.1
  have w0 := hrw.1
  have hP := w.1
  have hP5 := w.2.1
  have hok := wf_ok w
  refine ca_aload_n hX (q := 1) 0 rfl rfl rfl dX5_house_0 ?_
  refine ca_getf hX (q := 4) cl_X5 2 (by decide) w_fl_X5_19 (by omega) hc rfl rfl dX5_house_1 ?_
  refine ca_aload_n hX (q := 5) 0 rfl rfl rfl dX5_house_4 ?_
  refine ca_getf hX (q := 8) cl_X5 0 (by decide) w_fl_X5_10 (by omega) hc rfl rfl dX5_house_5 ?_
  refine ca_cV hX (q := 11) y_X1_become w_ml_X5_67 (by omega) hN t0 (c_X1_become l N g 11 t htr (by omega) 1 (M 0) hh (by omega) (by omega)) (by decide) rfl (Nat.le_of_ble_eq_true rfl) rfl dX5_house_8 rfl ?_
  rintro _ g ⟨rfl, hq, hf⟩
  have hx := hx.tr hf hq
  have hfr := hfr.tr (hf.wd (by omega) (by omega))
  obtain ⟨hc, hh, hkp, htr, hz, htl, hlt, hrw, h30⟩ := id hx
  have h0 := hh.1
  have k0 := hkp.1
  have t0 := htr.1
  have d0 := hz.1
  have l0 := hlt.1
  have w0 := hrw.1
  have hnl : nbG g 26 96 (M 4) k := ⟨by rw [← hk]; exact hlt.1, hlt.2⟩
  refine ca_aload_n hX (q := 12) 0 rfl rfl rfl dX5_house_11 ?_
  refine ca_getf hX (q := 15) cl_X5 4 (by decide) w_fl_X5_32 (by omega) hc rfl rfl dX5_house_12 ?_
  refine ca_aload_n hX (q := 16) 0 rfl rfl rfl dX5_house_15 ?_
  refine ca_getf hX (q := 19) cl_X5 2 (by decide) w_fl_X5_19 (by omega) hc rfl rfl dX5_house_16 ?_
  refine ca_cV hX (q := 22) y_X4_tellTo w_ml_X5_71 (by omega) hN htl (c_X4_tellTo l N g (M 4) k htl hnl hk6 hN31 (M 0) htr P w) (by decide) rfl (Nat.le_of_ble_eq_true rfl) rfl dX5_house_19 rfl ?_
  rintro _ g ⟨rfl, hf, hq⟩
  have hx := hx.tr hf hq
  have hfr := hfr.tr (hf.wd (by omega) (by omega))
  obtain ⟨hc, hh, hkp, htr, hz, htl, hlt, hrw, h30⟩ := id hx
  have h0 := hh.1
  have k0 := hkp.1
  have t0 := htr.1
  have d0 := hz.1
  have l0 := hlt.1
  have w0 := hrw.1
  have hnl : nbG g 26 96 (M 4) k := ⟨by rw [← hk]; exact hlt.1, hlt.2⟩
  refine ca_istore_n hX (q := 23) 1 rfl (ls' := [_, _]) (Nat.le_of_ble_eq_true rfl) (Nat.le_of_ble_eq_true rfl) (Or.inr rfl) rfl rfl dX5_house_22 ?_
  refine ca_aload_n hX (q := 24) 0 rfl rfl rfl dX5_house_23 ?_
  refine ca_getf hX (q := 27) cl_X5 4 (by decide) w_fl_X5_32 (by omega) hc rfl rfl dX5_house_24 ?_
  refine ca_getN hX (q := 30) cl_X4 0 (by decide) w_fn_X5_57 (by omega) htl rfl rfl dX5_house_27 ?_
  refine ca_cV hX (q := 33) y_X3_forget w_ml_X5_75 (by omega) hN l0 (c_X3_forget l N g 26 96 k (M 4) hnl (by omega) (by omega) hk6) (by decide) rfl (Nat.le_of_ble_eq_true rfl) rfl dX5_house_30 rfl ?_
  rintro _ g ⟨rfl, hq, hf⟩
  have hx := hx.lt hf hq
  have hfr := hfr.tr (hf.wd (by omega) (by omega))
  rw [st_id] at hx
  obtain ⟨hc, hh, hkp, htr, hz, htl, hlt, hrw, h30⟩ := id hx
  have h0 := hh.1
  have k0 := hkp.1
  have t0 := htr.1
  have d0 := hz.1
  have l0 := hlt.1
  have w0 := hrw.1
  refine ca_iload_n hX (q := 34) 1 rfl rfl rfl dX5_house_33 ?_
  refine ca_if_lt hX (q := 37) 48 rfl rfl dX5_house_34 (fun c34 => ?_) (fun c34 => ?_)
  · refine ca_iload_n hX (q := 49) 1 rfl rfl rfl dX5_house_48 ?_
    refine ca_iret hX rfl rfl rfl rfl dX5_house_49 ?_
    exact cl_end (by unfold hoA; rw [if_pos c34]; rfl) hfr hx
  · refine ca_aload_n hX (q := 38) 0 rfl rfl rfl dX5_house_37 ?_
    refine ca_getf hX (q := 41) cl_X5 0 (by decide) w_fl_X5_10 (by omega) hc rfl rfl dX5_house_38 ?_
    refine ca_aload_n hX (q := 42) 0 rfl rfl rfl dX5_house_41 ?_
    refine ca_getf hX (q := 45) cl_X5 2 (by decide) w_fl_X5_19 (by omega) hc rfl rfl dX5_house_42 ?_
    refine ca_cV hX (q := 48) y_X1_become w_ml_X5_67 (by omega) hN h0 (c_X1_become l N g 1 _ hh (by omega) 11 _ htr (by omega) (by omega)) (by decide) rfl (Nat.le_of_ble_eq_true rfl) rfl dX5_house_45 rfl ?_
    rintro _ g ⟨rfl, hq, hf⟩
    have hx := hx.hs hf hq
    have hfr := hfr.tr (hf.wd (by omega) (by omega))
    refine ca_iload_n hX (q := 49) 1 rfl rfl rfl dX5_house_48 ?_
    refine ca_iret hX rfl rfl rfl rfl dX5_house_49 ?_
    exact cl_end (by unfold hoA; rw [if_neg c34]; rfl) hfr hx

