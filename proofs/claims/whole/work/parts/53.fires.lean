/-! fires of both: fire, burns, said, talker, alone, worstRoom, bestSpeaker, captain -/
theorem ca_le_n {w : Option Value} {a b : List (Option Value)} (h : ca_le a b) : ca_le (none :: a) (w :: b) := h
theorem ca_le_s {w : Option Value} {v : Value} {a b : List (Option Value)} (e : w = some v) (h : ca_le a b) : ca_le (some v :: a) (w :: b) := ⟨e, h⟩
theorem ca_le_0 {b : List (Option Value)} : ca_le [] b := trivial
theorem ke_bu {M M1 : Nat → Nat → Int32} (e4 : M1 13 4 = 0) (ej : ∀ j, j ≠ 7 → j ≠ 8 → j ≠ 9 → j ≠ 10 → j ≠ 11 → j ≠ 13 → M1 j = M j) (e13 : ∀ j, j ≠ 3 → j ≠ 4 → M1 13 j = M 13 j) : keM M M1 :=
  ⟨ej 0 (by omega) (by omega) (by omega) (by omega) (by omega) (by omega), ej 2 (by omega) (by omega) (by omega) (by omega) (by omega) (by omega), ej 4 (by omega) (by omega) (by omega) (by omega) (by omega) (by omega), ej 5 (by omega) (by omega) (by omega) (by omega) (by omega) (by omega), ej 6 (by omega) (by omega) (by omega) (by omega) (by omega) (by omega), e13 0 (by omega) (by omega), e13 1 (by omega) (by omega), e13 2 (by omega) (by omega), e4⟩
def fkB (h0 x s : Int32) : Int32 := if rmB x = 0 then 0 else if skM h0 s = 0 then 0 else 1
theorem fk_ok {h0 x s : Int32} {P : Nat} (hP : h0 = nI P) (hP5 : P ≤ 5) (h : ¬ fkB h0 x s = 0) : (∃ r, r < 25 ∧ x = nI r) ∧ ∃ a, a < 5 ∧ s = nI a := by
  unfold fkB at h
  by_cases h1 : rmB x = 0
  · rw [if_pos h1] at h; exact absurd rfl h
  · by_cases h2 : skM h0 s = 0
    · rw [if_neg h1, if_pos h2] at h; exact absurd rfl h
    · exact ⟨rm_ok h1, sk_ok hP hP5 h2⟩
theorem lm_congr {u v : Nat → Int32} : ∀ n, (∀ i, i < n → u i = v i) → lmM u n = lmM v n
  | 0, _ => rfl
  | n + 1, h => by rw [lmM, lmM, lm_congr n (fun i hi => h i (by omega)), h n (by omega)]
theorem tr_none (a P : Nat) : ∀ i, trM a P (bt 0) i = (0, fun _ => 0)
  | 0 => rfl
  | i + 1 => by rw [trM, b_0, if_neg (by decide)]; exact tr_none a P i
theorem c_X0_spk (l : Launch) (N : Nat) (g : ca_G) (B : Nat → Nat → Int32) (hz : bzG g 16 B) (hb : 16 + 9 ≤ N) (S : Nat) (hS : B 8 1 = nI S) (hS5 : S ≤ 5) (x v : Int32) (h : (x = -9 ∧ v = -9) ∨ ∃ j, 1 ≤ j ∧ j ≤ 100 ∧ x = nI j ∧ v = spM B S j) : ca_Ct l yX0_speakerIn cX0_speakerIn 2 (some .int) 0 0 0 N 1000000 [.ref 16, .int x] g (ca_pi v g) := by
  rcases h with ⟨e1, e2⟩ | ⟨j, h1, h2, e1, e2⟩
  · rw [e1, e2]; exact c_X0_speakerIn_no l N g 16 B hz hb (-9) (by decide)
  · rw [e1, e2]; exact c_X0_speakerIn l N g 16 B hz hb S hS hS5 j h1 (by omega)
/-- the first of the largest, the first of the smallest -/
def mxF (d : Int32 × Int32) (v : Nat → Int32) : Nat → Int32 × Int32
  | 0 => d
  | n + 1 => if v n ≤ (mxF d v n).2 then mxF d v n else (nI n, v n)
def mnF (d : Int32 × Int32) (v : Nat → Int32) : Nat → Int32 × Int32
  | 0 => d
  | n + 1 => if v n < (mnF d v n).2 then (nI n, v n) else mnF d v n
theorem mn_congr {d : Int32 × Int32} {u v : Nat → Int32} : ∀ n, (∀ i, i < n → u i = v i) → mnF d u n = mnF d v n
  | 0, _ => rfl
  | n + 1, h => by rw [mnF, mnF, mn_congr n (fun i hi => h i (by omega)), h n (by omega)]
theorem mx_congr {d : Int32 × Int32} {u v : Nat → Int32} : ∀ n, (∀ i, i < n → u i = v i) → mxF d u n = mxF d v n
  | 0, _ => rfl
  | n + 1, h => by rw [mxF, mxF, mx_congr n (fun i hi => h i (by omega)), h n (by omega)]
theorem mn_cases (d : Int32 × Int32) (v : Nat → Int32) : ∀ n, mnF d v n = d ∨ ∃ p, p < n ∧ mnF d v n = (nI p, v p)
  | 0 => Or.inl rfl
  | n + 1 => by
    rw [mnF]
    split
    · exact Or.inr ⟨n, by omega, rfl⟩
    · rcases mn_cases d v n with z | ⟨p, a, b⟩
      · exact Or.inl z
      · exact Or.inr ⟨p, by omega, b⟩
def bcF (v : Nat → Int32) : Nat → Int32 × Int32
  | 0 => (-9, 0)
  | n + 1 => if (bcF v n).1 = -9 then (nI n, v n) else if (bcF v n).2 ≤ v n then bcF v n else (nI n, v n)
theorem bc_mn {v : Nat → Int32} : ∀ n, n ≤ 5 → (∀ i, i < n → v i < 1000000000) → (bcF v n).1 = (mnF (-9, 1000000000) v n).1 ∧ (0 < n → bcF v n = mnF (-9, 1000000000) v n ∧ (bcF v n).1 ≠ -9)
  | 0, _, _ => ⟨rfl, fun h => absurd h (by omega)⟩
  | n + 1, hn, h => by
    have key : bcF v (n + 1) = mnF (-9, 1000000000) v (n + 1) ∧ (bcF v (n + 1)).1 ≠ -9 := by
      obtain ⟨_, ih⟩ := bc_mn n (by omega) (fun i hi => h i (by omega))
      rw [bcF, mnF]
      by_cases z : n = 0
      · rw [z]
        rw [if_pos (show (bcF v 0).1 = -9 from rfl), if_pos (show v 0 < (mnF (-9, 1000000000) v 0).2 from h 0 (by omega))]
        exact ⟨rfl, nI_m9 0 (by omega)⟩
      · obtain ⟨e, ne⟩ := ih (by omega)
        rw [if_neg ne, e]
        by_cases c : (mnF (-9, 1000000000) v n).2 ≤ v n
        · rw [if_pos c, if_neg (Int32.not_lt.mpr c), ← e]; exact ⟨rfl, ne⟩
        · rw [if_neg c, if_pos (Int32.not_le.mp c)]; exact ⟨rfl, nI_m9 n (by omega)⟩
    exact ⟨by rw [key.1], fun _ => key⟩
theorem mx_eq (a b : Int32) : (if a < b then b else a) = mxB a b := by
  unfold mxB
  by_cases h : a < b
  · rw [if_pos h, if_pos (Int32.le_of_lt h)]
  · rw [if_neg h]
    by_cases h2 : a ≤ b
    · rw [if_pos h2]; exact Int32.le_antisymm h2 (Int32.not_lt.mp h)
    · rw [if_neg h2]
theorem mxB_s (a : Int32) : mxB a a = a := by unfold mxB; split <;> rfl
abbrev wA (h : Nat → Int32) (P r a : Nat) : Int32 := wS h r (alT a P).1 (alT a P).2 0
def vMx (h : Nat → Int32) (P r q p : Nat) : Int32 := mxB (wA h P r p) (wA h P q p)
theorem wA_lt {h : Nat → Int32} {P : Nat} (w : wfH h P) (r a : Nat) : wA h P r a < 1000000000 := by
  obtain ⟨v, hv, e⟩ := wS_le w r (alT a P).1 (alT a P).2 0
  unfold wA; rw [e, Int32.lt_iff_toInt_lt, nI_toInt (by omega), show (1000000000 : Int32).toInt = 1000000000 from rfl]; omega
theorem vMx_lt {h : Nat → Int32} {P : Nat} (w : wfH h P) (r q p : Nat) : vMx h P r q p < 1000000000 := by
  unfold vMx mxB; split <;> exact wA_lt w _ _
def spV (h : Nat → Int32) (r0 tn : Nat) (tu : Nat → Nat) (x : Int32) (p : Nat) : Int32 := smI (fun r => if sbS h r0 tn tu x r = nI p then 1 else 0) 25
def fiA (M : Nat → Nat → Int32) (P : Nat) (x s w : Int32) : An := if fkB (M 0 0) x s = 0 then noA M 1 else if inB w 0 2 = 0 then noA M 2 else (if w = 0 then nS (M 0) x.toNatClampNeg (alT s.toNatClampNeg P).1 (alT s.toNatClampNeg P).2 0 else if w = 1 then wS (M 0) x.toNatClampNeg (alT s.toNatClampNeg P).1 (alT s.toNatClampNeg P).2 0 else lmM (buS (M 0) x.toNatClampNeg (alT s.toNatClampNeg P).1 (alT s.toNatClampNeg P).2 0) 25, M)
def buA (M : Nat → Nat → Int32) (P : Nat) (x s y : Int32) : An := if fkB (M 0 0) x s = 0 then noA M 1 else if rmB y = 0 then noA M 1 else (buS (M 0) x.toNatClampNeg (alT s.toNatClampNeg P).1 (alT s.toNatClampNeg P).2 0 y.toNatClampNeg, M)
def saA (M : Nat → Nat → Int32) (P : Nat) (x s y w : Int32) : An := if fkB (M 0 0) x s = 0 then noA M 1 else if rmB y = 0 then noA M 1 else if b01 w = 0 then noA M 2 else (if w = 0 then sdS (M 0) x.toNatClampNeg (alT s.toNatClampNeg P).1 (alT s.toNatClampNeg P).2 0 y.toNatClampNeg else sbS (M 0) x.toNatClampNeg (alT s.toNatClampNeg P).1 (alT s.toNatClampNeg P).2 0 y.toNatClampNeg, M)
def tlA (M : Nat → Nat → Int32) (P : Nat) (x s : Int32) : An := if fkB (M 0 0) x s = 0 then noA M 1 else ((mxF (-9, 0) (spV (M 0) x.toNatClampNeg (alT s.toNatClampNeg P).1 (alT s.toNatClampNeg P).2 0) P).1, M)
def alA (M : Nat → Nat → Int32) (x : Int32) : An := if rmB x = 0 then noA M 1 else (wS (M 0) x.toNatClampNeg 0 (fun _ => 0) 0, M)
def woA (M : Nat → Nat → Int32) (P : Nat) : An := ((mxF (0, -1) (fun r => wA (M 0) P r 0) 25).1, M)
def bsA (M : Nat → Nat → Int32) (P : Nat) (x : Int32) : An := if rmB x = 0 then noA M 1 else ((mnF (-9, 1000000000) (fun p => wA (M 0) P x.toNatClampNeg p) P).1, M)
def cpA (M : Nat → Nat → Int32) (P : Nat) (x y w : Int32) : An := if rmB x = 0 then noA M 1 else if rmB y = 0 then noA M 1 else if x = y then noA M 1 else if b01 w = 0 then noA M 2 else (if w = 0 then (mnF (-9, 1000000000) (vMx (M 0) P x.toNatClampNeg y.toNatClampNeg) P).1 else if (mnF (-9, 1000000000) (vMx (M 0) P x.toNatClampNeg y.toNatClampNeg) P).1 = -9 then -9 else (mnF (-9, 1000000000) (vMx (M 0) P x.toNatClampNeg y.toNatClampNeg) P).2, M)

set_option maxRecDepth 100000 in
set_option maxHeartbeats 4000000 in
theorem k_fire (l : Launch) (N : Nat) (g0 : ca_G) (M : Nat → Nat → Int32) (t : Nat → Int32) (B : Nat → Nat → Int32) (hx : clX g0 M t B) (hN31 : 31 ≤ N) (P : Nat) (w : wfH (M 0) P) (x1 x2 x3 : Int32) : ca_Ct l yX5_fire cX5_fire 4 (some .int) 5 0 0 N 1000000 [.ref 0, .int x1, .int x2, .int x3] g0 (clP g0 (fiA M P x1 x2 x3)) := by
  refine ca_intro (by decide) (Nat.le_of_ble_eq_true rfl) (fun X hX hN => ?_)
  show X 0 [_, _, _, _] [] N 1000000 g0
  obtain ⟨g, hgg⟩ : ∃ g, g = g0 := ⟨g0, rfl⟩
  rw [← hgg] at hx ⊢
  have hfr : frG g0 g 0 31 := by rw [hgg]; exact frG.rf
  obtain ⟨hc, hh, hkp, htr, hz, htl, hlt, hrw, h30⟩ := id hx
  have h0 := hh.1
  have k0 := hkp.1
  have t0 := htr.1
  have d0 := hz.1
  have l0 := hlt.1
  have w0 := hrw.1
  have hP := w.1
  have hP5 := w.2.1
  have hok := wf_ok w
  refine ca_iload_n hX (q := 1) 1 rfl rfl rfl dX5_fire_0 ?_
  refine ca_cSi hX (q := 4) y_X5_isRoom w_ml_X5_78 hN (c_X5_isRoom l N g _) (by decide) rfl (Nat.le_of_ble_eq_true rfl) rfl dX5_fire_1 rfl ?_
  refine ca_if_eq hX (q := 7) 15 rfl rfl dX5_fire_4 (fun c4 => ?_) (fun c4 => ?_)
  · refine ca_aload_n hX (q := 16) 0 rfl rfl rfl dX5_fire_15 ?_
    refine ca_iconst hX (q := 17) k_iconst_m1 rfl dX5_fire_16 ?_
    refine ca_cV hX (q := 20) y_X5_refuse w_ml_X5_53 (by omega) hN hc (c_X5_refuse l N g _ hc hN31 (M 6) h30 (-1) 1 (by decide) (by omega) (by omega)) (by decide) rfl (Nat.le_of_ble_eq_true rfl) rfl dX5_fire_17 rfl ?_
    rintro _ g ⟨rfl, h30, hf⟩
    have hx := hx.rf hf h30
    have hfr := hfr.tr (hf.wd (by omega) (by omega))
    refine ca_iret hX rfl rfl rfl rfl dX5_fire_20 ?_
    exact cl_end (by simp [fiA, fkB, inB, noA, nk1, nk2, nk3, nk4, nk6, c4]) hfr hx
  · obtain ⟨r1, hr1, rfl⟩ := rm_ok c4
    have er1 := nI_clamp (n := r1) (by omega)
    refine ca_aload_n hX (q := 8) 0 rfl rfl rfl dX5_fire_7 ?_
    refine ca_iload_n hX (q := 9) 2 rfl rfl rfl dX5_fire_8 ?_
    refine ca_cVi hX (q := 12) y_X5_isSpeaker w_ml_X5_129 (by omega) hN hc (c_X5_isSpeaker l N g _ hc hN31 (M 0) hh _) (by decide) rfl (Nat.le_of_ble_eq_true rfl) rfl dX5_fire_9 rfl ?_
    refine ca_if_ne hX (q := 15) 21 rfl rfl dX5_fire_12 (fun c12 => ?_) (fun c12 => ?_)
    · obtain ⟨a2, ha2, rfl⟩ := sk_ok hP hP5 c12
      have ea2 := nI_clamp (n := a2) (by omega)
      refine ca_iload_n hX (q := 22) 3 rfl rfl rfl dX5_fire_21 ?_
      refine ca_if_lt hX (q := 25) 30 rfl rfl dX5_fire_22 (fun c22 => ?_) (fun c22 => ?_)
      · refine ca_aload_n hX (q := 31) 0 rfl rfl rfl dX5_fire_30 ?_
        refine ca_bipush hX (q := 33) k_bipush_m2 rfl dX5_fire_31 ?_
        refine ca_cV hX (q := 36) y_X5_refuse w_ml_X5_53 (by omega) hN hc (c_X5_refuse l N g _ hc hN31 (M 6) h30 (-2) 2 (by decide) (by omega) (by omega)) (by decide) rfl (Nat.le_of_ble_eq_true rfl) rfl dX5_fire_33 rfl ?_
        rintro _ g ⟨rfl, h30, hf⟩
        have hx := hx.rf hf h30
        have hfr := hfr.tr (hf.wd (by omega) (by omega))
        refine ca_iret hX rfl rfl rfl rfl dX5_fire_36 ?_
        exact cl_end (by simp [fiA, fkB, inB, noA, nk1, nk2, nk3, nk4, nk6, c4, er1, c12, ea2, c22, (Int32.not_le.mpr c22)]) hfr hx
      · refine ca_iload_n hX (q := 26) 3 rfl rfl rfl dX5_fire_25 ?_
        refine ca_iconst hX (q := 27) k_iconst_2 rfl dX5_fire_26 ?_
        refine ca_icmp_le hX (q := 30) 37 rfl rfl dX5_fire_27 (fun c27 => ?_) (fun c27 => ?_)
        · refine ca_aload_n hX (q := 38) 0 rfl rfl rfl dX5_fire_37 ?_
          refine ca_iload_n hX (q := 39) 1 rfl rfl rfl dX5_fire_38 ?_
          refine ca_iload_n hX (q := 40) 2 rfl rfl rfl dX5_fire_39 ?_
          refine ca_cV hX (q := 43) y_X5_burnAsNow w_ml_X5_132 (by omega) hN hc (c_X5_burnAsNow l N g _ hc hN31 B hz (M 0) hh P hP hP5 hok r1 hr1 a2 ha2) (by decide) rfl (Nat.le_of_ble_eq_true rfl) rfl dX5_fire_40 rfl ?_
          rintro _ g ⟨rfl, hf, B, hz, hlo, hsp, hfd⟩
          have hx := hx.bz hf hz
          have hfr := hfr.tr (hf.wd (by omega) (by omega))
          obtain ⟨hc, hh, hkp, htr, hz, htl, hlt, hrw, h30⟩ := id hx
          have h0 := hh.1
          have k0 := hkp.1
          have t0 := htr.1
          have d0 := hz.1
          have l0 := hlt.1
          have w0 := hrw.1
          refine ca_iload_n hX (q := 44) 3 rfl rfl rfl dX5_fire_43 ?_
          refine ca_if_ne hX (q := 47) 55 rfl rfl dX5_fire_44 (fun c44 => ?_) (fun c44 => ?_)
          · refine ca_iload_n hX (q := 56) 3 rfl rfl rfl dX5_fire_55 ?_
            refine ca_iconst hX (q := 57) k_iconst_1 rfl dX5_fire_56 ?_
            refine ca_icmp_ne hX (q := 60) 70 rfl rfl dX5_fire_57 (fun c57 => ?_) (fun c57 => ?_)
            · refine ca_aload_n hX (q := 71) 0 rfl rfl rfl dX5_fire_70 ?_
              refine ca_getf hX (q := 74) cl_X5 3 (by decide) w_fl_X5_25 (by omega) hc rfl rfl dX5_fire_71 ?_
              have hw := fd_l hfd
              refine ca_cVi hX (q := 77) y_X0_lastMinute w_ml_X5_141 (by omega) hN d0 (c_X0_lastMinute l N g 16 B hz (by omega)) (by decide) rfl (Nat.le_of_ble_eq_true rfl) rfl dX5_fire_74 rfl ?_
              refine ca_iret hX rfl rfl rfl rfl dX5_fire_77 ?_
              exact cl_end (by simp [fiA, fkB, inB, noA, nk1, nk2, nk3, nk4, nk6, c4, er1, c12, ea2, c22, (Int32.not_lt.mp c22), c27, (Int32.not_lt.mpr c27), c44, c57, hw]) hfr hx
            · refine ca_aload_n hX (q := 61) 0 rfl rfl rfl dX5_fire_60 ?_
              refine ca_getf hX (q := 64) cl_X5 3 (by decide) w_fl_X5_25 (by omega) hc rfl rfl dX5_fire_61 ?_
              obtain ⟨L, hL, hL1, hw⟩ := fd_w hlo hfd
              refine ca_cVi hX (q := 67) y_X0_worthBurnt w_ml_X5_138 (by omega) hN d0 (c_X0_worthBurnt l N g 16 B hz (by omega) L hL hL1) (by decide) rfl (Nat.le_of_ble_eq_true rfl) rfl dX5_fire_64 rfl ?_
              refine ca_goto hX 77 rfl dX5_fire_67 ?_
              refine ca_iret hX rfl rfl rfl rfl dX5_fire_77 ?_
              exact cl_end (by simp [fiA, fkB, inB, noA, nk1, nk2, nk3, nk4, nk6, c4, er1, c12, ea2, c22, (Int32.not_lt.mp c22), c27, (Int32.not_lt.mpr c27), c44, c57, hw]) hfr hx
          · refine ca_aload_n hX (q := 48) 0 rfl rfl rfl dX5_fire_47 ?_
            refine ca_getf hX (q := 51) cl_X5 3 (by decide) w_fl_X5_25 (by omega) hc rfl rfl dX5_fire_48 ?_
            obtain ⟨L, hL, hL1, hw⟩ := fd_n hfd
            refine ca_cVi hX (q := 54) y_X0_roomsBurnt w_ml_X5_135 (by omega) hN d0 (c_X0_roomsBurnt l N g 16 B hz (by omega) L hL hL1) (by decide) rfl (Nat.le_of_ble_eq_true rfl) rfl dX5_fire_51 rfl ?_
            refine ca_iret hX rfl rfl rfl rfl dX5_fire_54 ?_
            exact cl_end (by simp [fiA, fkB, inB, noA, nk1, nk2, nk3, nk4, nk6, c4, er1, c12, ea2, c22, (Int32.not_lt.mp c22), c27, (Int32.not_lt.mpr c27), c44, hw]) hfr hx
        · refine ca_aload_n hX (q := 31) 0 rfl rfl rfl dX5_fire_30 ?_
          refine ca_bipush hX (q := 33) k_bipush_m2 rfl dX5_fire_31 ?_
          refine ca_cV hX (q := 36) y_X5_refuse w_ml_X5_53 (by omega) hN hc (c_X5_refuse l N g _ hc hN31 (M 6) h30 (-2) 2 (by decide) (by omega) (by omega)) (by decide) rfl (Nat.le_of_ble_eq_true rfl) rfl dX5_fire_33 rfl ?_
          rintro _ g ⟨rfl, h30, hf⟩
          have hx := hx.rf hf h30
          have hfr := hfr.tr (hf.wd (by omega) (by omega))
          refine ca_iret hX rfl rfl rfl rfl dX5_fire_36 ?_
          exact cl_end (by simp [fiA, fkB, inB, noA, nk1, nk2, nk3, nk4, nk6, c4, er1, c12, ea2, c22, (Int32.not_lt.mp c22), c27, (Int32.not_le.mp c27)]) hfr hx
    · refine ca_aload_n hX (q := 16) 0 rfl rfl rfl dX5_fire_15 ?_
      refine ca_iconst hX (q := 17) k_iconst_m1 rfl dX5_fire_16 ?_
      refine ca_cV hX (q := 20) y_X5_refuse w_ml_X5_53 (by omega) hN hc (c_X5_refuse l N g _ hc hN31 (M 6) h30 (-1) 1 (by decide) (by omega) (by omega)) (by decide) rfl (Nat.le_of_ble_eq_true rfl) rfl dX5_fire_17 rfl ?_
      rintro _ g ⟨rfl, h30, hf⟩
      have hx := hx.rf hf h30
      have hfr := hfr.tr (hf.wd (by omega) (by omega))
      refine ca_iret hX rfl rfl rfl rfl dX5_fire_20 ?_
      exact cl_end (by simp [fiA, fkB, inB, noA, nk1, nk2, nk3, nk4, nk6, c4, er1, c12]) hfr hx

set_option maxRecDepth 100000 in
set_option maxHeartbeats 4000000 in
theorem k_burns (l : Launch) (N : Nat) (g0 : ca_G) (M : Nat → Nat → Int32) (t : Nat → Int32) (B : Nat → Nat → Int32) (hx : clX g0 M t B) (hN31 : 31 ≤ N) (P : Nat) (w : wfH (M 0) P) (x1 x2 x3 : Int32) : ca_Ct l yX5_burns cX5_burns 4 (some .int) 5 0 0 N 1000000 [.ref 0, .int x1, .int x2, .int x3] g0 (clP g0 (buA M P x1 x2 x3)) := by
  refine ca_intro (by decide) (Nat.le_of_ble_eq_true rfl) (fun X hX hN => ?_)
  show X 0 [_, _, _, _] [] N 1000000 g0
  obtain ⟨g, hgg⟩ : ∃ g, g = g0 := ⟨g0, rfl⟩
  rw [← hgg] at hx ⊢
  have hfr : frG g0 g 0 31 := by rw [hgg]; exact frG.rf
  obtain ⟨hc, hh, hkp, htr, hz, htl, hlt, hrw, h30⟩ := id hx
  have h0 := hh.1
  have k0 := hkp.1
  have t0 := htr.1
  have d0 := hz.1
  have l0 := hlt.1
  have w0 := hrw.1
  have hP := w.1
  have hP5 := w.2.1
  have hok := wf_ok w
  refine ca_iload_n hX (q := 1) 1 rfl rfl rfl dX5_burns_0 ?_
  refine ca_cSi hX (q := 4) y_X5_isRoom w_ml_X5_78 hN (c_X5_isRoom l N g _) (by decide) rfl (Nat.le_of_ble_eq_true rfl) rfl dX5_burns_1 rfl ?_
  refine ca_if_eq hX (q := 7) 22 rfl rfl dX5_burns_4 (fun c4 => ?_) (fun c4 => ?_)
  · refine ca_aload_n hX (q := 23) 0 rfl rfl rfl dX5_burns_22 ?_
    refine ca_iconst hX (q := 24) k_iconst_m1 rfl dX5_burns_23 ?_
    refine ca_cV hX (q := 27) y_X5_refuse w_ml_X5_53 (by omega) hN hc (c_X5_refuse l N g _ hc hN31 (M 6) h30 (-1) 1 (by decide) (by omega) (by omega)) (by decide) rfl (Nat.le_of_ble_eq_true rfl) rfl dX5_burns_24 rfl ?_
    rintro _ g ⟨rfl, h30, hf⟩
    have hx := hx.rf hf h30
    have hfr := hfr.tr (hf.wd (by omega) (by omega))
    refine ca_iret hX rfl rfl rfl rfl dX5_burns_27 ?_
    exact cl_end (by simp [buA, fkB, noA, nk1, nk2, nk3, nk4, nk6, c4]) hfr hx
  · obtain ⟨r1, hr1, rfl⟩ := rm_ok c4
    have er1 := nI_clamp (n := r1) (by omega)
    refine ca_aload_n hX (q := 8) 0 rfl rfl rfl dX5_burns_7 ?_
    refine ca_iload_n hX (q := 9) 2 rfl rfl rfl dX5_burns_8 ?_
    refine ca_cVi hX (q := 12) y_X5_isSpeaker w_ml_X5_129 (by omega) hN hc (c_X5_isSpeaker l N g _ hc hN31 (M 0) hh _) (by decide) rfl (Nat.le_of_ble_eq_true rfl) rfl dX5_burns_9 rfl ?_
    refine ca_if_eq hX (q := 15) 22 rfl rfl dX5_burns_12 (fun c12 => ?_) (fun c12 => ?_)
    · refine ca_aload_n hX (q := 23) 0 rfl rfl rfl dX5_burns_22 ?_
      refine ca_iconst hX (q := 24) k_iconst_m1 rfl dX5_burns_23 ?_
      refine ca_cV hX (q := 27) y_X5_refuse w_ml_X5_53 (by omega) hN hc (c_X5_refuse l N g _ hc hN31 (M 6) h30 (-1) 1 (by decide) (by omega) (by omega)) (by decide) rfl (Nat.le_of_ble_eq_true rfl) rfl dX5_burns_24 rfl ?_
      rintro _ g ⟨rfl, h30, hf⟩
      have hx := hx.rf hf h30
      have hfr := hfr.tr (hf.wd (by omega) (by omega))
      refine ca_iret hX rfl rfl rfl rfl dX5_burns_27 ?_
      exact cl_end (by simp [buA, fkB, noA, nk1, nk2, nk3, nk4, nk6, c4, er1, c12]) hfr hx
    · obtain ⟨a2, ha2, rfl⟩ := sk_ok hP hP5 c12
      have ea2 := nI_clamp (n := a2) (by omega)
      refine ca_iload_n hX (q := 16) 3 rfl rfl rfl dX5_burns_15 ?_
      refine ca_cSi hX (q := 19) y_X5_isRoom w_ml_X5_78 hN (c_X5_isRoom l N g _) (by decide) rfl (Nat.le_of_ble_eq_true rfl) rfl dX5_burns_16 rfl ?_
      refine ca_if_ne hX (q := 22) 28 rfl rfl dX5_burns_19 (fun c19 => ?_) (fun c19 => ?_)
      · obtain ⟨r3, hr3, rfl⟩ := rm_ok c19
        have er3 := nI_clamp (n := r3) (by omega)
        refine ca_aload_n hX (q := 29) 0 rfl rfl rfl dX5_burns_28 ?_
        refine ca_iload_n hX (q := 30) 1 rfl rfl rfl dX5_burns_29 ?_
        refine ca_iload_n hX (q := 31) 2 rfl rfl rfl dX5_burns_30 ?_
        refine ca_cV hX (q := 34) y_X5_burnAsNow w_ml_X5_132 (by omega) hN hc (c_X5_burnAsNow l N g _ hc hN31 B hz (M 0) hh P hP hP5 hok r1 hr1 a2 ha2) (by decide) rfl (Nat.le_of_ble_eq_true rfl) rfl dX5_burns_31 rfl ?_
        rintro _ g ⟨rfl, hf, B, hz, hlo, hsp, hfd⟩
        have hx := hx.bz hf hz
        have hfr := hfr.tr (hf.wd (by omega) (by omega))
        obtain ⟨hc, hh, hkp, htr, hz, htl, hlt, hrw, h30⟩ := id hx
        have h0 := hh.1
        have k0 := hkp.1
        have t0 := htr.1
        have d0 := hz.1
        have l0 := hlt.1
        have w0 := hrw.1
        refine ca_aload_n hX (q := 35) 0 rfl rfl rfl dX5_burns_34 ?_
        refine ca_getf hX (q := 38) cl_X5 3 (by decide) w_fl_X5_25 (by omega) hc rfl rfl dX5_burns_35 ?_
        refine ca_iload_n hX (q := 39) 3 rfl rfl rfl dX5_burns_38 ?_
        obtain ⟨L, hL, hL1, hw⟩ := fd_b hfd
        have hw2 := hw r3 hr3
        refine ca_cVi hX (q := 42) y_X0_minuteBurnt w_ml_X5_144 (by omega) hN d0 (c_X0_minuteBurnt l N g 16 B hz (by omega) L hL hL1 r3 hr3) (by decide) rfl (Nat.le_of_ble_eq_true rfl) rfl dX5_burns_39 rfl ?_
        refine ca_iret hX rfl rfl rfl rfl dX5_burns_42 ?_
        exact cl_end (by simp [buA, fkB, noA, nk1, nk2, nk3, nk4, nk6, c4, er1, c12, ea2, c19, er3, hw2]) hfr hx
      · refine ca_aload_n hX (q := 23) 0 rfl rfl rfl dX5_burns_22 ?_
        refine ca_iconst hX (q := 24) k_iconst_m1 rfl dX5_burns_23 ?_
        refine ca_cV hX (q := 27) y_X5_refuse w_ml_X5_53 (by omega) hN hc (c_X5_refuse l N g _ hc hN31 (M 6) h30 (-1) 1 (by decide) (by omega) (by omega)) (by decide) rfl (Nat.le_of_ble_eq_true rfl) rfl dX5_burns_24 rfl ?_
        rintro _ g ⟨rfl, h30, hf⟩
        have hx := hx.rf hf h30
        have hfr := hfr.tr (hf.wd (by omega) (by omega))
        refine ca_iret hX rfl rfl rfl rfl dX5_burns_27 ?_
        exact cl_end (by simp [buA, fkB, noA, nk1, nk2, nk3, nk4, nk6, c4, er1, c12, ea2, c19]) hfr hx

set_option maxRecDepth 100000 in
set_option maxHeartbeats 4000000 in
theorem k_said (l : Launch) (N : Nat) (g0 : ca_G) (M : Nat → Nat → Int32) (t : Nat → Int32) (B : Nat → Nat → Int32) (hx : clX g0 M t B) (hN31 : 31 ≤ N) (P : Nat) (w : wfH (M 0) P) (x1 x2 x3 x4 : Int32) : ca_Ct l yX5_said cX5_said 6 (some .int) 5 0 0 N 1000000 [.ref 0, .int x1, .int x2, .int x3, .int x4] g0 (clP g0 (saA M P x1 x2 x3 x4)) := by
  refine ca_intro (by decide) (Nat.le_of_ble_eq_true rfl) (fun X hX hN => ?_)
  show X 0 [_, _, _, _, _, none] [] N 1000000 g0
  obtain ⟨g, hgg⟩ : ∃ g, g = g0 := ⟨g0, rfl⟩
  rw [← hgg] at hx ⊢
  have hfr : frG g0 g 0 31 := by rw [hgg]; exact frG.rf
  obtain ⟨hc, hh, hkp, htr, hz, htl, hlt, hrw, h30⟩ := id hx
  have h0 := hh.1
  have k0 := hkp.1
  have t0 := htr.1
  have d0 := hz.1
  have l0 := hlt.1
  have w0 := hrw.1
  have hP := w.1
  have hP5 := w.2.1
  have hok := wf_ok w
  refine ca_iload_n hX (q := 1) 1 rfl rfl rfl dX5_said_0 ?_
  refine ca_cSi hX (q := 4) y_X5_isRoom w_ml_X5_78 hN (c_X5_isRoom l N g _) (by decide) rfl (Nat.le_of_ble_eq_true rfl) rfl dX5_said_1 rfl ?_
  refine ca_if_eq hX (q := 7) 22 rfl rfl dX5_said_4 (fun c4 => ?_) (fun c4 => ?_)
  · refine ca_aload_n hX (q := 23) 0 rfl rfl rfl dX5_said_22 ?_
    refine ca_iconst hX (q := 24) k_iconst_m1 rfl dX5_said_23 ?_
    refine ca_cV hX (q := 27) y_X5_refuse w_ml_X5_53 (by omega) hN hc (c_X5_refuse l N g _ hc hN31 (M 6) h30 (-1) 1 (by decide) (by omega) (by omega)) (by decide) rfl (Nat.le_of_ble_eq_true rfl) rfl dX5_said_24 rfl ?_
    rintro _ g ⟨rfl, h30, hf⟩
    have hx := hx.rf hf h30
    have hfr := hfr.tr (hf.wd (by omega) (by omega))
    refine ca_iret hX rfl rfl rfl rfl dX5_said_27 ?_
    exact cl_end (by simp [saA, fkB, b01, noA, nk1, nk2, nk3, nk4, nk6, c4]) hfr hx
  · obtain ⟨r1, hr1, rfl⟩ := rm_ok c4
    have er1 := nI_clamp (n := r1) (by omega)
    refine ca_aload_n hX (q := 8) 0 rfl rfl rfl dX5_said_7 ?_
    refine ca_iload_n hX (q := 9) 2 rfl rfl rfl dX5_said_8 ?_
    refine ca_cVi hX (q := 12) y_X5_isSpeaker w_ml_X5_129 (by omega) hN hc (c_X5_isSpeaker l N g _ hc hN31 (M 0) hh _) (by decide) rfl (Nat.le_of_ble_eq_true rfl) rfl dX5_said_9 rfl ?_
    refine ca_if_eq hX (q := 15) 22 rfl rfl dX5_said_12 (fun c12 => ?_) (fun c12 => ?_)
    · refine ca_aload_n hX (q := 23) 0 rfl rfl rfl dX5_said_22 ?_
      refine ca_iconst hX (q := 24) k_iconst_m1 rfl dX5_said_23 ?_
      refine ca_cV hX (q := 27) y_X5_refuse w_ml_X5_53 (by omega) hN hc (c_X5_refuse l N g _ hc hN31 (M 6) h30 (-1) 1 (by decide) (by omega) (by omega)) (by decide) rfl (Nat.le_of_ble_eq_true rfl) rfl dX5_said_24 rfl ?_
      rintro _ g ⟨rfl, h30, hf⟩
      have hx := hx.rf hf h30
      have hfr := hfr.tr (hf.wd (by omega) (by omega))
      refine ca_iret hX rfl rfl rfl rfl dX5_said_27 ?_
      exact cl_end (by simp [saA, fkB, b01, noA, nk1, nk2, nk3, nk4, nk6, c4, er1, c12]) hfr hx
    · obtain ⟨a2, ha2, rfl⟩ := sk_ok hP hP5 c12
      have ea2 := nI_clamp (n := a2) (by omega)
      refine ca_iload_n hX (q := 16) 3 rfl rfl rfl dX5_said_15 ?_
      refine ca_cSi hX (q := 19) y_X5_isRoom w_ml_X5_78 hN (c_X5_isRoom l N g _) (by decide) rfl (Nat.le_of_ble_eq_true rfl) rfl dX5_said_16 rfl ?_
      refine ca_if_ne hX (q := 22) 28 rfl rfl dX5_said_19 (fun c19 => ?_) (fun c19 => ?_)
      · obtain ⟨r3, hr3, rfl⟩ := rm_ok c19
        have er3 := nI_clamp (n := r3) (by omega)
        refine ca_iload hX (q := 30) rfl rfl dX5_said_28 ?_
        refine ca_if_eq hX (q := 33) 46 rfl rfl dX5_said_30 (fun c30 => ?_) (fun c30 => ?_)
        · refine ca_aload_n hX (q := 47) 0 rfl rfl rfl dX5_said_46 ?_
          refine ca_iload_n hX (q := 48) 1 rfl rfl rfl dX5_said_47 ?_
          refine ca_iload_n hX (q := 49) 2 rfl rfl rfl dX5_said_48 ?_
          refine ca_cV hX (q := 52) y_X5_burnAsNow w_ml_X5_132 (by omega) hN hc (c_X5_burnAsNow l N g _ hc hN31 B hz (M 0) hh P hP hP5 hok r1 hr1 a2 ha2) (by decide) rfl (Nat.le_of_ble_eq_true rfl) rfl dX5_said_49 rfl ?_
          rintro _ g ⟨rfl, hf, B, hz, hlo, hsp, hfd⟩
          have hx := hx.bz hf hz
          have hfr := hfr.tr (hf.wd (by omega) (by omega))
          obtain ⟨hc, hh, hkp, htr, hz, htl, hlt, hrw, h30⟩ := id hx
          have h0 := hh.1
          have k0 := hkp.1
          have t0 := htr.1
          have d0 := hz.1
          have l0 := hlt.1
          have w0 := hrw.1
          refine ca_aload_n hX (q := 53) 0 rfl rfl rfl dX5_said_52 ?_
          refine ca_getf hX (q := 56) cl_X5 3 (by decide) w_fl_X5_25 (by omega) hc rfl rfl dX5_said_53 ?_
          refine ca_iload_n hX (q := 57) 3 rfl rfl rfl dX5_said_56 ?_
          obtain ⟨ks, hk1, hk2, hsd, hsb, hts, hrs⟩ := fd_s hsp hfd
          have hw2 := hsd r3 hr3
          refine ca_cVi hX (q := 60) y_X0_minuteSaid w_ml_X5_147 (by omega) hN d0 (c_X0_minuteSaid l N g 16 B hz (by omega) ks hk1 hk2 r3) (by decide) rfl (Nat.le_of_ble_eq_true rfl) rfl dX5_said_57 rfl ?_
          rw [hw2]
          refine ca_istore hX (q := 62) (ls' := [_, _, _, _, _, _]) (Nat.le_of_ble_eq_true rfl) (Nat.le_of_ble_eq_true rfl) (Or.inr rfl) rfl rfl dX5_said_60 ?_
          refine ca_iload hX (q := 64) rfl rfl dX5_said_62 ?_
          refine ca_if_ne hX (q := 67) 72 rfl rfl dX5_said_64 (fun c64 => ?_) (fun c64 => ?_)
          · exact absurd c30 c64
          · refine ca_iload hX (q := 69) rfl rfl dX5_said_67 ?_
            refine ca_goto hX 81 rfl dX5_said_69 ?_
            refine ca_iret hX rfl rfl rfl rfl dX5_said_81 ?_
            exact cl_end (by simp [saA, fkB, b01, noA, nk1, nk2, nk3, nk4, nk6, c4, er1, c12, ea2, c19, er3, c30, c64]) hfr hx
        · refine ca_iload hX (q := 35) rfl rfl dX5_said_33 ?_
          refine ca_iconst hX (q := 36) k_iconst_1 rfl dX5_said_35 ?_
          refine ca_icmp_eq hX (q := 39) 46 rfl rfl dX5_said_36 (fun c36 => ?_) (fun c36 => ?_)
          · refine ca_aload_n hX (q := 47) 0 rfl rfl rfl dX5_said_46 ?_
            refine ca_iload_n hX (q := 48) 1 rfl rfl rfl dX5_said_47 ?_
            refine ca_iload_n hX (q := 49) 2 rfl rfl rfl dX5_said_48 ?_
            refine ca_cV hX (q := 52) y_X5_burnAsNow w_ml_X5_132 (by omega) hN hc (c_X5_burnAsNow l N g _ hc hN31 B hz (M 0) hh P hP hP5 hok r1 hr1 a2 ha2) (by decide) rfl (Nat.le_of_ble_eq_true rfl) rfl dX5_said_49 rfl ?_
            rintro _ g ⟨rfl, hf, B, hz, hlo, hsp, hfd⟩
            have hx := hx.bz hf hz
            have hfr := hfr.tr (hf.wd (by omega) (by omega))
            obtain ⟨hc, hh, hkp, htr, hz, htl, hlt, hrw, h30⟩ := id hx
            have h0 := hh.1
            have k0 := hkp.1
            have t0 := htr.1
            have d0 := hz.1
            have l0 := hlt.1
            have w0 := hrw.1
            refine ca_aload_n hX (q := 53) 0 rfl rfl rfl dX5_said_52 ?_
            refine ca_getf hX (q := 56) cl_X5 3 (by decide) w_fl_X5_25 (by omega) hc rfl rfl dX5_said_53 ?_
            refine ca_iload_n hX (q := 57) 3 rfl rfl rfl dX5_said_56 ?_
            obtain ⟨ks, hk1, hk2, hsd, hsb, hts, hrs⟩ := fd_s hsp hfd
            have hw2 := hsd r3 hr3
            refine ca_cVi hX (q := 60) y_X0_minuteSaid w_ml_X5_147 (by omega) hN d0 (c_X0_minuteSaid l N g 16 B hz (by omega) ks hk1 hk2 r3) (by decide) rfl (Nat.le_of_ble_eq_true rfl) rfl dX5_said_57 rfl ?_
            rw [hw2]
            refine ca_istore hX (q := 62) (ls' := [_, _, _, _, _, _]) (Nat.le_of_ble_eq_true rfl) (Nat.le_of_ble_eq_true rfl) (Or.inr rfl) rfl rfl dX5_said_60 ?_
            refine ca_iload hX (q := 64) rfl rfl dX5_said_62 ?_
            refine ca_if_ne hX (q := 67) 72 rfl rfl dX5_said_64 (fun c64 => ?_) (fun c64 => ?_)
            · refine ca_aload_n hX (q := 73) 0 rfl rfl rfl dX5_said_72 ?_
              refine ca_getf hX (q := 76) cl_X5 3 (by decide) w_fl_X5_25 (by omega) hc rfl rfl dX5_said_73 ?_
              refine ca_iload hX (q := 78) rfl rfl dX5_said_76 ?_
              refine ca_cVi hX (q := 81) y_X0_speakerIn w_ml_X5_150 (by omega) hN d0 (c_X0_spk l N g B hz (by omega) _ hsp.1 hsp.2.1 _ _ (hsb r3 hr3)) (by decide) rfl (Nat.le_of_ble_eq_true rfl) rfl dX5_said_78 rfl ?_
              refine ca_iret hX rfl rfl rfl rfl dX5_said_81 ?_
              exact cl_end (by simp [saA, fkB, b01, noA, nk1, nk2, nk3, nk4, nk6, c4, er1, c12, ea2, c19, er3, c30, c36, c64]) hfr hx
            · exact absurd c64 c30
          · refine ca_aload_n hX (q := 40) 0 rfl rfl rfl dX5_said_39 ?_
            refine ca_bipush hX (q := 42) k_bipush_m2 rfl dX5_said_40 ?_
            refine ca_cV hX (q := 45) y_X5_refuse w_ml_X5_53 (by omega) hN hc (c_X5_refuse l N g _ hc hN31 (M 6) h30 (-2) 2 (by decide) (by omega) (by omega)) (by decide) rfl (Nat.le_of_ble_eq_true rfl) rfl dX5_said_42 rfl ?_
            rintro _ g ⟨rfl, h30, hf⟩
            have hx := hx.rf hf h30
            have hfr := hfr.tr (hf.wd (by omega) (by omega))
            refine ca_iret hX rfl rfl rfl rfl dX5_said_45 ?_
            exact cl_end (by simp [saA, fkB, b01, noA, nk1, nk2, nk3, nk4, nk6, c4, er1, c12, ea2, c19, er3, c30, c36]) hfr hx
      · refine ca_aload_n hX (q := 23) 0 rfl rfl rfl dX5_said_22 ?_
        refine ca_iconst hX (q := 24) k_iconst_m1 rfl dX5_said_23 ?_
        refine ca_cV hX (q := 27) y_X5_refuse w_ml_X5_53 (by omega) hN hc (c_X5_refuse l N g _ hc hN31 (M 6) h30 (-1) 1 (by decide) (by omega) (by omega)) (by decide) rfl (Nat.le_of_ble_eq_true rfl) rfl dX5_said_24 rfl ?_
        rintro _ g ⟨rfl, h30, hf⟩
        have hx := hx.rf hf h30
        have hfr := hfr.tr (hf.wd (by omega) (by omega))
        refine ca_iret hX rfl rfl rfl rfl dX5_said_27 ?_
        exact cl_end (by simp [saA, fkB, b01, noA, nk1, nk2, nk3, nk4, nk6, c4, er1, c12, ea2, c19]) hfr hx

set_option maxRecDepth 100000 in
set_option maxHeartbeats 4000000 in
theorem k_talker (l : Launch) (N : Nat) (g0 : ca_G) (M : Nat → Nat → Int32) (t : Nat → Int32) (B : Nat → Nat → Int32) (hx : clX g0 M t B) (hN31 : 31 ≤ N) (P : Nat) (w : wfH (M 0) P) (x1 x2 : Int32) : ca_Ct l yX5_talker cX5_talker 7 (some .int) 5 0 0 N 1000000 [.ref 0, .int x1, .int x2] g0 (clP g0 (tlA M P x1 x2)) := by
  refine ca_intro (by decide) (Nat.le_of_ble_eq_true rfl) (fun X hX hN => ?_)
  show X 0 [_, _, _, none, none, none, none] [] N 1000000 g0
  obtain ⟨g, hgg⟩ : ∃ g, g = g0 := ⟨g0, rfl⟩
  rw [← hgg] at hx ⊢
  have hfr : frG g0 g 0 31 := by rw [hgg]; exact frG.rf
  obtain ⟨hc, hh, hkp, htr, hz, htl, hlt, hrw, h30⟩ := id hx
  have h0 := hh.1
  have k0 := hkp.1
  have t0 := htr.1
  have d0 := hz.1
  have l0 := hlt.1
  have w0 := hrw.1
  have hP := w.1
  have hP5 := w.2.1
  have hok := wf_ok w
  refine ca_iload_n hX (q := 1) 1 rfl rfl rfl dX5_talker_0 ?_
  refine ca_cSi hX (q := 4) y_X5_isRoom w_ml_X5_78 hN (c_X5_isRoom l N g _) (by decide) rfl (Nat.le_of_ble_eq_true rfl) rfl dX5_talker_1 rfl ?_
  refine ca_if_eq hX (q := 7) 15 rfl rfl dX5_talker_4 (fun c4 => ?_) (fun c4 => ?_)
  · refine ca_aload_n hX (q := 16) 0 rfl rfl rfl dX5_talker_15 ?_
    refine ca_iconst hX (q := 17) k_iconst_m1 rfl dX5_talker_16 ?_
    refine ca_cV hX (q := 20) y_X5_refuse w_ml_X5_53 (by omega) hN hc (c_X5_refuse l N g _ hc hN31 (M 6) h30 (-1) 1 (by decide) (by omega) (by omega)) (by decide) rfl (Nat.le_of_ble_eq_true rfl) rfl dX5_talker_17 rfl ?_
    rintro _ g ⟨rfl, h30, hf⟩
    have hx := hx.rf hf h30
    have hfr := hfr.tr (hf.wd (by omega) (by omega))
    refine ca_iret hX rfl rfl rfl rfl dX5_talker_20 ?_
    exact cl_end (by simp [tlA, fkB, noA, nk1, c4]) hfr hx
  · obtain ⟨r1, hr1, rfl⟩ := rm_ok c4
    have er1 := nI_clamp (n := r1) (by omega)
    refine ca_aload_n hX (q := 8) 0 rfl rfl rfl dX5_talker_7 ?_
    refine ca_iload_n hX (q := 9) 2 rfl rfl rfl dX5_talker_8 ?_
    refine ca_cVi hX (q := 12) y_X5_isSpeaker w_ml_X5_129 (by omega) hN hc (c_X5_isSpeaker l N g _ hc hN31 (M 0) hh _) (by decide) rfl (Nat.le_of_ble_eq_true rfl) rfl dX5_talker_9 rfl ?_
    refine ca_if_ne hX (q := 15) 21 rfl rfl dX5_talker_12 (fun c12 => ?_) (fun c12 => ?_)
    · obtain ⟨a2, ha2, rfl⟩ := sk_ok hP hP5 c12
      have ea2 := nI_clamp (n := a2) (by omega)
      refine ca_aload_n hX (q := 22) 0 rfl rfl rfl dX5_talker_21 ?_
      refine ca_iload_n hX (q := 23) 1 rfl rfl rfl dX5_talker_22 ?_
      refine ca_iload_n hX (q := 24) 2 rfl rfl rfl dX5_talker_23 ?_
      refine ca_cV hX (q := 27) y_X5_burnAsNow w_ml_X5_132 (by omega) hN hc (c_X5_burnAsNow l N g _ hc hN31 B hz (M 0) hh P hP hP5 hok r1 hr1 a2 ha2) (by decide) rfl (Nat.le_of_ble_eq_true rfl) rfl dX5_talker_24 rfl ?_
      rintro _ g ⟨rfl, hf, B, hz, hlo, hsp, hfd⟩
      have hx := hx.bz hf hz
      have hfr := hfr.tr (hf.wd (by omega) (by omega))
      obtain ⟨hc, hh, hkp, htr, hz, htl, hlt, hrw, h30⟩ := id hx
      have h0 := hh.1
      have k0 := hkp.1
      have t0 := htr.1
      have d0 := hz.1
      have l0 := hlt.1
      have w0 := hrw.1
      obtain ⟨ks, hk1, hk2, hsd, hsb, hts, hrs⟩ := fd_s hsp hfd
      have hti : ∀ p, p < 5 → tsM B _ (nI p) ks = (spV (M 0) r1 (alT a2 P).1 (alT a2 P).2 0) p := hts
      have loop : ∀ (n i : Nat), i + n = P → X 36 [some (.ref 0), some (.int (nI r1)), some (.int (nI a2)), some (.int (mxF (-9, 0) (spV (M 0) r1 (alT a2 P).1 (alT a2 P).2 0) i).1), some (.int (mxF (-9, 0) (spV (M 0) r1 (alT a2 P).1 (alT a2 P).2 0) i).2), some (.int (nI i)), none] [] N 1000000 g := by
        intro n
        induction n with
        | zero =>
          intro i  hi 
          have hib : i = P := by omega
          rw [hib]
          refine ca_iload hX (q := 38) rfl rfl dX5_talker_36 ?_
          refine ca_aload_n hX (q := 39) 0 rfl rfl rfl dX5_talker_38 ?_
          refine ca_getf hX (q := 42) cl_X5 0 (by decide) w_fl_X5_10 (by omega) hc rfl rfl dX5_talker_39 ?_
          refine ca_getN hX (q := 45) cl_X1 4 (by decide) w_fn_X5_153 (by omega) h0 rfl rfl dX5_talker_42 ?_
          refine ca_icmp_ge hX (q := 48) 79 rfl rfl dX5_talker_45 (fun _ => ?_) (fun z => absurd (by rw [hP]; exact nI_le (Nat.le_refl _) (by omega)) z)
          refine ca_iload_n hX (q := 80) 3 rfl rfl rfl dX5_talker_79 ?_
          refine ca_iret hX rfl rfl rfl rfl dX5_talker_80 ?_
          exact cl_end (by simp [tlA, fkB, c4, c12, er1, ea2]) hfr hx
        | succ n ih =>
          intro i  hi 
          refine ca_iload hX (q := 38) rfl rfl dX5_talker_36 ?_
          refine ca_aload_n hX (q := 39) 0 rfl rfl rfl dX5_talker_38 ?_
          refine ca_getf hX (q := 42) cl_X5 0 (by decide) w_fl_X5_10 (by omega) hc rfl rfl dX5_talker_39 ?_
          refine ca_getN hX (q := 45) cl_X1 4 (by decide) w_fn_X5_153 (by omega) h0 rfl rfl dX5_talker_42 ?_
          refine ca_icmp_ge hX (q := 48) 79 rfl rfl dX5_talker_45 (fun z => absurd z (by rw [hP]; exact nI_ge (a := i) (b := P) (by omega) (by omega))) (fun _ => ?_)
          refine ca_aload_n hX (q := 49) 0 rfl rfl rfl dX5_talker_48 ?_
          refine ca_getf hX (q := 52) cl_X5 3 (by decide) w_fl_X5_25 (by omega) hc rfl rfl dX5_talker_49 ?_
          refine ca_iload hX (q := 54) rfl rfl dX5_talker_52 ?_
          refine ca_cVi hX (q := 57) y_X0_timesSpoken w_ml_X5_156 (by omega) hN d0 (c_X0_timesSpoken l N g 16 B hz (by omega) ks hk1 hk2 _ hsp.1 hsp.2.1 (nI i)) (by decide) rfl (Nat.le_of_ble_eq_true rfl) rfl dX5_talker_54 rfl ?_
          rw [hti i (by omega)]
          refine ca_istore hX (q := 59) (ls' := [_, _, _, _, _, _, _]) (Nat.le_of_ble_eq_true rfl) (Nat.le_of_ble_eq_true rfl) (Or.inr rfl) rfl rfl dX5_talker_57 ?_
          refine ca_iload hX (q := 61) rfl rfl dX5_talker_59 ?_
          refine ca_iload hX (q := 63) rfl rfl dX5_talker_61 ?_
          refine ca_icmp_le hX (q := 66) 73 rfl rfl dX5_talker_63 (fun c63 => ?_) (fun c63 => ?_)
          · refine ca_iinc hX (q := 76) (ls' := [_, _, _, _, _, _, _]) k_iconst_1 rfl (Nat.le_of_ble_eq_true rfl) (Or.inr rfl) rfl rfl dX5_talker_73 ?_
            refine ca_goto hX 36 rfl dX5_talker_76 ?_
            have e1 : mxF (-9, 0) (spV (M 0) r1 (alT a2 P).1 (alT a2 P).2 0) (i + 1) = mxF (-9, 0) (spV (M 0) r1 (alT a2 P).1 (alT a2 P).2 0) i := by rw [mxF, if_pos c63]
            rw [nI_1]
            exact ca_drop hX (ca_le_s rfl (ca_le_s rfl (ca_le_s rfl (ca_le_s (by rw [e1]) (ca_le_s (by rw [e1]) (ca_le_s rfl (ca_le_n ca_le_0))))))) (ih (i + 1)  (by omega))
          · refine ca_iload hX (q := 68) rfl rfl dX5_talker_66 ?_
            refine ca_istore hX (q := 70) (ls' := [_, _, _, _, _, _, _]) (Nat.le_of_ble_eq_true rfl) (Nat.le_of_ble_eq_true rfl) (Or.inr rfl) rfl rfl dX5_talker_68 ?_
            refine ca_iload hX (q := 72) rfl rfl dX5_talker_70 ?_
            refine ca_istore_n hX (q := 73) 3 rfl (ls' := [_, _, _, _, _, _, _]) (Nat.le_of_ble_eq_true rfl) (Nat.le_of_ble_eq_true rfl) (Or.inr rfl) rfl rfl dX5_talker_72 ?_
            refine ca_iinc hX (q := 76) (ls' := [_, _, _, _, _, _, _]) k_iconst_1 rfl (Nat.le_of_ble_eq_true rfl) (Or.inr rfl) rfl rfl dX5_talker_73 ?_
            refine ca_goto hX 36 rfl dX5_talker_76 ?_
            have e1 : mxF (-9, 0) (spV (M 0) r1 (alT a2 P).1 (alT a2 P).2 0) (i + 1) = (nI i, (spV (M 0) r1 (alT a2 P).1 (alT a2 P).2 0) i) := by rw [mxF, if_neg c63]
            rw [nI_1]
            exact ca_drop hX (ca_le_s rfl (ca_le_s rfl (ca_le_s rfl (ca_le_s (by rw [e1]) (ca_le_s (by rw [e1]) (ca_le_s rfl (ca_le_n ca_le_0))))))) (ih (i + 1)  (by omega))
      refine ca_bipush hX (q := 29) k_bipush_m9 rfl dX5_talker_27 ?_
      refine ca_istore_n hX (q := 30) 3 rfl (ls' := [_, _, _, _, _, _, _]) (Nat.le_of_ble_eq_true rfl) (Nat.le_of_ble_eq_true rfl) (Or.inr rfl) rfl rfl dX5_talker_29 ?_
      refine ca_iconst hX (q := 31) k_iconst_0 rfl dX5_talker_30 ?_
      refine ca_istore hX (q := 33) (ls' := [_, _, _, _, _, _, _]) (Nat.le_of_ble_eq_true rfl) (Nat.le_of_ble_eq_true rfl) (Or.inr rfl) rfl rfl dX5_talker_31 ?_
      refine ca_iconst hX (q := 34) k_iconst_0 rfl dX5_talker_33 ?_
      refine ca_istore hX (q := 36) (ls' := [_, _, _, _, _, _, _]) (Nat.le_of_ble_eq_true rfl) (Nat.le_of_ble_eq_true rfl) (Or.inr rfl) rfl rfl dX5_talker_34 ?_
      exact ca_drop hX (ca_le_s rfl (ca_le_s rfl (ca_le_s rfl (ca_le_s rfl (ca_le_s rfl (ca_le_s rfl (ca_le_n ca_le_0))))))) (loop P 0 (by omega))
    · refine ca_aload_n hX (q := 16) 0 rfl rfl rfl dX5_talker_15 ?_
      refine ca_iconst hX (q := 17) k_iconst_m1 rfl dX5_talker_16 ?_
      refine ca_cV hX (q := 20) y_X5_refuse w_ml_X5_53 (by omega) hN hc (c_X5_refuse l N g _ hc hN31 (M 6) h30 (-1) 1 (by decide) (by omega) (by omega)) (by decide) rfl (Nat.le_of_ble_eq_true rfl) rfl dX5_talker_17 rfl ?_
      rintro _ g ⟨rfl, h30, hf⟩
      have hx := hx.rf hf h30
      have hfr := hfr.tr (hf.wd (by omega) (by omega))
      refine ca_iret hX rfl rfl rfl rfl dX5_talker_20 ?_
      exact cl_end (by simp [tlA, fkB, noA, nk1, c4, er1, c12]) hfr hx

set_option maxRecDepth 100000 in
set_option maxHeartbeats 4000000 in
theorem k_alone (l : Launch) (N : Nat) (g0 : ca_G) (M : Nat → Nat → Int32) (t : Nat → Int32) (B : Nat → Nat → Int32) (hx : clX g0 M t B) (hN31 : 31 ≤ N) (P : Nat) (w : wfH (M 0) P) (x1 : Int32) : ca_Ct l yX5_alone cX5_alone 2 (some .int) 5 0 0 N 1000000 [.ref 0, .int x1] g0 (clP g0 (alA M x1)) := by
  refine ca_intro (by decide) (Nat.le_of_ble_eq_true rfl) (fun X hX hN => ?_)
  show X 0 [_, _] [] N 1000000 g0
  obtain ⟨g, hgg⟩ : ∃ g, g = g0 := ⟨g0, rfl⟩
  rw [← hgg] at hx ⊢
  have hfr : frG g0 g 0 31 := by rw [hgg]; exact frG.rf
  obtain ⟨hc, hh, hkp, htr, hz, htl, hlt, hrw, h30⟩ := id hx
  have h0 := hh.1
  have k0 := hkp.1
  have t0 := htr.1
  have d0 := hz.1
  have l0 := hlt.1
  have w0 := hrw.1
  have hP := w.1
  have hP5 := w.2.1
  have hok := wf_ok w
  refine ca_iload_n hX (q := 1) 1 rfl rfl rfl dX5_alone_0 ?_
  refine ca_cSi hX (q := 4) y_X5_isRoom w_ml_X5_78 hN (c_X5_isRoom l N g _) (by decide) rfl (Nat.le_of_ble_eq_true rfl) rfl dX5_alone_1 rfl ?_
  refine ca_if_ne hX (q := 7) 13 rfl rfl dX5_alone_4 (fun c4 => ?_) (fun c4 => ?_)
  · obtain ⟨r1, hr1, rfl⟩ := rm_ok c4
    have er1 := nI_clamp (n := r1) (by omega)
    refine ca_aload_n hX (q := 14) 0 rfl rfl rfl dX5_alone_13 ?_
    refine ca_getf hX (q := 17) cl_X5 3 (by decide) w_fl_X5_25 (by omega) hc rfl rfl dX5_alone_14 ?_
    refine ca_aload_n hX (q := 18) 0 rfl rfl rfl dX5_alone_17 ?_
    refine ca_getf hX (q := 21) cl_X5 0 (by decide) w_fl_X5_10 (by omega) hc rfl rfl dX5_alone_18 ?_
    refine ca_cV hX (q := 24) y_X0_lookAt w_ml_X5_159 (by omega) hN d0 (c_X0_lookAt l N g 16 B hz (by omega) 1 (M 0) hh (by omega) (by omega) P hP hP5) (by decide) rfl (Nat.le_of_ble_eq_true rfl) rfl dX5_alone_21 rfl ?_
    rintro _ g ⟨rfl, ⟨B, hz, hk1, hp1, hy1⟩, hf⟩
    have hlo : loM B (M 0) P := ⟨hk1, hp1, hy1⟩
    have hx := hx.bz hf hz
    have hfr := hfr.tr (hf.wd (by omega) (by omega))
    obtain ⟨hc, hh, hkp, htr, hz, htl, hlt, hrw, h30⟩ := id hx
    have h0 := hh.1
    have k0 := hkp.1
    have t0 := htr.1
    have d0 := hz.1
    have l0 := hlt.1
    have w0 := hrw.1
    refine ca_aload_n hX (q := 25) 0 rfl rfl rfl dX5_alone_24 ?_
    refine ca_iload_n hX (q := 26) 1 rfl rfl rfl dX5_alone_25 ?_
    refine ca_iconst hX (q := 27) k_iconst_0 rfl dX5_alone_26 ?_
    refine ca_cV hX (q := 30) y_X5_worthWithOnly w_ml_X5_162 (by omega) hN hc (c_X5_worthWithOnly l N g _ hc hN31 B hz (M 0) P hlo hP5 hok r1 hr1 0) (by decide) rfl (Nat.le_of_ble_eq_true rfl) rfl dX5_alone_27 rfl ?_
    rintro _ g ⟨rfl, hf, B, hz, hlo, hsp, hfd⟩
    have hx := hx.bz hf hz
    have hfr := hfr.tr (hf.wd (by omega) (by omega))
    obtain ⟨hc, hh, hkp, htr, hz, htl, hlt, hrw, h30⟩ := id hx
    have h0 := hh.1
    have k0 := hkp.1
    have t0 := htr.1
    have d0 := hz.1
    have l0 := hlt.1
    have w0 := hrw.1
    refine ca_iret hX rfl rfl rfl rfl dX5_alone_30 ?_
    exact cl_end (by simp [alA, noA, nk1, nk2, nk3, nk4, nk6, c4, er1, tr_none]) hfr hx
  · refine ca_aload_n hX (q := 8) 0 rfl rfl rfl dX5_alone_7 ?_
    refine ca_iconst hX (q := 9) k_iconst_m1 rfl dX5_alone_8 ?_
    refine ca_cV hX (q := 12) y_X5_refuse w_ml_X5_53 (by omega) hN hc (c_X5_refuse l N g _ hc hN31 (M 6) h30 (-1) 1 (by decide) (by omega) (by omega)) (by decide) rfl (Nat.le_of_ble_eq_true rfl) rfl dX5_alone_9 rfl ?_
    rintro _ g ⟨rfl, h30, hf⟩
    have hx := hx.rf hf h30
    have hfr := hfr.tr (hf.wd (by omega) (by omega))
    refine ca_iret hX rfl rfl rfl rfl dX5_alone_12 ?_
    exact cl_end (by simp [alA, noA, nk1, nk2, nk3, nk4, nk6, c4, tr_none]) hfr hx

set_option maxRecDepth 100000 in
set_option maxHeartbeats 4000000 in
theorem k_worstRoom (l : Launch) (N : Nat) (g0 : ca_G) (M : Nat → Nat → Int32) (t : Nat → Int32) (B : Nat → Nat → Int32) (hx : clX g0 M t B) (hN31 : 31 ≤ N) (P : Nat) (w : wfH (M 0) P) : ca_Ct l yX5_worstRoom cX5_worstRoom 5 (some .int) 5 0 0 N 1000000 [.ref 0] g0 (clP g0 (woA M P)) := by
  refine ca_intro (by decide) (Nat.le_of_ble_eq_true rfl) (fun X hX hN => ?_)
  show X 0 [_, none, none, none, none] [] N 1000000 g0
  obtain ⟨g, hgg⟩ : ∃ g, g = g0 := ⟨g0, rfl⟩
  rw [← hgg] at hx ⊢
  have hfr : frG g0 g 0 31 := by rw [hgg]; exact frG.rf
  obtain ⟨hc, hh, hkp, htr, hz, htl, hlt, hrw, h30⟩ := id hx
  have h0 := hh.1
  have k0 := hkp.1
  have t0 := htr.1
  have d0 := hz.1
  have l0 := hlt.1
  have w0 := hrw.1
  have hP := w.1
  have hP5 := w.2.1
  have hok := wf_ok w
  refine ca_aload_n hX (q := 1) 0 rfl rfl rfl dX5_worstRoom_0 ?_
  refine ca_getf hX (q := 4) cl_X5 3 (by decide) w_fl_X5_25 (by omega) hc rfl rfl dX5_worstRoom_1 ?_
  refine ca_aload_n hX (q := 5) 0 rfl rfl rfl dX5_worstRoom_4 ?_
  refine ca_getf hX (q := 8) cl_X5 0 (by decide) w_fl_X5_10 (by omega) hc rfl rfl dX5_worstRoom_5 ?_
  refine ca_cV hX (q := 11) y_X0_lookAt w_ml_X5_159 (by omega) hN d0 (c_X0_lookAt l N g 16 B hz (by omega) 1 (M 0) hh (by omega) (by omega) P hP hP5) (by decide) rfl (Nat.le_of_ble_eq_true rfl) rfl dX5_worstRoom_8 rfl ?_
  rintro _ g ⟨rfl, ⟨B, hz, hk1, hp1, hy1⟩, hf⟩
  have hlo : loM B (M 0) P := ⟨hk1, hp1, hy1⟩
  have hx := hx.bz hf hz
  have hfr := hfr.tr (hf.wd (by omega) (by omega))
  obtain ⟨hc, hh, hkp, htr, hz, htl, hlt, hrw, h30⟩ := id hx
  have h0 := hh.1
  have k0 := hkp.1
  have t0 := htr.1
  have d0 := hz.1
  have l0 := hlt.1
  have w0 := hrw.1
  have loop : ∀ (n i : Nat) (g1 : ca_G) (B1 : Nat → Nat → Int32), i + n = 25 → clX g1 M t B1 → loM B1 (M 0) P → frG g0 g1 0 31 → X 17 [some (.ref 0), some (.int (mxF (0, -1) (fun r => wA (M 0) P r 0) i).1), some (.int (mxF (0, -1) (fun r => wA (M 0) P r 0) i).2), some (.int (nI i)), none] [] N 1000000 g1 := by
    intro n
    induction n with
    | zero =>
      intro i g B hi hx hlo hfr
      have hib : i = 25 := by omega
      rw [hib]
      obtain ⟨hc, hh, hkp, htr, hz, htl, hlt, hrw, h30⟩ := id hx
      have h0 := hh.1
      have k0 := hkp.1
      have t0 := htr.1
      have d0 := hz.1
      have l0 := hlt.1
      have w0 := hrw.1
      refine ca_iload_n hX (q := 18) 3 rfl rfl rfl dX5_worstRoom_17 ?_
      refine ca_bipush hX (q := 20) k_bipush_25 rfl dX5_worstRoom_18 ?_
      refine ca_icmp_ge hX (q := 23) 48 rfl rfl dX5_worstRoom_20 (fun _ => ?_) (fun z => absurd (nI_le (a := 25) (b := 25) (by omega) (by omega)) z)
      refine ca_iload_n hX (q := 49) 1 rfl rfl rfl dX5_worstRoom_48 ?_
      refine ca_iret hX rfl rfl rfl rfl dX5_worstRoom_49 ?_
      exact cl_end rfl hfr hx
    | succ n ih =>
      intro i g B hi hx hlo hfr
      obtain ⟨hc, hh, hkp, htr, hz, htl, hlt, hrw, h30⟩ := id hx
      have h0 := hh.1
      have k0 := hkp.1
      have t0 := htr.1
      have d0 := hz.1
      have l0 := hlt.1
      have w0 := hrw.1
      refine ca_iload_n hX (q := 18) 3 rfl rfl rfl dX5_worstRoom_17 ?_
      refine ca_bipush hX (q := 20) k_bipush_25 rfl dX5_worstRoom_18 ?_
      refine ca_icmp_ge hX (q := 23) 48 rfl rfl dX5_worstRoom_20 (fun z => absurd z (nI_ge (a := i) (b := 25) (by omega) (by omega))) (fun _ => ?_)
      refine ca_aload_n hX (q := 24) 0 rfl rfl rfl dX5_worstRoom_23 ?_
      refine ca_iload_n hX (q := 25) 3 rfl rfl rfl dX5_worstRoom_24 ?_
      refine ca_iconst hX (q := 26) k_iconst_0 rfl dX5_worstRoom_25 ?_
      refine ca_cV hX (q := 29) y_X5_worthBy w_ml_X5_168 (by omega) hN hc (c_X5_worthBy l N g _ hc hN31 B hz (M 0) P hlo hP5 hok i (by omega) 0 (by omega)) (by decide) rfl (Nat.le_of_ble_eq_true rfl) rfl dX5_worstRoom_26 rfl ?_
      rintro _ g ⟨rfl, hf, B, hz, hlo, hsp, hfd⟩
      have hx := hx.bz hf hz
      have hfr := hfr.tr (hf.wd (by omega) (by omega))
      obtain ⟨hc, hh, hkp, htr, hz, htl, hlt, hrw, h30⟩ := id hx
      have h0 := hh.1
      have k0 := hkp.1
      have t0 := htr.1
      have d0 := hz.1
      have l0 := hlt.1
      have w0 := hrw.1
      refine ca_istore hX (q := 31) (ls' := [_, _, _, _, _]) (Nat.le_of_ble_eq_true rfl) (Nat.le_of_ble_eq_true rfl) (Or.inr rfl) rfl rfl dX5_worstRoom_29 ?_
      refine ca_iload hX (q := 33) rfl rfl dX5_worstRoom_31 ?_
      refine ca_iload_n hX (q := 34) 2 rfl rfl rfl dX5_worstRoom_33 ?_
      refine ca_icmp_le hX (q := 37) 42 rfl rfl dX5_worstRoom_34 (fun c34 => ?_) (fun c34 => ?_)
      · refine ca_iinc hX (q := 45) (ls' := [_, _, _, _, _]) k_iconst_1 rfl (Nat.le_of_ble_eq_true rfl) (Or.inr rfl) rfl rfl dX5_worstRoom_42 ?_
        refine ca_goto hX 17 rfl dX5_worstRoom_45 ?_
        have e1 : mxF (0, -1) (fun r => wA (M 0) P r 0) (i + 1) = mxF (0, -1) (fun r => wA (M 0) P r 0) i := by rw [mxF, if_pos c34]
        rw [nI_1]
        exact ca_drop hX (ca_le_s rfl (ca_le_s (by rw [e1]) (ca_le_s (by rw [e1]) (ca_le_s rfl (ca_le_n ca_le_0))))) (ih (i + 1) _ B (by omega) hx hlo hfr)
      · refine ca_iload hX (q := 39) rfl rfl dX5_worstRoom_37 ?_
        refine ca_istore_n hX (q := 40) 2 rfl (ls' := [_, _, _, _, _]) (Nat.le_of_ble_eq_true rfl) (Nat.le_of_ble_eq_true rfl) (Or.inr rfl) rfl rfl dX5_worstRoom_39 ?_
        refine ca_iload_n hX (q := 41) 3 rfl rfl rfl dX5_worstRoom_40 ?_
        refine ca_istore_n hX (q := 42) 1 rfl (ls' := [_, _, _, _, _]) (Nat.le_of_ble_eq_true rfl) (Nat.le_of_ble_eq_true rfl) (Or.inr rfl) rfl rfl dX5_worstRoom_41 ?_
        refine ca_iinc hX (q := 45) (ls' := [_, _, _, _, _]) k_iconst_1 rfl (Nat.le_of_ble_eq_true rfl) (Or.inr rfl) rfl rfl dX5_worstRoom_42 ?_
        refine ca_goto hX 17 rfl dX5_worstRoom_45 ?_
        have e1 : mxF (0, -1) (fun r => wA (M 0) P r 0) (i + 1) = (nI i, (fun r => wA (M 0) P r 0) i) := by rw [mxF, if_neg c34]
        rw [nI_1]
        exact ca_drop hX (ca_le_s rfl (ca_le_s (by rw [e1]) (ca_le_s (by rw [e1]) (ca_le_s rfl (ca_le_n ca_le_0))))) (ih (i + 1) _ B (by omega) hx hlo hfr)
  refine ca_iconst hX (q := 12) k_iconst_0 rfl dX5_worstRoom_11 ?_
  refine ca_istore_n hX (q := 13) 1 rfl (ls' := [_, _, _, _, _]) (Nat.le_of_ble_eq_true rfl) (Nat.le_of_ble_eq_true rfl) (Or.inr rfl) rfl rfl dX5_worstRoom_12 ?_
  refine ca_iconst hX (q := 14) k_iconst_m1 rfl dX5_worstRoom_13 ?_
  refine ca_istore_n hX (q := 15) 2 rfl (ls' := [_, _, _, _, _]) (Nat.le_of_ble_eq_true rfl) (Nat.le_of_ble_eq_true rfl) (Or.inr rfl) rfl rfl dX5_worstRoom_14 ?_
  refine ca_iconst hX (q := 16) k_iconst_0 rfl dX5_worstRoom_15 ?_
  refine ca_istore_n hX (q := 17) 3 rfl (ls' := [_, _, _, _, _]) (Nat.le_of_ble_eq_true rfl) (Nat.le_of_ble_eq_true rfl) (Or.inr rfl) rfl rfl dX5_worstRoom_16 ?_
  exact ca_drop hX (ca_le_s rfl (ca_le_s rfl (ca_le_s rfl (ca_le_s rfl (ca_le_n ca_le_0))))) (loop 25 0 _ B (by omega) hx hlo hfr)

set_option maxRecDepth 100000 in
set_option maxHeartbeats 4000000 in
theorem k_bestAgainst (l : Launch) (N : Nat) (g0 : ca_G) (M : Nat → Nat → Int32) (t : Nat → Int32) (B : Nat → Nat → Int32) (hx : clX g0 M t B) (hN31 : 31 ≤ N) (P : Nat) (w : wfH (M 0) P) (r1 r2 : Nat) (hr1 : r1 < 25) (hr2 : r2 < 25) : ca_Ct l yX5_bestAgainst cX5_bestAgainst 7 (some .int) 5 0 0 N 1000000 [.ref 0, .int (nI r1), .int (nI r2)] g0 (fun rr g0' => rr = some (.int (mnF (-9, 1000000000) (vMx (M 0) P r1 r2) P).1) ∧ frG g0 g0' 0 31 ∧ ∃ B, clX g0' M t B ∧ loM B (M 0) P) := by
  refine ca_intro (by decide) (Nat.le_of_ble_eq_true rfl) (fun X hX hN => ?_)
  show X 0 [_, _, _, none, none, none, none] [] N 1000000 g0
  obtain ⟨g, hgg⟩ : ∃ g, g = g0 := ⟨g0, rfl⟩
  rw [← hgg] at hx ⊢
  have hfr : frG g0 g 0 31 := by rw [hgg]; exact frG.rf
  obtain ⟨hc, hh, hkp, htr, hz, htl, hlt, hrw, h30⟩ := id hx
  have h0 := hh.1
  have k0 := hkp.1
  have t0 := htr.1
  have d0 := hz.1
  have l0 := hlt.1
  have w0 := hrw.1
  have hP := w.1
  have hP5 := w.2.1
  have hok := wf_ok w
  refine ca_aload_n hX (q := 1) 0 rfl rfl rfl dX5_bestAgainst_0 ?_
  refine ca_getf hX (q := 4) cl_X5 3 (by decide) w_fl_X5_25 (by omega) hc rfl rfl dX5_bestAgainst_1 ?_
  refine ca_aload_n hX (q := 5) 0 rfl rfl rfl dX5_bestAgainst_4 ?_
  refine ca_getf hX (q := 8) cl_X5 0 (by decide) w_fl_X5_10 (by omega) hc rfl rfl dX5_bestAgainst_5 ?_
  refine ca_cV hX (q := 11) y_X0_lookAt w_ml_X5_159 (by omega) hN d0 (c_X0_lookAt l N g 16 B hz (by omega) 1 (M 0) hh (by omega) (by omega) P hP hP5) (by decide) rfl (Nat.le_of_ble_eq_true rfl) rfl dX5_bestAgainst_8 rfl ?_
  rintro _ g ⟨rfl, ⟨B, hz, hk1, hp1, hy1⟩, hf⟩
  have hlo : loM B (M 0) P := ⟨hk1, hp1, hy1⟩
  have hx := hx.bz hf hz
  have hfr := hfr.tr (hf.wd (by omega) (by omega))
  obtain ⟨hc, hh, hkp, htr, hz, htl, hlt, hrw, h30⟩ := id hx
  have h0 := hh.1
  have k0 := hkp.1
  have t0 := htr.1
  have d0 := hz.1
  have l0 := hlt.1
  have w0 := hrw.1
  have loop : ∀ (n i : Nat) (g1 : ca_G) (B1 : Nat → Nat → Int32), i + n = P → clX g1 M t B1 → loM B1 (M 0) P → frG g0 g1 0 31 → X 20 [some (.ref 0), some (.int (nI r1)), some (.int (nI r2)), some (.int (bcF (vMx (M 0) P r1 r2) i).1), some (.int (bcF (vMx (M 0) P r1 r2) i).2), some (.int (nI i)), none] [] N 1000000 g1 := by
    intro n
    induction n with
    | zero =>
      intro i g B hi hx hlo hfr
      have hib : i = P := by omega
      rw [hib]
      obtain ⟨hc, hh, hkp, htr, hz, htl, hlt, hrw, h30⟩ := id hx
      have h0 := hh.1
      have k0 := hkp.1
      have t0 := htr.1
      have d0 := hz.1
      have l0 := hlt.1
      have w0 := hrw.1
      refine ca_iload hX (q := 22) rfl rfl dX5_bestAgainst_20 ?_
      refine ca_aload_n hX (q := 23) 0 rfl rfl rfl dX5_bestAgainst_22 ?_
      refine ca_getf hX (q := 26) cl_X5 0 (by decide) w_fl_X5_10 (by omega) hc rfl rfl dX5_bestAgainst_23 ?_
      refine ca_getN hX (q := 29) cl_X1 4 (by decide) w_fn_X5_153 (by omega) h0 rfl rfl dX5_bestAgainst_26 ?_
      refine ca_icmp_ge hX (q := 32) 77 rfl rfl dX5_bestAgainst_29 (fun _ => ?_) (fun z => absurd (by rw [hP]; exact nI_le (Nat.le_refl _) (by omega)) z)
      refine ca_iload_n hX (q := 78) 3 rfl rfl rfl dX5_bestAgainst_77 ?_
      refine ca_iret hX rfl rfl rfl rfl dX5_bestAgainst_78 ?_
      exact ⟨by rw [(bc_mn P hP5 (fun j _ => vMx_lt w r1 r2 j)).1], hfr, B, hx, hlo⟩
    | succ n ih =>
      intro i g B hi hx hlo hfr
      obtain ⟨hc, hh, hkp, htr, hz, htl, hlt, hrw, h30⟩ := id hx
      have h0 := hh.1
      have k0 := hkp.1
      have t0 := htr.1
      have d0 := hz.1
      have l0 := hlt.1
      have w0 := hrw.1
      refine ca_iload hX (q := 22) rfl rfl dX5_bestAgainst_20 ?_
      refine ca_aload_n hX (q := 23) 0 rfl rfl rfl dX5_bestAgainst_22 ?_
      refine ca_getf hX (q := 26) cl_X5 0 (by decide) w_fl_X5_10 (by omega) hc rfl rfl dX5_bestAgainst_23 ?_
      refine ca_getN hX (q := 29) cl_X1 4 (by decide) w_fn_X5_153 (by omega) h0 rfl rfl dX5_bestAgainst_26 ?_
      refine ca_icmp_ge hX (q := 32) 77 rfl rfl dX5_bestAgainst_29 (fun z => absurd z (by rw [hP]; exact nI_ge (a := i) (b := P) (by omega) (by omega))) (fun _ => ?_)
      refine ca_aload_n hX (q := 33) 0 rfl rfl rfl dX5_bestAgainst_32 ?_
      refine ca_iload_n hX (q := 34) 1 rfl rfl rfl dX5_bestAgainst_33 ?_
      refine ca_iload hX (q := 36) rfl rfl dX5_bestAgainst_34 ?_
      refine ca_cV hX (q := 39) y_X5_worthBy w_ml_X5_168 (by omega) hN hc (c_X5_worthBy l N g _ hc hN31 B hz (M 0) P hlo hP5 hok r1 hr1 i (by omega)) (by decide) rfl (Nat.le_of_ble_eq_true rfl) rfl dX5_bestAgainst_36 rfl ?_
      rintro _ g ⟨rfl, hf, B, hz, hlo, hsp, hfd⟩
      have hx := hx.bz hf hz
      have hfr := hfr.tr (hf.wd (by omega) (by omega))
      obtain ⟨hc, hh, hkp, htr, hz, htl, hlt, hrw, h30⟩ := id hx
      have h0 := hh.1
      have k0 := hkp.1
      have t0 := htr.1
      have d0 := hz.1
      have l0 := hlt.1
      have w0 := hrw.1
      refine ca_aload_n hX (q := 40) 0 rfl rfl rfl dX5_bestAgainst_39 ?_
      refine ca_iload_n hX (q := 41) 2 rfl rfl rfl dX5_bestAgainst_40 ?_
      refine ca_iload hX (q := 43) rfl rfl dX5_bestAgainst_41 ?_
      refine ca_cV hX (q := 46) y_X5_worthBy w_ml_X5_168 (by omega) hN hc (c_X5_worthBy l N g _ hc hN31 B hz (M 0) P hlo hP5 hok r2 hr2 i (by omega)) (by decide) rfl (Nat.le_of_ble_eq_true rfl) rfl dX5_bestAgainst_43 rfl ?_
      rintro _ g ⟨rfl, hf, B, hz, hlo, hsp, hfd⟩
      have hx := hx.bz hf hz
      have hfr := hfr.tr (hf.wd (by omega) (by omega))
      obtain ⟨hc, hh, hkp, htr, hz, htl, hlt, hrw, h30⟩ := id hx
      have h0 := hh.1
      have k0 := hkp.1
      have t0 := htr.1
      have d0 := hz.1
      have l0 := hlt.1
      have w0 := hrw.1
      refine ca_mmax hX (q := 49) w_ml_X5_180 w_mxs w_mxi w_mxc (by decide) (Nat.le_of_ble_eq_true rfl) rfl dX5_bestAgainst_46 ?_
      rw [mx_eq, show mxB (wS (M 0) r1 (alT i P).1 (alT i P).2 0) (wS (M 0) r2 (alT i P).1 (alT i P).2 0) = (vMx (M 0) P r1 r2) i from rfl]
      refine ca_istore hX (q := 51) (ls' := [_, _, _, _, _, _, _]) (Nat.le_of_ble_eq_true rfl) (Nat.le_of_ble_eq_true rfl) (Or.inr rfl) rfl rfl dX5_bestAgainst_49 ?_
      refine ca_iload_n hX (q := 52) 3 rfl rfl rfl dX5_bestAgainst_51 ?_
      refine ca_bipush hX (q := 54) k_bipush_m9 rfl dX5_bestAgainst_52 ?_
      refine ca_icmp_eq hX (q := 57) 64 rfl rfl dX5_bestAgainst_54 (fun c54 => ?_) (fun c54 => ?_)
      · refine ca_iload hX (q := 66) rfl rfl dX5_bestAgainst_64 ?_
        refine ca_istore hX (q := 68) (ls' := [_, _, _, _, _, _, _]) (Nat.le_of_ble_eq_true rfl) (Nat.le_of_ble_eq_true rfl) (Or.inr rfl) rfl rfl dX5_bestAgainst_66 ?_
        refine ca_iload hX (q := 70) rfl rfl dX5_bestAgainst_68 ?_
        refine ca_istore_n hX (q := 71) 3 rfl (ls' := [_, _, _, _, _, _, _]) (Nat.le_of_ble_eq_true rfl) (Nat.le_of_ble_eq_true rfl) (Or.inr rfl) rfl rfl dX5_bestAgainst_70 ?_
        refine ca_iinc hX (q := 74) (ls' := [_, _, _, _, _, _, _]) k_iconst_1 rfl (Nat.le_of_ble_eq_true rfl) (Or.inr rfl) rfl rfl dX5_bestAgainst_71 ?_
        refine ca_goto hX 20 rfl dX5_bestAgainst_74 ?_
        have e1 : bcF (vMx (M 0) P r1 r2) (i + 1) = (nI i, (vMx (M 0) P r1 r2) i) := by rw [bcF, if_pos c54]
        rw [nI_1]
        exact ca_drop hX (ca_le_s rfl (ca_le_s rfl (ca_le_s rfl (ca_le_s (by rw [e1]) (ca_le_s (by rw [e1]) (ca_le_s rfl (ca_le_n ca_le_0))))))) (ih (i + 1) _ B (by omega) hx hlo hfr)
      · refine ca_iload hX (q := 59) rfl rfl dX5_bestAgainst_57 ?_
        refine ca_iload hX (q := 61) rfl rfl dX5_bestAgainst_59 ?_
        refine ca_icmp_ge hX (q := 64) 71 rfl rfl dX5_bestAgainst_61 (fun c61 => ?_) (fun c61 => ?_)
        · refine ca_iinc hX (q := 74) (ls' := [_, _, _, _, _, _, _]) k_iconst_1 rfl (Nat.le_of_ble_eq_true rfl) (Or.inr rfl) rfl rfl dX5_bestAgainst_71 ?_
          refine ca_goto hX 20 rfl dX5_bestAgainst_74 ?_
          have e1 : bcF (vMx (M 0) P r1 r2) (i + 1) = bcF (vMx (M 0) P r1 r2) i := by rw [bcF, if_neg c54, if_pos c61]
          rw [nI_1]
          exact ca_drop hX (ca_le_s rfl (ca_le_s rfl (ca_le_s rfl (ca_le_s (by rw [e1]) (ca_le_s (by rw [e1]) (ca_le_s rfl (ca_le_n ca_le_0))))))) (ih (i + 1) _ B (by omega) hx hlo hfr)
        · refine ca_iload hX (q := 66) rfl rfl dX5_bestAgainst_64 ?_
          refine ca_istore hX (q := 68) (ls' := [_, _, _, _, _, _, _]) (Nat.le_of_ble_eq_true rfl) (Nat.le_of_ble_eq_true rfl) (Or.inr rfl) rfl rfl dX5_bestAgainst_66 ?_
          refine ca_iload hX (q := 70) rfl rfl dX5_bestAgainst_68 ?_
          refine ca_istore_n hX (q := 71) 3 rfl (ls' := [_, _, _, _, _, _, _]) (Nat.le_of_ble_eq_true rfl) (Nat.le_of_ble_eq_true rfl) (Or.inr rfl) rfl rfl dX5_bestAgainst_70 ?_
          refine ca_iinc hX (q := 74) (ls' := [_, _, _, _, _, _, _]) k_iconst_1 rfl (Nat.le_of_ble_eq_true rfl) (Or.inr rfl) rfl rfl dX5_bestAgainst_71 ?_
          refine ca_goto hX 20 rfl dX5_bestAgainst_74 ?_
          have e1 : bcF (vMx (M 0) P r1 r2) (i + 1) = (nI i, (vMx (M 0) P r1 r2) i) := by rw [bcF, if_neg c54, if_neg c61]
          rw [nI_1]
          exact ca_drop hX (ca_le_s rfl (ca_le_s rfl (ca_le_s rfl (ca_le_s (by rw [e1]) (ca_le_s (by rw [e1]) (ca_le_s rfl (ca_le_n ca_le_0))))))) (ih (i + 1) _ B (by omega) hx hlo hfr)
  refine ca_bipush hX (q := 13) k_bipush_m9 rfl dX5_bestAgainst_11 ?_
  refine ca_istore_n hX (q := 14) 3 rfl (ls' := [_, _, _, _, _, _, _]) (Nat.le_of_ble_eq_true rfl) (Nat.le_of_ble_eq_true rfl) (Or.inr rfl) rfl rfl dX5_bestAgainst_13 ?_
  refine ca_iconst hX (q := 15) k_iconst_0 rfl dX5_bestAgainst_14 ?_
  refine ca_istore hX (q := 17) (ls' := [_, _, _, _, _, _, _]) (Nat.le_of_ble_eq_true rfl) (Nat.le_of_ble_eq_true rfl) (Or.inr rfl) rfl rfl dX5_bestAgainst_15 ?_
  refine ca_iconst hX (q := 18) k_iconst_0 rfl dX5_bestAgainst_17 ?_
  refine ca_istore hX (q := 20) (ls' := [_, _, _, _, _, _, _]) (Nat.le_of_ble_eq_true rfl) (Nat.le_of_ble_eq_true rfl) (Or.inr rfl) rfl rfl dX5_bestAgainst_18 ?_
  exact ca_drop hX (ca_le_s rfl (ca_le_s rfl (ca_le_s rfl (ca_le_s rfl (ca_le_s rfl (ca_le_s rfl (ca_le_n ca_le_0))))))) (loop P 0 _ B (by omega) hx hlo hfr)

theorem vM_s (h : Nat → Int32) (P r : Nat) : vMx h P r r = fun p => wA h P r p := by funext p; exact mxB_s _
theorem mn_9 (v : Nat → Int32) (n : Nat) (hn : n ≤ 5) : (mnF (-9, 1000000000) v n).1 < 0 ↔ (mnF (-9, 1000000000) v n).1 = -9 := by
  rcases mn_cases (-9, 1000000000) v n with z | ⟨p, a, b⟩
  · rw [z]; exact ⟨fun _ => rfl, fun _ => by decide⟩
  · rw [b]; exact ⟨fun z => absurd z (nI_nn (by omega)), fun z => absurd z (nI_m9 p (by omega))⟩
theorem keM.b2 {M M1 M2 : Nat → Nat → Int32} (h : keM M M1) (e : ∀ j, j ≠ 7 → j ≠ 8 → j ≠ 9 → j ≠ 10 → M2 j = M1 j) : keM M M2 := by
  obtain ⟨a0, a1, a2, a3, a4, a5, a6, a7, a8⟩ := h
  have e13 := e 13 (by omega) (by omega) (by omega) (by omega)
  exact ⟨(e 0 (by omega) (by omega) (by omega) (by omega)).trans a0, (e 2 (by omega) (by omega) (by omega) (by omega)).trans a1, (e 4 (by omega) (by omega) (by omega) (by omega)).trans a2, (e 5 (by omega) (by omega) (by omega) (by omega)).trans a3, (e 6 (by omega) (by omega) (by omega) (by omega)).trans a4, by rw [e13]; exact a5, by rw [e13]; exact a6, by rw [e13]; exact a7, by rw [e13]; exact a8⟩
theorem keM.up {M M1 : Nat → Nat → Int32} (h : keM M M1) {k : Nat} (x : Int32) (hk : 3 ≤ k) (h4 : k = 4 → x = 0) : keM M (upB M1 13 k x) := by
  obtain ⟨a0, a1, a2, a3, a4, a5, a6, a7, a8⟩ := h
  unfold keM
  rw [upB_s, upB_n _ _ _ (j := 0) (by omega), upB_n _ _ _ (j := 2) (by omega), upB_n _ _ _ (j := 4) (by omega), upB_n _ _ _ (j := 5) (by omega), upB_n _ _ _ (j := 6) (by omega), upd_n _ _ (by omega), upd_n _ _ (by omega), upd_n _ _ (by omega)]
  refine ⟨a0, a1, a2, a3, a4, a5, a6, a7, ?_⟩
  by_cases z : k = 4
  · rw [z, upd_s, h4 z]
  · rw [upd_n _ _ (by omega)]; exact a8
theorem keM.ar {M M1 : Nat → Nat → Int32} (h : keM M M1) {i : Nat} (k : Nat) (x : Int32) (hi : i = 1 ∨ i = 3 ∨ i = 11 ∨ i = 12) : keM M (upB M1 i k x) := by
  obtain ⟨a0, a1, a2, a3, a4, a5, a6, a7, a8⟩ := h
  unfold keM
  rw [upB_n _ _ _ (j := 0) (by omega), upB_n _ _ _ (j := 2) (by omega), upB_n _ _ _ (j := 4) (by omega), upB_n _ _ _ (j := 5) (by omega), upB_n _ _ _ (j := 6) (by omega), upB_n _ _ _ (j := 13) (by omega)]
  exact ⟨a0, a1, a2, a3, a4, a5, a6, a7, a8⟩

set_option maxRecDepth 100000 in
set_option maxHeartbeats 4000000 in
theorem k_bestSpeaker (l : Launch) (N : Nat) (g0 : ca_G) (M : Nat → Nat → Int32) (t : Nat → Int32) (B : Nat → Nat → Int32) (hx : clX g0 M t B) (hN31 : 31 ≤ N) (P : Nat) (w : wfH (M 0) P) (x1 : Int32) : ca_Ct l yX5_bestSpeaker cX5_bestSpeaker 2 (some .int) 6 0 0 N 1000000 [.ref 0, .int x1] g0 (clP g0 (bsA M P x1)) := by
  refine ca_intro (by decide) (Nat.le_of_ble_eq_true rfl) (fun X hX hN => ?_)
  show X 0 [_, _] [] N 1000000 g0
  obtain ⟨g, hgg⟩ : ∃ g, g = g0 := ⟨g0, rfl⟩
  rw [← hgg] at hx ⊢
  have hfr : frG g0 g 0 31 := by rw [hgg]; exact frG.rf
  obtain ⟨hc, hh, hkp, htr, hz, htl, hlt, hrw, h30⟩ := id hx
  have h0 := hh.1
  have k0 := hkp.1
  have t0 := htr.1
  have d0 := hz.1
  have l0 := hlt.1
  have w0 := hrw.1
  have hP := w.1
  have hP5 := w.2.1
  have hok := wf_ok w
  refine ca_iload_n hX (q := 1) 1 rfl rfl rfl dX5_bestSpeaker_0 ?_
  refine ca_cSi hX (q := 4) y_X5_isRoom w_ml_X5_78 hN (c_X5_isRoom l N g _) (by decide) rfl (Nat.le_of_ble_eq_true rfl) rfl dX5_bestSpeaker_1 rfl ?_
  refine ca_if_ne hX (q := 7) 13 rfl rfl dX5_bestSpeaker_4 (fun c4 => ?_) (fun c4 => ?_)
  · obtain ⟨r1, hr1, rfl⟩ := rm_ok c4
    have er1 := nI_clamp (n := r1) (by omega)
    refine ca_aload_n hX (q := 14) 0 rfl rfl rfl dX5_bestSpeaker_13 ?_
    refine ca_iload_n hX (q := 15) 1 rfl rfl rfl dX5_bestSpeaker_14 ?_
    refine ca_iload_n hX (q := 16) 1 rfl rfl rfl dX5_bestSpeaker_15 ?_
    refine ca_cV hX (q := 19) y_X5_bestAgainst w_ml_X5_165 (by omega) hN hc (k_bestAgainst l N g M t B hx hN31 P w r1 r1 hr1 hr1) (by decide) rfl (Nat.le_of_ble_eq_true rfl) rfl dX5_bestSpeaker_16 rfl ?_
    rintro _ g ⟨rfl, hf, B, hx, hlo⟩
    have hfr := hfr.tr hf
    obtain ⟨hc, hh, hkp, htr, hz, htl, hlt, hrw, h30⟩ := id hx
    have h0 := hh.1
    have k0 := hkp.1
    have t0 := htr.1
    have d0 := hz.1
    have l0 := hlt.1
    have w0 := hrw.1
    refine ca_iret hX rfl rfl rfl rfl dX5_bestSpeaker_19 ?_
    exact cl_end (by simp [bsA, noA, nk1, nk2, nk3, nk4, nk6, c4, er1, vM_s]) hfr hx
  · refine ca_aload_n hX (q := 8) 0 rfl rfl rfl dX5_bestSpeaker_7 ?_
    refine ca_iconst hX (q := 9) k_iconst_m1 rfl dX5_bestSpeaker_8 ?_
    refine ca_cV hX (q := 12) y_X5_refuse w_ml_X5_53 (by omega) hN hc (c_X5_refuse l N g _ hc hN31 (M 6) h30 (-1) 1 (by decide) (by omega) (by omega)) (by decide) rfl (Nat.le_of_ble_eq_true rfl) rfl dX5_bestSpeaker_9 rfl ?_
    rintro _ g ⟨rfl, h30, hf⟩
    have hx := hx.rf hf h30
    have hfr := hfr.tr (hf.wd (by omega) (by omega))
    refine ca_iret hX rfl rfl rfl rfl dX5_bestSpeaker_12 ?_
    exact cl_end (by simp [bsA, noA, nk1, nk2, nk3, nk4, nk6, c4, vM_s]) hfr hx

set_option maxRecDepth 100000 in
set_option maxHeartbeats 4000000 in
theorem k_captain (l : Launch) (N : Nat) (g0 : ca_G) (M : Nat → Nat → Int32) (t : Nat → Int32) (B : Nat → Nat → Int32) (hx : clX g0 M t B) (hN31 : 31 ≤ N) (P : Nat) (w : wfH (M 0) P) (x1 x2 x3 : Int32) : ca_Ct l yX5_captain cX5_captain 5 (some .int) 6 0 0 N 1000000 [.ref 0, .int x1, .int x2, .int x3] g0 (clP g0 (cpA M P x1 x2 x3)) := by
  refine ca_intro (by decide) (Nat.le_of_ble_eq_true rfl) (fun X hX hN => ?_)
  show X 0 [_, _, _, _, none] [] N 1000000 g0
  obtain ⟨g, hgg⟩ : ∃ g, g = g0 := ⟨g0, rfl⟩
  rw [← hgg] at hx ⊢
  have hfr : frG g0 g 0 31 := by rw [hgg]; exact frG.rf
  obtain ⟨hc, hh, hkp, htr, hz, htl, hlt, hrw, h30⟩ := id hx
  have h0 := hh.1
  have k0 := hkp.1
  have t0 := htr.1
  have d0 := hz.1
  have l0 := hlt.1
  have w0 := hrw.1
  have hP := w.1
  have hP5 := w.2.1
  have hok := wf_ok w
  refine ca_iload_n hX (q := 1) 1 rfl rfl rfl dX5_captain_0 ?_
  refine ca_cSi hX (q := 4) y_X5_isRoom w_ml_X5_78 hN (c_X5_isRoom l N g _) (by decide) rfl (Nat.le_of_ble_eq_true rfl) rfl dX5_captain_1 rfl ?_
  refine ca_if_eq hX (q := 7) 19 rfl rfl dX5_captain_4 (fun c4 => ?_) (fun c4 => ?_)
  · refine ca_aload_n hX (q := 20) 0 rfl rfl rfl dX5_captain_19 ?_
    refine ca_iconst hX (q := 21) k_iconst_m1 rfl dX5_captain_20 ?_
    refine ca_cV hX (q := 24) y_X5_refuse w_ml_X5_53 (by omega) hN hc (c_X5_refuse l N g _ hc hN31 (M 6) h30 (-1) 1 (by decide) (by omega) (by omega)) (by decide) rfl (Nat.le_of_ble_eq_true rfl) rfl dX5_captain_21 rfl ?_
    rintro _ g ⟨rfl, h30, hf⟩
    have hx := hx.rf hf h30
    have hfr := hfr.tr (hf.wd (by omega) (by omega))
    refine ca_iret hX rfl rfl rfl rfl dX5_captain_24 ?_
    exact cl_end (by simp [cpA, b01, noA, nk1, nk2, c4]) hfr hx
  · obtain ⟨r1, hr1, rfl⟩ := rm_ok c4
    have er1 := nI_clamp (n := r1) (by omega)
    refine ca_iload_n hX (q := 8) 2 rfl rfl rfl dX5_captain_7 ?_
    refine ca_cSi hX (q := 11) y_X5_isRoom w_ml_X5_78 hN (c_X5_isRoom l N g _) (by decide) rfl (Nat.le_of_ble_eq_true rfl) rfl dX5_captain_8 rfl ?_
    refine ca_if_eq hX (q := 14) 19 rfl rfl dX5_captain_11 (fun c11 => ?_) (fun c11 => ?_)
    · refine ca_aload_n hX (q := 20) 0 rfl rfl rfl dX5_captain_19 ?_
      refine ca_iconst hX (q := 21) k_iconst_m1 rfl dX5_captain_20 ?_
      refine ca_cV hX (q := 24) y_X5_refuse w_ml_X5_53 (by omega) hN hc (c_X5_refuse l N g _ hc hN31 (M 6) h30 (-1) 1 (by decide) (by omega) (by omega)) (by decide) rfl (Nat.le_of_ble_eq_true rfl) rfl dX5_captain_21 rfl ?_
      rintro _ g ⟨rfl, h30, hf⟩
      have hx := hx.rf hf h30
      have hfr := hfr.tr (hf.wd (by omega) (by omega))
      refine ca_iret hX rfl rfl rfl rfl dX5_captain_24 ?_
      exact cl_end (by simp [cpA, b01, noA, nk1, nk2, c4, er1, c11]) hfr hx
    · obtain ⟨r2, hr2, rfl⟩ := rm_ok c11
      have er2 := nI_clamp (n := r2) (by omega)
      refine ca_iload_n hX (q := 15) 1 rfl rfl rfl dX5_captain_14 ?_
      refine ca_iload_n hX (q := 16) 2 rfl rfl rfl dX5_captain_15 ?_
      refine ca_icmp_ne hX (q := 19) 25 rfl rfl dX5_captain_16 (fun c16 => ?_) (fun c16 => ?_)
      · refine ca_iload_n hX (q := 26) 3 rfl rfl rfl dX5_captain_25 ?_
        refine ca_if_eq hX (q := 29) 41 rfl rfl dX5_captain_26 (fun c26 => ?_) (fun c26 => ?_)
        · refine ca_aload_n hX (q := 42) 0 rfl rfl rfl dX5_captain_41 ?_
          refine ca_iload_n hX (q := 43) 1 rfl rfl rfl dX5_captain_42 ?_
          refine ca_iload_n hX (q := 44) 2 rfl rfl rfl dX5_captain_43 ?_
          refine ca_cV hX (q := 47) y_X5_bestAgainst w_ml_X5_165 (by omega) hN hc (k_bestAgainst l N g M t B hx hN31 P w r1 r2 hr1 hr2) (by decide) rfl (Nat.le_of_ble_eq_true rfl) rfl dX5_captain_44 rfl ?_
          rintro _ g ⟨rfl, hf, B, hx, hlo⟩
          have hfr := hfr.tr hf
          obtain ⟨hc, hh, hkp, htr, hz, htl, hlt, hrw, h30⟩ := id hx
          have h0 := hh.1
          have k0 := hkp.1
          have t0 := htr.1
          have d0 := hz.1
          have l0 := hlt.1
          have w0 := hrw.1
          refine ca_istore hX (q := 49) (ls' := [_, _, _, _, _]) (Nat.le_of_ble_eq_true rfl) (Nat.le_of_ble_eq_true rfl) (Or.inr rfl) rfl rfl dX5_captain_47 ?_
          refine ca_iload_n hX (q := 50) 3 rfl rfl rfl dX5_captain_49 ?_
          refine ca_if_eq hX (q := 53) 60 rfl rfl dX5_captain_50 (fun c50 => ?_) (fun c50 => ?_)
          · refine ca_iload hX (q := 62) rfl rfl dX5_captain_60 ?_
            refine ca_iret hX rfl rfl rfl rfl dX5_captain_62 ?_
            exact cl_end (by simp [cpA, b01, noA, nk1, nk2, c4, er1, c11, er2, c16, c26, c50]) hfr hx
          · exact absurd c26 c50
        · refine ca_iload_n hX (q := 30) 3 rfl rfl rfl dX5_captain_29 ?_
          refine ca_iconst hX (q := 31) k_iconst_1 rfl dX5_captain_30 ?_
          refine ca_icmp_eq hX (q := 34) 41 rfl rfl dX5_captain_31 (fun c31 => ?_) (fun c31 => ?_)
          · refine ca_aload_n hX (q := 42) 0 rfl rfl rfl dX5_captain_41 ?_
            refine ca_iload_n hX (q := 43) 1 rfl rfl rfl dX5_captain_42 ?_
            refine ca_iload_n hX (q := 44) 2 rfl rfl rfl dX5_captain_43 ?_
            refine ca_cV hX (q := 47) y_X5_bestAgainst w_ml_X5_165 (by omega) hN hc (k_bestAgainst l N g M t B hx hN31 P w r1 r2 hr1 hr2) (by decide) rfl (Nat.le_of_ble_eq_true rfl) rfl dX5_captain_44 rfl ?_
            rintro _ g ⟨rfl, hf, B, hx, hlo⟩
            have hfr := hfr.tr hf
            obtain ⟨hc, hh, hkp, htr, hz, htl, hlt, hrw, h30⟩ := id hx
            have h0 := hh.1
            have k0 := hkp.1
            have t0 := htr.1
            have d0 := hz.1
            have l0 := hlt.1
            have w0 := hrw.1
            refine ca_istore hX (q := 49) (ls' := [_, _, _, _, _]) (Nat.le_of_ble_eq_true rfl) (Nat.le_of_ble_eq_true rfl) (Or.inr rfl) rfl rfl dX5_captain_47 ?_
            refine ca_iload_n hX (q := 50) 3 rfl rfl rfl dX5_captain_49 ?_
            refine ca_if_eq hX (q := 53) 60 rfl rfl dX5_captain_50 (fun c50 => ?_) (fun c50 => ?_)
            · exact absurd c50 c26
            · refine ca_iload hX (q := 55) rfl rfl dX5_captain_53 ?_
              refine ca_bipush hX (q := 57) k_bipush_m9 rfl dX5_captain_55 ?_
              refine ca_icmp_ne hX (q := 60) 63 rfl rfl dX5_captain_57 (fun c57 => ?_) (fun c57 => ?_)
              · obtain ⟨p, hp, ep⟩ : ∃ p, p < P ∧ mnF (-9, 1000000000) (vMx (M 0) P r1 r2) P = (nI p, (vMx (M 0) P r1 r2) p) := (mn_cases _ _ P).resolve_left (fun z => c57 (by rw [z]))
                have hm9 := nI_m9 p (by omega)
                rw [ep]
                refine ca_aload_n hX (q := 64) 0 rfl rfl rfl dX5_captain_63 ?_
                refine ca_iload_n hX (q := 65) 1 rfl rfl rfl dX5_captain_64 ?_
                refine ca_iload hX (q := 67) rfl rfl dX5_captain_65 ?_
                refine ca_cV hX (q := 70) y_X5_worthBy w_ml_X5_168 (by omega) hN hc (c_X5_worthBy l N g _ hc hN31 B hz (M 0) P hlo hP5 hok r1 hr1 p (by omega)) (by decide) rfl (Nat.le_of_ble_eq_true rfl) rfl dX5_captain_67 rfl ?_
                rintro _ g ⟨rfl, hf, B, hz, hlo, hsp, hfd⟩
                have hx := hx.bz hf hz
                have hfr := hfr.tr (hf.wd (by omega) (by omega))
                obtain ⟨hc, hh, hkp, htr, hz, htl, hlt, hrw, h30⟩ := id hx
                have h0 := hh.1
                have k0 := hkp.1
                have t0 := htr.1
                have d0 := hz.1
                have l0 := hlt.1
                have w0 := hrw.1
                refine ca_aload_n hX (q := 71) 0 rfl rfl rfl dX5_captain_70 ?_
                refine ca_iload_n hX (q := 72) 2 rfl rfl rfl dX5_captain_71 ?_
                refine ca_iload hX (q := 74) rfl rfl dX5_captain_72 ?_
                refine ca_cV hX (q := 77) y_X5_worthBy w_ml_X5_168 (by omega) hN hc (c_X5_worthBy l N g _ hc hN31 B hz (M 0) P hlo hP5 hok r2 hr2 p (by omega)) (by decide) rfl (Nat.le_of_ble_eq_true rfl) rfl dX5_captain_74 rfl ?_
                rintro _ g ⟨rfl, hf, B, hz, hlo, hsp, hfd⟩
                have hx := hx.bz hf hz
                have hfr := hfr.tr (hf.wd (by omega) (by omega))
                obtain ⟨hc, hh, hkp, htr, hz, htl, hlt, hrw, h30⟩ := id hx
                have h0 := hh.1
                have k0 := hkp.1
                have t0 := htr.1
                have d0 := hz.1
                have l0 := hlt.1
                have w0 := hrw.1
                refine ca_mmax hX (q := 80) w_ml_X5_180 w_mxs w_mxi w_mxc (by decide) (Nat.le_of_ble_eq_true rfl) rfl dX5_captain_77 ?_
                refine ca_iret hX rfl rfl rfl rfl dX5_captain_80 ?_
                rw [mx_eq, show mxB (wS (M 0) r1 (alT p P).1 (alT p P).2 0) (wS (M 0) r2 (alT p P).1 (alT p P).2 0) = (vMx (M 0) P r1 r2) p from rfl]
                exact cl_end (by simp [cpA, b01, c4, er1, c11, er2, c16, c26, c31, c50, c57, ep, hm9]) hfr hx
              · refine ca_iload hX (q := 62) rfl rfl dX5_captain_60 ?_
                refine ca_iret hX rfl rfl rfl rfl dX5_captain_62 ?_
                exact cl_end (by simp [cpA, b01, noA, nk1, nk2, c4, er1, c11, er2, c16, c26, c31, c50, c57]) hfr hx
          · refine ca_aload_n hX (q := 35) 0 rfl rfl rfl dX5_captain_34 ?_
            refine ca_bipush hX (q := 37) k_bipush_m2 rfl dX5_captain_35 ?_
            refine ca_cV hX (q := 40) y_X5_refuse w_ml_X5_53 (by omega) hN hc (c_X5_refuse l N g _ hc hN31 (M 6) h30 (-2) 2 (by decide) (by omega) (by omega)) (by decide) rfl (Nat.le_of_ble_eq_true rfl) rfl dX5_captain_37 rfl ?_
            rintro _ g ⟨rfl, h30, hf⟩
            have hx := hx.rf hf h30
            have hfr := hfr.tr (hf.wd (by omega) (by omega))
            refine ca_iret hX rfl rfl rfl rfl dX5_captain_40 ?_
            exact cl_end (by simp [cpA, b01, noA, nk1, nk2, c4, er1, c11, er2, c16, c26, c31]) hfr hx
      · refine ca_aload_n hX (q := 20) 0 rfl rfl rfl dX5_captain_19 ?_
        refine ca_iconst hX (q := 21) k_iconst_m1 rfl dX5_captain_20 ?_
        refine ca_cV hX (q := 24) y_X5_refuse w_ml_X5_53 (by omega) hN hc (c_X5_refuse l N g _ hc hN31 (M 6) h30 (-1) 1 (by decide) (by omega) (by omega)) (by decide) rfl (Nat.le_of_ble_eq_true rfl) rfl dX5_captain_21 rfl ?_
        rintro _ g ⟨rfl, h30, hf⟩
        have hx := hx.rf hf h30
        have hfr := hfr.tr (hf.wd (by omega) (by omega))
        refine ca_iret hX rfl rfl rfl rfl dX5_captain_24 ?_
        exact cl_end (by simp [cpA, b01, noA, nk1, nk2, c4, er1, c11, er2, c16]) hfr hx

set_option maxRecDepth 100000 in
set_option maxHeartbeats 4000000 in
theorem c_R_is01 (l : Launch) (N : Nat) (g : ca_G) (w : Int32) : ca_Ct l yX6_isIn cX6_isIn 3 (some .boolean) 0 0 0 N 1000000 [.int w, .int 0, .int 1] g (ca_pi (b01 w) g) := by
  refine ca_intro (by decide) (Nat.le_of_ble_eq_true rfl) (fun X hX hN => ?_)
  show X 0 [_, _, _] [] N 1000000 g
  refine ca_iload_n hX (q := 1) 0 rfl rfl rfl dX6_isIn_0 ?_
  refine ca_iload_n hX (q := 2) 1 rfl rfl rfl dX6_isIn_1 ?_
  refine ca_icmp_lt hX (q := 5) 14 rfl rfl dX6_isIn_2 (fun c2 => ?_) (fun c2 => ?_)
  · refine ca_iconst hX (q := 15) k_iconst_0 rfl dX6_isIn_14 ?_
    refine ca_zret hX rfl rfl rfl rfl rfl dX6_isIn_15 ?_
    refine ⟨?_, rfl⟩; rw [← in_01]; simp [inB, *]
  · refine ca_iload_n hX (q := 6) 0 rfl rfl rfl dX6_isIn_5 ?_
    refine ca_iload_n hX (q := 7) 2 rfl rfl rfl dX6_isIn_6 ?_
    refine ca_icmp_gt hX (q := 10) 14 rfl rfl dX6_isIn_7 (fun c7 => ?_) (fun c7 => ?_)
    · refine ca_iconst hX (q := 15) k_iconst_0 rfl dX6_isIn_14 ?_
      refine ca_zret hX rfl rfl rfl rfl rfl dX6_isIn_15 ?_
      refine ⟨?_, rfl⟩; rw [← in_01]; simp [inB, *]
    · refine ca_iconst hX (q := 11) k_iconst_1 rfl dX6_isIn_10 ?_
      refine ca_goto hX 15 rfl dX6_isIn_11 ?_
      refine ca_zret hX rfl rfl rfl rfl rfl dX6_isIn_15 ?_
      refine ⟨?_, rfl⟩; rw [← in_01]; simp [inB, *]

set_option maxRecDepth 100000 in
set_option maxHeartbeats 4000000 in
theorem c_R_isFire (l : Launch) (N : Nat) (g : ca_G) (o : Nat) (M : Nat → Nat → Int32) (hm : mdG g o M) (ho : o + 14 ≤ N) (P : Nat) (hP : M 0 0 = nI P) (hP5 : P ≤ 5) (x y : Int32) : ca_Ct l yX6_isFire cX6_isFire 3 (some .boolean) 3 0 0 N 1000000 [.ref o, .int x, .int y] g (ca_pi (fkB (M 0 0) x y) g) := by
  refine ca_intro (by decide) (Nat.le_of_ble_eq_true rfl) (fun X hX hN => ?_)
  show X 0 [_, _, _] [] N 1000000 g
  obtain ⟨c0, c1, c2, c3, c4, c5, c6, c7, c8, c9, c10, c11, c12, c13⟩ := id hm
  refine ca_iload_n hX (q := 1) 1 rfl rfl rfl dX6_isFire_0 ?_
  refine ca_cSi hX (q := 4) y_X6_isRoom w_ml_X6_138 hN (c_R_isRoom l N g _) (by decide) rfl (Nat.le_of_ble_eq_true rfl) rfl dX6_isFire_1 rfl ?_
  refine ca_if_eq hX (q := 7) 19 rfl rfl dX6_isFire_4 (fun b4 => ?_) (fun b4 => ?_)
  · refine ca_iconst hX (q := 20) k_iconst_0 rfl dX6_isFire_19 ?_
    refine ca_zret hX rfl rfl rfl rfl rfl dX6_isFire_20 ?_
    refine ⟨?_, rfl⟩; simp [fkB, b4]
  · refine ca_aload_n hX (q := 8) 0 rfl rfl rfl dX6_isFire_7 ?_
    refine ca_iload_n hX (q := 9) 2 rfl rfl rfl dX6_isFire_8 ?_
    refine ca_cVi hX (q := 12) y_X6_isSpeaker w_ml_X6_158 (by omega) hN c0 (c_R_isSpeaker l N g o M hm ho P hP hP5 _) (by decide) rfl (Nat.le_of_ble_eq_true rfl) rfl dX6_isFire_9 rfl ?_
    refine ca_if_eq hX (q := 15) 19 rfl rfl dX6_isFire_12 (fun b12 => ?_) (fun b12 => ?_)
    · refine ca_iconst hX (q := 20) k_iconst_0 rfl dX6_isFire_19 ?_
      refine ca_zret hX rfl rfl rfl rfl rfl dX6_isFire_20 ?_
      refine ⟨?_, rfl⟩; simp [fkB, b4, b12]
    · refine ca_iconst hX (q := 16) k_iconst_1 rfl dX6_isFire_15 ?_
      refine ca_goto hX 20 rfl dX6_isFire_16 ?_
      refine ca_zret hX rfl rfl rfl rfl rfl dX6_isFire_20 ?_
      refine ⟨?_, rfl⟩; simp [fkB, b4, b12]

theorem z020 : ¬ inB 0 0 2 = 0 := by decide
theorem z021 : ¬ inB 1 0 2 = 0 := by decide
theorem z010 : ¬ b01 0 = 0 := by decide
theorem z011 : ¬ b01 1 = 0 := by decide
theorem in_02 {w : Int32} (h : ¬ inB w 0 2 = 0) (h2 : w < 2) (h0 : ¬ w = 0) : w = 1 := by
  unfold inB at h
  by_cases c : w < 0
  · rw [if_pos c] at h; exact absurd rfl h
  · have c := Int32.not_lt.mp c
    rw [Int32.le_iff_toInt_le, show (0 : Int32).toInt = 0 from rfl] at c
    rw [Int32.lt_iff_toInt_lt, show (2 : Int32).toInt = 2 from rfl] at h2
    have : w.toInt ≠ 0 := fun z => h0 (Int32.toInt_inj.mp z)
    exact Int32.toInt_inj.mp (by rw [show (1 : Int32).toInt = 1 from rfl]; omega)

set_option maxRecDepth 100000 in
set_option maxHeartbeats 4000000 in
theorem m_fire (l : Launch) (N : Nat) (g0 : ca_G) (o : Nat) (M : Nat → Nat → Int32) (hm : mdG g0 o M) (ho : o + 14 ≤ N) (hs4 : M 13 4 = 0) (P : Nat) (w : wfH (M 0) P) (x1 x2 x3 : Int32) : ca_Ct l yX6_fire cX6_fire 6 (some .int) 5 0 0 N 1000000 [.ref o, .int x1, .int x2, .int x3] g0 (reP o g0 (fiA M P x1 x2 x3)) := by
  refine ca_intro (by decide) (Nat.le_of_ble_eq_true rfl) (fun X hX hN => ?_)
  show X 0 [_, _, _, _, none, none] [] N 1000000 g0
  obtain ⟨g, hgg⟩ : ∃ g, g = g0 := ⟨g0, rfl⟩
  rw [← hgg] at hm ⊢
  have hfr : frG g0 g o (o + 14) := by rw [hgg]; exact frG.rf
  have hke := keM.rf hs4
  obtain ⟨c0, c1, c2, c3, c4, c5, c6, c7, c8, c9, c10, c11, c12, c13⟩ := id hm
  have hP := w.1
  have hP5 := w.2.1
  have hok := wf_ok w
  refine ca_aload_n hX (q := 1) 0 rfl rfl rfl dX6_fire_0 ?_
  refine ca_iload_n hX (q := 2) 1 rfl rfl rfl dX6_fire_1 ?_
  refine ca_iload_n hX (q := 3) 2 rfl rfl rfl dX6_fire_2 ?_
  refine ca_cVi hX (q := 6) y_X6_isFire w_ml_X6_161 (by omega) hN c0 (c_R_isFire l N g o M hm ho P hP hP5 _ _) (by decide) rfl (Nat.le_of_ble_eq_true rfl) rfl dX6_fire_3 rfl ?_
  refine ca_if_ne hX (q := 9) 15 rfl rfl dX6_fire_6 (fun b6 => ?_) (fun b6 => ?_)
  · obtain ⟨⟨r1, hr1, rfl⟩, a2, ha2, rfl⟩ := fk_ok hP hP5 b6
    have er1 := nI_clamp (n := r1) (by omega)
    have ea2 := nI_clamp (n := a2) (by omega)
    refine ca_iload_n hX (q := 16) 3 rfl rfl rfl dX6_fire_15 ?_
    refine ca_iconst hX (q := 17) k_iconst_0 rfl dX6_fire_16 ?_
    refine ca_iconst hX (q := 18) k_iconst_2 rfl dX6_fire_17 ?_
    refine ca_cSi hX (q := 21) y_X6_isIn w_ml_X6_55 hN (c_X6_isIn l N g _ 0 2) (by decide) rfl (Nat.le_of_ble_eq_true rfl) rfl dX6_fire_18 rfl ?_
    refine ca_if_ne hX (q := 24) 31 rfl rfl dX6_fire_21 (fun b21 => ?_) (fun b21 => ?_)
    · refine ca_aload_n hX (q := 32) 0 rfl rfl rfl dX6_fire_31 ?_
      refine ca_iload_n hX (q := 33) 1 rfl rfl rfl dX6_fire_32 ?_
      refine ca_iload_n hX (q := 34) 2 rfl rfl rfl dX6_fire_33 ?_
      refine ca_cV hX (q := 37) y_X6_burnsBy w_ml_X6_164 (by omega) hN c0 (c_X6_burnsBy l N g o M hm ho P hP hP5 hok r1 hr1 a2 ha2) (by decide) rfl (Nat.le_of_ble_eq_true rfl) rfl dX6_fire_34 rfl ?_
      rintro _ g ⟨rfl, hf, M1, hm, hrf, e4, ej, e13⟩
      have hke := hke.tr (ke_bu e4 ej e13)
      have hfr := hfr.tr hf
      obtain ⟨c0, c1, c2, c3, c4, c5, c6, c7, c8, c9, c10, c11, c12, c13⟩ := id hm
      rw [hke.1] at c1
      refine ca_iload_n hX (q := 38) 3 rfl rfl rfl dX6_fire_37 ?_
      refine ca_iconst hX (q := 39) k_iconst_2 rfl dX6_fire_38 ?_
      refine ca_icmp_ge hX (q := 42) 62 rfl rfl dX6_fire_39 (fun b39 => ?_) (fun b39 => ?_)
      · have n0 : ¬ x3 = 0 := fun z => by rw [z] at b39; exact absurd b39 (by decide)
        have n1 : ¬ x3 = 1 := fun z => by rw [z] at b39; exact absurd b39 (by decide)
        have hlm : lmM (M1 7) 25 = lmM (buS (M 0) r1 (alT a2 P).1 (alT a2 P).2 0) 25 := lm_congr 25 (fun q hq => (hrf q hq).1)
        have loop : ∀ (n i : Nat), i + n = 25 → X 68 [some (.ref o), some (.int (nI r1)), some (.int (nI a2)), some (.int x3), some (.int (lmM (M1 7) i)), some (.int (nI i))] [] N 1000000 g := by
          intro n
          induction n with
          | zero =>
            intro i  hi 
            have hib : i = 25 := by omega
            rw [hib]
            refine ca_iload hX (q := 70) rfl rfl dX6_fire_68 ?_
            refine ca_bipush hX (q := 72) k_bipush_25 rfl dX6_fire_70 ?_
            refine ca_icmp_ge hX (q := 75) 95 rfl rfl dX6_fire_72 (fun _ => ?_) (fun z => absurd (nI_le (a := 25) (b := 25) (by omega) (by omega)) z)
            refine ca_iload hX (q := 97) rfl rfl dX6_fire_95 ?_
            refine ca_iret hX rfl rfl rfl rfl dX6_fire_97 ?_
            exact re_end2 (by simp [fiA, noA, nk1, nk2, nk3, nk4, nk6, z020, z021, z010, z011, b6, er1, ea2, b21, n0, n1, hlm]) hfr hm hke
          | succ n ih =>
            intro i  hi 
            refine ca_iload hX (q := 70) rfl rfl dX6_fire_68 ?_
            refine ca_bipush hX (q := 72) k_bipush_25 rfl dX6_fire_70 ?_
            refine ca_icmp_ge hX (q := 75) 95 rfl rfl dX6_fire_72 (fun z => absurd z (nI_ge (a := i) (b := 25) (by omega) (by omega))) (fun _ => ?_)
            refine ca_iload hX (q := 77) rfl rfl dX6_fire_75 ?_
            refine ca_aload_n hX (q := 78) 0 rfl rfl rfl dX6_fire_77 ?_
            refine ca_getf hX (q := 81) cl_X6 10 (by decide) w_fl_X6_31 (by omega) c0 rfl rfl dX6_fire_78 ?_
            refine ca_iload hX (q := 83) rfl rfl dX6_fire_81 ?_
            refine ca_iaN hX (q := 84) (k := i) (by omega) c8 (by decide) rfl (by omega) rfl dX6_fire_83 ?_
            refine ca_cSi hX (q := 87) y_X6_most w_ml_X6_72 hN (c_X6_most l N g _ _) (by decide) rfl (Nat.le_of_ble_eq_true rfl) rfl dX6_fire_84 rfl ?_
            refine ca_istore hX (q := 89) (ls' := [_, _, _, _, _, _]) (Nat.le_of_ble_eq_true rfl) (Nat.le_of_ble_eq_true rfl) (Or.inr rfl) rfl rfl dX6_fire_87 ?_
            refine ca_iinc hX (q := 92) (ls' := [_, _, _, _, _, _]) k_iconst_1 rfl (Nat.le_of_ble_eq_true rfl) (Or.inr rfl) rfl rfl dX6_fire_89 ?_
            refine ca_goto hX 68 rfl dX6_fire_92 ?_
            rw [nI_1]
            exact ih (i + 1) (by omega)
        refine ca_iconst hX (q := 63) k_iconst_0 rfl dX6_fire_62 ?_
        refine ca_istore hX (q := 65) (ls' := [_, _, _, _, _, _]) (Nat.le_of_ble_eq_true rfl) (Nat.le_of_ble_eq_true rfl) (Or.inr rfl) rfl rfl dX6_fire_63 ?_
        refine ca_iconst hX (q := 66) k_iconst_0 rfl dX6_fire_65 ?_
        refine ca_istore hX (q := 68) (ls' := [_, _, _, _, _, _]) (Nat.le_of_ble_eq_true rfl) (Nat.le_of_ble_eq_true rfl) (Or.inr rfl) rfl rfl dX6_fire_66 ?_
        exact loop 25 0 (by omega)
      · refine ca_iload_n hX (q := 43) 3 rfl rfl rfl dX6_fire_42 ?_
        refine ca_if_ne hX (q := 46) 53 rfl rfl dX6_fire_43 (fun b43 => ?_) (fun b43 => ?_)
        · have n1 : x3 = 1 := in_02 b21 (Int32.not_le.mp b39) b43
          refine ca_aload_n hX (q := 54) 0 rfl rfl rfl dX6_fire_53 ?_
          refine ca_aload_n hX (q := 55) 0 rfl rfl rfl dX6_fire_54 ?_
          refine ca_getf hX (q := 58) cl_X6 0 (by decide) w_fl_X6_9 (by omega) c0 rfl rfl dX6_fire_55 ?_
          have hw := rf_w hrf
          refine ca_cVi hX (q := 61) y_X6_burntWorth w_ml_X6_114 (by omega) hN c0 (c_X6_burntWorth l N g o M1 hm ho (o + 1) (M 0) c1 (by omega) (by omega)) (by decide) rfl (Nat.le_of_ble_eq_true rfl) rfl dX6_fire_58 rfl ?_
          refine ca_iret hX rfl rfl rfl rfl dX6_fire_61 ?_
          exact re_end2 (by simp [fiA, noA, nk1, nk2, nk3, nk4, nk6, z020, z021, z010, z011, b6, er1, ea2, b21, b39, (Int32.not_le.mp b39), b43, n1, hw]) hfr hm hke
        · refine ca_aload_n hX (q := 47) 0 rfl rfl rfl dX6_fire_46 ?_
          have hw := rf_n hrf
          refine ca_cVi hX (q := 50) y_X6_burntMany w_ml_X6_168 (by omega) hN c0 (c_X6_burntMany l N g o M1 hm ho) (by decide) rfl (Nat.le_of_ble_eq_true rfl) rfl dX6_fire_47 rfl ?_
          refine ca_goto hX 61 rfl dX6_fire_50 ?_
          refine ca_iret hX rfl rfl rfl rfl dX6_fire_61 ?_
          exact re_end2 (by simp [fiA, noA, nk1, nk2, nk3, nk4, nk6, z020, z021, z010, z011, b6, er1, ea2, b21, b39, (Int32.not_le.mp b39), b43, hw]) hfr hm hke
    · refine ca_aload_n hX (q := 25) 0 rfl rfl rfl dX6_fire_24 ?_
      refine ca_bipush hX (q := 27) k_bipush_m2 rfl dX6_fire_25 ?_
      refine ca_cV hX (q := 30) y_X6_no w_ml_X6_51 (by omega) hN c0 (c_X6_no l N g o _ hm ho (-2) 2 (by decide) (by omega)) (by decide) rfl (Nat.le_of_ble_eq_true rfl) rfl dX6_fire_27 rfl ?_
      rintro _ g ⟨rfl, hm, hf⟩
      have hke := keM.no hke 2
      have hfr := hfr.tr hf
      refine ca_iret hX rfl rfl rfl rfl dX6_fire_30 ?_
      exact re_end2 (by simp [fiA, noA, nk1, nk2, nk3, nk4, nk6, z020, z021, z010, z011, b6, er1, ea2, b21]) hfr hm hke
  · refine ca_aload_n hX (q := 10) 0 rfl rfl rfl dX6_fire_9 ?_
    refine ca_iconst hX (q := 11) k_iconst_m1 rfl dX6_fire_10 ?_
    refine ca_cV hX (q := 14) y_X6_no w_ml_X6_51 (by omega) hN c0 (c_X6_no l N g o _ hm ho (-1) 1 (by decide) (by omega)) (by decide) rfl (Nat.le_of_ble_eq_true rfl) rfl dX6_fire_11 rfl ?_
    rintro _ g ⟨rfl, hm, hf⟩
    have hke := keM.no hke 1
    have hfr := hfr.tr hf
    refine ca_iret hX rfl rfl rfl rfl dX6_fire_14 ?_
    exact re_end2 (by simp [fiA, noA, nk1, nk2, nk3, nk4, nk6, z020, z021, z010, z011, b6]) hfr hm hke

set_option maxRecDepth 100000 in
set_option maxHeartbeats 4000000 in
theorem m_burns (l : Launch) (N : Nat) (g0 : ca_G) (o : Nat) (M : Nat → Nat → Int32) (hm : mdG g0 o M) (ho : o + 14 ≤ N) (hs4 : M 13 4 = 0) (P : Nat) (w : wfH (M 0) P) (x1 x2 x3 : Int32) : ca_Ct l yX6_burns_ cX6_burns_ 4 (some .int) 5 0 0 N 1000000 [.ref o, .int x1, .int x2, .int x3] g0 (reP o g0 (buA M P x1 x2 x3)) := by
  refine ca_intro (by decide) (Nat.le_of_ble_eq_true rfl) (fun X hX hN => ?_)
  show X 0 [_, _, _, _] [] N 1000000 g0
  obtain ⟨g, hgg⟩ : ∃ g, g = g0 := ⟨g0, rfl⟩
  rw [← hgg] at hm ⊢
  have hfr : frG g0 g o (o + 14) := by rw [hgg]; exact frG.rf
  have hke := keM.rf hs4
  obtain ⟨c0, c1, c2, c3, c4, c5, c6, c7, c8, c9, c10, c11, c12, c13⟩ := id hm
  have hP := w.1
  have hP5 := w.2.1
  have hok := wf_ok w
  refine ca_aload_n hX (q := 1) 0 rfl rfl rfl dX6_burns__0 ?_
  refine ca_iload_n hX (q := 2) 1 rfl rfl rfl dX6_burns__1 ?_
  refine ca_iload_n hX (q := 3) 2 rfl rfl rfl dX6_burns__2 ?_
  refine ca_cVi hX (q := 6) y_X6_isFire w_ml_X6_161 (by omega) hN c0 (c_R_isFire l N g o M hm ho P hP hP5 _ _) (by decide) rfl (Nat.le_of_ble_eq_true rfl) rfl dX6_burns__3 rfl ?_
  refine ca_if_eq hX (q := 9) 16 rfl rfl dX6_burns__6 (fun b6 => ?_) (fun b6 => ?_)
  · refine ca_aload_n hX (q := 17) 0 rfl rfl rfl dX6_burns__16 ?_
    refine ca_iconst hX (q := 18) k_iconst_m1 rfl dX6_burns__17 ?_
    refine ca_cV hX (q := 21) y_X6_no w_ml_X6_51 (by omega) hN c0 (c_X6_no l N g o _ hm ho (-1) 1 (by decide) (by omega)) (by decide) rfl (Nat.le_of_ble_eq_true rfl) rfl dX6_burns__18 rfl ?_
    rintro _ g ⟨rfl, hm, hf⟩
    have hke := keM.no hke 1
    have hfr := hfr.tr hf
    refine ca_iret hX rfl rfl rfl rfl dX6_burns__21 ?_
    exact re_end2 (by simp [buA, noA, nk1, nk2, nk3, nk4, nk6, z020, z021, z010, z011, b6]) hfr hm hke
  · obtain ⟨⟨r1, hr1, rfl⟩, a2, ha2, rfl⟩ := fk_ok hP hP5 b6
    have er1 := nI_clamp (n := r1) (by omega)
    have ea2 := nI_clamp (n := a2) (by omega)
    refine ca_iload_n hX (q := 10) 3 rfl rfl rfl dX6_burns__9 ?_
    refine ca_cSi hX (q := 13) y_X6_isRoom w_ml_X6_138 hN (c_R_isRoom l N g _) (by decide) rfl (Nat.le_of_ble_eq_true rfl) rfl dX6_burns__10 rfl ?_
    refine ca_if_ne hX (q := 16) 22 rfl rfl dX6_burns__13 (fun b13 => ?_) (fun b13 => ?_)
    · obtain ⟨r3, hr3, rfl⟩ := rm_ok b13
      have er3 := nI_clamp (n := r3) (by omega)
      refine ca_aload_n hX (q := 23) 0 rfl rfl rfl dX6_burns__22 ?_
      refine ca_iload_n hX (q := 24) 1 rfl rfl rfl dX6_burns__23 ?_
      refine ca_iload_n hX (q := 25) 2 rfl rfl rfl dX6_burns__24 ?_
      refine ca_cV hX (q := 28) y_X6_burnsBy w_ml_X6_164 (by omega) hN c0 (c_X6_burnsBy l N g o M hm ho P hP hP5 hok r1 hr1 a2 ha2) (by decide) rfl (Nat.le_of_ble_eq_true rfl) rfl dX6_burns__25 rfl ?_
      rintro _ g ⟨rfl, hf, M1, hm, hrf, e4, ej, e13⟩
      have hke := hke.tr (ke_bu e4 ej e13)
      have hfr := hfr.tr hf
      obtain ⟨c0, c1, c2, c3, c4, c5, c6, c7, c8, c9, c10, c11, c12, c13⟩ := id hm
      rw [hke.1] at c1
      refine ca_aload_n hX (q := 29) 0 rfl rfl rfl dX6_burns__28 ?_
      refine ca_getf hX (q := 32) cl_X6 10 (by decide) w_fl_X6_31 (by omega) c0 rfl rfl dX6_burns__29 ?_
      refine ca_iload_n hX (q := 33) 3 rfl rfl rfl dX6_burns__32 ?_
      have hw := (hrf r3 hr3).1
      refine ca_iaN hX (q := 34) (k := r3) (by omega) c8 (by decide) rfl (by omega) rfl dX6_burns__33 ?_
      refine ca_iret hX rfl rfl rfl rfl dX6_burns__34 ?_
      exact re_end2 (by simp [buA, noA, nk1, nk2, nk3, nk4, nk6, z020, z021, z010, z011, b6, er1, ea2, b13, er3, hw]) hfr hm hke
    · refine ca_aload_n hX (q := 17) 0 rfl rfl rfl dX6_burns__16 ?_
      refine ca_iconst hX (q := 18) k_iconst_m1 rfl dX6_burns__17 ?_
      refine ca_cV hX (q := 21) y_X6_no w_ml_X6_51 (by omega) hN c0 (c_X6_no l N g o _ hm ho (-1) 1 (by decide) (by omega)) (by decide) rfl (Nat.le_of_ble_eq_true rfl) rfl dX6_burns__18 rfl ?_
      rintro _ g ⟨rfl, hm, hf⟩
      have hke := keM.no hke 1
      have hfr := hfr.tr hf
      refine ca_iret hX rfl rfl rfl rfl dX6_burns__21 ?_
      exact re_end2 (by simp [buA, noA, nk1, nk2, nk3, nk4, nk6, z020, z021, z010, z011, b6, er1, ea2, b13]) hfr hm hke

set_option maxRecDepth 100000 in
set_option maxHeartbeats 4000000 in
theorem m_said (l : Launch) (N : Nat) (g0 : ca_G) (o : Nat) (M : Nat → Nat → Int32) (hm : mdG g0 o M) (ho : o + 14 ≤ N) (hs4 : M 13 4 = 0) (P : Nat) (w : wfH (M 0) P) (x1 x2 x3 x4 : Int32) : ca_Ct l yX6_said cX6_said 5 (some .int) 5 0 0 N 1000000 [.ref o, .int x1, .int x2, .int x3, .int x4] g0 (reP o g0 (saA M P x1 x2 x3 x4)) := by
  refine ca_intro (by decide) (Nat.le_of_ble_eq_true rfl) (fun X hX hN => ?_)
  show X 0 [_, _, _, _, _] [] N 1000000 g0
  obtain ⟨g, hgg⟩ : ∃ g, g = g0 := ⟨g0, rfl⟩
  rw [← hgg] at hm ⊢
  have hfr : frG g0 g o (o + 14) := by rw [hgg]; exact frG.rf
  have hke := keM.rf hs4
  obtain ⟨c0, c1, c2, c3, c4, c5, c6, c7, c8, c9, c10, c11, c12, c13⟩ := id hm
  have hP := w.1
  have hP5 := w.2.1
  have hok := wf_ok w
  refine ca_aload_n hX (q := 1) 0 rfl rfl rfl dX6_said_0 ?_
  refine ca_iload_n hX (q := 2) 1 rfl rfl rfl dX6_said_1 ?_
  refine ca_iload_n hX (q := 3) 2 rfl rfl rfl dX6_said_2 ?_
  refine ca_cVi hX (q := 6) y_X6_isFire w_ml_X6_161 (by omega) hN c0 (c_R_isFire l N g o M hm ho P hP hP5 _ _) (by decide) rfl (Nat.le_of_ble_eq_true rfl) rfl dX6_said_3 rfl ?_
  refine ca_if_eq hX (q := 9) 16 rfl rfl dX6_said_6 (fun b6 => ?_) (fun b6 => ?_)
  · refine ca_aload_n hX (q := 17) 0 rfl rfl rfl dX6_said_16 ?_
    refine ca_iconst hX (q := 18) k_iconst_m1 rfl dX6_said_17 ?_
    refine ca_cV hX (q := 21) y_X6_no w_ml_X6_51 (by omega) hN c0 (c_X6_no l N g o _ hm ho (-1) 1 (by decide) (by omega)) (by decide) rfl (Nat.le_of_ble_eq_true rfl) rfl dX6_said_18 rfl ?_
    rintro _ g ⟨rfl, hm, hf⟩
    have hke := keM.no hke 1
    have hfr := hfr.tr hf
    refine ca_iret hX rfl rfl rfl rfl dX6_said_21 ?_
    exact re_end2 (by simp [saA, noA, nk1, nk2, nk3, nk4, nk6, z020, z021, z010, z011, b6]) hfr hm hke
  · obtain ⟨⟨r1, hr1, rfl⟩, a2, ha2, rfl⟩ := fk_ok hP hP5 b6
    have er1 := nI_clamp (n := r1) (by omega)
    have ea2 := nI_clamp (n := a2) (by omega)
    refine ca_iload_n hX (q := 10) 3 rfl rfl rfl dX6_said_9 ?_
    refine ca_cSi hX (q := 13) y_X6_isRoom w_ml_X6_138 hN (c_R_isRoom l N g _) (by decide) rfl (Nat.le_of_ble_eq_true rfl) rfl dX6_said_10 rfl ?_
    refine ca_if_ne hX (q := 16) 22 rfl rfl dX6_said_13 (fun b13 => ?_) (fun b13 => ?_)
    · obtain ⟨r3, hr3, rfl⟩ := rm_ok b13
      have er3 := nI_clamp (n := r3) (by omega)
      refine ca_iload hX (q := 24) rfl rfl dX6_said_22 ?_
      refine ca_iconst hX (q := 25) k_iconst_0 rfl dX6_said_24 ?_
      refine ca_iconst hX (q := 26) k_iconst_1 rfl dX6_said_25 ?_
      refine ca_cSi hX (q := 29) y_X6_isIn w_ml_X6_55 hN (c_R_is01 l N g _) (by decide) rfl (Nat.le_of_ble_eq_true rfl) rfl dX6_said_26 rfl ?_
      refine ca_if_ne hX (q := 32) 39 rfl rfl dX6_said_29 (fun b29 => ?_) (fun b29 => ?_)
      · refine ca_aload_n hX (q := 40) 0 rfl rfl rfl dX6_said_39 ?_
        refine ca_iload_n hX (q := 41) 1 rfl rfl rfl dX6_said_40 ?_
        refine ca_iload_n hX (q := 42) 2 rfl rfl rfl dX6_said_41 ?_
        refine ca_cV hX (q := 45) y_X6_burnsBy w_ml_X6_164 (by omega) hN c0 (c_X6_burnsBy l N g o M hm ho P hP hP5 hok r1 hr1 a2 ha2) (by decide) rfl (Nat.le_of_ble_eq_true rfl) rfl dX6_said_42 rfl ?_
        rintro _ g ⟨rfl, hf, M1, hm, hrf, e4, ej, e13⟩
        have hke := hke.tr (ke_bu e4 ej e13)
        have hfr := hfr.tr hf
        obtain ⟨c0, c1, c2, c3, c4, c5, c6, c7, c8, c9, c10, c11, c12, c13⟩ := id hm
        rw [hke.1] at c1
        refine ca_iload hX (q := 47) rfl rfl dX6_said_45 ?_
        refine ca_if_ne hX (q := 50) 59 rfl rfl dX6_said_47 (fun b47 => ?_) (fun b47 => ?_)
        · refine ca_aload_n hX (q := 60) 0 rfl rfl rfl dX6_said_59 ?_
          refine ca_getf hX (q := 63) cl_X6 13 (by decide) w_fl_X6_40 (by omega) c0 rfl rfl dX6_said_60 ?_
          refine ca_iload_n hX (q := 64) 3 rfl rfl rfl dX6_said_63 ?_
          have hw := (hrf r3 hr3).2.2
          refine ca_iaN hX (q := 65) (k := r3) (by omega) c11 (by decide) rfl (by omega) rfl dX6_said_64 ?_
          refine ca_iret hX rfl rfl rfl rfl dX6_said_65 ?_
          exact re_end2 (by simp [saA, noA, nk1, nk2, nk3, nk4, nk6, z020, z021, z010, z011, b6, er1, ea2, b13, er3, b29, b47, hw]) hfr hm hke
        · refine ca_aload_n hX (q := 51) 0 rfl rfl rfl dX6_said_50 ?_
          refine ca_getf hX (q := 54) cl_X6 12 (by decide) w_fl_X6_37 (by omega) c0 rfl rfl dX6_said_51 ?_
          refine ca_iload_n hX (q := 55) 3 rfl rfl rfl dX6_said_54 ?_
          have hw := (hrf r3 hr3).2.1
          refine ca_iaN hX (q := 56) (k := r3) (by omega) c10 (by decide) rfl (by omega) rfl dX6_said_55 ?_
          refine ca_goto hX 65 rfl dX6_said_56 ?_
          refine ca_iret hX rfl rfl rfl rfl dX6_said_65 ?_
          exact re_end2 (by simp [saA, noA, nk1, nk2, nk3, nk4, nk6, z020, z021, z010, z011, b6, er1, ea2, b13, er3, b29, b47, hw]) hfr hm hke
      · refine ca_aload_n hX (q := 33) 0 rfl rfl rfl dX6_said_32 ?_
        refine ca_bipush hX (q := 35) k_bipush_m2 rfl dX6_said_33 ?_
        refine ca_cV hX (q := 38) y_X6_no w_ml_X6_51 (by omega) hN c0 (c_X6_no l N g o _ hm ho (-2) 2 (by decide) (by omega)) (by decide) rfl (Nat.le_of_ble_eq_true rfl) rfl dX6_said_35 rfl ?_
        rintro _ g ⟨rfl, hm, hf⟩
        have hke := keM.no hke 2
        have hfr := hfr.tr hf
        refine ca_iret hX rfl rfl rfl rfl dX6_said_38 ?_
        exact re_end2 (by simp [saA, noA, nk1, nk2, nk3, nk4, nk6, z020, z021, z010, z011, b6, er1, ea2, b13, er3, b29]) hfr hm hke
    · refine ca_aload_n hX (q := 17) 0 rfl rfl rfl dX6_said_16 ?_
      refine ca_iconst hX (q := 18) k_iconst_m1 rfl dX6_said_17 ?_
      refine ca_cV hX (q := 21) y_X6_no w_ml_X6_51 (by omega) hN c0 (c_X6_no l N g o _ hm ho (-1) 1 (by decide) (by omega)) (by decide) rfl (Nat.le_of_ble_eq_true rfl) rfl dX6_said_18 rfl ?_
      rintro _ g ⟨rfl, hm, hf⟩
      have hke := keM.no hke 1
      have hfr := hfr.tr hf
      refine ca_iret hX rfl rfl rfl rfl dX6_said_21 ?_
      exact re_end2 (by simp [saA, noA, nk1, nk2, nk3, nk4, nk6, z020, z021, z010, z011, b6, er1, ea2, b13]) hfr hm hke

set_option maxRecDepth 100000 in
set_option maxHeartbeats 4000000 in
theorem m_alone (l : Launch) (N : Nat) (g0 : ca_G) (o : Nat) (M : Nat → Nat → Int32) (hm : mdG g0 o M) (ho : o + 14 ≤ N) (hs4 : M 13 4 = 0) (P : Nat) (w : wfH (M 0) P) (x1 : Int32) : ca_Ct l yX6_alone cX6_alone 2 (some .int) 4 0 0 N 1000000 [.ref o, .int x1] g0 (reP o g0 (alA M x1)) := by
  refine ca_intro (by decide) (Nat.le_of_ble_eq_true rfl) (fun X hX hN => ?_)
  show X 0 [_, _] [] N 1000000 g0
  obtain ⟨g, hgg⟩ : ∃ g, g = g0 := ⟨g0, rfl⟩
  rw [← hgg] at hm ⊢
  have hfr : frG g0 g o (o + 14) := by rw [hgg]; exact frG.rf
  have hke := keM.rf hs4
  obtain ⟨c0, c1, c2, c3, c4, c5, c6, c7, c8, c9, c10, c11, c12, c13⟩ := id hm
  have hP := w.1
  have hP5 := w.2.1
  have hok := wf_ok w
  refine ca_iload_n hX (q := 1) 1 rfl rfl rfl dX6_alone_0 ?_
  refine ca_cSi hX (q := 4) y_X6_isRoom w_ml_X6_138 hN (c_R_isRoom l N g _) (by decide) rfl (Nat.le_of_ble_eq_true rfl) rfl dX6_alone_1 rfl ?_
  refine ca_if_ne hX (q := 7) 13 rfl rfl dX6_alone_4 (fun b4 => ?_) (fun b4 => ?_)
  · obtain ⟨r1, hr1, rfl⟩ := rm_ok b4
    have er1 := nI_clamp (n := r1) (by omega)
    refine ca_aload_n hX (q := 14) 0 rfl rfl rfl dX6_alone_13 ?_
    refine ca_iconst hX (q := 15) k_iconst_0 rfl dX6_alone_14 ?_
    refine ca_puti hX (q := 18) (fs' := [_, _, _, _, _, _, _, _, _, _, _, _, _, _, _, _, _, _, _, _]) cl_X6 15 (by decide) w_fl_X6_96 rfl rfl (by omega) hN c0 (Nat.le_of_ble_eq_true rfl) rfl rfl dX6_alone_15 (fun g hE hF => ?_)
    have hm := md_s3 hm hE hF
    obtain ⟨c0, c1, c2, c3, c4, c5, c6, c7, c8, c9, c10, c11, c12, c13⟩ := id hm
    have hfr := frG.tr hfr (fun j hj => hF j (by omega))
    have hke := hke.up (k := 3) 0 (by omega) (by omega)
    refine ca_aload_n hX (q := 19) 0 rfl rfl rfl dX6_alone_18 ?_
    refine ca_aload_n hX (q := 20) 0 rfl rfl rfl dX6_alone_19 ?_
    refine ca_getf hX (q := 23) cl_X6 0 (by decide) w_fl_X6_9 (by omega) c0 rfl rfl dX6_alone_20 ?_
    refine ca_iload_n hX (q := 24) 1 rfl rfl rfl dX6_alone_23 ?_
    refine ca_cV hX (q := 27) y_X6_burns w_ml_X6_110 (by omega) hN c0 (c_X6_burns l N g o _ hm ho (o + 1) (M 0) c1 (by omega) (by omega) (catS (M 0)) (cat_S (M 0)) (tmM (ctS (M 0)) (1 <<< (nI r1 &&& 31))) (fun _ => True) r1 hr1 (tt_ok (ms_S (M 0)) (fun r _ => cat_le (M 0) r) hr1) 0 (fun _ => 0) 0 (by rw [upB_s, upd_s]; rfl) (by omega) (fun j hj => absurd hj (by omega)) (by rw [up_134 _ _ (by omega)]; exact hs4)) (by decide) rfl (Nat.le_of_ble_eq_true rfl) rfl dX6_alone_24 rfl ?_
    rintro _ g ⟨rfl, hf, M2, hm, e2, e7, e9, e10, _⟩
    have hrf : rfM M2 (M 0) r1 0 (fun _ => 0) 0 := by
      obtain ⟨k1, k2, k3⟩ := re_end (h := M 0) (tn := 0) hr1 (tu := (fun _ => 0)) 0 hok _ _ (fun r hr => cp_m9 ((upB M 13 3 0) 9) hr) (fun r hr => cp_m9 ((upB M 13 3 0) 10) hr)
      exact fun q hq => ⟨(e7 q hq).trans (k1 q hq), (congrFun e9 q).trans (k2 q hq), (congrFun e10 q).trans (k3 q hq)⟩
    have hfr := hfr.tr hf
    have hke := hke.b2 e2
    obtain ⟨c0, c1, c2, c3, c4, c5, c6, c7, c8, c9, c10, c11, c12, c13⟩ := id hm
    rw [hke.1] at c1
    refine ca_aload_n hX (q := 28) 0 rfl rfl rfl dX6_alone_27 ?_
    refine ca_aload_n hX (q := 29) 0 rfl rfl rfl dX6_alone_28 ?_
    refine ca_getf hX (q := 32) cl_X6 0 (by decide) w_fl_X6_9 (by omega) c0 rfl rfl dX6_alone_29 ?_
    have hw := rf_w hrf
    refine ca_cVi hX (q := 35) y_X6_burntWorth w_ml_X6_114 (by omega) hN c0 (c_X6_burntWorth l N g o M2 hm ho (o + 1) (M 0) c1 (by omega) (by omega)) (by decide) rfl (Nat.le_of_ble_eq_true rfl) rfl dX6_alone_32 rfl ?_
    refine ca_iret hX rfl rfl rfl rfl dX6_alone_35 ?_
    exact re_end2 (by simp [alA, noA, nk1, nk2, nk3, nk4, nk6, z020, z021, z010, z011, b4, er1, hw]) hfr hm hke
  · refine ca_aload_n hX (q := 8) 0 rfl rfl rfl dX6_alone_7 ?_
    refine ca_iconst hX (q := 9) k_iconst_m1 rfl dX6_alone_8 ?_
    refine ca_cV hX (q := 12) y_X6_no w_ml_X6_51 (by omega) hN c0 (c_X6_no l N g o _ hm ho (-1) 1 (by decide) (by omega)) (by decide) rfl (Nat.le_of_ble_eq_true rfl) rfl dX6_alone_9 rfl ?_
    rintro _ g ⟨rfl, hm, hf⟩
    have hke := keM.no hke 1
    have hfr := hfr.tr hf
    refine ca_iret hX rfl rfl rfl rfl dX6_alone_12 ?_
    exact re_end2 (by simp [alA, noA, nk1, nk2, nk3, nk4, nk6, z020, z021, z010, z011, b4]) hfr hm hke

