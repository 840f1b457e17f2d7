/-! small public methods of both: room, person, turn, sharp, visit, letter, row, clear, image, on -/
set_option maxRecDepth 100000 in
set_option maxHeartbeats 4000000 in
theorem c_R_isRoom (l : Launch) (N : Nat) (g : ca_G) (x : Int32) : ca_Ct l yX6_isRoom cX6_isRoom 1 (some .boolean) 1 0 0 N 1000000 [.int x] g (ca_pi (rmB x) g) := by
  refine ca_intro (by decide) (Nat.le_of_ble_eq_true rfl) (fun X hX hN => ?_)
  show X 0 [_] [] N 1000000 g
  refine ca_iload_n hX (q := 1) 0 rfl rfl rfl dX6_isRoom_0 ?_
  refine ca_iconst hX (q := 2) k_iconst_0 rfl dX6_isRoom_1 ?_
  refine ca_bipush hX (q := 4) k_bipush_24 rfl dX6_isRoom_2 ?_
  refine ca_cSi hX (q := 7) y_X6_isIn w_ml_X6_55 hN (c_X6_isIn l N g x 0 24) (by decide) rfl (by decide) rfl dX6_isRoom_4 rfl ?_
  refine ca_zret hX rfl rfl (by unfold inB; split <;> first | rfl | (split <;> rfl)) rfl rfl dX6_isRoom_7 ?_
  exact ⟨by rw [in_rm], rfl⟩

set_option maxRecDepth 100000 in
set_option maxHeartbeats 4000000 in
theorem c_R_isPerson (l : Launch) (N : Nat) (g : ca_G) (o : Nat) (M : Nat → Nat → Int32) (hm : mdG g o M) (ho : o + 14 ≤ N) (P : Nat) (hP : M 0 0 = nI P) (hP5 : P ≤ 5) (x : Int32) : ca_Ct l yX6_isPerson cX6_isPerson 2 (some .boolean) 1 0 0 N 1000000 [.ref o, .int x] g (ca_pi (hpB (M 0 0) x) g) := by
  refine ca_intro (by decide) (Nat.le_of_ble_eq_true rfl) (fun X hX hN => ?_)
  show X 0 [_, _] [] N 1000000 g
  obtain ⟨c0, c1, c2, c3, c4, c5, c6, c7, c8, c9, c10, c11, c12, c13⟩ := id hm
  refine ca_iload_n hX (q := 1) 1 rfl rfl rfl dX6_isPerson_0 ?_
  refine ca_iconst hX (q := 2) k_iconst_0 rfl dX6_isPerson_1 ?_
  refine ca_aload_n hX (q := 3) 0 rfl rfl rfl dX6_isPerson_2 ?_
  refine ca_getf hX (q := 6) cl_X6 0 (by decide) w_fl_X6_9 (by omega) c0 rfl rfl dX6_isPerson_3 ?_
  refine ca_iconst hX (q := 7) k_iconst_0 rfl dX6_isPerson_6 ?_
  refine ca_iaN hX (q := 8) (k := 0) (by omega) c1 (by decide) rfl (by omega) rfl dX6_isPerson_7 ?_
  refine ca_iconst hX (q := 9) k_iconst_1 rfl dX6_isPerson_8 ?_
  refine ca_isub hX (q := 10) rfl dX6_isPerson_9 ?_
  refine ca_cSi hX (q := 13) y_X6_isIn w_ml_X6_55 hN (c_X6_isIn l N g x 0 (M 0 0 - 1)) (by decide) rfl (by decide) rfl dX6_isPerson_10 rfl ?_
  refine ca_zret hX rfl rfl (by unfold inB; split <;> first | rfl | (split <;> rfl)) rfl rfl dX6_isPerson_13 ?_
  exact ⟨by rw [in_hp hP hP5], rfl⟩

set_option maxRecDepth 100000 in
set_option maxHeartbeats 4000000 in
theorem c_R_isSpeaker (l : Launch) (N : Nat) (g : ca_G) (o : Nat) (M : Nat → Nat → Int32) (hm : mdG g o M) (ho : o + 14 ≤ N) (P : Nat) (hP : M 0 0 = nI P) (hP5 : P ≤ 5) (x : Int32) : ca_Ct l yX6_isSpeaker cX6_isSpeaker 2 (some .boolean) 2 0 0 N 1000000 [.ref o, .int x] g (ca_pi (skM (M 0 0) x) g) := by
  refine ca_intro (by decide) (Nat.le_of_ble_eq_true rfl) (fun X hX hN => ?_)
  show X 0 [_, _] [] N 1000000 g
  obtain ⟨c0, c1, c2, c3, c4, c5, c6, c7, c8, c9, c10, c11, c12, c13⟩ := id hm
  refine ca_aload_n hX (q := 1) 0 rfl rfl rfl dX6_isSpeaker_0 ?_
  refine ca_iload_n hX (q := 2) 1 rfl rfl rfl dX6_isSpeaker_1 ?_
  refine ca_cVi hX (q := 5) y_X6_isPerson w_ml_X6_59 (by omega) hN c0 (c_X6_isPerson l N g o M hm ho x) (by decide) rfl (by decide) rfl dX6_isSpeaker_2 rfl ?_
  refine ca_if_ne hX (q := 8) 12 rfl rfl dX6_isSpeaker_5 (fun c5 => ?_) (fun c5 => ?_)
  · refine ca_iconst hX (q := 13) k_iconst_1 rfl dX6_isSpeaker_12 ?_
    refine ca_goto hX 17 rfl dX6_isSpeaker_13 ?_
    refine ca_zret hX rfl rfl rfl rfl rfl dX6_isSpeaker_17 ?_
    refine ⟨?_, rfl⟩; rw [← sk_eq hP hP5, skB]; clear hP; simp [*]
  · refine ca_iload_n hX (q := 9) 1 rfl rfl rfl dX6_isSpeaker_8 ?_
    refine ca_if_ne hX (q := 12) 16 rfl rfl dX6_isSpeaker_9 (fun c9 => ?_) (fun c9 => ?_)
    · refine ca_iconst hX (q := 17) k_iconst_0 rfl dX6_isSpeaker_16 ?_
      refine ca_zret hX rfl rfl rfl rfl rfl dX6_isSpeaker_17 ?_
      refine ⟨?_, rfl⟩; rw [← sk_eq hP hP5, skB]; clear hP; simp [*]
    · refine ca_iconst hX (q := 13) k_iconst_1 rfl dX6_isSpeaker_12 ?_
      refine ca_goto hX 17 rfl dX6_isSpeaker_13 ?_
      refine ca_zret hX rfl rfl rfl rfl rfl dX6_isSpeaker_17 ?_
      refine ⟨?_, rfl⟩; rw [← sk_eq hP hP5, skB]; clear hP; simp [*]

def roA (M : Nat → Nat → Int32) (x w : Int32) : An := if rmB x = 0 then noA M 1 else if w = 0 then (kdH (M 0) x.toNatClampNeg, M) else if w = 1 then (fgH (M 0) x.toNatClampNeg, M) else if w = 2 then (ndH (M 0) x.toNatClampNeg, M) else if w = 3 then (ctH (M 0) x.toNatClampNeg, M) else if w = 4 then (wtH (M 0) x.toNatClampNeg, M) else noA M 2
def peA (M : Nat → Nat → Int32) (p x : Int32) : An := if hpB (M 0 0) p = 0 then noA M 1 else if x = -1 then (M 0 (52 + p.toNatClampNeg), M) else if rmB x = 0 then noA M 1 else (knH (M 0) p.toNatClampNeg x.toNatClampNeg, M)
def tuA (M : Nat → Nat → Int32) (x k f : Int32) : An := if rmB x = 0 then noA M 1 else if inB k 0 5 = 0 then noA M 2 else if f < 0 then noA M 4 else if 9 < f then noA M 6 else (10 * kdH (M 0) x.toNatClampNeg + fgH (M 0) x.toNatClampNeg, stB M 0 (upd (upd (M 0) (2 + x.toNatClampNeg) k) (27 + x.toNatClampNeg) f))
def shA (M : Nat → Nat → Int32) (p v : Int32) : An := if hpB (M 0 0) p = 0 then noA M 1 else if v < 1 then noA M 4 else if 9 < v then noA M 6 else (M 0 (52 + p.toNatClampNeg), stB M 0 (upd (M 0) (52 + p.toNatClampNeg) v))
def viA (M : Nat → Nat → Int32) (p x v : Int32) : An := if hpB (M 0 0) p = 0 then noA M 1 else if rmB x = 0 then noA M 1 else if v < 0 then noA M 4 else if 9 < v then noA M 6 else (knH (M 0) p.toNatClampNeg x.toNatClampNeg, stB M 0 (upd (M 0) (57 + (25 * p.toNatClampNeg + x.toNatClampNeg)) v))
def leA (M : Nat → Nat → Int32) (k : Nat) (c : Int32) : An := if c < 0 then noA M 4 else if 255 < c then noA M 6 else if k < 96 then (nI (k + 1), upB (stB M 4 (upd (M 4) k c)) 13 1 (nI (k + 1))) else noA M 6
def rwA (M : Nat → Nat → Int32) (k : Nat) (c : Int32) : An := if c < 0 then noA M 4 else if 99 < c then noA M 6 else if k < 25 then (nI (k + 1), upB (stB M 5 (upd (M 5) k c)) 13 2 (nI (k + 1))) else noA M 6
def cwA (M : Nat → Nat → Int32) : An := (M 13 2, upB M 13 2 0)
def imA (M : Nat → Nat → Int32) : An := (M 0 1, upB (stB M 2 (M 0)) 13 0 1)
def onA (M : Nat → Nat → Int32) : An := if M 13 0 = 0 then noA M 3 else (M 2 1, stB M 0 (M 2))
theorem nk1 : nI 1 = 1 := rfl
theorem nk2 : nI 2 = 2 := rfl
theorem nk3 : nI 3 = 3 := rfl
theorem nk4 : nI 4 = 4 := rfl
theorem nk6 : nI 6 = 6 := rfl
theorem up_134 (M : Nat → Nat → Int32) {k : Nat} (x : Int32) (h : k ≠ 4) : upB M 13 k x 13 4 = M 13 4 := by rw [upB_s, upd_n _ _ (by omega)]
theorem in_56 (k : Int32) (h : k < 6) : ¬ 5 < k := by rw [i5_1 (a := 5) (b := 6) rfl rfl k]; exact Int32.not_le.mpr h
theorem in_56n (k : Int32) (h : ¬ k < 6) : 5 < k := by rw [i5_1 (a := 5) (b := 6) rfl rfl k]; exact Int32.not_lt.mp h
theorem st_st (M : Nat → Nat → Int32) (i : Nat) (F G : Nat → Int32) : stB (stB M i F) i G = stB M i G := by
  funext j; unfold stB; by_cases h : j = i
  · rw [if_pos h, if_pos h]
  · rw [if_neg h, if_neg h, if_neg h]
theorem st_id (M : Nat → Nat → Int32) (i : Nat) : stB M i (M i) = M := by
  funext j; unfold stB; by_cases h : j = i
  · rw [if_pos h, h]
  · rw [if_neg h]

set_option maxRecDepth 100000 in
set_option maxHeartbeats 4000000 in
theorem k_room (l : Launch) (N : Nat) (g0 : ca_G) (M : Nat → Nat → Int32) (t : Nat → Int32) (B : Nat → Nat → Int32) (hx : clX g0 M t B) (hN31 : 31 ≤ N) (x1 x2 : Int32) : ca_Ct l yX5_room cX5_room 3 (some .int) 3 0 0 N 1000000 [.ref 0, .int x1, .int x2] g0 (clP g0 (roA M x1 x2)) := by
  refine ca_intro (by decide) (Nat.le_of_ble_eq_true rfl) (fun X hX hN => ?_)
  show X 0 [_, _, _] [] N 1000000 g0
  obtain ⟨g, hgg⟩ : ∃ g, g = g0 := ⟨g0, rfl⟩
  rw [← hgg] at hx ⊢
  have hfr : frG g0 g 0 31 := by rw [hgg]; exact frG.rf
  obtain ⟨hc, hh, hkp, htr, hz, htl, hlt, hrw, h30⟩ := id hx
  have h0 := hh.1
  have k0 := hkp.1
  have t0 := htr.1
  have d0 := hz.1
  have l0 := hlt.1
  have w0 := hrw.1
  refine ca_iload_n hX (q := 1) 1 rfl rfl rfl dX5_room_0 ?_
  refine ca_cSi hX (q := 4) y_X5_isRoom w_ml_X5_78 hN (c_X5_isRoom l N g _) (by decide) rfl (Nat.le_of_ble_eq_true rfl) rfl dX5_room_1 rfl ?_
  refine ca_if_ne hX (q := 7) 13 rfl rfl dX5_room_4 (fun c4 => ?_) (fun c4 => ?_)
  · obtain ⟨r1, hr1, rfl⟩ := rm_ok c4
    have er1 := nI_clamp (n := r1) (by omega)
    refine ca_iload_n hX (q := 14) 2 rfl rfl rfl dX5_room_13 ?_
    by_cases e14_0 : x2 = 0
    · refine ca_tabIn hX 48 dX5_room_14 (by rw [e14_0]; decide) (by rw [e14_0]; decide) (by rw [e14_0]; rfl) rfl ?_
      refine ca_aload_n hX (q := 49) 0 rfl rfl rfl dX5_room_48 ?_
      refine ca_getf hX (q := 52) cl_X5 0 (by decide) w_fl_X5_10 (by omega) hc rfl rfl dX5_room_49 ?_
      refine ca_iload_n hX (q := 53) 1 rfl rfl rfl dX5_room_52 ?_
      refine ca_cVi hX (q := 56) y_X1_kindOf w_ml_X5_82 (by omega) hN h0 (c_X1_kindOf l N g 1 (M 0) hh (by omega) r1 hr1) (by decide) rfl (Nat.le_of_ble_eq_true rfl) rfl dX5_room_53 rfl ?_
      refine ca_iret hX rfl rfl rfl rfl dX5_room_56 ?_
      exact cl_end (by simp [roA, noA, nk1, nk2, nk3, nk4, nk6, c4, er1, e14_0]) hfr hx
    by_cases e14_1 : x2 = 1
    · refine ca_tabIn hX 57 dX5_room_14 (by rw [e14_1]; decide) (by rw [e14_1]; decide) (by rw [e14_1]; rfl) rfl ?_
      refine ca_aload_n hX (q := 58) 0 rfl rfl rfl dX5_room_57 ?_
      refine ca_getf hX (q := 61) cl_X5 0 (by decide) w_fl_X5_10 (by omega) hc rfl rfl dX5_room_58 ?_
      refine ca_iload_n hX (q := 62) 1 rfl rfl rfl dX5_room_61 ?_
      refine ca_cVi hX (q := 65) y_X1_figureOf w_ml_X5_85 (by omega) hN h0 (c_X1_figureOf l N g 1 (M 0) hh (by omega) r1 hr1) (by decide) rfl (Nat.le_of_ble_eq_true rfl) rfl dX5_room_62 rfl ?_
      refine ca_iret hX rfl rfl rfl rfl dX5_room_65 ?_
      exact cl_end (by simp [roA, noA, nk1, nk2, nk3, nk4, nk6, c4, er1, e14_0, e14_1]) hfr hx
    by_cases e14_2 : x2 = 2
    · refine ca_tabIn hX 66 dX5_room_14 (by rw [e14_2]; decide) (by rw [e14_2]; decide) (by rw [e14_2]; rfl) rfl ?_
      refine ca_aload_n hX (q := 67) 0 rfl rfl rfl dX5_room_66 ?_
      refine ca_getf hX (q := 70) cl_X5 0 (by decide) w_fl_X5_10 (by omega) hc rfl rfl dX5_room_67 ?_
      refine ca_iload_n hX (q := 71) 1 rfl rfl rfl dX5_room_70 ?_
      refine ca_cVi hX (q := 74) y_X1_needsOf w_ml_X5_88 (by omega) hN h0 (c_X1_needsOf l N g 1 (M 0) hh (by omega) r1 hr1) (by decide) rfl (Nat.le_of_ble_eq_true rfl) rfl dX5_room_71 rfl ?_
      refine ca_iret hX rfl rfl rfl rfl dX5_room_74 ?_
      exact cl_end (by simp [roA, noA, nk1, nk2, nk3, nk4, nk6, c4, er1, e14_0, e14_1, e14_2]) hfr hx
    by_cases e14_3 : x2 = 3
    · refine ca_tabIn hX 75 dX5_room_14 (by rw [e14_3]; decide) (by rw [e14_3]; decide) (by rw [e14_3]; rfl) rfl ?_
      refine ca_aload_n hX (q := 76) 0 rfl rfl rfl dX5_room_75 ?_
      refine ca_getf hX (q := 79) cl_X5 0 (by decide) w_fl_X5_10 (by omega) hc rfl rfl dX5_room_76 ?_
      refine ca_iload_n hX (q := 80) 1 rfl rfl rfl dX5_room_79 ?_
      refine ca_cVi hX (q := 83) y_X1_catchesOf w_ml_X5_91 (by omega) hN h0 (c_X1_catchesOf l N g 1 (M 0) hh (by omega) r1 hr1) (by decide) rfl (Nat.le_of_ble_eq_true rfl) rfl dX5_room_80 rfl ?_
      refine ca_iret hX rfl rfl rfl rfl dX5_room_83 ?_
      exact cl_end (by simp [roA, noA, nk1, nk2, nk3, nk4, nk6, c4, er1, e14_0, e14_1, e14_2, e14_3]) hfr hx
    by_cases e14_4 : x2 = 4
    · refine ca_tabIn hX 84 dX5_room_14 (by rw [e14_4]; decide) (by rw [e14_4]; decide) (by rw [e14_4]; rfl) rfl ?_
      refine ca_aload_n hX (q := 85) 0 rfl rfl rfl dX5_room_84 ?_
      refine ca_getf hX (q := 88) cl_X5 0 (by decide) w_fl_X5_10 (by omega) hc rfl rfl dX5_room_85 ?_
      refine ca_iload_n hX (q := 89) 1 rfl rfl rfl dX5_room_88 ?_
      refine ca_cVi hX (q := 92) y_X1_worthOf w_ml_X5_94 (by omega) hN h0 (c_X1_worthOf l N g 1 (M 0) hh (by omega) r1 hr1) (by decide) rfl (Nat.le_of_ble_eq_true rfl) rfl dX5_room_89 rfl ?_
      refine ca_iret hX rfl rfl rfl rfl dX5_room_92 ?_
      exact cl_end (by simp [roA, noA, nk1, nk2, nk3, nk4, nk6, c4, er1, e14_0, e14_1, e14_2, e14_3, e14_4]) hfr hx
    refine ca_tabOut hX 93 dX5_room_14 (by have z0 := lv_neT (k := 0) (a := 0) e14_0 (by decide); have z1 := lv_neT (k := 1) (a := 1) e14_1 (by decide); have z2 := lv_neT (k := 2) (a := 2) e14_2 (by decide); have z3 := lv_neT (k := 3) (a := 3) e14_3 (by decide); have z4 := lv_neT (k := 4) (a := 4) e14_4 (by decide); omega) rfl ?_
    refine ca_aload_n hX (q := 94) 0 rfl rfl rfl dX5_room_93 ?_
    refine ca_bipush hX (q := 96) k_bipush_m2 rfl dX5_room_94 ?_
    refine ca_cV hX (q := 99) y_X5_refuse w_ml_X5_53 (by omega) hN hc (c_X5_refuse l N g _ hc hN31 (M 6) h30 (-2) 2 (by decide) (by omega) (by omega)) (by decide) rfl (Nat.le_of_ble_eq_true rfl) rfl dX5_room_96 rfl ?_
    rintro _ g ⟨rfl, h30, hf⟩
    have hx := hx.rf hf h30
    have hfr := hfr.tr (hf.wd (by omega) (by omega))
    refine ca_iret hX rfl rfl rfl rfl dX5_room_99 ?_
    exact cl_end (by simp [roA, noA, nk1, nk2, nk3, nk4, nk6, c4, er1, e14_0, e14_1, e14_2, e14_3, e14_4]) hfr hx
  · refine ca_aload_n hX (q := 8) 0 rfl rfl rfl dX5_room_7 ?_
    refine ca_iconst hX (q := 9) k_iconst_m1 rfl dX5_room_8 ?_
    refine ca_cV hX (q := 12) y_X5_refuse w_ml_X5_53 (by omega) hN hc (c_X5_refuse l N g _ hc hN31 (M 6) h30 (-1) 1 (by decide) (by omega) (by omega)) (by decide) rfl (Nat.le_of_ble_eq_true rfl) rfl dX5_room_9 rfl ?_
    rintro _ g ⟨rfl, h30, hf⟩
    have hx := hx.rf hf h30
    have hfr := hfr.tr (hf.wd (by omega) (by omega))
    refine ca_iret hX rfl rfl rfl rfl dX5_room_12 ?_
    exact cl_end (by simp [roA, noA, nk1, nk2, nk3, nk4, nk6, c4]) hfr hx

set_option maxRecDepth 100000 in
set_option maxHeartbeats 4000000 in
theorem k_person (l : Launch) (N : Nat) (g0 : ca_G) (M : Nat → Nat → Int32) (t : Nat → Int32) (B : Nat → Nat → Int32) (hx : clX g0 M t B) (hN31 : 31 ≤ N) (P : Nat) (w : wfH (M 0) P) (x1 x2 : Int32) : ca_Ct l yX5_person cX5_person 3 (some .int) 3 0 0 N 1000000 [.ref 0, .int x1, .int x2] g0 (clP g0 (peA M x1 x2)) := by
  refine ca_intro (by decide) (Nat.le_of_ble_eq_true rfl) (fun X hX hN => ?_)
  show X 0 [_, _, _] [] N 1000000 g0
  obtain ⟨g, hgg⟩ : ∃ g, g = g0 := ⟨g0, rfl⟩
  rw [← hgg] at hx ⊢
  have hfr : frG g0 g 0 31 := by rw [hgg]; exact frG.rf
  obtain ⟨hc, hh, hkp, htr, hz, htl, hlt, hrw, h30⟩ := id hx
  have h0 := hh.1
  have k0 := hkp.1
  have t0 := htr.1
  have d0 := hz.1
  have l0 := hlt.1
  have w0 := hrw.1
  have hP := w.1
  have hP5 := w.2.1
  have hok := wf_ok w
  refine ca_aload_n hX (q := 1) 0 rfl rfl rfl dX5_person_0 ?_
  refine ca_iload_n hX (q := 2) 1 rfl rfl rfl dX5_person_1 ?_
  refine ca_cVi hX (q := 5) y_X5_isPerson w_ml_X5_97 (by omega) hN hc (c_X5_isPerson l N g _ hc hN31 (M 0) hh _) (by decide) rfl (Nat.le_of_ble_eq_true rfl) rfl dX5_person_2 rfl ?_
  refine ca_if_eq hX (q := 8) 20 rfl rfl dX5_person_5 (fun c5 => ?_) (fun c5 => ?_)
  · refine ca_aload_n hX (q := 21) 0 rfl rfl rfl dX5_person_20 ?_
    refine ca_iconst hX (q := 22) k_iconst_m1 rfl dX5_person_21 ?_
    refine ca_cV hX (q := 25) y_X5_refuse w_ml_X5_53 (by omega) hN hc (c_X5_refuse l N g _ hc hN31 (M 6) h30 (-1) 1 (by decide) (by omega) (by omega)) (by decide) rfl (Nat.le_of_ble_eq_true rfl) rfl dX5_person_22 rfl ?_
    rintro _ g ⟨rfl, h30, hf⟩
    have hx := hx.rf hf h30
    have hfr := hfr.tr (hf.wd (by omega) (by omega))
    refine ca_iret hX rfl rfl rfl rfl dX5_person_25 ?_
    exact cl_end (by simp [peA, noA, nk1, nk2, nk3, nk4, nk6, c5]) hfr hx
  · obtain ⟨p1, hp1, rfl⟩ := hp_ok hP hP5 c5
    have ep1 := nI_clamp (n := p1) (by omega)
    refine ca_iload_n hX (q := 9) 2 rfl rfl rfl dX5_person_8 ?_
    refine ca_iconst hX (q := 10) k_iconst_m1 rfl dX5_person_9 ?_
    refine ca_icmp_eq hX (q := 13) 26 rfl rfl dX5_person_10 (fun c10 => ?_) (fun c10 => ?_)
    · refine ca_iload_n hX (q := 27) 2 rfl rfl rfl dX5_person_26 ?_
      refine ca_iconst hX (q := 28) k_iconst_m1 rfl dX5_person_27 ?_
      refine ca_icmp_ne hX (q := 31) 42 rfl rfl dX5_person_28 (fun c28 => ?_) (fun c28 => ?_)
      · exact absurd c10 c28
      · refine ca_aload_n hX (q := 32) 0 rfl rfl rfl dX5_person_31 ?_
        refine ca_getf hX (q := 35) cl_X5 0 (by decide) w_fl_X5_10 (by omega) hc rfl rfl dX5_person_32 ?_
        refine ca_iload_n hX (q := 36) 1 rfl rfl rfl dX5_person_35 ?_
        refine ca_cVi hX (q := 39) y_X1_sharpOf w_ml_X5_100 (by omega) hN h0 (c_X1_sharpOf l N g 1 (M 0) hh (by omega) P hP hP5 p1 hp1) (by decide) rfl (Nat.le_of_ble_eq_true rfl) rfl dX5_person_36 rfl ?_
        refine ca_goto hX 51 rfl dX5_person_39 ?_
        refine ca_iret hX rfl rfl rfl rfl dX5_person_51 ?_
        exact cl_end (by simp [peA, noA, nk1, nk2, nk3, nk4, nk6, c5, ep1, c10, c28]) hfr hx
    · refine ca_iload_n hX (q := 14) 2 rfl rfl rfl dX5_person_13 ?_
      refine ca_cSi hX (q := 17) y_X5_isRoom w_ml_X5_78 hN (c_X5_isRoom l N g _) (by decide) rfl (Nat.le_of_ble_eq_true rfl) rfl dX5_person_14 rfl ?_
      refine ca_if_ne hX (q := 20) 26 rfl rfl dX5_person_17 (fun c17 => ?_) (fun c17 => ?_)
      · obtain ⟨r2, hr2, rfl⟩ := rm_ok c17
        have er2 := nI_clamp (n := r2) (by omega)
        refine ca_iload_n hX (q := 27) 2 rfl rfl rfl dX5_person_26 ?_
        refine ca_iconst hX (q := 28) k_iconst_m1 rfl dX5_person_27 ?_
        refine ca_icmp_ne hX (q := 31) 42 rfl rfl dX5_person_28 (fun c28 => ?_) (fun c28 => ?_)
        · refine ca_aload_n hX (q := 43) 0 rfl rfl rfl dX5_person_42 ?_
          refine ca_getf hX (q := 46) cl_X5 0 (by decide) w_fl_X5_10 (by omega) hc rfl rfl dX5_person_43 ?_
          refine ca_iload_n hX (q := 47) 1 rfl rfl rfl dX5_person_46 ?_
          refine ca_iload_n hX (q := 48) 2 rfl rfl rfl dX5_person_47 ?_
          refine ca_cVi hX (q := 51) y_X1_knownBy w_ml_X5_103 (by omega) hN h0 (c_X1_knownBy l N g 1 (M 0) hh (by omega) P hP hP5 p1 r2 hp1 hr2) (by decide) rfl (Nat.le_of_ble_eq_true rfl) rfl dX5_person_48 rfl ?_
          refine ca_iret hX rfl rfl rfl rfl dX5_person_51 ?_
          exact cl_end (by simp [peA, noA, nk1, nk2, nk3, nk4, nk6, c5, ep1, c10, c17, er2, c28]) hfr hx
        · exact absurd c28 c10
      · refine ca_aload_n hX (q := 21) 0 rfl rfl rfl dX5_person_20 ?_
        refine ca_iconst hX (q := 22) k_iconst_m1 rfl dX5_person_21 ?_
        refine ca_cV hX (q := 25) y_X5_refuse w_ml_X5_53 (by omega) hN hc (c_X5_refuse l N g _ hc hN31 (M 6) h30 (-1) 1 (by decide) (by omega) (by omega)) (by decide) rfl (Nat.le_of_ble_eq_true rfl) rfl dX5_person_22 rfl ?_
        rintro _ g ⟨rfl, h30, hf⟩
        have hx := hx.rf hf h30
        have hfr := hfr.tr (hf.wd (by omega) (by omega))
        refine ca_iret hX rfl rfl rfl rfl dX5_person_25 ?_
        exact cl_end (by simp [peA, noA, nk1, nk2, nk3, nk4, nk6, c5, ep1, c10, c17]) hfr hx

set_option maxRecDepth 100000 in
set_option maxHeartbeats 4000000 in
theorem k_turn (l : Launch) (N : Nat) (g0 : ca_G) (M : Nat → Nat → Int32) (t : Nat → Int32) (B : Nat → Nat → Int32) (hx : clX g0 M t B) (hN31 : 31 ≤ N) (x1 x2 x3 : Int32) : ca_Ct l yX5_turn cX5_turn 5 (some .int) 3 0 0 N 1000000 [.ref 0, .int x1, .int x2, .int x3] g0 (clP g0 (tuA M x1 x2 x3)) := by
  refine ca_intro (by decide) (Nat.le_of_ble_eq_true rfl) (fun X hX hN => ?_)
  show X 0 [_, _, _, _, none] [] N 1000000 g0
  obtain ⟨g, hgg⟩ : ∃ g, g = g0 := ⟨g0, rfl⟩
  rw [← hgg] at hx ⊢
  have hfr : frG g0 g 0 31 := by rw [hgg]; exact frG.rf
  obtain ⟨hc, hh, hkp, htr, hz, htl, hlt, hrw, h30⟩ := id hx
  have h0 := hh.1
  have k0 := hkp.1
  have t0 := htr.1
  have d0 := hz.1
  have l0 := hlt.1
  have w0 := hrw.1
  refine ca_iload_n hX (q := 1) 1 rfl rfl rfl dX5_turn_0 ?_
  refine ca_cSi hX (q := 4) y_X5_isRoom w_ml_X5_78 hN (c_X5_isRoom l N g _) (by decide) rfl (Nat.le_of_ble_eq_true rfl) rfl dX5_turn_1 rfl ?_
  refine ca_if_ne hX (q := 7) 13 rfl rfl dX5_turn_4 (fun c4 => ?_) (fun c4 => ?_)
  · obtain ⟨r1, hr1, rfl⟩ := rm_ok c4
    have er1 := nI_clamp (n := r1) (by omega)
    refine ca_iload_n hX (q := 14) 2 rfl rfl rfl dX5_turn_13 ?_
    refine ca_if_lt hX (q := 17) 23 rfl rfl dX5_turn_14 (fun c14 => ?_) (fun c14 => ?_)
    · refine ca_aload_n hX (q := 24) 0 rfl rfl rfl dX5_turn_23 ?_
      refine ca_bipush hX (q := 26) k_bipush_m2 rfl dX5_turn_24 ?_
      refine ca_cV hX (q := 29) y_X5_refuse w_ml_X5_53 (by omega) hN hc (c_X5_refuse l N g _ hc hN31 (M 6) h30 (-2) 2 (by decide) (by omega) (by omega)) (by decide) rfl (Nat.le_of_ble_eq_true rfl) rfl dX5_turn_26 rfl ?_
      rintro _ g ⟨rfl, h30, hf⟩
      have hx := hx.rf hf h30
      have hfr := hfr.tr (hf.wd (by omega) (by omega))
      refine ca_iret hX rfl rfl rfl rfl dX5_turn_29 ?_
      exact cl_end (by simp [tuA, inB, noA, nk1, nk2, nk3, nk4, nk6, c4, er1, c14, (Int32.not_le.mpr c14)]) hfr hx
    · refine ca_iload_n hX (q := 18) 2 rfl rfl rfl dX5_turn_17 ?_
      refine ca_bipush hX (q := 20) k_bipush_6 rfl dX5_turn_18 ?_
      refine ca_icmp_lt hX (q := 23) 30 rfl rfl dX5_turn_20 (fun c20 => ?_) (fun c20 => ?_)
      · refine ca_iload_n hX (q := 31) 3 rfl rfl rfl dX5_turn_30 ?_
        refine ca_if_ge hX (q := 34) 41 rfl rfl dX5_turn_31 (fun c31 => ?_) (fun c31 => ?_)
        · refine ca_iload_n hX (q := 42) 3 rfl rfl rfl dX5_turn_41 ?_
          refine ca_bipush hX (q := 44) k_bipush_9 rfl dX5_turn_42 ?_
          refine ca_icmp_le hX (q := 47) 54 rfl rfl dX5_turn_44 (fun c44 => ?_) (fun c44 => ?_)
          · refine ca_bipush hX (q := 56) k_bipush_10 rfl dX5_turn_54 ?_
            refine ca_aload_n hX (q := 57) 0 rfl rfl rfl dX5_turn_56 ?_
            refine ca_getf hX (q := 60) cl_X5 0 (by decide) w_fl_X5_10 (by omega) hc rfl rfl dX5_turn_57 ?_
            refine ca_iload_n hX (q := 61) 1 rfl rfl rfl dX5_turn_60 ?_
            refine ca_cVi hX (q := 64) y_X1_kindOf w_ml_X5_82 (by omega) hN h0 (c_X1_kindOf l N g 1 (M 0) hh (by omega) r1 hr1) (by decide) rfl (Nat.le_of_ble_eq_true rfl) rfl dX5_turn_61 rfl ?_
            refine ca_imul hX (q := 65) rfl dX5_turn_64 ?_
            refine ca_aload_n hX (q := 66) 0 rfl rfl rfl dX5_turn_65 ?_
            refine ca_getf hX (q := 69) cl_X5 0 (by decide) w_fl_X5_10 (by omega) hc rfl rfl dX5_turn_66 ?_
            refine ca_iload_n hX (q := 70) 1 rfl rfl rfl dX5_turn_69 ?_
            refine ca_cVi hX (q := 73) y_X1_figureOf w_ml_X5_85 (by omega) hN h0 (c_X1_figureOf l N g 1 (M 0) hh (by omega) r1 hr1) (by decide) rfl (Nat.le_of_ble_eq_true rfl) rfl dX5_turn_70 rfl ?_
            refine ca_iadd hX (q := 74) rfl dX5_turn_73 ?_
            refine ca_istore hX (q := 76) (ls' := [_, _, _, _, _]) (Nat.le_of_ble_eq_true rfl) (Nat.le_of_ble_eq_true rfl) (Or.inr rfl) rfl rfl dX5_turn_74 ?_
            refine ca_aload_n hX (q := 77) 0 rfl rfl rfl dX5_turn_76 ?_
            refine ca_getf hX (q := 80) cl_X5 0 (by decide) w_fl_X5_10 (by omega) hc rfl rfl dX5_turn_77 ?_
            refine ca_iload_n hX (q := 81) 1 rfl rfl rfl dX5_turn_80 ?_
            refine ca_iload_n hX (q := 82) 2 rfl rfl rfl dX5_turn_81 ?_
            refine ca_iload_n hX (q := 83) 3 rfl rfl rfl dX5_turn_82 ?_
            refine ca_cV hX (q := 86) y_X1_put w_ml_X5_107 (by omega) hN h0 (c_X1_put l N g 1 (M 0) hh (by omega) r1 hr1 x2 x3) (by decide) rfl (Nat.le_of_ble_eq_true rfl) rfl dX5_turn_83 rfl ?_
            rintro _ g ⟨rfl, hq, hf⟩
            have hx := hx.hs hf hq
            have hfr := hfr.tr (hf.wd (by omega) (by omega))
            refine ca_iload hX (q := 88) rfl rfl dX5_turn_86 ?_
            refine ca_iret hX rfl rfl rfl rfl dX5_turn_88 ?_
            exact cl_end (by simp [tuA, inB, noA, nk1, nk2, nk3, nk4, nk6, c4, er1, c14, (Int32.not_lt.mp c14), c20, (Int32.not_le.mpr c20), (in_56 _ c20), c31, (Int32.not_lt.mpr c31), c44, (Int32.not_lt.mpr c44)]) hfr hx
          · refine ca_aload_n hX (q := 48) 0 rfl rfl rfl dX5_turn_47 ?_
            refine ca_bipush hX (q := 50) k_bipush_m6 rfl dX5_turn_48 ?_
            refine ca_cV hX (q := 53) y_X5_refuse w_ml_X5_53 (by omega) hN hc (c_X5_refuse l N g _ hc hN31 (M 6) h30 (-6) 6 (by decide) (by omega) (by omega)) (by decide) rfl (Nat.le_of_ble_eq_true rfl) rfl dX5_turn_50 rfl ?_
            rintro _ g ⟨rfl, h30, hf⟩
            have hx := hx.rf hf h30
            have hfr := hfr.tr (hf.wd (by omega) (by omega))
            refine ca_iret hX rfl rfl rfl rfl dX5_turn_53 ?_
            exact cl_end (by simp [tuA, inB, noA, nk1, nk2, nk3, nk4, nk6, c4, er1, c14, (Int32.not_lt.mp c14), c20, (Int32.not_le.mpr c20), (in_56 _ c20), c31, (Int32.not_lt.mpr c31), c44, (Int32.not_le.mp c44)]) hfr hx
        · refine ca_aload_n hX (q := 35) 0 rfl rfl rfl dX5_turn_34 ?_
          refine ca_bipush hX (q := 37) k_bipush_m4 rfl dX5_turn_35 ?_
          refine ca_cV hX (q := 40) y_X5_refuse w_ml_X5_53 (by omega) hN hc (c_X5_refuse l N g _ hc hN31 (M 6) h30 (-4) 4 (by decide) (by omega) (by omega)) (by decide) rfl (Nat.le_of_ble_eq_true rfl) rfl dX5_turn_37 rfl ?_
          rintro _ g ⟨rfl, h30, hf⟩
          have hx := hx.rf hf h30
          have hfr := hfr.tr (hf.wd (by omega) (by omega))
          refine ca_iret hX rfl rfl rfl rfl dX5_turn_40 ?_
          exact cl_end (by simp [tuA, inB, noA, nk1, nk2, nk3, nk4, nk6, c4, er1, c14, (Int32.not_lt.mp c14), c20, (Int32.not_le.mpr c20), (in_56 _ c20), c31, (Int32.not_le.mp c31)]) hfr hx
      · refine ca_aload_n hX (q := 24) 0 rfl rfl rfl dX5_turn_23 ?_
        refine ca_bipush hX (q := 26) k_bipush_m2 rfl dX5_turn_24 ?_
        refine ca_cV hX (q := 29) y_X5_refuse w_ml_X5_53 (by omega) hN hc (c_X5_refuse l N g _ hc hN31 (M 6) h30 (-2) 2 (by decide) (by omega) (by omega)) (by decide) rfl (Nat.le_of_ble_eq_true rfl) rfl dX5_turn_26 rfl ?_
        rintro _ g ⟨rfl, h30, hf⟩
        have hx := hx.rf hf h30
        have hfr := hfr.tr (hf.wd (by omega) (by omega))
        refine ca_iret hX rfl rfl rfl rfl dX5_turn_29 ?_
        exact cl_end (by simp [tuA, inB, noA, nk1, nk2, nk3, nk4, nk6, c4, er1, c14, (Int32.not_lt.mp c14), c20, (Int32.not_lt.mp c20), (in_56n _ c20)]) hfr hx
  · refine ca_aload_n hX (q := 8) 0 rfl rfl rfl dX5_turn_7 ?_
    refine ca_iconst hX (q := 9) k_iconst_m1 rfl dX5_turn_8 ?_
    refine ca_cV hX (q := 12) y_X5_refuse w_ml_X5_53 (by omega) hN hc (c_X5_refuse l N g _ hc hN31 (M 6) h30 (-1) 1 (by decide) (by omega) (by omega)) (by decide) rfl (Nat.le_of_ble_eq_true rfl) rfl dX5_turn_9 rfl ?_
    rintro _ g ⟨rfl, h30, hf⟩
    have hx := hx.rf hf h30
    have hfr := hfr.tr (hf.wd (by omega) (by omega))
    refine ca_iret hX rfl rfl rfl rfl dX5_turn_12 ?_
    exact cl_end (by simp [tuA, inB, noA, nk1, nk2, nk3, nk4, nk6, c4]) hfr hx

set_option maxRecDepth 100000 in
set_option maxHeartbeats 4000000 in
theorem k_sharp (l : Launch) (N : Nat) (g0 : ca_G) (M : Nat → Nat → Int32) (t : Nat → Int32) (B : Nat → Nat → Int32) (hx : clX g0 M t B) (hN31 : 31 ≤ N) (P : Nat) (w : wfH (M 0) P) (x1 x2 : Int32) : ca_Ct l yX5_sharp cX5_sharp 4 (some .int) 3 0 0 N 1000000 [.ref 0, .int x1, .int x2] g0 (clP g0 (shA M x1 x2)) := by
  refine ca_intro (by decide) (Nat.le_of_ble_eq_true rfl) (fun X hX hN => ?_)
  show X 0 [_, _, _, none] [] N 1000000 g0
  obtain ⟨g, hgg⟩ : ∃ g, g = g0 := ⟨g0, rfl⟩
  rw [← hgg] at hx ⊢
  have hfr : frG g0 g 0 31 := by rw [hgg]; exact frG.rf
  obtain ⟨hc, hh, hkp, htr, hz, htl, hlt, hrw, h30⟩ := id hx
  have h0 := hh.1
  have k0 := hkp.1
  have t0 := htr.1
  have d0 := hz.1
  have l0 := hlt.1
  have w0 := hrw.1
  have hP := w.1
  have hP5 := w.2.1
  have hok := wf_ok w
  refine ca_aload_n hX (q := 1) 0 rfl rfl rfl dX5_sharp_0 ?_
  refine ca_iload_n hX (q := 2) 1 rfl rfl rfl dX5_sharp_1 ?_
  refine ca_cVi hX (q := 5) y_X5_isPerson w_ml_X5_97 (by omega) hN hc (c_X5_isPerson l N g _ hc hN31 (M 0) hh _) (by decide) rfl (Nat.le_of_ble_eq_true rfl) rfl dX5_sharp_2 rfl ?_
  refine ca_if_ne hX (q := 8) 14 rfl rfl dX5_sharp_5 (fun c5 => ?_) (fun c5 => ?_)
  · obtain ⟨p1, hp1, rfl⟩ := hp_ok hP hP5 c5
    have ep1 := nI_clamp (n := p1) (by omega)
    refine ca_iload_n hX (q := 15) 2 rfl rfl rfl dX5_sharp_14 ?_
    refine ca_iconst hX (q := 16) k_iconst_1 rfl dX5_sharp_15 ?_
    refine ca_icmp_ge hX (q := 19) 26 rfl rfl dX5_sharp_16 (fun c16 => ?_) (fun c16 => ?_)
    · refine ca_iload_n hX (q := 27) 2 rfl rfl rfl dX5_sharp_26 ?_
      refine ca_bipush hX (q := 29) k_bipush_9 rfl dX5_sharp_27 ?_
      refine ca_icmp_le hX (q := 32) 39 rfl rfl dX5_sharp_29 (fun c29 => ?_) (fun c29 => ?_)
      · refine ca_aload_n hX (q := 40) 0 rfl rfl rfl dX5_sharp_39 ?_
        refine ca_getf hX (q := 43) cl_X5 0 (by decide) w_fl_X5_10 (by omega) hc rfl rfl dX5_sharp_40 ?_
        refine ca_iload_n hX (q := 44) 1 rfl rfl rfl dX5_sharp_43 ?_
        refine ca_cVi hX (q := 47) y_X1_sharpOf w_ml_X5_100 (by omega) hN h0 (c_X1_sharpOf l N g 1 (M 0) hh (by omega) P hP hP5 p1 hp1) (by decide) rfl (Nat.le_of_ble_eq_true rfl) rfl dX5_sharp_44 rfl ?_
        refine ca_istore_n hX (q := 48) 3 rfl (ls' := [_, _, _, _]) (Nat.le_of_ble_eq_true rfl) (Nat.le_of_ble_eq_true rfl) (Or.inr rfl) rfl rfl dX5_sharp_47 ?_
        refine ca_aload_n hX (q := 49) 0 rfl rfl rfl dX5_sharp_48 ?_
        refine ca_getf hX (q := 52) cl_X5 0 (by decide) w_fl_X5_10 (by omega) hc rfl rfl dX5_sharp_49 ?_
        refine ca_iload_n hX (q := 53) 1 rfl rfl rfl dX5_sharp_52 ?_
        refine ca_iload_n hX (q := 54) 2 rfl rfl rfl dX5_sharp_53 ?_
        refine ca_cV hX (q := 57) y_X1_sharpen w_ml_X5_111 (by omega) hN h0 (c_X1_sharpen l N g 1 (M 0) hh (by omega) P hP hP5 p1 hp1 x2) (by decide) rfl (Nat.le_of_ble_eq_true rfl) rfl dX5_sharp_54 rfl ?_
        rintro _ g ⟨rfl, hq, hf⟩
        have hx := hx.hs hf hq
        have hfr := hfr.tr (hf.wd (by omega) (by omega))
        refine ca_iload_n hX (q := 58) 3 rfl rfl rfl dX5_sharp_57 ?_
        refine ca_iret hX rfl rfl rfl rfl dX5_sharp_58 ?_
        exact cl_end (by simp [shA, noA, nk1, nk2, nk3, nk4, nk6, c5, ep1, c16, (Int32.not_lt.mpr c16), c29, (Int32.not_lt.mpr c29)]) hfr hx
      · refine ca_aload_n hX (q := 33) 0 rfl rfl rfl dX5_sharp_32 ?_
        refine ca_bipush hX (q := 35) k_bipush_m6 rfl dX5_sharp_33 ?_
        refine ca_cV hX (q := 38) y_X5_refuse w_ml_X5_53 (by omega) hN hc (c_X5_refuse l N g _ hc hN31 (M 6) h30 (-6) 6 (by decide) (by omega) (by omega)) (by decide) rfl (Nat.le_of_ble_eq_true rfl) rfl dX5_sharp_35 rfl ?_
        rintro _ g ⟨rfl, h30, hf⟩
        have hx := hx.rf hf h30
        have hfr := hfr.tr (hf.wd (by omega) (by omega))
        refine ca_iret hX rfl rfl rfl rfl dX5_sharp_38 ?_
        exact cl_end (by simp [shA, noA, nk1, nk2, nk3, nk4, nk6, c5, ep1, c16, (Int32.not_lt.mpr c16), c29, (Int32.not_le.mp c29)]) hfr hx
    · refine ca_aload_n hX (q := 20) 0 rfl rfl rfl dX5_sharp_19 ?_
      refine ca_bipush hX (q := 22) k_bipush_m4 rfl dX5_sharp_20 ?_
      refine ca_cV hX (q := 25) y_X5_refuse w_ml_X5_53 (by omega) hN hc (c_X5_refuse l N g _ hc hN31 (M 6) h30 (-4) 4 (by decide) (by omega) (by omega)) (by decide) rfl (Nat.le_of_ble_eq_true rfl) rfl dX5_sharp_22 rfl ?_
      rintro _ g ⟨rfl, h30, hf⟩
      have hx := hx.rf hf h30
      have hfr := hfr.tr (hf.wd (by omega) (by omega))
      refine ca_iret hX rfl rfl rfl rfl dX5_sharp_25 ?_
      exact cl_end (by simp [shA, noA, nk1, nk2, nk3, nk4, nk6, c5, ep1, c16, (Int32.not_le.mp c16)]) hfr hx
  · refine ca_aload_n hX (q := 9) 0 rfl rfl rfl dX5_sharp_8 ?_
    refine ca_iconst hX (q := 10) k_iconst_m1 rfl dX5_sharp_9 ?_
    refine ca_cV hX (q := 13) y_X5_refuse w_ml_X5_53 (by omega) hN hc (c_X5_refuse l N g _ hc hN31 (M 6) h30 (-1) 1 (by decide) (by omega) (by omega)) (by decide) rfl (Nat.le_of_ble_eq_true rfl) rfl dX5_sharp_10 rfl ?_
    rintro _ g ⟨rfl, h30, hf⟩
    have hx := hx.rf hf h30
    have hfr := hfr.tr (hf.wd (by omega) (by omega))
    refine ca_iret hX rfl rfl rfl rfl dX5_sharp_13 ?_
    exact cl_end (by simp [shA, noA, nk1, nk2, nk3, nk4, nk6, c5]) hfr hx

set_option maxRecDepth 100000 in
set_option maxHeartbeats 4000000 in
theorem k_visit (l : Launch) (N : Nat) (g0 : ca_G) (M : Nat → Nat → Int32) (t : Nat → Int32) (B : Nat → Nat → Int32) (hx : clX g0 M t B) (hN31 : 31 ≤ N) (P : Nat) (w : wfH (M 0) P) (x1 x2 x3 : Int32) : ca_Ct l yX5_visit cX5_visit 5 (some .int) 3 0 0 N 1000000 [.ref 0, .int x1, .int x2, .int x3] g0 (clP g0 (viA M x1 x2 x3)) := by
  refine ca_intro (by decide) (Nat.le_of_ble_eq_true rfl) (fun X hX hN => ?_)
  show X 0 [_, _, _, _, none] [] N 1000000 g0
  obtain ⟨g, hgg⟩ : ∃ g, g = g0 := ⟨g0, rfl⟩
  rw [← hgg] at hx ⊢
  have hfr : frG g0 g 0 31 := by rw [hgg]; exact frG.rf
  obtain ⟨hc, hh, hkp, htr, hz, htl, hlt, hrw, h30⟩ := id hx
  have h0 := hh.1
  have k0 := hkp.1
  have t0 := htr.1
  have d0 := hz.1
  have l0 := hlt.1
  have w0 := hrw.1
  have hP := w.1
  have hP5 := w.2.1
  have hok := wf_ok w
  refine ca_aload_n hX (q := 1) 0 rfl rfl rfl dX5_visit_0 ?_
  refine ca_iload_n hX (q := 2) 1 rfl rfl rfl dX5_visit_1 ?_
  refine ca_cVi hX (q := 5) y_X5_isPerson w_ml_X5_97 (by omega) hN hc (c_X5_isPerson l N g _ hc hN31 (M 0) hh _) (by decide) rfl (Nat.le_of_ble_eq_true rfl) rfl dX5_visit_2 rfl ?_
  refine ca_if_eq hX (q := 8) 15 rfl rfl dX5_visit_5 (fun c5 => ?_) (fun c5 => ?_)
  · refine ca_aload_n hX (q := 16) 0 rfl rfl rfl dX5_visit_15 ?_
    refine ca_iconst hX (q := 17) k_iconst_m1 rfl dX5_visit_16 ?_
    refine ca_cV hX (q := 20) y_X5_refuse w_ml_X5_53 (by omega) hN hc (c_X5_refuse l N g _ hc hN31 (M 6) h30 (-1) 1 (by decide) (by omega) (by omega)) (by decide) rfl (Nat.le_of_ble_eq_true rfl) rfl dX5_visit_17 rfl ?_
    rintro _ g ⟨rfl, h30, hf⟩
    have hx := hx.rf hf h30
    have hfr := hfr.tr (hf.wd (by omega) (by omega))
    refine ca_iret hX rfl rfl rfl rfl dX5_visit_20 ?_
    exact cl_end (by simp [viA, noA, nk1, nk2, nk3, nk4, nk6, c5]) hfr hx
  · obtain ⟨p1, hp1, rfl⟩ := hp_ok hP hP5 c5
    have ep1 := nI_clamp (n := p1) (by omega)
    refine ca_iload_n hX (q := 9) 2 rfl rfl rfl dX5_visit_8 ?_
    refine ca_cSi hX (q := 12) y_X5_isRoom w_ml_X5_78 hN (c_X5_isRoom l N g _) (by decide) rfl (Nat.le_of_ble_eq_true rfl) rfl dX5_visit_9 rfl ?_
    refine ca_if_ne hX (q := 15) 21 rfl rfl dX5_visit_12 (fun c12 => ?_) (fun c12 => ?_)
    · obtain ⟨r2, hr2, rfl⟩ := rm_ok c12
      have er2 := nI_clamp (n := r2) (by omega)
      refine ca_iload_n hX (q := 22) 3 rfl rfl rfl dX5_visit_21 ?_
      refine ca_if_ge hX (q := 25) 32 rfl rfl dX5_visit_22 (fun c22 => ?_) (fun c22 => ?_)
      · refine ca_iload_n hX (q := 33) 3 rfl rfl rfl dX5_visit_32 ?_
        refine ca_bipush hX (q := 35) k_bipush_9 rfl dX5_visit_33 ?_
        refine ca_icmp_le hX (q := 38) 45 rfl rfl dX5_visit_35 (fun c35 => ?_) (fun c35 => ?_)
        · refine ca_aload_n hX (q := 46) 0 rfl rfl rfl dX5_visit_45 ?_
          refine ca_getf hX (q := 49) cl_X5 0 (by decide) w_fl_X5_10 (by omega) hc rfl rfl dX5_visit_46 ?_
          refine ca_iload_n hX (q := 50) 1 rfl rfl rfl dX5_visit_49 ?_
          refine ca_iload_n hX (q := 51) 2 rfl rfl rfl dX5_visit_50 ?_
          refine ca_cVi hX (q := 54) y_X1_knownBy w_ml_X5_103 (by omega) hN h0 (c_X1_knownBy l N g 1 (M 0) hh (by omega) P hP hP5 p1 r2 hp1 hr2) (by decide) rfl (Nat.le_of_ble_eq_true rfl) rfl dX5_visit_51 rfl ?_
          refine ca_istore hX (q := 56) (ls' := [_, _, _, _, _]) (Nat.le_of_ble_eq_true rfl) (Nat.le_of_ble_eq_true rfl) (Or.inr rfl) rfl rfl dX5_visit_54 ?_
          refine ca_aload_n hX (q := 57) 0 rfl rfl rfl dX5_visit_56 ?_
          refine ca_getf hX (q := 60) cl_X5 0 (by decide) w_fl_X5_10 (by omega) hc rfl rfl dX5_visit_57 ?_
          refine ca_iload_n hX (q := 61) 1 rfl rfl rfl dX5_visit_60 ?_
          refine ca_iload_n hX (q := 62) 2 rfl rfl rfl dX5_visit_61 ?_
          refine ca_iload_n hX (q := 63) 3 rfl rfl rfl dX5_visit_62 ?_
          refine ca_cV hX (q := 66) y_X1_learn w_ml_X5_115 (by omega) hN h0 (c_X1_learn l N g 1 (M 0) hh (by omega) P hP hP5 p1 r2 hp1 hr2 x3) (by decide) rfl (Nat.le_of_ble_eq_true rfl) rfl dX5_visit_63 rfl ?_
          rintro _ g ⟨rfl, hq, hf⟩
          have hx := hx.hs hf hq
          have hfr := hfr.tr (hf.wd (by omega) (by omega))
          refine ca_iload hX (q := 68) rfl rfl dX5_visit_66 ?_
          refine ca_iret hX rfl rfl rfl rfl dX5_visit_68 ?_
          exact cl_end (by simp [viA, noA, nk1, nk2, nk3, nk4, nk6, c5, ep1, c12, er2, c22, (Int32.not_lt.mpr c22), c35, (Int32.not_lt.mpr c35)]) hfr hx
        · refine ca_aload_n hX (q := 39) 0 rfl rfl rfl dX5_visit_38 ?_
          refine ca_bipush hX (q := 41) k_bipush_m6 rfl dX5_visit_39 ?_
          refine ca_cV hX (q := 44) y_X5_refuse w_ml_X5_53 (by omega) hN hc (c_X5_refuse l N g _ hc hN31 (M 6) h30 (-6) 6 (by decide) (by omega) (by omega)) (by decide) rfl (Nat.le_of_ble_eq_true rfl) rfl dX5_visit_41 rfl ?_
          rintro _ g ⟨rfl, h30, hf⟩
          have hx := hx.rf hf h30
          have hfr := hfr.tr (hf.wd (by omega) (by omega))
          refine ca_iret hX rfl rfl rfl rfl dX5_visit_44 ?_
          exact cl_end (by simp [viA, noA, nk1, nk2, nk3, nk4, nk6, c5, ep1, c12, er2, c22, (Int32.not_lt.mpr c22), c35, (Int32.not_le.mp c35)]) hfr hx
      · refine ca_aload_n hX (q := 26) 0 rfl rfl rfl dX5_visit_25 ?_
        refine ca_bipush hX (q := 28) k_bipush_m4 rfl dX5_visit_26 ?_
        refine ca_cV hX (q := 31) y_X5_refuse w_ml_X5_53 (by omega) hN hc (c_X5_refuse l N g _ hc hN31 (M 6) h30 (-4) 4 (by decide) (by omega) (by omega)) (by decide) rfl (Nat.le_of_ble_eq_true rfl) rfl dX5_visit_28 rfl ?_
        rintro _ g ⟨rfl, h30, hf⟩
        have hx := hx.rf hf h30
        have hfr := hfr.tr (hf.wd (by omega) (by omega))
        refine ca_iret hX rfl rfl rfl rfl dX5_visit_31 ?_
        exact cl_end (by simp [viA, noA, nk1, nk2, nk3, nk4, nk6, c5, ep1, c12, er2, c22, (Int32.not_le.mp c22)]) hfr hx
    · refine ca_aload_n hX (q := 16) 0 rfl rfl rfl dX5_visit_15 ?_
      refine ca_iconst hX (q := 17) k_iconst_m1 rfl dX5_visit_16 ?_
      refine ca_cV hX (q := 20) y_X5_refuse w_ml_X5_53 (by omega) hN hc (c_X5_refuse l N g _ hc hN31 (M 6) h30 (-1) 1 (by decide) (by omega) (by omega)) (by decide) rfl (Nat.le_of_ble_eq_true rfl) rfl dX5_visit_17 rfl ?_
      rintro _ g ⟨rfl, h30, hf⟩
      have hx := hx.rf hf h30
      have hfr := hfr.tr (hf.wd (by omega) (by omega))
      refine ca_iret hX rfl rfl rfl rfl dX5_visit_20 ?_
      exact cl_end (by simp [viA, noA, nk1, nk2, nk3, nk4, nk6, c5, ep1, c12]) hfr hx

set_option maxRecDepth 100000 in
set_option maxHeartbeats 4000000 in
theorem k_letter (l : Launch) (N : Nat) (g0 : ca_G) (M : Nat → Nat → Int32) (t : Nat → Int32) (B : Nat → Nat → Int32) (hx : clX g0 M t B) (hN31 : 31 ≤ N) (k : Nat) (hk : M 13 1 = nI k) (hk6 : k ≤ 96) (x1 : Int32) : ca_Ct l yX5_letter cX5_letter 2 (some .int) 2 0 0 N 1000000 [.ref 0, .int x1] g0 (clP g0 (leA M k x1)) := by
  refine ca_intro (by decide) (Nat.le_of_ble_eq_true rfl) (fun X hX hN => ?_)
  show X 0 [_, _] [] N 1000000 g0
  obtain ⟨g, hgg⟩ : ∃ g, g = g0 := ⟨g0, rfl⟩
  rw [← hgg] at hx ⊢
  have hfr : frG g0 g 0 31 := by rw [hgg]; exact frG.rf
  obtain ⟨hc, hh, hkp, htr, hz, htl, hlt, hrw, h30⟩ := id hx
  have h0 := hh.1
  have k0 := hkp.1
  have t0 := htr.1
  have d0 := hz.1
  have l0 := hlt.1
  have w0 := hrw.1
  have hnl : nbG g 26 96 (M 4) k := ⟨by rw [← hk]; exact hlt.1, hlt.2⟩
  refine ca_iload_n hX (q := 1) 1 rfl rfl rfl dX5_letter_0 ?_
  refine ca_if_ge hX (q := 4) 11 rfl rfl dX5_letter_1 (fun c1 => ?_) (fun c1 => ?_)
  · refine ca_iload_n hX (q := 12) 1 rfl rfl rfl dX5_letter_11 ?_
    refine ca_sipush hX (q := 15) k_sipush_255 rfl dX5_letter_12 ?_
    refine ca_icmp_gt hX (q := 18) 31 rfl rfl dX5_letter_15 (fun c15 => ?_) (fun c15 => ?_)
    · refine ca_aload_n hX (q := 32) 0 rfl rfl rfl dX5_letter_31 ?_
      refine ca_bipush hX (q := 34) k_bipush_m6 rfl dX5_letter_32 ?_
      refine ca_cV hX (q := 37) y_X5_refuse w_ml_X5_53 (by omega) hN hc (c_X5_refuse l N g _ hc hN31 (M 6) h30 (-6) 6 (by decide) (by omega) (by omega)) (by decide) rfl (Nat.le_of_ble_eq_true rfl) rfl dX5_letter_34 rfl ?_
      rintro _ g ⟨rfl, h30, hf⟩
      have hx := hx.rf hf h30
      have hfr := hfr.tr (hf.wd (by omega) (by omega))
      refine ca_iret hX rfl rfl rfl rfl dX5_letter_37 ?_
      exact cl_end (by simp [leA, noA, nk1, nk2, nk3, nk4, nk6, c1, (Int32.not_lt.mpr c1), c15, (Int32.not_le.mpr c15)]) hfr hx
    · refine ca_aload_n hX (q := 19) 0 rfl rfl rfl dX5_letter_18 ?_
      refine ca_getf hX (q := 22) cl_X5 4 (by decide) w_fl_X5_32 (by omega) hc rfl rfl dX5_letter_19 ?_
      refine ca_getN hX (q := 25) cl_X4 0 (by decide) w_fn_X5_57 (by omega) htl rfl rfl dX5_letter_22 ?_
      refine ca_cVi hX (q := 28) y_X3_isFull w_ml_X5_60 (by omega) hN l0 (c_X3_isFull l N g 26 96 k (M 4) hnl (by omega) (by omega) hk6) (by decide) rfl (Nat.le_of_ble_eq_true rfl) rfl dX5_letter_25 rfl ?_
      refine ca_if_eq hX (q := 31) 38 rfl rfl dX5_letter_28 (fun c28 => ?_) (fun c28 => ?_)
      · have q96 : k < 96 := Classical.byContradiction (fun z => by rw [if_neg z] at c28; exact absurd c28 (by decide))
        refine ca_aload_n hX (q := 39) 0 rfl rfl rfl dX5_letter_38 ?_
        refine ca_getf hX (q := 42) cl_X5 4 (by decide) w_fl_X5_32 (by omega) hc rfl rfl dX5_letter_39 ?_
        refine ca_getN hX (q := 45) cl_X4 0 (by decide) w_fn_X5_57 (by omega) htl rfl rfl dX5_letter_42 ?_
        refine ca_iload_n hX (q := 46) 1 rfl rfl rfl dX5_letter_45 ?_
        refine ca_cV hX (q := 49) y_X3_add w_ml_X5_64 (by omega) hN l0 (c_X3_add l N g 26 96 k (M 4) hnl (by omega) (by omega) q96 x1) (by decide) rfl (Nat.le_of_ble_eq_true rfl) rfl dX5_letter_46 rfl ?_
        rintro _ g ⟨rfl, hq, hf⟩
        have hx := hx.lt hf hq
        have hfr := hfr.tr (hf.wd (by omega) (by omega))
        refine ca_iret hX rfl rfl rfl rfl dX5_letter_49 ?_
        exact cl_end (by simp [leA, noA, nk1, nk2, nk3, nk4, nk6, c1, (Int32.not_lt.mpr c1), c15, (Int32.not_lt.mp c15), c28, q96]) hfr hx
      · have q96 : ¬ k < 96 := fun z => c28 (if_pos z)
        refine ca_aload_n hX (q := 32) 0 rfl rfl rfl dX5_letter_31 ?_
        refine ca_bipush hX (q := 34) k_bipush_m6 rfl dX5_letter_32 ?_
        refine ca_cV hX (q := 37) y_X5_refuse w_ml_X5_53 (by omega) hN hc (c_X5_refuse l N g _ hc hN31 (M 6) h30 (-6) 6 (by decide) (by omega) (by omega)) (by decide) rfl (Nat.le_of_ble_eq_true rfl) rfl dX5_letter_34 rfl ?_
        rintro _ g ⟨rfl, h30, hf⟩
        have hx := hx.rf hf h30
        have hfr := hfr.tr (hf.wd (by omega) (by omega))
        refine ca_iret hX rfl rfl rfl rfl dX5_letter_37 ?_
        exact cl_end (by simp [leA, noA, nk1, nk2, nk3, nk4, nk6, c1, (Int32.not_lt.mpr c1), c15, (Int32.not_lt.mp c15), c28, q96]) hfr hx
  · refine ca_aload_n hX (q := 5) 0 rfl rfl rfl dX5_letter_4 ?_
    refine ca_bipush hX (q := 7) k_bipush_m4 rfl dX5_letter_5 ?_
    refine ca_cV hX (q := 10) y_X5_refuse w_ml_X5_53 (by omega) hN hc (c_X5_refuse l N g _ hc hN31 (M 6) h30 (-4) 4 (by decide) (by omega) (by omega)) (by decide) rfl (Nat.le_of_ble_eq_true rfl) rfl dX5_letter_7 rfl ?_
    rintro _ g ⟨rfl, h30, hf⟩
    have hx := hx.rf hf h30
    have hfr := hfr.tr (hf.wd (by omega) (by omega))
    refine ca_iret hX rfl rfl rfl rfl dX5_letter_10 ?_
    exact cl_end (by simp [leA, noA, nk1, nk2, nk3, nk4, nk6, c1, (Int32.not_le.mp c1)]) hfr hx

set_option maxRecDepth 100000 in
set_option maxHeartbeats 4000000 in
theorem k_row (l : Launch) (N : Nat) (g0 : ca_G) (M : Nat → Nat → Int32) (t : Nat → Int32) (B : Nat → Nat → Int32) (hx : clX g0 M t B) (hN31 : 31 ≤ N) (k : Nat) (hk : M 13 2 = nI k) (hk6 : k ≤ 25) (x1 : Int32) : ca_Ct l yX5_row cX5_row 2 (some .int) 2 0 0 N 1000000 [.ref 0, .int x1] g0 (clP g0 (rwA M k x1)) := by
  refine ca_intro (by decide) (Nat.le_of_ble_eq_true rfl) (fun X hX hN => ?_)
  show X 0 [_, _] [] N 1000000 g0
  obtain ⟨g, hgg⟩ : ∃ g, g = g0 := ⟨g0, rfl⟩
  rw [← hgg] at hx ⊢
  have hfr : frG g0 g 0 31 := by rw [hgg]; exact frG.rf
  obtain ⟨hc, hh, hkp, htr, hz, htl, hlt, hrw, h30⟩ := id hx
  have h0 := hh.1
  have k0 := hkp.1
  have t0 := htr.1
  have d0 := hz.1
  have l0 := hlt.1
  have w0 := hrw.1
  have hnr : nbG g 28 25 (M 5) k := ⟨by rw [← hk]; exact hrw.1, hrw.2⟩
  refine ca_iload_n hX (q := 1) 1 rfl rfl rfl dX5_row_0 ?_
  refine ca_if_ge hX (q := 4) 11 rfl rfl dX5_row_1 (fun c1 => ?_) (fun c1 => ?_)
  · refine ca_iload_n hX (q := 12) 1 rfl rfl rfl dX5_row_11 ?_
    refine ca_bipush hX (q := 14) k_bipush_99 rfl dX5_row_12 ?_
    refine ca_icmp_gt hX (q := 17) 27 rfl rfl dX5_row_14 (fun c14 => ?_) (fun c14 => ?_)
    · refine ca_aload_n hX (q := 28) 0 rfl rfl rfl dX5_row_27 ?_
      refine ca_bipush hX (q := 30) k_bipush_m6 rfl dX5_row_28 ?_
      refine ca_cV hX (q := 33) y_X5_refuse w_ml_X5_53 (by omega) hN hc (c_X5_refuse l N g _ hc hN31 (M 6) h30 (-6) 6 (by decide) (by omega) (by omega)) (by decide) rfl (Nat.le_of_ble_eq_true rfl) rfl dX5_row_30 rfl ?_
      rintro _ g ⟨rfl, h30, hf⟩
      have hx := hx.rf hf h30
      have hfr := hfr.tr (hf.wd (by omega) (by omega))
      refine ca_iret hX rfl rfl rfl rfl dX5_row_33 ?_
      exact cl_end (by simp [rwA, noA, nk1, nk2, nk3, nk4, nk6, c1, (Int32.not_lt.mpr c1), c14, (Int32.not_le.mpr c14)]) hfr hx
    · refine ca_aload_n hX (q := 18) 0 rfl rfl rfl dX5_row_17 ?_
      refine ca_getf hX (q := 21) cl_X5 5 (by decide) w_fl_X5_41 (by omega) hc rfl rfl dX5_row_18 ?_
      refine ca_cVi hX (q := 24) y_X3_isFull w_ml_X5_60 (by omega) hN w0 (c_X3_isFull l N g 28 25 k (M 5) hnr (by omega) (by omega) hk6) (by decide) rfl (Nat.le_of_ble_eq_true rfl) rfl dX5_row_21 rfl ?_
      refine ca_if_eq hX (q := 27) 34 rfl rfl dX5_row_24 (fun c24 => ?_) (fun c24 => ?_)
      · have q96 : k < 25 := Classical.byContradiction (fun z => by rw [if_neg z] at c24; exact absurd c24 (by decide))
        refine ca_aload_n hX (q := 35) 0 rfl rfl rfl dX5_row_34 ?_
        refine ca_getf hX (q := 38) cl_X5 5 (by decide) w_fl_X5_41 (by omega) hc rfl rfl dX5_row_35 ?_
        refine ca_iload_n hX (q := 39) 1 rfl rfl rfl dX5_row_38 ?_
        refine ca_cV hX (q := 42) y_X3_add w_ml_X5_64 (by omega) hN w0 (c_X3_add l N g 28 25 k (M 5) hnr (by omega) (by omega) q96 x1) (by decide) rfl (Nat.le_of_ble_eq_true rfl) rfl dX5_row_39 rfl ?_
        rintro _ g ⟨rfl, hq, hf⟩
        have hx := hx.ro hf hq
        have hfr := hfr.tr (hf.wd (by omega) (by omega))
        refine ca_iret hX rfl rfl rfl rfl dX5_row_42 ?_
        exact cl_end (by simp [rwA, noA, nk1, nk2, nk3, nk4, nk6, c1, (Int32.not_lt.mpr c1), c14, (Int32.not_lt.mp c14), c24, q96]) hfr hx
      · have q96 : ¬ k < 25 := fun z => c24 (if_pos z)
        refine ca_aload_n hX (q := 28) 0 rfl rfl rfl dX5_row_27 ?_
        refine ca_bipush hX (q := 30) k_bipush_m6 rfl dX5_row_28 ?_
        refine ca_cV hX (q := 33) y_X5_refuse w_ml_X5_53 (by omega) hN hc (c_X5_refuse l N g _ hc hN31 (M 6) h30 (-6) 6 (by decide) (by omega) (by omega)) (by decide) rfl (Nat.le_of_ble_eq_true rfl) rfl dX5_row_30 rfl ?_
        rintro _ g ⟨rfl, h30, hf⟩
        have hx := hx.rf hf h30
        have hfr := hfr.tr (hf.wd (by omega) (by omega))
        refine ca_iret hX rfl rfl rfl rfl dX5_row_33 ?_
        exact cl_end (by simp [rwA, noA, nk1, nk2, nk3, nk4, nk6, c1, (Int32.not_lt.mpr c1), c14, (Int32.not_lt.mp c14), c24, q96]) hfr hx
  · refine ca_aload_n hX (q := 5) 0 rfl rfl rfl dX5_row_4 ?_
    refine ca_bipush hX (q := 7) k_bipush_m4 rfl dX5_row_5 ?_
    refine ca_cV hX (q := 10) y_X5_refuse w_ml_X5_53 (by omega) hN hc (c_X5_refuse l N g _ hc hN31 (M 6) h30 (-4) 4 (by decide) (by omega) (by omega)) (by decide) rfl (Nat.le_of_ble_eq_true rfl) rfl dX5_row_7 rfl ?_
    rintro _ g ⟨rfl, h30, hf⟩
    have hx := hx.rf hf h30
    have hfr := hfr.tr (hf.wd (by omega) (by omega))
    refine ca_iret hX rfl rfl rfl rfl dX5_row_10 ?_
    exact cl_end (by simp [rwA, noA, nk1, nk2, nk3, nk4, nk6, c1, (Int32.not_le.mp c1)]) hfr hx

set_option maxRecDepth 100000 in
set_option maxHeartbeats 4000000 in
theorem k_clear (l : Launch) (N : Nat) (g0 : ca_G) (M : Nat → Nat → Int32) (t : Nat → Int32) (B : Nat → Nat → Int32) (hx : clX g0 M t B) (hN31 : 31 ≤ N) (k : Nat) (hk : M 13 2 = nI k) (hk6 : k ≤ 25) : ca_Ct l yX5_clear cX5_clear 2 (some .int) 2 0 0 N 1000000 [.ref 0] g0 (clP g0 (cwA M)) := by
  refine ca_intro (by decide) (Nat.le_of_ble_eq_true rfl) (fun X hX hN => ?_)
  show X 0 [_, none] [] N 1000000 g0
  obtain ⟨g, hgg⟩ : ∃ g, g = g0 := ⟨g0, rfl⟩
  rw [← hgg] at hx ⊢
  have hfr : frG g0 g 0 31 := by rw [hgg]; exact frG.rf
  obtain ⟨hc, hh, hkp, htr, hz, htl, hlt, hrw, h30⟩ := id hx
  have h0 := hh.1
  have k0 := hkp.1
  have t0 := htr.1
  have d0 := hz.1
  have l0 := hlt.1
  have w0 := hrw.1
  have hnr : nbG g 28 25 (M 5) k := ⟨by rw [← hk]; exact hrw.1, hrw.2⟩
  refine ca_aload_n hX (q := 1) 0 rfl rfl rfl dX5_clear_0 ?_
  refine ca_getf hX (q := 4) cl_X5 5 (by decide) w_fl_X5_41 (by omega) hc rfl rfl dX5_clear_1 ?_
  refine ca_getN hX (q := 7) cl_X3 1 (by decide) w_fn_X5_213 (by omega) w0 rfl rfl dX5_clear_4 ?_
  refine ca_istore_n hX (q := 8) 1 rfl (ls' := [_, _]) (Nat.le_of_ble_eq_true rfl) (Nat.le_of_ble_eq_true rfl) (Or.inr rfl) rfl rfl dX5_clear_7 ?_
  refine ca_aload_n hX (q := 9) 0 rfl rfl rfl dX5_clear_8 ?_
  refine ca_getf hX (q := 12) cl_X5 5 (by decide) w_fl_X5_41 (by omega) hc rfl rfl dX5_clear_9 ?_
  refine ca_cV hX (q := 15) y_X3_forget w_ml_X5_75 (by omega) hN w0 (c_X3_forget l N g 28 25 k (M 5) hnr (by omega) (by omega) hk6) (by decide) rfl (Nat.le_of_ble_eq_true rfl) rfl dX5_clear_12 rfl ?_
  rintro _ g ⟨rfl, hq, hf⟩
  have hx := hx.ro hf hq
  have hfr := hfr.tr (hf.wd (by omega) (by omega))
  rw [st_id] at hx
  refine ca_iload_n hX (q := 16) 1 rfl rfl rfl dX5_clear_15 ?_
  refine ca_iret hX rfl rfl rfl rfl dX5_clear_16 ?_
  exact cl_end rfl hfr hx

theorem clX.im {g g' : ca_G} {M : Nat → Nat → Int32} {t : Nat → Int32} {B : Nat → Nat → Int32} {x : Int32} (h : clX g M t B) (hE : g' 0 = .inr (4, [.ref 1, .ref 6, .ref 11, .ref 16, .ref 25, .ref 28, .ref 30, .int x])) (hF : ∀ j, j ≠ 0 → g' j = g j) : clX g' (upB M 13 0 x) t B := by
  obtain ⟨h0, h1, h2, h3, h4, h5, h6, h7, h8⟩ := h
  have f : frG g g' 0 1 := fun j hj => hF j (by omega)
  unfold clX
  rw [upB_s, upB_n _ _ _ (j := 0) (by omega), upB_n _ _ _ (j := 2) (by omega), upB_n _ _ _ (j := 4) (by omega), upB_n _ _ _ (j := 5) (by omega), upB_n _ _ _ (j := 6) (by omega), upd_s, upd_n _ _ (by omega), upd_n _ _ (by omega)]
  exact ⟨hE, h1.fr f (by omega), h2.fr f (by omega), h3.fr f (by omega), h4.fr f (by omega), (f 25 (by omega)).trans h5, ⟨(f 26 (by omega)).trans h6.1, (f 27 (by omega)).trans h6.2⟩, ⟨(f 28 (by omega)).trans h7.1, (f 29 (by omega)).trans h7.2⟩, (f 30 (by omega)).trans h8⟩

set_option maxRecDepth 100000 in
set_option maxHeartbeats 4000000 in
theorem k_image (l : Launch) (N : Nat) (g0 : ca_G) (M : Nat → Nat → Int32) (t : Nat → Int32) (B : Nat → Nat → Int32) (hx : clX g0 M t B) (hN31 : 31 ≤ N) : ca_Ct l yX5_image cX5_image 1 (some .int) 2 0 0 N 1000000 [.ref 0] g0 (clP g0 (imA M)) := by
  refine ca_intro (by decide) (Nat.le_of_ble_eq_true rfl) (fun X hX hN => ?_)
  show X 0 [_] [] N 1000000 g0
  obtain ⟨g, hgg⟩ : ∃ g, g = g0 := ⟨g0, rfl⟩
  rw [← hgg] at hx ⊢
  have hfr : frG g0 g 0 31 := by rw [hgg]; exact frG.rf
  obtain ⟨hc, hh, hkp, htr, hz, htl, hlt, hrw, h30⟩ := id hx
  have h0 := hh.1
  have k0 := hkp.1
  have t0 := htr.1
  have d0 := hz.1
  have l0 := hlt.1
  have w0 := hrw.1
  refine ca_aload_n hX (q := 1) 0 rfl rfl rfl dX5_image_0 ?_
  refine ca_getf hX (q := 4) cl_X5 1 (by decide) w_fl_X5_16 (by omega) hc rfl rfl dX5_image_1 ?_
  refine ca_aload_n hX (q := 5) 0 rfl rfl rfl dX5_image_4 ?_
  refine ca_getf hX (q := 8) cl_X5 0 (by decide) w_fl_X5_10 (by omega) hc rfl rfl dX5_image_5 ?_
  refine ca_cV hX (q := 11) y_X1_become w_ml_X5_67 (by omega) hN k0 (c_X1_become l N g 6 (M 2) hkp (by omega) 1 (M 0) hh (by omega) (by omega)) (by decide) rfl (Nat.le_of_ble_eq_true rfl) rfl dX5_image_8 rfl ?_
  rintro _ g ⟨rfl, hq, hf⟩
  have hx := hx.kp hf hq
  have hfr := hfr.tr (hf.wd (by omega) (by omega))
  obtain ⟨hc, hh, hkp, htr, hz, htl, hlt, hrw, h30⟩ := id hx
  have h0 := hh.1
  have k0 := hkp.1
  have t0 := htr.1
  have d0 := hz.1
  have l0 := hlt.1
  have w0 := hrw.1
  refine ca_aload_n hX (q := 12) 0 rfl rfl rfl dX5_image_11 ?_
  refine ca_iconst hX (q := 13) k_iconst_1 rfl dX5_image_12 ?_
  refine ca_putG hX (q := 16) (fs' := [_, _, _, _, _, _, _, _]) cl_X5 7 (by decide) w_fl_X5_49 (Or.inl rfl) (fun _ => rfl) (fun _ => rfl) (by omega) hN hc (Nat.le_of_ble_eq_true rfl) rfl rfl dX5_image_13 (fun g hE hF => ?_)
  have hx := hx.im hE hF
  have hfr := hfr.tr (fun j hj => hF j (by omega))
  obtain ⟨hc, hh, hkp, htr, hz, htl, hlt, hrw, h30⟩ := id hx
  have h0 := hh.1
  have k0 := hkp.1
  have t0 := htr.1
  have d0 := hz.1
  have l0 := hlt.1
  have w0 := hrw.1
  refine ca_aload_n hX (q := 17) 0 rfl rfl rfl dX5_image_16 ?_
  refine ca_getf hX (q := 20) cl_X5 0 (by decide) w_fl_X5_10 (by omega) hc rfl rfl dX5_image_17 ?_
  refine ca_getN hX (q := 23) cl_X1 5 (by decide) w_fn_X5_118 (by omega) h0 rfl rfl dX5_image_20 ?_
  refine ca_iret hX rfl rfl rfl rfl dX5_image_23 ?_
  exact cl_end rfl hfr hx

set_option maxRecDepth 100000 in
set_option maxHeartbeats 4000000 in
theorem k_on (l : Launch) (N : Nat) (g0 : ca_G) (M : Nat → Nat → Int32) (t : Nat → Int32) (B : Nat → Nat → Int32) (hx : clX g0 M t B) (hN31 : 31 ≤ N) : ca_Ct l yX5_on cX5_on 1 (some .int) 2 0 0 N 1000000 [.ref 0] g0 (clP g0 (onA M)) := by
  refine ca_intro (by decide) (Nat.le_of_ble_eq_true rfl) (fun X hX hN => ?_)
  show X 0 [_] [] N 1000000 g0
  obtain ⟨g, hgg⟩ : ∃ g, g = g0 := ⟨g0, rfl⟩
  rw [← hgg] at hx ⊢
  have hfr : frG g0 g 0 31 := by rw [hgg]; exact frG.rf
  obtain ⟨hc, hh, hkp, htr, hz, htl, hlt, hrw, h30⟩ := id hx
  have h0 := hh.1
  have k0 := hkp.1
  have t0 := htr.1
  have d0 := hz.1
  have l0 := hlt.1
  have w0 := hrw.1
  refine ca_aload_n hX (q := 1) 0 rfl rfl rfl dX5_on_0 ?_
  refine ca_getf hX (q := 4) cl_X5 7 (by decide) w_fl_X5_49 (by omega) hc rfl rfl dX5_on_1 ?_
  refine ca_if_ne hX (q := 7) 14 rfl rfl dX5_on_4 (fun c4 => ?_) (fun c4 => ?_)
  · refine ca_aload_n hX (q := 15) 0 rfl rfl rfl dX5_on_14 ?_
    refine ca_getf hX (q := 18) cl_X5 0 (by decide) w_fl_X5_10 (by omega) hc rfl rfl dX5_on_15 ?_
    refine ca_aload_n hX (q := 19) 0 rfl rfl rfl dX5_on_18 ?_
    refine ca_getf hX (q := 22) cl_X5 1 (by decide) w_fl_X5_16 (by omega) hc rfl rfl dX5_on_19 ?_
    refine ca_cV hX (q := 25) y_X1_become w_ml_X5_67 (by omega) hN h0 (c_X1_become l N g 1 (M 0) hh (by omega) 6 (M 2) hkp (by omega) (by omega)) (by decide) rfl (Nat.le_of_ble_eq_true rfl) rfl dX5_on_22 rfl ?_
    rintro _ g ⟨rfl, hq, hf⟩
    have hx := hx.hs hf hq
    have hfr := hfr.tr (hf.wd (by omega) (by omega))
    obtain ⟨hc, hh, hkp, htr, hz, htl, hlt, hrw, h30⟩ := id hx
    have h0 := hh.1
    have k0 := hkp.1
    have t0 := htr.1
    have d0 := hz.1
    have l0 := hlt.1
    have w0 := hrw.1
    refine ca_aload_n hX (q := 26) 0 rfl rfl rfl dX5_on_25 ?_
    refine ca_getf hX (q := 29) cl_X5 0 (by decide) w_fl_X5_10 (by omega) hc rfl rfl dX5_on_26 ?_
    refine ca_getN hX (q := 32) cl_X1 5 (by decide) w_fn_X5_118 (by omega) h0 rfl rfl dX5_on_29 ?_
    refine ca_iret hX rfl rfl rfl rfl dX5_on_32 ?_
    exact cl_end (by simp [onA, noA, nk1, nk2, nk3, nk4, nk6, c4, st_s]) hfr hx
  · refine ca_aload_n hX (q := 8) 0 rfl rfl rfl dX5_on_7 ?_
    refine ca_bipush hX (q := 10) k_bipush_m3 rfl dX5_on_8 ?_
    refine ca_cV hX (q := 13) y_X5_refuse w_ml_X5_53 (by omega) hN hc (c_X5_refuse l N g _ hc hN31 (M 6) h30 (-3) 3 (by decide) (by omega) (by omega)) (by decide) rfl (Nat.le_of_ble_eq_true rfl) rfl dX5_on_10 rfl ?_
    rintro _ g ⟨rfl, h30, hf⟩
    have hx := hx.rf hf h30
    have hfr := hfr.tr (hf.wd (by omega) (by omega))
    refine ca_iret hX rfl rfl rfl rfl dX5_on_13 ?_
    exact cl_end (by simp [onA, noA, nk1, nk2, nk3, nk4, nk6, c4, st_s]) hfr hx

theorem ct_far {k : Int32} (h : ctF k = 1000000000) : ctK k = -9 := by
  rcases ct_cases k with z | ⟨c, _, b, _, e⟩
  · exact z.1
  · rw [e] at h; exact absurd ((nI_eq (b := 1000000000) (by omega) (by omega)).mp h) (by omega)
theorem ct_near {k : Int32} (h : ¬ ctF k = 1000000000) : ctF k = ctK k := by
  rcases ct_cases k with z | ⟨c, _, b, d, e⟩
  · exact absurd z.2 h
  · rw [d, e]
theorem up_up0 (M : Nat → Nat → Int32) (i a b : Nat) (x y : Int32) : upB (upB M i a x) i b y = stB M i (upd (upd (M i) a x) b y) := by rw [upB_st, upB_st, st_s, st_st]

theorem md_f0 {g g2 : ca_G} {o : Nat} {F : Nat → Int32} {M : Nat → Nat → Int32} (h : mdG g o M) (hE : g2 (o + 1) = .inl (182, F)) (hF : ∀ j, j ≠ o + 1 → g2 j = g j) : mdG g2 o (stB M 0 F) := by
  obtain ⟨c0, c1, c2, c3, c4, c5, c6, c7, c8, c9, c10, c11, c12, c13⟩ := h
  exact ⟨(hF o (by omega)).trans c0, hE, (hF (o + 2) (by omega)).trans c2, (hF (o + 3) (by omega)).trans c3, (hF (o + 4) (by omega)).trans c4, (hF (o + 5) (by omega)).trans c5, (hF (o + 6) (by omega)).trans c6, (hF (o + 7) (by omega)).trans c7, (hF (o + 8) (by omega)).trans c8, (hF (o + 9) (by omega)).trans c9, (hF (o + 10) (by omega)).trans c10, (hF (o + 11) (by omega)).trans c11, (hF (o + 12) (by omega)).trans c12, (hF (o + 13) (by omega)).trans c13⟩
theorem md_f1 {g g2 : ca_G} {o : Nat} {F : Nat → Int32} {M : Nat → Nat → Int32} (h : mdG g o M) (hE : g2 (o + 2) = .inl (182, F)) (hF : ∀ j, j ≠ o + 2 → g2 j = g j) : mdG g2 o (stB M 1 F) := by
  obtain ⟨c0, c1, c2, c3, c4, c5, c6, c7, c8, c9, c10, c11, c12, c13⟩ := h
  exact ⟨(hF o (by omega)).trans c0, (hF (o + 1) (by omega)).trans c1, hE, (hF (o + 3) (by omega)).trans c3, (hF (o + 4) (by omega)).trans c4, (hF (o + 5) (by omega)).trans c5, (hF (o + 6) (by omega)).trans c6, (hF (o + 7) (by omega)).trans c7, (hF (o + 8) (by omega)).trans c8, (hF (o + 9) (by omega)).trans c9, (hF (o + 10) (by omega)).trans c10, (hF (o + 11) (by omega)).trans c11, (hF (o + 12) (by omega)).trans c12, (hF (o + 13) (by omega)).trans c13⟩
theorem md_f2 {g g2 : ca_G} {o : Nat} {F : Nat → Int32} {M : Nat → Nat → Int32} (h : mdG g o M) (hE : g2 (o + 3) = .inl (182, F)) (hF : ∀ j, j ≠ o + 3 → g2 j = g j) : mdG g2 o (stB M 2 F) := by
  obtain ⟨c0, c1, c2, c3, c4, c5, c6, c7, c8, c9, c10, c11, c12, c13⟩ := h
  exact ⟨(hF o (by omega)).trans c0, (hF (o + 1) (by omega)).trans c1, (hF (o + 2) (by omega)).trans c2, hE, (hF (o + 4) (by omega)).trans c4, (hF (o + 5) (by omega)).trans c5, (hF (o + 6) (by omega)).trans c6, (hF (o + 7) (by omega)).trans c7, (hF (o + 8) (by omega)).trans c8, (hF (o + 9) (by omega)).trans c9, (hF (o + 10) (by omega)).trans c10, (hF (o + 11) (by omega)).trans c11, (hF (o + 12) (by omega)).trans c12, (hF (o + 13) (by omega)).trans c13⟩
theorem md_f3 {g g2 : ca_G} {o : Nat} {F : Nat → Int32} {M : Nat → Nat → Int32} (h : mdG g o M) (hE : g2 (o + 4) = .inl (182, F)) (hF : ∀ j, j ≠ o + 4 → g2 j = g j) : mdG g2 o (stB M 3 F) := by
  obtain ⟨c0, c1, c2, c3, c4, c5, c6, c7, c8, c9, c10, c11, c12, c13⟩ := h
  exact ⟨(hF o (by omega)).trans c0, (hF (o + 1) (by omega)).trans c1, (hF (o + 2) (by omega)).trans c2, (hF (o + 3) (by omega)).trans c3, hE, (hF (o + 5) (by omega)).trans c5, (hF (o + 6) (by omega)).trans c6, (hF (o + 7) (by omega)).trans c7, (hF (o + 8) (by omega)).trans c8, (hF (o + 9) (by omega)).trans c9, (hF (o + 10) (by omega)).trans c10, (hF (o + 11) (by omega)).trans c11, (hF (o + 12) (by omega)).trans c12, (hF (o + 13) (by omega)).trans c13⟩
set_option maxRecDepth 100000 in
set_option maxHeartbeats 4000000 in
theorem m_room (l : Launch) (N : Nat) (g0 : ca_G) (o : Nat) (M : Nat → Nat → Int32) (hm : mdG g0 o M) (ho : o + 14 ≤ N) (hs4 : M 13 4 = 0) (x1 x2 : Int32) : ca_Ct l yX6_room cX6_room 3 (some .int) 2 0 0 N 1000000 [.ref o, .int x1, .int x2] g0 (reP o g0 (roA M x1 x2)) := by
  refine ca_intro (by decide) (Nat.le_of_ble_eq_true rfl) (fun X hX hN => ?_)
  show X 0 [_, _, _] [] N 1000000 g0
  obtain ⟨g, hgg⟩ : ∃ g, g = g0 := ⟨g0, rfl⟩
  rw [← hgg] at hm ⊢
  have hfr : frG g0 g o (o + 14) := by rw [hgg]; exact frG.rf
  have hke := keM.rf hs4
  obtain ⟨c0, c1, c2, c3, c4, c5, c6, c7, c8, c9, c10, c11, c12, c13⟩ := id hm
  refine ca_iload_n hX (q := 1) 1 rfl rfl rfl dX6_room_0 ?_
  refine ca_cSi hX (q := 4) y_X6_isRoom w_ml_X6_138 hN (c_R_isRoom l N g _) (by decide) rfl (Nat.le_of_ble_eq_true rfl) rfl dX6_room_1 rfl ?_
  refine ca_if_ne hX (q := 7) 13 rfl rfl dX6_room_4 (fun b4 => ?_) (fun b4 => ?_)
  · obtain ⟨r1, hr1, rfl⟩ := rm_ok b4
    have er1 := nI_clamp (n := r1) (by omega)
    refine ca_iload_n hX (q := 14) 2 rfl rfl rfl dX6_room_13 ?_
    by_cases e14_0 : x2 = 0
    · refine ca_tabIn hX 48 dX6_room_14 (by rw [e14_0]; decide) (by rw [e14_0]; decide) (by rw [e14_0]; rfl) rfl ?_
      refine ca_aload_n hX (q := 49) 0 rfl rfl rfl dX6_room_48 ?_
      refine ca_getf hX (q := 52) cl_X6 0 (by decide) w_fl_X6_9 (by omega) c0 rfl rfl dX6_room_49 ?_
      refine ca_iconst hX (q := 53) k_iconst_2 rfl dX6_room_52 ?_
      refine ca_iload_n hX (q := 54) 1 rfl rfl rfl dX6_room_53 ?_
      refine ca_iadd hX (q := 55) rfl dX6_room_54 ?_
      refine ca_iaN hX (q := 56) (k := 2 + r1) (by omega) c1 (by decide) (nI_add 2 r1) (by omega) rfl dX6_room_55 ?_
      refine ca_iret hX rfl rfl rfl rfl dX6_room_56 ?_
      exact re_end2 (by simp [roA, noA, nk1, nk2, nk3, nk4, nk6, b4, er1, e14_0, kdH, fgH, ndH, ctH, wtH]) hfr hm hke
    by_cases e14_1 : x2 = 1
    · refine ca_tabIn hX 57 dX6_room_14 (by rw [e14_1]; decide) (by rw [e14_1]; decide) (by rw [e14_1]; rfl) rfl ?_
      refine ca_aload_n hX (q := 58) 0 rfl rfl rfl dX6_room_57 ?_
      refine ca_getf hX (q := 61) cl_X6 0 (by decide) w_fl_X6_9 (by omega) c0 rfl rfl dX6_room_58 ?_
      refine ca_bipush hX (q := 63) k_bipush_27 rfl dX6_room_61 ?_
      refine ca_iload_n hX (q := 64) 1 rfl rfl rfl dX6_room_63 ?_
      refine ca_iadd hX (q := 65) rfl dX6_room_64 ?_
      refine ca_iaN hX (q := 66) (k := 27 + r1) (by omega) c1 (by decide) (nI_add 27 r1) (by omega) rfl dX6_room_65 ?_
      refine ca_iret hX rfl rfl rfl rfl dX6_room_66 ?_
      exact re_end2 (by simp [roA, noA, nk1, nk2, nk3, nk4, nk6, b4, er1, e14_0, e14_1, kdH, fgH, ndH, ctH, wtH]) hfr hm hke
    by_cases e14_2 : x2 = 2
    · refine ca_tabIn hX 67 dX6_room_14 (by rw [e14_2]; decide) (by rw [e14_2]; decide) (by rw [e14_2]; rfl) rfl ?_
      refine ca_aload_n hX (q := 68) 0 rfl rfl rfl dX6_room_67 ?_
      refine ca_getf hX (q := 71) cl_X6 0 (by decide) w_fl_X6_9 (by omega) c0 rfl rfl dX6_room_68 ?_
      refine ca_iload_n hX (q := 72) 1 rfl rfl rfl dX6_room_71 ?_
      refine ca_cSi hX (q := 75) y_X6_needs w_ml_X6_68 hN (c_X6_needs l N g (o + 1) (M 0) c1 (by omega) r1 hr1) (by decide) rfl (Nat.le_of_ble_eq_true rfl) rfl dX6_room_72 rfl ?_
      refine ca_iret hX rfl rfl rfl rfl dX6_room_75 ?_
      exact re_end2 (by simp [roA, noA, nk1, nk2, nk3, nk4, nk6, b4, er1, e14_0, e14_1, e14_2, kdH, fgH, ndH, ctH, wtH]) hfr hm hke
    by_cases e14_3 : x2 = 3
    · refine ca_tabIn hX 76 dX6_room_14 (by rw [e14_3]; decide) (by rw [e14_3]; decide) (by rw [e14_3]; rfl) rfl ?_
      refine ca_aload_n hX (q := 77) 0 rfl rfl rfl dX6_room_76 ?_
      refine ca_getf hX (q := 80) cl_X6 0 (by decide) w_fl_X6_9 (by omega) c0 rfl rfl dX6_room_77 ?_
      refine ca_iload_n hX (q := 81) 1 rfl rfl rfl dX6_room_80 ?_
      refine ca_cSi hX (q := 84) y_X6_catches w_ml_X6_75 hN (c_X6_catches l N g (o + 1) (M 0) c1 (by omega) r1 hr1) (by decide) rfl (Nat.le_of_ble_eq_true rfl) rfl dX6_room_81 rfl ?_
      refine ca_ldc hX (q := 86) w_k_X6_63 rfl dX6_room_84 ?_
      refine ca_icmp_ne hX (q := 89) 94 rfl rfl dX6_room_86 (fun b86 => ?_) (fun b86 => ?_)
      · have hct := ct_near b86
        refine ca_aload_n hX (q := 95) 0 rfl rfl rfl dX6_room_94 ?_
        refine ca_getf hX (q := 98) cl_X6 0 (by decide) w_fl_X6_9 (by omega) c0 rfl rfl dX6_room_95 ?_
        refine ca_iload_n hX (q := 99) 1 rfl rfl rfl dX6_room_98 ?_
        refine ca_cSi hX (q := 102) y_X6_catches w_ml_X6_75 hN (c_X6_catches l N g (o + 1) (M 0) c1 (by omega) r1 hr1) (by decide) rfl (Nat.le_of_ble_eq_true rfl) rfl dX6_room_99 rfl ?_
        refine ca_iret hX rfl rfl rfl rfl dX6_room_102 ?_
        exact re_end2 (by simp [roA, noA, nk1, nk2, nk3, nk4, nk6, b4, er1, e14_0, e14_1, e14_2, e14_3, b86, hct, kdH, fgH, ndH, ctH, wtH]) hfr hm hke
      · have hct := ct_far b86
        refine ca_bipush hX (q := 91) k_bipush_m9 rfl dX6_room_89 ?_
        refine ca_goto hX 102 rfl dX6_room_91 ?_
        refine ca_iret hX rfl rfl rfl rfl dX6_room_102 ?_
        exact re_end2 (by simp [roA, noA, nk1, nk2, nk3, nk4, nk6, b4, er1, e14_0, e14_1, e14_2, e14_3, b86, hct, kdH, fgH, ndH, ctH, wtH]) hfr hm hke
    by_cases e14_4 : x2 = 4
    · refine ca_tabIn hX 103 dX6_room_14 (by rw [e14_4]; decide) (by rw [e14_4]; decide) (by rw [e14_4]; rfl) rfl ?_
      refine ca_aload_n hX (q := 104) 0 rfl rfl rfl dX6_room_103 ?_
      refine ca_getf hX (q := 107) cl_X6 0 (by decide) w_fl_X6_9 (by omega) c0 rfl rfl dX6_room_104 ?_
      refine ca_iload_n hX (q := 108) 1 rfl rfl rfl dX6_room_107 ?_
      refine ca_cSi hX (q := 111) y_X6_worth w_ml_X6_85 hN (c_X6_worth l N g (o + 1) (M 0) c1 (by omega) r1 hr1) (by decide) rfl (Nat.le_of_ble_eq_true rfl) rfl dX6_room_108 rfl ?_
      refine ca_iret hX rfl rfl rfl rfl dX6_room_111 ?_
      exact re_end2 (by simp [roA, noA, nk1, nk2, nk3, nk4, nk6, b4, er1, e14_0, e14_1, e14_2, e14_3, e14_4, kdH, fgH, ndH, ctH, wtH]) hfr hm hke
    refine ca_tabOut hX 112 dX6_room_14 (by have z0 := lv_neT (k := 0) (a := 0) e14_0 (by decide); have z1 := lv_neT (k := 1) (a := 1) e14_1 (by decide); have z2 := lv_neT (k := 2) (a := 2) e14_2 (by decide); have z3 := lv_neT (k := 3) (a := 3) e14_3 (by decide); have z4 := lv_neT (k := 4) (a := 4) e14_4 (by decide); omega) rfl ?_
    refine ca_aload_n hX (q := 113) 0 rfl rfl rfl dX6_room_112 ?_
    refine ca_bipush hX (q := 115) k_bipush_m2 rfl dX6_room_113 ?_
    refine ca_cV hX (q := 118) y_X6_no w_ml_X6_51 (by omega) hN c0 (c_X6_no l N g o _ hm ho (-2) 2 (by decide) (by omega)) (by decide) rfl (Nat.le_of_ble_eq_true rfl) rfl dX6_room_115 rfl ?_
    rintro _ g ⟨rfl, hm, hf⟩
    have hke := keM.no hke 2
    have hfr := hfr.tr hf
    refine ca_iret hX rfl rfl rfl rfl dX6_room_118 ?_
    exact re_end2 (by simp [roA, noA, nk1, nk2, nk3, nk4, nk6, b4, er1, e14_0, e14_1, e14_2, e14_3, e14_4, kdH, fgH, ndH, ctH, wtH]) hfr hm hke
  · refine ca_aload_n hX (q := 8) 0 rfl rfl rfl dX6_room_7 ?_
    refine ca_iconst hX (q := 9) k_iconst_m1 rfl dX6_room_8 ?_
    refine ca_cV hX (q := 12) y_X6_no w_ml_X6_51 (by omega) hN c0 (c_X6_no l N g o _ hm ho (-1) 1 (by decide) (by omega)) (by decide) rfl (Nat.le_of_ble_eq_true rfl) rfl dX6_room_9 rfl ?_
    rintro _ g ⟨rfl, hm, hf⟩
    have hke := keM.no hke 1
    have hfr := hfr.tr hf
    refine ca_iret hX rfl rfl rfl rfl dX6_room_12 ?_
    exact re_end2 (by simp [roA, noA, nk1, nk2, nk3, nk4, nk6, b4, kdH, fgH, ndH, ctH, wtH]) hfr hm hke

set_option maxRecDepth 100000 in
set_option maxHeartbeats 4000000 in
theorem m_person (l : Launch) (N : Nat) (g0 : ca_G) (o : Nat) (M : Nat → Nat → Int32) (hm : mdG g0 o M) (ho : o + 14 ≤ N) (hs4 : M 13 4 = 0) (P : Nat) (w : wfH (M 0) P) (x1 x2 : Int32) : ca_Ct l yX6_person cX6_person 3 (some .int) 2 0 0 N 1000000 [.ref o, .int x1, .int x2] g0 (reP o g0 (peA M x1 x2)) := by
  refine ca_intro (by decide) (Nat.le_of_ble_eq_true rfl) (fun X hX hN => ?_)
  show X 0 [_, _, _] [] N 1000000 g0
  obtain ⟨g, hgg⟩ : ∃ g, g = g0 := ⟨g0, rfl⟩
  rw [← hgg] at hm ⊢
  have hfr : frG g0 g o (o + 14) := by rw [hgg]; exact frG.rf
  have hke := keM.rf hs4
  obtain ⟨c0, c1, c2, c3, c4, c5, c6, c7, c8, c9, c10, c11, c12, c13⟩ := id hm
  have hP := w.1
  have hP5 := w.2.1
  have hok := wf_ok w
  refine ca_aload_n hX (q := 1) 0 rfl rfl rfl dX6_person_0 ?_
  refine ca_iload_n hX (q := 2) 1 rfl rfl rfl dX6_person_1 ?_
  refine ca_cVi hX (q := 5) y_X6_isPerson w_ml_X6_59 (by omega) hN c0 (c_R_isPerson l N g o M hm ho P hP hP5 _) (by decide) rfl (Nat.le_of_ble_eq_true rfl) rfl dX6_person_2 rfl ?_
  refine ca_if_eq hX (q := 8) 20 rfl rfl dX6_person_5 (fun b5 => ?_) (fun b5 => ?_)
  · refine ca_aload_n hX (q := 21) 0 rfl rfl rfl dX6_person_20 ?_
    refine ca_iconst hX (q := 22) k_iconst_m1 rfl dX6_person_21 ?_
    refine ca_cV hX (q := 25) y_X6_no w_ml_X6_51 (by omega) hN c0 (c_X6_no l N g o _ hm ho (-1) 1 (by decide) (by omega)) (by decide) rfl (Nat.le_of_ble_eq_true rfl) rfl dX6_person_22 rfl ?_
    rintro _ g ⟨rfl, hm, hf⟩
    have hke := keM.no hke 1
    have hfr := hfr.tr hf
    refine ca_iret hX rfl rfl rfl rfl dX6_person_25 ?_
    exact re_end2 (by simp [peA, noA, nk1, nk2, nk3, nk4, nk6, b5, knH]) hfr hm hke
  · obtain ⟨p1, hp1, rfl⟩ := hp_ok hP hP5 b5
    have ep1 := nI_clamp (n := p1) (by omega)
    refine ca_iload_n hX (q := 9) 2 rfl rfl rfl dX6_person_8 ?_
    refine ca_iconst hX (q := 10) k_iconst_m1 rfl dX6_person_9 ?_
    refine ca_icmp_eq hX (q := 13) 26 rfl rfl dX6_person_10 (fun b10 => ?_) (fun b10 => ?_)
    · refine ca_iload_n hX (q := 27) 2 rfl rfl rfl dX6_person_26 ?_
      refine ca_if_ge hX (q := 30) 42 rfl rfl dX6_person_27 (fun b27 => ?_) (fun b27 => ?_)
      · exact absurd b27 (by rw [b10]; decide)
      · refine ca_aload_n hX (q := 31) 0 rfl rfl rfl dX6_person_30 ?_
        refine ca_getf hX (q := 34) cl_X6 0 (by decide) w_fl_X6_9 (by omega) c0 rfl rfl dX6_person_31 ?_
        refine ca_bipush hX (q := 36) k_bipush_52 rfl dX6_person_34 ?_
        refine ca_iload_n hX (q := 37) 1 rfl rfl rfl dX6_person_36 ?_
        refine ca_iadd hX (q := 38) rfl dX6_person_37 ?_
        refine ca_iaN hX (q := 39) (k := 52 + p1) (by omega) c1 (by decide) (nI_add 52 p1) (by omega) rfl dX6_person_38 ?_
        refine ca_goto hX 52 rfl dX6_person_39 ?_
        refine ca_iret hX rfl rfl rfl rfl dX6_person_52 ?_
        exact re_end2 (by simp [peA, noA, nk1, nk2, nk3, nk4, nk6, b5, ep1, b10, b27, (Int32.not_le.mp b27), knH]) hfr hm hke
    · refine ca_iload_n hX (q := 14) 2 rfl rfl rfl dX6_person_13 ?_
      refine ca_cSi hX (q := 17) y_X6_isRoom w_ml_X6_138 hN (c_R_isRoom l N g _) (by decide) rfl (Nat.le_of_ble_eq_true rfl) rfl dX6_person_14 rfl ?_
      refine ca_if_ne hX (q := 20) 26 rfl rfl dX6_person_17 (fun b17 => ?_) (fun b17 => ?_)
      · obtain ⟨r2, hr2, rfl⟩ := rm_ok b17
        have er2 := nI_clamp (n := r2) (by omega)
        refine ca_iload_n hX (q := 27) 2 rfl rfl rfl dX6_person_26 ?_
        refine ca_if_ge hX (q := 30) 42 rfl rfl dX6_person_27 (fun b27 => ?_) (fun b27 => ?_)
        · refine ca_aload_n hX (q := 43) 0 rfl rfl rfl dX6_person_42 ?_
          refine ca_getf hX (q := 46) cl_X6 0 (by decide) w_fl_X6_9 (by omega) c0 rfl rfl dX6_person_43 ?_
          refine ca_iload_n hX (q := 47) 1 rfl rfl rfl dX6_person_46 ?_
          refine ca_iload_n hX (q := 48) 2 rfl rfl rfl dX6_person_47 ?_
          refine ca_cSi hX (q := 51) y_X6_known w_ml_X6_64 hN (c_X6_known l N g p1 r2) (by decide) rfl (Nat.le_of_ble_eq_true rfl) rfl dX6_person_48 rfl ?_
          refine ca_iaN hX (q := 52) (k := 57 + (25 * p1 + r2)) (by omega) c1 (by decide) rfl (by omega) rfl dX6_person_51 ?_
          refine ca_iret hX rfl rfl rfl rfl dX6_person_52 ?_
          exact re_end2 (by simp [peA, noA, nk1, nk2, nk3, nk4, nk6, b5, ep1, b10, b17, er2, b27, (Int32.not_lt.mpr b27), knH]) hfr hm hke
        · exact absurd (Int32.not_le.mp b27) (nI_nn (by omega))
      · refine ca_aload_n hX (q := 21) 0 rfl rfl rfl dX6_person_20 ?_
        refine ca_iconst hX (q := 22) k_iconst_m1 rfl dX6_person_21 ?_
        refine ca_cV hX (q := 25) y_X6_no w_ml_X6_51 (by omega) hN c0 (c_X6_no l N g o _ hm ho (-1) 1 (by decide) (by omega)) (by decide) rfl (Nat.le_of_ble_eq_true rfl) rfl dX6_person_22 rfl ?_
        rintro _ g ⟨rfl, hm, hf⟩
        have hke := keM.no hke 1
        have hfr := hfr.tr hf
        refine ca_iret hX rfl rfl rfl rfl dX6_person_25 ?_
        exact re_end2 (by simp [peA, noA, nk1, nk2, nk3, nk4, nk6, b5, ep1, b10, b17, knH]) hfr hm hke

set_option maxRecDepth 100000 in
set_option maxHeartbeats 4000000 in
theorem m_turn (l : Launch) (N : Nat) (g0 : ca_G) (o : Nat) (M : Nat → Nat → Int32) (hm : mdG g0 o M) (ho : o + 14 ≤ N) (hs4 : M 13 4 = 0) (x1 x2 x3 : Int32) : ca_Ct l yX6_turn cX6_turn 5 (some .int) 2 0 0 N 1000000 [.ref o, .int x1, .int x2, .int x3] g0 (reP o g0 (tuA M x1 x2 x3)) := by
  refine ca_intro (by decide) (Nat.le_of_ble_eq_true rfl) (fun X hX hN => ?_)
  show X 0 [_, _, _, _, none] [] N 1000000 g0
  obtain ⟨g, hgg⟩ : ∃ g, g = g0 := ⟨g0, rfl⟩
  rw [← hgg] at hm ⊢
  have hfr : frG g0 g o (o + 14) := by rw [hgg]; exact frG.rf
  have hke := keM.rf hs4
  obtain ⟨c0, c1, c2, c3, c4, c5, c6, c7, c8, c9, c10, c11, c12, c13⟩ := id hm
  refine ca_iload_n hX (q := 1) 1 rfl rfl rfl dX6_turn_0 ?_
  refine ca_cSi hX (q := 4) y_X6_isRoom w_ml_X6_138 hN (c_R_isRoom l N g _) (by decide) rfl (Nat.le_of_ble_eq_true rfl) rfl dX6_turn_1 rfl ?_
  refine ca_if_ne hX (q := 7) 13 rfl rfl dX6_turn_4 (fun b4 => ?_) (fun b4 => ?_)
  · obtain ⟨r1, hr1, rfl⟩ := rm_ok b4
    have er1 := nI_clamp (n := r1) (by omega)
    refine ca_iload_n hX (q := 14) 2 rfl rfl rfl dX6_turn_13 ?_
    refine ca_iconst hX (q := 15) k_iconst_0 rfl dX6_turn_14 ?_
    refine ca_iconst hX (q := 16) k_iconst_5 rfl dX6_turn_15 ?_
    refine ca_cSi hX (q := 19) y_X6_isIn w_ml_X6_55 hN (c_X6_isIn l N g _ 0 5) (by decide) rfl (Nat.le_of_ble_eq_true rfl) rfl dX6_turn_16 rfl ?_
    refine ca_if_ne hX (q := 22) 29 rfl rfl dX6_turn_19 (fun b19 => ?_) (fun b19 => ?_)
    · refine ca_iload_n hX (q := 30) 3 rfl rfl rfl dX6_turn_29 ?_
      refine ca_if_ge hX (q := 33) 40 rfl rfl dX6_turn_30 (fun b30 => ?_) (fun b30 => ?_)
      · refine ca_iload_n hX (q := 41) 3 rfl rfl rfl dX6_turn_40 ?_
        refine ca_bipush hX (q := 43) k_bipush_9 rfl dX6_turn_41 ?_
        refine ca_icmp_le hX (q := 46) 53 rfl rfl dX6_turn_43 (fun b43 => ?_) (fun b43 => ?_)
        · refine ca_bipush hX (q := 55) k_bipush_10 rfl dX6_turn_53 ?_
          refine ca_aload_n hX (q := 56) 0 rfl rfl rfl dX6_turn_55 ?_
          refine ca_getf hX (q := 59) cl_X6 0 (by decide) w_fl_X6_9 (by omega) c0 rfl rfl dX6_turn_56 ?_
          refine ca_iconst hX (q := 60) k_iconst_2 rfl dX6_turn_59 ?_
          refine ca_iload_n hX (q := 61) 1 rfl rfl rfl dX6_turn_60 ?_
          refine ca_iadd hX (q := 62) rfl dX6_turn_61 ?_
          refine ca_iaN hX (q := 63) (k := 2 + r1) (by omega) c1 (by decide) (nI_add 2 r1) (by omega) rfl dX6_turn_62 ?_
          refine ca_imul hX (q := 64) rfl dX6_turn_63 ?_
          refine ca_aload_n hX (q := 65) 0 rfl rfl rfl dX6_turn_64 ?_
          refine ca_getf hX (q := 68) cl_X6 0 (by decide) w_fl_X6_9 (by omega) c0 rfl rfl dX6_turn_65 ?_
          refine ca_bipush hX (q := 70) k_bipush_27 rfl dX6_turn_68 ?_
          refine ca_iload_n hX (q := 71) 1 rfl rfl rfl dX6_turn_70 ?_
          refine ca_iadd hX (q := 72) rfl dX6_turn_71 ?_
          refine ca_iaN hX (q := 73) (k := 27 + r1) (by omega) c1 (by decide) (nI_add 27 r1) (by omega) rfl dX6_turn_72 ?_
          refine ca_iadd hX (q := 74) rfl dX6_turn_73 ?_
          refine ca_istore hX (q := 76) (ls' := [_, _, _, _, _]) (Nat.le_of_ble_eq_true rfl) (Nat.le_of_ble_eq_true rfl) (Or.inr rfl) rfl rfl dX6_turn_74 ?_
          refine ca_aload_n hX (q := 77) 0 rfl rfl rfl dX6_turn_76 ?_
          refine ca_getf hX (q := 80) cl_X6 0 (by decide) w_fl_X6_9 (by omega) c0 rfl rfl dX6_turn_77 ?_
          refine ca_iconst hX (q := 81) k_iconst_2 rfl dX6_turn_80 ?_
          refine ca_iload_n hX (q := 82) 1 rfl rfl rfl dX6_turn_81 ?_
          refine ca_iadd hX (q := 83) rfl dX6_turn_82 ?_
          refine ca_iload_n hX (q := 84) 2 rfl rfl rfl dX6_turn_83 ?_
          refine ca_iaS hX (q := 85) (k := 2 + r1) (by omega) hN (Nat.le_refl _) c1 (by decide) (nI_add 2 r1) (by omega) rfl dX6_turn_84 (fun g hE hF => ?_)
          have hm := md_a0 hm hE hF
          obtain ⟨c0, c1, c2, c3, c4, c5, c6, c7, c8, c9, c10, c11, c12, c13⟩ := id hm
          have hfr := frG.tr hfr (fun j hj => hF j (by omega))
          refine ca_aload_n hX (q := 86) 0 rfl rfl rfl dX6_turn_85 ?_
          refine ca_getf hX (q := 89) cl_X6 0 (by decide) w_fl_X6_9 (by omega) c0 rfl rfl dX6_turn_86 ?_
          refine ca_bipush hX (q := 91) k_bipush_27 rfl dX6_turn_89 ?_
          refine ca_iload_n hX (q := 92) 1 rfl rfl rfl dX6_turn_91 ?_
          refine ca_iadd hX (q := 93) rfl dX6_turn_92 ?_
          refine ca_iload_n hX (q := 94) 3 rfl rfl rfl dX6_turn_93 ?_
          refine ca_iaS hX (q := 95) (k := 27 + r1) (by omega) hN (Nat.le_refl _) c1 (by decide) (nI_add 27 r1) (by omega) rfl dX6_turn_94 (fun g hE hF => ?_)
          have hm := md_a0 hm hE hF
          obtain ⟨c0, c1, c2, c3, c4, c5, c6, c7, c8, c9, c10, c11, c12, c13⟩ := id hm
          have hfr := frG.tr hfr (fun j hj => hF j (by omega))
          refine ca_iload hX (q := 97) rfl rfl dX6_turn_95 ?_
          refine ca_iret hX rfl rfl rfl rfl dX6_turn_97 ?_
          rw [up_up0] at hm
          exact re_end2 (by simp [tuA, b4, er1, b19, b30, (Int32.not_lt.mpr b30), b43, (Int32.not_lt.mpr b43), kdH, fgH]) hfr hm (keM.rf (by rw [st_n _ _ (by omega)]; exact hs4))
        · refine ca_aload_n hX (q := 47) 0 rfl rfl rfl dX6_turn_46 ?_
          refine ca_bipush hX (q := 49) k_bipush_m6 rfl dX6_turn_47 ?_
          refine ca_cV hX (q := 52) y_X6_no w_ml_X6_51 (by omega) hN c0 (c_X6_no l N g o _ hm ho (-6) 6 (by decide) (by omega)) (by decide) rfl (Nat.le_of_ble_eq_true rfl) rfl dX6_turn_49 rfl ?_
          rintro _ g ⟨rfl, hm, hf⟩
          have hke := keM.no hke 6
          have hfr := hfr.tr hf
          refine ca_iret hX rfl rfl rfl rfl dX6_turn_52 ?_
          exact re_end2 (by simp [tuA, noA, nk1, nk2, nk3, nk4, nk6, b4, er1, b19, b30, (Int32.not_lt.mpr b30), b43, (Int32.not_le.mp b43)]) hfr hm hke
      · refine ca_aload_n hX (q := 34) 0 rfl rfl rfl dX6_turn_33 ?_
        refine ca_bipush hX (q := 36) k_bipush_m4 rfl dX6_turn_34 ?_
        refine ca_cV hX (q := 39) y_X6_no w_ml_X6_51 (by omega) hN c0 (c_X6_no l N g o _ hm ho (-4) 4 (by decide) (by omega)) (by decide) rfl (Nat.le_of_ble_eq_true rfl) rfl dX6_turn_36 rfl ?_
        rintro _ g ⟨rfl, hm, hf⟩
        have hke := keM.no hke 4
        have hfr := hfr.tr hf
        refine ca_iret hX rfl rfl rfl rfl dX6_turn_39 ?_
        exact re_end2 (by simp [tuA, noA, nk1, nk2, nk3, nk4, nk6, b4, er1, b19, b30, (Int32.not_le.mp b30)]) hfr hm hke
    · refine ca_aload_n hX (q := 23) 0 rfl rfl rfl dX6_turn_22 ?_
      refine ca_bipush hX (q := 25) k_bipush_m2 rfl dX6_turn_23 ?_
      refine ca_cV hX (q := 28) y_X6_no w_ml_X6_51 (by omega) hN c0 (c_X6_no l N g o _ hm ho (-2) 2 (by decide) (by omega)) (by decide) rfl (Nat.le_of_ble_eq_true rfl) rfl dX6_turn_25 rfl ?_
      rintro _ g ⟨rfl, hm, hf⟩
      have hke := keM.no hke 2
      have hfr := hfr.tr hf
      refine ca_iret hX rfl rfl rfl rfl dX6_turn_28 ?_
      exact re_end2 (by simp [tuA, noA, nk1, nk2, nk3, nk4, nk6, b4, er1, b19]) hfr hm hke
  · refine ca_aload_n hX (q := 8) 0 rfl rfl rfl dX6_turn_7 ?_
    refine ca_iconst hX (q := 9) k_iconst_m1 rfl dX6_turn_8 ?_
    refine ca_cV hX (q := 12) y_X6_no w_ml_X6_51 (by omega) hN c0 (c_X6_no l N g o _ hm ho (-1) 1 (by decide) (by omega)) (by decide) rfl (Nat.le_of_ble_eq_true rfl) rfl dX6_turn_9 rfl ?_
    rintro _ g ⟨rfl, hm, hf⟩
    have hke := keM.no hke 1
    have hfr := hfr.tr hf
    refine ca_iret hX rfl rfl rfl rfl dX6_turn_12 ?_
    exact re_end2 (by simp [tuA, noA, nk1, nk2, nk3, nk4, nk6, b4]) hfr hm hke

set_option maxRecDepth 100000 in
set_option maxHeartbeats 4000000 in
theorem m_sharp (l : Launch) (N : Nat) (g0 : ca_G) (o : Nat) (M : Nat → Nat → Int32) (hm : mdG g0 o M) (ho : o + 14 ≤ N) (hs4 : M 13 4 = 0) (P : Nat) (w : wfH (M 0) P) (x1 x2 : Int32) : ca_Ct l yX6_sharp cX6_sharp 4 (some .int) 2 0 0 N 1000000 [.ref o, .int x1, .int x2] g0 (reP o g0 (shA M x1 x2)) := by
  refine ca_intro (by decide) (Nat.le_of_ble_eq_true rfl) (fun X hX hN => ?_)
  show X 0 [_, _, _, none] [] N 1000000 g0
  obtain ⟨g, hgg⟩ : ∃ g, g = g0 := ⟨g0, rfl⟩
  rw [← hgg] at hm ⊢
  have hfr : frG g0 g o (o + 14) := by rw [hgg]; exact frG.rf
  have hke := keM.rf hs4
  obtain ⟨c0, c1, c2, c3, c4, c5, c6, c7, c8, c9, c10, c11, c12, c13⟩ := id hm
  have hP := w.1
  have hP5 := w.2.1
  have hok := wf_ok w
  refine ca_aload_n hX (q := 1) 0 rfl rfl rfl dX6_sharp_0 ?_
  refine ca_iload_n hX (q := 2) 1 rfl rfl rfl dX6_sharp_1 ?_
  refine ca_cVi hX (q := 5) y_X6_isPerson w_ml_X6_59 (by omega) hN c0 (c_R_isPerson l N g o M hm ho P hP hP5 _) (by decide) rfl (Nat.le_of_ble_eq_true rfl) rfl dX6_sharp_2 rfl ?_
  refine ca_if_ne hX (q := 8) 14 rfl rfl dX6_sharp_5 (fun b5 => ?_) (fun b5 => ?_)
  · obtain ⟨p1, hp1, rfl⟩ := hp_ok hP hP5 b5
    have ep1 := nI_clamp (n := p1) (by omega)
    refine ca_iload_n hX (q := 15) 2 rfl rfl rfl dX6_sharp_14 ?_
    refine ca_iconst hX (q := 16) k_iconst_1 rfl dX6_sharp_15 ?_
    refine ca_icmp_ge hX (q := 19) 26 rfl rfl dX6_sharp_16 (fun b16 => ?_) (fun b16 => ?_)
    · refine ca_iload_n hX (q := 27) 2 rfl rfl rfl dX6_sharp_26 ?_
      refine ca_bipush hX (q := 29) k_bipush_9 rfl dX6_sharp_27 ?_
      refine ca_icmp_le hX (q := 32) 39 rfl rfl dX6_sharp_29 (fun b29 => ?_) (fun b29 => ?_)
      · refine ca_aload_n hX (q := 40) 0 rfl rfl rfl dX6_sharp_39 ?_
        refine ca_getf hX (q := 43) cl_X6 0 (by decide) w_fl_X6_9 (by omega) c0 rfl rfl dX6_sharp_40 ?_
        refine ca_bipush hX (q := 45) k_bipush_52 rfl dX6_sharp_43 ?_
        refine ca_iload_n hX (q := 46) 1 rfl rfl rfl dX6_sharp_45 ?_
        refine ca_iadd hX (q := 47) rfl dX6_sharp_46 ?_
        refine ca_iaN hX (q := 48) (k := 52 + p1) (by omega) c1 (by decide) (nI_add 52 p1) (by omega) rfl dX6_sharp_47 ?_
        refine ca_istore_n hX (q := 49) 3 rfl (ls' := [_, _, _, _]) (Nat.le_of_ble_eq_true rfl) (Nat.le_of_ble_eq_true rfl) (Or.inr rfl) rfl rfl dX6_sharp_48 ?_
        refine ca_aload_n hX (q := 50) 0 rfl rfl rfl dX6_sharp_49 ?_
        refine ca_getf hX (q := 53) cl_X6 0 (by decide) w_fl_X6_9 (by omega) c0 rfl rfl dX6_sharp_50 ?_
        refine ca_bipush hX (q := 55) k_bipush_52 rfl dX6_sharp_53 ?_
        refine ca_iload_n hX (q := 56) 1 rfl rfl rfl dX6_sharp_55 ?_
        refine ca_iadd hX (q := 57) rfl dX6_sharp_56 ?_
        refine ca_iload_n hX (q := 58) 2 rfl rfl rfl dX6_sharp_57 ?_
        refine ca_iaS hX (q := 59) (k := 52 + p1) (by omega) hN (Nat.le_refl _) c1 (by decide) (nI_add 52 p1) (by omega) rfl dX6_sharp_58 (fun g hE hF => ?_)
        have hm := md_a0 hm hE hF
        obtain ⟨c0, c1, c2, c3, c4, c5, c6, c7, c8, c9, c10, c11, c12, c13⟩ := id hm
        have hfr := frG.tr hfr (fun j hj => hF j (by omega))
        refine ca_iload_n hX (q := 60) 3 rfl rfl rfl dX6_sharp_59 ?_
        refine ca_iret hX rfl rfl rfl rfl dX6_sharp_60 ?_
        rw [upB_st] at hm
        exact re_end2 (by simp [shA, b5, ep1, b16, (Int32.not_lt.mpr b16), b29, (Int32.not_lt.mpr b29)]) hfr hm (keM.rf (by rw [st_n _ _ (by omega)]; exact hs4))
      · refine ca_aload_n hX (q := 33) 0 rfl rfl rfl dX6_sharp_32 ?_
        refine ca_bipush hX (q := 35) k_bipush_m6 rfl dX6_sharp_33 ?_
        refine ca_cV hX (q := 38) y_X6_no w_ml_X6_51 (by omega) hN c0 (c_X6_no l N g o _ hm ho (-6) 6 (by decide) (by omega)) (by decide) rfl (Nat.le_of_ble_eq_true rfl) rfl dX6_sharp_35 rfl ?_
        rintro _ g ⟨rfl, hm, hf⟩
        have hke := keM.no hke 6
        have hfr := hfr.tr hf
        refine ca_iret hX rfl rfl rfl rfl dX6_sharp_38 ?_
        exact re_end2 (by simp [shA, noA, nk1, nk2, nk3, nk4, nk6, b5, ep1, b16, (Int32.not_lt.mpr b16), b29, (Int32.not_le.mp b29)]) hfr hm hke
    · refine ca_aload_n hX (q := 20) 0 rfl rfl rfl dX6_sharp_19 ?_
      refine ca_bipush hX (q := 22) k_bipush_m4 rfl dX6_sharp_20 ?_
      refine ca_cV hX (q := 25) y_X6_no w_ml_X6_51 (by omega) hN c0 (c_X6_no l N g o _ hm ho (-4) 4 (by decide) (by omega)) (by decide) rfl (Nat.le_of_ble_eq_true rfl) rfl dX6_sharp_22 rfl ?_
      rintro _ g ⟨rfl, hm, hf⟩
      have hke := keM.no hke 4
      have hfr := hfr.tr hf
      refine ca_iret hX rfl rfl rfl rfl dX6_sharp_25 ?_
      exact re_end2 (by simp [shA, noA, nk1, nk2, nk3, nk4, nk6, b5, ep1, b16, (Int32.not_le.mp b16)]) hfr hm hke
  · refine ca_aload_n hX (q := 9) 0 rfl rfl rfl dX6_sharp_8 ?_
    refine ca_iconst hX (q := 10) k_iconst_m1 rfl dX6_sharp_9 ?_
    refine ca_cV hX (q := 13) y_X6_no w_ml_X6_51 (by omega) hN c0 (c_X6_no l N g o _ hm ho (-1) 1 (by decide) (by omega)) (by decide) rfl (Nat.le_of_ble_eq_true rfl) rfl dX6_sharp_10 rfl ?_
    rintro _ g ⟨rfl, hm, hf⟩
    have hke := keM.no hke 1
    have hfr := hfr.tr hf
    refine ca_iret hX rfl rfl rfl rfl dX6_sharp_13 ?_
    exact re_end2 (by simp [shA, noA, nk1, nk2, nk3, nk4, nk6, b5]) hfr hm hke

set_option maxRecDepth 100000 in
set_option maxHeartbeats 4000000 in
theorem m_visit (l : Launch) (N : Nat) (g0 : ca_G) (o : Nat) (M : Nat → Nat → Int32) (hm : mdG g0 o M) (ho : o + 14 ≤ N) (hs4 : M 13 4 = 0) (P : Nat) (w : wfH (M 0) P) (x1 x2 x3 : Int32) : ca_Ct l yX6_visit cX6_visit 5 (some .int) 2 0 0 N 1000000 [.ref o, .int x1, .int x2, .int x3] g0 (reP o g0 (viA M x1 x2 x3)) := by
  refine ca_intro (by decide) (Nat.le_of_ble_eq_true rfl) (fun X hX hN => ?_)
  show X 0 [_, _, _, _, none] [] N 1000000 g0
  obtain ⟨g, hgg⟩ : ∃ g, g = g0 := ⟨g0, rfl⟩
  rw [← hgg] at hm ⊢
  have hfr : frG g0 g o (o + 14) := by rw [hgg]; exact frG.rf
  have hke := keM.rf hs4
  obtain ⟨c0, c1, c2, c3, c4, c5, c6, c7, c8, c9, c10, c11, c12, c13⟩ := id hm
  have hP := w.1
  have hP5 := w.2.1
  have hok := wf_ok w
  refine ca_aload_n hX (q := 1) 0 rfl rfl rfl dX6_visit_0 ?_
  refine ca_iload_n hX (q := 2) 1 rfl rfl rfl dX6_visit_1 ?_
  refine ca_cVi hX (q := 5) y_X6_isPerson w_ml_X6_59 (by omega) hN c0 (c_R_isPerson l N g o M hm ho P hP hP5 _) (by decide) rfl (Nat.le_of_ble_eq_true rfl) rfl dX6_visit_2 rfl ?_
  refine ca_if_eq hX (q := 8) 15 rfl rfl dX6_visit_5 (fun b5 => ?_) (fun b5 => ?_)
  · refine ca_aload_n hX (q := 16) 0 rfl rfl rfl dX6_visit_15 ?_
    refine ca_iconst hX (q := 17) k_iconst_m1 rfl dX6_visit_16 ?_
    refine ca_cV hX (q := 20) y_X6_no w_ml_X6_51 (by omega) hN c0 (c_X6_no l N g o _ hm ho (-1) 1 (by decide) (by omega)) (by decide) rfl (Nat.le_of_ble_eq_true rfl) rfl dX6_visit_17 rfl ?_
    rintro _ g ⟨rfl, hm, hf⟩
    have hke := keM.no hke 1
    have hfr := hfr.tr hf
    refine ca_iret hX rfl rfl rfl rfl dX6_visit_20 ?_
    exact re_end2 (by simp [viA, noA, nk1, nk2, nk3, nk4, nk6, b5]) hfr hm hke
  · obtain ⟨p1, hp1, rfl⟩ := hp_ok hP hP5 b5
    have ep1 := nI_clamp (n := p1) (by omega)
    refine ca_iload_n hX (q := 9) 2 rfl rfl rfl dX6_visit_8 ?_
    refine ca_cSi hX (q := 12) y_X6_isRoom w_ml_X6_138 hN (c_R_isRoom l N g _) (by decide) rfl (Nat.le_of_ble_eq_true rfl) rfl dX6_visit_9 rfl ?_
    refine ca_if_ne hX (q := 15) 21 rfl rfl dX6_visit_12 (fun b12 => ?_) (fun b12 => ?_)
    · obtain ⟨r2, hr2, rfl⟩ := rm_ok b12
      have er2 := nI_clamp (n := r2) (by omega)
      refine ca_iload_n hX (q := 22) 3 rfl rfl rfl dX6_visit_21 ?_
      refine ca_if_ge hX (q := 25) 32 rfl rfl dX6_visit_22 (fun b22 => ?_) (fun b22 => ?_)
      · refine ca_iload_n hX (q := 33) 3 rfl rfl rfl dX6_visit_32 ?_
        refine ca_bipush hX (q := 35) k_bipush_9 rfl dX6_visit_33 ?_
        refine ca_icmp_le hX (q := 38) 45 rfl rfl dX6_visit_35 (fun b35 => ?_) (fun b35 => ?_)
        · refine ca_aload_n hX (q := 46) 0 rfl rfl rfl dX6_visit_45 ?_
          refine ca_getf hX (q := 49) cl_X6 0 (by decide) w_fl_X6_9 (by omega) c0 rfl rfl dX6_visit_46 ?_
          refine ca_iload_n hX (q := 50) 1 rfl rfl rfl dX6_visit_49 ?_
          refine ca_iload_n hX (q := 51) 2 rfl rfl rfl dX6_visit_50 ?_
          refine ca_cSi hX (q := 54) y_X6_known w_ml_X6_64 hN (c_X6_known l N g p1 r2) (by decide) rfl (Nat.le_of_ble_eq_true rfl) rfl dX6_visit_51 rfl ?_
          refine ca_iaN hX (q := 55) (k := 57 + (25 * p1 + r2)) (by omega) c1 (by decide) rfl (by omega) rfl dX6_visit_54 ?_
          refine ca_istore hX (q := 57) (ls' := [_, _, _, _, _]) (Nat.le_of_ble_eq_true rfl) (Nat.le_of_ble_eq_true rfl) (Or.inr rfl) rfl rfl dX6_visit_55 ?_
          refine ca_aload_n hX (q := 58) 0 rfl rfl rfl dX6_visit_57 ?_
          refine ca_getf hX (q := 61) cl_X6 0 (by decide) w_fl_X6_9 (by omega) c0 rfl rfl dX6_visit_58 ?_
          refine ca_iload_n hX (q := 62) 1 rfl rfl rfl dX6_visit_61 ?_
          refine ca_iload_n hX (q := 63) 2 rfl rfl rfl dX6_visit_62 ?_
          refine ca_cSi hX (q := 66) y_X6_known w_ml_X6_64 hN (c_X6_known l N g p1 r2) (by decide) rfl (Nat.le_of_ble_eq_true rfl) rfl dX6_visit_63 rfl ?_
          refine ca_iload_n hX (q := 67) 3 rfl rfl rfl dX6_visit_66 ?_
          refine ca_iaS hX (q := 68) (k := 57 + (25 * p1 + r2)) (by omega) hN (Nat.le_refl _) c1 (by decide) rfl (by omega) rfl dX6_visit_67 (fun g hE hF => ?_)
          have hm := md_a0 hm hE hF
          obtain ⟨c0, c1, c2, c3, c4, c5, c6, c7, c8, c9, c10, c11, c12, c13⟩ := id hm
          have hfr := frG.tr hfr (fun j hj => hF j (by omega))
          refine ca_iload hX (q := 70) rfl rfl dX6_visit_68 ?_
          refine ca_iret hX rfl rfl rfl rfl dX6_visit_70 ?_
          rw [upB_st] at hm
          exact re_end2 (by simp [viA, b5, ep1, b12, er2, b22, (Int32.not_lt.mpr b22), b35, (Int32.not_lt.mpr b35), knH]) hfr hm (keM.rf (by rw [st_n _ _ (by omega)]; exact hs4))
        · refine ca_aload_n hX (q := 39) 0 rfl rfl rfl dX6_visit_38 ?_
          refine ca_bipush hX (q := 41) k_bipush_m6 rfl dX6_visit_39 ?_
          refine ca_cV hX (q := 44) y_X6_no w_ml_X6_51 (by omega) hN c0 (c_X6_no l N g o _ hm ho (-6) 6 (by decide) (by omega)) (by decide) rfl (Nat.le_of_ble_eq_true rfl) rfl dX6_visit_41 rfl ?_
          rintro _ g ⟨rfl, hm, hf⟩
          have hke := keM.no hke 6
          have hfr := hfr.tr hf
          refine ca_iret hX rfl rfl rfl rfl dX6_visit_44 ?_
          exact re_end2 (by simp [viA, noA, nk1, nk2, nk3, nk4, nk6, b5, ep1, b12, er2, b22, (Int32.not_lt.mpr b22), b35, (Int32.not_le.mp b35)]) hfr hm hke
      · refine ca_aload_n hX (q := 26) 0 rfl rfl rfl dX6_visit_25 ?_
        refine ca_bipush hX (q := 28) k_bipush_m4 rfl dX6_visit_26 ?_
        refine ca_cV hX (q := 31) y_X6_no w_ml_X6_51 (by omega) hN c0 (c_X6_no l N g o _ hm ho (-4) 4 (by decide) (by omega)) (by decide) rfl (Nat.le_of_ble_eq_true rfl) rfl dX6_visit_28 rfl ?_
        rintro _ g ⟨rfl, hm, hf⟩
        have hke := keM.no hke 4
        have hfr := hfr.tr hf
        refine ca_iret hX rfl rfl rfl rfl dX6_visit_31 ?_
        exact re_end2 (by simp [viA, noA, nk1, nk2, nk3, nk4, nk6, b5, ep1, b12, er2, b22, (Int32.not_le.mp b22)]) hfr hm hke
    · refine ca_aload_n hX (q := 16) 0 rfl rfl rfl dX6_visit_15 ?_
      refine ca_iconst hX (q := 17) k_iconst_m1 rfl dX6_visit_16 ?_
      refine ca_cV hX (q := 20) y_X6_no w_ml_X6_51 (by omega) hN c0 (c_X6_no l N g o _ hm ho (-1) 1 (by decide) (by omega)) (by decide) rfl (Nat.le_of_ble_eq_true rfl) rfl dX6_visit_17 rfl ?_
      rintro _ g ⟨rfl, hm, hf⟩
      have hke := keM.no hke 1
      have hfr := hfr.tr hf
      refine ca_iret hX rfl rfl rfl rfl dX6_visit_20 ?_
      exact re_end2 (by simp [viA, noA, nk1, nk2, nk3, nk4, nk6, b5, ep1, b12]) hfr hm hke

set_option maxRecDepth 100000 in
set_option maxHeartbeats 4000000 in
theorem m_letter (l : Launch) (N : Nat) (g0 : ca_G) (o : Nat) (M : Nat → Nat → Int32) (hm : mdG g0 o M) (ho : o + 14 ≤ N) (hs4 : M 13 4 = 0) (k : Nat) (hk : M 13 1 = nI k) (hk6 : k ≤ 96) (x1 : Int32) : ca_Ct l yX6_letter cX6_letter 2 (some .int) 1 0 0 N 1000000 [.ref o, .int x1] g0 (reP o g0 (leA M k x1)) := by
  refine ca_intro (by decide) (Nat.le_of_ble_eq_true rfl) (fun X hX hN => ?_)
  show X 0 [_, _] [] N 1000000 g0
  obtain ⟨g, hgg⟩ : ∃ g, g = g0 := ⟨g0, rfl⟩
  rw [← hgg] at hm ⊢
  have hfr : frG g0 g o (o + 14) := by rw [hgg]; exact frG.rf
  have hke := keM.rf hs4
  obtain ⟨c0, c1, c2, c3, c4, c5, c6, c7, c8, c9, c10, c11, c12, c13⟩ := id hm
  refine ca_iload_n hX (q := 1) 1 rfl rfl rfl dX6_letter_0 ?_
  refine ca_if_ge hX (q := 4) 11 rfl rfl dX6_letter_1 (fun b1 => ?_) (fun b1 => ?_)
  · refine ca_iload_n hX (q := 12) 1 rfl rfl rfl dX6_letter_11 ?_
    refine ca_sipush hX (q := 15) k_sipush_255 rfl dX6_letter_12 ?_
    refine ca_icmp_gt hX (q := 18) 27 rfl rfl dX6_letter_15 (fun b15 => ?_) (fun b15 => ?_)
    · refine ca_aload_n hX (q := 28) 0 rfl rfl rfl dX6_letter_27 ?_
      refine ca_bipush hX (q := 30) k_bipush_m6 rfl dX6_letter_28 ?_
      refine ca_cV hX (q := 33) y_X6_no w_ml_X6_51 (by omega) hN c0 (c_X6_no l N g o _ hm ho (-6) 6 (by decide) (by omega)) (by decide) rfl (Nat.le_of_ble_eq_true rfl) rfl dX6_letter_30 rfl ?_
      rintro _ g ⟨rfl, hm, hf⟩
      have hke := keM.no hke 6
      have hfr := hfr.tr hf
      refine ca_iret hX rfl rfl rfl rfl dX6_letter_33 ?_
      exact re_end2 (by simp [leA, noA, nk1, nk2, nk3, nk4, nk6, b1, (Int32.not_lt.mpr b1), b15, (Int32.not_le.mpr b15)]) hfr hm hke
    · refine ca_aload_n hX (q := 19) 0 rfl rfl rfl dX6_letter_18 ?_
      refine ca_getf hX (q := 22) cl_X6 8 (by decide) w_fl_X6_118 (by omega) c0 rfl rfl dX6_letter_19 ?_
      refine ca_bipush hX (q := 24) k_bipush_96 rfl dX6_letter_22 ?_
      refine ca_icmp_ne hX (q := 27) 34 rfl rfl dX6_letter_24 (fun b24 => ?_) (fun b24 => ?_)
      · have q96 : k < 96 := Nat.lt_of_le_of_ne hk6 (fun e => b24 (by rw [hk, e]; rfl))
        refine ca_aload_n hX (q := 35) 0 rfl rfl rfl dX6_letter_34 ?_
        refine ca_getf hX (q := 38) cl_X6 5 (by decide) w_fl_X6_22 (by omega) c0 rfl rfl dX6_letter_35 ?_
        refine ca_aload_n hX (q := 39) 0 rfl rfl rfl dX6_letter_38 ?_
        refine ca_getf hX (q := 42) cl_X6 8 (by decide) w_fl_X6_118 (by omega) c0 rfl rfl dX6_letter_39 ?_
        refine ca_iload_n hX (q := 43) 1 rfl rfl rfl dX6_letter_42 ?_
        refine ca_iaS hX (q := 44) (k := k) (by omega) hN (Nat.le_refl _) c5 (by decide) hk q96 rfl dX6_letter_43 (fun g hE hF => ?_)
        have hm := md_a4 hm hE hF
        obtain ⟨c0, c1, c2, c3, c4, c5, c6, c7, c8, c9, c10, c11, c12, c13⟩ := id hm
        have hfr := frG.tr hfr (fun j hj => hF j (by omega))
        refine ca_aload_n hX (q := 45) 0 rfl rfl rfl dX6_letter_44 ?_
        refine ca_dup hX (q := 46) rfl rfl dX6_letter_45 ?_
        refine ca_getf hX (q := 49) cl_X6 8 (by decide) w_fl_X6_118 (by omega) c0 rfl rfl dX6_letter_46 ?_
        refine ca_iconst hX (q := 50) k_iconst_1 rfl dX6_letter_49 ?_
        refine ca_iadd hX (q := 51) rfl dX6_letter_50 ?_
        refine ca_puti hX (q := 54) (fs' := [_, _, _, _, _, _, _, _, _, _, _, _, _, _, _, _, _, _, _, _]) cl_X6 8 (by decide) w_fl_X6_118 rfl rfl (by omega) hN c0 (Nat.le_of_ble_eq_true rfl) rfl rfl dX6_letter_51 (fun g hE hF => ?_)
        have hm := md_s1 hm hE hF
        obtain ⟨c0, c1, c2, c3, c4, c5, c6, c7, c8, c9, c10, c11, c12, c13⟩ := id hm
        have hfr := frG.tr hfr (fun j hj => hF j (by omega))
        refine ca_aload_n hX (q := 55) 0 rfl rfl rfl dX6_letter_54 ?_
        refine ca_getf hX (q := 58) cl_X6 8 (by decide) w_fl_X6_118 (by omega) c0 rfl rfl dX6_letter_55 ?_
        refine ca_iret hX rfl rfl rfl rfl dX6_letter_58 ?_
        have e1 : upB M 4 k x1 13 1 + 1 = nI (k + 1) := by rw [upB_n _ _ _ (by omega), hk]; exact nI_add k 1
        rw [e1] at hm ⊢
        rw [upB_st M 4] at hm
        exact re_end2 (by simp [leA, b1, (Int32.not_lt.mpr b1), b15, (Int32.not_lt.mp b15), b24, q96, upB_s, upd_s]) hfr hm (keM.rf (by rw [up_134 _ _ (by omega), st_n _ _ (by omega)]; exact hs4))
      · have q96 : ¬ k < 96 := by have := (nI_eq (b := 96) (by omega) (by omega)).mp (hk.symm.trans b24); omega
        refine ca_aload_n hX (q := 28) 0 rfl rfl rfl dX6_letter_27 ?_
        refine ca_bipush hX (q := 30) k_bipush_m6 rfl dX6_letter_28 ?_
        refine ca_cV hX (q := 33) y_X6_no w_ml_X6_51 (by omega) hN c0 (c_X6_no l N g o _ hm ho (-6) 6 (by decide) (by omega)) (by decide) rfl (Nat.le_of_ble_eq_true rfl) rfl dX6_letter_30 rfl ?_
        rintro _ g ⟨rfl, hm, hf⟩
        have hke := keM.no hke 6
        have hfr := hfr.tr hf
        refine ca_iret hX rfl rfl rfl rfl dX6_letter_33 ?_
        exact re_end2 (by simp [leA, noA, nk1, nk2, nk3, nk4, nk6, b1, (Int32.not_lt.mpr b1), b15, (Int32.not_lt.mp b15), b24, q96]) hfr hm hke
  · refine ca_aload_n hX (q := 5) 0 rfl rfl rfl dX6_letter_4 ?_
    refine ca_bipush hX (q := 7) k_bipush_m4 rfl dX6_letter_5 ?_
    refine ca_cV hX (q := 10) y_X6_no w_ml_X6_51 (by omega) hN c0 (c_X6_no l N g o _ hm ho (-4) 4 (by decide) (by omega)) (by decide) rfl (Nat.le_of_ble_eq_true rfl) rfl dX6_letter_7 rfl ?_
    rintro _ g ⟨rfl, hm, hf⟩
    have hke := keM.no hke 4
    have hfr := hfr.tr hf
    refine ca_iret hX rfl rfl rfl rfl dX6_letter_10 ?_
    exact re_end2 (by simp [leA, noA, nk1, nk2, nk3, nk4, nk6, b1, (Int32.not_le.mp b1)]) hfr hm hke

set_option maxRecDepth 100000 in
set_option maxHeartbeats 4000000 in
theorem m_row (l : Launch) (N : Nat) (g0 : ca_G) (o : Nat) (M : Nat → Nat → Int32) (hm : mdG g0 o M) (ho : o + 14 ≤ N) (hs4 : M 13 4 = 0) (k : Nat) (hk : M 13 2 = nI k) (hk6 : k ≤ 25) (x1 : Int32) : ca_Ct l yX6_row cX6_row 2 (some .int) 1 0 0 N 1000000 [.ref o, .int x1] g0 (reP o g0 (rwA M k x1)) := by
  refine ca_intro (by decide) (Nat.le_of_ble_eq_true rfl) (fun X hX hN => ?_)
  show X 0 [_, _] [] N 1000000 g0
  obtain ⟨g, hgg⟩ : ∃ g, g = g0 := ⟨g0, rfl⟩
  rw [← hgg] at hm ⊢
  have hfr : frG g0 g o (o + 14) := by rw [hgg]; exact frG.rf
  have hke := keM.rf hs4
  obtain ⟨c0, c1, c2, c3, c4, c5, c6, c7, c8, c9, c10, c11, c12, c13⟩ := id hm
  refine ca_iload_n hX (q := 1) 1 rfl rfl rfl dX6_row_0 ?_
  refine ca_if_ge hX (q := 4) 11 rfl rfl dX6_row_1 (fun b1 => ?_) (fun b1 => ?_)
  · refine ca_iload_n hX (q := 12) 1 rfl rfl rfl dX6_row_11 ?_
    refine ca_bipush hX (q := 14) k_bipush_99 rfl dX6_row_12 ?_
    refine ca_icmp_gt hX (q := 17) 26 rfl rfl dX6_row_14 (fun b14 => ?_) (fun b14 => ?_)
    · refine ca_aload_n hX (q := 27) 0 rfl rfl rfl dX6_row_26 ?_
      refine ca_bipush hX (q := 29) k_bipush_m6 rfl dX6_row_27 ?_
      refine ca_cV hX (q := 32) y_X6_no w_ml_X6_51 (by omega) hN c0 (c_X6_no l N g o _ hm ho (-6) 6 (by decide) (by omega)) (by decide) rfl (Nat.le_of_ble_eq_true rfl) rfl dX6_row_29 rfl ?_
      rintro _ g ⟨rfl, hm, hf⟩
      have hke := keM.no hke 6
      have hfr := hfr.tr hf
      refine ca_iret hX rfl rfl rfl rfl dX6_row_32 ?_
      exact re_end2 (by simp [rwA, noA, nk1, nk2, nk3, nk4, nk6, b1, (Int32.not_lt.mpr b1), b14, (Int32.not_le.mpr b14)]) hfr hm hke
    · refine ca_aload_n hX (q := 18) 0 rfl rfl rfl dX6_row_17 ?_
      refine ca_getf hX (q := 21) cl_X6 9 (by decide) w_fl_X6_190 (by omega) c0 rfl rfl dX6_row_18 ?_
      refine ca_bipush hX (q := 23) k_bipush_25 rfl dX6_row_21 ?_
      refine ca_icmp_ne hX (q := 26) 33 rfl rfl dX6_row_23 (fun b23 => ?_) (fun b23 => ?_)
      · have q96 : k < 25 := Nat.lt_of_le_of_ne hk6 (fun e => b23 (by rw [hk, e]; rfl))
        refine ca_aload_n hX (q := 34) 0 rfl rfl rfl dX6_row_33 ?_
        refine ca_getf hX (q := 37) cl_X6 6 (by decide) w_fl_X6_25 (by omega) c0 rfl rfl dX6_row_34 ?_
        refine ca_aload_n hX (q := 38) 0 rfl rfl rfl dX6_row_37 ?_
        refine ca_getf hX (q := 41) cl_X6 9 (by decide) w_fl_X6_190 (by omega) c0 rfl rfl dX6_row_38 ?_
        refine ca_iload_n hX (q := 42) 1 rfl rfl rfl dX6_row_41 ?_
        refine ca_iaS hX (q := 43) (k := k) (by omega) hN (Nat.le_refl _) c6 (by decide) hk q96 rfl dX6_row_42 (fun g hE hF => ?_)
        have hm := md_a5 hm hE hF
        obtain ⟨c0, c1, c2, c3, c4, c5, c6, c7, c8, c9, c10, c11, c12, c13⟩ := id hm
        have hfr := frG.tr hfr (fun j hj => hF j (by omega))
        refine ca_aload_n hX (q := 44) 0 rfl rfl rfl dX6_row_43 ?_
        refine ca_dup hX (q := 45) rfl rfl dX6_row_44 ?_
        refine ca_getf hX (q := 48) cl_X6 9 (by decide) w_fl_X6_190 (by omega) c0 rfl rfl dX6_row_45 ?_
        refine ca_iconst hX (q := 49) k_iconst_1 rfl dX6_row_48 ?_
        refine ca_iadd hX (q := 50) rfl dX6_row_49 ?_
        refine ca_puti hX (q := 53) (fs' := [_, _, _, _, _, _, _, _, _, _, _, _, _, _, _, _, _, _, _, _]) cl_X6 9 (by decide) w_fl_X6_190 rfl rfl (by omega) hN c0 (Nat.le_of_ble_eq_true rfl) rfl rfl dX6_row_50 (fun g hE hF => ?_)
        have hm := md_s2 hm hE hF
        obtain ⟨c0, c1, c2, c3, c4, c5, c6, c7, c8, c9, c10, c11, c12, c13⟩ := id hm
        have hfr := frG.tr hfr (fun j hj => hF j (by omega))
        refine ca_aload_n hX (q := 54) 0 rfl rfl rfl dX6_row_53 ?_
        refine ca_getf hX (q := 57) cl_X6 9 (by decide) w_fl_X6_190 (by omega) c0 rfl rfl dX6_row_54 ?_
        refine ca_iret hX rfl rfl rfl rfl dX6_row_57 ?_
        have e1 : upB M 5 k x1 13 2 + 1 = nI (k + 1) := by rw [upB_n _ _ _ (by omega), hk]; exact nI_add k 1
        rw [e1] at hm ⊢
        rw [upB_st M 5] at hm
        exact re_end2 (by simp [rwA, b1, (Int32.not_lt.mpr b1), b14, (Int32.not_lt.mp b14), b23, q96, upB_s, upd_s]) hfr hm (keM.rf (by rw [up_134 _ _ (by omega), st_n _ _ (by omega)]; exact hs4))
      · have q96 : ¬ k < 25 := by have := (nI_eq (b := 25) (by omega) (by omega)).mp (hk.symm.trans b23); omega
        refine ca_aload_n hX (q := 27) 0 rfl rfl rfl dX6_row_26 ?_
        refine ca_bipush hX (q := 29) k_bipush_m6 rfl dX6_row_27 ?_
        refine ca_cV hX (q := 32) y_X6_no w_ml_X6_51 (by omega) hN c0 (c_X6_no l N g o _ hm ho (-6) 6 (by decide) (by omega)) (by decide) rfl (Nat.le_of_ble_eq_true rfl) rfl dX6_row_29 rfl ?_
        rintro _ g ⟨rfl, hm, hf⟩
        have hke := keM.no hke 6
        have hfr := hfr.tr hf
        refine ca_iret hX rfl rfl rfl rfl dX6_row_32 ?_
        exact re_end2 (by simp [rwA, noA, nk1, nk2, nk3, nk4, nk6, b1, (Int32.not_lt.mpr b1), b14, (Int32.not_lt.mp b14), b23, q96]) hfr hm hke
  · refine ca_aload_n hX (q := 5) 0 rfl rfl rfl dX6_row_4 ?_
    refine ca_bipush hX (q := 7) k_bipush_m4 rfl dX6_row_5 ?_
    refine ca_cV hX (q := 10) y_X6_no w_ml_X6_51 (by omega) hN c0 (c_X6_no l N g o _ hm ho (-4) 4 (by decide) (by omega)) (by decide) rfl (Nat.le_of_ble_eq_true rfl) rfl dX6_row_7 rfl ?_
    rintro _ g ⟨rfl, hm, hf⟩
    have hke := keM.no hke 4
    have hfr := hfr.tr hf
    refine ca_iret hX rfl rfl rfl rfl dX6_row_10 ?_
    exact re_end2 (by simp [rwA, noA, nk1, nk2, nk3, nk4, nk6, b1, (Int32.not_le.mp b1)]) hfr hm hke

set_option maxRecDepth 100000 in
set_option maxHeartbeats 4000000 in
theorem m_clear (l : Launch) (N : Nat) (g0 : ca_G) (o : Nat) (M : Nat → Nat → Int32) (hm : mdG g0 o M) (ho : o + 14 ≤ N) (hs4 : M 13 4 = 0) : ca_Ct l yX6_clear cX6_clear 2 (some .int) 0 0 0 N 1000000 [.ref o] g0 (reP o g0 (cwA M)) := by
  refine ca_intro (by decide) (Nat.le_of_ble_eq_true rfl) (fun X hX hN => ?_)
  show X 0 [_, none] [] N 1000000 g0
  obtain ⟨g, hgg⟩ : ∃ g, g = g0 := ⟨g0, rfl⟩
  rw [← hgg] at hm ⊢
  have hfr : frG g0 g o (o + 14) := by rw [hgg]; exact frG.rf
  have hke := keM.rf hs4
  obtain ⟨c0, c1, c2, c3, c4, c5, c6, c7, c8, c9, c10, c11, c12, c13⟩ := id hm
  refine ca_aload_n hX (q := 1) 0 rfl rfl rfl dX6_clear_0 ?_
  refine ca_getf hX (q := 4) cl_X6 9 (by decide) w_fl_X6_190 (by omega) c0 rfl rfl dX6_clear_1 ?_
  refine ca_istore_n hX (q := 5) 1 rfl (ls' := [_, _]) (Nat.le_of_ble_eq_true rfl) (Nat.le_of_ble_eq_true rfl) (Or.inr rfl) rfl rfl dX6_clear_4 ?_
  refine ca_aload_n hX (q := 6) 0 rfl rfl rfl dX6_clear_5 ?_
  refine ca_iconst hX (q := 7) k_iconst_0 rfl dX6_clear_6 ?_
  refine ca_puti hX (q := 10) (fs' := [_, _, _, _, _, _, _, _, _, _, _, _, _, _, _, _, _, _, _, _]) cl_X6 9 (by decide) w_fl_X6_190 rfl rfl (by omega) hN c0 (Nat.le_of_ble_eq_true rfl) rfl rfl dX6_clear_7 (fun g hE hF => ?_)
  have hm := md_s2 hm hE hF
  obtain ⟨c0, c1, c2, c3, c4, c5, c6, c7, c8, c9, c10, c11, c12, c13⟩ := id hm
  have hfr := frG.tr hfr (fun j hj => hF j (by omega))
  refine ca_iload_n hX (q := 11) 1 rfl rfl rfl dX6_clear_10 ?_
  refine ca_iret hX rfl rfl rfl rfl dX6_clear_11 ?_
  exact re_end2 rfl hfr hm (keM.rf (by rw [up_134 _ _ (by omega)]; exact hs4))

set_option maxRecDepth 100000 in
set_option maxHeartbeats 4000000 in
theorem m_image (l : Launch) (N : Nat) (g0 : ca_G) (o : Nat) (M : Nat → Nat → Int32) (hm : mdG g0 o M) (ho : o + 14 ≤ N) (hs4 : M 13 4 = 0) : ca_Ct l yX6_image cX6_image 1 (some .int) 1 0 0 N 1000000 [.ref o] g0 (reP o g0 (imA M)) := by
  refine ca_intro (by decide) (Nat.le_of_ble_eq_true rfl) (fun X hX hN => ?_)
  show X 0 [_] [] N 1000000 g0
  obtain ⟨g, hgg⟩ : ∃ g, g = g0 := ⟨g0, rfl⟩
  rw [← hgg] at hm ⊢
  have hfr : frG g0 g o (o + 14) := by rw [hgg]; exact frG.rf
  have hke := keM.rf hs4
  obtain ⟨c0, c1, c2, c3, c4, c5, c6, c7, c8, c9, c10, c11, c12, c13⟩ := id hm
  refine ca_aload_n hX (q := 1) 0 rfl rfl rfl dX6_image_0 ?_
  refine ca_getf hX (q := 4) cl_X6 0 (by decide) w_fl_X6_9 (by omega) c0 rfl rfl dX6_image_1 ?_
  refine ca_aload_n hX (q := 5) 0 rfl rfl rfl dX6_image_4 ?_
  refine ca_getf hX (q := 8) cl_X6 2 (by decide) w_fl_X6_16 (by omega) c0 rfl rfl dX6_image_5 ?_
  refine ca_cS hX (q := 11) y_X6_lays w_ml_X6_147 hN (c_X6_lays l N g (o + 1) (o + 3) _ _ c1 c3 (by omega) (by omega) (by omega)) (by decide) rfl (Nat.le_of_ble_eq_true rfl) rfl dX6_image_8 rfl ?_
  rintro _ g ⟨rfl, hE, hF⟩
  refine ca_same hX (f' := M 0) (by omega) hN hE (fun j hj => if_pos hj) (fun g hE2 hF2 => ?_)
  have hm := md_f2 hm hE2 (fun j hj => (hF2 j hj).trans (hF j hj))
  obtain ⟨c0, c1, c2, c3, c4, c5, c6, c7, c8, c9, c10, c11, c12, c13⟩ := id hm
  have hfr := hfr.tr (fun j hj => (hF2 j (by omega)).trans (hF j (by omega)))
  refine ca_aload_n hX (q := 12) 0 rfl rfl rfl dX6_image_11 ?_
  refine ca_iconst hX (q := 13) k_iconst_1 rfl dX6_image_12 ?_
  refine ca_putG hX (q := 16) (fs' := [_, _, _, _, _, _, _, _, _, _, _, _, _, _, _, _, _, _, _, _]) cl_X6 4 (by decide) w_fl_X6_202 (Or.inl rfl) (fun _ => rfl) (fun _ => rfl) (by omega) hN c0 (Nat.le_of_ble_eq_true rfl) rfl rfl dX6_image_13 (fun g hE hF => ?_)
  have hm := md_s0 hm hE hF
  obtain ⟨c0, c1, c2, c3, c4, c5, c6, c7, c8, c9, c10, c11, c12, c13⟩ := id hm
  have hfr := frG.tr hfr (fun j hj => hF j (by omega))
  refine ca_aload_n hX (q := 17) 0 rfl rfl rfl dX6_image_16 ?_
  refine ca_getf hX (q := 20) cl_X6 0 (by decide) w_fl_X6_9 (by omega) c0 rfl rfl dX6_image_17 ?_
  refine ca_iconst hX (q := 21) k_iconst_1 rfl dX6_image_20 ?_
  refine ca_iaN hX (q := 22) (k := 1) (by omega) c1 (by decide) (by decide) (by decide) rfl dX6_image_21 ?_
  refine ca_iret hX rfl rfl rfl rfl dX6_image_22 ?_
  exact re_end2 (v := M 0 1) rfl hfr hm (keM.rf (by rw [up_134 _ _ (by omega), st_n _ _ (by omega)]; exact hs4))

set_option maxRecDepth 100000 in
set_option maxHeartbeats 4000000 in
theorem m_on (l : Launch) (N : Nat) (g0 : ca_G) (o : Nat) (M : Nat → Nat → Int32) (hm : mdG g0 o M) (ho : o + 14 ≤ N) (hs4 : M 13 4 = 0) : ca_Ct l yX6_on cX6_on 1 (some .int) 1 0 0 N 1000000 [.ref o] g0 (reP o g0 (onA M)) := by
  refine ca_intro (by decide) (Nat.le_of_ble_eq_true rfl) (fun X hX hN => ?_)
  show X 0 [_] [] N 1000000 g0
  obtain ⟨g, hgg⟩ : ∃ g, g = g0 := ⟨g0, rfl⟩
  rw [← hgg] at hm ⊢
  have hfr : frG g0 g o (o + 14) := by rw [hgg]; exact frG.rf
  have hke := keM.rf hs4
  obtain ⟨c0, c1, c2, c3, c4, c5, c6, c7, c8, c9, c10, c11, c12, c13⟩ := id hm
  refine ca_aload_n hX (q := 1) 0 rfl rfl rfl dX6_on_0 ?_
  refine ca_getf hX (q := 4) cl_X6 4 (by decide) w_fl_X6_202 (by omega) c0 rfl rfl dX6_on_1 ?_
  refine ca_if_ne hX (q := 7) 14 rfl rfl dX6_on_4 (fun b4 => ?_) (fun b4 => ?_)
  · refine ca_aload_n hX (q := 15) 0 rfl rfl rfl dX6_on_14 ?_
    refine ca_getf hX (q := 18) cl_X6 2 (by decide) w_fl_X6_16 (by omega) c0 rfl rfl dX6_on_15 ?_
    refine ca_aload_n hX (q := 19) 0 rfl rfl rfl dX6_on_18 ?_
    refine ca_getf hX (q := 22) cl_X6 0 (by decide) w_fl_X6_9 (by omega) c0 rfl rfl dX6_on_19 ?_
    refine ca_cS hX (q := 25) y_X6_lays w_ml_X6_147 hN (c_X6_lays l N g (o + 3) (o + 1) _ _ c3 c1 (by omega) (by omega) (by omega)) (by decide) rfl (Nat.le_of_ble_eq_true rfl) rfl dX6_on_22 rfl ?_
    rintro _ g ⟨rfl, hE, hF⟩
    refine ca_same hX (f' := M 2) (by omega) hN hE (fun j hj => if_pos hj) (fun g hE2 hF2 => ?_)
    have hm := md_f0 hm hE2 (fun j hj => (hF2 j hj).trans (hF j hj))
    obtain ⟨c0, c1, c2, c3, c4, c5, c6, c7, c8, c9, c10, c11, c12, c13⟩ := id hm
    have hfr := hfr.tr (fun j hj => (hF2 j (by omega)).trans (hF j (by omega)))
    refine ca_aload_n hX (q := 26) 0 rfl rfl rfl dX6_on_25 ?_
    refine ca_getf hX (q := 29) cl_X6 0 (by decide) w_fl_X6_9 (by omega) c0 rfl rfl dX6_on_26 ?_
    refine ca_iconst hX (q := 30) k_iconst_1 rfl dX6_on_29 ?_
    refine ca_iaN hX (q := 31) (k := 1) (by omega) c1 (by decide) (by decide) (by decide) rfl dX6_on_30 ?_
    refine ca_iret hX rfl rfl rfl rfl dX6_on_31 ?_
    exact re_end2 (by simp [onA, b4, st_s]) hfr hm (keM.rf (by rw [st_n _ _ (by omega)]; exact hs4))
  · refine ca_aload_n hX (q := 8) 0 rfl rfl rfl dX6_on_7 ?_
    refine ca_bipush hX (q := 10) k_bipush_m3 rfl dX6_on_8 ?_
    refine ca_cV hX (q := 13) y_X6_no w_ml_X6_51 (by omega) hN c0 (c_X6_no l N g o _ hm ho (-3) 3 (by decide) (by omega)) (by decide) rfl (Nat.le_of_ble_eq_true rfl) rfl dX6_on_10 rfl ?_
    rintro _ g ⟨rfl, hm, hf⟩
    have hke := keM.no hke 3
    have hfr := hfr.tr hf
    refine ca_iret hX rfl rfl rfl rfl dX6_on_13 ?_
    exact re_end2 (by simp [onA, noA, nk1, nk2, nk3, nk4, nk6, b4]) hfr hm hke

