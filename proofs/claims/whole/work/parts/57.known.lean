/-! what people know: sure, nights, unlike, count of both -/
def kwB (h : Nat → Int32) (r p : Nat) : Bool := !decide (knB h p r = 0)
def kaN (h : Nat → Int32) (P : Nat) : Nat := sN (fun r => if cN (kwB h r) P = P ∧ 0 < P then 1 else 0) 25
def ksN (h : Nat → Int32) (P : Nat) : Nat := sN (fun r => if 0 < cN (kwB h r) P then 1 else 0) 25
theorem cN_s (p : Nat → Bool) (n : Nat) : cN p (n + 1) = cN p n + (if p n = true then 1 else 0) := by rw [cN]
theorem cN_le (p : Nat → Bool) : ∀ n, cN p n ≤ n
  | 0 => Nat.le_refl _
  | n + 1 => by rw [cN_s]; have := cN_le p n; split <;> omega
theorem cN_cg {p q : Nat → Bool} : ∀ n, (∀ i, i < n → p i = q i) → cN p n = cN q n
  | 0, _ => rfl
  | n + 1, h => by rw [cN_s, cN_s, cN_cg n (fun i hi => h i (by omega)), h n (by omega)]
theorem cN_sN (p : Nat → Bool) : ∀ n, cN p n = sN (fun i => if p i = true then 1 else 0) n
  | 0 => rfl
  | n + 1 => by rw [cN_s, sN, cN_sN p n]
theorem and_bt (f : Nat → Int32) (a : Int32) (i : Nat) : ∀ n, bt (andM f a n) i = (bt a i && decide (cN (fun p => bt (f p) i) n = n))
  | 0 => by rw [andM, cN]; simp
  | n + 1 => by
    rw [andM, b_and, and_bt f a i n, cN_s]
    have := cN_le (fun p => bt (f p) i) n
    rcases hb : bt (f n) i with _ | _
    · rw [if_neg (by decide), decide_eq_false (show ¬ cN (fun p => bt (f p) i) n + 0 = n + 1 by omega)]; simp
    · rw [if_pos rfl, show decide (cN (fun p => bt (f p) i) n + 1 = n + 1) = decide (cN (fun p => bt (f p) i) n = n) from decide_eq_decide.mpr (by omega)]; simp
theorem or_bt (f : Nat → Int32) (i : Nat) : ∀ n, bt (orM f n) i = decide (0 < cN (fun p => bt (f p) i) n)
  | 0 => by rw [orM, cN, b_0]; rfl
  | n + 1 => by
    rw [orM, b_or, or_bt f i n, cN_s]
    rcases hb : bt (f n) i with _ | _
    · rw [if_neg (by decide)]; simp
    · rw [if_pos rfl, decide_eq_true (show 0 < cN (fun p => bt (f p) i) n + 1 by omega)]; simp
theorem say_kw (h : Nat → Int32) (p r : Nat) (hr : r < 25) : bt (sayM h p 25) r = kwB h r p := by rw [say_bit h p r 25 (Nat.le_refl _), decide_eq_true hr]; rfl
theorem say_hi (h : Nat → Int32) (p r : Nat) (hr : 25 ≤ r) : bt (sayM h p 25) r = false := by rw [say_bit h p r 25 (Nat.le_refl _), decide_eq_false (by omega)]; rfl
theorem cN_0 (p : Nat → Bool) : ∀ n, (∀ i, i < n → p i = false) → cN p n = 0
  | 0, _ => rfl
  | n + 1, h => by rw [cN_s, cN_0 p n (fun i hi => h i (by omega)), h n (by omega), if_neg (by decide)]
theorem su_eq {h : Nat → Int32} {P : Nat} (hP : h 0 = nI P) (hP5 : P ≤ 5) : sureM h P = nI (kaN h P) := by
  unfold sureM
  have ha : ∀ i, bt (if h 0 = 0 then 0 else 33554431) i = (decide (0 < P) && decide (i < 25)) := by
    intro i
    by_cases z : P = 0
    · rw [if_pos (by rw [hP, z]; rfl), b_0, decide_eq_false (by omega)]; rfl
    · rw [if_neg (by rw [hP]; exact fun y => z ((nI_eq (b := 0) (by omega) (by omega)).mp y)), decide_eq_true (show 0 < P by omega), Bool.true_and]
      rcases Nat.lt_or_ge i 32 with q | q
      · exact b_kc i q
      · rw [b_big q, decide_eq_false (by omega)]
  rw [bc_25 (fun i hi => by rw [and_bt, ha, decide_eq_false (show ¬ i < 25 by omega)]; simp)]
  unfold kaN
  congr 1
  refine sN_eq 25 (fun r hr => ?_)
  rw [and_bt, ha, decide_eq_true hr, cN_cg (q := kwB h r) P (fun p _ => say_kw h p r hr)]
  by_cases z : cN (kwB h r) P = P ∧ 0 < P
  · rw [if_pos z, decide_eq_true z.1, decide_eq_true z.2]; rfl
  · rw [if_neg z, if_neg]
    intro y
    simp at y
    exact z ⟨y.2, y.1⟩
theorem so_eq (h : Nat → Int32) (P : Nat) : someM h P = nI (ksN h P) := by
  unfold someM
  rw [bc_25 (fun i hi => by rw [or_bt, cN_0 _ P (fun p _ => say_hi h p i hi)]; rfl)]
  unfold ksN
  congr 1
  refine sN_eq 25 (fun r hr => ?_)
  rw [or_bt, cN_cg (q := kwB h r) P (fun p _ => say_kw h p r hr)]
  by_cases z : 0 < cN (kwB h r) P
  · rw [if_pos z, decide_eq_true z, if_pos rfl]
  · rw [if_neg z, decide_eq_false z, if_neg (by decide)]
def suA (M : Nat → Nat → Int32) (P : Nat) (x : Int32) : An := if b01 x = 0 then noA M 2 else (if x = 0 then nI (kaN (M 0) P) else 25 - nI (ksN (M 0) P), M)
def niA (M : Nat → Nat → Int32) (P : Nat) (x : Int32) : An := if x < 1 then noA M 4 else if 60 < x then noA M 6 else if 999 < M 0 1 + x then noA M 6 else (nI (kaN (pnM P (M 0) x.toNatClampNeg) P), stB M 0 (pnM P (M 0) x.toNatClampNeg))
theorem n60_ok {x : Int32} (h1 : 1 ≤ x) (h2 : x ≤ 60) : ∃ k, k ≤ 60 ∧ 1 ≤ k ∧ x = nI k := by
  rw [Int32.le_iff_toInt_le, show (1 : Int32).toInt = 1 from rfl] at h1
  rw [Int32.le_iff_toInt_le, show (60 : Int32).toInt = 60 from rfl] at h2
  refine ⟨x.toInt.toNat, by omega, by omega, Int32.toInt_inj.mp ?_⟩
  rw [nI_toInt (by omega)]; omega

set_option maxRecDepth 100000 in
set_option maxHeartbeats 4000000 in
theorem k_sure (l : Launch) (N : Nat) (g0 : ca_G) (M : Nat → Nat → Int32) (t : Nat → Int32) (B : Nat → Nat → Int32) (hx : clX g0 M t B) (hN31 : 31 ≤ N) (P : Nat) (w : wfH (M 0) P) (x1 : Int32) : ca_Ct l yX5_sure cX5_sure 2 (some .int) 3 0 0 N 1000000 [.ref 0, .int x1] g0 (clP g0 (suA M P x1)) := by
  refine ca_intro (by decide) (Nat.le_of_ble_eq_true rfl) (fun X hX hN => ?_)
  show X 0 [_, _] [] N 1000000 g0
  obtain ⟨g, hgg⟩ : ∃ g, g = g0 := ⟨g0, rfl⟩
  rw [← hgg] at hx ⊢
  have hfr : frG g0 g 0 31 := by rw [hgg]; exact frG.rf
  obtain ⟨hc, hh, hkp, htr, hz, htl, hlt, hrw, h30⟩ := id hx
  have h0 := hh.1
  have k0 := hkp.1
  have t0 := htr.1
  have d0 := hz.1
  have l0 := hlt.1
  have w0 := hrw.1
  have hP := w.1
  have hP5 := w.2.1
  have hok := wf_ok w
  refine ca_iload_n hX (q := 1) 1 rfl rfl rfl dX5_sure_0 ?_
  refine ca_if_ne hX (q := 4) 12 rfl rfl dX5_sure_1 (fun c1 => ?_) (fun c1 => ?_)
  · refine ca_iload_n hX (q := 13) 1 rfl rfl rfl dX5_sure_12 ?_
    refine ca_iconst hX (q := 14) k_iconst_1 rfl dX5_sure_13 ?_
    refine ca_icmp_ne hX (q := 17) 28 rfl rfl dX5_sure_14 (fun c14 => ?_) (fun c14 => ?_)
    · refine ca_aload_n hX (q := 29) 0 rfl rfl rfl dX5_sure_28 ?_
      refine ca_bipush hX (q := 31) k_bipush_m2 rfl dX5_sure_29 ?_
      refine ca_cV hX (q := 34) y_X5_refuse w_ml_X5_53 (by omega) hN hc (c_X5_refuse l N g _ hc hN31 (M 6) h30 (-2) 2 (by decide) (by omega) (by omega)) (by decide) rfl (Nat.le_of_ble_eq_true rfl) rfl dX5_sure_31 rfl ?_
      rintro _ g ⟨rfl, h30, hf⟩
      have hx := hx.rf hf h30
      have hfr := hfr.tr (hf.wd (by omega) (by omega))
      refine ca_iret hX rfl rfl rfl rfl dX5_sure_34 ?_
      exact cl_end (by simp [suA, b01, noA, nk1, nk2, nk3, nk4, nk6, c1, c14]) hfr hx
    · refine ca_bipush hX (q := 19) k_bipush_25 rfl dX5_sure_17 ?_
      refine ca_aload_n hX (q := 20) 0 rfl rfl rfl dX5_sure_19 ?_
      refine ca_getf hX (q := 23) cl_X5 0 (by decide) w_fl_X5_10 (by omega) hc rfl rfl dX5_sure_20 ?_
      have hso := so_eq (M 0) P
      refine ca_cVi hX (q := 26) y_X1_somebodysRooms w_ml_X5_191 (by omega) hN h0 (c_X1_somebodysRooms l N g 1 (M 0) hh (by omega) P hP hP5) (by decide) rfl (Nat.le_of_ble_eq_true rfl) rfl dX5_sure_23 rfl ?_
      refine ca_isub hX (q := 27) rfl dX5_sure_26 ?_
      refine ca_iret hX rfl rfl rfl rfl dX5_sure_27 ?_
      exact cl_end (by simp [suA, b01, noA, nk1, nk2, nk3, nk4, nk6, c1, c14, hso]) hfr hx
  · refine ca_aload_n hX (q := 5) 0 rfl rfl rfl dX5_sure_4 ?_
    refine ca_getf hX (q := 8) cl_X5 0 (by decide) w_fl_X5_10 (by omega) hc rfl rfl dX5_sure_5 ?_
    have hsu := su_eq (h := (M 0)) hP hP5
    refine ca_cVi hX (q := 11) y_X1_sureRooms w_ml_X5_125 (by omega) hN h0 (c_X1_sureRooms l N g 1 (M 0) hh (by omega) P hP hP5) (by decide) rfl (Nat.le_of_ble_eq_true rfl) rfl dX5_sure_8 rfl ?_
    refine ca_iret hX rfl rfl rfl rfl dX5_sure_11 ?_
    exact cl_end (by simp [suA, b01, noA, nk1, nk2, nk3, nk4, nk6, c1, hsu]) hfr hx

def kfV (h : Nat → Int32) (P : Nat) (f : Int32) (r : Nat) : Nat := if f = 0 then (if 0 < cN (kwB h r) P then 1 else 0) else (if cN (kwB h r) P = P ∧ 0 < P then 1 else 0)
theorem kf_0 (h : Nat → Int32) (P : Nat) : sN (kfV h P 0) 25 = ksN h P := sN_eq 25 (fun r _ => if_pos rfl)
theorem kf_1 (h : Nat → Int32) (P : Nat) : sN (kfV h P 1) 25 = kaN h P := sN_eq 25 (fun r _ => if_neg (by decide))
theorem nI_gt0 {k : Nat} (h : k < 1000) : nI k ≤ 0 ↔ k = 0 := by
  rw [Int32.le_iff_toInt_le, nI_toInt (by omega), show (0 : Int32).toInt = 0 from rfl]; omega

set_option maxRecDepth 100000 in
set_option maxHeartbeats 4000000 in
theorem c_X6_knownMany (l : Launch) (N : Nat) (g : ca_G) (o : Nat) (M : Nat → Nat → Int32) (hm : mdG g o M) (ho : o + 14 ≤ N) (P : Nat) (hP : M 0 0 = nI P) (hP5 : P ≤ 5) (f : Int32) : ca_Ct l yX6_knownMany cX6_knownMany 6 (some .int) 2 0 0 N 1000000 [.ref o, .int f] g (ca_pi (nI (sN (kfV (M 0) P f) 25)) g) := by
  refine ca_intro (by decide) (Nat.le_of_ble_eq_true rfl) (fun X hX hN => ?_)
  show X 0 [_, _, none, none, none, none] [] N 1000000 g
  obtain ⟨c0, c1, c2, c3, c4, c5, c6, c7, c8, c9, c10, c11, c12, c13⟩ := id hm
  have loop : ∀ (n i : Nat), i + n = 25 → X 4 [some (.ref o), some (.int f), some (.int (nI (sN (kfV (M 0) P f) i))), some (.int (nI i)), none, none] [] N 1000000 g := by
    intro n
    induction n with
    | zero =>
      intro i  hi 
      have hib : i = 25 := by omega
      rw [hib]
      refine ca_iload_n hX (q := 5) 3 rfl rfl rfl dX6_knownMany_4 ?_
      refine ca_bipush hX (q := 7) k_bipush_25 rfl dX6_knownMany_5 ?_
      refine ca_icmp_ge hX (q := 10) 98 rfl rfl dX6_knownMany_7 (fun _ => ?_) (fun z => absurd (nI_le (a := 25) (b := 25) (by omega) (by omega)) z)
      refine ca_iload_n hX (q := 99) 2 rfl rfl rfl dX6_knownMany_98 ?_
      refine ca_iret hX rfl rfl rfl rfl dX6_knownMany_99 ?_
      exact ⟨rfl, rfl⟩
    | succ n ih =>
      intro i  hi 
      refine ca_iload_n hX (q := 5) 3 rfl rfl rfl dX6_knownMany_4 ?_
      refine ca_bipush hX (q := 7) k_bipush_25 rfl dX6_knownMany_5 ?_
      refine ca_icmp_ge hX (q := 10) 98 rfl rfl dX6_knownMany_7 (fun z => absurd z (nI_ge (a := i) (b := 25) (by omega) (by omega))) (fun _ => ?_)
      have hcn := cN_le (kwB (M 0) i) P
      have loop2 : ∀ (n2 j : Nat), j + n2 = P → X 16 [some (.ref o), some (.int f), some (.int (nI (sN (kfV (M 0) P f) i))), some (.int (nI i)), some (.int (nI (cN (kwB (M 0) i) j))), some (.int (nI j))] [] N 1000000 g := by
        intro n2
        induction n2 with
        | zero =>
          intro j  hj 
          have hjb : j = P := by omega
          rw [hjb]
          refine ca_iload hX (q := 18) rfl rfl dX6_knownMany_16 ?_
          refine ca_aload_n hX (q := 19) 0 rfl rfl rfl dX6_knownMany_18 ?_
          refine ca_getf hX (q := 22) cl_X6 0 (by decide) w_fl_X6_9 (by omega) c0 rfl rfl dX6_knownMany_19 ?_
          refine ca_iconst hX (q := 23) k_iconst_0 rfl dX6_knownMany_22 ?_
          refine ca_iaN hX (q := 24) (k := 0) (by omega) c1 (by decide) (by decide) (by decide) rfl dX6_knownMany_23 ?_
          refine ca_icmp_ge hX (q := 27) 56 rfl rfl dX6_knownMany_24 (fun _ => ?_) (fun z => absurd (by rw [hP]; exact nI_le (Nat.le_refl _) (by omega)) z)
          refine ca_iload_n hX (q := 57) 2 rfl rfl rfl dX6_knownMany_56 ?_
          refine ca_iload_n hX (q := 58) 1 rfl rfl rfl dX6_knownMany_57 ?_
          refine ca_if_eq hX (q := 61) 80 rfl rfl dX6_knownMany_58 (fun b58 => ?_) (fun b58 => ?_)
          · refine ca_iload hX (q := 82) rfl rfl dX6_knownMany_80 ?_
            refine ca_if_le hX (q := 85) 89 rfl rfl dX6_knownMany_82 (fun b82 => ?_) (fun b82 => ?_)
            · refine ca_iconst hX (q := 90) k_iconst_0 rfl dX6_knownMany_89 ?_
              refine ca_iadd hX (q := 91) rfl dX6_knownMany_90 ?_
              refine ca_istore_n hX (q := 92) 2 rfl (ls' := [_, _, _, _, _, _]) (Nat.le_of_ble_eq_true rfl) (Nat.le_of_ble_eq_true rfl) (Or.inr rfl) rfl rfl dX6_knownMany_91 ?_
              refine ca_iinc hX (q := 95) (ls' := [_, _, _, _, _, _]) k_iconst_1 rfl (Nat.le_of_ble_eq_true rfl) (Or.inr rfl) rfl rfl dX6_knownMany_92 ?_
              refine ca_goto hX 4 rfl dX6_knownMany_95 ?_
              rw [show nI i + 1 = nI (i + 1) from nI_add i 1, show nI (sN (kfV (M 0) P f) i) + 0 = nI (sN (kfV (M 0) P f) (i + 1)) by rw [sN, show kfV (M 0) P f i = 0 from by rw [kfV, if_pos b58, if_neg (fun z => by have := (nI_gt0 (by omega)).mp b82; omega)]]; exact nI_add _ 0]
              exact ca_drop hX (ca_le_s rfl (ca_le_s rfl (ca_le_s rfl (ca_le_s rfl (ca_le_n (ca_le_n ca_le_0)))))) (ih (i + 1) (by omega))
            · refine ca_iconst hX (q := 86) k_iconst_1 rfl dX6_knownMany_85 ?_
              refine ca_goto hX 90 rfl dX6_knownMany_86 ?_
              refine ca_iadd hX (q := 91) rfl dX6_knownMany_90 ?_
              refine ca_istore_n hX (q := 92) 2 rfl (ls' := [_, _, _, _, _, _]) (Nat.le_of_ble_eq_true rfl) (Nat.le_of_ble_eq_true rfl) (Or.inr rfl) rfl rfl dX6_knownMany_91 ?_
              refine ca_iinc hX (q := 95) (ls' := [_, _, _, _, _, _]) k_iconst_1 rfl (Nat.le_of_ble_eq_true rfl) (Or.inr rfl) rfl rfl dX6_knownMany_92 ?_
              refine ca_goto hX 4 rfl dX6_knownMany_95 ?_
              rw [show nI i + 1 = nI (i + 1) from nI_add i 1, show nI (sN (kfV (M 0) P f) i) + 1 = nI (sN (kfV (M 0) P f) (i + 1)) by rw [sN, show kfV (M 0) P f i = 1 from by rw [kfV, if_pos b58, if_pos (Nat.pos_of_ne_zero (fun z => b82 ((nI_gt0 (by omega)).mpr z)))]]; exact nI_add _ 1]
              exact ca_drop hX (ca_le_s rfl (ca_le_s rfl (ca_le_s rfl (ca_le_s rfl (ca_le_n (ca_le_n ca_le_0)))))) (ih (i + 1) (by omega))
          · refine ca_iload hX (q := 63) rfl rfl dX6_knownMany_61 ?_
            refine ca_aload_n hX (q := 64) 0 rfl rfl rfl dX6_knownMany_63 ?_
            refine ca_getf hX (q := 67) cl_X6 0 (by decide) w_fl_X6_9 (by omega) c0 rfl rfl dX6_knownMany_64 ?_
            refine ca_iconst hX (q := 68) k_iconst_0 rfl dX6_knownMany_67 ?_
            refine ca_iaN hX (q := 69) (k := 0) (by omega) c1 (by decide) (by decide) (by decide) rfl dX6_knownMany_68 ?_
            refine ca_icmp_ne hX (q := 72) 89 rfl rfl dX6_knownMany_69 (fun b69 => ?_) (fun b69 => ?_)
            · refine ca_iconst hX (q := 90) k_iconst_0 rfl dX6_knownMany_89 ?_
              refine ca_iadd hX (q := 91) rfl dX6_knownMany_90 ?_
              refine ca_istore_n hX (q := 92) 2 rfl (ls' := [_, _, _, _, _, _]) (Nat.le_of_ble_eq_true rfl) (Nat.le_of_ble_eq_true rfl) (Or.inr rfl) rfl rfl dX6_knownMany_91 ?_
              refine ca_iinc hX (q := 95) (ls' := [_, _, _, _, _, _]) k_iconst_1 rfl (Nat.le_of_ble_eq_true rfl) (Or.inr rfl) rfl rfl dX6_knownMany_92 ?_
              refine ca_goto hX 4 rfl dX6_knownMany_95 ?_
              rw [show nI i + 1 = nI (i + 1) from nI_add i 1, show nI (sN (kfV (M 0) P f) i) + 0 = nI (sN (kfV (M 0) P f) (i + 1)) by rw [sN, show kfV (M 0) P f i = 0 from by rw [kfV, if_neg b58, if_neg (fun z => b69 (by rw [z.1, hP]))]]; exact nI_add _ 0]
              exact ca_drop hX (ca_le_s rfl (ca_le_s rfl (ca_le_s rfl (ca_le_s rfl (ca_le_n (ca_le_n ca_le_0)))))) (ih (i + 1) (by omega))
            · refine ca_iload hX (q := 74) rfl rfl dX6_knownMany_72 ?_
              refine ca_if_le hX (q := 77) 89 rfl rfl dX6_knownMany_74 (fun b74 => ?_) (fun b74 => ?_)
              · refine ca_iconst hX (q := 90) k_iconst_0 rfl dX6_knownMany_89 ?_
                refine ca_iadd hX (q := 91) rfl dX6_knownMany_90 ?_
                refine ca_istore_n hX (q := 92) 2 rfl (ls' := [_, _, _, _, _, _]) (Nat.le_of_ble_eq_true rfl) (Nat.le_of_ble_eq_true rfl) (Or.inr rfl) rfl rfl dX6_knownMany_91 ?_
                refine ca_iinc hX (q := 95) (ls' := [_, _, _, _, _, _]) k_iconst_1 rfl (Nat.le_of_ble_eq_true rfl) (Or.inr rfl) rfl rfl dX6_knownMany_92 ?_
                refine ca_goto hX 4 rfl dX6_knownMany_95 ?_
                rw [show nI i + 1 = nI (i + 1) from nI_add i 1, show nI (sN (kfV (M 0) P f) i) + 0 = nI (sN (kfV (M 0) P f) (i + 1)) by rw [sN, show kfV (M 0) P f i = 0 from by rw [kfV, if_neg b58, if_neg (fun z => by have := (nI_gt0 (by omega)).mp b74; omega)]]; exact nI_add _ 0]
                exact ca_drop hX (ca_le_s rfl (ca_le_s rfl (ca_le_s rfl (ca_le_s rfl (ca_le_n (ca_le_n ca_le_0)))))) (ih (i + 1) (by omega))
              · refine ca_goto hX 85 rfl dX6_knownMany_77 ?_
                refine ca_iconst hX (q := 86) k_iconst_1 rfl dX6_knownMany_85 ?_
                refine ca_goto hX 90 rfl dX6_knownMany_86 ?_
                refine ca_iadd hX (q := 91) rfl dX6_knownMany_90 ?_
                refine ca_istore_n hX (q := 92) 2 rfl (ls' := [_, _, _, _, _, _]) (Nat.le_of_ble_eq_true rfl) (Nat.le_of_ble_eq_true rfl) (Or.inr rfl) rfl rfl dX6_knownMany_91 ?_
                refine ca_iinc hX (q := 95) (ls' := [_, _, _, _, _, _]) k_iconst_1 rfl (Nat.le_of_ble_eq_true rfl) (Or.inr rfl) rfl rfl dX6_knownMany_92 ?_
                refine ca_goto hX 4 rfl dX6_knownMany_95 ?_
                rw [show nI i + 1 = nI (i + 1) from nI_add i 1, show nI (sN (kfV (M 0) P f) i) + 1 = nI (sN (kfV (M 0) P f) (i + 1)) by rw [sN, show kfV (M 0) P f i = 1 from by rw [kfV, if_neg b58, if_pos ⟨((nI_eq (by omega) (by omega)).mp (b69.trans hP)), (by have := ((nI_eq (by omega) (by omega)).mp (b69.trans hP)); have := mt (nI_gt0 (k := (cN (kwB (M 0) i) P)) (by omega)).mpr b74; omega)⟩]]; exact nI_add _ 1]
                exact ca_drop hX (ca_le_s rfl (ca_le_s rfl (ca_le_s rfl (ca_le_s rfl (ca_le_n (ca_le_n ca_le_0)))))) (ih (i + 1) (by omega))
        | succ n2 ih2 =>
          intro j  hj 
          refine ca_iload hX (q := 18) rfl rfl dX6_knownMany_16 ?_
          refine ca_aload_n hX (q := 19) 0 rfl rfl rfl dX6_knownMany_18 ?_
          refine ca_getf hX (q := 22) cl_X6 0 (by decide) w_fl_X6_9 (by omega) c0 rfl rfl dX6_knownMany_19 ?_
          refine ca_iconst hX (q := 23) k_iconst_0 rfl dX6_knownMany_22 ?_
          refine ca_iaN hX (q := 24) (k := 0) (by omega) c1 (by decide) (by decide) (by decide) rfl dX6_knownMany_23 ?_
          refine ca_icmp_ge hX (q := 27) 56 rfl rfl dX6_knownMany_24 (fun z => absurd z (by rw [hP]; exact nI_ge (a := j) (b := P) (by omega) (by omega))) (fun _ => ?_)
          refine ca_iload hX (q := 29) rfl rfl dX6_knownMany_27 ?_
          refine ca_aload_n hX (q := 30) 0 rfl rfl rfl dX6_knownMany_29 ?_
          refine ca_getf hX (q := 33) cl_X6 0 (by decide) w_fl_X6_9 (by omega) c0 rfl rfl dX6_knownMany_30 ?_
          refine ca_iload hX (q := 35) rfl rfl dX6_knownMany_33 ?_
          refine ca_iload_n hX (q := 36) 3 rfl rfl rfl dX6_knownMany_35 ?_
          refine ca_cSi hX (q := 39) y_X6_isKnown w_ml_X6_81 hN (c_X6_isKnown l N g (o + 1) (M 0) c1 (by omega) j i (by omega) (by omega)) (by decide) rfl (Nat.le_of_ble_eq_true rfl) rfl dX6_knownMany_36 rfl ?_
          refine ca_if_eq hX (q := 42) 46 rfl rfl dX6_knownMany_39 (fun b39 => ?_) (fun b39 => ?_)
          · refine ca_iconst hX (q := 47) k_iconst_0 rfl dX6_knownMany_46 ?_
            refine ca_iadd hX (q := 48) rfl dX6_knownMany_47 ?_
            refine ca_istore hX (q := 50) (ls' := [_, _, _, _, _, _]) (Nat.le_of_ble_eq_true rfl) (Nat.le_of_ble_eq_true rfl) (Or.inr rfl) rfl rfl dX6_knownMany_48 ?_
            refine ca_iinc hX (q := 53) (ls' := [_, _, _, _, _, _]) k_iconst_1 rfl (Nat.le_of_ble_eq_true rfl) (Or.inr rfl) rfl rfl dX6_knownMany_50 ?_
            refine ca_goto hX 16 rfl dX6_knownMany_53 ?_
            rw [show nI j + 1 = nI (j + 1) from nI_add j 1]
            exact ca_drop hX (ca_le_s rfl (ca_le_s rfl (ca_le_s rfl (ca_le_s rfl (ca_le_s (by rw [cN_s, if_neg (by unfold kwB; rw [decide_eq_true b39]; decide)]; exact congrArg (fun z => some (Value.int z)) (nI_add _ 0)) (ca_le_s rfl ca_le_0)))))) (ih2 (j + 1) (by omega))
          · refine ca_iconst hX (q := 43) k_iconst_1 rfl dX6_knownMany_42 ?_
            refine ca_goto hX 47 rfl dX6_knownMany_43 ?_
            refine ca_iadd hX (q := 48) rfl dX6_knownMany_47 ?_
            refine ca_istore hX (q := 50) (ls' := [_, _, _, _, _, _]) (Nat.le_of_ble_eq_true rfl) (Nat.le_of_ble_eq_true rfl) (Or.inr rfl) rfl rfl dX6_knownMany_48 ?_
            refine ca_iinc hX (q := 53) (ls' := [_, _, _, _, _, _]) k_iconst_1 rfl (Nat.le_of_ble_eq_true rfl) (Or.inr rfl) rfl rfl dX6_knownMany_50 ?_
            refine ca_goto hX 16 rfl dX6_knownMany_53 ?_
            rw [show nI j + 1 = nI (j + 1) from nI_add j 1]
            exact ca_drop hX (ca_le_s rfl (ca_le_s rfl (ca_le_s rfl (ca_le_s rfl (ca_le_s (by rw [cN_s, if_pos (by unfold kwB; rw [decide_eq_false b39]; rfl)]; exact congrArg (fun z => some (Value.int z)) (nI_add _ 1)) (ca_le_s rfl ca_le_0)))))) (ih2 (j + 1) (by omega))
      refine ca_iconst hX (q := 11) k_iconst_0 rfl dX6_knownMany_10 ?_
      refine ca_istore hX (q := 13) (ls' := [_, _, _, _, _, _]) (Nat.le_of_ble_eq_true rfl) (Nat.le_of_ble_eq_true rfl) (Or.inr rfl) rfl rfl dX6_knownMany_11 ?_
      refine ca_iconst hX (q := 14) k_iconst_0 rfl dX6_knownMany_13 ?_
      refine ca_istore hX (q := 16) (ls' := [_, _, _, _, _, _]) (Nat.le_of_ble_eq_true rfl) (Nat.le_of_ble_eq_true rfl) (Or.inr rfl) rfl rfl dX6_knownMany_14 ?_
      exact ca_drop hX (ca_le_s rfl (ca_le_s rfl (ca_le_s rfl (ca_le_s rfl (ca_le_s rfl (ca_le_s rfl ca_le_0)))))) (loop2 P 0 (by omega))
  refine ca_iconst hX (q := 1) k_iconst_0 rfl dX6_knownMany_0 ?_
  refine ca_istore_n hX (q := 2) 2 rfl (ls' := [_, _, _, _, _, _]) (Nat.le_of_ble_eq_true rfl) (Nat.le_of_ble_eq_true rfl) (Or.inr rfl) rfl rfl dX6_knownMany_1 ?_
  refine ca_iconst hX (q := 3) k_iconst_0 rfl dX6_knownMany_2 ?_
  refine ca_istore_n hX (q := 4) 3 rfl (ls' := [_, _, _, _, _, _]) (Nat.le_of_ble_eq_true rfl) (Nat.le_of_ble_eq_true rfl) (Or.inr rfl) rfl rfl dX6_knownMany_3 ?_
  exact ca_drop hX (ca_le_s rfl (ca_le_s rfl (ca_le_s rfl (ca_le_s rfl (ca_le_n (ca_le_n ca_le_0)))))) (loop 25 0 (by omega))

set_option maxRecDepth 100000 in
set_option maxHeartbeats 4000000 in
theorem m_sure (l : Launch) (N : Nat) (g0 : ca_G) (o : Nat) (M : Nat → Nat → Int32) (hm : mdG g0 o M) (ho : o + 14 ≤ N) (hs4 : M 13 4 = 0) (P : Nat) (w : wfH (M 0) P) (x1 : Int32) : ca_Ct l yX6_sure cX6_sure 2 (some .int) 3 0 0 N 1000000 [.ref o, .int x1] g0 (reP o g0 (suA M P x1)) := by
  refine ca_intro (by decide) (Nat.le_of_ble_eq_true rfl) (fun X hX hN => ?_)
  show X 0 [_, _] [] N 1000000 g0
  obtain ⟨g, hgg⟩ : ∃ g, g = g0 := ⟨g0, rfl⟩
  rw [← hgg] at hm ⊢
  have hfr : frG g0 g o (o + 14) := by rw [hgg]; exact frG.rf
  have hke := keM.rf hs4
  obtain ⟨c0, c1, c2, c3, c4, c5, c6, c7, c8, c9, c10, c11, c12, c13⟩ := id hm
  have hP := w.1
  have hP5 := w.2.1
  have hok := wf_ok w
  refine ca_iload_n hX (q := 1) 1 rfl rfl rfl dX6_sure_0 ?_
  refine ca_iconst hX (q := 2) k_iconst_0 rfl dX6_sure_1 ?_
  refine ca_iconst hX (q := 3) k_iconst_1 rfl dX6_sure_2 ?_
  refine ca_cSi hX (q := 6) y_X6_isIn w_ml_X6_55 hN (c_R_is01 l N g _) (by decide) rfl (Nat.le_of_ble_eq_true rfl) rfl dX6_sure_3 rfl ?_
  refine ca_if_ne hX (q := 9) 16 rfl rfl dX6_sure_6 (fun b6 => ?_) (fun b6 => ?_)
  · refine ca_iload_n hX (q := 17) 1 rfl rfl rfl dX6_sure_16 ?_
    refine ca_if_ne hX (q := 20) 28 rfl rfl dX6_sure_17 (fun b17 => ?_) (fun b17 => ?_)
    · refine ca_bipush hX (q := 30) k_bipush_25 rfl dX6_sure_28 ?_
      refine ca_aload_n hX (q := 31) 0 rfl rfl rfl dX6_sure_30 ?_
      refine ca_iconst hX (q := 32) k_iconst_0 rfl dX6_sure_31 ?_
      refine ca_cVi hX (q := 35) y_X6_knownMany w_ml_X6_154 (by omega) hN c0 (c_X6_knownMany l N g o M hm ho P hP hP5 0) (by decide) rfl (Nat.le_of_ble_eq_true rfl) rfl dX6_sure_32 rfl ?_
      refine ca_isub hX (q := 36) rfl dX6_sure_35 ?_
      refine ca_iret hX rfl rfl rfl rfl dX6_sure_36 ?_
      exact re_end2 (by simp [suA, noA, nk1, nk2, nk3, nk4, nk6, z020, z021, z010, z011, b6, b17, kf_0, kf_1]) hfr hm hke
    · refine ca_aload_n hX (q := 21) 0 rfl rfl rfl dX6_sure_20 ?_
      refine ca_iconst hX (q := 22) k_iconst_1 rfl dX6_sure_21 ?_
      refine ca_cVi hX (q := 25) y_X6_knownMany w_ml_X6_154 (by omega) hN c0 (c_X6_knownMany l N g o M hm ho P hP hP5 1) (by decide) rfl (Nat.le_of_ble_eq_true rfl) rfl dX6_sure_22 rfl ?_
      refine ca_goto hX 36 rfl dX6_sure_25 ?_
      refine ca_iret hX rfl rfl rfl rfl dX6_sure_36 ?_
      exact re_end2 (by simp [suA, noA, nk1, nk2, nk3, nk4, nk6, z020, z021, z010, z011, b6, b17, kf_0, kf_1]) hfr hm hke
  · refine ca_aload_n hX (q := 10) 0 rfl rfl rfl dX6_sure_9 ?_
    refine ca_bipush hX (q := 12) k_bipush_m2 rfl dX6_sure_10 ?_
    refine ca_cV hX (q := 15) y_X6_no w_ml_X6_51 (by omega) hN c0 (c_X6_no l N g o _ hm ho (-2) 2 (by decide) (by omega)) (by decide) rfl (Nat.le_of_ble_eq_true rfl) rfl dX6_sure_12 rfl ?_
    rintro _ g ⟨rfl, hm, hf⟩
    have hke := keM.no hke 2
    have hfr := hfr.tr hf
    refine ca_iret hX rfl rfl rfl rfl dX6_sure_15 ?_
    exact re_end2 (by simp [suA, noA, nk1, nk2, nk3, nk4, nk6, z020, z021, z010, z011, b6, kf_0, kf_1]) hfr hm hke

set_option maxRecDepth 100000 in
set_option maxHeartbeats 4000000 in
theorem k_nights (l : Launch) (N : Nat) (g0 : ca_G) (M : Nat → Nat → Int32) (t : Nat → Int32) (B : Nat → Nat → Int32) (hx : clX g0 M t B) (hN31 : 31 ≤ N) (P : Nat) (w : wfH (M 0) P) (x1 : Int32) : ca_Ct l yX5_nights cX5_nights 2 (some .int) 3 0 0 N 1000000 [.ref 0, .int x1] g0 (clP g0 (niA M P x1)) := by
  refine ca_intro (by decide) (Nat.le_of_ble_eq_true rfl) (fun X hX hN => ?_)
  show X 0 [_, _] [] N 1000000 g0
  obtain ⟨g, hgg⟩ : ∃ g, g = g0 := ⟨g0, rfl⟩
  rw [← hgg] at hx ⊢
  have hfr : frG g0 g 0 31 := by rw [hgg]; exact frG.rf
  obtain ⟨hc, hh, hkp, htr, hz, htl, hlt, hrw, h30⟩ := id hx
  have h0 := hh.1
  have k0 := hkp.1
  have t0 := htr.1
  have d0 := hz.1
  have l0 := hlt.1
  have w0 := hrw.1
  have hP := w.1
  have hP5 := w.2.1
  have hok := wf_ok w
  refine ca_iload_n hX (q := 1) 1 rfl rfl rfl dX5_nights_0 ?_
  refine ca_iconst hX (q := 2) k_iconst_1 rfl dX5_nights_1 ?_
  refine ca_icmp_ge hX (q := 5) 12 rfl rfl dX5_nights_2 (fun c2 => ?_) (fun c2 => ?_)
  · refine ca_iload_n hX (q := 13) 1 rfl rfl rfl dX5_nights_12 ?_
    refine ca_bipush hX (q := 15) k_bipush_60 rfl dX5_nights_13 ?_
    refine ca_icmp_gt hX (q := 18) 33 rfl rfl dX5_nights_15 (fun c15 => ?_) (fun c15 => ?_)
    · refine ca_aload_n hX (q := 34) 0 rfl rfl rfl dX5_nights_33 ?_
      refine ca_bipush hX (q := 36) k_bipush_m6 rfl dX5_nights_34 ?_
      refine ca_cV hX (q := 39) y_X5_refuse w_ml_X5_53 (by omega) hN hc (c_X5_refuse l N g _ hc hN31 (M 6) h30 (-6) 6 (by decide) (by omega) (by omega)) (by decide) rfl (Nat.le_of_ble_eq_true rfl) rfl dX5_nights_36 rfl ?_
      rintro _ g ⟨rfl, h30, hf⟩
      have hx := hx.rf hf h30
      have hfr := hfr.tr (hf.wd (by omega) (by omega))
      refine ca_iret hX rfl rfl rfl rfl dX5_nights_39 ?_
      exact cl_end (by simp [niA, noA, nk1, nk2, nk3, nk4, nk6, c2, (Int32.not_lt.mpr c2), c15, (Int32.not_le.mpr c15)]) hfr hx
    · obtain ⟨k, hk6, hk1, rfl⟩ := n60_ok c2 (Int32.not_lt.mp c15)
      have ek := nI_clamp (n := k) (by omega)
      refine ca_aload_n hX (q := 19) 0 rfl rfl rfl dX5_nights_18 ?_
      refine ca_getf hX (q := 22) cl_X5 0 (by decide) w_fl_X5_10 (by omega) hc rfl rfl dX5_nights_19 ?_
      refine ca_getN hX (q := 25) cl_X1 5 (by decide) w_fn_X5_118 (by omega) h0 rfl rfl dX5_nights_22 ?_
      refine ca_iload_n hX (q := 26) 1 rfl rfl rfl dX5_nights_25 ?_
      refine ca_iadd hX (q := 27) rfl dX5_nights_26 ?_
      refine ca_sipush hX (q := 30) k_sipush_999 rfl dX5_nights_27 ?_
      refine ca_icmp_le hX (q := 33) 40 rfl rfl dX5_nights_30 (fun c30 => ?_) (fun c30 => ?_)
      · refine ca_aload_n hX (q := 41) 0 rfl rfl rfl dX5_nights_40 ?_
        refine ca_getf hX (q := 44) cl_X5 0 (by decide) w_fl_X5_10 (by omega) hc rfl rfl dX5_nights_41 ?_
        refine ca_iload_n hX (q := 45) 1 rfl rfl rfl dX5_nights_44 ?_
        refine ca_cV hX (q := 48) y_X1_passNights w_ml_X5_122 (by omega) hN h0 (c_X1_passNights l N g 1 (M 0) hh (by omega) P hP hP5 k (by omega)) (by decide) rfl (Nat.le_of_ble_eq_true rfl) rfl dX5_nights_45 rfl ?_
        rintro _ g ⟨rfl, hq, hf⟩
        have hx := hx.hs hf hq
        have hfr := hfr.tr (hf.wd (by omega) (by omega))
        obtain ⟨hc, hh, hkp, htr, hz, htl, hlt, hrw, h30⟩ := id hx
        have h0 := hh.1
        have k0 := hkp.1
        have t0 := htr.1
        have d0 := hz.1
        have l0 := hlt.1
        have w0 := hrw.1
        refine ca_aload_n hX (q := 49) 0 rfl rfl rfl dX5_nights_48 ?_
        refine ca_getf hX (q := 52) cl_X5 0 (by decide) w_fl_X5_10 (by omega) hc rfl rfl dX5_nights_49 ?_
        have hsu := su_eq (h := pnM P (M 0) k) (by rw [pnM_0]; exact hP) hP5
        refine ca_cVi hX (q := 55) y_X1_sureRooms w_ml_X5_125 (by omega) hN h0 (c_X1_sureRooms l N g 1 (pnM P (M 0) k) hh (by omega) P (by rw [pnM_0]; exact hP) hP5) (by decide) rfl (Nat.le_of_ble_eq_true rfl) rfl dX5_nights_52 rfl ?_
        refine ca_iret hX rfl rfl rfl rfl dX5_nights_55 ?_
        exact cl_end (by simp [niA, noA, nk1, nk2, nk3, nk4, nk6, c2, (Int32.not_lt.mpr c2), c15, (Int32.not_lt.mp c15), ek, c30, (Int32.not_lt.mpr c30), hsu]) hfr hx
      · refine ca_aload_n hX (q := 34) 0 rfl rfl rfl dX5_nights_33 ?_
        refine ca_bipush hX (q := 36) k_bipush_m6 rfl dX5_nights_34 ?_
        refine ca_cV hX (q := 39) y_X5_refuse w_ml_X5_53 (by omega) hN hc (c_X5_refuse l N g _ hc hN31 (M 6) h30 (-6) 6 (by decide) (by omega) (by omega)) (by decide) rfl (Nat.le_of_ble_eq_true rfl) rfl dX5_nights_36 rfl ?_
        rintro _ g ⟨rfl, h30, hf⟩
        have hx := hx.rf hf h30
        have hfr := hfr.tr (hf.wd (by omega) (by omega))
        refine ca_iret hX rfl rfl rfl rfl dX5_nights_39 ?_
        exact cl_end (by simp [niA, noA, nk1, nk2, nk3, nk4, nk6, c2, (Int32.not_lt.mpr c2), c15, (Int32.not_lt.mp c15), ek, c30, (Int32.not_le.mp c30)]) hfr hx
  · refine ca_aload_n hX (q := 6) 0 rfl rfl rfl dX5_nights_5 ?_
    refine ca_bipush hX (q := 8) k_bipush_m4 rfl dX5_nights_6 ?_
    refine ca_cV hX (q := 11) y_X5_refuse w_ml_X5_53 (by omega) hN hc (c_X5_refuse l N g _ hc hN31 (M 6) h30 (-4) 4 (by decide) (by omega) (by omega)) (by decide) rfl (Nat.le_of_ble_eq_true rfl) rfl dX5_nights_8 rfl ?_
    rintro _ g ⟨rfl, h30, hf⟩
    have hx := hx.rf hf h30
    have hfr := hfr.tr (hf.wd (by omega) (by omega))
    refine ca_iret hX rfl rfl rfl rfl dX5_nights_11 ?_
    exact cl_end (by simp [niA, noA, nk1, nk2, nk3, nk4, nk6, c2, (Int32.not_le.mp c2)]) hfr hx

set_option maxRecDepth 100000 in
set_option maxHeartbeats 4000000 in
theorem m_nights (l : Launch) (N : Nat) (g0 : ca_G) (o : Nat) (M : Nat → Nat → Int32) (hm : mdG g0 o M) (ho : o + 14 ≤ N) (hs4 : M 13 4 = 0) (P : Nat) (w : wfH (M 0) P) (x1 : Int32) : ca_Ct l yX6_nights cX6_nights 3 (some .int) 4 0 0 N 1000000 [.ref o, .int x1] g0 (reP o g0 (niA M P x1)) := by
  refine ca_intro (by decide) (Nat.le_of_ble_eq_true rfl) (fun X hX hN => ?_)
  show X 0 [_, _, none] [] N 1000000 g0
  obtain ⟨g, hgg⟩ : ∃ g, g = g0 := ⟨g0, rfl⟩
  rw [← hgg] at hm ⊢
  have hfr : frG g0 g o (o + 14) := by rw [hgg]; exact frG.rf
  have hke := keM.rf hs4
  obtain ⟨c0, c1, c2, c3, c4, c5, c6, c7, c8, c9, c10, c11, c12, c13⟩ := id hm
  have hP := w.1
  have hP5 := w.2.1
  have hok := wf_ok w
  refine ca_iload_n hX (q := 1) 1 rfl rfl rfl dX6_nights_0 ?_
  refine ca_iconst hX (q := 2) k_iconst_1 rfl dX6_nights_1 ?_
  refine ca_icmp_ge hX (q := 5) 12 rfl rfl dX6_nights_2 (fun b2 => ?_) (fun b2 => ?_)
  · refine ca_iload_n hX (q := 13) 1 rfl rfl rfl dX6_nights_12 ?_
    refine ca_bipush hX (q := 15) k_bipush_60 rfl dX6_nights_13 ?_
    refine ca_icmp_gt hX (q := 18) 32 rfl rfl dX6_nights_15 (fun b15 => ?_) (fun b15 => ?_)
    · refine ca_aload_n hX (q := 33) 0 rfl rfl rfl dX6_nights_32 ?_
      refine ca_bipush hX (q := 35) k_bipush_m6 rfl dX6_nights_33 ?_
      refine ca_cV hX (q := 38) y_X6_no w_ml_X6_51 (by omega) hN c0 (c_X6_no l N g o _ hm ho (-6) 6 (by decide) (by omega)) (by decide) rfl (Nat.le_of_ble_eq_true rfl) rfl dX6_nights_35 rfl ?_
      rintro _ g ⟨rfl, hm, hf⟩
      have hke := keM.no hke 6
      have hfr := hfr.tr hf
      refine ca_iret hX rfl rfl rfl rfl dX6_nights_38 ?_
      exact re_end2 (by simp [niA, noA, nk1, nk2, nk3, nk4, nk6, z020, z021, z010, z011, b2, (Int32.not_lt.mpr b2), b15, (Int32.not_le.mpr b15)]) hfr hm hke
    · obtain ⟨k, hk6, hk1, rfl⟩ := n60_ok b2 (Int32.not_lt.mp b15)
      have ek := nI_clamp (n := k) (by omega)
      refine ca_aload_n hX (q := 19) 0 rfl rfl rfl dX6_nights_18 ?_
      refine ca_getf hX (q := 22) cl_X6 0 (by decide) w_fl_X6_9 (by omega) c0 rfl rfl dX6_nights_19 ?_
      refine ca_iconst hX (q := 23) k_iconst_1 rfl dX6_nights_22 ?_
      refine ca_iaN hX (q := 24) (k := 1) (by omega) c1 (by decide) (by decide) (by decide) rfl dX6_nights_23 ?_
      refine ca_iload_n hX (q := 25) 1 rfl rfl rfl dX6_nights_24 ?_
      refine ca_iadd hX (q := 26) rfl dX6_nights_25 ?_
      refine ca_sipush hX (q := 29) k_sipush_999 rfl dX6_nights_26 ?_
      refine ca_icmp_le hX (q := 32) 39 rfl rfl dX6_nights_29 (fun b29 => ?_) (fun b29 => ?_)
      · have loop : ∀ (n i : Nat) (g1 : ca_G), i + n = k → mdG g1 o (stB M 0 (pnM P (M 0) i)) → frG g0 g1 o (o + 14) → X 41 [some (.ref o), some (.int (nI k)), some (.int (nI i))] [] N 1000000 g1 := by
          intro n
          induction n with
          | zero =>
            intro i g  hi hm hfr
            have hib : i = k := by omega
            rw [hib]
            rw [hib] at hm
            obtain ⟨c0, c1, c2, c3, c4, c5, c6, c7, c8, c9, c10, c11, c12, c13⟩ := id hm
            refine ca_iload_n hX (q := 42) 2 rfl rfl rfl dX6_nights_41 ?_
            refine ca_iload_n hX (q := 43) 1 rfl rfl rfl dX6_nights_42 ?_
            refine ca_icmp_ge hX (q := 46) 59 rfl rfl dX6_nights_43 (fun _ => ?_) (fun z => absurd (nI_le (Nat.le_refl _) (by omega)) z)
            refine ca_aload_n hX (q := 60) 0 rfl rfl rfl dX6_nights_59 ?_
            refine ca_iconst hX (q := 61) k_iconst_1 rfl dX6_nights_60 ?_
            refine ca_cVi hX (q := 64) y_X6_knownMany w_ml_X6_154 (by omega) hN c0 (c_X6_knownMany l N g o _ hm ho P (by rw [st_s, pnM_0]; exact hP) hP5 1) (by decide) rfl (Nat.le_of_ble_eq_true rfl) rfl dX6_nights_61 rfl ?_
            refine ca_iret hX rfl rfl rfl rfl dX6_nights_64 ?_
            exact re_end2 (by simp [niA, b2, (Int32.not_lt.mpr b2), b15, b29, (Int32.not_lt.mpr b29), ek, kf_1, st_s]) hfr hm (keM.rf (by rw [st_n _ _ (by omega)]; exact hs4))
          | succ n ih =>
            intro i g  hi hm hfr
            obtain ⟨c0, c1, c2, c3, c4, c5, c6, c7, c8, c9, c10, c11, c12, c13⟩ := id hm
            refine ca_iload_n hX (q := 42) 2 rfl rfl rfl dX6_nights_41 ?_
            refine ca_iload_n hX (q := 43) 1 rfl rfl rfl dX6_nights_42 ?_
            refine ca_icmp_ge hX (q := 46) 59 rfl rfl dX6_nights_43 (fun z => absurd z (nI_ge (a := i) (b := k) (by omega) (by omega))) (fun _ => ?_)
            refine ca_aload_n hX (q := 47) 0 rfl rfl rfl dX6_nights_46 ?_
            refine ca_getf hX (q := 50) cl_X6 0 (by decide) w_fl_X6_9 (by omega) c0 rfl rfl dX6_nights_47 ?_
            refine ca_cS hX (q := 53) y_X6_night w_ml_X6_141 hN (c_X6_night l N g (o + 1) (pnM P (M 0) i) c1 (by omega) P (by rw [pnM_0]; exact hP) hP5 (fun p hp => by rw [pn_lo P (M 0) (by omega) (by omega)]; exact wf_sh w p hp)) (by decide) rfl (Nat.le_of_ble_eq_true rfl) rfl dX6_nights_50 rfl ?_
            rintro _ g ⟨rfl, hE, hF⟩
            have hm := md_f0 hm hE hF
            rw [st_st] at hm
            have hfr := hfr.tr (fun j hj => hF j (by omega))
            obtain ⟨c0, c1, c2, c3, c4, c5, c6, c7, c8, c9, c10, c11, c12, c13⟩ := id hm
            refine ca_iinc hX (q := 56) (ls' := [_, _, _]) k_iconst_1 rfl (Nat.le_of_ble_eq_true rfl) (Or.inr rfl) rfl rfl dX6_nights_53 ?_
            refine ca_goto hX 41 rfl dX6_nights_56 ?_
            rw [nI_1]
            exact ih (i + 1) _ (by omega) hm hfr
        refine ca_iconst hX (q := 40) k_iconst_0 rfl dX6_nights_39 ?_
        refine ca_istore_n hX (q := 41) 2 rfl (ls' := [_, _, _]) (Nat.le_of_ble_eq_true rfl) (Nat.le_of_ble_eq_true rfl) (Or.inr rfl) rfl rfl dX6_nights_40 ?_
        exact loop k 0 _ (by omega) (by rw [show stB M 0 (pnM P (M 0) 0) = M from st_id M 0]; exact hm) hfr
      · refine ca_aload_n hX (q := 33) 0 rfl rfl rfl dX6_nights_32 ?_
        refine ca_bipush hX (q := 35) k_bipush_m6 rfl dX6_nights_33 ?_
        refine ca_cV hX (q := 38) y_X6_no w_ml_X6_51 (by omega) hN c0 (c_X6_no l N g o _ hm ho (-6) 6 (by decide) (by omega)) (by decide) rfl (Nat.le_of_ble_eq_true rfl) rfl dX6_nights_35 rfl ?_
        rintro _ g ⟨rfl, hm, hf⟩
        have hke := keM.no hke 6
        have hfr := hfr.tr hf
        refine ca_iret hX rfl rfl rfl rfl dX6_nights_38 ?_
        exact re_end2 (by simp [niA, noA, nk1, nk2, nk3, nk4, nk6, z020, z021, z010, z011, b2, (Int32.not_lt.mpr b2), b15, (Int32.not_lt.mp b15), ek, b29, (Int32.not_le.mp b29)]) hfr hm hke
  · refine ca_aload_n hX (q := 6) 0 rfl rfl rfl dX6_nights_5 ?_
    refine ca_bipush hX (q := 8) k_bipush_m4 rfl dX6_nights_6 ?_
    refine ca_cV hX (q := 11) y_X6_no w_ml_X6_51 (by omega) hN c0 (c_X6_no l N g o _ hm ho (-4) 4 (by decide) (by omega)) (by decide) rfl (Nat.le_of_ble_eq_true rfl) rfl dX6_nights_8 rfl ?_
    rintro _ g ⟨rfl, hm, hf⟩
    have hke := keM.no hke 4
    have hfr := hfr.tr hf
    refine ca_iret hX rfl rfl rfl rfl dX6_nights_11 ?_
    exact re_end2 (by simp [niA, noA, nk1, nk2, nk3, nk4, nk6, z020, z021, z010, z011, b2, (Int32.not_le.mp b2)]) hfr hm hke

