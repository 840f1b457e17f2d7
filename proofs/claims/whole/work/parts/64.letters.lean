/-! the class's letters: forms, what fits, the first stray -/
def klI (c : Int32) : Int32 := fsM (fun i => decide (sgF 6 i = c)) 0 6
def fmI (c : Int32) : Nat := if c = 107 then 3 else if c = 110 then 4 else if c = 112 then 2 else if c = 114 then 0 else if c = 118 then 1 else 5
theorem fm_7 (c : Int32) : fmI c < 7 := by unfold fmI; repeat' split
                                           all_goals omega
def ftI (c s : Int32) : Int32 := if s = 48 then (if c < 48 then 0 else if 57 < c then 0 else 1) else if s = 75 then (if klI c = -9 then 0 else 1) else if c = s then 1 else 0
def lenF (k : Nat) : Nat := ca_sL.getD k 0
theorem len_8 : ∀ k, k < 7 → ca_sL.getD k 0 ≤ 8 := by decide
def uF (f : Nat → Int32) (L pl k i : Nat) : Bool := !decide (ftI (atM f L (pl + i)) (sgF k i) = 0)
def fcN (u : Nat → Bool) : Nat → Nat → Nat
  | s, 0 => s
  | s, n + 1 => if u s = true then fcN u (s + 1) n else s
theorem fcN_le (u : Nat → Bool) : ∀ n s, s ≤ fcN u s n ∧ fcN u s n ≤ s + n
  | 0, s => ⟨Nat.le_refl _, Nat.le_refl _⟩
  | n + 1, s => by
    rw [fcN]
    have := fcN_le u n (s + 1)
    split <;> omega
theorem fcN_all {u : Nat → Bool} : ∀ n s, fcN u s n = s + n → ∀ i, s ≤ i → i < s + n → u i = true
  | 0, s, _, i, h1, h2 => by omega
  | n + 1, s, h, i, h1, h2 => by
    rw [fcN] at h
    split at h
    · next z =>
      by_cases y : i = s
      · rw [y]; exact z
      · exact fcN_all n (s + 1) (by omega) i (by omega) (by omega)
    · omega
abbrev kF (f : Nat → Int32) (L pl : Nat) : Nat := fmI (atM f L pl)
def fcF (f : Nat → Int32) (L pl : Nat) : Nat := fcN (uF f L pl (kF f L pl)) 0 (lenF (kF f L pl))
def okF (f : Nat → Int32) (L pl : Nat) : Prop := 0 < lenF (kF f L pl) ∧ fcF f L pl = lenF (kF f L pl)
def psF (f : Nat → Int32) (L : Nat) : Nat → Nat → Int32
  | 0, _ => -9
  | n + 1, pl => if L ≤ pl then -9 else if 0 < lenF (kF f L pl) ∧ fcF f L pl = lenF (kF f L pl) then psF f L n (pl + lenF (kF f L pl)) else nI (pl + fcF f L pl)
def stI (f : Nat → Int32) (L : Nat) : Int32 := if L = 0 then 0 else psF f L 97 0

set_option maxRecDepth 100000 in
set_option maxHeartbeats 4000000 in
theorem c_X4_kindOfLetter (l : Launch) (N : Nat) (g : ca_G) (x : Int32) : ca_Ct l yX4_kindOfLetter cX4_kindOfLetter 2 (some .int) 4 0 0 N 1000000 [.int x] g (ca_pi (klI x) g) := by
  refine ca_intro (by decide) (Nat.le_of_ble_eq_true rfl) (fun X hX hN => ?_)
  show X 0 [_, none] [] N 1000000 g
  have loop : ∀ (n i : Nat), i + n = 6 → klI x = fsM (fun i => decide (sgF 6 i = x)) i n → X 2 [some (.int x), some (.int (nI i))] [] N 1000000 g := by
    intro n
    induction n with
    | zero =>
      intro i  hi he
      have hib : i = 6 := by omega
      rw [hib]
      refine ca_iload_n hX (q := 3) 1 rfl rfl rfl dX4_kindOfLetter_2 ?_
      refine ca_ldcs hX (q := 5) 6 (by decide) rfl rfl rfl dX4_kindOfLetter_3 ?_
      refine ca_cQi hX (q := 8) y_J0_length_8abf5 w_ml_X4_40 (k := 6) (by decide) hN (c_length l N g 6 (by decide)) (by decide) rfl (Nat.le_of_ble_eq_true rfl) rfl dX4_kindOfLetter_5 rfl ?_
      refine ca_icmp_ge hX (q := 11) 29 rfl rfl dX4_kindOfLetter_8 (fun _ => ?_) (fun z => absurd (nI_le (a := 6) (b := 6) (by omega) (by omega)) z)
      refine ca_bipush hX (q := 31) k_bipush_m9 rfl dX4_kindOfLetter_29 ?_
      refine ca_iret hX rfl rfl rfl rfl dX4_kindOfLetter_31 ?_
      exact ⟨by rw [he]; rfl, rfl⟩
    | succ n ih =>
      intro i  hi he
      refine ca_iload_n hX (q := 3) 1 rfl rfl rfl dX4_kindOfLetter_2 ?_
      refine ca_ldcs hX (q := 5) 6 (by decide) rfl rfl rfl dX4_kindOfLetter_3 ?_
      refine ca_cQi hX (q := 8) y_J0_length_8abf5 w_ml_X4_40 (k := 6) (by decide) hN (c_length l N g 6 (by decide)) (by decide) rfl (Nat.le_of_ble_eq_true rfl) rfl dX4_kindOfLetter_5 rfl ?_
      refine ca_icmp_ge hX (q := 11) 29 rfl rfl dX4_kindOfLetter_8 (fun z => absurd z (nI_ge (a := i) (b := 6) (by omega) (by omega))) (fun _ => ?_)
      refine ca_ldcs hX (q := 13) 6 (by decide) rfl rfl rfl dX4_kindOfLetter_11 ?_
      refine ca_iload_n hX (q := 14) 1 rfl rfl rfl dX4_kindOfLetter_13 ?_
      refine ca_cQi hX (q := 17) y_J0_charAt_5068e w_ml_X4_53 (k := 6) (by decide) hN (c_charAt l N g 6 (by decide) i (show i < 6 by omega) (by omega)) (by decide) rfl (Nat.le_of_ble_eq_true rfl) rfl dX4_kindOfLetter_14 rfl ?_
      refine ca_iload_n hX (q := 18) 0 rfl rfl rfl dX4_kindOfLetter_17 ?_
      refine ca_icmp_ne hX (q := 21) 23 rfl rfl dX4_kindOfLetter_18 (fun c18 => ?_) (fun c18 => ?_)
      · refine ca_iinc hX (q := 26) (ls' := [_, _]) k_iconst_1 rfl (Nat.le_of_ble_eq_true rfl) (Or.inr rfl) rfl rfl dX4_kindOfLetter_23 ?_
        refine ca_goto hX 2 rfl dX4_kindOfLetter_26 ?_
        rw [nI_1]
        exact ih (i + 1) (by omega) (he.trans (by rw [fsM, if_neg (by rw [decide_eq_false c18]; decide)]))
      · refine ca_iload_n hX (q := 22) 1 rfl rfl rfl dX4_kindOfLetter_21 ?_
        refine ca_iret hX rfl rfl rfl rfl dX4_kindOfLetter_22 ?_
        exact ⟨by rw [he, fsM, if_pos (decide_eq_true c18)], rfl⟩
  refine ca_iconst hX (q := 1) k_iconst_0 rfl dX4_kindOfLetter_0 ?_
  refine ca_istore_n hX (q := 2) 1 rfl (ls' := [_, _]) (Nat.le_of_ble_eq_true rfl) (Nat.le_of_ble_eq_true rfl) (Or.inr rfl) rfl rfl dX4_kindOfLetter_1 ?_
  exact loop 6 0 (by omega) rfl

set_option maxRecDepth 100000 in
set_option maxHeartbeats 4000000 in
theorem c_X4_formOf (l : Launch) (N : Nat) (g : ca_G) (x : Int32) : ca_Ct l yX4_formOf cX4_formOf 1 (some (.object "java/lang/String")) 0 0 0 N 1000000 [.int x] g (fun rr g' => rr = some (.ref (1000 + fmI x)) ∧ g' = g) := by
  refine ca_intro (by decide) (Nat.le_of_ble_eq_true rfl) (fun X hX hN => ?_)
  show X 0 [_] [] N 1000000 g
  refine ca_iload_n hX (q := 1) 0 rfl rfl rfl dX4_formOf_0 ?_
  by_cases e1_107 : x = 107
  · refine ca_tabIn hX 73 dX4_formOf_1 (by rw [e1_107]; decide) (by rw [e1_107]; decide) (by rw [e1_107]; rfl) rfl ?_
    refine ca_ldcs hX (q := 75) 3 (by decide) rfl rfl rfl dX4_formOf_73 ?_
    refine ca_aret hX rfl rfl (Or.inl ⟨_, rfl⟩) rfl rfl dX4_formOf_75 ?_
    exact ⟨by simp [fmI, e1_107], rfl⟩
  by_cases e1_108 : x = 108
  · refine ca_tabIn hX 79 dX4_formOf_1 (by rw [e1_108]; decide) (by rw [e1_108]; decide) (by rw [e1_108]; rfl) rfl ?_
    refine ca_ldcs hX (q := 81) 5 (by decide) rfl rfl rfl dX4_formOf_79 ?_
    refine ca_aret hX rfl rfl (Or.inl ⟨_, rfl⟩) rfl rfl dX4_formOf_81 ?_
    exact ⟨by simp [fmI, e1_107, e1_108], rfl⟩
  by_cases e1_109 : x = 109
  · refine ca_tabIn hX 79 dX4_formOf_1 (by rw [e1_109]; decide) (by rw [e1_109]; decide) (by rw [e1_109]; rfl) rfl ?_
    refine ca_ldcs hX (q := 81) 5 (by decide) rfl rfl rfl dX4_formOf_79 ?_
    refine ca_aret hX rfl rfl (Or.inl ⟨_, rfl⟩) rfl rfl dX4_formOf_81 ?_
    exact ⟨by simp [fmI, e1_107, e1_108, e1_109], rfl⟩
  by_cases e1_110 : x = 110
  · refine ca_tabIn hX 76 dX4_formOf_1 (by rw [e1_110]; decide) (by rw [e1_110]; decide) (by rw [e1_110]; rfl) rfl ?_
    refine ca_ldcs hX (q := 78) 4 (by decide) rfl rfl rfl dX4_formOf_76 ?_
    refine ca_aret hX rfl rfl (Or.inl ⟨_, rfl⟩) rfl rfl dX4_formOf_78 ?_
    exact ⟨by simp [fmI, e1_107, e1_108, e1_109, e1_110], rfl⟩
  by_cases e1_111 : x = 111
  · refine ca_tabIn hX 79 dX4_formOf_1 (by rw [e1_111]; decide) (by rw [e1_111]; decide) (by rw [e1_111]; rfl) rfl ?_
    refine ca_ldcs hX (q := 81) 5 (by decide) rfl rfl rfl dX4_formOf_79 ?_
    refine ca_aret hX rfl rfl (Or.inl ⟨_, rfl⟩) rfl rfl dX4_formOf_81 ?_
    exact ⟨by simp [fmI, e1_107, e1_108, e1_109, e1_110, e1_111], rfl⟩
  by_cases e1_112 : x = 112
  · refine ca_tabIn hX 70 dX4_formOf_1 (by rw [e1_112]; decide) (by rw [e1_112]; decide) (by rw [e1_112]; rfl) rfl ?_
    refine ca_ldcs hX (q := 72) 2 (by decide) rfl rfl rfl dX4_formOf_70 ?_
    refine ca_aret hX rfl rfl (Or.inl ⟨_, rfl⟩) rfl rfl dX4_formOf_72 ?_
    exact ⟨by simp [fmI, e1_107, e1_108, e1_109, e1_110, e1_111, e1_112], rfl⟩
  by_cases e1_113 : x = 113
  · refine ca_tabIn hX 79 dX4_formOf_1 (by rw [e1_113]; decide) (by rw [e1_113]; decide) (by rw [e1_113]; rfl) rfl ?_
    refine ca_ldcs hX (q := 81) 5 (by decide) rfl rfl rfl dX4_formOf_79 ?_
    refine ca_aret hX rfl rfl (Or.inl ⟨_, rfl⟩) rfl rfl dX4_formOf_81 ?_
    exact ⟨by simp [fmI, e1_107, e1_108, e1_109, e1_110, e1_111, e1_112, e1_113], rfl⟩
  by_cases e1_114 : x = 114
  · refine ca_tabIn hX 64 dX4_formOf_1 (by rw [e1_114]; decide) (by rw [e1_114]; decide) (by rw [e1_114]; rfl) rfl ?_
    refine ca_ldcs hX (q := 66) 0 (by decide) rfl rfl rfl dX4_formOf_64 ?_
    refine ca_aret hX rfl rfl (Or.inl ⟨_, rfl⟩) rfl rfl dX4_formOf_66 ?_
    exact ⟨by simp [fmI, e1_107, e1_108, e1_109, e1_110, e1_111, e1_112, e1_113, e1_114], rfl⟩
  by_cases e1_115 : x = 115
  · refine ca_tabIn hX 79 dX4_formOf_1 (by rw [e1_115]; decide) (by rw [e1_115]; decide) (by rw [e1_115]; rfl) rfl ?_
    refine ca_ldcs hX (q := 81) 5 (by decide) rfl rfl rfl dX4_formOf_79 ?_
    refine ca_aret hX rfl rfl (Or.inl ⟨_, rfl⟩) rfl rfl dX4_formOf_81 ?_
    exact ⟨by simp [fmI, e1_107, e1_108, e1_109, e1_110, e1_111, e1_112, e1_113, e1_114, e1_115], rfl⟩
  by_cases e1_116 : x = 116
  · refine ca_tabIn hX 79 dX4_formOf_1 (by rw [e1_116]; decide) (by rw [e1_116]; decide) (by rw [e1_116]; rfl) rfl ?_
    refine ca_ldcs hX (q := 81) 5 (by decide) rfl rfl rfl dX4_formOf_79 ?_
    refine ca_aret hX rfl rfl (Or.inl ⟨_, rfl⟩) rfl rfl dX4_formOf_81 ?_
    exact ⟨by simp [fmI, e1_107, e1_108, e1_109, e1_110, e1_111, e1_112, e1_113, e1_114, e1_115, e1_116], rfl⟩
  by_cases e1_117 : x = 117
  · refine ca_tabIn hX 79 dX4_formOf_1 (by rw [e1_117]; decide) (by rw [e1_117]; decide) (by rw [e1_117]; rfl) rfl ?_
    refine ca_ldcs hX (q := 81) 5 (by decide) rfl rfl rfl dX4_formOf_79 ?_
    refine ca_aret hX rfl rfl (Or.inl ⟨_, rfl⟩) rfl rfl dX4_formOf_81 ?_
    exact ⟨by simp [fmI, e1_107, e1_108, e1_109, e1_110, e1_111, e1_112, e1_113, e1_114, e1_115, e1_116, e1_117], rfl⟩
  by_cases e1_118 : x = 118
  · refine ca_tabIn hX 67 dX4_formOf_1 (by rw [e1_118]; decide) (by rw [e1_118]; decide) (by rw [e1_118]; rfl) rfl ?_
    refine ca_ldcs hX (q := 69) 1 (by decide) rfl rfl rfl dX4_formOf_67 ?_
    refine ca_aret hX rfl rfl (Or.inl ⟨_, rfl⟩) rfl rfl dX4_formOf_69 ?_
    exact ⟨by simp [fmI, e1_107, e1_108, e1_109, e1_110, e1_111, e1_112, e1_113, e1_114, e1_115, e1_116, e1_117, e1_118], rfl⟩
  refine ca_tabOut hX 79 dX4_formOf_1 (by have z0 := lv_neT (k := 107) (a := 107) e1_107 (by decide); have z1 := lv_neT (k := 108) (a := 108) e1_108 (by decide); have z2 := lv_neT (k := 109) (a := 109) e1_109 (by decide); have z3 := lv_neT (k := 110) (a := 110) e1_110 (by decide); have z4 := lv_neT (k := 111) (a := 111) e1_111 (by decide); have z5 := lv_neT (k := 112) (a := 112) e1_112 (by decide); have z6 := lv_neT (k := 113) (a := 113) e1_113 (by decide); have z7 := lv_neT (k := 114) (a := 114) e1_114 (by decide); have z8 := lv_neT (k := 115) (a := 115) e1_115 (by decide); have z9 := lv_neT (k := 116) (a := 116) e1_116 (by decide); have z10 := lv_neT (k := 117) (a := 117) e1_117 (by decide); have z11 := lv_neT (k := 118) (a := 118) e1_118 (by decide); omega) rfl ?_
  refine ca_ldcs hX (q := 81) 5 (by decide) rfl rfl rfl dX4_formOf_79 ?_
  refine ca_aret hX rfl rfl (Or.inl ⟨_, rfl⟩) rfl rfl dX4_formOf_81 ?_
  exact ⟨by simp [fmI, e1_107, e1_108, e1_109, e1_110, e1_111, e1_112, e1_113, e1_114, e1_115, e1_116, e1_117, e1_118], rfl⟩

set_option maxRecDepth 100000 in
set_option maxHeartbeats 4000000 in
theorem c_X4_fits (l : Launch) (N : Nat) (g : ca_G) (x s : Int32) : ca_Ct l yX4_fits cX4_fits 2 (some .boolean) 5 0 0 N 1000000 [.int x, .int s] g (ca_pi (ftI x s) g) := by
  refine ca_intro (by decide) (Nat.le_of_ble_eq_true rfl) (fun X hX hN => ?_)
  show X 0 [_, _] [] N 1000000 g
  refine ca_iload_n hX (q := 1) 1 rfl rfl rfl dX4_fits_0 ?_
  by_cases e1_48 : s = 48
  · refine ca_look hX (off := 42) 43 dX4_fits_1 (by decide) (by rw [e1_48]; decide) rfl ?_
    refine ca_iload_n hX (q := 44) 0 rfl rfl rfl dX4_fits_43 ?_
    refine ca_bipush hX (q := 46) k_bipush_48 rfl dX4_fits_44 ?_
    refine ca_icmp_lt hX (q := 49) 59 rfl rfl dX4_fits_46 (fun c46 => ?_) (fun c46 => ?_)
    · refine ca_iconst hX (q := 60) k_iconst_0 rfl dX4_fits_59 ?_
      refine ca_zret hX rfl rfl rfl rfl rfl dX4_fits_60 ?_
      exact ⟨by simp [ftI, e1_48, c46, (Int32.not_le.mpr c46)], rfl⟩
    · refine ca_iload_n hX (q := 50) 0 rfl rfl rfl dX4_fits_49 ?_
      refine ca_bipush hX (q := 52) k_bipush_57 rfl dX4_fits_50 ?_
      refine ca_icmp_gt hX (q := 55) 59 rfl rfl dX4_fits_52 (fun c52 => ?_) (fun c52 => ?_)
      · refine ca_iconst hX (q := 60) k_iconst_0 rfl dX4_fits_59 ?_
        refine ca_zret hX rfl rfl rfl rfl rfl dX4_fits_60 ?_
        exact ⟨by simp [ftI, e1_48, c46, (Int32.not_lt.mp c46), c52, (Int32.not_le.mpr c52)], rfl⟩
      · refine ca_iconst hX (q := 56) k_iconst_1 rfl dX4_fits_55 ?_
        refine ca_goto hX 60 rfl dX4_fits_56 ?_
        refine ca_zret hX rfl rfl rfl rfl rfl dX4_fits_60 ?_
        exact ⟨by simp [ftI, e1_48, c46, (Int32.not_lt.mp c46), c52, (Int32.not_lt.mp c52)], rfl⟩
  by_cases e1_75 : s = 75
  · refine ca_look hX (off := 27) 28 dX4_fits_1 (by decide) (by rw [e1_75]; decide) rfl ?_
    refine ca_iload_n hX (q := 29) 0 rfl rfl rfl dX4_fits_28 ?_
    refine ca_cSi hX (q := 32) y_X4_kindOfLetter w_ml_X4_61 hN (c_X4_kindOfLetter l N g x) (by decide) rfl (Nat.le_of_ble_eq_true rfl) rfl dX4_fits_29 rfl ?_
    refine ca_bipush hX (q := 34) k_bipush_m9 rfl dX4_fits_32 ?_
    refine ca_icmp_eq hX (q := 37) 41 rfl rfl dX4_fits_34 (fun c34 => ?_) (fun c34 => ?_)
    · refine ca_iconst hX (q := 42) k_iconst_0 rfl dX4_fits_41 ?_
      refine ca_zret hX rfl rfl rfl rfl rfl dX4_fits_42 ?_
      exact ⟨by simp [ftI, e1_48, e1_75, c34], rfl⟩
    · refine ca_iconst hX (q := 38) k_iconst_1 rfl dX4_fits_37 ?_
      refine ca_goto hX 42 rfl dX4_fits_38 ?_
      refine ca_zret hX rfl rfl rfl rfl rfl dX4_fits_42 ?_
      exact ⟨by simp [ftI, e1_48, e1_75, c34], rfl⟩
  refine ca_look hX (off := 60) 61 dX4_fits_1 (by decide) (by have z0 := lv_neT (k := 48) (a := 48) e1_48 (by decide); have z1 := lv_neT (k := 75) (a := 75) e1_75 (by decide); simp [Op.lookupswitch.offset, Ne.symm z0, Ne.symm z1]) rfl ?_
  refine ca_iload_n hX (q := 62) 0 rfl rfl rfl dX4_fits_61 ?_
  refine ca_iload_n hX (q := 63) 1 rfl rfl rfl dX4_fits_62 ?_
  refine ca_icmp_ne hX (q := 66) 70 rfl rfl dX4_fits_63 (fun c63 => ?_) (fun c63 => ?_)
  · refine ca_iconst hX (q := 71) k_iconst_0 rfl dX4_fits_70 ?_
    refine ca_zret hX rfl rfl rfl rfl rfl dX4_fits_71 ?_
    exact ⟨by simp [ftI, e1_48, e1_75, c63], rfl⟩
  · refine ca_iconst hX (q := 67) k_iconst_1 rfl dX4_fits_66 ?_
    refine ca_goto hX 71 rfl dX4_fits_67 ?_
    refine ca_zret hX rfl rfl rfl rfl rfl dX4_fits_71 ?_
    exact ⟨by simp [ftI, e1_48, e1_75, c63], rfl⟩

set_option maxRecDepth 100000 in
set_option maxHeartbeats 4000000 in
theorem c_X4_digitAt (l : Launch) (N : Nat) (g : ca_G) (f : Nat → Int32) (L : Nat) (h25 : g 25 = .inr (3, [.ref 26])) (hn : nbG g 26 96 f L) (hL : L ≤ 96) (hN31 : 31 ≤ N) (j : Nat) (hj : j < 1000) : ca_Ct l yX4_digitAt cX4_digitAt 2 (some .int) 1 0 0 N 1000000 [.ref 25, .int (nI j)] g (ca_pi (atM f L j - 48) g) := by
  refine ca_intro (by decide) (Nat.le_of_ble_eq_true rfl) (fun X hX hN => ?_)
  show X 0 [_, _] [] N 1000000 g
  have l0 := hn.1
  refine ca_aload_n hX (q := 1) 0 rfl rfl rfl dX4_digitAt_0 ?_
  refine ca_getf hX (q := 4) cl_X4 0 (by decide) w_fl_X4_14 (by omega) h25 rfl rfl dX4_digitAt_1 ?_
  refine ca_iload_n hX (q := 5) 1 rfl rfl rfl dX4_digitAt_4 ?_
  refine ca_cVi hX (q := 8) y_X3_at w_ml_X4_32 (by omega) hN l0 (c_X3_at l N g 26 96 L f hn (by omega) (by omega) hL j (by omega)) (by decide) rfl (Nat.le_of_ble_eq_true rfl) rfl dX4_digitAt_5 rfl ?_
  refine ca_bipush hX (q := 10) k_bipush_48 rfl dX4_digitAt_8 ?_
  refine ca_isub hX (q := 11) rfl dX4_digitAt_10 ?_
  refine ca_iret hX rfl rfl rfl rfl dX4_digitAt_11 ?_
  exact ⟨rfl, rfl⟩

set_option maxRecDepth 100000 in
set_option maxHeartbeats 4000000 in
theorem c_X4_pairAt (l : Launch) (N : Nat) (g : ca_G) (f : Nat → Int32) (L : Nat) (h25 : g 25 = .inr (3, [.ref 26])) (hn : nbG g 26 96 f L) (hL : L ≤ 96) (hN31 : 31 ≤ N) (j : Nat) (hj : j < 999) : ca_Ct l yX4_pairAt cX4_pairAt 2 (some .int) 2 0 0 N 1000000 [.ref 25, .int (nI j)] g (ca_pi (10 * (atM f L j - 48) + (atM f L (j + 1) - 48)) g) := by
  refine ca_intro (by decide) (Nat.le_of_ble_eq_true rfl) (fun X hX hN => ?_)
  show X 0 [_, _] [] N 1000000 g
  have l0 := hn.1
  refine ca_bipush hX (q := 2) k_bipush_10 rfl dX4_pairAt_0 ?_
  refine ca_aload_n hX (q := 3) 0 rfl rfl rfl dX4_pairAt_2 ?_
  refine ca_iload_n hX (q := 4) 1 rfl rfl rfl dX4_pairAt_3 ?_
  refine ca_cVi hX (q := 7) y_X4_digitAt w_ml_X4_79 (by omega) hN h25 (c_X4_digitAt l N g f L h25 hn hL hN31 j (by omega)) (by decide) rfl (Nat.le_of_ble_eq_true rfl) rfl dX4_pairAt_4 rfl ?_
  refine ca_imul hX (q := 8) rfl dX4_pairAt_7 ?_
  refine ca_aload_n hX (q := 9) 0 rfl rfl rfl dX4_pairAt_8 ?_
  refine ca_iload_n hX (q := 10) 1 rfl rfl rfl dX4_pairAt_9 ?_
  refine ca_iconst hX (q := 11) k_iconst_1 rfl dX4_pairAt_10 ?_
  refine ca_iadd hX (q := 12) rfl dX4_pairAt_11 ?_
  rw [nI_1]
  refine ca_cVi hX (q := 15) y_X4_digitAt w_ml_X4_79 (by omega) hN h25 (c_X4_digitAt l N g f L h25 hn hL hN31 (j + 1) (by omega)) (by decide) rfl (Nat.le_of_ble_eq_true rfl) rfl dX4_pairAt_12 rfl ?_
  refine ca_iadd hX (q := 16) rfl dX4_pairAt_15 ?_
  refine ca_iret hX rfl rfl rfl rfl dX4_pairAt_16 ?_
  exact ⟨rfl, rfl⟩

set_option maxRecDepth 100000 in
set_option maxHeartbeats 4000000 in
theorem c_X4_fittingLetters (l : Launch) (N : Nat) (g : ca_G) (f : Nat → Int32) (L : Nat) (h25 : g 25 = .inr (3, [.ref 26])) (hn : nbG g 26 96 f L) (hL : L ≤ 96) (hN31 : 31 ≤ N) (k : Nat) (hk : k < 7) (pl : Nat) (hp : pl < 900) : ca_Ct l yX4_fittingLetters cX4_fittingLetters 4 (some .int) 6 0 0 N 1000000 [.ref 25, .ref (1000 + k), .int (nI pl)] g (ca_pi (nI (fcN (uF f L pl k) 0 (ca_sL.getD k 0))) g) := by
  refine ca_intro (by decide) (Nat.le_of_ble_eq_true rfl) (fun X hX hN => ?_)
  show X 0 [_, _, _, none] [] N 1000000 g
  have l0 := hn.1
  have h8 := len_8 k hk
  have loop : ∀ (n i : Nat), i + n = (ca_sL.getD k 0) → fcN (uF f L pl k) 0 (ca_sL.getD k 0) = fcN (uF f L pl k) i n → X 2 [some (.ref 25), some (.ref (1000 + k)), some (.int (nI pl)), some (.int (nI i))] [] N 1000000 g := by
    intro n
    induction n with
    | zero =>
      intro i  hi he
      have hib : i = (ca_sL.getD k 0) := by omega
      rw [hib]
      refine ca_iload_n hX (q := 3) 3 rfl rfl rfl dX4_fittingLetters_2 ?_
      refine ca_aload_n hX (q := 4) 1 rfl rfl rfl dX4_fittingLetters_3 ?_
      refine ca_cQi hX (q := 7) y_J0_length_8abf5 w_ml_X4_40 (k := k) hk hN (c_length l N g k hk) (by decide) rfl (Nat.le_of_ble_eq_true rfl) rfl dX4_fittingLetters_4 rfl ?_
      refine ca_icmp_ge hX (q := 10) 39 rfl rfl dX4_fittingLetters_7 (fun _ => ?_) (fun z => absurd (nI_le (Nat.le_refl _) (by omega)) z)
      refine ca_aload_n hX (q := 40) 1 rfl rfl rfl dX4_fittingLetters_39 ?_
      refine ca_cQi hX (q := 43) y_J0_length_8abf5 w_ml_X4_40 (k := k) hk hN (c_length l N g k hk) (by decide) rfl (Nat.le_of_ble_eq_true rfl) rfl dX4_fittingLetters_40 rfl ?_
      refine ca_iret hX rfl rfl rfl rfl dX4_fittingLetters_43 ?_
      exact ⟨by rw [he, hib]; rfl, rfl⟩
    | succ n ih =>
      intro i  hi he
      refine ca_iload_n hX (q := 3) 3 rfl rfl rfl dX4_fittingLetters_2 ?_
      refine ca_aload_n hX (q := 4) 1 rfl rfl rfl dX4_fittingLetters_3 ?_
      refine ca_cQi hX (q := 7) y_J0_length_8abf5 w_ml_X4_40 (k := k) hk hN (c_length l N g k hk) (by decide) rfl (Nat.le_of_ble_eq_true rfl) rfl dX4_fittingLetters_4 rfl ?_
      refine ca_icmp_ge hX (q := 10) 39 rfl rfl dX4_fittingLetters_7 (fun z => absurd z (nI_ge (a := i) (b := (ca_sL.getD k 0)) (by omega) (by omega))) (fun _ => ?_)
      refine ca_aload_n hX (q := 11) 0 rfl rfl rfl dX4_fittingLetters_10 ?_
      refine ca_getf hX (q := 14) cl_X4 0 (by decide) w_fl_X4_14 (by omega) h25 rfl rfl dX4_fittingLetters_11 ?_
      refine ca_iload_n hX (q := 15) 2 rfl rfl rfl dX4_fittingLetters_14 ?_
      refine ca_iload_n hX (q := 16) 3 rfl rfl rfl dX4_fittingLetters_15 ?_
      refine ca_iadd hX (q := 17) rfl dX4_fittingLetters_16 ?_
      rw [nI_add]
      refine ca_cVi hX (q := 20) y_X3_at w_ml_X4_32 (by omega) hN l0 (c_X3_at l N g 26 96 L f hn (by omega) (by omega) hL (pl + i) (by omega)) (by decide) rfl (Nat.le_of_ble_eq_true rfl) rfl dX4_fittingLetters_17 rfl ?_
      refine ca_aload_n hX (q := 21) 1 rfl rfl rfl dX4_fittingLetters_20 ?_
      refine ca_iload_n hX (q := 22) 3 rfl rfl rfl dX4_fittingLetters_21 ?_
      refine ca_cQi hX (q := 25) y_J0_charAt_5068e w_ml_X4_53 (k := k) hk hN (c_charAt l N g k hk i (by omega) (by omega)) (by decide) rfl (Nat.le_of_ble_eq_true rfl) rfl dX4_fittingLetters_22 rfl ?_
      refine ca_cSi hX (q := 28) y_X4_fits w_ml_X4_57 hN (c_X4_fits l N g _ _) (by decide) rfl (Nat.le_of_ble_eq_true rfl) rfl dX4_fittingLetters_25 rfl ?_
      refine ca_if_ne hX (q := 31) 33 rfl rfl dX4_fittingLetters_28 (fun c28 => ?_) (fun c28 => ?_)
      · refine ca_iinc hX (q := 36) (ls' := [_, _, _, _]) k_iconst_1 rfl (Nat.le_of_ble_eq_true rfl) (Or.inr rfl) rfl rfl dX4_fittingLetters_33 ?_
        refine ca_goto hX 2 rfl dX4_fittingLetters_36 ?_
        have hu : (uF f L pl k) i = true := by unfold uF; rw [decide_eq_false c28]; rfl
        rw [nI_1]
        exact ih (i + 1) (by omega) (he.trans (by rw [fcN, if_pos hu]))
      · refine ca_iload_n hX (q := 32) 3 rfl rfl rfl dX4_fittingLetters_31 ?_
        refine ca_iret hX rfl rfl rfl rfl dX4_fittingLetters_32 ?_
        have hu : ¬ (uF f L pl k) i = true := by unfold uF; rw [decide_eq_true c28]; decide
        exact ⟨by rw [he, fcN, if_neg hu], rfl⟩
  refine ca_iconst hX (q := 1) k_iconst_0 rfl dX4_fittingLetters_0 ?_
  refine ca_istore_n hX (q := 2) 3 rfl (ls' := [_, _, _, _]) (Nat.le_of_ble_eq_true rfl) (Nat.le_of_ble_eq_true rfl) (Or.inr rfl) rfl rfl dX4_fittingLetters_1 ?_
  exact loop (ca_sL.getD k 0) 0 (by omega) rfl

set_option maxRecDepth 100000 in
set_option maxHeartbeats 4000000 in
theorem c_X4_firstStray (l : Launch) (N : Nat) (g : ca_G) (f : Nat → Int32) (L : Nat) (h25 : g 25 = .inr (3, [.ref 26])) (hn : nbG g 26 96 f L) (hL : L ≤ 96) (hN31 : 31 ≤ N) : ca_Ct l yX4_firstStray cX4_firstStray 5 (some .int) 7 0 0 N 1000000 [.ref 25] g (ca_pi (stI f L) g) := by
  refine ca_intro (by decide) (Nat.le_of_ble_eq_true rfl) (fun X hX hN => ?_)
  show X 0 [_, none, none, none, none] [] N 1000000 g
  have l0 := hn.1
  have ps_end : ∀ {n pl : Nat}, L ≤ pl → psF f L n pl = -9 := by
    intro n pl h
    cases n with
    | zero => rfl
    | succ n => rw [psF, if_pos h]
  have loop : ¬ L = 0 → ∀ (n i pl : Nat), L + 1 ≤ pl + n → i ≤ pl → pl ≤ L + 8 → psF f L 97 0 = psF f L n pl → X 16 [some (.ref 25), some (.int (nI pl)), some (.int (nI i)), none, none] [] N 1000000 g := by
    intro hL0 n
    induction n with
    | zero =>
      intro i pl hpn hip hpl he
      have hlp : L ≤ pl := by omega
      refine ca_iload_n hX (q := 17) 2 rfl rfl rfl dX4_firstStray_16 ?_
      refine ca_bipush hX (q := 19) k_bipush_96 rfl dX4_firstStray_17 ?_
      refine ca_icmp_ge hX (q := 22) 85 rfl rfl dX4_firstStray_19 (fun c19 => ?_) (fun c19 => ?_)
      · refine ca_bipush hX (q := 87) k_bipush_m9 rfl dX4_firstStray_85 ?_
        refine ca_iret hX rfl rfl rfl rfl dX4_firstStray_87 ?_
        exact ⟨by rw [stI, if_neg hL0, he, ps_end hlp], rfl⟩
      · refine ca_iload_n hX (q := 23) 1 rfl rfl rfl dX4_firstStray_22 ?_
        refine ca_aload_n hX (q := 24) 0 rfl rfl rfl dX4_firstStray_23 ?_
        refine ca_getf hX (q := 27) cl_X4 0 (by decide) w_fl_X4_14 (by omega) h25 rfl rfl dX4_firstStray_24 ?_
        refine ca_getN hX (q := 30) cl_X3 1 (by decide) w_fn_X4_24 (by omega) l0 rfl rfl dX4_firstStray_27 ?_
        refine ca_icmp_ge hX (q := 33) 85 rfl rfl dX4_firstStray_30 (fun _ => ?_) (fun z => absurd (nI_le hlp (by omega)) z)
        refine ca_bipush hX (q := 87) k_bipush_m9 rfl dX4_firstStray_85 ?_
        refine ca_iret hX rfl rfl rfl rfl dX4_firstStray_87 ?_
        exact ⟨by rw [stI, if_neg hL0, he, ps_end hlp], rfl⟩
    | succ n ih =>
      intro i pl hpn hip hpl he
      by_cases hlp : L ≤ pl
      · refine ca_iload_n hX (q := 17) 2 rfl rfl rfl dX4_firstStray_16 ?_
        refine ca_bipush hX (q := 19) k_bipush_96 rfl dX4_firstStray_17 ?_
        refine ca_icmp_ge hX (q := 22) 85 rfl rfl dX4_firstStray_19 (fun c19 => ?_) (fun c19 => ?_)
        · refine ca_bipush hX (q := 87) k_bipush_m9 rfl dX4_firstStray_85 ?_
          refine ca_iret hX rfl rfl rfl rfl dX4_firstStray_87 ?_
          exact ⟨by rw [stI, if_neg hL0, he, ps_end hlp], rfl⟩
        · refine ca_iload_n hX (q := 23) 1 rfl rfl rfl dX4_firstStray_22 ?_
          refine ca_aload_n hX (q := 24) 0 rfl rfl rfl dX4_firstStray_23 ?_
          refine ca_getf hX (q := 27) cl_X4 0 (by decide) w_fl_X4_14 (by omega) h25 rfl rfl dX4_firstStray_24 ?_
          refine ca_getN hX (q := 30) cl_X3 1 (by decide) w_fn_X4_24 (by omega) l0 rfl rfl dX4_firstStray_27 ?_
          refine ca_icmp_ge hX (q := 33) 85 rfl rfl dX4_firstStray_30 (fun _ => ?_) (fun z => absurd (nI_le hlp (by omega)) z)
          refine ca_bipush hX (q := 87) k_bipush_m9 rfl dX4_firstStray_85 ?_
          refine ca_iret hX rfl rfl rfl rfl dX4_firstStray_87 ?_
          exact ⟨by rw [stI, if_neg hL0, he, ps_end hlp], rfl⟩
      · refine ca_iload_n hX (q := 17) 2 rfl rfl rfl dX4_firstStray_16 ?_
        refine ca_bipush hX (q := 19) k_bipush_96 rfl dX4_firstStray_17 ?_
        refine ca_icmp_ge hX (q := 22) 85 rfl rfl dX4_firstStray_19 (fun z => absurd z (nI_ge (a := i) (b := 96) (by omega) (by omega))) (fun _ => ?_)
        refine ca_iload_n hX (q := 23) 1 rfl rfl rfl dX4_firstStray_22 ?_
        refine ca_aload_n hX (q := 24) 0 rfl rfl rfl dX4_firstStray_23 ?_
        refine ca_getf hX (q := 27) cl_X4 0 (by decide) w_fl_X4_14 (by omega) h25 rfl rfl dX4_firstStray_24 ?_
        refine ca_getN hX (q := 30) cl_X3 1 (by decide) w_fn_X4_24 (by omega) l0 rfl rfl dX4_firstStray_27 ?_
        refine ca_icmp_ge hX (q := 33) 85 rfl rfl dX4_firstStray_30 (fun z => absurd z (nI_ge (a := pl) (b := L) (by omega) (by omega))) (fun _ => ?_)
        refine ca_aload_n hX (q := 34) 0 rfl rfl rfl dX4_firstStray_33 ?_
        refine ca_getf hX (q := 37) cl_X4 0 (by decide) w_fl_X4_14 (by omega) h25 rfl rfl dX4_firstStray_34 ?_
        refine ca_iload_n hX (q := 38) 1 rfl rfl rfl dX4_firstStray_37 ?_
        refine ca_cVi hX (q := 41) y_X3_at w_ml_X4_32 (by omega) hN l0 (c_X3_at l N g 26 96 L f hn (by omega) (by omega) hL pl (by omega)) (by decide) rfl (Nat.le_of_ble_eq_true rfl) rfl dX4_firstStray_38 rfl ?_
        refine ca_cS hX (q := 44) y_X4_formOf w_ml_X4_36 hN (c_X4_formOf l N g _) (by decide) rfl (Nat.le_of_ble_eq_true rfl) rfl dX4_firstStray_41 rfl ?_
        rintro _ g ⟨rfl, rfl⟩
        have hk7 := fm_7 (atM f L pl)
        have h8 := len_8 (fmI (atM f L pl)) hk7
        refine ca_astore_n hX (q := 45) 3 rfl (ls' := [_, _, _, _, _]) (Nat.le_of_ble_eq_true rfl) (Nat.le_of_ble_eq_true rfl) (Or.inr rfl) rfl rfl dX4_firstStray_44 ?_
        refine ca_aload_n hX (q := 46) 0 rfl rfl rfl dX4_firstStray_45 ?_
        refine ca_aload_n hX (q := 47) 3 rfl rfl rfl dX4_firstStray_46 ?_
        refine ca_iload_n hX (q := 48) 1 rfl rfl rfl dX4_firstStray_47 ?_
        refine ca_cVi hX (q := 51) y_X4_fittingLetters w_ml_X4_45 (by omega) hN h25 (c_X4_fittingLetters l N g f L h25 hn hL hN31 (fmI (atM f L pl)) hk7 pl (by omega)) (by decide) rfl (Nat.le_of_ble_eq_true rfl) rfl dX4_firstStray_48 rfl ?_
        refine ca_istore hX (q := 53) (ls' := [_, _, _, _, _]) (Nat.le_of_ble_eq_true rfl) (Nat.le_of_ble_eq_true rfl) (Or.inr rfl) rfl rfl dX4_firstStray_51 ?_
        refine ca_aload_n hX (q := 54) 3 rfl rfl rfl dX4_firstStray_53 ?_
        refine ca_cQi hX (q := 57) y_J0_isEmpty_aae02 w_ml_X4_49 (k := (fmI (atM f L pl))) hk7 hN (c_isEmpty l N g (fmI (atM f L pl)) hk7) (by decide) rfl (Nat.le_of_ble_eq_true rfl) rfl dX4_firstStray_54 rfl ?_
        refine ca_if_ne hX (q := 60) 69 rfl rfl dX4_firstStray_57 (fun c57 => ?_) (fun c57 => ?_)
        · refine ca_iload_n hX (q := 70) 1 rfl rfl rfl dX4_firstStray_69 ?_
          refine ca_iload hX (q := 72) rfl rfl dX4_firstStray_70 ?_
          refine ca_iadd hX (q := 73) rfl dX4_firstStray_72 ?_
          refine ca_iret hX rfl rfl rfl rfl dX4_firstStray_73 ?_
          have hle0 : lenF (kF f L pl) = ca_sL.getD (fmI (atM f L pl)) 0 := rfl
          have hfc0 : fcF f L pl = fcN (uF f L pl (fmI (atM f L pl))) 0 (ca_sL.getD (fmI (atM f L pl)) 0) := rfl
          first | (exact ⟨by rw [stI, if_neg hL0, he, psF, if_neg hlp, if_neg (fun z => c57 (by rw [if_neg (by omega)]))]; exact congrArg (fun z => some (Value.int z)) (nI_add _ _), rfl⟩) | (exact ⟨by rw [stI, if_neg hL0, he, psF, if_neg hlp, if_neg (fun z => c66 ((nI_leI (by omega) (by omega)).mpr (by omega)))]; exact congrArg (fun z => some (Value.int z)) (nI_add _ _), rfl⟩)
        · refine ca_iload hX (q := 62) rfl rfl dX4_firstStray_60 ?_
          refine ca_aload_n hX (q := 63) 3 rfl rfl rfl dX4_firstStray_62 ?_
          refine ca_cQi hX (q := 66) y_J0_length_8abf5 w_ml_X4_40 (k := (fmI (atM f L pl))) hk7 hN (c_length l N g (fmI (atM f L pl)) hk7) (by decide) rfl (Nat.le_of_ble_eq_true rfl) rfl dX4_firstStray_63 rfl ?_
          refine ca_icmp_ge hX (q := 69) 74 rfl rfl dX4_firstStray_66 (fun c66 => ?_) (fun c66 => ?_)
          · refine ca_iload_n hX (q := 75) 1 rfl rfl rfl dX4_firstStray_74 ?_
            refine ca_iload hX (q := 77) rfl rfl dX4_firstStray_75 ?_
            refine ca_iadd hX (q := 78) rfl dX4_firstStray_77 ?_
            refine ca_istore_n hX (q := 79) 1 rfl (ls' := [_, _, _, _, _]) (Nat.le_of_ble_eq_true rfl) (Nat.le_of_ble_eq_true rfl) (Or.inr rfl) rfl rfl dX4_firstStray_78 ?_
            refine ca_iinc hX (q := 82) (ls' := [_, _, _, _, _]) k_iconst_1 rfl (Nat.le_of_ble_eq_true rfl) (Or.inr rfl) rfl rfl dX4_firstStray_79 ?_
            refine ca_goto hX 16 rfl dX4_firstStray_82 ?_
            have hle0 : lenF (kF f L pl) = ca_sL.getD (fmI (atM f L pl)) 0 := rfl
            have hfc0 : fcF f L pl = fcN (uF f L pl (fmI (atM f L pl))) 0 (ca_sL.getD (fmI (atM f L pl)) 0) := rfl
            have hfl := (fcN_le (uF f L pl (fmI (atM f L pl))) (ca_sL.getD (fmI (atM f L pl)) 0) 0).2
            have hok : 0 < lenF (kF f L pl) ∧ fcF f L pl = lenF (kF f L pl) := by
              have h1 := (nI_leI (by omega) (by omega)).mp c66
              have h2 : ¬ ca_sL.getD (fmI (atM f L pl)) 0 = 0 := fun z => by rw [if_pos z] at c57; exact absurd c57 (by decide)
              omega
            rw [show nI i + 1 = nI (i + 1) from nI_add i 1, nI_add]
            refine ca_drop hX (ca_le_s rfl (ca_le_s (by rw [← hfc0, hok.2]) (ca_le_s rfl (ca_le_n (ca_le_n ca_le_0))))) (ih (i + 1) (pl + lenF (kF f L pl)) (by omega) (by omega) (by omega) (he.trans (by rw [psF, if_neg hlp, if_pos hok])))
          · refine ca_iload_n hX (q := 70) 1 rfl rfl rfl dX4_firstStray_69 ?_
            refine ca_iload hX (q := 72) rfl rfl dX4_firstStray_70 ?_
            refine ca_iadd hX (q := 73) rfl dX4_firstStray_72 ?_
            refine ca_iret hX rfl rfl rfl rfl dX4_firstStray_73 ?_
            have hle0 : lenF (kF f L pl) = ca_sL.getD (fmI (atM f L pl)) 0 := rfl
            have hfc0 : fcF f L pl = fcN (uF f L pl (fmI (atM f L pl))) 0 (ca_sL.getD (fmI (atM f L pl)) 0) := rfl
            first | (exact ⟨by rw [stI, if_neg hL0, he, psF, if_neg hlp, if_neg (fun z => c57 (by rw [if_neg (by omega)]))]; exact congrArg (fun z => some (Value.int z)) (nI_add _ _), rfl⟩) | (exact ⟨by rw [stI, if_neg hL0, he, psF, if_neg hlp, if_neg (fun z => c66 ((nI_leI (by omega) (by omega)).mpr (by omega)))]; exact congrArg (fun z => some (Value.int z)) (nI_add _ _), rfl⟩)
  refine ca_aload_n hX (q := 1) 0 rfl rfl rfl dX4_firstStray_0 ?_
  refine ca_getf hX (q := 4) cl_X4 0 (by decide) w_fl_X4_14 (by omega) h25 rfl rfl dX4_firstStray_1 ?_
  refine ca_getN hX (q := 7) cl_X3 1 (by decide) w_fn_X4_24 (by omega) l0 rfl rfl dX4_firstStray_4 ?_
  refine ca_if_ne hX (q := 10) 12 rfl rfl dX4_firstStray_7 (fun c7 => ?_) (fun c7 => ?_)
  · have hL0 : ¬ L = 0 := fun z => c7 (by rw [z]; rfl)
    refine ca_iconst hX (q := 13) k_iconst_0 rfl dX4_firstStray_12 ?_
    refine ca_istore_n hX (q := 14) 1 rfl (ls' := [_, _, _, _, _]) (Nat.le_of_ble_eq_true rfl) (Nat.le_of_ble_eq_true rfl) (Or.inr rfl) rfl rfl dX4_firstStray_13 ?_
    refine ca_iconst hX (q := 15) k_iconst_0 rfl dX4_firstStray_14 ?_
    refine ca_istore_n hX (q := 16) 2 rfl (ls' := [_, _, _, _, _]) (Nat.le_of_ble_eq_true rfl) (Nat.le_of_ble_eq_true rfl) (Or.inr rfl) rfl rfl dX4_firstStray_15 ?_
    exact loop hL0 97 0 0 (by omega) (by omega) (by omega) rfl
  · have hL0 : L = 0 := (nI_eq (b := 0) (by omega) (by omega)).mp c7
    refine ca_iconst hX (q := 11) k_iconst_0 rfl dX4_firstStray_10 ?_
    refine ca_iret hX rfl rfl rfl rfl dX4_firstStray_11 ?_
    exact ⟨by rw [stI, if_pos hL0], rfl⟩

