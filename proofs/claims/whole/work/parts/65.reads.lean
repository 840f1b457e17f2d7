/-! the reference reads a statement -/
def hrI (f : Nat → Int32) (L j : Nat) : Int32 := if j < L then f j else -1
theorem hr_at (f : Nat → Int32) (L j : Nat) : (j < L ∧ hrI f L j = f j ∧ atM f L j = f j) ∨ (¬ j < L ∧ hrI f L j = -1 ∧ atM f L j = -9) := by
  by_cases z : j < L
  · exact Or.inl ⟨z, if_pos z, if_pos z⟩
  · exact Or.inr ⟨z, if_neg z, if_neg z⟩
theorem ft_out : ∀ k, k < 6 → ∀ i, i < 8 → ftI (-9) (sgF k i) = ftI (-1) (sgF k i) ∨ ¬ i < ca_sL.getD k 0 := by decide +kernel
theorem u_hr (f : Nat → Int32) (L pl : Nat) {k i : Nat} (hk : k < 6) (hi : i < ca_sL.getD k 0) : uF f L pl k i = !decide (ftI (hrI f L (pl + i)) (sgF k i) = 0) := by
  unfold uF
  rcases hr_at f L (pl + i) with ⟨_, a, b⟩ | ⟨_, a, b⟩
  · rw [a, b]
  · have h8 := len_8 k (by omega)
    rcases ft_out k hk i (by omega) with z | z
    · rw [a, b, z]
    · exact absurd hi z
def rdM (M M' : Nat → Nat → Int32) : Prop := (∀ j, j ≠ 12 → j ≠ 13 → M' j = M j) ∧ ∀ j, j ≠ 5 → M' 13 j = M 13 j
theorem rdM.rf {M : Nat → Nat → Int32} : rdM M M := ⟨fun _ _ _ => rfl, fun _ _ => rfl⟩
theorem rdM.tr {M M1 M2 : Nat → Nat → Int32} (a : rdM M M1) (b : rdM M1 M2) : rdM M M2 := ⟨fun j x y => (b.1 j x y).trans (a.1 j x y), fun j x => (b.2 j x).trans (a.2 j x)⟩
theorem rdM.nu {M M1 : Nat → Nat → Int32} (a : rdM M M1) (k : Nat) (x : Int32) : rdM M (upB M1 12 k x) := ⟨fun j u v => by rw [upB_n _ _ _ u]; exact a.1 j u v, fun j u => by rw [upB_n _ _ _ (by omega)]; exact a.2 j u⟩
theorem rdM.pl {M M1 : Nat → Nat → Int32} (a : rdM M M1) (x : Int32) : rdM M (upB M1 13 5 x) := ⟨fun j u v => by rw [upB_n _ _ _ v]; exact a.1 j u v, fun j u => by rw [upB_s, upd_n _ _ u]; exact a.2 j u⟩
theorem rdM.ke {M M1 : Nat → Nat → Int32} (a : rdM M M1) (h : M 13 4 = 0) : keM M M1 := ⟨a.1 0 (by omega) (by omega), a.1 2 (by omega) (by omega), a.1 4 (by omega) (by omega), a.1 5 (by omega) (by omega), a.1 6 (by omega) (by omega), a.2 0 (by omega), a.2 1 (by omega), a.2 2 (by omega), (a.2 4 (by omega)).trans h⟩
def dgB (f : Nat → Int32) (L j : Nat) : Bool := !decide (inB (hrI f L j) 48 57 = 0)
def nuI (f : Nat → Int32) (pl : Nat) : Nat → Int32
  | 0 => 0
  | n + 1 => 10 * nuI f pl n + f (pl + n) - 48
theorem dg_in {f : Nat → Int32} {L j : Nat} (h : dgB f L j = true) : j < L ∧ hrI f L j = f j := by
  rcases hr_at f L j with ⟨a, b, _⟩ | ⟨_, b, _⟩
  · exact ⟨a, b⟩
  · unfold dgB at h; rw [b] at h; exact absurd h (by decide)
theorem fc_sh (u : Nat → Bool) (s : Nat) : ∀ n i, s + fcN (fun j => u (s + j)) i n = fcN u (s + i) n
  | 0, i => rfl
  | n + 1, i => by
    rw [fcN, fcN]
    split
    · exact fc_sh u s n (i + 1)
    · rfl
theorem fc_cg {u v : Nat → Bool} : ∀ n s, (∀ i, s ≤ i → i < s + n → u i = v i) → fcN u s n = fcN v s n
  | 0, _, _ => rfl
  | n + 1, s, h => by rw [fcN, fcN, h s (Nat.le_refl _) (by omega), fc_cg n (s + 1) (fun i a b => h i (by omega) (by omega))]
def fcS (u : Nat → Bool) : Nat → List Nat → Nat
  | s, [] => s
  | s, a :: t => if fcN u s a = s + a then fcS u (s + a) t else fcN u s a
theorem fc_app (u : Nat → Bool) : ∀ a s b, fcN u s (a + b) = if fcN u s a = s + a then fcN u (s + a) b else fcN u s a
  | 0, s, b => by rw [Nat.zero_add, if_pos (show fcN u s 0 = s + 0 from rfl)]; rfl
  | a + 1, s, b => by
    rw [show a + 1 + b = (a + b) + 1 by omega, fcN, fcN]
    by_cases z : u s = true
    · rw [if_pos z, if_pos z, fc_app u a (s + 1) b, show s + 1 + a = s + (a + 1) by omega]
    · rw [if_neg z, if_neg z, if_neg (by omega)]
theorem fc_S (u : Nat → Bool) : ∀ l s, fcN u s l.sum = fcS u s l
  | [], s => rfl
  | a :: t, s => by rw [List.sum_cons, fc_app, fcS, fc_S u t]
theorem kb_kl (c : Int32) : klI c = if c = 116 then 0 else if c = 108 then 1 else if c = 115 then 2 else if c = 112 then 3 else if c = 119 then 4 else if c = 100 then 5 else -9 := by
  unfold klI
  have e : ∀ (a : Int32), decide (a = c) = decide (c = a) := fun a => decide_eq_decide.mpr ⟨Eq.symm, Eq.symm⟩
  simp only [fsM, e, decide_eq_true_eq]
  rfl
theorem kl_two (c : Int32) : klI c = -9 ∨ ∃ k, k ≤ 5 ∧ klI c = nI k := by
  rw [kb_kl]
  by_cases h0 : c = 116
  · rw [if_pos h0]; exact Or.inr ⟨0, by omega, rfl⟩
  · rw [if_neg h0]
    by_cases h1 : c = 108
    · rw [if_pos h1]; exact Or.inr ⟨1, by omega, rfl⟩
    · rw [if_neg h1]
      by_cases h2 : c = 115
      · rw [if_pos h2]; exact Or.inr ⟨2, by omega, rfl⟩
      · rw [if_neg h2]
        by_cases h3 : c = 112
        · rw [if_pos h3]; exact Or.inr ⟨3, by omega, rfl⟩
        · rw [if_neg h3]
          by_cases h4 : c = 119
          · rw [if_pos h4]; exact Or.inr ⟨4, by omega, rfl⟩
          · rw [if_neg h4]
            by_cases h5 : c = 100
            · rw [if_pos h5]; exact Or.inr ⟨5, by omega, rfl⟩
            · rw [if_neg h5]; exact Or.inl rfl

set_option maxRecDepth 100000 in
set_option maxHeartbeats 4000000 in
theorem c_X6_here (l : Launch) (N : Nat) (g : ca_G) (o : Nat) (M : Nat → Nat → Int32) (hm : mdG g o M) (ho : o + 14 ≤ N) (L : Nat) (h131 : M 13 1 = nI L) (hL : L ≤ 96) (pl : Nat) (hp : pl < 1000) (h5 : M 13 5 = nI pl) : ca_Ct l yX6_here cX6_here 1 (some .int) 0 0 0 N 1000000 [.ref o] g (ca_pi (hrI (M 4) L pl) g) := by
  refine ca_intro (by decide) (Nat.le_of_ble_eq_true rfl) (fun X hX hN => ?_)
  show X 0 [_] [] N 1000000 g
  obtain ⟨c0, c1, c2, c3, c4, c5, c6, c7, c8, c9, c10, c11, c12, c13⟩ := id hm
  refine ca_aload_n hX (q := 1) 0 rfl rfl rfl dX6_here_0 ?_
  refine ca_getf hX (q := 4) cl_X6 17 (by decide) w_fl_X6_121 (by omega) c0 rfl rfl dX6_here_1 ?_
  refine ca_aload_n hX (q := 5) 0 rfl rfl rfl dX6_here_4 ?_
  refine ca_getf hX (q := 8) cl_X6 8 (by decide) w_fl_X6_118 (by omega) c0 rfl rfl dX6_here_5 ?_
  rw [h5, h131]
  refine ca_icmp_ge hX (q := 11) 23 rfl rfl dX6_here_8 (fun b8 => ?_) (fun b8 => ?_)
  · have hq := (nI_leI (by omega) (by omega)).mp b8
    refine ca_iconst hX (q := 24) k_iconst_m1 rfl dX6_here_23 ?_
    refine ca_iret hX rfl rfl rfl rfl dX6_here_24 ?_
    exact ⟨by rw [hrI, if_neg (by omega)], rfl⟩
  · have hq := mt (nI_leI (a := L) (b := pl) (by omega) (by omega)).mpr b8
    refine ca_aload_n hX (q := 12) 0 rfl rfl rfl dX6_here_11 ?_
    refine ca_getf hX (q := 15) cl_X6 5 (by decide) w_fl_X6_22 (by omega) c0 rfl rfl dX6_here_12 ?_
    refine ca_aload_n hX (q := 16) 0 rfl rfl rfl dX6_here_15 ?_
    refine ca_getf hX (q := 19) cl_X6 17 (by decide) w_fl_X6_121 (by omega) c0 rfl rfl dX6_here_16 ?_
    refine ca_iaN hX (q := 20) (k := pl) (by omega) c5 (by decide) h5 (by omega) rfl dX6_here_19 ?_
    refine ca_goto hX 24 rfl dX6_here_20 ?_
    refine ca_iret hX rfl rfl rfl rfl dX6_here_24 ?_
    exact ⟨by rw [hrI, if_pos (by omega)], rfl⟩

set_option maxRecDepth 100000 in
set_option maxHeartbeats 4000000 in
theorem c_X6_kindBy (l : Launch) (N : Nat) (g : ca_G) (x : Int32) : ca_Ct l yX6_kindBy cX6_kindBy 1 (some .int) 0 0 0 N 1000000 [.int x] g (ca_pi (klI x) g) := by
  refine ca_intro (by decide) (Nat.le_of_ble_eq_true rfl) (fun X hX hN => ?_)
  show X 0 [_] [] N 1000000 g
  refine ca_iload_n hX (q := 1) 0 rfl rfl rfl dX6_kindBy_0 ?_
  by_cases e1_100 : x = 100
  · refine ca_tabIn hX 106 dX6_kindBy_1 (by rw [e1_100]; decide) (by rw [e1_100]; decide) (by rw [e1_100]; rfl) rfl ?_
    refine ca_iconst hX (q := 107) k_iconst_5 rfl dX6_kindBy_106 ?_
    refine ca_iret hX rfl rfl rfl rfl dX6_kindBy_107 ?_
    exact ⟨by rw [kb_kl]; simp [e1_100], rfl⟩
  by_cases e1_101 : x = 101
  · refine ca_tabIn hX 108 dX6_kindBy_1 (by rw [e1_101]; decide) (by rw [e1_101]; decide) (by rw [e1_101]; rfl) rfl ?_
    refine ca_bipush hX (q := 110) k_bipush_m9 rfl dX6_kindBy_108 ?_
    refine ca_iret hX rfl rfl rfl rfl dX6_kindBy_110 ?_
    exact ⟨by rw [kb_kl]; simp [e1_100, e1_101], rfl⟩
  by_cases e1_102 : x = 102
  · refine ca_tabIn hX 108 dX6_kindBy_1 (by rw [e1_102]; decide) (by rw [e1_102]; decide) (by rw [e1_102]; rfl) rfl ?_
    refine ca_bipush hX (q := 110) k_bipush_m9 rfl dX6_kindBy_108 ?_
    refine ca_iret hX rfl rfl rfl rfl dX6_kindBy_110 ?_
    exact ⟨by rw [kb_kl]; simp [e1_100, e1_101, e1_102], rfl⟩
  by_cases e1_103 : x = 103
  · refine ca_tabIn hX 108 dX6_kindBy_1 (by rw [e1_103]; decide) (by rw [e1_103]; decide) (by rw [e1_103]; rfl) rfl ?_
    refine ca_bipush hX (q := 110) k_bipush_m9 rfl dX6_kindBy_108 ?_
    refine ca_iret hX rfl rfl rfl rfl dX6_kindBy_110 ?_
    exact ⟨by rw [kb_kl]; simp [e1_100, e1_101, e1_102, e1_103], rfl⟩
  by_cases e1_104 : x = 104
  · refine ca_tabIn hX 108 dX6_kindBy_1 (by rw [e1_104]; decide) (by rw [e1_104]; decide) (by rw [e1_104]; rfl) rfl ?_
    refine ca_bipush hX (q := 110) k_bipush_m9 rfl dX6_kindBy_108 ?_
    refine ca_iret hX rfl rfl rfl rfl dX6_kindBy_110 ?_
    exact ⟨by rw [kb_kl]; simp [e1_100, e1_101, e1_102, e1_103, e1_104], rfl⟩
  by_cases e1_105 : x = 105
  · refine ca_tabIn hX 108 dX6_kindBy_1 (by rw [e1_105]; decide) (by rw [e1_105]; decide) (by rw [e1_105]; rfl) rfl ?_
    refine ca_bipush hX (q := 110) k_bipush_m9 rfl dX6_kindBy_108 ?_
    refine ca_iret hX rfl rfl rfl rfl dX6_kindBy_110 ?_
    exact ⟨by rw [kb_kl]; simp [e1_100, e1_101, e1_102, e1_103, e1_104, e1_105], rfl⟩
  by_cases e1_106 : x = 106
  · refine ca_tabIn hX 108 dX6_kindBy_1 (by rw [e1_106]; decide) (by rw [e1_106]; decide) (by rw [e1_106]; rfl) rfl ?_
    refine ca_bipush hX (q := 110) k_bipush_m9 rfl dX6_kindBy_108 ?_
    refine ca_iret hX rfl rfl rfl rfl dX6_kindBy_110 ?_
    exact ⟨by rw [kb_kl]; simp [e1_100, e1_101, e1_102, e1_103, e1_104, e1_105, e1_106], rfl⟩
  by_cases e1_107 : x = 107
  · refine ca_tabIn hX 108 dX6_kindBy_1 (by rw [e1_107]; decide) (by rw [e1_107]; decide) (by rw [e1_107]; rfl) rfl ?_
    refine ca_bipush hX (q := 110) k_bipush_m9 rfl dX6_kindBy_108 ?_
    refine ca_iret hX rfl rfl rfl rfl dX6_kindBy_110 ?_
    exact ⟨by rw [kb_kl]; simp [e1_100, e1_101, e1_102, e1_103, e1_104, e1_105, e1_106, e1_107], rfl⟩
  by_cases e1_108 : x = 108
  · refine ca_tabIn hX 98 dX6_kindBy_1 (by rw [e1_108]; decide) (by rw [e1_108]; decide) (by rw [e1_108]; rfl) rfl ?_
    refine ca_iconst hX (q := 99) k_iconst_1 rfl dX6_kindBy_98 ?_
    refine ca_iret hX rfl rfl rfl rfl dX6_kindBy_99 ?_
    exact ⟨by rw [kb_kl]; simp [e1_100, e1_101, e1_102, e1_103, e1_104, e1_105, e1_106, e1_107, e1_108], rfl⟩
  by_cases e1_109 : x = 109
  · refine ca_tabIn hX 108 dX6_kindBy_1 (by rw [e1_109]; decide) (by rw [e1_109]; decide) (by rw [e1_109]; rfl) rfl ?_
    refine ca_bipush hX (q := 110) k_bipush_m9 rfl dX6_kindBy_108 ?_
    refine ca_iret hX rfl rfl rfl rfl dX6_kindBy_110 ?_
    exact ⟨by rw [kb_kl]; simp [e1_100, e1_101, e1_102, e1_103, e1_104, e1_105, e1_106, e1_107, e1_108, e1_109], rfl⟩
  by_cases e1_110 : x = 110
  · refine ca_tabIn hX 108 dX6_kindBy_1 (by rw [e1_110]; decide) (by rw [e1_110]; decide) (by rw [e1_110]; rfl) rfl ?_
    refine ca_bipush hX (q := 110) k_bipush_m9 rfl dX6_kindBy_108 ?_
    refine ca_iret hX rfl rfl rfl rfl dX6_kindBy_110 ?_
    exact ⟨by rw [kb_kl]; simp [e1_100, e1_101, e1_102, e1_103, e1_104, e1_105, e1_106, e1_107, e1_108, e1_109, e1_110], rfl⟩
  by_cases e1_111 : x = 111
  · refine ca_tabIn hX 108 dX6_kindBy_1 (by rw [e1_111]; decide) (by rw [e1_111]; decide) (by rw [e1_111]; rfl) rfl ?_
    refine ca_bipush hX (q := 110) k_bipush_m9 rfl dX6_kindBy_108 ?_
    refine ca_iret hX rfl rfl rfl rfl dX6_kindBy_110 ?_
    exact ⟨by rw [kb_kl]; simp [e1_100, e1_101, e1_102, e1_103, e1_104, e1_105, e1_106, e1_107, e1_108, e1_109, e1_110, e1_111], rfl⟩
  by_cases e1_112 : x = 112
  · refine ca_tabIn hX 102 dX6_kindBy_1 (by rw [e1_112]; decide) (by rw [e1_112]; decide) (by rw [e1_112]; rfl) rfl ?_
    refine ca_iconst hX (q := 103) k_iconst_3 rfl dX6_kindBy_102 ?_
    refine ca_iret hX rfl rfl rfl rfl dX6_kindBy_103 ?_
    exact ⟨by rw [kb_kl]; simp [e1_100, e1_101, e1_102, e1_103, e1_104, e1_105, e1_106, e1_107, e1_108, e1_109, e1_110, e1_111, e1_112], rfl⟩
  by_cases e1_113 : x = 113
  · refine ca_tabIn hX 108 dX6_kindBy_1 (by rw [e1_113]; decide) (by rw [e1_113]; decide) (by rw [e1_113]; rfl) rfl ?_
    refine ca_bipush hX (q := 110) k_bipush_m9 rfl dX6_kindBy_108 ?_
    refine ca_iret hX rfl rfl rfl rfl dX6_kindBy_110 ?_
    exact ⟨by rw [kb_kl]; simp [e1_100, e1_101, e1_102, e1_103, e1_104, e1_105, e1_106, e1_107, e1_108, e1_109, e1_110, e1_111, e1_112, e1_113], rfl⟩
  by_cases e1_114 : x = 114
  · refine ca_tabIn hX 108 dX6_kindBy_1 (by rw [e1_114]; decide) (by rw [e1_114]; decide) (by rw [e1_114]; rfl) rfl ?_
    refine ca_bipush hX (q := 110) k_bipush_m9 rfl dX6_kindBy_108 ?_
    refine ca_iret hX rfl rfl rfl rfl dX6_kindBy_110 ?_
    exact ⟨by rw [kb_kl]; simp [e1_100, e1_101, e1_102, e1_103, e1_104, e1_105, e1_106, e1_107, e1_108, e1_109, e1_110, e1_111, e1_112, e1_113, e1_114], rfl⟩
  by_cases e1_115 : x = 115
  · refine ca_tabIn hX 100 dX6_kindBy_1 (by rw [e1_115]; decide) (by rw [e1_115]; decide) (by rw [e1_115]; rfl) rfl ?_
    refine ca_iconst hX (q := 101) k_iconst_2 rfl dX6_kindBy_100 ?_
    refine ca_iret hX rfl rfl rfl rfl dX6_kindBy_101 ?_
    exact ⟨by rw [kb_kl]; simp [e1_100, e1_101, e1_102, e1_103, e1_104, e1_105, e1_106, e1_107, e1_108, e1_109, e1_110, e1_111, e1_112, e1_113, e1_114, e1_115], rfl⟩
  by_cases e1_116 : x = 116
  · refine ca_tabIn hX 96 dX6_kindBy_1 (by rw [e1_116]; decide) (by rw [e1_116]; decide) (by rw [e1_116]; rfl) rfl ?_
    refine ca_iconst hX (q := 97) k_iconst_0 rfl dX6_kindBy_96 ?_
    refine ca_iret hX rfl rfl rfl rfl dX6_kindBy_97 ?_
    exact ⟨by rw [kb_kl]; simp [e1_100, e1_101, e1_102, e1_103, e1_104, e1_105, e1_106, e1_107, e1_108, e1_109, e1_110, e1_111, e1_112, e1_113, e1_114, e1_115, e1_116], rfl⟩
  by_cases e1_117 : x = 117
  · refine ca_tabIn hX 108 dX6_kindBy_1 (by rw [e1_117]; decide) (by rw [e1_117]; decide) (by rw [e1_117]; rfl) rfl ?_
    refine ca_bipush hX (q := 110) k_bipush_m9 rfl dX6_kindBy_108 ?_
    refine ca_iret hX rfl rfl rfl rfl dX6_kindBy_110 ?_
    exact ⟨by rw [kb_kl]; simp [e1_100, e1_101, e1_102, e1_103, e1_104, e1_105, e1_106, e1_107, e1_108, e1_109, e1_110, e1_111, e1_112, e1_113, e1_114, e1_115, e1_116, e1_117], rfl⟩
  by_cases e1_118 : x = 118
  · refine ca_tabIn hX 108 dX6_kindBy_1 (by rw [e1_118]; decide) (by rw [e1_118]; decide) (by rw [e1_118]; rfl) rfl ?_
    refine ca_bipush hX (q := 110) k_bipush_m9 rfl dX6_kindBy_108 ?_
    refine ca_iret hX rfl rfl rfl rfl dX6_kindBy_110 ?_
    exact ⟨by rw [kb_kl]; simp [e1_100, e1_101, e1_102, e1_103, e1_104, e1_105, e1_106, e1_107, e1_108, e1_109, e1_110, e1_111, e1_112, e1_113, e1_114, e1_115, e1_116, e1_117, e1_118], rfl⟩
  by_cases e1_119 : x = 119
  · refine ca_tabIn hX 104 dX6_kindBy_1 (by rw [e1_119]; decide) (by rw [e1_119]; decide) (by rw [e1_119]; rfl) rfl ?_
    refine ca_iconst hX (q := 105) k_iconst_4 rfl dX6_kindBy_104 ?_
    refine ca_iret hX rfl rfl rfl rfl dX6_kindBy_105 ?_
    exact ⟨by rw [kb_kl]; simp [e1_100, e1_101, e1_102, e1_103, e1_104, e1_105, e1_106, e1_107, e1_108, e1_109, e1_110, e1_111, e1_112, e1_113, e1_114, e1_115, e1_116, e1_117, e1_118, e1_119], rfl⟩
  refine ca_tabOut hX 108 dX6_kindBy_1 (by have z0 := lv_neT (k := 100) (a := 100) e1_100 (by decide); have z1 := lv_neT (k := 101) (a := 101) e1_101 (by decide); have z2 := lv_neT (k := 102) (a := 102) e1_102 (by decide); have z3 := lv_neT (k := 103) (a := 103) e1_103 (by decide); have z4 := lv_neT (k := 104) (a := 104) e1_104 (by decide); have z5 := lv_neT (k := 105) (a := 105) e1_105 (by decide); have z6 := lv_neT (k := 106) (a := 106) e1_106 (by decide); have z7 := lv_neT (k := 107) (a := 107) e1_107 (by decide); have z8 := lv_neT (k := 108) (a := 108) e1_108 (by decide); have z9 := lv_neT (k := 109) (a := 109) e1_109 (by decide); have z10 := lv_neT (k := 110) (a := 110) e1_110 (by decide); have z11 := lv_neT (k := 111) (a := 111) e1_111 (by decide); have z12 := lv_neT (k := 112) (a := 112) e1_112 (by decide); have z13 := lv_neT (k := 113) (a := 113) e1_113 (by decide); have z14 := lv_neT (k := 114) (a := 114) e1_114 (by decide); have z15 := lv_neT (k := 115) (a := 115) e1_115 (by decide); have z16 := lv_neT (k := 116) (a := 116) e1_116 (by decide); have z17 := lv_neT (k := 117) (a := 117) e1_117 (by decide); have z18 := lv_neT (k := 118) (a := 118) e1_118 (by decide); have z19 := lv_neT (k := 119) (a := 119) e1_119 (by decide); omega) rfl ?_
  refine ca_bipush hX (q := 110) k_bipush_m9 rfl dX6_kindBy_108 ?_
  refine ca_iret hX rfl rfl rfl rfl dX6_kindBy_110 ?_
  exact ⟨by rw [kb_kl]; simp [e1_100, e1_101, e1_102, e1_103, e1_104, e1_105, e1_106, e1_107, e1_108, e1_109, e1_110, e1_111, e1_112, e1_113, e1_114, e1_115, e1_116, e1_117, e1_118, e1_119], rfl⟩

set_option maxRecDepth 100000 in
set_option maxHeartbeats 4000000 in
theorem c_X6_readsNumber (l : Launch) (N : Nat) (g : ca_G) (o : Nat) (M : Nat → Nat → Int32) (hm : mdG g o M) (ho0 : o + 14 ≤ N) (L : Nat) (h131 : M 13 1 = nI L) (hL : L ≤ 96) (pl : Nat) (hp : pl < 900) (h5 : M 13 5 = nI pl) (k : Nat) (hk : k < 4) (d : Nat) (hd : d ≤ 2) : ca_Ct l yX6_readsNumber cX6_readsNumber 4 (some .boolean) 1 0 0 N 1000000 [.ref o, .int (nI k), .int (nI d)] g (fun rr g' => ∃ c M', rr = some (.int (if c = d then 1 else 0)) ∧ c ≤ d ∧ fcN (fun i => dgB (M 4) L (pl + i)) 0 d = c ∧ mdG g' o M' ∧ rdM M M' ∧ frG g g' o (o + 14) ∧ M' 13 5 = nI (pl + c) ∧ (c = d → M' 12 k = nuI (M 4) pl d) ∧ ∀ j, j ≠ k → M' 12 j = M 12 j) := by
  refine ca_intro (by decide) (Nat.le_of_ble_eq_true rfl) (fun X hX hN => ?_)
  show X 0 [_, _, _, none] [] N 1000000 g
  have hfr : frG g g o (o + 14) := frG.rf
  obtain ⟨c0, c1, c2, c3, c4, c5, c6, c7, c8, c9, c10, c11, c12, c13⟩ := id hm
  have hrd := rdM.rf (M := M)
  have loop : ∀ (n i : Nat) (g1 : ca_G) (M1 : Nat → Nat → Int32), i + n = d → mdG g1 o M1 → rdM M M1 → frG g g1 o (o + 14) → M1 13 5 = nI (pl + i) → M1 12 k = nuI (M 4) pl i → (∀ j, j ≠ k → M1 12 j = M 12 j) → fcN (fun i => dgB (M 4) L (pl + i)) 0 d = fcN (fun i => dgB (M 4) L (pl + i)) i n → X 9 [some (.ref o), some (.int (nI k)), some (.int (nI d)), some (.int (nI i))] [] N 1000000 g1 := by
    intro n
    induction n with
    | zero =>
      intro i g M1 hi hm hrd hfr h5 hn12 ho he
      have hib : i = d := by omega
      rw [hib]
      obtain ⟨c0, c1, c2, c3, c4, c5, c6, c7, c8, c9, c10, c11, c12, c13⟩ := id hm
      refine ca_iload_n hX (q := 10) 3 rfl rfl rfl dX6_readsNumber_9 ?_
      refine ca_iload_n hX (q := 11) 2 rfl rfl rfl dX6_readsNumber_10 ?_
      refine ca_icmp_ge hX (q := 14) 69 rfl rfl dX6_readsNumber_11 (fun _ => ?_) (fun z => absurd (nI_le (Nat.le_refl _) (by omega)) z)
      refine ca_iconst hX (q := 70) k_iconst_1 rfl dX6_readsNumber_69 ?_
      refine ca_zret hX rfl rfl rfl rfl rfl dX6_readsNumber_70 ?_
      rw [hib] at h5 hn12 he
      exact ⟨d, M1, by rw [if_pos rfl], Nat.le_refl _, he, hm, hrd, hfr, h5, fun _ => hn12, ho⟩
    | succ n ih =>
      intro i g M1 hi hm hrd hfr h5 hn12 ho he
      obtain ⟨c0, c1, c2, c3, c4, c5, c6, c7, c8, c9, c10, c11, c12, c13⟩ := id hm
      refine ca_iload_n hX (q := 10) 3 rfl rfl rfl dX6_readsNumber_9 ?_
      refine ca_iload_n hX (q := 11) 2 rfl rfl rfl dX6_readsNumber_10 ?_
      refine ca_icmp_ge hX (q := 14) 69 rfl rfl dX6_readsNumber_11 (fun z => absurd z (nI_ge (a := i) (b := d) (by omega) (by omega))) (fun _ => ?_)
      refine ca_aload_n hX (q := 15) 0 rfl rfl rfl dX6_readsNumber_14 ?_
      refine ca_cVi hX (q := 18) y_X6_here w_ml_X6_124 (by omega) hN c0 (c_X6_here l N g o M1 hm ho0 L (by rw [hrd.2 1 (by omega)]; exact h131) hL (pl + i) (by omega) h5) (by decide) rfl (Nat.le_of_ble_eq_true rfl) rfl dX6_readsNumber_15 rfl ?_
      refine ca_bipush hX (q := 20) k_bipush_48 rfl dX6_readsNumber_18 ?_
      refine ca_bipush hX (q := 22) k_bipush_57 rfl dX6_readsNumber_20 ?_
      refine ca_cSi hX (q := 25) y_X6_isIn w_ml_X6_55 hN (c_X6_isIn l N g _ 48 57) (by decide) rfl (Nat.le_of_ble_eq_true rfl) rfl dX6_readsNumber_22 rfl ?_
      rw [hrd.1 4 (by omega) (by omega)]
      refine ca_if_ne hX (q := 28) 30 rfl rfl dX6_readsNumber_25 (fun b25 => ?_) (fun b25 => ?_)
      · have hu : (fun i => dgB (M 4) L (pl + i)) i = true := by show dgB (M 4) L (pl + i) = true; unfold dgB; rw [decide_eq_false b25]; rfl
        obtain ⟨hjl, hje⟩ := dg_in hu
        refine ca_aload_n hX (q := 31) 0 rfl rfl rfl dX6_readsNumber_30 ?_
        refine ca_getf hX (q := 34) cl_X6 18 (by decide) w_fl_X6_46 (by omega) c0 rfl rfl dX6_readsNumber_31 ?_
        refine ca_iload_n hX (q := 35) 1 rfl rfl rfl dX6_readsNumber_34 ?_
        refine ca_bipush hX (q := 37) k_bipush_10 rfl dX6_readsNumber_35 ?_
        refine ca_aload_n hX (q := 38) 0 rfl rfl rfl dX6_readsNumber_37 ?_
        refine ca_getf hX (q := 41) cl_X6 18 (by decide) w_fl_X6_46 (by omega) c0 rfl rfl dX6_readsNumber_38 ?_
        refine ca_iload_n hX (q := 42) 1 rfl rfl rfl dX6_readsNumber_41 ?_
        refine ca_iaN hX (q := 43) (k := k) (by omega) c13 (by decide) rfl hk rfl dX6_readsNumber_42 ?_
        refine ca_imul hX (q := 44) rfl dX6_readsNumber_43 ?_
        refine ca_aload_n hX (q := 45) 0 rfl rfl rfl dX6_readsNumber_44 ?_
        refine ca_cVi hX (q := 48) y_X6_here w_ml_X6_124 (by omega) hN c0 (c_X6_here l N g o M1 hm ho0 L (by rw [hrd.2 1 (by omega)]; exact h131) hL (pl + i) (by omega) h5) (by decide) rfl (Nat.le_of_ble_eq_true rfl) rfl dX6_readsNumber_45 rfl ?_
        refine ca_iadd hX (q := 49) rfl dX6_readsNumber_48 ?_
        refine ca_bipush hX (q := 51) k_bipush_48 rfl dX6_readsNumber_49 ?_
        refine ca_isub hX (q := 52) rfl dX6_readsNumber_51 ?_
        refine ca_iaS hX (q := 53) (k := k) (by omega) hN (Nat.le_refl _) c13 (by decide) rfl hk rfl dX6_readsNumber_52 (fun g hE hF => ?_)
        have hm := md_a12 hm hE hF
        obtain ⟨c0, c1, c2, c3, c4, c5, c6, c7, c8, c9, c10, c11, c12, c13⟩ := id hm
        have hfr := frG.tr hfr (fun j hj => hF j (by omega))
        refine ca_aload_n hX (q := 54) 0 rfl rfl rfl dX6_readsNumber_53 ?_
        refine ca_dup hX (q := 55) rfl rfl dX6_readsNumber_54 ?_
        refine ca_getf hX (q := 58) cl_X6 17 (by decide) w_fl_X6_121 (by omega) c0 rfl rfl dX6_readsNumber_55 ?_
        refine ca_iconst hX (q := 59) k_iconst_1 rfl dX6_readsNumber_58 ?_
        refine ca_iadd hX (q := 60) rfl dX6_readsNumber_59 ?_
        refine ca_puti hX (q := 63) (fs' := [_, _, _, _, _, _, _, _, _, _, _, _, _, _, _, _, _, _, _, _]) cl_X6 17 (by decide) w_fl_X6_121 rfl rfl (by omega) hN c0 (Nat.le_of_ble_eq_true rfl) rfl rfl dX6_readsNumber_60 (fun g hE hF => ?_)
        have hm := md_s5 hm hE hF
        obtain ⟨c0, c1, c2, c3, c4, c5, c6, c7, c8, c9, c10, c11, c12, c13⟩ := id hm
        have hfr := frG.tr hfr (fun j hj => hF j (by omega))
        refine ca_iinc hX (q := 66) (ls' := [_, _, _, _]) k_iconst_1 rfl (Nat.le_of_ble_eq_true rfl) (Or.inr rfl) rfl rfl dX6_readsNumber_63 ?_
        refine ca_goto hX 9 rfl dX6_readsNumber_66 ?_
        have e5 : upB M1 12 k (10 * M1 12 k + hrI (M1 4) L (pl + i) - 48) 13 5 + 1 = nI (pl + (i + 1)) := by rw [upB_n _ _ _ (by omega), h5]; exact nI_add _ 1
        have e12 : 10 * M1 12 k + hrI (M1 4) L (pl + i) - 48 = nuI (M 4) pl (i + 1) := by rw [hn12, hrd.1 4 (by omega) (by omega), hje]; rfl
        rw [e5] at hm
        rw [e12] at hm
        rw [nI_1]
        refine ih (i + 1) _ _ (by omega) hm ((hrd.nu _ _).pl _) hfr (by rw [upB_s, upd_s]) (by rw [upB_n _ _ _ (by omega), upB_s, upd_s]) (fun j hj => by rw [upB_n _ _ _ (by omega), upB_s, upd_n _ _ hj]; exact ho j hj) (he.trans (by rw [fcN, if_pos hu]))
      · have hu : ¬ (fun i => dgB (M 4) L (pl + i)) i = true := by show ¬ dgB (M 4) L (pl + i) = true; unfold dgB; rw [decide_eq_true b25]; decide
        refine ca_iconst hX (q := 29) k_iconst_0 rfl dX6_readsNumber_28 ?_
        refine ca_zret hX rfl rfl rfl rfl rfl dX6_readsNumber_29 ?_
        have hc := he.trans (show fcN (fun i => dgB (M 4) L (pl + i)) i (n + 1) = i by rw [fcN, if_neg hu])
        exact ⟨i, M1, by rw [if_neg (by omega)], by omega, hc, hm, hrd, hfr, h5, fun z => absurd z (by omega), ho⟩
  refine ca_aload_n hX (q := 1) 0 rfl rfl rfl dX6_readsNumber_0 ?_
  refine ca_getf hX (q := 4) cl_X6 18 (by decide) w_fl_X6_46 (by omega) c0 rfl rfl dX6_readsNumber_1 ?_
  refine ca_iload_n hX (q := 5) 1 rfl rfl rfl dX6_readsNumber_4 ?_
  refine ca_iconst hX (q := 6) k_iconst_0 rfl dX6_readsNumber_5 ?_
  refine ca_iaS hX (q := 7) (k := k) (by omega) hN (Nat.le_refl _) c13 (by decide) rfl hk rfl dX6_readsNumber_6 (fun g hE hF => ?_)
  have hm := md_a12 hm hE hF
  obtain ⟨c0, c1, c2, c3, c4, c5, c6, c7, c8, c9, c10, c11, c12, c13⟩ := id hm
  have hfr := frG.tr hfr (fun j hj => hF j (by omega))
  refine ca_iconst hX (q := 8) k_iconst_0 rfl dX6_readsNumber_7 ?_
  refine ca_istore_n hX (q := 9) 3 rfl (ls' := [_, _, _, _]) (Nat.le_of_ble_eq_true rfl) (Nat.le_of_ble_eq_true rfl) (Or.inr rfl) rfl rfl dX6_readsNumber_8 ?_
  exact loop d 0 _ _ (by omega) hm (hrd.nu _ _) hfr (by rw [upB_n _ _ _ (by omega)]; exact h5) (by rw [upB_s, upd_s]; rfl) (fun j hj => by rw [upB_s, upd_n _ _ hj]) rfl

set_option maxRecDepth 100000 in
set_option maxHeartbeats 4000000 in
theorem c_X6_readsKind (l : Launch) (N : Nat) (g : ca_G) (o : Nat) (M : Nat → Nat → Int32) (hm : mdG g o M) (ho : o + 14 ≤ N) (L : Nat) (h131 : M 13 1 = nI L) (hL : L ≤ 96) (pl : Nat) (hp : pl < 900) (h5 : M 13 5 = nI pl) : ca_Ct l yX6_readsKind cX6_readsKind 1 (some .boolean) 1 0 0 N 1000000 [.ref o] g (fun rr g' => ∃ M', rr = some (.int (if (klI (hrI (M 4) L pl)) = -9 then 0 else 1)) ∧ mdG g' o M' ∧ rdM M M' ∧ frG g g' o (o + 14) ∧ M' 13 5 = nI (pl + (if (klI (hrI (M 4) L pl)) = -9 then 0 else 1)) ∧ M' 12 0 = (klI (hrI (M 4) L pl)) ∧ ∀ j, j ≠ 0 → M' 12 j = M 12 j) := by
  refine ca_intro (by decide) (Nat.le_of_ble_eq_true rfl) (fun X hX hN => ?_)
  show X 0 [_] [] N 1000000 g
  have hfr : frG g g o (o + 14) := frG.rf
  obtain ⟨c0, c1, c2, c3, c4, c5, c6, c7, c8, c9, c10, c11, c12, c13⟩ := id hm
  have hrd := rdM.rf (M := M)
  refine ca_aload_n hX (q := 1) 0 rfl rfl rfl dX6_readsKind_0 ?_
  refine ca_getf hX (q := 4) cl_X6 18 (by decide) w_fl_X6_46 (by omega) c0 rfl rfl dX6_readsKind_1 ?_
  refine ca_iconst hX (q := 5) k_iconst_0 rfl dX6_readsKind_4 ?_
  refine ca_aload_n hX (q := 6) 0 rfl rfl rfl dX6_readsKind_5 ?_
  refine ca_cVi hX (q := 9) y_X6_here w_ml_X6_124 (by omega) hN c0 (c_X6_here l N g o M hm ho L h131 hL pl (by omega) h5) (by decide) rfl (Nat.le_of_ble_eq_true rfl) rfl dX6_readsKind_6 rfl ?_
  refine ca_cSi hX (q := 12) y_X6_kindBy w_ml_X6_128 hN (c_X6_kindBy l N g _) (by decide) rfl (Nat.le_of_ble_eq_true rfl) rfl dX6_readsKind_9 rfl ?_
  refine ca_iaS hX (q := 13) (k := 0) (by omega) hN (Nat.le_refl _) c13 (by decide) rfl (by omega) rfl dX6_readsKind_12 (fun g hE hF => ?_)
  have hm := md_a12 hm hE hF
  obtain ⟨c0, c1, c2, c3, c4, c5, c6, c7, c8, c9, c10, c11, c12, c13⟩ := id hm
  have hfr := frG.tr hfr (fun j hj => hF j (by omega))
  refine ca_aload_n hX (q := 14) 0 rfl rfl rfl dX6_readsKind_13 ?_
  refine ca_dup hX (q := 15) rfl rfl dX6_readsKind_14 ?_
  refine ca_getf hX (q := 18) cl_X6 17 (by decide) w_fl_X6_121 (by omega) c0 rfl rfl dX6_readsKind_15 ?_
  refine ca_aload_n hX (q := 19) 0 rfl rfl rfl dX6_readsKind_18 ?_
  refine ca_getf hX (q := 22) cl_X6 18 (by decide) w_fl_X6_46 (by omega) c0 rfl rfl dX6_readsKind_19 ?_
  refine ca_iconst hX (q := 23) k_iconst_0 rfl dX6_readsKind_22 ?_
  refine ca_iaN hX (q := 24) (k := 0) (by omega) c13 (by decide) rfl (by omega) rfl dX6_readsKind_23 ?_
  have h120 : upB M 12 0 (klI (hrI (M 4) L pl)) 12 0 = (klI (hrI (M 4) L pl)) := by rw [upB_s, upd_s]
  rw [h120]
  refine ca_if_ge hX (q := 27) 31 rfl rfl dX6_readsKind_24 (fun b24 => ?_) (fun b24 => ?_)
  · have hq : ¬ (klI (hrI (M 4) L pl)) = -9 := fun z => by rw [z] at b24; exact absurd b24 (by decide)
    refine ca_iconst hX (q := 32) k_iconst_1 rfl dX6_readsKind_31 ?_
    refine ca_iadd hX (q := 33) rfl dX6_readsKind_32 ?_
    refine ca_puti hX (q := 36) (fs' := [_, _, _, _, _, _, _, _, _, _, _, _, _, _, _, _, _, _, _, _]) cl_X6 17 (by decide) w_fl_X6_121 rfl rfl (by omega) hN c0 (Nat.le_of_ble_eq_true rfl) rfl rfl dX6_readsKind_33 (fun g hE hF => ?_)
    have hm := md_s5 hm hE hF
    obtain ⟨c0, c1, c2, c3, c4, c5, c6, c7, c8, c9, c10, c11, c12, c13⟩ := id hm
    have hfr := frG.tr hfr (fun j hj => hF j (by omega))
    refine ca_aload_n hX (q := 37) 0 rfl rfl rfl dX6_readsKind_36 ?_
    refine ca_getf hX (q := 40) cl_X6 18 (by decide) w_fl_X6_46 (by omega) c0 rfl rfl dX6_readsKind_37 ?_
    refine ca_iconst hX (q := 41) k_iconst_0 rfl dX6_readsKind_40 ?_
    refine ca_iaN hX (q := 42) (k := 0) (by omega) c13 (by decide) rfl (by omega) rfl dX6_readsKind_41 ?_
    rw [show ∀ z, upB (upB M 12 0 (klI (hrI (M 4) L pl))) 13 5 z 12 0 = (klI (hrI (M 4) L pl)) from fun z => by rw [upB_n _ _ _ (by omega), upB_s, upd_s]]
    refine ca_if_lt hX (q := 45) 49 rfl rfl dX6_readsKind_42 (fun b42 => ?_) (fun b42 => ?_)
    · have hq2 := b42
      refine ca_iconst hX (q := 50) k_iconst_0 rfl dX6_readsKind_49 ?_
      refine ca_zret hX rfl rfl rfl rfl rfl dX6_readsKind_50 ?_
      exact absurd b42 (Int32.not_lt.mpr b24)
    · refine ca_iconst hX (q := 46) k_iconst_1 rfl dX6_readsKind_45 ?_
      refine ca_goto hX 50 rfl dX6_readsKind_46 ?_
      refine ca_zret hX rfl rfl rfl rfl rfl dX6_readsKind_50 ?_
      have e5 : upB M 12 0 (klI (hrI (M 4) L pl)) 13 5 + 1 = nI (pl + (if (klI (hrI (M 4) L pl)) = -9 then 0 else 1)) := by rw [if_neg hq, upB_n _ _ _ (by omega), h5]; exact nI_add _ 1
      rw [e5] at hm
      exact ⟨_, by rw [if_neg hq], hm, (hrd.nu _ _).pl _, hfr, by rw [upB_s, upd_s], by rw [upB_n _ _ _ (by omega), upB_s, upd_s], fun j hj => by rw [upB_n _ _ _ (by omega), upB_s, upd_n _ _ hj]⟩
  · have hq : (klI (hrI (M 4) L pl)) = -9 := (kl_two _).resolve_right (fun ⟨k, hk, z⟩ => b24 (by rw [z]; exact Int32.not_lt.mp (nI_nn (by omega))))
    refine ca_iconst hX (q := 28) k_iconst_0 rfl dX6_readsKind_27 ?_
    refine ca_goto hX 32 rfl dX6_readsKind_28 ?_
    refine ca_iadd hX (q := 33) rfl dX6_readsKind_32 ?_
    refine ca_puti hX (q := 36) (fs' := [_, _, _, _, _, _, _, _, _, _, _, _, _, _, _, _, _, _, _, _]) cl_X6 17 (by decide) w_fl_X6_121 rfl rfl (by omega) hN c0 (Nat.le_of_ble_eq_true rfl) rfl rfl dX6_readsKind_33 (fun g hE hF => ?_)
    have hm := md_s5 hm hE hF
    obtain ⟨c0, c1, c2, c3, c4, c5, c6, c7, c8, c9, c10, c11, c12, c13⟩ := id hm
    have hfr := frG.tr hfr (fun j hj => hF j (by omega))
    refine ca_aload_n hX (q := 37) 0 rfl rfl rfl dX6_readsKind_36 ?_
    refine ca_getf hX (q := 40) cl_X6 18 (by decide) w_fl_X6_46 (by omega) c0 rfl rfl dX6_readsKind_37 ?_
    refine ca_iconst hX (q := 41) k_iconst_0 rfl dX6_readsKind_40 ?_
    refine ca_iaN hX (q := 42) (k := 0) (by omega) c13 (by decide) rfl (by omega) rfl dX6_readsKind_41 ?_
    rw [show ∀ z, upB (upB M 12 0 (klI (hrI (M 4) L pl))) 13 5 z 12 0 = (klI (hrI (M 4) L pl)) from fun z => by rw [upB_n _ _ _ (by omega), upB_s, upd_s]]
    refine ca_if_lt hX (q := 45) 49 rfl rfl dX6_readsKind_42 (fun b42 => ?_) (fun b42 => ?_)
    · have hq2 := b42
      refine ca_iconst hX (q := 50) k_iconst_0 rfl dX6_readsKind_49 ?_
      refine ca_zret hX rfl rfl rfl rfl rfl dX6_readsKind_50 ?_
      have e5 : upB M 12 0 (klI (hrI (M 4) L pl)) 13 5 + 0 = nI (pl + (if (klI (hrI (M 4) L pl)) = -9 then 0 else 1)) := by rw [if_pos hq, upB_n _ _ _ (by omega), h5]; exact nI_add _ 0
      rw [e5] at hm
      exact ⟨_, by rw [if_pos hq], hm, (hrd.nu _ _).pl _, hfr, by rw [upB_s, upd_s], by rw [upB_n _ _ _ (by omega), upB_s, upd_s], fun j hj => by rw [upB_n _ _ _ (by omega), upB_s, upd_n _ _ hj]⟩
    · refine ca_iconst hX (q := 46) k_iconst_1 rfl dX6_readsKind_45 ?_
      refine ca_goto hX 50 rfl dX6_readsKind_46 ?_
      refine ca_zret hX rfl rfl rfl rfl rfl dX6_readsKind_50 ?_
      exact absurd (Int32.not_lt.mp b42) b24

