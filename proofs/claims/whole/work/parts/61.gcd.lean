/-! slip of both -/
abbrev AnL : Type := Int64 × (Nat → Nat → Int32)
def noL (M : Nat → Nat → Int32) (k : Nat) : AnL := (4000000000000000000 - (-(nI k)).toInt64, upB M 6 k (M 6 k + 1))
def clPl (g : ca_G) (a : AnL) : ca_Post := fun rr g' => rr = some (.long a.1) ∧ frG g g' 0 31 ∧ ∃ t B, clX g' a.2 t B
def rePl (o : Nat) (g : ca_G) (a : AnL) : ca_Post := fun rr g' => rr = some (.long a.1) ∧ frG g g' o (o + 14) ∧ ∃ M', mdG g' o M' ∧ keM a.2 M'
theorem cl_endl {g g' : ca_G} {a : AnL} {v : Int64} {M : Nat → Nat → Int32} {t : Nat → Int32} {B : Nat → Nat → Int32} (e : a = (v, M)) (f : frG g g' 0 31) (h : clX g' M t B) : clPl g a (some (.long v)) g' := by
  rw [e]; exact ⟨rfl, f, t, B, h⟩
theorem re_endl {o : Nat} {g g' : ca_G} {a : AnL} {v : Int64} {M M' : Nat → Nat → Int32} (e : a = (v, M)) (f : frG g g' o (o + 14)) (h : mdG g' o M') (hk : keM M M') : rePl o g a (some (.long v)) g' := by
  rw [e]; exact ⟨rfl, f, M', h, hk⟩
def pcN (s : Nat) : Nat := (bcI (nI s)).toNatClampNeg
theorem pc_ok : ∀ n, n ≤ 7 → ∀ s, s < 2 ^ n → bcI (nI s) = nI (pcN s) ∧ pcN s ≤ n := by decide +kernel
theorem bits_e2 : ∀ n, n < 128 → smI (fun k => (nI n >>> (nI k &&& 31)) &&& 1) 10 = bcI (nI n) := by decide +kernel
theorem shl7 : ∀ n, n ≤ 7 → (1 : Int32) <<< (nI n &&& 31) = nI (2 ^ n) ∧ 2 ^ n ≤ 128 := by decide
def abN (h : Nat → Int32) (P r n q : Nat) (v : Int32) : Nat → Nat
  | 0 => 0
  | s + 1 => abN h P r n q v s + (if v < wS h r (alT 0 P).1 (alT 0 P).2 (nI s) then 0 else (q - 1) ^ (n - pcN s))
theorem rg_ok {x a b : Int32} {lo hi : Nat} (ea : a = nI lo) (eb : b = nI hi) (hl : lo < 2 ^ 31) (hh : hi < 2 ^ 31) (h1 : a ≤ x) (h2 : x ≤ b) : ∃ k, lo ≤ k ∧ k ≤ hi ∧ x = nI k := by
  rw [ea, Int32.le_iff_toInt_le, nI_toInt (by omega)] at h1
  rw [eb, Int32.le_iff_toInt_le, nI_toInt (by omega)] at h2
  refine ⟨x.toInt.toNat, by omega, by omega, Int32.toInt_inj.mp ?_⟩
  rw [nI_toInt (by omega)]; omega
theorem pw_le : ∀ q, q ≤ 20 → ∀ n, n ≤ 7 → q ^ n ≤ 1280000000 := by decide +kernel
theorem pw_19 : ∀ q, q ≤ 20 → ∀ n, n ≤ 7 → (q - 1) ^ n ≤ 893871739 := by decide +kernel
def slA (M : Nat → Nat → Int32) (P : Nat) (x n t v p : Int32) : AnL := if rmB x = 0 then noL M 1 else if n < 0 then noL M 4 else if v < 0 then noL M 4 else if t < 2 then noL M 4 else if 7 < n then noL M 6 else if 20 < t then noL M 6 else if 999 < v then noL M 6 else if b01 p = 0 then noL M 2 else (lN (if p = 0 then abN (M 0) P x.toNatClampNeg n.toNatClampNeg t.toNatClampNeg v (2 ^ n.toNatClampNeg) / Nat.gcd (abN (M 0) P x.toNatClampNeg n.toNatClampNeg t.toNatClampNeg v (2 ^ n.toNatClampNeg)) (t.toNatClampNeg ^ n.toNatClampNeg) else t.toNatClampNeg ^ n.toNatClampNeg / Nat.gcd (abN (M 0) P x.toNatClampNeg n.toNatClampNeg t.toNatClampNeg v (2 ^ n.toNatClampNeg)) (t.toNatClampNeg ^ n.toNatClampNeg)), M)
theorem ab_le (h : Nat → Int32) (P r n q : Nat) (v : Int32) (hq : q ≤ 20) (hn : n ≤ 7) : ∀ s, abN h P r n q v s ≤ s * 893871739
  | 0 => Nat.le_refl _
  | s + 1 => by
    have ih := ab_le h P r n q v hq hn s
    have := pw_19 q hq (n - pcN s) (by omega)
    have h1 : (if v < wS h r (alT 0 P).1 (alT 0 P).2 (nI s) then 0 else (q - 1) ^ (n - pcN s)) ≤ 893871739 := by
      split
      · exact Nat.zero_le _
      · exact this
    rw [abN, Nat.succ_mul]
    exact Nat.add_le_add ih h1
theorem ab_40 (h : Nat → Int32) (P r n q : Nat) (v : Int32) (hq : q ≤ 20) (hn : n ≤ 7) {s : Nat} (hs : s ≤ 128) : abN h P r n q v s < 2 ^ 40 :=
  Nat.lt_of_le_of_lt (Nat.le_trans (ab_le h P r n q v hq hn s) (Nat.mul_le_mul_right _ hs)) (by decide)
theorem pw_31 {q n : Nat} (hq : q ≤ 20) (hn : n ≤ 7) (h2 : 2 ≤ q) : 0 < q ^ n ∧ q ^ n < 2 ^ 31 :=
  ⟨Nat.pow_pos (by omega), Nat.lt_of_le_of_lt (pw_le q hq n hn) (by decide)⟩

set_option maxRecDepth 100000 in
set_option maxHeartbeats 4000000 in
theorem c_X5_power (l : Launch) (N : Nat) (g : ca_G) (q k : Nat) (hq : q < 1000) (hk : k < 1000) : ca_Ct l yX5_power cX5_power 5 (some .long) 0 0 0 N 1000000 [.int (nI q), .int (nI k)] g (ca_pl (lN (q ^ k)) g) := by
  refine ca_intro (by decide) (Nat.le_of_ble_eq_true rfl) (fun X hX hN => ?_)
  show X 0 [_, _, none, none, none] [] N 1000000 g
  have loop : ∀ (n i : Nat), i + n = k → X 5 [some (.int (nI q)), some (.int (nI k)), some (.long (lN (q ^ i))), none, some (.int (nI i))] [] N 1000000 g := by
    intro n
    induction n with
    | zero =>
      intro i  hi 
      have hib : i = k := by omega
      rw [hib]
      refine ca_iload hX (q := 7) rfl rfl dX5_power_5 ?_
      refine ca_iload_n hX (q := 8) 1 rfl rfl rfl dX5_power_7 ?_
      refine ca_icmp_ge hX (q := 11) 22 rfl rfl dX5_power_8 (fun _ => ?_) (fun z => absurd (nI_le (Nat.le_refl _) (by omega)) z)
      refine ca_lload_n hX (q := 23) 2 rfl rfl rfl dX5_power_22 ?_
      refine ca_lret hX rfl rfl rfl rfl dX5_power_23 ?_
      exact ⟨rfl, rfl⟩
    | succ n ih =>
      intro i  hi 
      refine ca_iload hX (q := 7) rfl rfl dX5_power_5 ?_
      refine ca_iload_n hX (q := 8) 1 rfl rfl rfl dX5_power_7 ?_
      refine ca_icmp_ge hX (q := 11) 22 rfl rfl dX5_power_8 (fun z => absurd z (nI_ge (a := i) (b := k) (by omega) (by omega))) (fun _ => ?_)
      refine ca_lload_n hX (q := 12) 2 rfl rfl rfl dX5_power_11 ?_
      refine ca_iload_n hX (q := 13) 0 rfl rfl rfl dX5_power_12 ?_
      refine ca_i2l hX (q := 14) rfl dX5_power_13 ?_
      refine ca_lmul hX (q := 15) rfl dX5_power_14 ?_
      refine ca_lstore_n hX (q := 16) 2 rfl (ls' := [_, _, _, _, _]) (Nat.le_of_ble_eq_true rfl) (Nat.le_of_ble_eq_true rfl) (Or.inr rfl) rfl rfl dX5_power_15 ?_
      refine ca_iinc hX (q := 19) (ls' := [_, _, _, _, _]) k_iconst_1 rfl (Nat.le_of_ble_eq_true rfl) (Or.inr rfl) rfl rfl dX5_power_16 ?_
      refine ca_goto hX 5 rfl dX5_power_19 ?_
      rw [nI_1, nI_l (show q < 2 ^ 31 by omega), lN_mul, ← Nat.pow_succ]
      exact ih (i + 1) (by omega)
  refine ca_lconst hX (q := 1) k_lconst_1 rfl dX5_power_0 ?_
  refine ca_lstore_n hX (q := 2) 2 rfl (ls' := [_, _, _, _, _]) (Nat.le_of_ble_eq_true rfl) (Nat.le_of_ble_eq_true rfl) (Or.inr rfl) rfl rfl dX5_power_1 ?_
  refine ca_iconst hX (q := 3) k_iconst_0 rfl dX5_power_2 ?_
  refine ca_istore hX (q := 5) (ls' := [_, _, _, _, _]) (Nat.le_of_ble_eq_true rfl) (Nat.le_of_ble_eq_true rfl) (Or.inr rfl) rfl rfl dX5_power_3 ?_
  exact loop k 0 (by omega)

theorem eu_half {x y m : Nat} (h : y ≤ x) (hy0 : 0 < y) (hm : x * y < 2 ^ (m + 1)) : y * (x % y) < 2 ^ m := by
  have h2 : 2 * (x % y) ≤ x := by
    have := Nat.mod_add_div x y
    have hl := Nat.mod_lt x hy0
    have h1 : 1 ≤ x / y := Nat.div_pos h hy0
    have : y * 1 ≤ y * (x / y) := Nat.mul_le_mul_left y h1
    omega
  have h3 : y * (2 * (x % y)) ≤ y * x := Nat.mul_le_mul_left y h2
  have h4 : y * (2 * (x % y)) = 2 * (y * (x % y)) := by rw [Nat.mul_left_comm]
  have h5 : y * x = x * y := Nat.mul_comm y x
  rw [Nat.pow_succ] at hm
  omega
theorem eu_gcd (x y : Nat) : Nat.gcd y (x % y) = Nat.gcd x y := by
  rw [Nat.gcd_comm y (x % y), ← Nat.gcd_rec, Nat.gcd_comm]

set_option maxRecDepth 100000 in
set_option maxHeartbeats 4000000 in
theorem c_X5_commonDivisor (l : Launch) (N : Nat) (g : ca_G) (A D : Nat) (hA : A < 2 ^ 40) (hD0 : 0 < D) (hD : D < 2 ^ 31) : ca_Ct l yX5_commonDivisor cX5_commonDivisor 11 (some .long) 0 0 0 N 1000000 [.long (lN A), .long (lN D)] g (ca_pl (lN (Nat.gcd A D)) g) := by
  refine ca_intro (by decide) (Nat.le_of_ble_eq_true rfl) (fun X hX hN => ?_)
  show X 0 [_, none, _, none, none, none, none, none, none, none, none] [] N 1000000 g
  have loop : ∀ (m i x0 y0 : Nat), y0 ≤ x0 → x0 < 2 ^ 31 → x0 * y0 < 2 ^ m → m + i ≤ 199 → Nat.gcd x0 y0 = Nat.gcd A D → X 9 [some (.long (lN A)), none, some (.long (lN D)), none, some (.long (lN x0)), none, some (.long (lN y0)), none, some (.int (nI i)), none, none] [] N 1000000 g := by
    intro m
    induction m with
    | zero =>
      intro i x0 y0 hyx hx31 hm2 hmi hg
      have hy : y0 = 0 := by
        rcases Nat.eq_zero_or_pos y0 with z | z
        · exact z
        · have : 1 * 1 ≤ x0 * y0 := Nat.mul_le_mul (by omega) z
          omega
      refine ca_iload hX (q := 11) rfl rfl dX5_commonDivisor_9 ?_
      refine ca_sipush hX (q := 14) k_sipush_200 rfl dX5_commonDivisor_11 ?_
      refine ca_icmp_ge hX (q := 17) 45 rfl rfl dX5_commonDivisor_14 (fun z => absurd z (nI_ge (a := i) (b := 200) (by omega) (by omega))) (fun _ => ?_)
      refine ca_lload hX (q := 19) rfl rfl dX5_commonDivisor_17 ?_
      refine ca_lconst hX (q := 20) k_lconst_0 rfl dX5_commonDivisor_19 ?_
      refine ca_lcmp hX (q := 21) rfl dX5_commonDivisor_20 ?_
      refine ca_if_eq hX (q := 24) 45 rfl rfl dX5_commonDivisor_21 (fun _ => ?_) (fun z => absurd (by rw [hy]; decide) z)
      refine ca_lload hX (q := 47) rfl rfl dX5_commonDivisor_45 ?_
      refine ca_lret hX rfl rfl rfl rfl dX5_commonDivisor_47 ?_
      exact ⟨by rw [← hg, hy, Nat.gcd_zero_right], rfl⟩
    | succ m ih =>
      intro i x0 y0 hyx hx31 hm2 hmi hg
      by_cases hy : y0 = 0
      · refine ca_iload hX (q := 11) rfl rfl dX5_commonDivisor_9 ?_
        refine ca_sipush hX (q := 14) k_sipush_200 rfl dX5_commonDivisor_11 ?_
        refine ca_icmp_ge hX (q := 17) 45 rfl rfl dX5_commonDivisor_14 (fun z => absurd z (nI_ge (a := i) (b := 200) (by omega) (by omega))) (fun _ => ?_)
        refine ca_lload hX (q := 19) rfl rfl dX5_commonDivisor_17 ?_
        refine ca_lconst hX (q := 20) k_lconst_0 rfl dX5_commonDivisor_19 ?_
        refine ca_lcmp hX (q := 21) rfl dX5_commonDivisor_20 ?_
        refine ca_if_eq hX (q := 24) 45 rfl rfl dX5_commonDivisor_21 (fun _ => ?_) (fun z => absurd (by rw [hy]; decide) z)
        refine ca_lload hX (q := 47) rfl rfl dX5_commonDivisor_45 ?_
        refine ca_lret hX rfl rfl rfl rfl dX5_commonDivisor_47 ?_
        exact ⟨by rw [← hg, hy, Nat.gcd_zero_right], rfl⟩
      · refine ca_iload hX (q := 11) rfl rfl dX5_commonDivisor_9 ?_
        refine ca_sipush hX (q := 14) k_sipush_200 rfl dX5_commonDivisor_11 ?_
        refine ca_icmp_ge hX (q := 17) 45 rfl rfl dX5_commonDivisor_14 (fun z => absurd z (nI_ge (a := i) (b := 200) (by omega) (by omega))) (fun _ => ?_)
        refine ca_lload hX (q := 19) rfl rfl dX5_commonDivisor_17 ?_
        refine ca_lconst hX (q := 20) k_lconst_0 rfl dX5_commonDivisor_19 ?_
        refine ca_lcmp hX (q := 21) rfl dX5_commonDivisor_20 ?_
        refine ca_if_eq hX (q := 24) 45 rfl rfl dX5_commonDivisor_21 (fun z => absurd z (fun z => hy ((pk_lEQ (a := y0) (b := 0) (by omega) (by omega)).mp ((lg_cmp_eq _ _).mp z)))) (fun _ => ?_)
        refine ca_lload hX (q := 26) rfl rfl dX5_commonDivisor_24 ?_
        refine ca_lload hX (q := 28) rfl rfl dX5_commonDivisor_26 ?_
        refine ca_lrem hX (q := 29) (fun z => hy ((pk_lEQ (a := y0) (b := 0) (by omega) (by omega)).mp z)) rfl dX5_commonDivisor_28 ?_
        refine ca_lstore hX (q := 31) (ls' := [_, _, _, _, _, _, _, _, _, _, _]) (Nat.le_of_ble_eq_true rfl) (Nat.le_of_ble_eq_true rfl) (Or.inr rfl) rfl rfl dX5_commonDivisor_29 ?_
        refine ca_lload hX (q := 33) rfl rfl dX5_commonDivisor_31 ?_
        refine ca_lstore hX (q := 35) (ls' := [_, _, _, _, _, _, _, _, _, _, _]) (Nat.le_of_ble_eq_true rfl) (Nat.le_of_ble_eq_true rfl) (Or.inr rfl) rfl rfl dX5_commonDivisor_33 ?_
        refine ca_lload hX (q := 37) rfl rfl dX5_commonDivisor_35 ?_
        refine ca_lstore hX (q := 39) (ls' := [_, _, _, _, _, _, _, _, _, _, _]) (Nat.le_of_ble_eq_true rfl) (Nat.le_of_ble_eq_true rfl) (Or.inr rfl) rfl rfl dX5_commonDivisor_37 ?_
        refine ca_iinc hX (q := 42) (ls' := [_, _, _, _, _, _, _, _, _, _, _]) k_iconst_1 rfl (Nat.le_of_ble_eq_true rfl) (Or.inr rfl) rfl rfl dX5_commonDivisor_39 ?_
        refine ca_goto hX 9 rfl dX5_commonDivisor_42 ?_
        rw [pk_lRem (by omega) (by omega) (by omega), show nI i + 1 = nI (i + 1) from nI_add i 1]
        have hml := Nat.mod_lt x0 (show 0 < y0 by omega)
        exact ca_drop hX (ca_le_s rfl (ca_le_n (ca_le_s rfl (ca_le_n (ca_le_s rfl (ca_le_n (ca_le_s rfl (ca_le_n (ca_le_s rfl (ca_le_n (ca_le_n ca_le_0))))))))))) (ih (i + 1) y0 (x0 % y0) (by omega) (by omega) (eu_half hyx (by omega) hm2) (by omega) (by rw [eu_gcd]; exact hg))
  refine ca_lload_n hX (q := 1) 0 rfl rfl rfl dX5_commonDivisor_0 ?_
  refine ca_lstore hX (q := 3) (ls' := [_, _, _, _, _, _, _, _, _, _, _]) (Nat.le_of_ble_eq_true rfl) (Nat.le_of_ble_eq_true rfl) (Or.inr rfl) rfl rfl dX5_commonDivisor_1 ?_
  refine ca_lload_n hX (q := 4) 2 rfl rfl rfl dX5_commonDivisor_3 ?_
  refine ca_lstore hX (q := 6) (ls' := [_, _, _, _, _, _, _, _, _, _, _]) (Nat.le_of_ble_eq_true rfl) (Nat.le_of_ble_eq_true rfl) (Or.inr rfl) rfl rfl dX5_commonDivisor_4 ?_
  refine ca_iconst hX (q := 7) k_iconst_0 rfl dX5_commonDivisor_6 ?_
  refine ca_istore hX (q := 9) (ls' := [_, _, _, _, _, _, _, _, _, _, _]) (Nat.le_of_ble_eq_true rfl) (Nat.le_of_ble_eq_true rfl) (Or.inr rfl) rfl rfl dX5_commonDivisor_7 ?_
  refine ca_iload hX (q := 11) rfl rfl dX5_commonDivisor_9 ?_
  refine ca_sipush hX (q := 14) k_sipush_200 rfl dX5_commonDivisor_11 ?_
  refine ca_icmp_ge hX (q := 17) 45 rfl rfl dX5_commonDivisor_14 (fun z => absurd z (by decide)) (fun _ => ?_)
  refine ca_lload hX (q := 19) rfl rfl dX5_commonDivisor_17 ?_
  refine ca_lconst hX (q := 20) k_lconst_0 rfl dX5_commonDivisor_19 ?_
  refine ca_lcmp hX (q := 21) rfl dX5_commonDivisor_20 ?_
  refine ca_if_eq hX (q := 24) 45 rfl rfl dX5_commonDivisor_21 (fun z => absurd z (fun z => absurd ((pk_lEQ (a := D) (b := 0) (by omega) (by omega)).mp ((lg_cmp_eq _ _).mp z)) (by omega))) (fun _ => ?_)
  refine ca_lload hX (q := 26) rfl rfl dX5_commonDivisor_24 ?_
  refine ca_lload hX (q := 28) rfl rfl dX5_commonDivisor_26 ?_
  refine ca_lrem hX (q := 29) (fun z => absurd ((pk_lEQ (a := D) (b := 0) (by omega) (by omega)).mp z) (by omega)) rfl dX5_commonDivisor_28 ?_
  refine ca_lstore hX (q := 31) (ls' := [_, _, _, _, _, _, _, _, _, _, _]) (Nat.le_of_ble_eq_true rfl) (Nat.le_of_ble_eq_true rfl) (Or.inr rfl) rfl rfl dX5_commonDivisor_29 ?_
  refine ca_lload hX (q := 33) rfl rfl dX5_commonDivisor_31 ?_
  refine ca_lstore hX (q := 35) (ls' := [_, _, _, _, _, _, _, _, _, _, _]) (Nat.le_of_ble_eq_true rfl) (Nat.le_of_ble_eq_true rfl) (Or.inr rfl) rfl rfl dX5_commonDivisor_33 ?_
  refine ca_lload hX (q := 37) rfl rfl dX5_commonDivisor_35 ?_
  refine ca_lstore hX (q := 39) (ls' := [_, _, _, _, _, _, _, _, _, _, _]) (Nat.le_of_ble_eq_true rfl) (Nat.le_of_ble_eq_true rfl) (Or.inr rfl) rfl rfl dX5_commonDivisor_37 ?_
  refine ca_iinc hX (q := 42) (ls' := [_, _, _, _, _, _, _, _, _, _, _]) k_iconst_1 rfl (Nat.le_of_ble_eq_true rfl) (Or.inr rfl) rfl rfl dX5_commonDivisor_39 ?_
  refine ca_goto hX 9 rfl dX5_commonDivisor_42 ?_
  rw [pk_lRem (by omega) (by omega) (by omega)]
  have hml := Nat.mod_lt A hD0
  exact ca_drop hX (ca_le_s rfl (ca_le_n (ca_le_s rfl (ca_le_n (ca_le_s rfl (ca_le_n (ca_le_s rfl (ca_le_n (ca_le_s rfl (ca_le_n (ca_le_n ca_le_0))))))))))) (loop 62 1 D (A % D) (by omega) (by omega) (Nat.lt_of_le_of_lt (Nat.mul_le_mul (show D ≤ 2 ^ 31 - 1 by omega) (show A % D ≤ 2 ^ 31 - 1 by omega)) (by decide)) (by omega) (eu_gcd A D))

set_option maxRecDepth 100000 in
set_option maxHeartbeats 4000000 in
theorem c_X6_gcd (l : Launch) (N : Nat) (g : ca_G) (A D : Nat) (hA : A < 2 ^ 40) (hD : D < 2 ^ 40) : ca_Ct l yX6_gcd cX6_gcd 10 (some .long) 0 0 0 N 1000000 [.long (lN A), .long (lN D)] g (ca_pl (lN (Nat.gcd A D)) g) := by
  refine ca_intro (by decide) (Nat.le_of_ble_eq_true rfl) (fun X hX hN => ?_)
  show X 0 [_, none, _, none, none, none, none, none, none, none] [] N 1000000 g
  have loop : ∀ (m x0 y0 : Nat), y0 ≤ m → x0 < 2 ^ 40 → y0 < 2 ^ 40 → Nat.gcd x0 y0 = Nat.gcd A D → X 6 [some (.long (lN A)), none, some (.long (lN D)), none, some (.long (lN x0)), none, some (.long (lN y0)), none, none, none] [] N 1000000 g := by
    intro m
    induction m with
    | zero =>
      intro x0 y0 hym hx31 hy31 hg
      have hy : y0 = 0 := by omega
      refine ca_lload hX (q := 8) rfl rfl dX6_gcd_6 ?_
      refine ca_lconst hX (q := 9) k_lconst_0 rfl dX6_gcd_8 ?_
      refine ca_lcmp hX (q := 10) rfl dX6_gcd_9 ?_
      refine ca_if_eq hX (q := 13) 31 rfl rfl dX6_gcd_10 (fun _ => ?_) (fun z => absurd (by rw [hy]; decide) z)
      refine ca_lload hX (q := 33) rfl rfl dX6_gcd_31 ?_
      refine ca_lret hX rfl rfl rfl rfl dX6_gcd_33 ?_
      exact ⟨by rw [← hg, hy, Nat.gcd_zero_right], rfl⟩
    | succ m ih =>
      intro x0 y0 hym hx31 hy31 hg
      by_cases hy : y0 = 0
      · refine ca_lload hX (q := 8) rfl rfl dX6_gcd_6 ?_
        refine ca_lconst hX (q := 9) k_lconst_0 rfl dX6_gcd_8 ?_
        refine ca_lcmp hX (q := 10) rfl dX6_gcd_9 ?_
        refine ca_if_eq hX (q := 13) 31 rfl rfl dX6_gcd_10 (fun _ => ?_) (fun z => absurd (by rw [hy]; decide) z)
        refine ca_lload hX (q := 33) rfl rfl dX6_gcd_31 ?_
        refine ca_lret hX rfl rfl rfl rfl dX6_gcd_33 ?_
        exact ⟨by rw [← hg, hy, Nat.gcd_zero_right], rfl⟩
      · refine ca_lload hX (q := 8) rfl rfl dX6_gcd_6 ?_
        refine ca_lconst hX (q := 9) k_lconst_0 rfl dX6_gcd_8 ?_
        refine ca_lcmp hX (q := 10) rfl dX6_gcd_9 ?_
        refine ca_if_eq hX (q := 13) 31 rfl rfl dX6_gcd_10 (fun z => absurd z (fun z => hy ((pk_lEQ (a := y0) (b := 0) (by omega) (by omega)).mp ((lg_cmp_eq _ _).mp z)))) (fun _ => ?_)
        refine ca_lload hX (q := 15) rfl rfl dX6_gcd_13 ?_
        refine ca_lload hX (q := 17) rfl rfl dX6_gcd_15 ?_
        refine ca_lrem hX (q := 18) (fun z => hy ((pk_lEQ (a := y0) (b := 0) (by omega) (by omega)).mp z)) rfl dX6_gcd_17 ?_
        refine ca_lstore hX (q := 20) (ls' := [_, _, _, _, _, _, _, _, _, _]) (Nat.le_of_ble_eq_true rfl) (Nat.le_of_ble_eq_true rfl) (Or.inr rfl) rfl rfl dX6_gcd_18 ?_
        refine ca_lload hX (q := 22) rfl rfl dX6_gcd_20 ?_
        refine ca_lstore hX (q := 24) (ls' := [_, _, _, _, _, _, _, _, _, _]) (Nat.le_of_ble_eq_true rfl) (Nat.le_of_ble_eq_true rfl) (Or.inr rfl) rfl rfl dX6_gcd_22 ?_
        refine ca_lload hX (q := 26) rfl rfl dX6_gcd_24 ?_
        refine ca_lstore hX (q := 28) (ls' := [_, _, _, _, _, _, _, _, _, _]) (Nat.le_of_ble_eq_true rfl) (Nat.le_of_ble_eq_true rfl) (Or.inr rfl) rfl rfl dX6_gcd_26 ?_
        refine ca_goto hX 6 rfl dX6_gcd_28 ?_
        rw [pk_lRem (by omega) (by omega) (by omega)]
        have hml := Nat.mod_lt x0 (show 0 < y0 by omega)
        exact ca_drop hX (ca_le_s rfl (ca_le_n (ca_le_s rfl (ca_le_n (ca_le_s rfl (ca_le_n (ca_le_s rfl (ca_le_n (ca_le_n (ca_le_n ca_le_0)))))))))) (ih y0 (x0 % y0) (by omega) (by omega) (by omega) (by rw [eu_gcd]; exact hg))
  refine ca_lload_n hX (q := 1) 0 rfl rfl rfl dX6_gcd_0 ?_
  refine ca_lstore hX (q := 3) (ls' := [_, _, _, _, _, _, _, _, _, _]) (Nat.le_of_ble_eq_true rfl) (Nat.le_of_ble_eq_true rfl) (Or.inr rfl) rfl rfl dX6_gcd_1 ?_
  refine ca_lload_n hX (q := 4) 2 rfl rfl rfl dX6_gcd_3 ?_
  refine ca_lstore hX (q := 6) (ls' := [_, _, _, _, _, _, _, _, _, _]) (Nat.le_of_ble_eq_true rfl) (Nat.le_of_ble_eq_true rfl) (Or.inr rfl) rfl rfl dX6_gcd_4 ?_
  exact loop D A D (by omega) hA hD rfl

set_option maxRecDepth 100000 in
set_option maxHeartbeats 4000000 in
theorem c_X6_partOf (l : Launch) (N : Nat) (g : ca_G) (A D : Nat) (hA : A < 2 ^ 40) (hD0 : 0 < D) (hD : D < 2 ^ 31) (p : Int32) (hp : ¬ b01 p = 0) : ca_Ct l yX6_partOf cX6_partOf 5 (some .long) 1 0 0 N 1000000 [.long (lN A), .long (lN D), .int p] g (ca_pl (lN (if p = 0 then A / (Nat.gcd A D) else D / (Nat.gcd A D))) g) := by
  refine ca_intro (by decide) (Nat.le_of_ble_eq_true rfl) (fun X hX hN => ?_)
  show X 0 [_, none, _, none, _] [] N 1000000 g
  refine ca_lload_n hX (q := 1) 0 rfl rfl rfl dX6_partOf_0 ?_
  refine ca_lconst hX (q := 2) k_lconst_0 rfl dX6_partOf_1 ?_
  refine ca_lcmp hX (q := 3) rfl dX6_partOf_2 ?_
  refine ca_if_ne hX (q := 6) 10 rfl rfl dX6_partOf_3 (fun b3 => ?_) (fun b3 => ?_)
  · have hA0 : A ≠ 0 := fun z => b3 ((lg_cmp_eq _ _).mpr (by rw [z]; rfl))
    have hG : 0 < Nat.gcd A D := Nat.gcd_pos_of_pos_right _ hD0
    have hGl := Nat.gcd_le_right A hD0
    refine ca_iload hX (q := 12) rfl rfl dX6_partOf_10 ?_
    refine ca_if_ne hX (q := 15) 19 rfl rfl dX6_partOf_12 (fun b12 => ?_) (fun b12 => ?_)
    · refine ca_lload_n hX (q := 20) 2 rfl rfl rfl dX6_partOf_19 ?_
      refine ca_lload_n hX (q := 21) 0 rfl rfl rfl dX6_partOf_20 ?_
      refine ca_lload_n hX (q := 22) 2 rfl rfl rfl dX6_partOf_21 ?_
      refine ca_cSl hX (q := 25) y_X6_gcd w_ml_X6_178 hN (c_X6_gcd l N g A D hA (by omega)) (by decide) rfl (Nat.le_of_ble_eq_true rfl) rfl dX6_partOf_22 rfl ?_
      refine ca_ldiv hX (q := 26) (fun z => absurd ((pk_lEQ (a := Nat.gcd A D) (b := 0) (by omega) (by omega)).mp z) (by omega)) rfl dX6_partOf_25 ?_
      refine ca_lret hX rfl rfl rfl rfl dX6_partOf_26 ?_
      exact ⟨by first | rw [if_neg b12, pk_lDiv (by omega) hG (by omega)] | rw [if_pos b12, pk_lDiv (by omega) hG (by omega)], rfl⟩
    · refine ca_lload_n hX (q := 16) 0 rfl rfl rfl dX6_partOf_15 ?_
      refine ca_goto hX 20 rfl dX6_partOf_16 ?_
      refine ca_lload_n hX (q := 21) 0 rfl rfl rfl dX6_partOf_20 ?_
      refine ca_lload_n hX (q := 22) 2 rfl rfl rfl dX6_partOf_21 ?_
      refine ca_cSl hX (q := 25) y_X6_gcd w_ml_X6_178 hN (c_X6_gcd l N g A D hA (by omega)) (by decide) rfl (Nat.le_of_ble_eq_true rfl) rfl dX6_partOf_22 rfl ?_
      refine ca_ldiv hX (q := 26) (fun z => absurd ((pk_lEQ (a := Nat.gcd A D) (b := 0) (by omega) (by omega)).mp z) (by omega)) rfl dX6_partOf_25 ?_
      refine ca_lret hX rfl rfl rfl rfl dX6_partOf_26 ?_
      exact ⟨by first | rw [if_neg b12, pk_lDiv (by omega) hG (by omega)] | rw [if_pos b12, pk_lDiv (by omega) hG (by omega)], rfl⟩
  · have hA0 : A = 0 := (pk_lEQ (a := A) (b := 0) (by omega) (by omega)).mp ((lg_cmp_eq _ _).mp b3)
    refine ca_iload hX (q := 8) rfl rfl dX6_partOf_6 ?_
    refine ca_i2l hX (q := 9) rfl dX6_partOf_8 ?_
    refine ca_lret hX rfl rfl rfl rfl dX6_partOf_9 ?_
    refine ⟨?_, rfl⟩
    rw [hA0, Nat.gcd_zero_left, Nat.zero_div, Nat.div_self hD0]
    by_cases z : p = 0
    · rw [if_pos z, z]; rfl
    · rw [if_neg z]
      have z1 : p = 1 := by
        unfold b01 at hp
        rw [if_neg z] at hp
        by_cases q : p = 1
        · exact q
        · rw [if_neg q] at hp; exact absurd rfl hp
      rw [z1]; rfl

