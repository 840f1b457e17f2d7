def drM (x : Int32) (wo : Nat → Int32) : Nat → Int32 × Int32
  | 0 => (-9, -1)
  | n + 1 => if bt x n = true ∧ (drM x wo n).2 < wo n then (nI n, wo n) else drM x wo n
theorem drM_stop (x : Int32) (wo : Nat → Int32) (i : Nat) : ∀ k, (∀ j, i ≤ j → j < i + k → bt x j = false) → drM x wo (i + k) = drM x wo i
  | 0, _ => rfl
  | k + 1, h => by
    have e : drM x wo (i + (k + 1)) = drM x wo (i + k) := by
      show drM x wo (i + k + 1) = _
      rw [drM, if_neg (by rw [h (i + k) (by omega) (by omega)]; simp)]
    rw [e]
    exact drM_stop x wo i k (fun j h1 h2 => h j h1 (by omega))
def cuM (B : Nat → Nat → Int32) (m : Nat) : Nat → Int32
  | 0 => 0
  | k + 1 => cuM B m k ||| (B 0 (k + 1) &&& B 6 (m - (k + 1)))
def fsM (p : Nat → Bool) : Nat → Nat → Int32
  | _, 0 => -9
  | s, n + 1 => if p s = true then nI s else fsM p (s + 1) n
def tsM (B : Nat → Nat → Int32) (S : Nat) (p : Int32) : Nat → Int32
  | 0 => 0
  | k + 1 => if B 7 (k + 1) ≠ -9 ∧ spM B S (k + 1) = p then tsM B S p k + 1 else tsM B S p k
theorem nI_lo2 {a b : Nat} (h : ¬ nI a < nI b) (ha : a < 2 ^ 31) (hb : b < 2 ^ 31) : b ≤ a := by
  rcases Nat.lt_or_ge a b with z | z
  · exact absurd (nI_lt z hb) h
  · exact z
theorem nI_hi2 {a b : Nat} (h : nI a < nI b) (ha : a < 2 ^ 31) (hb : b < 2 ^ 31) : a < b := (nI_ltI ha hb).mp h

set_option maxRecDepth 100000 in
set_option maxHeartbeats 4000000 in
theorem c_X0_dearest (l : Launch) (N : Nat) (g : ca_G) (z : Nat) (B : Nat → Nat → Int32) (hz : bzG g z B) (hb : z + 9 ≤ N) (x : Int32) : ca_Ct l yX0_dearest cX0_dearest 5 (some .int) 0 0 0 N 1000000 [.ref z, .int x] g (ca_pi (drM x (B 1) 25).1 g) := by
  refine ca_intro (by decide) (Nat.le_of_ble_eq_true rfl) (fun X hX hN => ?_)
  show X 0 [_, _, none, none, none] [] N 1000000 g
  obtain ⟨c0, c1, c2, c3, c4, c5, c6, c7, c8⟩ := id hz
  have loop : ∀ (n i : Nat), i + n = 25 → X 8 [some (.ref z), some (.int x), some (.int (drM x (B 1) i).1), some (.int (drM x (B 1) i).2), some (.int (nI i))] [] N 1000000 g := by
    intro n
    induction n with
    | zero =>
      intro i hi
      obtain rfl : i = 25 := by omega
      refine ca_iload hX (q := 10) rfl rfl dX0_dearest_8 ?_
      refine ca_bipush hX (q := 12) k_bipush_25 rfl dX0_dearest_10 ?_
      refine ca_icmp_ge hX (q := 15) 60 rfl rfl dX0_dearest_12 (fun _ => ?_) (fun z => absurd (nI_le (a := 25) (b := 25) (by omega) (by omega)) z)
      refine ca_iload_n hX (q := 61) 2 rfl rfl rfl dX0_dearest_60 ?_
      refine ca_iret hX rfl rfl rfl rfl dX0_dearest_61 ?_
      exact ⟨rfl, rfl⟩
    | succ n ih =>
      intro i hi
      refine ca_iload hX (q := 10) rfl rfl dX0_dearest_8 ?_
      refine ca_bipush hX (q := 12) k_bipush_25 rfl dX0_dearest_10 ?_
      refine ca_icmp_ge hX (q := 15) 60 rfl rfl dX0_dearest_12 (fun z => absurd z (nI_ge (a := i) (b := 25) (by omega) (by omega))) (fun _ => ?_)
      refine ca_iload_n hX (q := 16) 1 rfl rfl rfl dX0_dearest_15 ?_
      refine ca_iload hX (q := 18) rfl rfl dX0_dearest_16 ?_
      refine ca_ishr hX (q := 19) rfl dX0_dearest_18 ?_
      refine ca_if_eq hX (q := 22) 60 rfl rfl dX0_dearest_19 (fun c19 => ?_) (fun c19 => ?_)
      · refine ca_iload_n hX (q := 61) 2 rfl rfl rfl dX0_dearest_60 ?_
        refine ca_iret hX rfl rfl rfl rfl dX0_dearest_61 ?_
        refine ⟨?_, rfl⟩
        have e := drM_stop x (B 1) i (25 - i) (fun j h1 h2 => b_zero (by omega) c19 h1 (by omega))
        rw [show i + (25 - i) = 25 by omega] at e
        rw [e]
      · refine ca_iload_n hX (q := 23) 1 rfl rfl rfl dX0_dearest_22 ?_
        refine ca_iload hX (q := 25) rfl rfl dX0_dearest_23 ?_
        refine ca_ishr hX (q := 26) rfl dX0_dearest_25 ?_
        refine ca_iconst hX (q := 27) k_iconst_1 rfl dX0_dearest_26 ?_
        refine ca_iand hX (q := 28) rfl dX0_dearest_27 ?_
        refine ca_iconst hX (q := 29) k_iconst_1 rfl dX0_dearest_28 ?_
        refine ca_icmp_ne hX (q := 32) 54 rfl rfl dX0_dearest_29 (fun c29 => ?_) (fun c29 => ?_)
        · refine ca_iinc hX (q := 57) (ls' := [_, _, _, _, _]) k_iconst_1 rfl (Nat.le_of_ble_eq_true rfl) (Or.inr rfl) rfl rfl dX0_dearest_54 ?_
          refine ca_goto hX 8 rfl dX0_dearest_57 ?_
          rw [b_tst (by omega)] at c29
          have e : drM x (B 1) (i + 1) = drM x (B 1) i := by rw [drM, if_neg (fun q => c29 q.1)]
          have z := ih (i + 1) (by omega)
          rw [e] at z
          rw [nI_1]
          exact z
        · refine ca_aload_n hX (q := 33) 0 rfl rfl rfl dX0_dearest_32 ?_
          refine ca_getf hX (q := 36) cl_X0 1 (by decide) w_fl_X0_15 (by omega) c0 rfl rfl dX0_dearest_33 ?_
          refine ca_iload hX (q := 38) rfl rfl dX0_dearest_36 ?_
          refine ca_iaN hX (q := 39) (k := i) (by omega) c2 (by decide) rfl (by omega) rfl dX0_dearest_38 ?_
          refine ca_iload_n hX (q := 40) 3 rfl rfl rfl dX0_dearest_39 ?_
          refine ca_icmp_le hX (q := 43) 54 rfl rfl dX0_dearest_40 (fun c40 => ?_) (fun c40 => ?_)
          · refine ca_iinc hX (q := 57) (ls' := [_, _, _, _, _]) k_iconst_1 rfl (Nat.le_of_ble_eq_true rfl) (Or.inr rfl) rfl rfl dX0_dearest_54 ?_
            refine ca_goto hX 8 rfl dX0_dearest_57 ?_
            have e : drM x (B 1) (i + 1) = drM x (B 1) i := by rw [drM, if_neg (fun q => Int32.not_lt.mpr c40 q.2)]
            have z := ih (i + 1) (by omega)
            rw [e] at z
            rw [nI_1]
            exact z
          · refine ca_aload_n hX (q := 44) 0 rfl rfl rfl dX0_dearest_43 ?_
            refine ca_getf hX (q := 47) cl_X0 1 (by decide) w_fl_X0_15 (by omega) c0 rfl rfl dX0_dearest_44 ?_
            refine ca_iload hX (q := 49) rfl rfl dX0_dearest_47 ?_
            refine ca_iaN hX (q := 50) (k := i) (by omega) c2 (by decide) rfl (by omega) rfl dX0_dearest_49 ?_
            refine ca_istore_n hX (q := 51) 3 rfl (ls' := [_, _, _, _, _]) (Nat.le_of_ble_eq_true rfl) (Nat.le_of_ble_eq_true rfl) (Or.inr rfl) rfl rfl dX0_dearest_50 ?_
            refine ca_iload hX (q := 53) rfl rfl dX0_dearest_51 ?_
            refine ca_istore_n hX (q := 54) 2 rfl (ls' := [_, _, _, _, _]) (Nat.le_of_ble_eq_true rfl) (Nat.le_of_ble_eq_true rfl) (Or.inr rfl) rfl rfl dX0_dearest_53 ?_
            refine ca_iinc hX (q := 57) (ls' := [_, _, _, _, _]) k_iconst_1 rfl (Nat.le_of_ble_eq_true rfl) (Or.inr rfl) rfl rfl dX0_dearest_54 ?_
            refine ca_goto hX 8 rfl dX0_dearest_57 ?_
            rw [b_tst (by omega)] at c29
            have e : drM x (B 1) (i + 1) = (nI i, B 1 i) := by rw [drM, if_pos ⟨c29, Int32.not_le.mp c40⟩]
            have z := ih (i + 1) (by omega)
            rw [e] at z
            rw [nI_1]
            exact z
  refine ca_bipush hX (q := 2) k_bipush_m9 rfl dX0_dearest_0 ?_
  refine ca_istore_n hX (q := 3) 2 rfl (ls' := [_, _, _, _, _]) (Nat.le_of_ble_eq_true rfl) (Nat.le_of_ble_eq_true rfl) (Or.inr rfl) rfl rfl dX0_dearest_2 ?_
  refine ca_iconst hX (q := 4) k_iconst_m1 rfl dX0_dearest_3 ?_
  refine ca_istore_n hX (q := 5) 3 rfl (ls' := [_, _, _, _, _]) (Nat.le_of_ble_eq_true rfl) (Nat.le_of_ble_eq_true rfl) (Or.inr rfl) rfl rfl dX0_dearest_4 ?_
  refine ca_iconst hX (q := 6) k_iconst_0 rfl dX0_dearest_5 ?_
  refine ca_istore hX (q := 8) (ls' := [_, _, _, _, _]) (Nat.le_of_ble_eq_true rfl) (Nat.le_of_ble_eq_true rfl) (Or.inr rfl) rfl rfl dX0_dearest_6 ?_
  exact loop 25 0 (by omega)

set_option maxRecDepth 100000 in
set_option maxHeartbeats 4000000 in
theorem c_X0_caughtIn (l : Launch) (N : Nat) (g : ca_G) (z : Nat) (B : Nat → Nat → Int32) (hz : bzG g z B) (hb : z + 9 ≤ N) (m : Nat) (hm : m < 101) : ca_Ct l yX0_caughtIn cX0_caughtIn 4 (some .int) 0 0 0 N 1000000 [.ref z, .int (nI m)] g (ca_pi (cuM B m (min 4 m)) g) := by
  refine ca_intro (by decide) (Nat.le_of_ble_eq_true rfl) (fun X hX hN => ?_)
  show X 0 [_, _, none, none] [] N 1000000 g
  obtain ⟨c0, c1, c2, c3, c4, c5, c6, c7, c8⟩ := id hz
  have loop : ∀ (n k : Nat), k + n = 4 → X 4 [some (.ref z), some (.int (nI m)), some (.int (cuM B m (min k m))), some (.int (nI (k + 1)))] [] N 1000000 g := by
    intro n
    induction n with
    | zero =>
      intro k hk
      refine ca_iload_n hX (q := 5) 3 rfl rfl rfl dX0_caughtIn_4 ?_
      refine ca_iconst hX (q := 6) k_iconst_4 rfl dX0_caughtIn_5 ?_
      refine ca_icmp_gt hX (q := 9) 46 rfl rfl dX0_caughtIn_6 (fun _ => ?_) (fun z => absurd (nI_lt (a := 4) (b := k + 1) (by omega) (by omega)) z)
      refine ca_iload_n hX (q := 47) 2 rfl rfl rfl dX0_caughtIn_46 ?_
      refine ca_iret hX rfl rfl rfl rfl dX0_caughtIn_47 ?_
      exact ⟨by rw [show k = 4 by omega], rfl⟩
    | succ n ih =>
      intro k hk
      refine ca_iload_n hX (q := 5) 3 rfl rfl rfl dX0_caughtIn_4 ?_
      refine ca_iconst hX (q := 6) k_iconst_4 rfl dX0_caughtIn_5 ?_
      refine ca_icmp_gt hX (q := 9) 46 rfl rfl dX0_caughtIn_6 (fun z => absurd z (nI_nlt (a := 4) (b := k + 1) (by omega) (by omega))) (fun _ => ?_)
      refine ca_iload_n hX (q := 10) 1 rfl rfl rfl dX0_caughtIn_9 ?_
      refine ca_iload_n hX (q := 11) 3 rfl rfl rfl dX0_caughtIn_10 ?_
      refine ca_icmp_lt hX (q := 14) 40 rfl rfl dX0_caughtIn_11 (fun c11 => ?_) (fun c11 => ?_)
      · refine ca_iinc hX (q := 43) (ls' := [_, _, _, _]) k_iconst_1 rfl (Nat.le_of_ble_eq_true rfl) (Or.inr rfl) rfl rfl dX0_caughtIn_40 ?_
        refine ca_goto hX 4 rfl dX0_caughtIn_43 ?_
        rw [nI_1]
        have e : min (k + 1) m = min k m := by have := nI_hi2 c11 (by omega) (by omega); omega
        have q9 := ih (k + 1) (by omega)
        rw [e] at q9
        exact q9
      · have hkm := nI_lo2 c11 (by omega) (by omega)
        refine ca_iload_n hX (q := 15) 1 rfl rfl rfl dX0_caughtIn_14 ?_
        refine ca_iload_n hX (q := 16) 3 rfl rfl rfl dX0_caughtIn_15 ?_
        refine ca_isub hX (q := 17) rfl dX0_caughtIn_16 ?_
        refine ca_bipush hX (q := 19) k_bipush_101 rfl dX0_caughtIn_17 ?_
        refine ca_icmp_ge hX (q := 22) 40 rfl rfl dX0_caughtIn_19 (fun z => absurd z (by rw [pk_sub (by omega)]; exact nI_ge (a := m - (k + 1)) (b := 101) (by omega) (by omega))) (fun _ => ?_)
        refine ca_iload_n hX (q := 23) 2 rfl rfl rfl dX0_caughtIn_22 ?_
        refine ca_aload_n hX (q := 24) 0 rfl rfl rfl dX0_caughtIn_23 ?_
        refine ca_getf hX (q := 27) cl_X0 0 (by decide) w_fl_X0_11 (by omega) c0 rfl rfl dX0_caughtIn_24 ?_
        refine ca_iload_n hX (q := 28) 3 rfl rfl rfl dX0_caughtIn_27 ?_
        refine ca_iaN hX (q := 29) (k := k + 1) (by omega) c1 (by decide) rfl (by omega) rfl dX0_caughtIn_28 ?_
        refine ca_aload_n hX (q := 30) 0 rfl rfl rfl dX0_caughtIn_29 ?_
        refine ca_getf hX (q := 33) cl_X0 6 (by decide) w_fl_X0_30 (by omega) c0 rfl rfl dX0_caughtIn_30 ?_
        refine ca_iload_n hX (q := 34) 1 rfl rfl rfl dX0_caughtIn_33 ?_
        refine ca_iload_n hX (q := 35) 3 rfl rfl rfl dX0_caughtIn_34 ?_
        refine ca_isub hX (q := 36) rfl dX0_caughtIn_35 ?_
        refine ca_iaN hX (q := 37) (k := m - (k + 1)) (by omega) c7 (by decide) (pk_sub (by omega)) (by omega) rfl dX0_caughtIn_36 ?_
        refine ca_iand hX (q := 38) rfl dX0_caughtIn_37 ?_
        refine ca_ior hX (q := 39) rfl dX0_caughtIn_38 ?_
        refine ca_istore_n hX (q := 40) 2 rfl (ls' := [_, _, _, _]) (Nat.le_of_ble_eq_true rfl) (Nat.le_of_ble_eq_true rfl) (Or.inr rfl) rfl rfl dX0_caughtIn_39 ?_
        refine ca_iinc hX (q := 43) (ls' := [_, _, _, _]) k_iconst_1 rfl (Nat.le_of_ble_eq_true rfl) (Or.inr rfl) rfl rfl dX0_caughtIn_40 ?_
        refine ca_goto hX 4 rfl dX0_caughtIn_43 ?_
        rw [nI_1]
        have e : cuM B m (min (k + 1) m) = cuM B m (min k m) ||| (B 0 (k + 1) &&& B 6 (m - (k + 1))) := by
          rw [show min (k + 1) m = k + 1 by omega, show min k m = k by omega, cuM]
        have q9 := ih (k + 1) (by omega)
        rw [e] at q9
        exact q9
  refine ca_iconst hX (q := 1) k_iconst_0 rfl dX0_caughtIn_0 ?_
  refine ca_istore_n hX (q := 2) 2 rfl (ls' := [_, _, _, _]) (Nat.le_of_ble_eq_true rfl) (Nat.le_of_ble_eq_true rfl) (Or.inr rfl) rfl rfl dX0_caughtIn_1 ?_
  refine ca_iconst hX (q := 3) k_iconst_1 rfl dX0_caughtIn_2 ?_
  refine ca_istore_n hX (q := 4) 3 rfl (ls' := [_, _, _, _]) (Nat.le_of_ble_eq_true rfl) (Nat.le_of_ble_eq_true rfl) (Or.inr rfl) rfl rfl dX0_caughtIn_3 ?_
  have q9 := loop 4 0 (by omega)
  rw [show min 0 m = 0 by omega] at q9
  exact q9

set_option maxRecDepth 100000 in
set_option maxHeartbeats 4000000 in
theorem c_X0_minuteBurnt (l : Launch) (N : Nat) (g : ca_G) (z : Nat) (B : Nat → Nat → Int32) (hz : bzG g z B) (hb : z + 9 ≤ N) (L : Nat) (hL : B 8 3 = nI L) (hL1 : L < 101) (r : Nat) (hr : r < 25) : ca_Ct l yX0_minuteBurnt cX0_minuteBurnt 3 (some .int) 0 0 0 N 1000000 [.ref z, .int (nI r)] g (ca_pi (fsM (fun m => bt (B 4 m) r) 0 (L + 1)) g) := by
  refine ca_intro (by decide) (Nat.le_of_ble_eq_true rfl) (fun X hX hN => ?_)
  show X 0 [_, _, none] [] N 1000000 g
  obtain ⟨c0, c1, c2, c3, c4, c5, c6, c7, c8⟩ := id hz
  have loop : ∀ (n i : Nat), i + n = L + 1 → fsM (fun m => bt (B 4 m) r) 0 (L + 1) = fsM (fun m => bt (B 4 m) r) i n → X 2 [some (.ref z), some (.int (nI r)), some (.int (nI i))] [] N 1000000 g := by
    intro n
    induction n with
    | zero =>
      intro i hi e
      refine ca_iload_n hX (q := 3) 2 rfl rfl rfl dX0_minuteBurnt_2 ?_
      refine ca_bipush hX (q := 5) k_bipush_101 rfl dX0_minuteBurnt_3 ?_
      refine ca_icmp_ge hX (q := 8) 38 rfl rfl dX0_minuteBurnt_5 (fun c5 => ?_) (fun c5 => ?_)
      · refine ca_bipush hX (q := 40) k_bipush_m9 rfl dX0_minuteBurnt_38 ?_
        refine ca_iret hX rfl rfl rfl rfl dX0_minuteBurnt_40 ?_
        exact ⟨by rw [e, fsM], rfl⟩
      · refine ca_iload_n hX (q := 9) 2 rfl rfl rfl dX0_minuteBurnt_8 ?_
        refine ca_aload_n hX (q := 10) 0 rfl rfl rfl dX0_minuteBurnt_9 ?_
        refine ca_getf hX (q := 13) cl_X0 11 (by decide) w_fl_X0_87 (by omega) c0 rfl rfl dX0_minuteBurnt_10 ?_
        refine ca_icmp_gt hX (q := 16) 38 rfl rfl dX0_minuteBurnt_13 (fun _ => ?_) (fun z => absurd (by rw [hL]; exact nI_lt (by omega) (by omega)) z)
        refine ca_bipush hX (q := 40) k_bipush_m9 rfl dX0_minuteBurnt_38 ?_
        refine ca_iret hX rfl rfl rfl rfl dX0_minuteBurnt_40 ?_
        exact ⟨by rw [e, fsM], rfl⟩
    | succ n ih =>
      intro i hi e
      refine ca_iload_n hX (q := 3) 2 rfl rfl rfl dX0_minuteBurnt_2 ?_
      refine ca_bipush hX (q := 5) k_bipush_101 rfl dX0_minuteBurnt_3 ?_
      refine ca_icmp_ge hX (q := 8) 38 rfl rfl dX0_minuteBurnt_5 (fun z => absurd z (nI_ge (a := i) (b := 101) (by omega) (by omega))) (fun _ => ?_)
      refine ca_iload_n hX (q := 9) 2 rfl rfl rfl dX0_minuteBurnt_8 ?_
      refine ca_aload_n hX (q := 10) 0 rfl rfl rfl dX0_minuteBurnt_9 ?_
      refine ca_getf hX (q := 13) cl_X0 11 (by decide) w_fl_X0_87 (by omega) c0 rfl rfl dX0_minuteBurnt_10 ?_
      refine ca_icmp_gt hX (q := 16) 38 rfl rfl dX0_minuteBurnt_13 (fun z => absurd z (by rw [hL]; exact nI_nlt (by omega) (by omega))) (fun _ => ?_)
      refine ca_aload_n hX (q := 17) 0 rfl rfl rfl dX0_minuteBurnt_16 ?_
      refine ca_getf hX (q := 20) cl_X0 4 (by decide) w_fl_X0_24 (by omega) c0 rfl rfl dX0_minuteBurnt_17 ?_
      refine ca_iload_n hX (q := 21) 2 rfl rfl rfl dX0_minuteBurnt_20 ?_
      refine ca_iaN hX (q := 22) (k := i) (by omega) c5 (by decide) rfl (by omega) rfl dX0_minuteBurnt_21 ?_
      refine ca_iload_n hX (q := 23) 1 rfl rfl rfl dX0_minuteBurnt_22 ?_
      refine ca_ishr hX (q := 24) rfl dX0_minuteBurnt_23 ?_
      refine ca_iconst hX (q := 25) k_iconst_1 rfl dX0_minuteBurnt_24 ?_
      refine ca_iand hX (q := 26) rfl dX0_minuteBurnt_25 ?_
      refine ca_iconst hX (q := 27) k_iconst_1 rfl dX0_minuteBurnt_26 ?_
      refine ca_icmp_ne hX (q := 30) 32 rfl rfl dX0_minuteBurnt_27 (fun c27 => ?_) (fun c27 => ?_)
      · refine ca_iinc hX (q := 35) (ls' := [_, _, _]) k_iconst_1 rfl (Nat.le_of_ble_eq_true rfl) (Or.inr rfl) rfl rfl dX0_minuteBurnt_32 ?_
        refine ca_goto hX 2 rfl dX0_minuteBurnt_35 ?_
        rw [b_tst (by omega)] at c27
        rw [nI_1]
        exact ih (i + 1) (by omega) (by rw [e, fsM, if_neg c27])
      · refine ca_iload_n hX (q := 31) 2 rfl rfl rfl dX0_minuteBurnt_30 ?_
        refine ca_iret hX rfl rfl rfl rfl dX0_minuteBurnt_31 ?_
        rw [b_tst (by omega)] at c27
        exact ⟨by rw [e, fsM, if_pos c27], rfl⟩
  refine ca_iconst hX (q := 1) k_iconst_0 rfl dX0_minuteBurnt_0 ?_
  refine ca_istore_n hX (q := 2) 2 rfl (ls' := [_, _, _]) (Nat.le_of_ble_eq_true rfl) (Nat.le_of_ble_eq_true rfl) (Or.inr rfl) rfl rfl dX0_minuteBurnt_1 ?_
  exact loop (L + 1) 0 (by omega) rfl

set_option maxRecDepth 100000 in
set_option maxHeartbeats 4000000 in
theorem c_X0_roomSaidIn (l : Launch) (N : Nat) (g : ca_G) (z : Nat) (B : Nat → Nat → Int32) (hz : bzG g z B) (hb : z + 9 ≤ N) (M : Nat) (hM : B 8 4 = nI M) (hM1 : M < 101) (m : Nat) (h1 : 1 ≤ m) (h2 : m < 1000) : ca_Ct l yX0_roomSaidIn cX0_roomSaidIn 2 (some .int) 1 0 0 N 1000000 [.ref z, .int (nI m)] g (ca_pi (if m ≤ M then B 7 m else -9) g) := by
  refine ca_intro (by decide) (Nat.le_of_ble_eq_true rfl) (fun X hX hN => ?_)
  show X 0 [_, _] [] N 1000000 g
  obtain ⟨c0, c1, c2, c3, c4, c5, c6, c7, c8⟩ := id hz
  refine ca_iload_n hX (q := 1) 1 rfl rfl rfl dX0_roomSaidIn_0 ?_
  refine ca_iconst hX (q := 2) k_iconst_1 rfl dX0_roomSaidIn_1 ?_
  refine ca_icmp_lt hX (q := 5) 29 rfl rfl dX0_roomSaidIn_2 (fun z => absurd z (nI_nlt (a := m) (b := 1) (by omega) (by omega))) (fun _ => ?_)
  refine ca_iload_n hX (q := 6) 1 rfl rfl rfl dX0_roomSaidIn_5 ?_
  refine ca_aload_n hX (q := 7) 0 rfl rfl rfl dX0_roomSaidIn_6 ?_
  refine ca_getf hX (q := 10) cl_X0 12 (by decide) w_fl_X0_93 (by omega) c0 rfl rfl dX0_roomSaidIn_7 ?_
  refine ca_icmp_gt hX (q := 13) 29 rfl rfl dX0_roomSaidIn_10 (fun c10 => ?_) (fun c10 => ?_)
  · refine ca_bipush hX (q := 31) k_bipush_m9 rfl dX0_roomSaidIn_29 ?_
    refine ca_iret hX rfl rfl rfl rfl dX0_roomSaidIn_31 ?_
    exact ⟨by rw [if_neg (by rw [hM] at c10; have := nI_hi2 c10 (by omega) (by omega); omega)], rfl⟩
  · have hmM : m ≤ M := by rw [hM] at c10; exact nI_lo2 c10 (by omega) (by omega)
    refine ca_iload_n hX (q := 14) 1 rfl rfl rfl dX0_roomSaidIn_13 ?_
    refine ca_cSi hX (q := 17) y_X0_isMinute w_ml_X0_120 hN (c_X0_isMinute l N g m (by omega)) (by decide) rfl (by decide) rfl dX0_roomSaidIn_14 rfl ?_
    refine ca_if_eq hX (q := 20) 29 rfl rfl dX0_roomSaidIn_17 (fun z => absurd z (by decide)) (fun _ => ?_)
    refine ca_aload_n hX (q := 21) 0 rfl rfl rfl dX0_roomSaidIn_20 ?_
    refine ca_getf hX (q := 24) cl_X0 7 (by decide) w_fl_X0_33 (by omega) c0 rfl rfl dX0_roomSaidIn_21 ?_
    refine ca_iload_n hX (q := 25) 1 rfl rfl rfl dX0_roomSaidIn_24 ?_
    refine ca_iaN hX (q := 26) (k := m) (by omega) c8 (by decide) rfl (by omega) rfl dX0_roomSaidIn_25 ?_
    refine ca_goto hX 31 rfl dX0_roomSaidIn_26 ?_
    refine ca_iret hX rfl rfl rfl rfl dX0_roomSaidIn_31 ?_
    exact ⟨by rw [if_pos hmM], rfl⟩

set_option maxRecDepth 100000 in
set_option maxHeartbeats 4000000 in
theorem c_X0_minuteSaid (l : Launch) (N : Nat) (g : ca_G) (z : Nat) (B : Nat → Nat → Int32) (hz : bzG g z B) (hb : z + 9 ≤ N) (M : Nat) (hM : B 8 4 = nI M) (hM1 : M < 101) (r : Nat) : ca_Ct l yX0_minuteSaid cX0_minuteSaid 3 (some .int) 2 0 0 N 1000000 [.ref z, .int (nI r)] g (ca_pi (fsM (fun m => decide (B 7 m = nI r)) 1 M) g) := by
  refine ca_intro (by decide) (Nat.le_of_ble_eq_true rfl) (fun X hX hN => ?_)
  show X 0 [_, _, none] [] N 1000000 g
  obtain ⟨c0, c1, c2, c3, c4, c5, c6, c7, c8⟩ := id hz
  have loop : ∀ (n i : Nat), i + n = M + 1 → 1 ≤ i → fsM (fun m => decide (B 7 m = nI r)) 1 M = fsM (fun m => decide (B 7 m = nI r)) i n → X 2 [some (.ref z), some (.int (nI r)), some (.int (nI i))] [] N 1000000 g := by
    intro n
    induction n with
    | zero =>
      intro i hi hi1 e
      refine ca_iload_n hX (q := 3) 2 rfl rfl rfl dX0_minuteSaid_2 ?_
      refine ca_aload_n hX (q := 4) 0 rfl rfl rfl dX0_minuteSaid_3 ?_
      refine ca_getf hX (q := 7) cl_X0 12 (by decide) w_fl_X0_93 (by omega) c0 rfl rfl dX0_minuteSaid_4 ?_
      refine ca_icmp_gt hX (q := 10) 27 rfl rfl dX0_minuteSaid_7 (fun _ => ?_) (fun z => absurd (by rw [hM]; exact nI_lt (by omega) (by omega)) z)
      refine ca_bipush hX (q := 29) k_bipush_m9 rfl dX0_minuteSaid_27 ?_
      refine ca_iret hX rfl rfl rfl rfl dX0_minuteSaid_29 ?_
      exact ⟨by rw [e, fsM], rfl⟩
    | succ n ih =>
      intro i hi hi1 e
      refine ca_iload_n hX (q := 3) 2 rfl rfl rfl dX0_minuteSaid_2 ?_
      refine ca_aload_n hX (q := 4) 0 rfl rfl rfl dX0_minuteSaid_3 ?_
      refine ca_getf hX (q := 7) cl_X0 12 (by decide) w_fl_X0_93 (by omega) c0 rfl rfl dX0_minuteSaid_4 ?_
      refine ca_icmp_gt hX (q := 10) 27 rfl rfl dX0_minuteSaid_7 (fun z => absurd z (by rw [hM]; exact nI_nlt (by omega) (by omega))) (fun _ => ?_)
      refine ca_aload_n hX (q := 11) 0 rfl rfl rfl dX0_minuteSaid_10 ?_
      refine ca_iload_n hX (q := 12) 2 rfl rfl rfl dX0_minuteSaid_11 ?_
      refine ca_cVi hX (q := 15) y_X0_roomSaidIn w_ml_X0_124 (by omega) hN c0 (c_X0_roomSaidIn l N g z B hz hb M hM hM1 i (by omega) (by omega)) (by decide) rfl (by decide) rfl dX0_minuteSaid_12 rfl ?_
      rw [if_pos (show i ≤ M by omega)]
      refine ca_iload_n hX (q := 16) 1 rfl rfl rfl dX0_minuteSaid_15 ?_
      refine ca_icmp_ne hX (q := 19) 21 rfl rfl dX0_minuteSaid_16 (fun c16 => ?_) (fun c16 => ?_)
      · refine ca_iinc hX (q := 24) (ls' := [_, _, _]) k_iconst_1 rfl (Nat.le_of_ble_eq_true rfl) (Or.inr rfl) rfl rfl dX0_minuteSaid_21 ?_
        refine ca_goto hX 2 rfl dX0_minuteSaid_24 ?_
        rw [nI_1]
        exact ih (i + 1) (by omega) (by omega) (by rw [e, fsM, if_neg (by simpa using c16)])
      · refine ca_iload_n hX (q := 20) 2 rfl rfl rfl dX0_minuteSaid_19 ?_
        refine ca_iret hX rfl rfl rfl rfl dX0_minuteSaid_20 ?_
        exact ⟨by rw [e, fsM, if_pos (by simpa using c16)], rfl⟩
  refine ca_iconst hX (q := 1) k_iconst_1 rfl dX0_minuteSaid_0 ?_
  refine ca_istore_n hX (q := 2) 2 rfl (ls' := [_, _, _]) (Nat.le_of_ble_eq_true rfl) (Nat.le_of_ble_eq_true rfl) (Or.inr rfl) rfl rfl dX0_minuteSaid_1 ?_
  exact loop M 1 (by omega) (by omega) rfl

set_option maxRecDepth 100000 in
set_option maxHeartbeats 4000000 in
theorem c_X0_timesSpoken (l : Launch) (N : Nat) (g : ca_G) (z : Nat) (B : Nat → Nat → Int32) (hz : bzG g z B) (hb : z + 9 ≤ N) (M : Nat) (hM : B 8 4 = nI M) (hM1 : M < 101) (S : Nat) (hS : B 8 1 = nI S) (hS5 : S ≤ 5) (p : Int32) : ca_Ct l yX0_timesSpoken cX0_timesSpoken 4 (some .int) 2 0 0 N 1000000 [.ref z, .int p] g (ca_pi (tsM B S p M) g) := by
  refine ca_intro (by decide) (Nat.le_of_ble_eq_true rfl) (fun X hX hN => ?_)
  show X 0 [_, _, none, none] [] N 1000000 g
  obtain ⟨c0, c1, c2, c3, c4, c5, c6, c7, c8⟩ := id hz
  have loop : ∀ (n k : Nat), k + n = M → X 4 [some (.ref z), some (.int p), some (.int (tsM B S p k)), some (.int (nI (k + 1)))] [] N 1000000 g := by
    intro n
    induction n with
    | zero =>
      intro k hk
      refine ca_iload_n hX (q := 5) 3 rfl rfl rfl dX0_timesSpoken_4 ?_
      refine ca_aload_n hX (q := 6) 0 rfl rfl rfl dX0_timesSpoken_5 ?_
      refine ca_getf hX (q := 9) cl_X0 12 (by decide) w_fl_X0_93 (by omega) c0 rfl rfl dX0_timesSpoken_6 ?_
      refine ca_icmp_gt hX (q := 12) 40 rfl rfl dX0_timesSpoken_9 (fun _ => ?_) (fun z => absurd (by rw [hM]; exact nI_lt (by omega) (by omega)) z)
      refine ca_iload_n hX (q := 41) 2 rfl rfl rfl dX0_timesSpoken_40 ?_
      refine ca_iret hX rfl rfl rfl rfl dX0_timesSpoken_41 ?_
      exact ⟨by rw [show k = M by omega], rfl⟩
    | succ n ih =>
      intro k hk
      refine ca_iload_n hX (q := 5) 3 rfl rfl rfl dX0_timesSpoken_4 ?_
      refine ca_aload_n hX (q := 6) 0 rfl rfl rfl dX0_timesSpoken_5 ?_
      refine ca_getf hX (q := 9) cl_X0 12 (by decide) w_fl_X0_93 (by omega) c0 rfl rfl dX0_timesSpoken_6 ?_
      refine ca_icmp_gt hX (q := 12) 40 rfl rfl dX0_timesSpoken_9 (fun z => absurd z (by rw [hM]; exact nI_nlt (by omega) (by omega))) (fun _ => ?_)
      refine ca_aload_n hX (q := 13) 0 rfl rfl rfl dX0_timesSpoken_12 ?_
      refine ca_iload_n hX (q := 14) 3 rfl rfl rfl dX0_timesSpoken_13 ?_
      refine ca_cVi hX (q := 17) y_X0_roomSaidIn w_ml_X0_124 (by omega) hN c0 (c_X0_roomSaidIn l N g z B hz hb M hM hM1 (k + 1) (by omega) (by omega)) (by decide) rfl (by decide) rfl dX0_timesSpoken_14 rfl ?_
      rw [if_pos (show k + 1 ≤ M by omega)]
      refine ca_bipush hX (q := 19) k_bipush_m9 rfl dX0_timesSpoken_17 ?_
      refine ca_icmp_eq hX (q := 22) 34 rfl rfl dX0_timesSpoken_19 (fun c19 => ?_) (fun c19 => ?_)
      · refine ca_iinc hX (q := 37) (ls' := [_, _, _, _]) k_iconst_1 rfl (Nat.le_of_ble_eq_true rfl) (Or.inr rfl) rfl rfl dX0_timesSpoken_34 ?_
        refine ca_goto hX 4 rfl dX0_timesSpoken_37 ?_
        rw [nI_1]
        have e : tsM B S p (k + 1) = tsM B S p k := by rw [tsM, if_neg (fun q => q.1 c19)]
        have q := ih (k + 1) (by omega)
        rw [e] at q
        exact q
      · refine ca_aload_n hX (q := 23) 0 rfl rfl rfl dX0_timesSpoken_22 ?_
        refine ca_iload_n hX (q := 24) 3 rfl rfl rfl dX0_timesSpoken_23 ?_
        refine ca_cVi hX (q := 27) y_X0_speakerIn w_ml_X0_96 (by omega) hN c0 (c_X0_speakerIn l N g z B hz hb S hS hS5 (k + 1) (by omega) (by omega)) (by decide) rfl (by decide) rfl dX0_timesSpoken_24 rfl ?_
        refine ca_iload_n hX (q := 28) 1 rfl rfl rfl dX0_timesSpoken_27 ?_
        refine ca_icmp_ne hX (q := 31) 34 rfl rfl dX0_timesSpoken_28 (fun c28 => ?_) (fun c28 => ?_)
        · refine ca_iinc hX (q := 37) (ls' := [_, _, _, _]) k_iconst_1 rfl (Nat.le_of_ble_eq_true rfl) (Or.inr rfl) rfl rfl dX0_timesSpoken_34 ?_
          refine ca_goto hX 4 rfl dX0_timesSpoken_37 ?_
          rw [nI_1]
          have e : tsM B S p (k + 1) = tsM B S p k := by rw [tsM, if_neg (fun q => c28 q.2)]
          have q := ih (k + 1) (by omega)
          rw [e] at q
          exact q
        · refine ca_iinc hX (q := 34) (ls' := [_, _, _, _]) k_iconst_1 rfl (Nat.le_of_ble_eq_true rfl) (Or.inr rfl) rfl rfl dX0_timesSpoken_31 ?_
          refine ca_iinc hX (q := 37) (ls' := [_, _, _, _]) k_iconst_1 rfl (Nat.le_of_ble_eq_true rfl) (Or.inr rfl) rfl rfl dX0_timesSpoken_34 ?_
          refine ca_goto hX 4 rfl dX0_timesSpoken_37 ?_
          rw [nI_1]
          have e : tsM B S p (k + 1) = tsM B S p k + 1 := by rw [tsM, if_pos ⟨c19, c28⟩]
          have q := ih (k + 1) (by omega)
          rw [e] at q
          exact q
  refine ca_iconst hX (q := 1) k_iconst_0 rfl dX0_timesSpoken_0 ?_
  refine ca_istore_n hX (q := 2) 2 rfl (ls' := [_, _, _, _]) (Nat.le_of_ble_eq_true rfl) (Nat.le_of_ble_eq_true rfl) (Or.inr rfl) rfl rfl dX0_timesSpoken_1 ?_
  refine ca_iconst hX (q := 3) k_iconst_1 rfl dX0_timesSpoken_2 ?_
  refine ca_istore_n hX (q := 4) 3 rfl (ls' := [_, _, _, _]) (Nat.le_of_ble_eq_true rfl) (Nat.le_of_ble_eq_true rfl) (Or.inr rfl) rfl rfl dX0_timesSpoken_3 ?_
  exact loop M 0 (by omega)

