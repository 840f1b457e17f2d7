theorem sN_split (s : Nat → Nat) (a : Nat) : ∀ b, sN s (a + b) = sN s a + sN (fun j => s (a + j)) b
  | 0 => rfl
  | b + 1 => by
    show sN s (a + b) + s (a + b) = _
    rw [sN_split s a b, sN]; omega
theorem p8_of (n k : Nat) : p8 (n / 2 ^ k % 256) = sN (fun j => if n.testBit (k + j) = true then 1 else 0) 8 := by
  unfold p8
  refine sN_eq 8 (fun j hj => ?_)
  rw [show (256 : Nat) = 2 ^ 8 from rfl, Nat.testBit_mod_two_pow, Nat.testBit_div_two_pow, decide_eq_true hj, Bool.true_and, Nat.add_comm j k]
set_option maxHeartbeats 400000 in
theorem bc_pop (x : Int32) : bcI x = nI (sN (fun i => if bt x i = true then 1 else 0) 32) := by
  have u1 : ∀ y : Int32, uW ((y.toUInt32 >>> ((1 : Int32).toUInt32 &&& Int32.toUInt32 31)).toInt32) = uW y / 2 := fun y => uW_ush 1 (by omega) y
  have u2 : ∀ y : Int32, uW ((y.toUInt32 >>> ((2 : Int32).toUInt32 &&& Int32.toUInt32 31)).toInt32) = uW y / 4 := fun y => uW_ush 2 (by omega) y
  have u4 : ∀ y : Int32, uW ((y.toUInt32 >>> ((4 : Int32).toUInt32 &&& Int32.toUInt32 31)).toInt32) = uW y / 16 := fun y => uW_ush 4 (by omega) y
  have u8 : ∀ y : Int32, uW ((y.toUInt32 >>> ((8 : Int32).toUInt32 &&& Int32.toUInt32 31)).toInt32) = uW y / 256 := fun y => uW_ush 8 (by omega) y
  have u16 : ∀ y : Int32, uW ((y.toUInt32 >>> ((16 : Int32).toUInt32 &&& Int32.toUInt32 31)).toInt32) = uW y / 65536 := fun y => uW_ush 16 (by omega) y
  obtain ⟨A, hA⟩ : ∃ A : Int32, A = x - ((x.toUInt32 >>> ((1 : Int32).toUInt32 &&& Int32.toUInt32 31)).toInt32 &&& 1431655765) := ⟨_, rfl⟩
  obtain ⟨B, hB⟩ : ∃ B : Int32, B = (A &&& 858993459) + ((A.toUInt32 >>> ((2 : Int32).toUInt32 &&& Int32.toUInt32 31)).toInt32 &&& 858993459) := ⟨_, rfl⟩
  obtain ⟨C, hC⟩ : ∃ C : Int32, C = (B + (B.toUInt32 >>> ((4 : Int32).toUInt32 &&& Int32.toUInt32 31)).toInt32) &&& 252645135 := ⟨_, rfl⟩
  obtain ⟨D, hD⟩ : ∃ D : Int32, D = C + (C.toUInt32 >>> ((8 : Int32).toUInt32 &&& Int32.toUInt32 31)).toInt32 := ⟨_, rfl⟩
  have hbc : bcI x = (D + (D.toUInt32 >>> ((16 : Int32).toUInt32 &&& Int32.toUInt32 31)).toInt32) &&& 63 := by
    rw [hD, hC, hB, hA]; rfl
  have eA := congrArg uW hA
  rw [uW_sub, uW_and, u1, show uW 1431655765 = 1431655765 from rfl] at eA
  have eB := congrArg uW hB
  rw [uW_add, uW_and, uW_and, u2, show uW 858993459 = 858993459 from rfl] at eB
  have eC := congrArg uW hC
  rw [uW_and, uW_add, u4, show uW 252645135 = 252645135 from rfl] at eC
  have eD := congrArg uW hD
  rw [uW_add, u8] at eD
  have eZ := congrArg uW hbc
  rw [uW_and, uW_add, u16, show uW 63 = 63 from rfl, eD] at eZ
  have hx := uW_lt x
  have key := bc_N (uW x) (uW x / 2 ^ 0 % 256) (uW x / 2 ^ 8 % 256) (uW x / 2 ^ 16 % 256) (uW x / 2 ^ 24 % 256) (by omega) (by omega) (by omega) (by omega) (by omega) (uW A) (uW B) (uW C) eA eB eC
  rw [key, p8_of, p8_of, p8_of, p8_of] at eZ
  have hb : ∀ i, (uW x).testBit i = bt x i := fun i => BitVec.testBit_toNat x.toBitVec
  have hs : sN (fun i => if bt x i = true then 1 else 0) 32 = sN (fun j => if (uW x).testBit (0 + j) = true then 1 else 0) 8 + sN (fun j => if (uW x).testBit (8 + j) = true then 1 else 0) 8 + sN (fun j => if (uW x).testBit (16 + j) = true then 1 else 0) 8 + sN (fun j => if (uW x).testBit (24 + j) = true then 1 else 0) 8 := by
    rw [show (32 : Nat) = 24 + 8 from rfl, sN_split, show (24 : Nat) = 16 + 8 from rfl, sN_split, show (16 : Nat) = 8 + 8 from rfl, sN_split]
    simp only [hb, Nat.zero_add]
  rw [← hs] at eZ
  apply Int32.toBitVec_inj.mp
  apply BitVec.eq_of_toNat_eq
  have hle : ∀ s : Nat → Nat, (∀ i, s i ≤ 1) → ∀ n, sN s n ≤ n := by
    intro s h n
    induction n with
    | zero => exact Nat.le_refl _
    | succ n ih => rw [sN]; have := h n; omega
  have h32 := hle (fun i => if bt x i = true then 1 else 0) (fun i => by show (if bt x i = true then 1 else 0) ≤ 1; split <;> omega) 32
  have hn : uW (nI (sN (fun i => if bt x i = true then 1 else 0) 32)) = sN (fun i => if bt x i = true then 1 else 0) 32 := by
    generalize sN (fun i => if bt x i = true then 1 else 0) 32 = k at h32
    exact (by decide +kernel : ∀ k, k ≤ 32 → uW (nI k) = k) k h32
  exact eZ.trans hn.symm
theorem bc_25 {x : Int32} (h : ∀ i, 25 ≤ i → bt x i = false) : bcI x = nI (sN (fun i => if bt x i = true then 1 else 0) 25) := by
  rw [bc_pop, show (32 : Nat) = 25 + 7 from rfl, sN_split, sN_zero 7 (fun j _ => by show (if bt x (25 + j) = true then 1 else 0) = 0; rw [h (25 + j) (by omega), if_neg (by decide)]), Nat.add_zero]
