/-! the bits of a word -/
def uW (x : Int32) : Nat := x.toBitVec.toNat
theorem uW_lt (x : Int32) : uW x < 2 ^ 32 := x.toBitVec.isLt
theorem uW_sub (x y : Int32) : uW (x - y) = (2 ^ 32 - uW y + uW x) % 2 ^ 32 := by
  unfold uW; rw [Int32.toBitVec_sub, BitVec.toNat_sub]
theorem uW_add (x y : Int32) : uW (x + y) = (uW x + uW y) % 2 ^ 32 := by
  unfold uW; rw [Int32.toBitVec_add, BitVec.toNat_add]
theorem uW_and (x y : Int32) : uW (x &&& y) = uW x &&& uW y := by
  unfold uW; rw [Int32.toBitVec_and, BitVec.toNat_and]
theorem uW_ush (n : Nat) (hn : n < 32) (x : Int32) : uW ((x.toUInt32 >>> ((nI n).toUInt32 &&& Int32.toUInt32 31)).toInt32) = uW x / 2 ^ n := by
  show (x.toUInt32 >>> ((nI n).toUInt32 &&& Int32.toUInt32 31)).toBitVec.toNat = x.toUInt32.toBitVec.toNat / 2 ^ n
  rw [UInt32.toBitVec_shiftRight]
  show (x.toUInt32.toBitVec >>> (((nI n).toUInt32 &&& Int32.toUInt32 31).toBitVec % 32).toNat).toNat = _
  rw [s_u n hn, BitVec.toNat_ushiftRight, Nat.shiftRight_eq_div_pow]
theorem and_b (a b c d : Nat) (ha : a < 256) (hc : c < 256) : (a + 256 * b) &&& (c + 256 * d) = (a &&& c) + 256 * (b &&& d) := by
  have h1 : ((a + 256 * b) &&& (c + 256 * d)) % 2 ^ 8 = (a &&& c) := by
    rw [Nat.and_mod_two_pow]
    congr 1 <;> omega
  have h2 : ((a + 256 * b) &&& (c + 256 * d)) / 2 ^ 8 = (b &&& d) := by
    rw [Nat.and_div_two_pow]
    congr 1 <;> omega
  omega
theorem and_4 (a0 a1 a2 a3 c : Nat) (h0 : a0 < 256) (h1 : a1 < 256) (h2 : a2 < 256) (hc : c < 256) : (a0 + 256 * (a1 + 256 * (a2 + 256 * a3))) &&& (c + 256 * (c + 256 * (c + 256 * c))) = (a0 &&& c) + 256 * ((a1 &&& c) + 256 * ((a2 &&& c) + 256 * (a3 &&& c))) := by
  rw [and_b _ _ _ _ h0 hc, and_b _ _ _ _ h1 hc, and_b _ _ _ _ h2 hc]
def v8 (b : Nat) : Nat := ((b - (b / 2 &&& 85)) &&& 51) + ((b - (b / 2 &&& 85)) / 4 &&& 51)
def p8 (b : Nat) : Nat := sN (fun j => if b.testBit j = true then 1 else 0) 8
theorem t8_a : ∀ b, b < 256 → ∀ e, e < 2 → (b / 2 + 128 * e) &&& 85 = (b / 2 &&& 85) := by decide +kernel
theorem t8_b : ∀ b, b < 256 → ∀ e, e < 4 → (b / 4 + 64 * e) &&& 51 = (b / 4 &&& 51) := by decide +kernel
theorem t8_c : ∀ b, b < 256 → (b / 2 &&& 85) ≤ b ∧ v8 b % 16 ≤ 4 ∧ v8 b / 16 ≤ 4 ∧ v8 b % 16 + v8 b / 16 = p8 b := by decide +kernel
theorem t8_d : ∀ b, b < 256 → (b &&& 15) = b % 16 := by decide +kernel
theorem and_63 (n : Nat) : n &&& 63 = n % 64 := Nat.and_two_pow_sub_one_eq_mod n 6
theorem p8_le : ∀ b, b < 256 → p8 b ≤ 8 := by decide +kernel
set_option maxHeartbeats 400000 in
theorem bc_1 (n b0 b1 b2 b3 : Nat) (h0 : b0 < 256) (h1 : b1 < 256) (h2 : b2 < 256) (h3 : b3 < 256) (e : n = b0 + 256 * (b1 + 256 * (b2 + 256 * b3))) : n / 2 &&& 1431655765 = (b0 / 2 &&& 85) + 256 * ((b1 / 2 &&& 85) + 256 * ((b2 / 2 &&& 85) + 256 * (b3 / 2 &&& 85))) := by
  rw [show n / 2 = (b0 / 2 + 128 * (b1 % 2)) + 256 * ((b1 / 2 + 128 * (b2 % 2)) + 256 * ((b2 / 2 + 128 * (b3 % 2)) + 256 * (b3 / 2 + 128 * 0))) by omega, show (1431655765 : Nat) = 85 + 256 * (85 + 256 * (85 + 256 * 85)) from rfl, and_4 _ _ _ _ _ (by omega) (by omega) (by omega) (by omega), t8_a b0 h0 _ (by omega), t8_a b1 h1 _ (by omega), t8_a b2 h2 _ (by omega), t8_a b3 h3 _ (by omega)]
set_option maxHeartbeats 400000 in
theorem bc_2 (n a0 a1 a2 a3 : Nat) (h0 : a0 < 256) (h1 : a1 < 256) (h2 : a2 < 256) (h3 : a3 < 256) (e : n = a0 + 256 * (a1 + 256 * (a2 + 256 * a3))) : n / 4 &&& 858993459 = (a0 / 4 &&& 51) + 256 * ((a1 / 4 &&& 51) + 256 * ((a2 / 4 &&& 51) + 256 * (a3 / 4 &&& 51))) := by
  rw [show n / 4 = (a0 / 4 + 64 * (a1 % 4)) + 256 * ((a1 / 4 + 64 * (a2 % 4)) + 256 * ((a2 / 4 + 64 * (a3 % 4)) + 256 * (a3 / 4 + 64 * 0))) by omega, show (858993459 : Nat) = 51 + 256 * (51 + 256 * (51 + 256 * 51)) from rfl, and_4 _ _ _ _ _ (by omega) (by omega) (by omega) (by omega), t8_b a0 h0 _ (by omega), t8_b a1 h1 _ (by omega), t8_b a2 h2 _ (by omega), t8_b a3 h3 _ (by omega)]
set_option maxHeartbeats 400000 in
theorem bc_3 (b g0 g1 g2 g3 l0 l1 l2 l3 : Nat) (h0 : g0 ≤ 4) (h1 : g1 ≤ 4) (h2 : g2 ≤ 4) (h3 : g3 ≤ 4) (k0 : l0 ≤ 4) (k1 : l1 ≤ 4) (k2 : l2 ≤ 4) (k3 : l3 ≤ 4) (e : b = (16 * g0 + l0) + 256 * ((16 * g1 + l1) + 256 * ((16 * g2 + l2) + 256 * (16 * g3 + l3)))) : ((b + b / 16) % 2 ^ 32) &&& 252645135 = (g0 + l0) + 256 * ((g1 + l1) + 256 * ((g2 + l2) + 256 * (g3 + l3))) := by
  have e2 : b / 16 = (g0 + 16 * l1) + 256 * ((g1 + 16 * l2) + 256 * ((g2 + 16 * l3) + 256 * g3)) := by omega
  have e3 : (b + b / 16) % 2 ^ 32 = (16 * (g0 + l1) + (g0 + l0)) + 256 * ((16 * (g1 + l2) + (g1 + l1)) + 256 * ((16 * (g2 + l3) + (g2 + l2)) + 256 * (16 * g3 + (g3 + l3)))) := by
    rw [Nat.mod_eq_of_lt (by omega)]
    omega
  have d : ∀ u v, u ≤ 8 → v ≤ 8 → (16 * u + v) &&& 15 = v := fun u v hu hv => by rw [t8_d _ (by omega)]; omega
  rw [e3, show (252645135 : Nat) = 15 + 256 * (15 + 256 * (15 + 256 * 15)) from rfl, and_4 _ _ _ _ _ (by omega) (by omega) (by omega) (by omega), d _ _ (by omega) (by omega), d _ _ (by omega) (by omega), d _ _ (by omega) (by omega), d _ _ (by omega) (by omega)]
set_option maxHeartbeats 400000 in
theorem bc_4 (c p0 p1 p2 p3 : Nat) (h0 : p0 ≤ 8) (h1 : p1 ≤ 8) (h2 : p2 ≤ 8) (h3 : p3 ≤ 8) (e : c = p0 + 256 * (p1 + 256 * (p2 + 256 * p3))) : (((c + c / 256) % 2 ^ 32 + (c + c / 256) % 2 ^ 32 / 65536) % 2 ^ 32) &&& 63 = p0 + p1 + p2 + p3 := by
  have e1 : c / 256 = p1 + 256 * (p2 + 256 * p3) := by omega
  have e2 : (c + c / 256) % 2 ^ 32 = (p0 + p1) + 256 * (p1 + p2) + 65536 * ((p2 + p3) + 256 * p3) := by
    rw [Nat.mod_eq_of_lt (by omega), e1]; omega
  have e3 : ((p0 + p1) + 256 * (p1 + p2) + 65536 * ((p2 + p3) + 256 * p3)) / 65536 = (p2 + p3) + 256 * p3 := by omega
  have e4 : ((p0 + p1) + 256 * (p1 + p2) + 65536 * ((p2 + p3) + 256 * p3) + ((p2 + p3) + 256 * p3)) % 2 ^ 32 = (p0 + p1 + p2 + p3) + 64 * (4 * (p1 + p2 + p3) + 1024 * ((p2 + p3) + 256 * p3)) := by
    rw [Nat.mod_eq_of_lt (by omega)]; omega
  rw [e2, e3, e4, and_63, Nat.add_mul_mod_self_left]
  exact Nat.mod_eq_of_lt (by omega)
set_option maxHeartbeats 400000 in
theorem bc_N (n b0 b1 b2 b3 : Nat) (h0 : b0 < 256) (h1 : b1 < 256) (h2 : b2 < 256) (h3 : b3 < 256) (e : n = b0 + 256 * (b1 + 256 * (b2 + 256 * b3))) (a b c : Nat) (ea : a = (2 ^ 32 - (n / 2 &&& 1431655765) + n) % 2 ^ 32) (eb : b = ((a &&& 858993459) + (a / 4 &&& 858993459)) % 2 ^ 32) (ec : c = ((b + b / 16) % 2 ^ 32) &&& 252645135) : (((c + c / 256) % 2 ^ 32 + (c + c / 256) % 2 ^ 32 / 65536) % 2 ^ 32) &&& 63 = p8 b0 + p8 b1 + p8 b2 + p8 b3 := by
  have q0 := t8_c b0 h0
  have q1 := t8_c b1 h1
  have q2 := t8_c b2 h2
  have q3 := t8_c b3 h3
  have s1 := bc_1 n b0 b1 b2 b3 h0 h1 h2 h3 e
  have v0 : v8 b0 = ((b0 - (b0 / 2 &&& 85)) &&& 51) + ((b0 - (b0 / 2 &&& 85)) / 4 &&& 51) := rfl
  have v1 : v8 b1 = ((b1 - (b1 / 2 &&& 85)) &&& 51) + ((b1 - (b1 / 2 &&& 85)) / 4 &&& 51) := rfl
  have v2 : v8 b2 = ((b2 - (b2 / 2 &&& 85)) &&& 51) + ((b2 - (b2 / 2 &&& 85)) / 4 &&& 51) := rfl
  have v3 : v8 b3 = ((b3 - (b3 / 2 &&& 85)) &&& 51) + ((b3 - (b3 / 2 &&& 85)) / 4 &&& 51) := rfl
  generalize (b0 / 2 &&& 85) = u0 at *
  generalize (b1 / 2 &&& 85) = u1 at *
  generalize (b2 / 2 &&& 85) = u2 at *
  generalize (b3 / 2 &&& 85) = u3 at *
  have s2 : a = (b0 - u0) + 256 * ((b1 - u1) + 256 * ((b2 - u2) + 256 * (b3 - u3))) := by
    rw [ea, s1]
    clear ec eb v0 v1 v2 v3 s1
    have : n = (u0 + 256 * (u1 + 256 * (u2 + 256 * u3))) + ((b0 - u0) + 256 * ((b1 - u1) + 256 * ((b2 - u2) + 256 * (b3 - u3)))) := by omega
    omega
  have g0 : b0 - u0 < 256 := by omega
  have g1 : b1 - u1 < 256 := by omega
  have g2 : b2 - u2 < 256 := by omega
  have g3 : b3 - u3 < 256 := by omega
  generalize b0 - u0 = a0 at *
  generalize b1 - u1 = a1 at *
  generalize b2 - u2 = a2 at *
  generalize b3 - u3 = a3 at *
  have s4 := bc_2 a a0 a1 a2 a3 g0 g1 g2 g3 s2
  have s3 : a &&& 858993459 = (a0 &&& 51) + 256 * ((a1 &&& 51) + 256 * ((a2 &&& 51) + 256 * (a3 &&& 51))) := by
    rw [s2, show (858993459 : Nat) = 51 + 256 * (51 + 256 * (51 + 256 * 51)) from rfl, and_4 _ _ _ _ _ g0 g1 g2 (by omega)]
  have s5 : b = (16 * (v8 b0 / 16) + v8 b0 % 16) + 256 * ((16 * (v8 b1 / 16) + v8 b1 % 16) + 256 * ((16 * (v8 b2 / 16) + v8 b2 % 16) + 256 * (16 * (v8 b3 / 16) + v8 b3 % 16))) := by
    rw [Nat.div_add_mod, Nat.div_add_mod, Nat.div_add_mod, Nat.div_add_mod, eb, s3, s4]
    have w0 : v8 b0 < 256 := by have := Nat.div_add_mod (v8 b0) 16; omega
    have w1 : v8 b1 < 256 := by have := Nat.div_add_mod (v8 b1) 16; omega
    have w2 : v8 b2 < 256 := by have := Nat.div_add_mod (v8 b2) 16; omega
    have w3 : v8 b3 < 256 := by have := Nat.div_add_mod (v8 b3) 16; omega
    clear ec eb ea s1 s2 s3 s4 q0 q1 q2 q3
    rw [Nat.mod_eq_of_lt (by omega)]
    omega
  have s7 := bc_3 b _ _ _ _ _ _ _ _ q0.2.2.1 q1.2.2.1 q2.2.2.1 q3.2.2.1 q0.2.1 q1.2.1 q2.2.1 q3.2.1 s5
  rw [← ec, Nat.add_comm (v8 b0 / 16), Nat.add_comm (v8 b1 / 16), Nat.add_comm (v8 b2 / 16), Nat.add_comm (v8 b3 / 16), q0.2.2.2, q1.2.2.2, q2.2.2.2, q3.2.2.2] at s7
  exact bc_4 c _ _ _ _ (p8_le b0 h0) (p8_le b1 h1) (p8_le b2 h2) (p8_le b3 h3) s7
