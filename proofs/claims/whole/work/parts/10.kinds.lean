/-! the kinds -/
def ndK (k : Int32) : Int32 := if k = 2 then 2 else if k = 3 then 4 else 1
def ctK (k : Int32) : Int32 := if k = 1 then 1 else if k = 2 then 3 else if k = 3 then 3 else if k = 4 then -9 else if k = 5 then 4 else 2
def wtK (k f : Int32) : Int32 := if k = 2 then 6 + f else if k = 3 then 2 * (6 + f) else if k = 4 then 0 else if k = 5 then f else 1 + f

set_option maxRecDepth 100000 in
set_option maxHeartbeats 4000000 in
theorem c_X2_needs (l : Launch) (N : Nat) (g : ca_G) (k : Int32) : ca_Ct l yX2_needs cX2_needs 1 (some .int) 0 0 0 N 1000000 [.int k] g (ca_pi (ndK k) g) := by
  refine ca_intro (by decide) (Nat.le_of_ble_eq_true rfl) (fun X hX hN => ?_)
  show X 0 [_] [] N 1000000 g
  refine ca_iload_n hX (q := 1) 0 rfl rfl rfl dX2_needs_0 ?_
  by_cases e1_2 : k = 2
  · refine ca_look hX (off := 27) 28 dX2_needs_1 (by decide) (by rw [e1_2]; decide) rfl ?_
    refine ca_iconst hX (q := 29) k_iconst_2 rfl dX2_needs_28 ?_
    refine ca_iret hX rfl rfl rfl rfl dX2_needs_29 ?_
    refine ⟨?_, rfl⟩; simp [ndK, ctK, wtK, *]
  by_cases e1_3 : k = 3
  · refine ca_look hX (off := 29) 30 dX2_needs_1 (by decide) (by rw [e1_3]; decide) rfl ?_
    refine ca_iconst hX (q := 31) k_iconst_4 rfl dX2_needs_30 ?_
    refine ca_iret hX rfl rfl rfl rfl dX2_needs_31 ?_
    refine ⟨?_, rfl⟩; simp [ndK, ctK, wtK, *]
  refine ca_look hX (off := 31) 32 dX2_needs_1 (by decide) (by have z0 := lv_neT (k := 2) (a := 2) e1_2 (by decide); have z1 := lv_neT (k := 3) (a := 3) e1_3 (by decide); simp [Op.lookupswitch.offset, Ne.symm z0, Ne.symm z1]) rfl ?_
  refine ca_iconst hX (q := 33) k_iconst_1 rfl dX2_needs_32 ?_
  refine ca_iret hX rfl rfl rfl rfl dX2_needs_33 ?_
  refine ⟨?_, rfl⟩; simp [ndK, ctK, wtK, *]

set_option maxRecDepth 100000 in
set_option maxHeartbeats 4000000 in
theorem c_X2_catches (l : Launch) (N : Nat) (g : ca_G) (k : Int32) : ca_Ct l yX2_catches cX2_catches 1 (some .int) 0 0 0 N 1000000 [.int k] g (ca_pi (ctK k) g) := by
  refine ca_intro (by decide) (Nat.le_of_ble_eq_true rfl) (fun X hX hN => ?_)
  show X 0 [_] [] N 1000000 g
  refine ca_iload_n hX (q := 1) 0 rfl rfl rfl dX2_catches_0 ?_
  by_cases e1_1 : k = 1
  · refine ca_tabIn hX 36 dX2_catches_1 (by rw [e1_1]; decide) (by rw [e1_1]; decide) (by rw [e1_1]; rfl) rfl ?_
    refine ca_iconst hX (q := 37) k_iconst_1 rfl dX2_catches_36 ?_
    refine ca_iret hX rfl rfl rfl rfl dX2_catches_37 ?_
    refine ⟨?_, rfl⟩; simp [ndK, ctK, wtK, *]
  by_cases e1_2 : k = 2
  · refine ca_tabIn hX 38 dX2_catches_1 (by rw [e1_2]; decide) (by rw [e1_2]; decide) (by rw [e1_2]; rfl) rfl ?_
    refine ca_iconst hX (q := 39) k_iconst_3 rfl dX2_catches_38 ?_
    refine ca_iret hX rfl rfl rfl rfl dX2_catches_39 ?_
    refine ⟨?_, rfl⟩; simp [ndK, ctK, wtK, *]
  by_cases e1_3 : k = 3
  · refine ca_tabIn hX 38 dX2_catches_1 (by rw [e1_3]; decide) (by rw [e1_3]; decide) (by rw [e1_3]; rfl) rfl ?_
    refine ca_iconst hX (q := 39) k_iconst_3 rfl dX2_catches_38 ?_
    refine ca_iret hX rfl rfl rfl rfl dX2_catches_39 ?_
    refine ⟨?_, rfl⟩; simp [ndK, ctK, wtK, *]
  by_cases e1_4 : k = 4
  · refine ca_tabIn hX 40 dX2_catches_1 (by rw [e1_4]; decide) (by rw [e1_4]; decide) (by rw [e1_4]; rfl) rfl ?_
    refine ca_bipush hX (q := 42) k_bipush_m9 rfl dX2_catches_40 ?_
    refine ca_iret hX rfl rfl rfl rfl dX2_catches_42 ?_
    refine ⟨?_, rfl⟩; simp [ndK, ctK, wtK, *]
  by_cases e1_5 : k = 5
  · refine ca_tabIn hX 43 dX2_catches_1 (by rw [e1_5]; decide) (by rw [e1_5]; decide) (by rw [e1_5]; rfl) rfl ?_
    refine ca_iconst hX (q := 44) k_iconst_4 rfl dX2_catches_43 ?_
    refine ca_iret hX rfl rfl rfl rfl dX2_catches_44 ?_
    refine ⟨?_, rfl⟩; simp [ndK, ctK, wtK, *]
  refine ca_tabOut hX 45 dX2_catches_1 (by have z0 := lv_neT (k := 1) (a := 1) e1_1 (by decide); have z1 := lv_neT (k := 2) (a := 2) e1_2 (by decide); have z2 := lv_neT (k := 3) (a := 3) e1_3 (by decide); have z3 := lv_neT (k := 4) (a := 4) e1_4 (by decide); have z4 := lv_neT (k := 5) (a := 5) e1_5 (by decide); omega) rfl ?_
  refine ca_iconst hX (q := 46) k_iconst_2 rfl dX2_catches_45 ?_
  refine ca_iret hX rfl rfl rfl rfl dX2_catches_46 ?_
  refine ⟨?_, rfl⟩; simp [ndK, ctK, wtK, *]

set_option maxRecDepth 100000 in
set_option maxHeartbeats 4000000 in
theorem c_X2_worth (l : Launch) (N : Nat) (g : ca_G) (k f : Int32) : ca_Ct l yX2_worth cX2_worth 2 (some .int) 0 0 0 N 1000000 [.int k, .int f] g (ca_pi (wtK k f) g) := by
  refine ca_intro (by decide) (Nat.le_of_ble_eq_true rfl) (fun X hX hN => ?_)
  show X 0 [_, _] [] N 1000000 g
  refine ca_iload_n hX (q := 1) 0 rfl rfl rfl dX2_worth_0 ?_
  by_cases e1_2 : k = 2
  · refine ca_tabIn hX 32 dX2_worth_1 (by rw [e1_2]; decide) (by rw [e1_2]; decide) (by rw [e1_2]; rfl) rfl ?_
    refine ca_bipush hX (q := 34) k_bipush_6 rfl dX2_worth_32 ?_
    refine ca_iload_n hX (q := 35) 1 rfl rfl rfl dX2_worth_34 ?_
    refine ca_iadd hX (q := 36) rfl dX2_worth_35 ?_
    refine ca_iret hX rfl rfl rfl rfl dX2_worth_36 ?_
    refine ⟨?_, rfl⟩; simp [ndK, ctK, wtK, *]
  by_cases e1_3 : k = 3
  · refine ca_tabIn hX 37 dX2_worth_1 (by rw [e1_3]; decide) (by rw [e1_3]; decide) (by rw [e1_3]; rfl) rfl ?_
    refine ca_iconst hX (q := 38) k_iconst_2 rfl dX2_worth_37 ?_
    refine ca_bipush hX (q := 40) k_bipush_6 rfl dX2_worth_38 ?_
    refine ca_iload_n hX (q := 41) 1 rfl rfl rfl dX2_worth_40 ?_
    refine ca_iadd hX (q := 42) rfl dX2_worth_41 ?_
    refine ca_imul hX (q := 43) rfl dX2_worth_42 ?_
    refine ca_iret hX rfl rfl rfl rfl dX2_worth_43 ?_
    refine ⟨?_, rfl⟩; simp [ndK, ctK, wtK, *]
  by_cases e1_4 : k = 4
  · refine ca_tabIn hX 44 dX2_worth_1 (by rw [e1_4]; decide) (by rw [e1_4]; decide) (by rw [e1_4]; rfl) rfl ?_
    refine ca_iconst hX (q := 45) k_iconst_0 rfl dX2_worth_44 ?_
    refine ca_iret hX rfl rfl rfl rfl dX2_worth_45 ?_
    refine ⟨?_, rfl⟩; simp [ndK, ctK, wtK, *]
  by_cases e1_5 : k = 5
  · refine ca_tabIn hX 46 dX2_worth_1 (by rw [e1_5]; decide) (by rw [e1_5]; decide) (by rw [e1_5]; rfl) rfl ?_
    refine ca_iload_n hX (q := 47) 1 rfl rfl rfl dX2_worth_46 ?_
    refine ca_iret hX rfl rfl rfl rfl dX2_worth_47 ?_
    refine ⟨?_, rfl⟩; simp [ndK, ctK, wtK, *]
  refine ca_tabOut hX 48 dX2_worth_1 (by have z0 := lv_neT (k := 2) (a := 2) e1_2 (by decide); have z1 := lv_neT (k := 3) (a := 3) e1_3 (by decide); have z2 := lv_neT (k := 4) (a := 4) e1_4 (by decide); have z3 := lv_neT (k := 5) (a := 5) e1_5 (by decide); omega) rfl ?_
  refine ca_iconst hX (q := 49) k_iconst_1 rfl dX2_worth_48 ?_
  refine ca_iload_n hX (q := 50) 1 rfl rfl rfl dX2_worth_49 ?_
  refine ca_iadd hX (q := 51) rfl dX2_worth_50 ?_
  refine ca_iret hX rfl rfl rfl rfl dX2_worth_51 ?_
  refine ⟨?_, rfl⟩; simp [ndK, ctK, wtK, *]

def bcI (x : Int32) : Int32 :=
  let ush := fun (a b : Int32) => (a.toUInt32 >>> (b.toUInt32 &&& Int32.toUInt32 31)).toInt32
  let a := x - (ush x 1 &&& 1431655765)
  let b := (a &&& 858993459) + (ush a 2 &&& 858993459)
  let c := (b + ush b 4) &&& 252645135
  let d := c + ush c 8
  let e := d + ush d 16
  e &&& 63

set_option maxRecDepth 100000 in
set_option maxHeartbeats 4000000 in
theorem c_J6_bitCount (l : Launch) (N : Nat) (g : ca_G) (x : Int32) : ca_Ct l yJ6_bitCount_0f7a4 cJ6_bitCount_0f7a4 1 (some .int) 0 0 0 N 1000000 [.int x] g (ca_pi (bcI x) g) := by
  refine ca_intro (by decide) (Nat.le_of_ble_eq_true rfl) (fun X hX hN => ?_)
  show X 0 [_] [] N 1000000 g
  refine ca_iload_n hX (q := 1) 0 rfl rfl rfl dJ6_bitCount_0f7a4_0 ?_
  refine ca_iload_n hX (q := 2) 0 rfl rfl rfl dJ6_bitCount_0f7a4_1 ?_
  refine ca_iconst hX (q := 3) k_iconst_1 rfl dJ6_bitCount_0f7a4_2 ?_
  refine ca_iushr hX (q := 4) rfl dJ6_bitCount_0f7a4_3 ?_
  refine ca_ldcw hX (q := 7) w_k_J6_265 rfl dJ6_bitCount_0f7a4_4 ?_
  refine ca_iand hX (q := 8) rfl dJ6_bitCount_0f7a4_7 ?_
  refine ca_isub hX (q := 9) rfl dJ6_bitCount_0f7a4_8 ?_
  refine ca_istore_n hX (q := 10) 0 rfl (ls' := [_]) (Nat.le_of_ble_eq_true rfl) (Nat.le_of_ble_eq_true rfl) (Or.inl rfl) rfl rfl dJ6_bitCount_0f7a4_9 ?_
  refine ca_iload_n hX (q := 11) 0 rfl rfl rfl dJ6_bitCount_0f7a4_10 ?_
  refine ca_ldcw hX (q := 14) w_k_J6_266 rfl dJ6_bitCount_0f7a4_11 ?_
  refine ca_iand hX (q := 15) rfl dJ6_bitCount_0f7a4_14 ?_
  refine ca_iload_n hX (q := 16) 0 rfl rfl rfl dJ6_bitCount_0f7a4_15 ?_
  refine ca_iconst hX (q := 17) k_iconst_2 rfl dJ6_bitCount_0f7a4_16 ?_
  refine ca_iushr hX (q := 18) rfl dJ6_bitCount_0f7a4_17 ?_
  refine ca_ldcw hX (q := 21) w_k_J6_266 rfl dJ6_bitCount_0f7a4_18 ?_
  refine ca_iand hX (q := 22) rfl dJ6_bitCount_0f7a4_21 ?_
  refine ca_iadd hX (q := 23) rfl dJ6_bitCount_0f7a4_22 ?_
  refine ca_istore_n hX (q := 24) 0 rfl (ls' := [_]) (Nat.le_of_ble_eq_true rfl) (Nat.le_of_ble_eq_true rfl) (Or.inl rfl) rfl rfl dJ6_bitCount_0f7a4_23 ?_
  refine ca_iload_n hX (q := 25) 0 rfl rfl rfl dJ6_bitCount_0f7a4_24 ?_
  refine ca_iload_n hX (q := 26) 0 rfl rfl rfl dJ6_bitCount_0f7a4_25 ?_
  refine ca_iconst hX (q := 27) k_iconst_4 rfl dJ6_bitCount_0f7a4_26 ?_
  refine ca_iushr hX (q := 28) rfl dJ6_bitCount_0f7a4_27 ?_
  refine ca_iadd hX (q := 29) rfl dJ6_bitCount_0f7a4_28 ?_
  refine ca_ldcw hX (q := 32) w_k_J6_267 rfl dJ6_bitCount_0f7a4_29 ?_
  refine ca_iand hX (q := 33) rfl dJ6_bitCount_0f7a4_32 ?_
  refine ca_istore_n hX (q := 34) 0 rfl (ls' := [_]) (Nat.le_of_ble_eq_true rfl) (Nat.le_of_ble_eq_true rfl) (Or.inl rfl) rfl rfl dJ6_bitCount_0f7a4_33 ?_
  refine ca_iload_n hX (q := 35) 0 rfl rfl rfl dJ6_bitCount_0f7a4_34 ?_
  refine ca_iload_n hX (q := 36) 0 rfl rfl rfl dJ6_bitCount_0f7a4_35 ?_
  refine ca_bipush hX (q := 38) k_bipush_8 rfl dJ6_bitCount_0f7a4_36 ?_
  refine ca_iushr hX (q := 39) rfl dJ6_bitCount_0f7a4_38 ?_
  refine ca_iadd hX (q := 40) rfl dJ6_bitCount_0f7a4_39 ?_
  refine ca_istore_n hX (q := 41) 0 rfl (ls' := [_]) (Nat.le_of_ble_eq_true rfl) (Nat.le_of_ble_eq_true rfl) (Or.inl rfl) rfl rfl dJ6_bitCount_0f7a4_40 ?_
  refine ca_iload_n hX (q := 42) 0 rfl rfl rfl dJ6_bitCount_0f7a4_41 ?_
  refine ca_iload_n hX (q := 43) 0 rfl rfl rfl dJ6_bitCount_0f7a4_42 ?_
  refine ca_bipush hX (q := 45) k_bipush_16 rfl dJ6_bitCount_0f7a4_43 ?_
  refine ca_iushr hX (q := 46) rfl dJ6_bitCount_0f7a4_45 ?_
  refine ca_iadd hX (q := 47) rfl dJ6_bitCount_0f7a4_46 ?_
  refine ca_istore_n hX (q := 48) 0 rfl (ls' := [_]) (Nat.le_of_ble_eq_true rfl) (Nat.le_of_ble_eq_true rfl) (Or.inl rfl) rfl rfl dJ6_bitCount_0f7a4_47 ?_
  refine ca_iload_n hX (q := 49) 0 rfl rfl rfl dJ6_bitCount_0f7a4_48 ?_
  refine ca_bipush hX (q := 51) k_bipush_63 rfl dJ6_bitCount_0f7a4_49 ?_
  refine ca_iand hX (q := 52) rfl dJ6_bitCount_0f7a4_51 ?_
  refine ca_iret hX rfl rfl rfl rfl dJ6_bitCount_0f7a4_52 ?_
  exact ⟨rfl, rfl⟩
