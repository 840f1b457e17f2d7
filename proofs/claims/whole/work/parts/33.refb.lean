/-! what is to be said, in the reference -/
def tyM (bu so f : Nat → Int32) (p : Nat) : Nat → Int32
  | 0 => -9
  | n + 1 => if bu n < 0 ∧ ¬ so n = 1000000000 ∧ ¬ knB f p n = 0 then
      (if tyM bu so f p n < 0 then nI n else if so n < so (tyM bu so f p n).toNatClampNeg then nI n else
       if so n = so (tyM bu so f p n).toNatClampNeg ∧ wtK (f (2 + (tyM bu so f p n).toNatClampNeg)) (f (27 + (tyM bu so f p n).toNatClampNeg)) < wtK (f (2 + n)) (f (27 + n)) then nI n else tyM bu so f p n)
      else tyM bu so f p n
theorem tyM_cases (bu so f : Nat → Int32) (p : Nat) : ∀ n, tyM bu so f p n = -9 ∨ ∃ q, q < n ∧ tyM bu so f p n = nI q
  | 0 => Or.inl rfl
  | n + 1 => by
    have ih := tyM_cases bu so f p n
    have ih' : tyM bu so f p n = -9 ∨ ∃ q, q < n + 1 ∧ tyM bu so f p n = nI q := by
      rcases ih with h | ⟨q, h1, h2⟩
      · exact Or.inl h
      · exact Or.inr ⟨q, by omega, h2⟩
    rw [tyM]
    split
    · split
      · exact Or.inr ⟨n, by omega, rfl⟩
      · split
        · exact Or.inr ⟨n, by omega, rfl⟩
        · split
          · exact Or.inr ⟨n, by omega, rfl⟩
          · exact ih'
    · exact ih'

set_option maxRecDepth 100000 in
set_option maxHeartbeats 4000000 in
theorem c_X6_toSay (l : Launch) (N : Nat) (g : ca_G) (o : Nat) (M : Nat → Nat → Int32) (hm : mdG g o M) (ho : o + 14 ≤ N) (t : Nat) (f : Nat → Int32) (ht : g t = .inl (182, f)) (hto : o < t) (htd : t < o + 3) (p : Nat) (hp : p < 5) : ca_Ct l yX6_toSay cX6_toSay 5 (some .int) 2 0 0 N 1000000 [.ref o, .ref t, .int (nI p)] g (ca_pi (tyM (M 7) (M 8) f p 25) g) := by
  refine ca_intro (by decide) (Nat.le_of_ble_eq_true rfl) (fun X hX hN => ?_)
  show X 0 [_, _, _, none, none] [] N 1000000 g
  obtain ⟨c0, c1, c2, c3, c4, c5, c6, c7, c8, c9, c10, c11, c12, c13⟩ := id hm
  have loop : ∀ (n i : Nat), i + n = 25 → X 6 [some (.ref o), some (.ref t), some (.int (nI p)), some (.int (tyM (M 7) (M 8) f p i)), some (.int (nI i))] [] N 1000000 g := by
    intro n
    induction n with
    | zero =>
      intro i hi
      obtain rfl : i = 25 := by omega
      refine ca_iload hX (q := 8) rfl rfl dX6_toSay_6 ?_
      refine ca_bipush hX (q := 10) k_bipush_25 rfl dX6_toSay_8 ?_
      refine ca_icmp_ge hX (q := 13) 107 rfl rfl dX6_toSay_10 (fun _ => ?_) (fun z => absurd (nI_le (a := 25) (b := 25) (by omega) (by omega)) z)
      refine ca_iload_n hX (q := 108) 3 rfl rfl rfl dX6_toSay_107 ?_
      refine ca_iret hX rfl rfl rfl rfl dX6_toSay_108 ?_
      exact ⟨rfl, rfl⟩
    | succ n ih =>
      intro i hi
      refine ca_iload hX (q := 8) rfl rfl dX6_toSay_6 ?_
      refine ca_bipush hX (q := 10) k_bipush_25 rfl dX6_toSay_8 ?_
      refine ca_icmp_ge hX (q := 13) 107 rfl rfl dX6_toSay_10 (fun z => absurd z (nI_ge (a := i) (b := 25) (by omega) (by omega))) (fun _ => ?_)
      refine ca_aload_n hX (q := 14) 0 rfl rfl rfl dX6_toSay_13 ?_
      refine ca_getf hX (q := 17) cl_X6 10 (by decide) w_fl_X6_31 (by omega) c0 rfl rfl dX6_toSay_14 ?_
      refine ca_iload hX (q := 19) rfl rfl dX6_toSay_17 ?_
      refine ca_iaN hX (q := 20) (k := i) (by omega) c8 (by decide) rfl (by omega) rfl dX6_toSay_19 ?_
      refine ca_if_ge hX (q := 23) 101 rfl rfl dX6_toSay_20 (fun c20 => ?_) (fun c20 => ?_)
      · refine ca_iinc hX (q := 104) (ls' := [_, _, _, _, _]) k_iconst_1 rfl (Nat.le_of_ble_eq_true rfl) (Or.inr rfl) rfl rfl dX6_toSay_101 ?_
        refine ca_goto hX 6 rfl dX6_toSay_104 ?_
        rw [nI_1]
        have e : tyM (M 7) (M 8) f p (i + 1) = tyM (M 7) (M 8) f p i := by
          rw [tyM, if_neg (fun z => Int32.not_lt.mpr c20 z.1)]
        have z := ih (i + 1) (by omega)
        rw [e] at z
        exact z
      · refine ca_aload_n hX (q := 24) 0 rfl rfl rfl dX6_toSay_23 ?_
        refine ca_getf hX (q := 27) cl_X6 11 (by decide) w_fl_X6_34 (by omega) c0 rfl rfl dX6_toSay_24 ?_
        refine ca_iload hX (q := 29) rfl rfl dX6_toSay_27 ?_
        refine ca_iaN hX (q := 30) (k := i) (by omega) c9 (by decide) rfl (by omega) rfl dX6_toSay_29 ?_
        refine ca_ldc hX (q := 32) w_k_X6_63 rfl dX6_toSay_30 ?_
        refine ca_icmp_eq hX (q := 35) 101 rfl rfl dX6_toSay_32 (fun c32 => ?_) (fun c32 => ?_)
        · refine ca_iinc hX (q := 104) (ls' := [_, _, _, _, _]) k_iconst_1 rfl (Nat.le_of_ble_eq_true rfl) (Or.inr rfl) rfl rfl dX6_toSay_101 ?_
          refine ca_goto hX 6 rfl dX6_toSay_104 ?_
          rw [nI_1]
          have e : tyM (M 7) (M 8) f p (i + 1) = tyM (M 7) (M 8) f p i := by
            rw [tyM, if_neg (fun z => z.2.1 c32)]
          have z := ih (i + 1) (by omega)
          rw [e] at z
          exact z
        · refine ca_aload_n hX (q := 36) 1 rfl rfl rfl dX6_toSay_35 ?_
          refine ca_iload_n hX (q := 37) 2 rfl rfl rfl dX6_toSay_36 ?_
          refine ca_iload hX (q := 39) rfl rfl dX6_toSay_37 ?_
          refine ca_cSi hX (q := 42) y_X6_isKnown w_ml_X6_81 hN (c_X6_isKnown l N g t f ht (by omega) p i hp (by omega)) (by decide) rfl (by decide) rfl dX6_toSay_39 rfl ?_
          refine ca_if_ne hX (q := 45) 48 rfl rfl dX6_toSay_42 (fun c42 => ?_) (fun c42 => ?_)
          · refine ca_iload_n hX (q := 49) 3 rfl rfl rfl dX6_toSay_48 ?_
            refine ca_if_lt hX (q := 52) 98 rfl rfl dX6_toSay_49 (fun c49 => ?_) (fun c49 => ?_)
            · refine ca_iload hX (q := 100) rfl rfl dX6_toSay_98 ?_
              refine ca_istore_n hX (q := 101) 3 rfl (ls' := [_, _, _, _, _]) (Nat.le_of_ble_eq_true rfl) (Nat.le_of_ble_eq_true rfl) (Or.inr rfl) rfl rfl dX6_toSay_100 ?_
              refine ca_iinc hX (q := 104) (ls' := [_, _, _, _, _]) k_iconst_1 rfl (Nat.le_of_ble_eq_true rfl) (Or.inr rfl) rfl rfl dX6_toSay_101 ?_
              refine ca_goto hX 6 rfl dX6_toSay_104 ?_
              rw [nI_1]
              have e : tyM (M 7) (M 8) f p (i + 1) = nI i := by
                rw [tyM, if_pos ⟨Int32.not_le.mp c20, c32, c42⟩, if_pos c49]
              have z := ih (i + 1) (by omega)
              rw [e] at z
              exact z
            · obtain ⟨q, hqi, eq⟩ : ∃ q, q < i ∧ tyM (M 7) (M 8) f p i = nI q := by
                rcases tyM_cases (M 7) (M 8) f p i with h | h
                · exact absurd (by rw [h]; decide) c49
                · exact h
              rw [eq]
              refine ca_aload_n hX (q := 53) 0 rfl rfl rfl dX6_toSay_52 ?_
              refine ca_getf hX (q := 56) cl_X6 11 (by decide) w_fl_X6_34 (by omega) c0 rfl rfl dX6_toSay_53 ?_
              refine ca_iload hX (q := 58) rfl rfl dX6_toSay_56 ?_
              refine ca_iaN hX (q := 59) (k := i) (by omega) c9 (by decide) rfl (by omega) rfl dX6_toSay_58 ?_
              refine ca_aload_n hX (q := 60) 0 rfl rfl rfl dX6_toSay_59 ?_
              refine ca_getf hX (q := 63) cl_X6 11 (by decide) w_fl_X6_34 (by omega) c0 rfl rfl dX6_toSay_60 ?_
              refine ca_iload_n hX (q := 64) 3 rfl rfl rfl dX6_toSay_63 ?_
              refine ca_iaN hX (q := 65) (k := q) (by omega) c9 (by decide) rfl (by omega) rfl dX6_toSay_64 ?_
              refine ca_icmp_lt hX (q := 68) 98 rfl rfl dX6_toSay_65 (fun c65 => ?_) (fun c65 => ?_)
              · refine ca_iload hX (q := 100) rfl rfl dX6_toSay_98 ?_
                refine ca_istore_n hX (q := 101) 3 rfl (ls' := [_, _, _, _, _]) (Nat.le_of_ble_eq_true rfl) (Nat.le_of_ble_eq_true rfl) (Or.inr rfl) rfl rfl dX6_toSay_100 ?_
                refine ca_iinc hX (q := 104) (ls' := [_, _, _, _, _]) k_iconst_1 rfl (Nat.le_of_ble_eq_true rfl) (Or.inr rfl) rfl rfl dX6_toSay_101 ?_
                refine ca_goto hX 6 rfl dX6_toSay_104 ?_
                rw [nI_1]
                have e : tyM (M 7) (M 8) f p (i + 1) = nI i := by
                  rw [tyM, if_pos ⟨Int32.not_le.mp c20, c32, c42⟩, if_neg c49, eq, nI_clamp (show q < 2 ^ 31 by omega), if_pos c65]
                have z := ih (i + 1) (by omega)
                rw [e] at z
                exact z
              · refine ca_aload_n hX (q := 69) 0 rfl rfl rfl dX6_toSay_68 ?_
                refine ca_getf hX (q := 72) cl_X6 11 (by decide) w_fl_X6_34 (by omega) c0 rfl rfl dX6_toSay_69 ?_
                refine ca_iload hX (q := 74) rfl rfl dX6_toSay_72 ?_
                refine ca_iaN hX (q := 75) (k := i) (by omega) c9 (by decide) rfl (by omega) rfl dX6_toSay_74 ?_
                refine ca_aload_n hX (q := 76) 0 rfl rfl rfl dX6_toSay_75 ?_
                refine ca_getf hX (q := 79) cl_X6 11 (by decide) w_fl_X6_34 (by omega) c0 rfl rfl dX6_toSay_76 ?_
                refine ca_iload_n hX (q := 80) 3 rfl rfl rfl dX6_toSay_79 ?_
                refine ca_iaN hX (q := 81) (k := q) (by omega) c9 (by decide) rfl (by omega) rfl dX6_toSay_80 ?_
                refine ca_icmp_ne hX (q := 84) 101 rfl rfl dX6_toSay_81 (fun c81 => ?_) (fun c81 => ?_)
                · refine ca_iinc hX (q := 104) (ls' := [_, _, _, _, _]) k_iconst_1 rfl (Nat.le_of_ble_eq_true rfl) (Or.inr rfl) rfl rfl dX6_toSay_101 ?_
                  refine ca_goto hX 6 rfl dX6_toSay_104 ?_
                  rw [nI_1]
                  have e : tyM (M 7) (M 8) f p (i + 1) = nI q := by
                    rw [tyM, if_pos ⟨Int32.not_le.mp c20, c32, c42⟩, if_neg c49, eq, nI_clamp (show q < 2 ^ 31 by omega), if_neg c65, if_neg (fun z => c81 z.1)]
                  have z := ih (i + 1) (by omega)
                  rw [e] at z
                  exact z
                · refine ca_aload_n hX (q := 85) 1 rfl rfl rfl dX6_toSay_84 ?_
                  refine ca_iload hX (q := 87) rfl rfl dX6_toSay_85 ?_
                  refine ca_cSi hX (q := 90) y_X6_worth w_ml_X6_85 hN (c_X6_worth l N g t f ht (by omega) i (by omega)) (by decide) rfl (Nat.le_of_ble_eq_true rfl) rfl dX6_toSay_87 rfl ?_
                  refine ca_aload_n hX (q := 91) 1 rfl rfl rfl dX6_toSay_90 ?_
                  refine ca_iload_n hX (q := 92) 3 rfl rfl rfl dX6_toSay_91 ?_
                  refine ca_cSi hX (q := 95) y_X6_worth w_ml_X6_85 hN (c_X6_worth l N g t f ht (by omega) q (by omega)) (by decide) rfl (Nat.le_of_ble_eq_true rfl) rfl dX6_toSay_92 rfl ?_
                  refine ca_icmp_le hX (q := 98) 101 rfl rfl dX6_toSay_95 (fun c95 => ?_) (fun c95 => ?_)
                  · refine ca_iinc hX (q := 104) (ls' := [_, _, _, _, _]) k_iconst_1 rfl (Nat.le_of_ble_eq_true rfl) (Or.inr rfl) rfl rfl dX6_toSay_101 ?_
                    refine ca_goto hX 6 rfl dX6_toSay_104 ?_
                    rw [nI_1]
                    have e : tyM (M 7) (M 8) f p (i + 1) = nI q := by
                      rw [tyM, if_pos ⟨Int32.not_le.mp c20, c32, c42⟩, if_neg c49, eq, nI_clamp (show q < 2 ^ 31 by omega), if_neg c65, if_neg (fun z => Int32.not_lt.mpr c95 z.2)]
                    have z := ih (i + 1) (by omega)
                    rw [e] at z
                    exact z
                  · refine ca_iload hX (q := 100) rfl rfl dX6_toSay_98 ?_
                    refine ca_istore_n hX (q := 101) 3 rfl (ls' := [_, _, _, _, _]) (Nat.le_of_ble_eq_true rfl) (Nat.le_of_ble_eq_true rfl) (Or.inr rfl) rfl rfl dX6_toSay_100 ?_
                    refine ca_iinc hX (q := 104) (ls' := [_, _, _, _, _]) k_iconst_1 rfl (Nat.le_of_ble_eq_true rfl) (Or.inr rfl) rfl rfl dX6_toSay_101 ?_
                    refine ca_goto hX 6 rfl dX6_toSay_104 ?_
                    rw [nI_1]
                    have e : tyM (M 7) (M 8) f p (i + 1) = nI i := by
                      rw [tyM, if_pos ⟨Int32.not_le.mp c20, c32, c42⟩, if_neg c49, eq, nI_clamp (show q < 2 ^ 31 by omega), if_neg c65, if_pos ⟨c81, Int32.not_le.mp c95⟩]
                    have z := ih (i + 1) (by omega)
                    rw [e] at z
                    exact z
          · refine ca_goto hX 101 rfl dX6_toSay_45 ?_
            refine ca_iinc hX (q := 104) (ls' := [_, _, _, _, _]) k_iconst_1 rfl (Nat.le_of_ble_eq_true rfl) (Or.inr rfl) rfl rfl dX6_toSay_101 ?_
            refine ca_goto hX 6 rfl dX6_toSay_104 ?_
            rw [nI_1]
            have e : tyM (M 7) (M 8) f p (i + 1) = tyM (M 7) (M 8) f p i := by
              rw [tyM, if_neg (fun z => z.2.2 c42)]
            have z := ih (i + 1) (by omega)
            rw [e] at z
            exact z
  refine ca_bipush hX (q := 2) k_bipush_m9 rfl dX6_toSay_0 ?_
  refine ca_istore_n hX (q := 3) 3 rfl (ls' := [_, _, _, _, _]) (Nat.le_of_ble_eq_true rfl) (Nat.le_of_ble_eq_true rfl) (Or.inr rfl) rfl rfl dX6_toSay_2 ?_
  refine ca_iconst hX (q := 4) k_iconst_0 rfl dX6_toSay_3 ?_
  refine ca_istore hX (q := 6) (ls' := [_, _, _, _, _]) (Nat.le_of_ble_eq_true rfl) (Nat.le_of_ble_eq_true rfl) (Or.inr rfl) rfl rfl dX6_toSay_4 ?_
  exact loop 25 0 (by omega)

/-! the soonest minutes: what they are -/
def tauM (cat : Nat → Nat) (bu sd : Nat → Int32) (T : Nat → Nat) : Prop :=
  (∀ r, r < 25 → T r ≤ 1000000000) ∧
  (∀ r, r < 25 → ¬ bu r < 0 → bu r = nI (T r) ∧ T r < 1000) ∧
  (∀ r, r < 25 → bu r < 0 → (¬ sd r < 0 ∨ cat r = 0) → T r = 1000000000) ∧
  (∀ r w n, r < 25 → bu r < 0 → sd r < 0 → cat r ≠ 0 → w < 4 → n < 25 → bsW r w = nI n → T n < 1000000000 → T r ≤ T n + cat r) ∧
  (∀ r, r < 25 → bu r < 0 → T r < 1000000000 → ∃ w n, w < 4 ∧ n < 25 ∧ bsW r w = nI n ∧ T n < 1000000000 ∧ T r = T n + cat r)
def catM (cat : Nat → Nat) (f : Nat → Int32) : Prop := ∀ r, r < 25 → (cat r ≠ 0 ∧ cat r ≤ 4 ∧ ctF (f (2 + r)) = nI (cat r)) ∨ (cat r = 0 ∧ ctF (f (2 + r)) = 1000000000)
def sN (s : Nat → Nat) : Nat → Nat
  | 0 => 0
  | n + 1 => sN s n + s n
def uN (s : Nat → Nat) (k x : Nat) : Nat → Nat := fun j => if j = k then x else s j
theorem sN_u (s : Nat → Nat) (k x : Nat) (hx : x < s k) : ∀ n, sN (uN s k x) n ≤ sN s n ∧ (k < n → sN (uN s k x) n < sN s n)
  | 0 => ⟨Nat.le_refl _, fun h => absurd h (by omega)⟩
  | n + 1 => by
    have ih := sN_u s k x hx n
    have e : uN s k x n = if n = k then x else s n := rfl
    rw [sN, sN, e]
    by_cases q : n = k
    · subst q; rw [if_pos rfl]; exact ⟨by omega, fun _ => by omega⟩
    · rw [if_neg q]; exact ⟨by omega, fun h => by have := ih.2 (by omega); omega⟩
def siN (cat : Nat → Nat) (bu sd : Nat → Int32) (T s : Nat → Nat) : Prop := ∀ r, r < 25 → T r ≤ s r ∧ s r ≤ 1000000000 ∧ (¬ bu r < 0 → s r = T r) ∧ (bu r < 0 → (¬ sd r < 0 ∨ cat r = 0) → s r = 1000000000)
def clN (cat : Nat → Nat) (bu sd : Nat → Int32) (s : Nat → Nat) (i w0 : Nat) : Prop := ∀ r w n, (r < i ∨ (r = i ∧ w < w0)) → r < 25 → w < 4 → bu r < 0 → sd r < 0 → cat r ≠ 0 → n < 25 → bsW r w = nI n → s n < 1000000000 → s r ≤ s n + cat r
theorem tau_end {cat : Nat → Nat} {bu sd : Nat → Int32} {T s : Nat → Nat} (hT : tauM cat bu sd T) (hs : siN cat bu sd T s) (hc : clN cat bu sd s 25 0) : ∀ r, r < 25 → s r = T r := by
  have key : ∀ k r, r < 25 → T r = k → s r ≤ T r := by
    intro k
    induction k using Nat.strongRecOn with
    | _ k ih =>
      intro r hr hk
      by_cases hb : bu r < 0
      · by_cases hf : T r < 1000000000
        · obtain ⟨w, n, h1, h2, h3, h4, h5⟩ := hT.2.2.2.2 r hr hb hf
          have hsd : sd r < 0 := Decidable.byContradiction fun q => by have := hT.2.2.1 r hr hb (Or.inl q); omega
          have hcr : cat r ≠ 0 := fun q => by have := hT.2.2.1 r hr hb (Or.inr q); omega
          have hn := ih (T n) (by omega) n h2 rfl
          have := hc r w n (Or.inl hr) hr h1 hb hsd hcr h2 h3 (by omega)
          omega
        · have := (hs r hr).2.1
          omega
      · have := (hs r hr).2.2.1 hb
        omega
  intro r hr
  have h1 := key (T r) r hr rfl
  have h2 := (hs r hr).1
  omega
theorem bsW_cases {r w : Nat} (hr : r < 25) (hw : w < 4) : bsW r w = -9 ∨ ∃ n, n < 25 ∧ bsW r w = nI n := by
  unfold bsW
  by_cases h0 : w = 0
  · rw [if_pos h0]
    by_cases h : r < 5
    · rw [if_pos h]; exact Or.inl rfl
    · rw [if_neg h]; exact Or.inr ⟨r - 5, by omega, rfl⟩
  · rw [if_neg h0]
    by_cases h1 : w = 1
    · rw [if_pos h1]
      by_cases h : r % 5 = 0
      · rw [if_pos h]; exact Or.inl rfl
      · rw [if_neg h]; exact Or.inr ⟨r - 1, by omega, rfl⟩
    · rw [if_neg h1]
      by_cases h2 : w = 2
      · rw [if_pos h2]
        by_cases h : r % 5 = 4
        · rw [if_pos h]; exact Or.inl rfl
        · rw [if_neg h]; exact Or.inr ⟨r + 1, by omega, rfl⟩
      · rw [if_neg h2]
        by_cases h : 20 ≤ r
        · rw [if_pos h]; exact Or.inl rfl
        · rw [if_neg h]; exact Or.inr ⟨r + 5, by omega, rfl⟩
theorem si_relax {cat : Nat → Nat} {bu sd : Nat → Int32} {T s : Nat → Nat} {i w n : Nat} (hT : tauM cat bu sd T) (hs : siN cat bu sd T s) (hi : i < 25) (hb : bu i < 0) (hsd : sd i < 0) (hc : cat i ≠ 0) (hw : w < 4) (hn : n < 25) (e : bsW i w = nI n) (hf : s n < 1000000000) (hlt : s n + cat i < s i) : siN cat bu sd T (uN s i (s n + cat i)) := by
  intro r hr
  by_cases q : r = i
  · subst q
    have e1 : uN s r (s n + cat r) r = s n + cat r := if_pos rfl
    rw [e1]
    have h1 := (hs n hn).1
    have h2 := hT.2.2.2.1 r w n hr hb hsd hc hw hn e (by omega)
    have h3 := (hs r hr).2.1
    exact ⟨by omega, by omega, fun z => absurd hb z, fun _ z => z.elim (fun z => absurd hsd z) (fun z => absurd z hc)⟩
  · have e1 : uN s i (s n + cat i) r = s r := if_neg q
    rw [e1]
    exact hs r hr

