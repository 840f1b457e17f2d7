/-! who says what -/
theorem nI_m9 (r : Nat) (h : r < 2 ^ 31) : nI r ≠ -9 := by
  intro e
  have := congrArg Int32.toInt e
  rw [nI_toInt h] at this
  have h9 : (-9 : Int32).toInt = -9 := by decide
  omega
theorem drM_cases (x : Int32) (wo : Nat → Int32) : ∀ n, (drM x wo n).1 = -9 ∨ ∃ r, r < n ∧ (drM x wo n).1 = nI r ∧ bt x r = true
  | 0 => Or.inl rfl
  | n + 1 => by
    rw [drM]
    split
    · next h => exact Or.inr ⟨n, by omega, rfl, h.1⟩
    · rcases drM_cases x wo n with h | ⟨r, h1, h2, h3⟩
      · exact Or.inl h
      · exact Or.inr ⟨r, by omega, h2, h3⟩
theorem fr_bit {ct : Nat → Int32} {sr s0 : Int32} {k i : Nat} (hi : i < 32) (h : bt (frM ct sr s0 (k + 1)) i = true) : bt (bnM ct sr s0 k) i = false ∧ bt sr i = false := by
  rw [frM, fxM, b_and, b_and, b_not _ hi, b_not _ hi] at h
  simp only [Bool.and_eq_true, Bool.not_eq_true'] at h
  exact ⟨h.1.2, h.2⟩
theorem bn_mono {ct : Nat → Int32} {sr s0 : Int32} {i : Nat} (k : Nat) : ∀ n, bt (bnM ct sr s0 (k + n)) i = false → bt (bnM ct sr s0 k) i = false
  | 0, h => h
  | n + 1, h => by
    rw [show k + (n + 1) = k + n + 1 by omega, bnM_s, b_or] at h
    simp only [Bool.or_eq_false_iff] at h
    exact bn_mono k n h.1
theorem fx_same {ct : Nat → Int32} {sr b0 b1 b2 b3 : Int32} {r : Nat} (hr : r < 32) (h : bt (fxM ct sr b0 b1 b2 b3) r = false) : fxM ct (sr ||| 1 <<< (nI r &&& 31)) b0 b1 b2 b3 = fxM ct sr b0 b1 b2 b3 := by
  apply b_ext
  intro i hi
  by_cases e : i = r
  · subst e
    rw [h, fxM, b_and, b_not _ hi, b_or, b_one i hr]
    simp
  · rw [fxM, fxM, b_and, b_and (y := sr ^^^ -1), b_not _ hi, b_not _ hi, b_or, b_one r hr]
    simp [e]
theorem qb_same {ct : Nat → Int32} {sr s0 : Int32} {r : Nat} (hr : r < 32) : ∀ k, bt (bnM ct sr s0 k) r = false → qbM ct (sr ||| 1 <<< (nI r &&& 31)) s0 k = qbM ct sr s0 k
  | 0, _ => rfl
  | k + 1, h => by
    have h' : bt (bnM ct sr s0 k) r = false ∧ bt (frM ct sr s0 (k + 1)) r = false := by
      rw [bnM_s, b_or] at h
      simpa only [Bool.or_eq_false_iff] using h
    rw [qbM, qbM, qb_same hr k h'.1, fx_same hr (by have := h'.2; rw [frM] at this; exact this)]
theorem vd_same {B B1 : Nat → Nat → Int32} {ct : Nat → Int32} {sr s0 : Int32} {r k : Nat} (hr : r < 32) (h : bt (bnM ct sr s0 k) r = false) (e4 : B1 4 = B 4) (e5 : B1 5 = B 5) (e6 : B1 6 = B 6) {j : Nat} (hj : j ≤ k) (hv : vdM B ct sr s0 j) : vdM B1 ct (sr ||| 1 <<< (nI r &&& 31)) s0 j := by
  have hb : ∀ i, i ≤ k → bt (bnM ct sr s0 i) r = false := fun i hi => bn_mono i (k - i) (by rw [show i + (k - i) = k by omega]; exact h)
  have ef : frM ct (sr ||| 1 <<< (nI r &&& 31)) s0 j = frM ct sr s0 j := by
    cases j with
    | zero => rfl
    | succ j =>
      have h2 := hb (j + 1) hj
      rw [bnM_s, b_or] at h2
      simp only [Bool.or_eq_false_iff] at h2
      rw [frM, frM, qb_same hr j h2.1, fx_same hr (by have := h2.2; rw [frM] at this; exact this)]
  have eb : bnM ct (sr ||| 1 <<< (nI r &&& 31)) s0 j = bnM ct sr s0 j := by rw [bnM, bnM, qb_same hr j (hb j hj)]
  unfold vdM
  rw [e4, e5, e6, ef, eb]
  exact hv
/-- what is said: the first minute that has one, of these the dearest -/
def chM (fr wo : Nat → Int32) (ab : Int32) : Nat → Nat → Int32
  | _, 0 => -9
  | j, n + 1 => if (drM (fr j &&& ab) wo 25).1 = -9 then chM fr wo ab (j + 1) n else (drM (fr j &&& ab) wo 25).1
theorem dr_0 (wo : Nat → Int32) : (drM 0 wo 25).1 = -9 := by
  have := drM_stop 0 wo 0 25 (fun j _ _ => b_0 j)
  rw [Nat.zero_add] at this
  rw [this]
  rfl
theorem ch_0 {fr wo : Nat → Int32} {ab : Int32} : ∀ n j, (∀ i, j ≤ i → i < j + n → fr i = 0) → chM fr wo ab j n = -9
  | 0, _, _ => rfl
  | n + 1, j, h => by
    rw [chM, h j (Nat.le_refl _) (by omega), Int32.zero_and, dr_0, if_pos rfl]
    exact ch_0 n (j + 1) (fun i h1 h2 => h i (by omega) (by omega))
theorem fr_tail {ct : Nat → Int32} {sr s0 : Int32} {k : Nat} (h1 : frM ct sr s0 (k + 1) = 0) (h2 : frM ct sr s0 (k + 2) = 0) (h3 : frM ct sr s0 (k + 3) = 0) (h4 : frM ct sr s0 (k + 4) = 0) : frM ct sr s0 (k + 5) = 0 := by
  have b1 : bnM ct sr s0 (k + 1) = bnM ct sr s0 k := by rw [bnM_s, h1, Int32.or_zero]
  have b2 : bnM ct sr s0 (k + 2) = bnM ct sr s0 k := by rw [bnM_s ct sr s0 (k + 1), h2, Int32.or_zero, b1]
  have b3 : bnM ct sr s0 (k + 3) = bnM ct sr s0 k := by rw [bnM_s ct sr s0 (k + 2), h3, Int32.or_zero, b2]
  have b4 : bnM ct sr s0 (k + 4) = bnM ct sr s0 k := by rw [bnM_s ct sr s0 (k + 3), h4, Int32.or_zero, b3]
  have e4 : frM ct sr s0 (k + 4) = fxM ct sr (bnM ct sr s0 (k + 3)) (bnM ct sr s0 (k + 2)) (bnM ct sr s0 (k + 1)) (bnM ct sr s0 k) := rfl
  have e5 : frM ct sr s0 (k + 5) = fxM ct sr (bnM ct sr s0 (k + 4)) (bnM ct sr s0 (k + 3)) (bnM ct sr s0 (k + 2)) (bnM ct sr s0 (k + 1)) := rfl
  rw [e5, b4, b3, b2, b1]
  rw [e4, b3, b2, b1] at h4
  exact h4
theorem fr_zero {ct : Nat → Int32} {sr s0 : Int32} {L : Nat} (h : ∀ j, L < j → j ≤ L + 4 → j < 101 → frM ct sr s0 j = 0) : ∀ n, L + 1 + n < 101 → frM ct sr s0 (L + 1 + n) = 0 := by
  intro n
  induction n using Nat.strongRecOn with
  | _ n ih =>
    intro hn
    by_cases h4 : n < 4
    · exact h _ (by omega) (by omega) hn
    · have := fr_tail (ct := ct) (sr := sr) (s0 := s0) (k := L + 1 + n - 5) (by
        have := ih (n - 4) (by omega) (by omega); rwa [show L + 1 + (n - 4) = L + 1 + n - 5 + 1 by omega] at this) (by
        have := ih (n - 3) (by omega) (by omega); rwa [show L + 1 + (n - 3) = L + 1 + n - 5 + 2 by omega] at this) (by
        have := ih (n - 2) (by omega) (by omega); rwa [show L + 1 + (n - 2) = L + 1 + n - 5 + 3 by omega] at this) (by
        have := ih (n - 1) (by omega) (by omega); rwa [show L + 1 + (n - 1) = L + 1 + n - 5 + 4 by omega] at this)
      rwa [show L + 1 + n - 5 + 5 = L + 1 + n by omega] at this
theorem vs_zero {B : Nat → Nat → Int32} {s0 : Int32} {L : Nat} (h : vsM B s0 L) {j : Nat} (h1 : L < j) (h2 : j < 101) : frM (B 0) (B 8 2) s0 j = 0 := by
  have := fr_zero h.2.2.2.2 (j - (L + 1)) (by omega)
  rwa [show L + 1 + (j - (L + 1)) = j by omega] at this
def abM (B : Nat → Nat → Int32) (S m : Nat) : Int32 := sbM B (spM B S m)
def sdM (B : Nat → Nat → Int32) (s0 : Int32) (S m : Nat) : Int32 := chM (frM (B 0) (B 8 2) s0) (B 1) (abM B S m) m (101 - m)

set_option maxRecDepth 100000 in
set_option maxHeartbeats 4000000 in
theorem c_X0_speak (l : Launch) (N : Nat) (g : ca_G) (z : Nat) (B : Nat → Nat → Int32) (hz : bzG g z B) (hb : z + 9 ≤ N) (S : Nat) (hS : B 8 1 = nI S) (hS5 : S ≤ 5) (P : Nat) (hP : B 8 0 = nI P) (hP5 : P ≤ 5) (s0 : Int32) (L : Nat) (hv : vsM B s0 L) (m : Nat) (hm : 1 ≤ m) (hm2 : m < 101) : ca_Ct l yX0_speak cX0_speak 5 (some .int) 2 0 0 N 1000000 [.ref z, .int (nI m)] g (fun rr g' => rr = some (.int (sdM B s0 S m)) ∧ frG g g' z (z + 9) ∧ ((sdM B s0 S m = -9 ∧ bzG g' z B) ∨ ∃ r B' L', r < 25 ∧ sdM B s0 S m = nI r ∧ bzG g' z B' ∧ vsM B' s0 L' ∧ B' 0 = B 0 ∧ B' 1 = B 1 ∧ B' 2 = B 2 ∧ B' 3 = B 3 ∧ B' 7 = B 7 ∧ B' 8 0 = B 8 0 ∧ B' 8 1 = B 8 1 ∧ B' 8 2 = B 8 2 ||| 1 <<< (nI r &&& 31))) := by
  refine ca_intro (by decide) (Nat.le_of_ble_eq_true rfl) (fun X hX hN => ?_)
  show X 0 [_, _, none, none, none] [] N 1000000 g
  obtain ⟨c0, c1, c2, c3, c4, c5, c6, c7, c8⟩ := id hz
  have hL := hv.1
  rw [hL] at c0
  have hL1 := hv.2.1
  have loop : ∀ (n j : Nat), j + n = 102 → m ≤ j → sdM B s0 S m = chM (frM (B 0) (B 8 2) s0) (B 1) (abM B S m) j (101 - j) → ∀ o, X 12 [some (.ref z), some (.int (nI m)), some (.int (abM B S m)), some (.int (nI j)), o] [] N 1000000 g := by
    intro n
    induction n with
    | zero =>
      intro j hj hmj e o
      have hj2 : j = 102 := by omega
      refine ca_iload_n hX (q := 13) 3 rfl rfl rfl dX0_speak_12 ?_
      refine ca_aload_n hX (q := 14) 0 rfl rfl rfl dX0_speak_13 ?_
      refine ca_getf hX (q := 17) cl_X0 11 (by decide) w_fl_X0_87 (by omega) c0 rfl rfl dX0_speak_14 ?_
      refine ca_icmp_gt hX (q := 20) 74 rfl rfl dX0_speak_17 (fun _ => ?_) (fun z => absurd (nI_lt (by omega) (by omega)) z)
      refine ca_bipush hX (q := 76) k_bipush_m9 rfl dX0_speak_74 ?_
      refine ca_iret hX rfl rfl rfl rfl dX0_speak_76 ?_
      have e9 : sdM B s0 S m = -9 := by
        rw [e, show 101 - j = 0 by omega]
        rfl
      exact ⟨by rw [e9], frG.rf, Or.inl ⟨e9, hz⟩⟩
    | succ n ih =>
      intro j hj hmj e o
      refine ca_iload_n hX (q := 13) 3 rfl rfl rfl dX0_speak_12 ?_
      refine ca_aload_n hX (q := 14) 0 rfl rfl rfl dX0_speak_13 ?_
      refine ca_getf hX (q := 17) cl_X0 11 (by decide) w_fl_X0_87 (by omega) c0 rfl rfl dX0_speak_14 ?_
      refine ca_icmp_gt hX (q := 20) 74 rfl rfl dX0_speak_17 (fun c17 => ?_) (fun c17 => ?_)
      · refine ca_bipush hX (q := 76) k_bipush_m9 rfl dX0_speak_74 ?_
        refine ca_iret hX rfl rfl rfl rfl dX0_speak_76 ?_
        have hL := nI_hi2 c17 (by omega) (by omega)
        have e9 : sdM B s0 S m = -9 := by
          rw [e]
          exact ch_0 _ _ (fun i h1 h2 => vs_zero hv (by omega) (by omega))
        exact ⟨by rw [e9], frG.rf, Or.inl ⟨e9, hz⟩⟩
      · refine ca_iload_n hX (q := 21) 3 rfl rfl rfl dX0_speak_20 ?_
        refine ca_bipush hX (q := 23) k_bipush_101 rfl dX0_speak_21 ?_
        refine ca_icmp_ge hX (q := 26) 74 rfl rfl dX0_speak_23 (fun z => absurd z (nI_ge (a := j) (b := 101) (by have := nI_lo2 c17 (by omega) (by omega); omega) (by omega))) (fun _ => ?_)
        refine ca_aload_n hX (q := 27) 0 rfl rfl rfl dX0_speak_26 ?_
        refine ca_aload_n hX (q := 28) 0 rfl rfl rfl dX0_speak_27 ?_
        refine ca_getf hX (q := 31) cl_X0 4 (by decide) w_fl_X0_24 (by omega) c0 rfl rfl dX0_speak_28 ?_
        refine ca_iload_n hX (q := 32) 3 rfl rfl rfl dX0_speak_31 ?_
        have hjL := nI_lo2 c17 (by omega) (by omega)
        refine ca_iaN hX (q := 33) (k := j) (by omega) c5 (by decide) rfl (by omega) rfl dX0_speak_32 ?_
        rw [(hv.2.2.1 j (by omega) (by omega)).1]
        refine ca_iload_n hX (q := 34) 2 rfl rfl rfl dX0_speak_33 ?_
        refine ca_iand hX (q := 35) rfl dX0_speak_34 ?_
        refine ca_cVi hX (q := 38) y_X0_dearest w_ml_X0_102 (by omega) hN c0 (c_X0_dearest l N g z B hz hb _) (by decide) rfl (by decide) rfl dX0_speak_35 rfl ?_
        refine ca_istore hX (q := 40) (ls' := [_, _, _, _, _]) (Nat.le_of_ble_eq_true rfl) (Nat.le_of_ble_eq_true rfl) (Or.inr rfl) rfl rfl dX0_speak_38 ?_
        refine ca_iload hX (q := 42) rfl rfl dX0_speak_40 ?_
        refine ca_bipush hX (q := 44) k_bipush_m9 rfl dX0_speak_42 ?_
        refine ca_icmp_eq hX (q := 47) 68 rfl rfl dX0_speak_44 (fun c44 => ?_) (fun c44 => ?_)
        · refine ca_iinc hX (q := 71) (ls' := [_, _, _, _, _]) k_iconst_1 rfl (Nat.le_of_ble_eq_true rfl) (Or.inr rfl) rfl rfl dX0_speak_68 ?_
          refine ca_goto hX 12 rfl dX0_speak_71 ?_
          rw [nI_1]
          refine ih (j + 1) (by omega) (by omega) ?_ _
          rw [e, show 101 - j = 101 - (j + 1) + 1 by omega, chM, if_pos c44]
        · rcases drM_cases (frM (B 0) (B 8 2) s0 j &&& abM B S m) (B 1) 25 with h9 | ⟨r, hr, er, hbit⟩
          · exact absurd h9 c44
          rw [b_and] at hbit
          simp only [Bool.and_eq_true] at hbit
          obtain ⟨k, rfl⟩ : ∃ k, j = k + 1 := ⟨j - 1, by omega⟩
          have hbk := (fr_bit (by omega) hbit.1).1
          have esd : sdM B s0 S m = nI r := by
            rw [e, show 101 - (k + 1) = 100 - (k + 1) + 1 by omega, chM, if_neg c44, er]
          rw [er]
          refine ca_aload_n hX (q := 48) 0 rfl rfl rfl dX0_speak_47 ?_
          refine ca_dup hX (q := 49) rfl rfl dX0_speak_48 ?_
          refine ca_getf hX (q := 52) cl_X0 10 (by decide) w_fl_X0_77 (by omega) c0 rfl rfl dX0_speak_49 ?_
          refine ca_iconst hX (q := 53) k_iconst_1 rfl dX0_speak_52 ?_
          refine ca_iload hX (q := 55) rfl rfl dX0_speak_53 ?_
          refine ca_ishl hX (q := 56) rfl dX0_speak_55 ?_
          refine ca_ior hX (q := 57) rfl dX0_speak_56 ?_
          refine ca_puti hX (q := 60) (fs' := [_, _, _, _, _, _, _, _, _, _, _, _, _]) cl_X0 10 (by decide) w_fl_X0_77 rfl rfl (by omega) hN c0 (Nat.le_of_ble_eq_true rfl) rfl rfl dX0_speak_57 (fun g2 hE hF => ?_)
          rw [← hL] at hE
          have hz2 := bz_s2 hz hE hF
          have hfr : frG g g2 z (z + 9) := fun j hj => hF j (by omega)
          have hvv : ∀ i, i < k + 1 → vdM (upB B 8 2 (B 8 2 ||| 1 <<< (nI r &&& 31))) (B 0) (upB B 8 2 (B 8 2 ||| 1 <<< (nI r &&& 31)) 8 2) s0 i := by
            intro i hi
            rw [upB_s, upd_s]
            exact vd_same (B := B) (k := k) (by omega) hbk rfl rfl rfl (by omega) (hv.2.2.1 i (by omega) (by omega))
          obtain ⟨c0, c1, c2, c3, c4, c5, c6, c7, c8⟩ := id hz2
          refine ca_aload_n hX (q := 61) 0 rfl rfl rfl dX0_speak_60 ?_
          refine ca_iload_n hX (q := 62) 3 rfl rfl rfl dX0_speak_61 ?_
          refine ca_cV hX (q := 65) y_X0_spreadFrom w_ml_X0_83 (by omega) hN c0 (c_X0_spreadFrom l N g2 z _ hz2 hb s0 (k + 1) (by omega) (by omega) hvv) (by decide) rfl (by decide) rfl dX0_speak_62 rfl ?_
          rintro _ g3 ⟨rfl, ⟨B3, L3, hz3, hs3, hv3⟩, hf3⟩
          refine ca_iload hX (q := 67) rfl rfl dX0_speak_65 ?_
          refine ca_iret hX rfl rfl rfl rfl dX0_speak_67 ?_
          refine ⟨by rw [esd], frG.tr hfr hf3, Or.inr ⟨r, B3, L3, hr, esd, hz3, hv3, ?_⟩⟩
          obtain ⟨a0, a1, a2, a3, a7, a8⟩ := hs3
          exact ⟨a0, a1, a2, a3, a7, a8 0 (by omega), a8 1 (by omega), (a8 2 (by omega)).trans (by rw [upB_s, upd_s])⟩
  refine ca_aload_n hX (q := 1) 0 rfl rfl rfl dX0_speak_0 ?_
  refine ca_aload_n hX (q := 2) 0 rfl rfl rfl dX0_speak_1 ?_
  refine ca_iload_n hX (q := 3) 1 rfl rfl rfl dX0_speak_2 ?_
  refine ca_cVi hX (q := 6) y_X0_speakerIn w_ml_X0_96 (by omega) hN c0 (c_X0_speakerIn l N g z B hz hb S hS hS5 m hm (by omega)) (by decide) rfl (Nat.le_of_ble_eq_true rfl) rfl dX0_speak_3 rfl ?_
  refine ca_cVi hX (q := 9) y_X0_sayableBy w_ml_X0_99 (by omega) hN c0 (c_X0_sayableBy l N g z B hz hb P hP hP5 _) (by decide) rfl (by decide) rfl dX0_speak_6 rfl ?_
  refine ca_istore_n hX (q := 10) 2 rfl (ls' := [_, _, _, _, _]) (Nat.le_of_ble_eq_true rfl) (Nat.le_of_ble_eq_true rfl) (Or.inr rfl) rfl rfl dX0_speak_9 ?_
  refine ca_iload_n hX (q := 11) 1 rfl rfl rfl dX0_speak_10 ?_
  refine ca_istore_n hX (q := 12) 3 rfl (ls' := [_, _, _, _, _]) (Nat.le_of_ble_eq_true rfl) (Nat.le_of_ble_eq_true rfl) (Or.inr rfl) rfl rfl dX0_speak_11 ?_
  exact loop (102 - m) m (by omega) (Nat.le_refl _) rfl _

