/-! a whole fire: minute by minute what is said, until nothing more can burn -/
def goM (fr : Nat → Int32) : Nat → Nat → Bool
  | _, 0 => false
  | m, n + 1 => if fr m = 0 then goM fr (m + 1) n else true
theorem goM_t {fr : Nat → Int32} {j : Nat} (h : fr j ≠ 0) : ∀ n m, m ≤ j → j < m + n → goM fr m n = true
  | 0, m, h1, h2 => by omega
  | n + 1, m, h1, h2 => by
    rw [goM]
    split
    · next e =>
      have : m ≠ j := fun q => h (q ▸ e)
      exact goM_t h n (m + 1) (by omega) (by omega)
    · rfl
theorem goM_f {fr : Nat → Int32} : ∀ n m, (∀ j, m ≤ j → j < m + n → fr j = 0) → goM fr m n = false
  | 0, _, _ => rfl
  | n + 1, m, h => by
    rw [goM, if_pos (h m (Nat.le_refl _) (by omega))]
    exact goM_f n (m + 1) (fun j h1 h2 => h j (by omega) (by omega))
/-- whoever's turn it is in this minute is silent -/
def siM (x : Int32) (m : Nat) : Bool := decide (m ≤ 7) && bt x (m - 1)
/-- the said rooms, the last minute in which somebody could speak, what was said -/
def rnM (ct wo : Nat → Int32) (s0 : Int32) (ab : Nat → Int32) (x : Int32) : Nat → Nat → Int32 → (Nat → Int32) → Int32 × Nat × (Nat → Int32)
  | 0, m, sr, si => (sr, m - 1, si)
  | n + 1, m, sr, si =>
    if goM (frM ct sr s0) m (101 - m) = true then
      (if siM x m = true then rnM ct wo s0 ab x n (m + 1) sr (upd si m (-9))
       else if chM (frM ct sr s0) wo (ab m) m (101 - m) = -9 then rnM ct wo s0 ab x n (m + 1) sr (upd si m (-9))
       else rnM ct wo s0 ab x n (m + 1) (sr ||| 1 <<< (chM (frM ct sr s0) wo (ab m) m (101 - m) &&& 31)) (upd si m (chM (frM ct sr s0) wo (ab m) m (101 - m))))
    else (sr, m - 1, si)
theorem ab_eq {B B1 : Nat → Nat → Int32} {S : Nat} (e2 : B1 2 = B 2) (e3 : B1 3 = B 3) (e8 : B1 8 0 = B 8 0) (m : Nat) : abM B1 S m = abM B S m := by
  unfold abM sbM spM
  rw [e2, e3, e8]

set_option maxRecDepth 100000 in
set_option maxHeartbeats 4000000 in
theorem c_X0_burn (l : Launch) (N : Nat) (g : ca_G) (z : Nat) (B : Nat → Nat → Int32) (hz : bzG g z B) (hb : z + 9 ≤ N) (S : Nat) (hS : B 8 1 = nI S) (hS5 : S ≤ 5) (P : Nat) (hP : B 8 0 = nI P) (hP5 : P ≤ 5) (r0 : Nat) (hr0 : r0 < 25) (x : Int32) : ca_Ct l yX0_burn cX0_burn 5 none 3 0 0 N 1000000 [.ref z, .int (nI r0), .int x] g (fun rr g' => rr = none ∧ frG g g' z (z + 9) ∧ ∃ B' L, bzG g' z B' ∧ vsM B' (1 <<< (nI r0 &&& 31)) L ∧ B' 0 = B 0 ∧ B' 1 = B 1 ∧ B' 2 = B 2 ∧ B' 3 = B 3 ∧ B' 8 0 = B 8 0 ∧ B' 8 1 = B 8 1 ∧ B' 8 2 = (rnM (B 0) (B 1) (1 <<< (nI r0 &&& 31)) (abM B S) x 100 1 0 (B 7)).1 ∧ B' 8 4 = nI (rnM (B 0) (B 1) (1 <<< (nI r0 &&& 31)) (abM B S) x 100 1 0 (B 7)).2.1 ∧ (rnM (B 0) (B 1) (1 <<< (nI r0 &&& 31)) (abM B S) x 100 1 0 (B 7)).2.1 < 101 ∧ B' 7 = (rnM (B 0) (B 1) (1 <<< (nI r0 &&& 31)) (abM B S) x 100 1 0 (B 7)).2.2) := by
  refine ca_intro (by decide) (Nat.le_of_ble_eq_true rfl) (fun X hX hN => ?_)
  show X 0 [_, _, _, none, none] [] N 1000000 g
  obtain ⟨K, hK⟩ : ∃ K, K = rnM (B 0) (B 1) (1 <<< (nI r0 &&& 31)) (abM B S) x 100 1 0 (B 7) := ⟨_, rfl⟩
  have loop : ∀ (n m : Nat), m + n = 101 → 1 ≤ m → ∀ g1 B1 L, bzG g1 z B1 → frG g g1 z (z + 9) → vsM B1 (1 <<< (nI r0 &&& 31)) L → B1 0 = B 0 → B1 1 = B 1 → B1 2 = B 2 → B1 3 = B 3 → B1 8 0 = B 8 0 → B1 8 1 = B 8 1 → K = rnM (B 0) (B 1) (1 <<< (nI r0 &&& 31)) (abM B S) x n m (B1 8 2) (B1 7) → ∀ o, X 48 [some (.ref z), some (.int (nI r0)), some (.int x), some (.int (nI m)), o] [] N 1000000 g1 := by
    intro n
    induction n with
    | zero =>
      intro m hm hm1 g B1 L hz hfr hv e0 e1 e2 e3 e80 e81 er o
      have hm101 : m = 101 := by omega
      obtain ⟨c0, c1, c2, c3, c4, c5, c6, c7, c8⟩ := id hz
      refine ca_iload_n hX (q := 49) 3 rfl rfl rfl dX0_burn_48 ?_
      refine ca_bipush hX (q := 51) k_bipush_101 rfl dX0_burn_49 ?_
      refine ca_icmp_ge hX (q := 54) 113 rfl rfl dX0_burn_51 (fun _ => ?_) (fun z => absurd (by rw [hm101]; exact nI_le (a := 101) (b := 101) (by omega) (by omega)) z)
      refine ca_aload_n hX (q := 114) 0 rfl rfl rfl dX0_burn_113 ?_
      refine ca_iload_n hX (q := 115) 3 rfl rfl rfl dX0_burn_114 ?_
      refine ca_iconst hX (q := 116) k_iconst_1 rfl dX0_burn_115 ?_
      refine ca_isub hX (q := 117) rfl dX0_burn_116 ?_
      refine ca_puti hX (q := 120) (fs' := [_, _, _, _, _, _, _, _, _, _, _, _, _]) cl_X0 12 (by decide) w_fl_X0_93 rfl rfl (by omega) hN c0 (Nat.le_of_ble_eq_true rfl) rfl rfl dX0_burn_117 (fun g hE hF => ?_)
      have hz := bz_s4 hz hE hF
      obtain ⟨c0, c1, c2, c3, c4, c5, c6, c7, c8⟩ := id hz
      have hfr := frG.tr hfr (fun j hj => hF j (by omega))
      refine ca_vret hX rfl rfl rfl rfl dX0_burn_120 ?_
      have e : rnM (B 0) (B 1) (1 <<< (nI r0 &&& 31)) (abM B S) x 100 1 0 (B 7) = (B1 8 2, m - 1, B1 7) := by
        rw [← hK]
        rw [er]; rfl
      refine ⟨rfl, hfr, upB B1 8 4 (nI (m - 1)), L, by rw [← nI_m1 (by omega)]; exact hz, ?_, e0, e1, e2, e3, e80, e81, ?_, ?_, ?_, ?_⟩
      · exact hv
      · rw [e]; rfl
      · rw [e, upB_s, upd_s]
      · rw [e]; show m - 1 < 101; omega
      · rw [e]; rfl
    | succ n ih =>
      intro m hm hm1 g B1 L hz hfr hv e0 e1 e2 e3 e80 e81 er o
      obtain ⟨c0, c1, c2, c3, c4, c5, c6, c7, c8⟩ := id hz
      refine ca_iload_n hX (q := 49) 3 rfl rfl rfl dX0_burn_48 ?_
      refine ca_bipush hX (q := 51) k_bipush_101 rfl dX0_burn_49 ?_
      refine ca_icmp_ge hX (q := 54) 113 rfl rfl dX0_burn_51 (fun z => absurd z (nI_ge (a := m) (b := 101) (by omega) (by omega))) (fun _ => ?_)
      refine ca_iload_n hX (q := 55) 3 rfl rfl rfl dX0_burn_54 ?_
      refine ca_aload_n hX (q := 56) 0 rfl rfl rfl dX0_burn_55 ?_
      refine ca_getf hX (q := 59) cl_X0 11 (by decide) w_fl_X0_87 (by omega) c0 rfl rfl dX0_burn_56 ?_
      refine ca_icmp_gt hX (q := 62) 113 rfl rfl dX0_burn_59 (fun c59 => ?_) (fun c59 => ?_)
      · refine ca_aload_n hX (q := 114) 0 rfl rfl rfl dX0_burn_113 ?_
        refine ca_iload_n hX (q := 115) 3 rfl rfl rfl dX0_burn_114 ?_
        refine ca_iconst hX (q := 116) k_iconst_1 rfl dX0_burn_115 ?_
        refine ca_isub hX (q := 117) rfl dX0_burn_116 ?_
        refine ca_puti hX (q := 120) (fs' := [_, _, _, _, _, _, _, _, _, _, _, _, _]) cl_X0 12 (by decide) w_fl_X0_93 rfl rfl (by omega) hN c0 (Nat.le_of_ble_eq_true rfl) rfl rfl dX0_burn_117 (fun g hE hF => ?_)
        have hz := bz_s4 hz hE hF
        obtain ⟨c0, c1, c2, c3, c4, c5, c6, c7, c8⟩ := id hz
        have hfr := frG.tr hfr (fun j hj => hF j (by omega))
        refine ca_vret hX rfl rfl rfl rfl dX0_burn_120 ?_
        have e : rnM (B 0) (B 1) (1 <<< (nI r0 &&& 31)) (abM B S) x 100 1 0 (B 7) = (B1 8 2, m - 1, B1 7) := by
          rw [← hK]
          rw [er, rnM, if_neg]
          rw [goM_f _ _ (fun j h1 h2 => by
            have hmL : L < m := nI_hi2 (by rw [hv.1] at c59; exact c59) (by have := hv.2.1; omega) (by omega)
            rw [← e0]; exact vs_zero hv (by omega) (by omega))]
          simp
        refine ⟨rfl, hfr, upB B1 8 4 (nI (m - 1)), L, by rw [← nI_m1 (by omega)]; exact hz, ?_, e0, e1, e2, e3, e80, e81, ?_, ?_, ?_, ?_⟩
        · exact hv
        · rw [e]; rfl
        · rw [e, upB_s, upd_s]
        · rw [e]; show m - 1 < 101; omega
        · rw [e]; rfl
      · have hgo : goM (frM (B 0) (B1 8 2) (1 <<< (nI r0 &&& 31))) m (101 - m) = true := by
          have hmL : m ≤ L := nI_lo2 (by rw [hv.1] at c59; exact c59) (by have := hv.2.1; omega) (by omega)
          rcases hv.2.2.2.1 with q | q
          · omega
          · rw [e0] at q; exact goM_t q _ _ hmL (by have := hv.2.1; omega)
        have mid : ∀ sv, sv = (if siM x m = true then (1 : Int32) else 0) → X 86 [some (.ref z), some (.int (nI r0)), some (.int x), some (.int (nI m)), some (.int sv)] [] N 1000000 g := by
          intro sv hsv
          refine ca_aload_n hX (q := 87) 0 rfl rfl rfl dX0_burn_86 ?_
          refine ca_getf hX (q := 90) cl_X0 7 (by decide) w_fl_X0_33 (by omega) c0 rfl rfl dX0_burn_87 ?_
          refine ca_iload_n hX (q := 91) 3 rfl rfl rfl dX0_burn_90 ?_
          refine ca_iload hX (q := 93) rfl rfl dX0_burn_91 ?_
          refine ca_if_eq hX (q := 96) 101 rfl rfl dX0_burn_93 (fun c93 => ?_) (fun c93 => ?_)
          · refine ca_aload_n hX (q := 102) 0 rfl rfl rfl dX0_burn_101 ?_
            refine ca_iload_n hX (q := 103) 3 rfl rfl rfl dX0_burn_102 ?_
            refine ca_cV hX (q := 106) y_X0_speak w_ml_X0_90 (by omega) hN c0 (c_X0_speak l N g z B1 hz hb S (e81.trans hS) hS5 P (e80.trans hP) hP5 (1 <<< (nI r0 &&& 31)) L hv m (by omega) (by omega)) (by decide) rfl (Nat.le_of_ble_eq_true rfl) rfl dX0_burn_103 rfl ?_
            rintro _ g2 ⟨rfl, hf2, hcase⟩
            have hfr := frG.tr hfr hf2
            have hsi : ¬ siM x m = true := by
              intro h
              rw [hsv, if_pos h] at c93
              exact absurd c93 (by decide)
            have esd : sdM B1 (1 <<< (nI r0 &&& 31)) S m = chM (frM (B 0) (B1 8 2) (1 <<< (nI r0 &&& 31))) (B 1) (abM B S m) m (101 - m) := by
              unfold sdM
              rw [e0, e1, ab_eq e2 e3 e80]
            rcases hcase with ⟨e9, hz2⟩ | ⟨r, B2, L2, hr, er9, hz2, hv2, a0, a1, a2, a3, a7, a80, a81, a82⟩
            · rw [e9]
              rw [esd] at e9
              rw [rnM, if_pos hgo, if_neg hsi, if_pos e9] at er
              have hz := hz2
              obtain ⟨c0, c1, c2, c3, c4, c5, c6, c7, c8⟩ := id hz
              refine ca_iaS hX (q := 107) (k := m) (by omega) hN (Nat.le_refl _) c8 (by decide) rfl (by omega) rfl dX0_burn_106 (fun g hE hF => ?_)
              have hz := bz_a7 hz hE hF
              obtain ⟨c0, c1, c2, c3, c4, c5, c6, c7, c8⟩ := id hz
              have hfr := frG.tr hfr (fun j hj => hF j (by omega))
              refine ca_iinc hX (q := 110) (ls' := [_, _, _, _, _]) k_iconst_1 rfl (Nat.le_of_ble_eq_true rfl) (Or.inr rfl) rfl rfl dX0_burn_107 ?_
              refine ca_goto hX 48 rfl dX0_burn_110 ?_
              rw [nI_1]
              exact ih (m + 1) (by omega) (by omega) g (upB B1 7 m (-9)) L hz hfr hv e0 e1 e2 e3 e80 e81 er _
            · rw [er9]
              rw [esd] at er9
              rw [rnM, if_pos hgo, if_neg hsi, if_neg (by rw [er9]; exact nI_m9 r (by omega)), er9] at er
              have hz := hz2
              obtain ⟨c0, c1, c2, c3, c4, c5, c6, c7, c8⟩ := id hz
              refine ca_iaS hX (q := 107) (k := m) (by omega) hN (Nat.le_refl _) c8 (by decide) rfl (by omega) rfl dX0_burn_106 (fun g hE hF => ?_)
              have hz := bz_a7 hz hE hF
              obtain ⟨c0, c1, c2, c3, c4, c5, c6, c7, c8⟩ := id hz
              have hfr := frG.tr hfr (fun j hj => hF j (by omega))
              refine ca_iinc hX (q := 110) (ls' := [_, _, _, _, _]) k_iconst_1 rfl (Nat.le_of_ble_eq_true rfl) (Or.inr rfl) rfl rfl dX0_burn_107 ?_
              refine ca_goto hX 48 rfl dX0_burn_110 ?_
              rw [nI_1]
              refine ih (m + 1) (by omega) (by omega) g (upB B2 7 m (nI r)) L2 hz hfr hv2 (a0.trans e0) (a1.trans e1) (a2.trans e2) (a3.trans e3) (a80.trans e80) (a81.trans e81) ?_ _
              rw [er, show upB B2 7 m (nI r) 8 2 = B2 8 2 from rfl, a82, upB_s, a7]
          · refine ca_bipush hX (q := 98) k_bipush_m9 rfl dX0_burn_96 ?_
            refine ca_goto hX 106 rfl dX0_burn_98 ?_
            have hsi : siM x m = true := by
              rcases h : siM x m with _ | _
              · rw [hsv, h] at c93; simp at c93
              · rfl
            rw [rnM, if_pos hgo, if_pos hsi] at er
            refine ca_iaS hX (q := 107) (k := m) (by omega) hN (Nat.le_refl _) c8 (by decide) rfl (by omega) rfl dX0_burn_106 (fun g hE hF => ?_)
            have hz := bz_a7 hz hE hF
            obtain ⟨c0, c1, c2, c3, c4, c5, c6, c7, c8⟩ := id hz
            have hfr := frG.tr hfr (fun j hj => hF j (by omega))
            refine ca_iinc hX (q := 110) (ls' := [_, _, _, _, _]) k_iconst_1 rfl (Nat.le_of_ble_eq_true rfl) (Or.inr rfl) rfl rfl dX0_burn_107 ?_
            refine ca_goto hX 48 rfl dX0_burn_110 ?_
            rw [nI_1]
            exact ih (m + 1) (by omega) (by omega) g (upB B1 7 m (-9)) L hz hfr hv e0 e1 e2 e3 e80 e81 er _
        refine ca_iload_n hX (q := 63) 3 rfl rfl rfl dX0_burn_62 ?_
        refine ca_bipush hX (q := 65) k_bipush_7 rfl dX0_burn_63 ?_
        refine ca_icmp_gt hX (q := 68) 83 rfl rfl dX0_burn_65 (fun c65 => ?_) (fun c65 => ?_)
        · refine ca_iconst hX (q := 84) k_iconst_0 rfl dX0_burn_83 ?_
          refine ca_istore hX (q := 86) (ls' := [_, _, _, _, _]) (Nat.le_of_ble_eq_true rfl) (Nat.le_of_ble_eq_true rfl) (Or.inr rfl) rfl rfl dX0_burn_84 ?_
          refine mid 0 ?_
          rw [if_neg]
          unfold siM
          rw [decide_eq_false (by have := nI_hi2 (a := 7) (b := m) c65 (by omega) (by omega); omega)]
          simp
        · refine ca_iload_n hX (q := 69) 2 rfl rfl rfl dX0_burn_68 ?_
          refine ca_iload_n hX (q := 70) 3 rfl rfl rfl dX0_burn_69 ?_
          refine ca_iconst hX (q := 71) k_iconst_1 rfl dX0_burn_70 ?_
          refine ca_isub hX (q := 72) rfl dX0_burn_71 ?_
          refine ca_ishr hX (q := 73) rfl dX0_burn_72 ?_
          refine ca_iconst hX (q := 74) k_iconst_1 rfl dX0_burn_73 ?_
          refine ca_iand hX (q := 75) rfl dX0_burn_74 ?_
          refine ca_iconst hX (q := 76) k_iconst_1 rfl dX0_burn_75 ?_
          refine ca_icmp_ne hX (q := 79) 83 rfl rfl dX0_burn_76 (fun c76 => ?_) (fun c76 => ?_)
          · refine ca_iconst hX (q := 84) k_iconst_0 rfl dX0_burn_83 ?_
            refine ca_istore hX (q := 86) (ls' := [_, _, _, _, _]) (Nat.le_of_ble_eq_true rfl) (Nat.le_of_ble_eq_true rfl) (Or.inr rfl) rfl rfl dX0_burn_84 ?_
            refine mid 0 ?_
            have hm7 := nI_lo2 (a := 7) (b := m) c65 (by omega) (by omega)
            rw [nI_m1 (by omega), b_tst (by omega)] at c76
            rw [if_neg]
            unfold siM
            intro h
            simp only [Bool.and_eq_true] at h
            exact c76 h.2
          · refine ca_iconst hX (q := 80) k_iconst_1 rfl dX0_burn_79 ?_
            refine ca_goto hX 84 rfl dX0_burn_80 ?_
            refine ca_istore hX (q := 86) (ls' := [_, _, _, _, _]) (Nat.le_of_ble_eq_true rfl) (Nat.le_of_ble_eq_true rfl) (Or.inr rfl) rfl rfl dX0_burn_84 ?_
            refine mid 1 ?_
            have hm7 := nI_lo2 (a := 7) (b := m) c65 (by omega) (by omega)
            rw [nI_m1 (by omega), b_tst (by omega)] at c76
            rw [if_pos]
            unfold siM
            rw [c76, decide_eq_true (by have := nI_lo2 (a := 7) (b := m) c65 (by omega) (by omega); omega)]
            rfl
  have hfr : frG g g z (z + 9) := frG.rf
  obtain ⟨c0, c1, c2, c3, c4, c5, c6, c7, c8⟩ := id hz
  refine ca_aload_n hX (q := 1) 0 rfl rfl rfl dX0_burn_0 ?_
  refine ca_iconst hX (q := 2) k_iconst_0 rfl dX0_burn_1 ?_
  refine ca_puti hX (q := 5) (fs' := [_, _, _, _, _, _, _, _, _, _, _, _, _]) cl_X0 10 (by decide) w_fl_X0_77 rfl rfl (by omega) hN c0 (Nat.le_of_ble_eq_true rfl) rfl rfl dX0_burn_2 (fun g hE hF => ?_)
  have hz := bz_s2 hz hE hF
  obtain ⟨c0, c1, c2, c3, c4, c5, c6, c7, c8⟩ := id hz
  have hfr := frG.tr hfr (fun j hj => hF j (by omega))
  refine ca_aload_n hX (q := 6) 0 rfl rfl rfl dX0_burn_5 ?_
  refine ca_getf hX (q := 9) cl_X0 4 (by decide) w_fl_X0_24 (by omega) c0 rfl rfl dX0_burn_6 ?_
  refine ca_iconst hX (q := 10) k_iconst_0 rfl dX0_burn_9 ?_
  refine ca_iconst hX (q := 11) k_iconst_1 rfl dX0_burn_10 ?_
  refine ca_iload_n hX (q := 12) 1 rfl rfl rfl dX0_burn_11 ?_
  refine ca_ishl hX (q := 13) rfl dX0_burn_12 ?_
  refine ca_iaS hX (q := 14) (k := 0) (by omega) hN (Nat.le_refl _) c5 (by decide) (by decide) (by decide) rfl dX0_burn_13 (fun g hE hF => ?_)
  have hz := bz_a4 hz hE hF
  obtain ⟨c0, c1, c2, c3, c4, c5, c6, c7, c8⟩ := id hz
  have hfr := frG.tr hfr (fun j hj => hF j (by omega))
  refine ca_aload_n hX (q := 15) 0 rfl rfl rfl dX0_burn_14 ?_
  refine ca_getf hX (q := 18) cl_X0 5 (by decide) w_fl_X0_27 (by omega) c0 rfl rfl dX0_burn_15 ?_
  refine ca_iconst hX (q := 19) k_iconst_0 rfl dX0_burn_18 ?_
  refine ca_aload_n hX (q := 20) 0 rfl rfl rfl dX0_burn_19 ?_
  refine ca_getf hX (q := 23) cl_X0 4 (by decide) w_fl_X0_24 (by omega) c0 rfl rfl dX0_burn_20 ?_
  refine ca_iconst hX (q := 24) k_iconst_0 rfl dX0_burn_23 ?_
  refine ca_iaN hX (q := 25) (k := 0) (by omega) c5 (by decide) (by decide) (by decide) rfl dX0_burn_24 ?_
  rw [upB_s, upd_s]
  refine ca_iaS hX (q := 26) (k := 0) (by omega) hN (Nat.le_refl _) c6 (by decide) (by decide) (by decide) rfl dX0_burn_25 (fun g hE hF => ?_)
  have hz := bz_a5 hz hE hF
  obtain ⟨c0, c1, c2, c3, c4, c5, c6, c7, c8⟩ := id hz
  have hfr := frG.tr hfr (fun j hj => hF j (by omega))
  refine ca_aload_n hX (q := 27) 0 rfl rfl rfl dX0_burn_26 ?_
  refine ca_getf hX (q := 30) cl_X0 6 (by decide) w_fl_X0_30 (by omega) c0 rfl rfl dX0_burn_27 ?_
  refine ca_iconst hX (q := 31) k_iconst_0 rfl dX0_burn_30 ?_
  refine ca_aload_n hX (q := 32) 0 rfl rfl rfl dX0_burn_31 ?_
  refine ca_getf hX (q := 35) cl_X0 5 (by decide) w_fl_X0_27 (by omega) c0 rfl rfl dX0_burn_32 ?_
  refine ca_iconst hX (q := 36) k_iconst_0 rfl dX0_burn_35 ?_
  refine ca_iaN hX (q := 37) (k := 0) (by omega) c6 (by decide) (by decide) (by decide) rfl dX0_burn_36 ?_
  rw [upB_s, upd_s]
  refine ca_cSi hX (q := 40) y_X0_allBeside w_ml_X0_80 hN (c_X0_allBeside l N g _) (by decide) rfl (Nat.le_of_ble_eq_true rfl) rfl dX0_burn_37 rfl ?_
  refine ca_iaS hX (q := 41) (k := 0) (by omega) hN (Nat.le_refl _) c7 (by decide) (by decide) (by decide) rfl dX0_burn_40 (fun g hE hF => ?_)
  have hz := bz_a6 hz hE hF
  obtain ⟨c0, c1, c2, c3, c4, c5, c6, c7, c8⟩ := id hz
  have hfr := frG.tr hfr (fun j hj => hF j (by omega))
  refine ca_aload_n hX (q := 42) 0 rfl rfl rfl dX0_burn_41 ?_
  refine ca_iconst hX (q := 43) k_iconst_1 rfl dX0_burn_42 ?_
  refine ca_cV hX (q := 46) y_X0_spreadFrom w_ml_X0_83 (by omega) hN c0 (c_X0_spreadFrom l N g z _ hz hb (1 <<< (nI r0 &&& 31)) 1 (by omega) (by omega) (fun j hj => by obtain rfl : j = 0 := (by omega); exact ⟨rfl, rfl, rfl⟩)) (by decide) rfl (by decide) rfl dX0_burn_43 rfl ?_
  rintro _ g3 ⟨rfl, ⟨B3, L3, hz3, ⟨a0, a1, a2, a3, a7, a8⟩, hv3⟩, hf3⟩
  refine ca_iconst hX (q := 47) k_iconst_1 rfl dX0_burn_46 ?_
  refine ca_istore_n hX (q := 48) 3 rfl (ls' := [_, _, _, _, _]) (Nat.le_of_ble_eq_true rfl) (Nat.le_of_ble_eq_true rfl) (Or.inr rfl) rfl rfl dX0_burn_47 ?_
  refine loop 100 1 rfl (by omega) g3 B3 L3 hz3 (frG.tr hfr hf3) hv3 a0 a1 a2 a3 (a8 0 (by omega)) (a8 1 (by omega)) ?_ _
  rw [a8 2 (by omega), a7, hK]
  rfl

