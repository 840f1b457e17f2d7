/-! how a fire goes on, minute by minute, by bits -/
def fxM (ct : Nat → Int32) (sr b0 b1 b2 b3 : Int32) : Int32 := ((((0 ||| (ct 1 &&& bsI b0)) ||| (ct 2 &&& bsI b1)) ||| (ct 3 &&& bsI b2)) ||| (ct 4 &&& bsI b3)) &&& (b0 ^^^ (-1)) &&& (sr ^^^ (-1))
def qbM (ct : Nat → Int32) (sr s0 : Int32) : Nat → Int32 × Int32 × Int32 × Int32
  | 0 => (s0, 0, 0, 0)
  | k + 1 => ((qbM ct sr s0 k).1 ||| fxM ct sr (qbM ct sr s0 k).1 (qbM ct sr s0 k).2.1 (qbM ct sr s0 k).2.2.1 (qbM ct sr s0 k).2.2.2, (qbM ct sr s0 k).1, (qbM ct sr s0 k).2.1, (qbM ct sr s0 k).2.2.1)
def bnM (ct : Nat → Int32) (sr s0 : Int32) (k : Nat) : Int32 := (qbM ct sr s0 k).1
def frM (ct : Nat → Int32) (sr s0 : Int32) : Nat → Int32
  | 0 => s0
  | k + 1 => fxM ct sr (qbM ct sr s0 k).1 (qbM ct sr s0 k).2.1 (qbM ct sr s0 k).2.2.1 (qbM ct sr s0 k).2.2.2
theorem bnM_s (ct : Nat → Int32) (sr s0 : Int32) (k : Nat) : bnM ct sr s0 (k + 1) = bnM ct sr s0 k ||| frM ct sr s0 (k + 1) := rfl
theorem bs_0 : bsI 0 = 0 := by decide
theorem fr_cu {B : Nat → Nat → Int32} {ct : Nat → Int32} {sr s0 : Int32} {m : Nat} (hct : B 0 = ct) (h6 : ∀ j, j < m + 1 → B 6 j = bsI (bnM ct sr s0 j)) : cuM B (m + 1) (min 4 (m + 1)) &&& (bnM ct sr s0 m ^^^ (-1)) &&& (sr ^^^ (-1)) = frM ct sr s0 (m + 1) := by
  subst hct
  match m, h6 with
  | 0, h6 =>
    simp only [show min 4 (0 + 1) = 1 from rfl, cuM, frM, fxM, h6 _ (show 0 + 1 - (0 + 1) < 0 + 1 by omega), bnM, qbM, bs_0, Int32.and_zero, Int32.or_zero]
    rfl
  | 1, h6 =>
    simp only [show min 4 (1 + 1) = 2 from rfl, cuM, frM, fxM, h6 _ (show 1 + 1 - (0 + 1) < 1 + 1 by omega), h6 _ (show 1 + 1 - (1 + 1) < 1 + 1 by omega), bnM, qbM, bs_0, Int32.and_zero, Int32.or_zero]
    rfl
  | 2, h6 =>
    simp only [show min 4 (2 + 1) = 3 from rfl, cuM, frM, fxM, h6 _ (show 2 + 1 - (0 + 1) < 2 + 1 by omega), h6 _ (show 2 + 1 - (1 + 1) < 2 + 1 by omega), h6 _ (show 2 + 1 - (2 + 1) < 2 + 1 by omega), bnM, qbM, bs_0, Int32.and_zero, Int32.or_zero]
    rfl
  | k + 3, h6 =>
    have e : min 4 (k + 3 + 1) = 4 := by omega
    rw [e]
    simp only [cuM, frM, fxM, h6 _ (show k + 3 + 1 - (0 + 1) < k + 3 + 1 by omega), h6 _ (show k + 3 + 1 - (1 + 1) < k + 3 + 1 by omega), h6 _ (show k + 3 + 1 - (2 + 1) < k + 3 + 1 by omega), h6 _ (show k + 3 + 1 - (3 + 1) < k + 3 + 1 by omega)]
    rfl
def vdM (B : Nat → Nat → Int32) (ct : Nat → Int32) (sr s0 : Int32) (j : Nat) : Prop := B 4 j = frM ct sr s0 j ∧ B 5 j = bnM ct sr s0 j ∧ B 6 j = bsI (bnM ct sr s0 j)
def vsM (B : Nat → Nat → Int32) (s0 : Int32) (L : Nat) : Prop := B 8 3 = nI L ∧ L < 101 ∧ (∀ j, j ≤ L + 4 → j < 101 → vdM B (B 0) (B 8 2) s0 j) ∧ (L = 0 ∨ frM (B 0) (B 8 2) s0 L ≠ 0) ∧ (∀ j, L < j → j ≤ L + 4 → j < 101 → frM (B 0) (B 8 2) s0 j = 0)
def smM (B B' : Nat → Nat → Int32) : Prop := B' 0 = B 0 ∧ B' 1 = B 1 ∧ B' 2 = B 2 ∧ B' 3 = B 3 ∧ B' 7 = B 7 ∧ ∀ k, k ≠ 3 → B' 8 k = B 8 k
theorem nI_m1 {m : Nat} (h : 1 ≤ m) : nI m - 1 = nI (m - 1) := by
  have := nI_pred (m - 1)
  rwa [show m - 1 + 1 = m by omega] at this

set_option maxRecDepth 100000 in
set_option maxHeartbeats 4000000 in
theorem c_X0_spreadFrom (l : Launch) (N : Nat) (g : ca_G) (z : Nat) (B : Nat → Nat → Int32) (hz : bzG g z B) (hb : z + 9 ≤ N) (s0 : Int32) (st : Nat) (h1 : 1 ≤ st) (h2 : st ≤ 100) (hv : ∀ j, j < st → vdM B (B 0) (B 8 2) s0 j) : ca_Ct l yX0_spreadFrom cX0_spreadFrom 4 none 1 0 0 N 1000000 [.ref z, .int (nI st)] g (fun rr g' => rr = none ∧ (∃ B' L, bzG g' z B' ∧ smM B B' ∧ vsM B' s0 L) ∧ frG g g' z (z + 9)) := by
  refine ca_intro (by decide) (Nat.le_of_ble_eq_true rfl) (fun X hX hN => ?_)
  show X 0 [_, _, none, none] [] N 1000000 g
  have loop2 : ∀ (n m : Nat), m + n = 101 → ∀ g1 B1 q, bzG g1 z B1 → frG g g1 z (z + 9) → smM B B1 → (∀ j, j < m → vdM B1 (B 0) (B 8 2) s0 j) → B1 8 3 = nI q → q < m → (q = 0 ∨ frM (B 0) (B 8 2) s0 q ≠ 0) → (∀ j, q < j → j < m → frM (B 0) (B 8 2) s0 j = 0) → ∀ o, X 53 [some (.ref z), some (.int (nI st)), some (.int (nI m)), o] [] N 1000000 g1 := by
    intro n
    induction n with
    | zero =>
      intro m hm g B1 q hz hfr hsm hvd hq hqm hq2 hq3 o
      obtain rfl : m = 101 := by omega
      obtain ⟨c0, c1, c2, c3, c4, c5, c6, c7, c8⟩ := id hz
      refine ca_iload_n hX (q := 54) 2 rfl rfl rfl dX0_spreadFrom_53 ?_
      refine ca_bipush hX (q := 56) k_bipush_101 rfl dX0_spreadFrom_54 ?_
      refine ca_icmp_ge hX (q := 59) 146 rfl rfl dX0_spreadFrom_56 (fun _ => ?_) (fun z => absurd (nI_le (a := 101) (b := 101) (by omega) (by omega)) z)
      refine ca_vret hX rfl rfl rfl rfl dX0_spreadFrom_146 ?_
      refine ⟨rfl, ⟨B1, q, hz, hsm, ?_⟩, hfr⟩
      unfold vsM
      rw [hsm.1, hsm.2.2.2.2.2 2 (by omega)]
      exact ⟨hq, by omega, fun j e1 e2 => hvd j (by omega), hq2, fun j e1 e2 e3 => hq3 j e1 (by omega)⟩
    | succ n ih =>
      intro m hm g B1 q hz hfr hsm hvd hq hqm hq2 hq3 o
      obtain ⟨c0, c1, c2, c3, c4, c5, c6, c7, c8⟩ := id hz
      refine ca_iload_n hX (q := 54) 2 rfl rfl rfl dX0_spreadFrom_53 ?_
      refine ca_bipush hX (q := 56) k_bipush_101 rfl dX0_spreadFrom_54 ?_
      refine ca_icmp_ge hX (q := 59) 146 rfl rfl dX0_spreadFrom_56 (fun z => absurd z (nI_ge (a := m) (b := 101) (by omega) (by omega))) (fun _ => ?_)
      refine ca_iload_n hX (q := 60) 2 rfl rfl rfl dX0_spreadFrom_59 ?_
      refine ca_aload_n hX (q := 61) 0 rfl rfl rfl dX0_spreadFrom_60 ?_
      refine ca_getf hX (q := 64) cl_X0 11 (by decide) w_fl_X0_87 (by omega) c0 rfl rfl dX0_spreadFrom_61 ?_
      refine ca_iconst hX (q := 65) k_iconst_4 rfl dX0_spreadFrom_64 ?_
      refine ca_iadd hX (q := 66) rfl dX0_spreadFrom_65 ?_
      rw [hq, show nI q + 4 = nI (q + 4) from nI_add q 4]
      refine ca_icmp_gt hX (q := 69) 146 rfl rfl dX0_spreadFrom_66 (fun c66 => ?_) (fun c66 => ?_)
      · refine ca_vret hX rfl rfl rfl rfl dX0_spreadFrom_146 ?_
        have hm4 := nI_hi2 c66 (by omega) (by omega)
        refine ⟨rfl, ⟨B1, q, hz, hsm, ?_⟩, hfr⟩
        unfold vsM
        rw [hsm.1, hsm.2.2.2.2.2 2 (by omega)]
        exact ⟨hq, by omega, fun j e1 e2 => hvd j (by omega), hq2, fun j e1 e2 e3 => hq3 j e1 (by omega)⟩
      · have hm4 := nI_lo2 c66 (by omega) (by omega)
        have hnx : cuM B1 m (min 4 m) &&& (B1 5 (m - 1) ^^^ (-1)) &&& (B1 8 2 ^^^ (-1)) = frM (B 0) (B 8 2) s0 m := by
          obtain ⟨k, rfl⟩ : ∃ k, m = k + 1 := ⟨m - 1, by omega⟩
          rw [show k + 1 - 1 = k by omega, (hvd k (by omega)).2.1, hsm.2.2.2.2.2 2 (by omega)]
          exact fr_cu hsm.1 (fun j hj => (hvd j hj).2.2)
        have hbn : bnM (B 0) (B 8 2) s0 m = B1 5 (m - 1) ||| frM (B 0) (B 8 2) s0 m := by
          obtain ⟨k, rfl⟩ : ∃ k, m = k + 1 := ⟨m - 1, by omega⟩
          rw [bnM_s, show k + 1 - 1 = k by omega, (hvd k (by omega)).2.1]
        refine ca_aload_n hX (q := 70) 0 rfl rfl rfl dX0_spreadFrom_69 ?_
        refine ca_iload_n hX (q := 71) 2 rfl rfl rfl dX0_spreadFrom_70 ?_
        refine ca_cVi hX (q := 74) y_X0_caughtIn w_ml_X0_105 (by omega) hN c0 (c_X0_caughtIn l N g z B1 hz hb m (by omega)) (by decide) rfl (by decide) rfl dX0_spreadFrom_71 rfl ?_
        refine ca_aload_n hX (q := 75) 0 rfl rfl rfl dX0_spreadFrom_74 ?_
        refine ca_getf hX (q := 78) cl_X0 5 (by decide) w_fl_X0_27 (by omega) c0 rfl rfl dX0_spreadFrom_75 ?_
        refine ca_iload_n hX (q := 79) 2 rfl rfl rfl dX0_spreadFrom_78 ?_
        refine ca_iconst hX (q := 80) k_iconst_1 rfl dX0_spreadFrom_79 ?_
        refine ca_isub hX (q := 81) rfl dX0_spreadFrom_80 ?_
        refine ca_iaN hX (q := 82) (k := m - 1) (by omega) c6 (by decide) (nI_m1 (by omega)) (by omega) rfl dX0_spreadFrom_81 ?_
        refine ca_iconst hX (q := 83) k_iconst_m1 rfl dX0_spreadFrom_82 ?_
        refine ca_ixor hX (q := 84) rfl dX0_spreadFrom_83 ?_
        refine ca_iand hX (q := 85) rfl dX0_spreadFrom_84 ?_
        refine ca_aload_n hX (q := 86) 0 rfl rfl rfl dX0_spreadFrom_85 ?_
        refine ca_getf hX (q := 89) cl_X0 10 (by decide) w_fl_X0_77 (by omega) c0 rfl rfl dX0_spreadFrom_86 ?_
        refine ca_iconst hX (q := 90) k_iconst_m1 rfl dX0_spreadFrom_89 ?_
        refine ca_ixor hX (q := 91) rfl dX0_spreadFrom_90 ?_
        refine ca_iand hX (q := 92) rfl dX0_spreadFrom_91 ?_
        rw [hnx]
        refine ca_istore_n hX (q := 93) 3 rfl (ls' := [_, _, _, _]) (Nat.le_of_ble_eq_true rfl) (Nat.le_of_ble_eq_true rfl) (Or.inr rfl) rfl rfl dX0_spreadFrom_92 ?_
        refine ca_aload_n hX (q := 94) 0 rfl rfl rfl dX0_spreadFrom_93 ?_
        refine ca_getf hX (q := 97) cl_X0 4 (by decide) w_fl_X0_24 (by omega) c0 rfl rfl dX0_spreadFrom_94 ?_
        refine ca_iload_n hX (q := 98) 2 rfl rfl rfl dX0_spreadFrom_97 ?_
        refine ca_iload_n hX (q := 99) 3 rfl rfl rfl dX0_spreadFrom_98 ?_
        refine ca_iaS hX (q := 100) (k := m) (by omega) hN (Nat.le_refl _) c5 (by decide) rfl (by omega) rfl dX0_spreadFrom_99 (fun g hE hF => ?_)
        have hz := bz_a4 hz hE hF
        obtain ⟨c0, c1, c2, c3, c4, c5, c6, c7, c8⟩ := id hz
        have hfr := frG.tr hfr (fun j hj => hF j (by omega))
        refine ca_aload_n hX (q := 101) 0 rfl rfl rfl dX0_spreadFrom_100 ?_
        refine ca_getf hX (q := 104) cl_X0 5 (by decide) w_fl_X0_27 (by omega) c0 rfl rfl dX0_spreadFrom_101 ?_
        refine ca_iload_n hX (q := 105) 2 rfl rfl rfl dX0_spreadFrom_104 ?_
        refine ca_aload_n hX (q := 106) 0 rfl rfl rfl dX0_spreadFrom_105 ?_
        refine ca_getf hX (q := 109) cl_X0 5 (by decide) w_fl_X0_27 (by omega) c0 rfl rfl dX0_spreadFrom_106 ?_
        refine ca_iload_n hX (q := 110) 2 rfl rfl rfl dX0_spreadFrom_109 ?_
        refine ca_iconst hX (q := 111) k_iconst_1 rfl dX0_spreadFrom_110 ?_
        refine ca_isub hX (q := 112) rfl dX0_spreadFrom_111 ?_
        refine ca_iaN hX (q := 113) (k := m - 1) (by omega) c6 (by decide) (nI_m1 (by omega)) (by omega) rfl dX0_spreadFrom_112 ?_
        refine ca_iload_n hX (q := 114) 3 rfl rfl rfl dX0_spreadFrom_113 ?_
        refine ca_ior hX (q := 115) rfl dX0_spreadFrom_114 ?_
        rw [show upB B1 4 m (frM (B 0) (B 8 2) s0 m) 5 = B1 5 from rfl, ← hbn]
        refine ca_iaS hX (q := 116) (k := m) (by omega) hN (Nat.le_refl _) c6 (by decide) rfl (by omega) rfl dX0_spreadFrom_115 (fun g hE hF => ?_)
        have hz := bz_a5 hz hE hF
        obtain ⟨c0, c1, c2, c3, c4, c5, c6, c7, c8⟩ := id hz
        have hfr := frG.tr hfr (fun j hj => hF j (by omega))
        refine ca_aload_n hX (q := 117) 0 rfl rfl rfl dX0_spreadFrom_116 ?_
        refine ca_getf hX (q := 120) cl_X0 6 (by decide) w_fl_X0_30 (by omega) c0 rfl rfl dX0_spreadFrom_117 ?_
        refine ca_iload_n hX (q := 121) 2 rfl rfl rfl dX0_spreadFrom_120 ?_
        refine ca_aload_n hX (q := 122) 0 rfl rfl rfl dX0_spreadFrom_121 ?_
        refine ca_getf hX (q := 125) cl_X0 5 (by decide) w_fl_X0_27 (by omega) c0 rfl rfl dX0_spreadFrom_122 ?_
        refine ca_iload_n hX (q := 126) 2 rfl rfl rfl dX0_spreadFrom_125 ?_
        refine ca_iaN hX (q := 127) (k := m) (by omega) c6 (by decide) rfl (by omega) rfl dX0_spreadFrom_126 ?_
        rw [upB_s, upd_s]
        refine ca_cSi hX (q := 130) y_X0_allBeside w_ml_X0_80 hN (c_X0_allBeside l N g _) (by decide) rfl (Nat.le_of_ble_eq_true rfl) rfl dX0_spreadFrom_127 rfl ?_
        refine ca_iaS hX (q := 131) (k := m) (by omega) hN (Nat.le_refl _) c7 (by decide) rfl (by omega) rfl dX0_spreadFrom_130 (fun g hE hF => ?_)
        have hz := bz_a6 hz hE hF
        obtain ⟨c0, c1, c2, c3, c4, c5, c6, c7, c8⟩ := id hz
        have hfr := frG.tr hfr (fun j hj => hF j (by omega))
        refine ca_iload_n hX (q := 132) 3 rfl rfl rfl dX0_spreadFrom_131 ?_
        refine ca_if_eq hX (q := 135) 140 rfl rfl dX0_spreadFrom_132 (fun c132 => ?_) (fun c132 => ?_)
        · refine ca_iinc hX (q := 143) (ls' := [_, _, _, _]) k_iconst_1 rfl (Nat.le_of_ble_eq_true rfl) (Or.inr rfl) rfl rfl dX0_spreadFrom_140 ?_
          refine ca_goto hX 53 rfl dX0_spreadFrom_143 ?_
          have hsm3 : smM B (upB (upB (upB B1 4 m (frM (B 0) (B 8 2) s0 m)) 5 m (bnM (B 0) (B 8 2) s0 m)) 6 m (bsI (bnM (B 0) (B 8 2) s0 m))) := ⟨hsm.1, hsm.2.1, hsm.2.2.1, hsm.2.2.2.1, hsm.2.2.2.2.1, hsm.2.2.2.2.2⟩
          have hvd3 : ∀ j, j < m + 1 → vdM (upB (upB (upB B1 4 m (frM (B 0) (B 8 2) s0 m)) 5 m (bnM (B 0) (B 8 2) s0 m)) 6 m (bsI (bnM (B 0) (B 8 2) s0 m))) (B 0) (B 8 2) s0 j := by
            intro j hj
            by_cases e : j = m
            · subst e
              exact ⟨upd_s _ _ _, upd_s _ _ _, upd_s _ _ _⟩
            · have hv := hvd j (by omega)
              exact ⟨(upd_n _ _ e).trans hv.1, (upd_n _ _ e).trans hv.2.1, (upd_n _ _ e).trans hv.2.2⟩
          rw [nI_1]
          refine ih (m + 1) (by omega) g _ q hz hfr hsm3 hvd3 hq (by omega) hq2 (fun j e1 e2 => ?_) _
          by_cases e : j = m
          · rw [e]; exact c132
          · exact hq3 j e1 (by omega)
        · refine ca_aload_n hX (q := 136) 0 rfl rfl rfl dX0_spreadFrom_135 ?_
          refine ca_iload_n hX (q := 137) 2 rfl rfl rfl dX0_spreadFrom_136 ?_
          refine ca_puti hX (q := 140) (fs' := [_, _, _, _, _, _, _, _, _, _, _, _, _]) cl_X0 11 (by decide) w_fl_X0_87 rfl rfl (by omega) hN c0 (Nat.le_of_ble_eq_true rfl) rfl rfl dX0_spreadFrom_137 (fun g hE hF => ?_)
          have hz := bz_s3 hz hE hF
          obtain ⟨c0, c1, c2, c3, c4, c5, c6, c7, c8⟩ := id hz
          have hfr := frG.tr hfr (fun j hj => hF j (by omega))
          refine ca_iinc hX (q := 143) (ls' := [_, _, _, _]) k_iconst_1 rfl (Nat.le_of_ble_eq_true rfl) (Or.inr rfl) rfl rfl dX0_spreadFrom_140 ?_
          refine ca_goto hX 53 rfl dX0_spreadFrom_143 ?_
          have hsm3 : smM B (upB (upB (upB B1 4 m (frM (B 0) (B 8 2) s0 m)) 5 m (bnM (B 0) (B 8 2) s0 m)) 6 m (bsI (bnM (B 0) (B 8 2) s0 m))) := ⟨hsm.1, hsm.2.1, hsm.2.2.1, hsm.2.2.2.1, hsm.2.2.2.2.1, hsm.2.2.2.2.2⟩
          have hvd3 : ∀ j, j < m + 1 → vdM (upB (upB (upB B1 4 m (frM (B 0) (B 8 2) s0 m)) 5 m (bnM (B 0) (B 8 2) s0 m)) 6 m (bsI (bnM (B 0) (B 8 2) s0 m))) (B 0) (B 8 2) s0 j := by
            intro j hj
            by_cases e : j = m
            · subst e
              exact ⟨upd_s _ _ _, upd_s _ _ _, upd_s _ _ _⟩
            · have hv := hvd j (by omega)
              exact ⟨(upd_n _ _ e).trans hv.1, (upd_n _ _ e).trans hv.2.1, (upd_n _ _ e).trans hv.2.2⟩
          rw [nI_1]
          refine ih (m + 1) (by omega) g _ m hz hfr ⟨hsm3.1, hsm3.2.1, hsm3.2.2.1, hsm3.2.2.2.1, hsm3.2.2.2.2.1, fun k hk => ?_⟩ (fun j hj => hvd3 j hj) (by rw [upB_s, upd_s]) (by omega) (Or.inr c132) (fun j e1 e2 => absurd e1 (by omega)) _
          rw [upB_s, upd_n _ _ hk]
          exact hsm3.2.2.2.2.2 k hk
  have loop1 : ∀ q, ∀ g1 B1, bzG g1 z B1 → frG g g1 z (z + 9) → (∀ a, a ≠ 8 → B1 a = B a) → (∀ k, k ≠ 3 → B1 8 k = B 8 k) → B1 8 3 = nI q → q < st → (∀ j, q < j → j < st → frM (B 0) (B 8 2) s0 j = 0) → X 19 [some (.ref z), some (.int (nI st)), none, none] [] N 1000000 g1 := by
    intro q
    induction q with
    | zero =>
      intro g B1 hz hfr ha hk hq hqs hq3
      obtain ⟨c0, c1, c2, c3, c4, c5, c6, c7, c8⟩ := id hz
      rw [hq] at c0
      refine ca_aload_n hX (q := 20) 0 rfl rfl rfl dX0_spreadFrom_19 ?_
      refine ca_getf hX (q := 23) cl_X0 11 (by decide) w_fl_X0_87 (by omega) c0 rfl rfl dX0_spreadFrom_20 ?_
      refine ca_if_le hX (q := 26) 51 rfl rfl dX0_spreadFrom_23 (fun _ => ?_) (fun z => absurd (by decide) z)
      refine ca_iload_n hX (q := 52) 1 rfl rfl rfl dX0_spreadFrom_51 ?_
      refine ca_istore_n hX (q := 53) 2 rfl (ls' := [_, _, _, _]) (Nat.le_of_ble_eq_true rfl) (Nat.le_of_ble_eq_true rfl) (Or.inr rfl) rfl rfl dX0_spreadFrom_52 ?_
      exact loop2 (101 - st) st (by omega) g B1 0 hz hfr ⟨ha 0 (by omega), ha 1 (by omega), ha 2 (by omega), ha 3 (by omega), ha 7 (by omega), hk⟩ (fun j hj => by
        have hvj := hv j hj
        unfold vdM at hvj ⊢
        rw [ha 4 (by omega), ha 5 (by omega), ha 6 (by omega)]
        exact hvj) hq hqs (Or.inl rfl) hq3 _
    | succ q ih =>
      intro g B1 hz hfr ha hk hq hqs hq3
      obtain ⟨c0, c1, c2, c3, c4, c5, c6, c7, c8⟩ := id hz
      obtain ⟨q1, hq1⟩ : ∃ q1, q1 = q + 1 := ⟨q + 1, rfl⟩
      rw [hq] at c0
      refine ca_aload_n hX (q := 20) 0 rfl rfl rfl dX0_spreadFrom_19 ?_
      refine ca_getf hX (q := 23) cl_X0 11 (by decide) w_fl_X0_87 (by omega) c0 rfl rfl dX0_spreadFrom_20 ?_
      refine ca_if_le hX (q := 26) 51 rfl rfl dX0_spreadFrom_23 (fun z => absurd z (nI_nle (by omega) (by omega))) (fun _ => ?_)
      refine ca_aload_n hX (q := 27) 0 rfl rfl rfl dX0_spreadFrom_26 ?_
      refine ca_getf hX (q := 30) cl_X0 4 (by decide) w_fl_X0_24 (by omega) c0 rfl rfl dX0_spreadFrom_27 ?_
      refine ca_aload_n hX (q := 31) 0 rfl rfl rfl dX0_spreadFrom_30 ?_
      refine ca_getf hX (q := 34) cl_X0 11 (by decide) w_fl_X0_87 (by omega) c0 rfl rfl dX0_spreadFrom_31 ?_
      refine ca_iaN hX (q := 35) (k := q + 1) (by omega) c5 (by decide) rfl (by omega) rfl dX0_spreadFrom_34 ?_
      refine ca_if_ne hX (q := 38) 51 rfl rfl dX0_spreadFrom_35 (fun c35 => ?_) (fun c35 => ?_)
      · refine ca_iload_n hX (q := 52) 1 rfl rfl rfl dX0_spreadFrom_51 ?_
        refine ca_istore_n hX (q := 53) 2 rfl (ls' := [_, _, _, _]) (Nat.le_of_ble_eq_true rfl) (Nat.le_of_ble_eq_true rfl) (Or.inr rfl) rfl rfl dX0_spreadFrom_52 ?_
        rw [ha 4 (by omega), (hv (q + 1) (by omega)).1] at c35
        exact loop2 (101 - st) st (by omega) g B1 (q + 1) hz hfr ⟨ha 0 (by omega), ha 1 (by omega), ha 2 (by omega), ha 3 (by omega), ha 7 (by omega), hk⟩ (fun j hj => by
          have hvj := hv j hj
          unfold vdM at hvj ⊢
          rw [ha 4 (by omega), ha 5 (by omega), ha 6 (by omega)]
          exact hvj) hq hqs (Or.inr c35) hq3 _
      · refine ca_aload_n hX (q := 39) 0 rfl rfl rfl dX0_spreadFrom_38 ?_
        refine ca_dup hX (q := 40) rfl rfl dX0_spreadFrom_39 ?_
        refine ca_getf hX (q := 43) cl_X0 11 (by decide) w_fl_X0_87 (by omega) c0 rfl rfl dX0_spreadFrom_40 ?_
        refine ca_iconst hX (q := 44) k_iconst_1 rfl dX0_spreadFrom_43 ?_
        refine ca_isub hX (q := 45) rfl dX0_spreadFrom_44 ?_
        refine ca_puti hX (q := 48) (fs' := [_, _, _, _, _, _, _, _, _, _, _, _, _]) cl_X0 11 (by decide) w_fl_X0_87 rfl rfl (by omega) hN c0 (Nat.le_of_ble_eq_true rfl) rfl rfl dX0_spreadFrom_45 (fun g hE hF => ?_)
        have hz := bz_s3 hz hE hF
        obtain ⟨c0, c1, c2, c3, c4, c5, c6, c7, c8⟩ := id hz
        have hfr := frG.tr hfr (fun j hj => hF j (by omega))
        refine ca_goto hX 19 rfl dX0_spreadFrom_48 ?_
        rw [ha 4 (by omega), (hv (q + 1) (by omega)).1] at c35
        refine ih g _ hz hfr (fun a e => ?_) (fun k e => ?_) ?_ (by omega) (fun j e1 e2 => ?_)
        · rw [upB_n _ _ _ e]; exact ha a e
        · rw [upB_s, upd_n _ _ e]; exact hk k e
        · rw [upB_s, upd_s, nI_pred]
        · by_cases e : j = q + 1
          · rw [e]; exact c35
          · exact hq3 j (by omega) e2
  have hfr : frG g g z (z + 9) := frG.rf
  obtain ⟨c0, c1, c2, c3, c4, c5, c6, c7, c8⟩ := id hz
  refine ca_iload_n hX (q := 1) 1 rfl rfl rfl dX0_spreadFrom_0 ?_
  refine ca_iconst hX (q := 2) k_iconst_1 rfl dX0_spreadFrom_1 ?_
  refine ca_icmp_lt hX (q := 5) 11 rfl rfl dX0_spreadFrom_2 (fun z => absurd z (nI_nlt (a := st) (b := 1) (by omega) (by omega))) (fun _ => ?_)
  refine ca_iload_n hX (q := 6) 1 rfl rfl rfl dX0_spreadFrom_5 ?_
  refine ca_bipush hX (q := 8) k_bipush_101 rfl dX0_spreadFrom_6 ?_
  refine ca_icmp_lt hX (q := 11) 12 rfl rfl dX0_spreadFrom_8 (fun _ => ?_) (fun z => absurd (nI_lt (a := st) (b := 101) (by omega) (by omega)) z)
  refine ca_aload_n hX (q := 13) 0 rfl rfl rfl dX0_spreadFrom_12 ?_
  refine ca_iload_n hX (q := 14) 1 rfl rfl rfl dX0_spreadFrom_13 ?_
  refine ca_iconst hX (q := 15) k_iconst_1 rfl dX0_spreadFrom_14 ?_
  refine ca_isub hX (q := 16) rfl dX0_spreadFrom_15 ?_
  refine ca_puti hX (q := 19) (fs' := [_, _, _, _, _, _, _, _, _, _, _, _, _]) cl_X0 11 (by decide) w_fl_X0_87 rfl rfl (by omega) hN c0 (Nat.le_of_ble_eq_true rfl) rfl rfl dX0_spreadFrom_16 (fun g hE hF => ?_)
  have hz := bz_s3 hz hE hF
  obtain ⟨c0, c1, c2, c3, c4, c5, c6, c7, c8⟩ := id hz
  have hfr := frG.tr hfr (fun j hj => hF j (by omega))
  refine loop1 (st - 1) g _ hz hfr (fun a e => upB_n _ _ _ e) (fun k e => ?_) ?_ (by omega) (fun j e1 e2 => absurd e1 (by omega))
  · rw [upB_s, upd_n _ _ e]
  · rw [upB_s, upd_s, nI_m1 h1]

