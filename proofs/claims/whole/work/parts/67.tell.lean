/-! what a statement does: the class -/
def dN (f : Nat → Int32) (j : Nat) : Nat := (f j - 48).toNatClampNeg
def pN (f : Nat → Int32) (j : Nat) : Nat := 10 * dN f j + dN f (j + 1)
def kdN (f : Nat → Int32) (j : Nat) : Nat := (klI (f j)).toNatClampNeg
theorem dg_N {f : Nat → Int32} {L j : Nat} (h : dgB f L j = true) : j < L ∧ f j - 48 = nI (dN f j) ∧ dN f j ≤ 9 ∧ atM f L j = f j := by
  obtain ⟨a, b⟩ := dg_in h
  unfold dgB at h
  rw [b] at h
  have h1 : ¬ inB (f j) 48 57 = 0 := by intro z; rw [decide_eq_true z] at h; exact absurd h (by decide)
  unfold inB at h1
  have h2 : ¬ f j < 48 := fun z => h1 (if_pos z)
  have h3 : ¬ 57 < f j := fun z => h1 (by rw [if_neg h2, if_pos z])
  have h2 := Int32.not_lt.mp h2
  have h3 := Int32.not_lt.mp h3
  rw [Int32.le_iff_toInt_le, show (48 : Int32).toInt = 48 from rfl] at h2
  rw [Int32.le_iff_toInt_le, show (57 : Int32).toInt = 57 from rfl] at h3
  have e : f j = nI (f j).toInt.toNat := Int32.toInt_inj.mp (by rw [nI_toInt (by omega)]; omega)
  have e2 : f j - 48 = nI ((f j).toInt.toNat - 48) := by
    rw [show (48 : Int32) = nI 48 from rfl]
    conv => lhs; rw [e]
    rw [pk_sub (by omega)]
  have e3 : dN f j = (f j).toInt.toNat - 48 := by unfold dN; rw [e2, nI_clamp (by omega)]
  exact ⟨a, by rw [e3]; exact e2, by omega, if_pos a⟩
theorem nu_1 {f : Nat → Int32} {L j : Nat} (h : dgB f L j = true) : nuI f j 1 = nI (dN f j) := by
  rw [nuI, nuI, Nat.add_zero, ← (dg_N h).2.1]
  rw [show (10 : Int32) * 0 = 0 from rfl, Int32.zero_add]
theorem nu_2 {f : Nat → Int32} {L j : Nat} (h : dgB f L j = true) (h' : dgB f L (j + 1) = true) : nuI f j 2 = nI (pN f j) := by
  rw [nuI, nu_1 h, Int32.sub_eq_add_neg, Int32.add_assoc, ← Int32.sub_eq_add_neg, (dg_N h').2.1, show (10 : Int32) = nI 10 from rfl, pk_mul, nI_add]
  rfl
theorem pr_2 {f : Nat → Int32} {L j : Nat} (h : dgB f L j = true) (h' : dgB f L (j + 1) = true) : 10 * (atM f L j - 48) + (atM f L (j + 1) - 48) = nI (pN f j) := by
  rw [(dg_N h).2.2.2, (dg_N h').2.2.2, (dg_N h).2.1, (dg_N h').2.1, show (10 : Int32) = nI 10 from rfl, pk_mul, nI_add]
  rfl
theorem p_99 {f : Nat → Int32} {L j : Nat} (h : dgB f L j = true) (h' : dgB f L (j + 1) = true) : pN f j ≤ 99 := by
  have := (dg_N h).2.2.1; have := (dg_N h').2.2.1; unfold pN; omega
theorem ok_dg {f : Nat → Int32} {L pl K : Nat} (ho : okF f L pl) (hk : kF f L pl = K) (i : Nat) (hi : i < ca_sL.getD K 0) (hK : K < 6) (hs : sgF K i = 48) : dgB f L (pl + i) = true := by
  have hu := fcN_all _ 0 (by rw [Nat.zero_add]; exact ho.2) i (by omega) (by rw [Nat.zero_add, hk]; exact hi)
  rw [hk, u_hr f L pl hK hi, hs] at hu
  unfold dgB
  rw [← hu]; unfold ftI inB; rfl
theorem ok_kd {f : Nat → Int32} {L pl K : Nat} (ho : okF f L pl) (hk : kF f L pl = K) (hK : K < 6) (hi : 1 < ca_sL.getD K 0) (hs : sgF K 1 = 75) : pl + 1 < L ∧ klI (f (pl + 1)) = nI (kdN f (pl + 1)) ∧ kdN f (pl + 1) ≤ 5 ∧ atM f L (pl + 1) = f (pl + 1) ∧ hrI f L (pl + 1) = f (pl + 1) := by
  have hu := fcN_all _ 0 (by rw [Nat.zero_add]; exact ho.2) 1 (by omega) (by rw [Nat.zero_add, hk]; exact hi)
  rw [hk, u_hr f L pl hK hi, hs] at hu
  have hft : ftI (hrI f L (pl + 1)) 75 = if klI (hrI f L (pl + 1)) = -9 then 0 else 1 := by unfold ftI; rw [if_neg (by decide), if_pos rfl]
  rw [hft] at hu
  rcases hr_at f L (pl + 1) with ⟨a, b, c⟩ | ⟨_, b, _⟩
  · rw [b] at hu
    rcases kl_two (f (pl + 1)) with z | ⟨k, hk5, z⟩
    · rw [z] at hu; exact absurd hu (by decide)
    · have e : kdN f (pl + 1) = k := by unfold kdN; rw [z, nI_clamp (by omega)]
      exact ⟨a, by rw [e]; exact z, by omega, c, b⟩
  · rw [b] at hu; exact absurd hu (by decide)
def thM (h : Nat → Int32) (k v : Int32) (a : Nat) : Nat → (Nat → Int32)
  | 0 => h
  | n + 1 => upd (upd (thM h k v a n) (2 + (a + n)) k) (27 + (a + n)) v
def lnM (h : Nat → Int32) (p : Nat) (v : Int32) (a : Nat) : Nat → (Nat → Int32)
  | 0 => h
  | n + 1 => upd (lnM h p v a n) (57 + (25 * p + (a + n))) v
theorem ln_lo (h : Nat → Int32) (p : Nat) (v : Int32) (a : Nat) {j : Nat} (hj : j < 57) : ∀ n, lnM h p v a n j = h j
  | 0 => rfl
  | n + 1 => by rw [lnM, upd_n _ _ (by omega)]; exact ln_lo h p v a hj n
abbrev stT : Type := Option ((Nat → Int32) × Nat)
def doT (h : Nat → Int32) (P kd a b v : Nat) : stT := if a ≤ b ∧ b < 25 then some (thM h (nI kd) (nI v) a (b + 1 - a), P) else none
def doP (h : Nat → Int32) (P d : Nat) : stT := if 1 ≤ d ∧ P < 5 then some (tkM h P (nI d) 25, P + 1) else none
def doK (h : Nat → Int32) (P p a b v : Nat) : stT := if p < P ∧ a ≤ b ∧ b < 25 then some (lnM h p (nI v) a (b + 1 - a), P) else none
def doN (h : Nat → Int32) (P m : Nat) : stT := if 1 ≤ m ∧ m ≤ 60 ∧ ¬ 999 < h 1 + nI m then some (pnM P h m, P) else none
def stE (f : Nat → Int32) (L pl : Nat) (h : Nat → Int32) (P : Nat) : stT :=
  if kF f L pl = 0 then doT h P (kdN f (pl + 1)) (pN f (pl + 2)) (pN f (pl + 2)) (dN f (pl + 4))
  else if kF f L pl = 1 then doT h P (kdN f (pl + 1)) (pN f (pl + 2)) (pN f (pl + 4)) (dN f (pl + 6))
  else if kF f L pl = 2 then doP h P (dN f (pl + 1))
  else if kF f L pl = 3 then doK h P (dN f (pl + 1)) (pN f (pl + 2)) (pN f (pl + 4)) (dN f (pl + 6))
  else doN h P (pN f (pl + 1))
def tlP (E : stT) (h : Nat → Int32) (g : ca_G) : ca_Post := fun rr g' => frG g g' 11 16 ∧ ((∃ h' P', E = some (h', P') ∧ rr = some (.int 1) ∧ hsG g' 11 h') ∨ (E = none ∧ rr = some (.int 0) ∧ hsG g' 11 h))
theorem wf_th {h : Nat → Int32} {P kd v a : Nat} (w : wfH h P) (hk : kd ≤ 5) (hv : v ≤ 9) : ∀ n, a + n ≤ 25 → wfH (thM h (nI kd) (nI v) a n) P
  | 0, _ => w
  | n + 1, hn => wf_fg (wf_kd (wf_th w hk hv n (by omega)) (by omega) hk) (by omega) hv
theorem wf_hi {h h' : Nat → Int32} {P : Nat} (w : wfH h P) (e : ∀ j, j < 57 → j ≠ 1 → h' j = h j) : wfH h' P := by
  obtain ⟨a, b, c, d, s⟩ := w
  exact ⟨by rw [e 0 (by omega) (by omega)]; exact a, b, fun r hr => by rw [e _ (by omega) (by omega)]; exact c r hr, fun r hr => by rw [e _ (by omega) (by omega)]; exact d r hr, fun p hp => by rw [e _ (by omega) (by omega)]; exact s p hp⟩
theorem wf_tk {h : Nat → Int32} {P d : Nat} (w : wfH h P) (hd1 : 1 ≤ d) (hd9 : d ≤ 9) (hP : P < 5) (n : Nat) : wfH (tkM h P (nI d) n) (P + 1) := by
  obtain ⟨a, b, c, q, s⟩ := w
  refine ⟨by rw [tkM_z], by omega, fun r hr => ?_, fun r hr => ?_, fun p hp => ?_⟩
  · unfold tkM; rw [if_neg (by omega), if_neg (by omega), if_neg (by omega)]; exact c r hr
  · unfold tkM; rw [if_neg (by omega), if_neg (by omega), if_neg (by omega)]; exact q r hr
  · unfold tkM
    rw [if_neg (by omega)]
    by_cases z : p = P
    · rw [if_pos (by omega)]; exact ⟨d, hd1, hd9, rfl⟩
    · rw [if_neg (by omega), if_neg (by omega)]; exact s p (by omega)
theorem wf_st {f : Nat → Int32} {L pl : Nat} {h : Nat → Int32} {P : Nat} (ho : okF f L pl) (w : wfH h P) {h' : Nat → Int32} {P' : Nat} (e : stE f L pl h P = some (h', P')) : wfH h' P' := by
  unfold stE at e
  by_cases k0 : kF f L pl = 0
  · rw [if_pos k0] at e
    unfold doT at e
    split at e
    · next z =>
      cases e
      exact wf_th w (ok_kd ho k0 (by decide) (by decide) (by decide)).2.2.1 (dg_N (ok_dg ho k0 4 (by decide) (by decide) (by decide))).2.2.1 _ (by omega)
    · cases e
  · rw [if_neg k0] at e
    by_cases k1 : kF f L pl = 1
    · rw [if_pos k1] at e
      unfold doT at e
      split at e
      · next z =>
        cases e
        exact wf_th w (ok_kd ho k1 (by decide) (by decide) (by decide)).2.2.1 (dg_N (ok_dg ho k1 6 (by decide) (by decide) (by decide))).2.2.1 _ (by omega)
      · cases e
    · rw [if_neg k1] at e
      by_cases k2 : kF f L pl = 2
      · rw [if_pos k2] at e
        unfold doP at e
        split at e
        · next z =>
          cases e
          exact wf_tk w z.1 (dg_N (ok_dg ho k2 1 (by decide) (by decide) (by decide))).2.2.1 z.2 25
        · cases e
      · rw [if_neg k2] at e
        by_cases k3 : kF f L pl = 3
        · rw [if_pos k3] at e
          unfold doK at e
          split at e
          · next z =>
            cases e
            exact wf_hi w (fun j hj _ => ln_lo h _ _ _ hj _)
          · cases e
        · rw [if_neg k3] at e
          unfold doN at e
          split at e
          · next z =>
            cases e
            exact wf_hi w (fun j hj h1 => pn_lo _ h hj h1 _)
          · cases e

set_option maxRecDepth 100000 in
set_option maxHeartbeats 4000000 in
theorem c_X4_tellThings (l : Launch) (N : Nat) (g : ca_G) (f : Nat → Int32) (L : Nat) (h25 : g 25 = .inr (3, [.ref 26])) (hn : nbG g 26 96 f L) (hL : L ≤ 96) (hN31 : 31 ≤ N) (h : Nat → Int32) (ht : hsG g 11 h) (P : Nat) (pl : Nat) (hp : pl < 800) (kd a b v : Nat) (hkd : klI (atM f L (pl + 1)) = nI kd) (ha : 10 * (atM f L (pl + 2) - 48) + (atM f L (pl + 2 + 1) - 48) = nI a) (ha9 : a ≤ 99) (hb9 : b ≤ 99) : ca_Ct l yX4_tellThings cX4_tellThings 8 (some .boolean) 5 0 0 N 1000000 [.ref 25, .int (nI pl), .int (nI b), .int (nI v), .ref 11] g (tlP (doT h P kd a b v) h g) := by
  refine ca_intro (by decide) (Nat.le_of_ble_eq_true rfl) (fun X hX hN => ?_)
  show X 0 [_, _, _, _, _, none, none, none] [] N 1000000 g
  have hfr : frG g g 11 16 := frG.rf
  have l0 := hn.1
  have t0 := ht.1
  refine ca_aload_n hX (q := 1) 0 rfl rfl rfl dX4_tellThings_0 ?_
  refine ca_getf hX (q := 4) cl_X4 0 (by decide) w_fl_X4_14 (by omega) h25 rfl rfl dX4_tellThings_1 ?_
  refine ca_iload_n hX (q := 5) 1 rfl rfl rfl dX4_tellThings_4 ?_
  refine ca_iconst hX (q := 6) k_iconst_1 rfl dX4_tellThings_5 ?_
  refine ca_iadd hX (q := 7) rfl dX4_tellThings_6 ?_
  rw [show nI pl + 1 = nI (pl + 1) from nI_add pl 1]
  refine ca_cVi hX (q := 10) y_X3_at w_ml_X4_32 (by omega) hN l0 (c_X3_at l N g 26 96 L f hn (by omega) (by omega) hL (pl + 1) (by omega)) (by decide) rfl (Nat.le_of_ble_eq_true rfl) rfl dX4_tellThings_7 rfl ?_
  refine ca_cSi hX (q := 13) y_X4_kindOfLetter w_ml_X4_61 hN (c_X4_kindOfLetter l N g _) (by decide) rfl (Nat.le_of_ble_eq_true rfl) rfl dX4_tellThings_10 rfl ?_
  rw [hkd]
  refine ca_istore hX (q := 15) (ls' := [_, _, _, _, _, _, _, _]) (Nat.le_of_ble_eq_true rfl) (Nat.le_of_ble_eq_true rfl) (Or.inr rfl) rfl rfl dX4_tellThings_13 ?_
  refine ca_aload_n hX (q := 16) 0 rfl rfl rfl dX4_tellThings_15 ?_
  refine ca_iload_n hX (q := 17) 1 rfl rfl rfl dX4_tellThings_16 ?_
  refine ca_iconst hX (q := 18) k_iconst_2 rfl dX4_tellThings_17 ?_
  refine ca_iadd hX (q := 19) rfl dX4_tellThings_18 ?_
  rw [show nI pl + 2 = nI (pl + 2) from nI_add pl 2]
  refine ca_cVi hX (q := 22) y_X4_pairAt w_ml_X4_76 (by omega) hN h25 (c_X4_pairAt l N g f L h25 hn hL hN31 (pl + 2) (by omega)) (by decide) rfl (Nat.le_of_ble_eq_true rfl) rfl dX4_tellThings_19 rfl ?_
  rw [ha]
  refine ca_istore hX (q := 24) (ls' := [_, _, _, _, _, _, _, _]) (Nat.le_of_ble_eq_true rfl) (Nat.le_of_ble_eq_true rfl) (Or.inr rfl) rfl rfl dX4_tellThings_22 ?_
  refine ca_iload hX (q := 26) rfl rfl dX4_tellThings_24 ?_
  refine ca_iload_n hX (q := 27) 2 rfl rfl rfl dX4_tellThings_26 ?_
  refine ca_icmp_gt hX (q := 30) 36 rfl rfl dX4_tellThings_27 (fun c27 => ?_) (fun c27 => ?_)
  · have hst : ¬ (a ≤ b ∧ b < 25) := by have := (nI_ltI (by omega) (by omega)).mp c27; omega
    refine ca_iconst hX (q := 37) k_iconst_0 rfl dX4_tellThings_36 ?_
    refine ca_zret hX rfl rfl rfl rfl rfl dX4_tellThings_37 ?_
    exact ⟨hfr, Or.inr ⟨by rw [doT, if_neg hst], rfl, ht⟩⟩
  · have hab := mt (nI_ltI (a := b) (b := a) (by omega) (by omega)).mpr c27
    refine ca_iload_n hX (q := 31) 2 rfl rfl rfl dX4_tellThings_30 ?_
    refine ca_bipush hX (q := 33) k_bipush_25 rfl dX4_tellThings_31 ?_
    refine ca_icmp_lt hX (q := 36) 38 rfl rfl dX4_tellThings_33 (fun c33 => ?_) (fun c33 => ?_)
    · have hst : a ≤ b ∧ b < 25 := by have := (nI_ltI (a := b) (b := 25) (by omega) (by omega)).mp c33; omega
      have loop : ∀ (n i : Nat) (g1 : ca_G), i + n = b + 1 - a → g1 25 = .inr (3, [.ref 26]) → nbG g1 26 96 f L → hsG g1 11 (thM h (nI kd) (nI v) a i) → frG g g1 11 16 → X 42 [some (.ref 25), some (.int (nI pl)), some (.int (nI b)), some (.int (nI v)), some (.ref 11), some (.int (nI kd)), some (.int (nI a)), some (.int (nI (a + i)))] [] N 1000000 g1 := by
        intro n
        induction n with
        | zero =>
          intro i g  hi h25 hn ht hfr
          have hib : i = b + 1 - a := by omega
          rw [hib]
          have l0 := hn.1
          have t0 := ht.1
          refine ca_iload hX (q := 44) rfl rfl dX4_tellThings_42 ?_
          refine ca_iload_n hX (q := 45) 2 rfl rfl rfl dX4_tellThings_44 ?_
          refine ca_icmp_gt hX (q := 48) 64 rfl rfl dX4_tellThings_45 (fun _ => ?_) (fun z => absurd ((nI_ltI (by omega) (by omega)).mpr (by omega)) z)
          refine ca_iconst hX (q := 65) k_iconst_1 rfl dX4_tellThings_64 ?_
          refine ca_zret hX rfl rfl rfl rfl rfl dX4_tellThings_65 ?_
          exact ⟨hfr, Or.inl ⟨_, _, by rw [doT, if_pos hst], rfl, by rw [hib] at ht; exact ht⟩⟩
        | succ n ih =>
          intro i g  hi h25 hn ht hfr
          have l0 := hn.1
          have t0 := ht.1
          refine ca_iload hX (q := 44) rfl rfl dX4_tellThings_42 ?_
          refine ca_iload_n hX (q := 45) 2 rfl rfl rfl dX4_tellThings_44 ?_
          refine ca_icmp_gt hX (q := 48) 64 rfl rfl dX4_tellThings_45 (fun z => absurd z (fun z => absurd ((nI_ltI (a := b) (b := a + i) (by omega) (by omega)).mp z) (by omega))) (fun _ => ?_)
          refine ca_aload hX (q := 50) rfl rfl dX4_tellThings_48 ?_
          refine ca_iload hX (q := 52) rfl rfl dX4_tellThings_50 ?_
          refine ca_iload hX (q := 54) rfl rfl dX4_tellThings_52 ?_
          refine ca_iload_n hX (q := 55) 3 rfl rfl rfl dX4_tellThings_54 ?_
          refine ca_cV hX (q := 58) y_X1_put w_ml_X4_98 (by omega) hN t0 (c_X1_put l N g 11 (thM h (nI kd) (nI v) a i) ht (by omega) (a + i) (by omega) (nI kd) (nI v)) (by decide) rfl (Nat.le_of_ble_eq_true rfl) rfl dX4_tellThings_55 rfl ?_
          rintro _ g ⟨rfl, ht, hf⟩
          have h25 := (hf 25 (by omega)).trans h25
          have hn := hn.fr hf (by omega)
          have hfr := hfr.tr hf
          have l0 := hn.1
          have t0 := ht.1
          refine ca_iinc hX (q := 61) (ls' := [_, _, _, _, _, _, _, _]) k_iconst_1 rfl (Nat.le_of_ble_eq_true rfl) (Or.inr rfl) rfl rfl dX4_tellThings_58 ?_
          refine ca_goto hX 42 rfl dX4_tellThings_61 ?_
          rw [show nI (a + i) + 1 = nI (a + (i + 1)) from nI_add _ 1]
          exact ih (i + 1) _ (by omega) h25 hn ht hfr
      refine ca_iload hX (q := 40) rfl rfl dX4_tellThings_38 ?_
      refine ca_istore hX (q := 42) (ls' := [_, _, _, _, _, _, _, _]) (Nat.le_of_ble_eq_true rfl) (Nat.le_of_ble_eq_true rfl) (Or.inr rfl) rfl rfl dX4_tellThings_40 ?_
      exact loop (b + 1 - a) 0 _ (by omega) h25 hn ht hfr
    · have hst : ¬ (a ≤ b ∧ b < 25) := by have := mt (nI_ltI (a := b) (b := 25) (by omega) (by omega)).mpr c33; omega
      refine ca_iconst hX (q := 37) k_iconst_0 rfl dX4_tellThings_36 ?_
      refine ca_zret hX rfl rfl rfl rfl rfl dX4_tellThings_37 ?_
      exact ⟨hfr, Or.inr ⟨by rw [doT, if_neg hst], rfl, ht⟩⟩

theorem hpB_no {P p : Nat} (hP : P ≤ 5) (h : ¬ p < P) (hp : p < 1000) : hpB (nI P) (nI p) = 0 := by
  unfold hpB
  rw [if_neg (nI_nn (by omega)), if_pos ((nI_leI (by omega) (by omega)).mpr (by omega))]

set_option maxRecDepth 100000 in
set_option maxHeartbeats 4000000 in
theorem c_X4_tellKnown (l : Launch) (N : Nat) (g : ca_G) (f : Nat → Int32) (L : Nat) (h25 : g 25 = .inr (3, [.ref 26])) (hn : nbG g 26 96 f L) (hL : L ≤ 96) (hN31 : 31 ≤ N) (h : Nat → Int32) (ht : hsG g 11 h) (P : Nat) (hP : h 0 = nI P) (hP5 : P ≤ 5) (pl : Nat) (hp : pl < 800) (p a b v : Nat) (hpd : atM f L (pl + 1) - 48 = nI p) (hp9 : p ≤ 9) (ha : 10 * (atM f L (pl + 2) - 48) + (atM f L (pl + 2 + 1) - 48) = nI a) (hb : 10 * (atM f L (pl + 4) - 48) + (atM f L (pl + 4 + 1) - 48) = nI b) (hvd : atM f L (pl + 6) - 48 = nI v) (ha9 : a ≤ 99) (hb9 : b ≤ 99) : ca_Ct l yX4_tellKnown cX4_tellKnown 7 (some .boolean) 3 0 0 N 1000000 [.ref 25, .int (nI pl), .ref 11] g (tlP (doK h P p a b v) h g) := by
  refine ca_intro (by decide) (Nat.le_of_ble_eq_true rfl) (fun X hX hN => ?_)
  show X 0 [_, _, _, none, none, none, none] [] N 1000000 g
  have hfr : frG g g 11 16 := frG.rf
  have l0 := hn.1
  have t0 := ht.1
  refine ca_aload_n hX (q := 1) 0 rfl rfl rfl dX4_tellKnown_0 ?_
  refine ca_iload_n hX (q := 2) 1 rfl rfl rfl dX4_tellKnown_1 ?_
  refine ca_iconst hX (q := 3) k_iconst_1 rfl dX4_tellKnown_2 ?_
  refine ca_iadd hX (q := 4) rfl dX4_tellKnown_3 ?_
  rw [show nI pl + 1 = nI (pl + 1) from nI_add pl 1]
  refine ca_cVi hX (q := 7) y_X4_digitAt w_ml_X4_79 (by omega) hN h25 (c_X4_digitAt l N g f L h25 hn hL hN31 (pl + 1) (by omega)) (by decide) rfl (Nat.le_of_ble_eq_true rfl) rfl dX4_tellKnown_4 rfl ?_
  rw [hpd]
  refine ca_istore_n hX (q := 8) 3 rfl (ls' := [_, _, _, _, _, _, _]) (Nat.le_of_ble_eq_true rfl) (Nat.le_of_ble_eq_true rfl) (Or.inr rfl) rfl rfl dX4_tellKnown_7 ?_
  refine ca_aload_n hX (q := 9) 0 rfl rfl rfl dX4_tellKnown_8 ?_
  refine ca_iload_n hX (q := 10) 1 rfl rfl rfl dX4_tellKnown_9 ?_
  refine ca_iconst hX (q := 11) k_iconst_2 rfl dX4_tellKnown_10 ?_
  refine ca_iadd hX (q := 12) rfl dX4_tellKnown_11 ?_
  rw [show nI pl + 2 = nI (pl + 2) from nI_add pl 2]
  refine ca_cVi hX (q := 15) y_X4_pairAt w_ml_X4_76 (by omega) hN h25 (c_X4_pairAt l N g f L h25 hn hL hN31 (pl + 2) (by omega)) (by decide) rfl (Nat.le_of_ble_eq_true rfl) rfl dX4_tellKnown_12 rfl ?_
  rw [ha]
  refine ca_istore hX (q := 17) (ls' := [_, _, _, _, _, _, _]) (Nat.le_of_ble_eq_true rfl) (Nat.le_of_ble_eq_true rfl) (Or.inr rfl) rfl rfl dX4_tellKnown_15 ?_
  refine ca_aload_n hX (q := 18) 0 rfl rfl rfl dX4_tellKnown_17 ?_
  refine ca_iload_n hX (q := 19) 1 rfl rfl rfl dX4_tellKnown_18 ?_
  refine ca_iconst hX (q := 20) k_iconst_4 rfl dX4_tellKnown_19 ?_
  refine ca_iadd hX (q := 21) rfl dX4_tellKnown_20 ?_
  rw [show nI pl + 4 = nI (pl + 4) from nI_add pl 4]
  refine ca_cVi hX (q := 24) y_X4_pairAt w_ml_X4_76 (by omega) hN h25 (c_X4_pairAt l N g f L h25 hn hL hN31 (pl + 4) (by omega)) (by decide) rfl (Nat.le_of_ble_eq_true rfl) rfl dX4_tellKnown_21 rfl ?_
  rw [hb]
  refine ca_istore hX (q := 26) (ls' := [_, _, _, _, _, _, _]) (Nat.le_of_ble_eq_true rfl) (Nat.le_of_ble_eq_true rfl) (Or.inr rfl) rfl rfl dX4_tellKnown_24 ?_
  refine ca_aload_n hX (q := 27) 2 rfl rfl rfl dX4_tellKnown_26 ?_
  refine ca_iload_n hX (q := 28) 3 rfl rfl rfl dX4_tellKnown_27 ?_
  refine ca_cVi hX (q := 31) y_X1_hasPerson w_ml_X4_102 (by omega) hN t0 (c_X1_hasPerson l N g 11 h ht (by omega) (nI p)) (by decide) rfl (Nat.le_of_ble_eq_true rfl) rfl dX4_tellKnown_28 rfl ?_
  rw [hP]
  refine ca_if_eq hX (q := 34) 48 rfl rfl dX4_tellKnown_31 (fun c31 => ?_) (fun c31 => ?_)
  · have hst : ¬ (p < P ∧ a ≤ b ∧ b < 25) := fun z => by rw [hpB_ok rfl hP5 z.1] at c31; exact absurd c31 (by decide)
    refine ca_iconst hX (q := 49) k_iconst_0 rfl dX4_tellKnown_48 ?_
    refine ca_zret hX rfl rfl rfl rfl rfl dX4_tellKnown_49 ?_
    exact ⟨hfr, Or.inr ⟨by rw [doK, if_neg hst], rfl, ht⟩⟩
  · have hpP : p < P := Classical.byContradiction (fun z => c31 (hpB_no hP5 z (by omega)))
    refine ca_iload hX (q := 36) rfl rfl dX4_tellKnown_34 ?_
    refine ca_iload hX (q := 38) rfl rfl dX4_tellKnown_36 ?_
    refine ca_icmp_gt hX (q := 41) 48 rfl rfl dX4_tellKnown_38 (fun c38 => ?_) (fun c38 => ?_)
    · have hst : ¬ (p < P ∧ a ≤ b ∧ b < 25) := by have := (nI_ltI (by omega) (by omega)).mp c38; omega
      refine ca_iconst hX (q := 49) k_iconst_0 rfl dX4_tellKnown_48 ?_
      refine ca_zret hX rfl rfl rfl rfl rfl dX4_tellKnown_49 ?_
      exact ⟨hfr, Or.inr ⟨by rw [doK, if_neg hst], rfl, ht⟩⟩
    · have hab := mt (nI_ltI (a := b) (b := a) (by omega) (by omega)).mpr c38
      refine ca_iload hX (q := 43) rfl rfl dX4_tellKnown_41 ?_
      refine ca_bipush hX (q := 45) k_bipush_25 rfl dX4_tellKnown_43 ?_
      refine ca_icmp_lt hX (q := 48) 50 rfl rfl dX4_tellKnown_45 (fun c45 => ?_) (fun c45 => ?_)
      · have hst : p < P ∧ a ≤ b ∧ b < 25 := by have := (nI_ltI (a := b) (b := 25) (by omega) (by omega)).mp c45; omega
        have loop : ∀ (n i : Nat) (g1 : ca_G), i + n = b + 1 - a → g1 25 = .inr (3, [.ref 26]) → nbG g1 26 96 f L → hsG g1 11 (lnM h p (nI v) a i) → frG g g1 11 16 → X 54 [some (.ref 25), some (.int (nI pl)), some (.ref 11), some (.int (nI p)), some (.int (nI a)), some (.int (nI b)), some (.int (nI (a + i)))] [] N 1000000 g1 := by
          intro n
          induction n with
          | zero =>
            intro i g  hi h25 hn ht hfr
            have hib : i = b + 1 - a := by omega
            rw [hib]
            have l0 := hn.1
            have t0 := ht.1
            refine ca_iload hX (q := 56) rfl rfl dX4_tellKnown_54 ?_
            refine ca_iload hX (q := 58) rfl rfl dX4_tellKnown_56 ?_
            refine ca_icmp_gt hX (q := 61) 82 rfl rfl dX4_tellKnown_58 (fun _ => ?_) (fun z => absurd ((nI_ltI (by omega) (by omega)).mpr (by omega)) z)
            refine ca_iconst hX (q := 83) k_iconst_1 rfl dX4_tellKnown_82 ?_
            refine ca_zret hX rfl rfl rfl rfl rfl dX4_tellKnown_83 ?_
            exact ⟨hfr, Or.inl ⟨_, _, by rw [doK, if_pos hst], rfl, by rw [hib] at ht; exact ht⟩⟩
          | succ n ih =>
            intro i g  hi h25 hn ht hfr
            have l0 := hn.1
            have t0 := ht.1
            refine ca_iload hX (q := 56) rfl rfl dX4_tellKnown_54 ?_
            refine ca_iload hX (q := 58) rfl rfl dX4_tellKnown_56 ?_
            refine ca_icmp_gt hX (q := 61) 82 rfl rfl dX4_tellKnown_58 (fun z => absurd z (fun z => absurd ((nI_ltI (a := b) (b := a + i) (by omega) (by omega)).mp z) (by omega))) (fun _ => ?_)
            refine ca_aload_n hX (q := 62) 2 rfl rfl rfl dX4_tellKnown_61 ?_
            refine ca_iload_n hX (q := 63) 3 rfl rfl rfl dX4_tellKnown_62 ?_
            refine ca_iload hX (q := 65) rfl rfl dX4_tellKnown_63 ?_
            refine ca_aload_n hX (q := 66) 0 rfl rfl rfl dX4_tellKnown_65 ?_
            refine ca_iload_n hX (q := 67) 1 rfl rfl rfl dX4_tellKnown_66 ?_
            refine ca_bipush hX (q := 69) k_bipush_6 rfl dX4_tellKnown_67 ?_
            refine ca_iadd hX (q := 70) rfl dX4_tellKnown_69 ?_
            rw [show nI pl + 6 = nI (pl + 6) from nI_add pl 6]
            refine ca_cVi hX (q := 73) y_X4_digitAt w_ml_X4_79 (by omega) hN h25 (c_X4_digitAt l N g f L h25 hn hL hN31 (pl + 6) (by omega)) (by decide) rfl (Nat.le_of_ble_eq_true rfl) rfl dX4_tellKnown_70 rfl ?_
            rw [hvd]
            refine ca_cV hX (q := 76) y_X1_learn w_ml_X4_105 (by omega) hN t0 (c_X1_learn l N g 11 (lnM h p (nI v) a i) ht (by omega) P (by rw [ln_lo h p _ _ (by omega)]; exact hP) hP5 p (a + i) (by omega) (by omega) (nI v)) (by decide) rfl (Nat.le_of_ble_eq_true rfl) rfl dX4_tellKnown_73 rfl ?_
            rintro _ g ⟨rfl, ht, hf⟩
            have h25 := (hf 25 (by omega)).trans h25
            have hn := hn.fr hf (by omega)
            have hfr := hfr.tr hf
            have l0 := hn.1
            have t0 := ht.1
            refine ca_iinc hX (q := 79) (ls' := [_, _, _, _, _, _, _]) k_iconst_1 rfl (Nat.le_of_ble_eq_true rfl) (Or.inr rfl) rfl rfl dX4_tellKnown_76 ?_
            refine ca_goto hX 54 rfl dX4_tellKnown_79 ?_
            rw [show nI (a + i) + 1 = nI (a + (i + 1)) from nI_add _ 1]
            exact ih (i + 1) _ (by omega) h25 hn ht hfr
        refine ca_iload hX (q := 52) rfl rfl dX4_tellKnown_50 ?_
        refine ca_istore hX (q := 54) (ls' := [_, _, _, _, _, _, _]) (Nat.le_of_ble_eq_true rfl) (Nat.le_of_ble_eq_true rfl) (Or.inr rfl) rfl rfl dX4_tellKnown_52 ?_
        exact loop (b + 1 - a) 0 _ (by omega) h25 hn ht hfr
      · have hst : ¬ (p < P ∧ a ≤ b ∧ b < 25) := by have := mt (nI_ltI (a := b) (b := 25) (by omega) (by omega)).mpr c45; omega
        refine ca_iconst hX (q := 49) k_iconst_0 rfl dX4_tellKnown_48 ?_
        refine ca_zret hX rfl rfl rfl rfl rfl dX4_tellKnown_49 ?_
        exact ⟨hfr, Or.inr ⟨by rw [doK, if_neg hst], rfl, ht⟩⟩

set_option maxRecDepth 100000 in
set_option maxHeartbeats 4000000 in
theorem c_X4_tellNights (l : Launch) (N : Nat) (g : ca_G) (h : Nat → Int32) (ht : hsG g 11 h) (hN31 : 31 ≤ N) (P : Nat) (hP : h 0 = nI P) (hP5 : P ≤ 5) (k : Nat) (hk : k ≤ 99) : ca_Ct l yX4_tellNights cX4_tellNights 2 (some .boolean) 3 0 0 N 1000000 [.int (nI k), .ref 11] g (tlP (doN h P k) h g) := by
  refine ca_intro (by decide) (Nat.le_of_ble_eq_true rfl) (fun X hX hN => ?_)
  show X 0 [_, _] [] N 1000000 g
  have t0 := ht.1
  refine ca_iload_n hX (q := 1) 0 rfl rfl rfl dX4_tellNights_0 ?_
  refine ca_iconst hX (q := 2) k_iconst_1 rfl dX4_tellNights_1 ?_
  refine ca_icmp_lt hX (q := 5) 23 rfl rfl dX4_tellNights_2 (fun c2 => ?_) (fun c2 => ?_)
  · have hst : ¬ (1 ≤ k ∧ k ≤ 60 ∧ ¬ 999 < h 1 + nI k) := by have := (nI_ltI (a := k) (b := 1) (by omega) (by omega)).mp c2; omega
    refine ca_iconst hX (q := 24) k_iconst_0 rfl dX4_tellNights_23 ?_
    refine ca_zret hX rfl rfl rfl rfl rfl dX4_tellNights_24 ?_
    exact ⟨frG.rf, Or.inr ⟨by rw [doN, if_neg hst], rfl, ht⟩⟩
  · have hk1 := mt (nI_ltI (a := k) (b := 1) (by omega) (by omega)).mpr c2
    refine ca_iload_n hX (q := 6) 0 rfl rfl rfl dX4_tellNights_5 ?_
    refine ca_bipush hX (q := 8) k_bipush_60 rfl dX4_tellNights_6 ?_
    refine ca_icmp_gt hX (q := 11) 23 rfl rfl dX4_tellNights_8 (fun c8 => ?_) (fun c8 => ?_)
    · have hst : ¬ (1 ≤ k ∧ k ≤ 60 ∧ ¬ 999 < h 1 + nI k) := by have := (nI_ltI (a := 60) (b := k) (by omega) (by omega)).mp c8; omega
      refine ca_iconst hX (q := 24) k_iconst_0 rfl dX4_tellNights_23 ?_
      refine ca_zret hX rfl rfl rfl rfl rfl dX4_tellNights_24 ?_
      exact ⟨frG.rf, Or.inr ⟨by rw [doN, if_neg hst], rfl, ht⟩⟩
    · have hk2 := mt (nI_ltI (a := 60) (b := k) (by omega) (by omega)).mpr c8
      refine ca_aload_n hX (q := 12) 1 rfl rfl rfl dX4_tellNights_11 ?_
      refine ca_getN hX (q := 15) cl_X1 5 (by decide) w_fn_X4_108 (by omega) t0 rfl rfl dX4_tellNights_12 ?_
      refine ca_iload_n hX (q := 16) 0 rfl rfl rfl dX4_tellNights_15 ?_
      refine ca_iadd hX (q := 17) rfl dX4_tellNights_16 ?_
      refine ca_sipush hX (q := 20) k_sipush_999 rfl dX4_tellNights_17 ?_
      refine ca_icmp_le hX (q := 23) 25 rfl rfl dX4_tellNights_20 (fun c20 => ?_) (fun c20 => ?_)
      · have hst : 1 ≤ k ∧ k ≤ 60 ∧ ¬ 999 < h 1 + nI k := ⟨by omega, by omega, Int32.not_lt.mpr c20⟩
        refine ca_aload_n hX (q := 26) 1 rfl rfl rfl dX4_tellNights_25 ?_
        refine ca_iload_n hX (q := 27) 0 rfl rfl rfl dX4_tellNights_26 ?_
        refine ca_cV hX (q := 30) y_X1_passNights w_ml_X4_111 (by omega) hN t0 (c_X1_passNights l N g 11 h ht (by omega) P hP hP5 k (by omega)) (by decide) rfl (Nat.le_of_ble_eq_true rfl) rfl dX4_tellNights_27 rfl ?_
        rintro _ g ⟨rfl, ht, hf⟩
        refine ca_iconst hX (q := 31) k_iconst_1 rfl dX4_tellNights_30 ?_
        refine ca_zret hX rfl rfl rfl rfl rfl dX4_tellNights_31 ?_
        exact ⟨hf, Or.inl ⟨_, _, by rw [doN, if_pos hst], rfl, ht⟩⟩
      · have hst : ¬ (1 ≤ k ∧ k ≤ 60 ∧ ¬ 999 < h 1 + nI k) := fun z => z.2.2 (Int32.not_le.mp c20)
        refine ca_iconst hX (q := 24) k_iconst_0 rfl dX4_tellNights_23 ?_
        refine ca_zret hX rfl rfl rfl rfl rfl dX4_tellNights_24 ?_
        exact ⟨frG.rf, Or.inr ⟨by rw [doN, if_neg hst], rfl, ht⟩⟩

set_option maxRecDepth 100000 in
set_option maxHeartbeats 4000000 in
theorem c_X4_tellStatement (l : Launch) (N : Nat) (g : ca_G) (f : Nat → Int32) (L : Nat) (h25 : g 25 = .inr (3, [.ref 26])) (hn : nbG g 26 96 f L) (hL : L ≤ 96) (hN31 : 31 ≤ N) (h : Nat → Int32) (ht : hsG g 11 h) (P : Nat) (hP : h 0 = nI P) (hP5 : P ≤ 5) (pl : Nat) (hp : pl < 700) (ho : okF f L pl) : ca_Ct l yX4_tellStatement cX4_tellStatement 3 (some .boolean) 6 0 0 N 1000000 [.ref 25, .int (nI pl), .ref 11] g (tlP (stE f L pl h P) h g) := by
  refine ca_intro (by decide) (Nat.le_of_ble_eq_true rfl) (fun X hX hN => ?_)
  show X 0 [_, _, _] [] N 1000000 g
  have hfr : frG g g 11 16 := frG.rf
  have l0 := hn.1
  have t0 := ht.1
  refine ca_aload_n hX (q := 1) 0 rfl rfl rfl dX4_tellStatement_0 ?_
  refine ca_getf hX (q := 4) cl_X4 0 (by decide) w_fl_X4_14 (by omega) h25 rfl rfl dX4_tellStatement_1 ?_
  refine ca_iload_n hX (q := 5) 1 rfl rfl rfl dX4_tellStatement_4 ?_
  refine ca_cVi hX (q := 8) y_X3_at w_ml_X4_32 (by omega) hN l0 (c_X3_at l N g 26 96 L f hn (by omega) (by omega) hL pl (by omega)) (by decide) rfl (Nat.le_of_ble_eq_true rfl) rfl dX4_tellStatement_5 rfl ?_
  by_cases e8_107 : atM f L pl = 107
  · refine ca_tabIn hX 146 dX4_tellStatement_8 (by rw [e8_107]; decide) (by rw [e8_107]; decide) (by rw [e8_107]; rfl) rfl ?_
    have hk : kF f L pl = 3 := by show fmI (atM f L pl) = 3; rw [e8_107]; rfl
    have hE : stE f L pl h P = doK h P (dN f (pl + 1)) (pN f (pl + 2)) (pN f (pl + 4)) (dN f (pl + 6)) := by unfold stE; rw [hk]; rfl
    refine ca_aload_n hX (q := 147) 0 rfl rfl rfl dX4_tellStatement_146 ?_
    refine ca_iload_n hX (q := 148) 1 rfl rfl rfl dX4_tellStatement_147 ?_
    refine ca_aload_n hX (q := 149) 2 rfl rfl rfl dX4_tellStatement_148 ?_
    refine ca_cV hX (q := 152) y_X4_tellKnown w_ml_X4_92 (by omega) hN h25 (c_X4_tellKnown l N g f L h25 hn hL hN31 h ht P hP hP5 pl (by omega) (dN f (pl + 1)) (pN f (pl + 2)) (pN f (pl + 4)) (dN f (pl + 6)) (by rw [(dg_N (ok_dg ho hk 1 (by decide) (by decide) (by decide))).2.2.2]; exact (dg_N (ok_dg ho hk 1 (by decide) (by decide) (by decide))).2.1) (dg_N (ok_dg ho hk 1 (by decide) (by decide) (by decide))).2.2.1 (pr_2 (ok_dg ho hk 2 (by decide) (by decide) (by decide)) (ok_dg ho hk 3 (by decide) (by decide) (by decide))) (pr_2 (ok_dg ho hk 4 (by decide) (by decide) (by decide)) (ok_dg ho hk 5 (by decide) (by decide) (by decide))) (by rw [(dg_N (ok_dg ho hk 6 (by decide) (by decide) (by decide))).2.2.2]; exact (dg_N (ok_dg ho hk 6 (by decide) (by decide) (by decide))).2.1) (p_99 (ok_dg ho hk 2 (by decide) (by decide) (by decide)) (ok_dg ho hk 3 (by decide) (by decide) (by decide))) (p_99 (ok_dg ho hk 4 (by decide) (by decide) (by decide)) (ok_dg ho hk 5 (by decide) (by decide) (by decide)))) (by decide) rfl (Nat.le_of_ble_eq_true rfl) rfl dX4_tellStatement_149 rfl ?_
    rintro _ g ⟨hf, hpost⟩
    rcases hpost with ⟨h2, P2, he2, rfl, ht2⟩ | ⟨he2, rfl, ht2⟩
    · refine ca_zret hX rfl rfl rfl rfl rfl dX4_tellStatement_152 ?_
      exact ⟨hf, Or.inl ⟨_, _, by rw [hE]; exact he2, rfl, ht2⟩⟩
    · refine ca_zret hX rfl rfl rfl rfl rfl dX4_tellStatement_152 ?_
      exact ⟨hf, Or.inr ⟨by rw [hE]; exact he2, rfl, ht2⟩⟩
  by_cases e8_108 : atM f L pl = 108
  · refine ca_tabIn hX 165 dX4_tellStatement_8 (by rw [e8_108]; decide) (by rw [e8_108]; decide) (by rw [e8_108]; rfl) rfl ?_
    refine ca_iconst hX (q := 166) k_iconst_0 rfl dX4_tellStatement_165 ?_
    refine ca_zret hX rfl rfl rfl rfl rfl dX4_tellStatement_166 ?_
    have hk : kF f L pl = 5 := by show fmI (atM f L pl) = 5; exact (by rw [e8_108]; rfl)
    exact absurd ho.1 (by rw [hk]; decide)
  by_cases e8_109 : atM f L pl = 109
  · refine ca_tabIn hX 165 dX4_tellStatement_8 (by rw [e8_109]; decide) (by rw [e8_109]; decide) (by rw [e8_109]; rfl) rfl ?_
    refine ca_iconst hX (q := 166) k_iconst_0 rfl dX4_tellStatement_165 ?_
    refine ca_zret hX rfl rfl rfl rfl rfl dX4_tellStatement_166 ?_
    have hk : kF f L pl = 5 := by show fmI (atM f L pl) = 5; exact (by rw [e8_109]; rfl)
    exact absurd ho.1 (by rw [hk]; decide)
  by_cases e8_110 : atM f L pl = 110
  · refine ca_tabIn hX 153 dX4_tellStatement_8 (by rw [e8_110]; decide) (by rw [e8_110]; decide) (by rw [e8_110]; rfl) rfl ?_
    have hk : kF f L pl = 4 := by show fmI (atM f L pl) = 4; rw [e8_110]; rfl
    have hE : stE f L pl h P = doN h P (pN f (pl + 1)) := by unfold stE; rw [hk]; rfl
    refine ca_aload_n hX (q := 154) 0 rfl rfl rfl dX4_tellStatement_153 ?_
    refine ca_iload_n hX (q := 155) 1 rfl rfl rfl dX4_tellStatement_154 ?_
    refine ca_iconst hX (q := 156) k_iconst_1 rfl dX4_tellStatement_155 ?_
    refine ca_iadd hX (q := 157) rfl dX4_tellStatement_156 ?_
    rw [show nI pl + 1 = nI (pl + 1) from nI_add pl 1]
    refine ca_cVi hX (q := 160) y_X4_pairAt w_ml_X4_76 (by omega) hN h25 (c_X4_pairAt l N g f L h25 hn hL hN31 (pl + 1) (by omega)) (by decide) rfl (Nat.le_of_ble_eq_true rfl) rfl dX4_tellStatement_157 rfl ?_
    refine ca_aload_n hX (q := 161) 2 rfl rfl rfl dX4_tellStatement_160 ?_
    rw [pr_2 (ok_dg ho hk 1 (by decide) (by decide) (by decide)) (ok_dg ho hk 2 (by decide) (by decide) (by decide))]
    refine ca_cS hX (q := 164) y_X4_tellNights w_ml_X4_95 hN (c_X4_tellNights l N g h ht hN31 P hP hP5 (pN f (pl + 1)) (p_99 (ok_dg ho hk 1 (by decide) (by decide) (by decide)) (ok_dg ho hk 2 (by decide) (by decide) (by decide)))) (by decide) rfl (Nat.le_of_ble_eq_true rfl) rfl dX4_tellStatement_161 rfl ?_
    rintro _ g ⟨hf, hpost⟩
    rcases hpost with ⟨h2, P2, he2, rfl, ht2⟩ | ⟨he2, rfl, ht2⟩
    · refine ca_zret hX rfl rfl rfl rfl rfl dX4_tellStatement_164 ?_
      exact ⟨hf, Or.inl ⟨_, _, by rw [hE]; exact he2, rfl, ht2⟩⟩
    · refine ca_zret hX rfl rfl rfl rfl rfl dX4_tellStatement_164 ?_
      exact ⟨hf, Or.inr ⟨by rw [hE]; exact he2, rfl, ht2⟩⟩
  by_cases e8_111 : atM f L pl = 111
  · refine ca_tabIn hX 165 dX4_tellStatement_8 (by rw [e8_111]; decide) (by rw [e8_111]; decide) (by rw [e8_111]; rfl) rfl ?_
    refine ca_iconst hX (q := 166) k_iconst_0 rfl dX4_tellStatement_165 ?_
    refine ca_zret hX rfl rfl rfl rfl rfl dX4_tellStatement_166 ?_
    have hk : kF f L pl = 5 := by show fmI (atM f L pl) = 5; exact (by rw [e8_111]; rfl)
    exact absurd ho.1 (by rw [hk]; decide)
  by_cases e8_112 : atM f L pl = 112
  · refine ca_tabIn hX 115 dX4_tellStatement_8 (by rw [e8_112]; decide) (by rw [e8_112]; decide) (by rw [e8_112]; rfl) rfl ?_
    have hk : kF f L pl = 2 := by show fmI (atM f L pl) = 2; rw [e8_112]; rfl
    have hE : stE f L pl h P = doP h P (dN f (pl + 1)) := by unfold stE; rw [hk]; rfl
    refine ca_aload_n hX (q := 116) 0 rfl rfl rfl dX4_tellStatement_115 ?_
    refine ca_iload_n hX (q := 117) 1 rfl rfl rfl dX4_tellStatement_116 ?_
    refine ca_iconst hX (q := 118) k_iconst_1 rfl dX4_tellStatement_117 ?_
    refine ca_iadd hX (q := 119) rfl dX4_tellStatement_118 ?_
    rw [show nI pl + 1 = nI (pl + 1) from nI_add pl 1]
    refine ca_cVi hX (q := 122) y_X4_digitAt w_ml_X4_79 (by omega) hN h25 (c_X4_digitAt l N g f L h25 hn hL hN31 (pl + 1) (by omega)) (by decide) rfl (Nat.le_of_ble_eq_true rfl) rfl dX4_tellStatement_119 rfl ?_
    refine ca_iconst hX (q := 123) k_iconst_1 rfl dX4_tellStatement_122 ?_
    rw [(dg_N (ok_dg ho hk 1 (by decide) (by decide) (by decide))).2.2.2, (dg_N (ok_dg ho hk 1 (by decide) (by decide) (by decide))).2.1]
    have hd9 := (dg_N (ok_dg ho hk 1 (by decide) (by decide) (by decide))).2.2.1
    refine ca_icmp_lt hX (q := 126) 144 rfl rfl dX4_tellStatement_123 (fun c123 => ?_) (fun c123 => ?_)
    · have hst : ¬ (1 ≤ dN f (pl + 1) ∧ P < 5) := by have := (nI_ltI (a := dN f (pl + 1)) (b := 1) (by omega) (by omega)).mp c123; omega
      refine ca_iconst hX (q := 145) k_iconst_0 rfl dX4_tellStatement_144 ?_
      refine ca_zret hX rfl rfl rfl rfl rfl dX4_tellStatement_145 ?_
      exact ⟨frG.rf, Or.inr ⟨by rw [hE, doP, if_neg hst], rfl, ht⟩⟩
    · have hd1 := mt (nI_ltI (a := dN f (pl + 1)) (b := 1) (by omega) (by omega)).mpr c123
      refine ca_aload_n hX (q := 127) 2 rfl rfl rfl dX4_tellStatement_126 ?_
      refine ca_aload_n hX (q := 128) 0 rfl rfl rfl dX4_tellStatement_127 ?_
      refine ca_iload_n hX (q := 129) 1 rfl rfl rfl dX4_tellStatement_128 ?_
      refine ca_iconst hX (q := 130) k_iconst_1 rfl dX4_tellStatement_129 ?_
      refine ca_iadd hX (q := 131) rfl dX4_tellStatement_130 ?_
      rw [show nI pl + 1 = nI (pl + 1) from nI_add pl 1]
      refine ca_cVi hX (q := 134) y_X4_digitAt w_ml_X4_79 (by omega) hN h25 (c_X4_digitAt l N g f L h25 hn hL hN31 (pl + 1) (by omega)) (by decide) rfl (Nat.le_of_ble_eq_true rfl) rfl dX4_tellStatement_131 rfl ?_
      rw [(dg_N (ok_dg ho hk 1 (by decide) (by decide) (by decide))).2.2.2, (dg_N (ok_dg ho hk 1 (by decide) (by decide) (by decide))).2.1]
      by_cases hP4 : P < 5
      · refine ca_cV hX (q := 137) y_X1_takeIn w_ml_X4_86 (by omega) hN t0 (c_X1_takeIn l N g 11 h ht (by omega) P hP hP4 (nI (dN f (pl + 1)))) (by decide) rfl (Nat.le_of_ble_eq_true rfl) rfl dX4_tellStatement_134 rfl ?_
        rintro _ g ⟨rfl, ht, hf⟩
        refine ca_if_eq hX (q := 140) 144 rfl rfl dX4_tellStatement_137 (fun c137 => ?_) (fun c137 => ?_)
        · exact absurd c137 (by decide)
        · refine ca_iconst hX (q := 141) k_iconst_1 rfl dX4_tellStatement_140 ?_
          refine ca_goto hX 145 rfl dX4_tellStatement_141 ?_
          refine ca_zret hX rfl rfl rfl rfl rfl dX4_tellStatement_145 ?_
          exact ⟨hf, Or.inl ⟨_, _, by rw [hE, doP, if_pos ⟨by omega, hP4⟩], rfl, ht⟩⟩
      · refine ca_cVi hX (q := 137) y_X1_takeIn w_ml_X4_86 (by omega) hN t0 (c_X1_takeIn_full l N g 11 h ht (by omega) (by rw [hP, show P = 5 by omega]; rfl) (nI (dN f (pl + 1)))) (by decide) rfl (Nat.le_of_ble_eq_true rfl) rfl dX4_tellStatement_134 rfl ?_
        refine ca_if_eq hX (q := 140) 144 rfl rfl dX4_tellStatement_137 (fun c137 => ?_) (fun c137 => ?_)
        · refine ca_iconst hX (q := 145) k_iconst_0 rfl dX4_tellStatement_144 ?_
          refine ca_zret hX rfl rfl rfl rfl rfl dX4_tellStatement_145 ?_
          exact ⟨frG.rf, Or.inr ⟨by rw [hE, doP, if_neg (fun z => hP4 z.2)], rfl, ht⟩⟩
        · exact absurd rfl c137
  by_cases e8_113 : atM f L pl = 113
  · refine ca_tabIn hX 165 dX4_tellStatement_8 (by rw [e8_113]; decide) (by rw [e8_113]; decide) (by rw [e8_113]; rfl) rfl ?_
    refine ca_iconst hX (q := 166) k_iconst_0 rfl dX4_tellStatement_165 ?_
    refine ca_zret hX rfl rfl rfl rfl rfl dX4_tellStatement_166 ?_
    have hk : kF f L pl = 5 := by show fmI (atM f L pl) = 5; exact (by rw [e8_113]; rfl)
    exact absurd ho.1 (by rw [hk]; decide)
  by_cases e8_114 : atM f L pl = 114
  · refine ca_tabIn hX 72 dX4_tellStatement_8 (by rw [e8_114]; decide) (by rw [e8_114]; decide) (by rw [e8_114]; rfl) rfl ?_
    have hk : kF f L pl = 0 := by show fmI (atM f L pl) = 0; rw [e8_114]; rfl
    have hE : stE f L pl h P = doT h P (kdN f (pl + 1)) (pN f (pl + 2)) (pN f (pl + 2)) (dN f (pl + 4)) := by unfold stE; rw [hk]; rfl
    refine ca_aload_n hX (q := 73) 0 rfl rfl rfl dX4_tellStatement_72 ?_
    refine ca_iload_n hX (q := 74) 1 rfl rfl rfl dX4_tellStatement_73 ?_
    refine ca_aload_n hX (q := 75) 0 rfl rfl rfl dX4_tellStatement_74 ?_
    refine ca_iload_n hX (q := 76) 1 rfl rfl rfl dX4_tellStatement_75 ?_
    refine ca_iconst hX (q := 77) k_iconst_2 rfl dX4_tellStatement_76 ?_
    refine ca_iadd hX (q := 78) rfl dX4_tellStatement_77 ?_
    rw [show nI pl + 2 = nI (pl + 2) from nI_add pl 2]
    refine ca_cVi hX (q := 81) y_X4_pairAt w_ml_X4_76 (by omega) hN h25 (c_X4_pairAt l N g f L h25 hn hL hN31 (pl + 2) (by omega)) (by decide) rfl (Nat.le_of_ble_eq_true rfl) rfl dX4_tellStatement_78 rfl ?_
    refine ca_aload_n hX (q := 82) 0 rfl rfl rfl dX4_tellStatement_81 ?_
    refine ca_iload_n hX (q := 83) 1 rfl rfl rfl dX4_tellStatement_82 ?_
    refine ca_iconst hX (q := 84) k_iconst_4 rfl dX4_tellStatement_83 ?_
    refine ca_iadd hX (q := 85) rfl dX4_tellStatement_84 ?_
    rw [show nI pl + 4 = nI (pl + 4) from nI_add pl 4]
    refine ca_cVi hX (q := 88) y_X4_digitAt w_ml_X4_79 (by omega) hN h25 (c_X4_digitAt l N g f L h25 hn hL hN31 (pl + 4) (by omega)) (by decide) rfl (Nat.le_of_ble_eq_true rfl) rfl dX4_tellStatement_85 rfl ?_
    refine ca_aload_n hX (q := 89) 2 rfl rfl rfl dX4_tellStatement_88 ?_
    rw [pr_2 (ok_dg ho hk 2 (by decide) (by decide) (by decide)) (ok_dg ho hk 3 (by decide) (by decide) (by decide)), (dg_N (ok_dg ho hk 4 (by decide) (by decide) (by decide))).2.2.2, (dg_N (ok_dg ho hk 4 (by decide) (by decide) (by decide))).2.1]
    refine ca_cV hX (q := 92) y_X4_tellThings w_ml_X4_82 (by omega) hN h25 (c_X4_tellThings l N g f L h25 hn hL hN31 h ht P pl (by omega) (kdN f (pl + 1)) (pN f (pl + 2)) (pN f (pl + 2)) (dN f (pl + 4)) (by rw [(ok_kd ho hk (by decide) (by decide) (by decide)).2.2.2.1]; exact (ok_kd ho hk (by decide) (by decide) (by decide)).2.1) (pr_2 (ok_dg ho hk 2 (by decide) (by decide) (by decide)) (ok_dg ho hk 3 (by decide) (by decide) (by decide))) (p_99 (ok_dg ho hk 2 (by decide) (by decide) (by decide)) (ok_dg ho hk 3 (by decide) (by decide) (by decide))) (p_99 (ok_dg ho hk 2 (by decide) (by decide) (by decide)) (ok_dg ho hk 3 (by decide) (by decide) (by decide)))) (by decide) rfl (Nat.le_of_ble_eq_true rfl) rfl dX4_tellStatement_89 rfl ?_
    rintro _ g ⟨hf, hpost⟩
    rcases hpost with ⟨h2, P2, he2, rfl, ht2⟩ | ⟨he2, rfl, ht2⟩
    · refine ca_zret hX rfl rfl rfl rfl rfl dX4_tellStatement_92 ?_
      exact ⟨hf, Or.inl ⟨_, _, by rw [hE]; exact he2, rfl, ht2⟩⟩
    · refine ca_zret hX rfl rfl rfl rfl rfl dX4_tellStatement_92 ?_
      exact ⟨hf, Or.inr ⟨by rw [hE]; exact he2, rfl, ht2⟩⟩
  by_cases e8_115 : atM f L pl = 115
  · refine ca_tabIn hX 165 dX4_tellStatement_8 (by rw [e8_115]; decide) (by rw [e8_115]; decide) (by rw [e8_115]; rfl) rfl ?_
    refine ca_iconst hX (q := 166) k_iconst_0 rfl dX4_tellStatement_165 ?_
    refine ca_zret hX rfl rfl rfl rfl rfl dX4_tellStatement_166 ?_
    have hk : kF f L pl = 5 := by show fmI (atM f L pl) = 5; exact (by rw [e8_115]; rfl)
    exact absurd ho.1 (by rw [hk]; decide)
  by_cases e8_116 : atM f L pl = 116
  · refine ca_tabIn hX 165 dX4_tellStatement_8 (by rw [e8_116]; decide) (by rw [e8_116]; decide) (by rw [e8_116]; rfl) rfl ?_
    refine ca_iconst hX (q := 166) k_iconst_0 rfl dX4_tellStatement_165 ?_
    refine ca_zret hX rfl rfl rfl rfl rfl dX4_tellStatement_166 ?_
    have hk : kF f L pl = 5 := by show fmI (atM f L pl) = 5; exact (by rw [e8_116]; rfl)
    exact absurd ho.1 (by rw [hk]; decide)
  by_cases e8_117 : atM f L pl = 117
  · refine ca_tabIn hX 165 dX4_tellStatement_8 (by rw [e8_117]; decide) (by rw [e8_117]; decide) (by rw [e8_117]; rfl) rfl ?_
    refine ca_iconst hX (q := 166) k_iconst_0 rfl dX4_tellStatement_165 ?_
    refine ca_zret hX rfl rfl rfl rfl rfl dX4_tellStatement_166 ?_
    have hk : kF f L pl = 5 := by show fmI (atM f L pl) = 5; exact (by rw [e8_117]; rfl)
    exact absurd ho.1 (by rw [hk]; decide)
  by_cases e8_118 : atM f L pl = 118
  · refine ca_tabIn hX 93 dX4_tellStatement_8 (by rw [e8_118]; decide) (by rw [e8_118]; decide) (by rw [e8_118]; rfl) rfl ?_
    have hk : kF f L pl = 1 := by show fmI (atM f L pl) = 1; rw [e8_118]; rfl
    have hE : stE f L pl h P = doT h P (kdN f (pl + 1)) (pN f (pl + 2)) (pN f (pl + 4)) (dN f (pl + 6)) := by unfold stE; rw [hk]; rfl
    refine ca_aload_n hX (q := 94) 0 rfl rfl rfl dX4_tellStatement_93 ?_
    refine ca_iload_n hX (q := 95) 1 rfl rfl rfl dX4_tellStatement_94 ?_
    refine ca_aload_n hX (q := 96) 0 rfl rfl rfl dX4_tellStatement_95 ?_
    refine ca_iload_n hX (q := 97) 1 rfl rfl rfl dX4_tellStatement_96 ?_
    refine ca_iconst hX (q := 98) k_iconst_4 rfl dX4_tellStatement_97 ?_
    refine ca_iadd hX (q := 99) rfl dX4_tellStatement_98 ?_
    rw [show nI pl + 4 = nI (pl + 4) from nI_add pl 4]
    refine ca_cVi hX (q := 102) y_X4_pairAt w_ml_X4_76 (by omega) hN h25 (c_X4_pairAt l N g f L h25 hn hL hN31 (pl + 4) (by omega)) (by decide) rfl (Nat.le_of_ble_eq_true rfl) rfl dX4_tellStatement_99 rfl ?_
    refine ca_aload_n hX (q := 103) 0 rfl rfl rfl dX4_tellStatement_102 ?_
    refine ca_iload_n hX (q := 104) 1 rfl rfl rfl dX4_tellStatement_103 ?_
    refine ca_bipush hX (q := 106) k_bipush_6 rfl dX4_tellStatement_104 ?_
    refine ca_iadd hX (q := 107) rfl dX4_tellStatement_106 ?_
    rw [show nI pl + 6 = nI (pl + 6) from nI_add pl 6]
    refine ca_cVi hX (q := 110) y_X4_digitAt w_ml_X4_79 (by omega) hN h25 (c_X4_digitAt l N g f L h25 hn hL hN31 (pl + 6) (by omega)) (by decide) rfl (Nat.le_of_ble_eq_true rfl) rfl dX4_tellStatement_107 rfl ?_
    refine ca_aload_n hX (q := 111) 2 rfl rfl rfl dX4_tellStatement_110 ?_
    rw [pr_2 (ok_dg ho hk 4 (by decide) (by decide) (by decide)) (ok_dg ho hk 5 (by decide) (by decide) (by decide)), (dg_N (ok_dg ho hk 6 (by decide) (by decide) (by decide))).2.2.2, (dg_N (ok_dg ho hk 6 (by decide) (by decide) (by decide))).2.1]
    refine ca_cV hX (q := 114) y_X4_tellThings w_ml_X4_82 (by omega) hN h25 (c_X4_tellThings l N g f L h25 hn hL hN31 h ht P pl (by omega) (kdN f (pl + 1)) (pN f (pl + 2)) (pN f (pl + 4)) (dN f (pl + 6)) (by rw [(ok_kd ho hk (by decide) (by decide) (by decide)).2.2.2.1]; exact (ok_kd ho hk (by decide) (by decide) (by decide)).2.1) (pr_2 (ok_dg ho hk 2 (by decide) (by decide) (by decide)) (ok_dg ho hk 3 (by decide) (by decide) (by decide))) (p_99 (ok_dg ho hk 2 (by decide) (by decide) (by decide)) (ok_dg ho hk 3 (by decide) (by decide) (by decide))) (p_99 (ok_dg ho hk 4 (by decide) (by decide) (by decide)) (ok_dg ho hk 5 (by decide) (by decide) (by decide)))) (by decide) rfl (Nat.le_of_ble_eq_true rfl) rfl dX4_tellStatement_111 rfl ?_
    rintro _ g ⟨hf, hpost⟩
    rcases hpost with ⟨h2, P2, he2, rfl, ht2⟩ | ⟨he2, rfl, ht2⟩
    · refine ca_zret hX rfl rfl rfl rfl rfl dX4_tellStatement_114 ?_
      exact ⟨hf, Or.inl ⟨_, _, by rw [hE]; exact he2, rfl, ht2⟩⟩
    · refine ca_zret hX rfl rfl rfl rfl rfl dX4_tellStatement_114 ?_
      exact ⟨hf, Or.inr ⟨by rw [hE]; exact he2, rfl, ht2⟩⟩
  refine ca_tabOut hX 165 dX4_tellStatement_8 (by have z0 := lv_neT (k := 107) (a := 107) e8_107 (by decide); have z1 := lv_neT (k := 108) (a := 108) e8_108 (by decide); have z2 := lv_neT (k := 109) (a := 109) e8_109 (by decide); have z3 := lv_neT (k := 110) (a := 110) e8_110 (by decide); have z4 := lv_neT (k := 111) (a := 111) e8_111 (by decide); have z5 := lv_neT (k := 112) (a := 112) e8_112 (by decide); have z6 := lv_neT (k := 113) (a := 113) e8_113 (by decide); have z7 := lv_neT (k := 114) (a := 114) e8_114 (by decide); have z8 := lv_neT (k := 115) (a := 115) e8_115 (by decide); have z9 := lv_neT (k := 116) (a := 116) e8_116 (by decide); have z10 := lv_neT (k := 117) (a := 117) e8_117 (by decide); have z11 := lv_neT (k := 118) (a := 118) e8_118 (by decide); omega) rfl ?_
  refine ca_iconst hX (q := 166) k_iconst_0 rfl dX4_tellStatement_165 ?_
  refine ca_zret hX rfl rfl rfl rfl rfl dX4_tellStatement_166 ?_
  have hk : kF f L pl = 5 := by show fmI (atM f L pl) = 5; exact (by unfold fmI; rw [if_neg e8_107, if_neg e8_110, if_neg e8_112, if_neg e8_114, if_neg e8_118])
  exact absurd ho.1 (by rw [hk]; decide)

