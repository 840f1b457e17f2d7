/-! a fire that is over: what the class's methods tell of it, in the common words -/
theorem bn_end {B B' : Nat → Nat → Int32} {h : Nat → Int32} {P tn : Nat} {tu : Nat → Nat} {r0 L : Nat} {x : Int32} (hl : loM B h P) (ho : okH h) (hP5 : P ≤ 5) (hs : spkM B P tn tu) (hr0 : r0 < 25) (hv : vsM B' (1 <<< (nI r0 &&& 31)) L) (e0 : B' 0 = B 0) (e1 : B' 1 = B 1) (e2 : B' 2 = B 2) (e3 : B' 3 = B 3) (e80 : B' 8 0 = B 8 0) (e81 : B' 8 1 = B 8 1) (e82 : B' 8 2 = (rnM (B 0) (B 1) (1 <<< (nI r0 &&& 31)) (abM B tn) x 100 1 0 (B 7)).1) (e84 : B' 8 4 = nI (rnM (B 0) (B 1) (1 <<< (nI r0 &&& 31)) (abM B tn) x 100 1 0 (B 7)).2.1) (e7 : B' 7 = (rnM (B 0) (B 1) (1 <<< (nI r0 &&& 31)) (abM B tn) x 100 1 0 (B 7)).2.2) : loM B' h P ∧ spkM B' P tn tu ∧ fdM B' h r0 tn tu x := by
  refine ⟨?_, ?_, ?_⟩
  · unfold loM lkM at hl ⊢
    rw [e0, e1, e2, e80]; exact hl
  · unfold spkM at hs ⊢
    rw [e3, e81]; exact hs
  · have hE := cl_en hl.1 ho hr0 (tn := tn) (tu := tu) (ab := abM B tn) x (fun k _ _ r hr => ab_bits hl hP5 hs k r hr) (B 7)
    exact fd_of hr0 (fun c a b => by rw [e0]; exact lk_ct hl.1 a b) hE hv e82 e84 e7
theorem fd_w {B : Nat → Nat → Int32} {h : Nat → Int32} {P r0 tn : Nat} {tu : Nat → Nat} {x : Int32} (hl : loM B h P) (hf : fdM B h r0 tn tu x) : ∃ L, B 8 3 = nI L ∧ L < 101 ∧ wbM (B 5 L) (B 1) 25 = wS h r0 tn tu x := by
  obtain ⟨L, k, h1, h2, h3, h4, h5, h6, h7, h8, h9⟩ := hf
  refine ⟨L, h1, h2, wb_sm 25 (fun r hr => ⟨?_, hl.1.1 r hr⟩)⟩
  rw [h5 r, decide_eq_true hr]
  simp
theorem fd_n {B : Nat → Nat → Int32} {h : Nat → Int32} {r0 tn : Nat} {tu : Nat → Nat} {x : Int32} (hf : fdM B h r0 tn tu x) : ∃ L, B 8 3 = nI L ∧ L < 101 ∧ bcI (B 5 L) = nS h r0 tn tu x := by
  obtain ⟨L, k, h1, h2, h3, h4, h5, h6, h7, h8, h9⟩ := hf
  refine ⟨L, h1, h2, ?_⟩
  rw [bc_25 (fun i hi => by rw [h5 i, decide_eq_false (by omega)]; rfl)]
  refine (smI_n 25 (fun r hr => ?_)).symm
  rw [h5 r, decide_eq_true hr, bmF]
  by_cases z : buS h r0 tn tu x r < 0
  · rw [if_pos z, decide_eq_true z, if_neg (by decide)]; rfl
  · rw [if_neg z, decide_eq_false z, if_pos (by decide)]; rfl
theorem fd_l {B : Nat → Nat → Int32} {h : Nat → Int32} {r0 tn : Nat} {tu : Nat → Nat} {x : Int32} (hf : fdM B h r0 tn tu x) : B 8 3 = lmM (buS h r0 tn tu x) 25 := by
  obtain ⟨L, k, h1, h2, h3, h4, h5, h6, h7, ⟨q, hq, e⟩, h9⟩ := hf
  obtain ⟨t, a, b, c⟩ := lm_eq (bu := buS h r0 tn tu x) (L := L) (by omega) 25 (fun r hr => by
    unfold buS
    by_cases z : tS h r0 tn tu x r < 1000000000
    · rw [if_pos z]; exact Or.inr ⟨_, h7 r hr z, rfl⟩
    · rw [if_neg z]; exact Or.inl rfl)
  rw [h1, b, c ⟨q, hq, by unfold buS; rw [e, if_pos (by omega)]⟩]
theorem fd_b {B : Nat → Nat → Int32} {h : Nat → Int32} {r0 tn : Nat} {tu : Nat → Nat} {x : Int32} (hf : fdM B h r0 tn tu x) : ∃ L, B 8 3 = nI L ∧ L < 101 ∧ ∀ q, q < 25 → fsM (fun j => bt (B 4 j) q) 0 (L + 1) = buS h r0 tn tu x q := by
  obtain ⟨L, k, h1, h2, h3, h4, h5, h6, h7, h8, h9⟩ := hf
  exact ⟨L, h1, h2, h6⟩
theorem fd_s {B : Nat → Nat → Int32} {h : Nat → Int32} {P r0 tn : Nat} {tu : Nat → Nat} {x : Int32} (hs : spkM B P tn tu) (hf : fdM B h r0 tn tu x) : ∃ k, B 8 4 = nI k ∧ k < 101 ∧ (∀ q, q < 25 → fsM (fun j => decide (B 7 j = nI q)) 1 k = sdS h r0 tn tu x q) ∧ (∀ q, q < 25 → (sdS h r0 tn tu x q = -9 ∧ sbS h r0 tn tu x q = -9) ∨ ∃ j, 1 ≤ j ∧ j ≤ 100 ∧ sdS h r0 tn tu x q = nI j ∧ sbS h r0 tn tu x q = spM B tn j) ∧ (∀ p, p < 5 → tsM B tn (nI p) k = smI (fun r => if sbS h r0 tn tu x r = nI p then 1 else 0) 25) ∧ ∀ j, 1 ≤ j → j < 1000 → rsM (sdS h r0 tn tu x) j 25 = if (if j ≤ k then B 7 j else -9) = -9 then 99 else (if j ≤ k then B 7 j else -9) := by
  obtain ⟨L, k, h1, h2, h3, h4, h5, h6, h7, h8, h9⟩ := hf
  refine ⟨k, h3, h4, fun q hq => sd_fs h9 hq, fun q hq => ?_, fun p hp => ts_sb h9 (fun j _ _ => sp_pv hs j) hp, fun j a b => rs_si h9 h4 a b⟩
  rcases sb_sp h9 hq with z | ⟨j, a, b, c, d⟩
  · exact Or.inl z
  · exact Or.inr ⟨j, a, by omega, c, by rw [d, sp_pv hs]⟩
/-- the reference's fire, in the same words -/
theorem re_end {h : Nat → Int32} {r0 tn : Nat} (hr0 : r0 < 25) {tu : Nat → Nat} (x : Int32) (ho : okH h) (sd0 sb0 : Nat → Int32) (h1 : ∀ r, r < 25 → sd0 r = -9) (h2 : ∀ r, r < 25 → sb0 r = -9) :
    (∀ q, q < 25 → buT (tmM (ctS h) (1 <<< (nI r0 &&& 31))) (mrM (tmM (ctS h) (1 <<< (nI r0 &&& 31))) h tn tu x 100 1 0 sd0 sb0).1 (mrM (tmM (ctS h) (1 <<< (nI r0 &&& 31))) h tn tu x 100 1 0 sd0 sb0).2.1 q = buS h r0 tn tu x q) ∧
    (∀ q, q < 25 → (mrM (tmM (ctS h) (1 <<< (nI r0 &&& 31))) h tn tu x 100 1 0 sd0 sb0).2.2.1 q = sdS h r0 tn tu x q) ∧
    ∀ q, q < 25 → (mrM (tmM (ctS h) (1 <<< (nI r0 &&& 31))) h tn tu x 100 1 0 sd0 sb0).2.2.2 q = sbS h r0 tn tu x q := by
  obtain ⟨c1, c2, c3, c4⟩ := mr_congr (TT := tmM (ctS h) (1 <<< (nI r0 &&& 31))) (f := h) (tn := tn) (tu := tu) (x := x) 100 1 0 sd0 sb0 (fun _ => -9) (fun _ => -9) h1 h2
  refine ⟨fun q hq => ?_, fun q hq => c3 q hq, fun q hq => c4 q hq⟩
  rw [c1, c2]
  have hE := rn_mr (ct := ctS h) (wo := wtH h) (f := h) (ms_S h) hr0 (fun r hr => ⟨rfl, ho r hr⟩) (tn := tn) (tu := tu) (ab := fun k => if tn = 0 then 0 else sayM h (tu ((k - 1) % tn)) 25) x (fun k _ _ r hr => by
    by_cases z : tn = 0
    · rw [if_pos z, b_0, decide_eq_true z]; rfl
    · rw [if_neg z, say_bit h _ r 25 (Nat.le_refl _), decide_eq_true hr, decide_eq_false z]; rfl) 100 1 0 (fun _ => 0) (fun _ => -9) (fun _ => -9) (by omega) (by omega) (rl_0 tn tu _)
  exact re_bu h r0 hr0 tn tu x _ hE q hq
