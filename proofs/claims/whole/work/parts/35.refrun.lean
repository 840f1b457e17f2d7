/-! a fire in the reference, by the minutes TT sr in which rooms burn once the rooms of sr are said -/
def buT (TT : Int32 → Nat → Nat) (sr : Int32) (m r : Nat) : Int32 := if TT sr r < m then nI (TT sr r) else -9
def soT (TT : Int32 → Nat → Nat) (sr : Int32) (r : Nat) : Int32 := nI (TT sr r)
def pvT (tn : Nat) (tu : Nat → Nat) (m : Nat) : Int32 := if tn = 0 then -9 else nI (tu ((m - 1) % tn))
def rvT (TT : Int32 → Nat → Nat) (f : Nat → Int32) (tn : Nat) (tu : Nat → Nat) (x : Int32) (m : Nat) (sr : Int32) : Int32 := if tn = 0 ∨ siM x m = true then -9 else tyM (buT TT sr m) (soT TT sr) f (tu ((m - 1) % tn)) 25
def mrM (TT : Int32 → Nat → Nat) (f : Nat → Int32) (tn : Nat) (tu : Nat → Nat) (x : Int32) : Nat → Nat → Int32 → (Nat → Int32) → (Nat → Int32) → Int32 × Nat × (Nat → Int32) × (Nat → Int32)
  | 0, m, sr, sd, sb => (sr, m, sd, sb)
  | n + 1, m, sr, sd, sb =>
    if gnM (buT TT sr m) (soT TT sr) 0 25 = 0 then (sr, m, sd, sb)
    else if rvT TT f tn tu x m sr < 0 then mrM TT f tn tu x n (m + 1) sr sd sb
    else mrM TT f tn tu x n (m + 1) (sr ||| 1 <<< (rvT TT f tn tu x m sr &&& 31)) (upd sd (rvT TT f tn tu x m sr).toNatClampNeg (nI m)) (upd sb (rvT TT f tn tu x m sr).toNatClampNeg (pvT tn tu m))
/-- what the minutes must be like -/
def ttM (TT : Int32 → Nat → Nat) (ok : Int32 → Prop) (cat : Nat → Nat) (r0 : Nat) : Prop :=
  ok 0 ∧ (∀ q, q < 25 → buT TT 0 1 q = if q = r0 then 0 else -9) ∧
  (∀ sr q, ok sr → q < 25 → TT sr q < 1000000000 → TT sr q ≤ 100) ∧
  (∀ sr m bu sd, ok sr → 1 ≤ m ∧ m < 1000 → (∀ q, q < 25 → bu q = buT TT sr m q) → (∀ q, q < 25 → (sd q < 0 ↔ bt sr q = false)) → tauM cat bu sd (TT sr)) ∧
  (∀ sr m r, ok sr → 1 ≤ m → r < 25 → m ≤ TT sr r → TT sr r < 1000000000 → ok (sr ||| 1 <<< (nI r &&& 31)) ∧ ∀ q, q < 25 → buT TT (sr ||| 1 <<< (nI r &&& 31)) m q = buT TT sr m q)
theorem gn_congr {bu bu' so so' : Nat → Int32} (h1 : ∀ q, q < 25 → bu q = bu' q) (h2 : ∀ q, q < 25 → so q = so' q) : ∀ n i, i + n ≤ 25 → gnM bu so i n = gnM bu' so' i n
  | 0, _, _ => rfl
  | n + 1, i, h => by rw [gnM, gnM, h1 i (by omega), h2 i (by omega), gn_congr h1 h2 n (i + 1) (by omega)]
theorem ty_congr {bu bu' so so' f : Nat → Int32} {p : Nat} (h1 : ∀ q, q < 25 → bu q = bu' q) (h2 : ∀ q, q < 25 → so q = so' q) : ∀ n, n ≤ 25 → tyM bu so f p n = tyM bu' so' f p n
  | 0, _ => rfl
  | n + 1, h => by
    have ih := ty_congr (f := f) (p := p) h1 h2 n (by omega)
    rw [tyM, tyM, ih, h1 n (by omega), h2 n (by omega)]
    rcases tyM_cases bu' so' f p n with e | ⟨q, hq, e⟩
    · rw [e, if_pos (show (-9 : Int32) < 0 by decide), if_pos (show (-9 : Int32) < 0 by decide)]
    · rw [e, nI_clamp (by omega), h2 q (by omega)]
/-- what is said isn't burnt yet, and would burn -/
theorem ty_spec (bu so f : Nat → Int32) (p : Nat) : ∀ n r, n ≤ 25 → tyM bu so f p n = nI r → r < 2 ^ 31 → bu r < 0 ∧ ¬ so r = 1000000000
  | 0, r, _, h, hr => absurd h.symm (nI_m9 r hr)
  | n + 1, r, hn, h, hr => by
    rw [tyM] at h
    split at h
    · next hc =>
      have self : nI n = nI r → bu r < 0 ∧ ¬ so r = 1000000000 := by
        intro e
        have e2 := (nI_eq (by omega) hr).mp e
        rw [← e2]
        exact ⟨hc.1, hc.2.1⟩
      split at h
      · exact self h
      · split at h
        · exact self h
        · split at h
          · exact self h
          · exact ty_spec bu so f p n r (by omega) h hr
    · exact ty_spec bu so f p n r (by omega) h hr

