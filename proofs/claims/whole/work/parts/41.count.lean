/-! counting: bits, and who spoke how often -/
theorem sN_zero {s : Nat → Nat} : ∀ n, (∀ i, i < n → s i = 0) → sN s n = 0
  | 0, _ => rfl
  | n + 1, h => by rw [sN, sN_zero n (fun i hi => h i (by omega)), h n (by omega)]
theorem sN_one {s : Nat → Nat} {q : Nat} : ∀ n, q < n → (∀ i, i < n → i ≠ q → s i = 0) → sN s n = s q
  | 0, h, _ => by omega
  | n + 1, h, hz => by
    rw [sN]
    by_cases e : n = q
    · rw [sN_zero n (fun i hi => hz i (by omega) (by omega)), e, Nat.zero_add]
    · rw [sN_one n (by omega) (fun i hi => hz i (by omega)), hz n (by omega) e, Nat.add_zero]
theorem sN_eq {s t : Nat → Nat} : ∀ n, (∀ i, i < n → s i = t i) → sN s n = sN t n
  | 0, _ => rfl
  | n + 1, h => by rw [sN, sN, sN_eq n (fun i hi => h i (by omega)), h n (by omega)]
theorem sN_add (s t : Nat → Nat) : ∀ n, sN (fun i => s i + t i) n = sN s n + sN t n
  | 0 => rfl
  | n + 1 => by rw [sN, sN, sN, sN_add s t n]; omega
theorem sN_swap (c : Nat → Nat → Nat) (k : Nat) : ∀ n, sN (fun j => sN (c j) k) n = sN (fun r => sN (fun j => c j r) n) k
  | 0 => by rw [sN]; exact (sN_zero k (fun _ _ => rfl)).symm
  | n + 1 => by
    rw [sN, sN_swap c k n, ← sN_add]
    exact sN_eq k (fun r _ => rfl)
theorem smI_n {f : Nat → Int32} {s : Nat → Nat} : ∀ n, (∀ i, i < n → f i = nI (s i)) → smI f n = nI (sN s n)
  | 0, _ => rfl
  | n + 1, h => by rw [smI, sN, smI_n n (fun i hi => h i (by omega)), h n (by omega), nI_add]
/-- how often somebody spoke, by minutes and by rooms -/
theorem ts_sb {B : Nat → Nat → Int32} {tn : Nat} {tu : Nat → Nat} {k : Nat} {sr : Int32} {sd sb : Nat → Int32} (h : rlM tn tu (k + 1) sr (B 7) sd sb) (hsp : ∀ j, 1 ≤ j → j ≤ k → spM B tn j = pvT tn tu j) {p : Nat} (hp : p < 5) : tsM B tn (nI p) k = smI (fun r => if sb r = nI p then 1 else 0) 25 := by
  have e1 : ∀ n, n ≤ k → tsM B tn (nI p) n = nI (sN (fun j => sN (fun r => if B 7 (j + 1) = nI r ∧ pvT tn tu (j + 1) = nI p then 1 else 0) 25) n) := by
    intro n
    induction n with
    | zero => intro _; rfl
    | succ n ih =>
      intro hn
      rw [tsM, ih (by omega), sN, hsp (n + 1) (by omega) hn]
      rcases h.1 (n + 1) (by omega) (by omega) with e | ⟨q, hq, e⟩
      · rw [if_neg (fun z => z.1 e), sN_zero 25 (fun r hr => if_neg (fun z => by rw [e] at z; exact nI_m9 r (by omega) z.1.symm)), Nat.add_zero]
      · have e9 : B 7 (n + 1) ≠ -9 := by rw [e]; exact nI_m9 q (by omega)
        by_cases hv : pvT tn tu (n + 1) = nI p
        · rw [if_pos ⟨e9, hv⟩, sN_one (q := q) 25 hq (fun r hr hne => if_neg (fun z => by rw [e] at z; exact hne ((nI_eq (by omega) (by omega)).mp z.1).symm)), if_pos ⟨e, hv⟩]
          exact nI_add _ 1
        · rw [if_neg (fun z => hv z.2), sN_zero 25 (fun r hr => if_neg (fun z => hv z.2)), Nat.add_zero]
  rw [e1 k (Nat.le_refl _), sN_swap]
  refine (smI_n (s := fun r => sN (fun j => if B 7 (j + 1) = nI r ∧ pvT tn tu (j + 1) = nI p then 1 else 0) k) 25 (fun r hr => ?_)).symm
  rcases h.2 r hr with ⟨_, _, c3, c4⟩ | ⟨_, j, a, b, c2, _, c4, c5⟩
  · rw [c3, if_neg (fun z => nI_m9 p (by omega) z.symm)]
    show (0 : Int32) = nI (sN _ k)
    rw [sN_zero k (fun j hj => if_neg (fun z => c4 (j + 1) (by omega) (by omega) z.1))]
    rfl
  · show (if sb r = nI p then (1 : Int32) else 0) = nI (sN _ k)
    rw [sN_one (q := j - 1) k (by omega) (fun i hi hne => if_neg (fun z => hne (by have := c5 (i + 1) (by omega) (by omega) z.1; omega))), c4, show j - 1 + 1 = j by omega]
    by_cases hv : pvT tn tu j = nI p
    · rw [if_pos hv, if_pos ⟨c2, hv⟩]; rfl
    · rw [if_neg hv, if_neg (fun z => hv z.2)]; rfl
