/-! shorter rows: a store gives a new world by what it says; calls of methods that make nothing -/
section CASHORT
variable {l : Launch} {y : MethodName} {cc : ByteArray} {nL : Nat} {ret : Option FieldType} {F mc ms N0 S0 : Nat} {sc : ca_Sc} {post : ca_Post} {X : ca_J}
variable {pc q : Nat} {ls : List (Option Value)} {st : List Value} {N S : Nat} {g : ca_G}
variable {y' : MethodName} {cc' : ByteArray} {nL' : Nat} {ret' : Option FieldType} {F' idx : Nat} {post' : ca_Post} {As : List Value}
theorem ca_iaN (hX : ca_Good l y cc nL ret F mc ms N0 S0 sc post X) {i n k : Nat} {f : Nat → Int32} {x : Int32} (hi : i < N) (hg : g i = .inl (n, f)) (hn : n < 100000) (hx : x = nI k) (hk : k < n) (hq : pc + 1 = q) (hd : decode cc pc = .ok (.iaload, 1)) (kk : X q ls (.int (f k) :: st) N S g) : X pc ls (.int x :: .ref i :: st) N S g := by
  subst hx
  refine ca_iald hX hi hg (vp_in_nI hk (by omega)) hq hd ?_
  rw [nI_clamp (by omega)]
  exact kk
theorem ca_iaS (hX : ca_Good l y cc nL ret F mc ms N0 S0 sc post X) {i n k : Nat} {f : Nat → Int32} {x v : Int32} (hi : i < N) (hN : N ≤ 1000) (hS : 1000000 ≤ S) (hg : g i = .inl (n, f)) (hn : n < 100000) (hx : x = nI k) (hk : k < n) (hq : pc + 1 = q) (hd : decode cc pc = .ok (.iastore, 1))
    (kk : ∀ g2 : ca_G, g2 i = .inl (n, upd f k v) → (∀ j, j ≠ i → g2 j = g j) → X q ls st N S g2) : X pc ls (.int v :: .int x :: .ref i :: st) N S g := by
  subst hx
  refine ca_iast hX hi hN hS hg (vp_in_nI hk (by omega)) hq hd ?_
  rw [nI_clamp (by omega)]
  exact kk _ (ca_up_s _ _ _) (fun j hj => ca_up_n _ _ hj)
theorem ca_putG (hX : ca_Good l y cc nL ret F mc ms N0 S0 sc post X) {ci n i : Nat} {C : String} {T : u_T} {ty0 : Nat → FieldType} {fs fs' : List Value} {v : Value} (hC : ca_CL ci C T n ty0) (k : Nat) (hk : k < n) (hl : Cond.fieldLink y.cls idx C (T k).2.1 (T k).2.2.1 ∈ ca_TT) (hf : (T k).2.2.2 = false ∨ (y.name = "<init>" ∧ C = y.cls)) (hn : ∀ ad, narrow (ty0 k) (ca_vz ad v) = ca_vz ad v) (hfit : ∀ ad, fits (ty0 k) (ca_vz ad v) = true) (hi : i < N) (hN : N ≤ 1000) (hg : g i = .inr (ci, fs)) (hlen : k < fs.length) (hfs : fs.set k v = fs') (hq : pc + 3 = q) (hd : decode cc pc = .ok (.putfield idx, 3))
    (kk : ∀ g2 : ca_G, g2 i = .inr (ci, fs') → (∀ j, j ≠ i → g2 j = g j) → X q ls st N S g2) : X pc ls (v :: .ref i :: st) N S g := by
  subst hfs
  exact ca_put hX hC k hk hl hf hn hfit hi hN hg hlen hq hd (kk _ (ca_up_s _ _ _) (fun j hj => ca_up_n _ _ hj))
theorem ca_puti (hX : ca_Good l y cc nL ret F mc ms N0 S0 sc post X) {ci n i : Nat} {C : String} {T : u_T} {ty0 : Nat → FieldType} {fs fs' : List Value} {x : Int32} (hC : ca_CL ci C T n ty0) (k : Nat) (hk : k < n) (hl : Cond.fieldLink y.cls idx C (T k).2.1 (T k).2.2.1 ∈ ca_TT) (hf : (T k).2.2.2 = false) (ht : ty0 k = .int) (hi : i < N) (hN : N ≤ 1000) (hg : g i = .inr (ci, fs)) (hlen : k < fs.length) (hfs : fs.set k (.int x) = fs') (hq : pc + 3 = q) (hd : decode cc pc = .ok (.putfield idx, 3))
    (kk : ∀ g2 : ca_G, g2 i = .inr (ci, fs') → (∀ j, j ≠ i → g2 j = g j) → X q ls st N S g2) : X pc ls (.int x :: .ref i :: st) N S g :=
  ca_putG hX hC k hk hl (Or.inl hf) (fun ad => by rw [ht]; rfl) (fun ad => by rw [ht]; rfl) hi hN hg hlen hfs hq hd kk
theorem ca_cV (hX : ca_Good l y cc nL ret F 0 0 N 1000000 sc post X) {n ci i : Nat} {fs : List Value} (hY : ca_YV y' cc' nL' ret' n ci) (hl : Cond.methodLink y.cls idx y' ∈ ca_TT) (hi : i < N) (hN : N ≤ 1000) (hg : g i = .inr (ci, fs)) (hC : ca_Ct l y' cc' nL' ret' F' 0 0 N 1000000 (.ref i :: As) g post') (hF : F' < F) (hn : As.length = n) (hst : (st.map fun v => v.category).sum ≤ 8) (hq : pc + 3 = q) (hd : decode cc pc = .ok (.invokevirtual idx, 3)) {stk : List Value} (hk : stk = As.reverse ++ .ref i :: st)
    (kk : ∀ (r : Option Value) (g' : ca_G), post' r g' → X q ls (r.toList ++ st) N 1000000 g') : X pc ls stk N 1000000 g :=
  ca_callV hX hY hl hi hN hg hC hF (Nat.le_refl _) (Nat.le_refl _) (Or.inr ⟨Nat.le_refl _, Nat.le_refl _⟩) hn hst hq hd hk kk
theorem ca_cS (hX : ca_Good l y cc nL ret F 0 0 N 1000000 sc post X) {n : Nat} (hY : ca_YS y' cc' nL' ret' n) (hl : Cond.methodLink y.cls idx y' ∈ ca_TT) (hN : N ≤ 1000) (hC : ca_Ct l y' cc' nL' ret' F' 0 0 N 1000000 As g post') (hF : F' < F) (hn : As.length = n) (hst : (st.map fun v => v.category).sum ≤ 8) (hq : pc + 3 = q) (hd : decode cc pc = .ok (.invokestatic idx, 3)) {stk : List Value} (hk : stk = As.reverse ++ st)
    (kk : ∀ (r : Option Value) (g' : ca_G), post' r g' → X q ls (r.toList ++ st) N 1000000 g') : X pc ls stk N 1000000 g :=
  ca_callS hX hY hl hN hC hF (Nat.le_refl _) (Nat.le_refl _) (Or.inr ⟨Nat.le_refl _, Nat.le_refl _⟩) hn hst hq hd hk kk
theorem ca_cSN (hX : ca_Good l y cc nL ret F 0 0 N 1000000 sc post X) {n : Nat} {host : String} (hY : ca_YS y' cc' nL' ret' n) (hl : Cond.methodLinkNest y.cls idx y' host ∈ ca_NT) (hN : N ≤ 1000) (hC : ca_Ct l y' cc' nL' ret' F' 0 0 N 1000000 As g post') (hF : F' < F) (hn : As.length = n) (hst : (st.map fun v => v.category).sum ≤ 8) (hq : pc + 3 = q) (hd : decode cc pc = .ok (.invokestatic idx, 3)) {stk : List Value} (hk : stk = As.reverse ++ st)
    (kk : ∀ (r : Option Value) (g' : ca_G), post' r g' → X q ls (r.toList ++ st) N 1000000 g') : X pc ls stk N 1000000 g :=
  ca_callSN hX hY hl hN hC hF (Nat.le_refl _) (Nat.le_refl _) (Or.inr ⟨Nat.le_refl _, Nat.le_refl _⟩) hn hst hq hd hk kk
/-- answers an int, changes nothing -/
abbrev ca_pi (v : Int32) (g : ca_G) : ca_Post := fun r g' => r = some (.int v) ∧ g' = g
abbrev ca_pl (v : Int64) (g : ca_G) : ca_Post := fun r g' => r = some (.long v) ∧ g' = g
theorem ca_cVi (hX : ca_Good l y cc nL ret F 0 0 N 1000000 sc post X) {n ci i : Nat} {fs : List Value} {v : Int32} (hY : ca_YV y' cc' nL' ret' n ci) (hl : Cond.methodLink y.cls idx y' ∈ ca_TT) (hi : i < N) (hN : N ≤ 1000) (hg : g i = .inr (ci, fs)) (hC : ca_Ct l y' cc' nL' ret' F' 0 0 N 1000000 (.ref i :: As) g (ca_pi v g)) (hF : F' < F) (hn : As.length = n) (hst : (st.map fun v => v.category).sum ≤ 8) (hq : pc + 3 = q) (hd : decode cc pc = .ok (.invokevirtual idx, 3)) {stk : List Value} (hk : stk = As.reverse ++ .ref i :: st)
    (kk : X q ls (.int v :: st) N 1000000 g) : X pc ls stk N 1000000 g :=
  ca_cV hX hY hl hi hN hg hC hF hn hst hq hd hk (fun r g' h => by rw [h.1, h.2]; exact kk)
theorem ca_cSi (hX : ca_Good l y cc nL ret F 0 0 N 1000000 sc post X) {n : Nat} {v : Int32} (hY : ca_YS y' cc' nL' ret' n) (hl : Cond.methodLink y.cls idx y' ∈ ca_TT) (hN : N ≤ 1000) (hC : ca_Ct l y' cc' nL' ret' F' 0 0 N 1000000 As g (ca_pi v g)) (hF : F' < F) (hn : As.length = n) (hst : (st.map fun v => v.category).sum ≤ 8) (hq : pc + 3 = q) (hd : decode cc pc = .ok (.invokestatic idx, 3)) {stk : List Value} (hk : stk = As.reverse ++ st)
    (kk : X q ls (.int v :: st) N 1000000 g) : X pc ls stk N 1000000 g :=
  ca_cS hX hY hl hN hC hF hn hst hq hd hk (fun r g' h => by rw [h.1, h.2]; exact kk)
theorem ca_cSl (hX : ca_Good l y cc nL ret F 0 0 N 1000000 sc post X) {n : Nat} {v : Int64} (hY : ca_YS y' cc' nL' ret' n) (hl : Cond.methodLink y.cls idx y' ∈ ca_TT) (hN : N ≤ 1000) (hC : ca_Ct l y' cc' nL' ret' F' 0 0 N 1000000 As g (ca_pl v g)) (hF : F' < F) (hn : As.length = n) (hst : (st.map fun v => v.category).sum ≤ 8) (hq : pc + 3 = q) (hd : decode cc pc = .ok (.invokestatic idx, 3)) {stk : List Value} (hk : stk = As.reverse ++ st)
    (kk : X q ls (.long v :: st) N 1000000 g) : X pc ls stk N 1000000 g :=
  ca_cS hX hY hl hN hC hF hn hst hq hd hk (fun r g' h => by rw [h.1, h.2]; exact kk)
theorem ca_cSNi (hX : ca_Good l y cc nL ret F 0 0 N 1000000 sc post X) {n : Nat} {host : String} {v : Int32} (hY : ca_YS y' cc' nL' ret' n) (hl : Cond.methodLinkNest y.cls idx y' host ∈ ca_NT) (hN : N ≤ 1000) (hC : ca_Ct l y' cc' nL' ret' F' 0 0 N 1000000 As g (ca_pi v g)) (hF : F' < F) (hn : As.length = n) (hst : (st.map fun v => v.category).sum ≤ 8) (hq : pc + 3 = q) (hd : decode cc pc = .ok (.invokestatic idx, 3)) {stk : List Value} (hk : stk = As.reverse ++ st)
    (kk : X q ls (.int v :: st) N 1000000 g) : X pc ls stk N 1000000 g :=
  ca_cSN hX hY hl hN hC hF hn hst hq hd hk (fun r g' h => by rw [h.1, h.2]; exact kk)
/-- a store whose array is told anew by a function that is the same within its length -/
theorem ca_same (hX : ca_Good l y cc nL ret F mc ms N0 S0 sc post X) {i n : Nat} {f f' : Nat → Int32} (hi : i < N) (hN : N ≤ 1000) (hg : g i = .inl (n, f)) (he : ∀ j, j < n → f j = f' j) (kk : ∀ g2 : ca_G, g2 i = .inl (n, f') → (∀ j, j ≠ i → g2 j = g j) → X pc ls st N S g2) : X pc ls st N S g := by
  have key := kk (ca_up g i (.inl (n, f'))) (ca_up_s _ _ _) (fun j hj => ca_up_n _ _ hj)
  obtain ⟨p, e, R, s, m, args, below, meth, c, D, cI, ad, base, Q, rfl, hx, hb, hml, hown, hts, hK, hB, hR, hQ, hL⟩ := hX
  intro h1 h2 h3 h4 H locs la q1 q2 q3 q4
  refine key h1 h2 h3 h4 H locs la q1 (fun j w hw => ?_) q3 q4
  obtain ⟨hj, rfl⟩ := ca_ws_ex hw
  by_cases hji : j = i
  · subst hji
    have z := q2 j _ (ca_ws_at hj)
    rw [hg] at z
    rw [ca_up_s]
    have z' : H[ad j]? = some (vp_cell cI (n, .inl f)) := z
    show H[ad j]? = some (vp_cell cI (n, .inl f'))
    rw [z', vp_cell_i, vp_cell_i]
    have ef : (fun j : Fin n => Value.int (f j.val)) = (fun j : Fin n => Value.int (f' j.val)) := funext fun j => by rw [he j.val j.isLt]
    show some ({ cls := cI, slots := Array.ofFn (fun j : Fin n => Value.int (f j.val)), vm := .none } : Cell) = some { cls := cI, slots := Array.ofFn (fun j : Fin n => Value.int (f' j.val)), vm := .none }
    rw [ef]
  · rw [ca_up_n _ _ hji]
    exact q2 j _ (ca_ws_at hj)
theorem ca_mmax (hX : ca_Good l y cc nL ret F mc ms N0 S0 sc post X) {a b : Int32} (wl : Cond.methodLink y.cls idx Lib.Math.max.name ∈ ca_TT) (wS : Cond.static Lib.Math.max.name ∈ ca_TT) (wi : Cond.initialized "java/lang/Math" ∈ ca_TT) (wc : Cond.code Lib.Math.max.name Lib.Math.max.code 2 (some .int) ∈ ca_TT) (hF : 1 ≤ F) (hst : (st.map fun v => v.category).sum ≤ 8) (hq : pc + 3 = q) (hd : decode cc pc = .ok (.invokestatic idx, 3)) (kk : X q ls (.int (if a < b then b else a) :: st) N S g) : X pc ls (.int b :: .int a :: st) N S g := by
  obtain ⟨p, e, R, s, m, args, below, meth, c, D, cI, ad, base, Q, rfl, hx, hb, hml, hown, hts, hK, hB, hR, hQ, hL⟩ := hX
  subst hq
  intro h1 h2 h3 h4 H locs la q1 q2 q3 q4
  exact va_mmax hx hb (by rw [q4.1, hml]) hown (hts _ wl) (hts _ wS) (hts _ wi) (hts _ wc) (by have := hB.2.2.1; omega) (by rw [ca_cat]; have := hB.2.2.2.1; omega) (by have := hB.2.2.2.2.1; omega) (by have := hB.2.2.2.2.2; omega) hd (kk h1 h2 h3 h4 H locs la q1 q2 q3 q4)
theorem ca_mmin (hX : ca_Good l y cc nL ret F mc ms N0 S0 sc post X) {a b : Int32} (wl : Cond.methodLink y.cls idx Lib.Math.min.name ∈ ca_TT) (wS : Cond.static Lib.Math.min.name ∈ ca_TT) (wi : Cond.initialized "java/lang/Math" ∈ ca_TT) (wc : Cond.code Lib.Math.min.name Lib.Math.min.code 2 (some .int) ∈ ca_TT) (hF : 1 ≤ F) (hst : (st.map fun v => v.category).sum ≤ 8) (hq : pc + 3 = q) (hd : decode cc pc = .ok (.invokestatic idx, 3)) (kk : X q ls (.int (if b < a then b else a) :: st) N S g) : X pc ls (.int b :: .int a :: st) N S g := by
  obtain ⟨p, e, R, s, m, args, below, meth, c, D, cI, ad, base, Q, rfl, hx, hb, hml, hown, hts, hK, hB, hR, hQ, hL⟩ := hX
  subst hq
  intro h1 h2 h3 h4 H locs la q1 q2 q3 q4
  exact va_mmin hx hb (by rw [q4.1, hml]) hown (hts _ wl) (hts _ wS) (hts _ wi) (hts _ wc) (by have := hB.2.2.1; omega) (by rw [ca_cat]; have := hB.2.2.2.1; omega) (by have := hB.2.2.2.2.1; omega) (by have := hB.2.2.2.2.2; omega) hd (kk h1 h2 h3 h4 H locs la q1 q2 q3 q4)
end CASHORT
