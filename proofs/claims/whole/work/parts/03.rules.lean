/-! what a method's walk stands on, and the rows of the walk. S below 1000000: the heap's size is told too. -/
def ca_Q (D : va_G) (cI : ClassId) (ad : Nat → Nat) (base N1 S1 : Nat) (post : ca_Post) : Array Value → State → Outcome → State → Prop := fun _ st o t =>
  ∃ (r : Option Value) (g' : ca_G), o = .returned (r.map (ca_vz ad)) ∧ post r g' ∧ (S1 < 1000000 → t.heap.size = base + N1) ∧ va_P D vwCl (ca_ws ad cI N1 g') t.heap ∧ va_F (fun q => base ≤ q) st t
def ca_X (p : Program) (l : Launch) (e : Env) (R : Room) (s : State) (m : MethodId) (args : Array Value) (below : List Frame) (meth : Method) (c : Code) (Q : State → Prop) (nL : Nat) (D : va_G) (cI : ClassId) (ad : Nat → Nat) (base N0 S0 mc ms : Nat) : ca_J := fun pc ls st N S g =>
  N0 ≤ N → N ≤ N0 + mc → S0 ≤ S → S ≤ S0 + ms → ∀ (H : Heap) (locs : List Loc) (la : Array Slot), (S < 1000000 → H.size = base + N) → va_P D vwCl (ca_ws ad cI N g) H → va_S (fun q => base ≤ q) s.heap H locs → lv_has la nL (ca_lv ad 0 ls) →
    W p l e R s m args below meth c H locs (N - N0) (S - S0) Q (F0 m pc la (st.map (ca_vz ad)))
def ca_Good (l : Launch) (y : MethodName) (cc : ByteArray) (nL : Nat) (ret : Option FieldType) (F mc ms N0 S0 : Nat) (sc : ca_Sc) (post : ca_Post) (X : ca_J) : Prop :=
  ∃ (p : Program) (e : Env) (R : Room) (s : State) (m : MethodId) (args : Array Value) (below : List Frame) (meth : Method) (c : Code) (D : va_G) (cI : ClassId) (ad : Nat → Nat) (base : Nat) (Q : State → Prop),
    X = ca_X p l e R s m args below meth c Q nL D cI ad base N0 S0 mc ms ∧ p.tables.exec = Jvm.exec ∧ c.code = cc ∧ c.maxLocals = nL ∧ s.vm.findClass y.cls = some m.cls ∧ (∀ w ∈ ca_TT, w.before args s = true) ∧ ca_KK D cI ad base s ∧
    ((∀ i, i < 1000 → ad i = base + i) ∧ base ≤ s.heap.size ∧ F ≤ R.frames ∧ 37 * F ≤ R.locals ∧ mc ≤ R.cells ∧ ms ≤ R.slots) ∧
    (meth.sig.returnType = ret ∧ meth.locks = false ∧ meth.name = y.name) ∧
    (sc = none → N0 + mc ≤ 1000 ∧ Q = MQ below (ca_Q D cI ad base (N0 + mc) (S0 + ms) post) args s mc ms (fun q => base ≤ q)) ∧
    (∀ L xs, sc = some (L, xs) → Q = lw_Z below args s ∧ va_X (ad 2000) L xs s s.heap ∧ ad 2000 < base ∧ base = s.heap.size ∧ args = #[Value.ref (ad 2000)] ∧ cc = code ∧ mc = 600000 ∧ ms = 7302250)
/-- a class of the worlds -/
def ca_CL (ci : Nat) (C : String) (T : u_T) (n : Nat) (ty0 : Nat → FieldType) : Prop := vwCl[ci]? = some (C, T, n) ∧ (∀ w ∈ u_ws C T n, w ∈ ca_TT) ∧ (∀ k, k < n → parseFieldDescriptor (T k).2.2.1 = some (ty0 k)) ∧ (∀ a, a < n → ∀ b, b < n → a ≠ b → (T a).2.1 ≠ (T b).2.1) ∧ ∀ k, k < n → (T k).1 = C
section CAPUT
variable {p : Program} {l : Launch} {e : Env} {R : Room} {s : State} {m : MethodId} {args : Array Value} {below : List Frame} {meth : Method} {c : Code} {H : Heap} {locs : List Loc} {cells slots : Nat} {Q : State → Prop}
variable {cc : ByteArray} {pc : Nat} {la : Array Slot} {rest : List Value} {D : va_G} {A : Nat → Prop} {a : Nat} {tys : List (ClassId × FieldType)} {ws : va_W} {H0 : Heap}
theorem ca_putW (hexec : p.tables.exec = Jvm.exec) (hb : c.code = cc) {own C : String} {T : u_T} {n ci index : Nat} {ty0 : Nat → FieldType} (hts : ∀ w ∈ ca_TT, w.before args s = true) (hC : ca_CL ci C T n ty0) (hown : s.vm.findClass own = some m.cls) (hK : va_K D vwCl tys s) (hP : va_P D vwCl ws H) (hD : va_D A ws) (hS0 : va_S A H0 H locs) (q0 : Nat) {fs : List Value} (he : ws[q0]? = some (a, .inr (ci, fs))) (k : Nat) (hk : k < n) (hlink : Cond.fieldLink own index C (T k).2.1 (T k).2.2.1 ∈ ca_TT)
    (hfin : (T k).2.2.2 = false ∨ (meth.name = "<init>" ∧ C = own)) {v : Value} (hn : narrow (ty0 k) v = v) (hfit : fits (ty0 k) v = true) (hl : k < fs.length) (hdg : decode cc pc = .ok (.putfield index, 3))
    (kk : ∀ (H1 : Heap) (locs1 : List Loc), H1.size = H.size → va_P D vwCl (ws.set q0 (a, .inr (ci, fs.set k v))) H1 → va_S A H0 H1 locs1 → W p l e R s m args below meth c H1 locs1 cells slots Q (F0 m (pc + 3) la rest)) : W p l e R s m args below meth c H locs cells slots Q (F0 m pc la (v :: .ref a :: rest)) := by
  obtain ⟨hc, hin, hty, hnm, hdec⟩ := hC
  have hap := va_apart (own := own) hts hin ty0 hty hnm hK hc
  obtain ⟨r, h1, cell, q1, q2, q3, q4⟩ := hP q0 _ he
  have hr : r = (C, T, n) := Option.some.inj (h1.symm.trans hc)
  subst hr
  obtain ⟨hS, hfc, kC, hkC, hkind⟩ := hK.1 ci _ hc
  obtain ⟨cf, kf, fi, f, hi, hsl⟩ := hS k hk
  have hlay := hts _ (hin _ (u_in_lay hk))
  unfold u_lay at hlay
  have hi' : s.fieldFound? C (T k).2.1 (T k).2.2.1 = some (cf, kf, fi, f) := by rw [← hdec k hk]; exact hi
  have hst := (u_facts hfc hkC (u_lays hts hin hk) hi).1
  by_cases hf : (T k).2.2.2 = true
  · rw [if_pos hf] at hlay
    obtain ⟨hin2, hdecl⟩ : meth.name = "<init>" ∧ C = own := by
      rcases hfin with z | z
      · rw [hf] at z; cases z
      · exact z
    have hcf : m.cls = cf := by
      obtain ⟨_, _, c', _, _, _, -, -, hf', -, -, -, hown2, -⟩ := Cond.laysFinal_spec hlay
      have e1 : c' = cf := by have := hi.symm.trans hf'; simp at this; exact this.1.symm
      rw [hdec k hk, hdecl] at hown2
      rw [← e1]; exact Option.some.inj (hown.symm.trans hown2)
    have h6 := u_fits hfc hkC hkind (Or.inr hlay) hi (hty k hk) hn hfit
    refine W.putFinK hexec hb hown (hts _ hlink) hi' hst hcf hin2 (by rw [q2]; exact h6) q1 q3 (by rw [hsl]; exact k2_hasslot (q4 k hk)) rfl rfl hdg fun H' e1 e2 e3 => ?_
    rw [hsl] at e1 ⊢
    exact kk H' _ e2 (hP.set hD he ⟨_, hc, t_OB.to (V := updV (vp_V fs) k v) ⟨_, e1, q2, q3, t_set q4 hap hk v⟩ (fun j _ => vp_updV_set hl v j)⟩ e3) (hS0.put e2 e3 (hD.2 q0 _ he))
  · rw [if_neg hf] at hlay
    have h6 := u_store hfc hkC hkind hlay hi (hty k hk) hn hfit
    refine W.putK hexec hb (f := f) ⟨hown, hts _ hlink, ⟨_, _, _, hi'⟩, hst⟩ (by rw [q2]; exact h6) q1 q3 (by rw [hsl]; exact k2_hasslot (q4 k hk)) rfl rfl hdg fun H' e1 e2 e3 => ?_
    rw [hsl] at e1 ⊢
    exact kk H' _ e2 (hP.set hD he ⟨_, hc, t_OB.to (V := updV (vp_V fs) k v) ⟨_, e1, q2, q3, t_set q4 hap hk v⟩ (fun j _ => vp_updV_set hl v j)⟩ e3) (hS0.put e2 e3 (hD.2 q0 _ he))
end CAPUT
section CARULES
variable {l : Launch} {y : MethodName} {cc : ByteArray} {nL : Nat} {ret : Option FieldType} {F mc ms N0 S0 : Nat} {sc : ca_Sc} {post : ca_Post} {X : ca_J}
variable {pc q : Nat} {ls : List (Option Value)} {st : List Value} {N S : Nat} {g : ca_G}
theorem ca_iconst (hX : ca_Good l y cc nL ret F mc ms N0 S0 sc post X) {n : Int} {v : Int32} (hv : Int32.ofInt n = v) (hq : pc + 1 = q) (hd : decode cc pc = .ok (.iconst n, 1)) (k : X q ls (.int v :: st) N S g) : X pc ls (st) N S g := by
  obtain ⟨p, e, R, s, m, args, below, meth, c, D, cI, ad, base, Q, rfl, hx, hb, hml, hown, hts, hK, hB, hR, hQ, hL⟩ := hX
  subst hq
  intro h1 h2 h3 h4 H locs la q1 q2 q3 q4
  exact lv_iconst hx hb hd hv (k h1 h2 h3 h4 H locs la q1 q2 q3 q4)

theorem ca_bipush (hX : ca_Good l y cc nL ret F mc ms N0 S0 sc post X) {n : Int} {v : Int32} (hv : (Int8.ofInt n).toInt32 = v) (hq : pc + 2 = q) (hd : decode cc pc = .ok (.bipush n, 2)) (k : X q ls (.int v :: st) N S g) : X pc ls (st) N S g := by
  obtain ⟨p, e, R, s, m, args, below, meth, c, D, cI, ad, base, Q, rfl, hx, hb, hml, hown, hts, hK, hB, hR, hQ, hL⟩ := hX
  subst hq
  intro h1 h2 h3 h4 H locs la q1 q2 q3 q4
  exact lv_bipush hx hb hd hv (k h1 h2 h3 h4 H locs la q1 q2 q3 q4)

theorem ca_sipush (hX : ca_Good l y cc nL ret F mc ms N0 S0 sc post X) {n : Int} {v : Int32} (hv : (Int16.ofInt n).toInt32 = v) (hq : pc + 3 = q) (hd : decode cc pc = .ok (.sipush n, 3)) (k : X q ls (.int v :: st) N S g) : X pc ls (st) N S g := by
  obtain ⟨p, e, R, s, m, args, below, meth, c, D, cI, ad, base, Q, rfl, hx, hb, hml, hown, hts, hK, hB, hR, hQ, hL⟩ := hX
  subst hq
  intro h1 h2 h3 h4 H locs la q1 q2 q3 q4
  exact lv_sipush hx hb hd hv (k h1 h2 h3 h4 H locs la q1 q2 q3 q4)

theorem ca_lconst (hX : ca_Good l y cc nL ret F mc ms N0 S0 sc post X) {n : Fin 2} {v : Int64} (hv : Int64.ofNat (n : Nat) = v) (hq : pc + 1 = q) (hd : decode cc pc = .ok (.lconst n, 1)) (k : X q ls (.long v :: st) N S g) : X pc ls (st) N S g := by
  obtain ⟨p, e, R, s, m, args, below, meth, c, D, cI, ad, base, Q, rfl, hx, hb, hml, hown, hts, hK, hB, hR, hQ, hL⟩ := hX
  subst hq
  intro h1 h2 h3 h4 H locs la q1 q2 q3 q4
  exact lv_lconst hx hb hd hv (k h1 h2 h3 h4 H locs la q1 q2 q3 q4)

theorem ca_ldc (hX : ca_Good l y cc nL ret F mc ms N0 S0 sc post X) {idx : Nat} {v : Int32} (hc : Cond.constant y.cls idx v ∈ ca_TT) (hq : pc + 2 = q) (hd : decode cc pc = .ok (.ldc idx, 2)) (k : X q ls (.int v :: st) N S g) : X pc ls st N S g := by
  obtain ⟨p, e, R, s, m, args, below, meth, c, D, cI, ad, base, Q, rfl, hx, hb, hml, hown, hts, hK, hB, hR, hQ, hL⟩ := hX
  subst hq
  intro h1 h2 h3 h4 H locs la q1 q2 q3 q4
  exact lv_ldc hx hb hown (hts _ hc) hd (k h1 h2 h3 h4 H locs la q1 q2 q3 q4)

theorem ca_ldcw (hX : ca_Good l y cc nL ret F mc ms N0 S0 sc post X) {idx : Nat} {v : Int32} (hc : Cond.constant y.cls idx v ∈ ca_TT) (hq : pc + 3 = q) (hd : decode cc pc = .ok (.ldc_w idx, 3)) (k : X q ls (.int v :: st) N S g) : X pc ls st N S g := by
  obtain ⟨p, e, R, s, m, args, below, meth, c, D, cI, ad, base, Q, rfl, hx, hb, hml, hown, hts, hK, hB, hR, hQ, hL⟩ := hX
  subst hq
  intro h1 h2 h3 h4 H locs la q1 q2 q3 q4
  exact lv_ldcw hx hb hown (hts _ hc) hd (k h1 h2 h3 h4 H locs la q1 q2 q3 q4)

theorem ca_ldc2 (hX : ca_Good l y cc nL ret F mc ms N0 S0 sc post X) {idx : Nat} {v : Int64} (hc : Cond.constantLong y.cls idx v ∈ ca_TT) (hq : pc + 3 = q) (hd : decode cc pc = .ok (.ldc2_w idx, 3)) (k : X q ls (.long v :: st) N S g) : X pc ls st N S g := by
  obtain ⟨p, e, R, s, m, args, below, meth, c, D, cI, ad, base, Q, rfl, hx, hb, hml, hown, hts, hK, hB, hR, hQ, hL⟩ := hX
  subst hq
  intro h1 h2 h3 h4 H locs la q1 q2 q3 q4
  exact lv_ldc2 hx hb hown (hts _ hc) hd (k h1 h2 h3 h4 H locs la q1 q2 q3 q4)

theorem ca_iload_n (hX : ca_Good l y cc nL ret F mc ms N0 S0 sc post X) {k4 : Fin 4} (i : Nat) (hk : (k4 : Nat) = i) {x : Int32} (hl : ls[i]? = some (some (.int x))) (hq : pc + 1 = q) (hd : decode cc pc = .ok (.iload_n k4, 1)) (k : X q ls (.int x :: st) N S g) : X pc ls (st) N S g := by
  obtain ⟨p, e, R, s, m, args, below, meth, c, D, cI, ad, base, Q, rfl, hx, hb, hml, hown, hts, hK, hB, hR, hQ, hL⟩ := hX
  subst hq
  intro h1 h2 h3 h4 H locs la q1 q2 q3 q4
  exact lv_iload_n hx hb hd hk (ca_lv_at q4 hl) (k h1 h2 h3 h4 H locs la q1 q2 q3 q4)

theorem ca_iload (hX : ca_Good l y cc nL ret F mc ms N0 S0 sc post X) {i : Nat} {x : Int32} (hl : ls[i]? = some (some (.int x))) (hq : pc + 2 = q) (hd : decode cc pc = .ok (.iload i, 2)) (k : X q ls (.int x :: st) N S g) : X pc ls (st) N S g := by
  obtain ⟨p, e, R, s, m, args, below, meth, c, D, cI, ad, base, Q, rfl, hx, hb, hml, hown, hts, hK, hB, hR, hQ, hL⟩ := hX
  subst hq
  intro h1 h2 h3 h4 H locs la q1 q2 q3 q4
  exact lv_iload hx hb hd (ca_lv_at q4 hl) (k h1 h2 h3 h4 H locs la q1 q2 q3 q4)

theorem ca_lload_n (hX : ca_Good l y cc nL ret F mc ms N0 S0 sc post X) {k4 : Fin 4} (i : Nat) (hk : (k4 : Nat) = i) {x : Int64} (hl : ls[i]? = some (some (.long x))) (hq : pc + 1 = q) (hd : decode cc pc = .ok (.lload_n k4, 1)) (k : X q ls (.long x :: st) N S g) : X pc ls (st) N S g := by
  obtain ⟨p, e, R, s, m, args, below, meth, c, D, cI, ad, base, Q, rfl, hx, hb, hml, hown, hts, hK, hB, hR, hQ, hL⟩ := hX
  subst hq
  intro h1 h2 h3 h4 H locs la q1 q2 q3 q4
  exact lv_lload_n hx hb hd hk (ca_lv_at q4 hl) (k h1 h2 h3 h4 H locs la q1 q2 q3 q4)

theorem ca_lload (hX : ca_Good l y cc nL ret F mc ms N0 S0 sc post X) {i : Nat} {x : Int64} (hl : ls[i]? = some (some (.long x))) (hq : pc + 2 = q) (hd : decode cc pc = .ok (.lload i, 2)) (k : X q ls (.long x :: st) N S g) : X pc ls (st) N S g := by
  obtain ⟨p, e, R, s, m, args, below, meth, c, D, cI, ad, base, Q, rfl, hx, hb, hml, hown, hts, hK, hB, hR, hQ, hL⟩ := hX
  subst hq
  intro h1 h2 h3 h4 H locs la q1 q2 q3 q4
  exact lv_lload hx hb hd (ca_lv_at q4 hl) (k h1 h2 h3 h4 H locs la q1 q2 q3 q4)

theorem ca_aload_n (hX : ca_Good l y cc nL ret F mc ms N0 S0 sc post X) {k4 : Fin 4} (i : Nat) (hk : (k4 : Nat) = i) {x : Nat} (hl : ls[i]? = some (some (.ref x))) (hq : pc + 1 = q) (hd : decode cc pc = .ok (.aload_n k4, 1)) (k : X q ls (.ref x :: st) N S g) : X pc ls (st) N S g := by
  obtain ⟨p, e, R, s, m, args, below, meth, c, D, cI, ad, base, Q, rfl, hx, hb, hml, hown, hts, hK, hB, hR, hQ, hL⟩ := hX
  subst hq
  intro h1 h2 h3 h4 H locs la q1 q2 q3 q4
  exact lv_aload_n hx hb hd hk (ca_lv_at q4 hl) (k h1 h2 h3 h4 H locs la q1 q2 q3 q4)

theorem ca_aload (hX : ca_Good l y cc nL ret F mc ms N0 S0 sc post X) {i : Nat} {x : Nat} (hl : ls[i]? = some (some (.ref x))) (hq : pc + 2 = q) (hd : decode cc pc = .ok (.aload i, 2)) (k : X q ls (.ref x :: st) N S g) : X pc ls (st) N S g := by
  obtain ⟨p, e, R, s, m, args, below, meth, c, D, cI, ad, base, Q, rfl, hx, hb, hml, hown, hts, hK, hB, hR, hQ, hL⟩ := hX
  subst hq
  intro h1 h2 h3 h4 H locs la q1 q2 q3 q4
  exact lv_aload hx hb hd (ca_lv_at q4 hl) (k h1 h2 h3 h4 H locs la q1 q2 q3 q4)

theorem ca_iadd (hX : ca_Good l y cc nL ret F mc ms N0 S0 sc post X) {a b : Int32} (hq : pc + 1 = q) (hd : decode cc pc = .ok (.iadd, 1)) (k : X q ls (.int (a + b) :: st) N S g) : X pc ls (.int b :: .int a :: st) N S g := by
  obtain ⟨p, e, R, s, m, args, below, meth, c, D, cI, ad, base, Q, rfl, hx, hb, hml, hown, hts, hK, hB, hR, hQ, hL⟩ := hX
  subst hq
  intro h1 h2 h3 h4 H locs la q1 q2 q3 q4
  exact lv_iadd hx hb hd (k h1 h2 h3 h4 H locs la q1 q2 q3 q4)

theorem ca_isub (hX : ca_Good l y cc nL ret F mc ms N0 S0 sc post X) {a b : Int32} (hq : pc + 1 = q) (hd : decode cc pc = .ok (.isub, 1)) (k : X q ls (.int (a - b) :: st) N S g) : X pc ls (.int b :: .int a :: st) N S g := by
  obtain ⟨p, e, R, s, m, args, below, meth, c, D, cI, ad, base, Q, rfl, hx, hb, hml, hown, hts, hK, hB, hR, hQ, hL⟩ := hX
  subst hq
  intro h1 h2 h3 h4 H locs la q1 q2 q3 q4
  exact lv_isub hx hb hd (k h1 h2 h3 h4 H locs la q1 q2 q3 q4)

theorem ca_imul (hX : ca_Good l y cc nL ret F mc ms N0 S0 sc post X) {a b : Int32} (hq : pc + 1 = q) (hd : decode cc pc = .ok (.imul, 1)) (k : X q ls (.int (a * b) :: st) N S g) : X pc ls (.int b :: .int a :: st) N S g := by
  obtain ⟨p, e, R, s, m, args, below, meth, c, D, cI, ad, base, Q, rfl, hx, hb, hml, hown, hts, hK, hB, hR, hQ, hL⟩ := hX
  subst hq
  intro h1 h2 h3 h4 H locs la q1 q2 q3 q4
  exact lv_imul hx hb hd (k h1 h2 h3 h4 H locs la q1 q2 q3 q4)

theorem ca_iand (hX : ca_Good l y cc nL ret F mc ms N0 S0 sc post X) {a b : Int32} (hq : pc + 1 = q) (hd : decode cc pc = .ok (.iand, 1)) (k : X q ls (.int (a &&& b) :: st) N S g) : X pc ls (.int b :: .int a :: st) N S g := by
  obtain ⟨p, e, R, s, m, args, below, meth, c, D, cI, ad, base, Q, rfl, hx, hb, hml, hown, hts, hK, hB, hR, hQ, hL⟩ := hX
  subst hq
  intro h1 h2 h3 h4 H locs la q1 q2 q3 q4
  exact lv_iand hx hb hd (k h1 h2 h3 h4 H locs la q1 q2 q3 q4)

theorem ca_ior (hX : ca_Good l y cc nL ret F mc ms N0 S0 sc post X) {a b : Int32} (hq : pc + 1 = q) (hd : decode cc pc = .ok (.ior, 1)) (k : X q ls (.int (a ||| b) :: st) N S g) : X pc ls (.int b :: .int a :: st) N S g := by
  obtain ⟨p, e, R, s, m, args, below, meth, c, D, cI, ad, base, Q, rfl, hx, hb, hml, hown, hts, hK, hB, hR, hQ, hL⟩ := hX
  subst hq
  intro h1 h2 h3 h4 H locs la q1 q2 q3 q4
  exact lv_ior hx hb hd (k h1 h2 h3 h4 H locs la q1 q2 q3 q4)

theorem ca_ixor (hX : ca_Good l y cc nL ret F mc ms N0 S0 sc post X) {a b : Int32} (hq : pc + 1 = q) (hd : decode cc pc = .ok (.ixor, 1)) (k : X q ls (.int (a ^^^ b) :: st) N S g) : X pc ls (.int b :: .int a :: st) N S g := by
  obtain ⟨p, e, R, s, m, args, below, meth, c, D, cI, ad, base, Q, rfl, hx, hb, hml, hown, hts, hK, hB, hR, hQ, hL⟩ := hX
  subst hq
  intro h1 h2 h3 h4 H locs la q1 q2 q3 q4
  exact lv_ixor hx hb hd (k h1 h2 h3 h4 H locs la q1 q2 q3 q4)

theorem ca_ladd (hX : ca_Good l y cc nL ret F mc ms N0 S0 sc post X) {a b : Int64} (hq : pc + 1 = q) (hd : decode cc pc = .ok (.ladd, 1)) (k : X q ls (.long (a + b) :: st) N S g) : X pc ls (.long b :: .long a :: st) N S g := by
  obtain ⟨p, e, R, s, m, args, below, meth, c, D, cI, ad, base, Q, rfl, hx, hb, hml, hown, hts, hK, hB, hR, hQ, hL⟩ := hX
  subst hq
  intro h1 h2 h3 h4 H locs la q1 q2 q3 q4
  exact lv_ladd hx hb hd (k h1 h2 h3 h4 H locs la q1 q2 q3 q4)

theorem ca_lsub (hX : ca_Good l y cc nL ret F mc ms N0 S0 sc post X) {a b : Int64} (hq : pc + 1 = q) (hd : decode cc pc = .ok (.lsub, 1)) (k : X q ls (.long (a - b) :: st) N S g) : X pc ls (.long b :: .long a :: st) N S g := by
  obtain ⟨p, e, R, s, m, args, below, meth, c, D, cI, ad, base, Q, rfl, hx, hb, hml, hown, hts, hK, hB, hR, hQ, hL⟩ := hX
  subst hq
  intro h1 h2 h3 h4 H locs la q1 q2 q3 q4
  exact lv_lsub hx hb hd (k h1 h2 h3 h4 H locs la q1 q2 q3 q4)

theorem ca_lmul (hX : ca_Good l y cc nL ret F mc ms N0 S0 sc post X) {a b : Int64} (hq : pc + 1 = q) (hd : decode cc pc = .ok (.lmul, 1)) (k : X q ls (.long (a * b) :: st) N S g) : X pc ls (.long b :: .long a :: st) N S g := by
  obtain ⟨p, e, R, s, m, args, below, meth, c, D, cI, ad, base, Q, rfl, hx, hb, hml, hown, hts, hK, hB, hR, hQ, hL⟩ := hX
  subst hq
  intro h1 h2 h3 h4 H locs la q1 q2 q3 q4
  exact lv_lmul hx hb hd (k h1 h2 h3 h4 H locs la q1 q2 q3 q4)

theorem ca_ishl (hX : ca_Good l y cc nL ret F mc ms N0 S0 sc post X) {a b : Int32} (hq : pc + 1 = q) (hd : decode cc pc = .ok (.ishl, 1)) (k : X q ls (.int (a <<< (b &&& 31)) :: st) N S g) : X pc ls (.int b :: .int a :: st) N S g := by
  obtain ⟨p, e, R, s, m, args, below, meth, c, D, cI, ad, base, Q, rfl, hx, hb, hml, hown, hts, hK, hB, hR, hQ, hL⟩ := hX
  subst hq
  intro h1 h2 h3 h4 H locs la q1 q2 q3 q4
  exact lv_ishl hx hb hd (k h1 h2 h3 h4 H locs la q1 q2 q3 q4)

theorem ca_ishr (hX : ca_Good l y cc nL ret F mc ms N0 S0 sc post X) {a b : Int32} (hq : pc + 1 = q) (hd : decode cc pc = .ok (.ishr, 1)) (k : X q ls (.int (a >>> (b &&& 31)) :: st) N S g) : X pc ls (.int b :: .int a :: st) N S g := by
  obtain ⟨p, e, R, s, m, args, below, meth, c, D, cI, ad, base, Q, rfl, hx, hb, hml, hown, hts, hK, hB, hR, hQ, hL⟩ := hX
  subst hq
  intro h1 h2 h3 h4 H locs la q1 q2 q3 q4
  exact lv_ishr hx hb hd (k h1 h2 h3 h4 H locs la q1 q2 q3 q4)

theorem ca_iushr (hX : ca_Good l y cc nL ret F mc ms N0 S0 sc post X) {a b : Int32} (hq : pc + 1 = q) (hd : decode cc pc = .ok (.iushr, 1)) (k : X q ls (.int ((a.toUInt32 >>> (b.toUInt32 &&& Int32.toUInt32 31)).toInt32) :: st) N S g) : X pc ls (.int b :: .int a :: st) N S g := by
  obtain ⟨p, e, R, s, m, args, below, meth, c, D, cI, ad, base, Q, rfl, hx, hb, hml, hown, hts, hK, hB, hR, hQ, hL⟩ := hX
  subst hq
  intro h1 h2 h3 h4 H locs la q1 q2 q3 q4
  exact lv_iushr hx hb hd rfl (k h1 h2 h3 h4 H locs la q1 q2 q3 q4)

theorem ca_idiv (hX : ca_Good l y cc nL ret F mc ms N0 S0 sc post X) {a b : Int32} (hne : ¬ b = 0) (hq : pc + 1 = q) (hd : decode cc pc = .ok (.idiv, 1)) (k : X q ls (.int (a / b) :: st) N S g) : X pc ls (.int b :: .int a :: st) N S g := by
  obtain ⟨p, e, R, s, m, args, below, meth, c, D, cI, ad, base, Q, rfl, hx, hb, hml, hown, hts, hK, hB, hR, hQ, hL⟩ := hX
  subst hq
  intro h1 h2 h3 h4 H locs la q1 q2 q3 q4
  exact lv_idiv hx hb hd hne (k h1 h2 h3 h4 H locs la q1 q2 q3 q4)

theorem ca_irem (hX : ca_Good l y cc nL ret F mc ms N0 S0 sc post X) {a b : Int32} (hne : ¬ b = 0) (hq : pc + 1 = q) (hd : decode cc pc = .ok (.irem, 1)) (k : X q ls (.int (a - a / b * b) :: st) N S g) : X pc ls (.int b :: .int a :: st) N S g := by
  obtain ⟨p, e, R, s, m, args, below, meth, c, D, cI, ad, base, Q, rfl, hx, hb, hml, hown, hts, hK, hB, hR, hQ, hL⟩ := hX
  subst hq
  intro h1 h2 h3 h4 H locs la q1 q2 q3 q4
  exact lv_irem hx hb hd hne (k h1 h2 h3 h4 H locs la q1 q2 q3 q4)

theorem ca_ldiv (hX : ca_Good l y cc nL ret F mc ms N0 S0 sc post X) {a b : Int64} (hne : ¬ b = 0) (hq : pc + 1 = q) (hd : decode cc pc = .ok (.ldiv, 1)) (k : X q ls (.long (a / b) :: st) N S g) : X pc ls (.long b :: .long a :: st) N S g := by
  obtain ⟨p, e, R, s, m, args, below, meth, c, D, cI, ad, base, Q, rfl, hx, hb, hml, hown, hts, hK, hB, hR, hQ, hL⟩ := hX
  subst hq
  intro h1 h2 h3 h4 H locs la q1 q2 q3 q4
  exact lv_ldiv hx hb hd hne (k h1 h2 h3 h4 H locs la q1 q2 q3 q4)

theorem ca_lrem (hX : ca_Good l y cc nL ret F mc ms N0 S0 sc post X) {a b : Int64} (hne : ¬ b = 0) (hq : pc + 1 = q) (hd : decode cc pc = .ok (.lrem, 1)) (k : X q ls (.long (a - a / b * b) :: st) N S g) : X pc ls (.long b :: .long a :: st) N S g := by
  obtain ⟨p, e, R, s, m, args, below, meth, c, D, cI, ad, base, Q, rfl, hx, hb, hml, hown, hts, hK, hB, hR, hQ, hL⟩ := hX
  subst hq
  intro h1 h2 h3 h4 H locs la q1 q2 q3 q4
  exact lv_lrem hx hb hd hne (k h1 h2 h3 h4 H locs la q1 q2 q3 q4)

theorem ca_ineg (hX : ca_Good l y cc nL ret F mc ms N0 S0 sc post X) {a : Int32} (hq : pc + 1 = q) (hd : decode cc pc = .ok (.ineg, 1)) (k : X q ls (.int (-a) :: st) N S g) : X pc ls (.int a :: st) N S g := by
  obtain ⟨p, e, R, s, m, args, below, meth, c, D, cI, ad, base, Q, rfl, hx, hb, hml, hown, hts, hK, hB, hR, hQ, hL⟩ := hX
  subst hq
  intro h1 h2 h3 h4 H locs la q1 q2 q3 q4
  exact lv_ineg hx hb hd (k h1 h2 h3 h4 H locs la q1 q2 q3 q4)

theorem ca_i2l (hX : ca_Good l y cc nL ret F mc ms N0 S0 sc post X) {a : Int32} (hq : pc + 1 = q) (hd : decode cc pc = .ok (.i2l, 1)) (k : X q ls (.long a.toInt64 :: st) N S g) : X pc ls (.int a :: st) N S g := by
  obtain ⟨p, e, R, s, m, args, below, meth, c, D, cI, ad, base, Q, rfl, hx, hb, hml, hown, hts, hK, hB, hR, hQ, hL⟩ := hX
  subst hq
  intro h1 h2 h3 h4 H locs la q1 q2 q3 q4
  exact lv_i2l hx hb hd rfl (k h1 h2 h3 h4 H locs la q1 q2 q3 q4)

theorem ca_i2c (hX : ca_Good l y cc nL ret F mc ms N0 S0 sc post X) {a : Int32} (hq : pc + 1 = q) (hd : decode cc pc = .ok (.i2c, 1)) (k : X q ls (.int (a.toUInt32 % 65536).toInt32 :: st) N S g) : X pc ls (.int a :: st) N S g := by
  obtain ⟨p, e, R, s, m, args, below, meth, c, D, cI, ad, base, Q, rfl, hx, hb, hml, hown, hts, hK, hB, hR, hQ, hL⟩ := hX
  subst hq
  intro h1 h2 h3 h4 H locs la q1 q2 q3 q4
  exact lv_i2c hx hb hd rfl (k h1 h2 h3 h4 H locs la q1 q2 q3 q4)

theorem ca_lcmp (hX : ca_Good l y cc nL ret F mc ms N0 S0 sc post X) {a b : Int64} (hq : pc + 1 = q) (hd : decode cc pc = .ok (.lcmp, 1)) (k : X q ls (.int (lg_cmp a b) :: st) N S g) : X pc ls (.long b :: .long a :: st) N S g := by
  obtain ⟨p, e, R, s, m, args, below, meth, c, D, cI, ad, base, Q, rfl, hx, hb, hml, hown, hts, hK, hB, hR, hQ, hL⟩ := hX
  subst hq
  intro h1 h2 h3 h4 H locs la q1 q2 q3 q4
  exact W.lcmp hx hb hd (k h1 h2 h3 h4 H locs la q1 q2 q3 q4)

theorem ca_dup (hX : ca_Good l y cc nL ret F mc ms N0 S0 sc post X) {v : Value} (hc : v.category = 1) (hq : pc + 1 = q) (hd : decode cc pc = .ok (.dup, 1)) (k : X q ls (v :: v :: st) N S g) : X pc ls (v :: st) N S g := by
  obtain ⟨p, e, R, s, m, args, below, meth, c, D, cI, ad, base, Q, rfl, hx, hb, hml, hown, hts, hK, hB, hR, hQ, hL⟩ := hX
  subst hq
  intro h1 h2 h3 h4 H locs la q1 q2 q3 q4
  exact lv_dup hx hb hd (by rw [ca_vz_cat]; exact hc) (k h1 h2 h3 h4 H locs la q1 q2 q3 q4)

theorem ca_pop (hX : ca_Good l y cc nL ret F mc ms N0 S0 sc post X) {v : Value} (hc : v.category = 1) (hq : pc + 1 = q) (hd : decode cc pc = .ok (.pop, 1)) (k : X q ls (st) N S g) : X pc ls (v :: st) N S g := by
  obtain ⟨p, e, R, s, m, args, below, meth, c, D, cI, ad, base, Q, rfl, hx, hb, hml, hown, hts, hK, hB, hR, hQ, hL⟩ := hX
  subst hq
  intro h1 h2 h3 h4 H locs la q1 q2 q3 q4
  exact lv_pop hx hb hd (by rw [ca_vz_cat]; exact hc) (k h1 h2 h3 h4 H locs la q1 q2 q3 q4)

theorem ca_dup2 (hX : ca_Good l y cc nL ret F mc ms N0 S0 sc post X) {v u : Value} (hc : v.category = 1) (hc2 : u.category = 1) (hq : pc + 1 = q) (hd : decode cc pc = .ok (.dup2, 1)) (k : X q ls (v :: u :: v :: u :: st) N S g) : X pc ls (v :: u :: st) N S g := by
  obtain ⟨p, e, R, s, m, args, below, meth, c, D, cI, ad, base, Q, rfl, hx, hb, hml, hown, hts, hK, hB, hR, hQ, hL⟩ := hX
  subst hq
  intro h1 h2 h3 h4 H locs la q1 q2 q3 q4
  exact lv_dup2_11 hx hb hd (by rw [ca_vz_cat]; exact hc) (by rw [ca_vz_cat]; exact hc2) (k h1 h2 h3 h4 H locs la q1 q2 q3 q4)

theorem ca_istore_n (hX : ca_Good l y cc nL ret F mc ms N0 S0 sc post X) {k4 : Fin 4} (i : Nat) (hk : (k4 : Nat) = i) {x : Int32} {ls' : List (Option Value)} (hi : i < ls.length) (hn : i < nL) (hp : i = 0 ∨ ca_n2 ls (i - 1) = true) (hl : ls.set i (some (.int x)) = ls') (hq : pc + 1 = q) (hd : decode cc pc = .ok (.istore_n k4, 1)) (k : X q ls' st N S g) : X pc ls (.int x :: st) N S g := by
  obtain ⟨p, e, R, s, m, args, below, meth, c, D, cI, ad, base, Q, rfl, hx, hb, hml, hown, hts, hK, hB, hR, hQ, hL⟩ := hX
  subst hq
  subst hl
  intro h1 h2 h3 h4 H locs la q1 q2 q3 q4
  exact lv_istore_n hx hb hd hk q4 hn rfl (fun la' hl' => k h1 h2 h3 h4 H locs la' q1 q2 q3 (ca_sto1 (v := .int x) hi hp rfl hl'))

theorem ca_istore (hX : ca_Good l y cc nL ret F mc ms N0 S0 sc post X) {i : Nat} {x : Int32} {ls' : List (Option Value)} (hi : i < ls.length) (hn : i < nL) (hp : i = 0 ∨ ca_n2 ls (i - 1) = true) (hl : ls.set i (some (.int x)) = ls') (hq : pc + 2 = q) (hd : decode cc pc = .ok (.istore i, 2)) (k : X q ls' st N S g) : X pc ls (.int x :: st) N S g := by
  obtain ⟨p, e, R, s, m, args, below, meth, c, D, cI, ad, base, Q, rfl, hx, hb, hml, hown, hts, hK, hB, hR, hQ, hL⟩ := hX
  subst hq
  subst hl
  intro h1 h2 h3 h4 H locs la q1 q2 q3 q4
  exact lv_istore hx hb hd q4 hn rfl (fun la' hl' => k h1 h2 h3 h4 H locs la' q1 q2 q3 (ca_sto1 (v := .int x) hi hp rfl hl'))

theorem ca_astore_n (hX : ca_Good l y cc nL ret F mc ms N0 S0 sc post X) {k4 : Fin 4} (i : Nat) (hk : (k4 : Nat) = i) {x : Nat} {ls' : List (Option Value)} (hi : i < ls.length) (hn : i < nL) (hp : i = 0 ∨ ca_n2 ls (i - 1) = true) (hl : ls.set i (some (.ref x)) = ls') (hq : pc + 1 = q) (hd : decode cc pc = .ok (.astore_n k4, 1)) (k : X q ls' st N S g) : X pc ls (.ref x :: st) N S g := by
  obtain ⟨p, e, R, s, m, args, below, meth, c, D, cI, ad, base, Q, rfl, hx, hb, hml, hown, hts, hK, hB, hR, hQ, hL⟩ := hX
  subst hq
  subst hl
  intro h1 h2 h3 h4 H locs la q1 q2 q3 q4
  exact lv_astore_n hx hb hd hk q4 hn rfl (fun la' hl' => k h1 h2 h3 h4 H locs la' q1 q2 q3 (ca_sto1 (v := .ref x) hi hp rfl hl'))

theorem ca_astore (hX : ca_Good l y cc nL ret F mc ms N0 S0 sc post X) {i : Nat} {x : Nat} {ls' : List (Option Value)} (hi : i < ls.length) (hn : i < nL) (hp : i = 0 ∨ ca_n2 ls (i - 1) = true) (hl : ls.set i (some (.ref x)) = ls') (hq : pc + 2 = q) (hd : decode cc pc = .ok (.astore i, 2)) (k : X q ls' st N S g) : X pc ls (.ref x :: st) N S g := by
  obtain ⟨p, e, R, s, m, args, below, meth, c, D, cI, ad, base, Q, rfl, hx, hb, hml, hown, hts, hK, hB, hR, hQ, hL⟩ := hX
  subst hq
  subst hl
  intro h1 h2 h3 h4 H locs la q1 q2 q3 q4
  exact lv_astore hx hb hd q4 hn rfl (fun la' hl' => k h1 h2 h3 h4 H locs la' q1 q2 q3 (ca_sto1 (v := .ref x) hi hp rfl hl'))

theorem ca_lstore_n (hX : ca_Good l y cc nL ret F mc ms N0 S0 sc post X) {k4 : Fin 4} (i : Nat) (hk : (k4 : Nat) = i) {x : Int64} {ls' : List (Option Value)} (hi : i + 1 < ls.length) (hn : i + 1 < nL) (hp : i = 0 ∨ ca_n2 ls (i - 1) = true) (hl : (ls.set i (some (.long x))).set (i + 1) none = ls') (hq : pc + 1 = q) (hd : decode cc pc = .ok (.lstore_n k4, 1)) (k : X q ls' st N S g) : X pc ls (.long x :: st) N S g := by
  obtain ⟨p, e, R, s, m, args, below, meth, c, D, cI, ad, base, Q, rfl, hx, hb, hml, hown, hts, hK, hB, hR, hQ, hL⟩ := hX
  subst hq
  subst hl
  intro h1 h2 h3 h4 H locs la q1 q2 q3 q4
  exact lv_lstore_n hx hb hd hk q4 hn rfl (fun la' hl' => k h1 h2 h3 h4 H locs la' q1 q2 q3 (ca_sto2 (v := .long x) hi hp rfl hl'))

theorem ca_lstore (hX : ca_Good l y cc nL ret F mc ms N0 S0 sc post X) {i : Nat} {x : Int64} {ls' : List (Option Value)} (hi : i + 1 < ls.length) (hn : i + 1 < nL) (hp : i = 0 ∨ ca_n2 ls (i - 1) = true) (hl : (ls.set i (some (.long x))).set (i + 1) none = ls') (hq : pc + 2 = q) (hd : decode cc pc = .ok (.lstore i, 2)) (k : X q ls' st N S g) : X pc ls (.long x :: st) N S g := by
  obtain ⟨p, e, R, s, m, args, below, meth, c, D, cI, ad, base, Q, rfl, hx, hb, hml, hown, hts, hK, hB, hR, hQ, hL⟩ := hX
  subst hq
  subst hl
  intro h1 h2 h3 h4 H locs la q1 q2 q3 q4
  exact lv_lstore hx hb hd q4 hn rfl (fun la' hl' => k h1 h2 h3 h4 H locs la' q1 q2 q3 (ca_sto2 (v := .long x) hi hp rfl hl'))

theorem ca_iinc (hX : ca_Good l y cc nL ret F mc ms N0 S0 sc post X) {i : Nat} {n : Int} {d x : Int32} {ls' : List (Option Value)} (hv : Int32.ofInt n = d) (hx0 : ls[i]? = some (some (.int x))) (hn : i < nL) (hp : i = 0 ∨ ca_n2 ls (i - 1) = true) (hl : ls.set i (some (.int (x + d))) = ls') (hq : pc + 3 = q) (hd : decode cc pc = .ok (.iinc i n, 3)) (k : X q ls' st N S g) : X pc ls st N S g := by
  obtain ⟨p, e, R, s, m, args, below, meth, c, D, cI, ad, base, Q, rfl, hx, hb, hml, hown, hts, hK, hB, hR, hQ, hL⟩ := hX
  subst hq
  subst hl
  subst hv
  intro h1 h2 h3 h4 H locs la q1 q2 q3 q4
  have hi : i < ls.length := (List.getElem?_eq_some_iff.mp hx0).1
  obtain ⟨j, hj⟩ := List.getElem?_of_mem ((ca_lv_mem (ad := ad) ls 0).mpr ⟨i, _, hx0, rfl⟩)
  rw [Nat.zero_add] at hj
  exact lv_iinc hx hb hd q4 hj rfl hn rfl (fun la' hl' => k h1 h2 h3 h4 H locs la' q1 q2 q3 (ca_sto1 (v := .int (x + Int32.ofInt n)) hi hp rfl hl'))

theorem ca_if_eq (hX : ca_Good l y cc nL ret F mc ms N0 S0 sc post X) {x : Int32} {off : Int} (tgt : Nat) (ht : (pc : Int) + off = (tgt : Int)) (hq : pc + 3 = q) (hd : decode cc pc = .ok (.ifCond .eq off, 3)) (kt : x = 0 → X tgt ls st N S g) (kf : ¬ x = 0 → X q ls st N S g) : X pc ls (.int x :: st) N S g := by
  obtain ⟨p, e, R, s, m, args, below, meth, c, D, cI, ad, base, Q, rfl, hx, hb, hml, hown, hts, hK, hB, hR, hQ, hL⟩ := hX
  subst hq
  intro h1 h2 h3 h4 H locs la q1 q2 q3 q4
  exact lv_if_eq hx hb hd ht (fun z => kt z h1 h2 h3 h4 H locs la q1 q2 q3 q4) (fun z => kf z h1 h2 h3 h4 H locs la q1 q2 q3 q4)

theorem ca_icmp_eq (hX : ca_Good l y cc nL ret F mc ms N0 S0 sc post X) {x y0 : Int32} {off : Int} (tgt : Nat) (ht : (pc : Int) + off = (tgt : Int)) (hq : pc + 3 = q) (hd : decode cc pc = .ok (.if_icmp .eq off, 3)) (kt : x = y0 → X tgt ls st N S g) (kf : ¬ x = y0 → X q ls st N S g) : X pc ls (.int y0 :: .int x :: st) N S g := by
  obtain ⟨p, e, R, s, m, args, below, meth, c, D, cI, ad, base, Q, rfl, hx, hb, hml, hown, hts, hK, hB, hR, hQ, hL⟩ := hX
  subst hq
  intro h1 h2 h3 h4 H locs la q1 q2 q3 q4
  exact lv_icmp_eq hx hb hd ht (fun z => kt z h1 h2 h3 h4 H locs la q1 q2 q3 q4) (fun z => kf z h1 h2 h3 h4 H locs la q1 q2 q3 q4)

theorem ca_if_ne (hX : ca_Good l y cc nL ret F mc ms N0 S0 sc post X) {x : Int32} {off : Int} (tgt : Nat) (ht : (pc : Int) + off = (tgt : Int)) (hq : pc + 3 = q) (hd : decode cc pc = .ok (.ifCond .ne off, 3)) (kt : ¬ x = 0 → X tgt ls st N S g) (kf : x = 0 → X q ls st N S g) : X pc ls (.int x :: st) N S g := by
  obtain ⟨p, e, R, s, m, args, below, meth, c, D, cI, ad, base, Q, rfl, hx, hb, hml, hown, hts, hK, hB, hR, hQ, hL⟩ := hX
  subst hq
  intro h1 h2 h3 h4 H locs la q1 q2 q3 q4
  exact lv_if_ne hx hb hd ht (fun z => kt z h1 h2 h3 h4 H locs la q1 q2 q3 q4) (fun z => kf z h1 h2 h3 h4 H locs la q1 q2 q3 q4)

theorem ca_icmp_ne (hX : ca_Good l y cc nL ret F mc ms N0 S0 sc post X) {x y0 : Int32} {off : Int} (tgt : Nat) (ht : (pc : Int) + off = (tgt : Int)) (hq : pc + 3 = q) (hd : decode cc pc = .ok (.if_icmp .ne off, 3)) (kt : ¬ x = y0 → X tgt ls st N S g) (kf : x = y0 → X q ls st N S g) : X pc ls (.int y0 :: .int x :: st) N S g := by
  obtain ⟨p, e, R, s, m, args, below, meth, c, D, cI, ad, base, Q, rfl, hx, hb, hml, hown, hts, hK, hB, hR, hQ, hL⟩ := hX
  subst hq
  intro h1 h2 h3 h4 H locs la q1 q2 q3 q4
  exact lv_icmp_ne hx hb hd ht (fun z => kt z h1 h2 h3 h4 H locs la q1 q2 q3 q4) (fun z => kf z h1 h2 h3 h4 H locs la q1 q2 q3 q4)

theorem ca_if_lt (hX : ca_Good l y cc nL ret F mc ms N0 S0 sc post X) {x : Int32} {off : Int} (tgt : Nat) (ht : (pc : Int) + off = (tgt : Int)) (hq : pc + 3 = q) (hd : decode cc pc = .ok (.ifCond .lt off, 3)) (kt : x < 0 → X tgt ls st N S g) (kf : ¬ x < 0 → X q ls st N S g) : X pc ls (.int x :: st) N S g := by
  obtain ⟨p, e, R, s, m, args, below, meth, c, D, cI, ad, base, Q, rfl, hx, hb, hml, hown, hts, hK, hB, hR, hQ, hL⟩ := hX
  subst hq
  intro h1 h2 h3 h4 H locs la q1 q2 q3 q4
  exact lv_if_lt hx hb hd ht (fun z => kt z h1 h2 h3 h4 H locs la q1 q2 q3 q4) (fun z => kf z h1 h2 h3 h4 H locs la q1 q2 q3 q4)

theorem ca_icmp_lt (hX : ca_Good l y cc nL ret F mc ms N0 S0 sc post X) {x y0 : Int32} {off : Int} (tgt : Nat) (ht : (pc : Int) + off = (tgt : Int)) (hq : pc + 3 = q) (hd : decode cc pc = .ok (.if_icmp .lt off, 3)) (kt : x < y0 → X tgt ls st N S g) (kf : ¬ x < y0 → X q ls st N S g) : X pc ls (.int y0 :: .int x :: st) N S g := by
  obtain ⟨p, e, R, s, m, args, below, meth, c, D, cI, ad, base, Q, rfl, hx, hb, hml, hown, hts, hK, hB, hR, hQ, hL⟩ := hX
  subst hq
  intro h1 h2 h3 h4 H locs la q1 q2 q3 q4
  exact lv_icmp_lt hx hb hd ht (fun z => kt z h1 h2 h3 h4 H locs la q1 q2 q3 q4) (fun z => kf z h1 h2 h3 h4 H locs la q1 q2 q3 q4)

theorem ca_if_ge (hX : ca_Good l y cc nL ret F mc ms N0 S0 sc post X) {x : Int32} {off : Int} (tgt : Nat) (ht : (pc : Int) + off = (tgt : Int)) (hq : pc + 3 = q) (hd : decode cc pc = .ok (.ifCond .ge off, 3)) (kt : 0 ≤ x → X tgt ls st N S g) (kf : ¬ 0 ≤ x → X q ls st N S g) : X pc ls (.int x :: st) N S g := by
  obtain ⟨p, e, R, s, m, args, below, meth, c, D, cI, ad, base, Q, rfl, hx, hb, hml, hown, hts, hK, hB, hR, hQ, hL⟩ := hX
  subst hq
  intro h1 h2 h3 h4 H locs la q1 q2 q3 q4
  exact lv_if_ge hx hb hd ht (fun z => kt z h1 h2 h3 h4 H locs la q1 q2 q3 q4) (fun z => kf z h1 h2 h3 h4 H locs la q1 q2 q3 q4)

theorem ca_icmp_ge (hX : ca_Good l y cc nL ret F mc ms N0 S0 sc post X) {x y0 : Int32} {off : Int} (tgt : Nat) (ht : (pc : Int) + off = (tgt : Int)) (hq : pc + 3 = q) (hd : decode cc pc = .ok (.if_icmp .ge off, 3)) (kt : y0 ≤ x → X tgt ls st N S g) (kf : ¬ y0 ≤ x → X q ls st N S g) : X pc ls (.int y0 :: .int x :: st) N S g := by
  obtain ⟨p, e, R, s, m, args, below, meth, c, D, cI, ad, base, Q, rfl, hx, hb, hml, hown, hts, hK, hB, hR, hQ, hL⟩ := hX
  subst hq
  intro h1 h2 h3 h4 H locs la q1 q2 q3 q4
  exact lv_icmp_ge hx hb hd ht (fun z => kt z h1 h2 h3 h4 H locs la q1 q2 q3 q4) (fun z => kf z h1 h2 h3 h4 H locs la q1 q2 q3 q4)

theorem ca_if_gt (hX : ca_Good l y cc nL ret F mc ms N0 S0 sc post X) {x : Int32} {off : Int} (tgt : Nat) (ht : (pc : Int) + off = (tgt : Int)) (hq : pc + 3 = q) (hd : decode cc pc = .ok (.ifCond .gt off, 3)) (kt : 0 < x → X tgt ls st N S g) (kf : ¬ 0 < x → X q ls st N S g) : X pc ls (.int x :: st) N S g := by
  obtain ⟨p, e, R, s, m, args, below, meth, c, D, cI, ad, base, Q, rfl, hx, hb, hml, hown, hts, hK, hB, hR, hQ, hL⟩ := hX
  subst hq
  intro h1 h2 h3 h4 H locs la q1 q2 q3 q4
  exact lv_if_gt hx hb hd ht (fun z => kt z h1 h2 h3 h4 H locs la q1 q2 q3 q4) (fun z => kf z h1 h2 h3 h4 H locs la q1 q2 q3 q4)

theorem ca_icmp_gt (hX : ca_Good l y cc nL ret F mc ms N0 S0 sc post X) {x y0 : Int32} {off : Int} (tgt : Nat) (ht : (pc : Int) + off = (tgt : Int)) (hq : pc + 3 = q) (hd : decode cc pc = .ok (.if_icmp .gt off, 3)) (kt : y0 < x → X tgt ls st N S g) (kf : ¬ y0 < x → X q ls st N S g) : X pc ls (.int y0 :: .int x :: st) N S g := by
  obtain ⟨p, e, R, s, m, args, below, meth, c, D, cI, ad, base, Q, rfl, hx, hb, hml, hown, hts, hK, hB, hR, hQ, hL⟩ := hX
  subst hq
  intro h1 h2 h3 h4 H locs la q1 q2 q3 q4
  exact lv_icmp_gt hx hb hd ht (fun z => kt z h1 h2 h3 h4 H locs la q1 q2 q3 q4) (fun z => kf z h1 h2 h3 h4 H locs la q1 q2 q3 q4)

theorem ca_if_le (hX : ca_Good l y cc nL ret F mc ms N0 S0 sc post X) {x : Int32} {off : Int} (tgt : Nat) (ht : (pc : Int) + off = (tgt : Int)) (hq : pc + 3 = q) (hd : decode cc pc = .ok (.ifCond .le off, 3)) (kt : x ≤ 0 → X tgt ls st N S g) (kf : ¬ x ≤ 0 → X q ls st N S g) : X pc ls (.int x :: st) N S g := by
  obtain ⟨p, e, R, s, m, args, below, meth, c, D, cI, ad, base, Q, rfl, hx, hb, hml, hown, hts, hK, hB, hR, hQ, hL⟩ := hX
  subst hq
  intro h1 h2 h3 h4 H locs la q1 q2 q3 q4
  exact lv_if_le hx hb hd ht (fun z => kt z h1 h2 h3 h4 H locs la q1 q2 q3 q4) (fun z => kf z h1 h2 h3 h4 H locs la q1 q2 q3 q4)

theorem ca_icmp_le (hX : ca_Good l y cc nL ret F mc ms N0 S0 sc post X) {x y0 : Int32} {off : Int} (tgt : Nat) (ht : (pc : Int) + off = (tgt : Int)) (hq : pc + 3 = q) (hd : decode cc pc = .ok (.if_icmp .le off, 3)) (kt : x ≤ y0 → X tgt ls st N S g) (kf : ¬ x ≤ y0 → X q ls st N S g) : X pc ls (.int y0 :: .int x :: st) N S g := by
  obtain ⟨p, e, R, s, m, args, below, meth, c, D, cI, ad, base, Q, rfl, hx, hb, hml, hown, hts, hK, hB, hR, hQ, hL⟩ := hX
  subst hq
  intro h1 h2 h3 h4 H locs la q1 q2 q3 q4
  exact lv_icmp_le hx hb hd ht (fun z => kt z h1 h2 h3 h4 H locs la q1 q2 q3 q4) (fun z => kf z h1 h2 h3 h4 H locs la q1 q2 q3 q4)

theorem ca_goto (hX : ca_Good l y cc nL ret F mc ms N0 S0 sc post X) {off : Int} (tgt : Nat) (ht : (pc : Int) + off = (tgt : Int)) (hd : decode cc pc = .ok (.goto off, 3)) (k : X tgt ls st N S g) : X pc ls st N S g := by
  obtain ⟨p, e, R, s, m, args, below, meth, c, D, cI, ad, base, Q, rfl, hx, hb, hml, hown, hts, hK, hB, hR, hQ, hL⟩ := hX
  intro h1 h2 h3 h4 H locs la q1 q2 q3 q4
  exact lv_goto hx hb hd ht (k h1 h2 h3 h4 H locs la q1 q2 q3 q4)

theorem ca_tabOut (hX : ca_Good l y cc nL ret F mc ms N0 S0 sc post X) {dflt lo hi : Int} {offs : Array Int} {len : Nat} {x : Int32} (tgt : Nat) (hd : decode cc pc = .ok (.tableswitch dflt lo hi offs, len)) (h : x.toInt < lo ∨ hi < x.toInt) (ht : (pc : Int) + dflt = (tgt : Int)) (k : X tgt ls st N S g) : X pc ls (.int x :: st) N S g := by
  obtain ⟨p, e, R, s, m, args, below, meth, c, D, cI, ad, base, Q, rfl, hx, hb, hml, hown, hts, hK, hB, hR, hQ, hL⟩ := hX
  intro h1 h2 h3 h4 H locs la q1 q2 q3 q4
  exact lv_tableOut hx hb hd h ht (k h1 h2 h3 h4 H locs la q1 q2 q3 q4)

theorem ca_tabIn (hX : ca_Good l y cc nL ret F mc ms N0 S0 sc post X) {dflt lo hi : Int} {offs : Array Int} {len : Nat} {x : Int32} {off : Int} (tgt : Nat) (hd : decode cc pc = .ok (.tableswitch dflt lo hi offs, len)) (ha : ¬ x.toInt < lo) (hb0 : ¬ hi < x.toInt) (ho : offs[(x.toInt - lo).toNat]? = some off) (ht : (pc : Int) + off = (tgt : Int)) (k : X tgt ls st N S g) : X pc ls (.int x :: st) N S g := by
  obtain ⟨p, e, R, s, m, args, below, meth, c, D, cI, ad, base, Q, rfl, hx, hb, hml, hown, hts, hK, hB, hR, hQ, hL⟩ := hX
  intro h1 h2 h3 h4 H locs la q1 q2 q3 q4
  exact lv_tableIn hx hb hd ha hb0 ho ht (k h1 h2 h3 h4 H locs la q1 q2 q3 q4)

theorem ca_look (hX : ca_Good l y cc nL ret F mc ms N0 S0 sc post X) {dflt : Int} {ps : Array (Int × Int)} {len : Nat} {x : Int32} {off : Int} (tgt : Nat) (hd : decode cc pc = .ok (.lookupswitch dflt ps, len)) (hp : (ps.toList.zip (ps.toList.drop 1)).all (fun (a, next) => a.1 < next.1) = true) (ho : Op.lookupswitch.offset ps.toList dflt x.toInt = off) (ht : (pc : Int) + off = (tgt : Int)) (k : X tgt ls st N S g) : X pc ls (.int x :: st) N S g := by
  obtain ⟨p, e, R, s, m, args, below, meth, c, D, cI, ad, base, Q, rfl, hx, hb, hml, hown, hts, hK, hB, hR, hQ, hL⟩ := hX
  intro h1 h2 h3 h4 H locs la q1 q2 q3 q4
  exact lv_lookup hx hb hd hp ho ht (k h1 h2 h3 h4 H locs la q1 q2 q3 q4)

theorem ca_iald (hX : ca_Good l y cc nL ret F mc ms N0 S0 sc post X) {i n : Nat} {f : Nat → Int32} {x : Int32} (hi : i < N) (hg : g i = .inl (n, f)) (hin : vp_in x n) (hq : pc + 1 = q) (hd : decode cc pc = .ok (.iaload, 1)) (k : X q ls (.int (f x.toNatClampNeg) :: st) N S g) : X pc ls (.int x :: .ref i :: st) N S g := by
  obtain ⟨p, e, R, s, m, args, below, meth, c, D, cI, ad, base, Q, rfl, hx, hb, hml, hown, hts, hK, hB, hR, hQ, hL⟩ := hX
  subst hq
  intro h1 h2 h3 h4 H locs la q1 q2 q3 q4
  exact va_iald hx hb hK.1 q2 i 0 (by rw [ca_ws_at hi, hg]; rfl) rfl hin hd (k h1 h2 h3 h4 H locs la q1 q2 q3 q4)

theorem ca_N (hX : ca_Good l y cc nL ret F mc ms N0 S0 sc post X) (hsc : sc = none) (hk : N ≤ 1000 → X pc ls st N S g) : X pc ls st N S g := by
  obtain ⟨p, e, R, s, m, args, below, meth, c, D, cI, ad, base, Q, rfl, hx, hb, hml, hown, hts, hK, hB, hR, hQ, hL⟩ := hX
  intro h1 h2 h3 h4 H locs la q1 q2 q3 q4
  exact hk (by have := (hQ hsc).1; omega) h1 h2 h3 h4 H locs la q1 q2 q3 q4

theorem ca_iast (hX : ca_Good l y cc nL ret F mc ms N0 S0 sc post X) {i n : Nat} {f : Nat → Int32} {x v : Int32} (hi : i < N) (hN : N ≤ 1000) (hS : 1000000 ≤ S) (hg : g i = .inl (n, f)) (hin : vp_in x n) (hq : pc + 1 = q) (hd : decode cc pc = .ok (.iastore, 1)) (k : X q ls st N S (ca_up g i (.inl (n, upd f x.toNatClampNeg v)))) : X pc ls (.int v :: .int x :: .ref i :: st) N S g := by
  obtain ⟨p, e, R, s, m, args, below, meth, c, D, cI, ad, base, Q, rfl, hx, hb, hml, hown, hts, hK, hB, hR, hQ, hL⟩ := hX
  subst hq
  intro h1 h2 h3 h4 H locs la q1 q2 q3 q4
  refine va_iast hx hb hK.1 q2 (ca_D hB.1 hN) q3 i 0 (a := ad i) (cA := cI) (n := n) (f := f) (by rw [ca_ws_at hi, hg]; rfl) rfl hin hd (fun H1 locs1 p2 p3 p4 => ?_)
  rw [show ((ad i, Sum.inl (cI, n, Sum.inl (upd f x.toNatClampNeg v))) : Nat × va_E) = (ad i, ca_cz ad cI (.inl (n, upd f x.toNatClampNeg v))) from rfl, ca_ws_set _ hi] at p2
  exact k h1 h2 h3 h4 H1 locs1 la (fun z => absurd z (by omega)) p2 p4 q4

theorem ca_alen (hX : ca_Good l y cc nL ret F mc ms N0 S0 sc post X) {i n : Nat} {f : Nat → Int32} {v : Int32} (hi : i < N) (hg : g i = .inl (n, f)) (hv : Int32.ofNat n = v) (hq : pc + 1 = q) (hd : decode cc pc = .ok (.arraylength, 1)) (k : X q ls (.int v :: st) N S g) : X pc ls (.ref i :: st) N S g := by
  obtain ⟨p, e, R, s, m, args, below, meth, c, D, cI, ad, base, Q, rfl, hx, hb, hml, hown, hts, hK, hB, hR, hQ, hL⟩ := hX
  subst hq
  intro h1 h2 h3 h4 H locs la q1 q2 q3 q4
  exact va_alen hx hb hK.1 q2 i 0 (x := (n, .inl f)) (by rw [ca_ws_at hi, hg]; rfl) rfl hv hd (k h1 h2 h3 h4 H locs la q1 q2 q3 q4)

theorem ca_getf (hX : ca_Good l y cc nL ret F mc ms N0 S0 sc post X) {idx ci n i : Nat} {C : String} {T : u_T} {ty0 : Nat → FieldType} {fs : List Value} {v : Value} (hC : ca_CL ci C T n ty0) (k : Nat) (hk : k < n) (hl : Cond.fieldLink y.cls idx C (T k).2.1 (T k).2.2.1 ∈ ca_TT) (hi : i < N) (hg : g i = .inr (ci, fs)) (hv : fs[k]? = some v) (hq : pc + 3 = q) (hd : decode cc pc = .ok (.getfield idx, 3)) (kk : X q ls (v :: st) N S g) : X pc ls (.ref i :: st) N S g := by
  obtain ⟨p, e, R, s, m, args, below, meth, c, D, cI, ad, base, Q, rfl, hx, hb, hml, hown, hts, hK, hB, hR, hQ, hL⟩ := hX
  subst hq
  intro h1 h2 h3 h4 H locs la q1 q2 q3 q4
  exact va_get (C := C) (T := T) (N := n) (ref := C) hx hb hts hC.2.1 hown hK.1 q2 i (by rw [ca_ws_at hi, hg]; rfl) hC.1 k hk (hts _ hl) (by rw [hC.2.2.2.2 k hk]; exact fun _ h => h) (v := ca_vz ad v) (by rw [List.getElem?_map, hv]; rfl) hd (kk h1 h2 h3 h4 H locs la q1 q2 q3 q4)

theorem ca_getN (hX : ca_Good l y cc nL ret F mc ms N0 S0 sc post X) {idx ci n i : Nat} {C host : String} {T : u_T} {ty0 : Nat → FieldType} {fs : List Value} {v : Value} (hC : ca_CL ci C T n ty0) (k : Nat) (hk : k < n) (hl : Cond.fieldLinkNest y.cls idx C (T k).2.1 (T k).2.2.1 host ∈ ca_NT) (hi : i < N) (hg : g i = .inr (ci, fs)) (hv : fs[k]? = some v) (hq : pc + 3 = q) (hd : decode cc pc = .ok (.getfield idx, 3)) (kk : X q ls (v :: st) N S g) : X pc ls (.ref i :: st) N S g := by
  obtain ⟨p, e, R, s, m, args, below, meth, c, D, cI, ad, base, Q, rfl, hx, hb, hml, hown, hts, hK, hB, hR, hQ, hL⟩ := hX
  subst hq
  intro h1 h2 h3 h4 H locs la q1 q2 q3 q4
  exact va_getN (C := C) (T := T) (N := n) (ref := C) (host := host) hx hb hts hC.2.1 hown hK.1 q2 i (by rw [ca_ws_at hi, hg]; rfl) hC.1 k hk (va_Nw.use rfl (hK.2.1 _ hl)) (by rw [hC.2.2.2.2 k hk]; exact fun _ h => h) (v := ca_vz ad v) (by rw [List.getElem?_map, hv]; rfl) hd (kk h1 h2 h3 h4 H locs la q1 q2 q3 q4)

theorem ca_put (hX : ca_Good l y cc nL ret F mc ms N0 S0 sc post X) {idx ci n i : Nat} {C : String} {T : u_T} {ty0 : Nat → FieldType} {fs : List Value} {v : Value} (hC : ca_CL ci C T n ty0) (k : Nat) (hk : k < n) (hl : Cond.fieldLink y.cls idx C (T k).2.1 (T k).2.2.1 ∈ ca_TT) (hf : (T k).2.2.2 = false ∨ (y.name = "<init>" ∧ C = y.cls)) (hn : ∀ ad, narrow (ty0 k) (ca_vz ad v) = ca_vz ad v) (hfit : ∀ ad, fits (ty0 k) (ca_vz ad v) = true) (hi : i < N) (hN : N ≤ 1000) (hg : g i = .inr (ci, fs)) (hlen : k < fs.length) (hq : pc + 3 = q) (hd : decode cc pc = .ok (.putfield idx, 3)) (kk : X q ls st N S (ca_up g i (.inr (ci, fs.set k v)))) : X pc ls (v :: .ref i :: st) N S g := by
  obtain ⟨p, e, R, s, m, args, below, meth, c, D, cI, ad, base, Q, rfl, hx, hb, hml, hown, hts, hK, hB, hR, hQ, hL⟩ := hX
  subst hq
  intro h1 h2 h3 h4 H locs la q1 q2 q3 q4
  refine ca_putW hx hb hts hC hown hK.1 q2 (ca_D hB.1 hN) q3 i (a := ad i) (fs := fs.map (ca_vz ad)) (by rw [ca_ws_at hi, hg]; rfl) k hk hl (by rw [hR.2.2]; exact hf) (hn ad) (hfit ad) (by rw [List.length_map]; exact hlen) hd (fun H1 locs1 z p2 p4 => ?_)
  rw [show ((ad i, Sum.inr (ci, (fs.map (ca_vz ad)).set k (ca_vz ad v))) : Nat × va_E) = (ad i, ca_cz ad cI (.inr (ci, fs.set k v))) by rw [← List.map_set]; rfl, ca_ws_set _ hi] at p2
  exact kk h1 h2 h3 h4 H1 locs1 la (fun w => by rw [z]; exact q1 w) p2 p4 q4

theorem ca_newa (hX : ca_Good l y cc nL ret F mc ms N0 S0 sc post X) {n : Nat} {x : Int32} (hA : Cond.arrayClass .int ∈ ca_TT) (hx0 : x = nI n) (hn : n < 100000) (hN : N < 1000) (hc : N + 1 ≤ N0 + mc) (hs : S + n ≤ S0 + ms) (hS : S < 1000000) (hq : pc + 2 = q) (hd : decode cc pc = .ok (.newarray .int, 2)) (kk : X q ls (.ref N :: st) (N + 1) (S + n) (ca_up g N (.inl (n, fun _ => 0)))) : X pc ls (.int x :: st) N S g := by
  obtain ⟨p, e, R, s, m, args, below, meth, c, D, cI, ad, base, Q, rfl, hx, hb, hml, hown, hts, hK, hB, hR, hQ, hL⟩ := hX
  subst hq
  intro h1 h2 h3 h4 H locs la q1 q2 q3 q4
  subst hx0
  have hz := q1 hS
  have hAr : (Cond.arrayClass (newarray.typeOf .int)).before args s = true := hts _ hA
  refine va_newaK (N := n) hx hb hAr rfl hd rfl (nI_pos (by omega)) (nI_clamp (by omega)) (by show n * 4 ≤ _; omega) (by have := hB.2.2.2.2.1; omega) (by have := hB.2.2.2.2.2; omega) hz (fun H1 cA e1 z1 o1 hAo hNm => ?_)
  have hcA : cA = cI := by
    have h5 := (hK.1.2 0 _ rfl).2
    exact Option.some.inj (hNm.symm.trans h5)
  subst hcA
  have hk : ∀ (j : Nat) (w : Nat × va_E), (ca_ws ad cA N g)[j]? = some w → H1[w.1]? = H[w.1]? := fun j w hw => o1 w.1 (by have := (q2 j w hw).lt; omega)
  have p2 : va_P D vwCl (ca_ws ad cA (N + 1) (ca_up g N (.inl (n, fun _ => 0)))) H1 := by
    rw [← ca_ws_push]
    refine (q2.kept hk).app (fun j w hw => ?_)
    have hj : j < 1 := (List.getElem?_eq_some_iff.mp hw).1
    rw [show j = 0 by omega] at hw
    cases hw
    show H1[ad N]? = some (vp_cell cA (n, .inl (fun _ => 0)))
    rw [hB.1 N hN, e1]
    rfl
  have hw := kk (by omega) hc (by omega) hs H1 locs la (fun _ => by omega) p2 ⟨by have := q3.1; omega, fun w b1 b2 => (o1 w (by have := hB.2.1; have := q3.1; omega)).trans (q3.2.1 w b1 b2), q3.2.2⟩ q4
  have eW : (Value.ref N :: st).map (ca_vz ad) = .ref (base + N) :: st.map (ca_vz ad) := by
    show Value.ref (ad N) :: _ = _
    rw [hB.1 N hN]
  rw [eW] at hw
  exact W.cs (by omega) (by omega) hw

theorem ca_new (hX : ca_Good l y cc nL ret F mc ms N0 S0 sc post X) {idx ci n : Nat} {C : String} {T : u_T} {ty0 : Nat → FieldType} {fs : List Value} (hC : ca_CL ci C T n ty0) (w1 : Cond.classLink y.cls idx C ∈ ca_TT) (w2 : Cond.instantiable C n ∈ ca_TT) (w3 : Cond.initialized C ∈ ca_TT) (hfs : ∀ ad j, j < n → defaultValue (ty0 j) = vp_V (fs.map (ca_vz ad)) j) (hN : N < 1000) (hc : N + 1 ≤ N0 + mc) (hs : S + n ≤ S0 + ms) (hS : S < 1000000) (hq : pc + 3 = q) (hd : decode cc pc = .ok (.new idx, 3)) (kk : X q ls (.ref N :: st) (N + 1) (S + n) (ca_up g N (.inr (ci, fs)))) : X pc ls st N S g := by
  obtain ⟨p, e, R, s, m, args, below, meth, c, D, cI, ad, base, Q, rfl, hx, hb, hml, hown, hts, hK, hB, hR, hQ, hL⟩ := hX
  subst hq
  intro h1 h2 h3 h4 H locs la q1 q2 q3 q4
  have hz := q1 hS
  have hKn := hK.1.1 ci _ hC.1
  refine W.newcK hx hb hown (hts _ w1) (hts _ w2) (hts _ w3) rfl hd (by have := hB.2.2.2.2.1; omega) (by have := hB.2.2.2.2.2; omega) hKn.2.1 hz (fun H1 kC hkC e1 z1 o1 => ?_)
  have hk : ∀ (j : Nat) (w : Nat × va_E), (ca_ws ad cI N g)[j]? = some w → H1[w.1]? = H[w.1]? := fun j w hw => o1 w.1 (by have := (q2 j w hw).lt; omega)
  have p2 : va_P D vwCl (ca_ws ad cI (N + 1) (ca_up g N (.inr (ci, fs)))) H1 := by
    rw [← ca_ws_push]
    refine (q2.kept hk).app (fun j w hw => ?_)
    have hj : j < 1 := (List.getElem?_eq_some_iff.mp hw).1
    rw [show j = 0 by omega] at hw
    cases hw
    rw [← hB.1 N hN] at e1
    exact ⟨_, hC.1, (u_born ty0 hts hC.2.1 hKn hkC e1 hC.2.2.1).to (hfs ad)⟩
  have hw := kk (by omega) hc (by omega) hs H1 locs la (fun _ => by omega) p2 ⟨by have := q3.1; omega, fun w b1 b2 => (o1 w (by have := hB.2.1; have := q3.1; omega)).trans (q3.2.1 w b1 b2), q3.2.2⟩ q4
  have eW : (Value.ref N :: st).map (ca_vz ad) = .ref (base + N) :: st.map (ca_vz ad) := by
    show Value.ref (ad N) :: _ = _
    rw [hB.1 N hN]
  rw [eW] at hw
  exact W.cs (by omega) (by omega) hw

theorem ca_obj (hX : ca_Good l y cc nL ret F mc ms N0 S0 sc post X) {idx i : Nat} (w1 : Cond.methodLink y.cls idx Lib.objectInit ∈ ca_TT) (w2 : Cond.instanceMethod Lib.objectInit ∈ ca_TT) (w3 : Cond.code Lib.objectInit ⟨#[0xb1]⟩ 1 none ∈ ca_TT) (hF : 1 ≤ F) (hst : (st.map fun v => v.category).sum ≤ 8) (hq : pc + 3 = q) (hd : decode cc pc = .ok (.invokespecial idx, 3)) (kk : X q ls st N S g) : X pc ls (.ref i :: st) N S g := by
  obtain ⟨p, e, R, s, m, args, below, meth, c, D, cI, ad, base, Q, rfl, hx, hb, hml, hown, hts, hK, hB, hR, hQ, hL⟩ := hX
  subst hq
  intro h1 h2 h3 h4 H locs la q1 q2 q3 q4
  have hcat : ((st.map (ca_vz ad)).map fun v => v.category).sum = (st.map fun v => v.category).sum := by
    rw [List.map_map]; congr 1; apply List.map_congr_left; intro v _; exact ca_vz_cat ad v
  exact W.objInit hx hb hown (hts _ w1) (hts _ w2) (hts _ w3) rfl (by show la.size = _; rw [q4.1, hml]) rfl hd (by have := hB.2.2.1; omega) (by rw [hcat]; show 2 * 0 + _ + 12 ≤ _; have := hB.2.2.2.1; omega) (kk h1 h2 h3 h4 H locs la q1 q2 q3 q4)

theorem ca_retW {s : State} {args : Array Value} {D : va_G} {cI : ClassId} {ad : Nat → Nat} {base : Nat} {H : Heap} {locs : List Loc} {r : Option Value} (hp : post r g) (q1 : S0 + ms < 1000000 → H.size = base + (N0 + mc)) (q2 : va_P D vwCl (ca_ws ad cI (N0 + mc) g) H) (q3 : va_S (fun q => base ≤ q) s.heap H locs) (t : State) (ht : t.heap = H) (_ : s.WarmedH t.vm) : ca_Q D cI ad base (N0 + mc) (S0 + ms) post args s (.returned (r.map (ca_vz ad))) t :=
  ⟨r, g, rfl, hp, fun z => by rw [ht]; exact q1 z, by rw [ht]; exact q2, q3.F ht⟩

theorem ca_iret (hX : ca_Good l y cc nL ret F mc ms N0 S0 sc post X) (hsc : sc = none) {v : Int32} (hr : ret = some .int) (hN : N = N0 + mc) (hS : S = S0 + ms) (hd : decode cc pc = .ok (.ireturn, 1)) (hp : post (some (.int v)) g) : X pc ls [.int v] N S g := by
  obtain ⟨p, e, R, s, m, args, below, meth, c, D, cI, ad, base, Q, rfl, hx, hb, hml, hown, hts, hK, hB, hR, hQ, hL⟩ := hX
  intro h1 h2 h3 h4 H locs la q1 q2 q3 q4
  obtain ⟨-, rfl⟩ := hQ hsc
  subst hN
  subst hS
  have hlocks := hR.2.1
  refine W.widen (k := mc) (n := ms) (by omega) (by omega) ?_
  exact W.iret hx hb (by rw [hR.1]; exact hr) (ca_retW hp q1 q2 q3) (fun l hl => q3.2.2 l hl) hd hlocks

theorem ca_zret (hX : ca_Good l y cc nL ret F mc ms N0 S0 sc post X) (hsc : sc = none) {v : Int32} {ty : FieldType} (hr : ret = some ty) (hn : narrow ty (.int v) = .int v) (hN : N = N0 + mc) (hS : S = S0 + ms) (hd : decode cc pc = .ok (.ireturn, 1)) (hp : post (some (.int v)) g) : X pc ls [.int v] N S g := by
  obtain ⟨p, e, R, s, m, args, below, meth, c, D, cI, ad, base, Q, rfl, hx, hb, hml, hown, hts, hK, hB, hR, hQ, hL⟩ := hX
  intro h1 h2 h3 h4 H locs la q1 q2 q3 q4
  obtain ⟨-, rfl⟩ := hQ hsc
  subst hN
  subst hS
  have hlocks := hR.2.1
  refine W.widen (k := mc) (n := ms) (by omega) (by omega) ?_
  exact W.zret hx hb (by rw [hR.1]; exact hr) hn (ca_retW hp q1 q2 q3) (fun l hl => q3.2.2 l hl) hd hlocks

theorem ca_lret (hX : ca_Good l y cc nL ret F mc ms N0 S0 sc post X) (hsc : sc = none) {v : Int64} (hr : ret = some .long) (hN : N = N0 + mc) (hS : S = S0 + ms) (hd : decode cc pc = .ok (.lreturn, 1)) (hp : post (some (.long v)) g) : X pc ls [.long v] N S g := by
  obtain ⟨p, e, R, s, m, args, below, meth, c, D, cI, ad, base, Q, rfl, hx, hb, hml, hown, hts, hK, hB, hR, hQ, hL⟩ := hX
  intro h1 h2 h3 h4 H locs la q1 q2 q3 q4
  obtain ⟨-, rfl⟩ := hQ hsc
  subst hN
  subst hS
  have hlocks := hR.2.1
  refine W.widen (k := mc) (n := ms) (by omega) (by omega) ?_
  exact W.lret hx hb (by rw [hR.1]; exact hr) (ca_retW hp q1 q2 q3) (fun l hl => q3.2.2 l hl) hd hlocks

theorem ca_vret (hX : ca_Good l y cc nL ret F mc ms N0 S0 sc post X) (hsc : sc = none) (hr : ret = none) (hN : N = N0 + mc) (hS : S = S0 + ms) (hd : decode cc pc = .ok (.return_, 1)) (hp : post none g) : X pc ls [] N S g := by
  obtain ⟨p, e, R, s, m, args, below, meth, c, D, cI, ad, base, Q, rfl, hx, hb, hml, hown, hts, hK, hB, hR, hQ, hL⟩ := hX
  intro h1 h2 h3 h4 H locs la q1 q2 q3 q4
  obtain ⟨-, rfl⟩ := hQ hsc
  subst hN
  subst hS
  have hlocks := hR.2.1
  refine W.widen (k := mc) (n := ms) (by omega) (by omega) ?_
  exact W.vret hx hb (by rw [hR.1]; exact hr) (ca_retW hp q1 q2 q3) (fun l hl => q3.2.2 l hl) hd hlocks

theorem ca_aret (hX : ca_Good l y cc nL ret F mc ms N0 S0 sc post X) (hsc : sc = none) {i : Nat} {rt : FieldType} (hr : ret = some rt) (hrt : (∃ n, rt = .object n) ∨ ∃ t, rt = .array t) (hN : N = N0 + mc) (hS : S = S0 + ms) (hd : decode cc pc = .ok (.areturn, 1)) (hp : post (some (.ref i)) g) : X pc ls [.ref i] N S g := by
  obtain ⟨p, e, R, s, m, args, below, meth, c, D, cI, ad, base, Q, rfl, hx, hb, hml, hown, hts, hK, hB, hR, hQ, hL⟩ := hX
  intro h1 h2 h3 h4 H locs la q1 q2 q3 q4
  obtain ⟨-, rfl⟩ := hQ hsc
  subst hN
  subst hS
  have hlocks := hR.2.1
  refine W.widen (k := mc) (n := ms) (by omega) (by omega) ?_
  exact W.aret hx hb (by rw [hR.1]; exact hr) hrt (Or.inr ⟨ad i, rfl⟩) (ca_retW hp q1 q2 q3) (fun l hl => q3.2.2 l hl) hd hlocks

end CARULES
