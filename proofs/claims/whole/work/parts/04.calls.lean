/-! a method's contract, how it is begun, how it is used -/
def ca_Ct (l : Launch) (y : MethodName) (cc : ByteArray) (nL : Nat) (ret : Option FieldType) (F mc ms N S0 : Nat) (As : List Value) (g : ca_G) (post : ca_Post) : Prop :=
  ∀ (D : va_G) (cI : ClassId) (ad : Nat → Nat) (base : Nat), Met l y (Cond.code y cc nL ret :: ca_TT) { frames := F, cells := mc, slots := ms, locals := 37 * F }
    (va_Pc (As.map (ca_vz ad)) (fun U => (S0 < 1000000 → U.heap.size = base + N) ∧ va_P D vwCl (ca_ws ad cI N g) U.heap ∧ ca_KK D cI ad base U ∧ (∀ i, i < 1000 → ad i = base + i) ∧ N + mc ≤ 1000 ∧ base ≤ U.heap.size))
    (ca_Q D cI ad base (N + mc) (S0 + ms) post) mc ms (fun q => base ≤ q)
theorem ca_intro {l : Launch} {y : MethodName} {cc : ByteArray} {nL : Nat} {ret : Option FieldType} {F mc ms N S0 : Nat} {As : List Value} {g : ca_G} {post : ca_Post} (hy : plainName y.cls = true) (hA : (ca_en As).length ≤ nL)
    (body : ∀ X, ca_Good l y cc nL ret F mc ms N S0 none post X → N ≤ 1000 → X 0 (ca_en As ++ List.replicate (nL - (ca_en As).length) none) [] N S0 g) : ca_Ct l y cc nL ret F mc ms N S0 As g post := by
  intro D cI ad base
  refine Met.ofW (cc := cc) (maxL := nL) (ret := ret) hy rfl ?_
  intro p e s m args below meth c s₁ B hml hv
  obtain ⟨rfl, hsz, hP, hK, had, hN, hbs⟩ := hv
  have hts := atoms_spec (ws := Cond.code y cc nL ret :: ca_TT) B.pre
  have hown : s.vm.findClass y.cls = some m.cls := findClass_of_methodNamed B.named
  have hb := body (ca_X p l e { frames := F, cells := mc, slots := ms, locals := 37 * F } s m (As.map (ca_vz ad)).toArray below meth c (MQ below (ca_Q D cI ad base (N + mc) (S0 + ms) post) (As.map (ca_vz ad)).toArray s mc ms (fun q => base ≤ q)) nL D cI ad base N S0 mc ms)
    ⟨p, e, _, s, m, _, below, meth, c, D, cI, ad, base, _, rfl, B.exec, B.bytes, hml, hown, fun w hw => hts w (List.mem_cons_of_mem _ hw), hK, ⟨had, hbs, Nat.le_refl _, Nat.le_refl _, Nat.le_refl _, Nat.le_refl _⟩, ⟨B.returns, B.notSynchronized, (name_of_methodNamed B.named B.method).1⟩, fun _ => ⟨hN, rfl⟩, fun L xs h => by cases h⟩ (by omega)
  have hl := lv_entry (As.map (ca_vz ad)) (n := nL) (by rw [ca_en_len]; exact hA)
  have hl2 : lv_has ((lg_sl (As.map (ca_vz ad)) ++ List.replicate (nL - (lg_sl (As.map (ca_vz ad))).length) Slot.unset).toArray) nL (ca_lv ad 0 (ca_en As ++ List.replicate (nL - (ca_en As).length) none)) := ⟨hl.1, hl.2.1, fun q hq => hl.2.2 q (ca_en_lv As 0 _ hq)⟩
  have hw := hb (Nat.le_refl _) (by omega) (Nat.le_refl _) (by omega) s.heap [] _ hsz hP va_S.rf hl2
  rw [lg_entry_eq]
  exact W.cs (by omega) (by omega) hw
theorem ca_goodIn {y : MethodName} {cc : ByteArray} {nL : Nat} {ret : Option FieldType} (h : Cond.code y cc nL ret ∈ ca_TT) : GoodIn ca_TT (Cond.code y cc nL ret :: ca_TT) := by
  intro w hw
  have hm : w ∈ ca_TT := by
    rcases List.mem_cons.mp hw with rfl | hw
    · exact h
    · exact hw
  exact ⟨hm, good_of_word (List.mem_filter.mp hm).2⟩
/-- what a call needs of the tables: the callee -/
def ca_Y (y : MethodName) (cc : ByteArray) (nL : Nat) (ret : Option FieldType) (n : Nat) : Prop := Cond.code y cc nL ret ∈ ca_TT ∧ Cond.initialized y.cls ∈ ca_TT ∧ (y.cls ≠ "java/lang/invoke/MethodHandle" ∧ y.cls ≠ "java/lang/invoke/VarHandle" ∧ (parseMethodDescriptor y.desc).map (fun d => d.parameters.length) = some n) ∧ nL ≤ 18
def ca_YV (y : MethodName) (cc : ByteArray) (nL : Nat) (ret : Option FieldType) (n ci : Nat) : Prop := ca_Y y cc nL ret n ∧ Cond.instanceMethod y ∈ ca_TT ∧ Cond.selects y.cls y y ∈ ca_TT ∧ (vwCl[ci]?).map (fun q => q.1) = some y.cls
def ca_YS (y : MethodName) (cc : ByteArray) (nL : Nat) (ret : Option FieldType) (n : Nat) : Prop := ca_Y y cc nL ret n ∧ Cond.static y ∈ ca_TT
def ca_YI (y : MethodName) (cc : ByteArray) (nL : Nat) (n : Nat) : Prop := ca_Y y cc nL none n ∧ y.name = "<init>" ∧ Cond.instanceMethod y ∈ ca_TT
section CACALLS
variable {l : Launch} {y : MethodName} {cc : ByteArray} {nL : Nat} {ret : Option FieldType} {F mc ms N0 S0 : Nat} {sc : ca_Sc} {post : ca_Post} {X : ca_J}
variable {pc q : Nat} {ls : List (Option Value)} {st : List Value} {N S : Nat} {g : ca_G}
variable {y' : MethodName} {cc' : ByteArray} {nL' : Nat} {ret' : Option FieldType} {F' mc' ms' S0' idx : Nat} {post' : ca_Post} {As : List Value}
/-- behind a call -/
theorem ca_back {p : Program} {e : Env} {R : Room} {s : State} {m : MethodId} {args a : Array Value} {below : List Frame} {meth : Method} {c : Code} {D : va_G} {cI : ClassId} {ad : Nat → Nat} {base : Nat} {Q : State → Prop} {H : Heap} {locs : List Loc} {la : Array Slot} {st0 : List Value}
    (h1 : N0 ≤ N) (h3 : S0 ≤ S) (hc : N + mc' ≤ N0 + mc) (hs : S + ms' ≤ S0 + ms) (hSS : S + ms' < 1000000 → S0' + ms' < 1000000) (q3 : va_S (fun q => base ≤ q) s.heap H locs) (q4 : lv_has la nL (ca_lv ad 0 ls))
    (hr : va_Run p l e R s m args below meth c H locs (N - N0) (S - S0) mc' ms' (F0 m pc la st0) (st.map (ca_vz ad)) (ca_Q D cI ad base (N + mc') (S0' + ms') post' a) (fun q => base ≤ q))
    (kk : ∀ (r : Option Value) (g' : ca_G), post' r g' → ca_X p l e R s m args below meth c Q nL D cI ad base N0 S0 mc ms (pc + 3) ls (r.toList ++ st) (N + mc') (S + ms') g') : W p l e R s m args below meth c H locs (N - N0) (S - S0) Q (F0 m pc la st0) := by
  intro T hT X0
  obtain ⟨v, st₀, t, T', L, b0, X', hL, e1, e2, ⟨r, g', hv, hp, hz, hP, hF⟩, stp⟩ := hr T hT X0
  cases hv
  have hS' : va_S (fun q => base ≤ q) s.heap T'.heap (locs ++ L) := by
    rw [e1]
    rw [va_F, b0] at hF
    refine ⟨Nat.le_trans q3.1 hF.1, fun w z1 z2 => (hF.2 w (Nat.lt_of_lt_of_le z1 q3.1) z2).trans (q3.2.1 w z1 z2), fun w hw => ?_⟩
    rcases List.mem_append.mp hw with z | z
    · exact q3.2.2 w z
    · exact hL w z
  have hw := kk r g' hp (by omega) hc (by omega) hs T'.heap (locs ++ L) la (fun z => by rw [e1]; exact hz (hSS z)) (by rw [e1]; exact hP) hS' q4
  have eV : (r.toList ++ st).map (ca_vz ad) = (r.map (ca_vz ad)).toList ++ st.map (ca_vz ad) := by cases r <;> simp
  rw [eV] at hw
  have hw2 := W.cs (cells := N - N0 + mc') (slots := S - S0 + ms') (by omega) (by omega) hw
  obtain ⟨t2, a1, b1⟩ := hw2 T' rfl X'
  exact ⟨t2, stp t2 a1, b1⟩
theorem ca_Pblind {D : va_G} {cI : ClassId} {ad : Nat → Nat} {base : Nat} {as : List Value} {n1 n2 n3 : Nat} : FrameBlind (va_Pc as (fun U => (n1 < 1000000 → U.heap.size = base + n2) ∧ va_P D vwCl (ca_ws ad cI n2 g) U.heap ∧ ca_KK D cI ad base U ∧ (∀ i, i < 1000 → ad i = base + i) ∧ n2 + n3 ≤ 1000 ∧ base ≤ U.heap.size)) := by
  intro a U g0 mk h
  obtain ⟨e, z1, z2, z3, z4, z5, z6⟩ := h
  exact ⟨e, z1, z2, z3.call g0 mk a, z4, z5, z6⟩
theorem ca_cat {ad : Nat → Nat} (st : List Value) : ((st.map (ca_vz ad)).map fun v => v.category).sum = (st.map fun v => v.category).sum := by
  rw [List.map_map]; congr 1; apply List.map_congr_left; intro v _; exact ca_vz_cat ad v
theorem ca_callV (hX : ca_Good l y cc nL ret F mc ms N0 S0 sc post X) {n ci i : Nat} {fs : List Value} (hY : ca_YV y' cc' nL' ret' n ci) (hl : Cond.methodLink y.cls idx y' ∈ ca_TT) (hi : i < N) (hN : N + mc' ≤ 1000) (hg : g i = .inr (ci, fs)) (hC : ca_Ct l y' cc' nL' ret' F' mc' ms' N S0' (.ref i :: As) g post') (hF : F' < F) (hc : N + mc' ≤ N0 + mc) (hs : S + ms' ≤ S0 + ms) (hSS : (S < 1000000 ∧ S + ms' < 1000000 ∧ S0' = 0) ∨ (1000000 ≤ S ∧ 1000000 ≤ S0')) (hn : As.length = n) (hst : (st.map fun v => v.category).sum ≤ 8) (hq : pc + 3 = q) (hd : decode cc pc = .ok (.invokevirtual idx, 3)) {stk : List Value} (hk : stk = As.reverse ++ .ref i :: st)
    (kk : ∀ (r : Option Value) (g' : ca_G), post' r g' → X q ls (r.toList ++ st) (N + mc') (S + ms') g') : X pc ls stk N S g := by
  obtain ⟨p, e, R, s, m, args, below, meth, c, D, cI, ad, base, Q, rfl, hx, hb, hml, hown, hts, hK, hB, hR, hQ, hL⟩ := hX
  subst hq
  subst hk
  intro h1 h2 h3 h4 H locs la q1 q2 q3 q4
  obtain ⟨⟨w1, w2, w3, w4⟩, w5, w6, w7⟩ := hY
  obtain ⟨qC, hqC, hqn⟩ := Option.map_eq_some_iff.mp w7
  have hrec := va_recv (a := ad i) (q0 := i) (ci := ci) (q := qC) (fs := fs.map (ca_vz ad)) hK.1 q2 hqC (by rw [ca_ws_at hi, hg]; rfl)
  rw [show qC.1 = y'.cls from hqn] at hrec
  refine ca_back (mc' := mc') (ms' := ms') (S0' := S0') (post' := post') (a := (Value.ref (ad i) :: As.map (ca_vz ad)).toArray) h1 h3 hc hs (by omega) q3 q4 ?_ kk
  refine va_runV (C := y'.cls) (nL := nL) (b := ad i) (As := As.map (ca_vz ad)) ⟨hx, hb, hml, hown, hts⟩ (hC D cI ad base) ⟨callB_of n hts (ca_goodIn w1) rfl rfl rfl (hts _ w2) (hts _ hl) w3 ⟨by show F' + 1 ≤ _; have := hB.2.2.1; omega, by show 8 + (nL' + 11) + 37 * F' ≤ _; have := hB.2.2.2.1; omega⟩, hts _ w5, hts _ w6⟩ ⟨ca_Pblind, hrec, fun U hU hW => ⟨rfl, ?_⟩⟩ rfl (by rw [List.length_map]; exact hn) q4.1 (by show List.map _ _ = _; simp [ca_vz]) (by rw [ca_cat]; show 2 * 0 + _ ≤ 8; omega) hd ⟨by have := hB.2.2.2.2.1; omega, by have := hB.2.2.2.2.2; omega⟩
  exact ⟨fun z => by rw [hU]; exact q1 (by omega), by rw [hU]; exact q2, hK.warm q3 hU hW, hB.1, hN, by rw [hU]; exact Nat.le_trans hB.2.1 q3.1⟩
theorem ca_callS (hX : ca_Good l y cc nL ret F mc ms N0 S0 sc post X) {n : Nat} (hY : ca_YS y' cc' nL' ret' n) (hl : Cond.methodLink y.cls idx y' ∈ ca_TT) (hN : N + mc' ≤ 1000) (hC : ca_Ct l y' cc' nL' ret' F' mc' ms' N S0' As g post') (hF : F' < F) (hc : N + mc' ≤ N0 + mc) (hs : S + ms' ≤ S0 + ms) (hSS : (S < 1000000 ∧ S + ms' < 1000000 ∧ S0' = 0) ∨ (1000000 ≤ S ∧ 1000000 ≤ S0')) (hn : As.length = n) (hst : (st.map fun v => v.category).sum ≤ 8) (hq : pc + 3 = q) (hd : decode cc pc = .ok (.invokestatic idx, 3)) {stk : List Value} (hk : stk = As.reverse ++ st)
    (kk : ∀ (r : Option Value) (g' : ca_G), post' r g' → X q ls (r.toList ++ st) (N + mc') (S + ms') g') : X pc ls stk N S g := by
  obtain ⟨p, e, R, s, m, args, below, meth, c, D, cI, ad, base, Q, rfl, hx, hb, hml, hown, hts, hK, hB, hR, hQ, hL⟩ := hX
  subst hq
  subst hk
  intro h1 h2 h3 h4 H locs la q1 q2 q3 q4
  obtain ⟨⟨w1, w2, w3, w4⟩, w5⟩ := hY
  refine ca_back (mc' := mc') (ms' := ms') (S0' := S0') (post' := post') (a := (As.map (ca_vz ad)).toArray) h1 h3 hc hs (by omega) q3 q4 ?_ kk
  refine va_runS (nL := nL) (As := As.map (ca_vz ad)) ⟨hx, hb, hml, hown, hts⟩ (hC D cI ad base) ⟨callB_of n hts (ca_goodIn w1) rfl rfl rfl (hts _ w2) (hts _ hl) w3 ⟨by show F' + 1 ≤ _; have := hB.2.2.1; omega, by show 8 + (nL' + 11) + 37 * F' ≤ _; have := hB.2.2.2.1; omega⟩, hts _ w5⟩ ⟨ca_Pblind, fun U hU hW => ⟨rfl, ?_⟩⟩ rfl (by rw [List.length_map]; exact hn) q4.1 (by show List.map _ _ = _; simp) (by rw [ca_cat]; show 2 * 0 + _ ≤ 8; omega) hd ⟨by have := hB.2.2.2.2.1; omega, by have := hB.2.2.2.2.2; omega⟩
  exact ⟨fun z => by rw [hU]; exact q1 (by omega), by rw [hU]; exact q2, hK.warm q3 hU hW, hB.1, hN, by rw [hU]; exact Nat.le_trans hB.2.1 q3.1⟩
theorem ca_callSN (hX : ca_Good l y cc nL ret F mc ms N0 S0 sc post X) {n : Nat} {host : String} (hY : ca_YS y' cc' nL' ret' n) (hl : Cond.methodLinkNest y.cls idx y' host ∈ ca_NT) (hN : N + mc' ≤ 1000) (hC : ca_Ct l y' cc' nL' ret' F' mc' ms' N S0' As g post') (hF : F' < F) (hc : N + mc' ≤ N0 + mc) (hs : S + ms' ≤ S0 + ms) (hSS : (S < 1000000 ∧ S + ms' < 1000000 ∧ S0' = 0) ∨ (1000000 ≤ S ∧ 1000000 ≤ S0')) (hn : As.length = n) (hst : (st.map fun v => v.category).sum ≤ 8) (hq : pc + 3 = q) (hd : decode cc pc = .ok (.invokestatic idx, 3)) {stk : List Value} (hk : stk = As.reverse ++ st)
    (kk : ∀ (r : Option Value) (g' : ca_G), post' r g' → X q ls (r.toList ++ st) (N + mc') (S + ms') g') : X pc ls stk N S g := by
  obtain ⟨p, e, R, s, m, args, below, meth, c, D, cI, ad, base, Q, rfl, hx, hb, hml, hown, hts, hK, hB, hR, hQ, hL⟩ := hX
  subst hq
  subst hk
  intro h1 h2 h3 h4 H locs la q1 q2 q3 q4
  obtain ⟨⟨w1, w2, w3, w4⟩, w5⟩ := hY
  refine ca_back (mc' := mc') (ms' := ms') (S0' := S0') (post' := post') (a := (As.map (ca_vz ad)).toArray) h1 h3 hc hs (by omega) q3 q4 ?_ kk
  refine va_runSN (host := host) (nL := nL) (As := As.map (ca_vz ad)) ⟨hx, hb, hml, hown, hts⟩ (hC D cI ad base) ⟨va_cnB n hts (ca_goodIn w1) rfl rfl rfl (hK.2.1 _ hl) (hts _ w2) w3 ⟨by show F' + 1 ≤ _; have := hB.2.2.1; omega, by show 8 + (nL' + 11) + 37 * F' ≤ _; have := hB.2.2.2.1; omega⟩, hts _ w5, trivial⟩ ⟨ca_Pblind, fun U hU hW => ⟨rfl, ?_⟩⟩ rfl (by rw [List.length_map]; exact hn) q4.1 (by show List.map _ _ = _; simp) (by rw [ca_cat]; show 2 * 0 + _ ≤ 8; omega) hd ⟨by have := hB.2.2.2.2.1; omega, by have := hB.2.2.2.2.2; omega⟩
  exact ⟨fun z => by rw [hU]; exact q1 (by omega), by rw [hU]; exact q2, hK.warm q3 hU hW, hB.1, hN, by rw [hU]; exact Nat.le_trans hB.2.1 q3.1⟩
theorem ca_callI (hX : ca_Good l y cc nL ret F mc ms N0 S0 sc post X) {n i : Nat} (hY : ca_YI y' cc' nL' n) (hl : Cond.methodLink y.cls idx y' ∈ ca_TT) (hN : N + mc' ≤ 1000) (hC : ca_Ct l y' cc' nL' none F' mc' ms' N S0' (.ref i :: As) g post') (hF : F' < F) (hc : N + mc' ≤ N0 + mc) (hs : S + ms' ≤ S0 + ms) (hSS : (S < 1000000 ∧ S + ms' < 1000000 ∧ S0' = 0) ∨ (1000000 ≤ S ∧ 1000000 ≤ S0')) (hn : As.length = n) (hst : (st.map fun v => v.category).sum ≤ 8) (hq : pc + 3 = q) (hd : decode cc pc = .ok (.invokespecial idx, 3)) {stk : List Value} (hk : stk = As.reverse ++ .ref i :: st)
    (kk : ∀ (r : Option Value) (g' : ca_G), post' r g' → X q ls (r.toList ++ st) (N + mc') (S + ms') g') : X pc ls stk N S g := by
  obtain ⟨p, e, R, s, m, args, below, meth, c, D, cI, ad, base, Q, rfl, hx, hb, hml, hown, hts, hK, hB, hR, hQ, hL⟩ := hX
  subst hq
  subst hk
  intro h1 h2 h3 h4 H locs la q1 q2 q3 q4
  obtain ⟨⟨w1, w2, w3, w4⟩, w5, w6⟩ := hY
  refine ca_back (mc' := mc') (ms' := ms') (S0' := S0') (post' := post') (a := (Value.ref (ad i) :: As.map (ca_vz ad)).toArray) h1 h3 hc hs (by omega) q3 q4 ?_ kk
  refine va_runI (nL := nL) (b := ad i) (As := As.map (ca_vz ad)) ⟨hx, hb, hml, hown, hts⟩ (hC D cI ad base) ⟨callB_of n hts (ca_goodIn w1) rfl rfl rfl (hts _ w2) (hts _ hl) w3 ⟨by show F' + 1 ≤ _; have := hB.2.2.1; omega, by show 8 + (nL' + 11) + 37 * F' ≤ _; have := hB.2.2.2.1; omega⟩, w5, hts _ w6⟩ ⟨ca_Pblind, fun U hU hW => ⟨rfl, ?_⟩⟩ rfl (by rw [List.length_map]; exact hn) q4.1 (by show List.map _ _ = _; simp [ca_vz]) (by rw [ca_cat]; show 2 * 0 + _ ≤ 8; omega) hd ⟨by have := hB.2.2.2.2.1; omega, by have := hB.2.2.2.2.2; omega⟩
  exact ⟨fun z => by rw [hU]; exact q1 (by omega), by rw [hU]; exact q2, hK.warm q3 hU hW, hB.1, hN, by rw [hU]; exact Nat.le_trans hB.2.1 q3.1⟩
/-- System.arraycopy of ints -/
theorem ca_copy (hX : ca_Good l y cc nL ret F mc ms N0 S0 sc post X) {i j n0 n1 : Nat} {f0 f1 : Nat → Int32} {sp dp n : Int32} (wl : Cond.methodLink y.cls idx arraycopyName ∈ ca_TT) (wn : Cond.native arraycopyName ∈ ca_TT) (wS : Cond.static arraycopyName ∈ ca_TT) (wi : Cond.initialized "java/lang/System" ∈ ca_TT) (hi : i < N) (hj : j < N) (hN : N ≤ 1000) (hS : 1000000 ≤ S) (gi : g i = .inl (n0, f0)) (gj : g j = .inl (n1, f1)) (b1 : ¬ sp < 0) (b2 : ¬ dp < 0) (b3 : ¬ n < 0) (b4 : sp.toNatClampNeg + n.toNatClampNeg ≤ n0) (b5 : dp.toNatClampNeg + n.toNatClampNeg ≤ n1) (hF : 1 ≤ F) (hst : (st.map fun v => v.category).sum ≤ 2) (hq : pc + 3 = q) (hd : decode cc pc = .ok (.invokestatic idx, 3))
    (kk : X q ls st N S (ca_up g j (.inl (n1, va_cpy f0 f1 sp.toNatClampNeg dp.toNatClampNeg n.toNatClampNeg)))) : X pc ls (.int n :: .int dp :: .ref j :: .int sp :: .ref i :: st) N S g := by
  obtain ⟨p, e, R, s, m, args, below, meth, c, D, cI, ad, base, Q, rfl, hx, hb, hml, hown, hts, hK, hB, hR, hQ, hL⟩ := hX
  subst hq
  intro h1 h2 h3 h4 H locs la q1 q2 q3 q4
  refine va_copyi hx hb (by rw [q4.1, hml]) hown (hts _ wl) (hts _ wn) (hts _ wS) (hts _ wi) hK.1 q2 (ca_D hB.1 hN) q3 i j 0 0 (a0 := ad i) (a := ad j) (c0 := cI) (c1 := cI) (n0 := n0) (n1 := n1) (f := f0) (g := f1) (ty := .int) (by rw [ca_ws_at hi, gi]; rfl) (by rw [ca_ws_at hj, gj]; rfl) rfl rfl rfl b1 b2 b3 b4 b5 (fun _ _ => rfl) (by have := hB.2.2.1; omega) (by rw [ca_cat]; have := hB.2.2.2.1; have : nativeFrameWords "java/lang/System" "arraycopy" 5 ≤ 20 := (by decide); omega) hd (fun H1 locs1 p2 p3 p4 => ?_)
  rw [show ((ad j, Sum.inl (cI, n1, Sum.inl (va_cpy f0 f1 sp.toNatClampNeg dp.toNatClampNeg n.toNatClampNeg))) : Nat × va_E) = (ad j, ca_cz ad cI (.inl (n1, va_cpy f0 f1 sp.toNatClampNeg dp.toNatClampNeg n.toNatClampNeg))) from rfl, ca_ws_set _ hj] at p2
  exact kk h1 h2 h3 h4 H1 locs1 la (fun z => absurd z (by omega)) p2 p4 q4
/-- a state that tells no size any more -/
theorem ca_loose (hX : ca_Good l y cc nL ret F mc ms N0 S0 sc post X) {S2 : Nat} (h : S ≤ S2) (h2 : 1000000 ≤ S2) (h5 : S2 ≤ S0 + ms) (kk : X pc ls st N S2 g) : X pc ls st N S g := by
  obtain ⟨p, e, R, s, m, args, below, meth, c, D, cI, ad, base, Q, rfl, hx, hb, hml, hown, hts, hK, hB, hR, hQ, hL⟩ := hX
  intro h1 h2' h3 h4 H locs la q1 q2 q3 q4
  exact W.widen (Nat.le_refl _) (by omega) (kk h1 h2' (by omega) h5 H locs la (fun z => absurd z (by omega)) q2 q3 q4)
end CACALLS
