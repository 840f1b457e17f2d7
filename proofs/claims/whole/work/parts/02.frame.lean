/-! THE WALK'S OWN JUDGEMENT. Cells have small numbers (the i-th cell made lies at base + i); a state is pc, locals by place, stack, number of cells, slots made so far, cells. -/
abbrev ca_Cl : Type := (Nat × (Nat → Int32)) ⊕ (Nat × List Value)
abbrev ca_G : Type := Nat → ca_Cl
abbrev ca_J : Type := Nat → List (Option Value) → List Value → Nat → Nat → ca_G → Prop
abbrev ca_Post : Type := Option Value → ca_G → Prop
abbrev ca_Sc : Type := Option (Nat × (Nat → Int32))
def ca_up (g : ca_G) (i : Nat) (c : ca_Cl) : ca_G := fun j => if j = i then c else g j
def ca_vz (ad : Nat → Nat) : Value → Value
  | .ref i => .ref (ad i)
  | v => v
def ca_cz (ad : Nat → Nat) (cI : ClassId) : ca_Cl → va_E
  | .inl a => .inl (cI, a.1, .inl a.2)
  | .inr o => .inr (o.1, o.2.map (ca_vz ad))
def ca_ws (ad : Nat → Nat) (cI : ClassId) (N : Nat) (g : ca_G) : va_W := (List.range N).map (fun i => (ad i, ca_cz ad cI (g i)))
theorem ca_up_s (g : ca_G) (i : Nat) (c : ca_Cl) : ca_up g i c i = c := if_pos rfl
theorem ca_up_n (g : ca_G) {i j : Nat} (c : ca_Cl) (h : j ≠ i) : ca_up g i c j = g j := if_neg h
theorem ca_up_up (g : ca_G) (i : Nat) (c d : ca_Cl) : ca_up (ca_up g i c) i d = ca_up g i d := by
  funext j; by_cases h : j = i
  · subst h; rw [ca_up_s, ca_up_s]
  · rw [ca_up_n _ _ h, ca_up_n _ _ h, ca_up_n _ _ h]
theorem ca_vz_cat (ad : Nat → Nat) (v : Value) : (ca_vz ad v).category = v.category := by cases v <;> rfl
theorem ca_ws_at {ad : Nat → Nat} {cI : ClassId} {N i : Nat} {g : ca_G} (h : i < N) : (ca_ws ad cI N g)[i]? = some (ad i, ca_cz ad cI (g i)) := by
  simp [ca_ws, h]
theorem ca_ws_set {ad : Nat → Nat} {cI : ClassId} {N i : Nat} {g : ca_G} (c : ca_Cl) (h : i < N) : (ca_ws ad cI N g).set i (ad i, ca_cz ad cI c) = ca_ws ad cI N (ca_up g i c) := by
  apply List.ext_getElem?
  intro j
  by_cases hj : j = i
  · subst hj
    rw [List.getElem?_set_self (by simp [ca_ws, h]), ca_ws_at h, ca_up_s]
  · rw [List.getElem?_set_ne (fun q => hj q.symm)]
    by_cases hN : j < N
    · rw [ca_ws_at hN, ca_ws_at hN, ca_up_n _ _ hj]
    · rw [List.getElem?_eq_none (by simp [ca_ws]; omega), List.getElem?_eq_none (by simp [ca_ws]; omega)]
theorem ca_ws_push {ad : Nat → Nat} {cI : ClassId} {N : Nat} {g : ca_G} (c : ca_Cl) : ca_ws ad cI N g ++ [(ad N, ca_cz ad cI c)] = ca_ws ad cI (N + 1) (ca_up g N c) := by
  simp only [ca_ws, List.range_succ, List.map_append, List.map_cons, List.map_nil, ca_up_s]
  congr 1
  apply List.map_congr_left
  intro i hi
  have := List.mem_range.mp hi
  rw [ca_up_n _ _ (by omega)]
theorem ca_ws_ex {ad : Nat → Nat} {cI : ClassId} {N k : Nat} {g : ca_G} {q : Nat × va_E} (h : (ca_ws ad cI N g)[k]? = some q) : k < N ∧ q = (ad k, ca_cz ad cI (g k)) := by
  have hk : k < N := by
    have := (List.getElem?_eq_some_iff.mp h).1
    simpa [ca_ws] using this
  rw [ca_ws_at hk] at h
  exact ⟨hk, (Option.some.inj h).symm⟩
theorem ca_D {ad : Nat → Nat} {cI : ClassId} {N base : Nat} {g : ca_G} (had : ∀ i, i < 1000 → ad i = base + i) (hN : N ≤ 1000) : va_D (fun q => base ≤ q) (ca_ws ad cI N g) := by
  refine ⟨fun i j p q hp hq hpq => ?_, fun k q hq => ?_⟩
  · obtain ⟨a1, rfl⟩ := ca_ws_ex hp
    obtain ⟨a2, rfl⟩ := ca_ws_ex hq
    have e : ad i = ad j := hpq
    rw [had i (by omega), had j (by omega)] at e
    omega
  · obtain ⟨a1, rfl⟩ := ca_ws_ex hq
    show base ≤ ad k
    rw [had k (by omega)]
    omega
/-! locals by place -/
def ca_lv (ad : Nat → Nat) : Nat → List (Option Value) → List (Nat × Value)
  | _, [] => []
  | k, some v :: t => (k, ca_vz ad v) :: ca_lv ad (k + 1) t
  | k, none :: t => ca_lv ad (k + 1) t
theorem ca_lv_mem {ad : Nat → Nat} {q : Nat × Value} : ∀ (L : List (Option Value)) (k : Nat), q ∈ ca_lv ad k L ↔ ∃ (j : Nat) (v : Value), L[j]? = some (some v) ∧ q = (k + j, ca_vz ad v)
  | [], k => by simp [ca_lv]
  | none :: t, k => by
    rw [ca_lv, ca_lv_mem t (k + 1)]
    constructor
    · rintro ⟨j, v, h1, h2⟩
      exact ⟨j + 1, v, by simpa using h1, by rw [h2, Nat.add_right_comm, Nat.add_assoc]⟩
    · rintro ⟨j, v, h1, h2⟩
      cases j with
      | zero => simp at h1
      | succ j => exact ⟨j, v, by simpa using h1, by rw [h2, Nat.add_right_comm, Nat.add_assoc]⟩
  | some w :: t, k => by
    rw [ca_lv, List.mem_cons, ca_lv_mem t (k + 1)]
    constructor
    · rintro (h | ⟨j, v, h1, h2⟩)
      · exact ⟨0, w, by simp, h⟩
      · exact ⟨j + 1, v, by simpa using h1, by rw [h2, Nat.add_right_comm, Nat.add_assoc]⟩
    · rintro ⟨j, v, h1, h2⟩
      cases j with
      | zero => left; simp at h1; subst h1; exact h2
      | succ j => right; exact ⟨j, v, by simpa using h1, by rw [h2, Nat.add_right_comm, Nat.add_assoc]⟩
theorem ca_lv_at {ad : Nat → Nat} {la : Array Slot} {nL i : Nat} {ls : List (Option Value)} {v : Value} (h : lv_has la nL (ca_lv ad 0 ls)) (hv : ls[i]? = some (some v)) : la[i]? = some (.val (ca_vz ad v)) := by
  have := h.2.2 (0 + i, ca_vz ad v) ((ca_lv_mem ls 0).mpr ⟨i, v, hv, rfl⟩)
  rwa [Nat.zero_add] at this
/-- no long, no double at this place -/
def ca_n2 (ls : List (Option Value)) (i : Nat) : Bool := match ls[i]? with
  | some (some (.long _)) => false
  | some (some (.double _)) => false
  | _ => true
theorem ca_n2_cat {ls : List (Option Value)} {i : Nat} {v : Value} (h : ca_n2 ls i = true) (hv : ls[i]? = some (some v)) : v.category = 1 := by
  unfold ca_n2 at h
  rw [hv] at h
  cases v <;> first | rfl | simp at h
theorem ca_sto1 {ad : Nat → Nat} {la : Array Slot} {nL i : Nat} {ls : List (Option Value)} {v : Value} {l' : List (Nat × Value)} (hi : i < ls.length) (hp : i = 0 ∨ ca_n2 ls (i - 1) = true)
    (e : l' = (i, ca_vz ad v) :: (ca_lv ad 0 ls).filter (fun q => !(q.1 == i) && !(q.1 + 1 == i && q.2.category == 2))) (h : lv_has la nL l') : lv_has la nL (ca_lv ad 0 (ls.set i (some v))) := by
  refine ⟨h.1, h.2.1, fun q hq => h.2.2 q ?_⟩
  rw [e]
  obtain ⟨j, w, h1, rfl⟩ := (ca_lv_mem _ _).mp hq
  by_cases hj : j = i
  · subst hj
    rw [List.getElem?_set_self hi] at h1
    cases h1
    rw [Nat.zero_add]
    exact List.mem_cons_self
  · rw [List.getElem?_set_ne (fun q => hj q.symm)] at h1
    refine List.mem_cons_of_mem _ (List.mem_filter.mpr ⟨(ca_lv_mem _ _).mpr ⟨j, w, h1, rfl⟩, ?_⟩)
    have hc : ¬ (j + 1 = i ∧ w.category = 2) := by
      rintro ⟨a, b⟩
      rcases hp with hp | hp
      · omega
      · have := ca_n2_cat (v := w) hp (by rw [show i - 1 = j by omega]; exact h1)
        omega
    simp only [Nat.zero_add, ca_vz_cat, Bool.and_eq_true, Bool.not_eq_true', beq_eq_false_iff_ne, ne_eq, Bool.and_eq_false_iff]
    refine ⟨hj, ?_⟩
    by_cases a : j + 1 = i
    · exact Or.inr (fun b => hc ⟨a, b⟩)
    · exact Or.inl a
theorem ca_sto2 {ad : Nat → Nat} {la : Array Slot} {nL i : Nat} {ls : List (Option Value)} {v : Value} {l' : List (Nat × Value)} (hi : i + 1 < ls.length) (hp : i = 0 ∨ ca_n2 ls (i - 1) = true)
    (e : l' = (i, ca_vz ad v) :: (ca_lv ad 0 ls).filter (fun q => !(q.1 == i) && (!(q.1 == i + 1) && !(q.1 + 1 == i && q.2.category == 2)))) (h : lv_has la nL l') : lv_has la nL (ca_lv ad 0 ((ls.set i (some v)).set (i + 1) none)) := by
  refine ⟨h.1, h.2.1, fun q hq => h.2.2 q ?_⟩
  rw [e]
  obtain ⟨j, w, h1, rfl⟩ := (ca_lv_mem _ _).mp hq
  by_cases hj2 : j = i + 1
  · subst hj2
    rw [List.getElem?_set_self (by simpa using hi)] at h1
    cases h1
  rw [List.getElem?_set_ne (fun q => hj2 q.symm)] at h1
  by_cases hj : j = i
  · subst hj
    rw [List.getElem?_set_self (by omega)] at h1
    cases h1
    rw [Nat.zero_add]
    exact List.mem_cons_self
  · rw [List.getElem?_set_ne (fun q => hj q.symm)] at h1
    refine List.mem_cons_of_mem _ (List.mem_filter.mpr ⟨(ca_lv_mem _ _).mpr ⟨j, w, h1, rfl⟩, ?_⟩)
    have hc : ¬ (j + 1 = i ∧ w.category = 2) := by
      rintro ⟨a, b⟩
      rcases hp with hp | hp
      · omega
      · have := ca_n2_cat (v := w) hp (by rw [show i - 1 = j by omega]; exact h1)
        omega
    simp only [Nat.zero_add, ca_vz_cat, Bool.and_eq_true, Bool.not_eq_true', beq_eq_false_iff_ne, ne_eq, Bool.and_eq_false_iff]
    refine ⟨hj, hj2, ?_⟩
    by_cases a : j + 1 = i
    · exact Or.inr (fun b => hc ⟨a, b⟩)
    · exact Or.inl a
/-- a method's first locals -/
def ca_en : List Value → List (Option Value)
  | [] => []
  | v :: t => if v.category = 2 then some v :: none :: ca_en t else some v :: ca_en t
theorem ca_en_lv {ad : Nat → Nat} {q : Nat × Value} : ∀ (As : List Value) (k n : Nat), q ∈ ca_lv ad k (ca_en As ++ List.replicate n none) → q ∈ lv_args k (As.map (ca_vz ad))
  | [], k, n, h => by
    exfalso
    obtain ⟨j, v, h1, -⟩ := (ca_lv_mem _ _).mp h
    simp only [ca_en, List.nil_append] at h1
    have := List.eq_of_mem_replicate (List.mem_of_getElem? h1)
    cases this
  | v :: t, k, n, h => by
    rw [List.map_cons, lv_args]
    unfold ca_en at h
    rw [ca_vz_cat]
    by_cases hc : v.category = 2
    · rw [if_pos hc] at h ⊢
      simp only [List.cons_append, ca_lv] at h
      rcases List.mem_cons.mp h with h | h
      · rw [h]; exact List.mem_cons_self
      · exact List.mem_cons_of_mem _ (ca_en_lv t (k + 2) n h)
    · rw [if_neg hc] at h ⊢
      simp only [List.cons_append, ca_lv] at h
      rcases List.mem_cons.mp h with h | h
      · rw [h]; exact List.mem_cons_self
      · exact List.mem_cons_of_mem _ (ca_en_lv t (k + 1) n h)
theorem ca_en_len {ad : Nat → Nat} : ∀ (As : List Value), (lg_sl (As.map (ca_vz ad))).length = (ca_en As).length
  | [] => rfl
  | v :: t => by
    have ih := ca_en_len (ad := ad) t
    unfold lg_sl at ih ⊢
    rw [List.map_cons, List.flatMap_cons, List.length_append, ih, ca_vz_cat]
    by_cases hc : v.category = 2
    · rw [if_pos hc, show ca_en (v :: t) = some v :: none :: ca_en t from if_pos hc]; simp; omega
    · rw [if_neg hc, show ca_en (v :: t) = some v :: ca_en t from if_neg hc]; simp; omega
/-! what the tables say -/
def ca_isNest : Cond → Bool
  | .fieldLinkNest .. => true
  | .methodLinkNest .. => true
  | _ => false
def ca_NT : List Cond := lw_tbl.filter ca_isNest
def ca_TT : List Cond := lw_tbl.filter goodWord
theorem ca_inT {w : Cond} (h : w ∈ lw_tbl) (g : goodWord w = true) : w ∈ ca_TT := List.mem_filter.mpr ⟨h, g⟩
theorem ca_inN {w : Cond} (h : w ∈ lw_tbl) (g : ca_isNest w = true) : w ∈ ca_NT := List.mem_filter.mpr ⟨h, g⟩
theorem ca_nest_tab {w : Cond} (h : ca_isNest w = true) : w.onTables = true := by
  cases w <;> first | rfl | (simp [ca_isNest] at h; done)
theorem ca_nest_warm {w : Cond} (h : ca_isNest w = true) {s U : State} (hW : s.WarmedH U.vm) (hz : va_Nw w s) : va_Nw w U := by
  cases w <;> first | exact va_Nw.warmF hW hz | exact va_Nw.warmM hW hz | (simp [ca_isNest] at h; done)
def ca_sI : Nat → Nat
  | 0 => 64 | 1 => 66 | 2 => 68 | 3 => 70 | 4 => 72 | 5 => 74 | _ => 114
def ca_sT : Nat → String
  | 0 => "\x72K000;" | 1 => "vK00000;" | 2 => "p0;" | 3 => "k000000;" | 4 => "n00;" | 5 => "" | _ => "tlspwd"
def ca_sL : List Nat := [6, 8, 3, 8, 4, 0, 6]
def ca_sB : List (List Int32) := [[114, 75, 48, 48, 48, 59], [118, 75, 48, 48, 48, 48, 48, 59], [112, 48, 59], [107, 48, 48, 48, 48, 48, 48, 59], [110, 48, 48, 59], [], [116, 108, 115, 112, 119, 100]]
def ca_SK (ad : Nat → Nat) (base : Nat) (U : State) : Prop :=
  (∀ k, k < 7 → vk_R "FoughtFromMemory$Telling" (ca_sI k) (ca_sT k) (ad (1000 + k)) U) ∧
  vk_S 7 ca_sL ca_sB (fun k => ad (1000 + k)) (fun k => ad (1100 + k)) (fun q => base ≤ q) U U.heap ∧
  va_Z "java/lang/String" "COMPACT_STRINGS" "Z" (.int 1) (fun q => base ≤ q) U U.heap ∧
  (va_Z "jdk/internal/util/Preconditions" "SIOOBE_FORMATTER" "Ljava/util/function/BiFunction;" .null (fun q => base ≤ q) U U.heap ∨ va_Z "jdk/internal/util/Preconditions" "SIOOBE_FORMATTER" "Ljava/util/function/BiFunction;" (.ref (ad 1200)) (fun q => base ≤ q) U U.heap)
def ca_KK (D : va_G) (cI : ClassId) (ad : Nat → Nat) (base : Nat) (U : State) : Prop := va_K D vwCl [(cI, .int)] U ∧ (∀ w ∈ ca_NT, va_Nw w U) ∧ ca_SK ad base U
theorem ca_KK.warm {D : va_G} {cI : ClassId} {ad : Nat → Nat} {base : Nat} {s U : State} {H : Heap} {locs : List Loc} (h : ca_KK D cI ad base s) (hS : va_S (fun q => base ≤ q) s.heap H locs) (hH : U.heap = H) (hW : s.WarmedH U.vm) : ca_KK D cI ad base U := by
  obtain ⟨h1, h2, h3, h4, h5, h6⟩ := h
  have hq : ∀ a : Nat, a < s.heap.size → ¬ base ≤ a → U.heap[a]? = s.heap[a]? := fun a b1 b2 => by rw [hH]; exact hS.2.1 a b1 b2
  exact ⟨va_K.moved hW.alike h1, fun w hw => ca_nest_warm (List.mem_filter.mp hw).2 hW (h2 w hw), fun k hk => (h3 k hk).warm hW, (h4.moved hW.alike).kept hq, (h5.moved hW.alike).kept hq, h6.imp (fun z => (z.moved hW.alike).kept hq) (fun z => (z.moved hW.alike).kept hq)⟩
theorem ca_KK.call {D : va_G} {cI : ClassId} {ad : Nat → Nat} {base : Nat} {U : State} (g : JFrame) (mk : MethodId) (a : Array Value) (h : ca_KK D cI ad base U) : ca_KK D cI ad base (U.calling g mk a) := by
  obtain ⟨h1, h2, h3, h4, h5, h6⟩ := h
  have hv : U.vm.Alike (U.calling g mk a).vm := Vm.Alike.refl U.vm
  exact ⟨va_K.moved hv h1, fun w hw => va_Nw.same (u := U) (U := U.calling g mk a) (ca_nest_tab (List.mem_filter.mp hw).2) rfl (h2 w hw), fun k hk => (h3 k hk).same rfl, h4.moved hv, h5.moved hv, h6.imp (fun z => z.moved hv) (fun z => z.moved hv)⟩
