/-! the start, and the claim -/
set_option maxRecDepth 100000 in
set_option maxHeartbeats 4000000 in
theorem law_start {l : Launch} {L : Nat} {xs : Nat → Int32} {post : ca_Post} {X : ca_J} (hX : ca_Good l yL_law code 4 ret 13 600000 7302250 0 0 (some (L, xs)) post X) (hL31 : L ≤ 3072) (g : ca_G) : X 0 [some (.ref 2000), none, none, none] [] 0 0 g := by
  refine ca_new hX (q := 3) cl_X5 w_cl_L_7 w_is_X5 w_in_X5 df_X5 (by omega) (by omega) (by omega) (by omega) rfl dL_law_0 ?_
  obtain ⟨g1, hG, hF0⟩ : ∃ g2 : ca_G, g2 = ca_up g 0 (.inr (4, [.null, .null, .null, .null, .null, .null, .null, .int 0])) ∧ True := ⟨_, rfl, trivial⟩
  refine ca_eqG (h := hG.symm) ?_
  have hb0 : g1 0 = .inr (4, [.null, .null, .null, .null, .null, .null, .null, .int 0]) := by rw [hG]; exact ca_up_s _ _ _
  clear hG
  refine ca_dup hX (q := 4) rfl rfl dL_law_3 ?_
  refine ca_callI hX (q := 7) (i := 0) y_X5_init w_ml_L_9 (by omega) (n_X5 l g1 hb0) (by decide) (by omega) (by omega) (Or.inl ⟨by omega, by omega, rfl⟩) rfl (Nat.le_of_ble_eq_true rfl) rfl dL_law_4 rfl ?_
  rintro _ g2 ⟨rfl, hc⟩
  refine ca_astore_n hX (q := 8) 1 rfl (ls' := [_, _, _, _]) (Nat.le_of_ble_eq_true rfl) (Nat.le_of_ble_eq_true rfl) (Or.inr rfl) rfl rfl dL_law_7 ?_
  refine ca_new hX (q := 11) cl_X6 w_cl_L_10 w_is_X6 w_in_X6 df_X6 (by omega) (by omega) (by omega) (by omega) rfl dL_law_8 ?_
  obtain ⟨g3, hG, hF3⟩ : ∃ g4 : ca_G, g4 = ca_up g2 31 (.inr (5, [.null, .null, .null, .null, .int 0, .null, .null, .null, .int 0, .int 0, .null, .null, .null, .null, .null, .int 0, .int 0, .int 0, .null, .int 0])) ∧ frG g2 g4 31 32 := ⟨_, rfl, fun j hj => ca_up_n _ _ (by omega)⟩
  refine ca_eqG (h := hG.symm) ?_
  have hb3 : g3 31 = .inr (5, [.null, .null, .null, .null, .int 0, .null, .null, .null, .int 0, .int 0, .null, .null, .null, .null, .null, .int 0, .int 0, .int 0, .null, .int 0]) := by rw [hG]; exact ca_up_s _ _ _
  clear hG
  have hc := hc.fr hF3 (by omega)
  refine ca_dup hX (q := 12) rfl rfl dL_law_11 ?_
  refine ca_callI hX (q := 15) (i := 31) y_X6_init w_ml_L_12 (by omega) (n_X6 l 31 g3 hb3) (by decide) (by omega) (by omega) (Or.inl ⟨by omega, by omega, rfl⟩) rfl (Nat.le_of_ble_eq_true rfl) rfl dL_law_12 rfl ?_
  rintro _ g4 ⟨rfl, hm, hf4⟩
  have hc : clX g4 (fun _ _ => 0 : Nat → Nat → Int32) (fun _ => 0) (fun _ _ => 0) := by
    obtain ⟨h0, h1, h2, h3, h4, h5, h6, h7, h8⟩ := hc
    exact ⟨(hf4 0 (by omega)).trans h0, h1.lt hf4 (by omega), h2.lt hf4 (by omega), h3.lt hf4 (by omega), h4.lt hf4 (by omega), (hf4 25 (by omega)).trans h5, ⟨(hf4 26 (by omega)).trans h6.1, (hf4 27 (by omega)).trans h6.2⟩, ⟨(hf4 28 (by omega)).trans h7.1, (hf4 29 (by omega)).trans h7.2⟩, (hf4 30 (by omega)).trans h8⟩
  refine ca_astore_n hX (q := 16) 2 rfl (ls' := [_, _, _, _]) (Nat.le_of_ble_eq_true rfl) (Nat.le_of_ble_eq_true rfl) (Or.inr rfl) rfl rfl dL_law_15 ?_
  refine ca_iconst hX (q := 17) k_iconst_0 rfl dL_law_16 ?_
  refine ca_istore_n hX (q := 18) 3 rfl (ls' := [_, _, _, _]) (Nat.le_of_ble_eq_true rfl) (Nat.le_of_ble_eq_true rfl) (Or.inr rfl) rfl rfl dL_law_17 ?_
  refine ca_loose hX (S2 := 1000000) (by omega) (by omega) (by omega) ?_
  have hz : wfH (fun _ => 0 : Nat → Int32) 0 := ⟨rfl, by omega, fun r _ => ⟨0, by omega, rfl⟩, fun r _ => ⟨0, by omega, rfl⟩, fun p hp => absurd hp (Nat.not_lt_zero _)⟩
  have hw : wfM (fun _ _ => 0 : Nat → Nat → Int32) := ⟨⟨0, hz⟩, ⟨0, hz⟩, ⟨0, by omega, rfl⟩, ⟨0, by omega, rfl⟩⟩
  exact law_loop hX hL31 L 0 g4 (fun _ _ => 0 : Nat → Nat → Int32) (fun _ => 0) (fun _ _ => 0) (by omega) (by omega) hc hm hw rfl

set_option maxRecDepth 100000 in
set_option maxHeartbeats 4000000 in
theorem st_str {b : Nat} {s : State} (hgv : (Jvm.Cond.and given_1 narrow_1).before #[Value.ref b] s = true) (hA0 : ∀ a : Nat, a < s.heap.size → ¬ (fun q : Nat => s.heap.size ≤ q) a) : ∃ adK adV : Nat → Nat, vk_S 7 ca_sL ca_sB adK adV (fun q => s.heap.size ≤ q) s s.heap ∧ ∀ i : Nat, i < 7 → (Term.string "FoughtFromMemory$Telling" (ca_sI i)).eval #[Value.ref b] s none [] s = some (.ref (adK i)) := by
  have hs := flat_of_before _ hgv
  refine vk_Sof (tm := fun i => Term.string "FoughtFromMemory$Telling" (ca_sI i)) (args := #[Value.ref b]) (fun i hi => by have := sl_b i hi; omega) ?_ ?_ ?_ ?_ ?_ ?_ hA0
  · intro i hi
    have : i = 0 ∨ i = 1 ∨ i = 2 ∨ i = 3 ∨ i = 4 ∨ i = 5 ∨ i = 6 := by omega
    rcases this with rfl | rfl | rfl | rfl | rfl | rfl | rfl
    · exact hs _ (by decide +kernel)
    · exact hs _ (by decide +kernel)
    · exact hs _ (by decide +kernel)
    · exact hs _ (by decide +kernel)
    · exact hs _ (by decide +kernel)
    · exact hs _ (by decide +kernel)
    · exact hs _ (by decide +kernel)
  · intro i hi
    have : i = 0 ∨ i = 1 ∨ i = 2 ∨ i = 3 ∨ i = 4 ∨ i = 5 ∨ i = 6 := by omega
    rcases this with rfl | rfl | rfl | rfl | rfl | rfl | rfl
    · exact hs _ (by decide +kernel)
    · exact hs _ (by decide +kernel)
    · exact hs _ (by decide +kernel)
    · exact hs _ (by decide +kernel)
    · exact hs _ (by decide +kernel)
    · exact hs _ (by decide +kernel)
    · exact hs _ (by decide +kernel)
  · intro i hi
    have : i = 0 ∨ i = 1 ∨ i = 2 ∨ i = 3 ∨ i = 4 ∨ i = 5 ∨ i = 6 := by omega
    rcases this with rfl | rfl | rfl | rfl | rfl | rfl | rfl
    · exact hs _ (by decide +kernel)
    · exact hs _ (by decide +kernel)
    · exact hs _ (by decide +kernel)
    · exact hs _ (by decide +kernel)
    · exact hs _ (by decide +kernel)
    · exact hs _ (by decide +kernel)
    · exact hs _ (by decide +kernel)
  · intro i hi
    have : i = 0 ∨ i = 1 ∨ i = 2 ∨ i = 3 ∨ i = 4 ∨ i = 5 ∨ i = 6 := by omega
    rcases this with rfl | rfl | rfl | rfl | rfl | rfl | rfl
    · exact hs _ (by decide +kernel)
    · exact hs _ (by decide +kernel)
    · exact hs _ (by decide +kernel)
    · exact hs _ (by decide +kernel)
    · exact hs _ (by decide +kernel)
    · exact hs _ (by decide +kernel)
    · exact hs _ (by decide +kernel)
  · intro i hi
    have : i = 0 ∨ i = 1 ∨ i = 2 ∨ i = 3 ∨ i = 4 ∨ i = 5 ∨ i = 6 := by omega
    rcases this with rfl | rfl | rfl | rfl | rfl | rfl | rfl
    · intro j hj
      have hj : j < 6 := hj
      have : j = 0 ∨ j = 1 ∨ j = 2 ∨ j = 3 ∨ j = 4 ∨ j = 5 := by omega
      rcases this with rfl | rfl | rfl | rfl | rfl | rfl <;> exact hs _ (by decide +kernel)
    · intro j hj
      have hj : j < 8 := hj
      have : j = 0 ∨ j = 1 ∨ j = 2 ∨ j = 3 ∨ j = 4 ∨ j = 5 ∨ j = 6 ∨ j = 7 := by omega
      rcases this with rfl | rfl | rfl | rfl | rfl | rfl | rfl | rfl <;> exact hs _ (by decide +kernel)
    · intro j hj
      have hj : j < 3 := hj
      have : j = 0 ∨ j = 1 ∨ j = 2 := by omega
      rcases this with rfl | rfl | rfl <;> exact hs _ (by decide +kernel)
    · intro j hj
      have hj : j < 8 := hj
      have : j = 0 ∨ j = 1 ∨ j = 2 ∨ j = 3 ∨ j = 4 ∨ j = 5 ∨ j = 6 ∨ j = 7 := by omega
      rcases this with rfl | rfl | rfl | rfl | rfl | rfl | rfl | rfl <;> exact hs _ (by decide +kernel)
    · intro j hj
      have hj : j < 4 := hj
      have : j = 0 ∨ j = 1 ∨ j = 2 ∨ j = 3 := by omega
      rcases this with rfl | rfl | rfl | rfl <;> exact hs _ (by decide +kernel)
    · intro j hj; exact absurd hj (Nat.not_lt_zero _)
    · intro j hj
      have hj : j < 6 := hj
      have : j = 0 ∨ j = 1 ∨ j = 2 ∨ j = 3 ∨ j = 4 ∨ j = 5 := by omega
      rcases this with rfl | rfl | rfl | rfl | rfl | rfl <;> exact hs _ (by decide +kernel)
  · intro i j hi hj hij
    have : i = 0 ∨ i = 1 ∨ i = 2 ∨ i = 3 ∨ i = 4 ∨ i = 5 ∨ i = 6 := by omega
    rcases this with rfl | rfl | rfl | rfl | rfl | rfl | rfl
    · have : j = 0 ∨ j = 1 ∨ j = 2 ∨ j = 3 ∨ j = 4 ∨ j = 5 ∨ j = 6 := by omega
      rcases this with rfl | rfl | rfl | rfl | rfl | rfl | rfl
      · exact absurd rfl hij
      · exact Or.inl (hs _ (by decide +kernel))
      · exact Or.inl (hs _ (by decide +kernel))
      · exact Or.inl (hs _ (by decide +kernel))
      · exact Or.inl (hs _ (by decide +kernel))
      · exact Or.inl (hs _ (by decide +kernel))
      · exact Or.inl (hs _ (by decide +kernel))
    · have : j = 0 ∨ j = 1 ∨ j = 2 ∨ j = 3 ∨ j = 4 ∨ j = 5 ∨ j = 6 := by omega
      rcases this with rfl | rfl | rfl | rfl | rfl | rfl | rfl
      · exact Or.inr (hs _ (by decide +kernel))
      · exact absurd rfl hij
      · exact Or.inl (hs _ (by decide +kernel))
      · exact Or.inl (hs _ (by decide +kernel))
      · exact Or.inl (hs _ (by decide +kernel))
      · exact Or.inl (hs _ (by decide +kernel))
      · exact Or.inl (hs _ (by decide +kernel))
    · have : j = 0 ∨ j = 1 ∨ j = 2 ∨ j = 3 ∨ j = 4 ∨ j = 5 ∨ j = 6 := by omega
      rcases this with rfl | rfl | rfl | rfl | rfl | rfl | rfl
      · exact Or.inr (hs _ (by decide +kernel))
      · exact Or.inr (hs _ (by decide +kernel))
      · exact absurd rfl hij
      · exact Or.inl (hs _ (by decide +kernel))
      · exact Or.inl (hs _ (by decide +kernel))
      · exact Or.inl (hs _ (by decide +kernel))
      · exact Or.inl (hs _ (by decide +kernel))
    · have : j = 0 ∨ j = 1 ∨ j = 2 ∨ j = 3 ∨ j = 4 ∨ j = 5 ∨ j = 6 := by omega
      rcases this with rfl | rfl | rfl | rfl | rfl | rfl | rfl
      · exact Or.inr (hs _ (by decide +kernel))
      · exact Or.inr (hs _ (by decide +kernel))
      · exact Or.inr (hs _ (by decide +kernel))
      · exact absurd rfl hij
      · exact Or.inl (hs _ (by decide +kernel))
      · exact Or.inl (hs _ (by decide +kernel))
      · exact Or.inl (hs _ (by decide +kernel))
    · have : j = 0 ∨ j = 1 ∨ j = 2 ∨ j = 3 ∨ j = 4 ∨ j = 5 ∨ j = 6 := by omega
      rcases this with rfl | rfl | rfl | rfl | rfl | rfl | rfl
      · exact Or.inr (hs _ (by decide +kernel))
      · exact Or.inr (hs _ (by decide +kernel))
      · exact Or.inr (hs _ (by decide +kernel))
      · exact Or.inr (hs _ (by decide +kernel))
      · exact absurd rfl hij
      · exact Or.inl (hs _ (by decide +kernel))
      · exact Or.inl (hs _ (by decide +kernel))
    · have : j = 0 ∨ j = 1 ∨ j = 2 ∨ j = 3 ∨ j = 4 ∨ j = 5 ∨ j = 6 := by omega
      rcases this with rfl | rfl | rfl | rfl | rfl | rfl | rfl
      · exact Or.inr (hs _ (by decide +kernel))
      · exact Or.inr (hs _ (by decide +kernel))
      · exact Or.inr (hs _ (by decide +kernel))
      · exact Or.inr (hs _ (by decide +kernel))
      · exact Or.inr (hs _ (by decide +kernel))
      · exact absurd rfl hij
      · exact Or.inl (hs _ (by decide +kernel))
    · have : j = 0 ∨ j = 1 ∨ j = 2 ∨ j = 3 ∨ j = 4 ∨ j = 5 ∨ j = 6 := by omega
      rcases this with rfl | rfl | rfl | rfl | rfl | rfl | rfl
      · exact Or.inr (hs _ (by decide +kernel))
      · exact Or.inr (hs _ (by decide +kernel))
      · exact Or.inr (hs _ (by decide +kernel))
      · exact Or.inr (hs _ (by decide +kernel))
      · exact Or.inr (hs _ (by decide +kernel))
      · exact Or.inr (hs _ (by decide +kernel))
      · exact absurd rfl hij

theorem st_ref {b : Nat} {s : State} (hts : ∀ w ∈ lw_tbl, w.before #[Value.ref b] s = true) : ∀ k, k < 7 → (Cond.stringRef "FoughtFromMemory$Telling" (ca_sI k) (ca_sT k)).before #[Value.ref b] s = true := by
  intro i hi
  have : i = 0 ∨ i = 1 ∨ i = 2 ∨ i = 3 ∨ i = 4 ∨ i = 5 ∨ i = 6 := by omega
  rcases this with rfl | rfl | rfl | rfl | rfl | rfl | rfl
  · exact hts _ (List.mem_of_getElem? (i := 245) (by decide +kernel))
  · exact hts _ (List.mem_of_getElem? (i := 246) (by decide +kernel))
  · exact hts _ (List.mem_of_getElem? (i := 247) (by decide +kernel))
  · exact hts _ (List.mem_of_getElem? (i := 248) (by decide +kernel))
  · exact hts _ (List.mem_of_getElem? (i := 249) (by decide +kernel))
  · exact hts _ (List.mem_of_getElem? (i := 250) (by decide +kernel))
  · exact hts _ (List.mem_of_getElem? (i := 309) (by decide +kernel))

set_option maxRecDepth 100000 in
set_option maxHeartbeats 4000000 in
theorem whole_start {p : Program} {e : Env} {s : State} {m : MethodId} {below : List Frame} {meth : Method} {c : Code} (l : Launch) (hflags : l.flags = flags0) {b L : Nat} {xs : Nat → Int32} (hL : L ≤ 3072) (hname : meth.name = "law") (C0 : lw_At p s m meth c b L xs) : W p l e room_1 s m #[Value.ref b] below meth c s.heap [] 0 0 (lw_Z below #[Value.ref b] s) (entryFrame m ([Value.ref b] : List Value).toArray 4) := by
  obtain ⟨hx, hb, hr, hml, hown, hts, hX, hbl, hlocks, hgv⟩ := id C0
  have hA0 : ∀ a : Nat, a < s.heap.size → ¬ (fun q : Nat => s.heap.size ≤ q) a := fun a h => Nat.not_le.mpr h
  have hs := flat_of_before _ hgv
  obtain ⟨adK, adV, hSt, hev⟩ := st_str hgv hA0
  have hZ1 : va_Z "java/lang/String" "COMPACT_STRINGS" "Z" (.int 1) (fun q => s.heap.size ≤ q) s s.heap := va_Zof (hts _ (List.mem_of_getElem? (i := 264) (by decide +kernel))) (hts _ (List.mem_of_getElem? (i := 55) (by decide +kernel))) (va_eqt (hs _ (by decide +kernel))) hA0
  have hZ2 : va_Zq "jdk/internal/util/Preconditions" "SIOOBE_FORMATTER" "Ljava/util/function/BiFunction;" (fun q => s.heap.size ≤ q) s s.heap := va_Zqof (hts _ (List.mem_of_getElem? (i := 280) (by decide +kernel))) (hts _ (List.mem_of_getElem? (i := 57) (by decide +kernel))) (hs _ (by decide +kernel)) hA0
  obtain ⟨fm, hfm⟩ : ∃ fm : Nat, va_Z "jdk/internal/util/Preconditions" "SIOOBE_FORMATTER" "Ljava/util/function/BiFunction;" .null (fun q => s.heap.size ≤ q) s s.heap ∨ va_Z "jdk/internal/util/Preconditions" "SIOOBE_FORMATTER" "Ljava/util/function/BiFunction;" (.ref fm) (fun q => s.heap.size ≤ q) s s.heap := by
    rcases hZ2 with z | ⟨t, z⟩
    · exact ⟨0, Or.inl z⟩
    · exact ⟨t, Or.inr z⟩
  obtain ⟨c0, iS0, hKn0⟩ := u_known (C := RX0) (T := TX0) (N := 13) (n := 13) hts in_X0 (hts _ (List.mem_of_getElem? (i := 102) (by decide +kernel)))
  obtain ⟨c1, iS1, hKn1⟩ := u_known (C := RX1) (T := TX1) (N := 6) (n := 6) hts in_X1 (hts _ (List.mem_of_getElem? (i := 70) (by decide +kernel)))
  obtain ⟨c2, iS2, hKn2⟩ := u_known (C := RX3) (T := TX3) (N := 2) (n := 2) hts in_X3 (hts _ (List.mem_of_getElem? (i := 154) (by decide +kernel)))
  obtain ⟨c3, iS3, hKn3⟩ := u_known (C := RX4) (T := TX4) (N := 1) (n := 1) hts in_X4 (hts _ (List.mem_of_getElem? (i := 148) (by decide +kernel)))
  obtain ⟨c4, iS4, hKn4⟩ := u_known (C := RX5) (T := TX5) (N := 8) (n := 8) hts in_X5 (hts _ (List.mem_of_getElem? (i := 62) (by decide +kernel)))
  obtain ⟨c5, iS5, hKn5⟩ := u_known (C := RX6) (T := TX6) (N := 20) (n := 20) hts in_X6 (hts _ (List.mem_of_getElem? (i := 736) (by decide +kernel)))
  obtain ⟨dC, dI, hKc⟩ : ∃ (dC : Nat → ClassId) (dI : Nat → Nat → Nat), ∀ (k : Nat) (q : vw_C), vwCl[k]? = some q → u_Kn s q.1 q.2.1 q.2.2 (dC k) (dI k) := by
    refine ⟨fun k => if k = 0 then c0 else if k = 1 then c1 else if k = 2 then c2 else if k = 3 then c3 else if k = 4 then c4 else c5, fun k => if k = 0 then iS0 else if k = 1 then iS1 else if k = 2 then iS2 else if k = 3 then iS3 else if k = 4 then iS4 else iS5, ?_⟩
    intro k q hq
    match k, hq with
    | 0, hq => cases hq; exact hKn0
    | 1, hq => cases hq; exact hKn1
    | 2, hq => cases hq; exact hKn2
    | 3, hq => cases hq; exact hKn3
    | 4, hq => cases hq; exact hKn4
    | 5, hq => cases hq; exact hKn5
    | k + 6, hq => simp [vwCl] at hq
  obtain ⟨cA, kA, comp, hfind, hkA, hkind⟩ := Cond.arrayClass_spec (hts (Cond.arrayClass .int) (List.mem_filter.mp w_arr).1)
  have hK : va_K (dC, dI) vwCl [(cA, .int)] s := ⟨hKc, fun k q h => by
    match k, h with
    | 0, h => cases h; exact ⟨fun n z => ⟨fun k h => (by cases h), kA, hkA, comp, hkind⟩, hfind⟩
    | k + 1, h => simp at h⟩
  obtain ⟨ad, ad1, ad2, ad3, ad4, ad5⟩ : ∃ ad : Nat → Nat, (∀ i, i < 1000 → ad i = s.heap.size + i) ∧ (∀ k, k < 7 → ad (1000 + k) = adK k) ∧ (∀ k, k < 7 → ad (1100 + k) = adV k) ∧ ad 1200 = fm ∧ ad 2000 = b := by
    refine ⟨fun i => if i < 1000 then s.heap.size + i else if i < 1100 then adK (i - 1000) else if i < 1200 then adV (i - 1100) else if i = 1200 then fm else b, fun i h => if_pos h, fun k h => ?_, fun k h => ?_, rfl, rfl⟩
    · show (if 1000 + k < 1000 then _ else if 1000 + k < 1100 then adK (1000 + k - 1000) else _) = adK k
      rw [if_neg (by omega), if_pos (by omega), Nat.add_sub_cancel_left]
    · show (if 1100 + k < 1000 then _ else if 1100 + k < 1100 then _ else if 1100 + k < 1200 then adV (1100 + k - 1100) else _) = adV k
      rw [if_neg (by omega), if_neg (by omega), if_pos (by omega), Nat.add_sub_cancel_left]
  have hSK : ca_SK ad s.heap.size s := by
    refine ⟨fun k hk => ?_, ?_, hZ1, by rw [ad4]; exact hfm⟩
    · rw [ad2 k hk]; exact vk_R.of (st_ref hts k hk) (hev k hk)
    · refine ⟨fun i hi => ?_, fun i j hi hj => ?_⟩
      · dsimp only
        rw [ad2 i hi, ad3 i hi]; exact hSt.1 i hi
      · show ad (1000 + i) = ad (1000 + j) → i = j
        rw [ad2 i hi, ad2 j hj]; exact hSt.2 i j hi hj
  have hKK : ca_KK (dC, dI) cA ad s.heap.size s := ⟨hK, fun w hw => va_Nw.of (ca_nest_tab (List.mem_filter.mp hw).2) (hts w (List.mem_filter.mp hw).1), hSK⟩
  have hsc : ∀ (L' : Nat) (xs' : Nat → Int32), (some (L, xs) : ca_Sc) = some (L', xs') → lw_Z below #[Value.ref b] s = lw_Z below #[Value.ref b] s ∧ va_X (ad 2000) L' xs' s s.heap ∧ ad 2000 < s.heap.size ∧ s.heap.size = s.heap.size ∧ (#[Value.ref b] : Array Value) = #[Value.ref (ad 2000)] ∧ code = code ∧ (600000 : Nat) = 600000 ∧ (7302250 : Nat) = 7302250 := by
    intro L' xs' h
    cases h
    rw [ad5]
    exact ⟨rfl, hX, hbl, rfl, rfl, rfl, rfl, rfl⟩
  have hG : ca_Good l yL_law code 4 ret 13 600000 7302250 0 0 (some (L, xs)) (fun _ _ => True) (ca_X p l e room_1 s m #[Value.ref b] below meth c (lw_Z below #[Value.ref b] s) 4 (dC, dI) cA ad s.heap.size 0 0 600000 7302250) :=
    ⟨p, e, room_1, s, m, #[Value.ref b], below, meth, c, (dC, dI), cA, ad, s.heap.size, _, rfl, hx, hb, hml, hown, fun w hw => hts w (List.mem_filter.mp hw).1, hKK, ⟨ad1, Nat.le_refl _, Nat.le_of_ble_eq_true rfl, Nat.le_of_ble_eq_true rfl, Nat.le_of_ble_eq_true rfl, Nat.le_of_ble_eq_true rfl⟩, ⟨hr, hlocks, hname⟩, fun h => (by cases h), hsc⟩
  have hb0 := law_start hG hL (fun _ => .inl (0, fun _ => 0))
  have hl := lv_entry ([.ref b]) (n := 4) (Nat.le_of_ble_eq_true rfl)
  rw [lg_entry_eq]
  refine hb0 (Nat.le_refl _) (by omega) (Nat.le_refl _) (by omega) s.heap [] _ (fun _ => rfl) (fun k q h => by simp [ca_ws] at h) va_S.rf ?_
  refine ⟨hl.1, hl.2.1, fun q hq => ?_⟩
  have hq : q ∈ [(0, Value.ref (ad 2000))] := hq
  rw [ad5] at hq
  exact hl.2.2 q hq

set_option maxHeartbeats 4000000 in
theorem lw_walk (l : Launch) (hflags : l.flags = flags0) (b : Addr) (xs : List Int32) : MetFree l x (headSpec (Jvm.Cond.code x code maxLocals ret :: tables_1) room_1) (lw_P b xs) (fun _ _ _ _ _ => True) lw_Q := by
  refine MetFree.of_bodyS (code := code) (maxLocals := maxLocals) (ret := ret) (by decide) ?_ ?_
  · intro args s m h hn
    obtain ⟨meth, c, h1, h2, h3, h4, h5, h6, -, -⟩ := Cond.code_spec hn (atoms_spec (ws := Jvm.Cond.code x code maxLocals ret :: tables_1) h _ List.mem_cons_self)
    exact ⟨meth, c, h1, h2, h3, h4, h5, h6⟩
  · intro p e s m args below meth c s₁ B hml0 hP _
    obtain ⟨rfl, hx, hbd, hgv⟩ := hP
    obtain ⟨scr, harrAt, hlist, hof, hsmall⟩ := hx
    obtain ⟨hcb, hkn, -, -⟩ := State.arrayAt?_spec harrAt
    have hown : s.vm.findClass R_law = some m.cls := findClass_of_methodNamed B.named
    have hts0 : ∀ c ∈ (Jvm.Cond.code x code maxLocals ret :: tables_1), c.before #[Value.ref b] s = true := atoms_spec (ws := Jvm.Cond.code x code maxLocals ret :: tables_1) B.pre
    have hts : ∀ w ∈ lw_tbl, w.before #[Value.ref b] s = true := k2_hts_sels lw_privs (fun w hw => hts0 w (List.mem_cons_of_mem _ hw)) lw_privs_ok
    have hml : c.maxLocals = 4 := B.maxLocals_eq (hts0 _ List.mem_cons_self)
    have X₀ : Stand p l e room_1 s m #[Value.ref b] below meth c s₁ [] 0 0 := Stand.of_body B
    have hh0 : s₁.heap = s.heap := by rw [B.state]; rfl
    have hsz : scr.slots.size = xs.length := by rw [← Array.length_toList, hlist, List.length_map]
    have hval : ∀ j : Nat, j < xs.length → scr.slots[j]? = some (.int (xs.getD j 0)) := fun j hj => by
      rw [← Array.getElem?_toList, hlist]
      simp [hj]
    have hbl : b < s.heap.size := (Array.getElem?_eq_some_iff.mp hcb).1
    have hX : va_X b xs.length (fun j => xs.getD j 0) s s.heap := ⟨scr, hcb, hof, hkn, hsz, hval⟩
    have K : W p l e room_1 s m #[Value.ref b] below meth c s₁.heap [] 0 0 (lw_Z below #[Value.ref b] s) (entryFrame m ([Value.ref b] : List Value).toArray 4) := by
      rw [hh0]
      exact whole_start l hflags hbd (name_of_methodNamed B.named B.method).1 ⟨B.exec, B.bytes, B.returns, hml, hown, hts, hX, hbl, B.notSynchronized, hgv⟩
    obtain ⟨t, a1, o, b1, b2, b3⟩ := K s₁ rfl X₀
    exact ⟨t, o, a1, b1, b2, b3⟩
theorem lw_pre_spec {args : Array Value} {s : State} (h : (Jvm.Cond.and given_1 narrow_1).before args s = true) (hr : rest_1_c.before args s = true) : ∃ (b : Addr) (xs : List Int32), lw_P b xs args s := by
  have hs := flat_of_before _ h
  have hq := flat_of_before _ hr
  have hc : (Cond.count 1).before args s = true := hs _ (by decide +kernel)
  have harr : (Cond.arrayOf (.arg 0) .int).before args s = true := hs _ (by decide +kernel)
  have hle : (Cond.le (.length (.arg 0)) (.int 3072)).before args s = true := hs _ (by decide +kernel)
  have hlen : (Cond.isInt (.length (.arg 0))).before args s = true := hq _ (by decide +kernel)
  have hall : (Cond.all (.arg 0) (.isInt (.elem (.arg 0) (.index 0)))).before args s = true := hq _ (by decide +kernel)
  obtain ⟨b, xs, hb, hx⟩ := State.ints_of_pre rfl harr hlen hall
  have hsm : xs.length < 2 ^ 31 := hx.choose_spec.2.2.2
  have hev : (Term.length (.arg 0)).eval args s none [] s = some (.int xs.length.toInt32) := hx.length_eval hb
  have hv := Cond.le_ints hev (show (Term.int 3072).eval args s none [] s = some (.int 3072) from rfl)
  have hd : xs.length.toInt32 ≤ 3072 := by
    simpa [Cond.before, Cond.holds, hv] using hle
  have hN : xs.length ≤ 3072 := (Int32.ofNat_le_ofNat hsm (by decide)).mp (show Int32.ofNat xs.length ≤ Int32.ofNat 3072 from hd)
  exact ⟨b, xs, Cond.one_arg hc (show args[0]? = some (.ref b) from hb), hx, hN, h⟩
theorem lw_comes (l : Launch) (hflags : l.flags = flags0) : Comes l x (Jvm.Cond.code x code maxLocals ret :: tables_1) room_1 (fun tb e args s => Calls_1 tb e args s ∧ rest_1 tb e args s ∧ Pre_1 tb e args s)
    (fun _ _ args s o t => lw_Q args s o t) := by
  intro p e ha hc hk s m args below hf hfit hheap happ hpre
  obtain ⟨b, xs, hP⟩ := lw_pre_spec hpre.2.2 hpre.2.1
  obtain ⟨k, o, h1, h2, h3, hQ⟩ := lw_walk l hflags b xs p e ha hc hk s m args below hf ((Spec.applies_iff_loose hf).mp happ).1 hP trivial
  exact ⟨k, o, h1, h2, h3, hQ⟩
theorem lw_frame {s t : State} {o : Outcome} {args : Array Value} (h : Framed s o t [] 600000 7302250) :
    Framed s o t (fieldLocs frame_1_writes args s ++ arrayLocs frame_1_arrays args s ++ staticLocs frame_1_statics s) 600000 7302250 := h
theorem lw_limb (L : Cond) (hL : ∀ (args : Array Value) (s t : State), L.after args s (.returned (some (.int 1))) t = true) :
    ArmFor flags0 classFile x code maxLocals ret World_1 tables_1 room_1 Calls_1 rest_1 Pre_1
      (fun tb e a s o t => postC L tb e a s o t ∧ Framed s o t (fieldLocs frame_1_writes a s ++ arrayLocs frame_1_arrays a s ++ staticLocs frame_1_statics s) 600000 7302250) := by
  intro l hflags _ _ p e ha hc hk s m args below hf hfit hheap happ hpre
  obtain ⟨k, o, h1, h2, h3, rfl, hF⟩ := lw_comes l hflags p e ha hc hk s m args below hf hfit hheap happ hpre
  exact ⟨k, _, h1, h2, h3, hL args s _, lw_frame hF⟩
theorem i_vc : Claimed_1_1 ∧ Claimed_1_2 := ⟨lw_limb limb_1_1 (fun args s t => by simp [limb_1_1, Cond.after, Cond.holds, Cond.value]), lw_limb limb_1_2 (fun args s t => Cond.after_iff.mpr (by
  first | (rw [show limb_1_2 = Cond.eq .result (.int 1) from rfl, Cond.eq_ints (x := 1) (y := 1) rfl rfl]; simp; done) | (simp [limb_1_2, Cond.value, Term.eval]; done)))⟩


