/-! the reference's public methods: the small ones -/
set_option maxRecDepth 100000 in
set_option maxHeartbeats 4000000 in
theorem c_X6_clear (l : Launch) (N : Nat) (g : ca_G) (o : Nat) (M : Nat → Nat → Int32) (hm : mdG g o M) (ho : o + 14 ≤ N) : ca_Ct l yX6_clear cX6_clear 2 (some .int) 0 0 0 N 1000000 [.ref o] g (fun rr g' => rr = some (.int (M 13 2)) ∧ mdG g' o (upB M 13 2 0) ∧ frG g g' o (o + 14)) := by
  refine ca_intro (by decide) (Nat.le_of_ble_eq_true rfl) (fun X hX hN => ?_)
  show X 0 [_, none] [] N 1000000 g
  have hfr : frG g g o (o + 14) := frG.rf
  obtain ⟨c0, c1, c2, c3, c4, c5, c6, c7, c8, c9, c10, c11, c12, c13⟩ := id hm
  refine ca_aload_n hX (q := 1) 0 rfl rfl rfl dX6_clear_0 ?_
  refine ca_getf hX (q := 4) cl_X6 9 (by decide) w_fl_X6_190 (by omega) c0 rfl rfl dX6_clear_1 ?_
  refine ca_istore_n hX (q := 5) 1 rfl (ls' := [_, _]) (Nat.le_of_ble_eq_true rfl) (Nat.le_of_ble_eq_true rfl) (Or.inr rfl) rfl rfl dX6_clear_4 ?_
  refine ca_aload_n hX (q := 6) 0 rfl rfl rfl dX6_clear_5 ?_
  refine ca_iconst hX (q := 7) k_iconst_0 rfl dX6_clear_6 ?_
  refine ca_puti hX (q := 10) (fs' := [_, _, _, _, _, _, _, _, _, _, _, _, _, _, _, _, _, _, _, _]) cl_X6 9 (by decide) w_fl_X6_190 rfl rfl (by omega) hN c0 (Nat.le_of_ble_eq_true rfl) rfl rfl dX6_clear_7 (fun g hE hF => ?_)
  have hm := md_s2 hm hE hF
  obtain ⟨c0, c1, c2, c3, c4, c5, c6, c7, c8, c9, c10, c11, c12, c13⟩ := id hm
  have hfr := frG.tr hfr (fun j hj => hF j (by omega))
  refine ca_iload_n hX (q := 11) 1 rfl rfl rfl dX6_clear_10 ?_
  refine ca_iret hX rfl rfl rfl rfl dX6_clear_11 ?_
  exact ⟨rfl, hm, hfr⟩

