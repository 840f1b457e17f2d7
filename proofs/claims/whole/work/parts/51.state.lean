/-! the state of both, in the reference's layout, and what a call answers -/
abbrev An : Type := Int32 × (Nat → Nat → Int32)
def noA (M : Nat → Nat → Int32) (k : Nat) : An := (-(nI k), upB M 6 k (M 6 k + 1))
def clX (g : ca_G) (M : Nat → Nat → Int32) (t : Nat → Int32) (B : Nat → Nat → Int32) : Prop :=
  cfG g (M 13 0) ∧ hsG g 1 (M 0) ∧ hsG g 6 (M 2) ∧ hsG g 11 t ∧ bzG g 16 B ∧ g 25 = .inr (3, [.ref 26]) ∧ (g 26 = .inr (2, [.ref 27, .int (M 13 1)]) ∧ g 27 = .inl (96, M 4)) ∧ (g 28 = .inr (2, [.ref 29, .int (M 13 2)]) ∧ g 29 = .inl (25, M 5)) ∧ g 30 = .inl (7, M 6)
theorem clX.bz {g g' : ca_G} {M : Nat → Nat → Int32} {t : Nat → Int32} {B B' : Nat → Nat → Int32} (h : clX g M t B) (f : frG g g' 16 25) (hz : bzG g' 16 B') : clX g' M t B' := by
  obtain ⟨h0, h1, h2, h3, h4, h5, h6, h7, h8⟩ := h
  exact ⟨(f 0 (by omega)).trans h0, h1.fr f (by omega), h2.fr f (by omega), h3.fr f (by omega), hz, (f 25 (by omega)).trans h5, ⟨(f 26 (by omega)).trans h6.1, (f 27 (by omega)).trans h6.2⟩, ⟨(f 28 (by omega)).trans h7.1, (f 29 (by omega)).trans h7.2⟩, (f 30 (by omega)).trans h8⟩
theorem clX.tr {g g' : ca_G} {M : Nat → Nat → Int32} {t t' : Nat → Int32} {B : Nat → Nat → Int32} (h : clX g M t B) (f : frG g g' 11 16) (ht : hsG g' 11 t') : clX g' M t' B := by
  obtain ⟨h0, h1, h2, h3, h4, h5, h6, h7, h8⟩ := h
  exact ⟨(f 0 (by omega)).trans h0, h1.fr f (by omega), h2.fr f (by omega), ht, h4.fr f (by omega), (f 25 (by omega)).trans h5, ⟨(f 26 (by omega)).trans h6.1, (f 27 (by omega)).trans h6.2⟩, ⟨(f 28 (by omega)).trans h7.1, (f 29 (by omega)).trans h7.2⟩, (f 30 (by omega)).trans h8⟩
theorem st_s (M : Nat → Nat → Int32) (i : Nat) (F : Nat → Int32) : stB M i F i = F := if_pos rfl
theorem st_n (M : Nat → Nat → Int32) {i j : Nat} (F : Nat → Int32) (h : j ≠ i) : stB M i F j = M j := if_neg h
theorem upB_st (M : Nat → Nat → Int32) (i k : Nat) (x : Int32) : upB M i k x = stB M i (upd (M i) k x) := rfl
theorem clX.hs {g g' : ca_G} {M : Nat → Nat → Int32} {t h' : Nat → Int32} {B : Nat → Nat → Int32} (h : clX g M t B) (f : frG g g' 1 6) (ht : hsG g' 1 h') : clX g' (stB M 0 h') t B := by
  obtain ⟨h0, h1, h2, h3, h4, h5, h6, h7, h8⟩ := h
  unfold clX
  rw [st_s, st_n M h' (j := 13) (by omega), st_n M h' (j := 2) (by omega), st_n M h' (j := 4) (by omega), st_n M h' (j := 5) (by omega), st_n M h' (j := 6) (by omega)]
  exact ⟨(f 0 (by omega)).trans h0, ht, h2.fr f (by omega), h3.fr f (by omega), h4.fr f (by omega), (f 25 (by omega)).trans h5, ⟨(f 26 (by omega)).trans h6.1, (f 27 (by omega)).trans h6.2⟩, ⟨(f 28 (by omega)).trans h7.1, (f 29 (by omega)).trans h7.2⟩, (f 30 (by omega)).trans h8⟩
theorem clX.kp {g g' : ca_G} {M : Nat → Nat → Int32} {t h' : Nat → Int32} {B : Nat → Nat → Int32} (h : clX g M t B) (f : frG g g' 6 11) (ht : hsG g' 6 h') : clX g' (stB M 2 h') t B := by
  obtain ⟨h0, h1, h2, h3, h4, h5, h6, h7, h8⟩ := h
  unfold clX
  rw [st_s, st_n M h' (j := 13) (by omega), st_n M h' (j := 0) (by omega), st_n M h' (j := 4) (by omega), st_n M h' (j := 5) (by omega), st_n M h' (j := 6) (by omega)]
  exact ⟨(f 0 (by omega)).trans h0, h1.fr f (by omega), ht, h3.fr f (by omega), h4.fr f (by omega), (f 25 (by omega)).trans h5, ⟨(f 26 (by omega)).trans h6.1, (f 27 (by omega)).trans h6.2⟩, ⟨(f 28 (by omega)).trans h7.1, (f 29 (by omega)).trans h7.2⟩, (f 30 (by omega)).trans h8⟩
theorem clX.rf {g g' : ca_G} {M : Nat → Nat → Int32} {t : Nat → Int32} {B : Nat → Nat → Int32} {k : Nat} {x : Int32} (h : clX g M t B) (f : frG g g' 30 31) (ht : g' 30 = .inl (7, upd (M 6) k x)) : clX g' (upB M 6 k x) t B := by
  obtain ⟨h0, h1, h2, h3, h4, h5, h6, h7, h8⟩ := h
  unfold clX
  rw [upB_s, upB_n M k x (j := 13) (by omega), upB_n M k x (j := 0) (by omega), upB_n M k x (j := 2) (by omega), upB_n M k x (j := 4) (by omega), upB_n M k x (j := 5) (by omega)]
  exact ⟨(f 0 (by omega)).trans h0, h1.fr f (by omega), h2.fr f (by omega), h3.fr f (by omega), h4.fr f (by omega), (f 25 (by omega)).trans h5, ⟨(f 26 (by omega)).trans h6.1, (f 27 (by omega)).trans h6.2⟩, ⟨(f 28 (by omega)).trans h7.1, (f 29 (by omega)).trans h7.2⟩, ht⟩
/-- the letters told anew -/
theorem clX.lt {g g' : ca_G} {M : Nat → Nat → Int32} {t F : Nat → Int32} {B : Nat → Nat → Int32} {k : Nat} (h : clX g M t B) (f : frG g g' 26 28) (ht : nbG g' 26 96 F k) : clX g' (upB (stB M 4 F) 13 1 (nI k)) t B := by
  obtain ⟨h0, h1, h2, h3, h4, h5, h6, h7, h8⟩ := h
  unfold clX
  rw [upB_s, upB_n _ _ _ (j := 0) (by omega), upB_n _ _ _ (j := 2) (by omega), upB_n _ _ _ (j := 4) (by omega), upB_n _ _ _ (j := 5) (by omega), upB_n _ _ _ (j := 6) (by omega), upd_s, upd_n _ _ (by omega), upd_n _ _ (by omega), st_s, st_n M F (j := 13) (by omega), st_n M F (j := 0) (by omega), st_n M F (j := 2) (by omega), st_n M F (j := 5) (by omega), st_n M F (j := 6) (by omega)]
  exact ⟨(f 0 (by omega)).trans h0, h1.fr f (by omega), h2.fr f (by omega), h3.fr f (by omega), h4.fr f (by omega), (f 25 (by omega)).trans h5, ht, ⟨(f 28 (by omega)).trans h7.1, (f 29 (by omega)).trans h7.2⟩, (f 30 (by omega)).trans h8⟩
/-- the row told anew -/
theorem clX.ro {g g' : ca_G} {M : Nat → Nat → Int32} {t F : Nat → Int32} {B : Nat → Nat → Int32} {k : Nat} (h : clX g M t B) (f : frG g g' 28 30) (ht : nbG g' 28 25 F k) : clX g' (upB (stB M 5 F) 13 2 (nI k)) t B := by
  obtain ⟨h0, h1, h2, h3, h4, h5, h6, h7, h8⟩ := h
  unfold clX
  rw [upB_s, upB_n _ _ _ (j := 0) (by omega), upB_n _ _ _ (j := 2) (by omega), upB_n _ _ _ (j := 4) (by omega), upB_n _ _ _ (j := 5) (by omega), upB_n _ _ _ (j := 6) (by omega), upd_s, upd_n _ _ (by omega), upd_n _ _ (by omega), st_s, st_n M F (j := 13) (by omega), st_n M F (j := 0) (by omega), st_n M F (j := 2) (by omega), st_n M F (j := 4) (by omega), st_n M F (j := 6) (by omega)]
  exact ⟨(f 0 (by omega)).trans h0, h1.fr f (by omega), h2.fr f (by omega), h3.fr f (by omega), h4.fr f (by omega), (f 25 (by omega)).trans h5, ⟨(f 26 (by omega)).trans h6.1, (f 27 (by omega)).trans h6.2⟩, ht, (f 30 (by omega)).trans h8⟩
theorem clX.fr {g g' : ca_G} {M : Nat → Nat → Int32} {t : Nat → Int32} {B : Nat → Nat → Int32} {lo hi : Nat} (h : clX g M t B) (f : frG g g' lo hi) (hl : 31 ≤ lo) : clX g' M t B := by
  obtain ⟨h0, h1, h2, h3, h4, h5, h6, h7, h8⟩ := h
  exact ⟨(f 0 (by omega)).trans h0, h1.fr f (by omega), h2.fr f (by omega), h3.fr f (by omega), h4.fr f (by omega), (f 25 (by omega)).trans h5, ⟨(f 26 (by omega)).trans h6.1, (f 27 (by omega)).trans h6.2⟩, ⟨(f 28 (by omega)).trans h7.1, (f 29 (by omega)).trans h7.2⟩, (f 30 (by omega)).trans h8⟩
/-- the same for all that later calls can show -/
def keM (M M' : Nat → Nat → Int32) : Prop := M' 0 = M 0 ∧ M' 2 = M 2 ∧ M' 4 = M 4 ∧ M' 5 = M 5 ∧ M' 6 = M 6 ∧ M' 13 0 = M 13 0 ∧ M' 13 1 = M 13 1 ∧ M' 13 2 = M 13 2 ∧ M' 13 4 = 0
theorem keM.rf {M : Nat → Nat → Int32} (h : M 13 4 = 0) : keM M M := ⟨rfl, rfl, rfl, rfl, rfl, rfl, rfl, rfl, h⟩
theorem keM.tr {M M1 M2 : Nat → Nat → Int32} (a : keM M M1) (b : keM M1 M2) : keM M M2 := by
  obtain ⟨a0, a1, a2, a3, a4, a5, a6, a7, a8⟩ := a
  obtain ⟨b0, b1, b2, b3, b4, b5, b6, b7, b8⟩ := b
  exact ⟨b0.trans a0, b1.trans a1, b2.trans a2, b3.trans a3, b4.trans a4, b5.trans a5, b6.trans a6, b7.trans a7, b8⟩
theorem keM.cl {g : ca_G} {M M' : Nat → Nat → Int32} {t : Nat → Int32} {B : Nat → Nat → Int32} (a : keM M M') (h : clX g M t B) : clX g M' t B := by
  obtain ⟨a0, a1, a2, a3, a4, a5, a6, a7, a8⟩ := a
  unfold clX at h ⊢
  rw [a0, a1, a2, a3, a4, a5, a6, a7]; exact h
theorem keM.no {M M' : Nat → Nat → Int32} (a : keM M M') (k : Nat) : keM (upB M 6 k (M 6 k + 1)) (upB M' 6 k (M' 6 k + 1)) := by
  obtain ⟨a0, a1, a2, a3, a4, a5, a6, a7, a8⟩ := a
  unfold keM
  rw [upB_s, upB_s, upB_n _ _ _ (j := 13) (by omega), upB_n _ _ _ (j := 0) (by omega), upB_n _ _ _ (j := 2) (by omega), upB_n _ _ _ (j := 4) (by omega), upB_n _ _ _ (j := 5) (by omega), upB_n _ _ _ (j := 13) (by omega), upB_n _ _ _ (j := 0) (by omega), upB_n _ _ _ (j := 2) (by omega), upB_n _ _ _ (j := 4) (by omega), upB_n _ _ _ (j := 5) (by omega)]
  exact ⟨a0, a1, a2, a3, by rw [a4], a5, a6, a7, a8⟩
/-- the ends of calls -/
def clP (g : ca_G) (a : An) : ca_Post := fun rr g' => rr = some (.int a.1) ∧ frG g g' 0 31 ∧ ∃ t B, clX g' a.2 t B
def reP (o : Nat) (g : ca_G) (a : An) : ca_Post := fun rr g' => rr = some (.int a.1) ∧ frG g g' o (o + 14) ∧ ∃ M', mdG g' o M' ∧ keM a.2 M'
theorem cl_end {g g' : ca_G} {a : An} {v : Int32} {M : Nat → Nat → Int32} {t : Nat → Int32} {B : Nat → Nat → Int32} (e : a = (v, M)) (f : frG g g' 0 31) (h : clX g' M t B) : clP g a (some (.int v)) g' := by
  rw [e]; exact ⟨rfl, f, t, B, h⟩
theorem re_end2 {o : Nat} {g g' : ca_G} {a : An} {v : Int32} {M M' : Nat → Nat → Int32} (e : a = (v, M)) (f : frG g g' o (o + 14)) (h : mdG g' o M') (hk : keM M M') : reP o g a (some (.int v)) g' := by
  rw [e]; exact ⟨rfl, f, M', h, hk⟩
/-! the checks, in one word for both -/
theorem rm_ok {x : Int32} (h : ¬ rmB x = 0) : ∃ r, r < 25 ∧ x = nI r := by
  unfold rmB at h
  by_cases h1 : x < 0
  · rw [if_pos h1] at h; exact absurd rfl h
  · by_cases h2 : (25 : Int32) ≤ x
    · rw [if_neg h1, if_pos h2] at h; exact absurd rfl h
    · have a := Int32.not_lt.mp h1
      have b := Int32.not_le.mp h2
      rw [Int32.le_iff_toInt_le, show (0 : Int32).toInt = 0 from rfl] at a
      rw [Int32.lt_iff_toInt_lt, show (25 : Int32).toInt = 25 from rfl] at b
      refine ⟨x.toInt.toNat, by omega, Int32.toInt_inj.mp ?_⟩
      rw [nI_toInt (by omega)]; omega
theorem i5_1 {a b : Int32} {n : Int} (ha : a.toInt = n) (hb : b.toInt = n + 1) (x : Int32) : a < x ↔ b ≤ x := by
  rw [Int32.lt_iff_toInt_lt, Int32.le_iff_toInt_le]; omega
theorem in_rm (x : Int32) : inB x 0 24 = rmB x := by
  unfold inB rmB
  have := i5_1 (a := 24) (b := 25) rfl rfl x
  by_cases h : x < 0
  · rw [if_pos h, if_pos h]
  · rw [if_neg h, if_neg h]
    by_cases h2 : (25 : Int32) ≤ x
    · rw [if_pos h2, if_pos (this.mpr h2)]
    · rw [if_neg h2, if_neg (mt this.mp h2)]
theorem hp_ok {h0 x : Int32} {P : Nat} (hP : h0 = nI P) (hP5 : P ≤ 5) (h : ¬ hpB h0 x = 0) : ∃ p, p < P ∧ x = nI p := by
  unfold hpB at h
  by_cases h1 : x < 0
  · rw [if_pos h1] at h; exact absurd rfl h
  · by_cases h2 : h0 ≤ x
    · rw [if_neg h1, if_pos h2] at h; exact absurd rfl h
    · have a := Int32.not_lt.mp h1
      have b := Int32.not_le.mp h2
      rw [Int32.le_iff_toInt_le, show (0 : Int32).toInt = 0 from rfl] at a
      rw [hP, Int32.lt_iff_toInt_lt, nI_toInt (by omega)] at b
      refine ⟨x.toInt.toNat, by omega, Int32.toInt_inj.mp ?_⟩
      rw [nI_toInt (by omega)]; omega
theorem in_hp {h0 : Int32} {P : Nat} (hP : h0 = nI P) (hP5 : P ≤ 5) (x : Int32) : inB x 0 (h0 - 1) = hpB h0 x := by
  unfold inB hpB
  by_cases h : x < 0
  · rw [if_pos h, if_pos h]
  · rw [if_neg h, if_neg h]
    have e : (h0 - 1).toInt = (P : Int) - 1 := by
      rw [hP]
      have : ∀ P, P ≤ 5 → (nI P - 1).toInt = (P : Int) - 1 := by decide
      exact this P hP5
    have e0 : h0.toInt = (P : Int) := by rw [hP, nI_toInt (by omega)]
    have key : h0 - 1 < x ↔ h0 ≤ x := by rw [Int32.lt_iff_toInt_lt, Int32.le_iff_toInt_le, e, e0]; omega
    by_cases h2 : h0 ≤ x
    · rw [if_pos h2, if_pos (key.mpr h2)]
    · rw [if_neg h2, if_neg (mt key.mp h2), if_neg]
      have b := Int32.not_le.mp h2
      rw [Int32.lt_iff_toInt_lt, e0] at b
      rw [Int32.le_iff_toInt_le, show (5 : Int32).toInt = 5 from rfl]; omega
theorem sk_ok {h0 x : Int32} {P : Nat} (hP : h0 = nI P) (hP5 : P ≤ 5) (h : ¬ skM h0 x = 0) : ∃ a, a < 5 ∧ x = nI a := by
  unfold skM at h
  by_cases h1 : h0 = 0
  · rw [if_pos h1] at h
    by_cases h2 : x = 0
    · exact ⟨0, by omega, h2⟩
    · rw [if_neg h2] at h; exact absurd rfl h
  · rw [if_neg h1] at h
    obtain ⟨p, a, b⟩ := hp_ok hP hP5 h
    exact ⟨p, by omega, b⟩
theorem sk_eq {h0 : Int32} {P : Nat} (hP : h0 = nI P) (hP5 : P ≤ 5) (x : Int32) : skB h0 x = skM h0 x := by
  unfold skB skM
  rw [in_hp hP hP5]
  by_cases h1 : h0 = 0
  · rw [if_pos h1]
    have : hpB h0 x = 0 := by
      unfold hpB
      by_cases h : x < 0
      · rw [if_pos h]
      · rw [if_neg h, if_pos (by rw [h1]; exact Int32.not_lt.mp h)]
    rw [if_pos this]
  · rw [if_neg h1]
    have hp0 : P ≠ 0 := fun z => h1 (by rw [hP, z]; rfl)
    by_cases h : x = 0
    · have e : hpB h0 x = 1 := by rw [h, show (0 : Int32) = nI 0 from rfl]; exact hpB_ok hP hP5 (by omega)
      rw [e, if_neg (by decide)]
    · have two : hpB h0 x = 0 ∨ hpB h0 x = 1 := by unfold hpB; split <;> first | exact Or.inl rfl | (split <;> first | exact Or.inl rfl | (split <;> first | exact Or.inl rfl | exact Or.inr rfl))
      rcases two with e | e
      · rw [e, if_pos rfl, if_neg h]
      · rw [e, if_neg (by decide)]
def b01 (w : Int32) : Int32 := if w = 0 then 1 else if w = 1 then 1 else 0
theorem in_01 (w : Int32) : inB w 0 1 = b01 w := by
  unfold inB b01
  by_cases h0 : w = 0
  · rw [if_pos h0, h0]; rfl
  · by_cases h1 : w = 1
    · rw [if_neg h0, if_pos h1, h1]; rfl
    · rw [if_neg h0, if_neg h1]
      have a : w.toInt ≠ 0 := fun z => h0 (Int32.toInt_inj.mp z)
      have b : w.toInt ≠ 1 := fun z => h1 (Int32.toInt_inj.mp z)
      by_cases h : w < 0
      · rw [if_pos h]
      · rw [if_neg h, if_pos]
        have c := Int32.not_lt.mp h
        rw [Int32.le_iff_toInt_le, show (0 : Int32).toInt = 0 from rfl] at c
        rw [Int32.lt_iff_toInt_lt, show (1 : Int32).toInt = 1 from rfl]; omega
/-! a house as it may be -/
def wfH (h : Nat → Int32) (P : Nat) : Prop := h 0 = nI P ∧ P ≤ 5 ∧ (∀ r, r < 25 → ∃ k, k ≤ 5 ∧ h (2 + r) = nI k) ∧ (∀ r, r < 25 → ∃ f, f ≤ 9 ∧ h (27 + r) = nI f) ∧ ∀ p, p < P → ∃ s, 1 ≤ s ∧ s ≤ 9 ∧ h (52 + p) = nI s
theorem wt_all : ∀ k, k ≤ 5 → ∀ f, f ≤ 9 → ∃ w, w ≤ 30 ∧ wtK (nI k) (nI f) = nI w := by decide +kernel
theorem wf_wt {h : Nat → Int32} {P : Nat} (w : wfH h P) {r : Nat} (hr : r < 25) : ∃ v, v ≤ 30 ∧ wtH h r = nI v := by
  obtain ⟨k, hk, ek⟩ := w.2.2.1 r hr
  obtain ⟨f, hf, ef⟩ := w.2.2.2.1 r hr
  obtain ⟨v, hv, e⟩ := wt_all k hk f hf
  exact ⟨v, hv, by rw [wtH, kdH, fgH, ek, ef, e]⟩
theorem wf_ok {h : Nat → Int32} {P : Nat} (w : wfH h P) : okH h := by
  intro r hr
  obtain ⟨v, hv, e⟩ := wf_wt w hr
  rw [e, nI_toInt (by omega)]; omega
theorem wf_sh {h : Nat → Int32} {P : Nat} (w : wfH h P) : ∀ p, p < P → ¬ h (52 + p) ≤ 0 := by
  intro p hp
  obtain ⟨s, h1, h9, e⟩ := w.2.2.2.2 p hp
  rw [e, Int32.le_iff_toInt_le, nI_toInt (by omega), show (0 : Int32).toInt = 0 from rfl]; omega
/-- what burns is worth little -/
theorem wS_le {h : Nat → Int32} {P : Nat} (w : wfH h P) (r0 tn : Nat) (tu : Nat → Nat) (x : Int32) : ∃ v, v ≤ 750 ∧ wS h r0 tn tu x = nI v := by
  have key : ∀ n, n ≤ 25 → ∃ v, v ≤ 30 * n ∧ smI (bwF (buS h r0 tn tu x) h) n = nI v := by
    intro n
    induction n with
    | zero => intro _; exact ⟨0, by omega, rfl⟩
    | succ n ih =>
      intro hn
      obtain ⟨v, hv, e⟩ := ih (by omega)
      rw [smI, e, bwF]
      by_cases z : buS h r0 tn tu x n < 0
      · rw [if_pos z]; exact ⟨v, by omega, by rw [Int32.add_zero]⟩
      · rw [if_neg z]
        obtain ⟨u, hu, eu⟩ := wf_wt w (r := n) (by omega)
        have eu2 : wtK (h (2 + n)) (h (27 + n)) = nI u := eu
        exact ⟨v + u, by omega, by rw [eu2, nI_add]⟩
  obtain ⟨v, hv, e⟩ := key 25 (Nat.le_refl _)
  exact ⟨v, by omega, e⟩
