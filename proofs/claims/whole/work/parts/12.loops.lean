/-! loops over a house -/
def sayM (h : Nat → Int32) (p : Nat) : Nat → Int32
  | 0 => 0
  | n + 1 => if knH h p n < ndH h n then sayM h p n else sayM h p n ||| (1 <<< (nI n &&& 31))
def andM (f : Nat → Int32) (a : Int32) : Nat → Int32
  | 0 => a
  | n + 1 => andM f a n &&& f n
def orM (f : Nat → Int32) : Nat → Int32
  | 0 => 0
  | n + 1 => orM f n ||| f n
def sureM (h : Nat → Int32) (P : Nat) : Int32 := bcI (andM (fun p => sayM h p 25) (if h 0 = 0 then 0 else 33554431) P)
def someM (h : Nat → Int32) (P : Nat) : Int32 := bcI (orM (fun p => sayM h p 25) P)
def wallM (h : Nat → Int32) (r : Nat) : Int32 := if kdH h r = 4 ∨ kdH h r = 5 then 1 else 0
def dcI (x : Int32) : Int32 := if 0 < x - 1 then x - 1 else 0
def fgM (h : Nat → Int32) (p n : Nat) : Nat → Int32 := fun j => if 57 + 25 * p ≤ j ∧ j < 57 + 25 * p + n then dcI (h j) else h j
theorem fgM_0 (h : Nat → Int32) (p : Nat) : fgM h p 0 = h := by
  funext j; unfold fgM; rw [if_neg (by omega)]
theorem fgM_s (h : Nat → Int32) (p n : Nat) : upd (fgM h p n) (57 + (25 * p + n)) (dcI (fgM h p n (57 + (25 * p + n)))) = fgM h p (n + 1) := by
  funext j
  by_cases e : j = 57 + (25 * p + n)
  · subst e; rw [upd_s]; unfold fgM; rw [if_neg (by omega), if_pos (by omega)]
  · rw [upd_n _ _ e]; unfold fgM
    by_cases q : 57 + 25 * p ≤ j ∧ j < 57 + 25 * p + n
    · rw [if_pos q, if_pos (by omega)]
    · rw [if_neg q, if_neg (by omega)]
theorem fgM_lo (h : Nat → Int32) (p n : Nat) {j : Nat} (hj : j < 57) : fgM h p n j = h j := by unfold fgM; rw [if_neg (by omega)]
/-- those whose turn it is forget, one by one; the night is told already -/
def ngM (h : Nat → Int32) : Nat → (Nat → Int32)
  | 0 => h
  | p + 1 => if ngM h p (52 + p) ≤ 0 then ngM h p else if ¬ (ngM h p 1 - ngM h p 1 / ngM h p (52 + p) * ngM h p (52 + p) = 0) then ngM h p else fgM (ngM h p) p 25
theorem ngM_lo (h : Nat → Int32) {j : Nat} (hj : j < 57) : ∀ p, ngM h p j = h j
  | 0 => rfl
  | p + 1 => by
    rw [ngM]
    split
    · exact ngM_lo h hj p
    · split
      · exact ngM_lo h hj p
      · rw [fgM_lo _ _ _ hj]; exact ngM_lo h hj p
def nsM (P : Nat) (h : Nat → Int32) : Nat → Int32 := ngM (upd h 1 (h 1 + 1)) P
def pnM (P : Nat) (h : Nat → Int32) : Nat → (Nat → Int32)
  | 0 => h
  | n + 1 => nsM P (pnM P h n)
theorem nsM_0 (P : Nat) (h : Nat → Int32) : nsM P h 0 = h 0 := by unfold nsM; rw [ngM_lo _ (by omega), upd_n _ _ (by omega)]
theorem pnM_0 (P : Nat) (h : Nat → Int32) : ∀ n, pnM P h n 0 = h 0
  | 0 => rfl
  | n + 1 => by rw [pnM, nsM_0]; exact pnM_0 P h n
def tkM (h : Nat → Int32) (P : Nat) (v : Int32) (n : Nat) : Nat → Int32 := fun j => if j = 0 then nI (P + 1) else if j = 52 + P then v else if 57 + 25 * P ≤ j ∧ j < 57 + 25 * P + n then 0 else h j

set_option maxRecDepth 100000 in
set_option maxHeartbeats 4000000 in
theorem c_X1_allWorth (l : Launch) (N : Nat) (g : ca_G) (b : Nat) (h : Nat → Int32) (hh : hsG g b h) (hb : b + 5 ≤ N) : ca_Ct l yX1_allWorth cX1_allWorth 3 (some .int) 3 0 0 N 1000000 [.ref b] g (ca_pi (smI (wtH h) 25) g) := by
  refine ca_intro (by decide) (Nat.le_of_ble_eq_true rfl) (fun X hX hN => ?_)
  show X 0 [_, none, none] [] N 1000000 g
  obtain ⟨h0, h1, h2, h3, h4⟩ := id hh
  have loop : ∀ (n i : Nat), i + n = 25 → X 4 [some (.ref b), some (.int (smI (wtH h) i)), some (.int (nI i))] [] N 1000000 g := by
    intro n
    induction n with
    | zero =>
      intro i hi
      obtain rfl : i = 25 := by omega
      refine ca_iload_n hX (q := 5) 2 rfl rfl rfl dX1_allWorth_4 ?_
      refine ca_bipush hX (q := 7) k_bipush_25 rfl dX1_allWorth_5 ?_
      refine ca_icmp_ge hX (q := 10) 24 rfl rfl dX1_allWorth_7 (fun _ => ?_) (fun z => absurd (nI_le (a := 25) (b := 25) (by omega) (by omega)) z)
      refine ca_iload_n hX (q := 25) 1 rfl rfl rfl dX1_allWorth_24 ?_
      refine ca_iret hX rfl rfl rfl rfl dX1_allWorth_25 ?_
      exact ⟨rfl, rfl⟩
    | succ n ih =>
      intro i hi
      refine ca_iload_n hX (q := 5) 2 rfl rfl rfl dX1_allWorth_4 ?_
      refine ca_bipush hX (q := 7) k_bipush_25 rfl dX1_allWorth_5 ?_
      refine ca_icmp_ge hX (q := 10) 24 rfl rfl dX1_allWorth_7 (fun z => absurd z (nI_ge (a := i) (b := 25) (by omega) (by omega))) (fun _ => ?_)
      refine ca_iload_n hX (q := 11) 1 rfl rfl rfl dX1_allWorth_10 ?_
      refine ca_aload_n hX (q := 12) 0 rfl rfl rfl dX1_allWorth_11 ?_
      refine ca_iload_n hX (q := 13) 2 rfl rfl rfl dX1_allWorth_12 ?_
      refine ca_cVi hX (q := 16) y_X1_worthOf w_ml_X1_92 (by omega) hN h0 (c_X1_worthOf l N g b h hh hb i (by omega)) (by decide) rfl (Nat.le_of_ble_eq_true rfl) rfl dX1_allWorth_13 rfl ?_
      refine ca_iadd hX (q := 17) rfl dX1_allWorth_16 ?_
      refine ca_istore_n hX (q := 18) 1 rfl (ls' := [_, _, _]) (Nat.le_of_ble_eq_true rfl) (Nat.le_of_ble_eq_true rfl) (Or.inr rfl) rfl rfl dX1_allWorth_17 ?_
      refine ca_iinc hX (q := 21) (ls' := [_, _, _]) k_iconst_1 rfl (Nat.le_of_ble_eq_true rfl) (Or.inr rfl) rfl rfl dX1_allWorth_18 ?_
      refine ca_goto hX 4 rfl dX1_allWorth_21 ?_
      rw [nI_1]
      exact ih (i + 1) (by omega)
  refine ca_iconst hX (q := 1) k_iconst_0 rfl dX1_allWorth_0 ?_
  refine ca_istore_n hX (q := 2) 1 rfl (ls' := [_, _, _]) (Nat.le_of_ble_eq_true rfl) (Nat.le_of_ble_eq_true rfl) (Or.inr rfl) rfl rfl dX1_allWorth_1 ?_
  refine ca_iconst hX (q := 3) k_iconst_0 rfl dX1_allWorth_2 ?_
  refine ca_istore_n hX (q := 4) 2 rfl (ls' := [_, _, _]) (Nat.le_of_ble_eq_true rfl) (Nat.le_of_ble_eq_true rfl) (Or.inr rfl) rfl rfl dX1_allWorth_3 ?_
  exact loop 25 0 (by omega)

set_option maxRecDepth 100000 in
set_option maxHeartbeats 4000000 in
theorem c_X1_walls (l : Launch) (N : Nat) (g : ca_G) (b : Nat) (h : Nat → Int32) (hh : hsG g b h) (hb : b + 5 ≤ N) : ca_Ct l yX1_walls cX1_walls 3 (some .int) 2 0 0 N 1000000 [.ref b] g (ca_pi (smI (wallM h) 25) g) := by
  refine ca_intro (by decide) (Nat.le_of_ble_eq_true rfl) (fun X hX hN => ?_)
  show X 0 [_, none, none] [] N 1000000 g
  obtain ⟨h0, h1, h2, h3, h4⟩ := id hh
  have loop : ∀ (n i : Nat), i + n = 25 → X 4 [some (.ref b), some (.int (smI (wallM h) i)), some (.int (nI i))] [] N 1000000 g := by
    intro n
    induction n with
    | zero =>
      intro i hi
      obtain rfl : i = 25 := by omega
      refine ca_iload_n hX (q := 5) 2 rfl rfl rfl dX1_walls_4 ?_
      refine ca_bipush hX (q := 7) k_bipush_25 rfl dX1_walls_5 ?_
      refine ca_icmp_ge hX (q := 10) 37 rfl rfl dX1_walls_7 (fun _ => ?_) (fun z => absurd (nI_le (a := 25) (b := 25) (by omega) (by omega)) z)
      refine ca_iload_n hX (q := 38) 1 rfl rfl rfl dX1_walls_37 ?_
      refine ca_iret hX rfl rfl rfl rfl dX1_walls_38 ?_
      exact ⟨rfl, rfl⟩
    | succ n ih =>
      intro i hi
      refine ca_iload_n hX (q := 5) 2 rfl rfl rfl dX1_walls_4 ?_
      refine ca_bipush hX (q := 7) k_bipush_25 rfl dX1_walls_5 ?_
      refine ca_icmp_ge hX (q := 10) 37 rfl rfl dX1_walls_7 (fun z => absurd z (nI_ge (a := i) (b := 25) (by omega) (by omega))) (fun _ => ?_)
      refine ca_aload_n hX (q := 11) 0 rfl rfl rfl dX1_walls_10 ?_
      refine ca_iload_n hX (q := 12) 2 rfl rfl rfl dX1_walls_11 ?_
      refine ca_cVi hX (q := 15) y_X1_kindOf w_ml_X1_41 (by omega) hN h0 (c_X1_kindOf l N g b h hh hb i (by omega)) (by decide) rfl (by decide) rfl dX1_walls_12 rfl ?_
      refine ca_iconst hX (q := 16) k_iconst_4 rfl dX1_walls_15 ?_
      refine ca_icmp_eq hX (q := 19) 28 rfl rfl dX1_walls_16 (fun c16 => ?_) (fun c16 => ?_)
      · refine ca_iinc hX (q := 31) (ls' := [_, _, _]) k_iconst_1 rfl (Nat.le_of_ble_eq_true rfl) (Or.inr rfl) rfl rfl dX1_walls_28 ?_
        refine ca_iinc hX (q := 34) (ls' := [_, _, _]) k_iconst_1 rfl (Nat.le_of_ble_eq_true rfl) (Or.inr rfl) rfl rfl dX1_walls_31 ?_
        refine ca_goto hX 4 rfl dX1_walls_34 ?_
        rw [nI_1, show smI (wallM h) i + 1 = smI (wallM h) (i + 1) by rw [smI, wallM, if_pos (by simp [*])]]
        exact ih (i + 1) (by omega)
      · refine ca_aload_n hX (q := 20) 0 rfl rfl rfl dX1_walls_19 ?_
        refine ca_iload_n hX (q := 21) 2 rfl rfl rfl dX1_walls_20 ?_
        refine ca_cVi hX (q := 24) y_X1_kindOf w_ml_X1_41 (by omega) hN h0 (c_X1_kindOf l N g b h hh hb i (by omega)) (by decide) rfl (by decide) rfl dX1_walls_21 rfl ?_
        refine ca_iconst hX (q := 25) k_iconst_5 rfl dX1_walls_24 ?_
        refine ca_icmp_ne hX (q := 28) 31 rfl rfl dX1_walls_25 (fun c25 => ?_) (fun c25 => ?_)
        · refine ca_iinc hX (q := 34) (ls' := [_, _, _]) k_iconst_1 rfl (Nat.le_of_ble_eq_true rfl) (Or.inr rfl) rfl rfl dX1_walls_31 ?_
          refine ca_goto hX 4 rfl dX1_walls_34 ?_
          rw [nI_1, show smI (wallM h) i = smI (wallM h) (i + 1) by rw [smI, wallM, if_neg (by simp [*])]; simp]
          exact ih (i + 1) (by omega)
        · refine ca_iinc hX (q := 31) (ls' := [_, _, _]) k_iconst_1 rfl (Nat.le_of_ble_eq_true rfl) (Or.inr rfl) rfl rfl dX1_walls_28 ?_
          refine ca_iinc hX (q := 34) (ls' := [_, _, _]) k_iconst_1 rfl (Nat.le_of_ble_eq_true rfl) (Or.inr rfl) rfl rfl dX1_walls_31 ?_
          refine ca_goto hX 4 rfl dX1_walls_34 ?_
          rw [nI_1, show smI (wallM h) i + 1 = smI (wallM h) (i + 1) by rw [smI, wallM, if_pos (by simp [*])]]
          exact ih (i + 1) (by omega)
  refine ca_iconst hX (q := 1) k_iconst_0 rfl dX1_walls_0 ?_
  refine ca_istore_n hX (q := 2) 1 rfl (ls' := [_, _, _]) (Nat.le_of_ble_eq_true rfl) (Nat.le_of_ble_eq_true rfl) (Or.inr rfl) rfl rfl dX1_walls_1 ?_
  refine ca_iconst hX (q := 3) k_iconst_0 rfl dX1_walls_2 ?_
  refine ca_istore_n hX (q := 4) 2 rfl (ls' := [_, _, _]) (Nat.le_of_ble_eq_true rfl) (Nat.le_of_ble_eq_true rfl) (Or.inr rfl) rfl rfl dX1_walls_3 ?_
  exact loop 25 0 (by omega)

set_option maxRecDepth 100000 in
set_option maxHeartbeats 4000000 in
theorem c_X1_roomsSayableBy (l : Launch) (N : Nat) (g : ca_G) (b : Nat) (h : Nat → Int32) (hh : hsG g b h) (hb : b + 5 ≤ N) (P : Nat) (hP : h 0 = nI P) (hP5 : P ≤ 5) (p : Nat) (hp : p < P) : ca_Ct l yX1_roomsSayableBy cX1_roomsSayableBy 4 (some .int) 1 0 0 N 1000000 [.ref b, .int (nI p)] g (ca_pi (sayM h p 25) g) := by
  refine ca_intro (by decide) (Nat.le_of_ble_eq_true rfl) (fun X hX hN => ?_)
  show X 0 [_, _, none, none] [] N 1000000 g
  obtain ⟨h0, h1, h2, h3, h4⟩ := id hh
  have loop : ∀ (n i : Nat), i + n = 25 → X 14 [some (.ref b), some (.int (nI p)), some (.int (sayM h p i)), some (.int (nI i))] [] N 1000000 g := by
    intro n
    induction n with
    | zero =>
      intro i hi
      obtain rfl : i = 25 := by omega
      refine ca_iload_n hX (q := 15) 3 rfl rfl rfl dX1_roomsSayableBy_14 ?_
      refine ca_bipush hX (q := 17) k_bipush_25 rfl dX1_roomsSayableBy_15 ?_
      refine ca_icmp_ge hX (q := 20) 55 rfl rfl dX1_roomsSayableBy_17 (fun _ => ?_) (fun z => absurd (nI_le (a := 25) (b := 25) (by omega) (by omega)) z)
      refine ca_iload_n hX (q := 56) 2 rfl rfl rfl dX1_roomsSayableBy_55 ?_
      refine ca_iret hX rfl rfl rfl rfl dX1_roomsSayableBy_56 ?_
      exact ⟨rfl, rfl⟩
    | succ n ih =>
      intro i hi
      refine ca_iload_n hX (q := 15) 3 rfl rfl rfl dX1_roomsSayableBy_14 ?_
      refine ca_bipush hX (q := 17) k_bipush_25 rfl dX1_roomsSayableBy_15 ?_
      refine ca_icmp_ge hX (q := 20) 55 rfl rfl dX1_roomsSayableBy_17 (fun z => absurd z (nI_ge (a := i) (b := 25) (by omega) (by omega))) (fun _ => ?_)
      refine ca_aload_n hX (q := 21) 0 rfl rfl rfl dX1_roomsSayableBy_20 ?_
      refine ca_getf hX (q := 24) cl_X1 3 (by decide) w_fl_X1_21 (by omega) h0 rfl rfl dX1_roomsSayableBy_21 ?_
      refine ca_iload_n hX (q := 25) 1 rfl rfl rfl dX1_roomsSayableBy_24 ?_
      refine ca_bipush hX (q := 27) k_bipush_25 rfl dX1_roomsSayableBy_25 ?_
      refine ca_imul hX (q := 28) rfl dX1_roomsSayableBy_27 ?_
      refine ca_iload_n hX (q := 29) 3 rfl rfl rfl dX1_roomsSayableBy_28 ?_
      refine ca_iadd hX (q := 30) rfl dX1_roomsSayableBy_29 ?_
      refine ca_iaN hX (q := 31) (k := 25 * p + i) (by omega) h4 (by decide) (ixK (by omega) (by omega)) (by omega) rfl dX1_roomsSayableBy_30 ?_
      refine ca_aload_n hX (q := 32) 0 rfl rfl rfl dX1_roomsSayableBy_31 ?_
      refine ca_getf hX (q := 35) cl_X1 0 (by decide) w_fl_X1_9 (by omega) h0 rfl rfl dX1_roomsSayableBy_32 ?_
      refine ca_iload_n hX (q := 36) 3 rfl rfl rfl dX1_roomsSayableBy_35 ?_
      refine ca_iaN hX (q := 37) (k := i) (by omega) h1 (by decide) rfl (by omega) rfl dX1_roomsSayableBy_36 ?_
      refine ca_cSi hX (q := 40) y_X2_needs w_ml_X1_45 hN (c_X2_needs l N g _) (by decide) rfl (Nat.le_of_ble_eq_true rfl) rfl dX1_roomsSayableBy_37 rfl ?_
      refine ca_icmp_lt hX (q := 43) 49 rfl rfl dX1_roomsSayableBy_40 (fun c40 => ?_) (fun c40 => ?_)
      · refine ca_iinc hX (q := 52) (ls' := [_, _, _, _]) k_iconst_1 rfl (Nat.le_of_ble_eq_true rfl) (Or.inr rfl) rfl rfl dX1_roomsSayableBy_49 ?_
        refine ca_goto hX 14 rfl dX1_roomsSayableBy_52 ?_
        have c40 : knH h p i < ndH h i := by rw [msk_in (by omega), msk_in (by omega)] at c40; exact c40
        rw [nI_1, show sayM h p i = sayM h p (i + 1) by rw [sayM, if_pos c40]]
        exact ih (i + 1) (by omega)
      · refine ca_iload_n hX (q := 44) 2 rfl rfl rfl dX1_roomsSayableBy_43 ?_
        refine ca_iconst hX (q := 45) k_iconst_1 rfl dX1_roomsSayableBy_44 ?_
        refine ca_iload_n hX (q := 46) 3 rfl rfl rfl dX1_roomsSayableBy_45 ?_
        refine ca_ishl hX (q := 47) rfl dX1_roomsSayableBy_46 ?_
        refine ca_ior hX (q := 48) rfl dX1_roomsSayableBy_47 ?_
        refine ca_istore_n hX (q := 49) 2 rfl (ls' := [_, _, _, _]) (Nat.le_of_ble_eq_true rfl) (Nat.le_of_ble_eq_true rfl) (Or.inr rfl) rfl rfl dX1_roomsSayableBy_48 ?_
        refine ca_iinc hX (q := 52) (ls' := [_, _, _, _]) k_iconst_1 rfl (Nat.le_of_ble_eq_true rfl) (Or.inr rfl) rfl rfl dX1_roomsSayableBy_49 ?_
        refine ca_goto hX 14 rfl dX1_roomsSayableBy_52 ?_
        have c40 : ¬ knH h p i < ndH h i := by rw [msk_in (by omega), msk_in (by omega)] at c40; exact c40
        rw [nI_1, show sayM h p i ||| 1 <<< (nI i &&& 31) = sayM h p (i + 1) by rw [sayM, if_neg c40]]
        exact ih (i + 1) (by omega)
  refine ca_iconst hX (q := 1) k_iconst_0 rfl dX1_roomsSayableBy_0 ?_
  refine ca_istore_n hX (q := 2) 2 rfl (ls' := [_, _, _, _]) (Nat.le_of_ble_eq_true rfl) (Nat.le_of_ble_eq_true rfl) (Or.inr rfl) rfl rfl dX1_roomsSayableBy_1 ?_
  refine ca_aload_n hX (q := 3) 0 rfl rfl rfl dX1_roomsSayableBy_2 ?_
  refine ca_iload_n hX (q := 4) 1 rfl rfl rfl dX1_roomsSayableBy_3 ?_
  refine ca_cVi hX (q := 7) y_X1_hasPerson w_ml_X1_60 (by omega) hN h0 (c_X1_hasPerson l N g b h hh hb (nI p)) (by decide) rfl (by decide) rfl dX1_roomsSayableBy_4 rfl ?_
  refine ca_if_ne hX (q := 10) 12 rfl rfl dX1_roomsSayableBy_7 (fun _ => ?_) (fun z => absurd z (by rw [hpB_ok hP hP5 hp]; decide))
  refine ca_iconst hX (q := 13) k_iconst_0 rfl dX1_roomsSayableBy_12 ?_
  refine ca_istore_n hX (q := 14) 3 rfl (ls' := [_, _, _, _]) (Nat.le_of_ble_eq_true rfl) (Nat.le_of_ble_eq_true rfl) (Or.inr rfl) rfl rfl dX1_roomsSayableBy_13 ?_
  exact loop 25 0 (by omega)

set_option maxRecDepth 100000 in
set_option maxHeartbeats 4000000 in
theorem c_X1_somebodysRooms (l : Launch) (N : Nat) (g : ca_G) (b : Nat) (h : Nat → Int32) (hh : hsG g b h) (hb : b + 5 ≤ N) (P : Nat) (hP : h 0 = nI P) (hP5 : P ≤ 5) : ca_Ct l yX1_somebodysRooms cX1_somebodysRooms 3 (some .int) 2 0 0 N 1000000 [.ref b] g (ca_pi (someM h P) g) := by
  refine ca_intro (by decide) (Nat.le_of_ble_eq_true rfl) (fun X hX hN => ?_)
  show X 0 [_, none, none] [] N 1000000 g
  obtain ⟨h0, h1, h2, h3, h4⟩ := id hh
  have loop : ∀ (n i : Nat), i + n = P → X 4 [some (.ref b), some (.int (orM (fun p => sayM h p 25) i)), some (.int (nI i))] [] N 1000000 g := by
    intro n
    induction n with
    | zero =>
      intro i hi
      obtain rfl : i = P := by omega
      refine ca_iload_n hX (q := 5) 2 rfl rfl rfl dX1_somebodysRooms_4 ?_
      refine ca_aload_n hX (q := 6) 0 rfl rfl rfl dX1_somebodysRooms_5 ?_
      refine ca_getf hX (q := 9) cl_X1 4 (by decide) w_fl_X1_24 (by omega) h0 rfl rfl dX1_somebodysRooms_6 ?_
      refine ca_icmp_ge hX (q := 12) 26 rfl rfl dX1_somebodysRooms_9 (fun _ => ?_) (fun z => absurd (by rw [hP]; exact nI_le (Nat.le_refl _) (by omega)) z)
      refine ca_iload_n hX (q := 27) 1 rfl rfl rfl dX1_somebodysRooms_26 ?_
      refine ca_cSi hX (q := 30) y_J6_bitCount_0f7a4 w_ml_X1_87 hN (c_J6_bitCount l N g _) (by decide) rfl (by decide) rfl dX1_somebodysRooms_27 rfl ?_
      refine ca_iret hX rfl rfl rfl rfl dX1_somebodysRooms_30 ?_
      exact ⟨rfl, rfl⟩
    | succ n ih =>
      intro i hi
      refine ca_iload_n hX (q := 5) 2 rfl rfl rfl dX1_somebodysRooms_4 ?_
      refine ca_aload_n hX (q := 6) 0 rfl rfl rfl dX1_somebodysRooms_5 ?_
      refine ca_getf hX (q := 9) cl_X1 4 (by decide) w_fl_X1_24 (by omega) h0 rfl rfl dX1_somebodysRooms_6 ?_
      refine ca_icmp_ge hX (q := 12) 26 rfl rfl dX1_somebodysRooms_9 (fun z => absurd z (by rw [hP]; exact nI_ge (a := i) (b := P) (by omega) (by omega))) (fun _ => ?_)
      refine ca_iload_n hX (q := 13) 1 rfl rfl rfl dX1_somebodysRooms_12 ?_
      refine ca_aload_n hX (q := 14) 0 rfl rfl rfl dX1_somebodysRooms_13 ?_
      refine ca_iload_n hX (q := 15) 2 rfl rfl rfl dX1_somebodysRooms_14 ?_
      refine ca_cVi hX (q := 18) y_X1_roomsSayableBy w_ml_X1_84 (by omega) hN h0 (c_X1_roomsSayableBy l N g b h hh hb P hP hP5 i (by omega)) (by decide) rfl (Nat.le_of_ble_eq_true rfl) rfl dX1_somebodysRooms_15 rfl ?_
      refine ca_ior hX (q := 19) rfl dX1_somebodysRooms_18 ?_
      refine ca_istore_n hX (q := 20) 1 rfl (ls' := [_, _, _]) (Nat.le_of_ble_eq_true rfl) (Nat.le_of_ble_eq_true rfl) (Or.inr rfl) rfl rfl dX1_somebodysRooms_19 ?_
      refine ca_iinc hX (q := 23) (ls' := [_, _, _]) k_iconst_1 rfl (Nat.le_of_ble_eq_true rfl) (Or.inr rfl) rfl rfl dX1_somebodysRooms_20 ?_
      refine ca_goto hX 4 rfl dX1_somebodysRooms_23 ?_
      rw [nI_1]
      exact ih (i + 1) (by omega)
  refine ca_iconst hX (q := 1) k_iconst_0 rfl dX1_somebodysRooms_0 ?_
  refine ca_istore_n hX (q := 2) 1 rfl (ls' := [_, _, _]) (Nat.le_of_ble_eq_true rfl) (Nat.le_of_ble_eq_true rfl) (Or.inr rfl) rfl rfl dX1_somebodysRooms_1 ?_
  refine ca_iconst hX (q := 3) k_iconst_0 rfl dX1_somebodysRooms_2 ?_
  refine ca_istore_n hX (q := 4) 2 rfl (ls' := [_, _, _]) (Nat.le_of_ble_eq_true rfl) (Nat.le_of_ble_eq_true rfl) (Or.inr rfl) rfl rfl dX1_somebodysRooms_3 ?_
  exact loop P 0 (by omega)

set_option maxRecDepth 100000 in
set_option maxHeartbeats 4000000 in
theorem c_X1_sureRooms (l : Launch) (N : Nat) (g : ca_G) (b : Nat) (h : Nat → Int32) (hh : hsG g b h) (hb : b + 5 ≤ N) (P : Nat) (hP : h 0 = nI P) (hP5 : P ≤ 5) : ca_Ct l yX1_sureRooms cX1_sureRooms 3 (some .int) 2 0 0 N 1000000 [.ref b] g (ca_pi (sureM h P) g) := by
  refine ca_intro (by decide) (Nat.le_of_ble_eq_true rfl) (fun X hX hN => ?_)
  show X 0 [_, none, none] [] N 1000000 g
  obtain ⟨h0, h1, h2, h3, h4⟩ := id hh
  have loop : ∀ (n i : Nat), i + n = P → X 16 [some (.ref b), some (.int (andM (fun p => sayM h p 25) (if h 0 = 0 then (0 : Int32) else 33554431) i)), some (.int (nI i))] [] N 1000000 g := by
    intro n
    induction n with
    | zero =>
      intro i hi
      obtain rfl : i = P := by omega
      refine ca_iload_n hX (q := 17) 2 rfl rfl rfl dX1_sureRooms_16 ?_
      refine ca_aload_n hX (q := 18) 0 rfl rfl rfl dX1_sureRooms_17 ?_
      refine ca_getf hX (q := 21) cl_X1 4 (by decide) w_fl_X1_24 (by omega) h0 rfl rfl dX1_sureRooms_18 ?_
      refine ca_icmp_ge hX (q := 24) 38 rfl rfl dX1_sureRooms_21 (fun _ => ?_) (fun z => absurd (by rw [hP]; exact nI_le (Nat.le_refl _) (by omega)) z)
      refine ca_iload_n hX (q := 39) 1 rfl rfl rfl dX1_sureRooms_38 ?_
      refine ca_cSi hX (q := 42) y_J6_bitCount_0f7a4 w_ml_X1_87 hN (c_J6_bitCount l N g _) (by decide) rfl (by decide) rfl dX1_sureRooms_39 rfl ?_
      refine ca_iret hX rfl rfl rfl rfl dX1_sureRooms_42 ?_
      exact ⟨rfl, rfl⟩
    | succ n ih =>
      intro i hi
      refine ca_iload_n hX (q := 17) 2 rfl rfl rfl dX1_sureRooms_16 ?_
      refine ca_aload_n hX (q := 18) 0 rfl rfl rfl dX1_sureRooms_17 ?_
      refine ca_getf hX (q := 21) cl_X1 4 (by decide) w_fl_X1_24 (by omega) h0 rfl rfl dX1_sureRooms_18 ?_
      refine ca_icmp_ge hX (q := 24) 38 rfl rfl dX1_sureRooms_21 (fun z => absurd z (by rw [hP]; exact nI_ge (a := i) (b := P) (by omega) (by omega))) (fun _ => ?_)
      refine ca_iload_n hX (q := 25) 1 rfl rfl rfl dX1_sureRooms_24 ?_
      refine ca_aload_n hX (q := 26) 0 rfl rfl rfl dX1_sureRooms_25 ?_
      refine ca_iload_n hX (q := 27) 2 rfl rfl rfl dX1_sureRooms_26 ?_
      refine ca_cVi hX (q := 30) y_X1_roomsSayableBy w_ml_X1_84 (by omega) hN h0 (c_X1_roomsSayableBy l N g b h hh hb P hP hP5 i (by omega)) (by decide) rfl (Nat.le_of_ble_eq_true rfl) rfl dX1_sureRooms_27 rfl ?_
      refine ca_iand hX (q := 31) rfl dX1_sureRooms_30 ?_
      refine ca_istore_n hX (q := 32) 1 rfl (ls' := [_, _, _]) (Nat.le_of_ble_eq_true rfl) (Nat.le_of_ble_eq_true rfl) (Or.inr rfl) rfl rfl dX1_sureRooms_31 ?_
      refine ca_iinc hX (q := 35) (ls' := [_, _, _]) k_iconst_1 rfl (Nat.le_of_ble_eq_true rfl) (Or.inr rfl) rfl rfl dX1_sureRooms_32 ?_
      refine ca_goto hX 16 rfl dX1_sureRooms_35 ?_
      rw [nI_1]
      exact ih (i + 1) (by omega)
  refine ca_aload_n hX (q := 1) 0 rfl rfl rfl dX1_sureRooms_0 ?_
  refine ca_getf hX (q := 4) cl_X1 4 (by decide) w_fl_X1_24 (by omega) h0 rfl rfl dX1_sureRooms_1 ?_
  refine ca_if_ne hX (q := 7) 11 rfl rfl dX1_sureRooms_4 (fun c4 => ?_) (fun c4 => ?_)
  · refine ca_ldc hX (q := 13) w_k_X1_83 rfl dX1_sureRooms_11 ?_
    refine ca_istore_n hX (q := 14) 1 rfl (ls' := [_, _, _]) (Nat.le_of_ble_eq_true rfl) (Nat.le_of_ble_eq_true rfl) (Or.inr rfl) rfl rfl dX1_sureRooms_13 ?_
    refine ca_iconst hX (q := 15) k_iconst_0 rfl dX1_sureRooms_14 ?_
    refine ca_istore_n hX (q := 16) 2 rfl (ls' := [_, _, _]) (Nat.le_of_ble_eq_true rfl) (Nat.le_of_ble_eq_true rfl) (Or.inr rfl) rfl rfl dX1_sureRooms_15 ?_
    have z := loop P 0 (by omega)
    simp only [andM] at z
    first | (rw [if_neg c4] at z; exact z) | (rw [if_pos (by simpa using c4)] at z; exact z)
  · refine ca_iconst hX (q := 8) k_iconst_0 rfl dX1_sureRooms_7 ?_
    refine ca_goto hX 13 rfl dX1_sureRooms_8 ?_
    refine ca_istore_n hX (q := 14) 1 rfl (ls' := [_, _, _]) (Nat.le_of_ble_eq_true rfl) (Nat.le_of_ble_eq_true rfl) (Or.inr rfl) rfl rfl dX1_sureRooms_13 ?_
    refine ca_iconst hX (q := 15) k_iconst_0 rfl dX1_sureRooms_14 ?_
    refine ca_istore_n hX (q := 16) 2 rfl (ls' := [_, _, _]) (Nat.le_of_ble_eq_true rfl) (Nat.le_of_ble_eq_true rfl) (Or.inr rfl) rfl rfl dX1_sureRooms_15 ?_
    have z := loop P 0 (by omega)
    simp only [andM] at z
    first | (rw [if_neg c4] at z; exact z) | (rw [if_pos (by simpa using c4)] at z; exact z)

set_option maxRecDepth 100000 in
set_option maxHeartbeats 4000000 in
theorem c_X1_allKnown (l : Launch) (N : Nat) (g : ca_G) (b : Nat) (h : Nat → Int32) (hh : hsG g b h) (hb : b + 5 ≤ N) (P : Nat) (hP : h 0 = nI P) (hP5 : P ≤ 5) : ca_Ct l yX1_allKnown cX1_allKnown 4 (some .int) 2 0 0 N 1000000 [.ref b] g (ca_pi (smI (fun p => smI (knH h p) 25) P) g) := by
  refine ca_intro (by decide) (Nat.le_of_ble_eq_true rfl) (fun X hX hN => ?_)
  show X 0 [_, none, none, none] [] N 1000000 g
  obtain ⟨h0, h1, h2, h3, h4⟩ := id hh
  have loop : ∀ (n i : Nat), i + n = P → ∀ x, X 4 [some (.ref b), some (.int (smI (fun p => smI (knH h p) 25) i)), some (.int (nI i)), x] [] N 1000000 g := by
    intro n
    induction n with
    | zero =>
      intro i hi x
      obtain rfl : i = P := by omega
      refine ca_iload_n hX (q := 5) 2 rfl rfl rfl dX1_allKnown_4 ?_
      refine ca_aload_n hX (q := 6) 0 rfl rfl rfl dX1_allKnown_5 ?_
      refine ca_getf hX (q := 9) cl_X1 4 (by decide) w_fl_X1_24 (by omega) h0 rfl rfl dX1_allKnown_6 ?_
      refine ca_icmp_ge hX (q := 12) 41 rfl rfl dX1_allKnown_9 (fun _ => ?_) (fun z => absurd (by rw [hP]; exact nI_le (Nat.le_refl _) (by omega)) z)
      refine ca_iload_n hX (q := 42) 1 rfl rfl rfl dX1_allKnown_41 ?_
      refine ca_iret hX rfl rfl rfl rfl dX1_allKnown_42 ?_
      exact ⟨rfl, rfl⟩
    | succ n ih =>
      intro i hi x
      have inner : ∀ (n2 j : Nat), j + n2 = 25 → X 14 [some (.ref b), some (.int (smI (fun p => smI (knH h p) 25) i + smI (knH h i) j)), some (.int (nI i)), some (.int (nI j))] [] N 1000000 g := by
        intro n2
        induction n2 with
        | zero =>
          intro j hj
          obtain rfl : j = 25 := by omega
          refine ca_iload_n hX (q := 15) 3 rfl rfl rfl dX1_allKnown_14 ?_
          refine ca_bipush hX (q := 17) k_bipush_25 rfl dX1_allKnown_15 ?_
          refine ca_icmp_ge hX (q := 20) 35 rfl rfl dX1_allKnown_17 (fun _ => ?_) (fun z => absurd (nI_le (a := 25) (b := 25) (by omega) (by omega)) z)
          refine ca_iinc hX (q := 38) (ls' := [_, _, _, _]) k_iconst_1 rfl (Nat.le_of_ble_eq_true rfl) (Or.inr rfl) rfl rfl dX1_allKnown_35 ?_
          refine ca_goto hX 4 rfl dX1_allKnown_38 ?_
          rw [nI_1]
          exact ih (i + 1) (by omega) _
        | succ n2 ih2 =>
          intro j hj
          refine ca_iload_n hX (q := 15) 3 rfl rfl rfl dX1_allKnown_14 ?_
          refine ca_bipush hX (q := 17) k_bipush_25 rfl dX1_allKnown_15 ?_
          refine ca_icmp_ge hX (q := 20) 35 rfl rfl dX1_allKnown_17 (fun z => absurd z (nI_ge (a := j) (b := 25) (by omega) (by omega))) (fun _ => ?_)
          refine ca_iload_n hX (q := 21) 1 rfl rfl rfl dX1_allKnown_20 ?_
          refine ca_aload_n hX (q := 22) 0 rfl rfl rfl dX1_allKnown_21 ?_
          refine ca_iload_n hX (q := 23) 2 rfl rfl rfl dX1_allKnown_22 ?_
          refine ca_iload_n hX (q := 24) 3 rfl rfl rfl dX1_allKnown_23 ?_
          refine ca_cVi hX (q := 27) y_X1_knownBy w_ml_X1_95 (by omega) hN h0 (c_X1_knownBy l N g b h hh hb P hP hP5 i j (by omega) (by omega)) (by decide) rfl (Nat.le_of_ble_eq_true rfl) rfl dX1_allKnown_24 rfl ?_
          refine ca_iadd hX (q := 28) rfl dX1_allKnown_27 ?_
          refine ca_istore_n hX (q := 29) 1 rfl (ls' := [_, _, _, _]) (Nat.le_of_ble_eq_true rfl) (Nat.le_of_ble_eq_true rfl) (Or.inr rfl) rfl rfl dX1_allKnown_28 ?_
          refine ca_iinc hX (q := 32) (ls' := [_, _, _, _]) k_iconst_1 rfl (Nat.le_of_ble_eq_true rfl) (Or.inr rfl) rfl rfl dX1_allKnown_29 ?_
          refine ca_goto hX 14 rfl dX1_allKnown_32 ?_
          rw [nI_1, Int32.add_assoc]
          exact ih2 (j + 1) (by omega)
      refine ca_iload_n hX (q := 5) 2 rfl rfl rfl dX1_allKnown_4 ?_
      refine ca_aload_n hX (q := 6) 0 rfl rfl rfl dX1_allKnown_5 ?_
      refine ca_getf hX (q := 9) cl_X1 4 (by decide) w_fl_X1_24 (by omega) h0 rfl rfl dX1_allKnown_6 ?_
      refine ca_icmp_ge hX (q := 12) 41 rfl rfl dX1_allKnown_9 (fun z => absurd z (by rw [hP]; exact nI_ge (a := i) (b := P) (by omega) (by omega))) (fun _ => ?_)
      refine ca_iconst hX (q := 13) k_iconst_0 rfl dX1_allKnown_12 ?_
      refine ca_istore_n hX (q := 14) 3 rfl (ls' := [_, _, _, _]) (Nat.le_of_ble_eq_true rfl) (Nat.le_of_ble_eq_true rfl) (Or.inr rfl) rfl rfl dX1_allKnown_13 ?_
      have z := inner 25 0 (by omega)
      simp only [smI, Int32.add_zero] at z
      exact z
  refine ca_iconst hX (q := 1) k_iconst_0 rfl dX1_allKnown_0 ?_
  refine ca_istore_n hX (q := 2) 1 rfl (ls' := [_, _, _, _]) (Nat.le_of_ble_eq_true rfl) (Nat.le_of_ble_eq_true rfl) (Or.inr rfl) rfl rfl dX1_allKnown_1 ?_
  refine ca_iconst hX (q := 3) k_iconst_0 rfl dX1_allKnown_2 ?_
  refine ca_istore_n hX (q := 4) 2 rfl (ls' := [_, _, _, _]) (Nat.le_of_ble_eq_true rfl) (Nat.le_of_ble_eq_true rfl) (Or.inr rfl) rfl rfl dX1_allKnown_3 ?_
  exact loop P 0 (by omega) _
