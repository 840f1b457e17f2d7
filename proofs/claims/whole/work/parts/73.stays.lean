/-! the state stays as it may be -/
def wfM (M : Nat → Nat → Int32) : Prop := (∃ P, wfH (M 0) P) ∧ (∃ P, wfH (M 2) P) ∧ (∃ k, k ≤ 96 ∧ M 13 1 = nI k) ∧ ∃ k, k ≤ 25 ∧ M 13 2 = nI k
theorem wfM.ke {M M' : Nat → Nat → Int32} (w : wfM M) (h : keM M M') : wfM M' := by
  unfold wfM at w ⊢
  rw [h.1, h.2.1, h.2.2.2.2.2.2.1, h.2.2.2.2.2.2.2.1]; exact w
theorem wf_no {M : Nat → Nat → Int32} (w : wfM M) (k : Nat) : wfM (noA M k).2 := by
  show wfM (upB M 6 k (M 6 k + 1))
  unfold wfM
  rw [upB_n _ _ _ (j := 0) (by omega), upB_n _ _ _ (j := 2) (by omega), upB_n _ _ _ (j := 13) (by omega)]; exact w
theorem wf_noL {M : Nat → Nat → Int32} (w : wfM M) (k : Nat) : wfM (noL M k).2 := wf_no w k
theorem wfM.s0 {M : Nat → Nat → Int32} (w : wfM M) {h : Nat → Int32} {P : Nat} (wh : wfH h P) : wfM (stB M 0 h) := by
  obtain ⟨_, a2, a3, a4⟩ := w
  unfold wfM
  rw [st_s, st_n _ _ (j := 2) (by omega), st_n _ _ (j := 13) (by omega)]
  exact ⟨⟨P, wh⟩, a2, a3, a4⟩
theorem wfM.s2 {M : Nat → Nat → Int32} (w : wfM M) {h : Nat → Int32} {P : Nat} (wh : wfH h P) : wfM (stB M 2 h) := by
  obtain ⟨a1, _, a3, a4⟩ := w
  unfold wfM
  rw [st_s, st_n _ _ (j := 0) (by omega), st_n _ _ (j := 13) (by omega)]
  exact ⟨a1, ⟨P, wh⟩, a3, a4⟩
theorem wfM.sx {M : Nat → Nat → Int32} (w : wfM M) {i : Nat} (F : Nat → Int32) (hi : i = 4 ∨ i = 5) : wfM (stB M i F) := by
  unfold wfM
  rw [st_n _ _ (j := 0) (by omega), st_n _ _ (j := 2) (by omega), st_n _ _ (j := 13) (by omega)]
  exact w
theorem wfM.u1 {M : Nat → Nat → Int32} (w : wfM M) {k : Nat} (hk : k ≤ 96) : wfM (upB M 13 1 (nI k)) := by
  obtain ⟨a1, a2, _, a4⟩ := w
  unfold wfM
  rw [upB_s, upB_n _ _ _ (j := 0) (by omega), upB_n _ _ _ (j := 2) (by omega), upd_s, upd_n _ _ (by omega)]
  exact ⟨a1, a2, ⟨k, hk, rfl⟩, a4⟩
theorem wfM.u2 {M : Nat → Nat → Int32} (w : wfM M) {k : Nat} (hk : k ≤ 25) : wfM (upB M 13 2 (nI k)) := by
  obtain ⟨a1, a2, a3, _⟩ := w
  unfold wfM
  rw [upB_s, upB_n _ _ _ (j := 0) (by omega), upB_n _ _ _ (j := 2) (by omega), upd_s, upd_n _ _ (by omega)]
  exact ⟨a1, a2, a3, ⟨k, hk, rfl⟩⟩
theorem wfM.u0 {M : Nat → Nat → Int32} (w : wfM M) (x : Int32) : wfM (upB M 13 0 x) := by
  unfold wfM
  rw [upB_s, upB_n _ _ _ (j := 0) (by omega), upB_n _ _ _ (j := 2) (by omega), upd_n _ _ (by omega), upd_n _ _ (by omega)]
  exact w
theorem w_turn {M : Nat → Nat → Int32} (w : wfM M) (x k f : Int32) : wfM (tuA M x k f).2 := by
  unfold tuA
  by_cases h1 : rmB x = 0
  · rw [if_pos h1]; exact wf_no w 1
  · rw [if_neg h1]
    by_cases h2 : inB k 0 5 = 0
    · rw [if_pos h2]; exact wf_no w 2
    · rw [if_neg h2]
      by_cases h3 : f < 0
      · rw [if_pos h3]; exact wf_no w 4
      · rw [if_neg h3]
        by_cases h4 : 9 < f
        · rw [if_pos h4]; exact wf_no w 6
        · rw [if_neg h4]
          obtain ⟨r, hr, rfl⟩ := rm_ok h1
          obtain ⟨v, _, hv9, rfl⟩ := rg_ok (lo := 0) (hi := 9) rfl rfl (by omega) (by omega) (Int32.not_lt.mp h3) (Int32.not_lt.mp h4)
          have hk : ∃ q, q ≤ 5 ∧ k = nI q := by
            unfold inB at h2
            by_cases c1 : k < 0
            · rw [if_pos c1] at h2; exact absurd rfl h2
            · rw [if_neg c1] at h2
              by_cases c2 : 5 < k
              · rw [if_pos c2] at h2; exact absurd rfl h2
              · obtain ⟨q, _, hq, e⟩ := rg_ok (lo := 0) (hi := 5) rfl rfl (by omega) (by omega) (Int32.not_lt.mp c1) (Int32.not_lt.mp c2)
                exact ⟨q, hq, e⟩
          obtain ⟨q, hq, rfl⟩ := hk
          obtain ⟨P, wh⟩ := w.1
          rw [nI_clamp (by omega)]
          exact w.s0 (wf_fg (wf_kd wh hr hq) hr hv9)
theorem wf_shp {h : Nat → Int32} {P : Nat} (w : wfH h P) {p v : Nat} (hp : p < 5) (h1 : 1 ≤ v) (h9 : v ≤ 9) : wfH (upd h (52 + p) (nI v)) P := by
  obtain ⟨a, b, c, d, s⟩ := w
  refine ⟨by rw [upd_n _ _ (by omega)]; exact a, b, fun r hr => by rw [upd_n _ _ (by omega)]; exact c r hr, fun r hr => by rw [upd_n _ _ (by omega)]; exact d r hr, fun q hq => ?_⟩
  by_cases z : q = p
  · rw [z, upd_s]; exact ⟨v, h1, h9, rfl⟩
  · rw [upd_n _ _ (by omega)]; exact s q hq
theorem w_sharp {M : Nat → Nat → Int32} (w : wfM M) (p v : Int32) : wfM (shA M p v).2 := by
  unfold shA
  by_cases h1 : hpB (M 0 0) p = 0
  · rw [if_pos h1]; exact wf_no w 1
  · rw [if_neg h1]
    by_cases h3 : v < 1
    · rw [if_pos h3]; exact wf_no w 4
    · rw [if_neg h3]
      by_cases h4 : 9 < v
      · rw [if_pos h4]; exact wf_no w 6
      · rw [if_neg h4]
        obtain ⟨P, wh⟩ := w.1
        obtain ⟨q, hq, rfl⟩ := hp_ok wh.1 wh.2.1 h1
        obtain ⟨u, hu1, hu9, rfl⟩ := rg_ok (lo := 1) (hi := 9) rfl rfl (by omega) (by omega) (Int32.not_lt.mp h3) (Int32.not_lt.mp h4)
        have := wh.2.1
        rw [nI_clamp (by omega)]
        exact w.s0 (wf_shp wh (by omega) hu1 hu9)
theorem w_visit {M : Nat → Nat → Int32} (w : wfM M) (p x v : Int32) : wfM (viA M p x v).2 := by
  unfold viA
  by_cases h1 : hpB (M 0 0) p = 0
  · rw [if_pos h1]; exact wf_no w 1
  · rw [if_neg h1]
    by_cases h2 : rmB x = 0
    · rw [if_pos h2]; exact wf_no w 1
    · rw [if_neg h2]
      by_cases h3 : v < 0
      · rw [if_pos h3]; exact wf_no w 4
      · rw [if_neg h3]
        by_cases h4 : 9 < v
        · rw [if_pos h4]; exact wf_no w 6
        · rw [if_neg h4]
          obtain ⟨P, wh⟩ := w.1
          exact w.s0 (wf_hi wh (fun j hj _ => upd_n _ _ (by omega)))
theorem w_letter {M : Nat → Nat → Int32} (w : wfM M) {k : Nat} (hk : k ≤ 96) (c : Int32) : wfM (leA M k c).2 := by
  unfold leA
  repeat' split
  all_goals first | exact wf_no w _ | exact (w.sx _ (by omega)).u1 (by omega)
theorem w_row {M : Nat → Nat → Int32} (w : wfM M) {k : Nat} (hk : k ≤ 25) (c : Int32) : wfM (rwA M k c).2 := by
  unfold rwA
  repeat' split
  all_goals first | exact wf_no w _ | exact (w.sx _ (by omega)).u2 (by omega)
theorem w_clear {M : Nat → Nat → Int32} (w : wfM M) : wfM (cwA M).2 := w.u2 (k := 0) (by omega)
theorem w_judge {M : Nat → Nat → Int32} (w : wfM M) (P k : Nat) (x : Int32) : wfM (juA M P k x).2 := by
  unfold juA
  split
  · exact wf_no w _
  · exact w.u2 (k := 0) (by omega)
theorem w_image {M : Nat → Nat → Int32} (w : wfM M) : wfM (imA M).2 := by
  obtain ⟨P, wh⟩ := w.1
  exact (w.s2 wh).u0 1
theorem w_on {M : Nat → Nat → Int32} (w : wfM M) : wfM (onA M).2 := by
  unfold onA
  split
  · exact wf_no w _
  · obtain ⟨P, wh⟩ := w.2.1
    exact w.s0 wh
theorem w_nights {M : Nat → Nat → Int32} (w : wfM M) (P : Nat) (wh : wfH (M 0) P) (x : Int32) : wfM (niA M P x).2 := by
  unfold niA
  repeat' split
  all_goals first | exact wf_no w _ | exact w.s0 (wf_hi wh (fun j hj h1 => pn_lo P (M 0) hj h1 _))
theorem wf_dn {f : Nat → Int32} {L : Nat} (hL : L ≤ 96) (T : Int32) : ∀ n pl h P, psF f L n pl = -9 → wfH h P → wfH (dnF f L T n pl h P).2.1 (dnF f L T n pl h P).2.2
  | 0, _, _, _, _, w => w
  | n + 1, pl, h, P, hp, w => by
    by_cases hl : L ≤ pl
    · rw [dn_end hl]; exact w
    · obtain ⟨hok, hps⟩ := ps_ok hl hL hp
      cases e : stE f L pl h P with
      | none => rw [dn_none hl e]; exact w
      | some q =>
        obtain ⟨h2, P2⟩ := q
        rw [dn_some hl e]
        exact wf_dn hL T n _ h2 P2 hps (wf_st hok w e)
theorem w_house {M : Nat → Nat → Int32} (w : wfM M) (P : Nat) (wh : wfH (M 0) P) {k : Nat} (hk : k ≤ 96) : wfM (hoA M P k).2 := by
  unfold hoA
  split
  · exact w.u1 (k := 0) (by omega)
  · have : wfH (hoR (M 4) k (M 0) P).2.1 (hoR (M 4) k (M 0) P).2.2 := by
      unfold hoR
      by_cases z : stI (M 4) k = -9
      · rw [if_pos z]; exact wf_dn hk _ 97 0 (M 0) P (st_ps z) wh
      · rw [if_neg z]; exact wh
    exact (w.u1 (k := 0) (by omega)).s0 this

theorem w_room {M : Nat → Nat → Int32} (w : wfM M) (x y : Int32) : wfM (roA M x y).2 := by
  unfold roA
  repeat' split
  all_goals first | exact w | exact wf_no w _ | exact wf_noL w _
theorem w_person {M : Nat → Nat → Int32} (w : wfM M) (x y : Int32) : wfM (peA M x y).2 := by
  unfold peA
  repeat' split
  all_goals first | exact w | exact wf_no w _ | exact wf_noL w _
theorem w_fire {M : Nat → Nat → Int32} (w : wfM M) (P : Nat) (x y z : Int32) : wfM (fiA M P x y z).2 := by
  unfold fiA
  repeat' split
  all_goals first | exact w | exact wf_no w _ | exact wf_noL w _
theorem w_burns {M : Nat → Nat → Int32} (w : wfM M) (P : Nat) (x y z : Int32) : wfM (buA M P x y z).2 := by
  unfold buA
  repeat' split
  all_goals first | exact w | exact wf_no w _ | exact wf_noL w _
theorem w_said {M : Nat → Nat → Int32} (w : wfM M) (P : Nat) (x y z v : Int32) : wfM (saA M P x y z v).2 := by
  unfold saA
  repeat' split
  all_goals first | exact w | exact wf_no w _ | exact wf_noL w _
theorem w_talker {M : Nat → Nat → Int32} (w : wfM M) (P : Nat) (x y : Int32) : wfM (tlA M P x y).2 := by
  unfold tlA
  repeat' split
  all_goals first | exact w | exact wf_no w _ | exact wf_noL w _
theorem w_alone {M : Nat → Nat → Int32} (w : wfM M) (x : Int32) : wfM (alA M x).2 := by
  unfold alA
  repeat' split
  all_goals first | exact w | exact wf_no w _ | exact wf_noL w _
theorem w_bestSpeaker {M : Nat → Nat → Int32} (w : wfM M) (P : Nat) (x : Int32) : wfM (bsA M P x).2 := by
  unfold bsA
  repeat' split
  all_goals first | exact w | exact wf_no w _ | exact wf_noL w _
theorem w_captain {M : Nat → Nat → Int32} (w : wfM M) (P : Nat) (x y z : Int32) : wfM (cpA M P x y z).2 := by
  unfold cpA
  repeat' split
  all_goals first | exact w | exact wf_no w _ | exact wf_noL w _
theorem w_show {M : Nat → Nat → Int32} (w : wfM M) (P : Nat) (x y : Int32) : wfM (shwA M P x y).2 := by
  unfold shwA
  repeat' split
  all_goals first | exact w | exact wf_no w _ | exact wf_noL w _
theorem w_wall {M : Nat → Nat → Int32} (w : wfM M) (P : Nat) (x : Int32) : wfM (wlA M P x).2 := by
  unfold wlA
  repeat' split
  all_goals first | exact w | exact wf_no w _ | exact wf_noL w _
theorem w_mayWait {M : Nat → Nat → Int32} (w : wfM M) (P : Nat) (x : Int32) : wfM (mwA M P x).2 := by
  unfold mwA
  repeat' split
  all_goals first | exact w | exact wf_no w _ | exact wf_noL w _
theorem w_leftOut {M : Nat → Nat → Int32} (w : wfM M) (P : Nat) (x : Int32) : wfM (loA M P x).2 := by
  unfold loA
  repeat' split
  all_goals first | exact w | exact wf_no w _ | exact wf_noL w _
theorem w_enough {M : Nat → Nat → Int32} (w : wfM M) (P : Nat) (x : Int32) : wfM (enA M P x).2 := by
  unfold enA
  repeat' split
  all_goals first | exact w | exact wf_no w _ | exact wf_noL w _
theorem w_sure {M : Nat → Nat → Int32} (w : wfM M) (P : Nat) (x : Int32) : wfM (suA M P x).2 := by
  unfold suA
  repeat' split
  all_goals first | exact w | exact wf_no w _ | exact wf_noL w _
theorem w_unlike {M : Nat → Nat → Int32} (w : wfM M) (x y z : Int32) : wfM (unA M x y z).2 := by
  unfold unA
  repeat' split
  all_goals first | exact w | exact wf_no w _ | exact wf_noL w _
theorem w_count {M : Nat → Nat → Int32} (w : wfM M) (P : Nat) (x : Int32) : wfM (coA M P x).2 := by
  unfold coA
  repeat' split
  all_goals first | exact w | exact wf_no w _ | exact wf_noL w _
theorem w_whatWas {M : Nat → Nat → Int32} (w : wfM M) (P k : Nat) (x y z : Int32) : wfM (wwA M P k x y z).2 := by
  unfold wwA
  repeat' split
  all_goals first | exact w | exact wf_no w _ | exact wf_noL w _
theorem w_lots {M : Nat → Nat → Int32} (w : wfM M) (P : Nat) (x y z : Int32) : wfM (ltA M P x y z).2 := by
  unfold ltA
  repeat' split
  all_goals first | exact w | exact wf_no w _ | exact wf_noL w _
theorem w_slip {M : Nat → Nat → Int32} (w : wfM M) (P : Nat) (x y z v u : Int32) : wfM (slA M P x y z v u).2 := by
  unfold slA
  repeat' split
  all_goals first | exact w | exact wf_no w _ | exact wf_noL w _
theorem w_worstRoom {M : Nat → Nat → Int32} (w : wfM M) (P : Nat) : wfM (woA M P).2 := w
