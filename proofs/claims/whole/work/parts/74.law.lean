/-! the law: its rows, a case each -/
section CALAW
variable {l : Launch} {y : MethodName} {cc : ByteArray} {nL : Nat} {rt : Option FieldType} {F mc ms N0 S0 : Nat} {sc : ca_Sc} {post : ca_Post} {X : ca_J}
variable {pc q : Nat} {ls : List (Option Value)} {st : List Value} {N S : Nat} {g : ca_G}
variable {y' : MethodName} {cc' : ByteArray} {nL' : Nat} {ret' : Option FieldType} {F' idx : Nat} {post' : ca_Post} {As : List Value} {L : Nat} {xs : Nat → Int32}
theorem ca_sld (hX : ca_Good l y cc nL rt F mc ms N0 S0 (some (L, xs)) post X) {j : Nat} {x : Int32} (hx0 : x = nI j) (hj : j < L) (hL31 : L ≤ 3072) (hq : pc + 1 = q) (hd : decode cc pc = .ok (.iaload, 1)) (kk : X q ls (.int (xs j) :: st) N S g) : X pc ls (.int x :: .ref 2000 :: st) N S g := by
  obtain ⟨p, e, R, s, m, args, below, meth, c, D, cI, ad, base, Q, rfl, hx, hb, hml, hown, hts, hK, hB, hR, hQ, hL⟩ := hX
  subst hq
  subst hx0
  obtain ⟨hQ1, hQ2, hQ3, hQ4, -⟩ := hL L xs rfl
  intro h1 h2 h3 h4 H locs la q1 q2 q3 q4
  refine va_sld hx hb hQ2 (by omega) (Nat.not_le.mpr hQ3) q3 (vp_in_nI hj (by omega)) hd ?_
  rw [nI_clamp (by omega)]
  exact kk h1 h2 h3 h4 H locs la q1 q2 q3 q4
theorem ca_slen (hX : ca_Good l y cc nL rt F mc ms N0 S0 (some (L, xs)) post X) (hq : pc + 1 = q) (hd : decode cc pc = .ok (.arraylength, 1)) (kk : X q ls (.int (nI L) :: st) N S g) : X pc ls (.ref 2000 :: st) N S g := by
  obtain ⟨p, e, R, s, m, args, below, meth, c, D, cI, ad, base, Q, rfl, hx, hb, hml, hown, hts, hK, hB, hR, hQ, hL⟩ := hX
  subst hq
  obtain ⟨hQ1, hQ2, hQ3, hQ4, -⟩ := hL L xs rfl
  intro h1 h2 h3 h4 H locs la q1 q2 q3 q4
  exact va_slen hx hb hQ2 (by omega) (Nat.not_le.mpr hQ3) q3 hd (kk h1 h2 h3 h4 H locs la q1 q2 q3 q4)
theorem ca_LV (hX : ca_Good l y cc nL rt F 600000 7302250 0 0 sc post X) {n ci i : Nat} {fs : List Value} (hY : ca_YV y' cc' nL' ret' n ci) (hl : Cond.methodLink y.cls idx y' ∈ ca_TT) (hi : i < 45) (hg : g i = .inr (ci, fs)) (hC : ca_Ct l y' cc' nL' ret' F' 0 0 45 1000000 (.ref i :: As) g post') (hF : F' < F) (hn : As.length = n) (hst : (st.map fun v => v.category).sum ≤ 8) (hq : pc + 3 = q) (hd : decode cc pc = .ok (.invokevirtual idx, 3)) {stk : List Value} (hk : stk = As.reverse ++ .ref i :: st)
    (kk : ∀ (r : Option Value) (g' : ca_G), post' r g' → X q ls (r.toList ++ st) 45 1000000 g') : X pc ls stk 45 1000000 g :=
  ca_callV hX hY hl hi (by omega) hg hC hF (by omega) (by omega) (Or.inr ⟨by omega, by omega⟩) hn hst hq hd hk kk
theorem lw_retR {p : Program} {l : Launch} {e : Env} {R : Room} {s : State} {m : MethodId} {below : List Frame} {meth : Method} {c : Code} {b : Nat} (hx : p.tables.exec = Jvm.exec) (hb : c.code = code) (hr : meth.sig.returnType = ret) (hlocks : meth.locks = false) {pc : Nat} {H : Heap} {ls : Array Slot} (hdg : decode code pc = .ok (.ireturn, 1)) : W p l e R s m #[Value.ref b] below meth c H [] 600000 7302250 (lw_Z below #[Value.ref b] s) (F0 m pc ls [.int 1]) := by
  intro T hT X
  obtain ⟨fs, hret, hrun, hended, hW, hframe⟩ := X.leave (v := some (.int 1)) (hlocks := hlocks) (fun h => by rw [hr] at h; cases h)
  have hmeth' : T.vm.method? m = some meth := X.method'
  refine ⟨T.setFrames fs, ?_, .returned (some (.int 1)), hrun, hended, rfl, ⟨_, rfl⟩, hW, hframe⟩
  jvm_step X.here [X.here.top, hx, hb, hdg, hmeth', hr, ret, narrow_b1]
  (try refine ⟨rfl, ?_⟩); (try refine ⟨rfl, ?_⟩)
  first | (intro acts; rw [hret _ acts rfl rfl rfl]) | rw [hret _ _ rfl rfl rfl]
  exact Steps.refl _
theorem ca_lend (hX : ca_Good l y code nL ret F mc ms 0 0 (some (L, xs)) post X) (hd : decode code pc = .ok (.ireturn, 1)) : X pc ls [.int 1] N S g := by
  obtain ⟨p, e, R, s, m, args, below, meth, c, D, cI, ad, base, Q, rfl, hx, hb, hml, hown, hts, hK, hB, hR, hQ, hL⟩ := hX
  obtain ⟨hQ1, hQ2, hQ3, hQ4, hQ5, hQ6, hQ7, hQ8⟩ := hL L xs rfl
  intro h1 h2 h3 h4 H locs la q1 q2 q3 q4
  rw [hQ1, hQ5]
  refine va_forget (fun q hq => by rw [← hQ4]; exact q3.2.2 q hq) ?_
  exact W.widen (by omega) (by omega) (lw_retR hx hb hR.1 hR.2.1 hd)
end CALAW

set_option maxRecDepth 100000 in
set_option maxHeartbeats 4000000 in
theorem lc_0 {l : Launch} {L : Nat} {xs : Nat → Int32} {post : ca_Post} {X : ca_J} (hX : ca_Good l yL_law code 4 ret 13 600000 7302250 0 0 (some (L, xs)) post X) (hL31 : L ≤ 3072) {i : Nat} (hi : i + 6 ≤ L) {g : ca_G} {M : Nat → Nat → Int32} {t : Nat → Int32} {B : Nat → Nat → Int32} (hc : clX g M t B) (hm : mdG g 31 M) (hw : wfM M) (hs4 : M 13 4 = 0) (next : ∀ (g2 : ca_G) (M2 : Nat → Nat → Int32) (t2 : Nat → Int32) (B2 : Nat → Nat → Int32), clX g2 M2 t2 B2 → mdG g2 31 M2 → wfM M2 → M2 13 4 = 0 → X 1143 [some (.ref 2000), some (.ref 0), some (.ref 31), some (.int (nI i))] [] 45 1000000 g2) : X 176 [some (.ref 2000), some (.ref 0), some (.ref 31), some (.int (nI i))] [] 45 1000000 g := by
  obtain ⟨⟨P, w⟩, ⟨P2, w2⟩, ⟨lk, hlk6, hlk⟩, ⟨rk, hrk6, hrk⟩⟩ := id hw
  refine ca_aload_n hX (q := 177) 1 rfl rfl rfl dL_law_176 ?_
  refine ca_aload_n hX (q := 178) 0 rfl rfl rfl dL_law_177 ?_
  refine ca_iload_n hX (q := 179) 3 rfl rfl rfl dL_law_178 ?_
  refine ca_iconst hX (q := 180) k_iconst_1 rfl dL_law_179 ?_
  refine ca_iadd hX (q := 181) rfl dL_law_180 ?_
  refine ca_sld hX (q := 182) (j := i + 1) (nI_add i 1) (by omega) hL31 rfl dL_law_181 ?_
  refine ca_LV hX (q := 185) y_X5_letter w_ml_L_13 (by omega) hc.1 (k_letter l 45 g M t B hc (by omega) lk hlk hlk6 (xs (i + 1))) (by decide) rfl (Nat.le_of_ble_eq_true rfl) rfl dL_law_182 rfl ?_
  rintro _ g1 ⟨rfl, hf1, t1, B1, hc1⟩
  have hm1 := hm.fr hf1 (by omega)
  refine ca_aload_n hX (q := 186) 2 rfl rfl rfl dL_law_185 ?_
  refine ca_aload_n hX (q := 187) 0 rfl rfl rfl dL_law_186 ?_
  refine ca_iload_n hX (q := 188) 3 rfl rfl rfl dL_law_187 ?_
  refine ca_iconst hX (q := 189) k_iconst_1 rfl dL_law_188 ?_
  refine ca_iadd hX (q := 190) rfl dL_law_189 ?_
  refine ca_sld hX (q := 191) (j := i + 1) (nI_add i 1) (by omega) hL31 rfl dL_law_190 ?_
  refine ca_LV hX (q := 194) y_X6_letter w_ml_L_17 (by omega) hm1.1 (m_letter l 45 g1 31 M hm1 (by omega) hs4 lk hlk hlk6 (xs (i + 1))) (by decide) rfl (Nat.le_of_ble_eq_true rfl) rfl dL_law_191 rfl ?_
  rintro _ g2 ⟨rfl, hf2, M2, hm2, hke⟩
  refine ca_icmp_eq hX (q := 197) 1143 rfl rfl dL_law_194 (fun _ => ?_) (fun z => absurd rfl z)
  exact next g2 M2 t1 B1 (hke.cl (hc1.fr hf2 (by omega))) hm2 ((w_letter hw hlk6 _).ke hke) hke.2.2.2.2.2.2.2.2

set_option maxRecDepth 100000 in
set_option maxHeartbeats 4000000 in
theorem lc_1 {l : Launch} {L : Nat} {xs : Nat → Int32} {post : ca_Post} {X : ca_J} (hX : ca_Good l yL_law code 4 ret 13 600000 7302250 0 0 (some (L, xs)) post X) (hL31 : L ≤ 3072) {i : Nat} (hi : i + 6 ≤ L) {g : ca_G} {M : Nat → Nat → Int32} {t : Nat → Int32} {B : Nat → Nat → Int32} (hc : clX g M t B) (hm : mdG g 31 M) (hw : wfM M) (hs4 : M 13 4 = 0) (next : ∀ (g2 : ca_G) (M2 : Nat → Nat → Int32) (t2 : Nat → Int32) (B2 : Nat → Nat → Int32), clX g2 M2 t2 B2 → mdG g2 31 M2 → wfM M2 → M2 13 4 = 0 → X 1143 [some (.ref 2000), some (.ref 0), some (.ref 31), some (.int (nI i))] [] 45 1000000 g2) : X 199 [some (.ref 2000), some (.ref 0), some (.ref 31), some (.int (nI i))] [] 45 1000000 g := by
  obtain ⟨⟨P, w⟩, ⟨P2, w2⟩, ⟨lk, hlk6, hlk⟩, ⟨rk, hrk6, hrk⟩⟩ := id hw
  refine ca_aload_n hX (q := 200) 1 rfl rfl rfl dL_law_199 ?_
  refine ca_LV hX (q := 203) y_X5_house w_ml_L_18 (by omega) hc.1 (k_house l 45 g M t B hc (by omega) P w lk hlk hlk6) (by decide) rfl (Nat.le_of_ble_eq_true rfl) rfl dL_law_200 rfl ?_
  rintro _ g1 ⟨rfl, hf1, t1, B1, hc1⟩
  have hm1 := hm.fr hf1 (by omega)
  refine ca_aload_n hX (q := 204) 2 rfl rfl rfl dL_law_203 ?_
  refine ca_LV hX (q := 207) y_X6_house w_ml_L_22 (by omega) hm1.1 (m_house l 45 g1 31 M hm1 (by omega) hs4 P w lk hlk hlk6) (by decide) rfl (Nat.le_of_ble_eq_true rfl) rfl dL_law_204 rfl ?_
  rintro _ g2 ⟨rfl, hf2, M2, hm2, hke⟩
  refine ca_icmp_eq hX (q := 210) 1143 rfl rfl dL_law_207 (fun _ => ?_) (fun z => absurd rfl z)
  exact next g2 M2 t1 B1 (hke.cl (hc1.fr hf2 (by omega))) hm2 ((w_house hw P w hlk6).ke hke) hke.2.2.2.2.2.2.2.2

set_option maxRecDepth 100000 in
set_option maxHeartbeats 4000000 in
theorem lc_2 {l : Launch} {L : Nat} {xs : Nat → Int32} {post : ca_Post} {X : ca_J} (hX : ca_Good l yL_law code 4 ret 13 600000 7302250 0 0 (some (L, xs)) post X) (hL31 : L ≤ 3072) {i : Nat} (hi : i + 6 ≤ L) {g : ca_G} {M : Nat → Nat → Int32} {t : Nat → Int32} {B : Nat → Nat → Int32} (hc : clX g M t B) (hm : mdG g 31 M) (hw : wfM M) (hs4 : M 13 4 = 0) (next : ∀ (g2 : ca_G) (M2 : Nat → Nat → Int32) (t2 : Nat → Int32) (B2 : Nat → Nat → Int32), clX g2 M2 t2 B2 → mdG g2 31 M2 → wfM M2 → M2 13 4 = 0 → X 1143 [some (.ref 2000), some (.ref 0), some (.ref 31), some (.int (nI i))] [] 45 1000000 g2) : X 212 [some (.ref 2000), some (.ref 0), some (.ref 31), some (.int (nI i))] [] 45 1000000 g := by
  obtain ⟨⟨P, w⟩, ⟨P2, w2⟩, ⟨lk, hlk6, hlk⟩, ⟨rk, hrk6, hrk⟩⟩ := id hw
  refine ca_aload_n hX (q := 213) 1 rfl rfl rfl dL_law_212 ?_
  refine ca_aload_n hX (q := 214) 0 rfl rfl rfl dL_law_213 ?_
  refine ca_iload_n hX (q := 215) 3 rfl rfl rfl dL_law_214 ?_
  refine ca_iconst hX (q := 216) k_iconst_1 rfl dL_law_215 ?_
  refine ca_iadd hX (q := 217) rfl dL_law_216 ?_
  refine ca_sld hX (q := 218) (j := i + 1) (nI_add i 1) (by omega) hL31 rfl dL_law_217 ?_
  refine ca_aload_n hX (q := 219) 0 rfl rfl rfl dL_law_218 ?_
  refine ca_iload_n hX (q := 220) 3 rfl rfl rfl dL_law_219 ?_
  refine ca_iconst hX (q := 221) k_iconst_2 rfl dL_law_220 ?_
  refine ca_iadd hX (q := 222) rfl dL_law_221 ?_
  refine ca_sld hX (q := 223) (j := i + 2) (nI_add i 2) (by omega) hL31 rfl dL_law_222 ?_
  refine ca_LV hX (q := 226) y_X5_room w_ml_L_23 (by omega) hc.1 (k_room l 45 g M t B hc (by omega) (xs (i + 1)) (xs (i + 2))) (by decide) rfl (Nat.le_of_ble_eq_true rfl) rfl dL_law_223 rfl ?_
  rintro _ g1 ⟨rfl, hf1, t1, B1, hc1⟩
  have hm1 := hm.fr hf1 (by omega)
  refine ca_aload_n hX (q := 227) 2 rfl rfl rfl dL_law_226 ?_
  refine ca_aload_n hX (q := 228) 0 rfl rfl rfl dL_law_227 ?_
  refine ca_iload_n hX (q := 229) 3 rfl rfl rfl dL_law_228 ?_
  refine ca_iconst hX (q := 230) k_iconst_1 rfl dL_law_229 ?_
  refine ca_iadd hX (q := 231) rfl dL_law_230 ?_
  refine ca_sld hX (q := 232) (j := i + 1) (nI_add i 1) (by omega) hL31 rfl dL_law_231 ?_
  refine ca_aload_n hX (q := 233) 0 rfl rfl rfl dL_law_232 ?_
  refine ca_iload_n hX (q := 234) 3 rfl rfl rfl dL_law_233 ?_
  refine ca_iconst hX (q := 235) k_iconst_2 rfl dL_law_234 ?_
  refine ca_iadd hX (q := 236) rfl dL_law_235 ?_
  refine ca_sld hX (q := 237) (j := i + 2) (nI_add i 2) (by omega) hL31 rfl dL_law_236 ?_
  refine ca_LV hX (q := 240) y_X6_room w_ml_L_27 (by omega) hm1.1 (m_room l 45 g1 31 M hm1 (by omega) hs4 (xs (i + 1)) (xs (i + 2))) (by decide) rfl (Nat.le_of_ble_eq_true rfl) rfl dL_law_237 rfl ?_
  rintro _ g2 ⟨rfl, hf2, M2, hm2, hke⟩
  refine ca_icmp_eq hX (q := 243) 1143 rfl rfl dL_law_240 (fun _ => ?_) (fun z => absurd rfl z)
  exact next g2 M2 t1 B1 (hke.cl (hc1.fr hf2 (by omega))) hm2 ((w_room hw _ _).ke hke) hke.2.2.2.2.2.2.2.2

set_option maxRecDepth 100000 in
set_option maxHeartbeats 4000000 in
theorem lc_3 {l : Launch} {L : Nat} {xs : Nat → Int32} {post : ca_Post} {X : ca_J} (hX : ca_Good l yL_law code 4 ret 13 600000 7302250 0 0 (some (L, xs)) post X) (hL31 : L ≤ 3072) {i : Nat} (hi : i + 6 ≤ L) {g : ca_G} {M : Nat → Nat → Int32} {t : Nat → Int32} {B : Nat → Nat → Int32} (hc : clX g M t B) (hm : mdG g 31 M) (hw : wfM M) (hs4 : M 13 4 = 0) (next : ∀ (g2 : ca_G) (M2 : Nat → Nat → Int32) (t2 : Nat → Int32) (B2 : Nat → Nat → Int32), clX g2 M2 t2 B2 → mdG g2 31 M2 → wfM M2 → M2 13 4 = 0 → X 1143 [some (.ref 2000), some (.ref 0), some (.ref 31), some (.int (nI i))] [] 45 1000000 g2) : X 245 [some (.ref 2000), some (.ref 0), some (.ref 31), some (.int (nI i))] [] 45 1000000 g := by
  obtain ⟨⟨P, w⟩, ⟨P2, w2⟩, ⟨lk, hlk6, hlk⟩, ⟨rk, hrk6, hrk⟩⟩ := id hw
  refine ca_aload_n hX (q := 246) 1 rfl rfl rfl dL_law_245 ?_
  refine ca_aload_n hX (q := 247) 0 rfl rfl rfl dL_law_246 ?_
  refine ca_iload_n hX (q := 248) 3 rfl rfl rfl dL_law_247 ?_
  refine ca_iconst hX (q := 249) k_iconst_1 rfl dL_law_248 ?_
  refine ca_iadd hX (q := 250) rfl dL_law_249 ?_
  refine ca_sld hX (q := 251) (j := i + 1) (nI_add i 1) (by omega) hL31 rfl dL_law_250 ?_
  refine ca_aload_n hX (q := 252) 0 rfl rfl rfl dL_law_251 ?_
  refine ca_iload_n hX (q := 253) 3 rfl rfl rfl dL_law_252 ?_
  refine ca_iconst hX (q := 254) k_iconst_2 rfl dL_law_253 ?_
  refine ca_iadd hX (q := 255) rfl dL_law_254 ?_
  refine ca_sld hX (q := 256) (j := i + 2) (nI_add i 2) (by omega) hL31 rfl dL_law_255 ?_
  refine ca_LV hX (q := 259) y_X5_person w_ml_L_28 (by omega) hc.1 (k_person l 45 g M t B hc (by omega) P w (xs (i + 1)) (xs (i + 2))) (by decide) rfl (Nat.le_of_ble_eq_true rfl) rfl dL_law_256 rfl ?_
  rintro _ g1 ⟨rfl, hf1, t1, B1, hc1⟩
  have hm1 := hm.fr hf1 (by omega)
  refine ca_aload_n hX (q := 260) 2 rfl rfl rfl dL_law_259 ?_
  refine ca_aload_n hX (q := 261) 0 rfl rfl rfl dL_law_260 ?_
  refine ca_iload_n hX (q := 262) 3 rfl rfl rfl dL_law_261 ?_
  refine ca_iconst hX (q := 263) k_iconst_1 rfl dL_law_262 ?_
  refine ca_iadd hX (q := 264) rfl dL_law_263 ?_
  refine ca_sld hX (q := 265) (j := i + 1) (nI_add i 1) (by omega) hL31 rfl dL_law_264 ?_
  refine ca_aload_n hX (q := 266) 0 rfl rfl rfl dL_law_265 ?_
  refine ca_iload_n hX (q := 267) 3 rfl rfl rfl dL_law_266 ?_
  refine ca_iconst hX (q := 268) k_iconst_2 rfl dL_law_267 ?_
  refine ca_iadd hX (q := 269) rfl dL_law_268 ?_
  refine ca_sld hX (q := 270) (j := i + 2) (nI_add i 2) (by omega) hL31 rfl dL_law_269 ?_
  refine ca_LV hX (q := 273) y_X6_person w_ml_L_31 (by omega) hm1.1 (m_person l 45 g1 31 M hm1 (by omega) hs4 P w (xs (i + 1)) (xs (i + 2))) (by decide) rfl (Nat.le_of_ble_eq_true rfl) rfl dL_law_270 rfl ?_
  rintro _ g2 ⟨rfl, hf2, M2, hm2, hke⟩
  refine ca_icmp_eq hX (q := 276) 1143 rfl rfl dL_law_273 (fun _ => ?_) (fun z => absurd rfl z)
  exact next g2 M2 t1 B1 (hke.cl (hc1.fr hf2 (by omega))) hm2 ((w_person hw _ _).ke hke) hke.2.2.2.2.2.2.2.2

set_option maxRecDepth 100000 in
set_option maxHeartbeats 4000000 in
theorem lc_4 {l : Launch} {L : Nat} {xs : Nat → Int32} {post : ca_Post} {X : ca_J} (hX : ca_Good l yL_law code 4 ret 13 600000 7302250 0 0 (some (L, xs)) post X) (hL31 : L ≤ 3072) {i : Nat} (hi : i + 6 ≤ L) {g : ca_G} {M : Nat → Nat → Int32} {t : Nat → Int32} {B : Nat → Nat → Int32} (hc : clX g M t B) (hm : mdG g 31 M) (hw : wfM M) (hs4 : M 13 4 = 0) (next : ∀ (g2 : ca_G) (M2 : Nat → Nat → Int32) (t2 : Nat → Int32) (B2 : Nat → Nat → Int32), clX g2 M2 t2 B2 → mdG g2 31 M2 → wfM M2 → M2 13 4 = 0 → X 1143 [some (.ref 2000), some (.ref 0), some (.ref 31), some (.int (nI i))] [] 45 1000000 g2) : X 278 [some (.ref 2000), some (.ref 0), some (.ref 31), some (.int (nI i))] [] 45 1000000 g := by
  obtain ⟨⟨P, w⟩, ⟨P2, w2⟩, ⟨lk, hlk6, hlk⟩, ⟨rk, hrk6, hrk⟩⟩ := id hw
  refine ca_aload_n hX (q := 279) 1 rfl rfl rfl dL_law_278 ?_
  refine ca_aload_n hX (q := 280) 0 rfl rfl rfl dL_law_279 ?_
  refine ca_iload_n hX (q := 281) 3 rfl rfl rfl dL_law_280 ?_
  refine ca_iconst hX (q := 282) k_iconst_1 rfl dL_law_281 ?_
  refine ca_iadd hX (q := 283) rfl dL_law_282 ?_
  refine ca_sld hX (q := 284) (j := i + 1) (nI_add i 1) (by omega) hL31 rfl dL_law_283 ?_
  refine ca_aload_n hX (q := 285) 0 rfl rfl rfl dL_law_284 ?_
  refine ca_iload_n hX (q := 286) 3 rfl rfl rfl dL_law_285 ?_
  refine ca_iconst hX (q := 287) k_iconst_2 rfl dL_law_286 ?_
  refine ca_iadd hX (q := 288) rfl dL_law_287 ?_
  refine ca_sld hX (q := 289) (j := i + 2) (nI_add i 2) (by omega) hL31 rfl dL_law_288 ?_
  refine ca_aload_n hX (q := 290) 0 rfl rfl rfl dL_law_289 ?_
  refine ca_iload_n hX (q := 291) 3 rfl rfl rfl dL_law_290 ?_
  refine ca_iconst hX (q := 292) k_iconst_3 rfl dL_law_291 ?_
  refine ca_iadd hX (q := 293) rfl dL_law_292 ?_
  refine ca_sld hX (q := 294) (j := i + 3) (nI_add i 3) (by omega) hL31 rfl dL_law_293 ?_
  refine ca_LV hX (q := 297) y_X5_turn w_ml_L_32 (by omega) hc.1 (k_turn l 45 g M t B hc (by omega) (xs (i + 1)) (xs (i + 2)) (xs (i + 3))) (by decide) rfl (Nat.le_of_ble_eq_true rfl) rfl dL_law_294 rfl ?_
  rintro _ g1 ⟨rfl, hf1, t1, B1, hc1⟩
  have hm1 := hm.fr hf1 (by omega)
  refine ca_aload_n hX (q := 298) 2 rfl rfl rfl dL_law_297 ?_
  refine ca_aload_n hX (q := 299) 0 rfl rfl rfl dL_law_298 ?_
  refine ca_iload_n hX (q := 300) 3 rfl rfl rfl dL_law_299 ?_
  refine ca_iconst hX (q := 301) k_iconst_1 rfl dL_law_300 ?_
  refine ca_iadd hX (q := 302) rfl dL_law_301 ?_
  refine ca_sld hX (q := 303) (j := i + 1) (nI_add i 1) (by omega) hL31 rfl dL_law_302 ?_
  refine ca_aload_n hX (q := 304) 0 rfl rfl rfl dL_law_303 ?_
  refine ca_iload_n hX (q := 305) 3 rfl rfl rfl dL_law_304 ?_
  refine ca_iconst hX (q := 306) k_iconst_2 rfl dL_law_305 ?_
  refine ca_iadd hX (q := 307) rfl dL_law_306 ?_
  refine ca_sld hX (q := 308) (j := i + 2) (nI_add i 2) (by omega) hL31 rfl dL_law_307 ?_
  refine ca_aload_n hX (q := 309) 0 rfl rfl rfl dL_law_308 ?_
  refine ca_iload_n hX (q := 310) 3 rfl rfl rfl dL_law_309 ?_
  refine ca_iconst hX (q := 311) k_iconst_3 rfl dL_law_310 ?_
  refine ca_iadd hX (q := 312) rfl dL_law_311 ?_
  refine ca_sld hX (q := 313) (j := i + 3) (nI_add i 3) (by omega) hL31 rfl dL_law_312 ?_
  refine ca_LV hX (q := 316) y_X6_turn w_ml_L_36 (by omega) hm1.1 (m_turn l 45 g1 31 M hm1 (by omega) hs4 (xs (i + 1)) (xs (i + 2)) (xs (i + 3))) (by decide) rfl (Nat.le_of_ble_eq_true rfl) rfl dL_law_313 rfl ?_
  rintro _ g2 ⟨rfl, hf2, M2, hm2, hke⟩
  refine ca_icmp_eq hX (q := 319) 1143 rfl rfl dL_law_316 (fun _ => ?_) (fun z => absurd rfl z)
  exact next g2 M2 t1 B1 (hke.cl (hc1.fr hf2 (by omega))) hm2 ((w_turn hw _ _ _).ke hke) hke.2.2.2.2.2.2.2.2

set_option maxRecDepth 100000 in
set_option maxHeartbeats 4000000 in
theorem lc_5 {l : Launch} {L : Nat} {xs : Nat → Int32} {post : ca_Post} {X : ca_J} (hX : ca_Good l yL_law code 4 ret 13 600000 7302250 0 0 (some (L, xs)) post X) (hL31 : L ≤ 3072) {i : Nat} (hi : i + 6 ≤ L) {g : ca_G} {M : Nat → Nat → Int32} {t : Nat → Int32} {B : Nat → Nat → Int32} (hc : clX g M t B) (hm : mdG g 31 M) (hw : wfM M) (hs4 : M 13 4 = 0) (next : ∀ (g2 : ca_G) (M2 : Nat → Nat → Int32) (t2 : Nat → Int32) (B2 : Nat → Nat → Int32), clX g2 M2 t2 B2 → mdG g2 31 M2 → wfM M2 → M2 13 4 = 0 → X 1143 [some (.ref 2000), some (.ref 0), some (.ref 31), some (.int (nI i))] [] 45 1000000 g2) : X 321 [some (.ref 2000), some (.ref 0), some (.ref 31), some (.int (nI i))] [] 45 1000000 g := by
  obtain ⟨⟨P, w⟩, ⟨P2, w2⟩, ⟨lk, hlk6, hlk⟩, ⟨rk, hrk6, hrk⟩⟩ := id hw
  refine ca_aload_n hX (q := 322) 1 rfl rfl rfl dL_law_321 ?_
  refine ca_aload_n hX (q := 323) 0 rfl rfl rfl dL_law_322 ?_
  refine ca_iload_n hX (q := 324) 3 rfl rfl rfl dL_law_323 ?_
  refine ca_iconst hX (q := 325) k_iconst_1 rfl dL_law_324 ?_
  refine ca_iadd hX (q := 326) rfl dL_law_325 ?_
  refine ca_sld hX (q := 327) (j := i + 1) (nI_add i 1) (by omega) hL31 rfl dL_law_326 ?_
  refine ca_aload_n hX (q := 328) 0 rfl rfl rfl dL_law_327 ?_
  refine ca_iload_n hX (q := 329) 3 rfl rfl rfl dL_law_328 ?_
  refine ca_iconst hX (q := 330) k_iconst_2 rfl dL_law_329 ?_
  refine ca_iadd hX (q := 331) rfl dL_law_330 ?_
  refine ca_sld hX (q := 332) (j := i + 2) (nI_add i 2) (by omega) hL31 rfl dL_law_331 ?_
  refine ca_LV hX (q := 335) y_X5_sharp w_ml_L_37 (by omega) hc.1 (k_sharp l 45 g M t B hc (by omega) P w (xs (i + 1)) (xs (i + 2))) (by decide) rfl (Nat.le_of_ble_eq_true rfl) rfl dL_law_332 rfl ?_
  rintro _ g1 ⟨rfl, hf1, t1, B1, hc1⟩
  have hm1 := hm.fr hf1 (by omega)
  refine ca_aload_n hX (q := 336) 2 rfl rfl rfl dL_law_335 ?_
  refine ca_aload_n hX (q := 337) 0 rfl rfl rfl dL_law_336 ?_
  refine ca_iload_n hX (q := 338) 3 rfl rfl rfl dL_law_337 ?_
  refine ca_iconst hX (q := 339) k_iconst_1 rfl dL_law_338 ?_
  refine ca_iadd hX (q := 340) rfl dL_law_339 ?_
  refine ca_sld hX (q := 341) (j := i + 1) (nI_add i 1) (by omega) hL31 rfl dL_law_340 ?_
  refine ca_aload_n hX (q := 342) 0 rfl rfl rfl dL_law_341 ?_
  refine ca_iload_n hX (q := 343) 3 rfl rfl rfl dL_law_342 ?_
  refine ca_iconst hX (q := 344) k_iconst_2 rfl dL_law_343 ?_
  refine ca_iadd hX (q := 345) rfl dL_law_344 ?_
  refine ca_sld hX (q := 346) (j := i + 2) (nI_add i 2) (by omega) hL31 rfl dL_law_345 ?_
  refine ca_LV hX (q := 349) y_X6_sharp w_ml_L_40 (by omega) hm1.1 (m_sharp l 45 g1 31 M hm1 (by omega) hs4 P w (xs (i + 1)) (xs (i + 2))) (by decide) rfl (Nat.le_of_ble_eq_true rfl) rfl dL_law_346 rfl ?_
  rintro _ g2 ⟨rfl, hf2, M2, hm2, hke⟩
  refine ca_icmp_eq hX (q := 352) 1143 rfl rfl dL_law_349 (fun _ => ?_) (fun z => absurd rfl z)
  exact next g2 M2 t1 B1 (hke.cl (hc1.fr hf2 (by omega))) hm2 ((w_sharp hw _ _).ke hke) hke.2.2.2.2.2.2.2.2

set_option maxRecDepth 100000 in
set_option maxHeartbeats 4000000 in
theorem lc_6 {l : Launch} {L : Nat} {xs : Nat → Int32} {post : ca_Post} {X : ca_J} (hX : ca_Good l yL_law code 4 ret 13 600000 7302250 0 0 (some (L, xs)) post X) (hL31 : L ≤ 3072) {i : Nat} (hi : i + 6 ≤ L) {g : ca_G} {M : Nat → Nat → Int32} {t : Nat → Int32} {B : Nat → Nat → Int32} (hc : clX g M t B) (hm : mdG g 31 M) (hw : wfM M) (hs4 : M 13 4 = 0) (next : ∀ (g2 : ca_G) (M2 : Nat → Nat → Int32) (t2 : Nat → Int32) (B2 : Nat → Nat → Int32), clX g2 M2 t2 B2 → mdG g2 31 M2 → wfM M2 → M2 13 4 = 0 → X 1143 [some (.ref 2000), some (.ref 0), some (.ref 31), some (.int (nI i))] [] 45 1000000 g2) : X 354 [some (.ref 2000), some (.ref 0), some (.ref 31), some (.int (nI i))] [] 45 1000000 g := by
  obtain ⟨⟨P, w⟩, ⟨P2, w2⟩, ⟨lk, hlk6, hlk⟩, ⟨rk, hrk6, hrk⟩⟩ := id hw
  refine ca_aload_n hX (q := 355) 1 rfl rfl rfl dL_law_354 ?_
  refine ca_aload_n hX (q := 356) 0 rfl rfl rfl dL_law_355 ?_
  refine ca_iload_n hX (q := 357) 3 rfl rfl rfl dL_law_356 ?_
  refine ca_iconst hX (q := 358) k_iconst_1 rfl dL_law_357 ?_
  refine ca_iadd hX (q := 359) rfl dL_law_358 ?_
  refine ca_sld hX (q := 360) (j := i + 1) (nI_add i 1) (by omega) hL31 rfl dL_law_359 ?_
  refine ca_aload_n hX (q := 361) 0 rfl rfl rfl dL_law_360 ?_
  refine ca_iload_n hX (q := 362) 3 rfl rfl rfl dL_law_361 ?_
  refine ca_iconst hX (q := 363) k_iconst_2 rfl dL_law_362 ?_
  refine ca_iadd hX (q := 364) rfl dL_law_363 ?_
  refine ca_sld hX (q := 365) (j := i + 2) (nI_add i 2) (by omega) hL31 rfl dL_law_364 ?_
  refine ca_aload_n hX (q := 366) 0 rfl rfl rfl dL_law_365 ?_
  refine ca_iload_n hX (q := 367) 3 rfl rfl rfl dL_law_366 ?_
  refine ca_iconst hX (q := 368) k_iconst_3 rfl dL_law_367 ?_
  refine ca_iadd hX (q := 369) rfl dL_law_368 ?_
  refine ca_sld hX (q := 370) (j := i + 3) (nI_add i 3) (by omega) hL31 rfl dL_law_369 ?_
  refine ca_LV hX (q := 373) y_X5_visit w_ml_L_41 (by omega) hc.1 (k_visit l 45 g M t B hc (by omega) P w (xs (i + 1)) (xs (i + 2)) (xs (i + 3))) (by decide) rfl (Nat.le_of_ble_eq_true rfl) rfl dL_law_370 rfl ?_
  rintro _ g1 ⟨rfl, hf1, t1, B1, hc1⟩
  have hm1 := hm.fr hf1 (by omega)
  refine ca_aload_n hX (q := 374) 2 rfl rfl rfl dL_law_373 ?_
  refine ca_aload_n hX (q := 375) 0 rfl rfl rfl dL_law_374 ?_
  refine ca_iload_n hX (q := 376) 3 rfl rfl rfl dL_law_375 ?_
  refine ca_iconst hX (q := 377) k_iconst_1 rfl dL_law_376 ?_
  refine ca_iadd hX (q := 378) rfl dL_law_377 ?_
  refine ca_sld hX (q := 379) (j := i + 1) (nI_add i 1) (by omega) hL31 rfl dL_law_378 ?_
  refine ca_aload_n hX (q := 380) 0 rfl rfl rfl dL_law_379 ?_
  refine ca_iload_n hX (q := 381) 3 rfl rfl rfl dL_law_380 ?_
  refine ca_iconst hX (q := 382) k_iconst_2 rfl dL_law_381 ?_
  refine ca_iadd hX (q := 383) rfl dL_law_382 ?_
  refine ca_sld hX (q := 384) (j := i + 2) (nI_add i 2) (by omega) hL31 rfl dL_law_383 ?_
  refine ca_aload_n hX (q := 385) 0 rfl rfl rfl dL_law_384 ?_
  refine ca_iload_n hX (q := 386) 3 rfl rfl rfl dL_law_385 ?_
  refine ca_iconst hX (q := 387) k_iconst_3 rfl dL_law_386 ?_
  refine ca_iadd hX (q := 388) rfl dL_law_387 ?_
  refine ca_sld hX (q := 389) (j := i + 3) (nI_add i 3) (by omega) hL31 rfl dL_law_388 ?_
  refine ca_LV hX (q := 392) y_X6_visit w_ml_L_44 (by omega) hm1.1 (m_visit l 45 g1 31 M hm1 (by omega) hs4 P w (xs (i + 1)) (xs (i + 2)) (xs (i + 3))) (by decide) rfl (Nat.le_of_ble_eq_true rfl) rfl dL_law_389 rfl ?_
  rintro _ g2 ⟨rfl, hf2, M2, hm2, hke⟩
  refine ca_icmp_eq hX (q := 395) 1143 rfl rfl dL_law_392 (fun _ => ?_) (fun z => absurd rfl z)
  exact next g2 M2 t1 B1 (hke.cl (hc1.fr hf2 (by omega))) hm2 ((w_visit hw _ _ _).ke hke) hke.2.2.2.2.2.2.2.2

set_option maxRecDepth 100000 in
set_option maxHeartbeats 4000000 in
theorem lc_7 {l : Launch} {L : Nat} {xs : Nat → Int32} {post : ca_Post} {X : ca_J} (hX : ca_Good l yL_law code 4 ret 13 600000 7302250 0 0 (some (L, xs)) post X) (hL31 : L ≤ 3072) {i : Nat} (hi : i + 6 ≤ L) {g : ca_G} {M : Nat → Nat → Int32} {t : Nat → Int32} {B : Nat → Nat → Int32} (hc : clX g M t B) (hm : mdG g 31 M) (hw : wfM M) (hs4 : M 13 4 = 0) (next : ∀ (g2 : ca_G) (M2 : Nat → Nat → Int32) (t2 : Nat → Int32) (B2 : Nat → Nat → Int32), clX g2 M2 t2 B2 → mdG g2 31 M2 → wfM M2 → M2 13 4 = 0 → X 1143 [some (.ref 2000), some (.ref 0), some (.ref 31), some (.int (nI i))] [] 45 1000000 g2) : X 397 [some (.ref 2000), some (.ref 0), some (.ref 31), some (.int (nI i))] [] 45 1000000 g := by
  obtain ⟨⟨P, w⟩, ⟨P2, w2⟩, ⟨lk, hlk6, hlk⟩, ⟨rk, hrk6, hrk⟩⟩ := id hw
  refine ca_aload_n hX (q := 398) 1 rfl rfl rfl dL_law_397 ?_
  refine ca_aload_n hX (q := 399) 0 rfl rfl rfl dL_law_398 ?_
  refine ca_iload_n hX (q := 400) 3 rfl rfl rfl dL_law_399 ?_
  refine ca_iconst hX (q := 401) k_iconst_1 rfl dL_law_400 ?_
  refine ca_iadd hX (q := 402) rfl dL_law_401 ?_
  refine ca_sld hX (q := 403) (j := i + 1) (nI_add i 1) (by omega) hL31 rfl dL_law_402 ?_
  refine ca_LV hX (q := 406) y_X5_nights w_ml_L_45 (by omega) hc.1 (k_nights l 45 g M t B hc (by omega) P w (xs (i + 1))) (by decide) rfl (Nat.le_of_ble_eq_true rfl) rfl dL_law_403 rfl ?_
  rintro _ g1 ⟨rfl, hf1, t1, B1, hc1⟩
  have hm1 := hm.fr hf1 (by omega)
  refine ca_aload_n hX (q := 407) 2 rfl rfl rfl dL_law_406 ?_
  refine ca_aload_n hX (q := 408) 0 rfl rfl rfl dL_law_407 ?_
  refine ca_iload_n hX (q := 409) 3 rfl rfl rfl dL_law_408 ?_
  refine ca_iconst hX (q := 410) k_iconst_1 rfl dL_law_409 ?_
  refine ca_iadd hX (q := 411) rfl dL_law_410 ?_
  refine ca_sld hX (q := 412) (j := i + 1) (nI_add i 1) (by omega) hL31 rfl dL_law_411 ?_
  refine ca_LV hX (q := 415) y_X6_nights w_ml_L_48 (by omega) hm1.1 (m_nights l 45 g1 31 M hm1 (by omega) hs4 P w (xs (i + 1))) (by decide) rfl (Nat.le_of_ble_eq_true rfl) rfl dL_law_412 rfl ?_
  rintro _ g2 ⟨rfl, hf2, M2, hm2, hke⟩
  refine ca_icmp_eq hX (q := 418) 1143 rfl rfl dL_law_415 (fun _ => ?_) (fun z => absurd rfl z)
  exact next g2 M2 t1 B1 (hke.cl (hc1.fr hf2 (by omega))) hm2 ((w_nights hw P w _).ke hke) hke.2.2.2.2.2.2.2.2

set_option maxRecDepth 100000 in
set_option maxHeartbeats 4000000 in
theorem lc_8 {l : Launch} {L : Nat} {xs : Nat → Int32} {post : ca_Post} {X : ca_J} (hX : ca_Good l yL_law code 4 ret 13 600000 7302250 0 0 (some (L, xs)) post X) (hL31 : L ≤ 3072) {i : Nat} (hi : i + 6 ≤ L) {g : ca_G} {M : Nat → Nat → Int32} {t : Nat → Int32} {B : Nat → Nat → Int32} (hc : clX g M t B) (hm : mdG g 31 M) (hw : wfM M) (hs4 : M 13 4 = 0) (next : ∀ (g2 : ca_G) (M2 : Nat → Nat → Int32) (t2 : Nat → Int32) (B2 : Nat → Nat → Int32), clX g2 M2 t2 B2 → mdG g2 31 M2 → wfM M2 → M2 13 4 = 0 → X 1143 [some (.ref 2000), some (.ref 0), some (.ref 31), some (.int (nI i))] [] 45 1000000 g2) : X 420 [some (.ref 2000), some (.ref 0), some (.ref 31), some (.int (nI i))] [] 45 1000000 g := by
  obtain ⟨⟨P, w⟩, ⟨P2, w2⟩, ⟨lk, hlk6, hlk⟩, ⟨rk, hrk6, hrk⟩⟩ := id hw
  refine ca_aload_n hX (q := 421) 1 rfl rfl rfl dL_law_420 ?_
  refine ca_aload_n hX (q := 422) 0 rfl rfl rfl dL_law_421 ?_
  refine ca_iload_n hX (q := 423) 3 rfl rfl rfl dL_law_422 ?_
  refine ca_iconst hX (q := 424) k_iconst_1 rfl dL_law_423 ?_
  refine ca_iadd hX (q := 425) rfl dL_law_424 ?_
  refine ca_sld hX (q := 426) (j := i + 1) (nI_add i 1) (by omega) hL31 rfl dL_law_425 ?_
  refine ca_aload_n hX (q := 427) 0 rfl rfl rfl dL_law_426 ?_
  refine ca_iload_n hX (q := 428) 3 rfl rfl rfl dL_law_427 ?_
  refine ca_iconst hX (q := 429) k_iconst_2 rfl dL_law_428 ?_
  refine ca_iadd hX (q := 430) rfl dL_law_429 ?_
  refine ca_sld hX (q := 431) (j := i + 2) (nI_add i 2) (by omega) hL31 rfl dL_law_430 ?_
  refine ca_aload_n hX (q := 432) 0 rfl rfl rfl dL_law_431 ?_
  refine ca_iload_n hX (q := 433) 3 rfl rfl rfl dL_law_432 ?_
  refine ca_iconst hX (q := 434) k_iconst_3 rfl dL_law_433 ?_
  refine ca_iadd hX (q := 435) rfl dL_law_434 ?_
  refine ca_sld hX (q := 436) (j := i + 3) (nI_add i 3) (by omega) hL31 rfl dL_law_435 ?_
  refine ca_LV hX (q := 439) y_X5_fire w_ml_L_49 (by omega) hc.1 (k_fire l 45 g M t B hc (by omega) P w (xs (i + 1)) (xs (i + 2)) (xs (i + 3))) (by decide) rfl (Nat.le_of_ble_eq_true rfl) rfl dL_law_436 rfl ?_
  rintro _ g1 ⟨rfl, hf1, t1, B1, hc1⟩
  have hm1 := hm.fr hf1 (by omega)
  refine ca_aload_n hX (q := 440) 2 rfl rfl rfl dL_law_439 ?_
  refine ca_aload_n hX (q := 441) 0 rfl rfl rfl dL_law_440 ?_
  refine ca_iload_n hX (q := 442) 3 rfl rfl rfl dL_law_441 ?_
  refine ca_iconst hX (q := 443) k_iconst_1 rfl dL_law_442 ?_
  refine ca_iadd hX (q := 444) rfl dL_law_443 ?_
  refine ca_sld hX (q := 445) (j := i + 1) (nI_add i 1) (by omega) hL31 rfl dL_law_444 ?_
  refine ca_aload_n hX (q := 446) 0 rfl rfl rfl dL_law_445 ?_
  refine ca_iload_n hX (q := 447) 3 rfl rfl rfl dL_law_446 ?_
  refine ca_iconst hX (q := 448) k_iconst_2 rfl dL_law_447 ?_
  refine ca_iadd hX (q := 449) rfl dL_law_448 ?_
  refine ca_sld hX (q := 450) (j := i + 2) (nI_add i 2) (by omega) hL31 rfl dL_law_449 ?_
  refine ca_aload_n hX (q := 451) 0 rfl rfl rfl dL_law_450 ?_
  refine ca_iload_n hX (q := 452) 3 rfl rfl rfl dL_law_451 ?_
  refine ca_iconst hX (q := 453) k_iconst_3 rfl dL_law_452 ?_
  refine ca_iadd hX (q := 454) rfl dL_law_453 ?_
  refine ca_sld hX (q := 455) (j := i + 3) (nI_add i 3) (by omega) hL31 rfl dL_law_454 ?_
  refine ca_LV hX (q := 458) y_X6_fire w_ml_L_52 (by omega) hm1.1 (m_fire l 45 g1 31 M hm1 (by omega) hs4 P w (xs (i + 1)) (xs (i + 2)) (xs (i + 3))) (by decide) rfl (Nat.le_of_ble_eq_true rfl) rfl dL_law_455 rfl ?_
  rintro _ g2 ⟨rfl, hf2, M2, hm2, hke⟩
  refine ca_icmp_eq hX (q := 461) 1143 rfl rfl dL_law_458 (fun _ => ?_) (fun z => absurd rfl z)
  exact next g2 M2 t1 B1 (hke.cl (hc1.fr hf2 (by omega))) hm2 ((w_fire hw _ _ _ _).ke hke) hke.2.2.2.2.2.2.2.2

set_option maxRecDepth 100000 in
set_option maxHeartbeats 4000000 in
theorem lc_9 {l : Launch} {L : Nat} {xs : Nat → Int32} {post : ca_Post} {X : ca_J} (hX : ca_Good l yL_law code 4 ret 13 600000 7302250 0 0 (some (L, xs)) post X) (hL31 : L ≤ 3072) {i : Nat} (hi : i + 6 ≤ L) {g : ca_G} {M : Nat → Nat → Int32} {t : Nat → Int32} {B : Nat → Nat → Int32} (hc : clX g M t B) (hm : mdG g 31 M) (hw : wfM M) (hs4 : M 13 4 = 0) (next : ∀ (g2 : ca_G) (M2 : Nat → Nat → Int32) (t2 : Nat → Int32) (B2 : Nat → Nat → Int32), clX g2 M2 t2 B2 → mdG g2 31 M2 → wfM M2 → M2 13 4 = 0 → X 1143 [some (.ref 2000), some (.ref 0), some (.ref 31), some (.int (nI i))] [] 45 1000000 g2) : X 463 [some (.ref 2000), some (.ref 0), some (.ref 31), some (.int (nI i))] [] 45 1000000 g := by
  obtain ⟨⟨P, w⟩, ⟨P2, w2⟩, ⟨lk, hlk6, hlk⟩, ⟨rk, hrk6, hrk⟩⟩ := id hw
  refine ca_aload_n hX (q := 464) 1 rfl rfl rfl dL_law_463 ?_
  refine ca_aload_n hX (q := 465) 0 rfl rfl rfl dL_law_464 ?_
  refine ca_iload_n hX (q := 466) 3 rfl rfl rfl dL_law_465 ?_
  refine ca_iconst hX (q := 467) k_iconst_1 rfl dL_law_466 ?_
  refine ca_iadd hX (q := 468) rfl dL_law_467 ?_
  refine ca_sld hX (q := 469) (j := i + 1) (nI_add i 1) (by omega) hL31 rfl dL_law_468 ?_
  refine ca_aload_n hX (q := 470) 0 rfl rfl rfl dL_law_469 ?_
  refine ca_iload_n hX (q := 471) 3 rfl rfl rfl dL_law_470 ?_
  refine ca_iconst hX (q := 472) k_iconst_2 rfl dL_law_471 ?_
  refine ca_iadd hX (q := 473) rfl dL_law_472 ?_
  refine ca_sld hX (q := 474) (j := i + 2) (nI_add i 2) (by omega) hL31 rfl dL_law_473 ?_
  refine ca_aload_n hX (q := 475) 0 rfl rfl rfl dL_law_474 ?_
  refine ca_iload_n hX (q := 476) 3 rfl rfl rfl dL_law_475 ?_
  refine ca_iconst hX (q := 477) k_iconst_3 rfl dL_law_476 ?_
  refine ca_iadd hX (q := 478) rfl dL_law_477 ?_
  refine ca_sld hX (q := 479) (j := i + 3) (nI_add i 3) (by omega) hL31 rfl dL_law_478 ?_
  refine ca_LV hX (q := 482) y_X5_burns w_ml_L_53 (by omega) hc.1 (k_burns l 45 g M t B hc (by omega) P w (xs (i + 1)) (xs (i + 2)) (xs (i + 3))) (by decide) rfl (Nat.le_of_ble_eq_true rfl) rfl dL_law_479 rfl ?_
  rintro _ g1 ⟨rfl, hf1, t1, B1, hc1⟩
  have hm1 := hm.fr hf1 (by omega)
  refine ca_aload_n hX (q := 483) 2 rfl rfl rfl dL_law_482 ?_
  refine ca_aload_n hX (q := 484) 0 rfl rfl rfl dL_law_483 ?_
  refine ca_iload_n hX (q := 485) 3 rfl rfl rfl dL_law_484 ?_
  refine ca_iconst hX (q := 486) k_iconst_1 rfl dL_law_485 ?_
  refine ca_iadd hX (q := 487) rfl dL_law_486 ?_
  refine ca_sld hX (q := 488) (j := i + 1) (nI_add i 1) (by omega) hL31 rfl dL_law_487 ?_
  refine ca_aload_n hX (q := 489) 0 rfl rfl rfl dL_law_488 ?_
  refine ca_iload_n hX (q := 490) 3 rfl rfl rfl dL_law_489 ?_
  refine ca_iconst hX (q := 491) k_iconst_2 rfl dL_law_490 ?_
  refine ca_iadd hX (q := 492) rfl dL_law_491 ?_
  refine ca_sld hX (q := 493) (j := i + 2) (nI_add i 2) (by omega) hL31 rfl dL_law_492 ?_
  refine ca_aload_n hX (q := 494) 0 rfl rfl rfl dL_law_493 ?_
  refine ca_iload_n hX (q := 495) 3 rfl rfl rfl dL_law_494 ?_
  refine ca_iconst hX (q := 496) k_iconst_3 rfl dL_law_495 ?_
  refine ca_iadd hX (q := 497) rfl dL_law_496 ?_
  refine ca_sld hX (q := 498) (j := i + 3) (nI_add i 3) (by omega) hL31 rfl dL_law_497 ?_
  refine ca_LV hX (q := 501) y_X6_burns_ w_ml_L_56 (by omega) hm1.1 (m_burns l 45 g1 31 M hm1 (by omega) hs4 P w (xs (i + 1)) (xs (i + 2)) (xs (i + 3))) (by decide) rfl (Nat.le_of_ble_eq_true rfl) rfl dL_law_498 rfl ?_
  rintro _ g2 ⟨rfl, hf2, M2, hm2, hke⟩
  refine ca_icmp_eq hX (q := 504) 1143 rfl rfl dL_law_501 (fun _ => ?_) (fun z => absurd rfl z)
  exact next g2 M2 t1 B1 (hke.cl (hc1.fr hf2 (by omega))) hm2 ((w_burns hw _ _ _ _).ke hke) hke.2.2.2.2.2.2.2.2

set_option maxRecDepth 100000 in
set_option maxHeartbeats 4000000 in
theorem lc_10 {l : Launch} {L : Nat} {xs : Nat → Int32} {post : ca_Post} {X : ca_J} (hX : ca_Good l yL_law code 4 ret 13 600000 7302250 0 0 (some (L, xs)) post X) (hL31 : L ≤ 3072) {i : Nat} (hi : i + 6 ≤ L) {g : ca_G} {M : Nat → Nat → Int32} {t : Nat → Int32} {B : Nat → Nat → Int32} (hc : clX g M t B) (hm : mdG g 31 M) (hw : wfM M) (hs4 : M 13 4 = 0) (next : ∀ (g2 : ca_G) (M2 : Nat → Nat → Int32) (t2 : Nat → Int32) (B2 : Nat → Nat → Int32), clX g2 M2 t2 B2 → mdG g2 31 M2 → wfM M2 → M2 13 4 = 0 → X 1143 [some (.ref 2000), some (.ref 0), some (.ref 31), some (.int (nI i))] [] 45 1000000 g2) : X 506 [some (.ref 2000), some (.ref 0), some (.ref 31), some (.int (nI i))] [] 45 1000000 g := by
  obtain ⟨⟨P, w⟩, ⟨P2, w2⟩, ⟨lk, hlk6, hlk⟩, ⟨rk, hrk6, hrk⟩⟩ := id hw
  refine ca_aload_n hX (q := 507) 1 rfl rfl rfl dL_law_506 ?_
  refine ca_aload_n hX (q := 508) 0 rfl rfl rfl dL_law_507 ?_
  refine ca_iload_n hX (q := 509) 3 rfl rfl rfl dL_law_508 ?_
  refine ca_iconst hX (q := 510) k_iconst_1 rfl dL_law_509 ?_
  refine ca_iadd hX (q := 511) rfl dL_law_510 ?_
  refine ca_sld hX (q := 512) (j := i + 1) (nI_add i 1) (by omega) hL31 rfl dL_law_511 ?_
  refine ca_aload_n hX (q := 513) 0 rfl rfl rfl dL_law_512 ?_
  refine ca_iload_n hX (q := 514) 3 rfl rfl rfl dL_law_513 ?_
  refine ca_iconst hX (q := 515) k_iconst_2 rfl dL_law_514 ?_
  refine ca_iadd hX (q := 516) rfl dL_law_515 ?_
  refine ca_sld hX (q := 517) (j := i + 2) (nI_add i 2) (by omega) hL31 rfl dL_law_516 ?_
  refine ca_aload_n hX (q := 518) 0 rfl rfl rfl dL_law_517 ?_
  refine ca_iload_n hX (q := 519) 3 rfl rfl rfl dL_law_518 ?_
  refine ca_iconst hX (q := 520) k_iconst_3 rfl dL_law_519 ?_
  refine ca_iadd hX (q := 521) rfl dL_law_520 ?_
  refine ca_sld hX (q := 522) (j := i + 3) (nI_add i 3) (by omega) hL31 rfl dL_law_521 ?_
  refine ca_aload_n hX (q := 523) 0 rfl rfl rfl dL_law_522 ?_
  refine ca_iload_n hX (q := 524) 3 rfl rfl rfl dL_law_523 ?_
  refine ca_iconst hX (q := 525) k_iconst_4 rfl dL_law_524 ?_
  refine ca_iadd hX (q := 526) rfl dL_law_525 ?_
  refine ca_sld hX (q := 527) (j := i + 4) (nI_add i 4) (by omega) hL31 rfl dL_law_526 ?_
  refine ca_LV hX (q := 530) y_X5_said w_ml_L_57 (by omega) hc.1 (k_said l 45 g M t B hc (by omega) P w (xs (i + 1)) (xs (i + 2)) (xs (i + 3)) (xs (i + 4))) (by decide) rfl (Nat.le_of_ble_eq_true rfl) rfl dL_law_527 rfl ?_
  rintro _ g1 ⟨rfl, hf1, t1, B1, hc1⟩
  have hm1 := hm.fr hf1 (by omega)
  refine ca_aload_n hX (q := 531) 2 rfl rfl rfl dL_law_530 ?_
  refine ca_aload_n hX (q := 532) 0 rfl rfl rfl dL_law_531 ?_
  refine ca_iload_n hX (q := 533) 3 rfl rfl rfl dL_law_532 ?_
  refine ca_iconst hX (q := 534) k_iconst_1 rfl dL_law_533 ?_
  refine ca_iadd hX (q := 535) rfl dL_law_534 ?_
  refine ca_sld hX (q := 536) (j := i + 1) (nI_add i 1) (by omega) hL31 rfl dL_law_535 ?_
  refine ca_aload_n hX (q := 537) 0 rfl rfl rfl dL_law_536 ?_
  refine ca_iload_n hX (q := 538) 3 rfl rfl rfl dL_law_537 ?_
  refine ca_iconst hX (q := 539) k_iconst_2 rfl dL_law_538 ?_
  refine ca_iadd hX (q := 540) rfl dL_law_539 ?_
  refine ca_sld hX (q := 541) (j := i + 2) (nI_add i 2) (by omega) hL31 rfl dL_law_540 ?_
  refine ca_aload_n hX (q := 542) 0 rfl rfl rfl dL_law_541 ?_
  refine ca_iload_n hX (q := 543) 3 rfl rfl rfl dL_law_542 ?_
  refine ca_iconst hX (q := 544) k_iconst_3 rfl dL_law_543 ?_
  refine ca_iadd hX (q := 545) rfl dL_law_544 ?_
  refine ca_sld hX (q := 546) (j := i + 3) (nI_add i 3) (by omega) hL31 rfl dL_law_545 ?_
  refine ca_aload_n hX (q := 547) 0 rfl rfl rfl dL_law_546 ?_
  refine ca_iload_n hX (q := 548) 3 rfl rfl rfl dL_law_547 ?_
  refine ca_iconst hX (q := 549) k_iconst_4 rfl dL_law_548 ?_
  refine ca_iadd hX (q := 550) rfl dL_law_549 ?_
  refine ca_sld hX (q := 551) (j := i + 4) (nI_add i 4) (by omega) hL31 rfl dL_law_550 ?_
  refine ca_LV hX (q := 554) y_X6_said w_ml_L_61 (by omega) hm1.1 (m_said l 45 g1 31 M hm1 (by omega) hs4 P w (xs (i + 1)) (xs (i + 2)) (xs (i + 3)) (xs (i + 4))) (by decide) rfl (Nat.le_of_ble_eq_true rfl) rfl dL_law_551 rfl ?_
  rintro _ g2 ⟨rfl, hf2, M2, hm2, hke⟩
  refine ca_icmp_eq hX (q := 557) 1143 rfl rfl dL_law_554 (fun _ => ?_) (fun z => absurd rfl z)
  exact next g2 M2 t1 B1 (hke.cl (hc1.fr hf2 (by omega))) hm2 ((w_said hw _ _ _ _ _).ke hke) hke.2.2.2.2.2.2.2.2

set_option maxRecDepth 100000 in
set_option maxHeartbeats 4000000 in
theorem lc_11 {l : Launch} {L : Nat} {xs : Nat → Int32} {post : ca_Post} {X : ca_J} (hX : ca_Good l yL_law code 4 ret 13 600000 7302250 0 0 (some (L, xs)) post X) (hL31 : L ≤ 3072) {i : Nat} (hi : i + 6 ≤ L) {g : ca_G} {M : Nat → Nat → Int32} {t : Nat → Int32} {B : Nat → Nat → Int32} (hc : clX g M t B) (hm : mdG g 31 M) (hw : wfM M) (hs4 : M 13 4 = 0) (next : ∀ (g2 : ca_G) (M2 : Nat → Nat → Int32) (t2 : Nat → Int32) (B2 : Nat → Nat → Int32), clX g2 M2 t2 B2 → mdG g2 31 M2 → wfM M2 → M2 13 4 = 0 → X 1143 [some (.ref 2000), some (.ref 0), some (.ref 31), some (.int (nI i))] [] 45 1000000 g2) : X 559 [some (.ref 2000), some (.ref 0), some (.ref 31), some (.int (nI i))] [] 45 1000000 g := by
  obtain ⟨⟨P, w⟩, ⟨P2, w2⟩, ⟨lk, hlk6, hlk⟩, ⟨rk, hrk6, hrk⟩⟩ := id hw
  refine ca_aload_n hX (q := 560) 1 rfl rfl rfl dL_law_559 ?_
  refine ca_aload_n hX (q := 561) 0 rfl rfl rfl dL_law_560 ?_
  refine ca_iload_n hX (q := 562) 3 rfl rfl rfl dL_law_561 ?_
  refine ca_iconst hX (q := 563) k_iconst_1 rfl dL_law_562 ?_
  refine ca_iadd hX (q := 564) rfl dL_law_563 ?_
  refine ca_sld hX (q := 565) (j := i + 1) (nI_add i 1) (by omega) hL31 rfl dL_law_564 ?_
  refine ca_aload_n hX (q := 566) 0 rfl rfl rfl dL_law_565 ?_
  refine ca_iload_n hX (q := 567) 3 rfl rfl rfl dL_law_566 ?_
  refine ca_iconst hX (q := 568) k_iconst_2 rfl dL_law_567 ?_
  refine ca_iadd hX (q := 569) rfl dL_law_568 ?_
  refine ca_sld hX (q := 570) (j := i + 2) (nI_add i 2) (by omega) hL31 rfl dL_law_569 ?_
  refine ca_LV hX (q := 573) y_X5_talker w_ml_L_62 (by omega) hc.1 (k_talker l 45 g M t B hc (by omega) P w (xs (i + 1)) (xs (i + 2))) (by decide) rfl (Nat.le_of_ble_eq_true rfl) rfl dL_law_570 rfl ?_
  rintro _ g1 ⟨rfl, hf1, t1, B1, hc1⟩
  have hm1 := hm.fr hf1 (by omega)
  refine ca_aload_n hX (q := 574) 2 rfl rfl rfl dL_law_573 ?_
  refine ca_aload_n hX (q := 575) 0 rfl rfl rfl dL_law_574 ?_
  refine ca_iload_n hX (q := 576) 3 rfl rfl rfl dL_law_575 ?_
  refine ca_iconst hX (q := 577) k_iconst_1 rfl dL_law_576 ?_
  refine ca_iadd hX (q := 578) rfl dL_law_577 ?_
  refine ca_sld hX (q := 579) (j := i + 1) (nI_add i 1) (by omega) hL31 rfl dL_law_578 ?_
  refine ca_aload_n hX (q := 580) 0 rfl rfl rfl dL_law_579 ?_
  refine ca_iload_n hX (q := 581) 3 rfl rfl rfl dL_law_580 ?_
  refine ca_iconst hX (q := 582) k_iconst_2 rfl dL_law_581 ?_
  refine ca_iadd hX (q := 583) rfl dL_law_582 ?_
  refine ca_sld hX (q := 584) (j := i + 2) (nI_add i 2) (by omega) hL31 rfl dL_law_583 ?_
  refine ca_LV hX (q := 587) y_X6_talker w_ml_L_65 (by omega) hm1.1 (m_talker l 45 g1 31 M hm1 (by omega) hs4 P w (xs (i + 1)) (xs (i + 2))) (by decide) rfl (Nat.le_of_ble_eq_true rfl) rfl dL_law_584 rfl ?_
  rintro _ g2 ⟨rfl, hf2, M2, hm2, hke⟩
  refine ca_icmp_eq hX (q := 590) 1143 rfl rfl dL_law_587 (fun _ => ?_) (fun z => absurd rfl z)
  exact next g2 M2 t1 B1 (hke.cl (hc1.fr hf2 (by omega))) hm2 ((w_talker hw _ _ _).ke hke) hke.2.2.2.2.2.2.2.2

set_option maxRecDepth 100000 in
set_option maxHeartbeats 4000000 in
theorem lc_12 {l : Launch} {L : Nat} {xs : Nat → Int32} {post : ca_Post} {X : ca_J} (hX : ca_Good l yL_law code 4 ret 13 600000 7302250 0 0 (some (L, xs)) post X) (hL31 : L ≤ 3072) {i : Nat} (hi : i + 6 ≤ L) {g : ca_G} {M : Nat → Nat → Int32} {t : Nat → Int32} {B : Nat → Nat → Int32} (hc : clX g M t B) (hm : mdG g 31 M) (hw : wfM M) (hs4 : M 13 4 = 0) (next : ∀ (g2 : ca_G) (M2 : Nat → Nat → Int32) (t2 : Nat → Int32) (B2 : Nat → Nat → Int32), clX g2 M2 t2 B2 → mdG g2 31 M2 → wfM M2 → M2 13 4 = 0 → X 1143 [some (.ref 2000), some (.ref 0), some (.ref 31), some (.int (nI i))] [] 45 1000000 g2) : X 592 [some (.ref 2000), some (.ref 0), some (.ref 31), some (.int (nI i))] [] 45 1000000 g := by
  obtain ⟨⟨P, w⟩, ⟨P2, w2⟩, ⟨lk, hlk6, hlk⟩, ⟨rk, hrk6, hrk⟩⟩ := id hw
  refine ca_aload_n hX (q := 593) 1 rfl rfl rfl dL_law_592 ?_
  refine ca_aload_n hX (q := 594) 0 rfl rfl rfl dL_law_593 ?_
  refine ca_iload_n hX (q := 595) 3 rfl rfl rfl dL_law_594 ?_
  refine ca_iconst hX (q := 596) k_iconst_1 rfl dL_law_595 ?_
  refine ca_iadd hX (q := 597) rfl dL_law_596 ?_
  refine ca_sld hX (q := 598) (j := i + 1) (nI_add i 1) (by omega) hL31 rfl dL_law_597 ?_
  refine ca_LV hX (q := 601) y_X5_alone w_ml_L_66 (by omega) hc.1 (k_alone l 45 g M t B hc (by omega) P w (xs (i + 1))) (by decide) rfl (Nat.le_of_ble_eq_true rfl) rfl dL_law_598 rfl ?_
  rintro _ g1 ⟨rfl, hf1, t1, B1, hc1⟩
  have hm1 := hm.fr hf1 (by omega)
  refine ca_aload_n hX (q := 602) 2 rfl rfl rfl dL_law_601 ?_
  refine ca_aload_n hX (q := 603) 0 rfl rfl rfl dL_law_602 ?_
  refine ca_iload_n hX (q := 604) 3 rfl rfl rfl dL_law_603 ?_
  refine ca_iconst hX (q := 605) k_iconst_1 rfl dL_law_604 ?_
  refine ca_iadd hX (q := 606) rfl dL_law_605 ?_
  refine ca_sld hX (q := 607) (j := i + 1) (nI_add i 1) (by omega) hL31 rfl dL_law_606 ?_
  refine ca_LV hX (q := 610) y_X6_alone w_ml_L_69 (by omega) hm1.1 (m_alone l 45 g1 31 M hm1 (by omega) hs4 P w (xs (i + 1))) (by decide) rfl (Nat.le_of_ble_eq_true rfl) rfl dL_law_607 rfl ?_
  rintro _ g2 ⟨rfl, hf2, M2, hm2, hke⟩
  refine ca_icmp_eq hX (q := 613) 1143 rfl rfl dL_law_610 (fun _ => ?_) (fun z => absurd rfl z)
  exact next g2 M2 t1 B1 (hke.cl (hc1.fr hf2 (by omega))) hm2 ((w_alone hw _).ke hke) hke.2.2.2.2.2.2.2.2

set_option maxRecDepth 100000 in
set_option maxHeartbeats 4000000 in
theorem lc_13 {l : Launch} {L : Nat} {xs : Nat → Int32} {post : ca_Post} {X : ca_J} (hX : ca_Good l yL_law code 4 ret 13 600000 7302250 0 0 (some (L, xs)) post X) (hL31 : L ≤ 3072) {i : Nat} (hi : i + 6 ≤ L) {g : ca_G} {M : Nat → Nat → Int32} {t : Nat → Int32} {B : Nat → Nat → Int32} (hc : clX g M t B) (hm : mdG g 31 M) (hw : wfM M) (hs4 : M 13 4 = 0) (next : ∀ (g2 : ca_G) (M2 : Nat → Nat → Int32) (t2 : Nat → Int32) (B2 : Nat → Nat → Int32), clX g2 M2 t2 B2 → mdG g2 31 M2 → wfM M2 → M2 13 4 = 0 → X 1143 [some (.ref 2000), some (.ref 0), some (.ref 31), some (.int (nI i))] [] 45 1000000 g2) : X 615 [some (.ref 2000), some (.ref 0), some (.ref 31), some (.int (nI i))] [] 45 1000000 g := by
  obtain ⟨⟨P, w⟩, ⟨P2, w2⟩, ⟨lk, hlk6, hlk⟩, ⟨rk, hrk6, hrk⟩⟩ := id hw
  refine ca_aload_n hX (q := 616) 1 rfl rfl rfl dL_law_615 ?_
  refine ca_aload_n hX (q := 617) 0 rfl rfl rfl dL_law_616 ?_
  refine ca_iload_n hX (q := 618) 3 rfl rfl rfl dL_law_617 ?_
  refine ca_iconst hX (q := 619) k_iconst_1 rfl dL_law_618 ?_
  refine ca_iadd hX (q := 620) rfl dL_law_619 ?_
  refine ca_sld hX (q := 621) (j := i + 1) (nI_add i 1) (by omega) hL31 rfl dL_law_620 ?_
  refine ca_LV hX (q := 624) y_X5_bestSpeaker w_ml_L_70 (by omega) hc.1 (k_bestSpeaker l 45 g M t B hc (by omega) P w (xs (i + 1))) (by decide) rfl (Nat.le_of_ble_eq_true rfl) rfl dL_law_621 rfl ?_
  rintro _ g1 ⟨rfl, hf1, t1, B1, hc1⟩
  have hm1 := hm.fr hf1 (by omega)
  refine ca_aload_n hX (q := 625) 2 rfl rfl rfl dL_law_624 ?_
  refine ca_aload_n hX (q := 626) 0 rfl rfl rfl dL_law_625 ?_
  refine ca_iload_n hX (q := 627) 3 rfl rfl rfl dL_law_626 ?_
  refine ca_iconst hX (q := 628) k_iconst_1 rfl dL_law_627 ?_
  refine ca_iadd hX (q := 629) rfl dL_law_628 ?_
  refine ca_sld hX (q := 630) (j := i + 1) (nI_add i 1) (by omega) hL31 rfl dL_law_629 ?_
  refine ca_LV hX (q := 633) y_X6_bestSpeaker w_ml_L_73 (by omega) hm1.1 (m_bestSpeaker l 45 g1 31 M hm1 (by omega) hs4 P w (xs (i + 1))) (by decide) rfl (Nat.le_of_ble_eq_true rfl) rfl dL_law_630 rfl ?_
  rintro _ g2 ⟨rfl, hf2, M2, hm2, hke⟩
  refine ca_icmp_eq hX (q := 636) 1143 rfl rfl dL_law_633 (fun _ => ?_) (fun z => absurd rfl z)
  exact next g2 M2 t1 B1 (hke.cl (hc1.fr hf2 (by omega))) hm2 ((w_bestSpeaker hw _ _).ke hke) hke.2.2.2.2.2.2.2.2

set_option maxRecDepth 100000 in
set_option maxHeartbeats 4000000 in
theorem lc_14 {l : Launch} {L : Nat} {xs : Nat → Int32} {post : ca_Post} {X : ca_J} (hX : ca_Good l yL_law code 4 ret 13 600000 7302250 0 0 (some (L, xs)) post X) (hL31 : L ≤ 3072) {i : Nat} (hi : i + 6 ≤ L) {g : ca_G} {M : Nat → Nat → Int32} {t : Nat → Int32} {B : Nat → Nat → Int32} (hc : clX g M t B) (hm : mdG g 31 M) (hw : wfM M) (hs4 : M 13 4 = 0) (next : ∀ (g2 : ca_G) (M2 : Nat → Nat → Int32) (t2 : Nat → Int32) (B2 : Nat → Nat → Int32), clX g2 M2 t2 B2 → mdG g2 31 M2 → wfM M2 → M2 13 4 = 0 → X 1143 [some (.ref 2000), some (.ref 0), some (.ref 31), some (.int (nI i))] [] 45 1000000 g2) : X 638 [some (.ref 2000), some (.ref 0), some (.ref 31), some (.int (nI i))] [] 45 1000000 g := by
  obtain ⟨⟨P, w⟩, ⟨P2, w2⟩, ⟨lk, hlk6, hlk⟩, ⟨rk, hrk6, hrk⟩⟩ := id hw
  refine ca_aload_n hX (q := 639) 1 rfl rfl rfl dL_law_638 ?_
  refine ca_LV hX (q := 642) y_X5_worstRoom w_ml_L_74 (by omega) hc.1 (k_worstRoom l 45 g M t B hc (by omega) P w) (by decide) rfl (Nat.le_of_ble_eq_true rfl) rfl dL_law_639 rfl ?_
  rintro _ g1 ⟨rfl, hf1, t1, B1, hc1⟩
  have hm1 := hm.fr hf1 (by omega)
  refine ca_aload_n hX (q := 643) 2 rfl rfl rfl dL_law_642 ?_
  refine ca_LV hX (q := 646) y_X6_worstRoom w_ml_L_77 (by omega) hm1.1 (m_worstRoom l 45 g1 31 M hm1 (by omega) hs4 P w) (by decide) rfl (Nat.le_of_ble_eq_true rfl) rfl dL_law_643 rfl ?_
  rintro _ g2 ⟨rfl, hf2, M2, hm2, hke⟩
  refine ca_icmp_eq hX (q := 649) 1143 rfl rfl dL_law_646 (fun _ => ?_) (fun z => absurd rfl z)
  exact next g2 M2 t1 B1 (hke.cl (hc1.fr hf2 (by omega))) hm2 ((w_worstRoom hw _).ke hke) hke.2.2.2.2.2.2.2.2

set_option maxRecDepth 100000 in
set_option maxHeartbeats 4000000 in
theorem lc_15 {l : Launch} {L : Nat} {xs : Nat → Int32} {post : ca_Post} {X : ca_J} (hX : ca_Good l yL_law code 4 ret 13 600000 7302250 0 0 (some (L, xs)) post X) (hL31 : L ≤ 3072) {i : Nat} (hi : i + 6 ≤ L) {g : ca_G} {M : Nat → Nat → Int32} {t : Nat → Int32} {B : Nat → Nat → Int32} (hc : clX g M t B) (hm : mdG g 31 M) (hw : wfM M) (hs4 : M 13 4 = 0) (next : ∀ (g2 : ca_G) (M2 : Nat → Nat → Int32) (t2 : Nat → Int32) (B2 : Nat → Nat → Int32), clX g2 M2 t2 B2 → mdG g2 31 M2 → wfM M2 → M2 13 4 = 0 → X 1143 [some (.ref 2000), some (.ref 0), some (.ref 31), some (.int (nI i))] [] 45 1000000 g2) : X 651 [some (.ref 2000), some (.ref 0), some (.ref 31), some (.int (nI i))] [] 45 1000000 g := by
  obtain ⟨⟨P, w⟩, ⟨P2, w2⟩, ⟨lk, hlk6, hlk⟩, ⟨rk, hrk6, hrk⟩⟩ := id hw
  refine ca_aload_n hX (q := 652) 1 rfl rfl rfl dL_law_651 ?_
  refine ca_aload_n hX (q := 653) 0 rfl rfl rfl dL_law_652 ?_
  refine ca_iload_n hX (q := 654) 3 rfl rfl rfl dL_law_653 ?_
  refine ca_iconst hX (q := 655) k_iconst_1 rfl dL_law_654 ?_
  refine ca_iadd hX (q := 656) rfl dL_law_655 ?_
  refine ca_sld hX (q := 657) (j := i + 1) (nI_add i 1) (by omega) hL31 rfl dL_law_656 ?_
  refine ca_aload_n hX (q := 658) 0 rfl rfl rfl dL_law_657 ?_
  refine ca_iload_n hX (q := 659) 3 rfl rfl rfl dL_law_658 ?_
  refine ca_iconst hX (q := 660) k_iconst_2 rfl dL_law_659 ?_
  refine ca_iadd hX (q := 661) rfl dL_law_660 ?_
  refine ca_sld hX (q := 662) (j := i + 2) (nI_add i 2) (by omega) hL31 rfl dL_law_661 ?_
  refine ca_LV hX (q := 665) y_X5_show w_ml_L_78 (by omega) hc.1 (k_show l 45 g M t B hc (by omega) P w (xs (i + 1)) (xs (i + 2))) (by decide) rfl (Nat.le_of_ble_eq_true rfl) rfl dL_law_662 rfl ?_
  rintro _ g1 ⟨rfl, hf1, t1, B1, hc1⟩
  have hm1 := hm.fr hf1 (by omega)
  refine ca_aload_n hX (q := 666) 2 rfl rfl rfl dL_law_665 ?_
  refine ca_aload_n hX (q := 667) 0 rfl rfl rfl dL_law_666 ?_
  refine ca_iload_n hX (q := 668) 3 rfl rfl rfl dL_law_667 ?_
  refine ca_iconst hX (q := 669) k_iconst_1 rfl dL_law_668 ?_
  refine ca_iadd hX (q := 670) rfl dL_law_669 ?_
  refine ca_sld hX (q := 671) (j := i + 1) (nI_add i 1) (by omega) hL31 rfl dL_law_670 ?_
  refine ca_aload_n hX (q := 672) 0 rfl rfl rfl dL_law_671 ?_
  refine ca_iload_n hX (q := 673) 3 rfl rfl rfl dL_law_672 ?_
  refine ca_iconst hX (q := 674) k_iconst_2 rfl dL_law_673 ?_
  refine ca_iadd hX (q := 675) rfl dL_law_674 ?_
  refine ca_sld hX (q := 676) (j := i + 2) (nI_add i 2) (by omega) hL31 rfl dL_law_675 ?_
  refine ca_LV hX (q := 679) y_X6_show w_ml_L_81 (by omega) hm1.1 (m_show l 45 g1 31 M hm1 (by omega) hs4 P w (xs (i + 1)) (xs (i + 2))) (by decide) rfl (Nat.le_of_ble_eq_true rfl) rfl dL_law_676 rfl ?_
  rintro _ g2 ⟨rfl, hf2, M2, hm2, hke⟩
  refine ca_icmp_eq hX (q := 682) 1143 rfl rfl dL_law_679 (fun _ => ?_) (fun z => absurd rfl z)
  exact next g2 M2 t1 B1 (hke.cl (hc1.fr hf2 (by omega))) hm2 ((w_show hw _ _ _).ke hke) hke.2.2.2.2.2.2.2.2

set_option maxRecDepth 100000 in
set_option maxHeartbeats 4000000 in
theorem lc_16 {l : Launch} {L : Nat} {xs : Nat → Int32} {post : ca_Post} {X : ca_J} (hX : ca_Good l yL_law code 4 ret 13 600000 7302250 0 0 (some (L, xs)) post X) (hL31 : L ≤ 3072) {i : Nat} (hi : i + 6 ≤ L) {g : ca_G} {M : Nat → Nat → Int32} {t : Nat → Int32} {B : Nat → Nat → Int32} (hc : clX g M t B) (hm : mdG g 31 M) (hw : wfM M) (hs4 : M 13 4 = 0) (next : ∀ (g2 : ca_G) (M2 : Nat → Nat → Int32) (t2 : Nat → Int32) (B2 : Nat → Nat → Int32), clX g2 M2 t2 B2 → mdG g2 31 M2 → wfM M2 → M2 13 4 = 0 → X 1143 [some (.ref 2000), some (.ref 0), some (.ref 31), some (.int (nI i))] [] 45 1000000 g2) : X 684 [some (.ref 2000), some (.ref 0), some (.ref 31), some (.int (nI i))] [] 45 1000000 g := by
  obtain ⟨⟨P, w⟩, ⟨P2, w2⟩, ⟨lk, hlk6, hlk⟩, ⟨rk, hrk6, hrk⟩⟩ := id hw
  refine ca_aload_n hX (q := 685) 1 rfl rfl rfl dL_law_684 ?_
  refine ca_aload_n hX (q := 686) 0 rfl rfl rfl dL_law_685 ?_
  refine ca_iload_n hX (q := 687) 3 rfl rfl rfl dL_law_686 ?_
  refine ca_iconst hX (q := 688) k_iconst_1 rfl dL_law_687 ?_
  refine ca_iadd hX (q := 689) rfl dL_law_688 ?_
  refine ca_sld hX (q := 690) (j := i + 1) (nI_add i 1) (by omega) hL31 rfl dL_law_689 ?_
  refine ca_LV hX (q := 693) y_X5_mayWait w_ml_L_82 (by omega) hc.1 (k_mayWait l 45 g M t B hc (by omega) P w (xs (i + 1))) (by decide) rfl (Nat.le_of_ble_eq_true rfl) rfl dL_law_690 rfl ?_
  rintro _ g1 ⟨rfl, hf1, t1, B1, hc1⟩
  have hm1 := hm.fr hf1 (by omega)
  refine ca_aload_n hX (q := 694) 2 rfl rfl rfl dL_law_693 ?_
  refine ca_aload_n hX (q := 695) 0 rfl rfl rfl dL_law_694 ?_
  refine ca_iload_n hX (q := 696) 3 rfl rfl rfl dL_law_695 ?_
  refine ca_iconst hX (q := 697) k_iconst_1 rfl dL_law_696 ?_
  refine ca_iadd hX (q := 698) rfl dL_law_697 ?_
  refine ca_sld hX (q := 699) (j := i + 1) (nI_add i 1) (by omega) hL31 rfl dL_law_698 ?_
  refine ca_LV hX (q := 702) y_X6_mayWait w_ml_L_85 (by omega) hm1.1 (m_mayWait l 45 g1 31 M hm1 (by omega) hs4 P w (xs (i + 1))) (by decide) rfl (Nat.le_of_ble_eq_true rfl) rfl dL_law_699 rfl ?_
  rintro _ g2 ⟨rfl, hf2, M2, hm2, hke⟩
  refine ca_icmp_eq hX (q := 705) 1143 rfl rfl dL_law_702 (fun _ => ?_) (fun z => absurd rfl z)
  exact next g2 M2 t1 B1 (hke.cl (hc1.fr hf2 (by omega))) hm2 ((w_mayWait hw _ _).ke hke) hke.2.2.2.2.2.2.2.2

set_option maxRecDepth 100000 in
set_option maxHeartbeats 4000000 in
theorem lc_17 {l : Launch} {L : Nat} {xs : Nat → Int32} {post : ca_Post} {X : ca_J} (hX : ca_Good l yL_law code 4 ret 13 600000 7302250 0 0 (some (L, xs)) post X) (hL31 : L ≤ 3072) {i : Nat} (hi : i + 6 ≤ L) {g : ca_G} {M : Nat → Nat → Int32} {t : Nat → Int32} {B : Nat → Nat → Int32} (hc : clX g M t B) (hm : mdG g 31 M) (hw : wfM M) (hs4 : M 13 4 = 0) (next : ∀ (g2 : ca_G) (M2 : Nat → Nat → Int32) (t2 : Nat → Int32) (B2 : Nat → Nat → Int32), clX g2 M2 t2 B2 → mdG g2 31 M2 → wfM M2 → M2 13 4 = 0 → X 1143 [some (.ref 2000), some (.ref 0), some (.ref 31), some (.int (nI i))] [] 45 1000000 g2) : X 707 [some (.ref 2000), some (.ref 0), some (.ref 31), some (.int (nI i))] [] 45 1000000 g := by
  obtain ⟨⟨P, w⟩, ⟨P2, w2⟩, ⟨lk, hlk6, hlk⟩, ⟨rk, hrk6, hrk⟩⟩ := id hw
  refine ca_aload_n hX (q := 708) 1 rfl rfl rfl dL_law_707 ?_
  refine ca_aload_n hX (q := 709) 0 rfl rfl rfl dL_law_708 ?_
  refine ca_iload_n hX (q := 710) 3 rfl rfl rfl dL_law_709 ?_
  refine ca_iconst hX (q := 711) k_iconst_1 rfl dL_law_710 ?_
  refine ca_iadd hX (q := 712) rfl dL_law_711 ?_
  refine ca_sld hX (q := 713) (j := i + 1) (nI_add i 1) (by omega) hL31 rfl dL_law_712 ?_
  refine ca_LV hX (q := 716) y_X5_leftOut w_ml_L_86 (by omega) hc.1 (k_leftOut l 45 g M t B hc (by omega) P w (xs (i + 1))) (by decide) rfl (Nat.le_of_ble_eq_true rfl) rfl dL_law_713 rfl ?_
  rintro _ g1 ⟨rfl, hf1, t1, B1, hc1⟩
  have hm1 := hm.fr hf1 (by omega)
  refine ca_aload_n hX (q := 717) 2 rfl rfl rfl dL_law_716 ?_
  refine ca_aload_n hX (q := 718) 0 rfl rfl rfl dL_law_717 ?_
  refine ca_iload_n hX (q := 719) 3 rfl rfl rfl dL_law_718 ?_
  refine ca_iconst hX (q := 720) k_iconst_1 rfl dL_law_719 ?_
  refine ca_iadd hX (q := 721) rfl dL_law_720 ?_
  refine ca_sld hX (q := 722) (j := i + 1) (nI_add i 1) (by omega) hL31 rfl dL_law_721 ?_
  refine ca_LV hX (q := 725) y_X6_leftOut w_ml_L_89 (by omega) hm1.1 (m_leftOut l 45 g1 31 M hm1 (by omega) hs4 P w (xs (i + 1))) (by decide) rfl (Nat.le_of_ble_eq_true rfl) rfl dL_law_722 rfl ?_
  rintro _ g2 ⟨rfl, hf2, M2, hm2, hke⟩
  refine ca_icmp_eq hX (q := 728) 1143 rfl rfl dL_law_725 (fun _ => ?_) (fun z => absurd rfl z)
  exact next g2 M2 t1 B1 (hke.cl (hc1.fr hf2 (by omega))) hm2 ((w_leftOut hw _ _).ke hke) hke.2.2.2.2.2.2.2.2

set_option maxRecDepth 100000 in
set_option maxHeartbeats 4000000 in
theorem lc_18 {l : Launch} {L : Nat} {xs : Nat → Int32} {post : ca_Post} {X : ca_J} (hX : ca_Good l yL_law code 4 ret 13 600000 7302250 0 0 (some (L, xs)) post X) (hL31 : L ≤ 3072) {i : Nat} (hi : i + 6 ≤ L) {g : ca_G} {M : Nat → Nat → Int32} {t : Nat → Int32} {B : Nat → Nat → Int32} (hc : clX g M t B) (hm : mdG g 31 M) (hw : wfM M) (hs4 : M 13 4 = 0) (next : ∀ (g2 : ca_G) (M2 : Nat → Nat → Int32) (t2 : Nat → Int32) (B2 : Nat → Nat → Int32), clX g2 M2 t2 B2 → mdG g2 31 M2 → wfM M2 → M2 13 4 = 0 → X 1143 [some (.ref 2000), some (.ref 0), some (.ref 31), some (.int (nI i))] [] 45 1000000 g2) : X 730 [some (.ref 2000), some (.ref 0), some (.ref 31), some (.int (nI i))] [] 45 1000000 g := by
  obtain ⟨⟨P, w⟩, ⟨P2, w2⟩, ⟨lk, hlk6, hlk⟩, ⟨rk, hrk6, hrk⟩⟩ := id hw
  refine ca_aload_n hX (q := 731) 1 rfl rfl rfl dL_law_730 ?_
  refine ca_aload_n hX (q := 732) 0 rfl rfl rfl dL_law_731 ?_
  refine ca_iload_n hX (q := 733) 3 rfl rfl rfl dL_law_732 ?_
  refine ca_iconst hX (q := 734) k_iconst_1 rfl dL_law_733 ?_
  refine ca_iadd hX (q := 735) rfl dL_law_734 ?_
  refine ca_sld hX (q := 736) (j := i + 1) (nI_add i 1) (by omega) hL31 rfl dL_law_735 ?_
  refine ca_LV hX (q := 739) y_X5_enough w_ml_L_90 (by omega) hc.1 (k_enough l 45 g M t B hc (by omega) P w (xs (i + 1))) (by decide) rfl (Nat.le_of_ble_eq_true rfl) rfl dL_law_736 rfl ?_
  rintro _ g1 ⟨rfl, hf1, t1, B1, hc1⟩
  have hm1 := hm.fr hf1 (by omega)
  refine ca_aload_n hX (q := 740) 2 rfl rfl rfl dL_law_739 ?_
  refine ca_aload_n hX (q := 741) 0 rfl rfl rfl dL_law_740 ?_
  refine ca_iload_n hX (q := 742) 3 rfl rfl rfl dL_law_741 ?_
  refine ca_iconst hX (q := 743) k_iconst_1 rfl dL_law_742 ?_
  refine ca_iadd hX (q := 744) rfl dL_law_743 ?_
  refine ca_sld hX (q := 745) (j := i + 1) (nI_add i 1) (by omega) hL31 rfl dL_law_744 ?_
  refine ca_LV hX (q := 748) y_X6_enough w_ml_L_93 (by omega) hm1.1 (m_enough l 45 g1 31 M hm1 (by omega) hs4 P w (xs (i + 1))) (by decide) rfl (Nat.le_of_ble_eq_true rfl) rfl dL_law_745 rfl ?_
  rintro _ g2 ⟨rfl, hf2, M2, hm2, hke⟩
  refine ca_icmp_eq hX (q := 751) 1143 rfl rfl dL_law_748 (fun _ => ?_) (fun z => absurd rfl z)
  exact next g2 M2 t1 B1 (hke.cl (hc1.fr hf2 (by omega))) hm2 ((w_enough hw _ _).ke hke) hke.2.2.2.2.2.2.2.2

set_option maxRecDepth 100000 in
set_option maxHeartbeats 4000000 in
theorem lc_19 {l : Launch} {L : Nat} {xs : Nat → Int32} {post : ca_Post} {X : ca_J} (hX : ca_Good l yL_law code 4 ret 13 600000 7302250 0 0 (some (L, xs)) post X) (hL31 : L ≤ 3072) {i : Nat} (hi : i + 6 ≤ L) {g : ca_G} {M : Nat → Nat → Int32} {t : Nat → Int32} {B : Nat → Nat → Int32} (hc : clX g M t B) (hm : mdG g 31 M) (hw : wfM M) (hs4 : M 13 4 = 0) (next : ∀ (g2 : ca_G) (M2 : Nat → Nat → Int32) (t2 : Nat → Int32) (B2 : Nat → Nat → Int32), clX g2 M2 t2 B2 → mdG g2 31 M2 → wfM M2 → M2 13 4 = 0 → X 1143 [some (.ref 2000), some (.ref 0), some (.ref 31), some (.int (nI i))] [] 45 1000000 g2) : X 753 [some (.ref 2000), some (.ref 0), some (.ref 31), some (.int (nI i))] [] 45 1000000 g := by
  obtain ⟨⟨P, w⟩, ⟨P2, w2⟩, ⟨lk, hlk6, hlk⟩, ⟨rk, hrk6, hrk⟩⟩ := id hw
  refine ca_aload_n hX (q := 754) 1 rfl rfl rfl dL_law_753 ?_
  refine ca_aload_n hX (q := 755) 0 rfl rfl rfl dL_law_754 ?_
  refine ca_iload_n hX (q := 756) 3 rfl rfl rfl dL_law_755 ?_
  refine ca_iconst hX (q := 757) k_iconst_1 rfl dL_law_756 ?_
  refine ca_iadd hX (q := 758) rfl dL_law_757 ?_
  refine ca_sld hX (q := 759) (j := i + 1) (nI_add i 1) (by omega) hL31 rfl dL_law_758 ?_
  refine ca_LV hX (q := 762) y_X5_wall w_ml_L_94 (by omega) hc.1 (k_wall l 45 g M t B hc (by omega) P w (xs (i + 1))) (by decide) rfl (Nat.le_of_ble_eq_true rfl) rfl dL_law_759 rfl ?_
  rintro _ g1 ⟨rfl, hf1, t1, B1, hc1⟩
  have hm1 := hm.fr hf1 (by omega)
  refine ca_aload_n hX (q := 763) 2 rfl rfl rfl dL_law_762 ?_
  refine ca_aload_n hX (q := 764) 0 rfl rfl rfl dL_law_763 ?_
  refine ca_iload_n hX (q := 765) 3 rfl rfl rfl dL_law_764 ?_
  refine ca_iconst hX (q := 766) k_iconst_1 rfl dL_law_765 ?_
  refine ca_iadd hX (q := 767) rfl dL_law_766 ?_
  refine ca_sld hX (q := 768) (j := i + 1) (nI_add i 1) (by omega) hL31 rfl dL_law_767 ?_
  refine ca_LV hX (q := 771) y_X6_wall w_ml_L_97 (by omega) hm1.1 (m_wall l 45 g1 31 M hm1 (by omega) hs4 P w (xs (i + 1))) (by decide) rfl (Nat.le_of_ble_eq_true rfl) rfl dL_law_768 rfl ?_
  rintro _ g2 ⟨rfl, hf2, M2, hm2, hke⟩
  refine ca_icmp_eq hX (q := 774) 1143 rfl rfl dL_law_771 (fun _ => ?_) (fun z => absurd rfl z)
  exact next g2 M2 t1 B1 (hke.cl (hc1.fr hf2 (by omega))) hm2 ((w_wall hw _ _).ke hke) hke.2.2.2.2.2.2.2.2

set_option maxRecDepth 100000 in
set_option maxHeartbeats 4000000 in
theorem lc_20 {l : Launch} {L : Nat} {xs : Nat → Int32} {post : ca_Post} {X : ca_J} (hX : ca_Good l yL_law code 4 ret 13 600000 7302250 0 0 (some (L, xs)) post X) (hL31 : L ≤ 3072) {i : Nat} (hi : i + 6 ≤ L) {g : ca_G} {M : Nat → Nat → Int32} {t : Nat → Int32} {B : Nat → Nat → Int32} (hc : clX g M t B) (hm : mdG g 31 M) (hw : wfM M) (hs4 : M 13 4 = 0) (next : ∀ (g2 : ca_G) (M2 : Nat → Nat → Int32) (t2 : Nat → Int32) (B2 : Nat → Nat → Int32), clX g2 M2 t2 B2 → mdG g2 31 M2 → wfM M2 → M2 13 4 = 0 → X 1143 [some (.ref 2000), some (.ref 0), some (.ref 31), some (.int (nI i))] [] 45 1000000 g2) : X 776 [some (.ref 2000), some (.ref 0), some (.ref 31), some (.int (nI i))] [] 45 1000000 g := by
  obtain ⟨⟨P, w⟩, ⟨P2, w2⟩, ⟨lk, hlk6, hlk⟩, ⟨rk, hrk6, hrk⟩⟩ := id hw
  refine ca_aload_n hX (q := 777) 1 rfl rfl rfl dL_law_776 ?_
  refine ca_aload_n hX (q := 778) 0 rfl rfl rfl dL_law_777 ?_
  refine ca_iload_n hX (q := 779) 3 rfl rfl rfl dL_law_778 ?_
  refine ca_iconst hX (q := 780) k_iconst_1 rfl dL_law_779 ?_
  refine ca_iadd hX (q := 781) rfl dL_law_780 ?_
  refine ca_sld hX (q := 782) (j := i + 1) (nI_add i 1) (by omega) hL31 rfl dL_law_781 ?_
  refine ca_aload_n hX (q := 783) 0 rfl rfl rfl dL_law_782 ?_
  refine ca_iload_n hX (q := 784) 3 rfl rfl rfl dL_law_783 ?_
  refine ca_iconst hX (q := 785) k_iconst_2 rfl dL_law_784 ?_
  refine ca_iadd hX (q := 786) rfl dL_law_785 ?_
  refine ca_sld hX (q := 787) (j := i + 2) (nI_add i 2) (by omega) hL31 rfl dL_law_786 ?_
  refine ca_aload_n hX (q := 788) 0 rfl rfl rfl dL_law_787 ?_
  refine ca_iload_n hX (q := 789) 3 rfl rfl rfl dL_law_788 ?_
  refine ca_iconst hX (q := 790) k_iconst_3 rfl dL_law_789 ?_
  refine ca_iadd hX (q := 791) rfl dL_law_790 ?_
  refine ca_sld hX (q := 792) (j := i + 3) (nI_add i 3) (by omega) hL31 rfl dL_law_791 ?_
  refine ca_LV hX (q := 795) y_X5_captain w_ml_L_98 (by omega) hc.1 (k_captain l 45 g M t B hc (by omega) P w (xs (i + 1)) (xs (i + 2)) (xs (i + 3))) (by decide) rfl (Nat.le_of_ble_eq_true rfl) rfl dL_law_792 rfl ?_
  rintro _ g1 ⟨rfl, hf1, t1, B1, hc1⟩
  have hm1 := hm.fr hf1 (by omega)
  refine ca_aload_n hX (q := 796) 2 rfl rfl rfl dL_law_795 ?_
  refine ca_aload_n hX (q := 797) 0 rfl rfl rfl dL_law_796 ?_
  refine ca_iload_n hX (q := 798) 3 rfl rfl rfl dL_law_797 ?_
  refine ca_iconst hX (q := 799) k_iconst_1 rfl dL_law_798 ?_
  refine ca_iadd hX (q := 800) rfl dL_law_799 ?_
  refine ca_sld hX (q := 801) (j := i + 1) (nI_add i 1) (by omega) hL31 rfl dL_law_800 ?_
  refine ca_aload_n hX (q := 802) 0 rfl rfl rfl dL_law_801 ?_
  refine ca_iload_n hX (q := 803) 3 rfl rfl rfl dL_law_802 ?_
  refine ca_iconst hX (q := 804) k_iconst_2 rfl dL_law_803 ?_
  refine ca_iadd hX (q := 805) rfl dL_law_804 ?_
  refine ca_sld hX (q := 806) (j := i + 2) (nI_add i 2) (by omega) hL31 rfl dL_law_805 ?_
  refine ca_aload_n hX (q := 807) 0 rfl rfl rfl dL_law_806 ?_
  refine ca_iload_n hX (q := 808) 3 rfl rfl rfl dL_law_807 ?_
  refine ca_iconst hX (q := 809) k_iconst_3 rfl dL_law_808 ?_
  refine ca_iadd hX (q := 810) rfl dL_law_809 ?_
  refine ca_sld hX (q := 811) (j := i + 3) (nI_add i 3) (by omega) hL31 rfl dL_law_810 ?_
  refine ca_LV hX (q := 814) y_X6_captain w_ml_L_101 (by omega) hm1.1 (m_captain l 45 g1 31 M hm1 (by omega) hs4 P w (xs (i + 1)) (xs (i + 2)) (xs (i + 3))) (by decide) rfl (Nat.le_of_ble_eq_true rfl) rfl dL_law_811 rfl ?_
  rintro _ g2 ⟨rfl, hf2, M2, hm2, hke⟩
  refine ca_icmp_eq hX (q := 817) 1143 rfl rfl dL_law_814 (fun _ => ?_) (fun z => absurd rfl z)
  exact next g2 M2 t1 B1 (hke.cl (hc1.fr hf2 (by omega))) hm2 ((w_captain hw _ _ _ _).ke hke) hke.2.2.2.2.2.2.2.2

set_option maxRecDepth 100000 in
set_option maxHeartbeats 4000000 in
theorem lc_21 {l : Launch} {L : Nat} {xs : Nat → Int32} {post : ca_Post} {X : ca_J} (hX : ca_Good l yL_law code 4 ret 13 600000 7302250 0 0 (some (L, xs)) post X) (hL31 : L ≤ 3072) {i : Nat} (hi : i + 6 ≤ L) {g : ca_G} {M : Nat → Nat → Int32} {t : Nat → Int32} {B : Nat → Nat → Int32} (hc : clX g M t B) (hm : mdG g 31 M) (hw : wfM M) (hs4 : M 13 4 = 0) (next : ∀ (g2 : ca_G) (M2 : Nat → Nat → Int32) (t2 : Nat → Int32) (B2 : Nat → Nat → Int32), clX g2 M2 t2 B2 → mdG g2 31 M2 → wfM M2 → M2 13 4 = 0 → X 1143 [some (.ref 2000), some (.ref 0), some (.ref 31), some (.int (nI i))] [] 45 1000000 g2) : X 819 [some (.ref 2000), some (.ref 0), some (.ref 31), some (.int (nI i))] [] 45 1000000 g := by
  obtain ⟨⟨P, w⟩, ⟨P2, w2⟩, ⟨lk, hlk6, hlk⟩, ⟨rk, hrk6, hrk⟩⟩ := id hw
  refine ca_aload_n hX (q := 820) 1 rfl rfl rfl dL_law_819 ?_
  refine ca_aload_n hX (q := 821) 0 rfl rfl rfl dL_law_820 ?_
  refine ca_iload_n hX (q := 822) 3 rfl rfl rfl dL_law_821 ?_
  refine ca_iconst hX (q := 823) k_iconst_1 rfl dL_law_822 ?_
  refine ca_iadd hX (q := 824) rfl dL_law_823 ?_
  refine ca_sld hX (q := 825) (j := i + 1) (nI_add i 1) (by omega) hL31 rfl dL_law_824 ?_
  refine ca_aload_n hX (q := 826) 0 rfl rfl rfl dL_law_825 ?_
  refine ca_iload_n hX (q := 827) 3 rfl rfl rfl dL_law_826 ?_
  refine ca_iconst hX (q := 828) k_iconst_2 rfl dL_law_827 ?_
  refine ca_iadd hX (q := 829) rfl dL_law_828 ?_
  refine ca_sld hX (q := 830) (j := i + 2) (nI_add i 2) (by omega) hL31 rfl dL_law_829 ?_
  refine ca_aload_n hX (q := 831) 0 rfl rfl rfl dL_law_830 ?_
  refine ca_iload_n hX (q := 832) 3 rfl rfl rfl dL_law_831 ?_
  refine ca_iconst hX (q := 833) k_iconst_3 rfl dL_law_832 ?_
  refine ca_iadd hX (q := 834) rfl dL_law_833 ?_
  refine ca_sld hX (q := 835) (j := i + 3) (nI_add i 3) (by omega) hL31 rfl dL_law_834 ?_
  refine ca_LV hX (q := 838) y_X5_unlike w_ml_L_102 (by omega) hc.1 (k_unlike l 45 g M t B hc (by omega) P w (xs (i + 1)) (xs (i + 2)) (xs (i + 3))) (by decide) rfl (Nat.le_of_ble_eq_true rfl) rfl dL_law_835 rfl ?_
  rintro _ g1 ⟨rfl, hf1, t1, B1, hc1⟩
  have hm1 := hm.fr hf1 (by omega)
  refine ca_aload_n hX (q := 839) 2 rfl rfl rfl dL_law_838 ?_
  refine ca_aload_n hX (q := 840) 0 rfl rfl rfl dL_law_839 ?_
  refine ca_iload_n hX (q := 841) 3 rfl rfl rfl dL_law_840 ?_
  refine ca_iconst hX (q := 842) k_iconst_1 rfl dL_law_841 ?_
  refine ca_iadd hX (q := 843) rfl dL_law_842 ?_
  refine ca_sld hX (q := 844) (j := i + 1) (nI_add i 1) (by omega) hL31 rfl dL_law_843 ?_
  refine ca_aload_n hX (q := 845) 0 rfl rfl rfl dL_law_844 ?_
  refine ca_iload_n hX (q := 846) 3 rfl rfl rfl dL_law_845 ?_
  refine ca_iconst hX (q := 847) k_iconst_2 rfl dL_law_846 ?_
  refine ca_iadd hX (q := 848) rfl dL_law_847 ?_
  refine ca_sld hX (q := 849) (j := i + 2) (nI_add i 2) (by omega) hL31 rfl dL_law_848 ?_
  refine ca_aload_n hX (q := 850) 0 rfl rfl rfl dL_law_849 ?_
  refine ca_iload_n hX (q := 851) 3 rfl rfl rfl dL_law_850 ?_
  refine ca_iconst hX (q := 852) k_iconst_3 rfl dL_law_851 ?_
  refine ca_iadd hX (q := 853) rfl dL_law_852 ?_
  refine ca_sld hX (q := 854) (j := i + 3) (nI_add i 3) (by omega) hL31 rfl dL_law_853 ?_
  refine ca_LV hX (q := 857) y_X6_unlike w_ml_L_105 (by omega) hm1.1 (m_unlike l 45 g1 31 M hm1 (by omega) hs4 P w (xs (i + 1)) (xs (i + 2)) (xs (i + 3))) (by decide) rfl (Nat.le_of_ble_eq_true rfl) rfl dL_law_854 rfl ?_
  rintro _ g2 ⟨rfl, hf2, M2, hm2, hke⟩
  refine ca_icmp_eq hX (q := 860) 1143 rfl rfl dL_law_857 (fun _ => ?_) (fun z => absurd rfl z)
  exact next g2 M2 t1 B1 (hke.cl (hc1.fr hf2 (by omega))) hm2 ((w_unlike hw _ _ _).ke hke) hke.2.2.2.2.2.2.2.2

set_option maxRecDepth 100000 in
set_option maxHeartbeats 4000000 in
theorem lc_22 {l : Launch} {L : Nat} {xs : Nat → Int32} {post : ca_Post} {X : ca_J} (hX : ca_Good l yL_law code 4 ret 13 600000 7302250 0 0 (some (L, xs)) post X) (hL31 : L ≤ 3072) {i : Nat} (hi : i + 6 ≤ L) {g : ca_G} {M : Nat → Nat → Int32} {t : Nat → Int32} {B : Nat → Nat → Int32} (hc : clX g M t B) (hm : mdG g 31 M) (hw : wfM M) (hs4 : M 13 4 = 0) (next : ∀ (g2 : ca_G) (M2 : Nat → Nat → Int32) (t2 : Nat → Int32) (B2 : Nat → Nat → Int32), clX g2 M2 t2 B2 → mdG g2 31 M2 → wfM M2 → M2 13 4 = 0 → X 1143 [some (.ref 2000), some (.ref 0), some (.ref 31), some (.int (nI i))] [] 45 1000000 g2) : X 862 [some (.ref 2000), some (.ref 0), some (.ref 31), some (.int (nI i))] [] 45 1000000 g := by
  obtain ⟨⟨P, w⟩, ⟨P2, w2⟩, ⟨lk, hlk6, hlk⟩, ⟨rk, hrk6, hrk⟩⟩ := id hw
  refine ca_aload_n hX (q := 863) 1 rfl rfl rfl dL_law_862 ?_
  refine ca_aload_n hX (q := 864) 0 rfl rfl rfl dL_law_863 ?_
  refine ca_iload_n hX (q := 865) 3 rfl rfl rfl dL_law_864 ?_
  refine ca_iconst hX (q := 866) k_iconst_1 rfl dL_law_865 ?_
  refine ca_iadd hX (q := 867) rfl dL_law_866 ?_
  refine ca_sld hX (q := 868) (j := i + 1) (nI_add i 1) (by omega) hL31 rfl dL_law_867 ?_
  refine ca_LV hX (q := 871) y_X5_sure w_ml_L_106 (by omega) hc.1 (k_sure l 45 g M t B hc (by omega) P w (xs (i + 1))) (by decide) rfl (Nat.le_of_ble_eq_true rfl) rfl dL_law_868 rfl ?_
  rintro _ g1 ⟨rfl, hf1, t1, B1, hc1⟩
  have hm1 := hm.fr hf1 (by omega)
  refine ca_aload_n hX (q := 872) 2 rfl rfl rfl dL_law_871 ?_
  refine ca_aload_n hX (q := 873) 0 rfl rfl rfl dL_law_872 ?_
  refine ca_iload_n hX (q := 874) 3 rfl rfl rfl dL_law_873 ?_
  refine ca_iconst hX (q := 875) k_iconst_1 rfl dL_law_874 ?_
  refine ca_iadd hX (q := 876) rfl dL_law_875 ?_
  refine ca_sld hX (q := 877) (j := i + 1) (nI_add i 1) (by omega) hL31 rfl dL_law_876 ?_
  refine ca_LV hX (q := 880) y_X6_sure w_ml_L_109 (by omega) hm1.1 (m_sure l 45 g1 31 M hm1 (by omega) hs4 P w (xs (i + 1))) (by decide) rfl (Nat.le_of_ble_eq_true rfl) rfl dL_law_877 rfl ?_
  rintro _ g2 ⟨rfl, hf2, M2, hm2, hke⟩
  refine ca_icmp_eq hX (q := 883) 1143 rfl rfl dL_law_880 (fun _ => ?_) (fun z => absurd rfl z)
  exact next g2 M2 t1 B1 (hke.cl (hc1.fr hf2 (by omega))) hm2 ((w_sure hw _ _).ke hke) hke.2.2.2.2.2.2.2.2

set_option maxRecDepth 100000 in
set_option maxHeartbeats 4000000 in
theorem lc_23 {l : Launch} {L : Nat} {xs : Nat → Int32} {post : ca_Post} {X : ca_J} (hX : ca_Good l yL_law code 4 ret 13 600000 7302250 0 0 (some (L, xs)) post X) (hL31 : L ≤ 3072) {i : Nat} (hi : i + 6 ≤ L) {g : ca_G} {M : Nat → Nat → Int32} {t : Nat → Int32} {B : Nat → Nat → Int32} (hc : clX g M t B) (hm : mdG g 31 M) (hw : wfM M) (hs4 : M 13 4 = 0) (next : ∀ (g2 : ca_G) (M2 : Nat → Nat → Int32) (t2 : Nat → Int32) (B2 : Nat → Nat → Int32), clX g2 M2 t2 B2 → mdG g2 31 M2 → wfM M2 → M2 13 4 = 0 → X 1143 [some (.ref 2000), some (.ref 0), some (.ref 31), some (.int (nI i))] [] 45 1000000 g2) : X 885 [some (.ref 2000), some (.ref 0), some (.ref 31), some (.int (nI i))] [] 45 1000000 g := by
  obtain ⟨⟨P, w⟩, ⟨P2, w2⟩, ⟨lk, hlk6, hlk⟩, ⟨rk, hrk6, hrk⟩⟩ := id hw
  refine ca_aload_n hX (q := 886) 1 rfl rfl rfl dL_law_885 ?_
  refine ca_aload_n hX (q := 887) 0 rfl rfl rfl dL_law_886 ?_
  refine ca_iload_n hX (q := 888) 3 rfl rfl rfl dL_law_887 ?_
  refine ca_iconst hX (q := 889) k_iconst_1 rfl dL_law_888 ?_
  refine ca_iadd hX (q := 890) rfl dL_law_889 ?_
  refine ca_sld hX (q := 891) (j := i + 1) (nI_add i 1) (by omega) hL31 rfl dL_law_890 ?_
  refine ca_aload_n hX (q := 892) 0 rfl rfl rfl dL_law_891 ?_
  refine ca_iload_n hX (q := 893) 3 rfl rfl rfl dL_law_892 ?_
  refine ca_iconst hX (q := 894) k_iconst_2 rfl dL_law_893 ?_
  refine ca_iadd hX (q := 895) rfl dL_law_894 ?_
  refine ca_sld hX (q := 896) (j := i + 2) (nI_add i 2) (by omega) hL31 rfl dL_law_895 ?_
  refine ca_aload_n hX (q := 897) 0 rfl rfl rfl dL_law_896 ?_
  refine ca_iload_n hX (q := 898) 3 rfl rfl rfl dL_law_897 ?_
  refine ca_iconst hX (q := 899) k_iconst_3 rfl dL_law_898 ?_
  refine ca_iadd hX (q := 900) rfl dL_law_899 ?_
  refine ca_sld hX (q := 901) (j := i + 3) (nI_add i 3) (by omega) hL31 rfl dL_law_900 ?_
  refine ca_aload_n hX (q := 902) 0 rfl rfl rfl dL_law_901 ?_
  refine ca_iload_n hX (q := 903) 3 rfl rfl rfl dL_law_902 ?_
  refine ca_iconst hX (q := 904) k_iconst_4 rfl dL_law_903 ?_
  refine ca_iadd hX (q := 905) rfl dL_law_904 ?_
  refine ca_sld hX (q := 906) (j := i + 4) (nI_add i 4) (by omega) hL31 rfl dL_law_905 ?_
  refine ca_aload_n hX (q := 907) 0 rfl rfl rfl dL_law_906 ?_
  refine ca_iload_n hX (q := 908) 3 rfl rfl rfl dL_law_907 ?_
  refine ca_iconst hX (q := 909) k_iconst_5 rfl dL_law_908 ?_
  refine ca_iadd hX (q := 910) rfl dL_law_909 ?_
  refine ca_sld hX (q := 911) (j := i + 5) (nI_add i 5) (by omega) hL31 rfl dL_law_910 ?_
  refine ca_LV hX (q := 914) y_X5_slip w_ml_L_110 (by omega) hc.1 (k_slip l 45 g M t B hc (by omega) P w (xs (i + 1)) (xs (i + 2)) (xs (i + 3)) (xs (i + 4)) (xs (i + 5))) (by decide) rfl (Nat.le_of_ble_eq_true rfl) rfl dL_law_911 rfl ?_
  rintro _ g1 ⟨rfl, hf1, t1, B1, hc1⟩
  have hm1 := hm.fr hf1 (by omega)
  refine ca_aload_n hX (q := 915) 2 rfl rfl rfl dL_law_914 ?_
  refine ca_aload_n hX (q := 916) 0 rfl rfl rfl dL_law_915 ?_
  refine ca_iload_n hX (q := 917) 3 rfl rfl rfl dL_law_916 ?_
  refine ca_iconst hX (q := 918) k_iconst_1 rfl dL_law_917 ?_
  refine ca_iadd hX (q := 919) rfl dL_law_918 ?_
  refine ca_sld hX (q := 920) (j := i + 1) (nI_add i 1) (by omega) hL31 rfl dL_law_919 ?_
  refine ca_aload_n hX (q := 921) 0 rfl rfl rfl dL_law_920 ?_
  refine ca_iload_n hX (q := 922) 3 rfl rfl rfl dL_law_921 ?_
  refine ca_iconst hX (q := 923) k_iconst_2 rfl dL_law_922 ?_
  refine ca_iadd hX (q := 924) rfl dL_law_923 ?_
  refine ca_sld hX (q := 925) (j := i + 2) (nI_add i 2) (by omega) hL31 rfl dL_law_924 ?_
  refine ca_aload_n hX (q := 926) 0 rfl rfl rfl dL_law_925 ?_
  refine ca_iload_n hX (q := 927) 3 rfl rfl rfl dL_law_926 ?_
  refine ca_iconst hX (q := 928) k_iconst_3 rfl dL_law_927 ?_
  refine ca_iadd hX (q := 929) rfl dL_law_928 ?_
  refine ca_sld hX (q := 930) (j := i + 3) (nI_add i 3) (by omega) hL31 rfl dL_law_929 ?_
  refine ca_aload_n hX (q := 931) 0 rfl rfl rfl dL_law_930 ?_
  refine ca_iload_n hX (q := 932) 3 rfl rfl rfl dL_law_931 ?_
  refine ca_iconst hX (q := 933) k_iconst_4 rfl dL_law_932 ?_
  refine ca_iadd hX (q := 934) rfl dL_law_933 ?_
  refine ca_sld hX (q := 935) (j := i + 4) (nI_add i 4) (by omega) hL31 rfl dL_law_934 ?_
  refine ca_aload_n hX (q := 936) 0 rfl rfl rfl dL_law_935 ?_
  refine ca_iload_n hX (q := 937) 3 rfl rfl rfl dL_law_936 ?_
  refine ca_iconst hX (q := 938) k_iconst_5 rfl dL_law_937 ?_
  refine ca_iadd hX (q := 939) rfl dL_law_938 ?_
  refine ca_sld hX (q := 940) (j := i + 5) (nI_add i 5) (by omega) hL31 rfl dL_law_939 ?_
  refine ca_LV hX (q := 943) y_X6_slip w_ml_L_114 (by omega) hm1.1 (m_slip l 45 g1 31 M hm1 (by omega) hs4 P w (xs (i + 1)) (xs (i + 2)) (xs (i + 3)) (xs (i + 4)) (xs (i + 5))) (by decide) rfl (Nat.le_of_ble_eq_true rfl) rfl dL_law_940 rfl ?_
  rintro _ g2 ⟨rfl, hf2, M2, hm2, hke⟩
  refine ca_lcmp hX (q := 944) rfl dL_law_943 ?_
  refine ca_if_eq hX (q := 947) 1143 rfl rfl dL_law_944 (fun _ => ?_) (fun z => absurd ((lg_cmp_eq _ _).mpr rfl) z)
  exact next g2 M2 t1 B1 (hke.cl (hc1.fr hf2 (by omega))) hm2 ((w_slip hw _ _ _ _ _ _).ke hke) hke.2.2.2.2.2.2.2.2

set_option maxRecDepth 100000 in
set_option maxHeartbeats 4000000 in
theorem lc_24 {l : Launch} {L : Nat} {xs : Nat → Int32} {post : ca_Post} {X : ca_J} (hX : ca_Good l yL_law code 4 ret 13 600000 7302250 0 0 (some (L, xs)) post X) (hL31 : L ≤ 3072) {i : Nat} (hi : i + 6 ≤ L) {g : ca_G} {M : Nat → Nat → Int32} {t : Nat → Int32} {B : Nat → Nat → Int32} (hc : clX g M t B) (hm : mdG g 31 M) (hw : wfM M) (hs4 : M 13 4 = 0) (next : ∀ (g2 : ca_G) (M2 : Nat → Nat → Int32) (t2 : Nat → Int32) (B2 : Nat → Nat → Int32), clX g2 M2 t2 B2 → mdG g2 31 M2 → wfM M2 → M2 13 4 = 0 → X 1143 [some (.ref 2000), some (.ref 0), some (.ref 31), some (.int (nI i))] [] 45 1000000 g2) : X 949 [some (.ref 2000), some (.ref 0), some (.ref 31), some (.int (nI i))] [] 45 1000000 g := by
  obtain ⟨⟨P, w⟩, ⟨P2, w2⟩, ⟨lk, hlk6, hlk⟩, ⟨rk, hrk6, hrk⟩⟩ := id hw
  refine ca_aload_n hX (q := 950) 1 rfl rfl rfl dL_law_949 ?_
  refine ca_aload_n hX (q := 951) 0 rfl rfl rfl dL_law_950 ?_
  refine ca_iload_n hX (q := 952) 3 rfl rfl rfl dL_law_951 ?_
  refine ca_iconst hX (q := 953) k_iconst_1 rfl dL_law_952 ?_
  refine ca_iadd hX (q := 954) rfl dL_law_953 ?_
  refine ca_sld hX (q := 955) (j := i + 1) (nI_add i 1) (by omega) hL31 rfl dL_law_954 ?_
  refine ca_aload_n hX (q := 956) 0 rfl rfl rfl dL_law_955 ?_
  refine ca_iload_n hX (q := 957) 3 rfl rfl rfl dL_law_956 ?_
  refine ca_iconst hX (q := 958) k_iconst_2 rfl dL_law_957 ?_
  refine ca_iadd hX (q := 959) rfl dL_law_958 ?_
  refine ca_sld hX (q := 960) (j := i + 2) (nI_add i 2) (by omega) hL31 rfl dL_law_959 ?_
  refine ca_aload_n hX (q := 961) 0 rfl rfl rfl dL_law_960 ?_
  refine ca_iload_n hX (q := 962) 3 rfl rfl rfl dL_law_961 ?_
  refine ca_iconst hX (q := 963) k_iconst_3 rfl dL_law_962 ?_
  refine ca_iadd hX (q := 964) rfl dL_law_963 ?_
  refine ca_sld hX (q := 965) (j := i + 3) (nI_add i 3) (by omega) hL31 rfl dL_law_964 ?_
  refine ca_LV hX (q := 968) y_X5_whatWas w_ml_L_115 (by omega) hc.1 (k_whatWas l 45 g M t B hc (by omega) P w rk hrk hrk6 (xs (i + 1)) (xs (i + 2)) (xs (i + 3))) (by decide) rfl (Nat.le_of_ble_eq_true rfl) rfl dL_law_965 rfl ?_
  rintro _ g1 ⟨rfl, hf1, t1, B1, hc1⟩
  have hm1 := hm.fr hf1 (by omega)
  refine ca_aload_n hX (q := 969) 2 rfl rfl rfl dL_law_968 ?_
  refine ca_aload_n hX (q := 970) 0 rfl rfl rfl dL_law_969 ?_
  refine ca_iload_n hX (q := 971) 3 rfl rfl rfl dL_law_970 ?_
  refine ca_iconst hX (q := 972) k_iconst_1 rfl dL_law_971 ?_
  refine ca_iadd hX (q := 973) rfl dL_law_972 ?_
  refine ca_sld hX (q := 974) (j := i + 1) (nI_add i 1) (by omega) hL31 rfl dL_law_973 ?_
  refine ca_aload_n hX (q := 975) 0 rfl rfl rfl dL_law_974 ?_
  refine ca_iload_n hX (q := 976) 3 rfl rfl rfl dL_law_975 ?_
  refine ca_iconst hX (q := 977) k_iconst_2 rfl dL_law_976 ?_
  refine ca_iadd hX (q := 978) rfl dL_law_977 ?_
  refine ca_sld hX (q := 979) (j := i + 2) (nI_add i 2) (by omega) hL31 rfl dL_law_978 ?_
  refine ca_aload_n hX (q := 980) 0 rfl rfl rfl dL_law_979 ?_
  refine ca_iload_n hX (q := 981) 3 rfl rfl rfl dL_law_980 ?_
  refine ca_iconst hX (q := 982) k_iconst_3 rfl dL_law_981 ?_
  refine ca_iadd hX (q := 983) rfl dL_law_982 ?_
  refine ca_sld hX (q := 984) (j := i + 3) (nI_add i 3) (by omega) hL31 rfl dL_law_983 ?_
  refine ca_LV hX (q := 987) y_X6_whatWas w_ml_L_118 (by omega) hm1.1 (m_whatWas l 45 g1 31 M hm1 (by omega) hs4 P w rk hrk hrk6 (xs (i + 1)) (xs (i + 2)) (xs (i + 3))) (by decide) rfl (Nat.le_of_ble_eq_true rfl) rfl dL_law_984 rfl ?_
  rintro _ g2 ⟨rfl, hf2, M2, hm2, hke⟩
  refine ca_icmp_eq hX (q := 990) 1143 rfl rfl dL_law_987 (fun _ => ?_) (fun z => absurd rfl z)
  exact next g2 M2 t1 B1 (hke.cl (hc1.fr hf2 (by omega))) hm2 ((w_whatWas hw _ _ _ _ _).ke hke) hke.2.2.2.2.2.2.2.2

set_option maxRecDepth 100000 in
set_option maxHeartbeats 4000000 in
theorem lc_25 {l : Launch} {L : Nat} {xs : Nat → Int32} {post : ca_Post} {X : ca_J} (hX : ca_Good l yL_law code 4 ret 13 600000 7302250 0 0 (some (L, xs)) post X) (hL31 : L ≤ 3072) {i : Nat} (hi : i + 6 ≤ L) {g : ca_G} {M : Nat → Nat → Int32} {t : Nat → Int32} {B : Nat → Nat → Int32} (hc : clX g M t B) (hm : mdG g 31 M) (hw : wfM M) (hs4 : M 13 4 = 0) (next : ∀ (g2 : ca_G) (M2 : Nat → Nat → Int32) (t2 : Nat → Int32) (B2 : Nat → Nat → Int32), clX g2 M2 t2 B2 → mdG g2 31 M2 → wfM M2 → M2 13 4 = 0 → X 1143 [some (.ref 2000), some (.ref 0), some (.ref 31), some (.int (nI i))] [] 45 1000000 g2) : X 992 [some (.ref 2000), some (.ref 0), some (.ref 31), some (.int (nI i))] [] 45 1000000 g := by
  obtain ⟨⟨P, w⟩, ⟨P2, w2⟩, ⟨lk, hlk6, hlk⟩, ⟨rk, hrk6, hrk⟩⟩ := id hw
  refine ca_aload_n hX (q := 993) 1 rfl rfl rfl dL_law_992 ?_
  refine ca_aload_n hX (q := 994) 0 rfl rfl rfl dL_law_993 ?_
  refine ca_iload_n hX (q := 995) 3 rfl rfl rfl dL_law_994 ?_
  refine ca_iconst hX (q := 996) k_iconst_1 rfl dL_law_995 ?_
  refine ca_iadd hX (q := 997) rfl dL_law_996 ?_
  refine ca_sld hX (q := 998) (j := i + 1) (nI_add i 1) (by omega) hL31 rfl dL_law_997 ?_
  refine ca_LV hX (q := 1001) y_X5_row w_ml_L_119 (by omega) hc.1 (k_row l 45 g M t B hc (by omega) rk hrk hrk6 (xs (i + 1))) (by decide) rfl (Nat.le_of_ble_eq_true rfl) rfl dL_law_998 rfl ?_
  rintro _ g1 ⟨rfl, hf1, t1, B1, hc1⟩
  have hm1 := hm.fr hf1 (by omega)
  refine ca_aload_n hX (q := 1002) 2 rfl rfl rfl dL_law_1001 ?_
  refine ca_aload_n hX (q := 1003) 0 rfl rfl rfl dL_law_1002 ?_
  refine ca_iload_n hX (q := 1004) 3 rfl rfl rfl dL_law_1003 ?_
  refine ca_iconst hX (q := 1005) k_iconst_1 rfl dL_law_1004 ?_
  refine ca_iadd hX (q := 1006) rfl dL_law_1005 ?_
  refine ca_sld hX (q := 1007) (j := i + 1) (nI_add i 1) (by omega) hL31 rfl dL_law_1006 ?_
  refine ca_LV hX (q := 1010) y_X6_row w_ml_L_122 (by omega) hm1.1 (m_row l 45 g1 31 M hm1 (by omega) hs4 rk hrk hrk6 (xs (i + 1))) (by decide) rfl (Nat.le_of_ble_eq_true rfl) rfl dL_law_1007 rfl ?_
  rintro _ g2 ⟨rfl, hf2, M2, hm2, hke⟩
  refine ca_icmp_eq hX (q := 1013) 1143 rfl rfl dL_law_1010 (fun _ => ?_) (fun z => absurd rfl z)
  exact next g2 M2 t1 B1 (hke.cl (hc1.fr hf2 (by omega))) hm2 ((w_row hw hrk6 _).ke hke) hke.2.2.2.2.2.2.2.2

set_option maxRecDepth 100000 in
set_option maxHeartbeats 4000000 in
theorem lc_26 {l : Launch} {L : Nat} {xs : Nat → Int32} {post : ca_Post} {X : ca_J} (hX : ca_Good l yL_law code 4 ret 13 600000 7302250 0 0 (some (L, xs)) post X) (hL31 : L ≤ 3072) {i : Nat} (hi : i + 6 ≤ L) {g : ca_G} {M : Nat → Nat → Int32} {t : Nat → Int32} {B : Nat → Nat → Int32} (hc : clX g M t B) (hm : mdG g 31 M) (hw : wfM M) (hs4 : M 13 4 = 0) (next : ∀ (g2 : ca_G) (M2 : Nat → Nat → Int32) (t2 : Nat → Int32) (B2 : Nat → Nat → Int32), clX g2 M2 t2 B2 → mdG g2 31 M2 → wfM M2 → M2 13 4 = 0 → X 1143 [some (.ref 2000), some (.ref 0), some (.ref 31), some (.int (nI i))] [] 45 1000000 g2) : X 1015 [some (.ref 2000), some (.ref 0), some (.ref 31), some (.int (nI i))] [] 45 1000000 g := by
  obtain ⟨⟨P, w⟩, ⟨P2, w2⟩, ⟨lk, hlk6, hlk⟩, ⟨rk, hrk6, hrk⟩⟩ := id hw
  refine ca_aload_n hX (q := 1016) 1 rfl rfl rfl dL_law_1015 ?_
  refine ca_aload_n hX (q := 1017) 0 rfl rfl rfl dL_law_1016 ?_
  refine ca_iload_n hX (q := 1018) 3 rfl rfl rfl dL_law_1017 ?_
  refine ca_iconst hX (q := 1019) k_iconst_1 rfl dL_law_1018 ?_
  refine ca_iadd hX (q := 1020) rfl dL_law_1019 ?_
  refine ca_sld hX (q := 1021) (j := i + 1) (nI_add i 1) (by omega) hL31 rfl dL_law_1020 ?_
  refine ca_LV hX (q := 1024) y_X5_judge w_ml_L_123 (by omega) hc.1 (k_judge l 45 g M t B hc (by omega) P w rk hrk hrk6 (xs (i + 1))) (by decide) rfl (Nat.le_of_ble_eq_true rfl) rfl dL_law_1021 rfl ?_
  rintro _ g1 ⟨rfl, hf1, t1, B1, hc1⟩
  have hm1 := hm.fr hf1 (by omega)
  refine ca_aload_n hX (q := 1025) 2 rfl rfl rfl dL_law_1024 ?_
  refine ca_aload_n hX (q := 1026) 0 rfl rfl rfl dL_law_1025 ?_
  refine ca_iload_n hX (q := 1027) 3 rfl rfl rfl dL_law_1026 ?_
  refine ca_iconst hX (q := 1028) k_iconst_1 rfl dL_law_1027 ?_
  refine ca_iadd hX (q := 1029) rfl dL_law_1028 ?_
  refine ca_sld hX (q := 1030) (j := i + 1) (nI_add i 1) (by omega) hL31 rfl dL_law_1029 ?_
  refine ca_LV hX (q := 1033) y_X6_judge w_ml_L_126 (by omega) hm1.1 (m_judge l 45 g1 31 M hm1 (by omega) hs4 P w rk hrk hrk6 (xs (i + 1))) (by decide) rfl (Nat.le_of_ble_eq_true rfl) rfl dL_law_1030 rfl ?_
  rintro _ g2 ⟨rfl, hf2, M2, hm2, hke⟩
  refine ca_icmp_eq hX (q := 1036) 1143 rfl rfl dL_law_1033 (fun _ => ?_) (fun z => absurd rfl z)
  exact next g2 M2 t1 B1 (hke.cl (hc1.fr hf2 (by omega))) hm2 ((w_judge hw _ _ _).ke hke) hke.2.2.2.2.2.2.2.2

set_option maxRecDepth 100000 in
set_option maxHeartbeats 4000000 in
theorem lc_27 {l : Launch} {L : Nat} {xs : Nat → Int32} {post : ca_Post} {X : ca_J} (hX : ca_Good l yL_law code 4 ret 13 600000 7302250 0 0 (some (L, xs)) post X) (hL31 : L ≤ 3072) {i : Nat} (hi : i + 6 ≤ L) {g : ca_G} {M : Nat → Nat → Int32} {t : Nat → Int32} {B : Nat → Nat → Int32} (hc : clX g M t B) (hm : mdG g 31 M) (hw : wfM M) (hs4 : M 13 4 = 0) (next : ∀ (g2 : ca_G) (M2 : Nat → Nat → Int32) (t2 : Nat → Int32) (B2 : Nat → Nat → Int32), clX g2 M2 t2 B2 → mdG g2 31 M2 → wfM M2 → M2 13 4 = 0 → X 1143 [some (.ref 2000), some (.ref 0), some (.ref 31), some (.int (nI i))] [] 45 1000000 g2) : X 1038 [some (.ref 2000), some (.ref 0), some (.ref 31), some (.int (nI i))] [] 45 1000000 g := by
  obtain ⟨⟨P, w⟩, ⟨P2, w2⟩, ⟨lk, hlk6, hlk⟩, ⟨rk, hrk6, hrk⟩⟩ := id hw
  refine ca_aload_n hX (q := 1039) 1 rfl rfl rfl dL_law_1038 ?_
  refine ca_LV hX (q := 1042) y_X5_clear w_ml_L_127 (by omega) hc.1 (k_clear l 45 g M t B hc (by omega) rk hrk hrk6) (by decide) rfl (Nat.le_of_ble_eq_true rfl) rfl dL_law_1039 rfl ?_
  rintro _ g1 ⟨rfl, hf1, t1, B1, hc1⟩
  have hm1 := hm.fr hf1 (by omega)
  refine ca_aload_n hX (q := 1043) 2 rfl rfl rfl dL_law_1042 ?_
  refine ca_LV hX (q := 1046) y_X6_clear w_ml_L_130 (by omega) hm1.1 (m_clear l 45 g1 31 M hm1 (by omega) hs4) (by decide) rfl (Nat.le_of_ble_eq_true rfl) rfl dL_law_1043 rfl ?_
  rintro _ g2 ⟨rfl, hf2, M2, hm2, hke⟩
  refine ca_icmp_eq hX (q := 1049) 1143 rfl rfl dL_law_1046 (fun _ => ?_) (fun z => absurd rfl z)
  exact next g2 M2 t1 B1 (hke.cl (hc1.fr hf2 (by omega))) hm2 ((w_clear hw).ke hke) hke.2.2.2.2.2.2.2.2

set_option maxRecDepth 100000 in
set_option maxHeartbeats 4000000 in
theorem lc_28 {l : Launch} {L : Nat} {xs : Nat → Int32} {post : ca_Post} {X : ca_J} (hX : ca_Good l yL_law code 4 ret 13 600000 7302250 0 0 (some (L, xs)) post X) (hL31 : L ≤ 3072) {i : Nat} (hi : i + 6 ≤ L) {g : ca_G} {M : Nat → Nat → Int32} {t : Nat → Int32} {B : Nat → Nat → Int32} (hc : clX g M t B) (hm : mdG g 31 M) (hw : wfM M) (hs4 : M 13 4 = 0) (next : ∀ (g2 : ca_G) (M2 : Nat → Nat → Int32) (t2 : Nat → Int32) (B2 : Nat → Nat → Int32), clX g2 M2 t2 B2 → mdG g2 31 M2 → wfM M2 → M2 13 4 = 0 → X 1143 [some (.ref 2000), some (.ref 0), some (.ref 31), some (.int (nI i))] [] 45 1000000 g2) : X 1051 [some (.ref 2000), some (.ref 0), some (.ref 31), some (.int (nI i))] [] 45 1000000 g := by
  obtain ⟨⟨P, w⟩, ⟨P2, w2⟩, ⟨lk, hlk6, hlk⟩, ⟨rk, hrk6, hrk⟩⟩ := id hw
  refine ca_aload_n hX (q := 1052) 1 rfl rfl rfl dL_law_1051 ?_
  refine ca_aload_n hX (q := 1053) 0 rfl rfl rfl dL_law_1052 ?_
  refine ca_iload_n hX (q := 1054) 3 rfl rfl rfl dL_law_1053 ?_
  refine ca_iconst hX (q := 1055) k_iconst_1 rfl dL_law_1054 ?_
  refine ca_iadd hX (q := 1056) rfl dL_law_1055 ?_
  refine ca_sld hX (q := 1057) (j := i + 1) (nI_add i 1) (by omega) hL31 rfl dL_law_1056 ?_
  refine ca_aload_n hX (q := 1058) 0 rfl rfl rfl dL_law_1057 ?_
  refine ca_iload_n hX (q := 1059) 3 rfl rfl rfl dL_law_1058 ?_
  refine ca_iconst hX (q := 1060) k_iconst_2 rfl dL_law_1059 ?_
  refine ca_iadd hX (q := 1061) rfl dL_law_1060 ?_
  refine ca_sld hX (q := 1062) (j := i + 2) (nI_add i 2) (by omega) hL31 rfl dL_law_1061 ?_
  refine ca_aload_n hX (q := 1063) 0 rfl rfl rfl dL_law_1062 ?_
  refine ca_iload_n hX (q := 1064) 3 rfl rfl rfl dL_law_1063 ?_
  refine ca_iconst hX (q := 1065) k_iconst_3 rfl dL_law_1064 ?_
  refine ca_iadd hX (q := 1066) rfl dL_law_1065 ?_
  refine ca_sld hX (q := 1067) (j := i + 3) (nI_add i 3) (by omega) hL31 rfl dL_law_1066 ?_
  refine ca_LV hX (q := 1070) y_X5_lots w_ml_L_131 (by omega) hc.1 (k_lots l 45 g M t B hc (by omega) P w (xs (i + 1)) (xs (i + 2)) (xs (i + 3))) (by decide) rfl (Nat.le_of_ble_eq_true rfl) rfl dL_law_1067 rfl ?_
  rintro _ g1 ⟨rfl, hf1, t1, B1, hc1⟩
  have hm1 := hm.fr hf1 (by omega)
  refine ca_aload_n hX (q := 1071) 2 rfl rfl rfl dL_law_1070 ?_
  refine ca_aload_n hX (q := 1072) 0 rfl rfl rfl dL_law_1071 ?_
  refine ca_iload_n hX (q := 1073) 3 rfl rfl rfl dL_law_1072 ?_
  refine ca_iconst hX (q := 1074) k_iconst_1 rfl dL_law_1073 ?_
  refine ca_iadd hX (q := 1075) rfl dL_law_1074 ?_
  refine ca_sld hX (q := 1076) (j := i + 1) (nI_add i 1) (by omega) hL31 rfl dL_law_1075 ?_
  refine ca_aload_n hX (q := 1077) 0 rfl rfl rfl dL_law_1076 ?_
  refine ca_iload_n hX (q := 1078) 3 rfl rfl rfl dL_law_1077 ?_
  refine ca_iconst hX (q := 1079) k_iconst_2 rfl dL_law_1078 ?_
  refine ca_iadd hX (q := 1080) rfl dL_law_1079 ?_
  refine ca_sld hX (q := 1081) (j := i + 2) (nI_add i 2) (by omega) hL31 rfl dL_law_1080 ?_
  refine ca_aload_n hX (q := 1082) 0 rfl rfl rfl dL_law_1081 ?_
  refine ca_iload_n hX (q := 1083) 3 rfl rfl rfl dL_law_1082 ?_
  refine ca_iconst hX (q := 1084) k_iconst_3 rfl dL_law_1083 ?_
  refine ca_iadd hX (q := 1085) rfl dL_law_1084 ?_
  refine ca_sld hX (q := 1086) (j := i + 3) (nI_add i 3) (by omega) hL31 rfl dL_law_1085 ?_
  refine ca_LV hX (q := 1089) y_X6_lots w_ml_L_134 (by omega) hm1.1 (m_lots l 45 g1 31 M hm1 (by omega) hs4 P w (xs (i + 1)) (xs (i + 2)) (xs (i + 3))) (by decide) rfl (Nat.le_of_ble_eq_true rfl) rfl dL_law_1086 rfl ?_
  rintro _ g2 ⟨rfl, hf2, M2, hm2, hke⟩
  refine ca_icmp_eq hX (q := 1092) 1143 rfl rfl dL_law_1089 (fun _ => ?_) (fun z => absurd rfl z)
  exact next g2 M2 t1 B1 (hke.cl (hc1.fr hf2 (by omega))) hm2 ((w_lots hw _ _ _ _).ke hke) hke.2.2.2.2.2.2.2.2

set_option maxRecDepth 100000 in
set_option maxHeartbeats 4000000 in
theorem lc_29 {l : Launch} {L : Nat} {xs : Nat → Int32} {post : ca_Post} {X : ca_J} (hX : ca_Good l yL_law code 4 ret 13 600000 7302250 0 0 (some (L, xs)) post X) (hL31 : L ≤ 3072) {i : Nat} (hi : i + 6 ≤ L) {g : ca_G} {M : Nat → Nat → Int32} {t : Nat → Int32} {B : Nat → Nat → Int32} (hc : clX g M t B) (hm : mdG g 31 M) (hw : wfM M) (hs4 : M 13 4 = 0) (next : ∀ (g2 : ca_G) (M2 : Nat → Nat → Int32) (t2 : Nat → Int32) (B2 : Nat → Nat → Int32), clX g2 M2 t2 B2 → mdG g2 31 M2 → wfM M2 → M2 13 4 = 0 → X 1143 [some (.ref 2000), some (.ref 0), some (.ref 31), some (.int (nI i))] [] 45 1000000 g2) : X 1094 [some (.ref 2000), some (.ref 0), some (.ref 31), some (.int (nI i))] [] 45 1000000 g := by
  obtain ⟨⟨P, w⟩, ⟨P2, w2⟩, ⟨lk, hlk6, hlk⟩, ⟨rk, hrk6, hrk⟩⟩ := id hw
  refine ca_aload_n hX (q := 1095) 1 rfl rfl rfl dL_law_1094 ?_
  refine ca_LV hX (q := 1098) y_X5_image w_ml_L_135 (by omega) hc.1 (k_image l 45 g M t B hc (by omega)) (by decide) rfl (Nat.le_of_ble_eq_true rfl) rfl dL_law_1095 rfl ?_
  rintro _ g1 ⟨rfl, hf1, t1, B1, hc1⟩
  have hm1 := hm.fr hf1 (by omega)
  refine ca_aload_n hX (q := 1099) 2 rfl rfl rfl dL_law_1098 ?_
  refine ca_LV hX (q := 1102) y_X6_image w_ml_L_138 (by omega) hm1.1 (m_image l 45 g1 31 M hm1 (by omega) hs4) (by decide) rfl (Nat.le_of_ble_eq_true rfl) rfl dL_law_1099 rfl ?_
  rintro _ g2 ⟨rfl, hf2, M2, hm2, hke⟩
  refine ca_icmp_eq hX (q := 1105) 1143 rfl rfl dL_law_1102 (fun _ => ?_) (fun z => absurd rfl z)
  exact next g2 M2 t1 B1 (hke.cl (hc1.fr hf2 (by omega))) hm2 ((w_image hw).ke hke) hke.2.2.2.2.2.2.2.2

set_option maxRecDepth 100000 in
set_option maxHeartbeats 4000000 in
theorem lc_30 {l : Launch} {L : Nat} {xs : Nat → Int32} {post : ca_Post} {X : ca_J} (hX : ca_Good l yL_law code 4 ret 13 600000 7302250 0 0 (some (L, xs)) post X) (hL31 : L ≤ 3072) {i : Nat} (hi : i + 6 ≤ L) {g : ca_G} {M : Nat → Nat → Int32} {t : Nat → Int32} {B : Nat → Nat → Int32} (hc : clX g M t B) (hm : mdG g 31 M) (hw : wfM M) (hs4 : M 13 4 = 0) (next : ∀ (g2 : ca_G) (M2 : Nat → Nat → Int32) (t2 : Nat → Int32) (B2 : Nat → Nat → Int32), clX g2 M2 t2 B2 → mdG g2 31 M2 → wfM M2 → M2 13 4 = 0 → X 1143 [some (.ref 2000), some (.ref 0), some (.ref 31), some (.int (nI i))] [] 45 1000000 g2) : X 1107 [some (.ref 2000), some (.ref 0), some (.ref 31), some (.int (nI i))] [] 45 1000000 g := by
  obtain ⟨⟨P, w⟩, ⟨P2, w2⟩, ⟨lk, hlk6, hlk⟩, ⟨rk, hrk6, hrk⟩⟩ := id hw
  refine ca_aload_n hX (q := 1108) 1 rfl rfl rfl dL_law_1107 ?_
  refine ca_LV hX (q := 1111) y_X5_on w_ml_L_139 (by omega) hc.1 (k_on l 45 g M t B hc (by omega)) (by decide) rfl (Nat.le_of_ble_eq_true rfl) rfl dL_law_1108 rfl ?_
  rintro _ g1 ⟨rfl, hf1, t1, B1, hc1⟩
  have hm1 := hm.fr hf1 (by omega)
  refine ca_aload_n hX (q := 1112) 2 rfl rfl rfl dL_law_1111 ?_
  refine ca_LV hX (q := 1115) y_X6_on w_ml_L_142 (by omega) hm1.1 (m_on l 45 g1 31 M hm1 (by omega) hs4) (by decide) rfl (Nat.le_of_ble_eq_true rfl) rfl dL_law_1112 rfl ?_
  rintro _ g2 ⟨rfl, hf2, M2, hm2, hke⟩
  refine ca_icmp_eq hX (q := 1118) 1143 rfl rfl dL_law_1115 (fun _ => ?_) (fun z => absurd rfl z)
  exact next g2 M2 t1 B1 (hke.cl (hc1.fr hf2 (by omega))) hm2 ((w_on hw).ke hke) hke.2.2.2.2.2.2.2.2

set_option maxRecDepth 100000 in
set_option maxHeartbeats 4000000 in
theorem lc_31 {l : Launch} {L : Nat} {xs : Nat → Int32} {post : ca_Post} {X : ca_J} (hX : ca_Good l yL_law code 4 ret 13 600000 7302250 0 0 (some (L, xs)) post X) (hL31 : L ≤ 3072) {i : Nat} (hi : i + 6 ≤ L) {g : ca_G} {M : Nat → Nat → Int32} {t : Nat → Int32} {B : Nat → Nat → Int32} (hc : clX g M t B) (hm : mdG g 31 M) (hw : wfM M) (hs4 : M 13 4 = 0) (next : ∀ (g2 : ca_G) (M2 : Nat → Nat → Int32) (t2 : Nat → Int32) (B2 : Nat → Nat → Int32), clX g2 M2 t2 B2 → mdG g2 31 M2 → wfM M2 → M2 13 4 = 0 → X 1143 [some (.ref 2000), some (.ref 0), some (.ref 31), some (.int (nI i))] [] 45 1000000 g2) : X 1120 [some (.ref 2000), some (.ref 0), some (.ref 31), some (.int (nI i))] [] 45 1000000 g := by
  obtain ⟨⟨P, w⟩, ⟨P2, w2⟩, ⟨lk, hlk6, hlk⟩, ⟨rk, hrk6, hrk⟩⟩ := id hw
  refine ca_aload_n hX (q := 1121) 1 rfl rfl rfl dL_law_1120 ?_
  refine ca_aload_n hX (q := 1122) 0 rfl rfl rfl dL_law_1121 ?_
  refine ca_iload_n hX (q := 1123) 3 rfl rfl rfl dL_law_1122 ?_
  refine ca_iconst hX (q := 1124) k_iconst_1 rfl dL_law_1123 ?_
  refine ca_iadd hX (q := 1125) rfl dL_law_1124 ?_
  refine ca_sld hX (q := 1126) (j := i + 1) (nI_add i 1) (by omega) hL31 rfl dL_law_1125 ?_
  refine ca_LV hX (q := 1129) y_X5_count w_ml_L_143 (by omega) hc.1 (k_count l 45 g M t B hc (by omega) P w (xs (i + 1))) (by decide) rfl (Nat.le_of_ble_eq_true rfl) rfl dL_law_1126 rfl ?_
  rintro _ g1 ⟨rfl, hf1, t1, B1, hc1⟩
  have hm1 := hm.fr hf1 (by omega)
  refine ca_aload_n hX (q := 1130) 2 rfl rfl rfl dL_law_1129 ?_
  refine ca_aload_n hX (q := 1131) 0 rfl rfl rfl dL_law_1130 ?_
  refine ca_iload_n hX (q := 1132) 3 rfl rfl rfl dL_law_1131 ?_
  refine ca_iconst hX (q := 1133) k_iconst_1 rfl dL_law_1132 ?_
  refine ca_iadd hX (q := 1134) rfl dL_law_1133 ?_
  refine ca_sld hX (q := 1135) (j := i + 1) (nI_add i 1) (by omega) hL31 rfl dL_law_1134 ?_
  refine ca_LV hX (q := 1138) y_X6_count w_ml_L_146 (by omega) hm1.1 (m_count l 45 g1 31 M hm1 (by omega) hs4 P w (xs (i + 1))) (by decide) rfl (Nat.le_of_ble_eq_true rfl) rfl dL_law_1135 rfl ?_
  rintro _ g2 ⟨rfl, hf2, M2, hm2, hke⟩
  refine ca_icmp_eq hX (q := 1141) 1143 rfl rfl dL_law_1138 (fun _ => ?_) (fun z => absurd rfl z)
  exact next g2 M2 t1 B1 (hke.cl (hc1.fr hf2 (by omega))) hm2 ((w_count hw _ _).ke hke) hke.2.2.2.2.2.2.2.2

theorem lw_cmp {L i : Nat} (hL : L ≤ 3072) (hi : i < 4000) : nI L - 6 < nI i ↔ L < i + 6 := by
  have e : (nI L - 6).toInt = (L : Int) - 6 := by
    rw [show (6 : Int32) = nI 6 from rfl, pk_sub_toInt (by omega) (by omega)]; rfl
  rw [Int32.lt_iff_toInt_lt, e, nI_toInt (by omega)]; omega

set_option maxRecDepth 100000 in
set_option maxHeartbeats 4000000 in
theorem law_loop {l : Launch} {L : Nat} {xs : Nat → Int32} {post : ca_Post} {X : ca_J} (hX : ca_Good l yL_law code 4 ret 13 600000 7302250 0 0 (some (L, xs)) post X) (hL31 : L ≤ 3072) : ∀ (n i : Nat) (g : ca_G) (M : Nat → Nat → Int32) (t : Nat → Int32) (B : Nat → Nat → Int32), L ≤ i + n → i ≤ L + 6 → clX g M t B → mdG g 31 M → wfM M → M 13 4 = 0 → X 18 [some (.ref 2000), some (.ref 0), some (.ref 31), some (.int (nI i))] [] 45 1000000 g := by
  intro n
  induction n with
  | zero =>
    intro i g M t B hin hi6 hc hm hw hs4
    refine ca_iload_n hX (q := 19) 3 rfl rfl rfl dL_law_18 ?_
    refine ca_aload_n hX (q := 20) 0 rfl rfl rfl dL_law_19 ?_
    refine ca_slen hX (q := 21) rfl dL_law_20 ?_
    refine ca_bipush hX (q := 23) k_bipush_6 rfl dL_law_21 ?_
    refine ca_isub hX (q := 24) rfl dL_law_23 ?_
    refine ca_icmp_gt hX (q := 27) 1149 rfl rfl dL_law_24 (fun _ => ?_) (fun z => absurd ((lw_cmp hL31 (by omega)).mpr (by omega)) z)
    refine ca_iconst hX (q := 1150) k_iconst_1 rfl dL_law_1149 ?_
    exact ca_lend hX dL_law_1150
  | succ n ih =>
    intro i g M t B hin hi6 hc hm hw hs4
    refine ca_iload_n hX (q := 19) 3 rfl rfl rfl dL_law_18 ?_
    refine ca_aload_n hX (q := 20) 0 rfl rfl rfl dL_law_19 ?_
    refine ca_slen hX (q := 21) rfl dL_law_20 ?_
    refine ca_bipush hX (q := 23) k_bipush_6 rfl dL_law_21 ?_
    refine ca_isub hX (q := 24) rfl dL_law_23 ?_
    refine ca_icmp_gt hX (q := 27) 1149 rfl rfl dL_law_24 (fun z => ?_) (fun z => ?_)
    · refine ca_iconst hX (q := 1150) k_iconst_1 rfl dL_law_1149 ?_
      exact ca_lend hX dL_law_1150
    · have hi : i + 6 ≤ L := by have := mt (lw_cmp hL31 (show i < 4000 by omega)).mpr z; omega
      have next : ∀ (g2 : ca_G) (M2 : Nat → Nat → Int32) (t2 : Nat → Int32) (B2 : Nat → Nat → Int32), clX g2 M2 t2 B2 → mdG g2 31 M2 → wfM M2 → M2 13 4 = 0 → X 1143 [some (.ref 2000), some (.ref 0), some (.ref 31), some (.int (nI i))] [] 45 1000000 g2 := by
        intro g2 M2 t2 B2 a1 a2 a3 a4
        refine ca_iinc hX (q := 1146) (ls' := [_, _, _, _]) k_iconst_6 rfl (Nat.le_of_ble_eq_true rfl) (Or.inr rfl) rfl rfl dL_law_1143 ?_
        refine ca_goto hX 18 rfl dL_law_1146 ?_
        rw [show nI i + 6 = nI (i + 6) from nI_add i 6]
        exact ih (i + 6) g2 M2 t2 B2 (by omega) (by omega) a1 a2 a3 a4
      refine ca_aload_n hX (q := 28) 0 rfl rfl rfl dL_law_27 ?_
      refine ca_iload_n hX (q := 29) 3 rfl rfl rfl dL_law_28 ?_
      refine ca_sld hX (q := 30) (j := i) rfl (by omega) hL31 rfl dL_law_29 ?_
      refine ca_bipush hX (q := 32) k_bipush_31 rfl dL_law_30 ?_
      refine ca_iand hX (q := 33) rfl dL_law_32 ?_
      by_cases e0 : xs i &&& 31 = 0
      · refine ca_tabIn hX 176 dL_law_33 (by rw [e0]; decide) (by rw [e0]; decide) (by rw [e0]; rfl) rfl ?_
        exact lc_0 hX hL31 hi hc hm hw hs4 next
      by_cases e1 : xs i &&& 31 = 1
      · refine ca_tabIn hX 199 dL_law_33 (by rw [e1]; decide) (by rw [e1]; decide) (by rw [e1]; rfl) rfl ?_
        exact lc_1 hX hL31 hi hc hm hw hs4 next
      by_cases e2 : xs i &&& 31 = 2
      · refine ca_tabIn hX 212 dL_law_33 (by rw [e2]; decide) (by rw [e2]; decide) (by rw [e2]; rfl) rfl ?_
        exact lc_2 hX hL31 hi hc hm hw hs4 next
      by_cases e3 : xs i &&& 31 = 3
      · refine ca_tabIn hX 245 dL_law_33 (by rw [e3]; decide) (by rw [e3]; decide) (by rw [e3]; rfl) rfl ?_
        exact lc_3 hX hL31 hi hc hm hw hs4 next
      by_cases e4 : xs i &&& 31 = 4
      · refine ca_tabIn hX 278 dL_law_33 (by rw [e4]; decide) (by rw [e4]; decide) (by rw [e4]; rfl) rfl ?_
        exact lc_4 hX hL31 hi hc hm hw hs4 next
      by_cases e5 : xs i &&& 31 = 5
      · refine ca_tabIn hX 321 dL_law_33 (by rw [e5]; decide) (by rw [e5]; decide) (by rw [e5]; rfl) rfl ?_
        exact lc_5 hX hL31 hi hc hm hw hs4 next
      by_cases e6 : xs i &&& 31 = 6
      · refine ca_tabIn hX 354 dL_law_33 (by rw [e6]; decide) (by rw [e6]; decide) (by rw [e6]; rfl) rfl ?_
        exact lc_6 hX hL31 hi hc hm hw hs4 next
      by_cases e7 : xs i &&& 31 = 7
      · refine ca_tabIn hX 397 dL_law_33 (by rw [e7]; decide) (by rw [e7]; decide) (by rw [e7]; rfl) rfl ?_
        exact lc_7 hX hL31 hi hc hm hw hs4 next
      by_cases e8 : xs i &&& 31 = 8
      · refine ca_tabIn hX 420 dL_law_33 (by rw [e8]; decide) (by rw [e8]; decide) (by rw [e8]; rfl) rfl ?_
        exact lc_8 hX hL31 hi hc hm hw hs4 next
      by_cases e9 : xs i &&& 31 = 9
      · refine ca_tabIn hX 463 dL_law_33 (by rw [e9]; decide) (by rw [e9]; decide) (by rw [e9]; rfl) rfl ?_
        exact lc_9 hX hL31 hi hc hm hw hs4 next
      by_cases e10 : xs i &&& 31 = 10
      · refine ca_tabIn hX 506 dL_law_33 (by rw [e10]; decide) (by rw [e10]; decide) (by rw [e10]; rfl) rfl ?_
        exact lc_10 hX hL31 hi hc hm hw hs4 next
      by_cases e11 : xs i &&& 31 = 11
      · refine ca_tabIn hX 559 dL_law_33 (by rw [e11]; decide) (by rw [e11]; decide) (by rw [e11]; rfl) rfl ?_
        exact lc_11 hX hL31 hi hc hm hw hs4 next
      by_cases e12 : xs i &&& 31 = 12
      · refine ca_tabIn hX 592 dL_law_33 (by rw [e12]; decide) (by rw [e12]; decide) (by rw [e12]; rfl) rfl ?_
        exact lc_12 hX hL31 hi hc hm hw hs4 next
      by_cases e13 : xs i &&& 31 = 13
      · refine ca_tabIn hX 615 dL_law_33 (by rw [e13]; decide) (by rw [e13]; decide) (by rw [e13]; rfl) rfl ?_
        exact lc_13 hX hL31 hi hc hm hw hs4 next
      by_cases e14 : xs i &&& 31 = 14
      · refine ca_tabIn hX 638 dL_law_33 (by rw [e14]; decide) (by rw [e14]; decide) (by rw [e14]; rfl) rfl ?_
        exact lc_14 hX hL31 hi hc hm hw hs4 next
      by_cases e15 : xs i &&& 31 = 15
      · refine ca_tabIn hX 651 dL_law_33 (by rw [e15]; decide) (by rw [e15]; decide) (by rw [e15]; rfl) rfl ?_
        exact lc_15 hX hL31 hi hc hm hw hs4 next
      by_cases e16 : xs i &&& 31 = 16
      · refine ca_tabIn hX 684 dL_law_33 (by rw [e16]; decide) (by rw [e16]; decide) (by rw [e16]; rfl) rfl ?_
        exact lc_16 hX hL31 hi hc hm hw hs4 next
      by_cases e17 : xs i &&& 31 = 17
      · refine ca_tabIn hX 707 dL_law_33 (by rw [e17]; decide) (by rw [e17]; decide) (by rw [e17]; rfl) rfl ?_
        exact lc_17 hX hL31 hi hc hm hw hs4 next
      by_cases e18 : xs i &&& 31 = 18
      · refine ca_tabIn hX 730 dL_law_33 (by rw [e18]; decide) (by rw [e18]; decide) (by rw [e18]; rfl) rfl ?_
        exact lc_18 hX hL31 hi hc hm hw hs4 next
      by_cases e19 : xs i &&& 31 = 19
      · refine ca_tabIn hX 753 dL_law_33 (by rw [e19]; decide) (by rw [e19]; decide) (by rw [e19]; rfl) rfl ?_
        exact lc_19 hX hL31 hi hc hm hw hs4 next
      by_cases e20 : xs i &&& 31 = 20
      · refine ca_tabIn hX 776 dL_law_33 (by rw [e20]; decide) (by rw [e20]; decide) (by rw [e20]; rfl) rfl ?_
        exact lc_20 hX hL31 hi hc hm hw hs4 next
      by_cases e21 : xs i &&& 31 = 21
      · refine ca_tabIn hX 819 dL_law_33 (by rw [e21]; decide) (by rw [e21]; decide) (by rw [e21]; rfl) rfl ?_
        exact lc_21 hX hL31 hi hc hm hw hs4 next
      by_cases e22 : xs i &&& 31 = 22
      · refine ca_tabIn hX 862 dL_law_33 (by rw [e22]; decide) (by rw [e22]; decide) (by rw [e22]; rfl) rfl ?_
        exact lc_22 hX hL31 hi hc hm hw hs4 next
      by_cases e23 : xs i &&& 31 = 23
      · refine ca_tabIn hX 885 dL_law_33 (by rw [e23]; decide) (by rw [e23]; decide) (by rw [e23]; rfl) rfl ?_
        exact lc_23 hX hL31 hi hc hm hw hs4 next
      by_cases e24 : xs i &&& 31 = 24
      · refine ca_tabIn hX 949 dL_law_33 (by rw [e24]; decide) (by rw [e24]; decide) (by rw [e24]; rfl) rfl ?_
        exact lc_24 hX hL31 hi hc hm hw hs4 next
      by_cases e25 : xs i &&& 31 = 25
      · refine ca_tabIn hX 992 dL_law_33 (by rw [e25]; decide) (by rw [e25]; decide) (by rw [e25]; rfl) rfl ?_
        exact lc_25 hX hL31 hi hc hm hw hs4 next
      by_cases e26 : xs i &&& 31 = 26
      · refine ca_tabIn hX 1015 dL_law_33 (by rw [e26]; decide) (by rw [e26]; decide) (by rw [e26]; rfl) rfl ?_
        exact lc_26 hX hL31 hi hc hm hw hs4 next
      by_cases e27 : xs i &&& 31 = 27
      · refine ca_tabIn hX 1038 dL_law_33 (by rw [e27]; decide) (by rw [e27]; decide) (by rw [e27]; rfl) rfl ?_
        exact lc_27 hX hL31 hi hc hm hw hs4 next
      by_cases e28 : xs i &&& 31 = 28
      · refine ca_tabIn hX 1051 dL_law_33 (by rw [e28]; decide) (by rw [e28]; decide) (by rw [e28]; rfl) rfl ?_
        exact lc_28 hX hL31 hi hc hm hw hs4 next
      by_cases e29 : xs i &&& 31 = 29
      · refine ca_tabIn hX 1094 dL_law_33 (by rw [e29]; decide) (by rw [e29]; decide) (by rw [e29]; rfl) rfl ?_
        exact lc_29 hX hL31 hi hc hm hw hs4 next
      by_cases e30 : xs i &&& 31 = 30
      · refine ca_tabIn hX 1107 dL_law_33 (by rw [e30]; decide) (by rw [e30]; decide) (by rw [e30]; rfl) rfl ?_
        exact lc_30 hX hL31 hi hc hm hw hs4 next
      by_cases e31 : xs i &&& 31 = 31
      · refine ca_tabIn hX 1120 dL_law_33 (by rw [e31]; decide) (by rw [e31]; decide) (by rw [e31]; rfl) rfl ?_
        exact lc_31 hX hL31 hi hc hm hw hs4 next
      refine ca_tabOut hX 1143 dL_law_33 (by have z0 := lv_neT (k := 0) (a := 0) e0 (by decide); have z1 := lv_neT (k := 1) (a := 1) e1 (by decide); have z2 := lv_neT (k := 2) (a := 2) e2 (by decide); have z3 := lv_neT (k := 3) (a := 3) e3 (by decide); have z4 := lv_neT (k := 4) (a := 4) e4 (by decide); have z5 := lv_neT (k := 5) (a := 5) e5 (by decide); have z6 := lv_neT (k := 6) (a := 6) e6 (by decide); have z7 := lv_neT (k := 7) (a := 7) e7 (by decide); have z8 := lv_neT (k := 8) (a := 8) e8 (by decide); have z9 := lv_neT (k := 9) (a := 9) e9 (by decide); have z10 := lv_neT (k := 10) (a := 10) e10 (by decide); have z11 := lv_neT (k := 11) (a := 11) e11 (by decide); have z12 := lv_neT (k := 12) (a := 12) e12 (by decide); have z13 := lv_neT (k := 13) (a := 13) e13 (by decide); have z14 := lv_neT (k := 14) (a := 14) e14 (by decide); have z15 := lv_neT (k := 15) (a := 15) e15 (by decide); have z16 := lv_neT (k := 16) (a := 16) e16 (by decide); have z17 := lv_neT (k := 17) (a := 17) e17 (by decide); have z18 := lv_neT (k := 18) (a := 18) e18 (by decide); have z19 := lv_neT (k := 19) (a := 19) e19 (by decide); have z20 := lv_neT (k := 20) (a := 20) e20 (by decide); have z21 := lv_neT (k := 21) (a := 21) e21 (by decide); have z22 := lv_neT (k := 22) (a := 22) e22 (by decide); have z23 := lv_neT (k := 23) (a := 23) e23 (by decide); have z24 := lv_neT (k := 24) (a := 24) e24 (by decide); have z25 := lv_neT (k := 25) (a := 25) e25 (by decide); have z26 := lv_neT (k := 26) (a := 26) e26 (by decide); have z27 := lv_neT (k := 27) (a := 27) e27 (by decide); have z28 := lv_neT (k := 28) (a := 28) e28 (by decide); have z29 := lv_neT (k := 29) (a := 29) e29 (by decide); have z30 := lv_neT (k := 30) (a := 30) e30 (by decide); have z31 := lv_neT (k := 31) (a := 31) e31 (by decide); omega) rfl ?_
      exact next g M t B hc hm hw hs4

