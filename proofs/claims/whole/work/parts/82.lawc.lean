/-! the law's cases: both objects by one call -/
theorem mst_stp {g : BqG} {h : Nat → BqG} {ch : Nat} {y : Int32} {w : Int32 × BqG} : mst 0 g h ch y w = stp g h ch y w := by
  by_cases c : w.1 < 0
  · exact (if_pos c).trans (if_pos c).symm
  · refine (if_neg c).trans ((chg_rem (g := g) (g' := w.2) (h := h) (ch := ch) (y := y) (v := w.1)).symm.trans ?_)
    show chg g w.2 h ch y w.1 = stl g w.2 h ch y w.1
    unfold stl chg
    rw [if_neg c]
theorem qMo.none {m ch : Nat} {h : Nat → BqG} {I0 I : BqI} {S : BqH} {n : Nat} {L : BqL} {P : BqP} {a : Int32} {r : Option Value} {S' : BqH} {n' : Nat} {I' : BqI} {L' : BqL} {P' : BqP} (hH : MH m I h ch) (hg : I (m + 1) = I0 (m + 1)) (q : bq_F (some (.int a)) S n I L P r S' n' I' L' P') : qMo m I S n L P (a, I0 (m + 1), h, ch, I m 7) r S' n' I' L' P' := by
  obtain ⟨e1, e2, e3, e4, e5, e6⟩ := q
  subst I'
  exact ⟨e1, e2, e3, e5, e6, MSt.mk hH hg⟩
theorem jp_congr {v i k : Int32} {f f' : Nat → Int32} (e : ∀ j, j < 320 → f j = f' j) : jp v f i k = jp v f' i k := by
  unfold jp
  by_cases c : i < 0 ∨ v ≤ i ∨ nI 80 ≤ i ∨ (k < nI 0 ∨ ¬ k ≤ nI 3)
  · rw [if_pos c, if_pos c]
  · rw [if_neg c, if_neg c]
    obtain ⟨q, hq, rfl⟩ := (bq_in5 k 3 (by decide)).resolve_left (fun z => c (Or.inr (Or.inr (Or.inr z))))
    obtain ⟨j, hj, rfl⟩ := nI_of (fun z => c (Or.inl z))
    have h8 : j < 80 := by
      rcases Nat.lt_or_ge j 80 with z | z
      · exact z
      · exact absurd (nI_le z hj) (fun z => c (Or.inr (Or.inr (Or.inl z))))
    rw [nI_clamp hj, nI_clamp (by omega)]
    exact e _ (by omega)
theorem entry_same {I : BqI} {L : BqL} {x : Nat} {g : BqG} (hC : CS I L (x + 1) g) {i k : Int32} : (if i = (-1) then I (x + 1 + 13) 0 else jp (I (x + 1 + 13) 0) (I (x + 1 + 13 + 1)) i k) = r_entry g i k := by
  have e5 : I (x + 1 + 13) 0 = g 5 := hC.1.at (k := 5) (a := 13) (j := 0) (by decide)
  have ej : ∀ j, j < 320 → I (x + 1 + 13 + 1) j = g (330 + j) := fun j hj => hC.1.at (k := 330 + j) (a := 14) (j := j) (lc_J hj)
  unfold r_entry
  rw [e5, jp_congr ej]
theorem holds_same {I : BqI} {L : BqL} {x : Nat} {g : BqG} {en : Nat} (hC : CS I L (x + 1) g) (hG : GI g en) {d s : Int32} : (if (d < nI 0 ∨ ¬ d ≤ nI 9999) ∨ (s < nI 0 ∨ ¬ s ≤ nI 2000) then (-2) else ri (rfx (fun i => I (x + 1 + 33 + i) 0) (fun i => I (x + 1 + 33 + i) 1) d s (gn g 3))) = (if (d < nI 0 ∨ ¬ d ≤ nI 9999) ∨ (s < nI 0 ∨ ¬ s ≤ nI 2000) then (-2) else ri (rfx (fun i => g (294 + 3 * i)) (fun i => g (295 + 3 * i)) d s (gn g 3))) := by
  have h3 : gn g 3 ≤ 10 := hG.2.2.2.2.1
  rw [rfx_congr (gn g 3) (d := fun i => I (x + 1 + 33 + i) 0) (d' := fun i => g (294 + 3 * i)) (s := fun i => I (x + 1 + 33 + i) 1) (s' := fun i => g (295 + 3 * i)) (fun j hj => ⟨hC.1.ar (r := j) (k := 0) (by omega) (by decide), by show I (x + 1 + 33 + j) 1 = g (295 + 3 * j); rw [hC.1.ar (r := j) (k := 1) (by omega) (by decide)]; congr 1; omega⟩)]
section
variable {D : va_G} {p : Program} {l : Launch} {e : Env} {s : State} {m : MethodId} {below : List Frame} {meth : Method} {c : Code} {sb Ln cells slots i : Nat} {xs : Nat → Int32} {S : BqH} {n : Nat} {I : BqI} {L : BqL} {P : BqP} {h : Nat → BqG} {ch tl en : Nat}
set_option maxHeartbeats 400000 in
set_option maxRecDepth 20000 in
/-- size -/
theorem law_0 (C : lq_C D p s m meth c sb Ln xs) (hn : Ln ≤ 3584) (hi : i + 7 ≤ Ln) (hc : cells ≤ 600000 ∧ slots ≤ 7302250) (J : JI 0 536 S n I L P h ch tl en) (hen : en + 60 < 200000) (K : ∀ (S' : BqH) (n' : Nat) (I' : BqI) (L' : BqL) (P' : BqP) (h' : Nat → BqG) (ch' tl' : Nat), JI 0 536 S' n' I' L' P' h' ch' tl' (en + 60) → lq_W D p l e s m below meth c sb cells slots 1062 (lq_L s.heap.size sb i) [] S' n' I' L' P') : lq_W D p l e s m below meth c sb cells slots 168 (lq_L s.heap.size sb i) [] S n I L P := by
  refine lq_aload_n (pc := 168) 1 C dL_law_168 rfl rfl ?_
  refine lq_arg (pc := 169) (j := 1) C dL_law_169 dL_law_170 dL_law_171 dL_law_172 dL_law_173 (by decide) (by omega) hn ?_
  refine lq_arg (pc := 174) (j := 2) C dL_law_174 dL_law_175 dL_law_176 dL_law_177 dL_law_178 (by decide) (by omega) hn ?_
  refine lq_call (pc := 179) (as := [.int (xs (i + 1)), .int (xs (i + 2))]) C dL_law_179 kL_13 (m_size J.1 J.2.2.2.1.gi (by omega)) (Cellar_sh J.1.1) rfl (Cellar_lt J.1.1) ⟨Nat.le_of_ble_eq_true rfl, Nat.le_of_ble_eq_true rfl⟩ rfl hc rfl (Nat.le_of_ble_eq_true rfl) (fun r1 S1 n1 I1 L1 P1 q1 => ?_)
  obtain ⟨a1, a2, a3, a4⟩ := J.mid (by omega) q1
  refine ⟨_, q1.1, ?_⟩
  refine lq_aload_n (pc := 182) 2 C dL_law_182 rfl rfl ?_
  refine lq_arg (pc := 183) (j := 1) C dL_law_183 dL_law_184 dL_law_185 dL_law_186 dL_law_187 (by decide) (by omega) hn ?_
  refine lq_arg (pc := 188) (j := 2) C dL_law_188 dL_law_189 dL_law_190 dL_law_191 dL_law_192 (by decide) (by omega) hn ?_
  refine lq_call (pc := 193) (as := [.int (xs (i + 1)), .int (xs (i + 2))]) C dL_law_193 kL_17 (o_size a1 a2 a3 J.2.2.2.1.gi (by omega) a4) (Model_sh a1) rfl (Model_lt a1) ⟨Nat.le_of_ble_eq_true rfl, Nat.le_of_ble_eq_true rfl⟩ rfl hc rfl (Nat.le_of_ble_eq_true rfl) (fun r2 S2 n2 I2 L2 P2 q2 => ?_)
  obtain ⟨⟨v, e1, e2⟩, -, h', ch', J'⟩ := J.op (by omega) (op_size J.2.2.2.1) q1 q2
  have e3 := q1.1.symm.trans e1
  cases e3
  refine ⟨_, e2, ?_⟩
  exact lq_eqI (pc := 196) C dL_law_196 (by decide) (K _ _ _ _ _ _ _ _ J')
set_option maxHeartbeats 400000 in
set_option maxRecDepth 20000 in
/-- brew -/
theorem law_1 (C : lq_C D p s m meth c sb Ln xs) (hn : Ln ≤ 3584) (hi : i + 7 ≤ Ln) (hc : cells ≤ 600000 ∧ slots ≤ 7302250) (J : JI 0 536 S n I L P h ch tl en) (hen : en + 60 < 200000) (K : ∀ (S' : BqH) (n' : Nat) (I' : BqI) (L' : BqL) (P' : BqP) (h' : Nat → BqG) (ch' tl' : Nat), JI 0 536 S' n' I' L' P' h' ch' tl' (en + 60) → lq_W D p l e s m below meth c sb cells slots 1062 (lq_L s.heap.size sb i) [] S' n' I' L' P') : lq_W D p l e s m below meth c sb cells slots 201 (lq_L s.heap.size sb i) [] S n I L P := by
  refine lq_aload_n (pc := 201) 1 C dL_law_201 rfl rfl ?_
  refine lq_arg (pc := 202) (j := 1) C dL_law_202 dL_law_203 dL_law_204 dL_law_205 dL_law_206 (by decide) (by omega) hn ?_
  refine lq_arg (pc := 207) (j := 2) C dL_law_207 dL_law_208 dL_law_209 dL_law_210 dL_law_211 (by decide) (by omega) hn ?_
  refine lq_arg (pc := 212) (j := 3) C dL_law_212 dL_law_213 dL_law_214 dL_law_215 dL_law_216 (by decide) (by omega) hn ?_
  refine lq_call (pc := 217) (as := [.int (xs (i + 1)), .int (xs (i + 2)), .int (xs (i + 3))]) C dL_law_217 kL_18 (m_brew J.1 J.2.2.2.1.gi (by omega)) (Cellar_sh J.1.1) rfl (Cellar_lt J.1.1) ⟨Nat.le_of_ble_eq_true rfl, Nat.le_of_ble_eq_true rfl⟩ rfl hc rfl (Nat.le_of_ble_eq_true rfl) (fun r1 S1 n1 I1 L1 P1 q1 => ?_)
  obtain ⟨a1, a2, a3, a4⟩ := J.mid (by omega) q1
  refine ⟨_, q1.1, ?_⟩
  refine lq_aload_n (pc := 220) 2 C dL_law_220 rfl rfl ?_
  refine lq_arg (pc := 221) (j := 1) C dL_law_221 dL_law_222 dL_law_223 dL_law_224 dL_law_225 (by decide) (by omega) hn ?_
  refine lq_arg (pc := 226) (j := 2) C dL_law_226 dL_law_227 dL_law_228 dL_law_229 dL_law_230 (by decide) (by omega) hn ?_
  refine lq_arg (pc := 231) (j := 3) C dL_law_231 dL_law_232 dL_law_233 dL_law_234 dL_law_235 (by decide) (by omega) hn ?_
  refine lq_call (pc := 236) (as := [.int (xs (i + 1)), .int (xs (i + 2)), .int (xs (i + 3))]) C dL_law_236 kL_22 (o_brew a1 a2 a3 J.2.2.2.1.gi (by omega) a4) (Model_sh a1) rfl (Model_lt a1) ⟨Nat.le_of_ble_eq_true rfl, Nat.le_of_ble_eq_true rfl⟩ rfl hc rfl (Nat.le_of_ble_eq_true rfl) (fun r2 S2 n2 I2 L2 P2 q2 => ?_)
  obtain ⟨⟨v, e1, e2⟩, -, h', ch', J'⟩ := J.op (by omega) (op_brew J.2.2.2.1 (by omega)) q1 q2
  have e3 := q1.1.symm.trans e1
  cases e3
  refine ⟨_, e2, ?_⟩
  exact lq_eqI (pc := 239) C dL_law_239 (by decide) (K _ _ _ _ _ _ _ _ J')
set_option maxHeartbeats 400000 in
set_option maxRecDepth 20000 in
/-- transfer -/
theorem law_2 (C : lq_C D p s m meth c sb Ln xs) (hn : Ln ≤ 3584) (hi : i + 7 ≤ Ln) (hc : cells ≤ 600000 ∧ slots ≤ 7302250) (J : JI 0 536 S n I L P h ch tl en) (hen : en + 60 < 200000) (K : ∀ (S' : BqH) (n' : Nat) (I' : BqI) (L' : BqL) (P' : BqP) (h' : Nat → BqG) (ch' tl' : Nat), JI 0 536 S' n' I' L' P' h' ch' tl' (en + 60) → lq_W D p l e s m below meth c sb cells slots 1062 (lq_L s.heap.size sb i) [] S' n' I' L' P') : lq_W D p l e s m below meth c sb cells slots 244 (lq_L s.heap.size sb i) [] S n I L P := by
  refine lq_aload_n (pc := 244) 1 C dL_law_244 rfl rfl ?_
  refine lq_arg (pc := 245) (j := 1) C dL_law_245 dL_law_246 dL_law_247 dL_law_248 dL_law_249 (by decide) (by omega) hn ?_
  refine lq_arg (pc := 250) (j := 2) C dL_law_250 dL_law_251 dL_law_252 dL_law_253 dL_law_254 (by decide) (by omega) hn ?_
  refine lq_arg (pc := 255) (j := 3) C dL_law_255 dL_law_256 dL_law_257 dL_law_258 dL_law_259 (by decide) (by omega) hn ?_
  refine lq_call (pc := 260) (as := [.int (xs (i + 1)), .int (xs (i + 2)), .int (xs (i + 3))]) C dL_law_260 kL_23 (m_transfer J.1 J.2.2.2.1.gi (by omega)) (Cellar_sh J.1.1) rfl (Cellar_lt J.1.1) ⟨Nat.le_of_ble_eq_true rfl, Nat.le_of_ble_eq_true rfl⟩ rfl hc rfl (Nat.le_of_ble_eq_true rfl) (fun r1 S1 n1 I1 L1 P1 q1 => ?_)
  obtain ⟨a1, a2, a3, a4⟩ := J.mid (by omega) q1
  refine ⟨_, q1.1, ?_⟩
  refine lq_aload_n (pc := 263) 2 C dL_law_263 rfl rfl ?_
  refine lq_arg (pc := 264) (j := 1) C dL_law_264 dL_law_265 dL_law_266 dL_law_267 dL_law_268 (by decide) (by omega) hn ?_
  refine lq_arg (pc := 269) (j := 2) C dL_law_269 dL_law_270 dL_law_271 dL_law_272 dL_law_273 (by decide) (by omega) hn ?_
  refine lq_arg (pc := 274) (j := 3) C dL_law_274 dL_law_275 dL_law_276 dL_law_277 dL_law_278 (by decide) (by omega) hn ?_
  refine lq_call (pc := 279) (as := [.int (xs (i + 1)), .int (xs (i + 2)), .int (xs (i + 3))]) C dL_law_279 kL_26 (o_transfer (q := 0) a1 a2 a3 J.2.2.2.1.gi (by omega) a4 (by decide)) (Model_sh a1) rfl (Model_lt a1) ⟨Nat.le_of_ble_eq_true rfl, Nat.le_of_ble_eq_true rfl⟩ rfl hc rfl (Nat.le_of_ble_eq_true rfl) (fun r2 S2 n2 I2 L2 P2 q2 => ?_)
  rw [mst_stp] at q2
  obtain ⟨⟨v, e1, e2⟩, -, h', ch', J'⟩ := J.op (by omega) (op_pour J.2.2.2.1 (by omega)) q1 q2
  have e3 := q1.1.symm.trans e1
  cases e3
  refine ⟨_, e2, ?_⟩
  exact lq_eqI (pc := 282) C dL_law_282 (by decide) (K _ _ _ _ _ _ _ _ J')
set_option maxHeartbeats 400000 in
set_option maxRecDepth 20000 in
/-- lose -/
theorem law_3 (C : lq_C D p s m meth c sb Ln xs) (hn : Ln ≤ 3584) (hi : i + 7 ≤ Ln) (hc : cells ≤ 600000 ∧ slots ≤ 7302250) (J : JI 0 536 S n I L P h ch tl en) (hen : en + 60 < 200000) (K : ∀ (S' : BqH) (n' : Nat) (I' : BqI) (L' : BqL) (P' : BqP) (h' : Nat → BqG) (ch' tl' : Nat), JI 0 536 S' n' I' L' P' h' ch' tl' (en + 60) → lq_W D p l e s m below meth c sb cells slots 1062 (lq_L s.heap.size sb i) [] S' n' I' L' P') : lq_W D p l e s m below meth c sb cells slots 287 (lq_L s.heap.size sb i) [] S n I L P := by
  refine lq_aload_n (pc := 287) 1 C dL_law_287 rfl rfl ?_
  refine lq_arg (pc := 288) (j := 1) C dL_law_288 dL_law_289 dL_law_290 dL_law_291 dL_law_292 (by decide) (by omega) hn ?_
  refine lq_arg (pc := 293) (j := 2) C dL_law_293 dL_law_294 dL_law_295 dL_law_296 dL_law_297 (by decide) (by omega) hn ?_
  refine lq_arg (pc := 298) (j := 3) C dL_law_298 dL_law_299 dL_law_300 dL_law_301 dL_law_302 (by decide) (by omega) hn ?_
  refine lq_call (pc := 303) (as := [.int (xs (i + 1)), .int (xs (i + 2)), .int (xs (i + 3))]) C dL_law_303 kL_27 (m_lose J.1 J.2.2.2.1.gi (by omega)) (Cellar_sh J.1.1) rfl (Cellar_lt J.1.1) ⟨Nat.le_of_ble_eq_true rfl, Nat.le_of_ble_eq_true rfl⟩ rfl hc rfl (Nat.le_of_ble_eq_true rfl) (fun r1 S1 n1 I1 L1 P1 q1 => ?_)
  obtain ⟨a1, a2, a3, a4⟩ := J.mid (by omega) q1
  refine ⟨_, q1.1, ?_⟩
  refine lq_aload_n (pc := 306) 2 C dL_law_306 rfl rfl ?_
  refine lq_arg (pc := 307) (j := 1) C dL_law_307 dL_law_308 dL_law_309 dL_law_310 dL_law_311 (by decide) (by omega) hn ?_
  refine lq_arg (pc := 312) (j := 2) C dL_law_312 dL_law_313 dL_law_314 dL_law_315 dL_law_316 (by decide) (by omega) hn ?_
  refine lq_arg (pc := 317) (j := 3) C dL_law_317 dL_law_318 dL_law_319 dL_law_320 dL_law_321 (by decide) (by omega) hn ?_
  refine lq_call (pc := 322) (as := [.int (xs (i + 1)), .int (xs (i + 2)), .int (xs (i + 3))]) C dL_law_322 kL_30 (o_lose (q := 0) a1 a2 a3 J.2.2.2.1.gi (by omega) a4 (by decide)) (Model_sh a1) rfl (Model_lt a1) ⟨Nat.le_of_ble_eq_true rfl, Nat.le_of_ble_eq_true rfl⟩ rfl hc rfl (Nat.le_of_ble_eq_true rfl) (fun r2 S2 n2 I2 L2 P2 q2 => ?_)
  rw [mst_stp] at q2
  obtain ⟨⟨v, e1, e2⟩, -, h', ch', J'⟩ := J.op (by omega) (op_spill J.2.2.2.1 (by omega)) q1 q2
  have e3 := q1.1.symm.trans e1
  cases e3
  refine ⟨_, e2, ?_⟩
  exact lq_eqI (pc := 325) C dL_law_325 (by decide) (K _ _ _ _ _ _ _ _ J')
set_option maxHeartbeats 400000 in
set_option maxRecDepth 20000 in
/-- setLoss -/
theorem law_4 (C : lq_C D p s m meth c sb Ln xs) (hn : Ln ≤ 3584) (hi : i + 7 ≤ Ln) (hc : cells ≤ 600000 ∧ slots ≤ 7302250) (J : JI 0 536 S n I L P h ch tl en) (hen : en + 60 < 200000) (K : ∀ (S' : BqH) (n' : Nat) (I' : BqI) (L' : BqL) (P' : BqP) (h' : Nat → BqG) (ch' tl' : Nat), JI 0 536 S' n' I' L' P' h' ch' tl' (en + 60) → lq_W D p l e s m below meth c sb cells slots 1062 (lq_L s.heap.size sb i) [] S' n' I' L' P') : lq_W D p l e s m below meth c sb cells slots 330 (lq_L s.heap.size sb i) [] S n I L P := by
  refine lq_aload_n (pc := 330) 1 C dL_law_330 rfl rfl ?_
  refine lq_arg (pc := 331) (j := 1) C dL_law_331 dL_law_332 dL_law_333 dL_law_334 dL_law_335 (by decide) (by omega) hn ?_
  refine lq_call (pc := 336) (as := [.int (xs (i + 1))]) C dL_law_336 kL_31 (m_setLoss J.1 J.2.2.2.1.gi (by omega)) (Cellar_sh J.1.1) rfl (Cellar_lt J.1.1) ⟨Nat.le_of_ble_eq_true rfl, Nat.le_of_ble_eq_true rfl⟩ rfl hc rfl (Nat.le_of_ble_eq_true rfl) (fun r1 S1 n1 I1 L1 P1 q1 => ?_)
  obtain ⟨a1, a2, a3, a4⟩ := J.mid (by omega) q1
  refine ⟨_, q1.1, ?_⟩
  refine lq_aload_n (pc := 339) 2 C dL_law_339 rfl rfl ?_
  refine lq_arg (pc := 340) (j := 1) C dL_law_340 dL_law_341 dL_law_342 dL_law_343 dL_law_344 (by decide) (by omega) hn ?_
  refine lq_call (pc := 345) (as := [.int (xs (i + 1))]) C dL_law_345 kL_35 (o_setLoss a1 a2 a3 J.2.2.2.1.gi (by omega) a4) (Model_sh a1) rfl (Model_lt a1) ⟨Nat.le_of_ble_eq_true rfl, Nat.le_of_ble_eq_true rfl⟩ rfl hc rfl (Nat.le_of_ble_eq_true rfl) (fun r2 S2 n2 I2 L2 P2 q2 => ?_)
  obtain ⟨⟨v, e1, e2⟩, -, h', ch', J'⟩ := J.op (by omega) (op_setLoss J.2.2.2.1) q1 q2
  have e3 := q1.1.symm.trans e1
  cases e3
  refine ⟨_, e2, ?_⟩
  exact lq_eqI (pc := 348) C dL_law_348 (by decide) (K _ _ _ _ _ _ _ _ J')
set_option maxHeartbeats 400000 in
set_option maxRecDepth 20000 in
/-- rate -/
theorem law_5 (C : lq_C D p s m meth c sb Ln xs) (hn : Ln ≤ 3584) (hi : i + 7 ≤ Ln) (hc : cells ≤ 600000 ∧ slots ≤ 7302250) (J : JI 0 536 S n I L P h ch tl en) (hen : en + 60 < 200000) (K : ∀ (S' : BqH) (n' : Nat) (I' : BqI) (L' : BqL) (P' : BqP) (h' : Nat → BqG) (ch' tl' : Nat), JI 0 536 S' n' I' L' P' h' ch' tl' (en + 60) → lq_W D p l e s m below meth c sb cells slots 1062 (lq_L s.heap.size sb i) [] S' n' I' L' P') : lq_W D p l e s m below meth c sb cells slots 353 (lq_L s.heap.size sb i) [] S n I L P := by
  refine lq_aload_n (pc := 353) 1 C dL_law_353 rfl rfl ?_
  refine lq_arg (pc := 354) (j := 1) C dL_law_354 dL_law_355 dL_law_356 dL_law_357 dL_law_358 (by decide) (by omega) hn ?_
  refine lq_arg (pc := 359) (j := 2) C dL_law_359 dL_law_360 dL_law_361 dL_law_362 dL_law_363 (by decide) (by omega) hn ?_
  refine lq_arg (pc := 364) (j := 3) C dL_law_364 dL_law_365 dL_law_366 dL_law_367 dL_law_368 (by decide) (by omega) hn ?_
  refine lq_call (pc := 369) (as := [.int (xs (i + 1)), .int (xs (i + 2)), .int (xs (i + 3))]) C dL_law_369 kL_36 (m_rate J.1 J.2.2.2.1.gi (by omega)) (Cellar_sh J.1.1) rfl (Cellar_lt J.1.1) ⟨Nat.le_of_ble_eq_true rfl, Nat.le_of_ble_eq_true rfl⟩ rfl hc rfl (Nat.le_of_ble_eq_true rfl) (fun r1 S1 n1 I1 L1 P1 q1 => ?_)
  obtain ⟨a1, a2, a3, a4⟩ := J.mid (by omega) q1
  refine ⟨_, q1.1, ?_⟩
  refine lq_aload_n (pc := 372) 2 C dL_law_372 rfl rfl ?_
  refine lq_arg (pc := 373) (j := 1) C dL_law_373 dL_law_374 dL_law_375 dL_law_376 dL_law_377 (by decide) (by omega) hn ?_
  refine lq_arg (pc := 378) (j := 2) C dL_law_378 dL_law_379 dL_law_380 dL_law_381 dL_law_382 (by decide) (by omega) hn ?_
  refine lq_arg (pc := 383) (j := 3) C dL_law_383 dL_law_384 dL_law_385 dL_law_386 dL_law_387 (by decide) (by omega) hn ?_
  refine lq_call (pc := 388) (as := [.int (xs (i + 1)), .int (xs (i + 2)), .int (xs (i + 3))]) C dL_law_388 kL_39 (o_rate a1 a2 a3 J.2.2.2.1.gi (by omega) a4) (Model_sh a1) rfl (Model_lt a1) ⟨Nat.le_of_ble_eq_true rfl, Nat.le_of_ble_eq_true rfl⟩ rfl hc rfl (Nat.le_of_ble_eq_true rfl) (fun r2 S2 n2 I2 L2 P2 q2 => ?_)
  obtain ⟨⟨v, e1, e2⟩, -, h', ch', J'⟩ := J.op (by omega) (op_rate J.2.2.2.1) q1 q2
  have e3 := q1.1.symm.trans e1
  cases e3
  refine ⟨_, e2, ?_⟩
  exact lq_eqI (pc := 391) C dL_law_391 (by decide) (K _ _ _ _ _ _ _ _ J')
set_option maxHeartbeats 400000 in
set_option maxRecDepth 20000 in
/-- order -/
theorem law_6 (C : lq_C D p s m meth c sb Ln xs) (hn : Ln ≤ 3584) (hi : i + 7 ≤ Ln) (hc : cells ≤ 600000 ∧ slots ≤ 7302250) (J : JI 0 536 S n I L P h ch tl en) (hen : en + 60 < 200000) (K : ∀ (S' : BqH) (n' : Nat) (I' : BqI) (L' : BqL) (P' : BqP) (h' : Nat → BqG) (ch' tl' : Nat), JI 0 536 S' n' I' L' P' h' ch' tl' (en + 60) → lq_W D p l e s m below meth c sb cells slots 1062 (lq_L s.heap.size sb i) [] S' n' I' L' P') : lq_W D p l e s m below meth c sb cells slots 396 (lq_L s.heap.size sb i) [] S n I L P := by
  refine lq_aload_n (pc := 396) 1 C dL_law_396 rfl rfl ?_
  refine lq_arg (pc := 397) (j := 1) C dL_law_397 dL_law_398 dL_law_399 dL_law_400 dL_law_401 (by decide) (by omega) hn ?_
  refine lq_arg (pc := 402) (j := 2) C dL_law_402 dL_law_403 dL_law_404 dL_law_405 dL_law_406 (by decide) (by omega) hn ?_
  refine lq_arg (pc := 407) (j := 3) C dL_law_407 dL_law_408 dL_law_409 dL_law_410 dL_law_411 (by decide) (by omega) hn ?_
  refine lq_arg (pc := 412) (j := 4) C dL_law_412 dL_law_413 dL_law_414 dL_law_415 dL_law_416 (by decide) (by omega) hn ?_
  refine lq_call (pc := 417) (as := [.int (xs (i + 1)), .int (xs (i + 2)), .int (xs (i + 3)), .int (xs (i + 4))]) C dL_law_417 kL_40 (m_order J.1 J.2.2.2.1.gi (by omega)) (Cellar_sh J.1.1) rfl (Cellar_lt J.1.1) ⟨Nat.le_of_ble_eq_true rfl, Nat.le_of_ble_eq_true rfl⟩ rfl hc rfl (Nat.le_of_ble_eq_true rfl) (fun r1 S1 n1 I1 L1 P1 q1 => ?_)
  obtain ⟨a1, a2, a3, a4⟩ := J.mid (by omega) q1
  refine ⟨_, q1.1, ?_⟩
  refine lq_aload_n (pc := 420) 2 C dL_law_420 rfl rfl ?_
  refine lq_arg (pc := 421) (j := 1) C dL_law_421 dL_law_422 dL_law_423 dL_law_424 dL_law_425 (by decide) (by omega) hn ?_
  refine lq_arg (pc := 426) (j := 2) C dL_law_426 dL_law_427 dL_law_428 dL_law_429 dL_law_430 (by decide) (by omega) hn ?_
  refine lq_arg (pc := 431) (j := 3) C dL_law_431 dL_law_432 dL_law_433 dL_law_434 dL_law_435 (by decide) (by omega) hn ?_
  refine lq_arg (pc := 436) (j := 4) C dL_law_436 dL_law_437 dL_law_438 dL_law_439 dL_law_440 (by decide) (by omega) hn ?_
  refine lq_call (pc := 441) (as := [.int (xs (i + 1)), .int (xs (i + 2)), .int (xs (i + 3)), .int (xs (i + 4))]) C dL_law_441 kL_44 (o_order a1 a2 a3 J.2.2.2.1.gi (by omega) a4) (Model_sh a1) rfl (Model_lt a1) ⟨Nat.le_of_ble_eq_true rfl, Nat.le_of_ble_eq_true rfl⟩ rfl hc rfl (Nat.le_of_ble_eq_true rfl) (fun r2 S2 n2 I2 L2 P2 q2 => ?_)
  obtain ⟨⟨v, e1, e2⟩, -, h', ch', J'⟩ := J.op (by omega) (op_order J.2.2.2.1) q1 q2
  have e3 := q1.1.symm.trans e1
  cases e3
  refine ⟨_, e2, ?_⟩
  exact lq_eqI (pc := 444) C dL_law_444 (by decide) (K _ _ _ _ _ _ _ _ J')
set_option maxHeartbeats 400000 in
set_option maxRecDepth 20000 in
/-- drop -/
theorem law_7 (C : lq_C D p s m meth c sb Ln xs) (hn : Ln ≤ 3584) (hi : i + 7 ≤ Ln) (hc : cells ≤ 600000 ∧ slots ≤ 7302250) (J : JI 0 536 S n I L P h ch tl en) (hen : en + 60 < 200000) (K : ∀ (S' : BqH) (n' : Nat) (I' : BqI) (L' : BqL) (P' : BqP) (h' : Nat → BqG) (ch' tl' : Nat), JI 0 536 S' n' I' L' P' h' ch' tl' (en + 60) → lq_W D p l e s m below meth c sb cells slots 1062 (lq_L s.heap.size sb i) [] S' n' I' L' P') : lq_W D p l e s m below meth c sb cells slots 449 (lq_L s.heap.size sb i) [] S n I L P := by
  refine lq_aload_n (pc := 449) 1 C dL_law_449 rfl rfl ?_
  refine lq_arg (pc := 450) (j := 1) C dL_law_450 dL_law_451 dL_law_452 dL_law_453 dL_law_454 (by decide) (by omega) hn ?_
  refine lq_call (pc := 455) (as := [.int (xs (i + 1))]) C dL_law_455 kL_45 (m_drop J.1 J.2.2.2.1.gi (by omega)) (Cellar_sh J.1.1) rfl (Cellar_lt J.1.1) ⟨Nat.le_of_ble_eq_true rfl, Nat.le_of_ble_eq_true rfl⟩ rfl hc rfl (Nat.le_of_ble_eq_true rfl) (fun r1 S1 n1 I1 L1 P1 q1 => ?_)
  obtain ⟨a1, a2, a3, a4⟩ := J.mid (by omega) q1
  refine ⟨_, q1.1, ?_⟩
  refine lq_aload_n (pc := 458) 2 C dL_law_458 rfl rfl ?_
  refine lq_arg (pc := 459) (j := 1) C dL_law_459 dL_law_460 dL_law_461 dL_law_462 dL_law_463 (by decide) (by omega) hn ?_
  refine lq_call (pc := 464) (as := [.int (xs (i + 1))]) C dL_law_464 kL_48 (o_drop a1 a2 a3 J.2.2.2.1.gi (by omega) a4) (Model_sh a1) rfl (Model_lt a1) ⟨Nat.le_of_ble_eq_true rfl, Nat.le_of_ble_eq_true rfl⟩ rfl hc rfl (Nat.le_of_ble_eq_true rfl) (fun r2 S2 n2 I2 L2 P2 q2 => ?_)
  obtain ⟨⟨v, e1, e2⟩, -, h', ch', J'⟩ := J.op (by omega) (op_drop J.2.2.2.1) q1 q2
  have e3 := q1.1.symm.trans e1
  cases e3
  refine ⟨_, e2, ?_⟩
  exact lq_eqI (pc := 467) C dL_law_467 (by decide) (K _ _ _ _ _ _ _ _ J')
set_option maxHeartbeats 400000 in
set_option maxRecDepth 20000 in
/-- fill -/
theorem law_8 (C : lq_C D p s m meth c sb Ln xs) (hn : Ln ≤ 3584) (hi : i + 7 ≤ Ln) (hc : cells ≤ 600000 ∧ slots ≤ 7302250) (J : JI 0 536 S n I L P h ch tl en) (hen : en + 60 < 200000) (K : ∀ (S' : BqH) (n' : Nat) (I' : BqI) (L' : BqL) (P' : BqP) (h' : Nat → BqG) (ch' tl' : Nat), JI 0 536 S' n' I' L' P' h' ch' tl' (en + 60) → lq_W D p l e s m below meth c sb cells slots 1062 (lq_L s.heap.size sb i) [] S' n' I' L' P') : lq_W D p l e s m below meth c sb cells slots 472 (lq_L s.heap.size sb i) [] S n I L P := by
  refine lq_aload_n (pc := 472) 1 C dL_law_472 rfl rfl ?_
  refine lq_arg (pc := 473) (j := 1) C dL_law_473 dL_law_474 dL_law_475 dL_law_476 dL_law_477 (by decide) (by omega) hn ?_
  refine lq_arg (pc := 478) (j := 2) C dL_law_478 dL_law_479 dL_law_480 dL_law_481 dL_law_482 (by decide) (by omega) hn ?_
  refine lq_call (pc := 483) (as := [.int (xs (i + 1)), .int (xs (i + 2))]) C dL_law_483 kL_49 (m_fill J.1 J.2.2.2.1.gi (by omega)) (Cellar_sh J.1.1) rfl (Cellar_lt J.1.1) ⟨Nat.le_of_ble_eq_true rfl, Nat.le_of_ble_eq_true rfl⟩ rfl hc rfl (Nat.le_of_ble_eq_true rfl) (fun r1 S1 n1 I1 L1 P1 q1 => ?_)
  obtain ⟨a1, a2, a3, a4⟩ := J.mid (by omega) q1
  refine ⟨_, q1.1, ?_⟩
  refine lq_aload_n (pc := 486) 2 C dL_law_486 rfl rfl ?_
  refine lq_arg (pc := 487) (j := 1) C dL_law_487 dL_law_488 dL_law_489 dL_law_490 dL_law_491 (by decide) (by omega) hn ?_
  refine lq_arg (pc := 492) (j := 2) C dL_law_492 dL_law_493 dL_law_494 dL_law_495 dL_law_496 (by decide) (by omega) hn ?_
  refine lq_call (pc := 497) (as := [.int (xs (i + 1)), .int (xs (i + 2))]) C dL_law_497 kL_52 (o_fill (q := 0) a1 a2 a3 J.2.2.2.1.gi (by omega) a4 (by decide)) (Model_sh a1) rfl (Model_lt a1) ⟨Nat.le_of_ble_eq_true rfl, Nat.le_of_ble_eq_true rfl⟩ rfl hc rfl (Nat.le_of_ble_eq_true rfl) (fun r2 S2 n2 I2 L2 P2 q2 => ?_)
  rw [mst_stp] at q2
  obtain ⟨⟨v, e1, e2⟩, -, h', ch', J'⟩ := J.op (by omega) (op_wfill J.2.2.2.1 (by omega)) q1 q2
  have e3 := q1.1.symm.trans e1
  cases e3
  refine ⟨_, e2, ?_⟩
  exact lq_eqI (pc := 500) C dL_law_500 (by decide) (K _ _ _ _ _ _ _ _ J')
set_option maxHeartbeats 400000 in
set_option maxRecDepth 20000 in
/-- fillAll -/
theorem law_9 (C : lq_C D p s m meth c sb Ln xs) (hn : Ln ≤ 3584) (hi : i + 7 ≤ Ln) (hc : cells ≤ 600000 ∧ slots ≤ 7302250) (J : JI 0 536 S n I L P h ch tl en) (hen : en + 60 < 200000) (K : ∀ (S' : BqH) (n' : Nat) (I' : BqI) (L' : BqL) (P' : BqP) (h' : Nat → BqG) (ch' tl' : Nat), JI 0 536 S' n' I' L' P' h' ch' tl' (en + 60) → lq_W D p l e s m below meth c sb cells slots 1062 (lq_L s.heap.size sb i) [] S' n' I' L' P') : lq_W D p l e s m below meth c sb cells slots 505 (lq_L s.heap.size sb i) [] S n I L P := by
  refine lq_aload_n (pc := 505) 1 C dL_law_505 rfl rfl ?_
  refine lq_call (pc := 506) (as := []) C dL_law_506 kL_53 (m_fillAll J.1 J.2.2.2.1 (by omega)) (Cellar_sh J.1.1) rfl (Cellar_lt J.1.1) ⟨Nat.le_of_ble_eq_true rfl, Nat.le_of_ble_eq_true rfl⟩ rfl hc rfl (Nat.le_of_ble_eq_true rfl) (fun r1 S1 n1 I1 L1 P1 q1 => ?_)
  obtain ⟨a1, a2, a3, a4⟩ := J.mid (by omega) q1
  refine ⟨_, q1.1, ?_⟩
  refine lq_aload_n (pc := 509) 2 C dL_law_509 rfl rfl ?_
  refine lq_call (pc := 510) (as := []) C dL_law_510 kL_57 (o_fillAll a1 a2 a3 J.2.2.2.1 (by omega) a4) (Model_sh a1) rfl (Model_lt a1) ⟨Nat.le_of_ble_eq_true rfl, Nat.le_of_ble_eq_true rfl⟩ rfl hc rfl (Nat.le_of_ble_eq_true rfl) (fun r2 S2 n2 I2 L2 P2 q2 => ?_)
  obtain ⟨⟨v, e1, e2⟩, -, h', ch', J'⟩ := J.op (by omega) (op_fillAll J.2.2.2.1 (by omega)) q1 q2
  have e3 := q1.1.symm.trans e1
  cases e3
  refine ⟨_, e2, ?_⟩
  exact lq_eqI (pc := 513) C dL_law_513 (by decide) (K _ _ _ _ _ _ _ _ J')
set_option maxHeartbeats 400000 in
set_option maxRecDepth 20000 in
/-- clean -/
theorem law_10 (C : lq_C D p s m meth c sb Ln xs) (hn : Ln ≤ 3584) (hi : i + 7 ≤ Ln) (hc : cells ≤ 600000 ∧ slots ≤ 7302250) (J : JI 0 536 S n I L P h ch tl en) (hen : en + 60 < 200000) (K : ∀ (S' : BqH) (n' : Nat) (I' : BqI) (L' : BqL) (P' : BqP) (h' : Nat → BqG) (ch' tl' : Nat), JI 0 536 S' n' I' L' P' h' ch' tl' (en + 60) → lq_W D p l e s m below meth c sb cells slots 1062 (lq_L s.heap.size sb i) [] S' n' I' L' P') : lq_W D p l e s m below meth c sb cells slots 518 (lq_L s.heap.size sb i) [] S n I L P := by
  refine lq_aload_n (pc := 518) 1 C dL_law_518 rfl rfl ?_
  refine lq_arg (pc := 519) (j := 1) C dL_law_519 dL_law_520 dL_law_521 dL_law_522 dL_law_523 (by decide) (by omega) hn ?_
  refine lq_call (pc := 524) (as := [.int (xs (i + 1))]) C dL_law_524 kL_58 (m_clean J.1 J.2.2.2.1.gi (by omega)) (Cellar_sh J.1.1) rfl (Cellar_lt J.1.1) ⟨Nat.le_of_ble_eq_true rfl, Nat.le_of_ble_eq_true rfl⟩ rfl hc rfl (Nat.le_of_ble_eq_true rfl) (fun r1 S1 n1 I1 L1 P1 q1 => ?_)
  obtain ⟨a1, a2, a3, a4⟩ := J.mid (by omega) q1
  refine ⟨_, q1.1, ?_⟩
  refine lq_aload_n (pc := 527) 2 C dL_law_527 rfl rfl ?_
  refine lq_arg (pc := 528) (j := 1) C dL_law_528 dL_law_529 dL_law_530 dL_law_531 dL_law_532 (by decide) (by omega) hn ?_
  refine lq_call (pc := 533) (as := [.int (xs (i + 1))]) C dL_law_533 kL_61 (o_clean (q := 0) a1 a2 a3 J.2.2.2.1.gi (by omega) a4 (by decide)) (Model_sh a1) rfl (Model_lt a1) ⟨Nat.le_of_ble_eq_true rfl, Nat.le_of_ble_eq_true rfl⟩ rfl hc rfl (Nat.le_of_ble_eq_true rfl) (fun r2 S2 n2 I2 L2 P2 q2 => ?_)
  rw [mst_stp] at q2
  obtain ⟨⟨v, e1, e2⟩, -, h', ch', J'⟩ := J.op (by omega) (op_scrub J.2.2.2.1) q1 q2
  have e3 := q1.1.symm.trans e1
  cases e3
  refine ⟨_, e2, ?_⟩
  exact lq_eqI (pc := 536) C dL_law_536 (by decide) (K _ _ _ _ _ _ _ _ J')
set_option maxHeartbeats 400000 in
set_option maxRecDepth 20000 in
/-- pass -/
theorem law_11 (C : lq_C D p s m meth c sb Ln xs) (hn : Ln ≤ 3584) (hi : i + 7 ≤ Ln) (hc : cells ≤ 600000 ∧ slots ≤ 7302250) (J : JI 0 536 S n I L P h ch tl en) (hen : en + 60 < 200000) (K : ∀ (S' : BqH) (n' : Nat) (I' : BqI) (L' : BqL) (P' : BqP) (h' : Nat → BqG) (ch' tl' : Nat), JI 0 536 S' n' I' L' P' h' ch' tl' (en + 60) → lq_W D p l e s m below meth c sb cells slots 1062 (lq_L s.heap.size sb i) [] S' n' I' L' P') : lq_W D p l e s m below meth c sb cells slots 541 (lq_L s.heap.size sb i) [] S n I L P := by
  refine lq_aload_n (pc := 541) 1 C dL_law_541 rfl rfl ?_
  refine lq_arg (pc := 542) (j := 1) C dL_law_542 dL_law_543 dL_law_544 dL_law_545 dL_law_546 (by decide) (by omega) hn ?_
  refine lq_call (pc := 547) (as := [.int (xs (i + 1))]) C dL_law_547 kL_62 (m_pass J.1 J.2.2.2.1.gi (by omega)) (Cellar_sh J.1.1) rfl (Cellar_lt J.1.1) ⟨Nat.le_of_ble_eq_true rfl, Nat.le_of_ble_eq_true rfl⟩ rfl hc rfl (Nat.le_of_ble_eq_true rfl) (fun r1 S1 n1 I1 L1 P1 q1 => ?_)
  obtain ⟨a1, a2, a3, a4⟩ := J.mid (by omega) q1
  refine ⟨_, q1.1, ?_⟩
  refine lq_aload_n (pc := 550) 2 C dL_law_550 rfl rfl ?_
  refine lq_arg (pc := 551) (j := 1) C dL_law_551 dL_law_552 dL_law_553 dL_law_554 dL_law_555 (by decide) (by omega) hn ?_
  refine lq_call (pc := 556) (as := [.int (xs (i + 1))]) C dL_law_556 kL_65 (o_pass (q := 0) a1 a2 a3 J.2.2.2.1.gi (by omega) a4 (by decide)) (Model_sh a1) rfl (Model_lt a1) ⟨Nat.le_of_ble_eq_true rfl, Nat.le_of_ble_eq_true rfl⟩ rfl hc rfl (Nat.le_of_ble_eq_true rfl) (fun r2 S2 n2 I2 L2 P2 q2 => ?_)
  rw [mst_stp] at q2
  obtain ⟨⟨v, e1, e2⟩, -, h', ch', J'⟩ := J.op (by omega) (op_pass J.2.2.2.1) q1 q2
  have e3 := q1.1.symm.trans e1
  cases e3
  refine ⟨_, e2, ?_⟩
  exact lq_eqI (pc := 559) C dL_law_559 (by decide) (K _ _ _ _ _ _ _ _ J')
set_option maxHeartbeats 400000 in
set_option maxRecDepth 20000 in
/-- mix -/
theorem law_18 (C : lq_C D p s m meth c sb Ln xs) (hn : Ln ≤ 3584) (hi : i + 7 ≤ Ln) (hc : cells ≤ 600000 ∧ slots ≤ 7302250) (J : JI 0 536 S n I L P h ch tl en) (hen : en + 60 < 200000) (K : ∀ (S' : BqH) (n' : Nat) (I' : BqI) (L' : BqL) (P' : BqP) (h' : Nat → BqG) (ch' tl' : Nat), JI 0 536 S' n' I' L' P' h' ch' tl' (en + 60) → lq_W D p l e s m below meth c sb cells slots 1062 (lq_L s.heap.size sb i) [] S' n' I' L' P') : lq_W D p l e s m below meth c sb cells slots 764 (lq_L s.heap.size sb i) [] S n I L P := by
  refine lq_aload_n (pc := 764) 1 C dL_law_764 rfl rfl ?_
  refine lq_arg (pc := 765) (j := 1) C dL_law_765 dL_law_766 dL_law_767 dL_law_768 dL_law_769 (by decide) (by omega) hn ?_
  refine lq_arg (pc := 770) (j := 2) C dL_law_770 dL_law_771 dL_law_772 dL_law_773 dL_law_774 (by decide) (by omega) hn ?_
  refine lq_arg (pc := 775) (j := 3) C dL_law_775 dL_law_776 dL_law_777 dL_law_778 dL_law_779 (by decide) (by omega) hn ?_
  refine lq_arg (pc := 780) (j := 4) C dL_law_780 dL_law_781 dL_law_782 dL_law_783 dL_law_784 (by decide) (by omega) hn ?_
  refine lq_call (pc := 785) (as := [.int (xs (i + 1)), .int (xs (i + 2)), .int (xs (i + 3)), .int (xs (i + 4))]) C dL_law_785 kL_91 (m_mix J.1 J.2.2.2.1.gi (by omega)) (Cellar_sh J.1.1) rfl (Cellar_lt J.1.1) ⟨Nat.le_of_ble_eq_true rfl, Nat.le_of_ble_eq_true rfl⟩ rfl hc rfl (Nat.le_of_ble_eq_true rfl) (fun r1 S1 n1 I1 L1 P1 q1 => ?_)
  obtain ⟨a1, a2, a3, a4⟩ := J.mid (by omega) q1
  refine ⟨_, q1.1, ?_⟩
  refine lq_aload_n (pc := 788) 2 C dL_law_788 rfl rfl ?_
  refine lq_arg (pc := 789) (j := 1) C dL_law_789 dL_law_790 dL_law_791 dL_law_792 dL_law_793 (by decide) (by omega) hn ?_
  refine lq_arg (pc := 794) (j := 2) C dL_law_794 dL_law_795 dL_law_796 dL_law_797 dL_law_798 (by decide) (by omega) hn ?_
  refine lq_arg (pc := 799) (j := 3) C dL_law_799 dL_law_800 dL_law_801 dL_law_802 dL_law_803 (by decide) (by omega) hn ?_
  refine lq_arg (pc := 804) (j := 4) C dL_law_804 dL_law_805 dL_law_806 dL_law_807 dL_law_808 (by decide) (by omega) hn ?_
  refine lq_call (pc := 809) (as := [.int (xs (i + 1)), .int (xs (i + 2)), .int (xs (i + 3)), .int (xs (i + 4))]) C dL_law_809 kL_94 (o_mix a1 a2 a3 J.2.2.2.1.gi (by omega) a4) (Model_sh a1) rfl (Model_lt a1) ⟨Nat.le_of_ble_eq_true rfl, Nat.le_of_ble_eq_true rfl⟩ rfl hc rfl (Nat.le_of_ble_eq_true rfl) (fun r2 S2 n2 I2 L2 P2 q2 => ?_)
  obtain ⟨⟨v, e1, e2⟩, -, h', ch', J'⟩ := J.op (by omega) (op_mix J.2.2.2.1) q1 q2
  have e3 := q1.1.symm.trans e1
  cases e3
  refine ⟨_, e2, ?_⟩
  exact lq_eqI (pc := 812) C dL_law_812 (by decide) (K _ _ _ _ _ _ _ _ J')
set_option maxHeartbeats 400000 in
set_option maxRecDepth 20000 in
/-- correct -/
theorem law_23 (C : lq_C D p s m meth c sb Ln xs) (hn : Ln ≤ 3584) (hi : i + 7 ≤ Ln) (hc : cells ≤ 600000 ∧ slots ≤ 7302250) (J : JI 0 536 S n I L P h ch tl en) (hen : en + 60 < 200000) (K : ∀ (S' : BqH) (n' : Nat) (I' : BqI) (L' : BqL) (P' : BqP) (h' : Nat → BqG) (ch' tl' : Nat), JI 0 536 S' n' I' L' P' h' ch' tl' (en + 60) → lq_W D p l e s m below meth c sb cells slots 1062 (lq_L s.heap.size sb i) [] S' n' I' L' P') : lq_W D p l e s m below meth c sb cells slots 930 (lq_L s.heap.size sb i) [] S n I L P := by
  refine lq_aload_n (pc := 930) 1 C dL_law_930 rfl rfl ?_
  refine lq_call (pc := 931) (as := []) C dL_law_931 kL_112 (m_correct J.1 J.2.2.2.1.gi (by omega)) (Cellar_sh J.1.1) rfl (Cellar_lt J.1.1) ⟨Nat.le_of_ble_eq_true rfl, Nat.le_of_ble_eq_true rfl⟩ rfl hc rfl (Nat.le_of_ble_eq_true rfl) (fun r1 S1 n1 I1 L1 P1 q1 => ?_)
  obtain ⟨a1, a2, a3, a4⟩ := J.mid (by omega) q1
  refine ⟨_, q1.1, ?_⟩
  refine lq_aload_n (pc := 934) 2 C dL_law_934 rfl rfl ?_
  refine lq_call (pc := 935) (as := []) C dL_law_935 kL_115 (o_correct a1 a2 a3 J.2.2.2.1.gi (by omega) a4) (Model_sh a1) rfl (Model_lt a1) ⟨Nat.le_of_ble_eq_true rfl, Nat.le_of_ble_eq_true rfl⟩ rfl hc rfl (Nat.le_of_ble_eq_true rfl) (fun r2 S2 n2 I2 L2 P2 q2 => ?_)
  obtain ⟨⟨v, e1, e2⟩, -, h', ch', J'⟩ := J.op (by omega) (op_corr J.2.2.2.1) q1 q2
  have e3 := q1.1.symm.trans e1
  cases e3
  refine ⟨_, e2, ?_⟩
  exact lq_eqI (pc := 938) C dL_law_938 (by decide) (K _ _ _ _ _ _ _ _ J')
set_option maxHeartbeats 400000 in
set_option maxRecDepth 20000 in
/-- reason -/
theorem law_14 (C : lq_C D p s m meth c sb Ln xs) (hn : Ln ≤ 3584) (hi : i + 7 ≤ Ln) (hc : cells ≤ 600000 ∧ slots ≤ 7302250) (J : JI 0 536 S n I L P h ch tl en) (hen : en + 60 < 200000) (K : ∀ (S' : BqH) (n' : Nat) (I' : BqI) (L' : BqL) (P' : BqP) (h' : Nat → BqG) (ch' tl' : Nat), JI 0 536 S' n' I' L' P' h' ch' tl' (en + 60) → lq_W D p l e s m below meth c sb cells slots 1062 (lq_L s.heap.size sb i) [] S' n' I' L' P') : lq_W D p l e s m below meth c sb cells slots 652 (lq_L s.heap.size sb i) [] S n I L P := by
  refine lq_aload_n (pc := 652) 1 C dL_law_652 rfl rfl ?_
  refine lq_call (pc := 653) (as := []) C dL_law_653 kL_75 (m_reason J.1.1) (Cellar_sh J.1.1) rfl (Cellar_lt J.1.1) ⟨Nat.le_of_ble_eq_true rfl, Nat.le_of_ble_eq_true rfl⟩ rfl hc rfl (Nat.le_of_ble_eq_true rfl) (fun r1 S1 n1 I1 L1 P1 q1 => ?_)
  obtain ⟨e1, e2, e3, e4, e5, e6⟩ := q1
  subst S1 n1 I1 L1 P1
  refine ⟨_, e1, ?_⟩
  refine lq_aload_n (pc := 656) 2 C dL_law_656 rfl rfl ?_
  refine lq_call (pc := 657) (as := []) C dL_law_657 kL_78 (o_reason J.2.1) (Model_sh J.2.1) rfl (Model_lt J.2.1) ⟨Nat.le_of_ble_eq_true rfl, Nat.le_of_ble_eq_true rfl⟩ rfl hc rfl (Nat.le_of_ble_eq_true rfl) (fun r2 S2 n2 I2 L2 P2 q2 => ?_)
  obtain ⟨d1, d2, d3, d4, d5, d6⟩ := q2
  subst S2 n2 I2 L2 P2
  rw [← J.2.2.2.2.2.2.1] at d1
  refine ⟨_, d1, ?_⟩
  exact lq_eqI (pc := 660) C dL_law_660 (by decide) (K _ _ _ _ _ _ _ _ (J.fr (by omega) (fun _ _ => rfl) (fun _ _ => rfl)))
set_option maxHeartbeats 400000 in
set_option maxRecDepth 20000 in
/-- ofTank -/
theorem law_15 (C : lq_C D p s m meth c sb Ln xs) (hn : Ln ≤ 3584) (hi : i + 7 ≤ Ln) (hc : cells ≤ 600000 ∧ slots ≤ 7302250) (J : JI 0 536 S n I L P h ch tl en) (hen : en + 60 < 200000) (K : ∀ (S' : BqH) (n' : Nat) (I' : BqI) (L' : BqL) (P' : BqP) (h' : Nat → BqG) (ch' tl' : Nat), JI 0 536 S' n' I' L' P' h' ch' tl' (en + 60) → lq_W D p l e s m below meth c sb cells slots 1062 (lq_L s.heap.size sb i) [] S' n' I' L' P') : lq_W D p l e s m below meth c sb cells slots 665 (lq_L s.heap.size sb i) [] S n I L P := by
  have con : bq_Sp mX11_ofTank 3 58 0 0 [.ref 0, .int (xs (i + 1)), .int (xs (i + 2))] S n I L P (bq_F (some (.int (r_ofTank (I (536 + 1)) (xs (i + 1)) (xs (i + 2))))) S n I L P) := by
    rcases bq_in5 (xs (i + 1)) 5 (by decide) with z | ⟨t, ht, z⟩
    · exact m_ofTank_a J.1.1 J.1.2.1 J.2.2.2.1.gi z
    · rw [z]; exact m_ofTank_b J.1.1 J.1.2.1 J.2.2.2.1.gi ht
  refine lq_aload_n (pc := 665) 1 C dL_law_665 rfl rfl ?_
  refine lq_arg (pc := 666) (j := 1) C dL_law_666 dL_law_667 dL_law_668 dL_law_669 dL_law_670 (by decide) (by omega) hn ?_
  refine lq_arg (pc := 671) (j := 2) C dL_law_671 dL_law_672 dL_law_673 dL_law_674 dL_law_675 (by decide) (by omega) hn ?_
  refine lq_call (pc := 676) (as := [.int (xs (i + 1)), .int (xs (i + 2))]) C dL_law_676 kL_79 (con) (Cellar_sh J.1.1) rfl (Cellar_lt J.1.1) ⟨Nat.le_of_ble_eq_true rfl, Nat.le_of_ble_eq_true rfl⟩ rfl hc rfl (Nat.le_of_ble_eq_true rfl) (fun r1 S1 n1 I1 L1 P1 q1 => ?_)
  obtain ⟨e1, e2, e3, e4, e5, e6⟩ := q1
  subst S1 n1 I1 L1 P1
  refine ⟨_, e1, ?_⟩
  refine lq_aload_n (pc := 679) 2 C dL_law_679 rfl rfl ?_
  refine lq_arg (pc := 680) (j := 1) C dL_law_680 dL_law_681 dL_law_682 dL_law_683 dL_law_684 (by decide) (by omega) hn ?_
  refine lq_arg (pc := 685) (j := 2) C dL_law_685 dL_law_686 dL_law_687 dL_law_688 dL_law_689 (by decide) (by omega) hn ?_
  refine lq_call (pc := 690) (as := [.int (xs (i + 1)), .int (xs (i + 2))]) C dL_law_690 kL_82 (o_ofTank J.2.1 rfl J.2.2.2.1.gi) (Model_sh J.2.1) rfl (Model_lt J.2.1) ⟨Nat.le_of_ble_eq_true rfl, Nat.le_of_ble_eq_true rfl⟩ rfl hc rfl (Nat.le_of_ble_eq_true rfl) (fun r2 S2 n2 I2 L2 P2 q2 => ?_)
  obtain ⟨d1, d2, d3, d4, d5, k2⟩ := q2
  subst S2 n2 L2 P2
  refine ⟨_, d1, ?_⟩
  exact lq_eqI (pc := 693) C dL_law_693 (by decide) (K _ _ _ _ _ _ _ _ (J.fr (by omega) (fun a ha => k2 a (by omega)) (fun k _ => congrFun (k2 536 (by omega)) k)))
set_option maxHeartbeats 400000 in
set_option maxRecDepth 20000 in
/-- litres -/
theorem law_16 (C : lq_C D p s m meth c sb Ln xs) (hn : Ln ≤ 3584) (hi : i + 7 ≤ Ln) (hc : cells ≤ 600000 ∧ slots ≤ 7302250) (J : JI 0 536 S n I L P h ch tl en) (hen : en + 60 < 200000) (K : ∀ (S' : BqH) (n' : Nat) (I' : BqI) (L' : BqL) (P' : BqP) (h' : Nat → BqG) (ch' tl' : Nat), JI 0 536 S' n' I' L' P' h' ch' tl' (en + 60) → lq_W D p l e s m below meth c sb cells slots 1062 (lq_L s.heap.size sb i) [] S' n' I' L' P') : lq_W D p l e s m below meth c sb cells slots 698 (lq_L s.heap.size sb i) [] S n I L P := by
  have con : bq_Sp mX11_litres 3 55 0 0 [.ref 0, .int (xs (i + 1)), .int (xs (i + 2))] S n I L P (bq_F (some (.int (r_litres (I (536 + 1)) (xs (i + 1)) (xs (i + 2))))) S n I L P) := by
    rcases bq_in5 (xs (i + 1)) 5 (by decide) with z | ⟨t, ht, z⟩
    · exact m_litres_a J.1.1 J.1.2.1 J.2.2.2.1.gi z
    · rw [z]; exact m_litres_b J.1.1 J.1.2.1 J.2.2.2.1.gi ht
  refine lq_aload_n (pc := 698) 1 C dL_law_698 rfl rfl ?_
  refine lq_arg (pc := 699) (j := 1) C dL_law_699 dL_law_700 dL_law_701 dL_law_702 dL_law_703 (by decide) (by omega) hn ?_
  refine lq_arg (pc := 704) (j := 2) C dL_law_704 dL_law_705 dL_law_706 dL_law_707 dL_law_708 (by decide) (by omega) hn ?_
  refine lq_call (pc := 709) (as := [.int (xs (i + 1)), .int (xs (i + 2))]) C dL_law_709 kL_83 (con) (Cellar_sh J.1.1) rfl (Cellar_lt J.1.1) ⟨Nat.le_of_ble_eq_true rfl, Nat.le_of_ble_eq_true rfl⟩ rfl hc rfl (Nat.le_of_ble_eq_true rfl) (fun r1 S1 n1 I1 L1 P1 q1 => ?_)
  obtain ⟨e1, e2, e3, e4, e5, e6⟩ := q1
  subst S1 n1 I1 L1 P1
  refine ⟨_, e1, ?_⟩
  refine lq_aload_n (pc := 712) 2 C dL_law_712 rfl rfl ?_
  refine lq_arg (pc := 713) (j := 1) C dL_law_713 dL_law_714 dL_law_715 dL_law_716 dL_law_717 (by decide) (by omega) hn ?_
  refine lq_arg (pc := 718) (j := 2) C dL_law_718 dL_law_719 dL_law_720 dL_law_721 dL_law_722 (by decide) (by omega) hn ?_
  refine lq_call (pc := 723) (as := [.int (xs (i + 1)), .int (xs (i + 2))]) C dL_law_723 kL_86 (o_litres J.2.1 rfl J.2.2.2.1.gi) (Model_sh J.2.1) rfl (Model_lt J.2.1) ⟨Nat.le_of_ble_eq_true rfl, Nat.le_of_ble_eq_true rfl⟩ rfl hc rfl (Nat.le_of_ble_eq_true rfl) (fun r2 S2 n2 I2 L2 P2 q2 => ?_)
  obtain ⟨d1, d2, d3, d4, d5, d6⟩ := q2
  subst S2 n2 I2 L2 P2
  refine ⟨_, d1, ?_⟩
  exact lq_eqI (pc := 726) C dL_law_726 (by decide) (K _ _ _ _ _ _ _ _ (J.fr (by omega) (fun _ _ => rfl) (fun _ _ => rfl)))
set_option maxHeartbeats 400000 in
set_option maxRecDepth 20000 in
/-- ofBatch -/
theorem law_17 (C : lq_C D p s m meth c sb Ln xs) (hn : Ln ≤ 3584) (hi : i + 7 ≤ Ln) (hc : cells ≤ 600000 ∧ slots ≤ 7302250) (J : JI 0 536 S n I L P h ch tl en) (hen : en + 60 < 200000) (K : ∀ (S' : BqH) (n' : Nat) (I' : BqI) (L' : BqL) (P' : BqP) (h' : Nat → BqG) (ch' tl' : Nat), JI 0 536 S' n' I' L' P' h' ch' tl' (en + 60) → lq_W D p l e s m below meth c sb cells slots 1062 (lq_L s.heap.size sb i) [] S' n' I' L' P') : lq_W D p l e s m below meth c sb cells slots 731 (lq_L s.heap.size sb i) [] S n I L P := by
  refine lq_aload_n (pc := 731) 1 C dL_law_731 rfl rfl ?_
  refine lq_arg (pc := 732) (j := 1) C dL_law_732 dL_law_733 dL_law_734 dL_law_735 dL_law_736 (by decide) (by omega) hn ?_
  refine lq_arg (pc := 737) (j := 2) C dL_law_737 dL_law_738 dL_law_739 dL_law_740 dL_law_741 (by decide) (by omega) hn ?_
  refine lq_call (pc := 742) (as := [.int (xs (i + 1)), .int (xs (i + 2))]) C dL_law_742 kL_87 (m_ofBatch J.1.1 J.1.2.1 J.2.2.2.1.gi) (Cellar_sh J.1.1) rfl (Cellar_lt J.1.1) ⟨Nat.le_of_ble_eq_true rfl, Nat.le_of_ble_eq_true rfl⟩ rfl hc rfl (Nat.le_of_ble_eq_true rfl) (fun r1 S1 n1 I1 L1 P1 q1 => ?_)
  obtain ⟨e1, e2, e3, e4, e5, e6⟩ := q1
  subst S1 n1 I1 L1 P1
  refine ⟨_, e1, ?_⟩
  refine lq_aload_n (pc := 745) 2 C dL_law_745 rfl rfl ?_
  refine lq_arg (pc := 746) (j := 1) C dL_law_746 dL_law_747 dL_law_748 dL_law_749 dL_law_750 (by decide) (by omega) hn ?_
  refine lq_arg (pc := 751) (j := 2) C dL_law_751 dL_law_752 dL_law_753 dL_law_754 dL_law_755 (by decide) (by omega) hn ?_
  refine lq_call (pc := 756) (as := [.int (xs (i + 1)), .int (xs (i + 2))]) C dL_law_756 kL_90 (o_ofBatch J.2.1 rfl J.2.2.2.1.gi) (Model_sh J.2.1) rfl (Model_lt J.2.1) ⟨Nat.le_of_ble_eq_true rfl, Nat.le_of_ble_eq_true rfl⟩ rfl hc rfl (Nat.le_of_ble_eq_true rfl) (fun r2 S2 n2 I2 L2 P2 q2 => ?_)
  obtain ⟨d1, d2, d3, d4, d5, d6⟩ := q2
  subst S2 n2 I2 L2 P2
  refine ⟨_, d1, ?_⟩
  exact lq_eqI (pc := 759) C dL_law_759 (by decide) (K _ _ _ _ _ _ _ _ (J.fr (by omega) (fun _ _ => rfl) (fun _ _ => rfl)))
set_option maxHeartbeats 400000 in
set_option maxRecDepth 20000 in
/-- ofOrder -/
theorem law_19 (C : lq_C D p s m meth c sb Ln xs) (hn : Ln ≤ 3584) (hi : i + 7 ≤ Ln) (hc : cells ≤ 600000 ∧ slots ≤ 7302250) (J : JI 0 536 S n I L P h ch tl en) (hen : en + 60 < 200000) (K : ∀ (S' : BqH) (n' : Nat) (I' : BqI) (L' : BqL) (P' : BqP) (h' : Nat → BqG) (ch' tl' : Nat), JI 0 536 S' n' I' L' P' h' ch' tl' (en + 60) → lq_W D p l e s m below meth c sb cells slots 1062 (lq_L s.heap.size sb i) [] S' n' I' L' P') : lq_W D p l e s m below meth c sb cells slots 817 (lq_L s.heap.size sb i) [] S n I L P := by
  have con1 : bq_Sp mX11_ofOrder 5 108 0 0 [.ref 0, .int (xs (i + 1)), .int (xs (i + 2))] S n I L P (qKv 0 I S n L P (r_ofOrder (I (536 + 1)) (xs (i + 1)) (xs (i + 2)))) := by
    rcases bq_inO J.2.2.2.1.gi (xs (i + 1)) with z | ⟨o, ho, z⟩
    · exact m_ofOrder_a J.1.1 J.1.2.1 J.2.2.2.1.gi z
    · rw [z, r_ofOrder_in J.2.2.2.1.gi ho]; exact m_ofOrder_b J.1.1 J.1.2.1 J.2.2.2.1.gi ho
  have con2 : ∀ I1 : BqI, I1 (536 + 1) = I (536 + 1) → bq_Sp mX12_ofOrder 7 145 0 0 [.ref 536, .int (xs (i + 1)), .int (xs (i + 2))] S n I1 L P (qMw 536 I1 S n L P (r_ofOrder (I (536 + 1)) (xs (i + 1)) (xs (i + 2)))) := fun I1 a3 => by
    rcases bq_inO J.2.2.2.1.gi (xs (i + 1)) with z | ⟨o, ho, z⟩
    · exact o_ofOrder_a J.2.1 a3 J.2.2.2.1.gi z
    · rw [z, r_ofOrder_in J.2.2.2.1.gi ho]; exact o_ofOrder_b J.2.1 a3 J.2.2.2.1.gi ho
  refine lq_aload_n (pc := 817) 1 C dL_law_817 rfl rfl ?_
  refine lq_arg (pc := 818) (j := 1) C dL_law_818 dL_law_819 dL_law_820 dL_law_821 dL_law_822 (by decide) (by omega) hn ?_
  refine lq_arg (pc := 823) (j := 2) C dL_law_823 dL_law_824 dL_law_825 dL_law_826 dL_law_827 (by decide) (by omega) hn ?_
  refine lq_call (pc := 828) (as := [.int (xs (i + 1)), .int (xs (i + 2))]) C dL_law_828 kL_95 (con1) (Cellar_sh J.1.1) rfl (Cellar_lt J.1.1) ⟨Nat.le_of_ble_eq_true rfl, Nat.le_of_ble_eq_true rfl⟩ rfl hc rfl (Nat.le_of_ble_eq_true rfl) (fun r1 S1 n1 I1 L1 P1 q1 => ?_)
  obtain ⟨e1, e2, e3, e4, e5, k1⟩ := q1
  subst S1 n1 L1 P1
  have a3 : I1 (536 + 1) = I (536 + 1) := k1 _ (by omega)
  refine ⟨_, e1, ?_⟩
  refine lq_aload_n (pc := 831) 2 C dL_law_831 rfl rfl ?_
  refine lq_arg (pc := 832) (j := 1) C dL_law_832 dL_law_833 dL_law_834 dL_law_835 dL_law_836 (by decide) (by omega) hn ?_
  refine lq_arg (pc := 837) (j := 2) C dL_law_837 dL_law_838 dL_law_839 dL_law_840 dL_law_841 (by decide) (by omega) hn ?_
  refine lq_call (pc := 842) (as := [.int (xs (i + 1)), .int (xs (i + 2))]) C dL_law_842 kL_98 (con2 I1 a3) (Model_sh J.2.1) rfl (Model_lt J.2.1) ⟨Nat.le_of_ble_eq_true rfl, Nat.le_of_ble_eq_true rfl⟩ rfl hc rfl (Nat.le_of_ble_eq_true rfl) (fun r2 S2 n2 I2 L2 P2 q2 => ?_)
  obtain ⟨d1, d2, d3, d4, d5, k2, k3⟩ := q2
  subst S2 n2 L2 P2
  refine ⟨_, d1, ?_⟩
  exact lq_eqI (pc := 845) C dL_law_845 (by decide) (K _ _ _ _ _ _ _ _ (J.fr (by omega) (fun a ha => (k2 a (by omega) (by omega)).trans (k1 a (by omega))) (fun k hk => (k3 k hk).trans (congrFun (k1 536 (by omega)) k))))
set_option maxHeartbeats 400000 in
set_option maxRecDepth 20000 in
/-- planned -/
theorem law_20 (C : lq_C D p s m meth c sb Ln xs) (hn : Ln ≤ 3584) (hi : i + 7 ≤ Ln) (hc : cells ≤ 600000 ∧ slots ≤ 7302250) (J : JI 0 536 S n I L P h ch tl en) (hen : en + 60 < 200000) (K : ∀ (S' : BqH) (n' : Nat) (I' : BqI) (L' : BqL) (P' : BqP) (h' : Nat → BqG) (ch' tl' : Nat), JI 0 536 S' n' I' L' P' h' ch' tl' (en + 60) → lq_W D p l e s m below meth c sb cells slots 1062 (lq_L s.heap.size sb i) [] S' n' I' L' P') : lq_W D p l e s m below meth c sb cells slots 850 (lq_L s.heap.size sb i) [] S n I L P := by
  have con1 := m_planned (i := (xs (i + 1))) J.1.1 J.1.2.1 J.2.2.2.1.gi
  have con2 := fun (I1 : BqI) (a3 : I1 (536 + 1) = I (536 + 1)) => o_planned (i := (xs (i + 1))) (S := S) (n := n) (L := L) (P := P) J.2.1 a3 J.2.2.2.1.gi
  refine lq_aload_n (pc := 850) 1 C dL_law_850 rfl rfl ?_
  refine lq_arg (pc := 851) (j := 1) C dL_law_851 dL_law_852 dL_law_853 dL_law_854 dL_law_855 (by decide) (by omega) hn ?_
  refine lq_call (pc := 856) (as := [.int (xs (i + 1))]) C dL_law_856 kL_99 (con1) (Cellar_sh J.1.1) rfl (Cellar_lt J.1.1) ⟨Nat.le_of_ble_eq_true rfl, Nat.le_of_ble_eq_true rfl⟩ rfl hc rfl (Nat.le_of_ble_eq_true rfl) (fun r1 S1 n1 I1 L1 P1 q1 => ?_)
  obtain ⟨e1, e2, e3, e4, e5, k1⟩ := q1
  subst S1 n1 L1 P1
  have a3 : I1 (536 + 1) = I (536 + 1) := k1 _ (by omega)
  refine ⟨_, e1, ?_⟩
  refine lq_aload_n (pc := 859) 2 C dL_law_859 rfl rfl ?_
  refine lq_arg (pc := 860) (j := 1) C dL_law_860 dL_law_861 dL_law_862 dL_law_863 dL_law_864 (by decide) (by omega) hn ?_
  refine lq_call (pc := 865) (as := [.int (xs (i + 1))]) C dL_law_865 kL_102 (con2 I1 a3) (Model_sh J.2.1) rfl (Model_lt J.2.1) ⟨Nat.le_of_ble_eq_true rfl, Nat.le_of_ble_eq_true rfl⟩ rfl hc rfl (Nat.le_of_ble_eq_true rfl) (fun r2 S2 n2 I2 L2 P2 q2 => ?_)
  obtain ⟨d1, d2, d3, d4, d5, k2, k3⟩ := q2
  subst S2 n2 L2 P2
  refine ⟨_, d1, ?_⟩
  exact lq_eqI (pc := 868) C dL_law_868 (by decide) (K _ _ _ _ _ _ _ _ (J.fr (by omega) (fun a ha => (k2 a (by omega) (by omega)).trans (k1 a (by omega))) (fun k hk => (k3 k hk).trans (congrFun (k1 536 (by omega)) k))))
set_option maxHeartbeats 400000 in
set_option maxRecDepth 20000 in
/-- holds -/
theorem law_21 (C : lq_C D p s m meth c sb Ln xs) (hn : Ln ≤ 3584) (hi : i + 7 ≤ Ln) (hc : cells ≤ 600000 ∧ slots ≤ 7302250) (J : JI 0 536 S n I L P h ch tl en) (hen : en + 60 < 200000) (K : ∀ (S' : BqH) (n' : Nat) (I' : BqI) (L' : BqL) (P' : BqP) (h' : Nat → BqG) (ch' tl' : Nat), JI 0 536 S' n' I' L' P' h' ch' tl' (en + 60) → lq_W D p l e s m below meth c sb cells slots 1062 (lq_L s.heap.size sb i) [] S' n' I' L' P') : lq_W D p l e s m below meth c sb cells slots 873 (lq_L s.heap.size sb i) [] S n I L P := by
  refine lq_aload_n (pc := 873) 1 C dL_law_873 rfl rfl ?_
  refine lq_arg (pc := 874) (j := 1) C dL_law_874 dL_law_875 dL_law_876 dL_law_877 dL_law_878 (by decide) (by omega) hn ?_
  refine lq_arg (pc := 879) (j := 2) C dL_law_879 dL_law_880 dL_law_881 dL_law_882 dL_law_883 (by decide) (by omega) hn ?_
  refine lq_call (pc := 884) (as := [.int (xs (i + 1)), .int (xs (i + 2))]) C dL_law_884 kL_103 (m_holds J.1.1 J.1.2.1 J.2.2.2.1.gi) (Cellar_sh J.1.1) rfl (Cellar_lt J.1.1) ⟨Nat.le_of_ble_eq_true rfl, Nat.le_of_ble_eq_true rfl⟩ rfl hc rfl (Nat.le_of_ble_eq_true rfl) (fun r1 S1 n1 I1 L1 P1 q1 => ?_)
  obtain ⟨e1, e2, e3, e4, e5, e6⟩ := q1
  subst S1 n1 I1 L1 P1
  refine ⟨_, e1, ?_⟩
  refine lq_aload_n (pc := 887) 2 C dL_law_887 rfl rfl ?_
  refine lq_arg (pc := 888) (j := 1) C dL_law_888 dL_law_889 dL_law_890 dL_law_891 dL_law_892 (by decide) (by omega) hn ?_
  refine lq_arg (pc := 893) (j := 2) C dL_law_893 dL_law_894 dL_law_895 dL_law_896 dL_law_897 (by decide) (by omega) hn ?_
  refine lq_call (pc := 898) (as := [.int (xs (i + 1)), .int (xs (i + 2))]) C dL_law_898 kL_106 (o_holds J.2.1 rfl J.2.2.2.1.gi) (Model_sh J.2.1) rfl (Model_lt J.2.1) ⟨Nat.le_of_ble_eq_true rfl, Nat.le_of_ble_eq_true rfl⟩ rfl hc rfl (Nat.le_of_ble_eq_true rfl) (fun r2 S2 n2 I2 L2 P2 q2 => ?_)
  obtain ⟨d1, d2, d3, d4, d5, d6⟩ := q2
  subst S2 n2 I2 L2 P2
  rw [← holds_same J.1.2.1 J.2.2.2.1.gi] at d1
  refine ⟨_, d1, ?_⟩
  exact lq_eqI (pc := 901) C dL_law_901 (by decide) (K _ _ _ _ _ _ _ _ (J.fr (by omega) (fun _ _ => rfl) (fun _ _ => rfl)))
set_option maxHeartbeats 400000 in
set_option maxRecDepth 20000 in
/-- excise -/
theorem law_22 (C : lq_C D p s m meth c sb Ln xs) (hn : Ln ≤ 3584) (hi : i + 7 ≤ Ln) (hc : cells ≤ 600000 ∧ slots ≤ 7302250) (J : JI 0 536 S n I L P h ch tl en) (hen : en + 60 < 200000) (K : ∀ (S' : BqH) (n' : Nat) (I' : BqI) (L' : BqL) (P' : BqP) (h' : Nat → BqG) (ch' tl' : Nat), JI 0 536 S' n' I' L' P' h' ch' tl' (en + 60) → lq_W D p l e s m below meth c sb cells slots 1062 (lq_L s.heap.size sb i) [] S' n' I' L' P') : lq_W D p l e s m below meth c sb cells slots 906 (lq_L s.heap.size sb i) [] S n I L P := by
  refine lq_aload_n (pc := 906) 1 C dL_law_906 rfl rfl ?_
  refine lq_arg (pc := 907) (j := 1) C dL_law_907 dL_law_908 dL_law_909 dL_law_910 dL_law_911 (by decide) (by omega) hn ?_
  refine lq_call (pc := 912) (as := [.int (xs (i + 1))]) C dL_law_912 kL_107 (m_excise J.1.1 J.1.2.1 J.2.2.2.1.gi) (Cellar_sh J.1.1) rfl (Cellar_lt J.1.1) ⟨Nat.le_of_ble_eq_true rfl, Nat.le_of_ble_eq_true rfl⟩ rfl hc rfl (Nat.le_of_ble_eq_true rfl) (fun r1 S1 n1 I1 L1 P1 q1 => ?_)
  obtain ⟨e1, e2, e3, e4, e5, e6⟩ := q1
  subst S1 n1 I1 L1 P1
  refine ⟨_, e1, ?_⟩
  refine lq_aload_n (pc := 915) 2 C dL_law_915 rfl rfl ?_
  refine lq_arg (pc := 916) (j := 1) C dL_law_916 dL_law_917 dL_law_918 dL_law_919 dL_law_920 (by decide) (by omega) hn ?_
  refine lq_call (pc := 921) (as := [.int (xs (i + 1))]) C dL_law_921 kL_111 (o_excise J.2.1 rfl J.2.2.2.1.gi) (Model_sh J.2.1) rfl (Model_lt J.2.1) ⟨Nat.le_of_ble_eq_true rfl, Nat.le_of_ble_eq_true rfl⟩ rfl hc rfl (Nat.le_of_ble_eq_true rfl) (fun r2 S2 n2 I2 L2 P2 q2 => ?_)
  obtain ⟨d1, d2, d3, d4, d5, d6⟩ := q2
  subst S2 n2 I2 L2 P2
  refine ⟨_, d1, ?_⟩
  exact lq_eqL (pc := 924) C dL_law_924 dL_law_925 (by decide) (K _ _ _ _ _ _ _ _ (J.fr (by omega) (fun _ _ => rfl) (fun _ _ => rfl)))
set_option maxHeartbeats 400000 in
set_option maxRecDepth 20000 in
/-- entry -/
theorem law_24 (C : lq_C D p s m meth c sb Ln xs) (hn : Ln ≤ 3584) (hi : i + 7 ≤ Ln) (hc : cells ≤ 600000 ∧ slots ≤ 7302250) (J : JI 0 536 S n I L P h ch tl en) (hen : en + 60 < 200000) (K : ∀ (S' : BqH) (n' : Nat) (I' : BqI) (L' : BqL) (P' : BqP) (h' : Nat → BqG) (ch' tl' : Nat), JI 0 536 S' n' I' L' P' h' ch' tl' (en + 60) → lq_W D p l e s m below meth c sb cells slots 1062 (lq_L s.heap.size sb i) [] S' n' I' L' P') : lq_W D p l e s m below meth c sb cells slots 943 (lq_L s.heap.size sb i) [] S n I L P := by
  refine lq_aload_n (pc := 943) 1 C dL_law_943 rfl rfl ?_
  refine lq_arg (pc := 944) (j := 1) C dL_law_944 dL_law_945 dL_law_946 dL_law_947 dL_law_948 (by decide) (by omega) hn ?_
  refine lq_arg (pc := 949) (j := 2) C dL_law_949 dL_law_950 dL_law_951 dL_law_952 dL_law_953 (by decide) (by omega) hn ?_
  refine lq_call (pc := 954) (as := [.int (xs (i + 1)), .int (xs (i + 2))]) C dL_law_954 kL_116 (m_entry J.1.1) (Cellar_sh J.1.1) rfl (Cellar_lt J.1.1) ⟨Nat.le_of_ble_eq_true rfl, Nat.le_of_ble_eq_true rfl⟩ rfl hc rfl (Nat.le_of_ble_eq_true rfl) (fun r1 S1 n1 I1 L1 P1 q1 => ?_)
  obtain ⟨e1, e2, e3, e4, e5, e6⟩ := q1
  subst S1 n1 I1 L1 P1
  refine ⟨_, e1, ?_⟩
  refine lq_aload_n (pc := 957) 2 C dL_law_957 rfl rfl ?_
  refine lq_arg (pc := 958) (j := 1) C dL_law_958 dL_law_959 dL_law_960 dL_law_961 dL_law_962 (by decide) (by omega) hn ?_
  refine lq_arg (pc := 963) (j := 2) C dL_law_963 dL_law_964 dL_law_965 dL_law_966 dL_law_967 (by decide) (by omega) hn ?_
  refine lq_call (pc := 968) (as := [.int (xs (i + 1)), .int (xs (i + 2))]) C dL_law_968 kL_119 (o_entry J.2.1 rfl J.2.2.2.1.gi (by omega)) (Model_sh J.2.1) rfl (Model_lt J.2.1) ⟨Nat.le_of_ble_eq_true rfl, Nat.le_of_ble_eq_true rfl⟩ rfl hc rfl (Nat.le_of_ble_eq_true rfl) (fun r2 S2 n2 I2 L2 P2 q2 => ?_)
  obtain ⟨d1, d2, d3, d4, d5, d6⟩ := q2
  subst S2 n2 I2 L2 P2
  rw [← entry_same J.1.2.1] at d1
  refine ⟨_, d1, ?_⟩
  exact lq_eqI (pc := 971) C dL_law_971 (by decide) (K _ _ _ _ _ _ _ _ (J.fr (by omega) (fun _ _ => rfl) (fun _ _ => rfl)))
set_option maxHeartbeats 400000 in
set_option maxRecDepth 20000 in
/-- account -/
theorem law_25 (C : lq_C D p s m meth c sb Ln xs) (hn : Ln ≤ 3584) (hi : i + 7 ≤ Ln) (hc : cells ≤ 600000 ∧ slots ≤ 7302250) (J : JI 0 536 S n I L P h ch tl en) (hen : en + 60 < 200000) (K : ∀ (S' : BqH) (n' : Nat) (I' : BqI) (L' : BqL) (P' : BqP) (h' : Nat → BqG) (ch' tl' : Nat), JI 0 536 S' n' I' L' P' h' ch' tl' (en + 60) → lq_W D p l e s m below meth c sb cells slots 1062 (lq_L s.heap.size sb i) [] S' n' I' L' P') : lq_W D p l e s m below meth c sb cells slots 976 (lq_L s.heap.size sb i) [] S n I L P := by
  refine lq_aload_n (pc := 976) 1 C dL_law_976 rfl rfl ?_
  refine lq_arg (pc := 977) (j := 1) C dL_law_977 dL_law_978 dL_law_979 dL_law_980 dL_law_981 (by decide) (by omega) hn ?_
  refine lq_call (pc := 982) (as := [.int (xs (i + 1))]) C dL_law_982 kL_120 (m_account J.1.1 J.1.2.1 J.2.2.2.1.gi) (Cellar_sh J.1.1) rfl (Cellar_lt J.1.1) ⟨Nat.le_of_ble_eq_true rfl, Nat.le_of_ble_eq_true rfl⟩ rfl hc rfl (Nat.le_of_ble_eq_true rfl) (fun r1 S1 n1 I1 L1 P1 q1 => ?_)
  obtain ⟨e1, e2, e3, e4, e5, e6⟩ := q1
  subst S1 n1 I1 L1 P1
  refine ⟨_, e1, ?_⟩
  refine lq_aload_n (pc := 985) 2 C dL_law_985 rfl rfl ?_
  refine lq_arg (pc := 986) (j := 1) C dL_law_986 dL_law_987 dL_law_988 dL_law_989 dL_law_990 (by decide) (by omega) hn ?_
  refine lq_call (pc := 991) (as := [.int (xs (i + 1))]) C dL_law_991 kL_123 (o_account J.2.1 rfl J.2.2.2.1.gi) (Model_sh J.2.1) rfl (Model_lt J.2.1) ⟨Nat.le_of_ble_eq_true rfl, Nat.le_of_ble_eq_true rfl⟩ rfl hc rfl (Nat.le_of_ble_eq_true rfl) (fun r2 S2 n2 I2 L2 P2 q2 => ?_)
  obtain ⟨d1, d2, d3, d4, d5, d6⟩ := q2
  subst S2 n2 I2 L2 P2
  refine ⟨_, d1, ?_⟩
  exact lq_eqL (pc := 994) C dL_law_994 dL_law_995 (by decide) (K _ _ _ _ _ _ _ _ (J.fr (by omega) (fun _ _ => rfl) (fun _ _ => rfl)))
set_option maxHeartbeats 400000 in
set_option maxRecDepth 20000 in
/-- count -/
theorem law_29 (C : lq_C D p s m meth c sb Ln xs) (hn : Ln ≤ 3584) (hi : i + 7 ≤ Ln) (hc : cells ≤ 600000 ∧ slots ≤ 7302250) (J : JI 0 536 S n I L P h ch tl en) (hen : en + 60 < 200000) (K : ∀ (S' : BqH) (n' : Nat) (I' : BqI) (L' : BqL) (P' : BqP) (h' : Nat → BqG) (ch' tl' : Nat), JI 0 536 S' n' I' L' P' h' ch' tl' (en + 60) → lq_W D p l e s m below meth c sb cells slots 1062 (lq_L s.heap.size sb i) [] S' n' I' L' P') : lq_W D p l e s m below meth c sb cells slots 1039 (lq_L s.heap.size sb i) [] S n I L P := by
  refine lq_aload_n (pc := 1039) 1 C dL_law_1039 rfl rfl ?_
  refine lq_arg (pc := 1040) (j := 1) C dL_law_1040 dL_law_1041 dL_law_1042 dL_law_1043 dL_law_1044 (by decide) (by omega) hn ?_
  refine lq_call (pc := 1045) (as := [.int (xs (i + 1))]) C dL_law_1045 kL_136 (m_count J.1.1 J.1.2.1 J.2.2.2.1.gi J.1.2.2.1) (Cellar_sh J.1.1) rfl (Cellar_lt J.1.1) ⟨Nat.le_of_ble_eq_true rfl, Nat.le_of_ble_eq_true rfl⟩ rfl hc rfl (Nat.le_of_ble_eq_true rfl) (fun r1 S1 n1 I1 L1 P1 q1 => ?_)
  obtain ⟨e1, e2, e3, e4, e5, e6⟩ := q1
  subst S1 n1 I1 L1 P1
  refine ⟨_, e1, ?_⟩
  refine lq_aload_n (pc := 1048) 2 C dL_law_1048 rfl rfl ?_
  refine lq_arg (pc := 1049) (j := 1) C dL_law_1049 dL_law_1050 dL_law_1051 dL_law_1052 dL_law_1053 (by decide) (by omega) hn ?_
  refine lq_call (pc := 1054) (as := [.int (xs (i + 1))]) C dL_law_1054 kL_139 (o_count J.2.1 rfl J.2.2.2.1.gi J.2.2.1.1) (Model_sh J.2.1) rfl (Model_lt J.2.1) ⟨Nat.le_of_ble_eq_true rfl, Nat.le_of_ble_eq_true rfl⟩ rfl hc rfl (Nat.le_of_ble_eq_true rfl) (fun r2 S2 n2 I2 L2 P2 q2 => ?_)
  obtain ⟨d1, d2, d3, d4, d5, d6⟩ := q2
  subst S2 n2 I2 L2 P2
  rw [J.2.2.2.2.2.1.2.1, ← J.2.2.2.2.2.1.1] at d1
  refine ⟨_, d1, ?_⟩
  exact lq_eqI (pc := 1057) C dL_law_1057 (by decide) (K _ _ _ _ _ _ _ _ (J.fr (by omega) (fun _ _ => rfl) (fun _ _ => rfl)))
set_option maxHeartbeats 400000 in
set_option maxRecDepth 20000 in
/-- feed -/
theorem law_12 (C : lq_C D p s m meth c sb Ln xs) (hn : Ln ≤ 3584) (hi : i + 7 ≤ Ln) (hc : cells ≤ 600000 ∧ slots ≤ 7302250) (J : JI 0 536 S n I L P h ch tl en) (hen : en + 60 < 200000) (K : ∀ (S' : BqH) (n' : Nat) (I' : BqI) (L' : BqL) (P' : BqP) (h' : Nat → BqG) (ch' tl' : Nat), JI 0 536 S' n' I' L' P' h' ch' tl' (en + 60) → lq_W D p l e s m below meth c sb cells slots 1062 (lq_L s.heap.size sb i) [] S' n' I' L' P') : lq_W D p l e s m below meth c sb cells slots 564 (lq_L s.heap.size sb i) [] S n I L P := by
  refine lq_aload_n (pc := 564) 1 C dL_law_564 rfl rfl ?_
  refine lq_arg (pc := 565) (j := 1) C dL_law_565 dL_law_566 dL_law_567 dL_law_568 dL_law_569 (by decide) (by omega) hn ?_
  refine lq_arg (pc := 570) (j := 2) C dL_law_570 dL_law_571 dL_law_572 dL_law_573 dL_law_574 (by decide) (by omega) hn ?_
  refine lq_arg (pc := 575) (j := 3) C dL_law_575 dL_law_576 dL_law_577 dL_law_578 dL_law_579 (by decide) (by omega) hn ?_
  refine lq_arg (pc := 580) (j := 4) C dL_law_580 dL_law_581 dL_law_582 dL_law_583 dL_law_584 (by decide) (by omega) hn ?_
  refine lq_arg (pc := 585) (j := 5) C dL_law_585 dL_law_586 dL_law_587 dL_law_588 dL_law_589 (by decide) (by omega) hn ?_
  refine lq_arg6 (pc := 590) (j := 6) C dL_law_590 dL_law_591 dL_law_592 dL_law_594 dL_law_595 (by decide) (by omega) hn ?_
  refine lq_call (pc := 596) (as := [.int (xs (i + 1)), .int (xs (i + 2)), .int (xs (i + 3)), .int (xs (i + 4)), .int (xs (i + 5)), .int (xs (i + 6))]) C dL_law_596 kL_66 (m_feed J.1.1 J.2.2.2.2.2.1.1 J.2.2.2.2.2.1.2.2.1) (Cellar_sh J.1.1) rfl (Cellar_lt J.1.1) ⟨Nat.le_of_ble_eq_true rfl, Nat.le_of_ble_eq_true rfl⟩ rfl hc rfl (Nat.le_of_ble_eq_true rfl) (fun r1 S1 n1 I1 L1 P1 q1 => ?_)
  have q0 := q1
  obtain ⟨e1, e2, e3, e4, e5, -, -, x2⟩ := q0
  subst S1 n1 L1 P1
  have a9 : I1 536 9 = nI tl := (congrFun (x2 536 (by omega) (by omega)) 9).trans J.2.2.2.2.2.1.2.1
  refine ⟨_, e1, ?_⟩
  refine lq_aload_n (pc := 599) 2 C dL_law_599 rfl rfl ?_
  refine lq_arg (pc := 600) (j := 1) C dL_law_600 dL_law_601 dL_law_602 dL_law_603 dL_law_604 (by decide) (by omega) hn ?_
  refine lq_arg (pc := 605) (j := 2) C dL_law_605 dL_law_606 dL_law_607 dL_law_608 dL_law_609 (by decide) (by omega) hn ?_
  refine lq_arg (pc := 610) (j := 3) C dL_law_610 dL_law_611 dL_law_612 dL_law_613 dL_law_614 (by decide) (by omega) hn ?_
  refine lq_arg (pc := 615) (j := 4) C dL_law_615 dL_law_616 dL_law_617 dL_law_618 dL_law_619 (by decide) (by omega) hn ?_
  refine lq_arg (pc := 620) (j := 5) C dL_law_620 dL_law_621 dL_law_622 dL_law_623 dL_law_624 (by decide) (by omega) hn ?_
  refine lq_arg6 (pc := 625) (j := 6) C dL_law_625 dL_law_626 dL_law_627 dL_law_629 dL_law_630 (by decide) (by omega) hn ?_
  refine lq_call (pc := 631) (as := [.int (xs (i + 1)), .int (xs (i + 2)), .int (xs (i + 3)), .int (xs (i + 4)), .int (xs (i + 5)), .int (xs (i + 6))]) C dL_law_631 kL_70 (o_feed J.2.1 a9 J.2.2.2.2.2.1.2.2.1) (Model_sh J.2.1) rfl (Model_lt J.2.1) ⟨Nat.le_of_ble_eq_true rfl, Nat.le_of_ble_eq_true rfl⟩ rfl hc rfl (Nat.le_of_ble_eq_true rfl) (fun r2 S2 n2 I2 L2 P2 q2 => ?_)
  obtain ⟨⟨v, f1, f2⟩, -, tl', J'⟩ := J.feed (by omega) q1 q2
  have f3 := e1.symm.trans f1
  cases f3
  refine ⟨_, f2, ?_⟩
  exact lq_eqI (pc := 634) C dL_law_634 (by decide) (K _ _ _ _ _ _ _ _ J')
set_option maxHeartbeats 400000 in
set_option maxRecDepth 20000 in
/-- run -/
theorem law_13 (C : lq_C D p s m meth c sb Ln xs) (hn : Ln ≤ 3584) (hi : i + 7 ≤ Ln) (hc : cells ≤ 600000 ∧ slots ≤ 7302250) (J : JI 0 536 S n I L P h ch tl en) (hen : en + 60 < 200000) (K : ∀ (S' : BqH) (n' : Nat) (I' : BqI) (L' : BqL) (P' : BqP) (h' : Nat → BqG) (ch' tl' : Nat), JI 0 536 S' n' I' L' P' h' ch' tl' (en + 60) → lq_W D p l e s m below meth c sb cells slots 1062 (lq_L s.heap.size sb i) [] S' n' I' L' P') : lq_W D p l e s m below meth c sb cells slots 639 (lq_L s.heap.size sb i) [] S n I L P := by
  refine lq_aload_n (pc := 639) 1 C dL_law_639 rfl rfl ?_
  refine lq_call (pc := 640) (as := []) C dL_law_640 kL_71 (m_run J.1 J.2.2.2.1 hen J.2.2.2.2.2.1.1 J.2.2.2.2.2.1.2.2.1) (Cellar_sh J.1.1) rfl (Cellar_lt J.1.1) ⟨Nat.le_of_ble_eq_true rfl, Nat.le_of_ble_eq_true rfl⟩ rfl hc rfl (Nat.le_of_ble_eq_true rfl) (fun r1 S1 n1 I1 L1 P1 q1 => ?_)
  have q0 := q1
  obtain ⟨e1, e2, e3, -, -, -, -, x6, -, -, x8⟩ := q0
  subst S1 n1
  have a1 : oModel S n P1 536 := J.2.1.congr (x8 536 (by omega))
  have f0 : ∀ a, 0 + 536 ≤ a → I1 a = I a := fun a ha => x6 a (by omega)
  have a2 : MH 536 I1 h ch := ⟨(congrFun (f0 536 (by omega)) 2).trans J.2.2.1.1, J.2.2.1.2.1, fun i hi k hk => by rw [f0 _ (by omega)]; exact J.2.2.1.2.2 i hi k hk⟩
  have a4 : I1 536 6 = nI 0 := (congrFun (f0 536 (by omega)) 6).trans J.2.2.2.2.2.2.2.1
  have a9 : I1 536 9 = nI tl := (congrFun (f0 536 (by omega)) 9).trans J.2.2.2.2.2.1.2.1
  refine ⟨_, e1, ?_⟩
  refine lq_aload_n (pc := 643) 2 C dL_law_643 rfl rfl ?_
  refine lq_call (pc := 644) (as := []) C dL_law_644 kL_74 (o_run a1 a2 (f0 _ (by omega)) J.2.2.2.1 hen a4 a9 J.2.2.2.2.2.1.2.2.1) (Model_sh a1) rfl (Model_lt a1) ⟨Nat.le_of_ble_eq_true rfl, Nat.le_of_ble_eq_true rfl⟩ rfl hc rfl (Nat.le_of_ble_eq_true rfl) (fun r2 S2 n2 I2 L2 P2 q2 => ?_)
  obtain ⟨⟨v, f1, f2⟩, -, h', ch', J'⟩ := J.run (by omega) hen q1 q2
  have f3 := e1.symm.trans f1
  cases f3
  refine ⟨_, f2, ?_⟩
  exact lq_eqI (pc := 647) C dL_law_647 (by decide) (K _ _ _ _ _ _ _ _ J')
set_option maxHeartbeats 400000 in
set_option maxRecDepth 20000 in
/-- back -/
theorem law_26_a (C : lq_C D p s m meth c sb Ln xs) (hn : Ln ≤ 3584) (hi : i + 7 ≤ Ln) (hc : cells ≤ 600000 ∧ slots ≤ 7302250) (J : JI 0 536 S n I L P h 0 tl en) (hen : en + 60 < 200000) (K : ∀ (S' : BqH) (n' : Nat) (I' : BqI) (L' : BqL) (P' : BqP) (h' : Nat → BqG) (ch' tl' : Nat), JI 0 536 S' n' I' L' P' h' ch' tl' (en + 60) → lq_W D p l e s m below meth c sb cells slots 1062 (lq_L s.heap.size sb i) [] S' n' I' L' P') : lq_W D p l e s m below meth c sb cells slots 1000 (lq_L s.heap.size sb i) [] S n I L P := by
  refine lq_aload_n (pc := 1000) 1 C dL_law_1000 rfl rfl ?_
  refine lq_call (pc := 1001) (as := []) C dL_law_1001 kL_124 (m_back_a J.1) (Cellar_sh J.1.1) rfl (Cellar_lt J.1.1) ⟨Nat.le_of_ble_eq_true rfl, Nat.le_of_ble_eq_true rfl⟩ rfl hc rfl (Nat.le_of_ble_eq_true rfl) (fun r1 S1 n1 I1 L1 P1 q1 => ?_)
  obtain ⟨a1, a2, a3, a4⟩ := J.mid (by omega) q1
  refine ⟨_, q1.1, ?_⟩
  refine lq_aload_n (pc := 1004) 2 C dL_law_1004 rfl rfl ?_
  refine lq_call (pc := 1005) (as := []) C dL_law_1005 kL_127 (o_back_a a1 a2) (Model_sh a1) rfl (Model_lt a1) ⟨Nat.le_of_ble_eq_true rfl, Nat.le_of_ble_eq_true rfl⟩ rfl hc rfl (Nat.le_of_ble_eq_true rfl) (fun r2 S2 n2 I2 L2 P2 q2 => ?_)
  have q3 := qMo.none a2 a3 q2
  obtain ⟨⟨v, f1, f2⟩, -, h', ch', J'⟩ := J.op (by omega) (Op.same (a := (-3)) J.2.2.2.1 (p := fun y => ((-3), I (536 + 1), h, 0, y)) (fun _ => rfl)) q1 q3
  have f3 := q1.1.symm.trans f1
  cases f3
  refine ⟨_, f2, ?_⟩
  exact lq_eqI (pc := 1008) C dL_law_1008 (by decide) (K _ _ _ _ _ _ _ _ J')
set_option maxHeartbeats 400000 in
set_option maxRecDepth 20000 in
/-- back -/
theorem law_26_b (C : lq_C D p s m meth c sb Ln xs) (hn : Ln ≤ 3584) (hi : i + 7 ≤ Ln) (hc : cells ≤ 600000 ∧ slots ≤ 7302250) (J : JI 0 536 S n I L P h (ch + 1) tl en) (hen : en + 60 < 200000) (K : ∀ (S' : BqH) (n' : Nat) (I' : BqI) (L' : BqL) (P' : BqP) (h' : Nat → BqG) (ch' tl' : Nat), JI 0 536 S' n' I' L' P' h' ch' tl' (en + 60) → lq_W D p l e s m below meth c sb cells slots 1062 (lq_L s.heap.size sb i) [] S' n' I' L' P') : lq_W D p l e s m below meth c sb cells slots 1000 (lq_L s.heap.size sb i) [] S n I L P := by
  refine lq_aload_n (pc := 1000) 1 C dL_law_1000 rfl rfl ?_
  refine lq_call (pc := 1001) (as := []) C dL_law_1001 kL_124 (m_back_b J.1) (Cellar_sh J.1.1) rfl (Cellar_lt J.1.1) ⟨Nat.le_of_ble_eq_true rfl, Nat.le_of_ble_eq_true rfl⟩ rfl hc rfl (Nat.le_of_ble_eq_true rfl) (fun r1 S1 n1 I1 L1 P1 q1 => ?_)
  obtain ⟨a1, a2, a3, a4⟩ := J.mid (by omega) q1
  refine ⟨_, q1.1, ?_⟩
  refine lq_aload_n (pc := 1004) 2 C dL_law_1004 rfl rfl ?_
  refine lq_call (pc := 1005) (as := []) C dL_law_1005 kL_127 (o_back_b a1 a2) (Model_sh a1) rfl (Model_lt a1) ⟨Nat.le_of_ble_eq_true rfl, Nat.le_of_ble_eq_true rfl⟩ rfl hc rfl (Nat.le_of_ble_eq_true rfl) (fun r2 S2 n2 I2 L2 P2 q2 => ?_)
  obtain ⟨⟨v, f1, f2⟩, -, J'⟩ := J.back (by omega) q1 q2
  have f3 := q1.1.symm.trans f1
  cases f3
  refine ⟨_, f2, ?_⟩
  exact lq_eqI (pc := 1008) C dL_law_1008 (by decide) (K _ _ _ _ _ _ _ _ J')
theorem law_26 (C : lq_C D p s m meth c sb Ln xs) (hn : Ln ≤ 3584) (hi : i + 7 ≤ Ln) (hc : cells ≤ 600000 ∧ slots ≤ 7302250) (J : JI 0 536 S n I L P h ch tl en) (hen : en + 60 < 200000) (K : ∀ (S' : BqH) (n' : Nat) (I' : BqI) (L' : BqL) (P' : BqP) (h' : Nat → BqG) (ch' tl' : Nat), JI 0 536 S' n' I' L' P' h' ch' tl' (en + 60) → lq_W D p l e s m below meth c sb cells slots 1062 (lq_L s.heap.size sb i) [] S' n' I' L' P') : lq_W D p l e s m below meth c sb cells slots 1000 (lq_L s.heap.size sb i) [] S n I L P := by
  cases ch with
  | zero => exact law_26_a C hn hi hc J hen K
  | succ ch => exact law_26_b C hn hi hc J hen K
set_option maxHeartbeats 400000 in
set_option maxRecDepth 20000 in
/-- image -/
theorem law_27 (C : lq_C D p s m meth c sb Ln xs) (hn : Ln ≤ 3584) (hi : i + 7 ≤ Ln) (hc : cells ≤ 600000 ∧ slots ≤ 7302250) (J : JI 0 536 S n I L P h ch tl en) (hen : en + 60 < 200000) (K : ∀ (S' : BqH) (n' : Nat) (I' : BqI) (L' : BqL) (P' : BqP) (h' : Nat → BqG) (ch' tl' : Nat), JI 0 536 S' n' I' L' P' h' ch' tl' (en + 60) → lq_W D p l e s m below meth c sb cells slots 1062 (lq_L s.heap.size sb i) [] S' n' I' L' P') : lq_W D p l e s m below meth c sb cells slots 1013 (lq_L s.heap.size sb i) [] S n I L P := by
  refine lq_aload_n (pc := 1013) 1 C dL_law_1013 rfl rfl ?_
  refine lq_call (pc := 1014) (as := []) C dL_law_1014 kL_128 (m_image J.1.1) (Cellar_sh J.1.1) rfl (Cellar_lt J.1.1) ⟨Nat.le_of_ble_eq_true rfl, Nat.le_of_ble_eq_true rfl⟩ rfl hc rfl (Nat.le_of_ble_eq_true rfl) (fun r1 S1 n1 I1 L1 P1 q1 => ?_)
  obtain ⟨e1, e2, e3, e4, e5, e6⟩ := q1
  obtain ⟨i1, i2⟩ := J.img (by omega)
  have g1 : I1 (536 + 1) = I (536 + 1) := by rw [e4, bq_u_ne (by omega), st_cpI_ne (by omega) (by omega)]
  rw [i1, ← g1] at e1
  subst S1 n1 L1 P1
  refine ⟨_, e1, ?_⟩
  refine lq_aload_n (pc := 1017) 2 C dL_law_1017 rfl rfl ?_
  refine lq_call (pc := 1018) (as := []) C dL_law_1018 kL_131 (o_image J.2.1) (Model_sh J.2.1) rfl (Model_lt J.2.1) ⟨Nat.le_of_ble_eq_true rfl, Nat.le_of_ble_eq_true rfl⟩ rfl hc rfl (Nat.le_of_ble_eq_true rfl) (fun r2 S2 n2 I2 L2 P2 q2 => ?_)
  obtain ⟨d1, d2, d3, d4, d5, d6⟩ := q2
  subst S2 n2 L2 P2
  refine ⟨_, d1, ?_⟩
  exact lq_eqI (pc := 1021) C dL_law_1021 (by decide) (K _ _ _ _ _ _ _ _ (i2 I1 I2 e4 d4))
set_option maxHeartbeats 400000 in
set_option maxRecDepth 20000 in
/-- undo -/
theorem law_28_a (C : lq_C D p s m meth c sb Ln xs) (hn : Ln ≤ 3584) (hi : i + 7 ≤ Ln) (hc : cells ≤ 600000 ∧ slots ≤ 7302250) (J : JI 0 536 S n I L P h ch tl en) (hen : en + 60 < 200000) (K : ∀ (S' : BqH) (n' : Nat) (I' : BqI) (L' : BqL) (P' : BqP) (h' : Nat → BqG) (ch' tl' : Nat), JI 0 536 S' n' I' L' P' h' ch' tl' (en + 60) → lq_W D p l e s m below meth c sb cells slots 1062 (lq_L s.heap.size sb i) [] S' n' I' L' P') (h4 : I 0 4 = 0) : lq_W D p l e s m below meth c sb cells slots 1026 (lq_L s.heap.size sb i) [] S n I L P := by
  have m4 : I 536 4 = 0 := by
    rcases J.2.2.2.2.2.2.2.2 with z | z
    · exact z.2
    · exact absurd h4 z.1
  refine lq_aload_n (pc := 1026) 1 C dL_law_1026 rfl rfl ?_
  refine lq_call (pc := 1027) (as := []) C dL_law_1027 kL_132 (m_undo_a J.1.1 h4) (Cellar_sh J.1.1) rfl (Cellar_lt J.1.1) ⟨Nat.le_of_ble_eq_true rfl, Nat.le_of_ble_eq_true rfl⟩ rfl hc rfl (Nat.le_of_ble_eq_true rfl) (fun r1 S1 n1 I1 L1 P1 q1 => ?_)
  obtain ⟨e1, e2, e3, e4, e5, e6⟩ := q1
  subst S1 n1 I1 L1 P1
  refine ⟨_, e1, ?_⟩
  refine lq_aload_n (pc := 1030) 2 C dL_law_1030 rfl rfl ?_
  refine lq_call (pc := 1031) (as := []) C dL_law_1031 kL_135 (o_undo_a J.2.1 m4) (Model_sh J.2.1) rfl (Model_lt J.2.1) ⟨Nat.le_of_ble_eq_true rfl, Nat.le_of_ble_eq_true rfl⟩ rfl hc rfl (Nat.le_of_ble_eq_true rfl) (fun r2 S2 n2 I2 L2 P2 q2 => ?_)
  obtain ⟨d1, d2, d3, d4, d5, d6⟩ := q2
  subst S2 n2 I2 L2 P2
  refine ⟨_, d1, ?_⟩
  exact lq_eqI (pc := 1034) C dL_law_1034 (by decide) (K _ _ _ _ _ _ _ _ (J.fr (by omega) (fun _ _ => rfl) (fun _ _ => rfl)))
set_option maxHeartbeats 400000 in
set_option maxRecDepth 20000 in
/-- undo -/
theorem law_28_b (C : lq_C D p s m meth c sb Ln xs) (hn : Ln ≤ 3584) (hi : i + 7 ≤ Ln) (hc : cells ≤ 600000 ∧ slots ≤ 7302250) (J : JI 0 536 S n I L P h ch tl en) (hen : en + 60 < 200000) (K : ∀ (S' : BqH) (n' : Nat) (I' : BqI) (L' : BqL) (P' : BqP) (h' : Nat → BqG) (ch' tl' : Nat), JI 0 536 S' n' I' L' P' h' ch' tl' (en + 60) → lq_W D p l e s m below meth c sb cells slots 1062 (lq_L s.heap.size sb i) [] S' n' I' L' P') (h4 : ¬ I 0 4 = 0) : lq_W D p l e s m below meth c sb cells slots 1026 (lq_L s.heap.size sb i) [] S n I L P := by
  refine lq_aload_n (pc := 1026) 1 C dL_law_1026 rfl rfl ?_
  refine lq_call (pc := 1027) (as := []) C dL_law_1027 kL_132 (m_undo_b J.1.1 h4) (Cellar_sh J.1.1) rfl (Cellar_lt J.1.1) ⟨Nat.le_of_ble_eq_true rfl, Nat.le_of_ble_eq_true rfl⟩ rfl hc rfl (Nat.le_of_ble_eq_true rfl) (fun r1 S1 n1 I1 L1 P1 q1 => ?_)
  obtain ⟨e1, e2, e3, e4, e5, e6⟩ := q1
  obtain ⟨i0, i1, i2⟩ := J.und (by omega) h4
  have g3 : I1 (536 + 3) = I (536 + 3) := by rw [e4, bq_u_ne (by omega), st_cpI_ne (by omega) (by omega)]
  have g0 : I1 536 = I 536 := by rw [e4, bq_u_ne (by omega), st_cpI_ne (by omega) (by omega)]
  rw [i1, ← g3] at e1
  rw [← g0] at i0
  subst S1 n1 L1 P1
  refine ⟨_, e1, ?_⟩
  refine lq_aload_n (pc := 1030) 2 C dL_law_1030 rfl rfl ?_
  refine lq_call (pc := 1031) (as := []) C dL_law_1031 kL_135 (o_undo_b J.2.1 i0) (Model_sh J.2.1) rfl (Model_lt J.2.1) ⟨Nat.le_of_ble_eq_true rfl, Nat.le_of_ble_eq_true rfl⟩ rfl hc rfl (Nat.le_of_ble_eq_true rfl) (fun r2 S2 n2 I2 L2 P2 q2 => ?_)
  obtain ⟨d1, d2, d3, d4, d5, d6⟩ := q2
  subst S2 n2 L2 P2
  refine ⟨_, d1, ?_⟩
  exact lq_eqI (pc := 1034) C dL_law_1034 (by decide) (K _ _ _ _ _ _ _ _ (i2 I1 I2 e4 d4))
theorem law_28 (C : lq_C D p s m meth c sb Ln xs) (hn : Ln ≤ 3584) (hi : i + 7 ≤ Ln) (hc : cells ≤ 600000 ∧ slots ≤ 7302250) (J : JI 0 536 S n I L P h ch tl en) (hen : en + 60 < 200000) (K : ∀ (S' : BqH) (n' : Nat) (I' : BqI) (L' : BqL) (P' : BqP) (h' : Nat → BqG) (ch' tl' : Nat), JI 0 536 S' n' I' L' P' h' ch' tl' (en + 60) → lq_W D p l e s m below meth c sb cells slots 1062 (lq_L s.heap.size sb i) [] S' n' I' L' P') : lq_W D p l e s m below meth c sb cells slots 1026 (lq_L s.heap.size sb i) [] S n I L P := by
  by_cases h4 : I 0 4 = 0
  · exact law_28_a C hn hi hc J hen K h4
  · exact law_28_b C hn hi hc J hen K h4
end
