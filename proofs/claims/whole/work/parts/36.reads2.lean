/-! the class's readers -/
theorem CSI.a0 {I : BqI} {s : Nat} {g : BqG} {t : Nat} (h : CSI I s g) (ht : t < 6) : I (s + 15 + 3 * t) 0 = g (10 + 19 * t) := by
  rw [show s + 15 + 3 * t = s + (15 + 3 * t) by omega]; exact h.at (lc_T (k := 0) ht (by decide))
theorem CSI.a1 {I : BqI} {s : Nat} {g : BqG} {t : Nat} (h : CSI I s g) (ht : t < 6) : I (s + 15 + 3 * t) 1 = g (11 + 19 * t) := by
  rw [show s + 15 + 3 * t = s + (15 + 3 * t) by omega, show 11 + 19 * t = 10 + 19 * t + 1 by omega]; exact h.at (lc_T (k := 1) ht (by decide))
theorem CSI.a2 {I : BqI} {s : Nat} {g : BqG} {t : Nat} (h : CSI I s g) (ht : t < 6) : I (s + 15 + 3 * t) 2 = g (12 + 19 * t) := by
  rw [show s + 15 + 3 * t = s + (15 + 3 * t) by omega, show 12 + 19 * t = 10 + 19 * t + 2 by omega]; exact h.at (lc_T (k := 2) ht (by decide))
theorem CSI.ap {I : BqI} {s : Nat} {g : BqG} {t b : Nat} (h : CSI I s g) (ht : t < 6) (hb : b < 16) : I (s + 15 + 3 * t + 1 + 1) b = g (13 + 19 * t + b) := by
  rw [show s + 15 + 3 * t + 1 + 1 = s + (17 + 3 * t) by omega]; exact h.at (lc_P ht hb)
theorem CSI.ab {I : BqI} {s : Nat} {g : BqG} {b j : Nat} (h : CSI I s g) (hb : b < 16) (hj : j < 5) : I (s + lbr j) b = g (124 + 5 * b + j) := h.at (lc_B hb hj)
theorem CSI.ao {I : BqI} {s : Nat} {g : BqG} {o k : Nat} (h : CSI I s g) (ho : o < 10) (hk : k < 8) : I (s + 43 + o) k = g (204 + 9 * o + k) := by
  rw [show s + 43 + o = s + (43 + o) by omega]; exact h.at (lc_O ho hk)
theorem CSI.ar {I : BqI} {s : Nat} {g : BqG} {r k : Nat} (h : CSI I s g) (hr : r < 10) (hk : k < 3) : I (s + 33 + r) k = g (294 + 3 * r + k) := by
  rw [show s + 33 + r = s + (33 + r) by omega]; exact h.at (lc_R hr hk)
theorem paid_10 {g : BqG} {en : Nat} (hG : GI g en) : paidN g 10 = paidN g (gn g 2) := by
  have hl : gn g 2 ≤ 10 := hG.2.2.2.1
  have key : ∀ d, gn g 2 + d ≤ 10 → paidN g (gn g 2 + d) = paidN g (gn g 2) := by
    intro d
    induction d with
    | zero => intro _; rfl
    | succ d ih =>
      intro h
      show (if g (208 + 9 * (gn g 2 + d)) = nI 1 then _ else paidN g (gn g 2 + d)) = _
      have h0 : gn g (208 + 9 * (gn g 2 + d)) = 0 := (hG.o (o := gn g 2 + d) (by omega)).2.2.2.2.2.2.2.2 (by omega)
      rw [if_neg, ih (by omega)]
      rw [hG.n (k := 208 + 9 * (gn g 2 + d)) (by omega) (by omega), h0]
      decide
  have := key (10 - gn g 2) (by omega)
  rw [show gn g 2 + (10 - gn g 2) = 10 by omega] at this
  exact this
theorem dnow_m {I : BqI} {L : BqL} {s rc : Nat} {g : BqG} (hC : CS I L s g) (hr : rc ≤ 10) : ∀ k, k ≤ 10 → dnow I L s rc k = dnm g rc k
  | 0, _ => rfl
  | k + 1, hk => by
    have ih := dnow_m (rc := rc) hC hr k (by omega)
    have e4 : I (s + 43 + k) 4 = g (208 + 9 * k) := by rw [hC.1.ao (o := k) (k := 4) (by omega) (by decide)]; congr 1; omega
    have e6 : I (s + 43 + k) 6 = g (210 + 9 * k) := by rw [hC.1.ao (o := k) (k := 6) (by omega) (by decide)]; congr 1; omega
    have e7 : I (s + 43 + k) 7 = g (211 + 9 * k) := by rw [hC.1.ao (o := k) (k := 7) (by omega) (by decide)]; congr 1; omega
    have e8 : L (s + 43 + k) 8 = (g (212 + 9 * k)).toInt64 := hC.2.1 k (by omega)
    have er : rfx (fun i => I (s + 33 + i) 0) (fun i => I (s + 33 + i) 1) (g (210 + 9 * k)) (g (211 + 9 * k)) rc = rfx (fun j => g (294 + 3 * j)) (fun j => g (295 + 3 * j)) (g (210 + 9 * k)) (g (211 + 9 * k)) rc :=
      rfx_congr rc (fun j hj => ⟨hC.1.ar (r := j) (k := 0) (by omega) (by decide), by rw [hC.1.ar (r := j) (k := 1) (by omega) (by decide)]; congr 1; omega⟩)
    have ed : du (fun i => I (s + 33 + i) 2) (rfx (fun j => g (294 + 3 * j)) (fun j => g (295 + 3 * j)) (g (210 + 9 * k)) (g (211 + 9 * k)) rc) (g (212 + 9 * k)).toInt64 = du (fun j => g (296 + 3 * j)) (rfx (fun j => g (294 + 3 * j)) (fun j => g (295 + 3 * j)) (g (210 + 9 * k)) (g (211 + 9 * k)) rc) (g (212 + 9 * k)).toInt64 :=
      du_congr (fun q hq => by have hql := rf_lt hq; rw [hC.1.ar (r := q) (k := 2) (by omega) (by decide)]; congr 1; omega)
    show (if I (s + 43 + k) 4 = nI 1 then _ else _) = (if g (208 + 9 * k) = nI 1 then _ else _)
    rw [e4, e6, e7, e8, er, ed, ih]
/-! how great the duties are -/
theorem dnm_n {g : BqG} {en : Nat} (hG : GI g en) : ∀ k, k ≤ 10 → ∃ d, d ≤ 20000000 * k ∧ dnm g (gn g 3) k = lN d
  | 0, _ => ⟨0, Nat.le_refl _, rfl⟩
  | k + 1, hk => by
    obtain ⟨d, hd, e⟩ := dnm_n hG k (by omega)
    have ha : gn g (212 + 9 * k) ≤ 20000000 := (hG.o (o := k) (by omega)).2.2.2.2.2.2.2.1
    obtain ⟨z, hz, ez⟩ := du_le (D := g (210 + 9 * k)) (T := g (211 + 9 * k)) hG ha
    by_cases c : g (208 + 9 * k) = nI 1
    · refine ⟨d + z, by omega, ?_⟩
      show (if g (208 + 9 * k) = nI 1 then _ else _) = _
      rw [if_pos c, e, hG.n (k := 212 + 9 * k) (by omega) (by omega), ez, nI_l (by omega), lN_add]
    · refine ⟨d, by omega, ?_⟩
      show (if g (208 + 9 * k) = nI 1 then _ else _) = _
      rw [if_neg c, e]
theorem paidN_n {g : BqG} {en : Nat} (hG : GI g en) : ∀ k, k ≤ 10 → ∃ d, d ≤ 20000000 * k ∧ paidN g k = lN d
  | 0, _ => ⟨0, Nat.le_refl _, rfl⟩
  | k + 1, hk => by
    obtain ⟨d, hd, e⟩ := paidN_n hG k (by omega)
    have ha : gn g (209 + 9 * k) ≤ 20000000 := (hG.o (o := k) (by omega)).2.2.2.2.2.2.1
    by_cases c : g (208 + 9 * k) = nI 1
    · refine ⟨d + gn g (209 + 9 * k), by omega, ?_⟩
      show (if g (208 + 9 * k) = nI 1 then _ else _) = _
      rw [if_pos c, e, hG.n (k := 209 + 9 * k) (by omega) (by omega), nI_l (by omega), lN_add]
    · refine ⟨d, by omega, ?_⟩
      show (if g (208 + 9 * k) = nI 1 then _ else _) = _
      rw [if_neg c, e]
theorem l_sub_toInt {a b : Int64} (h1 : -(2 ^ 62) ≤ a.toInt) (h2 : a.toInt ≤ 2 ^ 62) (h3 : -(2 ^ 61) ≤ b.toInt) (h4 : b.toInt ≤ 2 ^ 61) : (a - b).toInt = a.toInt - b.toInt := by
  rw [Int64.toInt_sub, Int.bmod_eq_of_le (by omega) (by omega)]
theorem l_add_toInt {a b : Int64} (h1 : -(2 ^ 62) ≤ a.toInt) (h2 : a.toInt ≤ 2 ^ 62) (h3 : -(2 ^ 61) ≤ b.toInt) (h4 : b.toInt ≤ 2 ^ 61) : (a + b).toInt = a.toInt + b.toInt := by
  rw [Int64.toInt_add, Int.bmod_eq_of_le (by omega) (by omega)]
/-- the duty that is still due: dn - paid - corrected, in whole numbers -/
theorem due_n {g : BqG} {en : Nat} (hG : GI g en) : ∃ d p : Nat, d ≤ 200000000 ∧ p ≤ 200000000 ∧ (due g).toInt = (d : Int) - p - (g 6).toInt ∧ (due g).toInt32.toInt = (due g).toInt ∧ (g 6 + (due g).toInt32).toInt = (d : Int) - p := by
  have h2 : gn g 2 ≤ 10 := hG.2.2.2.1
  have h6 : (g 6).toInt.natAbs ≤ 200000000 := hG.2.2.2.2.2.2.2.2.2.2.2
  obtain ⟨d, hd, ed⟩ := dnm_n hG (gn g 2) h2
  obtain ⟨p, hp, ep⟩ := paidN_n hG (gn g 2) h2
  have e : (due g).toInt = (d : Int) - p - (g 6).toInt := by
    unfold due
    rw [ed, ep, l_sub_toInt, l_sub_toInt, pk_lT (by omega), pk_lT (by omega), Int32.toInt_toInt64]
    all_goals (try rw [pk_lT (by omega)])
    all_goals (try rw [pk_lT (by omega)])
    all_goals (try rw [Int32.toInt_toInt64])
    all_goals (try rw [l_sub_toInt])
    all_goals (try rw [pk_lT (by omega)])
    all_goals (try rw [pk_lT (by omega)])
    all_goals omega
  have e2 : (due g).toInt32.toInt = (due g).toInt := by
    rw [Int64.toInt_toInt32, Int.bmod_eq_of_le (by omega) (by omega)]
  refine ⟨d, p, by omega, by omega, e, e2, ?_⟩
  rw [Int32.toInt_add, Int.bmod_eq_of_le (by omega) (by omega)]
  omega
theorem due_64 {g : BqG} {en : Nat} (hG : GI g en) : (g 6 + (due g).toInt32).toInt64 = (g 6).toInt64 + due g := by
  obtain ⟨d, p, hd, hp, e1, e2, e3⟩ := due_n hG
  have h6 : (g 6).toInt.natAbs ≤ 200000000 := hG.2.2.2.2.2.2.2.2.2.2.2
  refine Int64.toInt_inj.mp ?_
  rw [Int32.toInt_toInt64, e3, l_add_toInt, Int32.toInt_toInt64, e1]
  · omega
  · rw [Int32.toInt_toInt64]; omega
  · rw [Int32.toInt_toInt64]; omega
  · omega
  · omega
theorem due_z {g : BqG} {en : Nat} (hG : GI g en) : (due g).toInt32 = 0 ↔ due g = 0 := by
  obtain ⟨d, p, hd, hp, e1, e2, e3⟩ := due_n hG
  rw [← Int32.toInt_inj, ← Int64.toInt_inj, e2]
  exact Iff.rfl
theorem due_p {g : BqG} {en : Nat} (hG : GI g en) : (due g).toInt32 ≤ 0 ↔ due g ≤ 0 := by
  obtain ⟨d, p, hd, hp, e1, e2, e3⟩ := due_n hG
  rw [Int32.le_iff_toInt_le, Int64.le_iff_toInt_le, e2]
  exact Iff.rfl
theorem CSL_corr {L : BqL} {s : Nat} {g : BqG} {en : Nat} (hG : GI g en) (hL : CSL L s g) {v : Int64} (hv : v = (g 6).toInt64 + due g) : CSL (bq_u L s 15 v) s (x_corr g) := by
  refine ⟨fun i hi => ?_, ?_, ?_⟩
  · rw [bq_u_ne (by omega), hL.1 i hi]; unfold x_corr; rw [bq_r_ne (by omega)]
  · rw [bq_u_no (by omega), hL.2.1]
    exact (paidN_congr 10 (fun o ho => ⟨bq_r_ne (by omega), bq_r_ne (by omega)⟩)).symm
  · rw [bq_u_at, hv, ← due_64 hG]; unfold x_corr; rw [bq_r_self]
theorem bq_tw_congr {f g : Nat → Int32} : ∀ k, (∀ j, j < k → f j = g j) → bq_tw f k = bq_tw g k
  | 0, _ => rfl
  | k + 1, h => by
    unfold bq_tw
    rw [bq_tw_congr k (fun j hj => h j (by omega)), h k (by omega)]
theorem c_lo {k : Int32} {q : Nat} (e : k = nI q) (h : q < 10) : k < nI 10 ∨ ¬ k ≤ nI 13 := Or.inl (by rw [e]; exact nI_lt h (by decide))
theorem c_hi {k : Int32} {q : Nat} (e : k = nI q) (h : 10 ≤ q) (h2 : q ≤ 13) : ¬ (k < nI 10 ∨ ¬ k ≤ nI 13) := by rw [e]; exact bq_nin h h2 (by decide)
theorem c_no {k : Int32} (h0 : ¬ k = nI 10) (h1 : ¬ k = nI 11) (h2 : ¬ k = nI 12) (h3 : ¬ k = nI 13) : k < nI 10 ∨ ¬ k ≤ nI 13 := by
  rcases bq_in19 k 10 13 (by decide) (by decide) with h | ⟨q, a, b, rfl⟩
  · exact h
  · exfalso
    have e0 : q ≠ 10 := fun z => h0 (by rw [z])
    have e1 : q ≠ 11 := fun z => h1 (by rw [z])
    have e2 : q ≠ 12 := fun z => h2 (by rw [z])
    have e3 : q ≠ 13 := fun z => h3 (by rw [z])
    omega
set_option maxHeartbeats 1000000 in
set_option maxRecDepth 20000 in
theorem m_ofTank_a {S : BqH} {n : Nat} {I : BqI} {L : BqL} {P : BqP} {x : Nat} {g : BqG} {en : Nat} (hx : oX S n P x) (hC : CS I L (x + 1) g) (hG : GI g en) {t k : Int32} (ht : t < nI 0 ∨ ¬ t ≤ nI 5) : bq_Sp mX11_ofTank 3 58 0 0 [.ref x, .int t, .int k] S n I L P (bq_F (some (.int (r_ofTank g t k))) S n I L P) := by
  refine q_entry (vs := [some (.ref x), some (.int t), some (.int k), none]) (by decide +kernel) (by simp) (Nat.le_of_ble_eq_true rfl) rfl ?_
  refine q_aload_n (pc := 0) dX11_ofTank_0 rfl rfl ?_
  refine q_getP (pc := 1) dX11_ofTank_1 fX11_10 (Cellar_sh hx) ⟨by decide, rfl⟩ (Cellar_lt hx) (Cellar_p_state hx) ?_
  refine q_iload_n (pc := 4) dX11_ofTank_4 rfl rfl ?_
  refine q_callVF (pc := 5) dX11_ofTank_5 kX11_65 (c_tankAt0 (Cellar_s_state hx) ht) (State_sh (Cellar_s_state hx)) rfl (State_lt (Cellar_s_state hx)) ⟨Nat.le_of_ble_eq_true rfl, Nat.le_of_ble_eq_true rfl⟩ rfl rfl (Nat.le_of_ble_eq_true rfl) ?_
  show bq_W _ _ _ _ _ 8 _ [_] _ _ _ _ _ _
  refine q_astore_nN (pc := 8) dX11_ofTank_8 rfl (Nat.le_of_ble_eq_true rfl) rfl ?_
  show bq_W _ _ _ _ _ 9 [_, _, _, _] _ _ _ _ _ _ _
  refine q_aload_nN (pc := 9) dX11_ofTank_9 rfl rfl ?_
  refine q_ifnonnullN (pc := 10) dX11_ofTank_10 ?_
  refine q_iconst (pc := 13) (v := (-1)) dX11_ofTank_13 (by decide) ?_
  exact q_iret (st := []) (pc := 14) dX11_ofTank_14 rfl ⟨by unfold r_ofTank; rw [if_pos ht], rfl, rfl, rfl, rfl, rfl⟩
set_option maxHeartbeats 1480000 in
set_option maxRecDepth 20000 in
theorem m_ofTank_b {S : BqH} {n : Nat} {I : BqI} {L : BqL} {P : BqP} {x : Nat} {g : BqG} {en : Nat} (hx : oX S n P x) (hC : CS I L (x + 1) g) (hG : GI g en) {t : Nat} {k : Int32} (ht : t < 6) : bq_Sp mX11_ofTank 3 58 0 0 [.ref x, .int (nI t), .int k] S n I L P (bq_F (some (.int (r_ofTank g (nI t) k))) S n I L P) := by
  refine q_entry (vs := [some (.ref x), some (.int (nI t)), some (.int k), none]) (by decide +kernel) (by simp) (Nat.le_of_ble_eq_true rfl) rfl ?_
  have a0 := hC.1.a0 ht
  have a1 := hC.1.a1 ht
  have a2 := hC.1.a2 ht
  have ap : ∀ j, j < 16 → I (x + 1 + 15 + 3 * t + 1 + 1) j = g (13 + 19 * t + j) := fun j hj => hC.1.ap ht hj
  have hs : bq_sum (I (x + 1 + 15 + 3 * t + 1 + 1)) 16 = nI (gt g t) := (bq_sum_congr 16 ap).trans (hG.tot ht)
  have hst : bq_str (I (x + 1 + 15 + 3 * t + 1 + 1)) (I (x + 1 + 2)) = g_str g t := bq_str_congr ap (fun j hj => hC.1.at (lc_B0 hj))
  rw [r_ofTank_n ht]
  refine q_aload_n (pc := 0) dX11_ofTank_0 rfl rfl ?_
  refine q_getP (pc := 1) dX11_ofTank_1 fX11_10 (Cellar_sh hx) ⟨by decide, rfl⟩ (Cellar_lt hx) (Cellar_p_state hx) ?_
  refine q_iload_n (pc := 4) dX11_ofTank_4 rfl rfl ?_
  refine q_callVF (pc := 5) dX11_ofTank_5 kX11_65 (c_tankAt (Cellar_s_state hx) ht) (State_sh (Cellar_s_state hx)) rfl (State_lt (Cellar_s_state hx)) ⟨Nat.le_of_ble_eq_true rfl, Nat.le_of_ble_eq_true rfl⟩ rfl rfl (Nat.le_of_ble_eq_true rfl) ?_
  show bq_W _ _ _ _ _ 8 _ [_] _ _ _ _ _ _
  refine q_astore_n (pc := 8) dX11_ofTank_8 rfl (Nat.le_of_ble_eq_true rfl) rfl ?_
  show bq_W _ _ _ _ _ 9 [_, _, _, _] _ _ _ _ _ _ _
  refine q_aload_n (pc := 9) dX11_ofTank_9 rfl rfl ?_
  refine q_ifnonnull (pc := 10) 15 dX11_ofTank_10 (by decide) ?_
  refine q_iload_n (pc := 15) dX11_ofTank_15 rfl rfl ?_
  by_cases s16_0 : k = nI 0
  · refine q_tableIn (pc := 16) (off := 44) 60 dX11_ofTank_16 (by rw [s16_0]; decide) (by rw [s16_0]; decide) (by rw [s16_0]; rfl) (by decide) ?_
    refine q_aload_n (pc := 60) dX11_ofTank_60 rfl rfl ?_
    refine q_getI (pc := 61) dX11_ofTank_61 fX11_92 (Tank_sh (Statetanks_s_el (Cellar_s_state hx) ht)) ⟨by decide, rfl⟩ (Tank_lt (Statetanks_s_el (Cellar_s_state hx) ht)) ?_
    exact q_iret (st := []) (pc := 64) dX11_ofTank_64 rfl ⟨by unfold n_ofTank; rw [if_pos s16_0, a0], rfl, rfl, rfl, rfl, rfl⟩
  by_cases s16_1 : k = nI 1
  · refine q_tableIn (pc := 16) (off := 49) 65 dX11_ofTank_16 (by rw [s16_1]; decide) (by rw [s16_1]; decide) (by rw [s16_1]; rfl) (by decide) ?_
    refine q_aload_n (pc := 65) dX11_ofTank_65 rfl rfl ?_
    refine q_getP (pc := 66) dX11_ofTank_66 fX11_73 (Tank_sh (Statetanks_s_el (Cellar_s_state hx) ht)) ⟨by decide, rfl⟩ (Tank_lt (Statetanks_s_el (Cellar_s_state hx) ht)) (Tank_p_content (Statetanks_s_el (Cellar_s_state hx) ht)) ?_
    refine q_callVF (pc := 69) dX11_ofTank_69 kX11_79 (c_X0_total (Tank_s_content (Statetanks_s_el (Cellar_s_state hx) ht))) (Blend_sh (Tank_s_content (Statetanks_s_el (Cellar_s_state hx) ht))) rfl (Blend_lt (Tank_s_content (Statetanks_s_el (Cellar_s_state hx) ht))) ⟨Nat.le_of_ble_eq_true rfl, Nat.le_of_ble_eq_true rfl⟩ rfl rfl (Nat.le_of_ble_eq_true rfl) ?_
    show bq_W _ _ _ _ _ 72 _ [_] _ _ _ _ _ _
    exact q_iret (st := []) (pc := 72) dX11_ofTank_72 rfl ⟨by unfold n_ofTank; rw [if_neg s16_0, if_pos s16_1, hs], rfl, rfl, rfl, rfl, rfl⟩
  by_cases s16_2 : k = nI 2
  · refine q_tableIn (pc := 16) (off := 57) 73 dX11_ofTank_16 (by rw [s16_2]; decide) (by rw [s16_2]; decide) (by rw [s16_2]; rfl) (by decide) ?_
    refine q_aload_n (pc := 73) dX11_ofTank_73 rfl rfl ?_
    refine q_getI (pc := 74) dX11_ofTank_74 fX11_101 (Tank_sh (Statetanks_s_el (Cellar_s_state hx) ht)) ⟨by decide, rfl⟩ (Tank_lt (Statetanks_s_el (Cellar_s_state hx) ht)) ?_
    exact q_iret (st := []) (pc := 77) dX11_ofTank_77 rfl ⟨by unfold n_ofTank; rw [if_neg s16_0, if_neg s16_1, if_pos s16_2, a1], rfl, rfl, rfl, rfl, rfl⟩
  by_cases s16_3 : k = nI 3
  · refine q_tableIn (pc := 16) (off := 62) 78 dX11_ofTank_16 (by rw [s16_3]; decide) (by rw [s16_3]; decide) (by rw [s16_3]; rfl) (by decide) ?_
    refine q_aload_n (pc := 78) dX11_ofTank_78 rfl rfl ?_
    refine q_getP (pc := 79) dX11_ofTank_79 fX11_73 (Tank_sh (Statetanks_s_el (Cellar_s_state hx) ht)) ⟨by decide, rfl⟩ (Tank_lt (Statetanks_s_el (Cellar_s_state hx) ht)) (Tank_p_content (Statetanks_s_el (Cellar_s_state hx) ht)) ?_
    refine q_aload_n (pc := 82) dX11_ofTank_82 rfl rfl ?_
    refine q_getP (pc := 83) dX11_ofTank_83 fX11_10 (Cellar_sh hx) ⟨by decide, rfl⟩ (Cellar_lt hx) (Cellar_p_state hx) ?_
    refine q_getP (pc := 86) dX11_ofTank_86 fX11_233 (State_sh (Cellar_s_state hx)) ⟨by decide, rfl⟩ (State_lt (Cellar_s_state hx)) (State_p_strengths (Cellar_s_state hx)) ?_
    refine q_callVF (pc := 89) dX11_ofTank_89 kX11_236 (c_X0_strength (Tank_s_content (Statetanks_s_el (Cellar_s_state hx) ht)) (State_s_strengths (Cellar_s_state hx))) (Blend_sh (Tank_s_content (Statetanks_s_el (Cellar_s_state hx) ht))) rfl (Blend_lt (Tank_s_content (Statetanks_s_el (Cellar_s_state hx) ht))) ⟨Nat.le_of_ble_eq_true rfl, Nat.le_of_ble_eq_true rfl⟩ rfl rfl (Nat.le_of_ble_eq_true rfl) ?_
    show bq_W _ _ _ _ _ 92 _ [_] _ _ _ _ _ _
    exact q_iret (st := []) (pc := 92) dX11_ofTank_92 rfl ⟨by unfold n_ofTank; rw [if_neg s16_0, if_neg s16_1, if_neg s16_2, if_pos s16_3, hst], rfl, rfl, rfl, rfl, rfl⟩
  by_cases s16_4 : k = nI 4
  · refine q_tableIn (pc := 16) (off := 77) 93 dX11_ofTank_16 (by rw [s16_4]; decide) (by rw [s16_4]; decide) (by rw [s16_4]; rfl) (by decide) ?_
    refine q_aload_n (pc := 93) dX11_ofTank_93 rfl rfl ?_
    refine q_getI (pc := 94) dX11_ofTank_94 fX11_101 (Tank_sh (Statetanks_s_el (Cellar_s_state hx) ht)) ⟨by decide, rfl⟩ (Tank_lt (Statetanks_s_el (Cellar_s_state hx) ht)) ?_
    rw [a1]
    refine q_iconst (pc := 97) (v := nI 3) dX11_ofTank_97 (by decide) ?_
    refine q_icmp_ne (pc := 98) 108 dX11_ofTank_98 (by decide) (fun c_98 => ?_) (fun c_98 => ?_)
    · refine q_bipush (pc := 108) (v := (-5)) dX11_ofTank_108 (by decide) ?_
      exact q_iret (st := []) (pc := 110) dX11_ofTank_110 rfl ⟨by unfold n_ofTank; rw [if_neg s16_0, if_neg s16_1, if_neg s16_2, if_neg s16_3, if_pos s16_4]; first | rw [if_neg c_98] | rw [if_pos c_98, a2], rfl, rfl, rfl, rfl, rfl⟩
    · refine q_aload_n (pc := 101) dX11_ofTank_101 rfl rfl ?_
      refine q_getI (pc := 102) dX11_ofTank_102 fX11_239 (Tank_sh (Statetanks_s_el (Cellar_s_state hx) ht)) ⟨by decide, rfl⟩ (Tank_lt (Statetanks_s_el (Cellar_s_state hx) ht)) ?_
      refine q_goto (pc := 105) 110 dX11_ofTank_105 (by decide) ?_
      exact q_iret (st := []) (pc := 110) dX11_ofTank_110 rfl ⟨by unfold n_ofTank; rw [if_neg s16_0, if_neg s16_1, if_neg s16_2, if_neg s16_3, if_pos s16_4]; first | rw [if_neg c_98] | rw [if_pos c_98, a2], rfl, rfl, rfl, rfl, rfl⟩
  by_cases s16_5 : k = nI 5
  · refine q_tableIn (pc := 16) (off := 95) 111 dX11_ofTank_16 (by rw [s16_5]; decide) (by rw [s16_5]; decide) (by rw [s16_5]; rfl) (by decide) ?_
    refine q_aload_n (pc := 111) dX11_ofTank_111 rfl rfl ?_
    refine q_getP (pc := 112) dX11_ofTank_112 fX11_73 (Tank_sh (Statetanks_s_el (Cellar_s_state hx) ht)) ⟨by decide, rfl⟩ (Tank_lt (Statetanks_s_el (Cellar_s_state hx) ht)) (Tank_p_content (Statetanks_s_el (Cellar_s_state hx) ht)) ?_
    refine q_callVF (pc := 115) dX11_ofTank_115 kX11_242 (c_X0_batches (Tank_s_content (Statetanks_s_el (Cellar_s_state hx) ht))) (Blend_sh (Tank_s_content (Statetanks_s_el (Cellar_s_state hx) ht))) rfl (Blend_lt (Tank_s_content (Statetanks_s_el (Cellar_s_state hx) ht))) ⟨Nat.le_of_ble_eq_true rfl, Nat.le_of_ble_eq_true rfl⟩ rfl rfl (Nat.le_of_ble_eq_true rfl) ?_
    show bq_W _ _ _ _ _ 118 _ [_] _ _ _ _ _ _
    exact q_iret (st := []) (pc := 118) dX11_ofTank_118 rfl ⟨by unfold n_ofTank; rw [if_neg s16_0, if_neg s16_1, if_neg s16_2, if_neg s16_3, if_neg s16_4, if_pos s16_5, bq_cnt_congr 16 ap], rfl, rfl, rfl, rfl, rfl⟩
  by_cases s16_6 : k = nI 6
  · refine q_tableIn (pc := 16) (off := 103) 119 dX11_ofTank_16 (by rw [s16_6]; decide) (by rw [s16_6]; decide) (by rw [s16_6]; rfl) (by decide) ?_
    refine q_aload_n (pc := 119) dX11_ofTank_119 rfl rfl ?_
    refine q_callVF (pc := 120) dX11_ofTank_120 kX11_104 (c_X9_room (Statetanks_s_el (Cellar_s_state hx) ht)) (Tank_sh (Statetanks_s_el (Cellar_s_state hx) ht)) rfl (Tank_lt (Statetanks_s_el (Cellar_s_state hx) ht)) ⟨Nat.le_of_ble_eq_true rfl, Nat.le_of_ble_eq_true rfl⟩ rfl rfl (Nat.le_of_ble_eq_true rfl) ?_
    show bq_W _ _ _ _ _ 123 _ [_] _ _ _ _ _ _
    exact q_iret (st := []) (pc := 123) dX11_ofTank_123 rfl ⟨by unfold n_ofTank; rw [if_neg s16_0, if_neg s16_1, if_neg s16_2, if_neg s16_3, if_neg s16_4, if_neg s16_5, if_pos s16_6, a0, show bq_sum (I (x + 1 + 15 + 3 * t + 2)) 16 = nI (gt g t) from hs], rfl, rfl, rfl, rfl, rfl⟩
  refine q_tableOut (pc := 16) 124 dX11_ofTank_16 (bq_out 6 (by decide) (fun j hj => match j, hj with | 0, _ => s16_0 | 1, _ => s16_1 | 2, _ => s16_2 | 3, _ => s16_3 | 4, _ => s16_4 | 5, _ => s16_5 | 6, _ => s16_6 | j + 7, hj => absurd hj (by omega))) (by decide) ?_
  refine q_iconst (pc := 124) (v := (-1)) dX11_ofTank_124 (by decide) ?_
  exact q_iret (st := []) (pc := 125) dX11_ofTank_125 rfl ⟨by unfold n_ofTank; rw [if_neg s16_0, if_neg s16_1, if_neg s16_2, if_neg s16_3, if_neg s16_4, if_neg s16_5, if_neg s16_6], rfl, rfl, rfl, rfl, rfl⟩
set_option maxHeartbeats 1000000 in
set_option maxRecDepth 20000 in
theorem m_litres_a {S : BqH} {n : Nat} {I : BqI} {L : BqL} {P : BqP} {x : Nat} {g : BqG} {en : Nat} (hx : oX S n P x) (hC : CS I L (x + 1) g) (hG : GI g en) {t b : Int32} (ht : t < nI 0 ∨ ¬ t ≤ nI 5) : bq_Sp mX11_litres 3 55 0 0 [.ref x, .int t, .int b] S n I L P (bq_F (some (.int (r_litres g t b))) S n I L P) := by
  refine q_entry (vs := [some (.ref x), some (.int t), some (.int b), none]) (by decide +kernel) (by simp) (Nat.le_of_ble_eq_true rfl) rfl ?_
  refine q_aload_n (pc := 0) dX11_litres_0 rfl rfl ?_
  refine q_getP (pc := 1) dX11_litres_1 fX11_10 (Cellar_sh hx) ⟨by decide, rfl⟩ (Cellar_lt hx) (Cellar_p_state hx) ?_
  refine q_iload_n (pc := 4) dX11_litres_4 rfl rfl ?_
  refine q_callVF (pc := 5) dX11_litres_5 kX11_65 (c_tankAt0 (Cellar_s_state hx) ht) (State_sh (Cellar_s_state hx)) rfl (State_lt (Cellar_s_state hx)) ⟨Nat.le_of_ble_eq_true rfl, Nat.le_of_ble_eq_true rfl⟩ rfl rfl (Nat.le_of_ble_eq_true rfl) ?_
  show bq_W _ _ _ _ _ 8 _ [_] _ _ _ _ _ _
  refine q_astore_nN (pc := 8) dX11_litres_8 rfl (Nat.le_of_ble_eq_true rfl) rfl ?_
  show bq_W _ _ _ _ _ 9 [_, _, _, _] _ _ _ _ _ _ _
  refine q_aload_nN (pc := 9) dX11_litres_9 rfl rfl ?_
  refine q_ifnullN (pc := 10) 30 dX11_litres_10 (by decide) ?_
  refine q_iconst (pc := 30) (v := (-1)) dX11_litres_30 (by decide) ?_
  exact q_iret (st := []) (pc := 31) dX11_litres_31 rfl ⟨by unfold r_litres; rw [if_pos (Or.inl ht)], rfl, rfl, rfl, rfl, rfl⟩
set_option maxHeartbeats 1000000 in
set_option maxRecDepth 20000 in
theorem m_litres_b {S : BqH} {n : Nat} {I : BqI} {L : BqL} {P : BqP} {x : Nat} {g : BqG} {en : Nat} (hx : oX S n P x) (hC : CS I L (x + 1) g) (hG : GI g en) {t : Nat} {b : Int32} (ht : t < 6) : bq_Sp mX11_litres 3 55 0 0 [.ref x, .int (nI t), .int b] S n I L P (bq_F (some (.int (r_litres g (nI t) b))) S n I L P) := by
  refine q_entry (vs := [some (.ref x), some (.int (nI t)), some (.int b), none]) (by decide +kernel) (by simp) (Nat.le_of_ble_eq_true rfl) rfl ?_
  have hl : gn g 1 ≤ 16 := hG.2.2.1
  have h3 : I (x + 1) 3 = g 1 := hC.1.at (k := 1) rfl
  refine q_aload_n (pc := 0) dX11_litres_0 rfl rfl ?_
  refine q_getP (pc := 1) dX11_litres_1 fX11_10 (Cellar_sh hx) ⟨by decide, rfl⟩ (Cellar_lt hx) (Cellar_p_state hx) ?_
  refine q_iload_n (pc := 4) dX11_litres_4 rfl rfl ?_
  refine q_callVF (pc := 5) dX11_litres_5 kX11_65 (c_tankAt (Cellar_s_state hx) ht) (State_sh (Cellar_s_state hx)) rfl (State_lt (Cellar_s_state hx)) ⟨Nat.le_of_ble_eq_true rfl, Nat.le_of_ble_eq_true rfl⟩ rfl rfl (Nat.le_of_ble_eq_true rfl) ?_
  show bq_W _ _ _ _ _ 8 _ [_] _ _ _ _ _ _
  refine q_astore_n (pc := 8) dX11_litres_8 rfl (Nat.le_of_ble_eq_true rfl) rfl ?_
  show bq_W _ _ _ _ _ 9 [_, _, _, _] _ _ _ _ _ _ _
  refine q_aload_n (pc := 9) dX11_litres_9 rfl rfl ?_
  refine q_ifnull (pc := 10) dX11_litres_10 ?_
  refine q_iload_n (pc := 13) dX11_litres_13 rfl rfl ?_
  refine q_iconst (pc := 14) (v := nI 0) dX11_litres_14 (by decide) ?_
  refine q_aload_n (pc := 15) dX11_litres_15 rfl rfl ?_
  refine q_getP (pc := 16) dX11_litres_16 fX11_10 (Cellar_sh hx) ⟨by decide, rfl⟩ (Cellar_lt hx) (Cellar_p_state hx) ?_
  refine q_getI (pc := 19) dX11_litres_19 fX11_98 (State_sh (Cellar_s_state hx)) ⟨by decide, rfl⟩ (State_lt (Cellar_s_state hx)) ?_
  rw [h3]
  refine q_iconst (pc := 22) (v := nI 1) dX11_litres_22 (by decide) ?_
  refine q_isub (pc := 23) dX11_litres_23 ?_
  refine q_callSF (pc := 24) dX11_litres_24 kX11_69 c_X11_outside ⟨Nat.le_of_ble_eq_true rfl, Nat.le_of_ble_eq_true rfl⟩ rfl rfl (Nat.le_of_ble_eq_true rfl) ?_
  show bq_W _ _ _ _ _ 27 _ [_] _ _ _ _ _ _
  refine q_if_eq (pc := 27) 32 dX11_litres_27 (by decide) (fun c_27 => ?_) (fun c_27 => ?_)
  · replace c_27 := bq_b0.mp c_27
    obtain ⟨b, hb, rfl⟩ := (b_cases hG b).resolve_left c_27
    refine q_aload_n (pc := 32) dX11_litres_32 rfl rfl ?_
    refine q_getP (pc := 33) dX11_litres_33 fX11_73 (Tank_sh (Statetanks_s_el (Cellar_s_state hx) ht)) ⟨by decide, rfl⟩ (Tank_lt (Statetanks_s_el (Cellar_s_state hx) ht)) (Tank_p_content (Statetanks_s_el (Cellar_s_state hx) ht)) ?_
    refine q_getP (pc := 36) dX11_litres_36 fX11_111 (Blend_sh (Tank_s_content (Statetanks_s_el (Cellar_s_state hx) ht))) ⟨by decide, rfl⟩ (Blend_lt (Tank_s_content (Statetanks_s_el (Cellar_s_state hx) ht))) (Blend_p_parts (Tank_s_content (Statetanks_s_el (Cellar_s_state hx) ht))) ?_
    refine q_iload_n (pc := 39) dX11_litres_39 rfl rfl ?_
    refine q_iald (pc := 40) dX11_litres_40 (oA_sh (Blend_s_parts (Tank_s_content (Statetanks_s_el (Cellar_s_state hx) ht)))) (oA_lt (Blend_s_parts (Tank_s_content (Statetanks_s_el (Cellar_s_state hx) ht)))) rfl (by omega) ?_
    exact q_iret (st := []) (pc := 41) dX11_litres_41 rfl ⟨by rw [r_litres_n hG ht hb]; exact congrArg (fun z => some (Value.int z)) (hC.1.ap ht (by omega)), rfl, rfl, rfl, rfl, rfl⟩
  · replace c_27 := bq_bn.mp c_27
    refine q_iconst (pc := 30) (v := (-1)) dX11_litres_30 (by decide) ?_
    exact q_iret (st := []) (pc := 31) dX11_litres_31 rfl ⟨by unfold r_litres; rw [if_pos (Or.inr c_27)], rfl, rfl, rfl, rfl, rfl⟩
set_option maxHeartbeats 1700000 in
set_option maxRecDepth 20000 in
theorem m_ofBatch {S : BqH} {n : Nat} {I : BqI} {L : BqL} {P : BqP} {x : Nat} {g : BqG} {en : Nat} (hx : oX S n P x) (hC : CS I L (x + 1) g) (hG : GI g en) {b k : Int32} : bq_Sp mX11_ofBatch 2 35 0 0 [.ref x, .int b, .int k] S n I L P (bq_F (some (.int (r_ofBatch g b k))) S n I L P) := by
  refine q_entry (vs := [some (.ref x), some (.int b), some (.int k)]) (by decide +kernel) (by simp) (Nat.le_of_ble_eq_true rfl) rfl ?_
  have hl : gn g 1 ≤ 16 := hG.2.2.1
  have h3 : I (x + 1) 3 = g 1 := hC.1.at (k := 1) rfl
  refine q_iload_n (pc := 0) dX11_ofBatch_0 rfl rfl ?_
  refine q_iconst (pc := 1) (v := nI 0) dX11_ofBatch_1 (by decide) ?_
  refine q_aload_n (pc := 2) dX11_ofBatch_2 rfl rfl ?_
  refine q_getP (pc := 3) dX11_ofBatch_3 fX11_10 (Cellar_sh hx) ⟨by decide, rfl⟩ (Cellar_lt hx) (Cellar_p_state hx) ?_
  refine q_getI (pc := 6) dX11_ofBatch_6 fX11_98 (State_sh (Cellar_s_state hx)) ⟨by decide, rfl⟩ (State_lt (Cellar_s_state hx)) ?_
  rw [h3]
  refine q_iconst (pc := 9) (v := nI 1) dX11_ofBatch_9 (by decide) ?_
  refine q_isub (pc := 10) dX11_ofBatch_10 ?_
  refine q_callSF (pc := 11) dX11_ofBatch_11 kX11_69 c_X11_outside ⟨Nat.le_of_ble_eq_true rfl, Nat.le_of_ble_eq_true rfl⟩ rfl rfl (Nat.le_of_ble_eq_true rfl) ?_
  show bq_W _ _ _ _ _ 14 _ [_] _ _ _ _ _ _
  refine q_if_eq (pc := 14) 19 dX11_ofBatch_14 (by decide) (fun c_14 => ?_) (fun c_14 => ?_)
  · replace c_14 := bq_b0.mp c_14
    obtain ⟨b, hb, rfl⟩ := (b_cases hG b).resolve_left c_14
    have hb16 : b < 16 := by omega
    have hw : r_ofBatch g (nI b) k = n_ofBatch g b k := r_ofBatch_n hG hb
    have ap : ∀ i, i < 6 → I (x + 1 + 15 + 3 * i + 1 + 1) b = g (13 + 19 * i + b) := fun i hi => hC.1.ap hi hb16
    refine q_iload_n (pc := 19) dX11_ofBatch_19 rfl rfl ?_
    by_cases s20_0 : k = nI 0
    · refine q_tableIn (pc := 20) (off := 44) 64 dX11_ofBatch_20 (by rw [s20_0]; decide) (by rw [s20_0]; decide) (by rw [s20_0]; rfl) (by decide) ?_
      refine q_aload_n (pc := 64) dX11_ofBatch_64 rfl rfl ?_
      refine q_getP (pc := 65) dX11_ofBatch_65 fX11_10 (Cellar_sh hx) ⟨by decide, rfl⟩ (Cellar_lt hx) (Cellar_p_state hx) ?_
      refine q_getP (pc := 68) dX11_ofBatch_68 fX11_233 (State_sh (Cellar_s_state hx)) ⟨by decide, rfl⟩ (State_lt (Cellar_s_state hx)) (State_p_strengths (Cellar_s_state hx)) ?_
      refine q_iload_n (pc := 71) dX11_ofBatch_71 rfl rfl ?_
      refine q_iald (pc := 72) dX11_ofBatch_72 (oA_sh (State_s_strengths (Cellar_s_state hx))) (oA_lt (State_s_strengths (Cellar_s_state hx))) rfl (by omega) ?_
      exact q_iret (st := []) (pc := 73) dX11_ofBatch_73 rfl ⟨by rw [hw]; unfold n_ofBatch; rw [if_pos s20_0]; exact congrArg (fun z => some (Value.int z)) ((hC.1.ab (j := 0) hb16 (by decide)).trans (congrArg g (by omega))), rfl, rfl, rfl, rfl, rfl⟩
    by_cases s20_1 : k = nI 1
    · refine q_tableIn (pc := 20) (off := 54) 74 dX11_ofBatch_20 (by rw [s20_1]; decide) (by rw [s20_1]; decide) (by rw [s20_1]; rfl) (by decide) ?_
      refine q_aload_n (pc := 74) dX11_ofBatch_74 rfl rfl ?_
      refine q_getP (pc := 75) dX11_ofBatch_75 fX11_10 (Cellar_sh hx) ⟨by decide, rfl⟩ (Cellar_lt hx) (Cellar_p_state hx) ?_
      refine q_getP (pc := 78) dX11_ofBatch_78 fX11_245 (State_sh (Cellar_s_state hx)) ⟨by decide, rfl⟩ (State_lt (Cellar_s_state hx)) (State_p_brewed (Cellar_s_state hx)) ?_
      refine q_getP (pc := 81) dX11_ofBatch_81 fX11_111 (Blend_sh (State_s_brewed (Cellar_s_state hx))) ⟨by decide, rfl⟩ (Blend_lt (State_s_brewed (Cellar_s_state hx))) (Blend_p_parts (State_s_brewed (Cellar_s_state hx))) ?_
      refine q_iload_n (pc := 84) dX11_ofBatch_84 rfl rfl ?_
      refine q_iald (pc := 85) dX11_ofBatch_85 (oA_sh (Blend_s_parts (State_s_brewed (Cellar_s_state hx)))) (oA_lt (Blend_s_parts (State_s_brewed (Cellar_s_state hx)))) rfl (by omega) ?_
      exact q_iret (st := []) (pc := 86) dX11_ofBatch_86 rfl ⟨by rw [hw]; unfold n_ofBatch; rw [if_neg s20_0, if_pos s20_1]; exact congrArg (fun z => some (Value.int z)) ((hC.1.ab (j := 1) hb16 (by decide)).trans (congrArg g (by omega))), rfl, rfl, rfl, rfl, rfl⟩
    by_cases s20_2 : k = nI 2
    · refine q_tableIn (pc := 20) (off := 67) 87 dX11_ofBatch_20 (by rw [s20_2]; decide) (by rw [s20_2]; decide) (by rw [s20_2]; rfl) (by decide) ?_
      refine q_aload_n (pc := 87) dX11_ofBatch_87 rfl rfl ?_
      refine q_getP (pc := 88) dX11_ofBatch_88 fX11_10 (Cellar_sh hx) ⟨by decide, rfl⟩ (Cellar_lt hx) (Cellar_p_state hx) ?_
      refine q_iload_n (pc := 91) dX11_ofBatch_91 rfl rfl ?_
      refine q_callVF (pc := 92) dX11_ofBatch_92 kX11_248 (c_X8_inTanks (Cellar_s_state hx) hb16) (State_sh (Cellar_s_state hx)) rfl (State_lt (Cellar_s_state hx)) ⟨Nat.le_of_ble_eq_true rfl, Nat.le_of_ble_eq_true rfl⟩ rfl rfl (Nat.le_of_ble_eq_true rfl) ?_
      show bq_W _ _ _ _ _ 95 _ [_] _ _ _ _ _ _
      exact q_iret (st := []) (pc := 95) dX11_ofBatch_95 rfl ⟨by rw [hw]; unfold n_ofBatch; rw [if_neg s20_0, if_neg s20_1, if_pos s20_2]; exact congrArg (fun z => some (Value.int z)) (bq_sum_congr 6 ap), rfl, rfl, rfl, rfl, rfl⟩
    by_cases s20_3 : k = nI 3
    · refine q_tableIn (pc := 20) (off := 76) 96 dX11_ofBatch_20 (by rw [s20_3]; decide) (by rw [s20_3]; decide) (by rw [s20_3]; rfl) (by decide) ?_
      refine q_aload_n (pc := 96) dX11_ofBatch_96 rfl rfl ?_
      refine q_getP (pc := 97) dX11_ofBatch_97 fX11_10 (Cellar_sh hx) ⟨by decide, rfl⟩ (Cellar_lt hx) (Cellar_p_state hx) ?_
      refine q_getP (pc := 100) dX11_ofBatch_100 fX11_251 (State_sh (Cellar_s_state hx)) ⟨by decide, rfl⟩ (State_lt (Cellar_s_state hx)) (State_p_filled (Cellar_s_state hx)) ?_
      refine q_getP (pc := 103) dX11_ofBatch_103 fX11_111 (Blend_sh (State_s_filled (Cellar_s_state hx))) ⟨by decide, rfl⟩ (Blend_lt (State_s_filled (Cellar_s_state hx))) (Blend_p_parts (State_s_filled (Cellar_s_state hx))) ?_
      refine q_iload_n (pc := 106) dX11_ofBatch_106 rfl rfl ?_
      refine q_iald (pc := 107) dX11_ofBatch_107 (oA_sh (Blend_s_parts (State_s_filled (Cellar_s_state hx)))) (oA_lt (Blend_s_parts (State_s_filled (Cellar_s_state hx)))) rfl (by omega) ?_
      exact q_iret (st := []) (pc := 108) dX11_ofBatch_108 rfl ⟨by rw [hw]; unfold n_ofBatch; rw [if_neg s20_0, if_neg s20_1, if_neg s20_2, if_pos s20_3]; exact congrArg (fun z => some (Value.int z)) ((hC.1.ab (j := 2) hb16 (by decide)).trans (congrArg g (by omega))), rfl, rfl, rfl, rfl, rfl⟩
    by_cases s20_4 : k = nI 4
    · refine q_tableIn (pc := 20) (off := 89) 109 dX11_ofBatch_20 (by rw [s20_4]; decide) (by rw [s20_4]; decide) (by rw [s20_4]; rfl) (by decide) ?_
      refine q_aload_n (pc := 109) dX11_ofBatch_109 rfl rfl ?_
      refine q_getP (pc := 110) dX11_ofBatch_110 fX11_10 (Cellar_sh hx) ⟨by decide, rfl⟩ (Cellar_lt hx) (Cellar_p_state hx) ?_
      refine q_getP (pc := 113) dX11_ofBatch_113 fX11_254 (State_sh (Cellar_s_state hx)) ⟨by decide, rfl⟩ (State_lt (Cellar_s_state hx)) (State_p_lost (Cellar_s_state hx)) ?_
      refine q_getP (pc := 116) dX11_ofBatch_116 fX11_111 (Blend_sh (State_s_lost (Cellar_s_state hx))) ⟨by decide, rfl⟩ (Blend_lt (State_s_lost (Cellar_s_state hx))) (Blend_p_parts (State_s_lost (Cellar_s_state hx))) ?_
      refine q_iload_n (pc := 119) dX11_ofBatch_119 rfl rfl ?_
      refine q_iald (pc := 120) dX11_ofBatch_120 (oA_sh (Blend_s_parts (State_s_lost (Cellar_s_state hx)))) (oA_lt (Blend_s_parts (State_s_lost (Cellar_s_state hx)))) rfl (by omega) ?_
      exact q_iret (st := []) (pc := 121) dX11_ofBatch_121 rfl ⟨by rw [hw]; unfold n_ofBatch; rw [if_neg s20_0, if_neg s20_1, if_neg s20_2, if_neg s20_3, if_pos s20_4]; exact congrArg (fun z => some (Value.int z)) ((hC.1.ab (j := 3) hb16 (by decide)).trans (congrArg g (by omega))), rfl, rfl, rfl, rfl, rfl⟩
    by_cases s20_5 : k = nI 5
    · refine q_tableIn (pc := 20) (off := 102) 122 dX11_ofBatch_20 (by rw [s20_5]; decide) (by rw [s20_5]; decide) (by rw [s20_5]; rfl) (by decide) ?_
      refine q_aload_n (pc := 122) dX11_ofBatch_122 rfl rfl ?_
      refine q_getP (pc := 123) dX11_ofBatch_123 fX11_10 (Cellar_sh hx) ⟨by decide, rfl⟩ (Cellar_lt hx) (Cellar_p_state hx) ?_
      refine q_getP (pc := 126) dX11_ofBatch_126 fX11_257 (State_sh (Cellar_s_state hx)) ⟨by decide, rfl⟩ (State_lt (Cellar_s_state hx)) (State_p_brewDays (Cellar_s_state hx)) ?_
      refine q_iload_n (pc := 129) dX11_ofBatch_129 rfl rfl ?_
      refine q_iald (pc := 130) dX11_ofBatch_130 (oA_sh (State_s_brewDays (Cellar_s_state hx))) (oA_lt (State_s_brewDays (Cellar_s_state hx))) rfl (by omega) ?_
      exact q_iret (st := []) (pc := 131) dX11_ofBatch_131 rfl ⟨by rw [hw]; unfold n_ofBatch; rw [if_neg s20_0, if_neg s20_1, if_neg s20_2, if_neg s20_3, if_neg s20_4, if_pos s20_5]; exact congrArg (fun z => some (Value.int z)) ((hC.1.ab (j := 4) hb16 (by decide)).trans (congrArg g (by omega))), rfl, rfl, rfl, rfl, rfl⟩
    by_cases s20_6 : k = nI 6
    · refine q_tableIn (pc := 20) (off := 112) 132 dX11_ofBatch_20 (by rw [s20_6]; decide) (by rw [s20_6]; decide) (by rw [s20_6]; rfl) (by decide) ?_
      refine q_aload_n (pc := 132) dX11_ofBatch_132 rfl rfl ?_
      refine q_getP (pc := 133) dX11_ofBatch_133 fX11_10 (Cellar_sh hx) ⟨by decide, rfl⟩ (Cellar_lt hx) (Cellar_p_state hx) ?_
      refine q_iload_n (pc := 136) dX11_ofBatch_136 rfl rfl ?_
      refine q_callVF (pc := 137) dX11_ofBatch_137 kX11_260 (c_X8_tanksWith (Cellar_s_state hx) hb16) (State_sh (Cellar_s_state hx)) rfl (State_lt (Cellar_s_state hx)) ⟨Nat.le_of_ble_eq_true rfl, Nat.le_of_ble_eq_true rfl⟩ rfl rfl (Nat.le_of_ble_eq_true rfl) ?_
      show bq_W _ _ _ _ _ 140 _ [_] _ _ _ _ _ _
      exact q_iret (st := []) (pc := 140) dX11_ofBatch_140 rfl ⟨by rw [hw]; unfold n_ofBatch; rw [if_neg s20_0, if_neg s20_1, if_neg s20_2, if_neg s20_3, if_neg s20_4, if_neg s20_5, if_pos s20_6]; exact congrArg (fun z => some (Value.int z)) (bq_tw_congr 6 ap), rfl, rfl, rfl, rfl, rfl⟩
    refine q_tableOut (pc := 20) 141 dX11_ofBatch_20 (bq_out 6 (by decide) (fun j hj => match j, hj with | 0, _ => s20_0 | 1, _ => s20_1 | 2, _ => s20_2 | 3, _ => s20_3 | 4, _ => s20_4 | 5, _ => s20_5 | 6, _ => s20_6 | j + 7, hj => absurd hj (by omega))) (by decide) ?_
    refine q_iconst (pc := 141) (v := (-1)) dX11_ofBatch_141 (by decide) ?_
    exact q_iret (st := []) (pc := 142) dX11_ofBatch_142 rfl ⟨by rw [hw]; unfold n_ofBatch; rw [if_neg s20_0, if_neg s20_1, if_neg s20_2, if_neg s20_3, if_neg s20_4, if_neg s20_5, if_neg s20_6], rfl, rfl, rfl, rfl, rfl⟩
  · replace c_14 := bq_bn.mp c_14
    refine q_iconst (pc := 17) (v := (-1)) dX11_ofBatch_17 (by decide) ?_
    exact q_iret (st := []) (pc := 18) dX11_ofBatch_18 rfl ⟨by unfold r_ofBatch; rw [if_pos c_14], rfl, rfl, rfl, rfl, rfl⟩
set_option maxHeartbeats 1000000 in
set_option maxRecDepth 20000 in
theorem m_excise {S : BqH} {n : Nat} {I : BqI} {L : BqL} {P : BqP} {x : Nat} {g : BqG} {en : Nat} (hx : oX S n P x) (hC : CS I L (x + 1) g) (hG : GI g en) {k : Int32} : bq_Sp mX11_excise 5 102 0 0 [.ref x, .int k] S n I L P (bq_F (some (.long (r_excise g k))) S n I L P) := by
  refine q_entry (vs := [some (.ref x), some (.int k)]) (by decide +kernel) (by simp) (Nat.le_of_ble_eq_true rfl) rfl ?_
  have h2l : gn g 2 ≤ 10 := hG.2.2.2.1
  have h3l : gn g 3 ≤ 10 := hG.2.2.2.2.1
  have h2 : I (x + 1) 12 = nI (gn g 2) := (hC.1.at (k := 2) rfl).trans (hG.n (by decide) (by decide))
  have h3 : I (x + 1) 10 = nI (gn g 3) := (hC.1.at (k := 3) rfl).trans (hG.n (by decide) (by decide))
  have hd := dnow_m (rc := gn g 3) hC h3l (gn g 2) h2l
  have hp : L (x + 1) 14 = paidN g (gn g 2) := hC.2.2.1.trans (paid_10 hG)
  refine q_iload_n (pc := 0) dX11_excise_0 rfl rfl ?_
  by_cases s1_0 : k = nI 0
  · refine q_tableIn (pc := 1) (off := 31) 32 dX11_excise_1 (by rw [s1_0]; decide) (by rw [s1_0]; decide) (by rw [s1_0]; rfl) (by decide) ?_
    refine q_aload_n (pc := 32) dX11_excise_32 rfl rfl ?_
    refine q_getP (pc := 33) dX11_excise_33 fX11_10 (Cellar_sh hx) ⟨by decide, rfl⟩ (Cellar_lt hx) (Cellar_p_state hx) ?_
    refine q_getL (pc := 36) dX11_excise_36 fX11_276 (State_sh (Cellar_s_state hx)) ⟨by decide, rfl⟩ (State_lt (Cellar_s_state hx)) ?_
    exact q_lret (st := []) (pc := 39) dX11_excise_39 rfl ⟨by unfold r_excise; rw [if_pos s1_0, hp], rfl, rfl, rfl, rfl, rfl⟩
  by_cases s1_1 : k = nI 1
  · refine q_tableIn (pc := 1) (off := 39) 40 dX11_excise_1 (by rw [s1_1]; decide) (by rw [s1_1]; decide) (by rw [s1_1]; rfl) (by decide) ?_
    refine q_aload_n (pc := 40) dX11_excise_40 rfl rfl ?_
    refine q_getP (pc := 41) dX11_excise_41 fX11_10 (Cellar_sh hx) ⟨by decide, rfl⟩ (Cellar_lt hx) (Cellar_p_state hx) ?_
    refine q_callVF (pc := 44) dX11_excise_44 kX11_280 (c_X8_dutyNow (Cellar_s_state hx) h2 h2l h3 h3l) (State_sh (Cellar_s_state hx)) rfl (State_lt (Cellar_s_state hx)) ⟨Nat.le_of_ble_eq_true rfl, Nat.le_of_ble_eq_true rfl⟩ rfl rfl (Nat.le_of_ble_eq_true rfl) ?_
    show bq_W _ _ _ _ _ 47 _ [_] _ _ _ _ _ _
    exact q_lret (st := []) (pc := 47) dX11_excise_47 rfl ⟨by unfold r_excise; rw [if_neg s1_0, if_pos s1_1, hd], rfl, rfl, rfl, rfl, rfl⟩
  by_cases s1_2 : k = nI 2
  · refine q_tableIn (pc := 1) (off := 47) 48 dX11_excise_1 (by rw [s1_2]; decide) (by rw [s1_2]; decide) (by rw [s1_2]; rfl) (by decide) ?_
    refine q_aload_n (pc := 48) dX11_excise_48 rfl rfl ?_
    refine q_getP (pc := 49) dX11_excise_49 fX11_10 (Cellar_sh hx) ⟨by decide, rfl⟩ (Cellar_lt hx) (Cellar_p_state hx) ?_
    refine q_getL (pc := 52) dX11_excise_52 fX11_284 (State_sh (Cellar_s_state hx)) ⟨by decide, rfl⟩ (State_lt (Cellar_s_state hx)) ?_
    exact q_lret (st := []) (pc := 55) dX11_excise_55 rfl ⟨by unfold r_excise; rw [if_neg s1_0, if_neg s1_1, if_pos s1_2, hC.2.2.2], rfl, rfl, rfl, rfl, rfl⟩
  by_cases s1_3 : k = nI 3
  · refine q_tableIn (pc := 1) (off := 55) 56 dX11_excise_1 (by rw [s1_3]; decide) (by rw [s1_3]; decide) (by rw [s1_3]; rfl) (by decide) ?_
    refine q_aload_n (pc := 56) dX11_excise_56 rfl rfl ?_
    refine q_getP (pc := 57) dX11_excise_57 fX11_10 (Cellar_sh hx) ⟨by decide, rfl⟩ (Cellar_lt hx) (Cellar_p_state hx) ?_
    refine q_callVF (pc := 60) dX11_excise_60 kX11_287 (c_X8_stillDue (Cellar_s_state hx) h2 h2l h3 h3l) (State_sh (Cellar_s_state hx)) rfl (State_lt (Cellar_s_state hx)) ⟨Nat.le_of_ble_eq_true rfl, Nat.le_of_ble_eq_true rfl⟩ rfl rfl (Nat.le_of_ble_eq_true rfl) ?_
    show bq_W _ _ _ _ _ 63 _ [_] _ _ _ _ _ _
    exact q_lret (st := []) (pc := 63) dX11_excise_63 rfl ⟨by unfold r_excise; rw [if_neg s1_0, if_neg s1_1, if_neg s1_2, if_pos s1_3, hd, hp, hC.2.2.2]; rfl, rfl, rfl, rfl, rfl, rfl⟩
  refine q_tableOut (pc := 1) 64 dX11_excise_1 (bq_out 3 (by decide) (fun j hj => match j, hj with | 0, _ => s1_0 | 1, _ => s1_1 | 2, _ => s1_2 | 3, _ => s1_3 | j + 4, hj => absurd hj (by omega))) (by decide) ?_
  refine q_ldc2 (pc := 64) dX11_excise_64 lX11_292 ?_
  exact q_lret (st := []) (pc := 67) dX11_excise_67 rfl ⟨by unfold r_excise; rw [if_neg s1_0, if_neg s1_1, if_neg s1_2, if_neg s1_3], rfl, rfl, rfl, rfl, rfl⟩
set_option maxHeartbeats 1980000 in
set_option maxRecDepth 20000 in
theorem m_count {S : BqH} {n : Nat} {I : BqI} {L : BqL} {P : BqP} {x : Nat} {g : BqG} {en : Nat} (hx : oX S n P x) (hC : CS I L (x + 1) g) (hG : GI g en) {ch : Nat} (hch : I x 2 = nI ch) {k : Int32} : bq_Sp mX11_count 2 35 0 0 [.ref x, .int k] S n I L P (bq_F (some (.int (r_count g (I (x + 108) 0) ch k))) S n I L P) := by
  refine q_entry (vs := [some (.ref x), some (.int k)]) (by decide +kernel) (by simp) (Nat.le_of_ble_eq_true rfl) rfl ?_
  have a1 : ∀ i, i < 6 → I (x + 1 + 15 + 3 * i) 1 = g (11 + 19 * i) := fun i hi => hC.1.a1 hi
  refine q_iload_n (pc := 0) dX11_count_0 rfl rfl ?_
  by_cases s1_0 : k = nI 0
  · refine q_tableIn (pc := 1) (off := 71) 72 dX11_count_1 (by rw [s1_0]; decide) (by rw [s1_0]; decide) (by rw [s1_0]; rfl) (by decide) ?_
    refine q_aload_n (pc := 72) dX11_count_72 rfl rfl ?_
    refine q_getP (pc := 73) dX11_count_73 fX11_10 (Cellar_sh hx) ⟨by decide, rfl⟩ (Cellar_lt hx) (Cellar_p_state hx) ?_
    refine q_getI (pc := 76) dX11_count_76 fX11_157 (State_sh (Cellar_s_state hx)) ⟨by decide, rfl⟩ (State_lt (Cellar_s_state hx)) ?_
    exact q_iret (st := []) (pc := 79) dX11_count_79 rfl ⟨by unfold r_count; rw [if_neg (not_not_intro (c_lo s1_0 (by decide))), if_pos s1_0]; exact congrArg (fun z => some (Value.int z)) (hC.1.at (k := 0) rfl), rfl, rfl, rfl, rfl, rfl⟩
  by_cases s1_1 : k = nI 1
  · refine q_tableIn (pc := 1) (off := 79) 80 dX11_count_1 (by rw [s1_1]; decide) (by rw [s1_1]; decide) (by rw [s1_1]; rfl) (by decide) ?_
    refine q_aload_n (pc := 80) dX11_count_80 rfl rfl ?_
    refine q_getP (pc := 81) dX11_count_81 fX11_10 (Cellar_sh hx) ⟨by decide, rfl⟩ (Cellar_lt hx) (Cellar_p_state hx) ?_
    refine q_getI (pc := 84) dX11_count_84 fX11_98 (State_sh (Cellar_s_state hx)) ⟨by decide, rfl⟩ (State_lt (Cellar_s_state hx)) ?_
    exact q_iret (st := []) (pc := 87) dX11_count_87 rfl ⟨by unfold r_count; rw [if_neg (not_not_intro (c_lo s1_1 (by decide))), if_neg s1_0, if_pos s1_1]; exact congrArg (fun z => some (Value.int z)) (hC.1.at (k := 1) rfl), rfl, rfl, rfl, rfl, rfl⟩
  by_cases s1_2 : k = nI 2
  · refine q_tableIn (pc := 1) (off := 87) 88 dX11_count_1 (by rw [s1_2]; decide) (by rw [s1_2]; decide) (by rw [s1_2]; rfl) (by decide) ?_
    refine q_aload_n (pc := 88) dX11_count_88 rfl rfl ?_
    refine q_getP (pc := 89) dX11_count_89 fX11_10 (Cellar_sh hx) ⟨by decide, rfl⟩ (Cellar_lt hx) (Cellar_p_state hx) ?_
    refine q_getI (pc := 92) dX11_count_92 fX11_150 (State_sh (Cellar_s_state hx)) ⟨by decide, rfl⟩ (State_lt (Cellar_s_state hx)) ?_
    exact q_iret (st := []) (pc := 95) dX11_count_95 rfl ⟨by unfold r_count; rw [if_neg (not_not_intro (c_lo s1_2 (by decide))), if_neg s1_0, if_neg s1_1, if_pos s1_2]; exact congrArg (fun z => some (Value.int z)) (hC.1.at (k := 2) rfl), rfl, rfl, rfl, rfl, rfl⟩
  by_cases s1_3 : k = nI 3
  · refine q_tableIn (pc := 1) (off := 95) 96 dX11_count_1 (by rw [s1_3]; decide) (by rw [s1_3]; decide) (by rw [s1_3]; rfl) (by decide) ?_
    refine q_aload_n (pc := 96) dX11_count_96 rfl rfl ?_
    refine q_getP (pc := 97) dX11_count_97 fX11_10 (Cellar_sh hx) ⟨by decide, rfl⟩ (Cellar_lt hx) (Cellar_p_state hx) ?_
    refine q_getI (pc := 100) dX11_count_100 fX11_132 (State_sh (Cellar_s_state hx)) ⟨by decide, rfl⟩ (State_lt (Cellar_s_state hx)) ?_
    exact q_iret (st := []) (pc := 103) dX11_count_103 rfl ⟨by unfold r_count; rw [if_neg (not_not_intro (c_lo s1_3 (by decide))), if_neg s1_0, if_neg s1_1, if_neg s1_2, if_pos s1_3]; exact congrArg (fun z => some (Value.int z)) (hC.1.at (k := 3) rfl), rfl, rfl, rfl, rfl, rfl⟩
  by_cases s1_4 : k = nI 4
  · refine q_tableIn (pc := 1) (off := 103) 104 dX11_count_1 (by rw [s1_4]; decide) (by rw [s1_4]; decide) (by rw [s1_4]; rfl) (by decide) ?_
    refine q_aload_n (pc := 104) dX11_count_104 rfl rfl ?_
    refine q_getP (pc := 105) dX11_count_105 fX11_34 (Cellar_sh hx) ⟨by decide, rfl⟩ (Cellar_lt hx) (Cellar_p_tape hx) ?_
    refine q_getI (pc := 108) dX11_count_108 fX11_207 (Tape_sh (Cellar_s_tape hx)) ⟨by decide, rfl⟩ (Tape_lt (Cellar_s_tape hx)) ?_
    exact q_iret (st := []) (pc := 111) dX11_count_111 rfl ⟨by unfold r_count; rw [if_neg (not_not_intro (c_lo s1_4 (by decide))), if_neg s1_0, if_neg s1_1, if_neg s1_2, if_neg s1_3, if_pos s1_4], rfl, rfl, rfl, rfl, rfl⟩
  by_cases s1_5 : k = nI 5
  · refine q_tableIn (pc := 1) (off := 111) 112 dX11_count_1 (by rw [s1_5]; decide) (by rw [s1_5]; decide) (by rw [s1_5]; rfl) (by decide) ?_
    refine q_aload_n (pc := 112) dX11_count_112 rfl rfl ?_
    refine q_getI (pc := 113) dX11_count_113 fX11_20 (Cellar_sh hx) ⟨by decide, rfl⟩ (Cellar_lt hx) ?_
    exact q_iret (st := []) (pc := 116) dX11_count_116 rfl ⟨by unfold r_count; rw [if_neg (not_not_intro (c_lo s1_5 (by decide))), if_neg s1_0, if_neg s1_1, if_neg s1_2, if_neg s1_3, if_neg s1_4, if_pos s1_5]; exact congrArg (fun z => some (Value.int z)) (hch), rfl, rfl, rfl, rfl, rfl⟩
  by_cases s1_6 : k = nI 6
  · refine q_tableIn (pc := 1) (off := 116) 117 dX11_count_1 (by rw [s1_6]; decide) (by rw [s1_6]; decide) (by rw [s1_6]; rfl) (by decide) ?_
    refine q_aload_n (pc := 117) dX11_count_117 rfl rfl ?_
    refine q_getP (pc := 118) dX11_count_118 fX11_10 (Cellar_sh hx) ⟨by decide, rfl⟩ (Cellar_lt hx) (Cellar_p_state hx) ?_
    refine q_getI (pc := 121) dX11_count_121 fX11_129 (State_sh (Cellar_s_state hx)) ⟨by decide, rfl⟩ (State_lt (Cellar_s_state hx)) ?_
    exact q_iret (st := []) (pc := 124) dX11_count_124 rfl ⟨by unfold r_count; rw [if_neg (not_not_intro (c_lo s1_6 (by decide))), if_neg s1_0, if_neg s1_1, if_neg s1_2, if_neg s1_3, if_neg s1_4, if_neg s1_5, if_pos s1_6]; exact congrArg (fun z => some (Value.int z)) (hC.1.at (k := 4) rfl), rfl, rfl, rfl, rfl, rfl⟩
  by_cases s1_7 : k = nI 7
  · refine q_tableIn (pc := 1) (off := 136) 137 dX11_count_1 (by rw [s1_7]; decide) (by rw [s1_7]; decide) (by rw [s1_7]; rfl) (by decide) ?_
    refine q_iconst (pc := 137) (v := (-1)) dX11_count_137 (by decide) ?_
    exact q_iret (st := []) (pc := 138) dX11_count_138 rfl ⟨by unfold r_count; first | rw [if_neg (not_not_intro (c_no s1_10 s1_11 s1_12 s1_13)), if_neg s1_0, if_neg s1_1, if_neg s1_2, if_neg s1_3, if_neg s1_4, if_neg s1_5, if_neg s1_6] | rw [if_neg (not_not_intro (c_lo s1_7 (by decide))), if_neg s1_0, if_neg s1_1, if_neg s1_2, if_neg s1_3, if_neg s1_4, if_neg s1_5, if_neg s1_6] | rw [if_neg (not_not_intro (c_lo s1_8 (by decide))), if_neg s1_0, if_neg s1_1, if_neg s1_2, if_neg s1_3, if_neg s1_4, if_neg s1_5, if_neg s1_6] | rw [if_neg (not_not_intro (c_lo s1_9 (by decide))), if_neg s1_0, if_neg s1_1, if_neg s1_2, if_neg s1_3, if_neg s1_4, if_neg s1_5, if_neg s1_6], rfl, rfl, rfl, rfl, rfl⟩
  by_cases s1_8 : k = nI 8
  · refine q_tableIn (pc := 1) (off := 136) 137 dX11_count_1 (by rw [s1_8]; decide) (by rw [s1_8]; decide) (by rw [s1_8]; rfl) (by decide) ?_
    refine q_iconst (pc := 137) (v := (-1)) dX11_count_137 (by decide) ?_
    exact q_iret (st := []) (pc := 138) dX11_count_138 rfl ⟨by unfold r_count; first | rw [if_neg (not_not_intro (c_no s1_10 s1_11 s1_12 s1_13)), if_neg s1_0, if_neg s1_1, if_neg s1_2, if_neg s1_3, if_neg s1_4, if_neg s1_5, if_neg s1_6] | rw [if_neg (not_not_intro (c_lo s1_7 (by decide))), if_neg s1_0, if_neg s1_1, if_neg s1_2, if_neg s1_3, if_neg s1_4, if_neg s1_5, if_neg s1_6] | rw [if_neg (not_not_intro (c_lo s1_8 (by decide))), if_neg s1_0, if_neg s1_1, if_neg s1_2, if_neg s1_3, if_neg s1_4, if_neg s1_5, if_neg s1_6] | rw [if_neg (not_not_intro (c_lo s1_9 (by decide))), if_neg s1_0, if_neg s1_1, if_neg s1_2, if_neg s1_3, if_neg s1_4, if_neg s1_5, if_neg s1_6], rfl, rfl, rfl, rfl, rfl⟩
  by_cases s1_9 : k = nI 9
  · refine q_tableIn (pc := 1) (off := 136) 137 dX11_count_1 (by rw [s1_9]; decide) (by rw [s1_9]; decide) (by rw [s1_9]; rfl) (by decide) ?_
    refine q_iconst (pc := 137) (v := (-1)) dX11_count_137 (by decide) ?_
    exact q_iret (st := []) (pc := 138) dX11_count_138 rfl ⟨by unfold r_count; first | rw [if_neg (not_not_intro (c_no s1_10 s1_11 s1_12 s1_13)), if_neg s1_0, if_neg s1_1, if_neg s1_2, if_neg s1_3, if_neg s1_4, if_neg s1_5, if_neg s1_6] | rw [if_neg (not_not_intro (c_lo s1_7 (by decide))), if_neg s1_0, if_neg s1_1, if_neg s1_2, if_neg s1_3, if_neg s1_4, if_neg s1_5, if_neg s1_6] | rw [if_neg (not_not_intro (c_lo s1_8 (by decide))), if_neg s1_0, if_neg s1_1, if_neg s1_2, if_neg s1_3, if_neg s1_4, if_neg s1_5, if_neg s1_6] | rw [if_neg (not_not_intro (c_lo s1_9 (by decide))), if_neg s1_0, if_neg s1_1, if_neg s1_2, if_neg s1_3, if_neg s1_4, if_neg s1_5, if_neg s1_6], rfl, rfl, rfl, rfl, rfl⟩
  by_cases s1_10 : k = nI 10
  · refine q_tableIn (pc := 1) (off := 124) 125 dX11_count_1 (by rw [s1_10]; decide) (by rw [s1_10]; decide) (by rw [s1_10]; rfl) (by decide) ?_
    refine q_aload_n (pc := 125) dX11_count_125 rfl rfl ?_
    refine q_getP (pc := 126) dX11_count_126 fX11_10 (Cellar_sh hx) ⟨by decide, rfl⟩ (Cellar_lt hx) (Cellar_p_state hx) ?_
    refine q_iload_n (pc := 129) dX11_count_129 rfl rfl ?_
    refine q_bipush (pc := 130) (v := nI 10) dX11_count_130 (by decide) ?_
    refine q_isub (pc := 132) dX11_count_132 ?_
    refine q_callVF (pc := 133) dX11_count_133 kX11_322 (c_X8_tanksInPhase (Cellar_s_state hx)) (State_sh (Cellar_s_state hx)) rfl (State_lt (Cellar_s_state hx)) ⟨Nat.le_of_ble_eq_true rfl, Nat.le_of_ble_eq_true rfl⟩ rfl rfl (Nat.le_of_ble_eq_true rfl) ?_
    show bq_W _ _ _ _ _ 136 _ [_] _ _ _ _ _ _
    exact q_iret (st := []) (pc := 136) dX11_count_136 rfl ⟨by unfold r_count; rw [if_pos (by first | exact c_hi s1_10 (by decide) (by decide) | exact c_hi s1_11 (by decide) (by decide) | exact c_hi s1_12 (by decide) (by decide) | exact c_hi s1_13 (by decide) (by decide)), bq_ct_congr 6 a1], rfl, rfl, rfl, rfl, rfl⟩
  by_cases s1_11 : k = nI 11
  · refine q_tableIn (pc := 1) (off := 124) 125 dX11_count_1 (by rw [s1_11]; decide) (by rw [s1_11]; decide) (by rw [s1_11]; rfl) (by decide) ?_
    refine q_aload_n (pc := 125) dX11_count_125 rfl rfl ?_
    refine q_getP (pc := 126) dX11_count_126 fX11_10 (Cellar_sh hx) ⟨by decide, rfl⟩ (Cellar_lt hx) (Cellar_p_state hx) ?_
    refine q_iload_n (pc := 129) dX11_count_129 rfl rfl ?_
    refine q_bipush (pc := 130) (v := nI 10) dX11_count_130 (by decide) ?_
    refine q_isub (pc := 132) dX11_count_132 ?_
    refine q_callVF (pc := 133) dX11_count_133 kX11_322 (c_X8_tanksInPhase (Cellar_s_state hx)) (State_sh (Cellar_s_state hx)) rfl (State_lt (Cellar_s_state hx)) ⟨Nat.le_of_ble_eq_true rfl, Nat.le_of_ble_eq_true rfl⟩ rfl rfl (Nat.le_of_ble_eq_true rfl) ?_
    show bq_W _ _ _ _ _ 136 _ [_] _ _ _ _ _ _
    exact q_iret (st := []) (pc := 136) dX11_count_136 rfl ⟨by unfold r_count; rw [if_pos (by first | exact c_hi s1_10 (by decide) (by decide) | exact c_hi s1_11 (by decide) (by decide) | exact c_hi s1_12 (by decide) (by decide) | exact c_hi s1_13 (by decide) (by decide)), bq_ct_congr 6 a1], rfl, rfl, rfl, rfl, rfl⟩
  by_cases s1_12 : k = nI 12
  · refine q_tableIn (pc := 1) (off := 124) 125 dX11_count_1 (by rw [s1_12]; decide) (by rw [s1_12]; decide) (by rw [s1_12]; rfl) (by decide) ?_
    refine q_aload_n (pc := 125) dX11_count_125 rfl rfl ?_
    refine q_getP (pc := 126) dX11_count_126 fX11_10 (Cellar_sh hx) ⟨by decide, rfl⟩ (Cellar_lt hx) (Cellar_p_state hx) ?_
    refine q_iload_n (pc := 129) dX11_count_129 rfl rfl ?_
    refine q_bipush (pc := 130) (v := nI 10) dX11_count_130 (by decide) ?_
    refine q_isub (pc := 132) dX11_count_132 ?_
    refine q_callVF (pc := 133) dX11_count_133 kX11_322 (c_X8_tanksInPhase (Cellar_s_state hx)) (State_sh (Cellar_s_state hx)) rfl (State_lt (Cellar_s_state hx)) ⟨Nat.le_of_ble_eq_true rfl, Nat.le_of_ble_eq_true rfl⟩ rfl rfl (Nat.le_of_ble_eq_true rfl) ?_
    show bq_W _ _ _ _ _ 136 _ [_] _ _ _ _ _ _
    exact q_iret (st := []) (pc := 136) dX11_count_136 rfl ⟨by unfold r_count; rw [if_pos (by first | exact c_hi s1_10 (by decide) (by decide) | exact c_hi s1_11 (by decide) (by decide) | exact c_hi s1_12 (by decide) (by decide) | exact c_hi s1_13 (by decide) (by decide)), bq_ct_congr 6 a1], rfl, rfl, rfl, rfl, rfl⟩
  by_cases s1_13 : k = nI 13
  · refine q_tableIn (pc := 1) (off := 124) 125 dX11_count_1 (by rw [s1_13]; decide) (by rw [s1_13]; decide) (by rw [s1_13]; rfl) (by decide) ?_
    refine q_aload_n (pc := 125) dX11_count_125 rfl rfl ?_
    refine q_getP (pc := 126) dX11_count_126 fX11_10 (Cellar_sh hx) ⟨by decide, rfl⟩ (Cellar_lt hx) (Cellar_p_state hx) ?_
    refine q_iload_n (pc := 129) dX11_count_129 rfl rfl ?_
    refine q_bipush (pc := 130) (v := nI 10) dX11_count_130 (by decide) ?_
    refine q_isub (pc := 132) dX11_count_132 ?_
    refine q_callVF (pc := 133) dX11_count_133 kX11_322 (c_X8_tanksInPhase (Cellar_s_state hx)) (State_sh (Cellar_s_state hx)) rfl (State_lt (Cellar_s_state hx)) ⟨Nat.le_of_ble_eq_true rfl, Nat.le_of_ble_eq_true rfl⟩ rfl rfl (Nat.le_of_ble_eq_true rfl) ?_
    show bq_W _ _ _ _ _ 136 _ [_] _ _ _ _ _ _
    exact q_iret (st := []) (pc := 136) dX11_count_136 rfl ⟨by unfold r_count; rw [if_pos (by first | exact c_hi s1_10 (by decide) (by decide) | exact c_hi s1_11 (by decide) (by decide) | exact c_hi s1_12 (by decide) (by decide) | exact c_hi s1_13 (by decide) (by decide)), bq_ct_congr 6 a1], rfl, rfl, rfl, rfl, rfl⟩
  refine q_tableOut (pc := 1) 137 dX11_count_1 (bq_out 13 (by decide) (fun j hj => match j, hj with | 0, _ => s1_0 | 1, _ => s1_1 | 2, _ => s1_2 | 3, _ => s1_3 | 4, _ => s1_4 | 5, _ => s1_5 | 6, _ => s1_6 | 7, _ => s1_7 | 8, _ => s1_8 | 9, _ => s1_9 | 10, _ => s1_10 | 11, _ => s1_11 | 12, _ => s1_12 | 13, _ => s1_13 | j + 14, hj => absurd hj (by omega))) (by decide) ?_
  refine q_iconst (pc := 137) (v := (-1)) dX11_count_137 (by decide) ?_
  exact q_iret (st := []) (pc := 138) dX11_count_138 rfl ⟨by unfold r_count; first | rw [if_neg (not_not_intro (c_no s1_10 s1_11 s1_12 s1_13)), if_neg s1_0, if_neg s1_1, if_neg s1_2, if_neg s1_3, if_neg s1_4, if_neg s1_5, if_neg s1_6] | rw [if_neg (not_not_intro (c_lo s1_7 (by decide))), if_neg s1_0, if_neg s1_1, if_neg s1_2, if_neg s1_3, if_neg s1_4, if_neg s1_5, if_neg s1_6] | rw [if_neg (not_not_intro (c_lo s1_8 (by decide))), if_neg s1_0, if_neg s1_1, if_neg s1_2, if_neg s1_3, if_neg s1_4, if_neg s1_5, if_neg s1_6] | rw [if_neg (not_not_intro (c_lo s1_9 (by decide))), if_neg s1_0, if_neg s1_1, if_neg s1_2, if_neg s1_3, if_neg s1_4, if_neg s1_5, if_neg s1_6], rfl, rfl, rfl, rfl, rfl⟩
set_option maxHeartbeats 1280000 in
set_option maxRecDepth 20000 in
theorem m_correct {S : BqH} {n : Nat} {I : BqI} {L : BqL} {P : BqP} {x : Nat} {g : BqG} {h : Nat → BqG} {ch en : Nat} (hX : CXS x S n I L P g h ch) (hG : GI g en) (hen : en < 2 ^ 29) : bq_Sp mX11_correct 6 144 0 0 [.ref x] S n I L P (qOp x I L S n P (p_corr g h ch (I x 10))) := by
  refine q_entry (vs := [some (.ref x), none, none]) (by decide +kernel) (by simp) (Nat.le_of_ble_eq_true rfl) rfl ?_
  have hX' := hX
  obtain ⟨hx, hC, hc, hl, π, hP, hh⟩ := hX
  have hC0 := put_1 (π := π) (ch := ch) hC
  have h2l : gn g 2 ≤ 10 := hG.2.2.2.1
  have h3l : gn g 3 ≤ 10 := hG.2.2.2.2.1
  have h2 : (st_cpI I (x + 165 + 53 * π ch) (x + 1)) (x + 1) 12 = nI (gn g 2) := (hC0.1.at (k := 2) rfl).trans (hG.n (by decide) (by decide))
  have h3 : (st_cpI I (x + 165 + 53 * π ch) (x + 1)) (x + 1) 10 = nI (gn g 3) := (hC0.1.at (k := 3) rfl).trans (hG.n (by decide) (by decide))
  have hd := dnow_m (rc := gn g 3) hC0 h3l (gn g 2) h2l
  have hp : st_cpL L (x + 165 + 53 * π ch) (x + 1) (x + 1) 14 = paidN g (gn g 2) := hC0.2.2.1.trans (paid_10 hG)
  refine q_aload_n (pc := 0) dX11_correct_0 rfl rfl ?_
  refine q_callVF (pc := 1) dX11_correct_1 kX11_89 (c_putBy hx hP hc (by omega)) (Cellar_sh hx) rfl (Cellar_lt hx) ⟨Nat.le_of_ble_eq_true rfl, Nat.le_of_ble_eq_true rfl⟩ rfl rfl (Nat.le_of_ble_eq_true rfl) ?_
  show bq_W _ _ _ _ _ 4 _ [] _ _ _ _ _ _
  refine q_aload_n (pc := 4) dX11_correct_4 rfl rfl ?_
  refine q_getP (pc := 5) dX11_correct_5 fX11_10 (Cellar_sh hx) ⟨by decide, rfl⟩ (Cellar_lt hx) (Cellar_p_state hx) ?_
  refine q_callVF (pc := 8) dX11_correct_8 kX11_287 (c_X8_stillDue (Cellar_s_state hx) h2 h2l h3 h3l) (State_sh (Cellar_s_state hx)) rfl (State_lt (Cellar_s_state hx)) ⟨Nat.le_of_ble_eq_true rfl, Nat.le_of_ble_eq_true rfl⟩ rfl rfl (Nat.le_of_ble_eq_true rfl) ?_
  show bq_W _ _ _ _ _ 11 _ [_] _ _ _ _ _ _
  rw [hd, hp, hC0.2.2.2, show dnm g (gn g 3) (gn g 2) - paidN g (gn g 2) - (g 6).toInt64 = due g from rfl]
  refine q_lstore_n (pc := 11) dX11_correct_11 rfl (Nat.le_of_ble_eq_true rfl) rfl ?_
  show bq_W _ _ _ _ _ 12 [_, _, _] _ _ _ _ _ _ _
  refine q_aload_n (pc := 12) dX11_correct_12 rfl rfl ?_
  refine q_getP (pc := 13) dX11_correct_13 fX11_10 (Cellar_sh hx) ⟨by decide, rfl⟩ (Cellar_lt hx) (Cellar_p_state hx) ?_
  refine q_dup (pc := 16) dX11_correct_16 rfl ?_
  refine q_getL (pc := 17) dX11_correct_17 fX11_284 (State_sh (Cellar_s_state hx)) ⟨by decide, rfl⟩ (State_lt (Cellar_s_state hx)) ?_
  refine q_lload_n (pc := 20) dX11_correct_20 rfl rfl ?_
  rw [hC0.2.2.2]
  refine q_ladd (pc := 21) dX11_correct_21 ?_
  refine q_putL (pc := 22) dX11_correct_22 (pX11_284 _) (State_sh (Cellar_s_state hx)) ⟨by decide, rfl⟩ (State_lt (Cellar_s_state hx)) ?_
  refine q_nameL (fun L2 e2 => ?_)
  have C2 : CS (st_cpI I (x + 165 + 53 * π ch) (x + 1)) L2 (x + 1) (x_corr g) := ⟨hC0.1.ir (k := 6) rfl _, by rw [e2]; exact CSL_corr hG hC0.2 rfl⟩
  have hM := mid_mk hx hP hC hc hl hh C2 Frm.rf (by rw [e2]; exact fun a ha => bq_u_ne (by omega))
  refine q_lload_n (pc := 25) dX11_correct_25 rfl rfl ?_
  refine q_lconst (pc := 26) dX11_correct_26 rfl ?_
  refine q_lcmp (pc := 27) dX11_correct_27 ?_
  refine q_if_ne (pc := 28) 37 dX11_correct_28 (by decide) (fun c_28 => ?_) (fun c_28 => ?_)
  · have hz : ¬ (due g).toInt32 = 0 := fun z => c_28 ((lg_cmp_eq _ _).mpr ((due_z hG).mp z))
    refine q_aload_n (pc := 37) dX11_correct_37 rfl rfl ?_
    refine q_lload_n (pc := 38) dX11_correct_38 rfl rfl ?_
    refine q_lconst (pc := 39) dX11_correct_39 rfl ?_
    refine q_lcmp (pc := 40) dX11_correct_40 ?_
    refine q_if_le (pc := 41) 48 dX11_correct_41 (by decide) (fun c_41 => ?_) (fun c_41 => ?_)
    · have hs : (due g).toInt32 ≤ 0 := (due_p hG).mpr ((lg_cmp_le _ _).mp c_41)
      rw [show p_corr g h ch (I x 10) = chg g (x_corr g) h ch (I x 10) (nI 2) from by unfold p_corr; rw [if_pos hs, if_neg hz]]
      refine q_iconst (pc := 48) (v := nI 2) dX11_correct_48 (by decide) ?_
      refine q_callV (pc := 49) dX11_correct_49 kX11_95 (c_changed hM) (Cellar_sh hx) rfl (Cellar_lt hx) ⟨Nat.le_of_ble_eq_true rfl, Nat.le_of_ble_eq_true rfl⟩ rfl rfl (Nat.le_of_ble_eq_true rfl) ?_
      rintro _ _ _ I9 L9 P9 ⟨rfl, rfl, rfl, Q⟩
      show bq_W _ _ _ _ _ 52 _ [_] _ _ _ _ _ _
      exact q_iret (st := []) (pc := 52) dX11_correct_52 rfl ⟨rfl, rfl, rfl, Q⟩
    · have hs : ¬ (due g).toInt32 ≤ 0 := fun z => c_41 ((lg_cmp_le _ _).mpr ((due_p hG).mp z))
      rw [show p_corr g h ch (I x 10) = chg g (x_corr g) h ch (I x 10) (nI 1) from by unfold p_corr; rw [if_neg hs]]
      refine q_iconst (pc := 44) (v := nI 1) dX11_correct_44 (by decide) ?_
      refine q_goto (pc := 45) 49 dX11_correct_45 (by decide) ?_
      refine q_callV (pc := 49) dX11_correct_49 kX11_95 (c_changed hM) (Cellar_sh hx) rfl (Cellar_lt hx) ⟨Nat.le_of_ble_eq_true rfl, Nat.le_of_ble_eq_true rfl⟩ rfl rfl (Nat.le_of_ble_eq_true rfl) ?_
      rintro _ _ _ I9 L9 P9 ⟨rfl, rfl, rfl, Q⟩
      show bq_W _ _ _ _ _ 52 _ [_] _ _ _ _ _ _
      exact q_iret (st := []) (pc := 52) dX11_correct_52 rfl ⟨rfl, rfl, rfl, Q⟩
  · have hz : (due g).toInt32 = 0 := (due_z hG).mpr ((lg_cmp_eq _ _).mp c_28)
    rw [show p_corr g h ch (I x 10) = chg g (x_corr g) h ch (I x 10) (nI 0) from by unfold p_corr; rw [hz, if_pos (by decide), if_pos rfl]]
    refine q_aload_n (pc := 31) dX11_correct_31 rfl rfl ?_
    refine q_iconst (pc := 32) (v := nI 0) dX11_correct_32 (by decide) ?_
    refine q_callV (pc := 33) dX11_correct_33 kX11_95 (c_changed hM) (Cellar_sh hx) rfl (Cellar_lt hx) ⟨Nat.le_of_ble_eq_true rfl, Nat.le_of_ble_eq_true rfl⟩ rfl rfl (Nat.le_of_ble_eq_true rfl) ?_
    rintro _ _ _ I9 L9 P9 ⟨rfl, rfl, rfl, Q⟩
    show bq_W _ _ _ _ _ 36 _ [_] _ _ _ _ _ _
    exact q_iret (st := []) (pc := 36) dX11_correct_36 rfl ⟨rfl, rfl, rfl, Q⟩
