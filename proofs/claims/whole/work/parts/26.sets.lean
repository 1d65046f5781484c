/-! calls that put by, set and count -/
def chg (g g' : BqG) (h : Nat → BqG) (ch : Nat) (y v : Int32) : BqR := if ch < 6 then (v, g', bq_r h ch g, ch + 1, y) else (v, g', (fun i => if i = 5 then g else h (i + 1)), 6, y)
theorem qOp.same {x : Nat} {S : BqH} {n : Nat} {I : BqI} {L : BqL} {P : BqP} {g : BqG} {h : Nat → BqG} {ch : Nat} {v : Int32} {w : BqR} (hX : CXS x S n I L P g h ch) (e : w = (v, g, h, ch, I x 10)) : qOp x I L S n P w (some (.int v)) S n I L P := by
  subst e; exact ⟨rfl, rfl, rfl, hX, rfl, ⟨fun _ _ => rfl, rfl⟩, fun _ _ => rfl, fun _ _ => rfl⟩
theorem qOp.ref {x : Nat} {S : BqH} {n : Nat} {I : BqI} {L : BqL} {P : BqP} {g : BqG} {h : Nat → BqG} {ch : Nat} {v : Int32} {w : BqR} (hX : CXS x S n I L P g h ch) (e : w = ((-3), g, h, ch, v)) : qOp x I L S n P w (some (.int (-3))) S n (bq_u I x 10 v) L P := by
  subst e
  obtain ⟨hx, hC, hc, hl, π, hP, hh⟩ := hX
  exact ⟨rfl, rfl, rfl, ⟨hx, hC.fr (fun a q1 q2 => bq_u_ne (by omega)) (fun _ _ _ => rfl), (bq_u_no (by omega)).trans hc, hl, π, hP, fun i hi => (hh i hi).fr (fun a q1 q2 => bq_u_ne (by omega)) (fun _ _ _ => rfl)⟩, bq_u_at _ _ _ _, ⟨fun a ha => bq_u_ne (by omega), bq_u_no (by omega)⟩, fun _ _ => rfl, fun _ _ => rfl⟩
def p_setLoss (g : BqG) (h : Nat → BqG) (ch : Nat) (y v : Int32) : BqR := if v < nI 0 ∨ ¬ v ≤ nI 100 then ((-2), g, h, ch, y) else chg g (bq_r g 4 v) h ch y (g 4)
def p_size (g : BqG) (h : Nat → BqG) (ch : Nat) (y t v : Int32) : BqR := if t < nI 0 ∨ ¬ t ≤ nI 5 then ((-1), g, h, ch, y) else if v < nI 1 ∨ ¬ v ≤ nI 9999 then ((-2), g, h, ch, y) else if nI (gt g t.toNatClampNeg) ≤ v then chg g (bq_r g (10 + 19 * t.toNatClampNeg) v) h ch y (g (10 + 19 * t.toNatClampNeg)) else ((-3), g, h, ch, nI 4)
def x_rate (g : BqG) (d s a : Int32) : BqG := bq_r (bq_r (bq_r (bq_r g (294 + 3 * gn g 3 + 0) d) (294 + 3 * gn g 3 + 1) s) (294 + 3 * gn g 3 + 2) a) 3 (nI (gn g 3 + 1))
theorem x_rate_ne {g : BqG} {d s a : Int32} {k : Nat} (h : k = 6 ∨ (4 ≤ k ∧ k < 294)) : x_rate g d s a k = g k := by
  unfold x_rate
  rw [bq_r_ne (by omega), bq_r_ne (by omega), bq_r_ne (by omega), bq_r_ne (by omega)]
def p_rate (g : BqG) (h : Nat → BqG) (ch : Nat) (y d s a : Int32) : BqR := if (d < nI 0 ∨ ¬ d ≤ nI 9999) ∨ (s < nI 0 ∨ ¬ s ≤ nI 2000) ∨ (a < nI 0 ∨ ¬ a ≤ nI 9999) then ((-2), g, h, ch, y) else if gn g 3 < 10 then chg g (x_rate g d s a) h ch y (g 3) else ((-4), g, h, ch, y)
theorem c_changed {S : BqH} {n : Nat} {I0 I : BqI} {L0 L : BqL} {P : BqP} {x : Nat} {g g' : BqG} {h : Nat → BqG} {ch : Nat} {π : Nat → Nat} {y v : Int32} (hM : Mid x S n I0 I L0 L P g g' h ch π y) : bq_Sp mX11_changed 1 12 0 0 [.ref x, .int v] S n I L P (qOp x I0 L0 S n P (chg g g' h ch y v)) := by
  obtain ⟨hx, hP, hC, hc, hl, hh, hg, hy, hF, hFL⟩ := hM
  by_cases h6 : ch < 6
  · refine (c_changed_a hx hc h6).mono ?_
    rintro _ _ _ _ _ _ ⟨rfl, rfl, rfl, rfl, rfl, rfl⟩
    rw [show chg g g' h ch y v = _ from if_pos h6]
    refine ⟨rfl, rfl, rfl, ⟨hx, hC.fr (fun a q1 q2 => bq_u_ne (by omega)) (fun _ _ _ => rfl), bq_u_at _ _ _ _, h6, π, hP, fun i hi => ?_⟩, (bq_u_no (by omega)).trans hy, ⟨fun a ha => (bq_u_ne (by omega)).trans (hF.1 a ha), (bq_u_no (by omega)).trans hF.2⟩, hFL, fun _ _ => rfl⟩
    show CS _ _ _ (bq_r h ch g i)
    by_cases e : i = ch
    · rw [e, bq_r_self]; exact hg.fr (fun a q1 q2 => bq_u_ne (by omega)) (fun _ _ _ => rfl)
    · rw [bq_r_ne e]; exact (hh i (by have hi' : i < ch + 1 := hi; omega)).fr (fun a q1 q2 => bq_u_ne (by omega)) (fun _ _ _ => rfl)
  · have e6 : ch = 6 := by omega
    subst e6
    refine (c_changed_b hx hP hc).mono ?_
    rintro _ _ _ _ _ P1 ⟨rfl, rfl, rfl, rfl, rfl, p1, p2⟩
    rw [show chg g g' h 6 y v = _ from if_neg h6]
    refine ⟨rfl, rfl, rfl, ⟨hx.congr p1, hC, hc, hl, (fun i => π (if i = 6 then 0 else i + 1)), hP.congr p1 (fun i hi => ?_) (fun i j hi hj e => ?_), fun i hi => ?_⟩, hy, hF, hFL, p1⟩
    · rw [p2 i hi]
      refine hP.1 _ ?_
      split <;> omega
    · have := hP.2.1 _ _ (by split <;> omega) (by split <;> omega) e
      split at this <;> split at this <;> omega
    · have hi' : i < 6 := hi
      show CS _ _ (x + 165 + 53 * π (if i = 6 then 0 else i + 1)) (if i = 5 then g else h (i + 1))
      rw [if_neg (show ¬ i = 6 by omega)]
      by_cases e : i = 5
      · rw [if_pos e, e]; exact hg
      · rw [if_neg e]; exact hh (i + 1) (by omega)
set_option maxHeartbeats 400000 in
set_option maxRecDepth 20000 in
theorem m_setLoss {S : BqH} {n : Nat} {I : BqI} {L : BqL} {P : BqP} {x : Nat} {g : BqG} {h : Nat → BqG} {ch en : Nat} (hX : CXS x S n I L P g h ch) (hG : GI g en) (hen : en < 2 ^ 29) {v : Int32} : bq_Sp mX11_setLoss 6 144 0 0 [.ref x, .int v] S n I L P (qOp x I L S n P (p_setLoss g h ch (I x 10) v)) := by
  refine q_entry (vs := [some (.ref x), some (.int v), none]) (by decide +kernel) (by simp) (Nat.le_of_ble_eq_true rfl) rfl ?_
  have hX' := hX
  obtain ⟨hx, hC, hc, hl, π, hP, hh⟩ := hX
  have hC0 := put_1 (π := π) (ch := ch) hC
  refine q_iload_n (pc := 0) dX11_setLoss_0 rfl rfl ?_
  refine q_iconst (pc := 1) (v := nI 0) dX11_setLoss_1 (by decide) ?_
  refine q_bipush (pc := 2) (v := nI 100) dX11_setLoss_2 (by decide) ?_
  refine q_callSF (pc := 4) dX11_setLoss_4 kX11_69 c_X11_outside ⟨Nat.le_of_ble_eq_true rfl, Nat.le_of_ble_eq_true rfl⟩ rfl rfl (Nat.le_of_ble_eq_true rfl) ?_
  show bq_W _ _ _ _ _ 7 _ [_] _ _ _ _ _ _
  refine q_if_eq (pc := 7) 13 dX11_setLoss_7 (by decide) (fun c_7 => ?_) (fun c_7 => ?_)
  · replace c_7 := bq_b0.mp c_7
    refine q_aload_n (pc := 13) dX11_setLoss_13 rfl rfl ?_
    refine q_callVF (pc := 14) dX11_setLoss_14 kX11_89 (c_putBy hx hP hc (by omega)) (Cellar_sh hx) rfl (Cellar_lt hx) ⟨Nat.le_of_ble_eq_true rfl, Nat.le_of_ble_eq_true rfl⟩ rfl rfl (Nat.le_of_ble_eq_true rfl) ?_
    show bq_W _ _ _ _ _ 17 _ [] _ _ _ _ _ _
    refine q_aload_n (pc := 17) dX11_setLoss_17 rfl rfl ?_
    refine q_getP (pc := 18) dX11_setLoss_18 fX11_10 (Cellar_sh hx) ⟨by decide, rfl⟩ (Cellar_lt hx) (Cellar_p_state hx) ?_
    refine q_getI (pc := 21) dX11_setLoss_21 fX11_129 (State_sh (Cellar_s_state hx)) ⟨by decide, rfl⟩ (State_lt (Cellar_s_state hx)) ?_
    rw [show (st_cpI I (x + 165 + 53 * π ch) (x + 1)) (x + 1) 1 = g 4 from hC0.1.at (k := 4) rfl]
    refine q_istore_n (pc := 24) dX11_setLoss_24 rfl (Nat.le_of_ble_eq_true rfl) rfl ?_
    show bq_W _ _ _ _ _ 25 [_, _, _] _ _ _ _ _ _ _
    refine q_aload_n (pc := 25) dX11_setLoss_25 rfl rfl ?_
    refine q_getP (pc := 26) dX11_setLoss_26 fX11_10 (Cellar_sh hx) ⟨by decide, rfl⟩ (Cellar_lt hx) (Cellar_p_state hx) ?_
    refine q_iload_n (pc := 29) dX11_setLoss_29 rfl rfl ?_
    refine q_putI (pc := 30) dX11_setLoss_30 (pX11_129 _) (State_sh (Cellar_s_state hx)) ⟨by decide, rfl⟩ (State_lt (Cellar_s_state hx)) ?_
    refine q_nameI (fun I2 e2 => ?_)
    have C2 : CS I2 (st_cpL L (x + 165 + 53 * π ch) (x + 1)) (x + 1) (bq_r g 4 v) := by rw [e2]; exact ⟨hC0.1.u (k := 4) (a := 0) rfl v, hC0.2.congr (bq_r_ne (by decide)) (fun k k1 k2 => bq_r_ne (by omega))⟩
    have hM := mid_mk hx hP hC hc hl hh C2 (by rw [e2]; exact Frm.rf.u (Or.inl (by omega))) FrmL.rf
    rw [show p_setLoss g h ch (I x 10) v = chg g (bq_r g 4 v) h ch (I x 10) (g 4) from by unfold p_setLoss; rw [if_neg c_7]]
    refine q_aload_n (pc := 33) dX11_setLoss_33 rfl rfl ?_
    refine q_iload_n (pc := 34) dX11_setLoss_34 rfl rfl ?_
    refine q_callV (pc := 35) dX11_setLoss_35 kX11_95 (c_changed hM) (Cellar_sh hx) rfl (Cellar_lt hx) ⟨Nat.le_of_ble_eq_true rfl, Nat.le_of_ble_eq_true rfl⟩ rfl rfl (Nat.le_of_ble_eq_true rfl) ?_
    rintro _ _ _ I9 L9 P9 ⟨rfl, rfl, rfl, Q⟩
    show bq_W _ _ _ _ _ 38 _ [_] _ _ _ _ _ _
    exact q_iret (st := []) (pc := 38) dX11_setLoss_38 rfl ⟨rfl, rfl, rfl, Q⟩
  · replace c_7 := bq_bn.mp c_7
    refine q_bipush (pc := 10) (v := (-2)) dX11_setLoss_10 (by decide) ?_
    exact q_iret (st := []) (pc := 12) dX11_setLoss_12 rfl (qOp.same hX' (by unfold p_setLoss; rw [if_pos c_7]))
set_option maxHeartbeats 400000 in
set_option maxRecDepth 20000 in
theorem m_size_a {S : BqH} {n : Nat} {I : BqI} {L : BqL} {P : BqP} {x : Nat} {g : BqG} {h : Nat → BqG} {ch en : Nat} (hX : CXS x S n I L P g h ch) (hG : GI g en) (hen : en < 2 ^ 29) {t v : Int32} (ht : t < nI 0 ∨ ¬ t ≤ nI 5) : bq_Sp mX11_size 6 144 0 0 [.ref x, .int t, .int v] S n I L P (qOp x I L S n P (p_size g h ch (I x 10) t v)) := by
  refine q_entry (vs := [some (.ref x), some (.int t), some (.int v), none, none]) (by decide +kernel) (by simp) (Nat.le_of_ble_eq_true rfl) rfl ?_
  have hX' := hX
  obtain ⟨hx, hC, hc, hl, π, hP, hh⟩ := hX
  refine q_aload_n (pc := 0) dX11_size_0 rfl rfl ?_
  refine q_getP (pc := 1) dX11_size_1 fX11_10 (Cellar_sh hx) ⟨by decide, rfl⟩ (Cellar_lt hx) (Cellar_p_state hx) ?_
  refine q_iload_n (pc := 4) dX11_size_4 rfl rfl ?_
  refine q_callVF (pc := 5) dX11_size_5 kX11_65 (c_tankAt0 (Cellar_s_state hx) ht) (State_sh (Cellar_s_state hx)) rfl (State_lt (Cellar_s_state hx)) ⟨Nat.le_of_ble_eq_true rfl, Nat.le_of_ble_eq_true rfl⟩ rfl rfl (Nat.le_of_ble_eq_true rfl) ?_
  show bq_W _ _ _ _ _ 8 _ [_] _ _ _ _ _ _
  refine q_astore_nN (pc := 8) dX11_size_8 rfl (Nat.le_of_ble_eq_true rfl) rfl ?_
  show bq_W _ _ _ _ _ 9 [_, _, _, _, _] _ _ _ _ _ _ _
  refine q_aload_nN (pc := 9) dX11_size_9 rfl rfl ?_
  refine q_ifnonnullN (pc := 10) dX11_size_10 ?_
  refine q_iconst (pc := 13) (v := (-1)) dX11_size_13 (by decide) ?_
  exact q_iret (st := []) (pc := 14) dX11_size_14 rfl (qOp.same hX' (by unfold p_size; rw [if_pos ht]))
set_option maxHeartbeats 464000 in
set_option maxRecDepth 20000 in
theorem m_size_b {S : BqH} {n : Nat} {I : BqI} {L : BqL} {P : BqP} {x : Nat} {g : BqG} {h : Nat → BqG} {ch en : Nat} (hX : CXS x S n I L P g h ch) (hG : GI g en) (hen : en < 2 ^ 29) {t : Nat} {v : Int32} (ht : t < 6) : bq_Sp mX11_size 6 144 0 0 [.ref x, .int (nI t), .int v] S n I L P (qOp x I L S n P (p_size g h ch (I x 10) (nI t) v)) := by
  refine q_entry (vs := [some (.ref x), some (.int (nI t)), some (.int v), none, none]) (by decide +kernel) (by simp) (Nat.le_of_ble_eq_true rfl) rfl ?_
  have hX' := hX
  obtain ⟨hx, hC, hc, hl, π, hP, hh⟩ := hX
  have hC0 := put_1 (π := π) (ch := ch) hC
  have htt : bq_sum (I (x + 1 + 15 + 3 * t + 1 + 1)) 16 = nI (gt g t) := bq_sum_n 16 (hC.1.pn hG ht)
  have hnt := bq_tin (k := 5) ht (by decide)
  refine q_aload_n (pc := 0) dX11_size_0 rfl rfl ?_
  refine q_getP (pc := 1) dX11_size_1 fX11_10 (Cellar_sh hx) ⟨by decide, rfl⟩ (Cellar_lt hx) (Cellar_p_state hx) ?_
  refine q_iload_n (pc := 4) dX11_size_4 rfl rfl ?_
  refine q_callVF (pc := 5) dX11_size_5 kX11_65 (c_tankAt (Cellar_s_state hx) ht) (State_sh (Cellar_s_state hx)) rfl (State_lt (Cellar_s_state hx)) ⟨Nat.le_of_ble_eq_true rfl, Nat.le_of_ble_eq_true rfl⟩ rfl rfl (Nat.le_of_ble_eq_true rfl) ?_
  show bq_W _ _ _ _ _ 8 _ [_] _ _ _ _ _ _
  refine q_astore_n (pc := 8) dX11_size_8 rfl (Nat.le_of_ble_eq_true rfl) rfl ?_
  show bq_W _ _ _ _ _ 9 [_, _, _, _, _] _ _ _ _ _ _ _
  refine q_aload_n (pc := 9) dX11_size_9 rfl rfl ?_
  refine q_ifnonnull (pc := 10) 15 dX11_size_10 (by decide) ?_
  refine q_iload_n (pc := 15) dX11_size_15 rfl rfl ?_
  refine q_iconst (pc := 16) (v := nI 1) dX11_size_16 (by decide) ?_
  refine q_sipush (pc := 17) (v := nI 9999) dX11_size_17 (by decide) ?_
  refine q_callSF (pc := 20) dX11_size_20 kX11_69 c_X11_outside ⟨Nat.le_of_ble_eq_true rfl, Nat.le_of_ble_eq_true rfl⟩ rfl rfl (Nat.le_of_ble_eq_true rfl) ?_
  show bq_W _ _ _ _ _ 23 _ [_] _ _ _ _ _ _
  refine q_if_eq (pc := 23) 29 dX11_size_23 (by decide) (fun c_23 => ?_) (fun c_23 => ?_)
  · replace c_23 := bq_b0.mp c_23
    refine q_aload_n (pc := 29) dX11_size_29 rfl rfl ?_
    refine q_getP (pc := 30) dX11_size_30 fX11_73 (Tank_sh (Statetanks_s_el (Cellar_s_state hx) ht)) ⟨by decide, rfl⟩ (Tank_lt (Statetanks_s_el (Cellar_s_state hx) ht)) (Tank_p_content (Statetanks_s_el (Cellar_s_state hx) ht)) ?_
    refine q_callVF (pc := 33) dX11_size_33 kX11_79 (c_X0_total (Tank_s_content (Statetanks_s_el (Cellar_s_state hx) ht))) (Blend_sh (Tank_s_content (Statetanks_s_el (Cellar_s_state hx) ht))) rfl (Blend_lt (Tank_s_content (Statetanks_s_el (Cellar_s_state hx) ht))) ⟨Nat.le_of_ble_eq_true rfl, Nat.le_of_ble_eq_true rfl⟩ rfl rfl (Nat.le_of_ble_eq_true rfl) ?_
    show bq_W _ _ _ _ _ 36 _ [_] _ _ _ _ _ _
    rw [htt]
    refine q_iload_n (pc := 36) dX11_size_36 rfl rfl ?_
    refine q_icmp_le (pc := 37) 46 dX11_size_37 (by decide) (fun c_37 => ?_) (fun c_37 => ?_)
    · refine q_aload_n (pc := 46) dX11_size_46 rfl rfl ?_
      refine q_callVF (pc := 47) dX11_size_47 kX11_89 (c_putBy hx hP hc (by omega)) (Cellar_sh hx) rfl (Cellar_lt hx) ⟨Nat.le_of_ble_eq_true rfl, Nat.le_of_ble_eq_true rfl⟩ rfl rfl (Nat.le_of_ble_eq_true rfl) ?_
      show bq_W _ _ _ _ _ 50 _ [] _ _ _ _ _ _
      refine q_aload_n (pc := 50) dX11_size_50 rfl rfl ?_
      refine q_getI (pc := 51) dX11_size_51 fX11_92 (Tank_sh (Statetanks_s_el (Cellar_s_state hx) ht)) ⟨by decide, rfl⟩ (Tank_lt (Statetanks_s_el (Cellar_s_state hx) ht)) ?_
      rw [show (st_cpI I (x + 165 + 53 * π ch) (x + 1)) (x + 1 + 15 + 3 * t) 0 = g (10 + 19 * t) from by rw [show x + 1 + 15 + 3 * t = x + 1 + (15 + 3 * t) by omega]; exact hC0.1.at (lc_T (k := 0) ht (by decide))]
      refine q_istore (pc := 54) dX11_size_54 (Nat.le_of_ble_eq_true rfl) rfl ?_
      show bq_W _ _ _ _ _ 56 [_, _, _, _, _] _ _ _ _ _ _ _
      refine q_aload_n (pc := 56) dX11_size_56 rfl rfl ?_
      refine q_iload_n (pc := 57) dX11_size_57 rfl rfl ?_
      refine q_putI (pc := 58) dX11_size_58 (pX11_92 _) (Tank_sh (Statetanks_s_el (Cellar_s_state hx) ht)) ⟨by decide, rfl⟩ (Tank_lt (Statetanks_s_el (Cellar_s_state hx) ht)) ?_
      refine q_nameI (fun I2 e2 => ?_)
      have C2 : CS I2 (st_cpL L (x + 165 + 53 * π ch) (x + 1)) (x + 1) (bq_r g (10 + 19 * t) v) := by rw [e2, show x + 1 + 15 + 3 * t = x + 1 + (15 + 3 * t) by omega]; exact ⟨hC0.1.u (lc_T (k := 0) ht (by decide)) v, hC0.2.congr (bq_r_ne (by omega)) (fun k k1 k2 => bq_r_ne (by omega))⟩
      have hM := mid_mk hx hP hC hc hl hh C2 (by rw [e2]; exact Frm.rf.u (Or.inl (by omega))) FrmL.rf
      rw [show p_size g h ch (I x 10) (nI t) v = chg g (bq_r g (10 + 19 * t) v) h ch (I x 10) (g (10 + 19 * t)) from by unfold p_size; rw [if_neg hnt, if_neg c_23, nI_clamp (by omega), if_pos c_37]]
      refine q_aload_n (pc := 61) dX11_size_61 rfl rfl ?_
      refine q_iload (pc := 62) dX11_size_62 rfl ?_
      refine q_callV (pc := 64) dX11_size_64 kX11_95 (c_changed hM) (Cellar_sh hx) rfl (Cellar_lt hx) ⟨Nat.le_of_ble_eq_true rfl, Nat.le_of_ble_eq_true rfl⟩ rfl rfl (Nat.le_of_ble_eq_true rfl) ?_
      rintro _ _ _ I9 L9 P9 ⟨rfl, rfl, rfl, Q⟩
      show bq_W _ _ _ _ _ 67 _ [_] _ _ _ _ _ _
      exact q_iret (st := []) (pc := 67) dX11_size_67 rfl ⟨rfl, rfl, rfl, Q⟩
    · refine q_aload_n (pc := 40) dX11_size_40 rfl rfl ?_
      refine q_iconst (pc := 41) (v := nI 4) dX11_size_41 (by decide) ?_
      refine q_callVF (pc := 42) dX11_size_42 kX11_85 (c_refuse hx) (Cellar_sh hx) rfl (Cellar_lt hx) ⟨Nat.le_of_ble_eq_true rfl, Nat.le_of_ble_eq_true rfl⟩ rfl rfl (Nat.le_of_ble_eq_true rfl) ?_
      show bq_W _ _ _ _ _ 45 _ [_] _ _ _ _ _ _
      exact q_iret (st := []) (pc := 45) dX11_size_45 rfl (qOp.ref hX' (by unfold p_size; rw [if_neg hnt, if_neg c_23, nI_clamp (by omega), if_neg c_37]))
  · replace c_23 := bq_bn.mp c_23
    refine q_bipush (pc := 26) (v := (-2)) dX11_size_26 (by decide) ?_
    exact q_iret (st := []) (pc := 28) dX11_size_28 rfl (qOp.same hX' (by unfold p_size; rw [if_neg hnt, if_pos c_23]))
theorem m_size {S : BqH} {n : Nat} {I : BqI} {L : BqL} {P : BqP} {x : Nat} {g : BqG} {h : Nat → BqG} {ch en : Nat} (hX : CXS x S n I L P g h ch) (hG : GI g en) (hen : en < 2 ^ 29) {t v : Int32} : bq_Sp mX11_size 6 144 0 0 [.ref x, .int t, .int v] S n I L P (qOp x I L S n P (p_size g h ch (I x 10) t v)) := by
  rcases bq_in5 t 5 (by decide) with ht | ⟨t, ht, rfl⟩
  · exact m_size_a hX hG hen ht
  · exact m_size_b hX hG hen ht
set_option maxHeartbeats 784000 in
set_option maxRecDepth 20000 in
theorem m_rate {S : BqH} {n : Nat} {I : BqI} {L : BqL} {P : BqP} {x : Nat} {g : BqG} {h : Nat → BqG} {ch en : Nat} (hX : CXS x S n I L P g h ch) (hG : GI g en) (hen : en < 2 ^ 29) {d s a : Int32} : bq_Sp mX11_rate 6 144 0 0 [.ref x, .int d, .int s, .int a] S n I L P (qOp x I L S n P (p_rate g h ch (I x 10) d s a)) := by
  refine q_entry (vs := [some (.ref x), some (.int d), some (.int s), some (.int a), none]) (by decide +kernel) (by simp) (Nat.le_of_ble_eq_true rfl) rfl ?_
  have hX' := hX
  obtain ⟨hx, hC, hc, hl, π, hP, hh⟩ := hX
  have hC0 := put_1 (π := π) (ch := ch) hC
  have hrl : gn g 3 ≤ 10 := hG.2.2.2.2.1
  have hrc : I (x + 1) 10 = nI (gn g 3) := (hC.1.at (k := 3) rfl).trans (hG.n (by decide) (by decide))
  have hrc0 : (st_cpI I (x + 165 + 53 * π ch) (x + 1)) (x + 1) 10 = nI (gn g 3) := (hC0.1.at (k := 3) rfl).trans (hG.n (by decide) (by decide))
  refine q_iload_n (pc := 0) dX11_rate_0 rfl rfl ?_
  refine q_iconst (pc := 1) (v := nI 0) dX11_rate_1 (by decide) ?_
  refine q_sipush (pc := 2) (v := nI 9999) dX11_rate_2 (by decide) ?_
  refine q_callSF (pc := 5) dX11_rate_5 kX11_69 c_X11_outside ⟨Nat.le_of_ble_eq_true rfl, Nat.le_of_ble_eq_true rfl⟩ rfl rfl (Nat.le_of_ble_eq_true rfl) ?_
  show bq_W _ _ _ _ _ 8 _ [_] _ _ _ _ _ _
  refine q_if_ne (pc := 8) 33 dX11_rate_8 (by decide) (fun c_8 => ?_) (fun c_8 => ?_)
  · replace c_8 := bq_bn.mp c_8
    refine q_bipush (pc := 33) (v := (-2)) dX11_rate_33 (by decide) ?_
    exact q_iret (st := []) (pc := 35) dX11_rate_35 rfl (qOp.same hX' (by unfold p_rate; rw [if_pos (by first | exact Or.inl c_8 | exact Or.inr (Or.inl c_19) | exact Or.inr (Or.inr c_30))]))
  · replace c_8 := bq_b0.mp c_8
    refine q_iload_n (pc := 11) dX11_rate_11 rfl rfl ?_
    refine q_iconst (pc := 12) (v := nI 0) dX11_rate_12 (by decide) ?_
    refine q_sipush (pc := 13) (v := nI 2000) dX11_rate_13 (by decide) ?_
    refine q_callSF (pc := 16) dX11_rate_16 kX11_69 c_X11_outside ⟨Nat.le_of_ble_eq_true rfl, Nat.le_of_ble_eq_true rfl⟩ rfl rfl (Nat.le_of_ble_eq_true rfl) ?_
    show bq_W _ _ _ _ _ 19 _ [_] _ _ _ _ _ _
    refine q_if_ne (pc := 19) 33 dX11_rate_19 (by decide) (fun c_19 => ?_) (fun c_19 => ?_)
    · replace c_19 := bq_bn.mp c_19
      refine q_bipush (pc := 33) (v := (-2)) dX11_rate_33 (by decide) ?_
      exact q_iret (st := []) (pc := 35) dX11_rate_35 rfl (qOp.same hX' (by unfold p_rate; rw [if_pos (by first | exact Or.inl c_8 | exact Or.inr (Or.inl c_19) | exact Or.inr (Or.inr c_30))]))
    · replace c_19 := bq_b0.mp c_19
      refine q_iload_n (pc := 22) dX11_rate_22 rfl rfl ?_
      refine q_iconst (pc := 23) (v := nI 0) dX11_rate_23 (by decide) ?_
      refine q_sipush (pc := 24) (v := nI 9999) dX11_rate_24 (by decide) ?_
      refine q_callSF (pc := 27) dX11_rate_27 kX11_69 c_X11_outside ⟨Nat.le_of_ble_eq_true rfl, Nat.le_of_ble_eq_true rfl⟩ rfl rfl (Nat.le_of_ble_eq_true rfl) ?_
      show bq_W _ _ _ _ _ 30 _ [_] _ _ _ _ _ _
      refine q_if_eq (pc := 30) 36 dX11_rate_30 (by decide) (fun c_30 => ?_) (fun c_30 => ?_)
      · replace c_30 := bq_b0.mp c_30
        refine q_aload_n (pc := 36) dX11_rate_36 rfl rfl ?_
        refine q_getP (pc := 37) dX11_rate_37 fX11_10 (Cellar_sh hx) ⟨by decide, rfl⟩ (Cellar_lt hx) (Cellar_p_state hx) ?_
        refine q_getI (pc := 40) dX11_rate_40 fX11_132 (State_sh (Cellar_s_state hx)) ⟨by decide, rfl⟩ (State_lt (Cellar_s_state hx)) ?_
        rw [hrc]
        refine q_bipush (pc := 43) (v := nI 10) dX11_rate_43 (by decide) ?_
        refine q_icmp_lt (pc := 45) 51 dX11_rate_45 (by decide) (fun c_45 => ?_) (fun c_45 => ?_)
        · have hr : gn g 3 < 10 := (nI_ltI (by omega) (by decide)).mp c_45
          have hin : ¬ ((d < nI 0 ∨ ¬ d ≤ nI 9999) ∨ (s < nI 0 ∨ ¬ s ≤ nI 2000) ∨ (a < nI 0 ∨ ¬ a ≤ nI 9999)) := by rintro (q | q | q); exact c_8 q; exact c_19 q; exact c_30 q
          refine q_aload_n (pc := 51) dX11_rate_51 rfl rfl ?_
          refine q_callVF (pc := 52) dX11_rate_52 kX11_89 (c_putBy hx hP hc (by omega)) (Cellar_sh hx) rfl (Cellar_lt hx) ⟨Nat.le_of_ble_eq_true rfl, Nat.le_of_ble_eq_true rfl⟩ rfl rfl (Nat.le_of_ble_eq_true rfl) ?_
          show bq_W _ _ _ _ _ 55 _ [] _ _ _ _ _ _
          refine q_aload_n (pc := 55) dX11_rate_55 rfl rfl ?_
          refine q_getP (pc := 56) dX11_rate_56 fX11_10 (Cellar_sh hx) ⟨by decide, rfl⟩ (Cellar_lt hx) (Cellar_p_state hx) ?_
          refine q_getP (pc := 59) dX11_rate_59 fX11_135 (State_sh (Cellar_s_state hx)) ⟨by decide, rfl⟩ (State_lt (Cellar_s_state hx)) (State_p_rates (Cellar_s_state hx)) ?_
          refine q_aload_n (pc := 62) dX11_rate_62 rfl rfl ?_
          refine q_getP (pc := 63) dX11_rate_63 fX11_10 (Cellar_sh hx) ⟨by decide, rfl⟩ (Cellar_lt hx) (Cellar_p_state hx) ?_
          refine q_getI (pc := 66) dX11_rate_66 fX11_132 (State_sh (Cellar_s_state hx)) ⟨by decide, rfl⟩ (State_lt (Cellar_s_state hx)) ?_
          rw [hrc0]
          refine q_aald (pc := 69) dX11_rate_69 (Staterates_sh (Cellar_s_state hx)) (by decide) (Staterates_lt (Cellar_s_state hx)) rfl hr (Staterates_p_el (Cellar_s_state hx) hr) ?_
          refine q_astore (pc := 70) dX11_rate_70 (Nat.le_of_ble_eq_true rfl) rfl ?_
          show bq_W _ _ _ _ _ 72 [_, _, _, _, _] _ _ _ _ _ _ _
          refine q_aload (pc := 72) dX11_rate_72 rfl ?_
          refine q_iload_n (pc := 74) dX11_rate_74 rfl rfl ?_
          refine q_putI (pc := 75) dX11_rate_75 (pX11_139 _) (Rate_sh (Staterates_s_el (Cellar_s_state hx) hr)) ⟨by decide, rfl⟩ (Rate_lt (Staterates_s_el (Cellar_s_state hx) hr)) ?_
          refine q_aload (pc := 78) dX11_rate_78 rfl ?_
          refine q_iload_n (pc := 80) dX11_rate_80 rfl rfl ?_
          refine q_putI (pc := 81) dX11_rate_81 (pX11_144 _) (Rate_sh (Staterates_s_el (Cellar_s_state hx) hr)) ⟨by decide, rfl⟩ (Rate_lt (Staterates_s_el (Cellar_s_state hx) hr)) ?_
          refine q_aload (pc := 84) dX11_rate_84 rfl ?_
          refine q_iload_n (pc := 86) dX11_rate_86 rfl rfl ?_
          refine q_putI (pc := 87) dX11_rate_87 (pX11_147 _) (Rate_sh (Staterates_s_el (Cellar_s_state hx) hr)) ⟨by decide, rfl⟩ (Rate_lt (Staterates_s_el (Cellar_s_state hx) hr)) ?_
          refine q_nameI (fun I2 e2 => ?_)
          have C2 : CSI I2 (x + 1) (bq_r (bq_r (bq_r g (294 + 3 * gn g 3 + 0) d) (294 + 3 * gn g 3 + 1) s) (294 + 3 * gn g 3 + 2) a) := by rw [e2, show x + 1 + 33 + gn g 3 = x + 1 + (33 + gn g 3) by omega]; exact ((hC0.1.u (lc_R hr (k := 0) (by decide)) d).u (lc_R hr (k := 1) (by decide)) s).u (lc_R hr (k := 2) (by decide)) a
          have F2 : Frm x (st_cpI I (x + 165 + 53 * π ch) (x + 1)) I2 := by rw [e2]; exact ((Frm.rf.u (Or.inl (by omega))).u (Or.inl (by omega))).u (Or.inl (by omega))
          have h2 : I2 (x + 1) 10 = nI (gn g 3) := by rw [C2.at (k := 3) rfl, bq_r_ne (by omega), bq_r_ne (by omega), bq_r_ne (by omega)]; exact hG.n (by decide) (by decide)
          refine q_aload_n (pc := 90) dX11_rate_90 rfl rfl ?_
          refine q_getP (pc := 91) dX11_rate_91 fX11_10 (Cellar_sh hx) ⟨by decide, rfl⟩ (Cellar_lt hx) (Cellar_p_state hx) ?_
          refine q_dup (pc := 94) dX11_rate_94 rfl ?_
          refine q_getI (pc := 95) dX11_rate_95 fX11_132 (State_sh (Cellar_s_state hx)) ⟨by decide, rfl⟩ (State_lt (Cellar_s_state hx)) ?_
          rw [h2]
          refine q_iconst (pc := 98) (v := nI 1) dX11_rate_98 (by decide) ?_
          refine q_iaddN (pc := 99) dX11_rate_99 ?_
          refine q_putI (pc := 100) dX11_rate_100 (pX11_132 _) (State_sh (Cellar_s_state hx)) ⟨by decide, rfl⟩ (State_lt (Cellar_s_state hx)) ?_
          refine q_nameI (fun I3 e3 => ?_)
          have C3 : CS I3 (st_cpL L (x + 165 + 53 * π ch) (x + 1)) (x + 1) (x_rate g d s a) := by rw [e3]; exact ⟨C2.u (k := 3) (a := 0) rfl _, hC0.2.congr (x_rate_ne (Or.inl rfl)) (fun k k1 k2 => x_rate_ne (Or.inr ⟨by omega, by omega⟩))⟩
          have hM := mid_mk hx hP hC hc hl hh C3 (by rw [e3]; exact F2.u (Or.inl (by omega))) FrmL.rf
          have h3 : I3 (x + 1) 10 = nI (gn g 3 + 1) := by rw [e3, bq_u_at]
          refine q_aload_n (pc := 103) dX11_rate_103 rfl rfl ?_
          refine q_aload_n (pc := 104) dX11_rate_104 rfl rfl ?_
          refine q_getP (pc := 105) dX11_rate_105 fX11_10 (Cellar_sh hx) ⟨by decide, rfl⟩ (Cellar_lt hx) (Cellar_p_state hx) ?_
          refine q_getI (pc := 108) dX11_rate_108 fX11_132 (State_sh (Cellar_s_state hx)) ⟨by decide, rfl⟩ (State_lt (Cellar_s_state hx)) ?_
          rw [h3]
          refine q_iconst (pc := 111) (v := nI 1) dX11_rate_111 (by decide) ?_
          refine q_isub (pc := 112) dX11_rate_112 ?_
          rw [show nI (gn g 3 + 1) - nI 1 = g 3 from by rw [pk_sub (by omega), Nat.add_sub_cancel]; exact (hG.n (by decide) (by decide)).symm]
          rw [show p_rate g h ch (I x 10) d s a = chg g (x_rate g d s a) h ch (I x 10) (g 3) from by unfold p_rate; rw [if_neg hin, if_pos hr]]
          refine q_callV (pc := 113) dX11_rate_113 kX11_95 (c_changed hM) (Cellar_sh hx) rfl (Cellar_lt hx) ⟨Nat.le_of_ble_eq_true rfl, Nat.le_of_ble_eq_true rfl⟩ rfl rfl (Nat.le_of_ble_eq_true rfl) ?_
          rintro _ _ _ I9 L9 P9 ⟨rfl, rfl, rfl, Q⟩
          show bq_W _ _ _ _ _ 116 _ [_] _ _ _ _ _ _
          exact q_iret (st := []) (pc := 116) dX11_rate_116 rfl ⟨rfl, rfl, rfl, Q⟩
        · refine q_bipush (pc := 48) (v := (-4)) dX11_rate_48 (by decide) ?_
          exact q_iret (st := []) (pc := 50) dX11_rate_50 rfl (qOp.same hX' (by unfold p_rate; rw [if_neg (by rintro (q | q | q); exact c_8 q; exact c_19 q; exact c_30 q), if_neg (fun q => c_45 (nI_lt q (by decide)))]))
      · replace c_30 := bq_bn.mp c_30
        refine q_bipush (pc := 33) (v := (-2)) dX11_rate_33 (by decide) ?_
        exact q_iret (st := []) (pc := 35) dX11_rate_35 rfl (qOp.same hX' (by unfold p_rate; rw [if_pos (by first | exact Or.inl c_8 | exact Or.inr (Or.inl c_19) | exact Or.inr (Or.inr c_30))]))
