/-! the class's answers by the plan -/
def qKv (x : Nat) (I : BqI) (S : BqH) (n : Nat) (L : BqL) (P : BqP) (v : Int32) : BqQ := fun r S' n' I' L' P' => r = some (.int v) ∧ S' = S ∧ n' = n ∧ L' = L ∧ P' = P ∧ ∀ a, a < x + 131 ∨ x + 152 ≤ a → I' a = I a
theorem plan_ok {g : BqG} {en : Nat} (hG : GI g en) : (plan g).2.1 ≤ (qg g).2 ∧ (qg g).2 ≤ gn g 2 ∧ gn g 2 ≤ 10 ∧ ∀ j, j < (plan g).2.1 → (∃ i, i < (qg g).2 ∧ (plan g).2.2.1 j = (qg g).1 i) ∧ (plan g).2.2.2 j < 6 := by
  have hqk := qq_ok (kk g) (fun o => decide (g (208 + 9 * o) = 0)) (gn g 2)
  have hc2 : gn g 2 ≤ 10 := hG.2.2.2.1
  have hQl : ∀ j, j < (qg g).2 → (qg g).1 j < gn g 2 := fun j hj => (hqk.2.1 j hj).1
  obtain ⟨-, p2, p3⟩ := pln_ok hG (qg g).1 (qg g).2 (gn g 2) hQl hc2 (fun j hj => (hG.o (o := (qg g).1 j) (by have := hQl j hj; omega)).2.1 (hQl j hj)) (qg g).2 (Nat.le_refl _)
  exact ⟨p2, hqk.2.2.2, hc2, p3⟩
theorem plan_le {g : BqG} {en : Nat} (hG : GI g en) : (plan g).2.1 ≤ 10 := by
  obtain ⟨a, b, c, -⟩ := plan_ok hG
  omega
theorem plan_O {g : BqG} {en : Nat} (hG : GI g en) (j : Nat) (hj : j < (plan g).2.1) : (plan g).2.2.1 j < 10 := by
  obtain ⟨a, b, c, d⟩ := plan_ok hG
  obtain ⟨⟨i, hi, e⟩, -⟩ := d j hj
  have := ((qq_ok (kk g) (fun o => decide (g (208 + 9 * o) = 0)) (gn g 2)).2.1 i hi).1
  have e2 : (qg g).1 i = (qq (kk g) (fun o => decide (g (208 + 9 * o) = 0)) (gn g 2)).1 i := rfl
  rw [e, e2]
  omega
theorem gfl_gk {g : BqG} {en : Nat} (hK : GK g en) (hen : en + 10 < 200000) : ∀ i, i ≤ (plan g).2.1 → GK (gfl g (plan g).2.2.1 (plan g).2.2.2 i) (en + i) := by
  have hG := hK.gi
  have hV : ∀ j, j < (plan g).2.1 → Vd g (plan g).2.2.1 (plan g).2.2.2 j := (fills_ok hK hen (qq_ok (kk g) (fun o => decide (g (208 + 9 * o) = 0)) (gn g 2)) (qg g).2 (Nat.le_refl _)).2.2.2.2.2
  have hc10 := plan_le hG
  intro i
  induction i with
  | zero => intro _; exact hK
  | succ i ih =>
    intro hi
    have h := ih (by omega)
    obtain ⟨v1, v2, v3, v4, v5, v6⟩ := hV i (by omega)
    have hl1 : 1 ≤ gn g (205 + 9 * (plan g).2.2.1 i) := (hG.o (plan_O hG i (by omega))).2.1 v2
    have v3' : gn g (205 + 9 * (plan g).2.2.1 i) ≤ gt (gfl g (plan g).2.2.1 (plan g).2.2.2 i) ((plan g).2.2.2 i) := v3
    have hph : gn (gfl g (plan g).2.2.1 (plan g).2.2.2 i) (11 + 19 * (plan g).2.2.2 i) = 1 := (h.gi.t v1).2.2.2.2.2.mpr (by omega)
    have := gk_fill h (by omega) v1 (o := (plan g).2.2.1 i) (by rw [show gn (gfl g (plan g).2.2.1 (plan g).2.2.2 i) 2 = gn g 2 from v5]; exact v2) (by rw [show gn (gfl g (plan g).2.2.1 (plan g).2.2.2 i) (205 + 9 * (plan g).2.2.1 i) = gn g (205 + 9 * (plan g).2.2.1 i) from v4]; exact v3') hph
    rw [show gn (gfl g (plan g).2.2.1 (plan g).2.2.2 i) (205 + 9 * (plan g).2.2.1 i) = gn g (205 + 9 * (plan g).2.2.1 i) from v4] at this
    exact this
theorem Frp.w {x : Nat} {I I' : BqI} (h : Frp x I I') : Frm x I I' := fun a ha => h a (by omega)
theorem FrmL.trans {x : Nat} {L L' L'' : BqL} (h : FrmL x L L') (h' : FrmL x L' L'') : FrmL x L L'' := fun a ha => (h' a ha).trans (h a ha)
def p_fillAll (g : BqG) (h : Nat → BqG) (ch : Nat) (y : Int32) : BqR := chg g (gfl g (plan g).2.2.1 (plan g).2.2.2 (plan g).2.1) h ch y (nI (plan g).2.1)
def r_planned (g : BqG) (i : Int32) : Int32 := if i < 0 then (-1) else if nI (plan g).2.1 ≤ i then (-5) else nI ((plan g).2.2.1 i.toNatClampNeg)
theorem pl_in {c : Nat} {i : Int32} (hc : c ≤ 10) (h0 : ¬ i < 0) (h : ¬ nI c ≤ i) : ∃ q, q < c ∧ i = nI q := by
  rcases pk_ix i (n := c) (by omega) with q | q | q
  · exact absurd q h0
  · exact absurd q h
  · exact q
theorem r_planned_in {g : BqG} {q : Nat} (hc : (plan g).2.1 ≤ 10) (hq : q < (plan g).2.1) : r_planned g (nI q) = nI ((plan g).2.2.1 q) := by
  unfold r_planned
  rw [if_neg (nI_pos (by omega)), if_neg (nI_ge hq (by omega)), nI_clamp (by omega)]
theorem r_planned_out {g : BqG} {i : Int32} (h0 : ¬ i < 0) (h : nI (plan g).2.1 ≤ i) : r_planned g i = (-5) := by
  unfold r_planned
  rw [if_neg h0, if_pos h]
def n_ofOrder (g : BqG) (o : Nat) (k : Int32) : Int32 := if k = nI 0 then g (204 + 9 * o) else if k = nI 1 then g (205 + 9 * o) else if k = nI 2 then g (206 + 9 * o) else if k = nI 3 then g (207 + 9 * o) else if k = nI 4 then g (208 + 9 * o) else if k = nI 5 then tofr (plan g).2.2.1 (plan g).2.2.2 o 0 (plan g).2.1 else if k = nI 6 then (if g (208 + 9 * o) = nI 1 then g (209 + 9 * o) else (-5)) else (-1)
def r_ofOrder (g : BqG) (o k : Int32) : Int32 := if o < 0 ∨ g 2 ≤ o ∨ nI 10 ≤ o then (-1) else n_ofOrder g o.toNatClampNeg k
theorem r_ofOrder_out {g : BqG} {o k : Int32} (h : o < 0 ∨ g 2 ≤ o ∨ nI 10 ≤ o) : r_ofOrder g o k = (-1) := if_pos h
theorem r_ofOrder_in {g : BqG} {en o : Nat} {k : Int32} (hG : GI g en) (ho : o < gn g 2) : r_ofOrder g (nI o) k = n_ofOrder g o k := by
  have hcl : gn g 2 ≤ 10 := hG.2.2.2.1
  unfold r_ofOrder
  rw [if_neg, nI_clamp (by omega)]
  rintro (q | q | q)
  · exact nI_pos (by omega) q
  · rw [hG.n (k := 2) (by decide) (by decide)] at q; exact nI_ge ho (by omega) q
  · exact nI_ge (show o < 10 by omega) (by decide) q
set_option maxHeartbeats 1000000 in
set_option maxRecDepth 20000 in
theorem m_planned {S : BqH} {n : Nat} {I : BqI} {L : BqL} {P : BqP} {x : Nat} {g : BqG} {en : Nat} (hx : oX S n P x) (hC : CS I L (x + 1) g) (hG : GI g en) {i : Int32} : bq_Sp mX11_planned 5 108 0 0 [.ref x, .int i] S n I L P (qKv x I S n L P (r_planned g i)) := by
  refine q_entry (vs := [some (.ref x), some (.int i)]) (by decide +kernel) (by simp) (Nat.le_of_ble_eq_true rfl) rfl ?_
  refine q_iload_n (pc := 0) dX11_planned_0 rfl rfl ?_
  refine q_if_ge (pc := 1) 6 dX11_planned_1 (by decide) (fun c_1 => ?_) (fun c_1 => ?_)
  · refine q_aload_n (pc := 6) dX11_planned_6 rfl rfl ?_
    refine q_getP (pc := 7) dX11_planned_7 fX11_41 (Cellar_sh hx) ⟨by decide, rfl⟩ (Cellar_lt hx) (Cellar_p_plan hx) ?_
    refine q_aload_n (pc := 10) dX11_planned_10 rfl rfl ?_
    refine q_getP (pc := 11) dX11_planned_11 fX11_10 (Cellar_sh hx) ⟨by decide, rfl⟩ (Cellar_lt hx) (Cellar_p_state hx) ?_
    refine q_callV (pc := 14) dX11_planned_14 kX11_185 (c_reckon hx hC.1 hG) (Plan_sh (Cellar_s_plan hx)) rfl (Plan_lt (Cellar_s_plan hx)) ⟨Nat.le_of_ble_eq_true rfl, Nat.le_of_ble_eq_true rfl⟩ rfl rfl (Nat.le_of_ble_eq_true rfl) ?_
    rintro _ S1 n1 I1 L1 P1 ⟨rfl, eS1, en1, eL1, eP1, k1, k2, k3⟩
    subst S1 n1 L1 P1
    show bq_W _ _ _ _ _ 17 _ [] _ _ _ _ _ _
    have hc10 : (plan g).2.1 ≤ 10 := plan_le hG
    refine q_iload_n (pc := 17) dX11_planned_17 rfl rfl ?_
    refine q_aload_n (pc := 18) dX11_planned_18 rfl rfl ?_
    refine q_getP (pc := 19) dX11_planned_19 fX11_41 (Cellar_sh hx) ⟨by decide, rfl⟩ (Cellar_lt hx) (Cellar_p_plan hx) ?_
    refine q_getI (pc := 22) dX11_planned_22 fX11_189 (Plan_sh (Cellar_s_plan hx)) ⟨by decide, rfl⟩ (Plan_lt (Cellar_s_plan hx)) ?_
    rw [k2]
    refine q_icmp_ge (pc := 25) 40 dX11_planned_25 (by decide) (fun c_25 => ?_) (fun c_25 => ?_)
    · refine q_bipush (pc := 40) (v := (-5)) dX11_planned_40 (by decide) ?_
      exact q_iret (st := []) (pc := 42) dX11_planned_42 rfl ⟨by first | (rw [(k3 q hq).1, r_planned_in hc10 hq]) | (rw [r_planned_out (Int32.not_lt.mpr c_1) c_25]), rfl, rfl, rfl, rfl, k1⟩
    · obtain ⟨q, hq, rfl⟩ := pl_in hc10 (Int32.not_lt.mpr c_1) c_25
      refine q_aload_n (pc := 28) dX11_planned_28 rfl rfl ?_
      refine q_getP (pc := 29) dX11_planned_29 fX11_41 (Cellar_sh hx) ⟨by decide, rfl⟩ (Cellar_lt hx) (Cellar_p_plan hx) ?_
      refine q_getP (pc := 32) dX11_planned_32 fX11_195 (Plan_sh (Cellar_s_plan hx)) ⟨by decide, rfl⟩ (Plan_lt (Cellar_s_plan hx)) (Plan_p_orders (Cellar_s_plan hx)) ?_
      refine q_iload_n (pc := 35) dX11_planned_35 rfl rfl ?_
      refine q_iald (pc := 36) dX11_planned_36 (oA_sh (Plan_s_orders (Cellar_s_plan hx))) (oA_lt (Plan_s_orders (Cellar_s_plan hx))) rfl (by omega) ?_
      refine q_goto (pc := 37) 42 dX11_planned_37 (by decide) ?_
      exact q_iret (st := []) (pc := 42) dX11_planned_42 rfl ⟨by first | (rw [(k3 q hq).1, r_planned_in hc10 hq]) | (rw [r_planned_out (Int32.not_lt.mpr c_1) c_25]), rfl, rfl, rfl, rfl, k1⟩
  · refine q_iconst (pc := 4) (v := (-1)) dX11_planned_4 (by decide) ?_
    exact q_iret (st := []) (pc := 5) dX11_planned_5 rfl ⟨by unfold r_planned; rw [if_pos (Int32.not_le.mp c_1)], rfl, rfl, rfl, rfl, fun _ _ => rfl⟩
set_option maxHeartbeats 1000000 in
set_option maxRecDepth 20000 in
theorem m_ofOrder_a {S : BqH} {n : Nat} {I : BqI} {L : BqL} {P : BqP} {x : Nat} {g : BqG} {en : Nat} (hx : oX S n P x) (hC : CS I L (x + 1) g) (hG : GI g en) {o k : Int32} (ho : o < 0 ∨ g 2 ≤ o ∨ nI 10 ≤ o) : bq_Sp mX11_ofOrder 5 108 0 0 [.ref x, .int o, .int k] S n I L P (qKv x I S n L P (r_ofOrder g o k)) := by
  refine q_entry (vs := [some (.ref x), some (.int o), some (.int k), none]) (by decide +kernel) (by simp) (Nat.le_of_ble_eq_true rfl) rfl ?_
  refine q_aload_n (pc := 0) dX11_ofOrder_0 rfl rfl ?_
  refine q_getP (pc := 1) dX11_ofOrder_1 fX11_10 (Cellar_sh hx) ⟨by decide, rfl⟩ (Cellar_lt hx) (Cellar_p_state hx) ?_
  refine q_iload_n (pc := 4) dX11_ofOrder_4 rfl rfl ?_
  refine q_callVF (pc := 5) dX11_ofOrder_5 kX11_175 (c_orderAt0 (Cellar_s_state hx) (hox hC ho)) (State_sh (Cellar_s_state hx)) rfl (State_lt (Cellar_s_state hx)) ⟨Nat.le_of_ble_eq_true rfl, Nat.le_of_ble_eq_true rfl⟩ rfl rfl (Nat.le_of_ble_eq_true rfl) ?_
  show bq_W _ _ _ _ _ 8 _ [_] _ _ _ _ _ _
  refine q_astore_nN (pc := 8) dX11_ofOrder_8 rfl (Nat.le_of_ble_eq_true rfl) rfl ?_
  show bq_W _ _ _ _ _ 9 [_, _, _, _] _ _ _ _ _ _ _
  refine q_aload_nN (pc := 9) dX11_ofOrder_9 rfl rfl ?_
  refine q_ifnonnullN (pc := 10) dX11_ofOrder_10 ?_
  refine q_iconst (pc := 13) (v := (-1)) dX11_ofOrder_13 (by decide) ?_
  exact q_iret (st := []) (pc := 14) dX11_ofOrder_14 rfl ⟨by rw [r_ofOrder_out ho], rfl, rfl, rfl, rfl, fun _ _ => rfl⟩
set_option maxHeartbeats 1440000 in
set_option maxRecDepth 20000 in
theorem m_ofOrder_b {S : BqH} {n : Nat} {I : BqI} {L : BqL} {P : BqP} {x : Nat} {g : BqG} {en : Nat} (hx : oX S n P x) (hC : CS I L (x + 1) g) (hG : GI g en) {o : Nat} {k : Int32} (ho : o < gn g 2) : bq_Sp mX11_ofOrder 5 108 0 0 [.ref x, .int (nI o), .int k] S n I L P (qKv x I S n L P (n_ofOrder g o k)) := by
  refine q_entry (vs := [some (.ref x), some (.int (nI o)), some (.int k), none]) (by decide +kernel) (by simp) (Nat.le_of_ble_eq_true rfl) rfl ?_
  have hcl : gn g 2 ≤ 10 := hG.2.2.2.1
  have ho10 : o < 10 := by omega
  have hcc : I (x + 1) 12 = nI (gn g 2) := (hC.1.at (k := 2) rfl).trans (hG.n (by decide) (by decide))
  have a : ∀ k, k < 8 → I (x + 1 + 43 + o) k = g (204 + 9 * o + k) := fun k hk => hC.1.ao ho10 hk
  refine q_aload_n (pc := 0) dX11_ofOrder_0 rfl rfl ?_
  refine q_getP (pc := 1) dX11_ofOrder_1 fX11_10 (Cellar_sh hx) ⟨by decide, rfl⟩ (Cellar_lt hx) (Cellar_p_state hx) ?_
  refine q_iload_n (pc := 4) dX11_ofOrder_4 rfl rfl ?_
  refine q_callVF (pc := 5) dX11_ofOrder_5 kX11_175 (c_orderAt (Cellar_s_state hx) hcc ho hcl) (State_sh (Cellar_s_state hx)) rfl (State_lt (Cellar_s_state hx)) ⟨Nat.le_of_ble_eq_true rfl, Nat.le_of_ble_eq_true rfl⟩ rfl rfl (Nat.le_of_ble_eq_true rfl) ?_
  show bq_W _ _ _ _ _ 8 _ [_] _ _ _ _ _ _
  refine q_astore_n (pc := 8) dX11_ofOrder_8 rfl (Nat.le_of_ble_eq_true rfl) rfl ?_
  show bq_W _ _ _ _ _ 9 [_, _, _, _] _ _ _ _ _ _ _
  refine q_aload_n (pc := 9) dX11_ofOrder_9 rfl rfl ?_
  refine q_ifnonnull (pc := 10) 15 dX11_ofOrder_10 (by decide) ?_
  refine q_iload_n (pc := 15) dX11_ofOrder_15 rfl rfl ?_
  by_cases s16_0 : k = nI 0
  · refine q_tableIn (pc := 16) (off := 44) 60 dX11_ofOrder_16 (by rw [s16_0]; decide) (by rw [s16_0]; decide) (by rw [s16_0]; rfl) (by decide) ?_
    refine q_aload_n (pc := 60) dX11_ofOrder_60 rfl rfl ?_
    refine q_getI (pc := 61) dX11_ofOrder_61 fX11_158 (Order_sh (Stateorders_s_el (Cellar_s_state hx) (Nat.lt_of_lt_of_le ho hcl))) ⟨by decide, rfl⟩ (Order_lt (Stateorders_s_el (Cellar_s_state hx) (Nat.lt_of_lt_of_le ho hcl))) ?_
    exact q_iret (st := []) (pc := 64) dX11_ofOrder_64 rfl ⟨by unfold n_ofOrder; rw [if_pos s16_0, a 0 (by decide)]; rfl, rfl, rfl, rfl, rfl, fun _ _ => rfl⟩
  by_cases s16_1 : k = nI 1
  · refine q_tableIn (pc := 16) (off := 49) 65 dX11_ofOrder_16 (by rw [s16_1]; decide) (by rw [s16_1]; decide) (by rw [s16_1]; rfl) (by decide) ?_
    refine q_aload_n (pc := 65) dX11_ofOrder_65 rfl rfl ?_
    refine q_getI (pc := 66) dX11_ofOrder_66 fX11_163 (Order_sh (Stateorders_s_el (Cellar_s_state hx) (Nat.lt_of_lt_of_le ho hcl))) ⟨by decide, rfl⟩ (Order_lt (Stateorders_s_el (Cellar_s_state hx) (Nat.lt_of_lt_of_le ho hcl))) ?_
    exact q_iret (st := []) (pc := 69) dX11_ofOrder_69 rfl ⟨by unfold n_ofOrder; rw [if_neg s16_0, if_pos s16_1, a 1 (by decide), show 204 + 9 * o + 1 = 205 + 9 * o by omega], rfl, rfl, rfl, rfl, fun _ _ => rfl⟩
  by_cases s16_2 : k = nI 2
  · refine q_tableIn (pc := 16) (off := 54) 70 dX11_ofOrder_16 (by rw [s16_2]; decide) (by rw [s16_2]; decide) (by rw [s16_2]; rfl) (by decide) ?_
    refine q_aload_n (pc := 70) dX11_ofOrder_70 rfl rfl ?_
    refine q_getI (pc := 71) dX11_ofOrder_71 fX11_166 (Order_sh (Stateorders_s_el (Cellar_s_state hx) (Nat.lt_of_lt_of_le ho hcl))) ⟨by decide, rfl⟩ (Order_lt (Stateorders_s_el (Cellar_s_state hx) (Nat.lt_of_lt_of_le ho hcl))) ?_
    exact q_iret (st := []) (pc := 74) dX11_ofOrder_74 rfl ⟨by unfold n_ofOrder; rw [if_neg s16_0, if_neg s16_1, if_pos s16_2, a 2 (by decide), show 204 + 9 * o + 2 = 206 + 9 * o by omega], rfl, rfl, rfl, rfl, fun _ _ => rfl⟩
  by_cases s16_3 : k = nI 3
  · refine q_tableIn (pc := 16) (off := 59) 75 dX11_ofOrder_16 (by rw [s16_3]; decide) (by rw [s16_3]; decide) (by rw [s16_3]; rfl) (by decide) ?_
    refine q_aload_n (pc := 75) dX11_ofOrder_75 rfl rfl ?_
    refine q_getI (pc := 76) dX11_ofOrder_76 fX11_169 (Order_sh (Stateorders_s_el (Cellar_s_state hx) (Nat.lt_of_lt_of_le ho hcl))) ⟨by decide, rfl⟩ (Order_lt (Stateorders_s_el (Cellar_s_state hx) (Nat.lt_of_lt_of_le ho hcl))) ?_
    exact q_iret (st := []) (pc := 79) dX11_ofOrder_79 rfl ⟨by unfold n_ofOrder; rw [if_neg s16_0, if_neg s16_1, if_neg s16_2, if_pos s16_3, a 3 (by decide), show 204 + 9 * o + 3 = 207 + 9 * o by omega], rfl, rfl, rfl, rfl, fun _ _ => rfl⟩
  by_cases s16_4 : k = nI 4
  · refine q_tableIn (pc := 16) (off := 64) 80 dX11_ofOrder_16 (by rw [s16_4]; decide) (by rw [s16_4]; decide) (by rw [s16_4]; rfl) (by decide) ?_
    refine q_aload_n (pc := 80) dX11_ofOrder_80 rfl rfl ?_
    refine q_getI (pc := 81) dX11_ofOrder_81 fX11_172 (Order_sh (Stateorders_s_el (Cellar_s_state hx) (Nat.lt_of_lt_of_le ho hcl))) ⟨by decide, rfl⟩ (Order_lt (Stateorders_s_el (Cellar_s_state hx) (Nat.lt_of_lt_of_le ho hcl))) ?_
    exact q_iret (st := []) (pc := 84) dX11_ofOrder_84 rfl ⟨by unfold n_ofOrder; rw [if_neg s16_0, if_neg s16_1, if_neg s16_2, if_neg s16_3, if_pos s16_4, a 4 (by decide), show 204 + 9 * o + 4 = 208 + 9 * o by omega], rfl, rfl, rfl, rfl, fun _ _ => rfl⟩
  by_cases s16_5 : k = nI 5
  · refine q_tableIn (pc := 16) (off := 69) 85 dX11_ofOrder_16 (by rw [s16_5]; decide) (by rw [s16_5]; decide) (by rw [s16_5]; rfl) (by decide) ?_
    refine q_aload_n (pc := 85) dX11_ofOrder_85 rfl rfl ?_
    refine q_getP (pc := 86) dX11_ofOrder_86 fX11_41 (Cellar_sh hx) ⟨by decide, rfl⟩ (Cellar_lt hx) (Cellar_p_plan hx) ?_
    refine q_aload_n (pc := 89) dX11_ofOrder_89 rfl rfl ?_
    refine q_getP (pc := 90) dX11_ofOrder_90 fX11_10 (Cellar_sh hx) ⟨by decide, rfl⟩ (Cellar_lt hx) (Cellar_p_state hx) ?_
    refine q_callV (pc := 93) dX11_ofOrder_93 kX11_185 (c_reckon hx hC.1 hG) (Plan_sh (Cellar_s_plan hx)) rfl (Plan_lt (Cellar_s_plan hx)) ⟨Nat.le_of_ble_eq_true rfl, Nat.le_of_ble_eq_true rfl⟩ rfl rfl (Nat.le_of_ble_eq_true rfl) ?_
    rintro _ S1 n1 I1 L1 P1 ⟨rfl, eS1, en1, eL1, eP1, k1, k2, k3⟩
    subst S1 n1 L1 P1
    show bq_W _ _ _ _ _ 96 _ [] _ _ _ _ _ _
    refine q_aload_n (pc := 96) dX11_ofOrder_96 rfl rfl ?_
    refine q_getP (pc := 97) dX11_ofOrder_97 fX11_41 (Cellar_sh hx) ⟨by decide, rfl⟩ (Cellar_lt hx) (Cellar_p_plan hx) ?_
    refine q_iload_n (pc := 100) dX11_ofOrder_100 rfl rfl ?_
    refine q_callVF (pc := 101) dX11_ofOrder_101 kX11_267 (c_tankOf (O := (plan g).2.2.1) (T := (plan g).2.2.2) hx k2 (plan_le hG) (fun j hj => ⟨(k3 j hj).1, plan_O hG j hj⟩) (fun j hj => (k3 j hj).2) ho10) (Plan_sh (Cellar_s_plan hx)) rfl (Plan_lt (Cellar_s_plan hx)) ⟨Nat.le_of_ble_eq_true rfl, Nat.le_of_ble_eq_true rfl⟩ rfl rfl (Nat.le_of_ble_eq_true rfl) ?_
    show bq_W _ _ _ _ _ 104 _ [_] _ _ _ _ _ _
    exact q_iret (st := []) (pc := 104) dX11_ofOrder_104 rfl ⟨by unfold n_ofOrder; rw [if_neg s16_0, if_neg s16_1, if_neg s16_2, if_neg s16_3, if_neg s16_4, if_pos s16_5], rfl, rfl, rfl, rfl, k1⟩
  by_cases s16_6 : k = nI 6
  · refine q_tableIn (pc := 16) (off := 89) 105 dX11_ofOrder_16 (by rw [s16_6]; decide) (by rw [s16_6]; decide) (by rw [s16_6]; rfl) (by decide) ?_
    refine q_aload_n (pc := 105) dX11_ofOrder_105 rfl rfl ?_
    refine q_getI (pc := 106) dX11_ofOrder_106 fX11_172 (Order_sh (Stateorders_s_el (Cellar_s_state hx) (Nat.lt_of_lt_of_le ho hcl))) ⟨by decide, rfl⟩ (Order_lt (Stateorders_s_el (Cellar_s_state hx) (Nat.lt_of_lt_of_le ho hcl))) ?_
    refine q_iconst (pc := 109) (v := nI 1) dX11_ofOrder_109 (by decide) ?_
    rw [a 4 (by decide), show 204 + 9 * o + 4 = 208 + 9 * o by omega]
    refine q_icmp_ne (pc := 110) 120 dX11_ofOrder_110 (by decide) (fun c_110 => ?_) (fun c_110 => ?_)
    · refine q_bipush (pc := 120) (v := (-5)) dX11_ofOrder_120 (by decide) ?_
      exact q_iret (st := []) (pc := 122) dX11_ofOrder_122 rfl ⟨by unfold n_ofOrder; rw [if_neg s16_0, if_neg s16_1, if_neg s16_2, if_neg s16_3, if_neg s16_4, if_neg s16_5, if_pos s16_6]; first | (rw [if_neg c_110]) | (rw [if_pos c_110, a 5 (by decide), show 204 + 9 * o + 5 = 209 + 9 * o by omega]), rfl, rfl, rfl, rfl, fun _ _ => rfl⟩
    · refine q_aload_n (pc := 113) dX11_ofOrder_113 rfl rfl ?_
      refine q_getI (pc := 114) dX11_ofOrder_114 fX11_270 (Order_sh (Stateorders_s_el (Cellar_s_state hx) (Nat.lt_of_lt_of_le ho hcl))) ⟨by decide, rfl⟩ (Order_lt (Stateorders_s_el (Cellar_s_state hx) (Nat.lt_of_lt_of_le ho hcl))) ?_
      refine q_goto (pc := 117) 122 dX11_ofOrder_117 (by decide) ?_
      exact q_iret (st := []) (pc := 122) dX11_ofOrder_122 rfl ⟨by unfold n_ofOrder; rw [if_neg s16_0, if_neg s16_1, if_neg s16_2, if_neg s16_3, if_neg s16_4, if_neg s16_5, if_pos s16_6]; first | (rw [if_neg c_110]) | (rw [if_pos c_110, a 5 (by decide), show 204 + 9 * o + 5 = 209 + 9 * o by omega]), rfl, rfl, rfl, rfl, fun _ _ => rfl⟩
  refine q_tableOut (pc := 16) 123 dX11_ofOrder_16 (bq_out 6 (by decide) (fun j hj => match j, hj with | 0, _ => s16_0 | 1, _ => s16_1 | 2, _ => s16_2 | 3, _ => s16_3 | 4, _ => s16_4 | 5, _ => s16_5 | 6, _ => s16_6 | j + 7, hj => absurd hj (by omega))) (by decide) ?_
  refine q_iconst (pc := 123) (v := (-1)) dX11_ofOrder_123 (by decide) ?_
  exact q_iret (st := []) (pc := 124) dX11_ofOrder_124 rfl ⟨by unfold n_ofOrder; rw [if_neg s16_0, if_neg s16_1, if_neg s16_2, if_neg s16_3, if_neg s16_4, if_neg s16_5, if_neg s16_6], rfl, rfl, rfl, rfl, fun _ _ => rfl⟩
set_option maxHeartbeats 1520000 in
set_option maxRecDepth 20000 in
theorem m_fillAll {S : BqH} {n : Nat} {I : BqI} {L : BqL} {P : BqP} {x : Nat} {g : BqG} {h : Nat → BqG} {ch en : Nat} (hX : CXS x S n I L P g h ch) (hK : GK g en) (hen : en + 10 < 200000) : bq_Sp mX11_fillAll 6 144 0 0 [.ref x] S n I L P (qOp x I L S n P (p_fillAll g h ch (I x 10))) := by
  refine q_entry (vs := [some (.ref x), none]) (by decide +kernel) (by simp) (Nat.le_of_ble_eq_true rfl) rfl ?_
  have hX' := hX
  obtain ⟨hx, hC, hc, hl, π, hP, hh⟩ := hX
  have hC0 := put_1 (π := π) (ch := ch) hC
  have hG := hK.gi
  have hV : ∀ j, j < (plan g).2.1 → Vd g (plan g).2.2.1 (plan g).2.2.2 j := (fills_ok hK hen (qq_ok (kk g) (fun o => decide (g (208 + 9 * o) = 0)) (gn g 2)) (qg g).2 (Nat.le_refl _)).2.2.2.2.2
  have hKs := gfl_gk hK hen
  have hc10 : (plan g).2.1 ≤ 10 := plan_le hG
  refine q_aload_n (pc := 0) dX11_fillAll_0 rfl rfl ?_
  refine q_callVF (pc := 1) dX11_fillAll_1 kX11_89 (c_putBy hx hP hc (by omega)) (Cellar_sh hx) rfl (Cellar_lt hx) ⟨Nat.le_of_ble_eq_true rfl, Nat.le_of_ble_eq_true rfl⟩ rfl rfl (Nat.le_of_ble_eq_true rfl) ?_
  show bq_W _ _ _ _ _ 4 _ [] _ _ _ _ _ _
  refine q_aload_n (pc := 4) dX11_fillAll_4 rfl rfl ?_
  refine q_getP (pc := 5) dX11_fillAll_5 fX11_41 (Cellar_sh hx) ⟨by decide, rfl⟩ (Cellar_lt hx) (Cellar_p_plan hx) ?_
  refine q_aload_n (pc := 8) dX11_fillAll_8 rfl rfl ?_
  refine q_getP (pc := 9) dX11_fillAll_9 fX11_10 (Cellar_sh hx) ⟨by decide, rfl⟩ (Cellar_lt hx) (Cellar_p_state hx) ?_
  refine q_callV (pc := 12) dX11_fillAll_12 kX11_185 (c_reckon hx hC0.1 hG) (Plan_sh (Cellar_s_plan hx)) rfl (Plan_lt (Cellar_s_plan hx)) ⟨Nat.le_of_ble_eq_true rfl, Nat.le_of_ble_eq_true rfl⟩ rfl rfl (Nat.le_of_ble_eq_true rfl) ?_
  rintro _ S1 n1 I1 L1 P1 ⟨rfl, eS1, en1, eL1, eP1, k1, k2, k3⟩
  subst S1 n1 L1 P1
  show bq_W _ _ _ _ _ 15 _ [] _ _ _ _ _ _
  refine q_iconst (pc := 15) (v := nI 0) dX11_fillAll_15 (by decide) ?_
  refine q_istore_n (pc := 16) dX11_fillAll_16 rfl (Nat.le_of_ble_eq_true rfl) rfl ?_
  show bq_W _ _ _ _ _ 17 [_, _] _ _ _ _ _ _ _
  have lp : ∀ i, i ≤ (plan g).2.1 → ∀ (J : BqI) (K : BqL), CS J K (x + 1) (gfl g (plan g).2.2.1 (plan g).2.2.2 i) → Frm x (st_cpI I (x + 165 + 53 * π ch) (x + 1)) J → FrmL x (st_cpL L (x + 165 + 53 * π ch) (x + 1)) K → J (x + 131) 0 = nI (plan g).2.1 → (∀ j, j < (plan g).2.1 → J (x + 131 + 1) j = nI ((plan g).2.2.1 j) ∧ J (x + 131 + 2) j = nI ((plan g).2.2.2 j)) → bq_W mX11_fillAll 6 144 0 0 17 [some (.ref x), some (.int (nI i))] [] S n J K P (qOp x I L S n P (p_fillAll g h ch (I x 10))) := by
    refine bq_down (A := fun i => ∀ (J : BqI) (K : BqL), CS J K (x + 1) (gfl g (plan g).2.2.1 (plan g).2.2.2 i) → Frm x (st_cpI I (x + 165 + 53 * π ch) (x + 1)) J → FrmL x (st_cpL L (x + 165 + 53 * π ch) (x + 1)) K → J (x + 131) 0 = nI (plan g).2.1 → (∀ j, j < (plan g).2.1 → J (x + 131 + 1) j = nI ((plan g).2.2.1 j) ∧ J (x + 131 + 2) j = nI ((plan g).2.2.2 j)) → bq_W mX11_fillAll 6 144 0 0 17 [some (.ref x), some (.int (nI i))] [] S n J K P (qOp x I L S n P (p_fillAll g h ch (I x 10)))) (plan g).2.1 ?_ ?_
    · intro J K jC jF jL j0 jA
      refine q_iload_n (pc := 17) dX11_fillAll_17 rfl rfl ?_
      refine q_aload_n (pc := 18) dX11_fillAll_18 rfl rfl ?_
      refine q_getP (pc := 19) dX11_fillAll_19 fX11_41 (Cellar_sh hx) ⟨by decide, rfl⟩ (Cellar_lt hx) (Cellar_p_plan hx) ?_
      refine q_getI (pc := 22) dX11_fillAll_22 fX11_189 (Plan_sh (Cellar_s_plan hx)) ⟨by decide, rfl⟩ (Plan_lt (Cellar_s_plan hx)) ?_
      rw [j0]
      refine q_icmp_ge (pc := 25) 57 dX11_fillAll_25 (by decide) (fun c_25 => ?_) (fun c_25 => absurd (nI_le (Nat.le_refl _) (by omega)) c_25)
      refine q_aload_n (pc := 57) dX11_fillAll_57 rfl rfl ?_
      refine q_aload_n (pc := 58) dX11_fillAll_58 rfl rfl ?_
      refine q_getP (pc := 59) dX11_fillAll_59 fX11_41 (Cellar_sh hx) ⟨by decide, rfl⟩ (Cellar_lt hx) (Cellar_p_plan hx) ?_
      refine q_getI (pc := 62) dX11_fillAll_62 fX11_189 (Plan_sh (Cellar_s_plan hx)) ⟨by decide, rfl⟩ (Plan_lt (Cellar_s_plan hx)) ?_
      rw [j0]
      have hM := mid_mk hx hP hC hc hl hh jC jF jL
      rw [show p_fillAll g h ch (I x 10) = chg g (gfl g (plan g).2.2.1 (plan g).2.2.2 (plan g).2.1) h ch (I x 10) (nI (plan g).2.1) from rfl]
      refine q_callV (pc := 65) dX11_fillAll_65 kX11_95 (c_changed hM) (Cellar_sh hx) rfl (Cellar_lt hx) ⟨Nat.le_of_ble_eq_true rfl, Nat.le_of_ble_eq_true rfl⟩ rfl rfl (Nat.le_of_ble_eq_true rfl) ?_
      rintro _ _ _ I9 L9 P9 ⟨rfl, rfl, rfl, Q⟩
      show bq_W _ _ _ _ _ 68 _ [_] _ _ _ _ _ _
      exact q_iret (st := []) (pc := 68) dX11_fillAll_68 rfl ⟨rfl, rfl, rfl, Q⟩
    · intro i hi ih J K jC jF jL j0 jA
      have hGi : GI (gfl g (plan g).2.2.1 (plan g).2.2.2 i) (en + i) := (hKs i (by omega)).gi
      refine q_iload_n (pc := 17) dX11_fillAll_17 rfl rfl ?_
      refine q_aload_n (pc := 18) dX11_fillAll_18 rfl rfl ?_
      refine q_getP (pc := 19) dX11_fillAll_19 fX11_41 (Cellar_sh hx) ⟨by decide, rfl⟩ (Cellar_lt hx) (Cellar_p_plan hx) ?_
      refine q_getI (pc := 22) dX11_fillAll_22 fX11_189 (Plan_sh (Cellar_s_plan hx)) ⟨by decide, rfl⟩ (Plan_lt (Cellar_s_plan hx)) ?_
      rw [j0]
      refine q_icmp_ge (pc := 25) 57 dX11_fillAll_25 (by decide) (fun c_25 => absurd c_25 (nI_ge hi (by omega))) (fun c_25 => ?_)
      refine q_aload_n (pc := 28) dX11_fillAll_28 rfl rfl ?_
      refine q_aload_n (pc := 29) dX11_fillAll_29 rfl rfl ?_
      refine q_getP (pc := 30) dX11_fillAll_30 fX11_41 (Cellar_sh hx) ⟨by decide, rfl⟩ (Cellar_lt hx) (Cellar_p_plan hx) ?_
      refine q_getP (pc := 33) dX11_fillAll_33 fX11_192 (Plan_sh (Cellar_s_plan hx)) ⟨by decide, rfl⟩ (Plan_lt (Cellar_s_plan hx)) (Plan_p_tanks (Cellar_s_plan hx)) ?_
      refine q_iload_n (pc := 36) dX11_fillAll_36 rfl rfl ?_
      refine q_iald (pc := 37) dX11_fillAll_37 (oA_sh (Plan_s_tanks (Cellar_s_plan hx))) (oA_lt (Plan_s_tanks (Cellar_s_plan hx))) rfl (by omega) ?_
      rw [(jA i hi).2]
      refine q_aload_n (pc := 38) dX11_fillAll_38 rfl rfl ?_
      refine q_getP (pc := 39) dX11_fillAll_39 fX11_41 (Cellar_sh hx) ⟨by decide, rfl⟩ (Cellar_lt hx) (Cellar_p_plan hx) ?_
      refine q_getP (pc := 42) dX11_fillAll_42 fX11_195 (Plan_sh (Cellar_s_plan hx)) ⟨by decide, rfl⟩ (Plan_lt (Cellar_s_plan hx)) (Plan_p_orders (Cellar_s_plan hx)) ?_
      refine q_iload_n (pc := 45) dX11_fillAll_45 rfl rfl ?_
      refine q_iald (pc := 46) dX11_fillAll_46 (oA_sh (Plan_s_orders (Cellar_s_plan hx))) (oA_lt (Plan_s_orders (Cellar_s_plan hx))) rfl (by omega) ?_
      rw [(jA i hi).1]
      refine q_callV (pc := 47) dX11_fillAll_47 kX11_182 (c_fillP hx jC hGi (by omega)) (Cellar_sh hx) rfl (Cellar_lt hx) ⟨Nat.le_of_ble_eq_true rfl, Nat.le_of_ble_eq_true rfl⟩ rfl rfl (Nat.le_of_ble_eq_true rfl) ?_
      rintro _ S2 n2 J2 K2 P2 ⟨rfl, eS, en_, eP, jC2, jF2, jL2⟩
      subst S2 n2 P2
      show bq_W _ _ _ _ _ 50 _ [_] _ _ _ _ _ _
      refine q_pop (pc := 50) dX11_fillAll_50 rfl ?_
      refine q_iinc (pc := 51) (v := nI (i + 1)) dX11_fillAll_51 rfl (bq_inc _) (Nat.le_of_ble_eq_true rfl) rfl ?_
      show bq_W _ _ _ _ _ 54 [_, _] _ _ _ _ _ _ _
      refine q_goto (pc := 54) 17 dX11_fillAll_54 (by decide) ?_
      obtain ⟨v1, v2, v3, v4, v5, v6⟩ := hV i hi
      have v6' : w_fill (gfl g (plan g).2.2.1 (plan g).2.2.2 i) (nI ((plan g).2.2.2 i)) (nI ((plan g).2.2.1 i)) = _ := v6
      rw [v6'] at jC2
      exact ih J2 K2 jC2 (jF.trans jF2.w) (jL.trans jL2) (by rw [jF2 _ (by omega)]; exact j0) (fun j hj => by rw [jF2 _ (by omega), jF2 _ (by omega)]; exact jA j hj)
  exact lp 0 (Nat.zero_le _) _ _ ⟨hC0.1.fr (fun a ha => k1 _ (by omega)), hC0.2⟩ (fun a ha => k1 a (by omega)) FrmL.rf k2 k3
