/-! the constructors of the parts -/
def tb0_0 : BqTb := t0 0
def tb0_1 : BqTb := tN tb0_0 1 (13, 16)
def tb0_2 : BqTb := tP tb0_1 0 0 1
def tb0 : BqTb := tb0_2
set_option maxHeartbeats 1000000 in
set_option maxRecDepth 20000 in
theorem c_init0 {S : BqH} {n : Nat} {I : BqI} {L : BqL} {P : BqP} {o : Nat} {S0 : BqH} {I0 : BqI} {L0 : BqL} {P0 : BqP} (h0 : BB o 1 (t0 0) S0 I0 L0 P0 S n I L P) : bq_Sp mX0_init 2 20 1 16 [.ref o] S n I L P (qB o 2 tb0 S0 I0 L0 P0) := by
  refine q_entry (vs := [some (.ref o)]) (by decide +kernel) (by simp) (Nat.le_of_ble_eq_true rfl) rfl ?_
  refine q_aload_n (pc := 0) dX0_init_0 rfl rfl ?_
  refine q_objInit (pc := 1) dX0_init_1 kX0_3 ⟨Nat.le_of_ble_eq_true rfl, Nat.le_of_ble_eq_true rfl⟩ ?_
  refine q_aload_n (pc := 4) dX0_init_4 rfl rfl ?_
  refine q_bipush (pc := 5) (v := nI 16) dX0_init_5 (by decide) ?_
  refine t_newI (M := mX0_init) (kc := 0) (ks := 0) (len := 16) (pc := 7) h0 dX0_init_7 rfl (by decide) (fun S1 n1 I1 L1 P1 h1 => ?_)
  refine t_putP (M := mX0_init) (pc := 9) (d := 0) (t := 1) h1 dX0_init_9 pX0_9 (by decide) rfl ⟨by decide, rfl⟩ (fun P2 h2 => ?_)
  exact q_vret (st := []) (pc := 12) dX0_init_12 rfl ⟨rfl, h2⟩
def tb1_0 : BqTb := t0 1
def tb1_1 : BqTb := tI tb1_0 0 0 (nI 0)
def tb1_2 : BqTb := tI tb1_1 0 1 (nI 0)
def tb1_3 : BqTb := tI tb1_2 0 2 (nI 0)
def tb1_4 : BqTb := tI tb1_3 0 3 (nI 0)
def tb1 : BqTb := tb1_4
set_option maxHeartbeats 1000000 in
set_option maxRecDepth 20000 in
theorem c_init1 {S : BqH} {n : Nat} {I : BqI} {L : BqL} {P : BqP} {o : Nat} {S0 : BqH} {I0 : BqI} {L0 : BqL} {P0 : BqP} (h0 : BB o 1 (t0 1) S0 I0 L0 P0 S n I L P) : bq_Sp mX1_init 2 20 0 0 [.ref o] S n I L P (qB o 1 tb1 S0 I0 L0 P0) := by
  refine q_entry (vs := [some (.ref o)]) (by decide +kernel) (by simp) (Nat.le_of_ble_eq_true rfl) rfl ?_
  refine q_aload_n (pc := 0) dX1_init_0 rfl rfl ?_
  refine q_objInit (pc := 1) dX1_init_1 kX1_1 ⟨Nat.le_of_ble_eq_true rfl, Nat.le_of_ble_eq_true rfl⟩ ?_
  refine q_aload_n (pc := 4) dX1_init_4 rfl rfl ?_
  refine q_iconst (pc := 5) (v := nI 0) dX1_init_5 (by decide) ?_
  refine t_putI (M := mX1_init) (pc := 6) (d := 0) h0 dX1_init_6 (pX1_7 _) (by decide) rfl ⟨by decide, rfl⟩ (fun I1 h1 => ?_)
  refine q_aload_n (pc := 9) dX1_init_9 rfl rfl ?_
  refine q_iconst (pc := 10) (v := nI 0) dX1_init_10 (by decide) ?_
  refine t_putI (M := mX1_init) (pc := 11) (d := 0) h1 dX1_init_11 (pX1_13 _) (by decide) rfl ⟨by decide, rfl⟩ (fun I2 h2 => ?_)
  refine q_aload_n (pc := 14) dX1_init_14 rfl rfl ?_
  refine q_iconst (pc := 15) (v := nI 0) dX1_init_15 (by decide) ?_
  refine t_putI (M := mX1_init) (pc := 16) (d := 0) h2 dX1_init_16 (pX1_16 _) (by decide) rfl ⟨by decide, rfl⟩ (fun I3 h3 => ?_)
  refine q_aload_n (pc := 19) dX1_init_19 rfl rfl ?_
  refine q_iconst (pc := 20) (v := nI 0) dX1_init_20 (by decide) ?_
  refine t_putI (M := mX1_init) (pc := 21) (d := 0) h3 dX1_init_21 (pX1_19 _) (by decide) rfl ⟨by decide, rfl⟩ (fun I4 h4 => ?_)
  exact q_vret (st := []) (pc := 24) dX1_init_24 rfl ⟨rfl, h4⟩
def tb2_0 : BqTb := t0 2
def tb2_1 : BqTb := tI tb2_0 0 0 (nI 0)
def tb2_2 : BqTb := tN tb2_1 1 (13, 320)
def tb2_3 : BqTb := tP tb2_2 0 1 1
def tb2 : BqTb := tb2_3
set_option maxHeartbeats 1000000 in
set_option maxRecDepth 20000 in
theorem c_init2 {S : BqH} {n : Nat} {I : BqI} {L : BqL} {P : BqP} {o : Nat} {S0 : BqH} {I0 : BqI} {L0 : BqL} {P0 : BqP} (h0 : BB o 1 (t0 2) S0 I0 L0 P0 S n I L P) : bq_Sp mX2_init 2 20 1 320 [.ref o] S n I L P (qB o 2 tb2 S0 I0 L0 P0) := by
  refine q_entry (vs := [some (.ref o)]) (by decide +kernel) (by simp) (Nat.le_of_ble_eq_true rfl) rfl ?_
  refine q_aload_n (pc := 0) dX2_init_0 rfl rfl ?_
  refine q_objInit (pc := 1) dX2_init_1 kX2_3 ⟨Nat.le_of_ble_eq_true rfl, Nat.le_of_ble_eq_true rfl⟩ ?_
  refine q_aload_n (pc := 4) dX2_init_4 rfl rfl ?_
  refine q_iconst (pc := 5) (v := nI 0) dX2_init_5 (by decide) ?_
  refine t_putI (M := mX2_init) (pc := 6) (d := 0) h0 dX2_init_6 (pX2_9 _) (by decide) rfl ⟨by decide, rfl⟩ (fun I1 h1 => ?_)
  refine q_aload_n (pc := 9) dX2_init_9 rfl rfl ?_
  refine q_sipush (pc := 10) (v := nI 320) dX2_init_10 (by decide) ?_
  refine t_newI (M := mX2_init) (kc := 0) (ks := 0) (len := 320) (pc := 13) h1 dX2_init_13 rfl (by decide) (fun S2 n2 I2 L2 P2 h2 => ?_)
  refine t_putP (M := mX2_init) (pc := 15) (d := 0) (t := 1) h2 dX2_init_15 pX2_15 (by decide) rfl ⟨by decide, rfl⟩ (fun P3 h3 => ?_)
  exact q_vret (st := []) (pc := 18) dX2_init_18 rfl ⟨rfl, h3⟩
def tb4_0 : BqTb := t0 4
def tb4_1 : BqTb := tI tb4_0 0 0 (nI 0)
def tb4_2 : BqTb := tI tb4_1 0 1 (nI 0)
def tb4_3 : BqTb := tI tb4_2 0 2 (nI 0)
def tb4_4 : BqTb := tI tb4_3 0 3 (nI 0)
def tb4_5 : BqTb := tI tb4_4 0 4 (nI 0)
def tb4_6 : BqTb := tI tb4_5 0 5 (nI 0)
def tb4_7 : BqTb := tI tb4_6 0 6 (nI 0)
def tb4_8 : BqTb := tI tb4_7 0 7 (nI 0)
def tb4 : BqTb := tb4_8
set_option maxHeartbeats 1200000 in
set_option maxRecDepth 20000 in
theorem c_init4 {S : BqH} {n : Nat} {I : BqI} {L : BqL} {P : BqP} {o : Nat} {S0 : BqH} {I0 : BqI} {L0 : BqL} {P0 : BqP} (h0 : BB o 1 (t0 4) S0 I0 L0 P0 S n I L P) : bq_Sp mX4_init 2 20 0 0 [.ref o] S n I L P (qB o 1 tb4 S0 I0 L0 P0) := by
  refine q_entry (vs := [some (.ref o)]) (by decide +kernel) (by simp) (Nat.le_of_ble_eq_true rfl) rfl ?_
  refine q_aload_n (pc := 0) dX4_init_0 rfl rfl ?_
  refine q_objInit (pc := 1) dX4_init_1 kX4_3 ⟨Nat.le_of_ble_eq_true rfl, Nat.le_of_ble_eq_true rfl⟩ ?_
  refine q_aload_n (pc := 4) dX4_init_4 rfl rfl ?_
  refine q_iconst (pc := 5) (v := nI 0) dX4_init_5 (by decide) ?_
  refine t_putI (M := mX4_init) (pc := 6) (d := 0) h0 dX4_init_6 (pX4_9 _) (by decide) rfl ⟨by decide, rfl⟩ (fun I1 h1 => ?_)
  refine q_aload_n (pc := 9) dX4_init_9 rfl rfl ?_
  refine q_iconst (pc := 10) (v := nI 0) dX4_init_10 (by decide) ?_
  refine t_putI (M := mX4_init) (pc := 11) (d := 0) h1 dX4_init_11 (pX4_15 _) (by decide) rfl ⟨by decide, rfl⟩ (fun I2 h2 => ?_)
  refine q_aload_n (pc := 14) dX4_init_14 rfl rfl ?_
  refine q_iconst (pc := 15) (v := nI 0) dX4_init_15 (by decide) ?_
  refine t_putI (M := mX4_init) (pc := 16) (d := 0) h2 dX4_init_16 (pX4_18 _) (by decide) rfl ⟨by decide, rfl⟩ (fun I3 h3 => ?_)
  refine q_aload_n (pc := 19) dX4_init_19 rfl rfl ?_
  refine q_iconst (pc := 20) (v := nI 0) dX4_init_20 (by decide) ?_
  refine t_putI (M := mX4_init) (pc := 21) (d := 0) h3 dX4_init_21 (pX4_21 _) (by decide) rfl ⟨by decide, rfl⟩ (fun I4 h4 => ?_)
  refine q_aload_n (pc := 24) dX4_init_24 rfl rfl ?_
  refine q_iconst (pc := 25) (v := nI 0) dX4_init_25 (by decide) ?_
  refine t_putI (M := mX4_init) (pc := 26) (d := 0) h4 dX4_init_26 (pX4_24 _) (by decide) rfl ⟨by decide, rfl⟩ (fun I5 h5 => ?_)
  refine q_aload_n (pc := 29) dX4_init_29 rfl rfl ?_
  refine q_iconst (pc := 30) (v := nI 0) dX4_init_30 (by decide) ?_
  refine t_putI (M := mX4_init) (pc := 31) (d := 0) h5 dX4_init_31 (pX4_27 _) (by decide) rfl ⟨by decide, rfl⟩ (fun I6 h6 => ?_)
  refine q_aload_n (pc := 34) dX4_init_34 rfl rfl ?_
  refine q_iconst (pc := 35) (v := nI 0) dX4_init_35 (by decide) ?_
  refine t_putI (M := mX4_init) (pc := 36) (d := 0) h6 dX4_init_36 (pX4_30 _) (by decide) rfl ⟨by decide, rfl⟩ (fun I7 h7 => ?_)
  refine q_aload_n (pc := 39) dX4_init_39 rfl rfl ?_
  refine q_iconst (pc := 40) (v := nI 0) dX4_init_40 (by decide) ?_
  refine t_putI (M := mX4_init) (pc := 41) (d := 0) h7 dX4_init_41 (pX4_33 _) (by decide) rfl ⟨by decide, rfl⟩ (fun I8 h8 => ?_)
  refine q_aload_n (pc := 44) dX4_init_44 rfl rfl ?_
  refine q_lconst (pc := 45) dX4_init_45 rfl ?_
  refine t_putL (M := mX4_init) (pc := 46) (d := 0) h8 dX4_init_46 (pX4_36 _) (by decide) rfl ⟨by decide, rfl⟩ rfl (fun L9 h9 => ?_)
  exact q_vret (st := []) (pc := 49) dX4_init_49 rfl ⟨rfl, h9⟩
def tb7_0 : BqTb := t0 7
def tb7_1 : BqTb := tI tb7_0 0 0 (nI 0)
def tb7_2 : BqTb := tI tb7_1 0 1 (nI 0)
def tb7_3 : BqTb := tI tb7_2 0 2 (nI 0)
def tb7 : BqTb := tb7_3
set_option maxHeartbeats 1000000 in
set_option maxRecDepth 20000 in
theorem c_init7 {S : BqH} {n : Nat} {I : BqI} {L : BqL} {P : BqP} {o : Nat} {S0 : BqH} {I0 : BqI} {L0 : BqL} {P0 : BqP} (h0 : BB o 1 (t0 7) S0 I0 L0 P0 S n I L P) : bq_Sp mX7_init 2 20 0 0 [.ref o] S n I L P (qB o 1 tb7 S0 I0 L0 P0) := by
  refine q_entry (vs := [some (.ref o)]) (by decide +kernel) (by simp) (Nat.le_of_ble_eq_true rfl) rfl ?_
  refine q_aload_n (pc := 0) dX7_init_0 rfl rfl ?_
  refine q_objInit (pc := 1) dX7_init_1 kX7_1 ⟨Nat.le_of_ble_eq_true rfl, Nat.le_of_ble_eq_true rfl⟩ ?_
  refine q_aload_n (pc := 4) dX7_init_4 rfl rfl ?_
  refine q_iconst (pc := 5) (v := nI 0) dX7_init_5 (by decide) ?_
  refine t_putI (M := mX7_init) (pc := 6) (d := 0) h0 dX7_init_6 (pX7_7 _) (by decide) rfl ⟨by decide, rfl⟩ (fun I1 h1 => ?_)
  refine q_aload_n (pc := 9) dX7_init_9 rfl rfl ?_
  refine q_iconst (pc := 10) (v := nI 0) dX7_init_10 (by decide) ?_
  refine t_putI (M := mX7_init) (pc := 11) (d := 0) h1 dX7_init_11 (pX7_13 _) (by decide) rfl ⟨by decide, rfl⟩ (fun I2 h2 => ?_)
  refine q_aload_n (pc := 14) dX7_init_14 rfl rfl ?_
  refine q_iconst (pc := 15) (v := nI 0) dX7_init_15 (by decide) ?_
  refine t_putI (M := mX7_init) (pc := 16) (d := 0) h2 dX7_init_16 (pX7_16 _) (by decide) rfl ⟨by decide, rfl⟩ (fun I3 h3 => ?_)
  exact q_vret (st := []) (pc := 19) dX7_init_19 rfl ⟨rfl, h3⟩
def tb6_0 : BqTb := t0 6
def tb6_1 : BqTb := tN tb6_0 1 (0, 0)
def tb6_2 : BqTb := tM tb6_0 1 tb0
def tb6_3 : BqTb := tP tb6_2 0 0 1
def tb6_4 : BqTb := tN tb6_3 3 (13, 16)
def tb6_5 : BqTb := tP tb6_4 0 1 3
def tb6 : BqTb := tb6_5
set_option maxHeartbeats 1000000 in
set_option maxRecDepth 20000 in
theorem c_init6 {S : BqH} {n : Nat} {I : BqI} {L : BqL} {P : BqP} {o : Nat} {S0 : BqH} {I0 : BqI} {L0 : BqL} {P0 : BqP} (h0 : BB o 1 (t0 6) S0 I0 L0 P0 S n I L P) : bq_Sp mX6_init 3 40 3 33 [.ref o] S n I L P (qB o 4 tb6 S0 I0 L0 P0) := by
  refine q_entry (vs := [some (.ref o)]) (by decide +kernel) (by simp) (Nat.le_of_ble_eq_true rfl) rfl ?_
  refine q_aload_n (pc := 0) dX6_init_0 rfl rfl ?_
  refine q_objInit (pc := 1) dX6_init_1 kX6_3 ⟨Nat.le_of_ble_eq_true rfl, Nat.le_of_ble_eq_true rfl⟩ ?_
  refine q_aload_n (pc := 4) dX6_init_4 rfl rfl ?_
  refine t_new (M := mX6_init) (kc := 2) (ks := 32) (pc := 5) h0 dX6_init_5 nX6_9 (by decide) (fun S1 n1 I1 L1 P1 h1 => ?_)
  refine q_dup (pc := 8) dX6_init_8 rfl ?_
  refine t_callJ (M := mX6_init) (kc := 1) (ks := 16) (kc' := 1) (ks' := 16) (pc := 9) h1 dX6_init_9 kX6_11 (c_init0 h1.in) ⟨Nat.le_of_ble_eq_true rfl, Nat.le_of_ble_eq_true rfl⟩ (Nat.le_of_ble_eq_true rfl) (fun S2 n2 I2 L2 P2 h2 => ?_)
  refine t_putP (M := mX6_init) (pc := 12) (d := 0) (t := 1) h2 dX6_init_12 pX6_12 (by decide) rfl ⟨by decide, rfl⟩ (fun P3 h3 => ?_)
  refine q_aload_n (pc := 15) dX6_init_15 rfl rfl ?_
  refine q_bipush (pc := 16) (v := nI 16) dX6_init_16 (by decide) ?_
  refine t_newI (M := mX6_init) (kc := 0) (ks := 0) (len := 16) (pc := 18) h3 dX6_init_18 rfl (by decide) (fun S4 n4 I4 L4 P4 h4 => ?_)
  refine t_putP (M := mX6_init) (pc := 20) (d := 0) (t := 3) h4 dX6_init_20 pX6_18 (by decide) rfl ⟨by decide, rfl⟩ (fun P5 h5 => ?_)
  exact q_vret (st := []) (pc := 23) dX6_init_23 rfl ⟨rfl, h5⟩
def tb9_0 : BqTb := t0 9
def tb9_1 : BqTb := tI tb9_0 0 0 (nI 1000)
def tb9_2 : BqTb := tI tb9_1 0 1 (nI 0)
def tb9_3 : BqTb := tI tb9_2 0 2 (nI 0)
def tb9_4 : BqTb := tN tb9_3 1 (0, 0)
def tb9_5 : BqTb := tM tb9_3 1 tb0
def tb9_6 : BqTb := tP tb9_5 0 3 1
def tb9 : BqTb := tb9_6
set_option maxHeartbeats 1000000 in
set_option maxRecDepth 20000 in
theorem c_init9 {S : BqH} {n : Nat} {I : BqI} {L : BqL} {P : BqP} {o : Nat} {S0 : BqH} {I0 : BqI} {L0 : BqL} {P0 : BqP} (h0 : BB o 1 (t0 9) S0 I0 L0 P0 S n I L P) : bq_Sp mX9_init 3 40 2 17 [.ref o] S n I L P (qB o 3 tb9 S0 I0 L0 P0) := by
  refine q_entry (vs := [some (.ref o)]) (by decide +kernel) (by simp) (Nat.le_of_ble_eq_true rfl) rfl ?_
  refine q_aload_n (pc := 0) dX9_init_0 rfl rfl ?_
  refine q_objInit (pc := 1) dX9_init_1 kX9_3 ⟨Nat.le_of_ble_eq_true rfl, Nat.le_of_ble_eq_true rfl⟩ ?_
  refine q_aload_n (pc := 4) dX9_init_4 rfl rfl ?_
  refine q_sipush (pc := 5) (v := nI 1000) dX9_init_5 (by decide) ?_
  refine t_putI (M := mX9_init) (pc := 8) (d := 0) h0 dX9_init_8 (pX9_9 _) (by decide) rfl ⟨by decide, rfl⟩ (fun I1 h1 => ?_)
  refine q_aload_n (pc := 11) dX9_init_11 rfl rfl ?_
  refine q_iconst (pc := 12) (v := nI 0) dX9_init_12 (by decide) ?_
  refine t_putI (M := mX9_init) (pc := 13) (d := 0) h1 dX9_init_13 (pX9_15 _) (by decide) rfl ⟨by decide, rfl⟩ (fun I2 h2 => ?_)
  refine q_aload_n (pc := 16) dX9_init_16 rfl rfl ?_
  refine q_iconst (pc := 17) (v := nI 0) dX9_init_17 (by decide) ?_
  refine t_putI (M := mX9_init) (pc := 18) (d := 0) h2 dX9_init_18 (pX9_18 _) (by decide) rfl ⟨by decide, rfl⟩ (fun I3 h3 => ?_)
  refine q_aload_n (pc := 21) dX9_init_21 rfl rfl ?_
  refine t_new (M := mX9_init) (kc := 1) (ks := 16) (pc := 22) h3 dX9_init_22 nX9_21 (by decide) (fun S4 n4 I4 L4 P4 h4 => ?_)
  refine q_dup (pc := 25) dX9_init_25 rfl ?_
  refine t_callJ (M := mX9_init) (kc := 0) (ks := 0) (kc' := 1) (ks' := 16) (pc := 26) h4 dX9_init_26 kX9_23 (c_init0 h4.in) ⟨Nat.le_of_ble_eq_true rfl, Nat.le_of_ble_eq_true rfl⟩ (Nat.le_of_ble_eq_true rfl) (fun S5 n5 I5 L5 P5 h5 => ?_)
  refine t_putP (M := mX9_init) (pc := 29) (d := 0) (t := 1) h5 dX9_init_29 pX9_24 (by decide) rfl ⟨by decide, rfl⟩ (fun P6 h6 => ?_)
  exact q_vret (st := []) (pc := 32) dX9_init_32 rfl ⟨rfl, h6⟩
def tb3_0 : BqTb := t0 3
def tb3_1 : BqTb := tN tb3_0 1 (6, 0)
def tb3_2 : BqTb := tM tb3_0 1 tb6
def tb3_3 : BqTb := tP tb3_2 0 0 1
def tb3 : BqTb := tb3_3
set_option maxHeartbeats 1000000 in
set_option maxRecDepth 20000 in
theorem c_init3 {S : BqH} {n : Nat} {I : BqI} {L : BqL} {P : BqP} {o : Nat} {S0 : BqH} {I0 : BqI} {L0 : BqL} {P0 : BqP} (h0 : BB o 1 (t0 3) S0 I0 L0 P0 S n I L P) : bq_Sp mX3_init 4 60 4 35 [.ref o] S n I L P (qB o 5 tb3 S0 I0 L0 P0) := by
  refine q_entry (vs := [some (.ref o)]) (by decide +kernel) (by simp) (Nat.le_of_ble_eq_true rfl) rfl ?_
  refine q_aload_n (pc := 0) dX3_init_0 rfl rfl ?_
  refine q_objInit (pc := 1) dX3_init_1 kX3_3 ⟨Nat.le_of_ble_eq_true rfl, Nat.le_of_ble_eq_true rfl⟩ ?_
  refine q_aload_n (pc := 4) dX3_init_4 rfl rfl ?_
  refine t_new (M := mX3_init) (kc := 3) (ks := 33) (pc := 5) h0 dX3_init_5 nX3_9 (by decide) (fun S1 n1 I1 L1 P1 h1 => ?_)
  refine q_dup (pc := 8) dX3_init_8 rfl ?_
  refine t_callJ (M := mX3_init) (kc := 0) (ks := 0) (kc' := 3) (ks' := 33) (pc := 9) h1 dX3_init_9 kX3_11 (c_init6 h1.in) ⟨Nat.le_of_ble_eq_true rfl, Nat.le_of_ble_eq_true rfl⟩ (Nat.le_of_ble_eq_true rfl) (fun S2 n2 I2 L2 P2 h2 => ?_)
  refine t_putP (M := mX3_init) (pc := 12) (d := 0) (t := 1) h2 dX3_init_12 pX3_12 (by decide) rfl ⟨by decide, rfl⟩ (fun P3 h3 => ?_)
  exact q_vret (st := []) (pc := 15) dX3_init_15 rfl ⟨rfl, h3⟩
def tb5_0 : BqTb := t0 5
def tb5_1 : BqTb := tI tb5_0 0 0 (nI 0)
def tb5_2 : BqTb := tN tb5_1 1 (13, 10)
def tb5_3 : BqTb := tP tb5_2 0 1 1
def tb5_4 : BqTb := tN tb5_3 2 (13, 10)
def tb5_5 : BqTb := tP tb5_4 0 2 2
def tb5_6 : BqTb := tI tb5_5 0 3 (nI 0)
def tb5_7 : BqTb := tN tb5_6 3 (13, 10)
def tb5_8 : BqTb := tP tb5_7 0 4 3
def tb5_9 : BqTb := tN tb5_8 4 (15, 6)
def tb5_10 : BqTb := tP tb5_9 0 5 4
def tb5_11 : BqTb := tN tb5_10 5 (6, 0)
def tb5_12 : BqTb := tM tb5_10 5 tb6
def tb5_13 : BqTb := tP tb5_12 0 6 5
def tb5_14 : BqTb := tN tb5_13 9 (0, 0)
def tb5_15 : BqTb := tM tb5_13 9 tb0
def tb5_16 : BqTb := tP tb5_15 4 0 9
def tb5_17 : BqTb := tN tb5_16 11 (0, 0)
def tb5_18 : BqTb := tM tb5_16 11 tb0
def tb5_19 : BqTb := tP tb5_18 4 1 11
def tb5_20 : BqTb := tN tb5_19 13 (0, 0)
def tb5_21 : BqTb := tM tb5_19 13 tb0
def tb5_22 : BqTb := tP tb5_21 4 2 13
def tb5_23 : BqTb := tN tb5_22 15 (0, 0)
def tb5_24 : BqTb := tM tb5_22 15 tb0
def tb5_25 : BqTb := tP tb5_24 4 3 15
def tb5_26 : BqTb := tN tb5_25 17 (0, 0)
def tb5_27 : BqTb := tM tb5_25 17 tb0
def tb5_28 : BqTb := tP tb5_27 4 4 17
def tb5_29 : BqTb := tN tb5_28 19 (0, 0)
def tb5_30 : BqTb := tM tb5_28 19 tb0
def tb5_31 : BqTb := tP tb5_30 4 5 19
def tb5 : BqTb := tb5_31
set_option maxHeartbeats 4560000 in
set_option maxRecDepth 20000 in
theorem c_init5 {S : BqH} {n : Nat} {I : BqI} {L : BqL} {P : BqP} {o : Nat} {S0 : BqH} {I0 : BqI} {L0 : BqL} {P0 : BqP} (h0 : BB o 1 (t0 5) S0 I0 L0 P0 S n I L P) : bq_Sp mX5_init 4 60 20 173 [.ref o] S n I L P (qB o 21 tb5 S0 I0 L0 P0) := by
  refine q_entry (vs := [some (.ref o), none]) (by decide +kernel) (by simp) (Nat.le_of_ble_eq_true rfl) rfl ?_
  refine q_aload_n (pc := 0) dX5_init_0 rfl rfl ?_
  refine q_objInit (pc := 1) dX5_init_1 kX5_3 ⟨Nat.le_of_ble_eq_true rfl, Nat.le_of_ble_eq_true rfl⟩ ?_
  refine q_aload_n (pc := 4) dX5_init_4 rfl rfl ?_
  refine q_iconst (pc := 5) (v := nI 0) dX5_init_5 (by decide) ?_
  refine t_putI (M := mX5_init) (pc := 6) (d := 0) h0 dX5_init_6 (pX5_9 _) (by decide) rfl ⟨by decide, rfl⟩ (fun I1 h1 => ?_)
  refine q_aload_n (pc := 9) dX5_init_9 rfl rfl ?_
  refine q_bipush (pc := 10) (v := nI 10) dX5_init_10 (by decide) ?_
  refine t_newI (M := mX5_init) (kc := 19) (ks := 163) (len := 10) (pc := 12) h1 dX5_init_12 rfl (by decide) (fun S2 n2 I2 L2 P2 h2 => ?_)
  refine t_putP (M := mX5_init) (pc := 14) (d := 0) (t := 1) h2 dX5_init_14 pX5_15 (by decide) rfl ⟨by decide, rfl⟩ (fun P3 h3 => ?_)
  refine q_aload_n (pc := 17) dX5_init_17 rfl rfl ?_
  refine q_bipush (pc := 18) (v := nI 10) dX5_init_18 (by decide) ?_
  refine t_newI (M := mX5_init) (kc := 18) (ks := 153) (len := 10) (pc := 20) h3 dX5_init_20 rfl (by decide) (fun S4 n4 I4 L4 P4 h4 => ?_)
  refine t_putP (M := mX5_init) (pc := 22) (d := 0) (t := 2) h4 dX5_init_22 pX5_19 (by decide) rfl ⟨by decide, rfl⟩ (fun P5 h5 => ?_)
  refine q_aload_n (pc := 25) dX5_init_25 rfl rfl ?_
  refine q_iconst (pc := 26) (v := nI 0) dX5_init_26 (by decide) ?_
  refine t_putI (M := mX5_init) (pc := 27) (d := 0) h5 dX5_init_27 (pX5_22 _) (by decide) rfl ⟨by decide, rfl⟩ (fun I6 h6 => ?_)
  refine q_aload_n (pc := 30) dX5_init_30 rfl rfl ?_
  refine q_bipush (pc := 31) (v := nI 10) dX5_init_31 (by decide) ?_
  refine t_newI (M := mX5_init) (kc := 17) (ks := 143) (len := 10) (pc := 33) h6 dX5_init_33 rfl (by decide) (fun S7 n7 I7 L7 P7 h7 => ?_)
  refine t_putP (M := mX5_init) (pc := 35) (d := 0) (t := 3) h7 dX5_init_35 pX5_25 (by decide) rfl ⟨by decide, rfl⟩ (fun P8 h8 => ?_)
  refine q_aload_n (pc := 38) dX5_init_38 rfl rfl ?_
  refine q_bipush (pc := 39) (v := nI 6) dX5_init_39 (by decide) ?_
  refine t_newq (M := mX5_init) (kc := 16) (ks := 137) (len := 6) (kd := 15) (pc := 41) h8 dX5_init_41 qX5_28 (by decide) (by decide) rfl rfl (by decide) (fun S9 n9 I9 L9 P9 h9 => ?_)
  refine t_putP (M := mX5_init) (pc := 44) (d := 0) (t := 4) h9 dX5_init_44 pX5_30 (by decide) rfl ⟨by decide, rfl⟩ (fun P10 h10 => ?_)
  refine q_aload_n (pc := 47) dX5_init_47 rfl rfl ?_
  refine t_new (M := mX5_init) (kc := 15) (ks := 135) (pc := 48) h10 dX5_init_48 nX5_34 (by decide) (fun S11 n11 I11 L11 P11 h11 => ?_)
  refine q_dup (pc := 51) dX5_init_51 rfl ?_
  refine t_callJ (M := mX5_init) (kc := 12) (ks := 102) (kc' := 3) (ks' := 33) (pc := 52) h11 dX5_init_52 kX5_36 (c_init6 h11.in) ⟨Nat.le_of_ble_eq_true rfl, Nat.le_of_ble_eq_true rfl⟩ (Nat.le_of_ble_eq_true rfl) (fun S12 n12 I12 L12 P12 h12 => ?_)
  refine t_putP (M := mX5_init) (pc := 55) (d := 0) (t := 5) h12 dX5_init_55 pX5_37 (by decide) rfl ⟨by decide, rfl⟩ (fun P13 h13 => ?_)
  refine q_iconst (pc := 58) (v := nI 0) dX5_init_58 (by decide) ?_
  refine q_istore_n (pc := 59) dX5_init_59 rfl (Nat.le_of_ble_eq_true rfl) rfl ?_
  show bq_W _ _ _ _ _ 60 [_, _] _ _ _ _ _ _ _
  refine q_iload_n (pc := 60) dX5_init_60 rfl rfl ?_
  refine q_bipush (pc := 61) (v := nI 6) dX5_init_61 (by decide) ?_
  refine q_icmp_ge (pc := 63) 85 dX5_init_63 (by decide) (fun c_63 => absurd c_63 (by decide)) (fun c_63 => ?_)
  refine q_aload_n (pc := 66) dX5_init_66 rfl rfl ?_
  refine t_getP (M := mX5_init) (pc := 67) (d := 0) (t := 4) h13 dX5_init_67 fX5_30 (by decide) rfl ⟨by decide, rfl⟩ rfl ?_
  refine q_iload_n (pc := 70) dX5_init_70 rfl rfl ?_
  refine t_new (M := mX5_init) (kc := 11) (ks := 101) (pc := 71) h13 dX5_init_71 nX5_28 (by decide) (fun S14 n14 I14 L14 P14 h14 => ?_)
  refine q_dup (pc := 74) dX5_init_74 rfl ?_
  refine t_callJ (M := mX5_init) (kc := 10) (ks := 85) (kc' := 1) (ks' := 16) (pc := 75) h14 dX5_init_75 kX5_41 (c_init0 h14.in) ⟨Nat.le_of_ble_eq_true rfl, Nat.le_of_ble_eq_true rfl⟩ (Nat.le_of_ble_eq_true rfl) (fun S15 n15 I15 L15 P15 h15 => ?_)
  refine t_aast (M := mX5_init) (pc := 78) (d := 4) (j := 0) (t := 9) h15 dX5_init_78 (by decide) rfl (by decide) rfl (by decide) (by decide) rfl (fun P16 h16 => ?_)
  refine q_iinc (pc := 79) (v := nI 1) dX5_init_79 rfl (bq_inc _) (Nat.le_of_ble_eq_true rfl) rfl ?_
  show bq_W _ _ _ _ _ 82 [_, _] _ _ _ _ _ _ _
  refine q_goto (pc := 82) 60 dX5_init_82 (by decide) ?_
  refine q_iload_n (pc := 60) dX5_init_60 rfl rfl ?_
  refine q_bipush (pc := 61) (v := nI 6) dX5_init_61 (by decide) ?_
  refine q_icmp_ge (pc := 63) 85 dX5_init_63 (by decide) (fun c_63 => absurd c_63 (by decide)) (fun c_63 => ?_)
  refine q_aload_n (pc := 66) dX5_init_66 rfl rfl ?_
  refine t_getP (M := mX5_init) (pc := 67) (d := 0) (t := 4) h16 dX5_init_67 fX5_30 (by decide) rfl ⟨by decide, rfl⟩ rfl ?_
  refine q_iload_n (pc := 70) dX5_init_70 rfl rfl ?_
  refine t_new (M := mX5_init) (kc := 9) (ks := 84) (pc := 71) h16 dX5_init_71 nX5_28 (by decide) (fun S17 n17 I17 L17 P17 h17 => ?_)
  refine q_dup (pc := 74) dX5_init_74 rfl ?_
  refine t_callJ (M := mX5_init) (kc := 8) (ks := 68) (kc' := 1) (ks' := 16) (pc := 75) h17 dX5_init_75 kX5_41 (c_init0 h17.in) ⟨Nat.le_of_ble_eq_true rfl, Nat.le_of_ble_eq_true rfl⟩ (Nat.le_of_ble_eq_true rfl) (fun S18 n18 I18 L18 P18 h18 => ?_)
  refine t_aast (M := mX5_init) (pc := 78) (d := 4) (j := 1) (t := 11) h18 dX5_init_78 (by decide) rfl (by decide) rfl (by decide) (by decide) rfl (fun P19 h19 => ?_)
  refine q_iinc (pc := 79) (v := nI 2) dX5_init_79 rfl (bq_inc _) (Nat.le_of_ble_eq_true rfl) rfl ?_
  show bq_W _ _ _ _ _ 82 [_, _] _ _ _ _ _ _ _
  refine q_goto (pc := 82) 60 dX5_init_82 (by decide) ?_
  refine q_iload_n (pc := 60) dX5_init_60 rfl rfl ?_
  refine q_bipush (pc := 61) (v := nI 6) dX5_init_61 (by decide) ?_
  refine q_icmp_ge (pc := 63) 85 dX5_init_63 (by decide) (fun c_63 => absurd c_63 (by decide)) (fun c_63 => ?_)
  refine q_aload_n (pc := 66) dX5_init_66 rfl rfl ?_
  refine t_getP (M := mX5_init) (pc := 67) (d := 0) (t := 4) h19 dX5_init_67 fX5_30 (by decide) rfl ⟨by decide, rfl⟩ rfl ?_
  refine q_iload_n (pc := 70) dX5_init_70 rfl rfl ?_
  refine t_new (M := mX5_init) (kc := 7) (ks := 67) (pc := 71) h19 dX5_init_71 nX5_28 (by decide) (fun S20 n20 I20 L20 P20 h20 => ?_)
  refine q_dup (pc := 74) dX5_init_74 rfl ?_
  refine t_callJ (M := mX5_init) (kc := 6) (ks := 51) (kc' := 1) (ks' := 16) (pc := 75) h20 dX5_init_75 kX5_41 (c_init0 h20.in) ⟨Nat.le_of_ble_eq_true rfl, Nat.le_of_ble_eq_true rfl⟩ (Nat.le_of_ble_eq_true rfl) (fun S21 n21 I21 L21 P21 h21 => ?_)
  refine t_aast (M := mX5_init) (pc := 78) (d := 4) (j := 2) (t := 13) h21 dX5_init_78 (by decide) rfl (by decide) rfl (by decide) (by decide) rfl (fun P22 h22 => ?_)
  refine q_iinc (pc := 79) (v := nI 3) dX5_init_79 rfl (bq_inc _) (Nat.le_of_ble_eq_true rfl) rfl ?_
  show bq_W _ _ _ _ _ 82 [_, _] _ _ _ _ _ _ _
  refine q_goto (pc := 82) 60 dX5_init_82 (by decide) ?_
  refine q_iload_n (pc := 60) dX5_init_60 rfl rfl ?_
  refine q_bipush (pc := 61) (v := nI 6) dX5_init_61 (by decide) ?_
  refine q_icmp_ge (pc := 63) 85 dX5_init_63 (by decide) (fun c_63 => absurd c_63 (by decide)) (fun c_63 => ?_)
  refine q_aload_n (pc := 66) dX5_init_66 rfl rfl ?_
  refine t_getP (M := mX5_init) (pc := 67) (d := 0) (t := 4) h22 dX5_init_67 fX5_30 (by decide) rfl ⟨by decide, rfl⟩ rfl ?_
  refine q_iload_n (pc := 70) dX5_init_70 rfl rfl ?_
  refine t_new (M := mX5_init) (kc := 5) (ks := 50) (pc := 71) h22 dX5_init_71 nX5_28 (by decide) (fun S23 n23 I23 L23 P23 h23 => ?_)
  refine q_dup (pc := 74) dX5_init_74 rfl ?_
  refine t_callJ (M := mX5_init) (kc := 4) (ks := 34) (kc' := 1) (ks' := 16) (pc := 75) h23 dX5_init_75 kX5_41 (c_init0 h23.in) ⟨Nat.le_of_ble_eq_true rfl, Nat.le_of_ble_eq_true rfl⟩ (Nat.le_of_ble_eq_true rfl) (fun S24 n24 I24 L24 P24 h24 => ?_)
  refine t_aast (M := mX5_init) (pc := 78) (d := 4) (j := 3) (t := 15) h24 dX5_init_78 (by decide) rfl (by decide) rfl (by decide) (by decide) rfl (fun P25 h25 => ?_)
  refine q_iinc (pc := 79) (v := nI 4) dX5_init_79 rfl (bq_inc _) (Nat.le_of_ble_eq_true rfl) rfl ?_
  show bq_W _ _ _ _ _ 82 [_, _] _ _ _ _ _ _ _
  refine q_goto (pc := 82) 60 dX5_init_82 (by decide) ?_
  refine q_iload_n (pc := 60) dX5_init_60 rfl rfl ?_
  refine q_bipush (pc := 61) (v := nI 6) dX5_init_61 (by decide) ?_
  refine q_icmp_ge (pc := 63) 85 dX5_init_63 (by decide) (fun c_63 => absurd c_63 (by decide)) (fun c_63 => ?_)
  refine q_aload_n (pc := 66) dX5_init_66 rfl rfl ?_
  refine t_getP (M := mX5_init) (pc := 67) (d := 0) (t := 4) h25 dX5_init_67 fX5_30 (by decide) rfl ⟨by decide, rfl⟩ rfl ?_
  refine q_iload_n (pc := 70) dX5_init_70 rfl rfl ?_
  refine t_new (M := mX5_init) (kc := 3) (ks := 33) (pc := 71) h25 dX5_init_71 nX5_28 (by decide) (fun S26 n26 I26 L26 P26 h26 => ?_)
  refine q_dup (pc := 74) dX5_init_74 rfl ?_
  refine t_callJ (M := mX5_init) (kc := 2) (ks := 17) (kc' := 1) (ks' := 16) (pc := 75) h26 dX5_init_75 kX5_41 (c_init0 h26.in) ⟨Nat.le_of_ble_eq_true rfl, Nat.le_of_ble_eq_true rfl⟩ (Nat.le_of_ble_eq_true rfl) (fun S27 n27 I27 L27 P27 h27 => ?_)
  refine t_aast (M := mX5_init) (pc := 78) (d := 4) (j := 4) (t := 17) h27 dX5_init_78 (by decide) rfl (by decide) rfl (by decide) (by decide) rfl (fun P28 h28 => ?_)
  refine q_iinc (pc := 79) (v := nI 5) dX5_init_79 rfl (bq_inc _) (Nat.le_of_ble_eq_true rfl) rfl ?_
  show bq_W _ _ _ _ _ 82 [_, _] _ _ _ _ _ _ _
  refine q_goto (pc := 82) 60 dX5_init_82 (by decide) ?_
  refine q_iload_n (pc := 60) dX5_init_60 rfl rfl ?_
  refine q_bipush (pc := 61) (v := nI 6) dX5_init_61 (by decide) ?_
  refine q_icmp_ge (pc := 63) 85 dX5_init_63 (by decide) (fun c_63 => absurd c_63 (by decide)) (fun c_63 => ?_)
  refine q_aload_n (pc := 66) dX5_init_66 rfl rfl ?_
  refine t_getP (M := mX5_init) (pc := 67) (d := 0) (t := 4) h28 dX5_init_67 fX5_30 (by decide) rfl ⟨by decide, rfl⟩ rfl ?_
  refine q_iload_n (pc := 70) dX5_init_70 rfl rfl ?_
  refine t_new (M := mX5_init) (kc := 1) (ks := 16) (pc := 71) h28 dX5_init_71 nX5_28 (by decide) (fun S29 n29 I29 L29 P29 h29 => ?_)
  refine q_dup (pc := 74) dX5_init_74 rfl ?_
  refine t_callJ (M := mX5_init) (kc := 0) (ks := 0) (kc' := 1) (ks' := 16) (pc := 75) h29 dX5_init_75 kX5_41 (c_init0 h29.in) ⟨Nat.le_of_ble_eq_true rfl, Nat.le_of_ble_eq_true rfl⟩ (Nat.le_of_ble_eq_true rfl) (fun S30 n30 I30 L30 P30 h30 => ?_)
  refine t_aast (M := mX5_init) (pc := 78) (d := 4) (j := 5) (t := 19) h30 dX5_init_78 (by decide) rfl (by decide) rfl (by decide) (by decide) rfl (fun P31 h31 => ?_)
  refine q_iinc (pc := 79) (v := nI 6) dX5_init_79 rfl (bq_inc _) (Nat.le_of_ble_eq_true rfl) rfl ?_
  show bq_W _ _ _ _ _ 82 [_, _] _ _ _ _ _ _ _
  refine q_goto (pc := 82) 60 dX5_init_82 (by decide) ?_
  refine q_iload_n (pc := 60) dX5_init_60 rfl rfl ?_
  refine q_bipush (pc := 61) (v := nI 6) dX5_init_61 (by decide) ?_
  refine q_icmp_ge (pc := 63) 85 dX5_init_63 (by decide) (fun c_63 => ?_) (fun c_63 => absurd (by decide) c_63)
  exact q_vret (st := []) (pc := 85) dX5_init_85 rfl ⟨rfl, h31⟩
def tb10_0 : BqTb := t0 10
def tb10_1 : BqTb := tI tb10_0 0 0 (nI 0)
def tb10_2 : BqTb := tN tb10_1 1 (13, 60)
def tb10_3 : BqTb := tP tb10_2 0 1 1
def tb10_4 : BqTb := tI tb10_3 0 2 (nI 0)
def tb10_5 : BqTb := tI tb10_4 0 3 (nI 0)
def tb10_6 : BqTb := tI tb10_5 0 4 (nI 0)
def tb10_7 : BqTb := tN tb10_6 2 (16, 20)
def tb10_8 : BqTb := tP tb10_7 0 5 2
def tb10_9 : BqTb := tN tb10_8 3 (1, 0)
def tb10_10 : BqTb := tM tb10_8 3 tb1
def tb10_11 : BqTb := tP tb10_10 2 0 3
def tb10_12 : BqTb := tN tb10_11 4 (1, 0)
def tb10_13 : BqTb := tM tb10_11 4 tb1
def tb10_14 : BqTb := tP tb10_13 2 1 4
def tb10_15 : BqTb := tN tb10_14 5 (1, 0)
def tb10_16 : BqTb := tM tb10_14 5 tb1
def tb10_17 : BqTb := tP tb10_16 2 2 5
def tb10_18 : BqTb := tN tb10_17 6 (1, 0)
def tb10_19 : BqTb := tM tb10_17 6 tb1
def tb10_20 : BqTb := tP tb10_19 2 3 6
def tb10_21 : BqTb := tN tb10_20 7 (1, 0)
def tb10_22 : BqTb := tM tb10_20 7 tb1
def tb10_23 : BqTb := tP tb10_22 2 4 7
def tb10_24 : BqTb := tN tb10_23 8 (1, 0)
def tb10_25 : BqTb := tM tb10_23 8 tb1
def tb10_26 : BqTb := tP tb10_25 2 5 8
def tb10_27 : BqTb := tN tb10_26 9 (1, 0)
def tb10_28 : BqTb := tM tb10_26 9 tb1
def tb10_29 : BqTb := tP tb10_28 2 6 9
def tb10_30 : BqTb := tN tb10_29 10 (1, 0)
def tb10_31 : BqTb := tM tb10_29 10 tb1
def tb10_32 : BqTb := tP tb10_31 2 7 10
def tb10_33 : BqTb := tN tb10_32 11 (1, 0)
def tb10_34 : BqTb := tM tb10_32 11 tb1
def tb10_35 : BqTb := tP tb10_34 2 8 11
def tb10_36 : BqTb := tN tb10_35 12 (1, 0)
def tb10_37 : BqTb := tM tb10_35 12 tb1
def tb10_38 : BqTb := tP tb10_37 2 9 12
def tb10_39 : BqTb := tN tb10_38 13 (1, 0)
def tb10_40 : BqTb := tM tb10_38 13 tb1
def tb10_41 : BqTb := tP tb10_40 2 10 13
def tb10_42 : BqTb := tN tb10_41 14 (1, 0)
def tb10_43 : BqTb := tM tb10_41 14 tb1
def tb10_44 : BqTb := tP tb10_43 2 11 14
def tb10_45 : BqTb := tN tb10_44 15 (1, 0)
def tb10_46 : BqTb := tM tb10_44 15 tb1
def tb10_47 : BqTb := tP tb10_46 2 12 15
def tb10_48 : BqTb := tN tb10_47 16 (1, 0)
def tb10_49 : BqTb := tM tb10_47 16 tb1
def tb10_50 : BqTb := tP tb10_49 2 13 16
def tb10_51 : BqTb := tN tb10_50 17 (1, 0)
def tb10_52 : BqTb := tM tb10_50 17 tb1
def tb10_53 : BqTb := tP tb10_52 2 14 17
def tb10_54 : BqTb := tN tb10_53 18 (1, 0)
def tb10_55 : BqTb := tM tb10_53 18 tb1
def tb10_56 : BqTb := tP tb10_55 2 15 18
def tb10_57 : BqTb := tN tb10_56 19 (1, 0)
def tb10_58 : BqTb := tM tb10_56 19 tb1
def tb10_59 : BqTb := tP tb10_58 2 16 19
def tb10_60 : BqTb := tN tb10_59 20 (1, 0)
def tb10_61 : BqTb := tM tb10_59 20 tb1
def tb10_62 : BqTb := tP tb10_61 2 17 20
def tb10_63 : BqTb := tN tb10_62 21 (1, 0)
def tb10_64 : BqTb := tM tb10_62 21 tb1
def tb10_65 : BqTb := tP tb10_64 2 18 21
def tb10_66 : BqTb := tN tb10_65 22 (1, 0)
def tb10_67 : BqTb := tM tb10_65 22 tb1
def tb10_68 : BqTb := tP tb10_67 2 19 22
def tb10 : BqTb := tb10_68
set_option maxHeartbeats 11560000 in
set_option maxRecDepth 20000 in
theorem c_init10 {S : BqH} {n : Nat} {I : BqI} {L : BqL} {P : BqP} {o : Nat} {S0 : BqH} {I0 : BqI} {L0 : BqL} {P0 : BqP} (h0 : BB o 1 (t0 10) S0 I0 L0 P0 S n I L P) : bq_Sp mX10_init 3 40 22 160 [.ref o] S n I L P (qB o 23 tb10 S0 I0 L0 P0) := by
  refine q_entry (vs := [some (.ref o), none]) (by decide +kernel) (by simp) (Nat.le_of_ble_eq_true rfl) rfl ?_
  refine q_aload_n (pc := 0) dX10_init_0 rfl rfl ?_
  refine q_objInit (pc := 1) dX10_init_1 kX10_3 ⟨Nat.le_of_ble_eq_true rfl, Nat.le_of_ble_eq_true rfl⟩ ?_
  refine q_aload_n (pc := 4) dX10_init_4 rfl rfl ?_
  refine q_iconst (pc := 5) (v := nI 0) dX10_init_5 (by decide) ?_
  refine t_putI (M := mX10_init) (pc := 6) (d := 0) h0 dX10_init_6 (pX10_9 _) (by decide) rfl ⟨by decide, rfl⟩ (fun I1 h1 => ?_)
  refine q_aload_n (pc := 9) dX10_init_9 rfl rfl ?_
  refine q_bipush (pc := 10) (v := nI 60) dX10_init_10 (by decide) ?_
  refine t_newI (M := mX10_init) (kc := 21) (ks := 100) (len := 60) (pc := 12) h1 dX10_init_12 rfl (by decide) (fun S2 n2 I2 L2 P2 h2 => ?_)
  refine t_putP (M := mX10_init) (pc := 14) (d := 0) (t := 1) h2 dX10_init_14 pX10_15 (by decide) rfl ⟨by decide, rfl⟩ (fun P3 h3 => ?_)
  refine q_aload_n (pc := 17) dX10_init_17 rfl rfl ?_
  refine q_iconst (pc := 18) (v := nI 0) dX10_init_18 (by decide) ?_
  refine t_putI (M := mX10_init) (pc := 19) (d := 0) h3 dX10_init_19 (pX10_19 _) (by decide) rfl ⟨by decide, rfl⟩ (fun I4 h4 => ?_)
  refine q_aload_n (pc := 22) dX10_init_22 rfl rfl ?_
  refine q_iconst (pc := 23) (v := nI 0) dX10_init_23 (by decide) ?_
  refine t_putZ (M := mX10_init) (pc := 24) (d := 0) h4 dX10_init_24 (pX10_22 _) (by decide) rfl ⟨by decide, rfl⟩ (by decide) (fun I5 h5 => ?_)
  refine q_aload_n (pc := 27) dX10_init_27 rfl rfl ?_
  refine q_iconst (pc := 28) (v := nI 0) dX10_init_28 (by decide) ?_
  refine t_putI (M := mX10_init) (pc := 29) (d := 0) h5 dX10_init_29 (pX10_26 _) (by decide) rfl ⟨by decide, rfl⟩ (fun I6 h6 => ?_)
  refine q_aload_n (pc := 32) dX10_init_32 rfl rfl ?_
  refine q_bipush (pc := 33) (v := nI 20) dX10_init_33 (by decide) ?_
  refine t_newq (M := mX10_init) (kc := 20) (ks := 80) (len := 20) (kd := 16) (pc := 35) h6 dX10_init_35 qX10_29 (by decide) (by decide) rfl rfl (by decide) (fun S7 n7 I7 L7 P7 h7 => ?_)
  refine t_putP (M := mX10_init) (pc := 38) (d := 0) (t := 2) h7 dX10_init_38 pX10_31 (by decide) rfl ⟨by decide, rfl⟩ (fun P8 h8 => ?_)
  refine q_iconst (pc := 41) (v := nI 0) dX10_init_41 (by decide) ?_
  refine q_istore_n (pc := 42) dX10_init_42 rfl (Nat.le_of_ble_eq_true rfl) rfl ?_
  show bq_W _ _ _ _ _ 43 [_, _] _ _ _ _ _ _ _
  refine q_iload_n (pc := 43) dX10_init_43 rfl rfl ?_
  refine q_bipush (pc := 44) (v := nI 20) dX10_init_44 (by decide) ?_
  refine q_icmp_ge (pc := 46) 68 dX10_init_46 (by decide) (fun c_46 => absurd c_46 (by decide)) (fun c_46 => ?_)
  refine q_aload_n (pc := 49) dX10_init_49 rfl rfl ?_
  refine t_getP (M := mX10_init) (pc := 50) (d := 0) (t := 2) h8 dX10_init_50 fX10_31 (by decide) rfl ⟨by decide, rfl⟩ rfl ?_
  refine q_iload_n (pc := 53) dX10_init_53 rfl rfl ?_
  refine t_new (M := mX10_init) (kc := 19) (ks := 76) (pc := 54) h8 dX10_init_54 nX10_29 (by decide) (fun S9 n9 I9 L9 P9 h9 => ?_)
  refine q_dup (pc := 57) dX10_init_57 rfl ?_
  refine t_callJ (M := mX10_init) (kc := 19) (ks := 76) (kc' := 0) (ks' := 0) (pc := 58) h9 dX10_init_58 kX10_35 (c_init1 h9.in) ⟨Nat.le_of_ble_eq_true rfl, Nat.le_of_ble_eq_true rfl⟩ (Nat.le_of_ble_eq_true rfl) (fun S10 n10 I10 L10 P10 h10 => ?_)
  refine t_aast (M := mX10_init) (pc := 61) (d := 2) (j := 0) (t := 3) h10 dX10_init_61 (by decide) rfl (by decide) rfl (by decide) (by decide) rfl (fun P11 h11 => ?_)
  refine q_iinc (pc := 62) (v := nI 1) dX10_init_62 rfl (bq_inc _) (Nat.le_of_ble_eq_true rfl) rfl ?_
  show bq_W _ _ _ _ _ 65 [_, _] _ _ _ _ _ _ _
  refine q_goto (pc := 65) 43 dX10_init_65 (by decide) ?_
  refine q_iload_n (pc := 43) dX10_init_43 rfl rfl ?_
  refine q_bipush (pc := 44) (v := nI 20) dX10_init_44 (by decide) ?_
  refine q_icmp_ge (pc := 46) 68 dX10_init_46 (by decide) (fun c_46 => absurd c_46 (by decide)) (fun c_46 => ?_)
  refine q_aload_n (pc := 49) dX10_init_49 rfl rfl ?_
  refine t_getP (M := mX10_init) (pc := 50) (d := 0) (t := 2) h11 dX10_init_50 fX10_31 (by decide) rfl ⟨by decide, rfl⟩ rfl ?_
  refine q_iload_n (pc := 53) dX10_init_53 rfl rfl ?_
  refine t_new (M := mX10_init) (kc := 18) (ks := 72) (pc := 54) h11 dX10_init_54 nX10_29 (by decide) (fun S12 n12 I12 L12 P12 h12 => ?_)
  refine q_dup (pc := 57) dX10_init_57 rfl ?_
  refine t_callJ (M := mX10_init) (kc := 18) (ks := 72) (kc' := 0) (ks' := 0) (pc := 58) h12 dX10_init_58 kX10_35 (c_init1 h12.in) ⟨Nat.le_of_ble_eq_true rfl, Nat.le_of_ble_eq_true rfl⟩ (Nat.le_of_ble_eq_true rfl) (fun S13 n13 I13 L13 P13 h13 => ?_)
  refine t_aast (M := mX10_init) (pc := 61) (d := 2) (j := 1) (t := 4) h13 dX10_init_61 (by decide) rfl (by decide) rfl (by decide) (by decide) rfl (fun P14 h14 => ?_)
  refine q_iinc (pc := 62) (v := nI 2) dX10_init_62 rfl (bq_inc _) (Nat.le_of_ble_eq_true rfl) rfl ?_
  show bq_W _ _ _ _ _ 65 [_, _] _ _ _ _ _ _ _
  refine q_goto (pc := 65) 43 dX10_init_65 (by decide) ?_
  refine q_iload_n (pc := 43) dX10_init_43 rfl rfl ?_
  refine q_bipush (pc := 44) (v := nI 20) dX10_init_44 (by decide) ?_
  refine q_icmp_ge (pc := 46) 68 dX10_init_46 (by decide) (fun c_46 => absurd c_46 (by decide)) (fun c_46 => ?_)
  refine q_aload_n (pc := 49) dX10_init_49 rfl rfl ?_
  refine t_getP (M := mX10_init) (pc := 50) (d := 0) (t := 2) h14 dX10_init_50 fX10_31 (by decide) rfl ⟨by decide, rfl⟩ rfl ?_
  refine q_iload_n (pc := 53) dX10_init_53 rfl rfl ?_
  refine t_new (M := mX10_init) (kc := 17) (ks := 68) (pc := 54) h14 dX10_init_54 nX10_29 (by decide) (fun S15 n15 I15 L15 P15 h15 => ?_)
  refine q_dup (pc := 57) dX10_init_57 rfl ?_
  refine t_callJ (M := mX10_init) (kc := 17) (ks := 68) (kc' := 0) (ks' := 0) (pc := 58) h15 dX10_init_58 kX10_35 (c_init1 h15.in) ⟨Nat.le_of_ble_eq_true rfl, Nat.le_of_ble_eq_true rfl⟩ (Nat.le_of_ble_eq_true rfl) (fun S16 n16 I16 L16 P16 h16 => ?_)
  refine t_aast (M := mX10_init) (pc := 61) (d := 2) (j := 2) (t := 5) h16 dX10_init_61 (by decide) rfl (by decide) rfl (by decide) (by decide) rfl (fun P17 h17 => ?_)
  refine q_iinc (pc := 62) (v := nI 3) dX10_init_62 rfl (bq_inc _) (Nat.le_of_ble_eq_true rfl) rfl ?_
  show bq_W _ _ _ _ _ 65 [_, _] _ _ _ _ _ _ _
  refine q_goto (pc := 65) 43 dX10_init_65 (by decide) ?_
  refine q_iload_n (pc := 43) dX10_init_43 rfl rfl ?_
  refine q_bipush (pc := 44) (v := nI 20) dX10_init_44 (by decide) ?_
  refine q_icmp_ge (pc := 46) 68 dX10_init_46 (by decide) (fun c_46 => absurd c_46 (by decide)) (fun c_46 => ?_)
  refine q_aload_n (pc := 49) dX10_init_49 rfl rfl ?_
  refine t_getP (M := mX10_init) (pc := 50) (d := 0) (t := 2) h17 dX10_init_50 fX10_31 (by decide) rfl ⟨by decide, rfl⟩ rfl ?_
  refine q_iload_n (pc := 53) dX10_init_53 rfl rfl ?_
  refine t_new (M := mX10_init) (kc := 16) (ks := 64) (pc := 54) h17 dX10_init_54 nX10_29 (by decide) (fun S18 n18 I18 L18 P18 h18 => ?_)
  refine q_dup (pc := 57) dX10_init_57 rfl ?_
  refine t_callJ (M := mX10_init) (kc := 16) (ks := 64) (kc' := 0) (ks' := 0) (pc := 58) h18 dX10_init_58 kX10_35 (c_init1 h18.in) ⟨Nat.le_of_ble_eq_true rfl, Nat.le_of_ble_eq_true rfl⟩ (Nat.le_of_ble_eq_true rfl) (fun S19 n19 I19 L19 P19 h19 => ?_)
  refine t_aast (M := mX10_init) (pc := 61) (d := 2) (j := 3) (t := 6) h19 dX10_init_61 (by decide) rfl (by decide) rfl (by decide) (by decide) rfl (fun P20 h20 => ?_)
  refine q_iinc (pc := 62) (v := nI 4) dX10_init_62 rfl (bq_inc _) (Nat.le_of_ble_eq_true rfl) rfl ?_
  show bq_W _ _ _ _ _ 65 [_, _] _ _ _ _ _ _ _
  refine q_goto (pc := 65) 43 dX10_init_65 (by decide) ?_
  refine q_iload_n (pc := 43) dX10_init_43 rfl rfl ?_
  refine q_bipush (pc := 44) (v := nI 20) dX10_init_44 (by decide) ?_
  refine q_icmp_ge (pc := 46) 68 dX10_init_46 (by decide) (fun c_46 => absurd c_46 (by decide)) (fun c_46 => ?_)
  refine q_aload_n (pc := 49) dX10_init_49 rfl rfl ?_
  refine t_getP (M := mX10_init) (pc := 50) (d := 0) (t := 2) h20 dX10_init_50 fX10_31 (by decide) rfl ⟨by decide, rfl⟩ rfl ?_
  refine q_iload_n (pc := 53) dX10_init_53 rfl rfl ?_
  refine t_new (M := mX10_init) (kc := 15) (ks := 60) (pc := 54) h20 dX10_init_54 nX10_29 (by decide) (fun S21 n21 I21 L21 P21 h21 => ?_)
  refine q_dup (pc := 57) dX10_init_57 rfl ?_
  refine t_callJ (M := mX10_init) (kc := 15) (ks := 60) (kc' := 0) (ks' := 0) (pc := 58) h21 dX10_init_58 kX10_35 (c_init1 h21.in) ⟨Nat.le_of_ble_eq_true rfl, Nat.le_of_ble_eq_true rfl⟩ (Nat.le_of_ble_eq_true rfl) (fun S22 n22 I22 L22 P22 h22 => ?_)
  refine t_aast (M := mX10_init) (pc := 61) (d := 2) (j := 4) (t := 7) h22 dX10_init_61 (by decide) rfl (by decide) rfl (by decide) (by decide) rfl (fun P23 h23 => ?_)
  refine q_iinc (pc := 62) (v := nI 5) dX10_init_62 rfl (bq_inc _) (Nat.le_of_ble_eq_true rfl) rfl ?_
  show bq_W _ _ _ _ _ 65 [_, _] _ _ _ _ _ _ _
  refine q_goto (pc := 65) 43 dX10_init_65 (by decide) ?_
  refine q_iload_n (pc := 43) dX10_init_43 rfl rfl ?_
  refine q_bipush (pc := 44) (v := nI 20) dX10_init_44 (by decide) ?_
  refine q_icmp_ge (pc := 46) 68 dX10_init_46 (by decide) (fun c_46 => absurd c_46 (by decide)) (fun c_46 => ?_)
  refine q_aload_n (pc := 49) dX10_init_49 rfl rfl ?_
  refine t_getP (M := mX10_init) (pc := 50) (d := 0) (t := 2) h23 dX10_init_50 fX10_31 (by decide) rfl ⟨by decide, rfl⟩ rfl ?_
  refine q_iload_n (pc := 53) dX10_init_53 rfl rfl ?_
  refine t_new (M := mX10_init) (kc := 14) (ks := 56) (pc := 54) h23 dX10_init_54 nX10_29 (by decide) (fun S24 n24 I24 L24 P24 h24 => ?_)
  refine q_dup (pc := 57) dX10_init_57 rfl ?_
  refine t_callJ (M := mX10_init) (kc := 14) (ks := 56) (kc' := 0) (ks' := 0) (pc := 58) h24 dX10_init_58 kX10_35 (c_init1 h24.in) ⟨Nat.le_of_ble_eq_true rfl, Nat.le_of_ble_eq_true rfl⟩ (Nat.le_of_ble_eq_true rfl) (fun S25 n25 I25 L25 P25 h25 => ?_)
  refine t_aast (M := mX10_init) (pc := 61) (d := 2) (j := 5) (t := 8) h25 dX10_init_61 (by decide) rfl (by decide) rfl (by decide) (by decide) rfl (fun P26 h26 => ?_)
  refine q_iinc (pc := 62) (v := nI 6) dX10_init_62 rfl (bq_inc _) (Nat.le_of_ble_eq_true rfl) rfl ?_
  show bq_W _ _ _ _ _ 65 [_, _] _ _ _ _ _ _ _
  refine q_goto (pc := 65) 43 dX10_init_65 (by decide) ?_
  refine q_iload_n (pc := 43) dX10_init_43 rfl rfl ?_
  refine q_bipush (pc := 44) (v := nI 20) dX10_init_44 (by decide) ?_
  refine q_icmp_ge (pc := 46) 68 dX10_init_46 (by decide) (fun c_46 => absurd c_46 (by decide)) (fun c_46 => ?_)
  refine q_aload_n (pc := 49) dX10_init_49 rfl rfl ?_
  refine t_getP (M := mX10_init) (pc := 50) (d := 0) (t := 2) h26 dX10_init_50 fX10_31 (by decide) rfl ⟨by decide, rfl⟩ rfl ?_
  refine q_iload_n (pc := 53) dX10_init_53 rfl rfl ?_
  refine t_new (M := mX10_init) (kc := 13) (ks := 52) (pc := 54) h26 dX10_init_54 nX10_29 (by decide) (fun S27 n27 I27 L27 P27 h27 => ?_)
  refine q_dup (pc := 57) dX10_init_57 rfl ?_
  refine t_callJ (M := mX10_init) (kc := 13) (ks := 52) (kc' := 0) (ks' := 0) (pc := 58) h27 dX10_init_58 kX10_35 (c_init1 h27.in) ⟨Nat.le_of_ble_eq_true rfl, Nat.le_of_ble_eq_true rfl⟩ (Nat.le_of_ble_eq_true rfl) (fun S28 n28 I28 L28 P28 h28 => ?_)
  refine t_aast (M := mX10_init) (pc := 61) (d := 2) (j := 6) (t := 9) h28 dX10_init_61 (by decide) rfl (by decide) rfl (by decide) (by decide) rfl (fun P29 h29 => ?_)
  refine q_iinc (pc := 62) (v := nI 7) dX10_init_62 rfl (bq_inc _) (Nat.le_of_ble_eq_true rfl) rfl ?_
  show bq_W _ _ _ _ _ 65 [_, _] _ _ _ _ _ _ _
  refine q_goto (pc := 65) 43 dX10_init_65 (by decide) ?_
  refine q_iload_n (pc := 43) dX10_init_43 rfl rfl ?_
  refine q_bipush (pc := 44) (v := nI 20) dX10_init_44 (by decide) ?_
  refine q_icmp_ge (pc := 46) 68 dX10_init_46 (by decide) (fun c_46 => absurd c_46 (by decide)) (fun c_46 => ?_)
  refine q_aload_n (pc := 49) dX10_init_49 rfl rfl ?_
  refine t_getP (M := mX10_init) (pc := 50) (d := 0) (t := 2) h29 dX10_init_50 fX10_31 (by decide) rfl ⟨by decide, rfl⟩ rfl ?_
  refine q_iload_n (pc := 53) dX10_init_53 rfl rfl ?_
  refine t_new (M := mX10_init) (kc := 12) (ks := 48) (pc := 54) h29 dX10_init_54 nX10_29 (by decide) (fun S30 n30 I30 L30 P30 h30 => ?_)
  refine q_dup (pc := 57) dX10_init_57 rfl ?_
  refine t_callJ (M := mX10_init) (kc := 12) (ks := 48) (kc' := 0) (ks' := 0) (pc := 58) h30 dX10_init_58 kX10_35 (c_init1 h30.in) ⟨Nat.le_of_ble_eq_true rfl, Nat.le_of_ble_eq_true rfl⟩ (Nat.le_of_ble_eq_true rfl) (fun S31 n31 I31 L31 P31 h31 => ?_)
  refine t_aast (M := mX10_init) (pc := 61) (d := 2) (j := 7) (t := 10) h31 dX10_init_61 (by decide) rfl (by decide) rfl (by decide) (by decide) rfl (fun P32 h32 => ?_)
  refine q_iinc (pc := 62) (v := nI 8) dX10_init_62 rfl (bq_inc _) (Nat.le_of_ble_eq_true rfl) rfl ?_
  show bq_W _ _ _ _ _ 65 [_, _] _ _ _ _ _ _ _
  refine q_goto (pc := 65) 43 dX10_init_65 (by decide) ?_
  refine q_iload_n (pc := 43) dX10_init_43 rfl rfl ?_
  refine q_bipush (pc := 44) (v := nI 20) dX10_init_44 (by decide) ?_
  refine q_icmp_ge (pc := 46) 68 dX10_init_46 (by decide) (fun c_46 => absurd c_46 (by decide)) (fun c_46 => ?_)
  refine q_aload_n (pc := 49) dX10_init_49 rfl rfl ?_
  refine t_getP (M := mX10_init) (pc := 50) (d := 0) (t := 2) h32 dX10_init_50 fX10_31 (by decide) rfl ⟨by decide, rfl⟩ rfl ?_
  refine q_iload_n (pc := 53) dX10_init_53 rfl rfl ?_
  refine t_new (M := mX10_init) (kc := 11) (ks := 44) (pc := 54) h32 dX10_init_54 nX10_29 (by decide) (fun S33 n33 I33 L33 P33 h33 => ?_)
  refine q_dup (pc := 57) dX10_init_57 rfl ?_
  refine t_callJ (M := mX10_init) (kc := 11) (ks := 44) (kc' := 0) (ks' := 0) (pc := 58) h33 dX10_init_58 kX10_35 (c_init1 h33.in) ⟨Nat.le_of_ble_eq_true rfl, Nat.le_of_ble_eq_true rfl⟩ (Nat.le_of_ble_eq_true rfl) (fun S34 n34 I34 L34 P34 h34 => ?_)
  refine t_aast (M := mX10_init) (pc := 61) (d := 2) (j := 8) (t := 11) h34 dX10_init_61 (by decide) rfl (by decide) rfl (by decide) (by decide) rfl (fun P35 h35 => ?_)
  refine q_iinc (pc := 62) (v := nI 9) dX10_init_62 rfl (bq_inc _) (Nat.le_of_ble_eq_true rfl) rfl ?_
  show bq_W _ _ _ _ _ 65 [_, _] _ _ _ _ _ _ _
  refine q_goto (pc := 65) 43 dX10_init_65 (by decide) ?_
  refine q_iload_n (pc := 43) dX10_init_43 rfl rfl ?_
  refine q_bipush (pc := 44) (v := nI 20) dX10_init_44 (by decide) ?_
  refine q_icmp_ge (pc := 46) 68 dX10_init_46 (by decide) (fun c_46 => absurd c_46 (by decide)) (fun c_46 => ?_)
  refine q_aload_n (pc := 49) dX10_init_49 rfl rfl ?_
  refine t_getP (M := mX10_init) (pc := 50) (d := 0) (t := 2) h35 dX10_init_50 fX10_31 (by decide) rfl ⟨by decide, rfl⟩ rfl ?_
  refine q_iload_n (pc := 53) dX10_init_53 rfl rfl ?_
  refine t_new (M := mX10_init) (kc := 10) (ks := 40) (pc := 54) h35 dX10_init_54 nX10_29 (by decide) (fun S36 n36 I36 L36 P36 h36 => ?_)
  refine q_dup (pc := 57) dX10_init_57 rfl ?_
  refine t_callJ (M := mX10_init) (kc := 10) (ks := 40) (kc' := 0) (ks' := 0) (pc := 58) h36 dX10_init_58 kX10_35 (c_init1 h36.in) ⟨Nat.le_of_ble_eq_true rfl, Nat.le_of_ble_eq_true rfl⟩ (Nat.le_of_ble_eq_true rfl) (fun S37 n37 I37 L37 P37 h37 => ?_)
  refine t_aast (M := mX10_init) (pc := 61) (d := 2) (j := 9) (t := 12) h37 dX10_init_61 (by decide) rfl (by decide) rfl (by decide) (by decide) rfl (fun P38 h38 => ?_)
  refine q_iinc (pc := 62) (v := nI 10) dX10_init_62 rfl (bq_inc _) (Nat.le_of_ble_eq_true rfl) rfl ?_
  show bq_W _ _ _ _ _ 65 [_, _] _ _ _ _ _ _ _
  refine q_goto (pc := 65) 43 dX10_init_65 (by decide) ?_
  refine q_iload_n (pc := 43) dX10_init_43 rfl rfl ?_
  refine q_bipush (pc := 44) (v := nI 20) dX10_init_44 (by decide) ?_
  refine q_icmp_ge (pc := 46) 68 dX10_init_46 (by decide) (fun c_46 => absurd c_46 (by decide)) (fun c_46 => ?_)
  refine q_aload_n (pc := 49) dX10_init_49 rfl rfl ?_
  refine t_getP (M := mX10_init) (pc := 50) (d := 0) (t := 2) h38 dX10_init_50 fX10_31 (by decide) rfl ⟨by decide, rfl⟩ rfl ?_
  refine q_iload_n (pc := 53) dX10_init_53 rfl rfl ?_
  refine t_new (M := mX10_init) (kc := 9) (ks := 36) (pc := 54) h38 dX10_init_54 nX10_29 (by decide) (fun S39 n39 I39 L39 P39 h39 => ?_)
  refine q_dup (pc := 57) dX10_init_57 rfl ?_
  refine t_callJ (M := mX10_init) (kc := 9) (ks := 36) (kc' := 0) (ks' := 0) (pc := 58) h39 dX10_init_58 kX10_35 (c_init1 h39.in) ⟨Nat.le_of_ble_eq_true rfl, Nat.le_of_ble_eq_true rfl⟩ (Nat.le_of_ble_eq_true rfl) (fun S40 n40 I40 L40 P40 h40 => ?_)
  refine t_aast (M := mX10_init) (pc := 61) (d := 2) (j := 10) (t := 13) h40 dX10_init_61 (by decide) rfl (by decide) rfl (by decide) (by decide) rfl (fun P41 h41 => ?_)
  refine q_iinc (pc := 62) (v := nI 11) dX10_init_62 rfl (bq_inc _) (Nat.le_of_ble_eq_true rfl) rfl ?_
  show bq_W _ _ _ _ _ 65 [_, _] _ _ _ _ _ _ _
  refine q_goto (pc := 65) 43 dX10_init_65 (by decide) ?_
  refine q_iload_n (pc := 43) dX10_init_43 rfl rfl ?_
  refine q_bipush (pc := 44) (v := nI 20) dX10_init_44 (by decide) ?_
  refine q_icmp_ge (pc := 46) 68 dX10_init_46 (by decide) (fun c_46 => absurd c_46 (by decide)) (fun c_46 => ?_)
  refine q_aload_n (pc := 49) dX10_init_49 rfl rfl ?_
  refine t_getP (M := mX10_init) (pc := 50) (d := 0) (t := 2) h41 dX10_init_50 fX10_31 (by decide) rfl ⟨by decide, rfl⟩ rfl ?_
  refine q_iload_n (pc := 53) dX10_init_53 rfl rfl ?_
  refine t_new (M := mX10_init) (kc := 8) (ks := 32) (pc := 54) h41 dX10_init_54 nX10_29 (by decide) (fun S42 n42 I42 L42 P42 h42 => ?_)
  refine q_dup (pc := 57) dX10_init_57 rfl ?_
  refine t_callJ (M := mX10_init) (kc := 8) (ks := 32) (kc' := 0) (ks' := 0) (pc := 58) h42 dX10_init_58 kX10_35 (c_init1 h42.in) ⟨Nat.le_of_ble_eq_true rfl, Nat.le_of_ble_eq_true rfl⟩ (Nat.le_of_ble_eq_true rfl) (fun S43 n43 I43 L43 P43 h43 => ?_)
  refine t_aast (M := mX10_init) (pc := 61) (d := 2) (j := 11) (t := 14) h43 dX10_init_61 (by decide) rfl (by decide) rfl (by decide) (by decide) rfl (fun P44 h44 => ?_)
  refine q_iinc (pc := 62) (v := nI 12) dX10_init_62 rfl (bq_inc _) (Nat.le_of_ble_eq_true rfl) rfl ?_
  show bq_W _ _ _ _ _ 65 [_, _] _ _ _ _ _ _ _
  refine q_goto (pc := 65) 43 dX10_init_65 (by decide) ?_
  refine q_iload_n (pc := 43) dX10_init_43 rfl rfl ?_
  refine q_bipush (pc := 44) (v := nI 20) dX10_init_44 (by decide) ?_
  refine q_icmp_ge (pc := 46) 68 dX10_init_46 (by decide) (fun c_46 => absurd c_46 (by decide)) (fun c_46 => ?_)
  refine q_aload_n (pc := 49) dX10_init_49 rfl rfl ?_
  refine t_getP (M := mX10_init) (pc := 50) (d := 0) (t := 2) h44 dX10_init_50 fX10_31 (by decide) rfl ⟨by decide, rfl⟩ rfl ?_
  refine q_iload_n (pc := 53) dX10_init_53 rfl rfl ?_
  refine t_new (M := mX10_init) (kc := 7) (ks := 28) (pc := 54) h44 dX10_init_54 nX10_29 (by decide) (fun S45 n45 I45 L45 P45 h45 => ?_)
  refine q_dup (pc := 57) dX10_init_57 rfl ?_
  refine t_callJ (M := mX10_init) (kc := 7) (ks := 28) (kc' := 0) (ks' := 0) (pc := 58) h45 dX10_init_58 kX10_35 (c_init1 h45.in) ⟨Nat.le_of_ble_eq_true rfl, Nat.le_of_ble_eq_true rfl⟩ (Nat.le_of_ble_eq_true rfl) (fun S46 n46 I46 L46 P46 h46 => ?_)
  refine t_aast (M := mX10_init) (pc := 61) (d := 2) (j := 12) (t := 15) h46 dX10_init_61 (by decide) rfl (by decide) rfl (by decide) (by decide) rfl (fun P47 h47 => ?_)
  refine q_iinc (pc := 62) (v := nI 13) dX10_init_62 rfl (bq_inc _) (Nat.le_of_ble_eq_true rfl) rfl ?_
  show bq_W _ _ _ _ _ 65 [_, _] _ _ _ _ _ _ _
  refine q_goto (pc := 65) 43 dX10_init_65 (by decide) ?_
  refine q_iload_n (pc := 43) dX10_init_43 rfl rfl ?_
  refine q_bipush (pc := 44) (v := nI 20) dX10_init_44 (by decide) ?_
  refine q_icmp_ge (pc := 46) 68 dX10_init_46 (by decide) (fun c_46 => absurd c_46 (by decide)) (fun c_46 => ?_)
  refine q_aload_n (pc := 49) dX10_init_49 rfl rfl ?_
  refine t_getP (M := mX10_init) (pc := 50) (d := 0) (t := 2) h47 dX10_init_50 fX10_31 (by decide) rfl ⟨by decide, rfl⟩ rfl ?_
  refine q_iload_n (pc := 53) dX10_init_53 rfl rfl ?_
  refine t_new (M := mX10_init) (kc := 6) (ks := 24) (pc := 54) h47 dX10_init_54 nX10_29 (by decide) (fun S48 n48 I48 L48 P48 h48 => ?_)
  refine q_dup (pc := 57) dX10_init_57 rfl ?_
  refine t_callJ (M := mX10_init) (kc := 6) (ks := 24) (kc' := 0) (ks' := 0) (pc := 58) h48 dX10_init_58 kX10_35 (c_init1 h48.in) ⟨Nat.le_of_ble_eq_true rfl, Nat.le_of_ble_eq_true rfl⟩ (Nat.le_of_ble_eq_true rfl) (fun S49 n49 I49 L49 P49 h49 => ?_)
  refine t_aast (M := mX10_init) (pc := 61) (d := 2) (j := 13) (t := 16) h49 dX10_init_61 (by decide) rfl (by decide) rfl (by decide) (by decide) rfl (fun P50 h50 => ?_)
  refine q_iinc (pc := 62) (v := nI 14) dX10_init_62 rfl (bq_inc _) (Nat.le_of_ble_eq_true rfl) rfl ?_
  show bq_W _ _ _ _ _ 65 [_, _] _ _ _ _ _ _ _
  refine q_goto (pc := 65) 43 dX10_init_65 (by decide) ?_
  refine q_iload_n (pc := 43) dX10_init_43 rfl rfl ?_
  refine q_bipush (pc := 44) (v := nI 20) dX10_init_44 (by decide) ?_
  refine q_icmp_ge (pc := 46) 68 dX10_init_46 (by decide) (fun c_46 => absurd c_46 (by decide)) (fun c_46 => ?_)
  refine q_aload_n (pc := 49) dX10_init_49 rfl rfl ?_
  refine t_getP (M := mX10_init) (pc := 50) (d := 0) (t := 2) h50 dX10_init_50 fX10_31 (by decide) rfl ⟨by decide, rfl⟩ rfl ?_
  refine q_iload_n (pc := 53) dX10_init_53 rfl rfl ?_
  refine t_new (M := mX10_init) (kc := 5) (ks := 20) (pc := 54) h50 dX10_init_54 nX10_29 (by decide) (fun S51 n51 I51 L51 P51 h51 => ?_)
  refine q_dup (pc := 57) dX10_init_57 rfl ?_
  refine t_callJ (M := mX10_init) (kc := 5) (ks := 20) (kc' := 0) (ks' := 0) (pc := 58) h51 dX10_init_58 kX10_35 (c_init1 h51.in) ⟨Nat.le_of_ble_eq_true rfl, Nat.le_of_ble_eq_true rfl⟩ (Nat.le_of_ble_eq_true rfl) (fun S52 n52 I52 L52 P52 h52 => ?_)
  refine t_aast (M := mX10_init) (pc := 61) (d := 2) (j := 14) (t := 17) h52 dX10_init_61 (by decide) rfl (by decide) rfl (by decide) (by decide) rfl (fun P53 h53 => ?_)
  refine q_iinc (pc := 62) (v := nI 15) dX10_init_62 rfl (bq_inc _) (Nat.le_of_ble_eq_true rfl) rfl ?_
  show bq_W _ _ _ _ _ 65 [_, _] _ _ _ _ _ _ _
  refine q_goto (pc := 65) 43 dX10_init_65 (by decide) ?_
  refine q_iload_n (pc := 43) dX10_init_43 rfl rfl ?_
  refine q_bipush (pc := 44) (v := nI 20) dX10_init_44 (by decide) ?_
  refine q_icmp_ge (pc := 46) 68 dX10_init_46 (by decide) (fun c_46 => absurd c_46 (by decide)) (fun c_46 => ?_)
  refine q_aload_n (pc := 49) dX10_init_49 rfl rfl ?_
  refine t_getP (M := mX10_init) (pc := 50) (d := 0) (t := 2) h53 dX10_init_50 fX10_31 (by decide) rfl ⟨by decide, rfl⟩ rfl ?_
  refine q_iload_n (pc := 53) dX10_init_53 rfl rfl ?_
  refine t_new (M := mX10_init) (kc := 4) (ks := 16) (pc := 54) h53 dX10_init_54 nX10_29 (by decide) (fun S54 n54 I54 L54 P54 h54 => ?_)
  refine q_dup (pc := 57) dX10_init_57 rfl ?_
  refine t_callJ (M := mX10_init) (kc := 4) (ks := 16) (kc' := 0) (ks' := 0) (pc := 58) h54 dX10_init_58 kX10_35 (c_init1 h54.in) ⟨Nat.le_of_ble_eq_true rfl, Nat.le_of_ble_eq_true rfl⟩ (Nat.le_of_ble_eq_true rfl) (fun S55 n55 I55 L55 P55 h55 => ?_)
  refine t_aast (M := mX10_init) (pc := 61) (d := 2) (j := 15) (t := 18) h55 dX10_init_61 (by decide) rfl (by decide) rfl (by decide) (by decide) rfl (fun P56 h56 => ?_)
  refine q_iinc (pc := 62) (v := nI 16) dX10_init_62 rfl (bq_inc _) (Nat.le_of_ble_eq_true rfl) rfl ?_
  show bq_W _ _ _ _ _ 65 [_, _] _ _ _ _ _ _ _
  refine q_goto (pc := 65) 43 dX10_init_65 (by decide) ?_
  refine q_iload_n (pc := 43) dX10_init_43 rfl rfl ?_
  refine q_bipush (pc := 44) (v := nI 20) dX10_init_44 (by decide) ?_
  refine q_icmp_ge (pc := 46) 68 dX10_init_46 (by decide) (fun c_46 => absurd c_46 (by decide)) (fun c_46 => ?_)
  refine q_aload_n (pc := 49) dX10_init_49 rfl rfl ?_
  refine t_getP (M := mX10_init) (pc := 50) (d := 0) (t := 2) h56 dX10_init_50 fX10_31 (by decide) rfl ⟨by decide, rfl⟩ rfl ?_
  refine q_iload_n (pc := 53) dX10_init_53 rfl rfl ?_
  refine t_new (M := mX10_init) (kc := 3) (ks := 12) (pc := 54) h56 dX10_init_54 nX10_29 (by decide) (fun S57 n57 I57 L57 P57 h57 => ?_)
  refine q_dup (pc := 57) dX10_init_57 rfl ?_
  refine t_callJ (M := mX10_init) (kc := 3) (ks := 12) (kc' := 0) (ks' := 0) (pc := 58) h57 dX10_init_58 kX10_35 (c_init1 h57.in) ⟨Nat.le_of_ble_eq_true rfl, Nat.le_of_ble_eq_true rfl⟩ (Nat.le_of_ble_eq_true rfl) (fun S58 n58 I58 L58 P58 h58 => ?_)
  refine t_aast (M := mX10_init) (pc := 61) (d := 2) (j := 16) (t := 19) h58 dX10_init_61 (by decide) rfl (by decide) rfl (by decide) (by decide) rfl (fun P59 h59 => ?_)
  refine q_iinc (pc := 62) (v := nI 17) dX10_init_62 rfl (bq_inc _) (Nat.le_of_ble_eq_true rfl) rfl ?_
  show bq_W _ _ _ _ _ 65 [_, _] _ _ _ _ _ _ _
  refine q_goto (pc := 65) 43 dX10_init_65 (by decide) ?_
  refine q_iload_n (pc := 43) dX10_init_43 rfl rfl ?_
  refine q_bipush (pc := 44) (v := nI 20) dX10_init_44 (by decide) ?_
  refine q_icmp_ge (pc := 46) 68 dX10_init_46 (by decide) (fun c_46 => absurd c_46 (by decide)) (fun c_46 => ?_)
  refine q_aload_n (pc := 49) dX10_init_49 rfl rfl ?_
  refine t_getP (M := mX10_init) (pc := 50) (d := 0) (t := 2) h59 dX10_init_50 fX10_31 (by decide) rfl ⟨by decide, rfl⟩ rfl ?_
  refine q_iload_n (pc := 53) dX10_init_53 rfl rfl ?_
  refine t_new (M := mX10_init) (kc := 2) (ks := 8) (pc := 54) h59 dX10_init_54 nX10_29 (by decide) (fun S60 n60 I60 L60 P60 h60 => ?_)
  refine q_dup (pc := 57) dX10_init_57 rfl ?_
  refine t_callJ (M := mX10_init) (kc := 2) (ks := 8) (kc' := 0) (ks' := 0) (pc := 58) h60 dX10_init_58 kX10_35 (c_init1 h60.in) ⟨Nat.le_of_ble_eq_true rfl, Nat.le_of_ble_eq_true rfl⟩ (Nat.le_of_ble_eq_true rfl) (fun S61 n61 I61 L61 P61 h61 => ?_)
  refine t_aast (M := mX10_init) (pc := 61) (d := 2) (j := 17) (t := 20) h61 dX10_init_61 (by decide) rfl (by decide) rfl (by decide) (by decide) rfl (fun P62 h62 => ?_)
  refine q_iinc (pc := 62) (v := nI 18) dX10_init_62 rfl (bq_inc _) (Nat.le_of_ble_eq_true rfl) rfl ?_
  show bq_W _ _ _ _ _ 65 [_, _] _ _ _ _ _ _ _
  refine q_goto (pc := 65) 43 dX10_init_65 (by decide) ?_
  refine q_iload_n (pc := 43) dX10_init_43 rfl rfl ?_
  refine q_bipush (pc := 44) (v := nI 20) dX10_init_44 (by decide) ?_
  refine q_icmp_ge (pc := 46) 68 dX10_init_46 (by decide) (fun c_46 => absurd c_46 (by decide)) (fun c_46 => ?_)
  refine q_aload_n (pc := 49) dX10_init_49 rfl rfl ?_
  refine t_getP (M := mX10_init) (pc := 50) (d := 0) (t := 2) h62 dX10_init_50 fX10_31 (by decide) rfl ⟨by decide, rfl⟩ rfl ?_
  refine q_iload_n (pc := 53) dX10_init_53 rfl rfl ?_
  refine t_new (M := mX10_init) (kc := 1) (ks := 4) (pc := 54) h62 dX10_init_54 nX10_29 (by decide) (fun S63 n63 I63 L63 P63 h63 => ?_)
  refine q_dup (pc := 57) dX10_init_57 rfl ?_
  refine t_callJ (M := mX10_init) (kc := 1) (ks := 4) (kc' := 0) (ks' := 0) (pc := 58) h63 dX10_init_58 kX10_35 (c_init1 h63.in) ⟨Nat.le_of_ble_eq_true rfl, Nat.le_of_ble_eq_true rfl⟩ (Nat.le_of_ble_eq_true rfl) (fun S64 n64 I64 L64 P64 h64 => ?_)
  refine t_aast (M := mX10_init) (pc := 61) (d := 2) (j := 18) (t := 21) h64 dX10_init_61 (by decide) rfl (by decide) rfl (by decide) (by decide) rfl (fun P65 h65 => ?_)
  refine q_iinc (pc := 62) (v := nI 19) dX10_init_62 rfl (bq_inc _) (Nat.le_of_ble_eq_true rfl) rfl ?_
  show bq_W _ _ _ _ _ 65 [_, _] _ _ _ _ _ _ _
  refine q_goto (pc := 65) 43 dX10_init_65 (by decide) ?_
  refine q_iload_n (pc := 43) dX10_init_43 rfl rfl ?_
  refine q_bipush (pc := 44) (v := nI 20) dX10_init_44 (by decide) ?_
  refine q_icmp_ge (pc := 46) 68 dX10_init_46 (by decide) (fun c_46 => absurd c_46 (by decide)) (fun c_46 => ?_)
  refine q_aload_n (pc := 49) dX10_init_49 rfl rfl ?_
  refine t_getP (M := mX10_init) (pc := 50) (d := 0) (t := 2) h65 dX10_init_50 fX10_31 (by decide) rfl ⟨by decide, rfl⟩ rfl ?_
  refine q_iload_n (pc := 53) dX10_init_53 rfl rfl ?_
  refine t_new (M := mX10_init) (kc := 0) (ks := 0) (pc := 54) h65 dX10_init_54 nX10_29 (by decide) (fun S66 n66 I66 L66 P66 h66 => ?_)
  refine q_dup (pc := 57) dX10_init_57 rfl ?_
  refine t_callJ (M := mX10_init) (kc := 0) (ks := 0) (kc' := 0) (ks' := 0) (pc := 58) h66 dX10_init_58 kX10_35 (c_init1 h66.in) ⟨Nat.le_of_ble_eq_true rfl, Nat.le_of_ble_eq_true rfl⟩ (Nat.le_of_ble_eq_true rfl) (fun S67 n67 I67 L67 P67 h67 => ?_)
  refine t_aast (M := mX10_init) (pc := 61) (d := 2) (j := 19) (t := 22) h67 dX10_init_61 (by decide) rfl (by decide) rfl (by decide) (by decide) rfl (fun P68 h68 => ?_)
  refine q_iinc (pc := 62) (v := nI 20) dX10_init_62 rfl (bq_inc _) (Nat.le_of_ble_eq_true rfl) rfl ?_
  show bq_W _ _ _ _ _ 65 [_, _] _ _ _ _ _ _ _
  refine q_goto (pc := 65) 43 dX10_init_65 (by decide) ?_
  refine q_iload_n (pc := 43) dX10_init_43 rfl rfl ?_
  refine q_bipush (pc := 44) (v := nI 20) dX10_init_44 (by decide) ?_
  refine q_icmp_ge (pc := 46) 68 dX10_init_46 (by decide) (fun c_46 => ?_) (fun c_46 => absurd (by decide) c_46)
  exact q_vret (st := []) (pc := 68) dX10_init_68 rfl ⟨rfl, h68⟩
def tb8_0 : BqTb := t0 8
def tb8_1 : BqTb := tI tb8_0 0 0 (nI 0)
def tb8_2 : BqTb := tI tb8_1 0 1 (nI 5)
def tb8_3 : BqTb := tN tb8_2 1 (20, 6)
def tb8_4 : BqTb := tP tb8_3 0 2 1
def tb8_5 : BqTb := tI tb8_4 0 3 (nI 0)
def tb8_6 : BqTb := tN tb8_5 2 (13, 16)
def tb8_7 : BqTb := tP tb8_6 0 4 2
def tb8_8 : BqTb := tN tb8_7 3 (13, 16)
def tb8_9 : BqTb := tP tb8_8 0 5 3
def tb8_10 : BqTb := tN tb8_9 4 (0, 0)
def tb8_11 : BqTb := tM tb8_9 4 tb0
def tb8_12 : BqTb := tP tb8_11 0 6 4
def tb8_13 : BqTb := tN tb8_12 6 (0, 0)
def tb8_14 : BqTb := tM tb8_12 6 tb0
def tb8_15 : BqTb := tP tb8_14 0 7 6
def tb8_16 : BqTb := tN tb8_15 8 (0, 0)
def tb8_17 : BqTb := tM tb8_15 8 tb0
def tb8_18 : BqTb := tP tb8_17 0 8 8
def tb8_19 : BqTb := tN tb8_18 10 (13, 4)
def tb8_20 : BqTb := tP tb8_19 0 9 10
def tb8_21 : BqTb := tI tb8_20 0 10 (nI 0)
def tb8_22 : BqTb := tN tb8_21 11 (18, 10)
def tb8_23 : BqTb := tP tb8_22 0 11 11
def tb8_24 : BqTb := tI tb8_23 0 12 (nI 0)
def tb8_25 : BqTb := tN tb8_24 12 (17, 10)
def tb8_26 : BqTb := tP tb8_25 0 13 12
def tb8_27 : BqTb := tN tb8_26 13 (2, 0)
def tb8_28 : BqTb := tM tb8_26 13 tb2
def tb8_29 : BqTb := tP tb8_28 0 16 13
def tb8_30 : BqTb := tN tb8_29 15 (9, 0)
def tb8_31 : BqTb := tM tb8_29 15 tb9
def tb8_32 : BqTb := tP tb8_31 1 0 15
def tb8_33 : BqTb := tN tb8_32 18 (9, 0)
def tb8_34 : BqTb := tM tb8_32 18 tb9
def tb8_35 : BqTb := tP tb8_34 1 1 18
def tb8_36 : BqTb := tN tb8_35 21 (9, 0)
def tb8_37 : BqTb := tM tb8_35 21 tb9
def tb8_38 : BqTb := tP tb8_37 1 2 21
def tb8_39 : BqTb := tN tb8_38 24 (9, 0)
def tb8_40 : BqTb := tM tb8_38 24 tb9
def tb8_41 : BqTb := tP tb8_40 1 3 24
def tb8_42 : BqTb := tN tb8_41 27 (9, 0)
def tb8_43 : BqTb := tM tb8_41 27 tb9
def tb8_44 : BqTb := tP tb8_43 1 4 27
def tb8_45 : BqTb := tN tb8_44 30 (9, 0)
def tb8_46 : BqTb := tM tb8_44 30 tb9
def tb8_47 : BqTb := tP tb8_46 1 5 30
def tb8_48 : BqTb := tN tb8_47 33 (7, 0)
def tb8_49 : BqTb := tM tb8_47 33 tb7
def tb8_50 : BqTb := tP tb8_49 11 0 33
def tb8_51 : BqTb := tN tb8_50 34 (7, 0)
def tb8_52 : BqTb := tM tb8_50 34 tb7
def tb8_53 : BqTb := tP tb8_52 11 1 34
def tb8_54 : BqTb := tN tb8_53 35 (7, 0)
def tb8_55 : BqTb := tM tb8_53 35 tb7
def tb8_56 : BqTb := tP tb8_55 11 2 35
def tb8_57 : BqTb := tN tb8_56 36 (7, 0)
def tb8_58 : BqTb := tM tb8_56 36 tb7
def tb8_59 : BqTb := tP tb8_58 11 3 36
def tb8_60 : BqTb := tN tb8_59 37 (7, 0)
def tb8_61 : BqTb := tM tb8_59 37 tb7
def tb8_62 : BqTb := tP tb8_61 11 4 37
def tb8_63 : BqTb := tN tb8_62 38 (7, 0)
def tb8_64 : BqTb := tM tb8_62 38 tb7
def tb8_65 : BqTb := tP tb8_64 11 5 38
def tb8_66 : BqTb := tN tb8_65 39 (7, 0)
def tb8_67 : BqTb := tM tb8_65 39 tb7
def tb8_68 : BqTb := tP tb8_67 11 6 39
def tb8_69 : BqTb := tN tb8_68 40 (7, 0)
def tb8_70 : BqTb := tM tb8_68 40 tb7
def tb8_71 : BqTb := tP tb8_70 11 7 40
def tb8_72 : BqTb := tN tb8_71 41 (7, 0)
def tb8_73 : BqTb := tM tb8_71 41 tb7
def tb8_74 : BqTb := tP tb8_73 11 8 41
def tb8_75 : BqTb := tN tb8_74 42 (7, 0)
def tb8_76 : BqTb := tM tb8_74 42 tb7
def tb8_77 : BqTb := tP tb8_76 11 9 42
def tb8_78 : BqTb := tN tb8_77 43 (4, 0)
def tb8_79 : BqTb := tM tb8_77 43 tb4
def tb8_80 : BqTb := tP tb8_79 12 0 43
def tb8_81 : BqTb := tN tb8_80 44 (4, 0)
def tb8_82 : BqTb := tM tb8_80 44 tb4
def tb8_83 : BqTb := tP tb8_82 12 1 44
def tb8_84 : BqTb := tN tb8_83 45 (4, 0)
def tb8_85 : BqTb := tM tb8_83 45 tb4
def tb8_86 : BqTb := tP tb8_85 12 2 45
def tb8_87 : BqTb := tN tb8_86 46 (4, 0)
def tb8_88 : BqTb := tM tb8_86 46 tb4
def tb8_89 : BqTb := tP tb8_88 12 3 46
def tb8_90 : BqTb := tN tb8_89 47 (4, 0)
def tb8_91 : BqTb := tM tb8_89 47 tb4
def tb8_92 : BqTb := tP tb8_91 12 4 47
def tb8_93 : BqTb := tN tb8_92 48 (4, 0)
def tb8_94 : BqTb := tM tb8_92 48 tb4
def tb8_95 : BqTb := tP tb8_94 12 5 48
def tb8_96 : BqTb := tN tb8_95 49 (4, 0)
def tb8_97 : BqTb := tM tb8_95 49 tb4
def tb8_98 : BqTb := tP tb8_97 12 6 49
def tb8_99 : BqTb := tN tb8_98 50 (4, 0)
def tb8_100 : BqTb := tM tb8_98 50 tb4
def tb8_101 : BqTb := tP tb8_100 12 7 50
def tb8_102 : BqTb := tN tb8_101 51 (4, 0)
def tb8_103 : BqTb := tM tb8_101 51 tb4
def tb8_104 : BqTb := tP tb8_103 12 8 51
def tb8_105 : BqTb := tN tb8_104 52 (4, 0)
def tb8_106 : BqTb := tM tb8_104 52 tb4
def tb8_107 : BqTb := tP tb8_106 12 9 52
def tb8 : BqTb := tb8_107
set_option maxHeartbeats 16960000 in
set_option maxRecDepth 20000 in
theorem c_init8 {S : BqH} {n : Nat} {I : BqI} {L : BqL} {P : BqP} {o : Nat} {S0 : BqH} {I0 : BqI} {L0 : BqL} {P0 : BqP} (h0 : BB o 1 (t0 8) S0 I0 L0 P0 S n I L P) : bq_Sp mX8_init 4 60 52 681 [.ref o] S n I L P (qB o 53 tb8 S0 I0 L0 P0) := by
  refine q_entry (vs := [some (.ref o), none]) (by decide +kernel) (by simp) (Nat.le_of_ble_eq_true rfl) rfl ?_
  refine q_aload_n (pc := 0) dX8_init_0 rfl rfl ?_
  refine q_objInit (pc := 1) dX8_init_1 kX8_3 ⟨Nat.le_of_ble_eq_true rfl, Nat.le_of_ble_eq_true rfl⟩ ?_
  refine q_aload_n (pc := 4) dX8_init_4 rfl rfl ?_
  refine q_iconst (pc := 5) (v := nI 0) dX8_init_5 (by decide) ?_
  refine t_putI (M := mX8_init) (pc := 6) (d := 0) h0 dX8_init_6 (pX8_9 _) (by decide) rfl ⟨by decide, rfl⟩ (fun I1 h1 => ?_)
  refine q_aload_n (pc := 9) dX8_init_9 rfl rfl ?_
  refine q_iconst (pc := 10) (v := nI 5) dX8_init_10 (by decide) ?_
  refine t_putI (M := mX8_init) (pc := 11) (d := 0) h1 dX8_init_11 (pX8_15 _) (by decide) rfl ⟨by decide, rfl⟩ (fun I2 h2 => ?_)
  refine q_aload_n (pc := 14) dX8_init_14 rfl rfl ?_
  refine q_bipush (pc := 15) (v := nI 6) dX8_init_15 (by decide) ?_
  refine t_newq (M := mX8_init) (kc := 51) (ks := 675) (len := 6) (kd := 20) (pc := 17) h2 dX8_init_17 qX8_18 (by decide) (by decide) rfl rfl (by decide) (fun S3 n3 I3 L3 P3 h3 => ?_)
  refine t_putP (M := mX8_init) (pc := 20) (d := 0) (t := 1) h3 dX8_init_20 pX8_20 (by decide) rfl ⟨by decide, rfl⟩ (fun P4 h4 => ?_)
  refine q_aload_n (pc := 23) dX8_init_23 rfl rfl ?_
  refine q_iconst (pc := 24) (v := nI 0) dX8_init_24 (by decide) ?_
  refine t_putI (M := mX8_init) (pc := 25) (d := 0) h4 dX8_init_25 (pX8_24 _) (by decide) rfl ⟨by decide, rfl⟩ (fun I5 h5 => ?_)
  refine q_aload_n (pc := 28) dX8_init_28 rfl rfl ?_
  refine q_bipush (pc := 29) (v := nI 16) dX8_init_29 (by decide) ?_
  refine t_newI (M := mX8_init) (kc := 50) (ks := 659) (len := 16) (pc := 31) h5 dX8_init_31 rfl (by decide) (fun S6 n6 I6 L6 P6 h6 => ?_)
  refine t_putP (M := mX8_init) (pc := 33) (d := 0) (t := 2) h6 dX8_init_33 pX8_27 (by decide) rfl ⟨by decide, rfl⟩ (fun P7 h7 => ?_)
  refine q_aload_n (pc := 36) dX8_init_36 rfl rfl ?_
  refine q_bipush (pc := 37) (v := nI 16) dX8_init_37 (by decide) ?_
  refine t_newI (M := mX8_init) (kc := 49) (ks := 643) (len := 16) (pc := 39) h7 dX8_init_39 rfl (by decide) (fun S8 n8 I8 L8 P8 h8 => ?_)
  refine t_putP (M := mX8_init) (pc := 41) (d := 0) (t := 3) h8 dX8_init_41 pX8_31 (by decide) rfl ⟨by decide, rfl⟩ (fun P9 h9 => ?_)
  refine q_aload_n (pc := 44) dX8_init_44 rfl rfl ?_
  refine t_new (M := mX8_init) (kc := 48) (ks := 642) (pc := 45) h9 dX8_init_45 nX8_34 (by decide) (fun S10 n10 I10 L10 P10 h10 => ?_)
  refine q_dup (pc := 48) dX8_init_48 rfl ?_
  refine t_callJ (M := mX8_init) (kc := 47) (ks := 626) (kc' := 1) (ks' := 16) (pc := 49) h10 dX8_init_49 kX8_36 (c_init0 h10.in) ⟨Nat.le_of_ble_eq_true rfl, Nat.le_of_ble_eq_true rfl⟩ (Nat.le_of_ble_eq_true rfl) (fun S11 n11 I11 L11 P11 h11 => ?_)
  refine t_putP (M := mX8_init) (pc := 52) (d := 0) (t := 4) h11 dX8_init_52 pX8_37 (by decide) rfl ⟨by decide, rfl⟩ (fun P12 h12 => ?_)
  refine q_aload_n (pc := 55) dX8_init_55 rfl rfl ?_
  refine t_new (M := mX8_init) (kc := 46) (ks := 625) (pc := 56) h12 dX8_init_56 nX8_34 (by decide) (fun S13 n13 I13 L13 P13 h13 => ?_)
  refine q_dup (pc := 59) dX8_init_59 rfl ?_
  refine t_callJ (M := mX8_init) (kc := 45) (ks := 609) (kc' := 1) (ks' := 16) (pc := 60) h13 dX8_init_60 kX8_36 (c_init0 h13.in) ⟨Nat.le_of_ble_eq_true rfl, Nat.le_of_ble_eq_true rfl⟩ (Nat.le_of_ble_eq_true rfl) (fun S14 n14 I14 L14 P14 h14 => ?_)
  refine t_putP (M := mX8_init) (pc := 63) (d := 0) (t := 6) h14 dX8_init_63 pX8_41 (by decide) rfl ⟨by decide, rfl⟩ (fun P15 h15 => ?_)
  refine q_aload_n (pc := 66) dX8_init_66 rfl rfl ?_
  refine t_new (M := mX8_init) (kc := 44) (ks := 608) (pc := 67) h15 dX8_init_67 nX8_34 (by decide) (fun S16 n16 I16 L16 P16 h16 => ?_)
  refine q_dup (pc := 70) dX8_init_70 rfl ?_
  refine t_callJ (M := mX8_init) (kc := 43) (ks := 592) (kc' := 1) (ks' := 16) (pc := 71) h16 dX8_init_71 kX8_36 (c_init0 h16.in) ⟨Nat.le_of_ble_eq_true rfl, Nat.le_of_ble_eq_true rfl⟩ (Nat.le_of_ble_eq_true rfl) (fun S17 n17 I17 L17 P17 h17 => ?_)
  refine t_putP (M := mX8_init) (pc := 74) (d := 0) (t := 8) h17 dX8_init_74 pX8_44 (by decide) rfl ⟨by decide, rfl⟩ (fun P18 h18 => ?_)
  refine q_aload_n (pc := 77) dX8_init_77 rfl rfl ?_
  refine q_iconst (pc := 78) (v := nI 4) dX8_init_78 (by decide) ?_
  refine t_newI (M := mX8_init) (kc := 42) (ks := 588) (len := 4) (pc := 79) h18 dX8_init_79 rfl (by decide) (fun S19 n19 I19 L19 P19 h19 => ?_)
  refine t_putP (M := mX8_init) (pc := 81) (d := 0) (t := 10) h19 dX8_init_81 pX8_47 (by decide) rfl ⟨by decide, rfl⟩ (fun P20 h20 => ?_)
  refine q_aload_n (pc := 84) dX8_init_84 rfl rfl ?_
  refine q_iconst (pc := 85) (v := nI 0) dX8_init_85 (by decide) ?_
  refine t_putI (M := mX8_init) (pc := 86) (d := 0) h20 dX8_init_86 (pX8_50 _) (by decide) rfl ⟨by decide, rfl⟩ (fun I21 h21 => ?_)
  refine q_aload_n (pc := 89) dX8_init_89 rfl rfl ?_
  refine q_bipush (pc := 90) (v := nI 10) dX8_init_90 (by decide) ?_
  refine t_newq (M := mX8_init) (kc := 41) (ks := 578) (len := 10) (kd := 18) (pc := 92) h21 dX8_init_92 qX8_53 (by decide) (by decide) rfl rfl (by decide) (fun S22 n22 I22 L22 P22 h22 => ?_)
  refine t_putP (M := mX8_init) (pc := 95) (d := 0) (t := 11) h22 dX8_init_95 pX8_55 (by decide) rfl ⟨by decide, rfl⟩ (fun P23 h23 => ?_)
  refine q_aload_n (pc := 98) dX8_init_98 rfl rfl ?_
  refine q_iconst (pc := 99) (v := nI 0) dX8_init_99 (by decide) ?_
  refine t_putI (M := mX8_init) (pc := 100) (d := 0) h23 dX8_init_100 (pX8_59 _) (by decide) rfl ⟨by decide, rfl⟩ (fun I24 h24 => ?_)
  refine q_aload_n (pc := 103) dX8_init_103 rfl rfl ?_
  refine q_bipush (pc := 104) (v := nI 10) dX8_init_104 (by decide) ?_
  refine t_newq (M := mX8_init) (kc := 40) (ks := 568) (len := 10) (kd := 17) (pc := 106) h24 dX8_init_106 qX8_62 (by decide) (by decide) rfl rfl (by decide) (fun S25 n25 I25 L25 P25 h25 => ?_)
  refine t_putP (M := mX8_init) (pc := 109) (d := 0) (t := 12) h25 dX8_init_109 pX8_64 (by decide) rfl ⟨by decide, rfl⟩ (fun P26 h26 => ?_)
  refine q_aload_n (pc := 112) dX8_init_112 rfl rfl ?_
  refine q_lconst (pc := 113) dX8_init_113 rfl ?_
  refine t_putL (M := mX8_init) (pc := 114) (d := 0) h26 dX8_init_114 (pX8_68 _) (by decide) rfl ⟨by decide, rfl⟩ rfl (fun L27 h27 => ?_)
  refine q_aload_n (pc := 117) dX8_init_117 rfl rfl ?_
  refine q_lconst (pc := 118) dX8_init_118 rfl ?_
  refine t_putL (M := mX8_init) (pc := 119) (d := 0) h27 dX8_init_119 (pX8_72 _) (by decide) rfl ⟨by decide, rfl⟩ rfl (fun L28 h28 => ?_)
  refine q_aload_n (pc := 122) dX8_init_122 rfl rfl ?_
  refine t_new (M := mX8_init) (kc := 39) (ks := 566) (pc := 123) h28 dX8_init_123 nX8_75 (by decide) (fun S29 n29 I29 L29 P29 h29 => ?_)
  refine q_dup (pc := 126) dX8_init_126 rfl ?_
  refine t_callJ (M := mX8_init) (kc := 38) (ks := 246) (kc' := 1) (ks' := 320) (pc := 127) h29 dX8_init_127 kX8_77 (c_init2 h29.in) ⟨Nat.le_of_ble_eq_true rfl, Nat.le_of_ble_eq_true rfl⟩ (Nat.le_of_ble_eq_true rfl) (fun S30 n30 I30 L30 P30 h30 => ?_)
  refine t_putP (M := mX8_init) (pc := 130) (d := 0) (t := 13) h30 dX8_init_130 pX8_78 (by decide) rfl ⟨by decide, rfl⟩ (fun P31 h31 => ?_)
  refine q_iconst (pc := 133) (v := nI 0) dX8_init_133 (by decide) ?_
  refine q_istore_n (pc := 134) dX8_init_134 rfl (Nat.le_of_ble_eq_true rfl) rfl ?_
  show bq_W _ _ _ _ _ 135 [_, _] _ _ _ _ _ _ _
  refine q_iload_n (pc := 135) dX8_init_135 rfl rfl ?_
  refine q_bipush (pc := 136) (v := nI 6) dX8_init_136 (by decide) ?_
  refine q_icmp_ge (pc := 138) 160 dX8_init_138 (by decide) (fun c_138 => absurd c_138 (by decide)) (fun c_138 => ?_)
  refine q_aload_n (pc := 141) dX8_init_141 rfl rfl ?_
  refine t_getP (M := mX8_init) (pc := 142) (d := 0) (t := 1) h31 dX8_init_142 fX8_20 (by decide) rfl ⟨by decide, rfl⟩ rfl ?_
  refine q_iload_n (pc := 145) dX8_init_145 rfl rfl ?_
  refine t_new (M := mX8_init) (kc := 37) (ks := 242) (pc := 146) h31 dX8_init_146 nX8_18 (by decide) (fun S32 n32 I32 L32 P32 h32 => ?_)
  refine q_dup (pc := 149) dX8_init_149 rfl ?_
  refine t_callJ (M := mX8_init) (kc := 35) (ks := 225) (kc' := 2) (ks' := 17) (pc := 150) h32 dX8_init_150 kX8_82 (c_init9 h32.in) ⟨Nat.le_of_ble_eq_true rfl, Nat.le_of_ble_eq_true rfl⟩ (Nat.le_of_ble_eq_true rfl) (fun S33 n33 I33 L33 P33 h33 => ?_)
  refine t_aast (M := mX8_init) (pc := 153) (d := 1) (j := 0) (t := 15) h33 dX8_init_153 (by decide) rfl (by decide) rfl (by decide) (by decide) rfl (fun P34 h34 => ?_)
  refine q_iinc (pc := 154) (v := nI 1) dX8_init_154 rfl (bq_inc _) (Nat.le_of_ble_eq_true rfl) rfl ?_
  show bq_W _ _ _ _ _ 157 [_, _] _ _ _ _ _ _ _
  refine q_goto (pc := 157) 135 dX8_init_157 (by decide) ?_
  refine q_iload_n (pc := 135) dX8_init_135 rfl rfl ?_
  refine q_bipush (pc := 136) (v := nI 6) dX8_init_136 (by decide) ?_
  refine q_icmp_ge (pc := 138) 160 dX8_init_138 (by decide) (fun c_138 => absurd c_138 (by decide)) (fun c_138 => ?_)
  refine q_aload_n (pc := 141) dX8_init_141 rfl rfl ?_
  refine t_getP (M := mX8_init) (pc := 142) (d := 0) (t := 1) h34 dX8_init_142 fX8_20 (by decide) rfl ⟨by decide, rfl⟩ rfl ?_
  refine q_iload_n (pc := 145) dX8_init_145 rfl rfl ?_
  refine t_new (M := mX8_init) (kc := 34) (ks := 221) (pc := 146) h34 dX8_init_146 nX8_18 (by decide) (fun S35 n35 I35 L35 P35 h35 => ?_)
  refine q_dup (pc := 149) dX8_init_149 rfl ?_
  refine t_callJ (M := mX8_init) (kc := 32) (ks := 204) (kc' := 2) (ks' := 17) (pc := 150) h35 dX8_init_150 kX8_82 (c_init9 h35.in) ⟨Nat.le_of_ble_eq_true rfl, Nat.le_of_ble_eq_true rfl⟩ (Nat.le_of_ble_eq_true rfl) (fun S36 n36 I36 L36 P36 h36 => ?_)
  refine t_aast (M := mX8_init) (pc := 153) (d := 1) (j := 1) (t := 18) h36 dX8_init_153 (by decide) rfl (by decide) rfl (by decide) (by decide) rfl (fun P37 h37 => ?_)
  refine q_iinc (pc := 154) (v := nI 2) dX8_init_154 rfl (bq_inc _) (Nat.le_of_ble_eq_true rfl) rfl ?_
  show bq_W _ _ _ _ _ 157 [_, _] _ _ _ _ _ _ _
  refine q_goto (pc := 157) 135 dX8_init_157 (by decide) ?_
  refine q_iload_n (pc := 135) dX8_init_135 rfl rfl ?_
  refine q_bipush (pc := 136) (v := nI 6) dX8_init_136 (by decide) ?_
  refine q_icmp_ge (pc := 138) 160 dX8_init_138 (by decide) (fun c_138 => absurd c_138 (by decide)) (fun c_138 => ?_)
  refine q_aload_n (pc := 141) dX8_init_141 rfl rfl ?_
  refine t_getP (M := mX8_init) (pc := 142) (d := 0) (t := 1) h37 dX8_init_142 fX8_20 (by decide) rfl ⟨by decide, rfl⟩ rfl ?_
  refine q_iload_n (pc := 145) dX8_init_145 rfl rfl ?_
  refine t_new (M := mX8_init) (kc := 31) (ks := 200) (pc := 146) h37 dX8_init_146 nX8_18 (by decide) (fun S38 n38 I38 L38 P38 h38 => ?_)
  refine q_dup (pc := 149) dX8_init_149 rfl ?_
  refine t_callJ (M := mX8_init) (kc := 29) (ks := 183) (kc' := 2) (ks' := 17) (pc := 150) h38 dX8_init_150 kX8_82 (c_init9 h38.in) ⟨Nat.le_of_ble_eq_true rfl, Nat.le_of_ble_eq_true rfl⟩ (Nat.le_of_ble_eq_true rfl) (fun S39 n39 I39 L39 P39 h39 => ?_)
  refine t_aast (M := mX8_init) (pc := 153) (d := 1) (j := 2) (t := 21) h39 dX8_init_153 (by decide) rfl (by decide) rfl (by decide) (by decide) rfl (fun P40 h40 => ?_)
  refine q_iinc (pc := 154) (v := nI 3) dX8_init_154 rfl (bq_inc _) (Nat.le_of_ble_eq_true rfl) rfl ?_
  show bq_W _ _ _ _ _ 157 [_, _] _ _ _ _ _ _ _
  refine q_goto (pc := 157) 135 dX8_init_157 (by decide) ?_
  refine q_iload_n (pc := 135) dX8_init_135 rfl rfl ?_
  refine q_bipush (pc := 136) (v := nI 6) dX8_init_136 (by decide) ?_
  refine q_icmp_ge (pc := 138) 160 dX8_init_138 (by decide) (fun c_138 => absurd c_138 (by decide)) (fun c_138 => ?_)
  refine q_aload_n (pc := 141) dX8_init_141 rfl rfl ?_
  refine t_getP (M := mX8_init) (pc := 142) (d := 0) (t := 1) h40 dX8_init_142 fX8_20 (by decide) rfl ⟨by decide, rfl⟩ rfl ?_
  refine q_iload_n (pc := 145) dX8_init_145 rfl rfl ?_
  refine t_new (M := mX8_init) (kc := 28) (ks := 179) (pc := 146) h40 dX8_init_146 nX8_18 (by decide) (fun S41 n41 I41 L41 P41 h41 => ?_)
  refine q_dup (pc := 149) dX8_init_149 rfl ?_
  refine t_callJ (M := mX8_init) (kc := 26) (ks := 162) (kc' := 2) (ks' := 17) (pc := 150) h41 dX8_init_150 kX8_82 (c_init9 h41.in) ⟨Nat.le_of_ble_eq_true rfl, Nat.le_of_ble_eq_true rfl⟩ (Nat.le_of_ble_eq_true rfl) (fun S42 n42 I42 L42 P42 h42 => ?_)
  refine t_aast (M := mX8_init) (pc := 153) (d := 1) (j := 3) (t := 24) h42 dX8_init_153 (by decide) rfl (by decide) rfl (by decide) (by decide) rfl (fun P43 h43 => ?_)
  refine q_iinc (pc := 154) (v := nI 4) dX8_init_154 rfl (bq_inc _) (Nat.le_of_ble_eq_true rfl) rfl ?_
  show bq_W _ _ _ _ _ 157 [_, _] _ _ _ _ _ _ _
  refine q_goto (pc := 157) 135 dX8_init_157 (by decide) ?_
  refine q_iload_n (pc := 135) dX8_init_135 rfl rfl ?_
  refine q_bipush (pc := 136) (v := nI 6) dX8_init_136 (by decide) ?_
  refine q_icmp_ge (pc := 138) 160 dX8_init_138 (by decide) (fun c_138 => absurd c_138 (by decide)) (fun c_138 => ?_)
  refine q_aload_n (pc := 141) dX8_init_141 rfl rfl ?_
  refine t_getP (M := mX8_init) (pc := 142) (d := 0) (t := 1) h43 dX8_init_142 fX8_20 (by decide) rfl ⟨by decide, rfl⟩ rfl ?_
  refine q_iload_n (pc := 145) dX8_init_145 rfl rfl ?_
  refine t_new (M := mX8_init) (kc := 25) (ks := 158) (pc := 146) h43 dX8_init_146 nX8_18 (by decide) (fun S44 n44 I44 L44 P44 h44 => ?_)
  refine q_dup (pc := 149) dX8_init_149 rfl ?_
  refine t_callJ (M := mX8_init) (kc := 23) (ks := 141) (kc' := 2) (ks' := 17) (pc := 150) h44 dX8_init_150 kX8_82 (c_init9 h44.in) ⟨Nat.le_of_ble_eq_true rfl, Nat.le_of_ble_eq_true rfl⟩ (Nat.le_of_ble_eq_true rfl) (fun S45 n45 I45 L45 P45 h45 => ?_)
  refine t_aast (M := mX8_init) (pc := 153) (d := 1) (j := 4) (t := 27) h45 dX8_init_153 (by decide) rfl (by decide) rfl (by decide) (by decide) rfl (fun P46 h46 => ?_)
  refine q_iinc (pc := 154) (v := nI 5) dX8_init_154 rfl (bq_inc _) (Nat.le_of_ble_eq_true rfl) rfl ?_
  show bq_W _ _ _ _ _ 157 [_, _] _ _ _ _ _ _ _
  refine q_goto (pc := 157) 135 dX8_init_157 (by decide) ?_
  refine q_iload_n (pc := 135) dX8_init_135 rfl rfl ?_
  refine q_bipush (pc := 136) (v := nI 6) dX8_init_136 (by decide) ?_
  refine q_icmp_ge (pc := 138) 160 dX8_init_138 (by decide) (fun c_138 => absurd c_138 (by decide)) (fun c_138 => ?_)
  refine q_aload_n (pc := 141) dX8_init_141 rfl rfl ?_
  refine t_getP (M := mX8_init) (pc := 142) (d := 0) (t := 1) h46 dX8_init_142 fX8_20 (by decide) rfl ⟨by decide, rfl⟩ rfl ?_
  refine q_iload_n (pc := 145) dX8_init_145 rfl rfl ?_
  refine t_new (M := mX8_init) (kc := 22) (ks := 137) (pc := 146) h46 dX8_init_146 nX8_18 (by decide) (fun S47 n47 I47 L47 P47 h47 => ?_)
  refine q_dup (pc := 149) dX8_init_149 rfl ?_
  refine t_callJ (M := mX8_init) (kc := 20) (ks := 120) (kc' := 2) (ks' := 17) (pc := 150) h47 dX8_init_150 kX8_82 (c_init9 h47.in) ⟨Nat.le_of_ble_eq_true rfl, Nat.le_of_ble_eq_true rfl⟩ (Nat.le_of_ble_eq_true rfl) (fun S48 n48 I48 L48 P48 h48 => ?_)
  refine t_aast (M := mX8_init) (pc := 153) (d := 1) (j := 5) (t := 30) h48 dX8_init_153 (by decide) rfl (by decide) rfl (by decide) (by decide) rfl (fun P49 h49 => ?_)
  refine q_iinc (pc := 154) (v := nI 6) dX8_init_154 rfl (bq_inc _) (Nat.le_of_ble_eq_true rfl) rfl ?_
  show bq_W _ _ _ _ _ 157 [_, _] _ _ _ _ _ _ _
  refine q_goto (pc := 157) 135 dX8_init_157 (by decide) ?_
  refine q_iload_n (pc := 135) dX8_init_135 rfl rfl ?_
  refine q_bipush (pc := 136) (v := nI 6) dX8_init_136 (by decide) ?_
  refine q_icmp_ge (pc := 138) 160 dX8_init_138 (by decide) (fun c_138 => ?_) (fun c_138 => absurd (by decide) c_138)
  refine q_iconst (pc := 160) (v := nI 0) dX8_init_160 (by decide) ?_
  refine q_istore_n (pc := 161) dX8_init_161 rfl (Nat.le_of_ble_eq_true rfl) rfl ?_
  show bq_W _ _ _ _ _ 162 [_, _] _ _ _ _ _ _ _
  refine q_iload_n (pc := 162) dX8_init_162 rfl rfl ?_
  refine q_bipush (pc := 163) (v := nI 10) dX8_init_163 (by decide) ?_
  refine q_icmp_ge (pc := 165) 187 dX8_init_165 (by decide) (fun c_165 => absurd c_165 (by decide)) (fun c_165 => ?_)
  refine q_aload_n (pc := 168) dX8_init_168 rfl rfl ?_
  refine t_getP (M := mX8_init) (pc := 169) (d := 0) (t := 11) h49 dX8_init_169 fX8_55 (by decide) rfl ⟨by decide, rfl⟩ rfl ?_
  refine q_iload_n (pc := 172) dX8_init_172 rfl rfl ?_
  refine t_new (M := mX8_init) (kc := 19) (ks := 117) (pc := 173) h49 dX8_init_173 nX8_53 (by decide) (fun S50 n50 I50 L50 P50 h50 => ?_)
  refine q_dup (pc := 176) dX8_init_176 rfl ?_
  refine t_callJ (M := mX8_init) (kc := 19) (ks := 117) (kc' := 0) (ks' := 0) (pc := 177) h50 dX8_init_177 kX8_83 (c_init7 h50.in) ⟨Nat.le_of_ble_eq_true rfl, Nat.le_of_ble_eq_true rfl⟩ (Nat.le_of_ble_eq_true rfl) (fun S51 n51 I51 L51 P51 h51 => ?_)
  refine t_aast (M := mX8_init) (pc := 180) (d := 11) (j := 0) (t := 33) h51 dX8_init_180 (by decide) rfl (by decide) rfl (by decide) (by decide) rfl (fun P52 h52 => ?_)
  refine q_iinc (pc := 181) (v := nI 1) dX8_init_181 rfl (bq_inc _) (Nat.le_of_ble_eq_true rfl) rfl ?_
  show bq_W _ _ _ _ _ 184 [_, _] _ _ _ _ _ _ _
  refine q_goto (pc := 184) 162 dX8_init_184 (by decide) ?_
  refine q_iload_n (pc := 162) dX8_init_162 rfl rfl ?_
  refine q_bipush (pc := 163) (v := nI 10) dX8_init_163 (by decide) ?_
  refine q_icmp_ge (pc := 165) 187 dX8_init_165 (by decide) (fun c_165 => absurd c_165 (by decide)) (fun c_165 => ?_)
  refine q_aload_n (pc := 168) dX8_init_168 rfl rfl ?_
  refine t_getP (M := mX8_init) (pc := 169) (d := 0) (t := 11) h52 dX8_init_169 fX8_55 (by decide) rfl ⟨by decide, rfl⟩ rfl ?_
  refine q_iload_n (pc := 172) dX8_init_172 rfl rfl ?_
  refine t_new (M := mX8_init) (kc := 18) (ks := 114) (pc := 173) h52 dX8_init_173 nX8_53 (by decide) (fun S53 n53 I53 L53 P53 h53 => ?_)
  refine q_dup (pc := 176) dX8_init_176 rfl ?_
  refine t_callJ (M := mX8_init) (kc := 18) (ks := 114) (kc' := 0) (ks' := 0) (pc := 177) h53 dX8_init_177 kX8_83 (c_init7 h53.in) ⟨Nat.le_of_ble_eq_true rfl, Nat.le_of_ble_eq_true rfl⟩ (Nat.le_of_ble_eq_true rfl) (fun S54 n54 I54 L54 P54 h54 => ?_)
  refine t_aast (M := mX8_init) (pc := 180) (d := 11) (j := 1) (t := 34) h54 dX8_init_180 (by decide) rfl (by decide) rfl (by decide) (by decide) rfl (fun P55 h55 => ?_)
  refine q_iinc (pc := 181) (v := nI 2) dX8_init_181 rfl (bq_inc _) (Nat.le_of_ble_eq_true rfl) rfl ?_
  show bq_W _ _ _ _ _ 184 [_, _] _ _ _ _ _ _ _
  refine q_goto (pc := 184) 162 dX8_init_184 (by decide) ?_
  refine q_iload_n (pc := 162) dX8_init_162 rfl rfl ?_
  refine q_bipush (pc := 163) (v := nI 10) dX8_init_163 (by decide) ?_
  refine q_icmp_ge (pc := 165) 187 dX8_init_165 (by decide) (fun c_165 => absurd c_165 (by decide)) (fun c_165 => ?_)
  refine q_aload_n (pc := 168) dX8_init_168 rfl rfl ?_
  refine t_getP (M := mX8_init) (pc := 169) (d := 0) (t := 11) h55 dX8_init_169 fX8_55 (by decide) rfl ⟨by decide, rfl⟩ rfl ?_
  refine q_iload_n (pc := 172) dX8_init_172 rfl rfl ?_
  refine t_new (M := mX8_init) (kc := 17) (ks := 111) (pc := 173) h55 dX8_init_173 nX8_53 (by decide) (fun S56 n56 I56 L56 P56 h56 => ?_)
  refine q_dup (pc := 176) dX8_init_176 rfl ?_
  refine t_callJ (M := mX8_init) (kc := 17) (ks := 111) (kc' := 0) (ks' := 0) (pc := 177) h56 dX8_init_177 kX8_83 (c_init7 h56.in) ⟨Nat.le_of_ble_eq_true rfl, Nat.le_of_ble_eq_true rfl⟩ (Nat.le_of_ble_eq_true rfl) (fun S57 n57 I57 L57 P57 h57 => ?_)
  refine t_aast (M := mX8_init) (pc := 180) (d := 11) (j := 2) (t := 35) h57 dX8_init_180 (by decide) rfl (by decide) rfl (by decide) (by decide) rfl (fun P58 h58 => ?_)
  refine q_iinc (pc := 181) (v := nI 3) dX8_init_181 rfl (bq_inc _) (Nat.le_of_ble_eq_true rfl) rfl ?_
  show bq_W _ _ _ _ _ 184 [_, _] _ _ _ _ _ _ _
  refine q_goto (pc := 184) 162 dX8_init_184 (by decide) ?_
  refine q_iload_n (pc := 162) dX8_init_162 rfl rfl ?_
  refine q_bipush (pc := 163) (v := nI 10) dX8_init_163 (by decide) ?_
  refine q_icmp_ge (pc := 165) 187 dX8_init_165 (by decide) (fun c_165 => absurd c_165 (by decide)) (fun c_165 => ?_)
  refine q_aload_n (pc := 168) dX8_init_168 rfl rfl ?_
  refine t_getP (M := mX8_init) (pc := 169) (d := 0) (t := 11) h58 dX8_init_169 fX8_55 (by decide) rfl ⟨by decide, rfl⟩ rfl ?_
  refine q_iload_n (pc := 172) dX8_init_172 rfl rfl ?_
  refine t_new (M := mX8_init) (kc := 16) (ks := 108) (pc := 173) h58 dX8_init_173 nX8_53 (by decide) (fun S59 n59 I59 L59 P59 h59 => ?_)
  refine q_dup (pc := 176) dX8_init_176 rfl ?_
  refine t_callJ (M := mX8_init) (kc := 16) (ks := 108) (kc' := 0) (ks' := 0) (pc := 177) h59 dX8_init_177 kX8_83 (c_init7 h59.in) ⟨Nat.le_of_ble_eq_true rfl, Nat.le_of_ble_eq_true rfl⟩ (Nat.le_of_ble_eq_true rfl) (fun S60 n60 I60 L60 P60 h60 => ?_)
  refine t_aast (M := mX8_init) (pc := 180) (d := 11) (j := 3) (t := 36) h60 dX8_init_180 (by decide) rfl (by decide) rfl (by decide) (by decide) rfl (fun P61 h61 => ?_)
  refine q_iinc (pc := 181) (v := nI 4) dX8_init_181 rfl (bq_inc _) (Nat.le_of_ble_eq_true rfl) rfl ?_
  show bq_W _ _ _ _ _ 184 [_, _] _ _ _ _ _ _ _
  refine q_goto (pc := 184) 162 dX8_init_184 (by decide) ?_
  refine q_iload_n (pc := 162) dX8_init_162 rfl rfl ?_
  refine q_bipush (pc := 163) (v := nI 10) dX8_init_163 (by decide) ?_
  refine q_icmp_ge (pc := 165) 187 dX8_init_165 (by decide) (fun c_165 => absurd c_165 (by decide)) (fun c_165 => ?_)
  refine q_aload_n (pc := 168) dX8_init_168 rfl rfl ?_
  refine t_getP (M := mX8_init) (pc := 169) (d := 0) (t := 11) h61 dX8_init_169 fX8_55 (by decide) rfl ⟨by decide, rfl⟩ rfl ?_
  refine q_iload_n (pc := 172) dX8_init_172 rfl rfl ?_
  refine t_new (M := mX8_init) (kc := 15) (ks := 105) (pc := 173) h61 dX8_init_173 nX8_53 (by decide) (fun S62 n62 I62 L62 P62 h62 => ?_)
  refine q_dup (pc := 176) dX8_init_176 rfl ?_
  refine t_callJ (M := mX8_init) (kc := 15) (ks := 105) (kc' := 0) (ks' := 0) (pc := 177) h62 dX8_init_177 kX8_83 (c_init7 h62.in) ⟨Nat.le_of_ble_eq_true rfl, Nat.le_of_ble_eq_true rfl⟩ (Nat.le_of_ble_eq_true rfl) (fun S63 n63 I63 L63 P63 h63 => ?_)
  refine t_aast (M := mX8_init) (pc := 180) (d := 11) (j := 4) (t := 37) h63 dX8_init_180 (by decide) rfl (by decide) rfl (by decide) (by decide) rfl (fun P64 h64 => ?_)
  refine q_iinc (pc := 181) (v := nI 5) dX8_init_181 rfl (bq_inc _) (Nat.le_of_ble_eq_true rfl) rfl ?_
  show bq_W _ _ _ _ _ 184 [_, _] _ _ _ _ _ _ _
  refine q_goto (pc := 184) 162 dX8_init_184 (by decide) ?_
  refine q_iload_n (pc := 162) dX8_init_162 rfl rfl ?_
  refine q_bipush (pc := 163) (v := nI 10) dX8_init_163 (by decide) ?_
  refine q_icmp_ge (pc := 165) 187 dX8_init_165 (by decide) (fun c_165 => absurd c_165 (by decide)) (fun c_165 => ?_)
  refine q_aload_n (pc := 168) dX8_init_168 rfl rfl ?_
  refine t_getP (M := mX8_init) (pc := 169) (d := 0) (t := 11) h64 dX8_init_169 fX8_55 (by decide) rfl ⟨by decide, rfl⟩ rfl ?_
  refine q_iload_n (pc := 172) dX8_init_172 rfl rfl ?_
  refine t_new (M := mX8_init) (kc := 14) (ks := 102) (pc := 173) h64 dX8_init_173 nX8_53 (by decide) (fun S65 n65 I65 L65 P65 h65 => ?_)
  refine q_dup (pc := 176) dX8_init_176 rfl ?_
  refine t_callJ (M := mX8_init) (kc := 14) (ks := 102) (kc' := 0) (ks' := 0) (pc := 177) h65 dX8_init_177 kX8_83 (c_init7 h65.in) ⟨Nat.le_of_ble_eq_true rfl, Nat.le_of_ble_eq_true rfl⟩ (Nat.le_of_ble_eq_true rfl) (fun S66 n66 I66 L66 P66 h66 => ?_)
  refine t_aast (M := mX8_init) (pc := 180) (d := 11) (j := 5) (t := 38) h66 dX8_init_180 (by decide) rfl (by decide) rfl (by decide) (by decide) rfl (fun P67 h67 => ?_)
  refine q_iinc (pc := 181) (v := nI 6) dX8_init_181 rfl (bq_inc _) (Nat.le_of_ble_eq_true rfl) rfl ?_
  show bq_W _ _ _ _ _ 184 [_, _] _ _ _ _ _ _ _
  refine q_goto (pc := 184) 162 dX8_init_184 (by decide) ?_
  refine q_iload_n (pc := 162) dX8_init_162 rfl rfl ?_
  refine q_bipush (pc := 163) (v := nI 10) dX8_init_163 (by decide) ?_
  refine q_icmp_ge (pc := 165) 187 dX8_init_165 (by decide) (fun c_165 => absurd c_165 (by decide)) (fun c_165 => ?_)
  refine q_aload_n (pc := 168) dX8_init_168 rfl rfl ?_
  refine t_getP (M := mX8_init) (pc := 169) (d := 0) (t := 11) h67 dX8_init_169 fX8_55 (by decide) rfl ⟨by decide, rfl⟩ rfl ?_
  refine q_iload_n (pc := 172) dX8_init_172 rfl rfl ?_
  refine t_new (M := mX8_init) (kc := 13) (ks := 99) (pc := 173) h67 dX8_init_173 nX8_53 (by decide) (fun S68 n68 I68 L68 P68 h68 => ?_)
  refine q_dup (pc := 176) dX8_init_176 rfl ?_
  refine t_callJ (M := mX8_init) (kc := 13) (ks := 99) (kc' := 0) (ks' := 0) (pc := 177) h68 dX8_init_177 kX8_83 (c_init7 h68.in) ⟨Nat.le_of_ble_eq_true rfl, Nat.le_of_ble_eq_true rfl⟩ (Nat.le_of_ble_eq_true rfl) (fun S69 n69 I69 L69 P69 h69 => ?_)
  refine t_aast (M := mX8_init) (pc := 180) (d := 11) (j := 6) (t := 39) h69 dX8_init_180 (by decide) rfl (by decide) rfl (by decide) (by decide) rfl (fun P70 h70 => ?_)
  refine q_iinc (pc := 181) (v := nI 7) dX8_init_181 rfl (bq_inc _) (Nat.le_of_ble_eq_true rfl) rfl ?_
  show bq_W _ _ _ _ _ 184 [_, _] _ _ _ _ _ _ _
  refine q_goto (pc := 184) 162 dX8_init_184 (by decide) ?_
  refine q_iload_n (pc := 162) dX8_init_162 rfl rfl ?_
  refine q_bipush (pc := 163) (v := nI 10) dX8_init_163 (by decide) ?_
  refine q_icmp_ge (pc := 165) 187 dX8_init_165 (by decide) (fun c_165 => absurd c_165 (by decide)) (fun c_165 => ?_)
  refine q_aload_n (pc := 168) dX8_init_168 rfl rfl ?_
  refine t_getP (M := mX8_init) (pc := 169) (d := 0) (t := 11) h70 dX8_init_169 fX8_55 (by decide) rfl ⟨by decide, rfl⟩ rfl ?_
  refine q_iload_n (pc := 172) dX8_init_172 rfl rfl ?_
  refine t_new (M := mX8_init) (kc := 12) (ks := 96) (pc := 173) h70 dX8_init_173 nX8_53 (by decide) (fun S71 n71 I71 L71 P71 h71 => ?_)
  refine q_dup (pc := 176) dX8_init_176 rfl ?_
  refine t_callJ (M := mX8_init) (kc := 12) (ks := 96) (kc' := 0) (ks' := 0) (pc := 177) h71 dX8_init_177 kX8_83 (c_init7 h71.in) ⟨Nat.le_of_ble_eq_true rfl, Nat.le_of_ble_eq_true rfl⟩ (Nat.le_of_ble_eq_true rfl) (fun S72 n72 I72 L72 P72 h72 => ?_)
  refine t_aast (M := mX8_init) (pc := 180) (d := 11) (j := 7) (t := 40) h72 dX8_init_180 (by decide) rfl (by decide) rfl (by decide) (by decide) rfl (fun P73 h73 => ?_)
  refine q_iinc (pc := 181) (v := nI 8) dX8_init_181 rfl (bq_inc _) (Nat.le_of_ble_eq_true rfl) rfl ?_
  show bq_W _ _ _ _ _ 184 [_, _] _ _ _ _ _ _ _
  refine q_goto (pc := 184) 162 dX8_init_184 (by decide) ?_
  refine q_iload_n (pc := 162) dX8_init_162 rfl rfl ?_
  refine q_bipush (pc := 163) (v := nI 10) dX8_init_163 (by decide) ?_
  refine q_icmp_ge (pc := 165) 187 dX8_init_165 (by decide) (fun c_165 => absurd c_165 (by decide)) (fun c_165 => ?_)
  refine q_aload_n (pc := 168) dX8_init_168 rfl rfl ?_
  refine t_getP (M := mX8_init) (pc := 169) (d := 0) (t := 11) h73 dX8_init_169 fX8_55 (by decide) rfl ⟨by decide, rfl⟩ rfl ?_
  refine q_iload_n (pc := 172) dX8_init_172 rfl rfl ?_
  refine t_new (M := mX8_init) (kc := 11) (ks := 93) (pc := 173) h73 dX8_init_173 nX8_53 (by decide) (fun S74 n74 I74 L74 P74 h74 => ?_)
  refine q_dup (pc := 176) dX8_init_176 rfl ?_
  refine t_callJ (M := mX8_init) (kc := 11) (ks := 93) (kc' := 0) (ks' := 0) (pc := 177) h74 dX8_init_177 kX8_83 (c_init7 h74.in) ⟨Nat.le_of_ble_eq_true rfl, Nat.le_of_ble_eq_true rfl⟩ (Nat.le_of_ble_eq_true rfl) (fun S75 n75 I75 L75 P75 h75 => ?_)
  refine t_aast (M := mX8_init) (pc := 180) (d := 11) (j := 8) (t := 41) h75 dX8_init_180 (by decide) rfl (by decide) rfl (by decide) (by decide) rfl (fun P76 h76 => ?_)
  refine q_iinc (pc := 181) (v := nI 9) dX8_init_181 rfl (bq_inc _) (Nat.le_of_ble_eq_true rfl) rfl ?_
  show bq_W _ _ _ _ _ 184 [_, _] _ _ _ _ _ _ _
  refine q_goto (pc := 184) 162 dX8_init_184 (by decide) ?_
  refine q_iload_n (pc := 162) dX8_init_162 rfl rfl ?_
  refine q_bipush (pc := 163) (v := nI 10) dX8_init_163 (by decide) ?_
  refine q_icmp_ge (pc := 165) 187 dX8_init_165 (by decide) (fun c_165 => absurd c_165 (by decide)) (fun c_165 => ?_)
  refine q_aload_n (pc := 168) dX8_init_168 rfl rfl ?_
  refine t_getP (M := mX8_init) (pc := 169) (d := 0) (t := 11) h76 dX8_init_169 fX8_55 (by decide) rfl ⟨by decide, rfl⟩ rfl ?_
  refine q_iload_n (pc := 172) dX8_init_172 rfl rfl ?_
  refine t_new (M := mX8_init) (kc := 10) (ks := 90) (pc := 173) h76 dX8_init_173 nX8_53 (by decide) (fun S77 n77 I77 L77 P77 h77 => ?_)
  refine q_dup (pc := 176) dX8_init_176 rfl ?_
  refine t_callJ (M := mX8_init) (kc := 10) (ks := 90) (kc' := 0) (ks' := 0) (pc := 177) h77 dX8_init_177 kX8_83 (c_init7 h77.in) ⟨Nat.le_of_ble_eq_true rfl, Nat.le_of_ble_eq_true rfl⟩ (Nat.le_of_ble_eq_true rfl) (fun S78 n78 I78 L78 P78 h78 => ?_)
  refine t_aast (M := mX8_init) (pc := 180) (d := 11) (j := 9) (t := 42) h78 dX8_init_180 (by decide) rfl (by decide) rfl (by decide) (by decide) rfl (fun P79 h79 => ?_)
  refine q_iinc (pc := 181) (v := nI 10) dX8_init_181 rfl (bq_inc _) (Nat.le_of_ble_eq_true rfl) rfl ?_
  show bq_W _ _ _ _ _ 184 [_, _] _ _ _ _ _ _ _
  refine q_goto (pc := 184) 162 dX8_init_184 (by decide) ?_
  refine q_iload_n (pc := 162) dX8_init_162 rfl rfl ?_
  refine q_bipush (pc := 163) (v := nI 10) dX8_init_163 (by decide) ?_
  refine q_icmp_ge (pc := 165) 187 dX8_init_165 (by decide) (fun c_165 => ?_) (fun c_165 => absurd (by decide) c_165)
  refine q_iconst (pc := 187) (v := nI 0) dX8_init_187 (by decide) ?_
  refine q_istore_n (pc := 188) dX8_init_188 rfl (Nat.le_of_ble_eq_true rfl) rfl ?_
  show bq_W _ _ _ _ _ 189 [_, _] _ _ _ _ _ _ _
  refine q_iload_n (pc := 189) dX8_init_189 rfl rfl ?_
  refine q_bipush (pc := 190) (v := nI 10) dX8_init_190 (by decide) ?_
  refine q_icmp_ge (pc := 192) 214 dX8_init_192 (by decide) (fun c_192 => absurd c_192 (by decide)) (fun c_192 => ?_)
  refine q_aload_n (pc := 195) dX8_init_195 rfl rfl ?_
  refine t_getP (M := mX8_init) (pc := 196) (d := 0) (t := 12) h79 dX8_init_196 fX8_64 (by decide) rfl ⟨by decide, rfl⟩ rfl ?_
  refine q_iload_n (pc := 199) dX8_init_199 rfl rfl ?_
  refine t_new (M := mX8_init) (kc := 9) (ks := 81) (pc := 200) h79 dX8_init_200 nX8_62 (by decide) (fun S80 n80 I80 L80 P80 h80 => ?_)
  refine q_dup (pc := 203) dX8_init_203 rfl ?_
  refine t_callJ (M := mX8_init) (kc := 9) (ks := 81) (kc' := 0) (ks' := 0) (pc := 204) h80 dX8_init_204 kX8_84 (c_init4 h80.in) ⟨Nat.le_of_ble_eq_true rfl, Nat.le_of_ble_eq_true rfl⟩ (Nat.le_of_ble_eq_true rfl) (fun S81 n81 I81 L81 P81 h81 => ?_)
  refine t_aast (M := mX8_init) (pc := 207) (d := 12) (j := 0) (t := 43) h81 dX8_init_207 (by decide) rfl (by decide) rfl (by decide) (by decide) rfl (fun P82 h82 => ?_)
  refine q_iinc (pc := 208) (v := nI 1) dX8_init_208 rfl (bq_inc _) (Nat.le_of_ble_eq_true rfl) rfl ?_
  show bq_W _ _ _ _ _ 211 [_, _] _ _ _ _ _ _ _
  refine q_goto (pc := 211) 189 dX8_init_211 (by decide) ?_
  refine q_iload_n (pc := 189) dX8_init_189 rfl rfl ?_
  refine q_bipush (pc := 190) (v := nI 10) dX8_init_190 (by decide) ?_
  refine q_icmp_ge (pc := 192) 214 dX8_init_192 (by decide) (fun c_192 => absurd c_192 (by decide)) (fun c_192 => ?_)
  refine q_aload_n (pc := 195) dX8_init_195 rfl rfl ?_
  refine t_getP (M := mX8_init) (pc := 196) (d := 0) (t := 12) h82 dX8_init_196 fX8_64 (by decide) rfl ⟨by decide, rfl⟩ rfl ?_
  refine q_iload_n (pc := 199) dX8_init_199 rfl rfl ?_
  refine t_new (M := mX8_init) (kc := 8) (ks := 72) (pc := 200) h82 dX8_init_200 nX8_62 (by decide) (fun S83 n83 I83 L83 P83 h83 => ?_)
  refine q_dup (pc := 203) dX8_init_203 rfl ?_
  refine t_callJ (M := mX8_init) (kc := 8) (ks := 72) (kc' := 0) (ks' := 0) (pc := 204) h83 dX8_init_204 kX8_84 (c_init4 h83.in) ⟨Nat.le_of_ble_eq_true rfl, Nat.le_of_ble_eq_true rfl⟩ (Nat.le_of_ble_eq_true rfl) (fun S84 n84 I84 L84 P84 h84 => ?_)
  refine t_aast (M := mX8_init) (pc := 207) (d := 12) (j := 1) (t := 44) h84 dX8_init_207 (by decide) rfl (by decide) rfl (by decide) (by decide) rfl (fun P85 h85 => ?_)
  refine q_iinc (pc := 208) (v := nI 2) dX8_init_208 rfl (bq_inc _) (Nat.le_of_ble_eq_true rfl) rfl ?_
  show bq_W _ _ _ _ _ 211 [_, _] _ _ _ _ _ _ _
  refine q_goto (pc := 211) 189 dX8_init_211 (by decide) ?_
  refine q_iload_n (pc := 189) dX8_init_189 rfl rfl ?_
  refine q_bipush (pc := 190) (v := nI 10) dX8_init_190 (by decide) ?_
  refine q_icmp_ge (pc := 192) 214 dX8_init_192 (by decide) (fun c_192 => absurd c_192 (by decide)) (fun c_192 => ?_)
  refine q_aload_n (pc := 195) dX8_init_195 rfl rfl ?_
  refine t_getP (M := mX8_init) (pc := 196) (d := 0) (t := 12) h85 dX8_init_196 fX8_64 (by decide) rfl ⟨by decide, rfl⟩ rfl ?_
  refine q_iload_n (pc := 199) dX8_init_199 rfl rfl ?_
  refine t_new (M := mX8_init) (kc := 7) (ks := 63) (pc := 200) h85 dX8_init_200 nX8_62 (by decide) (fun S86 n86 I86 L86 P86 h86 => ?_)
  refine q_dup (pc := 203) dX8_init_203 rfl ?_
  refine t_callJ (M := mX8_init) (kc := 7) (ks := 63) (kc' := 0) (ks' := 0) (pc := 204) h86 dX8_init_204 kX8_84 (c_init4 h86.in) ⟨Nat.le_of_ble_eq_true rfl, Nat.le_of_ble_eq_true rfl⟩ (Nat.le_of_ble_eq_true rfl) (fun S87 n87 I87 L87 P87 h87 => ?_)
  refine t_aast (M := mX8_init) (pc := 207) (d := 12) (j := 2) (t := 45) h87 dX8_init_207 (by decide) rfl (by decide) rfl (by decide) (by decide) rfl (fun P88 h88 => ?_)
  refine q_iinc (pc := 208) (v := nI 3) dX8_init_208 rfl (bq_inc _) (Nat.le_of_ble_eq_true rfl) rfl ?_
  show bq_W _ _ _ _ _ 211 [_, _] _ _ _ _ _ _ _
  refine q_goto (pc := 211) 189 dX8_init_211 (by decide) ?_
  refine q_iload_n (pc := 189) dX8_init_189 rfl rfl ?_
  refine q_bipush (pc := 190) (v := nI 10) dX8_init_190 (by decide) ?_
  refine q_icmp_ge (pc := 192) 214 dX8_init_192 (by decide) (fun c_192 => absurd c_192 (by decide)) (fun c_192 => ?_)
  refine q_aload_n (pc := 195) dX8_init_195 rfl rfl ?_
  refine t_getP (M := mX8_init) (pc := 196) (d := 0) (t := 12) h88 dX8_init_196 fX8_64 (by decide) rfl ⟨by decide, rfl⟩ rfl ?_
  refine q_iload_n (pc := 199) dX8_init_199 rfl rfl ?_
  refine t_new (M := mX8_init) (kc := 6) (ks := 54) (pc := 200) h88 dX8_init_200 nX8_62 (by decide) (fun S89 n89 I89 L89 P89 h89 => ?_)
  refine q_dup (pc := 203) dX8_init_203 rfl ?_
  refine t_callJ (M := mX8_init) (kc := 6) (ks := 54) (kc' := 0) (ks' := 0) (pc := 204) h89 dX8_init_204 kX8_84 (c_init4 h89.in) ⟨Nat.le_of_ble_eq_true rfl, Nat.le_of_ble_eq_true rfl⟩ (Nat.le_of_ble_eq_true rfl) (fun S90 n90 I90 L90 P90 h90 => ?_)
  refine t_aast (M := mX8_init) (pc := 207) (d := 12) (j := 3) (t := 46) h90 dX8_init_207 (by decide) rfl (by decide) rfl (by decide) (by decide) rfl (fun P91 h91 => ?_)
  refine q_iinc (pc := 208) (v := nI 4) dX8_init_208 rfl (bq_inc _) (Nat.le_of_ble_eq_true rfl) rfl ?_
  show bq_W _ _ _ _ _ 211 [_, _] _ _ _ _ _ _ _
  refine q_goto (pc := 211) 189 dX8_init_211 (by decide) ?_
  refine q_iload_n (pc := 189) dX8_init_189 rfl rfl ?_
  refine q_bipush (pc := 190) (v := nI 10) dX8_init_190 (by decide) ?_
  refine q_icmp_ge (pc := 192) 214 dX8_init_192 (by decide) (fun c_192 => absurd c_192 (by decide)) (fun c_192 => ?_)
  refine q_aload_n (pc := 195) dX8_init_195 rfl rfl ?_
  refine t_getP (M := mX8_init) (pc := 196) (d := 0) (t := 12) h91 dX8_init_196 fX8_64 (by decide) rfl ⟨by decide, rfl⟩ rfl ?_
  refine q_iload_n (pc := 199) dX8_init_199 rfl rfl ?_
  refine t_new (M := mX8_init) (kc := 5) (ks := 45) (pc := 200) h91 dX8_init_200 nX8_62 (by decide) (fun S92 n92 I92 L92 P92 h92 => ?_)
  refine q_dup (pc := 203) dX8_init_203 rfl ?_
  refine t_callJ (M := mX8_init) (kc := 5) (ks := 45) (kc' := 0) (ks' := 0) (pc := 204) h92 dX8_init_204 kX8_84 (c_init4 h92.in) ⟨Nat.le_of_ble_eq_true rfl, Nat.le_of_ble_eq_true rfl⟩ (Nat.le_of_ble_eq_true rfl) (fun S93 n93 I93 L93 P93 h93 => ?_)
  refine t_aast (M := mX8_init) (pc := 207) (d := 12) (j := 4) (t := 47) h93 dX8_init_207 (by decide) rfl (by decide) rfl (by decide) (by decide) rfl (fun P94 h94 => ?_)
  refine q_iinc (pc := 208) (v := nI 5) dX8_init_208 rfl (bq_inc _) (Nat.le_of_ble_eq_true rfl) rfl ?_
  show bq_W _ _ _ _ _ 211 [_, _] _ _ _ _ _ _ _
  refine q_goto (pc := 211) 189 dX8_init_211 (by decide) ?_
  refine q_iload_n (pc := 189) dX8_init_189 rfl rfl ?_
  refine q_bipush (pc := 190) (v := nI 10) dX8_init_190 (by decide) ?_
  refine q_icmp_ge (pc := 192) 214 dX8_init_192 (by decide) (fun c_192 => absurd c_192 (by decide)) (fun c_192 => ?_)
  refine q_aload_n (pc := 195) dX8_init_195 rfl rfl ?_
  refine t_getP (M := mX8_init) (pc := 196) (d := 0) (t := 12) h94 dX8_init_196 fX8_64 (by decide) rfl ⟨by decide, rfl⟩ rfl ?_
  refine q_iload_n (pc := 199) dX8_init_199 rfl rfl ?_
  refine t_new (M := mX8_init) (kc := 4) (ks := 36) (pc := 200) h94 dX8_init_200 nX8_62 (by decide) (fun S95 n95 I95 L95 P95 h95 => ?_)
  refine q_dup (pc := 203) dX8_init_203 rfl ?_
  refine t_callJ (M := mX8_init) (kc := 4) (ks := 36) (kc' := 0) (ks' := 0) (pc := 204) h95 dX8_init_204 kX8_84 (c_init4 h95.in) ⟨Nat.le_of_ble_eq_true rfl, Nat.le_of_ble_eq_true rfl⟩ (Nat.le_of_ble_eq_true rfl) (fun S96 n96 I96 L96 P96 h96 => ?_)
  refine t_aast (M := mX8_init) (pc := 207) (d := 12) (j := 5) (t := 48) h96 dX8_init_207 (by decide) rfl (by decide) rfl (by decide) (by decide) rfl (fun P97 h97 => ?_)
  refine q_iinc (pc := 208) (v := nI 6) dX8_init_208 rfl (bq_inc _) (Nat.le_of_ble_eq_true rfl) rfl ?_
  show bq_W _ _ _ _ _ 211 [_, _] _ _ _ _ _ _ _
  refine q_goto (pc := 211) 189 dX8_init_211 (by decide) ?_
  refine q_iload_n (pc := 189) dX8_init_189 rfl rfl ?_
  refine q_bipush (pc := 190) (v := nI 10) dX8_init_190 (by decide) ?_
  refine q_icmp_ge (pc := 192) 214 dX8_init_192 (by decide) (fun c_192 => absurd c_192 (by decide)) (fun c_192 => ?_)
  refine q_aload_n (pc := 195) dX8_init_195 rfl rfl ?_
  refine t_getP (M := mX8_init) (pc := 196) (d := 0) (t := 12) h97 dX8_init_196 fX8_64 (by decide) rfl ⟨by decide, rfl⟩ rfl ?_
  refine q_iload_n (pc := 199) dX8_init_199 rfl rfl ?_
  refine t_new (M := mX8_init) (kc := 3) (ks := 27) (pc := 200) h97 dX8_init_200 nX8_62 (by decide) (fun S98 n98 I98 L98 P98 h98 => ?_)
  refine q_dup (pc := 203) dX8_init_203 rfl ?_
  refine t_callJ (M := mX8_init) (kc := 3) (ks := 27) (kc' := 0) (ks' := 0) (pc := 204) h98 dX8_init_204 kX8_84 (c_init4 h98.in) ⟨Nat.le_of_ble_eq_true rfl, Nat.le_of_ble_eq_true rfl⟩ (Nat.le_of_ble_eq_true rfl) (fun S99 n99 I99 L99 P99 h99 => ?_)
  refine t_aast (M := mX8_init) (pc := 207) (d := 12) (j := 6) (t := 49) h99 dX8_init_207 (by decide) rfl (by decide) rfl (by decide) (by decide) rfl (fun P100 h100 => ?_)
  refine q_iinc (pc := 208) (v := nI 7) dX8_init_208 rfl (bq_inc _) (Nat.le_of_ble_eq_true rfl) rfl ?_
  show bq_W _ _ _ _ _ 211 [_, _] _ _ _ _ _ _ _
  refine q_goto (pc := 211) 189 dX8_init_211 (by decide) ?_
  refine q_iload_n (pc := 189) dX8_init_189 rfl rfl ?_
  refine q_bipush (pc := 190) (v := nI 10) dX8_init_190 (by decide) ?_
  refine q_icmp_ge (pc := 192) 214 dX8_init_192 (by decide) (fun c_192 => absurd c_192 (by decide)) (fun c_192 => ?_)
  refine q_aload_n (pc := 195) dX8_init_195 rfl rfl ?_
  refine t_getP (M := mX8_init) (pc := 196) (d := 0) (t := 12) h100 dX8_init_196 fX8_64 (by decide) rfl ⟨by decide, rfl⟩ rfl ?_
  refine q_iload_n (pc := 199) dX8_init_199 rfl rfl ?_
  refine t_new (M := mX8_init) (kc := 2) (ks := 18) (pc := 200) h100 dX8_init_200 nX8_62 (by decide) (fun S101 n101 I101 L101 P101 h101 => ?_)
  refine q_dup (pc := 203) dX8_init_203 rfl ?_
  refine t_callJ (M := mX8_init) (kc := 2) (ks := 18) (kc' := 0) (ks' := 0) (pc := 204) h101 dX8_init_204 kX8_84 (c_init4 h101.in) ⟨Nat.le_of_ble_eq_true rfl, Nat.le_of_ble_eq_true rfl⟩ (Nat.le_of_ble_eq_true rfl) (fun S102 n102 I102 L102 P102 h102 => ?_)
  refine t_aast (M := mX8_init) (pc := 207) (d := 12) (j := 7) (t := 50) h102 dX8_init_207 (by decide) rfl (by decide) rfl (by decide) (by decide) rfl (fun P103 h103 => ?_)
  refine q_iinc (pc := 208) (v := nI 8) dX8_init_208 rfl (bq_inc _) (Nat.le_of_ble_eq_true rfl) rfl ?_
  show bq_W _ _ _ _ _ 211 [_, _] _ _ _ _ _ _ _
  refine q_goto (pc := 211) 189 dX8_init_211 (by decide) ?_
  refine q_iload_n (pc := 189) dX8_init_189 rfl rfl ?_
  refine q_bipush (pc := 190) (v := nI 10) dX8_init_190 (by decide) ?_
  refine q_icmp_ge (pc := 192) 214 dX8_init_192 (by decide) (fun c_192 => absurd c_192 (by decide)) (fun c_192 => ?_)
  refine q_aload_n (pc := 195) dX8_init_195 rfl rfl ?_
  refine t_getP (M := mX8_init) (pc := 196) (d := 0) (t := 12) h103 dX8_init_196 fX8_64 (by decide) rfl ⟨by decide, rfl⟩ rfl ?_
  refine q_iload_n (pc := 199) dX8_init_199 rfl rfl ?_
  refine t_new (M := mX8_init) (kc := 1) (ks := 9) (pc := 200) h103 dX8_init_200 nX8_62 (by decide) (fun S104 n104 I104 L104 P104 h104 => ?_)
  refine q_dup (pc := 203) dX8_init_203 rfl ?_
  refine t_callJ (M := mX8_init) (kc := 1) (ks := 9) (kc' := 0) (ks' := 0) (pc := 204) h104 dX8_init_204 kX8_84 (c_init4 h104.in) ⟨Nat.le_of_ble_eq_true rfl, Nat.le_of_ble_eq_true rfl⟩ (Nat.le_of_ble_eq_true rfl) (fun S105 n105 I105 L105 P105 h105 => ?_)
  refine t_aast (M := mX8_init) (pc := 207) (d := 12) (j := 8) (t := 51) h105 dX8_init_207 (by decide) rfl (by decide) rfl (by decide) (by decide) rfl (fun P106 h106 => ?_)
  refine q_iinc (pc := 208) (v := nI 9) dX8_init_208 rfl (bq_inc _) (Nat.le_of_ble_eq_true rfl) rfl ?_
  show bq_W _ _ _ _ _ 211 [_, _] _ _ _ _ _ _ _
  refine q_goto (pc := 211) 189 dX8_init_211 (by decide) ?_
  refine q_iload_n (pc := 189) dX8_init_189 rfl rfl ?_
  refine q_bipush (pc := 190) (v := nI 10) dX8_init_190 (by decide) ?_
  refine q_icmp_ge (pc := 192) 214 dX8_init_192 (by decide) (fun c_192 => absurd c_192 (by decide)) (fun c_192 => ?_)
  refine q_aload_n (pc := 195) dX8_init_195 rfl rfl ?_
  refine t_getP (M := mX8_init) (pc := 196) (d := 0) (t := 12) h106 dX8_init_196 fX8_64 (by decide) rfl ⟨by decide, rfl⟩ rfl ?_
  refine q_iload_n (pc := 199) dX8_init_199 rfl rfl ?_
  refine t_new (M := mX8_init) (kc := 0) (ks := 0) (pc := 200) h106 dX8_init_200 nX8_62 (by decide) (fun S107 n107 I107 L107 P107 h107 => ?_)
  refine q_dup (pc := 203) dX8_init_203 rfl ?_
  refine t_callJ (M := mX8_init) (kc := 0) (ks := 0) (kc' := 0) (ks' := 0) (pc := 204) h107 dX8_init_204 kX8_84 (c_init4 h107.in) ⟨Nat.le_of_ble_eq_true rfl, Nat.le_of_ble_eq_true rfl⟩ (Nat.le_of_ble_eq_true rfl) (fun S108 n108 I108 L108 P108 h108 => ?_)
  refine t_aast (M := mX8_init) (pc := 207) (d := 12) (j := 9) (t := 52) h108 dX8_init_207 (by decide) rfl (by decide) rfl (by decide) (by decide) rfl (fun P109 h109 => ?_)
  refine q_iinc (pc := 208) (v := nI 10) dX8_init_208 rfl (bq_inc _) (Nat.le_of_ble_eq_true rfl) rfl ?_
  show bq_W _ _ _ _ _ 211 [_, _] _ _ _ _ _ _ _
  refine q_goto (pc := 211) 189 dX8_init_211 (by decide) ?_
  refine q_iload_n (pc := 189) dX8_init_189 rfl rfl ?_
  refine q_bipush (pc := 190) (v := nI 10) dX8_init_190 (by decide) ?_
  refine q_icmp_ge (pc := 192) 214 dX8_init_192 (by decide) (fun c_192 => ?_) (fun c_192 => absurd (by decide) c_192)
  exact q_vret (st := []) (pc := 214) dX8_init_214 rfl ⟨rfl, h109⟩
