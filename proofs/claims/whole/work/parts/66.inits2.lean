/-! the constructors of the cellar and of the model -/
def tb11_0 : BqTb := t0 11
def tb11_1 : BqTb := tN tb11_0 1 (8, 0)
def tb11_2 : BqTb := tM tb11_0 1 tb8
def tb11_3 : BqTb := tP tb11_2 0 0 1
def tb11_4 : BqTb := tN tb11_3 54 (19, 7)
def tb11_5 : BqTb := tP tb11_4 0 1 54
def tb11_6 : BqTb := tI tb11_5 0 2 (nI 0)
def tb11_7 : BqTb := tN tb11_6 55 (8, 0)
def tb11_8 : BqTb := tM tb11_6 55 tb8
def tb11_9 : BqTb := tP tb11_8 0 3 55
def tb11_10 : BqTb := tI tb11_9 0 4 (nI 0)
def tb11_11 : BqTb := tN tb11_10 108 (10, 0)
def tb11_12 : BqTb := tM tb11_10 108 tb10
def tb11_13 : BqTb := tP tb11_12 0 5 108
def tb11_14 : BqTb := tN tb11_13 131 (5, 0)
def tb11_15 : BqTb := tM tb11_13 131 tb5
def tb11_16 : BqTb := tP tb11_15 0 6 131
def tb11_17 : BqTb := tN tb11_16 152 (3, 0)
def tb11_18 : BqTb := tM tb11_16 152 tb3
def tb11_19 : BqTb := tP tb11_18 0 7 152
def tb11_20 : BqTb := tN tb11_19 157 (6, 0)
def tb11_21 : BqTb := tM tb11_19 157 tb6
def tb11_22 : BqTb := tP tb11_21 0 8 157
def tb11_23 : BqTb := tN tb11_22 161 (6, 0)
def tb11_24 : BqTb := tM tb11_22 161 tb6
def tb11_25 : BqTb := tP tb11_24 0 9 161
def tb11_26 : BqTb := tI tb11_25 0 10 (-5)
def tb11_27 : BqTb := tN tb11_26 165 (8, 0)
def tb11_28 : BqTb := tM tb11_26 165 tb8
def tb11_29 : BqTb := tP tb11_28 54 0 165
def tb11_30 : BqTb := tN tb11_29 218 (8, 0)
def tb11_31 : BqTb := tM tb11_29 218 tb8
def tb11_32 : BqTb := tP tb11_31 54 1 218
def tb11_33 : BqTb := tN tb11_32 271 (8, 0)
def tb11_34 : BqTb := tM tb11_32 271 tb8
def tb11_35 : BqTb := tP tb11_34 54 2 271
def tb11_36 : BqTb := tN tb11_35 324 (8, 0)
def tb11_37 : BqTb := tM tb11_35 324 tb8
def tb11_38 : BqTb := tP tb11_37 54 3 324
def tb11_39 : BqTb := tN tb11_38 377 (8, 0)
def tb11_40 : BqTb := tM tb11_38 377 tb8
def tb11_41 : BqTb := tP tb11_40 54 4 377
def tb11_42 : BqTb := tN tb11_41 430 (8, 0)
def tb11_43 : BqTb := tM tb11_41 430 tb8
def tb11_44 : BqTb := tP tb11_43 54 5 430
def tb11_45 : BqTb := tN tb11_44 483 (8, 0)
def tb11_46 : BqTb := tM tb11_44 483 tb8
def tb11_47 : BqTb := tP tb11_46 54 6 483
def tb11 : BqTb := tb11_47
set_option maxHeartbeats 5920000 in
set_option maxRecDepth 20000 in
theorem c_init11 {S : BqH} {n : Nat} {I : BqI} {L : BqL} {P : BqP} {o : Nat} {S0 : BqH} {I0 : BqI} {L0 : BqL} {P0 : BqP} (h0 : BB o 1 (t0 11) S0 I0 L0 P0 S n I L P) : bq_Sp mX11_init 5 81 535 6741 [.ref o] S n I L P (qB o 536 tb11 S0 I0 L0 P0) := by
  refine q_entry (vs := [some (.ref o), none]) (by decide +kernel) (by simp) (Nat.le_of_ble_eq_true rfl) rfl ?_
  refine q_aload_n (pc := 0) dX11_init_0 rfl rfl ?_
  refine q_objInit (pc := 1) dX11_init_1 kX11_1 ⟨Nat.le_of_ble_eq_true rfl, Nat.le_of_ble_eq_true rfl⟩ ?_
  refine q_aload_n (pc := 4) dX11_init_4 rfl rfl ?_
  refine t_new (M := mX11_init) (kc := 534) (ks := 6724) (pc := 5) h0 dX11_init_5 nX11_7 (by decide) (fun S1 n1 I1 L1 P1 h1 => ?_)
  refine q_dup (pc := 8) dX11_init_8 rfl ?_
  refine t_callI (M := mX11_init) (kc := 482) (ks := 6043) (kc' := 52) (ks' := 681) (pc := 9) h1 dX11_init_9 kX11_9 (c_init8 h1.in) ⟨Nat.le_of_ble_eq_true rfl, Nat.le_of_ble_eq_true rfl⟩ (Nat.le_of_ble_eq_true rfl) (fun S2 n2 I2 L2 P2 h2 => ?_)
  refine t_putP (M := mX11_init) (pc := 12) (d := 0) (t := 1) h2 dX11_init_12 pX11_10 (by decide) rfl ⟨by decide, rfl⟩ (fun P3 h3 => ?_)
  refine q_aload_n (pc := 15) dX11_init_15 rfl rfl ?_
  refine q_bipush (pc := 16) (v := nI 7) dX11_init_16 (by decide) ?_
  refine t_newq (M := mX11_init) (kc := 481) (ks := 6036) (len := 7) (kd := 19) (pc := 18) h3 dX11_init_18 qX11_7 (by decide) (by decide) rfl rfl (by decide) (fun S4 n4 I4 L4 P4 h4 => ?_)
  refine t_putP (M := mX11_init) (pc := 21) (d := 0) (t := 54) h4 dX11_init_21 pX11_16 (by decide) rfl ⟨by decide, rfl⟩ (fun P5 h5 => ?_)
  refine q_aload_n (pc := 24) dX11_init_24 rfl rfl ?_
  refine q_iconst (pc := 25) (v := nI 0) dX11_init_25 (by decide) ?_
  refine t_putI (M := mX11_init) (pc := 26) (d := 0) h5 dX11_init_26 (pX11_20 _) (by decide) rfl ⟨by decide, rfl⟩ (fun I6 h6 => ?_)
  refine q_aload_n (pc := 29) dX11_init_29 rfl rfl ?_
  refine t_new (M := mX11_init) (kc := 480) (ks := 6019) (pc := 30) h6 dX11_init_30 nX11_7 (by decide) (fun S7 n7 I7 L7 P7 h7 => ?_)
  refine q_dup (pc := 33) dX11_init_33 rfl ?_
  refine t_callI (M := mX11_init) (kc := 428) (ks := 5338) (kc' := 52) (ks' := 681) (pc := 34) h7 dX11_init_34 kX11_9 (c_init8 h7.in) ⟨Nat.le_of_ble_eq_true rfl, Nat.le_of_ble_eq_true rfl⟩ (Nat.le_of_ble_eq_true rfl) (fun S8 n8 I8 L8 P8 h8 => ?_)
  refine t_putP (M := mX11_init) (pc := 37) (d := 0) (t := 55) h8 dX11_init_37 pX11_24 (by decide) rfl ⟨by decide, rfl⟩ (fun P9 h9 => ?_)
  refine q_aload_n (pc := 40) dX11_init_40 rfl rfl ?_
  refine q_iconst (pc := 41) (v := nI 0) dX11_init_41 (by decide) ?_
  refine t_putZ (M := mX11_init) (pc := 42) (d := 0) h9 dX11_init_42 (pX11_27 _) (by decide) rfl ⟨by decide, rfl⟩ (by decide) (fun I10 h10 => ?_)
  refine q_aload_n (pc := 45) dX11_init_45 rfl rfl ?_
  refine t_new (M := mX11_init) (kc := 427) (ks := 5332) (pc := 46) h10 dX11_init_46 nX11_31 (by decide) (fun S11 n11 I11 L11 P11 h11 => ?_)
  refine q_dup (pc := 49) dX11_init_49 rfl ?_
  refine t_callI (M := mX11_init) (kc := 405) (ks := 5172) (kc' := 22) (ks' := 160) (pc := 50) h11 dX11_init_50 kX11_33 (c_init10 h11.in) ⟨Nat.le_of_ble_eq_true rfl, Nat.le_of_ble_eq_true rfl⟩ (Nat.le_of_ble_eq_true rfl) (fun S12 n12 I12 L12 P12 h12 => ?_)
  refine t_putP (M := mX11_init) (pc := 53) (d := 0) (t := 108) h12 dX11_init_53 pX11_34 (by decide) rfl ⟨by decide, rfl⟩ (fun P13 h13 => ?_)
  refine q_aload_n (pc := 56) dX11_init_56 rfl rfl ?_
  refine t_new (M := mX11_init) (kc := 404) (ks := 5165) (pc := 57) h13 dX11_init_57 nX11_38 (by decide) (fun S14 n14 I14 L14 P14 h14 => ?_)
  refine q_dup (pc := 60) dX11_init_60 rfl ?_
  refine t_callI (M := mX11_init) (kc := 384) (ks := 4992) (kc' := 20) (ks' := 173) (pc := 61) h14 dX11_init_61 kX11_40 (c_init5 h14.in) ⟨Nat.le_of_ble_eq_true rfl, Nat.le_of_ble_eq_true rfl⟩ (Nat.le_of_ble_eq_true rfl) (fun S15 n15 I15 L15 P15 h15 => ?_)
  refine t_putP (M := mX11_init) (pc := 64) (d := 0) (t := 131) h15 dX11_init_64 pX11_41 (by decide) rfl ⟨by decide, rfl⟩ (fun P16 h16 => ?_)
  refine q_aload_n (pc := 67) dX11_init_67 rfl rfl ?_
  refine t_new (M := mX11_init) (kc := 383) (ks := 4991) (pc := 68) h16 dX11_init_68 nX11_45 (by decide) (fun S17 n17 I17 L17 P17 h17 => ?_)
  refine q_dup (pc := 71) dX11_init_71 rfl ?_
  refine t_callJ (M := mX11_init) (kc := 379) (ks := 4956) (kc' := 4) (ks' := 35) (pc := 72) h17 dX11_init_72 kX11_47 (c_init3 h17.in) ⟨Nat.le_of_ble_eq_true rfl, Nat.le_of_ble_eq_true rfl⟩ (Nat.le_of_ble_eq_true rfl) (fun S18 n18 I18 L18 P18 h18 => ?_)
  refine t_putP (M := mX11_init) (pc := 75) (d := 0) (t := 152) h18 dX11_init_75 pX11_48 (by decide) rfl ⟨by decide, rfl⟩ (fun P19 h19 => ?_)
  refine q_aload_n (pc := 78) dX11_init_78 rfl rfl ?_
  refine t_new (M := mX11_init) (kc := 378) (ks := 4954) (pc := 79) h19 dX11_init_79 nX11_52 (by decide) (fun S20 n20 I20 L20 P20 h20 => ?_)
  refine q_dup (pc := 82) dX11_init_82 rfl ?_
  refine t_callJ (M := mX11_init) (kc := 375) (ks := 4921) (kc' := 3) (ks' := 33) (pc := 83) h20 dX11_init_83 kX11_54 (c_init6 h20.in) ⟨Nat.le_of_ble_eq_true rfl, Nat.le_of_ble_eq_true rfl⟩ (Nat.le_of_ble_eq_true rfl) (fun S21 n21 I21 L21 P21 h21 => ?_)
  refine t_putP (M := mX11_init) (pc := 86) (d := 0) (t := 157) h21 dX11_init_86 pX11_55 (by decide) rfl ⟨by decide, rfl⟩ (fun P22 h22 => ?_)
  refine q_aload_n (pc := 89) dX11_init_89 rfl rfl ?_
  refine t_new (M := mX11_init) (kc := 374) (ks := 4919) (pc := 90) h22 dX11_init_90 nX11_52 (by decide) (fun S23 n23 I23 L23 P23 h23 => ?_)
  refine q_dup (pc := 93) dX11_init_93 rfl ?_
  refine t_callJ (M := mX11_init) (kc := 371) (ks := 4886) (kc' := 3) (ks' := 33) (pc := 94) h23 dX11_init_94 kX11_54 (c_init6 h23.in) ⟨Nat.le_of_ble_eq_true rfl, Nat.le_of_ble_eq_true rfl⟩ (Nat.le_of_ble_eq_true rfl) (fun S24 n24 I24 L24 P24 h24 => ?_)
  refine t_putP (M := mX11_init) (pc := 97) (d := 0) (t := 161) h24 dX11_init_97 pX11_59 (by decide) rfl ⟨by decide, rfl⟩ (fun P25 h25 => ?_)
  refine q_aload_n (pc := 100) dX11_init_100 rfl rfl ?_
  refine q_bipush (pc := 101) (v := (-5)) dX11_init_101 (by decide) ?_
  refine t_putI (M := mX11_init) (pc := 103) (d := 0) h25 dX11_init_103 (pX11_62 _) (by decide) rfl ⟨by decide, rfl⟩ (fun I26 h26 => ?_)
  refine q_iconst (pc := 106) (v := nI 0) dX11_init_106 (by decide) ?_
  refine q_istore_n (pc := 107) dX11_init_107 rfl (Nat.le_of_ble_eq_true rfl) rfl ?_
  show bq_W _ _ _ _ _ 108 [_, _] _ _ _ _ _ _ _
  refine q_iload_n (pc := 108) dX11_init_108 rfl rfl ?_
  refine q_bipush (pc := 109) (v := nI 6) dX11_init_109 (by decide) ?_
  refine q_icmp_gt (pc := 111) 133 dX11_init_111 (by decide) (fun c_111 => absurd c_111 (by decide)) (fun c_111 => ?_)
  refine q_aload_n (pc := 114) dX11_init_114 rfl rfl ?_
  refine t_getP (M := mX11_init) (pc := 115) (d := 0) (t := 54) h26 dX11_init_115 fX11_16 (by decide) rfl ⟨by decide, rfl⟩ rfl ?_
  refine q_iload_n (pc := 118) dX11_init_118 rfl rfl ?_
  refine t_new (M := mX11_init) (kc := 370) (ks := 4869) (pc := 119) h26 dX11_init_119 nX11_7 (by decide) (fun S27 n27 I27 L27 P27 h27 => ?_)
  refine q_dup (pc := 122) dX11_init_122 rfl ?_
  refine t_callI (M := mX11_init) (kc := 318) (ks := 4188) (kc' := 52) (ks' := 681) (pc := 123) h27 dX11_init_123 kX11_9 (c_init8 h27.in) ⟨Nat.le_of_ble_eq_true rfl, Nat.le_of_ble_eq_true rfl⟩ (Nat.le_of_ble_eq_true rfl) (fun S28 n28 I28 L28 P28 h28 => ?_)
  refine t_aast (M := mX11_init) (pc := 126) (d := 54) (j := 0) (t := 165) h28 dX11_init_126 (by decide) rfl (by decide) rfl (by decide) (by decide) rfl (fun P29 h29 => ?_)
  refine q_iinc (pc := 127) (v := nI 1) dX11_init_127 rfl (bq_inc _) (Nat.le_of_ble_eq_true rfl) rfl ?_
  show bq_W _ _ _ _ _ 130 [_, _] _ _ _ _ _ _ _
  refine q_goto (pc := 130) 108 dX11_init_130 (by decide) ?_
  refine q_iload_n (pc := 108) dX11_init_108 rfl rfl ?_
  refine q_bipush (pc := 109) (v := nI 6) dX11_init_109 (by decide) ?_
  refine q_icmp_gt (pc := 111) 133 dX11_init_111 (by decide) (fun c_111 => absurd c_111 (by decide)) (fun c_111 => ?_)
  refine q_aload_n (pc := 114) dX11_init_114 rfl rfl ?_
  refine t_getP (M := mX11_init) (pc := 115) (d := 0) (t := 54) h29 dX11_init_115 fX11_16 (by decide) rfl ⟨by decide, rfl⟩ rfl ?_
  refine q_iload_n (pc := 118) dX11_init_118 rfl rfl ?_
  refine t_new (M := mX11_init) (kc := 317) (ks := 4171) (pc := 119) h29 dX11_init_119 nX11_7 (by decide) (fun S30 n30 I30 L30 P30 h30 => ?_)
  refine q_dup (pc := 122) dX11_init_122 rfl ?_
  refine t_callI (M := mX11_init) (kc := 265) (ks := 3490) (kc' := 52) (ks' := 681) (pc := 123) h30 dX11_init_123 kX11_9 (c_init8 h30.in) ⟨Nat.le_of_ble_eq_true rfl, Nat.le_of_ble_eq_true rfl⟩ (Nat.le_of_ble_eq_true rfl) (fun S31 n31 I31 L31 P31 h31 => ?_)
  refine t_aast (M := mX11_init) (pc := 126) (d := 54) (j := 1) (t := 218) h31 dX11_init_126 (by decide) rfl (by decide) rfl (by decide) (by decide) rfl (fun P32 h32 => ?_)
  refine q_iinc (pc := 127) (v := nI 2) dX11_init_127 rfl (bq_inc _) (Nat.le_of_ble_eq_true rfl) rfl ?_
  show bq_W _ _ _ _ _ 130 [_, _] _ _ _ _ _ _ _
  refine q_goto (pc := 130) 108 dX11_init_130 (by decide) ?_
  refine q_iload_n (pc := 108) dX11_init_108 rfl rfl ?_
  refine q_bipush (pc := 109) (v := nI 6) dX11_init_109 (by decide) ?_
  refine q_icmp_gt (pc := 111) 133 dX11_init_111 (by decide) (fun c_111 => absurd c_111 (by decide)) (fun c_111 => ?_)
  refine q_aload_n (pc := 114) dX11_init_114 rfl rfl ?_
  refine t_getP (M := mX11_init) (pc := 115) (d := 0) (t := 54) h32 dX11_init_115 fX11_16 (by decide) rfl ⟨by decide, rfl⟩ rfl ?_
  refine q_iload_n (pc := 118) dX11_init_118 rfl rfl ?_
  refine t_new (M := mX11_init) (kc := 264) (ks := 3473) (pc := 119) h32 dX11_init_119 nX11_7 (by decide) (fun S33 n33 I33 L33 P33 h33 => ?_)
  refine q_dup (pc := 122) dX11_init_122 rfl ?_
  refine t_callI (M := mX11_init) (kc := 212) (ks := 2792) (kc' := 52) (ks' := 681) (pc := 123) h33 dX11_init_123 kX11_9 (c_init8 h33.in) ⟨Nat.le_of_ble_eq_true rfl, Nat.le_of_ble_eq_true rfl⟩ (Nat.le_of_ble_eq_true rfl) (fun S34 n34 I34 L34 P34 h34 => ?_)
  refine t_aast (M := mX11_init) (pc := 126) (d := 54) (j := 2) (t := 271) h34 dX11_init_126 (by decide) rfl (by decide) rfl (by decide) (by decide) rfl (fun P35 h35 => ?_)
  refine q_iinc (pc := 127) (v := nI 3) dX11_init_127 rfl (bq_inc _) (Nat.le_of_ble_eq_true rfl) rfl ?_
  show bq_W _ _ _ _ _ 130 [_, _] _ _ _ _ _ _ _
  refine q_goto (pc := 130) 108 dX11_init_130 (by decide) ?_
  refine q_iload_n (pc := 108) dX11_init_108 rfl rfl ?_
  refine q_bipush (pc := 109) (v := nI 6) dX11_init_109 (by decide) ?_
  refine q_icmp_gt (pc := 111) 133 dX11_init_111 (by decide) (fun c_111 => absurd c_111 (by decide)) (fun c_111 => ?_)
  refine q_aload_n (pc := 114) dX11_init_114 rfl rfl ?_
  refine t_getP (M := mX11_init) (pc := 115) (d := 0) (t := 54) h35 dX11_init_115 fX11_16 (by decide) rfl ⟨by decide, rfl⟩ rfl ?_
  refine q_iload_n (pc := 118) dX11_init_118 rfl rfl ?_
  refine t_new (M := mX11_init) (kc := 211) (ks := 2775) (pc := 119) h35 dX11_init_119 nX11_7 (by decide) (fun S36 n36 I36 L36 P36 h36 => ?_)
  refine q_dup (pc := 122) dX11_init_122 rfl ?_
  refine t_callI (M := mX11_init) (kc := 159) (ks := 2094) (kc' := 52) (ks' := 681) (pc := 123) h36 dX11_init_123 kX11_9 (c_init8 h36.in) ⟨Nat.le_of_ble_eq_true rfl, Nat.le_of_ble_eq_true rfl⟩ (Nat.le_of_ble_eq_true rfl) (fun S37 n37 I37 L37 P37 h37 => ?_)
  refine t_aast (M := mX11_init) (pc := 126) (d := 54) (j := 3) (t := 324) h37 dX11_init_126 (by decide) rfl (by decide) rfl (by decide) (by decide) rfl (fun P38 h38 => ?_)
  refine q_iinc (pc := 127) (v := nI 4) dX11_init_127 rfl (bq_inc _) (Nat.le_of_ble_eq_true rfl) rfl ?_
  show bq_W _ _ _ _ _ 130 [_, _] _ _ _ _ _ _ _
  refine q_goto (pc := 130) 108 dX11_init_130 (by decide) ?_
  refine q_iload_n (pc := 108) dX11_init_108 rfl rfl ?_
  refine q_bipush (pc := 109) (v := nI 6) dX11_init_109 (by decide) ?_
  refine q_icmp_gt (pc := 111) 133 dX11_init_111 (by decide) (fun c_111 => absurd c_111 (by decide)) (fun c_111 => ?_)
  refine q_aload_n (pc := 114) dX11_init_114 rfl rfl ?_
  refine t_getP (M := mX11_init) (pc := 115) (d := 0) (t := 54) h38 dX11_init_115 fX11_16 (by decide) rfl ⟨by decide, rfl⟩ rfl ?_
  refine q_iload_n (pc := 118) dX11_init_118 rfl rfl ?_
  refine t_new (M := mX11_init) (kc := 158) (ks := 2077) (pc := 119) h38 dX11_init_119 nX11_7 (by decide) (fun S39 n39 I39 L39 P39 h39 => ?_)
  refine q_dup (pc := 122) dX11_init_122 rfl ?_
  refine t_callI (M := mX11_init) (kc := 106) (ks := 1396) (kc' := 52) (ks' := 681) (pc := 123) h39 dX11_init_123 kX11_9 (c_init8 h39.in) ⟨Nat.le_of_ble_eq_true rfl, Nat.le_of_ble_eq_true rfl⟩ (Nat.le_of_ble_eq_true rfl) (fun S40 n40 I40 L40 P40 h40 => ?_)
  refine t_aast (M := mX11_init) (pc := 126) (d := 54) (j := 4) (t := 377) h40 dX11_init_126 (by decide) rfl (by decide) rfl (by decide) (by decide) rfl (fun P41 h41 => ?_)
  refine q_iinc (pc := 127) (v := nI 5) dX11_init_127 rfl (bq_inc _) (Nat.le_of_ble_eq_true rfl) rfl ?_
  show bq_W _ _ _ _ _ 130 [_, _] _ _ _ _ _ _ _
  refine q_goto (pc := 130) 108 dX11_init_130 (by decide) ?_
  refine q_iload_n (pc := 108) dX11_init_108 rfl rfl ?_
  refine q_bipush (pc := 109) (v := nI 6) dX11_init_109 (by decide) ?_
  refine q_icmp_gt (pc := 111) 133 dX11_init_111 (by decide) (fun c_111 => absurd c_111 (by decide)) (fun c_111 => ?_)
  refine q_aload_n (pc := 114) dX11_init_114 rfl rfl ?_
  refine t_getP (M := mX11_init) (pc := 115) (d := 0) (t := 54) h41 dX11_init_115 fX11_16 (by decide) rfl ⟨by decide, rfl⟩ rfl ?_
  refine q_iload_n (pc := 118) dX11_init_118 rfl rfl ?_
  refine t_new (M := mX11_init) (kc := 105) (ks := 1379) (pc := 119) h41 dX11_init_119 nX11_7 (by decide) (fun S42 n42 I42 L42 P42 h42 => ?_)
  refine q_dup (pc := 122) dX11_init_122 rfl ?_
  refine t_callI (M := mX11_init) (kc := 53) (ks := 698) (kc' := 52) (ks' := 681) (pc := 123) h42 dX11_init_123 kX11_9 (c_init8 h42.in) ⟨Nat.le_of_ble_eq_true rfl, Nat.le_of_ble_eq_true rfl⟩ (Nat.le_of_ble_eq_true rfl) (fun S43 n43 I43 L43 P43 h43 => ?_)
  refine t_aast (M := mX11_init) (pc := 126) (d := 54) (j := 5) (t := 430) h43 dX11_init_126 (by decide) rfl (by decide) rfl (by decide) (by decide) rfl (fun P44 h44 => ?_)
  refine q_iinc (pc := 127) (v := nI 6) dX11_init_127 rfl (bq_inc _) (Nat.le_of_ble_eq_true rfl) rfl ?_
  show bq_W _ _ _ _ _ 130 [_, _] _ _ _ _ _ _ _
  refine q_goto (pc := 130) 108 dX11_init_130 (by decide) ?_
  refine q_iload_n (pc := 108) dX11_init_108 rfl rfl ?_
  refine q_bipush (pc := 109) (v := nI 6) dX11_init_109 (by decide) ?_
  refine q_icmp_gt (pc := 111) 133 dX11_init_111 (by decide) (fun c_111 => absurd c_111 (by decide)) (fun c_111 => ?_)
  refine q_aload_n (pc := 114) dX11_init_114 rfl rfl ?_
  refine t_getP (M := mX11_init) (pc := 115) (d := 0) (t := 54) h44 dX11_init_115 fX11_16 (by decide) rfl ⟨by decide, rfl⟩ rfl ?_
  refine q_iload_n (pc := 118) dX11_init_118 rfl rfl ?_
  refine t_new (M := mX11_init) (kc := 52) (ks := 681) (pc := 119) h44 dX11_init_119 nX11_7 (by decide) (fun S45 n45 I45 L45 P45 h45 => ?_)
  refine q_dup (pc := 122) dX11_init_122 rfl ?_
  refine t_callI (M := mX11_init) (kc := 0) (ks := 0) (kc' := 52) (ks' := 681) (pc := 123) h45 dX11_init_123 kX11_9 (c_init8 h45.in) ⟨Nat.le_of_ble_eq_true rfl, Nat.le_of_ble_eq_true rfl⟩ (Nat.le_of_ble_eq_true rfl) (fun S46 n46 I46 L46 P46 h46 => ?_)
  refine t_aast (M := mX11_init) (pc := 126) (d := 54) (j := 6) (t := 483) h46 dX11_init_126 (by decide) rfl (by decide) rfl (by decide) (by decide) rfl (fun P47 h47 => ?_)
  refine q_iinc (pc := 127) (v := nI 7) dX11_init_127 rfl (bq_inc _) (Nat.le_of_ble_eq_true rfl) rfl ?_
  show bq_W _ _ _ _ _ 130 [_, _] _ _ _ _ _ _ _
  refine q_goto (pc := 130) 108 dX11_init_130 (by decide) ?_
  refine q_iload_n (pc := 108) dX11_init_108 rfl rfl ?_
  refine q_bipush (pc := 109) (v := nI 6) dX11_init_109 (by decide) ?_
  refine q_icmp_gt (pc := 111) 133 dX11_init_111 (by decide) (fun c_111 => ?_) (fun c_111 => absurd (by decide) c_111)
  exact q_vret (st := []) (pc := 133) dX11_init_133 rfl ⟨rfl, h47⟩
def tb12_0 : BqTb := t0 12
def tb12_1 : BqTb := tN tb12_0 1 (13, 650)
def tb12_2 : BqTb := tP tb12_1 0 0 1
def tb12_3 : BqTb := tN tb12_2 2 (13, 3900)
def tb12_4 : BqTb := tP tb12_3 0 1 2
def tb12_5 : BqTb := tN tb12_4 3 (13, 650)
def tb12_6 : BqTb := tP tb12_5 0 3 3
def tb12_7 : BqTb := tN tb12_6 4 (13, 650)
def tb12_8 : BqTb := tP tb12_7 0 5 4
def tb12_9 : BqTb := tN tb12_8 5 (13, 60)
def tb12_10 : BqTb := tP tb12_9 0 8 5
def tb12_11 : BqTb := tN tb12_10 6 (13, 16)
def tb12_12 : BqTb := tP tb12_11 0 10 6
def tb12_13 : BqTb := tN tb12_12 7 (13, 16)
def tb12_14 : BqTb := tP tb12_13 0 11 7
def tb12_15 : BqTb := tN tb12_14 8 (13, 16)
def tb12_16 : BqTb := tP tb12_15 0 12 8
def tb12_17 : BqTb := tN tb12_16 9 (13, 10)
def tb12_18 : BqTb := tP tb12_17 0 13 9
def tb12_19 : BqTb := tN tb12_18 10 (13, 10)
def tb12_20 : BqTb := tP tb12_19 0 14 10
def tb12_21 : BqTb := tN tb12_20 11 (14, 10)
def tb12_22 : BqTb := tP tb12_21 0 15 11
def tb12_23 : BqTb := tN tb12_22 12 (13, 96)
def tb12_24 : BqTb := tP tb12_23 0 16 12
def tb12_25 : BqTb := tN tb12_24 13 (13, 240)
def tb12_26 : BqTb := tP tb12_25 0 20 13
def tb12_27 : BqTb := tI tb12_26 1 10 (nI 1000)
def tb12_28 : BqTb := tI tb12_27 1 29 (nI 1000)
def tb12_29 : BqTb := tI tb12_28 1 48 (nI 1000)
def tb12_30 : BqTb := tI tb12_29 1 67 (nI 1000)
def tb12_31 : BqTb := tI tb12_30 1 86 (nI 1000)
def tb12_32 : BqTb := tI tb12_31 1 105 (nI 1000)
def tb12_33 : BqTb := tI tb12_32 1 4 (nI 5)
def tb12 : BqTb := tb12_33
set_option maxHeartbeats 6240000 in
set_option maxRecDepth 20000 in
theorem c_init12 {S : BqH} {n : Nat} {I : BqI} {L : BqL} {P : BqP} {o : Nat} {S0 : BqH} {I0 : BqI} {L0 : BqL} {P0 : BqP} (h0 : BB o 1 (t0 12) S0 I0 L0 P0 S n I L P) : bq_Sp mX12_init 2 20 13 6324 [.ref o] S n I L P (qB o 14 tb12 S0 I0 L0 P0) := by
  refine q_entry (vs := [some (.ref o), none]) (by decide +kernel) (by simp) (Nat.le_of_ble_eq_true rfl) rfl ?_
  refine q_aload_n (pc := 0) dX12_init_0 rfl rfl ?_
  refine q_objInit (pc := 1) dX12_init_1 kX12_1 ⟨Nat.le_of_ble_eq_true rfl, Nat.le_of_ble_eq_true rfl⟩ ?_
  refine q_aload_n (pc := 4) dX12_init_4 rfl rfl ?_
  refine q_sipush (pc := 5) (v := nI 650) dX12_init_5 (by decide) ?_
  refine t_newI (M := mX12_init) (kc := 12) (ks := 5674) (len := 650) (pc := 8) h0 dX12_init_8 rfl (by decide) (fun S1 n1 I1 L1 P1 h1 => ?_)
  refine t_putP (M := mX12_init) (pc := 10) (d := 0) (t := 1) h1 dX12_init_10 pX12_9 (by decide) rfl ⟨by decide, rfl⟩ (fun P2 h2 => ?_)
  refine q_aload_n (pc := 13) dX12_init_13 rfl rfl ?_
  refine q_sipush (pc := 14) (v := nI 3900) dX12_init_14 (by decide) ?_
  refine t_newI (M := mX12_init) (kc := 11) (ks := 1774) (len := 3900) (pc := 17) h2 dX12_init_17 rfl (by decide) (fun S3 n3 I3 L3 P3 h3 => ?_)
  refine t_putP (M := mX12_init) (pc := 19) (d := 0) (t := 2) h3 dX12_init_19 pX12_13 (by decide) rfl ⟨by decide, rfl⟩ (fun P4 h4 => ?_)
  refine q_aload_n (pc := 22) dX12_init_22 rfl rfl ?_
  refine q_sipush (pc := 23) (v := nI 650) dX12_init_23 (by decide) ?_
  refine t_newI (M := mX12_init) (kc := 10) (ks := 1124) (len := 650) (pc := 26) h4 dX12_init_26 rfl (by decide) (fun S5 n5 I5 L5 P5 h5 => ?_)
  refine t_putP (M := mX12_init) (pc := 28) (d := 0) (t := 3) h5 dX12_init_28 pX12_16 (by decide) rfl ⟨by decide, rfl⟩ (fun P6 h6 => ?_)
  refine q_aload_n (pc := 31) dX12_init_31 rfl rfl ?_
  refine q_sipush (pc := 32) (v := nI 650) dX12_init_32 (by decide) ?_
  refine t_newI (M := mX12_init) (kc := 9) (ks := 474) (len := 650) (pc := 35) h6 dX12_init_35 rfl (by decide) (fun S7 n7 I7 L7 P7 h7 => ?_)
  refine t_putP (M := mX12_init) (pc := 37) (d := 0) (t := 4) h7 dX12_init_37 pX12_19 (by decide) rfl ⟨by decide, rfl⟩ (fun P8 h8 => ?_)
  refine q_aload_n (pc := 40) dX12_init_40 rfl rfl ?_
  refine q_bipush (pc := 41) (v := nI 60) dX12_init_41 (by decide) ?_
  refine t_newI (M := mX12_init) (kc := 8) (ks := 414) (len := 60) (pc := 43) h8 dX12_init_43 rfl (by decide) (fun S9 n9 I9 L9 P9 h9 => ?_)
  refine t_putP (M := mX12_init) (pc := 45) (d := 0) (t := 5) h9 dX12_init_45 pX12_22 (by decide) rfl ⟨by decide, rfl⟩ (fun P10 h10 => ?_)
  refine q_aload_n (pc := 48) dX12_init_48 rfl rfl ?_
  refine q_bipush (pc := 49) (v := nI 16) dX12_init_49 (by decide) ?_
  refine t_newI (M := mX12_init) (kc := 7) (ks := 398) (len := 16) (pc := 51) h10 dX12_init_51 rfl (by decide) (fun S11 n11 I11 L11 P11 h11 => ?_)
  refine t_putP (M := mX12_init) (pc := 53) (d := 0) (t := 6) h11 dX12_init_53 pX12_25 (by decide) rfl ⟨by decide, rfl⟩ (fun P12 h12 => ?_)
  refine q_aload_n (pc := 56) dX12_init_56 rfl rfl ?_
  refine q_bipush (pc := 57) (v := nI 16) dX12_init_57 (by decide) ?_
  refine t_newI (M := mX12_init) (kc := 6) (ks := 382) (len := 16) (pc := 59) h12 dX12_init_59 rfl (by decide) (fun S13 n13 I13 L13 P13 h13 => ?_)
  refine t_putP (M := mX12_init) (pc := 61) (d := 0) (t := 7) h13 dX12_init_61 pX12_28 (by decide) rfl ⟨by decide, rfl⟩ (fun P14 h14 => ?_)
  refine q_aload_n (pc := 64) dX12_init_64 rfl rfl ?_
  refine q_bipush (pc := 65) (v := nI 16) dX12_init_65 (by decide) ?_
  refine t_newI (M := mX12_init) (kc := 5) (ks := 366) (len := 16) (pc := 67) h14 dX12_init_67 rfl (by decide) (fun S15 n15 I15 L15 P15 h15 => ?_)
  refine t_putP (M := mX12_init) (pc := 69) (d := 0) (t := 8) h15 dX12_init_69 pX12_31 (by decide) rfl ⟨by decide, rfl⟩ (fun P16 h16 => ?_)
  refine q_aload_n (pc := 72) dX12_init_72 rfl rfl ?_
  refine q_bipush (pc := 73) (v := nI 10) dX12_init_73 (by decide) ?_
  refine t_newI (M := mX12_init) (kc := 4) (ks := 356) (len := 10) (pc := 75) h16 dX12_init_75 rfl (by decide) (fun S17 n17 I17 L17 P17 h17 => ?_)
  refine t_putP (M := mX12_init) (pc := 77) (d := 0) (t := 9) h17 dX12_init_77 pX12_34 (by decide) rfl ⟨by decide, rfl⟩ (fun P18 h18 => ?_)
  refine q_aload_n (pc := 80) dX12_init_80 rfl rfl ?_
  refine q_bipush (pc := 81) (v := nI 10) dX12_init_81 (by decide) ?_
  refine t_newI (M := mX12_init) (kc := 3) (ks := 346) (len := 10) (pc := 83) h18 dX12_init_83 rfl (by decide) (fun S19 n19 I19 L19 P19 h19 => ?_)
  refine t_putP (M := mX12_init) (pc := 85) (d := 0) (t := 10) h19 dX12_init_85 pX12_37 (by decide) rfl ⟨by decide, rfl⟩ (fun P20 h20 => ?_)
  refine q_aload_n (pc := 88) dX12_init_88 rfl rfl ?_
  refine q_bipush (pc := 89) (v := nI 10) dX12_init_89 (by decide) ?_
  refine t_newZ (M := mX12_init) (kc := 2) (ks := 336) (len := 10) (pc := 91) h20 dX12_init_91 rfl (by decide) (fun S21 n21 I21 L21 P21 h21 => ?_)
  refine t_putP (M := mX12_init) (pc := 93) (d := 0) (t := 11) h21 dX12_init_93 pX12_40 (by decide) rfl ⟨by decide, rfl⟩ (fun P22 h22 => ?_)
  refine q_aload_n (pc := 96) dX12_init_96 rfl rfl ?_
  refine q_bipush (pc := 97) (v := nI 96) dX12_init_97 (by decide) ?_
  refine t_newI (M := mX12_init) (kc := 1) (ks := 240) (len := 96) (pc := 99) h22 dX12_init_99 rfl (by decide) (fun S23 n23 I23 L23 P23 h23 => ?_)
  refine t_putP (M := mX12_init) (pc := 101) (d := 0) (t := 12) h23 dX12_init_101 pX12_44 (by decide) rfl ⟨by decide, rfl⟩ (fun P24 h24 => ?_)
  refine q_aload_n (pc := 104) dX12_init_104 rfl rfl ?_
  refine q_sipush (pc := 105) (v := nI 240) dX12_init_105 (by decide) ?_
  refine t_newI (M := mX12_init) (kc := 0) (ks := 0) (len := 240) (pc := 108) h24 dX12_init_108 rfl (by decide) (fun S25 n25 I25 L25 P25 h25 => ?_)
  refine t_putP (M := mX12_init) (pc := 110) (d := 0) (t := 13) h25 dX12_init_110 pX12_47 (by decide) rfl ⟨by decide, rfl⟩ (fun P26 h26 => ?_)
  refine q_iconst (pc := 113) (v := nI 0) dX12_init_113 (by decide) ?_
  refine q_istore_n (pc := 114) dX12_init_114 rfl (Nat.le_of_ble_eq_true rfl) rfl ?_
  show bq_W _ _ _ _ _ 115 [_, _] _ _ _ _ _ _ _
  refine q_iload_n (pc := 115) dX12_init_115 rfl rfl ?_
  refine q_bipush (pc := 116) (v := nI 6) dX12_init_116 (by decide) ?_
  refine q_icmp_ge (pc := 118) 142 dX12_init_118 (by decide) (fun c_118 => absurd c_118 (by decide)) (fun c_118 => ?_)
  refine q_aload_n (pc := 121) dX12_init_121 rfl rfl ?_
  refine t_getP (M := mX12_init) (pc := 122) (d := 0) (t := 1) h26 dX12_init_122 fX12_9 (by decide) rfl ⟨by decide, rfl⟩ rfl ?_
  refine q_bipush (pc := 125) (v := nI 10) dX12_init_125 (by decide) ?_
  refine q_bipush (pc := 127) (v := nI 19) dX12_init_127 (by decide) ?_
  refine q_iload_n (pc := 129) dX12_init_129 rfl rfl ?_
  refine q_imulN (pc := 130) dX12_init_130 ?_
  refine q_iaddN (pc := 131) dX12_init_131 ?_
  refine q_sipush (pc := 132) (v := nI 1000) dX12_init_132 (by decide) ?_
  refine t_iast (M := mX12_init) (pc := 135) (d := 1) (j := 10) h26 dX12_init_135 (by decide) rfl rfl (by decide) (fun I27 h27 => ?_)
  refine q_iinc (pc := 136) (v := nI 1) dX12_init_136 rfl (bq_inc _) (Nat.le_of_ble_eq_true rfl) rfl ?_
  show bq_W _ _ _ _ _ 139 [_, _] _ _ _ _ _ _ _
  refine q_goto (pc := 139) 115 dX12_init_139 (by decide) ?_
  refine q_iload_n (pc := 115) dX12_init_115 rfl rfl ?_
  refine q_bipush (pc := 116) (v := nI 6) dX12_init_116 (by decide) ?_
  refine q_icmp_ge (pc := 118) 142 dX12_init_118 (by decide) (fun c_118 => absurd c_118 (by decide)) (fun c_118 => ?_)
  refine q_aload_n (pc := 121) dX12_init_121 rfl rfl ?_
  refine t_getP (M := mX12_init) (pc := 122) (d := 0) (t := 1) h27 dX12_init_122 fX12_9 (by decide) rfl ⟨by decide, rfl⟩ rfl ?_
  refine q_bipush (pc := 125) (v := nI 10) dX12_init_125 (by decide) ?_
  refine q_bipush (pc := 127) (v := nI 19) dX12_init_127 (by decide) ?_
  refine q_iload_n (pc := 129) dX12_init_129 rfl rfl ?_
  refine q_imulN (pc := 130) dX12_init_130 ?_
  refine q_iaddN (pc := 131) dX12_init_131 ?_
  refine q_sipush (pc := 132) (v := nI 1000) dX12_init_132 (by decide) ?_
  refine t_iast (M := mX12_init) (pc := 135) (d := 1) (j := 29) h27 dX12_init_135 (by decide) rfl rfl (by decide) (fun I28 h28 => ?_)
  refine q_iinc (pc := 136) (v := nI 2) dX12_init_136 rfl (bq_inc _) (Nat.le_of_ble_eq_true rfl) rfl ?_
  show bq_W _ _ _ _ _ 139 [_, _] _ _ _ _ _ _ _
  refine q_goto (pc := 139) 115 dX12_init_139 (by decide) ?_
  refine q_iload_n (pc := 115) dX12_init_115 rfl rfl ?_
  refine q_bipush (pc := 116) (v := nI 6) dX12_init_116 (by decide) ?_
  refine q_icmp_ge (pc := 118) 142 dX12_init_118 (by decide) (fun c_118 => absurd c_118 (by decide)) (fun c_118 => ?_)
  refine q_aload_n (pc := 121) dX12_init_121 rfl rfl ?_
  refine t_getP (M := mX12_init) (pc := 122) (d := 0) (t := 1) h28 dX12_init_122 fX12_9 (by decide) rfl ⟨by decide, rfl⟩ rfl ?_
  refine q_bipush (pc := 125) (v := nI 10) dX12_init_125 (by decide) ?_
  refine q_bipush (pc := 127) (v := nI 19) dX12_init_127 (by decide) ?_
  refine q_iload_n (pc := 129) dX12_init_129 rfl rfl ?_
  refine q_imulN (pc := 130) dX12_init_130 ?_
  refine q_iaddN (pc := 131) dX12_init_131 ?_
  refine q_sipush (pc := 132) (v := nI 1000) dX12_init_132 (by decide) ?_
  refine t_iast (M := mX12_init) (pc := 135) (d := 1) (j := 48) h28 dX12_init_135 (by decide) rfl rfl (by decide) (fun I29 h29 => ?_)
  refine q_iinc (pc := 136) (v := nI 3) dX12_init_136 rfl (bq_inc _) (Nat.le_of_ble_eq_true rfl) rfl ?_
  show bq_W _ _ _ _ _ 139 [_, _] _ _ _ _ _ _ _
  refine q_goto (pc := 139) 115 dX12_init_139 (by decide) ?_
  refine q_iload_n (pc := 115) dX12_init_115 rfl rfl ?_
  refine q_bipush (pc := 116) (v := nI 6) dX12_init_116 (by decide) ?_
  refine q_icmp_ge (pc := 118) 142 dX12_init_118 (by decide) (fun c_118 => absurd c_118 (by decide)) (fun c_118 => ?_)
  refine q_aload_n (pc := 121) dX12_init_121 rfl rfl ?_
  refine t_getP (M := mX12_init) (pc := 122) (d := 0) (t := 1) h29 dX12_init_122 fX12_9 (by decide) rfl ⟨by decide, rfl⟩ rfl ?_
  refine q_bipush (pc := 125) (v := nI 10) dX12_init_125 (by decide) ?_
  refine q_bipush (pc := 127) (v := nI 19) dX12_init_127 (by decide) ?_
  refine q_iload_n (pc := 129) dX12_init_129 rfl rfl ?_
  refine q_imulN (pc := 130) dX12_init_130 ?_
  refine q_iaddN (pc := 131) dX12_init_131 ?_
  refine q_sipush (pc := 132) (v := nI 1000) dX12_init_132 (by decide) ?_
  refine t_iast (M := mX12_init) (pc := 135) (d := 1) (j := 67) h29 dX12_init_135 (by decide) rfl rfl (by decide) (fun I30 h30 => ?_)
  refine q_iinc (pc := 136) (v := nI 4) dX12_init_136 rfl (bq_inc _) (Nat.le_of_ble_eq_true rfl) rfl ?_
  show bq_W _ _ _ _ _ 139 [_, _] _ _ _ _ _ _ _
  refine q_goto (pc := 139) 115 dX12_init_139 (by decide) ?_
  refine q_iload_n (pc := 115) dX12_init_115 rfl rfl ?_
  refine q_bipush (pc := 116) (v := nI 6) dX12_init_116 (by decide) ?_
  refine q_icmp_ge (pc := 118) 142 dX12_init_118 (by decide) (fun c_118 => absurd c_118 (by decide)) (fun c_118 => ?_)
  refine q_aload_n (pc := 121) dX12_init_121 rfl rfl ?_
  refine t_getP (M := mX12_init) (pc := 122) (d := 0) (t := 1) h30 dX12_init_122 fX12_9 (by decide) rfl ⟨by decide, rfl⟩ rfl ?_
  refine q_bipush (pc := 125) (v := nI 10) dX12_init_125 (by decide) ?_
  refine q_bipush (pc := 127) (v := nI 19) dX12_init_127 (by decide) ?_
  refine q_iload_n (pc := 129) dX12_init_129 rfl rfl ?_
  refine q_imulN (pc := 130) dX12_init_130 ?_
  refine q_iaddN (pc := 131) dX12_init_131 ?_
  refine q_sipush (pc := 132) (v := nI 1000) dX12_init_132 (by decide) ?_
  refine t_iast (M := mX12_init) (pc := 135) (d := 1) (j := 86) h30 dX12_init_135 (by decide) rfl rfl (by decide) (fun I31 h31 => ?_)
  refine q_iinc (pc := 136) (v := nI 5) dX12_init_136 rfl (bq_inc _) (Nat.le_of_ble_eq_true rfl) rfl ?_
  show bq_W _ _ _ _ _ 139 [_, _] _ _ _ _ _ _ _
  refine q_goto (pc := 139) 115 dX12_init_139 (by decide) ?_
  refine q_iload_n (pc := 115) dX12_init_115 rfl rfl ?_
  refine q_bipush (pc := 116) (v := nI 6) dX12_init_116 (by decide) ?_
  refine q_icmp_ge (pc := 118) 142 dX12_init_118 (by decide) (fun c_118 => absurd c_118 (by decide)) (fun c_118 => ?_)
  refine q_aload_n (pc := 121) dX12_init_121 rfl rfl ?_
  refine t_getP (M := mX12_init) (pc := 122) (d := 0) (t := 1) h31 dX12_init_122 fX12_9 (by decide) rfl ⟨by decide, rfl⟩ rfl ?_
  refine q_bipush (pc := 125) (v := nI 10) dX12_init_125 (by decide) ?_
  refine q_bipush (pc := 127) (v := nI 19) dX12_init_127 (by decide) ?_
  refine q_iload_n (pc := 129) dX12_init_129 rfl rfl ?_
  refine q_imulN (pc := 130) dX12_init_130 ?_
  refine q_iaddN (pc := 131) dX12_init_131 ?_
  refine q_sipush (pc := 132) (v := nI 1000) dX12_init_132 (by decide) ?_
  refine t_iast (M := mX12_init) (pc := 135) (d := 1) (j := 105) h31 dX12_init_135 (by decide) rfl rfl (by decide) (fun I32 h32 => ?_)
  refine q_iinc (pc := 136) (v := nI 6) dX12_init_136 rfl (bq_inc _) (Nat.le_of_ble_eq_true rfl) rfl ?_
  show bq_W _ _ _ _ _ 139 [_, _] _ _ _ _ _ _ _
  refine q_goto (pc := 139) 115 dX12_init_139 (by decide) ?_
  refine q_iload_n (pc := 115) dX12_init_115 rfl rfl ?_
  refine q_bipush (pc := 116) (v := nI 6) dX12_init_116 (by decide) ?_
  refine q_icmp_ge (pc := 118) 142 dX12_init_118 (by decide) (fun c_118 => ?_) (fun c_118 => absurd (by decide) c_118)
  refine q_aload_n (pc := 142) dX12_init_142 rfl rfl ?_
  refine t_getP (M := mX12_init) (pc := 143) (d := 0) (t := 1) h32 dX12_init_143 fX12_9 (by decide) rfl ⟨by decide, rfl⟩ rfl ?_
  refine q_iconst (pc := 146) (v := nI 4) dX12_init_146 (by decide) ?_
  refine q_iconst (pc := 147) (v := nI 5) dX12_init_147 (by decide) ?_
  refine t_iast (M := mX12_init) (pc := 148) (d := 1) (j := 4) h32 dX12_init_148 (by decide) rfl rfl (by decide) (fun I33 h33 => ?_)
  exact q_vret (st := []) (pc := 149) dX12_init_149 rfl ⟨rfl, h33⟩
