/-! readers, and a command done -/
def w_do (g : BqG) (a t o v : Int32) : Int32 × BqG := if a = nI 116 then w_pour g t o v else if a = nI 108 then w_spill g t v o else if a = nI 102 then w_fill g t v else if a = nI 99 then w_scrub g t else w_pass g v
set_option maxHeartbeats 504000 in
set_option maxRecDepth 20000 in
theorem c_perform {S : BqH} {n : Nat} {I : BqI} {L : BqL} {P : BqP} {x : Nat} {g : BqG} {en : Nat} (hx : oX S n P x) (hC : CS I L (x + 1) g) (hG : GI g en) (hen : en < 2 ^ 29) {c : Nat} (hcm : oCommand S n P c) : bq_Sp mX11_perform 5 111 0 0 [.ref x, .ref c] S n I L P (qCore x I L S n P ((w_do g (I c 0) (I c 1) (I c 2) (I c 3)))) := by
  refine q_entry (vs := [some (.ref x), some (.ref c)]) (by decide +kernel) (by simp) (Nat.le_of_ble_eq_true rfl) rfl ?_
  refine q_aload_n (pc := 0) dX11_perform_0 rfl rfl ?_
  refine q_getI (pc := 1) dX11_perform_1 fX11_325 (Command_sh hcm) ⟨by decide, rfl⟩ (Command_lt hcm) ?_
  refine q_topI (fun y_4 e_4 => ?_)
  by_cases s4_99 : y_4 = nI 99
  · refine q_lookup (pc := 4) (off := 91) 95 dX11_perform_4 rfl (by rw [s4_99]; decide) (by decide) ?_
    rw [show (w_do g (I c 0) (I c 1) (I c 2) (I c 3)) = w_scrub g (I c 1) from by unfold w_do; rw [← e_4, s4_99, if_neg (show ¬ nI 99 = nI 116 by decide), if_neg (show ¬ nI 99 = nI 108 by decide), if_neg (show ¬ nI 99 = nI 102 by decide), if_pos rfl]]
    refine q_aload_n (pc := 95) dX11_perform_95 rfl rfl ?_
    refine q_aload_n (pc := 96) dX11_perform_96 rfl rfl ?_
    refine q_getI (pc := 97) dX11_perform_97 fX11_330 (Command_sh hcm) ⟨by decide, rfl⟩ (Command_lt hcm) ?_
    refine q_callV (pc := 100) dX11_perform_100 kX11_197 (c_scrub hx hC hG hen) (Cellar_sh hx) rfl (Cellar_lt hx) ⟨Nat.le_of_ble_eq_true rfl, Nat.le_of_ble_eq_true rfl⟩ rfl rfl (Nat.le_of_ble_eq_true rfl) ?_
    rintro _ _ _ I1 L1 P1 ⟨rfl, rfl, rfl, rfl, C1, F1, F2⟩
    show bq_W _ _ _ _ _ 103 _ [_] _ _ _ _ _ _
    exact q_iret (st := []) (pc := 103) dX11_perform_103 rfl ⟨rfl, rfl, rfl, rfl, C1, F1, F2⟩
  by_cases s4_102 : y_4 = nI 102
  · refine q_lookup (pc := 4) (off := 78) 82 dX11_perform_4 rfl (by rw [s4_102]; decide) (by decide) ?_
    rw [show (w_do g (I c 0) (I c 1) (I c 2) (I c 3)) = w_fill g (I c 1) (I c 3) from by unfold w_do; rw [← e_4, s4_102, if_neg (show ¬ nI 102 = nI 116 by decide), if_neg (show ¬ nI 102 = nI 108 by decide), if_pos rfl]]
    refine q_aload_n (pc := 82) dX11_perform_82 rfl rfl ?_
    refine q_aload_n (pc := 83) dX11_perform_83 rfl rfl ?_
    refine q_getI (pc := 84) dX11_perform_84 fX11_330 (Command_sh hcm) ⟨by decide, rfl⟩ (Command_lt hcm) ?_
    refine q_aload_n (pc := 87) dX11_perform_87 rfl rfl ?_
    refine q_getI (pc := 88) dX11_perform_88 fX11_336 (Command_sh hcm) ⟨by decide, rfl⟩ (Command_lt hcm) ?_
    refine q_callV (pc := 91) dX11_perform_91 kX11_182 (c_fill hx hC hG hen) (Cellar_sh hx) rfl (Cellar_lt hx) ⟨Nat.le_of_ble_eq_true rfl, Nat.le_of_ble_eq_true rfl⟩ rfl rfl (Nat.le_of_ble_eq_true rfl) ?_
    rintro _ _ _ I1 L1 P1 ⟨rfl, rfl, rfl, rfl, C1, F1, F2⟩
    show bq_W _ _ _ _ _ 94 _ [_] _ _ _ _ _ _
    exact q_iret (st := []) (pc := 94) dX11_perform_94 rfl ⟨rfl, rfl, rfl, rfl, C1, F1, F2⟩
  by_cases s4_108 : y_4 = nI 108
  · refine q_lookup (pc := 4) (off := 61) 65 dX11_perform_4 rfl (by rw [s4_108]; decide) (by decide) ?_
    rw [show (w_do g (I c 0) (I c 1) (I c 2) (I c 3)) = w_spill g (I c 1) (I c 3) (I c 2) from by unfold w_do; rw [← e_4, s4_108, if_neg (show ¬ nI 108 = nI 116 by decide), if_pos rfl]]
    refine q_aload_n (pc := 65) dX11_perform_65 rfl rfl ?_
    refine q_aload_n (pc := 66) dX11_perform_66 rfl rfl ?_
    refine q_getI (pc := 67) dX11_perform_67 fX11_330 (Command_sh hcm) ⟨by decide, rfl⟩ (Command_lt hcm) ?_
    refine q_aload_n (pc := 70) dX11_perform_70 rfl rfl ?_
    refine q_getI (pc := 71) dX11_perform_71 fX11_336 (Command_sh hcm) ⟨by decide, rfl⟩ (Command_lt hcm) ?_
    refine q_aload_n (pc := 74) dX11_perform_74 rfl rfl ?_
    refine q_getI (pc := 75) dX11_perform_75 fX11_333 (Command_sh hcm) ⟨by decide, rfl⟩ (Command_lt hcm) ?_
    refine q_callV (pc := 78) dX11_perform_78 kX11_126 (c_spill hx hC hG hen) (Cellar_sh hx) rfl (Cellar_lt hx) ⟨Nat.le_of_ble_eq_true rfl, Nat.le_of_ble_eq_true rfl⟩ rfl rfl (Nat.le_of_ble_eq_true rfl) ?_
    rintro _ _ _ I1 L1 P1 ⟨rfl, rfl, rfl, rfl, C1, F1, F2⟩
    show bq_W _ _ _ _ _ 81 _ [_] _ _ _ _ _ _
    exact q_iret (st := []) (pc := 81) dX11_perform_81 rfl ⟨rfl, rfl, rfl, rfl, C1, F1, F2⟩
  by_cases s4_116 : y_4 = nI 116
  · refine q_lookup (pc := 4) (off := 44) 48 dX11_perform_4 rfl (by rw [s4_116]; decide) (by decide) ?_
    rw [show (w_do g (I c 0) (I c 1) (I c 2) (I c 3)) = w_pour g (I c 1) (I c 2) (I c 3) from by unfold w_do; rw [← e_4, s4_116, if_pos rfl]]
    refine q_aload_n (pc := 48) dX11_perform_48 rfl rfl ?_
    refine q_aload_n (pc := 49) dX11_perform_49 rfl rfl ?_
    refine q_getI (pc := 50) dX11_perform_50 fX11_330 (Command_sh hcm) ⟨by decide, rfl⟩ (Command_lt hcm) ?_
    refine q_aload_n (pc := 53) dX11_perform_53 rfl rfl ?_
    refine q_getI (pc := 54) dX11_perform_54 fX11_333 (Command_sh hcm) ⟨by decide, rfl⟩ (Command_lt hcm) ?_
    refine q_aload_n (pc := 57) dX11_perform_57 rfl rfl ?_
    refine q_getI (pc := 58) dX11_perform_58 fX11_336 (Command_sh hcm) ⟨by decide, rfl⟩ (Command_lt hcm) ?_
    refine q_callV (pc := 61) dX11_perform_61 kX11_119 (c_pour hx hC hG hen) (Cellar_sh hx) rfl (Cellar_lt hx) ⟨Nat.le_of_ble_eq_true rfl, Nat.le_of_ble_eq_true rfl⟩ rfl rfl (Nat.le_of_ble_eq_true rfl) ?_
    rintro _ _ _ I1 L1 P1 ⟨rfl, rfl, rfl, rfl, C1, F1, F2⟩
    show bq_W _ _ _ _ _ 64 _ [_] _ _ _ _ _ _
    exact q_iret (st := []) (pc := 64) dX11_perform_64 rfl ⟨rfl, rfl, rfl, rfl, C1, F1, F2⟩
  refine q_lookup (pc := 4) (off := 100) 104 dX11_perform_4 rfl (by show Op.lookupswitch.offset [(99, 91), (102, 78), (108, 61), (116, 44)] 100 _ = _; rw [lv_osw s4_99 (by decide), lv_osw s4_102 (by decide), lv_osw s4_108 (by decide), lv_osw s4_116 (by decide)]; rfl) (by decide) ?_
  rw [show (w_do g (I c 0) (I c 1) (I c 2) (I c 3)) = w_pass g (I c 3) from by unfold w_do; rw [← e_4, if_neg s4_116, if_neg s4_108, if_neg s4_102, if_neg s4_99]]
  refine q_aload_n (pc := 104) dX11_perform_104 rfl rfl ?_
  refine q_aload_n (pc := 105) dX11_perform_105 rfl rfl ?_
  refine q_getI (pc := 106) dX11_perform_106 fX11_336 (Command_sh hcm) ⟨by decide, rfl⟩ (Command_lt hcm) ?_
  refine q_callV (pc := 109) dX11_perform_109 kX11_200 (c_pass hx hC hG hen) (Cellar_sh hx) rfl (Cellar_lt hx) ⟨Nat.le_of_ble_eq_true rfl, Nat.le_of_ble_eq_true rfl⟩ rfl rfl (Nat.le_of_ble_eq_true rfl) ?_
  rintro _ _ _ I1 L1 P1 ⟨rfl, rfl, rfl, rfl, C1, F1, F2⟩
  show bq_W _ _ _ _ _ 112 _ [_] _ _ _ _ _ _
  exact q_iret (st := []) (pc := 112) dX11_perform_112 rfl ⟨rfl, rfl, rfl, rfl, C1, F1, F2⟩
