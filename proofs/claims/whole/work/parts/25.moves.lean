/-! five calls that put by, work and settle -/
def stp (g : BqG) (h : Nat → BqG) (ch : Nat) (y : Int32) (w : Int32 × BqG) : BqR := stl g w.2 h ch y w.1
set_option maxHeartbeats 400000 in
set_option maxRecDepth 20000 in
theorem m_transfer {S : BqH} {n : Nat} {I : BqI} {L : BqL} {P : BqP} {x : Nat} {g : BqG} {h : Nat → BqG} {ch en : Nat} (hX : CXS x S n I L P g h ch) (hG : GI g en) (hen : en < 2 ^ 29) {f t l : Int32} : bq_Sp mX11_transfer 6 144 0 0 [.ref x, .int f, .int t, .int l] S n I L P (qOp x I L S n P (stp g h ch (I x 10) (w_pour g f t l))) := by
  refine q_entry (vs := [some (.ref x), some (.int f), some (.int t), some (.int l)]) (by decide +kernel) (by simp) (Nat.le_of_ble_eq_true rfl) rfl ?_
  obtain ⟨hx, hC, hc, hl, π, hP, hh⟩ := hX
  refine q_aload_n (pc := 0) dX11_transfer_0 rfl rfl ?_
  refine q_callVF (pc := 1) dX11_transfer_1 kX11_89 (c_putBy hx hP hc (by omega)) (Cellar_sh hx) rfl (Cellar_lt hx) ⟨Nat.le_of_ble_eq_true rfl, Nat.le_of_ble_eq_true rfl⟩ rfl rfl (Nat.le_of_ble_eq_true rfl) ?_
  show bq_W _ _ _ _ _ 4 _ [] _ _ _ _ _ _
  refine q_aload_n (pc := 4) dX11_transfer_4 rfl rfl ?_
  refine q_aload_n (pc := 5) dX11_transfer_5 rfl rfl ?_
  refine q_iload_n (pc := 6) dX11_transfer_6 rfl rfl ?_
  refine q_iload_n (pc := 7) dX11_transfer_7 rfl rfl ?_
  refine q_iload_n (pc := 8) dX11_transfer_8 rfl rfl ?_
  refine q_callV (pc := 9) dX11_transfer_9 kX11_119 (c_pour hx (put_1 hC) hG hen) (Cellar_sh hx) rfl (Cellar_lt hx) ⟨Nat.le_of_ble_eq_true rfl, Nat.le_of_ble_eq_true rfl⟩ rfl rfl (Nat.le_of_ble_eq_true rfl) ?_
  rintro _ _ _ I1 L1 P1 ⟨rfl, rfl, rfl, rfl, C1, F1, F2⟩
  show bq_W _ _ _ _ _ 12 _ [_, _] _ _ _ _ _ _
  have hM := mid_mk hx hP hC hc hl hh C1 F1 F2
  refine q_callV (pc := 12) dX11_transfer_12 kX11_123 (c_settle hM) (Cellar_sh hx) rfl (Cellar_lt hx) ⟨Nat.le_of_ble_eq_true rfl, Nat.le_of_ble_eq_true rfl⟩ rfl rfl (Nat.le_of_ble_eq_true rfl) ?_
  rintro _ _ _ I2 L2 P2 ⟨rfl, rfl, rfl, Q⟩
  show bq_W _ _ _ _ _ 15 _ [_] _ _ _ _ _ _
  exact q_iret (st := []) (pc := 15) dX11_transfer_15 rfl ⟨rfl, rfl, rfl, Q⟩
set_option maxHeartbeats 400000 in
set_option maxRecDepth 20000 in
theorem m_lose {S : BqH} {n : Nat} {I : BqI} {L : BqL} {P : BqP} {x : Nat} {g : BqG} {h : Nat → BqG} {ch en : Nat} (hX : CXS x S n I L P g h ch) (hG : GI g en) (hen : en < 2 ^ 29) {t l r : Int32} : bq_Sp mX11_lose 6 144 0 0 [.ref x, .int t, .int l, .int r] S n I L P (qOp x I L S n P (stp g h ch (I x 10) (w_spill g t l r))) := by
  refine q_entry (vs := [some (.ref x), some (.int t), some (.int l), some (.int r)]) (by decide +kernel) (by simp) (Nat.le_of_ble_eq_true rfl) rfl ?_
  obtain ⟨hx, hC, hc, hl, π, hP, hh⟩ := hX
  refine q_aload_n (pc := 0) dX11_lose_0 rfl rfl ?_
  refine q_callVF (pc := 1) dX11_lose_1 kX11_89 (c_putBy hx hP hc (by omega)) (Cellar_sh hx) rfl (Cellar_lt hx) ⟨Nat.le_of_ble_eq_true rfl, Nat.le_of_ble_eq_true rfl⟩ rfl rfl (Nat.le_of_ble_eq_true rfl) ?_
  show bq_W _ _ _ _ _ 4 _ [] _ _ _ _ _ _
  refine q_aload_n (pc := 4) dX11_lose_4 rfl rfl ?_
  refine q_aload_n (pc := 5) dX11_lose_5 rfl rfl ?_
  refine q_iload_n (pc := 6) dX11_lose_6 rfl rfl ?_
  refine q_iload_n (pc := 7) dX11_lose_7 rfl rfl ?_
  refine q_iload_n (pc := 8) dX11_lose_8 rfl rfl ?_
  refine q_callV (pc := 9) dX11_lose_9 kX11_126 (c_spill hx (put_1 hC) hG hen) (Cellar_sh hx) rfl (Cellar_lt hx) ⟨Nat.le_of_ble_eq_true rfl, Nat.le_of_ble_eq_true rfl⟩ rfl rfl (Nat.le_of_ble_eq_true rfl) ?_
  rintro _ _ _ I1 L1 P1 ⟨rfl, rfl, rfl, rfl, C1, F1, F2⟩
  show bq_W _ _ _ _ _ 12 _ [_, _] _ _ _ _ _ _
  have hM := mid_mk hx hP hC hc hl hh C1 F1 F2
  refine q_callV (pc := 12) dX11_lose_12 kX11_123 (c_settle hM) (Cellar_sh hx) rfl (Cellar_lt hx) ⟨Nat.le_of_ble_eq_true rfl, Nat.le_of_ble_eq_true rfl⟩ rfl rfl (Nat.le_of_ble_eq_true rfl) ?_
  rintro _ _ _ I2 L2 P2 ⟨rfl, rfl, rfl, Q⟩
  show bq_W _ _ _ _ _ 15 _ [_] _ _ _ _ _ _
  exact q_iret (st := []) (pc := 15) dX11_lose_15 rfl ⟨rfl, rfl, rfl, Q⟩
set_option maxHeartbeats 400000 in
set_option maxRecDepth 20000 in
theorem m_fill {S : BqH} {n : Nat} {I : BqI} {L : BqL} {P : BqP} {x : Nat} {g : BqG} {h : Nat → BqG} {ch en : Nat} (hX : CXS x S n I L P g h ch) (hG : GI g en) (hen : en < 2 ^ 29) {t o : Int32} : bq_Sp mX11_fill 6 144 0 0 [.ref x, .int t, .int o] S n I L P (qOp x I L S n P (stp g h ch (I x 10) (w_fill g t o))) := by
  refine q_entry (vs := [some (.ref x), some (.int t), some (.int o)]) (by decide +kernel) (by simp) (Nat.le_of_ble_eq_true rfl) rfl ?_
  obtain ⟨hx, hC, hc, hl, π, hP, hh⟩ := hX
  refine q_aload_n (pc := 0) dX11_fill_0 rfl rfl ?_
  refine q_callVF (pc := 1) dX11_fill_1 kX11_89 (c_putBy hx hP hc (by omega)) (Cellar_sh hx) rfl (Cellar_lt hx) ⟨Nat.le_of_ble_eq_true rfl, Nat.le_of_ble_eq_true rfl⟩ rfl rfl (Nat.le_of_ble_eq_true rfl) ?_
  show bq_W _ _ _ _ _ 4 _ [] _ _ _ _ _ _
  refine q_aload_n (pc := 4) dX11_fill_4 rfl rfl ?_
  refine q_aload_n (pc := 5) dX11_fill_5 rfl rfl ?_
  refine q_iload_n (pc := 6) dX11_fill_6 rfl rfl ?_
  refine q_iload_n (pc := 7) dX11_fill_7 rfl rfl ?_
  refine q_callV (pc := 8) dX11_fill_8 kX11_182 (c_fill hx (put_1 hC) hG hen) (Cellar_sh hx) rfl (Cellar_lt hx) ⟨Nat.le_of_ble_eq_true rfl, Nat.le_of_ble_eq_true rfl⟩ rfl rfl (Nat.le_of_ble_eq_true rfl) ?_
  rintro _ _ _ I1 L1 P1 ⟨rfl, rfl, rfl, rfl, C1, F1, F2⟩
  show bq_W _ _ _ _ _ 11 _ [_, _] _ _ _ _ _ _
  have hM := mid_mk hx hP hC hc hl hh C1 F1 F2
  refine q_callV (pc := 11) dX11_fill_11 kX11_123 (c_settle hM) (Cellar_sh hx) rfl (Cellar_lt hx) ⟨Nat.le_of_ble_eq_true rfl, Nat.le_of_ble_eq_true rfl⟩ rfl rfl (Nat.le_of_ble_eq_true rfl) ?_
  rintro _ _ _ I2 L2 P2 ⟨rfl, rfl, rfl, Q⟩
  show bq_W _ _ _ _ _ 14 _ [_] _ _ _ _ _ _
  exact q_iret (st := []) (pc := 14) dX11_fill_14 rfl ⟨rfl, rfl, rfl, Q⟩
set_option maxHeartbeats 400000 in
set_option maxRecDepth 20000 in
theorem m_clean {S : BqH} {n : Nat} {I : BqI} {L : BqL} {P : BqP} {x : Nat} {g : BqG} {h : Nat → BqG} {ch en : Nat} (hX : CXS x S n I L P g h ch) (hG : GI g en) (hen : en < 2 ^ 29) {t : Int32} : bq_Sp mX11_clean 6 144 0 0 [.ref x, .int t] S n I L P (qOp x I L S n P (stp g h ch (I x 10) (w_scrub g t))) := by
  refine q_entry (vs := [some (.ref x), some (.int t)]) (by decide +kernel) (by simp) (Nat.le_of_ble_eq_true rfl) rfl ?_
  obtain ⟨hx, hC, hc, hl, π, hP, hh⟩ := hX
  refine q_aload_n (pc := 0) dX11_clean_0 rfl rfl ?_
  refine q_callVF (pc := 1) dX11_clean_1 kX11_89 (c_putBy hx hP hc (by omega)) (Cellar_sh hx) rfl (Cellar_lt hx) ⟨Nat.le_of_ble_eq_true rfl, Nat.le_of_ble_eq_true rfl⟩ rfl rfl (Nat.le_of_ble_eq_true rfl) ?_
  show bq_W _ _ _ _ _ 4 _ [] _ _ _ _ _ _
  refine q_aload_n (pc := 4) dX11_clean_4 rfl rfl ?_
  refine q_aload_n (pc := 5) dX11_clean_5 rfl rfl ?_
  refine q_iload_n (pc := 6) dX11_clean_6 rfl rfl ?_
  refine q_callV (pc := 7) dX11_clean_7 kX11_197 (c_scrub hx (put_1 hC) hG hen) (Cellar_sh hx) rfl (Cellar_lt hx) ⟨Nat.le_of_ble_eq_true rfl, Nat.le_of_ble_eq_true rfl⟩ rfl rfl (Nat.le_of_ble_eq_true rfl) ?_
  rintro _ _ _ I1 L1 P1 ⟨rfl, rfl, rfl, rfl, C1, F1, F2⟩
  show bq_W _ _ _ _ _ 10 _ [_, _] _ _ _ _ _ _
  have hM := mid_mk hx hP hC hc hl hh C1 F1 F2
  refine q_callV (pc := 10) dX11_clean_10 kX11_123 (c_settle hM) (Cellar_sh hx) rfl (Cellar_lt hx) ⟨Nat.le_of_ble_eq_true rfl, Nat.le_of_ble_eq_true rfl⟩ rfl rfl (Nat.le_of_ble_eq_true rfl) ?_
  rintro _ _ _ I2 L2 P2 ⟨rfl, rfl, rfl, Q⟩
  show bq_W _ _ _ _ _ 13 _ [_] _ _ _ _ _ _
  exact q_iret (st := []) (pc := 13) dX11_clean_13 rfl ⟨rfl, rfl, rfl, Q⟩
set_option maxHeartbeats 400000 in
set_option maxRecDepth 20000 in
theorem m_pass {S : BqH} {n : Nat} {I : BqI} {L : BqL} {P : BqP} {x : Nat} {g : BqG} {h : Nat → BqG} {ch en : Nat} (hX : CXS x S n I L P g h ch) (hG : GI g en) (hen : en < 2 ^ 29) {d : Int32} : bq_Sp mX11_pass 6 144 0 0 [.ref x, .int d] S n I L P (qOp x I L S n P (stp g h ch (I x 10) (w_pass g d))) := by
  refine q_entry (vs := [some (.ref x), some (.int d)]) (by decide +kernel) (by simp) (Nat.le_of_ble_eq_true rfl) rfl ?_
  obtain ⟨hx, hC, hc, hl, π, hP, hh⟩ := hX
  refine q_aload_n (pc := 0) dX11_pass_0 rfl rfl ?_
  refine q_callVF (pc := 1) dX11_pass_1 kX11_89 (c_putBy hx hP hc (by omega)) (Cellar_sh hx) rfl (Cellar_lt hx) ⟨Nat.le_of_ble_eq_true rfl, Nat.le_of_ble_eq_true rfl⟩ rfl rfl (Nat.le_of_ble_eq_true rfl) ?_
  show bq_W _ _ _ _ _ 4 _ [] _ _ _ _ _ _
  refine q_aload_n (pc := 4) dX11_pass_4 rfl rfl ?_
  refine q_aload_n (pc := 5) dX11_pass_5 rfl rfl ?_
  refine q_iload_n (pc := 6) dX11_pass_6 rfl rfl ?_
  refine q_callV (pc := 7) dX11_pass_7 kX11_200 (c_pass hx (put_1 hC) hG hen) (Cellar_sh hx) rfl (Cellar_lt hx) ⟨Nat.le_of_ble_eq_true rfl, Nat.le_of_ble_eq_true rfl⟩ rfl rfl (Nat.le_of_ble_eq_true rfl) ?_
  rintro _ _ _ I1 L1 P1 ⟨rfl, rfl, rfl, rfl, C1, F1, F2⟩
  show bq_W _ _ _ _ _ 10 _ [_, _] _ _ _ _ _ _
  have hM := mid_mk hx hP hC hc hl hh C1 F1 F2
  refine q_callV (pc := 10) dX11_pass_10 kX11_123 (c_settle hM) (Cellar_sh hx) rfl (Cellar_lt hx) ⟨Nat.le_of_ble_eq_true rfl, Nat.le_of_ble_eq_true rfl⟩ rfl rfl (Nat.le_of_ble_eq_true rfl) ?_
  rintro _ _ _ I2 L2 P2 ⟨rfl, rfl, rfl, Q⟩
  show bq_W _ _ _ _ _ 13 _ [_] _ _ _ _ _ _
  exact q_iret (st := []) (pc := 13) dX11_pass_13 rfl ⟨rfl, rfl, rfl, Q⟩
