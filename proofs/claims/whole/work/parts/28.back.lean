/-! back -/
set_option maxHeartbeats 400000 in
set_option maxRecDepth 20000 in
theorem m_back_a {S : BqH} {n : Nat} {I : BqI} {L : BqL} {P : BqP} {x : Nat} {g : BqG} {h : Nat → BqG} (hX : CXS x S n I L P g h 0) : bq_Sp mX11_back 5 124 0 0 [.ref x] S n I L P (qOp x I L S n P ((-3), g, h, 0, I x 10)) := by
  refine q_entry (vs := [some (.ref x)]) (by decide +kernel) (by simp) (Nat.le_of_ble_eq_true rfl) rfl ?_
  have hX' := hX
  obtain ⟨hx, hC, hc, hl, π, hP, hh⟩ := hX
  refine q_aload_n (pc := 0) dX11_back_0 rfl rfl ?_
  refine q_getI (pc := 1) dX11_back_1 fX11_20 (Cellar_sh hx) ⟨by decide, rfl⟩ (Cellar_lt hx) ?_
  rw [hc]
  refine q_if_gt (pc := 4) 10 dX11_back_4 (by decide) (fun c_4 => absurd c_4 (by decide)) (fun c_4 => ?_)
  refine q_bipush (pc := 7) (v := (-3)) dX11_back_7 (by decide) ?_
  exact q_iret (st := []) (pc := 9) dX11_back_9 rfl (qOp.same hX' rfl)
set_option maxHeartbeats 400000 in
set_option maxRecDepth 20000 in
theorem m_back_b {S : BqH} {n : Nat} {I : BqI} {L : BqL} {P : BqP} {x c : Nat} {g : BqG} {h : Nat → BqG} (hX : CXS x S n I L P g h (c + 1)) : bq_Sp mX11_back 5 124 0 0 [.ref x] S n I L P (qOp x I L S n P (nI c, h c, h, c, I x 10)) := by
  refine q_entry (vs := [some (.ref x)]) (by decide +kernel) (by simp) (Nat.le_of_ble_eq_true rfl) rfl ?_
  obtain ⟨hx, hC, hc, hl, π, hP, hh⟩ := hX
  refine q_aload_n (pc := 0) dX11_back_0 rfl rfl ?_
  refine q_getI (pc := 1) dX11_back_1 fX11_20 (Cellar_sh hx) ⟨by decide, rfl⟩ (Cellar_lt hx) ?_
  rw [hc]
  refine q_if_gt (pc := 4) 10 dX11_back_4 (by decide) (fun c_4 => ?_) (fun c_4 => absurd (show nI 0 < nI (c + 1) from nI_lt (by omega) (by omega)) c_4)
  refine q_aload_n (pc := 10) dX11_back_10 rfl rfl ?_
  refine q_dup (pc := 11) dX11_back_11 rfl ?_
  refine q_getI (pc := 12) dX11_back_12 fX11_20 (Cellar_sh hx) ⟨by decide, rfl⟩ (Cellar_lt hx) ?_
  rw [hc]
  refine q_iconst (pc := 15) (v := nI 1) dX11_back_15 (by decide) ?_
  refine q_isub (pc := 16) dX11_back_16 ?_
  rw [show nI (c + 1) - nI 1 = nI c from by rw [pk_sub (by omega), Nat.add_sub_cancel]]
  refine q_putI (pc := 17) dX11_back_17 (pX11_20 _) (Cellar_sh hx) ⟨by decide, rfl⟩ (Cellar_lt hx) ?_
  refine q_nameI (fun I1 e1 => ?_)
  have h1 : I1 x 2 = nI c := by rw [e1, bq_u_at]
  have hcb : CS I1 L (x + 165 + 53 * π c) (h c) := by rw [e1]; exact (hh c (by omega)).fr (fun a q1 q2 => bq_u_ne (by omega)) (fun _ _ _ => rfl)
  have hhb : ∀ i, i < c → CS I1 L (x + 165 + 53 * π i) (h i) := fun i hi => by rw [e1]; exact (hh i (by omega)).fr (fun a q1 q2 => bq_u_ne (by omega)) (fun _ _ _ => rfl)
  have hf : ∀ a, a ≠ x → I1 a = I a := fun a ha => by rw [e1]; exact bq_u_ne ha
  have hy : I1 x 10 = I x 10 := by rw [e1]; exact bq_u_no (by omega)
  have hz : I1 x 4 = I x 4 := by rw [e1]; exact bq_u_no (by omega)
  refine q_aload_n (pc := 20) dX11_back_20 rfl rfl ?_
  refine q_getP (pc := 21) dX11_back_21 fX11_10 (Cellar_sh hx) ⟨by decide, rfl⟩ (Cellar_lt hx) (Cellar_p_state hx) ?_
  refine q_aload_n (pc := 24) dX11_back_24 rfl rfl ?_
  refine q_getP (pc := 25) dX11_back_25 fX11_16 (Cellar_sh hx) ⟨by decide, rfl⟩ (Cellar_lt hx) (Cellar_p_past hx) ?_
  refine q_aload_n (pc := 28) dX11_back_28 rfl rfl ?_
  refine q_getI (pc := 29) dX11_back_29 fX11_20 (Cellar_sh hx) ⟨by decide, rfl⟩ (Cellar_lt hx) ?_
  rw [h1]
  refine q_aald (pc := 32) dX11_back_32 (Cellarpast_sh hx) (by decide) (Cellarpast_lt hx) rfl (show c < 7 by omega) (hP.1 _ (by omega)).1 ?_
  refine q_callVF (pc := 33) dX11_back_33 kX11_230 (c_X8_copyFrom (Cellar_s_state hx) (hP.2.2 _ (hP.1 _ (show c < 7 by omega)).2)) (State_sh (Cellar_s_state hx)) rfl (State_lt (Cellar_s_state hx)) ⟨Nat.le_of_ble_eq_true rfl, Nat.le_of_ble_eq_true rfl⟩ rfl rfl (Nat.le_of_ble_eq_true rfl) ?_
  show bq_W _ _ _ _ _ 36 _ [] _ _ _ _ _ _
  have h2 : st_cpI I1 (x + 1) (x + 165 + 53 * π c) x 2 = nI c := by rw [st_cpI_ne (by omega) (by omega)]; exact h1
  refine q_aload_n (pc := 36) dX11_back_36 rfl rfl ?_
  refine q_getI (pc := 37) dX11_back_37 fX11_20 (Cellar_sh hx) ⟨by decide, rfl⟩ (Cellar_lt hx) ?_
  rw [h2]
  exact q_iret (st := []) (pc := 40) dX11_back_40 rfl ⟨rfl, rfl, rfl, ⟨hx, hcb.copy (by omega), h2, (show c ≤ 6 by omega), π, hP, fun i hi => (hhb i hi).fr (fun a q1 q2 => st_cpI_ne (by omega) (by omega)) (fun a q1 q2 => st_cpL_ne (by omega) (by omega))⟩, by rw [st_cpI_ne (by omega) (by omega)]; exact hy, ⟨fun a ha => by rw [st_cpI_ne (by omega) (by omega)]; exact hf a (by omega), by rw [st_cpI_ne (by omega) (by omega)]; exact hz⟩, fun a ha => st_cpL_ne (by omega) (by omega), fun _ _ => rfl⟩
set_option maxHeartbeats 400000 in
set_option maxRecDepth 20000 in
theorem m_image {S : BqH} {n : Nat} {I : BqI} {L : BqL} {P : BqP} {x : Nat} (hx : oX S n P x) : bq_Sp mX11_image 5 124 0 0 [.ref x] S n I L P (bq_F (some (.int (I (x + 1) 0))) S n (bq_u (st_cpI I (x + 55) (x + 1)) x 4 (nI 1)) (st_cpL L (x + 55) (x + 1)) P) := by
  refine q_entry (vs := [some (.ref x)]) (by decide +kernel) (by simp) (Nat.le_of_ble_eq_true rfl) rfl ?_
  refine q_aload_n (pc := 0) dX11_image_0 rfl rfl ?_
  refine q_getP (pc := 1) dX11_image_1 fX11_24 (Cellar_sh hx) ⟨by decide, rfl⟩ (Cellar_lt hx) (Cellar_p_snapshot hx) ?_
  refine q_aload_n (pc := 4) dX11_image_4 rfl rfl ?_
  refine q_getP (pc := 5) dX11_image_5 fX11_10 (Cellar_sh hx) ⟨by decide, rfl⟩ (Cellar_lt hx) (Cellar_p_state hx) ?_
  refine q_callVF (pc := 8) dX11_image_8 kX11_230 (c_X8_copyFrom (Cellar_s_snapshot hx) (Cellar_s_state hx)) (State_sh (Cellar_s_snapshot hx)) rfl (State_lt (Cellar_s_snapshot hx)) ⟨Nat.le_of_ble_eq_true rfl, Nat.le_of_ble_eq_true rfl⟩ rfl rfl (Nat.le_of_ble_eq_true rfl) ?_
  show bq_W _ _ _ _ _ 11 _ [] _ _ _ _ _ _
  refine q_aload_n (pc := 11) dX11_image_11 rfl rfl ?_
  refine q_iconst (pc := 12) (v := nI 1) dX11_image_12 (by decide) ?_
  refine q_putZ (pc := 13) dX11_image_13 (pX11_27 _) (Cellar_sh hx) ⟨by decide, rfl⟩ (by decide) (Cellar_lt hx) ?_
  refine q_aload_n (pc := 16) dX11_image_16 rfl rfl ?_
  refine q_getP (pc := 17) dX11_image_17 fX11_10 (Cellar_sh hx) ⟨by decide, rfl⟩ (Cellar_lt hx) (Cellar_p_state hx) ?_
  refine q_getI (pc := 20) dX11_image_20 fX11_157 (State_sh (Cellar_s_state hx)) ⟨by decide, rfl⟩ (State_lt (Cellar_s_state hx)) ?_
  rw [show bq_u (st_cpI I (x + 55) (x + 1)) x 4 (nI 1) (x + 1) 0 = I (x + 1) 0 from by rw [bq_u_ne (by omega), st_cpI_ne (by omega) (by omega)]]
  exact q_iret (st := []) (pc := 23) dX11_image_23 rfl ⟨rfl, rfl, rfl, rfl, rfl, rfl⟩
set_option maxHeartbeats 400000 in
set_option maxRecDepth 20000 in
theorem m_undo_a {S : BqH} {n : Nat} {I : BqI} {L : BqL} {P : BqP} {x : Nat} (hx : oX S n P x) (h4 : I x 4 = 0) : bq_Sp mX11_undo 5 124 0 0 [.ref x] S n I L P (bq_F (some (.int (-3))) S n I L P) := by
  refine q_entry (vs := [some (.ref x)]) (by decide +kernel) (by simp) (Nat.le_of_ble_eq_true rfl) rfl ?_
  refine q_aload_n (pc := 0) dX11_undo_0 rfl rfl ?_
  refine q_getI (pc := 1) dX11_undo_1 fX11_27 (Cellar_sh hx) ⟨by decide, rfl⟩ (Cellar_lt hx) ?_
  refine q_if_ne (pc := 4) 10 dX11_undo_4 (by decide) (fun c_4 => (c_4 h4).elim) (fun c_4 => ?_)
  refine q_bipush (pc := 7) (v := (-3)) dX11_undo_7 (by decide) ?_
  exact q_iret (st := []) (pc := 9) dX11_undo_9 rfl ⟨rfl, rfl, rfl, rfl, rfl, rfl⟩
set_option maxHeartbeats 400000 in
set_option maxRecDepth 20000 in
theorem m_undo_b {S : BqH} {n : Nat} {I : BqI} {L : BqL} {P : BqP} {x : Nat} (hx : oX S n P x) (h4 : ¬ I x 4 = 0) : bq_Sp mX11_undo 5 124 0 0 [.ref x] S n I L P (bq_F (some (.int (I (x + 55) 0))) S n (bq_u (st_cpI I (x + 1) (x + 55)) x 2 (nI 0)) (st_cpL L (x + 1) (x + 55)) P) := by
  refine q_entry (vs := [some (.ref x)]) (by decide +kernel) (by simp) (Nat.le_of_ble_eq_true rfl) rfl ?_
  refine q_aload_n (pc := 0) dX11_undo_0 rfl rfl ?_
  refine q_getI (pc := 1) dX11_undo_1 fX11_27 (Cellar_sh hx) ⟨by decide, rfl⟩ (Cellar_lt hx) ?_
  refine q_if_ne (pc := 4) 10 dX11_undo_4 (by decide) (fun c_4 => ?_) (fun c_4 => (h4 c_4).elim)
  refine q_aload_n (pc := 10) dX11_undo_10 rfl rfl ?_
  refine q_getP (pc := 11) dX11_undo_11 fX11_10 (Cellar_sh hx) ⟨by decide, rfl⟩ (Cellar_lt hx) (Cellar_p_state hx) ?_
  refine q_aload_n (pc := 14) dX11_undo_14 rfl rfl ?_
  refine q_getP (pc := 15) dX11_undo_15 fX11_24 (Cellar_sh hx) ⟨by decide, rfl⟩ (Cellar_lt hx) (Cellar_p_snapshot hx) ?_
  refine q_callVF (pc := 18) dX11_undo_18 kX11_230 (c_X8_copyFrom (Cellar_s_state hx) (Cellar_s_snapshot hx)) (State_sh (Cellar_s_state hx)) rfl (State_lt (Cellar_s_state hx)) ⟨Nat.le_of_ble_eq_true rfl, Nat.le_of_ble_eq_true rfl⟩ rfl rfl (Nat.le_of_ble_eq_true rfl) ?_
  show bq_W _ _ _ _ _ 21 _ [] _ _ _ _ _ _
  refine q_aload_n (pc := 21) dX11_undo_21 rfl rfl ?_
  refine q_iconst (pc := 22) (v := nI 0) dX11_undo_22 (by decide) ?_
  refine q_putI (pc := 23) dX11_undo_23 (pX11_20 _) (Cellar_sh hx) ⟨by decide, rfl⟩ (Cellar_lt hx) ?_
  refine q_aload_n (pc := 26) dX11_undo_26 rfl rfl ?_
  refine q_getP (pc := 27) dX11_undo_27 fX11_10 (Cellar_sh hx) ⟨by decide, rfl⟩ (Cellar_lt hx) (Cellar_p_state hx) ?_
  refine q_getI (pc := 30) dX11_undo_30 fX11_157 (State_sh (Cellar_s_state hx)) ⟨by decide, rfl⟩ (State_lt (Cellar_s_state hx)) ?_
  rw [show bq_u (st_cpI I (x + 1) (x + 55)) x 2 (nI 0) (x + 1) 0 = I (x + 55) 0 from by rw [bq_u_ne (by omega)]; exact (cpd_f (by omega)).1 (0, 0, 1) (by decide) 0 (by decide) (by decide)]
  exact q_iret (st := []) (pc := 33) dX11_undo_33 rfl ⟨rfl, rfl, rfl, rfl, rfl, rfl⟩
