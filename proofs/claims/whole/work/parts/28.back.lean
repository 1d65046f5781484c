/-! back -/
set_option maxHeartbeats 400000 in
set_option maxRecDepth 20000 in
theorem m_back_a {S : BqH} {n : Nat} {I : BqI} {L : BqL} {P : BqP} {x : Nat} {g : BqG} {h : Nat → BqG} (hX : CXS x S n I L P g h 0) : bq_Sp mX11_back 5 124 0 0 [.ref x] S n I L P (qOp x I L S n P ((-3), g, h, 0, I x 10)) := by
  refine q_entry (vs := [some (.ref x)]) (by decide +kernel) (by simp) (Nat.le_of_ble_eq_true rfl) rfl ?_
  have hX' := hX
  obtain ⟨hx, hC, hc, hl, π, hP, hh⟩ := hX
  refine q_aload_n (pc := 0) dX11_back_0 rfl rfl ?_
  refine q_getI (pc := 1) dX11_back_1 fX11_20 (Cellar_sh hx) ⟨by decide, rfl⟩ (Cellar_lt hx) ?_
  rw [hc]
  refine q_if_gt (pc := 4) 10 dX11_back_4 (by decide) (fun c_4 => absurd c_4 (by decide)) (fun c_4 => ?_)
  refine q_bipush (pc := 7) (v := (-3)) dX11_back_7 (by decide) ?_
  exact q_iret (st := []) (pc := 9) dX11_back_9 rfl (qOp.same hX' rfl)
set_option maxHeartbeats 400000 in
set_option maxRecDepth 20000 in
theorem m_back_b {S : BqH} {n : Nat} {I : BqI} {L : BqL} {P : BqP} {x c : Nat} {g : BqG} {h : Nat → BqG} (hX : CXS x S n I L P g h (c + 1)) : bq_Sp mX11_back 5 124 0 0 [.ref x] S n I L P (qOp x I L S n P (nI c, h c, h, c, I x 10)) := by
  refine q_entry (vs := [some (.ref x)]) (by decide +kernel) (by simp) (Nat.le_of_ble_eq_true rfl) rfl ?_
  obtain ⟨hx, hC, hc, hl, π, hP, hh⟩ := hX
  refine q_aload_n (pc := 0) dX11_back_0 rfl rfl ?_
  refine q_getI (pc := 1) dX11_back_1 fX11_20 (Cellar_sh hx) ⟨by decide, rfl⟩ (Cellar_lt hx) ?_
  rw [hc]
  refine q_if_gt (pc := 4) 10 dX11_back_4 (by decide) (fun c_4 => ?_) (fun c_4 => absurd (show nI 0 < nI (c + 1) from nI_lt (by omega) (by omega)) c_4)
  refine q_aload_n (pc := 10) dX11_back_10 rfl rfl ?_
  refine q_dup (pc := 11) dX11_back_11 rfl ?_
  refine q_getI (pc := 12) dX11_back_12 fX11_20 (Cellar_sh hx) ⟨by decide, rfl⟩ (Cellar_lt hx) ?_
  rw [hc]
  refine q_iconst (pc := 15) (v := nI 1) dX11_back_15 (by decide) ?_
  refine q_isub (pc := 16) dX11_back_16 ?_
  rw [show nI (c + 1) - nI 1 = nI c from by rw [pk_sub (by omega), Nat.add_sub_cancel]]
  refine q_putI (pc := 17) dX11_back_17 (pX11_20 _) (Cellar_sh hx) ⟨by decide, rfl⟩ (Cellar_lt hx) ?_
  refine q_nameI (fun I1 e1 => ?_)
  have h1 : I1 x 2 = nI c := by rw [e1, bq_u_at]
  have hcb : CS I1 L (x + 165 + 53 * π c) (h c) := by rw [e1]; exact (hh c (by omega)).fr (fun a q1 q2 => bq_u_ne (by omega)) (fun _ _ _ => rfl)
  have hhb : ∀ i, i < c → CS I1 L (x + 165 + 53 * π i) (h i) := fun i hi => by rw [e1]; exact (hh i (by omega)).fr (fun a q1 q2 => bq_u_ne (by omega)) (fun _ _ _ => rfl)
  have hf : ∀ a, a ≠ x → I1 a = I a := fun a ha => by rw [e1]; exact bq_u_ne ha
  have hy : I1 x 10 = I x 10 := by rw [e1]; exact bq_u_no (by omega)
  have hz : I1 x 4 = I x 4 := by rw [e1]; exact bq_u_no (by omega)
  refine q_aload_n (pc := 20) dX11_back_20 rfl rfl ?_
  refine q_getP (pc := 21) dX11_back_21 fX11_10 (Cellar_sh hx) ⟨by decide, rfl⟩ (Cellar_lt hx) (Cellar_p_state hx) ?_
  refine q_aload_n (pc := 24) dX11_back_24 rfl rfl ?_
  refine q_getP (pc := 25) dX11_back_25 fX11_16 (Cellar_sh hx) ⟨by decide, rfl⟩ (Cellar_lt hx) (Cellar_p_past hx) ?_
  refine q_aload_n (pc := 28) dX11_back_28 rfl rfl ?_
  refine q_getI (pc := 29) dX11_back_29 fX11_20 (Cellar_sh hx) ⟨by decide, rfl⟩ (Cellar_lt hx) ?_
  rw [h1]
  refine q_aald (pc := 32) dX11_back_32 (Cellarpast_sh hx) (by decide) (Cellarpast_lt hx) rfl (show c < 7 by omega) (hP.1 _ (by omega)).1 ?_
  refine q_callVF (pc := 33) dX11_back_33 kX11_230 (c_X8_copyFrom (Cellar_s_state hx) (hP.2.2 _ (hP.1 _ (show c < 7 by omega)).2)) (State_sh (Cellar_s_state hx)) rfl (State_lt (Cellar_s_state hx)) ⟨Nat.le_of_ble_eq_true rfl, Nat.le_of_ble_eq_true rfl⟩ rfl rfl (Nat.le_of_ble_eq_true rfl) ?_
  show bq_W _ _ _ _ _ 36 _ [] _ _ _ _ _ _
  have h2 : st_cpI I1 (x + 1) (x + 165 + 53 * π c) x 2 = nI c := by rw [st_cpI_ne (by omega) (by omega)]; exact h1
  refine q_aload_n (pc := 36) dX11_back_36 rfl rfl ?_
  refine q_getI (pc := 37) dX11_back_37 fX11_20 (Cellar_sh hx) ⟨by decide, rfl⟩ (Cellar_lt hx) ?_
  rw [h2]
  exact q_iret (st := []) (pc := 40) dX11_back_40 rfl ⟨rfl, rfl, rfl, ⟨hx, hcb.copy (by omega), h2, (show c ≤ 6 by omega), π, hP, fun i hi => (hhb i hi).fr (fun a q1 q2 => st_cpI_ne (by omega) (by omega)) (fun a q1 q2 => st_cpL_ne (by omega) (by omega))⟩, by rw [st_cpI_ne (by omega) (by omega)]; exact hy, ⟨fun a ha => by rw [st_cpI_ne (by omega) (by omega)]; exact hf a (by omega), by rw [st_cpI_ne (by omega) (by omega)]; exact hz⟩, fun a ha => st_cpL_ne (by omega) (by omega), fun _ _ => rfl⟩
theorem i_vc : Claimed_1_1 ∧ Claimed_1_2 := sorry
