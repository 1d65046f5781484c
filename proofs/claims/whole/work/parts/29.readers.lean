/-! readers -/
set_option maxHeartbeats 400000 in
set_option maxRecDepth 20000 in
theorem m_holds {S : BqH} {n : Nat} {I : BqI} {L : BqL} {P : BqP} {x : Nat} {g : BqG} {en : Nat} (hx : oX S n P x) (hC : CS I L (x + 1) g) (hG : GI g en) {d s : Int32} : bq_Sp mX11_holds 2 37 0 0 [.ref x, .int d, .int s] S n I L P (bq_F (some (.int (if (d < nI 0 ∨ ¬ d ≤ nI 9999) ∨ (s < nI 0 ∨ ¬ s ≤ nI 2000) then (-2) else ri (rfx (fun i => I (x + 1 + 33 + i) 0) (fun i => I (x + 1 + 33 + i) 1) d s (gn g 3))))) S n I L P) := by
  refine q_entry (vs := [some (.ref x), some (.int d), some (.int s)]) (by decide +kernel) (by simp) (Nat.le_of_ble_eq_true rfl) rfl ?_
  have hrl : gn g 3 ≤ 10 := hG.2.2.2.2.1
  have hrc : I (x + 1) 10 = nI (gn g 3) := (hC.1.at (k := 3) rfl).trans (hG.n (by decide) (by decide))
  refine q_iload_n (pc := 0) dX11_holds_0 rfl rfl ?_
  refine q_iconst (pc := 1) (v := nI 0) dX11_holds_1 (by decide) ?_
  refine q_sipush (pc := 2) (v := nI 9999) dX11_holds_2 (by decide) ?_
  refine q_callSF (pc := 5) dX11_holds_5 kX11_69 c_X11_outside ⟨Nat.le_of_ble_eq_true rfl, Nat.le_of_ble_eq_true rfl⟩ rfl rfl (Nat.le_of_ble_eq_true rfl) ?_
  show bq_W _ _ _ _ _ 8 _ [_] _ _ _ _ _ _
  refine q_if_ne (pc := 8) 22 dX11_holds_8 (by decide) (fun c_8 => ?_) (fun c_8 => ?_)
  · replace c_8 := bq_bn.mp c_8
    refine q_bipush (pc := 22) (v := (-2)) dX11_holds_22 (by decide) ?_
    exact q_iret (st := []) (pc := 24) dX11_holds_24 rfl ⟨by first | rw [if_pos (by first | exact Or.inl (by assumption) | exact Or.inr (by assumption))] | rw [if_neg (by rintro (q | q) <;> contradiction)], rfl, rfl, rfl, rfl, rfl⟩
  · replace c_8 := bq_b0.mp c_8
    refine q_iload_n (pc := 11) dX11_holds_11 rfl rfl ?_
    refine q_iconst (pc := 12) (v := nI 0) dX11_holds_12 (by decide) ?_
    refine q_sipush (pc := 13) (v := nI 2000) dX11_holds_13 (by decide) ?_
    refine q_callSF (pc := 16) dX11_holds_16 kX11_69 c_X11_outside ⟨Nat.le_of_ble_eq_true rfl, Nat.le_of_ble_eq_true rfl⟩ rfl rfl (Nat.le_of_ble_eq_true rfl) ?_
    show bq_W _ _ _ _ _ 19 _ [_] _ _ _ _ _ _
    refine q_if_eq (pc := 19) 25 dX11_holds_19 (by decide) (fun c_19 => ?_) (fun c_19 => ?_)
    · replace c_19 := bq_b0.mp c_19
      refine q_aload_n (pc := 25) dX11_holds_25 rfl rfl ?_
      refine q_getP (pc := 26) dX11_holds_26 fX11_10 (Cellar_sh hx) ⟨by decide, rfl⟩ (Cellar_lt hx) (Cellar_p_state hx) ?_
      refine q_iload_n (pc := 29) dX11_holds_29 rfl rfl ?_
      refine q_iload_n (pc := 30) dX11_holds_30 rfl rfl ?_
      refine q_callVF (pc := 31) dX11_holds_31 kX11_273 (c_X8_rateFor (Cellar_s_state hx) hrc hrl) (State_sh (Cellar_s_state hx)) rfl (State_lt (Cellar_s_state hx)) ⟨Nat.le_of_ble_eq_true rfl, Nat.le_of_ble_eq_true rfl⟩ rfl rfl (Nat.le_of_ble_eq_true rfl) ?_
      show bq_W _ _ _ _ _ 34 _ [_] _ _ _ _ _ _
      exact q_iret (st := []) (pc := 34) dX11_holds_34 rfl ⟨by first | rw [if_pos (by first | exact Or.inl (by assumption) | exact Or.inr (by assumption))] | rw [if_neg (by rintro (q | q) <;> contradiction)], rfl, rfl, rfl, rfl, rfl⟩
    · replace c_19 := bq_bn.mp c_19
      refine q_bipush (pc := 22) (v := (-2)) dX11_holds_22 (by decide) ?_
      exact q_iret (st := []) (pc := 24) dX11_holds_24 rfl ⟨by first | rw [if_pos (by first | exact Or.inl (by assumption) | exact Or.inr (by assumption))] | rw [if_neg (by rintro (q | q) <;> contradiction)], rfl, rfl, rfl, rfl, rfl⟩
theorem i_vc : Claimed_1_1 ∧ Claimed_1_2 := sorry
