/-! readers -/
set_option maxHeartbeats 400000 in
set_option maxRecDepth 20000 in
theorem m_holds {S : BqH} {n : Nat} {I : BqI} {L : BqL} {P : BqP} {x : Nat} {g : BqG} {en : Nat} (hx : oX S n P x) (hC : CS I L (x + 1) g) (hG : GI g en) {d s : Int32} : bq_Sp mX11_holds 2 37 0 0 [.ref x, .int d, .int s] S n I L P (bq_F (some (.int (if (d < nI 0 ∨ ¬ d ≤ nI 9999) ∨ (s < nI 0 ∨ ¬ s ≤ nI 2000) then (-2) else ri (rfx (fun i => I (x + 1 + 33 + i) 0) (fun i => I (x + 1 + 33 + i) 1) d s (gn g 3))))) S n I L P) := by
  refine q_entry (vs := [some (.ref x), some (.int d), some (.int s)]) (by decide +kernel) (by simp) (Nat.le_of_ble_eq_true rfl) rfl ?_
  have hrl : gn g 3 ≤ 10 := hG.2.2.2.2.1
  have hrc : I (x + 1) 10 = nI (gn g 3) := (hC.1.at (k := 3) rfl).trans (hG.n (by decide) (by decide))
  refine q_iload_n (pc := 0) dX11_holds_0 rfl rfl ?_
  refine q_iconst (pc := 1) (v := nI 0) dX11_holds_1 (by decide) ?_
  refine q_sipush (pc := 2) (v := nI 9999) dX11_holds_2 (by decide) ?_
  refine q_callSF (pc := 5) dX11_holds_5 kX11_69 c_X11_outside ⟨Nat.le_of_ble_eq_true rfl, Nat.le_of_ble_eq_true rfl⟩ rfl rfl (Nat.le_of_ble_eq_true rfl) ?_
  show bq_W _ _ _ _ _ 8 _ [_] _ _ _ _ _ _
  refine q_if_ne (pc := 8) 22 dX11_holds_8 (by decide) (fun c_8 => ?_) (fun c_8 => ?_)
  · replace c_8 := bq_bn.mp c_8
    refine q_bipush (pc := 22) (v := (-2)) dX11_holds_22 (by decide) ?_
    exact q_iret (st := []) (pc := 24) dX11_holds_24 rfl ⟨by first | rw [if_pos (by first | exact Or.inl (by assumption) | exact Or.inr (by assumption))] | rw [if_neg (by rintro (q | q) <;> contradiction)], rfl, rfl, rfl, rfl, rfl⟩
  · replace c_8 := bq_b0.mp c_8
    refine q_iload_n (pc := 11) dX11_holds_11 rfl rfl ?_
    refine q_iconst (pc := 12) (v := nI 0) dX11_holds_12 (by decide) ?_
    refine q_sipush (pc := 13) (v := nI 2000) dX11_holds_13 (by decide) ?_
    refine q_callSF (pc := 16) dX11_holds_16 kX11_69 c_X11_outside ⟨Nat.le_of_ble_eq_true rfl, Nat.le_of_ble_eq_true rfl⟩ rfl rfl (Nat.le_of_ble_eq_true rfl) ?_
    show bq_W _ _ _ _ _ 19 _ [_] _ _ _ _ _ _
    refine q_if_eq (pc := 19) 25 dX11_holds_19 (by decide) (fun c_19 => ?_) (fun c_19 => ?_)
    · replace c_19 := bq_b0.mp c_19
      refine q_aload_n (pc := 25) dX11_holds_25 rfl rfl ?_
      refine q_getP (pc := 26) dX11_holds_26 fX11_10 (Cellar_sh hx) ⟨by decide, rfl⟩ (Cellar_lt hx) (Cellar_p_state hx) ?_
      refine q_iload_n (pc := 29) dX11_holds_29 rfl rfl ?_
      refine q_iload_n (pc := 30) dX11_holds_30 rfl rfl ?_
      refine q_callVF (pc := 31) dX11_holds_31 kX11_273 (c_X8_rateFor (Cellar_s_state hx) hrc hrl) (State_sh (Cellar_s_state hx)) rfl (State_lt (Cellar_s_state hx)) ⟨Nat.le_of_ble_eq_true rfl, Nat.le_of_ble_eq_true rfl⟩ rfl rfl (Nat.le_of_ble_eq_true rfl) ?_
      show bq_W _ _ _ _ _ 34 _ [_] _ _ _ _ _ _
      exact q_iret (st := []) (pc := 34) dX11_holds_34 rfl ⟨by first | rw [if_pos (by first | exact Or.inl (by assumption) | exact Or.inr (by assumption))] | rw [if_neg (by rintro (q | q) <;> contradiction)], rfl, rfl, rfl, rfl, rfl⟩
    · replace c_19 := bq_bn.mp c_19
      refine q_bipush (pc := 22) (v := (-2)) dX11_holds_22 (by decide) ?_
      exact q_iret (st := []) (pc := 24) dX11_holds_24 rfl ⟨by first | rw [if_pos (by first | exact Or.inl (by assumption) | exact Or.inr (by assumption))] | rw [if_neg (by rintro (q | q) <;> contradiction)], rfl, rfl, rfl, rfl, rfl⟩
set_option maxHeartbeats 400000 in
set_option maxRecDepth 20000 in
theorem m_entry {S : BqH} {n : Nat} {I : BqI} {L : BqL} {P : BqP} {x : Nat} (hx : oX S n P x) {i k : Int32} : bq_Sp mX11_entry 3 56 0 0 [.ref x, .int i, .int k] S n I L P (bq_F (some (.int (if i = (-1) then I (x + 1 + 13) 0 else jp (I (x + 1 + 13) 0) (I (x + 1 + 13 + 1)) i k))) S n I L P) := by
  refine q_entry (vs := [some (.ref x), some (.int i), some (.int k)]) (by decide +kernel) (by simp) (Nat.le_of_ble_eq_true rfl) rfl ?_
  refine q_iload_n (pc := 0) dX11_entry_0 rfl rfl ?_
  refine q_iconst (pc := 1) (v := (-1)) dX11_entry_1 (by decide) ?_
  refine q_icmp_ne (pc := 2) 16 dX11_entry_2 (by decide) (fun c_2 => ?_) (fun c_2 => ?_)
  · refine q_aload_n (pc := 16) dX11_entry_16 rfl rfl ?_
    refine q_getP (pc := 17) dX11_entry_17 fX11_10 (Cellar_sh hx) ⟨by decide, rfl⟩ (Cellar_lt hx) (Cellar_p_state hx) ?_
    refine q_getP (pc := 20) dX11_entry_20 fX11_294 (State_sh (Cellar_s_state hx)) ⟨by decide, rfl⟩ (State_lt (Cellar_s_state hx)) (State_p_journal (Cellar_s_state hx)) ?_
    refine q_iload_n (pc := 23) dX11_entry_23 rfl rfl ?_
    refine q_iload_n (pc := 24) dX11_entry_24 rfl rfl ?_
    refine q_callVF (pc := 25) dX11_entry_25 kX11_303 (c_X2_part (State_s_journal (Cellar_s_state hx))) (Journal_sh (State_s_journal (Cellar_s_state hx))) rfl (Journal_lt (State_s_journal (Cellar_s_state hx))) ⟨Nat.le_of_ble_eq_true rfl, Nat.le_of_ble_eq_true rfl⟩ rfl rfl (Nat.le_of_ble_eq_true rfl) ?_
    show bq_W _ _ _ _ _ 28 _ [_] _ _ _ _ _ _
    exact q_iret (st := []) (pc := 28) dX11_entry_28 rfl ⟨by first | rw [if_pos (by assumption)] | rw [if_neg (by assumption)], rfl, rfl, rfl, rfl, rfl⟩
  · refine q_aload_n (pc := 5) dX11_entry_5 rfl rfl ?_
    refine q_getP (pc := 6) dX11_entry_6 fX11_10 (Cellar_sh hx) ⟨by decide, rfl⟩ (Cellar_lt hx) (Cellar_p_state hx) ?_
    refine q_getP (pc := 9) dX11_entry_9 fX11_294 (State_sh (Cellar_s_state hx)) ⟨by decide, rfl⟩ (State_lt (Cellar_s_state hx)) (State_p_journal (Cellar_s_state hx)) ?_
    refine q_getI (pc := 12) dX11_entry_12 fX11_298 (Journal_sh (State_s_journal (Cellar_s_state hx))) ⟨by decide, rfl⟩ (Journal_lt (State_s_journal (Cellar_s_state hx))) ?_
    exact q_iret (st := []) (pc := 15) dX11_entry_15 rfl ⟨by first | rw [if_pos (by assumption)] | rw [if_neg (by assumption)], rfl, rfl, rfl, rfl, rfl⟩
