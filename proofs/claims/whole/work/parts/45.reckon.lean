/-! the class's plan is reckoned -/
def qRk (x : Nat) (g : BqG) (I : BqI) (S : BqH) (n : Nat) (L : BqL) (P : BqP) : BqQ := fun r S' n' I' L' P' => r = none ∧ S' = S ∧ n' = n ∧ L' = L ∧ P' = P ∧ (∀ a, a < x + 131 ∨ x + 152 ≤ a → I' a = I a) ∧ I' (x + 131) 0 = nI (plan g).2.1 ∧ ∀ j, j < (plan g).2.1 → I' (x + 131 + 1) j = nI ((plan g).2.2.1 j) ∧ I' (x + 131 + 2) j = nI ((plan g).2.2.2 j)
/-- while the tanks are copied -/
def LI (x : Nat) (g : BqG) (_ I1 J : BqI) (i : Nat) : Prop := (∀ a, a < x + 131 + 9 ∨ x + 152 ≤ a → J a = I1 a) ∧ ∀ t, t < i → ∀ j, j < 16 → J (x + 131 + 9 + 2 * t + 1) j = nI (gp g t j)
/-- after k orders of the queue -/
def MI (x : Nat) (g : BqG) (I J : BqI) (k : Nat) : Prop := (∀ a, a < x + 131 ∨ x + 152 ≤ a → J a = I a) ∧ J (x + 131) 0 = nI (pln g (qg g).1 k).2.1 ∧ J (x + 131) 3 = nI (qg g).2 ∧ (∀ j, j < (qg g).2 → J (x + 131 + 3) j = nI ((qg g).1 j)) ∧ (∀ t, t < 6 → ∀ j, j < 16 → J (x + 131 + 9 + 2 * t + 1) j = nI ((pln g (qg g).1 k).1 t j)) ∧ ∀ j, j < (pln g (qg g).1 k).2.1 → J (x + 131 + 1) j = nI ((pln g (qg g).1 k).2.2.1 j) ∧ J (x + 131 + 2) j = nI ((pln g (qg g).1 k).2.2.2 j)
theorem LI.start {x : Nat} {g : BqG} {I I1 : BqI} : LI x g I I1 I1 0 := ⟨fun _ _ => rfl, fun _ h => absurd h (Nat.not_lt_zero _)⟩
theorem bq_cp_at {I : BqI} {s d k j : Nat} (h : j < k) : bq_cp I s d k d j = I s j := by
  unfold bq_cp; rw [bq_r_self]; exact if_pos h
theorem bq_cp_ne {I : BqI} {s d k a : Nat} (h : a ≠ d) : bq_cp I s d k a = I a := by
  unfold bq_cp; exact bq_r_ne h
theorem LI.step {x i en : Nat} {g : BqG} {I I1 J : BqI} (h : LI x g I I1 J i) (hC : CSI I (x + 1) g) (hG : GI g en) (hQ : QI x g I I1 (qg g).1 (qg g).2) (hi : i < 6) : LI x g I I1 (bq_cp J (x + 1 + 15 + 3 * i + 1 + 1) (x + 131 + 9 + 2 * i + 1) 16) (i + 1) := by
  refine ⟨fun a ha => ?_, fun t ht j hj => ?_⟩
  · rw [bq_cp_ne (by omega)]; exact h.1 a ha
  · by_cases c : t = i
    · subst c
      rw [bq_cp_at hj, h.1 _ (by omega), hQ.1 _ (by omega) (by omega)]
      exact hC.pn hG hi j hj
    · rw [bq_cp_ne (by omega)]; exact h.2 t (by omega) j hj
theorem LI.start2 {x : Nat} {g : BqG} {I I1 J : BqI} (h : LI x g I I1 J 6) (hQ : QI x g I I1 (qg g).1 (qg g).2) : MI x g I (bq_u J (x + 131) 0 (nI 0)) 0 := by
  refine ⟨fun a ha => ?_, bq_u_at _ _ _ _, ?_, fun j hj => ?_, fun t ht j hj => ?_, fun j hj => absurd hj (Nat.not_lt_zero _)⟩
  · rw [bq_u_ne (by omega), h.1 a (by omega)]; exact hQ.1 a (by omega) (by omega)
  · rw [bq_u_no (by omega), h.1 _ (by omega)]; exact hQ.2.1
  · rw [bq_u_ne (by omega), h.1 _ (by omega)]; exact hQ.2.2.1 j hj
  · rw [bq_u_ne (by omega)]; exact h.2 t ht j hj
theorem pst_n {g : BqG} {k : Nat} (hb : bt g ((qg g).1 k) (pln g (qg g).1 k).1 6 = none) : pln g (qg g).1 (k + 1) = pln g (qg g).1 k := by
  show pst g (pln g (qg g).1 k) ((qg g).1 k) = _
  unfold pst; rw [hb]
theorem pst_s {g : BqG} {k t : Nat} (hb : bt g ((qg g).1 k) (pln g (qg g).1 k).1 6 = some t) : pln g (qg g).1 (k + 1) = (bq_r (pln g (qg g).1 k).1 t (fun b => (pln g (qg g).1 k).1 t b - npt ((pln g (qg g).1 k).1 t) (gn g (205 + 9 * (qg g).1 k)) b), (pln g (qg g).1 k).2.1 + 1, bq_r (pln g (qg g).1 k).2.2.1 (pln g (qg g).1 k).2.1 ((qg g).1 k), bq_r (pln g (qg g).1 k).2.2.2 (pln g (qg g).1 k).2.1 t) := by
  show pst g (pln g (qg g).1 k) ((qg g).1 k) = _
  unfold pst; rw [hb]
/-- an order's portion is taken out of what is left -/
def MR (x : Nat) (g : BqG) (_ J I3 : BqI) (k t : Nat) : Prop := (∀ a, a < x + 131 + 5 ∨ x + 152 ≤ a → I3 a = J a) ∧ I3 (x + 131) 0 = J (x + 131) 0 ∧ I3 (x + 131) 3 = J (x + 131) 3 ∧ I3 (x + 131 + 3) = J (x + 131 + 3) ∧ ∀ t', t' < 6 → ∀ j, j < 16 → I3 (x + 131 + 9 + 2 * t' + 1) j = nI (bq_r (pln g (qg g).1 k).1 t (fun b => (pln g (qg g).1 k).1 t b - npt ((pln g (qg g).1 k).1 t) (gn g (205 + 9 * (qg g).1 k)) b) t' j)
theorem MR.mk {x k t : Nat} {g : BqG} {I J I2 I3 : BqI} (hJ : MI x g I J k) (ht : t < 6) (g2 : ∀ a, a ≠ x + 131 + 5 + 1 + 1 → a ≠ x + 131 + 5 + 3 → I2 a = J a) (t2 : ∀ j, j < 16 → I2 (x + 131 + 5 + 1 + 1) j = nI (npt ((pln g (qg g).1 k).1 t) (gn g (205 + 9 * (qg g).1 k)) j)) (e3 : I3 = bl_rem I2 (x + 131 + 9 + 2 * t + 1) (x + 131 + 5 + 1 + 1) 16) (hle : ∀ j, j < 16 → nqq ((pln g (qg g).1 k).1 t) (gn g (205 + 9 * (qg g).1 k)) j ≤ npt ((pln g (qg g).1 k).1 t) (gn g (205 + 9 * (qg g).1 k)) j ∧ npt ((pln g (qg g).1 k).1 t) (gn g (205 + 9 * (qg g).1 k)) j ≤ (pln g (qg g).1 k).1 t j ∧ npt ((pln g (qg g).1 k).1 t) (gn g (205 + 9 * (qg g).1 k)) j ≤ nqq ((pln g (qg g).1 k).1 t) (gn g (205 + 9 * (qg g).1 k)) j + 1) : MR x g I J I3 k t := by
  obtain ⟨r1, r2⟩ := bl_rem_at (I := I2) (d := x + 131 + 9 + 2 * t + 1) (s := x + 131 + 5 + 1 + 1) (by omega) 16
  have e : ∀ a, a ≠ x + 131 + 9 + 2 * t + 1 → a ≠ x + 131 + 5 + 1 + 1 → a ≠ x + 131 + 5 + 3 → I3 a = J a := fun a h1 h2 h3 => by rw [e3, r1 a h1, g2 a h2 h3]
  refine ⟨fun a ha => e a (by omega) (by omega) (by omega), congrFun (e _ (by omega) (by omega) (by omega)) 0, congrFun (e _ (by omega) (by omega) (by omega)) 3, e _ (by omega) (by omega) (by omega), fun t' ht' j hj => ?_⟩
  by_cases c : t' = t
  · subst c
    rw [bq_r_self, e3, r2 j, if_pos hj, g2 _ (by omega) (by omega), t2 j hj, hJ.2.2.2.2.1 t' ht' j hj, pk_sub (hle j hj).2.1]
  · rw [bq_r_ne c, e _ (by omega) (by omega) (by omega)]; exact hJ.2.2.2.2.1 t' ht' j hj
theorem MR.next {x k t : Nat} {g : BqG} {I J I3 : BqI} (h : MR x g I J I3 k t) (hJ : MI x g I J k) (hb : bt g ((qg g).1 k) (pln g (qg g).1 k).1 6 = some t) (_ : (pln g (qg g).1 k).2.1 < 10) : MI x g I (bq_u (bq_u (bq_u I3 (x + 131 + 1) (pln g (qg g).1 k).2.1 (nI ((qg g).1 k))) (x + 131 + 2) (pln g (qg g).1 k).2.1 (nI t)) (x + 131) 0 (nI ((pln g (qg g).1 k).2.1 + 1))) (k + 1) := by
  unfold MI
  rw [pst_s hb]
  refine ⟨fun a ha => ?_, bq_u_at _ _ _ _, ?_, fun j hj => ?_, fun t' ht' j hj => ?_, fun j hj => ?_⟩
  · rw [bq_u_ne (by omega), bq_u_ne (by omega), bq_u_ne (by omega), h.1 a (by omega)]; exact hJ.1 a ha
  · rw [bq_u_no (by omega), bq_u_ne (by omega), bq_u_ne (by omega), h.2.2.1]; exact hJ.2.2.1
  · rw [bq_u_ne (by omega), bq_u_ne (by omega), bq_u_ne (by omega), h.2.2.2.1]; exact hJ.2.2.2.1 j hj
  · rw [bq_u_ne (by omega), bq_u_ne (by omega), bq_u_ne (by omega)]; exact h.2.2.2.2 t' ht' j hj
  · have hj : j < (pln g (qg g).1 k).2.1 + 1 := hj
    show _ = nI (bq_r (pln g (qg g).1 k).2.2.1 (pln g (qg g).1 k).2.1 ((qg g).1 k) j) ∧ _ = nI (bq_r (pln g (qg g).1 k).2.2.2 (pln g (qg g).1 k).2.1 t j)
    rw [bq_u_ne (show x + 131 + 1 ≠ x + 131 by omega), bq_u_ne (show x + 131 + 1 ≠ x + 131 + 2 by omega), bq_u_ne (show x + 131 + 2 ≠ x + 131 by omega)]
    by_cases c : j = (pln g (qg g).1 k).2.1
    · subst c; rw [bq_r_self, bq_r_self]; exact ⟨bq_u_at _ _ _ _, bq_u_at _ _ _ _⟩
    · rw [bq_r_ne c, bq_r_ne c, bq_u_no (by omega), bq_u_no (by omega), bq_u_ne (by omega), h.1 _ (by omega), h.1 _ (by omega)]
      exact hJ.2.2.2.2.2 j (by omega)
set_option maxHeartbeats 3740000 in
set_option maxRecDepth 20000 in
theorem c_reckon {S : BqH} {n : Nat} {I : BqI} {L : BqL} {P : BqP} {x : Nat} {g : BqG} {en : Nat} (hx : oX S n P x) (hC : CSI I (x + 1) g) (hG : GI g en) : bq_Sp mX5_reckon 4 84 0 0 [.ref (x + 131), .ref (x + 1)] S n I L P (qRk x g I S n L P) := by
  refine q_entry (vs := [some (.ref (x + 131)), some (.ref (x + 1)), none, none, none]) (by decide +kernel) (by simp) (Nat.le_of_ble_eq_true rfl) rfl ?_
  have hqk := qq_ok (kk g) (fun o => decide (g (208 + 9 * o) = 0)) (gn g 2)
  have hc2 : gn g 2 ≤ 10 := hG.2.2.2.1
  have hnl : (qg g).2 ≤ gn g 2 := hqk.2.2.2
  have hQl : ∀ j, j < (qg g).2 → (qg g).1 j < gn g 2 := fun j hj => (hqk.2.1 j hj).1
  have hP := pln_ok hG (qg g).1 (qg g).2 (gn g 2) hQl hc2 (fun j hj => (hG.o (o := (qg g).1 j) (by have := hQl j hj; omega)).2.1 (hQl j hj))
  have l2 : ∀ k, k ≤ (qg g).2 → ∀ (J : BqI) (v3 v4 : Option Value), MI x g I J k → bq_W mX5_reckon 4 84 0 0 44 [some (.ref (x + 131)), some (.ref (x + 1)), some (.int (nI k)), v3, v4] [] S n J L P (qRk x g I S n L P) := by
    refine bq_down (A := fun k => ∀ (J : BqI) (v3 v4 : Option Value), MI x g I J k → bq_W mX5_reckon 4 84 0 0 44 [some (.ref (x + 131)), some (.ref (x + 1)), some (.int (nI k)), v3, v4] [] S n J L P (qRk x g I S n L P)) (qg g).2 ?_ ?_
    · intro J v3 v4 hJ
      refine q_iload_n (pc := 44) dX5_reckon_44 rfl rfl ?_
      refine q_aload_n (pc := 45) dX5_reckon_45 rfl rfl ?_
      refine q_getI (pc := 46) dX5_reckon_46 fX5_22 (Plan_sh (Cellar_s_plan hx)) ⟨by decide, rfl⟩ (Plan_lt (Cellar_s_plan hx)) ?_
      rw [hJ.2.2.1]
      refine q_icmp_ge (pc := 49) 157 dX5_reckon_49 (by decide) (fun c_49 => ?_) (fun c_49 => absurd (nI_le (Nat.le_refl _) (by omega)) c_49)
      exact q_vret (st := []) (pc := 157) dX5_reckon_157 rfl ⟨rfl, rfl, rfl, rfl, rfl, hJ.1, hJ.2.1, hJ.2.2.2.2.2⟩
    · intro k hk ih J v3 v4 hJ
      have hQ10 : (qg g).1 k < 10 := by have := hQl k hk; omega
      obtain ⟨o1, o2, -⟩ := hG.o hQ10
      have o2 := o2 (hQl k hk)
      have hl : g (205 + 9 * (qg g).1 k) = nI (gn g (205 + 9 * (qg g).1 k)) := hG.n (by omega) (by omega)
      have hO : ∀ q, q < 8 → J (x + 1 + 43 + (qg g).1 k) q = g (204 + 9 * (qg g).1 k + q) := fun q hq => by rw [hJ.1 _ (by omega)]; exact hC.ao hQ10 hq
      have hst : ∀ j, j < 16 → J (x + 1 + 2) j = g (124 + 5 * j) := fun j hj => by rw [hJ.1 _ (by omega)]; exact hC.at (lc_B0 hj)
      have hF := hJ.2.2.2.2.1
      obtain ⟨p1, p2, p3⟩ := hP k (by omega)
      have hqk2 : J (x + 131 + 3) k = nI ((qg g).1 k) := hJ.2.2.2.1 k hk
      cases hb : bt g ((qg g).1 k) (pln g (qg g).1 k).1 6 with
      | none =>
        refine q_iload_n (pc := 44) dX5_reckon_44 rfl rfl ?_
        refine q_aload_n (pc := 45) dX5_reckon_45 rfl rfl ?_
        refine q_getI (pc := 46) dX5_reckon_46 fX5_22 (Plan_sh (Cellar_s_plan hx)) ⟨by decide, rfl⟩ (Plan_lt (Cellar_s_plan hx)) ?_
        rw [hJ.2.2.1]
        refine q_icmp_ge (pc := 49) 157 dX5_reckon_49 (by decide) (fun c_49 => absurd c_49 (nI_ge hk (by omega))) (fun c_49 => ?_)
        refine q_aload_n (pc := 52) dX5_reckon_52 rfl rfl ?_
        refine q_getP (pc := 53) dX5_reckon_53 fX5_61 (State_sh (Cellar_s_state hx)) ⟨by decide, rfl⟩ (State_lt (Cellar_s_state hx)) (State_p_orders (Cellar_s_state hx)) ?_
        refine q_aload_n (pc := 56) dX5_reckon_56 rfl rfl ?_
        refine q_getP (pc := 57) dX5_reckon_57 fX5_25 (Plan_sh (Cellar_s_plan hx)) ⟨by decide, rfl⟩ (Plan_lt (Cellar_s_plan hx)) (Plan_p_queue (Cellar_s_plan hx)) ?_
        refine q_iload_n (pc := 60) dX5_reckon_60 rfl rfl ?_
        refine q_iald (pc := 61) dX5_reckon_61 (oA_sh (Plan_s_queue (Cellar_s_plan hx))) (oA_lt (Plan_s_queue (Cellar_s_plan hx))) rfl (by omega) ?_
        rw [hqk2]
        refine q_aald (pc := 62) dX5_reckon_62 (Stateorders_sh (Cellar_s_state hx)) (by decide) (Stateorders_lt (Cellar_s_state hx)) rfl hQ10 (Stateorders_p_el (Cellar_s_state hx) hQ10) ?_
        refine q_astore_n (pc := 63) dX5_reckon_63 rfl (Nat.le_of_ble_eq_true rfl) rfl ?_
        show bq_W _ _ _ _ _ 64 [_, _, _, _, _] _ _ _ _ _ _ _
        refine q_aload_n (pc := 64) dX5_reckon_64 rfl rfl ?_
        refine q_aload_n (pc := 65) dX5_reckon_65 rfl rfl ?_
        refine q_aload_n (pc := 66) dX5_reckon_66 rfl rfl ?_
        refine q_getP (pc := 67) dX5_reckon_67 fX5_64 (State_sh (Cellar_s_state hx)) ⟨by decide, rfl⟩ (State_lt (Cellar_s_state hx)) (State_p_strengths (Cellar_s_state hx)) ?_
        refine q_callVF (pc := 70) dX5_reckon_70 kX5_67 (c_best (F := (pln g (qg g).1 k).1) hx hQ10 hl o1 rfl hO hst hF p1) (Plan_sh (Cellar_s_plan hx)) rfl (Plan_lt (Cellar_s_plan hx)) ⟨Nat.le_of_ble_eq_true rfl, Nat.le_of_ble_eq_true rfl⟩ rfl rfl (Nat.le_of_ble_eq_true rfl) ?_
        show bq_W _ _ _ _ _ 73 _ [_] _ _ _ _ _ _
        rw [hb, show ri none = (-5) from rfl]
        refine q_istore (pc := 73) dX5_reckon_73 (Nat.le_of_ble_eq_true rfl) rfl ?_
        show bq_W _ _ _ _ _ 75 [_, _, _, _, _] _ _ _ _ _ _ _
        refine q_iload (pc := 75) dX5_reckon_75 rfl ?_
        refine q_if_lt (pc := 77) 151 dX5_reckon_77 (by decide) (fun c_77 => ?_) (fun c_77 => ((c_77 (by decide) : False)).elim)
        refine q_iinc (pc := 151) (v := nI (k + 1)) dX5_reckon_151 rfl (bq_inc _) (Nat.le_of_ble_eq_true rfl) rfl ?_
        show bq_W _ _ _ _ _ 154 [_, _, _, _, _] _ _ _ _ _ _ _
        refine q_goto (pc := 154) 44 dX5_reckon_154 (by decide) ?_
        exact ih J _ _ (by unfold MI; rw [show pln g (qg g).1 (k + 1) = pln g (qg g).1 k from pst_n hb]; exact hJ)
      | some t =>
        obtain ⟨ht6, hfit⟩ := bt_ok hb
        obtain ⟨f1, -, -⟩ := fit_d hfit
        have hpos : 0 < ns ((pln g (qg g).1 k).1 t) 16 := by omega
        have htb := p1 t ht6
        have hFt := hF t ht6
        refine q_iload_n (pc := 44) dX5_reckon_44 rfl rfl ?_
        refine q_aload_n (pc := 45) dX5_reckon_45 rfl rfl ?_
        refine q_getI (pc := 46) dX5_reckon_46 fX5_22 (Plan_sh (Cellar_s_plan hx)) ⟨by decide, rfl⟩ (Plan_lt (Cellar_s_plan hx)) ?_
        rw [hJ.2.2.1]
        refine q_icmp_ge (pc := 49) 157 dX5_reckon_49 (by decide) (fun c_49 => absurd c_49 (nI_ge hk (by omega))) (fun c_49 => ?_)
        refine q_aload_n (pc := 52) dX5_reckon_52 rfl rfl ?_
        refine q_getP (pc := 53) dX5_reckon_53 fX5_61 (State_sh (Cellar_s_state hx)) ⟨by decide, rfl⟩ (State_lt (Cellar_s_state hx)) (State_p_orders (Cellar_s_state hx)) ?_
        refine q_aload_n (pc := 56) dX5_reckon_56 rfl rfl ?_
        refine q_getP (pc := 57) dX5_reckon_57 fX5_25 (Plan_sh (Cellar_s_plan hx)) ⟨by decide, rfl⟩ (Plan_lt (Cellar_s_plan hx)) (Plan_p_queue (Cellar_s_plan hx)) ?_
        refine q_iload_n (pc := 60) dX5_reckon_60 rfl rfl ?_
        refine q_iald (pc := 61) dX5_reckon_61 (oA_sh (Plan_s_queue (Cellar_s_plan hx))) (oA_lt (Plan_s_queue (Cellar_s_plan hx))) rfl (by omega) ?_
        rw [hqk2]
        refine q_aald (pc := 62) dX5_reckon_62 (Stateorders_sh (Cellar_s_state hx)) (by decide) (Stateorders_lt (Cellar_s_state hx)) rfl hQ10 (Stateorders_p_el (Cellar_s_state hx) hQ10) ?_
        refine q_astore_n (pc := 63) dX5_reckon_63 rfl (Nat.le_of_ble_eq_true rfl) rfl ?_
        show bq_W _ _ _ _ _ 64 [_, _, _, _, _] _ _ _ _ _ _ _
        refine q_aload_n (pc := 64) dX5_reckon_64 rfl rfl ?_
        refine q_aload_n (pc := 65) dX5_reckon_65 rfl rfl ?_
        refine q_aload_n (pc := 66) dX5_reckon_66 rfl rfl ?_
        refine q_getP (pc := 67) dX5_reckon_67 fX5_64 (State_sh (Cellar_s_state hx)) ⟨by decide, rfl⟩ (State_lt (Cellar_s_state hx)) (State_p_strengths (Cellar_s_state hx)) ?_
        refine q_callVF (pc := 70) dX5_reckon_70 kX5_67 (c_best (F := (pln g (qg g).1 k).1) hx hQ10 hl o1 rfl hO hst hF p1) (Plan_sh (Cellar_s_plan hx)) rfl (Plan_lt (Cellar_s_plan hx)) ⟨Nat.le_of_ble_eq_true rfl, Nat.le_of_ble_eq_true rfl⟩ rfl rfl (Nat.le_of_ble_eq_true rfl) ?_
        show bq_W _ _ _ _ _ 73 _ [_] _ _ _ _ _ _
        rw [hb, show ri (some t) = nI t from rfl]
        refine q_istore (pc := 73) dX5_reckon_73 (Nat.le_of_ble_eq_true rfl) rfl ?_
        show bq_W _ _ _ _ _ 75 [_, _, _, _, _] _ _ _ _ _ _ _
        refine q_iload (pc := 75) dX5_reckon_75 rfl ?_
        refine q_if_lt (pc := 77) 151 dX5_reckon_77 (by decide) (fun c_77 => ((nI_pos (by omega) c_77 : False)).elim) (fun c_77 => ?_)
        refine q_aload_n (pc := 80) dX5_reckon_80 rfl rfl ?_
        refine q_getP (pc := 81) dX5_reckon_81 fX5_37 (Plan_sh (Cellar_s_plan hx)) ⟨by decide, rfl⟩ (Plan_lt (Cellar_s_plan hx)) (Plan_p_taken (Cellar_s_plan hx)) ?_
        refine q_aload_n (pc := 84) dX5_reckon_84 rfl rfl ?_
        refine q_getP (pc := 85) dX5_reckon_85 fX5_30 (Plan_sh (Cellar_s_plan hx)) ⟨by decide, rfl⟩ (Plan_lt (Cellar_s_plan hx)) (Plan_p_left (Cellar_s_plan hx)) ?_
        refine q_iload (pc := 88) dX5_reckon_88 rfl ?_
        refine q_aald (pc := 90) dX5_reckon_90 (Planleft_sh (Cellar_s_plan hx)) (by decide) (Planleft_lt (Cellar_s_plan hx)) rfl ht6 (Planleft_p_el (Cellar_s_plan hx) ht6) ?_
        refine q_aload_n (pc := 91) dX5_reckon_91 rfl rfl ?_
        refine q_getI (pc := 92) dX5_reckon_92 fX5_71 (Order_sh (Stateorders_s_el (Cellar_s_state hx) hQ10)) ⟨by decide, rfl⟩ (Order_lt (Stateorders_s_el (Cellar_s_state hx) hQ10)) ?_
        rw [show J (x + 1 + 43 + (qg g).1 k) 1 = nI (gn g (205 + 9 * (qg g).1 k)) from by rw [hO 1 (by decide), show 204 + 9 * (qg g).1 k + 1 = 205 + 9 * (qg g).1 k by omega]; exact hl]
        refine q_callV (pc := 95) dX5_reckon_95 kX5_76 (c_take (w := x + 131 + 9 + 2 * t) (Plan_s_taken (Cellar_s_plan hx)) (Planleft_s_el (Cellar_s_plan hx) ht6) (by omega) (by omega) (pm_n hFt f1 hpos htb).2 (by omega)) (Portion_sh (Plan_s_taken (Cellar_s_plan hx))) rfl (Portion_lt (Plan_s_taken (Cellar_s_plan hx))) ⟨Nat.le_of_ble_eq_true rfl, Nat.le_of_ble_eq_true rfl⟩ rfl rfl (Nat.le_of_ble_eq_true rfl) ?_
        rintro _ S2 n2 I2 L2 P2 ⟨rfl, eS2, en2, eL2, eP2, g2, t2⟩
        subst S2 n2 L2 P2
        show bq_W _ _ _ _ _ 98 _ [] _ _ _ _ _ _
        have ht2 := fun j hj => (t2 j hj).trans (pt_n hFt f1 hpos htb j hj)
        refine q_aload_n (pc := 98) dX5_reckon_98 rfl rfl ?_
        refine q_getP (pc := 99) dX5_reckon_99 fX5_30 (Plan_sh (Cellar_s_plan hx)) ⟨by decide, rfl⟩ (Plan_lt (Cellar_s_plan hx)) (Plan_p_left (Cellar_s_plan hx)) ?_
        refine q_iload (pc := 102) dX5_reckon_102 rfl ?_
        refine q_aald (pc := 104) dX5_reckon_104 (Planleft_sh (Cellar_s_plan hx)) (by decide) (Planleft_lt (Cellar_s_plan hx)) rfl ht6 (Planleft_p_el (Cellar_s_plan hx) ht6) ?_
        refine q_aload_n (pc := 105) dX5_reckon_105 rfl rfl ?_
        refine q_getP (pc := 106) dX5_reckon_106 fX5_37 (Plan_sh (Cellar_s_plan hx)) ⟨by decide, rfl⟩ (Plan_lt (Cellar_s_plan hx)) (Plan_p_taken (Cellar_s_plan hx)) ?_
        refine q_getP (pc := 109) dX5_reckon_109 fX5_80 (Portion_sh (Plan_s_taken (Cellar_s_plan hx))) ⟨by decide, rfl⟩ (Portion_lt (Plan_s_taken (Cellar_s_plan hx))) (Portion_p_blend (Plan_s_taken (Cellar_s_plan hx))) ?_
        refine q_callVF (pc := 112) dX5_reckon_112 kX5_83 (c_X0_remove (Planleft_s_el (Cellar_s_plan hx) ht6) (Portion_s_blend (Plan_s_taken (Cellar_s_plan hx)))) (Blend_sh (Planleft_s_el (Cellar_s_plan hx) ht6)) rfl (Blend_lt (Planleft_s_el (Cellar_s_plan hx) ht6)) ⟨Nat.le_of_ble_eq_true rfl, Nat.le_of_ble_eq_true rfl⟩ rfl rfl (Nat.le_of_ble_eq_true rfl) ?_
        show bq_W _ _ _ _ _ 115 _ [] _ _ _ _ _ _
        refine q_nameI (fun I3 e3 => ?_)
        have hM3 : MR x g I J I3 k t := MR.mk hJ ht6 g2 ht2 e3 (npt_in f1 hpos).1
        have hc3 : I3 (x + 131) 0 = nI (pln g (qg g).1 k).2.1 := hM3.2.1.trans hJ.2.1
        have hcl : (pln g (qg g).1 k).2.1 < 10 := by omega
        refine q_aload_n (pc := 115) dX5_reckon_115 rfl rfl ?_
        refine q_getP (pc := 116) dX5_reckon_116 fX5_15 (Plan_sh (Cellar_s_plan hx)) ⟨by decide, rfl⟩ (Plan_lt (Cellar_s_plan hx)) (Plan_p_orders (Cellar_s_plan hx)) ?_
        refine q_aload_n (pc := 119) dX5_reckon_119 rfl rfl ?_
        refine q_getI (pc := 120) dX5_reckon_120 fX5_9 (Plan_sh (Cellar_s_plan hx)) ⟨by decide, rfl⟩ (Plan_lt (Cellar_s_plan hx)) ?_
        rw [hc3]
        refine q_aload_n (pc := 123) dX5_reckon_123 rfl rfl ?_
        refine q_getP (pc := 124) dX5_reckon_124 fX5_25 (Plan_sh (Cellar_s_plan hx)) ⟨by decide, rfl⟩ (Plan_lt (Cellar_s_plan hx)) (Plan_p_queue (Cellar_s_plan hx)) ?_
        refine q_iload_n (pc := 127) dX5_reckon_127 rfl rfl ?_
        refine q_iald (pc := 128) dX5_reckon_128 (oA_sh (Plan_s_queue (Cellar_s_plan hx))) (oA_lt (Plan_s_queue (Cellar_s_plan hx))) rfl (by omega) ?_
        rw [show I3 (x + 131 + 3) k = nI ((qg g).1 k) from (congrFun (hM3.2.2.2.1) k).trans hqk2]
        refine q_iast (pc := 129) dX5_reckon_129 (oA_sh (Plan_s_orders (Cellar_s_plan hx))) (oA_lt (Plan_s_orders (Cellar_s_plan hx))) rfl hcl ?_
        refine q_aload_n (pc := 130) dX5_reckon_130 rfl rfl ?_
        refine q_getP (pc := 131) dX5_reckon_131 fX5_19 (Plan_sh (Cellar_s_plan hx)) ⟨by decide, rfl⟩ (Plan_lt (Cellar_s_plan hx)) (Plan_p_tanks (Cellar_s_plan hx)) ?_
        refine q_aload_n (pc := 134) dX5_reckon_134 rfl rfl ?_
        refine q_getI (pc := 135) dX5_reckon_135 fX5_9 (Plan_sh (Cellar_s_plan hx)) ⟨by decide, rfl⟩ (Plan_lt (Cellar_s_plan hx)) ?_
        rw [show bq_u I3 (x + 131 + 1) (pln g (qg g).1 k).2.1 (nI ((qg g).1 k)) (x + 131) 0 = nI (pln g (qg g).1 k).2.1 from by rw [bq_u_ne (by omega)]; exact hc3]
        refine q_iload (pc := 138) dX5_reckon_138 rfl ?_
        refine q_iast (pc := 140) dX5_reckon_140 (oA_sh (Plan_s_tanks (Cellar_s_plan hx))) (oA_lt (Plan_s_tanks (Cellar_s_plan hx))) rfl hcl ?_
        refine q_aload_n (pc := 141) dX5_reckon_141 rfl rfl ?_
        refine q_dup (pc := 142) dX5_reckon_142 rfl ?_
        refine q_getI (pc := 143) dX5_reckon_143 fX5_9 (Plan_sh (Cellar_s_plan hx)) ⟨by decide, rfl⟩ (Plan_lt (Cellar_s_plan hx)) ?_
        rw [show bq_u (bq_u I3 (x + 131 + 1) (pln g (qg g).1 k).2.1 (nI ((qg g).1 k))) (x + 131 + 2) (pln g (qg g).1 k).2.1 (nI t) (x + 131) 0 = nI (pln g (qg g).1 k).2.1 from by rw [bq_u_ne (by omega), bq_u_ne (by omega)]; exact hc3]
        refine q_iconst (pc := 146) (v := nI 1) dX5_reckon_146 (by decide) ?_
        refine q_iaddN (pc := 147) dX5_reckon_147 ?_
        refine q_putI (pc := 148) dX5_reckon_148 (pX5_9 _) (Plan_sh (Cellar_s_plan hx)) ⟨by decide, rfl⟩ (Plan_lt (Cellar_s_plan hx)) ?_
        refine q_iinc (pc := 151) (v := nI (k + 1)) dX5_reckon_151 rfl (bq_inc _) (Nat.le_of_ble_eq_true rfl) rfl ?_
        show bq_W _ _ _ _ _ 154 [_, _, _, _, _] _ _ _ _ _ _ _
        refine q_goto (pc := 154) 44 dX5_reckon_154 (by decide) ?_
        exact ih _ _ _ (hM3.next hJ hb hcl)
  refine q_aload_n (pc := 0) dX5_reckon_0 rfl rfl ?_
  refine q_aload_n (pc := 1) dX5_reckon_1 rfl rfl ?_
  refine q_callV (pc := 2) dX5_reckon_2 kX5_42 (c_queue hx hC hG) (Plan_sh (Cellar_s_plan hx)) rfl (Plan_lt (Cellar_s_plan hx)) ⟨Nat.le_of_ble_eq_true rfl, Nat.le_of_ble_eq_true rfl⟩ rfl rfl (Nat.le_of_ble_eq_true rfl) ?_
  rintro _ S1 n1 I1 L1 P1 ⟨rfl, eS1, en1, eL1, eP1, hQ1⟩
  subst S1 n1 L1 P1
  show bq_W _ _ _ _ _ 5 _ [] _ _ _ _ _ _
  refine q_iconst (pc := 5) (v := nI 0) dX5_reckon_5 (by decide) ?_
  refine q_istore_n (pc := 6) dX5_reckon_6 rfl (Nat.le_of_ble_eq_true rfl) rfl ?_
  show bq_W _ _ _ _ _ 7 [_, _, _, _, _] _ _ _ _ _ _ _
  have l1 : ∀ i, i ≤ 6 → ∀ (J : BqI), LI x g I I1 J i → ∀ v3 v4 : Option Value, bq_W mX5_reckon 4 84 0 0 7 [some (.ref (x + 131)), some (.ref (x + 1)), some (.int (nI i)), v3, v4] [] S n J L P (qRk x g I S n L P) := by
    refine bq_down (A := fun i => ∀ (J : BqI), LI x g I I1 J i → ∀ v3 v4 : Option Value, bq_W mX5_reckon 4 84 0 0 7 [some (.ref (x + 131)), some (.ref (x + 1)), some (.int (nI i)), v3, v4] [] S n J L P (qRk x g I S n L P)) 6 ?_ ?_
    · intro J hJ v3 v4
      refine q_iload_n (pc := 7) dX5_reckon_7 rfl rfl ?_
      refine q_bipush (pc := 8) (v := nI 6) dX5_reckon_8 (by decide) ?_
      refine q_icmp_ge (pc := 10) 37 dX5_reckon_10 (by decide) (fun c_10 => ?_) (fun c_10 => absurd (by decide) c_10)
      refine q_aload_n (pc := 37) dX5_reckon_37 rfl rfl ?_
      refine q_iconst (pc := 38) (v := nI 0) dX5_reckon_38 (by decide) ?_
      refine q_putI (pc := 39) dX5_reckon_39 (pX5_9 _) (Plan_sh (Cellar_s_plan hx)) ⟨by decide, rfl⟩ (Plan_lt (Cellar_s_plan hx)) ?_
      refine q_iconst (pc := 42) (v := nI 0) dX5_reckon_42 (by decide) ?_
      refine q_istore_n (pc := 43) dX5_reckon_43 rfl (Nat.le_of_ble_eq_true rfl) rfl ?_
      show bq_W _ _ _ _ _ 44 [_, _, _, _, _] _ _ _ _ _ _ _
      exact l2 0 (Nat.zero_le _) _ _ _ (hJ.start2 hQ1)
    · intro i hi ih J hJ v3 v4
      refine q_iload_n (pc := 7) dX5_reckon_7 rfl rfl ?_
      refine q_bipush (pc := 8) (v := nI 6) dX5_reckon_8 (by decide) ?_
      refine q_icmp_ge (pc := 10) 37 dX5_reckon_10 (by decide) (fun c_10 => absurd c_10 (nI_ge hi (by decide))) (fun c_10 => ?_)
      refine q_aload_n (pc := 13) dX5_reckon_13 rfl rfl ?_
      refine q_getP (pc := 14) dX5_reckon_14 fX5_30 (Plan_sh (Cellar_s_plan hx)) ⟨by decide, rfl⟩ (Plan_lt (Cellar_s_plan hx)) (Plan_p_left (Cellar_s_plan hx)) ?_
      refine q_iload_n (pc := 17) dX5_reckon_17 rfl rfl ?_
      refine q_aald (pc := 18) dX5_reckon_18 (Planleft_sh (Cellar_s_plan hx)) (by decide) (Planleft_lt (Cellar_s_plan hx)) rfl hi (Planleft_p_el (Cellar_s_plan hx) hi) ?_
      refine q_aload_n (pc := 19) dX5_reckon_19 rfl rfl ?_
      refine q_getP (pc := 20) dX5_reckon_20 fX5_46 (State_sh (Cellar_s_state hx)) ⟨by decide, rfl⟩ (State_lt (Cellar_s_state hx)) (State_p_tanks (Cellar_s_state hx)) ?_
      refine q_iload_n (pc := 23) dX5_reckon_23 rfl rfl ?_
      refine q_aald (pc := 24) dX5_reckon_24 (Statetanks_sh (Cellar_s_state hx)) (by decide) (Statetanks_lt (Cellar_s_state hx)) rfl hi (Statetanks_p_el (Cellar_s_state hx) hi) ?_
      refine q_getP (pc := 25) dX5_reckon_25 fX5_51 (Tank_sh (Statetanks_s_el (Cellar_s_state hx) hi)) ⟨by decide, rfl⟩ (Tank_lt (Statetanks_s_el (Cellar_s_state hx) hi)) (Tank_p_content (Statetanks_s_el (Cellar_s_state hx) hi)) ?_
      refine q_callVF (pc := 28) dX5_reckon_28 kX5_57 (c_X0_copyFrom (Planleft_s_el (Cellar_s_plan hx) hi) (Tank_s_content (Statetanks_s_el (Cellar_s_state hx) hi))) (Blend_sh (Planleft_s_el (Cellar_s_plan hx) hi)) rfl (Blend_lt (Planleft_s_el (Cellar_s_plan hx) hi)) ⟨Nat.le_of_ble_eq_true rfl, Nat.le_of_ble_eq_true rfl⟩ rfl rfl (Nat.le_of_ble_eq_true rfl) ?_
      show bq_W _ _ _ _ _ 31 _ [] _ _ _ _ _ _
      refine q_iinc (pc := 31) (v := nI (i + 1)) dX5_reckon_31 rfl (bq_inc _) (Nat.le_of_ble_eq_true rfl) rfl ?_
      show bq_W _ _ _ _ _ 34 [_, _, _, _, _] _ _ _ _ _ _ _
      refine q_goto (pc := 34) 7 dX5_reckon_34 (by decide) ?_
      exact ih _ (hJ.step hC hG hQ1 hi) _ _
  exact l1 0 (Nat.zero_le _) _ LI.start _ _
