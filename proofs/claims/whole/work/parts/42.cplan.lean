/-! the class's plan: the queue, the best tank -/
theorem pk_p1 {p : Nat} : nI (p + 1) - nI 1 = nI p := by rw [pk_sub (by omega), Nat.add_sub_cancel]
/-- what the queue holds -/
def QI (x : Nat) (_ : BqG) (I J : BqI) (Q : Nat → Nat) (c : Nat) : Prop := (∀ a, a ≠ x + 131 → a ≠ x + 131 + 3 → J a = I a) ∧ J (x + 131) 3 = nI c ∧ (∀ j, j < c → J (x + 131 + 3) j = nI (Q j)) ∧ ∀ k, k ≠ 3 → J (x + 131) k = I (x + 131) k
def QI0 (g : BqG) (Q : Nat → Nat) (c i : Nat) : Prop := c ≤ i ∧ ∀ j, j < c → Q j < i ∧ decide (g (208 + 9 * Q j) = 0) = true
def SI (x : Nat) (J J' : BqI) (Q : Nat → Nat) (c p : Nat) : Prop := (∀ a, a ≠ x + 131 + 3 → J' a = J a) ∧ (∀ j, j < p → J' (x + 131 + 3) j = J (x + 131 + 3) j) ∧ ∀ j, p < j → j ≤ c → J' (x + 131 + 3) j = nI (Q (j - 1))
def qQu (x : Nat) (g : BqG) (I : BqI) (S : BqH) (n : Nat) (L : BqL) (P : BqP) : BqQ := fun r S' n' I' L' P' => r = none ∧ S' = S ∧ n' = n ∧ L' = L ∧ P' = P ∧ QI x g I I' (qg g).1 (qg g).2
theorem QI.start {x : Nat} {g : BqG} {I : BqI} : QI x g I (bq_u I (x + 131) 3 (nI 0)) (qq (kk g) (fun o => decide (g (208 + 9 * o) = 0)) 0).1 (qq (kk g) (fun o => decide (g (208 + 9 * o) = 0)) 0).2 :=
  ⟨fun a h1 _ => bq_u_ne h1, bq_u_at _ _ _ _, fun j hj => absurd hj (Nat.not_lt_zero j), fun k hk => bq_u_no (fun q => hk q.2)⟩
theorem QI0.mk {g : BqG} {i : Nat} : QI0 g (qq (kk g) (fun o => decide (g (208 + 9 * o) = 0)) i).1 (qq (kk g) (fun o => decide (g (208 + 9 * o) = 0)) i).2 i := by
  obtain ⟨-, h2, -, h4⟩ := qq_ok (kk g) (fun o => decide (g (208 + 9 * o) = 0)) i
  exact ⟨h4, h2⟩
theorem SI.rf {x c : Nat} {J : BqI} {Q : Nat → Nat} : SI x J J Q c c := ⟨fun _ _ => rfl, fun _ _ => rfl, fun j h1 h2 => absurd h1 (by omega)⟩
theorem SI.step {x c p : Nat} {J J' : BqI} {Q : Nat → Nat} (h : SI x J J' Q c (p + 1)) (hp : p + 1 ≤ c) : SI x J (bq_u J' (x + 131 + 3) (p + 1) (nI (Q p))) Q c p := by
  refine ⟨fun a ha => (bq_u_ne ha).trans (h.1 a ha), fun j hj => (bq_u_no (by omega)).trans (h.2.1 j (by omega)), fun j h1 h2 => ?_⟩
  by_cases e : j = p + 1
  · subst e; rw [bq_u_at, Nat.add_sub_cancel]
  · rw [bq_u_no (fun q => e q.2)]; exact h.2.2 j (by omega) h2
theorem QI.put {x c p q i : Nat} {g : BqG} {I J J' : BqI} {Q : Nat → Nat} (h : QI x g I J Q c) (hS : SI x J J' Q c p) (hp : p ≤ c) (hq : q = p) : QI x g I (bq_u (bq_u J' (x + 131 + 3) p (nI i)) (x + 131) 3 (nI (c + 1))) (qin Q q i) (c + 1) := by
  subst hq
  refine ⟨fun a h1 h2 => ?_, bq_u_at _ _ _ _, fun j hj => ?_, fun k hk => ?_⟩
  · rw [bq_u_ne h1, bq_u_ne h2, hS.1 a h2]; exact h.1 a h1 h2
  · rw [bq_u_ne (by omega)]
    unfold qin
    by_cases c1 : j < q
    · rw [if_pos c1, bq_u_no (by omega), hS.2.1 j c1]; exact h.2.2.1 j (by omega)
    · rw [if_neg c1]
      by_cases c2 : j = q
      · subst c2; rw [if_pos rfl, bq_u_at]
      · rw [if_neg c2, bq_u_no (by omega)]; exact hS.2.2 j (by omega) (by omega)
  · rw [bq_u_no (fun z => hk z.2), bq_u_ne (by omega), hS.1 _ (by omega)]; exact h.2.2.2 k hk
theorem ahd_w {x i q en : Nat} {g : BqG} {J : BqI} (hG : GI g en) (hi : i < 10) (hq : q < 10) (hO : ∀ o, o < 10 → ∀ k, k < 8 → J (x + 1 + 43 + o) k = g (204 + 9 * o + k)) (h : kk g i < kk g q) : J (x + 1 + 43 + i) 0 < J (x + 1 + 43 + q) 0 ∨ (J (x + 1 + 43 + i) 0 = J (x + 1 + 43 + q) 0 ∧ ¬ J (x + 1 + 43 + i) 1 ≤ J (x + 1 + 43 + q) 1) := by
  rw [hO i hi 0 (by decide), hO q hq 0 (by decide), hO i hi 1 (by decide), hO q hq 1 (by decide), show 204 + 9 * i + 1 = 205 + 9 * i by omega, show 204 + 9 * q + 1 = 205 + 9 * q by omega]
  exact (ahd_kk hG hi hq).mpr h
theorem ahd_v {x i q en : Nat} {g : BqG} {J : BqI} (hG : GI g en) (hi : i < 10) (hq : q < 10) (hO : ∀ o, o < 10 → ∀ k, k < 8 → J (x + 1 + 43 + o) k = g (204 + 9 * o + k)) (h : J (x + 1 + 43 + i) 0 < J (x + 1 + 43 + q) 0 ∨ (J (x + 1 + 43 + i) 0 = J (x + 1 + 43 + q) 0 ∧ ¬ J (x + 1 + 43 + i) 1 ≤ J (x + 1 + 43 + q) 1)) : kk g i < kk g q := by
  rw [hO i hi 0 (by decide), hO q hq 0 (by decide), hO i hi 1 (by decide), hO q hq 1 (by decide), show 204 + 9 * i + 1 = 205 + 9 * i by omega, show 204 + 9 * q + 1 = 205 + 9 * q by omega] at h
  exact (ahd_kk hG hi hq).mp h
def few (F : Nat → Nat → Nat) (r : Option Nat) : Int32 := match r with
  | none => nI 0
  | some q => nI (ns (F q) 16)
theorem fit_1 {g : BqG} {o : Nat} {F : Nat → Nat} (h : ns F 16 < gn g (205 + 9 * o)) : ¬ fit g o F = true := by
  unfold fit
  rw [decide_eq_false (show ¬ gn g (205 + 9 * o) ≤ ns F 16 by omega)]
  simp
theorem fit_2 {g : BqG} {o : Nat} {F : Nat → Nat} (h : ¬ (¬ bq_str (fun j => nI (F j)) (fun b => g (124 + 5 * b)) < g (206 + 9 * o) ∧ ¬ g (207 + 9 * o) < bq_str (fun j => nI (F j)) (fun b => g (124 + 5 * b)))) : ¬ fit g o F = true := fun z => by
  unfold fit at z
  simp only [Bool.and_eq_true, decide_eq_true_eq] at z
  exact h ⟨z.1.2, z.2⟩
theorem fit_y {g : BqG} {o : Nat} {F : Nat → Nat} (h1 : gn g (205 + 9 * o) ≤ ns F 16) (h : ¬ bq_str (fun j => nI (F j)) (fun b => g (124 + 5 * b)) < g (206 + 9 * o) ∧ ¬ g (207 + 9 * o) < bq_str (fun j => nI (F j)) (fun b => g (124 + 5 * b))) : fit g o F = true := by
  unfold fit
  simp only [Bool.and_eq_true, decide_eq_true_eq]
  exact ⟨⟨h1, h.1⟩, h.2⟩
theorem fit_d {g : BqG} {o : Nat} {F : Nat → Nat} (z : fit g o F = true) : gn g (205 + 9 * o) ≤ ns F 16 ∧ ¬ bq_str (fun j => nI (F j)) (fun b => g (124 + 5 * b)) < g (206 + 9 * o) ∧ ¬ g (207 + 9 * o) < bq_str (fun j => nI (F j)) (fun b => g (124 + 5 * b)) := by
  unfold fit at z
  simp only [Bool.and_eq_true, decide_eq_true_eq] at z
  exact ⟨z.1.1, z.1.2, z.2⟩
theorem bt_no {g : BqG} {o i : Nat} {F : Nat → Nat → Nat} (h : ¬ fit g o (F i) = true) : bt g o F (i + 1) = bt g o F i := if_neg h
theorem bt_new {g : BqG} {o i : Nat} {F : Nat → Nat → Nat} (hr : bt g o F i = none) (h : fit g o (F i) = true) : bt g o F (i + 1) = some i := by
  unfold bt; rw [if_pos h, hr]
theorem bt_lt {g : BqG} {o i q : Nat} {F : Nat → Nat → Nat} (hr : bt g o F i = some q) (h : fit g o (F i) = true) (hl : ns (F i) 16 < ns (F q) 16) : bt g o F (i + 1) = some i := by
  unfold bt; rw [if_pos h, hr]; exact if_pos hl
theorem bt_ge {g : BqG} {o i q : Nat} {F : Nat → Nat → Nat} (hr : bt g o F i = some q) (h : fit g o (F i) = true) (hl : ¬ ns (F i) 16 < ns (F q) 16) : bt g o F (i + 1) = some q := by
  unfold bt; rw [if_pos h, hr]; exact if_neg hl
/-- the tank of an order among the fillings -/
def tofr (O T : Nat → Nat) (o : Nat) : Nat → Nat → Int32
  | _, 0 => (-5)
  | i, k + 1 => if O i = o then nI (T i) else tofr O T o (i + 1) k
set_option maxHeartbeats 2700000 in
set_option maxRecDepth 20000 in
theorem c_queue {S : BqH} {n : Nat} {I : BqI} {L : BqL} {P : BqP} {x : Nat} {g : BqG} {en : Nat} (hx : oX S n P x) (hC : CSI I (x + 1) g) (hG : GI g en) : bq_Sp mX5_queueOpenOrders 2 33 0 0 [.ref (x + 131), .ref (x + 1)] S n I L P (qQu x g I S n L P) := by
  refine q_entry (vs := [some (.ref (x + 131)), some (.ref (x + 1)), none, none, none]) (by decide +kernel) (by simp) (Nat.le_of_ble_eq_true rfl) rfl ?_
  have hc : I (x + 1) 12 = nI (gn g 2) := (hC.at (k := 2) rfl).trans (hG.n (by decide) (by decide))
  have hcl : gn g 2 ≤ 10 := hG.2.2.2.1
  have l2 : ∀ i, i < gn g 2 → ∀ (J : BqI) (Q : Nat → Nat) (c : Nat), QI x g I J Q c → QI0 g Q c i → decide (g (208 + 9 * i) = 0) = true → (∀ (J' : BqI) (v3 v4 : Option Value), QI x g I J' (qin Q (qpl (kk g) Q i c) i) (c + 1) → bq_W mX5_queueOpenOrders 2 33 0 0 7 [some (.ref (x + 131)), some (.ref (x + 1)), some (.int (nI (i + 1))), v3, v4] [] S n J' L P (qQu x g I S n L P)) → ∀ p, p ≤ c → ∀ J' : BqI, SI x J J' Q c p → qpl (kk g) Q i c = qpl (kk g) Q i p → bq_W mX5_queueOpenOrders 2 33 0 0 44 [some (.ref (x + 131)), some (.ref (x + 1)), some (.int (nI i)), some (.ref (x + 1 + 43 + i)), some (.int (nI p))] [] S n J' L P (qQu x g I S n L P) := by
    intro i hi J Q c hJ hQ0 hop K p
    have hi10 : i < 10 := by omega
    have hc10 : c ≤ i := hQ0.1
    induction p with
    | zero =>
      intro hp J' hS he
      refine q_iload (pc := 44) dX5_queueOpenOrders_44 rfl ?_
      refine q_if_le (pc := 46) 92 dX5_queueOpenOrders_46 (by decide) (fun c_46 => ?_) (fun c_46 => absurd (by decide) c_46)
      refine q_aload_n (pc := 92) dX5_queueOpenOrders_92 rfl rfl ?_
      refine q_getP (pc := 93) dX5_queueOpenOrders_93 fX5_25 (Plan_sh (Cellar_s_plan hx)) ⟨by decide, rfl⟩ (Plan_lt (Cellar_s_plan hx)) (Plan_p_queue (Cellar_s_plan hx)) ?_
      refine q_iload (pc := 96) dX5_queueOpenOrders_96 rfl ?_
      refine q_iload_n (pc := 98) dX5_queueOpenOrders_98 rfl rfl ?_
      refine q_iast (pc := 99) dX5_queueOpenOrders_99 (oA_sh (Plan_s_queue (Cellar_s_plan hx))) (oA_lt (Plan_s_queue (Cellar_s_plan hx))) rfl (by omega) ?_
      refine q_aload_n (pc := 100) dX5_queueOpenOrders_100 rfl rfl ?_
      refine q_dup (pc := 101) dX5_queueOpenOrders_101 rfl ?_
      refine q_getI (pc := 102) dX5_queueOpenOrders_102 fX5_22 (Plan_sh (Cellar_s_plan hx)) ⟨by decide, rfl⟩ (Plan_lt (Cellar_s_plan hx)) ?_
      rw [show bq_u J' (x + 131 + 3) 0 (nI i) (x + 131) 3 = nI c from by rw [bq_u_ne (by omega), hS.1 _ (by omega)]; exact hJ.2.1]
      refine q_iconst (pc := 105) (v := nI 1) dX5_queueOpenOrders_105 (by decide) ?_
      refine q_iaddN (pc := 106) dX5_queueOpenOrders_106 ?_
      refine q_putI (pc := 107) dX5_queueOpenOrders_107 (pX5_22 _) (Plan_sh (Cellar_s_plan hx)) ⟨by decide, rfl⟩ (Plan_lt (Cellar_s_plan hx)) ?_
      refine q_iinc (pc := 110) (v := nI (i + 1)) dX5_queueOpenOrders_110 rfl (bq_inc _) (Nat.le_of_ble_eq_true rfl) rfl ?_
      show bq_W _ _ _ _ _ 113 [_, _, _, _, _] _ _ _ _ _ _ _
      refine q_goto (pc := 113) 7 dX5_queueOpenOrders_113 (by decide) ?_
      exact K _ _ _ (hJ.put hS (by omega) (by rw [he]; rfl))
    | succ p ihp =>
      intro hp J' hS he
      have hQp : Q p < 10 := by have := (hQ0.2 p (by omega)).1; omega
      have hqp : J' (x + 131 + 3) p = nI (Q p) := hS.2.1 p (by omega) ▸ hJ.2.2.1 p (by omega)
      have hO : ∀ o, o < 10 → ∀ k, k < 8 → J' (x + 1 + 43 + o) k = g (204 + 9 * o + k) := fun o ho k hk => by rw [hS.1 _ (by omega), hJ.1 _ (by omega) (by omega)]; exact hC.ao ho hk
      refine q_iload (pc := 44) dX5_queueOpenOrders_44 rfl ?_
      refine q_if_le (pc := 46) 92 dX5_queueOpenOrders_46 (by decide) (fun c_46 => absurd c_46 (nI_nle (Nat.succ_pos p) (by omega))) (fun c_46 => ?_)
      refine q_aload_n (pc := 49) dX5_queueOpenOrders_49 rfl rfl ?_
      refine q_aload_n (pc := 50) dX5_queueOpenOrders_50 rfl rfl ?_
      refine q_getP (pc := 51) dX5_queueOpenOrders_51 fX5_61 (State_sh (Cellar_s_state hx)) ⟨by decide, rfl⟩ (State_lt (Cellar_s_state hx)) (State_p_orders (Cellar_s_state hx)) ?_
      refine q_aload_n (pc := 54) dX5_queueOpenOrders_54 rfl rfl ?_
      refine q_getP (pc := 55) dX5_queueOpenOrders_55 fX5_25 (Plan_sh (Cellar_s_plan hx)) ⟨by decide, rfl⟩ (Plan_lt (Cellar_s_plan hx)) (Plan_p_queue (Cellar_s_plan hx)) ?_
      refine q_iload (pc := 58) dX5_queueOpenOrders_58 rfl ?_
      refine q_iconst (pc := 60) (v := nI 1) dX5_queueOpenOrders_60 (by decide) ?_
      refine q_isub (pc := 61) dX5_queueOpenOrders_61 ?_
      rw [pk_p1]
      refine q_iald (pc := 62) dX5_queueOpenOrders_62 (oA_sh (Plan_s_queue (Cellar_s_plan hx))) (oA_lt (Plan_s_queue (Cellar_s_plan hx))) rfl (by omega) ?_
      rw [hqp]
      refine q_aald (pc := 63) dX5_queueOpenOrders_63 (Stateorders_sh (Cellar_s_state hx)) (by decide) (Stateorders_lt (Cellar_s_state hx)) rfl hQp (Stateorders_p_el (Cellar_s_state hx) hQp) ?_
      refine q_callVF (pc := 64) dX5_queueOpenOrders_64 kX5_92 (c_X4_aheadOf (Stateorders_s_el (Cellar_s_state hx) hi10) (Stateorders_s_el (Cellar_s_state hx) hQp)) (Order_sh (Stateorders_s_el (Cellar_s_state hx) hi10)) rfl (Order_lt (Stateorders_s_el (Cellar_s_state hx) hi10)) ⟨Nat.le_of_ble_eq_true rfl, Nat.le_of_ble_eq_true rfl⟩ rfl rfl (Nat.le_of_ble_eq_true rfl) ?_
      show bq_W _ _ _ _ _ 67 _ [_] _ _ _ _ _ _
      refine q_if_eq (pc := 67) 92 dX5_queueOpenOrders_67 (by decide) (fun c_67 => ?_) (fun c_67 => ?_)
      · replace c_67 := bq_b0.mp c_67
        have hn : ¬ kk g i < kk g (Q p) := fun z => c_67 (ahd_w hG hi10 hQp hO z)
        refine q_aload_n (pc := 92) dX5_queueOpenOrders_92 rfl rfl ?_
        refine q_getP (pc := 93) dX5_queueOpenOrders_93 fX5_25 (Plan_sh (Cellar_s_plan hx)) ⟨by decide, rfl⟩ (Plan_lt (Cellar_s_plan hx)) (Plan_p_queue (Cellar_s_plan hx)) ?_
        refine q_iload (pc := 96) dX5_queueOpenOrders_96 rfl ?_
        refine q_iload_n (pc := 98) dX5_queueOpenOrders_98 rfl rfl ?_
        refine q_iast (pc := 99) dX5_queueOpenOrders_99 (oA_sh (Plan_s_queue (Cellar_s_plan hx))) (oA_lt (Plan_s_queue (Cellar_s_plan hx))) rfl (by omega) ?_
        refine q_aload_n (pc := 100) dX5_queueOpenOrders_100 rfl rfl ?_
        refine q_dup (pc := 101) dX5_queueOpenOrders_101 rfl ?_
        refine q_getI (pc := 102) dX5_queueOpenOrders_102 fX5_22 (Plan_sh (Cellar_s_plan hx)) ⟨by decide, rfl⟩ (Plan_lt (Cellar_s_plan hx)) ?_
        rw [show bq_u J' (x + 131 + 3) (p + 1) (nI i) (x + 131) 3 = nI c from by rw [bq_u_ne (by omega), hS.1 _ (by omega)]; exact hJ.2.1]
        refine q_iconst (pc := 105) (v := nI 1) dX5_queueOpenOrders_105 (by decide) ?_
        refine q_iaddN (pc := 106) dX5_queueOpenOrders_106 ?_
        refine q_putI (pc := 107) dX5_queueOpenOrders_107 (pX5_22 _) (Plan_sh (Cellar_s_plan hx)) ⟨by decide, rfl⟩ (Plan_lt (Cellar_s_plan hx)) ?_
        refine q_iinc (pc := 110) (v := nI (i + 1)) dX5_queueOpenOrders_110 rfl (bq_inc _) (Nat.le_of_ble_eq_true rfl) rfl ?_
        show bq_W _ _ _ _ _ 113 [_, _, _, _, _] _ _ _ _ _ _ _
        refine q_goto (pc := 113) 7 dX5_queueOpenOrders_113 (by decide) ?_
        exact K _ _ _ (hJ.put hS (by omega) (by rw [he]; exact if_neg hn))
      · replace c_67 := bq_bn.mp c_67
        have hy : kk g i < kk g (Q p) := ahd_v hG hi10 hQp hO c_67
        refine q_aload_n (pc := 70) dX5_queueOpenOrders_70 rfl rfl ?_
        refine q_getP (pc := 71) dX5_queueOpenOrders_71 fX5_25 (Plan_sh (Cellar_s_plan hx)) ⟨by decide, rfl⟩ (Plan_lt (Cellar_s_plan hx)) (Plan_p_queue (Cellar_s_plan hx)) ?_
        refine q_iload (pc := 74) dX5_queueOpenOrders_74 rfl ?_
        refine q_aload_n (pc := 76) dX5_queueOpenOrders_76 rfl rfl ?_
        refine q_getP (pc := 77) dX5_queueOpenOrders_77 fX5_25 (Plan_sh (Cellar_s_plan hx)) ⟨by decide, rfl⟩ (Plan_lt (Cellar_s_plan hx)) (Plan_p_queue (Cellar_s_plan hx)) ?_
        refine q_iload (pc := 80) dX5_queueOpenOrders_80 rfl ?_
        refine q_iconst (pc := 82) (v := nI 1) dX5_queueOpenOrders_82 (by decide) ?_
        refine q_isub (pc := 83) dX5_queueOpenOrders_83 ?_
        rw [pk_p1]
        refine q_iald (pc := 84) dX5_queueOpenOrders_84 (oA_sh (Plan_s_queue (Cellar_s_plan hx))) (oA_lt (Plan_s_queue (Cellar_s_plan hx))) rfl (by omega) ?_
        rw [hqp]
        refine q_iast (pc := 85) dX5_queueOpenOrders_85 (oA_sh (Plan_s_queue (Cellar_s_plan hx))) (oA_lt (Plan_s_queue (Cellar_s_plan hx))) rfl (by omega) ?_
        refine q_iinc (pc := 86) dX5_queueOpenOrders_86 rfl rfl (Nat.le_of_ble_eq_true rfl) rfl ?_
        show bq_W _ _ _ _ _ 89 [_, _, _, _, _] _ _ _ _ _ _ _
        rw [show nI (p + 1) + Int32.ofInt (-1) = nI p from pk_m1 p]
        refine q_goto (pc := 89) 44 dX5_queueOpenOrders_89 (by decide) ?_
        exact ihp (by omega) _ (hS.step hp) (he.trans (if_pos hy))
  have lp : ∀ i, i ≤ gn g 2 → ∀ (J : BqI) (v3 v4 : Option Value), QI x g I J (qq (kk g) (fun o => decide (g (208 + 9 * o) = 0)) i).1 (qq (kk g) (fun o => decide (g (208 + 9 * o) = 0)) i).2 → bq_W mX5_queueOpenOrders 2 33 0 0 7 [some (.ref (x + 131)), some (.ref (x + 1)), some (.int (nI i)), v3, v4] [] S n J L P (qQu x g I S n L P) := by
    refine bq_down (A := fun i => ∀ (J : BqI) (v3 v4 : Option Value), QI x g I J (qq (kk g) (fun o => decide (g (208 + 9 * o) = 0)) i).1 (qq (kk g) (fun o => decide (g (208 + 9 * o) = 0)) i).2 → bq_W mX5_queueOpenOrders 2 33 0 0 7 [some (.ref (x + 131)), some (.ref (x + 1)), some (.int (nI i)), v3, v4] [] S n J L P (qQu x g I S n L P)) (gn g 2) ?_ ?_
    · intro J v3 v4 hJ
      refine q_iload_n (pc := 7) dX5_queueOpenOrders_7 rfl rfl ?_
      refine q_aload_n (pc := 8) dX5_queueOpenOrders_8 rfl rfl ?_
      refine q_getI (pc := 9) dX5_queueOpenOrders_9 fX5_86 (State_sh (Cellar_s_state hx)) ⟨by decide, rfl⟩ (State_lt (Cellar_s_state hx)) ?_
      rw [show J (x + 1) 12 = nI (gn g 2) from by rw [hJ.1 _ (by omega) (by omega)]; exact hc]
      refine q_icmp_ge (pc := 12) 116 dX5_queueOpenOrders_12 (by decide) (fun c_12 => ?_) (fun c_12 => absurd (nI_le (Nat.le_refl _) (by omega)) c_12)
      exact q_vret (st := []) (pc := 116) dX5_queueOpenOrders_116 rfl ⟨rfl, rfl, rfl, rfl, rfl, hJ⟩
    · intro i hi ih J v3 v4 hJ
      have hst : J (x + 1 + 43 + i) 4 = g (208 + 9 * i) := by rw [hJ.1 _ (by omega) (by omega), hC.ao (o := i) (k := 4) (by omega) (by decide)]; congr 1; omega
      have hQ0 : QI0 g (qq (kk g) (fun o => decide (g (208 + 9 * o) = 0)) i).1 (qq (kk g) (fun o => decide (g (208 + 9 * o) = 0)) i).2 i := QI0.mk
      refine q_iload_n (pc := 7) dX5_queueOpenOrders_7 rfl rfl ?_
      refine q_aload_n (pc := 8) dX5_queueOpenOrders_8 rfl rfl ?_
      refine q_getI (pc := 9) dX5_queueOpenOrders_9 fX5_86 (State_sh (Cellar_s_state hx)) ⟨by decide, rfl⟩ (State_lt (Cellar_s_state hx)) ?_
      rw [show J (x + 1) 12 = nI (gn g 2) from by rw [hJ.1 _ (by omega) (by omega)]; exact hc]
      refine q_icmp_ge (pc := 12) 116 dX5_queueOpenOrders_12 (by decide) (fun c_12 => absurd c_12 (nI_ge hi (by omega))) (fun c_12 => ?_)
      refine q_iload_n (pc := 15) dX5_queueOpenOrders_15 rfl rfl ?_
      refine q_bipush (pc := 16) (v := nI 10) dX5_queueOpenOrders_16 (by decide) ?_
      refine q_icmp_ge (pc := 18) 116 dX5_queueOpenOrders_18 (by decide) (fun c_18 => absurd c_18 (nI_ge (show i < 10 by omega) (by decide))) (fun c_18 => ?_)
      refine q_aload_n (pc := 21) dX5_queueOpenOrders_21 rfl rfl ?_
      refine q_getP (pc := 22) dX5_queueOpenOrders_22 fX5_61 (State_sh (Cellar_s_state hx)) ⟨by decide, rfl⟩ (State_lt (Cellar_s_state hx)) (State_p_orders (Cellar_s_state hx)) ?_
      refine q_iload_n (pc := 25) dX5_queueOpenOrders_25 rfl rfl ?_
      refine q_aald (pc := 26) dX5_queueOpenOrders_26 (Stateorders_sh (Cellar_s_state hx)) (by decide) (Stateorders_lt (Cellar_s_state hx)) rfl (show i < 10 by omega) (Stateorders_p_el (Cellar_s_state hx) (show i < 10 by omega)) ?_
      refine q_astore_n (pc := 27) dX5_queueOpenOrders_27 rfl (Nat.le_of_ble_eq_true rfl) rfl ?_
      show bq_W _ _ _ _ _ 28 [_, _, _, _, _] _ _ _ _ _ _ _
      refine q_aload_n (pc := 28) dX5_queueOpenOrders_28 rfl rfl ?_
      refine q_getI (pc := 29) dX5_queueOpenOrders_29 fX5_89 (Order_sh (Stateorders_s_el (Cellar_s_state hx) (show i < 10 by omega))) ⟨by decide, rfl⟩ (Order_lt (Stateorders_s_el (Cellar_s_state hx) (show i < 10 by omega))) ?_
      refine q_if_eq (pc := 32) 38 dX5_queueOpenOrders_32 (by decide) (fun c_32 => ?_) (fun c_32 => ?_)
      · have hop : decide (g (208 + 9 * i) = 0) = true := decide_eq_true (hst ▸ c_32)
        refine q_aload_n (pc := 38) dX5_queueOpenOrders_38 rfl rfl ?_
        refine q_getI (pc := 39) dX5_queueOpenOrders_39 fX5_22 (Plan_sh (Cellar_s_plan hx)) ⟨by decide, rfl⟩ (Plan_lt (Cellar_s_plan hx)) ?_
        rw [hJ.2.1]
        refine q_istore (pc := 42) dX5_queueOpenOrders_42 (Nat.le_of_ble_eq_true rfl) rfl ?_
        show bq_W _ _ _ _ _ 44 [_, _, _, _, _] _ _ _ _ _ _ _
        exact l2 i hi J _ _ hJ hQ0 hop (fun J' v3 v4 hJ' => ih J' v3 v4 (by rw [show (qq (kk g) (fun o => decide (g (208 + 9 * o) = 0)) (i + 1)) = _ from if_pos hop]; exact hJ')) _ (Nat.le_refl _) J SI.rf rfl
      · refine q_goto (pc := 35) 110 dX5_queueOpenOrders_35 (by decide) ?_
        refine q_iinc (pc := 110) (v := nI (i + 1)) dX5_queueOpenOrders_110 rfl (bq_inc _) (Nat.le_of_ble_eq_true rfl) rfl ?_
        show bq_W _ _ _ _ _ 113 [_, _, _, _, _] _ _ _ _ _ _ _
        refine q_goto (pc := 113) 7 dX5_queueOpenOrders_113 (by decide) ?_
        exact ih J _ _ (by rw [show (qq (kk g) (fun o => decide (g (208 + 9 * o) = 0)) (i + 1)) = (qq (kk g) (fun o => decide (g (208 + 9 * o) = 0)) i) from if_neg (fun z => c_32 (hst ▸ of_decide_eq_true z))]; exact hJ)
  refine q_aload_n (pc := 0) dX5_queueOpenOrders_0 rfl rfl ?_
  refine q_iconst (pc := 1) (v := nI 0) dX5_queueOpenOrders_1 (by decide) ?_
  refine q_putI (pc := 2) dX5_queueOpenOrders_2 (pX5_22 _) (Plan_sh (Cellar_s_plan hx)) ⟨by decide, rfl⟩ (Plan_lt (Cellar_s_plan hx)) ?_
  refine q_iconst (pc := 5) (v := nI 0) dX5_queueOpenOrders_5 (by decide) ?_
  refine q_istore_n (pc := 6) dX5_queueOpenOrders_6 rfl (Nat.le_of_ble_eq_true rfl) rfl ?_
  show bq_W _ _ _ _ _ 7 [_, _, _, _, _] _ _ _ _ _ _ _
  exact lp 0 (Nat.zero_le _) _ _ _ QI.start
set_option maxHeartbeats 3220000 in
set_option maxRecDepth 20000 in
theorem c_best {S : BqH} {n : Nat} {I : BqI} {L : BqL} {P : BqP} {x o : Nat} {g : BqG} {F : Nat → Nat → Nat} (hx : oX S n P x) (ho : o < 10) {l : Nat} (hl : g (205 + 9 * o) = nI l) (hll : l ≤ 9999) (hll2 : gn g (205 + 9 * o) = l) (hO : ∀ k, k < 8 → I (x + 1 + 43 + o) k = g (204 + 9 * o + k)) (hst : ∀ j, j < 16 → I (x + 1 + 2) j = g (124 + 5 * j)) (hF : ∀ t, t < 6 → ∀ j, j < 16 → I (x + 131 + 9 + 2 * t + 1) j = nI (F t j)) (hb : ∀ t, t < 6 → ns (F t) 16 ≤ 9999) : bq_Sp mX5_bestTank 3 58 0 0 [.ref (x + 131), .ref (x + 1 + 43 + o), .ref (x + 1 + 2)] S n I L P (bq_F (some (.int (ri (bt g o F 6)))) S n I L P) := by
  refine q_entry (vs := [some (.ref (x + 131)), some (.ref (x + 1 + 43 + o)), some (.ref (x + 1 + 2)), none, none, none, none]) (by decide +kernel) (by simp) (Nat.le_of_ble_eq_true rfl) rfl ?_
  have h1 : I (x + 1 + 43 + o) 1 = nI l := by rw [hO 1 (by decide), show 204 + 9 * o + 1 = 205 + 9 * o by omega]; exact hl
  have h2 : I (x + 1 + 43 + o) 2 = g (206 + 9 * o) := by rw [hO 2 (by decide)]; congr 1; omega
  have h3 : I (x + 1 + 43 + o) 3 = g (207 + 9 * o) := by rw [hO 3 (by decide)]; congr 1; omega
  have lp : ∀ i, i ≤ 6 → ∀ v6 : Option Value, bq_W mX5_bestTank 3 58 0 0 9 [some (.ref (x + 131)), some (.ref (x + 1 + 43 + o)), some (.ref (x + 1 + 2)), some (.int (ri (bt g o F i))), some (.int (few F (bt g o F i))), some (.int (nI i)), v6] [] S n I L P (bq_F (some (.int (ri (bt g o F 6)))) S n I L P) := by
    refine bq_down (A := fun i => ∀ v6 : Option Value, bq_W mX5_bestTank 3 58 0 0 9 [some (.ref (x + 131)), some (.ref (x + 1 + 43 + o)), some (.ref (x + 1 + 2)), some (.int (ri (bt g o F i))), some (.int (few F (bt g o F i))), some (.int (nI i)), v6] [] S n I L P (bq_F (some (.int (ri (bt g o F 6)))) S n I L P)) 6 ?_ ?_
    · intro v6
      refine q_iload (pc := 9) dX5_bestTank_9 rfl ?_
      refine q_bipush (pc := 11) (v := nI 6) dX5_bestTank_11 (by decide) ?_
      refine q_icmp_ge (pc := 13) 79 dX5_bestTank_13 (by decide) (fun c_13 => ?_) (fun c_13 => absurd (by decide) c_13)
      refine q_iload_n (pc := 79) dX5_bestTank_79 rfl rfl ?_
      exact q_iret (st := []) (pc := 80) dX5_bestTank_80 rfl ⟨rfl, rfl, rfl, rfl, rfl, rfl⟩
    · intro i hi ih v6
      have hs : bq_sum (I (x + 131 + 9 + 2 * i + 1)) 16 = nI (ns (F i) 16) := bq_sum_n 16 (hF i hi)
      have hsb := hb i hi
      have hss : bq_str (I (x + 131 + 9 + 2 * i + 1)) (I (x + 1 + 2)) = bq_str (fun j => nI (F i j)) (fun b => g (124 + 5 * b)) := bq_str_congr (hF i hi) hst
      cases hr : bt g o F i with
      | none =>
        rw [show ri none = (-5) from rfl]
        refine q_iload (pc := 9) dX5_bestTank_9 rfl ?_
        refine q_bipush (pc := 11) (v := nI 6) dX5_bestTank_11 (by decide) ?_
        refine q_icmp_ge (pc := 13) 79 dX5_bestTank_13 (by decide) (fun c_13 => absurd c_13 (nI_ge hi (by decide))) (fun c_13 => ?_)
        refine q_aload_n (pc := 16) dX5_bestTank_16 rfl rfl ?_
        refine q_getP (pc := 17) dX5_bestTank_17 fX5_30 (Plan_sh (Cellar_s_plan hx)) ⟨by decide, rfl⟩ (Plan_lt (Cellar_s_plan hx)) (Plan_p_left (Cellar_s_plan hx)) ?_
        refine q_iload (pc := 20) dX5_bestTank_20 rfl ?_
        refine q_aald (pc := 22) dX5_bestTank_22 (Planleft_sh (Cellar_s_plan hx)) (by decide) (Planleft_lt (Cellar_s_plan hx)) rfl hi (Planleft_p_el (Cellar_s_plan hx) hi) ?_
        refine q_callVF (pc := 23) dX5_bestTank_23 kX5_96 (c_X0_total (Planleft_s_el (Cellar_s_plan hx) hi)) (Blend_sh (Planleft_s_el (Cellar_s_plan hx) hi)) rfl (Blend_lt (Planleft_s_el (Cellar_s_plan hx) hi)) ⟨Nat.le_of_ble_eq_true rfl, Nat.le_of_ble_eq_true rfl⟩ rfl rfl (Nat.le_of_ble_eq_true rfl) ?_
        show bq_W _ _ _ _ _ 26 _ [_] _ _ _ _ _ _
        rw [hs]
        refine q_istore (pc := 26) dX5_bestTank_26 (Nat.le_of_ble_eq_true rfl) rfl ?_
        show bq_W _ _ _ _ _ 28 [_, _, _, _, _, _, _] _ _ _ _ _ _ _
        refine q_iload (pc := 28) dX5_bestTank_28 rfl ?_
        refine q_aload_n (pc := 30) dX5_bestTank_30 rfl rfl ?_
        refine q_getI (pc := 31) dX5_bestTank_31 fX5_71 (Order_sh (Stateorders_s_el (Cellar_s_state hx) ho)) ⟨by decide, rfl⟩ (Order_lt (Stateorders_s_el (Cellar_s_state hx) ho)) ?_
        rw [h1]
        refine q_icmp_lt (pc := 34) 73 dX5_bestTank_34 (by decide) (fun c_34 => ?_) (fun c_34 => ?_)
        · have hno : ¬ fit g o (F i) = true := fit_1 (by rw [hll2]; exact (nI_ltI (by omega) (by omega)).mp c_34)
          refine q_iinc (pc := 73) (v := nI (i + 1)) dX5_bestTank_73 rfl (bq_inc _) (Nat.le_of_ble_eq_true rfl) rfl ?_
          show bq_W _ _ _ _ _ 76 [_, _, _, _, _, _, _] _ _ _ _ _ _ _
          refine q_goto (pc := 76) 9 dX5_bestTank_76 (by decide) ?_
          rw [bt_no hno, hr] at ih
          exact ih _
        · have hge : gn g (205 + 9 * o) ≤ ns (F i) 16 := by rw [hll2]; exact Nat.le_of_not_lt (fun z => c_34 (nI_lt z (by omega)))
          refine q_aload_n (pc := 37) dX5_bestTank_37 rfl rfl ?_
          refine q_aload_n (pc := 38) dX5_bestTank_38 rfl rfl ?_
          refine q_getP (pc := 39) dX5_bestTank_39 fX5_30 (Plan_sh (Cellar_s_plan hx)) ⟨by decide, rfl⟩ (Plan_lt (Cellar_s_plan hx)) (Plan_p_left (Cellar_s_plan hx)) ?_
          refine q_iload (pc := 42) dX5_bestTank_42 rfl ?_
          refine q_aald (pc := 44) dX5_bestTank_44 (Planleft_sh (Cellar_s_plan hx)) (by decide) (Planleft_lt (Cellar_s_plan hx)) rfl hi (Planleft_p_el (Cellar_s_plan hx) hi) ?_
          refine q_aload_n (pc := 45) dX5_bestTank_45 rfl rfl ?_
          refine q_callVF (pc := 46) dX5_bestTank_46 kX5_100 (c_X0_strength (Planleft_s_el (Cellar_s_plan hx) hi) (State_s_strengths (Cellar_s_state hx))) (Blend_sh (Planleft_s_el (Cellar_s_plan hx) hi)) rfl (Blend_lt (Planleft_s_el (Cellar_s_plan hx) hi)) ⟨Nat.le_of_ble_eq_true rfl, Nat.le_of_ble_eq_true rfl⟩ rfl rfl (Nat.le_of_ble_eq_true rfl) ?_
          show bq_W _ _ _ _ _ 49 _ [_, _] _ _ _ _ _ _
          refine q_callVF (pc := 49) dX5_bestTank_49 kX5_104 (c_X4_allows (Stateorders_s_el (Cellar_s_state hx) ho)) (Order_sh (Stateorders_s_el (Cellar_s_state hx) ho)) rfl (Order_lt (Stateorders_s_el (Cellar_s_state hx) ho)) ⟨Nat.le_of_ble_eq_true rfl, Nat.le_of_ble_eq_true rfl⟩ rfl rfl (Nat.le_of_ble_eq_true rfl) ?_
          show bq_W _ _ _ _ _ 52 _ [_] _ _ _ _ _ _
          refine q_if_eq (pc := 52) 73 dX5_bestTank_52 (by decide) (fun c_52 => ?_) (fun c_52 => ?_)
          · replace c_52 := bq_b0.mp c_52
            rw [hss, h2, h3] at c_52
            have hno : ¬ fit g o (F i) = true := fit_2 c_52
            refine q_iinc (pc := 73) (v := nI (i + 1)) dX5_bestTank_73 rfl (bq_inc _) (Nat.le_of_ble_eq_true rfl) rfl ?_
            show bq_W _ _ _ _ _ 76 [_, _, _, _, _, _, _] _ _ _ _ _ _ _
            refine q_goto (pc := 76) 9 dX5_bestTank_76 (by decide) ?_
            rw [bt_no hno, hr] at ih
            exact ih _
          · replace c_52 := bq_bn.mp c_52
            rw [hss, h2, h3] at c_52
            have hfit : fit g o (F i) = true := fit_y hge c_52
            refine q_iload_n (pc := 55) dX5_bestTank_55 rfl rfl ?_
            refine q_if_lt (pc := 56) 66 dX5_bestTank_56 (by decide) (fun c_56 => ?_) (fun c_56 => ((c_56 (by decide) : False)).elim)
            refine q_iload (pc := 66) dX5_bestTank_66 rfl ?_
            refine q_istore_n (pc := 68) dX5_bestTank_68 rfl (Nat.le_of_ble_eq_true rfl) rfl ?_
            show bq_W _ _ _ _ _ 69 [_, _, _, _, _, _, _] _ _ _ _ _ _ _
            refine q_iload (pc := 69) dX5_bestTank_69 rfl ?_
            refine q_istore (pc := 71) dX5_bestTank_71 (Nat.le_of_ble_eq_true rfl) rfl ?_
            show bq_W _ _ _ _ _ 73 [_, _, _, _, _, _, _] _ _ _ _ _ _ _
            refine q_iinc (pc := 73) (v := nI (i + 1)) dX5_bestTank_73 rfl (bq_inc _) (Nat.le_of_ble_eq_true rfl) rfl ?_
            show bq_W _ _ _ _ _ 76 [_, _, _, _, _, _, _] _ _ _ _ _ _ _
            refine q_goto (pc := 76) 9 dX5_bestTank_76 (by decide) ?_
            rw [bt_new hr hfit] at ih
            exact ih _
      | some q =>
        have hq6 : q < 6 := Nat.lt_trans (bt_ok hr).1 hi
        have hqb := hb q hq6
        rw [show ri (some q) = nI q from rfl, show few F (some q) = nI (ns (F q) 16) from rfl]
        refine q_iload (pc := 9) dX5_bestTank_9 rfl ?_
        refine q_bipush (pc := 11) (v := nI 6) dX5_bestTank_11 (by decide) ?_
        refine q_icmp_ge (pc := 13) 79 dX5_bestTank_13 (by decide) (fun c_13 => absurd c_13 (nI_ge hi (by decide))) (fun c_13 => ?_)
        refine q_aload_n (pc := 16) dX5_bestTank_16 rfl rfl ?_
        refine q_getP (pc := 17) dX5_bestTank_17 fX5_30 (Plan_sh (Cellar_s_plan hx)) ⟨by decide, rfl⟩ (Plan_lt (Cellar_s_plan hx)) (Plan_p_left (Cellar_s_plan hx)) ?_
        refine q_iload (pc := 20) dX5_bestTank_20 rfl ?_
        refine q_aald (pc := 22) dX5_bestTank_22 (Planleft_sh (Cellar_s_plan hx)) (by decide) (Planleft_lt (Cellar_s_plan hx)) rfl hi (Planleft_p_el (Cellar_s_plan hx) hi) ?_
        refine q_callVF (pc := 23) dX5_bestTank_23 kX5_96 (c_X0_total (Planleft_s_el (Cellar_s_plan hx) hi)) (Blend_sh (Planleft_s_el (Cellar_s_plan hx) hi)) rfl (Blend_lt (Planleft_s_el (Cellar_s_plan hx) hi)) ⟨Nat.le_of_ble_eq_true rfl, Nat.le_of_ble_eq_true rfl⟩ rfl rfl (Nat.le_of_ble_eq_true rfl) ?_
        show bq_W _ _ _ _ _ 26 _ [_] _ _ _ _ _ _
        rw [hs]
        refine q_istore (pc := 26) dX5_bestTank_26 (Nat.le_of_ble_eq_true rfl) rfl ?_
        show bq_W _ _ _ _ _ 28 [_, _, _, _, _, _, _] _ _ _ _ _ _ _
        refine q_iload (pc := 28) dX5_bestTank_28 rfl ?_
        refine q_aload_n (pc := 30) dX5_bestTank_30 rfl rfl ?_
        refine q_getI (pc := 31) dX5_bestTank_31 fX5_71 (Order_sh (Stateorders_s_el (Cellar_s_state hx) ho)) ⟨by decide, rfl⟩ (Order_lt (Stateorders_s_el (Cellar_s_state hx) ho)) ?_
        rw [h1]
        refine q_icmp_lt (pc := 34) 73 dX5_bestTank_34 (by decide) (fun c_34 => ?_) (fun c_34 => ?_)
        · have hno : ¬ fit g o (F i) = true := fit_1 (by rw [hll2]; exact (nI_ltI (by omega) (by omega)).mp c_34)
          refine q_iinc (pc := 73) (v := nI (i + 1)) dX5_bestTank_73 rfl (bq_inc _) (Nat.le_of_ble_eq_true rfl) rfl ?_
          show bq_W _ _ _ _ _ 76 [_, _, _, _, _, _, _] _ _ _ _ _ _ _
          refine q_goto (pc := 76) 9 dX5_bestTank_76 (by decide) ?_
          rw [bt_no hno, hr] at ih
          exact ih _
        · have hge : gn g (205 + 9 * o) ≤ ns (F i) 16 := by rw [hll2]; exact Nat.le_of_not_lt (fun z => c_34 (nI_lt z (by omega)))
          refine q_aload_n (pc := 37) dX5_bestTank_37 rfl rfl ?_
          refine q_aload_n (pc := 38) dX5_bestTank_38 rfl rfl ?_
          refine q_getP (pc := 39) dX5_bestTank_39 fX5_30 (Plan_sh (Cellar_s_plan hx)) ⟨by decide, rfl⟩ (Plan_lt (Cellar_s_plan hx)) (Plan_p_left (Cellar_s_plan hx)) ?_
          refine q_iload (pc := 42) dX5_bestTank_42 rfl ?_
          refine q_aald (pc := 44) dX5_bestTank_44 (Planleft_sh (Cellar_s_plan hx)) (by decide) (Planleft_lt (Cellar_s_plan hx)) rfl hi (Planleft_p_el (Cellar_s_plan hx) hi) ?_
          refine q_aload_n (pc := 45) dX5_bestTank_45 rfl rfl ?_
          refine q_callVF (pc := 46) dX5_bestTank_46 kX5_100 (c_X0_strength (Planleft_s_el (Cellar_s_plan hx) hi) (State_s_strengths (Cellar_s_state hx))) (Blend_sh (Planleft_s_el (Cellar_s_plan hx) hi)) rfl (Blend_lt (Planleft_s_el (Cellar_s_plan hx) hi)) ⟨Nat.le_of_ble_eq_true rfl, Nat.le_of_ble_eq_true rfl⟩ rfl rfl (Nat.le_of_ble_eq_true rfl) ?_
          show bq_W _ _ _ _ _ 49 _ [_, _] _ _ _ _ _ _
          refine q_callVF (pc := 49) dX5_bestTank_49 kX5_104 (c_X4_allows (Stateorders_s_el (Cellar_s_state hx) ho)) (Order_sh (Stateorders_s_el (Cellar_s_state hx) ho)) rfl (Order_lt (Stateorders_s_el (Cellar_s_state hx) ho)) ⟨Nat.le_of_ble_eq_true rfl, Nat.le_of_ble_eq_true rfl⟩ rfl rfl (Nat.le_of_ble_eq_true rfl) ?_
          show bq_W _ _ _ _ _ 52 _ [_] _ _ _ _ _ _
          refine q_if_eq (pc := 52) 73 dX5_bestTank_52 (by decide) (fun c_52 => ?_) (fun c_52 => ?_)
          · replace c_52 := bq_b0.mp c_52
            rw [hss, h2, h3] at c_52
            have hno : ¬ fit g o (F i) = true := fit_2 c_52
            refine q_iinc (pc := 73) (v := nI (i + 1)) dX5_bestTank_73 rfl (bq_inc _) (Nat.le_of_ble_eq_true rfl) rfl ?_
            show bq_W _ _ _ _ _ 76 [_, _, _, _, _, _, _] _ _ _ _ _ _ _
            refine q_goto (pc := 76) 9 dX5_bestTank_76 (by decide) ?_
            rw [bt_no hno, hr] at ih
            exact ih _
          · replace c_52 := bq_bn.mp c_52
            rw [hss, h2, h3] at c_52
            have hfit : fit g o (F i) = true := fit_y hge c_52
            refine q_iload_n (pc := 55) dX5_bestTank_55 rfl rfl ?_
            refine q_if_lt (pc := 56) 66 dX5_bestTank_56 (by decide) (fun c_56 => ((nI_pos (by omega) c_56 : False)).elim) (fun c_56 => ?_)
            refine q_iload (pc := 59) dX5_bestTank_59 rfl ?_
            refine q_iload (pc := 61) dX5_bestTank_61 rfl ?_
            refine q_icmp_ge (pc := 63) 73 dX5_bestTank_63 (by decide) (fun c_63 => ?_) (fun c_63 => ?_)
            · have hge : ¬ ns (F i) 16 < ns (F q) 16 := fun z => nI_ge z (by omega) c_63
              refine q_iinc (pc := 73) (v := nI (i + 1)) dX5_bestTank_73 rfl (bq_inc _) (Nat.le_of_ble_eq_true rfl) rfl ?_
              show bq_W _ _ _ _ _ 76 [_, _, _, _, _, _, _] _ _ _ _ _ _ _
              refine q_goto (pc := 76) 9 dX5_bestTank_76 (by decide) ?_
              rw [bt_ge hr hfit hge] at ih
              exact ih _
            · have hlt : ns (F i) 16 < ns (F q) 16 := Nat.lt_of_not_le (fun z => c_63 (nI_le z (by omega)))
              refine q_iload (pc := 66) dX5_bestTank_66 rfl ?_
              refine q_istore_n (pc := 68) dX5_bestTank_68 rfl (Nat.le_of_ble_eq_true rfl) rfl ?_
              show bq_W _ _ _ _ _ 69 [_, _, _, _, _, _, _] _ _ _ _ _ _ _
              refine q_iload (pc := 69) dX5_bestTank_69 rfl ?_
              refine q_istore (pc := 71) dX5_bestTank_71 (Nat.le_of_ble_eq_true rfl) rfl ?_
              show bq_W _ _ _ _ _ 73 [_, _, _, _, _, _, _] _ _ _ _ _ _ _
              refine q_iinc (pc := 73) (v := nI (i + 1)) dX5_bestTank_73 rfl (bq_inc _) (Nat.le_of_ble_eq_true rfl) rfl ?_
              show bq_W _ _ _ _ _ 76 [_, _, _, _, _, _, _] _ _ _ _ _ _ _
              refine q_goto (pc := 76) 9 dX5_bestTank_76 (by decide) ?_
              rw [bt_lt hr hfit hlt] at ih
              exact ih _
  refine q_bipush (pc := 0) (v := (-5)) dX5_bestTank_0 (by decide) ?_
  refine q_istore_n (pc := 2) dX5_bestTank_2 rfl (Nat.le_of_ble_eq_true rfl) rfl ?_
  show bq_W _ _ _ _ _ 3 [_, _, _, _, _, _, _] _ _ _ _ _ _ _
  refine q_iconst (pc := 3) (v := nI 0) dX5_bestTank_3 (by decide) ?_
  refine q_istore (pc := 4) dX5_bestTank_4 (Nat.le_of_ble_eq_true rfl) rfl ?_
  show bq_W _ _ _ _ _ 6 [_, _, _, _, _, _, _] _ _ _ _ _ _ _
  refine q_iconst (pc := 6) (v := nI 0) dX5_bestTank_6 (by decide) ?_
  refine q_istore (pc := 7) dX5_bestTank_7 (Nat.le_of_ble_eq_true rfl) rfl ?_
  show bq_W _ _ _ _ _ 9 [_, _, _, _, _, _, _] _ _ _ _ _ _ _
  exact lp 0 (by decide) _
set_option maxHeartbeats 1000000 in
set_option maxRecDepth 20000 in
theorem c_tankOf {S : BqH} {n : Nat} {I : BqI} {L : BqL} {P : BqP} {x c : Nat} {O T : Nat → Nat} (hx : oX S n P x) (hc : I (x + 131) 0 = nI c) (hcl : c ≤ 10) (hO : ∀ j, j < c → I (x + 131 + 1) j = nI (O j) ∧ O j < 10) (hT : ∀ j, j < c → I (x + 131 + 2) j = nI (T j)) {o : Nat} (ho : o < 10) : bq_Sp mX5_tankOf 1 12 0 0 [.ref (x + 131), .int (nI o)] S n I L P (bq_F (some (.int (tofr O T o 0 c))) S n I L P) := by
  refine q_entry (vs := [some (.ref (x + 131)), some (.int (nI o)), none]) (by decide +kernel) (by simp) (Nat.le_of_ble_eq_true rfl) rfl ?_
  have lp : ∀ i, i ≤ c → bq_W mX5_tankOf 1 12 0 0 2 [some (.ref (x + 131)), some (.int (nI o)), some (.int (nI i))] [] S n I L P (bq_F (some (.int (tofr O T o i (c - i)))) S n I L P) := by
    refine bq_down (A := fun i => bq_W mX5_tankOf 1 12 0 0 2 [some (.ref (x + 131)), some (.int (nI o)), some (.int (nI i))] [] S n I L P (bq_F (some (.int (tofr O T o i (c - i)))) S n I L P)) c ?_ ?_
    · refine q_iload_n (pc := 2) dX5_tankOf_2 rfl rfl ?_
      refine q_aload_n (pc := 3) dX5_tankOf_3 rfl rfl ?_
      refine q_getI (pc := 4) dX5_tankOf_4 fX5_9 (Plan_sh (Cellar_s_plan hx)) ⟨by decide, rfl⟩ (Plan_lt (Cellar_s_plan hx)) ?_
      rw [hc]
      refine q_icmp_ge (pc := 7) 33 dX5_tankOf_7 (by decide) (fun c_7 => ?_) (fun c_7 => absurd (nI_le (Nat.le_refl _) (by omega)) c_7)
      refine q_bipush (pc := 33) (v := (-5)) dX5_tankOf_33 (by decide) ?_
      exact q_iret (st := []) (pc := 35) dX5_tankOf_35 rfl ⟨by rw [Nat.sub_self]; rfl, rfl, rfl, rfl, rfl, rfl⟩
    · intro i hi ih
      have hci : c - i = c - (i + 1) + 1 := by omega
      refine q_iload_n (pc := 2) dX5_tankOf_2 rfl rfl ?_
      refine q_aload_n (pc := 3) dX5_tankOf_3 rfl rfl ?_
      refine q_getI (pc := 4) dX5_tankOf_4 fX5_9 (Plan_sh (Cellar_s_plan hx)) ⟨by decide, rfl⟩ (Plan_lt (Cellar_s_plan hx)) ?_
      rw [hc]
      refine q_icmp_ge (pc := 7) 33 dX5_tankOf_7 (by decide) (fun c_7 => absurd c_7 (nI_ge hi (by omega))) (fun c_7 => ?_)
      refine q_aload_n (pc := 10) dX5_tankOf_10 rfl rfl ?_
      refine q_getP (pc := 11) dX5_tankOf_11 fX5_15 (Plan_sh (Cellar_s_plan hx)) ⟨by decide, rfl⟩ (Plan_lt (Cellar_s_plan hx)) (Plan_p_orders (Cellar_s_plan hx)) ?_
      refine q_iload_n (pc := 14) dX5_tankOf_14 rfl rfl ?_
      refine q_iald (pc := 15) dX5_tankOf_15 (oA_sh (Plan_s_orders (Cellar_s_plan hx))) (oA_lt (Plan_s_orders (Cellar_s_plan hx))) rfl (by omega) ?_
      rw [(hO i hi).1]
      refine q_iload_n (pc := 16) dX5_tankOf_16 rfl rfl ?_
      refine q_icmp_ne (pc := 17) 27 dX5_tankOf_17 (by decide) (fun c_17 => ?_) (fun c_17 => ?_)
      · rw [hci]
        rw [show tofr O T o i (c - (i + 1) + 1) = tofr O T o (i + 1) (c - (i + 1)) from if_neg (fun z => c_17 (by rw [z]))]
        refine q_iinc (pc := 27) (v := nI (i + 1)) dX5_tankOf_27 rfl (bq_inc _) (Nat.le_of_ble_eq_true rfl) rfl ?_
        show bq_W _ _ _ _ _ 30 [_, _, _] _ _ _ _ _ _ _
        refine q_goto (pc := 30) 2 dX5_tankOf_30 (by decide) ?_
        exact ih
      · have he : O i = o := (nI_eq (by have := (hO i hi).2; omega) (by omega)).mp c_17
        refine q_aload_n (pc := 20) dX5_tankOf_20 rfl rfl ?_
        refine q_getP (pc := 21) dX5_tankOf_21 fX5_19 (Plan_sh (Cellar_s_plan hx)) ⟨by decide, rfl⟩ (Plan_lt (Cellar_s_plan hx)) (Plan_p_tanks (Cellar_s_plan hx)) ?_
        refine q_iload_n (pc := 24) dX5_tankOf_24 rfl rfl ?_
        refine q_iald (pc := 25) dX5_tankOf_25 (oA_sh (Plan_s_tanks (Cellar_s_plan hx))) (oA_lt (Plan_s_tanks (Cellar_s_plan hx))) rfl (by omega) ?_
        exact q_iret (st := []) (pc := 26) dX5_tankOf_26 rfl ⟨by rw [hci, hT i hi]; exact congrArg (fun z => some (Value.int z)) (if_pos he).symm, rfl, rfl, rfl, rfl, rfl⟩
  refine q_iconst (pc := 0) (v := nI 0) dX5_tankOf_0 (by decide) ?_
  refine q_istore_n (pc := 1) dX5_tankOf_1 rfl (Nat.le_of_ble_eq_true rfl) rfl ?_
  show bq_W _ _ _ _ _ 2 [_, _, _] _ _ _ _ _ _ _
  exact lp 0 (Nat.zero_le _)
