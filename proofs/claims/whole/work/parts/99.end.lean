/-! the class's plan: the queue, the best tank -/
theorem pk_p1 {p : Nat} : nI (p + 1) - nI 1 = nI p := by rw [pk_sub (by omega), Nat.add_sub_cancel]
/-- what the queue holds -/
def QI (x : Nat) (_ : BqG) (I J : BqI) (Q : Nat → Nat) (c : Nat) : Prop := (∀ a, a ≠ x + 131 → a ≠ x + 131 + 3 → J a = I a) ∧ J (x + 131) 3 = nI c ∧ (∀ j, j < c → J (x + 131 + 3) j = nI (Q j)) ∧ ∀ k, k ≠ 3 → J (x + 131) k = I (x + 131) k
def QI0 (g : BqG) (Q : Nat → Nat) (c i : Nat) : Prop := c ≤ i ∧ ∀ j, j < c → Q j < i ∧ decide (g (208 + 9 * Q j) = 0) = true
def SI (x : Nat) (J J' : BqI) (Q : Nat → Nat) (c p : Nat) : Prop := (∀ a, a ≠ x + 131 + 3 → J' a = J a) ∧ (∀ j, j < p → J' (x + 131 + 3) j = J (x + 131 + 3) j) ∧ ∀ j, p < j → j ≤ c → J' (x + 131 + 3) j = nI (Q (j - 1))
def qQu (x : Nat) (g : BqG) (I : BqI) (S : BqH) (n : Nat) (L : BqL) (P : BqP) : BqQ := fun r S' n' I' L' P' => r = none ∧ S' = S ∧ n' = n ∧ L' = L ∧ P' = P ∧ QI x g I I' (qg g).1 (qg g).2
theorem QI.start {x : Nat} {g : BqG} {I : BqI} : QI x g I (bq_u I (x + 131) 3 (nI 0)) (qq (kk g) (fun o => decide (g (208 + 9 * o) = 0)) 0).1 (qq (kk g) (fun o => decide (g (208 + 9 * o) = 0)) 0).2 :=
  ⟨fun a h1 _ => bq_u_ne h1, bq_u_at _ _ _ _, fun j hj => absurd hj (Nat.not_lt_zero j), fun k hk => bq_u_no (fun q => hk q.2)⟩
theorem QI0.mk {g : BqG} {i : Nat} : QI0 g (qq (kk g) (fun o => decide (g (208 + 9 * o) = 0)) i).1 (qq (kk g) (fun o => decide (g (208 + 9 * o) = 0)) i).2 i := by
  obtain ⟨-, h2, -, h4⟩ := qq_ok (kk g) (fun o => decide (g (208 + 9 * o) = 0)) i
  exact ⟨h4, h2⟩
theorem SI.rf {x c : Nat} {J : BqI} {Q : Nat → Nat} : SI x J J Q c c := ⟨fun _ _ => rfl, fun _ _ => rfl, fun j h1 h2 => absurd h1 (by omega)⟩
theorem SI.step {x c p : Nat} {J J' : BqI} {Q : Nat → Nat} (h : SI x J J' Q c (p + 1)) (hp : p + 1 ≤ c) : SI x J (bq_u J' (x + 131 + 3) (p + 1) (nI (Q p))) Q c p := by
  refine ⟨fun a ha => (bq_u_ne ha).trans (h.1 a ha), fun j hj => (bq_u_no (by omega)).trans (h.2.1 j (by omega)), fun j h1 h2 => ?_⟩
  by_cases e : j = p + 1
  · subst e; rw [bq_u_at, Nat.add_sub_cancel]
  · rw [bq_u_no (fun q => e q.2)]; exact h.2.2 j (by omega) h2
theorem QI.put {x c p q i : Nat} {g : BqG} {I J J' : BqI} {Q : Nat → Nat} (h : QI x g I J Q c) (hS : SI x J J' Q c p) (hp : p ≤ c) (hq : q = p) : QI x g I (bq_u (bq_u J' (x + 131 + 3) p (nI i)) (x + 131) 3 (nI (c + 1))) (qin Q q i) (c + 1) := by
  subst hq
  refine ⟨fun a h1 h2 => ?_, bq_u_at _ _ _ _, fun j hj => ?_, fun k hk => ?_⟩
  · rw [bq_u_ne h1, bq_u_ne h2, hS.1 a h2]; exact h.1 a h1 h2
  · rw [bq_u_ne (by omega)]
    unfold qin
    by_cases c1 : j < q
    · rw [if_pos c1, bq_u_no (by omega), hS.2.1 j c1]; exact h.2.2.1 j (by omega)
    · rw [if_neg c1]
      by_cases c2 : j = q
      · subst c2; rw [if_pos rfl, bq_u_at]
      · rw [if_neg c2, bq_u_no (by omega)]; exact hS.2.2 j (by omega) (by omega)
  · rw [bq_u_no (fun z => hk z.2), bq_u_ne (by omega), hS.1 _ (by omega)]; exact h.2.2.2 k hk
theorem ahd_w {x i q en : Nat} {g : BqG} {J : BqI} (hG : GI g en) (hi : i < 10) (hq : q < 10) (hO : ∀ o, o < 10 → ∀ k, k < 8 → J (x + 1 + 43 + o) k = g (204 + 9 * o + k)) (h : kk g i < kk g q) : J (x + 1 + 43 + i) 0 < J (x + 1 + 43 + q) 0 ∨ (J (x + 1 + 43 + i) 0 = J (x + 1 + 43 + q) 0 ∧ ¬ J (x + 1 + 43 + i) 1 ≤ J (x + 1 + 43 + q) 1) := by
  rw [hO i hi 0 (by decide), hO q hq 0 (by decide), hO i hi 1 (by decide), hO q hq 1 (by decide), show 204 + 9 * i + 1 = 205 + 9 * i by omega, show 204 + 9 * q + 1 = 205 + 9 * q by omega]
  exact (ahd_kk hG hi hq).mpr h
theorem ahd_v {x i q en : Nat} {g : BqG} {J : BqI} (hG : GI g en) (hi : i < 10) (hq : q < 10) (hO : ∀ o, o < 10 → ∀ k, k < 8 → J (x + 1 + 43 + o) k = g (204 + 9 * o + k)) (h : J (x + 1 + 43 + i) 0 < J (x + 1 + 43 + q) 0 ∨ (J (x + 1 + 43 + i) 0 = J (x + 1 + 43 + q) 0 ∧ ¬ J (x + 1 + 43 + i) 1 ≤ J (x + 1 + 43 + q) 1)) : kk g i < kk g q := by
  rw [hO i hi 0 (by decide), hO q hq 0 (by decide), hO i hi 1 (by decide), hO q hq 1 (by decide), show 204 + 9 * i + 1 = 205 + 9 * i by omega, show 204 + 9 * q + 1 = 205 + 9 * q by omega] at h
  exact (ahd_kk hG hi hq).mp h
def few (F : Nat → Nat → Nat) (r : Option Nat) : Int32 := match r with
  | none => nI 0
  | some q => nI (ns (F q) 16)
theorem fit_1 {g : BqG} {o : Nat} {F : Nat → Nat} (h : ns F 16 < gn g (205 + 9 * o)) : ¬ fit g o F = true := by
  unfold fit
  rw [decide_eq_false (show ¬ gn g (205 + 9 * o) ≤ ns F 16 by omega)]
  simp
theorem fit_2 {g : BqG} {o : Nat} {F : Nat → Nat} (h : ¬ (¬ bq_str (fun j => nI (F j)) (fun b => g (124 + 5 * b)) < g (206 + 9 * o) ∧ ¬ g (207 + 9 * o) < bq_str (fun j => nI (F j)) (fun b => g (124 + 5 * b)))) : ¬ fit g o F = true := fun z => by
  unfold fit at z
  simp only [Bool.and_eq_true, decide_eq_true_eq] at z
  exact h ⟨z.1.2, z.2⟩
theorem fit_y {g : BqG} {o : Nat} {F : Nat → Nat} (h1 : gn g (205 + 9 * o) ≤ ns F 16) (h : ¬ bq_str (fun j => nI (F j)) (fun b => g (124 + 5 * b)) < g (206 + 9 * o) ∧ ¬ g (207 + 9 * o) < bq_str (fun j => nI (F j)) (fun b => g (124 + 5 * b))) : fit g o F = true := by
  unfold fit
  simp only [Bool.and_eq_true, decide_eq_true_eq]
  exact ⟨⟨h1, h.1⟩, h.2⟩
theorem fit_d {g : BqG} {o : Nat} {F : Nat → Nat} (z : fit g o F = true) : gn g (205 + 9 * o) ≤ ns F 16 ∧ ¬ bq_str (fun j => nI (F j)) (fun b => g (124 + 5 * b)) < g (206 + 9 * o) ∧ ¬ g (207 + 9 * o) < bq_str (fun j => nI (F j)) (fun b => g (124 + 5 * b)) := by
  unfold fit at z
  simp only [Bool.and_eq_true, decide_eq_true_eq] at z
  exact ⟨z.1.1, z.1.2, z.2⟩
theorem bt_no {g : BqG} {o i : Nat} {F : Nat → Nat → Nat} (h : ¬ fit g o (F i) = true) : bt g o F (i + 1) = bt g o F i := if_neg h
theorem bt_new {g : BqG} {o i : Nat} {F : Nat → Nat → Nat} (hr : bt g o F i = none) (h : fit g o (F i) = true) : bt g o F (i + 1) = some i := by
  unfold bt; rw [if_pos h, hr]
theorem bt_lt {g : BqG} {o i q : Nat} {F : Nat → Nat → Nat} (hr : bt g o F i = some q) (h : fit g o (F i) = true) (hl : ns (F i) 16 < ns (F q) 16) : bt g o F (i + 1) = some i := by
  unfold bt; rw [if_pos h, hr]; exact if_pos hl
theorem bt_ge {g : BqG} {o i q : Nat} {F : Nat → Nat → Nat} (hr : bt g o F i = some q) (h : fit g o (F i) = true) (hl : ¬ ns (F i) 16 < ns (F q) 16) : bt g o F (i + 1) = some q := by
  unfold bt; rw [if_pos h, hr]; exact if_neg hl
/-- the tank of an order among the fillings -/
def tofr (O T : Nat → Nat) (o : Nat) : Nat → Nat → Int32
  | _, 0 => (-5)
  | i, k + 1 => if O i = o then nI (T i) else tofr O T o (i + 1) k
set_option maxHeartbeats 2700000 in
set_option maxRecDepth 20000 in
theorem c_queue {S : BqH} {n : Nat} {I : BqI} {L : BqL} {P : BqP} {x : Nat} {g : BqG} {en : Nat} (hx : oX S n P x) (hC : CSI I (x + 1) g) (hG : GI g en) : bq_Sp mX5_queueOpenOrders 2 33 0 0 [.ref (x + 131), .ref (x + 1)] S n I L P (qQu x g I S n L P) := by
  refine q_entry (vs := [some (.ref (x + 131)), some (.ref (x + 1)), none, none, none]) (by decide +kernel) (by simp) (Nat.le_of_ble_eq_true rfl) rfl ?_
  have hc : I (x + 1) 12 = nI (gn g 2) := (hC.at (k := 2) rfl).trans (hG.n (by decide) (by decide))
  have hcl : gn g 2 ≤ 10 := hG.2.2.2.1
  have l2 : ∀ i, i < gn g 2 → ∀ (J : BqI) (Q : Nat → Nat) (c : Nat), QI x g I J Q c → QI0 g Q c i → decide (g (208 + 9 * i) = 0) = true → (∀ (J' : BqI) (v3 v4 : Option Value), QI x g I J' (qin Q (qpl (kk g) Q i c) i) (c + 1) → bq_W mX5_queueOpenOrders 2 33 0 0 7 [some (.ref (x + 131)), some (.ref (x + 1)), some (.int (nI (i + 1))), v3, v4] [] S n J' L P (qQu x g I S n L P)) → ∀ p, p ≤ c → ∀ J' : BqI, SI x J J' Q c p → qpl (kk g) Q i c = qpl (kk g) Q i p → bq_W mX5_queueOpenOrders 2 33 0 0 44 [some (.ref (x + 131)), some (.ref (x + 1)), some (.int (nI i)), some (.ref (x + 1 + 43 + i)), some (.int (nI p))] [] S n J' L P (qQu x g I S n L P) := by
    intro i hi J Q c hJ hQ0 hop K p
    have hi10 : i < 10 := by omega
    have hc10 : c ≤ i := hQ0.1
    induction p with
    | zero =>
      intro hp J' hS he
      refine q_iload (pc := 44) dX5_queueOpenOrders_44 rfl ?_
      refine q_if_le (pc := 46) 92 dX5_queueOpenOrders_46 (by decide) (fun c_46 => ?_) (fun c_46 => absurd (by decide) c_46)
      refine q_aload_n (pc := 92) dX5_queueOpenOrders_92 rfl rfl ?_
      refine q_getP (pc := 93) dX5_queueOpenOrders_93 fX5_25 (Plan_sh (Cellar_s_plan hx)) ⟨by decide, rfl⟩ (Plan_lt (Cellar_s_plan hx)) (Plan_p_queue (Cellar_s_plan hx)) ?_
      refine q_iload (pc := 96) dX5_queueOpenOrders_96 rfl ?_
      refine q_iload_n (pc := 98) dX5_queueOpenOrders_98 rfl rfl ?_
      refine q_iast (pc := 99) dX5_queueOpenOrders_99 (oA_sh (Plan_s_queue (Cellar_s_plan hx))) (oA_lt (Plan_s_queue (Cellar_s_plan hx))) rfl (by omega) ?_
      refine q_aload_n (pc := 100) dX5_queueOpenOrders_100 rfl rfl ?_
      refine q_dup (pc := 101) dX5_queueOpenOrders_101 rfl ?_
      refine q_getI (pc := 102) dX5_queueOpenOrders_102 fX5_22 (Plan_sh (Cellar_s_plan hx)) ⟨by decide, rfl⟩ (Plan_lt (Cellar_s_plan hx)) ?_
      rw [show bq_u J' (x + 131 + 3) 0 (nI i) (x + 131) 3 = nI c from by rw [bq_u_ne (by omega), hS.1 _ (by omega)]; exact hJ.2.1]
      refine q_iconst (pc := 105) (v := nI 1) dX5_queueOpenOrders_105 (by decide) ?_
      refine q_iaddN (pc := 106) dX5_queueOpenOrders_106 ?_
      refine q_putI (pc := 107) dX5_queueOpenOrders_107 (pX5_22 _) (Plan_sh (Cellar_s_plan hx)) ⟨by decide, rfl⟩ (Plan_lt (Cellar_s_plan hx)) ?_
      refine q_iinc (pc := 110) (v := nI (i + 1)) dX5_queueOpenOrders_110 rfl (bq_inc _) (Nat.le_of_ble_eq_true rfl) rfl ?_
      show bq_W _ _ _ _ _ 113 [_, _, _, _, _] _ _ _ _ _ _ _
      refine q_goto (pc := 113) 7 dX5_queueOpenOrders_113 (by decide) ?_
      exact K _ _ _ (hJ.put hS (by omega) (by rw [he]; rfl))
    | succ p ihp =>
      intro hp J' hS he
      have hQp : Q p < 10 := by have := (hQ0.2 p (by omega)).1; omega
      have hqp : J' (x + 131 + 3) p = nI (Q p) := hS.2.1 p (by omega) ▸ hJ.2.2.1 p (by omega)
      have hO : ∀ o, o < 10 → ∀ k, k < 8 → J' (x + 1 + 43 + o) k = g (204 + 9 * o + k) := fun o ho k hk => by rw [hS.1 _ (by omega), hJ.1 _ (by omega) (by omega)]; exact hC.ao ho hk
      refine q_iload (pc := 44) dX5_queueOpenOrders_44 rfl ?_
      refine q_if_le (pc := 46) 92 dX5_queueOpenOrders_46 (by decide) (fun c_46 => absurd c_46 (nI_nle (Nat.succ_pos p) (by omega))) (fun c_46 => ?_)
      refine q_aload_n (pc := 49) dX5_queueOpenOrders_49 rfl rfl ?_
      refine q_aload_n (pc := 50) dX5_queueOpenOrders_50 rfl rfl ?_
      refine q_getP (pc := 51) dX5_queueOpenOrders_51 fX5_61 (State_sh (Cellar_s_state hx)) ⟨by decide, rfl⟩ (State_lt (Cellar_s_state hx)) (State_p_orders (Cellar_s_state hx)) ?_
      refine q_aload_n (pc := 54) dX5_queueOpenOrders_54 rfl rfl ?_
      refine q_getP (pc := 55) dX5_queueOpenOrders_55 fX5_25 (Plan_sh (Cellar_s_plan hx)) ⟨by decide, rfl⟩ (Plan_lt (Cellar_s_plan hx)) (Plan_p_queue (Cellar_s_plan hx)) ?_
      refine q_iload (pc := 58) dX5_queueOpenOrders_58 rfl ?_
      refine q_iconst (pc := 60) (v := nI 1) dX5_queueOpenOrders_60 (by decide) ?_
      refine q_isub (pc := 61) dX5_queueOpenOrders_61 ?_
      rw [pk_p1]
      refine q_iald (pc := 62) dX5_queueOpenOrders_62 (oA_sh (Plan_s_queue (Cellar_s_plan hx))) (oA_lt (Plan_s_queue (Cellar_s_plan hx))) rfl (by omega) ?_
      rw [hqp]
      refine q_aald (pc := 63) dX5_queueOpenOrders_63 (Stateorders_sh (Cellar_s_state hx)) (by decide) (Stateorders_lt (Cellar_s_state hx)) rfl hQp (Stateorders_p_el (Cellar_s_state hx) hQp) ?_
      refine q_callVF (pc := 64) dX5_queueOpenOrders_64 kX5_92 (c_X4_aheadOf (Stateorders_s_el (Cellar_s_state hx) hi10) (Stateorders_s_el (Cellar_s_state hx) hQp)) (Order_sh (Stateorders_s_el (Cellar_s_state hx) hi10)) rfl (Order_lt (Stateorders_s_el (Cellar_s_state hx) hi10)) ⟨Nat.le_of_ble_eq_true rfl, Nat.le_of_ble_eq_true rfl⟩ rfl rfl (Nat.le_of_ble_eq_true rfl) ?_
      show bq_W _ _ _ _ _ 67 _ [_] _ _ _ _ _ _
      refine q_if_eq (pc := 67) 92 dX5_queueOpenOrders_67 (by decide) (fun c_67 => ?_) (fun c_67 => ?_)
      · replace c_67 := bq_b0.mp c_67
        have hn : ¬ kk g i < kk g (Q p) := fun z => c_67 (ahd_w hG hi10 hQp hO z)
        refine q_aload_n (pc := 92) dX5_queueOpenOrders_92 rfl rfl ?_
        refine q_getP (pc := 93) dX5_queueOpenOrders_93 fX5_25 (Plan_sh (Cellar_s_plan hx)) ⟨by decide, rfl⟩ (Plan_lt (Cellar_s_plan hx)) (Plan_p_queue (Cellar_s_plan hx)) ?_
        refine q_iload (pc := 96) dX5_queueOpenOrders_96 rfl ?_
        refine q_iload_n (pc := 98) dX5_queueOpenOrders_98 rfl rfl ?_
        refine q_iast (pc := 99) dX5_queueOpenOrders_99 (oA_sh (Plan_s_queue (Cellar_s_plan hx))) (oA_lt (Plan_s_queue (Cellar_s_plan hx))) rfl (by omega) ?_
        refine q_aload_n (pc := 100) dX5_queueOpenOrders_100 rfl rfl ?_
        refine q_dup (pc := 101) dX5_queueOpenOrders_101 rfl ?_
        refine q_getI (pc := 102) dX5_queueOpenOrders_102 fX5_22 (Plan_sh (Cellar_s_plan hx)) ⟨by decide, rfl⟩ (Plan_lt (Cellar_s_plan hx)) ?_
        rw [show bq_u J' (x + 131 + 3) (p + 1) (nI i) (x + 131) 3 = nI c from by rw [bq_u_ne (by omega), hS.1 _ (by omega)]; exact hJ.2.1]
        refine q_iconst (pc := 105) (v := nI 1) dX5_queueOpenOrders_105 (by decide) ?_
        refine q_iaddN (pc := 106) dX5_queueOpenOrders_106 ?_
        refine q_putI (pc := 107) dX5_queueOpenOrders_107 (pX5_22 _) (Plan_sh (Cellar_s_plan hx)) ⟨by decide, rfl⟩ (Plan_lt (Cellar_s_plan hx)) ?_
        refine q_iinc (pc := 110) (v := nI (i + 1)) dX5_queueOpenOrders_110 rfl (bq_inc _) (Nat.le_of_ble_eq_true rfl) rfl ?_
        show bq_W _ _ _ _ _ 113 [_, _, _, _, _] _ _ _ _ _ _ _
        refine q_goto (pc := 113) 7 dX5_queueOpenOrders_113 (by decide) ?_
        exact K _ _ _ (hJ.put hS (by omega) (by rw [he]; exact if_neg hn))
      · replace c_67 := bq_bn.mp c_67
        have hy : kk g i < kk g (Q p) := ahd_v hG hi10 hQp hO c_67
        refine q_aload_n (pc := 70) dX5_queueOpenOrders_70 rfl rfl ?_
        refine q_getP (pc := 71) dX5_queueOpenOrders_71 fX5_25 (Plan_sh (Cellar_s_plan hx)) ⟨by decide, rfl⟩ (Plan_lt (Cellar_s_plan hx)) (Plan_p_queue (Cellar_s_plan hx)) ?_
        refine q_iload (pc := 74) dX5_queueOpenOrders_74 rfl ?_
        refine q_aload_n (pc := 76) dX5_queueOpenOrders_76 rfl rfl ?_
        refine q_getP (pc := 77) dX5_queueOpenOrders_77 fX5_25 (Plan_sh (Cellar_s_plan hx)) ⟨by decide, rfl⟩ (Plan_lt (Cellar_s_plan hx)) (Plan_p_queue (Cellar_s_plan hx)) ?_
        refine q_iload (pc := 80) dX5_queueOpenOrders_80 rfl ?_
        refine q_iconst (pc := 82) (v := nI 1) dX5_queueOpenOrders_82 (by decide) ?_
        refine q_isub (pc := 83) dX5_queueOpenOrders_83 ?_
        rw [pk_p1]
        refine q_iald (pc := 84) dX5_queueOpenOrders_84 (oA_sh (Plan_s_queue (Cellar_s_plan hx))) (oA_lt (Plan_s_queue (Cellar_s_plan hx))) rfl (by omega) ?_
        rw [hqp]
        refine q_iast (pc := 85) dX5_queueOpenOrders_85 (oA_sh (Plan_s_queue (Cellar_s_plan hx))) (oA_lt (Plan_s_queue (Cellar_s_plan hx))) rfl (by omega) ?_
        refine q_iinc (pc := 86) dX5_queueOpenOrders_86 rfl rfl (Nat.le_of_ble_eq_true rfl) rfl ?_
        show bq_W _ _ _ _ _ 89 [_, _, _, _, _] _ _ _ _ _ _ _
        rw [show nI (p + 1) + Int32.ofInt (-1) = nI p from pk_m1 p]
        refine q_goto (pc := 89) 44 dX5_queueOpenOrders_89 (by decide) ?_
        exact ihp (by omega) _ (hS.step hp) (he.trans (if_pos hy))
  have lp : ∀ i, i ≤ gn g 2 → ∀ (J : BqI) (v3 v4 : Option Value), QI x g I J (qq (kk g) (fun o => decide (g (208 + 9 * o) = 0)) i).1 (qq (kk g) (fun o => decide (g (208 + 9 * o) = 0)) i).2 → bq_W mX5_queueOpenOrders 2 33 0 0 7 [some (.ref (x + 131)), some (.ref (x + 1)), some (.int (nI i)), v3, v4] [] S n J L P (qQu x g I S n L P) := by
    refine bq_down (A := fun i => ∀ (J : BqI) (v3 v4 : Option Value), QI x g I J (qq (kk g) (fun o => decide (g (208 + 9 * o) = 0)) i).1 (qq (kk g) (fun o => decide (g (208 + 9 * o) = 0)) i).2 → bq_W mX5_queueOpenOrders 2 33 0 0 7 [some (.ref (x + 131)), some (.ref (x + 1)), some (.int (nI i)), v3, v4] [] S n J L P (qQu x g I S n L P)) (gn g 2) ?_ ?_
    · intro J v3 v4 hJ
      refine q_iload_n (pc := 7) dX5_queueOpenOrders_7 rfl rfl ?_
      refine q_aload_n (pc := 8) dX5_queueOpenOrders_8 rfl rfl ?_
      refine q_getI (pc := 9) dX5_queueOpenOrders_9 fX5_86 (State_sh (Cellar_s_state hx)) ⟨by decide, rfl⟩ (State_lt (Cellar_s_state hx)) ?_
      rw [show J (x + 1) 12 = nI (gn g 2) from by rw [hJ.1 _ (by omega) (by omega)]; exact hc]
      refine q_icmp_ge (pc := 12) 116 dX5_queueOpenOrders_12 (by decide) (fun c_12 => ?_) (fun c_12 => absurd (nI_le (Nat.le_refl _) (by omega)) c_12)
      exact q_vret (st := []) (pc := 116) dX5_queueOpenOrders_116 rfl ⟨rfl, rfl, rfl, rfl, rfl, hJ⟩
    · intro i hi ih J v3 v4 hJ
      have hst : J (x + 1 + 43 + i) 4 = g (208 + 9 * i) := by rw [hJ.1 _ (by omega) (by omega), hC.ao (o := i) (k := 4) (by omega) (by decide)]; congr 1; omega
      have hQ0 : QI0 g (qq (kk g) (fun o => decide (g (208 + 9 * o) = 0)) i).1 (qq (kk g) (fun o => decide (g (208 + 9 * o) = 0)) i).2 i := QI0.mk
      refine q_iload_n (pc := 7) dX5_queueOpenOrders_7 rfl rfl ?_
      refine q_aload_n (pc := 8) dX5_queueOpenOrders_8 rfl rfl ?_
      refine q_getI (pc := 9) dX5_queueOpenOrders_9 fX5_86 (State_sh (Cellar_s_state hx)) ⟨by decide, rfl⟩ (State_lt (Cellar_s_state hx)) ?_
      rw [show J (x + 1) 12 = nI (gn g 2) from by rw [hJ.1 _ (by omega) (by omega)]; exact hc]
      refine q_icmp_ge (pc := 12) 116 dX5_queueOpenOrders_12 (by decide) (fun c_12 => absurd c_12 (nI_ge hi (by omega))) (fun c_12 => ?_)
      refine q_iload_n (pc := 15) dX5_queueOpenOrders_15 rfl rfl ?_
      refine q_bipush (pc := 16) (v := nI 10) dX5_queueOpenOrders_16 (by decide) ?_
      refine q_icmp_ge (pc := 18) 116 dX5_queueOpenOrders_18 (by decide) (fun c_18 => absurd c_18 (nI_ge (show i < 10 by omega) (by decide))) (fun c_18 => ?_)
      refine q_aload_n (pc := 21) dX5_queueOpenOrders_21 rfl rfl ?_
      refine q_getP (pc := 22) dX5_queueOpenOrders_22 fX5_61 (State_sh (Cellar_s_state hx)) ⟨by decide, rfl⟩ (State_lt (Cellar_s_state hx)) (State_p_orders (Cellar_s_state hx)) ?_
      refine q_iload_n (pc := 25) dX5_queueOpenOrders_25 rfl rfl ?_
      refine q_aald (pc := 26) dX5_queueOpenOrders_26 (Stateorders_sh (Cellar_s_state hx)) (by decide) (Stateorders_lt (Cellar_s_state hx)) rfl (show i < 10 by omega) (Stateorders_p_el (Cellar_s_state hx) (show i < 10 by omega)) ?_
      refine q_astore_n (pc := 27) dX5_queueOpenOrders_27 rfl (Nat.le_of_ble_eq_true rfl) rfl ?_
      show bq_W _ _ _ _ _ 28 [_, _, _, _, _] _ _ _ _ _ _ _
      refine q_aload_n (pc := 28) dX5_queueOpenOrders_28 rfl rfl ?_
      refine q_getI (pc := 29) dX5_queueOpenOrders_29 fX5_89 (Order_sh (Stateorders_s_el (Cellar_s_state hx) (show i < 10 by omega))) ⟨by decide, rfl⟩ (Order_lt (Stateorders_s_el (Cellar_s_state hx) (show i < 10 by omega))) ?_
      refine q_if_eq (pc := 32) 38 dX5_queueOpenOrders_32 (by decide) (fun c_32 => ?_) (fun c_32 => ?_)
      · have hop : decide (g (208 + 9 * i) = 0) = true := decide_eq_true (hst ▸ c_32)
        refine q_aload_n (pc := 38) dX5_queueOpenOrders_38 rfl rfl ?_
        refine q_getI (pc := 39) dX5_queueOpenOrders_39 fX5_22 (Plan_sh (Cellar_s_plan hx)) ⟨by decide, rfl⟩ (Plan_lt (Cellar_s_plan hx)) ?_
        rw [hJ.2.1]
        refine q_istore (pc := 42) dX5_queueOpenOrders_42 (Nat.le_of_ble_eq_true rfl) rfl ?_
        show bq_W _ _ _ _ _ 44 [_, _, _, _, _] _ _ _ _ _ _ _
        exact l2 i hi J _ _ hJ hQ0 hop (fun J' v3 v4 hJ' => ih J' v3 v4 (by rw [show (qq (kk g) (fun o => decide (g (208 + 9 * o) = 0)) (i + 1)) = _ from if_pos hop]; exact hJ')) _ (Nat.le_refl _) J SI.rf rfl
      · refine q_goto (pc := 35) 110 dX5_queueOpenOrders_35 (by decide) ?_
        refine q_iinc (pc := 110) (v := nI (i + 1)) dX5_queueOpenOrders_110 rfl (bq_inc _) (Nat.le_of_ble_eq_true rfl) rfl ?_
        show bq_W _ _ _ _ _ 113 [_, _, _, _, _] _ _ _ _ _ _ _
        refine q_goto (pc := 113) 7 dX5_queueOpenOrders_113 (by decide) ?_
        exact ih J _ _ (by rw [show (qq (kk g) (fun o => decide (g (208 + 9 * o) = 0)) (i + 1)) = (qq (kk g) (fun o => decide (g (208 + 9 * o) = 0)) i) from if_neg (fun z => c_32 (hst ▸ of_decide_eq_true z))]; exact hJ)
  refine q_aload_n (pc := 0) dX5_queueOpenOrders_0 rfl rfl ?_
  refine q_iconst (pc := 1) (v := nI 0) dX5_queueOpenOrders_1 (by decide) ?_
  refine q_putI (pc := 2) dX5_queueOpenOrders_2 (pX5_22 _) (Plan_sh (Cellar_s_plan hx)) ⟨by decide, rfl⟩ (Plan_lt (Cellar_s_plan hx)) ?_
  refine q_iconst (pc := 5) (v := nI 0) dX5_queueOpenOrders_5 (by decide) ?_
  refine q_istore_n (pc := 6) dX5_queueOpenOrders_6 rfl (Nat.le_of_ble_eq_true rfl) rfl ?_
  show bq_W _ _ _ _ _ 7 [_, _, _, _, _] _ _ _ _ _ _ _
  exact lp 0 (Nat.zero_le _) _ _ _ QI.start
set_option maxHeartbeats 3220000 in
set_option maxRecDepth 20000 in
theorem c_best {S : BqH} {n : Nat} {I : BqI} {L : BqL} {P : BqP} {x o : Nat} {g : BqG} {F : Nat → Nat → Nat} (hx : oX S n P x) (ho : o < 10) {l : Nat} (hl : g (205 + 9 * o) = nI l) (hll : l ≤ 9999) (hll2 : gn g (205 + 9 * o) = l) (hO : ∀ k, k < 8 → I (x + 1 + 43 + o) k = g (204 + 9 * o + k)) (hst : ∀ j, j < 16 → I (x + 1 + 2) j = g (124 + 5 * j)) (hF : ∀ t, t < 6 → ∀ j, j < 16 → I (x + 131 + 9 + 2 * t + 1) j = nI (F t j)) (hb : ∀ t, t < 6 → ns (F t) 16 ≤ 9999) : bq_Sp mX5_bestTank 3 58 0 0 [.ref (x + 131), .ref (x + 1 + 43 + o), .ref (x + 1 + 2)] S n I L P (bq_F (some (.int (ri (bt g o F 6)))) S n I L P) := by
  refine q_entry (vs := [some (.ref (x + 131)), some (.ref (x + 1 + 43 + o)), some (.ref (x + 1 + 2)), none, none, none, none]) (by decide +kernel) (by simp) (Nat.le_of_ble_eq_true rfl) rfl ?_
  have h1 : I (x + 1 + 43 + o) 1 = nI l := by rw [hO 1 (by decide), show 204 + 9 * o + 1 = 205 + 9 * o by omega]; exact hl
  have h2 : I (x + 1 + 43 + o) 2 = g (206 + 9 * o) := by rw [hO 2 (by decide)]; congr 1; omega
  have h3 : I (x + 1 + 43 + o) 3 = g (207 + 9 * o) := by rw [hO 3 (by decide)]; congr 1; omega
  have lp : ∀ i, i ≤ 6 → ∀ v6 : Option Value, bq_W mX5_bestTank 3 58 0 0 9 [some (.ref (x + 131)), some (.ref (x + 1 + 43 + o)), some (.ref (x + 1 + 2)), some (.int (ri (bt g o F i))), some (.int (few F (bt g o F i))), some (.int (nI i)), v6] [] S n I L P (bq_F (some (.int (ri (bt g o F 6)))) S n I L P) := by
    refine bq_down (A := fun i => ∀ v6 : Option Value, bq_W mX5_bestTank 3 58 0 0 9 [some (.ref (x + 131)), some (.ref (x + 1 + 43 + o)), some (.ref (x + 1 + 2)), some (.int (ri (bt g o F i))), some (.int (few F (bt g o F i))), some (.int (nI i)), v6] [] S n I L P (bq_F (some (.int (ri (bt g o F 6)))) S n I L P)) 6 ?_ ?_
    · intro v6
      refine q_iload (pc := 9) dX5_bestTank_9 rfl ?_
      refine q_bipush (pc := 11) (v := nI 6) dX5_bestTank_11 (by decide) ?_
      refine q_icmp_ge (pc := 13) 79 dX5_bestTank_13 (by decide) (fun c_13 => ?_) (fun c_13 => absurd (by decide) c_13)
      refine q_iload_n (pc := 79) dX5_bestTank_79 rfl rfl ?_
      exact q_iret (st := []) (pc := 80) dX5_bestTank_80 rfl ⟨rfl, rfl, rfl, rfl, rfl, rfl⟩
    · intro i hi ih v6
      have hs : bq_sum (I (x + 131 + 9 + 2 * i + 1)) 16 = nI (ns (F i) 16) := bq_sum_n 16 (hF i hi)
      have hsb := hb i hi
      have hss : bq_str (I (x + 131 + 9 + 2 * i + 1)) (I (x + 1 + 2)) = bq_str (fun j => nI (F i j)) (fun b => g (124 + 5 * b)) := bq_str_congr (hF i hi) hst
      cases hr : bt g o F i with
      | none =>
        rw [show ri none = (-5) from rfl]
        refine q_iload (pc := 9) dX5_bestTank_9 rfl ?_
        refine q_bipush (pc := 11) (v := nI 6) dX5_bestTank_11 (by decide) ?_
        refine q_icmp_ge (pc := 13) 79 dX5_bestTank_13 (by decide) (fun c_13 => absurd c_13 (nI_ge hi (by decide))) (fun c_13 => ?_)
        refine q_aload_n (pc := 16) dX5_bestTank_16 rfl rfl ?_
        refine q_getP (pc := 17) dX5_bestTank_17 fX5_30 (Plan_sh (Cellar_s_plan hx)) ⟨by decide, rfl⟩ (Plan_lt (Cellar_s_plan hx)) (Plan_p_left (Cellar_s_plan hx)) ?_
        refine q_iload (pc := 20) dX5_bestTank_20 rfl ?_
        refine q_aald (pc := 22) dX5_bestTank_22 (Planleft_sh (Cellar_s_plan hx)) (by decide) (Planleft_lt (Cellar_s_plan hx)) rfl hi (Planleft_p_el (Cellar_s_plan hx) hi) ?_
        refine q_callVF (pc := 23) dX5_bestTank_23 kX5_96 (c_X0_total (Planleft_s_el (Cellar_s_plan hx) hi)) (Blend_sh (Planleft_s_el (Cellar_s_plan hx) hi)) rfl (Blend_lt (Planleft_s_el (Cellar_s_plan hx) hi)) ⟨Nat.le_of_ble_eq_true rfl, Nat.le_of_ble_eq_true rfl⟩ rfl rfl (Nat.le_of_ble_eq_true rfl) ?_
        show bq_W _ _ _ _ _ 26 _ [_] _ _ _ _ _ _
        rw [hs]
        refine q_istore (pc := 26) dX5_bestTank_26 (Nat.le_of_ble_eq_true rfl) rfl ?_
        show bq_W _ _ _ _ _ 28 [_, _, _, _, _, _, _] _ _ _ _ _ _ _
        refine q_iload (pc := 28) dX5_bestTank_28 rfl ?_
        refine q_aload_n (pc := 30) dX5_bestTank_30 rfl rfl ?_
        refine q_getI (pc := 31) dX5_bestTank_31 fX5_71 (Order_sh (Stateorders_s_el (Cellar_s_state hx) ho)) ⟨by decide, rfl⟩ (Order_lt (Stateorders_s_el (Cellar_s_state hx) ho)) ?_
        rw [h1]
        refine q_icmp_lt (pc := 34) 73 dX5_bestTank_34 (by decide) (fun c_34 => ?_) (fun c_34 => ?_)
        · have hno : ¬ fit g o (F i) = true := fit_1 (by rw [hll2]; exact (nI_ltI (by omega) (by omega)).mp c_34)
          refine q_iinc (pc := 73) (v := nI (i + 1)) dX5_bestTank_73 rfl (bq_inc _) (Nat.le_of_ble_eq_true rfl) rfl ?_
          show bq_W _ _ _ _ _ 76 [_, _, _, _, _, _, _] _ _ _ _ _ _ _
          refine q_goto (pc := 76) 9 dX5_bestTank_76 (by decide) ?_
          rw [bt_no hno, hr] at ih
          exact ih _
        · have hge : gn g (205 + 9 * o) ≤ ns (F i) 16 := by rw [hll2]; exact Nat.le_of_not_lt (fun z => c_34 (nI_lt z (by omega)))
          refine q_aload_n (pc := 37) dX5_bestTank_37 rfl rfl ?_
          refine q_aload_n (pc := 38) dX5_bestTank_38 rfl rfl ?_
          refine q_getP (pc := 39) dX5_bestTank_39 fX5_30 (Plan_sh (Cellar_s_plan hx)) ⟨by decide, rfl⟩ (Plan_lt (Cellar_s_plan hx)) (Plan_p_left (Cellar_s_plan hx)) ?_
          refine q_iload (pc := 42) dX5_bestTank_42 rfl ?_
          refine q_aald (pc := 44) dX5_bestTank_44 (Planleft_sh (Cellar_s_plan hx)) (by decide) (Planleft_lt (Cellar_s_plan hx)) rfl hi (Planleft_p_el (Cellar_s_plan hx) hi) ?_
          refine q_aload_n (pc := 45) dX5_bestTank_45 rfl rfl ?_
          refine q_callVF (pc := 46) dX5_bestTank_46 kX5_100 (c_X0_strength (Planleft_s_el (Cellar_s_plan hx) hi) (State_s_strengths (Cellar_s_state hx))) (Blend_sh (Planleft_s_el (Cellar_s_plan hx) hi)) rfl (Blend_lt (Planleft_s_el (Cellar_s_plan hx) hi)) ⟨Nat.le_of_ble_eq_true rfl, Nat.le_of_ble_eq_true rfl⟩ rfl rfl (Nat.le_of_ble_eq_true rfl) ?_
          show bq_W _ _ _ _ _ 49 _ [_, _] _ _ _ _ _ _
          refine q_callVF (pc := 49) dX5_bestTank_49 kX5_104 (c_X4_allows (Stateorders_s_el (Cellar_s_state hx) ho)) (Order_sh (Stateorders_s_el (Cellar_s_state hx) ho)) rfl (Order_lt (Stateorders_s_el (Cellar_s_state hx) ho)) ⟨Nat.le_of_ble_eq_true rfl, Nat.le_of_ble_eq_true rfl⟩ rfl rfl (Nat.le_of_ble_eq_true rfl) ?_
          show bq_W _ _ _ _ _ 52 _ [_] _ _ _ _ _ _
          refine q_if_eq (pc := 52) 73 dX5_bestTank_52 (by decide) (fun c_52 => ?_) (fun c_52 => ?_)
          · replace c_52 := bq_b0.mp c_52
            rw [hss, h2, h3] at c_52
            have hno : ¬ fit g o (F i) = true := fit_2 c_52
            refine q_iinc (pc := 73) (v := nI (i + 1)) dX5_bestTank_73 rfl (bq_inc _) (Nat.le_of_ble_eq_true rfl) rfl ?_
            show bq_W _ _ _ _ _ 76 [_, _, _, _, _, _, _] _ _ _ _ _ _ _
            refine q_goto (pc := 76) 9 dX5_bestTank_76 (by decide) ?_
            rw [bt_no hno, hr] at ih
            exact ih _
          · replace c_52 := bq_bn.mp c_52
            rw [hss, h2, h3] at c_52
            have hfit : fit g o (F i) = true := fit_y hge c_52
            refine q_iload_n (pc := 55) dX5_bestTank_55 rfl rfl ?_
            refine q_if_lt (pc := 56) 66 dX5_bestTank_56 (by decide) (fun c_56 => ?_) (fun c_56 => ((c_56 (by decide) : False)).elim)
            refine q_iload (pc := 66) dX5_bestTank_66 rfl ?_
            refine q_istore_n (pc := 68) dX5_bestTank_68 rfl (Nat.le_of_ble_eq_true rfl) rfl ?_
            show bq_W _ _ _ _ _ 69 [_, _, _, _, _, _, _] _ _ _ _ _ _ _
            refine q_iload (pc := 69) dX5_bestTank_69 rfl ?_
            refine q_istore (pc := 71) dX5_bestTank_71 (Nat.le_of_ble_eq_true rfl) rfl ?_
            show bq_W _ _ _ _ _ 73 [_, _, _, _, _, _, _] _ _ _ _ _ _ _
            refine q_iinc (pc := 73) (v := nI (i + 1)) dX5_bestTank_73 rfl (bq_inc _) (Nat.le_of_ble_eq_true rfl) rfl ?_
            show bq_W _ _ _ _ _ 76 [_, _, _, _, _, _, _] _ _ _ _ _ _ _
            refine q_goto (pc := 76) 9 dX5_bestTank_76 (by decide) ?_
            rw [bt_new hr hfit] at ih
            exact ih _
      | some q =>
        have hq6 : q < 6 := Nat.lt_trans (bt_ok hr).1 hi
        have hqb := hb q hq6
        rw [show ri (some q) = nI q from rfl, show few F (some q) = nI (ns (F q) 16) from rfl]
        refine q_iload (pc := 9) dX5_bestTank_9 rfl ?_
        refine q_bipush (pc := 11) (v := nI 6) dX5_bestTank_11 (by decide) ?_
        refine q_icmp_ge (pc := 13) 79 dX5_bestTank_13 (by decide) (fun c_13 => absurd c_13 (nI_ge hi (by decide))) (fun c_13 => ?_)
        refine q_aload_n (pc := 16) dX5_bestTank_16 rfl rfl ?_
        refine q_getP (pc := 17) dX5_bestTank_17 fX5_30 (Plan_sh (Cellar_s_plan hx)) ⟨by decide, rfl⟩ (Plan_lt (Cellar_s_plan hx)) (Plan_p_left (Cellar_s_plan hx)) ?_
        refine q_iload (pc := 20) dX5_bestTank_20 rfl ?_
        refine q_aald (pc := 22) dX5_bestTank_22 (Planleft_sh (Cellar_s_plan hx)) (by decide) (Planleft_lt (Cellar_s_plan hx)) rfl hi (Planleft_p_el (Cellar_s_plan hx) hi) ?_
        refine q_callVF (pc := 23) dX5_bestTank_23 kX5_96 (c_X0_total (Planleft_s_el (Cellar_s_plan hx) hi)) (Blend_sh (Planleft_s_el (Cellar_s_plan hx) hi)) rfl (Blend_lt (Planleft_s_el (Cellar_s_plan hx) hi)) ⟨Nat.le_of_ble_eq_true rfl, Nat.le_of_ble_eq_true rfl⟩ rfl rfl (Nat.le_of_ble_eq_true rfl) ?_
        show bq_W _ _ _ _ _ 26 _ [_] _ _ _ _ _ _
        rw [hs]
        refine q_istore (pc := 26) dX5_bestTank_26 (Nat.le_of_ble_eq_true rfl) rfl ?_
        show bq_W _ _ _ _ _ 28 [_, _, _, _, _, _, _] _ _ _ _ _ _ _
        refine q_iload (pc := 28) dX5_bestTank_28 rfl ?_
        refine q_aload_n (pc := 30) dX5_bestTank_30 rfl rfl ?_
        refine q_getI (pc := 31) dX5_bestTank_31 fX5_71 (Order_sh (Stateorders_s_el (Cellar_s_state hx) ho)) ⟨by decide, rfl⟩ (Order_lt (Stateorders_s_el (Cellar_s_state hx) ho)) ?_
        rw [h1]
        refine q_icmp_lt (pc := 34) 73 dX5_bestTank_34 (by decide) (fun c_34 => ?_) (fun c_34 => ?_)
        · have hno : ¬ fit g o (F i) = true := fit_1 (by rw [hll2]; exact (nI_ltI (by omega) (by omega)).mp c_34)
          refine q_iinc (pc := 73) (v := nI (i + 1)) dX5_bestTank_73 rfl (bq_inc _) (Nat.le_of_ble_eq_true rfl) rfl ?_
          show bq_W _ _ _ _ _ 76 [_, _, _, _, _, _, _] _ _ _ _ _ _ _
          refine q_goto (pc := 76) 9 dX5_bestTank_76 (by decide) ?_
          rw [bt_no hno, hr] at ih
          exact ih _
        · have hge : gn g (205 + 9 * o) ≤ ns (F i) 16 := by rw [hll2]; exact Nat.le_of_not_lt (fun z => c_34 (nI_lt z (by omega)))
          refine q_aload_n (pc := 37) dX5_bestTank_37 rfl rfl ?_
          refine q_aload_n (pc := 38) dX5_bestTank_38 rfl rfl ?_
          refine q_getP (pc := 39) dX5_bestTank_39 fX5_30 (Plan_sh (Cellar_s_plan hx)) ⟨by decide, rfl⟩ (Plan_lt (Cellar_s_plan hx)) (Plan_p_left (Cellar_s_plan hx)) ?_
          refine q_iload (pc := 42) dX5_bestTank_42 rfl ?_
          refine q_aald (pc := 44) dX5_bestTank_44 (Planleft_sh (Cellar_s_plan hx)) (by decide) (Planleft_lt (Cellar_s_plan hx)) rfl hi (Planleft_p_el (Cellar_s_plan hx) hi) ?_
          refine q_aload_n (pc := 45) dX5_bestTank_45 rfl rfl ?_
          refine q_callVF (pc := 46) dX5_bestTank_46 kX5_100 (c_X0_strength (Planleft_s_el (Cellar_s_plan hx) hi) (State_s_strengths (Cellar_s_state hx))) (Blend_sh (Planleft_s_el (Cellar_s_plan hx) hi)) rfl (Blend_lt (Planleft_s_el (Cellar_s_plan hx) hi)) ⟨Nat.le_of_ble_eq_true rfl, Nat.le_of_ble_eq_true rfl⟩ rfl rfl (Nat.le_of_ble_eq_true rfl) ?_
          show bq_W _ _ _ _ _ 49 _ [_, _] _ _ _ _ _ _
          refine q_callVF (pc := 49) dX5_bestTank_49 kX5_104 (c_X4_allows (Stateorders_s_el (Cellar_s_state hx) ho)) (Order_sh (Stateorders_s_el (Cellar_s_state hx) ho)) rfl (Order_lt (Stateorders_s_el (Cellar_s_state hx) ho)) ⟨Nat.le_of_ble_eq_true rfl, Nat.le_of_ble_eq_true rfl⟩ rfl rfl (Nat.le_of_ble_eq_true rfl) ?_
          show bq_W _ _ _ _ _ 52 _ [_] _ _ _ _ _ _
          refine q_if_eq (pc := 52) 73 dX5_bestTank_52 (by decide) (fun c_52 => ?_) (fun c_52 => ?_)
          · replace c_52 := bq_b0.mp c_52
            rw [hss, h2, h3] at c_52
            have hno : ¬ fit g o (F i) = true := fit_2 c_52
            refine q_iinc (pc := 73) (v := nI (i + 1)) dX5_bestTank_73 rfl (bq_inc _) (Nat.le_of_ble_eq_true rfl) rfl ?_
            show bq_W _ _ _ _ _ 76 [_, _, _, _, _, _, _] _ _ _ _ _ _ _
            refine q_goto (pc := 76) 9 dX5_bestTank_76 (by decide) ?_
            rw [bt_no hno, hr] at ih
            exact ih _
          · replace c_52 := bq_bn.mp c_52
            rw [hss, h2, h3] at c_52
            have hfit : fit g o (F i) = true := fit_y hge c_52
            refine q_iload_n (pc := 55) dX5_bestTank_55 rfl rfl ?_
            refine q_if_lt (pc := 56) 66 dX5_bestTank_56 (by decide) (fun c_56 => ((nI_pos (by omega) c_56 : False)).elim) (fun c_56 => ?_)
            refine q_iload (pc := 59) dX5_bestTank_59 rfl ?_
            refine q_iload (pc := 61) dX5_bestTank_61 rfl ?_
            refine q_icmp_ge (pc := 63) 73 dX5_bestTank_63 (by decide) (fun c_63 => ?_) (fun c_63 => ?_)
            · have hge : ¬ ns (F i) 16 < ns (F q) 16 := fun z => nI_ge z (by omega) c_63
              refine q_iinc (pc := 73) (v := nI (i + 1)) dX5_bestTank_73 rfl (bq_inc _) (Nat.le_of_ble_eq_true rfl) rfl ?_
              show bq_W _ _ _ _ _ 76 [_, _, _, _, _, _, _] _ _ _ _ _ _ _
              refine q_goto (pc := 76) 9 dX5_bestTank_76 (by decide) ?_
              rw [bt_ge hr hfit hge] at ih
              exact ih _
            · have hlt : ns (F i) 16 < ns (F q) 16 := Nat.lt_of_not_le (fun z => c_63 (nI_le z (by omega)))
              refine q_iload (pc := 66) dX5_bestTank_66 rfl ?_
              refine q_istore_n (pc := 68) dX5_bestTank_68 rfl (Nat.le_of_ble_eq_true rfl) rfl ?_
              show bq_W _ _ _ _ _ 69 [_, _, _, _, _, _, _] _ _ _ _ _ _ _
              refine q_iload (pc := 69) dX5_bestTank_69 rfl ?_
              refine q_istore (pc := 71) dX5_bestTank_71 (Nat.le_of_ble_eq_true rfl) rfl ?_
              show bq_W _ _ _ _ _ 73 [_, _, _, _, _, _, _] _ _ _ _ _ _ _
              refine q_iinc (pc := 73) (v := nI (i + 1)) dX5_bestTank_73 rfl (bq_inc _) (Nat.le_of_ble_eq_true rfl) rfl ?_
              show bq_W _ _ _ _ _ 76 [_, _, _, _, _, _, _] _ _ _ _ _ _ _
              refine q_goto (pc := 76) 9 dX5_bestTank_76 (by decide) ?_
              rw [bt_lt hr hfit hlt] at ih
              exact ih _
  refine q_bipush (pc := 0) (v := (-5)) dX5_bestTank_0 (by decide) ?_
  refine q_istore_n (pc := 2) dX5_bestTank_2 rfl (Nat.le_of_ble_eq_true rfl) rfl ?_
  show bq_W _ _ _ _ _ 3 [_, _, _, _, _, _, _] _ _ _ _ _ _ _
  refine q_iconst (pc := 3) (v := nI 0) dX5_bestTank_3 (by decide) ?_
  refine q_istore (pc := 4) dX5_bestTank_4 (Nat.le_of_ble_eq_true rfl) rfl ?_
  show bq_W _ _ _ _ _ 6 [_, _, _, _, _, _, _] _ _ _ _ _ _ _
  refine q_iconst (pc := 6) (v := nI 0) dX5_bestTank_6 (by decide) ?_
  refine q_istore (pc := 7) dX5_bestTank_7 (Nat.le_of_ble_eq_true rfl) rfl ?_
  show bq_W _ _ _ _ _ 9 [_, _, _, _, _, _, _] _ _ _ _ _ _ _
  exact lp 0 (by decide) _
set_option maxHeartbeats 1000000 in
set_option maxRecDepth 20000 in
theorem c_tankOf {S : BqH} {n : Nat} {I : BqI} {L : BqL} {P : BqP} {x c : Nat} {O T : Nat → Nat} (hx : oX S n P x) (hc : I (x + 131) 0 = nI c) (hcl : c ≤ 10) (hO : ∀ j, j < c → I (x + 131 + 1) j = nI (O j) ∧ O j < 10) (hT : ∀ j, j < c → I (x + 131 + 2) j = nI (T j)) {o : Nat} (ho : o < 10) : bq_Sp mX5_tankOf 1 12 0 0 [.ref (x + 131), .int (nI o)] S n I L P (bq_F (some (.int (tofr O T o 0 c))) S n I L P) := by
  refine q_entry (vs := [some (.ref (x + 131)), some (.int (nI o)), none]) (by decide +kernel) (by simp) (Nat.le_of_ble_eq_true rfl) rfl ?_
  have lp : ∀ i, i ≤ c → bq_W mX5_tankOf 1 12 0 0 2 [some (.ref (x + 131)), some (.int (nI o)), some (.int (nI i))] [] S n I L P (bq_F (some (.int (tofr O T o i (c - i)))) S n I L P) := by
    refine bq_down (A := fun i => bq_W mX5_tankOf 1 12 0 0 2 [some (.ref (x + 131)), some (.int (nI o)), some (.int (nI i))] [] S n I L P (bq_F (some (.int (tofr O T o i (c - i)))) S n I L P)) c ?_ ?_
    · refine q_iload_n (pc := 2) dX5_tankOf_2 rfl rfl ?_
      refine q_aload_n (pc := 3) dX5_tankOf_3 rfl rfl ?_
      refine q_getI (pc := 4) dX5_tankOf_4 fX5_9 (Plan_sh (Cellar_s_plan hx)) ⟨by decide, rfl⟩ (Plan_lt (Cellar_s_plan hx)) ?_
      rw [hc]
      refine q_icmp_ge (pc := 7) 33 dX5_tankOf_7 (by decide) (fun c_7 => ?_) (fun c_7 => absurd (nI_le (Nat.le_refl _) (by omega)) c_7)
      refine q_bipush (pc := 33) (v := (-5)) dX5_tankOf_33 (by decide) ?_
      exact q_iret (st := []) (pc := 35) dX5_tankOf_35 rfl ⟨by rw [Nat.sub_self]; rfl, rfl, rfl, rfl, rfl, rfl⟩
    · intro i hi ih
      have hci : c - i = c - (i + 1) + 1 := by omega
      refine q_iload_n (pc := 2) dX5_tankOf_2 rfl rfl ?_
      refine q_aload_n (pc := 3) dX5_tankOf_3 rfl rfl ?_
      refine q_getI (pc := 4) dX5_tankOf_4 fX5_9 (Plan_sh (Cellar_s_plan hx)) ⟨by decide, rfl⟩ (Plan_lt (Cellar_s_plan hx)) ?_
      rw [hc]
      refine q_icmp_ge (pc := 7) 33 dX5_tankOf_7 (by decide) (fun c_7 => absurd c_7 (nI_ge hi (by omega))) (fun c_7 => ?_)
      refine q_aload_n (pc := 10) dX5_tankOf_10 rfl rfl ?_
      refine q_getP (pc := 11) dX5_tankOf_11 fX5_15 (Plan_sh (Cellar_s_plan hx)) ⟨by decide, rfl⟩ (Plan_lt (Cellar_s_plan hx)) (Plan_p_orders (Cellar_s_plan hx)) ?_
      refine q_iload_n (pc := 14) dX5_tankOf_14 rfl rfl ?_
      refine q_iald (pc := 15) dX5_tankOf_15 (oA_sh (Plan_s_orders (Cellar_s_plan hx))) (oA_lt (Plan_s_orders (Cellar_s_plan hx))) rfl (by omega) ?_
      rw [(hO i hi).1]
      refine q_iload_n (pc := 16) dX5_tankOf_16 rfl rfl ?_
      refine q_icmp_ne (pc := 17) 27 dX5_tankOf_17 (by decide) (fun c_17 => ?_) (fun c_17 => ?_)
      · rw [hci]
        rw [show tofr O T o i (c - (i + 1) + 1) = tofr O T o (i + 1) (c - (i + 1)) from if_neg (fun z => c_17 (by rw [z]))]
        refine q_iinc (pc := 27) (v := nI (i + 1)) dX5_tankOf_27 rfl (bq_inc _) (Nat.le_of_ble_eq_true rfl) rfl ?_
        show bq_W _ _ _ _ _ 30 [_, _, _] _ _ _ _ _ _ _
        refine q_goto (pc := 30) 2 dX5_tankOf_30 (by decide) ?_
        exact ih
      · have he : O i = o := (nI_eq (by have := (hO i hi).2; omega) (by omega)).mp c_17
        refine q_aload_n (pc := 20) dX5_tankOf_20 rfl rfl ?_
        refine q_getP (pc := 21) dX5_tankOf_21 fX5_19 (Plan_sh (Cellar_s_plan hx)) ⟨by decide, rfl⟩ (Plan_lt (Cellar_s_plan hx)) (Plan_p_tanks (Cellar_s_plan hx)) ?_
        refine q_iload_n (pc := 24) dX5_tankOf_24 rfl rfl ?_
        refine q_iald (pc := 25) dX5_tankOf_25 (oA_sh (Plan_s_tanks (Cellar_s_plan hx))) (oA_lt (Plan_s_tanks (Cellar_s_plan hx))) rfl (by omega) ?_
        exact q_iret (st := []) (pc := 26) dX5_tankOf_26 rfl ⟨by rw [hci, hT i hi]; exact congrArg (fun z => some (Value.int z)) (if_pos he).symm, rfl, rfl, rfl, rfl, rfl⟩
  refine q_iconst (pc := 0) (v := nI 0) dX5_tankOf_0 (by decide) ?_
  refine q_istore_n (pc := 1) dX5_tankOf_1 rfl (Nat.le_of_ble_eq_true rfl) rfl ?_
  show bq_W _ _ _ _ _ 2 [_, _, _] _ _ _ _ _ _ _
  exact lp 0 (Nat.zero_le _)
/-! the model's plan: the next order, the tank for an order -/
def rn (r : Option Nat) : Int32 := match r with
  | none => (-1)
  | some q => nI q
theorem rn_ne {q : Nat} (h : q < 2 ^ 31) (e : nI q = (-1)) : False := by
  have := congrArg Int32.toInt e
  rw [nI_toInt h] at this
  have h2 : ((-1 : Int32)).toInt = -1 := by decide
  omega
theorem nx_no {K : Nat → Nat} {f : Nat → Bool} {i : Nat} (h : ¬ f i = true) : nxt K f (i + 1) = nxt K f i := by
  show (match nxt K f i with | none => if f i = true then some i else none | some q => if f i = true ∧ K i < K q then some i else some q) = _
  cases nxt K f i with
  | none => exact if_neg h
  | some q => exact if_neg (fun z => h z.1)
theorem nx_new {K : Nat → Nat} {f : Nat → Bool} {i : Nat} (hr : nxt K f i = none) (h : f i = true) : nxt K f (i + 1) = some i := by
  show (match nxt K f i with | none => if f i = true then some i else none | some q => if f i = true ∧ K i < K q then some i else some q) = _
  rw [hr]; exact if_pos h
theorem nx_lt {K : Nat → Nat} {f : Nat → Bool} {i q : Nat} (hr : nxt K f i = some q) (h : f i = true) (hl : K i < K q) : nxt K f (i + 1) = some i := by
  show (match nxt K f i with | none => if f i = true then some i else none | some q => if f i = true ∧ K i < K q then some i else some q) = _
  rw [hr]; exact if_pos ⟨h, hl⟩
theorem nx_ge {K : Nat → Nat} {f : Nat → Bool} {i q : Nat} (hr : nxt K f i = some q) (h : ¬ (f i = true ∧ K i < K q)) : nxt K f (i + 1) = some q := by
  show (match nxt K f i with | none => if f i = true then some i else none | some q => if f i = true ∧ K i < K q then some i else some q) = _
  rw [hr]; exact if_neg h
def qTf (m : Nat) (I : BqI) (S : BqH) (n : Nat) (L : BqL) (P : BqP) (v : Int32) : BqQ := fun r S' n' I' L' P' => r = some (.int v) ∧ S' = S ∧ n' = n ∧ L' = L ∧ P' = P ∧ ∀ a, a ≠ m + 6 → I' a = I a
theorem hnd_f {g : BqG} {o : Nat} {F : Nat → Nat} (z : fit g o F = true) : hnd g F (bq_str (fun j => nI (F j)) (fun b => g (124 + 5 * b))) o = 0 := by
  obtain ⟨h1, h2, h3⟩ := fit_d z
  unfold hnd
  rw [if_neg (Nat.not_lt.mpr h1), if_neg]
  · decide
  · rintro (q | q)
    · exact h2 q
    · exact h3 (Int32.not_le.mp q)
theorem hnd_t {g : BqG} {o : Nat} {F : Nat → Nat} (h : hnd g F (bq_str (fun j => nI (F j)) (fun b => g (124 + 5 * b))) o = 0) : fit g o F = true := by
  unfold hnd at h
  by_cases c1 : ns F 16 < gn g (205 + 9 * o)
  · rw [if_pos c1] at h; exact absurd h (by decide)
  · rw [if_neg c1] at h
    by_cases c2 : bq_str (fun j => nI (F j)) (fun b => g (124 + 5 * b)) < g (206 + 9 * o) ∨ ¬ bq_str (fun j => nI (F j)) (fun b => g (124 + 5 * b)) ≤ g (207 + 9 * o)
    · rw [if_pos c2] at h; exact absurd h (by decide)
    · exact fit_y (Nat.le_of_not_lt c1) ⟨fun q => c2 (Or.inl q), fun q => c2 (Or.inr (Int32.not_le.mpr q))⟩
set_option maxHeartbeats 1100000 in
set_option maxRecDepth 20000 in
theorem c_X12_isAhead {S : BqH} {n : Nat} {I : BqI} {L : BqL} {P : BqP} {m : Nat} {g : BqG} (hm : oModel S n P m) (hg : I (m + 1) = g) {en : Nat} (hG : GI g en) {a b : Nat} (ha : a < 10) (hb : b < 10) : bq_Sp mX12_isAhead 2 34 0 0 [.ref m, .int (nI a), .int (nI b)] S n I L P (bq_F (some (.int (bq_b (kk g a < kk g b)))) S n I L P) := by
  refine q_entry (vs := [some (.ref m), some (.int (nI a)), some (.int (nI b))]) (by decide +kernel) (by simp) (Nat.le_of_ble_eq_true rfl) rfl ?_
  have hk := ahd_kk hG ha hb
  refine q_aload_n (pc := 0) dX12_isAhead_0 rfl rfl ?_
  refine q_iload_n (pc := 1) dX12_isAhead_1 rfl rfl ?_
  refine q_iconst (pc := 2) (v := nI 0) dX12_isAhead_2 (by decide) ?_
  refine q_callVF (pc := 3) dX12_isAhead_3 kX12_118 (c_oA hm (o := a) (k := 0) (j := 204 + 9 * a) (by omega) (by omega)) (Model_sh hm) rfl (Model_lt hm) ⟨Nat.le_of_ble_eq_true rfl, Nat.le_of_ble_eq_true rfl⟩ rfl rfl (Nat.le_of_ble_eq_true rfl) ?_
  show bq_W _ _ _ _ _ 6 _ [_] _ _ _ _ _ _
  rw [hg]
  refine q_aload_n (pc := 6) dX12_isAhead_6 rfl rfl ?_
  refine q_iload_n (pc := 7) dX12_isAhead_7 rfl rfl ?_
  refine q_iconst (pc := 8) (v := nI 0) dX12_isAhead_8 (by decide) ?_
  refine q_callVF (pc := 9) dX12_isAhead_9 kX12_118 (c_oA hm (o := b) (k := 0) (j := 204 + 9 * b) (by omega) (by omega)) (Model_sh hm) rfl (Model_lt hm) ⟨Nat.le_of_ble_eq_true rfl, Nat.le_of_ble_eq_true rfl⟩ rfl rfl (Nat.le_of_ble_eq_true rfl) ?_
  show bq_W _ _ _ _ _ 12 _ [_, _] _ _ _ _ _ _
  rw [hg]
  refine q_icmp_eq (pc := 12) 36 dX12_isAhead_12 (by decide) (fun c_12 => ?_) (fun c_12 => ?_)
  · refine q_aload_n (pc := 36) dX12_isAhead_36 rfl rfl ?_
    refine q_iload_n (pc := 37) dX12_isAhead_37 rfl rfl ?_
    refine q_iconst (pc := 38) (v := nI 1) dX12_isAhead_38 (by decide) ?_
    refine q_callVF (pc := 39) dX12_isAhead_39 kX12_118 (c_oA hm (o := a) (k := 1) (j := 205 + 9 * a) (by omega) (by omega)) (Model_sh hm) rfl (Model_lt hm) ⟨Nat.le_of_ble_eq_true rfl, Nat.le_of_ble_eq_true rfl⟩ rfl rfl (Nat.le_of_ble_eq_true rfl) ?_
    show bq_W _ _ _ _ _ 42 _ [_] _ _ _ _ _ _
    rw [hg]
    refine q_aload_n (pc := 42) dX12_isAhead_42 rfl rfl ?_
    refine q_iload_n (pc := 43) dX12_isAhead_43 rfl rfl ?_
    refine q_iconst (pc := 44) (v := nI 1) dX12_isAhead_44 (by decide) ?_
    refine q_callVF (pc := 45) dX12_isAhead_45 kX12_118 (c_oA hm (o := b) (k := 1) (j := 205 + 9 * b) (by omega) (by omega)) (Model_sh hm) rfl (Model_lt hm) ⟨Nat.le_of_ble_eq_true rfl, Nat.le_of_ble_eq_true rfl⟩ rfl rfl (Nat.le_of_ble_eq_true rfl) ?_
    show bq_W _ _ _ _ _ 48 _ [_, _] _ _ _ _ _ _
    rw [hg]
    refine q_icmp_le (pc := 48) 55 dX12_isAhead_48 (by decide) (fun c_48 => ?_) (fun c_48 => ?_)
    · have hno : ¬ kk g a < kk g b := fun z => (hk.mpr z).elim (fun q => absurd (by rw [c_12]; exact Int32.le_refl _) (Int32.not_le.mpr q)) (fun q => q.2 c_48)
      refine q_iconst (pc := 55) (v := nI 0) dX12_isAhead_55 (by decide) ?_
      exact q_zret (st := []) (pc := 56) dX12_isAhead_56 rfl (by decide) ⟨by first | rw [bq_bt hy] | rw [bq_bf hno], rfl, rfl, rfl, rfl, rfl⟩
    · have hy : kk g a < kk g b := hk.mp (Or.inr ⟨c_12, c_48⟩)
      refine q_iconst (pc := 51) (v := nI 1) dX12_isAhead_51 (by decide) ?_
      refine q_goto (pc := 52) 56 dX12_isAhead_52 (by decide) ?_
      exact q_zret (st := []) (pc := 56) dX12_isAhead_56 rfl (by decide) ⟨by first | rw [bq_bt hy] | rw [bq_bf hno], rfl, rfl, rfl, rfl, rfl⟩
  · refine q_aload_n (pc := 15) dX12_isAhead_15 rfl rfl ?_
    refine q_iload_n (pc := 16) dX12_isAhead_16 rfl rfl ?_
    refine q_iconst (pc := 17) (v := nI 0) dX12_isAhead_17 (by decide) ?_
    refine q_callVF (pc := 18) dX12_isAhead_18 kX12_118 (c_oA hm (o := a) (k := 0) (j := 204 + 9 * a) (by omega) (by omega)) (Model_sh hm) rfl (Model_lt hm) ⟨Nat.le_of_ble_eq_true rfl, Nat.le_of_ble_eq_true rfl⟩ rfl rfl (Nat.le_of_ble_eq_true rfl) ?_
    show bq_W _ _ _ _ _ 21 _ [_] _ _ _ _ _ _
    rw [hg]
    refine q_aload_n (pc := 21) dX12_isAhead_21 rfl rfl ?_
    refine q_iload_n (pc := 22) dX12_isAhead_22 rfl rfl ?_
    refine q_iconst (pc := 23) (v := nI 0) dX12_isAhead_23 (by decide) ?_
    refine q_callVF (pc := 24) dX12_isAhead_24 kX12_118 (c_oA hm (o := b) (k := 0) (j := 204 + 9 * b) (by omega) (by omega)) (Model_sh hm) rfl (Model_lt hm) ⟨Nat.le_of_ble_eq_true rfl, Nat.le_of_ble_eq_true rfl⟩ rfl rfl (Nat.le_of_ble_eq_true rfl) ?_
    show bq_W _ _ _ _ _ 27 _ [_, _] _ _ _ _ _ _
    rw [hg]
    refine q_icmp_ge (pc := 27) 34 dX12_isAhead_27 (by decide) (fun c_27 => ?_) (fun c_27 => ?_)
    · have hno : ¬ kk g a < kk g b := fun z => (hk.mpr z).elim (fun q => absurd c_27 (Int32.not_le.mpr q)) (fun q => c_12 q.1)
      refine q_iconst (pc := 34) (v := nI 0) dX12_isAhead_34 (by decide) ?_
      exact q_zret (st := []) (pc := 35) dX12_isAhead_35 rfl (by decide) ⟨by first | rw [bq_bt hy] | rw [bq_bf hno], rfl, rfl, rfl, rfl, rfl⟩
    · have hy : kk g a < kk g b := hk.mp (Or.inl (Int32.not_le.mp c_27))
      refine q_iconst (pc := 30) (v := nI 1) dX12_isAhead_30 (by decide) ?_
      refine q_goto (pc := 31) 35 dX12_isAhead_31 (by decide) ?_
      exact q_zret (st := []) (pc := 35) dX12_isAhead_35 rfl (by decide) ⟨by first | rw [bq_bt hy] | rw [bq_bf hno], rfl, rfl, rfl, rfl, rfl⟩
set_option maxHeartbeats 3260000 in
set_option maxRecDepth 20000 in
theorem c_X12_nextOrder {S : BqH} {n : Nat} {I : BqI} {L : BqL} {P : BqP} {m : Nat} {g : BqG} (hm : oModel S n P m) (hg : I (m + 1) = g) {en : Nat} (hG : GI g en) {f sn : Nat → Bool} (hsn : ∀ o, o < 10 → I (m + 11) o = (if sn o = true then nI 1 else nI 0)) (hf : ∀ o, f o = (decide (g (208 + 9 * o) = 0) && !sn o)) : bq_Sp mX12_nextOrder 3 56 0 0 [.ref m] S n I L P (bq_F (some (.int (rn (nxt (kk g) f (gn g 2))))) S n I L P) := by
  refine q_entry (vs := [some (.ref m), none, none]) (by decide +kernel) (by simp) (Nat.le_of_ble_eq_true rfl) rfl ?_
  have hc : I (m + 1) 2 = nI (gn g 2) := by rw [hg]; exact hG.n (by decide) (by decide)
  have hcl : gn g 2 ≤ 10 := hG.2.2.2.1
  have lp : ∀ i, i ≤ gn g 2 → bq_W mX12_nextOrder 3 56 0 0 4 [some (.ref m), some (.int (rn (nxt (kk g) f i))), some (.int (nI i))] [] S n I L P (bq_F (some (.int (rn (nxt (kk g) f (gn g 2))))) S n I L P) := by
    refine bq_down (A := fun i => bq_W mX12_nextOrder 3 56 0 0 4 [some (.ref m), some (.int (rn (nxt (kk g) f i))), some (.int (nI i))] [] S n I L P (bq_F (some (.int (rn (nxt (kk g) f (gn g 2))))) S n I L P)) (gn g 2) ?_ ?_
    · refine q_iload_n (pc := 4) dX12_nextOrder_4 rfl rfl ?_
      refine q_aload_n (pc := 5) dX12_nextOrder_5 rfl rfl ?_
      refine q_getP (pc := 6) dX12_nextOrder_6 fX12_9 (Model_sh hm) ⟨by decide, rfl⟩ (Model_lt hm) (Model_p_g hm) ?_
      refine q_iconst (pc := 9) (v := nI 2) dX12_nextOrder_9 (by decide) ?_
      refine q_iald (pc := 10) dX12_nextOrder_10 (oA_sh (Model_s_g hm)) (oA_lt (Model_s_g hm)) rfl (by omega) ?_
      rw [hc]
      refine q_icmp_ge (pc := 11) 57 dX12_nextOrder_11 (by decide) (fun c_11 => ?_) (fun c_11 => absurd (nI_le (Nat.le_refl _) (by omega)) c_11)
      refine q_iload_n (pc := 57) dX12_nextOrder_57 rfl rfl ?_
      exact q_iret (st := []) (pc := 58) dX12_nextOrder_58 rfl ⟨rfl, rfl, rfl, rfl, rfl, rfl⟩
    · intro i hi ih
      have hi10 : i < 10 := by omega
      have hfi := hf i
      have hsi := hsn i hi10
      cases hr : (nxt (kk g) f i) with
      | none =>
        rw [show rn none = (-1) from rfl]
        refine q_iload_n (pc := 4) dX12_nextOrder_4 rfl rfl ?_
        refine q_aload_n (pc := 5) dX12_nextOrder_5 rfl rfl ?_
        refine q_getP (pc := 6) dX12_nextOrder_6 fX12_9 (Model_sh hm) ⟨by decide, rfl⟩ (Model_lt hm) (Model_p_g hm) ?_
        refine q_iconst (pc := 9) (v := nI 2) dX12_nextOrder_9 (by decide) ?_
        refine q_iald (pc := 10) dX12_nextOrder_10 (oA_sh (Model_s_g hm)) (oA_lt (Model_s_g hm)) rfl (by omega) ?_
        rw [hc]
        refine q_icmp_ge (pc := 11) 57 dX12_nextOrder_11 (by decide) (fun c_11 => absurd c_11 (nI_ge hi (by omega))) (fun c_11 => ?_)
        refine q_aload_n (pc := 14) dX12_nextOrder_14 rfl rfl ?_
        refine q_iload_n (pc := 15) dX12_nextOrder_15 rfl rfl ?_
        refine q_callVF (pc := 16) dX12_nextOrder_16 kX12_121 (c_isOpen_in hm hc hcl (o := i) hi) (Model_sh hm) rfl (Model_lt hm) ⟨Nat.le_of_ble_eq_true rfl, Nat.le_of_ble_eq_true rfl⟩ rfl rfl (Nat.le_of_ble_eq_true rfl) ?_
        show bq_W _ _ _ _ _ 19 _ [_] _ _ _ _ _ _
        refine q_if_eq (pc := 19) 49 dX12_nextOrder_19 (by decide) (fun c_19 => ?_) (fun c_19 => ?_)
        · replace c_19 := bq_b0.mp c_19
          rw [hg] at c_19
          have hfn : ¬ f i = true := by rw [hfi, decide_eq_false c_19]; simp
          refine q_iload_n (pc := 49) dX12_nextOrder_49 rfl rfl ?_
          refine q_istore_n (pc := 50) dX12_nextOrder_50 rfl (Nat.le_of_ble_eq_true rfl) rfl ?_
          show bq_W _ _ _ _ _ 51 [_, _, _] _ _ _ _ _ _ _
          refine q_iinc (pc := 51) (v := nI (i + 1)) dX12_nextOrder_51 rfl (bq_inc _) (Nat.le_of_ble_eq_true rfl) rfl ?_
          show bq_W _ _ _ _ _ 54 [_, _, _] _ _ _ _ _ _ _
          refine q_goto (pc := 54) 4 dX12_nextOrder_54 (by decide) ?_
          rw [nx_no hfn, hr] at ih
          exact ih
        · replace c_19 := bq_bn.mp c_19
          rw [hg] at c_19
          refine q_aload_n (pc := 22) dX12_nextOrder_22 rfl rfl ?_
          refine q_getP (pc := 23) dX12_nextOrder_23 fX12_40 (Model_sh hm) ⟨by decide, rfl⟩ (Model_lt hm) (Model_p_wasSeen hm) ?_
          refine q_iload_n (pc := 26) dX12_nextOrder_26 rfl rfl ?_
          refine q_bald (pc := 27) dX12_nextOrder_27 (oZ_sh (Model_s_wasSeen hm)) (oZ_lt (Model_s_wasSeen hm)) rfl hi10 ?_
          refine q_if_ne (pc := 28) 49 dX12_nextOrder_28 (by decide) (fun c_28 => ?_) (fun c_28 => ?_)
          · have hsy : sn i = true := by
              by_cases z : sn i = true
              · exact z
              · rw [hsi, if_neg z] at c_28; exact absurd (by decide) c_28
            have hfn : ¬ f i = true := by rw [hfi, hsy]; simp
            refine q_iload_n (pc := 49) dX12_nextOrder_49 rfl rfl ?_
            refine q_istore_n (pc := 50) dX12_nextOrder_50 rfl (Nat.le_of_ble_eq_true rfl) rfl ?_
            show bq_W _ _ _ _ _ 51 [_, _, _] _ _ _ _ _ _ _
            refine q_iinc (pc := 51) (v := nI (i + 1)) dX12_nextOrder_51 rfl (bq_inc _) (Nat.le_of_ble_eq_true rfl) rfl ?_
            show bq_W _ _ _ _ _ 54 [_, _, _] _ _ _ _ _ _ _
            refine q_goto (pc := 54) 4 dX12_nextOrder_54 (by decide) ?_
            rw [nx_no hfn, hr] at ih
            exact ih
          · have hsy : ¬ sn i = true := fun z => by rw [hsi, if_pos z] at c_28; exact absurd c_28 (by decide)
            have hfy : f i = true := by rw [hfi, decide_eq_true c_19]; simp [hsy]
            refine q_iload_n (pc := 31) dX12_nextOrder_31 rfl rfl ?_
            refine q_iconst (pc := 32) (v := (-1)) dX12_nextOrder_32 (by decide) ?_
            refine q_icmp_eq (pc := 33) 45 dX12_nextOrder_33 (by decide) (fun c_33 => ?_) (fun c_33 => (c_33 rfl).elim)
            refine q_iload_n (pc := 45) dX12_nextOrder_45 rfl rfl ?_
            refine q_goto (pc := 46) 50 dX12_nextOrder_46 (by decide) ?_
            refine q_istore_n (pc := 50) dX12_nextOrder_50 rfl (Nat.le_of_ble_eq_true rfl) rfl ?_
            show bq_W _ _ _ _ _ 51 [_, _, _] _ _ _ _ _ _ _
            refine q_iinc (pc := 51) (v := nI (i + 1)) dX12_nextOrder_51 rfl (bq_inc _) (Nat.le_of_ble_eq_true rfl) rfl ?_
            show bq_W _ _ _ _ _ 54 [_, _, _] _ _ _ _ _ _ _
            refine q_goto (pc := 54) 4 dX12_nextOrder_54 (by decide) ?_
            rw [nx_new hr hfy] at ih
            exact ih
      | some q =>
        have hqi : q < i := ((nxt_ok (kk g) f i).2 q hr).1
        rw [show rn (some q) = nI q from rfl]
        refine q_iload_n (pc := 4) dX12_nextOrder_4 rfl rfl ?_
        refine q_aload_n (pc := 5) dX12_nextOrder_5 rfl rfl ?_
        refine q_getP (pc := 6) dX12_nextOrder_6 fX12_9 (Model_sh hm) ⟨by decide, rfl⟩ (Model_lt hm) (Model_p_g hm) ?_
        refine q_iconst (pc := 9) (v := nI 2) dX12_nextOrder_9 (by decide) ?_
        refine q_iald (pc := 10) dX12_nextOrder_10 (oA_sh (Model_s_g hm)) (oA_lt (Model_s_g hm)) rfl (by omega) ?_
        rw [hc]
        refine q_icmp_ge (pc := 11) 57 dX12_nextOrder_11 (by decide) (fun c_11 => absurd c_11 (nI_ge hi (by omega))) (fun c_11 => ?_)
        refine q_aload_n (pc := 14) dX12_nextOrder_14 rfl rfl ?_
        refine q_iload_n (pc := 15) dX12_nextOrder_15 rfl rfl ?_
        refine q_callVF (pc := 16) dX12_nextOrder_16 kX12_121 (c_isOpen_in hm hc hcl (o := i) hi) (Model_sh hm) rfl (Model_lt hm) ⟨Nat.le_of_ble_eq_true rfl, Nat.le_of_ble_eq_true rfl⟩ rfl rfl (Nat.le_of_ble_eq_true rfl) ?_
        show bq_W _ _ _ _ _ 19 _ [_] _ _ _ _ _ _
        refine q_if_eq (pc := 19) 49 dX12_nextOrder_19 (by decide) (fun c_19 => ?_) (fun c_19 => ?_)
        · replace c_19 := bq_b0.mp c_19
          rw [hg] at c_19
          have hfn : ¬ f i = true := by rw [hfi, decide_eq_false c_19]; simp
          refine q_iload_n (pc := 49) dX12_nextOrder_49 rfl rfl ?_
          refine q_istore_n (pc := 50) dX12_nextOrder_50 rfl (Nat.le_of_ble_eq_true rfl) rfl ?_
          show bq_W _ _ _ _ _ 51 [_, _, _] _ _ _ _ _ _ _
          refine q_iinc (pc := 51) (v := nI (i + 1)) dX12_nextOrder_51 rfl (bq_inc _) (Nat.le_of_ble_eq_true rfl) rfl ?_
          show bq_W _ _ _ _ _ 54 [_, _, _] _ _ _ _ _ _ _
          refine q_goto (pc := 54) 4 dX12_nextOrder_54 (by decide) ?_
          rw [nx_no hfn, hr] at ih
          exact ih
        · replace c_19 := bq_bn.mp c_19
          rw [hg] at c_19
          refine q_aload_n (pc := 22) dX12_nextOrder_22 rfl rfl ?_
          refine q_getP (pc := 23) dX12_nextOrder_23 fX12_40 (Model_sh hm) ⟨by decide, rfl⟩ (Model_lt hm) (Model_p_wasSeen hm) ?_
          refine q_iload_n (pc := 26) dX12_nextOrder_26 rfl rfl ?_
          refine q_bald (pc := 27) dX12_nextOrder_27 (oZ_sh (Model_s_wasSeen hm)) (oZ_lt (Model_s_wasSeen hm)) rfl hi10 ?_
          refine q_if_ne (pc := 28) 49 dX12_nextOrder_28 (by decide) (fun c_28 => ?_) (fun c_28 => ?_)
          · have hsy : sn i = true := by
              by_cases z : sn i = true
              · exact z
              · rw [hsi, if_neg z] at c_28; exact absurd (by decide) c_28
            have hfn : ¬ f i = true := by rw [hfi, hsy]; simp
            refine q_iload_n (pc := 49) dX12_nextOrder_49 rfl rfl ?_
            refine q_istore_n (pc := 50) dX12_nextOrder_50 rfl (Nat.le_of_ble_eq_true rfl) rfl ?_
            show bq_W _ _ _ _ _ 51 [_, _, _] _ _ _ _ _ _ _
            refine q_iinc (pc := 51) (v := nI (i + 1)) dX12_nextOrder_51 rfl (bq_inc _) (Nat.le_of_ble_eq_true rfl) rfl ?_
            show bq_W _ _ _ _ _ 54 [_, _, _] _ _ _ _ _ _ _
            refine q_goto (pc := 54) 4 dX12_nextOrder_54 (by decide) ?_
            rw [nx_no hfn, hr] at ih
            exact ih
          · have hsy : ¬ sn i = true := fun z => by rw [hsi, if_pos z] at c_28; exact absurd c_28 (by decide)
            have hfy : f i = true := by rw [hfi, decide_eq_true c_19]; simp [hsy]
            refine q_iload_n (pc := 31) dX12_nextOrder_31 rfl rfl ?_
            refine q_iconst (pc := 32) (v := (-1)) dX12_nextOrder_32 (by decide) ?_
            refine q_icmp_eq (pc := 33) 45 dX12_nextOrder_33 (by decide) (fun c_33 => (rn_ne (by omega) c_33).elim) (fun c_33 => ?_)
            refine q_aload_n (pc := 36) dX12_nextOrder_36 rfl rfl ?_
            refine q_iload_n (pc := 37) dX12_nextOrder_37 rfl rfl ?_
            refine q_iload_n (pc := 38) dX12_nextOrder_38 rfl rfl ?_
            refine q_callVF (pc := 39) dX12_nextOrder_39 kX12_153 (c_X12_isAhead hm hg hG (a := i) (b := q) hi10 (by omega)) (Model_sh hm) rfl (Model_lt hm) ⟨Nat.le_of_ble_eq_true rfl, Nat.le_of_ble_eq_true rfl⟩ rfl rfl (Nat.le_of_ble_eq_true rfl) ?_
            show bq_W _ _ _ _ _ 42 _ [_] _ _ _ _ _ _
            refine q_if_eq (pc := 42) 49 dX12_nextOrder_42 (by decide) (fun c_42 => ?_) (fun c_42 => ?_)
            · replace c_42 := bq_b0.mp c_42
              have hge : ¬ (f i = true ∧ kk g i < kk g q) := fun z => c_42 z.2
              refine q_iload_n (pc := 49) dX12_nextOrder_49 rfl rfl ?_
              refine q_istore_n (pc := 50) dX12_nextOrder_50 rfl (Nat.le_of_ble_eq_true rfl) rfl ?_
              show bq_W _ _ _ _ _ 51 [_, _, _] _ _ _ _ _ _ _
              refine q_iinc (pc := 51) (v := nI (i + 1)) dX12_nextOrder_51 rfl (bq_inc _) (Nat.le_of_ble_eq_true rfl) rfl ?_
              show bq_W _ _ _ _ _ 54 [_, _, _] _ _ _ _ _ _ _
              refine q_goto (pc := 54) 4 dX12_nextOrder_54 (by decide) ?_
              rw [nx_ge hr hge] at ih
              exact ih
            · replace c_42 := bq_bn.mp c_42
              have hlt := c_42
              refine q_iload_n (pc := 45) dX12_nextOrder_45 rfl rfl ?_
              refine q_goto (pc := 46) 50 dX12_nextOrder_46 (by decide) ?_
              refine q_istore_n (pc := 50) dX12_nextOrder_50 rfl (Nat.le_of_ble_eq_true rfl) rfl ?_
              show bq_W _ _ _ _ _ 51 [_, _, _] _ _ _ _ _ _ _
              refine q_iinc (pc := 51) (v := nI (i + 1)) dX12_nextOrder_51 rfl (bq_inc _) (Nat.le_of_ble_eq_true rfl) rfl ?_
              show bq_W _ _ _ _ _ 54 [_, _, _] _ _ _ _ _ _ _
              refine q_goto (pc := 54) 4 dX12_nextOrder_54 (by decide) ?_
              rw [nx_lt hr hfy hlt] at ih
              exact ih
  refine q_iconst (pc := 0) (v := (-1)) dX12_nextOrder_0 (by decide) ?_
  refine q_istore_n (pc := 1) dX12_nextOrder_1 rfl (Nat.le_of_ble_eq_true rfl) rfl ?_
  show bq_W _ _ _ _ _ 2 [_, _, _] _ _ _ _ _ _ _
  refine q_iconst (pc := 2) (v := nI 0) dX12_nextOrder_2 (by decide) ?_
  refine q_istore_n (pc := 3) dX12_nextOrder_3 rfl (Nat.le_of_ble_eq_true rfl) rfl ?_
  show bq_W _ _ _ _ _ 4 [_, _, _] _ _ _ _ _ _ _
  exact lp 0 (Nat.zero_le _)
set_option maxHeartbeats 1000000 in
set_option maxRecDepth 20000 in
theorem c_X12_looksAtPlan {S : BqH} {n : Nat} {I : BqI} {L : BqL} {P : BqP} {m : Nat} (hm : oModel S n P m) {t : Nat} (ht : t < 6) : bq_Sp mX12_looksAtPlan 1 12 0 0 [.ref m, .int (nI t)] S n I L P (bq_F (none) S n (fl I (m + 6) (fun j => j) (fun j => I (m + 12) (16 * t + j)) 16) L P) := by
  refine q_entry (vs := [some (.ref m), some (.int (nI t)), none]) (by decide +kernel) (by simp) (Nat.le_of_ble_eq_true rfl) rfl ?_
  have lp : ∀ i, i ≤ 16 → bq_W mX12_looksAtPlan 1 12 0 0 2 [some (.ref m), some (.int (nI t)), some (.int (nI i))] [] S n (fl I (m + 6) (fun j => j) (fun j => I (m + 12) (16 * t + j)) i) L P (bq_F (none) S n (fl I (m + 6) (fun j => j) (fun j => I (m + 12) (16 * t + j)) 16) L P) := by
    refine bq_down (A := fun i => bq_W mX12_looksAtPlan 1 12 0 0 2 [some (.ref m), some (.int (nI t)), some (.int (nI i))] [] S n (fl I (m + 6) (fun j => j) (fun j => I (m + 12) (16 * t + j)) i) L P (bq_F (none) S n (fl I (m + 6) (fun j => j) (fun j => I (m + 12) (16 * t + j)) 16) L P)) 16 ?_ ?_
    · refine q_iload_n (pc := 2) dX12_looksAtPlan_2 rfl rfl ?_
      refine q_bipush (pc := 3) (v := nI 16) dX12_looksAtPlan_3 (by decide) ?_
      refine q_icmp_ge (pc := 5) 31 dX12_looksAtPlan_5 (by decide) (fun c_5 => ?_) (fun c_5 => absurd (by decide) c_5)
      exact q_vret (st := []) (pc := 31) dX12_looksAtPlan_31 rfl ⟨rfl, rfl, rfl, rfl, rfl, rfl⟩
    · intro i hi ih
      refine q_iload_n (pc := 2) dX12_looksAtPlan_2 rfl rfl ?_
      refine q_bipush (pc := 3) (v := nI 16) dX12_looksAtPlan_3 (by decide) ?_
      refine q_icmp_ge (pc := 5) 31 dX12_looksAtPlan_5 (by decide) (fun c_5 => absurd c_5 (nI_ge hi (by decide))) (fun c_5 => ?_)
      refine q_aload_n (pc := 8) dX12_looksAtPlan_8 rfl rfl ?_
      refine q_getP (pc := 9) dX12_looksAtPlan_9 fX12_25 (Model_sh hm) ⟨by decide, rfl⟩ (Model_lt hm) (Model_p_there hm) ?_
      refine q_iload_n (pc := 12) dX12_looksAtPlan_12 rfl rfl ?_
      refine q_aload_n (pc := 13) dX12_looksAtPlan_13 rfl rfl ?_
      refine q_getP (pc := 14) dX12_looksAtPlan_14 fX12_44 (Model_sh hm) ⟨by decide, rfl⟩ (Model_lt hm) (Model_p_planned hm) ?_
      refine q_bipush (pc := 17) (v := nI 16) dX12_looksAtPlan_17 (by decide) ?_
      refine q_iload_n (pc := 19) dX12_looksAtPlan_19 rfl rfl ?_
      refine q_imulN (pc := 20) dX12_looksAtPlan_20 ?_
      refine q_iload_n (pc := 21) dX12_looksAtPlan_21 rfl rfl ?_
      refine q_iaddN (pc := 22) dX12_looksAtPlan_22 ?_
      refine q_iald (pc := 23) dX12_looksAtPlan_23 (oA_sh (Model_s_planned hm)) (oA_lt (Model_s_planned hm)) rfl (by omega) ?_
      rw [fl_ne (show m + 12 ≠ m + 6 by omega) i]
      refine q_iast (pc := 24) dX12_looksAtPlan_24 (oA_sh (Model_s_there hm)) (oA_lt (Model_s_there hm)) rfl (by omega) ?_
      refine q_iinc (pc := 25) (v := nI (i + 1)) dX12_looksAtPlan_25 rfl (bq_inc _) (Nat.le_of_ble_eq_true rfl) rfl ?_
      show bq_W _ _ _ _ _ 28 [_, _, _] _ _ _ _ _ _ _
      refine q_goto (pc := 28) 2 dX12_looksAtPlan_28 (by decide) ?_
      exact ih
  refine q_iconst (pc := 0) (v := nI 0) dX12_looksAtPlan_0 (by decide) ?_
  refine q_istore_n (pc := 1) dX12_looksAtPlan_1 rfl (Nat.le_of_ble_eq_true rfl) rfl ?_
  show bq_W _ _ _ _ _ 2 [_, _, _] _ _ _ _ _ _ _
  exact lp 0 (by decide)
set_option maxHeartbeats 3240000 in
set_option maxRecDepth 20000 in
theorem c_X12_tankFor {S : BqH} {n : Nat} {I : BqI} {L : BqL} {P : BqP} {m : Nat} {g : BqG} (hm : oModel S n P m) (hg : I (m + 1) = g) {en : Nat} (hG : GI g en) {o : Nat} {F : Nat → Nat → Nat} (ho : o < 10) (hl1 : 1 ≤ gn g (205 + 9 * o)) (hF : ∀ t, t < 6 → ∀ j, j < 16 → I (m + 12) (16 * t + j) = nI (F t j)) (hb : ∀ t, t < 6 → ns (F t) 16 ≤ 9999) : bq_Sp mX12_tankFor 5 98 0 0 [.ref m, .int (nI o)] S n I L P (qTf m I S n L P (rn (bt g o F 6))) := by
  refine q_entry (vs := [some (.ref m), some (.int (nI o)), none, none, none]) (by decide +kernel) (by simp) (Nat.le_of_ble_eq_true rfl) rfl ?_
  have lp : ∀ i, i ≤ 6 → ∀ J : BqI, (∀ a, a ≠ m + 6 → J a = I a) → bq_W mX12_tankFor 5 98 0 0 7 [some (.ref m), some (.int (nI o)), some (.int (rn (bt g o F i))), some (.int (few F (bt g o F i))), some (.int (nI i))] [] S n J L P (qTf m I S n L P (rn (bt g o F 6))) := by
    refine bq_down (A := fun i => ∀ J : BqI, (∀ a, a ≠ m + 6 → J a = I a) → bq_W mX12_tankFor 5 98 0 0 7 [some (.ref m), some (.int (nI o)), some (.int (rn (bt g o F i))), some (.int (few F (bt g o F i))), some (.int (nI i))] [] S n J L P (qTf m I S n L P (rn (bt g o F 6)))) 6 ?_ ?_
    · intro J hJ
      refine q_iload (pc := 7) dX12_tankFor_7 rfl ?_
      refine q_bipush (pc := 9) (v := nI 6) dX12_tankFor_9 (by decide) ?_
      refine q_icmp_ge (pc := 11) 71 dX12_tankFor_11 (by decide) (fun c_11 => ?_) (fun c_11 => absurd (by decide) c_11)
      refine q_iload_n (pc := 71) dX12_tankFor_71 rfl rfl ?_
      exact q_iret (st := []) (pc := 72) dX12_tankFor_72 rfl ⟨rfl, rfl, rfl, rfl, rfl, hJ⟩
    · intro i hi ih J hJ
      have hsb := hb i hi
      cases hr : (bt g o F i) with
      | none =>
        rw [show rn none = (-1) from rfl]
        refine q_iload (pc := 7) dX12_tankFor_7 rfl ?_
        refine q_bipush (pc := 9) (v := nI 6) dX12_tankFor_9 (by decide) ?_
        refine q_icmp_ge (pc := 11) 71 dX12_tankFor_11 (by decide) (fun c_11 => absurd c_11 (nI_ge hi (by decide))) (fun c_11 => ?_)
        refine q_aload_n (pc := 14) dX12_tankFor_14 rfl rfl ?_
        refine q_iload (pc := 15) dX12_tankFor_15 rfl ?_
        refine q_callVF (pc := 17) dX12_tankFor_17 kX12_157 (c_X12_looksAtPlan hm (t := i) (by omega)) (Model_sh hm) rfl (Model_lt hm) ⟨Nat.le_of_ble_eq_true rfl, Nat.le_of_ble_eq_true rfl⟩ rfl rfl (Nat.le_of_ble_eq_true rfl) ?_
        show bq_W _ _ _ _ _ 20 _ [] _ _ _ _ _ _
        refine q_nameI (fun J2 e2 => ?_)
        have hJ2 : ∀ a, a ≠ m + 6 → J2 a = I a := fun a ha => by rw [e2, fl_ne ha 16]; exact hJ a ha
        have h6 : ∀ j, j < 16 → J2 (m + 6) j = nI (F i j) := fun j hj => by rw [e2]; exact (fl_at (I := J) (d := m + 6) (ix := fun j => j) (v := fun j => J (m + 12) (16 * i + j)) (j := j) 16 (fun a b _ _ h => h) hj).trans (by rw [hJ _ (by omega)]; exact hF i hi j hj)
        have hs2 : bq_sum (J2 (m + 6)) 16 = nI (ns (F i) 16) := bq_sum_n 16 h6
        have hg2 : J2 (m + 1) = g := by rw [hJ2 _ (by omega)]; exact hg
        have hst : bq_str (J2 (m + 6)) (fun b => g (124 + 5 * b)) = bq_str (fun j => nI (F i j)) (fun b => g (124 + 5 * b)) := bq_str_congr h6 (fun _ _ => rfl)
        refine q_aload_n (pc := 20) dX12_tankFor_20 rfl rfl ?_
        refine q_getP (pc := 21) dX12_tankFor_21 fX12_25 (Model_sh hm) ⟨by decide, rfl⟩ (Model_lt hm) (Model_p_there hm) ?_
        refine q_callSF (pc := 24) dX12_tankFor_24 kX12_84 (c_X12_sumOf (Model_s_there hm)) ⟨Nat.le_of_ble_eq_true rfl, Nat.le_of_ble_eq_true rfl⟩ rfl rfl (Nat.le_of_ble_eq_true rfl) ?_
        show bq_W _ _ _ _ _ 27 _ [_] _ _ _ _ _ _
        rw [hs2]
        refine q_if_le (pc := 27) 65 dX12_tankFor_27 (by decide) (fun c_27 => ?_) (fun c_27 => ?_)
        · have hno : ¬ fit g o (F i) = true := fit_1 (by rcases Nat.eq_zero_or_pos (ns (F i) 16) with z | z; omega; exact absurd c_27 (nI_nle z (by omega)))
          refine q_iinc (pc := 65) (v := nI (i + 1)) dX12_tankFor_65 rfl (bq_inc _) (Nat.le_of_ble_eq_true rfl) rfl ?_
          show bq_W _ _ _ _ _ 68 [_, _, _, _, _] _ _ _ _ _ _ _
          refine q_goto (pc := 68) 7 dX12_tankFor_68 (by decide) ?_
          rw [bt_no hno, hr] at ih
          exact ih J2 hJ2
        · have hpos : 0 < ns (F i) 16 := by
            rcases Nat.eq_zero_or_pos (ns (F i) 16) with z | z
            · exact absurd (by rw [z]; decide) c_27
            · exact z
          refine q_aload_n (pc := 30) dX12_tankFor_30 rfl rfl ?_
          refine q_iload_n (pc := 31) dX12_tankFor_31 rfl rfl ?_
          refine q_callVF (pc := 32) dX12_tankFor_32 kX12_146 (c_X12_hinders hm hg2 hG ho h6 hpos hsb) (Model_sh hm) rfl (Model_lt hm) ⟨Nat.le_of_ble_eq_true rfl, Nat.le_of_ble_eq_true rfl⟩ rfl rfl (Nat.le_of_ble_eq_true rfl) ?_
          show bq_W _ _ _ _ _ 35 _ [_] _ _ _ _ _ _
          rw [hst]
          refine q_if_ne (pc := 35) 65 dX12_tankFor_35 (by decide) (fun c_35 => ?_) (fun c_35 => ?_)
          · have hno : ¬ fit g o (F i) = true := fun z => c_35 (hnd_f z)
            refine q_iinc (pc := 65) (v := nI (i + 1)) dX12_tankFor_65 rfl (bq_inc _) (Nat.le_of_ble_eq_true rfl) rfl ?_
            show bq_W _ _ _ _ _ 68 [_, _, _, _, _] _ _ _ _ _ _ _
            refine q_goto (pc := 68) 7 dX12_tankFor_68 (by decide) ?_
            rw [bt_no hno, hr] at ih
            exact ih J2 hJ2
          · have hfit : fit g o (F i) = true := hnd_t c_35
            refine q_iload_n (pc := 38) dX12_tankFor_38 rfl rfl ?_
            refine q_iconst (pc := 39) (v := (-1)) dX12_tankFor_39 (by decide) ?_
            refine q_icmp_eq (pc := 40) 54 dX12_tankFor_40 (by decide) (fun c_40 => ?_) (fun c_40 => (c_40 rfl).elim)
            refine q_iload (pc := 54) dX12_tankFor_54 rfl ?_
            refine q_istore_n (pc := 56) dX12_tankFor_56 rfl (Nat.le_of_ble_eq_true rfl) rfl ?_
            show bq_W _ _ _ _ _ 57 [_, _, _, _, _] _ _ _ _ _ _ _
            refine q_aload_n (pc := 57) dX12_tankFor_57 rfl rfl ?_
            refine q_getP (pc := 58) dX12_tankFor_58 fX12_25 (Model_sh hm) ⟨by decide, rfl⟩ (Model_lt hm) (Model_p_there hm) ?_
            refine q_callSF (pc := 61) dX12_tankFor_61 kX12_84 (c_X12_sumOf (Model_s_there hm)) ⟨Nat.le_of_ble_eq_true rfl, Nat.le_of_ble_eq_true rfl⟩ rfl rfl (Nat.le_of_ble_eq_true rfl) ?_
            show bq_W _ _ _ _ _ 64 _ [_] _ _ _ _ _ _
            rw [hs2]
            refine q_istore_n (pc := 64) dX12_tankFor_64 rfl (Nat.le_of_ble_eq_true rfl) rfl ?_
            show bq_W _ _ _ _ _ 65 [_, _, _, _, _] _ _ _ _ _ _ _
            refine q_iinc (pc := 65) (v := nI (i + 1)) dX12_tankFor_65 rfl (bq_inc _) (Nat.le_of_ble_eq_true rfl) rfl ?_
            show bq_W _ _ _ _ _ 68 [_, _, _, _, _] _ _ _ _ _ _ _
            refine q_goto (pc := 68) 7 dX12_tankFor_68 (by decide) ?_
            rw [bt_new hr hfit] at ih
            exact ih J2 hJ2
      | some q =>
        have hq6 : q < 6 := Nat.lt_trans (bt_ok hr).1 hi
        have hqb := hb q hq6
        rw [show rn (some q) = nI q from rfl, show few F (some q) = nI (ns (F q) 16) from rfl]
        refine q_iload (pc := 7) dX12_tankFor_7 rfl ?_
        refine q_bipush (pc := 9) (v := nI 6) dX12_tankFor_9 (by decide) ?_
        refine q_icmp_ge (pc := 11) 71 dX12_tankFor_11 (by decide) (fun c_11 => absurd c_11 (nI_ge hi (by decide))) (fun c_11 => ?_)
        refine q_aload_n (pc := 14) dX12_tankFor_14 rfl rfl ?_
        refine q_iload (pc := 15) dX12_tankFor_15 rfl ?_
        refine q_callVF (pc := 17) dX12_tankFor_17 kX12_157 (c_X12_looksAtPlan hm (t := i) (by omega)) (Model_sh hm) rfl (Model_lt hm) ⟨Nat.le_of_ble_eq_true rfl, Nat.le_of_ble_eq_true rfl⟩ rfl rfl (Nat.le_of_ble_eq_true rfl) ?_
        show bq_W _ _ _ _ _ 20 _ [] _ _ _ _ _ _
        refine q_nameI (fun J2 e2 => ?_)
        have hJ2 : ∀ a, a ≠ m + 6 → J2 a = I a := fun a ha => by rw [e2, fl_ne ha 16]; exact hJ a ha
        have h6 : ∀ j, j < 16 → J2 (m + 6) j = nI (F i j) := fun j hj => by rw [e2]; exact (fl_at (I := J) (d := m + 6) (ix := fun j => j) (v := fun j => J (m + 12) (16 * i + j)) (j := j) 16 (fun a b _ _ h => h) hj).trans (by rw [hJ _ (by omega)]; exact hF i hi j hj)
        have hs2 : bq_sum (J2 (m + 6)) 16 = nI (ns (F i) 16) := bq_sum_n 16 h6
        have hg2 : J2 (m + 1) = g := by rw [hJ2 _ (by omega)]; exact hg
        have hst : bq_str (J2 (m + 6)) (fun b => g (124 + 5 * b)) = bq_str (fun j => nI (F i j)) (fun b => g (124 + 5 * b)) := bq_str_congr h6 (fun _ _ => rfl)
        refine q_aload_n (pc := 20) dX12_tankFor_20 rfl rfl ?_
        refine q_getP (pc := 21) dX12_tankFor_21 fX12_25 (Model_sh hm) ⟨by decide, rfl⟩ (Model_lt hm) (Model_p_there hm) ?_
        refine q_callSF (pc := 24) dX12_tankFor_24 kX12_84 (c_X12_sumOf (Model_s_there hm)) ⟨Nat.le_of_ble_eq_true rfl, Nat.le_of_ble_eq_true rfl⟩ rfl rfl (Nat.le_of_ble_eq_true rfl) ?_
        show bq_W _ _ _ _ _ 27 _ [_] _ _ _ _ _ _
        rw [hs2]
        refine q_if_le (pc := 27) 65 dX12_tankFor_27 (by decide) (fun c_27 => ?_) (fun c_27 => ?_)
        · have hno : ¬ fit g o (F i) = true := fit_1 (by rcases Nat.eq_zero_or_pos (ns (F i) 16) with z | z; omega; exact absurd c_27 (nI_nle z (by omega)))
          refine q_iinc (pc := 65) (v := nI (i + 1)) dX12_tankFor_65 rfl (bq_inc _) (Nat.le_of_ble_eq_true rfl) rfl ?_
          show bq_W _ _ _ _ _ 68 [_, _, _, _, _] _ _ _ _ _ _ _
          refine q_goto (pc := 68) 7 dX12_tankFor_68 (by decide) ?_
          rw [bt_no hno, hr] at ih
          exact ih J2 hJ2
        · have hpos : 0 < ns (F i) 16 := by
            rcases Nat.eq_zero_or_pos (ns (F i) 16) with z | z
            · exact absurd (by rw [z]; decide) c_27
            · exact z
          refine q_aload_n (pc := 30) dX12_tankFor_30 rfl rfl ?_
          refine q_iload_n (pc := 31) dX12_tankFor_31 rfl rfl ?_
          refine q_callVF (pc := 32) dX12_tankFor_32 kX12_146 (c_X12_hinders hm hg2 hG ho h6 hpos hsb) (Model_sh hm) rfl (Model_lt hm) ⟨Nat.le_of_ble_eq_true rfl, Nat.le_of_ble_eq_true rfl⟩ rfl rfl (Nat.le_of_ble_eq_true rfl) ?_
          show bq_W _ _ _ _ _ 35 _ [_] _ _ _ _ _ _
          rw [hst]
          refine q_if_ne (pc := 35) 65 dX12_tankFor_35 (by decide) (fun c_35 => ?_) (fun c_35 => ?_)
          · have hno : ¬ fit g o (F i) = true := fun z => c_35 (hnd_f z)
            refine q_iinc (pc := 65) (v := nI (i + 1)) dX12_tankFor_65 rfl (bq_inc _) (Nat.le_of_ble_eq_true rfl) rfl ?_
            show bq_W _ _ _ _ _ 68 [_, _, _, _, _] _ _ _ _ _ _ _
            refine q_goto (pc := 68) 7 dX12_tankFor_68 (by decide) ?_
            rw [bt_no hno, hr] at ih
            exact ih J2 hJ2
          · have hfit : fit g o (F i) = true := hnd_t c_35
            refine q_iload_n (pc := 38) dX12_tankFor_38 rfl rfl ?_
            refine q_iconst (pc := 39) (v := (-1)) dX12_tankFor_39 (by decide) ?_
            refine q_icmp_eq (pc := 40) 54 dX12_tankFor_40 (by decide) (fun c_40 => (rn_ne (by omega) c_40).elim) (fun c_40 => ?_)
            refine q_aload_n (pc := 43) dX12_tankFor_43 rfl rfl ?_
            refine q_getP (pc := 44) dX12_tankFor_44 fX12_25 (Model_sh hm) ⟨by decide, rfl⟩ (Model_lt hm) (Model_p_there hm) ?_
            refine q_callSF (pc := 47) dX12_tankFor_47 kX12_84 (c_X12_sumOf (Model_s_there hm)) ⟨Nat.le_of_ble_eq_true rfl, Nat.le_of_ble_eq_true rfl⟩ rfl rfl (Nat.le_of_ble_eq_true rfl) ?_
            show bq_W _ _ _ _ _ 50 _ [_] _ _ _ _ _ _
            rw [hs2]
            refine q_iload_n (pc := 50) dX12_tankFor_50 rfl rfl ?_
            refine q_icmp_ge (pc := 51) 65 dX12_tankFor_51 (by decide) (fun c_51 => ?_) (fun c_51 => ?_)
            · have hge : ¬ ns (F i) 16 < ns (F q) 16 := fun z => nI_ge z (by omega) c_51
              refine q_iinc (pc := 65) (v := nI (i + 1)) dX12_tankFor_65 rfl (bq_inc _) (Nat.le_of_ble_eq_true rfl) rfl ?_
              show bq_W _ _ _ _ _ 68 [_, _, _, _, _] _ _ _ _ _ _ _
              refine q_goto (pc := 68) 7 dX12_tankFor_68 (by decide) ?_
              rw [bt_ge hr hfit hge] at ih
              exact ih J2 hJ2
            · have hlt : ns (F i) 16 < ns (F q) 16 := Nat.lt_of_not_le (fun z => c_51 (nI_le z (by omega)))
              refine q_iload (pc := 54) dX12_tankFor_54 rfl ?_
              refine q_istore_n (pc := 56) dX12_tankFor_56 rfl (Nat.le_of_ble_eq_true rfl) rfl ?_
              show bq_W _ _ _ _ _ 57 [_, _, _, _, _] _ _ _ _ _ _ _
              refine q_aload_n (pc := 57) dX12_tankFor_57 rfl rfl ?_
              refine q_getP (pc := 58) dX12_tankFor_58 fX12_25 (Model_sh hm) ⟨by decide, rfl⟩ (Model_lt hm) (Model_p_there hm) ?_
              refine q_callSF (pc := 61) dX12_tankFor_61 kX12_84 (c_X12_sumOf (Model_s_there hm)) ⟨Nat.le_of_ble_eq_true rfl, Nat.le_of_ble_eq_true rfl⟩ rfl rfl (Nat.le_of_ble_eq_true rfl) ?_
              show bq_W _ _ _ _ _ 64 _ [_] _ _ _ _ _ _
              rw [hs2]
              refine q_istore_n (pc := 64) dX12_tankFor_64 rfl (Nat.le_of_ble_eq_true rfl) rfl ?_
              show bq_W _ _ _ _ _ 65 [_, _, _, _, _] _ _ _ _ _ _ _
              refine q_iinc (pc := 65) (v := nI (i + 1)) dX12_tankFor_65 rfl (bq_inc _) (Nat.le_of_ble_eq_true rfl) rfl ?_
              show bq_W _ _ _ _ _ 68 [_, _, _, _, _] _ _ _ _ _ _ _
              refine q_goto (pc := 68) 7 dX12_tankFor_68 (by decide) ?_
              rw [bt_lt hr hfit hlt] at ih
              exact ih J2 hJ2
  refine q_iconst (pc := 0) (v := (-1)) dX12_tankFor_0 (by decide) ?_
  refine q_istore_n (pc := 1) dX12_tankFor_1 rfl (Nat.le_of_ble_eq_true rfl) rfl ?_
  show bq_W _ _ _ _ _ 2 [_, _, _, _, _] _ _ _ _ _ _ _
  refine q_iconst (pc := 2) (v := nI 0) dX12_tankFor_2 (by decide) ?_
  refine q_istore_n (pc := 3) dX12_tankFor_3 rfl (Nat.le_of_ble_eq_true rfl) rfl ?_
  show bq_W _ _ _ _ _ 4 [_, _, _, _, _] _ _ _ _ _ _ _
  refine q_iconst (pc := 4) (v := nI 0) dX12_tankFor_4 (by decide) ?_
  refine q_istore (pc := 5) dX12_tankFor_5 (Nat.le_of_ble_eq_true rfl) rfl ?_
  show bq_W _ _ _ _ _ 7 [_, _, _, _, _] _ _ _ _ _ _ _
  exact lp 0 (by decide) I (fun _ _ => rfl)
/-! portions of alike rows -/
theorem nam_congr {R R' : Nat → Nat} : ∀ i, (∀ j, j < i → R j = R' j) → nam R i = nam R' i
  | 0, _ => rfl
  | i + 1, h => by
    have ih := nam_congr (R := R) (R' := R') i (fun j hj => h j (by omega))
    have hle := nam_le R' i
    show (if R i ≤ R (nam R i) then nam R i else i) = (if R' i ≤ R' (nam R' i) then nam R' i else i)
    rw [ih, h i (by omega), h (nam R' i) (by omega)]
theorem npit_congr : ∀ (k : Nat) (X Y : (Nat → Nat) × (Nat → Nat)), (∀ j, j < 16 → X.1 j = Y.1 j) → (∀ j, j < 16 → X.2 j = Y.2 j) → ∀ j, j < 16 → (npit k X).1 j = (npit k Y).1 j
  | 0, X, Y, h1, _, j, hj => h1 j hj
  | k + 1, X, Y, h1, h2, j, hj => by
    have e : nam X.2 16 = nam Y.2 16 := nam_congr 16 h2
    have hc : nam Y.2 16 < 16 := nam_lt Y.2 15
    refine npit_congr k (npo X) (npo Y) (fun i hi => ?_) (fun i hi => ?_) j hj
    · show bq_r X.1 _ _ i = bq_r Y.1 _ _ i
      rw [e]
      by_cases c : i = nam Y.2 16
      · subst c; rw [bq_r_self, bq_r_self, h1 _ hc]
      · rw [bq_r_ne c, bq_r_ne c, h1 i hi]
    · show bq_r X.2 _ _ i = bq_r Y.2 _ _ i
      rw [e]
      by_cases c : i = nam Y.2 16
      · subst c; rw [bq_r_self, bq_r_self]
      · rw [bq_r_ne c, bq_r_ne c, h2 i hi]
theorem npt_congr {F G : Nat → Nat} {l : Nat} (h : ∀ j, j < 16 → F j = G j) : ∀ j, j < 16 → npt F l j = npt G l j := by
  have es : ns F 16 = ns G 16 := ns_congr 16 h
  have eq : ∀ j, j < 16 → nqq F l j = nqq G l j := fun j hj => by unfold nqq; rw [h j hj, es]
  have er : ∀ j, j < 16 → nrr F l j = nrr G l j := fun j hj => by unfold nrr; rw [h j hj, es]
  intro j hj
  unfold npt
  rw [ns_congr 16 eq]
  exact npit_congr _ _ _ eq er j hj
/-! the fillings of a plan, one after the other -/
theorem x_fill_p {g : BqG} {t o l k : Nat} (hk : k < 124) (h5 : k ≠ 5) (ho : o < 10) : x_fill g t o l k = g_out g t (tk g t l) k := by
  rw [show x_fill g t o l k = x_fill3 g t o l k from g_note_ne (by omega) h5]
  unfold x_fill3 x_fill2 x_fill1 x_fill0
  rw [bq_r_ne (by omega), bq_r_ne (by omega), bq_r_ne (by omega), bq_r_ne (by omega), bq_r_ne (by omega), g_badd_ne (Or.inl hk)]
def gfl (g : BqG) (O T : Nat → Nat) : Nat → BqG
  | 0 => g
  | j + 1 => x_fill (gfl g O T j) (T j) (O j) (gn g (205 + 9 * O j))
theorem pln_stab {g : BqG} {Q : Nat → Nat} (k : Nat) : ∀ d, (pln g Q k).2.1 ≤ (pln g Q (k + d)).2.1 ∧ ∀ j, j < (pln g Q k).2.1 → (pln g Q (k + d)).2.2.1 j = (pln g Q k).2.2.1 j ∧ (pln g Q (k + d)).2.2.2 j = (pln g Q k).2.2.2 j
  | 0 => ⟨Nat.le_refl _, fun _ _ => ⟨rfl, rfl⟩⟩
  | d + 1 => by
    obtain ⟨h1, h2⟩ := pln_stab (g := g) (Q := Q) k d
    show (pln g Q k).2.1 ≤ (pst g (pln g Q (k + d)) (Q (k + d))).2.1 ∧ ∀ j, j < (pln g Q k).2.1 → (pst g (pln g Q (k + d)) (Q (k + d))).2.2.1 j = _ ∧ (pst g (pln g Q (k + d)) (Q (k + d))).2.2.2 j = _
    unfold pst
    cases bt g (Q (k + d)) (pln g Q (k + d)).1 6 with
    | none => exact ⟨h1, h2⟩
    | some t =>
      refine ⟨Nat.le_succ_of_le h1, fun j hj => ?_⟩
      show bq_r _ _ _ j = _ ∧ bq_r _ _ _ j = _
      rw [bq_r_ne (by omega), bq_r_ne (by omega)]
      exact h2 j hj
/-- filling j of the plan goes through -/
def Vd (g : BqG) (O T : Nat → Nat) (j : Nat) : Prop := T j < 6 ∧ O j < gn g 2 ∧ gn g (205 + 9 * O j) ≤ gt (gfl g O T j) (T j) ∧ gn (gfl g O T j) (205 + 9 * O j) = gn g (205 + 9 * O j) ∧ gn (gfl g O T j) 2 = gn g 2 ∧ w_fill (gfl g O T j) (nI (T j)) (nI (O j)) = (fd (gfl g O T j) (T j) (O j) (gn g (205 + 9 * O j)), gfl g O T (j + 1))
theorem fills_ok {g : BqG} {en n : Nat} {Q : Nat → Nat} (hK : GK g en) (hen : en + 10 < 200000) (hQ : Qok (kk g) (fun o => decide (g (208 + 9 * o) = 0)) (gn g 2) Q n) : ∀ k, k ≤ n → GK (gfl g (pln g Q n).2.2.1 (pln g Q n).2.2.2 (pln g Q k).2.1) (en + (pln g Q k).2.1) ∧ (∀ t, t < 6 → ∀ b, b < 16 → gp (gfl g (pln g Q n).2.2.1 (pln g Q n).2.2.2 (pln g Q k).2.1) t b = (pln g Q k).1 t b) ∧ (∀ q, q < 330 → (q < 10 ∧ q ≠ 5) ∨ (124 ≤ q ∧ q < 204 ∧ (q - 124) % 5 ≠ 2) ∨ (204 ≤ q ∧ (q - 204) % 9 < 4 ∧ q < 294) → gfl g (pln g Q n).2.2.1 (pln g Q n).2.2.2 (pln g Q k).2.1 q = g q) ∧ (∀ o, o < 10 → (∀ i, i < k → Q i ≠ o) → gfl g (pln g Q n).2.2.1 (pln g Q n).2.2.2 (pln g Q k).2.1 (208 + 9 * o) = g (208 + 9 * o)) ∧ (pln g Q k).2.1 ≤ k ∧ ∀ j, j < (pln g Q k).2.1 → Vd g (pln g Q n).2.2.1 (pln g Q n).2.2.2 j
  | 0, _ => ⟨hK, fun _ _ _ _ => rfl, fun _ _ _ => rfl, fun _ _ _ => rfl, Nat.le_refl _, fun j hj => absurd hj (Nat.not_lt_zero _)⟩
  | k + 1, hk => by
    obtain ⟨hG, hp, hq, ho, hck, hV⟩ := fills_ok hK hen hQ k (by omega)
    have hc2 : gn g 2 ≤ 10 := hK.2.1.1.2.2.1
    have hst := pln_stab (g := g) (Q := Q) (k + 1) (n - (k + 1))
    rw [show k + 1 + (n - (k + 1)) = n by omega] at hst
    generalize hO : (pln g Q n).2.2.1 = O at *
    generalize hT : (pln g Q n).2.2.2 = T at *
    have hQk := hQ.2.1 k (by omega)
    have hnl : n ≤ gn g 2 := hQ.2.2.2
    have e1 : pln g Q (k + 1) = pst g (pln g Q k) (Q k) := rfl
    cases hb : bt g (Q k) (pln g Q k).1 6 with
    | none =>
      have e2 : pln g Q (k + 1) = pln g Q k := by rw [e1]; unfold pst; rw [hb]
      rw [e2]
      exact ⟨hG, hp, hq, fun o h1 h2 => ho o h1 (fun i hi => h2 i (by omega)), by omega, hV⟩
    | some t =>
      obtain ⟨ht, hfit⟩ := bt_ok hb
      obtain ⟨f1, f2, f3⟩ := fit_d hfit
      have e2 : pln g Q (k + 1) = (bq_r (pln g Q k).1 t (fun b => (pln g Q k).1 t b - npt ((pln g Q k).1 t) (gn g (205 + 9 * Q k)) b), (pln g Q k).2.1 + 1, bq_r (pln g Q k).2.2.1 (pln g Q k).2.1 (Q k), bq_r (pln g Q k).2.2.2 (pln g Q k).2.1 t) := by rw [e1]; unfold pst; rw [hb]
      have hs := hst.2 (pln g Q k).2.1 (by rw [e2]; exact Nat.lt_succ_self _)
      rw [e2] at hs
      have hOc : O (pln g Q k).2.1 = Q k := by rw [hs.1]; exact bq_r_self
      have hTc : T (pln g Q k).2.1 = t := by rw [hs.2]; exact bq_r_self
      rw [e2]
      show GK (gfl g O T ((pln g Q k).2.1 + 1)) (en + ((pln g Q k).2.1 + 1)) ∧ (∀ t', t' < 6 → ∀ b, b < 16 → gp (gfl g O T ((pln g Q k).2.1 + 1)) t' b = bq_r (pln g Q k).1 t _ t' b) ∧ (∀ q, q < 330 → _ → gfl g O T ((pln g Q k).2.1 + 1) q = g q) ∧ (∀ o, o < 10 → (∀ i, i < k + 1 → Q i ≠ o) → gfl g O T ((pln g Q k).2.1 + 1) (208 + 9 * o) = g (208 + 9 * o)) ∧ (pln g Q k).2.1 + 1 ≤ k + 1 ∧ ∀ j, j < (pln g Q k).2.1 + 1 → Vd g O T j
      generalize (pln g Q k).2.1 = c at *
      generalize hFF : (pln g Q k).1 = F at *
      generalize hGG : gfl g O T c = G at *
      have hGi := hG.gi
      have hQ10 : Q k < 10 := by have := hQk.1; omega
      have e205 : gn G (205 + 9 * Q k) = gn g (205 + 9 * Q k) := by unfold gn; rw [hq _ (by omega) (by omega)]
      have e2c : gn G 2 = gn g 2 := by unfold gn; rw [hq 2 (by omega) (by omega)]
      have hl1 : 1 ≤ gn g (205 + 9 * Q k) := (hK.gi.o hQ10).2.1 hQk.1
      have hgp : gt G t = ns (F t) 16 := ns_congr 16 (fun j hj => hp t ht j hj)
      have hge : gn g (205 + 9 * Q k) ≤ gt G t := by rw [hgp]; exact f1
      have hpos : 0 < gt G t := by omega
      have hph : gn G (11 + 19 * t) = 1 := (hGi.t ht).2.2.2.2.2.mpr hpos
      have hst : g_str G t = bq_str (fun j => nI (F t j)) (fun b => g (124 + 5 * b)) := bq_str_congr (fun j hj => by rw [hGi.p ht j hj, hp t ht j hj]) (fun j hj => hq _ (by omega) (by omega))
      have hop : gn G (208 + 9 * Q k) = 0 := by
        have h0 : g (208 + 9 * Q k) = 0 := of_decide_eq_true hQk.2
        have h1 : G (208 + 9 * Q k) = g (208 + 9 * Q k) := ho (Q k) hQ10 (fun i hi e => by have := hQ.1 i k hi (by omega); rw [e] at this; omega)
        unfold gn
        rw [h1, h0]
        decide
      have hnext : gfl g O T (c + 1) = x_fill G t (Q k) (gn g (205 + 9 * Q k)) := by
        show x_fill (gfl g O T c) (T c) (O c) (gn g (205 + 9 * O c)) = _
        rw [hGG, hOc, hTc]
      have hW : w_fill G (nI t) (nI (Q k)) = (fd G t (Q k) (gn g (205 + 9 * Q k)), x_fill G t (Q k) (gn g (205 + 9 * Q k))) := by
        rw [w_fill_n hGi ht (by rw [e2c]; exact hQk.1)]
        unfold n_fill
        rw [if_neg (not_not_intro hop), if_neg (not_not_intro hph), e205, if_neg (Nat.not_lt.mpr hge), if_neg (not_not_intro ?_)]
        rw [hst, hq (206 + 9 * Q k) (by omega) (by omega), hq (207 + 9 * Q k) (by omega) (by omega)]
        exact ⟨f2, f3⟩
      rw [hnext]
      refine ⟨?_, fun t' ht' b hb => ?_, fun q h1 h2 => ?_, fun o h1 h2 => ?_, by omega, fun j hj => ?_⟩
      · have := gk_fill hG (by omega) ht (o := Q k) (by rw [e2c]; exact hQk.1) (by rw [e205]; exact hge) hph
        rw [e205] at this
        exact this
      · have hle := (npt_in (F := gp G t) (l := gn g (205 + 9 * Q k)) hge hpos).1
        unfold gp gn
        rw [x_fill_p (by omega) (by omega) hQ10]
        by_cases c1 : t' = t
        · subst c1
          rw [bq_r_self, g_out_p hb, hGi.p ht' b hb]
          have e3 : npt (gp G t') (gn g (205 + 9 * Q k)) b = npt (F t') (gn g (205 + 9 * Q k)) b := npt_congr (fun j hj => hp t' ht' j hj) b hb
          show (nI (gp G t' b) - nI (npt (gp G t') _ b)).toNatClampNeg = _
          have hbl : gp G t' b ≤ 9999 := Nat.le_trans (ns_ge (F := gp G t') 16 hb) (by have h5 := (hGi.t ht').2.2.2.2.1; have h6 := (hGi.t ht').2.1; show gt G t' ≤ 9999; omega)
          rw [pk_sub (hle b hb).2.1, nI_clamp (by omega), e3, hp t' ht' b hb]
        · rw [bq_r_ne c1, g_out_ne (by omega) (by omega)]
          exact hp t' ht' b hb
      · by_cases c5 : q < 10
        · rw [x_fill_n ht (by omega) (by omega), x_fill3_n ht (by omega) (by omega)]; exact hq q h1 h2
        · rw [x_fill_n ht (by omega) (by omega), x_fill3_n ht (by omega) (by omega)]; exact hq q h1 h2
      · have hne : Q k ≠ o := h2 k (by omega)
        rw [x_fill_n ht (by omega) (by omega), x_fill3_n ht (by omega) (by omega)]
        exact ho o h1 (fun i hi => h2 i (by omega))
      · by_cases e : j = c
        · subst e
          unfold Vd
          rw [hGG, hOc, hTc, hnext]
          exact ⟨ht, hQk.1, hge, e205, e2c, hW⟩
        · exact hV j (by omega)
/-! the class's plan is reckoned -/
def qRk (x : Nat) (g : BqG) (I : BqI) (S : BqH) (n : Nat) (L : BqL) (P : BqP) : BqQ := fun r S' n' I' L' P' => r = none ∧ S' = S ∧ n' = n ∧ L' = L ∧ P' = P ∧ (∀ a, a < x + 131 ∨ x + 152 ≤ a → I' a = I a) ∧ I' (x + 131) 0 = nI (plan g).2.1 ∧ ∀ j, j < (plan g).2.1 → I' (x + 131 + 1) j = nI ((plan g).2.2.1 j) ∧ I' (x + 131 + 2) j = nI ((plan g).2.2.2 j)
/-- while the tanks are copied -/
def LI (x : Nat) (g : BqG) (_ I1 J : BqI) (i : Nat) : Prop := (∀ a, a < x + 131 + 9 ∨ x + 152 ≤ a → J a = I1 a) ∧ ∀ t, t < i → ∀ j, j < 16 → J (x + 131 + 9 + 2 * t + 1) j = nI (gp g t j)
/-- after k orders of the queue -/
def MI (x : Nat) (g : BqG) (I J : BqI) (k : Nat) : Prop := (∀ a, a < x + 131 ∨ x + 152 ≤ a → J a = I a) ∧ J (x + 131) 0 = nI (pln g (qg g).1 k).2.1 ∧ J (x + 131) 3 = nI (qg g).2 ∧ (∀ j, j < (qg g).2 → J (x + 131 + 3) j = nI ((qg g).1 j)) ∧ (∀ t, t < 6 → ∀ j, j < 16 → J (x + 131 + 9 + 2 * t + 1) j = nI ((pln g (qg g).1 k).1 t j)) ∧ ∀ j, j < (pln g (qg g).1 k).2.1 → J (x + 131 + 1) j = nI ((pln g (qg g).1 k).2.2.1 j) ∧ J (x + 131 + 2) j = nI ((pln g (qg g).1 k).2.2.2 j)
theorem LI.start {x : Nat} {g : BqG} {I I1 : BqI} : LI x g I I1 I1 0 := ⟨fun _ _ => rfl, fun _ h => absurd h (Nat.not_lt_zero _)⟩
theorem bq_cp_at {I : BqI} {s d k j : Nat} (h : j < k) : bq_cp I s d k d j = I s j := by
  unfold bq_cp; rw [bq_r_self]; exact if_pos h
theorem bq_cp_ne {I : BqI} {s d k a : Nat} (h : a ≠ d) : bq_cp I s d k a = I a := by
  unfold bq_cp; exact bq_r_ne h
theorem LI.step {x i en : Nat} {g : BqG} {I I1 J : BqI} (h : LI x g I I1 J i) (hC : CSI I (x + 1) g) (hG : GI g en) (hQ : QI x g I I1 (qg g).1 (qg g).2) (hi : i < 6) : LI x g I I1 (bq_cp J (x + 1 + 15 + 3 * i + 1 + 1) (x + 131 + 9 + 2 * i + 1) 16) (i + 1) := by
  refine ⟨fun a ha => ?_, fun t ht j hj => ?_⟩
  · rw [bq_cp_ne (by omega)]; exact h.1 a ha
  · by_cases c : t = i
    · subst c
      rw [bq_cp_at hj, h.1 _ (by omega), hQ.1 _ (by omega) (by omega)]
      exact hC.pn hG hi j hj
    · rw [bq_cp_ne (by omega)]; exact h.2 t (by omega) j hj
theorem LI.start2 {x : Nat} {g : BqG} {I I1 J : BqI} (h : LI x g I I1 J 6) (hQ : QI x g I I1 (qg g).1 (qg g).2) : MI x g I (bq_u J (x + 131) 0 (nI 0)) 0 := by
  refine ⟨fun a ha => ?_, bq_u_at _ _ _ _, ?_, fun j hj => ?_, fun t ht j hj => ?_, fun j hj => absurd hj (Nat.not_lt_zero _)⟩
  · rw [bq_u_ne (by omega), h.1 a (by omega)]; exact hQ.1 a (by omega) (by omega)
  · rw [bq_u_no (by omega), h.1 _ (by omega)]; exact hQ.2.1
  · rw [bq_u_ne (by omega), h.1 _ (by omega)]; exact hQ.2.2.1 j hj
  · rw [bq_u_ne (by omega)]; exact h.2 t ht j hj
theorem pst_n {g : BqG} {k : Nat} (hb : bt g ((qg g).1 k) (pln g (qg g).1 k).1 6 = none) : pln g (qg g).1 (k + 1) = pln g (qg g).1 k := by
  show pst g (pln g (qg g).1 k) ((qg g).1 k) = _
  unfold pst; rw [hb]
theorem pst_s {g : BqG} {k t : Nat} (hb : bt g ((qg g).1 k) (pln g (qg g).1 k).1 6 = some t) : pln g (qg g).1 (k + 1) = (bq_r (pln g (qg g).1 k).1 t (fun b => (pln g (qg g).1 k).1 t b - npt ((pln g (qg g).1 k).1 t) (gn g (205 + 9 * (qg g).1 k)) b), (pln g (qg g).1 k).2.1 + 1, bq_r (pln g (qg g).1 k).2.2.1 (pln g (qg g).1 k).2.1 ((qg g).1 k), bq_r (pln g (qg g).1 k).2.2.2 (pln g (qg g).1 k).2.1 t) := by
  show pst g (pln g (qg g).1 k) ((qg g).1 k) = _
  unfold pst; rw [hb]
/-- an order's portion is taken out of what is left -/
def MR (x : Nat) (g : BqG) (_ J I3 : BqI) (k t : Nat) : Prop := (∀ a, a < x + 131 + 5 ∨ x + 152 ≤ a → I3 a = J a) ∧ I3 (x + 131) 0 = J (x + 131) 0 ∧ I3 (x + 131) 3 = J (x + 131) 3 ∧ I3 (x + 131 + 3) = J (x + 131 + 3) ∧ ∀ t', t' < 6 → ∀ j, j < 16 → I3 (x + 131 + 9 + 2 * t' + 1) j = nI (bq_r (pln g (qg g).1 k).1 t (fun b => (pln g (qg g).1 k).1 t b - npt ((pln g (qg g).1 k).1 t) (gn g (205 + 9 * (qg g).1 k)) b) t' j)
theorem MR.mk {x k t : Nat} {g : BqG} {I J I2 I3 : BqI} (hJ : MI x g I J k) (ht : t < 6) (g2 : ∀ a, a ≠ x + 131 + 5 + 1 + 1 → a ≠ x + 131 + 5 + 3 → I2 a = J a) (t2 : ∀ j, j < 16 → I2 (x + 131 + 5 + 1 + 1) j = nI (npt ((pln g (qg g).1 k).1 t) (gn g (205 + 9 * (qg g).1 k)) j)) (e3 : I3 = bl_rem I2 (x + 131 + 9 + 2 * t + 1) (x + 131 + 5 + 1 + 1) 16) (hle : ∀ j, j < 16 → nqq ((pln g (qg g).1 k).1 t) (gn g (205 + 9 * (qg g).1 k)) j ≤ npt ((pln g (qg g).1 k).1 t) (gn g (205 + 9 * (qg g).1 k)) j ∧ npt ((pln g (qg g).1 k).1 t) (gn g (205 + 9 * (qg g).1 k)) j ≤ (pln g (qg g).1 k).1 t j ∧ npt ((pln g (qg g).1 k).1 t) (gn g (205 + 9 * (qg g).1 k)) j ≤ nqq ((pln g (qg g).1 k).1 t) (gn g (205 + 9 * (qg g).1 k)) j + 1) : MR x g I J I3 k t := by
  obtain ⟨r1, r2⟩ := bl_rem_at (I := I2) (d := x + 131 + 9 + 2 * t + 1) (s := x + 131 + 5 + 1 + 1) (by omega) 16
  have e : ∀ a, a ≠ x + 131 + 9 + 2 * t + 1 → a ≠ x + 131 + 5 + 1 + 1 → a ≠ x + 131 + 5 + 3 → I3 a = J a := fun a h1 h2 h3 => by rw [e3, r1 a h1, g2 a h2 h3]
  refine ⟨fun a ha => e a (by omega) (by omega) (by omega), congrFun (e _ (by omega) (by omega) (by omega)) 0, congrFun (e _ (by omega) (by omega) (by omega)) 3, e _ (by omega) (by omega) (by omega), fun t' ht' j hj => ?_⟩
  by_cases c : t' = t
  · subst c
    rw [bq_r_self, e3, r2 j, if_pos hj, g2 _ (by omega) (by omega), t2 j hj, hJ.2.2.2.2.1 t' ht' j hj, pk_sub (hle j hj).2.1]
  · rw [bq_r_ne c, e _ (by omega) (by omega) (by omega)]; exact hJ.2.2.2.2.1 t' ht' j hj
theorem MR.next {x k t : Nat} {g : BqG} {I J I3 : BqI} (h : MR x g I J I3 k t) (hJ : MI x g I J k) (hb : bt g ((qg g).1 k) (pln g (qg g).1 k).1 6 = some t) (_ : (pln g (qg g).1 k).2.1 < 10) : MI x g I (bq_u (bq_u (bq_u I3 (x + 131 + 1) (pln g (qg g).1 k).2.1 (nI ((qg g).1 k))) (x + 131 + 2) (pln g (qg g).1 k).2.1 (nI t)) (x + 131) 0 (nI ((pln g (qg g).1 k).2.1 + 1))) (k + 1) := by
  unfold MI
  rw [pst_s hb]
  refine ⟨fun a ha => ?_, bq_u_at _ _ _ _, ?_, fun j hj => ?_, fun t' ht' j hj => ?_, fun j hj => ?_⟩
  · rw [bq_u_ne (by omega), bq_u_ne (by omega), bq_u_ne (by omega), h.1 a (by omega)]; exact hJ.1 a ha
  · rw [bq_u_no (by omega), bq_u_ne (by omega), bq_u_ne (by omega), h.2.2.1]; exact hJ.2.2.1
  · rw [bq_u_ne (by omega), bq_u_ne (by omega), bq_u_ne (by omega), h.2.2.2.1]; exact hJ.2.2.2.1 j hj
  · rw [bq_u_ne (by omega), bq_u_ne (by omega), bq_u_ne (by omega)]; exact h.2.2.2.2 t' ht' j hj
  · have hj : j < (pln g (qg g).1 k).2.1 + 1 := hj
    show _ = nI (bq_r (pln g (qg g).1 k).2.2.1 (pln g (qg g).1 k).2.1 ((qg g).1 k) j) ∧ _ = nI (bq_r (pln g (qg g).1 k).2.2.2 (pln g (qg g).1 k).2.1 t j)
    rw [bq_u_ne (show x + 131 + 1 ≠ x + 131 by omega), bq_u_ne (show x + 131 + 1 ≠ x + 131 + 2 by omega), bq_u_ne (show x + 131 + 2 ≠ x + 131 by omega)]
    by_cases c : j = (pln g (qg g).1 k).2.1
    · subst c; rw [bq_r_self, bq_r_self]; exact ⟨bq_u_at _ _ _ _, bq_u_at _ _ _ _⟩
    · rw [bq_r_ne c, bq_r_ne c, bq_u_no (by omega), bq_u_no (by omega), bq_u_ne (by omega), h.1 _ (by omega), h.1 _ (by omega)]
      exact hJ.2.2.2.2.2 j (by omega)
set_option maxHeartbeats 3740000 in
set_option maxRecDepth 20000 in
theorem c_reckon {S : BqH} {n : Nat} {I : BqI} {L : BqL} {P : BqP} {x : Nat} {g : BqG} {en : Nat} (hx : oX S n P x) (hC : CSI I (x + 1) g) (hG : GI g en) : bq_Sp mX5_reckon 4 84 0 0 [.ref (x + 131), .ref (x + 1)] S n I L P (qRk x g I S n L P) := by
  refine q_entry (vs := [some (.ref (x + 131)), some (.ref (x + 1)), none, none, none]) (by decide +kernel) (by simp) (Nat.le_of_ble_eq_true rfl) rfl ?_
  have hqk := qq_ok (kk g) (fun o => decide (g (208 + 9 * o) = 0)) (gn g 2)
  have hc2 : gn g 2 ≤ 10 := hG.2.2.2.1
  have hnl : (qg g).2 ≤ gn g 2 := hqk.2.2.2
  have hQl : ∀ j, j < (qg g).2 → (qg g).1 j < gn g 2 := fun j hj => (hqk.2.1 j hj).1
  have hP := pln_ok hG (qg g).1 (qg g).2 (gn g 2) hQl hc2 (fun j hj => (hG.o (o := (qg g).1 j) (by have := hQl j hj; omega)).2.1 (hQl j hj))
  have l2 : ∀ k, k ≤ (qg g).2 → ∀ (J : BqI) (v3 v4 : Option Value), MI x g I J k → bq_W mX5_reckon 4 84 0 0 44 [some (.ref (x + 131)), some (.ref (x + 1)), some (.int (nI k)), v3, v4] [] S n J L P (qRk x g I S n L P) := by
    refine bq_down (A := fun k => ∀ (J : BqI) (v3 v4 : Option Value), MI x g I J k → bq_W mX5_reckon 4 84 0 0 44 [some (.ref (x + 131)), some (.ref (x + 1)), some (.int (nI k)), v3, v4] [] S n J L P (qRk x g I S n L P)) (qg g).2 ?_ ?_
    · intro J v3 v4 hJ
      refine q_iload_n (pc := 44) dX5_reckon_44 rfl rfl ?_
      refine q_aload_n (pc := 45) dX5_reckon_45 rfl rfl ?_
      refine q_getI (pc := 46) dX5_reckon_46 fX5_22 (Plan_sh (Cellar_s_plan hx)) ⟨by decide, rfl⟩ (Plan_lt (Cellar_s_plan hx)) ?_
      rw [hJ.2.2.1]
      refine q_icmp_ge (pc := 49) 157 dX5_reckon_49 (by decide) (fun c_49 => ?_) (fun c_49 => absurd (nI_le (Nat.le_refl _) (by omega)) c_49)
      exact q_vret (st := []) (pc := 157) dX5_reckon_157 rfl ⟨rfl, rfl, rfl, rfl, rfl, hJ.1, hJ.2.1, hJ.2.2.2.2.2⟩
    · intro k hk ih J v3 v4 hJ
      have hQ10 : (qg g).1 k < 10 := by have := hQl k hk; omega
      obtain ⟨o1, o2, -⟩ := hG.o hQ10
      have o2 := o2 (hQl k hk)
      have hl : g (205 + 9 * (qg g).1 k) = nI (gn g (205 + 9 * (qg g).1 k)) := hG.n (by omega) (by omega)
      have hO : ∀ q, q < 8 → J (x + 1 + 43 + (qg g).1 k) q = g (204 + 9 * (qg g).1 k + q) := fun q hq => by rw [hJ.1 _ (by omega)]; exact hC.ao hQ10 hq
      have hst : ∀ j, j < 16 → J (x + 1 + 2) j = g (124 + 5 * j) := fun j hj => by rw [hJ.1 _ (by omega)]; exact hC.at (lc_B0 hj)
      have hF := hJ.2.2.2.2.1
      obtain ⟨p1, p2, p3⟩ := hP k (by omega)
      have hqk2 : J (x + 131 + 3) k = nI ((qg g).1 k) := hJ.2.2.2.1 k hk
      cases hb : bt g ((qg g).1 k) (pln g (qg g).1 k).1 6 with
      | none =>
        refine q_iload_n (pc := 44) dX5_reckon_44 rfl rfl ?_
        refine q_aload_n (pc := 45) dX5_reckon_45 rfl rfl ?_
        refine q_getI (pc := 46) dX5_reckon_46 fX5_22 (Plan_sh (Cellar_s_plan hx)) ⟨by decide, rfl⟩ (Plan_lt (Cellar_s_plan hx)) ?_
        rw [hJ.2.2.1]
        refine q_icmp_ge (pc := 49) 157 dX5_reckon_49 (by decide) (fun c_49 => absurd c_49 (nI_ge hk (by omega))) (fun c_49 => ?_)
        refine q_aload_n (pc := 52) dX5_reckon_52 rfl rfl ?_
        refine q_getP (pc := 53) dX5_reckon_53 fX5_61 (State_sh (Cellar_s_state hx)) ⟨by decide, rfl⟩ (State_lt (Cellar_s_state hx)) (State_p_orders (Cellar_s_state hx)) ?_
        refine q_aload_n (pc := 56) dX5_reckon_56 rfl rfl ?_
        refine q_getP (pc := 57) dX5_reckon_57 fX5_25 (Plan_sh (Cellar_s_plan hx)) ⟨by decide, rfl⟩ (Plan_lt (Cellar_s_plan hx)) (Plan_p_queue (Cellar_s_plan hx)) ?_
        refine q_iload_n (pc := 60) dX5_reckon_60 rfl rfl ?_
        refine q_iald (pc := 61) dX5_reckon_61 (oA_sh (Plan_s_queue (Cellar_s_plan hx))) (oA_lt (Plan_s_queue (Cellar_s_plan hx))) rfl (by omega) ?_
        rw [hqk2]
        refine q_aald (pc := 62) dX5_reckon_62 (Stateorders_sh (Cellar_s_state hx)) (by decide) (Stateorders_lt (Cellar_s_state hx)) rfl hQ10 (Stateorders_p_el (Cellar_s_state hx) hQ10) ?_
        refine q_astore_n (pc := 63) dX5_reckon_63 rfl (Nat.le_of_ble_eq_true rfl) rfl ?_
        show bq_W _ _ _ _ _ 64 [_, _, _, _, _] _ _ _ _ _ _ _
        refine q_aload_n (pc := 64) dX5_reckon_64 rfl rfl ?_
        refine q_aload_n (pc := 65) dX5_reckon_65 rfl rfl ?_
        refine q_aload_n (pc := 66) dX5_reckon_66 rfl rfl ?_
        refine q_getP (pc := 67) dX5_reckon_67 fX5_64 (State_sh (Cellar_s_state hx)) ⟨by decide, rfl⟩ (State_lt (Cellar_s_state hx)) (State_p_strengths (Cellar_s_state hx)) ?_
        refine q_callVF (pc := 70) dX5_reckon_70 kX5_67 (c_best (F := (pln g (qg g).1 k).1) hx hQ10 hl o1 rfl hO hst hF p1) (Plan_sh (Cellar_s_plan hx)) rfl (Plan_lt (Cellar_s_plan hx)) ⟨Nat.le_of_ble_eq_true rfl, Nat.le_of_ble_eq_true rfl⟩ rfl rfl (Nat.le_of_ble_eq_true rfl) ?_
        show bq_W _ _ _ _ _ 73 _ [_] _ _ _ _ _ _
        rw [hb, show ri none = (-5) from rfl]
        refine q_istore (pc := 73) dX5_reckon_73 (Nat.le_of_ble_eq_true rfl) rfl ?_
        show bq_W _ _ _ _ _ 75 [_, _, _, _, _] _ _ _ _ _ _ _
        refine q_iload (pc := 75) dX5_reckon_75 rfl ?_
        refine q_if_lt (pc := 77) 151 dX5_reckon_77 (by decide) (fun c_77 => ?_) (fun c_77 => ((c_77 (by decide) : False)).elim)
        refine q_iinc (pc := 151) (v := nI (k + 1)) dX5_reckon_151 rfl (bq_inc _) (Nat.le_of_ble_eq_true rfl) rfl ?_
        show bq_W _ _ _ _ _ 154 [_, _, _, _, _] _ _ _ _ _ _ _
        refine q_goto (pc := 154) 44 dX5_reckon_154 (by decide) ?_
        exact ih J _ _ (by unfold MI; rw [show pln g (qg g).1 (k + 1) = pln g (qg g).1 k from pst_n hb]; exact hJ)
      | some t =>
        obtain ⟨ht6, hfit⟩ := bt_ok hb
        obtain ⟨f1, -, -⟩ := fit_d hfit
        have hpos : 0 < ns ((pln g (qg g).1 k).1 t) 16 := by omega
        have htb := p1 t ht6
        have hFt := hF t ht6
        refine q_iload_n (pc := 44) dX5_reckon_44 rfl rfl ?_
        refine q_aload_n (pc := 45) dX5_reckon_45 rfl rfl ?_
        refine q_getI (pc := 46) dX5_reckon_46 fX5_22 (Plan_sh (Cellar_s_plan hx)) ⟨by decide, rfl⟩ (Plan_lt (Cellar_s_plan hx)) ?_
        rw [hJ.2.2.1]
        refine q_icmp_ge (pc := 49) 157 dX5_reckon_49 (by decide) (fun c_49 => absurd c_49 (nI_ge hk (by omega))) (fun c_49 => ?_)
        refine q_aload_n (pc := 52) dX5_reckon_52 rfl rfl ?_
        refine q_getP (pc := 53) dX5_reckon_53 fX5_61 (State_sh (Cellar_s_state hx)) ⟨by decide, rfl⟩ (State_lt (Cellar_s_state hx)) (State_p_orders (Cellar_s_state hx)) ?_
        refine q_aload_n (pc := 56) dX5_reckon_56 rfl rfl ?_
        refine q_getP (pc := 57) dX5_reckon_57 fX5_25 (Plan_sh (Cellar_s_plan hx)) ⟨by decide, rfl⟩ (Plan_lt (Cellar_s_plan hx)) (Plan_p_queue (Cellar_s_plan hx)) ?_
        refine q_iload_n (pc := 60) dX5_reckon_60 rfl rfl ?_
        refine q_iald (pc := 61) dX5_reckon_61 (oA_sh (Plan_s_queue (Cellar_s_plan hx))) (oA_lt (Plan_s_queue (Cellar_s_plan hx))) rfl (by omega) ?_
        rw [hqk2]
        refine q_aald (pc := 62) dX5_reckon_62 (Stateorders_sh (Cellar_s_state hx)) (by decide) (Stateorders_lt (Cellar_s_state hx)) rfl hQ10 (Stateorders_p_el (Cellar_s_state hx) hQ10) ?_
        refine q_astore_n (pc := 63) dX5_reckon_63 rfl (Nat.le_of_ble_eq_true rfl) rfl ?_
        show bq_W _ _ _ _ _ 64 [_, _, _, _, _] _ _ _ _ _ _ _
        refine q_aload_n (pc := 64) dX5_reckon_64 rfl rfl ?_
        refine q_aload_n (pc := 65) dX5_reckon_65 rfl rfl ?_
        refine q_aload_n (pc := 66) dX5_reckon_66 rfl rfl ?_
        refine q_getP (pc := 67) dX5_reckon_67 fX5_64 (State_sh (Cellar_s_state hx)) ⟨by decide, rfl⟩ (State_lt (Cellar_s_state hx)) (State_p_strengths (Cellar_s_state hx)) ?_
        refine q_callVF (pc := 70) dX5_reckon_70 kX5_67 (c_best (F := (pln g (qg g).1 k).1) hx hQ10 hl o1 rfl hO hst hF p1) (Plan_sh (Cellar_s_plan hx)) rfl (Plan_lt (Cellar_s_plan hx)) ⟨Nat.le_of_ble_eq_true rfl, Nat.le_of_ble_eq_true rfl⟩ rfl rfl (Nat.le_of_ble_eq_true rfl) ?_
        show bq_W _ _ _ _ _ 73 _ [_] _ _ _ _ _ _
        rw [hb, show ri (some t) = nI t from rfl]
        refine q_istore (pc := 73) dX5_reckon_73 (Nat.le_of_ble_eq_true rfl) rfl ?_
        show bq_W _ _ _ _ _ 75 [_, _, _, _, _] _ _ _ _ _ _ _
        refine q_iload (pc := 75) dX5_reckon_75 rfl ?_
        refine q_if_lt (pc := 77) 151 dX5_reckon_77 (by decide) (fun c_77 => ((nI_pos (by omega) c_77 : False)).elim) (fun c_77 => ?_)
        refine q_aload_n (pc := 80) dX5_reckon_80 rfl rfl ?_
        refine q_getP (pc := 81) dX5_reckon_81 fX5_37 (Plan_sh (Cellar_s_plan hx)) ⟨by decide, rfl⟩ (Plan_lt (Cellar_s_plan hx)) (Plan_p_taken (Cellar_s_plan hx)) ?_
        refine q_aload_n (pc := 84) dX5_reckon_84 rfl rfl ?_
        refine q_getP (pc := 85) dX5_reckon_85 fX5_30 (Plan_sh (Cellar_s_plan hx)) ⟨by decide, rfl⟩ (Plan_lt (Cellar_s_plan hx)) (Plan_p_left (Cellar_s_plan hx)) ?_
        refine q_iload (pc := 88) dX5_reckon_88 rfl ?_
        refine q_aald (pc := 90) dX5_reckon_90 (Planleft_sh (Cellar_s_plan hx)) (by decide) (Planleft_lt (Cellar_s_plan hx)) rfl ht6 (Planleft_p_el (Cellar_s_plan hx) ht6) ?_
        refine q_aload_n (pc := 91) dX5_reckon_91 rfl rfl ?_
        refine q_getI (pc := 92) dX5_reckon_92 fX5_71 (Order_sh (Stateorders_s_el (Cellar_s_state hx) hQ10)) ⟨by decide, rfl⟩ (Order_lt (Stateorders_s_el (Cellar_s_state hx) hQ10)) ?_
        rw [show J (x + 1 + 43 + (qg g).1 k) 1 = nI (gn g (205 + 9 * (qg g).1 k)) from by rw [hO 1 (by decide), show 204 + 9 * (qg g).1 k + 1 = 205 + 9 * (qg g).1 k by omega]; exact hl]
        refine q_callV (pc := 95) dX5_reckon_95 kX5_76 (c_take (w := x + 131 + 9 + 2 * t) (Plan_s_taken (Cellar_s_plan hx)) (Planleft_s_el (Cellar_s_plan hx) ht6) (by omega) (by omega) (pm_n hFt f1 hpos htb).2 (by omega)) (Portion_sh (Plan_s_taken (Cellar_s_plan hx))) rfl (Portion_lt (Plan_s_taken (Cellar_s_plan hx))) ⟨Nat.le_of_ble_eq_true rfl, Nat.le_of_ble_eq_true rfl⟩ rfl rfl (Nat.le_of_ble_eq_true rfl) ?_
        rintro _ S2 n2 I2 L2 P2 ⟨rfl, eS2, en2, eL2, eP2, g2, t2⟩
        subst S2 n2 L2 P2
        show bq_W _ _ _ _ _ 98 _ [] _ _ _ _ _ _
        have ht2 := fun j hj => (t2 j hj).trans (pt_n hFt f1 hpos htb j hj)
        refine q_aload_n (pc := 98) dX5_reckon_98 rfl rfl ?_
        refine q_getP (pc := 99) dX5_reckon_99 fX5_30 (Plan_sh (Cellar_s_plan hx)) ⟨by decide, rfl⟩ (Plan_lt (Cellar_s_plan hx)) (Plan_p_left (Cellar_s_plan hx)) ?_
        refine q_iload (pc := 102) dX5_reckon_102 rfl ?_
        refine q_aald (pc := 104) dX5_reckon_104 (Planleft_sh (Cellar_s_plan hx)) (by decide) (Planleft_lt (Cellar_s_plan hx)) rfl ht6 (Planleft_p_el (Cellar_s_plan hx) ht6) ?_
        refine q_aload_n (pc := 105) dX5_reckon_105 rfl rfl ?_
        refine q_getP (pc := 106) dX5_reckon_106 fX5_37 (Plan_sh (Cellar_s_plan hx)) ⟨by decide, rfl⟩ (Plan_lt (Cellar_s_plan hx)) (Plan_p_taken (Cellar_s_plan hx)) ?_
        refine q_getP (pc := 109) dX5_reckon_109 fX5_80 (Portion_sh (Plan_s_taken (Cellar_s_plan hx))) ⟨by decide, rfl⟩ (Portion_lt (Plan_s_taken (Cellar_s_plan hx))) (Portion_p_blend (Plan_s_taken (Cellar_s_plan hx))) ?_
        refine q_callVF (pc := 112) dX5_reckon_112 kX5_83 (c_X0_remove (Planleft_s_el (Cellar_s_plan hx) ht6) (Portion_s_blend (Plan_s_taken (Cellar_s_plan hx)))) (Blend_sh (Planleft_s_el (Cellar_s_plan hx) ht6)) rfl (Blend_lt (Planleft_s_el (Cellar_s_plan hx) ht6)) ⟨Nat.le_of_ble_eq_true rfl, Nat.le_of_ble_eq_true rfl⟩ rfl rfl (Nat.le_of_ble_eq_true rfl) ?_
        show bq_W _ _ _ _ _ 115 _ [] _ _ _ _ _ _
        refine q_nameI (fun I3 e3 => ?_)
        have hM3 : MR x g I J I3 k t := MR.mk hJ ht6 g2 ht2 e3 (npt_in f1 hpos).1
        have hc3 : I3 (x + 131) 0 = nI (pln g (qg g).1 k).2.1 := hM3.2.1.trans hJ.2.1
        have hcl : (pln g (qg g).1 k).2.1 < 10 := by omega
        refine q_aload_n (pc := 115) dX5_reckon_115 rfl rfl ?_
        refine q_getP (pc := 116) dX5_reckon_116 fX5_15 (Plan_sh (Cellar_s_plan hx)) ⟨by decide, rfl⟩ (Plan_lt (Cellar_s_plan hx)) (Plan_p_orders (Cellar_s_plan hx)) ?_
        refine q_aload_n (pc := 119) dX5_reckon_119 rfl rfl ?_
        refine q_getI (pc := 120) dX5_reckon_120 fX5_9 (Plan_sh (Cellar_s_plan hx)) ⟨by decide, rfl⟩ (Plan_lt (Cellar_s_plan hx)) ?_
        rw [hc3]
        refine q_aload_n (pc := 123) dX5_reckon_123 rfl rfl ?_
        refine q_getP (pc := 124) dX5_reckon_124 fX5_25 (Plan_sh (Cellar_s_plan hx)) ⟨by decide, rfl⟩ (Plan_lt (Cellar_s_plan hx)) (Plan_p_queue (Cellar_s_plan hx)) ?_
        refine q_iload_n (pc := 127) dX5_reckon_127 rfl rfl ?_
        rw [show I3 (x + 131 + 3) k = nI ((qg g).1 k) from (congrFun (hM3.2.2.2.1) k).trans hqk2]
        refine q_iald (pc := 128) dX5_reckon_128 (oA_sh (Plan_s_queue (Cellar_s_plan hx))) (oA_lt (Plan_s_queue (Cellar_s_plan hx))) rfl (by omega) ?_
        refine q_iast (pc := 129) dX5_reckon_129 (oA_sh (Plan_s_orders (Cellar_s_plan hx))) (oA_lt (Plan_s_orders (Cellar_s_plan hx))) rfl hcl ?_
        refine q_aload_n (pc := 130) dX5_reckon_130 rfl rfl ?_
        refine q_getP (pc := 131) dX5_reckon_131 fX5_19 (Plan_sh (Cellar_s_plan hx)) ⟨by decide, rfl⟩ (Plan_lt (Cellar_s_plan hx)) (Plan_p_tanks (Cellar_s_plan hx)) ?_
        refine q_aload_n (pc := 134) dX5_reckon_134 rfl rfl ?_
        refine q_getI (pc := 135) dX5_reckon_135 fX5_9 (Plan_sh (Cellar_s_plan hx)) ⟨by decide, rfl⟩ (Plan_lt (Cellar_s_plan hx)) ?_
        rw [show bq_u I3 (x + 131 + 1) (pln g (qg g).1 k).2.1 (nI ((qg g).1 k)) (x + 131) 0 = nI (pln g (qg g).1 k).2.1 from by rw [bq_u_ne (by omega)]; exact hc3]
        refine q_iload (pc := 138) dX5_reckon_138 rfl ?_
        refine q_iast (pc := 140) dX5_reckon_140 (oA_sh (Plan_s_tanks (Cellar_s_plan hx))) (oA_lt (Plan_s_tanks (Cellar_s_plan hx))) rfl hcl ?_
        refine q_aload_n (pc := 141) dX5_reckon_141 rfl rfl ?_
        refine q_dup (pc := 142) dX5_reckon_142 rfl ?_
        refine q_getI (pc := 143) dX5_reckon_143 fX5_9 (Plan_sh (Cellar_s_plan hx)) ⟨by decide, rfl⟩ (Plan_lt (Cellar_s_plan hx)) ?_
        rw [show bq_u (bq_u I3 (x + 131 + 1) (pln g (qg g).1 k).2.1 (nI ((qg g).1 k))) (x + 131 + 2) (pln g (qg g).1 k).2.1 (nI t) (x + 131) 0 = nI (pln g (qg g).1 k).2.1 from by rw [bq_u_ne (by omega), bq_u_ne (by omega)]; exact hc3]
        refine q_iconst (pc := 146) (v := nI 1) dX5_reckon_146 (by decide) ?_
        refine q_iaddN (pc := 147) dX5_reckon_147 ?_
        refine q_putI (pc := 148) dX5_reckon_148 (pX5_9 _) (Plan_sh (Cellar_s_plan hx)) ⟨by decide, rfl⟩ (Plan_lt (Cellar_s_plan hx)) ?_
        refine q_iinc (pc := 151) (v := nI (k + 1)) dX5_reckon_151 rfl (bq_inc _) (Nat.le_of_ble_eq_true rfl) rfl ?_
        show bq_W _ _ _ _ _ 154 [_, _, _, _, _] _ _ _ _ _ _ _
        refine q_goto (pc := 154) 44 dX5_reckon_154 (by decide) ?_
        exact ih _ _ _ (hM3.next hJ hb hcl)
  refine q_aload_n (pc := 0) dX5_reckon_0 rfl rfl ?_
  refine q_aload_n (pc := 1) dX5_reckon_1 rfl rfl ?_
  refine q_callV (pc := 2) dX5_reckon_2 kX5_42 (c_queue hx hC hG) (Plan_sh (Cellar_s_plan hx)) rfl (Plan_lt (Cellar_s_plan hx)) ⟨Nat.le_of_ble_eq_true rfl, Nat.le_of_ble_eq_true rfl⟩ rfl rfl (Nat.le_of_ble_eq_true rfl) ?_
  rintro _ S1 n1 I1 L1 P1 ⟨rfl, eS1, en1, eL1, eP1, hQ1⟩
  subst S1 n1 L1 P1
  show bq_W _ _ _ _ _ 5 _ [] _ _ _ _ _ _
  refine q_iconst (pc := 5) (v := nI 0) dX5_reckon_5 (by decide) ?_
  refine q_istore_n (pc := 6) dX5_reckon_6 rfl (Nat.le_of_ble_eq_true rfl) rfl ?_
  show bq_W _ _ _ _ _ 7 [_, _, _, _, _] _ _ _ _ _ _ _
  have l1 : ∀ i, i ≤ 6 → ∀ (J : BqI), LI x g I I1 J i → ∀ v3 v4 : Option Value, bq_W mX5_reckon 4 84 0 0 7 [some (.ref (x + 131)), some (.ref (x + 1)), some (.int (nI i)), v3, v4] [] S n J L P (qRk x g I S n L P) := by
    refine bq_down (A := fun i => ∀ (J : BqI), LI x g I I1 J i → ∀ v3 v4 : Option Value, bq_W mX5_reckon 4 84 0 0 7 [some (.ref (x + 131)), some (.ref (x + 1)), some (.int (nI i)), v3, v4] [] S n J L P (qRk x g I S n L P)) 6 ?_ ?_
    · intro J hJ v3 v4
      refine q_iload_n (pc := 7) dX5_reckon_7 rfl rfl ?_
      refine q_bipush (pc := 8) (v := nI 6) dX5_reckon_8 (by decide) ?_
      refine q_icmp_ge (pc := 10) 37 dX5_reckon_10 (by decide) (fun c_10 => ?_) (fun c_10 => absurd (by decide) c_10)
      refine q_aload_n (pc := 37) dX5_reckon_37 rfl rfl ?_
      refine q_iconst (pc := 38) (v := nI 0) dX5_reckon_38 (by decide) ?_
      refine q_putI (pc := 39) dX5_reckon_39 (pX5_9 _) (Plan_sh (Cellar_s_plan hx)) ⟨by decide, rfl⟩ (Plan_lt (Cellar_s_plan hx)) ?_
      refine q_iconst (pc := 42) (v := nI 0) dX5_reckon_42 (by decide) ?_
      refine q_istore_n (pc := 43) dX5_reckon_43 rfl (Nat.le_of_ble_eq_true rfl) rfl ?_
      show bq_W _ _ _ _ _ 44 [_, _, _, _, _] _ _ _ _ _ _ _
      exact l2 0 (Nat.zero_le _) _ _ _ (hJ.start2 hQ1)
    · intro i hi ih J hJ v3 v4
      refine q_iload_n (pc := 7) dX5_reckon_7 rfl rfl ?_
      refine q_bipush (pc := 8) (v := nI 6) dX5_reckon_8 (by decide) ?_
      refine q_icmp_ge (pc := 10) 37 dX5_reckon_10 (by decide) (fun c_10 => absurd c_10 (nI_ge hi (by decide))) (fun c_10 => ?_)
      refine q_aload_n (pc := 13) dX5_reckon_13 rfl rfl ?_
      refine q_getP (pc := 14) dX5_reckon_14 fX5_30 (Plan_sh (Cellar_s_plan hx)) ⟨by decide, rfl⟩ (Plan_lt (Cellar_s_plan hx)) (Plan_p_left (Cellar_s_plan hx)) ?_
      refine q_iload_n (pc := 17) dX5_reckon_17 rfl rfl ?_
      refine q_aald (pc := 18) dX5_reckon_18 (Planleft_sh (Cellar_s_plan hx)) (by decide) (Planleft_lt (Cellar_s_plan hx)) rfl hi (Planleft_p_el (Cellar_s_plan hx) hi) ?_
      refine q_aload_n (pc := 19) dX5_reckon_19 rfl rfl ?_
      refine q_getP (pc := 20) dX5_reckon_20 fX5_46 (State_sh (Cellar_s_state hx)) ⟨by decide, rfl⟩ (State_lt (Cellar_s_state hx)) (State_p_tanks (Cellar_s_state hx)) ?_
      refine q_iload_n (pc := 23) dX5_reckon_23 rfl rfl ?_
      refine q_aald (pc := 24) dX5_reckon_24 (Statetanks_sh (Cellar_s_state hx)) (by decide) (Statetanks_lt (Cellar_s_state hx)) rfl hi (Statetanks_p_el (Cellar_s_state hx) hi) ?_
      refine q_getP (pc := 25) dX5_reckon_25 fX5_51 (Tank_sh (Statetanks_s_el (Cellar_s_state hx) hi)) ⟨by decide, rfl⟩ (Tank_lt (Statetanks_s_el (Cellar_s_state hx) hi)) (Tank_p_content (Statetanks_s_el (Cellar_s_state hx) hi)) ?_
      refine q_callVF (pc := 28) dX5_reckon_28 kX5_57 (c_X0_copyFrom (Planleft_s_el (Cellar_s_plan hx) hi) (Tank_s_content (Statetanks_s_el (Cellar_s_state hx) hi))) (Blend_sh (Planleft_s_el (Cellar_s_plan hx) hi)) rfl (Blend_lt (Planleft_s_el (Cellar_s_plan hx) hi)) ⟨Nat.le_of_ble_eq_true rfl, Nat.le_of_ble_eq_true rfl⟩ rfl rfl (Nat.le_of_ble_eq_true rfl) ?_
      show bq_W _ _ _ _ _ 31 _ [] _ _ _ _ _ _
      refine q_iinc (pc := 31) (v := nI (i + 1)) dX5_reckon_31 rfl (bq_inc _) (Nat.le_of_ble_eq_true rfl) rfl ?_
      show bq_W _ _ _ _ _ 34 [_, _, _, _, _] _ _ _ _ _ _ _
      refine q_goto (pc := 34) 7 dX5_reckon_34 (by decide) ?_
      exact ih _ (hJ.step hC hG hQ1 hi) _ _
  exact l1 0 (Nat.zero_le _) _ LI.start _ _
/-! the model's plan -/
def sk (Q : Nat → Nat) : Nat → Nat → Bool
  | 0 => fun _ => false
  | k + 1 => fun o => sk Q k o || decide (Q k = o)
theorem sk_iff {Q : Nat → Nat} {o : Nat} : ∀ {k : Nat}, sk Q k o = false ↔ ∀ j, j < k → Q j ≠ o
  | 0 => ⟨fun _ j h => absurd h (Nat.not_lt_zero _), fun _ => rfl⟩
  | k + 1 => by
    have ih := sk_iff (Q := Q) (o := o) (k := k)
    show (sk Q k o || decide (Q k = o)) = false ↔ _
    rw [Bool.or_eq_false_iff, ih]
    constructor
    · rintro ⟨h1, h2⟩ j hj
      by_cases e : j = k
      · subst e; exact of_decide_eq_false h2
      · exact h1 j (by omega)
    · intro h
      exact ⟨fun j hj => h j (by omega), decide_eq_false (h k (by omega))⟩
/-- the planned tank of each order -/
def ptn (g : BqG) (Q : Nat → Nat) : Nat → Nat → Int32
  | 0 => fun _ => (-5)
  | k + 1 => match bt g (Q k) (pln g Q k).1 6 with
    | none => ptn g Q k
    | some t => bq_r (ptn g Q k) (Q k) (nI t)
def qPl (m : Nat) (g : BqG) (I : BqI) (S : BqH) (n : Nat) (L : BqL) (P : BqP) : BqQ := fun r S' n' I' L' P' => r = none ∧ S' = S ∧ n' = n ∧ L' = L ∧ P' = P ∧ (∀ a, a ≠ m → a < m + 6 ∨ m + 13 ≤ a → I' a = I a) ∧ (∀ k, k ≠ 17 → I' m k = I m k) ∧ I' m 17 = nI (plan g).2.1 ∧ (∀ j, j < (plan g).2.1 → I' (m + 9) j = nI ((plan g).2.2.1 j)) ∧ ∀ o, o < 10 → I' (m + 10) o = ptn g (qg g).1 (qg g).2 o
def PA (m : Nat) (_ : BqG) (I J : BqI) (i : Nat) : Prop := (∀ a, a ≠ m → a < m + 6 ∨ m + 13 ≤ a → J a = I a) ∧ (∀ k, k ≠ 17 → J m k = I m k) ∧ J m 17 = nI 0 ∧ ∀ o, o < i → J (m + 10) o = (-5) ∧ J (m + 11) o = nI 0
def PB (m : Nat) (g : BqG) (I J : BqI) (i : Nat) : Prop := PA m g I J 10 ∧ ∀ q, q < i → J (m + 12) q = nI (gp g (q / 16) (q % 16))
def PJ (m : Nat) (g : BqG) (I J : BqI) (k : Nat) : Prop := (∀ a, a ≠ m → a < m + 6 ∨ m + 13 ≤ a → J a = I a) ∧ (∀ k, k ≠ 17 → J m k = I m k) ∧ J m 17 = nI (pln g (qg g).1 k).2.1 ∧ (∀ j, j < (pln g (qg g).1 k).2.1 → J (m + 9) j = nI ((pln g (qg g).1 k).2.2.1 j)) ∧ (∀ o, o < 10 → J (m + 10) o = ptn g (qg g).1 k o) ∧ (∀ o, o < 10 → J (m + 11) o = (if sk (qg g).1 k o = true then nI 1 else nI 0)) ∧ ∀ t, t < 6 → ∀ j, j < 16 → J (m + 12) (16 * t + j) = nI ((pln g (qg g).1 k).1 t j)
/-- order k was seen -/
def PJ2 (m : Nat) (g : BqG) (I J : BqI) (k : Nat) : Prop := (∀ a, a ≠ m → a < m + 6 ∨ m + 13 ≤ a → J a = I a) ∧ (∀ k, k ≠ 17 → J m k = I m k) ∧ J m 17 = nI (pln g (qg g).1 k).2.1 ∧ (∀ j, j < (pln g (qg g).1 k).2.1 → J (m + 9) j = nI ((pln g (qg g).1 k).2.2.1 j)) ∧ (∀ o, o < 10 → J (m + 10) o = ptn g (qg g).1 k o) ∧ (∀ o, o < 10 → J (m + 11) o = (if sk (qg g).1 (k + 1) o = true then nI 1 else nI 0)) ∧ ∀ t, t < 6 → ∀ j, j < 16 → J (m + 12) (16 * t + j) = nI ((pln g (qg g).1 k).1 t j)
theorem PA.start {m : Nat} {g : BqG} {I : BqI} : PA m g I (bq_u I m 17 (nI 0)) 0 := ⟨fun a h _ => bq_u_ne h, fun k h => bq_u_no (fun q => h q.2), bq_u_at _ _ _ _, fun _ h => absurd h (Nat.not_lt_zero _)⟩
theorem PA.step {m i : Nat} {g : BqG} {I J : BqI} (h : PA m g I J i) : PA m g I (bq_u (bq_u J (m + 10) i (-5)) (m + 11) i (nI 0)) (i + 1) := by
  refine ⟨fun a h1 h2 => ?_, fun k hk => ?_, ?_, fun o ho => ?_⟩
  · rw [bq_u_ne (by omega), bq_u_ne (by omega)]; exact h.1 a h1 h2
  · rw [bq_u_ne (by omega), bq_u_ne (by omega)]; exact h.2.1 k hk
  · rw [bq_u_ne (by omega), bq_u_ne (by omega)]; exact h.2.2.1
  · rw [bq_u_ne (show m + 10 ≠ m + 11 by omega)]
    by_cases c : o = i
    · subst c; rw [bq_u_at, bq_u_at]; exact ⟨rfl, rfl⟩
    · rw [bq_u_no (by omega), bq_u_no (by omega), bq_u_ne (by omega)]; exact h.2.2.2 o (by omega)
theorem PA.start' {m : Nat} {g : BqG} {I J : BqI} (h : PA m g I J 10) : PB m g I J 0 := ⟨h, fun _ h => absurd h (Nat.not_lt_zero _)⟩
theorem PB.step {m i en : Nat} {g : BqG} {I J : BqI} (h : PB m g I J i) (hG : GI g en) (hg : I (m + 1) = g) (hi : i < 96) : PB m g I (bq_u J (m + 12) i (J (m + 1) (13 + 19 * (i / 16) + i % 16))) (i + 1) := by
  refine ⟨⟨fun a h1 h2 => ?_, fun k hk => ?_, ?_, fun o ho => ?_⟩, fun q hq => ?_⟩
  · rw [bq_u_ne (by omega)]; exact h.1.1 a h1 h2
  · rw [bq_u_ne (by omega)]; exact h.1.2.1 k hk
  · rw [bq_u_ne (by omega)]; exact h.1.2.2.1
  · rw [bq_u_ne (by omega), bq_u_ne (by omega)]; exact h.1.2.2.2 o ho
  · by_cases c : q = i
    · subst c
      rw [bq_u_at, h.1.1 _ (by omega) (by omega), hg]
      exact hG.p (by omega) _ (by omega)
    · rw [bq_u_no (by omega)]; exact h.2 q (by omega)
theorem PB.start {m : Nat} {g : BqG} {I J : BqI} (h : PB m g I J 96) : PJ m g I J 0 :=
  ⟨h.1.1, h.1.2.1, h.1.2.2.1, fun _ q => absurd q (Nat.not_lt_zero _), fun o ho => (h.1.2.2.2 o ho).1, fun o ho => by rw [(h.1.2.2.2 o ho).2]; exact (if_neg (by decide)).symm, fun t ht j hj => by
    rw [h.2 (16 * t + j) (by omega), show (16 * t + j) / 16 = t by omega, show (16 * t + j) % 16 = j by omega]; rfl⟩
theorem PJ.sn {m k : Nat} {g : BqG} {I J : BqI} (h : PJ m g I J k) : ∀ o, o < 10 → J (m + 11) o = (if sk (qg g).1 k o = true then nI 1 else nI 0) := h.2.2.2.2.2.1
theorem PJ.g {m k : Nat} {g : BqG} {I J : BqI} (h : PJ m g I J k) (hg : I (m + 1) = g) : J (m + 1) = g := (h.1 _ (by omega) (by omega)).trans hg
theorem PJ2.g {m k : Nat} {g : BqG} {I J : BqI} (h : PJ2 m g I J k) (hg : I (m + 1) = g) : J (m + 1) = g := (h.1 _ (by omega) (by omega)).trans hg
theorem PJ2.mk {m k : Nat} {g : BqG} {I J I2 : BqI} (h : PJ m g I J k) (f : ∀ a, a ≠ m + 6 → I2 a = bq_u J (m + 11) ((qg g).1 k) (nI 1) a) : PJ2 m g I I2 k := by
  have f1 : ∀ a, a ≠ m + 6 → a ≠ m + 11 → I2 a = J a := fun a h1 h2 => (f a h1).trans (bq_u_ne h2)
  refine ⟨fun a h1 h2 => ?_, fun q hq => ?_, ?_, fun j hj => ?_, fun o ho => ?_, fun o ho => ?_, fun t ht j hj => ?_⟩
  · rw [f1 a (by omega) (by omega)]; exact h.1 a h1 h2
  · rw [f1 m (by omega) (by omega)]; exact h.2.1 q hq
  · rw [f1 m (by omega) (by omega)]; exact h.2.2.1
  · rw [f1 _ (by omega) (by omega)]; exact h.2.2.2.1 j hj
  · rw [f1 _ (by omega) (by omega)]; exact h.2.2.2.2.1 o ho
  · rw [f (m + 11) (by omega)]
    show _ = (if (sk (qg g).1 k o || decide ((qg g).1 k = o)) = true then nI 1 else nI 0)
    by_cases c : o = (qg g).1 k
    · subst c; rw [bq_u_at]; simp
    · rw [bq_u_no (fun q => c q.2), h.2.2.2.2.2.1 o ho, decide_eq_false (fun q => c q.symm), Bool.or_false]
  · rw [f1 _ (by omega) (by omega)]; exact h.2.2.2.2.2.2 t ht j hj
theorem ptn_n {g : BqG} {k : Nat} (hb : bt g ((qg g).1 k) (pln g (qg g).1 k).1 6 = none) : ptn g (qg g).1 (k + 1) = ptn g (qg g).1 k := by
  show (match bt g ((qg g).1 k) (pln g (qg g).1 k).1 6 with | none => ptn g (qg g).1 k | some t => bq_r (ptn g (qg g).1 k) ((qg g).1 k) (nI t)) = _
  rw [hb]
theorem ptn_s {g : BqG} {k t : Nat} (hb : bt g ((qg g).1 k) (pln g (qg g).1 k).1 6 = some t) : ptn g (qg g).1 (k + 1) = bq_r (ptn g (qg g).1 k) ((qg g).1 k) (nI t) := by
  show (match bt g ((qg g).1 k) (pln g (qg g).1 k).1 6 with | none => ptn g (qg g).1 k | some t => bq_r (ptn g (qg g).1 k) ((qg g).1 k) (nI t)) = _
  rw [hb]
theorem PJ2.none {m k : Nat} {g : BqG} {I J : BqI} (h : PJ2 m g I J k) (hb : bt g ((qg g).1 k) (pln g (qg g).1 k).1 6 = none) : PJ m g I J (k + 1) := by
  unfold PJ
  rw [pst_n hb, ptn_n hb]
  exact h
theorem PJ2.some {m k t : Nat} {g : BqG} {I J I3 I4 I5 I6 : BqI} (h : PJ2 m g I J k) (hb : bt g ((qg g).1 k) (pln g (qg g).1 k).1 6 = some t) (ht : t < 6) (_ : (qg g).1 k < 10) (e3 : I3 = bq_u (bq_u (bq_u J (m + 10) ((qg g).1 k) (nI t)) (m + 9) (pln g (qg g).1 k).2.1 (nI ((qg g).1 k))) m 17 (nI ((pln g (qg g).1 k).2.1 + 1))) (u4 : ∀ a, a ≠ m + 6 → I4 a = I3 a) (f5 : ∀ a, a ≠ m + 7 → a ≠ m + 8 → I5 a = I4 a) (t5 : ∀ j, j < 16 → I5 (m + 7) j = nI (npt ((pln g (qg g).1 k).1 t) (gn g (205 + 9 * (qg g).1 k)) j)) (e6 : I6 = fl I5 (m + 12) (fun j => 16 * t + j) (fun j => I5 (m + 12) (16 * t + j) - I5 (m + 7) j) 16) (hle : ∀ j, j < 16 → nqq ((pln g (qg g).1 k).1 t) (gn g (205 + 9 * (qg g).1 k)) j ≤ npt ((pln g (qg g).1 k).1 t) (gn g (205 + 9 * (qg g).1 k)) j ∧ npt ((pln g (qg g).1 k).1 t) (gn g (205 + 9 * (qg g).1 k)) j ≤ (pln g (qg g).1 k).1 t j ∧ npt ((pln g (qg g).1 k).1 t) (gn g (205 + 9 * (qg g).1 k)) j ≤ nqq ((pln g (qg g).1 k).1 t) (gn g (205 + 9 * (qg g).1 k)) j + 1) : PJ m g I I6 (k + 1) := by
  have f : ∀ a, a ≠ m + 6 → a ≠ m + 7 → a ≠ m + 8 → a ≠ m + 12 → I6 a = I3 a := fun a h1 h2 h3 h4 => by rw [e6, fl_ne h4 16, f5 a h2 h3, u4 a h1]
  have f12 : ∀ t', t' < 6 → ∀ j, j < 16 → I5 (m + 12) (16 * t' + j) = nI ((pln g (qg g).1 k).1 t' j) := fun t' ht' j hj => by
    rw [f5 _ (by omega) (by omega), u4 _ (by omega), e3, bq_u_ne (by omega), bq_u_ne (by omega), bq_u_ne (by omega)]; exact h.2.2.2.2.2.2 t' ht' j hj
  unfold PJ
  rw [pst_s hb, ptn_s hb]
  refine ⟨fun a h1 h2 => ?_, fun q hq => ?_, ?_, fun j hj => ?_, fun o ho => ?_, fun o ho => ?_, fun t' ht' j hj => ?_⟩
  · rw [f a (by omega) (by omega) (by omega) (by omega), e3, bq_u_ne (by omega), bq_u_ne (by omega), bq_u_ne (by omega)]; exact h.1 a h1 h2
  · rw [f m (by omega) (by omega) (by omega) (by omega), e3, bq_u_no (fun z => hq z.2), bq_u_ne (by omega), bq_u_ne (by omega)]; exact h.2.1 q hq
  · rw [f m (by omega) (by omega) (by omega) (by omega), e3]; exact bq_u_at _ _ _ _
  · have hj : j < (pln g (qg g).1 k).2.1 + 1 := hj
    rw [f _ (by omega) (by omega) (by omega) (by omega), e3, bq_u_ne (by omega)]
    show _ = nI (bq_r (pln g (qg g).1 k).2.2.1 (pln g (qg g).1 k).2.1 ((qg g).1 k) j)
    by_cases c : j = (pln g (qg g).1 k).2.1
    · subst c; rw [bq_r_self]; exact bq_u_at _ _ _ _
    · rw [bq_r_ne c, bq_u_no (by omega), bq_u_ne (by omega)]; exact h.2.2.2.1 j (by omega)
  · rw [f _ (by omega) (by omega) (by omega) (by omega), e3, bq_u_ne (by omega), bq_u_ne (by omega)]
    by_cases c : o = (qg g).1 k
    · subst c; rw [bq_r_self]; exact bq_u_at _ _ _ _
    · rw [bq_r_ne c, bq_u_no (fun q => c q.2)]; exact h.2.2.2.2.1 o ho
  · rw [f _ (by omega) (by omega) (by omega) (by omega), e3, bq_u_ne (by omega), bq_u_ne (by omega), bq_u_ne (by omega)]; exact h.2.2.2.2.2.1 o ho
  · show _ = nI (bq_r (pln g (qg g).1 k).1 t _ t' j)
    by_cases c : t' = t
    · subst c
      rw [bq_r_self, e6]
      refine (fl_at (I := I5) (d := m + 12) (ix := fun j => 16 * t' + j) (v := fun j => I5 (m + 12) (16 * t' + j) - I5 (m + 7) j) (j := j) 16 (fun a b _ _ h => by first | omega | (dsimp only at h; omega)) hj).trans ?_
      show I5 (m + 12) (16 * t' + j) - I5 (m + 7) j = _
      rw [f12 t' ht j hj, t5 j hj, pk_sub (hle j hj).2.1]
    · rw [bq_r_ne c, e6, fl_no 16 (fun q hq e => by first | omega | (dsimp only at e; omega))]
      exact f12 t' ht' j hj
set_option maxHeartbeats 4820000 in
set_option maxRecDepth 20000 in
theorem c_plans {S : BqH} {n : Nat} {I : BqI} {L : BqL} {P : BqP} {m : Nat} {g : BqG} (hm : oModel S n P m) (hg : I (m + 1) = g) {en : Nat} (hG : GI g en) : bq_Sp mX12_plans 6 122 0 0 [.ref m] S n I L P (qPl m g I S n L P) := by
  refine q_entry (vs := [some (.ref m), none, none, none]) (by decide +kernel) (by simp) (Nat.le_of_ble_eq_true rfl) rfl ?_
  have hqk := qq_ok (kk g) (fun o => decide (g (208 + 9 * o) = 0)) (gn g 2)
  have hc2 : gn g 2 ≤ 10 := hG.2.2.2.1
  have hnl : (qg g).2 ≤ gn g 2 := hqk.2.2.2
  have hQl : ∀ j, j < (qg g).2 → (qg g).1 j < gn g 2 := fun j hj => (hqk.2.1 j hj).1
  have hP := pln_ok hG (qg g).1 (qg g).2 (gn g 2) hQl hc2 (fun j hj => (hG.o (o := (qg g).1 j) (by have := hQl j hj; omega)).2.1 (hQl j hj))
  have hnx : ∀ k, k ≤ (qg g).2 → nxt (kk g) (fun o => decide (g (208 + 9 * o) = 0) && !sk (qg g).1 k o) (gn g 2) = if k < (qg g).2 then some ((qg g).1 k) else none := fun k hk => nxt_q hqk hk (fun o _ => by simp [sk_iff])
  have l2 : ∀ k, k ≤ (qg g).2 → ∀ (J : BqI) (v2 v3 : Option Value), PJ m g I J k → bq_W mX12_plans 6 122 0 0 74 [some (.ref m), some (.int (rn (if k < (qg g).2 then some ((qg g).1 k) else none))), v2, v3] [] S n J L P (qPl m g I S n L P) := by
    refine bq_down (A := fun k => ∀ (J : BqI) (v2 v3 : Option Value), PJ m g I J k → bq_W mX12_plans 6 122 0 0 74 [some (.ref m), some (.int (rn (if k < (qg g).2 then some ((qg g).1 k) else none))), v2, v3] [] S n J L P (qPl m g I S n L P)) (qg g).2 ?_ ?_
    · intro J v2 v3 hJ
      rw [if_neg (Nat.lt_irrefl _), show rn none = (-1) from rfl]
      refine q_iload_n (pc := 74) dX12_plans_74 rfl rfl ?_
      refine q_iconst (pc := 75) (v := (-1)) dX12_plans_75 (by decide) ?_
      refine q_icmp_eq (pc := 76) 181 dX12_plans_76 (by decide) (fun c_76 => ?_) (fun c_76 => (c_76 rfl).elim)
      exact q_vret (st := []) (pc := 181) dX12_plans_181 rfl ⟨rfl, rfl, rfl, rfl, rfl, hJ.1, hJ.2.1, hJ.2.2.1, hJ.2.2.2.1, hJ.2.2.2.2.1⟩
    · intro k hk ih J v2 v3 hJ
      rw [if_pos hk, show rn (some ((qg g).1 k)) = nI ((qg g).1 k) from rfl]
      have hQ10 : (qg g).1 k < 10 := by have := hQl k hk; omega
      obtain ⟨o1, o2, -⟩ := hG.o hQ10
      have o2 := o2 (hQl k hk)
      have hl : g (205 + 9 * (qg g).1 k) = nI (gn g (205 + 9 * (qg g).1 k)) := hG.n (by omega) (by omega)
      obtain ⟨p1, p2, p3⟩ := hP k (by omega)
      have hgJ : J (m + 1) = g := by rw [hJ.1 _ (by omega) (by omega)]; exact hg
      cases hb : bt g ((qg g).1 k) (pln g (qg g).1 k).1 6 with
      | none =>
        refine q_iload_n (pc := 74) dX12_plans_74 rfl rfl ?_
        refine q_iconst (pc := 75) (v := (-1)) dX12_plans_75 (by decide) ?_
        refine q_icmp_eq (pc := 76) 181 dX12_plans_76 (by decide) (fun c_76 => (rn_ne (by omega) c_76).elim) (fun c_76 => ?_)
        refine q_aload_n (pc := 79) dX12_plans_79 rfl rfl ?_
        refine q_getP (pc := 80) dX12_plans_80 fX12_40 (Model_sh hm) ⟨by decide, rfl⟩ (Model_lt hm) (Model_p_wasSeen hm) ?_
        refine q_iload_n (pc := 83) dX12_plans_83 rfl rfl ?_
        refine q_iconst (pc := 84) (v := nI 1) dX12_plans_84 (by decide) ?_
        refine q_bast (pc := 85) dX12_plans_85 (oZ_sh (Model_s_wasSeen hm)) (oZ_lt (Model_s_wasSeen hm)) rfl hQ10 (Or.inr (by decide)) ?_
        refine q_aload_n (pc := 86) dX12_plans_86 rfl rfl ?_
        refine q_iload_n (pc := 87) dX12_plans_87 rfl rfl ?_
        refine q_callV (pc := 88) dX12_plans_88 kX12_166 (c_X12_tankFor hm (show (bq_u J (m + 11) ((qg g).1 k) (nI 1)) (m + 1) = g from by rw [bq_u_ne (by omega)]; exact hgJ) hG (F := (pln g (qg g).1 k).1) hQ10 o2 (fun t ht j hj => by rw [bq_u_ne (by omega)]; exact hJ.2.2.2.2.2.2 t ht j hj) p1) (Model_sh hm) rfl (Model_lt hm) ⟨Nat.le_of_ble_eq_true rfl, Nat.le_of_ble_eq_true rfl⟩ rfl rfl (Nat.le_of_ble_eq_true rfl) ?_
        rintro _ S2 n2 I2 L2 P2 ⟨rfl, eS2, en2, eL2, eP2, f2⟩
        subst S2 n2 L2 P2
        show bq_W _ _ _ _ _ 91 _ [_] _ _ _ _ _ _
        have hJ2 : PJ2 m g I I2 k := PJ2.mk hJ f2
        rw [hb]
        refine q_istore_n (pc := 91) dX12_plans_91 rfl (Nat.le_of_ble_eq_true rfl) rfl ?_
        show bq_W _ _ _ _ _ 92 [_, _, _, _] _ _ _ _ _ _ _
        refine q_iload_n (pc := 92) dX12_plans_92 rfl rfl ?_
        refine q_iconst (pc := 93) (v := (-1)) dX12_plans_93 (by decide) ?_
        refine q_icmp_eq (pc := 94) 173 dX12_plans_94 (by decide) (fun c_94 => ?_) (fun c_94 => (c_94 rfl).elim)
        have hJ3 : PJ m g I I2 (k + 1) := hJ2.none hb
        refine q_aload_n (pc := 173) dX12_plans_173 rfl rfl ?_
        refine q_callVF (pc := 174) dX12_plans_174 kX12_163 (c_X12_nextOrder hm (hJ3.g hg) hG hJ3.sn (fun _ => rfl)) (Model_sh hm) rfl (Model_lt hm) ⟨Nat.le_of_ble_eq_true rfl, Nat.le_of_ble_eq_true rfl⟩ rfl rfl (Nat.le_of_ble_eq_true rfl) ?_
        show bq_W _ _ _ _ _ 177 _ [_] _ _ _ _ _ _
        rw [hnx (k + 1) hk]
        refine q_istore_n (pc := 177) dX12_plans_177 rfl (Nat.le_of_ble_eq_true rfl) rfl ?_
        show bq_W _ _ _ _ _ 178 [_, _, _, _] _ _ _ _ _ _ _
        refine q_goto (pc := 178) 74 dX12_plans_178 (by decide) ?_
        exact ih _ _ _ hJ3
      | some t =>
        obtain ⟨ht6, hfit⟩ := bt_ok hb
        obtain ⟨f1, -, -⟩ := fit_d hfit
        have hpos : 0 < ns ((pln g (qg g).1 k).1 t) 16 := by omega
        have htb := p1 t ht6
        refine q_iload_n (pc := 74) dX12_plans_74 rfl rfl ?_
        refine q_iconst (pc := 75) (v := (-1)) dX12_plans_75 (by decide) ?_
        refine q_icmp_eq (pc := 76) 181 dX12_plans_76 (by decide) (fun c_76 => (rn_ne (by omega) c_76).elim) (fun c_76 => ?_)
        refine q_aload_n (pc := 79) dX12_plans_79 rfl rfl ?_
        refine q_getP (pc := 80) dX12_plans_80 fX12_40 (Model_sh hm) ⟨by decide, rfl⟩ (Model_lt hm) (Model_p_wasSeen hm) ?_
        refine q_iload_n (pc := 83) dX12_plans_83 rfl rfl ?_
        refine q_iconst (pc := 84) (v := nI 1) dX12_plans_84 (by decide) ?_
        refine q_bast (pc := 85) dX12_plans_85 (oZ_sh (Model_s_wasSeen hm)) (oZ_lt (Model_s_wasSeen hm)) rfl hQ10 (Or.inr (by decide)) ?_
        refine q_aload_n (pc := 86) dX12_plans_86 rfl rfl ?_
        refine q_iload_n (pc := 87) dX12_plans_87 rfl rfl ?_
        refine q_callV (pc := 88) dX12_plans_88 kX12_166 (c_X12_tankFor hm (show (bq_u J (m + 11) ((qg g).1 k) (nI 1)) (m + 1) = g from by rw [bq_u_ne (by omega)]; exact hgJ) hG (F := (pln g (qg g).1 k).1) hQ10 o2 (fun t ht j hj => by rw [bq_u_ne (by omega)]; exact hJ.2.2.2.2.2.2 t ht j hj) p1) (Model_sh hm) rfl (Model_lt hm) ⟨Nat.le_of_ble_eq_true rfl, Nat.le_of_ble_eq_true rfl⟩ rfl rfl (Nat.le_of_ble_eq_true rfl) ?_
        rintro _ S2 n2 I2 L2 P2 ⟨rfl, eS2, en2, eL2, eP2, f2⟩
        subst S2 n2 L2 P2
        show bq_W _ _ _ _ _ 91 _ [_] _ _ _ _ _ _
        have hJ2 : PJ2 m g I I2 k := PJ2.mk hJ f2
        rw [hb]
        rw [show rn (some t) = nI t from rfl]
        refine q_istore_n (pc := 91) dX12_plans_91 rfl (Nat.le_of_ble_eq_true rfl) rfl ?_
        show bq_W _ _ _ _ _ 92 [_, _, _, _] _ _ _ _ _ _ _
        refine q_iload_n (pc := 92) dX12_plans_92 rfl rfl ?_
        refine q_iconst (pc := 93) (v := (-1)) dX12_plans_93 (by decide) ?_
        refine q_icmp_eq (pc := 94) 173 dX12_plans_94 (by decide) (fun c_94 => (rn_ne (by omega) c_94).elim) (fun c_94 => ?_)
        refine q_aload_n (pc := 97) dX12_plans_97 rfl rfl ?_
        refine q_getP (pc := 98) dX12_plans_98 fX12_37 (Model_sh hm) ⟨by decide, rfl⟩ (Model_lt hm) (Model_p_planTank hm) ?_
        refine q_iload_n (pc := 101) dX12_plans_101 rfl rfl ?_
        refine q_iload_n (pc := 102) dX12_plans_102 rfl rfl ?_
        refine q_iast (pc := 103) dX12_plans_103 (oA_sh (Model_s_planTank hm)) (oA_lt (Model_s_planTank hm)) rfl hQ10 ?_
        refine q_aload_n (pc := 104) dX12_plans_104 rfl rfl ?_
        refine q_getP (pc := 105) dX12_plans_105 fX12_34 (Model_sh hm) ⟨by decide, rfl⟩ (Model_lt hm) (Model_p_plannedRow hm) ?_
        refine q_aload_n (pc := 108) dX12_plans_108 rfl rfl ?_
        refine q_getI (pc := 109) dX12_plans_109 fX12_160 (Model_sh hm) ⟨by decide, rfl⟩ (Model_lt hm) ?_
        rw [show bq_u I2 (m + 10) ((qg g).1 k) (nI t) m 17 = nI (pln g (qg g).1 k).2.1 from by rw [bq_u_ne (by omega)]; exact hJ2.2.2.1]
        refine q_iload_n (pc := 112) dX12_plans_112 rfl rfl ?_
        refine q_iast (pc := 113) dX12_plans_113 (oA_sh (Model_s_plannedRow hm)) (oA_lt (Model_s_plannedRow hm)) rfl (show _ < 10 by omega) ?_
        refine q_aload_n (pc := 114) dX12_plans_114 rfl rfl ?_
        refine q_dup (pc := 115) dX12_plans_115 rfl ?_
        refine q_getI (pc := 116) dX12_plans_116 fX12_160 (Model_sh hm) ⟨by decide, rfl⟩ (Model_lt hm) ?_
        rw [show bq_u (bq_u I2 (m + 10) ((qg g).1 k) (nI t)) (m + 9) (pln g (qg g).1 k).2.1 (nI ((qg g).1 k)) m 17 = nI (pln g (qg g).1 k).2.1 from by rw [bq_u_ne (by omega), bq_u_ne (by omega)]; exact hJ2.2.2.1]
        refine q_iconst (pc := 119) (v := nI 1) dX12_plans_119 (by decide) ?_
        refine q_iaddN (pc := 120) dX12_plans_120 ?_
        refine q_putI (pc := 121) dX12_plans_121 (pX12_160 _) (Model_sh hm) ⟨by decide, rfl⟩ (Model_lt hm) ?_
        refine q_nameI (fun I3 e3 => ?_)
        have hp3 : ∀ t, t < 6 → ∀ j, j < 16 → I3 (m + 12) (16 * t + j) = nI ((pln g (qg g).1 k).1 t j) := fun t ht j hj => by rw [e3, bq_u_ne (by omega), bq_u_ne (by omega), bq_u_ne (by omega)]; exact hJ2.2.2.2.2.2.2 t ht j hj
        refine q_aload_n (pc := 124) dX12_plans_124 rfl rfl ?_
        refine q_iload_n (pc := 125) dX12_plans_125 rfl rfl ?_
        refine q_callVF (pc := 126) dX12_plans_126 kX12_157 (c_X12_looksAtPlan hm (t := t) (by omega)) (Model_sh hm) rfl (Model_lt hm) ⟨Nat.le_of_ble_eq_true rfl, Nat.le_of_ble_eq_true rfl⟩ rfl rfl (Nat.le_of_ble_eq_true rfl) ?_
        show bq_W _ _ _ _ _ 129 _ [] _ _ _ _ _ _
        refine q_nameI (fun I4 e4 => ?_)
        have u4 : ∀ a, a ≠ m + 6 → I4 a = I3 a := fun a ha => by rw [e4]; exact fl_ne ha 16
        have h6 : ∀ j, j < 16 → I4 (m + 6) j = nI ((pln g (qg g).1 k).1 t j) := fun j hj => by rw [e4]; exact (fl_at (I := I3) (d := m + 6) (ix := fun j => j) (v := fun j => I3 (m + 12) (16 * t + j)) (j := j) 16 (fun a b _ _ h => h) hj).trans (hp3 t ht6 j hj)
        have hg4 : I4 (m + 1) = g := by rw [u4 _ (by omega), e3, bq_u_ne (by omega), bq_u_ne (by omega), bq_u_ne (by omega)]; exact hJ2.g hg
        refine q_aload_n (pc := 129) dX12_plans_129 rfl rfl ?_
        refine q_aload_n (pc := 130) dX12_plans_130 rfl rfl ?_
        refine q_iload_n (pc := 131) dX12_plans_131 rfl rfl ?_
        refine q_iconst (pc := 132) (v := nI 1) dX12_plans_132 (by decide) ?_
        refine q_callVF (pc := 133) dX12_plans_133 kX12_118 (c_oA hm (o := ((qg g).1 k)) (k := 1) (j := 205 + 9 * ((qg g).1 k)) (by omega) (by omega)) (Model_sh hm) rfl (Model_lt hm) ⟨Nat.le_of_ble_eq_true rfl, Nat.le_of_ble_eq_true rfl⟩ rfl rfl (Nat.le_of_ble_eq_true rfl) ?_
        show bq_W _ _ _ _ _ 136 _ [_, _] _ _ _ _ _ _
        rw [hg4, hl]
        refine q_callV (pc := 136) dX12_plans_136 kX12_109 (c_X12_takes hm h6 f1 hpos htb) (Model_sh hm) rfl (Model_lt hm) ⟨Nat.le_of_ble_eq_true rfl, Nat.le_of_ble_eq_true rfl⟩ rfl rfl (Nat.le_of_ble_eq_true rfl) ?_
        rintro _ S5 n5 I5 L5 P5 ⟨rfl, eS5, en5, eL5, eP5, f5, t5⟩
        subst S5 n5 L5 P5
        show bq_W _ _ _ _ _ 139 _ [] _ _ _ _ _ _
        refine q_iconst (pc := 139) (v := nI 0) dX12_plans_139 (by decide) ?_
        refine q_istore_n (pc := 140) dX12_plans_140 rfl (Nat.le_of_ble_eq_true rfl) rfl ?_
        show bq_W _ _ _ _ _ 141 [_, _, _, _] _ _ _ _ _ _ _
        have lp : ∀ i, i ≤ 16 → bq_W mX12_plans 6 122 0 0 141 [some (.ref m), some (.int (nI ((qg g).1 k))), some (.int (nI t)), some (.int (nI i))] [] S n (fl I5 (m + 12) (fun j => 16 * t + j) (fun j => I5 (m + 12) (16 * t + j) - I5 (m + 7) j) i) L P (qPl m g I S n L P) := by
          refine bq_down (A := fun i => bq_W mX12_plans 6 122 0 0 141 [some (.ref m), some (.int (nI ((qg g).1 k))), some (.int (nI t)), some (.int (nI i))] [] S n (fl I5 (m + 12) (fun j => 16 * t + j) (fun j => I5 (m + 12) (16 * t + j) - I5 (m + 7) j) i) L P (qPl m g I S n L P)) 16 ?_ ?_
          · refine q_iload_n (pc := 141) dX12_plans_141 rfl rfl ?_
            refine q_bipush (pc := 142) (v := nI 16) dX12_plans_142 (by decide) ?_
            refine q_icmp_ge (pc := 144) 173 dX12_plans_144 (by decide) (fun c_144 => ?_) (fun c_144 => absurd (by decide) c_144)
            refine q_nameI (fun I6 e6 => ?_)
            have hJ3 : PJ m g I I6 (k + 1) := hJ2.some hb ht6 hQ10 e3 u4 f5 t5 e6 (npt_in f1 hpos).1
            refine q_aload_n (pc := 173) dX12_plans_173 rfl rfl ?_
            refine q_callVF (pc := 174) dX12_plans_174 kX12_163 (c_X12_nextOrder hm (hJ3.g hg) hG hJ3.sn (fun _ => rfl)) (Model_sh hm) rfl (Model_lt hm) ⟨Nat.le_of_ble_eq_true rfl, Nat.le_of_ble_eq_true rfl⟩ rfl rfl (Nat.le_of_ble_eq_true rfl) ?_
            show bq_W _ _ _ _ _ 177 _ [_] _ _ _ _ _ _
            rw [hnx (k + 1) hk]
            refine q_istore_n (pc := 177) dX12_plans_177 rfl (Nat.le_of_ble_eq_true rfl) rfl ?_
            show bq_W _ _ _ _ _ 178 [_, _, _, _] _ _ _ _ _ _ _
            refine q_goto (pc := 178) 74 dX12_plans_178 (by decide) ?_
            exact ih _ _ _ hJ3
          · intro i hi ih
            refine q_iload_n (pc := 141) dX12_plans_141 rfl rfl ?_
            refine q_bipush (pc := 142) (v := nI 16) dX12_plans_142 (by decide) ?_
            refine q_icmp_ge (pc := 144) 173 dX12_plans_144 (by decide) (fun c_144 => absurd c_144 (nI_ge hi (by decide))) (fun c_144 => ?_)
            refine q_aload_n (pc := 147) dX12_plans_147 rfl rfl ?_
            refine q_getP (pc := 148) dX12_plans_148 fX12_44 (Model_sh hm) ⟨by decide, rfl⟩ (Model_lt hm) (Model_p_planned hm) ?_
            refine q_bipush (pc := 151) (v := nI 16) dX12_plans_151 (by decide) ?_
            refine q_iload_n (pc := 153) dX12_plans_153 rfl rfl ?_
            refine q_imulN (pc := 154) dX12_plans_154 ?_
            refine q_iload_n (pc := 155) dX12_plans_155 rfl rfl ?_
            refine q_iaddN (pc := 156) dX12_plans_156 ?_
            refine q_dup2 (pc := 157) dX12_plans_157 rfl rfl ?_
            refine q_iald (pc := 158) dX12_plans_158 (oA_sh (Model_s_planned hm)) (oA_lt (Model_s_planned hm)) rfl (by omega) ?_
            refine q_aload_n (pc := 159) dX12_plans_159 rfl rfl ?_
            refine q_getP (pc := 160) dX12_plans_160 fX12_28 (Model_sh hm) ⟨by decide, rfl⟩ (Model_lt hm) (Model_p_taken hm) ?_
            refine q_iload_n (pc := 163) dX12_plans_163 rfl rfl ?_
            refine q_iald (pc := 164) dX12_plans_164 (oA_sh (Model_s_taken hm)) (oA_lt (Model_s_taken hm)) rfl (by omega) ?_
            rw [fl_no i (fun q hq => by omega), fl_ne (show m + 7 ≠ m + 12 by omega) i]
            refine q_isub (pc := 165) dX12_plans_165 ?_
            refine q_iast (pc := 166) dX12_plans_166 (oA_sh (Model_s_planned hm)) (oA_lt (Model_s_planned hm)) rfl (by omega) ?_
            refine q_iinc (pc := 167) (v := nI (i + 1)) dX12_plans_167 rfl (bq_inc _) (Nat.le_of_ble_eq_true rfl) rfl ?_
            show bq_W _ _ _ _ _ 170 [_, _, _, _] _ _ _ _ _ _ _
            refine q_goto (pc := 170) 141 dX12_plans_170 (by decide) ?_
            exact ih
        exact lp 0 (by decide)
  have lb : ∀ i, i ≤ 96 → ∀ J : BqI, PB m g I J i → bq_W mX12_plans 6 122 0 0 36 [some (.ref m), some (.int (nI i)), none, none] [] S n J L P (qPl m g I S n L P) := by
    refine bq_down (A := fun i => ∀ J : BqI, PB m g I J i → bq_W mX12_plans 6 122 0 0 36 [some (.ref m), some (.int (nI i)), none, none] [] S n J L P (qPl m g I S n L P)) 96 ?_ ?_
    · intro J hJ
      refine q_iload_n (pc := 36) dX12_plans_36 rfl rfl ?_
      refine q_aload_n (pc := 37) dX12_plans_37 rfl rfl ?_
      refine q_getP (pc := 38) dX12_plans_38 fX12_44 (Model_sh hm) ⟨by decide, rfl⟩ (Model_lt hm) (Model_p_planned hm) ?_
      refine q_alen (pc := 41) dX12_plans_41 (oA_sh (Model_s_planned hm)) (by decide) (oA_lt (Model_s_planned hm)) ?_
      refine q_icmp_ge (pc := 42) 69 dX12_plans_42 (by decide) (fun c_42 => ?_) (fun c_42 => absurd (by decide) c_42)
      have hJ0 : PJ m g I J 0 := hJ.start
      refine q_aload_n (pc := 69) dX12_plans_69 rfl rfl ?_
      refine q_callVF (pc := 70) dX12_plans_70 kX12_163 (c_X12_nextOrder hm (hJ0.g hg) hG hJ0.sn (fun _ => rfl)) (Model_sh hm) rfl (Model_lt hm) ⟨Nat.le_of_ble_eq_true rfl, Nat.le_of_ble_eq_true rfl⟩ rfl rfl (Nat.le_of_ble_eq_true rfl) ?_
      show bq_W _ _ _ _ _ 73 _ [_] _ _ _ _ _ _
      rw [hnx 0 (Nat.zero_le _)]
      refine q_istore_n (pc := 73) dX12_plans_73 rfl (Nat.le_of_ble_eq_true rfl) rfl ?_
      show bq_W _ _ _ _ _ 74 [_, _, _, _] _ _ _ _ _ _ _
      exact l2 0 (Nat.zero_le _) _ _ _ hJ0
    · intro i hi ih J hJ
      refine q_iload_n (pc := 36) dX12_plans_36 rfl rfl ?_
      refine q_aload_n (pc := 37) dX12_plans_37 rfl rfl ?_
      refine q_getP (pc := 38) dX12_plans_38 fX12_44 (Model_sh hm) ⟨by decide, rfl⟩ (Model_lt hm) (Model_p_planned hm) ?_
      refine q_alen (pc := 41) dX12_plans_41 (oA_sh (Model_s_planned hm)) (by decide) (oA_lt (Model_s_planned hm)) ?_
      refine q_icmp_ge (pc := 42) 69 dX12_plans_42 (by decide) (fun c_42 => absurd c_42 (nI_ge hi (by decide))) (fun c_42 => ?_)
      refine q_aload_n (pc := 45) dX12_plans_45 rfl rfl ?_
      refine q_getP (pc := 46) dX12_plans_46 fX12_44 (Model_sh hm) ⟨by decide, rfl⟩ (Model_lt hm) (Model_p_planned hm) ?_
      refine q_iload_n (pc := 49) dX12_plans_49 rfl rfl ?_
      refine q_aload_n (pc := 50) dX12_plans_50 rfl rfl ?_
      refine q_iload_n (pc := 51) dX12_plans_51 rfl rfl ?_
      refine q_bipush (pc := 52) (v := nI 16) dX12_plans_52 (by decide) ?_
      refine q_idiv (pc := 54) dX12_plans_54 (nI_ne0 (by decide) (by decide)) ?_
      rw [pk_div (by omega) (by decide) (by decide)]
      refine q_iload_n (pc := 55) dX12_plans_55 rfl rfl ?_
      refine q_bipush (pc := 56) (v := nI 16) dX12_plans_56 (by decide) ?_
      refine q_irem (pc := 58) dX12_plans_58 (nI_ne0 (by decide) (by decide)) ?_
      rw [pk_rem (by omega) (by decide) (by decide)]
      refine q_callVF (pc := 59) dX12_plans_59 kX12_77 (c_X12_partAt hm (t := (i / 16)) (b := (i % 16)) (by omega)) (Model_sh hm) rfl (Model_lt hm) ⟨Nat.le_of_ble_eq_true rfl, Nat.le_of_ble_eq_true rfl⟩ rfl rfl (Nat.le_of_ble_eq_true rfl) ?_
      show bq_W _ _ _ _ _ 62 _ [_, _, _] _ _ _ _ _ _
      refine q_iast (pc := 62) dX12_plans_62 (oA_sh (Model_s_planned hm)) (oA_lt (Model_s_planned hm)) rfl hi ?_
      refine q_iinc (pc := 63) (v := nI (i + 1)) dX12_plans_63 rfl (bq_inc _) (Nat.le_of_ble_eq_true rfl) rfl ?_
      show bq_W _ _ _ _ _ 66 [_, _, _, _] _ _ _ _ _ _ _
      refine q_goto (pc := 66) 36 dX12_plans_66 (by decide) ?_
      exact ih _ (hJ.step hG hg hi)
  have la : ∀ i, i ≤ 10 → ∀ J : BqI, PA m g I J i → bq_W mX12_plans 6 122 0 0 7 [some (.ref m), some (.int (nI i)), none, none] [] S n J L P (qPl m g I S n L P) := by
    refine bq_down (A := fun i => ∀ J : BqI, PA m g I J i → bq_W mX12_plans 6 122 0 0 7 [some (.ref m), some (.int (nI i)), none, none] [] S n J L P (qPl m g I S n L P)) 10 ?_ ?_
    · intro J hJ
      refine q_iload_n (pc := 7) dX12_plans_7 rfl rfl ?_
      refine q_bipush (pc := 8) (v := nI 10) dX12_plans_8 (by decide) ?_
      refine q_icmp_ge (pc := 10) 34 dX12_plans_10 (by decide) (fun c_10 => ?_) (fun c_10 => absurd (by decide) c_10)
      refine q_iconst (pc := 34) (v := nI 0) dX12_plans_34 (by decide) ?_
      refine q_istore_n (pc := 35) dX12_plans_35 rfl (Nat.le_of_ble_eq_true rfl) rfl ?_
      show bq_W _ _ _ _ _ 36 [_, _, _, _] _ _ _ _ _ _ _
      exact lb 0 (Nat.zero_le _) _ hJ.start'
    · intro i hi ih J hJ
      refine q_iload_n (pc := 7) dX12_plans_7 rfl rfl ?_
      refine q_bipush (pc := 8) (v := nI 10) dX12_plans_8 (by decide) ?_
      refine q_icmp_ge (pc := 10) 34 dX12_plans_10 (by decide) (fun c_10 => absurd c_10 (nI_ge hi (by decide))) (fun c_10 => ?_)
      refine q_aload_n (pc := 13) dX12_plans_13 rfl rfl ?_
      refine q_getP (pc := 14) dX12_plans_14 fX12_37 (Model_sh hm) ⟨by decide, rfl⟩ (Model_lt hm) (Model_p_planTank hm) ?_
      refine q_iload_n (pc := 17) dX12_plans_17 rfl rfl ?_
      refine q_bipush (pc := 18) (v := (-5)) dX12_plans_18 (by decide) ?_
      refine q_iast (pc := 20) dX12_plans_20 (oA_sh (Model_s_planTank hm)) (oA_lt (Model_s_planTank hm)) rfl hi ?_
      refine q_aload_n (pc := 21) dX12_plans_21 rfl rfl ?_
      refine q_getP (pc := 22) dX12_plans_22 fX12_40 (Model_sh hm) ⟨by decide, rfl⟩ (Model_lt hm) (Model_p_wasSeen hm) ?_
      refine q_iload_n (pc := 25) dX12_plans_25 rfl rfl ?_
      refine q_iconst (pc := 26) (v := nI 0) dX12_plans_26 (by decide) ?_
      refine q_bast (pc := 27) dX12_plans_27 (oZ_sh (Model_s_wasSeen hm)) (oZ_lt (Model_s_wasSeen hm)) rfl hi (Or.inl (by decide)) ?_
      refine q_iinc (pc := 28) (v := nI (i + 1)) dX12_plans_28 rfl (bq_inc _) (Nat.le_of_ble_eq_true rfl) rfl ?_
      show bq_W _ _ _ _ _ 31 [_, _, _, _] _ _ _ _ _ _ _
      refine q_goto (pc := 31) 7 dX12_plans_31 (by decide) ?_
      exact ih _ hJ.step
  refine q_aload_n (pc := 0) dX12_plans_0 rfl rfl ?_
  refine q_iconst (pc := 1) (v := nI 0) dX12_plans_1 (by decide) ?_
  refine q_putI (pc := 2) dX12_plans_2 (pX12_160 _) (Model_sh hm) ⟨by decide, rfl⟩ (Model_lt hm) ?_
  refine q_iconst (pc := 5) (v := nI 0) dX12_plans_5 (by decide) ?_
  refine q_istore_n (pc := 6) dX12_plans_6 rfl (Nat.le_of_ble_eq_true rfl) rfl ?_
  show bq_W _ _ _ _ _ 7 [_, _, _, _] _ _ _ _ _ _ _
  exact la 0 (Nat.zero_le _) _ PA.start
/-! mixing, in numbers -/
theorem q_topL {M : BqM} {fr lo kc ks pc : Nat} {vs : List (Option Value)} {st : List Value} {S : BqH} {n : Nat} {I : BqI} {L : BqL} {P : BqP} {post : BqQ} {x : Int64} (k : ∀ y : Int64, y = x → bq_W M fr lo kc ks pc vs (.long y :: st) S n I L P post) : bq_W M fr lo kc ks pc vs (.long x :: st) S n I L P post := k x rfl
/-- a whole number in the machine's long -/
def Lz (x : Int64) (z : Int) : Prop := x.toInt = z
theorem Lz.add {x y : Int64} {a b : Int} (h : Lz x a) (h' : Lz y b) (h1 : -(2 ^ 62) ≤ a + b) (h2 : a + b ≤ 2 ^ 62) : Lz (x + y) (a + b) := by
  unfold Lz at *
  rw [Int64.toInt_add, h, h', Int.bmod_eq_of_le (by omega) (by omega)]
theorem Lz.sub {x y : Int64} {a b : Int} (h : Lz x a) (h' : Lz y b) (h1 : -(2 ^ 62) ≤ a - b) (h2 : a - b ≤ 2 ^ 62) : Lz (x - y) (a - b) := by
  unfold Lz at *
  rw [Int64.toInt_sub, h, h', Int.bmod_eq_of_le (by omega) (by omega)]
theorem Lz.mul {x y : Int64} {a b : Int} (h : Lz x a) (h' : Lz y b) (h1 : -(2 ^ 62) ≤ a * b) (h2 : a * b ≤ 2 ^ 62) : Lz (x * y) (a * b) := by
  unfold Lz at *
  rw [Int64.toInt_mul, h, h', Int.bmod_eq_of_le (by omega) (by omega)]
theorem Lz.nat {a : Nat} (h : a < 2 ^ 62) : Lz (lN a) a := pk_lT (by omega)
theorem Lz.nI {a : Nat} (h : a < 2 ^ 31) : Lz (nI a).toInt64 a := by
  unfold Lz
  rw [Int32.toInt_toInt64, nI_toInt h]
theorem Lz.abs {x : Int64} {a : Int} (h : Lz x a) (h1 : -(2 ^ 62) ≤ a) (h2 : a ≤ 2 ^ 62) : (if 0 < x then x else -x) = lN a.natAbs := by
  refine Int64.toInt_inj.mp ?_
  rw [pk_lT (by omega)]
  have h0 : (0 : Int64).toInt = 0 := by decide
  by_cases c : 0 < x
  · rw [if_pos c]
    have := Int64.lt_iff_toInt_lt.mp c
    unfold Lz at h
    omega
  · rw [if_neg c]
    have c2 : ¬ (0 : Int64).toInt < x.toInt := fun q => c (Int64.lt_iff_toInt_lt.mpr q)
    unfold Lz at h
    rw [Int64.toInt_neg, h, Int.bmod_eq_of_le (by omega) (by omega)]
    omega
/-- alcohol of a blend: parts by strengths -/
def al (F s : Nat → Nat) : Nat := ns (fun b => F b * s b) 16
def so (F s : Nat → Nat) : Nat := ns (fun b => if F b = 0 then 0 else s b) 16
/-- how far a mixture is off -/
def dz (F G s : Nat → Nat) (l w : Nat) (k : Nat) : Int := (al (npt F k) s : Int) + al (npt G (l - k)) s - (l * w : Nat)
/-- what the portion rounds away: less than a litre of each batch that is there -/
theorem al_near {F s : Nat → Nat} {k : Nat} (hk : k ≤ ns F 16) (hp : 0 < ns F 16) : (ns F 16 : Int) * al (npt F k) s ≤ (k : Int) * al F s + ns F 16 * so F s ∧ (k : Int) * al F s ≤ (ns F 16 : Int) * al (npt F k) s + ns F 16 * so F s := by
  obtain ⟨h, -⟩ := npt_in (F := F) (l := k) hk hp
  have key : ∀ m, m ≤ 16 → ns F 16 * ns (fun b => npt F k b * s b) m ≤ k * ns (fun b => F b * s b) m + ns F 16 * ns (fun b => if F b = 0 then 0 else s b) m ∧ k * ns (fun b => F b * s b) m ≤ ns F 16 * ns (fun b => npt F k b * s b) m + ns F 16 * ns (fun b => if F b = 0 then 0 else s b) m := by
    intro m
    induction m with
    | zero => intro _; exact ⟨Nat.le_refl _, Nat.le_refl _⟩
    | succ m ih =>
      intro hm
      obtain ⟨i1, i2⟩ := ih (by omega)
      obtain ⟨a1, a2, a3⟩ := h m (by omega)
      have hd := Nat.div_add_mod (F m * k) (ns F 16)
      have hm2 := Nat.mod_lt (F m * k) hp
      have e1 : nqq F k m = F m * k / ns F 16 := rfl
      show ns F 16 * (ns (fun b => npt F k b * s b) m + npt F k m * s m) ≤ k * (ns (fun b => F b * s b) m + F m * s m) + ns F 16 * (ns (fun b => if F b = 0 then 0 else s b) m + (if F m = 0 then 0 else s m)) ∧ k * (ns (fun b => F b * s b) m + F m * s m) ≤ ns F 16 * (ns (fun b => npt F k b * s b) m + npt F k m * s m) + ns F 16 * (ns (fun b => if F b = 0 then 0 else s b) m + (if F m = 0 then 0 else s m))
      generalize ns (fun b => npt F k b * s b) m = X at *
      generalize ns (fun b => F b * s b) m = Y at *
      generalize ns (fun b => if F b = 0 then 0 else s b) m = Z at *
      generalize ns F 16 = A at *
      by_cases c : F m = 0
      · rw [if_pos c]
        have z : npt F k m = 0 := by omega
        rw [c, z]
        simp only [Nat.zero_mul, Nat.add_zero]
        exact ⟨i1, i2⟩
      · rw [if_neg c]
        rw [← e1] at hd
        -- the part itself, in whole litres times A
        have u1 : A * npt F k m ≤ F m * k + A := by
          have : A * npt F k m ≤ A * (nqq F k m + 1) := Nat.mul_le_mul_left _ a3
          rw [Nat.mul_add, Nat.mul_one] at this
          omega
        have u2 : F m * k ≤ A * npt F k m + A := by
          have : A * nqq F k m ≤ A * npt F k m := Nat.mul_le_mul_left _ a1
          omega
        have v1 : A * (npt F k m * s m) ≤ k * (F m * s m) + A * s m := by
          have := Nat.mul_le_mul_right (s m) u1
          rw [Nat.add_mul] at this
          calc A * (npt F k m * s m) = A * npt F k m * s m := by rw [Nat.mul_assoc]
            _ ≤ F m * k * s m + A * s m := this
            _ = k * (F m * s m) + A * s m := by rw [Nat.mul_comm (F m) k, Nat.mul_assoc]
        have v2 : k * (F m * s m) ≤ A * (npt F k m * s m) + A * s m := by
          have := Nat.mul_le_mul_right (s m) u2
          rw [Nat.add_mul] at this
          calc k * (F m * s m) = F m * k * s m := by rw [Nat.mul_comm (F m) k, Nat.mul_assoc]
            _ ≤ A * npt F k m * s m + A * s m := this
            _ = A * (npt F k m * s m) + A * s m := by rw [Nat.mul_assoc]
        rw [Nat.mul_add, Nat.mul_add, Nat.mul_add]
        exact ⟨by omega, by omega⟩
  obtain ⟨k1, k2⟩ := key 16 (Nat.le_refl _)
  unfold al so
  have c1 := Int.ofNat_le.mpr k1
  have c2 := Int.ofNat_le.mpr k2
  simp only [Int.natCast_add, Int.natCast_mul] at c1 c2
  exact ⟨c1, c2⟩
/-- where the line is far off, the portions are far off -/
theorem dz_far {F G s : Nat → Nat} {l w k c : Nat} (hF : 0 < ns F 16) (hG : 0 < ns G 16) (hk : k ≤ ns F 16) (hk2 : l - k ≤ ns G 16) (hkl : k ≤ l) (h : ((c : Int) + (so F s + so G s)) * (ns F 16 * ns G 16) ≤ (((al G s : Int) * ns F 16 * l - (l * w : Nat) * (ns F 16 * ns G 16)) + ((al F s : Int) * ns G 16 - al G s * ns F 16) * k).natAbs) : c ≤ (dz F G s l w k).natAbs := by
  obtain ⟨f1, f2⟩ := al_near (s := s) hk hF
  obtain ⟨g1, g2⟩ := al_near (s := s) hk2 hG
  unfold dz
  generalize hA : (ns F 16 : Int) = A at *
  generalize hB : (ns G 16 : Int) = B at *
  have hA0 : 0 < A := by omega
  have hB0 : 0 < B := by omega
  rw [Int.ofNat_sub hkl] at g1 g2
  generalize (al (npt F k) s : Int) = x at *
  generalize (al (npt G (l - k)) s : Int) = y at *
  generalize (al F s : Int) = p at *
  generalize (al G s : Int) = q at *
  generalize (so F s : Int) = u at *
  generalize (so G s : Int) = v at *
  generalize ((l * w : Nat) : Int) = z at *
  generalize (k : Int) = m at *
  generalize (l : Int) = n at *
  -- A B (x + y - z) against the line
  have e1 := Int.mul_le_mul_of_nonneg_left f1 (Int.le_of_lt hB0)
  have e2 := Int.mul_le_mul_of_nonneg_left f2 (Int.le_of_lt hB0)
  have e3 := Int.mul_le_mul_of_nonneg_left g1 (Int.le_of_lt hA0)
  have e4 := Int.mul_le_mul_of_nonneg_left g2 (Int.le_of_lt hA0)
  have r1 : B * (A * x) = A * B * x := by rw [← Int.mul_assoc, Int.mul_comm B A]
  have r2 : A * (B * y) = A * B * y := by rw [← Int.mul_assoc]
  have r3 : B * (m * p + A * u) = p * B * m + A * B * u := by
    rw [Int.mul_add, ← Int.mul_assoc B A u, Int.mul_comm B A, ← Int.mul_assoc B m p, Int.mul_comm (B * m) p, ← Int.mul_assoc]
  have r4 : B * (A * x + A * u) = A * B * x + A * B * u := by rw [Int.mul_add, r1, ← Int.mul_assoc B A u, Int.mul_comm B A]
  have r5 : A * ((n - m) * q + B * v) = q * A * n - q * A * m + A * B * v := by
    rw [Int.mul_add, ← Int.mul_assoc A B v, ← Int.mul_assoc A (n - m) q, Int.mul_comm (A * (n - m)) q, ← Int.mul_assoc, Int.mul_sub]
  have r6 : A * (B * y + B * v) = A * B * y + A * B * v := by rw [Int.mul_add, r2, ← Int.mul_assoc A B v]
  have r7 : B * (m * p) = p * B * m := by rw [← Int.mul_assoc, Int.mul_comm (B * m) p, ← Int.mul_assoc]
  have r8 : A * ((n - m) * q) = q * A * n - q * A * m := by rw [← Int.mul_assoc, Int.mul_comm (A * (n - m)) q, ← Int.mul_assoc, Int.mul_sub]
  rw [r1, r3] at e1
  rw [r7, r4] at e2
  rw [r2, r5] at e3
  rw [r8, r6] at e4
  have hline : q * A * n - z * (A * B) + (p * B - q * A) * m = p * B * m + (q * A * n - q * A * m) - z * (A * B) := by
    rw [Int.sub_mul]; omega
  have hsc : ((c : Int) + (u + v)) * (A * B) = c * (A * B) + A * B * u + A * B * v := by
    rw [Int.add_mul, Int.add_mul, Int.mul_comm u, Int.mul_comm v]; omega
  rw [hline, hsc] at h
  have hz : A * B * (x + y - z) = A * B * x + A * B * y - z * (A * B) := by
    rw [Int.mul_sub, Int.mul_add, Int.mul_comm z]
  generalize hAB : A * B = C at *
  have hC0 : 0 < C := hAB ▸ Int.mul_pos hA0 hB0
  generalize C * x = X at *
  generalize C * y = Y at *
  generalize C * u = U at *
  generalize C * v = V at *
  generalize hZ : z * C = Z at *
  generalize p * B * m = P1 at *
  generalize q * A * n = Q1 at *
  generalize q * A * m = Q2 at *
  have hfin : (c : Int) * C ≤ (C * (x + y - z)).natAbs := by rw [hz]; omega
  rw [Int.natAbs_mul] at hfin
  have hCn : ((C.natAbs : Nat) : Int) = C := by omega
  have : c * C.natAbs ≤ C.natAbs * (x + y - z).natAbs := by
    have h2 : ((c * C.natAbs : Nat) : Int) ≤ ((C.natAbs * (x + y - z).natAbs : Nat) : Int) := by rw [Int.natCast_mul, hCn]; exact hfin
    exact Int.ofNat_le.mp h2
  rw [Nat.mul_comm] at this
  exact Nat.le_of_mul_le_mul_left this (by omega)
/-- the first of the least among lo .. lo + n - 1 -/
def mf (d : Nat → Nat) (lo : Nat) : Nat → Option Nat
  | 0 => none
  | i + 1 => match mf d lo i with
    | none => some (lo + i)
    | some q => if d (lo + i) < d q then some (lo + i) else some q
theorem mf_ok (d : Nat → Nat) (lo : Nat) : ∀ i, (i = 0 ∧ mf d lo i = none) ∨ ∃ q, mf d lo i = some q ∧ lo ≤ q ∧ q < lo + i ∧ (∀ k, lo ≤ k → k < lo + i → d q ≤ d k) ∧ ∀ k, lo ≤ k → k < q → d q < d k
  | 0 => Or.inl ⟨rfl, rfl⟩
  | i + 1 => by
    refine Or.inr ?_
    rcases mf_ok d lo i with ⟨h1, h2⟩ | ⟨q, h1, h2, h3, h4, h5⟩
    · refine ⟨lo + i, by show (match mf d lo i with | none => some (lo + i) | some q => if d (lo + i) < d q then some (lo + i) else some q) = _; rw [h2], by omega, by omega, fun k a b => ?_, fun k a b => absurd b (by omega)⟩
      have : k = lo + i := by omega
      rw [this]; exact Nat.le_refl _
    · by_cases c : d (lo + i) < d q
      · refine ⟨lo + i, by show (match mf d lo i with | none => some (lo + i) | some q => if d (lo + i) < d q then some (lo + i) else some q) = _; rw [h1]; exact if_pos c, by omega, by omega, fun k a b => ?_, fun k a b => ?_⟩
        · by_cases e : k = lo + i
          · rw [e]; exact Nat.le_refl _
          · have := h4 k a (by omega); omega
        · have := h4 k a (by omega); omega
      · refine ⟨q, by show (match mf d lo i with | none => some (lo + i) | some q => if d (lo + i) < d q then some (lo + i) else some q) = _; rw [h1]; exact if_neg c, h2, by omega, fun k a b => ?_, h5⟩
        by_cases e : k = lo + i
        · rw [e]; omega
        · exact h4 k a (by omega)
/-- the class's search: c the closest so far, f the one found -/
def Cs (d : Nat → Nat) (lo f0 : Nat) (i c f : Nat) : Prop := (∀ k, lo ≤ k → k < lo + i → c ≤ d k) ∧ ((c = d f ∧ lo ≤ f ∧ f < lo + i ∧ ∀ k, lo ≤ k → k < f → c < d k) ∨ (c = d f0 + 1 ∧ f = f0))
theorem Cs.start {d : Nat → Nat} {lo f0 : Nat} : Cs d lo f0 0 (d f0 + 1) f0 := ⟨fun k a b => absurd b (by omega), Or.inr ⟨rfl, rfl⟩⟩
theorem Cs.keep {d : Nat → Nat} {lo f0 i c f : Nat} (h : Cs d lo f0 i c f) (hc : c ≤ d (lo + i)) : Cs d lo f0 (i + 1) c f := by
  refine ⟨fun k a b => ?_, h.2.imp (fun q => ⟨q.1, q.2.1, by omega, q.2.2.2⟩) id⟩
  by_cases e : k = lo + i
  · rw [e]; exact hc
  · exact h.1 k a (by omega)
theorem Cs.take {d : Nat → Nat} {lo f0 i c f : Nat} (h : Cs d lo f0 i c f) (hc : d (lo + i) < c) : Cs d lo f0 (i + 1) (d (lo + i)) (lo + i) := by
  refine ⟨fun k a b => ?_, Or.inl ⟨rfl, by omega, by omega, fun k a b => ?_⟩⟩
  · by_cases e : k = lo + i
    · rw [e]; exact Nat.le_refl _
    · have := h.1 k a (by omega); omega
  · have := h.1 k a (by omega); omega
theorem Cs.end {d : Nat → Nat} {lo f0 n c f : Nat} (h : Cs d lo f0 n c f) (h1 : lo ≤ f0) (h2 : f0 < lo + n) : mf d lo n = some f := by
  obtain ⟨a, b⟩ := h
  rcases b with ⟨b1, b2, b3, b4⟩ | ⟨b1, b2⟩
  · rcases mf_ok d lo n with ⟨z, -⟩ | ⟨q, q1, q2, q3, q4, q5⟩
    · omega
    · rw [q1]
      have e1 := a q q2 q3
      have e2 := q4 f b2 b3
      rcases Nat.lt_trichotomy q f with c | c | c
      · have := b4 q q2 c; omega
      · rw [c]
      · have := q5 f b2 c; omega
  · have := a f0 h1 h2
    omega
/-! the accounts -/
def ac (g : BqG) (q b : Nat) : Nat := if q = 1 then gb g b else gn g (124 + 5 * b + (if q < 1 then 1 else q))
theorem ac_b {g : BqG} {en b q : Nat} (hG : GI g en) (hb : b < 16) (hq : q ≤ 3) : ac g q b ≤ 9999 ∧ (gn g 1 ≤ b → ac g q b = 0) := by
  have h := hG.2.2.2.2.2.2.2.2.1 b hb
  unfold ac
  by_cases c : q = 1
  · rw [if_pos c]
    refine ⟨by omega, fun z => ?_⟩
    have := h.2.2.2 z
    omega
  · rw [if_neg c]
    by_cases c0 : q < 1
    · rw [if_pos c0]
      exact ⟨h.2.2.1, fun z => h.2.2.2 z⟩
    · rw [if_neg c0]
      have hq2 : q = 2 ∨ q = 3 := by omega
      rcases hq2 with e | e
      · rw [e, show 124 + 5 * b + 2 = 126 + 5 * b by omega]
        refine ⟨by omega, fun z => ?_⟩
        have := h.2.2.2 z
        omega
      · rw [e, show 124 + 5 * b + 3 = 127 + 5 * b by omega]
        refine ⟨by omega, fun z => ?_⟩
        have := h.2.2.2 z
        omega
theorem gb_sum {g : BqG} {en b : Nat} (hG : GI g en) (hb : b < 16) : bq_sum (fun i => g (13 + 19 * i + b)) 6 = nI (gb g b) :=
  bq_sum_n 6 (fun j hj => hG.n (by omega) (by omega))
theorem ac_of {g : BqG} {en b q : Nat} (hG : GI g en) (hb : b < 16) (hq : q ≤ 3) : n_ofBatch g b (nI (1 + q)) = nI (ac g q b) := by
  by_cases c : q = 1
  · subst c
    unfold n_ofBatch ac
    rw [if_neg (by decide), if_neg (by decide), if_pos rfl, if_pos rfl]
    exact gb_sum hG hb
  · rw [n_ofBatch_at (q := 1 + q) (by omega)]
    unfold ac
    rw [if_neg c, show (if 1 + q < 2 then 1 + q else 1 + q - 1) = (if q < 1 then 1 else q) from by split <;> split <;> omega]
    refine hG.n ?_ ?_ <;> split <;> omega
theorem ns_end {F : Nat → Nat} {c : Nat} (h : ∀ j, c ≤ j → j < 16 → F j = 0) : ∀ d, c + d ≤ 16 → ns F (c + d) = ns F c
  | 0, _ => rfl
  | d + 1, hd => by
    show ns F (c + d) + F (c + d) = _
    rw [ns_end h d (by omega), h (c + d) (by omega) (by omega)]
    rfl
theorem ns_16 {F : Nat → Nat} {c : Nat} (hc : c ≤ 16) (h : ∀ j, c ≤ j → j < 16 → F j = 0) : ns F c = ns F 16 := by
  have e := ns_end h (16 - c) (by omega)
  rw [show c + (16 - c) = 16 by omega] at e
  exact e.symm
def oL (g : BqG) : Nat → Nat
  | 0 => 0
  | i + 1 => if g (208 + 9 * i) = 0 then oL g i + gn g (205 + 9 * i) else oL g i
theorem oL_le {g : BqG} {en : Nat} (hG : GI g en) : ∀ k, k ≤ 10 → oL g k ≤ 9999 * k
  | 0, _ => Nat.le_refl _
  | k + 1, hk => by
    have ih := oL_le hG k (by omega)
    have ho := (hG.o (o := k) (by omega)).1
    show (if g (208 + 9 * k) = 0 then oL g k + gn g (205 + 9 * k) else oL g k) ≤ _
    split <;> omega
def n_account (g : BqG) (k : Nat) : Int64 := if k < 3 then lN (ns (ac g k) 16) else if k < 7 then (g (324 + k - 3)).toInt64 else if k < 11 then lN (ns (fun b => ac g (k - 7) b * gn g (124 + 5 * b)) 16) else if k = 11 then lN (bq_ct (fun i => g (208 + 9 * i)) 0 (gn g 2)) else lN (oL g (gn g 2))
def r_account (g : BqG) (k : Int32) : Int64 := if k < nI 0 ∨ ¬ k ≤ nI 12 then (-9223372036854775808) else n_account g k.toNatClampNeg
theorem r_account_out {g : BqG} {k : Int32} (h : k < nI 0 ∨ ¬ k ≤ nI 12) : r_account g k = (-9223372036854775808) := if_pos h
theorem r_account_in {g : BqG} {k : Nat} (h : k ≤ 12) : r_account g (nI k) = n_account g k := by
  unfold r_account
  rw [if_neg (bq_tin (k := 12) (by omega) (by decide)), nI_clamp (by omega)]
theorem acc_lit {g : BqG} {en k : Nat} (hG : GI g en) (h : k < 3) : r_account g (nI k) = lN (ns (ac g k) (gn g 1)) := by
  rw [r_account_in (by omega), ns_16 hG.2.2.1 (fun j h1 h2 => (ac_b hG h2 (by omega)).2 h1)]
  exact if_pos h
theorem acc_alc {g : BqG} {en k : Nat} (hG : GI g en) (h : 7 ≤ k) (h2 : k < 11) : r_account g (nI k) = lN (ns (fun b => ac g (k - 7) b * gn g (124 + 5 * b)) (gn g 1)) := by
  rw [r_account_in (by omega), ns_16 hG.2.2.1 (fun j h1 h2 => by show ac g (k - 7) j * _ = 0; rw [(ac_b hG h2 (by omega)).2 h1, Nat.zero_mul])]
  unfold n_account
  rw [if_neg (by omega), if_neg (by omega), if_pos h2]
theorem acc_lost {g : BqG} {k : Nat} (h : 3 ≤ k) (h2 : k < 7) : r_account g (nI k) = (g (324 + k - 3)).toInt64 := by
  rw [r_account_in (by omega)]
  unfold n_account
  rw [if_neg (by omega), if_pos h2]
theorem acc_oc {g : BqG} : r_account g (nI 11) = lN (bq_ct (fun i => g (208 + 9 * i)) 0 (gn g 2)) := by
  rw [r_account_in (by omega)]
  rfl
theorem acc_ol {g : BqG} : r_account g (nI 12) = lN (oL g (gn g 2)) := by
  rw [r_account_in (by omega)]
  rfl
theorem acc_cases (k : Int32) : (k < nI 0 ∨ ¬ k ≤ nI 12) ∨ ∃ q, k = nI q ∧ (q < 3 ∨ (3 ≤ q ∧ q < 7) ∨ (7 ≤ q ∧ q < 11) ∨ q = 11 ∨ q = 12) := by
  rcases bq_in5 k 12 (by decide) with h | ⟨q, hq, rfl⟩
  · exact Or.inl h
  · exact Or.inr ⟨q, rfl, by omega⟩
set_option maxHeartbeats 1000000 in
set_option maxRecDepth 20000 in
theorem o_account_a {S : BqH} {n : Nat} {I : BqI} {L : BqL} {P : BqP} {m : Nat} {g : BqG} (hm : oModel S n P m) (hg : I (m + 1) = g) {en : Nat} (hG : GI g en) {k : Int32} (hk : k < nI 0 ∨ ¬ k ≤ nI 12) : bq_Sp mX12_account 4 81 0 0 [.ref m, .int k] S n I L P (bq_F (some (.long (r_account g k))) S n I L P) := by
  refine q_entry (vs := [some (.ref m), some (.int k), none, none, none, none, none]) (by decide +kernel) (by simp) (Nat.le_of_ble_eq_true rfl) rfl ?_
  refine q_iload_n (pc := 0) dX12_account_0 rfl rfl ?_
  refine q_iconst (pc := 1) (v := nI 0) dX12_account_1 (by decide) ?_
  refine q_bipush (pc := 2) (v := nI 12) dX12_account_2 (by decide) ?_
  refine q_callSF (pc := 4) dX12_account_4 kX12_69 c_X12_in ⟨Nat.le_of_ble_eq_true rfl, Nat.le_of_ble_eq_true rfl⟩ rfl rfl (Nat.le_of_ble_eq_true rfl) ?_
  show bq_W _ _ _ _ _ 7 _ [_] _ _ _ _ _ _
  refine q_if_ne (pc := 7) 14 dX12_account_7 (by decide) (fun c_7 => ((c_7 (bq_nb0.mpr hk))).elim) (fun c_7 => ?_)
  refine q_ldc2 (pc := 10) dX12_account_10 lX12_233 ?_
  exact q_lret (st := []) (pc := 13) dX12_account_13 rfl ⟨by rw [r_account_out hk], rfl, rfl, rfl, rfl, rfl⟩
set_option maxHeartbeats 1000000 in
set_option maxRecDepth 20000 in
theorem o_account_b {S : BqH} {n : Nat} {I : BqI} {L : BqL} {P : BqP} {m : Nat} {g : BqG} (hm : oModel S n P m) (hg : I (m + 1) = g) {en : Nat} (hG : GI g en) {k : Nat} (hk1 : 3 ≤ k) (hk2 : k < 7) : bq_Sp mX12_account 4 81 0 0 [.ref m, .int (nI k)] S n I L P (bq_F (some (.long (r_account g (nI k)))) S n I L P) := by
  refine q_entry (vs := [some (.ref m), some (.int (nI k)), none, none, none, none, none]) (by decide +kernel) (by simp) (Nat.le_of_ble_eq_true rfl) rfl ?_
  refine q_iload_n (pc := 0) dX12_account_0 rfl rfl ?_
  refine q_iconst (pc := 1) (v := nI 0) dX12_account_1 (by decide) ?_
  refine q_bipush (pc := 2) (v := nI 12) dX12_account_2 (by decide) ?_
  refine q_callSF (pc := 4) dX12_account_4 kX12_69 c_X12_in ⟨Nat.le_of_ble_eq_true rfl, Nat.le_of_ble_eq_true rfl⟩ rfl rfl (Nat.le_of_ble_eq_true rfl) ?_
  show bq_W _ _ _ _ _ 7 _ [_] _ _ _ _ _ _
  refine q_if_ne (pc := 7) 14 dX12_account_7 (by decide) (fun c_7 => ?_) (fun c_7 => ((bq_tin (k := 12) (by omega) (by decide) (bq_nb0.mp c_7))).elim)
  refine q_iload_n (pc := 14) dX12_account_14 rfl rfl ?_
  refine q_iconst (pc := 15) (v := nI 2) dX12_account_15 (by decide) ?_
  refine q_icmp_le (pc := 16) 39 dX12_account_16 (by decide) (fun c_16 => absurd c_16 (nI_ge (show 2 < k by omega) (by omega))) (fun c_16 => ?_)
  refine q_iload_n (pc := 19) dX12_account_19 rfl rfl ?_
  refine q_bipush (pc := 20) (v := nI 7) dX12_account_20 (by decide) ?_
  refine q_icmp_ge (pc := 22) 39 dX12_account_22 (by decide) (fun c_22 => absurd c_22 (nI_ge hk2 (by decide))) (fun c_22 => ?_)
  refine q_aload_n (pc := 25) dX12_account_25 rfl rfl ?_
  refine q_getP (pc := 26) dX12_account_26 fX12_9 (Model_sh hm) ⟨by decide, rfl⟩ (Model_lt hm) (Model_p_g hm) ?_
  refine q_sipush (pc := 29) (v := nI 324) dX12_account_29 (by decide) ?_
  refine q_iload_n (pc := 32) dX12_account_32 rfl rfl ?_
  refine q_iaddN (pc := 33) dX12_account_33 ?_
  refine q_iconst (pc := 34) (v := nI 3) dX12_account_34 (by decide) ?_
  refine q_isub (pc := 35) dX12_account_35 ?_
  rw [pk_sub (by omega)]
  refine q_iald (pc := 36) dX12_account_36 (oA_sh (Model_s_g hm)) (oA_lt (Model_s_g hm)) rfl (by omega) ?_
  refine q_i2l (pc := 37) dX12_account_37 ?_
  exact q_lret (st := []) (pc := 38) dX12_account_38 rfl ⟨by rw [hg, acc_lost hk1 hk2], rfl, rfl, rfl, rfl, rfl⟩
set_option maxHeartbeats 1560000 in
set_option maxRecDepth 20000 in
theorem o_account_c {S : BqH} {n : Nat} {I : BqI} {L : BqL} {P : BqP} {m : Nat} {g : BqG} (hm : oModel S n P m) (hg : I (m + 1) = g) {en : Nat} (hG : GI g en) {k : Nat} (hk : k < 3) : bq_Sp mX12_account 4 81 0 0 [.ref m, .int (nI k)] S n I L P (bq_F (some (.long (r_account g (nI k)))) S n I L P) := by
  refine q_entry (vs := [some (.ref m), some (.int (nI k)), none, none, none, none, none]) (by decide +kernel) (by simp) (Nat.le_of_ble_eq_true rfl) rfl ?_
  have h1 : I (m + 1) 1 = nI (gn g 1) := by rw [hg]; exact hG.n (by decide) (by decide)
  have hl : gn g 1 ≤ 16 := hG.2.2.1
  have h2 : I (m + 1) 2 = nI (gn g 2) := by rw [hg]; exact hG.n (by decide) (by decide)
  have h2l : gn g 2 ≤ 10 := hG.2.2.2.1
  refine q_iload_n (pc := 0) dX12_account_0 rfl rfl ?_
  refine q_iconst (pc := 1) (v := nI 0) dX12_account_1 (by decide) ?_
  refine q_bipush (pc := 2) (v := nI 12) dX12_account_2 (by decide) ?_
  refine q_callSF (pc := 4) dX12_account_4 kX12_69 c_X12_in ⟨Nat.le_of_ble_eq_true rfl, Nat.le_of_ble_eq_true rfl⟩ rfl rfl (Nat.le_of_ble_eq_true rfl) ?_
  show bq_W _ _ _ _ _ 7 _ [_] _ _ _ _ _ _
  refine q_if_ne (pc := 7) 14 dX12_account_7 (by decide) (fun c_7 => ?_) (fun c_7 => ((bq_tin (k := 12) (by omega) (by decide) (bq_nb0.mp c_7))).elim)
  refine q_iload_n (pc := 14) dX12_account_14 rfl rfl ?_
  refine q_iconst (pc := 15) (v := nI 2) dX12_account_15 (by decide) ?_
  refine q_icmp_le (pc := 16) 39 dX12_account_16 (by decide) (fun c_16 => ?_) (fun c_16 => absurd (nI_le (show k ≤ 2 by omega) (by decide)) c_16)
  refine q_lconst (pc := 39) dX12_account_39 rfl ?_
  refine q_lstore_n (pc := 40) dX12_account_40 rfl (Nat.le_of_ble_eq_true rfl) rfl ?_
  show bq_W _ _ _ _ _ 41 [_, _, _, _, _, _, _] _ _ _ _ _ _ _
  refine q_iload_n (pc := 41) dX12_account_41 rfl rfl ?_
  refine q_bipush (pc := 42) (v := nI 10) dX12_account_42 (by decide) ?_
  refine q_icmp_le (pc := 44) 103 dX12_account_44 (by decide) (fun c_44 => ?_) (fun c_44 => absurd (nI_le (show k ≤ 10 by omega) (by decide)) c_44)
  refine q_iload_n (pc := 103) dX12_account_103 rfl rfl ?_
  refine q_iconst (pc := 104) (v := nI 3) dX12_account_104 (by decide) ?_
  refine q_icmp_ge (pc := 105) 112 dX12_account_105 (by decide) (fun c_105 => absurd c_105 (nI_ge hk (by decide))) (fun c_105 => ?_)
  refine q_iload_n (pc := 108) dX12_account_108 rfl rfl ?_
  refine q_goto (pc := 109) 116 dX12_account_109 (by decide) ?_
  refine q_istore (pc := 116) dX12_account_116 (Nat.le_of_ble_eq_true rfl) rfl ?_
  show bq_W _ _ _ _ _ 118 [_, _, _, _, _, _, _] _ _ _ _ _ _ _
  refine q_iconst (pc := 118) (v := nI 0) dX12_account_118 (by decide) ?_
  refine q_istore (pc := 119) dX12_account_119 (Nat.le_of_ble_eq_true rfl) rfl ?_
  show bq_W _ _ _ _ _ 121 [_, _, _, _, _, _, _] _ _ _ _ _ _ _
  have lp : ∀ i, i ≤ (gn g 1) → bq_W mX12_account 4 81 0 0 121 [some (.ref m), some (.int (nI k)), some (.long (lN (ns (ac g k) i))), none, some (.int (nI k)), some (.int (nI i)), none] [] S n I L P (bq_F (some (.long (r_account g (nI k)))) S n I L P) := by
    refine bq_down (A := fun i => bq_W mX12_account 4 81 0 0 121 [some (.ref m), some (.int (nI k)), some (.long (lN (ns (ac g k) i))), none, some (.int (nI k)), some (.int (nI i)), none] [] S n I L P (bq_F (some (.long (r_account g (nI k)))) S n I L P)) (gn g 1) ?_ ?_
    · refine q_iload (pc := 121) dX12_account_121 rfl ?_
      refine q_aload_n (pc := 123) dX12_account_123 rfl rfl ?_
      refine q_getP (pc := 124) dX12_account_124 fX12_9 (Model_sh hm) ⟨by decide, rfl⟩ (Model_lt hm) (Model_p_g hm) ?_
      refine q_iconst (pc := 127) (v := nI 1) dX12_account_127 (by decide) ?_
      refine q_iald (pc := 128) dX12_account_128 (oA_sh (Model_s_g hm)) (oA_lt (Model_s_g hm)) rfl (by omega) ?_
      rw [h1]
      refine q_icmp_ge (pc := 129) 175 dX12_account_129 (by decide) (fun c_129 => ?_) (fun c_129 => absurd (nI_le (Nat.le_refl _) (by omega)) c_129)
      refine q_lload_n (pc := 175) dX12_account_175 rfl rfl ?_
      exact q_lret (st := []) (pc := 176) dX12_account_176 rfl ⟨by rw [acc_lit hG hk], rfl, rfl, rfl, rfl, rfl⟩
    · intro i hi ih
      refine q_iload (pc := 121) dX12_account_121 rfl ?_
      refine q_aload_n (pc := 123) dX12_account_123 rfl rfl ?_
      refine q_getP (pc := 124) dX12_account_124 fX12_9 (Model_sh hm) ⟨by decide, rfl⟩ (Model_lt hm) (Model_p_g hm) ?_
      refine q_iconst (pc := 127) (v := nI 1) dX12_account_127 (by decide) ?_
      refine q_iald (pc := 128) dX12_account_128 (oA_sh (Model_s_g hm)) (oA_lt (Model_s_g hm)) rfl (by omega) ?_
      rw [h1]
      refine q_icmp_ge (pc := 129) 175 dX12_account_129 (by decide) (fun c_129 => absurd c_129 (nI_ge hi (by omega))) (fun c_129 => ?_)
      refine q_aload_n (pc := 132) dX12_account_132 rfl rfl ?_
      refine q_iload (pc := 133) dX12_account_133 rfl ?_
      refine q_iconst (pc := 135) (v := nI 1) dX12_account_135 (by decide) ?_
      refine q_iload (pc := 136) dX12_account_136 rfl ?_
      refine q_iaddN (pc := 138) dX12_account_138 ?_
      refine q_callVF (pc := 139) dX12_account_139 kX12_243 (o_ofBatch hm hg hG (b := nI i)) (Model_sh hm) rfl (Model_lt hm) ⟨Nat.le_of_ble_eq_true rfl, Nat.le_of_ble_eq_true rfl⟩ rfl rfl (Nat.le_of_ble_eq_true rfl) ?_
      show bq_W _ _ _ _ _ 142 _ [_] _ _ _ _ _ _
      have hi16 : i < 16 := Nat.lt_of_lt_of_le hi hl
      have ha := (ac_b (q := k) hG hi16 (by omega)).1
      rw [r_ofBatch_n hG hi, ac_of hG hi16 (by omega)]
      refine q_istore (pc := 142) dX12_account_142 (Nat.le_of_ble_eq_true rfl) rfl ?_
      show bq_W _ _ _ _ _ 144 [_, _, _, _, _, _, _] _ _ _ _ _ _ _
      refine q_lload_n (pc := 144) dX12_account_144 rfl rfl ?_
      refine q_iload_n (pc := 145) dX12_account_145 rfl rfl ?_
      refine q_iconst (pc := 146) (v := nI 3) dX12_account_146 (by decide) ?_
      refine q_icmp_ge (pc := 147) 156 dX12_account_147 (by decide) (fun c_147 => absurd c_147 (nI_ge hk (by decide))) (fun c_147 => ?_)
      refine q_iload (pc := 150) dX12_account_150 rfl ?_
      refine q_i2l (pc := 152) dX12_account_152 ?_
      refine q_goto (pc := 153) 167 dX12_account_153 (by decide) ?_
      refine q_ladd (pc := 167) dX12_account_167 ?_
      rw [nI_l (by omega), lN_add]
      refine q_lstore_n (pc := 168) dX12_account_168 rfl (Nat.le_of_ble_eq_true rfl) rfl ?_
      show bq_W _ _ _ _ _ 169 [_, _, _, _, _, _, _] _ _ _ _ _ _ _
      refine q_iinc (pc := 169) (v := nI (i + 1)) dX12_account_169 rfl (bq_inc _) (Nat.le_of_ble_eq_true rfl) rfl ?_
      show bq_W _ _ _ _ _ 172 [_, _, _, _, _, _, _] _ _ _ _ _ _ _
      refine q_goto (pc := 172) 121 dX12_account_172 (by decide) ?_
      refine q_wk (vs2 := [some (.ref m), some (.int (nI k)), some (.long (lN (ns (ac g k) (i + 1)))), none, some (.int (nI k)), some (.int (nI (i + 1))), none]) ⟨rfl, rfl, rfl, rfl, rfl, trivial⟩ ?_
      exact ih
  exact lp 0 (Nat.zero_le _)
set_option maxHeartbeats 1760000 in
set_option maxRecDepth 20000 in
theorem o_account_d {S : BqH} {n : Nat} {I : BqI} {L : BqL} {P : BqP} {m : Nat} {g : BqG} (hm : oModel S n P m) (hg : I (m + 1) = g) {en : Nat} (hG : GI g en) {k : Nat} (hk0 : 7 ≤ k) (hk2 : k < 11) : bq_Sp mX12_account 4 81 0 0 [.ref m, .int (nI k)] S n I L P (bq_F (some (.long (r_account g (nI k)))) S n I L P) := by
  refine q_entry (vs := [some (.ref m), some (.int (nI k)), none, none, none, none, none]) (by decide +kernel) (by simp) (Nat.le_of_ble_eq_true rfl) rfl ?_
  have h1 : I (m + 1) 1 = nI (gn g 1) := by rw [hg]; exact hG.n (by decide) (by decide)
  have hl : gn g 1 ≤ 16 := hG.2.2.1
  have h2 : I (m + 1) 2 = nI (gn g 2) := by rw [hg]; exact hG.n (by decide) (by decide)
  have h2l : gn g 2 ≤ 10 := hG.2.2.2.1
  refine q_iload_n (pc := 0) dX12_account_0 rfl rfl ?_
  refine q_iconst (pc := 1) (v := nI 0) dX12_account_1 (by decide) ?_
  refine q_bipush (pc := 2) (v := nI 12) dX12_account_2 (by decide) ?_
  refine q_callSF (pc := 4) dX12_account_4 kX12_69 c_X12_in ⟨Nat.le_of_ble_eq_true rfl, Nat.le_of_ble_eq_true rfl⟩ rfl rfl (Nat.le_of_ble_eq_true rfl) ?_
  show bq_W _ _ _ _ _ 7 _ [_] _ _ _ _ _ _
  refine q_if_ne (pc := 7) 14 dX12_account_7 (by decide) (fun c_7 => ?_) (fun c_7 => ((bq_tin (k := 12) (by omega) (by decide) (bq_nb0.mp c_7))).elim)
  refine q_iload_n (pc := 14) dX12_account_14 rfl rfl ?_
  refine q_iconst (pc := 15) (v := nI 2) dX12_account_15 (by decide) ?_
  refine q_icmp_le (pc := 16) 39 dX12_account_16 (by decide) (fun c_16 => absurd c_16 (nI_ge (show 2 < k by omega) (by omega))) (fun c_16 => ?_)
  refine q_iload_n (pc := 19) dX12_account_19 rfl rfl ?_
  refine q_bipush (pc := 20) (v := nI 7) dX12_account_20 (by decide) ?_
  refine q_icmp_ge (pc := 22) 39 dX12_account_22 (by decide) (fun c_22 => ?_) (fun c_22 => absurd (nI_le hk0 (by omega)) c_22)
  refine q_lconst (pc := 39) dX12_account_39 rfl ?_
  refine q_lstore_n (pc := 40) dX12_account_40 rfl (Nat.le_of_ble_eq_true rfl) rfl ?_
  show bq_W _ _ _ _ _ 41 [_, _, _, _, _, _, _] _ _ _ _ _ _ _
  refine q_iload_n (pc := 41) dX12_account_41 rfl rfl ?_
  refine q_bipush (pc := 42) (v := nI 10) dX12_account_42 (by decide) ?_
  refine q_icmp_le (pc := 44) 103 dX12_account_44 (by decide) (fun c_44 => ?_) (fun c_44 => absurd (nI_le (show k ≤ 10 by omega) (by decide)) c_44)
  refine q_iload_n (pc := 103) dX12_account_103 rfl rfl ?_
  refine q_iconst (pc := 104) (v := nI 3) dX12_account_104 (by decide) ?_
  refine q_icmp_ge (pc := 105) 112 dX12_account_105 (by decide) (fun c_105 => ?_) (fun c_105 => absurd (nI_le (show 3 ≤ k by omega) (by omega)) c_105)
  refine q_iload_n (pc := 112) dX12_account_112 rfl rfl ?_
  refine q_bipush (pc := 113) (v := nI 7) dX12_account_113 (by decide) ?_
  refine q_isub (pc := 115) dX12_account_115 ?_
  rw [pk_sub (by omega)]
  refine q_istore (pc := 116) dX12_account_116 (Nat.le_of_ble_eq_true rfl) rfl ?_
  show bq_W _ _ _ _ _ 118 [_, _, _, _, _, _, _] _ _ _ _ _ _ _
  refine q_iconst (pc := 118) (v := nI 0) dX12_account_118 (by decide) ?_
  refine q_istore (pc := 119) dX12_account_119 (Nat.le_of_ble_eq_true rfl) rfl ?_
  show bq_W _ _ _ _ _ 121 [_, _, _, _, _, _, _] _ _ _ _ _ _ _
  have lp : ∀ i, i ≤ (gn g 1) → bq_W mX12_account 4 81 0 0 121 [some (.ref m), some (.int (nI k)), some (.long (lN (ns (fun b => ac g (k - 7) b * gn g (124 + 5 * b)) i))), none, some (.int (nI (k - 7))), some (.int (nI i)), none] [] S n I L P (bq_F (some (.long (r_account g (nI k)))) S n I L P) := by
    refine bq_down (A := fun i => bq_W mX12_account 4 81 0 0 121 [some (.ref m), some (.int (nI k)), some (.long (lN (ns (fun b => ac g (k - 7) b * gn g (124 + 5 * b)) i))), none, some (.int (nI (k - 7))), some (.int (nI i)), none] [] S n I L P (bq_F (some (.long (r_account g (nI k)))) S n I L P)) (gn g 1) ?_ ?_
    · refine q_iload (pc := 121) dX12_account_121 rfl ?_
      refine q_aload_n (pc := 123) dX12_account_123 rfl rfl ?_
      refine q_getP (pc := 124) dX12_account_124 fX12_9 (Model_sh hm) ⟨by decide, rfl⟩ (Model_lt hm) (Model_p_g hm) ?_
      refine q_iconst (pc := 127) (v := nI 1) dX12_account_127 (by decide) ?_
      refine q_iald (pc := 128) dX12_account_128 (oA_sh (Model_s_g hm)) (oA_lt (Model_s_g hm)) rfl (by omega) ?_
      rw [h1]
      refine q_icmp_ge (pc := 129) 175 dX12_account_129 (by decide) (fun c_129 => ?_) (fun c_129 => absurd (nI_le (Nat.le_refl _) (by omega)) c_129)
      refine q_lload_n (pc := 175) dX12_account_175 rfl rfl ?_
      exact q_lret (st := []) (pc := 176) dX12_account_176 rfl ⟨by rw [acc_alc hG hk0 hk2], rfl, rfl, rfl, rfl, rfl⟩
    · intro i hi ih
      refine q_iload (pc := 121) dX12_account_121 rfl ?_
      refine q_aload_n (pc := 123) dX12_account_123 rfl rfl ?_
      refine q_getP (pc := 124) dX12_account_124 fX12_9 (Model_sh hm) ⟨by decide, rfl⟩ (Model_lt hm) (Model_p_g hm) ?_
      refine q_iconst (pc := 127) (v := nI 1) dX12_account_127 (by decide) ?_
      refine q_iald (pc := 128) dX12_account_128 (oA_sh (Model_s_g hm)) (oA_lt (Model_s_g hm)) rfl (by omega) ?_
      rw [h1]
      refine q_icmp_ge (pc := 129) 175 dX12_account_129 (by decide) (fun c_129 => absurd c_129 (nI_ge hi (by omega))) (fun c_129 => ?_)
      refine q_aload_n (pc := 132) dX12_account_132 rfl rfl ?_
      refine q_iload (pc := 133) dX12_account_133 rfl ?_
      refine q_iconst (pc := 135) (v := nI 1) dX12_account_135 (by decide) ?_
      refine q_iload (pc := 136) dX12_account_136 rfl ?_
      refine q_iaddN (pc := 138) dX12_account_138 ?_
      refine q_callVF (pc := 139) dX12_account_139 kX12_243 (o_ofBatch hm hg hG (b := nI i)) (Model_sh hm) rfl (Model_lt hm) ⟨Nat.le_of_ble_eq_true rfl, Nat.le_of_ble_eq_true rfl⟩ rfl rfl (Nat.le_of_ble_eq_true rfl) ?_
      show bq_W _ _ _ _ _ 142 _ [_] _ _ _ _ _ _
      have hi16 : i < 16 := Nat.lt_of_lt_of_le hi hl
      have ha := (ac_b (q := (k - 7)) hG hi16 (by omega)).1
      rw [r_ofBatch_n hG hi, ac_of hG hi16 (by omega)]
      refine q_istore (pc := 142) dX12_account_142 (Nat.le_of_ble_eq_true rfl) rfl ?_
      show bq_W _ _ _ _ _ 144 [_, _, _, _, _, _, _] _ _ _ _ _ _ _
      refine q_lload_n (pc := 144) dX12_account_144 rfl rfl ?_
      refine q_iload_n (pc := 145) dX12_account_145 rfl rfl ?_
      refine q_iconst (pc := 146) (v := nI 3) dX12_account_146 (by decide) ?_
      refine q_icmp_ge (pc := 147) 156 dX12_account_147 (by decide) (fun c_147 => ?_) (fun c_147 => absurd (nI_le hk1 (by omega)) c_147)
      refine q_iload (pc := 156) dX12_account_156 rfl ?_
      refine q_i2l (pc := 158) dX12_account_158 ?_
      refine q_aload_n (pc := 159) dX12_account_159 rfl rfl ?_
      refine q_iload (pc := 160) dX12_account_160 rfl ?_
      refine q_callVF (pc := 162) dX12_account_162 kX12_80 (c_X12_strengthOf hm (b := i) (by omega)) (Model_sh hm) rfl (Model_lt hm) ⟨Nat.le_of_ble_eq_true rfl, Nat.le_of_ble_eq_true rfl⟩ rfl rfl (Nat.le_of_ble_eq_true rfl) ?_
      show bq_W _ _ _ _ _ 165 _ [_, _, _] _ _ _ _ _ _
      refine q_i2l (pc := 165) dX12_account_165 ?_
      refine q_lmul (pc := 166) dX12_account_166 ?_
      refine q_ladd (pc := 167) dX12_account_167 ?_
      rw [hg, hG.n (k := 124 + 5 * i) (by omega) (by omega), nI_l (by omega), nI_l (hG.1 (124 + 5 * i) (by omega) (by omega)).2, lN_mul, lN_add]
      refine q_lstore_n (pc := 168) dX12_account_168 rfl (Nat.le_of_ble_eq_true rfl) rfl ?_
      show bq_W _ _ _ _ _ 169 [_, _, _, _, _, _, _] _ _ _ _ _ _ _
      refine q_iinc (pc := 169) (v := nI (i + 1)) dX12_account_169 rfl (bq_inc _) (Nat.le_of_ble_eq_true rfl) rfl ?_
      show bq_W _ _ _ _ _ 172 [_, _, _, _, _, _, _] _ _ _ _ _ _ _
      refine q_goto (pc := 172) 121 dX12_account_172 (by decide) ?_
      refine q_wk (vs2 := [some (.ref m), some (.int (nI k)), some (.long (lN (ns (fun b => ac g (k - 7) b * gn g (124 + 5 * b)) (i + 1)))), none, some (.int (nI (k - 7))), some (.int (nI (i + 1))), none]) ⟨rfl, rfl, rfl, rfl, rfl, trivial⟩ ?_
      exact ih
  exact lp 0 (Nat.zero_le _)
set_option maxHeartbeats 1600000 in
set_option maxRecDepth 20000 in
theorem o_account_e {S : BqH} {n : Nat} {I : BqI} {L : BqL} {P : BqP} {m : Nat} {g : BqG} (hm : oModel S n P m) (hg : I (m + 1) = g) {en : Nat} (hG : GI g en) : bq_Sp mX12_account 4 81 0 0 [.ref m, .int (nI 11)] S n I L P (bq_F (some (.long (r_account g (nI 11)))) S n I L P) := by
  refine q_entry (vs := [some (.ref m), some (.int (nI 11)), none, none, none, none, none]) (by decide +kernel) (by simp) (Nat.le_of_ble_eq_true rfl) rfl ?_
  have h1 : I (m + 1) 1 = nI (gn g 1) := by rw [hg]; exact hG.n (by decide) (by decide)
  have hl : gn g 1 ≤ 16 := hG.2.2.1
  have h2 : I (m + 1) 2 = nI (gn g 2) := by rw [hg]; exact hG.n (by decide) (by decide)
  have h2l : gn g 2 ≤ 10 := hG.2.2.2.1
  refine q_iload_n (pc := 0) dX12_account_0 rfl rfl ?_
  refine q_iconst (pc := 1) (v := nI 0) dX12_account_1 (by decide) ?_
  refine q_bipush (pc := 2) (v := nI 12) dX12_account_2 (by decide) ?_
  refine q_callSF (pc := 4) dX12_account_4 kX12_69 c_X12_in ⟨Nat.le_of_ble_eq_true rfl, Nat.le_of_ble_eq_true rfl⟩ rfl rfl (Nat.le_of_ble_eq_true rfl) ?_
  show bq_W _ _ _ _ _ 7 _ [_] _ _ _ _ _ _
  refine q_if_ne (pc := 7) 14 dX12_account_7 (by decide) (fun c_7 => ?_) (fun c_7 => ((bq_tin (k := 12) (by decide) (by decide) (bq_nb0.mp c_7))).elim)
  refine q_iload_n (pc := 14) dX12_account_14 rfl rfl ?_
  refine q_iconst (pc := 15) (v := nI 2) dX12_account_15 (by decide) ?_
  refine q_icmp_le (pc := 16) 39 dX12_account_16 (by decide) (fun c_16 => absurd c_16 (by decide)) (fun c_16 => ?_)
  refine q_iload_n (pc := 19) dX12_account_19 rfl rfl ?_
  refine q_bipush (pc := 20) (v := nI 7) dX12_account_20 (by decide) ?_
  refine q_icmp_ge (pc := 22) 39 dX12_account_22 (by decide) (fun c_22 => ?_) (fun c_22 => absurd (by decide) c_22)
  refine q_lconst (pc := 39) dX12_account_39 rfl ?_
  refine q_lstore_n (pc := 40) dX12_account_40 rfl (Nat.le_of_ble_eq_true rfl) rfl ?_
  show bq_W _ _ _ _ _ 41 [_, _, _, _, _, _, _] _ _ _ _ _ _ _
  refine q_iload_n (pc := 41) dX12_account_41 rfl rfl ?_
  refine q_bipush (pc := 42) (v := nI 10) dX12_account_42 (by decide) ?_
  refine q_icmp_le (pc := 44) 103 dX12_account_44 (by decide) (fun c_44 => absurd c_44 (by decide)) (fun c_44 => ?_)
  refine q_iconst (pc := 47) (v := nI 0) dX12_account_47 (by decide) ?_
  refine q_istore (pc := 48) dX12_account_48 (Nat.le_of_ble_eq_true rfl) rfl ?_
  show bq_W _ _ _ _ _ 50 [_, _, _, _, _, _, _] _ _ _ _ _ _ _
  have lp : ∀ i, i ≤ (gn g 2) → bq_W mX12_account 4 81 0 0 50 [some (.ref m), some (.int (nI 11)), some (.long (lN (bq_ct (fun i => g (208 + 9 * i)) 0 i))), none, some (.int (nI i)), none, none] [] S n I L P (bq_F (some (.long (r_account g (nI 11)))) S n I L P) := by
    refine bq_down (A := fun i => bq_W mX12_account 4 81 0 0 50 [some (.ref m), some (.int (nI 11)), some (.long (lN (bq_ct (fun i => g (208 + 9 * i)) 0 i))), none, some (.int (nI i)), none, none] [] S n I L P (bq_F (some (.long (r_account g (nI 11)))) S n I L P)) (gn g 2) ?_ ?_
    · refine q_iload (pc := 50) dX12_account_50 rfl ?_
      refine q_aload_n (pc := 52) dX12_account_52 rfl rfl ?_
      refine q_getP (pc := 53) dX12_account_53 fX12_9 (Model_sh hm) ⟨by decide, rfl⟩ (Model_lt hm) (Model_p_g hm) ?_
      refine q_iconst (pc := 56) (v := nI 2) dX12_account_56 (by decide) ?_
      refine q_iald (pc := 57) dX12_account_57 (oA_sh (Model_s_g hm)) (oA_lt (Model_s_g hm)) rfl (by omega) ?_
      rw [h2]
      refine q_icmp_ge (pc := 58) 101 dX12_account_58 (by decide) (fun c_58 => ?_) (fun c_58 => absurd (nI_le (Nat.le_refl _) (by omega)) c_58)
      refine q_lload_n (pc := 101) dX12_account_101 rfl rfl ?_
      exact q_lret (st := []) (pc := 102) dX12_account_102 rfl ⟨by rw [acc_oc], rfl, rfl, rfl, rfl, rfl⟩
    · intro i hi ih
      refine q_iload (pc := 50) dX12_account_50 rfl ?_
      refine q_aload_n (pc := 52) dX12_account_52 rfl rfl ?_
      refine q_getP (pc := 53) dX12_account_53 fX12_9 (Model_sh hm) ⟨by decide, rfl⟩ (Model_lt hm) (Model_p_g hm) ?_
      refine q_iconst (pc := 56) (v := nI 2) dX12_account_56 (by decide) ?_
      refine q_iald (pc := 57) dX12_account_57 (oA_sh (Model_s_g hm)) (oA_lt (Model_s_g hm)) rfl (by omega) ?_
      rw [h2]
      refine q_icmp_ge (pc := 58) 101 dX12_account_58 (by decide) (fun c_58 => absurd c_58 (nI_ge hi (by omega))) (fun c_58 => ?_)
      refine q_lload_n (pc := 61) dX12_account_61 rfl rfl ?_
      refine q_aload_n (pc := 62) dX12_account_62 rfl rfl ?_
      refine q_iload (pc := 63) dX12_account_63 rfl ?_
      refine q_callVF (pc := 65) dX12_account_65 kX12_121 (c_isOpen_in hm h2 h2l (o := i) hi) (Model_sh hm) rfl (Model_lt hm) ⟨Nat.le_of_ble_eq_true rfl, Nat.le_of_ble_eq_true rfl⟩ rfl rfl (Nat.le_of_ble_eq_true rfl) ?_
      show bq_W _ _ _ _ _ 68 _ [_, _] _ _ _ _ _ _
      refine q_if_eq (pc := 68) 92 dX12_account_68 (by decide) (fun c_68 => ?_) (fun c_68 => ?_)
      · replace c_68 := bq_b0.mp c_68
        rw [hg] at c_68
        refine q_lconst (pc := 92) dX12_account_92 rfl ?_
        refine q_ladd (pc := 93) dX12_account_93 ?_
        rw [show (0 : Int64) = lN 0 from rfl, lN_add, Nat.add_zero]
        refine q_lstore_n (pc := 94) dX12_account_94 rfl (Nat.le_of_ble_eq_true rfl) rfl ?_
        show bq_W _ _ _ _ _ 95 [_, _, _, _, _, _, _] _ _ _ _ _ _ _
        refine q_iinc (pc := 95) (v := nI (i + 1)) dX12_account_95 rfl (bq_inc _) (Nat.le_of_ble_eq_true rfl) rfl ?_
        show bq_W _ _ _ _ _ 98 [_, _, _, _, _, _, _] _ _ _ _ _ _ _
        refine q_goto (pc := 98) 50 dX12_account_98 (by decide) ?_
        rw [show (bq_ct (fun i => g (208 + 9 * i)) 0 (i + 1)) = _ from if_neg c_68] at ih
        exact ih
      · replace c_68 := bq_bn.mp c_68
        rw [hg] at c_68
        refine q_iload_n (pc := 71) dX12_account_71 rfl rfl ?_
        refine q_bipush (pc := 72) (v := nI 11) dX12_account_72 (by decide) ?_
        refine q_icmp_ne (pc := 74) 81 dX12_account_74 (by decide) (fun c_74 => ((absurd rfl c_74 : False)).elim) (fun c_74 => ?_)
        refine q_lconst (pc := 77) dX12_account_77 rfl ?_
        refine q_goto (pc := 78) 93 dX12_account_78 (by decide) ?_
        refine q_ladd (pc := 93) dX12_account_93 ?_
        rw [show (1 : Int64) = lN 1 from rfl, lN_add]
        refine q_lstore_n (pc := 94) dX12_account_94 rfl (Nat.le_of_ble_eq_true rfl) rfl ?_
        show bq_W _ _ _ _ _ 95 [_, _, _, _, _, _, _] _ _ _ _ _ _ _
        refine q_iinc (pc := 95) (v := nI (i + 1)) dX12_account_95 rfl (bq_inc _) (Nat.le_of_ble_eq_true rfl) rfl ?_
        show bq_W _ _ _ _ _ 98 [_, _, _, _, _, _, _] _ _ _ _ _ _ _
        refine q_goto (pc := 98) 50 dX12_account_98 (by decide) ?_
        rw [show (bq_ct (fun i => g (208 + 9 * i)) 0 (i + 1)) = _ from if_pos c_68] at ih
        exact ih
  exact lp 0 (Nat.zero_le _)
set_option maxHeartbeats 1720000 in
set_option maxRecDepth 20000 in
theorem o_account_f {S : BqH} {n : Nat} {I : BqI} {L : BqL} {P : BqP} {m : Nat} {g : BqG} (hm : oModel S n P m) (hg : I (m + 1) = g) {en : Nat} (hG : GI g en) : bq_Sp mX12_account 4 81 0 0 [.ref m, .int (nI 12)] S n I L P (bq_F (some (.long (r_account g (nI 12)))) S n I L P) := by
  refine q_entry (vs := [some (.ref m), some (.int (nI 12)), none, none, none, none, none]) (by decide +kernel) (by simp) (Nat.le_of_ble_eq_true rfl) rfl ?_
  have h1 : I (m + 1) 1 = nI (gn g 1) := by rw [hg]; exact hG.n (by decide) (by decide)
  have hl : gn g 1 ≤ 16 := hG.2.2.1
  have h2 : I (m + 1) 2 = nI (gn g 2) := by rw [hg]; exact hG.n (by decide) (by decide)
  have h2l : gn g 2 ≤ 10 := hG.2.2.2.1
  refine q_iload_n (pc := 0) dX12_account_0 rfl rfl ?_
  refine q_iconst (pc := 1) (v := nI 0) dX12_account_1 (by decide) ?_
  refine q_bipush (pc := 2) (v := nI 12) dX12_account_2 (by decide) ?_
  refine q_callSF (pc := 4) dX12_account_4 kX12_69 c_X12_in ⟨Nat.le_of_ble_eq_true rfl, Nat.le_of_ble_eq_true rfl⟩ rfl rfl (Nat.le_of_ble_eq_true rfl) ?_
  show bq_W _ _ _ _ _ 7 _ [_] _ _ _ _ _ _
  refine q_if_ne (pc := 7) 14 dX12_account_7 (by decide) (fun c_7 => ?_) (fun c_7 => ((bq_tin (k := 12) (by decide) (by decide) (bq_nb0.mp c_7))).elim)
  refine q_iload_n (pc := 14) dX12_account_14 rfl rfl ?_
  refine q_iconst (pc := 15) (v := nI 2) dX12_account_15 (by decide) ?_
  refine q_icmp_le (pc := 16) 39 dX12_account_16 (by decide) (fun c_16 => absurd c_16 (by decide)) (fun c_16 => ?_)
  refine q_iload_n (pc := 19) dX12_account_19 rfl rfl ?_
  refine q_bipush (pc := 20) (v := nI 7) dX12_account_20 (by decide) ?_
  refine q_icmp_ge (pc := 22) 39 dX12_account_22 (by decide) (fun c_22 => ?_) (fun c_22 => absurd (by decide) c_22)
  refine q_lconst (pc := 39) dX12_account_39 rfl ?_
  refine q_lstore_n (pc := 40) dX12_account_40 rfl (Nat.le_of_ble_eq_true rfl) rfl ?_
  show bq_W _ _ _ _ _ 41 [_, _, _, _, _, _, _] _ _ _ _ _ _ _
  refine q_iload_n (pc := 41) dX12_account_41 rfl rfl ?_
  refine q_bipush (pc := 42) (v := nI 10) dX12_account_42 (by decide) ?_
  refine q_icmp_le (pc := 44) 103 dX12_account_44 (by decide) (fun c_44 => absurd c_44 (by decide)) (fun c_44 => ?_)
  refine q_iconst (pc := 47) (v := nI 0) dX12_account_47 (by decide) ?_
  refine q_istore (pc := 48) dX12_account_48 (Nat.le_of_ble_eq_true rfl) rfl ?_
  show bq_W _ _ _ _ _ 50 [_, _, _, _, _, _, _] _ _ _ _ _ _ _
  have lp : ∀ i, i ≤ (gn g 2) → bq_W mX12_account 4 81 0 0 50 [some (.ref m), some (.int (nI 12)), some (.long (lN (oL g i))), none, some (.int (nI i)), none, none] [] S n I L P (bq_F (some (.long (r_account g (nI 12)))) S n I L P) := by
    refine bq_down (A := fun i => bq_W mX12_account 4 81 0 0 50 [some (.ref m), some (.int (nI 12)), some (.long (lN (oL g i))), none, some (.int (nI i)), none, none] [] S n I L P (bq_F (some (.long (r_account g (nI 12)))) S n I L P)) (gn g 2) ?_ ?_
    · refine q_iload (pc := 50) dX12_account_50 rfl ?_
      refine q_aload_n (pc := 52) dX12_account_52 rfl rfl ?_
      refine q_getP (pc := 53) dX12_account_53 fX12_9 (Model_sh hm) ⟨by decide, rfl⟩ (Model_lt hm) (Model_p_g hm) ?_
      refine q_iconst (pc := 56) (v := nI 2) dX12_account_56 (by decide) ?_
      refine q_iald (pc := 57) dX12_account_57 (oA_sh (Model_s_g hm)) (oA_lt (Model_s_g hm)) rfl (by omega) ?_
      rw [h2]
      refine q_icmp_ge (pc := 58) 101 dX12_account_58 (by decide) (fun c_58 => ?_) (fun c_58 => absurd (nI_le (Nat.le_refl _) (by omega)) c_58)
      refine q_lload_n (pc := 101) dX12_account_101 rfl rfl ?_
      exact q_lret (st := []) (pc := 102) dX12_account_102 rfl ⟨by rw [acc_ol], rfl, rfl, rfl, rfl, rfl⟩
    · intro i hi ih
      refine q_iload (pc := 50) dX12_account_50 rfl ?_
      refine q_aload_n (pc := 52) dX12_account_52 rfl rfl ?_
      refine q_getP (pc := 53) dX12_account_53 fX12_9 (Model_sh hm) ⟨by decide, rfl⟩ (Model_lt hm) (Model_p_g hm) ?_
      refine q_iconst (pc := 56) (v := nI 2) dX12_account_56 (by decide) ?_
      refine q_iald (pc := 57) dX12_account_57 (oA_sh (Model_s_g hm)) (oA_lt (Model_s_g hm)) rfl (by omega) ?_
      rw [h2]
      refine q_icmp_ge (pc := 58) 101 dX12_account_58 (by decide) (fun c_58 => absurd c_58 (nI_ge hi (by omega))) (fun c_58 => ?_)
      refine q_lload_n (pc := 61) dX12_account_61 rfl rfl ?_
      refine q_aload_n (pc := 62) dX12_account_62 rfl rfl ?_
      refine q_iload (pc := 63) dX12_account_63 rfl ?_
      refine q_callVF (pc := 65) dX12_account_65 kX12_121 (c_isOpen_in hm h2 h2l (o := i) hi) (Model_sh hm) rfl (Model_lt hm) ⟨Nat.le_of_ble_eq_true rfl, Nat.le_of_ble_eq_true rfl⟩ rfl rfl (Nat.le_of_ble_eq_true rfl) ?_
      show bq_W _ _ _ _ _ 68 _ [_, _] _ _ _ _ _ _
      refine q_if_eq (pc := 68) 92 dX12_account_68 (by decide) (fun c_68 => ?_) (fun c_68 => ?_)
      · replace c_68 := bq_b0.mp c_68
        rw [hg] at c_68
        refine q_lconst (pc := 92) dX12_account_92 rfl ?_
        refine q_ladd (pc := 93) dX12_account_93 ?_
        rw [show (0 : Int64) = lN 0 from rfl, lN_add, Nat.add_zero]
        refine q_lstore_n (pc := 94) dX12_account_94 rfl (Nat.le_of_ble_eq_true rfl) rfl ?_
        show bq_W _ _ _ _ _ 95 [_, _, _, _, _, _, _] _ _ _ _ _ _ _
        refine q_iinc (pc := 95) (v := nI (i + 1)) dX12_account_95 rfl (bq_inc _) (Nat.le_of_ble_eq_true rfl) rfl ?_
        show bq_W _ _ _ _ _ 98 [_, _, _, _, _, _, _] _ _ _ _ _ _ _
        refine q_goto (pc := 98) 50 dX12_account_98 (by decide) ?_
        rw [show (oL g (i + 1)) = _ from if_neg c_68] at ih
        exact ih
      · replace c_68 := bq_bn.mp c_68
        rw [hg] at c_68
        refine q_iload_n (pc := 71) dX12_account_71 rfl rfl ?_
        refine q_bipush (pc := 72) (v := nI 11) dX12_account_72 (by decide) ?_
        refine q_icmp_ne (pc := 74) 81 dX12_account_74 (by decide) (fun c_74 => ?_) (fun c_74 => ((absurd c_74 (by decide) : False)).elim)
        refine q_aload_n (pc := 81) dX12_account_81 rfl rfl ?_
        refine q_iload (pc := 82) dX12_account_82 rfl ?_
        refine q_iconst (pc := 84) (v := nI 1) dX12_account_84 (by decide) ?_
        refine q_callVF (pc := 85) dX12_account_85 kX12_118 (c_oA hm (o := i) (k := 1) (j := 205 + 9 * i) (by omega) (by omega)) (Model_sh hm) rfl (Model_lt hm) ⟨Nat.le_of_ble_eq_true rfl, Nat.le_of_ble_eq_true rfl⟩ rfl rfl (Nat.le_of_ble_eq_true rfl) ?_
        show bq_W _ _ _ _ _ 88 _ [_, _] _ _ _ _ _ _
        refine q_i2l (pc := 88) dX12_account_88 ?_
        refine q_goto (pc := 89) 93 dX12_account_89 (by decide) ?_
        refine q_ladd (pc := 93) dX12_account_93 ?_
        have ho := (hG.o (o := i) (by omega)).1
        rw [hg, hG.n (k := 205 + 9 * i) (by omega) (by omega), nI_l (by omega), lN_add]
        refine q_lstore_n (pc := 94) dX12_account_94 rfl (Nat.le_of_ble_eq_true rfl) rfl ?_
        show bq_W _ _ _ _ _ 95 [_, _, _, _, _, _, _] _ _ _ _ _ _ _
        refine q_iinc (pc := 95) (v := nI (i + 1)) dX12_account_95 rfl (bq_inc _) (Nat.le_of_ble_eq_true rfl) rfl ?_
        show bq_W _ _ _ _ _ 98 [_, _, _, _, _, _, _] _ _ _ _ _ _ _
        refine q_goto (pc := 98) 50 dX12_account_98 (by decide) ?_
        rw [show (oL g (i + 1)) = _ from if_pos c_68] at ih
        exact ih
  exact lp 0 (Nat.zero_le _)
theorem o_account {S : BqH} {n : Nat} {I : BqI} {L : BqL} {P : BqP} {m : Nat} {g : BqG} (hm : oModel S n P m) (hg : I (m + 1) = g) {en : Nat} (hG : GI g en) {k : Int32} : bq_Sp mX12_account 4 81 0 0 [.ref m, .int k] S n I L P (bq_F (some (.long (r_account g k))) S n I L P) := by
  rcases acc_cases k with h | ⟨q, rfl, h | ⟨h1, h2⟩ | ⟨h1, h2⟩ | rfl | rfl⟩
  · exact o_account_a hm hg hG h
  · exact o_account_c hm hg hG h
  · exact o_account_b hm hg hG h1 h2
  · exact o_account_d hm hg hG h1 h2
  · exact o_account_e hm hg hG
  · exact o_account_f hm hg hG
/-! the class's accounts -/
theorem ns_z : ∀ k, ns (fun _ => 0) k = 0
  | 0 => rfl
  | k + 1 => by
    show ns (fun _ => 0) k + 0 = 0
    rw [ns_z k]
theorem ns_swap (F : Nat → Nat → Nat) (m : Nat) : ∀ k, ns (fun t => ns (F t) m) k = ns (fun b => ns (fun t => F t b) k) m
  | 0 => (ns_z m).symm
  | k + 1 => by
    show ns (fun t => ns (F t) m) k + ns (F k) m = ns (fun b => ns (fun t => F t b) k + F k b) m
    rw [ns_add, ns_swap F m k]
theorem gt_gb (g : BqG) : ns (gt g) 6 = ns (gb g) 16 := ns_swap (gp g) 16 6
theorem gt_le {g : BqG} {en : Nat} (hG : GI g en) : ns (gb g) 16 ≤ 159984 := by
  have h := ns_le (F := ac g 1) (G := fun _ => 9999) 16 (fun j hj => (ac_b hG hj (by decide)).1)
  exact h
theorem acc_s {g : BqG} {en q : Nat} {f : Nat → Int32} (hG : GI g en) (hq : q ≤ 3) (h : ∀ j, j < 16 → f j = nI (ac g q j)) : (bq_sum f 16).toInt64 = lN (ns (ac g q) 16) := by
  have hb := ns_le (F := ac g q) (G := fun _ => 9999) 16 (fun j hj => (ac_b hG hj hq).1)
  have h2 : ns (fun _ => 9999) 16 = 159984 := rfl
  rw [bq_sum_n 16 h, nI_l (by omega)]
theorem acc_t {g : BqG} {en : Nat} {f : Nat → Int32} (hG : GI g en) (h : ∀ t, t < 6 → f t = nI (gt g t)) : (bq_sum f 6).toInt64 = lN (ns (ac g 1) 16) := by
  have hb := gt_le hG
  rw [bq_sum_n 6 h, gt_gb, nI_l (by omega)]
  rfl
theorem acc_a {g : BqG} {en q : Nat} {f s : Nat → Int32} (hG : GI g en) (hq : q ≤ 3) (h : ∀ j, j < 16 → f j = nI (ac g q j)) (h' : ∀ j, j < 16 → s j = g (124 + 5 * j)) : bq_alc f s 16 = lN (ns (fun b => ac g q b * gn g (124 + 5 * b)) 16) :=
  bq_alc_n 16 h (fun j hj => (h' j hj).trans (hG.n (by omega) (by omega))) (fun j hj => (hG.1 (124 + 5 * j) (by omega) (by omega)).2) (fun j hj => Nat.lt_of_le_of_lt (ac_b hG hj hq).1 (by decide))
theorem suL_n {f : Nat → Int64} {F : Nat → Nat} : ∀ k, (∀ j, j < k → f j = lN (F j)) → bq_suL f k = lN (ns F k)
  | 0, _ => rfl
  | k + 1, h => by
    unfold bq_suL ns
    rw [suL_n k (fun j hj => h j (by omega)), h k (by omega), lN_add]
theorem acc_at {g : BqG} {en : Nat} {p : Nat → Nat → Int32} {s : Nat → Int32} (hG : GI g en) (h : ∀ t, t < 6 → ∀ j, j < 16 → p t j = g (13 + 19 * t + j)) (h' : ∀ j, j < 16 → s j = g (124 + 5 * j)) : bq_suL (fun i => bq_alc (p i) s 16) 6 = lN (ns (fun b => ac g 1 b * gn g (124 + 5 * b)) 16) := by
  rw [suL_n (F := fun t => ns (fun b => gp g t b * gn g (124 + 5 * b)) 16) 6 (fun t ht => bq_alc_n 16 (fun j hj => (h t ht j hj).trans (hG.n (by omega) (by omega))) (fun j hj => (h' j hj).trans (hG.n (by omega) (by omega))) (fun j hj => (hG.1 (124 + 5 * j) (by omega) (by omega)).2) (fun j hj => (hG.1 (13 + 19 * t + j) (by omega) (by omega)).2))]
  rw [ns_swap (fun t b => gp g t b * gn g (124 + 5 * b)) 16 6]
  exact congrArg lN (ns_congr 16 (fun b _ => ns_mul (fun t => gp g t b) (gn g (124 + 5 * b)) 6))
theorem ct_le {f : Nat → Int32} {v : Int32} : ∀ k, bq_ct f v k ≤ k
  | 0 => Nat.le_refl _
  | k + 1 => by
    have ih := ct_le (f := f) (v := v) k
    show (if f k = v then bq_ct f v k + 1 else bq_ct f v k) ≤ k + 1
    split <;> omega
theorem acc_o {g : BqG} {c : Nat} {f : Nat → Int32} (hc : c ≤ 10) (h : ∀ j, j < c → f j = g (208 + 9 * j)) : (nI (bq_ct f 0 c)).toInt64 = lN (bq_ct (fun i => g (208 + 9 * i)) 0 c) := by
  have hb := ct_le (f := fun i => g (208 + 9 * i)) (v := 0) c
  rw [bq_ct_congr c h, nI_l (by omega)]
theorem sc_oL {g : BqG} {f a : Nat → Int32} : ∀ k, (∀ j, j < k → f j = g (208 + 9 * j)) → (∀ j, j < k → a j = nI (gn g (205 + 9 * j))) → bq_sc f a k = nI (oL g k)
  | 0, _, _ => rfl
  | k + 1, h, h' => by
    show (if f k = 0 then bq_sc f a k + a k else bq_sc f a k) = nI (if g (208 + 9 * k) = 0 then oL g k + gn g (205 + 9 * k) else oL g k)
    rw [h k (by omega), h' k (by omega), sc_oL k (fun j hj => h j (by omega)) (fun j hj => h' j (by omega))]
    split
    · exact nI_add _ _
    · rfl
theorem acc_l {g : BqG} {en c : Nat} {f a : Nat → Int32} (hG : GI g en) (hc : c ≤ 10) (h : ∀ j, j < c → f j = g (208 + 9 * j)) (h' : ∀ j, j < c → a j = nI (gn g (205 + 9 * j))) : (bq_sc f a c).toInt64 = lN (oL g c) := by
  have hb := oL_le hG c hc
  rw [sc_oL c h h', nI_l (by omega)]
set_option maxHeartbeats 3180000 in
set_option maxRecDepth 20000 in
theorem m_account {S : BqH} {n : Nat} {I : BqI} {L : BqL} {P : BqP} {x : Nat} {g : BqG} {en : Nat} (hx : oX S n P x) (hC : CS I L (x + 1) g) (hG : GI g en) {k : Int32} : bq_Sp mX11_account 3 59 0 0 [.ref x, .int k] S n I L P (bq_F (some (.long (r_account g k))) S n I L P) := by
  refine q_entry (vs := [some (.ref x), some (.int k)]) (by decide +kernel) (by simp) (Nat.le_of_ble_eq_true rfl) rfl ?_
  have h2l : gn g 2 ≤ 10 := hG.2.2.2.1
  have hoc : I (x + 1) 12 = nI (gn g 2) := (hC.1.at (k := 2) rfl).trans (hG.n (by decide) (by decide))
  have hst : ∀ j, j < 16 → I (x + 1 + 2) j = g (124 + 5 * j) := fun j hj => hC.1.at (lc_B0 hj)
  have hb0 : ∀ j, j < 16 → I (x + 1 + 4 + 1) j = nI (ac g 0 j) := fun j hj => (hC.1.ab (j := 1) hj (by decide)).trans (hG.n (by omega) (by omega))
  have hb2 : ∀ j, j < 16 → I (x + 1 + 6 + 1) j = nI (ac g 2 j) := fun j hj => (hC.1.ab (j := 2) hj (by decide)).trans (hG.n (by omega) (by omega))
  have hb3 : ∀ j, j < 16 → I (x + 1 + 8 + 1) j = nI (ac g 3 j) := fun j hj => (hC.1.ab (j := 3) hj (by decide)).trans (hG.n (by omega) (by omega))
  have hpt : ∀ t, t < 6 → ∀ j, j < 16 → I (x + 1 + 15 + 3 * t + 1 + 1) j = g (13 + 19 * t + j) := fun t ht j hj => hC.1.ap ht hj
  have hpn : ∀ t, t < 6 → bq_sum (I (x + 1 + 15 + 3 * t + 1 + 1)) 16 = nI (gt g t) := fun t ht => bq_sum_n 16 (hC.1.pn hG ht)
  have ho4 : ∀ j, j < gn g 2 → I (x + 1 + 43 + j) 4 = g (208 + 9 * j) := fun j hj => (hC.1.ao (o := j) (k := 4) (by omega) (by decide)).trans (congrArg g (by omega))
  have ho1 : ∀ j, j < gn g 2 → I (x + 1 + 43 + j) 1 = nI (gn g (205 + 9 * j)) := fun j hj => ((hC.1.ao (o := j) (k := 1) (by omega) (by decide)).trans (congrArg g (show 204 + 9 * j + 1 = 205 + 9 * j by omega))).trans (hG.n (by omega) (by omega))
  refine q_iload_n (pc := 0) dX11_account_0 rfl rfl ?_
  by_cases s1_0 : k = nI 0
  · refine q_tableIn (pc := 1) (off := 67) 68 dX11_account_1 (by rw [s1_0]; decide) (by rw [s1_0]; decide) (by rw [s1_0]; rfl) (by decide) ?_
    subst s1_0
    refine q_aload_n (pc := 68) dX11_account_68 rfl rfl ?_
    refine q_getP (pc := 69) dX11_account_69 fX11_10 (Cellar_sh hx) ⟨by decide, rfl⟩ (Cellar_lt hx) (Cellar_p_state hx) ?_
    refine q_getP (pc := 72) dX11_account_72 fX11_245 (State_sh (Cellar_s_state hx)) ⟨by decide, rfl⟩ (State_lt (Cellar_s_state hx)) (State_p_brewed (Cellar_s_state hx)) ?_
    refine q_callVF (pc := 75) dX11_account_75 kX11_79 (c_X0_total (State_s_brewed (Cellar_s_state hx))) (Blend_sh (State_s_brewed (Cellar_s_state hx))) rfl (Blend_lt (State_s_brewed (Cellar_s_state hx))) ⟨Nat.le_of_ble_eq_true rfl, Nat.le_of_ble_eq_true rfl⟩ rfl rfl (Nat.le_of_ble_eq_true rfl) ?_
    show bq_W _ _ _ _ _ 78 _ [_] _ _ _ _ _ _
    refine q_i2l (pc := 78) dX11_account_78 ?_
    exact q_lret (st := []) (pc := 79) dX11_account_79 rfl ⟨by rw [r_account_in (by decide)]; exact congrArg (fun z => some (Value.long z)) (acc_s hG (by decide) hb0), rfl, rfl, rfl, rfl, rfl⟩
  by_cases s1_1 : k = nI 1
  · refine q_tableIn (pc := 1) (off := 79) 80 dX11_account_1 (by rw [s1_1]; decide) (by rw [s1_1]; decide) (by rw [s1_1]; rfl) (by decide) ?_
    subst s1_1
    refine q_aload_n (pc := 80) dX11_account_80 rfl rfl ?_
    refine q_getP (pc := 81) dX11_account_81 fX11_10 (Cellar_sh hx) ⟨by decide, rfl⟩ (Cellar_lt hx) (Cellar_p_state hx) ?_
    refine q_callVF (pc := 84) dX11_account_84 kX11_306 (c_X8_litresInTanks (Cellar_s_state hx)) (State_sh (Cellar_s_state hx)) rfl (State_lt (Cellar_s_state hx)) ⟨Nat.le_of_ble_eq_true rfl, Nat.le_of_ble_eq_true rfl⟩ rfl rfl (Nat.le_of_ble_eq_true rfl) ?_
    show bq_W _ _ _ _ _ 87 _ [_] _ _ _ _ _ _
    refine q_i2l (pc := 87) dX11_account_87 ?_
    exact q_lret (st := []) (pc := 88) dX11_account_88 rfl ⟨by rw [r_account_in (by decide)]; exact congrArg (fun z => some (Value.long z)) (acc_t hG hpn), rfl, rfl, rfl, rfl, rfl⟩
  by_cases s1_2 : k = nI 2
  · refine q_tableIn (pc := 1) (off := 88) 89 dX11_account_1 (by rw [s1_2]; decide) (by rw [s1_2]; decide) (by rw [s1_2]; rfl) (by decide) ?_
    subst s1_2
    refine q_aload_n (pc := 89) dX11_account_89 rfl rfl ?_
    refine q_getP (pc := 90) dX11_account_90 fX11_10 (Cellar_sh hx) ⟨by decide, rfl⟩ (Cellar_lt hx) (Cellar_p_state hx) ?_
    refine q_getP (pc := 93) dX11_account_93 fX11_251 (State_sh (Cellar_s_state hx)) ⟨by decide, rfl⟩ (State_lt (Cellar_s_state hx)) (State_p_filled (Cellar_s_state hx)) ?_
    refine q_callVF (pc := 96) dX11_account_96 kX11_79 (c_X0_total (State_s_filled (Cellar_s_state hx))) (Blend_sh (State_s_filled (Cellar_s_state hx))) rfl (Blend_lt (State_s_filled (Cellar_s_state hx))) ⟨Nat.le_of_ble_eq_true rfl, Nat.le_of_ble_eq_true rfl⟩ rfl rfl (Nat.le_of_ble_eq_true rfl) ?_
    show bq_W _ _ _ _ _ 99 _ [_] _ _ _ _ _ _
    refine q_i2l (pc := 99) dX11_account_99 ?_
    exact q_lret (st := []) (pc := 100) dX11_account_100 rfl ⟨by rw [r_account_in (by decide)]; exact congrArg (fun z => some (Value.long z)) (acc_s hG (by decide) hb2), rfl, rfl, rfl, rfl, rfl⟩
  by_cases s1_3 : k = nI 3
  · refine q_tableIn (pc := 1) (off := 100) 101 dX11_account_1 (by rw [s1_3]; decide) (by rw [s1_3]; decide) (by rw [s1_3]; rfl) (by decide) ?_
    subst s1_3
    refine q_aload_n (pc := 101) dX11_account_101 rfl rfl ?_
    refine q_getP (pc := 102) dX11_account_102 fX11_10 (Cellar_sh hx) ⟨by decide, rfl⟩ (Cellar_lt hx) (Cellar_p_state hx) ?_
    refine q_getP (pc := 105) dX11_account_105 fX11_309 (State_sh (Cellar_s_state hx)) ⟨by decide, rfl⟩ (State_lt (Cellar_s_state hx)) (State_p_lostFor (Cellar_s_state hx)) ?_
    refine q_iload_n (pc := 108) dX11_account_108 rfl rfl ?_
    refine q_iconst (pc := 109) (v := nI 3) dX11_account_109 (by decide) ?_
    refine q_isub (pc := 110) dX11_account_110 ?_
    rw [pk_sub (by decide)]
    refine q_iald (pc := 111) dX11_account_111 (oA_sh (State_s_lostFor (Cellar_s_state hx))) (oA_lt (State_s_lostFor (Cellar_s_state hx))) rfl (by omega) ?_
    refine q_i2l (pc := 112) dX11_account_112 ?_
    exact q_lret (st := []) (pc := 113) dX11_account_113 rfl ⟨by rw [r_account_in (by decide)]; first | (exact congrArg (fun z => some (Value.long (Int32.toInt64 z))) (hC.1.at (lc_L (r := 0) (by decide)))) | (exact congrArg (fun z => some (Value.long (Int32.toInt64 z))) (hC.1.at (lc_L (r := 1) (by decide)))) | (exact congrArg (fun z => some (Value.long (Int32.toInt64 z))) (hC.1.at (lc_L (r := 2) (by decide)))) | (exact congrArg (fun z => some (Value.long (Int32.toInt64 z))) (hC.1.at (lc_L (r := 3) (by decide)))), rfl, rfl, rfl, rfl, rfl⟩
  by_cases s1_4 : k = nI 4
  · refine q_tableIn (pc := 1) (off := 100) 101 dX11_account_1 (by rw [s1_4]; decide) (by rw [s1_4]; decide) (by rw [s1_4]; rfl) (by decide) ?_
    subst s1_4
    refine q_aload_n (pc := 101) dX11_account_101 rfl rfl ?_
    refine q_getP (pc := 102) dX11_account_102 fX11_10 (Cellar_sh hx) ⟨by decide, rfl⟩ (Cellar_lt hx) (Cellar_p_state hx) ?_
    refine q_getP (pc := 105) dX11_account_105 fX11_309 (State_sh (Cellar_s_state hx)) ⟨by decide, rfl⟩ (State_lt (Cellar_s_state hx)) (State_p_lostFor (Cellar_s_state hx)) ?_
    refine q_iload_n (pc := 108) dX11_account_108 rfl rfl ?_
    refine q_iconst (pc := 109) (v := nI 3) dX11_account_109 (by decide) ?_
    refine q_isub (pc := 110) dX11_account_110 ?_
    rw [pk_sub (by decide)]
    refine q_iald (pc := 111) dX11_account_111 (oA_sh (State_s_lostFor (Cellar_s_state hx))) (oA_lt (State_s_lostFor (Cellar_s_state hx))) rfl (by omega) ?_
    refine q_i2l (pc := 112) dX11_account_112 ?_
    exact q_lret (st := []) (pc := 113) dX11_account_113 rfl ⟨by rw [r_account_in (by decide)]; first | (exact congrArg (fun z => some (Value.long (Int32.toInt64 z))) (hC.1.at (lc_L (r := 0) (by decide)))) | (exact congrArg (fun z => some (Value.long (Int32.toInt64 z))) (hC.1.at (lc_L (r := 1) (by decide)))) | (exact congrArg (fun z => some (Value.long (Int32.toInt64 z))) (hC.1.at (lc_L (r := 2) (by decide)))) | (exact congrArg (fun z => some (Value.long (Int32.toInt64 z))) (hC.1.at (lc_L (r := 3) (by decide)))), rfl, rfl, rfl, rfl, rfl⟩
  by_cases s1_5 : k = nI 5
  · refine q_tableIn (pc := 1) (off := 100) 101 dX11_account_1 (by rw [s1_5]; decide) (by rw [s1_5]; decide) (by rw [s1_5]; rfl) (by decide) ?_
    subst s1_5
    refine q_aload_n (pc := 101) dX11_account_101 rfl rfl ?_
    refine q_getP (pc := 102) dX11_account_102 fX11_10 (Cellar_sh hx) ⟨by decide, rfl⟩ (Cellar_lt hx) (Cellar_p_state hx) ?_
    refine q_getP (pc := 105) dX11_account_105 fX11_309 (State_sh (Cellar_s_state hx)) ⟨by decide, rfl⟩ (State_lt (Cellar_s_state hx)) (State_p_lostFor (Cellar_s_state hx)) ?_
    refine q_iload_n (pc := 108) dX11_account_108 rfl rfl ?_
    refine q_iconst (pc := 109) (v := nI 3) dX11_account_109 (by decide) ?_
    refine q_isub (pc := 110) dX11_account_110 ?_
    rw [pk_sub (by decide)]
    refine q_iald (pc := 111) dX11_account_111 (oA_sh (State_s_lostFor (Cellar_s_state hx))) (oA_lt (State_s_lostFor (Cellar_s_state hx))) rfl (by omega) ?_
    refine q_i2l (pc := 112) dX11_account_112 ?_
    exact q_lret (st := []) (pc := 113) dX11_account_113 rfl ⟨by rw [r_account_in (by decide)]; first | (exact congrArg (fun z => some (Value.long (Int32.toInt64 z))) (hC.1.at (lc_L (r := 0) (by decide)))) | (exact congrArg (fun z => some (Value.long (Int32.toInt64 z))) (hC.1.at (lc_L (r := 1) (by decide)))) | (exact congrArg (fun z => some (Value.long (Int32.toInt64 z))) (hC.1.at (lc_L (r := 2) (by decide)))) | (exact congrArg (fun z => some (Value.long (Int32.toInt64 z))) (hC.1.at (lc_L (r := 3) (by decide)))), rfl, rfl, rfl, rfl, rfl⟩
  by_cases s1_6 : k = nI 6
  · refine q_tableIn (pc := 1) (off := 100) 101 dX11_account_1 (by rw [s1_6]; decide) (by rw [s1_6]; decide) (by rw [s1_6]; rfl) (by decide) ?_
    subst s1_6
    refine q_aload_n (pc := 101) dX11_account_101 rfl rfl ?_
    refine q_getP (pc := 102) dX11_account_102 fX11_10 (Cellar_sh hx) ⟨by decide, rfl⟩ (Cellar_lt hx) (Cellar_p_state hx) ?_
    refine q_getP (pc := 105) dX11_account_105 fX11_309 (State_sh (Cellar_s_state hx)) ⟨by decide, rfl⟩ (State_lt (Cellar_s_state hx)) (State_p_lostFor (Cellar_s_state hx)) ?_
    refine q_iload_n (pc := 108) dX11_account_108 rfl rfl ?_
    refine q_iconst (pc := 109) (v := nI 3) dX11_account_109 (by decide) ?_
    refine q_isub (pc := 110) dX11_account_110 ?_
    rw [pk_sub (by decide)]
    refine q_iald (pc := 111) dX11_account_111 (oA_sh (State_s_lostFor (Cellar_s_state hx))) (oA_lt (State_s_lostFor (Cellar_s_state hx))) rfl (by omega) ?_
    refine q_i2l (pc := 112) dX11_account_112 ?_
    exact q_lret (st := []) (pc := 113) dX11_account_113 rfl ⟨by rw [r_account_in (by decide)]; first | (exact congrArg (fun z => some (Value.long (Int32.toInt64 z))) (hC.1.at (lc_L (r := 0) (by decide)))) | (exact congrArg (fun z => some (Value.long (Int32.toInt64 z))) (hC.1.at (lc_L (r := 1) (by decide)))) | (exact congrArg (fun z => some (Value.long (Int32.toInt64 z))) (hC.1.at (lc_L (r := 2) (by decide)))) | (exact congrArg (fun z => some (Value.long (Int32.toInt64 z))) (hC.1.at (lc_L (r := 3) (by decide)))), rfl, rfl, rfl, rfl, rfl⟩
  by_cases s1_7 : k = nI 7
  · refine q_tableIn (pc := 1) (off := 113) 114 dX11_account_1 (by rw [s1_7]; decide) (by rw [s1_7]; decide) (by rw [s1_7]; rfl) (by decide) ?_
    subst s1_7
    refine q_aload_n (pc := 114) dX11_account_114 rfl rfl ?_
    refine q_getP (pc := 115) dX11_account_115 fX11_10 (Cellar_sh hx) ⟨by decide, rfl⟩ (Cellar_lt hx) (Cellar_p_state hx) ?_
    refine q_getP (pc := 118) dX11_account_118 fX11_245 (State_sh (Cellar_s_state hx)) ⟨by decide, rfl⟩ (State_lt (Cellar_s_state hx)) (State_p_brewed (Cellar_s_state hx)) ?_
    refine q_aload_n (pc := 121) dX11_account_121 rfl rfl ?_
    refine q_getP (pc := 122) dX11_account_122 fX11_10 (Cellar_sh hx) ⟨by decide, rfl⟩ (Cellar_lt hx) (Cellar_p_state hx) ?_
    refine q_getP (pc := 125) dX11_account_125 fX11_233 (State_sh (Cellar_s_state hx)) ⟨by decide, rfl⟩ (State_lt (Cellar_s_state hx)) (State_p_strengths (Cellar_s_state hx)) ?_
    refine q_callVF (pc := 128) dX11_account_128 kX11_312 (c_X0_alcohol (State_s_brewed (Cellar_s_state hx)) (State_s_strengths (Cellar_s_state hx))) (Blend_sh (State_s_brewed (Cellar_s_state hx))) rfl (Blend_lt (State_s_brewed (Cellar_s_state hx))) ⟨Nat.le_of_ble_eq_true rfl, Nat.le_of_ble_eq_true rfl⟩ rfl rfl (Nat.le_of_ble_eq_true rfl) ?_
    show bq_W _ _ _ _ _ 131 _ [_] _ _ _ _ _ _
    exact q_lret (st := []) (pc := 131) dX11_account_131 rfl ⟨by rw [r_account_in (by decide)]; exact congrArg (fun z => some (Value.long z)) (acc_a hG (by decide) hb0 hst), rfl, rfl, rfl, rfl, rfl⟩
  by_cases s1_8 : k = nI 8
  · refine q_tableIn (pc := 1) (off := 131) 132 dX11_account_1 (by rw [s1_8]; decide) (by rw [s1_8]; decide) (by rw [s1_8]; rfl) (by decide) ?_
    subst s1_8
    refine q_aload_n (pc := 132) dX11_account_132 rfl rfl ?_
    refine q_getP (pc := 133) dX11_account_133 fX11_10 (Cellar_sh hx) ⟨by decide, rfl⟩ (Cellar_lt hx) (Cellar_p_state hx) ?_
    refine q_callVF (pc := 136) dX11_account_136 kX11_316 (c_X8_alcoholInTanks (Cellar_s_state hx)) (State_sh (Cellar_s_state hx)) rfl (State_lt (Cellar_s_state hx)) ⟨Nat.le_of_ble_eq_true rfl, Nat.le_of_ble_eq_true rfl⟩ rfl rfl (Nat.le_of_ble_eq_true rfl) ?_
    show bq_W _ _ _ _ _ 139 _ [_] _ _ _ _ _ _
    exact q_lret (st := []) (pc := 139) dX11_account_139 rfl ⟨by rw [r_account_in (by decide)]; exact congrArg (fun z => some (Value.long z)) (acc_at hG hpt hst), rfl, rfl, rfl, rfl, rfl⟩
  by_cases s1_9 : k = nI 9
  · refine q_tableIn (pc := 1) (off := 139) 140 dX11_account_1 (by rw [s1_9]; decide) (by rw [s1_9]; decide) (by rw [s1_9]; rfl) (by decide) ?_
    subst s1_9
    refine q_aload_n (pc := 140) dX11_account_140 rfl rfl ?_
    refine q_getP (pc := 141) dX11_account_141 fX11_10 (Cellar_sh hx) ⟨by decide, rfl⟩ (Cellar_lt hx) (Cellar_p_state hx) ?_
    refine q_getP (pc := 144) dX11_account_144 fX11_251 (State_sh (Cellar_s_state hx)) ⟨by decide, rfl⟩ (State_lt (Cellar_s_state hx)) (State_p_filled (Cellar_s_state hx)) ?_
    refine q_aload_n (pc := 147) dX11_account_147 rfl rfl ?_
    refine q_getP (pc := 148) dX11_account_148 fX11_10 (Cellar_sh hx) ⟨by decide, rfl⟩ (Cellar_lt hx) (Cellar_p_state hx) ?_
    refine q_getP (pc := 151) dX11_account_151 fX11_233 (State_sh (Cellar_s_state hx)) ⟨by decide, rfl⟩ (State_lt (Cellar_s_state hx)) (State_p_strengths (Cellar_s_state hx)) ?_
    refine q_callVF (pc := 154) dX11_account_154 kX11_312 (c_X0_alcohol (State_s_filled (Cellar_s_state hx)) (State_s_strengths (Cellar_s_state hx))) (Blend_sh (State_s_filled (Cellar_s_state hx))) rfl (Blend_lt (State_s_filled (Cellar_s_state hx))) ⟨Nat.le_of_ble_eq_true rfl, Nat.le_of_ble_eq_true rfl⟩ rfl rfl (Nat.le_of_ble_eq_true rfl) ?_
    show bq_W _ _ _ _ _ 157 _ [_] _ _ _ _ _ _
    exact q_lret (st := []) (pc := 157) dX11_account_157 rfl ⟨by rw [r_account_in (by decide)]; exact congrArg (fun z => some (Value.long z)) (acc_a hG (by decide) hb2 hst), rfl, rfl, rfl, rfl, rfl⟩
  by_cases s1_10 : k = nI 10
  · refine q_tableIn (pc := 1) (off := 157) 158 dX11_account_1 (by rw [s1_10]; decide) (by rw [s1_10]; decide) (by rw [s1_10]; rfl) (by decide) ?_
    subst s1_10
    refine q_aload_n (pc := 158) dX11_account_158 rfl rfl ?_
    refine q_getP (pc := 159) dX11_account_159 fX11_10 (Cellar_sh hx) ⟨by decide, rfl⟩ (Cellar_lt hx) (Cellar_p_state hx) ?_
    refine q_getP (pc := 162) dX11_account_162 fX11_254 (State_sh (Cellar_s_state hx)) ⟨by decide, rfl⟩ (State_lt (Cellar_s_state hx)) (State_p_lost (Cellar_s_state hx)) ?_
    refine q_aload_n (pc := 165) dX11_account_165 rfl rfl ?_
    refine q_getP (pc := 166) dX11_account_166 fX11_10 (Cellar_sh hx) ⟨by decide, rfl⟩ (Cellar_lt hx) (Cellar_p_state hx) ?_
    refine q_getP (pc := 169) dX11_account_169 fX11_233 (State_sh (Cellar_s_state hx)) ⟨by decide, rfl⟩ (State_lt (Cellar_s_state hx)) (State_p_strengths (Cellar_s_state hx)) ?_
    refine q_callVF (pc := 172) dX11_account_172 kX11_312 (c_X0_alcohol (State_s_lost (Cellar_s_state hx)) (State_s_strengths (Cellar_s_state hx))) (Blend_sh (State_s_lost (Cellar_s_state hx))) rfl (Blend_lt (State_s_lost (Cellar_s_state hx))) ⟨Nat.le_of_ble_eq_true rfl, Nat.le_of_ble_eq_true rfl⟩ rfl rfl (Nat.le_of_ble_eq_true rfl) ?_
    show bq_W _ _ _ _ _ 175 _ [_] _ _ _ _ _ _
    exact q_lret (st := []) (pc := 175) dX11_account_175 rfl ⟨by rw [r_account_in (by decide)]; exact congrArg (fun z => some (Value.long z)) (acc_a hG (by decide) hb3 hst), rfl, rfl, rfl, rfl, rfl⟩
  by_cases s1_11 : k = nI 11
  · refine q_tableIn (pc := 1) (off := 175) 176 dX11_account_1 (by rw [s1_11]; decide) (by rw [s1_11]; decide) (by rw [s1_11]; rfl) (by decide) ?_
    subst s1_11
    refine q_aload_n (pc := 176) dX11_account_176 rfl rfl ?_
    refine q_getP (pc := 177) dX11_account_177 fX11_10 (Cellar_sh hx) ⟨by decide, rfl⟩ (Cellar_lt hx) (Cellar_p_state hx) ?_
    refine q_callVF (pc := 180) dX11_account_180 kX11_179 (c_X8_openOrders (Cellar_s_state hx) hoc h2l) (State_sh (Cellar_s_state hx)) rfl (State_lt (Cellar_s_state hx)) ⟨Nat.le_of_ble_eq_true rfl, Nat.le_of_ble_eq_true rfl⟩ rfl rfl (Nat.le_of_ble_eq_true rfl) ?_
    show bq_W _ _ _ _ _ 183 _ [_] _ _ _ _ _ _
    refine q_i2l (pc := 183) dX11_account_183 ?_
    exact q_lret (st := []) (pc := 184) dX11_account_184 rfl ⟨by rw [r_account_in (by decide)]; exact congrArg (fun z => some (Value.long z)) (acc_o h2l ho4), rfl, rfl, rfl, rfl, rfl⟩
  by_cases s1_12 : k = nI 12
  · refine q_tableIn (pc := 1) (off := 184) 185 dX11_account_1 (by rw [s1_12]; decide) (by rw [s1_12]; decide) (by rw [s1_12]; rfl) (by decide) ?_
    subst s1_12
    refine q_aload_n (pc := 185) dX11_account_185 rfl rfl ?_
    refine q_getP (pc := 186) dX11_account_186 fX11_10 (Cellar_sh hx) ⟨by decide, rfl⟩ (Cellar_lt hx) (Cellar_p_state hx) ?_
    refine q_callVF (pc := 189) dX11_account_189 kX11_319 (c_X8_openLitres (Cellar_s_state hx) hoc h2l) (State_sh (Cellar_s_state hx)) rfl (State_lt (Cellar_s_state hx)) ⟨Nat.le_of_ble_eq_true rfl, Nat.le_of_ble_eq_true rfl⟩ rfl rfl (Nat.le_of_ble_eq_true rfl) ?_
    show bq_W _ _ _ _ _ 192 _ [_] _ _ _ _ _ _
    refine q_i2l (pc := 192) dX11_account_192 ?_
    exact q_lret (st := []) (pc := 193) dX11_account_193 rfl ⟨by rw [r_account_in (by decide)]; exact congrArg (fun z => some (Value.long z)) (acc_l hG h2l ho4 ho1), rfl, rfl, rfl, rfl, rfl⟩
  refine q_tableOut (pc := 1) 194 dX11_account_1 (bq_out 12 (by decide) (fun j hj => match j, hj with | 0, _ => s1_0 | 1, _ => s1_1 | 2, _ => s1_2 | 3, _ => s1_3 | 4, _ => s1_4 | 5, _ => s1_5 | 6, _ => s1_6 | 7, _ => s1_7 | 8, _ => s1_8 | 9, _ => s1_9 | 10, _ => s1_10 | 11, _ => s1_11 | 12, _ => s1_12 | j + 13, hj => absurd hj (by omega))) (by decide) ?_
  have hk : k < nI 0 ∨ ¬ k ≤ nI 12 := (bq_in5 k 12 (by decide)).resolve_right (fun ⟨q, hq, e⟩ => match q, hq, e with | 0, _, e => s1_0 e | 1, _, e => s1_1 e | 2, _, e => s1_2 e | 3, _, e => s1_3 e | 4, _, e => s1_4 e | 5, _, e => s1_5 e | 6, _, e => s1_6 e | 7, _, e => s1_7 e | 8, _, e => s1_8 e | 9, _, e => s1_9 e | 10, _, e => s1_10 e | 11, _, e => s1_11 e | 12, _, e => s1_12 e | q + 13, hq, _ => absurd hq (by omega))
  refine q_ldc2 (pc := 194) dX11_account_194 lX11_292 ?_
  exact q_lret (st := []) (pc := 197) dX11_account_197 rfl ⟨by rw [r_account_out hk], rfl, rfl, rfl, rfl, rfl⟩
/-! the text of a run, read: pure, and the class's reading -/
def hr (B : Nat → Int32) (l p : Nat) : Int32 := if p < l then B p else (-1)
abbrev dgt (x : Int32) : Prop := ¬ (x < nI 48 ∨ ¬ x ≤ nI 57)
abbrev BqT : Type := Nat × Bool
abbrev BqC : Type := Int32 × Int32 × Int32 × Int32
section
variable (B : Nat → Int32) (l : Nat)
abbrev pg (s : BqT) : Prop := s.2 = false ∧ dgt (hr B l s.1)
def pS (c : Int32) (s : BqT) : BqT := if s.2 = false ∧ hr B l s.1 = c then (s.1 + 1, false) else (s.1, true)
def pD (s : BqT) : Int32 × BqT := if pg B l s then (hr B l s.1 - nI 48, (s.1 + 1, false)) else (nI 0, (s.1, true))
def pL : Nat → Int32 → BqT → Int32 × BqT
  | 0, v, s => (v, s)
  | k + 1, v, s => if pg B l s then pL k (v * nI 10 + (hr B l s.1 - nI 48)) (s.1 + 1, false) else (v, s)
def pN (s : BqT) : Int32 × BqT := pL B l 3 (pD B l s).1 (pD B l s).2
def pc_c (s : BqT) : BqT × BqC := ((pD B l s).2, (nI 99, (pD B l s).1, nI 0, nI 0))
def pc_d (s : BqT) : BqT × BqC := ((pN B l s).2, (nI 100, nI 0, nI 0, (pN B l s).1))
def pc_f (s : BqT) : BqT × BqC := ((pN B l (pS B l (nI 35) (pD B l s).2)).2, (nI 102, (pD B l s).1, nI 0, (pN B l (pS B l (nI 35) (pD B l s).2)).1))
def pc_l (s : BqT) : BqT × BqC := ((pD B l (pS B l (nI 47) (pN B l (pS B l (nI 58) (pD B l s).2)).2)).2, (nI 108, (pD B l s).1, (pD B l (pS B l (nI 47) (pN B l (pS B l (nI 58) (pD B l s).2)).2)).1, (pN B l (pS B l (nI 58) (pD B l s).2)).1))
def pc_t (s : BqT) : BqT × BqC := ((pN B l (pS B l (nI 58) (pD B l (pS B l (nI 62) (pD B l s).2)).2)).2, (nI 116, (pD B l s).1, (pD B l (pS B l (nI 62) (pD B l s).2)).1, (pN B l (pS B l (nI 58) (pD B l (pS B l (nI 62) (pD B l s).2)).2)).1))
def pC (p : Nat) : BqT × BqC := if hr B l p = nI 99 then pc_c B l (p + 1, false) else if hr B l p = nI 100 then pc_d B l (p + 1, false) else if hr B l p = nI 102 then pc_f B l (p + 1, false) else if hr B l p = nI 108 then pc_l B l (p + 1, false) else if hr B l p = nI 116 then pc_t B l (p + 1, false) else ((p, true), (nI 0, nI 0, nI 0, nI 0))
/-- at most k commands from the i-th on: right?, place, how many, the commands -/
def pR : Nat → Nat → Nat → (Nat → BqC) → Bool × Nat × Nat × (Nat → BqC)
  | 0, i, p, cs => (false, p, i, cs)
  | k + 1, i, p, cs => if (pC B l p).1.2 = true then (false, (pC B l p).1.1, i, cs) else if l ≤ (pC B l p).1.1 then (true, (pC B l p).1.1, i + 1, bq_r cs i (pC B l p).2) else if hr B l (pC B l p).1.1 = nI 59 then pR k (i + 1) ((pC B l p).1.1 + 1) (bq_r cs i (pC B l p).2) else (false, (pC B l p).1.1, i + 1, cs)
end
theorem hr_in {B : Nat → Int32} {l p : Nat} (h : p < l) : hr B l p = B p := if_pos h
theorem hr_no {B : Nat → Int32} {l p : Nat} (h : ¬ p < l) : hr B l p = (-1) := if_neg h
theorem hr_lt {B : Nat → Int32} {l p k : Nat} (hk : k < 128) (h : hr B l p = nI k) : p < l := by
  refine Decidable.byContradiction fun q => ?_
  rw [hr_no q] at h
  have := congrArg Int32.toInt h
  rw [nI_toInt (by omega)] at this
  rw [show (-1 : Int32).toInt = -1 from rfl] at this
  omega
theorem dgt_lt {B : Nat → Int32} {l p : Nat} (h : dgt (hr B l p)) : p < l := by
  refine Decidable.byContradiction fun q => h (Or.inl ?_)
  rw [hr_no q]
  decide
theorem dgt_5 : ¬ dgt (-5) := fun h => h (Or.inl (by decide))
/-! how far reading goes -/
section
variable {B : Nat → Int32} {l : Nat}
theorem pS_le {k : Nat} (hk : k < 128) {s : BqT} (h : s.1 ≤ l) : s.1 ≤ (pS B l (nI k) s).1 ∧ (pS B l (nI k) s).1 ≤ l := by
  unfold pS
  by_cases c : s.2 = false ∧ hr B l s.1 = nI k
  · rw [if_pos c]
    have := hr_lt hk c.2
    exact ⟨by show s.1 ≤ s.1 + 1; omega, by show s.1 + 1 ≤ l; omega⟩
  · rw [if_neg c]
    exact ⟨Nat.le_refl _, h⟩
theorem pD_le {s : BqT} (h : s.1 ≤ l) : s.1 ≤ (pD B l s).2.1 ∧ (pD B l s).2.1 ≤ l ∧ ((pD B l s).2.2 = false → s.1 + 1 ≤ (pD B l s).2.1) := by
  unfold pD
  by_cases c : pg B l s
  · rw [if_pos c]
    have := dgt_lt c.2
    exact ⟨by show s.1 ≤ s.1 + 1; omega, by show s.1 + 1 ≤ l; omega, fun _ => Nat.le_refl _⟩
  · rw [if_neg c]
    exact ⟨Nat.le_refl _, h, fun q => Bool.noConfusion q⟩
theorem pL_le : ∀ (k : Nat) (v : Int32) (s : BqT), s.1 ≤ l → s.1 ≤ (pL B l k v s).2.1 ∧ (pL B l k v s).2.1 ≤ l ∧ ((pL B l k v s).2.2 = s.2)
  | 0, v, s, h => ⟨Nat.le_refl _, h, rfl⟩
  | k + 1, v, s, h => by
    by_cases c : pg B l s
    · rw [show pL B l (k + 1) v s = pL B l k (v * nI 10 + (hr B l s.1 - nI 48)) (s.1 + 1, false) from if_pos c]
      have hl := dgt_lt c.2
      have ih := pL_le k (v * nI 10 + (hr B l s.1 - nI 48)) (s.1 + 1, false) (by show s.1 + 1 ≤ l; omega)
      have i1 : s.1 + 1 ≤ _ := ih.1
      exact ⟨by omega, ih.2.1, by rw [ih.2.2, c.1]⟩
    · rw [show pL B l (k + 1) v s = (v, s) from if_neg c]
      exact ⟨Nat.le_refl _, h, rfl⟩
theorem pN_le {s : BqT} (h : s.1 ≤ l) : s.1 ≤ (pN B l s).2.1 ∧ (pN B l s).2.1 ≤ l ∧ ((pN B l s).2.2 = false → s.1 + 1 ≤ (pN B l s).2.1) := by
  have d := pD_le (B := B) h
  have e := pL_le (B := B) 3 (pD B l s).1 (pD B l s).2 d.2.1
  unfold pN
  exact ⟨by omega, e.2.1, fun q => by have := d.2.2 (e.2.2 ▸ q); omega⟩
theorem pC_le {p : Nat} (h : p ≤ l) : p ≤ (pC B l p).1.1 ∧ (pC B l p).1.1 ≤ l ∧ ((pC B l p).1.2 = false → p + 2 ≤ (pC B l p).1.1) := by
  unfold pC
  have hp : ∀ k, k < 128 → hr B l p = nI k → (p + 1, false).1 ≤ l := fun k hk e => hr_lt hk e
  split
  · rename_i c
    have d := pD_le (B := B) (hp 99 (by decide) c)
    have d1 : p + 1 ≤ _ := d.1
    exact ⟨by show p ≤ (pD B l (p + 1, false)).2.1; omega, d.2.1, d.2.2⟩
  · split
    · rename_i c
      have d := pN_le (B := B) (hp 100 (by decide) c)
      have d1 : p + 1 ≤ _ := d.1
      exact ⟨by show p ≤ (pN B l (p + 1, false)).2.1; omega, d.2.1, d.2.2⟩
    · split
      · rename_i c
        have d := pD_le (B := B) (hp 102 (by decide) c)
        have d1 : p + 1 ≤ _ := d.1
        have e := pS_le (B := B) (k := 35) (by decide) d.2.1
        have f := pN_le (B := B) e.2
        exact ⟨by show p ≤ (pN B l (pS B l (nI 35) (pD B l (p + 1, false)).2)).2.1; omega, f.2.1, fun q => by have := f.2.2 q; show p + 2 ≤ (pN B l (pS B l (nI 35) (pD B l (p + 1, false)).2)).2.1; omega⟩
      · split
        · rename_i c
          have d := pD_le (B := B) (hp 108 (by decide) c)
          have d1 : p + 1 ≤ _ := d.1
          have e := pS_le (B := B) (k := 58) (by decide) d.2.1
          have f := pN_le (B := B) e.2
          have e2 := pS_le (B := B) (k := 47) (by decide) f.2.1
          have f2 := pD_le (B := B) e2.2
          exact ⟨by show p ≤ (pD B l (pS B l (nI 47) (pN B l (pS B l (nI 58) (pD B l (p + 1, false)).2)).2)).2.1; omega, f2.2.1, fun q => by have := f2.2.2 q; show p + 2 ≤ (pD B l (pS B l (nI 47) (pN B l (pS B l (nI 58) (pD B l (p + 1, false)).2)).2)).2.1; omega⟩
        · split
          · rename_i c
            have d := pD_le (B := B) (hp 116 (by decide) c)
            have d1 : p + 1 ≤ _ := d.1
            have e := pS_le (B := B) (k := 62) (by decide) d.2.1
            have f := pD_le (B := B) e.2
            have e2 := pS_le (B := B) (k := 58) (by decide) f.2.1
            have f2 := pN_le (B := B) e2.2
            exact ⟨by show p ≤ (pN B l (pS B l (nI 58) (pD B l (pS B l (nI 62) (pD B l (p + 1, false)).2)).2)).2.1; omega, f2.2.1, fun q => by have := f2.2.2 q; show p + 2 ≤ (pN B l (pS B l (nI 58) (pD B l (pS B l (nI 62) (pD B l (p + 1, false)).2)).2)).2.1; omega⟩
          · exact ⟨Nat.le_refl _, h, fun q => Bool.noConfusion q⟩
theorem pC_end {p : Nat} (h : l ≤ p) : (pC B l p).1 = (p, true) := by
  have e : hr B l p = (-1) := hr_no (by omega)
  unfold pC
  rw [e, if_neg (by decide), if_neg (by decide), if_neg (by decide), if_neg (by decide), if_neg (by decide)]
end
/-! the class's tape -/
def TS (I : BqI) (t : Nat) (B : Nat → Int32) (l : Nat) (s : BqT) : Prop := I t 0 = nI l ∧ I (t + 1) = B ∧ I t 2 = nI s.1 ∧ I t 3 = (if s.2 = true then nI 1 else nI 0) ∧ s.1 ≤ l ∧ l ≤ 60
section
variable {I : BqI} {t : Nat} {B : Nat → Int32} {l : Nat} {s : BqT}
theorem tn_f (h : TS I t B l s) (hs : s.2 = false) : tn I t = if s.1 < l then B s.1 else (-5) := by
  obtain ⟨h0, h1, h2, h3, h4, h5⟩ := h
  rw [hs, if_neg (by decide)] at h3
  unfold tn
  rw [h0, h2, h3, if_neg (by decide), if_neg (nI_pos (by omega))]
  by_cases c : s.1 < l
  · rw [if_neg (nI_ge c (by omega)), if_neg (nI_ge (show s.1 < 60 by omega) (by decide)), h1, nI_clamp (by omega), if_pos c]
  · rw [if_pos (nI_le (by omega) (by omega)), if_neg c]
theorem tn_t (h : TS I t B l s) (hs : s.2 = true) : tn I t = (-5) := by
  have h3 := h.2.2.2.1
  rw [hs, if_pos rfl] at h3
  unfold tn
  rw [h3, if_pos (by decide)]
theorem tn_eq (h : TS I t B l s) {k : Nat} (hk : k < 128) : tn I t = nI k ↔ (s.2 = false ∧ hr B l s.1 = nI k) := by
  have n5 : ¬ (-5 : Int32) = nI k := fun e => by
    have := congrArg Int32.toInt e
    rw [nI_toInt (by omega), show (-5 : Int32).toInt = -5 from rfl] at this
    omega
  by_cases hs : s.2 = false
  · rw [tn_f h hs]
    by_cases c : s.1 < l
    · rw [if_pos c, hr_in c]
      exact ⟨fun e => ⟨hs, e⟩, fun e => e.2⟩
    · rw [if_neg c]
      exact ⟨fun e => absurd e n5, fun e => absurd (hr_lt hk e.2) c⟩
  · rw [tn_t h (by simpa using hs)]
    exact ⟨fun e => absurd e n5, fun e => absurd e.1 hs⟩
theorem tdg_pg (h : TS I t B l s) : tdg I t = true ↔ pg B l s := by
  have key : tdg I t = true ↔ dgt (tn I t) := by
    unfold tdg
    rw [Bool.and_eq_true, decide_eq_true_iff, decide_eq_true_iff, Int32.not_lt]
    show _ ↔ ¬ (tn I t < nI 48 ∨ ¬ tn I t ≤ nI 57)
    rw [Int32.not_lt]
    constructor
    · rintro ⟨a, b⟩ (c | c)
      · exact absurd c (Int32.not_lt.mpr a)
      · exact c b
    · intro c
      exact ⟨Int32.not_lt.mp (fun z => c (Or.inl z)), Decidable.byContradiction (fun z => c (Or.inr z))⟩
  rw [key]
  by_cases hs : s.2 = false
  · rw [tn_f h hs]
    by_cases c : s.1 < l
    · rw [if_pos c, ← hr_in (B := B) c]
      exact ⟨fun e => ⟨hs, e⟩, fun e => e.2⟩
    · rw [if_neg c]
      exact ⟨fun e => absurd e dgt_5, fun e => absurd (dgt_lt e.2) c⟩
  · rw [tn_t h (by simpa using hs)]
    exact ⟨fun e => absurd e dgt_5, fun e => absurd e.1 hs⟩
theorem TS.ta (h : TS I t B l s) (hs : s.2 = false) (hl : s.1 < l) : TS (ta_I I t) t B l (s.1 + 1, false) := by
  obtain ⟨h0, h1, h2, h3, h4, h5⟩ := h
  unfold ta_I
  refine ⟨(bq_u_no (by decide)).trans h0, (bq_u_ne (by omega)).trans h1, ?_, ?_, hl, h5⟩
  · rw [bq_u_at, h2, nI_add]
  · rw [bq_u_no (by decide), h3, hs]
theorem TS.wr (h : TS I t B l s) : TS (bq_u I t 3 (nI 1)) t B l (s.1, true) := by
  obtain ⟨h0, h1, h2, h3, h4, h5⟩ := h
  exact ⟨(bq_u_no (by decide)).trans h0, (bq_u_ne (by omega)).trans h1, (bq_u_no (by decide)).trans h2, (bq_u_at _ _ _ _).trans (if_pos rfl).symm, h4, h5⟩
theorem TS.fr {I' : BqI} (h : TS I t B l s) (e0 : I' t = I t) (e1 : I' (t + 1) = I (t + 1)) : TS I' t B l s := by
  obtain ⟨h0, h1, h2, h3, h4, h5⟩ := h
  exact ⟨by rw [e0]; exact h0, e1.trans h1, by rw [e0]; exact h2, by rw [e0]; exact h3, h4, h5⟩
theorem TS.rs (h : TS I t B l s) {k : Nat} (hk : k < 128) : TS (rs_I I t (nI k)) t B l (pS B l (nI k) s) := by
  unfold rs_I pS
  by_cases c : s.2 = false ∧ hr B l s.1 = nI k
  · rw [if_pos ((tn_eq h hk).mpr c), if_pos c]
    exact h.ta c.1 (hr_lt hk c.2)
  · rw [if_neg (fun z => c ((tn_eq h hk).mp z)), if_neg c]
    exact h.wr
theorem tn_pg (h : TS I t B l s) (c : pg B l s) : tn I t = hr B l s.1 := by
  rw [tn_f h c.1, if_pos (dgt_lt c.2), hr_in (dgt_lt c.2)]
theorem TS.rd (h : TS I t B l s) : rd_r I t = (pD B l s).1 ∧ TS (rd_I I t) t B l (pD B l s).2 := by
  unfold rd_r rd_I pD
  by_cases c : pg B l s
  · rw [if_pos ((tdg_pg h).mpr c), if_pos ((tdg_pg h).mpr c), if_pos c, tn_pg h c]
    exact ⟨rfl, h.ta c.1 (dgt_lt c.2)⟩
  · rw [if_neg (fun z => c ((tdg_pg h).mp z)), if_neg (fun z => c ((tdg_pg h).mp z)), if_neg c]
    exact ⟨rfl, h.wr⟩
end
theorem TS.rl {t : Nat} {B : Nat → Int32} {l : Nat} : ∀ (k : Nat) (v : Int32) (I : BqI) (s : BqT), TS I t B l s → (rn_l t k v I).1 = (pL B l k v s).1 ∧ TS (rn_l t k v I).2 t B l (pL B l k v s).2
  | 0, v, I, s, h => ⟨rfl, h⟩
  | k + 1, v, I, s, h => by
    by_cases c : pg B l s
    · rw [rn_t ((tdg_pg h).mpr c), show pL B l (k + 1) v s = pL B l k (v * nI 10 + (hr B l s.1 - nI 48)) (s.1 + 1, false) from if_pos c]
      have d := h.rd
      rw [show pD B l s = (hr B l s.1 - nI 48, (s.1 + 1, false)) from if_pos c] at d
      rw [d.1]
      exact TS.rl k _ _ _ d.2
    · rw [rn_f (fun z => c ((tdg_pg h).mp z)), show pL B l (k + 1) v s = (v, s) from if_neg c]
      exact ⟨rfl, h⟩
theorem TS.rn {I : BqI} {t : Nat} {B : Nat → Int32} {l : Nat} {s : BqT} (h : TS I t B l s) : rn_r I t = (pN B l s).1 ∧ TS (rn_I I t) t B l (pN B l s).2 := by
  have d := h.rd
  unfold rn_r rn_I pN
  rw [← d.1]
  exact TS.rl 3 _ _ _ d.2
/-! frames -/
theorem rs_fr {I : BqI} {t a : Nat} {c : Int32} (h : a ≠ t) : rs_I I t c a = I a := by
  unfold rs_I ta_I
  split <;> exact bq_u_ne h
theorem rd_fr {I : BqI} {t a : Nat} (h : a ≠ t) : rd_I I t a = I a := by
  unfold rd_I ta_I
  split <;> exact bq_u_ne h
theorem rl_fr {t a : Nat} (h : a ≠ t) : ∀ (k : Nat) (v : Int32) (I : BqI), (rn_l t k v I).2 a = I a
  | 0, v, I => rfl
  | k + 1, v, I => by
    by_cases c : tdg I t = true
    · rw [rn_t c, rl_fr h k, rd_fr h]
    · rw [rn_f c]
theorem rn_fr {I : BqI} {t a : Nat} (h : a ≠ t) : rn_I I t a = I a := by
  unfold rn_I
  rw [rl_fr h, rd_fr h]
theorem rcD_fr {I : BqI} {t c k a : Nat} (h : a ≠ t) (h2 : a ≠ c) : rcD I t c k a = I a := by
  unfold rcD
  rw [bq_u_ne h2, rd_fr h]
theorem rcN_fr {I : BqI} {t c k a : Nat} (h : a ≠ t) (h2 : a ≠ c) : rcN I t c k a = I a := by
  unfold rcN
  rw [bq_u_ne h2, rn_fr h]
theorem rcD_no {I : BqI} {t c k j : Nat} (h : c ≠ t) (h2 : j ≠ k) : rcD I t c k c j = I c j := by
  unfold rcD
  rw [bq_u_no h2, rd_fr h]
theorem rcN_no {I : BqI} {t c k j : Nat} (h : c ≠ t) (h2 : j ≠ k) : rcN I t c k c j = I c j := by
  unfold rcN
  rw [bq_u_no h2, rn_fr h]
theorem rcD_at {I : BqI} {t c k : Nat} : rcD I t c k c k = rd_r I t := by unfold rcD; rw [bq_u_at]
theorem rcN_at {I : BqI} {t c k : Nat} : rcN I t c k c k = rn_r I t := by unfold rcN; rw [bq_u_at]
theorem TS.D {I : BqI} {t c k : Nat} {B : Nat → Int32} {l : Nat} {s : BqT} (h : TS I t B l s) (hc : t + 2 < c) : TS (rcD I t c k) t B l (pD B l s).2 := (h.rd.2).fr (by unfold rcD; rw [bq_u_ne (by omega)]) (by unfold rcD; rw [bq_u_ne (by omega)])
theorem TS.N {I : BqI} {t c k : Nat} {B : Nat → Int32} {l : Nat} {s : BqT} (h : TS I t B l s) (hc : t + 2 < c) : TS (rcN I t c k) t B l (pN B l s).2 := (h.rn.2).fr (by unfold rcN; rw [bq_u_ne (by omega)]) (by unfold rcN; rw [bq_u_ne (by omega)])
/-- cell c of the class holds the command k -/
def Cm (I : BqI) (c : Nat) (k : BqC) : Prop := ∀ g : BqG, w_do g (I c 0) (I c 1) (I c 2) (I c 3) = w_do g k.1 k.2.1 k.2.2.1 k.2.2.2
theorem Cm.fr {I I' : BqI} {c : Nat} {k : BqC} (h : Cm I c k) (e : I' c = I c) : Cm I' c k := by
  unfold Cm
  rw [e]
  exact h
theorem wd_99 {g : BqG} {a o v : Int32} : w_do g (nI 99) a o v = w_scrub g a := by
  unfold w_do
  rw [if_neg (by decide), if_neg (by decide), if_neg (by decide), if_pos rfl]
theorem wd_100 {g : BqG} {a o v : Int32} : w_do g (nI 100) a o v = w_pass g v := by
  unfold w_do
  rw [if_neg (by decide), if_neg (by decide), if_neg (by decide), if_neg (by decide)]
theorem wd_102 {g : BqG} {a o v : Int32} : w_do g (nI 102) a o v = w_fill g a v := by
  unfold w_do
  rw [if_neg (by decide), if_neg (by decide), if_pos rfl]
theorem wd_108 {g : BqG} {a o v : Int32} : w_do g (nI 108) a o v = w_spill g a v o := by
  unfold w_do
  rw [if_neg (by decide), if_pos rfl]
theorem wd_116 {g : BqG} {a o v : Int32} : w_do g (nI 116) a o v = w_pour g a o v := by
  unfold w_do
  rw [if_pos rfl]
section
variable {I : BqI} {t c p : Nat} {B : Nat → Int32} {l : Nat}
theorem TS.0 (h : TS I t B l (p, false)) (hc : t + 2 < c) (hp : p < l) : TS (rc0 I t c) t B l (p + 1, false) ∧ rc0 I t c c 0 = hr B l p := by
  have h2 : TS (bq_u I c 0 (tn I t)) t B l (p, false) := h.fr (bq_u_ne (by omega)) (bq_u_ne (by omega))
  refine ⟨h2.ta rfl hp, ?_⟩
  unfold rc0 ta_I
  rw [bq_u_ne (by omega), bq_u_at, tn_f h rfl]
  exact (if_pos hp).trans (hr_in hp).symm
theorem rc_ok (h : TS I t B l (p, false)) (hc : t + 2 < c) : TS (rc_I I t c) t B l (pC B l p).1 ∧ ((pC B l p).1.2 = false → Cm (rc_I I t c) c (pC B l p).2) ∧ ∀ a, a ≠ t → a ≠ c → rc_I I t c a = I a := by
  have hct : c ≠ t := by omega
  have f0 : ∀ a, a ≠ t → a ≠ c → rc0 I t c a = I a := fun a h1 h2 => by unfold rc0 ta_I; rw [bq_u_ne h1, bq_u_ne h2]
  by_cases hp : p < l
  · obtain ⟨h0, e0⟩ := h.0 hc hp
    unfold rc_I pC
    rw [e0]
    by_cases c1 : hr B l p = nI 99
    · rw [if_pos c1, if_pos c1]
      refine ⟨h0.D hc, fun _ g => ?_, fun a h1 h2 => by rw [rcD_fr h1 h2, f0 a h1 h2]⟩
      show w_do g _ _ _ _ = w_do g (nI 99) (pD B l (p + 1, false)).1 (nI 0) (nI 0)
      rw [rcD_no hct (by decide), e0, c1, rcD_at, h0.rd.1, wd_99, wd_99]
    rw [if_neg c1, if_neg c1]
    by_cases c2 : hr B l p = nI 100
    · rw [if_pos c2, if_pos c2]
      refine ⟨h0.N hc, fun _ g => ?_, fun a h1 h2 => by rw [rcN_fr h1 h2, f0 a h1 h2]⟩
      show w_do g _ _ _ _ = w_do g (nI 100) (nI 0) (nI 0) (pN B l (p + 1, false)).1
      rw [rcN_no (j := 0) hct (by decide), e0, c2, rcN_at, h0.rn.1, wd_100, wd_100]
    rw [if_neg c2, if_neg c2]
    by_cases c3 : hr B l p = nI 102
    · rw [if_pos c3, if_pos c3]
      have h1 := h0.D (k := 1) hc
      have h2 := h1.rs (k := 35) (by decide)
      refine ⟨h2.N hc, fun _ g => ?_, fun a q1 q2 => by rw [rcN_fr q1 q2, rs_fr q1, rcD_fr q1 q2, f0 a q1 q2]⟩
      show w_do g _ _ _ _ = w_do g (nI 102) (pD B l (p + 1, false)).1 (nI 0) (pN B l (pS B l (nI 35) (pD B l (p + 1, false)).2)).1
      rw [rcN_no (j := 0) hct (by decide), rs_fr hct, rcD_no (j := 0) hct (by decide), e0, c3, rcN_no (j := 1) hct (by decide), rs_fr hct, rcD_at, h0.rd.1, rcN_at, h2.rn.1, wd_102, wd_102]
    rw [if_neg c3, if_neg c3]
    by_cases c4 : hr B l p = nI 108
    · rw [if_pos c4, if_pos c4]
      have h1 := h0.D (k := 1) hc
      have h2 := h1.rs (k := 58) (by decide)
      have h3 := h2.N (k := 3) hc
      have h4 := h3.rs (k := 47) (by decide)
      refine ⟨h4.D hc, fun _ g => ?_, fun a q1 q2 => by rw [rcD_fr q1 q2, rs_fr q1, rcN_fr q1 q2, rs_fr q1, rcD_fr q1 q2, f0 a q1 q2]⟩
      show w_do g _ _ _ _ = w_do g (nI 108) (pD B l (p + 1, false)).1 (pD B l (pS B l (nI 47) (pN B l (pS B l (nI 58) (pD B l (p + 1, false)).2)).2)).1 (pN B l (pS B l (nI 58) (pD B l (p + 1, false)).2)).1
      rw [rcD_no (j := 0) hct (by decide), rs_fr hct, rcN_no (j := 0) hct (by decide), rs_fr hct, rcD_no (j := 0) hct (by decide), e0, c4, rcD_no (j := 1) hct (by decide), rs_fr hct, rcN_no (j := 1) hct (by decide), rs_fr hct, rcD_at, h0.rd.1, rcD_at, h4.rd.1, rcD_no (j := 3) hct (by decide), rs_fr hct, rcN_at, h2.rn.1]
    rw [if_neg c4, if_neg c4]
    by_cases c5 : hr B l p = nI 116
    · rw [if_pos c5, if_pos c5]
      have h1 := h0.D (k := 1) hc
      have h2 := h1.rs (k := 62) (by decide)
      have h3 := h2.D (k := 2) hc
      have h4 := h3.rs (k := 58) (by decide)
      refine ⟨h4.N hc, fun _ g => ?_, fun a q1 q2 => by rw [rcN_fr q1 q2, rs_fr q1, rcD_fr q1 q2, rs_fr q1, rcD_fr q1 q2, f0 a q1 q2]⟩
      show w_do g _ _ _ _ = w_do g (nI 116) (pD B l (p + 1, false)).1 (pD B l (pS B l (nI 62) (pD B l (p + 1, false)).2)).1 (pN B l (pS B l (nI 58) (pD B l (pS B l (nI 62) (pD B l (p + 1, false)).2)).2)).1
      rw [rcN_no (j := 0) hct (by decide), rs_fr hct, rcD_no (j := 0) hct (by decide), rs_fr hct, rcD_no (j := 0) hct (by decide), e0, c5, rcN_no (j := 1) hct (by decide), rs_fr hct, rcD_no (j := 1) hct (by decide), rs_fr hct, rcD_at, h0.rd.1, rcN_no (j := 2) hct (by decide), rs_fr hct, rcD_at, h2.rd.1, rcN_at, h4.rn.1]
    rw [if_neg c5, if_neg c5]
    refine ⟨?_, fun q => Bool.noConfusion q, fun a q1 q2 => by rw [bq_u_ne q1, bq_u_ne q1, f0 a q1 q2]⟩
    obtain ⟨g0, g1, g2, g3, g4, g5⟩ := h0
    refine ⟨(bq_u_no (by decide)).trans ((bq_u_no (by decide)).trans g0), (bq_u_ne (by omega)).trans ((bq_u_ne (by omega)).trans g1), (bq_u_no (by decide)).trans ((bq_u_at _ _ _ _).trans ?_), (bq_u_at _ _ _ _).trans (if_pos rfl).symm, Nat.le_of_lt hp, g5⟩
    rw [g2, pk_sub (by show 1 ≤ p + 1; omega)]
    rfl
  · have e1 := pC_end (B := B) (l := l) (p := p) (by omega)
    have et : tn I t = (-5) := by rw [tn_f h rfl]; exact if_neg hp
    have e0 : rc0 I t c c 0 = (-5) := by unfold rc0 ta_I; rw [bq_u_ne hct, bq_u_at, et]
    rw [e1]
    unfold rc_I
    rw [e0, if_neg (by decide), if_neg (by decide), if_neg (by decide), if_neg (by decide), if_neg (by decide)]
    refine ⟨?_, fun q => Bool.noConfusion q, fun a q1 q2 => by rw [bq_u_ne q1, bq_u_ne q1, f0 a q1 q2]⟩
    obtain ⟨g0, g1, g2, g3, g4, g5⟩ := h
    have r2 : rc0 I t c t 2 = nI (p + 1) := by unfold rc0 ta_I; rw [bq_u_at, bq_u_ne (by omega), g2, nI_add]
    refine ⟨(bq_u_no (by decide)).trans ((bq_u_no (by decide)).trans ?_), (bq_u_ne (by omega)).trans ((bq_u_ne (by omega)).trans ((f0 _ (by omega) (by omega)).trans g1)), (bq_u_no (by decide)).trans ((bq_u_at _ _ _ _).trans ?_), (bq_u_at _ _ _ _).trans (if_pos rfl).symm, g4, g5⟩
    · unfold rc0 ta_I
      rw [bq_u_no (by decide), bq_u_ne (by omega)]
      exact g0
    · rw [r2, pk_sub (by omega)]
      rfl
theorem rc_wr (h : TS I t B l (p, true)) (hc : t + 2 < c) : rc_I I t c t 3 = nI 1 ∧ rc_I I t c t 2 = nI p ∧ ∀ a, a ≠ t → a ≠ c → rc_I I t c a = I a := by
  have hct : c ≠ t := by omega
  have f0 : ∀ a, a ≠ t → a ≠ c → rc0 I t c a = I a := fun a h1 h2 => by unfold rc0 ta_I; rw [bq_u_ne h1, bq_u_ne h2]
  have et : tn I t = (-5) := tn_t h rfl
  have e0 : rc0 I t c c 0 = (-5) := by unfold rc0 ta_I; rw [bq_u_ne hct, bq_u_at, et]
  have r2 : rc0 I t c t 2 = nI (p + 1) := by unfold rc0 ta_I; rw [bq_u_at, bq_u_ne (by omega), h.2.2.1, nI_add]
  unfold rc_I
  rw [e0, if_neg (by decide), if_neg (by decide), if_neg (by decide), if_neg (by decide), if_neg (by decide)]
  refine ⟨bq_u_at _ _ _ _, (bq_u_no (by decide)).trans ((bq_u_at _ _ _ _).trans ?_), fun a q1 q2 => by rw [bq_u_ne q1, bq_u_ne q1, f0 a q1 q2]⟩
  rw [r2, pk_sub (by omega)]
  rfl
end
theorem rs_4 {I : BqI} {t : Nat} {c : Int32} : rs_I I t c t 4 = I t 4 := by
  unfold rs_I ta_I
  split <;> exact bq_u_no (by decide)
theorem rd_4 {I : BqI} {t : Nat} : rd_I I t t 4 = I t 4 := by
  unfold rd_I ta_I
  split <;> exact bq_u_no (by decide)
theorem rl_4 {t : Nat} : ∀ (k : Nat) (v : Int32) (I : BqI), (rn_l t k v I).2 t 4 = I t 4
  | 0, v, I => rfl
  | k + 1, v, I => by
    by_cases c : tdg I t = true
    · rw [rn_t c, rl_4 k, rd_4]
    · rw [rn_f c]
theorem rn_4 {I : BqI} {t : Nat} : rn_I I t t 4 = I t 4 := by
  unfold rn_I
  rw [rl_4, rd_4]
theorem rcD_4 {I : BqI} {t c k : Nat} (h : c ≠ t) : rcD I t c k t 4 = I t 4 := by
  unfold rcD
  rw [bq_u_ne (by omega), rd_4]
theorem rcN_4 {I : BqI} {t c k : Nat} (h : c ≠ t) : rcN I t c k t 4 = I t 4 := by
  unfold rcN
  rw [bq_u_ne (by omega), rn_4]
theorem rc_4 (I : BqI) (t c : Nat) (h : c ≠ t) : rc_I I t c t 4 = I t 4 := by
  have e : rc0 I t c t 4 = I t 4 := by unfold rc0 ta_I; rw [bq_u_no (by decide), bq_u_ne (by omega)]
  unfold rc_I
  split
  · rw [rcD_4 h, e]
  · split
    · rw [rcN_4 h, e]
    · split
      · rw [rcN_4 h, rs_4, rcD_4 h, e]
      · split
        · rw [rcD_4 h, rs_4, rcN_4 h, rs_4, rcD_4 h, e]
        · split
          · rw [rcN_4 h, rs_4, rcD_4 h, rs_4, rcD_4 h, e]
          · rw [bq_u_no (by decide), bq_u_no (by decide), e]
/-- what the class's reading comes to -/
def RcR (I0 : BqI) (t l : Nat) (r : Bool × Nat × Nat × (Nat → BqC)) (w : Int32 × BqI) : Prop := w.1 = (if r.1 = true then nI 1 else nI 0) ∧ w.2 t 2 = nI r.2.1 ∧ (r.1 = true → w.2 t 4 = nI r.2.2.1 ∧ ∀ j, j < r.2.2.1 → Cm w.2 (t + 3 + j) (r.2.2.2 j)) ∧ ∀ a, a ≠ t → (a < t + 3 ∨ t + 23 ≤ a) → w.2 a = I0 a
theorem rcs_ok {I0 : BqI} {t : Nat} {B : Nat → Int32} {l : Nat} : ∀ (k i p : Nat) (I : BqI) (cs : Nat → BqC), k + i = 20 → 3 * i ≤ p → TS I t B l (p, false) → I t 4 = nI i → (∀ j, j < i → Cm I (t + 3 + j) (cs j)) → (∀ a, a ≠ t → (a < t + 3 ∨ t + 23 ≤ a) → I a = I0 a) → RcR I0 t l (pR B l (k + 1) i p cs) (rcs t k i I)
  | 0, i, p, I, cs, hk, hp, h, h4, hcs, hf => by
    have hl : l ≤ p := by have := h.2.2.2.2.2; omega
    have e := pC_end (B := B) (l := l) hl
    rw [show pR B l (0 + 1) i p cs = (false, p, i, cs) from by
      show (if (pC B l p).1.2 = true then (false, (pC B l p).1.1, i, cs) else _) = _
      rw [e]; rfl]
    exact ⟨rfl, h.2.2.1, fun q => Bool.noConfusion q, hf⟩
  | k + 1, i, p, I, cs, hk, hp, h, h4, hcs, hf => by
    obtain ⟨h1, h2, h3⟩ := rc_ok (c := t + 3 + i) h (by omega)
    have hle := pC_le (B := B) (l := l) h.2.2.2.2.1
    generalize er : pC B l p = r at h1 h2 hle
    by_cases c1 : r.1.2 = true
    · rw [show pR B l (k + 1 + 1) i p cs = (false, r.1.1, i, cs) from by
        show (if (pC B l p).1.2 = true then (false, (pC B l p).1.1, i, cs) else _) = _
        rw [er]; exact if_pos c1]
      have e3 : ¬ rcs_1 I t i t 3 = 0 := by
        show ¬ rc_I I t (t + 3 + i) t 3 = 0
        rw [h1.2.2.2.1, if_pos c1]; decide
      rw [rcs_a e3]
      exact ⟨rfl, h1.2.2.1, fun q => Bool.noConfusion q, fun a q1 q2 => (h3 a q1 (by omega)).trans (hf a q1 q2)⟩
    have c1' : r.1.2 = false := by simpa using c1
    have e3 : rcs_1 I t i t 3 = 0 := by
      show rc_I I t (t + 3 + i) t 3 = 0
      rw [h1.2.2.2.1, if_neg c1]; rfl
    have h4' : rcs_2 I t i t 4 = nI (i + 1) := by
      have e4 : rc_I I t (t + 3 + i) t 4 = nI i := (rc_4 I t (t + 3 + i) (by omega)).trans h4
      unfold rcs_2 rcs_1
      rw [bq_u_at, e4, nI_add]
    have hT : TS (rcs_2 I t i) t B l (r.1.1, false) := by
      obtain ⟨g0, g1, g2, g3, g4, g5⟩ := h1
      rw [c1'] at g3
      exact ⟨(bq_u_no (by decide)).trans g0, (bq_u_ne (by omega)).trans g1, (bq_u_no (by decide)).trans g2, (bq_u_no (by decide)).trans g3, g4, g5⟩
    have hC : ∀ j, j < i + 1 → Cm (rcs_2 I t i) (t + 3 + j) (bq_r cs i r.2 j) := by
      intro j hj
      by_cases e : j = i
      · subst e
        rw [bq_r_self]
        exact (h2 c1').fr (bq_u_ne (by omega))
      · rw [bq_r_ne e]
        exact (hcs j (by omega)).fr ((bq_u_ne (by omega)).trans (h3 _ (by omega) (by omega)))
    have hF : ∀ a, a ≠ t → (a < t + 3 ∨ t + 23 ≤ a) → rcs_2 I t i a = I0 a := fun a q1 q2 => (bq_u_ne q1).trans ((h3 a q1 (by omega)).trans (hf a q1 q2))
    by_cases c2 : l ≤ r.1.1
    · rw [show pR B l (k + 1 + 1) i p cs = (true, r.1.1, i + 1, bq_r cs i r.2) from by
        show (if (pC B l p).1.2 = true then (false, (pC B l p).1.1, i, cs) else if l ≤ (pC B l p).1.1 then (true, (pC B l p).1.1, i + 1, bq_r cs i (pC B l p).2) else _) = _
        rw [er, if_neg c1]; exact if_pos c2]
      rw [rcs_b e3 (by rw [hT.1, hT.2.2.1]; exact fun z => absurd (nI_le c2 (by have := hT.2.2.2.2.1; have := hT.2.2.2.2.2; show r.1.1 < 2 ^ 31; have h7 : r.1.1 ≤ l := hT.2.2.2.2.1; omega)) (Int32.not_le.mpr z))]
      exact ⟨rfl, hT.2.2.1, fun _ => ⟨h4', hC⟩, hF⟩
    have hlt : rcs_2 I t i t 2 < rcs_2 I t i t 0 := by
      rw [hT.1, hT.2.2.1]
      exact nI_lt (by show r.1.1 < l; omega) (by have := hT.2.2.2.2.2; omega)
    rw [rcs_c e3 hlt]
    have hS := hT.rs (k := 59) (by decide)
    have hS4 : rs_I (rcs_2 I t i) t (nI 59) t 4 = nI (i + 1) := by
      rw [← h4']
      unfold rs_I ta_I
      split <;> exact bq_u_no (by decide)
    have hSC : ∀ j, j < i + 1 → Cm (rs_I (rcs_2 I t i) t (nI 59)) (t + 3 + j) (bq_r cs i r.2 j) := fun j hj => (hC j hj).fr (rs_fr (by omega))
    have hSF : ∀ a, a ≠ t → (a < t + 3 ∨ t + 23 ≤ a) → rs_I (rcs_2 I t i) t (nI 59) a = I0 a := fun a q1 q2 => (rs_fr q1).trans (hF a q1 q2)
    by_cases c3 : hr B l r.1.1 = nI 59
    · rw [show pR B l (k + 1 + 1) i p cs = pR B l (k + 1) (i + 1) (r.1.1 + 1) (bq_r cs i r.2) from by
        show (if (pC B l p).1.2 = true then (false, (pC B l p).1.1, i, cs) else if l ≤ (pC B l p).1.1 then (true, (pC B l p).1.1, i + 1, bq_r cs i (pC B l p).2) else if hr B l (pC B l p).1.1 = nI 59 then pR B l (k + 1) (i + 1) ((pC B l p).1.1 + 1) (bq_r cs i (pC B l p).2) else _) = _
        rw [er, if_neg c1, if_neg c2]; exact if_pos c3]
      rw [show pS B l (nI 59) (r.1.1, false) = (r.1.1 + 1, false) from if_pos ⟨rfl, c3⟩] at hS
      have hge := hle.2.2 c1'
      exact rcs_ok k (i + 1) (r.1.1 + 1) _ _ (by omega) (by omega) hS hS4 hSC hSF
    · rw [show pR B l (k + 1 + 1) i p cs = (false, r.1.1, i + 1, cs) from by
        show (if (pC B l p).1.2 = true then (false, (pC B l p).1.1, i, cs) else if l ≤ (pC B l p).1.1 then (true, (pC B l p).1.1, i + 1, bq_r cs i (pC B l p).2) else if hr B l (pC B l p).1.1 = nI 59 then pR B l (k + 1) (i + 1) ((pC B l p).1.1 + 1) (bq_r cs i (pC B l p).2) else _) = _
        rw [er, if_neg c1, if_neg c2]; exact if_neg c3]
      rw [show pS B l (nI 59) (r.1.1, false) = (r.1.1, true) from if_neg (fun z => c3 z.2)] at hS
      match k, hk with
      | 0, hk => exact ⟨rfl, hS.2.2.1, fun q => Bool.noConfusion q, hSF⟩
      | k + 1, hk =>
        obtain ⟨w1, w2, w3⟩ := rc_wr (c := t + 3 + (i + 1)) hS (by omega)
        rw [rcs_a (show ¬ rcs_1 (rs_I (rcs_2 I t i) t (nI 59)) t (i + 1) t 3 = 0 from by
          show ¬ rc_I _ t (t + 3 + (i + 1)) t 3 = 0
          rw [w1]; decide)]
        exact ⟨rfl, w2, fun q => Bool.noConfusion q, fun a q1 q2 => (w3 a q1 (by omega)).trans (hSF a q1 q2)⟩
/-! commands keep the row sound; what a run comes to -/
section
variable {g : BqG} {en : Nat}
theorem gk_wpour (h : GK g en) (hen : en < 200000) (f t l : Int32) : GK (w_pour g f t l).2 (en + 3) := by
  have h3 := h.mono (Nat.le_add_right en 3)
  by_cases c : (f < nI 0 ∨ ¬ f ≤ nI 5) ∨ (t < nI 0 ∨ ¬ t ≤ nI 5) ∨ f = t
  · rw [show w_pour g f t l = ((-1), g) from if_pos c]; exact h3
  by_cases c2 : l < nI 1 ∨ ¬ l ≤ nI 9999
  · rw [show w_pour g f t l = ((-8), g) from (if_neg c).trans (if_pos c2)]; exact h3
  obtain ⟨f, hf, rfl⟩ := (bq_in5 f 5 (by decide)).resolve_left (fun q => c (Or.inl q))
  obtain ⟨t, ht, rfl⟩ := (bq_in5 t 5 (by decide)).resolve_left (fun q => c (Or.inr (Or.inl q)))
  obtain ⟨l, h1, h2, rfl⟩ := (bq_in19 l 1 9999 (by decide) (by decide)).resolve_left c2
  have hne : f ≠ t := fun q => c (Or.inr (Or.inr (congrArg nI q)))
  rw [w_pour_n hf ht hne h1 h2]
  unfold n_pour
  by_cases d1 : gn g (11 + 19 * f) = 1 ∧ gn g (11 + 19 * t) ≤ 1
  · rw [if_neg (not_not_intro d1)]
    by_cases d2 : gt g f < l
    · rw [if_pos d2]; exact h3
    · rw [if_neg d2]
      by_cases d3 : gn g (10 + 19 * t) < gt g t + (l - l * gn g 4 / 1000)
      · rw [if_pos d3]; exact h3
      · rw [if_neg d3]
        have h4 := h.d.2.2.2.2.1
        have h5 : l * gn g 4 ≤ l * 100 := Nat.mul_le_mul_left l h4
        exact gk_pour h hen hf ht hne h1 (by omega) (by omega) d1.1 (by omega)
  · rw [if_pos d1]; exact h3
theorem gk_wspill (h : GK g en) (hen : en < 200000) (t l r : Int32) : GK (w_spill g t l r).2 (en + 3) := by
  have h3 := h.mono (Nat.le_add_right en 3)
  by_cases c : t < nI 0 ∨ ¬ t ≤ nI 5
  · rw [show w_spill g t l r = ((-1), g) from if_pos c]; exact h3
  by_cases c2 : (l < nI 1 ∨ ¬ l ≤ nI 9999) ∨ (r < nI 1 ∨ ¬ r ≤ nI 3)
  · rw [show w_spill g t l r = ((-8), g) from (if_neg c).trans (if_pos c2)]; exact h3
  obtain ⟨t, ht, rfl⟩ := (bq_in5 t 5 (by decide)).resolve_left c
  obtain ⟨l, h1, h2, rfl⟩ := (bq_in19 l 1 9999 (by decide) (by decide)).resolve_left (fun q => c2 (Or.inl q))
  obtain ⟨r, r1, r2, rfl⟩ := (bq_in19 r 1 3 (by decide) (by decide)).resolve_left (fun q => c2 (Or.inr q))
  rw [w_spill_n ht h1 h2 r1 r2]
  unfold n_spill
  by_cases d1 : gn g (11 + 19 * t) = 1
  · rw [if_neg (not_not_intro d1)]
    by_cases d2 : gt g t < l
    · rw [if_pos d2]; exact h3
    · rw [if_neg d2]
      exact (gk_spill h hen ht h1 (by omega) d1 (by omega)).mono (by omega)
  · rw [if_pos d1]; exact h3
theorem gk_wscrub (h : GK g en) (t : Int32) : GK (w_scrub g t).2 (en + 3) := by
  have h3 := h.mono (Nat.le_add_right en 3)
  by_cases c : t < nI 0 ∨ ¬ t ≤ nI 5
  · rw [show w_scrub g t = ((-1), g) from if_pos c]; exact h3
  obtain ⟨t, ht, rfl⟩ := (bq_in5 t 5 (by decide)).resolve_left c
  rw [w_scrub_n ht]
  by_cases d : gn g (11 + 19 * t) = 2
  · rw [if_pos d]; exact (gk_scrub h ht d).mono (by omega)
  · rw [if_neg d]; exact h3
theorem gk_wpass (h : GK g en) (d : Int32) : GK (w_pass g d).2 (en + 3) := by
  have h3 := h.mono (Nat.le_add_right en 3)
  by_cases c : d < nI 1 ∨ ¬ d ≤ nI 999
  · rw [show w_pass g d = ((-8), g) from if_pos c]; exact h3
  obtain ⟨d, d1, d2, rfl⟩ := (bq_in19 d 1 999 (by decide) (by decide)).resolve_left c
  rw [w_pass_n d1 d2]
  unfold n_pass
  by_cases e : 9999 < gn g 0 + d
  · rw [if_pos e]; exact h3
  · rw [if_neg e]; exact (gk_pass h (by omega)).mono (by omega)
theorem gk_wfill (h : GK g en) (hen : en < 200000) (t o : Int32) : GK (w_fill g t o).2 (en + 3) := by
  have h3 := h.mono (Nat.le_add_right en 3)
  by_cases c : t < nI 0 ∨ ¬ t ≤ nI 5
  · rw [show w_fill g t o = ((-1), g) from if_pos c]; exact h3
  by_cases c2 : o < 0 ∨ g 2 ≤ o ∨ nI 10 ≤ o
  · rw [show w_fill g t o = ((-5), g) from (if_neg c).trans (if_pos c2)]; exact h3
  obtain ⟨t, ht, rfl⟩ := (bq_in5 t 5 (by decide)).resolve_left c
  obtain ⟨o, ho, rfl⟩ := (bq_inO h.gi o).resolve_left c2
  rw [w_fill_n h.gi ht ho]
  unfold n_fill
  by_cases d0 : gn g (208 + 9 * o) = 0
  · rw [if_neg (not_not_intro d0)]
    by_cases d1 : gn g (11 + 19 * t) = 1
    · rw [if_neg (not_not_intro d1)]
      by_cases d2 : gt g t < gn g (205 + 9 * o)
      · rw [if_pos d2]; exact h3
      · rw [if_neg d2]
        by_cases d3 : ¬ g_str g t < g (206 + 9 * o) ∧ ¬ g (207 + 9 * o) < g_str g t
        · rw [if_neg (not_not_intro d3)]
          exact (gk_fill h hen ht ho (by omega) d1).mono (by omega)
        · rw [if_pos d3]; exact h3
    · rw [if_pos d1]; exact h3
  · rw [if_pos d0]; exact h3
theorem gk_wdo (h : GK g en) (hen : en < 200000) (a t o v : Int32) : GK (w_do g a t o v).2 (en + 3) := by
  unfold w_do
  by_cases c1 : a = nI 116
  · rw [if_pos c1]; exact gk_wpour h hen _ _ _
  · rw [if_neg c1]
    by_cases c2 : a = nI 108
    · rw [if_pos c2]; exact gk_wspill h hen _ _ _
    · rw [if_neg c2]
      by_cases c3 : a = nI 102
      · rw [if_pos c3]; exact gk_wfill h hen _ _
      · rw [if_neg c3]
        by_cases c4 : a = nI 99
        · rw [if_pos c4]; exact gk_wscrub h _
        · rw [if_neg c4]; exact gk_wpass h _
end
def wk (g : BqG) (k : BqC) : Int32 × BqG := w_do g k.1 k.2.1 k.2.2.1 k.2.2.2
/-- the row after the first i commands, and the first that is refused -/
def ds (cs : Nat → BqC) (g : BqG) : Nat → BqG
  | 0 => g
  | i + 1 => (wk (ds cs g i) (cs i)).2
def fz (cs : Nat → BqC) (g : BqG) : Nat → Option Nat
  | 0 => none
  | i + 1 => match fz cs g i with
    | some q => some q
    | none => if (wk (ds cs g i) (cs i)).1 < 0 then some i else none
theorem fz_some {cs : Nat → BqC} {g : BqG} {i q : Nat} (h : fz cs g i = some q) : ∀ d, fz cs g (i + d) = some q
  | 0 => h
  | d + 1 => by
    show (match fz cs g (i + d) with | some q => some q | none => _) = _
    rw [fz_some h d]
theorem fz_hit {cs : Nat → BqC} {g : BqG} {i n : Nat} (hi : i < n) (h : fz cs g i = none) (hw : (wk (ds cs g i) (cs i)).1 < 0) : fz cs g n = some i := by
  have e : fz cs g (i + 1) = some i := by
    show (match fz cs g i with | some q => some q | none => _) = _
    rw [h]; exact if_pos hw
  have := fz_some e (n - (i + 1))
  rwa [show i + 1 + (n - (i + 1)) = n by omega] at this
theorem fz_no {cs : Nat → BqC} {g : BqG} {i : Nat} (h : fz cs g i = none) (hw : ¬ (wk (ds cs g i) (cs i)).1 < 0) : fz cs g (i + 1) = none := by
  show (match fz cs g i with | some q => some q | none => _) = _
  rw [h]; exact if_neg hw
theorem ds_gk {cs : Nat → BqC} {g : BqG} {en : Nat} (h : GK g en) : ∀ i, en + 3 * i < 200000 → GK (ds cs g i) (en + 3 * i)
  | 0, _ => h
  | i + 1, hi => gk_wdo (ds_gk h i (by omega)) (by omega) _ _ _ _
/-- a run: the text read, then the commands -/
def p_run (g : BqG) (h : Nat → BqG) (ch : Nat) (y : Int32) (r : Bool × Nat × Nat × (Nat → BqC)) : BqR := if ¬ r.1 = true then ((-100) - nI r.2.1, g, h, ch, y) else match fz r.2.2.2 g r.2.2.1 with
  | some q => ((-200) - nI q, g, h, ch, -(wk (ds r.2.2.2 g q) (r.2.2.2 q)).1)
  | none => chg g (ds r.2.2.2 g r.2.2.1) h ch y (nI r.2.2.1)
theorem p_run_w {g : BqG} {h : Nat → BqG} {ch : Nat} {y : Int32} {r : Bool × Nat × Nat × (Nat → BqC)} (hr : ¬ r.1 = true) : p_run g h ch y r = ((-100) - nI r.2.1, g, h, ch, y) := if_pos hr
theorem p_run_f {g : BqG} {h : Nat → BqG} {ch q : Nat} {y : Int32} {r : Bool × Nat × Nat × (Nat → BqC)} (hr : r.1 = true) (hf : fz r.2.2.2 g r.2.2.1 = some q) : p_run g h ch y r = ((-200) - nI q, g, h, ch, -(wk (ds r.2.2.2 g q) (r.2.2.2 q)).1) := by
  unfold p_run
  rw [if_neg (not_not_intro hr), hf]
theorem p_run_o {g : BqG} {h : Nat → BqG} {ch : Nat} {y : Int32} {r : Bool × Nat × Nat × (Nat → BqC)} (hr : r.1 = true) (hf : fz r.2.2.2 g r.2.2.1 = none) : p_run g h ch y r = chg g (ds r.2.2.2 g r.2.2.1) h ch y (nI r.2.2.1) := by
  unfold p_run
  rw [if_neg (not_not_intro hr), hf]
/-! how many commands a text holds -/
theorem pR_n {B : Nat → Int32} {l : Nat} : ∀ (k i p : Nat) (cs : Nat → BqC), 3 * i ≤ p → p ≤ l → (pR B l k i p cs).1 = true → 3 * (pR B l k i p cs).2.2.1 ≤ l + 1
  | 0, i, p, cs, _, _, h => Bool.noConfusion h
  | k + 1, i, p, cs, h1, h2, h => by
    have hle := pC_le (B := B) h2
    have e : pR B l (k + 1) i p cs = if (pC B l p).1.2 = true then (false, (pC B l p).1.1, i, cs) else if l ≤ (pC B l p).1.1 then (true, (pC B l p).1.1, i + 1, bq_r cs i (pC B l p).2) else if hr B l (pC B l p).1.1 = nI 59 then pR B l k (i + 1) ((pC B l p).1.1 + 1) (bq_r cs i (pC B l p).2) else (false, (pC B l p).1.1, i + 1, cs) := rfl
    generalize er : pC B l p = r at hle e
    by_cases c1 : r.1.2 = true
    · rw [e, if_pos c1] at h; exact Bool.noConfusion h
    have h3 := hle.2.2 (by simpa using c1)
    by_cases c2 : l ≤ r.1.1
    · rw [e, if_neg c1, if_pos c2]
      show 3 * (i + 1) ≤ l + 1
      omega
    by_cases c3 : hr B l r.1.1 = nI 59
    · rw [e, if_neg c1, if_neg c2, if_pos c3] at h ⊢
      exact pR_n k (i + 1) (r.1.1 + 1) _ (by omega) (by omega) h
    · rw [e, if_neg c1, if_neg c2, if_neg c3] at h; exact Bool.noConfusion h
/-! two texts alike -/
section
variable {B B' : Nat → Int32} {l : Nat} (e : hr B l = hr B' l)
theorem pS_c {c : Int32} {s : BqT} : pS B l c s = pS B' l c s := by unfold pS; rw [e]
theorem pD_c {s : BqT} : pD B l s = pD B' l s := by
  unfold pD
  show (if s.2 = false ∧ dgt (hr B l s.1) then _ else _) = (if s.2 = false ∧ dgt (hr B' l s.1) then _ else _)
  rw [e]
theorem pL_c : ∀ (k : Nat) (v : Int32) (s : BqT), pL B l k v s = pL B' l k v s
  | 0, v, s => rfl
  | k + 1, v, s => by
    show (if s.2 = false ∧ dgt (hr B l s.1) then pL B l k (v * nI 10 + (hr B l s.1 - nI 48)) (s.1 + 1, false) else (v, s)) = (if s.2 = false ∧ dgt (hr B' l s.1) then pL B' l k (v * nI 10 + (hr B' l s.1 - nI 48)) (s.1 + 1, false) else (v, s))
    rw [e, pL_c k]
theorem pN_c {s : BqT} : pN B l s = pN B' l s := by
  unfold pN
  rw [pD_c e, pL_c e]
theorem pC_c {p : Nat} : pC B l p = pC B' l p := by
  unfold pC pc_c pc_d pc_f pc_l pc_t
  simp only [e, pD_c e, pN_c e, pS_c e]
theorem pR_c : ∀ (k i p : Nat) (cs : Nat → BqC), pR B l k i p cs = pR B' l k i p cs
  | 0, i, p, cs => rfl
  | k + 1, i, p, cs => by
    show (if (pC B l p).1.2 = true then (false, (pC B l p).1.1, i, cs) else if l ≤ (pC B l p).1.1 then (true, (pC B l p).1.1, i + 1, bq_r cs i (pC B l p).2) else if hr B l (pC B l p).1.1 = nI 59 then pR B l k (i + 1) ((pC B l p).1.1 + 1) (bq_r cs i (pC B l p).2) else (false, (pC B l p).1.1, i + 1, cs)) = (if (pC B' l p).1.2 = true then (false, (pC B' l p).1.1, i, cs) else if l ≤ (pC B' l p).1.1 then (true, (pC B' l p).1.1, i + 1, bq_r cs i (pC B' l p).2) else if hr B' l (pC B' l p).1.1 = nI 59 then pR B' l k (i + 1) ((pC B' l p).1.1 + 1) (bq_r cs i (pC B' l p).2) else (false, (pC B' l p).1.1, i + 1, cs))
    rw [pC_c e, e, pR_c k]
end
theorem hr_c {B B' : Nat → Int32} {l : Nat} (h : ∀ j, j < l → B j = B' j) : hr B l = hr B' l := by
  funext p
  unfold hr
  by_cases c : p < l
  · rw [if_pos c, if_pos c, h p c]
  · rw [if_neg c, if_neg c]
/-! the feeding of bytes -/
def fb (a b c d e : Int32) (k : Nat) : Int32 := if k = 0 then a else if k = 1 then b else if k = 2 then c else if k = 3 then d else e
/-- answer, length, bytes -/
def p_feed (l : Nat) (B : Nat → Int32) (n a b c d e : Int32) : Int32 × Nat × (Nat → Int32) := if (n < nI 1 ∨ ¬ n ≤ nI 5) ∨ (a < nI 0 ∨ ¬ a ≤ nI 127) ∨ (b < nI 0 ∨ ¬ b ≤ nI 127) ∨ (c < nI 0 ∨ ¬ c ≤ nI 127) ∨ (d < nI 0 ∨ ¬ d ≤ nI 127) ∨ (e < nI 0 ∨ ¬ e ≤ nI 127) then ((-2), l, B) else if 60 < l + n.toNatClampNeg then ((-4), l, B) else (nI (l + n.toNatClampNeg), l + n.toNatClampNeg, fun j => if l ≤ j ∧ j < l + n.toNatClampNeg then fb a b c d e (j - l) else B j)
theorem p_feed_bad {l : Nat} {B : Nat → Int32} {n a b c d e : Int32} (h : (n < nI 1 ∨ ¬ n ≤ nI 5) ∨ (a < nI 0 ∨ ¬ a ≤ nI 127) ∨ (b < nI 0 ∨ ¬ b ≤ nI 127) ∨ (c < nI 0 ∨ ¬ c ≤ nI 127) ∨ (d < nI 0 ∨ ¬ d ≤ nI 127) ∨ (e < nI 0 ∨ ¬ e ≤ nI 127)) : p_feed l B n a b c d e = ((-2), l, B) := if_pos h
theorem p_feed_full {l k : Nat} {B : Nat → Int32} {a b c d e : Int32} (hk : 1 ≤ k) (hk5 : k ≤ 5) (ha : ¬ (a < nI 0 ∨ ¬ a ≤ nI 127)) (hb : ¬ (b < nI 0 ∨ ¬ b ≤ nI 127)) (hc : ¬ (c < nI 0 ∨ ¬ c ≤ nI 127)) (hd : ¬ (d < nI 0 ∨ ¬ d ≤ nI 127)) (he : ¬ (e < nI 0 ∨ ¬ e ≤ nI 127)) (hl : 60 < l + k) : p_feed l B (nI k) a b c d e = ((-4), l, B) := by
  unfold p_feed
  rw [if_neg (fun z => z.elim (bq_nin hk hk5 (by decide)) (fun z => z.elim ha (fun z => z.elim hb (fun z => z.elim hc (fun z => z.elim hd he))))), nI_clamp (by omega), if_pos hl]
theorem p_feed_ok {l k : Nat} {B : Nat → Int32} {a b c d e : Int32} (hk : 1 ≤ k) (hk5 : k ≤ 5) (ha : ¬ (a < nI 0 ∨ ¬ a ≤ nI 127)) (hb : ¬ (b < nI 0 ∨ ¬ b ≤ nI 127)) (hc : ¬ (c < nI 0 ∨ ¬ c ≤ nI 127)) (hd : ¬ (d < nI 0 ∨ ¬ d ≤ nI 127)) (he : ¬ (e < nI 0 ∨ ¬ e ≤ nI 127)) (hl : ¬ 60 < l + k) : p_feed l B (nI k) a b c d e = (nI (l + k), l + k, fun j => if l ≤ j ∧ j < l + k then fb a b c d e (j - l) else B j) := by
  unfold p_feed
  rw [if_neg (fun z => z.elim (bq_nin hk hk5 (by decide)) (fun z => z.elim ha (fun z => z.elim hb (fun z => z.elim hc (fun z => z.elim hd he))))), nI_clamp (by omega), if_neg hl]
theorem i_vc : Claimed_1_1 ∧ Claimed_1_2 := sorry
