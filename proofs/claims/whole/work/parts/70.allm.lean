/-! the model's answers by the plan -/
theorem tofr_congr {O O' T T' : Nat → Nat} {o : Nat} : ∀ (k i : Nat), (∀ j, i ≤ j → j < i + k → O' j = O j ∧ T' j = T j) → tofr O' T' o i k = tofr O T o i k
  | 0, _, _ => rfl
  | k + 1, i, h => by
    have e := h i (Nat.le_refl _) (by omega)
    have ih := tofr_congr (o := o) k (i + 1) (fun j h1 h2 => h j (by omega) (by omega))
    show (if O' i = o then nI (T' i) else tofr O' T' o (i + 1) k) = (if O i = o then nI (T i) else tofr O T o (i + 1) k)
    rw [e.1, e.2, ih]
theorem tofr_new {O T : Nat → Nat} {o : Nat} : ∀ (k i : Nat), (∀ j, i ≤ j → j < i + k → O j ≠ o) → tofr O T o i (k + 1) = if O (i + k) = o then nI (T (i + k)) else (-5)
  | 0, i, _ => rfl
  | k + 1, i, h => by
    have ih := tofr_new (T := T) k (i + 1) (fun j h1 h2 => h j (by omega) (by omega))
    show (if O i = o then nI (T i) else tofr O T o (i + 1) (k + 1)) = _
    rw [if_neg (h i (Nat.le_refl _) (by omega)), ih, show i + 1 + k = i + (k + 1) by omega]
theorem tofr_old {O T : Nat → Nat} {o : Nat} : ∀ (k i : Nat), O (i + k) ≠ o → tofr O T o i (k + 1) = tofr O T o i k
  | 0, i, h => if_neg h
  | k + 1, i, h => by
    have ih := tofr_old (T := T) k (i + 1) (by rw [show i + 1 + k = i + (k + 1) by omega]; exact h)
    show (if O i = o then nI (T i) else tofr O T o (i + 1) (k + 1)) = (if O i = o then nI (T i) else tofr O T o (i + 1) k)
    rw [ih]
def qMw (m : Nat) (I : BqI) (S : BqH) (n : Nat) (L : BqL) (P : BqP) (v : Int32) : BqQ := fun r S' n' I' L' P' => r = some (.int v) ∧ S' = S ∧ n' = n ∧ L' = L ∧ P' = P ∧ (∀ a, a ≠ m → a < m + 6 ∨ m + 13 ≤ a → I' a = I a) ∧ ∀ k, k ≠ 17 → I' m k = I m k
theorem MSt.pl {m ch : Nat} {I0 I I' : BqI} {g : BqG} {h : Nat → BqG} {y : Int32} (T : MSt m I0 I g h ch y) (k1 : ∀ a, a ≠ m → a < m + 6 ∨ m + 13 ≤ a → I' a = I a) (k2 : ∀ k, k ≠ 17 → I' m k = I m k) : MSt m I0 I' g h ch y :=
  ⟨(k1 _ (by omega) (by omega)).trans T.1, ⟨(k2 2 (by decide)).trans T.2.1.1, T.2.1.2.1, fun i hi k hk => by rw [k1 (m + 2) (by omega) (by omega)]; exact T.2.1.2.2 i hi k hk⟩, (k2 7 (by decide)).trans T.2.2.1, fun a ha => (k1 a (by omega) (by omega)).trans (T.2.2.2.1 a ha), fun k h2 h7 h17 => (k2 k h17).trans (T.2.2.2.2 k h2 h7 h17)⟩
/-- the tanks of the planned orders, by order and by place -/
theorem ptn_k {g : BqG} {en : Nat} (hG : GI g en) : ∀ k, k ≤ (qg g).2 → (∀ j, j < (pln g (qg g).1 k).2.1 → (∃ i, i < k ∧ (pln g (qg g).1 k).2.2.1 j = (qg g).1 i) ∧ ptn g (qg g).1 k ((pln g (qg g).1 k).2.2.1 j) = nI ((pln g (qg g).1 k).2.2.2 j)) ∧ ∀ o, tofr (pln g (qg g).1 k).2.2.1 (pln g (qg g).1 k).2.2.2 o 0 (pln g (qg g).1 k).2.1 = ptn g (qg g).1 k o ∧ ((∀ j, j < (pln g (qg g).1 k).2.1 → (pln g (qg g).1 k).2.2.1 j ≠ o) → ptn g (qg g).1 k o = (-5))
  | 0, _ => ⟨fun j hj => absurd hj (Nat.not_lt_zero _), fun o => ⟨rfl, fun _ => rfl⟩⟩
  | k + 1, hk => by
    obtain ⟨h1, h2⟩ := ptn_k hG k (by omega)
    have hqk := qq_ok (kk g) (fun o => decide (g (208 + 9 * o) = 0)) (gn g 2)
    have hd : ∀ i, i < k → (qg g).1 i ≠ (qg g).1 k := fun i hi e => by
      have := hqk.1 i k hi (show k < (qg g).2 by omega)
      have e' : (qq (kk g) (fun o => decide (g (208 + 9 * o) = 0)) (gn g 2)).1 i = (qq (kk g) (fun o => decide (g (208 + 9 * o) = 0)) (gn g 2)).1 k := e
      rw [e'] at this
      omega
    cases hb : bt g ((qg g).1 k) (pln g (qg g).1 k).1 6 with
    | none =>
      rw [pst_n hb, ptn_n hb]
      exact ⟨fun j hj => by obtain ⟨⟨i, hi, e⟩, e2⟩ := h1 j hj; exact ⟨⟨i, by omega, e⟩, e2⟩, h2⟩
    | some t =>
      rw [pst_s hb, ptn_s hb]
      generalize hO : (pln g (qg g).1 k).2.2.1 = O at *
      generalize hT : (pln g (qg g).1 k).2.2.2 = T at *
      generalize hc : (pln g (qg g).1 k).2.1 = c at *
      show (∀ j, j < c + 1 → (∃ i, i < k + 1 ∧ bq_r O c ((qg g).1 k) j = (qg g).1 i) ∧ bq_r (ptn g (qg g).1 k) ((qg g).1 k) (nI t) (bq_r O c ((qg g).1 k) j) = nI (bq_r T c t j)) ∧ ∀ o, tofr (bq_r O c ((qg g).1 k)) (bq_r T c t) o 0 (c + 1) = bq_r (ptn g (qg g).1 k) ((qg g).1 k) (nI t) o ∧ ((∀ j, j < c + 1 → bq_r O c ((qg g).1 k) j ≠ o) → bq_r (ptn g (qg g).1 k) ((qg g).1 k) (nI t) o = (-5))
      refine ⟨fun j hj => ?_, fun o => ⟨?_, fun hn => ?_⟩⟩
      · by_cases e : j = c
        · subst e; rw [bq_r_self, bq_r_self, bq_r_self]; exact ⟨⟨k, by omega, rfl⟩, rfl⟩
        · obtain ⟨⟨i, hi, e1⟩, e2⟩ := h1 j (by omega)
          rw [bq_r_ne e, bq_r_ne e, e1, bq_r_ne (hd i hi), ← e1]
          exact ⟨⟨i, by omega, e1⟩, e2⟩
      · have hcg : tofr (bq_r O c ((qg g).1 k)) (bq_r T c t) o 0 c = tofr O T o 0 c := tofr_congr c 0 (fun j _ hj => ⟨bq_r_ne (by omega), bq_r_ne (by omega)⟩)
        by_cases e : o = (qg g).1 k
        · subst e
          rw [bq_r_self, tofr_new c 0 (fun j _ hj => by
            rw [bq_r_ne (by omega)]
            obtain ⟨⟨i, hi, e1⟩, -⟩ := h1 j (by omega)
            rw [e1]; exact hd i hi)]
          rw [Nat.zero_add, bq_r_self, bq_r_self, if_pos rfl]
        · rw [bq_r_ne e, tofr_old c 0 (by rw [Nat.zero_add, bq_r_self]; exact fun z => e z.symm), hcg]
          exact (h2 o).1
      · have e : o ≠ (qg g).1 k := fun z => hn c (by omega) (by rw [bq_r_self]; exact z.symm)
        rw [bq_r_ne e]
        exact (h2 o).2 (fun j hj => by have := hn j (by omega); rw [bq_r_ne (by omega)] at this; exact this)
theorem ptn_T {g : BqG} {en : Nat} (hG : GI g en) (j : Nat) (hj : j < (plan g).2.1) : ptn g (qg g).1 (qg g).2 ((plan g).2.2.1 j) = nI ((plan g).2.2.2 j) := ((ptn_k hG (qg g).2 (Nat.le_refl _)).1 j hj).2
theorem tof_ptn {g : BqG} {en o : Nat} (hG : GI g en) : tofr (plan g).2.2.1 (plan g).2.2.2 o 0 (plan g).2.1 = ptn g (qg g).1 (qg g).2 o := ((ptn_k hG (qg g).2 (Nat.le_refl _)).2 o).1
theorem n_ofOrder_out {g : BqG} {o : Nat} {k : Int32} (h : k < nI 0 ∨ ¬ k ≤ nI 6) : n_ofOrder g o k = (-1) := by
  unfold n_ofOrder
  rw [if_neg (k_out h (by decide) (by decide)), if_neg (k_out h (by decide) (by decide)), if_neg (k_out h (by decide) (by decide)), if_neg (k_out h (by decide) (by decide)), if_neg (k_out h (by decide) (by decide)), if_neg (k_out h (by decide) (by decide)), if_neg (k_out h (by decide) (by decide))]
theorem n_ofOrder_5 {g : BqG} {o : Nat} : n_ofOrder g o (nI 5) = tofr (plan g).2.2.1 (plan g).2.2.2 o 0 (plan g).2.1 := by
  unfold n_ofOrder
  rw [if_neg (by decide), if_neg (by decide), if_neg (by decide), if_neg (by decide), if_neg (by decide), if_pos rfl]
theorem n_ofOrder_6 {g : BqG} {o : Nat} : n_ofOrder g o (nI 6) = (if g (208 + 9 * o) = nI 1 then g (209 + 9 * o) else (-5)) := by
  unfold n_ofOrder
  rw [if_neg (by decide), if_neg (by decide), if_neg (by decide), if_neg (by decide), if_neg (by decide), if_neg (by decide), if_pos rfl]
theorem n_ofOrder_at {g : BqG} {o q : Nat} (h : q ≤ 4) : n_ofOrder g o (nI q) = g (204 + 9 * o + q) := by
  match q, h with
  | 0, _ => exact if_pos rfl
  | 1, _ => unfold n_ofOrder; rw [if_neg (by decide), if_pos rfl]; congr 1; omega
  | 2, _ => unfold n_ofOrder; rw [if_neg (by decide), if_neg (by decide), if_pos rfl]; congr 1; omega
  | 3, _ => unfold n_ofOrder; rw [if_neg (by decide), if_neg (by decide), if_neg (by decide), if_pos rfl]; congr 1; omega
  | 4, _ => unfold n_ofOrder; rw [if_neg (by decide), if_neg (by decide), if_neg (by decide), if_neg (by decide), if_pos rfl]; congr 1; omega
theorem k_4 {k : Int32} (h : ¬ (k < nI 0 ∨ ¬ k ≤ nI 6)) (h5 : ¬ k = nI 5) (h6 : ¬ k = nI 6) : ∃ q, k = nI q ∧ q ≤ 4 := by
  obtain ⟨q, hq, rfl⟩ := (bq_in5 k 6 (by decide)).resolve_left h
  have e5 : q ≠ 5 := fun z => h5 (by rw [z])
  have e6 : q ≠ 6 := fun z => h6 (by rw [z])
  exact ⟨q, rfl, by omega⟩
set_option maxHeartbeats 1000000 in
set_option maxRecDepth 20000 in
theorem o_planned {S : BqH} {n : Nat} {I : BqI} {L : BqL} {P : BqP} {m : Nat} {g : BqG} (hm : oModel S n P m) (hg : I (m + 1) = g) {en : Nat} (hG : GI g en) {i : Int32} : bq_Sp mX12_planned 7 145 0 0 [.ref m, .int i] S n I L P (qMw m I S n L P (r_planned g i)) := by
  refine q_entry (vs := [some (.ref m), some (.int i)]) (by decide +kernel) (by simp) (Nat.le_of_ble_eq_true rfl) rfl ?_
  refine q_iload_n (pc := 0) dX12_planned_0 rfl rfl ?_
  refine q_if_ge (pc := 1) 6 dX12_planned_1 (by decide) (fun c_1 => ?_) (fun c_1 => ?_)
  · refine q_aload_n (pc := 6) dX12_planned_6 rfl rfl ?_
    refine q_callV (pc := 7) dX12_planned_7 kX12_169 (c_plans hm hg hG) (Model_sh hm) rfl (Model_lt hm) ⟨Nat.le_of_ble_eq_true rfl, Nat.le_of_ble_eq_true rfl⟩ rfl rfl (Nat.le_of_ble_eq_true rfl) ?_
    rintro _ S1 n1 I1 L1 P1 ⟨rfl, eS1, en1, eL1, eP1, k1, k2, k3, k4, k5⟩
    subst S1 n1 L1 P1
    show bq_W _ _ _ _ _ 10 _ [] _ _ _ _ _ _
    have hc10 : (plan g).2.1 ≤ 10 := plan_le hG
    refine q_iload_n (pc := 10) dX12_planned_10 rfl rfl ?_
    refine q_aload_n (pc := 11) dX12_planned_11 rfl rfl ?_
    refine q_getI (pc := 12) dX12_planned_12 fX12_160 (Model_sh hm) ⟨by decide, rfl⟩ (Model_lt hm) ?_
    rw [k3]
    refine q_icmp_ge (pc := 15) 27 dX12_planned_15 (by decide) (fun c_15 => ?_) (fun c_15 => ?_)
    · refine q_bipush (pc := 27) (v := (-5)) dX12_planned_27 (by decide) ?_
      exact q_iret (st := []) (pc := 29) dX12_planned_29 rfl ⟨by first | (rw [k4 q hq, r_planned_in hc10 hq]) | (rw [r_planned_out (Int32.not_lt.mpr c_1) c_15]), rfl, rfl, rfl, rfl, k1, k2⟩
    · obtain ⟨q, hq, rfl⟩ := pl_in hc10 (Int32.not_lt.mpr c_1) c_15
      refine q_aload_n (pc := 18) dX12_planned_18 rfl rfl ?_
      refine q_getP (pc := 19) dX12_planned_19 fX12_34 (Model_sh hm) ⟨by decide, rfl⟩ (Model_lt hm) (Model_p_plannedRow hm) ?_
      refine q_iload_n (pc := 22) dX12_planned_22 rfl rfl ?_
      refine q_iald (pc := 23) dX12_planned_23 (oA_sh (Model_s_plannedRow hm)) (oA_lt (Model_s_plannedRow hm)) rfl (by omega) ?_
      refine q_goto (pc := 24) 29 dX12_planned_24 (by decide) ?_
      exact q_iret (st := []) (pc := 29) dX12_planned_29 rfl ⟨by first | (rw [k4 q hq, r_planned_in hc10 hq]) | (rw [r_planned_out (Int32.not_lt.mpr c_1) c_15]), rfl, rfl, rfl, rfl, k1, k2⟩
  · refine q_iconst (pc := 4) (v := (-1)) dX12_planned_4 (by decide) ?_
    exact q_iret (st := []) (pc := 5) dX12_planned_5 rfl ⟨by unfold r_planned; rw [if_pos (Int32.not_le.mp c_1)], rfl, rfl, rfl, rfl, fun _ _ _ => rfl, fun _ _ => rfl⟩
set_option maxHeartbeats 1000000 in
set_option maxRecDepth 20000 in
theorem o_ofOrder_a {S : BqH} {n : Nat} {I : BqI} {L : BqL} {P : BqP} {m : Nat} {g : BqG} (hm : oModel S n P m) (hg : I (m + 1) = g) {en : Nat} (hG : GI g en) {o k : Int32} (ho : o < 0 ∨ g 2 ≤ o ∨ nI 10 ≤ o) : bq_Sp mX12_ofOrder 7 145 0 0 [.ref m, .int o, .int k] S n I L P (qMw m I S n L P (r_ofOrder g o k)) := by
  refine q_entry (vs := [some (.ref m), some (.int o), some (.int k)]) (by decide +kernel) (by simp) (Nat.le_of_ble_eq_true rfl) rfl ?_
  have hc : g 2 = nI (gn g 2) := hG.n (by decide) (by decide)
  have hcl : gn g 2 ≤ 10 := hG.2.2.2.1
  refine q_iload_n (pc := 0) dX12_ofOrder_0 rfl rfl ?_
  refine q_iconst (pc := 1) (v := nI 0) dX12_ofOrder_1 (by decide) ?_
  refine q_aload_n (pc := 2) dX12_ofOrder_2 rfl rfl ?_
  refine q_getP (pc := 3) dX12_ofOrder_3 fX12_9 (Model_sh hm) ⟨by decide, rfl⟩ (Model_lt hm) (Model_p_g hm) ?_
  refine q_iconst (pc := 6) (v := nI 2) dX12_ofOrder_6 (by decide) ?_
  refine q_iald (pc := 7) dX12_ofOrder_7 (oA_sh (Model_s_g hm)) (oA_lt (Model_s_g hm)) rfl (by omega) ?_
  rw [hg, hc]
  refine q_iconst (pc := 8) (v := nI 1) dX12_ofOrder_8 (by decide) ?_
  refine q_isub (pc := 9) dX12_ofOrder_9 ?_
  refine q_callSF (pc := 10) dX12_ofOrder_10 kX12_69 c_X12_in ⟨Nat.le_of_ble_eq_true rfl, Nat.le_of_ble_eq_true rfl⟩ rfl rfl (Nat.le_of_ble_eq_true rfl) ?_
  show bq_W _ _ _ _ _ 13 _ [_] _ _ _ _ _ _
  refine q_if_eq (pc := 13) 26 dX12_ofOrder_13 (by decide) (fun c_13 => ?_) (fun c_13 => (c_13 (bq_nb0.mpr (io_out hcl (by rw [hc] at ho; exact ho)))).elim)
  refine q_iconst (pc := 26) (v := (-1)) dX12_ofOrder_26 (by decide) ?_
  exact q_iret (st := []) (pc := 27) dX12_ofOrder_27 rfl ⟨by rw [r_ofOrder_out ho], rfl, rfl, rfl, rfl, fun _ _ _ => rfl, fun _ _ => rfl⟩
set_option maxHeartbeats 1420000 in
set_option maxRecDepth 20000 in
theorem o_ofOrder_b {S : BqH} {n : Nat} {I : BqI} {L : BqL} {P : BqP} {m : Nat} {g : BqG} (hm : oModel S n P m) (hg : I (m + 1) = g) {en : Nat} (hG : GI g en) {o : Nat} {k : Int32} (ho : o < gn g 2) : bq_Sp mX12_ofOrder 7 145 0 0 [.ref m, .int (nI o), .int k] S n I L P (qMw m I S n L P (n_ofOrder g o k)) := by
  refine q_entry (vs := [some (.ref m), some (.int (nI o)), some (.int k)]) (by decide +kernel) (by simp) (Nat.le_of_ble_eq_true rfl) rfl ?_
  have hc : g 2 = nI (gn g 2) := hG.n (by decide) (by decide)
  have hcl : gn g 2 ≤ 10 := hG.2.2.2.1
  have ho10 : o < 10 := by omega
  refine q_iload_n (pc := 0) dX12_ofOrder_0 rfl rfl ?_
  refine q_iconst (pc := 1) (v := nI 0) dX12_ofOrder_1 (by decide) ?_
  refine q_aload_n (pc := 2) dX12_ofOrder_2 rfl rfl ?_
  refine q_getP (pc := 3) dX12_ofOrder_3 fX12_9 (Model_sh hm) ⟨by decide, rfl⟩ (Model_lt hm) (Model_p_g hm) ?_
  refine q_iconst (pc := 6) (v := nI 2) dX12_ofOrder_6 (by decide) ?_
  refine q_iald (pc := 7) dX12_ofOrder_7 (oA_sh (Model_s_g hm)) (oA_lt (Model_s_g hm)) rfl (by omega) ?_
  rw [hg, hc]
  refine q_iconst (pc := 8) (v := nI 1) dX12_ofOrder_8 (by decide) ?_
  refine q_isub (pc := 9) dX12_ofOrder_9 ?_
  rw [pk_sub (show 1 ≤ gn g 2 by omega)]
  refine q_callSF (pc := 10) dX12_ofOrder_10 kX12_69 c_X12_in ⟨Nat.le_of_ble_eq_true rfl, Nat.le_of_ble_eq_true rfl⟩ rfl rfl (Nat.le_of_ble_eq_true rfl) ?_
  show bq_W _ _ _ _ _ 13 _ [_] _ _ _ _ _ _
  refine q_if_eq (pc := 13) 26 dX12_ofOrder_13 (by decide) (fun c_13 => (bq_nin (Nat.zero_le o) (show o ≤ gn g 2 - 1 by omega) (by omega) (bq_nb0.mp c_13)).elim) (fun c_13 => ?_)
  refine q_iload_n (pc := 16) dX12_ofOrder_16 rfl rfl ?_
  refine q_iconst (pc := 17) (v := nI 0) dX12_ofOrder_17 (by decide) ?_
  refine q_bipush (pc := 18) (v := nI 6) dX12_ofOrder_18 (by decide) ?_
  refine q_callSF (pc := 20) dX12_ofOrder_20 kX12_69 c_X12_in ⟨Nat.le_of_ble_eq_true rfl, Nat.le_of_ble_eq_true rfl⟩ rfl rfl (Nat.le_of_ble_eq_true rfl) ?_
  show bq_W _ _ _ _ _ 23 _ [_] _ _ _ _ _ _
  refine q_if_ne (pc := 23) 28 dX12_ofOrder_23 (by decide) (fun c_23 => ?_) (fun c_23 => ?_)
  · replace c_23 := bq_nbn.mp c_23
    refine q_iload_n (pc := 28) dX12_ofOrder_28 rfl rfl ?_
    refine q_iconst (pc := 29) (v := nI 5) dX12_ofOrder_29 (by decide) ?_
    refine q_icmp_ne (pc := 30) 44 dX12_ofOrder_30 (by decide) (fun c_30 => ?_) (fun c_30 => ?_)
    · refine q_iload_n (pc := 44) dX12_ofOrder_44 rfl rfl ?_
      refine q_bipush (pc := 45) (v := nI 6) dX12_ofOrder_45 (by decide) ?_
      refine q_icmp_ne (pc := 47) 74 dX12_ofOrder_47 (by decide) (fun c_47 => ?_) (fun c_47 => ?_)
      · obtain ⟨q, rfl, hq4⟩ := k_4 c_23 c_30 c_47
        refine q_aload_n (pc := 74) dX12_ofOrder_74 rfl rfl ?_
        refine q_iload_n (pc := 75) dX12_ofOrder_75 rfl rfl ?_
        refine q_iload_n (pc := 76) dX12_ofOrder_76 rfl rfl ?_
        refine q_callVF (pc := 77) dX12_ofOrder_77 kX12_118 (c_X12_orderAt hm (o := o) (k := q) (by omega)) (Model_sh hm) rfl (Model_lt hm) ⟨Nat.le_of_ble_eq_true rfl, Nat.le_of_ble_eq_true rfl⟩ rfl rfl (Nat.le_of_ble_eq_true rfl) ?_
        show bq_W _ _ _ _ _ 80 _ [_] _ _ _ _ _ _
        exact q_iret (st := []) (pc := 80) dX12_ofOrder_80 rfl ⟨by first | (rw [n_ofOrder_6, if_neg c_57]) | (rw [n_ofOrder_6, if_pos c_57, hg]) | (rw [n_ofOrder_at hq4, hg]), rfl, rfl, rfl, rfl, fun _ _ _ => rfl, fun _ _ => rfl⟩
      · subst c_47
        refine q_aload_n (pc := 50) dX12_ofOrder_50 rfl rfl ?_
        refine q_iload_n (pc := 51) dX12_ofOrder_51 rfl rfl ?_
        refine q_iconst (pc := 52) (v := nI 4) dX12_ofOrder_52 (by decide) ?_
        refine q_callVF (pc := 53) dX12_ofOrder_53 kX12_118 (c_oA hm (o := o) (k := 4) (j := 208 + 9 * o) (by omega) (by omega)) (Model_sh hm) rfl (Model_lt hm) ⟨Nat.le_of_ble_eq_true rfl, Nat.le_of_ble_eq_true rfl⟩ rfl rfl (Nat.le_of_ble_eq_true rfl) ?_
        show bq_W _ _ _ _ _ 56 _ [_] _ _ _ _ _ _
        rw [hg]
        refine q_iconst (pc := 56) (v := nI 1) dX12_ofOrder_56 (by decide) ?_
        refine q_icmp_ne (pc := 57) 69 dX12_ofOrder_57 (by decide) (fun c_57 => ?_) (fun c_57 => ?_)
        · refine q_bipush (pc := 69) (v := (-5)) dX12_ofOrder_69 (by decide) ?_
          refine q_goto (pc := 71) 80 dX12_ofOrder_71 (by decide) ?_
          exact q_iret (st := []) (pc := 80) dX12_ofOrder_80 rfl ⟨by first | (rw [n_ofOrder_6, if_neg c_57]) | (rw [n_ofOrder_6, if_pos c_57, hg]) | (rw [n_ofOrder_at hq4, hg]), rfl, rfl, rfl, rfl, fun _ _ _ => rfl, fun _ _ => rfl⟩
        · refine q_aload_n (pc := 60) dX12_ofOrder_60 rfl rfl ?_
          refine q_iload_n (pc := 61) dX12_ofOrder_61 rfl rfl ?_
          refine q_iconst (pc := 62) (v := nI 5) dX12_ofOrder_62 (by decide) ?_
          refine q_callVF (pc := 63) dX12_ofOrder_63 kX12_118 (c_oA hm (o := o) (k := 5) (j := 209 + 9 * o) (by omega) (by omega)) (Model_sh hm) rfl (Model_lt hm) ⟨Nat.le_of_ble_eq_true rfl, Nat.le_of_ble_eq_true rfl⟩ rfl rfl (Nat.le_of_ble_eq_true rfl) ?_
          show bq_W _ _ _ _ _ 66 _ [_] _ _ _ _ _ _
          refine q_goto (pc := 66) 80 dX12_ofOrder_66 (by decide) ?_
          exact q_iret (st := []) (pc := 80) dX12_ofOrder_80 rfl ⟨by first | (rw [n_ofOrder_6, if_neg c_57]) | (rw [n_ofOrder_6, if_pos c_57, hg]) | (rw [n_ofOrder_at hq4, hg]), rfl, rfl, rfl, rfl, fun _ _ _ => rfl, fun _ _ => rfl⟩
    · subst c_30
      refine q_aload_n (pc := 33) dX12_ofOrder_33 rfl rfl ?_
      refine q_callV (pc := 34) dX12_ofOrder_34 kX12_169 (c_plans hm hg hG) (Model_sh hm) rfl (Model_lt hm) ⟨Nat.le_of_ble_eq_true rfl, Nat.le_of_ble_eq_true rfl⟩ rfl rfl (Nat.le_of_ble_eq_true rfl) ?_
      rintro _ S1 n1 I1 L1 P1 ⟨rfl, eS1, en1, eL1, eP1, k1, k2, k3, k4, k5⟩
      subst S1 n1 L1 P1
      show bq_W _ _ _ _ _ 37 _ [] _ _ _ _ _ _
      refine q_aload_n (pc := 37) dX12_ofOrder_37 rfl rfl ?_
      refine q_getP (pc := 38) dX12_ofOrder_38 fX12_37 (Model_sh hm) ⟨by decide, rfl⟩ (Model_lt hm) (Model_p_planTank hm) ?_
      refine q_iload_n (pc := 41) dX12_ofOrder_41 rfl rfl ?_
      refine q_iald (pc := 42) dX12_ofOrder_42 (oA_sh (Model_s_planTank hm)) (oA_lt (Model_s_planTank hm)) rfl ho10 ?_
      rw [k5 o ho10]
      exact q_iret (st := []) (pc := 43) dX12_ofOrder_43 rfl ⟨by rw [n_ofOrder_5, tof_ptn hG], rfl, rfl, rfl, rfl, k1, k2⟩
  · replace c_23 := bq_nb0.mp c_23
    refine q_iconst (pc := 26) (v := (-1)) dX12_ofOrder_26 (by decide) ?_
    exact q_iret (st := []) (pc := 27) dX12_ofOrder_27 rfl ⟨by rw [n_ofOrder_out c_23], rfl, rfl, rfl, rfl, fun _ _ _ => rfl, fun _ _ => rfl⟩
set_option maxHeartbeats 1360000 in
set_option maxRecDepth 20000 in
theorem o_fillAll {S : BqH} {n : Nat} {I : BqI} {L : BqL} {P : BqP} {m ch : Nat} {h : Nat → BqG} {g : BqG} (hm : oModel S n P m) (hH : MH m I h ch) (hg : I (m + 1) = g) {en : Nat} (hK : GK g en) (hen : en + 10 < 200000) (hq : I m 6 = nI 0) : bq_Sp mX12_fillAll 7 145 0 0 [.ref m] S n I L P (qMo m I S n L P (p_fillAll g h ch (I m 7))) := by
  refine q_entry (vs := [some (.ref m), none]) (by decide +kernel) (by simp) (Nat.le_of_ble_eq_true rfl) rfl ?_
  have T0 := MSt.mk hH hg
  have hq1 : 0 ≤ 1 := by decide
  have hG := hK.gi
  have hV := (fills_ok hK hen (qq_ok (kk g) (fun o => decide (g (208 + 9 * o) = 0)) (gn g 2)) (qg g).2 (Nat.le_refl _)).2.2.2.2.2
  have hKs := gfl_gk hK hen
  have hc10 : (plan g).2.1 ≤ 10 := plan_le hG
  refine q_aload_n (pc := 0) dX12_fillAll_0 rfl rfl ?_
  refine q_callV (pc := 1) dX12_fillAll_1 kX12_169 (c_plans hm hg hG) (Model_sh hm) rfl (Model_lt hm) ⟨Nat.le_of_ble_eq_true rfl, Nat.le_of_ble_eq_true rfl⟩ rfl rfl (Nat.le_of_ble_eq_true rfl) ?_
  rintro _ S1 n1 I1 L1 P1 ⟨rfl, eS1, en1, eL1, eP1, k1, k2, k3, k4, k5⟩
  subst S1 n1 L1 P1
  show bq_W _ _ _ _ _ 4 _ [] _ _ _ _ _ _
  have TP := T0.pl k1 k2
  have hq1' : I1 m 6 = nI 0 := (k2 6 (by decide)).trans hq
  refine q_aload_n (pc := 4) dX12_fillAll_4 rfl rfl ?_
  refine q_callV (pc := 5) dX12_fillAll_5 kX12_102 (c_rem hm TP.2.1 TP.1 hq1' (by decide)) (Model_sh hm) rfl (Model_lt hm) ⟨Nat.le_of_ble_eq_true rfl, Nat.le_of_ble_eq_true rfl⟩ rfl rfl (Nat.le_of_ble_eq_true rfl) ?_
  rintro _ S3 n3 I3 L3 P3 ⟨rfl, eS3, en3, eL3, eP3, H3, f3, g3⟩
  subst S3 n3 L3 P3
  show bq_W _ _ _ _ _ 8 _ [] _ _ _ _ _ _
  have T3 := TP.rem H3 f3 g3
  refine q_iconst (pc := 8) (v := nI 0) dX12_fillAll_8 (by decide) ?_
  refine q_istore_n (pc := 9) dX12_fillAll_9 rfl (Nat.le_of_ble_eq_true rfl) rfl ?_
  show bq_W _ _ _ _ _ 10 [_, _] _ _ _ _ _ _ _
  have lp : ∀ i, i ≤ (plan g).2.1 → ∀ J : BqI, MSt m I J (gfl g (plan g).2.2.1 (plan g).2.2.2 i) (remH 0 g h ch).1 (remH 0 g h ch).2 (I m 7) → J m 17 = nI (plan g).2.1 → (∀ j, j < (plan g).2.1 → J (m + 9) j = nI ((plan g).2.2.1 j)) → (∀ j, j < (plan g).2.1 → J (m + 10) ((plan g).2.2.1 j) = nI ((plan g).2.2.2 j)) → bq_W mX12_fillAll 7 145 0 0 10 [some (.ref m), some (.int (nI i))] [] S n J L P (qMo m I S n L P (p_fillAll g h ch (I m 7))) := by
    refine bq_down (A := fun i => ∀ J : BqI, MSt m I J (gfl g (plan g).2.2.1 (plan g).2.2.2 i) (remH 0 g h ch).1 (remH 0 g h ch).2 (I m 7) → J m 17 = nI (plan g).2.1 → (∀ j, j < (plan g).2.1 → J (m + 9) j = nI ((plan g).2.2.1 j)) → (∀ j, j < (plan g).2.1 → J (m + 10) ((plan g).2.2.1 j) = nI ((plan g).2.2.2 j)) → bq_W mX12_fillAll 7 145 0 0 10 [some (.ref m), some (.int (nI i))] [] S n J L P (qMo m I S n L P (p_fillAll g h ch (I m 7)))) (plan g).2.1 ?_ ?_
    · intro J jT j0 jO jT2
      refine q_iload_n (pc := 10) dX12_fillAll_10 rfl rfl ?_
      refine q_aload_n (pc := 11) dX12_fillAll_11 rfl rfl ?_
      refine q_getI (pc := 12) dX12_fillAll_12 fX12_160 (Model_sh hm) ⟨by decide, rfl⟩ (Model_lt hm) ?_
      rw [j0]
      refine q_icmp_ge (pc := 15) 45 dX12_fillAll_15 (by decide) (fun c_15 => ?_) (fun c_15 => absurd (nI_le (Nat.le_refl _) (by omega)) c_15)
      refine q_aload_n (pc := 45) dX12_fillAll_45 rfl rfl ?_
      refine q_getI (pc := 46) dX12_fillAll_46 fX12_160 (Model_sh hm) ⟨by decide, rfl⟩ (Model_lt hm) ?_
      rw [j0]
      exact q_iret (st := []) (pc := 49) dX12_fillAll_49 rfl (qMo.mk jT (by unfold p_fillAll; rw [chg_rem]))
    · intro i hi ih J jT j0 jO jT2
      have hGi : GI (gfl g (plan g).2.2.1 (plan g).2.2.2 i) (en + i) := (hKs i (by omega)).gi
      obtain ⟨v1, v2, v3, v4, v5, v6⟩ := hV i hi
      refine q_iload_n (pc := 10) dX12_fillAll_10 rfl rfl ?_
      refine q_aload_n (pc := 11) dX12_fillAll_11 rfl rfl ?_
      refine q_getI (pc := 12) dX12_fillAll_12 fX12_160 (Model_sh hm) ⟨by decide, rfl⟩ (Model_lt hm) ?_
      rw [j0]
      refine q_icmp_ge (pc := 15) 45 dX12_fillAll_15 (by decide) (fun c_15 => absurd c_15 (nI_ge hi (by omega))) (fun c_15 => ?_)
      refine q_aload_n (pc := 18) dX12_fillAll_18 rfl rfl ?_
      refine q_aload_n (pc := 19) dX12_fillAll_19 rfl rfl ?_
      refine q_getP (pc := 20) dX12_fillAll_20 fX12_37 (Model_sh hm) ⟨by decide, rfl⟩ (Model_lt hm) (Model_p_planTank hm) ?_
      refine q_aload_n (pc := 23) dX12_fillAll_23 rfl rfl ?_
      refine q_getP (pc := 24) dX12_fillAll_24 fX12_34 (Model_sh hm) ⟨by decide, rfl⟩ (Model_lt hm) (Model_p_plannedRow hm) ?_
      refine q_iload_n (pc := 27) dX12_fillAll_27 rfl rfl ?_
      refine q_iald (pc := 28) dX12_fillAll_28 (oA_sh (Model_s_plannedRow hm)) (oA_lt (Model_s_plannedRow hm)) rfl (by omega) ?_
      rw [jO i hi]
      refine q_iald (pc := 29) dX12_fillAll_29 (oA_sh (Model_s_planTank hm)) (oA_lt (Model_s_planTank hm)) rfl (plan_O hG i hi) ?_
      rw [jT2 i hi]
      refine q_aload_n (pc := 30) dX12_fillAll_30 rfl rfl ?_
      refine q_getP (pc := 31) dX12_fillAll_31 fX12_34 (Model_sh hm) ⟨by decide, rfl⟩ (Model_lt hm) (Model_p_plannedRow hm) ?_
      refine q_iload_n (pc := 34) dX12_fillAll_34 rfl rfl ?_
      refine q_iald (pc := 35) dX12_fillAll_35 (oA_sh (Model_s_plannedRow hm)) (oA_lt (Model_s_plannedRow hm)) rfl (by omega) ?_
      rw [jO i hi]
      refine q_callV (pc := 36) dX12_fillAll_36 kX12_149 (c_X12_fills hm jT.1 hGi (by omega) v1 (show (plan g).2.2.1 i < gn (gfl g (plan g).2.2.1 (plan g).2.2.2 i) 2 from by rw [show gn (gfl g (plan g).2.2.1 (plan g).2.2.2 i) 2 = gn g 2 from v5]; exact v2) v4 v3) (Model_sh hm) rfl (Model_lt hm) ⟨Nat.le_of_ble_eq_true rfl, Nat.le_of_ble_eq_true rfl⟩ rfl rfl (Nat.le_of_ble_eq_true rfl) ?_
      rintro _ S5 n5 I5 L5 P5 ⟨rfl, eS5, en5, eL5, eP5, r5, f5⟩
      subst S5 n5 L5 P5
      show bq_W _ _ _ _ _ 39 _ [] _ _ _ _ _ _
      refine q_iinc (pc := 39) (v := nI (i + 1)) dX12_fillAll_39 rfl (bq_inc _) (Nat.le_of_ble_eq_true rfl) rfl ?_
      show bq_W _ _ _ _ _ 42 [_, _] _ _ _ _ _ _ _
      refine q_goto (pc := 42) 10 dX12_fillAll_42 (by decide) ?_
      have jT5 : MSt m I I5 (gfl g (plan g).2.2.1 (plan g).2.2.2 (i + 1)) (remH 0 g h ch).1 (remH 0 g h ch).2 (I m 7) := jT.fr r5 (fun a ha h2 => f5 a ha (by omega))
      exact ih I5 jT5 (by rw [f5 m (by omega) (by omega)]; exact j0) (fun j hj => by rw [f5 _ (by omega) (by omega)]; exact jO j hj) (fun j hj => by rw [f5 _ (by omega) (by omega)]; exact jT2 j hj)
  exact lp 0 (Nat.zero_le _) I3 T3 (by rw [g3 17 (by decide)]; exact k3) (fun j hj => by rw [f3 _ (by omega) (by omega)]; exact k4 j hj) (fun j hj => by rw [f3 _ (by omega) (by omega), k5 _ (plan_O hG j hj)]; exact ptn_T hG j hj)
