/-! deliver leaves the plan alone -/
def Frp (x : Nat) (I I' : BqI) : Prop := ∀ a, a < x + 1 ∨ (x + 54 ≤ a ∧ a < x + 157) ∨ x + 165 ≤ a → I' a = I a
theorem Frp.rf {x : Nat} {I : BqI} : Frp x I I := fun _ _ => rfl
theorem Frp.trans {x : Nat} {I I' I'' : BqI} (h : Frp x I I') (h' : Frp x I' I'') : Frp x I I'' := fun a ha => (h' a ha).trans (h a ha)
theorem Frp.u {x : Nat} {I I' : BqI} (h : Frp x I I') {o k : Nat} {v : Int32} (ho : (x + 1 ≤ o ∧ o < x + 54) ∨ (x + 157 ≤ o ∧ o < x + 165)) : Frp x I (bq_u I' o k v) := fun a ha => (bq_u_ne (by omega)).trans (h a ha)
theorem Frp.one {x o : Nat} {I I' I'' : BqI} (h : Frp x I I') (h' : One o I' I'') (ho : (x + 1 ≤ o ∧ o < x + 54) ∨ (x + 157 ≤ o ∧ o < x + 165)) : Frp x I I'' := fun a ha => (h' a (by omega)).trans (h a ha)
def qCoreP (x : Nat) (I : BqI) (L : BqL) (S : BqH) (n : Nat) (P : BqP) (w : Int32 × BqG) : BqQ := fun r S' n' I' L' P' => r = some (.int w.1) ∧ S' = S ∧ n' = n ∧ P' = P ∧ CS I' L' (x + 1) w.2 ∧ Frp x I I' ∧ FrmL x L L'
theorem qCoreP.same {x : Nat} {I : BqI} {L : BqL} {S : BqH} {n : Nat} {P : BqP} {w : Int32 × BqG} {g : BqG} {v : Int32} (hC : CS I L (x + 1) g) (e : w = (v, g)) : qCoreP x I L S n P w (some (.int v)) S n I L P := by
  subst e; exact ⟨rfl, rfl, rfl, rfl, hC, Frp.rf, FrmL.rf⟩
def ScrP (x a : Nat) : Prop := (x + 1 ≤ a ∧ a < x + 54) ∨ (x + 157 ≤ a ∧ a < x + 165)
theorem Frp.out {x : Nat} {I I' : BqI} (h : Frp x I I') {t o : Nat} (h1 : t + 2 ≠ o + 1) (ht : ScrP x t ∧ ScrP x (t + 2)) : Frp x I (tk_out I' t o) := fun a ha => by
  unfold ScrP at ht
  rw [tk_out_ne h1 (by omega) (by omega)]; exact h a ha
theorem Frp.jw {x : Nat} {I I' : BqI} (h : Frp x I I') {j m : Nat} {d k t l : Int32} (ht : ScrP x j ∧ ScrP x (j + 1)) : Frp x I (jw_I I' j m d k t l) := fun a ha => by
  unfold ScrP at ht
  rw [jw_ne (by omega) (by omega)]; exact h a ha
theorem Frp.take {x : Nat} {I I' I'' : BqI} (h : Frp x I I') {p : Nat} (h1 : ∀ a, a ≠ p + 1 + 1 → a ≠ p + 3 → I'' a = I' a) (ht : ScrP x (p + 1 + 1) ∧ ScrP x (p + 3)) : Frp x I I'' := fun a ha => by
  unfold ScrP at ht
  rw [h1 a (by omega) (by omega)]; exact h a ha
theorem Frp.rem {x : Nat} {I I' : BqI} (h : Frp x I I') {d s : Nat} (h1 : d ≠ s) (ht : ScrP x d) : Frp x I (bl_rem I' d s 16) := fun a ha => by
  unfold ScrP at ht
  rw [(bl_rem_at (I := I') h1 16).1 a (by omega)]; exact h a ha
theorem Frp.add {x : Nat} {I I' : BqI} (h : Frp x I I') {d s : Nat} (h1 : d ≠ s) (ht : ScrP x d) : Frp x I (bl_add I' d s 16) := fun a ha => by
  unfold ScrP at ht
  rw [(bl_add_at (I := I') h1 16).1 a (by omega)]; exact h a ha
theorem Frp.wo {x : Nat} {I I' : BqI} (h : Frp x I I') {o m r : Nat} {y z : Int32} (h1 : x + 1 + 8 + 1 ≠ o + 1) : Frp x I (wo_I I' (x + 1) o m y z r) := fun a ha => by
  rw [wo_ne h1 (by omega) (by omega) (by omega) (by omega)]; exact h a ha
theorem Frp.in {x : Nat} {I I' : BqI} (h : Frp x I I') {t o : Nat} (h1 : t + 2 ≠ o + 1) (ht : ScrP x t ∧ ScrP x (t + 2)) : Frp x I (bq_u (bl_add I' (t + 2) (o + 1) 16) t 1 (nI 1)) := fun a ha => by
  unfold ScrP at ht
  rw [in_ne h1 (by omega) (by omega)]; exact h a ha
set_option maxHeartbeats 400000 in
set_option maxRecDepth 20000 in
theorem c_fillP_a {S : BqH} {n : Nat} {I : BqI} {L : BqL} {P : BqP} {x : Nat} {g : BqG} {en : Nat} (hx : oX S n P x) (hC : CS I L (x + 1) g) (hG : GI g en) (hen : en < 2 ^ 29) {t o : Int32} (ht : t < nI 0 ∨ ¬ t ≤ nI 5) : bq_Sp mX11_deliver 3 60 0 0 [.ref x, .int t, .int o] S n I L P (qCoreP x I L S n P (w_fill g t o)) := by
  refine q_entry (vs := [some (.ref x), some (.int t), some (.int o), none, none]) (by decide +kernel) (by simp) (Nat.le_of_ble_eq_true rfl) rfl ?_
  refine q_aload_n (pc := 0) dX11_deliver_0 rfl rfl ?_
  refine q_getP (pc := 1) dX11_deliver_1 fX11_10 (Cellar_sh hx) ⟨by decide, rfl⟩ (Cellar_lt hx) (Cellar_p_state hx) ?_
  refine q_iload_n (pc := 4) dX11_deliver_4 rfl rfl ?_
  refine q_callVF (pc := 5) dX11_deliver_5 kX11_65 (c_tankAt0 (Cellar_s_state hx) ht) (State_sh (Cellar_s_state hx)) rfl (State_lt (Cellar_s_state hx)) ⟨Nat.le_of_ble_eq_true rfl, Nat.le_of_ble_eq_true rfl⟩ rfl rfl (Nat.le_of_ble_eq_true rfl) ?_
  show bq_W _ _ _ _ _ 8 _ [_] _ _ _ _ _ _
  refine q_astore_nN (pc := 8) dX11_deliver_8 rfl (Nat.le_of_ble_eq_true rfl) rfl ?_
  show bq_W _ _ _ _ _ 9 [_, _, _, _, _] _ _ _ _ _ _ _
  refine q_aload_nN (pc := 9) dX11_deliver_9 rfl rfl ?_
  refine q_ifnonnullN (pc := 10) dX11_deliver_10 ?_
  refine q_iconst (pc := 13) (v := (-1)) dX11_deliver_13 (by decide) ?_
  exact q_iret (st := []) (pc := 14) dX11_deliver_14 rfl (qCoreP.same hC (by unfold w_fill; rw [if_pos ht]))
set_option maxHeartbeats 400000 in
set_option maxRecDepth 20000 in
theorem c_fillP_b {S : BqH} {n : Nat} {I : BqI} {L : BqL} {P : BqP} {x : Nat} {g : BqG} {en : Nat} (hx : oX S n P x) (hC : CS I L (x + 1) g) (hG : GI g en) (hen : en < 2 ^ 29) {t : Nat} {o : Int32} (ht : t < 6) (ho : o < 0 ∨ g 2 ≤ o ∨ nI 10 ≤ o) : bq_Sp mX11_deliver 3 60 0 0 [.ref x, .int (nI t), .int o] S n I L P (qCoreP x I L S n P (w_fill g (nI t) o)) := by
  refine q_entry (vs := [some (.ref x), some (.int (nI t)), some (.int o), none, none]) (by decide +kernel) (by simp) (Nat.le_of_ble_eq_true rfl) rfl ?_
  refine q_aload_n (pc := 0) dX11_deliver_0 rfl rfl ?_
  refine q_getP (pc := 1) dX11_deliver_1 fX11_10 (Cellar_sh hx) ⟨by decide, rfl⟩ (Cellar_lt hx) (Cellar_p_state hx) ?_
  refine q_iload_n (pc := 4) dX11_deliver_4 rfl rfl ?_
  refine q_callVF (pc := 5) dX11_deliver_5 kX11_65 (c_tankAt (Cellar_s_state hx) ht) (State_sh (Cellar_s_state hx)) rfl (State_lt (Cellar_s_state hx)) ⟨Nat.le_of_ble_eq_true rfl, Nat.le_of_ble_eq_true rfl⟩ rfl rfl (Nat.le_of_ble_eq_true rfl) ?_
  show bq_W _ _ _ _ _ 8 _ [_] _ _ _ _ _ _
  refine q_astore_n (pc := 8) dX11_deliver_8 rfl (Nat.le_of_ble_eq_true rfl) rfl ?_
  show bq_W _ _ _ _ _ 9 [_, _, _, _, _] _ _ _ _ _ _ _
  refine q_aload_n (pc := 9) dX11_deliver_9 rfl rfl ?_
  refine q_ifnonnull (pc := 10) 15 dX11_deliver_10 (by decide) ?_
  refine q_aload_n (pc := 15) dX11_deliver_15 rfl rfl ?_
  refine q_getP (pc := 16) dX11_deliver_16 fX11_10 (Cellar_sh hx) ⟨by decide, rfl⟩ (Cellar_lt hx) (Cellar_p_state hx) ?_
  refine q_iload_n (pc := 19) dX11_deliver_19 rfl rfl ?_
  refine q_callVF (pc := 20) dX11_deliver_20 kX11_175 (c_orderAt0 (Cellar_s_state hx) (hox hC ho)) (State_sh (Cellar_s_state hx)) rfl (State_lt (Cellar_s_state hx)) ⟨Nat.le_of_ble_eq_true rfl, Nat.le_of_ble_eq_true rfl⟩ rfl rfl (Nat.le_of_ble_eq_true rfl) ?_
  show bq_W _ _ _ _ _ 23 _ [_] _ _ _ _ _ _
  refine q_astoreN (pc := 23) dX11_deliver_23 (Nat.le_of_ble_eq_true rfl) rfl ?_
  show bq_W _ _ _ _ _ 25 [_, _, _, _, _] _ _ _ _ _ _ _
  refine q_aloadN (pc := 25) dX11_deliver_25 rfl ?_
  refine q_ifnullN (pc := 27) 38 dX11_deliver_27 (by decide) ?_
  refine q_bipush (pc := 38) (v := (-5)) dX11_deliver_38 (by decide) ?_
  exact q_iret (st := []) (pc := 40) dX11_deliver_40 rfl (qCoreP.same hC (by unfold w_fill; rw [if_neg (bq_tin (k := 5) ht (by decide)), if_pos ho]))
set_option maxHeartbeats 1648000 in
set_option maxRecDepth 20000 in
theorem c_fillP_n {S : BqH} {n : Nat} {I : BqI} {L : BqL} {P : BqP} {x : Nat} {g : BqG} {en : Nat} (hx : oX S n P x) (hC : CS I L (x + 1) g) (hG : GI g en) (hen : en < 2 ^ 29) {t o : Nat} (ht : t < 6) (ho : o < gn g 2) : bq_Sp mX11_deliver 3 60 0 0 [.ref x, .int (nI t), .int (nI o)] S n I L P (qCoreP x I L S n P (n_fill g t o)) := by
  refine q_entry (vs := [some (.ref x), some (.int (nI t)), some (.int (nI o)), none, none]) (by decide +kernel) (by simp) (Nat.le_of_ble_eq_true rfl) rfl ?_
  have hoc : gn g 2 ≤ 10 := hG.2.2.2.1
  have ho10 : o < 10 := by omega
  have hc : I (x + 1) 12 = nI (gn g 2) := (hC.1.at (k := 2) rfl).trans (hG.n (by decide) (by decide))
  have hrl : gn g 3 ≤ 10 := hG.2.2.2.2.1
  have ht1 : I (x + 1 + 15 + 3 * t) 1 = nI (gn g (11 + 19 * t)) := hC.1.tn1 hG ht
  have hpt : ∀ j, j < 16 → I (x + 1 + 15 + 3 * t + 1 + 1) j = nI (gp g t j) := hC.1.pn hG ht
  have htt : bq_sum (I (x + 1 + 15 + 3 * t + 1 + 1)) 16 = nI (gt g t) := bq_sum_n 16 hpt
  have hstr : bq_str (I (x + 1 + 15 + 3 * t + 1 + 1)) (I (x + 1 + 2)) = g_str g t := by
    rw [show x + 1 + 15 + 3 * t + 1 + 1 = x + 1 + (17 + 3 * t) by omega]
    exact bq_str_congr (fun j hj => hC.1.at (lc_P ht hj)) (fun j hj => hC.1.at (lc_B0 hj))
  have hod : ∀ k, k < 8 → I (x + 1 + 43 + o) k = nI (gn g (204 + 9 * o + k)) := fun k hk => by
    rw [show x + 1 + 43 + o = x + 1 + (43 + o) by omega, hC.1.at (lc_O ho10 hk)]; exact hG.n (by omega) (by omega)
  have hst : I (x + 1 + 43 + o) 4 = nI (gn g (208 + 9 * o)) := by rw [hod 4 (by decide)]; congr 2; omega
  have hli : I (x + 1 + 43 + o) 1 = nI (gn g (205 + 9 * o)) := by rw [hod 1 (by decide)]; congr 2; omega
  have hle : I (x + 1 + 43 + o) 2 = g (206 + 9 * o) := by rw [hod 2 (by decide), hG.n (k := 206 + 9 * o) (by omega) (by omega)]; congr 2; omega
  have hgr : I (x + 1 + 43 + o) 3 = g (207 + 9 * o) := by rw [hod 3 (by decide), hG.n (k := 207 + 9 * o) (by omega) (by omega)]; congr 2; omega
  obtain ⟨qt1, qt2, qt3, qt4, qt5, qt6⟩ := hG.t ht
  obtain ⟨qo1, qo2, qo3, qo4, qo5, qo6, qo7, qo8, qo9⟩ := hG.o ho10
  have hm : gn g 5 ≤ en := hG.2.2.2.2.2.2.1
  generalize hl : gn g (205 + 9 * o) = l at *
  refine q_aload_n (pc := 0) dX11_deliver_0 rfl rfl ?_
  refine q_getP (pc := 1) dX11_deliver_1 fX11_10 (Cellar_sh hx) ⟨by decide, rfl⟩ (Cellar_lt hx) (Cellar_p_state hx) ?_
  refine q_iload_n (pc := 4) dX11_deliver_4 rfl rfl ?_
  refine q_callVF (pc := 5) dX11_deliver_5 kX11_65 (c_tankAt (Cellar_s_state hx) ht) (State_sh (Cellar_s_state hx)) rfl (State_lt (Cellar_s_state hx)) ⟨Nat.le_of_ble_eq_true rfl, Nat.le_of_ble_eq_true rfl⟩ rfl rfl (Nat.le_of_ble_eq_true rfl) ?_
  show bq_W _ _ _ _ _ 8 _ [_] _ _ _ _ _ _
  refine q_astore_n (pc := 8) dX11_deliver_8 rfl (Nat.le_of_ble_eq_true rfl) rfl ?_
  show bq_W _ _ _ _ _ 9 [_, _, _, _, _] _ _ _ _ _ _ _
  refine q_aload_n (pc := 9) dX11_deliver_9 rfl rfl ?_
  refine q_ifnonnull (pc := 10) 15 dX11_deliver_10 (by decide) ?_
  refine q_aload_n (pc := 15) dX11_deliver_15 rfl rfl ?_
  refine q_getP (pc := 16) dX11_deliver_16 fX11_10 (Cellar_sh hx) ⟨by decide, rfl⟩ (Cellar_lt hx) (Cellar_p_state hx) ?_
  refine q_iload_n (pc := 19) dX11_deliver_19 rfl rfl ?_
  refine q_callVF (pc := 20) dX11_deliver_20 kX11_175 (c_orderAt (Cellar_s_state hx) hc ho hoc) (State_sh (Cellar_s_state hx)) rfl (State_lt (Cellar_s_state hx)) ⟨Nat.le_of_ble_eq_true rfl, Nat.le_of_ble_eq_true rfl⟩ rfl rfl (Nat.le_of_ble_eq_true rfl) ?_
  show bq_W _ _ _ _ _ 23 _ [_] _ _ _ _ _ _
  refine q_astore (pc := 23) dX11_deliver_23 (Nat.le_of_ble_eq_true rfl) rfl ?_
  show bq_W _ _ _ _ _ 25 [_, _, _, _, _] _ _ _ _ _ _ _
  refine q_aload (pc := 25) dX11_deliver_25 rfl ?_
  refine q_ifnull (pc := 27) dX11_deliver_27 ?_
  refine q_aload (pc := 30) dX11_deliver_30 rfl ?_
  refine q_getI (pc := 32) dX11_deliver_32 fX11_172 (Order_sh (Stateorders_s_el (Cellar_s_state hx) (Nat.lt_of_lt_of_le ho hoc))) ⟨by decide, rfl⟩ (Order_lt (Stateorders_s_el (Cellar_s_state hx) (Nat.lt_of_lt_of_le ho hoc))) ?_
  rw [hst]
  refine q_if_eq (pc := 35) 41 dX11_deliver_35 (by decide) (fun c_35 => ?_) (fun c_35 => ?_)
  · refine q_aload_n (pc := 41) dX11_deliver_41 rfl rfl ?_
    refine q_getI (pc := 42) dX11_deliver_42 fX11_101 (Tank_sh (Statetanks_s_el (Cellar_s_state hx) ht)) ⟨by decide, rfl⟩ (Tank_lt (Statetanks_s_el (Cellar_s_state hx) ht)) ?_
    rw [ht1]
    refine q_iconst (pc := 45) (v := nI 1) dX11_deliver_45 (by decide) ?_
    refine q_icmp_eq (pc := 46) 52 dX11_deliver_46 (by decide) (fun c_46 => ?_) (fun c_46 => ?_)
    · refine q_aload_n (pc := 52) dX11_deliver_52 rfl rfl ?_
      refine q_getP (pc := 53) dX11_deliver_53 fX11_73 (Tank_sh (Statetanks_s_el (Cellar_s_state hx) ht)) ⟨by decide, rfl⟩ (Tank_lt (Statetanks_s_el (Cellar_s_state hx) ht)) (Tank_p_content (Statetanks_s_el (Cellar_s_state hx) ht)) ?_
      refine q_callVF (pc := 56) dX11_deliver_56 kX11_79 (c_X0_total (Tank_s_content (Statetanks_s_el (Cellar_s_state hx) ht))) (Blend_sh (Tank_s_content (Statetanks_s_el (Cellar_s_state hx) ht))) rfl (Blend_lt (Tank_s_content (Statetanks_s_el (Cellar_s_state hx) ht))) ⟨Nat.le_of_ble_eq_true rfl, Nat.le_of_ble_eq_true rfl⟩ rfl rfl (Nat.le_of_ble_eq_true rfl) ?_
      show bq_W _ _ _ _ _ 59 _ [_] _ _ _ _ _ _
      rw [htt]
      refine q_aload (pc := 59) dX11_deliver_59 rfl ?_
      refine q_getI (pc := 61) dX11_deliver_61 fX11_163 (Order_sh (Stateorders_s_el (Cellar_s_state hx) (Nat.lt_of_lt_of_le ho hoc))) ⟨by decide, rfl⟩ (Order_lt (Stateorders_s_el (Cellar_s_state hx) (Nat.lt_of_lt_of_le ho hoc))) ?_
      rw [hli]
      refine q_icmp_ge (pc := 64) 70 dX11_deliver_64 (by decide) (fun c_64 => ?_) (fun c_64 => ?_)
      · refine q_aload (pc := 70) dX11_deliver_70 rfl ?_
        refine q_aload_n (pc := 72) dX11_deliver_72 rfl rfl ?_
        refine q_getP (pc := 73) dX11_deliver_73 fX11_73 (Tank_sh (Statetanks_s_el (Cellar_s_state hx) ht)) ⟨by decide, rfl⟩ (Tank_lt (Statetanks_s_el (Cellar_s_state hx) ht)) (Tank_p_content (Statetanks_s_el (Cellar_s_state hx) ht)) ?_
        refine q_aload_n (pc := 76) dX11_deliver_76 rfl rfl ?_
        refine q_getP (pc := 77) dX11_deliver_77 fX11_10 (Cellar_sh hx) ⟨by decide, rfl⟩ (Cellar_lt hx) (Cellar_p_state hx) ?_
        refine q_getP (pc := 80) dX11_deliver_80 fX11_233 (State_sh (Cellar_s_state hx)) ⟨by decide, rfl⟩ (State_lt (Cellar_s_state hx)) (State_p_strengths (Cellar_s_state hx)) ?_
        refine q_callVF (pc := 83) dX11_deliver_83 kX11_236 (c_X0_strength (Tank_s_content (Statetanks_s_el (Cellar_s_state hx) ht)) (State_s_strengths (Cellar_s_state hx))) (Blend_sh (Tank_s_content (Statetanks_s_el (Cellar_s_state hx) ht))) rfl (Blend_lt (Tank_s_content (Statetanks_s_el (Cellar_s_state hx) ht))) ⟨Nat.le_of_ble_eq_true rfl, Nat.le_of_ble_eq_true rfl⟩ rfl rfl (Nat.le_of_ble_eq_true rfl) ?_
        show bq_W _ _ _ _ _ 86 _ [_, _] _ _ _ _ _ _
        refine q_callVF (pc := 86) dX11_deliver_86 kX11_360 (c_X4_allows (Stateorders_s_el (Cellar_s_state hx) (Nat.lt_of_lt_of_le ho hoc))) (Order_sh (Stateorders_s_el (Cellar_s_state hx) (Nat.lt_of_lt_of_le ho hoc))) rfl (Order_lt (Stateorders_s_el (Cellar_s_state hx) (Nat.lt_of_lt_of_le ho hoc))) ⟨Nat.le_of_ble_eq_true rfl, Nat.le_of_ble_eq_true rfl⟩ rfl rfl (Nat.le_of_ble_eq_true rfl) ?_
        show bq_W _ _ _ _ _ 89 _ [_] _ _ _ _ _ _
        refine q_if_ne (pc := 89) 95 dX11_deliver_89 (by decide) (fun c_89 => ?_) (fun c_89 => ?_)
        · replace c_89 := bq_bn.mp c_89
          have hge : l ≤ gt g t := (nI_leI (by omega) (by omega)).mp c_64
          have hal : ¬ g_str g t < g (206 + 9 * o) ∧ ¬ g (207 + 9 * o) < g_str g t := by rw [hstr, hle, hgr] at c_89; exact c_89
          rw [show n_fill g t o = (fd g t o l, x_fill g t o l) from by unfold n_fill; rw [hl, if_neg (not_not_intro ((nI_eq (by omega) (by decide)).mp c_35)), if_neg (not_not_intro ((nI_eq (by omega) (by decide)).mp c_46)), if_neg (Nat.not_lt.mpr hge), if_neg (not_not_intro hal)]]
          have h208 : gn g (208 + 9 * o) = 0 := (nI_eq (by omega) (by decide)).mp c_35
          have hpos : 0 < gt g t := by omega
          have htb : gt g t ≤ 9999 := by omega
          obtain ⟨nt1, nt2⟩ := npt_in (F := gp g t) hge hpos
          refine q_aload_n (pc := 95) dX11_deliver_95 rfl rfl ?_
          refine q_getP (pc := 96) dX11_deliver_96 fX11_55 (Cellar_sh hx) ⟨by decide, rfl⟩ (Cellar_lt hx) (Cellar_p_taken hx) ?_
          refine q_aload_n (pc := 99) dX11_deliver_99 rfl rfl ?_
          refine q_getP (pc := 100) dX11_deliver_100 fX11_73 (Tank_sh (Statetanks_s_el (Cellar_s_state hx) ht)) ⟨by decide, rfl⟩ (Tank_lt (Statetanks_s_el (Cellar_s_state hx) ht)) (Tank_p_content (Statetanks_s_el (Cellar_s_state hx) ht)) ?_
          refine q_aload (pc := 103) dX11_deliver_103 rfl ?_
          refine q_getI (pc := 105) dX11_deliver_105 fX11_163 (Order_sh (Stateorders_s_el (Cellar_s_state hx) (Nat.lt_of_lt_of_le ho hoc))) ⟨by decide, rfl⟩ (Order_lt (Stateorders_s_el (Cellar_s_state hx) (Nat.lt_of_lt_of_le ho hoc))) ?_
          rw [hli]
          refine q_callV (pc := 108) dX11_deliver_108 kX11_339 (c_take (Cellar_s_taken hx) (Tank_s_content (Statetanks_s_el (Cellar_s_state hx) ht)) (by omega) (by omega) (pm_n hpt hge hpos htb).2 (by omega)) (Portion_sh (Cellar_s_taken hx)) rfl (Portion_lt (Cellar_s_taken hx)) ⟨Nat.le_of_ble_eq_true rfl, Nat.le_of_ble_eq_true rfl⟩ rfl rfl (Nat.le_of_ble_eq_true rfl) ?_
          rintro _ _ _ I1 L1 P1 ⟨rfl, rfl, rfl, rfl, rfl, f1, t1⟩
          show bq_W _ _ _ _ _ 111 _ [] _ _ _ _ _ _
          have hC1 : CSI I1 (x + 1) g := hC.1.fr (fun a ha => f1 _ (by omega) (by omega))
          have hT1 : ∀ j, j < 16 → I1 (x + 157 + 1 + 1) j = tk g t l j := fun j hj => (t1 j hj).trans (pt_n hpt hge hpos htb j hj)
          have hF1 : Frp x I I1 := Frp.rf.take (p := x + 157) f1 ⟨Or.inr (by omega), Or.inr (by omega)⟩
          refine q_aload_n (pc := 111) dX11_deliver_111 rfl rfl ?_
          refine q_aload_n (pc := 112) dX11_deliver_112 rfl rfl ?_
          refine q_getP (pc := 113) dX11_deliver_113 fX11_55 (Cellar_sh hx) ⟨by decide, rfl⟩ (Cellar_lt hx) (Cellar_p_taken hx) ?_
          refine q_getP (pc := 116) dX11_deliver_116 fX11_343 (Portion_sh (Cellar_s_taken hx)) ⟨by decide, rfl⟩ (Portion_lt (Cellar_s_taken hx)) (Portion_p_blend (Cellar_s_taken hx)) ?_
          refine q_callVF (pc := 119) dX11_deliver_119 kX11_346 (c_X9_giveOut (Statetanks_s_el (Cellar_s_state hx) ht) (Portion_s_blend (Cellar_s_taken hx))) (Tank_sh (Statetanks_s_el (Cellar_s_state hx) ht)) rfl (Tank_lt (Statetanks_s_el (Cellar_s_state hx) ht)) ⟨Nat.le_of_ble_eq_true rfl, Nat.le_of_ble_eq_true rfl⟩ rfl rfl (Nat.le_of_ble_eq_true rfl) ?_
          show bq_W _ _ _ _ _ 122 _ [] _ _ _ _ _ _
          refine q_nameI (fun I2 e2 => ?_)
          have hC2 : CSI I2 (x + 1) (g_out g t (tk g t l)) := by rw [e2]; exact hC1.out ht (Or.inr (by omega)) hT1
          have hF2 : Frp x I I2 := by rw [e2]; exact hF1.out (by omega) ⟨Or.inl (by omega), Or.inl (by omega)⟩
          have hT2 : ∀ j, j < 16 → I2 (x + 157 + 1 + 1) j = tk g t l j := fun j hj => by rw [e2, tk_out_ne (by omega) (by omega) (by omega)]; exact hT1 j hj
          refine q_aload_n (pc := 122) dX11_deliver_122 rfl rfl ?_
          refine q_getP (pc := 123) dX11_deliver_123 fX11_10 (Cellar_sh hx) ⟨by decide, rfl⟩ (Cellar_lt hx) (Cellar_p_state hx) ?_
          refine q_getP (pc := 126) dX11_deliver_126 fX11_251 (State_sh (Cellar_s_state hx)) ⟨by decide, rfl⟩ (State_lt (Cellar_s_state hx)) (State_p_filled (Cellar_s_state hx)) ?_
          refine q_aload_n (pc := 129) dX11_deliver_129 rfl rfl ?_
          refine q_getP (pc := 130) dX11_deliver_130 fX11_55 (Cellar_sh hx) ⟨by decide, rfl⟩ (Cellar_lt hx) (Cellar_p_taken hx) ?_
          refine q_getP (pc := 133) dX11_deliver_133 fX11_343 (Portion_sh (Cellar_s_taken hx)) ⟨by decide, rfl⟩ (Portion_lt (Cellar_s_taken hx)) (Portion_p_blend (Cellar_s_taken hx)) ?_
          refine q_callVF (pc := 136) dX11_deliver_136 kX11_363 (c_X0_add (State_s_filled (Cellar_s_state hx)) (Portion_s_blend (Cellar_s_taken hx))) (Blend_sh (State_s_filled (Cellar_s_state hx))) rfl (Blend_lt (State_s_filled (Cellar_s_state hx))) ⟨Nat.le_of_ble_eq_true rfl, Nat.le_of_ble_eq_true rfl⟩ rfl rfl (Nat.le_of_ble_eq_true rfl) ?_
          show bq_W _ _ _ _ _ 139 _ [] _ _ _ _ _ _
          refine q_nameI (fun I3 e3 => ?_)
          have hC3 : CSI I3 (x + 1) (x_fill0 g t l) := by rw [e3]; exact hC2.badd (i := 2) (by decide) (by show x + 1 + 7 ≠ _; omega) hT2
          have hF3 : Frp x I I3 := by rw [e3]; exact hF2.add (by omega) (Or.inl (by omega))
          have hT3 : ∀ j, j < 16 → I3 (x + 157 + 1 + 1) j = tk g t l j := fun j hj => by rw [e3, (bl_add_at (I := I2) (by omega) 16).1 _ (by omega)]; exact hT2 j hj
          refine q_aload (pc := 139) dX11_deliver_139 rfl ?_
          refine q_iconst (pc := 141) (v := nI 1) dX11_deliver_141 (by decide) ?_
          refine q_putI (pc := 142) dX11_deliver_142 (pX11_172 _) (Order_sh (Stateorders_s_el (Cellar_s_state hx) (Nat.lt_of_lt_of_le ho hoc))) ⟨by decide, rfl⟩ (Order_lt (Stateorders_s_el (Cellar_s_state hx) (Nat.lt_of_lt_of_le ho hoc))) ?_
          refine q_nameI (fun I4 e4 => ?_)
          have hC4 : CSI I4 (x + 1) (bq_r (x_fill0 g t l) (208 + 9 * o) (nI 1)) := by rw [e4]; rw [show x + 1 + 43 + o = x + 1 + (43 + o) by omega]; exact hC3.u (show lc (208 + 9 * o) = some (43 + o, 4) from by rw [show 208 + 9 * o = 204 + 9 * o + 4 by omega]; exact lc_O ho10 (by decide)) _
          have hF4 : Frp x I I4 := by rw [e4]; exact hF3.u (Or.inl (by omega))
          have hT4 : ∀ j, j < 16 → I4 (x + 157 + 1 + 1) j = tk g t l j := fun j hj => by rw [e4, bq_u_ne (by omega)]; exact hT3 j hj
          refine q_aload (pc := 145) dX11_deliver_145 rfl ?_
          refine q_aload_n (pc := 147) dX11_deliver_147 rfl rfl ?_
          refine q_getP (pc := 148) dX11_deliver_148 fX11_10 (Cellar_sh hx) ⟨by decide, rfl⟩ (Cellar_lt hx) (Cellar_p_state hx) ?_
          refine q_getI (pc := 151) dX11_deliver_151 fX11_157 (State_sh (Cellar_s_state hx)) ⟨by decide, rfl⟩ (State_lt (Cellar_s_state hx)) ?_
          refine q_putI (pc := 154) dX11_deliver_154 (pX11_366 _) (Order_sh (Stateorders_s_el (Cellar_s_state hx) (Nat.lt_of_lt_of_le ho hoc))) ⟨by decide, rfl⟩ (Order_lt (Stateorders_s_el (Cellar_s_state hx) (Nat.lt_of_lt_of_le ho hoc))) ?_
          refine q_nameI (fun I5 e5 => ?_)
          have hC5 : CSI I5 (x + 1) (x_fill1 g t o l) := by rw [e5]; rw [show I4 (x + 1) 0 = g 0 from by rw [hC4.at (k := 0) rfl, bq_r_ne (by omega)]; exact x_fill0_n ht (by omega)]; rw [show x + 1 + 43 + o = x + 1 + (43 + o) by omega]; exact hC4.u (show lc (210 + 9 * o) = some (43 + o, 6) from by rw [show 210 + 9 * o = 204 + 9 * o + 6 by omega]; exact lc_O ho10 (by decide)) _
          have hF5 : Frp x I I5 := by rw [e5]; exact hF4.u (Or.inl (by omega))
          have hT5 : ∀ j, j < 16 → I5 (x + 157 + 1 + 1) j = tk g t l j := fun j hj => by rw [e5, bq_u_ne (by omega)]; exact hT4 j hj
          refine q_aload (pc := 157) dX11_deliver_157 rfl ?_
          refine q_aload_n (pc := 159) dX11_deliver_159 rfl rfl ?_
          refine q_getP (pc := 160) dX11_deliver_160 fX11_55 (Cellar_sh hx) ⟨by decide, rfl⟩ (Cellar_lt hx) (Cellar_p_taken hx) ?_
          refine q_getP (pc := 163) dX11_deliver_163 fX11_343 (Portion_sh (Cellar_s_taken hx)) ⟨by decide, rfl⟩ (Portion_lt (Cellar_s_taken hx)) (Portion_p_blend (Cellar_s_taken hx)) ?_
          refine q_aload_n (pc := 166) dX11_deliver_166 rfl rfl ?_
          refine q_getP (pc := 167) dX11_deliver_167 fX11_10 (Cellar_sh hx) ⟨by decide, rfl⟩ (Cellar_lt hx) (Cellar_p_state hx) ?_
          refine q_getP (pc := 170) dX11_deliver_170 fX11_233 (State_sh (Cellar_s_state hx)) ⟨by decide, rfl⟩ (State_lt (Cellar_s_state hx)) (State_p_strengths (Cellar_s_state hx)) ?_
          refine q_callVF (pc := 173) dX11_deliver_173 kX11_236 (c_X0_strength (Portion_s_blend (Cellar_s_taken hx)) (State_s_strengths (Cellar_s_state hx))) (Blend_sh (Portion_s_blend (Cellar_s_taken hx))) rfl (Blend_lt (Portion_s_blend (Cellar_s_taken hx))) ⟨Nat.le_of_ble_eq_true rfl, Nat.le_of_ble_eq_true rfl⟩ rfl rfl (Nat.le_of_ble_eq_true rfl) ?_
          show bq_W _ _ _ _ _ 176 _ [_, _] _ _ _ _ _ _
          rw [show bq_str (I5 (x + 157 + 1 + 1)) (I5 (x + 1 + 2)) = fs g t l from bq_str_congr hT5 (fun j hj => by rw [hC5.at (lc_B0 hj)]; exact x_fill1_n ht (by omega) (by omega) (by omega))]
          refine q_putI (pc := 176) dX11_deliver_176 (pX11_369 _) (Order_sh (Stateorders_s_el (Cellar_s_state hx) (Nat.lt_of_lt_of_le ho hoc))) ⟨by decide, rfl⟩ (Order_lt (Stateorders_s_el (Cellar_s_state hx) (Nat.lt_of_lt_of_le ho hoc))) ?_
          refine q_nameI (fun I6 e6 => ?_)
          have hC6 : CSI I6 (x + 1) (bq_r (x_fill1 g t o l) (211 + 9 * o) (fs g t l)) := by rw [e6]; rw [show x + 1 + 43 + o = x + 1 + (43 + o) by omega]; exact hC5.u (show lc (211 + 9 * o) = some (43 + o, 7) from by rw [show 211 + 9 * o = 204 + 9 * o + 7 by omega]; exact lc_O ho10 (by decide)) _
          have hF6 : Frp x I I6 := by rw [e6]; exact hF5.u (Or.inl (by omega))
          have hT6 : ∀ j, j < 16 → I6 (x + 157 + 1 + 1) j = tk g t l j := fun j hj => by rw [e6, bq_u_ne (by omega)]; exact hT5 j hj
          refine q_aload (pc := 179) dX11_deliver_179 rfl ?_
          refine q_aload_n (pc := 181) dX11_deliver_181 rfl rfl ?_
          refine q_getP (pc := 182) dX11_deliver_182 fX11_55 (Cellar_sh hx) ⟨by decide, rfl⟩ (Cellar_lt hx) (Cellar_p_taken hx) ?_
          refine q_getP (pc := 185) dX11_deliver_185 fX11_343 (Portion_sh (Cellar_s_taken hx)) ⟨by decide, rfl⟩ (Portion_lt (Cellar_s_taken hx)) (Portion_p_blend (Cellar_s_taken hx)) ?_
          refine q_aload_n (pc := 188) dX11_deliver_188 rfl rfl ?_
          refine q_getP (pc := 189) dX11_deliver_189 fX11_10 (Cellar_sh hx) ⟨by decide, rfl⟩ (Cellar_lt hx) (Cellar_p_state hx) ?_
          refine q_getP (pc := 192) dX11_deliver_192 fX11_233 (State_sh (Cellar_s_state hx)) ⟨by decide, rfl⟩ (State_lt (Cellar_s_state hx)) (State_p_strengths (Cellar_s_state hx)) ?_
          refine q_callVF (pc := 195) dX11_deliver_195 kX11_312 (c_X0_alcohol (Portion_s_blend (Cellar_s_taken hx)) (State_s_strengths (Cellar_s_state hx))) (Blend_sh (Portion_s_blend (Cellar_s_taken hx))) rfl (Blend_lt (Portion_s_blend (Cellar_s_taken hx))) ⟨Nat.le_of_ble_eq_true rfl, Nat.le_of_ble_eq_true rfl⟩ rfl rfl (Nat.le_of_ble_eq_true rfl) ?_
          show bq_W _ _ _ _ _ 198 _ [_, _] _ _ _ _ _ _
          rw [show bq_alc (I6 (x + 157 + 1 + 1)) (I6 (x + 1 + 2)) 16 = (nI (fa g t l)).toInt64 from by rw [nI_64 (fa_lt hG hge hpos htb), fa]; exact bq_alc_n 16 hT6 (fun j hj => by rw [hC6.at (lc_B0 hj), bq_r_ne (by omega), x_fill1_n ht (by omega) (by omega) (by omega)]; exact hG.n (by omega) (by omega)) (fun j hj => hG.lt (by omega) (by omega)) (fun j hj => by have := (nt1 j hj).2.1; have := ns_ge (F := gp g t) 16 hj; have e : ns (gp g t) 16 = gt g t := rfl; omega)]
          refine q_putL (pc := 198) dX11_deliver_198 (pX11_372 _) (Order_sh (Stateorders_s_el (Cellar_s_state hx) (Nat.lt_of_lt_of_le ho hoc))) ⟨by decide, rfl⟩ (Order_lt (Stateorders_s_el (Cellar_s_state hx) (Nat.lt_of_lt_of_le ho hoc))) ?_
          refine q_nameL (fun J1 j1 => ?_)
          have hC7 : CSI I6 (x + 1) (x_fill2 g t o l) := hC6.ir (lc_A ho10) _
          refine q_aload (pc := 201) dX11_deliver_201 rfl ?_
          refine q_aload_n (pc := 203) dX11_deliver_203 rfl rfl ?_
          refine q_getP (pc := 204) dX11_deliver_204 fX11_10 (Cellar_sh hx) ⟨by decide, rfl⟩ (Cellar_lt hx) (Cellar_p_state hx) ?_
          refine q_aload (pc := 207) dX11_deliver_207 rfl ?_
          refine q_callVF (pc := 209) dX11_deliver_209 kX11_375 (c_X8_dutyOn (Cellar_s_state hx) (Stateorders_s_el (Cellar_s_state hx) (Nat.lt_of_lt_of_le ho hoc)) (show I6 (x + 1) 10 = nI (gn g 3) from by rw [hC7.at (k := 3) rfl, x_fill2_n ht (by omega) (by omega)]; exact hG.n (by decide) (by decide)) hrl) (State_sh (Cellar_s_state hx)) rfl (State_lt (Cellar_s_state hx)) ⟨Nat.le_of_ble_eq_true rfl, Nat.le_of_ble_eq_true rfl⟩ rfl rfl (Nat.le_of_ble_eq_true rfl) ?_
          show bq_W _ _ _ _ _ 212 _ [_, _] _ _ _ _ _ _
          rw [show du (fun i => I6 (x + 1 + 33 + i) 2) (rfx (fun i => I6 (x + 1 + 33 + i) 0) (fun i => I6 (x + 1 + 33 + i) 1) (I6 (x + 1 + 43 + o) 6) (I6 (x + 1 + 43 + o) 7) (gn g 3)) (J1 (x + 1 + 43 + o) 8) = fd g t o l from fd_eq hC7 ht ho10 hrl (by rw [j1, bq_u_at])]
          refine q_putI (pc := 212) dX11_deliver_212 (pX11_270 _) (Order_sh (Stateorders_s_el (Cellar_s_state hx) (Nat.lt_of_lt_of_le ho hoc))) ⟨by decide, rfl⟩ (Order_lt (Stateorders_s_el (Cellar_s_state hx) (Nat.lt_of_lt_of_le ho hoc))) ?_
          refine q_nameI (fun I7 e7 => ?_)
          have hC8 : CSI I7 (x + 1) (x_fill3 g t o l) := by rw [e7]; rw [show x + 1 + 43 + o = x + 1 + (43 + o) by omega]; exact hC7.u (show lc (209 + 9 * o) = some (43 + o, 5) from by rw [show 209 + 9 * o = 204 + 9 * o + 5 by omega]; exact lc_O ho10 (by decide)) _
          have hF7 : Frp x I I7 := by rw [e7]; exact hF6.u (Or.inl (by omega))
          have hdu : I7 (x + 1 + 43 + o) 5 = fd g t o l := by rw [e7, bq_u_at]
          have hli7 : I7 (x + 1 + 43 + o) 1 = nI l := by rw [show x + 1 + 43 + o = x + 1 + (43 + o) by omega, hC8.at (lc_O ho10 (k := 1) (by decide))]; rw [show 204 + 9 * o + 1 = 205 + 9 * o by omega, x_fill3_n ht (by omega) (by omega), ← hl]; exact hG.n (by omega) (by omega)
          have hm7 : I7 (x + 1 + 13) 0 = nI (gn g 5) := by rw [hC8.at (k := 5) rfl, x_fill3_n ht (by omega) (by omega)]; exact hG.n (by decide) (by decide)
          refine q_aload_n (pc := 215) dX11_deliver_215 rfl rfl ?_
          refine q_getP (pc := 216) dX11_deliver_216 fX11_10 (Cellar_sh hx) ⟨by decide, rfl⟩ (Cellar_lt hx) (Cellar_p_state hx) ?_
          refine q_dup (pc := 219) dX11_deliver_219 rfl ?_
          refine q_getL (pc := 220) dX11_deliver_220 fX11_276 (State_sh (Cellar_s_state hx)) ⟨by decide, rfl⟩ (State_lt (Cellar_s_state hx)) ?_
          refine q_aload (pc := 223) dX11_deliver_223 rfl ?_
          refine q_getI (pc := 225) dX11_deliver_225 fX11_270 (Order_sh (Stateorders_s_el (Cellar_s_state hx) (Nat.lt_of_lt_of_le ho hoc))) ⟨by decide, rfl⟩ (Order_lt (Stateorders_s_el (Cellar_s_state hx) (Nat.lt_of_lt_of_le ho hoc))) ?_
          rw [hdu]
          refine q_i2l (pc := 228) dX11_deliver_228 ?_
          refine q_ladd (pc := 229) dX11_deliver_229 ?_
          refine q_putL (pc := 230) dX11_deliver_230 (pX11_276 _) (State_sh (Cellar_s_state hx)) ⟨by decide, rfl⟩ (State_lt (Cellar_s_state hx)) ?_
          refine q_nameL (fun J2 j2 => ?_)
          refine q_aload_n (pc := 233) dX11_deliver_233 rfl rfl ?_
          refine q_getP (pc := 234) dX11_deliver_234 fX11_10 (Cellar_sh hx) ⟨by decide, rfl⟩ (Cellar_lt hx) (Cellar_p_state hx) ?_
          refine q_iconst (pc := 237) (v := nI 4) dX11_deliver_237 (by decide) ?_
          refine q_iload_n (pc := 238) dX11_deliver_238 rfl rfl ?_
          refine q_aload (pc := 239) dX11_deliver_239 rfl ?_
          refine q_getI (pc := 241) dX11_deliver_241 fX11_163 (Order_sh (Stateorders_s_el (Cellar_s_state hx) (Nat.lt_of_lt_of_le ho hoc))) ⟨by decide, rfl⟩ (Order_lt (Stateorders_s_el (Cellar_s_state hx) (Nat.lt_of_lt_of_le ho hoc))) ?_
          rw [hli7]
          refine q_callVF (pc := 244) dX11_deliver_244 kX11_115 (c_X8_note (Cellar_s_state hx) hm7 (by omega)) (State_sh (Cellar_s_state hx)) rfl (State_lt (Cellar_s_state hx)) ⟨Nat.le_of_ble_eq_true rfl, Nat.le_of_ble_eq_true rfl⟩ rfl rfl (Nat.le_of_ble_eq_true rfl) ?_
          show bq_W _ _ _ _ _ 247 _ [] _ _ _ _ _ _
          refine q_nameI (fun I8 e8 => ?_)
          have hC9 : CSI I8 (x + 1) (x_fill g t o l) := by rw [e8]; exact hC8.note (gn g 5) (nI 4) (nI t) (nI l)
          have hF8 : Frp x I I8 := by rw [e8]; exact hF7.jw ⟨Or.inl (by omega), Or.inl (by omega)⟩
          have hdu8 : I8 (x + 1 + 43 + o) 5 = fd g t o l := by rw [e8, jw_ne (by omega) (by omega)]; exact hdu
          refine q_aload (pc := 247) dX11_deliver_247 rfl ?_
          refine q_getI (pc := 249) dX11_deliver_249 fX11_270 (Order_sh (Stateorders_s_el (Cellar_s_state hx) (Nat.lt_of_lt_of_le ho hoc))) ⟨by decide, rfl⟩ (Order_lt (Stateorders_s_el (Cellar_s_state hx) (Nat.lt_of_lt_of_le ho hoc))) ?_
          rw [hdu8]
          exact q_iret (st := []) (pc := 252) dX11_deliver_252 rfl ⟨rfl, rfl, rfl, rfl, ⟨hC9, CSL_fill hC.2 ht hG ho10 h208 j1 j2⟩, hF8, FrmL_fill ho10 j1 j2⟩
        · replace c_89 := bq_b0.mp c_89
          refine q_bipush (pc := 92) (v := (-6)) dX11_deliver_92 (by decide) ?_
          exact q_iret (st := []) (pc := 94) dX11_deliver_94 rfl (qCoreP.same hC (by unfold n_fill; rw [hl, if_neg (not_not_intro ((nI_eq (by omega) (by decide)).mp c_35)), if_neg (not_not_intro ((nI_eq (by omega) (by decide)).mp c_46)), if_neg (Nat.not_lt.mpr ((nI_leI (by omega) (by omega)).mp c_64)), if_pos (by rw [← hstr, ← hle, ← hgr]; exact c_89)]))
      · refine q_bipush (pc := 67) (v := (-3)) dX11_deliver_67 (by decide) ?_
        exact q_iret (st := []) (pc := 69) dX11_deliver_69 rfl (qCoreP.same hC (by unfold n_fill; rw [hl, if_neg (not_not_intro ((nI_eq (by omega) (by decide)).mp c_35)), if_neg (not_not_intro ((nI_eq (by omega) (by decide)).mp c_46)), if_pos (Nat.lt_of_not_le fun q => c_64 (nI_le q (by omega)))]))
    · refine q_bipush (pc := 49) (v := (-2)) dX11_deliver_49 (by decide) ?_
      exact q_iret (st := []) (pc := 51) dX11_deliver_51 rfl (qCoreP.same hC (by unfold n_fill; rw [if_neg (not_not_intro ((nI_eq (by omega) (by decide)).mp c_35)), if_pos (fun q => c_46 (by rw [q]))]))
  · refine q_bipush (pc := 38) (v := (-5)) dX11_deliver_38 (by decide) ?_
    exact q_iret (st := []) (pc := 40) dX11_deliver_40 rfl (qCoreP.same hC (by unfold n_fill; rw [if_pos (fun q => c_35 (by rw [q]; decide))]))
theorem c_fillP {S : BqH} {n : Nat} {I : BqI} {L : BqL} {P : BqP} {x : Nat} {g : BqG} {en : Nat} (hx : oX S n P x) (hC : CS I L (x + 1) g) (hG : GI g en) (hen : en < 2 ^ 29) {t o : Int32} : bq_Sp mX11_deliver 3 60 0 0 [.ref x, .int t, .int o] S n I L P (qCoreP x I L S n P (w_fill g t o)) := by
  rcases bq_in5 t 5 (by decide) with ht | ⟨t, ht, rfl⟩
  · exact c_fillP_a hx hC hG hen ht
  · rcases bq_inO hG o with ho | ⟨o, ho, rfl⟩
    · exact c_fillP_b hx hC hG hen ht ho
    · rw [w_fill_n hG ht ho]; exact c_fillP_n hx hC hG hen ht ho
