/-! deliver leaves the plan alone -/
def Frp (x : Nat) (I I' : BqI) : Prop := ∀ a, a < x + 1 ∨ (x + 54 ≤ a ∧ a < x + 157) ∨ x + 165 ≤ a → I' a = I a
theorem Frp.rf {x : Nat} {I : BqI} : Frp x I I := fun _ _ => rfl
theorem Frp.trans {x : Nat} {I I' I'' : BqI} (h : Frp x I I') (h' : Frp x I' I'') : Frp x I I'' := fun a ha => (h' a ha).trans (h a ha)
theorem Frp.u {x : Nat} {I I' : BqI} (h : Frp x I I') {o k : Nat} {v : Int32} (ho : (x + 1 ≤ o ∧ o < x + 54) ∨ (x + 157 ≤ o ∧ o < x + 165)) : Frp x I (bq_u I' o k v) := fun a ha => (bq_u_ne (by omega)).trans (h a ha)
theorem Frp.one {x o : Nat} {I I' I'' : BqI} (h : Frp x I I') (h' : One o I' I'') (ho : (x + 1 ≤ o ∧ o < x + 54) ∨ (x + 157 ≤ o ∧ o < x + 165)) : Frp x I I'' := fun a ha => (h' a (by omega)).trans (h a ha)
def qCoreP (x : Nat) (I : BqI) (L : BqL) (S : BqH) (n : Nat) (P : BqP) (w : Int32 × BqG) : BqQ := fun r S' n' I' L' P' => r = some (.int w.1) ∧ S' = S ∧ n' = n ∧ P' = P ∧ CS I' L' (x + 1) w.2 ∧ Frp x I I' ∧ FrmL x L L'
theorem qCoreP.same {x : Nat} {I : BqI} {L : BqL} {S : BqH} {n : Nat} {P : BqP} {w : Int32 × BqG} {g : BqG} {v : Int32} (hC : CS I L (x + 1) g) (e : w = (v, g)) : qCoreP x I L S n P w (some (.int v)) S n I L P := by
  subst e; exact ⟨rfl, rfl, rfl, rfl, hC, Frp.rf, FrmL.rf⟩
def ScrP (x a : Nat) : Prop := (x + 1 ≤ a ∧ a < x + 54) ∨ (x + 157 ≤ a ∧ a < x + 165)
theorem Frp.out {x : Nat} {I I' : BqI} (h : Frp x I I') {t o : Nat} (h1 : t + 2 ≠ o + 1) (ht : ScrP x t ∧ ScrP x (t + 2)) : Frp x I (tk_out I' t o) := fun a ha => by
  unfold ScrP at ht
  rw [tk_out_ne h1 (by omega) (by omega)]; exact h a ha
theorem Frp.jw {x : Nat} {I I' : BqI} (h : Frp x I I') {j m : Nat} {d k t l : Int32} (ht : ScrP x j ∧ ScrP x (j + 1)) : Frp x I (jw_I I' j m d k t l) := fun a ha => by
  unfold ScrP at ht
  rw [jw_ne (by omega) (by omega)]; exact h a ha
theorem Frp.take {x : Nat} {I I' I'' : BqI} (h : Frp x I I') {p : Nat} (h1 : ∀ a, a ≠ p + 1 + 1 → a ≠ p + 3 → I'' a = I' a) (ht : ScrP x (p + 1 + 1) ∧ ScrP x (p + 3)) : Frp x I I'' := fun a ha => by
  unfold ScrP at ht
  rw [h1 a (by omega) (by omega)]; exact h a ha
theorem Frp.rem {x : Nat} {I I' : BqI} (h : Frp x I I') {d s : Nat} (h1 : d ≠ s) (ht : ScrP x d) : Frp x I (bl_rem I' d s 16) := fun a ha => by
  unfold ScrP at ht
  rw [(bl_rem_at (I := I') h1 16).1 a (by omega)]; exact h a ha
theorem Frp.add {x : Nat} {I I' : BqI} (h : Frp x I I') {d s : Nat} (h1 : d ≠ s) (ht : ScrP x d) : Frp x I (bl_add I' d s 16) := fun a ha => by
  unfold ScrP at ht
  rw [(bl_add_at (I := I') h1 16).1 a (by omega)]; exact h a ha
theorem Frp.wo {x : Nat} {I I' : BqI} (h : Frp x I I') {o m r : Nat} {y z : Int32} (h1 : x + 1 + 8 + 1 ≠ o + 1) : Frp x I (wo_I I' (x + 1) o m y z r) := fun a ha => by
  rw [wo_ne h1 (by omega) (by omega) (by omega) (by omega)]; exact h a ha
theorem Frp.in {x : Nat} {I I' : BqI} (h : Frp x I I') {t o : Nat} (h1 : t + 2 ≠ o + 1) (ht : ScrP x t ∧ ScrP x (t + 2)) : Frp x I (bq_u (bl_add I' (t + 2) (o + 1) 16) t 1 (nI 1)) := fun a ha => by
  unfold ScrP at ht
  rw [in_ne h1 (by omega) (by omega)]; exact h a ha
set_option maxHeartbeats 400000 in
set_option maxRecDepth 20000 in
theorem c_fillP_a {S : BqH} {n : Nat} {I : BqI} {L : BqL} {P : BqP} {x : Nat} {g : BqG} {en : Nat} (hx : oX S n P x) (hC : CS I L (x + 1) g) (hG : GI g en) (hen : en < 2 ^ 29) {t o : Int32} (ht : t < nI 0 ∨ ¬ t ≤ nI 5) : bq_Sp mX11_deliver 3 60 0 0 [.ref x, .int t, .int o] S n I L P (qCoreP x I L S n P (w_fill g t o)) := by
  refine q_entry (vs := [some (.ref x), some (.int t), some (.int o), none, none]) (by decide +kernel) (by simp) (Nat.le_of_ble_eq_true rfl) rfl ?_
  refine q_aload_n (pc := 0) dX11_deliver_0 rfl rfl ?_
  refine q_getP (pc := 1) dX11_deliver_1 fX11_10 (Cellar_sh hx) ⟨by decide, rfl⟩ (Cellar_lt hx) (Cellar_p_state hx) ?_
  refine q_iload_n (pc := 4) dX11_deliver_4 rfl rfl ?_
  refine q_callVF (pc := 5) dX11_deliver_5 kX11_65 (c_tankAt0 (Cellar_s_state hx) ht) (State_sh (Cellar_s_state hx)) rfl (State_lt (Cellar_s_state hx)) ⟨Nat.le_of_ble_eq_true rfl, Nat.le_of_ble_eq_true rfl⟩ rfl rfl (Nat.le_of_ble_eq_true rfl) ?_
  show bq_W _ _ _ _ _ 8 _ [_] _ _ _ _ _ _
  refine q_astore_nN (pc := 8) dX11_deliver_8 rfl (Nat.le_of_ble_eq_true rfl) rfl ?_
  show bq_W _ _ _ _ _ 9 [_, _, _, _, _] _ _ _ _ _ _ _
  refine q_aload_nN (pc := 9) dX11_deliver_9 rfl rfl ?_
  refine q_ifnonnullN (pc := 10) dX11_deliver_10 ?_
  refine q_iconst (pc := 13) (v := (-1)) dX11_deliver_13 (by decide) ?_
  exact q_iret (st := []) (pc := 14) dX11_deliver_14 rfl (qCoreP.same hC (by unfold w_fill; rw [if_pos ht]))
set_option maxHeartbeats 400000 in
set_option maxRecDepth 20000 in
theorem c_fillP_b {S : BqH} {n : Nat} {I : BqI} {L : BqL} {P : BqP} {x : Nat} {g : BqG} {en : Nat} (hx : oX S n P x) (hC : CS I L (x + 1) g) (hG : GI g en) (hen : en < 2 ^ 29) {t : Nat} {o : Int32} (ht : t < 6) (ho : o < 0 ∨ g 2 ≤ o ∨ nI 10 ≤ o) : bq_Sp mX11_deliver 3 60 0 0 [.ref x, .int (nI t), .int o] S n I L P (qCoreP x I L S n P (w_fill g (nI t) o)) := by
  refine q_entry (vs := [some (.ref x), some (.int (nI t)), some (.int o), none, none]) (by decide +kernel) (by simp) (Nat.le_of_ble_eq_true rfl) rfl ?_
  refine q_aload_n (pc := 0) dX11_deliver_0 rfl rfl ?_
  refine q_getP (pc := 1) dX11_deliver_1 fX11_10 (Cellar_sh hx) ⟨by decide, rfl⟩ (Cellar_lt hx) (Cellar_p_state hx) ?_
  refine q_iload_n (pc := 4) dX11_deliver_4 rfl rfl ?_
  refine q_callVF (pc := 5) dX11_deliver_5 kX11_65 (c_tankAt (Cellar_s_state hx) ht) (State_sh (Cellar_s_state hx)) rfl (State_lt (Cellar_s_state hx)) ⟨Nat.le_of_ble_eq_true rfl, Nat.le_of_ble_eq_true rfl⟩ rfl rfl (Nat.le_of_ble_eq_true rfl) ?_
  show bq_W _ _ _ _ _ 8 _ [_] _ _ _ _ _ _
  refine q_astore_n (pc := 8) dX11_deliver_8 rfl (Nat.le_of_ble_eq_true rfl) rfl ?_
  show bq_W _ _ _ _ _ 9 [_, _, _, _, _] _ _ _ _ _ _ _
  refine q_aload_n (pc := 9) dX11_deliver_9 rfl rfl ?_
  refine q_ifnonnull (pc := 10) 15 dX11_deliver_10 (by decide) ?_
  refine q_aload_n (pc := 15) dX11_deliver_15 rfl rfl ?_
  refine q_getP (pc := 16) dX11_deliver_16 fX11_10 (Cellar_sh hx) ⟨by decide, rfl⟩ (Cellar_lt hx) (Cellar_p_state hx) ?_
  refine q_iload_n (pc := 19) dX11_deliver_19 rfl rfl ?_
  refine q_callVF (pc := 20) dX11_deliver_20 kX11_175 (c_orderAt0 (Cellar_s_state hx) (hox hC ho)) (State_sh (Cellar_s_state hx)) rfl (State_lt (Cellar_s_state hx)) ⟨Nat.le_of_ble_eq_true rfl, Nat.le_of_ble_eq_true rfl⟩ rfl rfl (Nat.le_of_ble_eq_true rfl) ?_
  show bq_W _ _ _ _ _ 23 _ [_] _ _ _ _ _ _
  refine q_astoreN (pc := 23) dX11_deliver_23 (Nat.le_of_ble_eq_true rfl) rfl ?_
  show bq_W _ _ _ _ _ 25 [_, _, _, _, _] _ _ _ _ _ _ _
  refine q_aloadN (pc := 25) dX11_deliver_25 rfl ?_
  refine q_ifnullN (pc := 27) 38 dX11_deliver_27 (by decide) ?_
  refine q_bipush (pc := 38) (v := (-5)) dX11_deliver_38 (by decide) ?_
  exact q_iret (st := []) (pc := 40) dX11_deliver_40 rfl (qCoreP.same hC (by unfold w_fill; rw [if_neg (bq_tin (k := 5) ht (by decide)), if_pos ho]))
set_option maxHeartbeats 1648000 in
set_option maxRecDepth 20000 in
theorem c_fillP_n {S : BqH} {n : Nat} {I : BqI} {L : BqL} {P : BqP} {x : Nat} {g : BqG} {en : Nat} (hx : oX S n P x) (hC : CS I L (x + 1) g) (hG : GI g en) (hen : en < 2 ^ 29) {t o : Nat} (ht : t < 6) (ho : o < gn g 2) : bq_Sp mX11_deliver 3 60 0 0 [.ref x, .int (nI t), .int (nI o)] S n I L P (qCoreP x I L S n P (n_fill g t o)) := by
  refine q_entry (vs := [some (.ref x), some (.int (nI t)), some (.int (nI o)), none, none]) (by decide +kernel) (by simp) (Nat.le_of_ble_eq_true rfl) rfl ?_
  have hoc : gn g 2 ≤ 10 := hG.2.2.2.1
  have ho10 : o < 10 := by omega
  have hc : I (x + 1) 12 = nI (gn g 2) := (hC.1.at (k := 2) rfl).trans (hG.n (by decide) (by decide))
  have hrl : gn g 3 ≤ 10 := hG.2.2.2.2.1
  have ht1 : I (x + 1 + 15 + 3 * t) 1 = nI (gn g (11 + 19 * t)) := hC.1.tn1 hG ht
  have hpt : ∀ j, j < 16 → I (x + 1 + 15 + 3 * t + 1 + 1) j = nI (gp g t j) := hC.1.pn hG ht
  have htt : bq_sum (I (x + 1 + 15 + 3 * t + 1 + 1)) 16 = nI (gt g t) := bq_sum_n 16 hpt
  have hstr : bq_str (I (x + 1 + 15 + 3 * t + 1 + 1)) (I (x + 1 + 2)) = g_str g t := by
    rw [show x + 1 + 15 + 3 * t + 1 + 1 = x + 1 + (17 + 3 * t) by omega]
    exact bq_str_congr (fun j hj => hC.1.at (lc_P ht hj)) (fun j hj => hC.1.at (lc_B0 hj))
  have hod : ∀ k, k < 8 → I (x + 1 + 43 + o) k = nI (gn g (204 + 9 * o + k)) := fun k hk => by
    rw [show x + 1 + 43 + o = x + 1 + (43 + o) by omega, hC.1.at (lc_O ho10 hk)]; exact hG.n (by omega) (by omega)
  have hst : I (x + 1 + 43 + o) 4 = nI (gn g (208 + 9 * o)) := by rw [hod 4 (by decide)]; congr 2; omega
  have hli : I (x + 1 + 43 + o) 1 = nI (gn g (205 + 9 * o)) := by rw [hod 1 (by decide)]; congr 2; omega
  have hle : I (x + 1 + 43 + o) 2 = g (206 + 9 * o) := by rw [hod 2 (by decide), hG.n (k := 206 + 9 * o) (by omega) (by omega)]; congr 2; omega
  have hgr : I (x + 1 + 43 + o) 3 = g (207 + 9 * o) := by rw [hod 3 (by decide), hG.n (k := 207 + 9 * o) (by omega) (by omega)]; congr 2; omega
  obtain ⟨qt1, qt2, qt3, qt4, qt5, qt6⟩ := hG.t ht
  obtain ⟨qo1, qo2, qo3, qo4, qo5, qo6, qo7, qo8, qo9⟩ := hG.o ho10
  have hm : gn g 5 ≤ en := hG.2.2.2.2.2.2.1
  generalize hl : gn g (205 + 9 * o) = l at *
  refine q_aload_n (pc := 0) dX11_deliver_0 rfl rfl ?_
  refine q_getP (pc := 1) dX11_deliver_1 fX11_10 (Cellar_sh hx) ⟨by decide, rfl⟩ (Cellar_lt hx) (Cellar_p_state hx) ?_
  refine q_iload_n (pc := 4) dX11_deliver_4 rfl rfl ?_
  refine q_callVF (pc := 5) dX11_deliver_5 kX11_65 (c_tankAt (Cellar_s_state hx) ht) (State_sh (Cellar_s_state hx)) rfl (State_lt (Cellar_s_state hx)) ⟨Nat.le_of_ble_eq_true rfl, Nat.le_of_ble_eq_true rfl⟩ rfl rfl (Nat.le_of_ble_eq_true rfl) ?_
  show bq_W _ _ _ _ _ 8 _ [_] _ _ _ _ _ _
  refine q_astore_n (pc := 8) dX11_deliver_8 rfl (Nat.le_of_ble_eq_true rfl) rfl ?_
  show bq_W _ _ _ _ _ 9 [_, _, _, _, _] _ _ _ _ _ _ _
  refine q_aload_n (pc := 9) dX11_deliver_9 rfl rfl ?_
  refine q_ifnonnull (pc := 10) 15 dX11_deliver_10 (by decide) ?_
  refine q_aload_n (pc := 15) dX11_deliver_15 rfl rfl ?_
  refine q_getP (pc := 16) dX11_deliver_16 fX11_10 (Cellar_sh hx) ⟨by decide, rfl⟩ (Cellar_lt hx) (Cellar_p_state hx) ?_
  refine q_iload_n (pc := 19) dX11_deliver_19 rfl rfl ?_
  refine q_callVF (pc := 20) dX11_deliver_20 kX11_175 (c_orderAt (Cellar_s_state hx) hc ho hoc) (State_sh (Cellar_s_state hx)) rfl (State_lt (Cellar_s_state hx)) ⟨Nat.le_of_ble_eq_true rfl, Nat.le_of_ble_eq_true rfl⟩ rfl rfl (Nat.le_of_ble_eq_true rfl) ?_
  show bq_W _ _ _ _ _ 23 _ [_] _ _ _ _ _ _
  refine q_astore (pc := 23) dX11_deliver_23 (Nat.le_of_ble_eq_true rfl) rfl ?_
  show bq_W _ _ _ _ _ 25 [_, _, _, _, _] _ _ _ _ _ _ _
  refine q_aload (pc := 25) dX11_deliver_25 rfl ?_
  refine q_ifnull (pc := 27) dX11_deliver_27 ?_
  refine q_aload (pc := 30) dX11_deliver_30 rfl ?_
  refine q_getI (pc := 32) dX11_deliver_32 fX11_172 (Order_sh (Stateorders_s_el (Cellar_s_state hx) (Nat.lt_of_lt_of_le ho hoc))) ⟨by decide, rfl⟩ (Order_lt (Stateorders_s_el (Cellar_s_state hx) (Nat.lt_of_lt_of_le ho hoc))) ?_
  rw [hst]
  refine q_if_eq (pc := 35) 41 dX11_deliver_35 (by decide) (fun c_35 => ?_) (fun c_35 => ?_)
  · refine q_aload_n (pc := 41) dX11_deliver_41 rfl rfl ?_
    refine q_getI (pc := 42) dX11_deliver_42 fX11_101 (Tank_sh (Statetanks_s_el (Cellar_s_state hx) ht)) ⟨by decide, rfl⟩ (Tank_lt (Statetanks_s_el (Cellar_s_state hx) ht)) ?_
    rw [ht1]
    refine q_iconst (pc := 45) (v := nI 1) dX11_deliver_45 (by decide) ?_
    refine q_icmp_eq (pc := 46) 52 dX11_deliver_46 (by decide) (fun c_46 => ?_) (fun c_46 => ?_)
    · refine q_aload_n (pc := 52) dX11_deliver_52 rfl rfl ?_
      refine q_getP (pc := 53) dX11_deliver_53 fX11_73 (Tank_sh (Statetanks_s_el (Cellar_s_state hx) ht)) ⟨by decide, rfl⟩ (Tank_lt (Statetanks_s_el (Cellar_s_state hx) ht)) (Tank_p_content (Statetanks_s_el (Cellar_s_state hx) ht)) ?_
      refine q_callVF (pc := 56) dX11_deliver_56 kX11_79 (c_X0_total (Tank_s_content (Statetanks_s_el (Cellar_s_state hx) ht))) (Blend_sh (Tank_s_content (Statetanks_s_el (Cellar_s_state hx) ht))) rfl (Blend_lt (Tank_s_content (Statetanks_s_el (Cellar_s_state hx) ht))) ⟨Nat.le_of_ble_eq_true rfl, Nat.le_of_ble_eq_true rfl⟩ rfl rfl (Nat.le_of_ble_eq_true rfl) ?_
      show bq_W _ _ _ _ _ 59 _ [_] _ _ _ _ _ _
      rw [htt]
      refine q_aload (pc := 59) dX11_deliver_59 rfl ?_
      refine q_getI (pc := 61) dX11_deliver_61 fX11_163 (Order_sh (Stateorders_s_el (Cellar_s_state hx) (Nat.lt_of_lt_of_le ho hoc))) ⟨by decide, rfl⟩ (Order_lt (Stateorders_s_el (Cellar_s_state hx) (Nat.lt_of_lt_of_le ho hoc))) ?_
      rw [hli]
      refine q_icmp_ge (pc := 64) 70 dX11_deliver_64 (by decide) (fun c_64 => ?_) (fun c_64 => ?_)
      · refine q_aload (pc := 70) dX11_deliver_70 rfl ?_
        refine q_aload_n (pc := 72) dX11_deliver_72 rfl rfl ?_
        refine q_getP (pc := 73) dX11_deliver_73 fX11_73 (Tank_sh (Statetanks_s_el (Cellar_s_state hx) ht)) ⟨by decide, rfl⟩ (Tank_lt (Statetanks_s_el (Cellar_s_state hx) ht)) (Tank_p_content (Statetanks_s_el (Cellar_s_state hx) ht)) ?_
        refine q_aload_n (pc := 76) dX11_deliver_76 rfl rfl ?_
        refine q_getP (pc := 77) dX11_deliver_77 fX11_10 (Cellar_sh hx) ⟨by decide, rfl⟩ (Cellar_lt hx) (Cellar_p_state hx) ?_
        refine q_getP (pc := 80) dX11_deliver_80 fX11_233 (State_sh (Cellar_s_state hx)) ⟨by decide, rfl⟩ (State_lt (Cellar_s_state hx)) (State_p_strengths (Cellar_s_state hx)) ?_
        refine q_callVF (pc := 83) dX11_deliver_83 kX11_236 (c_X0_strength (Tank_s_content (Statetanks_s_el (Cellar_s_state hx) ht)) (State_s_strengths (Cellar_s_state hx))) (Blend_sh (Tank_s_content (Statetanks_s_el (Cellar_s_state hx) ht))) rfl (Blend_lt (Tank_s_content (Statetanks_s_el (Cellar_s_state hx) ht))) ⟨Nat.le_of_ble_eq_true rfl, Nat.le_of_ble_eq_true rfl⟩ rfl rfl (Nat.le_of_ble_eq_true rfl) ?_
        show bq_W _ _ _ _ _ 86 _ [_, _] _ _ _ _ _ _
        refine q_callVF (pc := 86) dX11_deliver_86 kX11_360 (c_X4_allows (Stateorders_s_el (Cellar_s_state hx) (Nat.lt_of_lt_of_le ho hoc))) (Order_sh (Stateorders_s_el (Cellar_s_state hx) (Nat.lt_of_lt_of_le ho hoc))) rfl (Order_lt (Stateorders_s_el (Cellar_s_state hx) (Nat.lt_of_lt_of_le ho hoc))) ⟨Nat.le_of_ble_eq_true rfl, Nat.le_of_ble_eq_true rfl⟩ rfl rfl (Nat.le_of_ble_eq_true rfl) ?_
        show bq_W _ _ _ _ _ 89 _ [_] _ _ _ _ _ _
        refine q_if_ne (pc := 89) 95 dX11_deliver_89 (by decide) (fun c_89 => ?_) (fun c_89 => ?_)
        · replace c_89 := bq_bn.mp c_89
          have hge : l ≤ gt g t := (nI_leI (by omega) (by omega)).mp c_64
          have hal : ¬ g_str g t < g (206 + 9 * o) ∧ ¬ g (207 + 9 * o) < g_str g t := by rw [hstr, hle, hgr] at c_89; exact c_89
          rw [show n_fill g t o = (fd g t o l, x_fill g t o l) from by unfold n_fill; rw [hl, if_neg (not_not_intro ((nI_eq (by omega) (by decide)).mp c_35)), if_neg (not_not_intro ((nI_eq (by omega) (by decide)).mp c_46)), if_neg (Nat.not_lt.mpr hge), if_neg (not_not_intro hal)]]
          have h208 : gn g (208 + 9 * o) = 0 := (nI_eq (by omega) (by decide)).mp c_35
          have hpos : 0 < gt g t := by omega
          have htb : gt g t ≤ 9999 := by omega
          obtain ⟨nt1, nt2⟩ := npt_in (F := gp g t) hge hpos
          refine q_aload_n (pc := 95) dX11_deliver_95 rfl rfl ?_
          refine q_getP (pc := 96) dX11_deliver_96 fX11_55 (Cellar_sh hx) ⟨by decide, rfl⟩ (Cellar_lt hx) (Cellar_p_taken hx) ?_
          refine q_aload_n (pc := 99) dX11_deliver_99 rfl rfl ?_
          refine q_getP (pc := 100) dX11_deliver_100 fX11_73 (Tank_sh (Statetanks_s_el (Cellar_s_state hx) ht)) ⟨by decide, rfl⟩ (Tank_lt (Statetanks_s_el (Cellar_s_state hx) ht)) (Tank_p_content (Statetanks_s_el (Cellar_s_state hx) ht)) ?_
          refine q_aload (pc := 103) dX11_deliver_103 rfl ?_
          refine q_getI (pc := 105) dX11_deliver_105 fX11_163 (Order_sh (Stateorders_s_el (Cellar_s_state hx) (Nat.lt_of_lt_of_le ho hoc))) ⟨by decide, rfl⟩ (Order_lt (Stateorders_s_el (Cellar_s_state hx) (Nat.lt_of_lt_of_le ho hoc))) ?_
          rw [hli]
          refine q_callV (pc := 108) dX11_deliver_108 kX11_339 (c_take (Cellar_s_taken hx) (Tank_s_content (Statetanks_s_el (Cellar_s_state hx) ht)) (by omega) (by omega) (pm_n hpt hge hpos htb).2 (by omega)) (Portion_sh (Cellar_s_taken hx)) rfl (Portion_lt (Cellar_s_taken hx)) ⟨Nat.le_of_ble_eq_true rfl, Nat.le_of_ble_eq_true rfl⟩ rfl rfl (Nat.le_of_ble_eq_true rfl) ?_
          rintro _ _ _ I1 L1 P1 ⟨rfl, rfl, rfl, rfl, rfl, f1, t1⟩
          show bq_W _ _ _ _ _ 111 _ [] _ _ _ _ _ _
          have hC1 : CSI I1 (x + 1) g := hC.1.fr (fun a ha => f1 _ (by omega) (by omega))
          have hT1 : ∀ j, j < 16 → I1 (x + 157 + 1 + 1) j = tk g t l j := fun j hj => (t1 j hj).trans (pt_n hpt hge hpos htb j hj)
          have hF1 : Frp x I I1 := Frp.rf.take (p := x + 157) f1 ⟨Or.inr (by omega), Or.inr (by omega)⟩
          refine q_aload_n (pc := 111) dX11_deliver_111 rfl rfl ?_
          refine q_aload_n (pc := 112) dX11_deliver_112 rfl rfl ?_
          refine q_getP (pc := 113) dX11_deliver_113 fX11_55 (Cellar_sh hx) ⟨by decide, rfl⟩ (Cellar_lt hx) (Cellar_p_taken hx) ?_
          refine q_getP (pc := 116) dX11_deliver_116 fX11_343 (Portion_sh (Cellar_s_taken hx)) ⟨by decide, rfl⟩ (Portion_lt (Cellar_s_taken hx)) (Portion_p_blend (Cellar_s_taken hx)) ?_
          refine q_callVF (pc := 119) dX11_deliver_119 kX11_346 (c_X9_giveOut (Statetanks_s_el (Cellar_s_state hx) ht) (Portion_s_blend (Cellar_s_taken hx))) (Tank_sh (Statetanks_s_el (Cellar_s_state hx) ht)) rfl (Tank_lt (Statetanks_s_el (Cellar_s_state hx) ht)) ⟨Nat.le_of_ble_eq_true rfl, Nat.le_of_ble_eq_true rfl⟩ rfl rfl (Nat.le_of_ble_eq_true rfl) ?_
          show bq_W _ _ _ _ _ 122 _ [] _ _ _ _ _ _
          refine q_nameI (fun I2 e2 => ?_)
          have hC2 : CSI I2 (x + 1) (g_out g t (tk g t l)) := by rw [e2]; exact hC1.out ht (Or.inr (by omega)) hT1
          have hF2 : Frp x I I2 := by rw [e2]; exact hF1.out (by omega) ⟨Or.inl (by omega), Or.inl (by omega)⟩
          have hT2 : ∀ j, j < 16 → I2 (x + 157 + 1 + 1) j = tk g t l j := fun j hj => by rw [e2, tk_out_ne (by omega) (by omega) (by omega)]; exact hT1 j hj
          refine q_aload_n (pc := 122) dX11_deliver_122 rfl rfl ?_
          refine q_getP (pc := 123) dX11_deliver_123 fX11_10 (Cellar_sh hx) ⟨by decide, rfl⟩ (Cellar_lt hx) (Cellar_p_state hx) ?_
          refine q_getP (pc := 126) dX11_deliver_126 fX11_251 (State_sh (Cellar_s_state hx)) ⟨by decide, rfl⟩ (State_lt (Cellar_s_state hx)) (State_p_filled (Cellar_s_state hx)) ?_
          refine q_aload_n (pc := 129) dX11_deliver_129 rfl rfl ?_
          refine q_getP (pc := 130) dX11_deliver_130 fX11_55 (Cellar_sh hx) ⟨by decide, rfl⟩ (Cellar_lt hx) (Cellar_p_taken hx) ?_
          refine q_getP (pc := 133) dX11_deliver_133 fX11_343 (Portion_sh (Cellar_s_taken hx)) ⟨by decide, rfl⟩ (Portion_lt (Cellar_s_taken hx)) (Portion_p_blend (Cellar_s_taken hx)) ?_
          refine q_callVF (pc := 136) dX11_deliver_136 kX11_363 (c_X0_add (State_s_filled (Cellar_s_state hx)) (Portion_s_blend (Cellar_s_taken hx))) (Blend_sh (State_s_filled (Cellar_s_state hx))) rfl (Blend_lt (State_s_filled (Cellar_s_state hx))) ⟨Nat.le_of_ble_eq_true rfl, Nat.le_of_ble_eq_true rfl⟩ rfl rfl (Nat.le_of_ble_eq_true rfl) ?_
          show bq_W _ _ _ _ _ 139 _ [] _ _ _ _ _ _
          refine q_nameI (fun I3 e3 => ?_)
          have hC3 : CSI I3 (x + 1) (x_fill0 g t l) := by rw [e3]; exact hC2.badd (i := 2) (by decide) (by show x + 1 + 7 ≠ _; omega) hT2
          have hF3 : Frp x I I3 := by rw [e3]; exact hF2.add (by omega) (Or.inl (by omega))
          have hT3 : ∀ j, j < 16 → I3 (x + 157 + 1 + 1) j = tk g t l j := fun j hj => by rw [e3, (bl_add_at (I := I2) (by omega) 16).1 _ (by omega)]; exact hT2 j hj
          refine q_aload (pc := 139) dX11_deliver_139 rfl ?_
          refine q_iconst (pc := 141) (v := nI 1) dX11_deliver_141 (by decide) ?_
          refine q_putI (pc := 142) dX11_deliver_142 (pX11_172 _) (Order_sh (Stateorders_s_el (Cellar_s_state hx) (Nat.lt_of_lt_of_le ho hoc))) ⟨by decide, rfl⟩ (Order_lt (Stateorders_s_el (Cellar_s_state hx) (Nat.lt_of_lt_of_le ho hoc))) ?_
          refine q_nameI (fun I4 e4 => ?_)
          have hC4 : CSI I4 (x + 1) (bq_r (x_fill0 g t l) (208 + 9 * o) (nI 1)) := by rw [e4]; rw [show x + 1 + 43 + o = x + 1 + (43 + o) by omega]; exact hC3.u (show lc (208 + 9 * o) = some (43 + o, 4) from by rw [show 208 + 9 * o = 204 + 9 * o + 4 by omega]; exact lc_O ho10 (by decide)) _
          have hF4 : Frp x I I4 := by rw [e4]; exact hF3.u (Or.inl (by omega))
          have hT4 : ∀ j, j < 16 → I4 (x + 157 + 1 + 1) j = tk g t l j := fun j hj => by rw [e4, bq_u_ne (by omega)]; exact hT3 j hj
          refine q_aload (pc := 145) dX11_deliver_145 rfl ?_
          refine q_aload_n (pc := 147) dX11_deliver_147 rfl rfl ?_
          refine q_getP (pc := 148) dX11_deliver_148 fX11_10 (Cellar_sh hx) ⟨by decide, rfl⟩ (Cellar_lt hx) (Cellar_p_state hx) ?_
          refine q_getI (pc := 151) dX11_deliver_151 fX11_157 (State_sh (Cellar_s_state hx)) ⟨by decide, rfl⟩ (State_lt (Cellar_s_state hx)) ?_
          refine q_putI (pc := 154) dX11_deliver_154 (pX11_366 _) (Order_sh (Stateorders_s_el (Cellar_s_state hx) (Nat.lt_of_lt_of_le ho hoc))) ⟨by decide, rfl⟩ (Order_lt (Stateorders_s_el (Cellar_s_state hx) (Nat.lt_of_lt_of_le ho hoc))) ?_
          refine q_nameI (fun I5 e5 => ?_)
          have hC5 : CSI I5 (x + 1) (x_fill1 g t o l) := by rw [e5]; rw [show I4 (x + 1) 0 = g 0 from by rw [hC4.at (k := 0) rfl, bq_r_ne (by omega)]; exact x_fill0_n ht (by omega)]; rw [show x + 1 + 43 + o = x + 1 + (43 + o) by omega]; exact hC4.u (show lc (210 + 9 * o) = some (43 + o, 6) from by rw [show 210 + 9 * o = 204 + 9 * o + 6 by omega]; exact lc_O ho10 (by decide)) _
          have hF5 : Frp x I I5 := by rw [e5]; exact hF4.u (Or.inl (by omega))
          have hT5 : ∀ j, j < 16 → I5 (x + 157 + 1 + 1) j = tk g t l j := fun j hj => by rw [e5, bq_u_ne (by omega)]; exact hT4 j hj
          refine q_aload (pc := 157) dX11_deliver_157 rfl ?_
          refine q_aload_n (pc := 159) dX11_deliver_159 rfl rfl ?_
          refine q_getP (pc := 160) dX11_deliver_160 fX11_55 (Cellar_sh hx) ⟨by decide, rfl⟩ (Cellar_lt hx) (Cellar_p_taken hx) ?_
          refine q_getP (pc := 163) dX11_deliver_163 fX11_343 (Portion_sh (Cellar_s_taken hx)) ⟨by decide, rfl⟩ (Portion_lt (Cellar_s_taken hx)) (Portion_p_blend (Cellar_s_taken hx)) ?_
          refine q_aload_n (pc := 166) dX11_deliver_166 rfl rfl ?_
          refine q_getP (pc := 167) dX11_deliver_167 fX11_10 (Cellar_sh hx) ⟨by decide, rfl⟩ (Cellar_lt hx) (Cellar_p_state hx) ?_
          refine q_getP (pc := 170) dX11_deliver_170 fX11_233 (State_sh (Cellar_s_state hx)) ⟨by decide, rfl⟩ (State_lt (Cellar_s_state hx)) (State_p_strengths (Cellar_s_state hx)) ?_
          refine q_callVF (pc := 173) dX11_deliver_173 kX11_236 (c_X0_strength (Portion_s_blend (Cellar_s_taken hx)) (State_s_strengths (Cellar_s_state hx))) (Blend_sh (Portion_s_blend (Cellar_s_taken hx))) rfl (Blend_lt (Portion_s_blend (Cellar_s_taken hx))) ⟨Nat.le_of_ble_eq_true rfl, Nat.le_of_ble_eq_true rfl⟩ rfl rfl (Nat.le_of_ble_eq_true rfl) ?_
          show bq_W _ _ _ _ _ 176 _ [_, _] _ _ _ _ _ _
          rw [show bq_str (I5 (x + 157 + 1 + 1)) (I5 (x + 1 + 2)) = fs g t l from bq_str_congr hT5 (fun j hj => by rw [hC5.at (lc_B0 hj)]; exact x_fill1_n ht (by omega) (by omega) (by omega))]
          refine q_putI (pc := 176) dX11_deliver_176 (pX11_369 _) (Order_sh (Stateorders_s_el (Cellar_s_state hx) (Nat.lt_of_lt_of_le ho hoc))) ⟨by decide, rfl⟩ (Order_lt (Stateorders_s_el (Cellar_s_state hx) (Nat.lt_of_lt_of_le ho hoc))) ?_
          refine q_nameI (fun I6 e6 => ?_)
          have hC6 : CSI I6 (x + 1) (bq_r (x_fill1 g t o l) (211 + 9 * o) (fs g t l)) := by rw [e6]; rw [show x + 1 + 43 + o = x + 1 + (43 + o) by omega]; exact hC5.u (show lc (211 + 9 * o) = some (43 + o, 7) from by rw [show 211 + 9 * o = 204 + 9 * o + 7 by omega]; exact lc_O ho10 (by decide)) _
          have hF6 : Frp x I I6 := by rw [e6]; exact hF5.u (Or.inl (by omega))
          have hT6 : ∀ j, j < 16 → I6 (x + 157 + 1 + 1) j = tk g t l j := fun j hj => by rw [e6, bq_u_ne (by omega)]; exact hT5 j hj
          refine q_aload (pc := 179) dX11_deliver_179 rfl ?_
          refine q_aload_n (pc := 181) dX11_deliver_181 rfl rfl ?_
          refine q_getP (pc := 182) dX11_deliver_182 fX11_55 (Cellar_sh hx) ⟨by decide, rfl⟩ (Cellar_lt hx) (Cellar_p_taken hx) ?_
          refine q_getP (pc := 185) dX11_deliver_185 fX11_343 (Portion_sh (Cellar_s_taken hx)) ⟨by decide, rfl⟩ (Portion_lt (Cellar_s_taken hx)) (Portion_p_blend (Cellar_s_taken hx)) ?_
          refine q_aload_n (pc := 188) dX11_deliver_188 rfl rfl ?_
          refine q_getP (pc := 189) dX11_deliver_189 fX11_10 (Cellar_sh hx) ⟨by decide, rfl⟩ (Cellar_lt hx) (Cellar_p_state hx) ?_
          refine q_getP (pc := 192) dX11_deliver_192 fX11_233 (State_sh (Cellar_s_state hx)) ⟨by decide, rfl⟩ (State_lt (Cellar_s_state hx)) (State_p_strengths (Cellar_s_state hx)) ?_
          refine q_callVF (pc := 195) dX11_deliver_195 kX11_312 (c_X0_alcohol (Portion_s_blend (Cellar_s_taken hx)) (State_s_strengths (Cellar_s_state hx))) (Blend_sh (Portion_s_blend (Cellar_s_taken hx))) rfl (Blend_lt (Portion_s_blend (Cellar_s_taken hx))) ⟨Nat.le_of_ble_eq_true rfl, Nat.le_of_ble_eq_true rfl⟩ rfl rfl (Nat.le_of_ble_eq_true rfl) ?_
          show bq_W _ _ _ _ _ 198 _ [_, _] _ _ _ _ _ _
          rw [show bq_alc (I6 (x + 157 + 1 + 1)) (I6 (x + 1 + 2)) 16 = (nI (fa g t l)).toInt64 from by rw [nI_64 (fa_lt hG hge hpos htb), fa]; exact bq_alc_n 16 hT6 (fun j hj => by rw [hC6.at (lc_B0 hj), bq_r_ne (by omega), x_fill1_n ht (by omega) (by omega) (by omega)]; exact hG.n (by omega) (by omega)) (fun j hj => hG.lt (by omega) (by omega)) (fun j hj => by have := (nt1 j hj).2.1; have := ns_ge (F := gp g t) 16 hj; have e : ns (gp g t) 16 = gt g t := rfl; omega)]
          refine q_putL (pc := 198) dX11_deliver_198 (pX11_372 _) (Order_sh (Stateorders_s_el (Cellar_s_state hx) (Nat.lt_of_lt_of_le ho hoc))) ⟨by decide, rfl⟩ (Order_lt (Stateorders_s_el (Cellar_s_state hx) (Nat.lt_of_lt_of_le ho hoc))) ?_
          refine q_nameL (fun J1 j1 => ?_)
          have hC7 : CSI I6 (x + 1) (x_fill2 g t o l) := hC6.ir (lc_A ho10) _
          refine q_aload (pc := 201) dX11_deliver_201 rfl ?_
          refine q_aload_n (pc := 203) dX11_deliver_203 rfl rfl ?_
          refine q_getP (pc := 204) dX11_deliver_204 fX11_10 (Cellar_sh hx) ⟨by decide, rfl⟩ (Cellar_lt hx) (Cellar_p_state hx) ?_
          refine q_aload (pc := 207) dX11_deliver_207 rfl ?_
          refine q_callVF (pc := 209) dX11_deliver_209 kX11_375 (c_X8_dutyOn (Cellar_s_state hx) (Stateorders_s_el (Cellar_s_state hx) (Nat.lt_of_lt_of_le ho hoc)) (show I6 (x + 1) 10 = nI (gn g 3) from by rw [hC7.at (k := 3) rfl, x_fill2_n ht (by omega) (by omega)]; exact hG.n (by decide) (by decide)) hrl) (State_sh (Cellar_s_state hx)) rfl (State_lt (Cellar_s_state hx)) ⟨Nat.le_of_ble_eq_true rfl, Nat.le_of_ble_eq_true rfl⟩ rfl rfl (Nat.le_of_ble_eq_true rfl) ?_
          show bq_W _ _ _ _ _ 212 _ [_, _] _ _ _ _ _ _
          rw [show du (fun i => I6 (x + 1 + 33 + i) 2) (rfx (fun i => I6 (x + 1 + 33 + i) 0) (fun i => I6 (x + 1 + 33 + i) 1) (I6 (x + 1 + 43 + o) 6) (I6 (x + 1 + 43 + o) 7) (gn g 3)) (J1 (x + 1 + 43 + o) 8) = fd g t o l from fd_eq hC7 ht ho10 hrl (by rw [j1, bq_u_at])]
          refine q_putI (pc := 212) dX11_deliver_212 (pX11_270 _) (Order_sh (Stateorders_s_el (Cellar_s_state hx) (Nat.lt_of_lt_of_le ho hoc))) ⟨by decide, rfl⟩ (Order_lt (Stateorders_s_el (Cellar_s_state hx) (Nat.lt_of_lt_of_le ho hoc))) ?_
          refine q_nameI (fun I7 e7 => ?_)
          have hC8 : CSI I7 (x + 1) (x_fill3 g t o l) := by rw [e7]; rw [show x + 1 + 43 + o = x + 1 + (43 + o) by omega]; exact hC7.u (show lc (209 + 9 * o) = some (43 + o, 5) from by rw [show 209 + 9 * o = 204 + 9 * o + 5 by omega]; exact lc_O ho10 (by decide)) _
          have hF7 : Frp x I I7 := by rw [e7]; exact hF6.u (Or.inl (by omega))
          have hdu : I7 (x + 1 + 43 + o) 5 = fd g t o l := by rw [e7, bq_u_at]
          have hli7 : I7 (x + 1 + 43 + o) 1 = nI l := by rw [show x + 1 + 43 + o = x + 1 + (43 + o) by omega, hC8.at (lc_O ho10 (k := 1) (by decide))]; rw [show 204 + 9 * o + 1 = 205 + 9 * o by omega, x_fill3_n ht (by omega) (by omega), ← hl]; exact hG.n (by omega) (by omega)
          have hm7 : I7 (x + 1 + 13) 0 = nI (gn g 5) := by rw [hC8.at (k := 5) rfl, x_fill3_n ht (by omega) (by omega)]; exact hG.n (by decide) (by decide)
          refine q_aload_n (pc := 215) dX11_deliver_215 rfl rfl ?_
          refine q_getP (pc := 216) dX11_deliver_216 fX11_10 (Cellar_sh hx) ⟨by decide, rfl⟩ (Cellar_lt hx) (Cellar_p_state hx) ?_
          refine q_dup (pc := 219) dX11_deliver_219 rfl ?_
          refine q_getL (pc := 220) dX11_deliver_220 fX11_276 (State_sh (Cellar_s_state hx)) ⟨by decide, rfl⟩ (State_lt (Cellar_s_state hx)) ?_
          refine q_aload (pc := 223) dX11_deliver_223 rfl ?_
          refine q_getI (pc := 225) dX11_deliver_225 fX11_270 (Order_sh (Stateorders_s_el (Cellar_s_state hx) (Nat.lt_of_lt_of_le ho hoc))) ⟨by decide, rfl⟩ (Order_lt (Stateorders_s_el (Cellar_s_state hx) (Nat.lt_of_lt_of_le ho hoc))) ?_
          rw [hdu]
          refine q_i2l (pc := 228) dX11_deliver_228 ?_
          refine q_ladd (pc := 229) dX11_deliver_229 ?_
          refine q_putL (pc := 230) dX11_deliver_230 (pX11_276 _) (State_sh (Cellar_s_state hx)) ⟨by decide, rfl⟩ (State_lt (Cellar_s_state hx)) ?_
          refine q_nameL (fun J2 j2 => ?_)
          refine q_aload_n (pc := 233) dX11_deliver_233 rfl rfl ?_
          refine q_getP (pc := 234) dX11_deliver_234 fX11_10 (Cellar_sh hx) ⟨by decide, rfl⟩ (Cellar_lt hx) (Cellar_p_state hx) ?_
          refine q_iconst (pc := 237) (v := nI 4) dX11_deliver_237 (by decide) ?_
          refine q_iload_n (pc := 238) dX11_deliver_238 rfl rfl ?_
          refine q_aload (pc := 239) dX11_deliver_239 rfl ?_
          refine q_getI (pc := 241) dX11_deliver_241 fX11_163 (Order_sh (Stateorders_s_el (Cellar_s_state hx) (Nat.lt_of_lt_of_le ho hoc))) ⟨by decide, rfl⟩ (Order_lt (Stateorders_s_el (Cellar_s_state hx) (Nat.lt_of_lt_of_le ho hoc))) ?_
          rw [hli7]
          refine q_callVF (pc := 244) dX11_deliver_244 kX11_115 (c_X8_note (Cellar_s_state hx) hm7 (by omega)) (State_sh (Cellar_s_state hx)) rfl (State_lt (Cellar_s_state hx)) ⟨Nat.le_of_ble_eq_true rfl, Nat.le_of_ble_eq_true rfl⟩ rfl rfl (Nat.le_of_ble_eq_true rfl) ?_
          show bq_W _ _ _ _ _ 247 _ [] _ _ _ _ _ _
          refine q_nameI (fun I8 e8 => ?_)
          have hC9 : CSI I8 (x + 1) (x_fill g t o l) := by rw [e8]; exact hC8.note (gn g 5) (nI 4) (nI t) (nI l)
          have hF8 : Frp x I I8 := by rw [e8]; exact hF7.jw ⟨Or.inl (by omega), Or.inl (by omega)⟩
          have hdu8 : I8 (x + 1 + 43 + o) 5 = fd g t o l := by rw [e8, jw_ne (by omega) (by omega)]; exact hdu
          refine q_aload (pc := 247) dX11_deliver_247 rfl ?_
          refine q_getI (pc := 249) dX11_deliver_249 fX11_270 (Order_sh (Stateorders_s_el (Cellar_s_state hx) (Nat.lt_of_lt_of_le ho hoc))) ⟨by decide, rfl⟩ (Order_lt (Stateorders_s_el (Cellar_s_state hx) (Nat.lt_of_lt_of_le ho hoc))) ?_
          rw [hdu8]
          exact q_iret (st := []) (pc := 252) dX11_deliver_252 rfl ⟨rfl, rfl, rfl, rfl, ⟨hC9, CSL_fill hC.2 ht hG ho10 h208 j1 j2⟩, hF8, FrmL_fill ho10 j1 j2⟩
        · replace c_89 := bq_b0.mp c_89
          refine q_bipush (pc := 92) (v := (-6)) dX11_deliver_92 (by decide) ?_
          exact q_iret (st := []) (pc := 94) dX11_deliver_94 rfl (qCoreP.same hC (by unfold n_fill; rw [hl, if_neg (not_not_intro ((nI_eq (by omega) (by decide)).mp c_35)), if_neg (not_not_intro ((nI_eq (by omega) (by decide)).mp c_46)), if_neg (Nat.not_lt.mpr ((nI_leI (by omega) (by omega)).mp c_64)), if_pos (by rw [← hstr, ← hle, ← hgr]; exact c_89)]))
      · refine q_bipush (pc := 67) (v := (-3)) dX11_deliver_67 (by decide) ?_
        exact q_iret (st := []) (pc := 69) dX11_deliver_69 rfl (qCoreP.same hC (by unfold n_fill; rw [hl, if_neg (not_not_intro ((nI_eq (by omega) (by decide)).mp c_35)), if_neg (not_not_intro ((nI_eq (by omega) (by decide)).mp c_46)), if_pos (Nat.lt_of_not_le fun q => c_64 (nI_le q (by omega)))]))
    · refine q_bipush (pc := 49) (v := (-2)) dX11_deliver_49 (by decide) ?_
      exact q_iret (st := []) (pc := 51) dX11_deliver_51 rfl (qCoreP.same hC (by unfold n_fill; rw [if_neg (not_not_intro ((nI_eq (by omega) (by decide)).mp c_35)), if_pos (fun q => c_46 (by rw [q]))]))
  · refine q_bipush (pc := 38) (v := (-5)) dX11_deliver_38 (by decide) ?_
    exact q_iret (st := []) (pc := 40) dX11_deliver_40 rfl (qCoreP.same hC (by unfold n_fill; rw [if_pos (fun q => c_35 (by rw [q]; decide))]))
theorem c_fillP {S : BqH} {n : Nat} {I : BqI} {L : BqL} {P : BqP} {x : Nat} {g : BqG} {en : Nat} (hx : oX S n P x) (hC : CS I L (x + 1) g) (hG : GI g en) (hen : en < 2 ^ 29) {t o : Int32} : bq_Sp mX11_deliver 3 60 0 0 [.ref x, .int t, .int o] S n I L P (qCoreP x I L S n P (w_fill g t o)) := by
  rcases bq_in5 t 5 (by decide) with ht | ⟨t, ht, rfl⟩
  · exact c_fillP_a hx hC hG hen ht
  · rcases bq_inO hG o with ho | ⟨o, ho, rfl⟩
    · exact c_fillP_b hx hC hG hen ht ho
    · rw [w_fill_n hG ht ho]; exact c_fillP_n hx hC hG hen ht ho
/-! the accounts -/
def ac (g : BqG) (q b : Nat) : Nat := if q = 1 then gb g b else gn g (124 + 5 * b + (if q < 1 then 1 else q))
theorem ac_b {g : BqG} {en b q : Nat} (hG : GI g en) (hb : b < 16) (hq : q ≤ 3) : ac g q b ≤ 9999 ∧ (gn g 1 ≤ b → ac g q b = 0) := by
  have h := hG.2.2.2.2.2.2.2.2.1 b hb
  unfold ac
  by_cases c : q = 1
  · rw [if_pos c]
    refine ⟨by omega, fun z => ?_⟩
    have := h.2.2.2 z
    omega
  · rw [if_neg c]
    by_cases c0 : q < 1
    · rw [if_pos c0, show 124 + 5 * b + 1 = 125 + 5 * b by omega]
      exact ⟨h.2.2.1, fun z => h.2.2.2 z⟩
    · rw [if_neg c0]
      have hq2 : q = 2 ∨ q = 3 := by omega
      rcases hq2 with e | e
      · rw [e, show 124 + 5 * b + 2 = 126 + 5 * b by omega]
        refine ⟨by omega, fun z => ?_⟩
        have := h.2.2.2 z
        omega
      · rw [e, show 124 + 5 * b + 3 = 127 + 5 * b by omega]
        refine ⟨by omega, fun z => ?_⟩
        have := h.2.2.2 z
        omega
theorem gb_sum {g : BqG} {en b : Nat} (hG : GI g en) (hb : b < 16) : bq_sum (fun i => g (13 + 19 * i + b)) 6 = nI (gb g b) :=
  bq_sum_n 6 (fun j hj => hG.n (by omega) (by omega))
theorem ac_of {g : BqG} {en b q : Nat} (hG : GI g en) (hb : b < 16) (hq : q ≤ 3) : n_ofBatch g b (nI (1 + q)) = nI (ac g q b) := by
  by_cases c : q = 1
  · subst c
    unfold n_ofBatch ac
    rw [if_neg (by decide), if_neg (by decide), if_pos rfl, if_pos rfl]
    exact gb_sum hG hb
  · rw [n_ofBatch_at (q := 1 + q) (by omega)]
    unfold ac
    rw [if_neg c, show (if 1 + q < 2 then 1 + q else 1 + q - 1) = (if q < 1 then 1 else q) from by split <;> split <;> omega]
    refine hG.n ?_ ?_ <;> split <;> omega
theorem ns_end {F : Nat → Nat} {c : Nat} (h : ∀ j, c ≤ j → j < 16 → F j = 0) : ∀ d, c + d ≤ 16 → ns F (c + d) = ns F c
  | 0, _ => rfl
  | d + 1, hd => by
    show ns F (c + d) + F (c + d) = _
    rw [ns_end h d (by omega), h (c + d) (by omega) (by omega)]
    rfl
theorem ns_16 {F : Nat → Nat} {c : Nat} (hc : c ≤ 16) (h : ∀ j, c ≤ j → j < 16 → F j = 0) : ns F c = ns F 16 := by
  have e := ns_end h (16 - c) (by omega)
  rw [show c + (16 - c) = 16 by omega] at e
  exact e.symm
def oL (g : BqG) : Nat → Nat
  | 0 => 0
  | i + 1 => if g (208 + 9 * i) = 0 then oL g i + gn g (205 + 9 * i) else oL g i
theorem oL_le {g : BqG} {en : Nat} (hG : GI g en) : ∀ k, k ≤ 10 → oL g k ≤ 9999 * k
  | 0, _ => Nat.le_refl _
  | k + 1, hk => by
    have ih := oL_le hG k (by omega)
    have ho := (hG.o (o := k) (by omega)).1
    show (if g (208 + 9 * k) = 0 then oL g k + gn g (205 + 9 * k) else oL g k) ≤ _
    split <;> omega
def n_account (g : BqG) (k : Nat) : Int64 := if k < 3 then lN (ns (ac g k) 16) else if k < 7 then (g (324 + k - 3)).toInt64 else if k < 11 then lN (ns (fun b => ac g (k - 7) b * gn g (124 + 5 * b)) 16) else if k = 11 then lN (bq_ct (fun i => g (208 + 9 * i)) 0 (gn g 2)) else lN (oL g (gn g 2))
def r_account (g : BqG) (k : Int32) : Int64 := if k < nI 0 ∨ ¬ k ≤ nI 12 then (-9223372036854775808) else n_account g k.toNatClampNeg
theorem r_account_out {g : BqG} {k : Int32} (h : k < nI 0 ∨ ¬ k ≤ nI 12) : r_account g k = (-9223372036854775808) := if_pos h
theorem r_account_in {g : BqG} {k : Nat} (h : k ≤ 12) : r_account g (nI k) = n_account g k := by
  unfold r_account
  rw [if_neg (bq_tin (k := 12) (by omega) (by decide)), nI_clamp (by omega)]
theorem acc_lit {g : BqG} {en k : Nat} (hG : GI g en) (h : k < 3) : r_account g (nI k) = lN (ns (ac g k) (gn g 1)) := by
  rw [r_account_in (by omega), ns_16 hG.2.2.1 (fun j h1 h2 => (ac_b hG h2 (by omega)).2 h1)]
  exact if_pos h
theorem acc_alc {g : BqG} {en k : Nat} (hG : GI g en) (h : 7 ≤ k) (h2 : k < 11) : r_account g (nI k) = lN (ns (fun b => ac g (k - 7) b * gn g (124 + 5 * b)) (gn g 1)) := by
  rw [r_account_in (by omega), ns_16 hG.2.2.1 (fun j h1 h2 => by show ac g (k - 7) j * _ = 0; rw [(ac_b hG h2 (by omega)).2 h1, Nat.zero_mul])]
  unfold n_account
  rw [if_neg (by omega), if_neg (by omega), if_pos h2]
theorem acc_lost {g : BqG} {k : Nat} (h : 3 ≤ k) (h2 : k < 7) : r_account g (nI k) = (g (324 + k - 3)).toInt64 := by
  rw [r_account_in (by omega)]
  unfold n_account
  rw [if_neg (by omega), if_pos h2]
theorem acc_oc {g : BqG} : r_account g (nI 11) = lN (bq_ct (fun i => g (208 + 9 * i)) 0 (gn g 2)) := by
  rw [r_account_in (by omega)]
  rfl
theorem acc_ol {g : BqG} : r_account g (nI 12) = lN (oL g (gn g 2)) := by
  rw [r_account_in (by omega)]
  rfl
theorem acc_cases (k : Int32) : (k < nI 0 ∨ ¬ k ≤ nI 12) ∨ ∃ q, k = nI q ∧ (q < 3 ∨ (3 ≤ q ∧ q < 7) ∨ (7 ≤ q ∧ q < 11) ∨ q = 11 ∨ q = 12) := by
  rcases bq_in5 k 12 (by decide) with h | ⟨q, hq, rfl⟩
  · exact Or.inl h
  · exact Or.inr ⟨q, rfl, by omega⟩
set_option maxHeartbeats 1000000 in
set_option maxRecDepth 20000 in
theorem o_account_a {S : BqH} {n : Nat} {I : BqI} {L : BqL} {P : BqP} {m : Nat} {g : BqG} (hm : oModel S n P m) (hg : I (m + 1) = g) {en : Nat} (hG : GI g en) {k : Int32} (hk : k < nI 0 ∨ ¬ k ≤ nI 12) : bq_Sp mX12_account 4 81 0 0 [.ref m, .int k] S n I L P (bq_F (some (.long (r_account g k))) S n I L P) := by
  refine q_entry (vs := [some (.ref m), some (.int k), none, none, none, none, none]) (by decide +kernel) (by simp) (Nat.le_of_ble_eq_true rfl) rfl ?_
  refine q_iload_n (pc := 0) dX12_account_0 rfl rfl ?_
  refine q_iconst (pc := 1) (v := nI 0) dX12_account_1 (by decide) ?_
  refine q_bipush (pc := 2) (v := nI 12) dX12_account_2 (by decide) ?_
  refine q_callSF (pc := 4) dX12_account_4 kX12_69 c_X12_in ⟨Nat.le_of_ble_eq_true rfl, Nat.le_of_ble_eq_true rfl⟩ rfl rfl (Nat.le_of_ble_eq_true rfl) ?_
  show bq_W _ _ _ _ _ 7 _ [_] _ _ _ _ _ _
  refine q_if_ne (pc := 7) 14 dX12_account_7 (by decide) (fun c_7 => ((c_7 (bq_nb0.mpr hk))).elim) (fun c_7 => ?_)
  refine q_ldc2 (pc := 10) dX12_account_10 lX12_233 ?_
  exact q_lret (st := []) (pc := 13) dX12_account_13 rfl ⟨by rw [r_account_out hk], rfl, rfl, rfl, rfl, rfl⟩
set_option maxHeartbeats 1000000 in
set_option maxRecDepth 20000 in
theorem o_account_b {S : BqH} {n : Nat} {I : BqI} {L : BqL} {P : BqP} {m : Nat} {g : BqG} (hm : oModel S n P m) (hg : I (m + 1) = g) {en : Nat} (hG : GI g en) {k : Nat} (hk1 : 3 ≤ k) (hk2 : k < 7) : bq_Sp mX12_account 4 81 0 0 [.ref m, .int (nI k)] S n I L P (bq_F (some (.long (r_account g (nI k)))) S n I L P) := by
  refine q_entry (vs := [some (.ref m), some (.int (nI k)), none, none, none, none, none]) (by decide +kernel) (by simp) (Nat.le_of_ble_eq_true rfl) rfl ?_
  refine q_iload_n (pc := 0) dX12_account_0 rfl rfl ?_
  refine q_iconst (pc := 1) (v := nI 0) dX12_account_1 (by decide) ?_
  refine q_bipush (pc := 2) (v := nI 12) dX12_account_2 (by decide) ?_
  refine q_callSF (pc := 4) dX12_account_4 kX12_69 c_X12_in ⟨Nat.le_of_ble_eq_true rfl, Nat.le_of_ble_eq_true rfl⟩ rfl rfl (Nat.le_of_ble_eq_true rfl) ?_
  show bq_W _ _ _ _ _ 7 _ [_] _ _ _ _ _ _
  refine q_if_ne (pc := 7) 14 dX12_account_7 (by decide) (fun c_7 => ?_) (fun c_7 => ((bq_tin (k := 12) (by omega) (by decide) (bq_nb0.mp c_7))).elim)
  refine q_iload_n (pc := 14) dX12_account_14 rfl rfl ?_
  refine q_iconst (pc := 15) (v := nI 2) dX12_account_15 (by decide) ?_
  refine q_icmp_le (pc := 16) 39 dX12_account_16 (by decide) (fun c_16 => absurd c_16 (nI_ge (show 2 < k by omega) (by omega))) (fun c_16 => ?_)
  refine q_iload_n (pc := 19) dX12_account_19 rfl rfl ?_
  refine q_bipush (pc := 20) (v := nI 7) dX12_account_20 (by decide) ?_
  refine q_icmp_ge (pc := 22) 39 dX12_account_22 (by decide) (fun c_22 => absurd c_22 (nI_ge hk2 (by decide))) (fun c_22 => ?_)
  refine q_aload_n (pc := 25) dX12_account_25 rfl rfl ?_
  refine q_getP (pc := 26) dX12_account_26 fX12_9 (Model_sh hm) ⟨by decide, rfl⟩ (Model_lt hm) (Model_p_g hm) ?_
  refine q_sipush (pc := 29) (v := nI 324) dX12_account_29 (by decide) ?_
  refine q_iload_n (pc := 32) dX12_account_32 rfl rfl ?_
  refine q_iaddN (pc := 33) dX12_account_33 ?_
  refine q_iconst (pc := 34) (v := nI 3) dX12_account_34 (by decide) ?_
  refine q_isub (pc := 35) dX12_account_35 ?_
  rw [pk_sub (by omega)]
  refine q_iald (pc := 36) dX12_account_36 (oA_sh (Model_s_g hm)) (oA_lt (Model_s_g hm)) rfl (by omega) ?_
  refine q_i2l (pc := 37) dX12_account_37 ?_
  exact q_lret (st := []) (pc := 38) dX12_account_38 rfl ⟨by rw [hg, acc_lost hk1 hk2], rfl, rfl, rfl, rfl, rfl⟩
set_option maxHeartbeats 1560000 in
set_option maxRecDepth 20000 in
theorem o_account_c {S : BqH} {n : Nat} {I : BqI} {L : BqL} {P : BqP} {m : Nat} {g : BqG} (hm : oModel S n P m) (hg : I (m + 1) = g) {en : Nat} (hG : GI g en) {k : Nat} (hk : k < 3) : bq_Sp mX12_account 4 81 0 0 [.ref m, .int (nI k)] S n I L P (bq_F (some (.long (r_account g (nI k)))) S n I L P) := by
  refine q_entry (vs := [some (.ref m), some (.int (nI k)), none, none, none, none, none]) (by decide +kernel) (by simp) (Nat.le_of_ble_eq_true rfl) rfl ?_
  have h1 : I (m + 1) 1 = nI (gn g 1) := by rw [hg]; exact hG.n (by decide) (by decide)
  have hl : gn g 1 ≤ 16 := hG.2.2.1
  have h2 : I (m + 1) 2 = nI (gn g 2) := by rw [hg]; exact hG.n (by decide) (by decide)
  have h2l : gn g 2 ≤ 10 := hG.2.2.2.1
  refine q_iload_n (pc := 0) dX12_account_0 rfl rfl ?_
  refine q_iconst (pc := 1) (v := nI 0) dX12_account_1 (by decide) ?_
  refine q_bipush (pc := 2) (v := nI 12) dX12_account_2 (by decide) ?_
  refine q_callSF (pc := 4) dX12_account_4 kX12_69 c_X12_in ⟨Nat.le_of_ble_eq_true rfl, Nat.le_of_ble_eq_true rfl⟩ rfl rfl (Nat.le_of_ble_eq_true rfl) ?_
  show bq_W _ _ _ _ _ 7 _ [_] _ _ _ _ _ _
  refine q_if_ne (pc := 7) 14 dX12_account_7 (by decide) (fun c_7 => ?_) (fun c_7 => ((bq_tin (k := 12) (by omega) (by decide) (bq_nb0.mp c_7))).elim)
  refine q_iload_n (pc := 14) dX12_account_14 rfl rfl ?_
  refine q_iconst (pc := 15) (v := nI 2) dX12_account_15 (by decide) ?_
  refine q_icmp_le (pc := 16) 39 dX12_account_16 (by decide) (fun c_16 => ?_) (fun c_16 => absurd (nI_le (show k ≤ 2 by omega) (by decide)) c_16)
  refine q_lconst (pc := 39) dX12_account_39 rfl ?_
  refine q_lstore_n (pc := 40) dX12_account_40 rfl (Nat.le_of_ble_eq_true rfl) rfl ?_
  show bq_W _ _ _ _ _ 41 [_, _, _, _, _, _, _] _ _ _ _ _ _ _
  refine q_iload_n (pc := 41) dX12_account_41 rfl rfl ?_
  refine q_bipush (pc := 42) (v := nI 10) dX12_account_42 (by decide) ?_
  refine q_icmp_le (pc := 44) 103 dX12_account_44 (by decide) (fun c_44 => ?_) (fun c_44 => absurd (nI_le (show k ≤ 10 by omega) (by decide)) c_44)
  refine q_iload_n (pc := 103) dX12_account_103 rfl rfl ?_
  refine q_iconst (pc := 104) (v := nI 3) dX12_account_104 (by decide) ?_
  refine q_icmp_ge (pc := 105) 112 dX12_account_105 (by decide) (fun c_105 => absurd c_105 (nI_ge hk (by decide))) (fun c_105 => ?_)
  refine q_iload_n (pc := 108) dX12_account_108 rfl rfl ?_
  refine q_goto (pc := 109) 116 dX12_account_109 (by decide) ?_
  refine q_istore (pc := 116) dX12_account_116 (Nat.le_of_ble_eq_true rfl) rfl ?_
  show bq_W _ _ _ _ _ 118 [_, _, _, _, _, _, _] _ _ _ _ _ _ _
  refine q_iconst (pc := 118) (v := nI 0) dX12_account_118 (by decide) ?_
  refine q_istore (pc := 119) dX12_account_119 (Nat.le_of_ble_eq_true rfl) rfl ?_
  show bq_W _ _ _ _ _ 121 [_, _, _, _, _, _, _] _ _ _ _ _ _ _
  have lp : ∀ i, i ≤ (gn g 1) → bq_W mX12_account 4 81 0 0 121 [some (.ref m), some (.int (nI k)), some (.long (lN (ns (ac g k) i))), none, some (.int (nI k)), some (.int (nI i)), none] [] S n I L P (bq_F (some (.long (r_account g (nI k)))) S n I L P) := by
    refine bq_down (A := fun i => bq_W mX12_account 4 81 0 0 121 [some (.ref m), some (.int (nI k)), some (.long (lN (ns (ac g k) i))), none, some (.int (nI k)), some (.int (nI i)), none] [] S n I L P (bq_F (some (.long (r_account g (nI k)))) S n I L P)) (gn g 1) ?_ ?_
    · refine q_iload (pc := 121) dX12_account_121 rfl ?_
      refine q_aload_n (pc := 123) dX12_account_123 rfl rfl ?_
      refine q_getP (pc := 124) dX12_account_124 fX12_9 (Model_sh hm) ⟨by decide, rfl⟩ (Model_lt hm) (Model_p_g hm) ?_
      refine q_iconst (pc := 127) (v := nI 1) dX12_account_127 (by decide) ?_
      refine q_iald (pc := 128) dX12_account_128 (oA_sh (Model_s_g hm)) (oA_lt (Model_s_g hm)) rfl (by omega) ?_
      rw [h1]
      refine q_icmp_ge (pc := 129) 175 dX12_account_129 (by decide) (fun c_129 => ?_) (fun c_129 => absurd (nI_le (Nat.le_refl _) (by omega)) c_129)
      refine q_lload_n (pc := 175) dX12_account_175 rfl rfl ?_
      exact q_lret (st := []) (pc := 176) dX12_account_176 rfl ⟨by rw [acc_lit hG hk], rfl, rfl, rfl, rfl, rfl⟩
    · intro i hi ih
      refine q_iload (pc := 121) dX12_account_121 rfl ?_
      refine q_aload_n (pc := 123) dX12_account_123 rfl rfl ?_
      refine q_getP (pc := 124) dX12_account_124 fX12_9 (Model_sh hm) ⟨by decide, rfl⟩ (Model_lt hm) (Model_p_g hm) ?_
      refine q_iconst (pc := 127) (v := nI 1) dX12_account_127 (by decide) ?_
      refine q_iald (pc := 128) dX12_account_128 (oA_sh (Model_s_g hm)) (oA_lt (Model_s_g hm)) rfl (by omega) ?_
      rw [h1]
      refine q_icmp_ge (pc := 129) 175 dX12_account_129 (by decide) (fun c_129 => absurd c_129 (nI_ge hi (by omega))) (fun c_129 => ?_)
      refine q_aload_n (pc := 132) dX12_account_132 rfl rfl ?_
      refine q_iload (pc := 133) dX12_account_133 rfl ?_
      refine q_iconst (pc := 135) (v := nI 1) dX12_account_135 (by decide) ?_
      refine q_iload (pc := 136) dX12_account_136 rfl ?_
      refine q_iaddN (pc := 138) dX12_account_138 ?_
      refine q_callVF (pc := 139) dX12_account_139 kX12_243 (o_ofBatch hm hg hG (b := nI i)) (Model_sh hm) rfl (Model_lt hm) ⟨Nat.le_of_ble_eq_true rfl, Nat.le_of_ble_eq_true rfl⟩ rfl rfl (Nat.le_of_ble_eq_true rfl) ?_
      show bq_W _ _ _ _ _ 142 _ [_] _ _ _ _ _ _
      have hi16 : i < 16 := Nat.lt_of_lt_of_le hi hl
      have ha := (ac_b (q := k) hG hi16 (by omega)).1
      rw [r_ofBatch_n hG hi, ac_of hG hi16 (by omega)]
      refine q_istore (pc := 142) dX12_account_142 (Nat.le_of_ble_eq_true rfl) rfl ?_
      show bq_W _ _ _ _ _ 144 [_, _, _, _, _, _, _] _ _ _ _ _ _ _
      refine q_lload_n (pc := 144) dX12_account_144 rfl rfl ?_
      refine q_iload_n (pc := 145) dX12_account_145 rfl rfl ?_
      refine q_iconst (pc := 146) (v := nI 3) dX12_account_146 (by decide) ?_
      refine q_icmp_ge (pc := 147) 156 dX12_account_147 (by decide) (fun c_147 => absurd c_147 (nI_ge hk (by decide))) (fun c_147 => ?_)
      refine q_iload (pc := 150) dX12_account_150 rfl ?_
      refine q_i2l (pc := 152) dX12_account_152 ?_
      refine q_goto (pc := 153) 167 dX12_account_153 (by decide) ?_
      refine q_ladd (pc := 167) dX12_account_167 ?_
      rw [nI_l (by omega), lN_add]
      refine q_lstore_n (pc := 168) dX12_account_168 rfl (Nat.le_of_ble_eq_true rfl) rfl ?_
      show bq_W _ _ _ _ _ 169 [_, _, _, _, _, _, _] _ _ _ _ _ _ _
      refine q_iinc (pc := 169) (v := nI (i + 1)) dX12_account_169 rfl (bq_inc _) (Nat.le_of_ble_eq_true rfl) rfl ?_
      show bq_W _ _ _ _ _ 172 [_, _, _, _, _, _, _] _ _ _ _ _ _ _
      refine q_goto (pc := 172) 121 dX12_account_172 (by decide) ?_
      refine q_wk (vs2 := [some (.ref m), some (.int (nI k)), some (.long (lN (ns (ac g k) (i + 1)))), none, some (.int (nI k)), some (.int (nI (i + 1))), none]) ⟨rfl, rfl, rfl, rfl, rfl, trivial⟩ ?_
      exact ih
  exact lp 0 (Nat.zero_le _)
set_option maxHeartbeats 1760000 in
set_option maxRecDepth 20000 in
theorem o_account_d {S : BqH} {n : Nat} {I : BqI} {L : BqL} {P : BqP} {m : Nat} {g : BqG} (hm : oModel S n P m) (hg : I (m + 1) = g) {en : Nat} (hG : GI g en) {k : Nat} (hk0 : 7 ≤ k) (hk2 : k < 11) : bq_Sp mX12_account 4 81 0 0 [.ref m, .int (nI k)] S n I L P (bq_F (some (.long (r_account g (nI k)))) S n I L P) := by
  refine q_entry (vs := [some (.ref m), some (.int (nI k)), none, none, none, none, none]) (by decide +kernel) (by simp) (Nat.le_of_ble_eq_true rfl) rfl ?_
  have h1 : I (m + 1) 1 = nI (gn g 1) := by rw [hg]; exact hG.n (by decide) (by decide)
  have hl : gn g 1 ≤ 16 := hG.2.2.1
  have h2 : I (m + 1) 2 = nI (gn g 2) := by rw [hg]; exact hG.n (by decide) (by decide)
  have h2l : gn g 2 ≤ 10 := hG.2.2.2.1
  refine q_iload_n (pc := 0) dX12_account_0 rfl rfl ?_
  refine q_iconst (pc := 1) (v := nI 0) dX12_account_1 (by decide) ?_
  refine q_bipush (pc := 2) (v := nI 12) dX12_account_2 (by decide) ?_
  refine q_callSF (pc := 4) dX12_account_4 kX12_69 c_X12_in ⟨Nat.le_of_ble_eq_true rfl, Nat.le_of_ble_eq_true rfl⟩ rfl rfl (Nat.le_of_ble_eq_true rfl) ?_
  show bq_W _ _ _ _ _ 7 _ [_] _ _ _ _ _ _
  refine q_if_ne (pc := 7) 14 dX12_account_7 (by decide) (fun c_7 => ?_) (fun c_7 => ((bq_tin (k := 12) (by omega) (by decide) (bq_nb0.mp c_7))).elim)
  refine q_iload_n (pc := 14) dX12_account_14 rfl rfl ?_
  refine q_iconst (pc := 15) (v := nI 2) dX12_account_15 (by decide) ?_
  refine q_icmp_le (pc := 16) 39 dX12_account_16 (by decide) (fun c_16 => absurd c_16 (nI_ge (show 2 < k by omega) (by omega))) (fun c_16 => ?_)
  refine q_iload_n (pc := 19) dX12_account_19 rfl rfl ?_
  refine q_bipush (pc := 20) (v := nI 7) dX12_account_20 (by decide) ?_
  refine q_icmp_ge (pc := 22) 39 dX12_account_22 (by decide) (fun c_22 => ?_) (fun c_22 => absurd (nI_le hk0 (by omega)) c_22)
  refine q_lconst (pc := 39) dX12_account_39 rfl ?_
  refine q_lstore_n (pc := 40) dX12_account_40 rfl (Nat.le_of_ble_eq_true rfl) rfl ?_
  show bq_W _ _ _ _ _ 41 [_, _, _, _, _, _, _] _ _ _ _ _ _ _
  refine q_iload_n (pc := 41) dX12_account_41 rfl rfl ?_
  refine q_bipush (pc := 42) (v := nI 10) dX12_account_42 (by decide) ?_
  refine q_icmp_le (pc := 44) 103 dX12_account_44 (by decide) (fun c_44 => ?_) (fun c_44 => absurd (nI_le (show k ≤ 10 by omega) (by decide)) c_44)
  refine q_iload_n (pc := 103) dX12_account_103 rfl rfl ?_
  refine q_iconst (pc := 104) (v := nI 3) dX12_account_104 (by decide) ?_
  refine q_icmp_ge (pc := 105) 112 dX12_account_105 (by decide) (fun c_105 => ?_) (fun c_105 => absurd (nI_le (show 3 ≤ k by omega) (by omega)) c_105)
  refine q_iload_n (pc := 112) dX12_account_112 rfl rfl ?_
  refine q_bipush (pc := 113) (v := nI 7) dX12_account_113 (by decide) ?_
  refine q_isub (pc := 115) dX12_account_115 ?_
  rw [pk_sub (by omega)]
  refine q_istore (pc := 116) dX12_account_116 (Nat.le_of_ble_eq_true rfl) rfl ?_
  show bq_W _ _ _ _ _ 118 [_, _, _, _, _, _, _] _ _ _ _ _ _ _
  refine q_iconst (pc := 118) (v := nI 0) dX12_account_118 (by decide) ?_
  refine q_istore (pc := 119) dX12_account_119 (Nat.le_of_ble_eq_true rfl) rfl ?_
  show bq_W _ _ _ _ _ 121 [_, _, _, _, _, _, _] _ _ _ _ _ _ _
  have lp : ∀ i, i ≤ (gn g 1) → bq_W mX12_account 4 81 0 0 121 [some (.ref m), some (.int (nI k)), some (.long (lN (ns (fun b => ac g (k - 7) b * gn g (124 + 5 * b)) i))), none, some (.int (nI (k - 7))), some (.int (nI i)), none] [] S n I L P (bq_F (some (.long (r_account g (nI k)))) S n I L P) := by
    refine bq_down (A := fun i => bq_W mX12_account 4 81 0 0 121 [some (.ref m), some (.int (nI k)), some (.long (lN (ns (fun b => ac g (k - 7) b * gn g (124 + 5 * b)) i))), none, some (.int (nI (k - 7))), some (.int (nI i)), none] [] S n I L P (bq_F (some (.long (r_account g (nI k)))) S n I L P)) (gn g 1) ?_ ?_
    · refine q_iload (pc := 121) dX12_account_121 rfl ?_
      refine q_aload_n (pc := 123) dX12_account_123 rfl rfl ?_
      refine q_getP (pc := 124) dX12_account_124 fX12_9 (Model_sh hm) ⟨by decide, rfl⟩ (Model_lt hm) (Model_p_g hm) ?_
      refine q_iconst (pc := 127) (v := nI 1) dX12_account_127 (by decide) ?_
      refine q_iald (pc := 128) dX12_account_128 (oA_sh (Model_s_g hm)) (oA_lt (Model_s_g hm)) rfl (by omega) ?_
      rw [h1]
      refine q_icmp_ge (pc := 129) 175 dX12_account_129 (by decide) (fun c_129 => ?_) (fun c_129 => absurd (nI_le (Nat.le_refl _) (by omega)) c_129)
      refine q_lload_n (pc := 175) dX12_account_175 rfl rfl ?_
      exact q_lret (st := []) (pc := 176) dX12_account_176 rfl ⟨by rw [acc_alc hG hk0 hk2], rfl, rfl, rfl, rfl, rfl⟩
    · intro i hi ih
      refine q_iload (pc := 121) dX12_account_121 rfl ?_
      refine q_aload_n (pc := 123) dX12_account_123 rfl rfl ?_
      refine q_getP (pc := 124) dX12_account_124 fX12_9 (Model_sh hm) ⟨by decide, rfl⟩ (Model_lt hm) (Model_p_g hm) ?_
      refine q_iconst (pc := 127) (v := nI 1) dX12_account_127 (by decide) ?_
      refine q_iald (pc := 128) dX12_account_128 (oA_sh (Model_s_g hm)) (oA_lt (Model_s_g hm)) rfl (by omega) ?_
      rw [h1]
      refine q_icmp_ge (pc := 129) 175 dX12_account_129 (by decide) (fun c_129 => absurd c_129 (nI_ge hi (by omega))) (fun c_129 => ?_)
      refine q_aload_n (pc := 132) dX12_account_132 rfl rfl ?_
      refine q_iload (pc := 133) dX12_account_133 rfl ?_
      refine q_iconst (pc := 135) (v := nI 1) dX12_account_135 (by decide) ?_
      refine q_iload (pc := 136) dX12_account_136 rfl ?_
      refine q_iaddN (pc := 138) dX12_account_138 ?_
      refine q_callVF (pc := 139) dX12_account_139 kX12_243 (o_ofBatch hm hg hG (b := nI i)) (Model_sh hm) rfl (Model_lt hm) ⟨Nat.le_of_ble_eq_true rfl, Nat.le_of_ble_eq_true rfl⟩ rfl rfl (Nat.le_of_ble_eq_true rfl) ?_
      show bq_W _ _ _ _ _ 142 _ [_] _ _ _ _ _ _
      have hi16 : i < 16 := Nat.lt_of_lt_of_le hi hl
      have ha := (ac_b (q := (k - 7)) hG hi16 (by omega)).1
      rw [r_ofBatch_n hG hi, ac_of hG hi16 (by omega)]
      refine q_istore (pc := 142) dX12_account_142 (Nat.le_of_ble_eq_true rfl) rfl ?_
      show bq_W _ _ _ _ _ 144 [_, _, _, _, _, _, _] _ _ _ _ _ _ _
      refine q_lload_n (pc := 144) dX12_account_144 rfl rfl ?_
      refine q_iload_n (pc := 145) dX12_account_145 rfl rfl ?_
      refine q_iconst (pc := 146) (v := nI 3) dX12_account_146 (by decide) ?_
      refine q_icmp_ge (pc := 147) 156 dX12_account_147 (by decide) (fun c_147 => ?_) (fun c_147 => absurd (nI_le (show 3 ≤ k by omega) (by omega)) c_147)
      refine q_iload (pc := 156) dX12_account_156 rfl ?_
      refine q_i2l (pc := 158) dX12_account_158 ?_
      refine q_aload_n (pc := 159) dX12_account_159 rfl rfl ?_
      refine q_iload (pc := 160) dX12_account_160 rfl ?_
      refine q_callVF (pc := 162) dX12_account_162 kX12_80 (c_X12_strengthOf hm (b := i) (by omega)) (Model_sh hm) rfl (Model_lt hm) ⟨Nat.le_of_ble_eq_true rfl, Nat.le_of_ble_eq_true rfl⟩ rfl rfl (Nat.le_of_ble_eq_true rfl) ?_
      show bq_W _ _ _ _ _ 165 _ [_, _, _] _ _ _ _ _ _
      refine q_i2l (pc := 165) dX12_account_165 ?_
      refine q_lmul (pc := 166) dX12_account_166 ?_
      refine q_ladd (pc := 167) dX12_account_167 ?_
      rw [hg, hG.n (k := 124 + 5 * i) (by omega) (by omega), nI_l (by omega), nI_l (hG.1 (124 + 5 * i) (by omega) (by omega)).2, lN_mul, lN_add]
      refine q_lstore_n (pc := 168) dX12_account_168 rfl (Nat.le_of_ble_eq_true rfl) rfl ?_
      show bq_W _ _ _ _ _ 169 [_, _, _, _, _, _, _] _ _ _ _ _ _ _
      refine q_iinc (pc := 169) (v := nI (i + 1)) dX12_account_169 rfl (bq_inc _) (Nat.le_of_ble_eq_true rfl) rfl ?_
      show bq_W _ _ _ _ _ 172 [_, _, _, _, _, _, _] _ _ _ _ _ _ _
      refine q_goto (pc := 172) 121 dX12_account_172 (by decide) ?_
      refine q_wk (vs2 := [some (.ref m), some (.int (nI k)), some (.long (lN (ns (fun b => ac g (k - 7) b * gn g (124 + 5 * b)) (i + 1)))), none, some (.int (nI (k - 7))), some (.int (nI (i + 1))), none]) ⟨rfl, rfl, rfl, rfl, rfl, trivial⟩ ?_
      exact ih
  exact lp 0 (Nat.zero_le _)
set_option maxHeartbeats 1640000 in
set_option maxRecDepth 20000 in
theorem o_account_e {S : BqH} {n : Nat} {I : BqI} {L : BqL} {P : BqP} {m : Nat} {g : BqG} (hm : oModel S n P m) (hg : I (m + 1) = g) {en : Nat} (hG : GI g en) : bq_Sp mX12_account 4 81 0 0 [.ref m, .int (nI 11)] S n I L P (bq_F (some (.long (r_account g (nI 11)))) S n I L P) := by
  refine q_entry (vs := [some (.ref m), some (.int (nI 11)), none, none, none, none, none]) (by decide +kernel) (by simp) (Nat.le_of_ble_eq_true rfl) rfl ?_
  have h1 : I (m + 1) 1 = nI (gn g 1) := by rw [hg]; exact hG.n (by decide) (by decide)
  have hl : gn g 1 ≤ 16 := hG.2.2.1
  have h2 : I (m + 1) 2 = nI (gn g 2) := by rw [hg]; exact hG.n (by decide) (by decide)
  have h2l : gn g 2 ≤ 10 := hG.2.2.2.1
  refine q_iload_n (pc := 0) dX12_account_0 rfl rfl ?_
  refine q_iconst (pc := 1) (v := nI 0) dX12_account_1 (by decide) ?_
  refine q_bipush (pc := 2) (v := nI 12) dX12_account_2 (by decide) ?_
  refine q_callSF (pc := 4) dX12_account_4 kX12_69 c_X12_in ⟨Nat.le_of_ble_eq_true rfl, Nat.le_of_ble_eq_true rfl⟩ rfl rfl (Nat.le_of_ble_eq_true rfl) ?_
  show bq_W _ _ _ _ _ 7 _ [_] _ _ _ _ _ _
  refine q_if_ne (pc := 7) 14 dX12_account_7 (by decide) (fun c_7 => ?_) (fun c_7 => ((bq_tin (k := 12) (by decide) (by decide) (bq_nb0.mp c_7))).elim)
  refine q_iload_n (pc := 14) dX12_account_14 rfl rfl ?_
  refine q_iconst (pc := 15) (v := nI 2) dX12_account_15 (by decide) ?_
  refine q_icmp_le (pc := 16) 39 dX12_account_16 (by decide) (fun c_16 => absurd c_16 (by decide)) (fun c_16 => ?_)
  refine q_iload_n (pc := 19) dX12_account_19 rfl rfl ?_
  refine q_bipush (pc := 20) (v := nI 7) dX12_account_20 (by decide) ?_
  refine q_icmp_ge (pc := 22) 39 dX12_account_22 (by decide) (fun c_22 => ?_) (fun c_22 => absurd (by decide) c_22)
  refine q_lconst (pc := 39) dX12_account_39 rfl ?_
  refine q_lstore_n (pc := 40) dX12_account_40 rfl (Nat.le_of_ble_eq_true rfl) rfl ?_
  show bq_W _ _ _ _ _ 41 [_, _, _, _, _, _, _] _ _ _ _ _ _ _
  refine q_iload_n (pc := 41) dX12_account_41 rfl rfl ?_
  refine q_bipush (pc := 42) (v := nI 10) dX12_account_42 (by decide) ?_
  refine q_icmp_le (pc := 44) 103 dX12_account_44 (by decide) (fun c_44 => absurd c_44 (by decide)) (fun c_44 => ?_)
  refine q_iconst (pc := 47) (v := nI 0) dX12_account_47 (by decide) ?_
  refine q_istore (pc := 48) dX12_account_48 (Nat.le_of_ble_eq_true rfl) rfl ?_
  show bq_W _ _ _ _ _ 50 [_, _, _, _, _, _, _] _ _ _ _ _ _ _
  have lp : ∀ i, i ≤ (gn g 2) → bq_W mX12_account 4 81 0 0 50 [some (.ref m), some (.int (nI 11)), some (.long (lN (bq_ct (fun i => g (208 + 9 * i)) 0 i))), none, some (.int (nI i)), none, none] [] S n I L P (bq_F (some (.long (r_account g (nI 11)))) S n I L P) := by
    refine bq_down (A := fun i => bq_W mX12_account 4 81 0 0 50 [some (.ref m), some (.int (nI 11)), some (.long (lN (bq_ct (fun i => g (208 + 9 * i)) 0 i))), none, some (.int (nI i)), none, none] [] S n I L P (bq_F (some (.long (r_account g (nI 11)))) S n I L P)) (gn g 2) ?_ ?_
    · refine q_iload (pc := 50) dX12_account_50 rfl ?_
      refine q_aload_n (pc := 52) dX12_account_52 rfl rfl ?_
      refine q_getP (pc := 53) dX12_account_53 fX12_9 (Model_sh hm) ⟨by decide, rfl⟩ (Model_lt hm) (Model_p_g hm) ?_
      refine q_iconst (pc := 56) (v := nI 2) dX12_account_56 (by decide) ?_
      refine q_iald (pc := 57) dX12_account_57 (oA_sh (Model_s_g hm)) (oA_lt (Model_s_g hm)) rfl (by omega) ?_
      rw [h2]
      refine q_icmp_ge (pc := 58) 101 dX12_account_58 (by decide) (fun c_58 => ?_) (fun c_58 => absurd (nI_le (Nat.le_refl _) (by omega)) c_58)
      refine q_lload_n (pc := 101) dX12_account_101 rfl rfl ?_
      exact q_lret (st := []) (pc := 102) dX12_account_102 rfl ⟨by rw [acc_oc], rfl, rfl, rfl, rfl, rfl⟩
    · intro i hi ih
      refine q_iload (pc := 50) dX12_account_50 rfl ?_
      refine q_aload_n (pc := 52) dX12_account_52 rfl rfl ?_
      refine q_getP (pc := 53) dX12_account_53 fX12_9 (Model_sh hm) ⟨by decide, rfl⟩ (Model_lt hm) (Model_p_g hm) ?_
      refine q_iconst (pc := 56) (v := nI 2) dX12_account_56 (by decide) ?_
      refine q_iald (pc := 57) dX12_account_57 (oA_sh (Model_s_g hm)) (oA_lt (Model_s_g hm)) rfl (by omega) ?_
      rw [h2]
      refine q_icmp_ge (pc := 58) 101 dX12_account_58 (by decide) (fun c_58 => absurd c_58 (nI_ge hi (by omega))) (fun c_58 => ?_)
      refine q_lload_n (pc := 61) dX12_account_61 rfl rfl ?_
      refine q_aload_n (pc := 62) dX12_account_62 rfl rfl ?_
      refine q_iload (pc := 63) dX12_account_63 rfl ?_
      refine q_callVF (pc := 65) dX12_account_65 kX12_121 (c_isOpen_in hm h2 h2l (o := i) hi) (Model_sh hm) rfl (Model_lt hm) ⟨Nat.le_of_ble_eq_true rfl, Nat.le_of_ble_eq_true rfl⟩ rfl rfl (Nat.le_of_ble_eq_true rfl) ?_
      show bq_W _ _ _ _ _ 68 _ [_, _] _ _ _ _ _ _
      refine q_if_eq (pc := 68) 92 dX12_account_68 (by decide) (fun c_68 => ?_) (fun c_68 => ?_)
      · replace c_68 := bq_b0.mp c_68
        rw [hg] at c_68
        refine q_lconst (pc := 92) dX12_account_92 rfl ?_
        refine q_ladd (pc := 93) dX12_account_93 ?_
        show bq_W _ _ _ _ _ (93 + 1) _ [.long (_ + lN 0)] _ _ _ _ _ _
        rw [lN_add, Nat.add_zero]
        refine q_lstore_n (pc := 94) dX12_account_94 rfl (Nat.le_of_ble_eq_true rfl) rfl ?_
        show bq_W _ _ _ _ _ 95 [_, _, _, _, _, _, _] _ _ _ _ _ _ _
        refine q_iinc (pc := 95) (v := nI (i + 1)) dX12_account_95 rfl (bq_inc _) (Nat.le_of_ble_eq_true rfl) rfl ?_
        show bq_W _ _ _ _ _ 98 [_, _, _, _, _, _, _] _ _ _ _ _ _ _
        refine q_goto (pc := 98) 50 dX12_account_98 (by decide) ?_
        rw [show (bq_ct (fun i => g (208 + 9 * i)) 0 (i + 1)) = _ from if_neg c_68] at ih
        exact ih
      · replace c_68 := bq_bn.mp c_68
        rw [hg] at c_68
        refine q_iload_n (pc := 71) dX12_account_71 rfl rfl ?_
        refine q_bipush (pc := 72) (v := nI 11) dX12_account_72 (by decide) ?_
        refine q_icmp_ne (pc := 74) 81 dX12_account_74 (by decide) (fun c_74 => ((absurd rfl c_74 : False)).elim) (fun c_74 => ?_)
        refine q_lconst (pc := 77) dX12_account_77 rfl ?_
        refine q_goto (pc := 78) 93 dX12_account_78 (by decide) ?_
        refine q_ladd (pc := 93) dX12_account_93 ?_
        show bq_W _ _ _ _ _ (93 + 1) _ [.long (_ + lN 1)] _ _ _ _ _ _
        rw [lN_add]
        refine q_lstore_n (pc := 94) dX12_account_94 rfl (Nat.le_of_ble_eq_true rfl) rfl ?_
        show bq_W _ _ _ _ _ 95 [_, _, _, _, _, _, _] _ _ _ _ _ _ _
        refine q_iinc (pc := 95) (v := nI (i + 1)) dX12_account_95 rfl (bq_inc _) (Nat.le_of_ble_eq_true rfl) rfl ?_
        show bq_W _ _ _ _ _ 98 [_, _, _, _, _, _, _] _ _ _ _ _ _ _
        refine q_goto (pc := 98) 50 dX12_account_98 (by decide) ?_
        rw [show (bq_ct (fun i => g (208 + 9 * i)) 0 (i + 1)) = _ from if_pos c_68] at ih
        exact ih
  exact lp 0 (Nat.zero_le _)
set_option maxHeartbeats 1740000 in
set_option maxRecDepth 20000 in
theorem o_account_f {S : BqH} {n : Nat} {I : BqI} {L : BqL} {P : BqP} {m : Nat} {g : BqG} (hm : oModel S n P m) (hg : I (m + 1) = g) {en : Nat} (hG : GI g en) : bq_Sp mX12_account 4 81 0 0 [.ref m, .int (nI 12)] S n I L P (bq_F (some (.long (r_account g (nI 12)))) S n I L P) := by
  refine q_entry (vs := [some (.ref m), some (.int (nI 12)), none, none, none, none, none]) (by decide +kernel) (by simp) (Nat.le_of_ble_eq_true rfl) rfl ?_
  have h1 : I (m + 1) 1 = nI (gn g 1) := by rw [hg]; exact hG.n (by decide) (by decide)
  have hl : gn g 1 ≤ 16 := hG.2.2.1
  have h2 : I (m + 1) 2 = nI (gn g 2) := by rw [hg]; exact hG.n (by decide) (by decide)
  have h2l : gn g 2 ≤ 10 := hG.2.2.2.1
  refine q_iload_n (pc := 0) dX12_account_0 rfl rfl ?_
  refine q_iconst (pc := 1) (v := nI 0) dX12_account_1 (by decide) ?_
  refine q_bipush (pc := 2) (v := nI 12) dX12_account_2 (by decide) ?_
  refine q_callSF (pc := 4) dX12_account_4 kX12_69 c_X12_in ⟨Nat.le_of_ble_eq_true rfl, Nat.le_of_ble_eq_true rfl⟩ rfl rfl (Nat.le_of_ble_eq_true rfl) ?_
  show bq_W _ _ _ _ _ 7 _ [_] _ _ _ _ _ _
  refine q_if_ne (pc := 7) 14 dX12_account_7 (by decide) (fun c_7 => ?_) (fun c_7 => ((bq_tin (k := 12) (by decide) (by decide) (bq_nb0.mp c_7))).elim)
  refine q_iload_n (pc := 14) dX12_account_14 rfl rfl ?_
  refine q_iconst (pc := 15) (v := nI 2) dX12_account_15 (by decide) ?_
  refine q_icmp_le (pc := 16) 39 dX12_account_16 (by decide) (fun c_16 => absurd c_16 (by decide)) (fun c_16 => ?_)
  refine q_iload_n (pc := 19) dX12_account_19 rfl rfl ?_
  refine q_bipush (pc := 20) (v := nI 7) dX12_account_20 (by decide) ?_
  refine q_icmp_ge (pc := 22) 39 dX12_account_22 (by decide) (fun c_22 => ?_) (fun c_22 => absurd (by decide) c_22)
  refine q_lconst (pc := 39) dX12_account_39 rfl ?_
  refine q_lstore_n (pc := 40) dX12_account_40 rfl (Nat.le_of_ble_eq_true rfl) rfl ?_
  show bq_W _ _ _ _ _ 41 [_, _, _, _, _, _, _] _ _ _ _ _ _ _
  refine q_iload_n (pc := 41) dX12_account_41 rfl rfl ?_
  refine q_bipush (pc := 42) (v := nI 10) dX12_account_42 (by decide) ?_
  refine q_icmp_le (pc := 44) 103 dX12_account_44 (by decide) (fun c_44 => absurd c_44 (by decide)) (fun c_44 => ?_)
  refine q_iconst (pc := 47) (v := nI 0) dX12_account_47 (by decide) ?_
  refine q_istore (pc := 48) dX12_account_48 (Nat.le_of_ble_eq_true rfl) rfl ?_
  show bq_W _ _ _ _ _ 50 [_, _, _, _, _, _, _] _ _ _ _ _ _ _
  have lp : ∀ i, i ≤ (gn g 2) → bq_W mX12_account 4 81 0 0 50 [some (.ref m), some (.int (nI 12)), some (.long (lN (oL g i))), none, some (.int (nI i)), none, none] [] S n I L P (bq_F (some (.long (r_account g (nI 12)))) S n I L P) := by
    refine bq_down (A := fun i => bq_W mX12_account 4 81 0 0 50 [some (.ref m), some (.int (nI 12)), some (.long (lN (oL g i))), none, some (.int (nI i)), none, none] [] S n I L P (bq_F (some (.long (r_account g (nI 12)))) S n I L P)) (gn g 2) ?_ ?_
    · refine q_iload (pc := 50) dX12_account_50 rfl ?_
      refine q_aload_n (pc := 52) dX12_account_52 rfl rfl ?_
      refine q_getP (pc := 53) dX12_account_53 fX12_9 (Model_sh hm) ⟨by decide, rfl⟩ (Model_lt hm) (Model_p_g hm) ?_
      refine q_iconst (pc := 56) (v := nI 2) dX12_account_56 (by decide) ?_
      refine q_iald (pc := 57) dX12_account_57 (oA_sh (Model_s_g hm)) (oA_lt (Model_s_g hm)) rfl (by omega) ?_
      rw [h2]
      refine q_icmp_ge (pc := 58) 101 dX12_account_58 (by decide) (fun c_58 => ?_) (fun c_58 => absurd (nI_le (Nat.le_refl _) (by omega)) c_58)
      refine q_lload_n (pc := 101) dX12_account_101 rfl rfl ?_
      exact q_lret (st := []) (pc := 102) dX12_account_102 rfl ⟨by rw [acc_ol], rfl, rfl, rfl, rfl, rfl⟩
    · intro i hi ih
      refine q_iload (pc := 50) dX12_account_50 rfl ?_
      refine q_aload_n (pc := 52) dX12_account_52 rfl rfl ?_
      refine q_getP (pc := 53) dX12_account_53 fX12_9 (Model_sh hm) ⟨by decide, rfl⟩ (Model_lt hm) (Model_p_g hm) ?_
      refine q_iconst (pc := 56) (v := nI 2) dX12_account_56 (by decide) ?_
      refine q_iald (pc := 57) dX12_account_57 (oA_sh (Model_s_g hm)) (oA_lt (Model_s_g hm)) rfl (by omega) ?_
      rw [h2]
      refine q_icmp_ge (pc := 58) 101 dX12_account_58 (by decide) (fun c_58 => absurd c_58 (nI_ge hi (by omega))) (fun c_58 => ?_)
      refine q_lload_n (pc := 61) dX12_account_61 rfl rfl ?_
      refine q_aload_n (pc := 62) dX12_account_62 rfl rfl ?_
      refine q_iload (pc := 63) dX12_account_63 rfl ?_
      refine q_callVF (pc := 65) dX12_account_65 kX12_121 (c_isOpen_in hm h2 h2l (o := i) hi) (Model_sh hm) rfl (Model_lt hm) ⟨Nat.le_of_ble_eq_true rfl, Nat.le_of_ble_eq_true rfl⟩ rfl rfl (Nat.le_of_ble_eq_true rfl) ?_
      show bq_W _ _ _ _ _ 68 _ [_, _] _ _ _ _ _ _
      refine q_if_eq (pc := 68) 92 dX12_account_68 (by decide) (fun c_68 => ?_) (fun c_68 => ?_)
      · replace c_68 := bq_b0.mp c_68
        rw [hg] at c_68
        refine q_lconst (pc := 92) dX12_account_92 rfl ?_
        refine q_ladd (pc := 93) dX12_account_93 ?_
        show bq_W _ _ _ _ _ (93 + 1) _ [.long (_ + lN 0)] _ _ _ _ _ _
        rw [lN_add, Nat.add_zero]
        refine q_lstore_n (pc := 94) dX12_account_94 rfl (Nat.le_of_ble_eq_true rfl) rfl ?_
        show bq_W _ _ _ _ _ 95 [_, _, _, _, _, _, _] _ _ _ _ _ _ _
        refine q_iinc (pc := 95) (v := nI (i + 1)) dX12_account_95 rfl (bq_inc _) (Nat.le_of_ble_eq_true rfl) rfl ?_
        show bq_W _ _ _ _ _ 98 [_, _, _, _, _, _, _] _ _ _ _ _ _ _
        refine q_goto (pc := 98) 50 dX12_account_98 (by decide) ?_
        rw [show (oL g (i + 1)) = _ from if_neg c_68] at ih
        exact ih
      · replace c_68 := bq_bn.mp c_68
        rw [hg] at c_68
        refine q_iload_n (pc := 71) dX12_account_71 rfl rfl ?_
        refine q_bipush (pc := 72) (v := nI 11) dX12_account_72 (by decide) ?_
        refine q_icmp_ne (pc := 74) 81 dX12_account_74 (by decide) (fun c_74 => ?_) (fun c_74 => ((absurd c_74 (by decide) : False)).elim)
        refine q_aload_n (pc := 81) dX12_account_81 rfl rfl ?_
        refine q_iload (pc := 82) dX12_account_82 rfl ?_
        refine q_iconst (pc := 84) (v := nI 1) dX12_account_84 (by decide) ?_
        refine q_callVF (pc := 85) dX12_account_85 kX12_118 (c_oA hm (o := i) (k := 1) (j := 205 + 9 * i) (by omega) (by omega)) (Model_sh hm) rfl (Model_lt hm) ⟨Nat.le_of_ble_eq_true rfl, Nat.le_of_ble_eq_true rfl⟩ rfl rfl (Nat.le_of_ble_eq_true rfl) ?_
        show bq_W _ _ _ _ _ 88 _ [_, _] _ _ _ _ _ _
        refine q_i2l (pc := 88) dX12_account_88 ?_
        refine q_goto (pc := 89) 93 dX12_account_89 (by decide) ?_
        refine q_ladd (pc := 93) dX12_account_93 ?_
        have ho := (hG.o (o := i) (by omega)).1
        rw [hg, hG.n (k := 205 + 9 * i) (by omega) (by omega), nI_l (by omega), lN_add]
        refine q_lstore_n (pc := 94) dX12_account_94 rfl (Nat.le_of_ble_eq_true rfl) rfl ?_
        show bq_W _ _ _ _ _ 95 [_, _, _, _, _, _, _] _ _ _ _ _ _ _
        refine q_iinc (pc := 95) (v := nI (i + 1)) dX12_account_95 rfl (bq_inc _) (Nat.le_of_ble_eq_true rfl) rfl ?_
        show bq_W _ _ _ _ _ 98 [_, _, _, _, _, _, _] _ _ _ _ _ _ _
        refine q_goto (pc := 98) 50 dX12_account_98 (by decide) ?_
        rw [show (oL g (i + 1)) = _ from if_pos c_68] at ih
        exact ih
  exact lp 0 (Nat.zero_le _)
theorem o_account {S : BqH} {n : Nat} {I : BqI} {L : BqL} {P : BqP} {m : Nat} {g : BqG} (hm : oModel S n P m) (hg : I (m + 1) = g) {en : Nat} (hG : GI g en) {k : Int32} : bq_Sp mX12_account 4 81 0 0 [.ref m, .int k] S n I L P (bq_F (some (.long (r_account g k))) S n I L P) := by
  rcases acc_cases k with h | ⟨q, rfl, h | ⟨h1, h2⟩ | ⟨h1, h2⟩ | rfl | rfl⟩
  · exact o_account_a hm hg hG h
  · exact o_account_c hm hg hG h
  · exact o_account_b hm hg hG h1 h2
  · exact o_account_d hm hg hG h1 h2
  · exact o_account_e hm hg hG
  · exact o_account_f hm hg hG
/-! the class's accounts -/
theorem ns_z : ∀ k, ns (fun _ => 0) k = 0
  | 0 => rfl
  | k + 1 => by
    show ns (fun _ => 0) k + 0 = 0
    rw [ns_z k]
theorem ns_swap (F : Nat → Nat → Nat) (m : Nat) : ∀ k, ns (fun t => ns (F t) m) k = ns (fun b => ns (fun t => F t b) k) m
  | 0 => (ns_z m).symm
  | k + 1 => by
    show ns (fun t => ns (F t) m) k + ns (F k) m = ns (fun b => ns (fun t => F t b) k + F k b) m
    rw [ns_add, ns_swap F m k]
theorem gt_gb (g : BqG) : ns (gt g) 6 = ns (gb g) 16 := ns_swap (gp g) 16 6
theorem gt_le {g : BqG} {en : Nat} (hG : GI g en) : ns (gb g) 16 ≤ 159984 := by
  have h := ns_le (F := ac g 1) (G := fun _ => 9999) 16 (fun j hj => (ac_b hG hj (by decide)).1)
  exact h
theorem acc_s {g : BqG} {en q : Nat} {f : Nat → Int32} (hG : GI g en) (hq : q ≤ 3) (h : ∀ j, j < 16 → f j = nI (ac g q j)) : (bq_sum f 16).toInt64 = lN (ns (ac g q) 16) := by
  have hb := ns_le (F := ac g q) (G := fun _ => 9999) 16 (fun j hj => (ac_b hG hj hq).1)
  have h2 : ns (fun _ => 9999) 16 = 159984 := rfl
  rw [bq_sum_n 16 h, nI_l (by omega)]
theorem acc_t {g : BqG} {en : Nat} {f : Nat → Int32} (hG : GI g en) (h : ∀ t, t < 6 → f t = nI (gt g t)) : (bq_sum f 6).toInt64 = lN (ns (ac g 1) 16) := by
  have hb := gt_le hG
  rw [bq_sum_n 6 h, gt_gb, nI_l (by omega)]
  rfl
theorem acc_a {g : BqG} {en q : Nat} {f s : Nat → Int32} (hG : GI g en) (hq : q ≤ 3) (h : ∀ j, j < 16 → f j = nI (ac g q j)) (h' : ∀ j, j < 16 → s j = g (124 + 5 * j)) : bq_alc f s 16 = lN (ns (fun b => ac g q b * gn g (124 + 5 * b)) 16) :=
  bq_alc_n 16 h (fun j hj => (h' j hj).trans (hG.n (by omega) (by omega))) (fun j hj => (hG.1 (124 + 5 * j) (by omega) (by omega)).2) (fun j hj => Nat.lt_of_le_of_lt (ac_b hG hj hq).1 (by decide))
theorem suL_n {f : Nat → Int64} {F : Nat → Nat} : ∀ k, (∀ j, j < k → f j = lN (F j)) → bq_suL f k = lN (ns F k)
  | 0, _ => rfl
  | k + 1, h => by
    unfold bq_suL ns
    rw [suL_n k (fun j hj => h j (by omega)), h k (by omega), lN_add]
theorem acc_at {g : BqG} {en : Nat} {p : Nat → Nat → Int32} {s : Nat → Int32} (hG : GI g en) (h : ∀ t, t < 6 → ∀ j, j < 16 → p t j = g (13 + 19 * t + j)) (h' : ∀ j, j < 16 → s j = g (124 + 5 * j)) : bq_suL (fun i => bq_alc (p i) s 16) 6 = lN (ns (fun b => ac g 1 b * gn g (124 + 5 * b)) 16) := by
  rw [suL_n (F := fun t => ns (fun b => gp g t b * gn g (124 + 5 * b)) 16) 6 (fun t ht => bq_alc_n 16 (fun j hj => (h t ht j hj).trans (hG.n (by omega) (by omega))) (fun j hj => (h' j hj).trans (hG.n (by omega) (by omega))) (fun j hj => (hG.1 (124 + 5 * j) (by omega) (by omega)).2) (fun j hj => (hG.1 (13 + 19 * t + j) (by omega) (by omega)).2))]
  rw [ns_swap (fun t b => gp g t b * gn g (124 + 5 * b)) 16 6]
  exact congrArg lN (ns_congr 16 (fun b _ => ns_mul (fun t => gp g t b) (gn g (124 + 5 * b)) 6))
theorem ct_le {f : Nat → Int32} {v : Int32} : ∀ k, bq_ct f v k ≤ k
  | 0 => Nat.le_refl _
  | k + 1 => by
    have ih := ct_le (f := f) (v := v) k
    show (if f k = v then bq_ct f v k + 1 else bq_ct f v k) ≤ k + 1
    split <;> omega
theorem acc_o {g : BqG} {c : Nat} {f : Nat → Int32} (hc : c ≤ 10) (h : ∀ j, j < c → f j = g (208 + 9 * j)) : (nI (bq_ct f 0 c)).toInt64 = lN (bq_ct (fun i => g (208 + 9 * i)) 0 c) := by
  have hb := ct_le (f := fun i => g (208 + 9 * i)) (v := 0) c
  rw [bq_ct_congr c h, nI_l (by omega)]
theorem sc_oL {g : BqG} {f a : Nat → Int32} : ∀ k, (∀ j, j < k → f j = g (208 + 9 * j)) → (∀ j, j < k → a j = nI (gn g (205 + 9 * j))) → bq_sc f a k = nI (oL g k)
  | 0, _, _ => rfl
  | k + 1, h, h' => by
    show (if f k = 0 then bq_sc f a k + a k else bq_sc f a k) = nI (if g (208 + 9 * k) = 0 then oL g k + gn g (205 + 9 * k) else oL g k)
    rw [h k (by omega), h' k (by omega), sc_oL k (fun j hj => h j (by omega)) (fun j hj => h' j (by omega))]
    split
    · exact nI_add _ _
    · rfl
theorem acc_l {g : BqG} {en c : Nat} {f a : Nat → Int32} (hG : GI g en) (hc : c ≤ 10) (h : ∀ j, j < c → f j = g (208 + 9 * j)) (h' : ∀ j, j < c → a j = nI (gn g (205 + 9 * j))) : (bq_sc f a c).toInt64 = lN (oL g c) := by
  have hb := oL_le hG c hc
  rw [sc_oL c h h', nI_l (by omega)]
set_option maxHeartbeats 3180000 in
set_option maxRecDepth 20000 in
theorem m_account {S : BqH} {n : Nat} {I : BqI} {L : BqL} {P : BqP} {x : Nat} {g : BqG} {en : Nat} (hx : oX S n P x) (hC : CS I L (x + 1) g) (hG : GI g en) {k : Int32} : bq_Sp mX11_account 3 59 0 0 [.ref x, .int k] S n I L P (bq_F (some (.long (r_account g k))) S n I L P) := by
  refine q_entry (vs := [some (.ref x), some (.int k)]) (by decide +kernel) (by simp) (Nat.le_of_ble_eq_true rfl) rfl ?_
  have h2l : gn g 2 ≤ 10 := hG.2.2.2.1
  have hoc : I (x + 1) 12 = nI (gn g 2) := (hC.1.at (k := 2) rfl).trans (hG.n (by decide) (by decide))
  have hst : ∀ j, j < 16 → I (x + 1 + 2) j = g (124 + 5 * j) := fun j hj => hC.1.at (lc_B0 hj)
  have hb0 : ∀ j, j < 16 → I (x + 1 + 4 + 1) j = nI (ac g 0 j) := fun j hj => (hC.1.ab (j := 1) hj (by decide)).trans (hG.n (by omega) (by omega))
  have hb2 : ∀ j, j < 16 → I (x + 1 + 6 + 1) j = nI (ac g 2 j) := fun j hj => (hC.1.ab (j := 2) hj (by decide)).trans (hG.n (by omega) (by omega))
  have hb3 : ∀ j, j < 16 → I (x + 1 + 8 + 1) j = nI (ac g 3 j) := fun j hj => (hC.1.ab (j := 3) hj (by decide)).trans (hG.n (by omega) (by omega))
  have hpt : ∀ t, t < 6 → ∀ j, j < 16 → I (x + 1 + 15 + 3 * t + 1 + 1) j = g (13 + 19 * t + j) := fun t ht j hj => hC.1.ap ht hj
  have hpn : ∀ t, t < 6 → bq_sum (I (x + 1 + 15 + 3 * t + 1 + 1)) 16 = nI (gt g t) := fun t ht => bq_sum_n 16 (hC.1.pn hG ht)
  have ho4 : ∀ j, j < gn g 2 → I (x + 1 + 43 + j) 4 = g (208 + 9 * j) := fun j hj => (hC.1.ao (o := j) (k := 4) (by omega) (by decide)).trans (congrArg g (by omega))
  have ho1 : ∀ j, j < gn g 2 → I (x + 1 + 43 + j) 1 = nI (gn g (205 + 9 * j)) := fun j hj => ((hC.1.ao (o := j) (k := 1) (by omega) (by decide)).trans (congrArg g (show 204 + 9 * j + 1 = 205 + 9 * j by omega))).trans (hG.n (by omega) (by omega))
  refine q_iload_n (pc := 0) dX11_account_0 rfl rfl ?_
  by_cases s1_0 : k = nI 0
  · refine q_tableIn (pc := 1) (off := 67) 68 dX11_account_1 (by rw [s1_0]; decide) (by rw [s1_0]; decide) (by rw [s1_0]; rfl) (by decide) ?_
    subst s1_0
    refine q_aload_n (pc := 68) dX11_account_68 rfl rfl ?_
    refine q_getP (pc := 69) dX11_account_69 fX11_10 (Cellar_sh hx) ⟨by decide, rfl⟩ (Cellar_lt hx) (Cellar_p_state hx) ?_
    refine q_getP (pc := 72) dX11_account_72 fX11_245 (State_sh (Cellar_s_state hx)) ⟨by decide, rfl⟩ (State_lt (Cellar_s_state hx)) (State_p_brewed (Cellar_s_state hx)) ?_
    refine q_callVF (pc := 75) dX11_account_75 kX11_79 (c_X0_total (State_s_brewed (Cellar_s_state hx))) (Blend_sh (State_s_brewed (Cellar_s_state hx))) rfl (Blend_lt (State_s_brewed (Cellar_s_state hx))) ⟨Nat.le_of_ble_eq_true rfl, Nat.le_of_ble_eq_true rfl⟩ rfl rfl (Nat.le_of_ble_eq_true rfl) ?_
    show bq_W _ _ _ _ _ 78 _ [_] _ _ _ _ _ _
    refine q_i2l (pc := 78) dX11_account_78 ?_
    exact q_lret (st := []) (pc := 79) dX11_account_79 rfl ⟨by rw [r_account_in (by decide)]; exact congrArg (fun z => some (Value.long z)) (acc_s hG (by decide) hb0), rfl, rfl, rfl, rfl, rfl⟩
  by_cases s1_1 : k = nI 1
  · refine q_tableIn (pc := 1) (off := 79) 80 dX11_account_1 (by rw [s1_1]; decide) (by rw [s1_1]; decide) (by rw [s1_1]; rfl) (by decide) ?_
    subst s1_1
    refine q_aload_n (pc := 80) dX11_account_80 rfl rfl ?_
    refine q_getP (pc := 81) dX11_account_81 fX11_10 (Cellar_sh hx) ⟨by decide, rfl⟩ (Cellar_lt hx) (Cellar_p_state hx) ?_
    refine q_callVF (pc := 84) dX11_account_84 kX11_306 (c_X8_litresInTanks (Cellar_s_state hx)) (State_sh (Cellar_s_state hx)) rfl (State_lt (Cellar_s_state hx)) ⟨Nat.le_of_ble_eq_true rfl, Nat.le_of_ble_eq_true rfl⟩ rfl rfl (Nat.le_of_ble_eq_true rfl) ?_
    show bq_W _ _ _ _ _ 87 _ [_] _ _ _ _ _ _
    refine q_i2l (pc := 87) dX11_account_87 ?_
    exact q_lret (st := []) (pc := 88) dX11_account_88 rfl ⟨by rw [r_account_in (by decide)]; exact congrArg (fun z => some (Value.long z)) (acc_t hG hpn), rfl, rfl, rfl, rfl, rfl⟩
  by_cases s1_2 : k = nI 2
  · refine q_tableIn (pc := 1) (off := 88) 89 dX11_account_1 (by rw [s1_2]; decide) (by rw [s1_2]; decide) (by rw [s1_2]; rfl) (by decide) ?_
    subst s1_2
    refine q_aload_n (pc := 89) dX11_account_89 rfl rfl ?_
    refine q_getP (pc := 90) dX11_account_90 fX11_10 (Cellar_sh hx) ⟨by decide, rfl⟩ (Cellar_lt hx) (Cellar_p_state hx) ?_
    refine q_getP (pc := 93) dX11_account_93 fX11_251 (State_sh (Cellar_s_state hx)) ⟨by decide, rfl⟩ (State_lt (Cellar_s_state hx)) (State_p_filled (Cellar_s_state hx)) ?_
    refine q_callVF (pc := 96) dX11_account_96 kX11_79 (c_X0_total (State_s_filled (Cellar_s_state hx))) (Blend_sh (State_s_filled (Cellar_s_state hx))) rfl (Blend_lt (State_s_filled (Cellar_s_state hx))) ⟨Nat.le_of_ble_eq_true rfl, Nat.le_of_ble_eq_true rfl⟩ rfl rfl (Nat.le_of_ble_eq_true rfl) ?_
    show bq_W _ _ _ _ _ 99 _ [_] _ _ _ _ _ _
    refine q_i2l (pc := 99) dX11_account_99 ?_
    exact q_lret (st := []) (pc := 100) dX11_account_100 rfl ⟨by rw [r_account_in (by decide)]; exact congrArg (fun z => some (Value.long z)) (acc_s hG (by decide) hb2), rfl, rfl, rfl, rfl, rfl⟩
  by_cases s1_3 : k = nI 3
  · refine q_tableIn (pc := 1) (off := 100) 101 dX11_account_1 (by rw [s1_3]; decide) (by rw [s1_3]; decide) (by rw [s1_3]; rfl) (by decide) ?_
    subst s1_3
    refine q_aload_n (pc := 101) dX11_account_101 rfl rfl ?_
    refine q_getP (pc := 102) dX11_account_102 fX11_10 (Cellar_sh hx) ⟨by decide, rfl⟩ (Cellar_lt hx) (Cellar_p_state hx) ?_
    refine q_getP (pc := 105) dX11_account_105 fX11_309 (State_sh (Cellar_s_state hx)) ⟨by decide, rfl⟩ (State_lt (Cellar_s_state hx)) (State_p_lostFor (Cellar_s_state hx)) ?_
    refine q_iload_n (pc := 108) dX11_account_108 rfl rfl ?_
    refine q_iconst (pc := 109) (v := nI 3) dX11_account_109 (by decide) ?_
    refine q_isub (pc := 110) dX11_account_110 ?_
    rw [pk_sub (by decide)]
    refine q_iald (pc := 111) dX11_account_111 (oA_sh (State_s_lostFor (Cellar_s_state hx))) (oA_lt (State_s_lostFor (Cellar_s_state hx))) rfl (by omega) ?_
    refine q_i2l (pc := 112) dX11_account_112 ?_
    exact q_lret (st := []) (pc := 113) dX11_account_113 rfl ⟨by rw [r_account_in (by decide)]; first | (exact congrArg (fun z => some (Value.long (Int32.toInt64 z))) (hC.1.at (lc_L (r := 0) (by decide)))) | (exact congrArg (fun z => some (Value.long (Int32.toInt64 z))) (hC.1.at (lc_L (r := 1) (by decide)))) | (exact congrArg (fun z => some (Value.long (Int32.toInt64 z))) (hC.1.at (lc_L (r := 2) (by decide)))) | (exact congrArg (fun z => some (Value.long (Int32.toInt64 z))) (hC.1.at (lc_L (r := 3) (by decide)))), rfl, rfl, rfl, rfl, rfl⟩
  by_cases s1_4 : k = nI 4
  · refine q_tableIn (pc := 1) (off := 100) 101 dX11_account_1 (by rw [s1_4]; decide) (by rw [s1_4]; decide) (by rw [s1_4]; rfl) (by decide) ?_
    subst s1_4
    refine q_aload_n (pc := 101) dX11_account_101 rfl rfl ?_
    refine q_getP (pc := 102) dX11_account_102 fX11_10 (Cellar_sh hx) ⟨by decide, rfl⟩ (Cellar_lt hx) (Cellar_p_state hx) ?_
    refine q_getP (pc := 105) dX11_account_105 fX11_309 (State_sh (Cellar_s_state hx)) ⟨by decide, rfl⟩ (State_lt (Cellar_s_state hx)) (State_p_lostFor (Cellar_s_state hx)) ?_
    refine q_iload_n (pc := 108) dX11_account_108 rfl rfl ?_
    refine q_iconst (pc := 109) (v := nI 3) dX11_account_109 (by decide) ?_
    refine q_isub (pc := 110) dX11_account_110 ?_
    rw [pk_sub (by decide)]
    refine q_iald (pc := 111) dX11_account_111 (oA_sh (State_s_lostFor (Cellar_s_state hx))) (oA_lt (State_s_lostFor (Cellar_s_state hx))) rfl (by omega) ?_
    refine q_i2l (pc := 112) dX11_account_112 ?_
    exact q_lret (st := []) (pc := 113) dX11_account_113 rfl ⟨by rw [r_account_in (by decide)]; first | (exact congrArg (fun z => some (Value.long (Int32.toInt64 z))) (hC.1.at (lc_L (r := 0) (by decide)))) | (exact congrArg (fun z => some (Value.long (Int32.toInt64 z))) (hC.1.at (lc_L (r := 1) (by decide)))) | (exact congrArg (fun z => some (Value.long (Int32.toInt64 z))) (hC.1.at (lc_L (r := 2) (by decide)))) | (exact congrArg (fun z => some (Value.long (Int32.toInt64 z))) (hC.1.at (lc_L (r := 3) (by decide)))), rfl, rfl, rfl, rfl, rfl⟩
  by_cases s1_5 : k = nI 5
  · refine q_tableIn (pc := 1) (off := 100) 101 dX11_account_1 (by rw [s1_5]; decide) (by rw [s1_5]; decide) (by rw [s1_5]; rfl) (by decide) ?_
    subst s1_5
    refine q_aload_n (pc := 101) dX11_account_101 rfl rfl ?_
    refine q_getP (pc := 102) dX11_account_102 fX11_10 (Cellar_sh hx) ⟨by decide, rfl⟩ (Cellar_lt hx) (Cellar_p_state hx) ?_
    refine q_getP (pc := 105) dX11_account_105 fX11_309 (State_sh (Cellar_s_state hx)) ⟨by decide, rfl⟩ (State_lt (Cellar_s_state hx)) (State_p_lostFor (Cellar_s_state hx)) ?_
    refine q_iload_n (pc := 108) dX11_account_108 rfl rfl ?_
    refine q_iconst (pc := 109) (v := nI 3) dX11_account_109 (by decide) ?_
    refine q_isub (pc := 110) dX11_account_110 ?_
    rw [pk_sub (by decide)]
    refine q_iald (pc := 111) dX11_account_111 (oA_sh (State_s_lostFor (Cellar_s_state hx))) (oA_lt (State_s_lostFor (Cellar_s_state hx))) rfl (by omega) ?_
    refine q_i2l (pc := 112) dX11_account_112 ?_
    exact q_lret (st := []) (pc := 113) dX11_account_113 rfl ⟨by rw [r_account_in (by decide)]; first | (exact congrArg (fun z => some (Value.long (Int32.toInt64 z))) (hC.1.at (lc_L (r := 0) (by decide)))) | (exact congrArg (fun z => some (Value.long (Int32.toInt64 z))) (hC.1.at (lc_L (r := 1) (by decide)))) | (exact congrArg (fun z => some (Value.long (Int32.toInt64 z))) (hC.1.at (lc_L (r := 2) (by decide)))) | (exact congrArg (fun z => some (Value.long (Int32.toInt64 z))) (hC.1.at (lc_L (r := 3) (by decide)))), rfl, rfl, rfl, rfl, rfl⟩
  by_cases s1_6 : k = nI 6
  · refine q_tableIn (pc := 1) (off := 100) 101 dX11_account_1 (by rw [s1_6]; decide) (by rw [s1_6]; decide) (by rw [s1_6]; rfl) (by decide) ?_
    subst s1_6
    refine q_aload_n (pc := 101) dX11_account_101 rfl rfl ?_
    refine q_getP (pc := 102) dX11_account_102 fX11_10 (Cellar_sh hx) ⟨by decide, rfl⟩ (Cellar_lt hx) (Cellar_p_state hx) ?_
    refine q_getP (pc := 105) dX11_account_105 fX11_309 (State_sh (Cellar_s_state hx)) ⟨by decide, rfl⟩ (State_lt (Cellar_s_state hx)) (State_p_lostFor (Cellar_s_state hx)) ?_
    refine q_iload_n (pc := 108) dX11_account_108 rfl rfl ?_
    refine q_iconst (pc := 109) (v := nI 3) dX11_account_109 (by decide) ?_
    refine q_isub (pc := 110) dX11_account_110 ?_
    rw [pk_sub (by decide)]
    refine q_iald (pc := 111) dX11_account_111 (oA_sh (State_s_lostFor (Cellar_s_state hx))) (oA_lt (State_s_lostFor (Cellar_s_state hx))) rfl (by omega) ?_
    refine q_i2l (pc := 112) dX11_account_112 ?_
    exact q_lret (st := []) (pc := 113) dX11_account_113 rfl ⟨by rw [r_account_in (by decide)]; first | (exact congrArg (fun z => some (Value.long (Int32.toInt64 z))) (hC.1.at (lc_L (r := 0) (by decide)))) | (exact congrArg (fun z => some (Value.long (Int32.toInt64 z))) (hC.1.at (lc_L (r := 1) (by decide)))) | (exact congrArg (fun z => some (Value.long (Int32.toInt64 z))) (hC.1.at (lc_L (r := 2) (by decide)))) | (exact congrArg (fun z => some (Value.long (Int32.toInt64 z))) (hC.1.at (lc_L (r := 3) (by decide)))), rfl, rfl, rfl, rfl, rfl⟩
  by_cases s1_7 : k = nI 7
  · refine q_tableIn (pc := 1) (off := 113) 114 dX11_account_1 (by rw [s1_7]; decide) (by rw [s1_7]; decide) (by rw [s1_7]; rfl) (by decide) ?_
    subst s1_7
    refine q_aload_n (pc := 114) dX11_account_114 rfl rfl ?_
    refine q_getP (pc := 115) dX11_account_115 fX11_10 (Cellar_sh hx) ⟨by decide, rfl⟩ (Cellar_lt hx) (Cellar_p_state hx) ?_
    refine q_getP (pc := 118) dX11_account_118 fX11_245 (State_sh (Cellar_s_state hx)) ⟨by decide, rfl⟩ (State_lt (Cellar_s_state hx)) (State_p_brewed (Cellar_s_state hx)) ?_
    refine q_aload_n (pc := 121) dX11_account_121 rfl rfl ?_
    refine q_getP (pc := 122) dX11_account_122 fX11_10 (Cellar_sh hx) ⟨by decide, rfl⟩ (Cellar_lt hx) (Cellar_p_state hx) ?_
    refine q_getP (pc := 125) dX11_account_125 fX11_233 (State_sh (Cellar_s_state hx)) ⟨by decide, rfl⟩ (State_lt (Cellar_s_state hx)) (State_p_strengths (Cellar_s_state hx)) ?_
    refine q_callVF (pc := 128) dX11_account_128 kX11_312 (c_X0_alcohol (State_s_brewed (Cellar_s_state hx)) (State_s_strengths (Cellar_s_state hx))) (Blend_sh (State_s_brewed (Cellar_s_state hx))) rfl (Blend_lt (State_s_brewed (Cellar_s_state hx))) ⟨Nat.le_of_ble_eq_true rfl, Nat.le_of_ble_eq_true rfl⟩ rfl rfl (Nat.le_of_ble_eq_true rfl) ?_
    show bq_W _ _ _ _ _ 131 _ [_] _ _ _ _ _ _
    exact q_lret (st := []) (pc := 131) dX11_account_131 rfl ⟨by rw [r_account_in (by decide)]; exact congrArg (fun z => some (Value.long z)) (acc_a hG (by decide) hb0 hst), rfl, rfl, rfl, rfl, rfl⟩
  by_cases s1_8 : k = nI 8
  · refine q_tableIn (pc := 1) (off := 131) 132 dX11_account_1 (by rw [s1_8]; decide) (by rw [s1_8]; decide) (by rw [s1_8]; rfl) (by decide) ?_
    subst s1_8
    refine q_aload_n (pc := 132) dX11_account_132 rfl rfl ?_
    refine q_getP (pc := 133) dX11_account_133 fX11_10 (Cellar_sh hx) ⟨by decide, rfl⟩ (Cellar_lt hx) (Cellar_p_state hx) ?_
    refine q_callVF (pc := 136) dX11_account_136 kX11_316 (c_X8_alcoholInTanks (Cellar_s_state hx)) (State_sh (Cellar_s_state hx)) rfl (State_lt (Cellar_s_state hx)) ⟨Nat.le_of_ble_eq_true rfl, Nat.le_of_ble_eq_true rfl⟩ rfl rfl (Nat.le_of_ble_eq_true rfl) ?_
    show bq_W _ _ _ _ _ 139 _ [_] _ _ _ _ _ _
    exact q_lret (st := []) (pc := 139) dX11_account_139 rfl ⟨by rw [r_account_in (by decide)]; exact congrArg (fun z => some (Value.long z)) (acc_at hG hpt hst), rfl, rfl, rfl, rfl, rfl⟩
  by_cases s1_9 : k = nI 9
  · refine q_tableIn (pc := 1) (off := 139) 140 dX11_account_1 (by rw [s1_9]; decide) (by rw [s1_9]; decide) (by rw [s1_9]; rfl) (by decide) ?_
    subst s1_9
    refine q_aload_n (pc := 140) dX11_account_140 rfl rfl ?_
    refine q_getP (pc := 141) dX11_account_141 fX11_10 (Cellar_sh hx) ⟨by decide, rfl⟩ (Cellar_lt hx) (Cellar_p_state hx) ?_
    refine q_getP (pc := 144) dX11_account_144 fX11_251 (State_sh (Cellar_s_state hx)) ⟨by decide, rfl⟩ (State_lt (Cellar_s_state hx)) (State_p_filled (Cellar_s_state hx)) ?_
    refine q_aload_n (pc := 147) dX11_account_147 rfl rfl ?_
    refine q_getP (pc := 148) dX11_account_148 fX11_10 (Cellar_sh hx) ⟨by decide, rfl⟩ (Cellar_lt hx) (Cellar_p_state hx) ?_
    refine q_getP (pc := 151) dX11_account_151 fX11_233 (State_sh (Cellar_s_state hx)) ⟨by decide, rfl⟩ (State_lt (Cellar_s_state hx)) (State_p_strengths (Cellar_s_state hx)) ?_
    refine q_callVF (pc := 154) dX11_account_154 kX11_312 (c_X0_alcohol (State_s_filled (Cellar_s_state hx)) (State_s_strengths (Cellar_s_state hx))) (Blend_sh (State_s_filled (Cellar_s_state hx))) rfl (Blend_lt (State_s_filled (Cellar_s_state hx))) ⟨Nat.le_of_ble_eq_true rfl, Nat.le_of_ble_eq_true rfl⟩ rfl rfl (Nat.le_of_ble_eq_true rfl) ?_
    show bq_W _ _ _ _ _ 157 _ [_] _ _ _ _ _ _
    exact q_lret (st := []) (pc := 157) dX11_account_157 rfl ⟨by rw [r_account_in (by decide)]; exact congrArg (fun z => some (Value.long z)) (acc_a hG (by decide) hb2 hst), rfl, rfl, rfl, rfl, rfl⟩
  by_cases s1_10 : k = nI 10
  · refine q_tableIn (pc := 1) (off := 157) 158 dX11_account_1 (by rw [s1_10]; decide) (by rw [s1_10]; decide) (by rw [s1_10]; rfl) (by decide) ?_
    subst s1_10
    refine q_aload_n (pc := 158) dX11_account_158 rfl rfl ?_
    refine q_getP (pc := 159) dX11_account_159 fX11_10 (Cellar_sh hx) ⟨by decide, rfl⟩ (Cellar_lt hx) (Cellar_p_state hx) ?_
    refine q_getP (pc := 162) dX11_account_162 fX11_254 (State_sh (Cellar_s_state hx)) ⟨by decide, rfl⟩ (State_lt (Cellar_s_state hx)) (State_p_lost (Cellar_s_state hx)) ?_
    refine q_aload_n (pc := 165) dX11_account_165 rfl rfl ?_
    refine q_getP (pc := 166) dX11_account_166 fX11_10 (Cellar_sh hx) ⟨by decide, rfl⟩ (Cellar_lt hx) (Cellar_p_state hx) ?_
    refine q_getP (pc := 169) dX11_account_169 fX11_233 (State_sh (Cellar_s_state hx)) ⟨by decide, rfl⟩ (State_lt (Cellar_s_state hx)) (State_p_strengths (Cellar_s_state hx)) ?_
    refine q_callVF (pc := 172) dX11_account_172 kX11_312 (c_X0_alcohol (State_s_lost (Cellar_s_state hx)) (State_s_strengths (Cellar_s_state hx))) (Blend_sh (State_s_lost (Cellar_s_state hx))) rfl (Blend_lt (State_s_lost (Cellar_s_state hx))) ⟨Nat.le_of_ble_eq_true rfl, Nat.le_of_ble_eq_true rfl⟩ rfl rfl (Nat.le_of_ble_eq_true rfl) ?_
    show bq_W _ _ _ _ _ 175 _ [_] _ _ _ _ _ _
    exact q_lret (st := []) (pc := 175) dX11_account_175 rfl ⟨by rw [r_account_in (by decide)]; exact congrArg (fun z => some (Value.long z)) (acc_a hG (by decide) hb3 hst), rfl, rfl, rfl, rfl, rfl⟩
  by_cases s1_11 : k = nI 11
  · refine q_tableIn (pc := 1) (off := 175) 176 dX11_account_1 (by rw [s1_11]; decide) (by rw [s1_11]; decide) (by rw [s1_11]; rfl) (by decide) ?_
    subst s1_11
    refine q_aload_n (pc := 176) dX11_account_176 rfl rfl ?_
    refine q_getP (pc := 177) dX11_account_177 fX11_10 (Cellar_sh hx) ⟨by decide, rfl⟩ (Cellar_lt hx) (Cellar_p_state hx) ?_
    refine q_callVF (pc := 180) dX11_account_180 kX11_179 (c_X8_openOrders (Cellar_s_state hx) hoc h2l) (State_sh (Cellar_s_state hx)) rfl (State_lt (Cellar_s_state hx)) ⟨Nat.le_of_ble_eq_true rfl, Nat.le_of_ble_eq_true rfl⟩ rfl rfl (Nat.le_of_ble_eq_true rfl) ?_
    show bq_W _ _ _ _ _ 183 _ [_] _ _ _ _ _ _
    refine q_i2l (pc := 183) dX11_account_183 ?_
    exact q_lret (st := []) (pc := 184) dX11_account_184 rfl ⟨by rw [r_account_in (by decide)]; exact congrArg (fun z => some (Value.long z)) (acc_o h2l ho4), rfl, rfl, rfl, rfl, rfl⟩
  by_cases s1_12 : k = nI 12
  · refine q_tableIn (pc := 1) (off := 184) 185 dX11_account_1 (by rw [s1_12]; decide) (by rw [s1_12]; decide) (by rw [s1_12]; rfl) (by decide) ?_
    subst s1_12
    refine q_aload_n (pc := 185) dX11_account_185 rfl rfl ?_
    refine q_getP (pc := 186) dX11_account_186 fX11_10 (Cellar_sh hx) ⟨by decide, rfl⟩ (Cellar_lt hx) (Cellar_p_state hx) ?_
    refine q_callVF (pc := 189) dX11_account_189 kX11_319 (c_X8_openLitres (Cellar_s_state hx) hoc h2l) (State_sh (Cellar_s_state hx)) rfl (State_lt (Cellar_s_state hx)) ⟨Nat.le_of_ble_eq_true rfl, Nat.le_of_ble_eq_true rfl⟩ rfl rfl (Nat.le_of_ble_eq_true rfl) ?_
    show bq_W _ _ _ _ _ 192 _ [_] _ _ _ _ _ _
    refine q_i2l (pc := 192) dX11_account_192 ?_
    exact q_lret (st := []) (pc := 193) dX11_account_193 rfl ⟨by rw [r_account_in (by decide)]; exact congrArg (fun z => some (Value.long z)) (acc_l hG h2l ho4 ho1), rfl, rfl, rfl, rfl, rfl⟩
  refine q_tableOut (pc := 1) 194 dX11_account_1 (bq_out 12 (by decide) (fun j hj => match j, hj with | 0, _ => s1_0 | 1, _ => s1_1 | 2, _ => s1_2 | 3, _ => s1_3 | 4, _ => s1_4 | 5, _ => s1_5 | 6, _ => s1_6 | 7, _ => s1_7 | 8, _ => s1_8 | 9, _ => s1_9 | 10, _ => s1_10 | 11, _ => s1_11 | 12, _ => s1_12 | j + 13, hj => absurd hj (by omega))) (by decide) ?_
  have hk : k < nI 0 ∨ ¬ k ≤ nI 12 := (bq_in5 k 12 (by decide)).resolve_right (fun ⟨q, hq, e⟩ => match q, hq, e with | 0, _, e => s1_0 e | 1, _, e => s1_1 e | 2, _, e => s1_2 e | 3, _, e => s1_3 e | 4, _, e => s1_4 e | 5, _, e => s1_5 e | 6, _, e => s1_6 e | 7, _, e => s1_7 e | 8, _, e => s1_8 e | 9, _, e => s1_9 e | 10, _, e => s1_10 e | 11, _, e => s1_11 e | 12, _, e => s1_12 e | q + 13, hq, _ => absurd hq (by omega))
  refine q_ldc2 (pc := 194) dX11_account_194 lX11_292 ?_
  exact q_lret (st := []) (pc := 197) dX11_account_197 rfl ⟨by rw [r_account_out hk], rfl, rfl, rfl, rfl, rfl⟩
/-! the text of a run, read: pure, and the class's reading -/
def hr (B : Nat → Int32) (l p : Nat) : Int32 := if p < l then B p else (-1)
abbrev dgt (x : Int32) : Prop := ¬ (x < nI 48 ∨ ¬ x ≤ nI 57)
abbrev BqT : Type := Nat × Bool
abbrev BqC : Type := Int32 × Int32 × Int32 × Int32
section
variable (B : Nat → Int32) (l : Nat)
abbrev pg (s : BqT) : Prop := s.2 = false ∧ dgt (hr B l s.1)
def pS (c : Int32) (s : BqT) : BqT := if s.2 = false ∧ hr B l s.1 = c then (s.1 + 1, false) else (s.1, true)
def pD (s : BqT) : Int32 × BqT := if pg B l s then (hr B l s.1 - nI 48, (s.1 + 1, false)) else (nI 0, (s.1, true))
def pL : Nat → Int32 → BqT → Int32 × BqT
  | 0, v, s => (v, s)
  | k + 1, v, s => if pg B l s then pL k (v * nI 10 + (hr B l s.1 - nI 48)) (s.1 + 1, false) else (v, s)
def pN (s : BqT) : Int32 × BqT := pL B l 3 (pD B l s).1 (pD B l s).2
def pc_c (s : BqT) : BqT × BqC := ((pD B l s).2, (nI 99, (pD B l s).1, nI 0, nI 0))
def pc_d (s : BqT) : BqT × BqC := ((pN B l s).2, (nI 100, nI 0, nI 0, (pN B l s).1))
def pc_f (s : BqT) : BqT × BqC := ((pN B l (pS B l (nI 35) (pD B l s).2)).2, (nI 102, (pD B l s).1, nI 0, (pN B l (pS B l (nI 35) (pD B l s).2)).1))
def pc_l (s : BqT) : BqT × BqC := ((pD B l (pS B l (nI 47) (pN B l (pS B l (nI 58) (pD B l s).2)).2)).2, (nI 108, (pD B l s).1, (pD B l (pS B l (nI 47) (pN B l (pS B l (nI 58) (pD B l s).2)).2)).1, (pN B l (pS B l (nI 58) (pD B l s).2)).1))
def pc_t (s : BqT) : BqT × BqC := ((pN B l (pS B l (nI 58) (pD B l (pS B l (nI 62) (pD B l s).2)).2)).2, (nI 116, (pD B l s).1, (pD B l (pS B l (nI 62) (pD B l s).2)).1, (pN B l (pS B l (nI 58) (pD B l (pS B l (nI 62) (pD B l s).2)).2)).1))
def pC (p : Nat) : BqT × BqC := if hr B l p = nI 99 then pc_c B l (p + 1, false) else if hr B l p = nI 100 then pc_d B l (p + 1, false) else if hr B l p = nI 102 then pc_f B l (p + 1, false) else if hr B l p = nI 108 then pc_l B l (p + 1, false) else if hr B l p = nI 116 then pc_t B l (p + 1, false) else ((p, true), (nI 0, nI 0, nI 0, nI 0))
/-- at most k commands from the i-th on: right?, place, how many, the commands -/
def pR : Nat → Nat → Nat → (Nat → BqC) → Bool × Nat × Nat × (Nat → BqC)
  | 0, i, p, cs => (false, p, i, cs)
  | k + 1, i, p, cs => if (pC B l p).1.2 = true then (false, (pC B l p).1.1, i, cs) else if l ≤ (pC B l p).1.1 then (true, (pC B l p).1.1, i + 1, bq_r cs i (pC B l p).2) else if hr B l (pC B l p).1.1 = nI 59 then pR k (i + 1) ((pC B l p).1.1 + 1) (bq_r cs i (pC B l p).2) else (false, (pC B l p).1.1, i + 1, cs)
end
theorem hr_in {B : Nat → Int32} {l p : Nat} (h : p < l) : hr B l p = B p := if_pos h
theorem hr_no {B : Nat → Int32} {l p : Nat} (h : ¬ p < l) : hr B l p = (-1) := if_neg h
theorem hr_lt {B : Nat → Int32} {l p k : Nat} (hk : k < 128) (h : hr B l p = nI k) : p < l := by
  refine Decidable.byContradiction fun q => ?_
  rw [hr_no q] at h
  have := congrArg Int32.toInt h
  rw [nI_toInt (by omega)] at this
  rw [show (-1 : Int32).toInt = -1 from rfl] at this
  omega
theorem dgt_lt {B : Nat → Int32} {l p : Nat} (h : dgt (hr B l p)) : p < l := by
  refine Decidable.byContradiction fun q => h (Or.inl ?_)
  rw [hr_no q]
  decide
theorem dgt_5 : ¬ dgt (-5) := fun h => h (Or.inl (by decide))
/-! how far reading goes -/
section
variable {B : Nat → Int32} {l : Nat}
theorem pS_le {k : Nat} (hk : k < 128) {s : BqT} (h : s.1 ≤ l) : s.1 ≤ (pS B l (nI k) s).1 ∧ (pS B l (nI k) s).1 ≤ l := by
  unfold pS
  by_cases c : s.2 = false ∧ hr B l s.1 = nI k
  · rw [if_pos c]
    have := hr_lt hk c.2
    exact ⟨by show s.1 ≤ s.1 + 1; omega, by show s.1 + 1 ≤ l; omega⟩
  · rw [if_neg c]
    exact ⟨Nat.le_refl _, h⟩
theorem pD_le {s : BqT} (h : s.1 ≤ l) : s.1 ≤ (pD B l s).2.1 ∧ (pD B l s).2.1 ≤ l ∧ ((pD B l s).2.2 = false → s.1 + 1 ≤ (pD B l s).2.1) := by
  unfold pD
  by_cases c : pg B l s
  · rw [if_pos c]
    have := dgt_lt c.2
    exact ⟨by show s.1 ≤ s.1 + 1; omega, by show s.1 + 1 ≤ l; omega, fun _ => Nat.le_refl _⟩
  · rw [if_neg c]
    exact ⟨Nat.le_refl _, h, fun q => Bool.noConfusion q⟩
theorem pL_le : ∀ (k : Nat) (v : Int32) (s : BqT), s.1 ≤ l → s.1 ≤ (pL B l k v s).2.1 ∧ (pL B l k v s).2.1 ≤ l ∧ ((pL B l k v s).2.2 = s.2)
  | 0, v, s, h => ⟨Nat.le_refl _, h, rfl⟩
  | k + 1, v, s, h => by
    by_cases c : pg B l s
    · rw [show pL B l (k + 1) v s = pL B l k (v * nI 10 + (hr B l s.1 - nI 48)) (s.1 + 1, false) from if_pos c]
      have hl := dgt_lt c.2
      have ih := pL_le k (v * nI 10 + (hr B l s.1 - nI 48)) (s.1 + 1, false) (by show s.1 + 1 ≤ l; omega)
      have i1 : s.1 + 1 ≤ _ := ih.1
      exact ⟨by omega, ih.2.1, by rw [ih.2.2, c.1]⟩
    · rw [show pL B l (k + 1) v s = (v, s) from if_neg c]
      exact ⟨Nat.le_refl _, h, rfl⟩
theorem pN_le {s : BqT} (h : s.1 ≤ l) : s.1 ≤ (pN B l s).2.1 ∧ (pN B l s).2.1 ≤ l ∧ ((pN B l s).2.2 = false → s.1 + 1 ≤ (pN B l s).2.1) := by
  have d := pD_le (B := B) h
  have e := pL_le (B := B) 3 (pD B l s).1 (pD B l s).2 d.2.1
  unfold pN
  exact ⟨by omega, e.2.1, fun q => by have := d.2.2 (e.2.2 ▸ q); omega⟩
theorem pC_le {p : Nat} (h : p ≤ l) : p ≤ (pC B l p).1.1 ∧ (pC B l p).1.1 ≤ l ∧ ((pC B l p).1.2 = false → p + 2 ≤ (pC B l p).1.1) := by
  unfold pC
  have hp : ∀ k, k < 128 → hr B l p = nI k → (p + 1, false).1 ≤ l := fun k hk e => hr_lt hk e
  split
  · rename_i c
    have d := pD_le (B := B) (hp 99 (by decide) c)
    have d1 : p + 1 ≤ _ := d.1
    exact ⟨by show p ≤ (pD B l (p + 1, false)).2.1; omega, d.2.1, d.2.2⟩
  · split
    · rename_i c
      have d := pN_le (B := B) (hp 100 (by decide) c)
      have d1 : p + 1 ≤ _ := d.1
      exact ⟨by show p ≤ (pN B l (p + 1, false)).2.1; omega, d.2.1, d.2.2⟩
    · split
      · rename_i c
        have d := pD_le (B := B) (hp 102 (by decide) c)
        have d1 : p + 1 ≤ _ := d.1
        have e := pS_le (B := B) (k := 35) (by decide) d.2.1
        have f := pN_le (B := B) e.2
        exact ⟨by show p ≤ (pN B l (pS B l (nI 35) (pD B l (p + 1, false)).2)).2.1; omega, f.2.1, fun q => by have := f.2.2 q; show p + 2 ≤ (pN B l (pS B l (nI 35) (pD B l (p + 1, false)).2)).2.1; omega⟩
      · split
        · rename_i c
          have d := pD_le (B := B) (hp 108 (by decide) c)
          have d1 : p + 1 ≤ _ := d.1
          have e := pS_le (B := B) (k := 58) (by decide) d.2.1
          have f := pN_le (B := B) e.2
          have e2 := pS_le (B := B) (k := 47) (by decide) f.2.1
          have f2 := pD_le (B := B) e2.2
          exact ⟨by show p ≤ (pD B l (pS B l (nI 47) (pN B l (pS B l (nI 58) (pD B l (p + 1, false)).2)).2)).2.1; omega, f2.2.1, fun q => by have := f2.2.2 q; show p + 2 ≤ (pD B l (pS B l (nI 47) (pN B l (pS B l (nI 58) (pD B l (p + 1, false)).2)).2)).2.1; omega⟩
        · split
          · rename_i c
            have d := pD_le (B := B) (hp 116 (by decide) c)
            have d1 : p + 1 ≤ _ := d.1
            have e := pS_le (B := B) (k := 62) (by decide) d.2.1
            have f := pD_le (B := B) e.2
            have e2 := pS_le (B := B) (k := 58) (by decide) f.2.1
            have f2 := pN_le (B := B) e2.2
            exact ⟨by show p ≤ (pN B l (pS B l (nI 58) (pD B l (pS B l (nI 62) (pD B l (p + 1, false)).2)).2)).2.1; omega, f2.2.1, fun q => by have := f2.2.2 q; show p + 2 ≤ (pN B l (pS B l (nI 58) (pD B l (pS B l (nI 62) (pD B l (p + 1, false)).2)).2)).2.1; omega⟩
          · exact ⟨Nat.le_refl _, h, fun q => Bool.noConfusion q⟩
theorem pC_end {p : Nat} (h : l ≤ p) : (pC B l p).1 = (p, true) := by
  have e : hr B l p = (-1) := hr_no (by omega)
  unfold pC
  rw [e, if_neg (by decide), if_neg (by decide), if_neg (by decide), if_neg (by decide), if_neg (by decide)]
end
/-! the class's tape -/
def TS (I : BqI) (t : Nat) (B : Nat → Int32) (l : Nat) (s : BqT) : Prop := I t 0 = nI l ∧ I (t + 1) = B ∧ I t 2 = nI s.1 ∧ I t 3 = (if s.2 = true then nI 1 else nI 0) ∧ s.1 ≤ l ∧ l ≤ 60
section
variable {I : BqI} {t : Nat} {B : Nat → Int32} {l : Nat} {s : BqT}
theorem tn_f (h : TS I t B l s) (hs : s.2 = false) : tn I t = if s.1 < l then B s.1 else (-5) := by
  obtain ⟨h0, h1, h2, h3, h4, h5⟩ := h
  rw [hs, if_neg (by decide)] at h3
  unfold tn
  rw [h0, h2, h3, if_neg (by decide), if_neg (nI_pos (by omega))]
  by_cases c : s.1 < l
  · rw [if_neg (nI_ge c (by omega)), if_neg (nI_ge (show s.1 < 60 by omega) (by decide)), h1, nI_clamp (by omega), if_pos c]
  · rw [if_pos (nI_le (by omega) (by omega)), if_neg c]
theorem tn_t (h : TS I t B l s) (hs : s.2 = true) : tn I t = (-5) := by
  have h3 := h.2.2.2.1
  rw [hs, if_pos rfl] at h3
  unfold tn
  rw [h3, if_pos (by decide)]
theorem tn_eq (h : TS I t B l s) {k : Nat} (hk : k < 128) : tn I t = nI k ↔ (s.2 = false ∧ hr B l s.1 = nI k) := by
  have n5 : ¬ (-5 : Int32) = nI k := fun e => by
    have := congrArg Int32.toInt e
    rw [nI_toInt (by omega), show (-5 : Int32).toInt = -5 from rfl] at this
    omega
  by_cases hs : s.2 = false
  · rw [tn_f h hs]
    by_cases c : s.1 < l
    · rw [if_pos c, hr_in c]
      exact ⟨fun e => ⟨hs, e⟩, fun e => e.2⟩
    · rw [if_neg c]
      exact ⟨fun e => absurd e n5, fun e => absurd (hr_lt hk e.2) c⟩
  · rw [tn_t h (by simpa using hs)]
    exact ⟨fun e => absurd e n5, fun e => absurd e.1 hs⟩
theorem tdg_pg (h : TS I t B l s) : tdg I t = true ↔ pg B l s := by
  have key : tdg I t = true ↔ dgt (tn I t) := by
    unfold tdg
    rw [Bool.and_eq_true, decide_eq_true_iff, decide_eq_true_iff, Int32.not_lt]
    show _ ↔ ¬ (tn I t < nI 48 ∨ ¬ tn I t ≤ nI 57)
    rw [Int32.not_lt]
    constructor
    · rintro ⟨a, b⟩ (c | c)
      · exact absurd c (Int32.not_lt.mpr a)
      · exact c b
    · intro c
      exact ⟨Int32.not_lt.mp (fun z => c (Or.inl z)), Decidable.byContradiction (fun z => c (Or.inr z))⟩
  rw [key]
  by_cases hs : s.2 = false
  · rw [tn_f h hs]
    by_cases c : s.1 < l
    · rw [if_pos c, ← hr_in (B := B) c]
      exact ⟨fun e => ⟨hs, e⟩, fun e => e.2⟩
    · rw [if_neg c]
      exact ⟨fun e => absurd e dgt_5, fun e => absurd (dgt_lt e.2) c⟩
  · rw [tn_t h (by simpa using hs)]
    exact ⟨fun e => absurd e dgt_5, fun e => absurd e.1 hs⟩
theorem TS.ta (h : TS I t B l s) (hs : s.2 = false) (hl : s.1 < l) : TS (ta_I I t) t B l (s.1 + 1, false) := by
  obtain ⟨h0, h1, h2, h3, h4, h5⟩ := h
  unfold ta_I
  refine ⟨(bq_u_no (by omega)).trans h0, (bq_u_ne (by omega)).trans h1, ?_, ?_, hl, h5⟩
  · rw [bq_u_at, h2, nI_add]
  · rw [bq_u_no (by omega), h3, hs]
theorem TS.wr (h : TS I t B l s) : TS (bq_u I t 3 (nI 1)) t B l (s.1, true) := by
  obtain ⟨h0, h1, h2, h3, h4, h5⟩ := h
  exact ⟨(bq_u_no (by omega)).trans h0, (bq_u_ne (by omega)).trans h1, (bq_u_no (by omega)).trans h2, (bq_u_at _ _ _ _).trans (if_pos rfl).symm, h4, h5⟩
theorem TS.fr {I' : BqI} (h : TS I t B l s) (e0 : I' t = I t) (e1 : I' (t + 1) = I (t + 1)) : TS I' t B l s := by
  obtain ⟨h0, h1, h2, h3, h4, h5⟩ := h
  exact ⟨by rw [e0]; exact h0, e1.trans h1, by rw [e0]; exact h2, by rw [e0]; exact h3, h4, h5⟩
theorem TS.rs (h : TS I t B l s) {k : Nat} (hk : k < 128) : TS (rs_I I t (nI k)) t B l (pS B l (nI k) s) := by
  unfold rs_I pS
  by_cases c : s.2 = false ∧ hr B l s.1 = nI k
  · rw [if_pos ((tn_eq h hk).mpr c), if_pos c]
    exact h.ta c.1 (hr_lt hk c.2)
  · rw [if_neg (fun z => c ((tn_eq h hk).mp z)), if_neg c]
    exact h.wr
theorem tn_pg (h : TS I t B l s) (c : pg B l s) : tn I t = hr B l s.1 := by
  rw [tn_f h c.1, if_pos (dgt_lt c.2), hr_in (dgt_lt c.2)]
theorem TS.rd (h : TS I t B l s) : rd_r I t = (pD B l s).1 ∧ TS (rd_I I t) t B l (pD B l s).2 := by
  unfold rd_r rd_I pD
  by_cases c : pg B l s
  · rw [if_pos ((tdg_pg h).mpr c), if_pos ((tdg_pg h).mpr c), if_pos c, tn_pg h c]
    exact ⟨rfl, h.ta c.1 (dgt_lt c.2)⟩
  · rw [if_neg (fun z => c ((tdg_pg h).mp z)), if_neg (fun z => c ((tdg_pg h).mp z)), if_neg c]
    exact ⟨rfl, h.wr⟩
end
theorem TS.rl {t : Nat} {B : Nat → Int32} {l : Nat} : ∀ (k : Nat) (v : Int32) (I : BqI) (s : BqT), TS I t B l s → (rn_l t k v I).1 = (pL B l k v s).1 ∧ TS (rn_l t k v I).2 t B l (pL B l k v s).2
  | 0, v, I, s, h => ⟨rfl, h⟩
  | k + 1, v, I, s, h => by
    by_cases c : pg B l s
    · rw [rn_t ((tdg_pg h).mpr c), show pL B l (k + 1) v s = pL B l k (v * nI 10 + (hr B l s.1 - nI 48)) (s.1 + 1, false) from if_pos c]
      have d := h.rd
      rw [show pD B l s = (hr B l s.1 - nI 48, (s.1 + 1, false)) from if_pos c] at d
      rw [d.1]
      exact TS.rl k _ _ _ d.2
    · rw [rn_f (fun z => c ((tdg_pg h).mp z)), show pL B l (k + 1) v s = (v, s) from if_neg c]
      exact ⟨rfl, h⟩
theorem TS.rn {I : BqI} {t : Nat} {B : Nat → Int32} {l : Nat} {s : BqT} (h : TS I t B l s) : rn_r I t = (pN B l s).1 ∧ TS (rn_I I t) t B l (pN B l s).2 := by
  have d := h.rd
  unfold rn_r rn_I pN
  rw [← d.1]
  exact TS.rl 3 _ _ _ d.2
/-! frames -/
theorem rs_fr {I : BqI} {t a : Nat} {c : Int32} (h : a ≠ t) : rs_I I t c a = I a := by
  unfold rs_I ta_I
  split <;> exact bq_u_ne h
theorem rd_fr {I : BqI} {t a : Nat} (h : a ≠ t) : rd_I I t a = I a := by
  unfold rd_I ta_I
  split <;> exact bq_u_ne h
theorem rl_fr {t a : Nat} (h : a ≠ t) : ∀ (k : Nat) (v : Int32) (I : BqI), (rn_l t k v I).2 a = I a
  | 0, v, I => rfl
  | k + 1, v, I => by
    by_cases c : tdg I t = true
    · rw [rn_t c, rl_fr h k, rd_fr h]
    · rw [rn_f c]
theorem rn_fr {I : BqI} {t a : Nat} (h : a ≠ t) : rn_I I t a = I a := by
  unfold rn_I
  rw [rl_fr h, rd_fr h]
theorem rcD_fr {I : BqI} {t c k a : Nat} (h : a ≠ t) (h2 : a ≠ c) : rcD I t c k a = I a := by
  unfold rcD
  rw [bq_u_ne h2, rd_fr h]
theorem rcN_fr {I : BqI} {t c k a : Nat} (h : a ≠ t) (h2 : a ≠ c) : rcN I t c k a = I a := by
  unfold rcN
  rw [bq_u_ne h2, rn_fr h]
theorem rcD_no {I : BqI} {t c k j : Nat} (h : c ≠ t) (h2 : j ≠ k) : rcD I t c k c j = I c j := by
  unfold rcD
  rw [bq_u_no (fun z => h2 z.2), rd_fr h]
theorem rcN_no {I : BqI} {t c k j : Nat} (h : c ≠ t) (h2 : j ≠ k) : rcN I t c k c j = I c j := by
  unfold rcN
  rw [bq_u_no (fun z => h2 z.2), rn_fr h]
theorem rcD_at {I : BqI} {t c k : Nat} : rcD I t c k c k = rd_r I t := by unfold rcD; rw [bq_u_at]
theorem rcN_at {I : BqI} {t c k : Nat} : rcN I t c k c k = rn_r I t := by unfold rcN; rw [bq_u_at]
theorem TS.D {I : BqI} {t c k : Nat} {B : Nat → Int32} {l : Nat} {s : BqT} (h : TS I t B l s) (hc : t + 2 < c) : TS (rcD I t c k) t B l (pD B l s).2 := (h.rd.2).fr (by unfold rcD; rw [bq_u_ne (by omega)]) (by unfold rcD; rw [bq_u_ne (by omega)])
theorem TS.N {I : BqI} {t c k : Nat} {B : Nat → Int32} {l : Nat} {s : BqT} (h : TS I t B l s) (hc : t + 2 < c) : TS (rcN I t c k) t B l (pN B l s).2 := (h.rn.2).fr (by unfold rcN; rw [bq_u_ne (by omega)]) (by unfold rcN; rw [bq_u_ne (by omega)])
/-- cell c of the class holds the command k -/
def Cm (I : BqI) (c : Nat) (k : BqC) : Prop := ∀ g : BqG, w_do g (I c 0) (I c 1) (I c 2) (I c 3) = w_do g k.1 k.2.1 k.2.2.1 k.2.2.2
theorem Cm.fr {I I' : BqI} {c : Nat} {k : BqC} (h : Cm I c k) (e : I' c = I c) : Cm I' c k := by
  unfold Cm
  rw [e]
  exact h
theorem wd_99 {g : BqG} {a o v : Int32} : w_do g (nI 99) a o v = w_scrub g a := by
  unfold w_do
  rw [if_neg (by decide), if_neg (by decide), if_neg (by decide), if_pos rfl]
theorem wd_100 {g : BqG} {a o v : Int32} : w_do g (nI 100) a o v = w_pass g v := by
  unfold w_do
  rw [if_neg (by decide), if_neg (by decide), if_neg (by decide), if_neg (by decide)]
theorem wd_102 {g : BqG} {a o v : Int32} : w_do g (nI 102) a o v = w_fill g a v := by
  unfold w_do
  rw [if_neg (by decide), if_neg (by decide), if_pos rfl]
theorem wd_108 {g : BqG} {a o v : Int32} : w_do g (nI 108) a o v = w_spill g a v o := by
  unfold w_do
  rw [if_neg (by decide), if_pos rfl]
theorem wd_116 {g : BqG} {a o v : Int32} : w_do g (nI 116) a o v = w_pour g a o v := by
  unfold w_do
  rw [if_pos rfl]
section
variable {I : BqI} {t c p : Nat} {B : Nat → Int32} {l : Nat}
theorem TS.z0 (h : TS I t B l (p, false)) (hc : t + 2 < c) (hp : p < l) : TS (rc0 I t c) t B l (p + 1, false) ∧ rc0 I t c c 0 = hr B l p := by
  have h2 : TS (bq_u I c 0 (tn I t)) t B l (p, false) := h.fr (bq_u_ne (by omega)) (bq_u_ne (by omega))
  refine ⟨h2.ta rfl hp, ?_⟩
  unfold rc0 ta_I
  rw [bq_u_ne (by omega), bq_u_at, tn_f h rfl]
  exact (if_pos hp).trans (hr_in hp).symm
theorem rc_ok (h : TS I t B l (p, false)) (hc : t + 2 < c) : TS (rc_I I t c) t B l (pC B l p).1 ∧ ((pC B l p).1.2 = false → Cm (rc_I I t c) c (pC B l p).2) ∧ ∀ a, a ≠ t → a ≠ c → rc_I I t c a = I a := by
  have hct : c ≠ t := by omega
  have f0 : ∀ a, a ≠ t → a ≠ c → rc0 I t c a = I a := fun a h1 h2 => by unfold rc0 ta_I; rw [bq_u_ne h1, bq_u_ne h2]
  by_cases hp : p < l
  · obtain ⟨h0, e0⟩ := h.z0 hc hp
    unfold rc_I pC
    rw [e0]
    by_cases c1 : hr B l p = nI 99
    · rw [if_pos c1, if_pos c1]
      refine ⟨h0.D hc, fun _ g => ?_, fun a h1 h2 => by rw [rcD_fr h1 h2, f0 a h1 h2]⟩
      show w_do g _ _ _ _ = w_do g (nI 99) (pD B l (p + 1, false)).1 (nI 0) (nI 0)
      rw [rcD_no hct (by decide), e0, c1, rcD_at, h0.rd.1, wd_99, wd_99]
    rw [if_neg c1, if_neg c1]
    by_cases c2 : hr B l p = nI 100
    · rw [if_pos c2, if_pos c2]
      refine ⟨h0.N hc, fun _ g => ?_, fun a h1 h2 => by rw [rcN_fr h1 h2, f0 a h1 h2]⟩
      show w_do g _ _ _ _ = w_do g (nI 100) (nI 0) (nI 0) (pN B l (p + 1, false)).1
      rw [rcN_no (j := 0) hct (by decide), e0, c2, rcN_at, h0.rn.1, wd_100, wd_100]
    rw [if_neg c2, if_neg c2]
    by_cases c3 : hr B l p = nI 102
    · rw [if_pos c3, if_pos c3]
      have h1 := h0.D (k := 1) hc
      have h2 := h1.rs (k := 35) (by decide)
      refine ⟨h2.N hc, fun _ g => ?_, fun a q1 q2 => by rw [rcN_fr q1 q2, rs_fr q1, rcD_fr q1 q2, f0 a q1 q2]⟩
      show w_do g _ _ _ _ = w_do g (nI 102) (pD B l (p + 1, false)).1 (nI 0) (pN B l (pS B l (nI 35) (pD B l (p + 1, false)).2)).1
      rw [rcN_no (j := 0) hct (by decide), rs_fr hct, rcD_no (j := 0) hct (by decide), e0, c3, rcN_no (j := 1) hct (by decide), rs_fr hct, rcD_at, h0.rd.1, rcN_at, h2.rn.1, wd_102, wd_102]
    rw [if_neg c3, if_neg c3]
    by_cases c4 : hr B l p = nI 108
    · rw [if_pos c4, if_pos c4]
      have h1 := h0.D (k := 1) hc
      have h2 := h1.rs (k := 58) (by decide)
      have h3 := h2.N (k := 3) hc
      have h4 := h3.rs (k := 47) (by decide)
      refine ⟨h4.D hc, fun _ g => ?_, fun a q1 q2 => by rw [rcD_fr q1 q2, rs_fr q1, rcN_fr q1 q2, rs_fr q1, rcD_fr q1 q2, f0 a q1 q2]⟩
      show w_do g _ _ _ _ = w_do g (nI 108) (pD B l (p + 1, false)).1 (pD B l (pS B l (nI 47) (pN B l (pS B l (nI 58) (pD B l (p + 1, false)).2)).2)).1 (pN B l (pS B l (nI 58) (pD B l (p + 1, false)).2)).1
      rw [rcD_no (j := 0) hct (by decide), rs_fr hct, rcN_no (j := 0) hct (by decide), rs_fr hct, rcD_no (j := 0) hct (by decide), e0, c4, rcD_no (j := 1) hct (by decide), rs_fr hct, rcN_no (j := 1) hct (by decide), rs_fr hct, rcD_at, h0.rd.1, rcD_at, h4.rd.1, rcD_no (j := 3) hct (by decide), rs_fr hct, rcN_at, h2.rn.1]
    rw [if_neg c4, if_neg c4]
    by_cases c5 : hr B l p = nI 116
    · rw [if_pos c5, if_pos c5]
      have h1 := h0.D (k := 1) hc
      have h2 := h1.rs (k := 62) (by decide)
      have h3 := h2.D (k := 2) hc
      have h4 := h3.rs (k := 58) (by decide)
      refine ⟨h4.N hc, fun _ g => ?_, fun a q1 q2 => by rw [rcN_fr q1 q2, rs_fr q1, rcD_fr q1 q2, rs_fr q1, rcD_fr q1 q2, f0 a q1 q2]⟩
      show w_do g _ _ _ _ = w_do g (nI 116) (pD B l (p + 1, false)).1 (pD B l (pS B l (nI 62) (pD B l (p + 1, false)).2)).1 (pN B l (pS B l (nI 58) (pD B l (pS B l (nI 62) (pD B l (p + 1, false)).2)).2)).1
      rw [rcN_no (j := 0) hct (by decide), rs_fr hct, rcD_no (j := 0) hct (by decide), rs_fr hct, rcD_no (j := 0) hct (by decide), e0, c5, rcN_no (j := 1) hct (by decide), rs_fr hct, rcD_no (j := 1) hct (by decide), rs_fr hct, rcD_at, h0.rd.1, rcN_no (j := 2) hct (by decide), rs_fr hct, rcD_at, h2.rd.1, rcN_at, h4.rn.1]
    rw [if_neg c5, if_neg c5]
    refine ⟨?_, fun q => Bool.noConfusion q, fun a q1 q2 => by rw [bq_u_ne q1, bq_u_ne q1, f0 a q1 q2]⟩
    obtain ⟨g0, g1, g2, g3, g4, g5⟩ := h0
    refine ⟨(bq_u_no (by omega)).trans ((bq_u_no (by omega)).trans g0), (bq_u_ne (by omega)).trans ((bq_u_ne (by omega)).trans g1), (bq_u_no (by omega)).trans ((bq_u_at _ _ _ _).trans ?_), (bq_u_at _ _ _ _).trans (if_pos rfl).symm, Nat.le_of_lt hp, g5⟩
    rw [g2, pk_sub (by show 1 ≤ p + 1; omega)]
    rfl
  · have e1 := pC_end (B := B) (l := l) (p := p) (by omega)
    have et : tn I t = (-5) := by rw [tn_f h rfl]; exact if_neg hp
    have e0 : rc0 I t c c 0 = (-5) := by unfold rc0 ta_I; rw [bq_u_ne hct, bq_u_at, et]
    rw [e1]
    unfold rc_I
    rw [e0, if_neg (by decide), if_neg (by decide), if_neg (by decide), if_neg (by decide), if_neg (by decide)]
    refine ⟨?_, fun q => Bool.noConfusion q, fun a q1 q2 => by rw [bq_u_ne q1, bq_u_ne q1, f0 a q1 q2]⟩
    obtain ⟨g0, g1, g2, g3, g4, g5⟩ := h
    have r2 : rc0 I t c t 2 = nI (p + 1) := by unfold rc0 ta_I; rw [bq_u_at, bq_u_ne (by omega), g2, nI_add]
    refine ⟨(bq_u_no (by omega)).trans ((bq_u_no (by omega)).trans ?_), (bq_u_ne (by omega)).trans ((bq_u_ne (by omega)).trans ((f0 _ (by omega) (by omega)).trans g1)), (bq_u_no (by omega)).trans ((bq_u_at _ _ _ _).trans ?_), (bq_u_at _ _ _ _).trans (if_pos rfl).symm, g4, g5⟩
    · unfold rc0 ta_I
      rw [bq_u_no (by omega), bq_u_ne (by omega)]
      exact g0
    · rw [r2, pk_sub (by omega)]
      rfl
theorem rc_wr (h : TS I t B l (p, true)) (hc : t + 2 < c) : rc_I I t c t 3 = nI 1 ∧ rc_I I t c t 2 = nI p ∧ ∀ a, a ≠ t → a ≠ c → rc_I I t c a = I a := by
  have hct : c ≠ t := by omega
  have f0 : ∀ a, a ≠ t → a ≠ c → rc0 I t c a = I a := fun a h1 h2 => by unfold rc0 ta_I; rw [bq_u_ne h1, bq_u_ne h2]
  have et : tn I t = (-5) := tn_t h rfl
  have e0 : rc0 I t c c 0 = (-5) := by unfold rc0 ta_I; rw [bq_u_ne hct, bq_u_at, et]
  have r2 : rc0 I t c t 2 = nI (p + 1) := by unfold rc0 ta_I; rw [bq_u_at, bq_u_ne (by omega), h.2.2.1, nI_add]
  unfold rc_I
  rw [e0, if_neg (by decide), if_neg (by decide), if_neg (by decide), if_neg (by decide), if_neg (by decide)]
  refine ⟨bq_u_at _ _ _ _, (bq_u_no (by omega)).trans ((bq_u_at _ _ _ _).trans ?_), fun a q1 q2 => by rw [bq_u_ne q1, bq_u_ne q1, f0 a q1 q2]⟩
  rw [r2, pk_sub (by omega)]
  rfl
end
theorem rs_4 {I : BqI} {t : Nat} {c : Int32} : rs_I I t c t 4 = I t 4 := by
  unfold rs_I ta_I
  split <;> exact bq_u_no (by omega)
theorem rd_4 {I : BqI} {t : Nat} : rd_I I t t 4 = I t 4 := by
  unfold rd_I ta_I
  split <;> exact bq_u_no (by omega)
theorem rl_4 {t : Nat} : ∀ (k : Nat) (v : Int32) (I : BqI), (rn_l t k v I).2 t 4 = I t 4
  | 0, v, I => rfl
  | k + 1, v, I => by
    by_cases c : tdg I t = true
    · rw [rn_t c, rl_4 k, rd_4]
    · rw [rn_f c]
theorem rn_4 {I : BqI} {t : Nat} : rn_I I t t 4 = I t 4 := by
  unfold rn_I
  rw [rl_4, rd_4]
theorem rcD_4 {I : BqI} {t c k : Nat} (h : c ≠ t) : rcD I t c k t 4 = I t 4 := by
  unfold rcD
  rw [bq_u_ne (by omega), rd_4]
theorem rcN_4 {I : BqI} {t c k : Nat} (h : c ≠ t) : rcN I t c k t 4 = I t 4 := by
  unfold rcN
  rw [bq_u_ne (by omega), rn_4]
theorem rc_4 (I : BqI) (t c : Nat) (h : c ≠ t) : rc_I I t c t 4 = I t 4 := by
  have e : rc0 I t c t 4 = I t 4 := by unfold rc0 ta_I; rw [bq_u_no (by omega), bq_u_ne (by omega)]
  unfold rc_I
  split
  · rw [rcD_4 h, e]
  · split
    · rw [rcN_4 h, e]
    · split
      · rw [rcN_4 h, rs_4, rcD_4 h, e]
      · split
        · rw [rcD_4 h, rs_4, rcN_4 h, rs_4, rcD_4 h, e]
        · split
          · rw [rcN_4 h, rs_4, rcD_4 h, rs_4, rcD_4 h, e]
          · rw [bq_u_no (by omega), bq_u_no (by omega), e]
/-- what the class's reading comes to -/
def RcR (I0 : BqI) (t l : Nat) (r : Bool × Nat × Nat × (Nat → BqC)) (w : Int32 × BqI) : Prop := w.1 = (if r.1 = true then nI 1 else nI 0) ∧ w.2 t 2 = nI r.2.1 ∧ (r.1 = true → w.2 t 4 = nI r.2.2.1 ∧ ∀ j, j < r.2.2.1 → Cm w.2 (t + 3 + j) (r.2.2.2 j)) ∧ ∀ a, a ≠ t → (a < t + 3 ∨ t + 23 ≤ a) → w.2 a = I0 a
theorem rcs_ok {I0 : BqI} {t : Nat} {B : Nat → Int32} {l : Nat} : ∀ (k i p : Nat) (I : BqI) (cs : Nat → BqC), k + i = 20 → 3 * i ≤ p → TS I t B l (p, false) → I t 4 = nI i → (∀ j, j < i → Cm I (t + 3 + j) (cs j)) → (∀ a, a ≠ t → (a < t + 3 ∨ t + 23 ≤ a) → I a = I0 a) → RcR I0 t l (pR B l (k + 1) i p cs) (rcs t k i I)
  | 0, i, p, I, cs, hk, hp, h, h4, hcs, hf => by
    have hl : l ≤ p := by have := h.2.2.2.2.2; omega
    have e := pC_end (B := B) (l := l) hl
    rw [show pR B l (0 + 1) i p cs = (false, p, i, cs) from by
      show (if (pC B l p).1.2 = true then (false, (pC B l p).1.1, i, cs) else _) = _
      rw [e]; rfl]
    exact ⟨rfl, h.2.2.1, fun q => Bool.noConfusion q, hf⟩
  | k + 1, i, p, I, cs, hk, hp, h, h4, hcs, hf => by
    obtain ⟨h1, h2, h3⟩ := rc_ok (c := t + 3 + i) h (by omega)
    have hle := pC_le (B := B) (l := l) h.2.2.2.2.1
    generalize er : pC B l p = r at h1 h2 hle
    by_cases c1 : r.1.2 = true
    · rw [show pR B l (k + 1 + 1) i p cs = (false, r.1.1, i, cs) from by
        show (if (pC B l p).1.2 = true then (false, (pC B l p).1.1, i, cs) else _) = _
        rw [er]; exact if_pos c1]
      have e3 : ¬ rcs_1 I t i t 3 = 0 := by
        show ¬ rc_I I t (t + 3 + i) t 3 = 0
        rw [h1.2.2.2.1, if_pos c1]; decide
      rw [rcs_a e3]
      exact ⟨rfl, h1.2.2.1, fun q => Bool.noConfusion q, fun a q1 q2 => (h3 a q1 (by omega)).trans (hf a q1 q2)⟩
    have c1' : r.1.2 = false := by simpa using c1
    have e3 : rcs_1 I t i t 3 = 0 := by
      show rc_I I t (t + 3 + i) t 3 = 0
      rw [h1.2.2.2.1, if_neg c1]; rfl
    have h4' : rcs_2 I t i t 4 = nI (i + 1) := by
      have e4 : rc_I I t (t + 3 + i) t 4 = nI i := (rc_4 I t (t + 3 + i) (by omega)).trans h4
      unfold rcs_2 rcs_1
      rw [bq_u_at, e4, nI_add]
    have hT : TS (rcs_2 I t i) t B l (r.1.1, false) := by
      obtain ⟨g0, g1, g2, g3, g4, g5⟩ := h1
      rw [c1'] at g3
      exact ⟨(bq_u_no (by omega)).trans g0, (bq_u_ne (by omega)).trans g1, (bq_u_no (by omega)).trans g2, (bq_u_no (by omega)).trans g3, g4, g5⟩
    have hC : ∀ j, j < i + 1 → Cm (rcs_2 I t i) (t + 3 + j) (bq_r cs i r.2 j) := by
      intro j hj
      by_cases e : j = i
      · subst e
        rw [bq_r_self]
        exact (h2 c1').fr (bq_u_ne (by omega))
      · rw [bq_r_ne e]
        exact (hcs j (by omega)).fr ((bq_u_ne (by omega)).trans (h3 _ (by omega) (by omega)))
    have hF : ∀ a, a ≠ t → (a < t + 3 ∨ t + 23 ≤ a) → rcs_2 I t i a = I0 a := fun a q1 q2 => (bq_u_ne q1).trans ((h3 a q1 (by omega)).trans (hf a q1 q2))
    by_cases c2 : l ≤ r.1.1
    · rw [show pR B l (k + 1 + 1) i p cs = (true, r.1.1, i + 1, bq_r cs i r.2) from by
        show (if (pC B l p).1.2 = true then (false, (pC B l p).1.1, i, cs) else if l ≤ (pC B l p).1.1 then (true, (pC B l p).1.1, i + 1, bq_r cs i (pC B l p).2) else _) = _
        rw [er, if_neg c1]; exact if_pos c2]
      rw [rcs_b e3 (by rw [hT.1, hT.2.2.1]; exact fun z => absurd (nI_le c2 (by have := hT.2.2.2.2.1; have := hT.2.2.2.2.2; show r.1.1 < 2 ^ 31; have h7 : r.1.1 ≤ l := hT.2.2.2.2.1; omega)) (Int32.not_le.mpr z))]
      exact ⟨rfl, hT.2.2.1, fun _ => ⟨h4', hC⟩, hF⟩
    have hlt : rcs_2 I t i t 2 < rcs_2 I t i t 0 := by
      rw [hT.1, hT.2.2.1]
      exact nI_lt (by show r.1.1 < l; omega) (by have := hT.2.2.2.2.2; omega)
    rw [rcs_c e3 hlt]
    have hS := hT.rs (k := 59) (by decide)
    have hS4 : rs_I (rcs_2 I t i) t (nI 59) t 4 = nI (i + 1) := by
      rw [← h4']
      unfold rs_I ta_I
      split <;> exact bq_u_no (by omega)
    have hSC : ∀ j, j < i + 1 → Cm (rs_I (rcs_2 I t i) t (nI 59)) (t + 3 + j) (bq_r cs i r.2 j) := fun j hj => (hC j hj).fr (rs_fr (by omega))
    have hSF : ∀ a, a ≠ t → (a < t + 3 ∨ t + 23 ≤ a) → rs_I (rcs_2 I t i) t (nI 59) a = I0 a := fun a q1 q2 => (rs_fr q1).trans (hF a q1 q2)
    by_cases c3 : hr B l r.1.1 = nI 59
    · rw [show pR B l (k + 1 + 1) i p cs = pR B l (k + 1) (i + 1) (r.1.1 + 1) (bq_r cs i r.2) from by
        show (if (pC B l p).1.2 = true then (false, (pC B l p).1.1, i, cs) else if l ≤ (pC B l p).1.1 then (true, (pC B l p).1.1, i + 1, bq_r cs i (pC B l p).2) else if hr B l (pC B l p).1.1 = nI 59 then pR B l (k + 1) (i + 1) ((pC B l p).1.1 + 1) (bq_r cs i (pC B l p).2) else _) = _
        rw [er, if_neg c1, if_neg c2]; exact if_pos c3]
      rw [show pS B l (nI 59) (r.1.1, false) = (r.1.1 + 1, false) from if_pos ⟨rfl, c3⟩] at hS
      have hge := hle.2.2 c1'
      exact rcs_ok k (i + 1) (r.1.1 + 1) _ _ (by omega) (by omega) hS hS4 hSC hSF
    · rw [show pR B l (k + 1 + 1) i p cs = (false, r.1.1, i + 1, cs) from by
        show (if (pC B l p).1.2 = true then (false, (pC B l p).1.1, i, cs) else if l ≤ (pC B l p).1.1 then (true, (pC B l p).1.1, i + 1, bq_r cs i (pC B l p).2) else if hr B l (pC B l p).1.1 = nI 59 then pR B l (k + 1) (i + 1) ((pC B l p).1.1 + 1) (bq_r cs i (pC B l p).2) else _) = _
        rw [er, if_neg c1, if_neg c2]; exact if_neg c3]
      rw [show pS B l (nI 59) (r.1.1, false) = (r.1.1, true) from if_neg (fun z => c3 z.2)] at hS
      match k, hk with
      | 0, hk => exact ⟨rfl, hS.2.2.1, fun q => Bool.noConfusion q, hSF⟩
      | k + 1, hk =>
        obtain ⟨w1, w2, w3⟩ := rc_wr (c := t + 3 + (i + 1)) hS (by omega)
        rw [rcs_a (show ¬ rcs_1 (rs_I (rcs_2 I t i) t (nI 59)) t (i + 1) t 3 = 0 from by
          show ¬ rc_I _ t (t + 3 + (i + 1)) t 3 = 0
          rw [w1]; decide)]
        exact ⟨rfl, w2, fun q => Bool.noConfusion q, fun a q1 q2 => (w3 a q1 (by omega)).trans (hSF a q1 q2)⟩
/-! commands keep the row sound; what a run comes to -/
section
variable {g : BqG} {en : Nat}
theorem gk_wpour (h : GK g en) (hen : en < 200000) (f t l : Int32) : GK (w_pour g f t l).2 (en + 3) := by
  have h3 := h.mono (Nat.le_add_right en 3)
  by_cases c : (f < nI 0 ∨ ¬ f ≤ nI 5) ∨ (t < nI 0 ∨ ¬ t ≤ nI 5) ∨ f = t
  · rw [show w_pour g f t l = ((-1), g) from if_pos c]; exact h3
  by_cases c2 : l < nI 1 ∨ ¬ l ≤ nI 9999
  · rw [show w_pour g f t l = ((-8), g) from (if_neg c).trans (if_pos c2)]; exact h3
  obtain ⟨f, hf, rfl⟩ := (bq_in5 f 5 (by decide)).resolve_left (fun q => c (Or.inl q))
  obtain ⟨t, ht, rfl⟩ := (bq_in5 t 5 (by decide)).resolve_left (fun q => c (Or.inr (Or.inl q)))
  obtain ⟨l, h1, h2, rfl⟩ := (bq_in19 l 1 9999 (by decide) (by decide)).resolve_left c2
  have hne : f ≠ t := fun q => c (Or.inr (Or.inr (congrArg nI q)))
  rw [w_pour_n hf ht hne h1 h2]
  unfold n_pour
  by_cases d1 : gn g (11 + 19 * f) = 1 ∧ gn g (11 + 19 * t) ≤ 1
  · rw [if_neg (not_not_intro d1)]
    by_cases d2 : gt g f < l
    · rw [if_pos d2]; exact h3
    · rw [if_neg d2]
      by_cases d3 : gn g (10 + 19 * t) < gt g t + (l - l * gn g 4 / 1000)
      · rw [if_pos d3]; exact h3
      · rw [if_neg d3]
        have h4 := h.d.2.2.2.2.1
        have h5 : l * gn g 4 ≤ l * 100 := Nat.mul_le_mul_left l h4
        exact gk_pour h hen hf ht hne h1 (by omega) (by omega) d1.1 (by omega)
  · rw [if_pos d1]; exact h3
theorem gk_wspill (h : GK g en) (hen : en < 200000) (t l r : Int32) : GK (w_spill g t l r).2 (en + 3) := by
  have h3 := h.mono (Nat.le_add_right en 3)
  by_cases c : t < nI 0 ∨ ¬ t ≤ nI 5
  · rw [show w_spill g t l r = ((-1), g) from if_pos c]; exact h3
  by_cases c2 : (l < nI 1 ∨ ¬ l ≤ nI 9999) ∨ (r < nI 1 ∨ ¬ r ≤ nI 3)
  · rw [show w_spill g t l r = ((-8), g) from (if_neg c).trans (if_pos c2)]; exact h3
  obtain ⟨t, ht, rfl⟩ := (bq_in5 t 5 (by decide)).resolve_left c
  obtain ⟨l, h1, h2, rfl⟩ := (bq_in19 l 1 9999 (by decide) (by decide)).resolve_left (fun q => c2 (Or.inl q))
  obtain ⟨r, r1, r2, rfl⟩ := (bq_in19 r 1 3 (by decide) (by decide)).resolve_left (fun q => c2 (Or.inr q))
  rw [w_spill_n ht h1 h2 r1 r2]
  unfold n_spill
  by_cases d1 : gn g (11 + 19 * t) = 1
  · rw [if_neg (not_not_intro d1)]
    by_cases d2 : gt g t < l
    · rw [if_pos d2]; exact h3
    · rw [if_neg d2]
      exact (gk_spill h hen ht h1 (by omega) d1 (by omega)).mono (by omega)
  · rw [if_pos d1]; exact h3
theorem gk_wscrub (h : GK g en) (t : Int32) : GK (w_scrub g t).2 (en + 3) := by
  have h3 := h.mono (Nat.le_add_right en 3)
  by_cases c : t < nI 0 ∨ ¬ t ≤ nI 5
  · rw [show w_scrub g t = ((-1), g) from if_pos c]; exact h3
  obtain ⟨t, ht, rfl⟩ := (bq_in5 t 5 (by decide)).resolve_left c
  rw [w_scrub_n ht]
  by_cases d : gn g (11 + 19 * t) = 2
  · rw [if_pos d]; exact (gk_scrub h ht d).mono (by omega)
  · rw [if_neg d]; exact h3
theorem gk_wpass (h : GK g en) (d : Int32) : GK (w_pass g d).2 (en + 3) := by
  have h3 := h.mono (Nat.le_add_right en 3)
  by_cases c : d < nI 1 ∨ ¬ d ≤ nI 999
  · rw [show w_pass g d = ((-8), g) from if_pos c]; exact h3
  obtain ⟨d, d1, d2, rfl⟩ := (bq_in19 d 1 999 (by decide) (by decide)).resolve_left c
  rw [w_pass_n d1 d2]
  unfold n_pass
  by_cases e : 9999 < gn g 0 + d
  · rw [if_pos e]; exact h3
  · rw [if_neg e]; exact (gk_pass h (by omega)).mono (by omega)
theorem gk_wfill (h : GK g en) (hen : en < 200000) (t o : Int32) : GK (w_fill g t o).2 (en + 3) := by
  have h3 := h.mono (Nat.le_add_right en 3)
  by_cases c : t < nI 0 ∨ ¬ t ≤ nI 5
  · rw [show w_fill g t o = ((-1), g) from if_pos c]; exact h3
  by_cases c2 : o < 0 ∨ g 2 ≤ o ∨ nI 10 ≤ o
  · rw [show w_fill g t o = ((-5), g) from (if_neg c).trans (if_pos c2)]; exact h3
  obtain ⟨t, ht, rfl⟩ := (bq_in5 t 5 (by decide)).resolve_left c
  obtain ⟨o, ho, rfl⟩ := (bq_inO h.gi o).resolve_left c2
  rw [w_fill_n h.gi ht ho]
  unfold n_fill
  by_cases d0 : gn g (208 + 9 * o) = 0
  · rw [if_neg (not_not_intro d0)]
    by_cases d1 : gn g (11 + 19 * t) = 1
    · rw [if_neg (not_not_intro d1)]
      by_cases d2 : gt g t < gn g (205 + 9 * o)
      · rw [if_pos d2]; exact h3
      · rw [if_neg d2]
        by_cases d3 : ¬ g_str g t < g (206 + 9 * o) ∧ ¬ g (207 + 9 * o) < g_str g t
        · rw [if_neg (not_not_intro d3)]
          exact (gk_fill h hen ht ho (by omega) d1).mono (by omega)
        · rw [if_pos d3]; exact h3
    · rw [if_pos d1]; exact h3
  · rw [if_pos d0]; exact h3
theorem gk_wdo (h : GK g en) (hen : en < 200000) (a t o v : Int32) : GK (w_do g a t o v).2 (en + 3) := by
  unfold w_do
  by_cases c1 : a = nI 116
  · rw [if_pos c1]; exact gk_wpour h hen _ _ _
  · rw [if_neg c1]
    by_cases c2 : a = nI 108
    · rw [if_pos c2]; exact gk_wspill h hen _ _ _
    · rw [if_neg c2]
      by_cases c3 : a = nI 102
      · rw [if_pos c3]; exact gk_wfill h hen _ _
      · rw [if_neg c3]
        by_cases c4 : a = nI 99
        · rw [if_pos c4]; exact gk_wscrub h _
        · rw [if_neg c4]; exact gk_wpass h _
end
def wk (g : BqG) (k : BqC) : Int32 × BqG := w_do g k.1 k.2.1 k.2.2.1 k.2.2.2
/-- the row after the first i commands, and the first that is refused -/
def ds (cs : Nat → BqC) (g : BqG) : Nat → BqG
  | 0 => g
  | i + 1 => (wk (ds cs g i) (cs i)).2
def fz (cs : Nat → BqC) (g : BqG) : Nat → Option Nat
  | 0 => none
  | i + 1 => match fz cs g i with
    | some q => some q
    | none => if (wk (ds cs g i) (cs i)).1 < 0 then some i else none
theorem fz_some {cs : Nat → BqC} {g : BqG} {i q : Nat} (h : fz cs g i = some q) : ∀ d, fz cs g (i + d) = some q
  | 0 => h
  | d + 1 => by
    show (match fz cs g (i + d) with | some q => some q | none => _) = _
    rw [fz_some h d]
theorem fz_hit {cs : Nat → BqC} {g : BqG} {i n : Nat} (hi : i < n) (h : fz cs g i = none) (hw : (wk (ds cs g i) (cs i)).1 < 0) : fz cs g n = some i := by
  have e : fz cs g (i + 1) = some i := by
    show (match fz cs g i with | some q => some q | none => _) = _
    rw [h]; exact if_pos hw
  have := fz_some e (n - (i + 1))
  rwa [show i + 1 + (n - (i + 1)) = n by omega] at this
theorem fz_no {cs : Nat → BqC} {g : BqG} {i : Nat} (h : fz cs g i = none) (hw : ¬ (wk (ds cs g i) (cs i)).1 < 0) : fz cs g (i + 1) = none := by
  show (match fz cs g i with | some q => some q | none => _) = _
  rw [h]; exact if_neg hw
theorem ds_gk {cs : Nat → BqC} {g : BqG} {en : Nat} (h : GK g en) : ∀ i, en + 3 * i < 200000 → GK (ds cs g i) (en + 3 * i)
  | 0, _ => h
  | i + 1, hi => gk_wdo (ds_gk h i (by omega)) (by omega) _ _ _ _
/-- a run: the text read, then the commands -/
def p_run (g : BqG) (h : Nat → BqG) (ch : Nat) (y : Int32) (r : Bool × Nat × Nat × (Nat → BqC)) : BqR := if ¬ r.1 = true then ((-100) - nI r.2.1, g, h, ch, y) else match fz r.2.2.2 g r.2.2.1 with
  | some q => ((-200) - nI q, g, h, ch, -(wk (ds r.2.2.2 g q) (r.2.2.2 q)).1)
  | none => chg g (ds r.2.2.2 g r.2.2.1) h ch y (nI r.2.2.1)
theorem p_run_w {g : BqG} {h : Nat → BqG} {ch : Nat} {y : Int32} {r : Bool × Nat × Nat × (Nat → BqC)} (hr : ¬ r.1 = true) : p_run g h ch y r = ((-100) - nI r.2.1, g, h, ch, y) := if_pos hr
theorem p_run_f {g : BqG} {h : Nat → BqG} {ch q : Nat} {y : Int32} {r : Bool × Nat × Nat × (Nat → BqC)} (hr : r.1 = true) (hf : fz r.2.2.2 g r.2.2.1 = some q) : p_run g h ch y r = ((-200) - nI q, g, h, ch, -(wk (ds r.2.2.2 g q) (r.2.2.2 q)).1) := by
  unfold p_run
  rw [if_neg (not_not_intro hr), hf]
theorem p_run_o {g : BqG} {h : Nat → BqG} {ch : Nat} {y : Int32} {r : Bool × Nat × Nat × (Nat → BqC)} (hr : r.1 = true) (hf : fz r.2.2.2 g r.2.2.1 = none) : p_run g h ch y r = chg g (ds r.2.2.2 g r.2.2.1) h ch y (nI r.2.2.1) := by
  unfold p_run
  rw [if_neg (not_not_intro hr), hf]
/-! how many commands a text holds -/
theorem pR_n {B : Nat → Int32} {l : Nat} : ∀ (k i p : Nat) (cs : Nat → BqC), 3 * i ≤ p → p ≤ l → (pR B l k i p cs).1 = true → 3 * (pR B l k i p cs).2.2.1 ≤ l + 1
  | 0, i, p, cs, _, _, h => Bool.noConfusion h
  | k + 1, i, p, cs, h1, h2, h => by
    have hle := pC_le (B := B) h2
    have e : pR B l (k + 1) i p cs = if (pC B l p).1.2 = true then (false, (pC B l p).1.1, i, cs) else if l ≤ (pC B l p).1.1 then (true, (pC B l p).1.1, i + 1, bq_r cs i (pC B l p).2) else if hr B l (pC B l p).1.1 = nI 59 then pR B l k (i + 1) ((pC B l p).1.1 + 1) (bq_r cs i (pC B l p).2) else (false, (pC B l p).1.1, i + 1, cs) := rfl
    generalize er : pC B l p = r at hle e
    by_cases c1 : r.1.2 = true
    · rw [e, if_pos c1] at h; exact Bool.noConfusion h
    have h3 := hle.2.2 (by simpa using c1)
    by_cases c2 : l ≤ r.1.1
    · rw [e, if_neg c1, if_pos c2]
      show 3 * (i + 1) ≤ l + 1
      omega
    by_cases c3 : hr B l r.1.1 = nI 59
    · rw [e, if_neg c1, if_neg c2, if_pos c3] at h ⊢
      exact pR_n k (i + 1) (r.1.1 + 1) _ (by omega) (by omega) h
    · rw [e, if_neg c1, if_neg c2, if_neg c3] at h; exact Bool.noConfusion h
/-! two texts alike -/
section
variable {B B' : Nat → Int32} {l : Nat}
theorem pS_c (e : hr B l = hr B' l) {c : Int32} {s : BqT} : pS B l c s = pS B' l c s := by unfold pS; rw [e]
theorem pD_c (e : hr B l = hr B' l) {s : BqT} : pD B l s = pD B' l s := by
  unfold pD
  show (if s.2 = false ∧ dgt (hr B l s.1) then _ else _) = (if s.2 = false ∧ dgt (hr B' l s.1) then _ else _)
  rw [e]
theorem pL_c (e : hr B l = hr B' l) : ∀ (k : Nat) (v : Int32) (s : BqT), pL B l k v s = pL B' l k v s
  | 0, v, s => rfl
  | k + 1, v, s => by
    show (if s.2 = false ∧ dgt (hr B l s.1) then pL B l k (v * nI 10 + (hr B l s.1 - nI 48)) (s.1 + 1, false) else (v, s)) = (if s.2 = false ∧ dgt (hr B' l s.1) then pL B' l k (v * nI 10 + (hr B' l s.1 - nI 48)) (s.1 + 1, false) else (v, s))
    rw [e, pL_c e k]
theorem pN_c (e : hr B l = hr B' l) {s : BqT} : pN B l s = pN B' l s := by
  unfold pN
  rw [pD_c e, pL_c e]
theorem pC_c (e : hr B l = hr B' l) {p : Nat} : pC B l p = pC B' l p := by
  unfold pC pc_c pc_d pc_f pc_l pc_t
  simp only [e, pD_c e, pN_c e, pS_c e]
theorem pR_c (e : hr B l = hr B' l) : ∀ (k i p : Nat) (cs : Nat → BqC), pR B l k i p cs = pR B' l k i p cs
  | 0, i, p, cs => rfl
  | k + 1, i, p, cs => by
    show (if (pC B l p).1.2 = true then (false, (pC B l p).1.1, i, cs) else if l ≤ (pC B l p).1.1 then (true, (pC B l p).1.1, i + 1, bq_r cs i (pC B l p).2) else if hr B l (pC B l p).1.1 = nI 59 then pR B l k (i + 1) ((pC B l p).1.1 + 1) (bq_r cs i (pC B l p).2) else (false, (pC B l p).1.1, i + 1, cs)) = (if (pC B' l p).1.2 = true then (false, (pC B' l p).1.1, i, cs) else if l ≤ (pC B' l p).1.1 then (true, (pC B' l p).1.1, i + 1, bq_r cs i (pC B' l p).2) else if hr B' l (pC B' l p).1.1 = nI 59 then pR B' l k (i + 1) ((pC B' l p).1.1 + 1) (bq_r cs i (pC B' l p).2) else (false, (pC B' l p).1.1, i + 1, cs))
    rw [pC_c e, e, pR_c e k]
end
theorem hr_c {B B' : Nat → Int32} {l : Nat} (h : ∀ j, j < l → B j = B' j) : hr B l = hr B' l := by
  funext p
  unfold hr
  by_cases c : p < l
  · rw [if_pos c, if_pos c, h p c]
  · rw [if_neg c, if_neg c]
/-! the feeding of bytes -/
def fb (a b c d e : Int32) (k : Nat) : Int32 := if k = 0 then a else if k = 1 then b else if k = 2 then c else if k = 3 then d else e
/-- answer, length, bytes -/
def p_feed (l : Nat) (B : Nat → Int32) (n a b c d e : Int32) : Int32 × Nat × (Nat → Int32) := if (n < nI 1 ∨ ¬ n ≤ nI 5) ∨ (a < nI 0 ∨ ¬ a ≤ nI 127) ∨ (b < nI 0 ∨ ¬ b ≤ nI 127) ∨ (c < nI 0 ∨ ¬ c ≤ nI 127) ∨ (d < nI 0 ∨ ¬ d ≤ nI 127) ∨ (e < nI 0 ∨ ¬ e ≤ nI 127) then ((-2), l, B) else if 60 < l + n.toNatClampNeg then ((-4), l, B) else (nI (l + n.toNatClampNeg), l + n.toNatClampNeg, fun j => if l ≤ j ∧ j < l + n.toNatClampNeg then fb a b c d e (j - l) else B j)
theorem p_feed_bad {l : Nat} {B : Nat → Int32} {n a b c d e : Int32} (h : (n < nI 1 ∨ ¬ n ≤ nI 5) ∨ (a < nI 0 ∨ ¬ a ≤ nI 127) ∨ (b < nI 0 ∨ ¬ b ≤ nI 127) ∨ (c < nI 0 ∨ ¬ c ≤ nI 127) ∨ (d < nI 0 ∨ ¬ d ≤ nI 127) ∨ (e < nI 0 ∨ ¬ e ≤ nI 127)) : p_feed l B n a b c d e = ((-2), l, B) := if_pos h
theorem p_feed_full {l k : Nat} {B : Nat → Int32} {a b c d e : Int32} (hk : 1 ≤ k) (hk5 : k ≤ 5) (ha : ¬ (a < nI 0 ∨ ¬ a ≤ nI 127)) (hb : ¬ (b < nI 0 ∨ ¬ b ≤ nI 127)) (hc : ¬ (c < nI 0 ∨ ¬ c ≤ nI 127)) (hd : ¬ (d < nI 0 ∨ ¬ d ≤ nI 127)) (he : ¬ (e < nI 0 ∨ ¬ e ≤ nI 127)) (hl : 60 < l + k) : p_feed l B (nI k) a b c d e = ((-4), l, B) := by
  unfold p_feed
  rw [if_neg (fun z => z.elim (bq_nin hk hk5 (by decide)) (fun z => z.elim ha (fun z => z.elim hb (fun z => z.elim hc (fun z => z.elim hd he))))), nI_clamp (by omega), if_pos hl]
theorem p_feed_ok {l k : Nat} {B : Nat → Int32} {a b c d e : Int32} (hk : 1 ≤ k) (hk5 : k ≤ 5) (ha : ¬ (a < nI 0 ∨ ¬ a ≤ nI 127)) (hb : ¬ (b < nI 0 ∨ ¬ b ≤ nI 127)) (hc : ¬ (c < nI 0 ∨ ¬ c ≤ nI 127)) (hd : ¬ (d < nI 0 ∨ ¬ d ≤ nI 127)) (he : ¬ (e < nI 0 ∨ ¬ e ≤ nI 127)) (hl : ¬ 60 < l + k) : p_feed l B (nI k) a b c d e = (nI (l + k), l + k, fun j => if l ≤ j ∧ j < l + k then fb a b c d e (j - l) else B j) := by
  unfold p_feed
  rw [if_neg (fun z => z.elim (bq_nin hk hk5 (by decide)) (fun z => z.elim ha (fun z => z.elim hb (fun z => z.elim hc (fun z => z.elim hd he))))), nI_clamp (by omega), if_neg hl]
/-! the class's feeding and running -/
def FS (t : Nat) (I0 I : BqI) (l : Nat) (F : Nat → Int32) : Prop := I t 0 = nI l ∧ (∀ j, j < 60 → I (t + 1) j = F j) ∧ ∀ a, a ≠ t → a ≠ t + 1 → I a = I0 a
theorem FS.ap {t l : Nat} {I0 I : BqI} {F : Nat → Int32} {v : Int32} (h : FS t I0 I l F) : FS t I0 (ap_I I t v l) (l + 1) (bq_r F l v) := by
  obtain ⟨h0, h1, h2⟩ := h
  unfold ap_I
  refine ⟨?_, fun j hj => ?_, fun a q1 q2 => ?_⟩
  · rw [bq_u_at, bq_u_ne (by omega), h0, nI_add]
  · rw [bq_u_ne (by omega)]
    by_cases e : j = l
    · rw [e, bq_u_at, bq_r_self]
    · rw [bq_u_no (fun z => e z.2), bq_r_ne e]; exact h1 j hj
  · rw [bq_u_ne q1, bq_u_ne q2]; exact h2 a q1 q2
def qFd (x : Nat) (I : BqI) (L : BqL) (S : BqH) (n : Nat) (P : BqP) (w : Int32 × Nat × (Nat → Int32)) : BqQ := fun r S' n' I' L' P' => r = some (.int w.1) ∧ S' = S ∧ n' = n ∧ L' = L ∧ P' = P ∧ FS (x + 108) I I' w.2.1 w.2.2
theorem fb_1 {l j : Nat} {B : Nat → Int32} {a b c d e : Int32} : bq_r B l a j = (if l ≤ j ∧ j < l + 1 then fb a b c d e (j - l) else B j) := by
  by_cases h : j = l
  · subst h
    rw [bq_r_self, if_pos (by omega), Nat.sub_self]; rfl
  · rw [bq_r_ne h, if_neg (by omega)]
theorem fb_s {l j k : Nat} {B F : Nat → Int32} {a b c d e : Int32} (h : F j = (if l ≤ j ∧ j < l + k then fb a b c d e (j - l) else B j)) : bq_r F (l + k) (fb a b c d e k) j = (if l ≤ j ∧ j < l + (k + 1) then fb a b c d e (j - l) else B j) := by
  by_cases q : j = l + k
  · subst q
    rw [bq_r_self, if_pos (by omega), Nat.add_sub_cancel_left]
  · rw [bq_r_ne q, h]
    by_cases q2 : l ≤ j ∧ j < l + k
    · rw [if_pos q2, if_pos (by omega)]
    · rw [if_neg q2, if_neg (by omega)]
theorem CXS.tp {x : Nat} {S : BqH} {n : Nat} {I I' : BqI} {L : BqL} {P : BqP} {g : BqG} {h : Nat → BqG} {ch : Nat} (hX : CXS x S n I L P g h ch) (f : ∀ a, a < x + 108 ∨ x + 131 ≤ a → I' a = I a) : CXS x S n I' L P g h ch := by
  obtain ⟨hx, hC, hc, hl, π, hP, hh⟩ := hX
  exact ⟨hx, hC.fr (fun a q1 q2 => f a (by omega)) (fun _ _ _ => rfl), by rw [f x (by omega)]; exact hc, hl, π, hP, fun i hi => (hh i hi).fr (fun a q1 q2 => f a (by omega)) (fun _ _ _ => rfl)⟩
theorem Mid.st {x : Nat} {S : BqH} {n : Nat} {I0 I I1 : BqI} {L0 L L1 : BqL} {P : BqP} {g g' g'' : BqG} {h : Nat → BqG} {ch : Nat} {π : Nat → Nat} {y : Int32} (hM : Mid x S n I0 I L0 L P g g' h ch π y) (C : CS I1 L1 (x + 1) g'') (F1 : Frm x I I1) (F2 : FrmL x L L1) : Mid x S n I0 I1 L0 L1 P g g'' h ch π y := by
  obtain ⟨hx, hP, hC, hc, hl, hh, hg, hy, hF, hFL⟩ := hM
  have fx := F1 x (by omega)
  exact ⟨hx, hP, C, by rw [fx]; exact hc, hl, fun i hi => (hh i hi).fr (fun a q1 q2 => F1 a (by omega)) (fun a q1 q2 => F2 a (by omega)), hg.fr (fun a q1 q2 => F1 a (by omega)) (fun a q1 q2 => F2 a (by omega)), by rw [fx]; exact hy, ⟨fun a ha => (F1 a (by omega)).trans (hF.1 a ha), by rw [fx]; exact hF.2⟩, fun a ha => (F2 a (by omega)).trans (hFL a ha)⟩
/-- the past row back into the state -/
theorem Mid.bk {x : Nat} {S : BqH} {n : Nat} {I0 I : BqI} {L0 L : BqL} {P : BqP} {g g' : BqG} {h : Nat → BqG} {ch : Nat} {π : Nat → Nat} {y v : Int32} (hM : Mid x S n I0 I L0 L P g g' h ch π y) : CXS x S n (bq_u (st_cpI I (x + 1) (x + 165 + 53 * π ch)) x 10 v) (st_cpL L (x + 1) (x + 165 + 53 * π ch)) P g h ch ∧ FrO x I0 (bq_u (st_cpI I (x + 1) (x + 165 + 53 * π ch)) x 10 v) ∧ FrOL x L0 (st_cpL L (x + 1) (x + 165 + 53 * π ch)) := by
  obtain ⟨hx, hP, hC, hc, hl, hh, hg, hy, hF, hFL⟩ := hM
  have e : ∀ a, a < x + 1 ∨ x + 54 ≤ a → a ≠ x → bq_u (st_cpI I (x + 1) (x + 165 + 53 * π ch)) x 10 v a = I a := fun a h1 h2 => by rw [bq_u_ne h2, st_cpI_ne (by omega) (by omega)]
  refine ⟨⟨hx, (hg.copy (by omega)).fr (fun a q1 q2 => bq_u_ne (by omega)) (fun _ _ _ => rfl), ?_, hl, π, hP, fun i hi => (hh i hi).fr (fun a q1 q2 => e a (by omega) (by omega)) (fun a q1 q2 => st_cpL_ne (by omega) (by omega))⟩, ⟨fun a ha => ?_, ?_⟩, fun a ha => ?_⟩
  · rw [bq_u_no (by omega), st_cpI_ne (by omega) (by omega)]; exact hc
  · rw [e a (by omega) (by omega)]; exact hF.1 a ha
  · rw [bq_u_no (by omega), st_cpI_ne (by omega) (by omega)]; exact hF.2
  · rw [st_cpL_ne (by omega) (by omega)]; exact hFL a ha
def qRun (x : Nat) (I : BqI) (L : BqL) (S : BqH) (n : Nat) (P : BqP) (w : BqR) : BqQ := fun r S' n' I' L' P' => r = some (.int w.1) ∧ S' = S ∧ n' = n ∧ CXS x S n I' L' P' w.2.1 w.2.2.1 w.2.2.2.1 ∧ I' x 10 = w.2.2.2.2 ∧ I' (x + 108) 0 = nI 0 ∧ I' (x + 108 + 1) = I (x + 108 + 1) ∧ (∀ a, a < x ∨ (x + 55 ≤ a ∧ a < x + 108) ∨ x + 536 ≤ a → I' a = I a) ∧ I' x 4 = I x 4 ∧ FrOL x L L' ∧ (∀ a, a ≠ x + 54 → P' a = P a)
/-- the tape after the reading: emptied, all else of the object kept -/
def TpE (x : Nat) (I J : BqI) : Prop := J (x + 108) 0 = nI 0 ∧ J (x + 108 + 1) = I (x + 108 + 1) ∧ ∀ a, a < x + 108 ∨ x + 131 ≤ a → J a = I a
theorem qRun.mk {x : Nat} {I J J' : BqI} {L L' : BqL} {S : BqH} {n : Nat} {P P' : BqP} {w : BqR} {v : Int32} (hT : TpE x I J) (hv : v = w.1) (hX : CXS x S n J' L' P' w.2.1 w.2.2.1 w.2.2.2.1) (hy : J' x 10 = w.2.2.2.2) (hF : FrO x J J') (hL : FrOL x L L') (hP : ∀ a, a ≠ x + 54 → P' a = P a) : qRun x I L S n P w (some (.int v)) S n J' L' P' := by
  subst hv
  obtain ⟨t0, t1, t2⟩ := hT
  refine ⟨rfl, rfl, rfl, hX, hy, ?_, ?_, fun a ha => (hF.1 a (by omega)).trans (t2 a (by omega)), hF.2.trans (congrFun (t2 x (by omega)) 4), hL, hP⟩
  · rw [hF.1 _ (by omega)]; exact t0
  · rw [hF.1 _ (by omega)]; exact t1
theorem TS.z {I : BqI} {t l : Nat} (h0 : I t 0 = nI l) (hl : l ≤ 60) : TS (rcs_0 I t) t (I (t + 1)) l (0, false) := by
  unfold rcs_0
  refine ⟨?_, ?_, ?_, ?_, Nat.zero_le _, hl⟩
  · rw [bq_u_no (by omega), bq_u_no (by omega), bq_u_no (by omega)]; exact h0
  · rw [bq_u_ne (by omega), bq_u_ne (by omega), bq_u_ne (by omega)]
  · rw [bq_u_no (by omega), bq_u_no (by omega), bq_u_at]
  · rw [bq_u_no (by omega), bq_u_at]; rfl
theorem rcs_R {I : BqI} {t l : Nat} (h0 : I t 0 = nI l) (hl : l ≤ 60) : RcR I t l (pR (I (t + 1)) l 21 0 0 (fun _ => (nI 0, nI 0, nI 0, nI 0))) (rcs t 20 0 (rcs_0 I t)) :=
  rcs_ok 20 0 0 (rcs_0 I t) _ rfl (Nat.le_refl _) (TS.z h0 hl) (by unfold rcs_0; rw [bq_u_at]) (fun j hj => absurd hj (Nat.not_lt_zero j)) (fun a q1 _ => by unfold rcs_0; rw [bq_u_ne q1, bq_u_ne q1, bq_u_ne q1])
set_option maxHeartbeats 1000000 in
set_option maxRecDepth 20000 in
theorem c_noByte {S : BqH} {n : Nat} {I : BqI} {L : BqL} {P : BqP} {v : Int32} : bq_Sp mX11_noByte 2 34 0 0 [.int v] S n I L P (bq_F (some (.int (bq_b (v < nI 0 ∨ ¬ v ≤ nI 127)))) S n I L P) := by
  refine q_entry (vs := [some (.int v)]) (by decide +kernel) (by simp) (Nat.le_of_ble_eq_true rfl) rfl ?_
  refine q_iload_n (pc := 0) dX11_noByte_0 rfl rfl ?_
  refine q_iconst (pc := 1) (v := nI 0) dX11_noByte_1 (by decide) ?_
  refine q_bipush (pc := 2) (v := nI 127) dX11_noByte_2 (by decide) ?_
  refine q_callSF (pc := 4) dX11_noByte_4 kX11_69 c_X11_outside ⟨Nat.le_of_ble_eq_true rfl, Nat.le_of_ble_eq_true rfl⟩ rfl rfl (Nat.le_of_ble_eq_true rfl) ?_
  show bq_W _ _ _ _ _ 7 _ [_] _ _ _ _ _ _
  exact q_zret (st := []) (pc := 7) dX11_noByte_7 rfl bq_bz ⟨rfl, rfl, rfl, rfl, rfl, rfl⟩
set_option maxHeartbeats 1060000 in
set_option maxRecDepth 20000 in
theorem m_feed_a {S : BqH} {n : Nat} {I : BqI} {L : BqL} {P : BqP} {x : Nat} (hx : oX S n P x) {l : Nat} (h0 : I (x + 108) 0 = nI l) (hl : l ≤ 60) {k : Int32} {a b c d e : Int32} (hb : (k < nI 1 ∨ ¬ k ≤ nI 5) ∨ (a < nI 0 ∨ ¬ a ≤ nI 127) ∨ (b < nI 0 ∨ ¬ b ≤ nI 127) ∨ (c < nI 0 ∨ ¬ c ≤ nI 127) ∨ (d < nI 0 ∨ ¬ d ≤ nI 127) ∨ (e < nI 0 ∨ ¬ e ≤ nI 127)) : bq_Sp mX11_feed 3 54 0 0 [.ref x, .int k, .int a, .int b, .int c, .int d, .int e] S n I L P (qFd x I L S n P (p_feed l (I (x + 108 + 1)) k a b c d e)) := by
  refine q_entry (vs := [some (.ref x), some (.int k), some (.int a), some (.int b), some (.int c), some (.int d), some (.int e)]) (by decide +kernel) (by simp) (Nat.le_of_ble_eq_true rfl) rfl ?_
  have f0 : FS (x + 108) I I l (I (x + 108 + 1)) := ⟨h0, fun _ _ => rfl, fun _ _ _ => rfl⟩
  refine q_iload_n (pc := 0) dX11_feed_0 rfl rfl ?_
  refine q_iconst (pc := 1) (v := nI 1) dX11_feed_1 (by decide) ?_
  refine q_iconst (pc := 2) (v := nI 5) dX11_feed_2 (by decide) ?_
  refine q_callSF (pc := 3) dX11_feed_3 kX11_69 c_X11_outside ⟨Nat.le_of_ble_eq_true rfl, Nat.le_of_ble_eq_true rfl⟩ rfl rfl (Nat.le_of_ble_eq_true rfl) ?_
  show bq_W _ _ _ _ _ 6 _ [_] _ _ _ _ _ _
  refine q_if_ne (pc := 6) 47 dX11_feed_6 (by decide) (fun c_6 => ?_) (fun c_6 => ?_)
  · replace c_6 := bq_bn.mp c_6
    refine q_bipush (pc := 47) (v := (-2)) dX11_feed_47 (by decide) ?_
    exact q_iret (st := []) (pc := 49) dX11_feed_49 rfl ⟨by rw [p_feed_bad hb], rfl, rfl, rfl, rfl, by rw [p_feed_bad hb]; exact f0⟩
  · replace c_6 := bq_b0.mp c_6
    refine q_iload_n (pc := 9) dX11_feed_9 rfl rfl ?_
    refine q_callSF (pc := 10) dX11_feed_10 kX11_203 c_noByte ⟨Nat.le_of_ble_eq_true rfl, Nat.le_of_ble_eq_true rfl⟩ rfl rfl (Nat.le_of_ble_eq_true rfl) ?_
    show bq_W _ _ _ _ _ 13 _ [_] _ _ _ _ _ _
    refine q_if_ne (pc := 13) 47 dX11_feed_13 (by decide) (fun c_13 => ?_) (fun c_13 => ?_)
    · replace c_13 := bq_bn.mp c_13
      refine q_bipush (pc := 47) (v := (-2)) dX11_feed_47 (by decide) ?_
      exact q_iret (st := []) (pc := 49) dX11_feed_49 rfl ⟨by rw [p_feed_bad hb], rfl, rfl, rfl, rfl, by rw [p_feed_bad hb]; exact f0⟩
    · replace c_13 := bq_b0.mp c_13
      refine q_iload_n (pc := 16) dX11_feed_16 rfl rfl ?_
      refine q_callSF (pc := 17) dX11_feed_17 kX11_203 c_noByte ⟨Nat.le_of_ble_eq_true rfl, Nat.le_of_ble_eq_true rfl⟩ rfl rfl (Nat.le_of_ble_eq_true rfl) ?_
      show bq_W _ _ _ _ _ 20 _ [_] _ _ _ _ _ _
      refine q_if_ne (pc := 20) 47 dX11_feed_20 (by decide) (fun c_20 => ?_) (fun c_20 => ?_)
      · replace c_20 := bq_bn.mp c_20
        refine q_bipush (pc := 47) (v := (-2)) dX11_feed_47 (by decide) ?_
        exact q_iret (st := []) (pc := 49) dX11_feed_49 rfl ⟨by rw [p_feed_bad hb], rfl, rfl, rfl, rfl, by rw [p_feed_bad hb]; exact f0⟩
      · replace c_20 := bq_b0.mp c_20
        refine q_iload (pc := 23) dX11_feed_23 rfl ?_
        refine q_callSF (pc := 25) dX11_feed_25 kX11_203 c_noByte ⟨Nat.le_of_ble_eq_true rfl, Nat.le_of_ble_eq_true rfl⟩ rfl rfl (Nat.le_of_ble_eq_true rfl) ?_
        show bq_W _ _ _ _ _ 28 _ [_] _ _ _ _ _ _
        refine q_if_ne (pc := 28) 47 dX11_feed_28 (by decide) (fun c_28 => ?_) (fun c_28 => ?_)
        · replace c_28 := bq_bn.mp c_28
          refine q_bipush (pc := 47) (v := (-2)) dX11_feed_47 (by decide) ?_
          exact q_iret (st := []) (pc := 49) dX11_feed_49 rfl ⟨by rw [p_feed_bad hb], rfl, rfl, rfl, rfl, by rw [p_feed_bad hb]; exact f0⟩
        · replace c_28 := bq_b0.mp c_28
          refine q_iload (pc := 31) dX11_feed_31 rfl ?_
          refine q_callSF (pc := 33) dX11_feed_33 kX11_203 c_noByte ⟨Nat.le_of_ble_eq_true rfl, Nat.le_of_ble_eq_true rfl⟩ rfl rfl (Nat.le_of_ble_eq_true rfl) ?_
          show bq_W _ _ _ _ _ 36 _ [_] _ _ _ _ _ _
          refine q_if_ne (pc := 36) 47 dX11_feed_36 (by decide) (fun c_36 => ?_) (fun c_36 => ?_)
          · replace c_36 := bq_bn.mp c_36
            refine q_bipush (pc := 47) (v := (-2)) dX11_feed_47 (by decide) ?_
            exact q_iret (st := []) (pc := 49) dX11_feed_49 rfl ⟨by rw [p_feed_bad hb], rfl, rfl, rfl, rfl, by rw [p_feed_bad hb]; exact f0⟩
          · replace c_36 := bq_b0.mp c_36
            refine q_iload (pc := 39) dX11_feed_39 rfl ?_
            refine q_callSF (pc := 41) dX11_feed_41 kX11_203 c_noByte ⟨Nat.le_of_ble_eq_true rfl, Nat.le_of_ble_eq_true rfl⟩ rfl rfl (Nat.le_of_ble_eq_true rfl) ?_
            show bq_W _ _ _ _ _ 44 _ [_] _ _ _ _ _ _
            refine q_if_eq (pc := 44) 50 dX11_feed_44 (by decide) (fun c_44 => ?_) (fun c_44 => ?_)
            · replace c_44 := bq_b0.mp c_44
              exact absurd hb (fun z => z.elim c_6 (fun z => z.elim c_13 (fun z => z.elim c_20 (fun z => z.elim c_28 (fun z => z.elim c_36 c_44)))))
            · replace c_44 := bq_bn.mp c_44
              refine q_bipush (pc := 47) (v := (-2)) dX11_feed_47 (by decide) ?_
              exact q_iret (st := []) (pc := 49) dX11_feed_49 rfl ⟨by rw [p_feed_bad hb], rfl, rfl, rfl, rfl, by rw [p_feed_bad hb]; exact f0⟩
set_option maxHeartbeats 1000000 in
set_option maxRecDepth 20000 in
theorem m_feed_b {S : BqH} {n : Nat} {I : BqI} {L : BqL} {P : BqP} {x : Nat} (hx : oX S n P x) {l : Nat} (h0 : I (x + 108) 0 = nI l) (hl : l ≤ 60) {k : Nat} (k1 : 1 ≤ k) (k5 : k ≤ 5) {a b c d e : Int32} (ha : ¬ (a < nI 0 ∨ ¬ a ≤ nI 127)) (hb : ¬ (b < nI 0 ∨ ¬ b ≤ nI 127)) (hc : ¬ (c < nI 0 ∨ ¬ c ≤ nI 127)) (hd : ¬ (d < nI 0 ∨ ¬ d ≤ nI 127)) (he : ¬ (e < nI 0 ∨ ¬ e ≤ nI 127)) (hf : 60 < l + k) : bq_Sp mX11_feed 3 54 0 0 [.ref x, .int (nI k), .int a, .int b, .int c, .int d, .int e] S n I L P (qFd x I L S n P (p_feed l (I (x + 108 + 1)) (nI k) a b c d e)) := by
  refine q_entry (vs := [some (.ref x), some (.int (nI k)), some (.int a), some (.int b), some (.int c), some (.int d), some (.int e)]) (by decide +kernel) (by simp) (Nat.le_of_ble_eq_true rfl) rfl ?_
  have f0 : FS (x + 108) I I l (I (x + 108 + 1)) := ⟨h0, fun _ _ => rfl, fun _ _ _ => rfl⟩
  refine q_iload_n (pc := 0) dX11_feed_0 rfl rfl ?_
  refine q_iconst (pc := 1) (v := nI 1) dX11_feed_1 (by decide) ?_
  refine q_iconst (pc := 2) (v := nI 5) dX11_feed_2 (by decide) ?_
  refine q_callSF (pc := 3) dX11_feed_3 kX11_69 c_X11_outside ⟨Nat.le_of_ble_eq_true rfl, Nat.le_of_ble_eq_true rfl⟩ rfl rfl (Nat.le_of_ble_eq_true rfl) ?_
  show bq_W _ _ _ _ _ 6 _ [_] _ _ _ _ _ _
  refine q_if_ne (pc := 6) 47 dX11_feed_6 (by decide) (fun c_6 => (((bq_nin (by omega) (by omega) (by decide)) (bq_bn.mp c_6) : False)).elim) (fun c_6 => ?_)
  refine q_iload_n (pc := 9) dX11_feed_9 rfl rfl ?_
  refine q_callSF (pc := 10) dX11_feed_10 kX11_203 c_noByte ⟨Nat.le_of_ble_eq_true rfl, Nat.le_of_ble_eq_true rfl⟩ rfl rfl (Nat.le_of_ble_eq_true rfl) ?_
  show bq_W _ _ _ _ _ 13 _ [_] _ _ _ _ _ _
  refine q_if_ne (pc := 13) 47 dX11_feed_13 (by decide) (fun c_13 => ((ha (bq_bn.mp c_13))).elim) (fun c_13 => ?_)
  refine q_iload_n (pc := 16) dX11_feed_16 rfl rfl ?_
  refine q_callSF (pc := 17) dX11_feed_17 kX11_203 c_noByte ⟨Nat.le_of_ble_eq_true rfl, Nat.le_of_ble_eq_true rfl⟩ rfl rfl (Nat.le_of_ble_eq_true rfl) ?_
  show bq_W _ _ _ _ _ 20 _ [_] _ _ _ _ _ _
  refine q_if_ne (pc := 20) 47 dX11_feed_20 (by decide) (fun c_20 => ((hb (bq_bn.mp c_20))).elim) (fun c_20 => ?_)
  refine q_iload (pc := 23) dX11_feed_23 rfl ?_
  refine q_callSF (pc := 25) dX11_feed_25 kX11_203 c_noByte ⟨Nat.le_of_ble_eq_true rfl, Nat.le_of_ble_eq_true rfl⟩ rfl rfl (Nat.le_of_ble_eq_true rfl) ?_
  show bq_W _ _ _ _ _ 28 _ [_] _ _ _ _ _ _
  refine q_if_ne (pc := 28) 47 dX11_feed_28 (by decide) (fun c_28 => ((hc (bq_bn.mp c_28))).elim) (fun c_28 => ?_)
  refine q_iload (pc := 31) dX11_feed_31 rfl ?_
  refine q_callSF (pc := 33) dX11_feed_33 kX11_203 c_noByte ⟨Nat.le_of_ble_eq_true rfl, Nat.le_of_ble_eq_true rfl⟩ rfl rfl (Nat.le_of_ble_eq_true rfl) ?_
  show bq_W _ _ _ _ _ 36 _ [_] _ _ _ _ _ _
  refine q_if_ne (pc := 36) 47 dX11_feed_36 (by decide) (fun c_36 => ((hd (bq_bn.mp c_36))).elim) (fun c_36 => ?_)
  refine q_iload (pc := 39) dX11_feed_39 rfl ?_
  refine q_callSF (pc := 41) dX11_feed_41 kX11_203 c_noByte ⟨Nat.le_of_ble_eq_true rfl, Nat.le_of_ble_eq_true rfl⟩ rfl rfl (Nat.le_of_ble_eq_true rfl) ?_
  show bq_W _ _ _ _ _ 44 _ [_] _ _ _ _ _ _
  refine q_if_eq (pc := 44) 50 dX11_feed_44 (by decide) (fun c_44 => ?_) (fun c_44 => ((he (bq_bn.mp c_44))).elim)
  refine q_aload_n (pc := 50) dX11_feed_50 rfl rfl ?_
  refine q_getP (pc := 51) dX11_feed_51 fX11_34 (Cellar_sh hx) ⟨by decide, rfl⟩ (Cellar_lt hx) (Cellar_p_tape hx) ?_
  refine q_getI (pc := 54) dX11_feed_54 fX11_207 (Tape_sh (Cellar_s_tape hx)) ⟨by decide, rfl⟩ (Tape_lt (Cellar_s_tape hx)) ?_
  rw [h0]
  refine q_iload_n (pc := 57) dX11_feed_57 rfl rfl ?_
  refine q_iaddN (pc := 58) dX11_feed_58 ?_
  refine q_bipush (pc := 59) (v := nI 60) dX11_feed_59 (by decide) ?_
  refine q_icmp_le (pc := 61) 67 dX11_feed_61 (by decide) (fun c_61 => absurd c_61 (nI_ge hf (by omega))) (fun c_61 => ?_)
  refine q_bipush (pc := 64) (v := (-4)) dX11_feed_64 (by decide) ?_
  exact q_iret (st := []) (pc := 66) dX11_feed_66 rfl ⟨by rw [p_feed_full k1 k5 ha hb hc hd he hf], rfl, rfl, rfl, rfl, by rw [p_feed_full k1 k5 ha hb hc hd he hf]; exact f0⟩
set_option maxHeartbeats 1200000 in
set_option maxRecDepth 20000 in
theorem m_feed_k1 {S : BqH} {n : Nat} {I : BqI} {L : BqL} {P : BqP} {x : Nat} (hx : oX S n P x) {l : Nat} (h0 : I (x + 108) 0 = nI l) (hl : l ≤ 60) {a b c d e : Int32} (ha : ¬ (a < nI 0 ∨ ¬ a ≤ nI 127)) (hb : ¬ (b < nI 0 ∨ ¬ b ≤ nI 127)) (hc : ¬ (c < nI 0 ∨ ¬ c ≤ nI 127)) (hd : ¬ (d < nI 0 ∨ ¬ d ≤ nI 127)) (he : ¬ (e < nI 0 ∨ ¬ e ≤ nI 127)) (hf : ¬ 60 < l + 1) : bq_Sp mX11_feed 3 54 0 0 [.ref x, .int (nI 1), .int a, .int b, .int c, .int d, .int e] S n I L P (qFd x I L S n P (p_feed l (I (x + 108 + 1)) (nI 1) a b c d e)) := by
  refine q_entry (vs := [some (.ref x), some (.int (nI 1)), some (.int a), some (.int b), some (.int c), some (.int d), some (.int e)]) (by decide +kernel) (by simp) (Nat.le_of_ble_eq_true rfl) rfl ?_
  have f0 : FS (x + 108) I I l (I (x + 108 + 1)) := ⟨h0, fun _ _ => rfl, fun _ _ _ => rfl⟩
  refine q_iload_n (pc := 0) dX11_feed_0 rfl rfl ?_
  refine q_iconst (pc := 1) (v := nI 1) dX11_feed_1 (by decide) ?_
  refine q_iconst (pc := 2) (v := nI 5) dX11_feed_2 (by decide) ?_
  refine q_callSF (pc := 3) dX11_feed_3 kX11_69 c_X11_outside ⟨Nat.le_of_ble_eq_true rfl, Nat.le_of_ble_eq_true rfl⟩ rfl rfl (Nat.le_of_ble_eq_true rfl) ?_
  show bq_W _ _ _ _ _ 6 _ [_] _ _ _ _ _ _
  refine q_if_ne (pc := 6) 47 dX11_feed_6 (by decide) (fun c_6 => (((bq_nin (by omega) (by omega) (by decide)) (bq_bn.mp c_6) : False)).elim) (fun c_6 => ?_)
  refine q_iload_n (pc := 9) dX11_feed_9 rfl rfl ?_
  refine q_callSF (pc := 10) dX11_feed_10 kX11_203 c_noByte ⟨Nat.le_of_ble_eq_true rfl, Nat.le_of_ble_eq_true rfl⟩ rfl rfl (Nat.le_of_ble_eq_true rfl) ?_
  show bq_W _ _ _ _ _ 13 _ [_] _ _ _ _ _ _
  refine q_if_ne (pc := 13) 47 dX11_feed_13 (by decide) (fun c_13 => ((ha (bq_bn.mp c_13))).elim) (fun c_13 => ?_)
  refine q_iload_n (pc := 16) dX11_feed_16 rfl rfl ?_
  refine q_callSF (pc := 17) dX11_feed_17 kX11_203 c_noByte ⟨Nat.le_of_ble_eq_true rfl, Nat.le_of_ble_eq_true rfl⟩ rfl rfl (Nat.le_of_ble_eq_true rfl) ?_
  show bq_W _ _ _ _ _ 20 _ [_] _ _ _ _ _ _
  refine q_if_ne (pc := 20) 47 dX11_feed_20 (by decide) (fun c_20 => ((hb (bq_bn.mp c_20))).elim) (fun c_20 => ?_)
  refine q_iload (pc := 23) dX11_feed_23 rfl ?_
  refine q_callSF (pc := 25) dX11_feed_25 kX11_203 c_noByte ⟨Nat.le_of_ble_eq_true rfl, Nat.le_of_ble_eq_true rfl⟩ rfl rfl (Nat.le_of_ble_eq_true rfl) ?_
  show bq_W _ _ _ _ _ 28 _ [_] _ _ _ _ _ _
  refine q_if_ne (pc := 28) 47 dX11_feed_28 (by decide) (fun c_28 => ((hc (bq_bn.mp c_28))).elim) (fun c_28 => ?_)
  refine q_iload (pc := 31) dX11_feed_31 rfl ?_
  refine q_callSF (pc := 33) dX11_feed_33 kX11_203 c_noByte ⟨Nat.le_of_ble_eq_true rfl, Nat.le_of_ble_eq_true rfl⟩ rfl rfl (Nat.le_of_ble_eq_true rfl) ?_
  show bq_W _ _ _ _ _ 36 _ [_] _ _ _ _ _ _
  refine q_if_ne (pc := 36) 47 dX11_feed_36 (by decide) (fun c_36 => ((hd (bq_bn.mp c_36))).elim) (fun c_36 => ?_)
  refine q_iload (pc := 39) dX11_feed_39 rfl ?_
  refine q_callSF (pc := 41) dX11_feed_41 kX11_203 c_noByte ⟨Nat.le_of_ble_eq_true rfl, Nat.le_of_ble_eq_true rfl⟩ rfl rfl (Nat.le_of_ble_eq_true rfl) ?_
  show bq_W _ _ _ _ _ 44 _ [_] _ _ _ _ _ _
  refine q_if_eq (pc := 44) 50 dX11_feed_44 (by decide) (fun c_44 => ?_) (fun c_44 => ((he (bq_bn.mp c_44))).elim)
  refine q_aload_n (pc := 50) dX11_feed_50 rfl rfl ?_
  refine q_getP (pc := 51) dX11_feed_51 fX11_34 (Cellar_sh hx) ⟨by decide, rfl⟩ (Cellar_lt hx) (Cellar_p_tape hx) ?_
  refine q_getI (pc := 54) dX11_feed_54 fX11_207 (Tape_sh (Cellar_s_tape hx)) ⟨by decide, rfl⟩ (Tape_lt (Cellar_s_tape hx)) ?_
  rw [h0]
  refine q_iload_n (pc := 57) dX11_feed_57 rfl rfl ?_
  refine q_iaddN (pc := 58) dX11_feed_58 ?_
  refine q_bipush (pc := 59) (v := nI 60) dX11_feed_59 (by decide) ?_
  refine q_icmp_le (pc := 61) 67 dX11_feed_61 (by decide) (fun c_61 => ?_) (fun c_61 => absurd (nI_le (show l + 1 ≤ 60 by omega) (by decide)) c_61)
  refine q_aload_n (pc := 67) dX11_feed_67 rfl rfl ?_
  refine q_getP (pc := 68) dX11_feed_68 fX11_34 (Cellar_sh hx) ⟨by decide, rfl⟩ (Cellar_lt hx) (Cellar_p_tape hx) ?_
  refine q_iload_n (pc := 71) dX11_feed_71 rfl rfl ?_
  refine q_callVF (pc := 72) dX11_feed_72 kX11_208 (c_X10_append (Cellar_s_tape hx) (q := l) f0.1 (by omega)) (Tape_sh (Cellar_s_tape hx)) rfl (Tape_lt (Cellar_s_tape hx)) ⟨Nat.le_of_ble_eq_true rfl, Nat.le_of_ble_eq_true rfl⟩ rfl rfl (Nat.le_of_ble_eq_true rfl) ?_
  show bq_W _ _ _ _ _ 75 _ [] _ _ _ _ _ _
  refine q_nameI (fun J1 e1 => ?_)
  have f1 := (FS.ap (v := a) f0)
  rw [← e1] at f1
  refine q_iload_n (pc := 75) dX11_feed_75 rfl rfl ?_
  refine q_iconst (pc := 76) (v := nI 1) dX11_feed_76 (by decide) ?_
  refine q_icmp_le (pc := 77) 88 dX11_feed_77 (by decide) (fun c_77 => ?_) (fun c_77 => absurd (by decide) c_77)
  refine q_iload_n (pc := 88) dX11_feed_88 rfl rfl ?_
  refine q_iconst (pc := 89) (v := nI 2) dX11_feed_89 (by decide) ?_
  refine q_icmp_le (pc := 90) 102 dX11_feed_90 (by decide) (fun c_90 => ?_) (fun c_90 => absurd (by decide) c_90)
  refine q_iload_n (pc := 102) dX11_feed_102 rfl rfl ?_
  refine q_iconst (pc := 103) (v := nI 3) dX11_feed_103 (by decide) ?_
  refine q_icmp_le (pc := 104) 116 dX11_feed_104 (by decide) (fun c_104 => ?_) (fun c_104 => absurd (by decide) c_104)
  refine q_iload_n (pc := 116) dX11_feed_116 rfl rfl ?_
  refine q_iconst (pc := 117) (v := nI 4) dX11_feed_117 (by decide) ?_
  refine q_icmp_le (pc := 118) 130 dX11_feed_118 (by decide) (fun c_118 => ?_) (fun c_118 => absurd (by decide) c_118)
  refine q_aload_n (pc := 130) dX11_feed_130 rfl rfl ?_
  refine q_getP (pc := 131) dX11_feed_131 fX11_34 (Cellar_sh hx) ⟨by decide, rfl⟩ (Cellar_lt hx) (Cellar_p_tape hx) ?_
  refine q_getI (pc := 134) dX11_feed_134 fX11_207 (Tape_sh (Cellar_s_tape hx)) ⟨by decide, rfl⟩ (Tape_lt (Cellar_s_tape hx)) ?_
  exact q_iret (st := []) (pc := 137) dX11_feed_137 rfl ⟨by rw [p_feed_ok (by decide) (by decide) ha hb hc hd he hf, f1.1], rfl, rfl, rfl, rfl, by rw [p_feed_ok (by decide) (by decide) ha hb hc hd he hf]; exact ⟨f1.1, fun j hj => (f1.2.1 j hj).trans (fb_1), f1.2.2⟩⟩
set_option maxHeartbeats 1360000 in
set_option maxRecDepth 20000 in
theorem m_feed_k2 {S : BqH} {n : Nat} {I : BqI} {L : BqL} {P : BqP} {x : Nat} (hx : oX S n P x) {l : Nat} (h0 : I (x + 108) 0 = nI l) (hl : l ≤ 60) {a b c d e : Int32} (ha : ¬ (a < nI 0 ∨ ¬ a ≤ nI 127)) (hb : ¬ (b < nI 0 ∨ ¬ b ≤ nI 127)) (hc : ¬ (c < nI 0 ∨ ¬ c ≤ nI 127)) (hd : ¬ (d < nI 0 ∨ ¬ d ≤ nI 127)) (he : ¬ (e < nI 0 ∨ ¬ e ≤ nI 127)) (hf : ¬ 60 < l + 2) : bq_Sp mX11_feed 3 54 0 0 [.ref x, .int (nI 2), .int a, .int b, .int c, .int d, .int e] S n I L P (qFd x I L S n P (p_feed l (I (x + 108 + 1)) (nI 2) a b c d e)) := by
  refine q_entry (vs := [some (.ref x), some (.int (nI 2)), some (.int a), some (.int b), some (.int c), some (.int d), some (.int e)]) (by decide +kernel) (by simp) (Nat.le_of_ble_eq_true rfl) rfl ?_
  have f0 : FS (x + 108) I I l (I (x + 108 + 1)) := ⟨h0, fun _ _ => rfl, fun _ _ _ => rfl⟩
  refine q_iload_n (pc := 0) dX11_feed_0 rfl rfl ?_
  refine q_iconst (pc := 1) (v := nI 1) dX11_feed_1 (by decide) ?_
  refine q_iconst (pc := 2) (v := nI 5) dX11_feed_2 (by decide) ?_
  refine q_callSF (pc := 3) dX11_feed_3 kX11_69 c_X11_outside ⟨Nat.le_of_ble_eq_true rfl, Nat.le_of_ble_eq_true rfl⟩ rfl rfl (Nat.le_of_ble_eq_true rfl) ?_
  show bq_W _ _ _ _ _ 6 _ [_] _ _ _ _ _ _
  refine q_if_ne (pc := 6) 47 dX11_feed_6 (by decide) (fun c_6 => (((bq_nin (by omega) (by omega) (by decide)) (bq_bn.mp c_6) : False)).elim) (fun c_6 => ?_)
  refine q_iload_n (pc := 9) dX11_feed_9 rfl rfl ?_
  refine q_callSF (pc := 10) dX11_feed_10 kX11_203 c_noByte ⟨Nat.le_of_ble_eq_true rfl, Nat.le_of_ble_eq_true rfl⟩ rfl rfl (Nat.le_of_ble_eq_true rfl) ?_
  show bq_W _ _ _ _ _ 13 _ [_] _ _ _ _ _ _
  refine q_if_ne (pc := 13) 47 dX11_feed_13 (by decide) (fun c_13 => ((ha (bq_bn.mp c_13))).elim) (fun c_13 => ?_)
  refine q_iload_n (pc := 16) dX11_feed_16 rfl rfl ?_
  refine q_callSF (pc := 17) dX11_feed_17 kX11_203 c_noByte ⟨Nat.le_of_ble_eq_true rfl, Nat.le_of_ble_eq_true rfl⟩ rfl rfl (Nat.le_of_ble_eq_true rfl) ?_
  show bq_W _ _ _ _ _ 20 _ [_] _ _ _ _ _ _
  refine q_if_ne (pc := 20) 47 dX11_feed_20 (by decide) (fun c_20 => ((hb (bq_bn.mp c_20))).elim) (fun c_20 => ?_)
  refine q_iload (pc := 23) dX11_feed_23 rfl ?_
  refine q_callSF (pc := 25) dX11_feed_25 kX11_203 c_noByte ⟨Nat.le_of_ble_eq_true rfl, Nat.le_of_ble_eq_true rfl⟩ rfl rfl (Nat.le_of_ble_eq_true rfl) ?_
  show bq_W _ _ _ _ _ 28 _ [_] _ _ _ _ _ _
  refine q_if_ne (pc := 28) 47 dX11_feed_28 (by decide) (fun c_28 => ((hc (bq_bn.mp c_28))).elim) (fun c_28 => ?_)
  refine q_iload (pc := 31) dX11_feed_31 rfl ?_
  refine q_callSF (pc := 33) dX11_feed_33 kX11_203 c_noByte ⟨Nat.le_of_ble_eq_true rfl, Nat.le_of_ble_eq_true rfl⟩ rfl rfl (Nat.le_of_ble_eq_true rfl) ?_
  show bq_W _ _ _ _ _ 36 _ [_] _ _ _ _ _ _
  refine q_if_ne (pc := 36) 47 dX11_feed_36 (by decide) (fun c_36 => ((hd (bq_bn.mp c_36))).elim) (fun c_36 => ?_)
  refine q_iload (pc := 39) dX11_feed_39 rfl ?_
  refine q_callSF (pc := 41) dX11_feed_41 kX11_203 c_noByte ⟨Nat.le_of_ble_eq_true rfl, Nat.le_of_ble_eq_true rfl⟩ rfl rfl (Nat.le_of_ble_eq_true rfl) ?_
  show bq_W _ _ _ _ _ 44 _ [_] _ _ _ _ _ _
  refine q_if_eq (pc := 44) 50 dX11_feed_44 (by decide) (fun c_44 => ?_) (fun c_44 => ((he (bq_bn.mp c_44))).elim)
  refine q_aload_n (pc := 50) dX11_feed_50 rfl rfl ?_
  refine q_getP (pc := 51) dX11_feed_51 fX11_34 (Cellar_sh hx) ⟨by decide, rfl⟩ (Cellar_lt hx) (Cellar_p_tape hx) ?_
  refine q_getI (pc := 54) dX11_feed_54 fX11_207 (Tape_sh (Cellar_s_tape hx)) ⟨by decide, rfl⟩ (Tape_lt (Cellar_s_tape hx)) ?_
  rw [h0]
  refine q_iload_n (pc := 57) dX11_feed_57 rfl rfl ?_
  refine q_iaddN (pc := 58) dX11_feed_58 ?_
  refine q_bipush (pc := 59) (v := nI 60) dX11_feed_59 (by decide) ?_
  refine q_icmp_le (pc := 61) 67 dX11_feed_61 (by decide) (fun c_61 => ?_) (fun c_61 => absurd (nI_le (show l + 2 ≤ 60 by omega) (by decide)) c_61)
  refine q_aload_n (pc := 67) dX11_feed_67 rfl rfl ?_
  refine q_getP (pc := 68) dX11_feed_68 fX11_34 (Cellar_sh hx) ⟨by decide, rfl⟩ (Cellar_lt hx) (Cellar_p_tape hx) ?_
  refine q_iload_n (pc := 71) dX11_feed_71 rfl rfl ?_
  refine q_callVF (pc := 72) dX11_feed_72 kX11_208 (c_X10_append (Cellar_s_tape hx) (q := l) f0.1 (by omega)) (Tape_sh (Cellar_s_tape hx)) rfl (Tape_lt (Cellar_s_tape hx)) ⟨Nat.le_of_ble_eq_true rfl, Nat.le_of_ble_eq_true rfl⟩ rfl rfl (Nat.le_of_ble_eq_true rfl) ?_
  show bq_W _ _ _ _ _ 75 _ [] _ _ _ _ _ _
  refine q_nameI (fun J1 e1 => ?_)
  have f1 := (FS.ap (v := a) f0)
  rw [← e1] at f1
  refine q_iload_n (pc := 75) dX11_feed_75 rfl rfl ?_
  refine q_iconst (pc := 76) (v := nI 1) dX11_feed_76 (by decide) ?_
  refine q_icmp_le (pc := 77) 88 dX11_feed_77 (by decide) (fun c_77 => absurd c_77 (by decide)) (fun c_77 => ?_)
  refine q_aload_n (pc := 80) dX11_feed_80 rfl rfl ?_
  refine q_getP (pc := 81) dX11_feed_81 fX11_34 (Cellar_sh hx) ⟨by decide, rfl⟩ (Cellar_lt hx) (Cellar_p_tape hx) ?_
  refine q_iload_n (pc := 84) dX11_feed_84 rfl rfl ?_
  refine q_callVF (pc := 85) dX11_feed_85 kX11_208 (c_X10_append (Cellar_s_tape hx) (q := (l + 1)) f1.1 (by omega)) (Tape_sh (Cellar_s_tape hx)) rfl (Tape_lt (Cellar_s_tape hx)) ⟨Nat.le_of_ble_eq_true rfl, Nat.le_of_ble_eq_true rfl⟩ rfl rfl (Nat.le_of_ble_eq_true rfl) ?_
  show bq_W _ _ _ _ _ 88 _ [] _ _ _ _ _ _
  refine q_nameI (fun J2 e2 => ?_)
  have f2 := (FS.ap (v := b) f1)
  rw [← e2] at f2
  refine q_iload_n (pc := 88) dX11_feed_88 rfl rfl ?_
  refine q_iconst (pc := 89) (v := nI 2) dX11_feed_89 (by decide) ?_
  refine q_icmp_le (pc := 90) 102 dX11_feed_90 (by decide) (fun c_90 => ?_) (fun c_90 => absurd (by decide) c_90)
  refine q_iload_n (pc := 102) dX11_feed_102 rfl rfl ?_
  refine q_iconst (pc := 103) (v := nI 3) dX11_feed_103 (by decide) ?_
  refine q_icmp_le (pc := 104) 116 dX11_feed_104 (by decide) (fun c_104 => ?_) (fun c_104 => absurd (by decide) c_104)
  refine q_iload_n (pc := 116) dX11_feed_116 rfl rfl ?_
  refine q_iconst (pc := 117) (v := nI 4) dX11_feed_117 (by decide) ?_
  refine q_icmp_le (pc := 118) 130 dX11_feed_118 (by decide) (fun c_118 => ?_) (fun c_118 => absurd (by decide) c_118)
  refine q_aload_n (pc := 130) dX11_feed_130 rfl rfl ?_
  refine q_getP (pc := 131) dX11_feed_131 fX11_34 (Cellar_sh hx) ⟨by decide, rfl⟩ (Cellar_lt hx) (Cellar_p_tape hx) ?_
  refine q_getI (pc := 134) dX11_feed_134 fX11_207 (Tape_sh (Cellar_s_tape hx)) ⟨by decide, rfl⟩ (Tape_lt (Cellar_s_tape hx)) ?_
  exact q_iret (st := []) (pc := 137) dX11_feed_137 rfl ⟨by rw [p_feed_ok (by decide) (by decide) ha hb hc hd he hf, f2.1], rfl, rfl, rfl, rfl, by rw [p_feed_ok (by decide) (by decide) ha hb hc hd he hf]; exact ⟨f2.1, fun j hj => (f2.2.1 j hj).trans (fb_s (k := 1) (fb_1)), f2.2.2⟩⟩
set_option maxHeartbeats 1520000 in
set_option maxRecDepth 20000 in
theorem m_feed_k3 {S : BqH} {n : Nat} {I : BqI} {L : BqL} {P : BqP} {x : Nat} (hx : oX S n P x) {l : Nat} (h0 : I (x + 108) 0 = nI l) (hl : l ≤ 60) {a b c d e : Int32} (ha : ¬ (a < nI 0 ∨ ¬ a ≤ nI 127)) (hb : ¬ (b < nI 0 ∨ ¬ b ≤ nI 127)) (hc : ¬ (c < nI 0 ∨ ¬ c ≤ nI 127)) (hd : ¬ (d < nI 0 ∨ ¬ d ≤ nI 127)) (he : ¬ (e < nI 0 ∨ ¬ e ≤ nI 127)) (hf : ¬ 60 < l + 3) : bq_Sp mX11_feed 3 54 0 0 [.ref x, .int (nI 3), .int a, .int b, .int c, .int d, .int e] S n I L P (qFd x I L S n P (p_feed l (I (x + 108 + 1)) (nI 3) a b c d e)) := by
  refine q_entry (vs := [some (.ref x), some (.int (nI 3)), some (.int a), some (.int b), some (.int c), some (.int d), some (.int e)]) (by decide +kernel) (by simp) (Nat.le_of_ble_eq_true rfl) rfl ?_
  have f0 : FS (x + 108) I I l (I (x + 108 + 1)) := ⟨h0, fun _ _ => rfl, fun _ _ _ => rfl⟩
  refine q_iload_n (pc := 0) dX11_feed_0 rfl rfl ?_
  refine q_iconst (pc := 1) (v := nI 1) dX11_feed_1 (by decide) ?_
  refine q_iconst (pc := 2) (v := nI 5) dX11_feed_2 (by decide) ?_
  refine q_callSF (pc := 3) dX11_feed_3 kX11_69 c_X11_outside ⟨Nat.le_of_ble_eq_true rfl, Nat.le_of_ble_eq_true rfl⟩ rfl rfl (Nat.le_of_ble_eq_true rfl) ?_
  show bq_W _ _ _ _ _ 6 _ [_] _ _ _ _ _ _
  refine q_if_ne (pc := 6) 47 dX11_feed_6 (by decide) (fun c_6 => (((bq_nin (by omega) (by omega) (by decide)) (bq_bn.mp c_6) : False)).elim) (fun c_6 => ?_)
  refine q_iload_n (pc := 9) dX11_feed_9 rfl rfl ?_
  refine q_callSF (pc := 10) dX11_feed_10 kX11_203 c_noByte ⟨Nat.le_of_ble_eq_true rfl, Nat.le_of_ble_eq_true rfl⟩ rfl rfl (Nat.le_of_ble_eq_true rfl) ?_
  show bq_W _ _ _ _ _ 13 _ [_] _ _ _ _ _ _
  refine q_if_ne (pc := 13) 47 dX11_feed_13 (by decide) (fun c_13 => ((ha (bq_bn.mp c_13))).elim) (fun c_13 => ?_)
  refine q_iload_n (pc := 16) dX11_feed_16 rfl rfl ?_
  refine q_callSF (pc := 17) dX11_feed_17 kX11_203 c_noByte ⟨Nat.le_of_ble_eq_true rfl, Nat.le_of_ble_eq_true rfl⟩ rfl rfl (Nat.le_of_ble_eq_true rfl) ?_
  show bq_W _ _ _ _ _ 20 _ [_] _ _ _ _ _ _
  refine q_if_ne (pc := 20) 47 dX11_feed_20 (by decide) (fun c_20 => ((hb (bq_bn.mp c_20))).elim) (fun c_20 => ?_)
  refine q_iload (pc := 23) dX11_feed_23 rfl ?_
  refine q_callSF (pc := 25) dX11_feed_25 kX11_203 c_noByte ⟨Nat.le_of_ble_eq_true rfl, Nat.le_of_ble_eq_true rfl⟩ rfl rfl (Nat.le_of_ble_eq_true rfl) ?_
  show bq_W _ _ _ _ _ 28 _ [_] _ _ _ _ _ _
  refine q_if_ne (pc := 28) 47 dX11_feed_28 (by decide) (fun c_28 => ((hc (bq_bn.mp c_28))).elim) (fun c_28 => ?_)
  refine q_iload (pc := 31) dX11_feed_31 rfl ?_
  refine q_callSF (pc := 33) dX11_feed_33 kX11_203 c_noByte ⟨Nat.le_of_ble_eq_true rfl, Nat.le_of_ble_eq_true rfl⟩ rfl rfl (Nat.le_of_ble_eq_true rfl) ?_
  show bq_W _ _ _ _ _ 36 _ [_] _ _ _ _ _ _
  refine q_if_ne (pc := 36) 47 dX11_feed_36 (by decide) (fun c_36 => ((hd (bq_bn.mp c_36))).elim) (fun c_36 => ?_)
  refine q_iload (pc := 39) dX11_feed_39 rfl ?_
  refine q_callSF (pc := 41) dX11_feed_41 kX11_203 c_noByte ⟨Nat.le_of_ble_eq_true rfl, Nat.le_of_ble_eq_true rfl⟩ rfl rfl (Nat.le_of_ble_eq_true rfl) ?_
  show bq_W _ _ _ _ _ 44 _ [_] _ _ _ _ _ _
  refine q_if_eq (pc := 44) 50 dX11_feed_44 (by decide) (fun c_44 => ?_) (fun c_44 => ((he (bq_bn.mp c_44))).elim)
  refine q_aload_n (pc := 50) dX11_feed_50 rfl rfl ?_
  refine q_getP (pc := 51) dX11_feed_51 fX11_34 (Cellar_sh hx) ⟨by decide, rfl⟩ (Cellar_lt hx) (Cellar_p_tape hx) ?_
  refine q_getI (pc := 54) dX11_feed_54 fX11_207 (Tape_sh (Cellar_s_tape hx)) ⟨by decide, rfl⟩ (Tape_lt (Cellar_s_tape hx)) ?_
  rw [h0]
  refine q_iload_n (pc := 57) dX11_feed_57 rfl rfl ?_
  refine q_iaddN (pc := 58) dX11_feed_58 ?_
  refine q_bipush (pc := 59) (v := nI 60) dX11_feed_59 (by decide) ?_
  refine q_icmp_le (pc := 61) 67 dX11_feed_61 (by decide) (fun c_61 => ?_) (fun c_61 => absurd (nI_le (show l + 3 ≤ 60 by omega) (by decide)) c_61)
  refine q_aload_n (pc := 67) dX11_feed_67 rfl rfl ?_
  refine q_getP (pc := 68) dX11_feed_68 fX11_34 (Cellar_sh hx) ⟨by decide, rfl⟩ (Cellar_lt hx) (Cellar_p_tape hx) ?_
  refine q_iload_n (pc := 71) dX11_feed_71 rfl rfl ?_
  refine q_callVF (pc := 72) dX11_feed_72 kX11_208 (c_X10_append (Cellar_s_tape hx) (q := l) f0.1 (by omega)) (Tape_sh (Cellar_s_tape hx)) rfl (Tape_lt (Cellar_s_tape hx)) ⟨Nat.le_of_ble_eq_true rfl, Nat.le_of_ble_eq_true rfl⟩ rfl rfl (Nat.le_of_ble_eq_true rfl) ?_
  show bq_W _ _ _ _ _ 75 _ [] _ _ _ _ _ _
  refine q_nameI (fun J1 e1 => ?_)
  have f1 := (FS.ap (v := a) f0)
  rw [← e1] at f1
  refine q_iload_n (pc := 75) dX11_feed_75 rfl rfl ?_
  refine q_iconst (pc := 76) (v := nI 1) dX11_feed_76 (by decide) ?_
  refine q_icmp_le (pc := 77) 88 dX11_feed_77 (by decide) (fun c_77 => absurd c_77 (by decide)) (fun c_77 => ?_)
  refine q_aload_n (pc := 80) dX11_feed_80 rfl rfl ?_
  refine q_getP (pc := 81) dX11_feed_81 fX11_34 (Cellar_sh hx) ⟨by decide, rfl⟩ (Cellar_lt hx) (Cellar_p_tape hx) ?_
  refine q_iload_n (pc := 84) dX11_feed_84 rfl rfl ?_
  refine q_callVF (pc := 85) dX11_feed_85 kX11_208 (c_X10_append (Cellar_s_tape hx) (q := (l + 1)) f1.1 (by omega)) (Tape_sh (Cellar_s_tape hx)) rfl (Tape_lt (Cellar_s_tape hx)) ⟨Nat.le_of_ble_eq_true rfl, Nat.le_of_ble_eq_true rfl⟩ rfl rfl (Nat.le_of_ble_eq_true rfl) ?_
  show bq_W _ _ _ _ _ 88 _ [] _ _ _ _ _ _
  refine q_nameI (fun J2 e2 => ?_)
  have f2 := (FS.ap (v := b) f1)
  rw [← e2] at f2
  refine q_iload_n (pc := 88) dX11_feed_88 rfl rfl ?_
  refine q_iconst (pc := 89) (v := nI 2) dX11_feed_89 (by decide) ?_
  refine q_icmp_le (pc := 90) 102 dX11_feed_90 (by decide) (fun c_90 => absurd c_90 (by decide)) (fun c_90 => ?_)
  refine q_aload_n (pc := 93) dX11_feed_93 rfl rfl ?_
  refine q_getP (pc := 94) dX11_feed_94 fX11_34 (Cellar_sh hx) ⟨by decide, rfl⟩ (Cellar_lt hx) (Cellar_p_tape hx) ?_
  refine q_iload (pc := 97) dX11_feed_97 rfl ?_
  refine q_callVF (pc := 99) dX11_feed_99 kX11_208 (c_X10_append (Cellar_s_tape hx) (q := (l + 2)) f2.1 (by omega)) (Tape_sh (Cellar_s_tape hx)) rfl (Tape_lt (Cellar_s_tape hx)) ⟨Nat.le_of_ble_eq_true rfl, Nat.le_of_ble_eq_true rfl⟩ rfl rfl (Nat.le_of_ble_eq_true rfl) ?_
  show bq_W _ _ _ _ _ 102 _ [] _ _ _ _ _ _
  refine q_nameI (fun J3 e3 => ?_)
  have f3 := (FS.ap (v := c) f2)
  rw [← e3] at f3
  refine q_iload_n (pc := 102) dX11_feed_102 rfl rfl ?_
  refine q_iconst (pc := 103) (v := nI 3) dX11_feed_103 (by decide) ?_
  refine q_icmp_le (pc := 104) 116 dX11_feed_104 (by decide) (fun c_104 => ?_) (fun c_104 => absurd (by decide) c_104)
  refine q_iload_n (pc := 116) dX11_feed_116 rfl rfl ?_
  refine q_iconst (pc := 117) (v := nI 4) dX11_feed_117 (by decide) ?_
  refine q_icmp_le (pc := 118) 130 dX11_feed_118 (by decide) (fun c_118 => ?_) (fun c_118 => absurd (by decide) c_118)
  refine q_aload_n (pc := 130) dX11_feed_130 rfl rfl ?_
  refine q_getP (pc := 131) dX11_feed_131 fX11_34 (Cellar_sh hx) ⟨by decide, rfl⟩ (Cellar_lt hx) (Cellar_p_tape hx) ?_
  refine q_getI (pc := 134) dX11_feed_134 fX11_207 (Tape_sh (Cellar_s_tape hx)) ⟨by decide, rfl⟩ (Tape_lt (Cellar_s_tape hx)) ?_
  exact q_iret (st := []) (pc := 137) dX11_feed_137 rfl ⟨by rw [p_feed_ok (by decide) (by decide) ha hb hc hd he hf, f3.1], rfl, rfl, rfl, rfl, by rw [p_feed_ok (by decide) (by decide) ha hb hc hd he hf]; exact ⟨f3.1, fun j hj => (f3.2.1 j hj).trans (fb_s (k := 2) (fb_s (k := 1) (fb_1))), f3.2.2⟩⟩
set_option maxHeartbeats 1680000 in
set_option maxRecDepth 20000 in
theorem m_feed_k4 {S : BqH} {n : Nat} {I : BqI} {L : BqL} {P : BqP} {x : Nat} (hx : oX S n P x) {l : Nat} (h0 : I (x + 108) 0 = nI l) (hl : l ≤ 60) {a b c d e : Int32} (ha : ¬ (a < nI 0 ∨ ¬ a ≤ nI 127)) (hb : ¬ (b < nI 0 ∨ ¬ b ≤ nI 127)) (hc : ¬ (c < nI 0 ∨ ¬ c ≤ nI 127)) (hd : ¬ (d < nI 0 ∨ ¬ d ≤ nI 127)) (he : ¬ (e < nI 0 ∨ ¬ e ≤ nI 127)) (hf : ¬ 60 < l + 4) : bq_Sp mX11_feed 3 54 0 0 [.ref x, .int (nI 4), .int a, .int b, .int c, .int d, .int e] S n I L P (qFd x I L S n P (p_feed l (I (x + 108 + 1)) (nI 4) a b c d e)) := by
  refine q_entry (vs := [some (.ref x), some (.int (nI 4)), some (.int a), some (.int b), some (.int c), some (.int d), some (.int e)]) (by decide +kernel) (by simp) (Nat.le_of_ble_eq_true rfl) rfl ?_
  have f0 : FS (x + 108) I I l (I (x + 108 + 1)) := ⟨h0, fun _ _ => rfl, fun _ _ _ => rfl⟩
  refine q_iload_n (pc := 0) dX11_feed_0 rfl rfl ?_
  refine q_iconst (pc := 1) (v := nI 1) dX11_feed_1 (by decide) ?_
  refine q_iconst (pc := 2) (v := nI 5) dX11_feed_2 (by decide) ?_
  refine q_callSF (pc := 3) dX11_feed_3 kX11_69 c_X11_outside ⟨Nat.le_of_ble_eq_true rfl, Nat.le_of_ble_eq_true rfl⟩ rfl rfl (Nat.le_of_ble_eq_true rfl) ?_
  show bq_W _ _ _ _ _ 6 _ [_] _ _ _ _ _ _
  refine q_if_ne (pc := 6) 47 dX11_feed_6 (by decide) (fun c_6 => (((bq_nin (by omega) (by omega) (by decide)) (bq_bn.mp c_6) : False)).elim) (fun c_6 => ?_)
  refine q_iload_n (pc := 9) dX11_feed_9 rfl rfl ?_
  refine q_callSF (pc := 10) dX11_feed_10 kX11_203 c_noByte ⟨Nat.le_of_ble_eq_true rfl, Nat.le_of_ble_eq_true rfl⟩ rfl rfl (Nat.le_of_ble_eq_true rfl) ?_
  show bq_W _ _ _ _ _ 13 _ [_] _ _ _ _ _ _
  refine q_if_ne (pc := 13) 47 dX11_feed_13 (by decide) (fun c_13 => ((ha (bq_bn.mp c_13))).elim) (fun c_13 => ?_)
  refine q_iload_n (pc := 16) dX11_feed_16 rfl rfl ?_
  refine q_callSF (pc := 17) dX11_feed_17 kX11_203 c_noByte ⟨Nat.le_of_ble_eq_true rfl, Nat.le_of_ble_eq_true rfl⟩ rfl rfl (Nat.le_of_ble_eq_true rfl) ?_
  show bq_W _ _ _ _ _ 20 _ [_] _ _ _ _ _ _
  refine q_if_ne (pc := 20) 47 dX11_feed_20 (by decide) (fun c_20 => ((hb (bq_bn.mp c_20))).elim) (fun c_20 => ?_)
  refine q_iload (pc := 23) dX11_feed_23 rfl ?_
  refine q_callSF (pc := 25) dX11_feed_25 kX11_203 c_noByte ⟨Nat.le_of_ble_eq_true rfl, Nat.le_of_ble_eq_true rfl⟩ rfl rfl (Nat.le_of_ble_eq_true rfl) ?_
  show bq_W _ _ _ _ _ 28 _ [_] _ _ _ _ _ _
  refine q_if_ne (pc := 28) 47 dX11_feed_28 (by decide) (fun c_28 => ((hc (bq_bn.mp c_28))).elim) (fun c_28 => ?_)
  refine q_iload (pc := 31) dX11_feed_31 rfl ?_
  refine q_callSF (pc := 33) dX11_feed_33 kX11_203 c_noByte ⟨Nat.le_of_ble_eq_true rfl, Nat.le_of_ble_eq_true rfl⟩ rfl rfl (Nat.le_of_ble_eq_true rfl) ?_
  show bq_W _ _ _ _ _ 36 _ [_] _ _ _ _ _ _
  refine q_if_ne (pc := 36) 47 dX11_feed_36 (by decide) (fun c_36 => ((hd (bq_bn.mp c_36))).elim) (fun c_36 => ?_)
  refine q_iload (pc := 39) dX11_feed_39 rfl ?_
  refine q_callSF (pc := 41) dX11_feed_41 kX11_203 c_noByte ⟨Nat.le_of_ble_eq_true rfl, Nat.le_of_ble_eq_true rfl⟩ rfl rfl (Nat.le_of_ble_eq_true rfl) ?_
  show bq_W _ _ _ _ _ 44 _ [_] _ _ _ _ _ _
  refine q_if_eq (pc := 44) 50 dX11_feed_44 (by decide) (fun c_44 => ?_) (fun c_44 => ((he (bq_bn.mp c_44))).elim)
  refine q_aload_n (pc := 50) dX11_feed_50 rfl rfl ?_
  refine q_getP (pc := 51) dX11_feed_51 fX11_34 (Cellar_sh hx) ⟨by decide, rfl⟩ (Cellar_lt hx) (Cellar_p_tape hx) ?_
  refine q_getI (pc := 54) dX11_feed_54 fX11_207 (Tape_sh (Cellar_s_tape hx)) ⟨by decide, rfl⟩ (Tape_lt (Cellar_s_tape hx)) ?_
  rw [h0]
  refine q_iload_n (pc := 57) dX11_feed_57 rfl rfl ?_
  refine q_iaddN (pc := 58) dX11_feed_58 ?_
  refine q_bipush (pc := 59) (v := nI 60) dX11_feed_59 (by decide) ?_
  refine q_icmp_le (pc := 61) 67 dX11_feed_61 (by decide) (fun c_61 => ?_) (fun c_61 => absurd (nI_le (show l + 4 ≤ 60 by omega) (by decide)) c_61)
  refine q_aload_n (pc := 67) dX11_feed_67 rfl rfl ?_
  refine q_getP (pc := 68) dX11_feed_68 fX11_34 (Cellar_sh hx) ⟨by decide, rfl⟩ (Cellar_lt hx) (Cellar_p_tape hx) ?_
  refine q_iload_n (pc := 71) dX11_feed_71 rfl rfl ?_
  refine q_callVF (pc := 72) dX11_feed_72 kX11_208 (c_X10_append (Cellar_s_tape hx) (q := l) f0.1 (by omega)) (Tape_sh (Cellar_s_tape hx)) rfl (Tape_lt (Cellar_s_tape hx)) ⟨Nat.le_of_ble_eq_true rfl, Nat.le_of_ble_eq_true rfl⟩ rfl rfl (Nat.le_of_ble_eq_true rfl) ?_
  show bq_W _ _ _ _ _ 75 _ [] _ _ _ _ _ _
  refine q_nameI (fun J1 e1 => ?_)
  have f1 := (FS.ap (v := a) f0)
  rw [← e1] at f1
  refine q_iload_n (pc := 75) dX11_feed_75 rfl rfl ?_
  refine q_iconst (pc := 76) (v := nI 1) dX11_feed_76 (by decide) ?_
  refine q_icmp_le (pc := 77) 88 dX11_feed_77 (by decide) (fun c_77 => absurd c_77 (by decide)) (fun c_77 => ?_)
  refine q_aload_n (pc := 80) dX11_feed_80 rfl rfl ?_
  refine q_getP (pc := 81) dX11_feed_81 fX11_34 (Cellar_sh hx) ⟨by decide, rfl⟩ (Cellar_lt hx) (Cellar_p_tape hx) ?_
  refine q_iload_n (pc := 84) dX11_feed_84 rfl rfl ?_
  refine q_callVF (pc := 85) dX11_feed_85 kX11_208 (c_X10_append (Cellar_s_tape hx) (q := (l + 1)) f1.1 (by omega)) (Tape_sh (Cellar_s_tape hx)) rfl (Tape_lt (Cellar_s_tape hx)) ⟨Nat.le_of_ble_eq_true rfl, Nat.le_of_ble_eq_true rfl⟩ rfl rfl (Nat.le_of_ble_eq_true rfl) ?_
  show bq_W _ _ _ _ _ 88 _ [] _ _ _ _ _ _
  refine q_nameI (fun J2 e2 => ?_)
  have f2 := (FS.ap (v := b) f1)
  rw [← e2] at f2
  refine q_iload_n (pc := 88) dX11_feed_88 rfl rfl ?_
  refine q_iconst (pc := 89) (v := nI 2) dX11_feed_89 (by decide) ?_
  refine q_icmp_le (pc := 90) 102 dX11_feed_90 (by decide) (fun c_90 => absurd c_90 (by decide)) (fun c_90 => ?_)
  refine q_aload_n (pc := 93) dX11_feed_93 rfl rfl ?_
  refine q_getP (pc := 94) dX11_feed_94 fX11_34 (Cellar_sh hx) ⟨by decide, rfl⟩ (Cellar_lt hx) (Cellar_p_tape hx) ?_
  refine q_iload (pc := 97) dX11_feed_97 rfl ?_
  refine q_callVF (pc := 99) dX11_feed_99 kX11_208 (c_X10_append (Cellar_s_tape hx) (q := (l + 2)) f2.1 (by omega)) (Tape_sh (Cellar_s_tape hx)) rfl (Tape_lt (Cellar_s_tape hx)) ⟨Nat.le_of_ble_eq_true rfl, Nat.le_of_ble_eq_true rfl⟩ rfl rfl (Nat.le_of_ble_eq_true rfl) ?_
  show bq_W _ _ _ _ _ 102 _ [] _ _ _ _ _ _
  refine q_nameI (fun J3 e3 => ?_)
  have f3 := (FS.ap (v := c) f2)
  rw [← e3] at f3
  refine q_iload_n (pc := 102) dX11_feed_102 rfl rfl ?_
  refine q_iconst (pc := 103) (v := nI 3) dX11_feed_103 (by decide) ?_
  refine q_icmp_le (pc := 104) 116 dX11_feed_104 (by decide) (fun c_104 => absurd c_104 (by decide)) (fun c_104 => ?_)
  refine q_aload_n (pc := 107) dX11_feed_107 rfl rfl ?_
  refine q_getP (pc := 108) dX11_feed_108 fX11_34 (Cellar_sh hx) ⟨by decide, rfl⟩ (Cellar_lt hx) (Cellar_p_tape hx) ?_
  refine q_iload (pc := 111) dX11_feed_111 rfl ?_
  refine q_callVF (pc := 113) dX11_feed_113 kX11_208 (c_X10_append (Cellar_s_tape hx) (q := (l + 3)) f3.1 (by omega)) (Tape_sh (Cellar_s_tape hx)) rfl (Tape_lt (Cellar_s_tape hx)) ⟨Nat.le_of_ble_eq_true rfl, Nat.le_of_ble_eq_true rfl⟩ rfl rfl (Nat.le_of_ble_eq_true rfl) ?_
  show bq_W _ _ _ _ _ 116 _ [] _ _ _ _ _ _
  refine q_nameI (fun J4 e4 => ?_)
  have f4 := (FS.ap (v := d) f3)
  rw [← e4] at f4
  refine q_iload_n (pc := 116) dX11_feed_116 rfl rfl ?_
  refine q_iconst (pc := 117) (v := nI 4) dX11_feed_117 (by decide) ?_
  refine q_icmp_le (pc := 118) 130 dX11_feed_118 (by decide) (fun c_118 => ?_) (fun c_118 => absurd (by decide) c_118)
  refine q_aload_n (pc := 130) dX11_feed_130 rfl rfl ?_
  refine q_getP (pc := 131) dX11_feed_131 fX11_34 (Cellar_sh hx) ⟨by decide, rfl⟩ (Cellar_lt hx) (Cellar_p_tape hx) ?_
  refine q_getI (pc := 134) dX11_feed_134 fX11_207 (Tape_sh (Cellar_s_tape hx)) ⟨by decide, rfl⟩ (Tape_lt (Cellar_s_tape hx)) ?_
  exact q_iret (st := []) (pc := 137) dX11_feed_137 rfl ⟨by rw [p_feed_ok (by decide) (by decide) ha hb hc hd he hf, f4.1], rfl, rfl, rfl, rfl, by rw [p_feed_ok (by decide) (by decide) ha hb hc hd he hf]; exact ⟨f4.1, fun j hj => (f4.2.1 j hj).trans (fb_s (k := 3) (fb_s (k := 2) (fb_s (k := 1) (fb_1)))), f4.2.2⟩⟩
set_option maxHeartbeats 1840000 in
set_option maxRecDepth 20000 in
theorem m_feed_k5 {S : BqH} {n : Nat} {I : BqI} {L : BqL} {P : BqP} {x : Nat} (hx : oX S n P x) {l : Nat} (h0 : I (x + 108) 0 = nI l) (hl : l ≤ 60) {a b c d e : Int32} (ha : ¬ (a < nI 0 ∨ ¬ a ≤ nI 127)) (hb : ¬ (b < nI 0 ∨ ¬ b ≤ nI 127)) (hc : ¬ (c < nI 0 ∨ ¬ c ≤ nI 127)) (hd : ¬ (d < nI 0 ∨ ¬ d ≤ nI 127)) (he : ¬ (e < nI 0 ∨ ¬ e ≤ nI 127)) (hf : ¬ 60 < l + 5) : bq_Sp mX11_feed 3 54 0 0 [.ref x, .int (nI 5), .int a, .int b, .int c, .int d, .int e] S n I L P (qFd x I L S n P (p_feed l (I (x + 108 + 1)) (nI 5) a b c d e)) := by
  refine q_entry (vs := [some (.ref x), some (.int (nI 5)), some (.int a), some (.int b), some (.int c), some (.int d), some (.int e)]) (by decide +kernel) (by simp) (Nat.le_of_ble_eq_true rfl) rfl ?_
  have f0 : FS (x + 108) I I l (I (x + 108 + 1)) := ⟨h0, fun _ _ => rfl, fun _ _ _ => rfl⟩
  refine q_iload_n (pc := 0) dX11_feed_0 rfl rfl ?_
  refine q_iconst (pc := 1) (v := nI 1) dX11_feed_1 (by decide) ?_
  refine q_iconst (pc := 2) (v := nI 5) dX11_feed_2 (by decide) ?_
  refine q_callSF (pc := 3) dX11_feed_3 kX11_69 c_X11_outside ⟨Nat.le_of_ble_eq_true rfl, Nat.le_of_ble_eq_true rfl⟩ rfl rfl (Nat.le_of_ble_eq_true rfl) ?_
  show bq_W _ _ _ _ _ 6 _ [_] _ _ _ _ _ _
  refine q_if_ne (pc := 6) 47 dX11_feed_6 (by decide) (fun c_6 => (((bq_nin (by omega) (by omega) (by decide)) (bq_bn.mp c_6) : False)).elim) (fun c_6 => ?_)
  refine q_iload_n (pc := 9) dX11_feed_9 rfl rfl ?_
  refine q_callSF (pc := 10) dX11_feed_10 kX11_203 c_noByte ⟨Nat.le_of_ble_eq_true rfl, Nat.le_of_ble_eq_true rfl⟩ rfl rfl (Nat.le_of_ble_eq_true rfl) ?_
  show bq_W _ _ _ _ _ 13 _ [_] _ _ _ _ _ _
  refine q_if_ne (pc := 13) 47 dX11_feed_13 (by decide) (fun c_13 => ((ha (bq_bn.mp c_13))).elim) (fun c_13 => ?_)
  refine q_iload_n (pc := 16) dX11_feed_16 rfl rfl ?_
  refine q_callSF (pc := 17) dX11_feed_17 kX11_203 c_noByte ⟨Nat.le_of_ble_eq_true rfl, Nat.le_of_ble_eq_true rfl⟩ rfl rfl (Nat.le_of_ble_eq_true rfl) ?_
  show bq_W _ _ _ _ _ 20 _ [_] _ _ _ _ _ _
  refine q_if_ne (pc := 20) 47 dX11_feed_20 (by decide) (fun c_20 => ((hb (bq_bn.mp c_20))).elim) (fun c_20 => ?_)
  refine q_iload (pc := 23) dX11_feed_23 rfl ?_
  refine q_callSF (pc := 25) dX11_feed_25 kX11_203 c_noByte ⟨Nat.le_of_ble_eq_true rfl, Nat.le_of_ble_eq_true rfl⟩ rfl rfl (Nat.le_of_ble_eq_true rfl) ?_
  show bq_W _ _ _ _ _ 28 _ [_] _ _ _ _ _ _
  refine q_if_ne (pc := 28) 47 dX11_feed_28 (by decide) (fun c_28 => ((hc (bq_bn.mp c_28))).elim) (fun c_28 => ?_)
  refine q_iload (pc := 31) dX11_feed_31 rfl ?_
  refine q_callSF (pc := 33) dX11_feed_33 kX11_203 c_noByte ⟨Nat.le_of_ble_eq_true rfl, Nat.le_of_ble_eq_true rfl⟩ rfl rfl (Nat.le_of_ble_eq_true rfl) ?_
  show bq_W _ _ _ _ _ 36 _ [_] _ _ _ _ _ _
  refine q_if_ne (pc := 36) 47 dX11_feed_36 (by decide) (fun c_36 => ((hd (bq_bn.mp c_36))).elim) (fun c_36 => ?_)
  refine q_iload (pc := 39) dX11_feed_39 rfl ?_
  refine q_callSF (pc := 41) dX11_feed_41 kX11_203 c_noByte ⟨Nat.le_of_ble_eq_true rfl, Nat.le_of_ble_eq_true rfl⟩ rfl rfl (Nat.le_of_ble_eq_true rfl) ?_
  show bq_W _ _ _ _ _ 44 _ [_] _ _ _ _ _ _
  refine q_if_eq (pc := 44) 50 dX11_feed_44 (by decide) (fun c_44 => ?_) (fun c_44 => ((he (bq_bn.mp c_44))).elim)
  refine q_aload_n (pc := 50) dX11_feed_50 rfl rfl ?_
  refine q_getP (pc := 51) dX11_feed_51 fX11_34 (Cellar_sh hx) ⟨by decide, rfl⟩ (Cellar_lt hx) (Cellar_p_tape hx) ?_
  refine q_getI (pc := 54) dX11_feed_54 fX11_207 (Tape_sh (Cellar_s_tape hx)) ⟨by decide, rfl⟩ (Tape_lt (Cellar_s_tape hx)) ?_
  rw [h0]
  refine q_iload_n (pc := 57) dX11_feed_57 rfl rfl ?_
  refine q_iaddN (pc := 58) dX11_feed_58 ?_
  refine q_bipush (pc := 59) (v := nI 60) dX11_feed_59 (by decide) ?_
  refine q_icmp_le (pc := 61) 67 dX11_feed_61 (by decide) (fun c_61 => ?_) (fun c_61 => absurd (nI_le (show l + 5 ≤ 60 by omega) (by decide)) c_61)
  refine q_aload_n (pc := 67) dX11_feed_67 rfl rfl ?_
  refine q_getP (pc := 68) dX11_feed_68 fX11_34 (Cellar_sh hx) ⟨by decide, rfl⟩ (Cellar_lt hx) (Cellar_p_tape hx) ?_
  refine q_iload_n (pc := 71) dX11_feed_71 rfl rfl ?_
  refine q_callVF (pc := 72) dX11_feed_72 kX11_208 (c_X10_append (Cellar_s_tape hx) (q := l) f0.1 (by omega)) (Tape_sh (Cellar_s_tape hx)) rfl (Tape_lt (Cellar_s_tape hx)) ⟨Nat.le_of_ble_eq_true rfl, Nat.le_of_ble_eq_true rfl⟩ rfl rfl (Nat.le_of_ble_eq_true rfl) ?_
  show bq_W _ _ _ _ _ 75 _ [] _ _ _ _ _ _
  refine q_nameI (fun J1 e1 => ?_)
  have f1 := (FS.ap (v := a) f0)
  rw [← e1] at f1
  refine q_iload_n (pc := 75) dX11_feed_75 rfl rfl ?_
  refine q_iconst (pc := 76) (v := nI 1) dX11_feed_76 (by decide) ?_
  refine q_icmp_le (pc := 77) 88 dX11_feed_77 (by decide) (fun c_77 => absurd c_77 (by decide)) (fun c_77 => ?_)
  refine q_aload_n (pc := 80) dX11_feed_80 rfl rfl ?_
  refine q_getP (pc := 81) dX11_feed_81 fX11_34 (Cellar_sh hx) ⟨by decide, rfl⟩ (Cellar_lt hx) (Cellar_p_tape hx) ?_
  refine q_iload_n (pc := 84) dX11_feed_84 rfl rfl ?_
  refine q_callVF (pc := 85) dX11_feed_85 kX11_208 (c_X10_append (Cellar_s_tape hx) (q := (l + 1)) f1.1 (by omega)) (Tape_sh (Cellar_s_tape hx)) rfl (Tape_lt (Cellar_s_tape hx)) ⟨Nat.le_of_ble_eq_true rfl, Nat.le_of_ble_eq_true rfl⟩ rfl rfl (Nat.le_of_ble_eq_true rfl) ?_
  show bq_W _ _ _ _ _ 88 _ [] _ _ _ _ _ _
  refine q_nameI (fun J2 e2 => ?_)
  have f2 := (FS.ap (v := b) f1)
  rw [← e2] at f2
  refine q_iload_n (pc := 88) dX11_feed_88 rfl rfl ?_
  refine q_iconst (pc := 89) (v := nI 2) dX11_feed_89 (by decide) ?_
  refine q_icmp_le (pc := 90) 102 dX11_feed_90 (by decide) (fun c_90 => absurd c_90 (by decide)) (fun c_90 => ?_)
  refine q_aload_n (pc := 93) dX11_feed_93 rfl rfl ?_
  refine q_getP (pc := 94) dX11_feed_94 fX11_34 (Cellar_sh hx) ⟨by decide, rfl⟩ (Cellar_lt hx) (Cellar_p_tape hx) ?_
  refine q_iload (pc := 97) dX11_feed_97 rfl ?_
  refine q_callVF (pc := 99) dX11_feed_99 kX11_208 (c_X10_append (Cellar_s_tape hx) (q := (l + 2)) f2.1 (by omega)) (Tape_sh (Cellar_s_tape hx)) rfl (Tape_lt (Cellar_s_tape hx)) ⟨Nat.le_of_ble_eq_true rfl, Nat.le_of_ble_eq_true rfl⟩ rfl rfl (Nat.le_of_ble_eq_true rfl) ?_
  show bq_W _ _ _ _ _ 102 _ [] _ _ _ _ _ _
  refine q_nameI (fun J3 e3 => ?_)
  have f3 := (FS.ap (v := c) f2)
  rw [← e3] at f3
  refine q_iload_n (pc := 102) dX11_feed_102 rfl rfl ?_
  refine q_iconst (pc := 103) (v := nI 3) dX11_feed_103 (by decide) ?_
  refine q_icmp_le (pc := 104) 116 dX11_feed_104 (by decide) (fun c_104 => absurd c_104 (by decide)) (fun c_104 => ?_)
  refine q_aload_n (pc := 107) dX11_feed_107 rfl rfl ?_
  refine q_getP (pc := 108) dX11_feed_108 fX11_34 (Cellar_sh hx) ⟨by decide, rfl⟩ (Cellar_lt hx) (Cellar_p_tape hx) ?_
  refine q_iload (pc := 111) dX11_feed_111 rfl ?_
  refine q_callVF (pc := 113) dX11_feed_113 kX11_208 (c_X10_append (Cellar_s_tape hx) (q := (l + 3)) f3.1 (by omega)) (Tape_sh (Cellar_s_tape hx)) rfl (Tape_lt (Cellar_s_tape hx)) ⟨Nat.le_of_ble_eq_true rfl, Nat.le_of_ble_eq_true rfl⟩ rfl rfl (Nat.le_of_ble_eq_true rfl) ?_
  show bq_W _ _ _ _ _ 116 _ [] _ _ _ _ _ _
  refine q_nameI (fun J4 e4 => ?_)
  have f4 := (FS.ap (v := d) f3)
  rw [← e4] at f4
  refine q_iload_n (pc := 116) dX11_feed_116 rfl rfl ?_
  refine q_iconst (pc := 117) (v := nI 4) dX11_feed_117 (by decide) ?_
  refine q_icmp_le (pc := 118) 130 dX11_feed_118 (by decide) (fun c_118 => absurd c_118 (by decide)) (fun c_118 => ?_)
  refine q_aload_n (pc := 121) dX11_feed_121 rfl rfl ?_
  refine q_getP (pc := 122) dX11_feed_122 fX11_34 (Cellar_sh hx) ⟨by decide, rfl⟩ (Cellar_lt hx) (Cellar_p_tape hx) ?_
  refine q_iload (pc := 125) dX11_feed_125 rfl ?_
  refine q_callVF (pc := 127) dX11_feed_127 kX11_208 (c_X10_append (Cellar_s_tape hx) (q := (l + 4)) f4.1 (by omega)) (Tape_sh (Cellar_s_tape hx)) rfl (Tape_lt (Cellar_s_tape hx)) ⟨Nat.le_of_ble_eq_true rfl, Nat.le_of_ble_eq_true rfl⟩ rfl rfl (Nat.le_of_ble_eq_true rfl) ?_
  show bq_W _ _ _ _ _ 130 _ [] _ _ _ _ _ _
  refine q_nameI (fun J5 e5 => ?_)
  have f5 := (FS.ap (v := e) f4)
  rw [← e5] at f5
  refine q_aload_n (pc := 130) dX11_feed_130 rfl rfl ?_
  refine q_getP (pc := 131) dX11_feed_131 fX11_34 (Cellar_sh hx) ⟨by decide, rfl⟩ (Cellar_lt hx) (Cellar_p_tape hx) ?_
  refine q_getI (pc := 134) dX11_feed_134 fX11_207 (Tape_sh (Cellar_s_tape hx)) ⟨by decide, rfl⟩ (Tape_lt (Cellar_s_tape hx)) ?_
  exact q_iret (st := []) (pc := 137) dX11_feed_137 rfl ⟨by rw [p_feed_ok (by decide) (by decide) ha hb hc hd he hf, f5.1], rfl, rfl, rfl, rfl, by rw [p_feed_ok (by decide) (by decide) ha hb hc hd he hf]; exact ⟨f5.1, fun j hj => (f5.2.1 j hj).trans (fb_s (k := 4) (fb_s (k := 3) (fb_s (k := 2) (fb_s (k := 1) (fb_1))))), f5.2.2⟩⟩
theorem m_feed {S : BqH} {n : Nat} {I : BqI} {L : BqL} {P : BqP} {x : Nat} (hx : oX S n P x) {l : Nat} (h0 : I (x + 108) 0 = nI l) (hl : l ≤ 60) {k : Int32} {a b c d e : Int32} : bq_Sp mX11_feed 3 54 0 0 [.ref x, .int k, .int a, .int b, .int c, .int d, .int e] S n I L P (qFd x I L S n P (p_feed l (I (x + 108 + 1)) k a b c d e)) := by
  by_cases hb : (k < nI 1 ∨ ¬ k ≤ nI 5) ∨ (a < nI 0 ∨ ¬ a ≤ nI 127) ∨ (b < nI 0 ∨ ¬ b ≤ nI 127) ∨ (c < nI 0 ∨ ¬ c ≤ nI 127) ∨ (d < nI 0 ∨ ¬ d ≤ nI 127) ∨ (e < nI 0 ∨ ¬ e ≤ nI 127)
  · exact m_feed_a hx h0 hl hb
  obtain ⟨q, q1, q5, rfl⟩ := (bq_in19 k 1 5 (by decide) (by decide)).resolve_left (fun z => hb (Or.inl z))
  have ha : ¬ (a < nI 0 ∨ ¬ a ≤ nI 127) := fun z => hb (Or.inr (Or.inl z))
  have hb' : ¬ (b < nI 0 ∨ ¬ b ≤ nI 127) := fun z => hb (Or.inr (Or.inr (Or.inl z)))
  have hc : ¬ (c < nI 0 ∨ ¬ c ≤ nI 127) := fun z => hb (Or.inr (Or.inr (Or.inr (Or.inl z))))
  have hd : ¬ (d < nI 0 ∨ ¬ d ≤ nI 127) := fun z => hb (Or.inr (Or.inr (Or.inr (Or.inr (Or.inl z)))))
  have he : ¬ (e < nI 0 ∨ ¬ e ≤ nI 127) := fun z => hb (Or.inr (Or.inr (Or.inr (Or.inr (Or.inr z)))))
  by_cases hf : 60 < l + q
  · exact m_feed_b hx h0 hl q1 q5 ha hb' hc hd he hf
  match q, q1, q5, hf with
  | 1, _, _, hf => exact m_feed_k1 hx h0 hl ha hb' hc hd he hf
  | 2, _, _, hf => exact m_feed_k2 hx h0 hl ha hb' hc hd he hf
  | 3, _, _, hf => exact m_feed_k3 hx h0 hl ha hb' hc hd he hf
  | 4, _, _, hf => exact m_feed_k4 hx h0 hl ha hb' hc hd he hf
  | 5, _, _, hf => exact m_feed_k5 hx h0 hl ha hb' hc hd he hf
  | q + 6, _, q5, _ => exact absurd q5 (by omega)
set_option maxHeartbeats 2840000 in
set_option maxRecDepth 20000 in
theorem m_run {S : BqH} {n : Nat} {I : BqI} {L : BqL} {P : BqP} {x : Nat} {g : BqG} {h : Nat → BqG} {ch en : Nat} (hX : CXS x S n I L P g h ch) (hK : GK g en) (hen : en + 60 < 200000) {l : Nat} (h0 : I (x + 108) 0 = nI l) (hl60 : l ≤ 60) : bq_Sp mX11_run 7 144 0 0 [.ref x] S n I L P (qRun x I L S n P (p_run g h ch (I x 10) (pR (I (x + 108 + 1)) l 21 0 0 (fun _ => (nI 0, nI 0, nI 0, nI 0))))) := by
  refine q_entry (vs := [some (.ref x), none, none, none]) (by decide +kernel) (by simp) (Nat.le_of_ble_eq_true rfl) rfl ?_
  have hx := hX.1
  have R := rcs_R h0 hl60
  have hn := pR_n (B := I (x + 108 + 1)) (l := l) 21 0 0 (fun _ => (nI 0, nI 0, nI 0, nI 0)) (Nat.le_refl _) (Nat.zero_le _)
  have hp : (pR (I (x + 108 + 1)) l 21 0 0 (fun _ => (nI 0, nI 0, nI 0, nI 0))).2.1 ≤ 60 ∨ True := Or.inr trivial
  generalize (pR (I (x + 108 + 1)) l 21 0 0 (fun _ => (nI 0, nI 0, nI 0, nI 0))) = r at R hn ⊢
  refine q_aload_n (pc := 0) dX11_run_0 rfl rfl ?_
  refine q_getP (pc := 1) dX11_run_1 fX11_34 (Cellar_sh hx) ⟨by decide, rfl⟩ (Cellar_lt hx) (Cellar_p_tape hx) ?_
  refine q_callVF (pc := 4) dX11_run_4 kX11_212 (c_X10_readCommands (Cellar_s_tape hx)) (Tape_sh (Cellar_s_tape hx)) rfl (Tape_lt (Cellar_s_tape hx)) ⟨Nat.le_of_ble_eq_true rfl, Nat.le_of_ble_eq_true rfl⟩ rfl rfl (Nat.le_of_ble_eq_true rfl) ?_
  show bq_W _ _ _ _ _ 7 _ [_] _ _ _ _ _ _
  obtain ⟨R1, R2, R3, R4⟩ := R
  rw [R1]
  generalize (rcs (x + 108) 20 0 (rcs_0 I (x + 108))).2 = J at R2 R3 R4 ⊢
  refine q_if_ne (pc := 7) 14 dX11_run_7 (by decide) (fun c_7 => ?_) (fun c_7 => ?_)
  · have hr : r.1 = true := Decidable.byContradiction (fun z => c_7 (by rw [if_neg z]; rfl))
    refine q_iconst (pc := 14) (v := nI 0) dX11_run_14 (by decide) ?_
    refine q_istore_n (pc := 15) dX11_run_15 rfl (Nat.le_of_ble_eq_true rfl) rfl ?_
    show bq_W _ _ _ _ _ 16 [_, _, _, _] _ _ _ _ _ _ _
    refine q_aload_n (pc := 16) dX11_run_16 rfl rfl ?_
    refine q_getP (pc := 17) dX11_run_17 fX11_34 (Cellar_sh hx) ⟨by decide, rfl⟩ (Cellar_lt hx) (Cellar_p_tape hx) ?_
    refine q_iconst (pc := 20) (v := nI 0) dX11_run_20 (by decide) ?_
    refine q_putI (pc := 21) dX11_run_21 (pX11_207 _) (Tape_sh (Cellar_s_tape hx)) ⟨by decide, rfl⟩ (Tape_lt (Cellar_s_tape hx)) ?_
    refine q_nameI (fun J1 e1 => ?_)
    have hT : TpE x I J1 := by
      rw [e1]
      exact ⟨bq_u_at _ _ _ _, (bq_u_ne (by omega)).trans (R4 _ (by omega) (by omega)), fun a ha => (bq_u_ne (by omega)).trans (R4 a (by omega) (by omega))⟩
    have j2 : J1 (x + 108) 2 = nI r.2.1 := by rw [e1, bq_u_no (by omega)]; exact R2
    have hX1 : CXS x S n J1 L P g h ch := hX.tp hT.2.2
    have hy1 : J1 x 10 = I x 10 := congrFun (hT.2.2 x (by omega)) 10
    obtain ⟨hx, hC, hc, hl, π, hP, hh⟩ := hX1
    have hC0 := put_1 (π := π) (ch := ch) hC
    have hM0 := mid_mk hx hP hC hc hl hh hC0 Frm.rf FrmL.rf
    have hn3 := hn hr
    have hcm : J1 (x + 108) 4 = nI r.2.2.1 := by rw [e1, bq_u_no (by omega)]; exact (R3 hr).1
    have hCm : ∀ j, j < r.2.2.1 → Cm J1 (x + 108 + 3 + j) (r.2.2.2 j) := fun j hj => ((R3 hr).2 j hj).fr (by rw [e1]; exact bq_u_ne (by omega))
    refine q_iload_n (pc := 24) dX11_run_24 rfl rfl ?_
    refine q_if_eq (pc := 25) 39 dX11_run_25 (by decide) (fun c_25 => ?_) (fun c_25 => absurd (by decide) c_25)
    refine q_aload_n (pc := 39) dX11_run_39 rfl rfl ?_
    refine q_callVF (pc := 40) dX11_run_40 kX11_89 (c_putBy hx hP hc (by omega)) (Cellar_sh hx) rfl (Cellar_lt hx) ⟨Nat.le_of_ble_eq_true rfl, Nat.le_of_ble_eq_true rfl⟩ rfl rfl (Nat.le_of_ble_eq_true rfl) ?_
    show bq_W _ _ _ _ _ 43 _ [] _ _ _ _ _ _
    refine q_iconst (pc := 43) (v := nI 0) dX11_run_43 (by decide) ?_
    refine q_istore_n (pc := 44) dX11_run_44 rfl (Nat.le_of_ble_eq_true rfl) rfl ?_
    show bq_W _ _ _ _ _ 45 [_, _, _, _] _ _ _ _ _ _ _
    have lp : ∀ i, i ≤ r.2.2.1 → ∀ (J2 : BqI) (K2 : BqL) (v3 : Option Value), Mid x S n J1 J2 L K2 P g (ds r.2.2.2 g i) h ch π (J1 x 10) → fz r.2.2.2 g i = none → bq_W mX11_run 7 144 0 0 45 [some (.ref x), some (.int (nI 0)), some (.int (nI i)), v3] [] S n J2 K2 P (qRun x I L S n P (p_run g h ch (I x 10) r)) := by
      refine bq_down (A := fun i => ∀ (J2 : BqI) (K2 : BqL) (v3 : Option Value), Mid x S n J1 J2 L K2 P g (ds r.2.2.2 g i) h ch π (J1 x 10) → fz r.2.2.2 g i = none → bq_W mX11_run 7 144 0 0 45 [some (.ref x), some (.int (nI 0)), some (.int (nI i)), v3] [] S n J2 K2 P (qRun x I L S n P (p_run g h ch (I x 10) r))) r.2.2.1 ?_ ?_
      · intro J2 K2 v3 hM hz
        have hc2 : J2 (x + 108) 4 = nI r.2.2.1 := by rw [hM.2.2.2.2.2.2.2.2.1.1 (x + 108) (by omega)]; exact hcm
        refine q_iload_n (pc := 45) dX11_run_45 rfl rfl ?_
        refine q_aload_n (pc := 46) dX11_run_46 rfl rfl ?_
        refine q_getP (pc := 47) dX11_run_47 fX11_34 (Cellar_sh hx) ⟨by decide, rfl⟩ (Cellar_lt hx) (Cellar_p_tape hx) ?_
        refine q_getI (pc := 50) dX11_run_50 fX11_219 (Tape_sh (Cellar_s_tape hx)) ⟨by decide, rfl⟩ (Tape_lt (Cellar_s_tape hx)) ?_
        rw [hc2]
        refine q_icmp_ge (pc := 53) 108 dX11_run_53 (by decide) (fun c_53 => ?_) (fun c_53 => absurd (nI_le (Nat.le_refl _) (by omega)) c_53)
        refine q_aload_n (pc := 108) dX11_run_108 rfl rfl ?_
        refine q_aload_n (pc := 109) dX11_run_109 rfl rfl ?_
        refine q_getP (pc := 110) dX11_run_110 fX11_34 (Cellar_sh hx) ⟨by decide, rfl⟩ (Cellar_lt hx) (Cellar_p_tape hx) ?_
        refine q_getI (pc := 113) dX11_run_113 fX11_219 (Tape_sh (Cellar_s_tape hx)) ⟨by decide, rfl⟩ (Tape_lt (Cellar_s_tape hx)) ?_
        rw [hc2]
        refine q_callV (pc := 116) dX11_run_116 kX11_95 (c_changed hM) (Cellar_sh hx) rfl (Cellar_lt hx) ⟨Nat.le_of_ble_eq_true rfl, Nat.le_of_ble_eq_true rfl⟩ rfl rfl (Nat.le_of_ble_eq_true rfl) ?_
        rintro _ S9 n9 I9 L9 P9 ⟨rfl, eS9, en9, Q1, Q2, Q3, Q4, Q5⟩
        subst S9 n9
        show bq_W _ _ _ _ _ 119 _ [_] _ _ _ _ _ _
        exact q_iret (st := []) (pc := 119) dX11_run_119 rfl (qRun.mk hT (congrArg (fun w => w.1) (p_run_o hr hz)).symm (by rw [p_run_o hr hz, ← hy1]; exact Q1) (by rw [p_run_o hr hz, ← hy1]; exact Q2) Q3 Q4 Q5)
      · intro i hi ih J2 K2 v3 hM hz
        have i20 : i < 20 := by omega
        have hc2 : J2 (x + 108) 4 = nI r.2.2.1 := by rw [hM.2.2.2.2.2.2.2.2.1.1 (x + 108) (by omega)]; exact hcm
        have hGi : GI (ds r.2.2.2 g i) (en + 3 * i) := (ds_gk hK i (by omega)).gi
        have hci : w_do (ds r.2.2.2 g i) (J2 (x + 108 + 3 + i) 0) (J2 (x + 108 + 3 + i) 1) (J2 (x + 108 + 3 + i) 2) (J2 (x + 108 + 3 + i) 3) = wk (ds r.2.2.2 g i) (r.2.2.2 i) := ((hCm i hi).fr (hM.2.2.2.2.2.2.2.2.1.1 _ (by omega))) _
        refine q_iload_n (pc := 45) dX11_run_45 rfl rfl ?_
        refine q_aload_n (pc := 46) dX11_run_46 rfl rfl ?_
        refine q_getP (pc := 47) dX11_run_47 fX11_34 (Cellar_sh hx) ⟨by decide, rfl⟩ (Cellar_lt hx) (Cellar_p_tape hx) ?_
        refine q_getI (pc := 50) dX11_run_50 fX11_219 (Tape_sh (Cellar_s_tape hx)) ⟨by decide, rfl⟩ (Tape_lt (Cellar_s_tape hx)) ?_
        rw [hc2]
        refine q_icmp_ge (pc := 53) 108 dX11_run_53 (by decide) (fun c_53 => absurd c_53 (nI_ge hi (by omega))) (fun c_53 => ?_)
        refine q_aload_n (pc := 56) dX11_run_56 rfl rfl ?_
        refine q_aload_n (pc := 57) dX11_run_57 rfl rfl ?_
        refine q_getP (pc := 58) dX11_run_58 fX11_34 (Cellar_sh hx) ⟨by decide, rfl⟩ (Cellar_lt hx) (Cellar_p_tape hx) ?_
        refine q_getP (pc := 61) dX11_run_61 fX11_222 (Tape_sh (Cellar_s_tape hx)) ⟨by decide, rfl⟩ (Tape_lt (Cellar_s_tape hx)) (Tape_p_commands (Cellar_s_tape hx)) ?_
        refine q_iload_n (pc := 64) dX11_run_64 rfl rfl ?_
        refine q_aald (pc := 65) dX11_run_65 (Tapecommands_sh (Cellar_s_tape hx)) (by decide) (Tapecommands_lt (Cellar_s_tape hx)) rfl i20 (Tapecommands_p_el (Cellar_s_tape hx) i20) ?_
        refine q_callV (pc := 66) dX11_run_66 kX11_226 (c_perform hx hM.2.2.1 hGi (by omega) (Tape_s_commands_el hx i20)) (Cellar_sh hx) rfl (Cellar_lt hx) ⟨Nat.le_of_ble_eq_true rfl, Nat.le_of_ble_eq_true rfl⟩ rfl rfl (Nat.le_of_ble_eq_true rfl) ?_
        rintro _ S1 n1 J3 K3 P1 ⟨rfl, eS1, en1, eP1, C1, F1, F2⟩
        subst S1 n1 P1
        rw [hci] at C1
        rw [hci]
        have hM3 := hM.st C1 F1 F2
        show bq_W _ _ _ _ _ 69 _ [_] _ _ _ _ _ _
        refine q_istore_n (pc := 69) dX11_run_69 rfl (Nat.le_of_ble_eq_true rfl) rfl ?_
        show bq_W _ _ _ _ _ 70 [_, _, _, _] _ _ _ _ _ _ _
        refine q_iload_n (pc := 70) dX11_run_70 rfl rfl ?_
        refine q_if_ge (pc := 71) 102 dX11_run_71 (by decide) (fun c_71 => ?_) (fun c_71 => ?_)
        · have hw : ¬ (wk (ds r.2.2.2 g i) (r.2.2.2 i)).1 < 0 := Int32.not_lt.mpr c_71
          refine q_iinc (pc := 102) (v := nI (i + 1)) dX11_run_102 rfl (bq_inc _) (Nat.le_of_ble_eq_true rfl) rfl ?_
          show bq_W _ _ _ _ _ 105 [_, _, _, _] _ _ _ _ _ _ _
          refine q_goto (pc := 105) 45 dX11_run_105 (by decide) ?_
          exact ih J3 K3 _ hM3 (fz_no hz hw)
        · have hw : (wk (ds r.2.2.2 g i) (r.2.2.2 i)).1 < 0 := Int32.not_le.mp c_71
          have hf := fz_hit hi hz hw
          refine q_aload_n (pc := 74) dX11_run_74 rfl rfl ?_
          refine q_getP (pc := 75) dX11_run_75 fX11_10 (Cellar_sh hx) ⟨by decide, rfl⟩ (Cellar_lt hx) (Cellar_p_state hx) ?_
          refine q_aload_n (pc := 78) dX11_run_78 rfl rfl ?_
          refine q_getP (pc := 79) dX11_run_79 fX11_16 (Cellar_sh hx) ⟨by decide, rfl⟩ (Cellar_lt hx) (Cellar_p_past hx) ?_
          refine q_aload_n (pc := 82) dX11_run_82 rfl rfl ?_
          refine q_getI (pc := 83) dX11_run_83 fX11_20 (Cellar_sh hx) ⟨by decide, rfl⟩ (Cellar_lt hx) ?_
          rw [hM3.2.2.2.1]
          refine q_aald (pc := 86) dX11_run_86 (Cellarpast_sh hx) (by decide) (Cellarpast_lt hx) rfl (show ch < 7 by omega) (hP.1 _ (by omega)).1 ?_
          refine q_callVF (pc := 87) dX11_run_87 kX11_230 (c_X8_copyFrom (Cellar_s_state hx) (hP.2.2 _ (hP.1 _ (show ch < 7 by omega)).2)) (State_sh (Cellar_s_state hx)) rfl (State_lt (Cellar_s_state hx)) ⟨Nat.le_of_ble_eq_true rfl, Nat.le_of_ble_eq_true rfl⟩ rfl rfl (Nat.le_of_ble_eq_true rfl) ?_
          show bq_W _ _ _ _ _ 90 _ [] _ _ _ _ _ _
          refine q_aload_n (pc := 90) dX11_run_90 rfl rfl ?_
          refine q_iload_n (pc := 91) dX11_run_91 rfl rfl ?_
          refine q_ineg (pc := 92) dX11_run_92 ?_
          refine q_putI (pc := 93) dX11_run_93 (pX11_62 _) (Cellar_sh hx) ⟨by decide, rfl⟩ (Cellar_lt hx) ?_
          refine q_sipush (pc := 96) (v := (-200)) dX11_run_96 (by decide) ?_
          refine q_iload_n (pc := 99) dX11_run_99 rfl rfl ?_
          have hB := hM3.bk (v := -(wk (ds r.2.2.2 g i) (r.2.2.2 i)).1)
          refine q_isub (pc := 100) dX11_run_100 ?_
          exact q_iret (st := []) (pc := 101) dX11_run_101 rfl (qRun.mk hT (congrArg (fun w => w.1) (p_run_f hr hf)).symm (by rw [p_run_f hr hf]; exact hB.1) (by rw [p_run_f hr hf]; exact bq_u_at _ _ _ _) hB.2.1 hB.2.2 (fun _ _ => rfl))
    exact lp 0 (Nat.zero_le _) _ _ _ hM0 rfl
  · have hr : ¬ r.1 = true := fun z => by rw [if_pos z] at c_7; exact absurd c_7 (by decide)
    refine q_iconst (pc := 10) (v := nI 1) dX11_run_10 (by decide) ?_
    refine q_goto (pc := 11) 15 dX11_run_11 (by decide) ?_
    refine q_istore_n (pc := 15) dX11_run_15 rfl (Nat.le_of_ble_eq_true rfl) rfl ?_
    show bq_W _ _ _ _ _ 16 [_, _, _, _] _ _ _ _ _ _ _
    refine q_aload_n (pc := 16) dX11_run_16 rfl rfl ?_
    refine q_getP (pc := 17) dX11_run_17 fX11_34 (Cellar_sh hx) ⟨by decide, rfl⟩ (Cellar_lt hx) (Cellar_p_tape hx) ?_
    refine q_iconst (pc := 20) (v := nI 0) dX11_run_20 (by decide) ?_
    refine q_putI (pc := 21) dX11_run_21 (pX11_207 _) (Tape_sh (Cellar_s_tape hx)) ⟨by decide, rfl⟩ (Tape_lt (Cellar_s_tape hx)) ?_
    refine q_nameI (fun J1 e1 => ?_)
    have hT : TpE x I J1 := by
      rw [e1]
      exact ⟨bq_u_at _ _ _ _, (bq_u_ne (by omega)).trans (R4 _ (by omega) (by omega)), fun a ha => (bq_u_ne (by omega)).trans (R4 a (by omega) (by omega))⟩
    have j2 : J1 (x + 108) 2 = nI r.2.1 := by rw [e1, bq_u_no (by omega)]; exact R2
    have hX1 : CXS x S n J1 L P g h ch := hX.tp hT.2.2
    have hy1 : J1 x 10 = I x 10 := congrFun (hT.2.2 x (by omega)) 10
    refine q_iload_n (pc := 24) dX11_run_24 rfl rfl ?_
    refine q_if_eq (pc := 25) 39 dX11_run_25 (by decide) (fun c_25 => absurd c_25 (by decide)) (fun c_25 => ?_)
    refine q_bipush (pc := 28) (v := (-100)) dX11_run_28 (by decide) ?_
    refine q_aload_n (pc := 30) dX11_run_30 rfl rfl ?_
    refine q_getP (pc := 31) dX11_run_31 fX11_34 (Cellar_sh hx) ⟨by decide, rfl⟩ (Cellar_lt hx) (Cellar_p_tape hx) ?_
    refine q_getI (pc := 34) dX11_run_34 fX11_216 (Tape_sh (Cellar_s_tape hx)) ⟨by decide, rfl⟩ (Tape_lt (Cellar_s_tape hx)) ?_
    refine q_isub (pc := 37) dX11_run_37 ?_
    exact q_iret (st := []) (pc := 38) dX11_run_38 rfl (qRun.mk hT (by rw [p_run_w hr, j2]) (by rw [p_run_w hr]; exact hX1) (by rw [p_run_w hr]; exact hy1) ⟨fun _ _ => rfl, rfl⟩ (fun _ _ => rfl) (fun _ _ => rfl))
/-! the model's reading of a text -/
def MT (m : Nat) (I0 I : BqI) (B : Nat → Int32) (l : Nat) (s : BqT) : Prop := I m 18 = nI s.1 ∧ I m 19 = (if s.2 = true then nI 1 else nI 0) ∧ I m 9 = nI l ∧ I (m + 5) = B ∧ s.1 ≤ l ∧ l ≤ 60 ∧ (∀ a, a ≠ m → a ≠ m + 13 → I a = I0 a) ∧ ∀ k, k ≠ 18 → k ≠ 19 → I m k = I0 m k
def qT (m : Nat) (I0 I : BqI) (S : BqH) (n : Nat) (L : BqL) (P : BqP) (B : Nat → Int32) (l : Nat) (v : Option Value) (s : BqT) : BqQ := fun r S' n' I' L' P' => r = v ∧ S' = S ∧ n' = n ∧ L' = L ∧ P' = P ∧ MT m I0 I' B l s ∧ I' (m + 13) = I (m + 13)
theorem MT.set {m l q : Nat} {I0 I : BqI} {B : Nat → Int32} {s : BqT} {v : Int32} {w : Bool} (T : MT m I0 I B l s) (hv : v = (if w = true then nI 1 else nI 0)) (hq : q ≤ l) : MT m I0 (bq_u (bq_u I m 19 v) m 18 (nI q)) B l (q, w) := by
  obtain ⟨h1, h2, h3, h4, h5, h6, h7, h8⟩ := T
  refine ⟨bq_u_at _ _ _ _, ?_, ?_, ?_, hq, h6, fun a q1 q2 => ?_, fun k q1 q2 => ?_⟩
  · rw [bq_u_no (by omega), bq_u_at]; exact hv
  · rw [bq_u_no (by omega), bq_u_no (by omega)]; exact h3
  · rw [bq_u_ne (by omega), bq_u_ne (by omega)]; exact h4
  · rw [bq_u_ne q1, bq_u_ne q1]; exact h7 a q1 q2
  · rw [bq_u_no (fun z => q1 z.2), bq_u_no (fun z => q2 z.2)]; exact h8 k q1 q2
theorem MT.w {m l : Nat} {I0 I : BqI} {B : Nat → Int32} {s : BqT} {v : Int32} {w : Bool} (T : MT m I0 I B l s) (hv : v = (if w = true then nI 1 else nI 0)) : MT m I0 (bq_u I m 19 v) B l (s.1, w) := by
  obtain ⟨h1, h2, h3, h4, h5, h6, h7, h8⟩ := T
  refine ⟨(bq_u_no (by omega)).trans h1, (bq_u_at _ _ _ _).trans hv, (bq_u_no (by omega)).trans h3, (bq_u_ne (by omega)).trans h4, h5, h6, fun a q1 q2 => ?_, fun k q1 q2 => ?_⟩
  · rw [bq_u_ne q1]; exact h7 a q1 q2
  · rw [bq_u_no (fun z => q2 z.2)]; exact h8 k q1 q2
theorem MT.p {m l q : Nat} {I0 I : BqI} {B : Nat → Int32} {s : BqT} (T : MT m I0 I B l s) (hq : q ≤ l) : MT m I0 (bq_u I m 18 (nI q)) B l (q, s.2) := by
  obtain ⟨h1, h2, h3, h4, h5, h6, h7, h8⟩ := T
  refine ⟨bq_u_at _ _ _ _, (bq_u_no (by omega)).trans h2, (bq_u_no (by omega)).trans h3, (bq_u_ne (by omega)).trans h4, hq, h6, fun a q1 q2 => ?_, fun k q1 q2 => ?_⟩
  · rw [bq_u_ne q1]; exact h7 a q1 q2
  · rw [bq_u_no (fun z => q1 z.2)]; exact h8 k q1 q2
theorem MT.t {m l k : Nat} {I0 I : BqI} {B : Nat → Int32} {s : BqT} {v : Int32} (T : MT m I0 I B l s) : MT m I0 (bq_u I (m + 13) k v) B l s := by
  obtain ⟨h1, h2, h3, h4, h5, h6, h7, h8⟩ := T
  refine ⟨?_, ?_, ?_, ?_, h5, h6, fun a q1 q2 => ?_, fun k q1 q2 => ?_⟩
  · rw [bq_u_ne (by omega)]; exact h1
  · rw [bq_u_ne (by omega)]; exact h2
  · rw [bq_u_ne (by omega)]; exact h3
  · rw [bq_u_ne (by omega)]; exact h4
  · rw [bq_u_ne q2]; exact h7 a q1 q2
  · rw [bq_u_ne (by omega)]; exact h8 k q1 q2
/-- most digits, as the model reads them -/
def pM (B : Nat → Int32) (l K : Nat) (s : BqT) : Int32 × BqT := if pg B l s then pL B l K (nI 0) s else (nI 0, (s.1, true))
theorem pL_s {B : Nat → Int32} {l k : Nat} {v : Int32} {s : BqT} (c : pg B l s) : pL B l (k + 1) v s = pL B l k (v * nI 10 + (hr B l s.1 - nI 48)) (s.1 + 1, false) := if_pos c
theorem pL_n {B : Nat → Int32} {l k : Nat} {v : Int32} {s : BqT} (c : ¬ pg B l s) : pL B l (k + 1) v s = (v, s) := if_neg c
theorem z_10 (h : Int32) : nI 0 * nI 10 + h = h := by
  rw [show nI 0 * nI 10 = 0 from rfl, Int32.zero_add]
theorem m_10 (v h : Int32) : nI 10 * v + h - nI 48 = v * nI 10 + (h - nI 48) := by
  rw [Int32.mul_comm, Int32.sub_eq_add_neg, Int32.sub_eq_add_neg, Int32.add_assoc]
theorem pM_1 {B : Nat → Int32} {l : Nat} {s : BqT} : pM B l 1 s = pD B l s := by
  unfold pM pD
  by_cases c : pg B l s
  · rw [if_pos c, if_pos c, pL_s c, z_10]; rfl
  · rw [if_neg c, if_neg c]
theorem pM_4 {B : Nat → Int32} {l : Nat} {s : BqT} : pM B l 4 s = pN B l s := by
  unfold pM pN pD
  by_cases c : pg B l s
  · rw [if_pos c, if_pos c, pL_s c, z_10]
  · rw [if_neg c, if_neg c, pL_n (fun z => Bool.noConfusion z.1)]
/-- a command as the model keeps it: letter, and three numbers in the order in which they are read -/
def wm (g : BqG) (a b c d : Int32) : Int32 × BqG := if a = nI 116 then w_pour g b c d else if a = nI 108 then w_spill g b c d else if a = nI 102 then w_fill g b c else if a = nI 99 then w_scrub g b else w_pass g b
def Cn (F : Nat → Int32) (t : Nat) (k : BqC) : Prop := ∀ g : BqG, wm g (F t) (F (t + 1)) (F (t + 2)) (F (t + 3)) = wk g k
theorem wm_116 {g : BqG} {b c d : Int32} : wm g (nI 116) b c d = w_pour g b c d := if_pos rfl
theorem wm_108 {g : BqG} {b c d : Int32} : wm g (nI 108) b c d = w_spill g b c d := (if_neg (by decide)).trans (if_pos rfl)
theorem wm_102 {g : BqG} {b c d : Int32} : wm g (nI 102) b c d = w_fill g b c := (if_neg (by decide)).trans ((if_neg (by decide)).trans (if_pos rfl))
theorem wm_99 {g : BqG} {b c d : Int32} : wm g (nI 99) b c d = w_scrub g b := (if_neg (by decide)).trans ((if_neg (by decide)).trans ((if_neg (by decide)).trans (if_pos rfl)))
theorem wm_100 {g : BqG} {b c d : Int32} : wm g (nI 100) b c d = w_pass g b := (if_neg (by decide)).trans ((if_neg (by decide)).trans ((if_neg (by decide)).trans (if_neg (by decide))))
def qTc (m : Nat) (I : BqI) (S : BqH) (n : Nat) (L : BqL) (P : BqP) (B : Nat → Int32) (l t p : Nat) : BqQ := fun r S' n' I' L' P' => r = none ∧ S' = S ∧ n' = n ∧ L' = L ∧ P' = P ∧ MT m I I' B l (pC B l p).1 ∧ ((pC B l p).1.2 = false → Cn (I' (m + 13)) t (pC B l p).2) ∧ ∀ j, j < t ∨ t + 4 ≤ j → I' (m + 13) j = I (m + 13) j
set_option maxHeartbeats 1000000 in
set_option maxRecDepth 20000 in
theorem c_X12_here {S : BqH} {n : Nat} {I : BqI} {L : BqL} {P : BqP} {m p : Nat} {B : Nat → Int32} {l : Nat} (hm : oModel S n P m) (hp : I m 18 = nI p) (hl : I m 9 = nI l) (hb : I (m + 5) = B) (hl60 : l ≤ 60) (hpl : p ≤ l) : bq_Sp mX12_here 1 12 0 0 [.ref m] S n I L P (bq_F (some (.int (hr B l p))) S n I L P) := by
  refine q_entry (vs := [some (.ref m)]) (by decide +kernel) (by simp) (Nat.le_of_ble_eq_true rfl) rfl ?_
  refine q_aload_n (pc := 0) dX12_here_0 rfl rfl ?_
  refine q_getI (pc := 1) dX12_here_1 fX12_178 (Model_sh hm) ⟨by decide, rfl⟩ (Model_lt hm) ?_
  rw [hp]
  refine q_aload_n (pc := 4) dX12_here_4 rfl rfl ?_
  refine q_getI (pc := 5) dX12_here_5 fX12_175 (Model_sh hm) ⟨by decide, rfl⟩ (Model_lt hm) ?_
  rw [hl]
  refine q_icmp_ge (pc := 8) 23 dX12_here_8 (by decide) (fun c_8 => ?_) (fun c_8 => ?_)
  · refine q_iconst (pc := 23) (v := (-1)) dX12_here_23 (by decide) ?_
    exact q_iret (st := []) (pc := 24) dX12_here_24 rfl ⟨by first | rw [hr_no (fun z => nI_ge z (by omega) c_8)] | rw [hr_in hlt, hb], rfl, rfl, rfl, rfl, rfl⟩
  · have hlt : p < l := Nat.lt_of_not_le (fun z => c_8 (nI_le z (by omega)))
    refine q_aload_n (pc := 11) dX12_here_11 rfl rfl ?_
    refine q_getP (pc := 12) dX12_here_12 fX12_22 (Model_sh hm) ⟨by decide, rfl⟩ (Model_lt hm) (Model_p_tape hm) ?_
    refine q_aload_n (pc := 15) dX12_here_15 rfl rfl ?_
    refine q_getI (pc := 16) dX12_here_16 fX12_178 (Model_sh hm) ⟨by decide, rfl⟩ (Model_lt hm) ?_
    rw [hp]
    refine q_iald (pc := 19) dX12_here_19 (oA_sh (Model_s_tape hm)) (oA_lt (Model_s_tape hm)) rfl (by omega) ?_
    refine q_goto (pc := 20) 24 dX12_here_20 (by decide) ?_
    exact q_iret (st := []) (pc := 24) dX12_here_24 rfl ⟨by first | rw [hr_no (fun z => nI_ge z (by omega) c_8)] | rw [hr_in hlt, hb], rfl, rfl, rfl, rfl, rfl⟩
set_option maxHeartbeats 1000000 in
set_option maxRecDepth 20000 in
theorem c_reads_f {S : BqH} {n : Nat} {I : BqI} {L : BqL} {P : BqP} {m p c : Nat} {I0 : BqI} {B : Nat → Int32} {l : Nat} (hm : oModel S n P m) (T : MT m I0 I B l (p, false)) (hc : c < 128) : bq_Sp mX12_reads 2 32 0 0 [.ref m, .int (nI c)] S n I L P (qT m I0 I S n L P B l (none) (pS B l (nI c) (p, false))) := by
  refine q_entry (vs := [some (.ref m), some (.int (nI c))]) (by decide +kernel) (by simp) (Nat.le_of_ble_eq_true rfl) rfl ?_
  have hw : I m 19 = nI 0 := T.2.1
  have hp : I m 18 = nI p := T.1
  have hpl : p ≤ l := T.2.2.2.2.1
  refine q_aload_n (pc := 0) dX12_reads_0 rfl rfl ?_
  refine q_dup (pc := 1) dX12_reads_1 rfl ?_
  refine q_getI (pc := 2) dX12_reads_2 fX12_181 (Model_sh hm) ⟨by decide, rfl⟩ (Model_lt hm) ?_
  rw [hw]
  refine q_aload_n (pc := 5) dX12_reads_5 rfl rfl ?_
  refine q_callVF (pc := 6) dX12_reads_6 kX12_184 (c_X12_here hm T.1 T.2.2.1 T.2.2.2.1 T.2.2.2.2.2.1 T.2.2.2.2.1) (Model_sh hm) rfl (Model_lt hm) ⟨Nat.le_of_ble_eq_true rfl, Nat.le_of_ble_eq_true rfl⟩ rfl rfl (Nat.le_of_ble_eq_true rfl) ?_
  show bq_W _ _ _ _ _ 9 _ [_, _, _] _ _ _ _ _ _
  refine q_iload_n (pc := 9) dX12_reads_9 rfl rfl ?_
  refine q_icmp_eq (pc := 10) 17 dX12_reads_10 (by decide) (fun c_10 => ?_) (fun c_10 => ?_)
  · have hlt := hr_lt hc c_10
    rw [show pS B l (nI c) (p, false) = (p + 1, false) from if_pos ⟨rfl, c_10⟩]
    refine q_iconst (pc := 17) (v := nI 0) dX12_reads_17 (by decide) ?_
    refine q_ior (pc := 18) dX12_reads_18 ?_
    refine q_putZ (pc := 19) dX12_reads_19 (pX12_181 _) (Model_sh hm) ⟨by decide, rfl⟩ (by decide) (Model_lt hm) ?_
    refine q_aload_n (pc := 22) dX12_reads_22 rfl rfl ?_
    refine q_dup (pc := 23) dX12_reads_23 rfl ?_
    refine q_getI (pc := 24) dX12_reads_24 fX12_178 (Model_sh hm) ⟨by decide, rfl⟩ (Model_lt hm) ?_
    rw [bq_u_no (by omega), hp]
    refine q_aload_n (pc := 27) dX12_reads_27 rfl rfl ?_
    refine q_getI (pc := 28) dX12_reads_28 fX12_181 (Model_sh hm) ⟨by decide, rfl⟩ (Model_lt hm) ?_
    rw [bq_u_at]
    refine q_if_eq (pc := 31) 38 dX12_reads_31 (by decide) (fun c_31 => ?_) (fun c_31 => absurd (by decide) c_31)
    refine q_iconst (pc := 38) (v := nI 1) dX12_reads_38 (by decide) ?_
    refine q_iaddN (pc := 39) dX12_reads_39 ?_
    refine q_putI (pc := 40) dX12_reads_40 (pX12_178 _) (Model_sh hm) ⟨by decide, rfl⟩ (Model_lt hm) ?_
    exact q_vret (st := []) (pc := 43) dX12_reads_43 rfl ⟨rfl, rfl, rfl, rfl, rfl, by first | exact T.set (w := false) (by decide) (by omega) | exact T.set (w := true) (by decide) hpl, by rw [bq_u_ne (by omega), bq_u_ne (by omega)]⟩
  · rw [show pS B l (nI c) (p, false) = (p, true) from if_neg (fun z => c_10 z.2)]
    refine q_iconst (pc := 13) (v := nI 1) dX12_reads_13 (by decide) ?_
    refine q_goto (pc := 14) 18 dX12_reads_14 (by decide) ?_
    refine q_ior (pc := 18) dX12_reads_18 ?_
    refine q_putZ (pc := 19) dX12_reads_19 (pX12_181 _) (Model_sh hm) ⟨by decide, rfl⟩ (by decide) (Model_lt hm) ?_
    refine q_aload_n (pc := 22) dX12_reads_22 rfl rfl ?_
    refine q_dup (pc := 23) dX12_reads_23 rfl ?_
    refine q_getI (pc := 24) dX12_reads_24 fX12_178 (Model_sh hm) ⟨by decide, rfl⟩ (Model_lt hm) ?_
    rw [bq_u_no (by omega), hp]
    refine q_aload_n (pc := 27) dX12_reads_27 rfl rfl ?_
    refine q_getI (pc := 28) dX12_reads_28 fX12_181 (Model_sh hm) ⟨by decide, rfl⟩ (Model_lt hm) ?_
    rw [bq_u_at]
    refine q_if_eq (pc := 31) 38 dX12_reads_31 (by decide) (fun c_31 => absurd c_31 (by decide)) (fun c_31 => ?_)
    refine q_iconst (pc := 34) (v := nI 0) dX12_reads_34 (by decide) ?_
    refine q_goto (pc := 35) 39 dX12_reads_35 (by decide) ?_
    refine q_iaddN (pc := 39) dX12_reads_39 ?_
    refine q_putI (pc := 40) dX12_reads_40 (pX12_178 _) (Model_sh hm) ⟨by decide, rfl⟩ (Model_lt hm) ?_
    exact q_vret (st := []) (pc := 43) dX12_reads_43 rfl ⟨rfl, rfl, rfl, rfl, rfl, by first | exact T.set (w := false) (by decide) (by omega) | exact T.set (w := true) (by decide) hpl, by rw [bq_u_ne (by omega), bq_u_ne (by omega)]⟩
set_option maxHeartbeats 1000000 in
set_option maxRecDepth 20000 in
theorem c_reads_t {S : BqH} {n : Nat} {I : BqI} {L : BqL} {P : BqP} {m p c : Nat} {I0 : BqI} {B : Nat → Int32} {l : Nat} (hm : oModel S n P m) (T : MT m I0 I B l (p, true)) (hc : c < 128) : bq_Sp mX12_reads 2 32 0 0 [.ref m, .int (nI c)] S n I L P (qT m I0 I S n L P B l (none) (pS B l (nI c) (p, true))) := by
  refine q_entry (vs := [some (.ref m), some (.int (nI c))]) (by decide +kernel) (by simp) (Nat.le_of_ble_eq_true rfl) rfl ?_
  have hw : I m 19 = nI 1 := T.2.1
  have hp : I m 18 = nI p := T.1
  have hpl : p ≤ l := T.2.2.2.2.1
  refine q_aload_n (pc := 0) dX12_reads_0 rfl rfl ?_
  refine q_dup (pc := 1) dX12_reads_1 rfl ?_
  refine q_getI (pc := 2) dX12_reads_2 fX12_181 (Model_sh hm) ⟨by decide, rfl⟩ (Model_lt hm) ?_
  rw [hw]
  refine q_aload_n (pc := 5) dX12_reads_5 rfl rfl ?_
  refine q_callVF (pc := 6) dX12_reads_6 kX12_184 (c_X12_here hm T.1 T.2.2.1 T.2.2.2.1 T.2.2.2.2.2.1 T.2.2.2.2.1) (Model_sh hm) rfl (Model_lt hm) ⟨Nat.le_of_ble_eq_true rfl, Nat.le_of_ble_eq_true rfl⟩ rfl rfl (Nat.le_of_ble_eq_true rfl) ?_
  show bq_W _ _ _ _ _ 9 _ [_, _, _] _ _ _ _ _ _
  refine q_iload_n (pc := 9) dX12_reads_9 rfl rfl ?_
  refine q_icmp_eq (pc := 10) 17 dX12_reads_10 (by decide) (fun c_10 => ?_) (fun c_10 => ?_)
  · rw [show pS B l (nI c) (p, true) = (p, true) from if_neg (fun z => Bool.noConfusion z.1)]
    refine q_iconst (pc := 17) (v := nI 0) dX12_reads_17 (by decide) ?_
    refine q_ior (pc := 18) dX12_reads_18 ?_
    refine q_putZ (pc := 19) dX12_reads_19 (pX12_181 _) (Model_sh hm) ⟨by decide, rfl⟩ (by decide) (Model_lt hm) ?_
    refine q_aload_n (pc := 22) dX12_reads_22 rfl rfl ?_
    refine q_dup (pc := 23) dX12_reads_23 rfl ?_
    refine q_getI (pc := 24) dX12_reads_24 fX12_178 (Model_sh hm) ⟨by decide, rfl⟩ (Model_lt hm) ?_
    rw [bq_u_no (by omega), hp]
    refine q_aload_n (pc := 27) dX12_reads_27 rfl rfl ?_
    refine q_getI (pc := 28) dX12_reads_28 fX12_181 (Model_sh hm) ⟨by decide, rfl⟩ (Model_lt hm) ?_
    rw [bq_u_at]
    refine q_if_eq (pc := 31) 38 dX12_reads_31 (by decide) (fun c_31 => absurd c_31 (by decide)) (fun c_31 => ?_)
    refine q_iconst (pc := 34) (v := nI 0) dX12_reads_34 (by decide) ?_
    refine q_goto (pc := 35) 39 dX12_reads_35 (by decide) ?_
    refine q_iaddN (pc := 39) dX12_reads_39 ?_
    refine q_putI (pc := 40) dX12_reads_40 (pX12_178 _) (Model_sh hm) ⟨by decide, rfl⟩ (Model_lt hm) ?_
    exact q_vret (st := []) (pc := 43) dX12_reads_43 rfl ⟨rfl, rfl, rfl, rfl, rfl, by first | exact T.set (w := false) (by decide) (by omega) | exact T.set (w := true) (by decide) hpl, by rw [bq_u_ne (by omega), bq_u_ne (by omega)]⟩
  · rw [show pS B l (nI c) (p, true) = (p, true) from if_neg (fun z => Bool.noConfusion z.1)]
    refine q_iconst (pc := 13) (v := nI 1) dX12_reads_13 (by decide) ?_
    refine q_goto (pc := 14) 18 dX12_reads_14 (by decide) ?_
    refine q_ior (pc := 18) dX12_reads_18 ?_
    refine q_putZ (pc := 19) dX12_reads_19 (pX12_181 _) (Model_sh hm) ⟨by decide, rfl⟩ (by decide) (Model_lt hm) ?_
    refine q_aload_n (pc := 22) dX12_reads_22 rfl rfl ?_
    refine q_dup (pc := 23) dX12_reads_23 rfl ?_
    refine q_getI (pc := 24) dX12_reads_24 fX12_178 (Model_sh hm) ⟨by decide, rfl⟩ (Model_lt hm) ?_
    rw [bq_u_no (by omega), hp]
    refine q_aload_n (pc := 27) dX12_reads_27 rfl rfl ?_
    refine q_getI (pc := 28) dX12_reads_28 fX12_181 (Model_sh hm) ⟨by decide, rfl⟩ (Model_lt hm) ?_
    rw [bq_u_at]
    refine q_if_eq (pc := 31) 38 dX12_reads_31 (by decide) (fun c_31 => absurd c_31 (by decide)) (fun c_31 => ?_)
    refine q_iconst (pc := 34) (v := nI 0) dX12_reads_34 (by decide) ?_
    refine q_goto (pc := 35) 39 dX12_reads_35 (by decide) ?_
    refine q_iaddN (pc := 39) dX12_reads_39 ?_
    refine q_putI (pc := 40) dX12_reads_40 (pX12_178 _) (Model_sh hm) ⟨by decide, rfl⟩ (Model_lt hm) ?_
    exact q_vret (st := []) (pc := 43) dX12_reads_43 rfl ⟨rfl, rfl, rfl, rfl, rfl, by first | exact T.set (w := false) (by decide) (by omega) | exact T.set (w := true) (by decide) hpl, by rw [bq_u_ne (by omega), bq_u_ne (by omega)]⟩
theorem c_reads {S : BqH} {n : Nat} {I : BqI} {L : BqL} {P : BqP} {m c : Nat} {I0 : BqI} {B : Nat → Int32} {l : Nat} {s : BqT} (hm : oModel S n P m) (T : MT m I0 I B l s) (hc : c < 128) : bq_Sp mX12_reads 2 32 0 0 [.ref m, .int (nI c)] S n I L P (qT m I0 I S n L P B l (none) (pS B l (nI c) s)) := by
  match s, T with
  | (p, false), T => exact c_reads_f hm T hc
  | (p, true), T => exact c_reads_t hm T hc
set_option maxHeartbeats 1040000 in
set_option maxRecDepth 20000 in
theorem c_rdig_t {S : BqH} {n : Nat} {I : BqI} {L : BqL} {P : BqP} {m p K : Nat} {I0 : BqI} {B : Nat → Int32} {l : Nat} (hm : oModel S n P m) (T : MT m I0 I B l (p, true)) (hK : K ≤ 4) : bq_Sp mX12_readsDigits 2 34 0 0 [.ref m, .int (nI K)] S n I L P (qT m I0 I S n L P B l (some (.int (pM B l K (p, true)).1)) ((pM B l K (p, true)).2)) := by
  refine q_entry (vs := [some (.ref m), some (.int (nI K)), none, none]) (by decide +kernel) (by simp) (Nat.le_of_ble_eq_true rfl) rfl ?_
  have hw : I m 19 = nI 1 := T.2.1
  have hpl : p ≤ l := T.2.2.2.2.1
  refine q_aload_n (pc := 0) dX12_readsDigits_0 rfl rfl ?_
  refine q_dup (pc := 1) dX12_readsDigits_1 rfl ?_
  refine q_getI (pc := 2) dX12_readsDigits_2 fX12_181 (Model_sh hm) ⟨by decide, rfl⟩ (Model_lt hm) ?_
  rw [hw]
  refine q_aload_n (pc := 5) dX12_readsDigits_5 rfl rfl ?_
  refine q_callVF (pc := 6) dX12_readsDigits_6 kX12_184 (c_X12_here hm T.1 T.2.2.1 T.2.2.2.1 T.2.2.2.2.2.1 T.2.2.2.2.1) (Model_sh hm) rfl (Model_lt hm) ⟨Nat.le_of_ble_eq_true rfl, Nat.le_of_ble_eq_true rfl⟩ rfl rfl (Nat.le_of_ble_eq_true rfl) ?_
  show bq_W _ _ _ _ _ 9 _ [_, _, _] _ _ _ _ _ _
  refine q_bipush (pc := 9) (v := nI 48) dX12_readsDigits_9 (by decide) ?_
  refine q_bipush (pc := 11) (v := nI 57) dX12_readsDigits_11 (by decide) ?_
  refine q_callSF (pc := 13) dX12_readsDigits_13 kX12_69 c_X12_in ⟨Nat.le_of_ble_eq_true rfl, Nat.le_of_ble_eq_true rfl⟩ rfl rfl (Nat.le_of_ble_eq_true rfl) ?_
  show bq_W _ _ _ _ _ 16 _ [_, _, _] _ _ _ _ _ _
  refine q_if_ne (pc := 16) 23 dX12_readsDigits_16 (by decide) (fun c_16 => ?_) (fun c_16 => ?_)
  · replace c_16 := bq_nbn.mp c_16
    have hd : dgt (hr B l p) := c_16
    refine q_iconst (pc := 23) (v := nI 0) dX12_readsDigits_23 (by decide) ?_
    refine q_ior (pc := 24) dX12_readsDigits_24 ?_
    refine q_putZ (pc := 25) dX12_readsDigits_25 (pX12_181 _) (Model_sh hm) ⟨by decide, rfl⟩ (by decide) (Model_lt hm) ?_
    refine q_iconst (pc := 28) (v := nI 0) dX12_readsDigits_28 (by decide) ?_
    refine q_istore_n (pc := 29) dX12_readsDigits_29 rfl (Nat.le_of_ble_eq_true rfl) rfl ?_
    show bq_W _ _ _ _ _ 30 [_, _, _, _] _ _ _ _ _ _ _
    refine q_iconst (pc := 30) (v := nI 0) dX12_readsDigits_30 (by decide) ?_
    refine q_istore_n (pc := 31) dX12_readsDigits_31 rfl (Nat.le_of_ble_eq_true rfl) rfl ?_
    show bq_W _ _ _ _ _ 32 [_, _, _, _] _ _ _ _ _ _ _
    rw [show pM B l K (p, true) = (nI 0, (p, true)) from if_neg (fun z => Bool.noConfusion z.1)]
        refine q_aload_n (pc := 32) dX12_readsDigits_32 rfl rfl ?_
        refine q_getI (pc := 33) dX12_readsDigits_33 fX12_181 (Model_sh hm) ⟨by decide, rfl⟩ (Model_lt hm) ?_
        rw [bq_u_at]
        refine q_if_ne (pc := 36) 87 dX12_readsDigits_36 (by decide) (fun c_36 => ?_) (fun c_36 => absurd (by decide) c_36)
        refine q_iload_n (pc := 87) dX12_readsDigits_87 rfl rfl ?_
        exact q_iret (st := []) (pc := 88) dX12_readsDigits_88 rfl ⟨rfl, rfl, rfl, rfl, rfl, T.w (s := (p, _)) (w := true) (by decide), by rw [bq_u_ne (by omega)]⟩
  · replace c_16 := bq_nb0.mp c_16
    have hd : ¬ dgt (hr B l p) := not_not_intro c_16
    refine q_iconst (pc := 19) (v := nI 1) dX12_readsDigits_19 (by decide) ?_
    refine q_goto (pc := 20) 24 dX12_readsDigits_20 (by decide) ?_
    refine q_ior (pc := 24) dX12_readsDigits_24 ?_
    refine q_putZ (pc := 25) dX12_readsDigits_25 (pX12_181 _) (Model_sh hm) ⟨by decide, rfl⟩ (by decide) (Model_lt hm) ?_
    refine q_iconst (pc := 28) (v := nI 0) dX12_readsDigits_28 (by decide) ?_
    refine q_istore_n (pc := 29) dX12_readsDigits_29 rfl (Nat.le_of_ble_eq_true rfl) rfl ?_
    show bq_W _ _ _ _ _ 30 [_, _, _, _] _ _ _ _ _ _ _
    refine q_iconst (pc := 30) (v := nI 0) dX12_readsDigits_30 (by decide) ?_
    refine q_istore_n (pc := 31) dX12_readsDigits_31 rfl (Nat.le_of_ble_eq_true rfl) rfl ?_
    show bq_W _ _ _ _ _ 32 [_, _, _, _] _ _ _ _ _ _ _
    rw [show pM B l K (p, true) = (nI 0, (p, true)) from if_neg (fun z => Bool.noConfusion z.1)]
        refine q_aload_n (pc := 32) dX12_readsDigits_32 rfl rfl ?_
        refine q_getI (pc := 33) dX12_readsDigits_33 fX12_181 (Model_sh hm) ⟨by decide, rfl⟩ (Model_lt hm) ?_
        rw [bq_u_at]
        refine q_if_ne (pc := 36) 87 dX12_readsDigits_36 (by decide) (fun c_36 => ?_) (fun c_36 => absurd (by decide) c_36)
        refine q_iload_n (pc := 87) dX12_readsDigits_87 rfl rfl ?_
        exact q_iret (st := []) (pc := 88) dX12_readsDigits_88 rfl ⟨rfl, rfl, rfl, rfl, rfl, T.w (s := (p, _)) (w := true) (by decide), by rw [bq_u_ne (by omega)]⟩
set_option maxHeartbeats 2300000 in
set_option maxRecDepth 20000 in
theorem c_rdig_f {S : BqH} {n : Nat} {I : BqI} {L : BqL} {P : BqP} {m p K : Nat} {I0 : BqI} {B : Nat → Int32} {l : Nat} (hm : oModel S n P m) (T : MT m I0 I B l (p, false)) (hK : K ≤ 4) : bq_Sp mX12_readsDigits 2 34 0 0 [.ref m, .int (nI K)] S n I L P (qT m I0 I S n L P B l (some (.int (pM B l K (p, false)).1)) ((pM B l K (p, false)).2)) := by
  refine q_entry (vs := [some (.ref m), some (.int (nI K)), none, none]) (by decide +kernel) (by simp) (Nat.le_of_ble_eq_true rfl) rfl ?_
  have hw : I m 19 = nI 0 := T.2.1
  have hpl : p ≤ l := T.2.2.2.2.1
  refine q_aload_n (pc := 0) dX12_readsDigits_0 rfl rfl ?_
  refine q_dup (pc := 1) dX12_readsDigits_1 rfl ?_
  refine q_getI (pc := 2) dX12_readsDigits_2 fX12_181 (Model_sh hm) ⟨by decide, rfl⟩ (Model_lt hm) ?_
  rw [hw]
  refine q_aload_n (pc := 5) dX12_readsDigits_5 rfl rfl ?_
  refine q_callVF (pc := 6) dX12_readsDigits_6 kX12_184 (c_X12_here hm T.1 T.2.2.1 T.2.2.2.1 T.2.2.2.2.2.1 T.2.2.2.2.1) (Model_sh hm) rfl (Model_lt hm) ⟨Nat.le_of_ble_eq_true rfl, Nat.le_of_ble_eq_true rfl⟩ rfl rfl (Nat.le_of_ble_eq_true rfl) ?_
  show bq_W _ _ _ _ _ 9 _ [_, _, _] _ _ _ _ _ _
  refine q_bipush (pc := 9) (v := nI 48) dX12_readsDigits_9 (by decide) ?_
  refine q_bipush (pc := 11) (v := nI 57) dX12_readsDigits_11 (by decide) ?_
  refine q_callSF (pc := 13) dX12_readsDigits_13 kX12_69 c_X12_in ⟨Nat.le_of_ble_eq_true rfl, Nat.le_of_ble_eq_true rfl⟩ rfl rfl (Nat.le_of_ble_eq_true rfl) ?_
  show bq_W _ _ _ _ _ 16 _ [_, _, _] _ _ _ _ _ _
  refine q_if_ne (pc := 16) 23 dX12_readsDigits_16 (by decide) (fun c_16 => ?_) (fun c_16 => ?_)
  · replace c_16 := bq_nbn.mp c_16
    have hd : dgt (hr B l p) := c_16
    refine q_iconst (pc := 23) (v := nI 0) dX12_readsDigits_23 (by decide) ?_
    refine q_ior (pc := 24) dX12_readsDigits_24 ?_
    refine q_putZ (pc := 25) dX12_readsDigits_25 (pX12_181 _) (Model_sh hm) ⟨by decide, rfl⟩ (by decide) (Model_lt hm) ?_
    refine q_iconst (pc := 28) (v := nI 0) dX12_readsDigits_28 (by decide) ?_
    refine q_istore_n (pc := 29) dX12_readsDigits_29 rfl (Nat.le_of_ble_eq_true rfl) rfl ?_
    show bq_W _ _ _ _ _ 30 [_, _, _, _] _ _ _ _ _ _ _
    refine q_iconst (pc := 30) (v := nI 0) dX12_readsDigits_30 (by decide) ?_
    refine q_istore_n (pc := 31) dX12_readsDigits_31 rfl (Nat.le_of_ble_eq_true rfl) rfl ?_
    show bq_W _ _ _ _ _ 32 [_, _, _, _] _ _ _ _ _ _ _
    rw [show pM B l K (p, false) = pL B l K (nI 0) (p, false) from if_pos ⟨rfl, hd⟩]
    have lp : ∀ k, k ≤ K → ∀ (J : BqI) (v : Int32) (q : Nat), MT m I0 J B l (q, false) → J (m + 13) = I (m + 13) → pL B l k v (q, false) = pL B l K (nI 0) (p, false) → bq_W mX12_readsDigits 2 34 0 0 32 [some (.ref m), some (.int (nI K)), some (.int v), some (.int (nI (K - k)))] [] S n J L P (qT m I0 I S n L P B l (some (.int (pL B l K (nI 0) (p, false)).1)) ((pL B l K (nI 0) (p, false)).2)) := by
      intro k
      induction k with
      | zero =>
        intro hk J v q hT hF hv
        have hw2 : J m 19 = nI 0 := hT.2.1
        refine q_aload_n (pc := 32) dX12_readsDigits_32 rfl rfl ?_
        refine q_getI (pc := 33) dX12_readsDigits_33 fX12_181 (Model_sh hm) ⟨by decide, rfl⟩ (Model_lt hm) ?_
        rw [hw2]
        refine q_if_ne (pc := 36) 87 dX12_readsDigits_36 (by decide) (fun c_36 => absurd c_36 (by decide)) (fun c_36 => ?_)
        refine q_iload_n (pc := 39) dX12_readsDigits_39 rfl rfl ?_
        refine q_iload_n (pc := 40) dX12_readsDigits_40 rfl rfl ?_
        refine q_icmp_ge (pc := 41) 87 dX12_readsDigits_41 (by decide) (fun c_41 => ?_) (fun c_41 => absurd (nI_le (show K ≤ K - 0 by omega) (by omega)) c_41)
        refine q_iload_n (pc := 87) dX12_readsDigits_87 rfl rfl ?_
        exact q_iret (st := []) (pc := 88) dX12_readsDigits_88 rfl ⟨by rw [← hv]; rfl, rfl, rfl, rfl, rfl, by rw [← hv]; exact hT, hF⟩
      | succ k ihk =>
        intro hk J v q hT hF hv
        have hw2 : J m 19 = nI 0 := hT.2.1
        have hp2 : J m 18 = nI q := hT.1
        refine q_aload_n (pc := 32) dX12_readsDigits_32 rfl rfl ?_
        refine q_getI (pc := 33) dX12_readsDigits_33 fX12_181 (Model_sh hm) ⟨by decide, rfl⟩ (Model_lt hm) ?_
        rw [hw2]
        refine q_if_ne (pc := 36) 87 dX12_readsDigits_36 (by decide) (fun c_36 => absurd c_36 (by decide)) (fun c_36 => ?_)
        refine q_iload_n (pc := 39) dX12_readsDigits_39 rfl rfl ?_
        refine q_iload_n (pc := 40) dX12_readsDigits_40 rfl rfl ?_
        refine q_icmp_ge (pc := 41) 87 dX12_readsDigits_41 (by decide) (fun c_41 => absurd c_41 (nI_ge (show K - (k + 1) < K by omega) (by omega))) (fun c_41 => ?_)
        refine q_aload_n (pc := 44) dX12_readsDigits_44 rfl rfl ?_
        refine q_callVF (pc := 45) dX12_readsDigits_45 kX12_184 (c_X12_here hm hT.1 hT.2.2.1 hT.2.2.2.1 hT.2.2.2.2.2.1 hT.2.2.2.2.1) (Model_sh hm) rfl (Model_lt hm) ⟨Nat.le_of_ble_eq_true rfl, Nat.le_of_ble_eq_true rfl⟩ rfl rfl (Nat.le_of_ble_eq_true rfl) ?_
        show bq_W _ _ _ _ _ 48 _ [_] _ _ _ _ _ _
        refine q_bipush (pc := 48) (v := nI 48) dX12_readsDigits_48 (by decide) ?_
        refine q_bipush (pc := 50) (v := nI 57) dX12_readsDigits_50 (by decide) ?_
        refine q_callSF (pc := 52) dX12_readsDigits_52 kX12_69 c_X12_in ⟨Nat.le_of_ble_eq_true rfl, Nat.le_of_ble_eq_true rfl⟩ rfl rfl (Nat.le_of_ble_eq_true rfl) ?_
        show bq_W _ _ _ _ _ 55 _ [_] _ _ _ _ _ _
        refine q_if_eq (pc := 55) 87 dX12_readsDigits_55 (by decide) (fun c_55 => ?_) (fun c_55 => ?_)
        · replace c_55 := bq_nb0.mp c_55
          have hn : ¬ pg B l (q, false) := fun z => z.2 c_55
          rw [pL_n hn] at hv
          refine q_iload_n (pc := 87) dX12_readsDigits_87 rfl rfl ?_
          exact q_iret (st := []) (pc := 88) dX12_readsDigits_88 rfl ⟨by rw [← hv], rfl, rfl, rfl, rfl, by rw [← hv]; exact hT, hF⟩
        · replace c_55 := bq_nbn.mp c_55
          have hy : pg B l (q, false) := ⟨rfl, c_55⟩
          have hlt : q < l := dgt_lt c_55
          rw [pL_s hy, ← m_10] at hv
          refine q_bipush (pc := 58) (v := nI 10) dX12_readsDigits_58 (by decide) ?_
          refine q_iload_n (pc := 60) dX12_readsDigits_60 rfl rfl ?_
          refine q_imul (pc := 61) dX12_readsDigits_61 ?_
          refine q_aload_n (pc := 62) dX12_readsDigits_62 rfl rfl ?_
          refine q_callVF (pc := 63) dX12_readsDigits_63 kX12_184 (c_X12_here hm hT.1 hT.2.2.1 hT.2.2.2.1 hT.2.2.2.2.2.1 hT.2.2.2.2.1) (Model_sh hm) rfl (Model_lt hm) ⟨Nat.le_of_ble_eq_true rfl, Nat.le_of_ble_eq_true rfl⟩ rfl rfl (Nat.le_of_ble_eq_true rfl) ?_
          show bq_W _ _ _ _ _ 66 _ [_, _] _ _ _ _ _ _
          refine q_iadd (pc := 66) dX12_readsDigits_66 ?_
          refine q_bipush (pc := 67) (v := nI 48) dX12_readsDigits_67 (by decide) ?_
          refine q_isub (pc := 69) dX12_readsDigits_69 ?_
          refine q_istore_n (pc := 70) dX12_readsDigits_70 rfl (Nat.le_of_ble_eq_true rfl) rfl ?_
          show bq_W _ _ _ _ _ 71 [_, _, _, _] _ _ _ _ _ _ _
          refine q_aload_n (pc := 71) dX12_readsDigits_71 rfl rfl ?_
          refine q_dup (pc := 72) dX12_readsDigits_72 rfl ?_
          refine q_getI (pc := 73) dX12_readsDigits_73 fX12_178 (Model_sh hm) ⟨by decide, rfl⟩ (Model_lt hm) ?_
          rw [hp2]
          refine q_iconst (pc := 76) (v := nI 1) dX12_readsDigits_76 (by decide) ?_
          refine q_iaddN (pc := 77) dX12_readsDigits_77 ?_
          refine q_putI (pc := 78) dX12_readsDigits_78 (pX12_178 _) (Model_sh hm) ⟨by decide, rfl⟩ (Model_lt hm) ?_
          refine q_iinc (pc := 81) (v := nI ((K - (k + 1)) + 1)) dX12_readsDigits_81 rfl (bq_inc _) (Nat.le_of_ble_eq_true rfl) rfl ?_
          show bq_W _ _ _ _ _ 84 [_, _, _, _] _ _ _ _ _ _ _
          refine q_goto (pc := 84) 32 dX12_readsDigits_84 (by decide) ?_
          rw [show K - (k + 1) + 1 = K - k by omega]
          exact ihk (by omega) _ _ (q + 1) (hT.p (q := q + 1) hlt) ((bq_u_ne (by omega)).trans hF) hv
    have lp2 := lp K (Nat.le_refl _)
    rw [Nat.sub_self] at lp2
    exact lp2 _ _ p (T.w (s := (p, false)) (w := false) (by decide)) (bq_u_ne (by omega)) rfl
  · replace c_16 := bq_nb0.mp c_16
    have hd : ¬ dgt (hr B l p) := not_not_intro c_16
    refine q_iconst (pc := 19) (v := nI 1) dX12_readsDigits_19 (by decide) ?_
    refine q_goto (pc := 20) 24 dX12_readsDigits_20 (by decide) ?_
    refine q_ior (pc := 24) dX12_readsDigits_24 ?_
    refine q_putZ (pc := 25) dX12_readsDigits_25 (pX12_181 _) (Model_sh hm) ⟨by decide, rfl⟩ (by decide) (Model_lt hm) ?_
    refine q_iconst (pc := 28) (v := nI 0) dX12_readsDigits_28 (by decide) ?_
    refine q_istore_n (pc := 29) dX12_readsDigits_29 rfl (Nat.le_of_ble_eq_true rfl) rfl ?_
    show bq_W _ _ _ _ _ 30 [_, _, _, _] _ _ _ _ _ _ _
    refine q_iconst (pc := 30) (v := nI 0) dX12_readsDigits_30 (by decide) ?_
    refine q_istore_n (pc := 31) dX12_readsDigits_31 rfl (Nat.le_of_ble_eq_true rfl) rfl ?_
    show bq_W _ _ _ _ _ 32 [_, _, _, _] _ _ _ _ _ _ _
    rw [show pM B l K (p, false) = (nI 0, (p, true)) from if_neg (fun z => hd z.2)]
        refine q_aload_n (pc := 32) dX12_readsDigits_32 rfl rfl ?_
        refine q_getI (pc := 33) dX12_readsDigits_33 fX12_181 (Model_sh hm) ⟨by decide, rfl⟩ (Model_lt hm) ?_
        rw [bq_u_at]
        refine q_if_ne (pc := 36) 87 dX12_readsDigits_36 (by decide) (fun c_36 => ?_) (fun c_36 => absurd (by decide) c_36)
        refine q_iload_n (pc := 87) dX12_readsDigits_87 rfl rfl ?_
        exact q_iret (st := []) (pc := 88) dX12_readsDigits_88 rfl ⟨rfl, rfl, rfl, rfl, rfl, T.w (s := (p, _)) (w := true) (by decide), by rw [bq_u_ne (by omega)]⟩
theorem c_rdig {S : BqH} {n : Nat} {I : BqI} {L : BqL} {P : BqP} {m K : Nat} {I0 : BqI} {B : Nat → Int32} {l : Nat} {s : BqT} (hm : oModel S n P m) (T : MT m I0 I B l s) (hK : K ≤ 4) : bq_Sp mX12_readsDigits 2 34 0 0 [.ref m, .int (nI K)] S n I L P (qT m I0 I S n L P B l (some (.int (pM B l K s).1)) ((pM B l K s).2)) := by
  match s, T with
  | (p, false), T => exact c_rdig_f hm T hK
  | (p, true), T => exact c_rdig_t hm T hK
/-! the model's command read, done; the run -/
theorem MT.mk0 {m l p : Nat} {I : BqI} {B : Nat → Int32} {v : Int32} {w : Bool} (hp : I m 18 = nI p) (hl : I m 9 = nI l) (hb : I (m + 5) = B) (hl60 : l ≤ 60) (hpl : p ≤ l) (hv : v = (if w = true then nI 1 else nI 0)) : MT m I (bq_u I m 19 v) B l (p, w) :=
  ⟨(bq_u_no (by omega)).trans hp, (bq_u_at _ _ _ _).trans hv, (bq_u_no (by omega)).trans hl, (bq_u_ne (by omega)).trans hb, hpl, hl60, fun a q1 _ => bq_u_ne q1, fun k _ q2 => bq_u_no (fun z => q2 z.2)⟩
theorem MT.te {m l k : Nat} {I0 I J : BqI} {B : Nat → Int32} {s : BqT} {v : Int32} (T : MT m I0 I B l s) (e : J = bq_u I (m + 13) k v) : MT m I0 J B l s := by
  subst e
  exact T.t
theorem Ft {m k : Nat} {I J : BqI} {F : Nat → Int32} {v : Int32} (G : I (m + 13) = F) (e : J = bq_u I (m + 13) k v) : J (m + 13) = bq_r F k v := by
  rw [e, bq_u_r, bq_r_self, G]
section
variable {R : Nat → Int32} {t : Nat} {a b c d : Int32}
theorem td_2 : bq_r (bq_r R t a) (t + 1) b t = a ∧ bq_r (bq_r R t a) (t + 1) b (t + 1) = b := by
  refine ⟨?_, bq_r_self⟩
  rw [bq_r_ne (by omega), bq_r_self]
theorem td_3 : bq_r (bq_r (bq_r R t a) (t + 1) b) (t + 2) c t = a ∧ bq_r (bq_r (bq_r R t a) (t + 1) b) (t + 2) c (t + 1) = b ∧ bq_r (bq_r (bq_r R t a) (t + 1) b) (t + 2) c (t + 2) = c := by
  refine ⟨?_, ?_, bq_r_self⟩
  · rw [bq_r_ne (by omega), bq_r_ne (by omega), bq_r_self]
  · rw [bq_r_ne (by omega), bq_r_self]
theorem td_4 : bq_r (bq_r (bq_r (bq_r R t a) (t + 1) b) (t + 2) c) (t + 3) d t = a ∧ bq_r (bq_r (bq_r (bq_r R t a) (t + 1) b) (t + 2) c) (t + 3) d (t + 1) = b ∧ bq_r (bq_r (bq_r (bq_r R t a) (t + 1) b) (t + 2) c) (t + 3) d (t + 2) = c ∧ bq_r (bq_r (bq_r (bq_r R t a) (t + 1) b) (t + 2) c) (t + 3) d (t + 3) = d := by
  refine ⟨?_, ?_, ?_, bq_r_self⟩
  · rw [bq_r_ne (by omega), bq_r_ne (by omega), bq_r_ne (by omega), bq_r_self]
  · rw [bq_r_ne (by omega), bq_r_ne (by omega), bq_r_self]
  · rw [bq_r_ne (by omega), bq_r_self]
end
theorem Cn_99 {F R : Nat → Int32} {t : Nat} {a x y : Int32} (e : F = bq_r (bq_r R t (nI 99)) (t + 1) a) : Cn F t (nI 99, a, x, y) := fun g => by
  subst e
  rw [td_2.1, td_2.2, wm_99]
  exact wd_99.symm
theorem Cn_100 {F R : Nat → Int32} {t : Nat} {a x y : Int32} (e : F = bq_r (bq_r R t (nI 100)) (t + 1) a) : Cn F t (nI 100, x, y, a) := fun g => by
  subst e
  rw [td_2.1, td_2.2, wm_100]
  exact wd_100.symm
theorem Cn_102 {F R : Nat → Int32} {t : Nat} {a b x : Int32} (e : F = bq_r (bq_r (bq_r R t (nI 102)) (t + 1) a) (t + 2) b) : Cn F t (nI 102, a, x, b) := fun g => by
  subst e
  rw [td_3.1, td_3.2.1, td_3.2.2, wm_102]
  exact wd_102.symm
theorem Cn_108 {F R : Nat → Int32} {t : Nat} {a b c : Int32} (e : F = bq_r (bq_r (bq_r (bq_r R t (nI 108)) (t + 1) a) (t + 2) b) (t + 3) c) : Cn F t (nI 108, a, c, b) := fun g => by
  subst e
  rw [td_4.1, td_4.2.1, td_4.2.2.1, td_4.2.2.2, wm_108]
  exact wd_108.symm
theorem Cn_116 {F R : Nat → Int32} {t : Nat} {a b c : Int32} (e : F = bq_r (bq_r (bq_r (bq_r R t (nI 116)) (t + 1) a) (t + 2) b) (t + 3) c) : Cn F t (nI 116, a, b, c) := fun g => by
  subst e
  rw [td_4.1, td_4.2.1, td_4.2.2.1, td_4.2.2.2, wm_116]
  exact wd_116.symm
theorem Cn.fr {F F' : Nat → Int32} {t : Nat} {k : BqC} (h : Cn F t k) (e : ∀ j, t ≤ j → j < t + 4 → F' j = F j) : Cn F' t k := fun g => by
  rw [e t (by omega) (by omega), e (t + 1) (by omega) (by omega), e (t + 2) (by omega) (by omega), e (t + 3) (by omega) (by omega)]
  exact h g
set_option maxHeartbeats 8200000 in
set_option maxRecDepth 20000 in
theorem c_rcmd {S : BqH} {n : Nat} {I : BqI} {L : BqL} {P : BqP} {m p t : Nat} {B : Nat → Int32} {l : Nat} (hm : oModel S n P m) (hp : I m 18 = nI p) (hl : I m 9 = nI l) (hb : I (m + 5) = B) (hl60 : l ≤ 60) (hpl : p ≤ l) (ht : t + 3 < 240) : bq_Sp mX12_readsCommand 3 57 0 0 [.ref m, .int (nI t)] S n I L P (qTc m I S n L P B l t p) := by
  refine q_entry (vs := [some (.ref m), some (.int (nI t)), none]) (by decide +kernel) (by simp) (Nat.le_of_ble_eq_true rfl) rfl ?_
  refine q_aload_n (pc := 0) dX12_readsCommand_0 rfl rfl ?_
  refine q_callVF (pc := 1) dX12_readsCommand_1 kX12_184 (c_X12_here hm hp hl hb hl60 hpl) (Model_sh hm) rfl (Model_lt hm) ⟨Nat.le_of_ble_eq_true rfl, Nat.le_of_ble_eq_true rfl⟩ rfl rfl (Nat.le_of_ble_eq_true rfl) ?_
  show bq_W _ _ _ _ _ 4 _ [_] _ _ _ _ _ _
  refine q_istore_n (pc := 4) dX12_readsCommand_4 rfl (Nat.le_of_ble_eq_true rfl) rfl ?_
  show bq_W _ _ _ _ _ 5 [_, _, _] _ _ _ _ _ _ _
  refine q_aload_n (pc := 5) dX12_readsCommand_5 rfl rfl ?_
  refine q_iload_n (pc := 6) dX12_readsCommand_6 rfl rfl ?_
  refine q_bipush (pc := 7) (v := nI 116) dX12_readsCommand_7 (by decide) ?_
  refine q_icmp_eq (pc := 9) 40 dX12_readsCommand_9 (by decide) (fun c_9 => ?_) (fun c_9 => ?_)
  · have hlt := hr_lt (by decide) c_9
    rw [show pC B l p = pc_t B l (p + 1, false) from by unfold pC; rw [c_9, if_neg (by decide), if_neg (by decide), if_neg (by decide), if_neg (by decide), if_pos rfl]]
    rw [c_9]
    refine q_iconst (pc := 40) (v := nI 0) dX12_readsCommand_40 (by decide) ?_
    refine q_putZ (pc := 41) dX12_readsCommand_41 (pX12_181 _) (Model_sh hm) ⟨by decide, rfl⟩ (by decide) (Model_lt hm) ?_
    refine q_aload_n (pc := 44) dX12_readsCommand_44 rfl rfl ?_
    refine q_getI (pc := 45) dX12_readsCommand_45 fX12_181 (Model_sh hm) ⟨by decide, rfl⟩ (Model_lt hm) ?_
    rw [bq_u_at]
    refine q_if_eq (pc := 48) 52 dX12_readsCommand_48 (by decide) (fun c_48 => ?_) (fun c_48 => absurd rfl c_48)
    refine q_aload_n (pc := 52) dX12_readsCommand_52 rfl rfl ?_
    refine q_dup (pc := 53) dX12_readsCommand_53 rfl ?_
    refine q_getI (pc := 54) dX12_readsCommand_54 fX12_178 (Model_sh hm) ⟨by decide, rfl⟩ (Model_lt hm) ?_
    rw [bq_u_no (by omega), hp]
    refine q_iconst (pc := 57) (v := nI 1) dX12_readsCommand_57 (by decide) ?_
    refine q_iaddN (pc := 58) dX12_readsCommand_58 ?_
    refine q_putI (pc := 59) dX12_readsCommand_59 (pX12_178 _) (Model_sh hm) ⟨by decide, rfl⟩ (Model_lt hm) ?_
    refine q_aload_n (pc := 62) dX12_readsCommand_62 rfl rfl ?_
    refine q_getP (pc := 63) dX12_readsCommand_63 fX12_47 (Model_sh hm) ⟨by decide, rfl⟩ (Model_lt hm) (Model_p_told hm) ?_
    refine q_iload_n (pc := 66) dX12_readsCommand_66 rfl rfl ?_
    refine q_iload_n (pc := 67) dX12_readsCommand_67 rfl rfl ?_
    refine q_iast (pc := 68) dX12_readsCommand_68 (oA_sh (Model_s_told hm)) (oA_lt (Model_s_told hm)) rfl (by omega) ?_
    refine q_nameI (fun J0 e0 => ?_)
    have T0 : MT m I J0 B l (p + 1, false) := by rw [e0]; exact ((MT.mk0 (w := false) hp hl hb hl60 hpl rfl).p (q := p + 1) hlt).t
    have F0 : J0 (m + 13) = (bq_r (I (m + 13)) t (nI 116)) := by rw [e0, bq_u_r, bq_r_self, bq_u_ne (show m + 13 ≠ m by omega), bq_u_ne (show m + 13 ≠ m by omega)]
    refine q_aload_n (pc := 69) dX12_readsCommand_69 rfl rfl ?_
    refine q_getP (pc := 70) dX12_readsCommand_70 fX12_47 (Model_sh hm) ⟨by decide, rfl⟩ (Model_lt hm) (Model_p_told hm) ?_
    refine q_iload_n (pc := 73) dX12_readsCommand_73 rfl rfl ?_
    refine q_iconst (pc := 74) (v := nI 1) dX12_readsCommand_74 (by decide) ?_
    refine q_iaddN (pc := 75) dX12_readsCommand_75 ?_
    refine q_aload_n (pc := 76) dX12_readsCommand_76 rfl rfl ?_
    refine q_iload_n (pc := 77) dX12_readsCommand_77 rfl rfl ?_
    refine q_bipush (pc := 78) (v := nI 100) dX12_readsCommand_78 (by decide) ?_
    refine q_icmp_ne (pc := 80) 87 dX12_readsCommand_80 (by decide) (fun c_80 => ?_) (fun c_80 => absurd (by decide) c_80)
    refine q_iconst (pc := 87) (v := nI 1) dX12_readsCommand_87 (by decide) ?_
    refine q_callV (pc := 88) dX12_readsCommand_88 kX12_187 (c_rdig hm T0 (K := 1) (by decide)) (Model_sh hm) rfl (Model_lt hm) ⟨Nat.le_of_ble_eq_true rfl, Nat.le_of_ble_eq_true rfl⟩ rfl rfl (Nat.le_of_ble_eq_true rfl) ?_
    rintro _ S1 n1 I1 L1 P1 ⟨rfl, eS1, en1, eL1, eP1, T1, G1⟩
    subst S1 n1 L1 P1
    show bq_W _ _ _ _ _ 91 _ [_, _, _] _ _ _ _ _ _
    rw [pM_1] at T1
    rw [pM_1]
    refine q_iast (pc := 91) dX12_readsCommand_91 (oA_sh (Model_s_told hm)) (oA_lt (Model_s_told hm)) rfl (by omega) ?_
    refine q_nameI (fun J1 e1 => ?_)
    have T1x := T1.te e1
    have F1 := Ft (G1.trans F0) e1
    refine q_iload_n (pc := 92) dX12_readsCommand_92 rfl rfl ?_
    refine q_bipush (pc := 93) (v := nI 116) dX12_readsCommand_93 (by decide) ?_
    refine q_icmp_ne (pc := 95) 139 dX12_readsCommand_95 (by decide) (fun c_95 => absurd c_95 (by decide)) (fun c_95 => ?_)
    refine q_aload_n (pc := 98) dX12_readsCommand_98 rfl rfl ?_
    refine q_bipush (pc := 99) (v := nI 62) dX12_readsCommand_99 (by decide) ?_
    refine q_callV (pc := 101) dX12_readsCommand_101 kX12_190 (c_reads hm T1x (c := 62) (by decide)) (Model_sh hm) rfl (Model_lt hm) ⟨Nat.le_of_ble_eq_true rfl, Nat.le_of_ble_eq_true rfl⟩ rfl rfl (Nat.le_of_ble_eq_true rfl) ?_
    rintro _ S2 n2 I2 L2 P2 ⟨rfl, eS2, en2, eL2, eP2, T2, G2⟩
    subst S2 n2 L2 P2
    show bq_W _ _ _ _ _ 104 _ [] _ _ _ _ _ _
    refine q_aload_n (pc := 104) dX12_readsCommand_104 rfl rfl ?_
    refine q_getP (pc := 105) dX12_readsCommand_105 fX12_47 (Model_sh hm) ⟨by decide, rfl⟩ (Model_lt hm) (Model_p_told hm) ?_
    refine q_iload_n (pc := 108) dX12_readsCommand_108 rfl rfl ?_
    refine q_iconst (pc := 109) (v := nI 2) dX12_readsCommand_109 (by decide) ?_
    refine q_iaddN (pc := 110) dX12_readsCommand_110 ?_
    refine q_aload_n (pc := 111) dX12_readsCommand_111 rfl rfl ?_
    refine q_iconst (pc := 112) (v := nI 1) dX12_readsCommand_112 (by decide) ?_
    refine q_callV (pc := 113) dX12_readsCommand_113 kX12_187 (c_rdig hm T2 (K := 1) (by decide)) (Model_sh hm) rfl (Model_lt hm) ⟨Nat.le_of_ble_eq_true rfl, Nat.le_of_ble_eq_true rfl⟩ rfl rfl (Nat.le_of_ble_eq_true rfl) ?_
    rintro _ S3 n3 I3 L3 P3 ⟨rfl, eS3, en3, eL3, eP3, T3, G3⟩
    subst S3 n3 L3 P3
    show bq_W _ _ _ _ _ 116 _ [_, _, _] _ _ _ _ _ _
    rw [pM_1] at T3
    rw [pM_1]
    refine q_iast (pc := 116) dX12_readsCommand_116 (oA_sh (Model_s_told hm)) (oA_lt (Model_s_told hm)) rfl (by omega) ?_
    refine q_nameI (fun J3 e3 => ?_)
    have T3x := T3.te e3
    have F3 := Ft (G3.trans (G2.trans F1)) e3
    refine q_aload_n (pc := 117) dX12_readsCommand_117 rfl rfl ?_
    refine q_bipush (pc := 118) (v := nI 58) dX12_readsCommand_118 (by decide) ?_
    refine q_callV (pc := 120) dX12_readsCommand_120 kX12_190 (c_reads hm T3x (c := 58) (by decide)) (Model_sh hm) rfl (Model_lt hm) ⟨Nat.le_of_ble_eq_true rfl, Nat.le_of_ble_eq_true rfl⟩ rfl rfl (Nat.le_of_ble_eq_true rfl) ?_
    rintro _ S4 n4 I4 L4 P4 ⟨rfl, eS4, en4, eL4, eP4, T4, G4⟩
    subst S4 n4 L4 P4
    show bq_W _ _ _ _ _ 123 _ [] _ _ _ _ _ _
    refine q_aload_n (pc := 123) dX12_readsCommand_123 rfl rfl ?_
    refine q_getP (pc := 124) dX12_readsCommand_124 fX12_47 (Model_sh hm) ⟨by decide, rfl⟩ (Model_lt hm) (Model_p_told hm) ?_
    refine q_iload_n (pc := 127) dX12_readsCommand_127 rfl rfl ?_
    refine q_iconst (pc := 128) (v := nI 3) dX12_readsCommand_128 (by decide) ?_
    refine q_iaddN (pc := 129) dX12_readsCommand_129 ?_
    refine q_aload_n (pc := 130) dX12_readsCommand_130 rfl rfl ?_
    refine q_iconst (pc := 131) (v := nI 4) dX12_readsCommand_131 (by decide) ?_
    refine q_callV (pc := 132) dX12_readsCommand_132 kX12_187 (c_rdig hm T4 (K := 4) (by decide)) (Model_sh hm) rfl (Model_lt hm) ⟨Nat.le_of_ble_eq_true rfl, Nat.le_of_ble_eq_true rfl⟩ rfl rfl (Nat.le_of_ble_eq_true rfl) ?_
    rintro _ S5 n5 I5 L5 P5 ⟨rfl, eS5, en5, eL5, eP5, T5, G5⟩
    subst S5 n5 L5 P5
    show bq_W _ _ _ _ _ 135 _ [_, _, _] _ _ _ _ _ _
    rw [pM_4] at T5
    rw [pM_4]
    refine q_iast (pc := 135) dX12_readsCommand_135 (oA_sh (Model_s_told hm)) (oA_lt (Model_s_told hm)) rfl (by omega) ?_
    refine q_nameI (fun J5 e5 => ?_)
    have T5x := T5.te e5
    have F5 := Ft (G5.trans (G4.trans F3)) e5
    refine q_goto (pc := 136) 211 dX12_readsCommand_136 (by decide) ?_
    exact q_vret (st := []) (pc := 211) dX12_readsCommand_211 rfl ⟨rfl, rfl, rfl, rfl, rfl, T5x, fun _ => Cn_116 F5, fun j hj => by rw [F5, bq_r_ne (by omega), bq_r_ne (by omega), bq_r_ne (by omega), bq_r_ne (by omega)]⟩
  · refine q_iload_n (pc := 12) dX12_readsCommand_12 rfl rfl ?_
    refine q_bipush (pc := 13) (v := nI 108) dX12_readsCommand_13 (by decide) ?_
    refine q_icmp_eq (pc := 15) 40 dX12_readsCommand_15 (by decide) (fun c_15 => ?_) (fun c_15 => ?_)
    · have hlt := hr_lt (by decide) c_15
      rw [show pC B l p = pc_l B l (p + 1, false) from by unfold pC; rw [c_15, if_neg (by decide), if_neg (by decide), if_neg (by decide), if_pos rfl]]
      rw [c_15]
      refine q_iconst (pc := 40) (v := nI 0) dX12_readsCommand_40 (by decide) ?_
      refine q_putZ (pc := 41) dX12_readsCommand_41 (pX12_181 _) (Model_sh hm) ⟨by decide, rfl⟩ (by decide) (Model_lt hm) ?_
      refine q_aload_n (pc := 44) dX12_readsCommand_44 rfl rfl ?_
      refine q_getI (pc := 45) dX12_readsCommand_45 fX12_181 (Model_sh hm) ⟨by decide, rfl⟩ (Model_lt hm) ?_
      rw [bq_u_at]
      refine q_if_eq (pc := 48) 52 dX12_readsCommand_48 (by decide) (fun c_48 => ?_) (fun c_48 => absurd rfl c_48)
      refine q_aload_n (pc := 52) dX12_readsCommand_52 rfl rfl ?_
      refine q_dup (pc := 53) dX12_readsCommand_53 rfl ?_
      refine q_getI (pc := 54) dX12_readsCommand_54 fX12_178 (Model_sh hm) ⟨by decide, rfl⟩ (Model_lt hm) ?_
      rw [bq_u_no (by omega), hp]
      refine q_iconst (pc := 57) (v := nI 1) dX12_readsCommand_57 (by decide) ?_
      refine q_iaddN (pc := 58) dX12_readsCommand_58 ?_
      refine q_putI (pc := 59) dX12_readsCommand_59 (pX12_178 _) (Model_sh hm) ⟨by decide, rfl⟩ (Model_lt hm) ?_
      refine q_aload_n (pc := 62) dX12_readsCommand_62 rfl rfl ?_
      refine q_getP (pc := 63) dX12_readsCommand_63 fX12_47 (Model_sh hm) ⟨by decide, rfl⟩ (Model_lt hm) (Model_p_told hm) ?_
      refine q_iload_n (pc := 66) dX12_readsCommand_66 rfl rfl ?_
      refine q_iload_n (pc := 67) dX12_readsCommand_67 rfl rfl ?_
      refine q_iast (pc := 68) dX12_readsCommand_68 (oA_sh (Model_s_told hm)) (oA_lt (Model_s_told hm)) rfl (by omega) ?_
      refine q_nameI (fun J0 e0 => ?_)
      have T0 : MT m I J0 B l (p + 1, false) := by rw [e0]; exact ((MT.mk0 (w := false) hp hl hb hl60 hpl rfl).p (q := p + 1) hlt).t
      have F0 : J0 (m + 13) = (bq_r (I (m + 13)) t (nI 108)) := by rw [e0, bq_u_r, bq_r_self, bq_u_ne (show m + 13 ≠ m by omega), bq_u_ne (show m + 13 ≠ m by omega)]
      refine q_aload_n (pc := 69) dX12_readsCommand_69 rfl rfl ?_
      refine q_getP (pc := 70) dX12_readsCommand_70 fX12_47 (Model_sh hm) ⟨by decide, rfl⟩ (Model_lt hm) (Model_p_told hm) ?_
      refine q_iload_n (pc := 73) dX12_readsCommand_73 rfl rfl ?_
      refine q_iconst (pc := 74) (v := nI 1) dX12_readsCommand_74 (by decide) ?_
      refine q_iaddN (pc := 75) dX12_readsCommand_75 ?_
      refine q_aload_n (pc := 76) dX12_readsCommand_76 rfl rfl ?_
      refine q_iload_n (pc := 77) dX12_readsCommand_77 rfl rfl ?_
      refine q_bipush (pc := 78) (v := nI 100) dX12_readsCommand_78 (by decide) ?_
      refine q_icmp_ne (pc := 80) 87 dX12_readsCommand_80 (by decide) (fun c_80 => ?_) (fun c_80 => absurd (by decide) c_80)
      refine q_iconst (pc := 87) (v := nI 1) dX12_readsCommand_87 (by decide) ?_
      refine q_callV (pc := 88) dX12_readsCommand_88 kX12_187 (c_rdig hm T0 (K := 1) (by decide)) (Model_sh hm) rfl (Model_lt hm) ⟨Nat.le_of_ble_eq_true rfl, Nat.le_of_ble_eq_true rfl⟩ rfl rfl (Nat.le_of_ble_eq_true rfl) ?_
      rintro _ S1 n1 I1 L1 P1 ⟨rfl, eS1, en1, eL1, eP1, T1, G1⟩
      subst S1 n1 L1 P1
      show bq_W _ _ _ _ _ 91 _ [_, _, _] _ _ _ _ _ _
      rw [pM_1] at T1
      rw [pM_1]
      refine q_iast (pc := 91) dX12_readsCommand_91 (oA_sh (Model_s_told hm)) (oA_lt (Model_s_told hm)) rfl (by omega) ?_
      refine q_nameI (fun J1 e1 => ?_)
      have T1x := T1.te e1
      have F1 := Ft (G1.trans F0) e1
      refine q_iload_n (pc := 92) dX12_readsCommand_92 rfl rfl ?_
      refine q_bipush (pc := 93) (v := nI 116) dX12_readsCommand_93 (by decide) ?_
      refine q_icmp_ne (pc := 95) 139 dX12_readsCommand_95 (by decide) (fun c_95 => ?_) (fun c_95 => absurd (by decide) c_95)
      refine q_iload_n (pc := 139) dX12_readsCommand_139 rfl rfl ?_
      refine q_bipush (pc := 140) (v := nI 108) dX12_readsCommand_140 (by decide) ?_
      refine q_icmp_ne (pc := 142) 186 dX12_readsCommand_142 (by decide) (fun c_142 => absurd c_142 (by decide)) (fun c_142 => ?_)
      refine q_aload_n (pc := 145) dX12_readsCommand_145 rfl rfl ?_
      refine q_bipush (pc := 146) (v := nI 58) dX12_readsCommand_146 (by decide) ?_
      refine q_callV (pc := 148) dX12_readsCommand_148 kX12_190 (c_reads hm T1x (c := 58) (by decide)) (Model_sh hm) rfl (Model_lt hm) ⟨Nat.le_of_ble_eq_true rfl, Nat.le_of_ble_eq_true rfl⟩ rfl rfl (Nat.le_of_ble_eq_true rfl) ?_
      rintro _ S2 n2 I2 L2 P2 ⟨rfl, eS2, en2, eL2, eP2, T2, G2⟩
      subst S2 n2 L2 P2
      show bq_W _ _ _ _ _ 151 _ [] _ _ _ _ _ _
      refine q_aload_n (pc := 151) dX12_readsCommand_151 rfl rfl ?_
      refine q_getP (pc := 152) dX12_readsCommand_152 fX12_47 (Model_sh hm) ⟨by decide, rfl⟩ (Model_lt hm) (Model_p_told hm) ?_
      refine q_iload_n (pc := 155) dX12_readsCommand_155 rfl rfl ?_
      refine q_iconst (pc := 156) (v := nI 2) dX12_readsCommand_156 (by decide) ?_
      refine q_iaddN (pc := 157) dX12_readsCommand_157 ?_
      refine q_aload_n (pc := 158) dX12_readsCommand_158 rfl rfl ?_
      refine q_iconst (pc := 159) (v := nI 4) dX12_readsCommand_159 (by decide) ?_
      refine q_callV (pc := 160) dX12_readsCommand_160 kX12_187 (c_rdig hm T2 (K := 4) (by decide)) (Model_sh hm) rfl (Model_lt hm) ⟨Nat.le_of_ble_eq_true rfl, Nat.le_of_ble_eq_true rfl⟩ rfl rfl (Nat.le_of_ble_eq_true rfl) ?_
      rintro _ S3 n3 I3 L3 P3 ⟨rfl, eS3, en3, eL3, eP3, T3, G3⟩
      subst S3 n3 L3 P3
      show bq_W _ _ _ _ _ 163 _ [_, _, _] _ _ _ _ _ _
      rw [pM_4] at T3
      rw [pM_4]
      refine q_iast (pc := 163) dX12_readsCommand_163 (oA_sh (Model_s_told hm)) (oA_lt (Model_s_told hm)) rfl (by omega) ?_
      refine q_nameI (fun J3 e3 => ?_)
      have T3x := T3.te e3
      have F3 := Ft (G3.trans (G2.trans F1)) e3
      refine q_aload_n (pc := 164) dX12_readsCommand_164 rfl rfl ?_
      refine q_bipush (pc := 165) (v := nI 47) dX12_readsCommand_165 (by decide) ?_
      refine q_callV (pc := 167) dX12_readsCommand_167 kX12_190 (c_reads hm T3x (c := 47) (by decide)) (Model_sh hm) rfl (Model_lt hm) ⟨Nat.le_of_ble_eq_true rfl, Nat.le_of_ble_eq_true rfl⟩ rfl rfl (Nat.le_of_ble_eq_true rfl) ?_
      rintro _ S4 n4 I4 L4 P4 ⟨rfl, eS4, en4, eL4, eP4, T4, G4⟩
      subst S4 n4 L4 P4
      show bq_W _ _ _ _ _ 170 _ [] _ _ _ _ _ _
      refine q_aload_n (pc := 170) dX12_readsCommand_170 rfl rfl ?_
      refine q_getP (pc := 171) dX12_readsCommand_171 fX12_47 (Model_sh hm) ⟨by decide, rfl⟩ (Model_lt hm) (Model_p_told hm) ?_
      refine q_iload_n (pc := 174) dX12_readsCommand_174 rfl rfl ?_
      refine q_iconst (pc := 175) (v := nI 3) dX12_readsCommand_175 (by decide) ?_
      refine q_iaddN (pc := 176) dX12_readsCommand_176 ?_
      refine q_aload_n (pc := 177) dX12_readsCommand_177 rfl rfl ?_
      refine q_iconst (pc := 178) (v := nI 1) dX12_readsCommand_178 (by decide) ?_
      refine q_callV (pc := 179) dX12_readsCommand_179 kX12_187 (c_rdig hm T4 (K := 1) (by decide)) (Model_sh hm) rfl (Model_lt hm) ⟨Nat.le_of_ble_eq_true rfl, Nat.le_of_ble_eq_true rfl⟩ rfl rfl (Nat.le_of_ble_eq_true rfl) ?_
      rintro _ S5 n5 I5 L5 P5 ⟨rfl, eS5, en5, eL5, eP5, T5, G5⟩
      subst S5 n5 L5 P5
      show bq_W _ _ _ _ _ 182 _ [_, _, _] _ _ _ _ _ _
      rw [pM_1] at T5
      rw [pM_1]
      refine q_iast (pc := 182) dX12_readsCommand_182 (oA_sh (Model_s_told hm)) (oA_lt (Model_s_told hm)) rfl (by omega) ?_
      refine q_nameI (fun J5 e5 => ?_)
      have T5x := T5.te e5
      have F5 := Ft (G5.trans (G4.trans F3)) e5
      refine q_goto (pc := 183) 211 dX12_readsCommand_183 (by decide) ?_
      exact q_vret (st := []) (pc := 211) dX12_readsCommand_211 rfl ⟨rfl, rfl, rfl, rfl, rfl, T5x, fun _ => Cn_108 F5, fun j hj => by rw [F5, bq_r_ne (by omega), bq_r_ne (by omega), bq_r_ne (by omega), bq_r_ne (by omega)]⟩
    · refine q_iload_n (pc := 18) dX12_readsCommand_18 rfl rfl ?_
      refine q_bipush (pc := 19) (v := nI 102) dX12_readsCommand_19 (by decide) ?_
      refine q_icmp_eq (pc := 21) 40 dX12_readsCommand_21 (by decide) (fun c_21 => ?_) (fun c_21 => ?_)
      · have hlt := hr_lt (by decide) c_21
        rw [show pC B l p = pc_f B l (p + 1, false) from by unfold pC; rw [c_21, if_neg (by decide), if_neg (by decide), if_pos rfl]]
        rw [c_21]
        refine q_iconst (pc := 40) (v := nI 0) dX12_readsCommand_40 (by decide) ?_
        refine q_putZ (pc := 41) dX12_readsCommand_41 (pX12_181 _) (Model_sh hm) ⟨by decide, rfl⟩ (by decide) (Model_lt hm) ?_
        refine q_aload_n (pc := 44) dX12_readsCommand_44 rfl rfl ?_
        refine q_getI (pc := 45) dX12_readsCommand_45 fX12_181 (Model_sh hm) ⟨by decide, rfl⟩ (Model_lt hm) ?_
        rw [bq_u_at]
        refine q_if_eq (pc := 48) 52 dX12_readsCommand_48 (by decide) (fun c_48 => ?_) (fun c_48 => absurd rfl c_48)
        refine q_aload_n (pc := 52) dX12_readsCommand_52 rfl rfl ?_
        refine q_dup (pc := 53) dX12_readsCommand_53 rfl ?_
        refine q_getI (pc := 54) dX12_readsCommand_54 fX12_178 (Model_sh hm) ⟨by decide, rfl⟩ (Model_lt hm) ?_
        rw [bq_u_no (by omega), hp]
        refine q_iconst (pc := 57) (v := nI 1) dX12_readsCommand_57 (by decide) ?_
        refine q_iaddN (pc := 58) dX12_readsCommand_58 ?_
        refine q_putI (pc := 59) dX12_readsCommand_59 (pX12_178 _) (Model_sh hm) ⟨by decide, rfl⟩ (Model_lt hm) ?_
        refine q_aload_n (pc := 62) dX12_readsCommand_62 rfl rfl ?_
        refine q_getP (pc := 63) dX12_readsCommand_63 fX12_47 (Model_sh hm) ⟨by decide, rfl⟩ (Model_lt hm) (Model_p_told hm) ?_
        refine q_iload_n (pc := 66) dX12_readsCommand_66 rfl rfl ?_
        refine q_iload_n (pc := 67) dX12_readsCommand_67 rfl rfl ?_
        refine q_iast (pc := 68) dX12_readsCommand_68 (oA_sh (Model_s_told hm)) (oA_lt (Model_s_told hm)) rfl (by omega) ?_
        refine q_nameI (fun J0 e0 => ?_)
        have T0 : MT m I J0 B l (p + 1, false) := by rw [e0]; exact ((MT.mk0 (w := false) hp hl hb hl60 hpl rfl).p (q := p + 1) hlt).t
        have F0 : J0 (m + 13) = (bq_r (I (m + 13)) t (nI 102)) := by rw [e0, bq_u_r, bq_r_self, bq_u_ne (show m + 13 ≠ m by omega), bq_u_ne (show m + 13 ≠ m by omega)]
        refine q_aload_n (pc := 69) dX12_readsCommand_69 rfl rfl ?_
        refine q_getP (pc := 70) dX12_readsCommand_70 fX12_47 (Model_sh hm) ⟨by decide, rfl⟩ (Model_lt hm) (Model_p_told hm) ?_
        refine q_iload_n (pc := 73) dX12_readsCommand_73 rfl rfl ?_
        refine q_iconst (pc := 74) (v := nI 1) dX12_readsCommand_74 (by decide) ?_
        refine q_iaddN (pc := 75) dX12_readsCommand_75 ?_
        refine q_aload_n (pc := 76) dX12_readsCommand_76 rfl rfl ?_
        refine q_iload_n (pc := 77) dX12_readsCommand_77 rfl rfl ?_
        refine q_bipush (pc := 78) (v := nI 100) dX12_readsCommand_78 (by decide) ?_
        refine q_icmp_ne (pc := 80) 87 dX12_readsCommand_80 (by decide) (fun c_80 => ?_) (fun c_80 => absurd (by decide) c_80)
        refine q_iconst (pc := 87) (v := nI 1) dX12_readsCommand_87 (by decide) ?_
        refine q_callV (pc := 88) dX12_readsCommand_88 kX12_187 (c_rdig hm T0 (K := 1) (by decide)) (Model_sh hm) rfl (Model_lt hm) ⟨Nat.le_of_ble_eq_true rfl, Nat.le_of_ble_eq_true rfl⟩ rfl rfl (Nat.le_of_ble_eq_true rfl) ?_
        rintro _ S1 n1 I1 L1 P1 ⟨rfl, eS1, en1, eL1, eP1, T1, G1⟩
        subst S1 n1 L1 P1
        show bq_W _ _ _ _ _ 91 _ [_, _, _] _ _ _ _ _ _
        rw [pM_1] at T1
        rw [pM_1]
        refine q_iast (pc := 91) dX12_readsCommand_91 (oA_sh (Model_s_told hm)) (oA_lt (Model_s_told hm)) rfl (by omega) ?_
        refine q_nameI (fun J1 e1 => ?_)
        have T1x := T1.te e1
        have F1 := Ft (G1.trans F0) e1
        refine q_iload_n (pc := 92) dX12_readsCommand_92 rfl rfl ?_
        refine q_bipush (pc := 93) (v := nI 116) dX12_readsCommand_93 (by decide) ?_
        refine q_icmp_ne (pc := 95) 139 dX12_readsCommand_95 (by decide) (fun c_95 => ?_) (fun c_95 => absurd (by decide) c_95)
        refine q_iload_n (pc := 139) dX12_readsCommand_139 rfl rfl ?_
        refine q_bipush (pc := 140) (v := nI 108) dX12_readsCommand_140 (by decide) ?_
        refine q_icmp_ne (pc := 142) 186 dX12_readsCommand_142 (by decide) (fun c_142 => ?_) (fun c_142 => absurd (by decide) c_142)
        refine q_iload_n (pc := 186) dX12_readsCommand_186 rfl rfl ?_
        refine q_bipush (pc := 187) (v := nI 102) dX12_readsCommand_187 (by decide) ?_
        refine q_icmp_ne (pc := 189) 211 dX12_readsCommand_189 (by decide) (fun c_189 => absurd c_189 (by decide)) (fun c_189 => ?_)
        refine q_aload_n (pc := 192) dX12_readsCommand_192 rfl rfl ?_
        refine q_bipush (pc := 193) (v := nI 35) dX12_readsCommand_193 (by decide) ?_
        refine q_callV (pc := 195) dX12_readsCommand_195 kX12_190 (c_reads hm T1x (c := 35) (by decide)) (Model_sh hm) rfl (Model_lt hm) ⟨Nat.le_of_ble_eq_true rfl, Nat.le_of_ble_eq_true rfl⟩ rfl rfl (Nat.le_of_ble_eq_true rfl) ?_
        rintro _ S2 n2 I2 L2 P2 ⟨rfl, eS2, en2, eL2, eP2, T2, G2⟩
        subst S2 n2 L2 P2
        show bq_W _ _ _ _ _ 198 _ [] _ _ _ _ _ _
        refine q_aload_n (pc := 198) dX12_readsCommand_198 rfl rfl ?_
        refine q_getP (pc := 199) dX12_readsCommand_199 fX12_47 (Model_sh hm) ⟨by decide, rfl⟩ (Model_lt hm) (Model_p_told hm) ?_
        refine q_iload_n (pc := 202) dX12_readsCommand_202 rfl rfl ?_
        refine q_iconst (pc := 203) (v := nI 2) dX12_readsCommand_203 (by decide) ?_
        refine q_iaddN (pc := 204) dX12_readsCommand_204 ?_
        refine q_aload_n (pc := 205) dX12_readsCommand_205 rfl rfl ?_
        refine q_iconst (pc := 206) (v := nI 4) dX12_readsCommand_206 (by decide) ?_
        refine q_callV (pc := 207) dX12_readsCommand_207 kX12_187 (c_rdig hm T2 (K := 4) (by decide)) (Model_sh hm) rfl (Model_lt hm) ⟨Nat.le_of_ble_eq_true rfl, Nat.le_of_ble_eq_true rfl⟩ rfl rfl (Nat.le_of_ble_eq_true rfl) ?_
        rintro _ S3 n3 I3 L3 P3 ⟨rfl, eS3, en3, eL3, eP3, T3, G3⟩
        subst S3 n3 L3 P3
        show bq_W _ _ _ _ _ 210 _ [_, _, _] _ _ _ _ _ _
        rw [pM_4] at T3
        rw [pM_4]
        refine q_iast (pc := 210) dX12_readsCommand_210 (oA_sh (Model_s_told hm)) (oA_lt (Model_s_told hm)) rfl (by omega) ?_
        refine q_nameI (fun J3 e3 => ?_)
        have T3x := T3.te e3
        have F3 := Ft (G3.trans (G2.trans F1)) e3
        exact q_vret (st := []) (pc := 211) dX12_readsCommand_211 rfl ⟨rfl, rfl, rfl, rfl, rfl, T3x, fun _ => Cn_102 F3, fun j hj => by rw [F3, bq_r_ne (by omega), bq_r_ne (by omega), bq_r_ne (by omega)]⟩
      · refine q_iload_n (pc := 24) dX12_readsCommand_24 rfl rfl ?_
        refine q_bipush (pc := 25) (v := nI 99) dX12_readsCommand_25 (by decide) ?_
        refine q_icmp_eq (pc := 27) 40 dX12_readsCommand_27 (by decide) (fun c_27 => ?_) (fun c_27 => ?_)
        · have hlt := hr_lt (by decide) c_27
          rw [show pC B l p = pc_c B l (p + 1, false) from by unfold pC; rw [c_27, if_pos rfl]]
          rw [c_27]
          refine q_iconst (pc := 40) (v := nI 0) dX12_readsCommand_40 (by decide) ?_
          refine q_putZ (pc := 41) dX12_readsCommand_41 (pX12_181 _) (Model_sh hm) ⟨by decide, rfl⟩ (by decide) (Model_lt hm) ?_
          refine q_aload_n (pc := 44) dX12_readsCommand_44 rfl rfl ?_
          refine q_getI (pc := 45) dX12_readsCommand_45 fX12_181 (Model_sh hm) ⟨by decide, rfl⟩ (Model_lt hm) ?_
          rw [bq_u_at]
          refine q_if_eq (pc := 48) 52 dX12_readsCommand_48 (by decide) (fun c_48 => ?_) (fun c_48 => absurd rfl c_48)
          refine q_aload_n (pc := 52) dX12_readsCommand_52 rfl rfl ?_
          refine q_dup (pc := 53) dX12_readsCommand_53 rfl ?_
          refine q_getI (pc := 54) dX12_readsCommand_54 fX12_178 (Model_sh hm) ⟨by decide, rfl⟩ (Model_lt hm) ?_
          rw [bq_u_no (by omega), hp]
          refine q_iconst (pc := 57) (v := nI 1) dX12_readsCommand_57 (by decide) ?_
          refine q_iaddN (pc := 58) dX12_readsCommand_58 ?_
          refine q_putI (pc := 59) dX12_readsCommand_59 (pX12_178 _) (Model_sh hm) ⟨by decide, rfl⟩ (Model_lt hm) ?_
          refine q_aload_n (pc := 62) dX12_readsCommand_62 rfl rfl ?_
          refine q_getP (pc := 63) dX12_readsCommand_63 fX12_47 (Model_sh hm) ⟨by decide, rfl⟩ (Model_lt hm) (Model_p_told hm) ?_
          refine q_iload_n (pc := 66) dX12_readsCommand_66 rfl rfl ?_
          refine q_iload_n (pc := 67) dX12_readsCommand_67 rfl rfl ?_
          refine q_iast (pc := 68) dX12_readsCommand_68 (oA_sh (Model_s_told hm)) (oA_lt (Model_s_told hm)) rfl (by omega) ?_
          refine q_nameI (fun J0 e0 => ?_)
          have T0 : MT m I J0 B l (p + 1, false) := by rw [e0]; exact ((MT.mk0 (w := false) hp hl hb hl60 hpl rfl).p (q := p + 1) hlt).t
          have F0 : J0 (m + 13) = (bq_r (I (m + 13)) t (nI 99)) := by rw [e0, bq_u_r, bq_r_self, bq_u_ne (show m + 13 ≠ m by omega), bq_u_ne (show m + 13 ≠ m by omega)]
          refine q_aload_n (pc := 69) dX12_readsCommand_69 rfl rfl ?_
          refine q_getP (pc := 70) dX12_readsCommand_70 fX12_47 (Model_sh hm) ⟨by decide, rfl⟩ (Model_lt hm) (Model_p_told hm) ?_
          refine q_iload_n (pc := 73) dX12_readsCommand_73 rfl rfl ?_
          refine q_iconst (pc := 74) (v := nI 1) dX12_readsCommand_74 (by decide) ?_
          refine q_iaddN (pc := 75) dX12_readsCommand_75 ?_
          refine q_aload_n (pc := 76) dX12_readsCommand_76 rfl rfl ?_
          refine q_iload_n (pc := 77) dX12_readsCommand_77 rfl rfl ?_
          refine q_bipush (pc := 78) (v := nI 100) dX12_readsCommand_78 (by decide) ?_
          refine q_icmp_ne (pc := 80) 87 dX12_readsCommand_80 (by decide) (fun c_80 => ?_) (fun c_80 => absurd (by decide) c_80)
          refine q_iconst (pc := 87) (v := nI 1) dX12_readsCommand_87 (by decide) ?_
          refine q_callV (pc := 88) dX12_readsCommand_88 kX12_187 (c_rdig hm T0 (K := 1) (by decide)) (Model_sh hm) rfl (Model_lt hm) ⟨Nat.le_of_ble_eq_true rfl, Nat.le_of_ble_eq_true rfl⟩ rfl rfl (Nat.le_of_ble_eq_true rfl) ?_
          rintro _ S1 n1 I1 L1 P1 ⟨rfl, eS1, en1, eL1, eP1, T1, G1⟩
          subst S1 n1 L1 P1
          show bq_W _ _ _ _ _ 91 _ [_, _, _] _ _ _ _ _ _
          rw [pM_1] at T1
          rw [pM_1]
          refine q_iast (pc := 91) dX12_readsCommand_91 (oA_sh (Model_s_told hm)) (oA_lt (Model_s_told hm)) rfl (by omega) ?_
          refine q_nameI (fun J1 e1 => ?_)
          have T1x := T1.te e1
          have F1 := Ft (G1.trans F0) e1
          refine q_iload_n (pc := 92) dX12_readsCommand_92 rfl rfl ?_
          refine q_bipush (pc := 93) (v := nI 116) dX12_readsCommand_93 (by decide) ?_
          refine q_icmp_ne (pc := 95) 139 dX12_readsCommand_95 (by decide) (fun c_95 => ?_) (fun c_95 => absurd (by decide) c_95)
          refine q_iload_n (pc := 139) dX12_readsCommand_139 rfl rfl ?_
          refine q_bipush (pc := 140) (v := nI 108) dX12_readsCommand_140 (by decide) ?_
          refine q_icmp_ne (pc := 142) 186 dX12_readsCommand_142 (by decide) (fun c_142 => ?_) (fun c_142 => absurd (by decide) c_142)
          refine q_iload_n (pc := 186) dX12_readsCommand_186 rfl rfl ?_
          refine q_bipush (pc := 187) (v := nI 102) dX12_readsCommand_187 (by decide) ?_
          refine q_icmp_ne (pc := 189) 211 dX12_readsCommand_189 (by decide) (fun c_189 => ?_) (fun c_189 => absurd (by decide) c_189)
          exact q_vret (st := []) (pc := 211) dX12_readsCommand_211 rfl ⟨rfl, rfl, rfl, rfl, rfl, T1x, fun _ => Cn_99 F1, fun j hj => by rw [F1, bq_r_ne (by omega), bq_r_ne (by omega)]⟩
        · refine q_iload_n (pc := 30) dX12_readsCommand_30 rfl rfl ?_
          refine q_bipush (pc := 31) (v := nI 100) dX12_readsCommand_31 (by decide) ?_
          refine q_icmp_eq (pc := 33) 40 dX12_readsCommand_33 (by decide) (fun c_33 => ?_) (fun c_33 => ?_)
          · have hlt := hr_lt (by decide) c_33
            rw [show pC B l p = pc_d B l (p + 1, false) from by unfold pC; rw [c_33, if_neg (by decide), if_pos rfl]]
            rw [c_33]
            refine q_iconst (pc := 40) (v := nI 0) dX12_readsCommand_40 (by decide) ?_
            refine q_putZ (pc := 41) dX12_readsCommand_41 (pX12_181 _) (Model_sh hm) ⟨by decide, rfl⟩ (by decide) (Model_lt hm) ?_
            refine q_aload_n (pc := 44) dX12_readsCommand_44 rfl rfl ?_
            refine q_getI (pc := 45) dX12_readsCommand_45 fX12_181 (Model_sh hm) ⟨by decide, rfl⟩ (Model_lt hm) ?_
            rw [bq_u_at]
            refine q_if_eq (pc := 48) 52 dX12_readsCommand_48 (by decide) (fun c_48 => ?_) (fun c_48 => absurd rfl c_48)
            refine q_aload_n (pc := 52) dX12_readsCommand_52 rfl rfl ?_
            refine q_dup (pc := 53) dX12_readsCommand_53 rfl ?_
            refine q_getI (pc := 54) dX12_readsCommand_54 fX12_178 (Model_sh hm) ⟨by decide, rfl⟩ (Model_lt hm) ?_
            rw [bq_u_no (by omega), hp]
            refine q_iconst (pc := 57) (v := nI 1) dX12_readsCommand_57 (by decide) ?_
            refine q_iaddN (pc := 58) dX12_readsCommand_58 ?_
            refine q_putI (pc := 59) dX12_readsCommand_59 (pX12_178 _) (Model_sh hm) ⟨by decide, rfl⟩ (Model_lt hm) ?_
            refine q_aload_n (pc := 62) dX12_readsCommand_62 rfl rfl ?_
            refine q_getP (pc := 63) dX12_readsCommand_63 fX12_47 (Model_sh hm) ⟨by decide, rfl⟩ (Model_lt hm) (Model_p_told hm) ?_
            refine q_iload_n (pc := 66) dX12_readsCommand_66 rfl rfl ?_
            refine q_iload_n (pc := 67) dX12_readsCommand_67 rfl rfl ?_
            refine q_iast (pc := 68) dX12_readsCommand_68 (oA_sh (Model_s_told hm)) (oA_lt (Model_s_told hm)) rfl (by omega) ?_
            refine q_nameI (fun J0 e0 => ?_)
            have T0 : MT m I J0 B l (p + 1, false) := by rw [e0]; exact ((MT.mk0 (w := false) hp hl hb hl60 hpl rfl).p (q := p + 1) hlt).t
            have F0 : J0 (m + 13) = (bq_r (I (m + 13)) t (nI 100)) := by rw [e0, bq_u_r, bq_r_self, bq_u_ne (show m + 13 ≠ m by omega), bq_u_ne (show m + 13 ≠ m by omega)]
            refine q_aload_n (pc := 69) dX12_readsCommand_69 rfl rfl ?_
            refine q_getP (pc := 70) dX12_readsCommand_70 fX12_47 (Model_sh hm) ⟨by decide, rfl⟩ (Model_lt hm) (Model_p_told hm) ?_
            refine q_iload_n (pc := 73) dX12_readsCommand_73 rfl rfl ?_
            refine q_iconst (pc := 74) (v := nI 1) dX12_readsCommand_74 (by decide) ?_
            refine q_iaddN (pc := 75) dX12_readsCommand_75 ?_
            refine q_aload_n (pc := 76) dX12_readsCommand_76 rfl rfl ?_
            refine q_iload_n (pc := 77) dX12_readsCommand_77 rfl rfl ?_
            refine q_bipush (pc := 78) (v := nI 100) dX12_readsCommand_78 (by decide) ?_
            refine q_icmp_ne (pc := 80) 87 dX12_readsCommand_80 (by decide) (fun c_80 => absurd c_80 (by decide)) (fun c_80 => ?_)
            refine q_iconst (pc := 83) (v := nI 4) dX12_readsCommand_83 (by decide) ?_
            refine q_goto (pc := 84) 88 dX12_readsCommand_84 (by decide) ?_
            refine q_callV (pc := 88) dX12_readsCommand_88 kX12_187 (c_rdig hm T0 (K := 4) (by decide)) (Model_sh hm) rfl (Model_lt hm) ⟨Nat.le_of_ble_eq_true rfl, Nat.le_of_ble_eq_true rfl⟩ rfl rfl (Nat.le_of_ble_eq_true rfl) ?_
            rintro _ S1 n1 I1 L1 P1 ⟨rfl, eS1, en1, eL1, eP1, T1, G1⟩
            subst S1 n1 L1 P1
            show bq_W _ _ _ _ _ 91 _ [_, _, _] _ _ _ _ _ _
            rw [pM_4] at T1
            rw [pM_4]
            refine q_iast (pc := 91) dX12_readsCommand_91 (oA_sh (Model_s_told hm)) (oA_lt (Model_s_told hm)) rfl (by omega) ?_
            refine q_nameI (fun J1 e1 => ?_)
            have T1x := T1.te e1
            have F1 := Ft (G1.trans F0) e1
            refine q_iload_n (pc := 92) dX12_readsCommand_92 rfl rfl ?_
            refine q_bipush (pc := 93) (v := nI 116) dX12_readsCommand_93 (by decide) ?_
            refine q_icmp_ne (pc := 95) 139 dX12_readsCommand_95 (by decide) (fun c_95 => ?_) (fun c_95 => absurd (by decide) c_95)
            refine q_iload_n (pc := 139) dX12_readsCommand_139 rfl rfl ?_
            refine q_bipush (pc := 140) (v := nI 108) dX12_readsCommand_140 (by decide) ?_
            refine q_icmp_ne (pc := 142) 186 dX12_readsCommand_142 (by decide) (fun c_142 => ?_) (fun c_142 => absurd (by decide) c_142)
            refine q_iload_n (pc := 186) dX12_readsCommand_186 rfl rfl ?_
            refine q_bipush (pc := 187) (v := nI 102) dX12_readsCommand_187 (by decide) ?_
            refine q_icmp_ne (pc := 189) 211 dX12_readsCommand_189 (by decide) (fun c_189 => ?_) (fun c_189 => absurd (by decide) c_189)
            exact q_vret (st := []) (pc := 211) dX12_readsCommand_211 rfl ⟨rfl, rfl, rfl, rfl, rfl, T1x, fun _ => Cn_100 F1, fun j hj => by rw [F1, bq_r_ne (by omega), bq_r_ne (by omega)]⟩
          · rw [show pC B l p = ((p, true), (nI 0, nI 0, nI 0, nI 0)) from by unfold pC; rw [if_neg c_27, if_neg c_33, if_neg c_21, if_neg c_15, if_neg c_9]]
            refine q_iconst (pc := 36) (v := nI 1) dX12_readsCommand_36 (by decide) ?_
            refine q_goto (pc := 37) 41 dX12_readsCommand_37 (by decide) ?_
            refine q_putZ (pc := 41) dX12_readsCommand_41 (pX12_181 _) (Model_sh hm) ⟨by decide, rfl⟩ (by decide) (Model_lt hm) ?_
            refine q_aload_n (pc := 44) dX12_readsCommand_44 rfl rfl ?_
            refine q_getI (pc := 45) dX12_readsCommand_45 fX12_181 (Model_sh hm) ⟨by decide, rfl⟩ (Model_lt hm) ?_
            rw [bq_u_at]
            refine q_if_eq (pc := 48) 52 dX12_readsCommand_48 (by decide) (fun c_48 => absurd c_48 (by decide)) (fun c_48 => ?_)
            exact q_vret (st := []) (pc := 51) dX12_readsCommand_51 rfl ⟨rfl, rfl, rfl, rfl, rfl, MT.mk0 (w := true) hp hl hb hl60 hpl rfl, fun q => Bool.noConfusion q, fun j _ => by rw [bq_u_ne (by omega)]⟩
set_option maxHeartbeats 1680000 in
set_option maxRecDepth 20000 in
theorem c_does {S : BqH} {n : Nat} {I : BqI} {L : BqL} {P : BqP} {m ch : Nat} {h : Nat → BqG} {g : BqG} (hm : oModel S n P m) (hH : MH m I h ch) (hg : I (m + 1) = g) {en : Nat} (hG : GI g en) (hen : en < 2 ^ 29) (hq : I m 6 = nI 1) {t : Nat} (ht : t + 3 < 240) : bq_Sp mX12_does 7 148 0 0 [.ref m, .int (nI t)] S n I L P (qMo m I S n L P (mst 1 g h ch (I m 7) (wm g (I (m + 13) t) (I (m + 13) (t + 1)) (I (m + 13) (t + 2)) (I (m + 13) (t + 3))))) := by
  refine q_entry (vs := [some (.ref m), some (.int (nI t)), none, none, none]) (by decide +kernel) (by simp) (Nat.le_of_ble_eq_true rfl) rfl ?_
  refine q_aload_n (pc := 0) dX12_does_0 rfl rfl ?_
  refine q_getP (pc := 1) dX12_does_1 fX12_47 (Model_sh hm) ⟨by decide, rfl⟩ (Model_lt hm) (Model_p_told hm) ?_
  refine q_iload_n (pc := 4) dX12_does_4 rfl rfl ?_
  refine q_iconst (pc := 5) (v := nI 1) dX12_does_5 (by decide) ?_
  refine q_iaddN (pc := 6) dX12_does_6 ?_
  refine q_iald (pc := 7) dX12_does_7 (oA_sh (Model_s_told hm)) (oA_lt (Model_s_told hm)) rfl (by omega) ?_
  refine q_istore_n (pc := 8) dX12_does_8 rfl (Nat.le_of_ble_eq_true rfl) rfl ?_
  show bq_W _ _ _ _ _ 9 [_, _, _, _, _] _ _ _ _ _ _ _
  refine q_aload_n (pc := 9) dX12_does_9 rfl rfl ?_
  refine q_getP (pc := 10) dX12_does_10 fX12_47 (Model_sh hm) ⟨by decide, rfl⟩ (Model_lt hm) (Model_p_told hm) ?_
  refine q_iload_n (pc := 13) dX12_does_13 rfl rfl ?_
  refine q_iconst (pc := 14) (v := nI 2) dX12_does_14 (by decide) ?_
  refine q_iaddN (pc := 15) dX12_does_15 ?_
  refine q_iald (pc := 16) dX12_does_16 (oA_sh (Model_s_told hm)) (oA_lt (Model_s_told hm)) rfl (by omega) ?_
  refine q_istore_n (pc := 17) dX12_does_17 rfl (Nat.le_of_ble_eq_true rfl) rfl ?_
  show bq_W _ _ _ _ _ 18 [_, _, _, _, _] _ _ _ _ _ _ _
  refine q_aload_n (pc := 18) dX12_does_18 rfl rfl ?_
  refine q_getP (pc := 19) dX12_does_19 fX12_47 (Model_sh hm) ⟨by decide, rfl⟩ (Model_lt hm) (Model_p_told hm) ?_
  refine q_iload_n (pc := 22) dX12_does_22 rfl rfl ?_
  refine q_iconst (pc := 23) (v := nI 3) dX12_does_23 (by decide) ?_
  refine q_iaddN (pc := 24) dX12_does_24 ?_
  refine q_iald (pc := 25) dX12_does_25 (oA_sh (Model_s_told hm)) (oA_lt (Model_s_told hm)) rfl (by omega) ?_
  refine q_istore (pc := 26) dX12_does_26 (Nat.le_of_ble_eq_true rfl) rfl ?_
  show bq_W _ _ _ _ _ 28 [_, _, _, _, _] _ _ _ _ _ _ _
  refine q_aload_n (pc := 28) dX12_does_28 rfl rfl ?_
  refine q_getP (pc := 29) dX12_does_29 fX12_47 (Model_sh hm) ⟨by decide, rfl⟩ (Model_lt hm) (Model_p_told hm) ?_
  refine q_iload_n (pc := 32) dX12_does_32 rfl rfl ?_
  refine q_iald (pc := 33) dX12_does_33 (oA_sh (Model_s_told hm)) (oA_lt (Model_s_told hm)) rfl (by omega) ?_
  refine q_topI (fun y_34 e_34 => ?_)
  by_cases s34_99 : y_34 = nI 99
  · refine q_lookup (pc := 34) (off := 67) 101 dX12_does_34 rfl (by rw [s34_99]; decide) (by decide) ?_
    rw [show (wm g (I (m + 13) t) (I (m + 13) (t + 1)) (I (m + 13) (t + 2)) (I (m + 13) (t + 3))) = _ from by rw [← e_34, s34_99]; exact wm_99]
    refine q_aload_n (pc := 101) dX12_does_101 rfl rfl ?_
    refine q_iload_n (pc := 102) dX12_does_102 rfl rfl ?_
    refine q_callV (pc := 103) dX12_does_103 kX12_203 (o_clean hm hH hg hG hen hq (by decide)) (Model_sh hm) rfl (Model_lt hm) ⟨Nat.le_of_ble_eq_true rfl, Nat.le_of_ble_eq_true rfl⟩ rfl rfl (Nat.le_of_ble_eq_true rfl) ?_
    rintro _ S1 n1 I1 L1 P1 ⟨rfl, eS1, en1, eL1, eP1, Q⟩
    subst S1 n1 L1 P1
    show bq_W _ _ _ _ _ 106 _ [_] _ _ _ _ _ _
    exact q_iret (st := []) (pc := 106) dX12_does_106 rfl ⟨rfl, rfl, rfl, rfl, rfl, Q⟩
  by_cases s34_102 : y_34 = nI 102
  · refine q_lookup (pc := 34) (off := 60) 94 dX12_does_34 rfl (by rw [s34_102]; decide) (by decide) ?_
    rw [show (wm g (I (m + 13) t) (I (m + 13) (t + 1)) (I (m + 13) (t + 2)) (I (m + 13) (t + 3))) = _ from by rw [← e_34, s34_102]; exact wm_102]
    refine q_aload_n (pc := 94) dX12_does_94 rfl rfl ?_
    refine q_iload_n (pc := 95) dX12_does_95 rfl rfl ?_
    refine q_iload_n (pc := 96) dX12_does_96 rfl rfl ?_
    refine q_callV (pc := 97) dX12_does_97 kX12_200 (o_fill hm hH hg hG hen hq (by decide)) (Model_sh hm) rfl (Model_lt hm) ⟨Nat.le_of_ble_eq_true rfl, Nat.le_of_ble_eq_true rfl⟩ rfl rfl (Nat.le_of_ble_eq_true rfl) ?_
    rintro _ S1 n1 I1 L1 P1 ⟨rfl, eS1, en1, eL1, eP1, Q⟩
    subst S1 n1 L1 P1
    show bq_W _ _ _ _ _ 100 _ [_] _ _ _ _ _ _
    exact q_iret (st := []) (pc := 100) dX12_does_100 rfl ⟨rfl, rfl, rfl, rfl, rfl, Q⟩
  by_cases s34_108 : y_34 = nI 108
  · refine q_lookup (pc := 34) (off := 51) 85 dX12_does_34 rfl (by rw [s34_108]; decide) (by decide) ?_
    rw [show (wm g (I (m + 13) t) (I (m + 13) (t + 1)) (I (m + 13) (t + 2)) (I (m + 13) (t + 3))) = _ from by rw [← e_34, s34_108]; exact wm_108]
    refine q_aload_n (pc := 85) dX12_does_85 rfl rfl ?_
    refine q_iload_n (pc := 86) dX12_does_86 rfl rfl ?_
    refine q_iload_n (pc := 87) dX12_does_87 rfl rfl ?_
    refine q_iload (pc := 88) dX12_does_88 rfl ?_
    refine q_callV (pc := 90) dX12_does_90 kX12_197 (o_lose hm hH hg hG hen hq (by decide)) (Model_sh hm) rfl (Model_lt hm) ⟨Nat.le_of_ble_eq_true rfl, Nat.le_of_ble_eq_true rfl⟩ rfl rfl (Nat.le_of_ble_eq_true rfl) ?_
    rintro _ S1 n1 I1 L1 P1 ⟨rfl, eS1, en1, eL1, eP1, Q⟩
    subst S1 n1 L1 P1
    show bq_W _ _ _ _ _ 93 _ [_] _ _ _ _ _ _
    exact q_iret (st := []) (pc := 93) dX12_does_93 rfl ⟨rfl, rfl, rfl, rfl, rfl, Q⟩
  by_cases s34_116 : y_34 = nI 116
  · refine q_lookup (pc := 34) (off := 42) 76 dX12_does_34 rfl (by rw [s34_116]; decide) (by decide) ?_
    rw [show (wm g (I (m + 13) t) (I (m + 13) (t + 1)) (I (m + 13) (t + 2)) (I (m + 13) (t + 3))) = _ from by rw [← e_34, s34_116]; exact wm_116]
    refine q_aload_n (pc := 76) dX12_does_76 rfl rfl ?_
    refine q_iload_n (pc := 77) dX12_does_77 rfl rfl ?_
    refine q_iload_n (pc := 78) dX12_does_78 rfl rfl ?_
    refine q_iload (pc := 79) dX12_does_79 rfl ?_
    refine q_callV (pc := 81) dX12_does_81 kX12_194 (o_transfer hm hH hg hG hen hq (by decide)) (Model_sh hm) rfl (Model_lt hm) ⟨Nat.le_of_ble_eq_true rfl, Nat.le_of_ble_eq_true rfl⟩ rfl rfl (Nat.le_of_ble_eq_true rfl) ?_
    rintro _ S1 n1 I1 L1 P1 ⟨rfl, eS1, en1, eL1, eP1, Q⟩
    subst S1 n1 L1 P1
    show bq_W _ _ _ _ _ 84 _ [_] _ _ _ _ _ _
    exact q_iret (st := []) (pc := 84) dX12_does_84 rfl ⟨rfl, rfl, rfl, rfl, rfl, Q⟩
  refine q_lookup (pc := 34) (off := 73) 107 dX12_does_34 rfl (by show Op.lookupswitch.offset [(99, 67), (102, 60), (108, 51), (116, 42)] 73 _ = _; rw [lv_osw s34_99 (by decide), lv_osw s34_102 (by decide), lv_osw s34_108 (by decide), lv_osw s34_116 (by decide)]; rfl) (by decide) ?_
  rw [show (wm g (I (m + 13) t) (I (m + 13) (t + 1)) (I (m + 13) (t + 2)) (I (m + 13) (t + 3))) = w_pass g (I (m + 13) (t + 1)) from by unfold wm; rw [← e_34, if_neg s34_116, if_neg s34_108, if_neg s34_102, if_neg s34_99]]
  refine q_aload_n (pc := 107) dX12_does_107 rfl rfl ?_
  refine q_iload_n (pc := 108) dX12_does_108 rfl rfl ?_
  refine q_callV (pc := 109) dX12_does_109 kX12_206 (o_pass hm hH hg hG hen hq (by decide)) (Model_sh hm) rfl (Model_lt hm) ⟨Nat.le_of_ble_eq_true rfl, Nat.le_of_ble_eq_true rfl⟩ rfl rfl (Nat.le_of_ble_eq_true rfl) ?_
  rintro _ S1 n1 I1 L1 P1 ⟨rfl, eS1, en1, eL1, eP1, Q⟩
  subst S1 n1 L1 P1
  show bq_W _ _ _ _ _ 112 _ [_] _ _ _ _ _ _
  exact q_iret (st := []) (pc := 112) dX12_does_112 rfl ⟨rfl, rfl, rfl, rfl, rfl, Q⟩
/-! the model's run -/
theorem cp_at {I : BqI} {d a j : Nat} (hj : j < 650) : fl I d (fun k => 0 + k) (fun k => I a (0 + k)) 650 d j = I a j := by
  have e := fl_at (I := I) (d := d) (ix := fun k => 0 + k) (v := fun k => I a (0 + k)) (j := j) 650 (fun a b _ _ h => by first | omega | (dsimp only at h; omega)) hj
  have e2 : fl I d (fun k => 0 + k) (fun k => I a (0 + k)) 650 d (0 + j) = I a (0 + j) := e
  rw [Nat.zero_add] at e2
  exact e2
theorem remH_c {m ch : Nat} {I : BqI} {a g : BqG} {h : Nat → BqG} (e : ∀ k, k < 650 → a k = g k) (hH : MH m I (remH 0 a h ch).1 (remH 0 a h ch).2) : MH m I (remH 0 g h ch).1 (remH 0 g h ch).2 := by
  unfold remH at hH ⊢
  rw [if_neg (show ¬ 0 = 1 by decide)] at hH ⊢
  by_cases c : ch < 6
  · rw [if_pos c] at hH ⊢
    refine ⟨hH.1, hH.2.1, fun i hi k hk => (hH.2.2 i hi k hk).trans ?_⟩
    show bq_r h ch a i k = bq_r h ch g i k
    by_cases q : i = ch
    · subst q; rw [bq_r_self, bq_r_self]; exact e k hk
    · rw [bq_r_ne q, bq_r_ne q]
  · rw [if_neg c] at hH ⊢
    refine ⟨hH.1, hH.2.1, fun i hi k hk => (hH.2.2 i hi k hk).trans ?_⟩
    show (if i = 5 then a else h (i + 1)) k = (if i = 5 then g else h (i + 1)) k
    by_cases q : i = 5
    · rw [if_pos q, if_pos q]; exact e k hk
    · rw [if_neg q, if_neg q]
def qMr (m : Nat) (I : BqI) (S : BqH) (n : Nat) (L : BqL) (P : BqP) (w : BqR) : BqQ := fun r S' n' I' L' P' => r = some (.int w.1) ∧ S' = S ∧ n' = n ∧ L' = L ∧ P' = P ∧ (∀ k, k < 650 → I' (m + 1) k = w.2.1 k) ∧ MH m I' w.2.2.1 w.2.2.2.1 ∧ I' m 7 = w.2.2.2.2 ∧ I' m 9 = nI 0 ∧ I' (m + 5) = I (m + 5) ∧ I' (m + 3) = I (m + 3) ∧ I' m 4 = I m 4 ∧ I' m 6 = nI 0 ∧ ∀ a, a < m ∨ m + 14 ≤ a → I' a = I a
/-- what the reading leaves: rows, changes, reason, kept -/
def Rd (m : Nat) (I J : BqI) : Prop := (∀ a, a ≠ m → a ≠ m + 13 → J a = I a) ∧ ∀ k, k ≠ 9 → k ≠ 18 → k ≠ 19 → J m k = I m k
theorem MT.rd {m l : Nat} {I J0 J : BqI} {B : Nat → Int32} {s : BqT} {v : Int32} (T : MT m J0 J B l s) (e : J0 = bq_u I m 18 v) : Rd m I J := by
  subst e
  refine ⟨fun a q1 q2 => (T.2.2.2.2.2.2.1 a q1 q2).trans (bq_u_ne q1), fun k q0 q1 q2 => (T.2.2.2.2.2.2.2 k q1 q2).trans (bq_u_no (fun z => q1 z.2))⟩
theorem Rd.u {m k : Nat} {I J : BqI} {v : Int32} (h : Rd m I J) (hk : k = 9 ∨ k = 18 ∨ k = 19) : Rd m I (bq_u J m k v) :=
  ⟨fun a q1 q2 => (bq_u_ne q1).trans (h.1 a q1 q2), fun j q0 q1 q2 => (bq_u_no (by omega)).trans (h.2 j q0 q1 q2)⟩
theorem qMr.bad {m ch : Nat} {I J : BqI} {S : BqH} {n : Nat} {L : BqL} {P : BqP} {g : BqG} {h : Nat → BqG} {v x : Int32} {w : BqR} (hR : Rd m I J) (hg : I (m + 1) = g) (hH : MH m I h ch) (hq : I m 6 = nI 0) (hv : v = x) (hw : w = (x, g, h, ch, I m 7)) (h9 : J m 9 = nI 0) : qMr m I S n L P w (some (.int v)) S n J L P := by
  subst hw hv
  refine ⟨rfl, rfl, rfl, rfl, rfl, fun k _ => ?_, ⟨(hR.2 2 (by decide) (by decide) (by decide)).trans hH.1, hH.2.1, fun i hi k hk => ?_⟩, hR.2 7 (by decide) (by decide) (by decide), h9, hR.1 _ (by omega) (by omega), hR.1 _ (by omega) (by omega), hR.2 4 (by decide) (by decide) (by decide), (hR.2 6 (by decide) (by decide) (by decide)).trans hq, fun a ha => hR.1 a (by omega) (by omega)⟩
  · rw [hR.1 _ (by omega) (by omega), hg]
  · rw [hR.1 _ (by omega) (by omega)]; exact hH.2.2 i hi k hk
/-- ready for the commands: quiet, the row put before -/
def Qu (m : Nat) (I K : BqI) : Prop := K m 6 = nI 1 ∧ K (m + 1) = I (m + 1) ∧ (∀ k, k < 650 → K (m + 4) k = I (m + 1) k) ∧ K m 9 = nI 0 ∧ (∀ a, a ≠ m → a ≠ m + 4 → a ≠ m + 13 → K a = I a) ∧ ∀ k, k ≠ 6 → k ≠ 9 → k ≠ 18 → k ≠ 19 → K m k = I m k
theorem Qu.mk {m : Nat} {I J : BqI} (hR : Rd m I J) (h9 : J m 9 = nI 0) : Qu m I (bq_u (fl J (m + 4) (fun k => 0 + k) (fun k => J (m + 1) (0 + k)) 650) m 6 (nI 1)) ∧ (bq_u (fl J (m + 4) (fun k => 0 + k) (fun k => J (m + 1) (0 + k)) 650) m 6 (nI 1)) (m + 13) = J (m + 13) := by
  refine ⟨⟨bq_u_at _ _ _ _, ?_, fun k hk => ?_, ?_, fun a q1 q2 q3 => ?_, fun k q1 q2 q3 q4 => ?_⟩, ?_⟩
  · rw [bq_u_ne (by omega), fl_ne (by omega)]; exact hR.1 _ (by omega) (by omega)
  · rw [bq_u_ne (by omega), cp_at hk, hR.1 _ (by omega) (by omega)]
  · rw [bq_u_no (by omega), fl_ne (by omega)]; exact h9
  · rw [bq_u_ne q1, fl_ne q2]; exact hR.1 a q1 q3
  · rw [bq_u_no (fun z => q1 z.2), fl_ne (by omega)]; exact hR.2 k q2 q3 q4
  · rw [bq_u_ne (by omega), fl_ne (by omega)]
theorem Qu.st {m ch : Nat} {I K : BqI} {g : BqG} {h : Nat → BqG} (hQ : Qu m I K) (hg : I (m + 1) = g) (hH : MH m I h ch) : MSt m K K g h ch (I m 7) := by
  obtain ⟨q1, q2, q3, q4, q5, q6⟩ := hQ
  refine ⟨q2.trans hg, ⟨(q6 2 (by decide) (by decide) (by decide) (by decide)).trans hH.1, hH.2.1, fun i hi k hk => ?_⟩, q6 7 (by decide) (by decide) (by decide) (by decide), fun _ _ => rfl, fun _ _ _ _ => rfl⟩
  rw [q5 _ (by omega) (by omega) (by omega)]; exact hH.2.2 i hi k hk
theorem mst1_neg {ch : Nat} {g : BqG} {h : Nat → BqG} {y : Int32} {w : Int32 × BqG} (hv : w.1 < 0) : mst 1 g h ch y w = ((-3), w.2, h, ch, -w.1) := if_pos hv
theorem mst1_pos {ch : Nat} {g : BqG} {h : Nat → BqG} {y : Int32} {w : Int32 × BqG} (hv : ¬ w.1 < 0) : mst 1 g h ch y w = (w.1, w.2, h, ch, y) := if_neg hv
theorem mst1_3 {ch : Nat} {g : BqG} {h : Nat → BqG} {y : Int32} {w : Int32 × BqG} : (mst 1 g h ch y w).1 = (-3) ↔ w.1 < 0 := by
  by_cases c : w.1 < 0
  · rw [mst1_neg c]; exact ⟨fun _ => c, fun _ => rfl⟩
  · rw [mst1_pos c]
    refine ⟨fun e => absurd ?_ c, fun e => absurd e c⟩
    have e' : w.1 = (-3) := e
    rw [e']; decide
/-- the run is refused at a command -/
theorem qMr.ref {m ch : Nat} {I K J : BqI} {S : BqH} {n : Nat} {L : BqL} {P : BqP} {g G : BqG} {h : Nat → BqG} {u v x : Int32} {w : BqR} (hQ : Qu m I K) (hT : MSt m K J G h ch u) (hg : I (m + 1) = g) (hv : v = x) (hw : w = (x, g, h, ch, u)) : qMr m I S n L P w (some (.int v)) S n (fl (bq_u J m 6 (nI 0)) (m + 1) (fun k => 0 + k) (fun k => bq_u J m 6 (nI 0) (m + 4) (0 + k)) 650) L P := by
  subst hw hv
  obtain ⟨q1, q2, q3, q4, q5, q6⟩ := hQ
  obtain ⟨t1, t2, t3, t4, t5⟩ := hT
  have f : ∀ a, a ≠ m → a ≠ m + 1 → fl (bq_u J m 6 (nI 0)) (m + 1) (fun k => 0 + k) (fun k => bq_u J m 6 (nI 0) (m + 4) (0 + k)) 650 a = J a := fun a z1 z2 => by rw [fl_ne z2, bq_u_ne z1]
  have f0 : ∀ k, k ≠ 6 → fl (bq_u J m 6 (nI 0)) (m + 1) (fun k => 0 + k) (fun k => bq_u J m 6 (nI 0) (m + 4) (0 + k)) 650 m k = J m k := fun k z1 => by rw [fl_ne (by omega), bq_u_no (fun z => z1 z.2)]
  refine ⟨rfl, rfl, rfl, rfl, rfl, fun k hk => ?_, ⟨(f0 2 (by decide)).trans t2.1, t2.2.1, fun i hi k hk => ?_⟩, (f0 7 (by decide)).trans t3, ?_, ?_, ?_, ?_, ?_, fun a ha => ?_⟩
  · rw [cp_at hk, bq_u_ne (by omega), t4 (m + 4) (by omega), q3 k hk, hg]
  · rw [f _ (by omega) (by omega)]; exact t2.2.2 i hi k hk
  · rw [f0 9 (by decide), t5 9 (by decide) (by decide) (by decide)]; exact q4
  · rw [f _ (by omega) (by omega), t4 (m + 5) (by omega)]; exact q5 _ (by omega) (by omega) (by omega)
  · rw [f _ (by omega) (by omega), t4 (m + 3) (by omega)]; exact q5 _ (by omega) (by omega) (by omega)
  · rw [f0 4 (by decide), t5 4 (by decide) (by decide) (by decide)]; exact q6 4 (by decide) (by decide) (by decide) (by decide)
  · rw [fl_ne (by omega), bq_u_at]
  · rw [f a (by omega) (by omega), t4 a (by omega)]; exact q5 a (by omega) (by omega) (by omega)
/-- the run is done -/
theorem qMr.ok {m ch : Nat} {I K J J' : BqI} {S : BqH} {n : Nat} {L : BqL} {P : BqP} {g G : BqG} {h : Nat → BqG} {v : Int32} {w : BqR} (hQ : Qu m I K) (hT : MSt m K J G h ch (I m 7)) (hg : I (m + 1) = g) (hw : w = (v, G, (remH 0 g h ch).1, (remH 0 g h ch).2, I m 7)) (hM : MH m J' (remH 0 (bq_u J m 6 (nI 0) (m + 4)) h ch).1 (remH 0 (bq_u J m 6 (nI 0) (m + 4)) h ch).2) (f1 : ∀ b, b ≠ m → b ≠ m + 2 → J' b = bq_u J m 6 (nI 0) b) (f2 : ∀ k, k ≠ 2 → J' m k = bq_u J m 6 (nI 0) m k) : qMr m I S n L P w (some (.int v)) S n J' L P := by
  subst hw
  obtain ⟨q1, q2, q3, q4, q5, q6⟩ := hQ
  obtain ⟨t1, t2, t3, t4, t5⟩ := hT
  have f : ∀ a, a ≠ m → a ≠ m + 2 → J' a = J a := fun a z1 z2 => by rw [f1 a z1 z2, bq_u_ne z1]
  have f0 : ∀ k, k ≠ 2 → k ≠ 6 → J' m k = J m k := fun k z1 z2 => by rw [f2 k z1, bq_u_no (fun z => z2 z.2)]
  refine ⟨rfl, rfl, rfl, rfl, rfl, fun k hk => ?_, remH_c (fun k hk => ?_) hM, (f0 7 (by decide) (by decide)).trans t3, ?_, ?_, ?_, ?_, ?_, fun a ha => ?_⟩
  · rw [f _ (by omega) (by omega), t1]
  · rw [bq_u_ne (by omega), t4 (m + 4) (by omega), q3 k hk, hg]
  · rw [f0 9 (by decide) (by decide), t5 9 (by decide) (by decide) (by decide)]; exact q4
  · rw [f _ (by omega) (by omega), t4 (m + 5) (by omega)]; exact q5 _ (by omega) (by omega) (by omega)
  · rw [f _ (by omega) (by omega), t4 (m + 3) (by omega)]; exact q5 _ (by omega) (by omega) (by omega)
  · rw [f0 4 (by decide) (by decide), t5 4 (by decide) (by decide) (by decide)]; exact q6 4 (by decide) (by decide) (by decide) (by decide)
  · rw [f2 6 (by decide), bq_u_at]
  · rw [f a (by omega) (by omega), t4 a (by omega)]; exact q5 a (by omega) (by omega) (by omega)
theorem MT.un {m l : Nat} {J0 J J3 : BqI} {B : Nat → Int32} {s s' : BqT} {v : Int32} (T : MT m (bq_u J m 18 v) J3 B l s) (hT : MT m J0 J B l s') : MT m J0 J3 B l s := by
  obtain ⟨a1, a2, a3, a4, a5, a6, a7, a8⟩ := T
  refine ⟨a1, a2, a3, a4, a5, a6, fun a q1 q2 => ?_, fun k q1 q2 => ?_⟩
  · rw [a7 a q1 q2, bq_u_ne q1]; exact hT.2.2.2.2.2.2.1 a q1 q2
  · rw [a8 k q1 q2, bq_u_no (fun z => q1 z.2)]; exact hT.2.2.2.2.2.2.2 k q1 q2
theorem MH.q6 {m ch : Nat} {J : BqI} {h : Nat → BqG} {v : Int32} (hH : MH m J h ch) : MH m (bq_u J m 6 v) h ch :=
  ⟨(bq_u_no (by omega)).trans hH.1, hH.2.1, fun i hi k hk => by rw [bq_u_ne (by omega)]; exact hH.2.2 i hi k hk⟩
theorem MSt.tr {m ch ch' : Nat} {K J I' : BqI} {G G' : BqG} {h h' : Nat → BqG} {y y' : Int32} (T : MSt m K J G h ch y) (T' : MSt m J I' G' h' ch' y') : MSt m K I' G' h' ch' y' :=
  ⟨T'.1, T'.2.1, T'.2.2.1, fun a ha => (T'.2.2.2.1 a ha).trans (T.2.2.2.1 a ha), fun k h2 h7 h17 => (T'.2.2.2.2 k h2 h7 h17).trans (T.2.2.2.2 k h2 h7 h17)⟩
set_option maxHeartbeats 6800000 in
set_option maxRecDepth 20000 in
theorem o_run {S : BqH} {n : Nat} {I : BqI} {L : BqL} {P : BqP} {m ch : Nat} {h : Nat → BqG} {g : BqG} (hm : oModel S n P m) (hH : MH m I h ch) (hg : I (m + 1) = g) {en : Nat} (hK : GK g en) (hen : en + 60 < 200000) (hq : I m 6 = nI 0) {l : Nat} (h9 : I m 9 = nI l) (hl60 : l ≤ 60) : bq_Sp mX12_run 8 172 0 0 [.ref m] S n I L P (qMr m I S n L P (p_run g h ch (I m 7) (pR (I (m + 5)) l 21 0 0 (fun _ => (nI 0, nI 0, nI 0, nI 0))))) := by
  refine q_entry (vs := [some (.ref m), none, none, none]) (by decide +kernel) (by simp) (Nat.le_of_ble_eq_true rfl) rfl ?_
  have hn := pR_n (B := I (m + 5)) (l := l) 21 0 0 (fun _ => (nI 0, nI 0, nI 0, nI 0)) (Nat.le_refl _) (Nat.zero_le _)
  generalize er : (pR (I (m + 5)) l 21 0 0 (fun _ => (nI 0, nI 0, nI 0, nI 0))) = r at hn ⊢
  refine q_aload_n (pc := 0) dX12_run_0 rfl rfl ?_
  refine q_iconst (pc := 1) (v := nI 0) dX12_run_1 (by decide) ?_
  refine q_putI (pc := 2) dX12_run_2 (pX12_178 _) (Model_sh hm) ⟨by decide, rfl⟩ (Model_lt hm) ?_
  refine q_nameI (fun J0 e0 => ?_)
  have p0 : J0 m 18 = nI 0 := by rw [e0, bq_u_at]
  have l0 : J0 m 9 = nI l := by rw [e0, bq_u_no (by omega)]; exact h9
  have b0 : J0 (m + 5) = I (m + 5) := by rw [e0, bq_u_ne (by omega)]
  have exW : ∀ (J : BqI) (q N : Nat), MT m J0 J (I (m + 5)) l (q, true) → ¬ r.1 = true → r.2.1 = q → bq_W mX12_run 8 172 0 0 51 [some (.ref m), some (.int (nI N)), none, none] [] S n J L P (qMr m I S n L P (p_run g h ch (I m 7) r)) := by
    intro J q N hT hr hp
    have hw : J m 19 = nI 1 := hT.2.1
    have hR := hT.rd e0
    have hq18 : J m 18 = nI q := hT.1
    have hl9 : J m 9 = nI l := hT.2.2.1
    refine q_aload_n (pc := 51) dX12_run_51 rfl rfl ?_
    refine q_dup (pc := 52) dX12_run_52 rfl ?_
    refine q_getI (pc := 53) dX12_run_53 fX12_181 (Model_sh hm) ⟨by decide, rfl⟩ (Model_lt hm) ?_
    rw [hw]
    refine q_aload_n (pc := 56) dX12_run_56 rfl rfl ?_
    refine q_getI (pc := 57) dX12_run_57 fX12_178 (Model_sh hm) ⟨by decide, rfl⟩ (Model_lt hm) ?_
    rw [hq18]
    refine q_aload_n (pc := 60) dX12_run_60 rfl rfl ?_
    refine q_getI (pc := 61) dX12_run_61 fX12_175 (Model_sh hm) ⟨by decide, rfl⟩ (Model_lt hm) ?_
    rw [hl9]
    refine q_icmp_ge (pc := 64) 71 dX12_run_64 (by decide) (fun c_64 => ?_) (fun c_64 => ?_)
    · refine q_iconst (pc := 71) (v := nI 0) dX12_run_71 (by decide) ?_
      refine q_ior (pc := 72) dX12_run_72 ?_
      refine q_putZ (pc := 73) dX12_run_73 (pX12_181 _) (Model_sh hm) ⟨by decide, rfl⟩ (by decide) (Model_lt hm) ?_
      refine q_aload_n (pc := 76) dX12_run_76 rfl rfl ?_
      refine q_iconst (pc := 77) (v := nI 0) dX12_run_77 (by decide) ?_
      refine q_putI (pc := 78) dX12_run_78 (pX12_175 _) (Model_sh hm) ⟨by decide, rfl⟩ (Model_lt hm) ?_
      refine q_aload_n (pc := 81) dX12_run_81 rfl rfl ?_
      refine q_getI (pc := 82) dX12_run_82 fX12_181 (Model_sh hm) ⟨by decide, rfl⟩ (Model_lt hm) ?_
      rw [bq_u_no (by omega), bq_u_at]
      refine q_if_eq (pc := 85) 96 dX12_run_85 (by decide) (fun c_85 => absurd c_85 (by decide)) (fun c_85 => ?_)
      refine q_bipush (pc := 88) (v := (-100)) dX12_run_88 (by decide) ?_
      refine q_aload_n (pc := 90) dX12_run_90 rfl rfl ?_
      refine q_getI (pc := 91) dX12_run_91 fX12_178 (Model_sh hm) ⟨by decide, rfl⟩ (Model_lt hm) ?_
      rw [bq_u_no (by omega), bq_u_no (by omega), hq18]
      refine q_isub (pc := 94) dX12_run_94 ?_
      exact q_iret (st := []) (pc := 95) dX12_run_95 rfl (qMr.bad ((hR.u (Or.inr (Or.inr rfl))).u (Or.inl rfl)) hg hH hq (by rw [← hp]) (p_run_w hr) (bq_u_at _ _ _ _))
    · refine q_iconst (pc := 67) (v := nI 1) dX12_run_67 (by decide) ?_
      refine q_goto (pc := 68) 72 dX12_run_68 (by decide) ?_
      refine q_ior (pc := 72) dX12_run_72 ?_
      refine q_putZ (pc := 73) dX12_run_73 (pX12_181 _) (Model_sh hm) ⟨by decide, rfl⟩ (by decide) (Model_lt hm) ?_
      refine q_aload_n (pc := 76) dX12_run_76 rfl rfl ?_
      refine q_iconst (pc := 77) (v := nI 0) dX12_run_77 (by decide) ?_
      refine q_putI (pc := 78) dX12_run_78 (pX12_175 _) (Model_sh hm) ⟨by decide, rfl⟩ (Model_lt hm) ?_
      refine q_aload_n (pc := 81) dX12_run_81 rfl rfl ?_
      refine q_getI (pc := 82) dX12_run_82 fX12_181 (Model_sh hm) ⟨by decide, rfl⟩ (Model_lt hm) ?_
      rw [bq_u_no (by omega), bq_u_at]
      refine q_if_eq (pc := 85) 96 dX12_run_85 (by decide) (fun c_85 => absurd c_85 (by decide)) (fun c_85 => ?_)
      refine q_bipush (pc := 88) (v := (-100)) dX12_run_88 (by decide) ?_
      refine q_aload_n (pc := 90) dX12_run_90 rfl rfl ?_
      refine q_getI (pc := 91) dX12_run_91 fX12_178 (Model_sh hm) ⟨by decide, rfl⟩ (Model_lt hm) ?_
      rw [bq_u_no (by omega), bq_u_no (by omega), hq18]
      refine q_isub (pc := 94) dX12_run_94 ?_
      exact q_iret (st := []) (pc := 95) dX12_run_95 rfl (qMr.bad ((hR.u (Or.inr (Or.inr rfl))).u (Or.inl rfl)) hg hH hq (by rw [← hp]) (p_run_w hr) (bq_u_at _ _ _ _))
  have exF : ∀ (J : BqI) (q N : Nat), MT m J0 J (I (m + 5)) l (q, false) → q < l → ¬ r.1 = true → r.2.1 = q → bq_W mX12_run 8 172 0 0 51 [some (.ref m), some (.int (nI N)), none, none] [] S n J L P (qMr m I S n L P (p_run g h ch (I m 7) r)) := by
    intro J q N hT hlt hr hp
    have hw : J m 19 = nI 0 := hT.2.1
    have hR := hT.rd e0
    have hq18 : J m 18 = nI q := hT.1
    have hl9 : J m 9 = nI l := hT.2.2.1
    refine q_aload_n (pc := 51) dX12_run_51 rfl rfl ?_
    refine q_dup (pc := 52) dX12_run_52 rfl ?_
    refine q_getI (pc := 53) dX12_run_53 fX12_181 (Model_sh hm) ⟨by decide, rfl⟩ (Model_lt hm) ?_
    rw [hw]
    refine q_aload_n (pc := 56) dX12_run_56 rfl rfl ?_
    refine q_getI (pc := 57) dX12_run_57 fX12_178 (Model_sh hm) ⟨by decide, rfl⟩ (Model_lt hm) ?_
    rw [hq18]
    refine q_aload_n (pc := 60) dX12_run_60 rfl rfl ?_
    refine q_getI (pc := 61) dX12_run_61 fX12_175 (Model_sh hm) ⟨by decide, rfl⟩ (Model_lt hm) ?_
    rw [hl9]
    refine q_icmp_ge (pc := 64) 71 dX12_run_64 (by decide) (fun c_64 => absurd c_64 (nI_ge hlt (by omega))) (fun c_64 => ?_)
    refine q_iconst (pc := 67) (v := nI 1) dX12_run_67 (by decide) ?_
    refine q_goto (pc := 68) 72 dX12_run_68 (by decide) ?_
    refine q_ior (pc := 72) dX12_run_72 ?_
    refine q_putZ (pc := 73) dX12_run_73 (pX12_181 _) (Model_sh hm) ⟨by decide, rfl⟩ (by decide) (Model_lt hm) ?_
    refine q_aload_n (pc := 76) dX12_run_76 rfl rfl ?_
    refine q_iconst (pc := 77) (v := nI 0) dX12_run_77 (by decide) ?_
    refine q_putI (pc := 78) dX12_run_78 (pX12_175 _) (Model_sh hm) ⟨by decide, rfl⟩ (Model_lt hm) ?_
    refine q_aload_n (pc := 81) dX12_run_81 rfl rfl ?_
    refine q_getI (pc := 82) dX12_run_82 fX12_181 (Model_sh hm) ⟨by decide, rfl⟩ (Model_lt hm) ?_
    rw [bq_u_no (by omega), bq_u_at]
    refine q_if_eq (pc := 85) 96 dX12_run_85 (by decide) (fun c_85 => absurd c_85 (by decide)) (fun c_85 => ?_)
    refine q_bipush (pc := 88) (v := (-100)) dX12_run_88 (by decide) ?_
    refine q_aload_n (pc := 90) dX12_run_90 rfl rfl ?_
    refine q_getI (pc := 91) dX12_run_91 fX12_178 (Model_sh hm) ⟨by decide, rfl⟩ (Model_lt hm) ?_
    rw [bq_u_no (by omega), bq_u_no (by omega), hq18]
    refine q_isub (pc := 94) dX12_run_94 ?_
    exact q_iret (st := []) (pc := 95) dX12_run_95 rfl (qMr.bad ((hR.u (Or.inr (Or.inr rfl))).u (Or.inl rfl)) hg hH hq (by rw [← hp]) (p_run_w hr) (bq_u_at _ _ _ _))
  have exO : ∀ (J : BqI) (q : Nat), MT m J0 J (I (m + 5)) l (q, false) → ¬ q < l → r.1 = true → (∀ j, j < r.2.2.1 → Cn (J (m + 13)) (4 * j) (r.2.2.2 j)) → bq_W mX12_run 8 172 0 0 51 [some (.ref m), some (.int (nI r.2.2.1)), none, none] [] S n J L P (qMr m I S n L P (p_run g h ch (I m 7) r)) := by
    intro J q hT hge hr hC
    have hn3 := hn hr
    have hw : J m 19 = nI 0 := hT.2.1
    have hR := hT.rd e0
    have hq18 : J m 18 = nI q := hT.1
    have hl9 : J m 9 = nI l := hT.2.2.1
    refine q_aload_n (pc := 51) dX12_run_51 rfl rfl ?_
    refine q_dup (pc := 52) dX12_run_52 rfl ?_
    refine q_getI (pc := 53) dX12_run_53 fX12_181 (Model_sh hm) ⟨by decide, rfl⟩ (Model_lt hm) ?_
    rw [hw]
    refine q_aload_n (pc := 56) dX12_run_56 rfl rfl ?_
    refine q_getI (pc := 57) dX12_run_57 fX12_178 (Model_sh hm) ⟨by decide, rfl⟩ (Model_lt hm) ?_
    rw [hq18]
    refine q_aload_n (pc := 60) dX12_run_60 rfl rfl ?_
    refine q_getI (pc := 61) dX12_run_61 fX12_175 (Model_sh hm) ⟨by decide, rfl⟩ (Model_lt hm) ?_
    rw [hl9]
    refine q_icmp_ge (pc := 64) 71 dX12_run_64 (by decide) (fun c_64 => ?_) (fun c_64 => absurd (nI_le (Nat.not_lt.mp hge) (by omega)) c_64)
    refine q_iconst (pc := 71) (v := nI 0) dX12_run_71 (by decide) ?_
    refine q_ior (pc := 72) dX12_run_72 ?_
    refine q_putZ (pc := 73) dX12_run_73 (pX12_181 _) (Model_sh hm) ⟨by decide, rfl⟩ (by decide) (Model_lt hm) ?_
    refine q_aload_n (pc := 76) dX12_run_76 rfl rfl ?_
    refine q_iconst (pc := 77) (v := nI 0) dX12_run_77 (by decide) ?_
    refine q_putI (pc := 78) dX12_run_78 (pX12_175 _) (Model_sh hm) ⟨by decide, rfl⟩ (Model_lt hm) ?_
    refine q_aload_n (pc := 81) dX12_run_81 rfl rfl ?_
    refine q_getI (pc := 82) dX12_run_82 fX12_181 (Model_sh hm) ⟨by decide, rfl⟩ (Model_lt hm) ?_
    rw [bq_u_no (by omega), bq_u_at]
    refine q_if_eq (pc := 85) 96 dX12_run_85 (by decide) (fun c_85 => ?_) (fun c_85 => absurd (by decide) c_85)
    refine q_aload_n (pc := 96) dX12_run_96 rfl rfl ?_
    refine q_getP (pc := 97) dX12_run_97 fX12_9 (Model_sh hm) ⟨by decide, rfl⟩ (Model_lt hm) (Model_p_g hm) ?_
    refine q_iconst (pc := 100) (v := nI 0) dX12_run_100 (by decide) ?_
    refine q_aload_n (pc := 101) dX12_run_101 rfl rfl ?_
    refine q_getP (pc := 102) dX12_run_102 fX12_19 (Model_sh hm) ⟨by decide, rfl⟩ (Model_lt hm) (Model_p_before hm) ?_
    refine q_iconst (pc := 105) (v := nI 0) dX12_run_105 (by decide) ?_
    refine q_callSF (pc := 106) dX12_run_106 kX12_57 (c_X12_copy (Model_s_g hm) (Model_s_before hm) (x := 0) (y := 0) (by omega) (by omega) (by omega)) ⟨Nat.le_of_ble_eq_true rfl, Nat.le_of_ble_eq_true rfl⟩ rfl rfl (Nat.le_of_ble_eq_true rfl) ?_
    show bq_W _ _ _ _ _ 109 _ [] _ _ _ _ _ _
    refine q_aload_n (pc := 109) dX12_run_109 rfl rfl ?_
    refine q_iconst (pc := 110) (v := nI 1) dX12_run_110 (by decide) ?_
    refine q_putZ (pc := 111) dX12_run_111 (pX12_61 _) (Model_sh hm) ⟨by decide, rfl⟩ (by decide) (Model_lt hm) ?_
    refine q_iconst (pc := 114) (v := (-1)) dX12_run_114 (by decide) ?_
    refine q_istore_n (pc := 115) dX12_run_115 rfl (Nat.le_of_ble_eq_true rfl) rfl ?_
    show bq_W _ _ _ _ _ 116 [_, _, _, _] _ _ _ _ _ _ _
    refine q_iconst (pc := 116) (v := nI 0) dX12_run_116 (by decide) ?_
    refine q_istore_n (pc := 117) dX12_run_117 rfl (Nat.le_of_ble_eq_true rfl) rfl ?_
    show bq_W _ _ _ _ _ 118 [_, _, _, _] _ _ _ _ _ _ _
    refine q_nameI (fun K eK => ?_)
    have hQu : Qu m I K ∧ K (m + 13) = J (m + 13) := by
      rw [eK]
      have hz := Qu.mk (J := bq_u (bq_u J m 19 (nI 0 ||| nI 0)) m 9 (nI 0)) ((hR.u (Or.inr (Or.inr rfl))).u (Or.inl rfl)) (bq_u_at _ _ _ _)
      exact ⟨hz.1, hz.2.trans ((bq_u_ne (by omega)).trans (bq_u_ne (by omega)))⟩
    obtain ⟨hQ, hK13⟩ := hQu
    have hS0 := hQ.st hg hH
    have exQ : ∀ (J2 : BqI) (G : BqG) (u : Int32) (q i : Nat), q < 20 → MSt m K J2 G h ch u → p_run g h ch (I m 7) r = ((-200) - nI q, g, h, ch, u) → bq_W mX12_run 8 172 0 0 152 [some (.ref m), some (.int (nI r.2.2.1)), some (.int (nI q)), some (.int (nI i))] [] S n J2 L P (qMr m I S n L P (p_run g h ch (I m 7) r)) := by
      intro J2 G u q i hq20 hT2 hpr
      refine q_aload_n (pc := 152) dX12_run_152 rfl rfl ?_
      refine q_iconst (pc := 153) (v := nI 0) dX12_run_153 (by decide) ?_
      refine q_putZ (pc := 154) dX12_run_154 (pX12_61 _) (Model_sh hm) ⟨by decide, rfl⟩ (by decide) (Model_lt hm) ?_
      refine q_iload_n (pc := 157) dX12_run_157 rfl rfl ?_
      refine q_iconst (pc := 158) (v := (-1)) dX12_run_158 (by decide) ?_
      refine q_icmp_eq (pc := 159) 181 dX12_run_159 (by decide) (fun c_159 => ((rn_ne (by omega) c_159 : False)).elim) (fun c_159 => ?_)
      refine q_aload_n (pc := 162) dX12_run_162 rfl rfl ?_
      refine q_getP (pc := 163) dX12_run_163 fX12_19 (Model_sh hm) ⟨by decide, rfl⟩ (Model_lt hm) (Model_p_before hm) ?_
      refine q_iconst (pc := 166) (v := nI 0) dX12_run_166 (by decide) ?_
      refine q_aload_n (pc := 167) dX12_run_167 rfl rfl ?_
      refine q_getP (pc := 168) dX12_run_168 fX12_9 (Model_sh hm) ⟨by decide, rfl⟩ (Model_lt hm) (Model_p_g hm) ?_
      refine q_iconst (pc := 171) (v := nI 0) dX12_run_171 (by decide) ?_
      refine q_callSF (pc := 172) dX12_run_172 kX12_57 (c_X12_copy (Model_s_before hm) (Model_s_g hm) (x := 0) (y := 0) (by omega) (by omega) (by omega)) ⟨Nat.le_of_ble_eq_true rfl, Nat.le_of_ble_eq_true rfl⟩ rfl rfl (Nat.le_of_ble_eq_true rfl) ?_
      show bq_W _ _ _ _ _ 175 _ [] _ _ _ _ _ _
      refine q_sipush (pc := 175) (v := (-200)) dX12_run_175 (by decide) ?_
      refine q_iload_n (pc := 178) dX12_run_178 rfl rfl ?_
      refine q_isub (pc := 179) dX12_run_179 ?_
      exact q_iret (st := []) (pc := 180) dX12_run_180 rfl (qMr.ref hQ hT2 hg rfl hpr)
    have l2 : ∀ i, i ≤ r.2.2.1 → ∀ J2 : BqI, MSt m K J2 (ds r.2.2.2 g i) h ch (I m 7) → fz r.2.2.2 g i = none → bq_W mX12_run 8 172 0 0 118 [some (.ref m), some (.int (nI r.2.2.1)), some (.int (-1)), some (.int (nI i))] [] S n J2 L P (qMr m I S n L P (p_run g h ch (I m 7) r)) := by
      refine bq_down (A := fun i => ∀ J2 : BqI, MSt m K J2 (ds r.2.2.2 g i) h ch (I m 7) → fz r.2.2.2 g i = none → bq_W mX12_run 8 172 0 0 118 [some (.ref m), some (.int (nI r.2.2.1)), some (.int (-1)), some (.int (nI i))] [] S n J2 L P (qMr m I S n L P (p_run g h ch (I m 7) r))) r.2.2.1 ?_ ?_
      · intro J2 hT2 hz
        refine q_iload_n (pc := 118) dX12_run_118 rfl rfl ?_
        refine q_iload_n (pc := 119) dX12_run_119 rfl rfl ?_
        refine q_icmp_ge (pc := 120) 152 dX12_run_120 (by decide) (fun c_120 => ?_) (fun c_120 => absurd (nI_le (Nat.le_refl _) (by omega)) c_120)
        refine q_aload_n (pc := 152) dX12_run_152 rfl rfl ?_
        refine q_iconst (pc := 153) (v := nI 0) dX12_run_153 (by decide) ?_
        refine q_putZ (pc := 154) dX12_run_154 (pX12_61 _) (Model_sh hm) ⟨by decide, rfl⟩ (by decide) (Model_lt hm) ?_
        refine q_iload_n (pc := 157) dX12_run_157 rfl rfl ?_
        refine q_iconst (pc := 158) (v := (-1)) dX12_run_158 (by decide) ?_
        refine q_icmp_eq (pc := 159) 181 dX12_run_159 (by decide) (fun c_159 => ?_) (fun c_159 => absurd rfl c_159)
        refine q_aload_n (pc := 181) dX12_run_181 rfl rfl ?_
        refine q_aload_n (pc := 182) dX12_run_182 rfl rfl ?_
        refine q_getP (pc := 183) dX12_run_183 fX12_19 (Model_sh hm) ⟨by decide, rfl⟩ (Model_lt hm) (Model_p_before hm) ?_
        refine q_callV (pc := 186) dX12_run_186 kX12_65 (c_remRow hm (Model_s_before hm) (by omega) (by omega) (MH.q6 hT2.2.1)) (Model_sh hm) rfl (Model_lt hm) ⟨Nat.le_of_ble_eq_true rfl, Nat.le_of_ble_eq_true rfl⟩ rfl rfl (Nat.le_of_ble_eq_true rfl) ?_
        rintro _ S5 n5 I5 L5 P5 ⟨rfl, eS5, en5, eL5, eP5, H5, f1, f2⟩
        subst S5 n5 L5 P5
        show bq_W _ _ _ _ _ 189 _ [] _ _ _ _ _ _
        refine q_iload_n (pc := 189) dX12_run_189 rfl rfl ?_
        exact q_iret (st := []) (pc := 190) dX12_run_190 rfl (qMr.ok hQ hT2 hg ((p_run_o hr hz).trans chg_rem) H5 f1 f2)
      · intro i hi ih J2 hT2 hz
        have hG2 : GI (ds r.2.2.2 g i) (en + 3 * i) := (ds_gk hK i (by omega)).gi
        have hq6 : J2 m 6 = nI 1 := (hT2.2.2.2.2 6 (by decide) (by decide) (by decide)).trans hQ.1
        have hcn : wm (ds r.2.2.2 g i) (J2 (m + 13) (4 * i)) (J2 (m + 13) (4 * i + 1)) (J2 (m + 13) (4 * i + 2)) (J2 (m + 13) (4 * i + 3)) = wk (ds r.2.2.2 g i) (r.2.2.2 i) := by
          rw [hT2.2.2.2.1 (m + 13) (by omega), hK13]; exact hC i hi _
        refine q_iload_n (pc := 118) dX12_run_118 rfl rfl ?_
        refine q_iload_n (pc := 119) dX12_run_119 rfl rfl ?_
        refine q_icmp_ge (pc := 120) 152 dX12_run_120 (by decide) (fun c_120 => absurd c_120 (nI_ge hi (by omega))) (fun c_120 => ?_)
        refine q_iload_n (pc := 123) dX12_run_123 rfl rfl ?_
        refine q_iconst (pc := 124) (v := (-1)) dX12_run_124 (by decide) ?_
        refine q_icmp_ne (pc := 125) 152 dX12_run_125 (by decide) (fun c_125 => ((c_125 rfl : False)).elim) (fun c_125 => ?_)
        refine q_aload_n (pc := 128) dX12_run_128 rfl rfl ?_
        refine q_iconst (pc := 129) (v := nI 4) dX12_run_129 (by decide) ?_
        refine q_iload_n (pc := 130) dX12_run_130 rfl rfl ?_
        refine q_imulN (pc := 131) dX12_run_131 ?_
        refine q_callV (pc := 132) dX12_run_132 kX12_212 (c_does hm hT2.2.1 hT2.1 hG2 (by omega) hq6 (t := 4 * i) (by omega)) (Model_sh hm) rfl (Model_lt hm) ⟨Nat.le_of_ble_eq_true rfl, Nat.le_of_ble_eq_true rfl⟩ rfl rfl (Nat.le_of_ble_eq_true rfl) ?_
        rintro _ S4 n4 I4 L4 P4 ⟨rfl, eS4, en4, eL4, eP4, Q4⟩
        subst S4 n4 L4 P4
        show bq_W _ _ _ _ _ 135 _ [_] _ _ _ _ _ _
        rw [hcn] at Q4
        rw [hcn]
        refine q_bipush (pc := 135) (v := (-3)) dX12_run_135 (by decide) ?_
        refine q_icmp_ne (pc := 137) 144 dX12_run_137 (by decide) (fun c_137 => ?_) (fun c_137 => ?_)
        · have hw4 := fun z => c_137 (mst1_3.mpr z)
          rw [mst1_pos hw4] at Q4
          have Q5 : MSt m K I4 _ h ch _ := hT2.tr Q4
          refine q_iconst (pc := 144) (v := (-1)) dX12_run_144 (by decide) ?_
          refine q_istore_n (pc := 145) dX12_run_145 rfl (Nat.le_of_ble_eq_true rfl) rfl ?_
          show bq_W _ _ _ _ _ 146 [_, _, _, _] _ _ _ _ _ _ _
          refine q_iinc (pc := 146) (v := nI (i + 1)) dX12_run_146 rfl (bq_inc _) (Nat.le_of_ble_eq_true rfl) rfl ?_
          show bq_W _ _ _ _ _ 149 [_, _, _, _] _ _ _ _ _ _ _
          refine q_goto (pc := 149) 118 dX12_run_149 (by decide) ?_
          rw [hT2.2.2.1] at Q5
          exact ih I4 Q5 (fz_no hz hw4)
        · have hw4 := mst1_3.mp c_137
          rw [mst1_neg hw4] at Q4
          have Q5 : MSt m K I4 _ h ch _ := hT2.tr Q4
          have hf := fz_hit hi hz hw4
          refine q_iload_n (pc := 140) dX12_run_140 rfl rfl ?_
          refine q_goto (pc := 141) 145 dX12_run_141 (by decide) ?_
          refine q_istore_n (pc := 145) dX12_run_145 rfl (Nat.le_of_ble_eq_true rfl) rfl ?_
          show bq_W _ _ _ _ _ 146 [_, _, _, _] _ _ _ _ _ _ _
          refine q_iinc (pc := 146) (v := nI (i + 1)) dX12_run_146 rfl (bq_inc _) (Nat.le_of_ble_eq_true rfl) rfl ?_
          show bq_W _ _ _ _ _ 149 [_, _, _, _] _ _ _ _ _ _ _
          refine q_goto (pc := 149) 118 dX12_run_149 (by decide) ?_
                    refine q_iload_n (pc := 118) dX12_run_118 rfl rfl ?_
                    refine q_iload_n (pc := 119) dX12_run_119 rfl rfl ?_
                    refine q_icmp_ge (pc := 120) 152 dX12_run_120 (by decide) (fun c_120 => ?_) (fun c_120 => ?_)
                    · exact exQ I4 _ _ i (i + 1) (by omega) Q5 (p_run_f hr hf)
                    · refine q_iload_n (pc := 123) dX12_run_123 rfl rfl ?_
                      refine q_iconst (pc := 124) (v := (-1)) dX12_run_124 (by decide) ?_
                      refine q_icmp_ne (pc := 125) 152 dX12_run_125 (by decide) (fun c_125 => ?_) (fun c_125 => ((rn_ne (by omega) c_125 : False)).elim)
                      exact exQ I4 _ _ i (i + 1) (by omega) Q5 (p_run_f hr hf)
    exact l2 0 (Nat.zero_le _) K hS0 rfl
  have l1 : ∀ k, ∀ (i p : Nat) (J : BqI) (cs : Nat → BqC), k + i = 20 → 3 * i ≤ p → p ≤ l → pR (I (m + 5)) l (k + 1) i p cs = r → MT m J0 J (I (m + 5)) l (pC (I (m + 5)) l p).1 → ((pC (I (m + 5)) l p).1.2 = false → Cn (J (m + 13)) (4 * i) (pC (I (m + 5)) l p).2) → (∀ j, j < i → Cn (J (m + 13)) (4 * j) (cs j)) → bq_W mX12_run 8 172 0 0 12 [some (.ref m), some (.int (nI (i + 1))), none, none] [] S n J L P (qMr m I S n L P (p_run g h ch (I m 7) r)) := by
    intro k
    induction k with
    | zero =>
      intro i p J cs hki hip hpl hr0 hT hC hCs
      have hle := pC_le (B := I (m + 5)) hpl
      have e : pR (I (m + 5)) l (0 + 1) i p cs = if (pC (I (m + 5)) l p).1.2 = true then (false, (pC (I (m + 5)) l p).1.1, i, cs) else if l ≤ (pC (I (m + 5)) l p).1.1 then (true, (pC (I (m + 5)) l p).1.1, i + 1, bq_r cs i (pC (I (m + 5)) l p).2) else if hr (I (m + 5)) l (pC (I (m + 5)) l p).1.1 = nI 59 then pR (I (m + 5)) l 0 (i + 1) ((pC (I (m + 5)) l p).1.1 + 1) (bq_r cs i (pC (I (m + 5)) l p).2) else (false, (pC (I (m + 5)) l p).1.1, i + 1, cs) := rfl
      have hend := pC_end (B := I (m + 5)) (l := l) (p := p) (by omega)
      generalize ec : pC (I (m + 5)) l p = c at hle e hT hC hend
      obtain ⟨⟨q, w⟩, cm⟩ := c
      cases w with
      | true =>
        have hr1 : r = (false, q, i, cs) := by rw [← hr0, e]; exact if_pos rfl
        have hw : J m 19 = nI 1 := hT.2.1
        refine q_aload_n (pc := 12) dX12_run_12 rfl rfl ?_
        refine q_getI (pc := 13) dX12_run_13 fX12_181 (Model_sh hm) ⟨by decide, rfl⟩ (Model_lt hm) ?_
        rw [hw]
        refine q_if_ne (pc := 16) 51 dX12_run_16 (by decide) (fun c_16 => ?_) (fun c_16 => absurd (by decide) c_16)
        exact exW J q (i + 1) hT (by rw [hr1]; exact fun z => Bool.noConfusion z) (by rw [hr1])
      | false =>
        exact Bool.noConfusion (congrArg Prod.snd hend)
    | succ k ihk =>
      intro i p J cs hki hip hpl hr0 hT hC hCs
      have hle := pC_le (B := I (m + 5)) hpl
      have e : pR (I (m + 5)) l ((k + 1) + 1) i p cs = if (pC (I (m + 5)) l p).1.2 = true then (false, (pC (I (m + 5)) l p).1.1, i, cs) else if l ≤ (pC (I (m + 5)) l p).1.1 then (true, (pC (I (m + 5)) l p).1.1, i + 1, bq_r cs i (pC (I (m + 5)) l p).2) else if hr (I (m + 5)) l (pC (I (m + 5)) l p).1.1 = nI 59 then pR (I (m + 5)) l (k + 1) (i + 1) ((pC (I (m + 5)) l p).1.1 + 1) (bq_r cs i (pC (I (m + 5)) l p).2) else (false, (pC (I (m + 5)) l p).1.1, i + 1, cs) := rfl
      generalize ec : pC (I (m + 5)) l p = c at hle e hT hC
      obtain ⟨⟨q, w⟩, cm⟩ := c
      cases w with
      | true =>
        have hr1 : r = (false, q, i, cs) := by rw [← hr0, e]; exact if_pos rfl
        have hw : J m 19 = nI 1 := hT.2.1
        refine q_aload_n (pc := 12) dX12_run_12 rfl rfl ?_
        refine q_getI (pc := 13) dX12_run_13 fX12_181 (Model_sh hm) ⟨by decide, rfl⟩ (Model_lt hm) ?_
        rw [hw]
        refine q_if_ne (pc := 16) 51 dX12_run_16 (by decide) (fun c_16 => ?_) (fun c_16 => absurd (by decide) c_16)
        exact exW J q (i + 1) hT (by rw [hr1]; exact fun z => Bool.noConfusion z) (by rw [hr1])
      | false =>
        have hw : J m 19 = nI 0 := hT.2.1
        have hq18 : J m 18 = nI q := hT.1
        have hql : q ≤ l := hT.2.2.2.2.1
        have hC' := hC rfl
        refine q_aload_n (pc := 12) dX12_run_12 rfl rfl ?_
        refine q_getI (pc := 13) dX12_run_13 fX12_181 (Model_sh hm) ⟨by decide, rfl⟩ (Model_lt hm) ?_
        rw [hw]
        refine q_if_ne (pc := 16) 51 dX12_run_16 (by decide) (fun c_16 => absurd c_16 (by decide)) (fun c_16 => ?_)
        refine q_aload_n (pc := 19) dX12_run_19 rfl rfl ?_
        refine q_callVF (pc := 20) dX12_run_20 kX12_184 (c_X12_here hm hT.1 hT.2.2.1 hT.2.2.2.1 hT.2.2.2.2.2.1 hT.2.2.2.2.1) (Model_sh hm) rfl (Model_lt hm) ⟨Nat.le_of_ble_eq_true rfl, Nat.le_of_ble_eq_true rfl⟩ rfl rfl (Nat.le_of_ble_eq_true rfl) ?_
        show bq_W _ _ _ _ _ 23 _ [_] _ _ _ _ _ _
        refine q_bipush (pc := 23) (v := nI 59) dX12_run_23 (by decide) ?_
        refine q_icmp_ne (pc := 25) 51 dX12_run_25 (by decide) (fun c_25 => ?_) (fun c_25 => ?_)
        · by_cases c2 : l ≤ q
          · have hr1 : r = (true, q, i + 1, bq_r cs i cm) := by rw [← hr0, e]; exact (if_neg (fun z => Bool.noConfusion z)).trans (if_pos c2)
            have hx := exO J q hT (by omega) (by rw [hr1]) (by rw [hr1]; exact fun j hj => by
              have hj : j < i + 1 := hj
              show Cn (J (m + 13)) (4 * j) (bq_r cs i cm j)
              by_cases z : j = i
              · rw [z, bq_r_self]; exact hC'
              · rw [bq_r_ne z]; exact hCs j (by omega))
            rw [show r.2.2.1 = i + 1 from by rw [hr1]] at hx
            exact hx
          · have hr1 : r = (false, q, i + 1, cs) := by rw [← hr0, e]; exact (if_neg (fun z => Bool.noConfusion z)).trans ((if_neg c2).trans (if_neg c_25))
            exact exF J q (i + 1) hT (by omega) (by rw [hr1]; exact fun z => Bool.noConfusion z) (by rw [hr1])
        · have hlt := hr_lt (by decide) c_25
          refine q_aload_n (pc := 28) dX12_run_28 rfl rfl ?_
          refine q_dup (pc := 29) dX12_run_29 rfl ?_
          refine q_getI (pc := 30) dX12_run_30 fX12_178 (Model_sh hm) ⟨by decide, rfl⟩ (Model_lt hm) ?_
          rw [hq18]
          refine q_iconst (pc := 33) (v := nI 1) dX12_run_33 (by decide) ?_
          refine q_iaddN (pc := 34) dX12_run_34 ?_
          refine q_putI (pc := 35) dX12_run_35 (pX12_178 _) (Model_sh hm) ⟨by decide, rfl⟩ (Model_lt hm) ?_
          refine q_aload_n (pc := 38) dX12_run_38 rfl rfl ?_
          refine q_iconst (pc := 39) (v := nI 4) dX12_run_39 (by decide) ?_
          refine q_iload_n (pc := 40) dX12_run_40 rfl rfl ?_
          refine q_imulN (pc := 41) dX12_run_41 ?_
          refine q_callV (pc := 42) dX12_run_42 kX12_209 (c_rcmd (B := I (m + 5)) (l := l) (p := q + 1) (t := 4 * (i + 1)) hm (bq_u_at _ _ _ _) ((bq_u_no (by omega)).trans hT.2.2.1) ((bq_u_ne (by omega)).trans hT.2.2.2.1) hl60 hlt (by omega)) (Model_sh hm) rfl (Model_lt hm) ⟨Nat.le_of_ble_eq_true rfl, Nat.le_of_ble_eq_true rfl⟩ rfl rfl (Nat.le_of_ble_eq_true rfl) ?_
          rintro _ S3 n3 I3 L3 P3 ⟨rfl, eS3, en3, eL3, eP3, T3, C3, D3⟩
          subst S3 n3 L3 P3
          show bq_W _ _ _ _ _ 45 _ [] _ _ _ _ _ _
          refine q_iinc (pc := 45) (v := nI ((i + 1) + 1)) dX12_run_45 rfl (bq_inc _) (Nat.le_of_ble_eq_true rfl) rfl ?_
          show bq_W _ _ _ _ _ 48 [_, _, _, _] _ _ _ _ _ _ _
          refine q_goto (pc := 48) 12 dX12_run_48 (by decide) ?_
          have hge := hle.2.2 rfl
          have hge' : p + 2 ≤ q := hge
          have hr1 : pR (I (m + 5)) l (k + 1) (i + 1) (q + 1) (bq_r cs i cm) = r := by rw [← hr0, e]; exact ((if_neg (fun z => Bool.noConfusion z)).trans ((if_neg (show ¬ l ≤ q by omega)).trans (if_pos c_25))).symm
          have D4 : ∀ j, j < 4 * (i + 1) → I3 (m + 13) j = J (m + 13) j := fun j hj => (D3 j (Or.inl hj)).trans (congrFun (bq_u_ne (by omega)) j)
          exact ihk (i + 1) (q + 1) I3 (bq_r cs i cm) (by omega) (by omega) hlt hr1 (T3.un hT) C3 (fun j hj => by
            by_cases z : j = i
            · rw [z, bq_r_self]; exact hC'.fr (fun a a1 a2 => D4 a (by omega))
            · rw [bq_r_ne z]; exact (hCs j (by omega)).fr (fun a a1 a2 => D4 a (by omega)))
  refine q_aload_n (pc := 5) dX12_run_5 rfl rfl ?_
  refine q_iconst (pc := 6) (v := nI 0) dX12_run_6 (by decide) ?_
  refine q_callV (pc := 7) dX12_run_7 kX12_209 (c_rcmd (B := I (m + 5)) (l := l) (p := 0) (t := 0) hm p0 l0 b0 hl60 (Nat.zero_le _) (by decide)) (Model_sh hm) rfl (Model_lt hm) ⟨Nat.le_of_ble_eq_true rfl, Nat.le_of_ble_eq_true rfl⟩ rfl rfl (Nat.le_of_ble_eq_true rfl) ?_
  rintro _ S1 n1 I1 L1 P1 ⟨rfl, eS1, en1, eL1, eP1, T1, C1, D1⟩
  subst S1 n1 L1 P1
  show bq_W _ _ _ _ _ 10 _ [] _ _ _ _ _ _
  refine q_iconst (pc := 10) (v := nI 1) dX12_run_10 (by decide) ?_
  refine q_istore_n (pc := 11) dX12_run_11 rfl (Nat.le_of_ble_eq_true rfl) rfl ?_
  show bq_W _ _ _ _ _ 12 [_, _, _, _] _ _ _ _ _ _ _
  exact l1 20 0 0 I1 _ rfl (Nat.le_refl _) (Nat.zero_le _) er T1 C1 (fun j hj => absurd hj (Nat.not_lt_zero j))
theorem i_vc : Claimed_1_1 ∧ Claimed_1_2 := sorry
