/-! orders made and dropped -/
def x_order (g : BqG) (d l a b : Int32) : BqG := bq_r (bq_r (bq_r (bq_r (bq_r (bq_r g (204 + 9 * gn g 2 + 0) (g 0 + d)) (204 + 9 * gn g 2 + 1) l) (204 + 9 * gn g 2 + 2) a) (204 + 9 * gn g 2 + 3) b) (204 + 9 * gn g 2 + 4) (nI 0)) 2 (nI (gn g 2 + 1))
def p_order (g : BqG) (h : Nat → BqG) (ch : Nat) (y d l a b : Int32) : BqR := if (d < nI 0 ∨ ¬ d ≤ nI 99) ∨ (l < nI 1 ∨ ¬ l ≤ nI 9999) ∨ (a < nI 0 ∨ ¬ a ≤ nI 2000) ∨ (b < a ∨ ¬ b ≤ nI 2000) then ((-2), g, h, ch, y) else if gn g 2 < 10 then chg g (x_order g d l a b) h ch y (g 2) else ((-4), g, h, ch, y)
theorem x_order_ne {g : BqG} {d l a b : Int32} {k : Nat} (h2 : k ≠ 2) (h : k < 204 + 9 * gn g 2 ∨ 208 + 9 * gn g 2 < k) : x_order g d l a b k = g k := by
  unfold x_order
  rw [bq_r_ne h2, bq_r_ne (by omega), bq_r_ne (by omega), bq_r_ne (by omega), bq_r_ne (by omega), bq_r_ne (by omega)]
theorem CSL_order {L : BqL} {s : Nat} {g : BqG} {en : Nat} {d l a b : Int32} (hG : GI g en) (hr : gn g 2 < 10) (hL : CSL L s g) : CSL L s (x_order g d l a b) := by
  refine ⟨fun i hi => ?_, ?_, ?_⟩
  · rw [hL.1 i hi, x_order_ne (by omega) (by omega)]
  · rw [hL.2.1]
    refine (paidN_congr 10 (fun i hi => ⟨?_, ?_⟩)).symm
    · by_cases e : i = gn g 2
      · have h0 : gn g (208 + 9 * gn g 2) = 0 := (hG.o hr).2.2.2.2.2.2.2.2 (Nat.le_refl _)
        rw [e, hG.n (k := 208 + 9 * gn g 2) (by omega) (by omega), h0]
        unfold x_order
        rw [bq_r_ne (by omega), show 208 + 9 * gn g 2 = 204 + 9 * gn g 2 + 4 by omega, bq_r_self]
      · exact x_order_ne (by omega) (by omega)
    · exact x_order_ne (by omega) (by omega)
  · rw [hL.2.2, x_order_ne (by omega) (by omega)]
theorem bq_ct_congr {f f' : Nat → Int32} {v : Int32} : ∀ k, (∀ i, i < k → f i = f' i) → bq_ct f v k = bq_ct f' v k
  | 0, _ => rfl
  | k + 1, h => by
    unfold bq_ct
    rw [bq_ct_congr k (fun i hi => h i (by omega)), h k (by omega)]
def x_drop (g : BqG) (o : Nat) : BqG := bq_r g (204 + 9 * o + 4) (nI 2)
def n_drop (g : BqG) (h : Nat → BqG) (ch : Nat) (y : Int32) (o : Nat) : BqR := if g (208 + 9 * o) = 0 then chg g (x_drop g o) h ch y (nI (bq_ct (fun i => x_drop g o (208 + 9 * i)) 0 (gn g 2))) else ((-3), g, h, ch, nI 5)
def p_drop (g : BqG) (h : Nat → BqG) (ch : Nat) (y o : Int32) : BqR := if o < 0 ∨ g 2 ≤ o ∨ nI 10 ≤ o then ((-3), g, h, ch, nI 5) else n_drop g h ch y o.toNatClampNeg
theorem p_drop_n {g : BqG} {en : Nat} {h : Nat → BqG} {ch o : Nat} {y : Int32} (hG : GI g en) (ho : o < gn g 2) : p_drop g h ch y (nI o) = n_drop g h ch y o := by
  have hoc : gn g 2 ≤ 10 := hG.2.2.2.1
  unfold p_drop
  rw [if_neg, nI_clamp (by omega)]
  rintro (q | q | q)
  · exact nI_pos (by omega) q
  · rw [hG.n (k := 2) (by decide) (by decide)] at q; exact nI_ge ho (by omega) q
  · exact nI_ge (show o < 10 by omega) (by decide) q
theorem CSL_drop {L : BqL} {s : Nat} {g : BqG} {o : Nat} (h0 : g (208 + 9 * o) = 0) (ho : o < 10) (hL : CSL L s g) : CSL L s (x_drop g o) := by
  refine ⟨fun i hi => ?_, ?_, ?_⟩
  · rw [hL.1 i hi]; unfold x_drop; rw [bq_r_ne (by omega)]
  · rw [hL.2.1]
    have key : ∀ k, paidN (x_drop g o) k = paidN g k := by
      intro k
      induction k with
      | zero => rfl
      | succ k ih =>
        unfold paidN
        rw [ih]
        by_cases e : k = o
        · subst e
          rw [h0, show x_drop g k (208 + 9 * k) = nI 2 from by unfold x_drop; rw [show 208 + 9 * k = 204 + 9 * k + 4 by omega, bq_r_self], if_neg (by decide), if_neg (by decide)]
        · rw [show x_drop g o (208 + 9 * k) = g (208 + 9 * k) from bq_r_ne (by omega), show x_drop g o (209 + 9 * k) = g (209 + 9 * k) from bq_r_ne (by omega)]
    exact (key 10).symm
  · rw [hL.2.2, show x_drop g o 6 = g 6 from bq_r_ne (by omega)]
set_option maxHeartbeats 400000 in
set_option maxRecDepth 20000 in
theorem m_reason {S : BqH} {n : Nat} {I : BqI} {L : BqL} {P : BqP} {x : Nat} (hx : oX S n P x) : bq_Sp mX11_reason 1 12 0 0 [.ref x] S n I L P (bq_F (some (.int (I x 10))) S n I L P) := by
  refine q_entry (vs := [some (.ref x)]) (by decide +kernel) (by simp) (Nat.le_of_ble_eq_true rfl) rfl ?_
  refine q_aload_n (pc := 0) dX11_reason_0 rfl rfl ?_
  refine q_getI (pc := 1) dX11_reason_1 fX11_62 (Cellar_sh hx) ⟨by decide, rfl⟩ (Cellar_lt hx) ?_
  exact q_iret (st := []) (pc := 4) dX11_reason_4 rfl ⟨rfl, rfl, rfl, rfl, rfl, rfl⟩
set_option maxHeartbeats 952000 in
set_option maxRecDepth 20000 in
theorem m_order {S : BqH} {n : Nat} {I : BqI} {L : BqL} {P : BqP} {x : Nat} {g : BqG} {h : Nat → BqG} {ch en : Nat} (hX : CXS x S n I L P g h ch) (hG : GI g en) (hen : en < 2 ^ 29) {d l a b : Int32} : bq_Sp mX11_order 6 144 0 0 [.ref x, .int d, .int l, .int a, .int b] S n I L P (qOp x I L S n P (p_order g h ch (I x 10) d l a b)) := by
  refine q_entry (vs := [some (.ref x), some (.int d), some (.int l), some (.int a), some (.int b), none]) (by decide +kernel) (by simp) (Nat.le_of_ble_eq_true rfl) rfl ?_
  have hX' := hX
  obtain ⟨hx, hC, hc, hl_, π, hP, hh⟩ := hX
  have hC0 := put_1 (π := π) (ch := ch) hC
  have hol : gn g 2 ≤ 10 := hG.2.2.2.1
  have hoc : I (x + 1) 12 = nI (gn g 2) := (hC.1.at (k := 2) rfl).trans (hG.n (by decide) (by decide))
  have hoc0 : (st_cpI I (x + 165 + 53 * π ch) (x + 1)) (x + 1) 12 = nI (gn g 2) := (hC0.1.at (k := 2) rfl).trans (hG.n (by decide) (by decide))
  refine q_iload_n (pc := 0) dX11_order_0 rfl rfl ?_
  refine q_iconst (pc := 1) (v := nI 0) dX11_order_1 (by decide) ?_
  refine q_bipush (pc := 2) (v := nI 99) dX11_order_2 (by decide) ?_
  refine q_callSF (pc := 4) dX11_order_4 kX11_69 c_X11_outside ⟨Nat.le_of_ble_eq_true rfl, Nat.le_of_ble_eq_true rfl⟩ rfl rfl (Nat.le_of_ble_eq_true rfl) ?_
  show bq_W _ _ _ _ _ 7 _ [_] _ _ _ _ _ _
  refine q_if_ne (pc := 7) 44 dX11_order_7 (by decide) (fun c_7 => ?_) (fun c_7 => ?_)
  · replace c_7 := bq_bn.mp c_7
    refine q_bipush (pc := 44) (v := (-2)) dX11_order_44 (by decide) ?_
    exact q_iret (st := []) (pc := 46) dX11_order_46 rfl (qOp.same hX' (by unfold p_order; rw [if_pos (by first | exact Or.inl c_7 | exact Or.inr (Or.inl c_18) | exact Or.inr (Or.inr (Or.inl c_29)) | exact Or.inr (Or.inr (Or.inr c_41)))]))
  · replace c_7 := bq_b0.mp c_7
    refine q_iload_n (pc := 10) dX11_order_10 rfl rfl ?_
    refine q_iconst (pc := 11) (v := nI 1) dX11_order_11 (by decide) ?_
    refine q_sipush (pc := 12) (v := nI 9999) dX11_order_12 (by decide) ?_
    refine q_callSF (pc := 15) dX11_order_15 kX11_69 c_X11_outside ⟨Nat.le_of_ble_eq_true rfl, Nat.le_of_ble_eq_true rfl⟩ rfl rfl (Nat.le_of_ble_eq_true rfl) ?_
    show bq_W _ _ _ _ _ 18 _ [_] _ _ _ _ _ _
    refine q_if_ne (pc := 18) 44 dX11_order_18 (by decide) (fun c_18 => ?_) (fun c_18 => ?_)
    · replace c_18 := bq_bn.mp c_18
      refine q_bipush (pc := 44) (v := (-2)) dX11_order_44 (by decide) ?_
      exact q_iret (st := []) (pc := 46) dX11_order_46 rfl (qOp.same hX' (by unfold p_order; rw [if_pos (by first | exact Or.inl c_7 | exact Or.inr (Or.inl c_18) | exact Or.inr (Or.inr (Or.inl c_29)) | exact Or.inr (Or.inr (Or.inr c_41)))]))
    · replace c_18 := bq_b0.mp c_18
      refine q_iload_n (pc := 21) dX11_order_21 rfl rfl ?_
      refine q_iconst (pc := 22) (v := nI 0) dX11_order_22 (by decide) ?_
      refine q_sipush (pc := 23) (v := nI 2000) dX11_order_23 (by decide) ?_
      refine q_callSF (pc := 26) dX11_order_26 kX11_69 c_X11_outside ⟨Nat.le_of_ble_eq_true rfl, Nat.le_of_ble_eq_true rfl⟩ rfl rfl (Nat.le_of_ble_eq_true rfl) ?_
      show bq_W _ _ _ _ _ 29 _ [_] _ _ _ _ _ _
      refine q_if_ne (pc := 29) 44 dX11_order_29 (by decide) (fun c_29 => ?_) (fun c_29 => ?_)
      · replace c_29 := bq_bn.mp c_29
        refine q_bipush (pc := 44) (v := (-2)) dX11_order_44 (by decide) ?_
        exact q_iret (st := []) (pc := 46) dX11_order_46 rfl (qOp.same hX' (by unfold p_order; rw [if_pos (by first | exact Or.inl c_7 | exact Or.inr (Or.inl c_18) | exact Or.inr (Or.inr (Or.inl c_29)) | exact Or.inr (Or.inr (Or.inr c_41)))]))
      · replace c_29 := bq_b0.mp c_29
        refine q_iload (pc := 32) dX11_order_32 rfl ?_
        refine q_iload_n (pc := 34) dX11_order_34 rfl rfl ?_
        refine q_sipush (pc := 35) (v := nI 2000) dX11_order_35 (by decide) ?_
        refine q_callSF (pc := 38) dX11_order_38 kX11_69 c_X11_outside ⟨Nat.le_of_ble_eq_true rfl, Nat.le_of_ble_eq_true rfl⟩ rfl rfl (Nat.le_of_ble_eq_true rfl) ?_
        show bq_W _ _ _ _ _ 41 _ [_] _ _ _ _ _ _
        refine q_if_eq (pc := 41) 47 dX11_order_41 (by decide) (fun c_41 => ?_) (fun c_41 => ?_)
        · replace c_41 := bq_b0.mp c_41
          refine q_aload_n (pc := 47) dX11_order_47 rfl rfl ?_
          refine q_getP (pc := 48) dX11_order_48 fX11_10 (Cellar_sh hx) ⟨by decide, rfl⟩ (Cellar_lt hx) (Cellar_p_state hx) ?_
          refine q_getI (pc := 51) dX11_order_51 fX11_150 (State_sh (Cellar_s_state hx)) ⟨by decide, rfl⟩ (State_lt (Cellar_s_state hx)) ?_
          rw [hoc]
          refine q_bipush (pc := 54) (v := nI 10) dX11_order_54 (by decide) ?_
          refine q_icmp_lt (pc := 56) 62 dX11_order_56 (by decide) (fun c_56 => ?_) (fun c_56 => ?_)
          · have hr : gn g 2 < 10 := (nI_ltI (by omega) (by decide)).mp c_56
            have hin := (show ¬ ((d < nI 0 ∨ ¬ d ≤ nI 99) ∨ (l < nI 1 ∨ ¬ l ≤ nI 9999) ∨ (a < nI 0 ∨ ¬ a ≤ nI 2000) ∨ (b < a ∨ ¬ b ≤ nI 2000)) from by rintro (q | q | q | q); exact c_7 q; exact c_18 q; exact c_29 q; exact c_41 q)
            refine q_aload_n (pc := 62) dX11_order_62 rfl rfl ?_
            refine q_callVF (pc := 63) dX11_order_63 kX11_89 (c_putBy hx hP hc (by omega)) (Cellar_sh hx) rfl (Cellar_lt hx) ⟨Nat.le_of_ble_eq_true rfl, Nat.le_of_ble_eq_true rfl⟩ rfl rfl (Nat.le_of_ble_eq_true rfl) ?_
            show bq_W _ _ _ _ _ 66 _ [] _ _ _ _ _ _
            refine q_aload_n (pc := 66) dX11_order_66 rfl rfl ?_
            refine q_getP (pc := 67) dX11_order_67 fX11_10 (Cellar_sh hx) ⟨by decide, rfl⟩ (Cellar_lt hx) (Cellar_p_state hx) ?_
            refine q_getP (pc := 70) dX11_order_70 fX11_153 (State_sh (Cellar_s_state hx)) ⟨by decide, rfl⟩ (State_lt (Cellar_s_state hx)) (State_p_orders (Cellar_s_state hx)) ?_
            refine q_aload_n (pc := 73) dX11_order_73 rfl rfl ?_
            refine q_getP (pc := 74) dX11_order_74 fX11_10 (Cellar_sh hx) ⟨by decide, rfl⟩ (Cellar_lt hx) (Cellar_p_state hx) ?_
            refine q_getI (pc := 77) dX11_order_77 fX11_150 (State_sh (Cellar_s_state hx)) ⟨by decide, rfl⟩ (State_lt (Cellar_s_state hx)) ?_
            rw [hoc0]
            refine q_aald (pc := 80) dX11_order_80 (Stateorders_sh (Cellar_s_state hx)) (by decide) (Stateorders_lt (Cellar_s_state hx)) rfl hr (Stateorders_p_el (Cellar_s_state hx) hr) ?_
            refine q_astore (pc := 81) dX11_order_81 (Nat.le_of_ble_eq_true rfl) rfl ?_
            show bq_W _ _ _ _ _ 83 [_, _, _, _, _, _] _ _ _ _ _ _ _
            refine q_aload (pc := 83) dX11_order_83 rfl ?_
            refine q_aload_n (pc := 85) dX11_order_85 rfl rfl ?_
            refine q_getP (pc := 86) dX11_order_86 fX11_10 (Cellar_sh hx) ⟨by decide, rfl⟩ (Cellar_lt hx) (Cellar_p_state hx) ?_
            refine q_getI (pc := 89) dX11_order_89 fX11_157 (State_sh (Cellar_s_state hx)) ⟨by decide, rfl⟩ (State_lt (Cellar_s_state hx)) ?_
            rw [show (st_cpI I (x + 165 + 53 * π ch) (x + 1)) (x + 1) 0 = g 0 from hC0.1.at (k := 0) rfl]
            refine q_iload_n (pc := 92) dX11_order_92 rfl rfl ?_
            refine q_iadd (pc := 93) dX11_order_93 ?_
            refine q_putI (pc := 94) dX11_order_94 (pX11_158 _) (Order_sh (Stateorders_s_el (Cellar_s_state hx) hr)) ⟨by decide, rfl⟩ (Order_lt (Stateorders_s_el (Cellar_s_state hx) hr)) ?_
            refine q_aload (pc := 97) dX11_order_97 rfl ?_
            refine q_iload_n (pc := 99) dX11_order_99 rfl rfl ?_
            refine q_putI (pc := 100) dX11_order_100 (pX11_163 _) (Order_sh (Stateorders_s_el (Cellar_s_state hx) hr)) ⟨by decide, rfl⟩ (Order_lt (Stateorders_s_el (Cellar_s_state hx) hr)) ?_
            refine q_aload (pc := 103) dX11_order_103 rfl ?_
            refine q_iload_n (pc := 105) dX11_order_105 rfl rfl ?_
            refine q_putI (pc := 106) dX11_order_106 (pX11_166 _) (Order_sh (Stateorders_s_el (Cellar_s_state hx) hr)) ⟨by decide, rfl⟩ (Order_lt (Stateorders_s_el (Cellar_s_state hx) hr)) ?_
            refine q_aload (pc := 109) dX11_order_109 rfl ?_
            refine q_iload (pc := 111) dX11_order_111 rfl ?_
            refine q_putI (pc := 113) dX11_order_113 (pX11_169 _) (Order_sh (Stateorders_s_el (Cellar_s_state hx) hr)) ⟨by decide, rfl⟩ (Order_lt (Stateorders_s_el (Cellar_s_state hx) hr)) ?_
            refine q_aload (pc := 116) dX11_order_116 rfl ?_
            refine q_iconst (pc := 118) (v := nI 0) dX11_order_118 (by decide) ?_
            refine q_putI (pc := 119) dX11_order_119 (pX11_172 _) (Order_sh (Stateorders_s_el (Cellar_s_state hx) hr)) ⟨by decide, rfl⟩ (Order_lt (Stateorders_s_el (Cellar_s_state hx) hr)) ?_
            refine q_nameI (fun I2 e2 => ?_)
            have C2 : CSI I2 (x + 1) (bq_r (bq_r (bq_r (bq_r (bq_r g (204 + 9 * gn g 2 + 0) (g 0 + d)) (204 + 9 * gn g 2 + 1) l) (204 + 9 * gn g 2 + 2) a) (204 + 9 * gn g 2 + 3) b) (204 + 9 * gn g 2 + 4) (nI 0)) := by rw [e2, show x + 1 + 43 + gn g 2 = x + 1 + (43 + gn g 2) by omega]; exact ((((hC0.1.u (lc_O hr (k := 0) (by decide)) (g 0 + d)).u (lc_O hr (k := 1) (by decide)) l).u (lc_O hr (k := 2) (by decide)) a).u (lc_O hr (k := 3) (by decide)) b).u (lc_O hr (k := 4) (by decide)) (nI 0)
            have F2 : Frm x (st_cpI I (x + 165 + 53 * π ch) (x + 1)) I2 := by rw [e2]; exact ((((Frm.rf.u (Or.inl (by omega))).u (Or.inl (by omega))).u (Or.inl (by omega))).u (Or.inl (by omega))).u (Or.inl (by omega))
            have h2 : I2 (x + 1) 12 = nI (gn g 2) := by rw [C2.at (k := 2) rfl, bq_r_ne (by omega), bq_r_ne (by omega), bq_r_ne (by omega), bq_r_ne (by omega), bq_r_ne (by omega)]; exact hG.n (by decide) (by decide)
            refine q_aload_n (pc := 122) dX11_order_122 rfl rfl ?_
            refine q_getP (pc := 123) dX11_order_123 fX11_10 (Cellar_sh hx) ⟨by decide, rfl⟩ (Cellar_lt hx) (Cellar_p_state hx) ?_
            refine q_dup (pc := 126) dX11_order_126 rfl ?_
            refine q_getI (pc := 127) dX11_order_127 fX11_150 (State_sh (Cellar_s_state hx)) ⟨by decide, rfl⟩ (State_lt (Cellar_s_state hx)) ?_
            rw [h2]
            refine q_iconst (pc := 130) (v := nI 1) dX11_order_130 (by decide) ?_
            refine q_iaddN (pc := 131) dX11_order_131 ?_
            refine q_putI (pc := 132) dX11_order_132 (pX11_150 _) (State_sh (Cellar_s_state hx)) ⟨by decide, rfl⟩ (State_lt (Cellar_s_state hx)) ?_
            refine q_nameI (fun I3 e3 => ?_)
            have C3 : CS I3 (st_cpL L (x + 165 + 53 * π ch) (x + 1)) (x + 1) (x_order g d l a b) := by rw [e3]; exact ⟨C2.u (k := 2) (a := 0) rfl _, CSL_order hG hr hC0.2⟩
            have hM := mid_mk hx hP hC hc hl_ hh C3 (by rw [e3]; exact F2.u (Or.inl (by omega))) FrmL.rf
            have h3 : I3 (x + 1) 12 = nI (gn g 2 + 1) := by rw [e3, bq_u_at]
            refine q_aload_n (pc := 135) dX11_order_135 rfl rfl ?_
            refine q_aload_n (pc := 136) dX11_order_136 rfl rfl ?_
            refine q_getP (pc := 137) dX11_order_137 fX11_10 (Cellar_sh hx) ⟨by decide, rfl⟩ (Cellar_lt hx) (Cellar_p_state hx) ?_
            refine q_getI (pc := 140) dX11_order_140 fX11_150 (State_sh (Cellar_s_state hx)) ⟨by decide, rfl⟩ (State_lt (Cellar_s_state hx)) ?_
            rw [h3]
            refine q_iconst (pc := 143) (v := nI 1) dX11_order_143 (by decide) ?_
            refine q_isub (pc := 144) dX11_order_144 ?_
            rw [show nI (gn g 2 + 1) - nI 1 = g 2 from by rw [pk_sub (by omega), Nat.add_sub_cancel]; exact (hG.n (by decide) (by decide)).symm]
            rw [show p_order g h ch (I x 10) d l a b = chg g (x_order g d l a b) h ch (I x 10) (g 2) from by unfold p_order; rw [if_neg hin, if_pos hr]]
            refine q_callV (pc := 145) dX11_order_145 kX11_95 (c_changed hM) (Cellar_sh hx) rfl (Cellar_lt hx) ⟨Nat.le_of_ble_eq_true rfl, Nat.le_of_ble_eq_true rfl⟩ rfl rfl (Nat.le_of_ble_eq_true rfl) ?_
            rintro _ _ _ I9 L9 P9 ⟨rfl, rfl, rfl, Q⟩
            show bq_W _ _ _ _ _ 148 _ [_] _ _ _ _ _ _
            exact q_iret (st := []) (pc := 148) dX11_order_148 rfl ⟨rfl, rfl, rfl, Q⟩
          · refine q_bipush (pc := 59) (v := (-4)) dX11_order_59 (by decide) ?_
            exact q_iret (st := []) (pc := 61) dX11_order_61 rfl (qOp.same hX' (by unfold p_order; rw [if_neg (by rintro (q | q | q | q); exact c_7 q; exact c_18 q; exact c_29 q; exact c_41 q), if_neg (fun q => c_56 (nI_lt q (by decide)))]))
        · replace c_41 := bq_bn.mp c_41
          refine q_bipush (pc := 44) (v := (-2)) dX11_order_44 (by decide) ?_
          exact q_iret (st := []) (pc := 46) dX11_order_46 rfl (qOp.same hX' (by unfold p_order; rw [if_pos (by first | exact Or.inl c_7 | exact Or.inr (Or.inl c_18) | exact Or.inr (Or.inr (Or.inl c_29)) | exact Or.inr (Or.inr (Or.inr c_41)))]))
set_option maxHeartbeats 400000 in
set_option maxRecDepth 20000 in
theorem m_drop_a {S : BqH} {n : Nat} {I : BqI} {L : BqL} {P : BqP} {x : Nat} {g : BqG} {h : Nat → BqG} {ch en : Nat} (hX : CXS x S n I L P g h ch) (hG : GI g en) (hen : en < 2 ^ 29) {o : Int32} (ho : o < 0 ∨ g 2 ≤ o ∨ nI 10 ≤ o) : bq_Sp mX11_drop 6 144 0 0 [.ref x, .int o] S n I L P (qOp x I L S n P (p_drop g h ch (I x 10) o)) := by
  refine q_entry (vs := [some (.ref x), some (.int o), none]) (by decide +kernel) (by simp) (Nat.le_of_ble_eq_true rfl) rfl ?_
  have hX' := hX
  obtain ⟨hx, hC, hc, hl, π, hP, hh⟩ := hX
  refine q_aload_n (pc := 0) dX11_drop_0 rfl rfl ?_
  refine q_getP (pc := 1) dX11_drop_1 fX11_10 (Cellar_sh hx) ⟨by decide, rfl⟩ (Cellar_lt hx) (Cellar_p_state hx) ?_
  refine q_iload_n (pc := 4) dX11_drop_4 rfl rfl ?_
  refine q_callVF (pc := 5) dX11_drop_5 kX11_175 (c_orderAt0 (Cellar_s_state hx) (hox hC ho)) (State_sh (Cellar_s_state hx)) rfl (State_lt (Cellar_s_state hx)) ⟨Nat.le_of_ble_eq_true rfl, Nat.le_of_ble_eq_true rfl⟩ rfl rfl (Nat.le_of_ble_eq_true rfl) ?_
  show bq_W _ _ _ _ _ 8 _ [_] _ _ _ _ _ _
  refine q_astore_nN (pc := 8) dX11_drop_8 rfl (Nat.le_of_ble_eq_true rfl) rfl ?_
  show bq_W _ _ _ _ _ 9 [_, _, _] _ _ _ _ _ _ _
  refine q_aload_nN (pc := 9) dX11_drop_9 rfl rfl ?_
  refine q_ifnullN (pc := 10) 20 dX11_drop_10 (by decide) ?_
  refine q_aload_n (pc := 20) dX11_drop_20 rfl rfl ?_
  refine q_iconst (pc := 21) (v := nI 5) dX11_drop_21 (by decide) ?_
  refine q_callVF (pc := 22) dX11_drop_22 kX11_85 (c_refuse hx) (Cellar_sh hx) rfl (Cellar_lt hx) ⟨Nat.le_of_ble_eq_true rfl, Nat.le_of_ble_eq_true rfl⟩ rfl rfl (Nat.le_of_ble_eq_true rfl) ?_
  show bq_W _ _ _ _ _ 25 _ [_] _ _ _ _ _ _
  exact q_iret (st := []) (pc := 25) dX11_drop_25 rfl (qOp.ref hX' (by unfold p_drop; rw [if_pos ho]))
set_option maxHeartbeats 400000 in
set_option maxRecDepth 20000 in
theorem m_drop_b {S : BqH} {n : Nat} {I : BqI} {L : BqL} {P : BqP} {x : Nat} {g : BqG} {h : Nat → BqG} {ch en : Nat} (hX : CXS x S n I L P g h ch) (hG : GI g en) (hen : en < 2 ^ 29) {o : Nat} (ho : o < gn g 2) : bq_Sp mX11_drop 6 144 0 0 [.ref x, .int (nI o)] S n I L P (qOp x I L S n P (n_drop g h ch (I x 10) o)) := by
  refine q_entry (vs := [some (.ref x), some (.int (nI o)), none]) (by decide +kernel) (by simp) (Nat.le_of_ble_eq_true rfl) rfl ?_
  have hX' := hX
  obtain ⟨hx, hC, hc, hl, π, hP, hh⟩ := hX
  have hC0 := put_1 (π := π) (ch := ch) hC
  have hoc : gn g 2 ≤ 10 := hG.2.2.2.1
  have ho10 : o < 10 := by omega
  have hcc : I (x + 1) 12 = nI (gn g 2) := (hC.1.at (k := 2) rfl).trans (hG.n (by decide) (by decide))
  have hst : I (x + 1 + 43 + o) 4 = g (208 + 9 * o) := by rw [show x + 1 + 43 + o = x + 1 + (43 + o) by omega, hC.1.at (lc_O ho10 (k := 4) (by decide))]; congr 1; omega
  refine q_aload_n (pc := 0) dX11_drop_0 rfl rfl ?_
  refine q_getP (pc := 1) dX11_drop_1 fX11_10 (Cellar_sh hx) ⟨by decide, rfl⟩ (Cellar_lt hx) (Cellar_p_state hx) ?_
  refine q_iload_n (pc := 4) dX11_drop_4 rfl rfl ?_
  refine q_callVF (pc := 5) dX11_drop_5 kX11_175 (c_orderAt (Cellar_s_state hx) hcc ho hoc) (State_sh (Cellar_s_state hx)) rfl (State_lt (Cellar_s_state hx)) ⟨Nat.le_of_ble_eq_true rfl, Nat.le_of_ble_eq_true rfl⟩ rfl rfl (Nat.le_of_ble_eq_true rfl) ?_
  show bq_W _ _ _ _ _ 8 _ [_] _ _ _ _ _ _
  refine q_astore_n (pc := 8) dX11_drop_8 rfl (Nat.le_of_ble_eq_true rfl) rfl ?_
  show bq_W _ _ _ _ _ 9 [_, _, _] _ _ _ _ _ _ _
  refine q_aload_n (pc := 9) dX11_drop_9 rfl rfl ?_
  refine q_ifnull (pc := 10) dX11_drop_10 ?_
  refine q_aload_n (pc := 13) dX11_drop_13 rfl rfl ?_
  refine q_getI (pc := 14) dX11_drop_14 fX11_172 (Order_sh (Stateorders_s_el (Cellar_s_state hx) (Nat.lt_of_lt_of_le ho hoc))) ⟨by decide, rfl⟩ (Order_lt (Stateorders_s_el (Cellar_s_state hx) (Nat.lt_of_lt_of_le ho hoc))) ?_
  rw [hst]
  refine q_if_eq (pc := 17) 26 dX11_drop_17 (by decide) (fun c_17 => ?_) (fun c_17 => ?_)
  · refine q_aload_n (pc := 26) dX11_drop_26 rfl rfl ?_
    refine q_callVF (pc := 27) dX11_drop_27 kX11_89 (c_putBy hx hP hc (by omega)) (Cellar_sh hx) rfl (Cellar_lt hx) ⟨Nat.le_of_ble_eq_true rfl, Nat.le_of_ble_eq_true rfl⟩ rfl rfl (Nat.le_of_ble_eq_true rfl) ?_
    show bq_W _ _ _ _ _ 30 _ [] _ _ _ _ _ _
    refine q_aload_n (pc := 30) dX11_drop_30 rfl rfl ?_
    refine q_iconst (pc := 31) (v := nI 2) dX11_drop_31 (by decide) ?_
    refine q_putI (pc := 32) dX11_drop_32 (pX11_172 _) (Order_sh (Stateorders_s_el (Cellar_s_state hx) (Nat.lt_of_lt_of_le ho hoc))) ⟨by decide, rfl⟩ (Order_lt (Stateorders_s_el (Cellar_s_state hx) (Nat.lt_of_lt_of_le ho hoc))) ?_
    refine q_nameI (fun I2 e2 => ?_)
    have C2 : CS I2 (st_cpL L (x + 165 + 53 * π ch) (x + 1)) (x + 1) (x_drop g o) := by rw [e2, show x + 1 + 43 + o = x + 1 + (43 + o) by omega]; exact ⟨hC0.1.u (lc_O ho10 (k := 4) (by decide)) (nI 2), CSL_drop c_17 ho10 hC0.2⟩
    have hM := mid_mk hx hP hC hc hl hh C2 (by rw [e2]; exact Frm.rf.u (Or.inl (by omega))) FrmL.rf
    have hcc2 : I2 (x + 1) 12 = nI (gn g 2) := by rw [C2.1.at (k := 2) rfl]; unfold x_drop; rw [bq_r_ne (by omega)]; exact hG.n (by decide) (by decide)
    refine q_aload_n (pc := 35) dX11_drop_35 rfl rfl ?_
    refine q_aload_n (pc := 36) dX11_drop_36 rfl rfl ?_
    refine q_getP (pc := 37) dX11_drop_37 fX11_10 (Cellar_sh hx) ⟨by decide, rfl⟩ (Cellar_lt hx) (Cellar_p_state hx) ?_
    refine q_callVF (pc := 40) dX11_drop_40 kX11_179 (c_X8_openOrders (Cellar_s_state hx) hcc2 hoc) (State_sh (Cellar_s_state hx)) rfl (State_lt (Cellar_s_state hx)) ⟨Nat.le_of_ble_eq_true rfl, Nat.le_of_ble_eq_true rfl⟩ rfl rfl (Nat.le_of_ble_eq_true rfl) ?_
    show bq_W _ _ _ _ _ 43 _ [_, _] _ _ _ _ _ _
    rw [show bq_ct (fun i => I2 (x + 1 + 43 + i) 4) 0 (gn g 2) = bq_ct (fun i => x_drop g o (208 + 9 * i)) 0 (gn g 2) from bq_ct_congr _ (fun i hi => by rw [show x + 1 + 43 + i = x + 1 + (43 + i) by omega, C2.1.at (lc_O (show i < 10 by omega) (k := 4) (by decide))]; congr 1; omega)]
    rw [show n_drop g h ch (I x 10) o = chg g (x_drop g o) h ch (I x 10) (nI (bq_ct (fun i => x_drop g o (208 + 9 * i)) 0 (gn g 2))) from by unfold n_drop; rw [if_pos c_17]]
    refine q_callV (pc := 43) dX11_drop_43 kX11_95 (c_changed hM) (Cellar_sh hx) rfl (Cellar_lt hx) ⟨Nat.le_of_ble_eq_true rfl, Nat.le_of_ble_eq_true rfl⟩ rfl rfl (Nat.le_of_ble_eq_true rfl) ?_
    rintro _ _ _ I9 L9 P9 ⟨rfl, rfl, rfl, Q⟩
    show bq_W _ _ _ _ _ 46 _ [_] _ _ _ _ _ _
    exact q_iret (st := []) (pc := 46) dX11_drop_46 rfl ⟨rfl, rfl, rfl, Q⟩
  · refine q_aload_n (pc := 20) dX11_drop_20 rfl rfl ?_
    refine q_iconst (pc := 21) (v := nI 5) dX11_drop_21 (by decide) ?_
    refine q_callVF (pc := 22) dX11_drop_22 kX11_85 (c_refuse hx) (Cellar_sh hx) rfl (Cellar_lt hx) ⟨Nat.le_of_ble_eq_true rfl, Nat.le_of_ble_eq_true rfl⟩ rfl rfl (Nat.le_of_ble_eq_true rfl) ?_
    show bq_W _ _ _ _ _ 25 _ [_] _ _ _ _ _ _
    exact q_iret (st := []) (pc := 25) dX11_drop_25 rfl (qOp.ref hX' (by unfold n_drop; rw [if_neg c_17]))
theorem m_drop {S : BqH} {n : Nat} {I : BqI} {L : BqL} {P : BqP} {x : Nat} {g : BqG} {h : Nat → BqG} {ch en : Nat} (hX : CXS x S n I L P g h ch) (hG : GI g en) (hen : en < 2 ^ 29) {o : Int32} : bq_Sp mX11_drop 6 144 0 0 [.ref x, .int o] S n I L P (qOp x I L S n P (p_drop g h ch (I x 10) o)) := by
  rcases bq_inO hG o with ho | ⟨o, ho, rfl⟩
  · exact m_drop_a hX hG hen ho
  · rw [p_drop_n hG ho]; exact m_drop_b hX hG hen ho
