/-! brew in the class -/
theorem sub_n0 (v : Int32) : v - nI 0 = v := by rw [nI_0]; exact Int32.sub_zero v
theorem CSI.abt {I : BqI} {s b : Nat} {g : BqG} {l st : Int32} (h : CSI I s g) (h3 : I s 3 = nI b) (hb : b < 16) : CSI (ab_I I s b l st) s (bq_r (bq_r (bq_r (bq_r g (124 + 5 * b) st) (128 + 5 * b) (g 0)) (125 + 5 * b) l) 1 (nI (b + 1))) := by
  have e0 : bq_u I (s + 2) b st s 0 = g 0 := (congrFun (bq_u_ne (by omega)) 0).trans (h.at (k := 0) rfl)
  have e3 : bq_u (bq_u (bq_u I (s + 2) b st) (s + 3) b (g 0)) (s + 4 + 1) b l s 3 = nI b := by
    rw [bq_u_ne (by omega), bq_u_ne (by omega), bq_u_ne (by omega), h3]
  unfold ab_I
  rw [e0, e3, nI_add]
  have l4 : lc (128 + 5 * b) = some (3, b) := (congrArg lc (by omega)).trans (lc_B (b := b) (j := 4) hb (by decide))
  have l1 : lc (125 + 5 * b) = some (5, b) := (congrArg lc (by omega)).trans (lc_B (b := b) (j := 1) hb (by decide))
  exact (((h.u (lc_B0 hb) st).u l4 (g 0)).u l1 l).u (k := 1) (a := 0) (j := 3) rfl (nI (b + 1))
theorem Frm.abt {x b : Nat} {I : BqI} {l st : Int32} : Frm x I (ab_I I (x + 1) b l st) := fun a ha => by
  unfold ab_I
  rw [bq_u_ne (by omega), bq_u_ne (by omega), bq_u_ne (by omega), bq_u_ne (by omega)]
theorem x_brew_cm {g : BqG} {t : Nat} {l s : Int32} (ht : t < 6) : x_brew0 g t l s = bq_r (bq_r (bq_r (bq_r (bq_r (bq_r g (124 + 5 * gn g 1) s) (128 + 5 * gn g 1) (g 0)) (125 + 5 * gn g 1) l) 1 (nI (gn g 1 + 1))) (13 + 19 * t + gn g 1) l) (11 + 19 * t) (nI 1) := by
  unfold x_brew0
  rw [bq_r_cm (a := 11 + 19 * t) (b := 13 + 19 * t + gn g 1) (by omega), show 124 + 5 * gn g 1 + 1 = 125 + 5 * gn g 1 by omega, show 124 + 5 * gn g 1 + 4 = 128 + 5 * gn g 1 by omega, bq_r_cm (a := 125 + 5 * gn g 1) (b := 128 + 5 * gn g 1) (by omega)]
theorem x_brew_hi {g : BqG} {t k : Nat} {l s : Int32} (ht : t < 6) (hb : gn g 1 < 16) (h : k = 6 ∨ (204 ≤ k ∧ k < 324)) : x_brew g t l s k = g k := by
  unfold x_brew x_brew0
  rw [g_note_ne (by omega) (by omega), bq_r_ne (by omega), bq_r_ne (by omega), bq_r_ne (by omega), bq_r_ne (by omega), bq_r_ne (by omega), bq_r_ne (by omega)]
set_option maxHeartbeats 1000000 in
set_option maxRecDepth 20000 in
theorem m_brew_a {S : BqH} {n : Nat} {I : BqI} {L : BqL} {P : BqP} {x : Nat} {g : BqG} {h : Nat → BqG} {ch en : Nat} (hX : CXS x S n I L P g h ch) (hG : GI g en) (hen : en < 2 ^ 29) {t l s : Int32} (ht : t < nI 0 ∨ ¬ t ≤ nI 5) : bq_Sp mX11_brew 6 144 0 0 [.ref x, .int t, .int l, .int s] S n I L P (qOp x I L S n P (p_brew g h ch (I x 10) t l s)) := by
  refine q_entry (vs := [some (.ref x), some (.int t), some (.int l), some (.int s), none, none]) (by decide +kernel) (by simp) (Nat.le_of_ble_eq_true rfl) rfl ?_
  have hX' := hX
  obtain ⟨hx, hC, hc, hl, π, hP, hh⟩ := hX
  refine q_aload_n (pc := 0) dX11_brew_0 rfl rfl ?_
  refine q_getP (pc := 1) dX11_brew_1 fX11_10 (Cellar_sh hx) ⟨by decide, rfl⟩ (Cellar_lt hx) (Cellar_p_state hx) ?_
  refine q_iload_n (pc := 4) dX11_brew_4 rfl rfl ?_
  refine q_callVF (pc := 5) dX11_brew_5 kX11_65 (c_tankAt0 (Cellar_s_state hx) ht) (State_sh (Cellar_s_state hx)) rfl (State_lt (Cellar_s_state hx)) ⟨Nat.le_of_ble_eq_true rfl, Nat.le_of_ble_eq_true rfl⟩ rfl rfl (Nat.le_of_ble_eq_true rfl) ?_
  show bq_W _ _ _ _ _ 8 _ [_] _ _ _ _ _ _
  refine q_astoreN (pc := 8) dX11_brew_8 (Nat.le_of_ble_eq_true rfl) rfl ?_
  show bq_W _ _ _ _ _ 10 [_, _, _, _, _, _] _ _ _ _ _ _ _
  refine q_aloadN (pc := 10) dX11_brew_10 rfl ?_
  refine q_ifnonnullN (pc := 12) dX11_brew_12 ?_
  refine q_iconst (pc := 15) (v := (-1)) dX11_brew_15 (by decide) ?_
  exact q_iret (st := []) (pc := 16) dX11_brew_16 rfl (qOp.same hX' (by unfold p_brew; rw [if_pos ht]))
set_option maxHeartbeats 2380000 in
set_option maxRecDepth 20000 in
theorem m_brew_b {S : BqH} {n : Nat} {I : BqI} {L : BqL} {P : BqP} {x : Nat} {g : BqG} {h : Nat → BqG} {ch en : Nat} (hX : CXS x S n I L P g h ch) (hG : GI g en) (hen : en < 2 ^ 29) {t : Nat} {l s : Int32} (ht : t < 6) : bq_Sp mX11_brew 6 144 0 0 [.ref x, .int (nI t), .int l, .int s] S n I L P (qOp x I L S n P (p_brew g h ch (I x 10) (nI t) l s)) := by
  refine q_entry (vs := [some (.ref x), some (.int (nI t)), some (.int l), some (.int s), none, none]) (by decide +kernel) (by simp) (Nat.le_of_ble_eq_true rfl) rfl ?_
  have hX' := hX
  obtain ⟨hx, hC, hc, hl_, π, hP, hh⟩ := hX
  have hC0 := put_1 (π := π) (ch := ch) hC
  have hnt := bq_tin (k := 5) ht (by decide)
  have a0 := hC.1.a0 ht
  have a1 : I (x + 1 + 15 + 3 * t) 1 = nI (gn g (11 + 19 * t)) := hC.1.tn1 hG ht
  have hs : bq_sum (I (x + 1 + 15 + 3 * t + 2)) 16 = nI (gt g t) := bq_sum_n 16 (hC.1.pn hG ht)
  obtain ⟨q1, q2, q3, q4, q5, q6⟩ := hG.t ht
  have h3 : I (x + 1) 3 = nI (gn g 1) := (hC.1.at (k := 1) rfl).trans (hG.n (by decide) (by decide))
  have h3l : gn g 1 ≤ 16 := hG.2.2.1
  have hb5 : gn g 5 ≤ en := hG.2.2.2.2.2.2.1
  have hc3 : (st_cpI I (x + 165 + 53 * π ch) (x + 1)) (x + 1) 3 = nI (gn g 1) := (hC0.1.at (k := 1) rfl).trans (hG.n (by decide) (by decide))
  refine q_aload_n (pc := 0) dX11_brew_0 rfl rfl ?_
  refine q_getP (pc := 1) dX11_brew_1 fX11_10 (Cellar_sh hx) ⟨by decide, rfl⟩ (Cellar_lt hx) (Cellar_p_state hx) ?_
  refine q_iload_n (pc := 4) dX11_brew_4 rfl rfl ?_
  refine q_callVF (pc := 5) dX11_brew_5 kX11_65 (c_tankAt (Cellar_s_state hx) ht) (State_sh (Cellar_s_state hx)) rfl (State_lt (Cellar_s_state hx)) ⟨Nat.le_of_ble_eq_true rfl, Nat.le_of_ble_eq_true rfl⟩ rfl rfl (Nat.le_of_ble_eq_true rfl) ?_
  show bq_W _ _ _ _ _ 8 _ [_] _ _ _ _ _ _
  refine q_astore (pc := 8) dX11_brew_8 (Nat.le_of_ble_eq_true rfl) rfl ?_
  show bq_W _ _ _ _ _ 10 [_, _, _, _, _, _] _ _ _ _ _ _ _
  refine q_aload (pc := 10) dX11_brew_10 rfl ?_
  refine q_ifnonnull (pc := 12) 17 dX11_brew_12 (by decide) ?_
  refine q_iload_n (pc := 17) dX11_brew_17 rfl rfl ?_
  refine q_iconst (pc := 18) (v := nI 1) dX11_brew_18 (by decide) ?_
  refine q_sipush (pc := 19) (v := nI 9999) dX11_brew_19 (by decide) ?_
  refine q_callSF (pc := 22) dX11_brew_22 kX11_69 c_X11_outside ⟨Nat.le_of_ble_eq_true rfl, Nat.le_of_ble_eq_true rfl⟩ rfl rfl (Nat.le_of_ble_eq_true rfl) ?_
  show bq_W _ _ _ _ _ 25 _ [_] _ _ _ _ _ _
  refine q_if_ne (pc := 25) 39 dX11_brew_25 (by decide) (fun c_25 => ?_) (fun c_25 => ?_)
  · replace c_25 := bq_bn.mp c_25
    refine q_bipush (pc := 39) (v := (-2)) dX11_brew_39 (by decide) ?_
    exact q_iret (st := []) (pc := 41) dX11_brew_41 rfl (qOp.same hX' (by unfold p_brew; rw [if_neg hnt, if_pos (by first | exact Or.inl c_25 | exact Or.inr c_36)]))
  · replace c_25 := bq_b0.mp c_25
    refine q_iload_n (pc := 28) dX11_brew_28 rfl rfl ?_
    refine q_iconst (pc := 29) (v := nI 0) dX11_brew_29 (by decide) ?_
    refine q_sipush (pc := 30) (v := nI 2000) dX11_brew_30 (by decide) ?_
    refine q_callSF (pc := 33) dX11_brew_33 kX11_69 c_X11_outside ⟨Nat.le_of_ble_eq_true rfl, Nat.le_of_ble_eq_true rfl⟩ rfl rfl (Nat.le_of_ble_eq_true rfl) ?_
    show bq_W _ _ _ _ _ 36 _ [_] _ _ _ _ _ _
    refine q_if_eq (pc := 36) 42 dX11_brew_36 (by decide) (fun c_36 => ?_) (fun c_36 => ?_)
    · replace c_36 := bq_b0.mp c_36
      have hw := p_brew_n (g := g) (h := h) (ch := ch) (y := I x 10) ht (l := l) (s := s) (by rintro (q | q); exact c_25 q; exact c_36 q)
      refine q_aload_n (pc := 42) dX11_brew_42 rfl rfl ?_
      refine q_getP (pc := 43) dX11_brew_43 fX11_10 (Cellar_sh hx) ⟨by decide, rfl⟩ (Cellar_lt hx) (Cellar_p_state hx) ?_
      refine q_getI (pc := 46) dX11_brew_46 fX11_98 (State_sh (Cellar_s_state hx)) ⟨by decide, rfl⟩ (State_lt (Cellar_s_state hx)) ?_
      rw [h3]
      refine q_bipush (pc := 49) (v := nI 16) dX11_brew_49 (by decide) ?_
      refine q_icmp_lt (pc := 51) 57 dX11_brew_51 (by decide) (fun c_51 => ?_) (fun c_51 => ?_)
      · have hr : gn g 1 < 16 := (nI_ltI (by omega) (by decide)).mp c_51
        refine q_aload (pc := 57) dX11_brew_57 rfl ?_
        refine q_getI (pc := 59) dX11_brew_59 fX11_101 (Tank_sh (Statetanks_s_el (Cellar_s_state hx) ht)) ⟨by decide, rfl⟩ (Tank_lt (Statetanks_s_el (Cellar_s_state hx) ht)) ?_
        rw [a1]
        refine q_if_eq (pc := 62) 71 dX11_brew_62 (by decide) (fun c_62 => ?_) (fun c_62 => ?_)
        · have hz : gn g (11 + 19 * t) = 0 := (nI_eq (by omega) (by decide)).mp c_62
          have hgt : gt g t = 0 := by have := q6.mpr; omega
          refine q_iload_n (pc := 71) dX11_brew_71 rfl rfl ?_
          refine q_aload (pc := 72) dX11_brew_72 rfl ?_
          refine q_callVF (pc := 74) dX11_brew_74 kX11_104 (c_X9_room (Statetanks_s_el (Cellar_s_state hx) ht)) (Tank_sh (Statetanks_s_el (Cellar_s_state hx) ht)) rfl (Tank_lt (Statetanks_s_el (Cellar_s_state hx) ht)) ⟨Nat.le_of_ble_eq_true rfl, Nat.le_of_ble_eq_true rfl⟩ rfl rfl (Nat.le_of_ble_eq_true rfl) ?_
          show bq_W _ _ _ _ _ 77 _ [_, _] _ _ _ _ _ _
          rw [a0, hs, hgt, sub_n0]
          refine q_icmp_le (pc := 77) 86 dX11_brew_77 (by decide) (fun c_77 => ?_) (fun c_77 => ?_)
          · refine q_aload_n (pc := 86) dX11_brew_86 rfl rfl ?_
            refine q_callVF (pc := 87) dX11_brew_87 kX11_89 (c_putBy hx hP hc (by omega)) (Cellar_sh hx) rfl (Cellar_lt hx) ⟨Nat.le_of_ble_eq_true rfl, Nat.le_of_ble_eq_true rfl⟩ rfl rfl (Nat.le_of_ble_eq_true rfl) ?_
            show bq_W _ _ _ _ _ 90 _ [] _ _ _ _ _ _
            refine q_aload_n (pc := 90) dX11_brew_90 rfl rfl ?_
            refine q_getP (pc := 91) dX11_brew_91 fX11_10 (Cellar_sh hx) ⟨by decide, rfl⟩ (Cellar_lt hx) (Cellar_p_state hx) ?_
            refine q_iload_n (pc := 94) dX11_brew_94 rfl rfl ?_
            refine q_iload_n (pc := 95) dX11_brew_95 rfl rfl ?_
            refine q_callVF (pc := 96) dX11_brew_96 kX11_107 (c_X8_addBatch (Cellar_s_state hx) hc3 hr) (State_sh (Cellar_s_state hx)) rfl (State_lt (Cellar_s_state hx)) ⟨Nat.le_of_ble_eq_true rfl, Nat.le_of_ble_eq_true rfl⟩ rfl rfl (Nat.le_of_ble_eq_true rfl) ?_
            show bq_W _ _ _ _ _ 99 _ [_] _ _ _ _ _ _
            refine q_nameI (fun I2 e2 => ?_)
            have C2 := hC0.1.abt (l := l) (st := s) hc3 hr
            rw [← e2] at C2
            have F2 : Frm x (st_cpI I (x + 165 + 53 * π ch) (x + 1)) I2 := by rw [e2]; exact Frm.abt
            refine q_istore (pc := 99) dX11_brew_99 (Nat.le_of_ble_eq_true rfl) rfl ?_
            show bq_W _ _ _ _ _ 101 [_, _, _, _, _, _] _ _ _ _ _ _ _
            refine q_aload (pc := 101) dX11_brew_101 rfl ?_
            refine q_getP (pc := 103) dX11_brew_103 fX11_73 (Tank_sh (Statetanks_s_el (Cellar_s_state hx) ht)) ⟨by decide, rfl⟩ (Tank_lt (Statetanks_s_el (Cellar_s_state hx) ht)) (Tank_p_content (Statetanks_s_el (Cellar_s_state hx) ht)) ?_
            refine q_getP (pc := 106) dX11_brew_106 fX11_111 (Blend_sh (Tank_s_content (Statetanks_s_el (Cellar_s_state hx) ht))) ⟨by decide, rfl⟩ (Blend_lt (Tank_s_content (Statetanks_s_el (Cellar_s_state hx) ht))) (Blend_p_parts (Tank_s_content (Statetanks_s_el (Cellar_s_state hx) ht))) ?_
            refine q_iload (pc := 109) dX11_brew_109 rfl ?_
            refine q_iload_n (pc := 111) dX11_brew_111 rfl rfl ?_
            refine q_iast (pc := 112) dX11_brew_112 (oA_sh (Blend_s_parts (Tank_s_content (Statetanks_s_el (Cellar_s_state hx) ht)))) (oA_lt (Blend_s_parts (Tank_s_content (Statetanks_s_el (Cellar_s_state hx) ht)))) rfl hr ?_
            refine q_aload (pc := 113) dX11_brew_113 rfl ?_
            refine q_iconst (pc := 115) (v := nI 1) dX11_brew_115 (by decide) ?_
            refine q_putI (pc := 116) dX11_brew_116 (pX11_101 _) (Tank_sh (Statetanks_s_el (Cellar_s_state hx) ht)) ⟨by decide, rfl⟩ (Tank_lt (Statetanks_s_el (Cellar_s_state hx) ht)) ?_
            refine q_nameI (fun I3 e3 => ?_)
            have C3 : CSI I3 (x + 1) (x_brew0 g t l s) := by rw [e3, x_brew_cm ht, show x + 1 + 15 + 3 * t + 1 + 1 = x + 1 + (17 + 3 * t) by omega, show x + 1 + 15 + 3 * t = x + 1 + (15 + 3 * t) by omega]; exact (C2.u (lc_P ht hr) l).u ((congrArg lc (by omega)).trans (lc_T (t := t) (k := 1) ht (by decide))) (nI 1)
            have F3 : Frm x (st_cpI I (x + 165 + 53 * π ch) (x + 1)) I3 := by rw [e3]; exact (F2.u (Or.inl (by omega))).u (Or.inl (by omega))
            have m3 : I3 (x + 1 + 13) 0 = nI (gn g 5) := by rw [C3.at (k := 5) rfl, x_brew0_5]; exact hG.n (by decide) (by decide)
            refine q_aload_n (pc := 119) dX11_brew_119 rfl rfl ?_
            refine q_getP (pc := 120) dX11_brew_120 fX11_10 (Cellar_sh hx) ⟨by decide, rfl⟩ (Cellar_lt hx) (Cellar_p_state hx) ?_
            refine q_iconst (pc := 123) (v := nI 0) dX11_brew_123 (by decide) ?_
            refine q_iload_n (pc := 124) dX11_brew_124 rfl rfl ?_
            refine q_iload_n (pc := 125) dX11_brew_125 rfl rfl ?_
            refine q_callVF (pc := 126) dX11_brew_126 kX11_115 (c_X8_note (Cellar_s_state hx) m3 (by omega)) (State_sh (Cellar_s_state hx)) rfl (State_lt (Cellar_s_state hx)) ⟨Nat.le_of_ble_eq_true rfl, Nat.le_of_ble_eq_true rfl⟩ rfl rfl (Nat.le_of_ble_eq_true rfl) ?_
            show bq_W _ _ _ _ _ 129 _ [] _ _ _ _ _ _
            refine q_nameI (fun I4 e4 => ?_)
            have C4 : CS I4 (st_cpL L (x + 165 + 53 * π ch) (x + 1)) (x + 1) (x_brew g t l s) := by rw [e4]; exact ⟨C3.note (gn g 5) (nI 0) (nI t) l, hC0.2.congr (x_brew_hi ht hr (Or.inl rfl)) (fun k k1 k2 => x_brew_hi ht hr (Or.inr ⟨k1, by omega⟩))⟩
            have hM := mid_mk hx hP hC hc hl_ hh C4 (by rw [e4]; exact F3.jw ⟨Or.inl (by omega), Or.inl (by omega)⟩) FrmL.rf
            rw [show p_brew g h ch (I x 10) (nI t) l s = chg g (x_brew g t l s) h ch (I x 10) (nI (gn g 1)) from by rw [hw]; unfold n_brew; rw [if_neg (not_not_intro hr), if_neg (not_not_intro hz), if_neg (not_not_intro c_77)]]
            refine q_aload_n (pc := 129) dX11_brew_129 rfl rfl ?_
            refine q_iload (pc := 130) dX11_brew_130 rfl ?_
            refine q_callV (pc := 132) dX11_brew_132 kX11_95 (c_changed hM) (Cellar_sh hx) rfl (Cellar_lt hx) ⟨Nat.le_of_ble_eq_true rfl, Nat.le_of_ble_eq_true rfl⟩ rfl rfl (Nat.le_of_ble_eq_true rfl) ?_
            rintro _ _ _ I9 L9 P9 ⟨rfl, rfl, rfl, Q⟩
            show bq_W _ _ _ _ _ 135 _ [_] _ _ _ _ _ _
            exact q_iret (st := []) (pc := 135) dX11_brew_135 rfl ⟨rfl, rfl, rfl, Q⟩
          · refine q_aload_n (pc := 80) dX11_brew_80 rfl rfl ?_
            refine q_iconst (pc := 81) (v := nI 4) dX11_brew_81 (by decide) ?_
            refine q_callVF (pc := 82) dX11_brew_82 kX11_85 (c_refuse hx) (Cellar_sh hx) rfl (Cellar_lt hx) ⟨Nat.le_of_ble_eq_true rfl, Nat.le_of_ble_eq_true rfl⟩ rfl rfl (Nat.le_of_ble_eq_true rfl) ?_
            show bq_W _ _ _ _ _ 85 _ [_] _ _ _ _ _ _
            exact q_iret (st := []) (pc := 85) dX11_brew_85 rfl (qOp.ref hX' (by rw [hw]; unfold n_brew; rw [if_neg (not_not_intro hr), if_neg (not_not_intro hz), if_pos c_77]))
        · refine q_aload_n (pc := 65) dX11_brew_65 rfl rfl ?_
          refine q_iconst (pc := 66) (v := nI 2) dX11_brew_66 (by decide) ?_
          refine q_callVF (pc := 67) dX11_brew_67 kX11_85 (c_refuse hx) (Cellar_sh hx) rfl (Cellar_lt hx) ⟨Nat.le_of_ble_eq_true rfl, Nat.le_of_ble_eq_true rfl⟩ rfl rfl (Nat.le_of_ble_eq_true rfl) ?_
          show bq_W _ _ _ _ _ 70 _ [_] _ _ _ _ _ _
          exact q_iret (st := []) (pc := 70) dX11_brew_70 rfl (qOp.ref hX' (by rw [hw]; unfold n_brew; rw [if_neg (not_not_intro hr), if_pos (fun z => c_62 (by rw [z]; decide))]))
      · refine q_bipush (pc := 54) (v := (-4)) dX11_brew_54 (by decide) ?_
        exact q_iret (st := []) (pc := 56) dX11_brew_56 rfl (qOp.same hX' (by rw [hw]; unfold n_brew; rw [if_pos (fun z => c_51 (nI_lt z (by decide)))]))
    · replace c_36 := bq_bn.mp c_36
      refine q_bipush (pc := 39) (v := (-2)) dX11_brew_39 (by decide) ?_
      exact q_iret (st := []) (pc := 41) dX11_brew_41 rfl (qOp.same hX' (by unfold p_brew; rw [if_neg hnt, if_pos (by first | exact Or.inl c_25 | exact Or.inr c_36)]))
theorem m_brew {S : BqH} {n : Nat} {I : BqI} {L : BqL} {P : BqP} {x : Nat} {g : BqG} {h : Nat → BqG} {ch en : Nat} (hX : CXS x S n I L P g h ch) (hG : GI g en) (hen : en < 2 ^ 29) {t l s : Int32} : bq_Sp mX11_brew 6 144 0 0 [.ref x, .int t, .int l, .int s] S n I L P (qOp x I L S n P (p_brew g h ch (I x 10) t l s)) := by
  rcases bq_in5 t 5 (by decide) with ht | ⟨t, ht, rfl⟩
  · exact m_brew_a hX hG hen ht
  · exact m_brew_b hX hG hen ht
