/-! brew in the class -/
theorem sub_n0 (v : Int32) : v - nI 0 = v := by rw [nI_0]; exact Int32.sub_zero v
theorem CSI.abt {I : BqI} {s b : Nat} {g : BqG} {l st : Int32} (h : CSI I s g) (h3 : I s 3 = nI b) (hb : b < 16) : CSI (ab_I I s b l st) s (bq_r (bq_r (bq_r (bq_r g (124 + 5 * b) st) (128 + 5 * b) (g 0)) (125 + 5 * b) l) 1 (nI (b + 1))) := by
  have e0 : bq_u I (s + 2) b st s 0 = g 0 := (congrFun (bq_u_ne (by omega)) 0).trans (h.at (k := 0) rfl)
  have e3 : bq_u (bq_u (bq_u I (s + 2) b st) (s + 3) b (g 0)) (s + 4 + 1) b l s 3 = nI b := by
    rw [bq_u_ne (by omega), bq_u_ne (by omega), bq_u_ne (by omega), h3]
  unfold ab_I
  rw [e0, e3, nI_add]
  have l4 : lc (128 + 5 * b) = some (3, b) := (congrArg lc (by omega)).trans (lc_B (b := b) (j := 4) hb (by decide))
  have l1 : lc (125 + 5 * b) = some (5, b) := (congrArg lc (by omega)).trans (lc_B (b := b) (j := 1) hb (by decide))
  exact (((h.u (lc_B0 hb) st).u l4 (g 0)).u l1 l).u (k := 1) (a := 0) (j := 3) rfl (nI (b + 1))
theorem Frm.abt {x b : Nat} {I : BqI} {l st : Int32} : Frm x I (ab_I I (x + 1) b l st) := fun a ha => by
  unfold ab_I
  rw [bq_u_ne (by omega), bq_u_ne (by omega), bq_u_ne (by omega), bq_u_ne (by omega)]
theorem x_brew_cm {g : BqG} {t : Nat} {l s : Int32} (ht : t < 6) : x_brew0 g t l s = bq_r (bq_r (bq_r (bq_r (bq_r (bq_r g (124 + 5 * gn g 1) s) (128 + 5 * gn g 1) (g 0)) (125 + 5 * gn g 1) l) 1 (nI (gn g 1 + 1))) (13 + 19 * t + gn g 1) l) (11 + 19 * t) (nI 1) := by
  unfold x_brew0
  rw [bq_r_cm (a := 11 + 19 * t) (b := 13 + 19 * t + gn g 1) (by omega), show 124 + 5 * gn g 1 + 1 = 125 + 5 * gn g 1 by omega, show 124 + 5 * gn g 1 + 4 = 128 + 5 * gn g 1 by omega, bq_r_cm (a := 125 + 5 * gn g 1) (b := 128 + 5 * gn g 1) (by omega)]
theorem x_brew_hi {g : BqG} {t k : Nat} {l s : Int32} (ht : t < 6) (hb : gn g 1 < 16) (h : k = 6 ∨ (204 ≤ k ∧ k < 324)) : x_brew g t l s k = g k := by
  unfold x_brew x_brew0
  rw [g_note_ne (by omega) (by omega), bq_r_ne (by omega), bq_r_ne (by omega), bq_r_ne (by omega), bq_r_ne (by omega), bq_r_ne (by omega), bq_r_ne (by omega)]
set_option maxHeartbeats 1000000 in
set_option maxRecDepth 20000 in
theorem m_brew_a {S : BqH} {n : Nat} {I : BqI} {L : BqL} {P : BqP} {x : Nat} {g : BqG} {h : Nat → BqG} {ch en : Nat} (hX : CXS x S n I L P g h ch) (hG : GI g en) (hen : en < 2 ^ 29) {t l s : Int32} (ht : t < nI 0 ∨ ¬ t ≤ nI 5) : bq_Sp mX11_brew 6 144 0 0 [.ref x, .int t, .int l, .int s] S n I L P (qOp x I L S n P (p_brew g h ch (I x 10) t l s)) := by
  refine q_entry (vs := [some (.ref x), some (.int t), some (.int l), some (.int s), none, none]) (by decide +kernel) (by simp) (Nat.le_of_ble_eq_true rfl) rfl ?_
  have hX' := hX
  obtain ⟨hx, hC, hc, hl, π, hP, hh⟩ := hX
  refine q_aload_n (pc := 0) dX11_brew_0 rfl rfl ?_
  refine q_getP (pc := 1) dX11_brew_1 fX11_10 (Cellar_sh hx) ⟨by decide, rfl⟩ (Cellar_lt hx) (Cellar_p_state hx) ?_
  refine q_iload_n (pc := 4) dX11_brew_4 rfl rfl ?_
  refine q_callVF (pc := 5) dX11_brew_5 kX11_65 (c_tankAt0 (Cellar_s_state hx) ht) (State_sh (Cellar_s_state hx)) rfl (State_lt (Cellar_s_state hx)) ⟨Nat.le_of_ble_eq_true rfl, Nat.le_of_ble_eq_true rfl⟩ rfl rfl (Nat.le_of_ble_eq_true rfl) ?_
  show bq_W _ _ _ _ _ 8 _ [_] _ _ _ _ _ _
  refine q_astoreN (pc := 8) dX11_brew_8 (Nat.le_of_ble_eq_true rfl) rfl ?_
  show bq_W _ _ _ _ _ 10 [_, _, _, _, _, _] _ _ _ _ _ _ _
  refine q_aloadN (pc := 10) dX11_brew_10 rfl ?_
  refine q_ifnonnullN (pc := 12) dX11_brew_12 ?_
  refine q_iconst (pc := 15) (v := (-1)) dX11_brew_15 (by decide) ?_
  exact q_iret (st := []) (pc := 16) dX11_brew_16 rfl (qOp.same hX' (by unfold p_brew; rw [if_pos ht]))
set_option maxHeartbeats 2380000 in
set_option maxRecDepth 20000 in
theorem m_brew_b {S : BqH} {n : Nat} {I : BqI} {L : BqL} {P : BqP} {x : Nat} {g : BqG} {h : Nat → BqG} {ch en : Nat} (hX : CXS x S n I L P g h ch) (hG : GI g en) (hen : en < 2 ^ 29) {t : Nat} {l s : Int32} (ht : t < 6) : bq_Sp mX11_brew 6 144 0 0 [.ref x, .int (nI t), .int l, .int s] S n I L P (qOp x I L S n P (p_brew g h ch (I x 10) (nI t) l s)) := by
  refine q_entry (vs := [some (.ref x), some (.int (nI t)), some (.int l), some (.int s), none, none]) (by decide +kernel) (by simp) (Nat.le_of_ble_eq_true rfl) rfl ?_
  have hX' := hX
  obtain ⟨hx, hC, hc, hl_, π, hP, hh⟩ := hX
  have hC0 := put_1 (π := π) (ch := ch) hC
  have hnt := bq_tin (k := 5) ht (by decide)
  have a0 := hC.1.a0 ht
  have a1 : I (x + 1 + 15 + 3 * t) 1 = nI (gn g (11 + 19 * t)) := hC.1.tn1 hG ht
  have hs : bq_sum (I (x + 1 + 15 + 3 * t + 2)) 16 = nI (gt g t) := bq_sum_n 16 (hC.1.pn hG ht)
  obtain ⟨q1, q2, q3, q4, q5, q6⟩ := hG.t ht
  have h3 : I (x + 1) 3 = nI (gn g 1) := (hC.1.at (k := 1) rfl).trans (hG.n (by decide) (by decide))
  have h3l : gn g 1 ≤ 16 := hG.2.2.1
  have hb5 : gn g 5 ≤ en := hG.2.2.2.2.2.2.1
  have hc3 : (st_cpI I (x + 165 + 53 * π ch) (x + 1)) (x + 1) 3 = nI (gn g 1) := (hC0.1.at (k := 1) rfl).trans (hG.n (by decide) (by decide))
  refine q_aload_n (pc := 0) dX11_brew_0 rfl rfl ?_
  refine q_getP (pc := 1) dX11_brew_1 fX11_10 (Cellar_sh hx) ⟨by decide, rfl⟩ (Cellar_lt hx) (Cellar_p_state hx) ?_
  refine q_iload_n (pc := 4) dX11_brew_4 rfl rfl ?_
  refine q_callVF (pc := 5) dX11_brew_5 kX11_65 (c_tankAt (Cellar_s_state hx) ht) (State_sh (Cellar_s_state hx)) rfl (State_lt (Cellar_s_state hx)) ⟨Nat.le_of_ble_eq_true rfl, Nat.le_of_ble_eq_true rfl⟩ rfl rfl (Nat.le_of_ble_eq_true rfl) ?_
  show bq_W _ _ _ _ _ 8 _ [_] _ _ _ _ _ _
  refine q_astore (pc := 8) dX11_brew_8 (Nat.le_of_ble_eq_true rfl) rfl ?_
  show bq_W _ _ _ _ _ 10 [_, _, _, _, _, _] _ _ _ _ _ _ _
  refine q_aload (pc := 10) dX11_brew_10 rfl ?_
  refine q_ifnonnull (pc := 12) 17 dX11_brew_12 (by decide) ?_
  refine q_iload_n (pc := 17) dX11_brew_17 rfl rfl ?_
  refine q_iconst (pc := 18) (v := nI 1) dX11_brew_18 (by decide) ?_
  refine q_sipush (pc := 19) (v := nI 9999) dX11_brew_19 (by decide) ?_
  refine q_callSF (pc := 22) dX11_brew_22 kX11_69 c_X11_outside ⟨Nat.le_of_ble_eq_true rfl, Nat.le_of_ble_eq_true rfl⟩ rfl rfl (Nat.le_of_ble_eq_true rfl) ?_
  show bq_W _ _ _ _ _ 25 _ [_] _ _ _ _ _ _
  refine q_if_ne (pc := 25) 39 dX11_brew_25 (by decide) (fun c_25 => ?_) (fun c_25 => ?_)
  · replace c_25 := bq_bn.mp c_25
    refine q_bipush (pc := 39) (v := (-2)) dX11_brew_39 (by decide) ?_
    exact q_iret (st := []) (pc := 41) dX11_brew_41 rfl (qOp.same hX' (by unfold p_brew; rw [if_neg hnt, if_pos (by first | exact Or.inl c_25 | exact Or.inr c_36)]))
  · replace c_25 := bq_b0.mp c_25
    refine q_iload_n (pc := 28) dX11_brew_28 rfl rfl ?_
    refine q_iconst (pc := 29) (v := nI 0) dX11_brew_29 (by decide) ?_
    refine q_sipush (pc := 30) (v := nI 2000) dX11_brew_30 (by decide) ?_
    refine q_callSF (pc := 33) dX11_brew_33 kX11_69 c_X11_outside ⟨Nat.le_of_ble_eq_true rfl, Nat.le_of_ble_eq_true rfl⟩ rfl rfl (Nat.le_of_ble_eq_true rfl) ?_
    show bq_W _ _ _ _ _ 36 _ [_] _ _ _ _ _ _
    refine q_if_eq (pc := 36) 42 dX11_brew_36 (by decide) (fun c_36 => ?_) (fun c_36 => ?_)
    · replace c_36 := bq_b0.mp c_36
      have hw := p_brew_n (g := g) (h := h) (ch := ch) (y := I x 10) ht (l := l) (s := s) (by rintro (q | q); exact c_25 q; exact c_36 q)
      refine q_aload_n (pc := 42) dX11_brew_42 rfl rfl ?_
      refine q_getP (pc := 43) dX11_brew_43 fX11_10 (Cellar_sh hx) ⟨by decide, rfl⟩ (Cellar_lt hx) (Cellar_p_state hx) ?_
      refine q_getI (pc := 46) dX11_brew_46 fX11_98 (State_sh (Cellar_s_state hx)) ⟨by decide, rfl⟩ (State_lt (Cellar_s_state hx)) ?_
      rw [h3]
      refine q_bipush (pc := 49) (v := nI 16) dX11_brew_49 (by decide) ?_
      refine q_icmp_lt (pc := 51) 57 dX11_brew_51 (by decide) (fun c_51 => ?_) (fun c_51 => ?_)
      · have hr : gn g 1 < 16 := (nI_ltI (by omega) (by decide)).mp c_51
        refine q_aload (pc := 57) dX11_brew_57 rfl ?_
        refine q_getI (pc := 59) dX11_brew_59 fX11_101 (Tank_sh (Statetanks_s_el (Cellar_s_state hx) ht)) ⟨by decide, rfl⟩ (Tank_lt (Statetanks_s_el (Cellar_s_state hx) ht)) ?_
        rw [a1]
        refine q_if_eq (pc := 62) 71 dX11_brew_62 (by decide) (fun c_62 => ?_) (fun c_62 => ?_)
        · have hz : gn g (11 + 19 * t) = 0 := (nI_eq (by omega) (by decide)).mp c_62
          have hgt : gt g t = 0 := by have := q6.mpr; omega
          refine q_iload_n (pc := 71) dX11_brew_71 rfl rfl ?_
          refine q_aload (pc := 72) dX11_brew_72 rfl ?_
          refine q_callVF (pc := 74) dX11_brew_74 kX11_104 (c_X9_room (Statetanks_s_el (Cellar_s_state hx) ht)) (Tank_sh (Statetanks_s_el (Cellar_s_state hx) ht)) rfl (Tank_lt (Statetanks_s_el (Cellar_s_state hx) ht)) ⟨Nat.le_of_ble_eq_true rfl, Nat.le_of_ble_eq_true rfl⟩ rfl rfl (Nat.le_of_ble_eq_true rfl) ?_
          show bq_W _ _ _ _ _ 77 _ [_, _] _ _ _ _ _ _
          rw [a0, hs, hgt, sub_n0]
          refine q_icmp_le (pc := 77) 86 dX11_brew_77 (by decide) (fun c_77 => ?_) (fun c_77 => ?_)
          · refine q_aload_n (pc := 86) dX11_brew_86 rfl rfl ?_
            refine q_callVF (pc := 87) dX11_brew_87 kX11_89 (c_putBy hx hP hc (by omega)) (Cellar_sh hx) rfl (Cellar_lt hx) ⟨Nat.le_of_ble_eq_true rfl, Nat.le_of_ble_eq_true rfl⟩ rfl rfl (Nat.le_of_ble_eq_true rfl) ?_
            show bq_W _ _ _ _ _ 90 _ [] _ _ _ _ _ _
            refine q_aload_n (pc := 90) dX11_brew_90 rfl rfl ?_
            refine q_getP (pc := 91) dX11_brew_91 fX11_10 (Cellar_sh hx) ⟨by decide, rfl⟩ (Cellar_lt hx) (Cellar_p_state hx) ?_
            refine q_iload_n (pc := 94) dX11_brew_94 rfl rfl ?_
            refine q_iload_n (pc := 95) dX11_brew_95 rfl rfl ?_
            refine q_callVF (pc := 96) dX11_brew_96 kX11_107 (c_X8_addBatch (Cellar_s_state hx) hc3 hr) (State_sh (Cellar_s_state hx)) rfl (State_lt (Cellar_s_state hx)) ⟨Nat.le_of_ble_eq_true rfl, Nat.le_of_ble_eq_true rfl⟩ rfl rfl (Nat.le_of_ble_eq_true rfl) ?_
            show bq_W _ _ _ _ _ 99 _ [_] _ _ _ _ _ _
            refine q_nameI (fun I2 e2 => ?_)
            have C2 := hC0.1.abt (l := l) (st := s) hc3 hr
            rw [← e2] at C2
            have F2 : Frm x (st_cpI I (x + 165 + 53 * π ch) (x + 1)) I2 := by rw [e2]; exact Frm.abt
            refine q_istore (pc := 99) dX11_brew_99 (Nat.le_of_ble_eq_true rfl) rfl ?_
            show bq_W _ _ _ _ _ 101 [_, _, _, _, _, _] _ _ _ _ _ _ _
            refine q_aload (pc := 101) dX11_brew_101 rfl ?_
            refine q_getP (pc := 103) dX11_brew_103 fX11_73 (Tank_sh (Statetanks_s_el (Cellar_s_state hx) ht)) ⟨by decide, rfl⟩ (Tank_lt (Statetanks_s_el (Cellar_s_state hx) ht)) (Tank_p_content (Statetanks_s_el (Cellar_s_state hx) ht)) ?_
            refine q_getP (pc := 106) dX11_brew_106 fX11_111 (Blend_sh (Tank_s_content (Statetanks_s_el (Cellar_s_state hx) ht))) ⟨by decide, rfl⟩ (Blend_lt (Tank_s_content (Statetanks_s_el (Cellar_s_state hx) ht))) (Blend_p_parts (Tank_s_content (Statetanks_s_el (Cellar_s_state hx) ht))) ?_
            refine q_iload (pc := 109) dX11_brew_109 rfl ?_
            refine q_iload_n (pc := 111) dX11_brew_111 rfl rfl ?_
            refine q_iast (pc := 112) dX11_brew_112 (oA_sh (Blend_s_parts (Tank_s_content (Statetanks_s_el (Cellar_s_state hx) ht)))) (oA_lt (Blend_s_parts (Tank_s_content (Statetanks_s_el (Cellar_s_state hx) ht)))) rfl hr ?_
            refine q_aload (pc := 113) dX11_brew_113 rfl ?_
            refine q_iconst (pc := 115) (v := nI 1) dX11_brew_115 (by decide) ?_
            refine q_putI (pc := 116) dX11_brew_116 (pX11_101 _) (Tank_sh (Statetanks_s_el (Cellar_s_state hx) ht)) ⟨by decide, rfl⟩ (Tank_lt (Statetanks_s_el (Cellar_s_state hx) ht)) ?_
            refine q_nameI (fun I3 e3 => ?_)
            have C3 : CSI I3 (x + 1) (x_brew0 g t l s) := by rw [e3, x_brew_cm ht, show x + 1 + 15 + 3 * t + 1 + 1 = x + 1 + (17 + 3 * t) by omega, show x + 1 + 15 + 3 * t = x + 1 + (15 + 3 * t) by omega]; exact (C2.u (lc_P ht hr) l).u ((congrArg lc (by omega)).trans (lc_T (t := t) (k := 1) ht (by decide))) (nI 1)
            have F3 : Frm x (st_cpI I (x + 165 + 53 * π ch) (x + 1)) I3 := by rw [e3]; exact (F2.u (Or.inl (by omega))).u (Or.inl (by omega))
            have m3 : I3 (x + 1 + 13) 0 = nI (gn g 5) := by rw [C3.at (k := 5) rfl, x_brew0_5]; exact hG.n (by decide) (by decide)
            refine q_aload_n (pc := 119) dX11_brew_119 rfl rfl ?_
            refine q_getP (pc := 120) dX11_brew_120 fX11_10 (Cellar_sh hx) ⟨by decide, rfl⟩ (Cellar_lt hx) (Cellar_p_state hx) ?_
            refine q_iconst (pc := 123) (v := nI 0) dX11_brew_123 (by decide) ?_
            refine q_iload_n (pc := 124) dX11_brew_124 rfl rfl ?_
            refine q_iload_n (pc := 125) dX11_brew_125 rfl rfl ?_
            refine q_callVF (pc := 126) dX11_brew_126 kX11_115 (c_X8_note (Cellar_s_state hx) m3 (by omega)) (State_sh (Cellar_s_state hx)) rfl (State_lt (Cellar_s_state hx)) ⟨Nat.le_of_ble_eq_true rfl, Nat.le_of_ble_eq_true rfl⟩ rfl rfl (Nat.le_of_ble_eq_true rfl) ?_
            show bq_W _ _ _ _ _ 129 _ [] _ _ _ _ _ _
            refine q_nameI (fun I4 e4 => ?_)
            have C4 : CS I4 (st_cpL L (x + 165 + 53 * π ch) (x + 1)) (x + 1) (x_brew g t l s) := by rw [e4]; exact ⟨C3.note (gn g 5) (nI 0) (nI t) l, hC0.2.congr (x_brew_hi ht hr (Or.inl rfl)) (fun k k1 k2 => x_brew_hi ht hr (Or.inr ⟨k1, by omega⟩))⟩
            have hM := mid_mk hx hP hC hc hl_ hh C4 (by rw [e4]; exact F3.jw ⟨Or.inl (by omega), Or.inl (by omega)⟩) FrmL.rf
            rw [show p_brew g h ch (I x 10) (nI t) l s = chg g (x_brew g t l s) h ch (I x 10) (nI (gn g 1)) from by rw [hw]; unfold n_brew; rw [if_neg (not_not_intro hr), if_neg (not_not_intro hz), if_neg (not_not_intro c_77)]]
            refine q_aload_n (pc := 129) dX11_brew_129 rfl rfl ?_
            refine q_iload (pc := 130) dX11_brew_130 rfl ?_
            refine q_callV (pc := 132) dX11_brew_132 kX11_95 (c_changed hM) (Cellar_sh hx) rfl (Cellar_lt hx) ⟨Nat.le_of_ble_eq_true rfl, Nat.le_of_ble_eq_true rfl⟩ rfl rfl (Nat.le_of_ble_eq_true rfl) ?_
            rintro _ _ _ I9 L9 P9 ⟨rfl, rfl, rfl, Q⟩
            show bq_W _ _ _ _ _ 135 _ [_] _ _ _ _ _ _
            exact q_iret (st := []) (pc := 135) dX11_brew_135 rfl ⟨rfl, rfl, rfl, Q⟩
          · refine q_aload_n (pc := 80) dX11_brew_80 rfl rfl ?_
            refine q_iconst (pc := 81) (v := nI 4) dX11_brew_81 (by decide) ?_
            refine q_callVF (pc := 82) dX11_brew_82 kX11_85 (c_refuse hx) (Cellar_sh hx) rfl (Cellar_lt hx) ⟨Nat.le_of_ble_eq_true rfl, Nat.le_of_ble_eq_true rfl⟩ rfl rfl (Nat.le_of_ble_eq_true rfl) ?_
            show bq_W _ _ _ _ _ 85 _ [_] _ _ _ _ _ _
            exact q_iret (st := []) (pc := 85) dX11_brew_85 rfl (qOp.ref hX' (by rw [hw]; unfold n_brew; rw [if_neg (not_not_intro hr), if_neg (not_not_intro hz), if_pos c_77]))
        · refine q_aload_n (pc := 65) dX11_brew_65 rfl rfl ?_
          refine q_iconst (pc := 66) (v := nI 2) dX11_brew_66 (by decide) ?_
          refine q_callVF (pc := 67) dX11_brew_67 kX11_85 (c_refuse hx) (Cellar_sh hx) rfl (Cellar_lt hx) ⟨Nat.le_of_ble_eq_true rfl, Nat.le_of_ble_eq_true rfl⟩ rfl rfl (Nat.le_of_ble_eq_true rfl) ?_
          show bq_W _ _ _ _ _ 70 _ [_] _ _ _ _ _ _
          exact q_iret (st := []) (pc := 70) dX11_brew_70 rfl (qOp.ref hX' (by rw [hw]; unfold n_brew; rw [if_neg (not_not_intro hr), if_pos (fun z => c_62 (by rw [z]; decide))]))
      · refine q_bipush (pc := 54) (v := (-4)) dX11_brew_54 (by decide) ?_
        exact q_iret (st := []) (pc := 56) dX11_brew_56 rfl (qOp.same hX' (by rw [hw]; unfold n_brew; rw [if_pos (fun z => c_51 (nI_lt z (by decide)))]))
    · replace c_36 := bq_bn.mp c_36
      refine q_bipush (pc := 39) (v := (-2)) dX11_brew_39 (by decide) ?_
      exact q_iret (st := []) (pc := 41) dX11_brew_41 rfl (qOp.same hX' (by unfold p_brew; rw [if_neg hnt, if_pos (by first | exact Or.inl c_25 | exact Or.inr c_36)]))
theorem m_brew {S : BqH} {n : Nat} {I : BqI} {L : BqL} {P : BqP} {x : Nat} {g : BqG} {h : Nat → BqG} {ch en : Nat} (hX : CXS x S n I L P g h ch) (hG : GI g en) (hen : en < 2 ^ 29) {t l s : Int32} : bq_Sp mX11_brew 6 144 0 0 [.ref x, .int t, .int l, .int s] S n I L P (qOp x I L S n P (p_brew g h ch (I x 10) t l s)) := by
  rcases bq_in5 t 5 (by decide) with ht | ⟨t, ht, rfl⟩
  · exact m_brew_a hX hG hen ht
  · exact m_brew_b hX hG hen ht
/-! what holds of the row is kept -/
def Rw (g : BqG) (N : Nat → Nat) : Prop := ∀ k, k < 650 → k ≠ 6 → g k = nI (N k) ∧ N k < 2 ^ 31
def ts (N : Nat → Nat) (t : Nat) : Nat := ns (fun b => N (13 + 19 * t + b)) 16
def bs (N : Nat → Nat) (b : Nat) : Nat := ns (fun t => N (13 + 19 * t + b)) 6
def GT (N : Nat → Nat) (t : Nat) : Prop := 1 ≤ N (10 + 19 * t) ∧ N (10 + 19 * t) ≤ 9999 ∧ N (11 + 19 * t) ≤ 3 ∧ N (12 + 19 * t) ≤ 10001 ∧ ts N t ≤ N (10 + 19 * t) ∧ (N (11 + 19 * t) = 1 ↔ 0 < ts N t)
def GB (N : Nat → Nat) (b : Nat) : Prop := N (124 + 5 * b) ≤ 2000 ∧ bs N b + N (126 + 5 * b) + N (127 + 5 * b) = N (125 + 5 * b) ∧ N (125 + 5 * b) ≤ 9999 ∧ (N 1 ≤ b → N (125 + 5 * b) = 0)
def GO (N : Nat → Nat) (o : Nat) : Prop := N (205 + 9 * o) ≤ 9999 ∧ (o < N 2 → 1 ≤ N (205 + 9 * o)) ∧ N (206 + 9 * o) ≤ 2000 ∧ N (207 + 9 * o) ≤ 2000 ∧ N (204 + 9 * o) ≤ 10098 ∧ N (208 + 9 * o) ≤ 2 ∧ N (209 + 9 * o) ≤ 20000000 ∧ N (212 + 9 * o) ≤ 20000000 ∧ (N 2 ≤ o → N (208 + 9 * o) = 0)
def GC (N : Nat → Nat) (en : Nat) : Prop := (N 0 ≤ 9999 ∧ N 1 ≤ 16 ∧ N 2 ≤ 10 ∧ N 3 ≤ 10 ∧ N 4 ≤ 100 ∧ N 5 ≤ en) ∧ (∀ t, t < 6 → GT N t) ∧ (∀ b, b < 16 → GB N b) ∧ (∀ o, o < 10 → GO N o) ∧ (∀ r, r < 10 → N (296 + 3 * r) ≤ 9999) ∧ ∀ r, r < 4 → N (324 + r) ≤ 9999 * N 5
def GK (g : BqG) (en : Nat) : Prop := Rw g (gn g) ∧ GC (gn g) en ∧ (g 6).toInt.natAbs ≤ 200000000
theorem GK.gi {g : BqG} {en : Nat} (h : GK g en) : GI g en :=
  ⟨h.1, h.2.1.1.1, h.2.1.1.2.1, h.2.1.1.2.2.1, h.2.1.1.2.2.2.1, h.2.1.1.2.2.2.2.1, h.2.1.1.2.2.2.2.2, h.2.1.2.1, h.2.1.2.2.1, h.2.1.2.2.2.1, h.2.1.2.2.2.2.1, h.2.2⟩
theorem GT.e {N N' : Nat → Nat} {t : Nat} (h : GT N t) (e : ∀ k, 10 + 19 * t ≤ k → k < 29 + 19 * t → N' k = N k) : GT N' t := by
  have es : ts N' t = ts N t := ns_congr 16 (fun j hj => e _ (by omega) (by omega))
  unfold GT at *
  rw [es, e (10 + 19 * t) (by omega) (by omega), e (11 + 19 * t) (by omega) (by omega), e (12 + 19 * t) (by omega) (by omega)]
  exact h
theorem GB.e {N N' : Nat → Nat} {b : Nat} (h : GB N b) (e : ∀ q, q < 6 → N' (13 + 19 * q + b) = N (13 + 19 * q + b)) (e2 : ∀ k, 124 + 5 * b ≤ k → k < 128 + 5 * b → N' k = N k) (e1 : N' 1 = N 1) : GB N' b := by
  have es : bs N' b = bs N b := ns_congr 6 (fun j hj => e j hj)
  unfold GB at *
  rw [es, e2 (124 + 5 * b) (by omega) (by omega), e2 (125 + 5 * b) (by omega) (by omega), e2 (126 + 5 * b) (by omega) (by omega), e2 (127 + 5 * b) (by omega) (by omega), e1]
  exact h
theorem GO.e {N N' : Nat → Nat} {o : Nat} (h : GO N o) (e : ∀ k, 204 + 9 * o ≤ k → k < 213 + 9 * o → N' k = N k) (e2 : N' 2 = N 2) : GO N' o := by
  unfold GO at *
  rw [e (204 + 9 * o) (by omega) (by omega), e (205 + 9 * o) (by omega) (by omega), e (206 + 9 * o) (by omega) (by omega), e (207 + 9 * o) (by omega) (by omega), e (208 + 9 * o) (by omega) (by omega), e (209 + 9 * o) (by omega) (by omega), e (212 + 9 * o) (by omega) (by omega), e2]
  exact h
theorem GC.e {N N' : Nat → Nat} {en : Nat} (h : GC N en) (e : ∀ k, k < 650 → k ≠ 6 → N' k = N k) : GC N' en := by
  obtain ⟨⟨h0, h1, h2, h3, h4, h5⟩, hT, hB, hO, hR, hL⟩ := h
  refine ⟨⟨?_, ?_, ?_, ?_, ?_, ?_⟩, fun t ht => (hT t ht).e (fun k q1 q2 => e k (by omega) (by omega)), fun b hb => (hB b hb).e (fun q hq => e _ (by omega) (by omega)) (fun k q1 q2 => e k (by omega) (by omega)) (e 1 (by omega) (by omega)), fun o ho => (hO o ho).e (fun k q1 q2 => e k (by omega) (by omega)) (e 2 (by omega) (by omega)), fun r hr => ?_, fun r hr => ?_⟩
  · rw [e 0 (by omega) (by omega)]; exact h0
  · rw [e 1 (by omega) (by omega)]; exact h1
  · rw [e 2 (by omega) (by omega)]; exact h2
  · rw [e 3 (by omega) (by omega)]; exact h3
  · rw [e 4 (by omega) (by omega)]; exact h4
  · rw [e 5 (by omega) (by omega)]; exact h5
  · rw [e (296 + 3 * r) (by omega) (by omega)]; exact hR r hr
  · rw [e (324 + r) (by omega) (by omega), e 5 (by omega) (by omega)]; exact hL r hr
theorem GK.of {g : BqG} {N : Nat → Nat} {en : Nat} (hR : Rw g N) (hC : GC N en) (h6 : (g 6).toInt.natAbs ≤ 200000000) : GK g en := by
  have e : ∀ k, k < 650 → k ≠ 6 → gn g k = N k := fun k hk k6 => by
    obtain ⟨a, b⟩ := hR k hk k6
    unfold gn
    rw [a, nI_clamp b]
  exact ⟨fun k hk k6 => by rw [e k hk k6]; exact hR k hk k6, hC.e e, h6⟩
theorem Rw.r {g : BqG} {N : Nat → Nat} (h : Rw g N) {k : Nat} {v : Int32} {w : Nat} (e : v = nI w) (hw : w < 2 ^ 31) : Rw (bq_r g k v) (bq_r N k w) := fun q hq q6 => by
  by_cases c : q = k
  · subst c; rw [bq_r_self, bq_r_self]; exact ⟨e, hw⟩
  · rw [bq_r_ne c, bq_r_ne c]; exact h q hq q6
/-- places alone, none of them a part or a litre of a batch -/
theorem GC.mk {N N' : Nat → Nat} {en en' : Nat} (h : GC N en) (hd : N' 0 ≤ 9999 ∧ N' 1 = N 1 ∧ N' 2 ≤ 10 ∧ N' 3 ≤ 10 ∧ N' 4 ≤ 100 ∧ N' 5 ≤ en') (hT : ∀ t, t < 6 → GT N' t) (hp : ∀ k, 13 ≤ k → k < 124 → (k - 10) % 19 ≥ 3 → N' k = N k) (hb : ∀ k, 124 ≤ k → k < 204 → N' k = N k) (hO : ∀ o, o < 10 → GO N' o) (hR : ∀ r, r < 10 → N' (296 + 3 * r) ≤ 9999) (hL : ∀ r, r < 4 → N' (324 + r) ≤ 9999 * N' 5) : GC N' en' :=
  ⟨⟨hd.1, by rw [hd.2.1]; exact h.1.2.1, hd.2.2.1, hd.2.2.2.1, hd.2.2.2.2.1, hd.2.2.2.2.2⟩, hT, fun b hb' => (h.2.2.1 b hb').e (fun q hq => hp _ (by omega) (by omega) (by omega)) (fun k q1 q2 => hb k (by omega) (by omega)) hd.2.1, hO, hR, hL⟩
theorem GK.d {g : BqG} {en : Nat} (h : GK g en) : (gn g 0 ≤ 9999 ∧ gn g 1 ≤ 16 ∧ gn g 2 ≤ 10 ∧ gn g 3 ≤ 10 ∧ gn g 4 ≤ 100 ∧ gn g 5 ≤ en) := h.2.1.1
theorem GK.mono {g : BqG} {en en' : Nat} (h : GK g en) (hl : en ≤ en') : GK g en' := ⟨h.1, ⟨⟨h.2.1.1.1, h.2.1.1.2.1, h.2.1.1.2.2.1, h.2.1.1.2.2.2.1, h.2.1.1.2.2.2.2.1, Nat.le_trans h.2.1.1.2.2.2.2.2 hl⟩, h.2.1.2⟩, h.2.2⟩
theorem gk_setLoss {g : BqG} {en v : Nat} (h : GK g en) (hv : v ≤ 100) : GK (bq_r g 4 (nI v)) en := by
  obtain ⟨hR, hC, h6⟩ := h
  obtain ⟨d0, d1, d2, d3, d4, d5⟩ := hC.1
  refine GK.of (hR.r rfl (show v < 2 ^ 31 by omega)) (hC.mk ⟨by rw [bq_r_ne (by omega)]; exact d0, bq_r_ne (by omega), by rw [bq_r_ne (by omega)]; exact d2, by rw [bq_r_ne (by omega)]; exact d3, by rw [bq_r_self]; exact hv, by rw [bq_r_ne (by omega)]; exact d5⟩ (fun t ht => (hC.2.1 t ht).e (fun k _ _ => bq_r_ne (by omega))) (fun k _ _ _ => bq_r_ne (by omega)) (fun k _ _ => bq_r_ne (by omega)) (fun o ho => (hC.2.2.2.1 o ho).e (fun k _ _ => bq_r_ne (by omega)) (bq_r_ne (by omega))) (fun r hr => by rw [bq_r_ne (by omega)]; exact hC.2.2.2.2.1 r hr) (fun r hr => by rw [bq_r_ne (by omega), bq_r_ne (by omega)]; exact hC.2.2.2.2.2 r hr)) (by rw [bq_r_ne (by omega)]; exact h6)
theorem gk_size {g : BqG} {en t v : Nat} (h : GK g en) (ht : t < 6) (h1 : 1 ≤ v) (h2 : v ≤ 9999) (hv : gt g t ≤ v) : GK (bq_r g (10 + 19 * t) (nI v)) en := by
  obtain ⟨hR, hC, h6⟩ := h
  obtain ⟨d0, d1, d2, d3, d4, d5⟩ := hC.1
  refine GK.of (hR.r rfl (show v < 2 ^ 31 by omega)) (hC.mk ⟨by rw [bq_r_ne (by omega)]; exact d0, bq_r_ne (by omega), by rw [bq_r_ne (by omega)]; exact d2, by rw [bq_r_ne (by omega)]; exact d3, by rw [bq_r_ne (by omega)]; exact d4, by rw [bq_r_ne (by omega)]; exact d5⟩ (fun q hq => ?_) (fun k _ _ _ => bq_r_ne (by omega)) (fun k _ _ => bq_r_ne (by omega)) (fun o ho => (hC.2.2.2.1 o ho).e (fun k _ _ => bq_r_ne (by omega)) (bq_r_ne (by omega))) (fun r hr => by rw [bq_r_ne (by omega)]; exact hC.2.2.2.2.1 r hr) (fun r hr => by rw [bq_r_ne (by omega), bq_r_ne (by omega)]; exact hC.2.2.2.2.2 r hr)) (by rw [bq_r_ne (by omega)]; exact h6)
  by_cases c : q = t
  · subst c
    obtain ⟨a1, a2, a3, a4, a5, a6⟩ := hC.2.1 q hq
    have es : ts (bq_r (gn g) (10 + 19 * q) v) q = ts (gn g) q := ns_congr 16 (fun j hj => bq_r_ne (by omega))
    unfold GT
    rw [es, bq_r_self, bq_r_ne (by omega), bq_r_ne (by omega)]
    exact ⟨h1, h2, a3, a4, hv, a6⟩
  · exact (hC.2.1 q hq).e (fun k _ _ => bq_r_ne (by omega))
theorem gk_rate {g : BqG} {en d s a : Nat} (h : GK g en) (hc : gn g 3 < 10) (hd : d ≤ 9999) (hs : s ≤ 2000) (ha : a ≤ 9999) : GK (x_rate g (nI d) (nI s) (nI a)) en := by
  obtain ⟨hR, hC, h6⟩ := h
  obtain ⟨d0, d1, d2, d3, d4, d5⟩ := hC.1
  have e : ∀ k, k < 294 → k ≠ 3 → bq_r (bq_r (bq_r (bq_r (gn g) (294 + 3 * gn g 3 + 0) d) (294 + 3 * gn g 3 + 1) s) (294 + 3 * gn g 3 + 2) a) 3 (gn g 3 + 1) k = gn g k := fun k hk k3 => by
    rw [bq_r_ne k3, bq_r_ne (by omega), bq_r_ne (by omega), bq_r_ne (by omega)]
  have e2 : ∀ k, 324 ≤ k → bq_r (bq_r (bq_r (bq_r (gn g) (294 + 3 * gn g 3 + 0) d) (294 + 3 * gn g 3 + 1) s) (294 + 3 * gn g 3 + 2) a) 3 (gn g 3 + 1) k = gn g k := fun k hk => by
    rw [bq_r_ne (by omega), bq_r_ne (by omega), bq_r_ne (by omega), bq_r_ne (by omega)]
  unfold x_rate
  refine GK.of ((((hR.r rfl (show d < 2 ^ 31 by omega)).r rfl (show s < 2 ^ 31 by omega)).r rfl (show a < 2 ^ 31 by omega)).r rfl (show gn g 3 + 1 < 2 ^ 31 by omega)) (hC.mk ⟨by rw [e 0 (by omega) (by omega)]; exact d0, e 1 (by omega) (by omega), by rw [e 2 (by omega) (by omega)]; exact d2, by rw [bq_r_self]; omega, by rw [e 4 (by omega) (by omega)]; exact d4, by rw [e 5 (by omega) (by omega)]; exact d5⟩ (fun q hq => (hC.2.1 q hq).e (fun k _ _ => e k (by omega) (by omega))) (fun k _ _ _ => e k (by omega) (by omega)) (fun k _ _ => e k (by omega) (by omega)) (fun o ho => (hC.2.2.2.1 o ho).e (fun k _ _ => e k (by omega) (by omega)) (e 2 (by omega) (by omega))) (fun r hr => ?_) (fun r hr => by rw [e2 _ (by omega), e 5 (by omega) (by omega)]; exact hC.2.2.2.2.2 r hr)) (by rw [bq_r_ne (by omega), bq_r_ne (by omega), bq_r_ne (by omega), bq_r_ne (by omega)]; exact h6)
  rw [bq_r_ne (by omega)]
  by_cases c : r = gn g 3
  · rw [show 296 + 3 * r = 294 + 3 * gn g 3 + 2 by omega, bq_r_self]; exact ha
  · rw [bq_r_ne (by omega), bq_r_ne (by omega), bq_r_ne (by omega)]; exact hC.2.2.2.2.1 r hr
theorem gk_order {g : BqG} {en d l a b : Nat} (h : GK g en) (hc : gn g 2 < 10) (hd : d ≤ 99) (hl1 : 1 ≤ l) (hl2 : l ≤ 9999) (ha : a ≤ 2000) (hb : b ≤ 2000) : GK (x_order g (nI d) (nI l) (nI a) (nI b)) en := by
  obtain ⟨hR, hC, h6⟩ := h
  obtain ⟨d0, d1, d2, d3, d4, d5⟩ := hC.1
  have hg0 : g 0 + nI d = nI (gn g 0 + d) := by rw [(hR 0 (by omega) (by omega)).1, nI_add]
  generalize hN : bq_r (bq_r (bq_r (bq_r (bq_r (bq_r (gn g) (204 + 9 * gn g 2 + 0) (gn g 0 + d)) (204 + 9 * gn g 2 + 1) l) (204 + 9 * gn g 2 + 2) a) (204 + 9 * gn g 2 + 3) b) (204 + 9 * gn g 2 + 4) 0) 2 (gn g 2 + 1) = N'
  have e : ∀ k, k ≠ 2 → (k < 204 + 9 * gn g 2 ∨ 208 + 9 * gn g 2 < k) → N' k = gn g k := fun k k2 hk => by
    rw [← hN, bq_r_ne k2, bq_r_ne (by omega), bq_r_ne (by omega), bq_r_ne (by omega), bq_r_ne (by omega), bq_r_ne (by omega)]
  have e2 : N' 2 = gn g 2 + 1 := by rw [← hN, bq_r_self]
  have c0 : N' (204 + 9 * gn g 2) = gn g 0 + d := by
    rw [← hN, bq_r_ne (by omega), bq_r_ne (by omega), bq_r_ne (by omega), bq_r_ne (by omega), bq_r_ne (by omega)]; exact bq_r_self
  have c1 : N' (205 + 9 * gn g 2) = l := by
    rw [← hN, bq_r_ne (by omega), bq_r_ne (by omega), bq_r_ne (by omega), bq_r_ne (by omega), show 205 + 9 * gn g 2 = 204 + 9 * gn g 2 + 1 by omega, bq_r_self]
  have c2 : N' (206 + 9 * gn g 2) = a := by
    rw [← hN, bq_r_ne (by omega), bq_r_ne (by omega), bq_r_ne (by omega), show 206 + 9 * gn g 2 = 204 + 9 * gn g 2 + 2 by omega, bq_r_self]
  have c3 : N' (207 + 9 * gn g 2) = b := by
    rw [← hN, bq_r_ne (by omega), bq_r_ne (by omega), show 207 + 9 * gn g 2 = 204 + 9 * gn g 2 + 3 by omega, bq_r_self]
  have c4 : N' (208 + 9 * gn g 2) = 0 := by
    rw [← hN, bq_r_ne (by omega), show 208 + 9 * gn g 2 = 204 + 9 * gn g 2 + 4 by omega, bq_r_self]
  unfold x_order
  refine GK.of (N := N') (by rw [← hN]; exact (((((hR.r hg0 (show gn g 0 + d < 2 ^ 31 by omega)).r rfl (show l < 2 ^ 31 by omega)).r rfl (show a < 2 ^ 31 by omega)).r rfl (show b < 2 ^ 31 by omega)).r rfl (show 0 < 2 ^ 31 by omega)).r rfl (show gn g 2 + 1 < 2 ^ 31 by omega)) (hC.mk ⟨by rw [e 0 (by omega) (by omega)]; exact d0, e 1 (by omega) (by omega), by omega, by rw [e 3 (by omega) (by omega)]; exact d3, by rw [e 4 (by omega) (by omega)]; exact d4, by rw [e 5 (by omega) (by omega)]; exact d5⟩ (fun q hq => (hC.2.1 q hq).e (fun k _ _ => e k (by omega) (by omega))) (fun k _ _ _ => e k (by omega) (by omega)) (fun k _ _ => e k (by omega) (by omega)) (fun o ho => ?_) (fun r hr => by rw [e _ (by omega) (by omega)]; exact hC.2.2.2.2.1 r hr) (fun r hr => by rw [e _ (by omega) (by omega), e 5 (by omega) (by omega)]; exact hC.2.2.2.2.2 r hr)) (by rw [bq_r_ne (by omega), bq_r_ne (by omega), bq_r_ne (by omega), bq_r_ne (by omega), bq_r_ne (by omega), bq_r_ne (by omega)]; exact h6)
  obtain ⟨o1, o2, o3, o4, o5, o6, o7, o8, o9⟩ := hC.2.2.2.1 o ho
  by_cases c : o = gn g 2
  · subst c
    unfold GO
    rw [c0, c1, c2, c3, c4, e2, e _ (by omega) (by omega), e (212 + 9 * gn g 2) (by omega) (by omega)]
    exact ⟨hl2, fun _ => hl1, ha, hb, by omega, by omega, o7, o8, fun _ => rfl⟩
  · unfold GO
    rw [e2, e _ (by omega) (by omega), e (206 + 9 * o) (by omega) (by omega), e (207 + 9 * o) (by omega) (by omega), e (204 + 9 * o) (by omega) (by omega), e (208 + 9 * o) (by omega) (by omega), e (209 + 9 * o) (by omega) (by omega), e (212 + 9 * o) (by omega) (by omega)]
    exact ⟨o1, fun q => o2 (by omega), o3, o4, o5, o6, o7, o8, fun q => o9 (by omega)⟩
theorem gk_drop {g : BqG} {en o : Nat} (h : GK g en) (ho : o < gn g 2) : GK (x_drop g o) en := by
  obtain ⟨hR, hC, h6⟩ := h
  obtain ⟨d0, d1, d2, d3, d4, d5⟩ := hC.1
  unfold x_drop
  refine GK.of (hR.r (w := 2) rfl (by omega)) (hC.mk ⟨by rw [bq_r_ne (by omega)]; exact d0, bq_r_ne (by omega), by rw [bq_r_ne (by omega)]; exact d2, by rw [bq_r_ne (by omega)]; exact d3, by rw [bq_r_ne (by omega)]; exact d4, by rw [bq_r_ne (by omega)]; exact d5⟩ (fun q hq => (hC.2.1 q hq).e (fun k _ _ => bq_r_ne (by omega))) (fun k _ _ _ => bq_r_ne (by omega)) (fun k _ _ => bq_r_ne (by omega)) (fun q hq => ?_) (fun r hr => by rw [bq_r_ne (by omega)]; exact hC.2.2.2.2.1 r hr) (fun r hr => by rw [bq_r_ne (by omega), bq_r_ne (by omega)]; exact hC.2.2.2.2.2 r hr)) (by rw [bq_r_ne (by omega)]; exact h6)
  by_cases c : q = o
  · subst c
    obtain ⟨o1, o2, o3, o4, o5, o6, o7, o8, o9⟩ := hC.2.2.2.1 q hq
    unfold GO
    rw [bq_r_ne (by omega), bq_r_ne (by omega), bq_r_ne (by omega), bq_r_ne (by omega), bq_r_ne (by omega), bq_r_ne (by omega), bq_r_ne (by omega), show 208 + 9 * q = 204 + 9 * q + 4 by omega, bq_r_self]
    exact ⟨o1, o2, o3, o4, o5, by omega, o7, o8, fun z => by omega⟩
  · exact (hC.2.2.2.1 q hq).e (fun k _ _ => bq_r_ne (by omega)) (bq_r_ne (by omega))
theorem gk_corr {g : BqG} {en : Nat} (h : GK g en) : GK (x_corr g) en := by
  obtain ⟨d, p, hd, hp, -, -, e3⟩ := due_n h.gi
  obtain ⟨hR, hC, h6⟩ := h
  refine GK.of (N := gn g) (fun k hk k6 => ?_) hC ?_
  · unfold x_corr; rw [bq_r_ne k6]; exact hR k hk k6
  · unfold x_corr; rw [bq_r_self, e3]; omega
theorem gk_scrub {g : BqG} {en t : Nat} (h : GK g en) (ht : t < 6) (h2 : gn g (11 + 19 * t) = 2) : GK (bq_r (bq_r g (11 + 19 * t) (nI 3)) (12 + 19 * t) (nI (gn g 0 + 2))) en := by
  obtain ⟨hR, hC, h6⟩ := h
  obtain ⟨d0, d1, d2, d3, d4, d5⟩ := hC.1
  have e : ∀ k, k ≠ 11 + 19 * t → k ≠ 12 + 19 * t → bq_r (bq_r (gn g) (11 + 19 * t) 3) (12 + 19 * t) (gn g 0 + 2) k = gn g k := fun k q1 q2 => by rw [bq_r_ne q2, bq_r_ne q1]
  refine GK.of ((hR.r (w := 3) rfl (by omega)).r (w := gn g 0 + 2) rfl (by omega)) (hC.mk ⟨by rw [e 0 (by omega) (by omega)]; exact d0, e 1 (by omega) (by omega), by rw [e 2 (by omega) (by omega)]; exact d2, by rw [e 3 (by omega) (by omega)]; exact d3, by rw [e 4 (by omega) (by omega)]; exact d4, by rw [e 5 (by omega) (by omega)]; exact d5⟩ (fun q hq => ?_) (fun k _ _ _ => e k (by omega) (by omega)) (fun k _ _ => e k (by omega) (by omega)) (fun o ho => (hC.2.2.2.1 o ho).e (fun k _ _ => e k (by omega) (by omega)) (e 2 (by omega) (by omega))) (fun r hr => by rw [e _ (by omega) (by omega)]; exact hC.2.2.2.2.1 r hr) (fun r hr => by rw [e _ (by omega) (by omega), e 5 (by omega) (by omega)]; exact hC.2.2.2.2.2 r hr)) (by rw [bq_r_ne (by omega), bq_r_ne (by omega)]; exact h6)
  by_cases c : q = t
  · subst c
    obtain ⟨a1, a2, a3, a4, a5, a6⟩ := hC.2.1 q hq
    have es : ts (bq_r (bq_r (gn g) (11 + 19 * q) 3) (12 + 19 * q) (gn g 0 + 2)) q = ts (gn g) q := ns_congr 16 (fun j hj => e _ (by omega) (by omega))
    unfold GT
    rw [es, bq_r_self, e (10 + 19 * q) (by omega) (by omega), bq_r_ne (show 11 + 19 * q ≠ 12 + 19 * q by omega), bq_r_self]
    refine ⟨a1, a2, by omega, by omega, a5, ?_⟩
    have : ¬ 0 < ts (gn g) q := fun z => by have := a6.mpr z; omega
    exact ⟨fun z => absurd z (by omega), fun z => absurd z this⟩
  · exact (hC.2.1 q hq).e (fun k _ _ => e k (by omega) (by omega))
def npass (N : Nat → Nat) (d i : Nat) : Nat → Nat := fun k => if k = 0 then N 0 + d else if k = 11 + 19 * ((k - 11) / 19) ∧ (k - 11) / 19 < i ∧ N k = 3 ∧ N (k + 1) ≤ N 0 + d then 0 else N k
theorem ps_N {g : BqG} {en d : Nat} (hG : GI g en) (hd : gn g 0 + d ≤ 9999) : ∀ i, i ≤ 6 → ∀ k, k < 650 → k ≠ 6 → (ps (x_day g d) i).2 k = nI (npass (gn g) d i k)
  | 0, _, k, hk, k6 => by
    show x_day g d k = _
    unfold x_day npass
    by_cases c : k = 0
    · subst c; rw [bq_r_self, if_pos rfl]
    · rw [bq_r_ne c, if_neg c, if_neg (by omega)]; exact hG.n hk k6
  | i + 1, hi, k, hk, k6 => by
    have ih := ps_N hG hd i (by omega) k hk k6
    have hd' : gn g 0 + d < 2 ^ 31 := by omega
    by_cases c : gn g (11 + 19 * i) = 3 ∧ gn g (12 + 19 * i) ≤ gn g 0 + d
    · rw [ps_yes hG hd' (by omega) c.1 c.2]
      show bq_r _ _ _ k = _
      by_cases e : k = 11 + 19 * i
      · subst e
        rw [bq_r_self]
        unfold npass
        rw [if_neg (by omega), if_pos ⟨by omega, by omega, c.1, by rw [show 11 + 19 * i + 1 = 12 + 19 * i by omega]; exact c.2⟩]
      · rw [bq_r_ne e, ih]
        unfold npass
        by_cases z : k = 0
        · rw [if_pos z, if_pos z]
        · rw [if_neg z, if_neg z]
          by_cases w : k = 11 + 19 * ((k - 11) / 19) ∧ (k - 11) / 19 < i ∧ gn g k = 3 ∧ gn g (k + 1) ≤ gn g 0 + d
          · rw [if_pos w, if_pos ⟨w.1, by omega, w.2.2⟩]
          · rw [if_neg w, if_neg (fun u => w ⟨u.1, by omega, u.2.2⟩)]
    · rw [ps_no hG hd' (by omega) c, ih]
      unfold npass
      by_cases z : k = 0
      · rw [if_pos z, if_pos z]
      · rw [if_neg z, if_neg z]
        by_cases w : k = 11 + 19 * ((k - 11) / 19) ∧ (k - 11) / 19 < i ∧ gn g k = 3 ∧ gn g (k + 1) ≤ gn g 0 + d
        · rw [if_pos w, if_pos ⟨w.1, by omega, w.2.2⟩]
        · rw [if_neg w, if_neg (fun u => w ⟨u.1, ?_, u.2.2⟩)]
          rcases Nat.lt_or_ge ((k - 11) / 19) i with q | q
          · exact q
          · exfalso
            have e : k = 11 + 19 * i := by omega
            exact c ⟨by rw [← e]; exact u.2.2.1, by rw [show 12 + 19 * i = k + 1 by omega]; exact u.2.2.2⟩
theorem npass_e {N : Nat → Nat} {d k : Nat} (h0 : k ≠ 0) (h : k < 11 ∨ 124 ≤ k ∨ k ≠ 11 + 19 * ((k - 11) / 19)) : npass N d 6 k = N k := by
  unfold npass
  rw [if_neg h0, if_neg (by omega)]
theorem gk_pass {g : BqG} {en d : Nat} (h : GK g en) (hd : gn g 0 + d ≤ 9999) : GK (ps (x_day g d) 6).2 en := by
  have hP := ps_N h.gi hd 6 (Nat.le_refl 6)
  have h66 : (ps (x_day g d) 6).2 6 = g 6 := by rw [ps_ne 6 (Or.inl (by omega))]; exact bq_r_ne (by omega)
  obtain ⟨hR, hC, h6⟩ := h
  obtain ⟨d0, d1, d2, d3, d4, d5⟩ := hC.1
  have e : ∀ k, k ≠ 0 → (k < 11 ∨ 124 ≤ k ∨ k ≠ 11 + 19 * ((k - 11) / 19)) → npass (gn g) d 6 k = gn g k := fun k q1 q2 => npass_e q1 q2
  refine GK.of (N := npass (gn g) d 6) (fun k hk k6 => ⟨hP k hk k6, ?_⟩) (hC.mk ⟨hd, e 1 (by omega) (by omega), by rw [e 2 (by omega) (by omega)]; exact d2, by rw [e 3 (by omega) (by omega)]; exact d3, by rw [e 4 (by omega) (by omega)]; exact d4, by rw [e 5 (by omega) (by omega)]; exact d5⟩ (fun q hq => ?_) (fun k _ _ _ => e k (by omega) (by omega)) (fun k _ _ => e k (by omega) (by omega)) (fun o ho => (hC.2.2.2.1 o ho).e (fun k _ _ => e k (by omega) (by omega)) (e 2 (by omega) (by omega))) (fun r hr => by rw [e _ (by omega) (by omega)]; exact hC.2.2.2.2.1 r hr) (fun r hr => by rw [e _ (by omega) (by omega), e 5 (by omega) (by omega)]; exact hC.2.2.2.2.2 r hr)) (by rw [h66]; exact h6)
  · unfold npass
    split
    · omega
    · split
      · omega
      · exact (hR k hk k6).2
  · obtain ⟨a1, a2, a3, a4, a5, a6⟩ := hC.2.1 q hq
    have es : ts (npass (gn g) d 6) q = ts (gn g) q := ns_congr 16 (fun j hj => e _ (by omega) (by omega))
    unfold GT
    rw [es, e (10 + 19 * q) (by omega) (by omega), e (12 + 19 * q) (by omega) (by omega)]
    by_cases c : gn g (11 + 19 * q) = 3 ∧ gn g (12 + 19 * q) ≤ gn g 0 + d
    · have e0 : npass (gn g) d 6 (11 + 19 * q) = 0 := by
        unfold npass
        rw [if_neg (by omega), if_pos ⟨by omega, by omega, c.1, by rw [show 11 + 19 * q + 1 = 12 + 19 * q by omega]; exact c.2⟩]
      rw [e0]
      refine ⟨a1, a2, by omega, a4, a5, fun z => absurd z (by omega), fun z => ?_⟩
      have := a6.mpr z
      omega
    · have e0 : npass (gn g) d 6 (11 + 19 * q) = gn g (11 + 19 * q) := by
        unfold npass
        rw [if_neg (by omega), if_neg (fun u => c ⟨u.2.2.1, by rw [show 12 + 19 * q = 11 + 19 * q + 1 by omega]; exact u.2.2.2⟩)]
      rw [e0]
      exact ⟨a1, a2, a3, a4, a5, a6⟩
/-! the moves keep it -/
def n_sub (N : Nat → Nat) (t : Nat) (T : Nat → Nat) : Nat → Nat := fun k => if 13 + 19 * t ≤ k ∧ k < 29 + 19 * t then N k - T (k - (13 + 19 * t)) else N k
def n_add (N : Nat → Nat) (t : Nat) (T : Nat → Nat) : Nat → Nat := fun k => if 13 + 19 * t ≤ k ∧ k < 29 + 19 * t then N k + T (k - (13 + 19 * t)) else N k
def n_badd (N : Nat → Nat) (i : Nat) (T : Nat → Nat) : Nat → Nat := fun k => if 124 ≤ k ∧ k < 204 ∧ (k - 124) % 5 = i then N k + T ((k - 124) / 5) else N k
def n_out (N : Nat → Nat) (t : Nat) (T : Nat → Nat) : Nat → Nat := if ts (n_sub N t T) t = 0 then bq_r (n_sub N t T) (11 + 19 * t) 2 else n_sub N t T
def n_in (N : Nat → Nat) (t : Nat) (T : Nat → Nat) : Nat → Nat := bq_r (n_add N t T) (11 + 19 * t) 1
def n_ent (N : Nat → Nat) (m : Nat) (k t l : Nat) : Nat → Nat := if m < 80 then bq_r (bq_r (bq_r (bq_r N (330 + 4 * m) (N 0)) (330 + 4 * m + 1) k) (330 + 4 * m + 2) t) (330 + 4 * m + 3) l else N
def n_note (N : Nat → Nat) (m : Nat) (k t l : Nat) : Nat → Nat := bq_r (n_ent N m k t l) 5 (N 5 + 1)
theorem n_sub_ne {N T : Nat → Nat} {t k : Nat} (h : k < 13 + 19 * t ∨ 29 + 19 * t ≤ k) : n_sub N t T k = N k := by unfold n_sub; rw [if_neg (by omega)]
theorem n_add_ne {N T : Nat → Nat} {t k : Nat} (h : k < 13 + 19 * t ∨ 29 + 19 * t ≤ k) : n_add N t T k = N k := by unfold n_add; rw [if_neg (by omega)]
theorem n_sub_p {N T : Nat → Nat} {t b : Nat} (h : b < 16) : n_sub N t T (13 + 19 * t + b) = N (13 + 19 * t + b) - T b := by
  unfold n_sub; rw [if_pos (by omega), Nat.add_sub_cancel_left]
theorem n_add_p {N T : Nat → Nat} {t b : Nat} (h : b < 16) : n_add N t T (13 + 19 * t + b) = N (13 + 19 * t + b) + T b := by
  unfold n_add; rw [if_pos (by omega), Nat.add_sub_cancel_left]
theorem n_badd_ne {N T : Nat → Nat} {i k : Nat} (h : k < 124 ∨ 204 ≤ k ∨ (k - 124) % 5 ≠ i) : n_badd N i T k = N k := by unfold n_badd; rw [if_neg (by omega)]
theorem n_badd_p {N T : Nat → Nat} {i b : Nat} (hi : i < 5) (h : b < 16) : n_badd N i T (124 + 5 * b + i) = N (124 + 5 * b + i) + T b := by
  unfold n_badd; rw [if_pos (by omega), show (124 + 5 * b + i - 124) / 5 = b by omega]
theorem n_out_ne {N T : Nat → Nat} {t k : Nat} (h : k < 13 + 19 * t ∨ 29 + 19 * t ≤ k) (h1 : k ≠ 11 + 19 * t) : n_out N t T k = N k := by
  unfold n_out; split
  · rw [bq_r_ne h1, n_sub_ne h]
  · exact n_sub_ne h
theorem n_out_p {N T : Nat → Nat} {t b : Nat} (h : b < 16) : n_out N t T (13 + 19 * t + b) = N (13 + 19 * t + b) - T b := by
  unfold n_out; split
  · rw [bq_r_ne (by omega), n_sub_p h]
  · exact n_sub_p h
theorem n_in_ne {N T : Nat → Nat} {t k : Nat} (h : k < 13 + 19 * t ∨ 29 + 19 * t ≤ k) (h1 : k ≠ 11 + 19 * t) : n_in N t T k = N k := by
  unfold n_in; rw [bq_r_ne h1, n_add_ne h]
theorem n_in_p {N T : Nat → Nat} {t b : Nat} (h : b < 16) : n_in N t T (13 + 19 * t + b) = N (13 + 19 * t + b) + T b := by
  unfold n_in; rw [bq_r_ne (by omega), n_add_p h]
theorem n_in_1 {N T : Nat → Nat} {t : Nat} : n_in N t T (11 + 19 * t) = 1 := by unfold n_in; exact bq_r_self
theorem n_note_ne {N : Nat → Nat} {m k t l j : Nat} (h : j < 330) (h5 : j ≠ 5) : n_note N m k t l j = N j := by
  unfold n_note
  rw [bq_r_ne h5]
  unfold n_ent; split
  · rw [bq_r_ne (by omega), bq_r_ne (by omega), bq_r_ne (by omega), bq_r_ne (by omega)]
  · rfl
theorem n_note_5 {N : Nat → Nat} {m k t l : Nat} : n_note N m k t l 5 = N 5 + 1 := by unfold n_note; exact bq_r_self
theorem ts_sub {N T : Nat → Nat} {t : Nat} (h : ∀ j, j < 16 → T j ≤ N (13 + 19 * t + j)) : ts (n_sub N t T) t = ts N t - ns T 16 ∧ ns T 16 ≤ ts N t := by
  have e : ts (n_sub N t T) t = ns (fun j => N (13 + 19 * t + j) - T j) 16 := ns_congr 16 (fun j hj => n_sub_p hj)
  rw [e]
  exact ns_sub (F := fun j => N (13 + 19 * t + j)) (G := T) 16 h
theorem ts_out {N T : Nat → Nat} {t : Nat} (h : ∀ j, j < 16 → T j ≤ N (13 + 19 * t + j)) : ts (n_out N t T) t = ts N t - ns T 16 := by
  have e : ts (n_out N t T) t = ns (fun j => N (13 + 19 * t + j) - T j) 16 := ns_congr 16 (fun j hj => n_out_p hj)
  rw [e]
  exact (ns_sub (F := fun j => N (13 + 19 * t + j)) (G := T) 16 h).1
theorem ts_in {N T : Nat → Nat} {t : Nat} : ts (n_in N t T) t = ts N t + ns T 16 := by
  have e : ts (n_in N t T) t = ns (fun j => N (13 + 19 * t + j) + T j) 16 := ns_congr 16 (fun j hj => n_in_p hj)
  rw [e]
  exact ns_add (fun j => N (13 + 19 * t + j)) T 16
theorem bs_upd {N N' : Nat → Nat} {t b v : Nat} (ht : t < 6) (e : ∀ q, q < 6 → q ≠ t → N' (13 + 19 * q + b) = N (13 + 19 * q + b)) (ev : N' (13 + 19 * t + b) = v) : bs N' b + N (13 + 19 * t + b) = bs N b + v := by
  have h1 : bs N' b = ns (bq_r (fun q => N (13 + 19 * q + b)) t v) 6 := ns_congr 6 (fun q hq => by
    by_cases c : q = t
    · subst c; rw [bq_r_self]; exact ev
    · rw [bq_r_ne c]; exact e q hq c)
  have h2 := ns_upd (F := fun q => N (13 + 19 * q + b)) (c := t) (v := v) 6
  rw [if_pos ht, if_pos ht] at h2
  rw [h1]
  exact h2
theorem bs_ge {N : Nat → Nat} {t b : Nat} (ht : t < 6) : N (13 + 19 * t + b) ≤ bs N b := ns_ge (F := fun q => N (13 + 19 * q + b)) 6 ht
theorem Rw.p {g : BqG} {N : Nat → Nat} (h : Rw g N) {t j : Nat} (ht : t < 6) (hj : j < 16) : g (13 + 19 * t + j) = nI (N (13 + 19 * t + j)) ∧ N (13 + 19 * t + j) < 2 ^ 31 := h _ (by omega) (by omega)
theorem Rw.sub {g : BqG} {N T : Nat → Nat} {U : Nat → Int32} {t : Nat} (h : Rw g N) (hU : ∀ j, j < 16 → U j = nI (T j)) (hT : ∀ j, j < 16 → T j ≤ N (13 + 19 * t + j)) : Rw (g_sub g t U) (n_sub N t T) := fun k hk k6 => by
  unfold g_sub n_sub
  by_cases c : 13 + 19 * t ≤ k ∧ k < 29 + 19 * t
  · obtain ⟨a, b⟩ := h k hk k6
    have := hT (k - (13 + 19 * t)) (by omega)
    rw [show 13 + 19 * t + (k - (13 + 19 * t)) = k by omega] at this
    rw [if_pos c, if_pos c, a, hU _ (by omega), pk_sub this]
    exact ⟨rfl, by omega⟩
  · rw [if_neg c, if_neg c]; exact h k hk k6
theorem Rw.add {g : BqG} {N T : Nat → Nat} {U : Nat → Int32} {t : Nat} (h : Rw g N) (hU : ∀ j, j < 16 → U j = nI (T j)) (hT : ∀ j, j < 16 → N (13 + 19 * t + j) + T j < 2 ^ 31) : Rw (g_add g t U) (n_add N t T) := fun k hk k6 => by
  unfold g_add n_add
  by_cases c : 13 + 19 * t ≤ k ∧ k < 29 + 19 * t
  · obtain ⟨a, b⟩ := h k hk k6
    have := hT (k - (13 + 19 * t)) (by omega)
    rw [show 13 + 19 * t + (k - (13 + 19 * t)) = k by omega] at this
    rw [if_pos c, if_pos c, a, hU _ (by omega), nI_add]
    exact ⟨rfl, this⟩
  · rw [if_neg c, if_neg c]; exact h k hk k6
theorem Rw.badd {g : BqG} {N T : Nat → Nat} {U : Nat → Int32} {i : Nat} (hi : i < 5) (h : Rw g N) (hU : ∀ j, j < 16 → U j = nI (T j)) (hT : ∀ j, j < 16 → N (124 + 5 * j + i) + T j < 2 ^ 31) : Rw (g_badd g i U) (n_badd N i T) := fun k hk k6 => by
  unfold g_badd n_badd
  by_cases c : 124 ≤ k ∧ k < 204 ∧ (k - 124) % 5 = i
  · obtain ⟨a, b⟩ := h k hk k6
    have := hT ((k - 124) / 5) (by omega)
    rw [show 124 + 5 * ((k - 124) / 5) + i = k by omega] at this
    rw [if_pos c, if_pos c, a, hU _ (by omega), nI_add]
    exact ⟨rfl, this⟩
  · rw [if_neg c, if_neg c]; exact h k hk k6
theorem Rw.tot {g : BqG} {N : Nat → Nat} {t : Nat} (h : Rw g N) (ht : t < 6) : g_tot g t = nI (ts N t) := bq_sum_n (F := fun b => N (13 + 19 * t + b)) 16 (fun j hj => (h.p ht hj).1)
theorem Rw.out {g : BqG} {N T : Nat → Nat} {U : Nat → Int32} {t : Nat} (h : Rw g N) (ht : t < 6) (hU : ∀ j, j < 16 → U j = nI (T j)) (hT : ∀ j, j < 16 → T j ≤ N (13 + 19 * t + j)) (hb : ts N t < 2 ^ 31) : Rw (g_out g t U) (n_out N t T) := by
  have hs := h.sub hU hT
  have he := hs.tot ht
  have hl := (ts_sub hT).1
  unfold g_out n_out
  rw [he]
  by_cases c : ts (n_sub N t T) t = 0
  · rw [if_pos c, if_pos (by rw [c]; decide)]; exact hs.r rfl (by omega)
  · rw [if_neg c, if_neg (nI_ne0 (Nat.pos_of_ne_zero c) (by omega))]; exact hs
theorem Rw.in {g : BqG} {N T : Nat → Nat} {U : Nat → Int32} {t : Nat} (h : Rw g N) (hU : ∀ j, j < 16 → U j = nI (T j)) (hT : ∀ j, j < 16 → N (13 + 19 * t + j) + T j < 2 ^ 31) : Rw (g_in g t U) (n_in N t T) := (h.add hU hT).r rfl (by omega)
theorem Rw.note {g : BqG} {N : Nat → Nat} {m k t l : Nat} (h : Rw g N) (hk : k < 2 ^ 31) (ht : t < 2 ^ 31) (hl : l < 2 ^ 31) (h5 : N 5 + 1 < 2 ^ 31) : Rw (g_note g m (nI k) (nI t) (nI l)) (n_note N m k t l) := by
  unfold g_note n_note
  have h0 := h 0 (by omega) (by omega)
  refine Rw.r ?_ (by rw [(h 5 (by omega) (by omega)).1, nI_add]) h5
  unfold g_ent n_ent
  by_cases c : m < 80
  · rw [if_pos c, if_pos c]; exact (((h.r h0.1 h0.2).r rfl hk).r rfl ht).r rfl hl
  · rw [if_neg c, if_neg c]; exact h
/-- a portion out of a tank -/
theorem gt_out {N T : Nat → Nat} {t : Nat} (h : GT N t) (hT : ∀ j, j < 16 → T j ≤ N (13 + 19 * t + j)) (hp : N (11 + 19 * t) = 1) : GT (n_out N t T) t := by
  obtain ⟨a1, a2, a3, a4, a5, a6⟩ := h
  have e := ts_out hT
  have e2 := (ts_sub hT).1
  have e3 : n_out N t T (11 + 19 * t) = if ts N t - ns T 16 = 0 then 2 else 1 := by
    unfold n_out
    rw [e2]
    split
    · exact bq_r_self
    · rw [n_sub_ne (by omega)]; exact hp
  unfold GT
  rw [e, e3, n_out_ne (by omega) (by omega), n_out_ne (by omega) (by omega)]
  refine ⟨a1, a2, ?_, a4, by omega, ?_⟩
  · split <;> omega
  · split
    · rename_i c; exact ⟨fun z => absurd z (by omega), fun z => absurd z (by omega)⟩
    · rename_i c; exact ⟨fun _ => Nat.pos_of_ne_zero c, fun _ => rfl⟩
theorem gt_in {N T : Nat → Nat} {t : Nat} (h : GT N t) (hc : ts N t + ns T 16 ≤ N (10 + 19 * t)) (hp : 0 < ns T 16) : GT (n_in N t T) t := by
  obtain ⟨a1, a2, a3, a4, a5, a6⟩ := h
  unfold GT
  rw [ts_in, n_in_1, n_in_ne (by omega) (by omega), n_in_ne (by omega) (by omega)]
  exact ⟨a1, a2, by omega, a4, hc, fun _ => by omega, fun _ => rfl⟩
/-- what a portion of a tank of the row is -/
theorem tk_in {g : BqG} {en t l : Nat} (h : GK g en) (ht : t < 6) (hl : l ≤ gt g t) (hp : 0 < gt g t) : (∀ j, j < 16 → npt (gp g t) l j ≤ gn g (13 + 19 * t + j)) ∧ ns (npt (gp g t) l) 16 = l ∧ gt g t ≤ 9999 := by
  obtain ⟨a, b⟩ := npt_in (F := gp g t) hl hp
  obtain ⟨a1, a2, a3, a4, a5, a6⟩ := h.2.1.2.1 t ht
  have : gt g t ≤ gn g (10 + 19 * t) := a5
  exact ⟨fun j hj => (a j hj).2.1, b, by omega⟩
theorem gk_spill {g : BqG} {en t l r : Nat} (h : GK g en) (hen : en < 200000) (ht : t < 6) (h1 : 1 ≤ l) (hl : l ≤ gt g t) (hp : gn g (11 + 19 * t) = 1) (hr : r < 4) : GK (x_spill g t l r) (en + 1) := by
  obtain ⟨hT, hsum, hgt⟩ := tk_in h ht hl (by omega)
  obtain ⟨hR, hC, h6⟩ := h
  obtain ⟨d0, d1, d2, d3, d4, d5⟩ := hC.1
  generalize hTT : npt (gp g t) l = T at hT hsum
  have hU : ∀ j, j < 16 → tk g t l j = nI (T j) := fun j hj => by rw [← hTT]; rfl
  have hLr := hC.2.2.2.2.2 r hr
  have hB3 : ∀ j, j < 16 → n_out (gn g) t T (124 + 5 * j + 3) + T j < 2 ^ 31 := fun j hj => by
    obtain ⟨b1, b2, b3, b4⟩ := hC.2.2.1 j hj
    have := hT j hj
    have := bs_ge (N := gn g) (b := j) ht
    rw [n_out_ne (by omega) (by omega), show 124 + 5 * j + 3 = 127 + 5 * j by omega]
    omega
  have R1 := (hR.out ht hU hT (show ts (gn g) t < 2 ^ 31 from by have : ts (gn g) t = gt g t := rfl; omega)).badd (i := 3) (by decide) hU hB3
  have e324 : g_badd (g_out g t (tk g t l)) 3 (tk g t l) (324 + r) = nI (gn g (324 + r)) := by
    rw [g_badd_ne (Or.inr (by omega)), g_out_ne (by omega) (by omega)]; exact (hR _ (by omega) (by omega)).1
  have eL : g_out g t (tk g t l) (324 + r) + nI l = nI (gn g (324 + r) + l) := by
    rw [g_out_ne (by omega) (by omega), (hR _ (by omega) (by omega)).1, nI_add]
  have R2 := R1.r (k := 324 + r) (v := g_out g t (tk g t l) (324 + r) + nI l) (w := gn g (324 + r) + l) eL (by omega)
  have e5 : bq_r (n_badd (n_out (gn g) t T) 3 T) (324 + r) (gn g (324 + r) + l) 5 = gn g 5 := by rw [bq_r_ne (by omega), n_badd_ne (by omega), n_out_ne (by omega) (by omega)]
  have R3 := R2.note (m := gn g 5) (k := 3) (t := t) (l := l) (by omega) (by omega) (by omega) (by rw [e5]; omega)
  generalize hN : n_note (bq_r (n_badd (n_out (gn g) t T) 3 T) (324 + r) (gn g (324 + r) + l)) (gn g 5) 3 t l = N' at R3
  have f5 : N' 5 = gn g 5 + 1 := by rw [← hN, n_note_5, e5]
  have fo : ∀ k, k < 330 → k ≠ 5 → k ≠ 324 + r → (k < 124 ∨ 204 ≤ k ∨ (k - 124) % 5 ≠ 3) → N' k = n_out (gn g) t T k := fun k q1 q2 q3 q4 => by rw [← hN, n_note_ne q1 q2, bq_r_ne q3, n_badd_ne q4]
  have fe : ∀ k, k < 330 → k ≠ 5 → k ≠ 324 + r → (k < 124 ∨ 204 ≤ k ∨ (k - 124) % 5 ≠ 3) → (k < 13 + 19 * t ∨ 29 + 19 * t ≤ k) → k ≠ 11 + 19 * t → N' k = gn g k := fun k q1 q2 q3 q4 q5 q6 => by rw [fo k q1 q2 q3 q4, n_out_ne q5 q6]
  have f3 : ∀ b, b < 16 → N' (127 + 5 * b) = gn g (127 + 5 * b) + T b := fun b hb => by
    rw [← hN, n_note_ne (by omega) (by omega), bq_r_ne (by omega), show 127 + 5 * b = 124 + 5 * b + 3 by omega, n_badd_p (by decide) hb, n_out_ne (by omega) (by omega)]
  have fL : N' (324 + r) = gn g (324 + r) + l := by rw [← hN, n_note_ne (by omega) (by omega), bq_r_self]
  refine GK.of R3 ⟨⟨by rw [fe 0 (by omega) (by omega) (by omega) (by omega) (by omega) (by omega)]; exact d0, by rw [fe 1 (by omega) (by omega) (by omega) (by omega) (by omega) (by omega)]; exact d1, by rw [fe 2 (by omega) (by omega) (by omega) (by omega) (by omega) (by omega)]; exact d2, by rw [fe 3 (by omega) (by omega) (by omega) (by omega) (by omega) (by omega)]; exact d3, by rw [fe 4 (by omega) (by omega) (by omega) (by omega) (by omega) (by omega)]; exact d4, by omega⟩, fun q hq => ?_, fun b hb => ?_, fun o ho => (hC.2.2.2.1 o ho).e (fun k _ _ => fe k (by omega) (by omega) (by omega) (by omega) (by omega) (by omega)) (fe 2 (by omega) (by omega) (by omega) (by omega) (by omega) (by omega)), fun r' hr' => by rw [fe _ (by omega) (by omega) (by omega) (by omega) (by omega) (by omega)]; exact hC.2.2.2.2.1 r' hr', fun r' hr' => ?_⟩ ?_
  · by_cases c : q = t
    · subst c
      exact (gt_out (hC.2.1 q hq) hT hp).e (fun k _ _ => fo k (by omega) (by omega) (by omega) (by omega))
    · exact (hC.2.1 q hq).e (fun k _ _ => fe k (by omega) (by omega) (by omega) (by omega) (by omega) (by omega))
  · obtain ⟨b1, b2, b3, b4⟩ := hC.2.2.1 b hb
    have hbs := bs_upd (N := gn g) (N' := N') (b := b) (v := gn g (13 + 19 * t + b) - T b) ht (fun q hq c => fe _ (by omega) (by omega) (by omega) (by omega) (by omega) (by omega)) (by rw [fo _ (by omega) (by omega) (by omega) (by omega), n_out_p hb])
    have hTb := hT b hb
    have hge := bs_ge (N := gn g) (b := b) ht
    unfold GB
    rw [fe (124 + 5 * b) (by omega) (by omega) (by omega) (by omega) (by omega) (by omega), fe (125 + 5 * b) (by omega) (by omega) (by omega) (by omega) (by omega) (by omega), fe (126 + 5 * b) (by omega) (by omega) (by omega) (by omega) (by omega) (by omega), f3 b hb, fe 1 (by omega) (by omega) (by omega) (by omega) (by omega) (by omega)]
    exact ⟨b1, by omega, b3, b4⟩
  · rw [f5]
    by_cases c : r' = r
    · subst c; rw [fL]; omega
    · rw [fe _ (by omega) (by omega) (by omega) (by omega) (by omega) (by omega)]
      have := hC.2.2.2.2.2 r' hr'
      omega
  · unfold x_spill
    rw [g_loss_ne (by omega) (by omega), g_out_ne (by omega) (by omega)]; exact h6
/-! transfer, filling, brewing keep it -/
theorem gc_pour {N N' T T2 : Nat → Nat} {en f t l ls : Nat} (hC : GC N en) (hf : f < 6) (ht : t < 6) (hne : f ≠ t) (h1 : 1 ≤ l) (hls : ls < l) (hl9 : l ≤ 9999) (hT : ∀ j, j < 16 → T j ≤ N (13 + 19 * f + j)) (hsum : ns T 16 = l) (hT2 : ∀ j, j < 16 → T2 j ≤ T j) (hsum2 : ns T2 16 = ls) (hp : N (11 + 19 * f) = 1) (hroom : ts N t + (l - ls) ≤ N (10 + 19 * t))
    (e : ∀ k, k < 330 → k ≠ 5 → k ≠ 324 → (k < 124 ∨ 204 ≤ k ∨ (k - 124) % 5 ≠ 3) → (k < 13 + 19 * f ∨ 29 + 19 * f ≤ k) → k ≠ 11 + 19 * f → (k < 13 + 19 * t ∨ 29 + 19 * t ≤ k) → k ≠ 11 + 19 * t → N' k = N k)
    (ef : ∀ j, j < 16 → N' (13 + 19 * f + j) = N (13 + 19 * f + j) - T j) (ef1 : N' (11 + 19 * f) = n_out N f T (11 + 19 * f)) (et : ∀ j, j < 16 → N' (13 + 19 * t + j) = N (13 + 19 * t + j) + (T j - T2 j)) (et1 : N' (11 + 19 * t) = 1)
    (e3 : ∀ b, b < 16 → N' (127 + 5 * b) = N (127 + 5 * b) + T2 b) (eL : N' 324 = N 324 + ls) (e5 : N 5 + 1 ≤ N' 5) (e53 : N' 5 ≤ N 5 + 3) : GC N' (en + 3) := by
  obtain ⟨⟨d0, d1, d2, d3, d4, d5⟩, hGT, hGB, hGO, hGR, hGL⟩ := hC
  have hD : ns (fun j => T j - T2 j) 16 = l - ls := by rw [(ns_sub (F := T) (G := T2) 16 hT2).1, hsum, hsum2]
  refine ⟨⟨by rw [e 0 (by omega) (by omega) (by omega) (by omega) (by omega) (by omega) (by omega) (by omega)]; exact d0, by rw [e 1 (by omega) (by omega) (by omega) (by omega) (by omega) (by omega) (by omega) (by omega)]; exact d1, by rw [e 2 (by omega) (by omega) (by omega) (by omega) (by omega) (by omega) (by omega) (by omega)]; exact d2, by rw [e 3 (by omega) (by omega) (by omega) (by omega) (by omega) (by omega) (by omega) (by omega)]; exact d3, by rw [e 4 (by omega) (by omega) (by omega) (by omega) (by omega) (by omega) (by omega) (by omega)]; exact d4, by omega⟩, fun q hq => ?_, fun b hb => ?_, fun o ho => (hGO o ho).e (fun k _ _ => e k (by omega) (by omega) (by omega) (by omega) (by omega) (by omega) (by omega) (by omega)) (e 2 (by omega) (by omega) (by omega) (by omega) (by omega) (by omega) (by omega) (by omega)), fun r hr => by rw [e _ (by omega) (by omega) (by omega) (by omega) (by omega) (by omega) (by omega) (by omega)]; exact hGR r hr, fun r hr => ?_⟩
  · by_cases c : q = f
    · subst c
      refine (gt_out (hGT q hq) hT hp).e (fun k k1 k2 => ?_)
      by_cases c1 : k = 11 + 19 * q
      · rw [c1]; exact ef1
      · by_cases c2 : 13 + 19 * q ≤ k
        · obtain ⟨j, rfl⟩ : ∃ j, k = 13 + 19 * q + j := ⟨k - (13 + 19 * q), by omega⟩
          rw [ef j (by omega), n_out_p (by omega)]
        · rw [n_out_ne (by omega) c1]; exact e k (by omega) (by omega) (by omega) (by omega) (by omega) c1 (by omega) (by omega)
    · by_cases c2 : q = t
      · subst c2
        refine (gt_in (T := fun j => T j - T2 j) (hGT q hq) (by rw [hD]; exact hroom) (by rw [hD]; omega)).e (fun k k1 k2 => ?_)
        by_cases c1 : k = 11 + 19 * q
        · rw [c1, et1, n_in_1]
        · by_cases c2 : 13 + 19 * q ≤ k
          · obtain ⟨j, rfl⟩ : ∃ j, k = 13 + 19 * q + j := ⟨k - (13 + 19 * q), by omega⟩
            rw [et j (by omega), n_in_p (by omega)]
          · rw [n_in_ne (by omega) c1]; exact e k (by omega) (by omega) (by omega) (by omega) (by omega) (by omega) (by omega) c1
      · exact (hGT q hq).e (fun k _ _ => e k (by omega) (by omega) (by omega) (by omega) (by omega) (by omega) (by omega) (by omega))
  · obtain ⟨b1, b2, b3, b4⟩ := hGB b hb
    have k1 := bs_upd (N := N) (N' := n_out N f T) (b := b) (v := N (13 + 19 * f + b) - T b) hf (fun q hq c => n_out_ne (by omega) (by omega)) (n_out_p hb)
    have k2 := bs_upd (N := n_out N f T) (N' := N') (b := b) (v := N (13 + 19 * t + b) + (T b - T2 b)) ht (fun q hq c => by
      by_cases c1 : q = f
      · subst c1; rw [ef b hb, n_out_p hb]
      · rw [n_out_ne (by omega) (by omega)]; exact e _ (by omega) (by omega) (by omega) (by omega) (by omega) (by omega) (by omega) (by omega)) (et b hb)
    rw [n_out_ne (k := 13 + 19 * t + b) (by omega) (by omega)] at k2
    have hTb := hT b hb
    have hT2b := hT2 b hb
    have hge := bs_ge (N := N) (b := b) hf
    unfold GB
    rw [e (124 + 5 * b) (by omega) (by omega) (by omega) (by omega) (by omega) (by omega) (by omega) (by omega), e (125 + 5 * b) (by omega) (by omega) (by omega) (by omega) (by omega) (by omega) (by omega) (by omega), e (126 + 5 * b) (by omega) (by omega) (by omega) (by omega) (by omega) (by omega) (by omega) (by omega), e3 b hb, e 1 (by omega) (by omega) (by omega) (by omega) (by omega) (by omega) (by omega) (by omega)]
    exact ⟨b1, by omega, b3, b4⟩
  · have := hGL r hr
    by_cases c : r = 0
    · subst c
      show N' 324 ≤ _
      have : N 324 ≤ 9999 * N 5 := hGL 0 hr
      omega
    · rw [e _ (by omega) (by omega) (by omega) (by omega) (by omega) (by omega) (by omega) (by omega)]
      omega
theorem gk_pour {g : BqG} {en f t l ls : Nat} (h : GK g en) (hen : en < 200000) (hf : f < 6) (ht : t < 6) (hne : f ≠ t) (h1 : 1 ≤ l) (hl : l ≤ gt g f) (hls : ls < l) (hp : gn g (11 + 19 * f) = 1) (hroom : gt g t + (l - ls) ≤ gn g (10 + 19 * t)) : GK (x_pour g f t l ls) (en + 3) := by
  obtain ⟨hT, hsum, hgt⟩ := tk_in h hf hl (by omega)
  obtain ⟨hR, hC, h6⟩ := h
  obtain ⟨d0, d1, d2, d3, d4, d5⟩ := hC.1
  have hP2 := npt_in (F := npt (gp g f) l) (l := ls) (by rw [hsum]; omega) (by rw [hsum]; omega)
  have hU2 : ∀ j, j < 16 → tk2 g f l ls j = nI (npt (npt (gp g f) l) ls j) := fun _ _ => rfl
  have hU : ∀ j, j < 16 → tk g f l j = nI (npt (gp g f) l j) := fun _ _ => rfl
  generalize hTT2 : npt (npt (gp g f) l) ls = T2 at hP2 hU2
  generalize hTT : npt (gp g f) l = T at hT hsum hP2 hU
  have hT2 : ∀ j, j < 16 → T2 j ≤ T j := fun j hj => (hP2.1 j hj).2.1
  have hTt : gt g t ≤ 9999 := by
    obtain ⟨a1, a2, a3, a4, a5, a6⟩ := hC.2.1 t ht
    have : gt g t ≤ gn g (10 + 19 * t) := a5
    omega
  have hTle : ∀ j, j < 16 → T j ≤ 9999 := fun j hj => by have := ns_ge (F := T) 16 hj; omega
  have hNt : ∀ j, j < 16 → gn g (13 + 19 * t + j) ≤ 9999 := fun j hj => by
    have : gp g t j ≤ gt g t := ns_ge (F := gp g t) 16 hj
    exact Nat.le_trans this hTt
  have R1 := (hR.out hf hU hT (show ts (gn g) f < 2 ^ 31 from by have : ts (gn g) f = gt g f := rfl; omega)).note (m := gn g 5) (k := 1) (t := f) (l := l) (by omega) (by omega) (by omega) (by rw [n_out_ne (by omega) (by omega)]; omega)
  have c324 := hC.2.2.2.2.2 0 (by decide)
  have c324' : gn g 324 ≤ 9999 * gn g 5 := c324
  by_cases hz : ls = 0
  · subst hz
    have hz2 : ∀ j, j < 16 → T2 j = 0 := fun j hj => by have := ns_ge (F := T2) 16 hj; have := hP2.2; omega
    have R2 := (R1.in (t := t) hU (fun j hj => by rw [n_note_ne (by omega) (by omega), n_out_ne (by omega) (by omega)]; have := hNt j hj; have := hTle j hj; omega)).note (m := gn g 5 + 1) (k := 2) (t := t) (l := l - 0) (by omega) (by omega) (by omega) (by rw [n_in_ne (by omega) (by omega), n_note_5, n_out_ne (by omega) (by omega)]; omega)
    generalize hN : n_note (n_in (n_note (n_out (gn g) f T) (gn g 5) 1 f l) t T) (gn g 5 + 1) 2 t (l - 0) = N' at R2
    have a1 : ∀ k, k < 330 → k ≠ 5 → (k < 13 + 19 * t ∨ 29 + 19 * t ≤ k) → k ≠ 11 + 19 * t → N' k = n_out (gn g) f T k := fun k q1 q2 q3 q4 => by rw [← hN, n_note_ne q1 q2, n_in_ne q3 q4, n_note_ne q1 q2]
    have a5 : N' 5 = gn g 5 + 2 := by rw [← hN, n_note_5, n_in_ne (by omega) (by omega), n_note_5, n_out_ne (by omega) (by omega)]
    have hx : x_pour g f t l 0 = g_note (g_in (x_pour1 g f l) t (tk g f l)) (gn g 5 + 1) (nI 2) (nI t) (nI (l - 0)) := if_pos rfl
    rw [hx]
    refine GK.of R2 (gc_pour (N := gn g) (T := T) (T2 := T2) hC hf ht hne h1 hls (by omega) hT hsum hT2 hP2.2 hp hroom (fun k q1 q2 q3 q4 q5 q6 q7 q8 => by rw [a1 k q1 q2 q7 q8, n_out_ne q5 q6]) (fun j hj => by rw [a1 _ (by omega) (by omega) (by omega) (by omega), n_out_p hj]) (a1 _ (by omega) (by omega) (by omega) (by omega)) (fun j hj => by rw [← hN, n_note_ne (by omega) (by omega), n_in_p hj, n_note_ne (by omega) (by omega), n_out_ne (by omega) (by omega), hz2 j hj, Nat.sub_zero]) (by rw [← hN, n_note_ne (by omega) (by omega), n_in_1]) (fun b hb => by rw [a1 _ (by omega) (by omega) (by omega) (by omega), n_out_ne (by omega) (by omega), hz2 b hb, Nat.add_zero]) (by rw [a1 _ (by omega) (by omega) (by omega) (by omega), n_out_ne (by omega) (by omega), Nat.add_zero]) (by omega) (by omega)) ?_
    rw [← hx, x_pour_hi (Or.inl rfl) hf ht]; exact h6
  · have hD : ∀ j, j < 16 → (fun j => tk g f l j - tk2 g f l ls j) j = nI (T j - T2 j) := fun j hj => by
      show tk g f l j - tk2 g f l ls j = _
      rw [hU j hj, hU2 j hj, pk_sub (hT2 j hj)]
    generalize hM : n_note (n_out (gn g) f T) (gn g 5) 1 f l = M at R1
    have m0 : ∀ k, k < 330 → k ≠ 5 → M k = n_out (gn g) f T k := fun k q1 q2 => by rw [← hM, n_note_ne q1 q2]
    have m5 : M 5 = gn g 5 + 1 := by rw [← hM, n_note_5, n_out_ne (by omega) (by omega)]
    have R2 := R1.badd (i := 3) (by decide) hU2 (fun j hj => by
      obtain ⟨b1, b2, b3, b4⟩ := hC.2.2.1 j hj
      have := hT2 j hj; have := hTle j hj
      rw [m0 _ (by omega) (by omega), n_out_ne (by omega) (by omega), show 124 + 5 * j + 3 = 127 + 5 * j by omega]
      omega)
    have eL : x_pour1 g f l 324 + nI ls = nI (gn g 324 + ls) := by
      unfold x_pour1
      rw [g_note_ne (by omega) (by omega), g_out_ne (by omega) (by omega), (hR 324 (by omega) (by omega)).1, nI_add]
    have R3 := (R2.r (k := 324 + 0) (v := x_pour1 g f l (324 + 0) + nI ls) (w := gn g 324 + ls) eL (by omega)).note (m := gn g 5 + 1) (k := 3) (t := f) (l := ls) (by omega) (by omega) (by omega) (by rw [bq_r_ne (by omega), n_badd_ne (by omega), m5]; omega)
    generalize hK : n_note (bq_r (n_badd M 3 T2) (324 + 0) (gn g 324 + ls)) (gn g 5 + 1) 3 f ls = K at R3
    have k0 : ∀ k, k < 330 → k ≠ 5 → k ≠ 324 → (k < 124 ∨ 204 ≤ k ∨ (k - 124) % 5 ≠ 3) → K k = n_out (gn g) f T k := fun k q1 q2 q3 q4 => by rw [← hK, n_note_ne q1 q2, bq_r_ne q3, n_badd_ne q4, m0 k q1 q2]
    have k5 : K 5 = gn g 5 + 2 := by rw [← hK, n_note_5, bq_r_ne (by omega), n_badd_ne (by omega), m5]
    have k3 : ∀ b, b < 16 → K (127 + 5 * b) = gn g (127 + 5 * b) + T2 b := fun b hb => by
      rw [← hK, n_note_ne (by omega) (by omega), bq_r_ne (by omega), show 127 + 5 * b = 124 + 5 * b + 3 by omega, n_badd_p (by decide) hb, m0 _ (by omega) (by omega), n_out_ne (by omega) (by omega)]
    have kL : K 324 = gn g 324 + ls := by rw [← hK, n_note_ne (by omega) (by omega)]; exact bq_r_self
    have R4 := (R3.in (t := t) hD (fun j hj => by rw [k0 _ (by omega) (by omega) (by omega) (by omega), n_out_ne (by omega) (by omega)]; have := hNt j hj; have := hTle j hj; omega)).note (m := gn g 5 + 2) (k := 2) (t := t) (l := l - ls) (by omega) (by omega) (by omega) (by rw [n_in_ne (by omega) (by omega), k5]; omega)
    generalize hN : n_note (n_in K t (fun j => T j - T2 j)) (gn g 5 + 2) 2 t (l - ls) = N' at R4
    have a1 : ∀ k, k < 330 → k ≠ 5 → (k < 13 + 19 * t ∨ 29 + 19 * t ≤ k) → k ≠ 11 + 19 * t → N' k = K k := fun k q1 q2 q3 q4 => by rw [← hN, n_note_ne q1 q2, n_in_ne q3 q4]
    have a5 : N' 5 = gn g 5 + 3 := by rw [← hN, n_note_5, n_in_ne (by omega) (by omega), k5]
    have hx : x_pour g f t l ls = g_note (g_in (g_loss (x_pour1 g f l) (gn g 5 + 1) (tk2 g f l ls) (nI f) (nI ls) 0) t (fun j => tk g f l j - tk2 g f l ls j)) (gn g 5 + 2) (nI 2) (nI t) (nI (l - ls)) := if_neg hz
    rw [hx]
    refine GK.of R4 (gc_pour (N := gn g) (T := T) (T2 := T2) hC hf ht hne h1 hls (by omega) hT hsum hT2 hP2.2 hp hroom (fun k q1 q2 q3 q4 q5 q6 q7 q8 => by rw [a1 k q1 q2 q7 q8, k0 k q1 q2 q3 q4, n_out_ne q5 q6]) (fun j hj => by rw [a1 _ (by omega) (by omega) (by omega) (by omega), k0 _ (by omega) (by omega) (by omega) (by omega), n_out_p hj]) (by rw [a1 _ (by omega) (by omega) (by omega) (by omega), k0 _ (by omega) (by omega) (by omega) (by omega)]) (fun j hj => by rw [← hN, n_note_ne (by omega) (by omega), n_in_p hj, k0 _ (by omega) (by omega) (by omega) (by omega), n_out_ne (by omega) (by omega)]) (by rw [← hN, n_note_ne (by omega) (by omega), n_in_1]) (fun b hb => by rw [a1 _ (by omega) (by omega) (by omega) (by omega), k3 b hb]) (by rw [a1 _ (by omega) (by omega) (by omega) (by omega), kL]) (by omega) (by omega)) ?_
    rw [← hx, x_pour_hi (Or.inl rfl) hf ht]; exact h6
theorem gk_fill {g : BqG} {en t o : Nat} (h : GK g en) (hen : en < 200000) (ht : t < 6) (ho : o < gn g 2) (hl : gn g (205 + 9 * o) ≤ gt g t) (hp : gn g (11 + 19 * t) = 1) : GK (x_fill g t o (gn g (205 + 9 * o))) (en + 1) := by
  have hG := h.gi
  have hc2 : gn g 2 ≤ 10 := h.2.1.1.2.2.1
  have ho10 : o < 10 := by omega
  have hl1 : 1 ≤ gn g (205 + 9 * o) := (h.2.1.2.2.2.1 o ho10).2.1 ho
  have hl9 : gn g (205 + 9 * o) ≤ 9999 := (h.2.1.2.2.2.1 o ho10).1
  generalize hll : gn g (205 + 9 * o) = l at hl hl1 hl9 ⊢
  obtain ⟨hT, hsum, hgt⟩ := tk_in h ht hl (by omega)
  have hpos : 0 < gt g t := by omega
  have hfa := fa_le hG hl hpos hgt
  have hfs := fs_m hG hl hpos hgt hl1
  obtain ⟨fdd, hfd1, hfd2⟩ := fd_n (o := o) hG hl hpos hgt
  have hsl : fa g t l / l ≤ 19998000 := Nat.le_trans (Nat.div_le_self _ _) hfa
  obtain ⟨hR, hC, h6⟩ := h
  obtain ⟨d0, d1, d2, d3, d4, d5⟩ := hC.1
  have hU : ∀ j, j < 16 → tk g t l j = nI (npt (gp g t) l j) := fun _ _ => rfl
  generalize hTT : npt (gp g t) l = T at hT hsum hU
  have R1 := (hR.out ht hU hT (show ts (gn g) t < 2 ^ 31 from by have : ts (gn g) t = gt g t := rfl; omega)).badd (i := 2) (by decide) hU (fun j hj => by
    obtain ⟨b1, b2, b3, b4⟩ := hC.2.2.1 j hj
    have := hT j hj
    have := bs_ge (N := gn g) (b := j) ht
    rw [n_out_ne (by omega) (by omega), show 124 + 5 * j + 2 = 126 + 5 * j by omega]
    omega)
  have R2 := ((((R1.r (k := 208 + 9 * o) (w := 1) rfl (by omega)).r (k := 210 + 9 * o) (hR 0 (by omega) (by omega)).1 (by omega)).r (k := 211 + 9 * o) hfs (by omega)).r (k := 212 + 9 * o) (w := fa g t l) rfl (by omega)).r (k := 209 + 9 * o) hfd2 (by omega)
  generalize hM : bq_r (bq_r (bq_r (bq_r (bq_r (n_badd (n_out (gn g) t T) 2 T) (208 + 9 * o) 1) (210 + 9 * o) (gn g 0)) (211 + 9 * o) (fa g t l / l)) (212 + 9 * o) (fa g t l)) (209 + 9 * o) fdd = M at R2
  have m0 : ∀ k, (k < 208 + 9 * o ∨ 212 + 9 * o < k) → (k < 124 ∨ 204 ≤ k ∨ (k - 124) % 5 ≠ 2) → M k = n_out (gn g) t T k := fun k q1 q2 => by rw [← hM, bq_r_ne (by omega), bq_r_ne (by omega), bq_r_ne (by omega), bq_r_ne (by omega), bq_r_ne (by omega), n_badd_ne q2]
  have R3 := R2.note (m := gn g 5) (k := 4) (t := t) (l := l) (by omega) (by omega) (by omega) (by rw [m0 5 (by omega) (by omega), n_out_ne (by omega) (by omega)]; omega)
  generalize hN : n_note M (gn g 5) 4 t l = N' at R3
  have a0 : ∀ k, k < 330 → k ≠ 5 → (k < 208 + 9 * o ∨ 212 + 9 * o < k) → (k < 124 ∨ 204 ≤ k ∨ (k - 124) % 5 ≠ 2) → N' k = n_out (gn g) t T k := fun k p1 p2 q1 q2 => by rw [← hN, n_note_ne p1 p2, m0 k q1 q2]
  have e : ∀ k, k < 330 → k ≠ 5 → (k < 208 + 9 * o ∨ 212 + 9 * o < k) → (k < 124 ∨ 204 ≤ k ∨ (k - 124) % 5 ≠ 2) → (k < 13 + 19 * t ∨ 29 + 19 * t ≤ k) → k ≠ 11 + 19 * t → N' k = gn g k := fun k p1 p2 q1 q2 q3 q4 => by rw [a0 k p1 p2 q1 q2, n_out_ne q3 q4]
  have a5 : N' 5 = gn g 5 + 1 := by rw [← hN, n_note_5, m0 5 (by omega) (by omega), n_out_ne (by omega) (by omega)]
  have c8 : N' (208 + 9 * o) = 1 := by rw [← hN, n_note_ne (by omega) (by omega), ← hM, bq_r_ne (by omega), bq_r_ne (by omega), bq_r_ne (by omega), bq_r_ne (by omega), bq_r_self]
  have c9 : N' (209 + 9 * o) = fdd := by rw [← hN, n_note_ne (by omega) (by omega), ← hM, bq_r_self]
  have c12 : N' (212 + 9 * o) = fa g t l := by rw [← hN, n_note_ne (by omega) (by omega), ← hM, bq_r_ne (by omega), bq_r_self]
  have f2 : ∀ b, b < 16 → N' (126 + 5 * b) = gn g (126 + 5 * b) + T b := fun b hb => by
    rw [← hN, n_note_ne (by omega) (by omega), ← hM, bq_r_ne (by omega), bq_r_ne (by omega), bq_r_ne (by omega), bq_r_ne (by omega), bq_r_ne (by omega), show 126 + 5 * b = 124 + 5 * b + 2 by omega, n_badd_p (by decide) hb, n_out_ne (by omega) (by omega)]
  have e2 : N' 2 = gn g 2 := e 2 (by omega) (by omega) (by omega) (by omega) (by omega) (by omega)
  refine GK.of R3 ⟨⟨by rw [e 0 (by omega) (by omega) (by omega) (by omega) (by omega) (by omega)]; exact d0, by rw [e 1 (by omega) (by omega) (by omega) (by omega) (by omega) (by omega)]; exact d1, by rw [e2]; exact d2, by rw [e 3 (by omega) (by omega) (by omega) (by omega) (by omega) (by omega)]; exact d3, by rw [e 4 (by omega) (by omega) (by omega) (by omega) (by omega) (by omega)]; exact d4, by omega⟩, fun q hq => ?_, fun b hb => ?_, fun q hq => ?_, fun r hr => by rw [e _ (by omega) (by omega) (by omega) (by omega) (by omega) (by omega)]; exact hC.2.2.2.2.1 r hr, fun r hr => ?_⟩ ?_
  · by_cases c : q = t
    · subst c
      exact (gt_out (hC.2.1 q hq) hT hp).e (fun k _ _ => a0 k (by omega) (by omega) (by omega) (by omega))
    · exact (hC.2.1 q hq).e (fun k _ _ => e k (by omega) (by omega) (by omega) (by omega) (by omega) (by omega))
  · obtain ⟨b1, b2, b3, b4⟩ := hC.2.2.1 b hb
    have hbs := bs_upd (N := gn g) (N' := N') (b := b) (v := gn g (13 + 19 * t + b) - T b) ht (fun q hq c => e _ (by omega) (by omega) (by omega) (by omega) (by omega) (by omega)) (by rw [a0 _ (by omega) (by omega) (by omega) (by omega), n_out_p hb])
    have hTb := hT b hb
    have hge := bs_ge (N := gn g) (b := b) ht
    unfold GB
    rw [e (124 + 5 * b) (by omega) (by omega) (by omega) (by omega) (by omega) (by omega), e (125 + 5 * b) (by omega) (by omega) (by omega) (by omega) (by omega) (by omega), e (127 + 5 * b) (by omega) (by omega) (by omega) (by omega) (by omega) (by omega), f2 b hb, e 1 (by omega) (by omega) (by omega) (by omega) (by omega) (by omega)]
    exact ⟨b1, by omega, b3, b4⟩
  · obtain ⟨o1, o2, o3, o4, o5, o6, o7, o8, o9⟩ := hC.2.2.2.1 q hq
    by_cases c : q = o
    · subst c
      unfold GO
      rw [c8, c9, c12, e2, e (205 + 9 * q) (by omega) (by omega) (by omega) (by omega) (by omega) (by omega), e (206 + 9 * q) (by omega) (by omega) (by omega) (by omega) (by omega) (by omega), e (207 + 9 * q) (by omega) (by omega) (by omega) (by omega) (by omega) (by omega), e (204 + 9 * q) (by omega) (by omega) (by omega) (by omega) (by omega) (by omega)]
      exact ⟨o1, o2, o3, o4, o5, by omega, hfd1, by omega, fun z => absurd z (by omega)⟩
    · exact (hC.2.2.2.1 q hq).e (fun k _ _ => e k (by omega) (by omega) (by omega) (by omega) (by omega) (by omega)) e2
  · rw [e _ (by omega) (by omega) (by omega) (by omega) (by omega) (by omega), a5]
    have := hC.2.2.2.2.2 r hr
    omega
  · rw [x_fill_n ht (by omega) (by omega), x_fill3_n ht (by omega) (by omega)]; exact h6
theorem gk_brew {g : BqG} {en t l s : Nat} (h : GK g en) (hen : en < 200000) (ht : t < 6) (h1 : 1 ≤ l) (hl : l ≤ gn g (10 + 19 * t)) (hs : s ≤ 2000) (hc : gn g 1 < 16) (hp : gn g (11 + 19 * t) = 0) : GK (x_brew g t (nI l) (nI s)) (en + 1) := by
  obtain ⟨hR, hC, h6⟩ := h
  obtain ⟨d0, d1, d2, d3, d4, d5⟩ := hC.1
  obtain ⟨t1, t2, t3, t4, t5, t6⟩ := hC.2.1 t ht
  have hts : ts (gn g) t = 0 := by rcases Nat.eq_zero_or_pos (ts (gn g) t) with z | z; exact z; have := t6.mpr z; omega
  obtain ⟨u1, u2, u3, u4⟩ := hC.2.2.1 (gn g 1) hc
  have u5 := u4 (Nat.le_refl _)
  have hz : ∀ q, q < 6 → gn g (13 + 19 * q + gn g 1) = 0 := fun q hq => by have := bs_ge (N := gn g) (b := gn g 1) hq; omega
  have hzt : ∀ j, j < 16 → gn g (13 + 19 * t + j) = 0 := fun j hj => by
    have : gn g (13 + 19 * t + j) ≤ ts (gn g) t := ns_ge (F := fun b => gn g (13 + 19 * t + b)) 16 hj
    omega
  have R1 := (((((hR.r (k := 124 + 5 * gn g 1) (w := s) rfl (by omega)).r (k := 124 + 5 * gn g 1 + 1) (w := l) rfl (by omega)).r (k := 124 + 5 * gn g 1 + 4) (hR 0 (by omega) (by omega)).1 (by omega)).r (k := 1) (w := gn g 1 + 1) rfl (by omega)).r (k := 11 + 19 * t) (w := 1) rfl (by omega)).r (k := 13 + 19 * t + gn g 1) (w := l) rfl (by omega)
  generalize hM : bq_r (bq_r (bq_r (bq_r (bq_r (bq_r (gn g) (124 + 5 * gn g 1) s) (124 + 5 * gn g 1 + 1) l) (124 + 5 * gn g 1 + 4) (gn g 0)) 1 (gn g 1 + 1)) (11 + 19 * t) 1) (13 + 19 * t + gn g 1) l = M at R1
  have m5 : M 5 = gn g 5 := by rw [← hM, bq_r_ne (by omega), bq_r_ne (by omega), bq_r_ne (by omega), bq_r_ne (by omega), bq_r_ne (by omega), bq_r_ne (by omega)]
  have R2 := R1.note (m := gn g 5) (k := 0) (t := t) (l := l) (by omega) (by omega) (by omega) (by rw [m5]; omega)
  generalize hN : n_note M (gn g 5) 0 t l = N' at R2
  have e : ∀ k, k < 330 → k ≠ 5 → k ≠ 1 → k ≠ 11 + 19 * t → k ≠ 13 + 19 * t + gn g 1 → k ≠ 124 + 5 * gn g 1 → k ≠ 125 + 5 * gn g 1 → k ≠ 128 + 5 * gn g 1 → N' k = gn g k := fun k p1 p2 p3 p4 p5 p6 p7 p8 => by
    rw [← hN, n_note_ne p1 p2, ← hM, bq_r_ne p5, bq_r_ne p4, bq_r_ne p3, bq_r_ne (by omega), bq_r_ne (by omega), bq_r_ne p6]
  have c1 : N' 1 = gn g 1 + 1 := by rw [← hN, n_note_ne (by omega) (by omega), ← hM, bq_r_ne (by omega), bq_r_ne (by omega), bq_r_self]
  have c5 : N' 5 = gn g 5 + 1 := by rw [← hN, n_note_5, m5]
  have cs : N' (124 + 5 * gn g 1) = s := by rw [← hN, n_note_ne (by omega) (by omega), ← hM, bq_r_ne (by omega), bq_r_ne (by omega), bq_r_ne (by omega), bq_r_ne (by omega), bq_r_ne (by omega), bq_r_self]
  have cl : N' (125 + 5 * gn g 1) = l := by rw [← hN, n_note_ne (by omega) (by omega), ← hM, bq_r_ne (by omega), bq_r_ne (by omega), bq_r_ne (by omega), bq_r_ne (by omega), show 125 + 5 * gn g 1 = 124 + 5 * gn g 1 + 1 by omega, bq_r_self]
  have cp : N' (11 + 19 * t) = 1 := by rw [← hN, n_note_ne (by omega) (by omega), ← hM, bq_r_ne (by omega), bq_r_self]
  have cq : N' (13 + 19 * t + gn g 1) = l := by rw [← hN, n_note_ne (by omega) (by omega), ← hM, bq_r_self]
  refine GK.of R2 ⟨⟨by rw [e 0 (by omega) (by omega) (by omega) (by omega) (by omega) (by omega) (by omega) (by omega)]; exact d0, by omega, by rw [e 2 (by omega) (by omega) (by omega) (by omega) (by omega) (by omega) (by omega) (by omega)]; exact d2, by rw [e 3 (by omega) (by omega) (by omega) (by omega) (by omega) (by omega) (by omega) (by omega)]; exact d3, by rw [e 4 (by omega) (by omega) (by omega) (by omega) (by omega) (by omega) (by omega) (by omega)]; exact d4, by omega⟩, fun q hq => ?_, fun b hb => ?_, fun o ho => (hC.2.2.2.1 o ho).e (fun k _ _ => e k (by omega) (by omega) (by omega) (by omega) (by omega) (by omega) (by omega) (by omega)) (e 2 (by omega) (by omega) (by omega) (by omega) (by omega) (by omega) (by omega) (by omega)), fun r hr => by rw [e _ (by omega) (by omega) (by omega) (by omega) (by omega) (by omega) (by omega) (by omega)]; exact hC.2.2.2.2.1 r hr, fun r hr => ?_⟩ ?_
  · by_cases c : q = t
    · subst c
      have es : ts N' q = l := by
        have h1 : ts N' q = ns (bq_r (fun _ => 0) (gn g 1) l) 16 := ns_congr 16 (fun j hj => by
          by_cases z : j = gn g 1
          · subst z; rw [bq_r_self]; exact cq
          · rw [bq_r_ne z, e _ (by omega) (by omega) (by omega) (by omega) (by omega) (by omega) (by omega) (by omega)]; exact hzt j hj)
        have h2 := ns_upd (F := fun _ => 0) (c := gn g 1) (v := l) 16
        rw [if_pos hc, if_pos hc] at h2
        have h3 : ns (fun _ => 0) 16 = 0 := rfl
        rw [h1]; omega
      unfold GT
      rw [es, cp, e (10 + 19 * q) (by omega) (by omega) (by omega) (by omega) (by omega) (by omega) (by omega) (by omega), e (12 + 19 * q) (by omega) (by omega) (by omega) (by omega) (by omega) (by omega) (by omega) (by omega)]
      exact ⟨t1, t2, by omega, t4, hl, fun _ => by omega, fun _ => rfl⟩
    · exact (hC.2.1 q hq).e (fun k _ _ => e k (by omega) (by omega) (by omega) (by omega) (by omega) (by omega) (by omega) (by omega))
  · by_cases c : b = gn g 1
    · subst c
      have hbs := bs_upd (N := gn g) (N' := N') (b := gn g 1) (v := l) ht (fun q hq c => e _ (by omega) (by omega) (by omega) (by omega) (by omega) (by omega) (by omega) (by omega)) cq
      have := hz t ht
      unfold GB
      rw [cs, cl, e (126 + 5 * gn g 1) (by omega) (by omega) (by omega) (by omega) (by omega) (by omega) (by omega) (by omega), e (127 + 5 * gn g 1) (by omega) (by omega) (by omega) (by omega) (by omega) (by omega) (by omega) (by omega), c1]
      exact ⟨hs, by omega, by omega, fun z => by omega⟩
    · obtain ⟨b1, b2, b3, b4⟩ := hC.2.2.1 b hb
      have es : bs N' b = bs (gn g) b := ns_congr 6 (fun q hq => e _ (by omega) (by omega) (by omega) (by omega) (by omega) (by omega) (by omega) (by omega))
      unfold GB
      rw [es, c1, e (124 + 5 * b) (by omega) (by omega) (by omega) (by omega) (by omega) (by omega) (by omega) (by omega), e (125 + 5 * b) (by omega) (by omega) (by omega) (by omega) (by omega) (by omega) (by omega) (by omega), e (126 + 5 * b) (by omega) (by omega) (by omega) (by omega) (by omega) (by omega) (by omega) (by omega), e (127 + 5 * b) (by omega) (by omega) (by omega) (by omega) (by omega) (by omega) (by omega) (by omega)]
      exact ⟨b1, b2, b3, fun z => b4 (by omega)⟩
  · rw [e _ (by omega) (by omega) (by omega) (by omega) (by omega) (by omega) (by omega) (by omega), c5]
    have := hC.2.2.2.2.2 r hr
    omega
  · rw [x_brew_hi ht hc (Or.inl rfl)]; exact h6
/-! the plan, in numbers -/
/-- the rank of an order: the day on which it is due, then the more litres; then its number -/
def kk (g : BqG) (o : Nat) : Nat := gn g (204 + 9 * o) * 10001 + (10000 - gn g (205 + 9 * o))
def key (g : BqG) (o : Nat) : Nat := kk g o * 16 + o
def ahd (g : BqG) (a b : Nat) : Prop := g (204 + 9 * a) < g (204 + 9 * b) ∨ (g (204 + 9 * a) = g (204 + 9 * b) ∧ ¬ g (205 + 9 * a) ≤ g (205 + 9 * b))
theorem ahd_kk {g : BqG} {en a b : Nat} (hG : GI g en) (ha : a < 10) (hb : b < 10) : ahd g a b ↔ kk g a < kk g b := by
  obtain ⟨a1, -, -, -, a5, -⟩ := hG.o ha
  obtain ⟨b1, -, -, -, b5, -⟩ := hG.o hb
  unfold ahd kk
  rw [hG.n (k := 204 + 9 * a) (by omega) (by omega), hG.n (k := 204 + 9 * b) (by omega) (by omega), hG.n (k := 205 + 9 * a) (by omega) (by omega), hG.n (k := 205 + 9 * b) (by omega) (by omega), nI_ltI (by omega) (by omega), nI_eq (by omega) (by omega), nI_leI (by omega) (by omega)]
  generalize gn g (204 + 9 * a) = x at *
  generalize gn g (204 + 9 * b) = y at *
  generalize gn g (205 + 9 * a) = u at *
  generalize gn g (205 + 9 * b) = v at *
  constructor
  · rintro (h | ⟨h1, h2⟩) <;> omega
  · intro h
    rcases Nat.lt_trichotomy x y with c | c | c
    · exact Or.inl c
    · exact Or.inr ⟨c, by omega⟩
    · omega
/-- where an order comes into a queue of n, from behind -/
def qpl (K : Nat → Nat) (Q : Nat → Nat) (i : Nat) : Nat → Nat
  | 0 => 0
  | n + 1 => if K i < K (Q n) then qpl K Q i n else n + 1
theorem qpl_le (K Q : Nat → Nat) (i : Nat) : ∀ n, qpl K Q i n ≤ n
  | 0 => Nat.le_refl _
  | n + 1 => by
    have := qpl_le K Q i n
    unfold qpl
    split <;> omega
theorem qpl_gt (K Q : Nat → Nat) (i : Nat) : ∀ n j, qpl K Q i n ≤ j → j < n → K i < K (Q j)
  | 0, j, _, h => by omega
  | n + 1, j, h1, h2 => by
    unfold qpl at h1
    by_cases c : K i < K (Q n)
    · rw [if_pos c] at h1
      by_cases e : j = n
      · subst e; exact c
      · exact qpl_gt K Q i n j h1 (by omega)
    · rw [if_neg c] at h1; omega
theorem qpl_ge (K Q : Nat → Nat) (i : Nat) : ∀ n, 0 < qpl K Q i n → ¬ K i < K (Q (qpl K Q i n - 1))
  | 0, h => by simp [qpl] at h
  | n + 1, h => by
    unfold qpl at h ⊢
    by_cases c : K i < K (Q n)
    · rw [if_pos c] at h ⊢; exact qpl_ge K Q i n h
    · rw [if_neg c]; exact c
def qin (Q : Nat → Nat) (p i : Nat) : Nat → Nat := fun j => if j < p then Q j else if j = p then i else Q (j - 1)
/-- the queue after the first i orders, and how long it is -/
def qq (K : Nat → Nat) (op : Nat → Bool) : Nat → (Nat → Nat) × Nat
  | 0 => ((fun _ => 0), 0)
  | i + 1 => if op i = true then (qin (qq K op i).1 (qpl K (qq K op i).1 i (qq K op i).2) i, (qq K op i).2 + 1) else qq K op i
/-- a queue: in rank, each open order once -/
def Qok (K : Nat → Nat) (op : Nat → Bool) (c : Nat) (Q : Nat → Nat) (n : Nat) : Prop :=
  (∀ a b, a < b → b < n → K (Q a) < K (Q b) ∨ (K (Q a) = K (Q b) ∧ Q a < Q b)) ∧ (∀ j, j < n → Q j < c ∧ op (Q j) = true) ∧ (∀ o, o < c → op o = true → ∃ j, j < n ∧ Q j = o) ∧ n ≤ c
theorem qq_ok (K : Nat → Nat) (op : Nat → Bool) : ∀ c, Qok K op c (qq K op c).1 (qq K op c).2
  | 0 => ⟨fun a b _ h => absurd h (Nat.not_lt_zero _), fun j h => absurd h (Nat.not_lt_zero _), fun o h => absurd h (Nat.not_lt_zero _), Nat.le_refl _⟩
  | i + 1 => by
    obtain ⟨h1, h2, h3, h4⟩ := qq_ok K op i
    unfold qq
    by_cases ho : op i = true
    · rw [if_pos ho]
      generalize (qq K op i).1 = Q at *
      generalize (qq K op i).2 = n at *
      show Qok K op (i + 1) (qin Q (qpl K Q i n) i) (n + 1)
      have p1 := qpl_le K Q i n
      have p2 := qpl_gt K Q i n
      have p3 := qpl_ge K Q i n
      generalize qpl K Q i n = p at *
      have lo : ∀ a, a < p → K (Q a) < K i ∨ (K (Q a) = K i ∧ Q a < i) := fun a ha => by
        have g3 := p3 (by omega)
        have hq := (h2 a (by omega)).1
        by_cases e : a = p - 1
        · subst e
          rcases Nat.lt_or_ge (K (Q (p - 1))) (K i) with z | z
          · exact Or.inl z
          · exact Or.inr ⟨by omega, hq⟩
        · have := h1 a (p - 1) (by omega) (by omega)
          rcases Nat.lt_or_ge (K (Q a)) (K i) with z | z
          · exact Or.inl z
          · exact Or.inr ⟨by omega, hq⟩
      have vlt : ∀ j, j < p → qin Q p i j = Q j := fun j hj => if_pos hj
      have veq : qin Q p i p = i := by unfold qin; rw [if_neg (by omega), if_pos rfl]
      have vgt : ∀ j, p < j → qin Q p i j = Q (j - 1) := fun j hj => by unfold qin; rw [if_neg (by omega), if_neg (by omega)]
      refine ⟨fun a b hab hb => ?_, fun j hj => ?_, fun o ho' hop => ?_, by omega⟩
      · rcases Nat.lt_trichotomy b p with c | c | c
        · rw [vlt a (by omega), vlt b c]; exact h1 a b hab (by omega)
        · rw [c, veq, vlt a (by omega)]; exact lo a (by omega)
        · rw [vgt b c]
          have hb1 := p2 (b - 1) (by omega) (by omega)
          rcases Nat.lt_trichotomy a p with d | d | d
          · rw [vlt a d]
            have := lo a d
            omega
          · rw [d, veq]; exact Or.inl hb1
          · rw [vgt a d]; exact h1 (a - 1) (b - 1) (by omega) (by omega)
      · rcases Nat.lt_trichotomy j p with c | c | c
        · rw [vlt j c]; have := h2 j (by omega); exact ⟨by omega, this.2⟩
        · rw [c, veq]; exact ⟨by omega, ho⟩
        · rw [vgt j c]; have := h2 (j - 1) (by omega); exact ⟨by omega, this.2⟩
      · by_cases e : o = i
        · exact ⟨p, by omega, by rw [veq, e]⟩
        · obtain ⟨j, hj, hq⟩ := h3 o (by omega) hop
          by_cases d : j < p
          · exact ⟨j, by omega, by rw [vlt j d]; exact hq⟩
          · exact ⟨j + 1, by omega, by rw [vgt (j + 1) (by omega), Nat.add_sub_cancel]; exact hq⟩
    · rw [if_neg ho]
      refine ⟨h1, fun j hj => ⟨by have := (h2 j hj).1; omega, (h2 j hj).2⟩, fun o ho' hop => ?_, by omega⟩
      by_cases e : o = i
      · subst e; exact absurd hop ho
      · exact h3 o (by omega) hop
/-- the first of the least among the orders that f lets in -/
def nxt (K : Nat → Nat) (f : Nat → Bool) : Nat → Option Nat
  | 0 => none
  | i + 1 => match nxt K f i with
    | none => if f i = true then some i else none
    | some q => if f i = true ∧ K i < K q then some i else some q
theorem nxt_ok (K : Nat → Nat) (f : Nat → Bool) : ∀ c, (nxt K f c = none → ∀ o, o < c → ¬ f o = true) ∧ ∀ q, nxt K f c = some q → q < c ∧ f q = true ∧ ∀ o, o < c → f o = true → K q < K o ∨ (K q = K o ∧ q ≤ o)
  | 0 => ⟨fun _ o h => absurd h (Nat.not_lt_zero _), fun q h => by simp [nxt] at h⟩
  | i + 1 => by
    obtain ⟨h1, h2⟩ := nxt_ok K f i
    unfold nxt
    cases hq : nxt K f i with
    | none =>
      have h1 := h1 hq
      by_cases c : f i = true
      · refine ⟨fun z => ?_, fun q z => ?_⟩
        · simp [c] at z
        · have : q = i := by simpa [c] using z.symm
          subst this
          refine ⟨by omega, c, fun o ho hf => ?_⟩
          by_cases e : o = q
          · subst e; exact Or.inr ⟨rfl, Nat.le_refl _⟩
          · exact absurd hf (h1 o (by omega))
      · refine ⟨fun _ o ho => ?_, fun q z => ?_⟩
        · by_cases e : o = i
          · subst e; exact c
          · exact h1 o (by omega)
        · simp [c] at z
    | some r =>
      obtain ⟨r1, r2, r3⟩ := h2 r hq
      by_cases c : f i = true ∧ K i < K r
      · refine ⟨fun z => ?_, fun q z => ?_⟩
        · simp [c] at z
        · have : q = i := by simpa [c] using z.symm
          subst this
          refine ⟨by omega, c.1, fun o ho hf => ?_⟩
          by_cases e : o = q
          · subst e; exact Or.inr ⟨rfl, Nat.le_refl _⟩
          · have := r3 o (by omega) hf; omega
      · refine ⟨fun z => ?_, fun q z => ?_⟩
        · simp [c] at z
        · have : q = r := by
            rw [show (match some r with | none => if f i = true then some i else none | some q => if f i = true ∧ K i < K q then some i else some q) = some r from if_neg c] at z
            exact (Option.some.inj z).symm
          subst this
          refine ⟨by omega, r2, fun o ho hf => ?_⟩
          by_cases e : o = i
          · subst e
            have : ¬ K o < K q := fun z => c ⟨hf, z⟩
            omega
          · exact r3 o (by omega) hf
/-- the next in rank is the next in the queue -/
theorem nxt_q {K : Nat → Nat} {op : Nat → Bool} {c n k : Nat} {Q : Nat → Nat} {f : Nat → Bool} (hQ : Qok K op c Q n) (hk : k ≤ n) (hf : ∀ o, o < c → (f o = true ↔ op o = true ∧ ∀ j, j < k → Q j ≠ o)) : nxt K f c = if k < n then some (Q k) else none := by
  obtain ⟨h1, h2, h3, h4⟩ := hQ
  obtain ⟨n1, n2⟩ := nxt_ok K f c
  by_cases ck : k < n
  · rw [if_pos ck]
    have hQk := h2 k ck
    have hfk : f (Q k) = true := (hf _ hQk.1).mpr ⟨hQk.2, fun j hj e => by have := h1 j k hj ck; rw [e] at this; omega⟩
    cases hq : nxt K f c with
    | none => exact absurd hfk (n1 hq _ hQk.1)
    | some q =>
      obtain ⟨q1, q2, q3⟩ := n2 q hq
      obtain ⟨o1, o2⟩ := (hf q q1).mp q2
      obtain ⟨j, hj, rfl⟩ := h3 q q1 o1
      have hjk : ¬ j < k := fun z => o2 j z rfl
      have := q3 (Q k) hQk.1 hfk
      by_cases e : j = k
      · rw [e]
      · have := h1 k j (by omega) hj
        omega
  · rw [if_neg ck]
    cases hq : nxt K f c with
    | none => rfl
    | some q =>
      obtain ⟨q1, q2, q3⟩ := n2 q hq
      obtain ⟨o1, o2⟩ := (hf q q1).mp q2
      obtain ⟨j, hj, rfl⟩ := h3 q q1 o1
      exact absurd rfl (o2 j (by omega))
/-- may a tank that holds F fill order o? -/
def fit (g : BqG) (o : Nat) (F : Nat → Nat) : Bool := decide (gn g (205 + 9 * o) ≤ ns F 16) && decide (¬ bq_str (fun j => nI (F j)) (fun b => g (124 + 5 * b)) < g (206 + 9 * o)) && decide (¬ g (207 + 9 * o) < bq_str (fun j => nI (F j)) (fun b => g (124 + 5 * b)))
/-- the tank with the fewest litres that fits, the first of several -/
def bt (g : BqG) (o : Nat) (F : Nat → Nat → Nat) : Nat → Option Nat
  | 0 => none
  | t + 1 => if fit g o (F t) = true then (match bt g o F t with
    | none => some t
    | some q => if ns (F t) 16 < ns (F q) 16 then some t else some q) else bt g o F t
theorem bt_ok {g : BqG} {o : Nat} {F : Nat → Nat → Nat} : ∀ {k t : Nat}, bt g o F k = some t → t < k ∧ fit g o (F t) = true
  | 0, t, h => by simp [bt] at h
  | k + 1, t, h => by
    unfold bt at h
    by_cases c : fit g o (F k) = true
    · rw [if_pos c] at h
      cases hq : bt g o F k with
      | none =>
        rw [hq] at h
        have : t = k := (Option.some.inj h).symm
        subst this; exact ⟨by omega, c⟩
      | some q =>
        rw [hq] at h
        have h : (if ns (F k) 16 < ns (F q) 16 then some k else some q) = some t := h
        by_cases d : ns (F k) 16 < ns (F q) 16
        · rw [if_pos d] at h
          have : t = k := (Option.some.inj h).symm
          subst this; exact ⟨by omega, c⟩
        · rw [if_neg d] at h
          have : t = q := (Option.some.inj h).symm
          subst this
          have := bt_ok hq
          exact ⟨by omega, this.2⟩
    · rw [if_neg c] at h
      have := bt_ok h
      exact ⟨by omega, this.2⟩
/-- the plan after k orders of the queue: what is left, how many fillings, their orders and their tanks -/
abbrev BqPl : Type := (Nat → Nat → Nat) × Nat × (Nat → Nat) × (Nat → Nat)
def pst (g : BqG) (p : BqPl) (o : Nat) : BqPl := match bt g o p.1 6 with
  | none => p
  | some t => (bq_r p.1 t (fun b => p.1 t b - npt (p.1 t) (gn g (205 + 9 * o)) b), p.2.1 + 1, bq_r p.2.2.1 p.2.1 o, bq_r p.2.2.2 p.2.1 t)
def pln (g : BqG) (Q : Nat → Nat) : Nat → BqPl
  | 0 => (gp g, 0, (fun _ => 0), (fun _ => 0))
  | k + 1 => pst g (pln g Q k) (Q k)
def qg (g : BqG) : (Nat → Nat) × Nat := qq (kk g) (fun o => decide (g (208 + 9 * o) = 0)) (gn g 2)
def plan (g : BqG) : BqPl := pln g (qg g).1 (qg g).2
/-- what is left is at most what was there, and the fillings are counted -/
theorem pln_ok {g : BqG} {en : Nat} (hG : GI g en) (Q : Nat → Nat) (n c : Nat) (hQ : ∀ j, j < n → Q j < c) (hc : c ≤ 10) (h1 : ∀ j, j < n → 1 ≤ gn g (205 + 9 * Q j)) : ∀ k, k ≤ n → (∀ t, t < 6 → ns ((pln g Q k).1 t) 16 ≤ 9999) ∧ (pln g Q k).2.1 ≤ k ∧ ∀ j, j < (pln g Q k).2.1 → (∃ i, i < k ∧ (pln g Q k).2.2.1 j = Q i) ∧ (pln g Q k).2.2.2 j < 6
  | 0, _ => ⟨fun t ht => by
      have h1 := (hG.t ht).2.2.2.2.1
      have h2 := (hG.t ht).2.1
      have : gt g t ≤ 9999 := by omega
      exact this, Nat.le_refl _, fun j hj => absurd hj (Nat.not_lt_zero _)⟩
  | k + 1, hk => by
    obtain ⟨p1, p2, p3⟩ := pln_ok hG Q n c hQ hc h1 k (by omega)
    show (∀ t, t < 6 → ns ((pst g (pln g Q k) (Q k)).1 t) 16 ≤ 9999) ∧ (pst g (pln g Q k) (Q k)).2.1 ≤ k + 1 ∧ _
    unfold pln pst
    cases hb : bt g (Q k) (pln g Q k).1 6 with
    | none => exact ⟨p1, Nat.le_succ_of_le p2, fun j hj => by obtain ⟨⟨i, hi, e⟩, h6⟩ := p3 j hj; exact ⟨⟨i, by omega, e⟩, h6⟩⟩
    | some t =>
      obtain ⟨t1, t2⟩ := bt_ok hb
      refine ⟨fun q hq => ?_, Nat.succ_le_succ p2, fun j hj => ?_⟩
      · show ns (bq_r (pln g Q k).1 t _ q) 16 ≤ 9999
        by_cases c : q = t
        · subst c
          rw [bq_r_self]
          exact Nat.le_trans (ns_le 16 (fun j _ => Nat.sub_le _ _)) (p1 q hq)
        · rw [bq_r_ne c]; exact p1 q hq
      · have hj : j < (pln g Q k).2.1 + 1 := hj
        show (∃ i, i < k + 1 ∧ bq_r (pln g Q k).2.2.1 _ (Q k) j = Q i) ∧ bq_r (pln g Q k).2.2.2 _ t j < 6
        by_cases c : j = (pln g Q k).2.1
        · subst c
          rw [bq_r_self, bq_r_self]
          exact ⟨⟨k, by omega, rfl⟩, t1⟩
        · rw [bq_r_ne c, bq_r_ne c]
          obtain ⟨⟨i, hi, e⟩, h6⟩ := p3 j (by omega)
          exact ⟨⟨i, by omega, e⟩, h6⟩
theorem i_vc : Claimed_1_1 ∧ Claimed_1_2 := sorry
