def bq_wk : List (Option Value) → List (Option Value) → Prop
  | [], _ => True
  | none :: a, _ :: b => bq_wk a b
  | some v :: a, w :: b => w = some v ∧ bq_wk a b
  | _ :: _, [] => False
theorem q_wk0 : ∀ (a b : List (Option Value)), bq_wk a b → ∀ (i : Nat) (v : Value), a[i]? = some (some v) → b[i]? = some (some v)
  | [], _, _, i, v, h => by simp at h
  | none :: a, [], h, _, _, _ => h.elim
  | some _ :: _, [], h, _, _, _ => h.elim
  | none :: a, _ :: b, h, 0, v, e => by simp at e
  | none :: a, _ :: b, h, i + 1, v, e => by
    have e' : a[i]? = some (some v) := by simpa using e
    simpa using q_wk0 a b h i v e'
  | some u :: a, w :: b, h, 0, v, e => by
    have e' : some u = some v := by simpa using e
    rw [← e', h.1]; rfl
  | some u :: a, w :: b, h, i + 1, v, e => by
    have e' : a[i]? = some (some v) := by simpa using e
    simpa using q_wk0 a b h.2 i v e'
theorem q_wk {M : BqM} {fr lo kc ks pc : Nat} {vs : List (Option Value)} {st : List Value} {S : BqH} {n : Nat} {I : BqI} {L : BqL} {P : BqP} {post : BqQ} {vs2 : List (Option Value)} (h : bq_wk vs2 vs) (k : bq_W M fr lo kc ks pc vs2 st S n I L P post) : bq_W M fr lo kc ks pc vs st S n I L P post := q_sub (q_wk0 vs2 vs h) k
def ps (g : BqG) : Nat → Nat × BqG
  | 0 => (0, g)
  | i + 1 => if gn g (11 + 19 * i) = 3 ∧ gn g (12 + 19 * i) ≤ gn g 0 then ((ps g i).1 + 1, bq_r (ps g i).2 (11 + 19 * i) (nI 0)) else ps g i
def x_day (g : BqG) (d : Nat) : BqG := bq_r g 0 (nI (gn g 0 + d))
def n_pass (g : BqG) (d : Nat) : Int32 × BqG := if 9999 < gn g 0 + d then ((-8), g) else (nI (ps (x_day g d) 6).1, (ps (x_day g d) 6).2)
def w_pass (g : BqG) (d : Int32) : Int32 × BqG := if d < nI 1 ∨ ¬ d ≤ nI 999 then ((-8), g) else n_pass g d.toNatClampNeg
theorem w_pass_n {g : BqG} {d : Nat} (h1 : 1 ≤ d) (h2 : d ≤ 999) : w_pass g (nI d) = n_pass g d := by
  unfold w_pass
  rw [if_neg (bq_nin h1 h2 (by decide)), nI_clamp (by omega)]
theorem ps_ne {g : BqG} {k : Nat} : ∀ i, k < 11 ∨ (∀ j, j < i → k ≠ 11 + 19 * j) → (ps g i).2 k = g k
  | 0, _ => rfl
  | i + 1, h => by
    have ih := ps_ne (g := g) (k := k) i (h.imp id (fun q j hj => q j (by omega)))
    have hk : k ≠ 11 + 19 * i := by rcases h with h | h; omega; exact h i (by omega)
    unfold ps
    split
    · show bq_r _ _ _ k = _
      rw [bq_r_ne hk, ih]
    · exact ih
theorem ps_at {g : BqG} {en d i : Nat} (hG : GI g en) (hd : gn g 0 + d < 2 ^ 31) (hi : i < 6) : (ps (x_day g d) i).2 (11 + 19 * i) = nI (gn g (11 + 19 * i)) ∧ (ps (x_day g d) i).2 (12 + 19 * i) = nI (gn g (12 + 19 * i)) ∧ (ps (x_day g d) i).2 0 = nI (gn g 0 + d) := by
  refine ⟨?_, ?_, ?_⟩
  · rw [ps_ne i (Or.inr (by omega)), x_day, bq_r_ne (by omega)]; exact hG.n (by omega) (by omega)
  · rw [ps_ne i (Or.inr (by omega)), x_day, bq_r_ne (by omega)]; exact hG.n (by omega) (by omega)
  · rw [ps_ne i (Or.inl (by omega)), x_day, bq_r_self]
theorem x_day_n {g : BqG} {d k : Nat} (hk : k ≠ 0) : gn (x_day g d) k = gn g k := by unfold gn x_day; rw [bq_r_ne hk]
theorem x_day_0 {g : BqG} {d : Nat} (hd : gn g 0 + d < 2 ^ 31) : gn (x_day g d) 0 = gn g 0 + d := by
  show (bq_r g 0 _ 0).toNatClampNeg = _
  rw [bq_r_self, nI_clamp hd]
theorem ps_no {g : BqG} {en d i : Nat} (hG : GI g en) (hd : gn g 0 + d < 2 ^ 31) (hi : i < 6) (h : ¬ (gn g (11 + 19 * i) = 3 ∧ gn g (12 + 19 * i) ≤ gn g 0 + d)) : ps (x_day g d) (i + 1) = ps (x_day g d) i := by
  rw [ps, x_day_n (by omega), x_day_n (by omega), x_day_0 hd, if_neg h]
theorem ps_yes {g : BqG} {en d i : Nat} (hG : GI g en) (hd : gn g 0 + d < 2 ^ 31) (hi : i < 6) (h : gn g (11 + 19 * i) = 3) (h' : gn g (12 + 19 * i) ≤ gn g 0 + d) : ps (x_day g d) (i + 1) = ((ps (x_day g d) i).1 + 1, bq_r (ps (x_day g d) i).2 (11 + 19 * i) (nI 0)) := by
  rw [ps, x_day_n (by omega), x_day_n (by omega), x_day_0 hd, if_pos ⟨h, h'⟩]
set_option maxHeartbeats 400000 in
set_option maxRecDepth 20000 in
theorem c_pass_a {S : BqH} {n : Nat} {I : BqI} {L : BqL} {P : BqP} {x : Nat} {g : BqG} {en : Nat} (hx : oX S n P x) (hC : CS I L (x + 1) g) (hG : GI g en) (hen : en < 2 ^ 29) {d : Int32} (hd : d < nI 1 ∨ ¬ d ≤ nI 999) : bq_Sp mX11_letPass 2 34 0 0 [.ref x, .int d] S n I L P (qCore x I L S n P (w_pass g d)) := by
  refine q_entry (vs := [some (.ref x), some (.int d), none, none, none]) (by decide +kernel) (by simp) (Nat.le_of_ble_eq_true rfl) rfl ?_
  refine q_iload_n (pc := 0) dX11_letPass_0 rfl rfl ?_
  refine q_iconst (pc := 1) (v := nI 1) dX11_letPass_1 (by decide) ?_
  refine q_sipush (pc := 2) (v := nI 999) dX11_letPass_2 (by decide) ?_
  refine q_callSF (pc := 5) dX11_letPass_5 kX11_69 c_X11_outside ⟨Nat.le_of_ble_eq_true rfl, Nat.le_of_ble_eq_true rfl⟩ rfl rfl (Nat.le_of_ble_eq_true rfl) ?_
  show bq_W _ _ _ _ _ 8 _ [_] _ _ _ _ _ _
  refine q_if_ne (pc := 8) 26 dX11_letPass_8 (by decide) (fun c_8 => ?_) (fun c_8 => (bq_b0.mp c_8 hd).elim)
  refine q_bipush (pc := 26) (v := (-8)) dX11_letPass_26 (by decide) ?_
  exact q_iret (st := []) (pc := 28) dX11_letPass_28 rfl (qCore.same hC (by unfold w_pass; rw [if_pos hd]))
set_option maxHeartbeats 800000 in
set_option maxRecDepth 20000 in
theorem c_pass_n {S : BqH} {n : Nat} {I : BqI} {L : BqL} {P : BqP} {x : Nat} {g : BqG} {en : Nat} (hx : oX S n P x) (hC : CS I L (x + 1) g) (hG : GI g en) (hen : en < 2 ^ 29) {d : Nat} (h1 : 1 ≤ d) (h2 : d ≤ 999) : bq_Sp mX11_letPass 2 34 0 0 [.ref x, .int (nI d)] S n I L P (qCore x I L S n P (n_pass g d)) := by
  refine q_entry (vs := [some (.ref x), some (.int (nI d)), none, none, none]) (by decide +kernel) (by simp) (Nat.le_of_ble_eq_true rfl) rfl ?_
  have hday : I (x + 1) 0 = nI (gn g 0) := (hC.1.at (k := 0) rfl).trans (hG.n (by decide) (by decide))
  have hd0 : gn g 0 ≤ 9999 := hG.2.1
  refine q_iload_n (pc := 0) dX11_letPass_0 rfl rfl ?_
  refine q_iconst (pc := 1) (v := nI 1) dX11_letPass_1 (by decide) ?_
  refine q_sipush (pc := 2) (v := nI 999) dX11_letPass_2 (by decide) ?_
  refine q_callSF (pc := 5) dX11_letPass_5 kX11_69 c_X11_outside ⟨Nat.le_of_ble_eq_true rfl, Nat.le_of_ble_eq_true rfl⟩ rfl rfl (Nat.le_of_ble_eq_true rfl) ?_
  show bq_W _ _ _ _ _ 8 _ [_] _ _ _ _ _ _
  refine q_if_ne (pc := 8) 26 dX11_letPass_8 (by decide) (fun c_8 => (bq_nin h1 h2 (by decide) (bq_bn.mp c_8)).elim) (fun c_8 => ?_)
  refine q_aload_n (pc := 11) dX11_letPass_11 rfl rfl ?_
  refine q_getP (pc := 12) dX11_letPass_12 fX11_10 (Cellar_sh hx) ⟨by decide, rfl⟩ (Cellar_lt hx) (Cellar_p_state hx) ?_
  refine q_getI (pc := 15) dX11_letPass_15 fX11_157 (State_sh (Cellar_s_state hx)) ⟨by decide, rfl⟩ (State_lt (Cellar_s_state hx)) ?_
  rw [hday]
  refine q_iload_n (pc := 18) dX11_letPass_18 rfl rfl ?_
  refine q_iaddN (pc := 19) dX11_letPass_19 ?_
  refine q_sipush (pc := 20) (v := nI 9999) dX11_letPass_20 (by decide) ?_
  refine q_icmp_le (pc := 23) 29 dX11_letPass_23 (by decide) (fun c_23 => ?_) (fun c_23 => ?_)
  · rw [show n_pass g d = (nI (ps (x_day g d) 6).1, (ps (x_day g d) 6).2) from by unfold n_pass; rw [if_neg (by have := (nI_leI (by omega) (by omega)).mp c_23; omega)]]
    have lp : ∀ i, i ≤ 6 → ∀ J : BqI, CSI J (x + 1) (ps (x_day g d) i).2 → Frm x I J → bq_W mX11_letPass 2 34 0 0 46 [some (.ref x), some (.int (nI d)), some (.int (nI (ps (x_day g d) i).1)), some (.int (nI i)), none] [] S n J L P (qCore x I L S n P (nI (ps (x_day g d) 6).1, (ps (x_day g d) 6).2)) := by
      refine bq_down (A := fun i => ∀ J : BqI, CSI J (x + 1) (ps (x_day g d) i).2 → Frm x I J → bq_W mX11_letPass 2 34 0 0 46 [some (.ref x), some (.int (nI d)), some (.int (nI (ps (x_day g d) i).1)), some (.int (nI i)), none] [] S n J L P (qCore x I L S n P (nI (ps (x_day g d) 6).1, (ps (x_day g d) 6).2))) 6 ?_ ?_
      · intro J hJ hF
        refine q_iload_n (pc := 46) dX11_letPass_46 rfl rfl ?_
        refine q_bipush (pc := 47) (v := nI 6) dX11_letPass_47 (by decide) ?_
        refine q_icmp_ge (pc := 49) 102 dX11_letPass_49 (by decide) (fun c_49 => ?_) (fun c_49 => absurd (by decide) c_49)
        refine q_iload_n (pc := 102) dX11_letPass_102 rfl rfl ?_
        exact q_iret (st := []) (pc := 103) dX11_letPass_103 rfl ⟨rfl, rfl, rfl, rfl, ⟨hJ, hC.2.congr (by rw [ps_ne 6 (by omega)]; exact bq_r_ne (by decide)) (fun k k1 k2 => by rw [ps_ne 6 (Or.inr (by omega))]; exact bq_r_ne (by omega))⟩, hF, FrmL.rf⟩
      · intro i hi ih J hJ hF
        obtain ⟨ep, ec, ed⟩ := ps_at (g := g) (d := d) hG (by omega) hi
        have f1 : J (x + 1 + 15 + 3 * i) 1 = nI (gn g (11 + 19 * i)) := by rw [show x + 1 + 15 + 3 * i = x + 1 + (15 + 3 * i) by omega, hJ.at (k := 11 + 19 * i) (by rw [show 11 + 19 * i = 10 + 19 * i + 1 by omega]; exact lc_T hi (by decide))]; exact ep
        have f2 : J (x + 1 + 15 + 3 * i) 2 = nI (gn g (12 + 19 * i)) := by rw [show x + 1 + 15 + 3 * i = x + 1 + (15 + 3 * i) by omega, hJ.at (k := 12 + 19 * i) (by rw [show 12 + 19 * i = 10 + 19 * i + 2 by omega]; exact lc_T hi (by decide))]; exact ec
        have f3 : J (x + 1) 0 = nI (gn g 0 + d) := by rw [hJ.at (k := 0) rfl]; exact ed
        obtain ⟨qt1, qt2, qt3, qt4, qt5, qt6⟩ := hG.t hi
        refine q_iload_n (pc := 46) dX11_letPass_46 rfl rfl ?_
        refine q_bipush (pc := 47) (v := nI 6) dX11_letPass_47 (by decide) ?_
        refine q_icmp_ge (pc := 49) 102 dX11_letPass_49 (by decide) (fun c_49 => absurd c_49 (nI_ge hi (by decide))) (fun c_49 => ?_)
        refine q_aload_n (pc := 52) dX11_letPass_52 rfl rfl ?_
        refine q_getP (pc := 53) dX11_letPass_53 fX11_10 (Cellar_sh hx) ⟨by decide, rfl⟩ (Cellar_lt hx) (Cellar_p_state hx) ?_
        refine q_getP (pc := 56) dX11_letPass_56 fX11_379 (State_sh (Cellar_s_state hx)) ⟨by decide, rfl⟩ (State_lt (Cellar_s_state hx)) (State_p_tanks (Cellar_s_state hx)) ?_
        refine q_iload_n (pc := 59) dX11_letPass_59 rfl rfl ?_
        refine q_aald (pc := 60) dX11_letPass_60 (Statetanks_sh (Cellar_s_state hx)) (by decide) (Statetanks_lt (Cellar_s_state hx)) rfl hi (Statetanks_p_el (Cellar_s_state hx) hi) ?_
        refine q_astore (pc := 61) dX11_letPass_61 (Nat.le_of_ble_eq_true rfl) rfl ?_
        show bq_W _ _ _ _ _ 63 [_, _, _, _, _] _ _ _ _ _ _ _
        refine q_aload (pc := 63) dX11_letPass_63 rfl ?_
        refine q_getI (pc := 65) dX11_letPass_65 fX11_101 (Tank_sh (Statetanks_s_el (Cellar_s_state hx) hi)) ⟨by decide, rfl⟩ (Tank_lt (Statetanks_s_el (Cellar_s_state hx) hi)) ?_
        rw [f1]
        refine q_iconst (pc := 68) (v := nI 3) dX11_letPass_68 (by decide) ?_
        refine q_icmp_ne (pc := 69) 96 dX11_letPass_69 (by decide) (fun c_69 => ?_) (fun c_69 => ?_)
        · refine q_iinc (pc := 96) (v := nI (i + 1)) dX11_letPass_96 rfl (bq_inc _) (Nat.le_of_ble_eq_true rfl) rfl ?_
          show bq_W _ _ _ _ _ 99 [_, _, _, _, _] _ _ _ _ _ _ _
          refine q_goto (pc := 99) 46 dX11_letPass_99 (by decide) ?_
          refine q_wk (vs2 := [some (.ref x), some (.int (nI d)), some (.int (nI (ps (x_day g d) i).1)), some (.int (nI (i + 1))), none]) ⟨rfl, rfl, rfl, rfl, trivial⟩ ?_
          rw [ps_no (g := g) (d := d) hG (by omega) hi (fun q => c_69 (by rw [q.1]))] at ih
          exact ih J hJ hF
        · refine q_aload (pc := 72) dX11_letPass_72 rfl ?_
          refine q_getI (pc := 74) dX11_letPass_74 fX11_239 (Tank_sh (Statetanks_s_el (Cellar_s_state hx) hi)) ⟨by decide, rfl⟩ (Tank_lt (Statetanks_s_el (Cellar_s_state hx) hi)) ?_
          rw [f2]
          refine q_aload_n (pc := 77) dX11_letPass_77 rfl rfl ?_
          refine q_getP (pc := 78) dX11_letPass_78 fX11_10 (Cellar_sh hx) ⟨by decide, rfl⟩ (Cellar_lt hx) (Cellar_p_state hx) ?_
          refine q_getI (pc := 81) dX11_letPass_81 fX11_157 (State_sh (Cellar_s_state hx)) ⟨by decide, rfl⟩ (State_lt (Cellar_s_state hx)) ?_
          rw [f3]
          refine q_icmp_gt (pc := 84) 96 dX11_letPass_84 (by decide) (fun c_84 => ?_) (fun c_84 => ?_)
          · refine q_iinc (pc := 96) (v := nI (i + 1)) dX11_letPass_96 rfl (bq_inc _) (Nat.le_of_ble_eq_true rfl) rfl ?_
            show bq_W _ _ _ _ _ 99 [_, _, _, _, _] _ _ _ _ _ _ _
            refine q_goto (pc := 99) 46 dX11_letPass_99 (by decide) ?_
            refine q_wk (vs2 := [some (.ref x), some (.int (nI d)), some (.int (nI (ps (x_day g d) i).1)), some (.int (nI (i + 1))), none]) ⟨rfl, rfl, rfl, rfl, trivial⟩ ?_
            rw [ps_no (g := g) (d := d) hG (by omega) hi (fun q => nI_nlt q.2 (by omega) c_84)] at ih
            exact ih J hJ hF
          · refine q_aload (pc := 87) dX11_letPass_87 rfl ?_
            refine q_iconst (pc := 89) (v := nI 0) dX11_letPass_89 (by decide) ?_
            refine q_putI (pc := 90) dX11_letPass_90 (pX11_101 _) (Tank_sh (Statetanks_s_el (Cellar_s_state hx) hi)) ⟨by decide, rfl⟩ (Tank_lt (Statetanks_s_el (Cellar_s_state hx) hi)) ?_
            refine q_iinc (pc := 93) (v := nI ((ps (x_day g d) i).1 + 1)) dX11_letPass_93 rfl (bq_inc _) (Nat.le_of_ble_eq_true rfl) rfl ?_
            show bq_W _ _ _ _ _ 96 [_, _, _, _, _] _ _ _ _ _ _ _
            refine q_iinc (pc := 96) (v := nI (i + 1)) dX11_letPass_96 rfl (bq_inc _) (Nat.le_of_ble_eq_true rfl) rfl ?_
            show bq_W _ _ _ _ _ 99 [_, _, _, _, _] _ _ _ _ _ _ _
            refine q_goto (pc := 99) 46 dX11_letPass_99 (by decide) ?_
            refine q_wk (vs2 := [some (.ref x), some (.int (nI d)), some (.int (nI ((ps (x_day g d) i).1 + 1))), some (.int (nI (i + 1))), none]) ⟨rfl, rfl, rfl, rfl, trivial⟩ ?_
            rw [ps_yes (g := g) (d := d) hG (by omega) hi ((nI_eq (by omega) (by decide)).mp c_69) ((nI_leI (by omega) (by omega)).mp (Int32.not_lt.mp c_84))] at ih
            refine ih _ ?_ (hF.u (Or.inl (by omega)))
            rw [show x + 1 + 15 + 3 * i = x + 1 + (15 + 3 * i) by omega]
            exact hJ.u (by rw [show 11 + 19 * i = 10 + 19 * i + 1 by omega]; exact lc_T hi (by decide)) _
    refine q_aload_n (pc := 29) dX11_letPass_29 rfl rfl ?_
    refine q_getP (pc := 30) dX11_letPass_30 fX11_10 (Cellar_sh hx) ⟨by decide, rfl⟩ (Cellar_lt hx) (Cellar_p_state hx) ?_
    refine q_dup (pc := 33) dX11_letPass_33 rfl ?_
    refine q_getI (pc := 34) dX11_letPass_34 fX11_157 (State_sh (Cellar_s_state hx)) ⟨by decide, rfl⟩ (State_lt (Cellar_s_state hx)) ?_
    rw [hday]
    refine q_iload_n (pc := 37) dX11_letPass_37 rfl rfl ?_
    refine q_iaddN (pc := 38) dX11_letPass_38 ?_
    refine q_putI (pc := 39) dX11_letPass_39 (pX11_157 _) (State_sh (Cellar_s_state hx)) ⟨by decide, rfl⟩ (State_lt (Cellar_s_state hx)) ?_
    refine q_nameI (fun I1 e1 => ?_)
    have hC1 : CSI I1 (x + 1) (x_day g d) := by rw [e1]; exact hC.1.u (k := 0) (a := 0) (j := 0) rfl _
    have hF1 : Frm x I I1 := by rw [e1]; exact Frm.rf.u (Or.inl (by omega))
    refine q_iconst (pc := 42) (v := nI 0) dX11_letPass_42 (by decide) ?_
    refine q_istore_n (pc := 43) dX11_letPass_43 rfl (Nat.le_of_ble_eq_true rfl) rfl ?_
    show bq_W _ _ _ _ _ 44 [_, _, _, _, _] _ _ _ _ _ _ _
    refine q_iconst (pc := 44) (v := nI 0) dX11_letPass_44 (by decide) ?_
    refine q_istore_n (pc := 45) dX11_letPass_45 rfl (Nat.le_of_ble_eq_true rfl) rfl ?_
    show bq_W _ _ _ _ _ 46 [_, _, _, _, _] _ _ _ _ _ _ _
    exact lp 0 (by decide) I1 hC1 hF1
  · refine q_bipush (pc := 26) (v := (-8)) dX11_letPass_26 (by decide) ?_
    exact q_iret (st := []) (pc := 28) dX11_letPass_28 rfl (qCore.same hC (by unfold n_pass; rw [if_pos (Nat.lt_of_not_le fun q => c_23 (nI_le q (by omega)))]))
theorem c_pass {S : BqH} {n : Nat} {I : BqI} {L : BqL} {P : BqP} {x : Nat} {g : BqG} {en : Nat} (hx : oX S n P x) (hC : CS I L (x + 1) g) (hG : GI g en) (hen : en < 2 ^ 29) {d : Int32} : bq_Sp mX11_letPass 2 34 0 0 [.ref x, .int d] S n I L P (qCore x I L S n P (w_pass g d)) := by
  rcases bq_in19 d 1 999 (by decide) (by decide) with hd | ⟨d, h1, h2, rfl⟩
  · exact c_pass_a hx hC hG hen hd
  · rw [w_pass_n h1 h2]; exact c_pass_n hx hC hG hen h1 h2
