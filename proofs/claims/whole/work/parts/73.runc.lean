/-! the class's feeding and running -/
def FS (t : Nat) (I0 I : BqI) (l : Nat) (F : Nat → Int32) : Prop := I t 0 = nI l ∧ (∀ j, j < 60 → I (t + 1) j = F j) ∧ ∀ a, a ≠ t → a ≠ t + 1 → I a = I0 a
theorem FS.ap {t l : Nat} {I0 I : BqI} {F : Nat → Int32} {v : Int32} (h : FS t I0 I l F) : FS t I0 (ap_I I t v l) (l + 1) (bq_r F l v) := by
  obtain ⟨h0, h1, h2⟩ := h
  unfold ap_I
  refine ⟨?_, fun j hj => ?_, fun a q1 q2 => ?_⟩
  · rw [bq_u_at, bq_u_ne (by omega), h0, nI_add]
  · rw [bq_u_ne (by omega)]
    by_cases e : j = l
    · rw [e, bq_u_at, bq_r_self]
    · rw [bq_u_no (fun z => e z.2), bq_r_ne e]; exact h1 j hj
  · rw [bq_u_ne q1, bq_u_ne q2]; exact h2 a q1 q2
def qFd (x : Nat) (I : BqI) (L : BqL) (S : BqH) (n : Nat) (P : BqP) (w : Int32 × Nat × (Nat → Int32)) : BqQ := fun r S' n' I' L' P' => r = some (.int w.1) ∧ S' = S ∧ n' = n ∧ L' = L ∧ P' = P ∧ FS (x + 108) I I' w.2.1 w.2.2
theorem fb_1 {l j : Nat} {B : Nat → Int32} {a b c d e : Int32} : bq_r B l a j = (if l ≤ j ∧ j < l + 1 then fb a b c d e (j - l) else B j) := by
  by_cases h : j = l
  · subst h
    rw [bq_r_self, if_pos (by omega), Nat.sub_self]; rfl
  · rw [bq_r_ne h, if_neg (by omega)]
theorem fb_s {l j k : Nat} {B F : Nat → Int32} {a b c d e : Int32} (h : F j = (if l ≤ j ∧ j < l + k then fb a b c d e (j - l) else B j)) : bq_r F (l + k) (fb a b c d e k) j = (if l ≤ j ∧ j < l + (k + 1) then fb a b c d e (j - l) else B j) := by
  by_cases q : j = l + k
  · subst q
    rw [bq_r_self, if_pos (by omega), Nat.add_sub_cancel_left]
  · rw [bq_r_ne q, h]
    by_cases q2 : l ≤ j ∧ j < l + k
    · rw [if_pos q2, if_pos (by omega)]
    · rw [if_neg q2, if_neg (by omega)]
theorem CXS.tp {x : Nat} {S : BqH} {n : Nat} {I I' : BqI} {L : BqL} {P : BqP} {g : BqG} {h : Nat → BqG} {ch : Nat} (hX : CXS x S n I L P g h ch) (f : ∀ a, a < x + 108 ∨ x + 131 ≤ a → I' a = I a) : CXS x S n I' L P g h ch := by
  obtain ⟨hx, hC, hc, hl, π, hP, hh⟩ := hX
  exact ⟨hx, hC.fr (fun a q1 q2 => f a (by omega)) (fun _ _ _ => rfl), by rw [f x (by omega)]; exact hc, hl, π, hP, fun i hi => (hh i hi).fr (fun a q1 q2 => f a (by omega)) (fun _ _ _ => rfl)⟩
theorem Mid.st {x : Nat} {S : BqH} {n : Nat} {I0 I I1 : BqI} {L0 L L1 : BqL} {P : BqP} {g g' g'' : BqG} {h : Nat → BqG} {ch : Nat} {π : Nat → Nat} {y : Int32} (hM : Mid x S n I0 I L0 L P g g' h ch π y) (C : CS I1 L1 (x + 1) g'') (F1 : Frm x I I1) (F2 : FrmL x L L1) : Mid x S n I0 I1 L0 L1 P g g'' h ch π y := by
  obtain ⟨hx, hP, hC, hc, hl, hh, hg, hy, hF, hFL⟩ := hM
  have fx := F1 x (by omega)
  exact ⟨hx, hP, C, by rw [fx]; exact hc, hl, fun i hi => (hh i hi).fr (fun a q1 q2 => F1 a (by omega)) (fun a q1 q2 => F2 a (by omega)), hg.fr (fun a q1 q2 => F1 a (by omega)) (fun a q1 q2 => F2 a (by omega)), by rw [fx]; exact hy, ⟨fun a ha => (F1 a (by omega)).trans (hF.1 a ha), by rw [fx]; exact hF.2⟩, fun a ha => (F2 a (by omega)).trans (hFL a ha)⟩
/-- the past row back into the state -/
theorem Mid.bk {x : Nat} {S : BqH} {n : Nat} {I0 I : BqI} {L0 L : BqL} {P : BqP} {g g' : BqG} {h : Nat → BqG} {ch : Nat} {π : Nat → Nat} {y v : Int32} (hM : Mid x S n I0 I L0 L P g g' h ch π y) : CXS x S n (bq_u (st_cpI I (x + 1) (x + 165 + 53 * π ch)) x 10 v) (st_cpL L (x + 1) (x + 165 + 53 * π ch)) P g h ch ∧ FrO x I0 (bq_u (st_cpI I (x + 1) (x + 165 + 53 * π ch)) x 10 v) ∧ FrOL x L0 (st_cpL L (x + 1) (x + 165 + 53 * π ch)) := by
  obtain ⟨hx, hP, hC, hc, hl, hh, hg, hy, hF, hFL⟩ := hM
  have e : ∀ a, a < x + 1 ∨ x + 54 ≤ a → a ≠ x → bq_u (st_cpI I (x + 1) (x + 165 + 53 * π ch)) x 10 v a = I a := fun a h1 h2 => by rw [bq_u_ne h2, st_cpI_ne (by omega) (by omega)]
  refine ⟨⟨hx, (hg.copy (by omega)).fr (fun a q1 q2 => bq_u_ne (by omega)) (fun _ _ _ => rfl), ?_, hl, π, hP, fun i hi => (hh i hi).fr (fun a q1 q2 => e a (by omega) (by omega)) (fun a q1 q2 => st_cpL_ne (by omega) (by omega))⟩, ⟨fun a ha => ?_, ?_⟩, fun a ha => ?_⟩
  · rw [bq_u_no (by omega), st_cpI_ne (by omega) (by omega)]; exact hc
  · rw [e a (by omega) (by omega)]; exact hF.1 a ha
  · rw [bq_u_no (by omega), st_cpI_ne (by omega) (by omega)]; exact hF.2
  · rw [st_cpL_ne (by omega) (by omega)]; exact hFL a ha
def qRun (x : Nat) (I : BqI) (L : BqL) (S : BqH) (n : Nat) (P : BqP) (w : BqR) : BqQ := fun r S' n' I' L' P' => r = some (.int w.1) ∧ S' = S ∧ n' = n ∧ CXS x S n I' L' P' w.2.1 w.2.2.1 w.2.2.2.1 ∧ I' x 10 = w.2.2.2.2 ∧ I' (x + 108) 0 = nI 0 ∧ I' (x + 108 + 1) = I (x + 108 + 1) ∧ (∀ a, a < x ∨ (x + 55 ≤ a ∧ a < x + 108) ∨ x + 536 ≤ a → I' a = I a) ∧ I' x 4 = I x 4 ∧ FrOL x L L' ∧ (∀ a, a ≠ x + 54 → P' a = P a)
/-- the tape after the reading: emptied, all else of the object kept -/
def TpE (x : Nat) (I J : BqI) : Prop := J (x + 108) 0 = nI 0 ∧ J (x + 108 + 1) = I (x + 108 + 1) ∧ ∀ a, a < x + 108 ∨ x + 131 ≤ a → J a = I a
theorem qRun.mk {x : Nat} {I J J' : BqI} {L L' : BqL} {S : BqH} {n : Nat} {P P' : BqP} {w : BqR} {v : Int32} (hT : TpE x I J) (hv : v = w.1) (hX : CXS x S n J' L' P' w.2.1 w.2.2.1 w.2.2.2.1) (hy : J' x 10 = w.2.2.2.2) (hF : FrO x J J') (hL : FrOL x L L') (hP : ∀ a, a ≠ x + 54 → P' a = P a) : qRun x I L S n P w (some (.int v)) S n J' L' P' := by
  subst hv
  obtain ⟨t0, t1, t2⟩ := hT
  refine ⟨rfl, rfl, rfl, hX, hy, ?_, ?_, fun a ha => (hF.1 a (by omega)).trans (t2 a (by omega)), hF.2.trans (congrFun (t2 x (by omega)) 4), hL, hP⟩
  · rw [hF.1 _ (by omega)]; exact t0
  · rw [hF.1 _ (by omega)]; exact t1
theorem TS.z {I : BqI} {t l : Nat} (h0 : I t 0 = nI l) (hl : l ≤ 60) : TS (rcs_0 I t) t (I (t + 1)) l (0, false) := by
  unfold rcs_0
  refine ⟨?_, ?_, ?_, ?_, Nat.zero_le _, hl⟩
  · rw [bq_u_no (by omega), bq_u_no (by omega), bq_u_no (by omega)]; exact h0
  · rw [bq_u_ne (by omega), bq_u_ne (by omega), bq_u_ne (by omega)]
  · rw [bq_u_no (by omega), bq_u_no (by omega), bq_u_at]
  · rw [bq_u_no (by omega), bq_u_at]; rfl
theorem rcs_R {I : BqI} {t l : Nat} (h0 : I t 0 = nI l) (hl : l ≤ 60) : RcR I t l (pR (I (t + 1)) l 21 0 0 (fun _ => (nI 0, nI 0, nI 0, nI 0))) (rcs t 20 0 (rcs_0 I t)) :=
  rcs_ok 20 0 0 (rcs_0 I t) _ rfl (Nat.le_refl _) (TS.z h0 hl) (by unfold rcs_0; rw [bq_u_at]) (fun j hj => absurd hj (Nat.not_lt_zero j)) (fun a q1 _ => by unfold rcs_0; rw [bq_u_ne q1, bq_u_ne q1, bq_u_ne q1])
set_option maxHeartbeats 1000000 in
set_option maxRecDepth 20000 in
theorem c_noByte {S : BqH} {n : Nat} {I : BqI} {L : BqL} {P : BqP} {v : Int32} : bq_Sp mX11_noByte 2 34 0 0 [.int v] S n I L P (bq_F (some (.int (bq_b (v < nI 0 ∨ ¬ v ≤ nI 127)))) S n I L P) := by
  refine q_entry (vs := [some (.int v)]) (by decide +kernel) (by simp) (Nat.le_of_ble_eq_true rfl) rfl ?_
  refine q_iload_n (pc := 0) dX11_noByte_0 rfl rfl ?_
  refine q_iconst (pc := 1) (v := nI 0) dX11_noByte_1 (by decide) ?_
  refine q_bipush (pc := 2) (v := nI 127) dX11_noByte_2 (by decide) ?_
  refine q_callSF (pc := 4) dX11_noByte_4 kX11_69 c_X11_outside ⟨Nat.le_of_ble_eq_true rfl, Nat.le_of_ble_eq_true rfl⟩ rfl rfl (Nat.le_of_ble_eq_true rfl) ?_
  show bq_W _ _ _ _ _ 7 _ [_] _ _ _ _ _ _
  exact q_zret (st := []) (pc := 7) dX11_noByte_7 rfl bq_bz ⟨rfl, rfl, rfl, rfl, rfl, rfl⟩
set_option maxHeartbeats 1060000 in
set_option maxRecDepth 20000 in
theorem m_feed_a {S : BqH} {n : Nat} {I : BqI} {L : BqL} {P : BqP} {x : Nat} (hx : oX S n P x) {l : Nat} (h0 : I (x + 108) 0 = nI l) (hl : l ≤ 60) {k : Int32} {a b c d e : Int32} (hb : (k < nI 1 ∨ ¬ k ≤ nI 5) ∨ (a < nI 0 ∨ ¬ a ≤ nI 127) ∨ (b < nI 0 ∨ ¬ b ≤ nI 127) ∨ (c < nI 0 ∨ ¬ c ≤ nI 127) ∨ (d < nI 0 ∨ ¬ d ≤ nI 127) ∨ (e < nI 0 ∨ ¬ e ≤ nI 127)) : bq_Sp mX11_feed 3 54 0 0 [.ref x, .int k, .int a, .int b, .int c, .int d, .int e] S n I L P (qFd x I L S n P (p_feed l (I (x + 108 + 1)) k a b c d e)) := by
  refine q_entry (vs := [some (.ref x), some (.int k), some (.int a), some (.int b), some (.int c), some (.int d), some (.int e)]) (by decide +kernel) (by simp) (Nat.le_of_ble_eq_true rfl) rfl ?_
  have f0 : FS (x + 108) I I l (I (x + 108 + 1)) := ⟨h0, fun _ _ => rfl, fun _ _ _ => rfl⟩
  refine q_iload_n (pc := 0) dX11_feed_0 rfl rfl ?_
  refine q_iconst (pc := 1) (v := nI 1) dX11_feed_1 (by decide) ?_
  refine q_iconst (pc := 2) (v := nI 5) dX11_feed_2 (by decide) ?_
  refine q_callSF (pc := 3) dX11_feed_3 kX11_69 c_X11_outside ⟨Nat.le_of_ble_eq_true rfl, Nat.le_of_ble_eq_true rfl⟩ rfl rfl (Nat.le_of_ble_eq_true rfl) ?_
  show bq_W _ _ _ _ _ 6 _ [_] _ _ _ _ _ _
  refine q_if_ne (pc := 6) 47 dX11_feed_6 (by decide) (fun c_6 => ?_) (fun c_6 => ?_)
  · replace c_6 := bq_bn.mp c_6
    refine q_bipush (pc := 47) (v := (-2)) dX11_feed_47 (by decide) ?_
    exact q_iret (st := []) (pc := 49) dX11_feed_49 rfl ⟨by rw [p_feed_bad hb], rfl, rfl, rfl, rfl, by rw [p_feed_bad hb]; exact f0⟩
  · replace c_6 := bq_b0.mp c_6
    refine q_iload_n (pc := 9) dX11_feed_9 rfl rfl ?_
    refine q_callSF (pc := 10) dX11_feed_10 kX11_203 c_noByte ⟨Nat.le_of_ble_eq_true rfl, Nat.le_of_ble_eq_true rfl⟩ rfl rfl (Nat.le_of_ble_eq_true rfl) ?_
    show bq_W _ _ _ _ _ 13 _ [_] _ _ _ _ _ _
    refine q_if_ne (pc := 13) 47 dX11_feed_13 (by decide) (fun c_13 => ?_) (fun c_13 => ?_)
    · replace c_13 := bq_bn.mp c_13
      refine q_bipush (pc := 47) (v := (-2)) dX11_feed_47 (by decide) ?_
      exact q_iret (st := []) (pc := 49) dX11_feed_49 rfl ⟨by rw [p_feed_bad hb], rfl, rfl, rfl, rfl, by rw [p_feed_bad hb]; exact f0⟩
    · replace c_13 := bq_b0.mp c_13
      refine q_iload_n (pc := 16) dX11_feed_16 rfl rfl ?_
      refine q_callSF (pc := 17) dX11_feed_17 kX11_203 c_noByte ⟨Nat.le_of_ble_eq_true rfl, Nat.le_of_ble_eq_true rfl⟩ rfl rfl (Nat.le_of_ble_eq_true rfl) ?_
      show bq_W _ _ _ _ _ 20 _ [_] _ _ _ _ _ _
      refine q_if_ne (pc := 20) 47 dX11_feed_20 (by decide) (fun c_20 => ?_) (fun c_20 => ?_)
      · replace c_20 := bq_bn.mp c_20
        refine q_bipush (pc := 47) (v := (-2)) dX11_feed_47 (by decide) ?_
        exact q_iret (st := []) (pc := 49) dX11_feed_49 rfl ⟨by rw [p_feed_bad hb], rfl, rfl, rfl, rfl, by rw [p_feed_bad hb]; exact f0⟩
      · replace c_20 := bq_b0.mp c_20
        refine q_iload (pc := 23) dX11_feed_23 rfl ?_
        refine q_callSF (pc := 25) dX11_feed_25 kX11_203 c_noByte ⟨Nat.le_of_ble_eq_true rfl, Nat.le_of_ble_eq_true rfl⟩ rfl rfl (Nat.le_of_ble_eq_true rfl) ?_
        show bq_W _ _ _ _ _ 28 _ [_] _ _ _ _ _ _
        refine q_if_ne (pc := 28) 47 dX11_feed_28 (by decide) (fun c_28 => ?_) (fun c_28 => ?_)
        · replace c_28 := bq_bn.mp c_28
          refine q_bipush (pc := 47) (v := (-2)) dX11_feed_47 (by decide) ?_
          exact q_iret (st := []) (pc := 49) dX11_feed_49 rfl ⟨by rw [p_feed_bad hb], rfl, rfl, rfl, rfl, by rw [p_feed_bad hb]; exact f0⟩
        · replace c_28 := bq_b0.mp c_28
          refine q_iload (pc := 31) dX11_feed_31 rfl ?_
          refine q_callSF (pc := 33) dX11_feed_33 kX11_203 c_noByte ⟨Nat.le_of_ble_eq_true rfl, Nat.le_of_ble_eq_true rfl⟩ rfl rfl (Nat.le_of_ble_eq_true rfl) ?_
          show bq_W _ _ _ _ _ 36 _ [_] _ _ _ _ _ _
          refine q_if_ne (pc := 36) 47 dX11_feed_36 (by decide) (fun c_36 => ?_) (fun c_36 => ?_)
          · replace c_36 := bq_bn.mp c_36
            refine q_bipush (pc := 47) (v := (-2)) dX11_feed_47 (by decide) ?_
            exact q_iret (st := []) (pc := 49) dX11_feed_49 rfl ⟨by rw [p_feed_bad hb], rfl, rfl, rfl, rfl, by rw [p_feed_bad hb]; exact f0⟩
          · replace c_36 := bq_b0.mp c_36
            refine q_iload (pc := 39) dX11_feed_39 rfl ?_
            refine q_callSF (pc := 41) dX11_feed_41 kX11_203 c_noByte ⟨Nat.le_of_ble_eq_true rfl, Nat.le_of_ble_eq_true rfl⟩ rfl rfl (Nat.le_of_ble_eq_true rfl) ?_
            show bq_W _ _ _ _ _ 44 _ [_] _ _ _ _ _ _
            refine q_if_eq (pc := 44) 50 dX11_feed_44 (by decide) (fun c_44 => ?_) (fun c_44 => ?_)
            · replace c_44 := bq_b0.mp c_44
              exact absurd hb (fun z => z.elim c_6 (fun z => z.elim c_13 (fun z => z.elim c_20 (fun z => z.elim c_28 (fun z => z.elim c_36 c_44)))))
            · replace c_44 := bq_bn.mp c_44
              refine q_bipush (pc := 47) (v := (-2)) dX11_feed_47 (by decide) ?_
              exact q_iret (st := []) (pc := 49) dX11_feed_49 rfl ⟨by rw [p_feed_bad hb], rfl, rfl, rfl, rfl, by rw [p_feed_bad hb]; exact f0⟩
set_option maxHeartbeats 1000000 in
set_option maxRecDepth 20000 in
theorem m_feed_b {S : BqH} {n : Nat} {I : BqI} {L : BqL} {P : BqP} {x : Nat} (hx : oX S n P x) {l : Nat} (h0 : I (x + 108) 0 = nI l) (hl : l ≤ 60) {k : Nat} (k1 : 1 ≤ k) (k5 : k ≤ 5) {a b c d e : Int32} (ha : ¬ (a < nI 0 ∨ ¬ a ≤ nI 127)) (hb : ¬ (b < nI 0 ∨ ¬ b ≤ nI 127)) (hc : ¬ (c < nI 0 ∨ ¬ c ≤ nI 127)) (hd : ¬ (d < nI 0 ∨ ¬ d ≤ nI 127)) (he : ¬ (e < nI 0 ∨ ¬ e ≤ nI 127)) (hf : 60 < l + k) : bq_Sp mX11_feed 3 54 0 0 [.ref x, .int (nI k), .int a, .int b, .int c, .int d, .int e] S n I L P (qFd x I L S n P (p_feed l (I (x + 108 + 1)) (nI k) a b c d e)) := by
  refine q_entry (vs := [some (.ref x), some (.int (nI k)), some (.int a), some (.int b), some (.int c), some (.int d), some (.int e)]) (by decide +kernel) (by simp) (Nat.le_of_ble_eq_true rfl) rfl ?_
  have f0 : FS (x + 108) I I l (I (x + 108 + 1)) := ⟨h0, fun _ _ => rfl, fun _ _ _ => rfl⟩
  refine q_iload_n (pc := 0) dX11_feed_0 rfl rfl ?_
  refine q_iconst (pc := 1) (v := nI 1) dX11_feed_1 (by decide) ?_
  refine q_iconst (pc := 2) (v := nI 5) dX11_feed_2 (by decide) ?_
  refine q_callSF (pc := 3) dX11_feed_3 kX11_69 c_X11_outside ⟨Nat.le_of_ble_eq_true rfl, Nat.le_of_ble_eq_true rfl⟩ rfl rfl (Nat.le_of_ble_eq_true rfl) ?_
  show bq_W _ _ _ _ _ 6 _ [_] _ _ _ _ _ _
  refine q_if_ne (pc := 6) 47 dX11_feed_6 (by decide) (fun c_6 => (((bq_nin (by omega) (by omega) (by decide)) (bq_bn.mp c_6) : False)).elim) (fun c_6 => ?_)
  refine q_iload_n (pc := 9) dX11_feed_9 rfl rfl ?_
  refine q_callSF (pc := 10) dX11_feed_10 kX11_203 c_noByte ⟨Nat.le_of_ble_eq_true rfl, Nat.le_of_ble_eq_true rfl⟩ rfl rfl (Nat.le_of_ble_eq_true rfl) ?_
  show bq_W _ _ _ _ _ 13 _ [_] _ _ _ _ _ _
  refine q_if_ne (pc := 13) 47 dX11_feed_13 (by decide) (fun c_13 => ((ha (bq_bn.mp c_13))).elim) (fun c_13 => ?_)
  refine q_iload_n (pc := 16) dX11_feed_16 rfl rfl ?_
  refine q_callSF (pc := 17) dX11_feed_17 kX11_203 c_noByte ⟨Nat.le_of_ble_eq_true rfl, Nat.le_of_ble_eq_true rfl⟩ rfl rfl (Nat.le_of_ble_eq_true rfl) ?_
  show bq_W _ _ _ _ _ 20 _ [_] _ _ _ _ _ _
  refine q_if_ne (pc := 20) 47 dX11_feed_20 (by decide) (fun c_20 => ((hb (bq_bn.mp c_20))).elim) (fun c_20 => ?_)
  refine q_iload (pc := 23) dX11_feed_23 rfl ?_
  refine q_callSF (pc := 25) dX11_feed_25 kX11_203 c_noByte ⟨Nat.le_of_ble_eq_true rfl, Nat.le_of_ble_eq_true rfl⟩ rfl rfl (Nat.le_of_ble_eq_true rfl) ?_
  show bq_W _ _ _ _ _ 28 _ [_] _ _ _ _ _ _
  refine q_if_ne (pc := 28) 47 dX11_feed_28 (by decide) (fun c_28 => ((hc (bq_bn.mp c_28))).elim) (fun c_28 => ?_)
  refine q_iload (pc := 31) dX11_feed_31 rfl ?_
  refine q_callSF (pc := 33) dX11_feed_33 kX11_203 c_noByte ⟨Nat.le_of_ble_eq_true rfl, Nat.le_of_ble_eq_true rfl⟩ rfl rfl (Nat.le_of_ble_eq_true rfl) ?_
  show bq_W _ _ _ _ _ 36 _ [_] _ _ _ _ _ _
  refine q_if_ne (pc := 36) 47 dX11_feed_36 (by decide) (fun c_36 => ((hd (bq_bn.mp c_36))).elim) (fun c_36 => ?_)
  refine q_iload (pc := 39) dX11_feed_39 rfl ?_
  refine q_callSF (pc := 41) dX11_feed_41 kX11_203 c_noByte ⟨Nat.le_of_ble_eq_true rfl, Nat.le_of_ble_eq_true rfl⟩ rfl rfl (Nat.le_of_ble_eq_true rfl) ?_
  show bq_W _ _ _ _ _ 44 _ [_] _ _ _ _ _ _
  refine q_if_eq (pc := 44) 50 dX11_feed_44 (by decide) (fun c_44 => ?_) (fun c_44 => ((he (bq_bn.mp c_44))).elim)
  refine q_aload_n (pc := 50) dX11_feed_50 rfl rfl ?_
  refine q_getP (pc := 51) dX11_feed_51 fX11_34 (Cellar_sh hx) ⟨by decide, rfl⟩ (Cellar_lt hx) (Cellar_p_tape hx) ?_
  refine q_getI (pc := 54) dX11_feed_54 fX11_207 (Tape_sh (Cellar_s_tape hx)) ⟨by decide, rfl⟩ (Tape_lt (Cellar_s_tape hx)) ?_
  rw [h0]
  refine q_iload_n (pc := 57) dX11_feed_57 rfl rfl ?_
  refine q_iaddN (pc := 58) dX11_feed_58 ?_
  refine q_bipush (pc := 59) (v := nI 60) dX11_feed_59 (by decide) ?_
  refine q_icmp_le (pc := 61) 67 dX11_feed_61 (by decide) (fun c_61 => absurd c_61 (nI_ge hf (by omega))) (fun c_61 => ?_)
  refine q_bipush (pc := 64) (v := (-4)) dX11_feed_64 (by decide) ?_
  exact q_iret (st := []) (pc := 66) dX11_feed_66 rfl ⟨by rw [p_feed_full k1 k5 ha hb hc hd he hf], rfl, rfl, rfl, rfl, by rw [p_feed_full k1 k5 ha hb hc hd he hf]; exact f0⟩
set_option maxHeartbeats 1200000 in
set_option maxRecDepth 20000 in
theorem m_feed_k1 {S : BqH} {n : Nat} {I : BqI} {L : BqL} {P : BqP} {x : Nat} (hx : oX S n P x) {l : Nat} (h0 : I (x + 108) 0 = nI l) (hl : l ≤ 60) {a b c d e : Int32} (ha : ¬ (a < nI 0 ∨ ¬ a ≤ nI 127)) (hb : ¬ (b < nI 0 ∨ ¬ b ≤ nI 127)) (hc : ¬ (c < nI 0 ∨ ¬ c ≤ nI 127)) (hd : ¬ (d < nI 0 ∨ ¬ d ≤ nI 127)) (he : ¬ (e < nI 0 ∨ ¬ e ≤ nI 127)) (hf : ¬ 60 < l + 1) : bq_Sp mX11_feed 3 54 0 0 [.ref x, .int (nI 1), .int a, .int b, .int c, .int d, .int e] S n I L P (qFd x I L S n P (p_feed l (I (x + 108 + 1)) (nI 1) a b c d e)) := by
  refine q_entry (vs := [some (.ref x), some (.int (nI 1)), some (.int a), some (.int b), some (.int c), some (.int d), some (.int e)]) (by decide +kernel) (by simp) (Nat.le_of_ble_eq_true rfl) rfl ?_
  have f0 : FS (x + 108) I I l (I (x + 108 + 1)) := ⟨h0, fun _ _ => rfl, fun _ _ _ => rfl⟩
  refine q_iload_n (pc := 0) dX11_feed_0 rfl rfl ?_
  refine q_iconst (pc := 1) (v := nI 1) dX11_feed_1 (by decide) ?_
  refine q_iconst (pc := 2) (v := nI 5) dX11_feed_2 (by decide) ?_
  refine q_callSF (pc := 3) dX11_feed_3 kX11_69 c_X11_outside ⟨Nat.le_of_ble_eq_true rfl, Nat.le_of_ble_eq_true rfl⟩ rfl rfl (Nat.le_of_ble_eq_true rfl) ?_
  show bq_W _ _ _ _ _ 6 _ [_] _ _ _ _ _ _
  refine q_if_ne (pc := 6) 47 dX11_feed_6 (by decide) (fun c_6 => (((bq_nin (by omega) (by omega) (by decide)) (bq_bn.mp c_6) : False)).elim) (fun c_6 => ?_)
  refine q_iload_n (pc := 9) dX11_feed_9 rfl rfl ?_
  refine q_callSF (pc := 10) dX11_feed_10 kX11_203 c_noByte ⟨Nat.le_of_ble_eq_true rfl, Nat.le_of_ble_eq_true rfl⟩ rfl rfl (Nat.le_of_ble_eq_true rfl) ?_
  show bq_W _ _ _ _ _ 13 _ [_] _ _ _ _ _ _
  refine q_if_ne (pc := 13) 47 dX11_feed_13 (by decide) (fun c_13 => ((ha (bq_bn.mp c_13))).elim) (fun c_13 => ?_)
  refine q_iload_n (pc := 16) dX11_feed_16 rfl rfl ?_
  refine q_callSF (pc := 17) dX11_feed_17 kX11_203 c_noByte ⟨Nat.le_of_ble_eq_true rfl, Nat.le_of_ble_eq_true rfl⟩ rfl rfl (Nat.le_of_ble_eq_true rfl) ?_
  show bq_W _ _ _ _ _ 20 _ [_] _ _ _ _ _ _
  refine q_if_ne (pc := 20) 47 dX11_feed_20 (by decide) (fun c_20 => ((hb (bq_bn.mp c_20))).elim) (fun c_20 => ?_)
  refine q_iload (pc := 23) dX11_feed_23 rfl ?_
  refine q_callSF (pc := 25) dX11_feed_25 kX11_203 c_noByte ⟨Nat.le_of_ble_eq_true rfl, Nat.le_of_ble_eq_true rfl⟩ rfl rfl (Nat.le_of_ble_eq_true rfl) ?_
  show bq_W _ _ _ _ _ 28 _ [_] _ _ _ _ _ _
  refine q_if_ne (pc := 28) 47 dX11_feed_28 (by decide) (fun c_28 => ((hc (bq_bn.mp c_28))).elim) (fun c_28 => ?_)
  refine q_iload (pc := 31) dX11_feed_31 rfl ?_
  refine q_callSF (pc := 33) dX11_feed_33 kX11_203 c_noByte ⟨Nat.le_of_ble_eq_true rfl, Nat.le_of_ble_eq_true rfl⟩ rfl rfl (Nat.le_of_ble_eq_true rfl) ?_
  show bq_W _ _ _ _ _ 36 _ [_] _ _ _ _ _ _
  refine q_if_ne (pc := 36) 47 dX11_feed_36 (by decide) (fun c_36 => ((hd (bq_bn.mp c_36))).elim) (fun c_36 => ?_)
  refine q_iload (pc := 39) dX11_feed_39 rfl ?_
  refine q_callSF (pc := 41) dX11_feed_41 kX11_203 c_noByte ⟨Nat.le_of_ble_eq_true rfl, Nat.le_of_ble_eq_true rfl⟩ rfl rfl (Nat.le_of_ble_eq_true rfl) ?_
  show bq_W _ _ _ _ _ 44 _ [_] _ _ _ _ _ _
  refine q_if_eq (pc := 44) 50 dX11_feed_44 (by decide) (fun c_44 => ?_) (fun c_44 => ((he (bq_bn.mp c_44))).elim)
  refine q_aload_n (pc := 50) dX11_feed_50 rfl rfl ?_
  refine q_getP (pc := 51) dX11_feed_51 fX11_34 (Cellar_sh hx) ⟨by decide, rfl⟩ (Cellar_lt hx) (Cellar_p_tape hx) ?_
  refine q_getI (pc := 54) dX11_feed_54 fX11_207 (Tape_sh (Cellar_s_tape hx)) ⟨by decide, rfl⟩ (Tape_lt (Cellar_s_tape hx)) ?_
  rw [h0]
  refine q_iload_n (pc := 57) dX11_feed_57 rfl rfl ?_
  refine q_iaddN (pc := 58) dX11_feed_58 ?_
  refine q_bipush (pc := 59) (v := nI 60) dX11_feed_59 (by decide) ?_
  refine q_icmp_le (pc := 61) 67 dX11_feed_61 (by decide) (fun c_61 => ?_) (fun c_61 => absurd (nI_le (show l + 1 ≤ 60 by omega) (by decide)) c_61)
  refine q_aload_n (pc := 67) dX11_feed_67 rfl rfl ?_
  refine q_getP (pc := 68) dX11_feed_68 fX11_34 (Cellar_sh hx) ⟨by decide, rfl⟩ (Cellar_lt hx) (Cellar_p_tape hx) ?_
  refine q_iload_n (pc := 71) dX11_feed_71 rfl rfl ?_
  refine q_callVF (pc := 72) dX11_feed_72 kX11_208 (c_X10_append (Cellar_s_tape hx) (q := l) f0.1 (by omega)) (Tape_sh (Cellar_s_tape hx)) rfl (Tape_lt (Cellar_s_tape hx)) ⟨Nat.le_of_ble_eq_true rfl, Nat.le_of_ble_eq_true rfl⟩ rfl rfl (Nat.le_of_ble_eq_true rfl) ?_
  show bq_W _ _ _ _ _ 75 _ [] _ _ _ _ _ _
  refine q_nameI (fun J1 e1 => ?_)
  have f1 := (FS.ap (v := a) f0)
  rw [← e1] at f1
  refine q_iload_n (pc := 75) dX11_feed_75 rfl rfl ?_
  refine q_iconst (pc := 76) (v := nI 1) dX11_feed_76 (by decide) ?_
  refine q_icmp_le (pc := 77) 88 dX11_feed_77 (by decide) (fun c_77 => ?_) (fun c_77 => absurd (by decide) c_77)
  refine q_iload_n (pc := 88) dX11_feed_88 rfl rfl ?_
  refine q_iconst (pc := 89) (v := nI 2) dX11_feed_89 (by decide) ?_
  refine q_icmp_le (pc := 90) 102 dX11_feed_90 (by decide) (fun c_90 => ?_) (fun c_90 => absurd (by decide) c_90)
  refine q_iload_n (pc := 102) dX11_feed_102 rfl rfl ?_
  refine q_iconst (pc := 103) (v := nI 3) dX11_feed_103 (by decide) ?_
  refine q_icmp_le (pc := 104) 116 dX11_feed_104 (by decide) (fun c_104 => ?_) (fun c_104 => absurd (by decide) c_104)
  refine q_iload_n (pc := 116) dX11_feed_116 rfl rfl ?_
  refine q_iconst (pc := 117) (v := nI 4) dX11_feed_117 (by decide) ?_
  refine q_icmp_le (pc := 118) 130 dX11_feed_118 (by decide) (fun c_118 => ?_) (fun c_118 => absurd (by decide) c_118)
  refine q_aload_n (pc := 130) dX11_feed_130 rfl rfl ?_
  refine q_getP (pc := 131) dX11_feed_131 fX11_34 (Cellar_sh hx) ⟨by decide, rfl⟩ (Cellar_lt hx) (Cellar_p_tape hx) ?_
  refine q_getI (pc := 134) dX11_feed_134 fX11_207 (Tape_sh (Cellar_s_tape hx)) ⟨by decide, rfl⟩ (Tape_lt (Cellar_s_tape hx)) ?_
  exact q_iret (st := []) (pc := 137) dX11_feed_137 rfl ⟨by rw [p_feed_ok (by decide) (by decide) ha hb hc hd he hf, f1.1], rfl, rfl, rfl, rfl, by rw [p_feed_ok (by decide) (by decide) ha hb hc hd he hf]; exact ⟨f1.1, fun j hj => (f1.2.1 j hj).trans (fb_1), f1.2.2⟩⟩
set_option maxHeartbeats 1360000 in
set_option maxRecDepth 20000 in
theorem m_feed_k2 {S : BqH} {n : Nat} {I : BqI} {L : BqL} {P : BqP} {x : Nat} (hx : oX S n P x) {l : Nat} (h0 : I (x + 108) 0 = nI l) (hl : l ≤ 60) {a b c d e : Int32} (ha : ¬ (a < nI 0 ∨ ¬ a ≤ nI 127)) (hb : ¬ (b < nI 0 ∨ ¬ b ≤ nI 127)) (hc : ¬ (c < nI 0 ∨ ¬ c ≤ nI 127)) (hd : ¬ (d < nI 0 ∨ ¬ d ≤ nI 127)) (he : ¬ (e < nI 0 ∨ ¬ e ≤ nI 127)) (hf : ¬ 60 < l + 2) : bq_Sp mX11_feed 3 54 0 0 [.ref x, .int (nI 2), .int a, .int b, .int c, .int d, .int e] S n I L P (qFd x I L S n P (p_feed l (I (x + 108 + 1)) (nI 2) a b c d e)) := by
  refine q_entry (vs := [some (.ref x), some (.int (nI 2)), some (.int a), some (.int b), some (.int c), some (.int d), some (.int e)]) (by decide +kernel) (by simp) (Nat.le_of_ble_eq_true rfl) rfl ?_
  have f0 : FS (x + 108) I I l (I (x + 108 + 1)) := ⟨h0, fun _ _ => rfl, fun _ _ _ => rfl⟩
  refine q_iload_n (pc := 0) dX11_feed_0 rfl rfl ?_
  refine q_iconst (pc := 1) (v := nI 1) dX11_feed_1 (by decide) ?_
  refine q_iconst (pc := 2) (v := nI 5) dX11_feed_2 (by decide) ?_
  refine q_callSF (pc := 3) dX11_feed_3 kX11_69 c_X11_outside ⟨Nat.le_of_ble_eq_true rfl, Nat.le_of_ble_eq_true rfl⟩ rfl rfl (Nat.le_of_ble_eq_true rfl) ?_
  show bq_W _ _ _ _ _ 6 _ [_] _ _ _ _ _ _
  refine q_if_ne (pc := 6) 47 dX11_feed_6 (by decide) (fun c_6 => (((bq_nin (by omega) (by omega) (by decide)) (bq_bn.mp c_6) : False)).elim) (fun c_6 => ?_)
  refine q_iload_n (pc := 9) dX11_feed_9 rfl rfl ?_
  refine q_callSF (pc := 10) dX11_feed_10 kX11_203 c_noByte ⟨Nat.le_of_ble_eq_true rfl, Nat.le_of_ble_eq_true rfl⟩ rfl rfl (Nat.le_of_ble_eq_true rfl) ?_
  show bq_W _ _ _ _ _ 13 _ [_] _ _ _ _ _ _
  refine q_if_ne (pc := 13) 47 dX11_feed_13 (by decide) (fun c_13 => ((ha (bq_bn.mp c_13))).elim) (fun c_13 => ?_)
  refine q_iload_n (pc := 16) dX11_feed_16 rfl rfl ?_
  refine q_callSF (pc := 17) dX11_feed_17 kX11_203 c_noByte ⟨Nat.le_of_ble_eq_true rfl, Nat.le_of_ble_eq_true rfl⟩ rfl rfl (Nat.le_of_ble_eq_true rfl) ?_
  show bq_W _ _ _ _ _ 20 _ [_] _ _ _ _ _ _
  refine q_if_ne (pc := 20) 47 dX11_feed_20 (by decide) (fun c_20 => ((hb (bq_bn.mp c_20))).elim) (fun c_20 => ?_)
  refine q_iload (pc := 23) dX11_feed_23 rfl ?_
  refine q_callSF (pc := 25) dX11_feed_25 kX11_203 c_noByte ⟨Nat.le_of_ble_eq_true rfl, Nat.le_of_ble_eq_true rfl⟩ rfl rfl (Nat.le_of_ble_eq_true rfl) ?_
  show bq_W _ _ _ _ _ 28 _ [_] _ _ _ _ _ _
  refine q_if_ne (pc := 28) 47 dX11_feed_28 (by decide) (fun c_28 => ((hc (bq_bn.mp c_28))).elim) (fun c_28 => ?_)
  refine q_iload (pc := 31) dX11_feed_31 rfl ?_
  refine q_callSF (pc := 33) dX11_feed_33 kX11_203 c_noByte ⟨Nat.le_of_ble_eq_true rfl, Nat.le_of_ble_eq_true rfl⟩ rfl rfl (Nat.le_of_ble_eq_true rfl) ?_
  show bq_W _ _ _ _ _ 36 _ [_] _ _ _ _ _ _
  refine q_if_ne (pc := 36) 47 dX11_feed_36 (by decide) (fun c_36 => ((hd (bq_bn.mp c_36))).elim) (fun c_36 => ?_)
  refine q_iload (pc := 39) dX11_feed_39 rfl ?_
  refine q_callSF (pc := 41) dX11_feed_41 kX11_203 c_noByte ⟨Nat.le_of_ble_eq_true rfl, Nat.le_of_ble_eq_true rfl⟩ rfl rfl (Nat.le_of_ble_eq_true rfl) ?_
  show bq_W _ _ _ _ _ 44 _ [_] _ _ _ _ _ _
  refine q_if_eq (pc := 44) 50 dX11_feed_44 (by decide) (fun c_44 => ?_) (fun c_44 => ((he (bq_bn.mp c_44))).elim)
  refine q_aload_n (pc := 50) dX11_feed_50 rfl rfl ?_
  refine q_getP (pc := 51) dX11_feed_51 fX11_34 (Cellar_sh hx) ⟨by decide, rfl⟩ (Cellar_lt hx) (Cellar_p_tape hx) ?_
  refine q_getI (pc := 54) dX11_feed_54 fX11_207 (Tape_sh (Cellar_s_tape hx)) ⟨by decide, rfl⟩ (Tape_lt (Cellar_s_tape hx)) ?_
  rw [h0]
  refine q_iload_n (pc := 57) dX11_feed_57 rfl rfl ?_
  refine q_iaddN (pc := 58) dX11_feed_58 ?_
  refine q_bipush (pc := 59) (v := nI 60) dX11_feed_59 (by decide) ?_
  refine q_icmp_le (pc := 61) 67 dX11_feed_61 (by decide) (fun c_61 => ?_) (fun c_61 => absurd (nI_le (show l + 2 ≤ 60 by omega) (by decide)) c_61)
  refine q_aload_n (pc := 67) dX11_feed_67 rfl rfl ?_
  refine q_getP (pc := 68) dX11_feed_68 fX11_34 (Cellar_sh hx) ⟨by decide, rfl⟩ (Cellar_lt hx) (Cellar_p_tape hx) ?_
  refine q_iload_n (pc := 71) dX11_feed_71 rfl rfl ?_
  refine q_callVF (pc := 72) dX11_feed_72 kX11_208 (c_X10_append (Cellar_s_tape hx) (q := l) f0.1 (by omega)) (Tape_sh (Cellar_s_tape hx)) rfl (Tape_lt (Cellar_s_tape hx)) ⟨Nat.le_of_ble_eq_true rfl, Nat.le_of_ble_eq_true rfl⟩ rfl rfl (Nat.le_of_ble_eq_true rfl) ?_
  show bq_W _ _ _ _ _ 75 _ [] _ _ _ _ _ _
  refine q_nameI (fun J1 e1 => ?_)
  have f1 := (FS.ap (v := a) f0)
  rw [← e1] at f1
  refine q_iload_n (pc := 75) dX11_feed_75 rfl rfl ?_
  refine q_iconst (pc := 76) (v := nI 1) dX11_feed_76 (by decide) ?_
  refine q_icmp_le (pc := 77) 88 dX11_feed_77 (by decide) (fun c_77 => absurd c_77 (by decide)) (fun c_77 => ?_)
  refine q_aload_n (pc := 80) dX11_feed_80 rfl rfl ?_
  refine q_getP (pc := 81) dX11_feed_81 fX11_34 (Cellar_sh hx) ⟨by decide, rfl⟩ (Cellar_lt hx) (Cellar_p_tape hx) ?_
  refine q_iload_n (pc := 84) dX11_feed_84 rfl rfl ?_
  refine q_callVF (pc := 85) dX11_feed_85 kX11_208 (c_X10_append (Cellar_s_tape hx) (q := (l + 1)) f1.1 (by omega)) (Tape_sh (Cellar_s_tape hx)) rfl (Tape_lt (Cellar_s_tape hx)) ⟨Nat.le_of_ble_eq_true rfl, Nat.le_of_ble_eq_true rfl⟩ rfl rfl (Nat.le_of_ble_eq_true rfl) ?_
  show bq_W _ _ _ _ _ 88 _ [] _ _ _ _ _ _
  refine q_nameI (fun J2 e2 => ?_)
  have f2 := (FS.ap (v := b) f1)
  rw [← e2] at f2
  refine q_iload_n (pc := 88) dX11_feed_88 rfl rfl ?_
  refine q_iconst (pc := 89) (v := nI 2) dX11_feed_89 (by decide) ?_
  refine q_icmp_le (pc := 90) 102 dX11_feed_90 (by decide) (fun c_90 => ?_) (fun c_90 => absurd (by decide) c_90)
  refine q_iload_n (pc := 102) dX11_feed_102 rfl rfl ?_
  refine q_iconst (pc := 103) (v := nI 3) dX11_feed_103 (by decide) ?_
  refine q_icmp_le (pc := 104) 116 dX11_feed_104 (by decide) (fun c_104 => ?_) (fun c_104 => absurd (by decide) c_104)
  refine q_iload_n (pc := 116) dX11_feed_116 rfl rfl ?_
  refine q_iconst (pc := 117) (v := nI 4) dX11_feed_117 (by decide) ?_
  refine q_icmp_le (pc := 118) 130 dX11_feed_118 (by decide) (fun c_118 => ?_) (fun c_118 => absurd (by decide) c_118)
  refine q_aload_n (pc := 130) dX11_feed_130 rfl rfl ?_
  refine q_getP (pc := 131) dX11_feed_131 fX11_34 (Cellar_sh hx) ⟨by decide, rfl⟩ (Cellar_lt hx) (Cellar_p_tape hx) ?_
  refine q_getI (pc := 134) dX11_feed_134 fX11_207 (Tape_sh (Cellar_s_tape hx)) ⟨by decide, rfl⟩ (Tape_lt (Cellar_s_tape hx)) ?_
  exact q_iret (st := []) (pc := 137) dX11_feed_137 rfl ⟨by rw [p_feed_ok (by decide) (by decide) ha hb hc hd he hf, f2.1], rfl, rfl, rfl, rfl, by rw [p_feed_ok (by decide) (by decide) ha hb hc hd he hf]; exact ⟨f2.1, fun j hj => (f2.2.1 j hj).trans (fb_s (k := 1) (fb_1)), f2.2.2⟩⟩
set_option maxHeartbeats 1520000 in
set_option maxRecDepth 20000 in
theorem m_feed_k3 {S : BqH} {n : Nat} {I : BqI} {L : BqL} {P : BqP} {x : Nat} (hx : oX S n P x) {l : Nat} (h0 : I (x + 108) 0 = nI l) (hl : l ≤ 60) {a b c d e : Int32} (ha : ¬ (a < nI 0 ∨ ¬ a ≤ nI 127)) (hb : ¬ (b < nI 0 ∨ ¬ b ≤ nI 127)) (hc : ¬ (c < nI 0 ∨ ¬ c ≤ nI 127)) (hd : ¬ (d < nI 0 ∨ ¬ d ≤ nI 127)) (he : ¬ (e < nI 0 ∨ ¬ e ≤ nI 127)) (hf : ¬ 60 < l + 3) : bq_Sp mX11_feed 3 54 0 0 [.ref x, .int (nI 3), .int a, .int b, .int c, .int d, .int e] S n I L P (qFd x I L S n P (p_feed l (I (x + 108 + 1)) (nI 3) a b c d e)) := by
  refine q_entry (vs := [some (.ref x), some (.int (nI 3)), some (.int a), some (.int b), some (.int c), some (.int d), some (.int e)]) (by decide +kernel) (by simp) (Nat.le_of_ble_eq_true rfl) rfl ?_
  have f0 : FS (x + 108) I I l (I (x + 108 + 1)) := ⟨h0, fun _ _ => rfl, fun _ _ _ => rfl⟩
  refine q_iload_n (pc := 0) dX11_feed_0 rfl rfl ?_
  refine q_iconst (pc := 1) (v := nI 1) dX11_feed_1 (by decide) ?_
  refine q_iconst (pc := 2) (v := nI 5) dX11_feed_2 (by decide) ?_
  refine q_callSF (pc := 3) dX11_feed_3 kX11_69 c_X11_outside ⟨Nat.le_of_ble_eq_true rfl, Nat.le_of_ble_eq_true rfl⟩ rfl rfl (Nat.le_of_ble_eq_true rfl) ?_
  show bq_W _ _ _ _ _ 6 _ [_] _ _ _ _ _ _
  refine q_if_ne (pc := 6) 47 dX11_feed_6 (by decide) (fun c_6 => (((bq_nin (by omega) (by omega) (by decide)) (bq_bn.mp c_6) : False)).elim) (fun c_6 => ?_)
  refine q_iload_n (pc := 9) dX11_feed_9 rfl rfl ?_
  refine q_callSF (pc := 10) dX11_feed_10 kX11_203 c_noByte ⟨Nat.le_of_ble_eq_true rfl, Nat.le_of_ble_eq_true rfl⟩ rfl rfl (Nat.le_of_ble_eq_true rfl) ?_
  show bq_W _ _ _ _ _ 13 _ [_] _ _ _ _ _ _
  refine q_if_ne (pc := 13) 47 dX11_feed_13 (by decide) (fun c_13 => ((ha (bq_bn.mp c_13))).elim) (fun c_13 => ?_)
  refine q_iload_n (pc := 16) dX11_feed_16 rfl rfl ?_
  refine q_callSF (pc := 17) dX11_feed_17 kX11_203 c_noByte ⟨Nat.le_of_ble_eq_true rfl, Nat.le_of_ble_eq_true rfl⟩ rfl rfl (Nat.le_of_ble_eq_true rfl) ?_
  show bq_W _ _ _ _ _ 20 _ [_] _ _ _ _ _ _
  refine q_if_ne (pc := 20) 47 dX11_feed_20 (by decide) (fun c_20 => ((hb (bq_bn.mp c_20))).elim) (fun c_20 => ?_)
  refine q_iload (pc := 23) dX11_feed_23 rfl ?_
  refine q_callSF (pc := 25) dX11_feed_25 kX11_203 c_noByte ⟨Nat.le_of_ble_eq_true rfl, Nat.le_of_ble_eq_true rfl⟩ rfl rfl (Nat.le_of_ble_eq_true rfl) ?_
  show bq_W _ _ _ _ _ 28 _ [_] _ _ _ _ _ _
  refine q_if_ne (pc := 28) 47 dX11_feed_28 (by decide) (fun c_28 => ((hc (bq_bn.mp c_28))).elim) (fun c_28 => ?_)
  refine q_iload (pc := 31) dX11_feed_31 rfl ?_
  refine q_callSF (pc := 33) dX11_feed_33 kX11_203 c_noByte ⟨Nat.le_of_ble_eq_true rfl, Nat.le_of_ble_eq_true rfl⟩ rfl rfl (Nat.le_of_ble_eq_true rfl) ?_
  show bq_W _ _ _ _ _ 36 _ [_] _ _ _ _ _ _
  refine q_if_ne (pc := 36) 47 dX11_feed_36 (by decide) (fun c_36 => ((hd (bq_bn.mp c_36))).elim) (fun c_36 => ?_)
  refine q_iload (pc := 39) dX11_feed_39 rfl ?_
  refine q_callSF (pc := 41) dX11_feed_41 kX11_203 c_noByte ⟨Nat.le_of_ble_eq_true rfl, Nat.le_of_ble_eq_true rfl⟩ rfl rfl (Nat.le_of_ble_eq_true rfl) ?_
  show bq_W _ _ _ _ _ 44 _ [_] _ _ _ _ _ _
  refine q_if_eq (pc := 44) 50 dX11_feed_44 (by decide) (fun c_44 => ?_) (fun c_44 => ((he (bq_bn.mp c_44))).elim)
  refine q_aload_n (pc := 50) dX11_feed_50 rfl rfl ?_
  refine q_getP (pc := 51) dX11_feed_51 fX11_34 (Cellar_sh hx) ⟨by decide, rfl⟩ (Cellar_lt hx) (Cellar_p_tape hx) ?_
  refine q_getI (pc := 54) dX11_feed_54 fX11_207 (Tape_sh (Cellar_s_tape hx)) ⟨by decide, rfl⟩ (Tape_lt (Cellar_s_tape hx)) ?_
  rw [h0]
  refine q_iload_n (pc := 57) dX11_feed_57 rfl rfl ?_
  refine q_iaddN (pc := 58) dX11_feed_58 ?_
  refine q_bipush (pc := 59) (v := nI 60) dX11_feed_59 (by decide) ?_
  refine q_icmp_le (pc := 61) 67 dX11_feed_61 (by decide) (fun c_61 => ?_) (fun c_61 => absurd (nI_le (show l + 3 ≤ 60 by omega) (by decide)) c_61)
  refine q_aload_n (pc := 67) dX11_feed_67 rfl rfl ?_
  refine q_getP (pc := 68) dX11_feed_68 fX11_34 (Cellar_sh hx) ⟨by decide, rfl⟩ (Cellar_lt hx) (Cellar_p_tape hx) ?_
  refine q_iload_n (pc := 71) dX11_feed_71 rfl rfl ?_
  refine q_callVF (pc := 72) dX11_feed_72 kX11_208 (c_X10_append (Cellar_s_tape hx) (q := l) f0.1 (by omega)) (Tape_sh (Cellar_s_tape hx)) rfl (Tape_lt (Cellar_s_tape hx)) ⟨Nat.le_of_ble_eq_true rfl, Nat.le_of_ble_eq_true rfl⟩ rfl rfl (Nat.le_of_ble_eq_true rfl) ?_
  show bq_W _ _ _ _ _ 75 _ [] _ _ _ _ _ _
  refine q_nameI (fun J1 e1 => ?_)
  have f1 := (FS.ap (v := a) f0)
  rw [← e1] at f1
  refine q_iload_n (pc := 75) dX11_feed_75 rfl rfl ?_
  refine q_iconst (pc := 76) (v := nI 1) dX11_feed_76 (by decide) ?_
  refine q_icmp_le (pc := 77) 88 dX11_feed_77 (by decide) (fun c_77 => absurd c_77 (by decide)) (fun c_77 => ?_)
  refine q_aload_n (pc := 80) dX11_feed_80 rfl rfl ?_
  refine q_getP (pc := 81) dX11_feed_81 fX11_34 (Cellar_sh hx) ⟨by decide, rfl⟩ (Cellar_lt hx) (Cellar_p_tape hx) ?_
  refine q_iload_n (pc := 84) dX11_feed_84 rfl rfl ?_
  refine q_callVF (pc := 85) dX11_feed_85 kX11_208 (c_X10_append (Cellar_s_tape hx) (q := (l + 1)) f1.1 (by omega)) (Tape_sh (Cellar_s_tape hx)) rfl (Tape_lt (Cellar_s_tape hx)) ⟨Nat.le_of_ble_eq_true rfl, Nat.le_of_ble_eq_true rfl⟩ rfl rfl (Nat.le_of_ble_eq_true rfl) ?_
  show bq_W _ _ _ _ _ 88 _ [] _ _ _ _ _ _
  refine q_nameI (fun J2 e2 => ?_)
  have f2 := (FS.ap (v := b) f1)
  rw [← e2] at f2
  refine q_iload_n (pc := 88) dX11_feed_88 rfl rfl ?_
  refine q_iconst (pc := 89) (v := nI 2) dX11_feed_89 (by decide) ?_
  refine q_icmp_le (pc := 90) 102 dX11_feed_90 (by decide) (fun c_90 => absurd c_90 (by decide)) (fun c_90 => ?_)
  refine q_aload_n (pc := 93) dX11_feed_93 rfl rfl ?_
  refine q_getP (pc := 94) dX11_feed_94 fX11_34 (Cellar_sh hx) ⟨by decide, rfl⟩ (Cellar_lt hx) (Cellar_p_tape hx) ?_
  refine q_iload (pc := 97) dX11_feed_97 rfl ?_
  refine q_callVF (pc := 99) dX11_feed_99 kX11_208 (c_X10_append (Cellar_s_tape hx) (q := (l + 2)) f2.1 (by omega)) (Tape_sh (Cellar_s_tape hx)) rfl (Tape_lt (Cellar_s_tape hx)) ⟨Nat.le_of_ble_eq_true rfl, Nat.le_of_ble_eq_true rfl⟩ rfl rfl (Nat.le_of_ble_eq_true rfl) ?_
  show bq_W _ _ _ _ _ 102 _ [] _ _ _ _ _ _
  refine q_nameI (fun J3 e3 => ?_)
  have f3 := (FS.ap (v := c) f2)
  rw [← e3] at f3
  refine q_iload_n (pc := 102) dX11_feed_102 rfl rfl ?_
  refine q_iconst (pc := 103) (v := nI 3) dX11_feed_103 (by decide) ?_
  refine q_icmp_le (pc := 104) 116 dX11_feed_104 (by decide) (fun c_104 => ?_) (fun c_104 => absurd (by decide) c_104)
  refine q_iload_n (pc := 116) dX11_feed_116 rfl rfl ?_
  refine q_iconst (pc := 117) (v := nI 4) dX11_feed_117 (by decide) ?_
  refine q_icmp_le (pc := 118) 130 dX11_feed_118 (by decide) (fun c_118 => ?_) (fun c_118 => absurd (by decide) c_118)
  refine q_aload_n (pc := 130) dX11_feed_130 rfl rfl ?_
  refine q_getP (pc := 131) dX11_feed_131 fX11_34 (Cellar_sh hx) ⟨by decide, rfl⟩ (Cellar_lt hx) (Cellar_p_tape hx) ?_
  refine q_getI (pc := 134) dX11_feed_134 fX11_207 (Tape_sh (Cellar_s_tape hx)) ⟨by decide, rfl⟩ (Tape_lt (Cellar_s_tape hx)) ?_
  exact q_iret (st := []) (pc := 137) dX11_feed_137 rfl ⟨by rw [p_feed_ok (by decide) (by decide) ha hb hc hd he hf, f3.1], rfl, rfl, rfl, rfl, by rw [p_feed_ok (by decide) (by decide) ha hb hc hd he hf]; exact ⟨f3.1, fun j hj => (f3.2.1 j hj).trans (fb_s (k := 2) (fb_s (k := 1) (fb_1))), f3.2.2⟩⟩
set_option maxHeartbeats 1680000 in
set_option maxRecDepth 20000 in
theorem m_feed_k4 {S : BqH} {n : Nat} {I : BqI} {L : BqL} {P : BqP} {x : Nat} (hx : oX S n P x) {l : Nat} (h0 : I (x + 108) 0 = nI l) (hl : l ≤ 60) {a b c d e : Int32} (ha : ¬ (a < nI 0 ∨ ¬ a ≤ nI 127)) (hb : ¬ (b < nI 0 ∨ ¬ b ≤ nI 127)) (hc : ¬ (c < nI 0 ∨ ¬ c ≤ nI 127)) (hd : ¬ (d < nI 0 ∨ ¬ d ≤ nI 127)) (he : ¬ (e < nI 0 ∨ ¬ e ≤ nI 127)) (hf : ¬ 60 < l + 4) : bq_Sp mX11_feed 3 54 0 0 [.ref x, .int (nI 4), .int a, .int b, .int c, .int d, .int e] S n I L P (qFd x I L S n P (p_feed l (I (x + 108 + 1)) (nI 4) a b c d e)) := by
  refine q_entry (vs := [some (.ref x), some (.int (nI 4)), some (.int a), some (.int b), some (.int c), some (.int d), some (.int e)]) (by decide +kernel) (by simp) (Nat.le_of_ble_eq_true rfl) rfl ?_
  have f0 : FS (x + 108) I I l (I (x + 108 + 1)) := ⟨h0, fun _ _ => rfl, fun _ _ _ => rfl⟩
  refine q_iload_n (pc := 0) dX11_feed_0 rfl rfl ?_
  refine q_iconst (pc := 1) (v := nI 1) dX11_feed_1 (by decide) ?_
  refine q_iconst (pc := 2) (v := nI 5) dX11_feed_2 (by decide) ?_
  refine q_callSF (pc := 3) dX11_feed_3 kX11_69 c_X11_outside ⟨Nat.le_of_ble_eq_true rfl, Nat.le_of_ble_eq_true rfl⟩ rfl rfl (Nat.le_of_ble_eq_true rfl) ?_
  show bq_W _ _ _ _ _ 6 _ [_] _ _ _ _ _ _
  refine q_if_ne (pc := 6) 47 dX11_feed_6 (by decide) (fun c_6 => (((bq_nin (by omega) (by omega) (by decide)) (bq_bn.mp c_6) : False)).elim) (fun c_6 => ?_)
  refine q_iload_n (pc := 9) dX11_feed_9 rfl rfl ?_
  refine q_callSF (pc := 10) dX11_feed_10 kX11_203 c_noByte ⟨Nat.le_of_ble_eq_true rfl, Nat.le_of_ble_eq_true rfl⟩ rfl rfl (Nat.le_of_ble_eq_true rfl) ?_
  show bq_W _ _ _ _ _ 13 _ [_] _ _ _ _ _ _
  refine q_if_ne (pc := 13) 47 dX11_feed_13 (by decide) (fun c_13 => ((ha (bq_bn.mp c_13))).elim) (fun c_13 => ?_)
  refine q_iload_n (pc := 16) dX11_feed_16 rfl rfl ?_
  refine q_callSF (pc := 17) dX11_feed_17 kX11_203 c_noByte ⟨Nat.le_of_ble_eq_true rfl, Nat.le_of_ble_eq_true rfl⟩ rfl rfl (Nat.le_of_ble_eq_true rfl) ?_
  show bq_W _ _ _ _ _ 20 _ [_] _ _ _ _ _ _
  refine q_if_ne (pc := 20) 47 dX11_feed_20 (by decide) (fun c_20 => ((hb (bq_bn.mp c_20))).elim) (fun c_20 => ?_)
  refine q_iload (pc := 23) dX11_feed_23 rfl ?_
  refine q_callSF (pc := 25) dX11_feed_25 kX11_203 c_noByte ⟨Nat.le_of_ble_eq_true rfl, Nat.le_of_ble_eq_true rfl⟩ rfl rfl (Nat.le_of_ble_eq_true rfl) ?_
  show bq_W _ _ _ _ _ 28 _ [_] _ _ _ _ _ _
  refine q_if_ne (pc := 28) 47 dX11_feed_28 (by decide) (fun c_28 => ((hc (bq_bn.mp c_28))).elim) (fun c_28 => ?_)
  refine q_iload (pc := 31) dX11_feed_31 rfl ?_
  refine q_callSF (pc := 33) dX11_feed_33 kX11_203 c_noByte ⟨Nat.le_of_ble_eq_true rfl, Nat.le_of_ble_eq_true rfl⟩ rfl rfl (Nat.le_of_ble_eq_true rfl) ?_
  show bq_W _ _ _ _ _ 36 _ [_] _ _ _ _ _ _
  refine q_if_ne (pc := 36) 47 dX11_feed_36 (by decide) (fun c_36 => ((hd (bq_bn.mp c_36))).elim) (fun c_36 => ?_)
  refine q_iload (pc := 39) dX11_feed_39 rfl ?_
  refine q_callSF (pc := 41) dX11_feed_41 kX11_203 c_noByte ⟨Nat.le_of_ble_eq_true rfl, Nat.le_of_ble_eq_true rfl⟩ rfl rfl (Nat.le_of_ble_eq_true rfl) ?_
  show bq_W _ _ _ _ _ 44 _ [_] _ _ _ _ _ _
  refine q_if_eq (pc := 44) 50 dX11_feed_44 (by decide) (fun c_44 => ?_) (fun c_44 => ((he (bq_bn.mp c_44))).elim)
  refine q_aload_n (pc := 50) dX11_feed_50 rfl rfl ?_
  refine q_getP (pc := 51) dX11_feed_51 fX11_34 (Cellar_sh hx) ⟨by decide, rfl⟩ (Cellar_lt hx) (Cellar_p_tape hx) ?_
  refine q_getI (pc := 54) dX11_feed_54 fX11_207 (Tape_sh (Cellar_s_tape hx)) ⟨by decide, rfl⟩ (Tape_lt (Cellar_s_tape hx)) ?_
  rw [h0]
  refine q_iload_n (pc := 57) dX11_feed_57 rfl rfl ?_
  refine q_iaddN (pc := 58) dX11_feed_58 ?_
  refine q_bipush (pc := 59) (v := nI 60) dX11_feed_59 (by decide) ?_
  refine q_icmp_le (pc := 61) 67 dX11_feed_61 (by decide) (fun c_61 => ?_) (fun c_61 => absurd (nI_le (show l + 4 ≤ 60 by omega) (by decide)) c_61)
  refine q_aload_n (pc := 67) dX11_feed_67 rfl rfl ?_
  refine q_getP (pc := 68) dX11_feed_68 fX11_34 (Cellar_sh hx) ⟨by decide, rfl⟩ (Cellar_lt hx) (Cellar_p_tape hx) ?_
  refine q_iload_n (pc := 71) dX11_feed_71 rfl rfl ?_
  refine q_callVF (pc := 72) dX11_feed_72 kX11_208 (c_X10_append (Cellar_s_tape hx) (q := l) f0.1 (by omega)) (Tape_sh (Cellar_s_tape hx)) rfl (Tape_lt (Cellar_s_tape hx)) ⟨Nat.le_of_ble_eq_true rfl, Nat.le_of_ble_eq_true rfl⟩ rfl rfl (Nat.le_of_ble_eq_true rfl) ?_
  show bq_W _ _ _ _ _ 75 _ [] _ _ _ _ _ _
  refine q_nameI (fun J1 e1 => ?_)
  have f1 := (FS.ap (v := a) f0)
  rw [← e1] at f1
  refine q_iload_n (pc := 75) dX11_feed_75 rfl rfl ?_
  refine q_iconst (pc := 76) (v := nI 1) dX11_feed_76 (by decide) ?_
  refine q_icmp_le (pc := 77) 88 dX11_feed_77 (by decide) (fun c_77 => absurd c_77 (by decide)) (fun c_77 => ?_)
  refine q_aload_n (pc := 80) dX11_feed_80 rfl rfl ?_
  refine q_getP (pc := 81) dX11_feed_81 fX11_34 (Cellar_sh hx) ⟨by decide, rfl⟩ (Cellar_lt hx) (Cellar_p_tape hx) ?_
  refine q_iload_n (pc := 84) dX11_feed_84 rfl rfl ?_
  refine q_callVF (pc := 85) dX11_feed_85 kX11_208 (c_X10_append (Cellar_s_tape hx) (q := (l + 1)) f1.1 (by omega)) (Tape_sh (Cellar_s_tape hx)) rfl (Tape_lt (Cellar_s_tape hx)) ⟨Nat.le_of_ble_eq_true rfl, Nat.le_of_ble_eq_true rfl⟩ rfl rfl (Nat.le_of_ble_eq_true rfl) ?_
  show bq_W _ _ _ _ _ 88 _ [] _ _ _ _ _ _
  refine q_nameI (fun J2 e2 => ?_)
  have f2 := (FS.ap (v := b) f1)
  rw [← e2] at f2
  refine q_iload_n (pc := 88) dX11_feed_88 rfl rfl ?_
  refine q_iconst (pc := 89) (v := nI 2) dX11_feed_89 (by decide) ?_
  refine q_icmp_le (pc := 90) 102 dX11_feed_90 (by decide) (fun c_90 => absurd c_90 (by decide)) (fun c_90 => ?_)
  refine q_aload_n (pc := 93) dX11_feed_93 rfl rfl ?_
  refine q_getP (pc := 94) dX11_feed_94 fX11_34 (Cellar_sh hx) ⟨by decide, rfl⟩ (Cellar_lt hx) (Cellar_p_tape hx) ?_
  refine q_iload (pc := 97) dX11_feed_97 rfl ?_
  refine q_callVF (pc := 99) dX11_feed_99 kX11_208 (c_X10_append (Cellar_s_tape hx) (q := (l + 2)) f2.1 (by omega)) (Tape_sh (Cellar_s_tape hx)) rfl (Tape_lt (Cellar_s_tape hx)) ⟨Nat.le_of_ble_eq_true rfl, Nat.le_of_ble_eq_true rfl⟩ rfl rfl (Nat.le_of_ble_eq_true rfl) ?_
  show bq_W _ _ _ _ _ 102 _ [] _ _ _ _ _ _
  refine q_nameI (fun J3 e3 => ?_)
  have f3 := (FS.ap (v := c) f2)
  rw [← e3] at f3
  refine q_iload_n (pc := 102) dX11_feed_102 rfl rfl ?_
  refine q_iconst (pc := 103) (v := nI 3) dX11_feed_103 (by decide) ?_
  refine q_icmp_le (pc := 104) 116 dX11_feed_104 (by decide) (fun c_104 => absurd c_104 (by decide)) (fun c_104 => ?_)
  refine q_aload_n (pc := 107) dX11_feed_107 rfl rfl ?_
  refine q_getP (pc := 108) dX11_feed_108 fX11_34 (Cellar_sh hx) ⟨by decide, rfl⟩ (Cellar_lt hx) (Cellar_p_tape hx) ?_
  refine q_iload (pc := 111) dX11_feed_111 rfl ?_
  refine q_callVF (pc := 113) dX11_feed_113 kX11_208 (c_X10_append (Cellar_s_tape hx) (q := (l + 3)) f3.1 (by omega)) (Tape_sh (Cellar_s_tape hx)) rfl (Tape_lt (Cellar_s_tape hx)) ⟨Nat.le_of_ble_eq_true rfl, Nat.le_of_ble_eq_true rfl⟩ rfl rfl (Nat.le_of_ble_eq_true rfl) ?_
  show bq_W _ _ _ _ _ 116 _ [] _ _ _ _ _ _
  refine q_nameI (fun J4 e4 => ?_)
  have f4 := (FS.ap (v := d) f3)
  rw [← e4] at f4
  refine q_iload_n (pc := 116) dX11_feed_116 rfl rfl ?_
  refine q_iconst (pc := 117) (v := nI 4) dX11_feed_117 (by decide) ?_
  refine q_icmp_le (pc := 118) 130 dX11_feed_118 (by decide) (fun c_118 => ?_) (fun c_118 => absurd (by decide) c_118)
  refine q_aload_n (pc := 130) dX11_feed_130 rfl rfl ?_
  refine q_getP (pc := 131) dX11_feed_131 fX11_34 (Cellar_sh hx) ⟨by decide, rfl⟩ (Cellar_lt hx) (Cellar_p_tape hx) ?_
  refine q_getI (pc := 134) dX11_feed_134 fX11_207 (Tape_sh (Cellar_s_tape hx)) ⟨by decide, rfl⟩ (Tape_lt (Cellar_s_tape hx)) ?_
  exact q_iret (st := []) (pc := 137) dX11_feed_137 rfl ⟨by rw [p_feed_ok (by decide) (by decide) ha hb hc hd he hf, f4.1], rfl, rfl, rfl, rfl, by rw [p_feed_ok (by decide) (by decide) ha hb hc hd he hf]; exact ⟨f4.1, fun j hj => (f4.2.1 j hj).trans (fb_s (k := 3) (fb_s (k := 2) (fb_s (k := 1) (fb_1)))), f4.2.2⟩⟩
set_option maxHeartbeats 1840000 in
set_option maxRecDepth 20000 in
theorem m_feed_k5 {S : BqH} {n : Nat} {I : BqI} {L : BqL} {P : BqP} {x : Nat} (hx : oX S n P x) {l : Nat} (h0 : I (x + 108) 0 = nI l) (hl : l ≤ 60) {a b c d e : Int32} (ha : ¬ (a < nI 0 ∨ ¬ a ≤ nI 127)) (hb : ¬ (b < nI 0 ∨ ¬ b ≤ nI 127)) (hc : ¬ (c < nI 0 ∨ ¬ c ≤ nI 127)) (hd : ¬ (d < nI 0 ∨ ¬ d ≤ nI 127)) (he : ¬ (e < nI 0 ∨ ¬ e ≤ nI 127)) (hf : ¬ 60 < l + 5) : bq_Sp mX11_feed 3 54 0 0 [.ref x, .int (nI 5), .int a, .int b, .int c, .int d, .int e] S n I L P (qFd x I L S n P (p_feed l (I (x + 108 + 1)) (nI 5) a b c d e)) := by
  refine q_entry (vs := [some (.ref x), some (.int (nI 5)), some (.int a), some (.int b), some (.int c), some (.int d), some (.int e)]) (by decide +kernel) (by simp) (Nat.le_of_ble_eq_true rfl) rfl ?_
  have f0 : FS (x + 108) I I l (I (x + 108 + 1)) := ⟨h0, fun _ _ => rfl, fun _ _ _ => rfl⟩
  refine q_iload_n (pc := 0) dX11_feed_0 rfl rfl ?_
  refine q_iconst (pc := 1) (v := nI 1) dX11_feed_1 (by decide) ?_
  refine q_iconst (pc := 2) (v := nI 5) dX11_feed_2 (by decide) ?_
  refine q_callSF (pc := 3) dX11_feed_3 kX11_69 c_X11_outside ⟨Nat.le_of_ble_eq_true rfl, Nat.le_of_ble_eq_true rfl⟩ rfl rfl (Nat.le_of_ble_eq_true rfl) ?_
  show bq_W _ _ _ _ _ 6 _ [_] _ _ _ _ _ _
  refine q_if_ne (pc := 6) 47 dX11_feed_6 (by decide) (fun c_6 => (((bq_nin (by omega) (by omega) (by decide)) (bq_bn.mp c_6) : False)).elim) (fun c_6 => ?_)
  refine q_iload_n (pc := 9) dX11_feed_9 rfl rfl ?_
  refine q_callSF (pc := 10) dX11_feed_10 kX11_203 c_noByte ⟨Nat.le_of_ble_eq_true rfl, Nat.le_of_ble_eq_true rfl⟩ rfl rfl (Nat.le_of_ble_eq_true rfl) ?_
  show bq_W _ _ _ _ _ 13 _ [_] _ _ _ _ _ _
  refine q_if_ne (pc := 13) 47 dX11_feed_13 (by decide) (fun c_13 => ((ha (bq_bn.mp c_13))).elim) (fun c_13 => ?_)
  refine q_iload_n (pc := 16) dX11_feed_16 rfl rfl ?_
  refine q_callSF (pc := 17) dX11_feed_17 kX11_203 c_noByte ⟨Nat.le_of_ble_eq_true rfl, Nat.le_of_ble_eq_true rfl⟩ rfl rfl (Nat.le_of_ble_eq_true rfl) ?_
  show bq_W _ _ _ _ _ 20 _ [_] _ _ _ _ _ _
  refine q_if_ne (pc := 20) 47 dX11_feed_20 (by decide) (fun c_20 => ((hb (bq_bn.mp c_20))).elim) (fun c_20 => ?_)
  refine q_iload (pc := 23) dX11_feed_23 rfl ?_
  refine q_callSF (pc := 25) dX11_feed_25 kX11_203 c_noByte ⟨Nat.le_of_ble_eq_true rfl, Nat.le_of_ble_eq_true rfl⟩ rfl rfl (Nat.le_of_ble_eq_true rfl) ?_
  show bq_W _ _ _ _ _ 28 _ [_] _ _ _ _ _ _
  refine q_if_ne (pc := 28) 47 dX11_feed_28 (by decide) (fun c_28 => ((hc (bq_bn.mp c_28))).elim) (fun c_28 => ?_)
  refine q_iload (pc := 31) dX11_feed_31 rfl ?_
  refine q_callSF (pc := 33) dX11_feed_33 kX11_203 c_noByte ⟨Nat.le_of_ble_eq_true rfl, Nat.le_of_ble_eq_true rfl⟩ rfl rfl (Nat.le_of_ble_eq_true rfl) ?_
  show bq_W _ _ _ _ _ 36 _ [_] _ _ _ _ _ _
  refine q_if_ne (pc := 36) 47 dX11_feed_36 (by decide) (fun c_36 => ((hd (bq_bn.mp c_36))).elim) (fun c_36 => ?_)
  refine q_iload (pc := 39) dX11_feed_39 rfl ?_
  refine q_callSF (pc := 41) dX11_feed_41 kX11_203 c_noByte ⟨Nat.le_of_ble_eq_true rfl, Nat.le_of_ble_eq_true rfl⟩ rfl rfl (Nat.le_of_ble_eq_true rfl) ?_
  show bq_W _ _ _ _ _ 44 _ [_] _ _ _ _ _ _
  refine q_if_eq (pc := 44) 50 dX11_feed_44 (by decide) (fun c_44 => ?_) (fun c_44 => ((he (bq_bn.mp c_44))).elim)
  refine q_aload_n (pc := 50) dX11_feed_50 rfl rfl ?_
  refine q_getP (pc := 51) dX11_feed_51 fX11_34 (Cellar_sh hx) ⟨by decide, rfl⟩ (Cellar_lt hx) (Cellar_p_tape hx) ?_
  refine q_getI (pc := 54) dX11_feed_54 fX11_207 (Tape_sh (Cellar_s_tape hx)) ⟨by decide, rfl⟩ (Tape_lt (Cellar_s_tape hx)) ?_
  rw [h0]
  refine q_iload_n (pc := 57) dX11_feed_57 rfl rfl ?_
  refine q_iaddN (pc := 58) dX11_feed_58 ?_
  refine q_bipush (pc := 59) (v := nI 60) dX11_feed_59 (by decide) ?_
  refine q_icmp_le (pc := 61) 67 dX11_feed_61 (by decide) (fun c_61 => ?_) (fun c_61 => absurd (nI_le (show l + 5 ≤ 60 by omega) (by decide)) c_61)
  refine q_aload_n (pc := 67) dX11_feed_67 rfl rfl ?_
  refine q_getP (pc := 68) dX11_feed_68 fX11_34 (Cellar_sh hx) ⟨by decide, rfl⟩ (Cellar_lt hx) (Cellar_p_tape hx) ?_
  refine q_iload_n (pc := 71) dX11_feed_71 rfl rfl ?_
  refine q_callVF (pc := 72) dX11_feed_72 kX11_208 (c_X10_append (Cellar_s_tape hx) (q := l) f0.1 (by omega)) (Tape_sh (Cellar_s_tape hx)) rfl (Tape_lt (Cellar_s_tape hx)) ⟨Nat.le_of_ble_eq_true rfl, Nat.le_of_ble_eq_true rfl⟩ rfl rfl (Nat.le_of_ble_eq_true rfl) ?_
  show bq_W _ _ _ _ _ 75 _ [] _ _ _ _ _ _
  refine q_nameI (fun J1 e1 => ?_)
  have f1 := (FS.ap (v := a) f0)
  rw [← e1] at f1
  refine q_iload_n (pc := 75) dX11_feed_75 rfl rfl ?_
  refine q_iconst (pc := 76) (v := nI 1) dX11_feed_76 (by decide) ?_
  refine q_icmp_le (pc := 77) 88 dX11_feed_77 (by decide) (fun c_77 => absurd c_77 (by decide)) (fun c_77 => ?_)
  refine q_aload_n (pc := 80) dX11_feed_80 rfl rfl ?_
  refine q_getP (pc := 81) dX11_feed_81 fX11_34 (Cellar_sh hx) ⟨by decide, rfl⟩ (Cellar_lt hx) (Cellar_p_tape hx) ?_
  refine q_iload_n (pc := 84) dX11_feed_84 rfl rfl ?_
  refine q_callVF (pc := 85) dX11_feed_85 kX11_208 (c_X10_append (Cellar_s_tape hx) (q := (l + 1)) f1.1 (by omega)) (Tape_sh (Cellar_s_tape hx)) rfl (Tape_lt (Cellar_s_tape hx)) ⟨Nat.le_of_ble_eq_true rfl, Nat.le_of_ble_eq_true rfl⟩ rfl rfl (Nat.le_of_ble_eq_true rfl) ?_
  show bq_W _ _ _ _ _ 88 _ [] _ _ _ _ _ _
  refine q_nameI (fun J2 e2 => ?_)
  have f2 := (FS.ap (v := b) f1)
  rw [← e2] at f2
  refine q_iload_n (pc := 88) dX11_feed_88 rfl rfl ?_
  refine q_iconst (pc := 89) (v := nI 2) dX11_feed_89 (by decide) ?_
  refine q_icmp_le (pc := 90) 102 dX11_feed_90 (by decide) (fun c_90 => absurd c_90 (by decide)) (fun c_90 => ?_)
  refine q_aload_n (pc := 93) dX11_feed_93 rfl rfl ?_
  refine q_getP (pc := 94) dX11_feed_94 fX11_34 (Cellar_sh hx) ⟨by decide, rfl⟩ (Cellar_lt hx) (Cellar_p_tape hx) ?_
  refine q_iload (pc := 97) dX11_feed_97 rfl ?_
  refine q_callVF (pc := 99) dX11_feed_99 kX11_208 (c_X10_append (Cellar_s_tape hx) (q := (l + 2)) f2.1 (by omega)) (Tape_sh (Cellar_s_tape hx)) rfl (Tape_lt (Cellar_s_tape hx)) ⟨Nat.le_of_ble_eq_true rfl, Nat.le_of_ble_eq_true rfl⟩ rfl rfl (Nat.le_of_ble_eq_true rfl) ?_
  show bq_W _ _ _ _ _ 102 _ [] _ _ _ _ _ _
  refine q_nameI (fun J3 e3 => ?_)
  have f3 := (FS.ap (v := c) f2)
  rw [← e3] at f3
  refine q_iload_n (pc := 102) dX11_feed_102 rfl rfl ?_
  refine q_iconst (pc := 103) (v := nI 3) dX11_feed_103 (by decide) ?_
  refine q_icmp_le (pc := 104) 116 dX11_feed_104 (by decide) (fun c_104 => absurd c_104 (by decide)) (fun c_104 => ?_)
  refine q_aload_n (pc := 107) dX11_feed_107 rfl rfl ?_
  refine q_getP (pc := 108) dX11_feed_108 fX11_34 (Cellar_sh hx) ⟨by decide, rfl⟩ (Cellar_lt hx) (Cellar_p_tape hx) ?_
  refine q_iload (pc := 111) dX11_feed_111 rfl ?_
  refine q_callVF (pc := 113) dX11_feed_113 kX11_208 (c_X10_append (Cellar_s_tape hx) (q := (l + 3)) f3.1 (by omega)) (Tape_sh (Cellar_s_tape hx)) rfl (Tape_lt (Cellar_s_tape hx)) ⟨Nat.le_of_ble_eq_true rfl, Nat.le_of_ble_eq_true rfl⟩ rfl rfl (Nat.le_of_ble_eq_true rfl) ?_
  show bq_W _ _ _ _ _ 116 _ [] _ _ _ _ _ _
  refine q_nameI (fun J4 e4 => ?_)
  have f4 := (FS.ap (v := d) f3)
  rw [← e4] at f4
  refine q_iload_n (pc := 116) dX11_feed_116 rfl rfl ?_
  refine q_iconst (pc := 117) (v := nI 4) dX11_feed_117 (by decide) ?_
  refine q_icmp_le (pc := 118) 130 dX11_feed_118 (by decide) (fun c_118 => absurd c_118 (by decide)) (fun c_118 => ?_)
  refine q_aload_n (pc := 121) dX11_feed_121 rfl rfl ?_
  refine q_getP (pc := 122) dX11_feed_122 fX11_34 (Cellar_sh hx) ⟨by decide, rfl⟩ (Cellar_lt hx) (Cellar_p_tape hx) ?_
  refine q_iload (pc := 125) dX11_feed_125 rfl ?_
  refine q_callVF (pc := 127) dX11_feed_127 kX11_208 (c_X10_append (Cellar_s_tape hx) (q := (l + 4)) f4.1 (by omega)) (Tape_sh (Cellar_s_tape hx)) rfl (Tape_lt (Cellar_s_tape hx)) ⟨Nat.le_of_ble_eq_true rfl, Nat.le_of_ble_eq_true rfl⟩ rfl rfl (Nat.le_of_ble_eq_true rfl) ?_
  show bq_W _ _ _ _ _ 130 _ [] _ _ _ _ _ _
  refine q_nameI (fun J5 e5 => ?_)
  have f5 := (FS.ap (v := e) f4)
  rw [← e5] at f5
  refine q_aload_n (pc := 130) dX11_feed_130 rfl rfl ?_
  refine q_getP (pc := 131) dX11_feed_131 fX11_34 (Cellar_sh hx) ⟨by decide, rfl⟩ (Cellar_lt hx) (Cellar_p_tape hx) ?_
  refine q_getI (pc := 134) dX11_feed_134 fX11_207 (Tape_sh (Cellar_s_tape hx)) ⟨by decide, rfl⟩ (Tape_lt (Cellar_s_tape hx)) ?_
  exact q_iret (st := []) (pc := 137) dX11_feed_137 rfl ⟨by rw [p_feed_ok (by decide) (by decide) ha hb hc hd he hf, f5.1], rfl, rfl, rfl, rfl, by rw [p_feed_ok (by decide) (by decide) ha hb hc hd he hf]; exact ⟨f5.1, fun j hj => (f5.2.1 j hj).trans (fb_s (k := 4) (fb_s (k := 3) (fb_s (k := 2) (fb_s (k := 1) (fb_1))))), f5.2.2⟩⟩
theorem m_feed {S : BqH} {n : Nat} {I : BqI} {L : BqL} {P : BqP} {x : Nat} (hx : oX S n P x) {l : Nat} (h0 : I (x + 108) 0 = nI l) (hl : l ≤ 60) {k : Int32} {a b c d e : Int32} : bq_Sp mX11_feed 3 54 0 0 [.ref x, .int k, .int a, .int b, .int c, .int d, .int e] S n I L P (qFd x I L S n P (p_feed l (I (x + 108 + 1)) k a b c d e)) := by
  by_cases hb : (k < nI 1 ∨ ¬ k ≤ nI 5) ∨ (a < nI 0 ∨ ¬ a ≤ nI 127) ∨ (b < nI 0 ∨ ¬ b ≤ nI 127) ∨ (c < nI 0 ∨ ¬ c ≤ nI 127) ∨ (d < nI 0 ∨ ¬ d ≤ nI 127) ∨ (e < nI 0 ∨ ¬ e ≤ nI 127)
  · exact m_feed_a hx h0 hl hb
  obtain ⟨q, q1, q5, rfl⟩ := (bq_in19 k 1 5 (by decide) (by decide)).resolve_left (fun z => hb (Or.inl z))
  have ha : ¬ (a < nI 0 ∨ ¬ a ≤ nI 127) := fun z => hb (Or.inr (Or.inl z))
  have hb' : ¬ (b < nI 0 ∨ ¬ b ≤ nI 127) := fun z => hb (Or.inr (Or.inr (Or.inl z)))
  have hc : ¬ (c < nI 0 ∨ ¬ c ≤ nI 127) := fun z => hb (Or.inr (Or.inr (Or.inr (Or.inl z))))
  have hd : ¬ (d < nI 0 ∨ ¬ d ≤ nI 127) := fun z => hb (Or.inr (Or.inr (Or.inr (Or.inr (Or.inl z)))))
  have he : ¬ (e < nI 0 ∨ ¬ e ≤ nI 127) := fun z => hb (Or.inr (Or.inr (Or.inr (Or.inr (Or.inr z)))))
  by_cases hf : 60 < l + q
  · exact m_feed_b hx h0 hl q1 q5 ha hb' hc hd he hf
  match q, q1, q5, hf with
  | 1, _, _, hf => exact m_feed_k1 hx h0 hl ha hb' hc hd he hf
  | 2, _, _, hf => exact m_feed_k2 hx h0 hl ha hb' hc hd he hf
  | 3, _, _, hf => exact m_feed_k3 hx h0 hl ha hb' hc hd he hf
  | 4, _, _, hf => exact m_feed_k4 hx h0 hl ha hb' hc hd he hf
  | 5, _, _, hf => exact m_feed_k5 hx h0 hl ha hb' hc hd he hf
  | q + 6, _, q5, _ => exact absurd q5 (by omega)
set_option maxHeartbeats 2880000 in
set_option maxRecDepth 20000 in
theorem m_run {S : BqH} {n : Nat} {I : BqI} {L : BqL} {P : BqP} {x : Nat} {g : BqG} {h : Nat → BqG} {ch en : Nat} (hX : CXS x S n I L P g h ch) (hK : GK g en) (hen : en + 60 < 200000) {l : Nat} (h0 : I (x + 108) 0 = nI l) (hl60 : l ≤ 60) : bq_Sp mX11_run 7 144 0 0 [.ref x] S n I L P (qRun x I L S n P (p_run g h ch (I x 10) (pR (I (x + 108 + 1)) l 21 0 0 (fun _ => (nI 0, nI 0, nI 0, nI 0))))) := by
  refine q_entry (vs := [some (.ref x), none, none, none]) (by decide +kernel) (by simp) (Nat.le_of_ble_eq_true rfl) rfl ?_
  have hx := hX.1
  have R := rcs_R h0 hl60
  have hn := pR_n (B := I (x + 108 + 1)) (l := l) 21 0 0 (fun _ => (nI 0, nI 0, nI 0, nI 0)) (Nat.le_refl _) (Nat.zero_le _)
  have hp : (pR (I (x + 108 + 1)) l 21 0 0 (fun _ => (nI 0, nI 0, nI 0, nI 0))).2.1 ≤ 60 ∨ True := Or.inr trivial
  generalize (pR (I (x + 108 + 1)) l 21 0 0 (fun _ => (nI 0, nI 0, nI 0, nI 0))) = r at R hn ⊢
  refine q_aload_n (pc := 0) dX11_run_0 rfl rfl ?_
  refine q_getP (pc := 1) dX11_run_1 fX11_34 (Cellar_sh hx) ⟨by decide, rfl⟩ (Cellar_lt hx) (Cellar_p_tape hx) ?_
  refine q_callVF (pc := 4) dX11_run_4 kX11_212 (c_X10_readCommands (Cellar_s_tape hx)) (Tape_sh (Cellar_s_tape hx)) rfl (Tape_lt (Cellar_s_tape hx)) ⟨Nat.le_of_ble_eq_true rfl, Nat.le_of_ble_eq_true rfl⟩ rfl rfl (Nat.le_of_ble_eq_true rfl) ?_
  show bq_W _ _ _ _ _ 7 _ [_] _ _ _ _ _ _
  obtain ⟨R1, R2, R3, R4⟩ := R
  rw [R1]
  generalize (rcs (x + 108) 20 0 (rcs_0 I (x + 108))).2 = J at R2 R3 R4 ⊢
  refine q_if_ne (pc := 7) 14 dX11_run_7 (by decide) (fun c_7 => ?_) (fun c_7 => ?_)
  · have hr : r.1 = true := Decidable.byContradiction (fun z => c_7 (by rw [if_neg z]; rfl))
    refine q_iconst (pc := 14) (v := nI 0) dX11_run_14 (by decide) ?_
    refine q_istore_n (pc := 15) dX11_run_15 rfl (Nat.le_of_ble_eq_true rfl) rfl ?_
    show bq_W _ _ _ _ _ 16 [_, _, _, _] _ _ _ _ _ _ _
    refine q_aload_n (pc := 16) dX11_run_16 rfl rfl ?_
    refine q_getP (pc := 17) dX11_run_17 fX11_34 (Cellar_sh hx) ⟨by decide, rfl⟩ (Cellar_lt hx) (Cellar_p_tape hx) ?_
    refine q_iconst (pc := 20) (v := nI 0) dX11_run_20 (by decide) ?_
    refine q_putI (pc := 21) dX11_run_21 (pX11_207 _) (Tape_sh (Cellar_s_tape hx)) ⟨by decide, rfl⟩ (Tape_lt (Cellar_s_tape hx)) ?_
    refine q_nameI (fun J1 e1 => ?_)
    have hT : TpE x I J1 := by
      rw [e1]
      exact ⟨bq_u_at _ _ _ _, (bq_u_ne (by omega)).trans (R4 _ (by omega) (by omega)), fun a ha => (bq_u_ne (by omega)).trans (R4 a (by omega) (by omega))⟩
    have j2 : J1 (x + 108) 2 = nI r.2.1 := by rw [e1, bq_u_no (by omega)]; exact R2
    have hX1 : CXS x S n J1 L P g h ch := hX.tp hT.2.2
    have hy1 : J1 x 10 = I x 10 := congrFun (hT.2.2 x (by omega)) 10
    obtain ⟨hx, hC, hc, hl, π, hP, hh⟩ := hX1
    have hC0 := put_1 (π := π) (ch := ch) hC
    have hM0 := mid_mk hx hP hC hc hl hh hC0 Frm.rf FrmL.rf
    have hn3 := hn hr
    have hcm : J1 (x + 108) 4 = nI r.2.2.1 := by rw [e1, bq_u_no (by omega)]; exact (R3 hr).1
    have hCm : ∀ j, j < r.2.2.1 → Cm J1 (x + 108 + 3 + j) (r.2.2.2 j) := fun j hj => ((R3 hr).2 j hj).fr (by rw [e1]; exact bq_u_ne (by omega))
    refine q_iload_n (pc := 24) dX11_run_24 rfl rfl ?_
    refine q_if_eq (pc := 25) 39 dX11_run_25 (by decide) (fun c_25 => ?_) (fun c_25 => absurd (by decide) c_25)
    refine q_aload_n (pc := 39) dX11_run_39 rfl rfl ?_
    refine q_callVF (pc := 40) dX11_run_40 kX11_89 (c_putBy hx hP hc (by omega)) (Cellar_sh hx) rfl (Cellar_lt hx) ⟨Nat.le_of_ble_eq_true rfl, Nat.le_of_ble_eq_true rfl⟩ rfl rfl (Nat.le_of_ble_eq_true rfl) ?_
    show bq_W _ _ _ _ _ 43 _ [] _ _ _ _ _ _
    refine q_iconst (pc := 43) (v := nI 0) dX11_run_43 (by decide) ?_
    refine q_istore_n (pc := 44) dX11_run_44 rfl (Nat.le_of_ble_eq_true rfl) rfl ?_
    show bq_W _ _ _ _ _ 45 [_, _, _, _] _ _ _ _ _ _ _
    have lp : ∀ i, i ≤ r.2.2.1 → ∀ (J2 : BqI) (K2 : BqL) (v3 : Option Value), Mid x S n J1 J2 L K2 P g (ds r.2.2.2 g i) h ch π (J1 x 10) → fz r.2.2.2 g i = none → bq_W mX11_run 7 144 0 0 45 [some (.ref x), some (.int (nI 0)), some (.int (nI i)), v3] [] S n J2 K2 P (qRun x I L S n P (p_run g h ch (I x 10) r)) := by
      refine bq_down (A := fun i => ∀ (J2 : BqI) (K2 : BqL) (v3 : Option Value), Mid x S n J1 J2 L K2 P g (ds r.2.2.2 g i) h ch π (J1 x 10) → fz r.2.2.2 g i = none → bq_W mX11_run 7 144 0 0 45 [some (.ref x), some (.int (nI 0)), some (.int (nI i)), v3] [] S n J2 K2 P (qRun x I L S n P (p_run g h ch (I x 10) r))) r.2.2.1 ?_ ?_
      · intro J2 K2 v3 hM hz
        have hc2 : J2 (x + 108) 4 = nI r.2.2.1 := by rw [hM.2.2.2.2.2.2.2.2.1.1 (x + 108) (by omega)]; exact hcm
        refine q_iload_n (pc := 45) dX11_run_45 rfl rfl ?_
        refine q_aload_n (pc := 46) dX11_run_46 rfl rfl ?_
        refine q_getP (pc := 47) dX11_run_47 fX11_34 (Cellar_sh hx) ⟨by decide, rfl⟩ (Cellar_lt hx) (Cellar_p_tape hx) ?_
        refine q_getI (pc := 50) dX11_run_50 fX11_219 (Tape_sh (Cellar_s_tape hx)) ⟨by decide, rfl⟩ (Tape_lt (Cellar_s_tape hx)) ?_
        rw [hc2]
        refine q_icmp_ge (pc := 53) 108 dX11_run_53 (by decide) (fun c_53 => ?_) (fun c_53 => absurd (nI_le (Nat.le_refl _) (by omega)) c_53)
        refine q_aload_n (pc := 108) dX11_run_108 rfl rfl ?_
        refine q_aload_n (pc := 109) dX11_run_109 rfl rfl ?_
        refine q_getP (pc := 110) dX11_run_110 fX11_34 (Cellar_sh hx) ⟨by decide, rfl⟩ (Cellar_lt hx) (Cellar_p_tape hx) ?_
        refine q_getI (pc := 113) dX11_run_113 fX11_219 (Tape_sh (Cellar_s_tape hx)) ⟨by decide, rfl⟩ (Tape_lt (Cellar_s_tape hx)) ?_
        rw [hc2]
        refine q_callV (pc := 116) dX11_run_116 kX11_95 (c_changed hM) (Cellar_sh hx) rfl (Cellar_lt hx) ⟨Nat.le_of_ble_eq_true rfl, Nat.le_of_ble_eq_true rfl⟩ rfl rfl (Nat.le_of_ble_eq_true rfl) ?_
        rintro _ S9 n9 I9 L9 P9 ⟨rfl, eS9, en9, Q1, Q2, Q3, Q4, Q5⟩
        subst S9 n9
        rw [hy1] at Q1 Q2
        rw [hy1]
        show bq_W _ _ _ _ _ 119 _ [_] _ _ _ _ _ _
        exact q_iret (st := []) (pc := 119) dX11_run_119 rfl (qRun.mk hT (congrArg (fun w => w.1) (p_run_o hr hz)).symm (by rw [p_run_o hr hz]; exact Q1) (by rw [p_run_o hr hz]; exact Q2) Q3 Q4 Q5)
      · intro i hi ih J2 K2 v3 hM hz
        have i20 : i < 20 := by omega
        have hc2 : J2 (x + 108) 4 = nI r.2.2.1 := by rw [hM.2.2.2.2.2.2.2.2.1.1 (x + 108) (by omega)]; exact hcm
        have hGi : GI (ds r.2.2.2 g i) (en + 3 * i) := (ds_gk hK i (by omega)).gi
        have hci : w_do (ds r.2.2.2 g i) (J2 (x + 108 + 3 + i) 0) (J2 (x + 108 + 3 + i) 1) (J2 (x + 108 + 3 + i) 2) (J2 (x + 108 + 3 + i) 3) = wk (ds r.2.2.2 g i) (r.2.2.2 i) := ((hCm i hi).fr (hM.2.2.2.2.2.2.2.2.1.1 _ (by omega))) _
        refine q_iload_n (pc := 45) dX11_run_45 rfl rfl ?_
        refine q_aload_n (pc := 46) dX11_run_46 rfl rfl ?_
        refine q_getP (pc := 47) dX11_run_47 fX11_34 (Cellar_sh hx) ⟨by decide, rfl⟩ (Cellar_lt hx) (Cellar_p_tape hx) ?_
        refine q_getI (pc := 50) dX11_run_50 fX11_219 (Tape_sh (Cellar_s_tape hx)) ⟨by decide, rfl⟩ (Tape_lt (Cellar_s_tape hx)) ?_
        rw [hc2]
        refine q_icmp_ge (pc := 53) 108 dX11_run_53 (by decide) (fun c_53 => absurd c_53 (nI_ge hi (by omega))) (fun c_53 => ?_)
        refine q_aload_n (pc := 56) dX11_run_56 rfl rfl ?_
        refine q_aload_n (pc := 57) dX11_run_57 rfl rfl ?_
        refine q_getP (pc := 58) dX11_run_58 fX11_34 (Cellar_sh hx) ⟨by decide, rfl⟩ (Cellar_lt hx) (Cellar_p_tape hx) ?_
        refine q_getP (pc := 61) dX11_run_61 fX11_222 (Tape_sh (Cellar_s_tape hx)) ⟨by decide, rfl⟩ (Tape_lt (Cellar_s_tape hx)) (Tape_p_commands (Cellar_s_tape hx)) ?_
        refine q_iload_n (pc := 64) dX11_run_64 rfl rfl ?_
        refine q_aald (pc := 65) dX11_run_65 (Tapecommands_sh (Cellar_s_tape hx)) (by decide) (Tapecommands_lt (Cellar_s_tape hx)) rfl i20 (Tapecommands_p_el (Cellar_s_tape hx) i20) ?_
        refine q_callV (pc := 66) dX11_run_66 kX11_226 (c_perform hx hM.2.2.1 hGi (by omega) ((Cellar_s_tape hx).2.2.2.2.2.2 i i20).2) (Cellar_sh hx) rfl (Cellar_lt hx) ⟨Nat.le_of_ble_eq_true rfl, Nat.le_of_ble_eq_true rfl⟩ rfl rfl (Nat.le_of_ble_eq_true rfl) ?_
        rintro _ S1 n1 J3 K3 P1 ⟨rfl, eS1, en1, eP1, C1, F1, F2⟩
        subst S1 n1 P1
        rw [hci] at C1
        rw [hci]
        have hM3 := hM.st C1 F1 F2
        show bq_W _ _ _ _ _ 69 _ [_] _ _ _ _ _ _
        refine q_istore_n (pc := 69) dX11_run_69 rfl (Nat.le_of_ble_eq_true rfl) rfl ?_
        show bq_W _ _ _ _ _ 70 [_, _, _, _] _ _ _ _ _ _ _
        refine q_iload_n (pc := 70) dX11_run_70 rfl rfl ?_
        refine q_if_ge (pc := 71) 102 dX11_run_71 (by decide) (fun c_71 => ?_) (fun c_71 => ?_)
        · have hw : ¬ (wk (ds r.2.2.2 g i) (r.2.2.2 i)).1 < 0 := Int32.not_lt.mpr c_71
          refine q_iinc (pc := 102) (v := nI (i + 1)) dX11_run_102 rfl (bq_inc _) (Nat.le_of_ble_eq_true rfl) rfl ?_
          show bq_W _ _ _ _ _ 105 [_, _, _, _] _ _ _ _ _ _ _
          refine q_goto (pc := 105) 45 dX11_run_105 (by decide) ?_
          exact ih J3 K3 _ hM3 (fz_no hz hw)
        · have hw : (wk (ds r.2.2.2 g i) (r.2.2.2 i)).1 < 0 := Int32.not_le.mp c_71
          have hf := fz_hit hi hz hw
          refine q_aload_n (pc := 74) dX11_run_74 rfl rfl ?_
          refine q_getP (pc := 75) dX11_run_75 fX11_10 (Cellar_sh hx) ⟨by decide, rfl⟩ (Cellar_lt hx) (Cellar_p_state hx) ?_
          refine q_aload_n (pc := 78) dX11_run_78 rfl rfl ?_
          refine q_getP (pc := 79) dX11_run_79 fX11_16 (Cellar_sh hx) ⟨by decide, rfl⟩ (Cellar_lt hx) (Cellar_p_past hx) ?_
          refine q_aload_n (pc := 82) dX11_run_82 rfl rfl ?_
          refine q_getI (pc := 83) dX11_run_83 fX11_20 (Cellar_sh hx) ⟨by decide, rfl⟩ (Cellar_lt hx) ?_
          rw [hM3.2.2.2.1]
          refine q_aald (pc := 86) dX11_run_86 (Cellarpast_sh hx) (by decide) (Cellarpast_lt hx) rfl (show ch < 7 by omega) (hP.1 _ (by omega)).1 ?_
          refine q_callVF (pc := 87) dX11_run_87 kX11_230 (c_X8_copyFrom (Cellar_s_state hx) (hP.2.2 _ (hP.1 _ (show ch < 7 by omega)).2)) (State_sh (Cellar_s_state hx)) rfl (State_lt (Cellar_s_state hx)) ⟨Nat.le_of_ble_eq_true rfl, Nat.le_of_ble_eq_true rfl⟩ rfl rfl (Nat.le_of_ble_eq_true rfl) ?_
          show bq_W _ _ _ _ _ 90 _ [] _ _ _ _ _ _
          refine q_aload_n (pc := 90) dX11_run_90 rfl rfl ?_
          refine q_iload_n (pc := 91) dX11_run_91 rfl rfl ?_
          refine q_ineg (pc := 92) dX11_run_92 ?_
          refine q_putI (pc := 93) dX11_run_93 (pX11_62 _) (Cellar_sh hx) ⟨by decide, rfl⟩ (Cellar_lt hx) ?_
          refine q_sipush (pc := 96) (v := (-200)) dX11_run_96 (by decide) ?_
          refine q_iload_n (pc := 99) dX11_run_99 rfl rfl ?_
          have hB := hM3.bk (v := -(wk (ds r.2.2.2 g i) (r.2.2.2 i)).1)
          refine q_isub (pc := 100) dX11_run_100 ?_
          exact q_iret (st := []) (pc := 101) dX11_run_101 rfl (qRun.mk hT (congrArg (fun w => w.1) (p_run_f hr hf)).symm (by rw [p_run_f hr hf]; exact hB.1) (by rw [p_run_f hr hf]; exact bq_u_at _ _ _ _) hB.2.1 hB.2.2 (fun _ _ => rfl))
    exact lp 0 (Nat.zero_le _) _ _ _ hM0 rfl
  · have hr : ¬ r.1 = true := fun z => by rw [if_pos z] at c_7; exact absurd c_7 (by decide)
    refine q_iconst (pc := 10) (v := nI 1) dX11_run_10 (by decide) ?_
    refine q_goto (pc := 11) 15 dX11_run_11 (by decide) ?_
    refine q_istore_n (pc := 15) dX11_run_15 rfl (Nat.le_of_ble_eq_true rfl) rfl ?_
    show bq_W _ _ _ _ _ 16 [_, _, _, _] _ _ _ _ _ _ _
    refine q_aload_n (pc := 16) dX11_run_16 rfl rfl ?_
    refine q_getP (pc := 17) dX11_run_17 fX11_34 (Cellar_sh hx) ⟨by decide, rfl⟩ (Cellar_lt hx) (Cellar_p_tape hx) ?_
    refine q_iconst (pc := 20) (v := nI 0) dX11_run_20 (by decide) ?_
    refine q_putI (pc := 21) dX11_run_21 (pX11_207 _) (Tape_sh (Cellar_s_tape hx)) ⟨by decide, rfl⟩ (Tape_lt (Cellar_s_tape hx)) ?_
    refine q_nameI (fun J1 e1 => ?_)
    have hT : TpE x I J1 := by
      rw [e1]
      exact ⟨bq_u_at _ _ _ _, (bq_u_ne (by omega)).trans (R4 _ (by omega) (by omega)), fun a ha => (bq_u_ne (by omega)).trans (R4 a (by omega) (by omega))⟩
    have j2 : J1 (x + 108) 2 = nI r.2.1 := by rw [e1, bq_u_no (by omega)]; exact R2
    have hX1 : CXS x S n J1 L P g h ch := hX.tp hT.2.2
    have hy1 : J1 x 10 = I x 10 := congrFun (hT.2.2 x (by omega)) 10
    refine q_iload_n (pc := 24) dX11_run_24 rfl rfl ?_
    refine q_if_eq (pc := 25) 39 dX11_run_25 (by decide) (fun c_25 => absurd c_25 (by decide)) (fun c_25 => ?_)
    refine q_bipush (pc := 28) (v := (-100)) dX11_run_28 (by decide) ?_
    refine q_aload_n (pc := 30) dX11_run_30 rfl rfl ?_
    refine q_getP (pc := 31) dX11_run_31 fX11_34 (Cellar_sh hx) ⟨by decide, rfl⟩ (Cellar_lt hx) (Cellar_p_tape hx) ?_
    refine q_getI (pc := 34) dX11_run_34 fX11_216 (Tape_sh (Cellar_s_tape hx)) ⟨by decide, rfl⟩ (Tape_lt (Cellar_s_tape hx)) ?_
    refine q_isub (pc := 37) dX11_run_37 ?_
    exact q_iret (st := []) (pc := 38) dX11_run_38 rfl (qRun.mk hT (by rw [p_run_w hr, j2]) (by rw [p_run_w hr]; exact hX1) (by rw [p_run_w hr]; exact hy1) ⟨fun _ _ => rfl, rfl⟩ (fun _ _ => rfl) (fun _ _ => rfl))
