/-! the model's past, its operations -/
def MH (m : Nat) (I : BqI) (h : Nat → BqG) (ch : Nat) : Prop := I m 2 = nI ch ∧ ch ≤ 6 ∧ ∀ i, i < ch → ∀ k, k < 650 → I (m + 2) (i * 650 + k) = h i k
def remH (q : Nat) (g : BqG) (h : Nat → BqG) (ch : Nat) : (Nat → BqG) × Nat := if q = 1 then (h, ch) else if ch < 6 then (bq_r h ch g, ch + 1) else ((fun i => if i = 5 then g else h (i + 1)), 6)
def qRem (m : Nat) (I : BqI) (S : BqH) (n : Nat) (L : BqL) (P : BqP) (g : BqG) (h : Nat → BqG) (ch q : Nat) : BqQ := fun r S' n' I' L' P' => r = none ∧ S' = S ∧ n' = n ∧ L' = L ∧ P' = P ∧ MH m I' (remH q g h ch).1 (remH q g h ch).2 ∧ (∀ b, b ≠ m → b ≠ m + 2 → I' b = I b) ∧ ∀ k, k ≠ 2 → I' m k = I m k
theorem remA {I : BqI} {m a ch : Nat} {h : Nat → BqG} (hH : MH m I h ch) (hl : ch < 6) : MH m (bq_u (fl I (m + 2) (fun k => ch * 650 + k) (fun k => I a (0 + k)) 650) m 2 (nI (ch + 1))) (remH 0 (I a) h ch).1 (remH 0 (I a) h ch).2 := by
  have e : remH 0 (I a) h ch = (bq_r h ch (I a), ch + 1) := by unfold remH; rw [if_neg (by decide), if_pos hl]
  rw [e]
  refine ⟨bq_u_at _ _ _ _, (show ch + 1 ≤ 6 by omega), fun i hi k hk => ?_⟩
  have hi : i < ch + 1 := hi
  rw [bq_u_ne (by omega)]
  show _ = bq_r h ch (I a) i k
  by_cases c : i = ch
  · subst c
    rw [bq_r_self]
    refine (fl_at (I := I) (d := m + 2) (ix := fun k => i * 650 + k) (v := fun k => I a (0 + k)) (j := k) 650 (fun a b _ _ h => by first | omega | (dsimp only at h; omega)) hk).trans ?_
    show I a (0 + k) = _
    rw [Nat.zero_add]
  · rw [bq_r_ne c, fl_no 650 (fun q hq e => by first | omega | (dsimp only at e; omega))]
    exact hH.2.2 i (by omega) k hk
theorem remB {I : BqI} {m a : Nat} {h : Nat → BqG} (hH : MH m I h 6) (hne : a ≠ m + 2) (hne2 : a ≠ m) : MH m (bq_u (fl (bq_u (fl I (m + 2) (fun k => k) (fun k => I (m + 2) (k + 650)) 3250) m 2 (nI 5)) (m + 2) (fun k => 5 * 650 + k) (fun k => bq_u (fl I (m + 2) (fun k => k) (fun k => I (m + 2) (k + 650)) 3250) m 2 (nI 5) a (0 + k)) 650) m 2 (nI (5 + 1))) (remH 0 (I a) h 6).1 (remH 0 (I a) h 6).2 := by
  have e : remH 0 (I a) h 6 = ((fun i => if i = 5 then I a else h (i + 1)), 6) := rfl
  rw [e]
  refine ⟨bq_u_at _ _ _ _, Nat.le_refl _, fun i hi k hk => ?_⟩
  have hi : i < 6 := hi
  rw [bq_u_ne (by omega)]
  show _ = (if i = 5 then I a else h (i + 1)) k
  by_cases c : i = 5
  · subst c
    rw [if_pos rfl]
    refine (fl_at (d := m + 2) (ix := fun k => 5 * 650 + k) (j := k) 650 (fun a b _ _ h => by first | omega | (dsimp only at h; omega)) hk).trans ?_
    show bq_u _ m 2 _ a (0 + k) = _
    rw [bq_u_ne hne2, fl_ne hne, Nat.zero_add]
  · rw [if_neg c, fl_no 650 (fun q hq e => by first | omega | (dsimp only at e; omega)), bq_u_ne (show m + 2 ≠ m by omega)]
    refine (fl_at (I := I) (d := m + 2) (ix := fun k => k) (v := fun k => I (m + 2) (k + 650)) (j := i * 650 + k) 3250 (fun a b _ _ h => h) (by omega)).trans ?_
    show I (m + 2) (i * 650 + k + 650) = _
    rw [show i * 650 + k + 650 = (i + 1) * 650 + k by omega]
    exact hH.2.2 (i + 1) (by omega) k hk
/-- what an operation of the model leaves as it was -/
def MFr (m : Nat) (I I' : BqI) : Prop := (∀ a, a < m ∨ (m + 3 ≤ a ∧ a < m + 6) ∨ m + 13 ≤ a → I' a = I a) ∧ ∀ k, k ≠ 2 → k ≠ 7 → k ≠ 17 → I' m k = I m k
def MSt (m : Nat) (I0 I : BqI) (g : BqG) (h : Nat → BqG) (ch : Nat) (y : Int32) : Prop := I (m + 1) = g ∧ MH m I h ch ∧ I m 7 = y ∧ MFr m I0 I
theorem MSt.mk {m ch : Nat} {I : BqI} {g : BqG} {h : Nat → BqG} (hH : MH m I h ch) (hg : I (m + 1) = g) : MSt m I I g h ch (I m 7) := ⟨hg, hH, rfl, fun _ _ => rfl, fun _ _ _ _ => rfl⟩
theorem MSt.ref {m ch : Nat} {I0 I : BqI} {g : BqG} {h : Nat → BqG} {y : Int32} (T : MSt m I0 I g h ch y) (v : Int32) : MSt m I0 (bq_u I m 7 v) g h ch v :=
  ⟨(bq_u_ne (by omega)).trans T.1, ⟨(bq_u_no (by omega)).trans T.2.1.1, T.2.1.2.1, fun i hi k hk => by rw [bq_u_ne (by omega)]; exact T.2.1.2.2 i hi k hk⟩, bq_u_at _ _ _ _, fun a ha => (bq_u_ne (by omega)).trans (T.2.2.2.1 a ha), fun k h2 h7 h17 => (bq_u_no (fun q => h7 q.2)).trans (T.2.2.2.2 k h2 h7 h17)⟩
theorem MSt.rem {m ch : Nat} {I0 I I' : BqI} {g : BqG} {h h' : Nat → BqG} {ch' : Nat} {y : Int32} (T : MSt m I0 I g h ch y) (H : MH m I' h' ch') (f1 : ∀ b, b ≠ m → b ≠ m + 2 → I' b = I b) (f2 : ∀ k, k ≠ 2 → I' m k = I m k) : MSt m I0 I' g h' ch' y :=
  ⟨(f1 _ (by omega) (by omega)).trans T.1, H, (f2 7 (by decide)).trans T.2.2.1, fun a ha => (f1 a (by omega) (by omega)).trans (T.2.2.2.1 a ha), fun k h2 h7 h17 => (f2 k h2).trans (T.2.2.2.2 k h2 h7 h17)⟩
theorem MSt.fr {m ch : Nat} {I0 I I' : BqI} {g g' : BqG} {h : Nat → BqG} {y : Int32} (T : MSt m I0 I g h ch y) (hg : I' (m + 1) = g') (f : ∀ a, a ≠ m + 1 → a < m + 6 ∨ m + 13 ≤ a → I' a = I a) : MSt m I0 I' g' h ch y :=
  ⟨hg, ⟨(congrFun (f m (by omega) (by omega)) 2).trans T.2.1.1, T.2.1.2.1, fun i hi k hk => by rw [f (m + 2) (by omega) (by omega)]; exact T.2.1.2.2 i hi k hk⟩, (congrFun (f m (by omega) (by omega)) 7).trans T.2.2.1, fun a ha => (f a (by omega) (by omega)).trans (T.2.2.2.1 a ha), fun k h2 h7 h17 => (congrFun (f m (by omega) (by omega)) k).trans (T.2.2.2.2 k h2 h7 h17)⟩
theorem MSt.r {m ch : Nat} {I0 I : BqI} {g : BqG} {h : Nat → BqG} {y : Int32} (T : MSt m I0 I g h ch y) (g' : BqG) : MSt m I0 (bq_r I (m + 1) g') g' h ch y := T.fr bq_r_self (fun a ha _ => bq_r_ne ha)
theorem MSt.sc {m ch : Nat} {I0 I I' : BqI} {g : BqG} {h : Nat → BqG} {y : Int32} (T : MSt m I0 I g h ch y) (f : ∀ a, a < m + 6 ∨ m + 13 ≤ a → I' a = I a) : MSt m I0 I' g h ch y := T.fr ((f _ (by omega)).trans T.1) (fun a _ ha => f a ha)
theorem MSt.u {m ch : Nat} {I0 I : BqI} {g : BqG} {h : Nat → BqG} {y : Int32} (T : MSt m I0 I g h ch y) {k k' : Nat} (e : k = k') (v : Int32) : MSt m I0 (bq_u I (m + 1) k v) (bq_r g k' v) h ch y := by
  subst e
  rw [bq_u_r, T.1]
  exact T.r _
def qMo (m : Nat) (I : BqI) (S : BqH) (n : Nat) (L : BqL) (P : BqP) (w : BqR) : BqQ := fun r S' n' I' L' P' => r = some (.int w.1) ∧ S' = S ∧ n' = n ∧ L' = L ∧ P' = P ∧ MSt m I I' w.2.1 w.2.2.1 w.2.2.2.1 w.2.2.2.2
theorem qMo.mk {m : Nat} {I I' : BqI} {S : BqH} {n : Nat} {L : BqL} {P : BqP} {w : BqR} {v y : Int32} {g : BqG} {h : Nat → BqG} {ch : Nat} (T : MSt m I I' g h ch y) (e : w = (v, g, h, ch, y)) : qMo m I S n L P w (some (.int v)) S n I' L P := by
  subst e; exact ⟨rfl, rfl, rfl, rfl, rfl, T⟩
theorem chg_rem {g g' : BqG} {h : Nat → BqG} {ch : Nat} {y v : Int32} : chg g g' h ch y v = (v, g', (remH 0 g h ch).1, (remH 0 g h ch).2, y) := by
  unfold chg remH
  rw [if_neg (show ¬ 0 = 1 by decide)]
  split <;> rfl
def mst (q : Nat) (g : BqG) (h : Nat → BqG) (ch : Nat) (y : Int32) (w : Int32 × BqG) : BqR := if w.1 < 0 then ((-3), w.2, h, ch, -w.1) else (w.1, w.2, (remH q g h ch).1, (remH q g h ch).2, y)
theorem mst_neg {q ch : Nat} {g g' : BqG} {h : Nat → BqG} {y v u : Int32} (hv : v < 0) (hu : -v = u) : mst q g h ch y (v, g') = ((-3), g', h, ch, u) := by
  subst hu; exact if_pos hv
theorem mst_pos {q ch : Nat} {g g' : BqG} {h : Nat → BqG} {y v : Int32} (hv : ¬ v < 0) : mst q g h ch y (v, g') = (v, g', (remH q g h ch).1, (remH q g h ch).2, y) := if_neg hv
theorem stp_mst {g : BqG} {h : Nat → BqG} {ch : Nat} {y : Int32} {w : Int32 × BqG} : stp g h ch y w = mst 0 g h ch y w := by
  unfold stp mst stl remH
  split
  · rfl
  · rw [if_neg (show ¬ 0 = 1 by decide)]
    split <;> rfl
theorem c_tA {S : BqH} {n : Nat} {I : BqI} {L : BqL} {P : BqP} {m t k j : Nat} (hm : oModel S n P m) (hj : 10 + 19 * t + k = j) (hk : 10 + 19 * t + k < 650) : bq_Sp mX12_tankAt 1 12 0 0 [.ref m, .int (nI t), .int (nI k)] S n I L P (bq_F (some (.int (I (m + 1) j))) S n I L P) := by
  subst hj; exact c_X12_tankAt hm hk
theorem c_oA {S : BqH} {n : Nat} {I : BqI} {L : BqL} {P : BqP} {m o k j : Nat} (hm : oModel S n P m) (hj : 204 + 9 * o + k = j) (hk : 204 + 9 * o + k < 650) : bq_Sp mX12_orderAt 1 12 0 0 [.ref m, .int (nI o), .int (nI k)] S n I L P (bq_F (some (.int (I (m + 1) j))) S n I L P) := by
  subst hj; exact c_X12_orderAt hm hk
set_option maxHeartbeats 1000000 in
set_option maxRecDepth 20000 in
theorem c_remRow_a {S : BqH} {n : Nat} {I : BqI} {L : BqL} {P : BqP} {m a ch : Nat} {h : Nat → BqG} (hm : oModel S n P m) (ha : oA S n a 650) (hne : a ≠ m + 2) (hne2 : a ≠ m) (hH : MH m I h ch) (hl : ch < 6) : bq_Sp mX12_remembersRow 2 36 0 0 [.ref m, .ref a] S n I L P (qRem m I S n L P (I a) h ch 0) := by
  refine q_entry (vs := [some (.ref m), some (.ref a), none]) (by decide +kernel) (by simp) (Nat.le_of_ble_eq_true rfl) rfl ?_
  have hc := hH.1
  refine q_aload_n (pc := 0) dX12_remembersRow_0 rfl rfl ?_
  refine q_getI (pc := 1) dX12_remembersRow_1 fX12_54 (Model_sh hm) ⟨by decide, rfl⟩ (Model_lt hm) ?_
  rw [hc]
  refine q_bipush (pc := 4) (v := nI 6) dX12_remembersRow_4 (by decide) ?_
  refine q_icmp_ne (pc := 6) 50 dX12_remembersRow_6 (by decide) (fun c_6 => ?_) (fun c_6 => ((by have := (nI_eq (by omega) (by decide)).mp c_6; omega : False)).elim)
  refine q_aload_n (pc := 50) dX12_remembersRow_50 rfl rfl ?_
  refine q_iconst (pc := 51) (v := nI 0) dX12_remembersRow_51 (by decide) ?_
  refine q_aload_n (pc := 52) dX12_remembersRow_52 rfl rfl ?_
  refine q_getP (pc := 53) dX12_remembersRow_53 fX12_13 (Model_sh hm) ⟨by decide, rfl⟩ (Model_lt hm) (Model_p_history hm) ?_
  refine q_aload_n (pc := 56) dX12_remembersRow_56 rfl rfl ?_
  refine q_getI (pc := 57) dX12_remembersRow_57 fX12_54 (Model_sh hm) ⟨by decide, rfl⟩ (Model_lt hm) ?_
  rw [hc]
  refine q_sipush (pc := 60) (v := nI 650) dX12_remembersRow_60 (by decide) ?_
  refine q_imulN (pc := 63) dX12_remembersRow_63 ?_
  refine q_callSF (pc := 64) dX12_remembersRow_64 kX12_57 (c_X12_copy ha (Model_s_history hm) (x := 0) (y := (ch * 650)) hne (by omega) (by omega)) ⟨Nat.le_of_ble_eq_true rfl, Nat.le_of_ble_eq_true rfl⟩ rfl rfl (Nat.le_of_ble_eq_true rfl) ?_
  show bq_W _ _ _ _ _ 67 _ [] _ _ _ _ _ _
  refine q_aload_n (pc := 67) dX12_remembersRow_67 rfl rfl ?_
  refine q_dup (pc := 68) dX12_remembersRow_68 rfl ?_
  refine q_getI (pc := 69) dX12_remembersRow_69 fX12_54 (Model_sh hm) ⟨by decide, rfl⟩ (Model_lt hm) ?_
  rw [fl_ne (show m ≠ m + 2 by omega) 650, hc]
  refine q_iconst (pc := 72) (v := nI 1) dX12_remembersRow_72 (by decide) ?_
  refine q_iaddN (pc := 73) dX12_remembersRow_73 ?_
  refine q_putI (pc := 74) dX12_remembersRow_74 (pX12_54 _) (Model_sh hm) ⟨by decide, rfl⟩ (Model_lt hm) ?_
  exact q_vret (st := []) (pc := 77) dX12_remembersRow_77 rfl ⟨rfl, rfl, rfl, rfl, rfl, remA hH hl, fun b b1 b2 => (bq_u_ne b1).trans (fl_ne b2 650), fun k hk => (bq_u_no (fun q => hk q.2)).trans (congrFun (fl_ne (show m ≠ m + 2 by omega) 650) k)⟩
set_option maxHeartbeats 1240000 in
set_option maxRecDepth 20000 in
theorem c_remRow_b {S : BqH} {n : Nat} {I : BqI} {L : BqL} {P : BqP} {m a : Nat} {h : Nat → BqG} (hm : oModel S n P m) (ha : oA S n a 650) (hne : a ≠ m + 2) (hne2 : a ≠ m) (hH : MH m I h 6) : bq_Sp mX12_remembersRow 2 36 0 0 [.ref m, .ref a] S n I L P (qRem m I S n L P (I a) h 6 0) := by
  refine q_entry (vs := [some (.ref m), some (.ref a), none]) (by decide +kernel) (by simp) (Nat.le_of_ble_eq_true rfl) rfl ?_
  have hc := hH.1
  have lp : ∀ i, i ≤ 3250 → bq_W mX12_remembersRow 2 36 0 0 11 [some (.ref m), some (.ref a), some (.int (nI i))] [] S n (fl I (m + 2) (fun k => k) (fun k => I (m + 2) (k + 650)) i) L P (qRem m I S n L P (I a) h 6 0) := by
    refine bq_down (A := fun i => bq_W mX12_remembersRow 2 36 0 0 11 [some (.ref m), some (.ref a), some (.int (nI i))] [] S n (fl I (m + 2) (fun k => k) (fun k => I (m + 2) (k + 650)) i) L P (qRem m I S n L P (I a) h 6 0)) 3250 ?_ ?_
    · refine q_iload_n (pc := 11) dX12_remembersRow_11 rfl rfl ?_
      refine q_sipush (pc := 12) (v := nI 3250) dX12_remembersRow_12 (by decide) ?_
      refine q_icmp_ge (pc := 15) 40 dX12_remembersRow_15 (by decide) (fun c_15 => ?_) (fun c_15 => absurd (by decide) c_15)
      refine q_aload_n (pc := 40) dX12_remembersRow_40 rfl rfl ?_
      refine q_dup (pc := 41) dX12_remembersRow_41 rfl ?_
      refine q_getI (pc := 42) dX12_remembersRow_42 fX12_54 (Model_sh hm) ⟨by decide, rfl⟩ (Model_lt hm) ?_
      rw [fl_ne (show m ≠ m + 2 by omega) 3250, hc]
      refine q_iconst (pc := 45) (v := nI 1) dX12_remembersRow_45 (by decide) ?_
      refine q_isub (pc := 46) dX12_remembersRow_46 ?_
      rw [show nI 6 - nI 1 = nI 5 from by decide]
      refine q_putI (pc := 47) dX12_remembersRow_47 (pX12_54 _) (Model_sh hm) ⟨by decide, rfl⟩ (Model_lt hm) ?_
      refine q_aload_n (pc := 50) dX12_remembersRow_50 rfl rfl ?_
      refine q_iconst (pc := 51) (v := nI 0) dX12_remembersRow_51 (by decide) ?_
      refine q_aload_n (pc := 52) dX12_remembersRow_52 rfl rfl ?_
      refine q_getP (pc := 53) dX12_remembersRow_53 fX12_13 (Model_sh hm) ⟨by decide, rfl⟩ (Model_lt hm) (Model_p_history hm) ?_
      refine q_aload_n (pc := 56) dX12_remembersRow_56 rfl rfl ?_
      refine q_getI (pc := 57) dX12_remembersRow_57 fX12_54 (Model_sh hm) ⟨by decide, rfl⟩ (Model_lt hm) ?_
      rw [bq_u_at]
      refine q_sipush (pc := 60) (v := nI 650) dX12_remembersRow_60 (by decide) ?_
      refine q_imulN (pc := 63) dX12_remembersRow_63 ?_
      refine q_callSF (pc := 64) dX12_remembersRow_64 kX12_57 (c_X12_copy ha (Model_s_history hm) (x := 0) (y := (5 * 650)) hne (by omega) (by omega)) ⟨Nat.le_of_ble_eq_true rfl, Nat.le_of_ble_eq_true rfl⟩ rfl rfl (Nat.le_of_ble_eq_true rfl) ?_
      show bq_W _ _ _ _ _ 67 _ [] _ _ _ _ _ _
      refine q_aload_n (pc := 67) dX12_remembersRow_67 rfl rfl ?_
      refine q_dup (pc := 68) dX12_remembersRow_68 rfl ?_
      refine q_getI (pc := 69) dX12_remembersRow_69 fX12_54 (Model_sh hm) ⟨by decide, rfl⟩ (Model_lt hm) ?_
      rw [fl_ne (show m ≠ m + 2 by omega) 650, bq_u_at]
      refine q_iconst (pc := 72) (v := nI 1) dX12_remembersRow_72 (by decide) ?_
      refine q_iaddN (pc := 73) dX12_remembersRow_73 ?_
      refine q_putI (pc := 74) dX12_remembersRow_74 (pX12_54 _) (Model_sh hm) ⟨by decide, rfl⟩ (Model_lt hm) ?_
      exact q_vret (st := []) (pc := 77) dX12_remembersRow_77 rfl ⟨rfl, rfl, rfl, rfl, rfl, remB hH hne hne2, fun b b1 b2 => (bq_u_ne b1).trans ((fl_ne b2 650).trans ((bq_u_ne b1).trans (fl_ne b2 3250))), fun k hk => (bq_u_no (fun q => hk q.2)).trans ((congrFun (fl_ne (show m ≠ m + 2 by omega) 650) k).trans ((bq_u_no (fun q => hk q.2)).trans (congrFun (fl_ne (show m ≠ m + 2 by omega) 3250) k)))⟩
    · intro i hi ih
      refine q_iload_n (pc := 11) dX12_remembersRow_11 rfl rfl ?_
      refine q_sipush (pc := 12) (v := nI 3250) dX12_remembersRow_12 (by decide) ?_
      refine q_icmp_ge (pc := 15) 40 dX12_remembersRow_15 (by decide) (fun c_15 => absurd c_15 (nI_ge hi (by decide))) (fun c_15 => ?_)
      refine q_aload_n (pc := 18) dX12_remembersRow_18 rfl rfl ?_
      refine q_getP (pc := 19) dX12_remembersRow_19 fX12_13 (Model_sh hm) ⟨by decide, rfl⟩ (Model_lt hm) (Model_p_history hm) ?_
      refine q_iload_n (pc := 22) dX12_remembersRow_22 rfl rfl ?_
      refine q_aload_n (pc := 23) dX12_remembersRow_23 rfl rfl ?_
      refine q_getP (pc := 24) dX12_remembersRow_24 fX12_13 (Model_sh hm) ⟨by decide, rfl⟩ (Model_lt hm) (Model_p_history hm) ?_
      refine q_iload_n (pc := 27) dX12_remembersRow_27 rfl rfl ?_
      refine q_sipush (pc := 28) (v := nI 650) dX12_remembersRow_28 (by decide) ?_
      refine q_iaddN (pc := 31) dX12_remembersRow_31 ?_
      refine q_iald (pc := 32) dX12_remembersRow_32 (oA_sh (Model_s_history hm)) (oA_lt (Model_s_history hm)) rfl (by omega) ?_
      rw [fl_no i (fun q hq => by omega)]
      refine q_iast (pc := 33) dX12_remembersRow_33 (oA_sh (Model_s_history hm)) (oA_lt (Model_s_history hm)) rfl (by omega) ?_
      refine q_iinc (pc := 34) (v := nI (i + 1)) dX12_remembersRow_34 rfl (bq_inc _) (Nat.le_of_ble_eq_true rfl) rfl ?_
      show bq_W _ _ _ _ _ 37 [_, _, _] _ _ _ _ _ _ _
      refine q_goto (pc := 37) 11 dX12_remembersRow_37 (by decide) ?_
      exact ih
  refine q_aload_n (pc := 0) dX12_remembersRow_0 rfl rfl ?_
  refine q_getI (pc := 1) dX12_remembersRow_1 fX12_54 (Model_sh hm) ⟨by decide, rfl⟩ (Model_lt hm) ?_
  rw [hc]
  refine q_bipush (pc := 4) (v := nI 6) dX12_remembersRow_4 (by decide) ?_
  refine q_icmp_ne (pc := 6) 50 dX12_remembersRow_6 (by decide) (fun c_6 => (c_6 rfl).elim) (fun c_6 => ?_)
  refine q_iconst (pc := 9) (v := nI 0) dX12_remembersRow_9 (by decide) ?_
  refine q_istore_n (pc := 10) dX12_remembersRow_10 rfl (Nat.le_of_ble_eq_true rfl) rfl ?_
  show bq_W _ _ _ _ _ 11 [_, _, _] _ _ _ _ _ _ _
  exact lp 0 (by decide)
theorem c_remRow {S : BqH} {n : Nat} {I : BqI} {L : BqL} {P : BqP} {m a ch : Nat} {h : Nat → BqG} (hm : oModel S n P m) (ha : oA S n a 650) (hne : a ≠ m + 2) (hne2 : a ≠ m) (hH : MH m I h ch) : bq_Sp mX12_remembersRow 2 36 0 0 [.ref m, .ref a] S n I L P (qRem m I S n L P (I a) h ch 0) := by
  have hl := hH.2.1
  rcases Nat.lt_or_ge ch 6 with q | q
  · exact c_remRow_a hm ha hne hne2 hH q
  · obtain rfl : ch = 6 := by omega
    exact c_remRow_b hm ha hne hne2 hH
set_option maxHeartbeats 1000000 in
set_option maxRecDepth 20000 in
theorem c_rem {S : BqH} {n : Nat} {I : BqI} {L : BqL} {P : BqP} {m ch q : Nat} {h : Nat → BqG} {g : BqG} (hm : oModel S n P m) (hH : MH m I h ch) (hg : I (m + 1) = g) (hq : I m 6 = nI q) (hq1 : q ≤ 1) : bq_Sp mX12_remembers 3 58 0 0 [.ref m] S n I L P (qRem m I S n L P g h ch q) := by
  refine q_entry (vs := [some (.ref m)]) (by decide +kernel) (by simp) (Nat.le_of_ble_eq_true rfl) rfl ?_
  subst hg
  refine q_aload_n (pc := 0) dX12_remembers_0 rfl rfl ?_
  refine q_getI (pc := 1) dX12_remembers_1 fX12_61 (Model_sh hm) ⟨by decide, rfl⟩ (Model_lt hm) ?_
  refine q_if_ne (pc := 4) 15 dX12_remembers_4 (by decide) (fun c_4 => ?_) (fun c_4 => ?_)
  · have hz : q = 1 := by
      rcases Nat.eq_zero_or_pos q with z | z
      · exact absurd (by rw [hq, z]; rfl) c_4
      · omega
    subst hz
    exact q_vret (st := []) (pc := 15) dX12_remembers_15 rfl ⟨rfl, rfl, rfl, rfl, rfl, by first | exact H1 | exact hH, by first | exact f1 | exact fun _ _ _ => rfl, by first | exact f2 | exact fun _ _ => rfl⟩
  · have hz : q = 0 := by
      rcases Nat.eq_zero_or_pos q with z | z
      · exact z
      · exact absurd c_4 (by rw [hq, show q = 1 by omega]; decide)
    subst hz
    refine q_aload_n (pc := 7) dX12_remembers_7 rfl rfl ?_
    refine q_aload_n (pc := 8) dX12_remembers_8 rfl rfl ?_
    refine q_getP (pc := 9) dX12_remembers_9 fX12_9 (Model_sh hm) ⟨by decide, rfl⟩ (Model_lt hm) (Model_p_g hm) ?_
    refine q_callV (pc := 12) dX12_remembers_12 kX12_65 (c_remRow hm (Model_s_g hm) (by omega) (by omega) hH) (Model_sh hm) rfl (Model_lt hm) ⟨Nat.le_of_ble_eq_true rfl, Nat.le_of_ble_eq_true rfl⟩ rfl rfl (Nat.le_of_ble_eq_true rfl) ?_
    rintro _ _ _ I1 L1 P1 ⟨rfl, rfl, rfl, rfl, rfl, H1, f1, f2⟩
    show bq_W _ _ _ _ _ 15 _ [] _ _ _ _ _ _
    exact q_vret (st := []) (pc := 15) dX12_remembers_15 rfl ⟨rfl, rfl, rfl, rfl, rfl, by first | exact H1 | exact hH, by first | exact f1 | exact fun _ _ _ => rfl, by first | exact f2 | exact fun _ _ => rfl⟩
set_option maxHeartbeats 1000000 in
set_option maxRecDepth 20000 in
theorem o_setLoss {S : BqH} {n : Nat} {I : BqI} {L : BqL} {P : BqP} {m ch : Nat} {h : Nat → BqG} {g : BqG} (hm : oModel S n P m) (hH : MH m I h ch) (hg : I (m + 1) = g) {en : Nat} (hG : GI g en) (hen : en < 2 ^ 29) (hq : I m 6 = nI 0) {v : Int32} : bq_Sp mX12_setLoss 4 78 0 0 [.ref m, .int v] S n I L P (qMo m I S n L P (p_setLoss g h ch (I m 7) v)) := by
  refine q_entry (vs := [some (.ref m), some (.int v), none]) (by decide +kernel) (by simp) (Nat.le_of_ble_eq_true rfl) rfl ?_
  have T0 := MSt.mk hH hg
  have hq1 : 0 ≤ 1 := by decide
  refine q_iload_n (pc := 0) dX12_setLoss_0 rfl rfl ?_
  refine q_iconst (pc := 1) (v := nI 0) dX12_setLoss_1 (by decide) ?_
  refine q_bipush (pc := 2) (v := nI 100) dX12_setLoss_2 (by decide) ?_
  refine q_callSF (pc := 4) dX12_setLoss_4 kX12_69 c_X12_in ⟨Nat.le_of_ble_eq_true rfl, Nat.le_of_ble_eq_true rfl⟩ rfl rfl (Nat.le_of_ble_eq_true rfl) ?_
  show bq_W _ _ _ _ _ 7 _ [_] _ _ _ _ _ _
  refine q_if_ne (pc := 7) 13 dX12_setLoss_7 (by decide) (fun c_7 => ?_) (fun c_7 => ?_)
  · replace c_7 := bq_nbn.mp c_7
    refine q_aload_n (pc := 13) dX12_setLoss_13 rfl rfl ?_
    refine q_callV (pc := 14) dX12_setLoss_14 kX12_102 (c_rem hm hH hg hq hq1) (Model_sh hm) rfl (Model_lt hm) ⟨Nat.le_of_ble_eq_true rfl, Nat.le_of_ble_eq_true rfl⟩ rfl rfl (Nat.le_of_ble_eq_true rfl) ?_
    rintro _ _ _ I1 L1 P1 ⟨rfl, rfl, rfl, rfl, rfl, H1, f1, f2⟩
    show bq_W _ _ _ _ _ 17 _ [] _ _ _ _ _ _
    have T1 := T0.rem H1 f1 f2
    have hg1 := T1.1
    refine q_aload_n (pc := 17) dX12_setLoss_17 rfl rfl ?_
    refine q_getP (pc := 18) dX12_setLoss_18 fX12_9 (Model_sh hm) ⟨by decide, rfl⟩ (Model_lt hm) (Model_p_g hm) ?_
    refine q_iconst (pc := 21) (v := nI 4) dX12_setLoss_21 (by decide) ?_
    refine q_iald (pc := 22) dX12_setLoss_22 (oA_sh (Model_s_g hm)) (oA_lt (Model_s_g hm)) rfl (by omega) ?_
    rw [hg1]
    refine q_istore_n (pc := 23) dX12_setLoss_23 rfl (Nat.le_of_ble_eq_true rfl) rfl ?_
    show bq_W _ _ _ _ _ 24 [_, _, _] _ _ _ _ _ _ _
    refine q_aload_n (pc := 24) dX12_setLoss_24 rfl rfl ?_
    refine q_getP (pc := 25) dX12_setLoss_25 fX12_9 (Model_sh hm) ⟨by decide, rfl⟩ (Model_lt hm) (Model_p_g hm) ?_
    refine q_iconst (pc := 28) (v := nI 4) dX12_setLoss_28 (by decide) ?_
    refine q_iload_n (pc := 29) dX12_setLoss_29 rfl rfl ?_
    refine q_iast (pc := 30) dX12_setLoss_30 (oA_sh (Model_s_g hm)) (oA_lt (Model_s_g hm)) rfl (by omega) ?_
    refine q_iload_n (pc := 31) dX12_setLoss_31 rfl rfl ?_
    exact q_iret (st := []) (pc := 32) dX12_setLoss_32 rfl (qMo.mk (T1.u rfl v) (by unfold p_setLoss; rw [if_neg c_7, chg_rem]))
  · replace c_7 := bq_nb0.mp c_7
    refine q_bipush (pc := 10) (v := (-2)) dX12_setLoss_10 (by decide) ?_
    exact q_iret (st := []) (pc := 12) dX12_setLoss_12 rfl (qMo.mk T0 (by unfold p_setLoss; rw [if_pos c_7]))
set_option maxHeartbeats 1000000 in
set_option maxRecDepth 20000 in
theorem o_size_a {S : BqH} {n : Nat} {I : BqI} {L : BqL} {P : BqP} {m ch : Nat} {h : Nat → BqG} {g : BqG} (hm : oModel S n P m) (hH : MH m I h ch) (hg : I (m + 1) = g) {en : Nat} (hG : GI g en) (hen : en < 2 ^ 29) (hq : I m 6 = nI 0) {t v : Int32} (ht : t < nI 0 ∨ ¬ t ≤ nI 5) : bq_Sp mX12_size 4 79 0 0 [.ref m, .int t, .int v] S n I L P (qMo m I S n L P (p_size g h ch (I m 7) t v)) := by
  refine q_entry (vs := [some (.ref m), some (.int t), some (.int v), none]) (by decide +kernel) (by simp) (Nat.le_of_ble_eq_true rfl) rfl ?_
  have T0 := MSt.mk hH hg
  have hq1 : 0 ≤ 1 := by decide
  refine q_iload_n (pc := 0) dX12_size_0 rfl rfl ?_
  refine q_callSF (pc := 1) dX12_size_1 kX12_95 c_X12_isTank ⟨Nat.le_of_ble_eq_true rfl, Nat.le_of_ble_eq_true rfl⟩ rfl rfl (Nat.le_of_ble_eq_true rfl) ?_
  show bq_W _ _ _ _ _ 4 _ [_] _ _ _ _ _ _
  refine q_if_ne (pc := 4) 9 dX12_size_4 (by decide) (fun c_4 => (bq_nbn.mp c_4 ht).elim) (fun c_4 => ?_)
  refine q_iconst (pc := 7) (v := (-1)) dX12_size_7 (by decide) ?_
  exact q_iret (st := []) (pc := 8) dX12_size_8 rfl (qMo.mk T0 (by unfold p_size; rw [if_pos ht]))
set_option maxHeartbeats 1080000 in
set_option maxRecDepth 20000 in
theorem o_size_b {S : BqH} {n : Nat} {I : BqI} {L : BqL} {P : BqP} {m ch : Nat} {h : Nat → BqG} {g : BqG} (hm : oModel S n P m) (hH : MH m I h ch) (hg : I (m + 1) = g) {en : Nat} (hG : GI g en) (hen : en < 2 ^ 29) (hq : I m 6 = nI 0) {t : Nat} {v : Int32} (ht : t < 6) : bq_Sp mX12_size 4 79 0 0 [.ref m, .int (nI t), .int v] S n I L P (qMo m I S n L P (p_size g h ch (I m 7) (nI t) v)) := by
  refine q_entry (vs := [some (.ref m), some (.int (nI t)), some (.int v), none]) (by decide +kernel) (by simp) (Nat.le_of_ble_eq_true rfl) rfl ?_
  have T0 := MSt.mk hH hg
  have hq1 : 0 ≤ 1 := by decide
  refine q_iload_n (pc := 0) dX12_size_0 rfl rfl ?_
  refine q_callSF (pc := 1) dX12_size_1 kX12_95 c_X12_isTank ⟨Nat.le_of_ble_eq_true rfl, Nat.le_of_ble_eq_true rfl⟩ rfl rfl (Nat.le_of_ble_eq_true rfl) ?_
  show bq_W _ _ _ _ _ 4 _ [_] _ _ _ _ _ _
  refine q_if_ne (pc := 4) 9 dX12_size_4 (by decide) (fun c_4 => ?_) (fun c_4 => (bq_tin ht (by decide) (bq_nb0.mp c_4)).elim)
  refine q_iload_n (pc := 9) dX12_size_9 rfl rfl ?_
  refine q_iconst (pc := 10) (v := nI 1) dX12_size_10 (by decide) ?_
  refine q_sipush (pc := 11) (v := nI 9999) dX12_size_11 (by decide) ?_
  refine q_callSF (pc := 14) dX12_size_14 kX12_69 c_X12_in ⟨Nat.le_of_ble_eq_true rfl, Nat.le_of_ble_eq_true rfl⟩ rfl rfl (Nat.le_of_ble_eq_true rfl) ?_
  show bq_W _ _ _ _ _ 17 _ [_] _ _ _ _ _ _
  refine q_if_ne (pc := 17) 23 dX12_size_17 (by decide) (fun c_17 => ?_) (fun c_17 => ?_)
  · replace c_17 := bq_nbn.mp c_17
    refine q_aload_n (pc := 23) dX12_size_23 rfl rfl ?_
    refine q_iload_n (pc := 24) dX12_size_24 rfl rfl ?_
    refine q_callVF (pc := 25) dX12_size_25 kX12_88 (c_X12_litresIn hm (t := t) (by omega)) (Model_sh hm) rfl (Model_lt hm) ⟨Nat.le_of_ble_eq_true rfl, Nat.le_of_ble_eq_true rfl⟩ rfl rfl (Nat.le_of_ble_eq_true rfl) ?_
    show bq_W _ _ _ _ _ 28 _ [_] _ _ _ _ _ _
    rw [hg, hG.tot ht]
    refine q_iload_n (pc := 28) dX12_size_28 rfl rfl ?_
    refine q_icmp_le (pc := 29) 38 dX12_size_29 (by decide) (fun c_29 => ?_) (fun c_29 => ?_)
    · refine q_aload_n (pc := 38) dX12_size_38 rfl rfl ?_
      refine q_callV (pc := 39) dX12_size_39 kX12_102 (c_rem hm hH hg hq hq1) (Model_sh hm) rfl (Model_lt hm) ⟨Nat.le_of_ble_eq_true rfl, Nat.le_of_ble_eq_true rfl⟩ rfl rfl (Nat.le_of_ble_eq_true rfl) ?_
      rintro _ _ _ I1 L1 P1 ⟨rfl, rfl, rfl, rfl, rfl, H1, f1, f2⟩
      show bq_W _ _ _ _ _ 42 _ [] _ _ _ _ _ _
      have T1 := T0.rem H1 f1 f2
      have hg1 := T1.1
      refine q_aload_n (pc := 42) dX12_size_42 rfl rfl ?_
      refine q_iload_n (pc := 43) dX12_size_43 rfl rfl ?_
      refine q_iconst (pc := 44) (v := nI 0) dX12_size_44 (by decide) ?_
      refine q_callVF (pc := 45) dX12_size_45 kX12_73 (c_tA hm (t := t) (k := 0) (j := 10 + 19 * t) (by omega) (by omega)) (Model_sh hm) rfl (Model_lt hm) ⟨Nat.le_of_ble_eq_true rfl, Nat.le_of_ble_eq_true rfl⟩ rfl rfl (Nat.le_of_ble_eq_true rfl) ?_
      show bq_W _ _ _ _ _ 48 _ [_] _ _ _ _ _ _
      rw [hg1]
      refine q_istore_n (pc := 48) dX12_size_48 rfl (Nat.le_of_ble_eq_true rfl) rfl ?_
      show bq_W _ _ _ _ _ 49 [_, _, _, _] _ _ _ _ _ _ _
      refine q_aload_n (pc := 49) dX12_size_49 rfl rfl ?_
      refine q_getP (pc := 50) dX12_size_50 fX12_9 (Model_sh hm) ⟨by decide, rfl⟩ (Model_lt hm) (Model_p_g hm) ?_
      refine q_bipush (pc := 53) (v := nI 10) dX12_size_53 (by decide) ?_
      refine q_bipush (pc := 55) (v := nI 19) dX12_size_55 (by decide) ?_
      refine q_iload_n (pc := 57) dX12_size_57 rfl rfl ?_
      refine q_imulN (pc := 58) dX12_size_58 ?_
      refine q_iaddN (pc := 59) dX12_size_59 ?_
      refine q_iload_n (pc := 60) dX12_size_60 rfl rfl ?_
      refine q_iast (pc := 61) dX12_size_61 (oA_sh (Model_s_g hm)) (oA_lt (Model_s_g hm)) rfl (by omega) ?_
      refine q_iload_n (pc := 62) dX12_size_62 rfl rfl ?_
      exact q_iret (st := []) (pc := 63) dX12_size_63 rfl (qMo.mk (T1.u rfl v) (by unfold p_size; rw [if_neg (bq_tin ht (by decide)), if_neg c_17, nI_clamp (show t < 2 ^ 31 by omega), if_pos c_29, chg_rem]))
    · refine q_aload_n (pc := 32) dX12_size_32 rfl rfl ?_
      refine q_iconst (pc := 33) (v := nI 4) dX12_size_33 (by decide) ?_
      refine q_callVF (pc := 34) dX12_size_34 kX12_99 (c_X12_refuses hm) (Model_sh hm) rfl (Model_lt hm) ⟨Nat.le_of_ble_eq_true rfl, Nat.le_of_ble_eq_true rfl⟩ rfl rfl (Nat.le_of_ble_eq_true rfl) ?_
      show bq_W _ _ _ _ _ 37 _ [_] _ _ _ _ _ _
      exact q_iret (st := []) (pc := 37) dX12_size_37 rfl (qMo.mk (T0.ref (nI 4)) (by unfold p_size; rw [if_neg (bq_tin ht (by decide)), if_neg c_17, nI_clamp (show t < 2 ^ 31 by omega), if_neg c_29]))
  · replace c_17 := bq_nb0.mp c_17
    refine q_bipush (pc := 20) (v := (-2)) dX12_size_20 (by decide) ?_
    exact q_iret (st := []) (pc := 22) dX12_size_22 rfl (qMo.mk T0 (by unfold p_size; rw [if_neg (bq_tin ht (by decide)), if_pos c_17]))
set_option maxHeartbeats 1980000 in
set_option maxRecDepth 20000 in
theorem o_rate {S : BqH} {n : Nat} {I : BqI} {L : BqL} {P : BqP} {m ch : Nat} {h : Nat → BqG} {g : BqG} (hm : oModel S n P m) (hH : MH m I h ch) (hg : I (m + 1) = g) {en : Nat} (hG : GI g en) (hen : en < 2 ^ 29) (hq : I m 6 = nI 0) {d s a : Int32} : bq_Sp mX12_rate 4 78 0 0 [.ref m, .int d, .int s, .int a] S n I L P (qMo m I S n L P (p_rate g h ch (I m 7) d s a)) := by
  refine q_entry (vs := [some (.ref m), some (.int d), some (.int s), some (.int a), none]) (by decide +kernel) (by simp) (Nat.le_of_ble_eq_true rfl) rfl ?_
  have T0 := MSt.mk hH hg
  have hq1 : 0 ≤ 1 := by decide
  have h3 : g 3 = nI (gn g 3) := hG.n (by decide) (by decide)
  have h3l : gn g 3 ≤ 10 := hG.2.2.2.2.1
  refine q_iload_n (pc := 0) dX12_rate_0 rfl rfl ?_
  refine q_iconst (pc := 1) (v := nI 0) dX12_rate_1 (by decide) ?_
  refine q_sipush (pc := 2) (v := nI 9999) dX12_rate_2 (by decide) ?_
  refine q_callSF (pc := 5) dX12_rate_5 kX12_69 c_X12_in ⟨Nat.le_of_ble_eq_true rfl, Nat.le_of_ble_eq_true rfl⟩ rfl rfl (Nat.le_of_ble_eq_true rfl) ?_
  show bq_W _ _ _ _ _ 8 _ [_] _ _ _ _ _ _
  refine q_if_eq (pc := 8) 33 dX12_rate_8 (by decide) (fun c_8 => ?_) (fun c_8 => ?_)
  · replace c_8 := bq_nb0.mp c_8
    refine q_bipush (pc := 33) (v := (-2)) dX12_rate_33 (by decide) ?_
    exact q_iret (st := []) (pc := 35) dX12_rate_35 rfl (qMo.mk T0 (by unfold p_rate; rw [if_pos (by first | exact Or.inl c_8 | exact Or.inr (Or.inl c_19) | exact Or.inr (Or.inr c_30))]))
  · replace c_8 := bq_nbn.mp c_8
    refine q_iload_n (pc := 11) dX12_rate_11 rfl rfl ?_
    refine q_iconst (pc := 12) (v := nI 0) dX12_rate_12 (by decide) ?_
    refine q_sipush (pc := 13) (v := nI 2000) dX12_rate_13 (by decide) ?_
    refine q_callSF (pc := 16) dX12_rate_16 kX12_69 c_X12_in ⟨Nat.le_of_ble_eq_true rfl, Nat.le_of_ble_eq_true rfl⟩ rfl rfl (Nat.le_of_ble_eq_true rfl) ?_
    show bq_W _ _ _ _ _ 19 _ [_] _ _ _ _ _ _
    refine q_if_eq (pc := 19) 33 dX12_rate_19 (by decide) (fun c_19 => ?_) (fun c_19 => ?_)
    · replace c_19 := bq_nb0.mp c_19
      refine q_bipush (pc := 33) (v := (-2)) dX12_rate_33 (by decide) ?_
      exact q_iret (st := []) (pc := 35) dX12_rate_35 rfl (qMo.mk T0 (by unfold p_rate; rw [if_pos (by first | exact Or.inl c_8 | exact Or.inr (Or.inl c_19) | exact Or.inr (Or.inr c_30))]))
    · replace c_19 := bq_nbn.mp c_19
      refine q_iload_n (pc := 22) dX12_rate_22 rfl rfl ?_
      refine q_iconst (pc := 23) (v := nI 0) dX12_rate_23 (by decide) ?_
      refine q_sipush (pc := 24) (v := nI 9999) dX12_rate_24 (by decide) ?_
      refine q_callSF (pc := 27) dX12_rate_27 kX12_69 c_X12_in ⟨Nat.le_of_ble_eq_true rfl, Nat.le_of_ble_eq_true rfl⟩ rfl rfl (Nat.le_of_ble_eq_true rfl) ?_
      show bq_W _ _ _ _ _ 30 _ [_] _ _ _ _ _ _
      refine q_if_ne (pc := 30) 36 dX12_rate_30 (by decide) (fun c_30 => ?_) (fun c_30 => ?_)
      · replace c_30 := bq_nbn.mp c_30
        refine q_aload_n (pc := 36) dX12_rate_36 rfl rfl ?_
        refine q_getP (pc := 37) dX12_rate_37 fX12_9 (Model_sh hm) ⟨by decide, rfl⟩ (Model_lt hm) (Model_p_g hm) ?_
        refine q_iconst (pc := 40) (v := nI 3) dX12_rate_40 (by decide) ?_
        refine q_iald (pc := 41) dX12_rate_41 (oA_sh (Model_s_g hm)) (oA_lt (Model_s_g hm)) rfl (by omega) ?_
        rw [hg, h3]
        refine q_bipush (pc := 42) (v := nI 10) dX12_rate_42 (by decide) ?_
        refine q_icmp_ne (pc := 44) 50 dX12_rate_44 (by decide) (fun c_44 => ?_) (fun c_44 => ?_)
        · have hr : gn g 3 < 10 := Nat.lt_of_le_of_ne h3l (fun z => c_44 (by rw [z]))
          refine q_aload_n (pc := 50) dX12_rate_50 rfl rfl ?_
          refine q_callV (pc := 51) dX12_rate_51 kX12_102 (c_rem hm hH hg hq hq1) (Model_sh hm) rfl (Model_lt hm) ⟨Nat.le_of_ble_eq_true rfl, Nat.le_of_ble_eq_true rfl⟩ rfl rfl (Nat.le_of_ble_eq_true rfl) ?_
          rintro _ _ _ I1 L1 P1 ⟨rfl, rfl, rfl, rfl, rfl, H1, f1, f2⟩
          show bq_W _ _ _ _ _ 54 _ [] _ _ _ _ _ _
          have T1 := T0.rem H1 f1 f2
          have hg1 := T1.1
          refine q_sipush (pc := 54) (v := nI 294) dX12_rate_54 (by decide) ?_
          refine q_iconst (pc := 57) (v := nI 3) dX12_rate_57 (by decide) ?_
          refine q_aload_n (pc := 58) dX12_rate_58 rfl rfl ?_
          refine q_getP (pc := 59) dX12_rate_59 fX12_9 (Model_sh hm) ⟨by decide, rfl⟩ (Model_lt hm) (Model_p_g hm) ?_
          refine q_iconst (pc := 62) (v := nI 3) dX12_rate_62 (by decide) ?_
          refine q_iald (pc := 63) dX12_rate_63 (oA_sh (Model_s_g hm)) (oA_lt (Model_s_g hm)) rfl (by omega) ?_
          rw [hg1, h3]
          refine q_imulN (pc := 64) dX12_rate_64 ?_
          refine q_iaddN (pc := 65) dX12_rate_65 ?_
          refine q_istore (pc := 66) dX12_rate_66 (Nat.le_of_ble_eq_true rfl) rfl ?_
          show bq_W _ _ _ _ _ 68 [_, _, _, _, _] _ _ _ _ _ _ _
          refine q_aload_n (pc := 68) dX12_rate_68 rfl rfl ?_
          refine q_getP (pc := 69) dX12_rate_69 fX12_9 (Model_sh hm) ⟨by decide, rfl⟩ (Model_lt hm) (Model_p_g hm) ?_
          refine q_iload (pc := 72) dX12_rate_72 rfl ?_
          refine q_iload_n (pc := 74) dX12_rate_74 rfl rfl ?_
          refine q_iast (pc := 75) dX12_rate_75 (oA_sh (Model_s_g hm)) (oA_lt (Model_s_g hm)) rfl (by omega) ?_
          refine q_aload_n (pc := 76) dX12_rate_76 rfl rfl ?_
          refine q_getP (pc := 77) dX12_rate_77 fX12_9 (Model_sh hm) ⟨by decide, rfl⟩ (Model_lt hm) (Model_p_g hm) ?_
          refine q_iload (pc := 80) dX12_rate_80 rfl ?_
          refine q_iconst (pc := 82) (v := nI 1) dX12_rate_82 (by decide) ?_
          refine q_iaddN (pc := 83) dX12_rate_83 ?_
          refine q_iload_n (pc := 84) dX12_rate_84 rfl rfl ?_
          refine q_iast (pc := 85) dX12_rate_85 (oA_sh (Model_s_g hm)) (oA_lt (Model_s_g hm)) rfl (by omega) ?_
          refine q_aload_n (pc := 86) dX12_rate_86 rfl rfl ?_
          refine q_getP (pc := 87) dX12_rate_87 fX12_9 (Model_sh hm) ⟨by decide, rfl⟩ (Model_lt hm) (Model_p_g hm) ?_
          refine q_iload (pc := 90) dX12_rate_90 rfl ?_
          refine q_iconst (pc := 92) (v := nI 2) dX12_rate_92 (by decide) ?_
          refine q_iaddN (pc := 93) dX12_rate_93 ?_
          refine q_iload_n (pc := 94) dX12_rate_94 rfl rfl ?_
          refine q_iast (pc := 95) dX12_rate_95 (oA_sh (Model_s_g hm)) (oA_lt (Model_s_g hm)) rfl (by omega) ?_
          refine q_aload_n (pc := 96) dX12_rate_96 rfl rfl ?_
          refine q_getP (pc := 97) dX12_rate_97 fX12_9 (Model_sh hm) ⟨by decide, rfl⟩ (Model_lt hm) (Model_p_g hm) ?_
          refine q_iconst (pc := 100) (v := nI 3) dX12_rate_100 (by decide) ?_
          refine q_dup2 (pc := 101) dX12_rate_101 rfl rfl ?_
          refine q_iald (pc := 102) dX12_rate_102 (oA_sh (Model_s_g hm)) (oA_lt (Model_s_g hm)) rfl (by omega) ?_
          rw [show bq_u (bq_u (bq_u I1 (m + 1) (294 + 3 * gn g 3) d) (m + 1) (294 + 3 * gn g 3 + 1) s) (m + 1) (294 + 3 * gn g 3 + 2) a (m + 1) 3 = nI (gn g 3) from by rw [bq_u_no (by omega), bq_u_no (by omega), bq_u_no (by omega), hg1, h3]]
          refine q_iconst (pc := 103) (v := nI 1) dX12_rate_103 (by decide) ?_
          refine q_iaddN (pc := 104) dX12_rate_104 ?_
          refine q_iast (pc := 105) dX12_rate_105 (oA_sh (Model_s_g hm)) (oA_lt (Model_s_g hm)) rfl (by omega) ?_
          refine q_aload_n (pc := 106) dX12_rate_106 rfl rfl ?_
          refine q_getP (pc := 107) dX12_rate_107 fX12_9 (Model_sh hm) ⟨by decide, rfl⟩ (Model_lt hm) (Model_p_g hm) ?_
          refine q_iconst (pc := 110) (v := nI 3) dX12_rate_110 (by decide) ?_
          refine q_iald (pc := 111) dX12_rate_111 (oA_sh (Model_s_g hm)) (oA_lt (Model_s_g hm)) rfl (by omega) ?_
          rw [bq_u_at]
          refine q_iconst (pc := 112) (v := nI 1) dX12_rate_112 (by decide) ?_
          refine q_isub (pc := 113) dX12_rate_113 ?_
          rw [show nI (gn g 3 + 1) - nI 1 = g 3 from by rw [pk_sub (by omega), Nat.add_sub_cancel]; exact h3.symm]
          exact q_iret (st := []) (pc := 114) dX12_rate_114 rfl (qMo.mk ((((T1.u (k' := 294 + 3 * gn g 3 + 0) rfl d).u (k' := 294 + 3 * gn g 3 + 1) rfl s).u (k' := 294 + 3 * gn g 3 + 2) rfl a).u (k' := 3) rfl (nI (gn g 3 + 1))) (by unfold p_rate; rw [if_neg (by rintro (q | q | q); exact c_8 q; exact c_19 q; exact c_30 q), if_pos hr, chg_rem]; rfl))
        · refine q_bipush (pc := 47) (v := (-4)) dX12_rate_47 (by decide) ?_
          exact q_iret (st := []) (pc := 49) dX12_rate_49 rfl (qMo.mk T0 (by unfold p_rate; rw [if_neg (by rintro (q | q | q); exact c_8 q; exact c_19 q; exact c_30 q), if_neg (by have := (nI_eq (by omega) (by decide)).mp c_44; omega)]))
      · replace c_30 := bq_nb0.mp c_30
        refine q_bipush (pc := 33) (v := (-2)) dX12_rate_33 (by decide) ?_
        exact q_iret (st := []) (pc := 35) dX12_rate_35 rfl (qMo.mk T0 (by unfold p_rate; rw [if_pos (by first | exact Or.inl c_8 | exact Or.inr (Or.inl c_19) | exact Or.inr (Or.inr c_30))]))
set_option maxHeartbeats 2620000 in
set_option maxRecDepth 20000 in
theorem o_order {S : BqH} {n : Nat} {I : BqI} {L : BqL} {P : BqP} {m ch : Nat} {h : Nat → BqG} {g : BqG} (hm : oModel S n P m) (hH : MH m I h ch) (hg : I (m + 1) = g) {en : Nat} (hG : GI g en) (hen : en < 2 ^ 29) (hq : I m 6 = nI 0) {d l a b : Int32} : bq_Sp mX12_order 4 78 0 0 [.ref m, .int d, .int l, .int a, .int b] S n I L P (qMo m I S n L P (p_order g h ch (I m 7) d l a b)) := by
  refine q_entry (vs := [some (.ref m), some (.int d), some (.int l), some (.int a), some (.int b), none]) (by decide +kernel) (by simp) (Nat.le_of_ble_eq_true rfl) rfl ?_
  have T0 := MSt.mk hH hg
  have hq1 : 0 ≤ 1 := by decide
  have h3 : g 2 = nI (gn g 2) := hG.n (by decide) (by decide)
  have h3l : gn g 2 ≤ 10 := hG.2.2.2.1
  refine q_iload_n (pc := 0) dX12_order_0 rfl rfl ?_
  refine q_iconst (pc := 1) (v := nI 0) dX12_order_1 (by decide) ?_
  refine q_bipush (pc := 2) (v := nI 99) dX12_order_2 (by decide) ?_
  refine q_callSF (pc := 4) dX12_order_4 kX12_69 c_X12_in ⟨Nat.le_of_ble_eq_true rfl, Nat.le_of_ble_eq_true rfl⟩ rfl rfl (Nat.le_of_ble_eq_true rfl) ?_
  show bq_W _ _ _ _ _ 7 _ [_] _ _ _ _ _ _
  refine q_if_eq (pc := 7) 44 dX12_order_7 (by decide) (fun c_7 => ?_) (fun c_7 => ?_)
  · replace c_7 := bq_nb0.mp c_7
    refine q_bipush (pc := 44) (v := (-2)) dX12_order_44 (by decide) ?_
    exact q_iret (st := []) (pc := 46) dX12_order_46 rfl (qMo.mk T0 (by unfold p_order; rw [if_pos (by first | exact Or.inl c_7 | exact Or.inr (Or.inl c_18) | exact Or.inr (Or.inr (Or.inl c_29)) | exact Or.inr (Or.inr (Or.inr c_41)))]))
  · replace c_7 := bq_nbn.mp c_7
    refine q_iload_n (pc := 10) dX12_order_10 rfl rfl ?_
    refine q_iconst (pc := 11) (v := nI 1) dX12_order_11 (by decide) ?_
    refine q_sipush (pc := 12) (v := nI 9999) dX12_order_12 (by decide) ?_
    refine q_callSF (pc := 15) dX12_order_15 kX12_69 c_X12_in ⟨Nat.le_of_ble_eq_true rfl, Nat.le_of_ble_eq_true rfl⟩ rfl rfl (Nat.le_of_ble_eq_true rfl) ?_
    show bq_W _ _ _ _ _ 18 _ [_] _ _ _ _ _ _
    refine q_if_eq (pc := 18) 44 dX12_order_18 (by decide) (fun c_18 => ?_) (fun c_18 => ?_)
    · replace c_18 := bq_nb0.mp c_18
      refine q_bipush (pc := 44) (v := (-2)) dX12_order_44 (by decide) ?_
      exact q_iret (st := []) (pc := 46) dX12_order_46 rfl (qMo.mk T0 (by unfold p_order; rw [if_pos (by first | exact Or.inl c_7 | exact Or.inr (Or.inl c_18) | exact Or.inr (Or.inr (Or.inl c_29)) | exact Or.inr (Or.inr (Or.inr c_41)))]))
    · replace c_18 := bq_nbn.mp c_18
      refine q_iload_n (pc := 21) dX12_order_21 rfl rfl ?_
      refine q_iconst (pc := 22) (v := nI 0) dX12_order_22 (by decide) ?_
      refine q_sipush (pc := 23) (v := nI 2000) dX12_order_23 (by decide) ?_
      refine q_callSF (pc := 26) dX12_order_26 kX12_69 c_X12_in ⟨Nat.le_of_ble_eq_true rfl, Nat.le_of_ble_eq_true rfl⟩ rfl rfl (Nat.le_of_ble_eq_true rfl) ?_
      show bq_W _ _ _ _ _ 29 _ [_] _ _ _ _ _ _
      refine q_if_eq (pc := 29) 44 dX12_order_29 (by decide) (fun c_29 => ?_) (fun c_29 => ?_)
      · replace c_29 := bq_nb0.mp c_29
        refine q_bipush (pc := 44) (v := (-2)) dX12_order_44 (by decide) ?_
        exact q_iret (st := []) (pc := 46) dX12_order_46 rfl (qMo.mk T0 (by unfold p_order; rw [if_pos (by first | exact Or.inl c_7 | exact Or.inr (Or.inl c_18) | exact Or.inr (Or.inr (Or.inl c_29)) | exact Or.inr (Or.inr (Or.inr c_41)))]))
      · replace c_29 := bq_nbn.mp c_29
        refine q_iload (pc := 32) dX12_order_32 rfl ?_
        refine q_iload_n (pc := 34) dX12_order_34 rfl rfl ?_
        refine q_sipush (pc := 35) (v := nI 2000) dX12_order_35 (by decide) ?_
        refine q_callSF (pc := 38) dX12_order_38 kX12_69 c_X12_in ⟨Nat.le_of_ble_eq_true rfl, Nat.le_of_ble_eq_true rfl⟩ rfl rfl (Nat.le_of_ble_eq_true rfl) ?_
        show bq_W _ _ _ _ _ 41 _ [_] _ _ _ _ _ _
        refine q_if_ne (pc := 41) 47 dX12_order_41 (by decide) (fun c_41 => ?_) (fun c_41 => ?_)
        · replace c_41 := bq_nbn.mp c_41
          refine q_aload_n (pc := 47) dX12_order_47 rfl rfl ?_
          refine q_getP (pc := 48) dX12_order_48 fX12_9 (Model_sh hm) ⟨by decide, rfl⟩ (Model_lt hm) (Model_p_g hm) ?_
          refine q_iconst (pc := 51) (v := nI 2) dX12_order_51 (by decide) ?_
          refine q_iald (pc := 52) dX12_order_52 (oA_sh (Model_s_g hm)) (oA_lt (Model_s_g hm)) rfl (by omega) ?_
          rw [hg, h3]
          refine q_bipush (pc := 53) (v := nI 10) dX12_order_53 (by decide) ?_
          refine q_icmp_ne (pc := 55) 61 dX12_order_55 (by decide) (fun c_55 => ?_) (fun c_55 => ?_)
          · have hr : gn g 2 < 10 := Nat.lt_of_le_of_ne h3l (fun z => c_55 (by rw [z]))
            refine q_aload_n (pc := 61) dX12_order_61 rfl rfl ?_
            refine q_callV (pc := 62) dX12_order_62 kX12_102 (c_rem hm hH hg hq hq1) (Model_sh hm) rfl (Model_lt hm) ⟨Nat.le_of_ble_eq_true rfl, Nat.le_of_ble_eq_true rfl⟩ rfl rfl (Nat.le_of_ble_eq_true rfl) ?_
            rintro _ _ _ I1 L1 P1 ⟨rfl, rfl, rfl, rfl, rfl, H1, f1, f2⟩
            show bq_W _ _ _ _ _ 65 _ [] _ _ _ _ _ _
            have T1 := T0.rem H1 f1 f2
            have hg1 := T1.1
            refine q_sipush (pc := 65) (v := nI 204) dX12_order_65 (by decide) ?_
            refine q_bipush (pc := 68) (v := nI 9) dX12_order_68 (by decide) ?_
            refine q_aload_n (pc := 70) dX12_order_70 rfl rfl ?_
            refine q_getP (pc := 71) dX12_order_71 fX12_9 (Model_sh hm) ⟨by decide, rfl⟩ (Model_lt hm) (Model_p_g hm) ?_
            refine q_iconst (pc := 74) (v := nI 2) dX12_order_74 (by decide) ?_
            refine q_iald (pc := 75) dX12_order_75 (oA_sh (Model_s_g hm)) (oA_lt (Model_s_g hm)) rfl (by omega) ?_
            rw [hg1, h3]
            refine q_imulN (pc := 76) dX12_order_76 ?_
            refine q_iaddN (pc := 77) dX12_order_77 ?_
            refine q_istore (pc := 78) dX12_order_78 (Nat.le_of_ble_eq_true rfl) rfl ?_
            show bq_W _ _ _ _ _ 80 [_, _, _, _, _, _] _ _ _ _ _ _ _
            refine q_aload_n (pc := 80) dX12_order_80 rfl rfl ?_
            refine q_getP (pc := 81) dX12_order_81 fX12_9 (Model_sh hm) ⟨by decide, rfl⟩ (Model_lt hm) (Model_p_g hm) ?_
            refine q_iload (pc := 84) dX12_order_84 rfl ?_
            refine q_iconst (pc := 86) (v := nI 0) dX12_order_86 (by decide) ?_
            refine q_iaddN (pc := 87) dX12_order_87 ?_
            refine q_aload_n (pc := 88) dX12_order_88 rfl rfl ?_
            refine q_getP (pc := 89) dX12_order_89 fX12_9 (Model_sh hm) ⟨by decide, rfl⟩ (Model_lt hm) (Model_p_g hm) ?_
            refine q_iconst (pc := 92) (v := nI 0) dX12_order_92 (by decide) ?_
            refine q_iald (pc := 93) dX12_order_93 (oA_sh (Model_s_g hm)) (oA_lt (Model_s_g hm)) rfl (by omega) ?_
            rw [hg1]
            refine q_iload_n (pc := 94) dX12_order_94 rfl rfl ?_
            refine q_iadd (pc := 95) dX12_order_95 ?_
            refine q_iast (pc := 96) dX12_order_96 (oA_sh (Model_s_g hm)) (oA_lt (Model_s_g hm)) rfl (by omega) ?_
            refine q_aload_n (pc := 97) dX12_order_97 rfl rfl ?_
            refine q_getP (pc := 98) dX12_order_98 fX12_9 (Model_sh hm) ⟨by decide, rfl⟩ (Model_lt hm) (Model_p_g hm) ?_
            refine q_iload (pc := 101) dX12_order_101 rfl ?_
            refine q_iconst (pc := 103) (v := nI 1) dX12_order_103 (by decide) ?_
            refine q_iaddN (pc := 104) dX12_order_104 ?_
            refine q_iload_n (pc := 105) dX12_order_105 rfl rfl ?_
            refine q_iast (pc := 106) dX12_order_106 (oA_sh (Model_s_g hm)) (oA_lt (Model_s_g hm)) rfl (by omega) ?_
            refine q_aload_n (pc := 107) dX12_order_107 rfl rfl ?_
            refine q_getP (pc := 108) dX12_order_108 fX12_9 (Model_sh hm) ⟨by decide, rfl⟩ (Model_lt hm) (Model_p_g hm) ?_
            refine q_iload (pc := 111) dX12_order_111 rfl ?_
            refine q_iconst (pc := 113) (v := nI 2) dX12_order_113 (by decide) ?_
            refine q_iaddN (pc := 114) dX12_order_114 ?_
            refine q_iload_n (pc := 115) dX12_order_115 rfl rfl ?_
            refine q_iast (pc := 116) dX12_order_116 (oA_sh (Model_s_g hm)) (oA_lt (Model_s_g hm)) rfl (by omega) ?_
            refine q_aload_n (pc := 117) dX12_order_117 rfl rfl ?_
            refine q_getP (pc := 118) dX12_order_118 fX12_9 (Model_sh hm) ⟨by decide, rfl⟩ (Model_lt hm) (Model_p_g hm) ?_
            refine q_iload (pc := 121) dX12_order_121 rfl ?_
            refine q_iconst (pc := 123) (v := nI 3) dX12_order_123 (by decide) ?_
            refine q_iaddN (pc := 124) dX12_order_124 ?_
            refine q_iload (pc := 125) dX12_order_125 rfl ?_
            refine q_iast (pc := 127) dX12_order_127 (oA_sh (Model_s_g hm)) (oA_lt (Model_s_g hm)) rfl (by omega) ?_
            refine q_aload_n (pc := 128) dX12_order_128 rfl rfl ?_
            refine q_getP (pc := 129) dX12_order_129 fX12_9 (Model_sh hm) ⟨by decide, rfl⟩ (Model_lt hm) (Model_p_g hm) ?_
            refine q_iload (pc := 132) dX12_order_132 rfl ?_
            refine q_iconst (pc := 134) (v := nI 4) dX12_order_134 (by decide) ?_
            refine q_iaddN (pc := 135) dX12_order_135 ?_
            refine q_iconst (pc := 136) (v := nI 0) dX12_order_136 (by decide) ?_
            refine q_iast (pc := 137) dX12_order_137 (oA_sh (Model_s_g hm)) (oA_lt (Model_s_g hm)) rfl (by omega) ?_
            refine q_aload_n (pc := 138) dX12_order_138 rfl rfl ?_
            refine q_getP (pc := 139) dX12_order_139 fX12_9 (Model_sh hm) ⟨by decide, rfl⟩ (Model_lt hm) (Model_p_g hm) ?_
            refine q_iconst (pc := 142) (v := nI 2) dX12_order_142 (by decide) ?_
            refine q_dup2 (pc := 143) dX12_order_143 rfl rfl ?_
            refine q_iald (pc := 144) dX12_order_144 (oA_sh (Model_s_g hm)) (oA_lt (Model_s_g hm)) rfl (by omega) ?_
            rw [show bq_u (bq_u (bq_u (bq_u (bq_u I1 (m + 1) (204 + 9 * gn g 2 + 0) (g 0 + d)) (m + 1) (204 + 9 * gn g 2 + 1) l) (m + 1) (204 + 9 * gn g 2 + 2) a) (m + 1) (204 + 9 * gn g 2 + 3) b) (m + 1) (204 + 9 * gn g 2 + 4) (nI 0) (m + 1) 2 = nI (gn g 2) from by rw [bq_u_no (by omega), bq_u_no (by omega), bq_u_no (by omega), bq_u_no (by omega), bq_u_no (by omega), hg1, h3]]
            refine q_iconst (pc := 145) (v := nI 1) dX12_order_145 (by decide) ?_
            refine q_iaddN (pc := 146) dX12_order_146 ?_
            refine q_iast (pc := 147) dX12_order_147 (oA_sh (Model_s_g hm)) (oA_lt (Model_s_g hm)) rfl (by omega) ?_
            refine q_aload_n (pc := 148) dX12_order_148 rfl rfl ?_
            refine q_getP (pc := 149) dX12_order_149 fX12_9 (Model_sh hm) ⟨by decide, rfl⟩ (Model_lt hm) (Model_p_g hm) ?_
            refine q_iconst (pc := 152) (v := nI 2) dX12_order_152 (by decide) ?_
            refine q_iald (pc := 153) dX12_order_153 (oA_sh (Model_s_g hm)) (oA_lt (Model_s_g hm)) rfl (by omega) ?_
            rw [bq_u_at]
            refine q_iconst (pc := 154) (v := nI 1) dX12_order_154 (by decide) ?_
            refine q_isub (pc := 155) dX12_order_155 ?_
            rw [show nI (gn g 2 + 1) - nI 1 = g 2 from by rw [pk_sub (by omega), Nat.add_sub_cancel]; exact h3.symm]
            exact q_iret (st := []) (pc := 156) dX12_order_156 rfl (qMo.mk ((((((T1.u (k' := 204 + 9 * gn g 2 + 0) rfl (g 0 + d)).u (k' := 204 + 9 * gn g 2 + 1) rfl l).u (k' := 204 + 9 * gn g 2 + 2) rfl a).u (k' := 204 + 9 * gn g 2 + 3) rfl b).u (k' := 204 + 9 * gn g 2 + 4) rfl (nI 0)).u (k' := 2) rfl (nI (gn g 2 + 1))) (by unfold p_order; rw [if_neg (by rintro (q | q | q | q); exact c_7 q; exact c_18 q; exact c_29 q; exact c_41 q), if_pos hr, chg_rem]; rfl))
          · refine q_bipush (pc := 58) (v := (-4)) dX12_order_58 (by decide) ?_
            exact q_iret (st := []) (pc := 60) dX12_order_60 rfl (qMo.mk T0 (by unfold p_order; rw [if_neg (by rintro (q | q | q | q); exact c_7 q; exact c_18 q; exact c_29 q; exact c_41 q), if_neg (by have := (nI_eq (by omega) (by decide)).mp c_55; omega)]))
        · replace c_41 := bq_nb0.mp c_41
          refine q_bipush (pc := 44) (v := (-2)) dX12_order_44 (by decide) ?_
          exact q_iret (st := []) (pc := 46) dX12_order_46 rfl (qMo.mk T0 (by unfold p_order; rw [if_pos (by first | exact Or.inl c_7 | exact Or.inr (Or.inl c_18) | exact Or.inr (Or.inr (Or.inl c_29)) | exact Or.inr (Or.inr (Or.inr c_41)))]))
set_option maxHeartbeats 1000000 in
set_option maxRecDepth 20000 in
theorem o_clean_a {S : BqH} {n : Nat} {I : BqI} {L : BqL} {P : BqP} {m ch : Nat} {h : Nat → BqG} {g : BqG} (hm : oModel S n P m) (hH : MH m I h ch) (hg : I (m + 1) = g) {en : Nat} (hG : GI g en) (hen : en < 2 ^ 29) {q : Nat} (hq : I m 6 = nI q) (hq1 : q ≤ 1) {t : Int32} (ht : t < nI 0 ∨ ¬ t ≤ nI 5) : bq_Sp mX12_clean 4 78 0 0 [.ref m, .int t] S n I L P (qMo m I S n L P (mst q g h ch (I m 7) (w_scrub g t))) := by
  refine q_entry (vs := [some (.ref m), some (.int t)]) (by decide +kernel) (by simp) (Nat.le_of_ble_eq_true rfl) rfl ?_
  have T0 := MSt.mk hH hg
  refine q_iload_n (pc := 0) dX12_clean_0 rfl rfl ?_
  refine q_callSF (pc := 1) dX12_clean_1 kX12_95 c_X12_isTank ⟨Nat.le_of_ble_eq_true rfl, Nat.le_of_ble_eq_true rfl⟩ rfl rfl (Nat.le_of_ble_eq_true rfl) ?_
  show bq_W _ _ _ _ _ 4 _ [_] _ _ _ _ _ _
  refine q_if_ne (pc := 4) 13 dX12_clean_4 (by decide) (fun c_4 => (bq_nbn.mp c_4 ht).elim) (fun c_4 => ?_)
  refine q_aload_n (pc := 7) dX12_clean_7 rfl rfl ?_
  refine q_iconst (pc := 8) (v := nI 1) dX12_clean_8 (by decide) ?_
  refine q_callVF (pc := 9) dX12_clean_9 kX12_99 (c_X12_refuses hm) (Model_sh hm) rfl (Model_lt hm) ⟨Nat.le_of_ble_eq_true rfl, Nat.le_of_ble_eq_true rfl⟩ rfl rfl (Nat.le_of_ble_eq_true rfl) ?_
  show bq_W _ _ _ _ _ 12 _ [_] _ _ _ _ _ _
  exact q_iret (st := []) (pc := 12) dX12_clean_12 rfl (qMo.mk (T0.ref (nI 1)) (by unfold w_scrub; rw [if_pos ht, mst_neg (u := nI 1) (by decide) (by decide)]))
set_option maxHeartbeats 1340000 in
set_option maxRecDepth 20000 in
theorem o_clean_b {S : BqH} {n : Nat} {I : BqI} {L : BqL} {P : BqP} {m ch : Nat} {h : Nat → BqG} {g : BqG} (hm : oModel S n P m) (hH : MH m I h ch) (hg : I (m + 1) = g) {en : Nat} (hG : GI g en) (hen : en < 2 ^ 29) {q : Nat} (hq : I m 6 = nI q) (hq1 : q ≤ 1) {t : Nat} (ht : t < 6) : bq_Sp mX12_clean 4 78 0 0 [.ref m, .int (nI t)] S n I L P (qMo m I S n L P (mst q g h ch (I m 7) (w_scrub g (nI t)))) := by
  refine q_entry (vs := [some (.ref m), some (.int (nI t))]) (by decide +kernel) (by simp) (Nat.le_of_ble_eq_true rfl) rfl ?_
  have T0 := MSt.mk hH hg
  have h1 : g (11 + 19 * t) = nI (gn g (11 + 19 * t)) := hG.n (by omega) (by omega)
  have h1l : gn g (11 + 19 * t) < 2 ^ 31 := hG.lt (by omega) (by omega)
  have h0 : g 0 = nI (gn g 0) := hG.n (by decide) (by decide)
  have h0l := hG.2.1
  rw [w_scrub_n ht]
  refine q_iload_n (pc := 0) dX12_clean_0 rfl rfl ?_
  refine q_callSF (pc := 1) dX12_clean_1 kX12_95 c_X12_isTank ⟨Nat.le_of_ble_eq_true rfl, Nat.le_of_ble_eq_true rfl⟩ rfl rfl (Nat.le_of_ble_eq_true rfl) ?_
  show bq_W _ _ _ _ _ 4 _ [_] _ _ _ _ _ _
  refine q_if_ne (pc := 4) 13 dX12_clean_4 (by decide) (fun c_4 => ?_) (fun c_4 => (bq_tin ht (by decide) (bq_nb0.mp c_4)).elim)
  refine q_aload_n (pc := 13) dX12_clean_13 rfl rfl ?_
  refine q_iload_n (pc := 14) dX12_clean_14 rfl rfl ?_
  refine q_iconst (pc := 15) (v := nI 1) dX12_clean_15 (by decide) ?_
  refine q_callVF (pc := 16) dX12_clean_16 kX12_73 (c_tA hm (t := t) (k := 1) (j := 11 + 19 * t) (by omega) (by omega)) (Model_sh hm) rfl (Model_lt hm) ⟨Nat.le_of_ble_eq_true rfl, Nat.le_of_ble_eq_true rfl⟩ rfl rfl (Nat.le_of_ble_eq_true rfl) ?_
  show bq_W _ _ _ _ _ 19 _ [_] _ _ _ _ _ _
  rw [hg, h1]
  refine q_iconst (pc := 19) (v := nI 2) dX12_clean_19 (by decide) ?_
  refine q_icmp_eq (pc := 20) 30 dX12_clean_20 (by decide) (fun c_20 => ?_) (fun c_20 => ?_)
  · have hz := (nI_eq h1l (by decide)).mp c_20
    refine q_aload_n (pc := 30) dX12_clean_30 rfl rfl ?_
    refine q_callV (pc := 31) dX12_clean_31 kX12_102 (c_rem hm hH hg hq hq1) (Model_sh hm) rfl (Model_lt hm) ⟨Nat.le_of_ble_eq_true rfl, Nat.le_of_ble_eq_true rfl⟩ rfl rfl (Nat.le_of_ble_eq_true rfl) ?_
    rintro _ _ _ I1 L1 P1 ⟨rfl, rfl, rfl, rfl, rfl, H1, f1, f2⟩
    show bq_W _ _ _ _ _ 34 _ [] _ _ _ _ _ _
    have T1 := T0.rem H1 f1 f2
    have hg1 := T1.1
    refine q_aload_n (pc := 34) dX12_clean_34 rfl rfl ?_
    refine q_getP (pc := 35) dX12_clean_35 fX12_9 (Model_sh hm) ⟨by decide, rfl⟩ (Model_lt hm) (Model_p_g hm) ?_
    refine q_bipush (pc := 38) (v := nI 10) dX12_clean_38 (by decide) ?_
    refine q_bipush (pc := 40) (v := nI 19) dX12_clean_40 (by decide) ?_
    refine q_iload_n (pc := 42) dX12_clean_42 rfl rfl ?_
    refine q_imulN (pc := 43) dX12_clean_43 ?_
    refine q_iaddN (pc := 44) dX12_clean_44 ?_
    refine q_iconst (pc := 45) (v := nI 1) dX12_clean_45 (by decide) ?_
    refine q_iaddN (pc := 46) dX12_clean_46 ?_
    refine q_iconst (pc := 47) (v := nI 3) dX12_clean_47 (by decide) ?_
    refine q_iast (pc := 48) dX12_clean_48 (oA_sh (Model_s_g hm)) (oA_lt (Model_s_g hm)) rfl (by omega) ?_
    refine q_aload_n (pc := 49) dX12_clean_49 rfl rfl ?_
    refine q_getP (pc := 50) dX12_clean_50 fX12_9 (Model_sh hm) ⟨by decide, rfl⟩ (Model_lt hm) (Model_p_g hm) ?_
    refine q_bipush (pc := 53) (v := nI 10) dX12_clean_53 (by decide) ?_
    refine q_bipush (pc := 55) (v := nI 19) dX12_clean_55 (by decide) ?_
    refine q_iload_n (pc := 57) dX12_clean_57 rfl rfl ?_
    refine q_imulN (pc := 58) dX12_clean_58 ?_
    refine q_iaddN (pc := 59) dX12_clean_59 ?_
    refine q_iconst (pc := 60) (v := nI 2) dX12_clean_60 (by decide) ?_
    refine q_iaddN (pc := 61) dX12_clean_61 ?_
    refine q_aload_n (pc := 62) dX12_clean_62 rfl rfl ?_
    refine q_getP (pc := 63) dX12_clean_63 fX12_9 (Model_sh hm) ⟨by decide, rfl⟩ (Model_lt hm) (Model_p_g hm) ?_
    refine q_iconst (pc := 66) (v := nI 0) dX12_clean_66 (by decide) ?_
    refine q_iald (pc := 67) dX12_clean_67 (oA_sh (Model_s_g hm)) (oA_lt (Model_s_g hm)) rfl (by omega) ?_
    rw [bq_u_no (by omega), hg1, h0]
    refine q_iconst (pc := 68) (v := nI 2) dX12_clean_68 (by decide) ?_
    refine q_iaddN (pc := 69) dX12_clean_69 ?_
    refine q_iast (pc := 70) dX12_clean_70 (oA_sh (Model_s_g hm)) (oA_lt (Model_s_g hm)) rfl (by omega) ?_
    refine q_aload_n (pc := 71) dX12_clean_71 rfl rfl ?_
    refine q_getP (pc := 72) dX12_clean_72 fX12_9 (Model_sh hm) ⟨by decide, rfl⟩ (Model_lt hm) (Model_p_g hm) ?_
    refine q_iconst (pc := 75) (v := nI 0) dX12_clean_75 (by decide) ?_
    refine q_iald (pc := 76) dX12_clean_76 (oA_sh (Model_s_g hm)) (oA_lt (Model_s_g hm)) rfl (by omega) ?_
    rw [bq_u_no (by omega), bq_u_no (by omega), hg1, h0]
    refine q_iconst (pc := 77) (v := nI 2) dX12_clean_77 (by decide) ?_
    refine q_iaddN (pc := 78) dX12_clean_78 ?_
    exact q_iret (st := []) (pc := 79) dX12_clean_79 rfl (qMo.mk ((T1.u (k' := 11 + 19 * t) (by omega) (nI 3)).u (k' := 12 + 19 * t) (by omega) (nI (gn g 0 + 2))) (by rw [if_pos hz, mst_pos (nI_pos (by omega))]))
  · refine q_aload_n (pc := 23) dX12_clean_23 rfl rfl ?_
    refine q_bipush (pc := 24) (v := nI 7) dX12_clean_24 (by decide) ?_
    refine q_callVF (pc := 26) dX12_clean_26 kX12_99 (c_X12_refuses hm) (Model_sh hm) rfl (Model_lt hm) ⟨Nat.le_of_ble_eq_true rfl, Nat.le_of_ble_eq_true rfl⟩ rfl rfl (Nat.le_of_ble_eq_true rfl) ?_
    show bq_W _ _ _ _ _ 29 _ [_] _ _ _ _ _ _
    exact q_iret (st := []) (pc := 29) dX12_clean_29 rfl (qMo.mk (T0.ref (nI 7)) (by rw [if_neg (fun z => c_20 (by rw [z])), mst_neg (u := nI 7) (by decide) (by decide)]))
theorem o_clean {S : BqH} {n : Nat} {I : BqI} {L : BqL} {P : BqP} {m ch : Nat} {h : Nat → BqG} {g : BqG} (hm : oModel S n P m) (hH : MH m I h ch) (hg : I (m + 1) = g) {en : Nat} (hG : GI g en) (hen : en < 2 ^ 29) {q : Nat} (hq : I m 6 = nI q) (hq1 : q ≤ 1) {t : Int32} : bq_Sp mX12_clean 4 78 0 0 [.ref m, .int t] S n I L P (qMo m I S n L P (mst q g h ch (I m 7) (w_scrub g t))) := by
  rcases bq_in5 t 5 (by decide) with ht | ⟨t, ht, rfl⟩
  · exact o_clean_a hm hH hg hG hen hq hq1 ht
  · exact o_clean_b hm hH hg hG hen hq hq1 ht
theorem o_size {S : BqH} {n : Nat} {I : BqI} {L : BqL} {P : BqP} {m ch : Nat} {h : Nat → BqG} {g : BqG} (hm : oModel S n P m) (hH : MH m I h ch) (hg : I (m + 1) = g) {en : Nat} (hG : GI g en) (hen : en < 2 ^ 29) (hq : I m 6 = nI 0) {t v : Int32} : bq_Sp mX12_size 4 79 0 0 [.ref m, .int t, .int v] S n I L P (qMo m I S n L P (p_size g h ch (I m 7) t v)) := by
  rcases bq_in5 t 5 (by decide) with ht | ⟨t, ht, rfl⟩
  · exact o_size_a hm hH hg hG hen hq ht
  · exact o_size_b hm hH hg hG hen hq ht
