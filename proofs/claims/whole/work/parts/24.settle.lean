/-! a work between putting by and settling -/
def CXS (x : Nat) (S : BqH) (n : Nat) (I : BqI) (L : BqL) (P : BqP) (g : BqG) (h : Nat → BqG) (ch : Nat) : Prop := oX S n P x ∧ CS I L (x + 1) g ∧ I x 2 = nI ch ∧ ch ≤ 6 ∧ ∃ π, oPast S n P x π ∧ ∀ i, i < ch → CS I L (x + 165 + 53 * π i) (h i)
def FrO (x : Nat) (I I' : BqI) : Prop := (∀ a, a < x ∨ (x + 55 ≤ a ∧ a < x + 131) ∨ x + 536 ≤ a → I' a = I a) ∧ I' x 4 = I x 4
def FrOL (x : Nat) (L L' : BqL) : Prop := ∀ a, a < x + 1 ∨ (x + 54 ≤ a ∧ a < x + 165) ∨ x + 536 ≤ a → L' a = L a
def Mid (x : Nat) (S : BqH) (n : Nat) (I0 I : BqI) (L0 L : BqL) (P : BqP) (g g' : BqG) (h : Nat → BqG) (ch : Nat) (π : Nat → Nat) (y : Int32) : Prop := oX S n P x ∧ oPast S n P x π ∧ CS I L (x + 1) g' ∧ I x 2 = nI ch ∧ ch ≤ 6 ∧ (∀ i, i < ch → CS I L (x + 165 + 53 * π i) (h i)) ∧ CS I L (x + 165 + 53 * π ch) g ∧ I x 10 = y ∧ FrO x I0 I ∧ FrOL x L0 L
/-- answer, row, the changes' rows, their number, the reason -/
abbrev BqR : Type := Int32 × BqG × (Nat → BqG) × Nat × Int32
def stl (g g' : BqG) (h : Nat → BqG) (ch : Nat) (y v : Int32) : BqR := if v < 0 then ((-3), g', h, ch, -v) else if ch < 6 then (v, g', bq_r h ch g, ch + 1, y) else (v, g', (fun i => if i = 5 then g else h (i + 1)), 6, y)
theorem stl_neg {g g' : BqG} {h : Nat → BqG} {ch : Nat} {y v : Int32} (hv : v < 0) : stl g g' h ch y v = ((-3), g', h, ch, -v) := if_pos hv
theorem stl_lt {g g' : BqG} {h : Nat → BqG} {ch : Nat} {y v : Int32} (hv : ¬ v < 0) (hc : ch < 6) : stl g g' h ch y v = (v, g', bq_r h ch g, ch + 1, y) := (if_neg hv).trans (if_pos hc)
theorem stl_ge {g g' : BqG} {h : Nat → BqG} {y v : Int32} (hv : ¬ v < 0) : stl g g' h 6 y v = (v, g', (fun i => if i = 5 then g else h (i + 1)), 6, y) := (if_neg hv).trans (if_neg (by omega))
def qOp (x : Nat) (I : BqI) (L : BqL) (S : BqH) (n : Nat) (P : BqP) (w : BqR) : BqQ := fun r S' n' I' L' P' => r = some (.int w.1) ∧ S' = S ∧ n' = n ∧ CXS x S n I' L' P' w.2.1 w.2.2.1 w.2.2.2.1 ∧ I' x 10 = w.2.2.2.2 ∧ FrO x I I' ∧ FrOL x L L' ∧ (∀ a, a ≠ x + 54 → P' a = P a)
theorem put_1 {I : BqI} {L : BqL} {x : Nat} {g : BqG} {π : Nat → Nat} {ch : Nat} (hC : CS I L (x + 1) g) : CS (st_cpI I (x + 165 + 53 * π ch) (x + 1)) (st_cpL L (x + 165 + 53 * π ch) (x + 1)) (x + 1) g :=
  hC.fr (fun a h1 h2 => st_cpI_ne (by omega) (by omega)) (fun a h1 h2 => st_cpL_ne (by omega) (by omega))
theorem mid_mk {S : BqH} {n : Nat} {I I1 : BqI} {L L1 : BqL} {P : BqP} {x : Nat} {g g' : BqG} {h : Nat → BqG} {π : Nat → Nat} {ch : Nat} (hx : oX S n P x) (hP : oPast S n P x π) (hC : CS I L (x + 1) g) (hc : I x 2 = nI ch) (hl : ch ≤ 6) (hh : ∀ i, i < ch → CS I L (x + 165 + 53 * π i) (h i)) (C1 : CS I1 L1 (x + 1) g') (F1 : Frm x (st_cpI I (x + 165 + 53 * π ch) (x + 1)) I1) (F2 : FrmL x (st_cpL L (x + 165 + 53 * π ch) (x + 1)) L1) : Mid x S n I I1 L L1 P g g' h ch π (I x 10) := by
  have h7 := (hP.1 ch (by omega)).2
  refine ⟨hx, hP, C1, ?_, hl, fun i hi => ?_, ?_, ?_, ⟨fun a ha => ?_, ?_⟩, fun a ha => ?_⟩
  · rw [F1 x (by omega), st_cpI_ne (by omega) (by omega)]; exact hc
  · have hne : π i ≠ π ch := fun e => by have := hP.2.1 _ _ (by omega) (by omega) e; omega
    have hi7 := (hP.1 i (by omega)).2
    exact (hh i hi).fr (fun a q1 q2 => (F1 a (by omega)).trans (st_cpI_ne (by omega) (by omega))) (fun a q1 q2 => (F2 a (by omega)).trans (st_cpL_ne (by omega) (by omega)))
  · exact (hC.copy (by omega)).fr (fun a q1 q2 => F1 a (by omega)) (fun a q1 q2 => F2 a (by omega))
  · rw [F1 x (by omega), st_cpI_ne (by omega) (by omega)]
  · rw [F1 a (by omega), st_cpI_ne (by omega) (by omega)]
  · rw [F1 x (by omega), st_cpI_ne (by omega) (by omega)]
  · rw [F2 a (by omega), st_cpL_ne (by omega) (by omega)]
set_option maxHeartbeats 400000 in
set_option maxRecDepth 20000 in
theorem c_settle_a {S : BqH} {n : Nat} {I : BqI} {L : BqL} {P : BqP} {x : Nat} (hx : oX S n P x) {v : Int32} (hv : v < 0) : bq_Sp mX11_settle 2 35 0 0 [.ref x, .int v] S n I L P (bq_F (some (.int (-3))) S n (bq_u I x 10 (-v)) L P) := by
  refine q_entry (vs := [some (.ref x), some (.int v)]) (by decide +kernel) (by simp) (Nat.le_of_ble_eq_true rfl) rfl ?_
  refine q_iload_n (pc := 0) dX11_settle_0 rfl rfl ?_
  refine q_if_ge (pc := 1) 13 dX11_settle_1 (by decide) (fun c_1 => (Int32.not_lt.mpr c_1 hv).elim) (fun c_1 => ?_)
  refine q_aload_n (pc := 4) dX11_settle_4 rfl rfl ?_
  refine q_iload_n (pc := 5) dX11_settle_5 rfl rfl ?_
  refine q_ineg (pc := 6) dX11_settle_6 ?_
  refine q_callVF (pc := 7) dX11_settle_7 kX11_85 (c_refuse hx) (Cellar_sh hx) rfl (Cellar_lt hx) ⟨Nat.le_of_ble_eq_true rfl, Nat.le_of_ble_eq_true rfl⟩ rfl rfl (Nat.le_of_ble_eq_true rfl) ?_
  show bq_W _ _ _ _ _ 10 _ [_] _ _ _ _ _ _
  refine q_goto (pc := 10) 18 dX11_settle_10 (by decide) ?_
  exact q_iret (st := []) (pc := 18) dX11_settle_18 rfl ⟨rfl, rfl, rfl, rfl, rfl, rfl⟩
set_option maxHeartbeats 400000 in
set_option maxRecDepth 20000 in
theorem c_settle_b {S : BqH} {n : Nat} {I : BqI} {L : BqL} {P : BqP} {x : Nat} (hx : oX S n P x) {v : Int32} (hv : ¬ v < 0) {ch : Nat} (hc : I x 2 = nI ch) (hl : ch < 6) : bq_Sp mX11_settle 2 35 0 0 [.ref x, .int v] S n I L P (bq_F (some (.int v)) S n (bq_u I x 2 (nI (ch + 1))) L P) := by
  refine q_entry (vs := [some (.ref x), some (.int v)]) (by decide +kernel) (by simp) (Nat.le_of_ble_eq_true rfl) rfl ?_
  refine q_iload_n (pc := 0) dX11_settle_0 rfl rfl ?_
  refine q_if_ge (pc := 1) 13 dX11_settle_1 (by decide) (fun c_1 => ?_) (fun c_1 => (c_1 (Int32.not_lt.mp hv)).elim)
  refine q_aload_n (pc := 13) dX11_settle_13 rfl rfl ?_
  refine q_iload_n (pc := 14) dX11_settle_14 rfl rfl ?_
  refine q_callVF (pc := 15) dX11_settle_15 kX11_95 (c_changed_a hx hc hl) (Cellar_sh hx) rfl (Cellar_lt hx) ⟨Nat.le_of_ble_eq_true rfl, Nat.le_of_ble_eq_true rfl⟩ rfl rfl (Nat.le_of_ble_eq_true rfl) ?_
  show bq_W _ _ _ _ _ 18 _ [_] _ _ _ _ _ _
  exact q_iret (st := []) (pc := 18) dX11_settle_18 rfl ⟨rfl, rfl, rfl, rfl, rfl, rfl⟩
set_option maxHeartbeats 400000 in
set_option maxRecDepth 20000 in
theorem c_settle_c {S : BqH} {n : Nat} {I : BqI} {L : BqL} {P : BqP} {x : Nat} (hx : oX S n P x) {v : Int32} (hv : ¬ v < 0) {π : Nat → Nat} (hP : oPast S n P x π) (hc : I x 2 = nI 6) : bq_Sp mX11_settle 2 35 0 0 [.ref x, .int v] S n I L P (qRot x v I L S n P) := by
  refine q_entry (vs := [some (.ref x), some (.int v)]) (by decide +kernel) (by simp) (Nat.le_of_ble_eq_true rfl) rfl ?_
  refine q_iload_n (pc := 0) dX11_settle_0 rfl rfl ?_
  refine q_if_ge (pc := 1) 13 dX11_settle_1 (by decide) (fun c_1 => ?_) (fun c_1 => (c_1 (Int32.not_lt.mp hv)).elim)
  refine q_aload_n (pc := 13) dX11_settle_13 rfl rfl ?_
  refine q_iload_n (pc := 14) dX11_settle_14 rfl rfl ?_
  refine q_callV (pc := 15) dX11_settle_15 kX11_95 (c_changed_b hx hP hc) (Cellar_sh hx) rfl (Cellar_lt hx) ⟨Nat.le_of_ble_eq_true rfl, Nat.le_of_ble_eq_true rfl⟩ rfl rfl (Nat.le_of_ble_eq_true rfl) ?_
  rintro _ _ _ _ _ P1 ⟨rfl, rfl, rfl, rfl, rfl, p1, p2⟩
  show bq_W _ _ _ _ _ 18 _ [_] _ _ _ _ _ _
  exact q_iret (st := []) (pc := 18) dX11_settle_18 rfl ⟨rfl, rfl, rfl, rfl, rfl, p1, p2⟩
theorem c_settle {S : BqH} {n : Nat} {I0 I : BqI} {L0 L : BqL} {P : BqP} {x : Nat} {g g' : BqG} {h : Nat → BqG} {ch : Nat} {π : Nat → Nat} {y v : Int32} (hM : Mid x S n I0 I L0 L P g g' h ch π y) : bq_Sp mX11_settle 2 35 0 0 [.ref x, .int v] S n I L P (qOp x I0 L0 S n P (stl g g' h ch y v)) := by
  obtain ⟨hx, hP, hC, hc, hl, hh, hg, hy, hF, hFL⟩ := hM
  by_cases hv : v < 0
  · refine (c_settle_a hx hv).mono ?_
    rintro _ _ _ _ _ _ ⟨rfl, rfl, rfl, rfl, rfl, rfl⟩
    rw [stl_neg hv]
    refine ⟨rfl, rfl, rfl, ⟨hx, hC.fr (fun a q1 q2 => bq_u_ne (by omega)) (fun _ _ _ => rfl), (bq_u_no (by omega)).trans hc, hl, π, hP, fun i hi => (hh i hi).fr (fun a q1 q2 => bq_u_ne (by omega)) (fun _ _ _ => rfl)⟩, bq_u_at _ _ _ _, ⟨fun a ha => (bq_u_ne (by omega)).trans (hF.1 a ha), (bq_u_no (by omega)).trans hF.2⟩, hFL, fun _ _ => rfl⟩
  · by_cases h6 : ch < 6
    · refine (c_settle_b hx hv hc h6).mono ?_
      rintro _ _ _ _ _ _ ⟨rfl, rfl, rfl, rfl, rfl, rfl⟩
      rw [stl_lt hv h6]
      refine ⟨rfl, rfl, rfl, ⟨hx, hC.fr (fun a q1 q2 => bq_u_ne (by omega)) (fun _ _ _ => rfl), bq_u_at _ _ _ _, h6, π, hP, fun i hi => ?_⟩, (bq_u_no (by omega)).trans hy, ⟨fun a ha => (bq_u_ne (by omega)).trans (hF.1 a ha), (bq_u_no (by omega)).trans hF.2⟩, hFL, fun _ _ => rfl⟩
      show CS _ _ _ (bq_r h ch g i)
      by_cases e : i = ch
      · rw [e, bq_r_self]; exact hg.fr (fun a q1 q2 => bq_u_ne (by omega)) (fun _ _ _ => rfl)
      · rw [bq_r_ne e]; exact (hh i (by have hi' : i < ch + 1 := hi; omega)).fr (fun a q1 q2 => bq_u_ne (by omega)) (fun _ _ _ => rfl)
    · have e6 : ch = 6 := by omega
      subst e6
      refine (c_settle_c hx hv hP hc).mono ?_
      rintro _ _ _ _ _ P1 ⟨rfl, rfl, rfl, rfl, rfl, p1, p2⟩
      rw [stl_ge hv]
      refine ⟨rfl, rfl, rfl, ⟨hx.congr p1, hC, hc, hl, (fun i => π (if i = 6 then 0 else i + 1)), hP.congr p1 (fun i hi => ?_) (fun i j hi hj e => ?_), fun i hi => ?_⟩, hy, hF, hFL, p1⟩
      · rw [p2 i hi]
        refine hP.1 _ ?_
        split <;> omega
      · have := hP.2.1 _ _ (by split <;> omega) (by split <;> omega) e
        split at this <;> split at this <;> omega
      · have hi' : i < 6 := hi
        show CS _ _ (x + 165 + 53 * π (if i = 6 then 0 else i + 1)) (if i = 5 then g else h (i + 1))
        rw [if_neg (show ¬ i = 6 by omega)]
        by_cases e : i = 5
        · rw [if_pos e, e]; exact hg
        · rw [if_neg e]; exact hh (i + 1) (by omega)
