/-! mixing: the class's and the model's -/
def n_mix (g : BqG) (h : Nat → BqG) (ch : Nat) (y : Int32) (a b l w : Nat) : BqR := if ¬ (gn g (11 + 19 * a) = 1 ∧ gn g (11 + 19 * b) = 1) then ((-3), g, h, ch, nI 2) else (r_near (gp g a) (gp g b) (fun b => gn g (124 + 5 * b)) l w, g, h, ch, y)
def p_mix (g : BqG) (h : Nat → BqG) (ch : Nat) (y a b l w : Int32) : BqR := if (a < nI 0 ∨ ¬ a ≤ nI 5) ∨ (b < nI 0 ∨ ¬ b ≤ nI 5) ∨ a = b then ((-3), g, h, ch, nI 1) else if (l < nI 1 ∨ ¬ l ≤ nI 9999) ∨ (w < nI 0 ∨ ¬ w ≤ nI 2000) then ((-3), g, h, ch, nI 8) else n_mix g h ch y a.toNatClampNeg b.toNatClampNeg l.toNatClampNeg w.toNatClampNeg
theorem p_mix_n {g : BqG} {h : Nat → BqG} {ch a b l w : Nat} {y : Int32} (ha : a < 6) (hb : b < 6) (hne : a ≠ b) (hl1 : 1 ≤ l) (hl2 : l ≤ 9999) (hw : w ≤ 2000) : p_mix g h ch y (nI a) (nI b) (nI l) (nI w) = n_mix g h ch y a b l w := by
  unfold p_mix
  rw [if_neg (w_pour_ok ha hb hne), if_neg (fun q => q.elim (bq_nin hl1 hl2 (by decide)) (bq_nin (Nat.zero_le w) hw (by decide))), nI_clamp (by omega), nI_clamp (by omega), nI_clamp (by omega), nI_clamp (by omega)]
theorem CXS.fr2 {x : Nat} {S : BqH} {n : Nat} {I I' : BqI} {L : BqL} {P : BqP} {g : BqG} {h : Nat → BqG} {ch : Nat} (hX : CXS x S n I L P g h ch) (f : ∀ a, a < x + 131 ∨ x + 165 ≤ a → I' a = I a) : CXS x S n I' L P g h ch := by
  obtain ⟨hx, hC, hc, hl, π, hP, hh⟩ := hX
  exact ⟨hx, hC.fr (fun a q1 q2 => f a (by omega)) (fun _ _ _ => rfl), (congrFun (f x (by omega)) 2).trans hc, hl, π, hP, fun i hi => (hh i hi).fr (fun a q1 q2 => f a (by omega)) (fun _ _ _ => rfl)⟩
def qBy (m : Nat) (I : BqI) (S : BqH) (n : Nat) (L : BqL) (P : BqP) (v : Value) : BqQ := fun r S' n' I' L' P' => r = some v ∧ S' = S ∧ n' = n ∧ L' = L ∧ P' = P ∧ ∀ a, a < m + 6 ∨ m + 9 ≤ a → I' a = I a
def ls5 (d : Nat → Nat) (r : Option Nat) : Int64 := match r with
  | none => lN 0
  | some q => lN (d q)
theorem ri_ne5 {q : Nat} (h : q < 2 ^ 31) (e : nI q = (-5)) : False := by
  have := congrArg Int32.toInt e
  rw [nI_toInt h] at this
  have h2 : ((-5 : Int32)).toInt = -5 := by decide
  omega
theorem mx_min {l A : Nat} (hl : l < 2 ^ 31) (hA : A < 2 ^ 31) : (if nI A < nI l then nI A else nI l) = nI (min l A) := by
  by_cases c : A < l
  · rw [if_pos (nI_lt c hl), Nat.min_eq_right (by omega)]
  · rw [if_neg (nI_nlt (by omega) hA), Nat.min_eq_left (by omega)]
theorem mx_max {l B : Nat} (hl : l < 2 ^ 30) (hB : B < 2 ^ 30) : (if nI 0 < nI l - nI B then nI l - nI B else nI 0) = nI (l - B) := by
  by_cases c : B < l
  · rw [pk_sub (by omega), if_pos (nI_lt (by omega) (by omega))]
  · rw [show l - B = 0 by omega]
    refine if_neg (fun q => ?_)
    have h1 := Int32.lt_iff_toInt_lt.mp q
    rw [pk_sub_toInt hl hB, nI_toInt (by omega)] at h1
    omega
theorem mx_w2 {l w : Nat} (hl : l ≤ 9999) (hw : w ≤ 2000) : Lz ((nI w).toInt64 * (nI l).toInt64) (w * l : Nat) := by
  have h3 : w * l ≤ 2000 * 9999 := Nat.mul_le_mul hw hl
  rw [nI_l (by omega), nI_l (by omega), lN_mul]
  exact Lz.nat (by omega)
theorem mf_lt {d : Nat → Nat} {lo i q : Nat} (hr : mf d lo i = some q) : lo ≤ q ∧ q < lo + i := by
  rcases mf_ok d lo i with ⟨-, h⟩ | ⟨q', h1, h2, h3, -⟩
  · rw [h] at hr; cases hr
  · rw [h1] at hr
    have := Option.some.inj hr
    subst this; exact ⟨h2, h3⟩
theorem mf_none {d : Nat → Nat} {lo i : Nat} (hr : mf d lo i = none) : mf d lo (i + 1) = some (lo + i) := by
  show (match mf d lo i with | none => some (lo + i) | some q => if d (lo + i) < d q then some (lo + i) else some q) = _
  rw [hr]
theorem mf_lt2 {d : Nat → Nat} {lo i q : Nat} (hr : mf d lo i = some q) (h : d (lo + i) < d q) : mf d lo (i + 1) = some (lo + i) := by
  show (match mf d lo i with | none => some (lo + i) | some q => if d (lo + i) < d q then some (lo + i) else some q) = _
  rw [hr]; exact if_pos h
theorem mf_ge2 {d : Nat → Nat} {lo i q : Nat} (hr : mf d lo i = some q) (h : ¬ d (lo + i) < d q) : mf d lo (i + 1) = some q := by
  show (match mf d lo i with | none => some (lo + i) | some q => if d (lo + i) < d q then some (lo + i) else some q) = _
  rw [hr]; exact if_neg h
set_option maxHeartbeats 1000000 in
set_option maxRecDepth 20000 in
theorem m_mix_a {S : BqH} {n : Nat} {I : BqI} {L : BqL} {P : BqP} {x : Nat} {g : BqG} {h : Nat → BqG} {ch en : Nat} (hX : CXS x S n I L P g h ch) (hG : GI g en) (hen : en < 2 ^ 29) {a b l w : Int32} (ha : a < nI 0 ∨ ¬ a ≤ nI 5) (hb : b < nI 0 ∨ ¬ b ≤ nI 5) : bq_Sp mX11_mix 5 136 0 0 [.ref x, .int a, .int b, .int l, .int w] S n I L P (qOp x I L S n P (p_mix g h ch (I x 10) a b l w)) := by
  refine q_entry (vs := [some (.ref x), some (.int a), some (.int b), some (.int l), some (.int w), none, none]) (by decide +kernel) (by simp) (Nat.le_of_ble_eq_true rfl) rfl ?_
  have hX' := hX
  obtain ⟨hx, hC, hc, hl, π, hP, hh⟩ := hX
  refine q_aload_n (pc := 0) dX11_mix_0 rfl rfl ?_
  refine q_getP (pc := 1) dX11_mix_1 fX11_10 (Cellar_sh hx) ⟨by decide, rfl⟩ (Cellar_lt hx) (Cellar_p_state hx) ?_
  refine q_iload_n (pc := 4) dX11_mix_4 rfl rfl ?_
  refine q_callVF (pc := 5) dX11_mix_5 kX11_65 (c_tankAt0 (Cellar_s_state hx) ha) (State_sh (Cellar_s_state hx)) rfl (State_lt (Cellar_s_state hx)) ⟨Nat.le_of_ble_eq_true rfl, Nat.le_of_ble_eq_true rfl⟩ rfl rfl (Nat.le_of_ble_eq_true rfl) ?_
  show bq_W _ _ _ _ _ 8 _ [_] _ _ _ _ _ _
  refine q_astoreN (pc := 8) dX11_mix_8 (Nat.le_of_ble_eq_true rfl) rfl ?_
  show bq_W _ _ _ _ _ 10 [_, _, _, _, _, _, _] _ _ _ _ _ _ _
  refine q_aload_n (pc := 10) dX11_mix_10 rfl rfl ?_
  refine q_getP (pc := 11) dX11_mix_11 fX11_10 (Cellar_sh hx) ⟨by decide, rfl⟩ (Cellar_lt hx) (Cellar_p_state hx) ?_
  refine q_iload_n (pc := 14) dX11_mix_14 rfl rfl ?_
  refine q_callVF (pc := 15) dX11_mix_15 kX11_65 (c_tankAt0 (Cellar_s_state hx) hb) (State_sh (Cellar_s_state hx)) rfl (State_lt (Cellar_s_state hx)) ⟨Nat.le_of_ble_eq_true rfl, Nat.le_of_ble_eq_true rfl⟩ rfl rfl (Nat.le_of_ble_eq_true rfl) ?_
  show bq_W _ _ _ _ _ 18 _ [_] _ _ _ _ _ _
  refine q_astoreN (pc := 18) dX11_mix_18 (Nat.le_of_ble_eq_true rfl) rfl ?_
  show bq_W _ _ _ _ _ 20 [_, _, _, _, _, _, _] _ _ _ _ _ _ _
  refine q_aloadN (pc := 20) dX11_mix_20 rfl ?_
  refine q_ifnullN (pc := 22) 35 dX11_mix_22 (by decide) ?_
  refine q_aload_n (pc := 35) dX11_mix_35 rfl rfl ?_
  refine q_iconst (pc := 36) (v := nI 1) dX11_mix_36 (by decide) ?_
  refine q_callVF (pc := 37) dX11_mix_37 kX11_85 (c_refuse hx) (Cellar_sh hx) rfl (Cellar_lt hx) ⟨Nat.le_of_ble_eq_true rfl, Nat.le_of_ble_eq_true rfl⟩ rfl rfl (Nat.le_of_ble_eq_true rfl) ?_
  show bq_W _ _ _ _ _ 40 _ [_] _ _ _ _ _ _
  exact q_iret (st := []) (pc := 40) dX11_mix_40 rfl (qOp.ref hX' (by unfold p_mix; rw [if_pos (by first | exact Or.inl ha | exact Or.inr (Or.inl hb) | exact Or.inr (Or.inr rfl))]))
set_option maxHeartbeats 1000000 in
set_option maxRecDepth 20000 in
theorem m_mix_b {S : BqH} {n : Nat} {I : BqI} {L : BqL} {P : BqP} {x : Nat} {g : BqG} {h : Nat → BqG} {ch en : Nat} (hX : CXS x S n I L P g h ch) (hG : GI g en) (hen : en < 2 ^ 29) {a l w : Int32} {b : Nat} (ha : a < nI 0 ∨ ¬ a ≤ nI 5) (hb : b < 6) : bq_Sp mX11_mix 5 136 0 0 [.ref x, .int a, .int (nI b), .int l, .int w] S n I L P (qOp x I L S n P (p_mix g h ch (I x 10) a (nI b) l w)) := by
  refine q_entry (vs := [some (.ref x), some (.int a), some (.int (nI b)), some (.int l), some (.int w), none, none]) (by decide +kernel) (by simp) (Nat.le_of_ble_eq_true rfl) rfl ?_
  have hX' := hX
  obtain ⟨hx, hC, hc, hl, π, hP, hh⟩ := hX
  refine q_aload_n (pc := 0) dX11_mix_0 rfl rfl ?_
  refine q_getP (pc := 1) dX11_mix_1 fX11_10 (Cellar_sh hx) ⟨by decide, rfl⟩ (Cellar_lt hx) (Cellar_p_state hx) ?_
  refine q_iload_n (pc := 4) dX11_mix_4 rfl rfl ?_
  refine q_callVF (pc := 5) dX11_mix_5 kX11_65 (c_tankAt0 (Cellar_s_state hx) ha) (State_sh (Cellar_s_state hx)) rfl (State_lt (Cellar_s_state hx)) ⟨Nat.le_of_ble_eq_true rfl, Nat.le_of_ble_eq_true rfl⟩ rfl rfl (Nat.le_of_ble_eq_true rfl) ?_
  show bq_W _ _ _ _ _ 8 _ [_] _ _ _ _ _ _
  refine q_astoreN (pc := 8) dX11_mix_8 (Nat.le_of_ble_eq_true rfl) rfl ?_
  show bq_W _ _ _ _ _ 10 [_, _, _, _, _, _, _] _ _ _ _ _ _ _
  refine q_aload_n (pc := 10) dX11_mix_10 rfl rfl ?_
  refine q_getP (pc := 11) dX11_mix_11 fX11_10 (Cellar_sh hx) ⟨by decide, rfl⟩ (Cellar_lt hx) (Cellar_p_state hx) ?_
  refine q_iload_n (pc := 14) dX11_mix_14 rfl rfl ?_
  refine q_callVF (pc := 15) dX11_mix_15 kX11_65 (c_tankAt (Cellar_s_state hx) hb) (State_sh (Cellar_s_state hx)) rfl (State_lt (Cellar_s_state hx)) ⟨Nat.le_of_ble_eq_true rfl, Nat.le_of_ble_eq_true rfl⟩ rfl rfl (Nat.le_of_ble_eq_true rfl) ?_
  show bq_W _ _ _ _ _ 18 _ [_] _ _ _ _ _ _
  refine q_astore (pc := 18) dX11_mix_18 (Nat.le_of_ble_eq_true rfl) rfl ?_
  show bq_W _ _ _ _ _ 20 [_, _, _, _, _, _, _] _ _ _ _ _ _ _
  refine q_aloadN (pc := 20) dX11_mix_20 rfl ?_
  refine q_ifnullN (pc := 22) 35 dX11_mix_22 (by decide) ?_
  refine q_aload_n (pc := 35) dX11_mix_35 rfl rfl ?_
  refine q_iconst (pc := 36) (v := nI 1) dX11_mix_36 (by decide) ?_
  refine q_callVF (pc := 37) dX11_mix_37 kX11_85 (c_refuse hx) (Cellar_sh hx) rfl (Cellar_lt hx) ⟨Nat.le_of_ble_eq_true rfl, Nat.le_of_ble_eq_true rfl⟩ rfl rfl (Nat.le_of_ble_eq_true rfl) ?_
  show bq_W _ _ _ _ _ 40 _ [_] _ _ _ _ _ _
  exact q_iret (st := []) (pc := 40) dX11_mix_40 rfl (qOp.ref hX' (by unfold p_mix; rw [if_pos (by first | exact Or.inl ha | exact Or.inr (Or.inr rfl))]))
set_option maxHeartbeats 1000000 in
set_option maxRecDepth 20000 in
theorem m_mix_c {S : BqH} {n : Nat} {I : BqI} {L : BqL} {P : BqP} {x : Nat} {g : BqG} {h : Nat → BqG} {ch en : Nat} (hX : CXS x S n I L P g h ch) (hG : GI g en) (hen : en < 2 ^ 29) {b l w : Int32} {a : Nat} (ha : a < 6) (hb : b < nI 0 ∨ ¬ b ≤ nI 5) : bq_Sp mX11_mix 5 136 0 0 [.ref x, .int (nI a), .int b, .int l, .int w] S n I L P (qOp x I L S n P (p_mix g h ch (I x 10) (nI a) b l w)) := by
  refine q_entry (vs := [some (.ref x), some (.int (nI a)), some (.int b), some (.int l), some (.int w), none, none]) (by decide +kernel) (by simp) (Nat.le_of_ble_eq_true rfl) rfl ?_
  have hX' := hX
  obtain ⟨hx, hC, hc, hl, π, hP, hh⟩ := hX
  refine q_aload_n (pc := 0) dX11_mix_0 rfl rfl ?_
  refine q_getP (pc := 1) dX11_mix_1 fX11_10 (Cellar_sh hx) ⟨by decide, rfl⟩ (Cellar_lt hx) (Cellar_p_state hx) ?_
  refine q_iload_n (pc := 4) dX11_mix_4 rfl rfl ?_
  refine q_callVF (pc := 5) dX11_mix_5 kX11_65 (c_tankAt (Cellar_s_state hx) ha) (State_sh (Cellar_s_state hx)) rfl (State_lt (Cellar_s_state hx)) ⟨Nat.le_of_ble_eq_true rfl, Nat.le_of_ble_eq_true rfl⟩ rfl rfl (Nat.le_of_ble_eq_true rfl) ?_
  show bq_W _ _ _ _ _ 8 _ [_] _ _ _ _ _ _
  refine q_astore (pc := 8) dX11_mix_8 (Nat.le_of_ble_eq_true rfl) rfl ?_
  show bq_W _ _ _ _ _ 10 [_, _, _, _, _, _, _] _ _ _ _ _ _ _
  refine q_aload_n (pc := 10) dX11_mix_10 rfl rfl ?_
  refine q_getP (pc := 11) dX11_mix_11 fX11_10 (Cellar_sh hx) ⟨by decide, rfl⟩ (Cellar_lt hx) (Cellar_p_state hx) ?_
  refine q_iload_n (pc := 14) dX11_mix_14 rfl rfl ?_
  refine q_callVF (pc := 15) dX11_mix_15 kX11_65 (c_tankAt0 (Cellar_s_state hx) hb) (State_sh (Cellar_s_state hx)) rfl (State_lt (Cellar_s_state hx)) ⟨Nat.le_of_ble_eq_true rfl, Nat.le_of_ble_eq_true rfl⟩ rfl rfl (Nat.le_of_ble_eq_true rfl) ?_
  show bq_W _ _ _ _ _ 18 _ [_] _ _ _ _ _ _
  refine q_astoreN (pc := 18) dX11_mix_18 (Nat.le_of_ble_eq_true rfl) rfl ?_
  show bq_W _ _ _ _ _ 20 [_, _, _, _, _, _, _] _ _ _ _ _ _ _
  refine q_aload (pc := 20) dX11_mix_20 rfl ?_
  refine q_ifnull (pc := 22) dX11_mix_22 ?_
  refine q_aloadN (pc := 25) dX11_mix_25 rfl ?_
  refine q_ifnullN (pc := 27) 35 dX11_mix_27 (by decide) ?_
  refine q_aload_n (pc := 35) dX11_mix_35 rfl rfl ?_
  refine q_iconst (pc := 36) (v := nI 1) dX11_mix_36 (by decide) ?_
  refine q_callVF (pc := 37) dX11_mix_37 kX11_85 (c_refuse hx) (Cellar_sh hx) rfl (Cellar_lt hx) ⟨Nat.le_of_ble_eq_true rfl, Nat.le_of_ble_eq_true rfl⟩ rfl rfl (Nat.le_of_ble_eq_true rfl) ?_
  show bq_W _ _ _ _ _ 40 _ [_] _ _ _ _ _ _
  exact q_iret (st := []) (pc := 40) dX11_mix_40 rfl (qOp.ref hX' (by unfold p_mix; rw [if_pos (by first | exact Or.inr (Or.inl hb) | exact Or.inr (Or.inr rfl))]))
set_option maxHeartbeats 2000000 in
set_option maxRecDepth 20000 in
theorem m_mix_d {S : BqH} {n : Nat} {I : BqI} {L : BqL} {P : BqP} {x : Nat} {g : BqG} {h : Nat → BqG} {ch en : Nat} (hX : CXS x S n I L P g h ch) (hG : GI g en) (hen : en < 2 ^ 29) {l w : Int32} {a b : Nat} (ha : a < 6) (hb : b < 6) : bq_Sp mX11_mix 5 136 0 0 [.ref x, .int (nI a), .int (nI b), .int l, .int w] S n I L P (qOp x I L S n P (p_mix g h ch (I x 10) (nI a) (nI b) l w)) := by
  refine q_entry (vs := [some (.ref x), some (.int (nI a)), some (.int (nI b)), some (.int l), some (.int w), none, none]) (by decide +kernel) (by simp) (Nat.le_of_ble_eq_true rfl) rfl ?_
  have hX' := hX
  obtain ⟨hx, hC, hc, hl, π, hP, hh⟩ := hX
  have a1 : I (x + 1 + 15 + 3 * a) 1 = nI (gn g (11 + 19 * a)) := hC.1.tn1 hG ha
  have b1 : I (x + 1 + 15 + 3 * b) 1 = nI (gn g (11 + 19 * b)) := hC.1.tn1 hG hb
  obtain ⟨qa1, qa2, qa3, qa4, qa5, qa6⟩ := hG.t ha
  obtain ⟨qb1, qb2, qb3, qb4, qb5, qb6⟩ := hG.t hb
  refine q_aload_n (pc := 0) dX11_mix_0 rfl rfl ?_
  refine q_getP (pc := 1) dX11_mix_1 fX11_10 (Cellar_sh hx) ⟨by decide, rfl⟩ (Cellar_lt hx) (Cellar_p_state hx) ?_
  refine q_iload_n (pc := 4) dX11_mix_4 rfl rfl ?_
  refine q_callVF (pc := 5) dX11_mix_5 kX11_65 (c_tankAt (Cellar_s_state hx) ha) (State_sh (Cellar_s_state hx)) rfl (State_lt (Cellar_s_state hx)) ⟨Nat.le_of_ble_eq_true rfl, Nat.le_of_ble_eq_true rfl⟩ rfl rfl (Nat.le_of_ble_eq_true rfl) ?_
  show bq_W _ _ _ _ _ 8 _ [_] _ _ _ _ _ _
  refine q_astore (pc := 8) dX11_mix_8 (Nat.le_of_ble_eq_true rfl) rfl ?_
  show bq_W _ _ _ _ _ 10 [_, _, _, _, _, _, _] _ _ _ _ _ _ _
  refine q_aload_n (pc := 10) dX11_mix_10 rfl rfl ?_
  refine q_getP (pc := 11) dX11_mix_11 fX11_10 (Cellar_sh hx) ⟨by decide, rfl⟩ (Cellar_lt hx) (Cellar_p_state hx) ?_
  refine q_iload_n (pc := 14) dX11_mix_14 rfl rfl ?_
  refine q_callVF (pc := 15) dX11_mix_15 kX11_65 (c_tankAt (Cellar_s_state hx) hb) (State_sh (Cellar_s_state hx)) rfl (State_lt (Cellar_s_state hx)) ⟨Nat.le_of_ble_eq_true rfl, Nat.le_of_ble_eq_true rfl⟩ rfl rfl (Nat.le_of_ble_eq_true rfl) ?_
  show bq_W _ _ _ _ _ 18 _ [_] _ _ _ _ _ _
  refine q_astore (pc := 18) dX11_mix_18 (Nat.le_of_ble_eq_true rfl) rfl ?_
  show bq_W _ _ _ _ _ 20 [_, _, _, _, _, _, _] _ _ _ _ _ _ _
  refine q_aload (pc := 20) dX11_mix_20 rfl ?_
  refine q_ifnull (pc := 22) dX11_mix_22 ?_
  refine q_aload (pc := 25) dX11_mix_25 rfl ?_
  refine q_ifnull (pc := 27) dX11_mix_27 ?_
  refine q_iload_n (pc := 30) dX11_mix_30 rfl rfl ?_
  refine q_iload_n (pc := 31) dX11_mix_31 rfl rfl ?_
  refine q_icmp_ne (pc := 32) 41 dX11_mix_32 (by decide) (fun c_32 => ?_) (fun c_32 => ?_)
  · have hne : a ≠ b := fun z => c_32 (by rw [z])
    refine q_iload_n (pc := 41) dX11_mix_41 rfl rfl ?_
    refine q_iconst (pc := 42) (v := nI 1) dX11_mix_42 (by decide) ?_
    refine q_sipush (pc := 43) (v := nI 9999) dX11_mix_43 (by decide) ?_
    refine q_callSF (pc := 46) dX11_mix_46 kX11_69 c_X11_outside ⟨Nat.le_of_ble_eq_true rfl, Nat.le_of_ble_eq_true rfl⟩ rfl rfl (Nat.le_of_ble_eq_true rfl) ?_
    show bq_W _ _ _ _ _ 49 _ [_] _ _ _ _ _ _
    refine q_if_ne (pc := 49) 64 dX11_mix_49 (by decide) (fun c_49 => ?_) (fun c_49 => ?_)
    · replace c_49 := bq_bn.mp c_49
      refine q_aload_n (pc := 64) dX11_mix_64 rfl rfl ?_
      refine q_bipush (pc := 65) (v := nI 8) dX11_mix_65 (by decide) ?_
      refine q_callVF (pc := 67) dX11_mix_67 kX11_85 (c_refuse hx) (Cellar_sh hx) rfl (Cellar_lt hx) ⟨Nat.le_of_ble_eq_true rfl, Nat.le_of_ble_eq_true rfl⟩ rfl rfl (Nat.le_of_ble_eq_true rfl) ?_
      show bq_W _ _ _ _ _ 70 _ [_] _ _ _ _ _ _
      exact q_iret (st := []) (pc := 70) dX11_mix_70 rfl (qOp.ref hX' (by unfold p_mix; rw [if_neg (w_pour_ok ha hb hne), if_pos (by first | exact Or.inl c_49 | exact Or.inr c_61)]))
    · replace c_49 := bq_b0.mp c_49
      refine q_iload (pc := 52) dX11_mix_52 rfl ?_
      refine q_iconst (pc := 54) (v := nI 0) dX11_mix_54 (by decide) ?_
      refine q_sipush (pc := 55) (v := nI 2000) dX11_mix_55 (by decide) ?_
      refine q_callSF (pc := 58) dX11_mix_58 kX11_69 c_X11_outside ⟨Nat.le_of_ble_eq_true rfl, Nat.le_of_ble_eq_true rfl⟩ rfl rfl (Nat.le_of_ble_eq_true rfl) ?_
      show bq_W _ _ _ _ _ 61 _ [_] _ _ _ _ _ _
      refine q_if_eq (pc := 61) 71 dX11_mix_61 (by decide) (fun c_61 => ?_) (fun c_61 => ?_)
      · replace c_61 := bq_b0.mp c_61
        obtain ⟨l, hl1, hl2, rfl⟩ := (bq_in19 l 1 9999 (by decide) (by decide)).resolve_left c_49
        obtain ⟨w, hw2, rfl⟩ := (bq_in5 w 2000 (by decide)).resolve_left c_61
        have hw := p_mix_n (g := g) (h := h) (ch := ch) (y := I x 10) ha hb hne hl1 hl2 (show w ≤ 2000 by omega)
        refine q_aload (pc := 71) dX11_mix_71 rfl ?_
        refine q_getI (pc := 73) dX11_mix_73 fX11_101 (Tank_sh (Statetanks_s_el (Cellar_s_state hx) ha)) ⟨by decide, rfl⟩ (Tank_lt (Statetanks_s_el (Cellar_s_state hx) ha)) ?_
        rw [a1]
        refine q_iconst (pc := 76) (v := nI 1) dX11_mix_76 (by decide) ?_
        refine q_icmp_ne (pc := 77) 89 dX11_mix_77 (by decide) (fun c_77 => ?_) (fun c_77 => ?_)
        · refine q_aload_n (pc := 89) dX11_mix_89 rfl rfl ?_
          refine q_iconst (pc := 90) (v := nI 2) dX11_mix_90 (by decide) ?_
          refine q_callVF (pc := 91) dX11_mix_91 kX11_85 (c_refuse hx) (Cellar_sh hx) rfl (Cellar_lt hx) ⟨Nat.le_of_ble_eq_true rfl, Nat.le_of_ble_eq_true rfl⟩ rfl rfl (Nat.le_of_ble_eq_true rfl) ?_
          show bq_W _ _ _ _ _ 94 _ [_] _ _ _ _ _ _
          exact q_iret (st := []) (pc := 94) dX11_mix_94 rfl (qOp.ref hX' (by rw [hw]; unfold n_mix; rw [if_pos (fun z => by first | exact c_77 (by rw [z.1]) | exact c_86 (by rw [z.2]))]))
        · refine q_aload (pc := 80) dX11_mix_80 rfl ?_
          refine q_getI (pc := 82) dX11_mix_82 fX11_101 (Tank_sh (Statetanks_s_el (Cellar_s_state hx) hb)) ⟨by decide, rfl⟩ (Tank_lt (Statetanks_s_el (Cellar_s_state hx) hb)) ?_
          rw [b1]
          refine q_iconst (pc := 85) (v := nI 1) dX11_mix_85 (by decide) ?_
          refine q_icmp_eq (pc := 86) 95 dX11_mix_86 (by decide) (fun c_86 => ?_) (fun c_86 => ?_)
          · have hA : gn g (11 + 19 * a) = 1 ∧ gn g (11 + 19 * b) = 1 := ⟨(nI_eq (by omega) (by decide)).mp c_77, (nI_eq (by omega) (by decide)).mp c_86⟩
            refine q_aload_n (pc := 95) dX11_mix_95 rfl rfl ?_
            refine q_getP (pc := 96) dX11_mix_96 fX11_48 (Cellar_sh hx) ⟨by decide, rfl⟩ (Cellar_lt hx) (Cellar_p_mixer hx) ?_
            refine q_aload (pc := 99) dX11_mix_99 rfl ?_
            refine q_getP (pc := 101) dX11_mix_101 fX11_73 (Tank_sh (Statetanks_s_el (Cellar_s_state hx) ha)) ⟨by decide, rfl⟩ (Tank_lt (Statetanks_s_el (Cellar_s_state hx) ha)) (Tank_p_content (Statetanks_s_el (Cellar_s_state hx) ha)) ?_
            refine q_aload (pc := 104) dX11_mix_104 rfl ?_
            refine q_getP (pc := 106) dX11_mix_106 fX11_73 (Tank_sh (Statetanks_s_el (Cellar_s_state hx) hb)) ⟨by decide, rfl⟩ (Tank_lt (Statetanks_s_el (Cellar_s_state hx) hb)) (Tank_p_content (Statetanks_s_el (Cellar_s_state hx) hb)) ?_
            refine q_aload_n (pc := 109) dX11_mix_109 rfl rfl ?_
            refine q_getP (pc := 110) dX11_mix_110 fX11_10 (Cellar_sh hx) ⟨by decide, rfl⟩ (Cellar_lt hx) (Cellar_p_state hx) ?_
            refine q_getP (pc := 113) dX11_mix_113 fX11_233 (State_sh (Cellar_s_state hx)) ⟨by decide, rfl⟩ (State_lt (Cellar_s_state hx)) (State_p_strengths (Cellar_s_state hx)) ?_
            refine q_iload_n (pc := 116) dX11_mix_116 rfl rfl ?_
            refine q_iload (pc := 117) dX11_mix_117 rfl ?_
            refine q_callV (pc := 119) dX11_mix_119 kX11_263 (c_near (F := gp g a) (G := gp g b) (s := fun b => gn g (124 + 5 * b)) hx (Tank_s_content (Statetanks_s_el (Cellar_s_state hx) ha)) (Tank_s_content (Statetanks_s_el (Cellar_s_state hx) hb)) (State_s_strengths (Cellar_s_state hx)) (by omega) (by omega) (by omega) (hC.1.pn hG ha) (hC.1.pn hG hb) (fun j hj => (hC.1.at (lc_B0 hj)).trans (hG.n (by omega) (by omega))) (fun j hj => (hG.2.2.2.2.2.2.2.2.1 j hj).1) (show 0 < gt g a by omega) (show 0 < gt g b by omega) (show gt g a ≤ 9999 by omega) (show gt g b ≤ 9999 by omega) hl2 (show w ≤ 2000 by omega)) (Mixer_sh (Cellar_s_mixer hx)) rfl (Mixer_lt (Cellar_s_mixer hx)) ⟨Nat.le_of_ble_eq_true rfl, Nat.le_of_ble_eq_true rfl⟩ rfl rfl (Nat.le_of_ble_eq_true rfl) ?_
            rintro _ S1 n1 I1 L1 P1 ⟨rfl, eS1, en1, eL1, eP1, f1⟩
            subst S1 n1 L1 P1
            show bq_W _ _ _ _ _ 122 _ [_] _ _ _ _ _ _
            exact q_iret (st := []) (pc := 122) dX11_mix_122 rfl ⟨by rw [hw]; unfold n_mix; rw [if_neg (not_not_intro hA)], rfl, rfl, by rw [hw]; unfold n_mix; rw [if_neg (not_not_intro hA)]; exact CXS.fr2 hX' (fun a ha => f1 a (by omega) (by omega)), by rw [hw]; unfold n_mix; rw [if_neg (not_not_intro hA)]; exact congrFun (f1 x (by omega) (by omega)) 10, ⟨fun a ha => f1 a (by omega) (by omega), congrFun (f1 x (by omega) (by omega)) 4⟩, fun _ _ => rfl, fun _ _ => rfl⟩
          · refine q_aload_n (pc := 89) dX11_mix_89 rfl rfl ?_
            refine q_iconst (pc := 90) (v := nI 2) dX11_mix_90 (by decide) ?_
            refine q_callVF (pc := 91) dX11_mix_91 kX11_85 (c_refuse hx) (Cellar_sh hx) rfl (Cellar_lt hx) ⟨Nat.le_of_ble_eq_true rfl, Nat.le_of_ble_eq_true rfl⟩ rfl rfl (Nat.le_of_ble_eq_true rfl) ?_
            show bq_W _ _ _ _ _ 94 _ [_] _ _ _ _ _ _
            exact q_iret (st := []) (pc := 94) dX11_mix_94 rfl (qOp.ref hX' (by rw [hw]; unfold n_mix; rw [if_pos (fun z => by first | exact c_77 (by rw [z.1]) | exact c_86 (by rw [z.2]))]))
      · replace c_61 := bq_bn.mp c_61
        refine q_aload_n (pc := 64) dX11_mix_64 rfl rfl ?_
        refine q_bipush (pc := 65) (v := nI 8) dX11_mix_65 (by decide) ?_
        refine q_callVF (pc := 67) dX11_mix_67 kX11_85 (c_refuse hx) (Cellar_sh hx) rfl (Cellar_lt hx) ⟨Nat.le_of_ble_eq_true rfl, Nat.le_of_ble_eq_true rfl⟩ rfl rfl (Nat.le_of_ble_eq_true rfl) ?_
        show bq_W _ _ _ _ _ 70 _ [_] _ _ _ _ _ _
        exact q_iret (st := []) (pc := 70) dX11_mix_70 rfl (qOp.ref hX' (by unfold p_mix; rw [if_neg (w_pour_ok ha hb hne), if_pos (by first | exact Or.inl c_49 | exact Or.inr c_61)]))
  · refine q_aload_n (pc := 35) dX11_mix_35 rfl rfl ?_
    refine q_iconst (pc := 36) (v := nI 1) dX11_mix_36 (by decide) ?_
    refine q_callVF (pc := 37) dX11_mix_37 kX11_85 (c_refuse hx) (Cellar_sh hx) rfl (Cellar_lt hx) ⟨Nat.le_of_ble_eq_true rfl, Nat.le_of_ble_eq_true rfl⟩ rfl rfl (Nat.le_of_ble_eq_true rfl) ?_
    show bq_W _ _ _ _ _ 40 _ [_] _ _ _ _ _ _
    exact q_iret (st := []) (pc := 40) dX11_mix_40 rfl (qOp.ref hX' (by unfold p_mix; rw [if_pos (Or.inr (Or.inr c_32))]))
theorem m_mix {S : BqH} {n : Nat} {I : BqI} {L : BqL} {P : BqP} {x : Nat} {g : BqG} {h : Nat → BqG} {ch en : Nat} (hX : CXS x S n I L P g h ch) (hG : GI g en) (hen : en < 2 ^ 29) {a b l w : Int32} : bq_Sp mX11_mix 5 136 0 0 [.ref x, .int a, .int b, .int l, .int w] S n I L P (qOp x I L S n P (p_mix g h ch (I x 10) a b l w)) := by
  rcases bq_in5 a 5 (by decide) with ha | ⟨a, ha, rfl⟩
  · rcases bq_in5 b 5 (by decide) with hb | ⟨b, hb, rfl⟩
    · exact m_mix_a hX hG hen ha hb
    · exact m_mix_b hX hG hen ha hb
  · rcases bq_in5 b 5 (by decide) with hb | ⟨b, hb, rfl⟩
    · exact m_mix_c hX hG hen ha hb
    · exact m_mix_d hX hG hen ha hb
set_option maxHeartbeats 1000000 in
set_option maxRecDepth 20000 in
theorem c_by {S : BqH} {n : Nat} {I : BqI} {L : BqL} {P : BqP} {m t k : Nat} {g : BqG} (hm : oModel S n P m) (hg : I (m + 1) = g) {en : Nat} (hG : GI g en) (ht : t < 6) (hk : k ≤ gt g t) (hp : 0 < gt g t) : bq_Sp mX12_alcoholBy 4 78 0 0 [.ref m, .int (nI t), .int (nI k)] S n I L P (qBy m I S n L P (.long (nJ (al (npt (gp g t) k) (fun b => gn g (124 + 5 * b)))))) := by
  refine q_entry (vs := [some (.ref m), some (.int (nI t)), some (.int (nI k))]) (by decide +kernel) (by simp) (Nat.le_of_ble_eq_true rfl) rfl ?_
  obtain ⟨q1, q2, q3, q4, q5, q6⟩ := hG.t ht
  have hb : ns (gp g t) 16 ≤ 9999 := show gt g t ≤ 9999 by omega
  refine q_aload_n (pc := 0) dX12_alcoholBy_0 rfl rfl ?_
  refine q_iload_n (pc := 1) dX12_alcoholBy_1 rfl rfl ?_
  refine q_callVF (pc := 2) dX12_alcoholBy_2 kX12_105 (c_X12_looksAt hm (t := t) (by omega)) (Model_sh hm) rfl (Model_lt hm) ⟨Nat.le_of_ble_eq_true rfl, Nat.le_of_ble_eq_true rfl⟩ rfl rfl (Nat.le_of_ble_eq_true rfl) ?_
  show bq_W _ _ _ _ _ 5 _ [] _ _ _ _ _ _
  refine q_nameI (fun I2 e2 => ?_)
  have hF2 : ∀ j, j < 16 → I2 (m + 6) j = nI (gp g t j) := fun j hj => by rw [e2, bq_r_self, lk_at hj, hg]; exact hG.p ht j hj
  have hg2 : I2 (m + 1) = g := by rw [e2, bq_r_ne (by omega)]; exact hg
  refine q_aload_n (pc := 5) dX12_alcoholBy_5 rfl rfl ?_
  refine q_iload_n (pc := 6) dX12_alcoholBy_6 rfl rfl ?_
  refine q_callV (pc := 7) dX12_alcoholBy_7 kX12_109 (c_X12_takes hm hF2 hk hp hb) (Model_sh hm) rfl (Model_lt hm) ⟨Nat.le_of_ble_eq_true rfl, Nat.le_of_ble_eq_true rfl⟩ rfl rfl (Nat.le_of_ble_eq_true rfl) ?_
  rintro _ S3 n3 I3 L3 P3 ⟨rfl, eS3, en3, eL3, eP3, f3, t3⟩
  subst S3 n3 L3 P3
  show bq_W _ _ _ _ _ 10 _ [] _ _ _ _ _ _
  refine q_aload_n (pc := 10) dX12_alcoholBy_10 rfl rfl ?_
  refine q_aload_n (pc := 11) dX12_alcoholBy_11 rfl rfl ?_
  refine q_getP (pc := 12) dX12_alcoholBy_12 fX12_28 (Model_sh hm) ⟨by decide, rfl⟩ (Model_lt hm) (Model_p_taken hm) ?_
  refine q_callVF (pc := 15) dX12_alcoholBy_15 kX12_135 (c_X12_alcoholOf hm (Model_s_taken hm)) (Model_sh hm) rfl (Model_lt hm) ⟨Nat.le_of_ble_eq_true rfl, Nat.le_of_ble_eq_true rfl⟩ rfl rfl (Nat.le_of_ble_eq_true rfl) ?_
  show bq_W _ _ _ _ _ 18 _ [_] _ _ _ _ _ _
  rw [al_m t3 (s := fun b => gn g (124 + 5 * b)) (fun j hj => by rw [f3 _ (by omega) (by omega), hg2]; exact hG.n (by omega) (by omega)) (fun j hj => Nat.le_trans ((npt_in (F := gp g t) hk hp).1 j hj).2.1 (Nat.le_trans (ns_ge 16 hj) hb)) (fun j hj => (hG.2.2.2.2.2.2.2.2.1 j hj).1)]
  exact q_lret (st := []) (pc := 18) dX12_alcoholBy_18 rfl ⟨rfl, rfl, rfl, rfl, rfl, fun a ha => by rw [f3 a (by omega) (by omega), e2]; exact bq_r_ne (by omega)⟩
set_option maxHeartbeats 5360000 in
set_option maxRecDepth 20000 in
theorem o_mix {S : BqH} {n : Nat} {I : BqI} {L : BqL} {P : BqP} {m ch : Nat} {h : Nat → BqG} {g : BqG} (hm : oModel S n P m) (hH : MH m I h ch) (hg : I (m + 1) = g) {en : Nat} (hG : GI g en) (hen : en < 2 ^ 29) (hq : I m 6 = nI 0) {a b l w : Int32} : bq_Sp mX12_mix 5 100 0 0 [.ref m, .int a, .int b, .int l, .int w] S n I L P (qMo m I S n L P (p_mix g h ch (I m 7) a b l w)) := by
  refine q_entry (vs := [some (.ref m), some (.int a), some (.int b), some (.int l), some (.int w), none, none, none, none, none, none]) (by decide +kernel) (by simp) (Nat.le_of_ble_eq_true rfl) rfl ?_
  have T0 := MSt.mk hH hg
  have hq1 : 0 ≤ 1 := by decide
  refine q_iload_n (pc := 0) dX12_mix_0 rfl rfl ?_
  refine q_callSF (pc := 1) dX12_mix_1 kX12_95 c_X12_isTank ⟨Nat.le_of_ble_eq_true rfl, Nat.le_of_ble_eq_true rfl⟩ rfl rfl (Nat.le_of_ble_eq_true rfl) ?_
  show bq_W _ _ _ _ _ 4 _ [_] _ _ _ _ _ _
  refine q_if_eq (pc := 4) 19 dX12_mix_4 (by decide) (fun c_4 => ?_) (fun c_4 => ?_)
  · replace c_4 := bq_nb0.mp c_4
    refine q_aload_n (pc := 19) dX12_mix_19 rfl rfl ?_
    refine q_iconst (pc := 20) (v := nI 1) dX12_mix_20 (by decide) ?_
    refine q_callVF (pc := 21) dX12_mix_21 kX12_99 (c_X12_refuses hm) (Model_sh hm) rfl (Model_lt hm) ⟨Nat.le_of_ble_eq_true rfl, Nat.le_of_ble_eq_true rfl⟩ rfl rfl (Nat.le_of_ble_eq_true rfl) ?_
    show bq_W _ _ _ _ _ 24 _ [_] _ _ _ _ _ _
    exact q_iret (st := []) (pc := 24) dX12_mix_24 rfl (qMo.mk (T0.ref (nI 1)) (by unfold p_mix; rw [if_pos (by first | exact Or.inl c_4 | exact Or.inr (Or.inl c_11) | exact Or.inr (Or.inr c_16))]))
  · replace c_4 := bq_nbn.mp c_4
    refine q_iload_n (pc := 7) dX12_mix_7 rfl rfl ?_
    refine q_callSF (pc := 8) dX12_mix_8 kX12_95 c_X12_isTank ⟨Nat.le_of_ble_eq_true rfl, Nat.le_of_ble_eq_true rfl⟩ rfl rfl (Nat.le_of_ble_eq_true rfl) ?_
    show bq_W _ _ _ _ _ 11 _ [_] _ _ _ _ _ _
    refine q_if_eq (pc := 11) 19 dX12_mix_11 (by decide) (fun c_11 => ?_) (fun c_11 => ?_)
    · replace c_11 := bq_nb0.mp c_11
      refine q_aload_n (pc := 19) dX12_mix_19 rfl rfl ?_
      refine q_iconst (pc := 20) (v := nI 1) dX12_mix_20 (by decide) ?_
      refine q_callVF (pc := 21) dX12_mix_21 kX12_99 (c_X12_refuses hm) (Model_sh hm) rfl (Model_lt hm) ⟨Nat.le_of_ble_eq_true rfl, Nat.le_of_ble_eq_true rfl⟩ rfl rfl (Nat.le_of_ble_eq_true rfl) ?_
      show bq_W _ _ _ _ _ 24 _ [_] _ _ _ _ _ _
      exact q_iret (st := []) (pc := 24) dX12_mix_24 rfl (qMo.mk (T0.ref (nI 1)) (by unfold p_mix; rw [if_pos (by first | exact Or.inl c_4 | exact Or.inr (Or.inl c_11) | exact Or.inr (Or.inr c_16))]))
    · replace c_11 := bq_nbn.mp c_11
      refine q_iload_n (pc := 14) dX12_mix_14 rfl rfl ?_
      refine q_iload_n (pc := 15) dX12_mix_15 rfl rfl ?_
      refine q_icmp_ne (pc := 16) 25 dX12_mix_16 (by decide) (fun c_16 => ?_) (fun c_16 => ?_)
      · obtain ⟨a, ha, rfl⟩ := (bq_in5 a 5 (by decide)).resolve_left c_4
        obtain ⟨b, hb, rfl⟩ := (bq_in5 b 5 (by decide)).resolve_left c_11
        have hne : a ≠ b := fun z => c_16 (by rw [z])
        have h1a : g (11 + 19 * a) = nI (gn g (11 + 19 * a)) := hG.n (by omega) (by omega)
        obtain ⟨qa1, qa2, qa3, qa4, qa5, qa6⟩ := hG.t ha
        have h1b : g (11 + 19 * b) = nI (gn g (11 + 19 * b)) := hG.n (by omega) (by omega)
        obtain ⟨qb1, qb2, qb3, qb4, qb5, qb6⟩ := hG.t hb
        refine q_iload_n (pc := 25) dX12_mix_25 rfl rfl ?_
        refine q_iconst (pc := 26) (v := nI 1) dX12_mix_26 (by decide) ?_
        refine q_sipush (pc := 27) (v := nI 9999) dX12_mix_27 (by decide) ?_
        refine q_callSF (pc := 30) dX12_mix_30 kX12_69 c_X12_in ⟨Nat.le_of_ble_eq_true rfl, Nat.le_of_ble_eq_true rfl⟩ rfl rfl (Nat.le_of_ble_eq_true rfl) ?_
        show bq_W _ _ _ _ _ 33 _ [_] _ _ _ _ _ _
        refine q_if_eq (pc := 33) 48 dX12_mix_33 (by decide) (fun c_33 => ?_) (fun c_33 => ?_)
        · replace c_33 := bq_nb0.mp c_33
          refine q_aload_n (pc := 48) dX12_mix_48 rfl rfl ?_
          refine q_bipush (pc := 49) (v := nI 8) dX12_mix_49 (by decide) ?_
          refine q_callVF (pc := 51) dX12_mix_51 kX12_99 (c_X12_refuses hm) (Model_sh hm) rfl (Model_lt hm) ⟨Nat.le_of_ble_eq_true rfl, Nat.le_of_ble_eq_true rfl⟩ rfl rfl (Nat.le_of_ble_eq_true rfl) ?_
          show bq_W _ _ _ _ _ 54 _ [_] _ _ _ _ _ _
          exact q_iret (st := []) (pc := 54) dX12_mix_54 rfl (qMo.mk (T0.ref (nI 8)) (by unfold p_mix; rw [if_neg (w_pour_ok ha hb hne), if_pos (by first | exact Or.inl c_33 | exact Or.inr c_45)]))
        · replace c_33 := bq_nbn.mp c_33
          refine q_iload (pc := 36) dX12_mix_36 rfl ?_
          refine q_iconst (pc := 38) (v := nI 0) dX12_mix_38 (by decide) ?_
          refine q_sipush (pc := 39) (v := nI 2000) dX12_mix_39 (by decide) ?_
          refine q_callSF (pc := 42) dX12_mix_42 kX12_69 c_X12_in ⟨Nat.le_of_ble_eq_true rfl, Nat.le_of_ble_eq_true rfl⟩ rfl rfl (Nat.le_of_ble_eq_true rfl) ?_
          show bq_W _ _ _ _ _ 45 _ [_] _ _ _ _ _ _
          refine q_if_ne (pc := 45) 55 dX12_mix_45 (by decide) (fun c_45 => ?_) (fun c_45 => ?_)
          · replace c_45 := bq_nbn.mp c_45
            obtain ⟨l, hl1, hl2, rfl⟩ := (bq_in19 l 1 9999 (by decide) (by decide)).resolve_left c_33
            obtain ⟨w, hw2, rfl⟩ := (bq_in5 w 2000 (by decide)).resolve_left c_45
            have hw3 : w ≤ 2000 := by omega
            have hw := p_mix_n (g := g) (h := h) (ch := ch) (y := I m 7) ha hb hne hl1 hl2 hw3
            refine q_aload_n (pc := 55) dX12_mix_55 rfl rfl ?_
            refine q_iload_n (pc := 56) dX12_mix_56 rfl rfl ?_
            refine q_iconst (pc := 57) (v := nI 1) dX12_mix_57 (by decide) ?_
            refine q_callVF (pc := 58) dX12_mix_58 kX12_73 (c_tA hm (t := a) (k := 1) (j := 11 + 19 * a) (by omega) (by omega)) (Model_sh hm) rfl (Model_lt hm) ⟨Nat.le_of_ble_eq_true rfl, Nat.le_of_ble_eq_true rfl⟩ rfl rfl (Nat.le_of_ble_eq_true rfl) ?_
            show bq_W _ _ _ _ _ 61 _ [_] _ _ _ _ _ _
            rw [hg, h1a]
            refine q_iconst (pc := 61) (v := nI 1) dX12_mix_61 (by decide) ?_
            refine q_icmp_ne (pc := 62) 75 dX12_mix_62 (by decide) (fun c_62 => ?_) (fun c_62 => ?_)
            · refine q_aload_n (pc := 75) dX12_mix_75 rfl rfl ?_
              refine q_iconst (pc := 76) (v := nI 2) dX12_mix_76 (by decide) ?_
              refine q_callVF (pc := 77) dX12_mix_77 kX12_99 (c_X12_refuses hm) (Model_sh hm) rfl (Model_lt hm) ⟨Nat.le_of_ble_eq_true rfl, Nat.le_of_ble_eq_true rfl⟩ rfl rfl (Nat.le_of_ble_eq_true rfl) ?_
              show bq_W _ _ _ _ _ 80 _ [_] _ _ _ _ _ _
              exact q_iret (st := []) (pc := 80) dX12_mix_80 rfl (qMo.mk (T0.ref (nI 2)) (by rw [hw]; unfold n_mix; rw [if_pos (fun z => by first | exact c_62 (by rw [z.1]) | exact c_72 (by rw [z.2]))]))
            · refine q_aload_n (pc := 65) dX12_mix_65 rfl rfl ?_
              refine q_iload_n (pc := 66) dX12_mix_66 rfl rfl ?_
              refine q_iconst (pc := 67) (v := nI 1) dX12_mix_67 (by decide) ?_
              refine q_callVF (pc := 68) dX12_mix_68 kX12_73 (c_tA hm (t := b) (k := 1) (j := 11 + 19 * b) (by omega) (by omega)) (Model_sh hm) rfl (Model_lt hm) ⟨Nat.le_of_ble_eq_true rfl, Nat.le_of_ble_eq_true rfl⟩ rfl rfl (Nat.le_of_ble_eq_true rfl) ?_
              show bq_W _ _ _ _ _ 71 _ [_] _ _ _ _ _ _
              rw [hg, h1b]
              refine q_iconst (pc := 71) (v := nI 1) dX12_mix_71 (by decide) ?_
              refine q_icmp_eq (pc := 72) 81 dX12_mix_72 (by decide) (fun c_72 => ?_) (fun c_72 => ?_)
              · have hA : gn g (11 + 19 * a) = 1 ∧ gn g (11 + 19 * b) = 1 := ⟨(nI_eq (by omega) (by decide)).mp c_62, (nI_eq (by omega) (by decide)).mp c_72⟩
                have pA : 0 < ns (gp g a) 16 := show 0 < gt g a by omega
                have pB : 0 < ns (gp g b) 16 := show 0 < gt g b by omega
                have bA : ns (gp g a) 16 ≤ 9999 := show gt g a ≤ 9999 by omega
                have bB : ns (gp g b) 16 ≤ 9999 := show gt g b ≤ 9999 by omega
                have hss : ∀ j, j < 16 → (fun b => gn g (124 + 5 * b)) j ≤ 2000 := fun j hj => (hG.2.2.2.2.2.2.2.2.1 j hj).1
                refine q_bipush (pc := 81) (v := (-5)) dX12_mix_81 (by decide) ?_
                refine q_istore (pc := 83) dX12_mix_83 (Nat.le_of_ble_eq_true rfl) rfl ?_
                show bq_W _ _ _ _ _ 85 [_, _, _, _, _, _, _, _, _, _, _] _ _ _ _ _ _ _
                refine q_lconst (pc := 85) dX12_mix_85 rfl ?_
                refine q_lstore (pc := 86) dX12_mix_86 (Nat.le_of_ble_eq_true rfl) rfl ?_
                show bq_W _ _ _ _ _ 88 [_, _, _, _, _, _, _, _, _, _, _] _ _ _ _ _ _ _
                refine q_iconst (pc := 88) (v := nI 0) dX12_mix_88 (by decide) ?_
                refine q_iload_n (pc := 89) dX12_mix_89 rfl rfl ?_
                refine q_aload_n (pc := 90) dX12_mix_90 rfl rfl ?_
                refine q_iload_n (pc := 91) dX12_mix_91 rfl rfl ?_
                refine q_callVF (pc := 92) dX12_mix_92 kX12_88 (c_X12_litresIn hm (t := b) (by omega)) (Model_sh hm) rfl (Model_lt hm) ⟨Nat.le_of_ble_eq_true rfl, Nat.le_of_ble_eq_true rfl⟩ rfl rfl (Nat.le_of_ble_eq_true rfl) ?_
                show bq_W _ _ _ _ _ 95 _ [_, _, _] _ _ _ _ _ _
                rw [hg, hG.tot hb]
                refine q_isub (pc := 95) dX12_mix_95 ?_
                refine q_max (pc := 96) dX12_mix_96 kX12_215 ⟨Nat.le_of_ble_eq_true rfl, Nat.le_of_ble_eq_true rfl⟩ ?_
                rw [mx_max (by omega) (by omega)]
                refine q_istore (pc := 99) dX12_mix_99 (Nat.le_of_ble_eq_true rfl) rfl ?_
                show bq_W _ _ _ _ _ 101 [_, _, _, _, _, _, _, _, _, _, _] _ _ _ _ _ _ _
                have lp : ∀ i, i ≤ ((min l (gt g a)) + 1 - (l - gt g b)) → ∀ (J : BqI) (v9 : Option Value), (∀ a, a < m + 6 ∨ m + 9 ≤ a → J a = I a) → bq_W mX12_mix 5 100 0 0 101 [some (.ref m), some (.int (nI a)), some (.int (nI b)), some (.int (nI l)), some (.int (nI w)), some (.int (ri (mf (fun k => (dz (gp g a) (gp g b) (fun b => gn g (124 + 5 * b)) l w k).natAbs) (l - gt g b) i))), some (.long (ls5 (fun k => (dz (gp g a) (gp g b) (fun b => gn g (124 + 5 * b)) l w k).natAbs) (mf (fun k => (dz (gp g a) (gp g b) (fun b => gn g (124 + 5 * b)) l w k).natAbs) (l - gt g b) i))), none, some (.int (nI ((l - gt g b) + i))), v9, none] [] S n J L P (qMo m I S n L P (p_mix g h ch (I m 7) (nI a) (nI b) (nI l) (nI w))) := by
                  refine bq_down (A := fun i => ∀ (J : BqI) (v9 : Option Value), (∀ a, a < m + 6 ∨ m + 9 ≤ a → J a = I a) → bq_W mX12_mix 5 100 0 0 101 [some (.ref m), some (.int (nI a)), some (.int (nI b)), some (.int (nI l)), some (.int (nI w)), some (.int (ri (mf (fun k => (dz (gp g a) (gp g b) (fun b => gn g (124 + 5 * b)) l w k).natAbs) (l - gt g b) i))), some (.long (ls5 (fun k => (dz (gp g a) (gp g b) (fun b => gn g (124 + 5 * b)) l w k).natAbs) (mf (fun k => (dz (gp g a) (gp g b) (fun b => gn g (124 + 5 * b)) l w k).natAbs) (l - gt g b) i))), none, some (.int (nI ((l - gt g b) + i))), v9, none] [] S n J L P (qMo m I S n L P (p_mix g h ch (I m 7) (nI a) (nI b) (nI l) (nI w)))) ((min l (gt g a)) + 1 - (l - gt g b)) ?_ ?_
                  · intro J v9 hJ
                    have hgJ : J (m + 1) = g := by rw [hJ _ (by omega)]; exact hg
                    refine q_iload (pc := 101) dX12_mix_101 rfl ?_
                    refine q_iload_n (pc := 103) dX12_mix_103 rfl rfl ?_
                    refine q_aload_n (pc := 104) dX12_mix_104 rfl rfl ?_
                    refine q_iload_n (pc := 105) dX12_mix_105 rfl rfl ?_
                    refine q_callVF (pc := 106) dX12_mix_106 kX12_88 (c_X12_litresIn hm (t := a) (by omega)) (Model_sh hm) rfl (Model_lt hm) ⟨Nat.le_of_ble_eq_true rfl, Nat.le_of_ble_eq_true rfl⟩ rfl rfl (Nat.le_of_ble_eq_true rfl) ?_
                    show bq_W _ _ _ _ _ 109 _ [_, _, _] _ _ _ _ _ _
                    rw [hgJ, hG.tot ha]
                    refine q_min (pc := 109) dX12_mix_109 kX12_220 ⟨Nat.le_of_ble_eq_true rfl, Nat.le_of_ble_eq_true rfl⟩ ?_
                    rw [mx_min (by omega) (by omega)]
                    refine q_icmp_gt (pc := 112) 173 dX12_mix_112 (by decide) (fun c_112 => ?_) (fun c_112 => absurd (nI_lt (by omega) (by omega)) c_112)
                    refine q_iload (pc := 173) dX12_mix_173 rfl ?_
                    exact q_iret (st := []) (pc := 175) dX12_mix_175 rfl (qMo.mk (T0.sc (fun a ha => hJ a (by omega))) (by rw [hw]; unfold n_mix; rw [if_neg (not_not_intro hA)]; rfl))
                  · intro i hi ih J v9 hJ
                    have hgJ : J (m + 1) = g := by rw [hJ _ (by omega)]; exact hg
                    have k1 : (l - gt g b) + i ≤ l := by omega
                    have k2 : (l - gt g b) + i ≤ gt g a := by omega
                    have k3 : l - ((l - gt g b) + i) ≤ gt g b := by omega
                    have hwv : Lz ((nI w).toInt64 * (nI l).toInt64) (l * w : Nat) := by rw [Nat.mul_comm l w]; exact mx_w2 hl2 hw3
                    have db : (fun k => (dz (gp g a) (gp g b) (fun b => gn g (124 + 5 * b)) l w k).natAbs) ((l - gt g b) + i) ≤ 10 ^ 9 := Nat.le_trans (dz_le hss k2 k3 pA pB bA bB hl2 hw3) (by decide)
                    cases hr : (mf (fun k => (dz (gp g a) (gp g b) (fun b => gn g (124 + 5 * b)) l w k).natAbs) (l - gt g b) i) with
                    | none =>
                      rw [show ri none = (-5) from rfl]
                      refine q_iload (pc := 101) dX12_mix_101 rfl ?_
                      refine q_iload_n (pc := 103) dX12_mix_103 rfl rfl ?_
                      refine q_aload_n (pc := 104) dX12_mix_104 rfl rfl ?_
                      refine q_iload_n (pc := 105) dX12_mix_105 rfl rfl ?_
                      refine q_callVF (pc := 106) dX12_mix_106 kX12_88 (c_X12_litresIn hm (t := a) (by omega)) (Model_sh hm) rfl (Model_lt hm) ⟨Nat.le_of_ble_eq_true rfl, Nat.le_of_ble_eq_true rfl⟩ rfl rfl (Nat.le_of_ble_eq_true rfl) ?_
                      show bq_W _ _ _ _ _ 109 _ [_, _, _] _ _ _ _ _ _
                      rw [hgJ, hG.tot ha]
                      refine q_min (pc := 109) dX12_mix_109 kX12_220 ⟨Nat.le_of_ble_eq_true rfl, Nat.le_of_ble_eq_true rfl⟩ ?_
                      rw [mx_min (by omega) (by omega)]
                      refine q_icmp_gt (pc := 112) 173 dX12_mix_112 (by decide) (fun c_112 => (nI_nlt (show (l - gt g b) + i ≤ (min l (gt g a)) by omega) (by omega) c_112).elim) (fun c_112 => ?_)
                      refine q_aload_n (pc := 115) dX12_mix_115 rfl rfl ?_
                      refine q_iload_n (pc := 116) dX12_mix_116 rfl rfl ?_
                      refine q_iload (pc := 117) dX12_mix_117 rfl ?_
                      refine q_callV (pc := 119) dX12_mix_119 kX12_223 (c_by hm hgJ hG ha k2 pA) (Model_sh hm) rfl (Model_lt hm) ⟨Nat.le_of_ble_eq_true rfl, Nat.le_of_ble_eq_true rfl⟩ rfl rfl (Nat.le_of_ble_eq_true rfl) ?_
                      rintro _ S1 n1 I1 L1 P1 ⟨rfl, eS1, en1, eL1, eP1, f1⟩
                      subst S1 n1 L1 P1
                      show bq_W _ _ _ _ _ 122 _ [_] _ _ _ _ _ _
                      refine q_aload_n (pc := 122) dX12_mix_122 rfl rfl ?_
                      refine q_iload_n (pc := 123) dX12_mix_123 rfl rfl ?_
                      refine q_iload_n (pc := 124) dX12_mix_124 rfl rfl ?_
                      refine q_iload (pc := 125) dX12_mix_125 rfl ?_
                      refine q_isub (pc := 127) dX12_mix_127 ?_
                      rw [pk_sub k1]
                      refine q_callV (pc := 128) dX12_mix_128 kX12_223 (c_by hm (show I1 (m + 1) = g from (f1 _ (by omega)).trans hgJ) hG hb k3 pB) (Model_sh hm) rfl (Model_lt hm) ⟨Nat.le_of_ble_eq_true rfl, Nat.le_of_ble_eq_true rfl⟩ rfl rfl (Nat.le_of_ble_eq_true rfl) ?_
                      rintro _ S2 n2 I2 L2 P2 ⟨rfl, eS2, en2, eL2, eP2, f2⟩
                      subst S2 n2 L2 P2
                      show bq_W _ _ _ _ _ 131 _ [_, _] _ _ _ _ _ _
                      have hJ3 : ∀ a, a < m + 6 ∨ m + 9 ≤ a → I2 a = I a := fun a ha => by rw [f2 a ha, f1 a ha]; exact hJ a ha
                      refine q_ladd (pc := 131) dX12_mix_131 ?_
                      refine q_iload (pc := 132) dX12_mix_132 rfl ?_
                      refine q_i2l (pc := 134) dX12_mix_134 ?_
                      refine q_iload_n (pc := 135) dX12_mix_135 rfl rfl ?_
                      refine q_i2l (pc := 136) dX12_mix_136 ?_
                      refine q_lmul (pc := 137) dX12_mix_137 ?_
                      refine q_lsub (pc := 138) dX12_mix_138 ?_
                      refine q_absL (pc := 139) dX12_mix_139 kX12_227 ⟨Nat.le_of_ble_eq_true rfl, Nat.le_of_ble_eq_true rfl⟩ ?_
                      rw [dz_abs hss k2 k3 pA pB bA bB hl2 hw3 hwv]
                      refine q_lstore (pc := 142) dX12_mix_142 (Nat.le_of_ble_eq_true rfl) rfl ?_
                      show bq_W _ _ _ _ _ 144 [_, _, _, _, _, _, _, _, _, _, _] _ _ _ _ _ _ _
                      refine q_iload (pc := 144) dX12_mix_144 rfl ?_
                      refine q_bipush (pc := 146) (v := (-5)) dX12_mix_146 (by decide) ?_
                      refine q_icmp_eq (pc := 148) 159 dX12_mix_148 (by decide) (fun c_148 => ?_) (fun c_148 => (c_148 rfl).elim)
                      refine q_iload (pc := 159) dX12_mix_159 rfl ?_
                      refine q_istore (pc := 161) dX12_mix_161 (Nat.le_of_ble_eq_true rfl) rfl ?_
                      show bq_W _ _ _ _ _ 163 [_, _, _, _, _, _, _, _, _, _, _] _ _ _ _ _ _ _
                      refine q_lload (pc := 163) dX12_mix_163 rfl ?_
                      refine q_lstore (pc := 165) dX12_mix_165 (Nat.le_of_ble_eq_true rfl) rfl ?_
                      show bq_W _ _ _ _ _ 167 [_, _, _, _, _, _, _, _, _, _, _] _ _ _ _ _ _ _
                      refine q_iinc (pc := 167) (v := nI (((l - gt g b) + i) + 1)) dX12_mix_167 rfl (bq_inc _) (Nat.le_of_ble_eq_true rfl) rfl ?_
                      show bq_W _ _ _ _ _ 170 [_, _, _, _, _, _, _, _, _, _, _] _ _ _ _ _ _ _
                      refine q_goto (pc := 170) 101 dX12_mix_170 (by decide) ?_
                      rw [mf_none hr] at ih
                      exact ih _ _ hJ3
                    | some q =>
                      have hq := mf_lt hr
                      have dq : (fun k => (dz (gp g a) (gp g b) (fun b => gn g (124 + 5 * b)) l w k).natAbs) q ≤ 10 ^ 9 := Nat.le_trans (dz_le hss (show q ≤ gt g a by omega) (show l - q ≤ gt g b by omega) pA pB bA bB hl2 hw3) (by decide)
                      rw [show ri (some q) = nI q from rfl, show ls5 (fun k => (dz (gp g a) (gp g b) (fun b => gn g (124 + 5 * b)) l w k).natAbs) (some q) = lN ((fun k => (dz (gp g a) (gp g b) (fun b => gn g (124 + 5 * b)) l w k).natAbs) q) from rfl]
                      refine q_iload (pc := 101) dX12_mix_101 rfl ?_
                      refine q_iload_n (pc := 103) dX12_mix_103 rfl rfl ?_
                      refine q_aload_n (pc := 104) dX12_mix_104 rfl rfl ?_
                      refine q_iload_n (pc := 105) dX12_mix_105 rfl rfl ?_
                      refine q_callVF (pc := 106) dX12_mix_106 kX12_88 (c_X12_litresIn hm (t := a) (by omega)) (Model_sh hm) rfl (Model_lt hm) ⟨Nat.le_of_ble_eq_true rfl, Nat.le_of_ble_eq_true rfl⟩ rfl rfl (Nat.le_of_ble_eq_true rfl) ?_
                      show bq_W _ _ _ _ _ 109 _ [_, _, _] _ _ _ _ _ _
                      rw [hgJ, hG.tot ha]
                      refine q_min (pc := 109) dX12_mix_109 kX12_220 ⟨Nat.le_of_ble_eq_true rfl, Nat.le_of_ble_eq_true rfl⟩ ?_
                      rw [mx_min (by omega) (by omega)]
                      refine q_icmp_gt (pc := 112) 173 dX12_mix_112 (by decide) (fun c_112 => (nI_nlt (show (l - gt g b) + i ≤ (min l (gt g a)) by omega) (by omega) c_112).elim) (fun c_112 => ?_)
                      refine q_aload_n (pc := 115) dX12_mix_115 rfl rfl ?_
                      refine q_iload_n (pc := 116) dX12_mix_116 rfl rfl ?_
                      refine q_iload (pc := 117) dX12_mix_117 rfl ?_
                      refine q_callV (pc := 119) dX12_mix_119 kX12_223 (c_by hm hgJ hG ha k2 pA) (Model_sh hm) rfl (Model_lt hm) ⟨Nat.le_of_ble_eq_true rfl, Nat.le_of_ble_eq_true rfl⟩ rfl rfl (Nat.le_of_ble_eq_true rfl) ?_
                      rintro _ S1 n1 I1 L1 P1 ⟨rfl, eS1, en1, eL1, eP1, f1⟩
                      subst S1 n1 L1 P1
                      show bq_W _ _ _ _ _ 122 _ [_] _ _ _ _ _ _
                      refine q_aload_n (pc := 122) dX12_mix_122 rfl rfl ?_
                      refine q_iload_n (pc := 123) dX12_mix_123 rfl rfl ?_
                      refine q_iload_n (pc := 124) dX12_mix_124 rfl rfl ?_
                      refine q_iload (pc := 125) dX12_mix_125 rfl ?_
                      refine q_isub (pc := 127) dX12_mix_127 ?_
                      rw [pk_sub k1]
                      refine q_callV (pc := 128) dX12_mix_128 kX12_223 (c_by hm (show I1 (m + 1) = g from (f1 _ (by omega)).trans hgJ) hG hb k3 pB) (Model_sh hm) rfl (Model_lt hm) ⟨Nat.le_of_ble_eq_true rfl, Nat.le_of_ble_eq_true rfl⟩ rfl rfl (Nat.le_of_ble_eq_true rfl) ?_
                      rintro _ S2 n2 I2 L2 P2 ⟨rfl, eS2, en2, eL2, eP2, f2⟩
                      subst S2 n2 L2 P2
                      show bq_W _ _ _ _ _ 131 _ [_, _] _ _ _ _ _ _
                      have hJ3 : ∀ a, a < m + 6 ∨ m + 9 ≤ a → I2 a = I a := fun a ha => by rw [f2 a ha, f1 a ha]; exact hJ a ha
                      refine q_ladd (pc := 131) dX12_mix_131 ?_
                      refine q_iload (pc := 132) dX12_mix_132 rfl ?_
                      refine q_i2l (pc := 134) dX12_mix_134 ?_
                      refine q_iload_n (pc := 135) dX12_mix_135 rfl rfl ?_
                      refine q_i2l (pc := 136) dX12_mix_136 ?_
                      refine q_lmul (pc := 137) dX12_mix_137 ?_
                      refine q_lsub (pc := 138) dX12_mix_138 ?_
                      refine q_absL (pc := 139) dX12_mix_139 kX12_227 ⟨Nat.le_of_ble_eq_true rfl, Nat.le_of_ble_eq_true rfl⟩ ?_
                      rw [dz_abs hss k2 k3 pA pB bA bB hl2 hw3 hwv]
                      refine q_lstore (pc := 142) dX12_mix_142 (Nat.le_of_ble_eq_true rfl) rfl ?_
                      show bq_W _ _ _ _ _ 144 [_, _, _, _, _, _, _, _, _, _, _] _ _ _ _ _ _ _
                      refine q_iload (pc := 144) dX12_mix_144 rfl ?_
                      refine q_bipush (pc := 146) (v := (-5)) dX12_mix_146 (by decide) ?_
                      refine q_icmp_eq (pc := 148) 159 dX12_mix_148 (by decide) (fun c_148 => (ri_ne5 (by omega) c_148).elim) (fun c_148 => ?_)
                      refine q_lload (pc := 151) dX12_mix_151 rfl ?_
                      refine q_lload (pc := 153) dX12_mix_153 rfl ?_
                      refine q_lcmp (pc := 155) dX12_mix_155 ?_
                      refine q_if_ge (pc := 156) 167 dX12_mix_156 (by decide) (fun c_156 => ?_) (fun c_156 => ?_)
                      · have hge : ¬ (fun k => (dz (gp g a) (gp g b) (fun b => gn g (124 + 5 * b)) l w k).natAbs) ((l - gt g b) + i) < (fun k => (dz (gp g a) (gp g b) (fun b => gn g (124 + 5 * b)) l w k).natAbs) q := Nat.not_lt.mpr (mx_ge dq db c_156)
                        refine q_iinc (pc := 167) (v := nI (((l - gt g b) + i) + 1)) dX12_mix_167 rfl (bq_inc _) (Nat.le_of_ble_eq_true rfl) rfl ?_
                        show bq_W _ _ _ _ _ 170 [_, _, _, _, _, _, _, _, _, _, _] _ _ _ _ _ _ _
                        refine q_goto (pc := 170) 101 dX12_mix_170 (by decide) ?_
                        rw [mf_ge2 hr hge] at ih
                        exact ih _ _ hJ3
                      · have hlt : (fun k => (dz (gp g a) (gp g b) (fun b => gn g (124 + 5 * b)) l w k).natAbs) ((l - gt g b) + i) < (fun k => (dz (gp g a) (gp g b) (fun b => gn g (124 + 5 * b)) l w k).natAbs) q := mx_lt dq db c_156
                        refine q_iload (pc := 159) dX12_mix_159 rfl ?_
                        refine q_istore (pc := 161) dX12_mix_161 (Nat.le_of_ble_eq_true rfl) rfl ?_
                        show bq_W _ _ _ _ _ 163 [_, _, _, _, _, _, _, _, _, _, _] _ _ _ _ _ _ _
                        refine q_lload (pc := 163) dX12_mix_163 rfl ?_
                        refine q_lstore (pc := 165) dX12_mix_165 (Nat.le_of_ble_eq_true rfl) rfl ?_
                        show bq_W _ _ _ _ _ 167 [_, _, _, _, _, _, _, _, _, _, _] _ _ _ _ _ _ _
                        refine q_iinc (pc := 167) (v := nI (((l - gt g b) + i) + 1)) dX12_mix_167 rfl (bq_inc _) (Nat.le_of_ble_eq_true rfl) rfl ?_
                        show bq_W _ _ _ _ _ 170 [_, _, _, _, _, _, _, _, _, _, _] _ _ _ _ _ _ _
                        refine q_goto (pc := 170) 101 dX12_mix_170 (by decide) ?_
                        rw [mf_lt2 hr hlt] at ih
                        exact ih _ _ hJ3
                exact lp 0 (Nat.zero_le _) I _ (fun _ _ => rfl)
              · refine q_aload_n (pc := 75) dX12_mix_75 rfl rfl ?_
                refine q_iconst (pc := 76) (v := nI 2) dX12_mix_76 (by decide) ?_
                refine q_callVF (pc := 77) dX12_mix_77 kX12_99 (c_X12_refuses hm) (Model_sh hm) rfl (Model_lt hm) ⟨Nat.le_of_ble_eq_true rfl, Nat.le_of_ble_eq_true rfl⟩ rfl rfl (Nat.le_of_ble_eq_true rfl) ?_
                show bq_W _ _ _ _ _ 80 _ [_] _ _ _ _ _ _
                exact q_iret (st := []) (pc := 80) dX12_mix_80 rfl (qMo.mk (T0.ref (nI 2)) (by rw [hw]; unfold n_mix; rw [if_pos (fun z => by first | exact c_62 (by rw [z.1]) | exact c_72 (by rw [z.2]))]))
          · replace c_45 := bq_nb0.mp c_45
            refine q_aload_n (pc := 48) dX12_mix_48 rfl rfl ?_
            refine q_bipush (pc := 49) (v := nI 8) dX12_mix_49 (by decide) ?_
            refine q_callVF (pc := 51) dX12_mix_51 kX12_99 (c_X12_refuses hm) (Model_sh hm) rfl (Model_lt hm) ⟨Nat.le_of_ble_eq_true rfl, Nat.le_of_ble_eq_true rfl⟩ rfl rfl (Nat.le_of_ble_eq_true rfl) ?_
            show bq_W _ _ _ _ _ 54 _ [_] _ _ _ _ _ _
            exact q_iret (st := []) (pc := 54) dX12_mix_54 rfl (qMo.mk (T0.ref (nI 8)) (by unfold p_mix; rw [if_neg (w_pour_ok ha hb hne), if_pos (by first | exact Or.inl c_33 | exact Or.inr c_45)]))
      · refine q_aload_n (pc := 19) dX12_mix_19 rfl rfl ?_
        refine q_iconst (pc := 20) (v := nI 1) dX12_mix_20 (by decide) ?_
        refine q_callVF (pc := 21) dX12_mix_21 kX12_99 (c_X12_refuses hm) (Model_sh hm) rfl (Model_lt hm) ⟨Nat.le_of_ble_eq_true rfl, Nat.le_of_ble_eq_true rfl⟩ rfl rfl (Nat.le_of_ble_eq_true rfl) ?_
        show bq_W _ _ _ _ _ 24 _ [_] _ _ _ _ _ _
        exact q_iret (st := []) (pc := 24) dX12_mix_24 rfl (qMo.mk (T0.ref (nI 1)) (by unfold p_mix; rw [if_pos (by first | exact Or.inl c_4 | exact Or.inr (Or.inl c_11) | exact Or.inr (Or.inr c_16))]))
