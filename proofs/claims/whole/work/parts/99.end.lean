/-! mixing: the class's and the model's -/
def n_mix (g : BqG) (h : Nat → BqG) (ch : Nat) (y : Int32) (a b l w : Nat) : BqR := if ¬ (gn g (11 + 19 * a) = 1 ∧ gn g (11 + 19 * b) = 1) then ((-3), g, h, ch, nI 2) else (r_near (gp g a) (gp g b) (fun b => gn g (124 + 5 * b)) l w, g, h, ch, y)
def p_mix (g : BqG) (h : Nat → BqG) (ch : Nat) (y a b l w : Int32) : BqR := if (a < nI 0 ∨ ¬ a ≤ nI 5) ∨ (b < nI 0 ∨ ¬ b ≤ nI 5) ∨ a = b then ((-3), g, h, ch, nI 1) else if (l < nI 1 ∨ ¬ l ≤ nI 9999) ∨ (w < nI 0 ∨ ¬ w ≤ nI 2000) then ((-3), g, h, ch, nI 8) else n_mix g h ch y a.toNatClampNeg b.toNatClampNeg l.toNatClampNeg w.toNatClampNeg
theorem p_mix_n {g : BqG} {h : Nat → BqG} {ch a b l w : Nat} {y : Int32} (ha : a < 6) (hb : b < 6) (hne : a ≠ b) (hl1 : 1 ≤ l) (hl2 : l ≤ 9999) (hw : w ≤ 2000) : p_mix g h ch y (nI a) (nI b) (nI l) (nI w) = n_mix g h ch y a b l w := by
  unfold p_mix
  rw [if_neg (w_pour_ok ha hb hne), if_neg (fun q => q.elim (bq_nin hl1 hl2 (by decide)) (bq_nin (Nat.zero_le w) hw (by decide))), nI_clamp (by omega), nI_clamp (by omega), nI_clamp (by omega), nI_clamp (by omega)]
theorem CXS.fr2 {x : Nat} {S : BqH} {n : Nat} {I I' : BqI} {L : BqL} {P : BqP} {g : BqG} {h : Nat → BqG} {ch : Nat} (hX : CXS x S n I L P g h ch) (f : ∀ a, a < x + 131 ∨ x + 165 ≤ a → I' a = I a) : CXS x S n I' L P g h ch := by
  obtain ⟨hx, hC, hc, hl, π, hP, hh⟩ := hX
  exact ⟨hx, hC.fr (fun a q1 q2 => f a (by omega)) (fun _ _ _ => rfl), (congrFun (f x (by omega)) 2).trans hc, hl, π, hP, fun i hi => (hh i hi).fr (fun a q1 q2 => f a (by omega)) (fun _ _ _ => rfl)⟩
def qBy (m : Nat) (I : BqI) (S : BqH) (n : Nat) (L : BqL) (P : BqP) (v : Value) : BqQ := fun r S' n' I' L' P' => r = some v ∧ S' = S ∧ n' = n ∧ L' = L ∧ P' = P ∧ ∀ a, a < m + 6 ∨ m + 9 ≤ a → I' a = I a
def ls5 (d : Nat → Nat) (r : Option Nat) : Int64 := match r with
  | none => lN 0
  | some q => lN (d q)
theorem ri_ne5 {q : Nat} (h : q < 2 ^ 31) (e : nI q = (-5)) : False := by
  have := congrArg Int32.toInt e
  rw [nI_toInt h] at this
  have h2 : ((-5 : Int32)).toInt = -5 := by decide
  omega
theorem mx_min {l A : Nat} (hl : l < 2 ^ 31) (hA : A < 2 ^ 31) : (if nI A < nI l then nI A else nI l) = nI (min l A) := by
  by_cases c : A < l
  · rw [if_pos (nI_lt c hl), Nat.min_eq_right (by omega)]
  · rw [if_neg (nI_nlt (by omega) hA), Nat.min_eq_left (by omega)]
theorem mx_max {l B : Nat} (hl : l < 2 ^ 30) (hB : B < 2 ^ 30) : (if nI 0 < nI l - nI B then nI l - nI B else nI 0) = nI (l - B) := by
  by_cases c : B < l
  · rw [pk_sub (by omega), if_pos (nI_lt (by omega) (by omega))]
  · rw [show l - B = 0 by omega]
    refine if_neg (fun q => ?_)
    have h1 := Int32.lt_iff_toInt_lt.mp q
    rw [pk_sub_toInt hl hB, nI_toInt (by omega)] at h1
    omega
theorem mx_w2 {l w : Nat} (hl : l ≤ 9999) (hw : w ≤ 2000) : Lz ((nI w).toInt64 * (nI l).toInt64) (w * l : Nat) := by
  have h3 : w * l ≤ 2000 * 9999 := Nat.mul_le_mul hw hl
  rw [nI_l (by omega), nI_l (by omega), lN_mul]
  exact Lz.nat (by omega)
theorem mf_lt {d : Nat → Nat} {lo i q : Nat} (hr : mf d lo i = some q) : lo ≤ q ∧ q < lo + i := by
  rcases mf_ok d lo i with ⟨-, h⟩ | ⟨q', h1, h2, h3, -⟩
  · rw [h] at hr; cases hr
  · rw [h1] at hr
    have := Option.some.inj hr
    subst this; exact ⟨h2, h3⟩
theorem mf_none {d : Nat → Nat} {lo i : Nat} (hr : mf d lo i = none) : mf d lo (i + 1) = some (lo + i) := by
  show (match mf d lo i with | none => some (lo + i) | some q => if d (lo + i) < d q then some (lo + i) else some q) = _
  rw [hr]
theorem mf_lt2 {d : Nat → Nat} {lo i q : Nat} (hr : mf d lo i = some q) (h : d (lo + i) < d q) : mf d lo (i + 1) = some (lo + i) := by
  show (match mf d lo i with | none => some (lo + i) | some q => if d (lo + i) < d q then some (lo + i) else some q) = _
  rw [hr]; exact if_pos h
theorem mf_ge2 {d : Nat → Nat} {lo i q : Nat} (hr : mf d lo i = some q) (h : ¬ d (lo + i) < d q) : mf d lo (i + 1) = some q := by
  show (match mf d lo i with | none => some (lo + i) | some q => if d (lo + i) < d q then some (lo + i) else some q) = _
  rw [hr]; exact if_neg h
set_option maxHeartbeats 1000000 in
set_option maxRecDepth 20000 in
theorem m_mix_a {S : BqH} {n : Nat} {I : BqI} {L : BqL} {P : BqP} {x : Nat} {g : BqG} {h : Nat → BqG} {ch en : Nat} (hX : CXS x S n I L P g h ch) (hG : GI g en) (hen : en < 2 ^ 29) {a b l w : Int32} (ha : a < nI 0 ∨ ¬ a ≤ nI 5) (hb : b < nI 0 ∨ ¬ b ≤ nI 5) : bq_Sp mX11_mix 5 136 0 0 [.ref x, .int a, .int b, .int l, .int w] S n I L P (qOp x I L S n P (p_mix g h ch (I x 10) a b l w)) := by
  refine q_entry (vs := [some (.ref x), some (.int a), some (.int b), some (.int l), some (.int w), none, none]) (by decide +kernel) (by simp) (Nat.le_of_ble_eq_true rfl) rfl ?_
  have hX' := hX
  obtain ⟨hx, hC, hc, hl, π, hP, hh⟩ := hX
  refine q_aload_n (pc := 0) dX11_mix_0 rfl rfl ?_
  refine q_getP (pc := 1) dX11_mix_1 fX11_10 (Cellar_sh hx) ⟨by decide, rfl⟩ (Cellar_lt hx) (Cellar_p_state hx) ?_
  refine q_iload_n (pc := 4) dX11_mix_4 rfl rfl ?_
  refine q_callVF (pc := 5) dX11_mix_5 kX11_65 (c_tankAt0 (Cellar_s_state hx) ha) (State_sh (Cellar_s_state hx)) rfl (State_lt (Cellar_s_state hx)) ⟨Nat.le_of_ble_eq_true rfl, Nat.le_of_ble_eq_true rfl⟩ rfl rfl (Nat.le_of_ble_eq_true rfl) ?_
  show bq_W _ _ _ _ _ 8 _ [_] _ _ _ _ _ _
  refine q_astoreN (pc := 8) dX11_mix_8 (Nat.le_of_ble_eq_true rfl) rfl ?_
  show bq_W _ _ _ _ _ 10 [_, _, _, _, _, _, _] _ _ _ _ _ _ _
  refine q_aload_n (pc := 10) dX11_mix_10 rfl rfl ?_
  refine q_getP (pc := 11) dX11_mix_11 fX11_10 (Cellar_sh hx) ⟨by decide, rfl⟩ (Cellar_lt hx) (Cellar_p_state hx) ?_
  refine q_iload_n (pc := 14) dX11_mix_14 rfl rfl ?_
  refine q_callVF (pc := 15) dX11_mix_15 kX11_65 (c_tankAt0 (Cellar_s_state hx) hb) (State_sh (Cellar_s_state hx)) rfl (State_lt (Cellar_s_state hx)) ⟨Nat.le_of_ble_eq_true rfl, Nat.le_of_ble_eq_true rfl⟩ rfl rfl (Nat.le_of_ble_eq_true rfl) ?_
  show bq_W _ _ _ _ _ 18 _ [_] _ _ _ _ _ _
  refine q_astoreN (pc := 18) dX11_mix_18 (Nat.le_of_ble_eq_true rfl) rfl ?_
  show bq_W _ _ _ _ _ 20 [_, _, _, _, _, _, _] _ _ _ _ _ _ _
  refine q_aloadN (pc := 20) dX11_mix_20 rfl ?_
  refine q_ifnullN (pc := 22) 35 dX11_mix_22 (by decide) ?_
  refine q_aload_n (pc := 35) dX11_mix_35 rfl rfl ?_
  refine q_iconst (pc := 36) (v := nI 1) dX11_mix_36 (by decide) ?_
  refine q_callVF (pc := 37) dX11_mix_37 kX11_85 (c_refuse hx) (Cellar_sh hx) rfl (Cellar_lt hx) ⟨Nat.le_of_ble_eq_true rfl, Nat.le_of_ble_eq_true rfl⟩ rfl rfl (Nat.le_of_ble_eq_true rfl) ?_
  show bq_W _ _ _ _ _ 40 _ [_] _ _ _ _ _ _
  exact q_iret (st := []) (pc := 40) dX11_mix_40 rfl (qOp.ref hX' (by unfold p_mix; rw [if_pos (by first | exact Or.inl ha | exact Or.inr (Or.inl hb) | exact Or.inr (Or.inr rfl))]))
set_option maxHeartbeats 1000000 in
set_option maxRecDepth 20000 in
theorem m_mix_b {S : BqH} {n : Nat} {I : BqI} {L : BqL} {P : BqP} {x : Nat} {g : BqG} {h : Nat → BqG} {ch en : Nat} (hX : CXS x S n I L P g h ch) (hG : GI g en) (hen : en < 2 ^ 29) {a l w : Int32} {b : Nat} (ha : a < nI 0 ∨ ¬ a ≤ nI 5) (hb : b < 6) : bq_Sp mX11_mix 5 136 0 0 [.ref x, .int a, .int (nI b), .int l, .int w] S n I L P (qOp x I L S n P (p_mix g h ch (I x 10) a (nI b) l w)) := by
  refine q_entry (vs := [some (.ref x), some (.int a), some (.int (nI b)), some (.int l), some (.int w), none, none]) (by decide +kernel) (by simp) (Nat.le_of_ble_eq_true rfl) rfl ?_
  have hX' := hX
  obtain ⟨hx, hC, hc, hl, π, hP, hh⟩ := hX
  refine q_aload_n (pc := 0) dX11_mix_0 rfl rfl ?_
  refine q_getP (pc := 1) dX11_mix_1 fX11_10 (Cellar_sh hx) ⟨by decide, rfl⟩ (Cellar_lt hx) (Cellar_p_state hx) ?_
  refine q_iload_n (pc := 4) dX11_mix_4 rfl rfl ?_
  refine q_callVF (pc := 5) dX11_mix_5 kX11_65 (c_tankAt0 (Cellar_s_state hx) ha) (State_sh (Cellar_s_state hx)) rfl (State_lt (Cellar_s_state hx)) ⟨Nat.le_of_ble_eq_true rfl, Nat.le_of_ble_eq_true rfl⟩ rfl rfl (Nat.le_of_ble_eq_true rfl) ?_
  show bq_W _ _ _ _ _ 8 _ [_] _ _ _ _ _ _
  refine q_astoreN (pc := 8) dX11_mix_8 (Nat.le_of_ble_eq_true rfl) rfl ?_
  show bq_W _ _ _ _ _ 10 [_, _, _, _, _, _, _] _ _ _ _ _ _ _
  refine q_aload_n (pc := 10) dX11_mix_10 rfl rfl ?_
  refine q_getP (pc := 11) dX11_mix_11 fX11_10 (Cellar_sh hx) ⟨by decide, rfl⟩ (Cellar_lt hx) (Cellar_p_state hx) ?_
  refine q_iload_n (pc := 14) dX11_mix_14 rfl rfl ?_
  refine q_callVF (pc := 15) dX11_mix_15 kX11_65 (c_tankAt (Cellar_s_state hx) hb) (State_sh (Cellar_s_state hx)) rfl (State_lt (Cellar_s_state hx)) ⟨Nat.le_of_ble_eq_true rfl, Nat.le_of_ble_eq_true rfl⟩ rfl rfl (Nat.le_of_ble_eq_true rfl) ?_
  show bq_W _ _ _ _ _ 18 _ [_] _ _ _ _ _ _
  refine q_astore (pc := 18) dX11_mix_18 (Nat.le_of_ble_eq_true rfl) rfl ?_
  show bq_W _ _ _ _ _ 20 [_, _, _, _, _, _, _] _ _ _ _ _ _ _
  refine q_aloadN (pc := 20) dX11_mix_20 rfl ?_
  refine q_ifnullN (pc := 22) 35 dX11_mix_22 (by decide) ?_
  refine q_aload_n (pc := 35) dX11_mix_35 rfl rfl ?_
  refine q_iconst (pc := 36) (v := nI 1) dX11_mix_36 (by decide) ?_
  refine q_callVF (pc := 37) dX11_mix_37 kX11_85 (c_refuse hx) (Cellar_sh hx) rfl (Cellar_lt hx) ⟨Nat.le_of_ble_eq_true rfl, Nat.le_of_ble_eq_true rfl⟩ rfl rfl (Nat.le_of_ble_eq_true rfl) ?_
  show bq_W _ _ _ _ _ 40 _ [_] _ _ _ _ _ _
  exact q_iret (st := []) (pc := 40) dX11_mix_40 rfl (qOp.ref hX' (by unfold p_mix; rw [if_pos (by first | exact Or.inl ha | exact Or.inr (Or.inr rfl))]))
set_option maxHeartbeats 1000000 in
set_option maxRecDepth 20000 in
theorem m_mix_c {S : BqH} {n : Nat} {I : BqI} {L : BqL} {P : BqP} {x : Nat} {g : BqG} {h : Nat → BqG} {ch en : Nat} (hX : CXS x S n I L P g h ch) (hG : GI g en) (hen : en < 2 ^ 29) {b l w : Int32} {a : Nat} (ha : a < 6) (hb : b < nI 0 ∨ ¬ b ≤ nI 5) : bq_Sp mX11_mix 5 136 0 0 [.ref x, .int (nI a), .int b, .int l, .int w] S n I L P (qOp x I L S n P (p_mix g h ch (I x 10) (nI a) b l w)) := by
  refine q_entry (vs := [some (.ref x), some (.int (nI a)), some (.int b), some (.int l), some (.int w), none, none]) (by decide +kernel) (by simp) (Nat.le_of_ble_eq_true rfl) rfl ?_
  have hX' := hX
  obtain ⟨hx, hC, hc, hl, π, hP, hh⟩ := hX
  refine q_aload_n (pc := 0) dX11_mix_0 rfl rfl ?_
  refine q_getP (pc := 1) dX11_mix_1 fX11_10 (Cellar_sh hx) ⟨by decide, rfl⟩ (Cellar_lt hx) (Cellar_p_state hx) ?_
  refine q_iload_n (pc := 4) dX11_mix_4 rfl rfl ?_
  refine q_callVF (pc := 5) dX11_mix_5 kX11_65 (c_tankAt (Cellar_s_state hx) ha) (State_sh (Cellar_s_state hx)) rfl (State_lt (Cellar_s_state hx)) ⟨Nat.le_of_ble_eq_true rfl, Nat.le_of_ble_eq_true rfl⟩ rfl rfl (Nat.le_of_ble_eq_true rfl) ?_
  show bq_W _ _ _ _ _ 8 _ [_] _ _ _ _ _ _
  refine q_astore (pc := 8) dX11_mix_8 (Nat.le_of_ble_eq_true rfl) rfl ?_
  show bq_W _ _ _ _ _ 10 [_, _, _, _, _, _, _] _ _ _ _ _ _ _
  refine q_aload_n (pc := 10) dX11_mix_10 rfl rfl ?_
  refine q_getP (pc := 11) dX11_mix_11 fX11_10 (Cellar_sh hx) ⟨by decide, rfl⟩ (Cellar_lt hx) (Cellar_p_state hx) ?_
  refine q_iload_n (pc := 14) dX11_mix_14 rfl rfl ?_
  refine q_callVF (pc := 15) dX11_mix_15 kX11_65 (c_tankAt0 (Cellar_s_state hx) hb) (State_sh (Cellar_s_state hx)) rfl (State_lt (Cellar_s_state hx)) ⟨Nat.le_of_ble_eq_true rfl, Nat.le_of_ble_eq_true rfl⟩ rfl rfl (Nat.le_of_ble_eq_true rfl) ?_
  show bq_W _ _ _ _ _ 18 _ [_] _ _ _ _ _ _
  refine q_astoreN (pc := 18) dX11_mix_18 (Nat.le_of_ble_eq_true rfl) rfl ?_
  show bq_W _ _ _ _ _ 20 [_, _, _, _, _, _, _] _ _ _ _ _ _ _
  refine q_aload (pc := 20) dX11_mix_20 rfl ?_
  refine q_ifnull (pc := 22) dX11_mix_22 ?_
  refine q_aloadN (pc := 25) dX11_mix_25 rfl ?_
  refine q_ifnullN (pc := 27) 35 dX11_mix_27 (by decide) ?_
  refine q_aload_n (pc := 35) dX11_mix_35 rfl rfl ?_
  refine q_iconst (pc := 36) (v := nI 1) dX11_mix_36 (by decide) ?_
  refine q_callVF (pc := 37) dX11_mix_37 kX11_85 (c_refuse hx) (Cellar_sh hx) rfl (Cellar_lt hx) ⟨Nat.le_of_ble_eq_true rfl, Nat.le_of_ble_eq_true rfl⟩ rfl rfl (Nat.le_of_ble_eq_true rfl) ?_
  show bq_W _ _ _ _ _ 40 _ [_] _ _ _ _ _ _
  exact q_iret (st := []) (pc := 40) dX11_mix_40 rfl (qOp.ref hX' (by unfold p_mix; rw [if_pos (by first | exact Or.inr (Or.inl hb) | exact Or.inr (Or.inr rfl))]))
set_option maxHeartbeats 2000000 in
set_option maxRecDepth 20000 in
theorem m_mix_d {S : BqH} {n : Nat} {I : BqI} {L : BqL} {P : BqP} {x : Nat} {g : BqG} {h : Nat → BqG} {ch en : Nat} (hX : CXS x S n I L P g h ch) (hG : GI g en) (hen : en < 2 ^ 29) {l w : Int32} {a b : Nat} (ha : a < 6) (hb : b < 6) : bq_Sp mX11_mix 5 136 0 0 [.ref x, .int (nI a), .int (nI b), .int l, .int w] S n I L P (qOp x I L S n P (p_mix g h ch (I x 10) (nI a) (nI b) l w)) := by
  refine q_entry (vs := [some (.ref x), some (.int (nI a)), some (.int (nI b)), some (.int l), some (.int w), none, none]) (by decide +kernel) (by simp) (Nat.le_of_ble_eq_true rfl) rfl ?_
  have hX' := hX
  obtain ⟨hx, hC, hc, hl, π, hP, hh⟩ := hX
  have a1 : I (x + 1 + 15 + 3 * a) 1 = nI (gn g (11 + 19 * a)) := hC.1.tn1 hG ha
  have b1 : I (x + 1 + 15 + 3 * b) 1 = nI (gn g (11 + 19 * b)) := hC.1.tn1 hG hb
  obtain ⟨qa1, qa2, qa3, qa4, qa5, qa6⟩ := hG.t ha
  obtain ⟨qb1, qb2, qb3, qb4, qb5, qb6⟩ := hG.t hb
  refine q_aload_n (pc := 0) dX11_mix_0 rfl rfl ?_
  refine q_getP (pc := 1) dX11_mix_1 fX11_10 (Cellar_sh hx) ⟨by decide, rfl⟩ (Cellar_lt hx) (Cellar_p_state hx) ?_
  refine q_iload_n (pc := 4) dX11_mix_4 rfl rfl ?_
  refine q_callVF (pc := 5) dX11_mix_5 kX11_65 (c_tankAt (Cellar_s_state hx) ha) (State_sh (Cellar_s_state hx)) rfl (State_lt (Cellar_s_state hx)) ⟨Nat.le_of_ble_eq_true rfl, Nat.le_of_ble_eq_true rfl⟩ rfl rfl (Nat.le_of_ble_eq_true rfl) ?_
  show bq_W _ _ _ _ _ 8 _ [_] _ _ _ _ _ _
  refine q_astore (pc := 8) dX11_mix_8 (Nat.le_of_ble_eq_true rfl) rfl ?_
  show bq_W _ _ _ _ _ 10 [_, _, _, _, _, _, _] _ _ _ _ _ _ _
  refine q_aload_n (pc := 10) dX11_mix_10 rfl rfl ?_
  refine q_getP (pc := 11) dX11_mix_11 fX11_10 (Cellar_sh hx) ⟨by decide, rfl⟩ (Cellar_lt hx) (Cellar_p_state hx) ?_
  refine q_iload_n (pc := 14) dX11_mix_14 rfl rfl ?_
  refine q_callVF (pc := 15) dX11_mix_15 kX11_65 (c_tankAt (Cellar_s_state hx) hb) (State_sh (Cellar_s_state hx)) rfl (State_lt (Cellar_s_state hx)) ⟨Nat.le_of_ble_eq_true rfl, Nat.le_of_ble_eq_true rfl⟩ rfl rfl (Nat.le_of_ble_eq_true rfl) ?_
  show bq_W _ _ _ _ _ 18 _ [_] _ _ _ _ _ _
  refine q_astore (pc := 18) dX11_mix_18 (Nat.le_of_ble_eq_true rfl) rfl ?_
  show bq_W _ _ _ _ _ 20 [_, _, _, _, _, _, _] _ _ _ _ _ _ _
  refine q_aload (pc := 20) dX11_mix_20 rfl ?_
  refine q_ifnull (pc := 22) dX11_mix_22 ?_
  refine q_aload (pc := 25) dX11_mix_25 rfl ?_
  refine q_ifnull (pc := 27) dX11_mix_27 ?_
  refine q_iload_n (pc := 30) dX11_mix_30 rfl rfl ?_
  refine q_iload_n (pc := 31) dX11_mix_31 rfl rfl ?_
  refine q_icmp_ne (pc := 32) 41 dX11_mix_32 (by decide) (fun c_32 => ?_) (fun c_32 => ?_)
  · have hne : a ≠ b := fun z => c_32 (by rw [z])
    refine q_iload_n (pc := 41) dX11_mix_41 rfl rfl ?_
    refine q_iconst (pc := 42) (v := nI 1) dX11_mix_42 (by decide) ?_
    refine q_sipush (pc := 43) (v := nI 9999) dX11_mix_43 (by decide) ?_
    refine q_callSF (pc := 46) dX11_mix_46 kX11_69 c_X11_outside ⟨Nat.le_of_ble_eq_true rfl, Nat.le_of_ble_eq_true rfl⟩ rfl rfl (Nat.le_of_ble_eq_true rfl) ?_
    show bq_W _ _ _ _ _ 49 _ [_] _ _ _ _ _ _
    refine q_if_ne (pc := 49) 64 dX11_mix_49 (by decide) (fun c_49 => ?_) (fun c_49 => ?_)
    · replace c_49 := bq_bn.mp c_49
      refine q_aload_n (pc := 64) dX11_mix_64 rfl rfl ?_
      refine q_bipush (pc := 65) (v := nI 8) dX11_mix_65 (by decide) ?_
      refine q_callVF (pc := 67) dX11_mix_67 kX11_85 (c_refuse hx) (Cellar_sh hx) rfl (Cellar_lt hx) ⟨Nat.le_of_ble_eq_true rfl, Nat.le_of_ble_eq_true rfl⟩ rfl rfl (Nat.le_of_ble_eq_true rfl) ?_
      show bq_W _ _ _ _ _ 70 _ [_] _ _ _ _ _ _
      exact q_iret (st := []) (pc := 70) dX11_mix_70 rfl (qOp.ref hX' (by unfold p_mix; rw [if_neg (w_pour_ok ha hb hne), if_pos (by first | exact Or.inl c_49 | exact Or.inr c_61)]))
    · replace c_49 := bq_b0.mp c_49
      refine q_iload (pc := 52) dX11_mix_52 rfl ?_
      refine q_iconst (pc := 54) (v := nI 0) dX11_mix_54 (by decide) ?_
      refine q_sipush (pc := 55) (v := nI 2000) dX11_mix_55 (by decide) ?_
      refine q_callSF (pc := 58) dX11_mix_58 kX11_69 c_X11_outside ⟨Nat.le_of_ble_eq_true rfl, Nat.le_of_ble_eq_true rfl⟩ rfl rfl (Nat.le_of_ble_eq_true rfl) ?_
      show bq_W _ _ _ _ _ 61 _ [_] _ _ _ _ _ _
      refine q_if_eq (pc := 61) 71 dX11_mix_61 (by decide) (fun c_61 => ?_) (fun c_61 => ?_)
      · replace c_61 := bq_b0.mp c_61
        obtain ⟨l, hl1, hl2, rfl⟩ := (bq_in19 l 1 9999 (by decide) (by decide)).resolve_left c_49
        obtain ⟨w, hw2, rfl⟩ := (bq_in5 w 2000 (by decide)).resolve_left c_61
        have hw := p_mix_n (g := g) (h := h) (ch := ch) (y := I x 10) ha hb hne hl1 hl2 (show w ≤ 2000 by omega)
        refine q_aload (pc := 71) dX11_mix_71 rfl ?_
        refine q_getI (pc := 73) dX11_mix_73 fX11_101 (Tank_sh (Statetanks_s_el (Cellar_s_state hx) ha)) ⟨by decide, rfl⟩ (Tank_lt (Statetanks_s_el (Cellar_s_state hx) ha)) ?_
        rw [a1]
        refine q_iconst (pc := 76) (v := nI 1) dX11_mix_76 (by decide) ?_
        refine q_icmp_ne (pc := 77) 89 dX11_mix_77 (by decide) (fun c_77 => ?_) (fun c_77 => ?_)
        · refine q_aload_n (pc := 89) dX11_mix_89 rfl rfl ?_
          refine q_iconst (pc := 90) (v := nI 2) dX11_mix_90 (by decide) ?_
          refine q_callVF (pc := 91) dX11_mix_91 kX11_85 (c_refuse hx) (Cellar_sh hx) rfl (Cellar_lt hx) ⟨Nat.le_of_ble_eq_true rfl, Nat.le_of_ble_eq_true rfl⟩ rfl rfl (Nat.le_of_ble_eq_true rfl) ?_
          show bq_W _ _ _ _ _ 94 _ [_] _ _ _ _ _ _
          exact q_iret (st := []) (pc := 94) dX11_mix_94 rfl (qOp.ref hX' (by rw [hw]; unfold n_mix; rw [if_pos (fun z => by first | exact c_77 (by rw [z.1]) | exact c_86 (by rw [z.2]))]))
        · refine q_aload (pc := 80) dX11_mix_80 rfl ?_
          refine q_getI (pc := 82) dX11_mix_82 fX11_101 (Tank_sh (Statetanks_s_el (Cellar_s_state hx) hb)) ⟨by decide, rfl⟩ (Tank_lt (Statetanks_s_el (Cellar_s_state hx) hb)) ?_
          rw [b1]
          refine q_iconst (pc := 85) (v := nI 1) dX11_mix_85 (by decide) ?_
          refine q_icmp_eq (pc := 86) 95 dX11_mix_86 (by decide) (fun c_86 => ?_) (fun c_86 => ?_)
          · have hA : gn g (11 + 19 * a) = 1 ∧ gn g (11 + 19 * b) = 1 := ⟨(nI_eq (by omega) (by decide)).mp c_77, (nI_eq (by omega) (by decide)).mp c_86⟩
            refine q_aload_n (pc := 95) dX11_mix_95 rfl rfl ?_
            refine q_getP (pc := 96) dX11_mix_96 fX11_48 (Cellar_sh hx) ⟨by decide, rfl⟩ (Cellar_lt hx) (Cellar_p_mixer hx) ?_
            refine q_aload (pc := 99) dX11_mix_99 rfl ?_
            refine q_getP (pc := 101) dX11_mix_101 fX11_73 (Tank_sh (Statetanks_s_el (Cellar_s_state hx) ha)) ⟨by decide, rfl⟩ (Tank_lt (Statetanks_s_el (Cellar_s_state hx) ha)) (Tank_p_content (Statetanks_s_el (Cellar_s_state hx) ha)) ?_
            refine q_aload (pc := 104) dX11_mix_104 rfl ?_
            refine q_getP (pc := 106) dX11_mix_106 fX11_73 (Tank_sh (Statetanks_s_el (Cellar_s_state hx) hb)) ⟨by decide, rfl⟩ (Tank_lt (Statetanks_s_el (Cellar_s_state hx) hb)) (Tank_p_content (Statetanks_s_el (Cellar_s_state hx) hb)) ?_
            refine q_aload_n (pc := 109) dX11_mix_109 rfl rfl ?_
            refine q_getP (pc := 110) dX11_mix_110 fX11_10 (Cellar_sh hx) ⟨by decide, rfl⟩ (Cellar_lt hx) (Cellar_p_state hx) ?_
            refine q_getP (pc := 113) dX11_mix_113 fX11_233 (State_sh (Cellar_s_state hx)) ⟨by decide, rfl⟩ (State_lt (Cellar_s_state hx)) (State_p_strengths (Cellar_s_state hx)) ?_
            refine q_iload_n (pc := 116) dX11_mix_116 rfl rfl ?_
            refine q_iload (pc := 117) dX11_mix_117 rfl ?_
            refine q_callV (pc := 119) dX11_mix_119 kX11_263 (c_near (F := gp g a) (G := gp g b) (s := fun b => gn g (124 + 5 * b)) hx (Tank_s_content (Statetanks_s_el (Cellar_s_state hx) ha)) (Tank_s_content (Statetanks_s_el (Cellar_s_state hx) hb)) (State_s_strengths (Cellar_s_state hx)) (by omega) (by omega) (by omega) (hC.1.pn hG ha) (hC.1.pn hG hb) (fun j hj => (hC.1.at (lc_B0 hj)).trans (hG.n (by omega) (by omega))) (fun j hj => (hG.2.2.2.2.2.2.2.2.1 j hj).1) (show 0 < gt g a by omega) (show 0 < gt g b by omega) (show gt g a ≤ 9999 by omega) (show gt g b ≤ 9999 by omega) hl2 (show w ≤ 2000 by omega)) (Mixer_sh (Cellar_s_mixer hx)) rfl (Mixer_lt (Cellar_s_mixer hx)) ⟨Nat.le_of_ble_eq_true rfl, Nat.le_of_ble_eq_true rfl⟩ rfl rfl (Nat.le_of_ble_eq_true rfl) ?_
            rintro _ S1 n1 I1 L1 P1 ⟨rfl, eS1, en1, eL1, eP1, f1⟩
            subst S1 n1 L1 P1
            show bq_W _ _ _ _ _ 122 _ [_] _ _ _ _ _ _
            exact q_iret (st := []) (pc := 122) dX11_mix_122 rfl ⟨by rw [hw]; unfold n_mix; rw [if_neg (not_not_intro hA)], rfl, rfl, by rw [hw]; unfold n_mix; rw [if_neg (not_not_intro hA)]; exact CXS.fr2 hX' (fun a ha => f1 a (by omega) (by omega)), by rw [hw]; unfold n_mix; rw [if_neg (not_not_intro hA)]; exact congrFun (f1 x (by omega) (by omega)) 10, ⟨fun a ha => f1 a (by omega) (by omega), congrFun (f1 x (by omega) (by omega)) 4⟩, fun _ _ => rfl, fun _ _ => rfl⟩
          · refine q_aload_n (pc := 89) dX11_mix_89 rfl rfl ?_
            refine q_iconst (pc := 90) (v := nI 2) dX11_mix_90 (by decide) ?_
            refine q_callVF (pc := 91) dX11_mix_91 kX11_85 (c_refuse hx) (Cellar_sh hx) rfl (Cellar_lt hx) ⟨Nat.le_of_ble_eq_true rfl, Nat.le_of_ble_eq_true rfl⟩ rfl rfl (Nat.le_of_ble_eq_true rfl) ?_
            show bq_W _ _ _ _ _ 94 _ [_] _ _ _ _ _ _
            exact q_iret (st := []) (pc := 94) dX11_mix_94 rfl (qOp.ref hX' (by rw [hw]; unfold n_mix; rw [if_pos (fun z => by first | exact c_77 (by rw [z.1]) | exact c_86 (by rw [z.2]))]))
      · replace c_61 := bq_bn.mp c_61
        refine q_aload_n (pc := 64) dX11_mix_64 rfl rfl ?_
        refine q_bipush (pc := 65) (v := nI 8) dX11_mix_65 (by decide) ?_
        refine q_callVF (pc := 67) dX11_mix_67 kX11_85 (c_refuse hx) (Cellar_sh hx) rfl (Cellar_lt hx) ⟨Nat.le_of_ble_eq_true rfl, Nat.le_of_ble_eq_true rfl⟩ rfl rfl (Nat.le_of_ble_eq_true rfl) ?_
        show bq_W _ _ _ _ _ 70 _ [_] _ _ _ _ _ _
        exact q_iret (st := []) (pc := 70) dX11_mix_70 rfl (qOp.ref hX' (by unfold p_mix; rw [if_neg (w_pour_ok ha hb hne), if_pos (by first | exact Or.inl c_49 | exact Or.inr c_61)]))
  · refine q_aload_n (pc := 35) dX11_mix_35 rfl rfl ?_
    refine q_iconst (pc := 36) (v := nI 1) dX11_mix_36 (by decide) ?_
    refine q_callVF (pc := 37) dX11_mix_37 kX11_85 (c_refuse hx) (Cellar_sh hx) rfl (Cellar_lt hx) ⟨Nat.le_of_ble_eq_true rfl, Nat.le_of_ble_eq_true rfl⟩ rfl rfl (Nat.le_of_ble_eq_true rfl) ?_
    show bq_W _ _ _ _ _ 40 _ [_] _ _ _ _ _ _
    exact q_iret (st := []) (pc := 40) dX11_mix_40 rfl (qOp.ref hX' (by unfold p_mix; rw [if_pos (Or.inr (Or.inr c_32))]))
theorem m_mix {S : BqH} {n : Nat} {I : BqI} {L : BqL} {P : BqP} {x : Nat} {g : BqG} {h : Nat → BqG} {ch en : Nat} (hX : CXS x S n I L P g h ch) (hG : GI g en) (hen : en < 2 ^ 29) {a b l w : Int32} : bq_Sp mX11_mix 5 136 0 0 [.ref x, .int a, .int b, .int l, .int w] S n I L P (qOp x I L S n P (p_mix g h ch (I x 10) a b l w)) := by
  rcases bq_in5 a 5 (by decide) with ha | ⟨a, ha, rfl⟩
  · rcases bq_in5 b 5 (by decide) with hb | ⟨b, hb, rfl⟩
    · exact m_mix_a hX hG hen ha hb
    · exact m_mix_b hX hG hen ha hb
  · rcases bq_in5 b 5 (by decide) with hb | ⟨b, hb, rfl⟩
    · exact m_mix_c hX hG hen ha hb
    · exact m_mix_d hX hG hen ha hb
set_option maxHeartbeats 1000000 in
set_option maxRecDepth 20000 in
theorem c_by {S : BqH} {n : Nat} {I : BqI} {L : BqL} {P : BqP} {m t k : Nat} {g : BqG} (hm : oModel S n P m) (hg : I (m + 1) = g) {en : Nat} (hG : GI g en) (ht : t < 6) (hk : k ≤ gt g t) (hp : 0 < gt g t) : bq_Sp mX12_alcoholBy 4 78 0 0 [.ref m, .int (nI t), .int (nI k)] S n I L P (qBy m I S n L P (.long (nJ (al (npt (gp g t) k) (fun b => gn g (124 + 5 * b)))))) := by
  refine q_entry (vs := [some (.ref m), some (.int (nI t)), some (.int (nI k))]) (by decide +kernel) (by simp) (Nat.le_of_ble_eq_true rfl) rfl ?_
  obtain ⟨q1, q2, q3, q4, q5, q6⟩ := hG.t ht
  have hb : ns (gp g t) 16 ≤ 9999 := show gt g t ≤ 9999 by omega
  refine q_aload_n (pc := 0) dX12_alcoholBy_0 rfl rfl ?_
  refine q_iload_n (pc := 1) dX12_alcoholBy_1 rfl rfl ?_
  refine q_callVF (pc := 2) dX12_alcoholBy_2 kX12_105 (c_X12_looksAt hm (t := t) (by omega)) (Model_sh hm) rfl (Model_lt hm) ⟨Nat.le_of_ble_eq_true rfl, Nat.le_of_ble_eq_true rfl⟩ rfl rfl (Nat.le_of_ble_eq_true rfl) ?_
  show bq_W _ _ _ _ _ 5 _ [] _ _ _ _ _ _
  refine q_nameI (fun I2 e2 => ?_)
  have hF2 : ∀ j, j < 16 → I2 (m + 6) j = nI (gp g t j) := fun j hj => by rw [e2, bq_r_self, lk_at hj, hg]; exact hG.p ht j hj
  have hg2 : I2 (m + 1) = g := by rw [e2, bq_r_ne (by omega)]; exact hg
  refine q_aload_n (pc := 5) dX12_alcoholBy_5 rfl rfl ?_
  refine q_iload_n (pc := 6) dX12_alcoholBy_6 rfl rfl ?_
  refine q_callV (pc := 7) dX12_alcoholBy_7 kX12_109 (c_X12_takes hm hF2 hk hp hb) (Model_sh hm) rfl (Model_lt hm) ⟨Nat.le_of_ble_eq_true rfl, Nat.le_of_ble_eq_true rfl⟩ rfl rfl (Nat.le_of_ble_eq_true rfl) ?_
  rintro _ S3 n3 I3 L3 P3 ⟨rfl, eS3, en3, eL3, eP3, f3, t3⟩
  subst S3 n3 L3 P3
  show bq_W _ _ _ _ _ 10 _ [] _ _ _ _ _ _
  refine q_aload_n (pc := 10) dX12_alcoholBy_10 rfl rfl ?_
  refine q_aload_n (pc := 11) dX12_alcoholBy_11 rfl rfl ?_
  refine q_getP (pc := 12) dX12_alcoholBy_12 fX12_28 (Model_sh hm) ⟨by decide, rfl⟩ (Model_lt hm) (Model_p_taken hm) ?_
  refine q_callVF (pc := 15) dX12_alcoholBy_15 kX12_135 (c_X12_alcoholOf hm (Model_s_taken hm)) (Model_sh hm) rfl (Model_lt hm) ⟨Nat.le_of_ble_eq_true rfl, Nat.le_of_ble_eq_true rfl⟩ rfl rfl (Nat.le_of_ble_eq_true rfl) ?_
  show bq_W _ _ _ _ _ 18 _ [_] _ _ _ _ _ _
  rw [al_m t3 (s := fun b => gn g (124 + 5 * b)) (fun j hj => by rw [f3 _ (by omega) (by omega), hg2]; exact hG.n (by omega) (by omega)) (fun j hj => Nat.le_trans ((npt_in (F := gp g t) hk hp).1 j hj).2.1 (Nat.le_trans (ns_ge 16 hj) hb)) (fun j hj => (hG.2.2.2.2.2.2.2.2.1 j hj).1)]
  exact q_lret (st := []) (pc := 18) dX12_alcoholBy_18 rfl ⟨rfl, rfl, rfl, rfl, rfl, fun a ha => by rw [f3 a (by omega) (by omega), e2]; exact bq_r_ne (by omega)⟩
set_option maxHeartbeats 5360000 in
set_option maxRecDepth 20000 in
theorem o_mix {S : BqH} {n : Nat} {I : BqI} {L : BqL} {P : BqP} {m ch : Nat} {h : Nat → BqG} {g : BqG} (hm : oModel S n P m) (hH : MH m I h ch) (hg : I (m + 1) = g) {en : Nat} (hG : GI g en) (hen : en < 2 ^ 29) (hq : I m 6 = nI 0) {a b l w : Int32} : bq_Sp mX12_mix 5 100 0 0 [.ref m, .int a, .int b, .int l, .int w] S n I L P (qMo m I S n L P (p_mix g h ch (I m 7) a b l w)) := by
  refine q_entry (vs := [some (.ref m), some (.int a), some (.int b), some (.int l), some (.int w), none, none, none, none, none, none]) (by decide +kernel) (by simp) (Nat.le_of_ble_eq_true rfl) rfl ?_
  have T0 := MSt.mk hH hg
  have hq1 : 0 ≤ 1 := by decide
  refine q_iload_n (pc := 0) dX12_mix_0 rfl rfl ?_
  refine q_callSF (pc := 1) dX12_mix_1 kX12_95 c_X12_isTank ⟨Nat.le_of_ble_eq_true rfl, Nat.le_of_ble_eq_true rfl⟩ rfl rfl (Nat.le_of_ble_eq_true rfl) ?_
  show bq_W _ _ _ _ _ 4 _ [_] _ _ _ _ _ _
  refine q_if_eq (pc := 4) 19 dX12_mix_4 (by decide) (fun c_4 => ?_) (fun c_4 => ?_)
  · replace c_4 := bq_nb0.mp c_4
    refine q_aload_n (pc := 19) dX12_mix_19 rfl rfl ?_
    refine q_iconst (pc := 20) (v := nI 1) dX12_mix_20 (by decide) ?_
    refine q_callVF (pc := 21) dX12_mix_21 kX12_99 (c_X12_refuses hm) (Model_sh hm) rfl (Model_lt hm) ⟨Nat.le_of_ble_eq_true rfl, Nat.le_of_ble_eq_true rfl⟩ rfl rfl (Nat.le_of_ble_eq_true rfl) ?_
    show bq_W _ _ _ _ _ 24 _ [_] _ _ _ _ _ _
    exact q_iret (st := []) (pc := 24) dX12_mix_24 rfl (qMo.mk (T0.ref (nI 1)) (by unfold p_mix; rw [if_pos (by first | exact Or.inl c_4 | exact Or.inr (Or.inl c_11) | exact Or.inr (Or.inr c_16))]))
  · replace c_4 := bq_nbn.mp c_4
    refine q_iload_n (pc := 7) dX12_mix_7 rfl rfl ?_
    refine q_callSF (pc := 8) dX12_mix_8 kX12_95 c_X12_isTank ⟨Nat.le_of_ble_eq_true rfl, Nat.le_of_ble_eq_true rfl⟩ rfl rfl (Nat.le_of_ble_eq_true rfl) ?_
    show bq_W _ _ _ _ _ 11 _ [_] _ _ _ _ _ _
    refine q_if_eq (pc := 11) 19 dX12_mix_11 (by decide) (fun c_11 => ?_) (fun c_11 => ?_)
    · replace c_11 := bq_nb0.mp c_11
      refine q_aload_n (pc := 19) dX12_mix_19 rfl rfl ?_
      refine q_iconst (pc := 20) (v := nI 1) dX12_mix_20 (by decide) ?_
      refine q_callVF (pc := 21) dX12_mix_21 kX12_99 (c_X12_refuses hm) (Model_sh hm) rfl (Model_lt hm) ⟨Nat.le_of_ble_eq_true rfl, Nat.le_of_ble_eq_true rfl⟩ rfl rfl (Nat.le_of_ble_eq_true rfl) ?_
      show bq_W _ _ _ _ _ 24 _ [_] _ _ _ _ _ _
      exact q_iret (st := []) (pc := 24) dX12_mix_24 rfl (qMo.mk (T0.ref (nI 1)) (by unfold p_mix; rw [if_pos (by first | exact Or.inl c_4 | exact Or.inr (Or.inl c_11) | exact Or.inr (Or.inr c_16))]))
    · replace c_11 := bq_nbn.mp c_11
      refine q_iload_n (pc := 14) dX12_mix_14 rfl rfl ?_
      refine q_iload_n (pc := 15) dX12_mix_15 rfl rfl ?_
      refine q_icmp_ne (pc := 16) 25 dX12_mix_16 (by decide) (fun c_16 => ?_) (fun c_16 => ?_)
      · obtain ⟨a, ha, rfl⟩ := (bq_in5 a 5 (by decide)).resolve_left c_4
        obtain ⟨b, hb, rfl⟩ := (bq_in5 b 5 (by decide)).resolve_left c_11
        have hne : a ≠ b := fun z => c_16 (by rw [z])
        have h1a : g (11 + 19 * a) = nI (gn g (11 + 19 * a)) := hG.n (by omega) (by omega)
        obtain ⟨qa1, qa2, qa3, qa4, qa5, qa6⟩ := hG.t ha
        have h1b : g (11 + 19 * b) = nI (gn g (11 + 19 * b)) := hG.n (by omega) (by omega)
        obtain ⟨qb1, qb2, qb3, qb4, qb5, qb6⟩ := hG.t hb
        refine q_iload_n (pc := 25) dX12_mix_25 rfl rfl ?_
        refine q_iconst (pc := 26) (v := nI 1) dX12_mix_26 (by decide) ?_
        refine q_sipush (pc := 27) (v := nI 9999) dX12_mix_27 (by decide) ?_
        refine q_callSF (pc := 30) dX12_mix_30 kX12_69 c_X12_in ⟨Nat.le_of_ble_eq_true rfl, Nat.le_of_ble_eq_true rfl⟩ rfl rfl (Nat.le_of_ble_eq_true rfl) ?_
        show bq_W _ _ _ _ _ 33 _ [_] _ _ _ _ _ _
        refine q_if_eq (pc := 33) 48 dX12_mix_33 (by decide) (fun c_33 => ?_) (fun c_33 => ?_)
        · replace c_33 := bq_nb0.mp c_33
          refine q_aload_n (pc := 48) dX12_mix_48 rfl rfl ?_
          refine q_bipush (pc := 49) (v := nI 8) dX12_mix_49 (by decide) ?_
          refine q_callVF (pc := 51) dX12_mix_51 kX12_99 (c_X12_refuses hm) (Model_sh hm) rfl (Model_lt hm) ⟨Nat.le_of_ble_eq_true rfl, Nat.le_of_ble_eq_true rfl⟩ rfl rfl (Nat.le_of_ble_eq_true rfl) ?_
          show bq_W _ _ _ _ _ 54 _ [_] _ _ _ _ _ _
          exact q_iret (st := []) (pc := 54) dX12_mix_54 rfl (qMo.mk (T0.ref (nI 8)) (by unfold p_mix; rw [if_neg (w_pour_ok ha hb hne), if_pos (by first | exact Or.inl c_33 | exact Or.inr c_45)]))
        · replace c_33 := bq_nbn.mp c_33
          refine q_iload (pc := 36) dX12_mix_36 rfl ?_
          refine q_iconst (pc := 38) (v := nI 0) dX12_mix_38 (by decide) ?_
          refine q_sipush (pc := 39) (v := nI 2000) dX12_mix_39 (by decide) ?_
          refine q_callSF (pc := 42) dX12_mix_42 kX12_69 c_X12_in ⟨Nat.le_of_ble_eq_true rfl, Nat.le_of_ble_eq_true rfl⟩ rfl rfl (Nat.le_of_ble_eq_true rfl) ?_
          show bq_W _ _ _ _ _ 45 _ [_] _ _ _ _ _ _
          refine q_if_ne (pc := 45) 55 dX12_mix_45 (by decide) (fun c_45 => ?_) (fun c_45 => ?_)
          · replace c_45 := bq_nbn.mp c_45
            obtain ⟨l, hl1, hl2, rfl⟩ := (bq_in19 l 1 9999 (by decide) (by decide)).resolve_left c_33
            obtain ⟨w, hw2, rfl⟩ := (bq_in5 w 2000 (by decide)).resolve_left c_45
            have hw3 : w ≤ 2000 := by omega
            have hw := p_mix_n (g := g) (h := h) (ch := ch) (y := I m 7) ha hb hne hl1 hl2 hw3
            refine q_aload_n (pc := 55) dX12_mix_55 rfl rfl ?_
            refine q_iload_n (pc := 56) dX12_mix_56 rfl rfl ?_
            refine q_iconst (pc := 57) (v := nI 1) dX12_mix_57 (by decide) ?_
            refine q_callVF (pc := 58) dX12_mix_58 kX12_73 (c_tA hm (t := a) (k := 1) (j := 11 + 19 * a) (by omega) (by omega)) (Model_sh hm) rfl (Model_lt hm) ⟨Nat.le_of_ble_eq_true rfl, Nat.le_of_ble_eq_true rfl⟩ rfl rfl (Nat.le_of_ble_eq_true rfl) ?_
            show bq_W _ _ _ _ _ 61 _ [_] _ _ _ _ _ _
            rw [hg, h1a]
            refine q_iconst (pc := 61) (v := nI 1) dX12_mix_61 (by decide) ?_
            refine q_icmp_ne (pc := 62) 75 dX12_mix_62 (by decide) (fun c_62 => ?_) (fun c_62 => ?_)
            · refine q_aload_n (pc := 75) dX12_mix_75 rfl rfl ?_
              refine q_iconst (pc := 76) (v := nI 2) dX12_mix_76 (by decide) ?_
              refine q_callVF (pc := 77) dX12_mix_77 kX12_99 (c_X12_refuses hm) (Model_sh hm) rfl (Model_lt hm) ⟨Nat.le_of_ble_eq_true rfl, Nat.le_of_ble_eq_true rfl⟩ rfl rfl (Nat.le_of_ble_eq_true rfl) ?_
              show bq_W _ _ _ _ _ 80 _ [_] _ _ _ _ _ _
              exact q_iret (st := []) (pc := 80) dX12_mix_80 rfl (qMo.mk (T0.ref (nI 2)) (by rw [hw]; unfold n_mix; rw [if_pos (fun z => by first | exact c_62 (by rw [z.1]) | exact c_72 (by rw [z.2]))]))
            · refine q_aload_n (pc := 65) dX12_mix_65 rfl rfl ?_
              refine q_iload_n (pc := 66) dX12_mix_66 rfl rfl ?_
              refine q_iconst (pc := 67) (v := nI 1) dX12_mix_67 (by decide) ?_
              refine q_callVF (pc := 68) dX12_mix_68 kX12_73 (c_tA hm (t := b) (k := 1) (j := 11 + 19 * b) (by omega) (by omega)) (Model_sh hm) rfl (Model_lt hm) ⟨Nat.le_of_ble_eq_true rfl, Nat.le_of_ble_eq_true rfl⟩ rfl rfl (Nat.le_of_ble_eq_true rfl) ?_
              show bq_W _ _ _ _ _ 71 _ [_] _ _ _ _ _ _
              rw [hg, h1b]
              refine q_iconst (pc := 71) (v := nI 1) dX12_mix_71 (by decide) ?_
              refine q_icmp_eq (pc := 72) 81 dX12_mix_72 (by decide) (fun c_72 => ?_) (fun c_72 => ?_)
              · have hA : gn g (11 + 19 * a) = 1 ∧ gn g (11 + 19 * b) = 1 := ⟨(nI_eq (by omega) (by decide)).mp c_62, (nI_eq (by omega) (by decide)).mp c_72⟩
                have pA : 0 < ns (gp g a) 16 := show 0 < gt g a by omega
                have pB : 0 < ns (gp g b) 16 := show 0 < gt g b by omega
                have bA : ns (gp g a) 16 ≤ 9999 := show gt g a ≤ 9999 by omega
                have bB : ns (gp g b) 16 ≤ 9999 := show gt g b ≤ 9999 by omega
                have hss : ∀ j, j < 16 → (fun b => gn g (124 + 5 * b)) j ≤ 2000 := fun j hj => (hG.2.2.2.2.2.2.2.2.1 j hj).1
                refine q_bipush (pc := 81) (v := (-5)) dX12_mix_81 (by decide) ?_
                refine q_istore (pc := 83) dX12_mix_83 (Nat.le_of_ble_eq_true rfl) rfl ?_
                show bq_W _ _ _ _ _ 85 [_, _, _, _, _, _, _, _, _, _, _] _ _ _ _ _ _ _
                refine q_lconst (pc := 85) dX12_mix_85 rfl ?_
                refine q_lstore (pc := 86) dX12_mix_86 (Nat.le_of_ble_eq_true rfl) rfl ?_
                show bq_W _ _ _ _ _ 88 [_, _, _, _, _, _, _, _, _, _, _] _ _ _ _ _ _ _
                refine q_iconst (pc := 88) (v := nI 0) dX12_mix_88 (by decide) ?_
                refine q_iload_n (pc := 89) dX12_mix_89 rfl rfl ?_
                refine q_aload_n (pc := 90) dX12_mix_90 rfl rfl ?_
                refine q_iload_n (pc := 91) dX12_mix_91 rfl rfl ?_
                refine q_callVF (pc := 92) dX12_mix_92 kX12_88 (c_X12_litresIn hm (t := b) (by omega)) (Model_sh hm) rfl (Model_lt hm) ⟨Nat.le_of_ble_eq_true rfl, Nat.le_of_ble_eq_true rfl⟩ rfl rfl (Nat.le_of_ble_eq_true rfl) ?_
                show bq_W _ _ _ _ _ 95 _ [_, _, _] _ _ _ _ _ _
                rw [hg, hG.tot hb]
                refine q_isub (pc := 95) dX12_mix_95 ?_
                refine q_max (pc := 96) dX12_mix_96 kX12_215 ⟨Nat.le_of_ble_eq_true rfl, Nat.le_of_ble_eq_true rfl⟩ ?_
                rw [mx_max (by omega) (by omega)]
                refine q_istore (pc := 99) dX12_mix_99 (Nat.le_of_ble_eq_true rfl) rfl ?_
                show bq_W _ _ _ _ _ 101 [_, _, _, _, _, _, _, _, _, _, _] _ _ _ _ _ _ _
                have lp : ∀ i, i ≤ ((min l (gt g a)) + 1 - (l - gt g b)) → ∀ (J : BqI) (v9 : Option Value), (∀ a, a < m + 6 ∨ m + 9 ≤ a → J a = I a) → bq_W mX12_mix 5 100 0 0 101 [some (.ref m), some (.int (nI a)), some (.int (nI b)), some (.int (nI l)), some (.int (nI w)), some (.int (ri (mf (fun k => (dz (gp g a) (gp g b) (fun b => gn g (124 + 5 * b)) l w k).natAbs) (l - gt g b) i))), some (.long (ls5 (fun k => (dz (gp g a) (gp g b) (fun b => gn g (124 + 5 * b)) l w k).natAbs) (mf (fun k => (dz (gp g a) (gp g b) (fun b => gn g (124 + 5 * b)) l w k).natAbs) (l - gt g b) i))), none, some (.int (nI ((l - gt g b) + i))), v9, none] [] S n J L P (qMo m I S n L P (p_mix g h ch (I m 7) (nI a) (nI b) (nI l) (nI w))) := by
                  refine bq_down (A := fun i => ∀ (J : BqI) (v9 : Option Value), (∀ a, a < m + 6 ∨ m + 9 ≤ a → J a = I a) → bq_W mX12_mix 5 100 0 0 101 [some (.ref m), some (.int (nI a)), some (.int (nI b)), some (.int (nI l)), some (.int (nI w)), some (.int (ri (mf (fun k => (dz (gp g a) (gp g b) (fun b => gn g (124 + 5 * b)) l w k).natAbs) (l - gt g b) i))), some (.long (ls5 (fun k => (dz (gp g a) (gp g b) (fun b => gn g (124 + 5 * b)) l w k).natAbs) (mf (fun k => (dz (gp g a) (gp g b) (fun b => gn g (124 + 5 * b)) l w k).natAbs) (l - gt g b) i))), none, some (.int (nI ((l - gt g b) + i))), v9, none] [] S n J L P (qMo m I S n L P (p_mix g h ch (I m 7) (nI a) (nI b) (nI l) (nI w)))) ((min l (gt g a)) + 1 - (l - gt g b)) ?_ ?_
                  · intro J v9 hJ
                    have hgJ : J (m + 1) = g := by rw [hJ _ (by omega)]; exact hg
                    refine q_iload (pc := 101) dX12_mix_101 rfl ?_
                    refine q_iload_n (pc := 103) dX12_mix_103 rfl rfl ?_
                    refine q_aload_n (pc := 104) dX12_mix_104 rfl rfl ?_
                    refine q_iload_n (pc := 105) dX12_mix_105 rfl rfl ?_
                    refine q_callVF (pc := 106) dX12_mix_106 kX12_88 (c_X12_litresIn hm (t := a) (by omega)) (Model_sh hm) rfl (Model_lt hm) ⟨Nat.le_of_ble_eq_true rfl, Nat.le_of_ble_eq_true rfl⟩ rfl rfl (Nat.le_of_ble_eq_true rfl) ?_
                    show bq_W _ _ _ _ _ 109 _ [_, _, _] _ _ _ _ _ _
                    rw [hgJ, hG.tot ha]
                    refine q_min (pc := 109) dX12_mix_109 kX12_220 ⟨Nat.le_of_ble_eq_true rfl, Nat.le_of_ble_eq_true rfl⟩ ?_
                    rw [mx_min (by omega) (by omega)]
                    refine q_icmp_gt (pc := 112) 173 dX12_mix_112 (by decide) (fun c_112 => ?_) (fun c_112 => absurd (nI_lt (by omega) (by omega)) c_112)
                    refine q_iload (pc := 173) dX12_mix_173 rfl ?_
                    exact q_iret (st := []) (pc := 175) dX12_mix_175 rfl (qMo.mk (T0.sc (fun a ha => hJ a (by omega))) (by rw [hw]; unfold n_mix; rw [if_neg (not_not_intro hA)]; rfl))
                  · intro i hi ih J v9 hJ
                    have hgJ : J (m + 1) = g := by rw [hJ _ (by omega)]; exact hg
                    have k1 : (l - gt g b) + i ≤ l := by omega
                    have k2 : (l - gt g b) + i ≤ gt g a := by omega
                    have k3 : l - ((l - gt g b) + i) ≤ gt g b := by omega
                    have hwv : Lz ((nI w).toInt64 * (nI l).toInt64) (l * w : Nat) := by rw [Nat.mul_comm l w]; exact mx_w2 hl2 hw3
                    have db : (fun k => (dz (gp g a) (gp g b) (fun b => gn g (124 + 5 * b)) l w k).natAbs) ((l - gt g b) + i) ≤ 10 ^ 9 := Nat.le_trans (dz_le hss k2 k3 pA pB bA bB hl2 hw3) (by decide)
                    cases hr : (mf (fun k => (dz (gp g a) (gp g b) (fun b => gn g (124 + 5 * b)) l w k).natAbs) (l - gt g b) i) with
                    | none =>
                      rw [show ri none = (-5) from rfl]
                      refine q_iload (pc := 101) dX12_mix_101 rfl ?_
                      refine q_iload_n (pc := 103) dX12_mix_103 rfl rfl ?_
                      refine q_aload_n (pc := 104) dX12_mix_104 rfl rfl ?_
                      refine q_iload_n (pc := 105) dX12_mix_105 rfl rfl ?_
                      refine q_callVF (pc := 106) dX12_mix_106 kX12_88 (c_X12_litresIn hm (t := a) (by omega)) (Model_sh hm) rfl (Model_lt hm) ⟨Nat.le_of_ble_eq_true rfl, Nat.le_of_ble_eq_true rfl⟩ rfl rfl (Nat.le_of_ble_eq_true rfl) ?_
                      show bq_W _ _ _ _ _ 109 _ [_, _, _] _ _ _ _ _ _
                      rw [hgJ, hG.tot ha]
                      refine q_min (pc := 109) dX12_mix_109 kX12_220 ⟨Nat.le_of_ble_eq_true rfl, Nat.le_of_ble_eq_true rfl⟩ ?_
                      rw [mx_min (by omega) (by omega)]
                      refine q_icmp_gt (pc := 112) 173 dX12_mix_112 (by decide) (fun c_112 => (nI_nlt (show (l - gt g b) + i ≤ (min l (gt g a)) by omega) (by omega) c_112).elim) (fun c_112 => ?_)
                      refine q_aload_n (pc := 115) dX12_mix_115 rfl rfl ?_
                      refine q_iload_n (pc := 116) dX12_mix_116 rfl rfl ?_
                      refine q_iload (pc := 117) dX12_mix_117 rfl ?_
                      refine q_callV (pc := 119) dX12_mix_119 kX12_223 (c_by hm hgJ hG ha k2 pA) (Model_sh hm) rfl (Model_lt hm) ⟨Nat.le_of_ble_eq_true rfl, Nat.le_of_ble_eq_true rfl⟩ rfl rfl (Nat.le_of_ble_eq_true rfl) ?_
                      rintro _ S1 n1 I1 L1 P1 ⟨rfl, eS1, en1, eL1, eP1, f1⟩
                      subst S1 n1 L1 P1
                      show bq_W _ _ _ _ _ 122 _ [_] _ _ _ _ _ _
                      refine q_aload_n (pc := 122) dX12_mix_122 rfl rfl ?_
                      refine q_iload_n (pc := 123) dX12_mix_123 rfl rfl ?_
                      refine q_iload_n (pc := 124) dX12_mix_124 rfl rfl ?_
                      refine q_iload (pc := 125) dX12_mix_125 rfl ?_
                      refine q_isub (pc := 127) dX12_mix_127 ?_
                      rw [pk_sub k1]
                      refine q_callV (pc := 128) dX12_mix_128 kX12_223 (c_by hm (show I1 (m + 1) = g from (f1 _ (by omega)).trans hgJ) hG hb k3 pB) (Model_sh hm) rfl (Model_lt hm) ⟨Nat.le_of_ble_eq_true rfl, Nat.le_of_ble_eq_true rfl⟩ rfl rfl (Nat.le_of_ble_eq_true rfl) ?_
                      rintro _ S2 n2 I2 L2 P2 ⟨rfl, eS2, en2, eL2, eP2, f2⟩
                      subst S2 n2 L2 P2
                      show bq_W _ _ _ _ _ 131 _ [_, _] _ _ _ _ _ _
                      have hJ3 : ∀ a, a < m + 6 ∨ m + 9 ≤ a → I2 a = I a := fun a ha => by rw [f2 a ha, f1 a ha]; exact hJ a ha
                      refine q_ladd (pc := 131) dX12_mix_131 ?_
                      refine q_iload (pc := 132) dX12_mix_132 rfl ?_
                      refine q_i2l (pc := 134) dX12_mix_134 ?_
                      refine q_iload_n (pc := 135) dX12_mix_135 rfl rfl ?_
                      refine q_i2l (pc := 136) dX12_mix_136 ?_
                      refine q_lmul (pc := 137) dX12_mix_137 ?_
                      refine q_lsub (pc := 138) dX12_mix_138 ?_
                      refine q_absL (pc := 139) dX12_mix_139 kX12_227 ⟨Nat.le_of_ble_eq_true rfl, Nat.le_of_ble_eq_true rfl⟩ ?_
                      rw [dz_abs hss k2 k3 pA pB bA bB hl2 hw3 hwv]
                      refine q_lstore (pc := 142) dX12_mix_142 (Nat.le_of_ble_eq_true rfl) rfl ?_
                      show bq_W _ _ _ _ _ 144 [_, _, _, _, _, _, _, _, _, _, _] _ _ _ _ _ _ _
                      refine q_iload (pc := 144) dX12_mix_144 rfl ?_
                      refine q_bipush (pc := 146) (v := (-5)) dX12_mix_146 (by decide) ?_
                      refine q_icmp_eq (pc := 148) 159 dX12_mix_148 (by decide) (fun c_148 => ?_) (fun c_148 => (c_148 rfl).elim)
                      refine q_iload (pc := 159) dX12_mix_159 rfl ?_
                      refine q_istore (pc := 161) dX12_mix_161 (Nat.le_of_ble_eq_true rfl) rfl ?_
                      show bq_W _ _ _ _ _ 163 [_, _, _, _, _, _, _, _, _, _, _] _ _ _ _ _ _ _
                      refine q_lload (pc := 163) dX12_mix_163 rfl ?_
                      refine q_lstore (pc := 165) dX12_mix_165 (Nat.le_of_ble_eq_true rfl) rfl ?_
                      show bq_W _ _ _ _ _ 167 [_, _, _, _, _, _, _, _, _, _, _] _ _ _ _ _ _ _
                      refine q_iinc (pc := 167) (v := nI (((l - gt g b) + i) + 1)) dX12_mix_167 rfl (bq_inc _) (Nat.le_of_ble_eq_true rfl) rfl ?_
                      show bq_W _ _ _ _ _ 170 [_, _, _, _, _, _, _, _, _, _, _] _ _ _ _ _ _ _
                      refine q_goto (pc := 170) 101 dX12_mix_170 (by decide) ?_
                      rw [mf_none hr] at ih
                      exact ih _ _ hJ3
                    | some q =>
                      have hq := mf_lt hr
                      have dq : (fun k => (dz (gp g a) (gp g b) (fun b => gn g (124 + 5 * b)) l w k).natAbs) q ≤ 10 ^ 9 := Nat.le_trans (dz_le hss (show q ≤ gt g a by omega) (show l - q ≤ gt g b by omega) pA pB bA bB hl2 hw3) (by decide)
                      rw [show ri (some q) = nI q from rfl, show ls5 (fun k => (dz (gp g a) (gp g b) (fun b => gn g (124 + 5 * b)) l w k).natAbs) (some q) = lN ((fun k => (dz (gp g a) (gp g b) (fun b => gn g (124 + 5 * b)) l w k).natAbs) q) from rfl]
                      refine q_iload (pc := 101) dX12_mix_101 rfl ?_
                      refine q_iload_n (pc := 103) dX12_mix_103 rfl rfl ?_
                      refine q_aload_n (pc := 104) dX12_mix_104 rfl rfl ?_
                      refine q_iload_n (pc := 105) dX12_mix_105 rfl rfl ?_
                      refine q_callVF (pc := 106) dX12_mix_106 kX12_88 (c_X12_litresIn hm (t := a) (by omega)) (Model_sh hm) rfl (Model_lt hm) ⟨Nat.le_of_ble_eq_true rfl, Nat.le_of_ble_eq_true rfl⟩ rfl rfl (Nat.le_of_ble_eq_true rfl) ?_
                      show bq_W _ _ _ _ _ 109 _ [_, _, _] _ _ _ _ _ _
                      rw [hgJ, hG.tot ha]
                      refine q_min (pc := 109) dX12_mix_109 kX12_220 ⟨Nat.le_of_ble_eq_true rfl, Nat.le_of_ble_eq_true rfl⟩ ?_
                      rw [mx_min (by omega) (by omega)]
                      refine q_icmp_gt (pc := 112) 173 dX12_mix_112 (by decide) (fun c_112 => (nI_nlt (show (l - gt g b) + i ≤ (min l (gt g a)) by omega) (by omega) c_112).elim) (fun c_112 => ?_)
                      refine q_aload_n (pc := 115) dX12_mix_115 rfl rfl ?_
                      refine q_iload_n (pc := 116) dX12_mix_116 rfl rfl ?_
                      refine q_iload (pc := 117) dX12_mix_117 rfl ?_
                      refine q_callV (pc := 119) dX12_mix_119 kX12_223 (c_by hm hgJ hG ha k2 pA) (Model_sh hm) rfl (Model_lt hm) ⟨Nat.le_of_ble_eq_true rfl, Nat.le_of_ble_eq_true rfl⟩ rfl rfl (Nat.le_of_ble_eq_true rfl) ?_
                      rintro _ S1 n1 I1 L1 P1 ⟨rfl, eS1, en1, eL1, eP1, f1⟩
                      subst S1 n1 L1 P1
                      show bq_W _ _ _ _ _ 122 _ [_] _ _ _ _ _ _
                      refine q_aload_n (pc := 122) dX12_mix_122 rfl rfl ?_
                      refine q_iload_n (pc := 123) dX12_mix_123 rfl rfl ?_
                      refine q_iload_n (pc := 124) dX12_mix_124 rfl rfl ?_
                      refine q_iload (pc := 125) dX12_mix_125 rfl ?_
                      refine q_isub (pc := 127) dX12_mix_127 ?_
                      rw [pk_sub k1]
                      refine q_callV (pc := 128) dX12_mix_128 kX12_223 (c_by hm (show I1 (m + 1) = g from (f1 _ (by omega)).trans hgJ) hG hb k3 pB) (Model_sh hm) rfl (Model_lt hm) ⟨Nat.le_of_ble_eq_true rfl, Nat.le_of_ble_eq_true rfl⟩ rfl rfl (Nat.le_of_ble_eq_true rfl) ?_
                      rintro _ S2 n2 I2 L2 P2 ⟨rfl, eS2, en2, eL2, eP2, f2⟩
                      subst S2 n2 L2 P2
                      show bq_W _ _ _ _ _ 131 _ [_, _] _ _ _ _ _ _
                      have hJ3 : ∀ a, a < m + 6 ∨ m + 9 ≤ a → I2 a = I a := fun a ha => by rw [f2 a ha, f1 a ha]; exact hJ a ha
                      refine q_ladd (pc := 131) dX12_mix_131 ?_
                      refine q_iload (pc := 132) dX12_mix_132 rfl ?_
                      refine q_i2l (pc := 134) dX12_mix_134 ?_
                      refine q_iload_n (pc := 135) dX12_mix_135 rfl rfl ?_
                      refine q_i2l (pc := 136) dX12_mix_136 ?_
                      refine q_lmul (pc := 137) dX12_mix_137 ?_
                      refine q_lsub (pc := 138) dX12_mix_138 ?_
                      refine q_absL (pc := 139) dX12_mix_139 kX12_227 ⟨Nat.le_of_ble_eq_true rfl, Nat.le_of_ble_eq_true rfl⟩ ?_
                      rw [dz_abs hss k2 k3 pA pB bA bB hl2 hw3 hwv]
                      refine q_lstore (pc := 142) dX12_mix_142 (Nat.le_of_ble_eq_true rfl) rfl ?_
                      show bq_W _ _ _ _ _ 144 [_, _, _, _, _, _, _, _, _, _, _] _ _ _ _ _ _ _
                      refine q_iload (pc := 144) dX12_mix_144 rfl ?_
                      refine q_bipush (pc := 146) (v := (-5)) dX12_mix_146 (by decide) ?_
                      refine q_icmp_eq (pc := 148) 159 dX12_mix_148 (by decide) (fun c_148 => (ri_ne5 (by omega) c_148).elim) (fun c_148 => ?_)
                      refine q_lload (pc := 151) dX12_mix_151 rfl ?_
                      refine q_lload (pc := 153) dX12_mix_153 rfl ?_
                      refine q_lcmp (pc := 155) dX12_mix_155 ?_
                      refine q_if_ge (pc := 156) 167 dX12_mix_156 (by decide) (fun c_156 => ?_) (fun c_156 => ?_)
                      · have hge : ¬ (fun k => (dz (gp g a) (gp g b) (fun b => gn g (124 + 5 * b)) l w k).natAbs) ((l - gt g b) + i) < (fun k => (dz (gp g a) (gp g b) (fun b => gn g (124 + 5 * b)) l w k).natAbs) q := Nat.not_lt.mpr (mx_ge dq db c_156)
                        refine q_iinc (pc := 167) (v := nI (((l - gt g b) + i) + 1)) dX12_mix_167 rfl (bq_inc _) (Nat.le_of_ble_eq_true rfl) rfl ?_
                        show bq_W _ _ _ _ _ 170 [_, _, _, _, _, _, _, _, _, _, _] _ _ _ _ _ _ _
                        refine q_goto (pc := 170) 101 dX12_mix_170 (by decide) ?_
                        rw [mf_ge2 hr hge] at ih
                        exact ih _ _ hJ3
                      · have hlt : (fun k => (dz (gp g a) (gp g b) (fun b => gn g (124 + 5 * b)) l w k).natAbs) ((l - gt g b) + i) < (fun k => (dz (gp g a) (gp g b) (fun b => gn g (124 + 5 * b)) l w k).natAbs) q := mx_lt dq db c_156
                        refine q_iload (pc := 159) dX12_mix_159 rfl ?_
                        refine q_istore (pc := 161) dX12_mix_161 (Nat.le_of_ble_eq_true rfl) rfl ?_
                        show bq_W _ _ _ _ _ 163 [_, _, _, _, _, _, _, _, _, _, _] _ _ _ _ _ _ _
                        refine q_lload (pc := 163) dX12_mix_163 rfl ?_
                        refine q_lstore (pc := 165) dX12_mix_165 (Nat.le_of_ble_eq_true rfl) rfl ?_
                        show bq_W _ _ _ _ _ 167 [_, _, _, _, _, _, _, _, _, _, _] _ _ _ _ _ _ _
                        refine q_iinc (pc := 167) (v := nI (((l - gt g b) + i) + 1)) dX12_mix_167 rfl (bq_inc _) (Nat.le_of_ble_eq_true rfl) rfl ?_
                        show bq_W _ _ _ _ _ 170 [_, _, _, _, _, _, _, _, _, _, _] _ _ _ _ _ _ _
                        refine q_goto (pc := 170) 101 dX12_mix_170 (by decide) ?_
                        rw [mf_lt2 hr hlt] at ih
                        exact ih _ _ hJ3
                exact lp 0 (Nat.zero_le _) I _ (fun _ _ => rfl)
              · refine q_aload_n (pc := 75) dX12_mix_75 rfl rfl ?_
                refine q_iconst (pc := 76) (v := nI 2) dX12_mix_76 (by decide) ?_
                refine q_callVF (pc := 77) dX12_mix_77 kX12_99 (c_X12_refuses hm) (Model_sh hm) rfl (Model_lt hm) ⟨Nat.le_of_ble_eq_true rfl, Nat.le_of_ble_eq_true rfl⟩ rfl rfl (Nat.le_of_ble_eq_true rfl) ?_
                show bq_W _ _ _ _ _ 80 _ [_] _ _ _ _ _ _
                exact q_iret (st := []) (pc := 80) dX12_mix_80 rfl (qMo.mk (T0.ref (nI 2)) (by rw [hw]; unfold n_mix; rw [if_pos (fun z => by first | exact c_62 (by rw [z.1]) | exact c_72 (by rw [z.2]))]))
          · replace c_45 := bq_nb0.mp c_45
            refine q_aload_n (pc := 48) dX12_mix_48 rfl rfl ?_
            refine q_bipush (pc := 49) (v := nI 8) dX12_mix_49 (by decide) ?_
            refine q_callVF (pc := 51) dX12_mix_51 kX12_99 (c_X12_refuses hm) (Model_sh hm) rfl (Model_lt hm) ⟨Nat.le_of_ble_eq_true rfl, Nat.le_of_ble_eq_true rfl⟩ rfl rfl (Nat.le_of_ble_eq_true rfl) ?_
            show bq_W _ _ _ _ _ 54 _ [_] _ _ _ _ _ _
            exact q_iret (st := []) (pc := 54) dX12_mix_54 rfl (qMo.mk (T0.ref (nI 8)) (by unfold p_mix; rw [if_neg (w_pour_ok ha hb hne), if_pos (by first | exact Or.inl c_33 | exact Or.inr c_45)]))
      · refine q_aload_n (pc := 19) dX12_mix_19 rfl rfl ?_
        refine q_iconst (pc := 20) (v := nI 1) dX12_mix_20 (by decide) ?_
        refine q_callVF (pc := 21) dX12_mix_21 kX12_99 (c_X12_refuses hm) (Model_sh hm) rfl (Model_lt hm) ⟨Nat.le_of_ble_eq_true rfl, Nat.le_of_ble_eq_true rfl⟩ rfl rfl (Nat.le_of_ble_eq_true rfl) ?_
        show bq_W _ _ _ _ _ 24 _ [_] _ _ _ _ _ _
        exact q_iret (st := []) (pc := 24) dX12_mix_24 rfl (qMo.mk (T0.ref (nI 1)) (by unfold p_mix; rw [if_pos (by first | exact Or.inl c_4 | exact Or.inr (Or.inl c_11) | exact Or.inr (Or.inr c_16))]))
/-! operations alike: what an operation makes of the row, whatever the reason was -/
def Op (g : BqG) (h : Nat → BqG) (ch en : Nat) (p : Int32 → BqR) : Prop := ∃ (a : Int32) (g' : BqG), GK g' (en + 60) ∧ ((∃ r : Option Int32, (∀ v, r = some v → ¬ v = 0) ∧ ∀ y, p y = (a, g', h, ch, r.getD y)) ∨ ∀ y, p y = chg g g' h ch y a)
section
variable {g : BqG} {h : Nat → BqG} {ch en : Nat} {p : Int32 → BqR}
theorem Op.same {a : Int32} (hK : GK g en) (e : ∀ y, p y = (a, g, h, ch, y)) : Op g h ch en p := ⟨a, g, hK.mono (by omega), Or.inl ⟨none, fun _ z => by cases z, e⟩⟩
theorem Op.ref {a v : Int32} (hK : GK g en) (hv : ¬ v = 0) (e : ∀ y, p y = (a, g, h, ch, v)) : Op g h ch en p := ⟨a, g, hK.mono (by omega), Or.inl ⟨some v, fun u z => by rw [← Option.some.inj z]; exact hv, e⟩⟩
theorem Op.cg {g' : BqG} {a : Int32} (hK : GK g' (en + 60)) (e : ∀ y, p y = chg g g' h ch y a) : Op g h ch en p := ⟨a, g', hK, Or.inr e⟩
theorem Op.st {w : Int32 × BqG} (hK : GK w.2 (en + 60)) : Op g h ch en (fun y => stp g h ch y w) := by
  by_cases c : w.1 < 0
  · refine ⟨(-3), w.2, hK, Or.inl ⟨some (-w.1), fun v z => ?_, fun y => stl_neg c⟩⟩
    rw [← Option.some.inj z]
    intro q
    have q2 : w.1 = 0 := by rw [← Int32.neg_neg (a := w.1), q]; rfl
    rw [q2] at c
    exact absurd c (by decide)
  · refine ⟨w.1, w.2, hK, Or.inr fun y => ?_⟩
    show stl g w.2 h ch y w.1 = chg g w.2 h ch y w.1
    unfold stl chg
    rw [if_neg c]
theorem op_setLoss (hK : GK g en) {v : Int32} : Op g h ch en (fun y => p_setLoss g h ch y v) := by
  rcases bq_in5 v 100 (by decide) with c | ⟨v, hv, rfl⟩
  · exact Op.same hK (fun y => if_pos c)
  · exact Op.cg ((gk_setLoss hK (by omega)).mono (by omega)) (fun y => if_neg (bq_tin hv (by decide)))
theorem op_size (hK : GK g en) {t v : Int32} : Op g h ch en (fun y => p_size g h ch y t v) := by
  rcases bq_in5 t 5 (by decide) with c | ⟨t, ht, rfl⟩
  · exact Op.same hK (fun y => if_pos c)
  have ht' := bq_tin (k := 5) ht (by decide)
  rcases bq_in19 v 1 9999 (by decide) (by decide) with c | ⟨v, h1, h2, rfl⟩
  · exact Op.same hK (fun y => (if_neg ht').trans (if_pos c))
  have hv' := bq_nin h1 h2 (by decide)
  by_cases c : gt g t ≤ v
  · have c' : nI (gt g (nI t).toNatClampNeg) ≤ nI v := by rw [nI_clamp (by omega)]; exact nI_le c (by omega)
    have e : ∀ y, p_size g h ch y (nI t) (nI v) = chg g (bq_r g (10 + 19 * t) (nI v)) h ch y (g (10 + 19 * t)) := fun y => by
      refine ((if_neg ht').trans ((if_neg hv').trans (if_pos c'))).trans ?_
      rw [nI_clamp (by omega)]
    exact Op.cg ((gk_size hK ht h1 h2 c).mono (by omega)) e
  · have c' : ¬ nI (gt g (nI t).toNatClampNeg) ≤ nI v := by
      rw [nI_clamp (by omega)]
      have hb := (hK.gi.t ht).2.2.2.2.1
      have hb2 := (hK.gi.t ht).2.1
      exact nI_ge (by omega) (by omega)
    exact Op.ref (v := nI 4) hK (by decide) (fun y => (if_neg ht').trans ((if_neg hv').trans (if_neg c')))
theorem op_rate (hK : GK g en) {d s a : Int32} : Op g h ch en (fun y => p_rate g h ch y d s a) := by
  by_cases c : (d < nI 0 ∨ ¬ d ≤ nI 9999) ∨ (s < nI 0 ∨ ¬ s ≤ nI 2000) ∨ (a < nI 0 ∨ ¬ a ≤ nI 9999)
  · exact Op.same hK (fun y => if_pos c)
  by_cases c2 : gn g 3 < 10
  · obtain ⟨d, hd, rfl⟩ := (bq_in5 d 9999 (by decide)).resolve_left (fun z => c (Or.inl z))
    obtain ⟨s, hs, rfl⟩ := (bq_in5 s 2000 (by decide)).resolve_left (fun z => c (Or.inr (Or.inl z)))
    obtain ⟨a, ha, rfl⟩ := (bq_in5 a 9999 (by decide)).resolve_left (fun z => c (Or.inr (Or.inr z)))
    exact Op.cg ((gk_rate hK c2 (by omega) (by omega) (by omega)).mono (by omega)) (fun y => (if_neg c).trans (if_pos c2))
  · exact Op.same hK (fun y => (if_neg c).trans (if_neg c2))
theorem op_order (hK : GK g en) {d l a b : Int32} : Op g h ch en (fun y => p_order g h ch y d l a b) := by
  by_cases c : (d < nI 0 ∨ ¬ d ≤ nI 99) ∨ (l < nI 1 ∨ ¬ l ≤ nI 9999) ∨ (a < nI 0 ∨ ¬ a ≤ nI 2000) ∨ (b < a ∨ ¬ b ≤ nI 2000)
  · exact Op.same hK (fun y => if_pos c)
  by_cases c2 : gn g 2 < 10
  · obtain ⟨d, hd, rfl⟩ := (bq_in5 d 99 (by decide)).resolve_left (fun z => c (Or.inl z))
    obtain ⟨l, l1, l2, rfl⟩ := (bq_in19 l 1 9999 (by decide) (by decide)).resolve_left (fun z => c (Or.inr (Or.inl z)))
    obtain ⟨a, ha, rfl⟩ := (bq_in5 a 2000 (by decide)).resolve_left (fun z => c (Or.inr (Or.inr (Or.inl z))))
    obtain ⟨b, b1, b2, rfl⟩ := (bq_in19 b a 2000 (by omega) (by decide)).resolve_left (fun z => c (Or.inr (Or.inr (Or.inr z))))
    exact Op.cg ((gk_order hK c2 (by omega) l1 l2 (by omega) b2).mono (by omega)) (fun y => (if_neg c).trans (if_pos c2))
  · exact Op.same hK (fun y => (if_neg c).trans (if_neg c2))
theorem op_drop (hK : GK g en) {o : Int32} : Op g h ch en (fun y => p_drop g h ch y o) := by
  rcases bq_inO hK.gi o with c | ⟨o, ho, rfl⟩
  · exact Op.ref (v := nI 5) hK (by decide) (fun y => if_pos c)
  · by_cases c : g (208 + 9 * o) = 0
    · exact Op.cg ((gk_drop hK ho).mono (by omega)) (fun y => (p_drop_n hK.gi ho).trans (if_pos c))
    · exact Op.ref (v := nI 5) hK (by decide) (fun y => (p_drop_n hK.gi ho).trans (if_neg c))
theorem op_brew (hK : GK g en) (hen : en < 200000) {t l s : Int32} : Op g h ch en (fun y => p_brew g h ch y t l s) := by
  rcases bq_in5 t 5 (by decide) with c | ⟨t, ht, rfl⟩
  · exact Op.same hK (fun y => if_pos c)
  have ht' := bq_tin (k := 5) ht (by decide)
  by_cases c : (l < nI 1 ∨ ¬ l ≤ nI 9999) ∨ (s < nI 0 ∨ ¬ s ≤ nI 2000)
  · exact Op.same hK (fun y => (if_neg ht').trans (if_pos c))
  by_cases c1 : gn g 1 < 16
  · by_cases c2 : gn g (11 + 19 * t) = 0
    · by_cases c3 : l ≤ g (10 + 19 * t)
      · refine Op.cg (g' := x_brew g t l s) ?_ (fun y => (p_brew_n ht c).trans ((if_neg (not_not_intro c1)).trans ((if_neg (not_not_intro c2)).trans (if_neg (not_not_intro c3)))))
        obtain ⟨l, l1, l2, rfl⟩ := (bq_in19 l 1 9999 (by decide) (by decide)).resolve_left (fun z => c (Or.inl z))
        obtain ⟨s, hs, rfl⟩ := (bq_in5 s 2000 (by decide)).resolve_left (fun z => c (Or.inr z))
        have e := hK.gi.n (k := 10 + 19 * t) (by omega) (by omega)
        have hb := (hK.gi.t ht).2.1
        rw [e] at c3
        exact (gk_brew hK hen ht l1 ((nI_leI (by omega) (by omega)).mp c3) (by omega) c1 c2).mono (by omega)
      · exact Op.ref (v := nI 4) hK (by decide) (fun y => (p_brew_n ht c).trans ((if_neg (not_not_intro c1)).trans ((if_neg (not_not_intro c2)).trans (if_pos c3))))
    · exact Op.ref (v := nI 2) hK (by decide) (fun y => (p_brew_n ht c).trans ((if_neg (not_not_intro c1)).trans (if_pos c2)))
  · exact Op.same hK (fun y => (p_brew_n ht c).trans (if_pos c1))
theorem op_corr (hK : GK g en) : Op g h ch en (fun y => p_corr g h ch y) := Op.cg ((gk_corr hK).mono (by omega)) (fun _ => rfl)
theorem op_fillAll (hK : GK g en) (hen : en + 10 < 200000) : Op g h ch en (fun y => p_fillAll g h ch y) :=
  Op.cg ((gfl_gk hK hen _ (Nat.le_refl _)).mono (by have := plan_le hK.gi; omega)) (fun _ => rfl)
theorem op_mix (hK : GK g en) {a b l w : Int32} : Op g h ch en (fun y => p_mix g h ch y a b l w) := by
  by_cases c : (a < nI 0 ∨ ¬ a ≤ nI 5) ∨ (b < nI 0 ∨ ¬ b ≤ nI 5) ∨ a = b
  · exact Op.ref (v := nI 1) hK (by decide) (fun y => if_pos c)
  by_cases c2 : (l < nI 1 ∨ ¬ l ≤ nI 9999) ∨ (w < nI 0 ∨ ¬ w ≤ nI 2000)
  · exact Op.ref (v := nI 8) hK (by decide) (fun y => (if_neg c).trans (if_pos c2))
  by_cases c3 : gn g (11 + 19 * a.toNatClampNeg) = 1 ∧ gn g (11 + 19 * b.toNatClampNeg) = 1
  · exact Op.same hK (fun y => (if_neg c).trans ((if_neg c2).trans (if_neg (not_not_intro c3))))
  · exact Op.ref (v := nI 2) hK (by decide) (fun y => (if_neg c).trans ((if_neg c2).trans (if_pos c3)))
theorem op_pour (hK : GK g en) (hen : en < 200000) {f t l : Int32} : Op g h ch en (fun y => stp g h ch y (w_pour g f t l)) := Op.st ((gk_wpour hK hen f t l).mono (by omega))
theorem op_spill (hK : GK g en) (hen : en < 200000) {t l r : Int32} : Op g h ch en (fun y => stp g h ch y (w_spill g t l r)) := Op.st ((gk_wspill hK hen t l r).mono (by omega))
theorem op_wfill (hK : GK g en) (hen : en < 200000) {t o : Int32} : Op g h ch en (fun y => stp g h ch y (w_fill g t o)) := Op.st ((gk_wfill hK hen t o).mono (by omega))
theorem op_scrub (hK : GK g en) {t : Int32} : Op g h ch en (fun y => stp g h ch y (w_scrub g t)) := Op.st ((gk_wscrub hK t).mono (by omega))
theorem op_pass (hK : GK g en) {d : Int32} : Op g h ch en (fun y => stp g h ch y (w_pass g d)) := Op.st ((gk_wpass hK d).mono (by omega))
end
/-! the two objects side by side -/
def Alk (g g' : BqG) : Prop := ∀ k, k < 650 → g k = g' k
theorem CS.alk {I : BqI} {L : BqL} {s : Nat} {g g' : BqG} (h : CS I L s g) (e : Alk g g') : CS I L s g' := by
  refine ⟨fun k a j hk => (h.1 k a j hk).trans (e k (lc_lt hk)), fun q hq => ?_, ?_, ?_⟩
  · rw [h.2.1 q hq, e _ (by omega)]
  · rw [h.2.2.1]; exact paidN_congr 10 (fun q hq => ⟨e _ (by omega), e _ (by omega)⟩)
  · rw [h.2.2.2, e 6 (by omega)]
theorem GK.alk {g g' : BqG} {en : Nat} (h : GK g en) (e : Alk g g') : GK g' en :=
  GK.of (fun k hk h6 => by rw [← e k hk]; exact h.1 k hk h6) h.2.1 (by rw [← e 6 (by omega)]; exact h.2.2)
theorem CXS.alk {x : Nat} {S : BqH} {n : Nat} {I : BqI} {L : BqL} {P : BqP} {g g' : BqG} {h h' : Nat → BqG} {ch : Nat} (hX : CXS x S n I L P g h ch) (e : Alk g g') (eh : ∀ i, i < ch → Alk (h i) (h' i)) : CXS x S n I L P g' h' ch := by
  obtain ⟨hx, hC, hc, hl, π, hP, hh⟩ := hX
  exact ⟨hx, hC.alk e, hc, hl, π, hP, fun i hi => (hh i hi).alk (eh i hi)⟩
theorem CXS.all {x : Nat} {S : BqH} {n : Nat} {I I' : BqI} {L : BqL} {P : BqP} {g : BqG} {h : Nat → BqG} {ch : Nat} (hX : CXS x S n I L P g h ch) (f : ∀ a, a < x + 131 ∨ (x + 165 ≤ a ∧ a < x + 536) → I' a = I a) : CXS x S n I' L P g h ch := by
  obtain ⟨hx, hC, hc, hl, π, hP, hh⟩ := hX
  refine ⟨hx, hC.fr (fun a q1 q2 => f a (by omega)) (fun _ _ _ => rfl), by rw [f x (by omega)]; exact hc, hl, π, hP, fun i hi => ?_⟩
  have h7 := (hP.1 i (by omega)).2
  exact (hh i hi).fr (fun a q1 q2 => f a (by omega)) (fun _ _ _ => rfl)
theorem oModel.congr {S : BqH} {n : Nat} {P P' : BqP} {m : Nat} (h : oModel S n P m) (e : P' m = P m) : oModel S n P' m := by
  unfold oModel
  rw [e]
  exact h
def JI (x m : Nat) (S : BqH) (n : Nat) (I : BqI) (L : BqL) (P : BqP) (h : Nat → BqG) (ch l en : Nat) : Prop :=
  CXS x S n I L P (I (m + 1)) h ch ∧ oModel S n P m ∧ MH m I h ch ∧ GK (I (m + 1)) en ∧ (∀ i, i < ch → GK (h i) en) ∧ (I (x + 108) 0 = nI l ∧ I m 9 = nI l ∧ l ≤ 60 ∧ ∀ j, j < l → I (x + 108 + 1) j = I (m + 5) j) ∧ I x 10 = (if I m 7 = 0 then (-5) else I m 7) ∧ I m 6 = nI 0 ∧ ((I x 4 = 0 ∧ I m 4 = 0) ∨ (¬ I x 4 = 0 ∧ ¬ I m 4 = 0 ∧ CS I L (x + 55) (I (m + 3)) ∧ GK (I (m + 3)) en))
theorem Op.x {g : BqG} {h : Nat → BqG} {ch en : Nat} {p : Int32 → BqR} (O : Op g h ch en p) (hg : GK g en) (hh : ∀ i, i < ch → GK (h i) en) (hl : ch ≤ 6) : ∃ (a : Int32) (g' : BqG) (h' : Nat → BqG) (ch' : Nat) (r : Option Int32), GK g' (en + 60) ∧ (∀ i, i < ch' → GK (h' i) (en + 60)) ∧ (∀ v, r = some v → ¬ v = 0) ∧ ∀ y, p y = (a, g', h', ch', r.getD y) := by
  obtain ⟨a, g', hK, ⟨r, hr, e⟩ | e⟩ := O
  · exact ⟨a, g', h, ch, r, hK, fun i hi => (hh i hi).mono (by omega), hr, e⟩
  · refine ⟨a, g', (remH 0 g h ch).1, (remH 0 g h ch).2, none, hK, fun i hi => ?_, fun _ z => by cases z, fun y => (e y).trans chg_rem⟩
    unfold remH at hi ⊢
    rw [if_neg (show ¬ 0 = 1 by decide)] at hi ⊢
    by_cases c : ch < 6
    · rw [if_pos c] at hi ⊢
      have hi : i < ch + 1 := hi
      show GK (bq_r h ch g i) (en + 60)
      by_cases q : i = ch
      · rw [q, bq_r_self]; exact hg.mono (by omega)
      · rw [bq_r_ne q]; exact (hh i (by omega)).mono (by omega)
    · rw [if_neg c] at hi ⊢
      have hi : i < 6 := hi
      show GK (if i = 5 then g else h (i + 1)) (en + 60)
      by_cases q : i = 5
      · rw [if_pos q]; exact hg.mono (by omega)
      · rw [if_neg q]; exact (hh (i + 1) (by omega)).mono (by omega)
section
variable {x m : Nat} {S : BqH} {n : Nat} {I : BqI} {L : BqL} {P : BqP} {h : Nat → BqG} {ch l en : Nat}
/-- behind the class's call: what the model's call needs -/
theorem JI.mid {r : Option Value} {S1 : BqH} {n1 : Nat} {I1 : BqI} {L1 : BqL} {P1 : BqP} {w : BqR} (J : JI x m S n I L P h ch l en) (hxm : x + 536 ≤ m) (q : qOp x I L S n P w r S1 n1 I1 L1 P1) : oModel S1 n1 P1 m ∧ MH m I1 h ch ∧ I1 (m + 1) = I (m + 1) ∧ I1 m 6 = nI 0 := by
  obtain ⟨-, rfl, rfl, -, -, q1, -, q2⟩ := q
  have f : ∀ a, x + 536 ≤ a → I1 a = I a := fun a ha => q1.1 a (by omega)
  refine ⟨J.2.1.congr (q2 m (by omega)), ⟨?_, J.2.2.1.2.1, fun i hi k hk => ?_⟩, f _ (by omega), ?_⟩
  · rw [f m hxm]; exact J.2.2.1.1
  · rw [f _ (by omega)]; exact J.2.2.1.2.2 i hi k hk
  · rw [f m hxm]; exact J.2.2.2.2.2.2.2.1
theorem JI.op {p : Int32 → BqR} {r r2 : Option Value} {S1 S2 : BqH} {n1 n2 : Nat} {I1 I2 : BqI} {L1 L2 : BqL} {P1 P2 : BqP} (J : JI x m S n I L P h ch l en) (hxm : x + 536 ≤ m) (O : Op (I (m + 1)) h ch en p) (q : qOp x I L S n P (p (I x 10)) r S1 n1 I1 L1 P1) (q2 : qMo m I1 S1 n1 L1 P1 (p (I1 m 7)) r2 S2 n2 I2 L2 P2) : (∃ v, r = some (.int v) ∧ r2 = some (.int v)) ∧ n2 = n ∧ ∃ h' ch', JI x m S2 n2 I2 L2 P2 h' ch' l (en + 60) := by
  obtain ⟨jX, jM, jH, jg, jh, ⟨t1, t2, t3, t4⟩, jr, j6, ji⟩ := J
  obtain ⟨a, g', h', ch', rr, hK, hKh, hr, e⟩ := O.x jg jh jH.2.1
  rw [e] at q q2
  obtain ⟨rfl, rfl, rfl, x1, x2, ⟨x3, x3b⟩, x4, x5⟩ := q
  obtain ⟨rfl, rfl, rfl, rfl, rfl, m1, m2, m3, m4, m5⟩ := q2
  have fx : ∀ b, b < m → I2 b = I1 b := fun b hb => m4 b (Or.inl hb)
  have fm : ∀ b, x + 536 ≤ b → I1 b = I b := fun b hb => x3 b (by omega)
  refine ⟨⟨a, rfl, rfl⟩, rfl, h', ch', ?_, jM.congr (x5 m (by omega)), m2, ?_, hKh, ⟨?_, ?_, t3, fun j hj => ?_⟩, ?_, ?_, ?_⟩
  · rw [m1]
    exact x1.all (fun b hb => fx b (by omega))
  · rw [m1]; exact hK
  · rw [fx _ (by omega), x3 _ (by omega)]; exact t1
  · rw [m5 9 (by decide) (by decide) (by decide), fm m hxm]; exact t2
  · rw [fx _ (by omega), x3 _ (by omega), m4 (m + 5) (by omega), fm _ (by omega)]; exact t4 j hj
  · rw [fx x (by omega), x2, m3]
    show rr.getD (I x 10) = (if rr.getD (I1 m 7) = 0 then (-5) else rr.getD (I1 m 7))
    cases hrr : rr with
    | none => show I x 10 = (if I1 m 7 = 0 then (-5) else I1 m 7); rw [fm m hxm]; exact jr
    | some v => exact (if_neg (hr v hrr)).symm
  · rw [m5 6 (by decide) (by decide) (by decide), fm m hxm]; exact j6
  · have e4 : I2 x 4 = I x 4 := by rw [fx x (by omega)]; exact x3b
    have em4 : I2 m 4 = I m 4 := by rw [m5 4 (by decide) (by decide) (by decide), fm m hxm]
    have em3 : I2 (m + 3) = I (m + 3) := by rw [m4 (m + 3) (by omega), fm _ (by omega)]
    rw [e4, em4, em3]
    rcases ji with ji | ⟨i1, i2, i3, i4⟩
    · exact Or.inl ji
    · exact Or.inr ⟨i1, i2, i3.fr (fun b q1 q2 => by rw [fx b (by omega), x3 b (by omega)]) (fun b q1 q2 => x4 b (by omega)), i4.mono (by omega)⟩
/-- a reading: neither object's rows are touched -/
theorem JI.fr {I' : BqI} (J : JI x m S n I L P h ch l en) (hxm : x + 536 ≤ m) (f : ∀ a, a < x + 131 ∨ (x + 165 ≤ a ∧ a < m) ∨ (m < a ∧ a < m + 6) → I' a = I a) (f0 : ∀ k, k ≠ 17 → I' m k = I m k) : JI x m S n I' L P h ch l (en + 60) := by
  obtain ⟨jX, jM, jH, jg, jh, ⟨t1, t2, t3, t4⟩, jr, j6, ji⟩ := J
  have e1 : I' (m + 1) = I (m + 1) := f _ (by omega)
  have e3 : I' (m + 3) = I (m + 3) := f _ (by omega)
  refine ⟨?_, jM, ⟨?_, jH.2.1, fun i hi k hk => ?_⟩, ?_, fun i hi => (jh i hi).mono (by omega), ⟨?_, ?_, t3, fun j hj => ?_⟩, ?_, ?_, ?_⟩
  · rw [e1]; exact jX.all (fun a ha => f a (by omega))
  · rw [f0 2 (by decide)]; exact jH.1
  · rw [f _ (by omega)]; exact jH.2.2 i hi k hk
  · rw [e1]; exact jg.mono (by omega)
  · rw [f _ (by omega)]; exact t1
  · rw [f0 9 (by decide)]; exact t2
  · rw [f _ (by omega), f _ (by omega)]; exact t4 j hj
  · rw [f x (by omega), f0 7 (by decide)]; exact jr
  · rw [f0 6 (by decide)]; exact j6
  · rw [f x (by omega), f0 4 (by decide), e3]
    rcases ji with ji | ⟨i1, i2, i3, i4⟩
    · exact Or.inl ji
    · exact Or.inr ⟨i1, i2, i3.fr (fun b q1 q2 => f b (by omega)) (fun _ _ _ => rfl), i4.mono (by omega)⟩
end
/-! the law's own walk: the script's cell lies below the block -/
def R_law : String := "BreweryCellarLaw"
def lw_P (b : Addr) (xs : List Int32) (args : Array Value) (s : State) : Prop := args = #[.ref b] ∧ s.IntsAt b xs ∧ xs.length ≤ 3584 ∧ (Jvm.Cond.and given_1 narrow_1).before args s = true
def lw_Q (_ : Array Value) (s : State) (o : Outcome) (t : State) : Prop := o = .returned (some (.int 1)) ∧ Framed s o t [] 600000 7302250
def lw_Z (below : List Frame) (a : Array Value) (s : State) : State → Prop := fun t => ∃ o, t.status = .running ∧ Ended t below o ∧ lw_Q a s o t
/-- the law's own end, with 1 on the stack, nothing written that was there before, its room as the claim has it -/
theorem lw_ret {p : Program} {l : Launch} {e : Env} {s : State} {m : MethodId} {below : List Frame} {meth : Method} {c : Code} {b : Nat} (hx : p.tables.exec = Jvm.exec) (hb : c.code = code) (hr : meth.sig.returnType = ret) (hlocks : meth.locks = false) {pc : Nat} {H : Heap} {ls : Array Slot} (hdg : decode code pc = .ok (.ireturn, 1)) : W p l e room_1 s m #[Value.ref b] below meth c H [] 600000 7302250 (lw_Z below #[Value.ref b] s) (F0 m pc ls [.int 1]) := by
  intro T hT X
  obtain ⟨fs, hret, hrun, hended, hW, hframe⟩ := X.leave (v := some (.int 1)) (hlocks := hlocks) (fun h => by rw [hr] at h; cases h)
  have hmeth' : T.vm.method? m = some meth := X.method'
  refine ⟨T.setFrames fs, ?_, .returned (some (.int 1)), hrun, hended, rfl, ⟨_, rfl⟩, hW, hframe⟩
  jvm_step X.here [X.here.top, hx, hb, hdg, hmeth', hr, ret, narrow_b1]
  (try refine ⟨rfl, ?_⟩); (try refine ⟨rfl, ?_⟩)
  first | (intro acts; rw [hret _ acts rfl rfl rfl]) | rw [hret _ _ rfl rfl rfl]
  exact Steps.refl _
/-- what holds at the law's entry: the machine, the code, the tables' words (any of lw_tbl by 'hts w (by decide +kernel)'), the script of L ints xs at the cell b, what the Statement gives of the start (any of its parts by flat_of_before) -/
def lw_At (p : Program) (s : State) (m : MethodId) (meth : Method) (c : Code) (b L : Nat) (xs : Nat → Int32) : Prop :=
  p.tables.exec = Jvm.exec ∧ c.code = code ∧ meth.sig.returnType = ret ∧ c.maxLocals = 4 ∧ s.vm.findClass R_law = some m.cls ∧ (∀ w ∈ lw_tbl, w.before #[Value.ref b] s = true) ∧ va_X b L xs s s.heap ∧ b < s.heap.size ∧ meth.locks = false ∧ (Jvm.Cond.and given_1 narrow_1).before #[Value.ref b] s = true
def lq_C (D : va_G) (p : Program) (s : State) (m : MethodId) (meth : Method) (c : Code) (sb Ln : Nat) (xs : Nat → Int32) : Prop :=
  p.tables.exec = Jvm.exec ∧ c.code = cL_law ∧ meth.sig.returnType = ret ∧ c.maxLocals = 4 ∧ s.vm.findClass RL = some m.cls ∧ (∀ w ∈ bq_TB, w.before #[Value.ref sb] s = true) ∧ meth.locks = false ∧ bq_K D s ∧ va_X sb Ln xs s s.heap ∧ sb < s.heap.size
def lq_W (D : va_G) (p : Program) (l : Launch) (e : Env) (s : State) (m : MethodId) (below : List Frame) (meth : Method) (c : Code) (sb cells slots pc : Nat) (lv : List (Nat × Value)) (st : List Value) (S : BqH) (n : Nat) (I : BqI) (L : BqL) (P : BqP) : Prop :=
  ∀ (H : Heap) (locs : List Jvm.Loc) (ls : Array Slot), bq_R D s.heap.size s H S n I L P → va_S (fun q => s.heap.size ≤ q) s.heap H locs → lv_has ls 4 lv → W p l e room_1 s m #[Value.ref sb] below meth c H locs cells slots (lw_Z below #[Value.ref sb] s) (F0 m pc ls st)
abbrev lq_L (b sb i : Nat) : List (Nat × Value) := [(0, .ref sb), (1, .ref (b + 0)), (2, .ref (b + 536)), (3, .int (nI i))]
section
variable {D : va_G} {p : Program} {l : Launch} {e : Env} {s : State} {m : MethodId} {below : List Frame} {meth : Method} {c : Code} {sb Ln cells slots pc : Nat} {xs : Nat → Int32} {lv : List (Nat × Value)} {st : List Value} {S : BqH} {n : Nat} {I : BqI} {L : BqL} {P : BqP}
theorem lq_iconst {z : Int} {v : Int32} (C : lq_C D p s m meth c sb Ln xs) (hd : decode cL_law pc = .ok (.iconst z, 1)) (hv : Int32.ofInt z = v) (k : lq_W D p l e s m below meth c sb cells slots (pc + 1) lv (.int v :: st) S n I L P) : lq_W D p l e s m below meth c sb cells slots pc lv st S n I L P :=
  fun H locs ls hR hS hL => lv_iconst C.1 C.2.1 hd hv (k H locs ls hR hS hL)
theorem lq_bipush {z : Int} {v : Int32} (C : lq_C D p s m meth c sb Ln xs) (hd : decode cL_law pc = .ok (.bipush z, 2)) (hv : (Int8.ofInt z).toInt32 = v) (k : lq_W D p l e s m below meth c sb cells slots (pc + 2) lv (.int v :: st) S n I L P) : lq_W D p l e s m below meth c sb cells slots pc lv st S n I L P :=
  fun H locs ls hR hS hL => lv_bipush C.1 C.2.1 hd hv (k H locs ls hR hS hL)
theorem lq_iload_n {k0 : Fin 4} {i : Nat} {x : Int32} (j : Nat) (C : lq_C D p s m meth c sb Ln xs) (hd : decode cL_law pc = .ok (.iload_n k0, 1)) (hi : (k0 : Nat) = i) (hj : lv[j]? = some (i, .int x)) (k : lq_W D p l e s m below meth c sb cells slots (pc + 1) lv (.int x :: st) S n I L P) : lq_W D p l e s m below meth c sb cells slots pc lv st S n I L P :=
  fun H locs ls hR hS hL => lv_iload_n C.1 C.2.1 hd hi (lv_at hL j hj) (k H locs ls hR hS hL)
theorem lq_aload_n {k0 : Fin 4} {i : Nat} {x : Nat} (j : Nat) (C : lq_C D p s m meth c sb Ln xs) (hd : decode cL_law pc = .ok (.aload_n k0, 1)) (hi : (k0 : Nat) = i) (hj : lv[j]? = some (i, .ref x)) (k : lq_W D p l e s m below meth c sb cells slots (pc + 1) lv (.ref x :: st) S n I L P) : lq_W D p l e s m below meth c sb cells slots pc lv st S n I L P :=
  fun H locs ls hR hS hL => lv_aload_n C.1 C.2.1 hd hi (lv_at hL j hj) (k H locs ls hR hS hL)
theorem lq_iadd {x y : Int32} (C : lq_C D p s m meth c sb Ln xs) (hd : decode cL_law pc = .ok (.iadd, 1)) (k : lq_W D p l e s m below meth c sb cells slots (pc + 1) lv (.int (x + y) :: st) S n I L P) : lq_W D p l e s m below meth c sb cells slots pc lv (.int y :: .int x :: st) S n I L P :=
  fun H locs ls hR hS hL => lv_iadd C.1 C.2.1 hd (k H locs ls hR hS hL)
theorem lq_isub {x y : Int32} (C : lq_C D p s m meth c sb Ln xs) (hd : decode cL_law pc = .ok (.isub, 1)) (k : lq_W D p l e s m below meth c sb cells slots (pc + 1) lv (.int (x - y) :: st) S n I L P) : lq_W D p l e s m below meth c sb cells slots pc lv (.int y :: .int x :: st) S n I L P :=
  fun H locs ls hR hS hL => lv_isub C.1 C.2.1 hd (k H locs ls hR hS hL)
theorem lq_iand {x y : Int32} (C : lq_C D p s m meth c sb Ln xs) (hd : decode cL_law pc = .ok (.iand, 1)) (k : lq_W D p l e s m below meth c sb cells slots (pc + 1) lv (.int (x &&& y) :: st) S n I L P) : lq_W D p l e s m below meth c sb cells slots pc lv (.int y :: .int x :: st) S n I L P :=
  fun H locs ls hR hS hL => lv_iand C.1 C.2.1 hd (k H locs ls hR hS hL)
theorem lq_dup {x : Nat} (C : lq_C D p s m meth c sb Ln xs) (hd : decode cL_law pc = .ok (.dup, 1)) (k : lq_W D p l e s m below meth c sb cells slots (pc + 1) lv (.ref x :: .ref x :: st) S n I L P) : lq_W D p l e s m below meth c sb cells slots pc lv (.ref x :: st) S n I L P :=
  fun H locs ls hR hS hL => lv_dup C.1 C.2.1 hd rfl (k H locs ls hR hS hL)
theorem lq_goto {off : Int} (tgt : Nat) (C : lq_C D p s m meth c sb Ln xs) (hd : decode cL_law pc = .ok (.goto off, 3)) (ht : (pc : Int) + off = (tgt : Int)) (k : lq_W D p l e s m below meth c sb cells slots tgt lv st S n I L P) : lq_W D p l e s m below meth c sb cells slots pc lv st S n I L P :=
  fun H locs ls hR hS hL => lv_goto C.1 C.2.1 hd ht (k H locs ls hR hS hL)
theorem lq_alen (C : lq_C D p s m meth c sb Ln xs) (hd : decode cL_law pc = .ok (.arraylength, 1)) (k : lq_W D p l e s m below meth c sb cells slots (pc + 1) lv (.int (nI Ln) :: st) S n I L P) : lq_W D p l e s m below meth c sb cells slots pc lv (.ref sb :: st) S n I L P :=
  fun H locs ls hR hS hL => va_slen C.1 C.2.1 C.2.2.2.2.2.2.2.2.1 C.2.2.2.2.2.2.2.2.2 (Nat.not_le.mpr C.2.2.2.2.2.2.2.2.2) hS hd (k H locs ls hR hS hL)
theorem lq_sld {j : Nat} (C : lq_C D p s m meth c sb Ln xs) (hj : j < Ln) (hn : Ln ≤ 3584) (hd : decode cL_law pc = .ok (.iaload, 1)) (k : lq_W D p l e s m below meth c sb cells slots (pc + 1) lv (.int (xs j) :: st) S n I L P) : lq_W D p l e s m below meth c sb cells slots pc lv (.int (nI j) :: .ref sb :: st) S n I L P :=
  fun H locs ls hR hS hL => va_sld C.1 C.2.1 C.2.2.2.2.2.2.2.2.1 C.2.2.2.2.2.2.2.2.2 (Nat.not_le.mpr C.2.2.2.2.2.2.2.2.2) hS (vp_in_nI hj (by omega)) hd (by rw [nI_clamp (by omega)]; exact k H locs ls hR hS hL)
theorem lq_iinc {i : Nat} (C : lq_C D p s m meth c sb Ln xs) (hd : decode cL_law pc = .ok (.iinc 3 7, 3)) (k : lq_W D p l e s m below meth c sb cells slots (pc + 3) (lq_L s.heap.size sb (i + 7)) st S n I L P) : lq_W D p l e s m below meth c sb cells slots pc (lq_L s.heap.size sb i) st S n I L P :=
  fun H locs ls hR hS hL => lv_iinc (k := 3) (v := nI (i + 7)) C.1 C.2.1 hd hL rfl (by rw [← nI_add, show Int32.ofInt 7 = nI 7 by decide]) (by decide) rfl (fun ls' h => k H locs ls' hR hS (lv_sub h [1, 2, 3, 0] rfl))
theorem lq_gt {x y : Int32} {off : Int} (tgt : Nat) (C : lq_C D p s m meth c sb Ln xs) (hd : decode cL_law pc = .ok (.if_icmp .gt off, 3)) (ht : (pc : Int) + off = (tgt : Int)) (kt : y < x → lq_W D p l e s m below meth c sb cells slots tgt lv st S n I L P) (kf : ¬ y < x → lq_W D p l e s m below meth c sb cells slots (pc + 3) lv st S n I L P) : lq_W D p l e s m below meth c sb cells slots pc lv (.int y :: .int x :: st) S n I L P :=
  fun H locs ls hR hS hL => lv_icmp_gt C.1 C.2.1 hd ht (fun h => kt h H locs ls hR hS hL) (fun h => kf h H locs ls hR hS hL)
theorem lq_eqI {x : Int32} {off : Int} (C : lq_C D p s m meth c sb Ln xs) (hd : decode cL_law pc = .ok (.if_icmp .eq off, 3)) (ht : (pc : Int) + off = ((1062 : Nat) : Int)) (k : lq_W D p l e s m below meth c sb cells slots 1062 lv st S n I L P) : lq_W D p l e s m below meth c sb cells slots pc lv (.int x :: .int x :: st) S n I L P :=
  fun H locs ls hR hS hL => lv_icmp_eq C.1 C.2.1 hd ht (fun _ => k H locs ls hR hS hL) (fun h => absurd rfl h)
theorem lg_cmp_self (x : Int64) : lg_cmp x x = 0 := by
  unfold lg_cmp
  rw [if_neg (show ¬ x > x from fun h => Int64.lt_irrefl h), if_pos rfl]
theorem lq_eqL {x : Int64} {off : Int} (C : lq_C D p s m meth c sb Ln xs) (hd0 : decode cL_law pc = .ok (.lcmp, 1)) (hd : decode cL_law (pc + 1) = .ok (.ifCond .eq off, 3)) (ht : ((pc + 1 : Nat) : Int) + off = ((1062 : Nat) : Int)) (k : lq_W D p l e s m below meth c sb cells slots 1062 lv st S n I L P) : lq_W D p l e s m below meth c sb cells slots pc lv (.long x :: .long x :: st) S n I L P :=
  fun H locs ls hR hS hL => W.lcmp C.1 C.2.1 hd0 (by rw [lg_cmp_self]; exact lv_if_eq C.1 C.2.1 hd ht (fun _ => k H locs ls hR hS hL) (fun h => absurd rfl h))
theorem lq_in {q : Nat} {off : Int} (tgt : Nat) (C : lq_C D p s m meth c sb Ln xs) {offs : Array Int} {dflt : Int} {len : Nat} (hd : decode cL_law pc = .ok (.tableswitch dflt 0 29 offs, len)) (hq : q ≤ 29) (ho : offs[q]? = some off) (ht : (pc : Int) + off = (tgt : Int)) (k : lq_W D p l e s m below meth c sb cells slots tgt lv st S n I L P) : lq_W D p l e s m below meth c sb cells slots pc lv (.int (nI q) :: st) S n I L P :=
  fun H locs ls hR hS hL => by
    have e : (nI q).toInt = (q : Int) := nI_toInt (by omega)
    exact lv_tableIn C.1 C.2.1 hd (by rw [e]; omega) (by rw [e]; omega) (by rw [e]; simpa using ho) ht (k H locs ls hR hS hL)
theorem lq_out {q : Nat} (tgt : Nat) (C : lq_C D p s m meth c sb Ln xs) {offs : Array Int} {dflt : Int} {len : Nat} (hd : decode cL_law pc = .ok (.tableswitch dflt 0 29 offs, len)) (hq : 29 < q) (hq2 : q < 32) (ht : (pc : Int) + dflt = (tgt : Int)) (k : lq_W D p l e s m below meth c sb cells slots tgt lv st S n I L P) : lq_W D p l e s m below meth c sb cells slots pc lv (.int (nI q) :: st) S n I L P :=
  fun H locs ls hR hS hL => by
    have e : (nI q).toInt = (q : Int) := nI_toInt (by omega)
    exact lv_tableOut C.1 C.2.1 hd (by rw [e]; omega) ht (k H locs ls hR hS hL)
theorem lq_arg {i j : Nat} {z : Int} (C : lq_C D p s m meth c sb Ln xs) (d0 : decode cL_law pc = .ok (.aload_n 0, 1)) (d1 : decode cL_law (pc + 1) = .ok (.iload_n 3, 1)) (d2 : decode cL_law (pc + 2) = .ok (.iconst z, 1)) (d3 : decode cL_law (pc + 3) = .ok (.iadd, 1)) (d4 : decode cL_law (pc + 4) = .ok (.iaload, 1)) (hz : Int32.ofInt z = nI j) (hj : i + j < Ln) (hn : Ln ≤ 3584) (k : lq_W D p l e s m below meth c sb cells slots (pc + 5) (lq_L s.heap.size sb i) (.int (xs (i + j)) :: st) S n I L P) : lq_W D p l e s m below meth c sb cells slots pc (lq_L s.heap.size sb i) st S n I L P := by
  refine lq_aload_n 0 C d0 rfl rfl ?_
  refine lq_iload_n 3 C d1 rfl rfl ?_
  refine lq_iconst C d2 hz ?_
  refine lq_iadd C d3 ?_
  rw [nI_add]
  exact lq_sld C hj hn d4 k
theorem lq_arg6 {i j : Nat} {z : Int} (C : lq_C D p s m meth c sb Ln xs) (d0 : decode cL_law pc = .ok (.aload_n 0, 1)) (d1 : decode cL_law (pc + 1) = .ok (.iload_n 3, 1)) (d2 : decode cL_law (pc + 2) = .ok (.bipush z, 2)) (d3 : decode cL_law (pc + 4) = .ok (.iadd, 1)) (d4 : decode cL_law (pc + 5) = .ok (.iaload, 1)) (hz : (Int8.ofInt z).toInt32 = nI j) (hj : i + j < Ln) (hn : Ln ≤ 3584) (k : lq_W D p l e s m below meth c sb cells slots (pc + 6) (lq_L s.heap.size sb i) (.int (xs (i + j)) :: st) S n I L P) : lq_W D p l e s m below meth c sb cells slots pc (lq_L s.heap.size sb i) st S n I L P := by
  refine lq_aload_n 0 C d0 rfl rfl ?_
  refine lq_iload_n 3 C d1 rfl rfl ?_
  refine lq_bipush C d2 hz ?_
  refine lq_iadd C d3 ?_
  rw [nI_add]
  exact lq_sld C hj hn d4 k
theorem lq_call {N0 : BqM} {o ci z idx k0 fr' lo' : Nat} {as st0 : List Value} {post' : BqQ} (C : lq_C D p s m meth c sb Ln xs) (hd : decode cL_law pc = .ok (.invokevirtual idx, 3)) (hw : bq_cV RL idx N0 k0) (hsp : bq_Sp N0 fr' lo' 0 0 (.ref o :: as) S n I L P post') (hs : S o = (ci, z)) (hci : (vwCl[ci]?).map (fun q => q.1) = some N0.1.cls) (ho : o < n) (hr : fr' + 1 ≤ 10 ∧ 8 + (N0.2.2.1 + 11) + lo' ≤ 370) (hk : as.length = k0) (hc : cells ≤ 600000 ∧ slots ≤ 7302250) (hst : st0 = (as.map (bq_cv s.heap.size)).reverse ++ .ref (s.heap.size + o) :: st) (hW : (st.map fun v => v.category).sum ≤ 8) (kk : ∀ (r : Option Value) (S' : BqH) (n' : Nat) (I' : BqI) (L' : BqL) (P' : BqP), post' r S' n' I' L' P' → ∃ v : Value, r = some v ∧ lq_W D p l e s m below meth c sb cells slots (pc + 3) lv (bq_cv s.heap.size v :: st) S' n' I' L' P') : lq_W D p l e s m below meth c sb cells slots pc lv st0 S n I L P := by
  intro H locs ls hR hS hL
  have hts := C.2.2.2.2.2.1
  refine bq_call (mc := 0) (ms := 0) (rest := st) (va_runV (As := as.map (bq_cv s.heap.size)) ⟨C.1, C.2.1, C.2.2.2.1, C.2.2.2.2.1, hts⟩ (hsp l D s.heap.size) ⟨callB_of k0 hts (bq_goodIn hw.2.2.2.2.1) rfl rfl rfl (hts _ hw.2.2.2.1) (hts _ hw.1) hw.2.2.2.2.2 hr, hts _ hw.2.1, hts _ hw.2.2.1⟩ ⟨bq_blind D s.heap.size (.ref o :: as) S n I L P, bq_recv C.2.2.2.2.2.2.2.1 hR ho hs hci, fun U hU hW => ⟨rfl, C.2.2.2.2.2.2.2.1.warm hW, by rw [hU]; exact hR.moved hW.alike⟩⟩ rfl (by rw [List.length_map]; exact hk) hL.1 hst (lv_room hW) hd hc) hS (fun r S' n' I' L' P' H1 locs1 hp hR1 hS1 => ?_)
  obtain ⟨v, rfl, h⟩ := kk r S' n' I' L' P' hp
  exact h H1 locs1 ls hR1 hS1 hL
theorem lq_callI {y0 : MethodName} {b0 : ByteArray} {l0 o idx k0 fr' lo' kc' ks' : Nat} {post' : BqQ} (C : lq_C D p s m meth c sb Ln xs) (hd : decode cL_law pc = .ok (.invokespecial idx, 3)) (hw : bq_cI RL idx (y0, b0, l0, none) 0) (hsp : bq_Sp (y0, b0, l0, none) fr' lo' kc' ks' [.ref o] S n I L P post') (hr : fr' + 1 ≤ 10 ∧ 8 + (l0 + 11) + lo' ≤ 370) (hc : cells + kc' ≤ 600000 ∧ slots + ks' ≤ 7302250) (hW : (st.map fun v => v.category).sum ≤ 8) (kk : ∀ (r : Option Value) (S' : BqH) (n' : Nat) (I' : BqI) (L' : BqL) (P' : BqP), post' r S' n' I' L' P' → r = none ∧ lq_W D p l e s m below meth c sb (cells + kc') (slots + ks') (pc + 3) lv st S' n' I' L' P') : lq_W D p l e s m below meth c sb cells slots pc lv (.ref (s.heap.size + o) :: st) S n I L P := by
  intro H locs ls hR hS hL
  have hts := C.2.2.2.2.2.1
  refine bq_call (mc := kc') (ms := ks') (rest := st) (va_runI (As := []) ⟨C.1, C.2.1, C.2.2.2.1, C.2.2.2.2.1, hts⟩ (hsp l D s.heap.size) ⟨callB_of 0 hts (bq_goodIn hw.2.2.2.2.1) rfl rfl rfl (hts _ hw.2.2.2.1) (hts _ hw.1) hw.2.2.2.2.2 hr, hw.2.2.1, hts _ hw.2.1⟩ ⟨bq_blind D s.heap.size [.ref o] S n I L P, fun U hU hW => ⟨rfl, C.2.2.2.2.2.2.2.1.warm hW, by rw [hU]; exact hR.moved hW.alike⟩⟩ rfl rfl hL.1 rfl (lv_room hW) hd hc) hS (fun r S' n' I' L' P' H1 locs1 hp hR1 hS1 => ?_)
  obtain ⟨rfl, h⟩ := kk r S' n' I' L' P' hp
  exact h H1 locs1 ls hR1 hS1 hL
theorem lq_new {idx ci N1 : Nat} (C : lq_C D p s m meth c sb Ln xs) (hd : decode cL_law pc = .ok (.new idx, 3)) (hw : bq_nw RL idx ci N1) (hc : ci < 13) (hr : cells + 1 ≤ 600000 ∧ slots + N1 ≤ 7302250) (k : lq_W D p l e s m below meth c sb (cells + 1) (slots + N1) (pc + 3) lv (.ref (s.heap.size + n) :: st) (bq_r S n (ci, 0)) (n + 1) (bq_r I n (fun _ => 0)) (bq_r L n (fun _ => 0)) (bq_r P n (fun _ => none))) : lq_W D p l e s m below meth c sb cells slots pc lv st S n I L P := by
  intro H locs ls hR hS hL
  obtain ⟨C1, T, e1, e2, e3, e4, e5⟩ := hw
  have hts := C.2.2.2.2.2.1
  have hK := C.2.2.2.2.2.2.2.1
  have hKn := hK.1.1 ci _ e1
  refine W.newcK C.1 C.2.1 C.2.2.2.2.1 (hts _ e3) (hts _ e4) (hts _ e5) rfl hd hr.1 hr.2 hKn.2.1 rfl (fun H1 kC hkC g1 g2 g3 => ?_)
  rw [hR.1] at g1 ⊢
  refine k H1 locs ls (bq_made hR g2 g3 ?_) (bq_madeS hS g2 g3) hL
  refine ⟨fun _ => ⟨_, e1, ?_⟩, fun h => by have : 13 ≤ ci := h; omega⟩
  refine (u_born (bq_fty ci) hts e2 hKn hkC g1 (bq_cls ci _ _ _ e1).1).to (fun j _ => ?_)
  unfold bq_vf
  rw [bq_r_self, bq_r_self, bq_r_self]
  exact bq_dflt _ s.heap.size (bq_fty_ok ci j)
theorem lq_end (C : lq_C D p s m meth c sb Ln xs) (hc : cells ≤ 600000 ∧ slots ≤ 7302250) : lq_W D p l e s m below meth c sb cells slots 1068 lv [] S n I L P :=
  fun H locs ls hR hS hL => lv_iconst (v := 1) C.1 C.2.1 dL_law_1068 (by decide) (va_forget hS.2.2 (W.widen (k := 600000) (n := 7302250) hc.1 hc.2 (lw_ret C.1 C.2.1 C.2.2.1 C.2.2.2.2.2.2.1 dL_law_1069)))
end
theorem lq_kn {args : Array Value} {s : State} (hts : ∀ w ∈ lw_tbl, w.before args s = true) {C : String} {T : u_T} {N : Nat} (hin : ∀ w ∈ u_ws C T N, w ∈ bq_TB) {i : Nat} (hi : lw_tbl[i]? = some (.instantiable C N)) : ∃ (cC : ClassId) (iS : Nat → Nat), u_Kn s C T N cC iS :=
  u_known (ws := bq_TB) (fun w hw => hts w (List.mem_filter.mp hw).1) hin (hts _ (List.mem_of_getElem? hi))
theorem lq_K {args : Array Value} {s : State} (hts : ∀ w ∈ lw_tbl, w.before args s = true) : ∃ D : va_G, bq_K D s := by
  obtain ⟨c0, i0, h0⟩ := lq_kn hts lwX0 (i := 86) (by decide +kernel)
  obtain ⟨c1, i1, h1⟩ := lq_kn hts lwX1 (i := 296) (by decide +kernel)
  obtain ⟨c2, i2, h2⟩ := lq_kn hts lwX2 (i := 104) (by decide +kernel)
  obtain ⟨c3, i3, h3⟩ := lq_kn hts lwX3 (i := 398) (by decide +kernel)
  obtain ⟨c4, i4, h4⟩ := lq_kn hts lwX4 (i := 165) (by decide +kernel)
  obtain ⟨c5, i5, h5⟩ := lq_kn hts lwX5 (i := 346) (by decide +kernel)
  obtain ⟨c6, i6, h6⟩ := lq_kn hts lwX6 (i := 354) (by decide +kernel)
  obtain ⟨c7, i7, h7⟩ := lq_kn hts lwX7 (i := 144) (by decide +kernel)
  obtain ⟨c8, i8, h8⟩ := lq_kn hts lwX8 (i := 78) (by decide +kernel)
  obtain ⟨c9, i9, h9⟩ := lq_kn hts lwX9 (i := 117) (by decide +kernel)
  obtain ⟨c10, i10, h10⟩ := lq_kn hts lwX10 (i := 289) (by decide +kernel)
  obtain ⟨c11, i11, h11⟩ := lq_kn hts lwX11 (i := 70) (by decide +kernel)
  obtain ⟨c12, i12, h12⟩ := lq_kn hts lwX12 (i := 862) (by decide +kernel)
  refine ⟨(fun k => if k = 0 then c0 else if k = 1 then c1 else if k = 2 then c2 else if k = 3 then c3 else if k = 4 then c4 else if k = 5 then c5 else if k = 6 then c6 else if k = 7 then c7 else if k = 8 then c8 else if k = 9 then c9 else if k = 10 then c10 else if k = 11 then c11 else c12, fun k => if k = 0 then i0 else if k = 1 then i1 else if k = 2 then i2 else if k = 3 then i3 else if k = 4 then i4 else if k = 5 then i5 else if k = 6 then i6 else if k = 7 then i7 else if k = 8 then i8 else if k = 9 then i9 else if k = 10 then i10 else if k = 11 then i11 else i12), ⟨fun k q hq => ?_, fun k q h => by simp at h⟩, ?_, ?_⟩
  · match k, hq with
    | 0, hq => cases hq; exact h0
    | 1, hq => cases hq; exact h1
    | 2, hq => cases hq; exact h2
    | 3, hq => cases hq; exact h3
    | 4, hq => cases hq; exact h4
    | 5, hq => cases hq; exact h5
    | 6, hq => cases hq; exact h6
    | 7, hq => cases hq; exact h7
    | 8, hq => cases hq; exact h8
    | 9, hq => cases hq; exact h9
    | 10, hq => cases hq; exact h10
    | 11, hq => cases hq; exact h11
    | 12, hq => cases hq; exact h12
    | k + 13, hq => simp at hq
  · have h : ∀ (i : Nat) (w : Cond), lw_tbl[i]? = some w → w.onTables = true → va_Nw w s := fun i w hi ho => va_Nw.of ho (hts _ (List.mem_of_getElem? hi))
    refine List.forall_mem_cons.mpr ⟨?_, List.forall_mem_cons.mpr ⟨?_, List.forall_mem_cons.mpr ⟨?_, List.forall_mem_cons.mpr ⟨?_, List.forall_mem_cons.mpr ⟨?_, List.forall_mem_cons.mpr ⟨?_, List.forall_mem_cons.mpr ⟨?_, List.forall_mem_cons.mpr ⟨?_, List.forall_mem_cons.mpr ⟨?_, List.forall_mem_cons.mpr ⟨?_, List.forall_mem_cons.mpr ⟨?_, List.forall_mem_cons.mpr ⟨?_, List.forall_mem_cons.mpr ⟨?_, List.forall_mem_cons.mpr ⟨?_, List.forall_mem_cons.mpr ⟨?_, fun _ z => absurd z List.not_mem_nil⟩⟩⟩⟩⟩⟩⟩⟩⟩⟩⟩⟩⟩⟩⟩
    · exact h 297 _ (by decide +kernel) rfl
    · exact h 123 _ (by decide +kernel) rfl
    · exact h 166 _ (by decide +kernel) rfl
    · exact h 145 _ (by decide +kernel) rfl
    · exact h 118 _ (by decide +kernel) rfl
    · exact h 105 _ (by decide +kernel) rfl
    · exact h 87 _ (by decide +kernel) rfl
    · exact h 453 _ (by decide +kernel) rfl
    · exact h 360 _ (by decide +kernel) rfl
    · exact h 371 _ (by decide +kernel) rfl
    · exact h 355 _ (by decide +kernel) rfl
    · exact h 404 _ (by decide +kernel) rfl
    · exact h 822 _ (by decide +kernel) rfl
    · exact h 410 _ (by decide +kernel) rfl
    · exact h 399 _ (by decide +kernel) rfl
  · have h : ∀ (i : Nat) (X : String), lw_tbl[i]? = some (.arrayOver (.object X)) → va_AO X s := fun i X hi => va_AO.of (hts _ (List.mem_of_getElem? hi))
    refine List.forall_mem_cons.mpr ⟨?_, List.forall_mem_cons.mpr ⟨?_, List.forall_mem_cons.mpr ⟨?_, List.forall_mem_cons.mpr ⟨?_, List.forall_mem_cons.mpr ⟨?_, List.forall_mem_cons.mpr ⟨?_, fun _ z => absurd z List.not_mem_nil⟩⟩⟩⟩⟩⟩
    · exact h 352 _ (by decide +kernel)
    · exact h 295 _ (by decide +kernel)
    · exact h 102 _ (by decide +kernel)
    · exact h 100 _ (by decide +kernel)
    · exact h 287 _ (by decide +kernel)
    · exact h 84 _ (by decide +kernel)
/-! the class's feeding and running -/
def FS (t : Nat) (I0 I : BqI) (l : Nat) (F : Nat → Int32) : Prop := I t 0 = nI l ∧ (∀ j, j < 60 → I (t + 1) j = F j) ∧ ∀ a, a ≠ t → a ≠ t + 1 → I a = I0 a
theorem FS.ap {t l : Nat} {I0 I : BqI} {F : Nat → Int32} {v : Int32} (h : FS t I0 I l F) : FS t I0 (ap_I I t v l) (l + 1) (bq_r F l v) := by
  obtain ⟨h0, h1, h2⟩ := h
  unfold ap_I
  refine ⟨?_, fun j hj => ?_, fun a q1 q2 => ?_⟩
  · rw [bq_u_at, bq_u_ne (by omega), h0, nI_add]
  · rw [bq_u_ne (by omega)]
    by_cases e : j = l
    · rw [e, bq_u_at, bq_r_self]
    · rw [bq_u_no (fun z => e z.2), bq_r_ne e]; exact h1 j hj
  · rw [bq_u_ne q1, bq_u_ne q2]; exact h2 a q1 q2
def qFd (x : Nat) (I : BqI) (L : BqL) (S : BqH) (n : Nat) (P : BqP) (w : Int32 × Nat × (Nat → Int32)) : BqQ := fun r S' n' I' L' P' => r = some (.int w.1) ∧ S' = S ∧ n' = n ∧ L' = L ∧ P' = P ∧ FS (x + 108) I I' w.2.1 w.2.2
theorem fb_1 {l j : Nat} {B : Nat → Int32} {a b c d e : Int32} : bq_r B l a j = (if l ≤ j ∧ j < l + 1 then fb a b c d e (j - l) else B j) := by
  by_cases h : j = l
  · subst h
    rw [bq_r_self, if_pos (by omega), Nat.sub_self]; rfl
  · rw [bq_r_ne h, if_neg (by omega)]
theorem fb_s {l j k : Nat} {B F : Nat → Int32} {a b c d e : Int32} (h : F j = (if l ≤ j ∧ j < l + k then fb a b c d e (j - l) else B j)) : bq_r F (l + k) (fb a b c d e k) j = (if l ≤ j ∧ j < l + (k + 1) then fb a b c d e (j - l) else B j) := by
  by_cases q : j = l + k
  · subst q
    rw [bq_r_self, if_pos (by omega), Nat.add_sub_cancel_left]
  · rw [bq_r_ne q, h]
    by_cases q2 : l ≤ j ∧ j < l + k
    · rw [if_pos q2, if_pos (by omega)]
    · rw [if_neg q2, if_neg (by omega)]
theorem CXS.tp {x : Nat} {S : BqH} {n : Nat} {I I' : BqI} {L : BqL} {P : BqP} {g : BqG} {h : Nat → BqG} {ch : Nat} (hX : CXS x S n I L P g h ch) (f : ∀ a, a < x + 108 ∨ x + 131 ≤ a → I' a = I a) : CXS x S n I' L P g h ch := by
  obtain ⟨hx, hC, hc, hl, π, hP, hh⟩ := hX
  exact ⟨hx, hC.fr (fun a q1 q2 => f a (by omega)) (fun _ _ _ => rfl), by rw [f x (by omega)]; exact hc, hl, π, hP, fun i hi => (hh i hi).fr (fun a q1 q2 => f a (by omega)) (fun _ _ _ => rfl)⟩
theorem Mid.st {x : Nat} {S : BqH} {n : Nat} {I0 I I1 : BqI} {L0 L L1 : BqL} {P : BqP} {g g' g'' : BqG} {h : Nat → BqG} {ch : Nat} {π : Nat → Nat} {y : Int32} (hM : Mid x S n I0 I L0 L P g g' h ch π y) (C : CS I1 L1 (x + 1) g'') (F1 : Frm x I I1) (F2 : FrmL x L L1) : Mid x S n I0 I1 L0 L1 P g g'' h ch π y := by
  obtain ⟨hx, hP, hC, hc, hl, hh, hg, hy, hF, hFL⟩ := hM
  have fx := F1 x (by omega)
  exact ⟨hx, hP, C, by rw [fx]; exact hc, hl, fun i hi => (hh i hi).fr (fun a q1 q2 => F1 a (by omega)) (fun a q1 q2 => F2 a (by omega)), hg.fr (fun a q1 q2 => F1 a (by omega)) (fun a q1 q2 => F2 a (by omega)), by rw [fx]; exact hy, ⟨fun a ha => (F1 a (by omega)).trans (hF.1 a ha), by rw [fx]; exact hF.2⟩, fun a ha => (F2 a (by omega)).trans (hFL a ha)⟩
/-- the past row back into the state -/
theorem Mid.bk {x : Nat} {S : BqH} {n : Nat} {I0 I : BqI} {L0 L : BqL} {P : BqP} {g g' : BqG} {h : Nat → BqG} {ch : Nat} {π : Nat → Nat} {y v : Int32} (hM : Mid x S n I0 I L0 L P g g' h ch π y) : CXS x S n (bq_u (st_cpI I (x + 1) (x + 165 + 53 * π ch)) x 10 v) (st_cpL L (x + 1) (x + 165 + 53 * π ch)) P g h ch ∧ FrO x I0 (bq_u (st_cpI I (x + 1) (x + 165 + 53 * π ch)) x 10 v) ∧ FrOL x L0 (st_cpL L (x + 1) (x + 165 + 53 * π ch)) := by
  obtain ⟨hx, hP, hC, hc, hl, hh, hg, hy, hF, hFL⟩ := hM
  have e : ∀ a, a < x + 1 ∨ x + 54 ≤ a → a ≠ x → bq_u (st_cpI I (x + 1) (x + 165 + 53 * π ch)) x 10 v a = I a := fun a h1 h2 => by rw [bq_u_ne h2, st_cpI_ne (by omega) (by omega)]
  refine ⟨⟨hx, (hg.copy (by omega)).fr (fun a q1 q2 => bq_u_ne (by omega)) (fun _ _ _ => rfl), ?_, hl, π, hP, fun i hi => (hh i hi).fr (fun a q1 q2 => e a (by omega) (by omega)) (fun a q1 q2 => st_cpL_ne (by omega) (by omega))⟩, ⟨fun a ha => ?_, ?_⟩, fun a ha => ?_⟩
  · rw [bq_u_no (by omega), st_cpI_ne (by omega) (by omega)]; exact hc
  · rw [e a (by omega) (by omega)]; exact hF.1 a ha
  · rw [bq_u_no (by omega), st_cpI_ne (by omega) (by omega)]; exact hF.2
  · rw [st_cpL_ne (by omega) (by omega)]; exact hFL a ha
def qRun (x : Nat) (I : BqI) (L : BqL) (S : BqH) (n : Nat) (P : BqP) (w : BqR) : BqQ := fun r S' n' I' L' P' => r = some (.int w.1) ∧ S' = S ∧ n' = n ∧ CXS x S n I' L' P' w.2.1 w.2.2.1 w.2.2.2.1 ∧ I' x 10 = w.2.2.2.2 ∧ I' (x + 108) 0 = nI 0 ∧ I' (x + 108 + 1) = I (x + 108 + 1) ∧ (∀ a, a < x ∨ (x + 55 ≤ a ∧ a < x + 108) ∨ x + 536 ≤ a → I' a = I a) ∧ I' x 4 = I x 4 ∧ FrOL x L L' ∧ (∀ a, a ≠ x + 54 → P' a = P a)
/-- the tape after the reading: emptied, all else of the object kept -/
def TpE (x : Nat) (I J : BqI) : Prop := J (x + 108) 0 = nI 0 ∧ J (x + 108 + 1) = I (x + 108 + 1) ∧ ∀ a, a < x + 108 ∨ x + 131 ≤ a → J a = I a
theorem qRun.mk {x : Nat} {I J J' : BqI} {L L' : BqL} {S : BqH} {n : Nat} {P P' : BqP} {w : BqR} {v : Int32} (hT : TpE x I J) (hv : v = w.1) (hX : CXS x S n J' L' P' w.2.1 w.2.2.1 w.2.2.2.1) (hy : J' x 10 = w.2.2.2.2) (hF : FrO x J J') (hL : FrOL x L L') (hP : ∀ a, a ≠ x + 54 → P' a = P a) : qRun x I L S n P w (some (.int v)) S n J' L' P' := by
  subst hv
  obtain ⟨t0, t1, t2⟩ := hT
  refine ⟨rfl, rfl, rfl, hX, hy, ?_, ?_, fun a ha => (hF.1 a (by omega)).trans (t2 a (by omega)), hF.2.trans (congrFun (t2 x (by omega)) 4), hL, hP⟩
  · rw [hF.1 _ (by omega)]; exact t0
  · rw [hF.1 _ (by omega)]; exact t1
theorem TS.z {I : BqI} {t l : Nat} (h0 : I t 0 = nI l) (hl : l ≤ 60) : TS (rcs_0 I t) t (I (t + 1)) l (0, false) := by
  unfold rcs_0
  refine ⟨?_, ?_, ?_, ?_, Nat.zero_le _, hl⟩
  · rw [bq_u_no (by omega), bq_u_no (by omega), bq_u_no (by omega)]; exact h0
  · rw [bq_u_ne (by omega), bq_u_ne (by omega), bq_u_ne (by omega)]
  · rw [bq_u_no (by omega), bq_u_no (by omega), bq_u_at]
  · rw [bq_u_no (by omega), bq_u_at]; rfl
theorem rcs_R {I : BqI} {t l : Nat} (h0 : I t 0 = nI l) (hl : l ≤ 60) : RcR I t l (pR (I (t + 1)) l 21 0 0 (fun _ => (nI 0, nI 0, nI 0, nI 0))) (rcs t 20 0 (rcs_0 I t)) :=
  rcs_ok 20 0 0 (rcs_0 I t) _ rfl (Nat.le_refl _) (TS.z h0 hl) (by unfold rcs_0; rw [bq_u_at]) (fun j hj => absurd hj (Nat.not_lt_zero j)) (fun a q1 _ => by unfold rcs_0; rw [bq_u_ne q1, bq_u_ne q1, bq_u_ne q1])
set_option maxHeartbeats 1000000 in
set_option maxRecDepth 20000 in
theorem c_noByte {S : BqH} {n : Nat} {I : BqI} {L : BqL} {P : BqP} {v : Int32} : bq_Sp mX11_noByte 2 34 0 0 [.int v] S n I L P (bq_F (some (.int (bq_b (v < nI 0 ∨ ¬ v ≤ nI 127)))) S n I L P) := by
  refine q_entry (vs := [some (.int v)]) (by decide +kernel) (by simp) (Nat.le_of_ble_eq_true rfl) rfl ?_
  refine q_iload_n (pc := 0) dX11_noByte_0 rfl rfl ?_
  refine q_iconst (pc := 1) (v := nI 0) dX11_noByte_1 (by decide) ?_
  refine q_bipush (pc := 2) (v := nI 127) dX11_noByte_2 (by decide) ?_
  refine q_callSF (pc := 4) dX11_noByte_4 kX11_69 c_X11_outside ⟨Nat.le_of_ble_eq_true rfl, Nat.le_of_ble_eq_true rfl⟩ rfl rfl (Nat.le_of_ble_eq_true rfl) ?_
  show bq_W _ _ _ _ _ 7 _ [_] _ _ _ _ _ _
  exact q_zret (st := []) (pc := 7) dX11_noByte_7 rfl bq_bz ⟨rfl, rfl, rfl, rfl, rfl, rfl⟩
set_option maxHeartbeats 1060000 in
set_option maxRecDepth 20000 in
theorem m_feed_a {S : BqH} {n : Nat} {I : BqI} {L : BqL} {P : BqP} {x : Nat} (hx : oX S n P x) {l : Nat} (h0 : I (x + 108) 0 = nI l) (hl : l ≤ 60) {k : Int32} {a b c d e : Int32} (hb : (k < nI 1 ∨ ¬ k ≤ nI 5) ∨ (a < nI 0 ∨ ¬ a ≤ nI 127) ∨ (b < nI 0 ∨ ¬ b ≤ nI 127) ∨ (c < nI 0 ∨ ¬ c ≤ nI 127) ∨ (d < nI 0 ∨ ¬ d ≤ nI 127) ∨ (e < nI 0 ∨ ¬ e ≤ nI 127)) : bq_Sp mX11_feed 3 54 0 0 [.ref x, .int k, .int a, .int b, .int c, .int d, .int e] S n I L P (qFd x I L S n P (p_feed l (I (x + 108 + 1)) k a b c d e)) := by
  refine q_entry (vs := [some (.ref x), some (.int k), some (.int a), some (.int b), some (.int c), some (.int d), some (.int e)]) (by decide +kernel) (by simp) (Nat.le_of_ble_eq_true rfl) rfl ?_
  have f0 : FS (x + 108) I I l (I (x + 108 + 1)) := ⟨h0, fun _ _ => rfl, fun _ _ _ => rfl⟩
  refine q_iload_n (pc := 0) dX11_feed_0 rfl rfl ?_
  refine q_iconst (pc := 1) (v := nI 1) dX11_feed_1 (by decide) ?_
  refine q_iconst (pc := 2) (v := nI 5) dX11_feed_2 (by decide) ?_
  refine q_callSF (pc := 3) dX11_feed_3 kX11_69 c_X11_outside ⟨Nat.le_of_ble_eq_true rfl, Nat.le_of_ble_eq_true rfl⟩ rfl rfl (Nat.le_of_ble_eq_true rfl) ?_
  show bq_W _ _ _ _ _ 6 _ [_] _ _ _ _ _ _
  refine q_if_ne (pc := 6) 47 dX11_feed_6 (by decide) (fun c_6 => ?_) (fun c_6 => ?_)
  · replace c_6 := bq_bn.mp c_6
    refine q_bipush (pc := 47) (v := (-2)) dX11_feed_47 (by decide) ?_
    exact q_iret (st := []) (pc := 49) dX11_feed_49 rfl ⟨by rw [p_feed_bad hb], rfl, rfl, rfl, rfl, by rw [p_feed_bad hb]; exact f0⟩
  · replace c_6 := bq_b0.mp c_6
    refine q_iload_n (pc := 9) dX11_feed_9 rfl rfl ?_
    refine q_callSF (pc := 10) dX11_feed_10 kX11_203 c_noByte ⟨Nat.le_of_ble_eq_true rfl, Nat.le_of_ble_eq_true rfl⟩ rfl rfl (Nat.le_of_ble_eq_true rfl) ?_
    show bq_W _ _ _ _ _ 13 _ [_] _ _ _ _ _ _
    refine q_if_ne (pc := 13) 47 dX11_feed_13 (by decide) (fun c_13 => ?_) (fun c_13 => ?_)
    · replace c_13 := bq_bn.mp c_13
      refine q_bipush (pc := 47) (v := (-2)) dX11_feed_47 (by decide) ?_
      exact q_iret (st := []) (pc := 49) dX11_feed_49 rfl ⟨by rw [p_feed_bad hb], rfl, rfl, rfl, rfl, by rw [p_feed_bad hb]; exact f0⟩
    · replace c_13 := bq_b0.mp c_13
      refine q_iload_n (pc := 16) dX11_feed_16 rfl rfl ?_
      refine q_callSF (pc := 17) dX11_feed_17 kX11_203 c_noByte ⟨Nat.le_of_ble_eq_true rfl, Nat.le_of_ble_eq_true rfl⟩ rfl rfl (Nat.le_of_ble_eq_true rfl) ?_
      show bq_W _ _ _ _ _ 20 _ [_] _ _ _ _ _ _
      refine q_if_ne (pc := 20) 47 dX11_feed_20 (by decide) (fun c_20 => ?_) (fun c_20 => ?_)
      · replace c_20 := bq_bn.mp c_20
        refine q_bipush (pc := 47) (v := (-2)) dX11_feed_47 (by decide) ?_
        exact q_iret (st := []) (pc := 49) dX11_feed_49 rfl ⟨by rw [p_feed_bad hb], rfl, rfl, rfl, rfl, by rw [p_feed_bad hb]; exact f0⟩
      · replace c_20 := bq_b0.mp c_20
        refine q_iload (pc := 23) dX11_feed_23 rfl ?_
        refine q_callSF (pc := 25) dX11_feed_25 kX11_203 c_noByte ⟨Nat.le_of_ble_eq_true rfl, Nat.le_of_ble_eq_true rfl⟩ rfl rfl (Nat.le_of_ble_eq_true rfl) ?_
        show bq_W _ _ _ _ _ 28 _ [_] _ _ _ _ _ _
        refine q_if_ne (pc := 28) 47 dX11_feed_28 (by decide) (fun c_28 => ?_) (fun c_28 => ?_)
        · replace c_28 := bq_bn.mp c_28
          refine q_bipush (pc := 47) (v := (-2)) dX11_feed_47 (by decide) ?_
          exact q_iret (st := []) (pc := 49) dX11_feed_49 rfl ⟨by rw [p_feed_bad hb], rfl, rfl, rfl, rfl, by rw [p_feed_bad hb]; exact f0⟩
        · replace c_28 := bq_b0.mp c_28
          refine q_iload (pc := 31) dX11_feed_31 rfl ?_
          refine q_callSF (pc := 33) dX11_feed_33 kX11_203 c_noByte ⟨Nat.le_of_ble_eq_true rfl, Nat.le_of_ble_eq_true rfl⟩ rfl rfl (Nat.le_of_ble_eq_true rfl) ?_
          show bq_W _ _ _ _ _ 36 _ [_] _ _ _ _ _ _
          refine q_if_ne (pc := 36) 47 dX11_feed_36 (by decide) (fun c_36 => ?_) (fun c_36 => ?_)
          · replace c_36 := bq_bn.mp c_36
            refine q_bipush (pc := 47) (v := (-2)) dX11_feed_47 (by decide) ?_
            exact q_iret (st := []) (pc := 49) dX11_feed_49 rfl ⟨by rw [p_feed_bad hb], rfl, rfl, rfl, rfl, by rw [p_feed_bad hb]; exact f0⟩
          · replace c_36 := bq_b0.mp c_36
            refine q_iload (pc := 39) dX11_feed_39 rfl ?_
            refine q_callSF (pc := 41) dX11_feed_41 kX11_203 c_noByte ⟨Nat.le_of_ble_eq_true rfl, Nat.le_of_ble_eq_true rfl⟩ rfl rfl (Nat.le_of_ble_eq_true rfl) ?_
            show bq_W _ _ _ _ _ 44 _ [_] _ _ _ _ _ _
            refine q_if_eq (pc := 44) 50 dX11_feed_44 (by decide) (fun c_44 => ?_) (fun c_44 => ?_)
            · replace c_44 := bq_b0.mp c_44
              exact absurd hb (fun z => z.elim c_6 (fun z => z.elim c_13 (fun z => z.elim c_20 (fun z => z.elim c_28 (fun z => z.elim c_36 c_44)))))
            · replace c_44 := bq_bn.mp c_44
              refine q_bipush (pc := 47) (v := (-2)) dX11_feed_47 (by decide) ?_
              exact q_iret (st := []) (pc := 49) dX11_feed_49 rfl ⟨by rw [p_feed_bad hb], rfl, rfl, rfl, rfl, by rw [p_feed_bad hb]; exact f0⟩
set_option maxHeartbeats 1000000 in
set_option maxRecDepth 20000 in
theorem m_feed_b {S : BqH} {n : Nat} {I : BqI} {L : BqL} {P : BqP} {x : Nat} (hx : oX S n P x) {l : Nat} (h0 : I (x + 108) 0 = nI l) (hl : l ≤ 60) {k : Nat} (k1 : 1 ≤ k) (k5 : k ≤ 5) {a b c d e : Int32} (ha : ¬ (a < nI 0 ∨ ¬ a ≤ nI 127)) (hb : ¬ (b < nI 0 ∨ ¬ b ≤ nI 127)) (hc : ¬ (c < nI 0 ∨ ¬ c ≤ nI 127)) (hd : ¬ (d < nI 0 ∨ ¬ d ≤ nI 127)) (he : ¬ (e < nI 0 ∨ ¬ e ≤ nI 127)) (hf : 60 < l + k) : bq_Sp mX11_feed 3 54 0 0 [.ref x, .int (nI k), .int a, .int b, .int c, .int d, .int e] S n I L P (qFd x I L S n P (p_feed l (I (x + 108 + 1)) (nI k) a b c d e)) := by
  refine q_entry (vs := [some (.ref x), some (.int (nI k)), some (.int a), some (.int b), some (.int c), some (.int d), some (.int e)]) (by decide +kernel) (by simp) (Nat.le_of_ble_eq_true rfl) rfl ?_
  have f0 : FS (x + 108) I I l (I (x + 108 + 1)) := ⟨h0, fun _ _ => rfl, fun _ _ _ => rfl⟩
  refine q_iload_n (pc := 0) dX11_feed_0 rfl rfl ?_
  refine q_iconst (pc := 1) (v := nI 1) dX11_feed_1 (by decide) ?_
  refine q_iconst (pc := 2) (v := nI 5) dX11_feed_2 (by decide) ?_
  refine q_callSF (pc := 3) dX11_feed_3 kX11_69 c_X11_outside ⟨Nat.le_of_ble_eq_true rfl, Nat.le_of_ble_eq_true rfl⟩ rfl rfl (Nat.le_of_ble_eq_true rfl) ?_
  show bq_W _ _ _ _ _ 6 _ [_] _ _ _ _ _ _
  refine q_if_ne (pc := 6) 47 dX11_feed_6 (by decide) (fun c_6 => (((bq_nin (by omega) (by omega) (by decide)) (bq_bn.mp c_6) : False)).elim) (fun c_6 => ?_)
  refine q_iload_n (pc := 9) dX11_feed_9 rfl rfl ?_
  refine q_callSF (pc := 10) dX11_feed_10 kX11_203 c_noByte ⟨Nat.le_of_ble_eq_true rfl, Nat.le_of_ble_eq_true rfl⟩ rfl rfl (Nat.le_of_ble_eq_true rfl) ?_
  show bq_W _ _ _ _ _ 13 _ [_] _ _ _ _ _ _
  refine q_if_ne (pc := 13) 47 dX11_feed_13 (by decide) (fun c_13 => ((ha (bq_bn.mp c_13))).elim) (fun c_13 => ?_)
  refine q_iload_n (pc := 16) dX11_feed_16 rfl rfl ?_
  refine q_callSF (pc := 17) dX11_feed_17 kX11_203 c_noByte ⟨Nat.le_of_ble_eq_true rfl, Nat.le_of_ble_eq_true rfl⟩ rfl rfl (Nat.le_of_ble_eq_true rfl) ?_
  show bq_W _ _ _ _ _ 20 _ [_] _ _ _ _ _ _
  refine q_if_ne (pc := 20) 47 dX11_feed_20 (by decide) (fun c_20 => ((hb (bq_bn.mp c_20))).elim) (fun c_20 => ?_)
  refine q_iload (pc := 23) dX11_feed_23 rfl ?_
  refine q_callSF (pc := 25) dX11_feed_25 kX11_203 c_noByte ⟨Nat.le_of_ble_eq_true rfl, Nat.le_of_ble_eq_true rfl⟩ rfl rfl (Nat.le_of_ble_eq_true rfl) ?_
  show bq_W _ _ _ _ _ 28 _ [_] _ _ _ _ _ _
  refine q_if_ne (pc := 28) 47 dX11_feed_28 (by decide) (fun c_28 => ((hc (bq_bn.mp c_28))).elim) (fun c_28 => ?_)
  refine q_iload (pc := 31) dX11_feed_31 rfl ?_
  refine q_callSF (pc := 33) dX11_feed_33 kX11_203 c_noByte ⟨Nat.le_of_ble_eq_true rfl, Nat.le_of_ble_eq_true rfl⟩ rfl rfl (Nat.le_of_ble_eq_true rfl) ?_
  show bq_W _ _ _ _ _ 36 _ [_] _ _ _ _ _ _
  refine q_if_ne (pc := 36) 47 dX11_feed_36 (by decide) (fun c_36 => ((hd (bq_bn.mp c_36))).elim) (fun c_36 => ?_)
  refine q_iload (pc := 39) dX11_feed_39 rfl ?_
  refine q_callSF (pc := 41) dX11_feed_41 kX11_203 c_noByte ⟨Nat.le_of_ble_eq_true rfl, Nat.le_of_ble_eq_true rfl⟩ rfl rfl (Nat.le_of_ble_eq_true rfl) ?_
  show bq_W _ _ _ _ _ 44 _ [_] _ _ _ _ _ _
  refine q_if_eq (pc := 44) 50 dX11_feed_44 (by decide) (fun c_44 => ?_) (fun c_44 => ((he (bq_bn.mp c_44))).elim)
  refine q_aload_n (pc := 50) dX11_feed_50 rfl rfl ?_
  refine q_getP (pc := 51) dX11_feed_51 fX11_34 (Cellar_sh hx) ⟨by decide, rfl⟩ (Cellar_lt hx) (Cellar_p_tape hx) ?_
  refine q_getI (pc := 54) dX11_feed_54 fX11_207 (Tape_sh (Cellar_s_tape hx)) ⟨by decide, rfl⟩ (Tape_lt (Cellar_s_tape hx)) ?_
  rw [h0]
  refine q_iload_n (pc := 57) dX11_feed_57 rfl rfl ?_
  refine q_iaddN (pc := 58) dX11_feed_58 ?_
  refine q_bipush (pc := 59) (v := nI 60) dX11_feed_59 (by decide) ?_
  refine q_icmp_le (pc := 61) 67 dX11_feed_61 (by decide) (fun c_61 => absurd c_61 (nI_ge hf (by omega))) (fun c_61 => ?_)
  refine q_bipush (pc := 64) (v := (-4)) dX11_feed_64 (by decide) ?_
  exact q_iret (st := []) (pc := 66) dX11_feed_66 rfl ⟨by rw [p_feed_full k1 k5 ha hb hc hd he hf], rfl, rfl, rfl, rfl, by rw [p_feed_full k1 k5 ha hb hc hd he hf]; exact f0⟩
set_option maxHeartbeats 1200000 in
set_option maxRecDepth 20000 in
theorem m_feed_k1 {S : BqH} {n : Nat} {I : BqI} {L : BqL} {P : BqP} {x : Nat} (hx : oX S n P x) {l : Nat} (h0 : I (x + 108) 0 = nI l) (hl : l ≤ 60) {a b c d e : Int32} (ha : ¬ (a < nI 0 ∨ ¬ a ≤ nI 127)) (hb : ¬ (b < nI 0 ∨ ¬ b ≤ nI 127)) (hc : ¬ (c < nI 0 ∨ ¬ c ≤ nI 127)) (hd : ¬ (d < nI 0 ∨ ¬ d ≤ nI 127)) (he : ¬ (e < nI 0 ∨ ¬ e ≤ nI 127)) (hf : ¬ 60 < l + 1) : bq_Sp mX11_feed 3 54 0 0 [.ref x, .int (nI 1), .int a, .int b, .int c, .int d, .int e] S n I L P (qFd x I L S n P (p_feed l (I (x + 108 + 1)) (nI 1) a b c d e)) := by
  refine q_entry (vs := [some (.ref x), some (.int (nI 1)), some (.int a), some (.int b), some (.int c), some (.int d), some (.int e)]) (by decide +kernel) (by simp) (Nat.le_of_ble_eq_true rfl) rfl ?_
  have f0 : FS (x + 108) I I l (I (x + 108 + 1)) := ⟨h0, fun _ _ => rfl, fun _ _ _ => rfl⟩
  refine q_iload_n (pc := 0) dX11_feed_0 rfl rfl ?_
  refine q_iconst (pc := 1) (v := nI 1) dX11_feed_1 (by decide) ?_
  refine q_iconst (pc := 2) (v := nI 5) dX11_feed_2 (by decide) ?_
  refine q_callSF (pc := 3) dX11_feed_3 kX11_69 c_X11_outside ⟨Nat.le_of_ble_eq_true rfl, Nat.le_of_ble_eq_true rfl⟩ rfl rfl (Nat.le_of_ble_eq_true rfl) ?_
  show bq_W _ _ _ _ _ 6 _ [_] _ _ _ _ _ _
  refine q_if_ne (pc := 6) 47 dX11_feed_6 (by decide) (fun c_6 => (((bq_nin (by omega) (by omega) (by decide)) (bq_bn.mp c_6) : False)).elim) (fun c_6 => ?_)
  refine q_iload_n (pc := 9) dX11_feed_9 rfl rfl ?_
  refine q_callSF (pc := 10) dX11_feed_10 kX11_203 c_noByte ⟨Nat.le_of_ble_eq_true rfl, Nat.le_of_ble_eq_true rfl⟩ rfl rfl (Nat.le_of_ble_eq_true rfl) ?_
  show bq_W _ _ _ _ _ 13 _ [_] _ _ _ _ _ _
  refine q_if_ne (pc := 13) 47 dX11_feed_13 (by decide) (fun c_13 => ((ha (bq_bn.mp c_13))).elim) (fun c_13 => ?_)
  refine q_iload_n (pc := 16) dX11_feed_16 rfl rfl ?_
  refine q_callSF (pc := 17) dX11_feed_17 kX11_203 c_noByte ⟨Nat.le_of_ble_eq_true rfl, Nat.le_of_ble_eq_true rfl⟩ rfl rfl (Nat.le_of_ble_eq_true rfl) ?_
  show bq_W _ _ _ _ _ 20 _ [_] _ _ _ _ _ _
  refine q_if_ne (pc := 20) 47 dX11_feed_20 (by decide) (fun c_20 => ((hb (bq_bn.mp c_20))).elim) (fun c_20 => ?_)
  refine q_iload (pc := 23) dX11_feed_23 rfl ?_
  refine q_callSF (pc := 25) dX11_feed_25 kX11_203 c_noByte ⟨Nat.le_of_ble_eq_true rfl, Nat.le_of_ble_eq_true rfl⟩ rfl rfl (Nat.le_of_ble_eq_true rfl) ?_
  show bq_W _ _ _ _ _ 28 _ [_] _ _ _ _ _ _
  refine q_if_ne (pc := 28) 47 dX11_feed_28 (by decide) (fun c_28 => ((hc (bq_bn.mp c_28))).elim) (fun c_28 => ?_)
  refine q_iload (pc := 31) dX11_feed_31 rfl ?_
  refine q_callSF (pc := 33) dX11_feed_33 kX11_203 c_noByte ⟨Nat.le_of_ble_eq_true rfl, Nat.le_of_ble_eq_true rfl⟩ rfl rfl (Nat.le_of_ble_eq_true rfl) ?_
  show bq_W _ _ _ _ _ 36 _ [_] _ _ _ _ _ _
  refine q_if_ne (pc := 36) 47 dX11_feed_36 (by decide) (fun c_36 => ((hd (bq_bn.mp c_36))).elim) (fun c_36 => ?_)
  refine q_iload (pc := 39) dX11_feed_39 rfl ?_
  refine q_callSF (pc := 41) dX11_feed_41 kX11_203 c_noByte ⟨Nat.le_of_ble_eq_true rfl, Nat.le_of_ble_eq_true rfl⟩ rfl rfl (Nat.le_of_ble_eq_true rfl) ?_
  show bq_W _ _ _ _ _ 44 _ [_] _ _ _ _ _ _
  refine q_if_eq (pc := 44) 50 dX11_feed_44 (by decide) (fun c_44 => ?_) (fun c_44 => ((he (bq_bn.mp c_44))).elim)
  refine q_aload_n (pc := 50) dX11_feed_50 rfl rfl ?_
  refine q_getP (pc := 51) dX11_feed_51 fX11_34 (Cellar_sh hx) ⟨by decide, rfl⟩ (Cellar_lt hx) (Cellar_p_tape hx) ?_
  refine q_getI (pc := 54) dX11_feed_54 fX11_207 (Tape_sh (Cellar_s_tape hx)) ⟨by decide, rfl⟩ (Tape_lt (Cellar_s_tape hx)) ?_
  rw [h0]
  refine q_iload_n (pc := 57) dX11_feed_57 rfl rfl ?_
  refine q_iaddN (pc := 58) dX11_feed_58 ?_
  refine q_bipush (pc := 59) (v := nI 60) dX11_feed_59 (by decide) ?_
  refine q_icmp_le (pc := 61) 67 dX11_feed_61 (by decide) (fun c_61 => ?_) (fun c_61 => absurd (nI_le (show l + 1 ≤ 60 by omega) (by decide)) c_61)
  refine q_aload_n (pc := 67) dX11_feed_67 rfl rfl ?_
  refine q_getP (pc := 68) dX11_feed_68 fX11_34 (Cellar_sh hx) ⟨by decide, rfl⟩ (Cellar_lt hx) (Cellar_p_tape hx) ?_
  refine q_iload_n (pc := 71) dX11_feed_71 rfl rfl ?_
  refine q_callVF (pc := 72) dX11_feed_72 kX11_208 (c_X10_append (Cellar_s_tape hx) (q := l) f0.1 (by omega)) (Tape_sh (Cellar_s_tape hx)) rfl (Tape_lt (Cellar_s_tape hx)) ⟨Nat.le_of_ble_eq_true rfl, Nat.le_of_ble_eq_true rfl⟩ rfl rfl (Nat.le_of_ble_eq_true rfl) ?_
  show bq_W _ _ _ _ _ 75 _ [] _ _ _ _ _ _
  refine q_nameI (fun J1 e1 => ?_)
  have f1 := (FS.ap (v := a) f0)
  rw [← e1] at f1
  refine q_iload_n (pc := 75) dX11_feed_75 rfl rfl ?_
  refine q_iconst (pc := 76) (v := nI 1) dX11_feed_76 (by decide) ?_
  refine q_icmp_le (pc := 77) 88 dX11_feed_77 (by decide) (fun c_77 => ?_) (fun c_77 => absurd (by decide) c_77)
  refine q_iload_n (pc := 88) dX11_feed_88 rfl rfl ?_
  refine q_iconst (pc := 89) (v := nI 2) dX11_feed_89 (by decide) ?_
  refine q_icmp_le (pc := 90) 102 dX11_feed_90 (by decide) (fun c_90 => ?_) (fun c_90 => absurd (by decide) c_90)
  refine q_iload_n (pc := 102) dX11_feed_102 rfl rfl ?_
  refine q_iconst (pc := 103) (v := nI 3) dX11_feed_103 (by decide) ?_
  refine q_icmp_le (pc := 104) 116 dX11_feed_104 (by decide) (fun c_104 => ?_) (fun c_104 => absurd (by decide) c_104)
  refine q_iload_n (pc := 116) dX11_feed_116 rfl rfl ?_
  refine q_iconst (pc := 117) (v := nI 4) dX11_feed_117 (by decide) ?_
  refine q_icmp_le (pc := 118) 130 dX11_feed_118 (by decide) (fun c_118 => ?_) (fun c_118 => absurd (by decide) c_118)
  refine q_aload_n (pc := 130) dX11_feed_130 rfl rfl ?_
  refine q_getP (pc := 131) dX11_feed_131 fX11_34 (Cellar_sh hx) ⟨by decide, rfl⟩ (Cellar_lt hx) (Cellar_p_tape hx) ?_
  refine q_getI (pc := 134) dX11_feed_134 fX11_207 (Tape_sh (Cellar_s_tape hx)) ⟨by decide, rfl⟩ (Tape_lt (Cellar_s_tape hx)) ?_
  exact q_iret (st := []) (pc := 137) dX11_feed_137 rfl ⟨by rw [p_feed_ok (by decide) (by decide) ha hb hc hd he hf, f1.1], rfl, rfl, rfl, rfl, by rw [p_feed_ok (by decide) (by decide) ha hb hc hd he hf]; exact ⟨f1.1, fun j hj => (f1.2.1 j hj).trans (fb_1), f1.2.2⟩⟩
set_option maxHeartbeats 1360000 in
set_option maxRecDepth 20000 in
theorem m_feed_k2 {S : BqH} {n : Nat} {I : BqI} {L : BqL} {P : BqP} {x : Nat} (hx : oX S n P x) {l : Nat} (h0 : I (x + 108) 0 = nI l) (hl : l ≤ 60) {a b c d e : Int32} (ha : ¬ (a < nI 0 ∨ ¬ a ≤ nI 127)) (hb : ¬ (b < nI 0 ∨ ¬ b ≤ nI 127)) (hc : ¬ (c < nI 0 ∨ ¬ c ≤ nI 127)) (hd : ¬ (d < nI 0 ∨ ¬ d ≤ nI 127)) (he : ¬ (e < nI 0 ∨ ¬ e ≤ nI 127)) (hf : ¬ 60 < l + 2) : bq_Sp mX11_feed 3 54 0 0 [.ref x, .int (nI 2), .int a, .int b, .int c, .int d, .int e] S n I L P (qFd x I L S n P (p_feed l (I (x + 108 + 1)) (nI 2) a b c d e)) := by
  refine q_entry (vs := [some (.ref x), some (.int (nI 2)), some (.int a), some (.int b), some (.int c), some (.int d), some (.int e)]) (by decide +kernel) (by simp) (Nat.le_of_ble_eq_true rfl) rfl ?_
  have f0 : FS (x + 108) I I l (I (x + 108 + 1)) := ⟨h0, fun _ _ => rfl, fun _ _ _ => rfl⟩
  refine q_iload_n (pc := 0) dX11_feed_0 rfl rfl ?_
  refine q_iconst (pc := 1) (v := nI 1) dX11_feed_1 (by decide) ?_
  refine q_iconst (pc := 2) (v := nI 5) dX11_feed_2 (by decide) ?_
  refine q_callSF (pc := 3) dX11_feed_3 kX11_69 c_X11_outside ⟨Nat.le_of_ble_eq_true rfl, Nat.le_of_ble_eq_true rfl⟩ rfl rfl (Nat.le_of_ble_eq_true rfl) ?_
  show bq_W _ _ _ _ _ 6 _ [_] _ _ _ _ _ _
  refine q_if_ne (pc := 6) 47 dX11_feed_6 (by decide) (fun c_6 => (((bq_nin (by omega) (by omega) (by decide)) (bq_bn.mp c_6) : False)).elim) (fun c_6 => ?_)
  refine q_iload_n (pc := 9) dX11_feed_9 rfl rfl ?_
  refine q_callSF (pc := 10) dX11_feed_10 kX11_203 c_noByte ⟨Nat.le_of_ble_eq_true rfl, Nat.le_of_ble_eq_true rfl⟩ rfl rfl (Nat.le_of_ble_eq_true rfl) ?_
  show bq_W _ _ _ _ _ 13 _ [_] _ _ _ _ _ _
  refine q_if_ne (pc := 13) 47 dX11_feed_13 (by decide) (fun c_13 => ((ha (bq_bn.mp c_13))).elim) (fun c_13 => ?_)
  refine q_iload_n (pc := 16) dX11_feed_16 rfl rfl ?_
  refine q_callSF (pc := 17) dX11_feed_17 kX11_203 c_noByte ⟨Nat.le_of_ble_eq_true rfl, Nat.le_of_ble_eq_true rfl⟩ rfl rfl (Nat.le_of_ble_eq_true rfl) ?_
  show bq_W _ _ _ _ _ 20 _ [_] _ _ _ _ _ _
  refine q_if_ne (pc := 20) 47 dX11_feed_20 (by decide) (fun c_20 => ((hb (bq_bn.mp c_20))).elim) (fun c_20 => ?_)
  refine q_iload (pc := 23) dX11_feed_23 rfl ?_
  refine q_callSF (pc := 25) dX11_feed_25 kX11_203 c_noByte ⟨Nat.le_of_ble_eq_true rfl, Nat.le_of_ble_eq_true rfl⟩ rfl rfl (Nat.le_of_ble_eq_true rfl) ?_
  show bq_W _ _ _ _ _ 28 _ [_] _ _ _ _ _ _
  refine q_if_ne (pc := 28) 47 dX11_feed_28 (by decide) (fun c_28 => ((hc (bq_bn.mp c_28))).elim) (fun c_28 => ?_)
  refine q_iload (pc := 31) dX11_feed_31 rfl ?_
  refine q_callSF (pc := 33) dX11_feed_33 kX11_203 c_noByte ⟨Nat.le_of_ble_eq_true rfl, Nat.le_of_ble_eq_true rfl⟩ rfl rfl (Nat.le_of_ble_eq_true rfl) ?_
  show bq_W _ _ _ _ _ 36 _ [_] _ _ _ _ _ _
  refine q_if_ne (pc := 36) 47 dX11_feed_36 (by decide) (fun c_36 => ((hd (bq_bn.mp c_36))).elim) (fun c_36 => ?_)
  refine q_iload (pc := 39) dX11_feed_39 rfl ?_
  refine q_callSF (pc := 41) dX11_feed_41 kX11_203 c_noByte ⟨Nat.le_of_ble_eq_true rfl, Nat.le_of_ble_eq_true rfl⟩ rfl rfl (Nat.le_of_ble_eq_true rfl) ?_
  show bq_W _ _ _ _ _ 44 _ [_] _ _ _ _ _ _
  refine q_if_eq (pc := 44) 50 dX11_feed_44 (by decide) (fun c_44 => ?_) (fun c_44 => ((he (bq_bn.mp c_44))).elim)
  refine q_aload_n (pc := 50) dX11_feed_50 rfl rfl ?_
  refine q_getP (pc := 51) dX11_feed_51 fX11_34 (Cellar_sh hx) ⟨by decide, rfl⟩ (Cellar_lt hx) (Cellar_p_tape hx) ?_
  refine q_getI (pc := 54) dX11_feed_54 fX11_207 (Tape_sh (Cellar_s_tape hx)) ⟨by decide, rfl⟩ (Tape_lt (Cellar_s_tape hx)) ?_
  rw [h0]
  refine q_iload_n (pc := 57) dX11_feed_57 rfl rfl ?_
  refine q_iaddN (pc := 58) dX11_feed_58 ?_
  refine q_bipush (pc := 59) (v := nI 60) dX11_feed_59 (by decide) ?_
  refine q_icmp_le (pc := 61) 67 dX11_feed_61 (by decide) (fun c_61 => ?_) (fun c_61 => absurd (nI_le (show l + 2 ≤ 60 by omega) (by decide)) c_61)
  refine q_aload_n (pc := 67) dX11_feed_67 rfl rfl ?_
  refine q_getP (pc := 68) dX11_feed_68 fX11_34 (Cellar_sh hx) ⟨by decide, rfl⟩ (Cellar_lt hx) (Cellar_p_tape hx) ?_
  refine q_iload_n (pc := 71) dX11_feed_71 rfl rfl ?_
  refine q_callVF (pc := 72) dX11_feed_72 kX11_208 (c_X10_append (Cellar_s_tape hx) (q := l) f0.1 (by omega)) (Tape_sh (Cellar_s_tape hx)) rfl (Tape_lt (Cellar_s_tape hx)) ⟨Nat.le_of_ble_eq_true rfl, Nat.le_of_ble_eq_true rfl⟩ rfl rfl (Nat.le_of_ble_eq_true rfl) ?_
  show bq_W _ _ _ _ _ 75 _ [] _ _ _ _ _ _
  refine q_nameI (fun J1 e1 => ?_)
  have f1 := (FS.ap (v := a) f0)
  rw [← e1] at f1
  refine q_iload_n (pc := 75) dX11_feed_75 rfl rfl ?_
  refine q_iconst (pc := 76) (v := nI 1) dX11_feed_76 (by decide) ?_
  refine q_icmp_le (pc := 77) 88 dX11_feed_77 (by decide) (fun c_77 => absurd c_77 (by decide)) (fun c_77 => ?_)
  refine q_aload_n (pc := 80) dX11_feed_80 rfl rfl ?_
  refine q_getP (pc := 81) dX11_feed_81 fX11_34 (Cellar_sh hx) ⟨by decide, rfl⟩ (Cellar_lt hx) (Cellar_p_tape hx) ?_
  refine q_iload_n (pc := 84) dX11_feed_84 rfl rfl ?_
  refine q_callVF (pc := 85) dX11_feed_85 kX11_208 (c_X10_append (Cellar_s_tape hx) (q := (l + 1)) f1.1 (by omega)) (Tape_sh (Cellar_s_tape hx)) rfl (Tape_lt (Cellar_s_tape hx)) ⟨Nat.le_of_ble_eq_true rfl, Nat.le_of_ble_eq_true rfl⟩ rfl rfl (Nat.le_of_ble_eq_true rfl) ?_
  show bq_W _ _ _ _ _ 88 _ [] _ _ _ _ _ _
  refine q_nameI (fun J2 e2 => ?_)
  have f2 := (FS.ap (v := b) f1)
  rw [← e2] at f2
  refine q_iload_n (pc := 88) dX11_feed_88 rfl rfl ?_
  refine q_iconst (pc := 89) (v := nI 2) dX11_feed_89 (by decide) ?_
  refine q_icmp_le (pc := 90) 102 dX11_feed_90 (by decide) (fun c_90 => ?_) (fun c_90 => absurd (by decide) c_90)
  refine q_iload_n (pc := 102) dX11_feed_102 rfl rfl ?_
  refine q_iconst (pc := 103) (v := nI 3) dX11_feed_103 (by decide) ?_
  refine q_icmp_le (pc := 104) 116 dX11_feed_104 (by decide) (fun c_104 => ?_) (fun c_104 => absurd (by decide) c_104)
  refine q_iload_n (pc := 116) dX11_feed_116 rfl rfl ?_
  refine q_iconst (pc := 117) (v := nI 4) dX11_feed_117 (by decide) ?_
  refine q_icmp_le (pc := 118) 130 dX11_feed_118 (by decide) (fun c_118 => ?_) (fun c_118 => absurd (by decide) c_118)
  refine q_aload_n (pc := 130) dX11_feed_130 rfl rfl ?_
  refine q_getP (pc := 131) dX11_feed_131 fX11_34 (Cellar_sh hx) ⟨by decide, rfl⟩ (Cellar_lt hx) (Cellar_p_tape hx) ?_
  refine q_getI (pc := 134) dX11_feed_134 fX11_207 (Tape_sh (Cellar_s_tape hx)) ⟨by decide, rfl⟩ (Tape_lt (Cellar_s_tape hx)) ?_
  exact q_iret (st := []) (pc := 137) dX11_feed_137 rfl ⟨by rw [p_feed_ok (by decide) (by decide) ha hb hc hd he hf, f2.1], rfl, rfl, rfl, rfl, by rw [p_feed_ok (by decide) (by decide) ha hb hc hd he hf]; exact ⟨f2.1, fun j hj => (f2.2.1 j hj).trans (fb_s (k := 1) (fb_1)), f2.2.2⟩⟩
set_option maxHeartbeats 1520000 in
set_option maxRecDepth 20000 in
theorem m_feed_k3 {S : BqH} {n : Nat} {I : BqI} {L : BqL} {P : BqP} {x : Nat} (hx : oX S n P x) {l : Nat} (h0 : I (x + 108) 0 = nI l) (hl : l ≤ 60) {a b c d e : Int32} (ha : ¬ (a < nI 0 ∨ ¬ a ≤ nI 127)) (hb : ¬ (b < nI 0 ∨ ¬ b ≤ nI 127)) (hc : ¬ (c < nI 0 ∨ ¬ c ≤ nI 127)) (hd : ¬ (d < nI 0 ∨ ¬ d ≤ nI 127)) (he : ¬ (e < nI 0 ∨ ¬ e ≤ nI 127)) (hf : ¬ 60 < l + 3) : bq_Sp mX11_feed 3 54 0 0 [.ref x, .int (nI 3), .int a, .int b, .int c, .int d, .int e] S n I L P (qFd x I L S n P (p_feed l (I (x + 108 + 1)) (nI 3) a b c d e)) := by
  refine q_entry (vs := [some (.ref x), some (.int (nI 3)), some (.int a), some (.int b), some (.int c), some (.int d), some (.int e)]) (by decide +kernel) (by simp) (Nat.le_of_ble_eq_true rfl) rfl ?_
  have f0 : FS (x + 108) I I l (I (x + 108 + 1)) := ⟨h0, fun _ _ => rfl, fun _ _ _ => rfl⟩
  refine q_iload_n (pc := 0) dX11_feed_0 rfl rfl ?_
  refine q_iconst (pc := 1) (v := nI 1) dX11_feed_1 (by decide) ?_
  refine q_iconst (pc := 2) (v := nI 5) dX11_feed_2 (by decide) ?_
  refine q_callSF (pc := 3) dX11_feed_3 kX11_69 c_X11_outside ⟨Nat.le_of_ble_eq_true rfl, Nat.le_of_ble_eq_true rfl⟩ rfl rfl (Nat.le_of_ble_eq_true rfl) ?_
  show bq_W _ _ _ _ _ 6 _ [_] _ _ _ _ _ _
  refine q_if_ne (pc := 6) 47 dX11_feed_6 (by decide) (fun c_6 => (((bq_nin (by omega) (by omega) (by decide)) (bq_bn.mp c_6) : False)).elim) (fun c_6 => ?_)
  refine q_iload_n (pc := 9) dX11_feed_9 rfl rfl ?_
  refine q_callSF (pc := 10) dX11_feed_10 kX11_203 c_noByte ⟨Nat.le_of_ble_eq_true rfl, Nat.le_of_ble_eq_true rfl⟩ rfl rfl (Nat.le_of_ble_eq_true rfl) ?_
  show bq_W _ _ _ _ _ 13 _ [_] _ _ _ _ _ _
  refine q_if_ne (pc := 13) 47 dX11_feed_13 (by decide) (fun c_13 => ((ha (bq_bn.mp c_13))).elim) (fun c_13 => ?_)
  refine q_iload_n (pc := 16) dX11_feed_16 rfl rfl ?_
  refine q_callSF (pc := 17) dX11_feed_17 kX11_203 c_noByte ⟨Nat.le_of_ble_eq_true rfl, Nat.le_of_ble_eq_true rfl⟩ rfl rfl (Nat.le_of_ble_eq_true rfl) ?_
  show bq_W _ _ _ _ _ 20 _ [_] _ _ _ _ _ _
  refine q_if_ne (pc := 20) 47 dX11_feed_20 (by decide) (fun c_20 => ((hb (bq_bn.mp c_20))).elim) (fun c_20 => ?_)
  refine q_iload (pc := 23) dX11_feed_23 rfl ?_
  refine q_callSF (pc := 25) dX11_feed_25 kX11_203 c_noByte ⟨Nat.le_of_ble_eq_true rfl, Nat.le_of_ble_eq_true rfl⟩ rfl rfl (Nat.le_of_ble_eq_true rfl) ?_
  show bq_W _ _ _ _ _ 28 _ [_] _ _ _ _ _ _
  refine q_if_ne (pc := 28) 47 dX11_feed_28 (by decide) (fun c_28 => ((hc (bq_bn.mp c_28))).elim) (fun c_28 => ?_)
  refine q_iload (pc := 31) dX11_feed_31 rfl ?_
  refine q_callSF (pc := 33) dX11_feed_33 kX11_203 c_noByte ⟨Nat.le_of_ble_eq_true rfl, Nat.le_of_ble_eq_true rfl⟩ rfl rfl (Nat.le_of_ble_eq_true rfl) ?_
  show bq_W _ _ _ _ _ 36 _ [_] _ _ _ _ _ _
  refine q_if_ne (pc := 36) 47 dX11_feed_36 (by decide) (fun c_36 => ((hd (bq_bn.mp c_36))).elim) (fun c_36 => ?_)
  refine q_iload (pc := 39) dX11_feed_39 rfl ?_
  refine q_callSF (pc := 41) dX11_feed_41 kX11_203 c_noByte ⟨Nat.le_of_ble_eq_true rfl, Nat.le_of_ble_eq_true rfl⟩ rfl rfl (Nat.le_of_ble_eq_true rfl) ?_
  show bq_W _ _ _ _ _ 44 _ [_] _ _ _ _ _ _
  refine q_if_eq (pc := 44) 50 dX11_feed_44 (by decide) (fun c_44 => ?_) (fun c_44 => ((he (bq_bn.mp c_44))).elim)
  refine q_aload_n (pc := 50) dX11_feed_50 rfl rfl ?_
  refine q_getP (pc := 51) dX11_feed_51 fX11_34 (Cellar_sh hx) ⟨by decide, rfl⟩ (Cellar_lt hx) (Cellar_p_tape hx) ?_
  refine q_getI (pc := 54) dX11_feed_54 fX11_207 (Tape_sh (Cellar_s_tape hx)) ⟨by decide, rfl⟩ (Tape_lt (Cellar_s_tape hx)) ?_
  rw [h0]
  refine q_iload_n (pc := 57) dX11_feed_57 rfl rfl ?_
  refine q_iaddN (pc := 58) dX11_feed_58 ?_
  refine q_bipush (pc := 59) (v := nI 60) dX11_feed_59 (by decide) ?_
  refine q_icmp_le (pc := 61) 67 dX11_feed_61 (by decide) (fun c_61 => ?_) (fun c_61 => absurd (nI_le (show l + 3 ≤ 60 by omega) (by decide)) c_61)
  refine q_aload_n (pc := 67) dX11_feed_67 rfl rfl ?_
  refine q_getP (pc := 68) dX11_feed_68 fX11_34 (Cellar_sh hx) ⟨by decide, rfl⟩ (Cellar_lt hx) (Cellar_p_tape hx) ?_
  refine q_iload_n (pc := 71) dX11_feed_71 rfl rfl ?_
  refine q_callVF (pc := 72) dX11_feed_72 kX11_208 (c_X10_append (Cellar_s_tape hx) (q := l) f0.1 (by omega)) (Tape_sh (Cellar_s_tape hx)) rfl (Tape_lt (Cellar_s_tape hx)) ⟨Nat.le_of_ble_eq_true rfl, Nat.le_of_ble_eq_true rfl⟩ rfl rfl (Nat.le_of_ble_eq_true rfl) ?_
  show bq_W _ _ _ _ _ 75 _ [] _ _ _ _ _ _
  refine q_nameI (fun J1 e1 => ?_)
  have f1 := (FS.ap (v := a) f0)
  rw [← e1] at f1
  refine q_iload_n (pc := 75) dX11_feed_75 rfl rfl ?_
  refine q_iconst (pc := 76) (v := nI 1) dX11_feed_76 (by decide) ?_
  refine q_icmp_le (pc := 77) 88 dX11_feed_77 (by decide) (fun c_77 => absurd c_77 (by decide)) (fun c_77 => ?_)
  refine q_aload_n (pc := 80) dX11_feed_80 rfl rfl ?_
  refine q_getP (pc := 81) dX11_feed_81 fX11_34 (Cellar_sh hx) ⟨by decide, rfl⟩ (Cellar_lt hx) (Cellar_p_tape hx) ?_
  refine q_iload_n (pc := 84) dX11_feed_84 rfl rfl ?_
  refine q_callVF (pc := 85) dX11_feed_85 kX11_208 (c_X10_append (Cellar_s_tape hx) (q := (l + 1)) f1.1 (by omega)) (Tape_sh (Cellar_s_tape hx)) rfl (Tape_lt (Cellar_s_tape hx)) ⟨Nat.le_of_ble_eq_true rfl, Nat.le_of_ble_eq_true rfl⟩ rfl rfl (Nat.le_of_ble_eq_true rfl) ?_
  show bq_W _ _ _ _ _ 88 _ [] _ _ _ _ _ _
  refine q_nameI (fun J2 e2 => ?_)
  have f2 := (FS.ap (v := b) f1)
  rw [← e2] at f2
  refine q_iload_n (pc := 88) dX11_feed_88 rfl rfl ?_
  refine q_iconst (pc := 89) (v := nI 2) dX11_feed_89 (by decide) ?_
  refine q_icmp_le (pc := 90) 102 dX11_feed_90 (by decide) (fun c_90 => absurd c_90 (by decide)) (fun c_90 => ?_)
  refine q_aload_n (pc := 93) dX11_feed_93 rfl rfl ?_
  refine q_getP (pc := 94) dX11_feed_94 fX11_34 (Cellar_sh hx) ⟨by decide, rfl⟩ (Cellar_lt hx) (Cellar_p_tape hx) ?_
  refine q_iload (pc := 97) dX11_feed_97 rfl ?_
  refine q_callVF (pc := 99) dX11_feed_99 kX11_208 (c_X10_append (Cellar_s_tape hx) (q := (l + 2)) f2.1 (by omega)) (Tape_sh (Cellar_s_tape hx)) rfl (Tape_lt (Cellar_s_tape hx)) ⟨Nat.le_of_ble_eq_true rfl, Nat.le_of_ble_eq_true rfl⟩ rfl rfl (Nat.le_of_ble_eq_true rfl) ?_
  show bq_W _ _ _ _ _ 102 _ [] _ _ _ _ _ _
  refine q_nameI (fun J3 e3 => ?_)
  have f3 := (FS.ap (v := c) f2)
  rw [← e3] at f3
  refine q_iload_n (pc := 102) dX11_feed_102 rfl rfl ?_
  refine q_iconst (pc := 103) (v := nI 3) dX11_feed_103 (by decide) ?_
  refine q_icmp_le (pc := 104) 116 dX11_feed_104 (by decide) (fun c_104 => ?_) (fun c_104 => absurd (by decide) c_104)
  refine q_iload_n (pc := 116) dX11_feed_116 rfl rfl ?_
  refine q_iconst (pc := 117) (v := nI 4) dX11_feed_117 (by decide) ?_
  refine q_icmp_le (pc := 118) 130 dX11_feed_118 (by decide) (fun c_118 => ?_) (fun c_118 => absurd (by decide) c_118)
  refine q_aload_n (pc := 130) dX11_feed_130 rfl rfl ?_
  refine q_getP (pc := 131) dX11_feed_131 fX11_34 (Cellar_sh hx) ⟨by decide, rfl⟩ (Cellar_lt hx) (Cellar_p_tape hx) ?_
  refine q_getI (pc := 134) dX11_feed_134 fX11_207 (Tape_sh (Cellar_s_tape hx)) ⟨by decide, rfl⟩ (Tape_lt (Cellar_s_tape hx)) ?_
  exact q_iret (st := []) (pc := 137) dX11_feed_137 rfl ⟨by rw [p_feed_ok (by decide) (by decide) ha hb hc hd he hf, f3.1], rfl, rfl, rfl, rfl, by rw [p_feed_ok (by decide) (by decide) ha hb hc hd he hf]; exact ⟨f3.1, fun j hj => (f3.2.1 j hj).trans (fb_s (k := 2) (fb_s (k := 1) (fb_1))), f3.2.2⟩⟩
set_option maxHeartbeats 1680000 in
set_option maxRecDepth 20000 in
theorem m_feed_k4 {S : BqH} {n : Nat} {I : BqI} {L : BqL} {P : BqP} {x : Nat} (hx : oX S n P x) {l : Nat} (h0 : I (x + 108) 0 = nI l) (hl : l ≤ 60) {a b c d e : Int32} (ha : ¬ (a < nI 0 ∨ ¬ a ≤ nI 127)) (hb : ¬ (b < nI 0 ∨ ¬ b ≤ nI 127)) (hc : ¬ (c < nI 0 ∨ ¬ c ≤ nI 127)) (hd : ¬ (d < nI 0 ∨ ¬ d ≤ nI 127)) (he : ¬ (e < nI 0 ∨ ¬ e ≤ nI 127)) (hf : ¬ 60 < l + 4) : bq_Sp mX11_feed 3 54 0 0 [.ref x, .int (nI 4), .int a, .int b, .int c, .int d, .int e] S n I L P (qFd x I L S n P (p_feed l (I (x + 108 + 1)) (nI 4) a b c d e)) := by
  refine q_entry (vs := [some (.ref x), some (.int (nI 4)), some (.int a), some (.int b), some (.int c), some (.int d), some (.int e)]) (by decide +kernel) (by simp) (Nat.le_of_ble_eq_true rfl) rfl ?_
  have f0 : FS (x + 108) I I l (I (x + 108 + 1)) := ⟨h0, fun _ _ => rfl, fun _ _ _ => rfl⟩
  refine q_iload_n (pc := 0) dX11_feed_0 rfl rfl ?_
  refine q_iconst (pc := 1) (v := nI 1) dX11_feed_1 (by decide) ?_
  refine q_iconst (pc := 2) (v := nI 5) dX11_feed_2 (by decide) ?_
  refine q_callSF (pc := 3) dX11_feed_3 kX11_69 c_X11_outside ⟨Nat.le_of_ble_eq_true rfl, Nat.le_of_ble_eq_true rfl⟩ rfl rfl (Nat.le_of_ble_eq_true rfl) ?_
  show bq_W _ _ _ _ _ 6 _ [_] _ _ _ _ _ _
  refine q_if_ne (pc := 6) 47 dX11_feed_6 (by decide) (fun c_6 => (((bq_nin (by omega) (by omega) (by decide)) (bq_bn.mp c_6) : False)).elim) (fun c_6 => ?_)
  refine q_iload_n (pc := 9) dX11_feed_9 rfl rfl ?_
  refine q_callSF (pc := 10) dX11_feed_10 kX11_203 c_noByte ⟨Nat.le_of_ble_eq_true rfl, Nat.le_of_ble_eq_true rfl⟩ rfl rfl (Nat.le_of_ble_eq_true rfl) ?_
  show bq_W _ _ _ _ _ 13 _ [_] _ _ _ _ _ _
  refine q_if_ne (pc := 13) 47 dX11_feed_13 (by decide) (fun c_13 => ((ha (bq_bn.mp c_13))).elim) (fun c_13 => ?_)
  refine q_iload_n (pc := 16) dX11_feed_16 rfl rfl ?_
  refine q_callSF (pc := 17) dX11_feed_17 kX11_203 c_noByte ⟨Nat.le_of_ble_eq_true rfl, Nat.le_of_ble_eq_true rfl⟩ rfl rfl (Nat.le_of_ble_eq_true rfl) ?_
  show bq_W _ _ _ _ _ 20 _ [_] _ _ _ _ _ _
  refine q_if_ne (pc := 20) 47 dX11_feed_20 (by decide) (fun c_20 => ((hb (bq_bn.mp c_20))).elim) (fun c_20 => ?_)
  refine q_iload (pc := 23) dX11_feed_23 rfl ?_
  refine q_callSF (pc := 25) dX11_feed_25 kX11_203 c_noByte ⟨Nat.le_of_ble_eq_true rfl, Nat.le_of_ble_eq_true rfl⟩ rfl rfl (Nat.le_of_ble_eq_true rfl) ?_
  show bq_W _ _ _ _ _ 28 _ [_] _ _ _ _ _ _
  refine q_if_ne (pc := 28) 47 dX11_feed_28 (by decide) (fun c_28 => ((hc (bq_bn.mp c_28))).elim) (fun c_28 => ?_)
  refine q_iload (pc := 31) dX11_feed_31 rfl ?_
  refine q_callSF (pc := 33) dX11_feed_33 kX11_203 c_noByte ⟨Nat.le_of_ble_eq_true rfl, Nat.le_of_ble_eq_true rfl⟩ rfl rfl (Nat.le_of_ble_eq_true rfl) ?_
  show bq_W _ _ _ _ _ 36 _ [_] _ _ _ _ _ _
  refine q_if_ne (pc := 36) 47 dX11_feed_36 (by decide) (fun c_36 => ((hd (bq_bn.mp c_36))).elim) (fun c_36 => ?_)
  refine q_iload (pc := 39) dX11_feed_39 rfl ?_
  refine q_callSF (pc := 41) dX11_feed_41 kX11_203 c_noByte ⟨Nat.le_of_ble_eq_true rfl, Nat.le_of_ble_eq_true rfl⟩ rfl rfl (Nat.le_of_ble_eq_true rfl) ?_
  show bq_W _ _ _ _ _ 44 _ [_] _ _ _ _ _ _
  refine q_if_eq (pc := 44) 50 dX11_feed_44 (by decide) (fun c_44 => ?_) (fun c_44 => ((he (bq_bn.mp c_44))).elim)
  refine q_aload_n (pc := 50) dX11_feed_50 rfl rfl ?_
  refine q_getP (pc := 51) dX11_feed_51 fX11_34 (Cellar_sh hx) ⟨by decide, rfl⟩ (Cellar_lt hx) (Cellar_p_tape hx) ?_
  refine q_getI (pc := 54) dX11_feed_54 fX11_207 (Tape_sh (Cellar_s_tape hx)) ⟨by decide, rfl⟩ (Tape_lt (Cellar_s_tape hx)) ?_
  rw [h0]
  refine q_iload_n (pc := 57) dX11_feed_57 rfl rfl ?_
  refine q_iaddN (pc := 58) dX11_feed_58 ?_
  refine q_bipush (pc := 59) (v := nI 60) dX11_feed_59 (by decide) ?_
  refine q_icmp_le (pc := 61) 67 dX11_feed_61 (by decide) (fun c_61 => ?_) (fun c_61 => absurd (nI_le (show l + 4 ≤ 60 by omega) (by decide)) c_61)
  refine q_aload_n (pc := 67) dX11_feed_67 rfl rfl ?_
  refine q_getP (pc := 68) dX11_feed_68 fX11_34 (Cellar_sh hx) ⟨by decide, rfl⟩ (Cellar_lt hx) (Cellar_p_tape hx) ?_
  refine q_iload_n (pc := 71) dX11_feed_71 rfl rfl ?_
  refine q_callVF (pc := 72) dX11_feed_72 kX11_208 (c_X10_append (Cellar_s_tape hx) (q := l) f0.1 (by omega)) (Tape_sh (Cellar_s_tape hx)) rfl (Tape_lt (Cellar_s_tape hx)) ⟨Nat.le_of_ble_eq_true rfl, Nat.le_of_ble_eq_true rfl⟩ rfl rfl (Nat.le_of_ble_eq_true rfl) ?_
  show bq_W _ _ _ _ _ 75 _ [] _ _ _ _ _ _
  refine q_nameI (fun J1 e1 => ?_)
  have f1 := (FS.ap (v := a) f0)
  rw [← e1] at f1
  refine q_iload_n (pc := 75) dX11_feed_75 rfl rfl ?_
  refine q_iconst (pc := 76) (v := nI 1) dX11_feed_76 (by decide) ?_
  refine q_icmp_le (pc := 77) 88 dX11_feed_77 (by decide) (fun c_77 => absurd c_77 (by decide)) (fun c_77 => ?_)
  refine q_aload_n (pc := 80) dX11_feed_80 rfl rfl ?_
  refine q_getP (pc := 81) dX11_feed_81 fX11_34 (Cellar_sh hx) ⟨by decide, rfl⟩ (Cellar_lt hx) (Cellar_p_tape hx) ?_
  refine q_iload_n (pc := 84) dX11_feed_84 rfl rfl ?_
  refine q_callVF (pc := 85) dX11_feed_85 kX11_208 (c_X10_append (Cellar_s_tape hx) (q := (l + 1)) f1.1 (by omega)) (Tape_sh (Cellar_s_tape hx)) rfl (Tape_lt (Cellar_s_tape hx)) ⟨Nat.le_of_ble_eq_true rfl, Nat.le_of_ble_eq_true rfl⟩ rfl rfl (Nat.le_of_ble_eq_true rfl) ?_
  show bq_W _ _ _ _ _ 88 _ [] _ _ _ _ _ _
  refine q_nameI (fun J2 e2 => ?_)
  have f2 := (FS.ap (v := b) f1)
  rw [← e2] at f2
  refine q_iload_n (pc := 88) dX11_feed_88 rfl rfl ?_
  refine q_iconst (pc := 89) (v := nI 2) dX11_feed_89 (by decide) ?_
  refine q_icmp_le (pc := 90) 102 dX11_feed_90 (by decide) (fun c_90 => absurd c_90 (by decide)) (fun c_90 => ?_)
  refine q_aload_n (pc := 93) dX11_feed_93 rfl rfl ?_
  refine q_getP (pc := 94) dX11_feed_94 fX11_34 (Cellar_sh hx) ⟨by decide, rfl⟩ (Cellar_lt hx) (Cellar_p_tape hx) ?_
  refine q_iload (pc := 97) dX11_feed_97 rfl ?_
  refine q_callVF (pc := 99) dX11_feed_99 kX11_208 (c_X10_append (Cellar_s_tape hx) (q := (l + 2)) f2.1 (by omega)) (Tape_sh (Cellar_s_tape hx)) rfl (Tape_lt (Cellar_s_tape hx)) ⟨Nat.le_of_ble_eq_true rfl, Nat.le_of_ble_eq_true rfl⟩ rfl rfl (Nat.le_of_ble_eq_true rfl) ?_
  show bq_W _ _ _ _ _ 102 _ [] _ _ _ _ _ _
  refine q_nameI (fun J3 e3 => ?_)
  have f3 := (FS.ap (v := c) f2)
  rw [← e3] at f3
  refine q_iload_n (pc := 102) dX11_feed_102 rfl rfl ?_
  refine q_iconst (pc := 103) (v := nI 3) dX11_feed_103 (by decide) ?_
  refine q_icmp_le (pc := 104) 116 dX11_feed_104 (by decide) (fun c_104 => absurd c_104 (by decide)) (fun c_104 => ?_)
  refine q_aload_n (pc := 107) dX11_feed_107 rfl rfl ?_
  refine q_getP (pc := 108) dX11_feed_108 fX11_34 (Cellar_sh hx) ⟨by decide, rfl⟩ (Cellar_lt hx) (Cellar_p_tape hx) ?_
  refine q_iload (pc := 111) dX11_feed_111 rfl ?_
  refine q_callVF (pc := 113) dX11_feed_113 kX11_208 (c_X10_append (Cellar_s_tape hx) (q := (l + 3)) f3.1 (by omega)) (Tape_sh (Cellar_s_tape hx)) rfl (Tape_lt (Cellar_s_tape hx)) ⟨Nat.le_of_ble_eq_true rfl, Nat.le_of_ble_eq_true rfl⟩ rfl rfl (Nat.le_of_ble_eq_true rfl) ?_
  show bq_W _ _ _ _ _ 116 _ [] _ _ _ _ _ _
  refine q_nameI (fun J4 e4 => ?_)
  have f4 := (FS.ap (v := d) f3)
  rw [← e4] at f4
  refine q_iload_n (pc := 116) dX11_feed_116 rfl rfl ?_
  refine q_iconst (pc := 117) (v := nI 4) dX11_feed_117 (by decide) ?_
  refine q_icmp_le (pc := 118) 130 dX11_feed_118 (by decide) (fun c_118 => ?_) (fun c_118 => absurd (by decide) c_118)
  refine q_aload_n (pc := 130) dX11_feed_130 rfl rfl ?_
  refine q_getP (pc := 131) dX11_feed_131 fX11_34 (Cellar_sh hx) ⟨by decide, rfl⟩ (Cellar_lt hx) (Cellar_p_tape hx) ?_
  refine q_getI (pc := 134) dX11_feed_134 fX11_207 (Tape_sh (Cellar_s_tape hx)) ⟨by decide, rfl⟩ (Tape_lt (Cellar_s_tape hx)) ?_
  exact q_iret (st := []) (pc := 137) dX11_feed_137 rfl ⟨by rw [p_feed_ok (by decide) (by decide) ha hb hc hd he hf, f4.1], rfl, rfl, rfl, rfl, by rw [p_feed_ok (by decide) (by decide) ha hb hc hd he hf]; exact ⟨f4.1, fun j hj => (f4.2.1 j hj).trans (fb_s (k := 3) (fb_s (k := 2) (fb_s (k := 1) (fb_1)))), f4.2.2⟩⟩
set_option maxHeartbeats 1840000 in
set_option maxRecDepth 20000 in
theorem m_feed_k5 {S : BqH} {n : Nat} {I : BqI} {L : BqL} {P : BqP} {x : Nat} (hx : oX S n P x) {l : Nat} (h0 : I (x + 108) 0 = nI l) (hl : l ≤ 60) {a b c d e : Int32} (ha : ¬ (a < nI 0 ∨ ¬ a ≤ nI 127)) (hb : ¬ (b < nI 0 ∨ ¬ b ≤ nI 127)) (hc : ¬ (c < nI 0 ∨ ¬ c ≤ nI 127)) (hd : ¬ (d < nI 0 ∨ ¬ d ≤ nI 127)) (he : ¬ (e < nI 0 ∨ ¬ e ≤ nI 127)) (hf : ¬ 60 < l + 5) : bq_Sp mX11_feed 3 54 0 0 [.ref x, .int (nI 5), .int a, .int b, .int c, .int d, .int e] S n I L P (qFd x I L S n P (p_feed l (I (x + 108 + 1)) (nI 5) a b c d e)) := by
  refine q_entry (vs := [some (.ref x), some (.int (nI 5)), some (.int a), some (.int b), some (.int c), some (.int d), some (.int e)]) (by decide +kernel) (by simp) (Nat.le_of_ble_eq_true rfl) rfl ?_
  have f0 : FS (x + 108) I I l (I (x + 108 + 1)) := ⟨h0, fun _ _ => rfl, fun _ _ _ => rfl⟩
  refine q_iload_n (pc := 0) dX11_feed_0 rfl rfl ?_
  refine q_iconst (pc := 1) (v := nI 1) dX11_feed_1 (by decide) ?_
  refine q_iconst (pc := 2) (v := nI 5) dX11_feed_2 (by decide) ?_
  refine q_callSF (pc := 3) dX11_feed_3 kX11_69 c_X11_outside ⟨Nat.le_of_ble_eq_true rfl, Nat.le_of_ble_eq_true rfl⟩ rfl rfl (Nat.le_of_ble_eq_true rfl) ?_
  show bq_W _ _ _ _ _ 6 _ [_] _ _ _ _ _ _
  refine q_if_ne (pc := 6) 47 dX11_feed_6 (by decide) (fun c_6 => (((bq_nin (by omega) (by omega) (by decide)) (bq_bn.mp c_6) : False)).elim) (fun c_6 => ?_)
  refine q_iload_n (pc := 9) dX11_feed_9 rfl rfl ?_
  refine q_callSF (pc := 10) dX11_feed_10 kX11_203 c_noByte ⟨Nat.le_of_ble_eq_true rfl, Nat.le_of_ble_eq_true rfl⟩ rfl rfl (Nat.le_of_ble_eq_true rfl) ?_
  show bq_W _ _ _ _ _ 13 _ [_] _ _ _ _ _ _
  refine q_if_ne (pc := 13) 47 dX11_feed_13 (by decide) (fun c_13 => ((ha (bq_bn.mp c_13))).elim) (fun c_13 => ?_)
  refine q_iload_n (pc := 16) dX11_feed_16 rfl rfl ?_
  refine q_callSF (pc := 17) dX11_feed_17 kX11_203 c_noByte ⟨Nat.le_of_ble_eq_true rfl, Nat.le_of_ble_eq_true rfl⟩ rfl rfl (Nat.le_of_ble_eq_true rfl) ?_
  show bq_W _ _ _ _ _ 20 _ [_] _ _ _ _ _ _
  refine q_if_ne (pc := 20) 47 dX11_feed_20 (by decide) (fun c_20 => ((hb (bq_bn.mp c_20))).elim) (fun c_20 => ?_)
  refine q_iload (pc := 23) dX11_feed_23 rfl ?_
  refine q_callSF (pc := 25) dX11_feed_25 kX11_203 c_noByte ⟨Nat.le_of_ble_eq_true rfl, Nat.le_of_ble_eq_true rfl⟩ rfl rfl (Nat.le_of_ble_eq_true rfl) ?_
  show bq_W _ _ _ _ _ 28 _ [_] _ _ _ _ _ _
  refine q_if_ne (pc := 28) 47 dX11_feed_28 (by decide) (fun c_28 => ((hc (bq_bn.mp c_28))).elim) (fun c_28 => ?_)
  refine q_iload (pc := 31) dX11_feed_31 rfl ?_
  refine q_callSF (pc := 33) dX11_feed_33 kX11_203 c_noByte ⟨Nat.le_of_ble_eq_true rfl, Nat.le_of_ble_eq_true rfl⟩ rfl rfl (Nat.le_of_ble_eq_true rfl) ?_
  show bq_W _ _ _ _ _ 36 _ [_] _ _ _ _ _ _
  refine q_if_ne (pc := 36) 47 dX11_feed_36 (by decide) (fun c_36 => ((hd (bq_bn.mp c_36))).elim) (fun c_36 => ?_)
  refine q_iload (pc := 39) dX11_feed_39 rfl ?_
  refine q_callSF (pc := 41) dX11_feed_41 kX11_203 c_noByte ⟨Nat.le_of_ble_eq_true rfl, Nat.le_of_ble_eq_true rfl⟩ rfl rfl (Nat.le_of_ble_eq_true rfl) ?_
  show bq_W _ _ _ _ _ 44 _ [_] _ _ _ _ _ _
  refine q_if_eq (pc := 44) 50 dX11_feed_44 (by decide) (fun c_44 => ?_) (fun c_44 => ((he (bq_bn.mp c_44))).elim)
  refine q_aload_n (pc := 50) dX11_feed_50 rfl rfl ?_
  refine q_getP (pc := 51) dX11_feed_51 fX11_34 (Cellar_sh hx) ⟨by decide, rfl⟩ (Cellar_lt hx) (Cellar_p_tape hx) ?_
  refine q_getI (pc := 54) dX11_feed_54 fX11_207 (Tape_sh (Cellar_s_tape hx)) ⟨by decide, rfl⟩ (Tape_lt (Cellar_s_tape hx)) ?_
  rw [h0]
  refine q_iload_n (pc := 57) dX11_feed_57 rfl rfl ?_
  refine q_iaddN (pc := 58) dX11_feed_58 ?_
  refine q_bipush (pc := 59) (v := nI 60) dX11_feed_59 (by decide) ?_
  refine q_icmp_le (pc := 61) 67 dX11_feed_61 (by decide) (fun c_61 => ?_) (fun c_61 => absurd (nI_le (show l + 5 ≤ 60 by omega) (by decide)) c_61)
  refine q_aload_n (pc := 67) dX11_feed_67 rfl rfl ?_
  refine q_getP (pc := 68) dX11_feed_68 fX11_34 (Cellar_sh hx) ⟨by decide, rfl⟩ (Cellar_lt hx) (Cellar_p_tape hx) ?_
  refine q_iload_n (pc := 71) dX11_feed_71 rfl rfl ?_
  refine q_callVF (pc := 72) dX11_feed_72 kX11_208 (c_X10_append (Cellar_s_tape hx) (q := l) f0.1 (by omega)) (Tape_sh (Cellar_s_tape hx)) rfl (Tape_lt (Cellar_s_tape hx)) ⟨Nat.le_of_ble_eq_true rfl, Nat.le_of_ble_eq_true rfl⟩ rfl rfl (Nat.le_of_ble_eq_true rfl) ?_
  show bq_W _ _ _ _ _ 75 _ [] _ _ _ _ _ _
  refine q_nameI (fun J1 e1 => ?_)
  have f1 := (FS.ap (v := a) f0)
  rw [← e1] at f1
  refine q_iload_n (pc := 75) dX11_feed_75 rfl rfl ?_
  refine q_iconst (pc := 76) (v := nI 1) dX11_feed_76 (by decide) ?_
  refine q_icmp_le (pc := 77) 88 dX11_feed_77 (by decide) (fun c_77 => absurd c_77 (by decide)) (fun c_77 => ?_)
  refine q_aload_n (pc := 80) dX11_feed_80 rfl rfl ?_
  refine q_getP (pc := 81) dX11_feed_81 fX11_34 (Cellar_sh hx) ⟨by decide, rfl⟩ (Cellar_lt hx) (Cellar_p_tape hx) ?_
  refine q_iload_n (pc := 84) dX11_feed_84 rfl rfl ?_
  refine q_callVF (pc := 85) dX11_feed_85 kX11_208 (c_X10_append (Cellar_s_tape hx) (q := (l + 1)) f1.1 (by omega)) (Tape_sh (Cellar_s_tape hx)) rfl (Tape_lt (Cellar_s_tape hx)) ⟨Nat.le_of_ble_eq_true rfl, Nat.le_of_ble_eq_true rfl⟩ rfl rfl (Nat.le_of_ble_eq_true rfl) ?_
  show bq_W _ _ _ _ _ 88 _ [] _ _ _ _ _ _
  refine q_nameI (fun J2 e2 => ?_)
  have f2 := (FS.ap (v := b) f1)
  rw [← e2] at f2
  refine q_iload_n (pc := 88) dX11_feed_88 rfl rfl ?_
  refine q_iconst (pc := 89) (v := nI 2) dX11_feed_89 (by decide) ?_
  refine q_icmp_le (pc := 90) 102 dX11_feed_90 (by decide) (fun c_90 => absurd c_90 (by decide)) (fun c_90 => ?_)
  refine q_aload_n (pc := 93) dX11_feed_93 rfl rfl ?_
  refine q_getP (pc := 94) dX11_feed_94 fX11_34 (Cellar_sh hx) ⟨by decide, rfl⟩ (Cellar_lt hx) (Cellar_p_tape hx) ?_
  refine q_iload (pc := 97) dX11_feed_97 rfl ?_
  refine q_callVF (pc := 99) dX11_feed_99 kX11_208 (c_X10_append (Cellar_s_tape hx) (q := (l + 2)) f2.1 (by omega)) (Tape_sh (Cellar_s_tape hx)) rfl (Tape_lt (Cellar_s_tape hx)) ⟨Nat.le_of_ble_eq_true rfl, Nat.le_of_ble_eq_true rfl⟩ rfl rfl (Nat.le_of_ble_eq_true rfl) ?_
  show bq_W _ _ _ _ _ 102 _ [] _ _ _ _ _ _
  refine q_nameI (fun J3 e3 => ?_)
  have f3 := (FS.ap (v := c) f2)
  rw [← e3] at f3
  refine q_iload_n (pc := 102) dX11_feed_102 rfl rfl ?_
  refine q_iconst (pc := 103) (v := nI 3) dX11_feed_103 (by decide) ?_
  refine q_icmp_le (pc := 104) 116 dX11_feed_104 (by decide) (fun c_104 => absurd c_104 (by decide)) (fun c_104 => ?_)
  refine q_aload_n (pc := 107) dX11_feed_107 rfl rfl ?_
  refine q_getP (pc := 108) dX11_feed_108 fX11_34 (Cellar_sh hx) ⟨by decide, rfl⟩ (Cellar_lt hx) (Cellar_p_tape hx) ?_
  refine q_iload (pc := 111) dX11_feed_111 rfl ?_
  refine q_callVF (pc := 113) dX11_feed_113 kX11_208 (c_X10_append (Cellar_s_tape hx) (q := (l + 3)) f3.1 (by omega)) (Tape_sh (Cellar_s_tape hx)) rfl (Tape_lt (Cellar_s_tape hx)) ⟨Nat.le_of_ble_eq_true rfl, Nat.le_of_ble_eq_true rfl⟩ rfl rfl (Nat.le_of_ble_eq_true rfl) ?_
  show bq_W _ _ _ _ _ 116 _ [] _ _ _ _ _ _
  refine q_nameI (fun J4 e4 => ?_)
  have f4 := (FS.ap (v := d) f3)
  rw [← e4] at f4
  refine q_iload_n (pc := 116) dX11_feed_116 rfl rfl ?_
  refine q_iconst (pc := 117) (v := nI 4) dX11_feed_117 (by decide) ?_
  refine q_icmp_le (pc := 118) 130 dX11_feed_118 (by decide) (fun c_118 => absurd c_118 (by decide)) (fun c_118 => ?_)
  refine q_aload_n (pc := 121) dX11_feed_121 rfl rfl ?_
  refine q_getP (pc := 122) dX11_feed_122 fX11_34 (Cellar_sh hx) ⟨by decide, rfl⟩ (Cellar_lt hx) (Cellar_p_tape hx) ?_
  refine q_iload (pc := 125) dX11_feed_125 rfl ?_
  refine q_callVF (pc := 127) dX11_feed_127 kX11_208 (c_X10_append (Cellar_s_tape hx) (q := (l + 4)) f4.1 (by omega)) (Tape_sh (Cellar_s_tape hx)) rfl (Tape_lt (Cellar_s_tape hx)) ⟨Nat.le_of_ble_eq_true rfl, Nat.le_of_ble_eq_true rfl⟩ rfl rfl (Nat.le_of_ble_eq_true rfl) ?_
  show bq_W _ _ _ _ _ 130 _ [] _ _ _ _ _ _
  refine q_nameI (fun J5 e5 => ?_)
  have f5 := (FS.ap (v := e) f4)
  rw [← e5] at f5
  refine q_aload_n (pc := 130) dX11_feed_130 rfl rfl ?_
  refine q_getP (pc := 131) dX11_feed_131 fX11_34 (Cellar_sh hx) ⟨by decide, rfl⟩ (Cellar_lt hx) (Cellar_p_tape hx) ?_
  refine q_getI (pc := 134) dX11_feed_134 fX11_207 (Tape_sh (Cellar_s_tape hx)) ⟨by decide, rfl⟩ (Tape_lt (Cellar_s_tape hx)) ?_
  exact q_iret (st := []) (pc := 137) dX11_feed_137 rfl ⟨by rw [p_feed_ok (by decide) (by decide) ha hb hc hd he hf, f5.1], rfl, rfl, rfl, rfl, by rw [p_feed_ok (by decide) (by decide) ha hb hc hd he hf]; exact ⟨f5.1, fun j hj => (f5.2.1 j hj).trans (fb_s (k := 4) (fb_s (k := 3) (fb_s (k := 2) (fb_s (k := 1) (fb_1))))), f5.2.2⟩⟩
theorem m_feed {S : BqH} {n : Nat} {I : BqI} {L : BqL} {P : BqP} {x : Nat} (hx : oX S n P x) {l : Nat} (h0 : I (x + 108) 0 = nI l) (hl : l ≤ 60) {k : Int32} {a b c d e : Int32} : bq_Sp mX11_feed 3 54 0 0 [.ref x, .int k, .int a, .int b, .int c, .int d, .int e] S n I L P (qFd x I L S n P (p_feed l (I (x + 108 + 1)) k a b c d e)) := by
  by_cases hb : (k < nI 1 ∨ ¬ k ≤ nI 5) ∨ (a < nI 0 ∨ ¬ a ≤ nI 127) ∨ (b < nI 0 ∨ ¬ b ≤ nI 127) ∨ (c < nI 0 ∨ ¬ c ≤ nI 127) ∨ (d < nI 0 ∨ ¬ d ≤ nI 127) ∨ (e < nI 0 ∨ ¬ e ≤ nI 127)
  · exact m_feed_a hx h0 hl hb
  obtain ⟨q, q1, q5, rfl⟩ := (bq_in19 k 1 5 (by decide) (by decide)).resolve_left (fun z => hb (Or.inl z))
  have ha : ¬ (a < nI 0 ∨ ¬ a ≤ nI 127) := fun z => hb (Or.inr (Or.inl z))
  have hb' : ¬ (b < nI 0 ∨ ¬ b ≤ nI 127) := fun z => hb (Or.inr (Or.inr (Or.inl z)))
  have hc : ¬ (c < nI 0 ∨ ¬ c ≤ nI 127) := fun z => hb (Or.inr (Or.inr (Or.inr (Or.inl z))))
  have hd : ¬ (d < nI 0 ∨ ¬ d ≤ nI 127) := fun z => hb (Or.inr (Or.inr (Or.inr (Or.inr (Or.inl z)))))
  have he : ¬ (e < nI 0 ∨ ¬ e ≤ nI 127) := fun z => hb (Or.inr (Or.inr (Or.inr (Or.inr (Or.inr z)))))
  by_cases hf : 60 < l + q
  · exact m_feed_b hx h0 hl q1 q5 ha hb' hc hd he hf
  match q, q1, q5, hf with
  | 1, _, _, hf => exact m_feed_k1 hx h0 hl ha hb' hc hd he hf
  | 2, _, _, hf => exact m_feed_k2 hx h0 hl ha hb' hc hd he hf
  | 3, _, _, hf => exact m_feed_k3 hx h0 hl ha hb' hc hd he hf
  | 4, _, _, hf => exact m_feed_k4 hx h0 hl ha hb' hc hd he hf
  | 5, _, _, hf => exact m_feed_k5 hx h0 hl ha hb' hc hd he hf
  | q + 6, _, q5, _ => exact absurd q5 (by omega)
set_option maxHeartbeats 2880000 in
set_option maxRecDepth 20000 in
theorem m_run {S : BqH} {n : Nat} {I : BqI} {L : BqL} {P : BqP} {x : Nat} {g : BqG} {h : Nat → BqG} {ch en : Nat} (hX : CXS x S n I L P g h ch) (hK : GK g en) (hen : en + 60 < 200000) {l : Nat} (h0 : I (x + 108) 0 = nI l) (hl60 : l ≤ 60) : bq_Sp mX11_run 7 144 0 0 [.ref x] S n I L P (qRun x I L S n P (p_run g h ch (I x 10) (pR (I (x + 108 + 1)) l 21 0 0 (fun _ => (nI 0, nI 0, nI 0, nI 0))))) := by
  refine q_entry (vs := [some (.ref x), none, none, none]) (by decide +kernel) (by simp) (Nat.le_of_ble_eq_true rfl) rfl ?_
  have hx := hX.1
  have R := rcs_R h0 hl60
  have hn := pR_n (B := I (x + 108 + 1)) (l := l) 21 0 0 (fun _ => (nI 0, nI 0, nI 0, nI 0)) (Nat.le_refl _) (Nat.zero_le _)
  have hp : (pR (I (x + 108 + 1)) l 21 0 0 (fun _ => (nI 0, nI 0, nI 0, nI 0))).2.1 ≤ 60 ∨ True := Or.inr trivial
  generalize (pR (I (x + 108 + 1)) l 21 0 0 (fun _ => (nI 0, nI 0, nI 0, nI 0))) = r at R hn ⊢
  refine q_aload_n (pc := 0) dX11_run_0 rfl rfl ?_
  refine q_getP (pc := 1) dX11_run_1 fX11_34 (Cellar_sh hx) ⟨by decide, rfl⟩ (Cellar_lt hx) (Cellar_p_tape hx) ?_
  refine q_callVF (pc := 4) dX11_run_4 kX11_212 (c_X10_readCommands (Cellar_s_tape hx)) (Tape_sh (Cellar_s_tape hx)) rfl (Tape_lt (Cellar_s_tape hx)) ⟨Nat.le_of_ble_eq_true rfl, Nat.le_of_ble_eq_true rfl⟩ rfl rfl (Nat.le_of_ble_eq_true rfl) ?_
  show bq_W _ _ _ _ _ 7 _ [_] _ _ _ _ _ _
  obtain ⟨R1, R2, R3, R4⟩ := R
  rw [R1]
  generalize (rcs (x + 108) 20 0 (rcs_0 I (x + 108))).2 = J at R2 R3 R4 ⊢
  refine q_if_ne (pc := 7) 14 dX11_run_7 (by decide) (fun c_7 => ?_) (fun c_7 => ?_)
  · have hr : r.1 = true := Decidable.byContradiction (fun z => c_7 (by rw [if_neg z]; rfl))
    refine q_iconst (pc := 14) (v := nI 0) dX11_run_14 (by decide) ?_
    refine q_istore_n (pc := 15) dX11_run_15 rfl (Nat.le_of_ble_eq_true rfl) rfl ?_
    show bq_W _ _ _ _ _ 16 [_, _, _, _] _ _ _ _ _ _ _
    refine q_aload_n (pc := 16) dX11_run_16 rfl rfl ?_
    refine q_getP (pc := 17) dX11_run_17 fX11_34 (Cellar_sh hx) ⟨by decide, rfl⟩ (Cellar_lt hx) (Cellar_p_tape hx) ?_
    refine q_iconst (pc := 20) (v := nI 0) dX11_run_20 (by decide) ?_
    refine q_putI (pc := 21) dX11_run_21 (pX11_207 _) (Tape_sh (Cellar_s_tape hx)) ⟨by decide, rfl⟩ (Tape_lt (Cellar_s_tape hx)) ?_
    refine q_nameI (fun J1 e1 => ?_)
    have hT : TpE x I J1 := by
      rw [e1]
      exact ⟨bq_u_at _ _ _ _, (bq_u_ne (by omega)).trans (R4 _ (by omega) (by omega)), fun a ha => (bq_u_ne (by omega)).trans (R4 a (by omega) (by omega))⟩
    have j2 : J1 (x + 108) 2 = nI r.2.1 := by rw [e1, bq_u_no (by omega)]; exact R2
    have hX1 : CXS x S n J1 L P g h ch := hX.tp hT.2.2
    have hy1 : J1 x 10 = I x 10 := congrFun (hT.2.2 x (by omega)) 10
    obtain ⟨hx, hC, hc, hl, π, hP, hh⟩ := hX1
    have hC0 := put_1 (π := π) (ch := ch) hC
    have hM0 := mid_mk hx hP hC hc hl hh hC0 Frm.rf FrmL.rf
    have hn3 := hn hr
    have hcm : J1 (x + 108) 4 = nI r.2.2.1 := by rw [e1, bq_u_no (by omega)]; exact (R3 hr).1
    have hCm : ∀ j, j < r.2.2.1 → Cm J1 (x + 108 + 3 + j) (r.2.2.2 j) := fun j hj => ((R3 hr).2 j hj).fr (by rw [e1]; exact bq_u_ne (by omega))
    refine q_iload_n (pc := 24) dX11_run_24 rfl rfl ?_
    refine q_if_eq (pc := 25) 39 dX11_run_25 (by decide) (fun c_25 => ?_) (fun c_25 => absurd (by decide) c_25)
    refine q_aload_n (pc := 39) dX11_run_39 rfl rfl ?_
    refine q_callVF (pc := 40) dX11_run_40 kX11_89 (c_putBy hx hP hc (by omega)) (Cellar_sh hx) rfl (Cellar_lt hx) ⟨Nat.le_of_ble_eq_true rfl, Nat.le_of_ble_eq_true rfl⟩ rfl rfl (Nat.le_of_ble_eq_true rfl) ?_
    show bq_W _ _ _ _ _ 43 _ [] _ _ _ _ _ _
    refine q_iconst (pc := 43) (v := nI 0) dX11_run_43 (by decide) ?_
    refine q_istore_n (pc := 44) dX11_run_44 rfl (Nat.le_of_ble_eq_true rfl) rfl ?_
    show bq_W _ _ _ _ _ 45 [_, _, _, _] _ _ _ _ _ _ _
    have lp : ∀ i, i ≤ r.2.2.1 → ∀ (J2 : BqI) (K2 : BqL) (v3 : Option Value), Mid x S n J1 J2 L K2 P g (ds r.2.2.2 g i) h ch π (J1 x 10) → fz r.2.2.2 g i = none → bq_W mX11_run 7 144 0 0 45 [some (.ref x), some (.int (nI 0)), some (.int (nI i)), v3] [] S n J2 K2 P (qRun x I L S n P (p_run g h ch (I x 10) r)) := by
      refine bq_down (A := fun i => ∀ (J2 : BqI) (K2 : BqL) (v3 : Option Value), Mid x S n J1 J2 L K2 P g (ds r.2.2.2 g i) h ch π (J1 x 10) → fz r.2.2.2 g i = none → bq_W mX11_run 7 144 0 0 45 [some (.ref x), some (.int (nI 0)), some (.int (nI i)), v3] [] S n J2 K2 P (qRun x I L S n P (p_run g h ch (I x 10) r))) r.2.2.1 ?_ ?_
      · intro J2 K2 v3 hM hz
        have hc2 : J2 (x + 108) 4 = nI r.2.2.1 := by rw [hM.2.2.2.2.2.2.2.2.1.1 (x + 108) (by omega)]; exact hcm
        refine q_iload_n (pc := 45) dX11_run_45 rfl rfl ?_
        refine q_aload_n (pc := 46) dX11_run_46 rfl rfl ?_
        refine q_getP (pc := 47) dX11_run_47 fX11_34 (Cellar_sh hx) ⟨by decide, rfl⟩ (Cellar_lt hx) (Cellar_p_tape hx) ?_
        refine q_getI (pc := 50) dX11_run_50 fX11_219 (Tape_sh (Cellar_s_tape hx)) ⟨by decide, rfl⟩ (Tape_lt (Cellar_s_tape hx)) ?_
        rw [hc2]
        refine q_icmp_ge (pc := 53) 108 dX11_run_53 (by decide) (fun c_53 => ?_) (fun c_53 => absurd (nI_le (Nat.le_refl _) (by omega)) c_53)
        refine q_aload_n (pc := 108) dX11_run_108 rfl rfl ?_
        refine q_aload_n (pc := 109) dX11_run_109 rfl rfl ?_
        refine q_getP (pc := 110) dX11_run_110 fX11_34 (Cellar_sh hx) ⟨by decide, rfl⟩ (Cellar_lt hx) (Cellar_p_tape hx) ?_
        refine q_getI (pc := 113) dX11_run_113 fX11_219 (Tape_sh (Cellar_s_tape hx)) ⟨by decide, rfl⟩ (Tape_lt (Cellar_s_tape hx)) ?_
        rw [hc2]
        refine q_callV (pc := 116) dX11_run_116 kX11_95 (c_changed hM) (Cellar_sh hx) rfl (Cellar_lt hx) ⟨Nat.le_of_ble_eq_true rfl, Nat.le_of_ble_eq_true rfl⟩ rfl rfl (Nat.le_of_ble_eq_true rfl) ?_
        rintro _ S9 n9 I9 L9 P9 ⟨rfl, eS9, en9, Q1, Q2, Q3, Q4, Q5⟩
        subst S9 n9
        rw [hy1] at Q1 Q2
        rw [hy1]
        show bq_W _ _ _ _ _ 119 _ [_] _ _ _ _ _ _
        exact q_iret (st := []) (pc := 119) dX11_run_119 rfl (qRun.mk hT (congrArg (fun w => w.1) (p_run_o hr hz)).symm (by rw [p_run_o hr hz]; exact Q1) (by rw [p_run_o hr hz]; exact Q2) Q3 Q4 Q5)
      · intro i hi ih J2 K2 v3 hM hz
        have i20 : i < 20 := by omega
        have hc2 : J2 (x + 108) 4 = nI r.2.2.1 := by rw [hM.2.2.2.2.2.2.2.2.1.1 (x + 108) (by omega)]; exact hcm
        have hGi : GI (ds r.2.2.2 g i) (en + 3 * i) := (ds_gk hK i (by omega)).gi
        have hci : w_do (ds r.2.2.2 g i) (J2 (x + 108 + 3 + i) 0) (J2 (x + 108 + 3 + i) 1) (J2 (x + 108 + 3 + i) 2) (J2 (x + 108 + 3 + i) 3) = wk (ds r.2.2.2 g i) (r.2.2.2 i) := ((hCm i hi).fr (hM.2.2.2.2.2.2.2.2.1.1 _ (by omega))) _
        refine q_iload_n (pc := 45) dX11_run_45 rfl rfl ?_
        refine q_aload_n (pc := 46) dX11_run_46 rfl rfl ?_
        refine q_getP (pc := 47) dX11_run_47 fX11_34 (Cellar_sh hx) ⟨by decide, rfl⟩ (Cellar_lt hx) (Cellar_p_tape hx) ?_
        refine q_getI (pc := 50) dX11_run_50 fX11_219 (Tape_sh (Cellar_s_tape hx)) ⟨by decide, rfl⟩ (Tape_lt (Cellar_s_tape hx)) ?_
        rw [hc2]
        refine q_icmp_ge (pc := 53) 108 dX11_run_53 (by decide) (fun c_53 => absurd c_53 (nI_ge hi (by omega))) (fun c_53 => ?_)
        refine q_aload_n (pc := 56) dX11_run_56 rfl rfl ?_
        refine q_aload_n (pc := 57) dX11_run_57 rfl rfl ?_
        refine q_getP (pc := 58) dX11_run_58 fX11_34 (Cellar_sh hx) ⟨by decide, rfl⟩ (Cellar_lt hx) (Cellar_p_tape hx) ?_
        refine q_getP (pc := 61) dX11_run_61 fX11_222 (Tape_sh (Cellar_s_tape hx)) ⟨by decide, rfl⟩ (Tape_lt (Cellar_s_tape hx)) (Tape_p_commands (Cellar_s_tape hx)) ?_
        refine q_iload_n (pc := 64) dX11_run_64 rfl rfl ?_
        refine q_aald (pc := 65) dX11_run_65 (Tapecommands_sh (Cellar_s_tape hx)) (by decide) (Tapecommands_lt (Cellar_s_tape hx)) rfl i20 (Tapecommands_p_el (Cellar_s_tape hx) i20) ?_
        refine q_callV (pc := 66) dX11_run_66 kX11_226 (c_perform hx hM.2.2.1 hGi (by omega) ((Cellar_s_tape hx).2.2.2.2.2.2 i i20).2) (Cellar_sh hx) rfl (Cellar_lt hx) ⟨Nat.le_of_ble_eq_true rfl, Nat.le_of_ble_eq_true rfl⟩ rfl rfl (Nat.le_of_ble_eq_true rfl) ?_
        rintro _ S1 n1 J3 K3 P1 ⟨rfl, eS1, en1, eP1, C1, F1, F2⟩
        subst S1 n1 P1
        rw [hci] at C1
        rw [hci]
        have hM3 := hM.st C1 F1 F2
        show bq_W _ _ _ _ _ 69 _ [_] _ _ _ _ _ _
        refine q_istore_n (pc := 69) dX11_run_69 rfl (Nat.le_of_ble_eq_true rfl) rfl ?_
        show bq_W _ _ _ _ _ 70 [_, _, _, _] _ _ _ _ _ _ _
        refine q_iload_n (pc := 70) dX11_run_70 rfl rfl ?_
        refine q_if_ge (pc := 71) 102 dX11_run_71 (by decide) (fun c_71 => ?_) (fun c_71 => ?_)
        · have hw : ¬ (wk (ds r.2.2.2 g i) (r.2.2.2 i)).1 < 0 := Int32.not_lt.mpr c_71
          refine q_iinc (pc := 102) (v := nI (i + 1)) dX11_run_102 rfl (bq_inc _) (Nat.le_of_ble_eq_true rfl) rfl ?_
          show bq_W _ _ _ _ _ 105 [_, _, _, _] _ _ _ _ _ _ _
          refine q_goto (pc := 105) 45 dX11_run_105 (by decide) ?_
          exact ih J3 K3 _ hM3 (fz_no hz hw)
        · have hw : (wk (ds r.2.2.2 g i) (r.2.2.2 i)).1 < 0 := Int32.not_le.mp c_71
          have hf := fz_hit hi hz hw
          refine q_aload_n (pc := 74) dX11_run_74 rfl rfl ?_
          refine q_getP (pc := 75) dX11_run_75 fX11_10 (Cellar_sh hx) ⟨by decide, rfl⟩ (Cellar_lt hx) (Cellar_p_state hx) ?_
          refine q_aload_n (pc := 78) dX11_run_78 rfl rfl ?_
          refine q_getP (pc := 79) dX11_run_79 fX11_16 (Cellar_sh hx) ⟨by decide, rfl⟩ (Cellar_lt hx) (Cellar_p_past hx) ?_
          refine q_aload_n (pc := 82) dX11_run_82 rfl rfl ?_
          refine q_getI (pc := 83) dX11_run_83 fX11_20 (Cellar_sh hx) ⟨by decide, rfl⟩ (Cellar_lt hx) ?_
          rw [hM3.2.2.2.1]
          refine q_aald (pc := 86) dX11_run_86 (Cellarpast_sh hx) (by decide) (Cellarpast_lt hx) rfl (show ch < 7 by omega) (hP.1 _ (by omega)).1 ?_
          refine q_callVF (pc := 87) dX11_run_87 kX11_230 (c_X8_copyFrom (Cellar_s_state hx) (hP.2.2 _ (hP.1 _ (show ch < 7 by omega)).2)) (State_sh (Cellar_s_state hx)) rfl (State_lt (Cellar_s_state hx)) ⟨Nat.le_of_ble_eq_true rfl, Nat.le_of_ble_eq_true rfl⟩ rfl rfl (Nat.le_of_ble_eq_true rfl) ?_
          show bq_W _ _ _ _ _ 90 _ [] _ _ _ _ _ _
          refine q_aload_n (pc := 90) dX11_run_90 rfl rfl ?_
          refine q_iload_n (pc := 91) dX11_run_91 rfl rfl ?_
          refine q_ineg (pc := 92) dX11_run_92 ?_
          refine q_putI (pc := 93) dX11_run_93 (pX11_62 _) (Cellar_sh hx) ⟨by decide, rfl⟩ (Cellar_lt hx) ?_
          refine q_sipush (pc := 96) (v := (-200)) dX11_run_96 (by decide) ?_
          refine q_iload_n (pc := 99) dX11_run_99 rfl rfl ?_
          have hB := hM3.bk (v := -(wk (ds r.2.2.2 g i) (r.2.2.2 i)).1)
          refine q_isub (pc := 100) dX11_run_100 ?_
          exact q_iret (st := []) (pc := 101) dX11_run_101 rfl (qRun.mk hT (congrArg (fun w => w.1) (p_run_f hr hf)).symm (by rw [p_run_f hr hf]; exact hB.1) (by rw [p_run_f hr hf]; exact bq_u_at _ _ _ _) hB.2.1 hB.2.2 (fun _ _ => rfl))
    exact lp 0 (Nat.zero_le _) _ _ _ hM0 rfl
  · have hr : ¬ r.1 = true := fun z => by rw [if_pos z] at c_7; exact absurd c_7 (by decide)
    refine q_iconst (pc := 10) (v := nI 1) dX11_run_10 (by decide) ?_
    refine q_goto (pc := 11) 15 dX11_run_11 (by decide) ?_
    refine q_istore_n (pc := 15) dX11_run_15 rfl (Nat.le_of_ble_eq_true rfl) rfl ?_
    show bq_W _ _ _ _ _ 16 [_, _, _, _] _ _ _ _ _ _ _
    refine q_aload_n (pc := 16) dX11_run_16 rfl rfl ?_
    refine q_getP (pc := 17) dX11_run_17 fX11_34 (Cellar_sh hx) ⟨by decide, rfl⟩ (Cellar_lt hx) (Cellar_p_tape hx) ?_
    refine q_iconst (pc := 20) (v := nI 0) dX11_run_20 (by decide) ?_
    refine q_putI (pc := 21) dX11_run_21 (pX11_207 _) (Tape_sh (Cellar_s_tape hx)) ⟨by decide, rfl⟩ (Tape_lt (Cellar_s_tape hx)) ?_
    refine q_nameI (fun J1 e1 => ?_)
    have hT : TpE x I J1 := by
      rw [e1]
      exact ⟨bq_u_at _ _ _ _, (bq_u_ne (by omega)).trans (R4 _ (by omega) (by omega)), fun a ha => (bq_u_ne (by omega)).trans (R4 a (by omega) (by omega))⟩
    have j2 : J1 (x + 108) 2 = nI r.2.1 := by rw [e1, bq_u_no (by omega)]; exact R2
    have hX1 : CXS x S n J1 L P g h ch := hX.tp hT.2.2
    have hy1 : J1 x 10 = I x 10 := congrFun (hT.2.2 x (by omega)) 10
    refine q_iload_n (pc := 24) dX11_run_24 rfl rfl ?_
    refine q_if_eq (pc := 25) 39 dX11_run_25 (by decide) (fun c_25 => absurd c_25 (by decide)) (fun c_25 => ?_)
    refine q_bipush (pc := 28) (v := (-100)) dX11_run_28 (by decide) ?_
    refine q_aload_n (pc := 30) dX11_run_30 rfl rfl ?_
    refine q_getP (pc := 31) dX11_run_31 fX11_34 (Cellar_sh hx) ⟨by decide, rfl⟩ (Cellar_lt hx) (Cellar_p_tape hx) ?_
    refine q_getI (pc := 34) dX11_run_34 fX11_216 (Tape_sh (Cellar_s_tape hx)) ⟨by decide, rfl⟩ (Tape_lt (Cellar_s_tape hx)) ?_
    refine q_isub (pc := 37) dX11_run_37 ?_
    exact q_iret (st := []) (pc := 38) dX11_run_38 rfl (qRun.mk hT (by rw [p_run_w hr, j2]) (by rw [p_run_w hr]; exact hX1) (by rw [p_run_w hr]; exact hy1) ⟨fun _ _ => rfl, rfl⟩ (fun _ _ => rfl) (fun _ _ => rfl))
theorem i_vc : Claimed_1_1 ∧ Claimed_1_2 := sorry
