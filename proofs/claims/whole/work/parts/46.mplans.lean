/-! the model's plan -/
def sk (Q : Nat → Nat) : Nat → Nat → Bool
  | 0 => fun _ => false
  | k + 1 => fun o => sk Q k o || decide (Q k = o)
theorem sk_iff {Q : Nat → Nat} {o : Nat} : ∀ {k : Nat}, sk Q k o = false ↔ ∀ j, j < k → Q j ≠ o
  | 0 => ⟨fun _ j h => absurd h (Nat.not_lt_zero _), fun _ => rfl⟩
  | k + 1 => by
    have ih := sk_iff (Q := Q) (o := o) (k := k)
    show (sk Q k o || decide (Q k = o)) = false ↔ _
    rw [Bool.or_eq_false_iff, ih]
    constructor
    · rintro ⟨h1, h2⟩ j hj
      by_cases e : j = k
      · subst e; exact of_decide_eq_false h2
      · exact h1 j (by omega)
    · intro h
      exact ⟨fun j hj => h j (by omega), decide_eq_false (h k (by omega))⟩
/-- the planned tank of each order -/
def ptn (g : BqG) (Q : Nat → Nat) : Nat → Nat → Int32
  | 0 => fun _ => (-5)
  | k + 1 => match bt g (Q k) (pln g Q k).1 6 with
    | none => ptn g Q k
    | some t => bq_r (ptn g Q k) (Q k) (nI t)
def qPl (m : Nat) (g : BqG) (I : BqI) (S : BqH) (n : Nat) (L : BqL) (P : BqP) : BqQ := fun r S' n' I' L' P' => r = none ∧ S' = S ∧ n' = n ∧ L' = L ∧ P' = P ∧ (∀ a, a ≠ m → a < m + 6 ∨ m + 13 ≤ a → I' a = I a) ∧ (∀ k, k ≠ 17 → I' m k = I m k) ∧ I' m 17 = nI (plan g).2.1 ∧ (∀ j, j < (plan g).2.1 → I' (m + 9) j = nI ((plan g).2.2.1 j)) ∧ ∀ o, o < 10 → I' (m + 10) o = ptn g (qg g).1 (qg g).2 o
def PA (m : Nat) (_ : BqG) (I J : BqI) (i : Nat) : Prop := (∀ a, a ≠ m → a < m + 6 ∨ m + 13 ≤ a → J a = I a) ∧ (∀ k, k ≠ 17 → J m k = I m k) ∧ J m 17 = nI 0 ∧ ∀ o, o < i → J (m + 10) o = (-5) ∧ J (m + 11) o = nI 0
def PB (m : Nat) (g : BqG) (I J : BqI) (i : Nat) : Prop := PA m g I J 10 ∧ ∀ q, q < i → J (m + 12) q = nI (gp g (q / 16) (q % 16))
def PJ (m : Nat) (g : BqG) (I J : BqI) (k : Nat) : Prop := (∀ a, a ≠ m → a < m + 6 ∨ m + 13 ≤ a → J a = I a) ∧ (∀ k, k ≠ 17 → J m k = I m k) ∧ J m 17 = nI (pln g (qg g).1 k).2.1 ∧ (∀ j, j < (pln g (qg g).1 k).2.1 → J (m + 9) j = nI ((pln g (qg g).1 k).2.2.1 j)) ∧ (∀ o, o < 10 → J (m + 10) o = ptn g (qg g).1 k o) ∧ (∀ o, o < 10 → J (m + 11) o = (if sk (qg g).1 k o = true then nI 1 else nI 0)) ∧ ∀ t, t < 6 → ∀ j, j < 16 → J (m + 12) (16 * t + j) = nI ((pln g (qg g).1 k).1 t j)
/-- order k was seen -/
def PJ2 (m : Nat) (g : BqG) (I J : BqI) (k : Nat) : Prop := (∀ a, a ≠ m → a < m + 6 ∨ m + 13 ≤ a → J a = I a) ∧ (∀ k, k ≠ 17 → J m k = I m k) ∧ J m 17 = nI (pln g (qg g).1 k).2.1 ∧ (∀ j, j < (pln g (qg g).1 k).2.1 → J (m + 9) j = nI ((pln g (qg g).1 k).2.2.1 j)) ∧ (∀ o, o < 10 → J (m + 10) o = ptn g (qg g).1 k o) ∧ (∀ o, o < 10 → J (m + 11) o = (if sk (qg g).1 (k + 1) o = true then nI 1 else nI 0)) ∧ ∀ t, t < 6 → ∀ j, j < 16 → J (m + 12) (16 * t + j) = nI ((pln g (qg g).1 k).1 t j)
theorem PA.start {m : Nat} {g : BqG} {I : BqI} : PA m g I (bq_u I m 17 (nI 0)) 0 := ⟨fun a h _ => bq_u_ne h, fun k h => bq_u_no (fun q => h q.2), bq_u_at _ _ _ _, fun _ h => absurd h (Nat.not_lt_zero _)⟩
theorem PA.step {m i : Nat} {g : BqG} {I J : BqI} (h : PA m g I J i) : PA m g I (bq_u (bq_u J (m + 10) i (-5)) (m + 11) i (nI 0)) (i + 1) := by
  refine ⟨fun a h1 h2 => ?_, fun k hk => ?_, ?_, fun o ho => ?_⟩
  · rw [bq_u_ne (by omega), bq_u_ne (by omega)]; exact h.1 a h1 h2
  · rw [bq_u_ne (by omega), bq_u_ne (by omega)]; exact h.2.1 k hk
  · rw [bq_u_ne (by omega), bq_u_ne (by omega)]; exact h.2.2.1
  · rw [bq_u_ne (show m + 10 ≠ m + 11 by omega)]
    by_cases c : o = i
    · subst c; rw [bq_u_at, bq_u_at]; exact ⟨rfl, rfl⟩
    · rw [bq_u_no (by omega), bq_u_no (by omega), bq_u_ne (by omega)]; exact h.2.2.2 o (by omega)
theorem PA.start' {m : Nat} {g : BqG} {I J : BqI} (h : PA m g I J 10) : PB m g I J 0 := ⟨h, fun _ h => absurd h (Nat.not_lt_zero _)⟩
theorem PB.step {m i en : Nat} {g : BqG} {I J : BqI} (h : PB m g I J i) (hG : GI g en) (hg : I (m + 1) = g) (hi : i < 96) : PB m g I (bq_u J (m + 12) i (J (m + 1) (13 + 19 * (i / 16) + i % 16))) (i + 1) := by
  refine ⟨⟨fun a h1 h2 => ?_, fun k hk => ?_, ?_, fun o ho => ?_⟩, fun q hq => ?_⟩
  · rw [bq_u_ne (by omega)]; exact h.1.1 a h1 h2
  · rw [bq_u_ne (by omega)]; exact h.1.2.1 k hk
  · rw [bq_u_ne (by omega)]; exact h.1.2.2.1
  · rw [bq_u_ne (by omega), bq_u_ne (by omega)]; exact h.1.2.2.2 o ho
  · by_cases c : q = i
    · subst c
      rw [bq_u_at, h.1.1 _ (by omega) (by omega), hg]
      exact hG.p (by omega) _ (by omega)
    · rw [bq_u_no (by omega)]; exact h.2 q (by omega)
theorem PB.start {m : Nat} {g : BqG} {I J : BqI} (h : PB m g I J 96) : PJ m g I J 0 :=
  ⟨h.1.1, h.1.2.1, h.1.2.2.1, fun _ q => absurd q (Nat.not_lt_zero _), fun o ho => (h.1.2.2.2 o ho).1, fun o ho => by rw [(h.1.2.2.2 o ho).2]; exact (if_neg (fun z => Bool.noConfusion (show false = true from z))).symm, fun t ht j hj => by
    rw [h.2 (16 * t + j) (by omega), show (16 * t + j) / 16 = t by omega, show (16 * t + j) % 16 = j by omega]; rfl⟩
theorem PJ.sn {m k : Nat} {g : BqG} {I J : BqI} (h : PJ m g I J k) : ∀ o, o < 10 → J (m + 11) o = (if sk (qg g).1 k o = true then nI 1 else nI 0) := h.2.2.2.2.2.1
theorem PJ.g {m k : Nat} {g : BqG} {I J : BqI} (h : PJ m g I J k) (hg : I (m + 1) = g) : J (m + 1) = g := (h.1 _ (by omega) (by omega)).trans hg
theorem PJ2.g {m k : Nat} {g : BqG} {I J : BqI} (h : PJ2 m g I J k) (hg : I (m + 1) = g) : J (m + 1) = g := (h.1 _ (by omega) (by omega)).trans hg
theorem PJ2.mk {m k : Nat} {g : BqG} {I J I2 : BqI} (h : PJ m g I J k) (f : ∀ a, a ≠ m + 6 → I2 a = bq_u J (m + 11) ((qg g).1 k) (nI 1) a) : PJ2 m g I I2 k := by
  have f1 : ∀ a, a ≠ m + 6 → a ≠ m + 11 → I2 a = J a := fun a h1 h2 => (f a h1).trans (bq_u_ne h2)
  refine ⟨fun a h1 h2 => ?_, fun q hq => ?_, ?_, fun j hj => ?_, fun o ho => ?_, fun o ho => ?_, fun t ht j hj => ?_⟩
  · rw [f1 a (by omega) (by omega)]; exact h.1 a h1 h2
  · rw [f1 m (by omega) (by omega)]; exact h.2.1 q hq
  · rw [f1 m (by omega) (by omega)]; exact h.2.2.1
  · rw [f1 _ (by omega) (by omega)]; exact h.2.2.2.1 j hj
  · rw [f1 _ (by omega) (by omega)]; exact h.2.2.2.2.1 o ho
  · rw [f (m + 11) (by omega)]
    show _ = (if (sk (qg g).1 k o || decide ((qg g).1 k = o)) = true then nI 1 else nI 0)
    by_cases c : o = (qg g).1 k
    · subst c; rw [bq_u_at]; simp
    · rw [bq_u_no (fun q => c q.2), h.2.2.2.2.2.1 o ho, decide_eq_false (fun q => c q.symm), Bool.or_false]
  · rw [f1 _ (by omega) (by omega)]; exact h.2.2.2.2.2.2 t ht j hj
theorem ptn_n {g : BqG} {k : Nat} (hb : bt g ((qg g).1 k) (pln g (qg g).1 k).1 6 = none) : ptn g (qg g).1 (k + 1) = ptn g (qg g).1 k := by
  show (match bt g ((qg g).1 k) (pln g (qg g).1 k).1 6 with | none => ptn g (qg g).1 k | some t => bq_r (ptn g (qg g).1 k) ((qg g).1 k) (nI t)) = _
  rw [hb]
theorem ptn_s {g : BqG} {k t : Nat} (hb : bt g ((qg g).1 k) (pln g (qg g).1 k).1 6 = some t) : ptn g (qg g).1 (k + 1) = bq_r (ptn g (qg g).1 k) ((qg g).1 k) (nI t) := by
  show (match bt g ((qg g).1 k) (pln g (qg g).1 k).1 6 with | none => ptn g (qg g).1 k | some t => bq_r (ptn g (qg g).1 k) ((qg g).1 k) (nI t)) = _
  rw [hb]
theorem PJ2.none {m k : Nat} {g : BqG} {I J : BqI} (h : PJ2 m g I J k) (hb : bt g ((qg g).1 k) (pln g (qg g).1 k).1 6 = none) : PJ m g I J (k + 1) := by
  unfold PJ
  rw [pst_n hb, ptn_n hb]
  exact h
theorem PJ2.some {m k t : Nat} {g : BqG} {I J I3 I4 I5 I6 : BqI} (h : PJ2 m g I J k) (hb : bt g ((qg g).1 k) (pln g (qg g).1 k).1 6 = some t) (ht : t < 6) (_ : (qg g).1 k < 10) (e3 : I3 = bq_u (bq_u (bq_u J (m + 10) ((qg g).1 k) (nI t)) (m + 9) (pln g (qg g).1 k).2.1 (nI ((qg g).1 k))) m 17 (nI ((pln g (qg g).1 k).2.1 + 1))) (u4 : ∀ a, a ≠ m + 6 → I4 a = I3 a) (f5 : ∀ a, a ≠ m + 7 → a ≠ m + 8 → I5 a = I4 a) (t5 : ∀ j, j < 16 → I5 (m + 7) j = nI (npt ((pln g (qg g).1 k).1 t) (gn g (205 + 9 * (qg g).1 k)) j)) (e6 : I6 = fl I5 (m + 12) (fun j => 16 * t + j) (fun j => I5 (m + 12) (16 * t + j) - I5 (m + 7) j) 16) (hle : ∀ j, j < 16 → nqq ((pln g (qg g).1 k).1 t) (gn g (205 + 9 * (qg g).1 k)) j ≤ npt ((pln g (qg g).1 k).1 t) (gn g (205 + 9 * (qg g).1 k)) j ∧ npt ((pln g (qg g).1 k).1 t) (gn g (205 + 9 * (qg g).1 k)) j ≤ (pln g (qg g).1 k).1 t j ∧ npt ((pln g (qg g).1 k).1 t) (gn g (205 + 9 * (qg g).1 k)) j ≤ nqq ((pln g (qg g).1 k).1 t) (gn g (205 + 9 * (qg g).1 k)) j + 1) : PJ m g I I6 (k + 1) := by
  have f : ∀ a, a ≠ m + 6 → a ≠ m + 7 → a ≠ m + 8 → a ≠ m + 12 → I6 a = I3 a := fun a h1 h2 h3 h4 => by rw [e6, fl_ne h4 16, f5 a h2 h3, u4 a h1]
  have f12 : ∀ t', t' < 6 → ∀ j, j < 16 → I5 (m + 12) (16 * t' + j) = nI ((pln g (qg g).1 k).1 t' j) := fun t' ht' j hj => by
    rw [f5 _ (by omega) (by omega), u4 _ (by omega), e3, bq_u_ne (by omega), bq_u_ne (by omega), bq_u_ne (by omega)]; exact h.2.2.2.2.2.2 t' ht' j hj
  unfold PJ
  rw [pst_s hb, ptn_s hb]
  refine ⟨fun a h1 h2 => ?_, fun q hq => ?_, ?_, fun j hj => ?_, fun o ho => ?_, fun o ho => ?_, fun t' ht' j hj => ?_⟩
  · rw [f a (by omega) (by omega) (by omega) (by omega), e3, bq_u_ne (by omega), bq_u_ne (by omega), bq_u_ne (by omega)]; exact h.1 a h1 h2
  · rw [f m (by omega) (by omega) (by omega) (by omega), e3, bq_u_no (fun z => hq z.2), bq_u_ne (by omega), bq_u_ne (by omega)]; exact h.2.1 q hq
  · rw [f m (by omega) (by omega) (by omega) (by omega), e3]; exact bq_u_at _ _ _ _
  · have hj : j < (pln g (qg g).1 k).2.1 + 1 := hj
    rw [f _ (by omega) (by omega) (by omega) (by omega), e3, bq_u_ne (by omega)]
    show _ = nI (bq_r (pln g (qg g).1 k).2.2.1 (pln g (qg g).1 k).2.1 ((qg g).1 k) j)
    by_cases c : j = (pln g (qg g).1 k).2.1
    · subst c; rw [bq_r_self]; exact bq_u_at _ _ _ _
    · rw [bq_r_ne c, bq_u_no (by omega), bq_u_ne (by omega)]; exact h.2.2.2.1 j (by omega)
  · rw [f _ (by omega) (by omega) (by omega) (by omega), e3, bq_u_ne (by omega), bq_u_ne (by omega)]
    by_cases c : o = (qg g).1 k
    · subst c; rw [bq_r_self]; exact bq_u_at _ _ _ _
    · rw [bq_r_ne c, bq_u_no (fun q => c q.2)]; exact h.2.2.2.2.1 o ho
  · rw [f _ (by omega) (by omega) (by omega) (by omega), e3, bq_u_ne (by omega), bq_u_ne (by omega), bq_u_ne (by omega)]; exact h.2.2.2.2.2.1 o ho
  · show _ = nI (bq_r (pln g (qg g).1 k).1 t _ t' j)
    by_cases c : t' = t
    · subst c
      rw [bq_r_self, e6]
      refine (fl_at (I := I5) (d := m + 12) (ix := fun j => 16 * t' + j) (v := fun j => I5 (m + 12) (16 * t' + j) - I5 (m + 7) j) (j := j) 16 (fun a b _ _ h => by first | omega | (dsimp only at h; omega)) hj).trans ?_
      show I5 (m + 12) (16 * t' + j) - I5 (m + 7) j = _
      rw [f12 t' ht j hj, t5 j hj, pk_sub (hle j hj).2.1]
    · rw [bq_r_ne c, e6, fl_no 16 (fun q hq e => by first | omega | (dsimp only at e; omega))]
      exact f12 t' ht' j hj
set_option maxHeartbeats 4820000 in
set_option maxRecDepth 20000 in
theorem c_plans {S : BqH} {n : Nat} {I : BqI} {L : BqL} {P : BqP} {m : Nat} {g : BqG} (hm : oModel S n P m) (hg : I (m + 1) = g) {en : Nat} (hG : GI g en) : bq_Sp mX12_plans 6 122 0 0 [.ref m] S n I L P (qPl m g I S n L P) := by
  refine q_entry (vs := [some (.ref m), none, none, none]) (by decide +kernel) (by simp) (Nat.le_of_ble_eq_true rfl) rfl ?_
  have hqk := qq_ok (kk g) (fun o => decide (g (208 + 9 * o) = 0)) (gn g 2)
  have hc2 : gn g 2 ≤ 10 := hG.2.2.2.1
  have hnl : (qg g).2 ≤ gn g 2 := hqk.2.2.2
  have hQl : ∀ j, j < (qg g).2 → (qg g).1 j < gn g 2 := fun j hj => (hqk.2.1 j hj).1
  have hP := pln_ok hG (qg g).1 (qg g).2 (gn g 2) hQl hc2 (fun j hj => (hG.o (o := (qg g).1 j) (by have := hQl j hj; omega)).2.1 (hQl j hj))
  have hnx : ∀ k, k ≤ (qg g).2 → nxt (kk g) (fun o => decide (g (208 + 9 * o) = 0) && !sk (qg g).1 k o) (gn g 2) = if k < (qg g).2 then some ((qg g).1 k) else none := fun k hk => nxt_q hqk hk (fun o _ => by simp [sk_iff])
  have l2 : ∀ k, k ≤ (qg g).2 → ∀ (J : BqI) (v2 v3 : Option Value), PJ m g I J k → bq_W mX12_plans 6 122 0 0 74 [some (.ref m), some (.int (rn (if k < (qg g).2 then some ((qg g).1 k) else none))), v2, v3] [] S n J L P (qPl m g I S n L P) := by
    refine bq_down (A := fun k => ∀ (J : BqI) (v2 v3 : Option Value), PJ m g I J k → bq_W mX12_plans 6 122 0 0 74 [some (.ref m), some (.int (rn (if k < (qg g).2 then some ((qg g).1 k) else none))), v2, v3] [] S n J L P (qPl m g I S n L P)) (qg g).2 ?_ ?_
    · intro J v2 v3 hJ
      rw [if_neg (Nat.lt_irrefl _), show rn none = (-1) from rfl]
      refine q_iload_n (pc := 74) dX12_plans_74 rfl rfl ?_
      refine q_iconst (pc := 75) (v := (-1)) dX12_plans_75 (by decide) ?_
      refine q_icmp_eq (pc := 76) 181 dX12_plans_76 (by decide) (fun c_76 => ?_) (fun c_76 => (c_76 rfl).elim)
      exact q_vret (st := []) (pc := 181) dX12_plans_181 rfl ⟨rfl, rfl, rfl, rfl, rfl, hJ.1, hJ.2.1, hJ.2.2.1, hJ.2.2.2.1, hJ.2.2.2.2.1⟩
    · intro k hk ih J v2 v3 hJ
      rw [if_pos hk, show rn (some ((qg g).1 k)) = nI ((qg g).1 k) from rfl]
      have hQ10 : (qg g).1 k < 10 := by have := hQl k hk; omega
      obtain ⟨o1, o2, -⟩ := hG.o hQ10
      have o2 := o2 (hQl k hk)
      have hl : g (205 + 9 * (qg g).1 k) = nI (gn g (205 + 9 * (qg g).1 k)) := hG.n (by omega) (by omega)
      obtain ⟨p1, p2, p3⟩ := hP k (by omega)
      have hgJ : J (m + 1) = g := by rw [hJ.1 _ (by omega) (by omega)]; exact hg
      cases hb : bt g ((qg g).1 k) (pln g (qg g).1 k).1 6 with
      | none =>
        refine q_iload_n (pc := 74) dX12_plans_74 rfl rfl ?_
        refine q_iconst (pc := 75) (v := (-1)) dX12_plans_75 (by decide) ?_
        refine q_icmp_eq (pc := 76) 181 dX12_plans_76 (by decide) (fun c_76 => (rn_ne (by omega) c_76).elim) (fun c_76 => ?_)
        refine q_aload_n (pc := 79) dX12_plans_79 rfl rfl ?_
        refine q_getP (pc := 80) dX12_plans_80 fX12_40 (Model_sh hm) ⟨by decide, rfl⟩ (Model_lt hm) (Model_p_wasSeen hm) ?_
        refine q_iload_n (pc := 83) dX12_plans_83 rfl rfl ?_
        refine q_iconst (pc := 84) (v := nI 1) dX12_plans_84 (by decide) ?_
        refine q_bast (pc := 85) dX12_plans_85 (oZ_sh (Model_s_wasSeen hm)) (oZ_lt (Model_s_wasSeen hm)) rfl hQ10 (Or.inr (by decide)) ?_
        refine q_aload_n (pc := 86) dX12_plans_86 rfl rfl ?_
        refine q_iload_n (pc := 87) dX12_plans_87 rfl rfl ?_
        refine q_callV (pc := 88) dX12_plans_88 kX12_166 (c_X12_tankFor hm (show (bq_u J (m + 11) ((qg g).1 k) (nI 1)) (m + 1) = g from by rw [bq_u_ne (by omega)]; exact hgJ) hG (F := (pln g (qg g).1 k).1) hQ10 o2 (fun t ht j hj => by rw [bq_u_ne (by omega)]; exact hJ.2.2.2.2.2.2 t ht j hj) p1) (Model_sh hm) rfl (Model_lt hm) ⟨Nat.le_of_ble_eq_true rfl, Nat.le_of_ble_eq_true rfl⟩ rfl rfl (Nat.le_of_ble_eq_true rfl) ?_
        rintro _ S2 n2 I2 L2 P2 ⟨rfl, eS2, en2, eL2, eP2, f2⟩
        subst S2 n2 L2 P2
        show bq_W _ _ _ _ _ 91 _ [_] _ _ _ _ _ _
        have hJ2 : PJ2 m g I I2 k := PJ2.mk hJ f2
        rw [hb]
        refine q_istore_n (pc := 91) dX12_plans_91 rfl (Nat.le_of_ble_eq_true rfl) rfl ?_
        show bq_W _ _ _ _ _ 92 [_, _, _, _] _ _ _ _ _ _ _
        refine q_iload_n (pc := 92) dX12_plans_92 rfl rfl ?_
        refine q_iconst (pc := 93) (v := (-1)) dX12_plans_93 (by decide) ?_
        refine q_icmp_eq (pc := 94) 173 dX12_plans_94 (by decide) (fun c_94 => ?_) (fun c_94 => (c_94 rfl).elim)
        have hJ3 : PJ m g I I2 (k + 1) := hJ2.none hb
        refine q_aload_n (pc := 173) dX12_plans_173 rfl rfl ?_
        refine q_callVF (pc := 174) dX12_plans_174 kX12_163 (c_X12_nextOrder hm (hJ3.g hg) hG hJ3.sn (fun _ => rfl)) (Model_sh hm) rfl (Model_lt hm) ⟨Nat.le_of_ble_eq_true rfl, Nat.le_of_ble_eq_true rfl⟩ rfl rfl (Nat.le_of_ble_eq_true rfl) ?_
        show bq_W _ _ _ _ _ 177 _ [_] _ _ _ _ _ _
        rw [hnx (k + 1) hk]
        refine q_istore_n (pc := 177) dX12_plans_177 rfl (Nat.le_of_ble_eq_true rfl) rfl ?_
        show bq_W _ _ _ _ _ 178 [_, _, _, _] _ _ _ _ _ _ _
        refine q_goto (pc := 178) 74 dX12_plans_178 (by decide) ?_
        exact ih _ _ _ hJ3
      | some t =>
        obtain ⟨ht6, hfit⟩ := bt_ok hb
        obtain ⟨f1, -, -⟩ := fit_d hfit
        have hpos : 0 < ns ((pln g (qg g).1 k).1 t) 16 := by omega
        have htb := p1 t ht6
        refine q_iload_n (pc := 74) dX12_plans_74 rfl rfl ?_
        refine q_iconst (pc := 75) (v := (-1)) dX12_plans_75 (by decide) ?_
        refine q_icmp_eq (pc := 76) 181 dX12_plans_76 (by decide) (fun c_76 => (rn_ne (by omega) c_76).elim) (fun c_76 => ?_)
        refine q_aload_n (pc := 79) dX12_plans_79 rfl rfl ?_
        refine q_getP (pc := 80) dX12_plans_80 fX12_40 (Model_sh hm) ⟨by decide, rfl⟩ (Model_lt hm) (Model_p_wasSeen hm) ?_
        refine q_iload_n (pc := 83) dX12_plans_83 rfl rfl ?_
        refine q_iconst (pc := 84) (v := nI 1) dX12_plans_84 (by decide) ?_
        refine q_bast (pc := 85) dX12_plans_85 (oZ_sh (Model_s_wasSeen hm)) (oZ_lt (Model_s_wasSeen hm)) rfl hQ10 (Or.inr (by decide)) ?_
        refine q_aload_n (pc := 86) dX12_plans_86 rfl rfl ?_
        refine q_iload_n (pc := 87) dX12_plans_87 rfl rfl ?_
        refine q_callV (pc := 88) dX12_plans_88 kX12_166 (c_X12_tankFor hm (show (bq_u J (m + 11) ((qg g).1 k) (nI 1)) (m + 1) = g from by rw [bq_u_ne (by omega)]; exact hgJ) hG (F := (pln g (qg g).1 k).1) hQ10 o2 (fun t ht j hj => by rw [bq_u_ne (by omega)]; exact hJ.2.2.2.2.2.2 t ht j hj) p1) (Model_sh hm) rfl (Model_lt hm) ⟨Nat.le_of_ble_eq_true rfl, Nat.le_of_ble_eq_true rfl⟩ rfl rfl (Nat.le_of_ble_eq_true rfl) ?_
        rintro _ S2 n2 I2 L2 P2 ⟨rfl, eS2, en2, eL2, eP2, f2⟩
        subst S2 n2 L2 P2
        show bq_W _ _ _ _ _ 91 _ [_] _ _ _ _ _ _
        have hJ2 : PJ2 m g I I2 k := PJ2.mk hJ f2
        rw [hb]
        rw [show rn (some t) = nI t from rfl]
        refine q_istore_n (pc := 91) dX12_plans_91 rfl (Nat.le_of_ble_eq_true rfl) rfl ?_
        show bq_W _ _ _ _ _ 92 [_, _, _, _] _ _ _ _ _ _ _
        refine q_iload_n (pc := 92) dX12_plans_92 rfl rfl ?_
        refine q_iconst (pc := 93) (v := (-1)) dX12_plans_93 (by decide) ?_
        refine q_icmp_eq (pc := 94) 173 dX12_plans_94 (by decide) (fun c_94 => (rn_ne (by omega) c_94).elim) (fun c_94 => ?_)
        refine q_aload_n (pc := 97) dX12_plans_97 rfl rfl ?_
        refine q_getP (pc := 98) dX12_plans_98 fX12_37 (Model_sh hm) ⟨by decide, rfl⟩ (Model_lt hm) (Model_p_planTank hm) ?_
        refine q_iload_n (pc := 101) dX12_plans_101 rfl rfl ?_
        refine q_iload_n (pc := 102) dX12_plans_102 rfl rfl ?_
        refine q_iast (pc := 103) dX12_plans_103 (oA_sh (Model_s_planTank hm)) (oA_lt (Model_s_planTank hm)) rfl hQ10 ?_
        refine q_aload_n (pc := 104) dX12_plans_104 rfl rfl ?_
        refine q_getP (pc := 105) dX12_plans_105 fX12_34 (Model_sh hm) ⟨by decide, rfl⟩ (Model_lt hm) (Model_p_plannedRow hm) ?_
        refine q_aload_n (pc := 108) dX12_plans_108 rfl rfl ?_
        refine q_getI (pc := 109) dX12_plans_109 fX12_160 (Model_sh hm) ⟨by decide, rfl⟩ (Model_lt hm) ?_
        rw [show bq_u I2 (m + 10) ((qg g).1 k) (nI t) m 17 = nI (pln g (qg g).1 k).2.1 from by rw [bq_u_ne (by omega)]; exact hJ2.2.2.1]
        refine q_iload_n (pc := 112) dX12_plans_112 rfl rfl ?_
        refine q_iast (pc := 113) dX12_plans_113 (oA_sh (Model_s_plannedRow hm)) (oA_lt (Model_s_plannedRow hm)) rfl (show _ < 10 by omega) ?_
        refine q_aload_n (pc := 114) dX12_plans_114 rfl rfl ?_
        refine q_dup (pc := 115) dX12_plans_115 rfl ?_
        refine q_getI (pc := 116) dX12_plans_116 fX12_160 (Model_sh hm) ⟨by decide, rfl⟩ (Model_lt hm) ?_
        rw [show bq_u (bq_u I2 (m + 10) ((qg g).1 k) (nI t)) (m + 9) (pln g (qg g).1 k).2.1 (nI ((qg g).1 k)) m 17 = nI (pln g (qg g).1 k).2.1 from by rw [bq_u_ne (by omega), bq_u_ne (by omega)]; exact hJ2.2.2.1]
        refine q_iconst (pc := 119) (v := nI 1) dX12_plans_119 (by decide) ?_
        refine q_iaddN (pc := 120) dX12_plans_120 ?_
        refine q_putI (pc := 121) dX12_plans_121 (pX12_160 _) (Model_sh hm) ⟨by decide, rfl⟩ (Model_lt hm) ?_
        refine q_nameI (fun I3 e3 => ?_)
        have hp3 : ∀ t, t < 6 → ∀ j, j < 16 → I3 (m + 12) (16 * t + j) = nI ((pln g (qg g).1 k).1 t j) := fun t ht j hj => by rw [e3, bq_u_ne (by omega), bq_u_ne (by omega), bq_u_ne (by omega)]; exact hJ2.2.2.2.2.2.2 t ht j hj
        refine q_aload_n (pc := 124) dX12_plans_124 rfl rfl ?_
        refine q_iload_n (pc := 125) dX12_plans_125 rfl rfl ?_
        refine q_callVF (pc := 126) dX12_plans_126 kX12_157 (c_X12_looksAtPlan hm (t := t) (by omega)) (Model_sh hm) rfl (Model_lt hm) ⟨Nat.le_of_ble_eq_true rfl, Nat.le_of_ble_eq_true rfl⟩ rfl rfl (Nat.le_of_ble_eq_true rfl) ?_
        show bq_W _ _ _ _ _ 129 _ [] _ _ _ _ _ _
        refine q_nameI (fun I4 e4 => ?_)
        have u4 : ∀ a, a ≠ m + 6 → I4 a = I3 a := fun a ha => by rw [e4]; exact fl_ne ha 16
        have h6 : ∀ j, j < 16 → I4 (m + 6) j = nI ((pln g (qg g).1 k).1 t j) := fun j hj => by rw [e4]; exact (fl_at (I := I3) (d := m + 6) (ix := fun j => j) (v := fun j => I3 (m + 12) (16 * t + j)) (j := j) 16 (fun a b _ _ h => h) hj).trans (hp3 t ht6 j hj)
        have hg4 : I4 (m + 1) = g := by rw [u4 _ (by omega), e3, bq_u_ne (by omega), bq_u_ne (by omega), bq_u_ne (by omega)]; exact hJ2.g hg
        refine q_aload_n (pc := 129) dX12_plans_129 rfl rfl ?_
        refine q_aload_n (pc := 130) dX12_plans_130 rfl rfl ?_
        refine q_iload_n (pc := 131) dX12_plans_131 rfl rfl ?_
        refine q_iconst (pc := 132) (v := nI 1) dX12_plans_132 (by decide) ?_
        refine q_callVF (pc := 133) dX12_plans_133 kX12_118 (c_oA hm (o := ((qg g).1 k)) (k := 1) (j := 205 + 9 * ((qg g).1 k)) (by omega) (by omega)) (Model_sh hm) rfl (Model_lt hm) ⟨Nat.le_of_ble_eq_true rfl, Nat.le_of_ble_eq_true rfl⟩ rfl rfl (Nat.le_of_ble_eq_true rfl) ?_
        show bq_W _ _ _ _ _ 136 _ [_, _] _ _ _ _ _ _
        rw [hg4, hl]
        refine q_callV (pc := 136) dX12_plans_136 kX12_109 (c_X12_takes hm h6 f1 hpos htb) (Model_sh hm) rfl (Model_lt hm) ⟨Nat.le_of_ble_eq_true rfl, Nat.le_of_ble_eq_true rfl⟩ rfl rfl (Nat.le_of_ble_eq_true rfl) ?_
        rintro _ S5 n5 I5 L5 P5 ⟨rfl, eS5, en5, eL5, eP5, f5, t5⟩
        subst S5 n5 L5 P5
        show bq_W _ _ _ _ _ 139 _ [] _ _ _ _ _ _
        refine q_iconst (pc := 139) (v := nI 0) dX12_plans_139 (by decide) ?_
        refine q_istore_n (pc := 140) dX12_plans_140 rfl (Nat.le_of_ble_eq_true rfl) rfl ?_
        show bq_W _ _ _ _ _ 141 [_, _, _, _] _ _ _ _ _ _ _
        have lp : ∀ i, i ≤ 16 → bq_W mX12_plans 6 122 0 0 141 [some (.ref m), some (.int (nI ((qg g).1 k))), some (.int (nI t)), some (.int (nI i))] [] S n (fl I5 (m + 12) (fun j => 16 * t + j) (fun j => I5 (m + 12) (16 * t + j) - I5 (m + 7) j) i) L P (qPl m g I S n L P) := by
          refine bq_down (A := fun i => bq_W mX12_plans 6 122 0 0 141 [some (.ref m), some (.int (nI ((qg g).1 k))), some (.int (nI t)), some (.int (nI i))] [] S n (fl I5 (m + 12) (fun j => 16 * t + j) (fun j => I5 (m + 12) (16 * t + j) - I5 (m + 7) j) i) L P (qPl m g I S n L P)) 16 ?_ ?_
          · refine q_iload_n (pc := 141) dX12_plans_141 rfl rfl ?_
            refine q_bipush (pc := 142) (v := nI 16) dX12_plans_142 (by decide) ?_
            refine q_icmp_ge (pc := 144) 173 dX12_plans_144 (by decide) (fun c_144 => ?_) (fun c_144 => absurd (by decide) c_144)
            refine q_nameI (fun I6 e6 => ?_)
            have hJ3 : PJ m g I I6 (k + 1) := hJ2.some hb ht6 hQ10 e3 u4 f5 t5 e6 (npt_in f1 hpos).1
            refine q_aload_n (pc := 173) dX12_plans_173 rfl rfl ?_
            refine q_callVF (pc := 174) dX12_plans_174 kX12_163 (c_X12_nextOrder hm (hJ3.g hg) hG hJ3.sn (fun _ => rfl)) (Model_sh hm) rfl (Model_lt hm) ⟨Nat.le_of_ble_eq_true rfl, Nat.le_of_ble_eq_true rfl⟩ rfl rfl (Nat.le_of_ble_eq_true rfl) ?_
            show bq_W _ _ _ _ _ 177 _ [_] _ _ _ _ _ _
            rw [hnx (k + 1) hk]
            refine q_istore_n (pc := 177) dX12_plans_177 rfl (Nat.le_of_ble_eq_true rfl) rfl ?_
            show bq_W _ _ _ _ _ 178 [_, _, _, _] _ _ _ _ _ _ _
            refine q_goto (pc := 178) 74 dX12_plans_178 (by decide) ?_
            exact ih _ _ _ hJ3
          · intro i hi ih
            refine q_iload_n (pc := 141) dX12_plans_141 rfl rfl ?_
            refine q_bipush (pc := 142) (v := nI 16) dX12_plans_142 (by decide) ?_
            refine q_icmp_ge (pc := 144) 173 dX12_plans_144 (by decide) (fun c_144 => absurd c_144 (nI_ge hi (by decide))) (fun c_144 => ?_)
            refine q_aload_n (pc := 147) dX12_plans_147 rfl rfl ?_
            refine q_getP (pc := 148) dX12_plans_148 fX12_44 (Model_sh hm) ⟨by decide, rfl⟩ (Model_lt hm) (Model_p_planned hm) ?_
            refine q_bipush (pc := 151) (v := nI 16) dX12_plans_151 (by decide) ?_
            refine q_iload_n (pc := 153) dX12_plans_153 rfl rfl ?_
            refine q_imulN (pc := 154) dX12_plans_154 ?_
            refine q_iload_n (pc := 155) dX12_plans_155 rfl rfl ?_
            refine q_iaddN (pc := 156) dX12_plans_156 ?_
            refine q_dup2 (pc := 157) dX12_plans_157 rfl rfl ?_
            refine q_iald (pc := 158) dX12_plans_158 (oA_sh (Model_s_planned hm)) (oA_lt (Model_s_planned hm)) rfl (by omega) ?_
            refine q_aload_n (pc := 159) dX12_plans_159 rfl rfl ?_
            refine q_getP (pc := 160) dX12_plans_160 fX12_28 (Model_sh hm) ⟨by decide, rfl⟩ (Model_lt hm) (Model_p_taken hm) ?_
            refine q_iload_n (pc := 163) dX12_plans_163 rfl rfl ?_
            refine q_iald (pc := 164) dX12_plans_164 (oA_sh (Model_s_taken hm)) (oA_lt (Model_s_taken hm)) rfl (by omega) ?_
            rw [fl_no i (fun q hq => by omega), fl_ne (show m + 7 ≠ m + 12 by omega) i]
            refine q_isub (pc := 165) dX12_plans_165 ?_
            refine q_iast (pc := 166) dX12_plans_166 (oA_sh (Model_s_planned hm)) (oA_lt (Model_s_planned hm)) rfl (by omega) ?_
            refine q_iinc (pc := 167) (v := nI (i + 1)) dX12_plans_167 rfl (bq_inc _) (Nat.le_of_ble_eq_true rfl) rfl ?_
            show bq_W _ _ _ _ _ 170 [_, _, _, _] _ _ _ _ _ _ _
            refine q_goto (pc := 170) 141 dX12_plans_170 (by decide) ?_
            exact ih
        exact lp 0 (by decide)
  have lb : ∀ i, i ≤ 96 → ∀ J : BqI, PB m g I J i → bq_W mX12_plans 6 122 0 0 36 [some (.ref m), some (.int (nI i)), none, none] [] S n J L P (qPl m g I S n L P) := by
    refine bq_down (A := fun i => ∀ J : BqI, PB m g I J i → bq_W mX12_plans 6 122 0 0 36 [some (.ref m), some (.int (nI i)), none, none] [] S n J L P (qPl m g I S n L P)) 96 ?_ ?_
    · intro J hJ
      refine q_iload_n (pc := 36) dX12_plans_36 rfl rfl ?_
      refine q_aload_n (pc := 37) dX12_plans_37 rfl rfl ?_
      refine q_getP (pc := 38) dX12_plans_38 fX12_44 (Model_sh hm) ⟨by decide, rfl⟩ (Model_lt hm) (Model_p_planned hm) ?_
      refine q_alen (pc := 41) dX12_plans_41 (oA_sh (Model_s_planned hm)) (by decide) (oA_lt (Model_s_planned hm)) ?_
      refine q_icmp_ge (pc := 42) 69 dX12_plans_42 (by decide) (fun c_42 => ?_) (fun c_42 => absurd (by decide) c_42)
      have hJ0 : PJ m g I J 0 := hJ.start
      refine q_aload_n (pc := 69) dX12_plans_69 rfl rfl ?_
      refine q_callVF (pc := 70) dX12_plans_70 kX12_163 (c_X12_nextOrder hm (hJ0.g hg) hG hJ0.sn (fun _ => rfl)) (Model_sh hm) rfl (Model_lt hm) ⟨Nat.le_of_ble_eq_true rfl, Nat.le_of_ble_eq_true rfl⟩ rfl rfl (Nat.le_of_ble_eq_true rfl) ?_
      show bq_W _ _ _ _ _ 73 _ [_] _ _ _ _ _ _
      rw [hnx 0 (Nat.zero_le _)]
      refine q_istore_n (pc := 73) dX12_plans_73 rfl (Nat.le_of_ble_eq_true rfl) rfl ?_
      show bq_W _ _ _ _ _ 74 [_, _, _, _] _ _ _ _ _ _ _
      exact l2 0 (Nat.zero_le _) _ _ _ hJ0
    · intro i hi ih J hJ
      refine q_iload_n (pc := 36) dX12_plans_36 rfl rfl ?_
      refine q_aload_n (pc := 37) dX12_plans_37 rfl rfl ?_
      refine q_getP (pc := 38) dX12_plans_38 fX12_44 (Model_sh hm) ⟨by decide, rfl⟩ (Model_lt hm) (Model_p_planned hm) ?_
      refine q_alen (pc := 41) dX12_plans_41 (oA_sh (Model_s_planned hm)) (by decide) (oA_lt (Model_s_planned hm)) ?_
      refine q_icmp_ge (pc := 42) 69 dX12_plans_42 (by decide) (fun c_42 => absurd c_42 (nI_ge hi (by decide))) (fun c_42 => ?_)
      refine q_aload_n (pc := 45) dX12_plans_45 rfl rfl ?_
      refine q_getP (pc := 46) dX12_plans_46 fX12_44 (Model_sh hm) ⟨by decide, rfl⟩ (Model_lt hm) (Model_p_planned hm) ?_
      refine q_iload_n (pc := 49) dX12_plans_49 rfl rfl ?_
      refine q_aload_n (pc := 50) dX12_plans_50 rfl rfl ?_
      refine q_iload_n (pc := 51) dX12_plans_51 rfl rfl ?_
      refine q_bipush (pc := 52) (v := nI 16) dX12_plans_52 (by decide) ?_
      refine q_idiv (pc := 54) dX12_plans_54 (nI_ne0 (by decide) (by decide)) ?_
      rw [pk_div (by omega) (by decide) (by decide)]
      refine q_iload_n (pc := 55) dX12_plans_55 rfl rfl ?_
      refine q_bipush (pc := 56) (v := nI 16) dX12_plans_56 (by decide) ?_
      refine q_irem (pc := 58) dX12_plans_58 (nI_ne0 (by decide) (by decide)) ?_
      rw [pk_rem (by omega) (by decide) (by decide)]
      refine q_callVF (pc := 59) dX12_plans_59 kX12_77 (c_X12_partAt hm (t := (i / 16)) (b := (i % 16)) (by omega)) (Model_sh hm) rfl (Model_lt hm) ⟨Nat.le_of_ble_eq_true rfl, Nat.le_of_ble_eq_true rfl⟩ rfl rfl (Nat.le_of_ble_eq_true rfl) ?_
      show bq_W _ _ _ _ _ 62 _ [_, _, _] _ _ _ _ _ _
      refine q_iast (pc := 62) dX12_plans_62 (oA_sh (Model_s_planned hm)) (oA_lt (Model_s_planned hm)) rfl hi ?_
      refine q_iinc (pc := 63) (v := nI (i + 1)) dX12_plans_63 rfl (bq_inc _) (Nat.le_of_ble_eq_true rfl) rfl ?_
      show bq_W _ _ _ _ _ 66 [_, _, _, _] _ _ _ _ _ _ _
      refine q_goto (pc := 66) 36 dX12_plans_66 (by decide) ?_
      exact ih _ (hJ.step hG hg hi)
  have la : ∀ i, i ≤ 10 → ∀ J : BqI, PA m g I J i → bq_W mX12_plans 6 122 0 0 7 [some (.ref m), some (.int (nI i)), none, none] [] S n J L P (qPl m g I S n L P) := by
    refine bq_down (A := fun i => ∀ J : BqI, PA m g I J i → bq_W mX12_plans 6 122 0 0 7 [some (.ref m), some (.int (nI i)), none, none] [] S n J L P (qPl m g I S n L P)) 10 ?_ ?_
    · intro J hJ
      refine q_iload_n (pc := 7) dX12_plans_7 rfl rfl ?_
      refine q_bipush (pc := 8) (v := nI 10) dX12_plans_8 (by decide) ?_
      refine q_icmp_ge (pc := 10) 34 dX12_plans_10 (by decide) (fun c_10 => ?_) (fun c_10 => absurd (by decide) c_10)
      refine q_iconst (pc := 34) (v := nI 0) dX12_plans_34 (by decide) ?_
      refine q_istore_n (pc := 35) dX12_plans_35 rfl (Nat.le_of_ble_eq_true rfl) rfl ?_
      show bq_W _ _ _ _ _ 36 [_, _, _, _] _ _ _ _ _ _ _
      exact lb 0 (Nat.zero_le _) _ hJ.start'
    · intro i hi ih J hJ
      refine q_iload_n (pc := 7) dX12_plans_7 rfl rfl ?_
      refine q_bipush (pc := 8) (v := nI 10) dX12_plans_8 (by decide) ?_
      refine q_icmp_ge (pc := 10) 34 dX12_plans_10 (by decide) (fun c_10 => absurd c_10 (nI_ge hi (by decide))) (fun c_10 => ?_)
      refine q_aload_n (pc := 13) dX12_plans_13 rfl rfl ?_
      refine q_getP (pc := 14) dX12_plans_14 fX12_37 (Model_sh hm) ⟨by decide, rfl⟩ (Model_lt hm) (Model_p_planTank hm) ?_
      refine q_iload_n (pc := 17) dX12_plans_17 rfl rfl ?_
      refine q_bipush (pc := 18) (v := (-5)) dX12_plans_18 (by decide) ?_
      refine q_iast (pc := 20) dX12_plans_20 (oA_sh (Model_s_planTank hm)) (oA_lt (Model_s_planTank hm)) rfl hi ?_
      refine q_aload_n (pc := 21) dX12_plans_21 rfl rfl ?_
      refine q_getP (pc := 22) dX12_plans_22 fX12_40 (Model_sh hm) ⟨by decide, rfl⟩ (Model_lt hm) (Model_p_wasSeen hm) ?_
      refine q_iload_n (pc := 25) dX12_plans_25 rfl rfl ?_
      refine q_iconst (pc := 26) (v := nI 0) dX12_plans_26 (by decide) ?_
      refine q_bast (pc := 27) dX12_plans_27 (oZ_sh (Model_s_wasSeen hm)) (oZ_lt (Model_s_wasSeen hm)) rfl hi (Or.inl (by decide)) ?_
      refine q_iinc (pc := 28) (v := nI (i + 1)) dX12_plans_28 rfl (bq_inc _) (Nat.le_of_ble_eq_true rfl) rfl ?_
      show bq_W _ _ _ _ _ 31 [_, _, _, _] _ _ _ _ _ _ _
      refine q_goto (pc := 31) 7 dX12_plans_31 (by decide) ?_
      exact ih _ hJ.step
  refine q_aload_n (pc := 0) dX12_plans_0 rfl rfl ?_
  refine q_iconst (pc := 1) (v := nI 0) dX12_plans_1 (by decide) ?_
  refine q_putI (pc := 2) dX12_plans_2 (pX12_160 _) (Model_sh hm) ⟨by decide, rfl⟩ (Model_lt hm) ?_
  refine q_iconst (pc := 5) (v := nI 0) dX12_plans_5 (by decide) ?_
  refine q_istore_n (pc := 6) dX12_plans_6 rfl (Nat.le_of_ble_eq_true rfl) rfl ?_
  show bq_W _ _ _ _ _ 7 [_, _, _, _] _ _ _ _ _ _ _
  exact la 0 (Nat.zero_le _) _ PA.start
