/-! putting by, counting, refusing -/
def Rot (P : BqP) (r k : Nat) (Q : BqP) : Prop := (∀ a, a ≠ r → Q a = P a) ∧ (∀ j, j < k → Q r j = P r (j + 1)) ∧ (∀ j, k ≤ j → Q r j = P r j)
theorem Rot.z {P : BqP} {r : Nat} : Rot P r 0 P := ⟨fun _ _ => rfl, fun _ h => absurd h (Nat.not_lt_zero _), fun _ _ => rfl⟩
theorem Rot.s {P Q : BqP} {r k q : Nat} (h : Rot P r k Q) (hq : P r (k + 1) = some q) : Rot P r (k + 1) (bq_u Q r k (some q)) := by
  refine ⟨fun a ha => (bq_u_ne ha).trans (h.1 a ha), fun j hj => ?_, fun j hj => ?_⟩
  · by_cases e : j = k
    · rw [e, bq_u_at, hq]
    · rw [bq_u_no (fun z => e z.2)]; exact h.2.1 j (by omega)
  · rw [bq_u_no (fun z => by omega)]; exact h.2.2 j (by omega)
def qRot (x : Nat) (v : Int32) (I : BqI) (L : BqL) (S : BqH) (n : Nat) (P : BqP) : BqQ := fun r S' n' I' L' P' => r = some (.int v) ∧ S' = S ∧ n' = n ∧ I' = I ∧ L' = L ∧ (∀ a, a ≠ x + 54 → P' a = P a) ∧ (∀ i, i < 7 → P' (x + 54) i = P (x + 54) (if i = 6 then 0 else i + 1))
theorem qRot.mk {x q : Nat} {v : Int32} {I : BqI} {L : BqL} {S : BqH} {n : Nat} {P Q : BqP} (h : Rot P (x + 54) 6 Q) (hq : P (x + 54) 0 = some q) : qRot x v I L S n P (some (.int v)) S n I L (bq_u Q (x + 54) 6 (some q)) := by
  refine ⟨rfl, rfl, rfl, rfl, rfl, fun a ha => (bq_u_ne ha).trans (h.1 a ha), fun i hi => ?_⟩
  by_cases e : i = 6
  · rw [if_pos e, e, bq_u_at, hq]
  · rw [if_neg e, bq_u_no (fun z => e z.2)]; exact h.2.1 i (by omega)
set_option maxHeartbeats 400000 in
set_option maxRecDepth 20000 in
theorem c_refuse {S : BqH} {n : Nat} {I : BqI} {L : BqL} {P : BqP} {x : Nat} (hx : oX S n P x) {v : Int32} : bq_Sp mX11_refuse 1 12 0 0 [.ref x, .int v] S n I L P (bq_F (some (.int (-3))) S n (bq_u I x 10 v) L P) := by
  refine q_entry (vs := [some (.ref x), some (.int v)]) (by decide +kernel) (by simp) (Nat.le_of_ble_eq_true rfl) rfl ?_
  refine q_aload_n (pc := 0) dX11_refuse_0 rfl rfl ?_
  refine q_iload_n (pc := 1) dX11_refuse_1 rfl rfl ?_
  refine q_putI (pc := 2) dX11_refuse_2 (pX11_62 _) (Cellar_sh hx) ⟨by decide, rfl⟩ (Cellar_lt hx) ?_
  refine q_bipush (pc := 5) (v := (-3)) dX11_refuse_5 (by decide) ?_
  exact q_iret (st := []) (pc := 7) dX11_refuse_7 rfl ⟨rfl, rfl, rfl, rfl, rfl, rfl⟩
set_option maxHeartbeats 400000 in
set_option maxRecDepth 20000 in
theorem c_putBy {S : BqH} {n : Nat} {I : BqI} {L : BqL} {P : BqP} {x : Nat} (hx : oX S n P x) {π : Nat → Nat} {ch : Nat} (hP : oPast S n P x π) (hc : I x 2 = nI ch) (hl : ch < 7) : bq_Sp mX11_putBy 5 124 0 0 [.ref x] S n I L P (bq_F (none) S n (st_cpI I (x + 165 + 53 * π ch) (x + 1)) (st_cpL L (x + 165 + 53 * π ch) (x + 1)) P) := by
  refine q_entry (vs := [some (.ref x)]) (by decide +kernel) (by simp) (Nat.le_of_ble_eq_true rfl) rfl ?_
  refine q_aload_n (pc := 0) dX11_putBy_0 rfl rfl ?_
  refine q_getP (pc := 1) dX11_putBy_1 fX11_16 (Cellar_sh hx) ⟨by decide, rfl⟩ (Cellar_lt hx) (Cellar_p_past hx) ?_
  refine q_aload_n (pc := 4) dX11_putBy_4 rfl rfl ?_
  refine q_getI (pc := 5) dX11_putBy_5 fX11_20 (Cellar_sh hx) ⟨by decide, rfl⟩ (Cellar_lt hx) ?_
  rw [hc]
  refine q_aald (pc := 8) dX11_putBy_8 (Cellarpast_sh hx) (by decide) (Cellarpast_lt hx) rfl hl (hP.1 _ hl).1 ?_
  refine q_aload_n (pc := 9) dX11_putBy_9 rfl rfl ?_
  refine q_getP (pc := 10) dX11_putBy_10 fX11_10 (Cellar_sh hx) ⟨by decide, rfl⟩ (Cellar_lt hx) (Cellar_p_state hx) ?_
  refine q_callVF (pc := 13) dX11_putBy_13 kX11_230 (c_X8_copyFrom (hP.2.2 _ (hP.1 _ hl).2) (Cellar_s_state hx)) (State_sh (hP.2.2 _ (hP.1 _ hl).2)) rfl (State_lt (hP.2.2 _ (hP.1 _ hl).2)) ⟨Nat.le_of_ble_eq_true rfl, Nat.le_of_ble_eq_true rfl⟩ rfl rfl (Nat.le_of_ble_eq_true rfl) ?_
  show bq_W _ _ _ _ _ 16 _ [] _ _ _ _ _ _
  exact q_vret (st := []) (pc := 16) dX11_putBy_16 rfl ⟨rfl, rfl, rfl, rfl, rfl, rfl⟩
set_option maxHeartbeats 400000 in
set_option maxRecDepth 20000 in
theorem c_changed_a {S : BqH} {n : Nat} {I : BqI} {L : BqL} {P : BqP} {x : Nat} (hx : oX S n P x) {v : Int32} {ch : Nat} (hc : I x 2 = nI ch) (hl : ch < 6) : bq_Sp mX11_changed 1 12 0 0 [.ref x, .int v] S n I L P (bq_F (some (.int v)) S n (bq_u I x 2 (nI (ch + 1))) L P) := by
  refine q_entry (vs := [some (.ref x), some (.int v), none, none]) (by decide +kernel) (by simp) (Nat.le_of_ble_eq_true rfl) rfl ?_
  refine q_aload_n (pc := 0) dX11_changed_0 rfl rfl ?_
  refine q_getI (pc := 1) dX11_changed_1 fX11_20 (Cellar_sh hx) ⟨by decide, rfl⟩ (Cellar_lt hx) ?_
  rw [hc]
  refine q_bipush (pc := 4) (v := nI 6) dX11_changed_4 (by decide) ?_
  refine q_icmp_ge (pc := 6) 21 dX11_changed_6 (by decide) (fun c_6 => absurd c_6 (nI_ge hl (by decide))) (fun c_6 => ?_)
  refine q_aload_n (pc := 9) dX11_changed_9 rfl rfl ?_
  refine q_dup (pc := 10) dX11_changed_10 rfl ?_
  refine q_getI (pc := 11) dX11_changed_11 fX11_20 (Cellar_sh hx) ⟨by decide, rfl⟩ (Cellar_lt hx) ?_
  rw [hc]
  refine q_iconst (pc := 14) (v := nI 1) dX11_changed_14 (by decide) ?_
  refine q_iaddN (pc := 15) dX11_changed_15 ?_
  refine q_putI (pc := 16) dX11_changed_16 (pX11_20 _) (Cellar_sh hx) ⟨by decide, rfl⟩ (Cellar_lt hx) ?_
  refine q_iload_n (pc := 19) dX11_changed_19 rfl rfl ?_
  exact q_iret (st := []) (pc := 20) dX11_changed_20 rfl ⟨rfl, rfl, rfl, rfl, rfl, rfl⟩
set_option maxHeartbeats 400000 in
set_option maxRecDepth 20000 in
theorem c_changed_b {S : BqH} {n : Nat} {I : BqI} {L : BqL} {P : BqP} {x : Nat} (hx : oX S n P x) {v : Int32} {π : Nat → Nat} (hP : oPast S n P x π) (hc : I x 2 = nI 6) : bq_Sp mX11_changed 1 12 0 0 [.ref x, .int v] S n I L P (qRot x v I L S n P) := by
  refine q_entry (vs := [some (.ref x), some (.int v), none, none]) (by decide +kernel) (by simp) (Nat.le_of_ble_eq_true rfl) rfl ?_
  have lp : ∀ i, i ≤ 6 → ∀ Q : BqP, Rot P (x + 54) i Q → bq_W mX11_changed 1 12 0 0 30 [some (.ref x), some (.int v), some (.ref (x + 165 + 53 * π 0)), some (.int (nI i))] [] S n I L Q (qRot x v I L S n P) := by
    refine bq_down (A := fun i => ∀ Q : BqP, Rot P (x + 54) i Q → bq_W mX11_changed 1 12 0 0 30 [some (.ref x), some (.int v), some (.ref (x + 165 + 53 * π 0)), some (.int (nI i))] [] S n I L Q (qRot x v I L S n P)) 6 ?_ ?_
    · intro Q hQ
      have hxQ : oX S n Q x := hx.congr hQ.1
      refine q_iload_n (pc := 30) dX11_changed_30 rfl rfl ?_
      refine q_bipush (pc := 31) (v := nI 6) dX11_changed_31 (by decide) ?_
      refine q_icmp_ge (pc := 33) 56 dX11_changed_33 (by decide) (fun c_33 => ?_) (fun c_33 => absurd (by decide) c_33)
      refine q_aload_n (pc := 56) dX11_changed_56 rfl rfl ?_
      refine q_getP (pc := 57) dX11_changed_57 fX11_16 (Cellar_sh hxQ) ⟨by decide, rfl⟩ (Cellar_lt hxQ) (Cellar_p_past hxQ) ?_
      refine q_bipush (pc := 60) (v := nI 6) dX11_changed_60 (by decide) ?_
      refine q_aload_n (pc := 62) dX11_changed_62 rfl rfl ?_
      refine q_aast (pc := 63) dX11_changed_63 (Cellarpast_sh hxQ) (by decide) (Cellarpast_lt hxQ) rfl (by decide) (State_sh (hP.2.2 _ (hP.1 0 (by decide)).2)) (State_lt (hP.2.2 _ (hP.1 0 (by decide)).2)) ?_
      refine q_iload_n (pc := 64) dX11_changed_64 rfl rfl ?_
      exact q_iret (st := []) (pc := 65) dX11_changed_65 rfl (qRot.mk hQ (hP.1 0 (by decide)).1)
    · intro i hi ih Q hQ
      have hxQ : oX S n Q x := hx.congr hQ.1
      have hq : Q (x + 54) (i + 1) = some (x + 165 + 53 * π (i + 1)) := (hQ.2.2 _ (by omega)).trans (hP.1 _ (by omega)).1
      refine q_iload_n (pc := 30) dX11_changed_30 rfl rfl ?_
      refine q_bipush (pc := 31) (v := nI 6) dX11_changed_31 (by decide) ?_
      refine q_icmp_ge (pc := 33) 56 dX11_changed_33 (by decide) (fun c_33 => absurd c_33 (nI_ge hi (by decide))) (fun c_33 => ?_)
      refine q_aload_n (pc := 36) dX11_changed_36 rfl rfl ?_
      refine q_getP (pc := 37) dX11_changed_37 fX11_16 (Cellar_sh hxQ) ⟨by decide, rfl⟩ (Cellar_lt hxQ) (Cellar_p_past hxQ) ?_
      refine q_iload_n (pc := 40) dX11_changed_40 rfl rfl ?_
      refine q_aload_n (pc := 41) dX11_changed_41 rfl rfl ?_
      refine q_getP (pc := 42) dX11_changed_42 fX11_16 (Cellar_sh hxQ) ⟨by decide, rfl⟩ (Cellar_lt hxQ) (Cellar_p_past hxQ) ?_
      refine q_iload_n (pc := 45) dX11_changed_45 rfl rfl ?_
      refine q_iconst (pc := 46) (v := nI 1) dX11_changed_46 (by decide) ?_
      refine q_iaddN (pc := 47) dX11_changed_47 ?_
      refine q_aald (pc := 48) dX11_changed_48 (Cellarpast_sh hxQ) (by decide) (Cellarpast_lt hxQ) rfl (show i + 1 < 7 by omega) hq ?_
      refine q_aast (pc := 49) dX11_changed_49 (Cellarpast_sh hxQ) (by decide) (Cellarpast_lt hxQ) rfl (show i < 7 by omega) (State_sh (hP.2.2 _ (hP.1 _ (show i + 1 < 7 by omega)).2)) (State_lt (hP.2.2 _ (hP.1 _ (show i + 1 < 7 by omega)).2)) ?_
      refine q_iinc (pc := 50) (v := nI (i + 1)) dX11_changed_50 rfl (bq_inc _) (Nat.le_of_ble_eq_true rfl) rfl ?_
      show bq_W _ _ _ _ _ 53 [_, _, _, _] _ _ _ _ _ _ _
      refine q_goto (pc := 53) 30 dX11_changed_53 (by decide) ?_
      exact ih _ (hQ.s (hP.1 _ (by omega)).1)
  refine q_aload_n (pc := 0) dX11_changed_0 rfl rfl ?_
  refine q_getI (pc := 1) dX11_changed_1 fX11_20 (Cellar_sh hx) ⟨by decide, rfl⟩ (Cellar_lt hx) ?_
  rw [hc]
  refine q_bipush (pc := 4) (v := nI 6) dX11_changed_4 (by decide) ?_
  refine q_icmp_ge (pc := 6) 21 dX11_changed_6 (by decide) (fun c_6 => ?_) (fun c_6 => absurd (Int32.le_refl _) c_6)
  refine q_aload_n (pc := 21) dX11_changed_21 rfl rfl ?_
  refine q_getP (pc := 22) dX11_changed_22 fX11_16 (Cellar_sh hx) ⟨by decide, rfl⟩ (Cellar_lt hx) (Cellar_p_past hx) ?_
  refine q_iconst (pc := 25) (v := nI 0) dX11_changed_25 (by decide) ?_
  refine q_aald (pc := 26) dX11_changed_26 (Cellarpast_sh hx) (by decide) (Cellarpast_lt hx) rfl (by decide) (hP.1 _ (by decide)).1 ?_
  refine q_astore_n (pc := 27) dX11_changed_27 rfl (Nat.le_of_ble_eq_true rfl) rfl ?_
  show bq_W _ _ _ _ _ 28 [_, _, _, _] _ _ _ _ _ _ _
  refine q_iconst (pc := 28) (v := nI 0) dX11_changed_28 (by decide) ?_
  refine q_istore_n (pc := 29) dX11_changed_29 rfl (Nat.le_of_ble_eq_true rfl) rfl ?_
  show bq_W _ _ _ _ _ 30 [_, _, _, _] _ _ _ _ _ _ _
  exact lp 0 (by decide) P (Rot.z)
