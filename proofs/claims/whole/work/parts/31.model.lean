/-! the model's small methods -/
def bq_nb (p : Prop) [Decidable p] : Int32 := if p then nI 0 else nI 1
theorem bq_nb0 {p : Prop} [Decidable p] : bq_nb p = 0 ↔ p := by
  unfold bq_nb
  by_cases h : p
  · rw [if_pos h]; exact ⟨fun _ => h, fun _ => by decide⟩
  · rw [if_neg h]; exact ⟨fun q => absurd q (by decide), fun q => absurd q h⟩
theorem bq_nbn {p : Prop} [Decidable p] : ¬ bq_nb p = 0 ↔ ¬ p := by rw [bq_nb0]
theorem bq_nbz {p : Prop} [Decidable p] : bq_nb p = 0 ∨ bq_nb p = 1 := by
  unfold bq_nb; by_cases h : p
  · rw [if_pos h]; exact Or.inl (by decide)
  · rw [if_neg h]; exact Or.inr (by decide)
theorem bq_nbt {x y z : Int32} (h1 : ¬ x < y) (h2 : ¬ z < x) : bq_nb (x < y ∨ ¬ x ≤ z) = nI 1 := by
  unfold bq_nb
  rw [if_neg]
  rintro (q | q)
  · exact h1 q
  · exact q (Int32.not_lt.mp h2)
theorem bq_nb1 {x y z : Int32} (h1 : x < y) : bq_nb (x < y ∨ ¬ x ≤ z) = nI 0 := if_pos (Or.inl h1)
theorem bq_nb2 {x y z : Int32} (h2 : z < x) : bq_nb (x < y ∨ ¬ x ≤ z) = nI 0 := if_pos (Or.inr (Int32.not_le.mpr h2))
/-- a row written place by place -/
def fl (I : BqI) (d : Nat) (ix : Nat → Nat) (v : Nat → Int32) : Nat → BqI
  | 0 => I
  | k + 1 => bq_u (fl I d ix v k) d (ix k) (v k)
theorem fl_ne {I : BqI} {d a : Nat} {ix : Nat → Nat} {v : Nat → Int32} (h : a ≠ d) : ∀ k, fl I d ix v k a = I a
  | 0 => rfl
  | k + 1 => (bq_u_ne h).trans (fl_ne h k)
theorem fl_no {I : BqI} {d j : Nat} {ix : Nat → Nat} {v : Nat → Int32} : ∀ k, (∀ i, i < k → ix i ≠ j) → fl I d ix v k d j = I d j
  | 0, _ => rfl
  | k + 1, h => (bq_u_no (fun q => h k (by omega) q.2.symm)).trans (fl_no k (fun i hi => h i (by omega)))
theorem fl_at {I : BqI} {d j : Nat} {ix : Nat → Nat} {v : Nat → Int32} : ∀ k, (∀ a b, a < k → b < k → ix a = ix b → a = b) → j < k → fl I d ix v k d (ix j) = v j
  | 0, _, h => by omega
  | k + 1, hi, h => by
    by_cases e : j = k
    · subst e; exact bq_u_at _ _ _ _
    · exact (bq_u_no (fun q => e (hi j k (by omega) (by omega) q.2))).trans (fl_at k (fun a b ha hb => hi a b (by omega) (by omega)) (by omega))
theorem fl_row {I : BqI} {d k : Nat} {ix : Nat → Nat} {v : Nat → Int32} {g : Nat → Int32} (hi : ∀ a b, a < k → b < k → ix a = ix b → a = b) (h1 : ∀ j, j < k → g (ix j) = v j) (h2 : ∀ q, (∀ j, j < k → ix j ≠ q) → g q = I d q) : fl I d ix v k = bq_r I d g := by
  funext a
  by_cases e : a = d
  · subst e
    rw [bq_r_self]
    funext q
    by_cases c : ∃ j, j < k ∧ ix j = q
    · obtain ⟨j, hj, rfl⟩ := c
      rw [fl_at k hi hj, h1 j hj]
    · rw [fl_no k (fun i hi q2 => c ⟨i, hi, q2⟩), h2 q (fun j hj q2 => c ⟨j, hj, q2⟩)]
  · rw [bq_r_ne e, fl_ne e]
theorem bq_u_r {I : BqI} {d k : Nat} {v : Int32} : bq_u I d k v = bq_r I d (bq_r (I d) k v) := by
  funext a
  by_cases e : a = d
  · subst e
    rw [bq_r_self]
    funext q
    by_cases c : q = k
    · subst c; rw [bq_u_at, bq_r_self]
    · rw [bq_u_no (fun h => c h.2), bq_r_ne c]
  · rw [bq_r_ne e, bq_u_ne e]
theorem bq_rr {α : Type} {I : Nat → α} {d : Nat} {a b : α} : bq_r (bq_r I d a) d b = bq_r I d b := by
  funext q
  by_cases c : q = d
  · subst c; rw [bq_r_self, bq_r_self]
  · rw [bq_r_ne c, bq_r_ne c, bq_r_ne c]
def lk (g : Nat → Int32) (t : Nat) (o : Nat → Int32) : Nat → Int32 := fun j => if j < 16 then g (13 + 19 * t + j) else o j
theorem lk_at {g o : Nat → Int32} {t j : Nat} (h : j < 16) : lk g t o j = g (13 + 19 * t + j) := if_pos h
theorem lk_fl (I : BqI) (m t : Nat) : fl I (m + 6) (fun j => j) (fun j => I (m + 1) (13 + 19 * t + j)) 16 = bq_r I (m + 6) (lk (I (m + 1)) t (I (m + 6))) :=
  fl_row (fun a b _ _ h => h) (fun j hj => lk_at hj) (fun q hq => if_neg (fun h => hq q h rfl))
theorem lv_fl (I : BqI) (m t : Nat) : fl I (m + 1) (fun j => 10 + 19 * t + 3 + j) (fun j => I (m + 1) (10 + 19 * t + 3 + j) - I (m + 7) j) 16 = bq_r I (m + 1) (g_sub (I (m + 1)) t (I (m + 7))) := by
  refine fl_row (fun a b _ _ h => by first | omega | (dsimp only at h; omega)) (fun j hj => ?_) (fun q hq => ?_)
  · show g_sub _ _ _ (10 + 19 * t + 3 + j) = _
    unfold g_sub
    rw [if_pos (by omega), show 10 + 19 * t + 3 + j - (13 + 19 * t) = j by omega]
  · refine g_sub_ne ?_
    rcases Nat.lt_or_ge q (13 + 19 * t) with h | h
    · exact Or.inl h
    · refine Or.inr (Nat.le_of_not_lt fun h2 => hq (q - (13 + 19 * t)) (by omega) ?_)
      show 10 + 19 * t + 3 + (q - (13 + 19 * t)) = q
      omega
theorem ls_fl (I : BqI) (m : Nat) : fl I (m + 1) (fun j => 124 + 5 * j + 3) (fun j => I (m + 1) (124 + 5 * j + 3) + I (m + 7) j) 16 = bq_r I (m + 1) (g_badd (I (m + 1)) 3 (I (m + 7))) := by
  refine fl_row (fun a b _ _ h => by first | omega | (dsimp only at h; omega)) (fun j hj => ?_) (fun q hq => ?_)
  · show g_badd _ _ _ (124 + 5 * j + 3) = _
    unfold g_badd
    rw [if_pos (by omega), show (124 + 5 * j + 3 - 124) / 5 = j by omega]
  · unfold g_badd
    rw [if_neg]
    rintro ⟨h1, h2, h3⟩
    refine hq ((q - 124) / 5) (by omega) ?_
    show 124 + 5 * ((q - 124) / 5) + 3 = q
    omega
theorem g_out_n {g : BqG} {t : Nat} {T : Nat → Int32} (h : ¬ g_tot (g_sub g t T) t = 0) : g_out g t T = g_sub g t T := if_neg h
theorem g_out_z {g : BqG} {t : Nat} {T : Nat → Int32} (h : g_tot (g_sub g t T) t = 0) : g_out g t T = bq_r (g_sub g t T) (11 + 19 * t) (nI 2) := if_pos h
theorem nt_n {I : BqI} {m c : Nat} {k t l : Int32} (h : ¬ c < 80) : bq_u I (m + 1) 5 (I (m + 1) 5 + nI 1) = bq_r I (m + 1) (g_note (I (m + 1)) c k t l) := by
  unfold g_note g_ent
  rw [if_neg h, bq_u_r]
theorem nt_p {I : BqI} {m c : Nat} {k t l : Int32} (h : c < 80) : bq_u (bq_u (bq_u (bq_u (bq_u I (m + 1) (330 + 4 * c) (I (m + 1) 0)) (m + 1) (330 + 4 * c + 1) k) (m + 1) (330 + 4 * c + 2) t) (m + 1) (330 + 4 * c + 3) l) (m + 1) 5 (bq_u (bq_u (bq_u (bq_u I (m + 1) (330 + 4 * c) (I (m + 1) 0)) (m + 1) (330 + 4 * c + 1) k) (m + 1) (330 + 4 * c + 2) t) (m + 1) (330 + 4 * c + 3) l (m + 1) 5 + nI 1) = bq_r I (m + 1) (g_note (I (m + 1)) c k t l) := by
  unfold g_note g_ent
  rw [if_pos h, bq_u_no (show ¬ (m + 1 = m + 1 ∧ 5 = 330 + 4 * c + 3) by omega), bq_u_no (show ¬ (m + 1 = m + 1 ∧ 5 = 330 + 4 * c + 2) by omega), bq_u_no (show ¬ (m + 1 = m + 1 ∧ 5 = 330 + 4 * c + 1) by omega), bq_u_no (show ¬ (m + 1 = m + 1 ∧ 5 = 330 + 4 * c) by omega)]
  simp only [bq_u_r, bq_r_self, bq_rr]
theorem ns_mono {F : Nat → Nat} {j k : Nat} (h : j ≤ k) : ns F j ≤ ns F k := by
  obtain ⟨d, rfl⟩ : ∃ d, k = j + d := ⟨k - j, by omega⟩
  clear h
  induction d with
  | zero => exact Nat.le_refl _
  | succ d ih => exact Nat.le_trans ih (by show _ ≤ ns F (j + d) + _; omega)
theorem am_neg {f : Nat → Int32} {R : Nat → Nat} (h : ∀ j, j < 16 → R j < 2 ^ 30 ∧ (f j = nI (R j) ∨ (R j = 0 ∧ f j = -1))) : ∀ i, i ≤ 16 → R (bq_am f i) = R (nam R i) ∧ (0 < R (nam R i) → bq_am f i = nam R i)
  | 0, _ => ⟨rfl, fun _ => rfl⟩
  | i + 1, hi => by
    obtain ⟨e1, e2⟩ := am_neg h i (by omega)
    have hp := bq_am_le2 f i
    have hq := nam_le R i
    have T : ∀ j, j < 16 → (f j).toInt = (R j : Int) ∨ (R j = 0 ∧ (f j).toInt = -1) := fun j hj => by
      obtain ⟨h1, h2 | ⟨h2, h3⟩⟩ := h j hj
      · exact Or.inl (by rw [h2, nI_toInt (by omega)])
      · exact Or.inr ⟨h2, by rw [h3]; decide⟩
    have ti := T i (by omega)
    have tp := T (bq_am f i) (by omega)
    have hle : (f i ≤ f (bq_am f i)) ↔ (f i).toInt ≤ (f (bq_am f i)).toInt := Int32.le_iff_toInt_le
    have E1 : bq_am f (i + 1) = if f i ≤ f (bq_am f i) then bq_am f i else i := rfl
    have E2 : nam R (i + 1) = if R i ≤ R (nam R i) then nam R i else i := rfl
    rw [E1, E2]
    by_cases c1 : R i ≤ R (nam R i)
    · rw [if_pos c1]
      by_cases c2 : f i ≤ f (bq_am f i)
      · rw [if_pos c2]; exact ⟨e1, e2⟩
      · rw [if_neg c2]
        have c3 : ¬ (f i).toInt ≤ (f (bq_am f i)).toInt := fun q => c2 (hle.mpr q)
        have hz : R i = 0 ∧ R (nam R i) = 0 := by
          rcases ti with ti | ⟨ti, ti2⟩ <;> rcases tp with tp | ⟨tp, tp2⟩ <;> omega
        exact ⟨by omega, fun q => by omega⟩
    · rw [if_neg c1]
      have c2 : ¬ f i ≤ f (bq_am f i) := fun q => by
        have c3 := hle.mp q
        rcases ti with ti | ⟨ti, ti2⟩ <;> rcases tp with tp | ⟨tp, tp2⟩ <;> omega
      rw [if_neg c2]
      exact ⟨rfl, fun _ => rfl⟩
def mt1 (I : BqI) (m : Nat) (F : Nat → Nat) (l : Nat) : Nat → BqI
  | 0 => I
  | k + 1 => bq_u (bq_u (mt1 I m F l k) (m + 7) k (nI (nqq F l k))) (m + 8) k (nI (nrr F l k))
theorem mt1_ne {I : BqI} {m l a : Nat} {F : Nat → Nat} (h1 : a ≠ m + 7) (h2 : a ≠ m + 8) : ∀ k, mt1 I m F l k a = I a
  | 0 => rfl
  | k + 1 => (bq_u_ne h2).trans ((bq_u_ne h1).trans (mt1_ne h1 h2 k))
theorem mt1_at {I : BqI} {m l j : Nat} {F : Nat → Nat} : ∀ k, j < k → mt1 I m F l k (m + 7) j = nI (nqq F l j) ∧ mt1 I m F l k (m + 8) j = nI (nrr F l j)
  | 0, h => by omega
  | k + 1, h => by
    show bq_u (bq_u _ _ _ _) _ _ _ (m + 7) j = _ ∧ bq_u (bq_u _ _ _ _) _ _ _ (m + 8) j = _
    rw [bq_u_ne (show m + 7 ≠ m + 8 by omega)]
    by_cases e : j = k
    · subst e; exact ⟨bq_u_at _ _ _ _, bq_u_at _ _ _ _⟩
    · rw [bq_u_no (fun q => e q.2), bq_u_no (fun q => e q.2), bq_u_ne (show m + 8 ≠ m + 7 by omega)]
      exact mt1_at k (by omega)
def TkI (I : BqI) (m : Nat) (F : Nat → Nat) (l : Nat) (J : BqI) (X : (Nat → Nat) × (Nat → Nat)) (c : Nat) : Prop :=
  (∀ j, j < 16 → J (m + 7) j = nI (X.1 j)) ∧ (∀ j, j < 16 → X.2 j < ns F 16 ∧ (J (m + 8) j = nI (X.2 j) ∨ (X.2 j = 0 ∧ J (m + 8) j = -1))) ∧ ns F 16 * c ≤ ns X.2 16 ∧ (∀ a, a ≠ m + 7 → a ≠ m + 8 → J a = I a) ∧ ∀ j, j < 16 → (npit c X).1 j = npt F l j
theorem TkI.start {I : BqI} {m l : Nat} {F : Nat → Nat} (hF : ∀ j, j < 16 → I (m + 6) j = nI (F j)) (hl : l ≤ ns F 16) (hp : 0 < ns F 16) : TkI I m F l (mt1 I m F l 16) (nqq F l, nrr F l) (l - ns (nqq F l) 16) :=
  ⟨fun j hj => (mt1_at 16 hj).1, fun j hj => ⟨Nat.mod_lt _ hp, Or.inl (mt1_at 16 hj).2⟩, Nat.le_of_eq (ns_qr F l).1.symm, fun a h1 h2 => mt1_ne h1 h2 16, fun _ _ => rfl⟩
theorem TkI.step {I J : BqI} {m l c : Nat} {F : Nat → Nat} {X : (Nat → Nat) × (Nat → Nat)} (hb : ns F 16 ≤ 9999) (h : TkI I m F l J X (c + 1)) : nam X.2 16 < 16 ∧ bq_am (J (m + 8)) 16 = nam X.2 16 ∧ TkI I m F l (bq_u (bq_u J (m + 7) (nam X.2 16) (nI (X.1 (nam X.2 16) + 1))) (m + 8) (nam X.2 16) (-1)) (npo X) c := by
  obtain ⟨h1, h2, h3, h4, h5⟩ := h
  have hc : nam X.2 16 < 16 := nam_lt X.2 15
  have hA0 : 0 < ns F 16 := Nat.lt_of_le_of_lt (Nat.zero_le _) (h2 0 (by decide)).1
  have hmul : ns F 16 * (c + 1) = ns F 16 * c + ns F 16 := Nat.mul_succ _ _
  have hpos : 0 < ns X.2 16 := by omega
  obtain ⟨i, hi, hp⟩ := ns_pos 16 hpos
  have hmx : 0 < X.2 (nam X.2 16) := Nat.lt_of_lt_of_le hp (nam_max X.2 16 i hi)
  have hlt := (h2 _ hc).1
  refine ⟨hc, (am_neg (f := J (m + 8)) (R := X.2) (fun j hj => ⟨by have := (h2 j hj).1; omega, (h2 j hj).2⟩) 16 (Nat.le_refl _)).2 hmx, fun j hj => ?_, fun j hj => ?_, ?_, fun a a1 a2 => ?_, fun j hj => ?_⟩
  · rw [bq_u_ne (show m + 7 ≠ m + 8 by omega)]
    show _ = nI (bq_r X.1 _ _ j)
    by_cases q : j = nam X.2 16
    · subst q; rw [bq_u_at, bq_r_self]
    · rw [bq_u_no (fun z => q z.2), bq_r_ne q, h1 j hj]
  · show bq_r X.2 _ _ j < _ ∧ (_ = nI (bq_r X.2 _ _ j) ∨ (bq_r X.2 _ _ j = 0 ∧ _))
    by_cases q : j = nam X.2 16
    · subst q; rw [bq_r_self, bq_u_at]; exact ⟨hA0, Or.inr ⟨rfl, rfl⟩⟩
    · rw [bq_r_ne q, bq_u_no (fun z => q z.2), bq_u_ne (show m + 8 ≠ m + 7 by omega)]; exact h2 j hj
  · show ns F 16 * c ≤ ns (bq_r X.2 (nam X.2 16) 0) 16
    have := ns_upd (F := X.2) (c := nam X.2 16) (v := 0) 16
    rw [if_pos hc, if_pos hc] at this
    omega
  · rw [bq_u_ne a2, bq_u_ne a1]; exact h4 a a1 a2
  · exact h5 j hj
def qTk (m : Nat) (F : Nat → Nat) (l : Nat) (I : BqI) (S : BqH) (n : Nat) (L : BqL) (P : BqP) : BqQ := fun r S' n' I' L' P' => r = none ∧ S' = S ∧ n' = n ∧ L' = L ∧ P' = P ∧ (∀ a, a ≠ m + 7 → a ≠ m + 8 → I' a = I a) ∧ ∀ j, j < 16 → I' (m + 7) j = nI (npt F l j)
set_option maxHeartbeats 400000 in
set_option maxRecDepth 20000 in
theorem c_X12_in {S : BqH} {n : Nat} {I : BqI} {L : BqL} {P : BqP} {x y z : Int32} : bq_Sp mX12_in 1 12 0 0 [.int x, .int y, .int z] S n I L P (bq_F (some (.int (bq_nb (x < y ∨ ¬ x ≤ z)))) S n I L P) := by
  refine q_entry (vs := [some (.int x), some (.int y), some (.int z)]) (by decide +kernel) (by simp) (Nat.le_of_ble_eq_true rfl) rfl ?_
  refine q_iload_n (pc := 0) dX12_in_0 rfl rfl ?_
  refine q_iload_n (pc := 1) dX12_in_1 rfl rfl ?_
  refine q_icmp_lt (pc := 2) 14 dX12_in_2 (by decide) (fun c_2 => ?_) (fun c_2 => ?_)
  · refine q_iconst (pc := 14) (v := nI 0) dX12_in_14 (by decide) ?_
    exact q_zret (st := []) (pc := 15) dX12_in_15 rfl (by decide) ⟨by first | rw [bq_nbt c_2 c_7] | rw [bq_nb1 c_2] | rw [bq_nb2 c_7], rfl, rfl, rfl, rfl, rfl⟩
  · refine q_iload_n (pc := 5) dX12_in_5 rfl rfl ?_
    refine q_iload_n (pc := 6) dX12_in_6 rfl rfl ?_
    refine q_icmp_gt (pc := 7) 14 dX12_in_7 (by decide) (fun c_7 => ?_) (fun c_7 => ?_)
    · refine q_iconst (pc := 14) (v := nI 0) dX12_in_14 (by decide) ?_
      exact q_zret (st := []) (pc := 15) dX12_in_15 rfl (by decide) ⟨by first | rw [bq_nbt c_2 c_7] | rw [bq_nb1 c_2] | rw [bq_nb2 c_7], rfl, rfl, rfl, rfl, rfl⟩
    · refine q_iconst (pc := 10) (v := nI 1) dX12_in_10 (by decide) ?_
      refine q_goto (pc := 11) 15 dX12_in_11 (by decide) ?_
      exact q_zret (st := []) (pc := 15) dX12_in_15 rfl (by decide) ⟨by first | rw [bq_nbt c_2 c_7] | rw [bq_nb1 c_2] | rw [bq_nb2 c_7], rfl, rfl, rfl, rfl, rfl⟩
set_option maxHeartbeats 400000 in
set_option maxRecDepth 20000 in
theorem c_X12_isTank {S : BqH} {n : Nat} {I : BqI} {L : BqL} {P : BqP} {x : Int32} : bq_Sp mX12_isTank 2 34 0 0 [.int x] S n I L P (bq_F (some (.int (bq_nb (x < nI 0 ∨ ¬ x ≤ nI 5)))) S n I L P) := by
  refine q_entry (vs := [some (.int x)]) (by decide +kernel) (by simp) (Nat.le_of_ble_eq_true rfl) rfl ?_
  refine q_iload_n (pc := 0) dX12_isTank_0 rfl rfl ?_
  refine q_iconst (pc := 1) (v := nI 0) dX12_isTank_1 (by decide) ?_
  refine q_iconst (pc := 2) (v := nI 5) dX12_isTank_2 (by decide) ?_
  refine q_callSF (pc := 3) dX12_isTank_3 kX12_69 c_X12_in ⟨Nat.le_of_ble_eq_true rfl, Nat.le_of_ble_eq_true rfl⟩ rfl rfl (Nat.le_of_ble_eq_true rfl) ?_
  show bq_W _ _ _ _ _ 6 _ [_] _ _ _ _ _ _
  exact q_zret (st := []) (pc := 6) dX12_isTank_6 rfl bq_nbz ⟨rfl, rfl, rfl, rfl, rfl, rfl⟩
set_option maxHeartbeats 400000 in
set_option maxRecDepth 20000 in
theorem c_X12_isByte {S : BqH} {n : Nat} {I : BqI} {L : BqL} {P : BqP} {x : Int32} : bq_Sp mX12_isByte 2 34 0 0 [.int x] S n I L P (bq_F (some (.int (bq_nb (x < nI 0 ∨ ¬ x ≤ nI 127)))) S n I L P) := by
  refine q_entry (vs := [some (.int x)]) (by decide +kernel) (by simp) (Nat.le_of_ble_eq_true rfl) rfl ?_
  refine q_iload_n (pc := 0) dX12_isByte_0 rfl rfl ?_
  refine q_iconst (pc := 1) (v := nI 0) dX12_isByte_1 (by decide) ?_
  refine q_bipush (pc := 2) (v := nI 127) dX12_isByte_2 (by decide) ?_
  refine q_callSF (pc := 4) dX12_isByte_4 kX12_69 c_X12_in ⟨Nat.le_of_ble_eq_true rfl, Nat.le_of_ble_eq_true rfl⟩ rfl rfl (Nat.le_of_ble_eq_true rfl) ?_
  show bq_W _ _ _ _ _ 7 _ [_] _ _ _ _ _ _
  exact q_zret (st := []) (pc := 7) dX12_isByte_7 rfl bq_nbz ⟨rfl, rfl, rfl, rfl, rfl, rfl⟩
set_option maxHeartbeats 400000 in
set_option maxRecDepth 20000 in
theorem c_X12_refuses {S : BqH} {n : Nat} {I : BqI} {L : BqL} {P : BqP} {m : Nat} (hm : oModel S n P m) {x : Int32} : bq_Sp mX12_refuses 1 12 0 0 [.ref m, .int x] S n I L P (bq_F (some (.int (-3))) S n (bq_u I m 7 x) L P) := by
  refine q_entry (vs := [some (.ref m), some (.int x)]) (by decide +kernel) (by simp) (Nat.le_of_ble_eq_true rfl) rfl ?_
  refine q_aload_n (pc := 0) dX12_refuses_0 rfl rfl ?_
  refine q_iload_n (pc := 1) dX12_refuses_1 rfl rfl ?_
  refine q_putI (pc := 2) dX12_refuses_2 (pX12_50 _) (Model_sh hm) ⟨by decide, rfl⟩ (Model_lt hm) ?_
  refine q_bipush (pc := 5) (v := (-3)) dX12_refuses_5 (by decide) ?_
  exact q_iret (st := []) (pc := 7) dX12_refuses_7 rfl ⟨rfl, rfl, rfl, rfl, rfl, rfl⟩
set_option maxHeartbeats 400000 in
set_option maxRecDepth 20000 in
theorem c_X12_tankAt {S : BqH} {n : Nat} {I : BqI} {L : BqL} {P : BqP} {m : Nat} (hm : oModel S n P m) {t k : Nat} (hk : 10 + 19 * t + k < 650) : bq_Sp mX12_tankAt 1 12 0 0 [.ref m, .int (nI t), .int (nI k)] S n I L P (bq_F (some (.int (I (m + 1) (10 + 19 * t + k)))) S n I L P) := by
  refine q_entry (vs := [some (.ref m), some (.int (nI t)), some (.int (nI k))]) (by decide +kernel) (by simp) (Nat.le_of_ble_eq_true rfl) rfl ?_
  refine q_aload_n (pc := 0) dX12_tankAt_0 rfl rfl ?_
  refine q_getP (pc := 1) dX12_tankAt_1 fX12_9 (Model_sh hm) ⟨by decide, rfl⟩ (Model_lt hm) (Model_p_g hm) ?_
  refine q_bipush (pc := 4) (v := nI 10) dX12_tankAt_4 (by decide) ?_
  refine q_bipush (pc := 6) (v := nI 19) dX12_tankAt_6 (by decide) ?_
  refine q_iload_n (pc := 8) dX12_tankAt_8 rfl rfl ?_
  refine q_imulN (pc := 9) dX12_tankAt_9 ?_
  refine q_iaddN (pc := 10) dX12_tankAt_10 ?_
  refine q_iload_n (pc := 11) dX12_tankAt_11 rfl rfl ?_
  refine q_iaddN (pc := 12) dX12_tankAt_12 ?_
  refine q_iald (pc := 13) dX12_tankAt_13 (oA_sh (Model_s_g hm)) (oA_lt (Model_s_g hm)) rfl (by omega) ?_
  exact q_iret (st := []) (pc := 14) dX12_tankAt_14 rfl ⟨rfl, rfl, rfl, rfl, rfl, rfl⟩
set_option maxHeartbeats 400000 in
set_option maxRecDepth 20000 in
theorem c_X12_partAt {S : BqH} {n : Nat} {I : BqI} {L : BqL} {P : BqP} {m : Nat} (hm : oModel S n P m) {t b : Nat} (hk : 13 + 19 * t + b < 650) : bq_Sp mX12_partAt 2 34 0 0 [.ref m, .int (nI t), .int (nI b)] S n I L P (bq_F (some (.int (I (m + 1) (13 + 19 * t + b)))) S n I L P) := by
  refine q_entry (vs := [some (.ref m), some (.int (nI t)), some (.int (nI b))]) (by decide +kernel) (by simp) (Nat.le_of_ble_eq_true rfl) rfl ?_
  refine q_aload_n (pc := 0) dX12_partAt_0 rfl rfl ?_
  refine q_iload_n (pc := 1) dX12_partAt_1 rfl rfl ?_
  refine q_iconst (pc := 2) (v := nI 3) dX12_partAt_2 (by decide) ?_
  refine q_iload_n (pc := 3) dX12_partAt_3 rfl rfl ?_
  refine q_iaddN (pc := 4) dX12_partAt_4 ?_
  refine q_callVF (pc := 5) dX12_partAt_5 kX12_73 (c_X12_tankAt hm (t := t) (k := (3 + b)) (by omega)) (Model_sh hm) rfl (Model_lt hm) ⟨Nat.le_of_ble_eq_true rfl, Nat.le_of_ble_eq_true rfl⟩ rfl rfl (Nat.le_of_ble_eq_true rfl) ?_
  show bq_W _ _ _ _ _ 8 _ [_] _ _ _ _ _ _
  exact q_iret (st := []) (pc := 8) dX12_partAt_8 rfl ⟨by rw [show 10 + 19 * t + (3 + b) = 13 + 19 * t + b by omega], rfl, rfl, rfl, rfl, rfl⟩
set_option maxHeartbeats 400000 in
set_option maxRecDepth 20000 in
theorem c_X12_orderAt {S : BqH} {n : Nat} {I : BqI} {L : BqL} {P : BqP} {m : Nat} (hm : oModel S n P m) {o k : Nat} (hk : 204 + 9 * o + k < 650) : bq_Sp mX12_orderAt 1 12 0 0 [.ref m, .int (nI o), .int (nI k)] S n I L P (bq_F (some (.int (I (m + 1) (204 + 9 * o + k)))) S n I L P) := by
  refine q_entry (vs := [some (.ref m), some (.int (nI o)), some (.int (nI k))]) (by decide +kernel) (by simp) (Nat.le_of_ble_eq_true rfl) rfl ?_
  refine q_aload_n (pc := 0) dX12_orderAt_0 rfl rfl ?_
  refine q_getP (pc := 1) dX12_orderAt_1 fX12_9 (Model_sh hm) ⟨by decide, rfl⟩ (Model_lt hm) (Model_p_g hm) ?_
  refine q_sipush (pc := 4) (v := nI 204) dX12_orderAt_4 (by decide) ?_
  refine q_bipush (pc := 7) (v := nI 9) dX12_orderAt_7 (by decide) ?_
  refine q_iload_n (pc := 9) dX12_orderAt_9 rfl rfl ?_
  refine q_imulN (pc := 10) dX12_orderAt_10 ?_
  refine q_iaddN (pc := 11) dX12_orderAt_11 ?_
  refine q_iload_n (pc := 12) dX12_orderAt_12 rfl rfl ?_
  refine q_iaddN (pc := 13) dX12_orderAt_13 ?_
  refine q_iald (pc := 14) dX12_orderAt_14 (oA_sh (Model_s_g hm)) (oA_lt (Model_s_g hm)) rfl (by omega) ?_
  exact q_iret (st := []) (pc := 15) dX12_orderAt_15 rfl ⟨rfl, rfl, rfl, rfl, rfl, rfl⟩
set_option maxHeartbeats 400000 in
set_option maxRecDepth 20000 in
theorem c_X12_strengthOf {S : BqH} {n : Nat} {I : BqI} {L : BqL} {P : BqP} {m : Nat} (hm : oModel S n P m) {b : Nat} (hk : 124 + 5 * b < 650) : bq_Sp mX12_strengthOf 1 12 0 0 [.ref m, .int (nI b)] S n I L P (bq_F (some (.int (I (m + 1) (124 + 5 * b)))) S n I L P) := by
  refine q_entry (vs := [some (.ref m), some (.int (nI b))]) (by decide +kernel) (by simp) (Nat.le_of_ble_eq_true rfl) rfl ?_
  refine q_aload_n (pc := 0) dX12_strengthOf_0 rfl rfl ?_
  refine q_getP (pc := 1) dX12_strengthOf_1 fX12_9 (Model_sh hm) ⟨by decide, rfl⟩ (Model_lt hm) (Model_p_g hm) ?_
  refine q_bipush (pc := 4) (v := nI 124) dX12_strengthOf_4 (by decide) ?_
  refine q_iconst (pc := 6) (v := nI 5) dX12_strengthOf_6 (by decide) ?_
  refine q_iload_n (pc := 7) dX12_strengthOf_7 rfl rfl ?_
  refine q_imulN (pc := 8) dX12_strengthOf_8 ?_
  refine q_iaddN (pc := 9) dX12_strengthOf_9 ?_
  refine q_iald (pc := 10) dX12_strengthOf_10 (oA_sh (Model_s_g hm)) (oA_lt (Model_s_g hm)) rfl (by omega) ?_
  exact q_iret (st := []) (pc := 11) dX12_strengthOf_11 rfl ⟨rfl, rfl, rfl, rfl, rfl, rfl⟩
set_option maxHeartbeats 400000 in
set_option maxRecDepth 20000 in
theorem c_X12_litresIn {S : BqH} {n : Nat} {I : BqI} {L : BqL} {P : BqP} {m : Nat} (hm : oModel S n P m) {t : Nat} (ht : t < 6) : bq_Sp mX12_litresIn 3 56 0 0 [.ref m, .int (nI t)] S n I L P (bq_F (some (.int (g_tot (I (m + 1)) t))) S n I L P) := by
  refine q_entry (vs := [some (.ref m), some (.int (nI t)), none, none]) (by decide +kernel) (by simp) (Nat.le_of_ble_eq_true rfl) rfl ?_
  have lp : ∀ i, i ≤ 16 → bq_W mX12_litresIn 3 56 0 0 4 [some (.ref m), some (.int (nI t)), some (.int (bq_sum (fun b => I (m + 1) (13 + 19 * t + b)) i)), some (.int (nI i))] [] S n I L P (bq_F (some (.int (g_tot (I (m + 1)) t))) S n I L P) := by
    refine bq_down (A := fun i => bq_W mX12_litresIn 3 56 0 0 4 [some (.ref m), some (.int (nI t)), some (.int (bq_sum (fun b => I (m + 1) (13 + 19 * t + b)) i)), some (.int (nI i))] [] S n I L P (bq_F (some (.int (g_tot (I (m + 1)) t))) S n I L P)) 16 ?_ ?_
    · refine q_iload_n (pc := 4) dX12_litresIn_4 rfl rfl ?_
      refine q_bipush (pc := 5) (v := nI 16) dX12_litresIn_5 (by decide) ?_
      refine q_icmp_ge (pc := 7) 25 dX12_litresIn_7 (by decide) (fun c_7 => ?_) (fun c_7 => absurd (by decide) c_7)
      refine q_iload_n (pc := 25) dX12_litresIn_25 rfl rfl ?_
      exact q_iret (st := []) (pc := 26) dX12_litresIn_26 rfl ⟨rfl, rfl, rfl, rfl, rfl, rfl⟩
    · intro i hi ih
      refine q_iload_n (pc := 4) dX12_litresIn_4 rfl rfl ?_
      refine q_bipush (pc := 5) (v := nI 16) dX12_litresIn_5 (by decide) ?_
      refine q_icmp_ge (pc := 7) 25 dX12_litresIn_7 (by decide) (fun c_7 => absurd c_7 (nI_ge hi (by decide))) (fun c_7 => ?_)
      refine q_iload_n (pc := 10) dX12_litresIn_10 rfl rfl ?_
      refine q_aload_n (pc := 11) dX12_litresIn_11 rfl rfl ?_
      refine q_iload_n (pc := 12) dX12_litresIn_12 rfl rfl ?_
      refine q_iload_n (pc := 13) dX12_litresIn_13 rfl rfl ?_
      refine q_callVF (pc := 14) dX12_litresIn_14 kX12_77 (c_X12_partAt hm (t := t) (b := i) (by omega)) (Model_sh hm) rfl (Model_lt hm) ⟨Nat.le_of_ble_eq_true rfl, Nat.le_of_ble_eq_true rfl⟩ rfl rfl (Nat.le_of_ble_eq_true rfl) ?_
      show bq_W _ _ _ _ _ 17 _ [_, _] _ _ _ _ _ _
      refine q_iadd (pc := 17) dX12_litresIn_17 ?_
      refine q_istore_n (pc := 18) dX12_litresIn_18 rfl (Nat.le_of_ble_eq_true rfl) rfl ?_
      show bq_W _ _ _ _ _ 19 [_, _, _, _] _ _ _ _ _ _ _
      refine q_iinc (pc := 19) (v := nI (i + 1)) dX12_litresIn_19 rfl (bq_inc _) (Nat.le_of_ble_eq_true rfl) rfl ?_
      show bq_W _ _ _ _ _ 22 [_, _, _, _] _ _ _ _ _ _ _
      refine q_goto (pc := 22) 4 dX12_litresIn_22 (by decide) ?_
      exact ih
  refine q_iconst (pc := 0) (v := nI 0) dX12_litresIn_0 (by decide) ?_
  refine q_istore_n (pc := 1) dX12_litresIn_1 rfl (Nat.le_of_ble_eq_true rfl) rfl ?_
  show bq_W _ _ _ _ _ 2 [_, _, _, _] _ _ _ _ _ _ _
  refine q_iconst (pc := 2) (v := nI 0) dX12_litresIn_2 (by decide) ?_
  refine q_istore_n (pc := 3) dX12_litresIn_3 rfl (Nat.le_of_ble_eq_true rfl) rfl ?_
  show bq_W _ _ _ _ _ 4 [_, _, _, _] _ _ _ _ _ _ _
  exact lp 0 (by decide)
set_option maxHeartbeats 400000 in
set_option maxRecDepth 20000 in
theorem c_X12_sumOf {S : BqH} {n : Nat} {I : BqI} {L : BqL} {P : BqP} {a : Nat} (ha : oA S n a 16) : bq_Sp mX12_sumOf 1 12 0 0 [.ref a] S n I L P (bq_F (some (.int (bq_sum (I a) 16))) S n I L P) := by
  refine q_entry (vs := [some (.ref a), none, none]) (by decide +kernel) (by simp) (Nat.le_of_ble_eq_true rfl) rfl ?_
  have lp : ∀ i, i ≤ 16 → bq_W mX12_sumOf 1 12 0 0 4 [some (.ref a), some (.int (bq_sum (I a) i)), some (.int (nI i))] [] S n I L P (bq_F (some (.int (bq_sum (I a) 16))) S n I L P) := by
    refine bq_down (A := fun i => bq_W mX12_sumOf 1 12 0 0 4 [some (.ref a), some (.int (bq_sum (I a) i)), some (.int (nI i))] [] S n I L P (bq_F (some (.int (bq_sum (I a) 16))) S n I L P)) 16 ?_ ?_
    · refine q_iload_n (pc := 4) dX12_sumOf_4 rfl rfl ?_
      refine q_bipush (pc := 5) (v := nI 16) dX12_sumOf_5 (by decide) ?_
      refine q_icmp_ge (pc := 7) 22 dX12_sumOf_7 (by decide) (fun c_7 => ?_) (fun c_7 => absurd (by decide) c_7)
      refine q_iload_n (pc := 22) dX12_sumOf_22 rfl rfl ?_
      exact q_iret (st := []) (pc := 23) dX12_sumOf_23 rfl ⟨rfl, rfl, rfl, rfl, rfl, rfl⟩
    · intro i hi ih
      refine q_iload_n (pc := 4) dX12_sumOf_4 rfl rfl ?_
      refine q_bipush (pc := 5) (v := nI 16) dX12_sumOf_5 (by decide) ?_
      refine q_icmp_ge (pc := 7) 22 dX12_sumOf_7 (by decide) (fun c_7 => absurd c_7 (nI_ge hi (by decide))) (fun c_7 => ?_)
      refine q_iload_n (pc := 10) dX12_sumOf_10 rfl rfl ?_
      refine q_aload_n (pc := 11) dX12_sumOf_11 rfl rfl ?_
      refine q_iload_n (pc := 12) dX12_sumOf_12 rfl rfl ?_
      refine q_iald (pc := 13) dX12_sumOf_13 (oA_sh ha) (oA_lt ha) rfl (by omega) ?_
      refine q_iadd (pc := 14) dX12_sumOf_14 ?_
      refine q_istore_n (pc := 15) dX12_sumOf_15 rfl (Nat.le_of_ble_eq_true rfl) rfl ?_
      show bq_W _ _ _ _ _ 16 [_, _, _] _ _ _ _ _ _ _
      refine q_iinc (pc := 16) (v := nI (i + 1)) dX12_sumOf_16 rfl (bq_inc _) (Nat.le_of_ble_eq_true rfl) rfl ?_
      show bq_W _ _ _ _ _ 19 [_, _, _] _ _ _ _ _ _ _
      refine q_goto (pc := 19) 4 dX12_sumOf_19 (by decide) ?_
      exact ih
  refine q_iconst (pc := 0) (v := nI 0) dX12_sumOf_0 (by decide) ?_
  refine q_istore_n (pc := 1) dX12_sumOf_1 rfl (Nat.le_of_ble_eq_true rfl) rfl ?_
  show bq_W _ _ _ _ _ 2 [_, _, _] _ _ _ _ _ _ _
  refine q_iconst (pc := 2) (v := nI 0) dX12_sumOf_2 (by decide) ?_
  refine q_istore_n (pc := 3) dX12_sumOf_3 rfl (Nat.le_of_ble_eq_true rfl) rfl ?_
  show bq_W _ _ _ _ _ 4 [_, _, _] _ _ _ _ _ _ _
  exact lp 0 (by decide)
set_option maxHeartbeats 400000 in
set_option maxRecDepth 20000 in
theorem c_X12_alcoholOf {S : BqH} {n : Nat} {I : BqI} {L : BqL} {P : BqP} {m : Nat} (hm : oModel S n P m) {a : Nat} (ha : oA S n a 16) : bq_Sp mX12_alcoholOf 2 33 0 0 [.ref m, .ref a] S n I L P (bq_F (some (.long (bq_alc (I a) (fun b => I (m + 1) (124 + 5 * b)) 16))) S n I L P) := by
  refine q_entry (vs := [some (.ref m), some (.ref a), none, none, none]) (by decide +kernel) (by simp) (Nat.le_of_ble_eq_true rfl) rfl ?_
  have lp : ∀ i, i ≤ 16 → bq_W mX12_alcoholOf 2 33 0 0 5 [some (.ref m), some (.ref a), some (.long (bq_alc (I a) (fun b => I (m + 1) (124 + 5 * b)) i)), none, some (.int (nI i))] [] S n I L P (bq_F (some (.long (bq_alc (I a) (fun b => I (m + 1) (124 + 5 * b)) 16))) S n I L P) := by
    refine bq_down (A := fun i => bq_W mX12_alcoholOf 2 33 0 0 5 [some (.ref m), some (.ref a), some (.long (bq_alc (I a) (fun b => I (m + 1) (124 + 5 * b)) i)), none, some (.int (nI i))] [] S n I L P (bq_F (some (.long (bq_alc (I a) (fun b => I (m + 1) (124 + 5 * b)) 16))) S n I L P)) 16 ?_ ?_
    · refine q_iload (pc := 5) dX12_alcoholOf_5 rfl ?_
      refine q_bipush (pc := 7) (v := nI 16) dX12_alcoholOf_7 (by decide) ?_
      refine q_icmp_ge (pc := 9) 34 dX12_alcoholOf_9 (by decide) (fun c_9 => ?_) (fun c_9 => absurd (by decide) c_9)
      refine q_lload_n (pc := 34) dX12_alcoholOf_34 rfl rfl ?_
      exact q_lret (st := []) (pc := 35) dX12_alcoholOf_35 rfl ⟨rfl, rfl, rfl, rfl, rfl, rfl⟩
    · intro i hi ih
      refine q_iload (pc := 5) dX12_alcoholOf_5 rfl ?_
      refine q_bipush (pc := 7) (v := nI 16) dX12_alcoholOf_7 (by decide) ?_
      refine q_icmp_ge (pc := 9) 34 dX12_alcoholOf_9 (by decide) (fun c_9 => absurd c_9 (nI_ge hi (by decide))) (fun c_9 => ?_)
      refine q_lload_n (pc := 12) dX12_alcoholOf_12 rfl rfl ?_
      refine q_aload_n (pc := 13) dX12_alcoholOf_13 rfl rfl ?_
      refine q_iload (pc := 14) dX12_alcoholOf_14 rfl ?_
      refine q_iald (pc := 16) dX12_alcoholOf_16 (oA_sh ha) (oA_lt ha) rfl (by omega) ?_
      refine q_i2l (pc := 17) dX12_alcoholOf_17 ?_
      refine q_aload_n (pc := 18) dX12_alcoholOf_18 rfl rfl ?_
      refine q_iload (pc := 19) dX12_alcoholOf_19 rfl ?_
      refine q_callVF (pc := 21) dX12_alcoholOf_21 kX12_80 (c_X12_strengthOf hm (b := i) (by omega)) (Model_sh hm) rfl (Model_lt hm) ⟨Nat.le_of_ble_eq_true rfl, Nat.le_of_ble_eq_true rfl⟩ rfl rfl (Nat.le_of_ble_eq_true rfl) ?_
      show bq_W _ _ _ _ _ 24 _ [_, _, _] _ _ _ _ _ _
      refine q_i2l (pc := 24) dX12_alcoholOf_24 ?_
      refine q_lmul (pc := 25) dX12_alcoholOf_25 ?_
      refine q_ladd (pc := 26) dX12_alcoholOf_26 ?_
      refine q_lstore_n (pc := 27) dX12_alcoholOf_27 rfl (Nat.le_of_ble_eq_true rfl) rfl ?_
      show bq_W _ _ _ _ _ 28 [_, _, _, _, _] _ _ _ _ _ _ _
      refine q_iinc (pc := 28) (v := nI (i + 1)) dX12_alcoholOf_28 rfl (bq_inc _) (Nat.le_of_ble_eq_true rfl) rfl ?_
      show bq_W _ _ _ _ _ 31 [_, _, _, _, _] _ _ _ _ _ _ _
      refine q_goto (pc := 31) 5 dX12_alcoholOf_31 (by decide) ?_
      exact ih
  refine q_lconst (pc := 0) dX12_alcoholOf_0 rfl ?_
  refine q_lstore_n (pc := 1) dX12_alcoholOf_1 rfl (Nat.le_of_ble_eq_true rfl) rfl ?_
  show bq_W _ _ _ _ _ 2 [_, _, _, _, _] _ _ _ _ _ _ _
  refine q_iconst (pc := 2) (v := nI 0) dX12_alcoholOf_2 (by decide) ?_
  refine q_istore (pc := 3) dX12_alcoholOf_3 (Nat.le_of_ble_eq_true rfl) rfl ?_
  show bq_W _ _ _ _ _ 5 [_, _, _, _, _] _ _ _ _ _ _ _
  exact lp 0 (by decide)
set_option maxHeartbeats 400000 in
set_option maxRecDepth 20000 in
theorem c_X12_looksAt {S : BqH} {n : Nat} {I : BqI} {L : BqL} {P : BqP} {m : Nat} (hm : oModel S n P m) {t : Nat} (ht : t < 6) : bq_Sp mX12_looksAt 3 56 0 0 [.ref m, .int (nI t)] S n I L P (bq_F (none) S n (bq_r I (m + 6) (lk (I (m + 1)) t (I (m + 6)))) L P) := by
  refine q_entry (vs := [some (.ref m), some (.int (nI t)), none]) (by decide +kernel) (by simp) (Nat.le_of_ble_eq_true rfl) rfl ?_
  have lp : ∀ i, i ≤ 16 → bq_W mX12_looksAt 3 56 0 0 2 [some (.ref m), some (.int (nI t)), some (.int (nI i))] [] S n (fl I (m + 6) (fun j => j) (fun j => I (m + 1) (13 + 19 * t + j)) i) L P (bq_F (none) S n (bq_r I (m + 6) (lk (I (m + 1)) t (I (m + 6)))) L P) := by
    refine bq_down (A := fun i => bq_W mX12_looksAt 3 56 0 0 2 [some (.ref m), some (.int (nI t)), some (.int (nI i))] [] S n (fl I (m + 6) (fun j => j) (fun j => I (m + 1) (13 + 19 * t + j)) i) L P (bq_F (none) S n (bq_r I (m + 6) (lk (I (m + 1)) t (I (m + 6)))) L P)) 16 ?_ ?_
    · refine q_iload_n (pc := 2) dX12_looksAt_2 rfl rfl ?_
      refine q_bipush (pc := 3) (v := nI 16) dX12_looksAt_3 (by decide) ?_
      refine q_icmp_ge (pc := 5) 26 dX12_looksAt_5 (by decide) (fun c_5 => ?_) (fun c_5 => absurd (by decide) c_5)
      exact q_vret (st := []) (pc := 26) dX12_looksAt_26 rfl ⟨rfl, rfl, rfl, lk_fl I m t, rfl, rfl⟩
    · intro i hi ih
      refine q_iload_n (pc := 2) dX12_looksAt_2 rfl rfl ?_
      refine q_bipush (pc := 3) (v := nI 16) dX12_looksAt_3 (by decide) ?_
      refine q_icmp_ge (pc := 5) 26 dX12_looksAt_5 (by decide) (fun c_5 => absurd c_5 (nI_ge hi (by decide))) (fun c_5 => ?_)
      refine q_aload_n (pc := 8) dX12_looksAt_8 rfl rfl ?_
      refine q_getP (pc := 9) dX12_looksAt_9 fX12_25 (Model_sh hm) ⟨by decide, rfl⟩ (Model_lt hm) (Model_p_there hm) ?_
      refine q_iload_n (pc := 12) dX12_looksAt_12 rfl rfl ?_
      refine q_aload_n (pc := 13) dX12_looksAt_13 rfl rfl ?_
      refine q_iload_n (pc := 14) dX12_looksAt_14 rfl rfl ?_
      refine q_iload_n (pc := 15) dX12_looksAt_15 rfl rfl ?_
      refine q_callVF (pc := 16) dX12_looksAt_16 kX12_77 (c_X12_partAt hm (t := t) (b := i) (by omega)) (Model_sh hm) rfl (Model_lt hm) ⟨Nat.le_of_ble_eq_true rfl, Nat.le_of_ble_eq_true rfl⟩ rfl rfl (Nat.le_of_ble_eq_true rfl) ?_
      show bq_W _ _ _ _ _ 19 _ [_, _, _] _ _ _ _ _ _
      rw [fl_ne (show m + 1 ≠ m + 6 by omega) i]
      refine q_iast (pc := 19) dX12_looksAt_19 (oA_sh (Model_s_there hm)) (oA_lt (Model_s_there hm)) rfl (by omega) ?_
      refine q_iinc (pc := 20) (v := nI (i + 1)) dX12_looksAt_20 rfl (bq_inc _) (Nat.le_of_ble_eq_true rfl) rfl ?_
      show bq_W _ _ _ _ _ 23 [_, _, _] _ _ _ _ _ _ _
      refine q_goto (pc := 23) 2 dX12_looksAt_23 (by decide) ?_
      exact ih
  refine q_iconst (pc := 0) (v := nI 0) dX12_looksAt_0 (by decide) ?_
  refine q_istore_n (pc := 1) dX12_looksAt_1 rfl (Nat.le_of_ble_eq_true rfl) rfl ?_
  show bq_W _ _ _ _ _ 2 [_, _, _] _ _ _ _ _ _ _
  exact lp 0 (by decide)
set_option maxHeartbeats 400000 in
set_option maxRecDepth 20000 in
theorem c_X12_copy {S : BqH} {n : Nat} {I : BqI} {L : BqL} {P : BqP} {a d x y la ld : Nat} (ha : oA S n a la) (hd : oA S n d ld) (hne : a ≠ d) (hx : x + 650 ≤ la) (hy : y + 650 ≤ ld) : bq_Sp mX12_copy 1 12 0 0 [.ref a, .int (nI x), .ref d, .int (nI y)] S n I L P (bq_F (none) S n (fl I d (fun k => y + k) (fun k => I a (x + k)) 650) L P) := by
  refine q_entry (vs := [some (.ref a), some (.int (nI x)), some (.ref d), some (.int (nI y)), none]) (by decide +kernel) (by simp) (Nat.le_of_ble_eq_true rfl) rfl ?_
  have lp : ∀ i, i ≤ 650 → bq_W mX12_copy 1 12 0 0 3 [some (.ref a), some (.int (nI x)), some (.ref d), some (.int (nI y)), some (.int (nI i))] [] S n (fl I d (fun k => y + k) (fun k => I a (x + k)) i) L P (bq_F (none) S n (fl I d (fun k => y + k) (fun k => I a (x + k)) 650) L P) := by
    refine bq_down (A := fun i => bq_W mX12_copy 1 12 0 0 3 [some (.ref a), some (.int (nI x)), some (.ref d), some (.int (nI y)), some (.int (nI i))] [] S n (fl I d (fun k => y + k) (fun k => I a (x + k)) i) L P (bq_F (none) S n (fl I d (fun k => y + k) (fun k => I a (x + k)) 650) L P)) 650 ?_ ?_
    · refine q_iload (pc := 3) dX12_copy_3 rfl ?_
      refine q_sipush (pc := 5) (v := nI 650) dX12_copy_5 (by decide) ?_
      refine q_icmp_ge (pc := 8) 29 dX12_copy_8 (by decide) (fun c_8 => ?_) (fun c_8 => absurd (by decide) c_8)
      exact q_vret (st := []) (pc := 29) dX12_copy_29 rfl ⟨rfl, rfl, rfl, rfl, rfl, rfl⟩
    · intro i hi ih
      refine q_iload (pc := 3) dX12_copy_3 rfl ?_
      refine q_sipush (pc := 5) (v := nI 650) dX12_copy_5 (by decide) ?_
      refine q_icmp_ge (pc := 8) 29 dX12_copy_8 (by decide) (fun c_8 => absurd c_8 (nI_ge hi (by decide))) (fun c_8 => ?_)
      refine q_aload_n (pc := 11) dX12_copy_11 rfl rfl ?_
      refine q_iload_n (pc := 12) dX12_copy_12 rfl rfl ?_
      refine q_iload (pc := 13) dX12_copy_13 rfl ?_
      refine q_iaddN (pc := 15) dX12_copy_15 ?_
      refine q_aload_n (pc := 16) dX12_copy_16 rfl rfl ?_
      refine q_iload_n (pc := 17) dX12_copy_17 rfl rfl ?_
      refine q_iload (pc := 18) dX12_copy_18 rfl ?_
      refine q_iaddN (pc := 20) dX12_copy_20 ?_
      refine q_iald (pc := 21) dX12_copy_21 (oA_sh ha) (oA_lt ha) rfl (by omega) ?_
      rw [fl_ne hne i]
      refine q_iast (pc := 22) dX12_copy_22 (oA_sh hd) (oA_lt hd) rfl (by omega) ?_
      refine q_iinc (pc := 23) (v := nI (i + 1)) dX12_copy_23 rfl (bq_inc _) (Nat.le_of_ble_eq_true rfl) rfl ?_
      show bq_W _ _ _ _ _ 26 [_, _, _, _, _] _ _ _ _ _ _ _
      refine q_goto (pc := 26) 3 dX12_copy_26 (by decide) ?_
      exact ih
  refine q_iconst (pc := 0) (v := nI 0) dX12_copy_0 (by decide) ?_
  refine q_istore (pc := 1) dX12_copy_1 (Nat.le_of_ble_eq_true rfl) rfl ?_
  show bq_W _ _ _ _ _ 3 [_, _, _, _, _] _ _ _ _ _ _ _
  exact lp 0 (by decide)
set_option maxHeartbeats 464000 in
set_option maxRecDepth 20000 in
theorem c_X12_leaves {S : BqH} {n : Nat} {I : BqI} {L : BqL} {P : BqP} {m : Nat} (hm : oModel S n P m) {t : Nat} (ht : t < 6) : bq_Sp mX12_leaves 4 79 0 0 [.ref m, .int (nI t)] S n I L P (bq_F (none) S n (bq_r I (m + 1) (g_out (I (m + 1)) t (I (m + 7)))) L P) := by
  refine q_entry (vs := [some (.ref m), some (.int (nI t)), none]) (by decide +kernel) (by simp) (Nat.le_of_ble_eq_true rfl) rfl ?_
  have lp : ∀ i, i ≤ 16 → bq_W mX12_leaves 4 79 0 0 2 [some (.ref m), some (.int (nI t)), some (.int (nI i))] [] S n (fl I (m + 1) (fun j => 10 + 19 * t + 3 + j) (fun j => I (m + 1) (10 + 19 * t + 3 + j) - I (m + 7) j) i) L P (bq_F (none) S n (bq_r I (m + 1) (g_out (I (m + 1)) t (I (m + 7)))) L P) := by
    refine bq_down (A := fun i => bq_W mX12_leaves 4 79 0 0 2 [some (.ref m), some (.int (nI t)), some (.int (nI i))] [] S n (fl I (m + 1) (fun j => 10 + 19 * t + 3 + j) (fun j => I (m + 1) (10 + 19 * t + 3 + j) - I (m + 7) j) i) L P (bq_F (none) S n (bq_r I (m + 1) (g_out (I (m + 1)) t (I (m + 7)))) L P)) 16 ?_ ?_
    · refine q_iload_n (pc := 2) dX12_leaves_2 rfl rfl ?_
      refine q_bipush (pc := 3) (v := nI 16) dX12_leaves_3 (by decide) ?_
      refine q_icmp_ge (pc := 5) 39 dX12_leaves_5 (by decide) (fun c_5 => ?_) (fun c_5 => absurd (by decide) c_5)
      rw [lv_fl I m t]
      refine q_aload_n (pc := 39) dX12_leaves_39 rfl rfl ?_
      refine q_iload_n (pc := 40) dX12_leaves_40 rfl rfl ?_
      refine q_callVF (pc := 41) dX12_leaves_41 kX12_88 (c_X12_litresIn hm (t := t) (by omega)) (Model_sh hm) rfl (Model_lt hm) ⟨Nat.le_of_ble_eq_true rfl, Nat.le_of_ble_eq_true rfl⟩ rfl rfl (Nat.le_of_ble_eq_true rfl) ?_
      show bq_W _ _ _ _ _ 44 _ [_] _ _ _ _ _ _
      rw [bq_r_self]
      refine q_if_ne (pc := 44) 62 dX12_leaves_44 (by decide) (fun c_44 => ?_) (fun c_44 => ?_)
      · exact q_vret (st := []) (pc := 62) dX12_leaves_62 rfl ⟨rfl, rfl, rfl, by first | rw [g_out_n c_44] | rw [g_out_z c_44, bq_u_r, bq_r_self, bq_rr, show 10 + 19 * t + 1 = 11 + 19 * t by omega], rfl, rfl⟩
      · refine q_aload_n (pc := 47) dX12_leaves_47 rfl rfl ?_
        refine q_getP (pc := 48) dX12_leaves_48 fX12_9 (Model_sh hm) ⟨by decide, rfl⟩ (Model_lt hm) (Model_p_g hm) ?_
        refine q_bipush (pc := 51) (v := nI 10) dX12_leaves_51 (by decide) ?_
        refine q_bipush (pc := 53) (v := nI 19) dX12_leaves_53 (by decide) ?_
        refine q_iload_n (pc := 55) dX12_leaves_55 rfl rfl ?_
        refine q_imulN (pc := 56) dX12_leaves_56 ?_
        refine q_iaddN (pc := 57) dX12_leaves_57 ?_
        refine q_iconst (pc := 58) (v := nI 1) dX12_leaves_58 (by decide) ?_
        refine q_iaddN (pc := 59) dX12_leaves_59 ?_
        refine q_iconst (pc := 60) (v := nI 2) dX12_leaves_60 (by decide) ?_
        refine q_iast (pc := 61) dX12_leaves_61 (oA_sh (Model_s_g hm)) (oA_lt (Model_s_g hm)) rfl (by omega) ?_
        exact q_vret (st := []) (pc := 62) dX12_leaves_62 rfl ⟨rfl, rfl, rfl, by first | rw [g_out_n c_44] | rw [g_out_z c_44, bq_u_r, bq_r_self, bq_rr, show 10 + 19 * t + 1 = 11 + 19 * t by omega], rfl, rfl⟩
    · intro i hi ih
      refine q_iload_n (pc := 2) dX12_leaves_2 rfl rfl ?_
      refine q_bipush (pc := 3) (v := nI 16) dX12_leaves_3 (by decide) ?_
      refine q_icmp_ge (pc := 5) 39 dX12_leaves_5 (by decide) (fun c_5 => absurd c_5 (nI_ge hi (by decide))) (fun c_5 => ?_)
      refine q_aload_n (pc := 8) dX12_leaves_8 rfl rfl ?_
      refine q_getP (pc := 9) dX12_leaves_9 fX12_9 (Model_sh hm) ⟨by decide, rfl⟩ (Model_lt hm) (Model_p_g hm) ?_
      refine q_bipush (pc := 12) (v := nI 10) dX12_leaves_12 (by decide) ?_
      refine q_bipush (pc := 14) (v := nI 19) dX12_leaves_14 (by decide) ?_
      refine q_iload_n (pc := 16) dX12_leaves_16 rfl rfl ?_
      refine q_imulN (pc := 17) dX12_leaves_17 ?_
      refine q_iaddN (pc := 18) dX12_leaves_18 ?_
      refine q_iconst (pc := 19) (v := nI 3) dX12_leaves_19 (by decide) ?_
      refine q_iaddN (pc := 20) dX12_leaves_20 ?_
      refine q_iload_n (pc := 21) dX12_leaves_21 rfl rfl ?_
      refine q_iaddN (pc := 22) dX12_leaves_22 ?_
      refine q_dup2 (pc := 23) dX12_leaves_23 rfl rfl ?_
      refine q_iald (pc := 24) dX12_leaves_24 (oA_sh (Model_s_g hm)) (oA_lt (Model_s_g hm)) rfl (by omega) ?_
      refine q_aload_n (pc := 25) dX12_leaves_25 rfl rfl ?_
      refine q_getP (pc := 26) dX12_leaves_26 fX12_28 (Model_sh hm) ⟨by decide, rfl⟩ (Model_lt hm) (Model_p_taken hm) ?_
      refine q_iload_n (pc := 29) dX12_leaves_29 rfl rfl ?_
      refine q_iald (pc := 30) dX12_leaves_30 (oA_sh (Model_s_taken hm)) (oA_lt (Model_s_taken hm)) rfl (by omega) ?_
      rw [fl_no i (fun q hq => by omega), fl_ne (show m + 7 ≠ m + 1 by omega) i]
      refine q_isub (pc := 31) dX12_leaves_31 ?_
      refine q_iast (pc := 32) dX12_leaves_32 (oA_sh (Model_s_g hm)) (oA_lt (Model_s_g hm)) rfl (by omega) ?_
      refine q_iinc (pc := 33) (v := nI (i + 1)) dX12_leaves_33 rfl (bq_inc _) (Nat.le_of_ble_eq_true rfl) rfl ?_
      show bq_W _ _ _ _ _ 36 [_, _, _] _ _ _ _ _ _ _
      refine q_goto (pc := 36) 2 dX12_leaves_36 (by decide) ?_
      exact ih
  refine q_iconst (pc := 0) (v := nI 0) dX12_leaves_0 (by decide) ?_
  refine q_istore_n (pc := 1) dX12_leaves_1 rfl (Nat.le_of_ble_eq_true rfl) rfl ?_
  show bq_W _ _ _ _ _ 2 [_, _, _] _ _ _ _ _ _ _
  exact lp 0 (by decide)
set_option maxHeartbeats 544000 in
set_option maxRecDepth 20000 in
theorem c_X12_notes {S : BqH} {n : Nat} {I : BqI} {L : BqL} {P : BqP} {m : Nat} (hm : oModel S n P m) {c : Nat} {k t l : Int32} (hc : I (m + 1) 5 = nI c) (hb : c < 2 ^ 30) : bq_Sp mX12_notes 1 12 0 0 [.ref m, .int k, .int t, .int l] S n I L P (bq_F (none) S n (bq_r I (m + 1) (g_note (I (m + 1)) c k t l)) L P) := by
  refine q_entry (vs := [some (.ref m), some (.int k), some (.int t), some (.int l), none]) (by decide +kernel) (by simp) (Nat.le_of_ble_eq_true rfl) rfl ?_
  refine q_aload_n (pc := 0) dX12_notes_0 rfl rfl ?_
  refine q_getP (pc := 1) dX12_notes_1 fX12_9 (Model_sh hm) ⟨by decide, rfl⟩ (Model_lt hm) (Model_p_g hm) ?_
  refine q_iconst (pc := 4) (v := nI 5) dX12_notes_4 (by decide) ?_
  refine q_iald (pc := 5) dX12_notes_5 (oA_sh (Model_s_g hm)) (oA_lt (Model_s_g hm)) rfl (by omega) ?_
  rw [hc]
  refine q_bipush (pc := 6) (v := nI 80) dX12_notes_6 (by decide) ?_
  refine q_icmp_ge (pc := 8) 68 dX12_notes_8 (by decide) (fun c_8 => ?_) (fun c_8 => ?_)
  · have hge : ¬ c < 80 := fun q => nI_ge q (by omega) c_8
    refine q_aload_n (pc := 68) dX12_notes_68 rfl rfl ?_
    refine q_getP (pc := 69) dX12_notes_69 fX12_9 (Model_sh hm) ⟨by decide, rfl⟩ (Model_lt hm) (Model_p_g hm) ?_
    refine q_iconst (pc := 72) (v := nI 5) dX12_notes_72 (by decide) ?_
    refine q_dup2 (pc := 73) dX12_notes_73 rfl rfl ?_
    refine q_iald (pc := 74) dX12_notes_74 (oA_sh (Model_s_g hm)) (oA_lt (Model_s_g hm)) rfl (by omega) ?_
    refine q_iconst (pc := 75) (v := nI 1) dX12_notes_75 (by decide) ?_
    refine q_iadd (pc := 76) dX12_notes_76 ?_
    refine q_iast (pc := 77) dX12_notes_77 (oA_sh (Model_s_g hm)) (oA_lt (Model_s_g hm)) rfl (by omega) ?_
    exact q_vret (st := []) (pc := 78) dX12_notes_78 rfl ⟨rfl, rfl, rfl, by first | rw [nt_p hlt] | rw [nt_n hge], rfl, rfl⟩
  · have hlt : c < 80 := Nat.lt_of_not_le (fun q => c_8 (nI_le q (by omega)))
    refine q_sipush (pc := 11) (v := nI 330) dX12_notes_11 (by decide) ?_
    refine q_iconst (pc := 14) (v := nI 4) dX12_notes_14 (by decide) ?_
    refine q_aload_n (pc := 15) dX12_notes_15 rfl rfl ?_
    refine q_getP (pc := 16) dX12_notes_16 fX12_9 (Model_sh hm) ⟨by decide, rfl⟩ (Model_lt hm) (Model_p_g hm) ?_
    refine q_iconst (pc := 19) (v := nI 5) dX12_notes_19 (by decide) ?_
    refine q_iald (pc := 20) dX12_notes_20 (oA_sh (Model_s_g hm)) (oA_lt (Model_s_g hm)) rfl (by omega) ?_
    rw [hc]
    refine q_imulN (pc := 21) dX12_notes_21 ?_
    refine q_iaddN (pc := 22) dX12_notes_22 ?_
    refine q_istore (pc := 23) dX12_notes_23 (Nat.le_of_ble_eq_true rfl) rfl ?_
    show bq_W _ _ _ _ _ 25 [_, _, _, _, _] _ _ _ _ _ _ _
    refine q_aload_n (pc := 25) dX12_notes_25 rfl rfl ?_
    refine q_getP (pc := 26) dX12_notes_26 fX12_9 (Model_sh hm) ⟨by decide, rfl⟩ (Model_lt hm) (Model_p_g hm) ?_
    refine q_iload (pc := 29) dX12_notes_29 rfl ?_
    refine q_aload_n (pc := 31) dX12_notes_31 rfl rfl ?_
    refine q_getP (pc := 32) dX12_notes_32 fX12_9 (Model_sh hm) ⟨by decide, rfl⟩ (Model_lt hm) (Model_p_g hm) ?_
    refine q_iconst (pc := 35) (v := nI 0) dX12_notes_35 (by decide) ?_
    refine q_iald (pc := 36) dX12_notes_36 (oA_sh (Model_s_g hm)) (oA_lt (Model_s_g hm)) rfl (by omega) ?_
    refine q_iast (pc := 37) dX12_notes_37 (oA_sh (Model_s_g hm)) (oA_lt (Model_s_g hm)) rfl (by omega) ?_
    refine q_aload_n (pc := 38) dX12_notes_38 rfl rfl ?_
    refine q_getP (pc := 39) dX12_notes_39 fX12_9 (Model_sh hm) ⟨by decide, rfl⟩ (Model_lt hm) (Model_p_g hm) ?_
    refine q_iload (pc := 42) dX12_notes_42 rfl ?_
    refine q_iconst (pc := 44) (v := nI 1) dX12_notes_44 (by decide) ?_
    refine q_iaddN (pc := 45) dX12_notes_45 ?_
    refine q_iload_n (pc := 46) dX12_notes_46 rfl rfl ?_
    refine q_iast (pc := 47) dX12_notes_47 (oA_sh (Model_s_g hm)) (oA_lt (Model_s_g hm)) rfl (by omega) ?_
    refine q_aload_n (pc := 48) dX12_notes_48 rfl rfl ?_
    refine q_getP (pc := 49) dX12_notes_49 fX12_9 (Model_sh hm) ⟨by decide, rfl⟩ (Model_lt hm) (Model_p_g hm) ?_
    refine q_iload (pc := 52) dX12_notes_52 rfl ?_
    refine q_iconst (pc := 54) (v := nI 2) dX12_notes_54 (by decide) ?_
    refine q_iaddN (pc := 55) dX12_notes_55 ?_
    refine q_iload_n (pc := 56) dX12_notes_56 rfl rfl ?_
    refine q_iast (pc := 57) dX12_notes_57 (oA_sh (Model_s_g hm)) (oA_lt (Model_s_g hm)) rfl (by omega) ?_
    refine q_aload_n (pc := 58) dX12_notes_58 rfl rfl ?_
    refine q_getP (pc := 59) dX12_notes_59 fX12_9 (Model_sh hm) ⟨by decide, rfl⟩ (Model_lt hm) (Model_p_g hm) ?_
    refine q_iload (pc := 62) dX12_notes_62 rfl ?_
    refine q_iconst (pc := 64) (v := nI 3) dX12_notes_64 (by decide) ?_
    refine q_iaddN (pc := 65) dX12_notes_65 ?_
    refine q_iload_n (pc := 66) dX12_notes_66 rfl rfl ?_
    refine q_iast (pc := 67) dX12_notes_67 (oA_sh (Model_s_g hm)) (oA_lt (Model_s_g hm)) rfl (by omega) ?_
    refine q_aload_n (pc := 68) dX12_notes_68 rfl rfl ?_
    refine q_getP (pc := 69) dX12_notes_69 fX12_9 (Model_sh hm) ⟨by decide, rfl⟩ (Model_lt hm) (Model_p_g hm) ?_
    refine q_iconst (pc := 72) (v := nI 5) dX12_notes_72 (by decide) ?_
    refine q_dup2 (pc := 73) dX12_notes_73 rfl rfl ?_
    refine q_iald (pc := 74) dX12_notes_74 (oA_sh (Model_s_g hm)) (oA_lt (Model_s_g hm)) rfl (by omega) ?_
    refine q_iconst (pc := 75) (v := nI 1) dX12_notes_75 (by decide) ?_
    refine q_iadd (pc := 76) dX12_notes_76 ?_
    refine q_iast (pc := 77) dX12_notes_77 (oA_sh (Model_s_g hm)) (oA_lt (Model_s_g hm)) rfl (by omega) ?_
    exact q_vret (st := []) (pc := 78) dX12_notes_78 rfl ⟨rfl, rfl, rfl, by first | rw [nt_p hlt] | rw [nt_n hge], rfl, rfl⟩
set_option maxHeartbeats 448000 in
set_option maxRecDepth 20000 in
theorem c_X12_loses {S : BqH} {n : Nat} {I : BqI} {L : BqL} {P : BqP} {m : Nat} (hm : oModel S n P m) {c r : Nat} {t l : Int32} (hr : r < 4) (hc : I (m + 1) 5 = nI c) (hb : c < 2 ^ 30) : bq_Sp mX12_loses 2 36 0 0 [.ref m, .int t, .int l, .int (nI r)] S n I L P (bq_F (none) S n (bq_r I (m + 1) (g_loss (I (m + 1)) c (I (m + 7)) t l r)) L P) := by
  refine q_entry (vs := [some (.ref m), some (.int t), some (.int l), some (.int (nI r)), none]) (by decide +kernel) (by simp) (Nat.le_of_ble_eq_true rfl) rfl ?_
  have lp : ∀ i, i ≤ 16 → bq_W mX12_loses 2 36 0 0 3 [some (.ref m), some (.int t), some (.int l), some (.int (nI r)), some (.int (nI i))] [] S n (fl I (m + 1) (fun j => 124 + 5 * j + 3) (fun j => I (m + 1) (124 + 5 * j + 3) + I (m + 7) j) i) L P (bq_F (none) S n (bq_r I (m + 1) (g_loss (I (m + 1)) c (I (m + 7)) t l r)) L P) := by
    refine bq_down (A := fun i => bq_W mX12_loses 2 36 0 0 3 [some (.ref m), some (.int t), some (.int l), some (.int (nI r)), some (.int (nI i))] [] S n (fl I (m + 1) (fun j => 124 + 5 * j + 3) (fun j => I (m + 1) (124 + 5 * j + 3) + I (m + 7) j) i) L P (bq_F (none) S n (bq_r I (m + 1) (g_loss (I (m + 1)) c (I (m + 7)) t l r)) L P)) 16 ?_ ?_
    · refine q_iload (pc := 3) dX12_loses_3 rfl ?_
      refine q_bipush (pc := 5) (v := nI 16) dX12_loses_5 (by decide) ?_
      refine q_icmp_ge (pc := 7) 40 dX12_loses_7 (by decide) (fun c_7 => ?_) (fun c_7 => absurd (by decide) c_7)
      rw [ls_fl I m]
      refine q_aload_n (pc := 40) dX12_loses_40 rfl rfl ?_
      refine q_getP (pc := 41) dX12_loses_41 fX12_9 (Model_sh hm) ⟨by decide, rfl⟩ (Model_lt hm) (Model_p_g hm) ?_
      refine q_sipush (pc := 44) (v := nI 324) dX12_loses_44 (by decide) ?_
      refine q_iload_n (pc := 47) dX12_loses_47 rfl rfl ?_
      refine q_iaddN (pc := 48) dX12_loses_48 ?_
      refine q_dup2 (pc := 49) dX12_loses_49 rfl rfl ?_
      refine q_iald (pc := 50) dX12_loses_50 (oA_sh (Model_s_g hm)) (oA_lt (Model_s_g hm)) rfl (by omega) ?_
      rw [bq_r_self, show g_badd (I (m + 1)) 3 (I (m + 7)) (324 + r) = I (m + 1) (324 + r) from g_badd_ne (Or.inr (by omega))]
      refine q_iload_n (pc := 51) dX12_loses_51 rfl rfl ?_
      refine q_iadd (pc := 52) dX12_loses_52 ?_
      refine q_iast (pc := 53) dX12_loses_53 (oA_sh (Model_s_g hm)) (oA_lt (Model_s_g hm)) rfl (by omega) ?_
      rw [bq_u_r, bq_r_self, bq_rr]
      refine q_aload_n (pc := 54) dX12_loses_54 rfl rfl ?_
      refine q_iconst (pc := 55) (v := nI 3) dX12_loses_55 (by decide) ?_
      refine q_iload_n (pc := 56) dX12_loses_56 rfl rfl ?_
      refine q_iload_n (pc := 57) dX12_loses_57 rfl rfl ?_
      refine q_callVF (pc := 58) dX12_loses_58 kX12_91 (c_X12_notes hm (by rw [bq_r_self, bq_r_ne (by omega), g_badd_ne (Or.inl (by omega))]; exact hc) hb) (Model_sh hm) rfl (Model_lt hm) ⟨Nat.le_of_ble_eq_true rfl, Nat.le_of_ble_eq_true rfl⟩ rfl rfl (Nat.le_of_ble_eq_true rfl) ?_
      show bq_W _ _ _ _ _ 61 _ [] _ _ _ _ _ _
      exact q_vret (st := []) (pc := 61) dX12_loses_61 rfl ⟨rfl, rfl, rfl, by rw [bq_r_self, bq_rr]; rfl, rfl, rfl⟩
    · intro i hi ih
      refine q_iload (pc := 3) dX12_loses_3 rfl ?_
      refine q_bipush (pc := 5) (v := nI 16) dX12_loses_5 (by decide) ?_
      refine q_icmp_ge (pc := 7) 40 dX12_loses_7 (by decide) (fun c_7 => absurd c_7 (nI_ge hi (by decide))) (fun c_7 => ?_)
      refine q_aload_n (pc := 10) dX12_loses_10 rfl rfl ?_
      refine q_getP (pc := 11) dX12_loses_11 fX12_9 (Model_sh hm) ⟨by decide, rfl⟩ (Model_lt hm) (Model_p_g hm) ?_
      refine q_bipush (pc := 14) (v := nI 124) dX12_loses_14 (by decide) ?_
      refine q_iconst (pc := 16) (v := nI 5) dX12_loses_16 (by decide) ?_
      refine q_iload (pc := 17) dX12_loses_17 rfl ?_
      refine q_imulN (pc := 19) dX12_loses_19 ?_
      refine q_iaddN (pc := 20) dX12_loses_20 ?_
      refine q_iconst (pc := 21) (v := nI 3) dX12_loses_21 (by decide) ?_
      refine q_iaddN (pc := 22) dX12_loses_22 ?_
      refine q_dup2 (pc := 23) dX12_loses_23 rfl rfl ?_
      refine q_iald (pc := 24) dX12_loses_24 (oA_sh (Model_s_g hm)) (oA_lt (Model_s_g hm)) rfl (by omega) ?_
      refine q_aload_n (pc := 25) dX12_loses_25 rfl rfl ?_
      refine q_getP (pc := 26) dX12_loses_26 fX12_28 (Model_sh hm) ⟨by decide, rfl⟩ (Model_lt hm) (Model_p_taken hm) ?_
      refine q_iload (pc := 29) dX12_loses_29 rfl ?_
      refine q_iald (pc := 31) dX12_loses_31 (oA_sh (Model_s_taken hm)) (oA_lt (Model_s_taken hm)) rfl (by omega) ?_
      rw [fl_no i (fun q hq => by omega), fl_ne (show m + 7 ≠ m + 1 by omega) i]
      refine q_iadd (pc := 32) dX12_loses_32 ?_
      refine q_iast (pc := 33) dX12_loses_33 (oA_sh (Model_s_g hm)) (oA_lt (Model_s_g hm)) rfl (by omega) ?_
      refine q_iinc (pc := 34) (v := nI (i + 1)) dX12_loses_34 rfl (bq_inc _) (Nat.le_of_ble_eq_true rfl) rfl ?_
      show bq_W _ _ _ _ _ 37 [_, _, _, _, _] _ _ _ _ _ _ _
      refine q_goto (pc := 37) 3 dX12_loses_37 (by decide) ?_
      exact ih
  refine q_iconst (pc := 0) (v := nI 0) dX12_loses_0 (by decide) ?_
  refine q_istore (pc := 1) dX12_loses_1 (Nat.le_of_ble_eq_true rfl) rfl ?_
  show bq_W _ _ _ _ _ 3 [_, _, _, _, _] _ _ _ _ _ _ _
  exact lp 0 (by decide)
set_option maxHeartbeats 1288000 in
set_option maxRecDepth 20000 in
theorem c_X12_takes {S : BqH} {n : Nat} {I : BqI} {L : BqL} {P : BqP} {m : Nat} (hm : oModel S n P m) {l : Nat} {F : Nat → Nat} (hF : ∀ j, j < 16 → I (m + 6) j = nI (F j)) (hl : l ≤ ns F 16) (hp : 0 < ns F 16) (hb : ns F 16 ≤ 9999) : bq_Sp mX12_takes 2 34 0 0 [.ref m, .int (nI l)] S n I L P (qTk m F l I S n L P) := by
  refine q_entry (vs := [some (.ref m), some (.int (nI l)), none, none, none, none, none]) (by decide +kernel) (by simp) (Nat.le_of_ble_eq_true rfl) rfl ?_
  have hs : bq_sum (I (m + 6)) 16 = nI (ns F 16) := bq_sum_n 16 hF
  have hq := (ns_qr F l).2 hp
  have hmono : ∀ k, k ≤ 16 → ns (nqq F l) k ≤ l := fun k hk => Nat.le_trans (ns_mono hk) hq
  have hmul : ∀ j, j < 16 → F j * l < 2 ^ 31 := fun j hj => by
    have h1 : F j ≤ 9999 := Nat.le_trans (ns_ge 16 hj) hb
    have : F j * l ≤ 9999 * 9999 := Nat.mul_le_mul h1 (by omega)
    omega
  have l2 : ∀ (c kk : Nat) (J : BqI) (X : (Nat → Nat) × (Nat → Nat)) (v5 v6 : Option Value), kk + c < 2 ^ 30 → TkI I m F l J X c → bq_W mX12_takes 2 34 0 0 91 [some (.ref m), some (.int (nI l)), some (.int (nI (ns F 16))), some (.int (nI (kk + c))), some (.int (nI kk)), v5, v6] [] S n J L P (qTk m F l I S n L P) := by
    intro c
    induction c with
    | zero =>
      intro kk J X v5 v6 hk hJ
      refine q_iload (pc := 91) dX12_takes_91 rfl ?_
      refine q_iload_n (pc := 93) dX12_takes_93 rfl rfl ?_
      refine q_icmp_ge (pc := 94) 167 dX12_takes_94 (by decide) (fun c_94 => ?_) (fun c_94 => absurd (nI_le (by omega) (by omega)) c_94)
      exact q_vret (st := []) (pc := 167) dX12_takes_167 rfl ⟨rfl, rfl, rfl, rfl, rfl, hJ.2.2.2.1, fun j hj => by rw [hJ.1 j hj]; exact congrArg nI (hJ.2.2.2.2 j hj)⟩
    | succ c ihc =>
      intro kk J X v5 v6 hk hJ
      obtain ⟨hc, ham, hJ2⟩ := hJ.step hb
      have li : ∀ i, i ≤ 16 → bq_W mX12_takes 2 34 0 0 103 [some (.ref m), some (.int (nI l)), some (.int (nI (ns F 16))), some (.int (nI (kk + (c + 1)))), some (.int (nI kk)), some (.int (nI (bq_am (J (m + 8)) i))), some (.int (nI i))] [] S n J L P (qTk m F l I S n L P) := by
        refine bq_down (A := fun i => bq_W mX12_takes 2 34 0 0 103 [some (.ref m), some (.int (nI l)), some (.int (nI (ns F 16))), some (.int (nI (kk + (c + 1)))), some (.int (nI kk)), some (.int (nI (bq_am (J (m + 8)) i))), some (.int (nI i))] [] S n J L P (qTk m F l I S n L P)) 16 ?_ ?_
        · rw [ham]
          refine q_iload (pc := 103) dX12_takes_103 rfl ?_
          refine q_bipush (pc := 105) (v := nI 16) dX12_takes_105 (by decide) ?_
          refine q_icmp_ge (pc := 107) 142 dX12_takes_107 (by decide) (fun c_107 => ?_) (fun c_107 => absurd (by decide) c_107)
          refine q_aload_n (pc := 142) dX12_takes_142 rfl rfl ?_
          refine q_getP (pc := 143) dX12_takes_143 fX12_28 (Model_sh hm) ⟨by decide, rfl⟩ (Model_lt hm) (Model_p_taken hm) ?_
          refine q_iload (pc := 146) dX12_takes_146 rfl ?_
          refine q_dup2 (pc := 148) dX12_takes_148 rfl rfl ?_
          refine q_iald (pc := 149) dX12_takes_149 (oA_sh (Model_s_taken hm)) (oA_lt (Model_s_taken hm)) rfl hc ?_
          rw [hJ.1 _ hc]
          refine q_iconst (pc := 150) (v := nI 1) dX12_takes_150 (by decide) ?_
          refine q_iaddN (pc := 151) dX12_takes_151 ?_
          refine q_iast (pc := 152) dX12_takes_152 (oA_sh (Model_s_taken hm)) (oA_lt (Model_s_taken hm)) rfl hc ?_
          refine q_aload_n (pc := 153) dX12_takes_153 rfl rfl ?_
          refine q_getP (pc := 154) dX12_takes_154 fX12_31 (Model_sh hm) ⟨by decide, rfl⟩ (Model_lt hm) (Model_p_rests hm) ?_
          refine q_iload (pc := 157) dX12_takes_157 rfl ?_
          refine q_iconst (pc := 159) (v := (-1)) dX12_takes_159 (by decide) ?_
          refine q_iast (pc := 160) dX12_takes_160 (oA_sh (Model_s_rests hm)) (oA_lt (Model_s_rests hm)) rfl hc ?_
          refine q_iinc (pc := 161) (v := nI (kk + 1)) dX12_takes_161 rfl (bq_inc _) (Nat.le_of_ble_eq_true rfl) rfl ?_
          show bq_W _ _ _ _ _ 164 [_, _, _, _, _, _, _] _ _ _ _ _ _ _
          refine q_goto (pc := 164) 91 dX12_takes_164 (by decide) ?_
          rw [show kk + (c + 1) = kk + 1 + c by omega]
          exact ihc (kk + 1) _ (npo X) _ _ (by omega) hJ2
        · intro i hi ih
          refine q_iload (pc := 103) dX12_takes_103 rfl ?_
          refine q_bipush (pc := 105) (v := nI 16) dX12_takes_105 (by decide) ?_
          refine q_icmp_ge (pc := 107) 142 dX12_takes_107 (by decide) (fun c_107 => absurd c_107 (nI_ge hi (by decide))) (fun c_107 => ?_)
          refine q_aload_n (pc := 110) dX12_takes_110 rfl rfl ?_
          refine q_getP (pc := 111) dX12_takes_111 fX12_31 (Model_sh hm) ⟨by decide, rfl⟩ (Model_lt hm) (Model_p_rests hm) ?_
          refine q_iload (pc := 114) dX12_takes_114 rfl ?_
          refine q_iald (pc := 116) dX12_takes_116 (oA_sh (Model_s_rests hm)) (oA_lt (Model_s_rests hm)) rfl hi ?_
          refine q_aload_n (pc := 117) dX12_takes_117 rfl rfl ?_
          refine q_getP (pc := 118) dX12_takes_118 fX12_31 (Model_sh hm) ⟨by decide, rfl⟩ (Model_lt hm) (Model_p_rests hm) ?_
          refine q_iload (pc := 121) dX12_takes_121 rfl ?_
          refine q_iald (pc := 123) dX12_takes_123 (oA_sh (Model_s_rests hm)) (oA_lt (Model_s_rests hm)) rfl (Nat.lt_of_le_of_lt (bq_am_le2 _ i) hi) ?_
          refine q_icmp_le (pc := 124) 132 dX12_takes_124 (by decide) (fun c_124 => ?_) (fun c_124 => ?_)
          · refine q_iload (pc := 132) dX12_takes_132 rfl ?_
            refine q_istore (pc := 134) dX12_takes_134 (Nat.le_of_ble_eq_true rfl) rfl ?_
            show bq_W _ _ _ _ _ 136 [_, _, _, _, _, _, _] _ _ _ _ _ _ _
            refine q_iinc (pc := 136) (v := nI (i + 1)) dX12_takes_136 rfl (bq_inc _) (Nat.le_of_ble_eq_true rfl) rfl ?_
            show bq_W _ _ _ _ _ 139 [_, _, _, _, _, _, _] _ _ _ _ _ _ _
            refine q_goto (pc := 139) 103 dX12_takes_139 (by decide) ?_
            rw [show (bq_am (J (m + 8)) (i + 1)) = _ from if_pos c_124] at ih
            exact ih
          · refine q_iload (pc := 127) dX12_takes_127 rfl ?_
            refine q_goto (pc := 129) 134 dX12_takes_129 (by decide) ?_
            refine q_istore (pc := 134) dX12_takes_134 (Nat.le_of_ble_eq_true rfl) rfl ?_
            show bq_W _ _ _ _ _ 136 [_, _, _, _, _, _, _] _ _ _ _ _ _ _
            refine q_iinc (pc := 136) (v := nI (i + 1)) dX12_takes_136 rfl (bq_inc _) (Nat.le_of_ble_eq_true rfl) rfl ?_
            show bq_W _ _ _ _ _ 139 [_, _, _, _, _, _, _] _ _ _ _ _ _ _
            refine q_goto (pc := 139) 103 dX12_takes_139 (by decide) ?_
            rw [show (bq_am (J (m + 8)) (i + 1)) = _ from if_neg c_124] at ih
            exact ih
      refine q_iload (pc := 91) dX12_takes_91 rfl ?_
      refine q_iload_n (pc := 93) dX12_takes_93 rfl rfl ?_
      refine q_icmp_ge (pc := 94) 167 dX12_takes_94 (by decide) (fun c_94 => absurd c_94 (nI_ge (by omega) (by omega))) (fun c_94 => ?_)
      refine q_iconst (pc := 97) (v := nI 0) dX12_takes_97 (by decide) ?_
      refine q_istore (pc := 98) dX12_takes_98 (Nat.le_of_ble_eq_true rfl) rfl ?_
      show bq_W _ _ _ _ _ 100 [_, _, _, _, _, _, _] _ _ _ _ _ _ _
      refine q_iconst (pc := 100) (v := nI 1) dX12_takes_100 (by decide) ?_
      refine q_istore (pc := 101) dX12_takes_101 (Nat.le_of_ble_eq_true rfl) rfl ?_
      show bq_W _ _ _ _ _ 103 [_, _, _, _, _, _, _] _ _ _ _ _ _ _
      exact (bq_am_1 (J (m + 8))) ▸ li 1 (by decide)
  have lp : ∀ i, i ≤ 16 → ∀ v5 v6 : Option Value, bq_W mX12_takes 2 34 0 0 13 [some (.ref m), some (.int (nI l)), some (.int (nI (ns F 16))), some (.int (nI (l - ns (nqq F l) i))), some (.int (nI i)), v5, v6] [] S n (mt1 I m F l i) L P (qTk m F l I S n L P) := by
    refine bq_down (A := fun i => ∀ v5 v6 : Option Value, bq_W mX12_takes 2 34 0 0 13 [some (.ref m), some (.int (nI l)), some (.int (nI (ns F 16))), some (.int (nI (l - ns (nqq F l) i))), some (.int (nI i)), v5, v6] [] S n (mt1 I m F l i) L P (qTk m F l I S n L P)) 16 ?_ ?_
    · intro v5 v6
      refine q_iload (pc := 13) dX12_takes_13 rfl ?_
      refine q_bipush (pc := 15) (v := nI 16) dX12_takes_15 (by decide) ?_
      refine q_icmp_ge (pc := 17) 88 dX12_takes_17 (by decide) (fun c_17 => ?_) (fun c_17 => absurd (by decide) c_17)
      refine q_iconst (pc := 88) (v := nI 0) dX12_takes_88 (by decide) ?_
      refine q_istore (pc := 89) dX12_takes_89 (Nat.le_of_ble_eq_true rfl) rfl ?_
      show bq_W _ _ _ _ _ 91 [_, _, _, _, _, _, _] _ _ _ _ _ _ _
      have := l2 (l - ns (nqq F l) 16) 0 _ (nqq F l, nrr F l) v5 v6 (by omega) (TkI.start hF hl hp)
      rw [Nat.zero_add] at this
      exact this
    · intro i hi ih v5 v6
      refine q_iload (pc := 13) dX12_takes_13 rfl ?_
      refine q_bipush (pc := 15) (v := nI 16) dX12_takes_15 (by decide) ?_
      refine q_icmp_ge (pc := 17) 88 dX12_takes_17 (by decide) (fun c_17 => absurd c_17 (nI_ge hi (by decide))) (fun c_17 => ?_)
      refine q_aload_n (pc := 20) dX12_takes_20 rfl rfl ?_
      refine q_getP (pc := 21) dX12_takes_21 fX12_28 (Model_sh hm) ⟨by decide, rfl⟩ (Model_lt hm) (Model_p_taken hm) ?_
      refine q_iload (pc := 24) dX12_takes_24 rfl ?_
      refine q_iload_n (pc := 26) dX12_takes_26 rfl rfl ?_
      refine q_if_ne (pc := 27) 34 dX12_takes_27 (by decide) (fun c_27 => ?_) (fun c_27 => ((nI_ne0 hp (by omega) c_27 : False)).elim)
      refine q_aload_n (pc := 34) dX12_takes_34 rfl rfl ?_
      refine q_getP (pc := 35) dX12_takes_35 fX12_25 (Model_sh hm) ⟨by decide, rfl⟩ (Model_lt hm) (Model_p_there hm) ?_
      refine q_iload (pc := 38) dX12_takes_38 rfl ?_
      refine q_iald (pc := 40) dX12_takes_40 (oA_sh (Model_s_there hm)) (oA_lt (Model_s_there hm)) rfl (by omega) ?_
      rw [mt1_ne (by omega) (by omega) i, hF i hi]
      refine q_iload_n (pc := 41) dX12_takes_41 rfl rfl ?_
      refine q_imulN (pc := 42) dX12_takes_42 ?_
      refine q_iload_n (pc := 43) dX12_takes_43 rfl rfl ?_
      refine q_idiv (pc := 44) dX12_takes_44 (nI_ne0 hp (by omega)) ?_
      rw [show nI (F i * l) / nI (ns F 16) = nI (nqq F l i) from pk_div (hmul i hi) hp (by omega)]
      refine q_iast (pc := 45) dX12_takes_45 (oA_sh (Model_s_taken hm)) (oA_lt (Model_s_taken hm)) rfl (by omega) ?_
      refine q_aload_n (pc := 46) dX12_takes_46 rfl rfl ?_
      refine q_getP (pc := 47) dX12_takes_47 fX12_31 (Model_sh hm) ⟨by decide, rfl⟩ (Model_lt hm) (Model_p_rests hm) ?_
      refine q_iload (pc := 50) dX12_takes_50 rfl ?_
      refine q_iload_n (pc := 52) dX12_takes_52 rfl rfl ?_
      refine q_if_ne (pc := 53) 60 dX12_takes_53 (by decide) (fun c_53 => ?_) (fun c_53 => ((nI_ne0 hp (by omega) c_53 : False)).elim)
      refine q_aload_n (pc := 60) dX12_takes_60 rfl rfl ?_
      refine q_getP (pc := 61) dX12_takes_61 fX12_25 (Model_sh hm) ⟨by decide, rfl⟩ (Model_lt hm) (Model_p_there hm) ?_
      refine q_iload (pc := 64) dX12_takes_64 rfl ?_
      refine q_iald (pc := 66) dX12_takes_66 (oA_sh (Model_s_there hm)) (oA_lt (Model_s_there hm)) rfl (by omega) ?_
      rw [bq_u_ne (show m + 6 ≠ m + 7 by omega), mt1_ne (by omega) (by omega) i, hF i hi]
      refine q_iload_n (pc := 67) dX12_takes_67 rfl rfl ?_
      refine q_imulN (pc := 68) dX12_takes_68 ?_
      refine q_iload_n (pc := 69) dX12_takes_69 rfl rfl ?_
      refine q_irem (pc := 70) dX12_takes_70 (nI_ne0 hp (by omega)) ?_
      rw [show nI (F i * l) - nI (F i * l) / nI (ns F 16) * nI (ns F 16) = nI (nrr F l i) from pk_rem (hmul i hi) hp (by omega)]
      refine q_iast (pc := 71) dX12_takes_71 (oA_sh (Model_s_rests hm)) (oA_lt (Model_s_rests hm)) rfl (by omega) ?_
      refine q_iload_n (pc := 72) dX12_takes_72 rfl rfl ?_
      refine q_aload_n (pc := 73) dX12_takes_73 rfl rfl ?_
      refine q_getP (pc := 74) dX12_takes_74 fX12_28 (Model_sh hm) ⟨by decide, rfl⟩ (Model_lt hm) (Model_p_taken hm) ?_
      refine q_iload (pc := 77) dX12_takes_77 rfl ?_
      refine q_iald (pc := 79) dX12_takes_79 (oA_sh (Model_s_taken hm)) (oA_lt (Model_s_taken hm)) rfl (by omega) ?_
      rw [bq_u_ne (show m + 7 ≠ m + 8 by omega), bq_u_at]
      refine q_isub (pc := 80) dX12_takes_80 ?_
      rw [show nI (l - ns (nqq F l) i) - nI (nqq F l i) = nI (l - ns (nqq F l) (i + 1)) from by { have h1 := hmono (i + 1) (by omega); have e : ns (nqq F l) (i + 1) = ns (nqq F l) i + nqq F l i := rfl; rw [pk_sub (by omega)]; congr 1; omega }]
      refine q_istore_n (pc := 81) dX12_takes_81 rfl (Nat.le_of_ble_eq_true rfl) rfl ?_
      show bq_W _ _ _ _ _ 82 [_, _, _, _, _, _, _] _ _ _ _ _ _ _
      refine q_iinc (pc := 82) (v := nI (i + 1)) dX12_takes_82 rfl (bq_inc _) (Nat.le_of_ble_eq_true rfl) rfl ?_
      show bq_W _ _ _ _ _ 85 [_, _, _, _, _, _, _] _ _ _ _ _ _ _
      refine q_goto (pc := 85) 13 dX12_takes_85 (by decide) ?_
      exact ih _ _
  refine q_aload_n (pc := 0) dX12_takes_0 rfl rfl ?_
  refine q_getP (pc := 1) dX12_takes_1 fX12_25 (Model_sh hm) ⟨by decide, rfl⟩ (Model_lt hm) (Model_p_there hm) ?_
  refine q_callSF (pc := 4) dX12_takes_4 kX12_84 (c_X12_sumOf (Model_s_there hm)) ⟨Nat.le_of_ble_eq_true rfl, Nat.le_of_ble_eq_true rfl⟩ rfl rfl (Nat.le_of_ble_eq_true rfl) ?_
  show bq_W _ _ _ _ _ 7 _ [_] _ _ _ _ _ _
  rw [hs]
  refine q_istore_n (pc := 7) dX12_takes_7 rfl (Nat.le_of_ble_eq_true rfl) rfl ?_
  show bq_W _ _ _ _ _ 8 [_, _, _, _, _, _, _] _ _ _ _ _ _ _
  refine q_iload_n (pc := 8) dX12_takes_8 rfl rfl ?_
  refine q_istore_n (pc := 9) dX12_takes_9 rfl (Nat.le_of_ble_eq_true rfl) rfl ?_
  show bq_W _ _ _ _ _ 10 [_, _, _, _, _, _, _] _ _ _ _ _ _ _
  refine q_iconst (pc := 10) (v := nI 0) dX12_takes_10 (by decide) ?_
  refine q_istore (pc := 11) dX12_takes_11 (Nat.le_of_ble_eq_true rfl) rfl ?_
  show bq_W _ _ _ _ _ 13 [_, _, _, _, _, _, _] _ _ _ _ _ _ _
  exact lp 0 (by decide) _ _
