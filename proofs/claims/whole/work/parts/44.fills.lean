/-! portions of alike rows -/
theorem nam_congr {R R' : Nat → Nat} : ∀ i, (∀ j, j < i → R j = R' j) → nam R i = nam R' i
  | 0, _ => rfl
  | i + 1, h => by
    have ih := nam_congr (R := R) (R' := R') i (fun j hj => h j (by omega))
    have hle := nam_le R' i
    show (if R i ≤ R (nam R i) then nam R i else i) = (if R' i ≤ R' (nam R' i) then nam R' i else i)
    rw [ih, h i (by omega), h (nam R' i) (by omega)]
theorem npit_congr : ∀ (k : Nat) (X Y : (Nat → Nat) × (Nat → Nat)), (∀ j, j < 16 → X.1 j = Y.1 j) → (∀ j, j < 16 → X.2 j = Y.2 j) → ∀ j, j < 16 → (npit k X).1 j = (npit k Y).1 j
  | 0, X, Y, h1, _, j, hj => h1 j hj
  | k + 1, X, Y, h1, h2, j, hj => by
    have e : nam X.2 16 = nam Y.2 16 := nam_congr 16 h2
    have hc : nam Y.2 16 < 16 := nam_lt Y.2 15
    refine npit_congr k (npo X) (npo Y) (fun i hi => ?_) (fun i hi => ?_) j hj
    · show bq_r X.1 _ _ i = bq_r Y.1 _ _ i
      rw [e]
      by_cases c : i = nam Y.2 16
      · subst c; rw [bq_r_self, bq_r_self, h1 _ hc]
      · rw [bq_r_ne c, bq_r_ne c, h1 i hi]
    · show bq_r X.2 _ _ i = bq_r Y.2 _ _ i
      rw [e]
      by_cases c : i = nam Y.2 16
      · subst c; rw [bq_r_self, bq_r_self]
      · rw [bq_r_ne c, bq_r_ne c, h2 i hi]
theorem npt_congr {F G : Nat → Nat} {l : Nat} (h : ∀ j, j < 16 → F j = G j) : ∀ j, j < 16 → npt F l j = npt G l j := by
  have es : ns F 16 = ns G 16 := ns_congr 16 h
  have eq : ∀ j, j < 16 → nqq F l j = nqq G l j := fun j hj => by unfold nqq; rw [h j hj, es]
  have er : ∀ j, j < 16 → nrr F l j = nrr G l j := fun j hj => by unfold nrr; rw [h j hj, es]
  intro j hj
  unfold npt
  rw [ns_congr 16 eq]
  exact npit_congr _ _ _ eq er j hj
/-! the fillings of a plan, one after the other -/
theorem x_fill_p {g : BqG} {t o l k : Nat} (hk : k < 124) (h5 : k ≠ 5) (ho : o < 10) : x_fill g t o l k = g_out g t (tk g t l) k := by
  rw [show x_fill g t o l k = x_fill3 g t o l k from g_note_ne (by omega) h5]
  unfold x_fill3 x_fill2 x_fill1 x_fill0
  rw [bq_r_ne (by omega), bq_r_ne (by omega), bq_r_ne (by omega), bq_r_ne (by omega), bq_r_ne (by omega), g_badd_ne (Or.inl hk)]
def gfl (g : BqG) (O T : Nat → Nat) : Nat → BqG
  | 0 => g
  | j + 1 => x_fill (gfl g O T j) (T j) (O j) (gn g (205 + 9 * O j))
theorem pln_stab {g : BqG} {Q : Nat → Nat} (k : Nat) : ∀ d, (pln g Q k).2.1 ≤ (pln g Q (k + d)).2.1 ∧ ∀ j, j < (pln g Q k).2.1 → (pln g Q (k + d)).2.2.1 j = (pln g Q k).2.2.1 j ∧ (pln g Q (k + d)).2.2.2 j = (pln g Q k).2.2.2 j
  | 0 => ⟨Nat.le_refl _, fun _ _ => ⟨rfl, rfl⟩⟩
  | d + 1 => by
    obtain ⟨h1, h2⟩ := pln_stab (g := g) (Q := Q) k d
    show (pln g Q k).2.1 ≤ (pst g (pln g Q (k + d)) (Q (k + d))).2.1 ∧ ∀ j, j < (pln g Q k).2.1 → (pst g (pln g Q (k + d)) (Q (k + d))).2.2.1 j = _ ∧ (pst g (pln g Q (k + d)) (Q (k + d))).2.2.2 j = _
    unfold pst
    cases bt g (Q (k + d)) (pln g Q (k + d)).1 6 with
    | none => exact ⟨h1, h2⟩
    | some t =>
      refine ⟨Nat.le_succ_of_le h1, fun j hj => ?_⟩
      show bq_r _ _ _ j = _ ∧ bq_r _ _ _ j = _
      rw [bq_r_ne (by omega), bq_r_ne (by omega)]
      exact h2 j hj
/-- filling j of the plan goes through -/
def Vd (g : BqG) (O T : Nat → Nat) (j : Nat) : Prop := T j < 6 ∧ O j < gn g 2 ∧ gn g (205 + 9 * O j) ≤ gt (gfl g O T j) (T j) ∧ gn (gfl g O T j) (205 + 9 * O j) = gn g (205 + 9 * O j) ∧ gn (gfl g O T j) 2 = gn g 2 ∧ w_fill (gfl g O T j) (nI (T j)) (nI (O j)) = (fd (gfl g O T j) (T j) (O j) (gn g (205 + 9 * O j)), gfl g O T (j + 1))
theorem fills_ok {g : BqG} {en n : Nat} {Q : Nat → Nat} (hK : GK g en) (hen : en + 10 < 200000) (hQ : Qok (kk g) (fun o => decide (g (208 + 9 * o) = 0)) (gn g 2) Q n) : ∀ k, k ≤ n → GK (gfl g (pln g Q n).2.2.1 (pln g Q n).2.2.2 (pln g Q k).2.1) (en + (pln g Q k).2.1) ∧ (∀ t, t < 6 → ∀ b, b < 16 → gp (gfl g (pln g Q n).2.2.1 (pln g Q n).2.2.2 (pln g Q k).2.1) t b = (pln g Q k).1 t b) ∧ (∀ q, q < 330 → (q < 10 ∧ q ≠ 5) ∨ (124 ≤ q ∧ q < 204 ∧ (q - 124) % 5 ≠ 2) ∨ (204 ≤ q ∧ (q - 204) % 9 < 4 ∧ q < 294) → gfl g (pln g Q n).2.2.1 (pln g Q n).2.2.2 (pln g Q k).2.1 q = g q) ∧ (∀ o, o < 10 → (∀ i, i < k → Q i ≠ o) → gfl g (pln g Q n).2.2.1 (pln g Q n).2.2.2 (pln g Q k).2.1 (208 + 9 * o) = g (208 + 9 * o)) ∧ (pln g Q k).2.1 ≤ k ∧ ∀ j, j < (pln g Q k).2.1 → Vd g (pln g Q n).2.2.1 (pln g Q n).2.2.2 j
  | 0, _ => ⟨hK, fun _ _ _ _ => rfl, fun _ _ _ => rfl, fun _ _ _ => rfl, Nat.le_refl _, fun j hj => absurd hj (Nat.not_lt_zero _)⟩
  | k + 1, hk => by
    obtain ⟨hG, hp, hq, ho, hck, hV⟩ := fills_ok hK hen hQ k (by omega)
    have hc2 : gn g 2 ≤ 10 := hK.2.1.1.2.2.1
    have hst := pln_stab (g := g) (Q := Q) (k + 1) (n - (k + 1))
    rw [show k + 1 + (n - (k + 1)) = n by omega] at hst
    generalize hO : (pln g Q n).2.2.1 = O at *
    generalize hT : (pln g Q n).2.2.2 = T at *
    have hQk := hQ.2.1 k (by omega)
    have hnl : n ≤ gn g 2 := hQ.2.2.2
    have e1 : pln g Q (k + 1) = pst g (pln g Q k) (Q k) := rfl
    cases hb : bt g (Q k) (pln g Q k).1 6 with
    | none =>
      have e2 : pln g Q (k + 1) = pln g Q k := by rw [e1]; unfold pst; rw [hb]
      rw [e2]
      exact ⟨hG, hp, hq, fun o h1 h2 => ho o h1 (fun i hi => h2 i (by omega)), by omega, hV⟩
    | some t =>
      obtain ⟨ht, hfit⟩ := bt_ok hb
      obtain ⟨f1, f2, f3⟩ := fit_d hfit
      have e2 : pln g Q (k + 1) = (bq_r (pln g Q k).1 t (fun b => (pln g Q k).1 t b - npt ((pln g Q k).1 t) (gn g (205 + 9 * Q k)) b), (pln g Q k).2.1 + 1, bq_r (pln g Q k).2.2.1 (pln g Q k).2.1 (Q k), bq_r (pln g Q k).2.2.2 (pln g Q k).2.1 t) := by rw [e1]; unfold pst; rw [hb]
      have hs := hst.2 (pln g Q k).2.1 (by rw [e2]; exact Nat.lt_succ_self _)
      rw [e2] at hs
      have hOc : O (pln g Q k).2.1 = Q k := by rw [hs.1]; exact bq_r_self
      have hTc : T (pln g Q k).2.1 = t := by rw [hs.2]; exact bq_r_self
      rw [e2]
      show GK (gfl g O T ((pln g Q k).2.1 + 1)) (en + ((pln g Q k).2.1 + 1)) ∧ (∀ t', t' < 6 → ∀ b, b < 16 → gp (gfl g O T ((pln g Q k).2.1 + 1)) t' b = bq_r (pln g Q k).1 t _ t' b) ∧ (∀ q, q < 330 → _ → gfl g O T ((pln g Q k).2.1 + 1) q = g q) ∧ (∀ o, o < 10 → (∀ i, i < k + 1 → Q i ≠ o) → gfl g O T ((pln g Q k).2.1 + 1) (208 + 9 * o) = g (208 + 9 * o)) ∧ (pln g Q k).2.1 + 1 ≤ k + 1 ∧ ∀ j, j < (pln g Q k).2.1 + 1 → Vd g O T j
      generalize (pln g Q k).2.1 = c at *
      generalize hFF : (pln g Q k).1 = F at *
      generalize hGG : gfl g O T c = G at *
      have hGi := hG.gi
      have hQ10 : Q k < 10 := by have := hQk.1; omega
      have e205 : gn G (205 + 9 * Q k) = gn g (205 + 9 * Q k) := by unfold gn; rw [hq _ (by omega) (by omega)]
      have e2c : gn G 2 = gn g 2 := by unfold gn; rw [hq 2 (by omega) (by omega)]
      have hl1 : 1 ≤ gn g (205 + 9 * Q k) := (hK.gi.o hQ10).2.1 hQk.1
      have hgp : gt G t = ns (F t) 16 := ns_congr 16 (fun j hj => hp t ht j hj)
      have hge : gn g (205 + 9 * Q k) ≤ gt G t := by rw [hgp]; exact f1
      have hpos : 0 < gt G t := by omega
      have hph : gn G (11 + 19 * t) = 1 := (hGi.t ht).2.2.2.2.2.mpr hpos
      have hst : g_str G t = bq_str (fun j => nI (F t j)) (fun b => g (124 + 5 * b)) := bq_str_congr (fun j hj => by rw [hGi.p ht j hj, hp t ht j hj]) (fun j hj => hq _ (by omega) (by omega))
      have hop : gn G (208 + 9 * Q k) = 0 := by
        have h0 : g (208 + 9 * Q k) = 0 := of_decide_eq_true hQk.2
        have h1 : G (208 + 9 * Q k) = g (208 + 9 * Q k) := ho (Q k) hQ10 (fun i hi e => by have := hQ.1 i k hi (by omega); rw [e] at this; omega)
        unfold gn
        rw [h1, h0]
        decide
      have hnext : gfl g O T (c + 1) = x_fill G t (Q k) (gn g (205 + 9 * Q k)) := by
        show x_fill (gfl g O T c) (T c) (O c) (gn g (205 + 9 * O c)) = _
        rw [hGG, hOc, hTc]
      have hW : w_fill G (nI t) (nI (Q k)) = (fd G t (Q k) (gn g (205 + 9 * Q k)), x_fill G t (Q k) (gn g (205 + 9 * Q k))) := by
        rw [w_fill_n hGi ht (by rw [e2c]; exact hQk.1)]
        unfold n_fill
        rw [if_neg (not_not_intro hop), if_neg (not_not_intro hph), e205, if_neg (Nat.not_lt.mpr hge), if_neg (not_not_intro ?_)]
        rw [hst, hq (206 + 9 * Q k) (by omega) (by omega), hq (207 + 9 * Q k) (by omega) (by omega)]
        exact ⟨f2, f3⟩
      rw [hnext]
      refine ⟨?_, fun t' ht' b hb16 => ?_, fun q h1 h2 => ?_, fun o h1 h2 => ?_, by omega, fun j hj => ?_⟩
      · have := gk_fill hG (by omega) ht (o := Q k) (by rw [e2c]; exact hQk.1) (by rw [e205]; exact hge) hph
        rw [e205] at this
        exact this
      · have hle := (npt_in (F := gp G t) (l := gn g (205 + 9 * Q k)) hge hpos).1
        unfold gp gn
        rw [x_fill_p (by omega) (by omega) hQ10]
        by_cases c1 : t' = t
        · subst c1
          rw [bq_r_self, g_out_p hb16, hGi.p ht' b hb16]
          have e3 : npt (gp G t') (gn g (205 + 9 * Q k)) b = npt (F t') (gn g (205 + 9 * Q k)) b := npt_congr (fun j hj => hp t' ht' j hj) b hb16
          show (nI (gp G t' b) - nI (npt (gp G t') (gn g (205 + 9 * Q k)) b)).toNatClampNeg = F t' b - npt (F t') (gn g (205 + 9 * Q k)) b
          have hbl : gp G t' b ≤ 9999 := Nat.le_trans (ns_ge (F := gp G t') 16 hb16) (by have h5 := (hGi.t ht').2.2.2.2.1; have h6 := (hGi.t ht').2.1; show gt G t' ≤ 9999; omega)
          rw [pk_sub (hle b hb16).2.1, nI_clamp (by omega), e3, hp t' ht' b hb16]
        · rw [bq_r_ne c1, g_out_ne (by omega) (by omega)]
          exact hp t' ht' b hb16
      · by_cases c5 : q < 10
        · rw [x_fill_n ht (by omega) (by omega), x_fill3_n ht (by omega) (by omega)]; exact hq q h1 h2
        · rw [x_fill_n ht (by omega) (by omega), x_fill3_n ht (by omega) (by omega)]; exact hq q h1 h2
      · have hne : Q k ≠ o := h2 k (by omega)
        rw [x_fill_n ht (by omega) (by omega), x_fill3_n ht (by omega) (by omega)]
        exact ho o h1 (fun i hi => h2 i (by omega))
      · by_cases e : j = c
        · subst e
          unfold Vd
          rw [hGG, hOc, hTc, hnext]
          exact ⟨ht, hQk.1, hge, e205, e2c, hW⟩
        · exact hV j (by omega)
