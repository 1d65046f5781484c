/-! the cellar: its cells, the relation to the row, what holds of the row -/
def oX (S : BqH) (n : Nat) (P : BqP) (x : Nat) : Prop := S x = (11, 0) ∧ x + 535 < n ∧ P x 0 = some (x + 1) ∧ oState S n P (x + 1) ∧ P x 1 = some (x + 54) ∧ S (x + 54) = (19, 7) ∧ P x 3 = some (x + 55) ∧ oState S n P (x + 55) ∧ P x 5 = some (x + 108) ∧ oTape S n P (x + 108) ∧ P x 6 = some (x + 131) ∧ oPlan S n P (x + 131) ∧ P x 7 = some (x + 152) ∧ oMixer S n P (x + 152) ∧ P x 8 = some (x + 157) ∧ oPortion S n P (x + 157) ∧ P x 9 = some (x + 161) ∧ oPortion S n P (x + 161)
section
variable {S : BqH} {n : Nat} {P : BqP} {x : Nat}
theorem Cellar_sh (h : oX S n P x) : S x = (11, 0) := h.1
theorem Cellar_lt (h : oX S n P x) : x < n := by have := h.2.1; omega
theorem Cellar_p_state (h : oX S n P x) : P x 0 = some (x + 1) := h.2.2.1
theorem Cellar_s_state (h : oX S n P x) : oState S n P (x + 1) := h.2.2.2.1
theorem Cellar_p_past (h : oX S n P x) : P x 1 = some (x + 54) := h.2.2.2.2.1
theorem Cellarpast_sh (h : oX S n P x) : S (x + 54) = (19, 7) := h.2.2.2.2.2.1
theorem Cellarpast_lt (h : oX S n P x) : x + 54 < n := by have := h.2.1; omega
theorem Cellar_p_snapshot (h : oX S n P x) : P x 3 = some (x + 55) := h.2.2.2.2.2.2.1
theorem Cellar_s_snapshot (h : oX S n P x) : oState S n P (x + 55) := h.2.2.2.2.2.2.2.1
theorem Cellar_p_tape (h : oX S n P x) : P x 5 = some (x + 108) := h.2.2.2.2.2.2.2.2.1
theorem Cellar_s_tape (h : oX S n P x) : oTape S n P (x + 108) := h.2.2.2.2.2.2.2.2.2.1
theorem Cellar_p_plan (h : oX S n P x) : P x 6 = some (x + 131) := h.2.2.2.2.2.2.2.2.2.2.1
theorem Cellar_s_plan (h : oX S n P x) : oPlan S n P (x + 131) := h.2.2.2.2.2.2.2.2.2.2.2.1
theorem Cellar_p_mixer (h : oX S n P x) : P x 7 = some (x + 152) := h.2.2.2.2.2.2.2.2.2.2.2.2.1
theorem Cellar_s_mixer (h : oX S n P x) : oMixer S n P (x + 152) := h.2.2.2.2.2.2.2.2.2.2.2.2.2.1
theorem Cellar_p_taken (h : oX S n P x) : P x 8 = some (x + 157) := h.2.2.2.2.2.2.2.2.2.2.2.2.2.2.1
theorem Cellar_s_taken (h : oX S n P x) : oPortion S n P (x + 157) := h.2.2.2.2.2.2.2.2.2.2.2.2.2.2.2.1
theorem Cellar_p_wasted (h : oX S n P x) : P x 9 = some (x + 161) := h.2.2.2.2.2.2.2.2.2.2.2.2.2.2.2.2.1
theorem Cellar_s_wasted (h : oX S n P x) : oPortion S n P (x + 161) := h.2.2.2.2.2.2.2.2.2.2.2.2.2.2.2.2.2
end
/-- a number of the row -/
def gn (g : BqG) (k : Nat) : Nat := (g k).toNatClampNeg
def gp (g : BqG) (t b : Nat) : Nat := gn g (13 + 19 * t + b)
def gt (g : BqG) (t : Nat) : Nat := ns (gp g t) 16
/-- what is held of a batch: in tanks -/
def gb (g : BqG) (b : Nat) : Nat := ns (fun t => gp g t b) 6
def GI (g : BqG) (en : Nat) : Prop :=
  (∀ k, k < 650 → k ≠ 6 → g k = nI (gn g k) ∧ gn g k < 2 ^ 31) ∧
  gn g 0 ≤ 9999 ∧ gn g 1 ≤ 16 ∧ gn g 2 ≤ 10 ∧ gn g 3 ≤ 10 ∧ gn g 4 ≤ 100 ∧ gn g 5 ≤ en ∧
  (∀ t, t < 6 → 1 ≤ gn g (10 + 19 * t) ∧ gn g (10 + 19 * t) ≤ 9999 ∧ gn g (11 + 19 * t) ≤ 3 ∧ gn g (12 + 19 * t) ≤ 10001 ∧ gt g t ≤ gn g (10 + 19 * t) ∧ (gn g (11 + 19 * t) = 1 ↔ 0 < gt g t)) ∧
  (∀ b, b < 16 → gn g (124 + 5 * b) ≤ 2000 ∧ gb g b + gn g (126 + 5 * b) + gn g (127 + 5 * b) = gn g (125 + 5 * b) ∧ gn g (125 + 5 * b) ≤ 9999 ∧ (gn g 1 ≤ b → gn g (125 + 5 * b) = 0)) ∧
  (∀ o, o < 10 → gn g (205 + 9 * o) ≤ 9999 ∧ (o < gn g 2 → 1 ≤ gn g (205 + 9 * o)) ∧ gn g (206 + 9 * o) ≤ 2000 ∧ gn g (207 + 9 * o) ≤ 2000 ∧ gn g (204 + 9 * o) ≤ 10098 ∧ gn g (208 + 9 * o) ≤ 2 ∧ gn g (209 + 9 * o) ≤ 20000000 ∧ gn g (212 + 9 * o) ≤ 20000000 ∧ (gn g 2 ≤ o → gn g (208 + 9 * o) = 0)) ∧
  (∀ r, r < 10 → gn g (296 + 3 * r) ≤ 9999) ∧
  (g 6).toInt.natAbs ≤ 200000000
/-- the sum of what was paid for the first k orders -/
def paidN (g : BqG) : Nat → Int64
  | 0 => 0
  | i + 1 => if g (208 + 9 * i) = nI 1 then paidN g i + (g (209 + 9 * i)).toInt64 else paidN g i
def CSL (L : BqL) (s : Nat) (g : BqG) : Prop := (∀ o, o < 10 → L (s + 43 + o) 8 = (g (212 + 9 * o)).toInt64) ∧ L s 14 = paidN g 10 ∧ L s 15 = (g 6).toInt64
def CS (I : BqI) (L : BqL) (s : Nat) (g : BqG) : Prop := CSI I s g ∧ CSL L s g
theorem paidN_congr {g g' : BqG} : ∀ k, (∀ o, o < k → g' (208 + 9 * o) = g (208 + 9 * o) ∧ g' (209 + 9 * o) = g (209 + 9 * o)) → paidN g' k = paidN g k
  | 0, _ => rfl
  | k + 1, h => by
    unfold paidN
    rw [paidN_congr k (fun o ho => h o (by omega)), (h k (by omega)).1, (h k (by omega)).2]
theorem CSL.congr {L : BqL} {s : Nat} {g g' : BqG} (h : CSL L s g) (h6 : g' 6 = g 6) (hk : ∀ k, 204 ≤ k → k < 294 → g' k = g k) : CSL L s g' :=
  ⟨fun o ho => by rw [h.1 o ho, hk _ (by omega) (by omega)], by rw [h.2.1, paidN_congr 10 (fun o ho => ⟨hk _ (by omega) (by omega), hk _ (by omega) (by omega)⟩)], by rw [h.2.2, h6]⟩
/-- what a work on the state leaves as it was -/
def Frm (x : Nat) (I I' : BqI) : Prop := ∀ a, a < x + 1 ∨ (x + 54 ≤ a ∧ a < x + 131) ∨ x + 165 ≤ a → I' a = I a
def FrmL (x : Nat) (L L' : BqL) : Prop := ∀ a, a < x + 1 ∨ x + 54 ≤ a → L' a = L a
theorem Frm.rf {x : Nat} {I : BqI} : Frm x I I := fun _ _ => rfl
theorem FrmL.rf {x : Nat} {L : BqL} : FrmL x L L := fun _ _ => rfl
theorem Frm.trans {x : Nat} {I I' I'' : BqI} (h : Frm x I I') (h' : Frm x I' I'') : Frm x I I'' := fun a ha => (h' a ha).trans (h a ha)
theorem Frm.u {x : Nat} {I I' : BqI} (h : Frm x I I') {o k : Nat} {v : Int32} (ho : (x + 1 ≤ o ∧ o < x + 54) ∨ (x + 131 ≤ o ∧ o < x + 165)) : Frm x I (bq_u I' o k v) := fun a ha => (bq_u_ne (by omega)).trans (h a ha)
/-- a row of a store is changed alone -/
def One (o : Nat) (I I' : BqI) : Prop := ∀ a, a ≠ o → I' a = I a
theorem Frm.one {x o : Nat} {I I' I'' : BqI} (h : Frm x I I') (h' : One o I' I'') (ho : (x + 1 ≤ o ∧ o < x + 54) ∨ (x + 131 ≤ o ∧ o < x + 165)) : Frm x I I'' := fun a ha => (h' a (by omega)).trans (h a ha)
def qCore (x : Nat) (I : BqI) (L : BqL) (S : BqH) (n : Nat) (P : BqP) (w : Int32 × BqG) : BqQ := fun r S' n' I' L' P' => r = some (.int w.1) ∧ S' = S ∧ n' = n ∧ P' = P ∧ CS I' L' (x + 1) w.2 ∧ Frm x I I' ∧ FrmL x L L'
theorem qCore.same {x : Nat} {I : BqI} {L : BqL} {S : BqH} {n : Nat} {P : BqP} {w : Int32 × BqG} {g : BqG} {v : Int32} (hC : CS I L (x + 1) g) (e : w = (v, g)) : qCore x I L S n P w (some (.int v)) S n I L P := by
  subst e; exact ⟨rfl, rfl, rfl, rfl, hC, Frm.rf, FrmL.rf⟩
theorem bq_in5 (x : Int32) (N : Nat) (hN : N < 2 ^ 30) : (x < nI 0 ∨ ¬ x ≤ nI N) ∨ ∃ t, t < N + 1 ∧ x = nI t := by
  rcases pk_ix x (n := N + 1) (by omega) with h | h | h
  · exact Or.inl (Or.inl h)
  · refine Or.inl (Or.inr fun q => ?_)
    have h1 := Int32.le_iff_toInt_le.mp h
    have h2 := Int32.le_iff_toInt_le.mp q
    rw [nI_toInt (by omega)] at h1 h2
    omega
  · exact Or.inr h
theorem bq_in19 (x : Int32) (A N : Nat) (hA : A ≤ N) (hN : N < 2 ^ 30) : (x < nI A ∨ ¬ x ≤ nI N) ∨ ∃ t, A ≤ t ∧ t ≤ N ∧ x = nI t := by
  rcases pk_ix x (n := N + 1) (by omega) with h | h | ⟨t, ht, rfl⟩
  · refine Or.inl (Or.inl ?_)
    have h1 := Int32.lt_iff_toInt_lt.mp h
    rw [Int32.lt_iff_toInt_lt, nI_toInt (by omega)]
    have : (0 : Int32).toInt = 0 := by decide
    omega
  · refine Or.inl (Or.inr fun q => ?_)
    have h1 := Int32.le_iff_toInt_le.mp h
    have h2 := Int32.le_iff_toInt_le.mp q
    rw [nI_toInt (by omega)] at h1 h2
    omega
  · rcases Nat.lt_or_ge t A with q | q
    · exact Or.inl (Or.inl (nI_lt q (by omega)))
    · exact Or.inr ⟨t, q, by omega, rfl⟩
theorem bq_nin {t A N : Nat} (h1 : A ≤ t) (h2 : t ≤ N) (hN : N < 2 ^ 30) : ¬ (nI t < nI A ∨ ¬ nI t ≤ nI N) := by
  rintro (h | h)
  · exact nI_nlt h1 (by omega) h
  · exact h (nI_le h2 (by omega))
theorem CSI.out {I : BqI} {s : Nat} {g : BqG} (h : CSI I s g) {t o : Nat} {T : Nat → Int32} (ht : t < 6) (ho : o + 1 < s ∨ s + 53 ≤ o + 1) (hT : ∀ j, j < 16 → I (o + 1) j = T j) : CSI (tk_out I (s + 15 + 3 * t) o) s (g_out g t T) := by
  have h1 : CSI (bl_rem I (s + (17 + 3 * t)) (o + 1) 16) s (g_sub g t T) := h.sub ht (by omega) hT
  have e : s + 15 + 3 * t + 2 = s + (17 + 3 * t) := by omega
  unfold tk_out g_out
  rw [e, h1.tot ht]
  by_cases hz : g_tot (g_sub g t T) t = 0
  · rw [if_pos hz, if_pos hz]
    have := h1.u (lc_T (k := 1) ht (by decide)) (nI 2)
    rw [show 10 + 19 * t + 1 = 11 + 19 * t by omega, show s + (15 + 3 * t) = s + 15 + 3 * t by omega] at this
    exact this
  · rw [if_neg hz, if_neg hz]; exact h1
theorem tk_out_ne {I : BqI} {t o a : Nat} (h1 : t + 2 ≠ o + 1) (ha : a ≠ t) (ha2 : a ≠ t + 2) : tk_out I t o a = I a := by
  unfold tk_out
  have hr := (bl_rem_at (I := I) h1 16).1 a ha2
  split
  · rw [bq_u_ne ha, hr]
  · exact hr
theorem jw_ne {I : BqI} {j m a : Nat} {d k t l : Int32} (h1 : a ≠ j) (h2 : a ≠ j + 1) : jw_I I j m d k t l a = I a := by
  by_cases hm : m < 80
  · rw [jw_p hm, bq_u_ne h1, bq_u_ne h2, bq_u_ne h2, bq_u_ne h2, bq_u_ne h2]
  · rw [jw_n hm, bq_u_ne h1]
theorem GI.p {g : BqG} {en t : Nat} (h : GI g en) (ht : t < 6) : ∀ j, j < 16 → g (13 + 19 * t + j) = nI (gp g t j) := fun j hj => (h.1 _ (by omega) (by omega)).1
theorem GI.tot {g : BqG} {en t : Nat} (h : GI g en) (ht : t < 6) : g_tot g t = nI (gt g t) := bq_sum_n 16 (h.p ht)
theorem GI.t {g : BqG} {en t : Nat} (h : GI g en) (ht : t < 6) : 1 ≤ gn g (10 + 19 * t) ∧ gn g (10 + 19 * t) ≤ 9999 ∧ gn g (11 + 19 * t) ≤ 3 ∧ gn g (12 + 19 * t) ≤ 10001 ∧ gt g t ≤ gn g (10 + 19 * t) ∧ (gn g (11 + 19 * t) = 1 ↔ 0 < gt g t) := h.2.2.2.2.2.2.2.1 t ht
theorem GI.n {g : BqG} {en k : Nat} (h : GI g en) (hk : k < 650) (h6 : k ≠ 6) : g k = nI (gn g k) := (h.1 k hk h6).1
theorem GI.lt {g : BqG} {en k : Nat} (h : GI g en) (hk : k < 650) (h6 : k ≠ 6) : gn g k < 2 ^ 31 := (h.1 k hk h6).2
