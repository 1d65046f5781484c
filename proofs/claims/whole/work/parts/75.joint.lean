/-! the two objects side by side -/
def Alk (g g' : BqG) : Prop := ∀ k, k < 650 → g k = g' k
theorem CS.alk {I : BqI} {L : BqL} {s : Nat} {g g' : BqG} (h : CS I L s g) (e : Alk g g') : CS I L s g' := by
  refine ⟨fun k a j hk => (h.1 k a j hk).trans (e k (lc_lt hk)), fun q hq => ?_, ?_, ?_⟩
  · rw [h.2.1 q hq, e _ (by omega)]
  · rw [h.2.2.1]; exact paidN_congr 10 (fun q hq => ⟨e _ (by omega), e _ (by omega)⟩)
  · rw [h.2.2.2, e 6 (by omega)]
theorem GK.alk {g g' : BqG} {en : Nat} (h : GK g en) (e : Alk g g') : GK g' en :=
  GK.of (fun k hk h6 => by rw [← e k hk]; exact h.1 k hk h6) h.2.1 (by rw [← e 6 (by omega)]; exact h.2.2)
theorem CXS.alk {x : Nat} {S : BqH} {n : Nat} {I : BqI} {L : BqL} {P : BqP} {g g' : BqG} {h h' : Nat → BqG} {ch : Nat} (hX : CXS x S n I L P g h ch) (e : Alk g g') (eh : ∀ i, i < ch → Alk (h i) (h' i)) : CXS x S n I L P g' h' ch := by
  obtain ⟨hx, hC, hc, hl, π, hP, hh⟩ := hX
  exact ⟨hx, hC.alk e, hc, hl, π, hP, fun i hi => (hh i hi).alk (eh i hi)⟩
theorem CXS.all {x : Nat} {S : BqH} {n : Nat} {I I' : BqI} {L : BqL} {P : BqP} {g : BqG} {h : Nat → BqG} {ch : Nat} (hX : CXS x S n I L P g h ch) (f : ∀ a, a < x + 131 ∨ (x + 165 ≤ a ∧ a < x + 536) → I' a = I a) : CXS x S n I' L P g h ch := by
  obtain ⟨hx, hC, hc, hl, π, hP, hh⟩ := hX
  refine ⟨hx, hC.fr (fun a q1 q2 => f a (by omega)) (fun _ _ _ => rfl), by rw [f x (by omega)]; exact hc, hl, π, hP, fun i hi => ?_⟩
  have h7 := (hP.1 i (by omega)).2
  exact (hh i hi).fr (fun a q1 q2 => f a (by omega)) (fun _ _ _ => rfl)
theorem oModel.congr {S : BqH} {n : Nat} {P P' : BqP} {m : Nat} (h : oModel S n P m) (e : P' m = P m) : oModel S n P' m := by
  unfold oModel
  rw [e]
  exact h
def JI (x m : Nat) (S : BqH) (n : Nat) (I : BqI) (L : BqL) (P : BqP) (h : Nat → BqG) (ch l en : Nat) : Prop :=
  CXS x S n I L P (I (m + 1)) h ch ∧ oModel S n P m ∧ MH m I h ch ∧ GK (I (m + 1)) en ∧ (∀ i, i < ch → GK (h i) en) ∧ (I (x + 108) 0 = nI l ∧ I m 9 = nI l ∧ l ≤ 60 ∧ ∀ j, j < l → I (x + 108 + 1) j = I (m + 5) j) ∧ I x 10 = (if I m 7 = 0 then (-5) else I m 7) ∧ I m 6 = nI 0 ∧ ((I x 4 = 0 ∧ I m 4 = 0) ∨ (¬ I x 4 = 0 ∧ ¬ I m 4 = 0 ∧ CS I L (x + 55) (I (m + 3)) ∧ GK (I (m + 3)) en))
theorem Op.x {g : BqG} {h : Nat → BqG} {ch en : Nat} {p : Int32 → BqR} (O : Op g h ch en p) (hg : GK g en) (hh : ∀ i, i < ch → GK (h i) en) (hl : ch ≤ 6) : ∃ (a : Int32) (g' : BqG) (h' : Nat → BqG) (ch' : Nat) (r : Option Int32), GK g' (en + 60) ∧ (∀ i, i < ch' → GK (h' i) (en + 60)) ∧ (∀ v, r = some v → ¬ v = 0) ∧ ∀ y, p y = (a, g', h', ch', r.getD y) := by
  obtain ⟨a, g', hK, ⟨r, hr, e⟩ | e⟩ := O
  · exact ⟨a, g', h, ch, r, hK, fun i hi => (hh i hi).mono (by omega), hr, e⟩
  · refine ⟨a, g', (remH 0 g h ch).1, (remH 0 g h ch).2, none, hK, fun i hi => ?_, fun _ z => (by cases z), fun y => (e y).trans chg_rem⟩
    unfold remH at hi ⊢
    rw [if_neg (show ¬ 0 = 1 by decide)] at hi ⊢
    by_cases c : ch < 6
    · rw [if_pos c] at hi ⊢
      have hi : i < ch + 1 := hi
      show GK (bq_r h ch g i) (en + 60)
      by_cases q : i = ch
      · rw [q, bq_r_self]; exact hg.mono (by omega)
      · rw [bq_r_ne q]; exact (hh i (by omega)).mono (by omega)
    · rw [if_neg c] at hi ⊢
      have hi : i < 6 := hi
      show GK (if i = 5 then g else h (i + 1)) (en + 60)
      by_cases q : i = 5
      · rw [if_pos q]; exact hg.mono (by omega)
      · rw [if_neg q]; exact (hh (i + 1) (by omega)).mono (by omega)
section
variable {x m : Nat} {S : BqH} {n : Nat} {I : BqI} {L : BqL} {P : BqP} {h : Nat → BqG} {ch l en : Nat}
/-- behind the class's call: what the model's call needs -/
theorem JI.mid {r : Option Value} {S1 : BqH} {n1 : Nat} {I1 : BqI} {L1 : BqL} {P1 : BqP} {w : BqR} (J : JI x m S n I L P h ch l en) (hxm : x + 536 ≤ m) (q : qOp x I L S n P w r S1 n1 I1 L1 P1) : oModel S1 n1 P1 m ∧ MH m I1 h ch ∧ I1 (m + 1) = I (m + 1) ∧ I1 m 6 = nI 0 := by
  obtain ⟨-, rfl, rfl, -, -, q1, -, q2⟩ := q
  have f : ∀ a, x + 536 ≤ a → I1 a = I a := fun a ha => q1.1 a (by omega)
  refine ⟨J.2.1.congr (q2 m (by omega)), ⟨?_, J.2.2.1.2.1, fun i hi k hk => ?_⟩, f _ (by omega), ?_⟩
  · rw [f m hxm]; exact J.2.2.1.1
  · rw [f _ (by omega)]; exact J.2.2.1.2.2 i hi k hk
  · rw [f m hxm]; exact J.2.2.2.2.2.2.2.1
theorem JI.op {p : Int32 → BqR} {r r2 : Option Value} {S1 S2 : BqH} {n1 n2 : Nat} {I1 I2 : BqI} {L1 L2 : BqL} {P1 P2 : BqP} (J : JI x m S n I L P h ch l en) (hxm : x + 536 ≤ m) (O : Op (I (m + 1)) h ch en p) (q : qOp x I L S n P (p (I x 10)) r S1 n1 I1 L1 P1) (q2 : qMo m I1 S1 n1 L1 P1 (p (I1 m 7)) r2 S2 n2 I2 L2 P2) : (∃ v, r = some (.int v) ∧ r2 = some (.int v)) ∧ n2 = n ∧ ∃ h' ch', JI x m S2 n2 I2 L2 P2 h' ch' l (en + 60) := by
  obtain ⟨jX, jM, jH, jg, jh, ⟨t1, t2, t3, t4⟩, jr, j6, ji⟩ := J
  obtain ⟨a, g', h', ch', rr, hK, hKh, hr, e⟩ := O.x jg jh jH.2.1
  rw [e] at q q2
  obtain ⟨rfl, rfl, rfl, x1, x2, ⟨x3, x3b⟩, x4, x5⟩ := q
  obtain ⟨rfl, rfl, rfl, rfl, rfl, m1, m2, m3, m4, m5⟩ := q2
  have fx : ∀ b, b < m → I2 b = I1 b := fun b hb => m4 b (Or.inl hb)
  have fm : ∀ b, x + 536 ≤ b → I1 b = I b := fun b hb => x3 b (by omega)
  refine ⟨⟨a, rfl, rfl⟩, rfl, h', ch', ?_, jM.congr (x5 m (by omega)), m2, ?_, hKh, ⟨?_, ?_, t3, fun j hj => ?_⟩, ?_, ?_, ?_⟩
  · rw [m1]
    exact x1.all (fun b hb => fx b (by omega))
  · rw [m1]; exact hK
  · rw [fx _ (by omega), x3 _ (by omega)]; exact t1
  · rw [m5 9 (by decide) (by decide) (by decide), fm m hxm]; exact t2
  · rw [fx _ (by omega), x3 _ (by omega), m4 (m + 5) (by omega), fm _ (by omega)]; exact t4 j hj
  · rw [fx x (by omega), x2, m3]
    show rr.getD (I x 10) = (if rr.getD (I1 m 7) = 0 then (-5) else rr.getD (I1 m 7))
    cases hrr : rr with
    | none => show I x 10 = (if I1 m 7 = 0 then (-5) else I1 m 7); rw [fm m hxm]; exact jr
    | some v => exact (if_neg (hr v hrr)).symm
  · rw [m5 6 (by decide) (by decide) (by decide), fm m hxm]; exact j6
  · have e4 : I2 x 4 = I x 4 := by rw [fx x (by omega)]; exact x3b
    have em4 : I2 m 4 = I m 4 := by rw [m5 4 (by decide) (by decide) (by decide), fm m hxm]
    have em3 : I2 (m + 3) = I (m + 3) := by rw [m4 (m + 3) (by omega), fm _ (by omega)]
    rw [e4, em4, em3]
    rcases ji with ji | ⟨i1, i2, i3, i4⟩
    · exact Or.inl ji
    · exact Or.inr ⟨i1, i2, i3.fr (fun b q1 q2 => by rw [fx b (by omega), x3 b (by omega)]) (fun b q1 q2 => x4 b (by omega)), i4.mono (by omega)⟩
/-- a reading: neither object's rows are touched -/
theorem JI.fr {I' : BqI} (J : JI x m S n I L P h ch l en) (hxm : x + 536 ≤ m) (f : ∀ a, a < x + 131 ∨ (x + 165 ≤ a ∧ a < m) ∨ (m < a ∧ a < m + 6) → I' a = I a) (f0 : ∀ k, k ≠ 17 → I' m k = I m k) : JI x m S n I' L P h ch l (en + 60) := by
  obtain ⟨jX, jM, jH, jg, jh, ⟨t1, t2, t3, t4⟩, jr, j6, ji⟩ := J
  have e1 : I' (m + 1) = I (m + 1) := f _ (by omega)
  have e3 : I' (m + 3) = I (m + 3) := f _ (by omega)
  refine ⟨?_, jM, ⟨?_, jH.2.1, fun i hi k hk => ?_⟩, ?_, fun i hi => (jh i hi).mono (by omega), ⟨?_, ?_, t3, fun j hj => ?_⟩, ?_, ?_, ?_⟩
  · rw [e1]; exact jX.all (fun a ha => f a (by omega))
  · rw [f0 2 (by decide)]; exact jH.1
  · rw [f _ (by omega)]; exact jH.2.2 i hi k hk
  · rw [e1]; exact jg.mono (by omega)
  · rw [f _ (by omega)]; exact t1
  · rw [f0 9 (by decide)]; exact t2
  · rw [f _ (by omega), f _ (by omega)]; exact t4 j hj
  · rw [f x (by omega), f0 7 (by decide)]; exact jr
  · rw [f0 6 (by decide)]; exact j6
  · rw [f x (by omega), f0 4 (by decide), e3]
    rcases ji with ji | ⟨i1, i2, i3, i4⟩
    · exact Or.inl ji
    · exact Or.inr ⟨i1, i2, i3.fr (fun b q1 q2 => f b (by omega)) (fun _ _ _ => rfl), i4.mono (by omega)⟩
end
