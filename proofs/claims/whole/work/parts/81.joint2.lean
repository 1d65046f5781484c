/-! the two objects: feeding, running, back, image, undo -/
theorem fz_neg {cs : Nat → BqC} {g : BqG} {q : Nat} : ∀ {n : Nat}, fz cs g n = some q → (wk (ds cs g q) (cs q)).1 < 0
  | 0, h => by
    have h' : (none : Option Nat) = some q := h
    cases h'
  | n + 1, h => by
    have h' : (match fz cs g n with | some q => some q | none => if (wk (ds cs g n) (cs n)).1 < 0 then some n else none) = some q := h
    cases hf : fz cs g n with
    | some p =>
      rw [hf] at h'
      have e : p = q := Option.some.inj h'
      exact fz_neg (hf.trans (congrArg some e))
    | none =>
      rw [hf] at h'
      by_cases c : (wk (ds cs g n) (cs n)).1 < 0
      · have e : n = q := Option.some.inj ((if_pos c).symm.trans h')
        rw [← e]; exact c
      · have h2 := (if_neg c).symm.trans h'
        cases h2
theorem op_run {g : BqG} {h : Nat → BqG} {ch en : Nat} {r : Bool × Nat × Nat × (Nat → BqC)} (hK : GK g en) (hen : en + 60 < 200000) (hn : r.1 = true → 3 * r.2.2.1 ≤ 61) : Op g h ch en (fun y => p_run g h ch y r) := by
  by_cases hr : r.1 = true
  · have hn := hn hr
    cases hf : fz r.2.2.2 g r.2.2.1 with
    | none => exact Op.cg ((ds_gk hK r.2.2.1 (by omega)).mono (by omega)) (fun y => p_run_o hr hf)
    | some q =>
      refine Op.ref hK ?_ (fun y => p_run_f hr hf)
      intro z
      have hw := fz_neg hf
      have z2 : (wk (ds r.2.2.2 g q) (r.2.2.2 q)).1 = 0 := by rw [← Int32.neg_neg (a := (wk (ds r.2.2.2 g q) (r.2.2.2 q)).1), z]; rfl
      rw [z2] at hw
      exact absurd hw (by decide)
  · exact Op.same hK (fun y => p_run_w hr)
theorem CXS.tpb {x : Nat} {S : BqH} {n : Nat} {I I' : BqI} {L : BqL} {P : BqP} {g : BqG} {h : Nat → BqG} {ch : Nat} (hX : CXS x S n I L P g h ch) (f : ∀ a, a < x + 108 ∨ (x + 131 ≤ a ∧ a < x + 536) → I' a = I a) : CXS x S n I' L P g h ch := by
  obtain ⟨hx, hC, hc, hl, π, hP, hh⟩ := hX
  refine ⟨hx, hC.fr (fun a q1 q2 => f a (by omega)) (fun _ _ _ => rfl), by rw [f x (by omega)]; exact hc, hl, π, hP, fun i hi => ?_⟩
  have h7 := (hP.1 i (by omega)).2
  exact (hh i hi).fr (fun a q1 q2 => f a (by omega)) (fun _ _ _ => rfl)
/-- feeding, whatever lies on the tape -/
theorem p_feed_x {l : Nat} {k a b c d e : Int32} (hl : l ≤ 60) : ∃ (v : Int32) (l' : Nat) (F : (Nat → Int32) → Nat → Int32), l' ≤ 60 ∧ (∀ B, p_feed l B k a b c d e = (v, l', F B)) ∧ ∀ B B' : Nat → Int32, (∀ j, j < l → B j = B' j) → ∀ j, j < l' → F B j = F B' j := by
  by_cases hb : (k < nI 1 ∨ ¬ k ≤ nI 5) ∨ (a < nI 0 ∨ ¬ a ≤ nI 127) ∨ (b < nI 0 ∨ ¬ b ≤ nI 127) ∨ (c < nI 0 ∨ ¬ c ≤ nI 127) ∨ (d < nI 0 ∨ ¬ d ≤ nI 127) ∨ (e < nI 0 ∨ ¬ e ≤ nI 127)
  · exact ⟨(-2), l, (fun B => B), hl, fun B => p_feed_bad hb, fun B B' q j hj => q j hj⟩
  obtain ⟨q, q1, q5, rfl⟩ := (bq_in19 k 1 5 (by decide) (by decide)).resolve_left (fun z => hb (Or.inl z))
  have ha : ¬ (a < nI 0 ∨ ¬ a ≤ nI 127) := fun z => hb (Or.inr (Or.inl z))
  have hb' : ¬ (b < nI 0 ∨ ¬ b ≤ nI 127) := fun z => hb (Or.inr (Or.inr (Or.inl z)))
  have hc : ¬ (c < nI 0 ∨ ¬ c ≤ nI 127) := fun z => hb (Or.inr (Or.inr (Or.inr (Or.inl z))))
  have hd : ¬ (d < nI 0 ∨ ¬ d ≤ nI 127) := fun z => hb (Or.inr (Or.inr (Or.inr (Or.inr (Or.inl z)))))
  have he : ¬ (e < nI 0 ∨ ¬ e ≤ nI 127) := fun z => hb (Or.inr (Or.inr (Or.inr (Or.inr (Or.inr z)))))
  by_cases hf : 60 < l + q
  · exact ⟨(-4), l, (fun B => B), hl, fun B => p_feed_full q1 q5 ha hb' hc hd he hf, fun B B' z j hj => z j hj⟩
  · refine ⟨nI (l + q), l + q, (fun B j => if l ≤ j ∧ j < l + q then fb a b c d e (j - l) else B j), by omega, fun B => p_feed_ok q1 q5 ha hb' hc hd he hf, fun B B' z j hj => ?_⟩
    show (if l ≤ j ∧ j < l + q then fb a b c d e (j - l) else B j) = (if l ≤ j ∧ j < l + q then fb a b c d e (j - l) else B' j)
    by_cases w : l ≤ j ∧ j < l + q
    · rw [if_pos w, if_pos w]
    · rw [if_neg w, if_neg w]; exact z j (by omega)
section
variable {x m : Nat} {S : BqH} {n : Nat} {I : BqI} {L : BqL} {P : BqP} {h : Nat → BqG} {ch l en : Nat}
theorem JI.feed {k a b c d e : Int32} {r r2 : Option Value} {S1 S2 : BqH} {n1 n2 : Nat} {I1 I2 : BqI} {L1 L2 : BqL} {P1 P2 : BqP} (J : JI x m S n I L P h ch l en) (hxm : x + 536 ≤ m) (q : qFd x I L S n P (p_feed l (I (x + 108 + 1)) k a b c d e) r S1 n1 I1 L1 P1) (q2 : qFm m I1 S1 n1 L1 P1 (p_feed l (I1 (m + 5)) k a b c d e) r2 S2 n2 I2 L2 P2) : (∃ v, r = some (.int v) ∧ r2 = some (.int v)) ∧ n2 = n ∧ ∃ l', JI x m S2 n2 I2 L2 P2 h ch l' (en + 60) := by
  obtain ⟨jX, jM, jH, jg, jh, ⟨t1, t2, t3, t4⟩, jr, j6, ji⟩ := J
  obtain ⟨v, l', F, hl', e1, e2⟩ := p_feed_x (k := k) (a := a) (b := b) (c := c) (d := d) (e := e) t3
  rw [e1] at q q2
  obtain ⟨rfl, rfl, rfl, rfl, rfl, x0, x1, x2⟩ := q
  obtain ⟨rfl, rfl, rfl, rfl, rfl, m0, m1, m2, m3⟩ := q2
  have f : ∀ a, a ≠ x + 108 → a ≠ x + 108 + 1 → a ≠ m → a ≠ m + 5 → I2 a = I a := fun a z1 z2 z3 z4 => (m2 a z3 z4).trans (x2 a z1 z2)
  have fm : ∀ k, k ≠ 9 → I2 m k = I m k := fun k z => (m3 k z).trans (congrFun (x2 m (by omega) (by omega)) k)
  have g1 : I2 (m + 1) = I (m + 1) := f _ (by omega) (by omega) (by omega) (by omega)
  have g3 : I2 (m + 3) = I (m + 3) := f _ (by omega) (by omega) (by omega) (by omega)
  refine ⟨⟨v, rfl, rfl⟩, rfl, l', ?_, jM, ⟨(fm 2 (by decide)).trans jH.1, jH.2.1, fun i hi k hk => ?_⟩, ?_, fun i hi => (jh i hi).mono (by omega), ⟨?_, m0, hl', fun j hj => ?_⟩, ?_, ?_, ?_⟩
  · rw [g1]; exact jX.tpb (fun a ha => f a (by omega) (by omega) (by omega) (by omega))
  · rw [f _ (by omega) (by omega) (by omega) (by omega)]; exact jH.2.2 i hi k hk
  · rw [g1]; exact jg.mono (by omega)
  · rw [m2 _ (by omega) (by omega)]; exact x0
  · rw [m2 (x + 108 + 1) (by omega) (by omega), x1 j (by omega), m1 j (by omega), x2 (m + 5) (by omega) (by omega)]
    exact e2 _ _ t4 j hj
  · rw [f x (by omega) (by omega) (by omega) (by omega), fm 7 (by decide)]; exact jr
  · rw [fm 6 (by decide)]; exact j6
  · rw [f x (by omega) (by omega) (by omega) (by omega), fm 4 (by decide), g3]
    rcases ji with ji | ⟨i1, i2, i3, i4⟩
    · exact Or.inl ji
    · exact Or.inr ⟨i1, i2, i3.fr (fun b q1 q2 => f b (by omega) (by omega) (by omega) (by omega)) (fun _ _ _ => rfl), i4.mono (by omega)⟩
theorem JI.run {r r2 : Option Value} {S1 S2 : BqH} {n1 n2 : Nat} {I1 I2 : BqI} {L1 L2 : BqL} {P1 P2 : BqP} {cs : Nat → BqC} (J : JI x m S n I L P h ch l en) (hxm : x + 536 ≤ m) (hen : en + 60 < 200000) (q : qRun x I L S n P (p_run (I (m + 1)) h ch (I x 10) (pR (I (x + 108 + 1)) l 21 0 0 cs)) r S1 n1 I1 L1 P1) (q2 : qMr m I1 S1 n1 L1 P1 (p_run (I (m + 1)) h ch (I1 m 7) (pR (I1 (m + 5)) l 21 0 0 cs)) r2 S2 n2 I2 L2 P2) : (∃ v, r = some (.int v) ∧ r2 = some (.int v)) ∧ n2 = n ∧ ∃ h' ch', JI x m S2 n2 I2 L2 P2 h' ch' 0 (en + 60) := by
  obtain ⟨jX, jM, jH, jg, jh, ⟨t1, t2, t3, t4⟩, jr, j6, ji⟩ := J
  have f0 : ∀ a, x + 536 ≤ a → I1 a = I a := fun a ha => q.2.2.2.2.2.2.2.1 a (by omega)
  have eB : hr (I1 (m + 5)) l = hr (I (x + 108 + 1)) l := hr_c (fun j hj => by rw [f0 _ (by omega)]; exact (t4 j hj).symm)
  rw [pR_c eB] at q2
  have hn := pR_n (B := I (x + 108 + 1)) (l := l) 21 0 0 cs (Nat.le_refl _) (Nat.zero_le _)
  generalize pR (I (x + 108 + 1)) l 21 0 0 cs = R at q q2 hn
  have O : Op (I (m + 1)) h ch en (fun y => p_run (I (m + 1)) h ch y R) := op_run jg hen (fun z => by have := hn z; omega)
  obtain ⟨a, g', h', ch', rr, hK, hKh, hr, e⟩ := O.x jg jh jH.2.1
  have e1 : p_run (I (m + 1)) h ch (I x 10) R = (a, g', h', ch', rr.getD (I x 10)) := e _
  have e2 : p_run (I (m + 1)) h ch (I1 m 7) R = (a, g', h', ch', rr.getD (I1 m 7)) := e _
  rw [e1] at q
  rw [e2] at q2
  obtain ⟨rfl, rfl, rfl, x1, x2, x3, x4, x5, x6, x7, x8⟩ := q
  obtain ⟨rfl, rfl, rfl, rfl, rfl, m1, m2, m3, m4, m5, m6, m7, m8, m9⟩ := q2
  have fx : ∀ b, b < m → I2 b = I1 b := fun b hb => m9 b (Or.inl hb)
  have ea : Alk g' (I2 (m + 1)) := fun k hk => (m1 k hk).symm
  refine ⟨⟨a, rfl, rfl⟩, rfl, h', ch', (x1.all (fun b hb => fx b (by omega))).alk ea (fun i hi k _ => rfl), jM.congr (x8 m (by omega)), m2, hK.alk ea, hKh, ⟨?_, m4, by omega, fun j hj => absurd hj (Nat.not_lt_zero j)⟩, ?_, m8, ?_⟩
  · rw [fx _ (by omega)]; exact x3
  · rw [fx x (by omega), x2, m3]
    show rr.getD (I x 10) = (if rr.getD (I1 m 7) = 0 then (-5) else rr.getD (I1 m 7))
    cases hrr : rr with
    | none => show I x 10 = (if I1 m 7 = 0 then (-5) else I1 m 7); rw [f0 m hxm]; exact jr
    | some v => exact (if_neg (hr v hrr)).symm
  · rw [fx x (by omega), x6, m7, f0 m hxm, m6, f0 (m + 3) (by omega)]
    rcases ji with ji | ⟨i1, i2, i3, i4⟩
    · exact Or.inl ji
    · exact Or.inr ⟨i1, i2, i3.fr (fun b q1 q2 => by rw [fx b (by omega), x5 b (by omega)]) (fun b q1 q2 => x7 b (by omega)), i4.mono (by omega)⟩
theorem JI.back {v : Int32} {c : Nat} {r r2 : Option Value} {S1 S2 : BqH} {n1 n2 : Nat} {I1 I2 : BqI} {L1 L2 : BqL} {P1 P2 : BqP} (J : JI x m S n I L P h (c + 1) l en) (hxm : x + 536 ≤ m) (q : qOp x I L S n P (v, h c, h, c, I x 10) r S1 n1 I1 L1 P1) (q2 : qMb m I1 S1 n1 L1 P1 v (h c) h c r2 S2 n2 I2 L2 P2) : (∃ v, r = some (.int v) ∧ r2 = some (.int v)) ∧ n2 = n ∧ JI x m S2 n2 I2 L2 P2 h c l (en + 60) := by
  obtain ⟨jX, jM, jH, jg, jh, ⟨t1, t2, t3, t4⟩, jr, j6, ji⟩ := J
  obtain ⟨rfl, rfl, rfl, x1, x2, ⟨x3, x3b⟩, x4, x5⟩ := q
  obtain ⟨rfl, rfl, rfl, rfl, rfl, ⟨-, m2, m3, m4, m5⟩, m6⟩ := q2
  have fx : ∀ b, b < m → I2 b = I1 b := fun b hb => m4 b (Or.inl hb)
  have fm : ∀ b, x + 536 ≤ b → I1 b = I b := fun b hb => x3 b (by omega)
  have ea : Alk (h c) (I2 (m + 1)) := fun k hk => (m6 k hk).symm
  refine ⟨⟨v, rfl, rfl⟩, rfl, (x1.all (fun b hb => fx b (by omega))).alk ea (fun i hi k _ => rfl), jM.congr (x5 m (by omega)), m2, ((jh c (by omega)).alk ea).mono (by omega), fun i hi => (jh i (by omega)).mono (by omega), ⟨?_, ?_, t3, fun j hj => ?_⟩, ?_, ?_, ?_⟩
  · rw [fx _ (by omega), x3 _ (by omega)]; exact t1
  · rw [m5 9 (by decide) (by decide) (by decide), fm m hxm]; exact t2
  · rw [fx _ (by omega), x3 _ (by omega), m4 (m + 5) (by omega), fm _ (by omega)]; exact t4 j hj
  · rw [fx x (by omega), m3, fm m hxm]
    exact x2.trans jr
  · rw [m5 6 (by decide) (by decide) (by decide), fm m hxm]; exact j6
  · have e4 : I2 x 4 = I x 4 := by rw [fx x (by omega)]; exact x3b
    have em4 : I2 m 4 = I m 4 := by rw [m5 4 (by decide) (by decide) (by decide), fm m hxm]
    have em3 : I2 (m + 3) = I (m + 3) := by rw [m4 (m + 3) (by omega), fm _ (by omega)]
    rw [e4, em4, em3]
    rcases ji with ji | ⟨i1, i2, i3, i4⟩
    · exact Or.inl ji
    · exact Or.inr ⟨i1, i2, i3.fr (fun b q1 q2 => by rw [fx b (by omega), x3 b (by omega)]) (fun b q1 q2 => x4 b (by omega)), i4.mono (by omega)⟩
end
section
variable {x m : Nat} {S : BqH} {n : Nat} {I : BqI} {L : BqL} {P : BqP} {h : Nat → BqG} {ch l en : Nat}
theorem JI.img (J : JI x m S n I L P h ch l en) (hxm : x + 536 ≤ m) : I (x + 1) 0 = I (m + 1) 0 ∧ ∀ (I1 I2 : BqI), I1 = bq_u (st_cpI I (x + 55) (x + 1)) x 4 (nI 1) → I2 = bq_u (fl I1 (m + 3) (fun k => 0 + k) (fun k => I1 (m + 1) (0 + k)) 650) m 4 (nI 1) → JI x m S n I2 (st_cpL L (x + 55) (x + 1)) P h ch l (en + 60) := by
  obtain ⟨⟨hx, hC, hc, hl, π, hP, hh⟩, jM, jH, jg, jh, ⟨t1, t2, t3, t4⟩, jr, j6, ji⟩ := J
  refine ⟨hC.1.at (k := 0) rfl, fun I1 I2 e1 e2 => ?_⟩
  have c55 : CS I1 (st_cpL L (x + 55) (x + 1)) (x + 55) (I (m + 1)) := by
    rw [e1]
    exact (hC.copy (by omega)).fr (fun a q1 q2 => bq_u_ne (by omega)) (fun _ _ _ => rfl)
  have f1 : ∀ a, a ≠ x → (a < x + 55 ∨ x + 108 ≤ a) → I1 a = I a := fun a q1 q2 => by rw [e1, bq_u_ne q1, st_cpI_ne (by omega) (by omega)]
  have f1x : ∀ k, k ≠ 4 → I1 x k = I x k := fun k q => by rw [e1, bq_u_no (fun z => q z.2), st_cpI_ne (by omega) (by omega)]
  have f2 : ∀ a, a ≠ m → a ≠ m + 3 → I2 a = I1 a := fun a q1 q2 => by rw [e2, bq_u_ne q1, fl_ne q2]
  have f2m : ∀ k, k ≠ 4 → I2 m k = I m k := fun k q => by rw [e2, bq_u_no (fun z => q z.2), fl_ne (by omega), f1 m (by omega) (by omega)]
  have f : ∀ a, a ≠ x → a ≠ m → a ≠ m + 3 → (a < x + 55 ∨ x + 108 ≤ a) → I2 a = I a := fun a q1 q2 q3 q4 => (f2 a q2 q3).trans (f1 a q1 q4)
  have fL : ∀ a, a < x + 55 ∨ x + 108 ≤ a → st_cpL L (x + 55) (x + 1) a = L a := fun a q => st_cpL_ne (by omega) (by omega)
  have g1 : I2 (m + 1) = I (m + 1) := f _ (by omega) (by omega) (by omega) (by omega)
  have k3 : Alk (I (m + 1)) (I2 (m + 3)) := fun k hk => by rw [e2, bq_u_ne (by omega), cp_at hk, f1 (m + 1) (by omega) (by omega)]
  have c2 : I2 x 2 = I x 2 := by rw [f2 x (by omega) (by omega)]; exact f1x 2 (by decide)
  refine ⟨⟨hx, ?_, c2.trans hc, hl, π, hP, fun i hi => ?_⟩, jM, ⟨(f2m 2 (by decide)).trans jH.1, jH.2.1, fun i hi k hk => ?_⟩, ?_, fun i hi => (jh i hi).mono (by omega), ⟨?_, (f2m 9 (by decide)).trans t2, t3, fun j hj => ?_⟩, ?_, (f2m 6 (by decide)).trans j6, Or.inr ⟨?_, ?_, ?_, ?_⟩⟩
  · rw [g1]; exact hC.fr (fun a q1 q2 => f a (by omega) (by omega) (by omega) (by omega)) (fun a q1 q2 => fL a (by omega))
  · have h7 := (hP.1 i (by omega)).2
    exact (hh i hi).fr (fun a q1 q2 => f a (by omega) (by omega) (by omega) (by omega)) (fun a q1 q2 => fL a (by omega))
  · rw [f _ (by omega) (by omega) (by omega) (by omega)]; exact jH.2.2 i hi k hk
  · rw [g1]; exact jg.mono (by omega)
  · rw [f _ (by omega) (by omega) (by omega) (by omega)]; exact t1
  · rw [f _ (by omega) (by omega) (by omega) (by omega), f (m + 5) (by omega) (by omega) (by omega) (by omega)]; exact t4 j hj
  · rw [f2 x (by omega) (by omega), f1x 10 (by decide), f2m 7 (by decide)]; exact jr
  · rw [f2 x (by omega) (by omega), e1, bq_u_at]; decide
  · rw [e2, bq_u_at]; decide
  · exact (c55.fr (fun a q1 q2 => f2 a (by omega) (by omega)) (fun _ _ _ => rfl)).alk k3
  · exact (jg.alk k3).mono (by omega)
theorem JI.und (J : JI x m S n I L P h ch l en) (hxm : x + 536 ≤ m) (h4 : ¬ I x 4 = 0) : ¬ I m 4 = 0 ∧ I (x + 55) 0 = I (m + 3) 0 ∧ ∀ (I1 I2 : BqI), I1 = bq_u (st_cpI I (x + 1) (x + 55)) x 2 (nI 0) → I2 = bq_u (fl I1 (m + 1) (fun k => 0 + k) (fun k => I1 (m + 3) (0 + k)) 650) m 2 (nI 0) → JI x m S n I2 (st_cpL L (x + 1) (x + 55)) P h 0 l (en + 60) := by
  obtain ⟨⟨hx, hC, hc, hl, π, hP, hh⟩, jM, jH, jg, jh, ⟨t1, t2, t3, t4⟩, jr, j6, ji⟩ := J
  obtain ⟨i1, i2, i3, i4⟩ := ji.resolve_left (fun z => h4 z.1)
  refine ⟨i2, i3.1.at (k := 0) rfl, fun I1 I2 e1 e2 => ?_⟩
  have c1 : CS I1 (st_cpL L (x + 1) (x + 55)) (x + 1) (I (m + 3)) := by
    rw [e1]
    exact (i3.copy (by omega)).fr (fun a q1 q2 => bq_u_ne (by omega)) (fun _ _ _ => rfl)
  have f1 : ∀ a, a ≠ x → (a < x + 1 ∨ x + 54 ≤ a) → I1 a = I a := fun a q1 q2 => by rw [e1, bq_u_ne q1, st_cpI_ne (by omega) (by omega)]
  have f1x : ∀ k, k ≠ 2 → I1 x k = I x k := fun k q => by rw [e1, bq_u_no (fun z => q z.2), st_cpI_ne (by omega) (by omega)]
  have f2 : ∀ a, a ≠ m → a ≠ m + 1 → I2 a = I1 a := fun a q1 q2 => by rw [e2, bq_u_ne q1, fl_ne q2]
  have f2m : ∀ k, k ≠ 2 → I2 m k = I m k := fun k q => by rw [e2, bq_u_no (fun z => q z.2), fl_ne (by omega), f1 m (by omega) (by omega)]
  have f : ∀ a, a ≠ x → a ≠ m → a ≠ m + 1 → (a < x + 1 ∨ x + 54 ≤ a) → I2 a = I a := fun a q1 q2 q3 q4 => (f2 a q2 q3).trans (f1 a q1 q4)
  have k1 : Alk (I (m + 3)) (I2 (m + 1)) := fun k hk => by rw [e2, bq_u_ne (by omega), cp_at hk, f1 (m + 3) (by omega) (by omega)]
  have g3 : I2 (m + 3) = I (m + 3) := f _ (by omega) (by omega) (by omega) (by omega)
  refine ⟨⟨hx, (c1.fr (fun a q1 q2 => f2 a (by omega) (by omega)) (fun _ _ _ => rfl)).alk k1, ?_, by omega, π, hP, fun i hi => absurd hi (Nat.not_lt_zero i)⟩, jM, ⟨?_, by omega, fun i hi => absurd hi (Nat.not_lt_zero i)⟩, (i4.alk k1).mono (by omega), fun i hi => absurd hi (Nat.not_lt_zero i), ⟨?_, (f2m 9 (by decide)).trans t2, t3, fun j hj => ?_⟩, ?_, (f2m 6 (by decide)).trans j6, Or.inr ⟨?_, ?_, ?_, ?_⟩⟩
  · rw [f2 x (by omega) (by omega), e1, bq_u_at]
  · rw [e2, bq_u_at]
  · rw [f _ (by omega) (by omega) (by omega) (by omega)]; exact t1
  · rw [f _ (by omega) (by omega) (by omega) (by omega), f (m + 5) (by omega) (by omega) (by omega) (by omega)]; exact t4 j hj
  · rw [f2 x (by omega) (by omega), f1x 10 (by decide), f2m 7 (by decide)]; exact jr
  · rw [f2 x (by omega) (by omega), f1x 4 (by decide)]; exact h4
  · rw [f2m 4 (by decide)]; exact i2
  · rw [g3]; exact i3.fr (fun a q1 q2 => f a (by omega) (by omega) (by omega) (by omega)) (fun a q1 q2 => st_cpL_ne (by omega) (by omega))
  · rw [g3]; exact i4.mono (by omega)
/-- the start -/
theorem JI.new {S0 : BqH} {I0 : BqI} {L0 : BqL} {P0 : BqP} {S1 : BqH} {n1 : Nat} {I1 : BqI} {L1 : BqL} {P1 : BqP} (hh : Nat → BqG) (h1 : BB x 536 tb11 S0 I0 L0 P0 S1 n1 I1 L1 P1) (h2 : BB (x + 536) 14 tb12 S1 I1 L1 P1 S n I L P) : JI x (x + 536) S n I L P hh 0 0 0 := by
  have hx := h1.w2 h2
  obtain ⟨a1, a2, a3, a4, a5, a6⟩ := new_mI h2.w hh
  obtain ⟨b1, b2, b3⟩ := new_xI hx
  refine ⟨by rw [a1]; exact new_CXS hx hh, new_model h2.w, a2, by rw [a1]; exact gk_0, fun i hi => absurd hi (Nat.not_lt_zero i), ⟨b3, a6, by omega, fun j hj => absurd hj (Nat.not_lt_zero j)⟩, ?_, a4, Or.inl ⟨b1, a3⟩⟩
  rw [b2, a5]
  exact (if_pos rfl).symm
end
