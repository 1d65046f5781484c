/-! operations alike: what an operation makes of the row, whatever the reason was -/
def Op (g : BqG) (h : Nat → BqG) (ch en : Nat) (p : Int32 → BqR) : Prop := ∃ (a : Int32) (g' : BqG), GK g' (en + 60) ∧ ((∃ r : Option Int32, (∀ v, r = some v → ¬ v = 0) ∧ ∀ y, p y = (a, g', h, ch, r.getD y)) ∨ ∀ y, p y = chg g g' h ch y a)
section
variable {g : BqG} {h : Nat → BqG} {ch en : Nat} {p : Int32 → BqR}
theorem Op.same {a : Int32} (hK : GK g en) (e : ∀ y, p y = (a, g, h, ch, y)) : Op g h ch en p := ⟨a, g, hK.mono (by omega), Or.inl ⟨none, fun _ z => (by cases z), e⟩⟩
theorem Op.ref {a v : Int32} (hK : GK g en) (hv : ¬ v = 0) (e : ∀ y, p y = (a, g, h, ch, v)) : Op g h ch en p := ⟨a, g, hK.mono (by omega), Or.inl ⟨some v, fun u z => by rw [← Option.some.inj z]; exact hv, e⟩⟩
theorem Op.cg {g' : BqG} {a : Int32} (hK : GK g' (en + 60)) (e : ∀ y, p y = chg g g' h ch y a) : Op g h ch en p := ⟨a, g', hK, Or.inr e⟩
theorem Op.st {w : Int32 × BqG} (hK : GK w.2 (en + 60)) : Op g h ch en (fun y => stp g h ch y w) := by
  by_cases c : w.1 < 0
  · refine ⟨(-3), w.2, hK, Or.inl ⟨some (-w.1), fun v z => ?_, fun y => stl_neg c⟩⟩
    rw [← Option.some.inj z]
    intro q
    have q2 : w.1 = 0 := by rw [← Int32.neg_neg (a := w.1), q]; rfl
    rw [q2] at c
    exact absurd c (by decide)
  · refine ⟨w.1, w.2, hK, Or.inr fun y => ?_⟩
    show stl g w.2 h ch y w.1 = chg g w.2 h ch y w.1
    unfold stl chg
    rw [if_neg c]
theorem op_setLoss (hK : GK g en) {v : Int32} : Op g h ch en (fun y => p_setLoss g h ch y v) := by
  rcases bq_in5 v 100 (by decide) with c | ⟨v, hv, rfl⟩
  · exact Op.same hK (fun y => if_pos c)
  · exact Op.cg ((gk_setLoss hK (by omega)).mono (by omega)) (fun y => if_neg (bq_tin hv (by decide)))
theorem op_size (hK : GK g en) {t v : Int32} : Op g h ch en (fun y => p_size g h ch y t v) := by
  rcases bq_in5 t 5 (by decide) with c | ⟨t, ht, rfl⟩
  · exact Op.same hK (fun y => if_pos c)
  have ht' := bq_tin (k := 5) ht (by decide)
  rcases bq_in19 v 1 9999 (by decide) (by decide) with c | ⟨v, h1, h2, rfl⟩
  · exact Op.same hK (fun y => (if_neg ht').trans (if_pos c))
  have hv' := bq_nin h1 h2 (by decide)
  by_cases c : gt g t ≤ v
  · have c' : nI (gt g (nI t).toNatClampNeg) ≤ nI v := by rw [nI_clamp (by omega)]; exact nI_le c (by omega)
    have e : ∀ y, p_size g h ch y (nI t) (nI v) = chg g (bq_r g (10 + 19 * t) (nI v)) h ch y (g (10 + 19 * t)) := fun y => by
      refine ((if_neg ht').trans ((if_neg hv').trans (if_pos c'))).trans ?_
      rw [nI_clamp (by omega)]
    exact Op.cg ((gk_size hK ht h1 h2 c).mono (by omega)) e
  · have c' : ¬ nI (gt g (nI t).toNatClampNeg) ≤ nI v := by
      rw [nI_clamp (by omega)]
      have hb := (hK.gi.t ht).2.2.2.2.1
      have hb2 := (hK.gi.t ht).2.1
      exact nI_ge (by omega) (by omega)
    exact Op.ref (v := nI 4) hK (by decide) (fun y => (if_neg ht').trans ((if_neg hv').trans (if_neg c')))
theorem op_rate (hK : GK g en) {d s a : Int32} : Op g h ch en (fun y => p_rate g h ch y d s a) := by
  by_cases c : (d < nI 0 ∨ ¬ d ≤ nI 9999) ∨ (s < nI 0 ∨ ¬ s ≤ nI 2000) ∨ (a < nI 0 ∨ ¬ a ≤ nI 9999)
  · exact Op.same hK (fun y => if_pos c)
  by_cases c2 : gn g 3 < 10
  · obtain ⟨d, hd, rfl⟩ := (bq_in5 d 9999 (by decide)).resolve_left (fun z => c (Or.inl z))
    obtain ⟨s, hs, rfl⟩ := (bq_in5 s 2000 (by decide)).resolve_left (fun z => c (Or.inr (Or.inl z)))
    obtain ⟨a, ha, rfl⟩ := (bq_in5 a 9999 (by decide)).resolve_left (fun z => c (Or.inr (Or.inr z)))
    exact Op.cg ((gk_rate hK c2 (by omega) (by omega) (by omega)).mono (by omega)) (fun y => (if_neg c).trans (if_pos c2))
  · exact Op.same hK (fun y => (if_neg c).trans (if_neg c2))
theorem op_order (hK : GK g en) {d l a b : Int32} : Op g h ch en (fun y => p_order g h ch y d l a b) := by
  by_cases c : (d < nI 0 ∨ ¬ d ≤ nI 99) ∨ (l < nI 1 ∨ ¬ l ≤ nI 9999) ∨ (a < nI 0 ∨ ¬ a ≤ nI 2000) ∨ (b < a ∨ ¬ b ≤ nI 2000)
  · exact Op.same hK (fun y => if_pos c)
  by_cases c2 : gn g 2 < 10
  · obtain ⟨d, hd, rfl⟩ := (bq_in5 d 99 (by decide)).resolve_left (fun z => c (Or.inl z))
    obtain ⟨l, l1, l2, rfl⟩ := (bq_in19 l 1 9999 (by decide) (by decide)).resolve_left (fun z => c (Or.inr (Or.inl z)))
    obtain ⟨a, ha, rfl⟩ := (bq_in5 a 2000 (by decide)).resolve_left (fun z => c (Or.inr (Or.inr (Or.inl z))))
    obtain ⟨b, b1, b2, rfl⟩ := (bq_in19 b a 2000 (by omega) (by decide)).resolve_left (fun z => c (Or.inr (Or.inr (Or.inr z))))
    exact Op.cg ((gk_order hK c2 (by omega) l1 l2 (by omega) b2).mono (by omega)) (fun y => (if_neg c).trans (if_pos c2))
  · exact Op.same hK (fun y => (if_neg c).trans (if_neg c2))
theorem op_drop (hK : GK g en) {o : Int32} : Op g h ch en (fun y => p_drop g h ch y o) := by
  rcases bq_inO hK.gi o with c | ⟨o, ho, rfl⟩
  · exact Op.ref (v := nI 5) hK (by decide) (fun y => if_pos c)
  · by_cases c : g (208 + 9 * o) = 0
    · exact Op.cg ((gk_drop hK ho).mono (by omega)) (fun y => (p_drop_n hK.gi ho).trans (if_pos c))
    · exact Op.ref (v := nI 5) hK (by decide) (fun y => (p_drop_n hK.gi ho).trans (if_neg c))
theorem op_brew (hK : GK g en) (hen : en < 200000) {t l s : Int32} : Op g h ch en (fun y => p_brew g h ch y t l s) := by
  rcases bq_in5 t 5 (by decide) with c | ⟨t, ht, rfl⟩
  · exact Op.same hK (fun y => if_pos c)
  have ht' := bq_tin (k := 5) ht (by decide)
  by_cases c : (l < nI 1 ∨ ¬ l ≤ nI 9999) ∨ (s < nI 0 ∨ ¬ s ≤ nI 2000)
  · exact Op.same hK (fun y => (if_neg ht').trans (if_pos c))
  by_cases c1 : gn g 1 < 16
  · by_cases c2 : gn g (11 + 19 * t) = 0
    · by_cases c3 : l ≤ g (10 + 19 * t)
      · refine Op.cg (g' := x_brew g t l s) ?_ (fun y => (p_brew_n ht c).trans ((if_neg (not_not_intro c1)).trans ((if_neg (not_not_intro c2)).trans (if_neg (not_not_intro c3)))))
        obtain ⟨l, l1, l2, rfl⟩ := (bq_in19 l 1 9999 (by decide) (by decide)).resolve_left (fun z => c (Or.inl z))
        obtain ⟨s, hs, rfl⟩ := (bq_in5 s 2000 (by decide)).resolve_left (fun z => c (Or.inr z))
        have e := hK.gi.n (k := 10 + 19 * t) (by omega) (by omega)
        have hb := (hK.gi.t ht).2.1
        rw [e] at c3
        exact (gk_brew hK hen ht l1 ((nI_leI (by omega) (by omega)).mp c3) (by omega) c1 c2).mono (by omega)
      · exact Op.ref (v := nI 4) hK (by decide) (fun y => (p_brew_n ht c).trans ((if_neg (not_not_intro c1)).trans ((if_neg (not_not_intro c2)).trans (if_pos c3))))
    · exact Op.ref (v := nI 2) hK (by decide) (fun y => (p_brew_n ht c).trans ((if_neg (not_not_intro c1)).trans (if_pos c2)))
  · exact Op.same hK (fun y => (p_brew_n ht c).trans (if_pos c1))
theorem op_corr (hK : GK g en) : Op g h ch en (fun y => p_corr g h ch y) := Op.cg ((gk_corr hK).mono (by omega)) (fun _ => rfl)
theorem op_fillAll (hK : GK g en) (hen : en + 10 < 200000) : Op g h ch en (fun y => p_fillAll g h ch y) :=
  Op.cg ((gfl_gk hK hen _ (Nat.le_refl _)).mono (by have := plan_le hK.gi; omega)) (fun _ => rfl)
theorem op_mix (hK : GK g en) {a b l w : Int32} : Op g h ch en (fun y => p_mix g h ch y a b l w) := by
  by_cases c : (a < nI 0 ∨ ¬ a ≤ nI 5) ∨ (b < nI 0 ∨ ¬ b ≤ nI 5) ∨ a = b
  · exact Op.ref (v := nI 1) hK (by decide) (fun y => if_pos c)
  by_cases c2 : (l < nI 1 ∨ ¬ l ≤ nI 9999) ∨ (w < nI 0 ∨ ¬ w ≤ nI 2000)
  · exact Op.ref (v := nI 8) hK (by decide) (fun y => (if_neg c).trans (if_pos c2))
  by_cases c3 : gn g (11 + 19 * a.toNatClampNeg) = 1 ∧ gn g (11 + 19 * b.toNatClampNeg) = 1
  · exact Op.same hK (fun y => (if_neg c).trans ((if_neg c2).trans (if_neg (not_not_intro c3))))
  · exact Op.ref (v := nI 2) hK (by decide) (fun y => (if_neg c).trans ((if_neg c2).trans (if_pos c3)))
theorem op_pour (hK : GK g en) (hen : en < 200000) {f t l : Int32} : Op g h ch en (fun y => stp g h ch y (w_pour g f t l)) := Op.st ((gk_wpour hK hen f t l).mono (by omega))
theorem op_spill (hK : GK g en) (hen : en < 200000) {t l r : Int32} : Op g h ch en (fun y => stp g h ch y (w_spill g t l r)) := Op.st ((gk_wspill hK hen t l r).mono (by omega))
theorem op_wfill (hK : GK g en) (hen : en < 200000) {t o : Int32} : Op g h ch en (fun y => stp g h ch y (w_fill g t o)) := Op.st ((gk_wfill hK hen t o).mono (by omega))
theorem op_scrub (hK : GK g en) {t : Int32} : Op g h ch en (fun y => stp g h ch y (w_scrub g t)) := Op.st ((gk_wscrub hK t).mono (by omega))
theorem op_pass (hK : GK g en) {d : Int32} : Op g h ch en (fun y => stp g h ch y (w_pass g d)) := Op.st ((gk_wpass hK d).mono (by omega))
end
