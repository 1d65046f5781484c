/-! what a copy of a state leaves -/
def Cpd (I0 : BqI) (s o : Nat) (l : List (Nat × Nat × Nat)) (J : BqI) : Prop := (∀ p, p ∈ l → ∀ j, p.2.1 ≤ j → j < p.2.2 → J (s + p.1) j = I0 (o + p.1) j) ∧ (∀ a, a < s ∨ s + 53 ≤ a → J a = I0 a)
section
variable {I0 J : BqI} {s o : Nat} {l : List (Nat × Nat × Nat)}
theorem Cpd.u (h : Cpd I0 s o l J) (hd : s + 53 ≤ o ∨ o + 53 ≤ s) {a b c k : Nat} (ha : a < 53) (hb : b = s + a) (hc : c = o + a) : Cpd I0 s o ((a, k, k + 1) :: l) (bq_u J b k (J c k)) := by
  subst hb; subst hc
  have hv : J (o + a) k = I0 (o + a) k := by rw [h.2 _ (by omega)]
  refine ⟨fun p hp j h1 h2 => ?_, fun a' hA => ?_⟩
  · by_cases e : p.1 = a ∧ j = k
    · rw [e.1, e.2, bq_u_at, hv]
    · rw [bq_u_no (fun q => e ⟨by omega, q.2⟩)]
      rcases List.mem_cons.mp hp with q | q
      · subst q
        exact absurd ⟨rfl, by have h1' : k ≤ j := h1; have h2' : j < k + 1 := h2; omega⟩ e
      · exact h.1 p q j h1 h2
  · rw [bq_u_ne (by omega)]; exact h.2 a' hA
theorem Cpd.cp (h : Cpd I0 s o l J) (hd : s + 53 ≤ o ∨ o + 53 ≤ s) {a b c k : Nat} (ha : a < 53) (hb : b = s + a) (hc : c = o + a) : Cpd I0 s o ((a, 0, k) :: l) (bq_cp J c b k) := by
  subst hb; subst hc
  have hv : ∀ j, J (o + a) j = I0 (o + a) j := fun j => by rw [h.2 _ (by omega)]
  refine ⟨fun p hp j h1 h2 => ?_, fun a' hA => ?_⟩
  · unfold bq_cp
    by_cases e : p.1 = a
    · rw [e, bq_r_self]
      show (if j < k then _ else _) = _
      by_cases hj : j < k
      · rw [if_pos hj, hv]
      · rw [if_neg hj]
        rcases List.mem_cons.mp hp with q | q
        · subst q; exact absurd h2 hj
        · rw [← e]; exact h.1 p q j h1 h2
    · rw [bq_r_ne (by omega)]
      rcases List.mem_cons.mp hp with q | q
      · subst q; exact absurd rfl e
      · exact h.1 p q j h1 h2
  · unfold bq_cp; rw [bq_r_ne (by omega)]; exact h.2 a' hA
theorem Cpd.s1 (h : Cpd I0 s o l J) (hd : s + 53 ≤ o ∨ o + 53 ≤ s) : Cpd I0 s o ((0, 1, 2) :: (0, 0, 1) :: l) (st_1 J s o) := by
  unfold st_1 bq_f1
  exact ((h.u hd (a := 0) (b := s) (c := o) (k := 0) (by omega) (by omega) (by omega)).u hd (a := 0) (b := s) (c := o) (k := 1) (by omega) (by omega) (by omega))
theorem Cpd.tk (h : Cpd I0 s o l J) (hd : s + 53 ≤ o ∨ o + 53 ≤ s) {i : Nat} (hi : i < 6) : Cpd I0 s o ((17 + 3 * i, 0, 16) :: (15 + 3 * i, 2, 3) :: (15 + 3 * i, 1, 2) :: (15 + 3 * i, 0, 1) :: l) (tk_cp J (s + 15 + 3 * i) (o + 15 + 3 * i)) := by
  unfold tk_cp
  exact ((((h.u hd (a := 15 + 3 * i) (b := s + 15 + 3 * i) (c := o + 15 + 3 * i) (k := 0) (by omega) (by omega) (by omega)).u hd (a := 15 + 3 * i) (b := s + 15 + 3 * i) (c := o + 15 + 3 * i) (k := 1) (by omega) (by omega) (by omega)).u hd (a := 15 + 3 * i) (b := s + 15 + 3 * i) (c := o + 15 + 3 * i) (k := 2) (by omega) (by omega) (by omega)).cp hd (a := 17 + 3 * i) (b := s + 15 + 3 * i + 2) (c := o + 15 + 3 * i + 2) (k := 16) (by omega) (by omega) (by omega))
theorem Cpd.s9 (h : Cpd I0 s o l J) (hd : s + 53 ≤ o ∨ o + 53 ≤ s) : Cpd I0 s o ((10, 0, 4) :: (9, 0, 16) :: (7, 0, 16) :: (5, 0, 16) :: (3, 0, 16) :: (2, 0, 16) :: (0, 3, 4) :: l) (st_9 J s o) := by
  unfold st_9 bq_f1
  exact (((((((h.u hd (a := 0) (b := s) (c := o) (k := 3) (by omega) (by omega) (by omega)).cp hd (a := 2) (b := s + 2) (c := o + 2) (k := 16) (by omega) (by omega) (by omega)).cp hd (a := 3) (b := s + 3) (c := o + 3) (k := 16) (by omega) (by omega) (by omega)).cp hd (a := 5) (b := s + 4 + 1) (c := o + 4 + 1) (k := 16) (by omega) (by omega) (by omega)).cp hd (a := 7) (b := s + 6 + 1) (c := o + 6 + 1) (k := 16) (by omega) (by omega) (by omega)).cp hd (a := 9) (b := s + 8 + 1) (c := o + 8 + 1) (k := 16) (by omega) (by omega) (by omega)).cp hd (a := 10) (b := s + 10) (c := o + 10) (k := 4) (by omega) (by omega) (by omega))
theorem Cpd.ra (h : Cpd I0 s o l J) (hd : s + 53 ≤ o ∨ o + 53 ≤ s) {i : Nat} (hi : i < 10) : Cpd I0 s o ((33 + i, 2, 3) :: (33 + i, 1, 2) :: (33 + i, 0, 1) :: l) (ra_cp J (s + 33 + i) (o + 33 + i)) := by
  unfold ra_cp bq_f1
  exact (((h.u hd (a := 33 + i) (b := s + 33 + i) (c := o + 33 + i) (k := 0) (by omega) (by omega) (by omega)).u hd (a := 33 + i) (b := s + 33 + i) (c := o + 33 + i) (k := 1) (by omega) (by omega) (by omega)).u hd (a := 33 + i) (b := s + 33 + i) (c := o + 33 + i) (k := 2) (by omega) (by omega) (by omega))
theorem Cpd.od (h : Cpd I0 s o l J) (hd : s + 53 ≤ o ∨ o + 53 ≤ s) {i : Nat} (hi : i < 10) : Cpd I0 s o ((43 + i, 7, 8) :: (43 + i, 6, 7) :: (43 + i, 5, 6) :: (43 + i, 4, 5) :: (43 + i, 3, 4) :: (43 + i, 2, 3) :: (43 + i, 1, 2) :: (43 + i, 0, 1) :: l) (or_cp J (s + 43 + i) (o + 43 + i)) := by
  unfold or_cp bq_f1
  exact ((((((((h.u hd (a := 43 + i) (b := s + 43 + i) (c := o + 43 + i) (k := 0) (by omega) (by omega) (by omega)).u hd (a := 43 + i) (b := s + 43 + i) (c := o + 43 + i) (k := 1) (by omega) (by omega) (by omega)).u hd (a := 43 + i) (b := s + 43 + i) (c := o + 43 + i) (k := 2) (by omega) (by omega) (by omega)).u hd (a := 43 + i) (b := s + 43 + i) (c := o + 43 + i) (k := 3) (by omega) (by omega) (by omega)).u hd (a := 43 + i) (b := s + 43 + i) (c := o + 43 + i) (k := 4) (by omega) (by omega) (by omega)).u hd (a := 43 + i) (b := s + 43 + i) (c := o + 43 + i) (k := 5) (by omega) (by omega) (by omega)).u hd (a := 43 + i) (b := s + 43 + i) (c := o + 43 + i) (k := 6) (by omega) (by omega) (by omega)).u hd (a := 43 + i) (b := s + 43 + i) (c := o + 43 + i) (k := 7) (by omega) (by omega) (by omega))
theorem Cpd.f (h : Cpd I0 s o l J) (hd : s + 53 ≤ o ∨ o + 53 ≤ s) : Cpd I0 s o ((14, 0, 320) :: (13, 0, 1) :: l) (bq_cp (bq_u J (s + 13) 0 (J (o + 13) 0)) (o + 13 + 1) (s + 13 + 1) 320) := by
  exact ((h.u hd (a := 13) (b := s + 13) (c := o + 13) (k := 0) (by omega) (by omega) (by omega)).cp hd (a := 14) (b := s + 13 + 1) (c := o + 13 + 1) (k := 320) (by omega) (by omega) (by omega))
theorem Cpd.f1 (h : Cpd I0 s o l J) (hd : s + 53 ≤ o ∨ o + 53 ≤ s) (k : Nat) : Cpd I0 s o ((0, k, k + 1) :: l) (bq_f1 J s o k) := by
  unfold bq_f1
  exact (h.u hd (a := 0) (b := s) (c := o) (k := k) (by omega) (by omega) (by omega))
end
def cq_t : Nat → List (Nat × Nat × Nat)
  | 0 => (0, 1, 2) :: (0, 0, 1) :: []
  | i + 1 => (17 + 3 * i, 0, 16) :: (15 + 3 * i, 2, 3) :: (15 + 3 * i, 1, 2) :: (15 + 3 * i, 0, 1) :: cq_t i
def cq_r : Nat → List (Nat × Nat × Nat)
  | 0 => (0, 10, 10 + 1) :: (10, 0, 4) :: (9, 0, 16) :: (7, 0, 16) :: (5, 0, 16) :: (3, 0, 16) :: (2, 0, 16) :: (0, 3, 4) :: cq_t 6
  | i + 1 => (33 + i, 2, 3) :: (33 + i, 1, 2) :: (33 + i, 0, 1) :: cq_r i
def cq_o : Nat → List (Nat × Nat × Nat)
  | 0 => (0, 12, 12 + 1) :: cq_r 10
  | i + 1 => (43 + i, 7, 8) :: (43 + i, 6, 7) :: (43 + i, 5, 6) :: (43 + i, 4, 5) :: (43 + i, 3, 4) :: (43 + i, 2, 3) :: (43 + i, 1, 2) :: (43 + i, 0, 1) :: cq_o i
section
variable {I : BqI} {s o : Nat}
theorem cpd_t (hd : s + 53 ≤ o ∨ o + 53 ≤ s) : ∀ i, i ≤ 6 → Cpd I s o (cq_t i) (st_t (st_1 I s o) s o i)
  | 0, _ => Cpd.s1 ⟨fun _ hp => absurd hp (List.not_mem_nil), fun _ _ => rfl⟩ hd
  | i + 1, hi => by
    have h := cpd_t hd i (by omega)
    unfold cq_t st_t
    generalize st_t (st_1 I s o) s o i = J at *
    exact h.tk hd (by omega)
theorem cpd_r (hd : s + 53 ≤ o ∨ o + 53 ≤ s) : ∀ i, i ≤ 10 → Cpd I s o (cq_r i) (st_r (st_10 I s o) s o i)
  | 0, _ => by
    have h := cpd_t (I := I) hd 6 (by decide)
    unfold cq_r st_r st_10
    generalize st_t (st_1 I s o) s o 6 = J at *
    exact (h.s9 hd).f1 hd 10
  | i + 1, hi => by
    have h := cpd_r hd i (by omega)
    unfold cq_r st_r
    generalize st_r (st_10 I s o) s o i = J at *
    exact h.ra hd (by omega)
theorem cpd_o (hd : s + 53 ≤ o ∨ o + 53 ≤ s) : ∀ i, i ≤ 10 → Cpd I s o (cq_o i) (st_o (st_12 I s o) s o i)
  | 0, _ => by
    have h := cpd_r (I := I) hd 10 (by decide)
    unfold cq_o st_o st_12
    generalize st_r (st_10 I s o) s o 10 = J at *
    exact h.f1 hd 12
  | i + 1, hi => by
    have h := cpd_o hd i (by omega)
    unfold cq_o st_o
    generalize st_o (st_12 I s o) s o i = J at *
    exact h.od hd (by omega)
theorem cpd_f (hd : s + 53 ≤ o ∨ o + 53 ≤ s) : Cpd I s o ((14, 0, 320) :: (13, 0, 1) :: cq_o 10) (st_cpI I s o) := by
  have h := cpd_o (I := I) hd 10 (by decide)
  unfold st_cpI
  generalize st_o (st_12 I s o) s o 10 = J at *
  exact h.f hd
end
theorem lc_all3 : (List.range 650).all (fun k => match lc k with | none => true | some (a, j) => ((14, 0, 320) :: (13, 0, 1) :: cq_o 10).any (fun p => decide (p.1 = a ∧ p.2.1 ≤ j ∧ j < p.2.2))) = true := by decide +kernel
theorem lc_d {k a j : Nat} (h : lc k = some (a, j)) : ∃ p, p ∈ ((14, 0, 320) :: (13, 0, 1) :: cq_o 10) ∧ p.1 = a ∧ p.2.1 ≤ j ∧ j < p.2.2 := by
  have := List.all_eq_true.mp lc_all3 k (List.mem_range.mpr (lc_lt h))
  rw [h] at this
  obtain ⟨p, hp, hq⟩ := List.any_eq_true.mp this
  exact ⟨p, hp, of_decide_eq_true hq⟩
theorem CSI.copy {I : BqI} {s o : Nat} {g : BqG} (h : CSI I o g) (hd : s + 53 ≤ o ∨ o + 53 ≤ s) : CSI (st_cpI I s o) s g := fun k a j hk => by
  obtain ⟨p, hp, rfl, h1, h2⟩ := lc_d hk
  rw [(cpd_f hd).1 p hp j h1 h2]
  exact h k _ j hk
theorem st_cpI_ne {I : BqI} {s o a : Nat} (hd : s + 53 ≤ o ∨ o + 53 ≤ s) (ha : a < s ∨ s + 53 ≤ a) : st_cpI I s o a = I a := (cpd_f hd).2 a ha
theorem st_l_at {L : BqL} {s o : Nat} (hd : s + 53 ≤ o ∨ o + 53 ≤ s) : ∀ i, i ≤ 10 → (∀ j, j < i → st_l L s o i (s + 43 + j) 8 = L (o + 43 + j) 8) ∧ (∀ a, a < s + 43 ∨ s + 53 ≤ a → st_l L s o i a = L a)
  | 0, _ => ⟨fun j hj => absurd hj (Nat.not_lt_zero j), fun _ _ => rfl⟩
  | i + 1, hi => by
    obtain ⟨h1, h2⟩ := st_l_at hd i (by omega)
    unfold st_l
    refine ⟨fun j hj => ?_, fun a ha => ?_⟩
    · by_cases e : j = i
      · subst e; rw [bq_u_at, h2 _ (by omega)]
      · rw [bq_u_ne (by omega)]; exact h1 j (by omega)
    · rw [bq_u_ne (by omega)]; exact h2 a ha
theorem CSL.copy {L : BqL} {s o : Nat} {g : BqG} (h : CSL L o g) (hd : s + 53 ≤ o ∨ o + 53 ≤ s) : CSL (st_cpL L s o) s g := by
  obtain ⟨h1, h2⟩ := st_l_at (L := L) hd 10 (by decide)
  unfold st_cpL
  refine ⟨fun i hi => ?_, ?_, ?_⟩
  · rw [bq_u_ne (by omega), bq_u_ne (by omega), h1 i hi]; exact h.1 i hi
  · rw [bq_u_no (by omega), bq_u_at, h2 o (by omega)]; exact h.2.1
  · rw [bq_u_at, bq_u_ne (by omega), h2 o (by omega)]; exact h.2.2
theorem st_cpL_ne {L : BqL} {s o a : Nat} (hd : s + 53 ≤ o ∨ o + 53 ≤ s) (ha : a < s ∨ s + 53 ≤ a) : st_cpL L s o a = L a := by
  unfold st_cpL
  rw [bq_u_ne (by omega), bq_u_ne (by omega)]; exact (st_l_at hd 10 (by decide)).2 a (by omega)
theorem CS.copy {I : BqI} {L : BqL} {s o : Nat} {g : BqG} (h : CS I L o g) (hd : s + 53 ≤ o ∨ o + 53 ≤ s) : CS (st_cpI I s o) (st_cpL L s o) s g := ⟨h.1.copy hd, h.2.copy hd⟩
theorem CS.fr {I I' : BqI} {L L' : BqL} {s : Nat} {g : BqG} (h : CS I L s g) (hI : ∀ a, s ≤ a → a < s + 53 → I' a = I a) (hL : ∀ a, s ≤ a → a < s + 53 → L' a = L a) : CS I' L' s g :=
  ⟨h.1.fr (fun a ha => hI _ (by omega) (by omega)), fun o ho => by rw [hL _ (by omega) (by omega)]; exact h.2.1 o ho, by rw [hL _ (by omega) (by omega)]; exact h.2.2.1, by rw [hL _ (by omega) (by omega)]; exact h.2.2.2⟩
/-! pointers of a state, of the cellar, when only the past's row changes -/
section
variable {S : BqH} {n : Nat} {P P' : BqP}
theorem oBlend.congr {o : Nat} (h : oBlend S n P o) (e : P' o = P o) : oBlend S n P' o := ⟨h.1, h.2.1, by rw [e]; exact h.2.2.1, h.2.2.2⟩
theorem oTank.congr {o : Nat} (h : oTank S n P o) (e : ∀ a, o ≤ a → a < o + 3 → P' a = P a) : oTank S n P' o := ⟨h.1, h.2.1, by rw [e o (by omega) (by omega)]; exact h.2.2.1, h.2.2.2.congr (e _ (by omega) (by omega))⟩
theorem oPortion.congr {o : Nat} (h : oPortion S n P o) (e : ∀ a, o ≤ a → a < o + 4 → P' a = P a) : oPortion S n P' o := ⟨h.1, h.2.1, by rw [e o (by omega) (by omega)]; exact h.2.2.1, h.2.2.2.1.congr (e _ (by omega) (by omega)), by rw [e o (by omega) (by omega)]; exact h.2.2.2.2.1, h.2.2.2.2.2⟩
theorem oMixer.congr {o : Nat} (h : oMixer S n P o) (e : ∀ a, o ≤ a → a < o + 5 → P' a = P a) : oMixer S n P' o := ⟨h.1, h.2.1, by rw [e o (by omega) (by omega)]; exact h.2.2.1, h.2.2.2.congr (fun a h1 h2 => e a (by omega) (by omega))⟩
theorem oJournal.congr {o : Nat} (h : oJournal S n P o) (e : P' o = P o) : oJournal S n P' o := ⟨h.1, h.2.1, by rw [e]; exact h.2.2.1, h.2.2.2⟩
theorem oPlan.congr {o : Nat} (h : oPlan S n P o) (e : ∀ a, o ≤ a → a < o + 21 → P' a = P a) : oPlan S n P' o := by
  obtain ⟨h1, h2, h3, h4, h5, h6, h7, h8, h9, h10, h11, h12, h13⟩ := h
  have e0 := e o (by omega) (by omega)
  refine ⟨h1, h2, by rw [e0]; exact h3, h4, by rw [e0]; exact h5, h6, by rw [e0]; exact h7, h8, by rw [e0]; exact h9, h10, fun i hi => ⟨by rw [e (o + 4) (by omega) (by omega)]; exact (h11 i hi).1, (h11 i hi).2.congr (e _ (by omega) (by omega))⟩, by rw [e0]; exact h12, h13.congr (fun a q1 q2 => e a (by omega) (by omega))⟩
theorem oTape.congr {o : Nat} (h : oTape S n P o) (e : ∀ a, o ≤ a → a < o + 3 → P' a = P a) : oTape S n P' o := by
  obtain ⟨h1, h2, h3, h4, h5, h6, h7⟩ := h
  have e0 := e o (by omega) (by omega)
  exact ⟨h1, h2, by rw [e0]; exact h3, h4, by rw [e0]; exact h5, h6, fun i hi => ⟨by rw [e (o + 2) (by omega) (by omega)]; exact (h7 i hi).1, (h7 i hi).2⟩⟩
theorem oState.congr {o : Nat} (h : oState S n P o) (e : ∀ a, o ≤ a → a < o + 53 → P' a = P a) : oState S n P' o := by
  obtain ⟨h1, h2, h3, h4, h5, h6, h7, h8, h9, h10, h11, h12, h13, h14, h15, h16, h17, h18, h19, h20, h21, h22, h23, h24, h25⟩ := h
  have e0 := e o (by omega) (by omega)
  have e1 := e (o + 1) (by omega) (by omega)
  have e2 := e (o + 11) (by omega) (by omega)
  have e3 := e (o + 12) (by omega) (by omega)
  exact ⟨h1, h2, by rw [e0]; exact h3, h4, fun i hi => ⟨by rw [e1]; exact (h5 i hi).1, (h5 i hi).2.congr (fun a q1 q2 => e a (by omega) (by omega))⟩, by rw [e0]; exact h6, h7, by rw [e0]; exact h8, h9, by rw [e0]; exact h10, h11.congr (e _ (by omega) (by omega)), by rw [e0]; exact h12, h13.congr (e _ (by omega) (by omega)), by rw [e0]; exact h14, h15.congr (e _ (by omega) (by omega)), by rw [e0]; exact h16, h17, by rw [e0]; exact h18, h19, fun i hi => ⟨by rw [e2]; exact (h20 i hi).1, (h20 i hi).2⟩, by rw [e0]; exact h21, h22, fun i hi => ⟨by rw [e3]; exact (h23 i hi).1, (h23 i hi).2⟩, by rw [e0]; exact h24, h25.congr (e _ (by omega) (by omega))⟩
theorem oX.congr {x : Nat} (h : oX S n P x) (e : ∀ a, a ≠ x + 54 → P' a = P a) : oX S n P' x := by
  obtain ⟨h1, h2, h3, h4, h5, h6, h7, h8, h9, h10, h11, h12, h13, h14, h15, h16, h17, h18⟩ := h
  have e0 := e x (by omega)
  exact ⟨h1, h2, by rw [e0]; exact h3, h4.congr (fun a q1 q2 => e a (by omega)), by rw [e0]; exact h5, h6, by rw [e0]; exact h7, h8.congr (fun a q1 q2 => e a (by omega)), by rw [e0]; exact h9, h10.congr (fun a q1 q2 => e a (by omega)), by rw [e0]; exact h11, h12.congr (fun a q1 q2 => e a (by omega)), by rw [e0]; exact h13, h14.congr (fun a q1 q2 => e a (by omega)), by rw [e0]; exact h15, h16.congr (fun a q1 q2 => e a (by omega)), by rw [e0]; exact h17, h18.congr (fun a q1 q2 => e a (by omega))⟩
end
/-- the places of the past: place i names the state at π i -/
def oPast (S : BqH) (n : Nat) (P : BqP) (x : Nat) (π : Nat → Nat) : Prop := (∀ i, i < 7 → P (x + 54) i = some (x + 165 + 53 * π i) ∧ π i < 7) ∧ (∀ i j, i < 7 → j < 7 → π i = π j → i = j) ∧ (∀ j, j < 7 → oState S n P (x + 165 + 53 * j))
theorem oPast.congr {S : BqH} {n : Nat} {P P' : BqP} {x : Nat} {π π' : Nat → Nat} (h : oPast S n P x π) (e : ∀ a, a ≠ x + 54 → P' a = P a) (h1 : ∀ i, i < 7 → P' (x + 54) i = some (x + 165 + 53 * π' i) ∧ π' i < 7) (h2 : ∀ i j, i < 7 → j < 7 → π' i = π' j → i = j) : oPast S n P' x π' := ⟨h1, h2, fun j hj => (h.2.2 j hj).congr (fun a q1 q2 => e a (by omega))⟩
