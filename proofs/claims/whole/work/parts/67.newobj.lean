/-! what the tables say: the new objects -/
def BW (o c : Nat) (T : BqTb) (S : BqH) (n : Nat) (I : BqI) (L : BqL) (P : BqP) : Prop := o + c ≤ n ∧ ∀ d, d < c → S (o + d) = T.1 d ∧ I (o + d) = T.2.1 d ∧ (∀ j, L (o + d) j = 0) ∧ ∀ j, P (o + d) j = (T.2.2 d j).map (fun t => o + t)
theorem BB.w {o c : Nat} {T : BqTb} {S0 : BqH} {I0 : BqI} {L0 : BqL} {P0 : BqP} {S : BqH} {n : Nat} {I : BqI} {L : BqL} {P : BqP} (h : BB o c T S0 I0 L0 P0 S n I L P) : BW o c T S n I L P := ⟨by have := h.1.1; omega, h.1.2⟩
theorem BB.w2 {o c z : Nat} {T U : BqTb} {S0 : BqH} {I0 : BqI} {L0 : BqL} {P0 : BqP} {S1 : BqH} {n1 : Nat} {I1 : BqI} {L1 : BqL} {P1 : BqP} {S : BqH} {n : Nat} {I : BqI} {L : BqL} {P : BqP} (h1 : BB o c T S0 I0 L0 P0 S1 n1 I1 L1 P1) (h2 : BB (o + c) z U S1 I1 L1 P1 S n I L P) : BW o c T S n I L P := by
  refine ⟨by have := h2.1.1; omega, fun d hd => ?_⟩
  obtain ⟨a1, a2, a3, a4⟩ := h2.2 (o + d) (by omega)
  obtain ⟨b1, b2, b3, b4⟩ := h1.1.2 d hd
  exact ⟨a1.trans b1, a2.trans b2, fun j => by rw [a3]; exact b3 j, fun j => by rw [a4]; exact b4 j⟩
def ckA (T : BqTb) (a len : Nat) : Bool := decide (T.1 a = (13, len))
def ckBlend (T : BqTb) (a : Nat) : Bool := decide (T.1 a = (0, 0)) && decide (T.2.2 a 0 = some (a + 1)) && ckA T (a + 1) 16
def ckPortion (T : BqTb) (a : Nat) : Bool := decide (T.1 a = (6, 0)) && decide (T.2.2 a 0 = some (a + 1)) && ckBlend T (a + 1) && decide (T.2.2 a 1 = some (a + 3)) && ckA T (a + 3) 16
def ckTank (T : BqTb) (a : Nat) : Bool := decide (T.1 a = (9, 0)) && decide (T.2.2 a 3 = some (a + 1)) && ckBlend T (a + 1)
def ckJournal (T : BqTb) (a : Nat) : Bool := decide (T.1 a = (2, 0)) && decide (T.2.2 a 1 = some (a + 1)) && ckA T (a + 1) 320
def ckMixer (T : BqTb) (a : Nat) : Bool := decide (T.1 a = (3, 0)) && decide (T.2.2 a 0 = some (a + 1)) && ckPortion T (a + 1)
def ckPlan (T : BqTb) (a : Nat) : Bool := decide (T.1 a = (5, 0)) && decide (T.2.2 a 1 = some (a + 1)) && ckA T (a + 1) 10 && decide (T.2.2 a 2 = some (a + 2)) && ckA T (a + 2) 10 && decide (T.2.2 a 4 = some (a + 3)) && ckA T (a + 3) 10 && decide (T.2.2 a 5 = some (a + 4)) && decide (T.1 (a + 4) = (15, 6)) && (List.range 6).all (fun i => decide (T.2.2 (a + 4) i = some (a + 9 + 2 * i)) && ckBlend T (a + 9 + 2 * i)) && decide (T.2.2 a 6 = some (a + 5)) && ckPortion T (a + 5)
def ckTape (T : BqTb) (a : Nat) : Bool := decide (T.1 a = (10, 0)) && decide (T.2.2 a 1 = some (a + 1)) && ckA T (a + 1) 60 && decide (T.2.2 a 5 = some (a + 2)) && decide (T.1 (a + 2) = (16, 20)) && (List.range 20).all (fun i => decide (T.2.2 (a + 2) i = some (a + 3 + i)) && decide (T.1 (a + 3 + i) = (1, 0)))
def ckS1 (T : BqTb) (a : Nat) : Bool := decide (T.1 a = (8, 0)) && decide (T.2.2 a 2 = some (a + 1)) && decide (T.1 (a + 1) = (20, 6)) && (List.range 6).all (fun i => decide (T.2.2 (a + 1) i = some (a + 15 + 3 * i)) && ckTank T (a + 15 + 3 * i))
def ckS2 (T : BqTb) (a : Nat) : Bool := decide (T.2.2 a 4 = some (a + 2)) && ckA T (a + 2) 16 && decide (T.2.2 a 5 = some (a + 3)) && ckA T (a + 3) 16 && decide (T.2.2 a 6 = some (a + 4)) && ckBlend T (a + 4) && decide (T.2.2 a 7 = some (a + 6)) && ckBlend T (a + 6) && decide (T.2.2 a 8 = some (a + 8)) && ckBlend T (a + 8) && decide (T.2.2 a 9 = some (a + 10)) && ckA T (a + 10) 4
def ckS3 (T : BqTb) (a : Nat) : Bool := decide (T.2.2 a 11 = some (a + 11)) && decide (T.1 (a + 11) = (18, 10)) && (List.range 10).all (fun i => decide (T.2.2 (a + 11) i = some (a + 33 + i)) && decide (T.1 (a + 33 + i) = (7, 0))) && decide (T.2.2 a 13 = some (a + 12)) && decide (T.1 (a + 12) = (17, 10)) && (List.range 10).all (fun i => decide (T.2.2 (a + 12) i = some (a + 43 + i)) && decide (T.1 (a + 43 + i) = (4, 0))) && decide (T.2.2 a 16 = some (a + 13)) && ckJournal T (a + 13)
def ckState (T : BqTb) (a : Nat) : Bool := ckS1 T a && ckS2 T a && ckS3 T a
section
variable {o c : Nat} {T : BqTb} {S : BqH} {n : Nat} {I : BqI} {L : BqL} {P : BqP}
theorem BW.sh (h : BW o c T S n I L P) {d : Nat} (hd : d < c) {z : Nat × Nat} (e : T.1 d = z) : S (o + d) = z := (h.2 d hd).1.trans e
theorem BW.lt (h : BW o c T S n I L P) {d : Nat} (hd : d < c) : o + d < n := by have := h.1; omega
theorem BW.ptr (h : BW o c T S n I L P) {d k t : Nat} (hd : d < c) (e : T.2.2 d k = some t) : P (o + d) k = some (o + t) := ((h.2 d hd).2.2.2 k).trans (by rw [e]; rfl)
theorem oA_of (h : BW o c T S n I L P) {a len : Nat} (ha : a < c) (e : ckA T a len = true) : oA S n (o + a) len := ⟨h.sh ha (of_decide_eq_true e), h.lt ha⟩
theorem oBlend_of (h : BW o c T S n I L P) {a : Nat} (ha : a + 1 < c) (e : ckBlend T a = true) : oBlend S n P (o + a) := by
  have hn := h.1
  simp only [ckBlend, Bool.and_eq_true, decide_eq_true_eq] at e
  obtain ⟨⟨e1, e2⟩, e3⟩ := e
  exact ⟨h.sh (by omega) e1, by omega, h.ptr (by omega) e2, oA_of h ha e3⟩
theorem oPortion_of (h : BW o c T S n I L P) {a : Nat} (ha : a + 3 < c) (e : ckPortion T a = true) : oPortion S n P (o + a) := by
  have hn := h.1
  simp only [ckPortion, Bool.and_eq_true, decide_eq_true_eq] at e
  obtain ⟨⟨⟨⟨e1, e2⟩, e3⟩, e4⟩, e5⟩ := e
  exact ⟨h.sh (by omega) e1, by omega, h.ptr (by omega) e2, oBlend_of h (a := a + 1) (by omega) e3, h.ptr (by omega) e4, oA_of h (a := a + 3) (by omega) e5⟩
theorem oTank_of (h : BW o c T S n I L P) {a : Nat} (ha : a + 2 < c) (e : ckTank T a = true) : oTank S n P (o + a) := by
  have hn := h.1
  simp only [ckTank, Bool.and_eq_true, decide_eq_true_eq] at e
  obtain ⟨⟨e1, e2⟩, e3⟩ := e
  exact ⟨h.sh (by omega) e1, by omega, h.ptr (by omega) e2, oBlend_of h (a := a + 1) (by omega) e3⟩
theorem oJournal_of (h : BW o c T S n I L P) {a : Nat} (ha : a + 1 < c) (e : ckJournal T a = true) : oJournal S n P (o + a) := by
  have hn := h.1
  simp only [ckJournal, Bool.and_eq_true, decide_eq_true_eq] at e
  obtain ⟨⟨e1, e2⟩, e3⟩ := e
  exact ⟨h.sh (by omega) e1, by omega, h.ptr (by omega) e2, oA_of h (a := a + 1) (by omega) e3⟩
theorem oMixer_of (h : BW o c T S n I L P) {a : Nat} (ha : a + 4 < c) (e : ckMixer T a = true) : oMixer S n P (o + a) := by
  have hn := h.1
  simp only [ckMixer, Bool.and_eq_true, decide_eq_true_eq] at e
  obtain ⟨⟨e1, e2⟩, e3⟩ := e
  exact ⟨h.sh (by omega) e1, by omega, h.ptr (by omega) e2, oPortion_of h (a := a + 1) (by omega) e3⟩
theorem oPlan_of (h : BW o c T S n I L P) {a : Nat} (ha : a + 20 < c) (e : ckPlan T a = true) : oPlan S n P (o + a) := by
  have hn := h.1
  simp only [ckPlan, Bool.and_eq_true, decide_eq_true_eq, List.all_eq_true, List.mem_range] at e
  obtain ⟨⟨⟨⟨⟨⟨⟨⟨⟨⟨⟨e1, e2⟩, e3⟩, e4⟩, e5⟩, e6⟩, e7⟩, e8⟩, e9⟩, e10⟩, e11⟩, e12⟩ := e
  refine ⟨h.sh (by omega) e1, by omega, h.ptr (by omega) e2, oA_of h (a := a + 1) (by omega) e3, h.ptr (by omega) e4, oA_of h (a := a + 2) (by omega) e5, h.ptr (by omega) e6, oA_of h (a := a + 3) (by omega) e7, h.ptr (by omega) e8, h.sh (d := a + 4) (by omega) e9, fun i hi => ?_, h.ptr (by omega) e11, oPortion_of h (a := a + 5) (by omega) e12⟩
  obtain ⟨q1, q2⟩ := e10 i hi
  have p1 := h.ptr (d := a + 4) (by omega) q1
  have p2 := oBlend_of h (a := a + 9 + 2 * i) (by omega) q2
  rw [show o + (a + 9 + 2 * i) = o + a + 9 + 2 * i by omega] at p1 p2
  exact ⟨p1, p2⟩
theorem oTape_of (h : BW o c T S n I L P) {a : Nat} (ha : a + 22 < c) (e : ckTape T a = true) : oTape S n P (o + a) := by
  have hn := h.1
  simp only [ckTape, Bool.and_eq_true, decide_eq_true_eq, List.all_eq_true, List.mem_range] at e
  obtain ⟨⟨⟨⟨⟨e1, e2⟩, e3⟩, e4⟩, e5⟩, e6⟩ := e
  refine ⟨h.sh (by omega) e1, by omega, h.ptr (by omega) e2, oA_of h (a := a + 1) (by omega) e3, h.ptr (by omega) e4, h.sh (d := a + 2) (by omega) e5, fun i hi => ?_⟩
  obtain ⟨q1, q2⟩ := e6 i hi
  have p1 := h.ptr (d := a + 2) (by omega) q1
  have p2 := h.sh (d := a + 3 + i) (by omega) q2
  have p3 := h.lt (d := a + 3 + i) (by omega)
  rw [show o + (a + 3 + i) = o + a + 3 + i by omega] at p1 p2 p3
  exact ⟨p1, p2, p3⟩
theorem oState_of (h : BW o c T S n I L P) {a : Nat} (ha : a + 52 < c) (e : ckState T a = true) : oState S n P (o + a) := by
  have hn := h.1
  simp only [ckState, ckS1, ckS2, ckS3, Bool.and_eq_true, decide_eq_true_eq, List.all_eq_true, List.mem_range] at e
  obtain ⟨⟨⟨⟨⟨a1, a2⟩, a3⟩, a4⟩, ⟨⟨⟨⟨⟨⟨⟨⟨⟨⟨⟨b1, b2⟩, b3⟩, b4⟩, b5⟩, b6⟩, b7⟩, b8⟩, b9⟩, b10⟩, b11⟩, b12⟩⟩, ⟨⟨⟨⟨⟨⟨⟨c1, c2⟩, c3⟩, c4⟩, c5⟩, c6⟩, c7⟩, c8⟩⟩ := e
  refine ⟨h.sh (by omega) a1, by omega, h.ptr (by omega) a2, h.sh (d := a + 1) (by omega) a3, fun i hi => ?_, h.ptr (by omega) b1, oA_of h (a := a + 2) (by omega) b2, h.ptr (by omega) b3, oA_of h (a := a + 3) (by omega) b4, h.ptr (by omega) b5, oBlend_of h (a := a + 4) (by omega) b6, h.ptr (by omega) b7, oBlend_of h (a := a + 6) (by omega) b8, h.ptr (by omega) b9, oBlend_of h (a := a + 8) (by omega) b10, h.ptr (by omega) b11, oA_of h (a := a + 10) (by omega) b12, h.ptr (by omega) c1, h.sh (d := a + 11) (by omega) c2, fun i hi => ?_, h.ptr (by omega) c4, h.sh (d := a + 12) (by omega) c5, fun i hi => ?_, h.ptr (by omega) c7, oJournal_of h (a := a + 13) (by omega) c8⟩
  · obtain ⟨q1, q2⟩ := a4 i hi
    have p1 := h.ptr (d := a + 1) (by omega) q1
    have p2 := oTank_of h (a := a + 15 + 3 * i) (by omega) q2
    rw [show o + (a + 15 + 3 * i) = o + a + 15 + 3 * i by omega] at p1 p2
    exact ⟨p1, p2⟩
  · obtain ⟨q1, q2⟩ := c3 i hi
    have p1 := h.ptr (d := a + 11) (by omega) q1
    have p2 := h.sh (d := a + 33 + i) (by omega) q2
    have p3 := h.lt (d := a + 33 + i) (by omega)
    rw [show o + (a + 33 + i) = o + a + 33 + i by omega] at p1 p2 p3
    exact ⟨p1, p2, p3⟩
  · obtain ⟨q1, q2⟩ := c6 i hi
    have p1 := h.ptr (d := a + 12) (by omega) q1
    have p2 := h.sh (d := a + 43 + i) (by omega) q2
    have p3 := h.lt (d := a + 43 + i) (by omega)
    rw [show o + (a + 43 + i) = o + a + 43 + i by omega] at p1 p2 p3
    exact ⟨p1, p2, p3⟩
end
/-! the cellar -/
theorem tb11_a : (decide (tb11.1 0 = (11, 0)) && decide (tb11.2.2 0 0 = some 1) && decide (tb11.2.2 0 1 = some 54) && decide (tb11.1 54 = (19, 7)) && decide (tb11.2.2 0 3 = some 55) && decide (tb11.2.2 0 5 = some 108) && decide (tb11.2.2 0 6 = some 131) && decide (tb11.2.2 0 7 = some 152) && decide (tb11.2.2 0 8 = some 157) && decide (tb11.2.2 0 9 = some 161)) = true := by decide +kernel
theorem tb11_b : (ckState tb11 1 && ckState tb11 55 && ckTape tb11 108 && ckPlan tb11 131 && ckMixer tb11 152 && ckPortion tb11 157 && ckPortion tb11 161) = true := by decide +kernel
theorem tb11_c : (List.range 7).all (fun i => decide (tb11.2.2 54 i = some (165 + 53 * i)) && ckState tb11 (165 + 53 * i)) = true := by decide +kernel
theorem tb11_d : (decide (tb11.2.1 0 2 = 0) && decide (tb11.2.1 0 4 = 0) && decide (tb11.2.1 0 10 = (-5)) && decide (tb11.2.1 108 0 = 0)) = true := by decide +kernel
/-- the first row -/
def g0 : BqG := tb12.2.1 1
theorem tb11_e : (List.range 650).all (fun k => match lc k with | none => true | some (a, j) => decide (tb11.2.1 (1 + a) j = g0 k)) = true := by decide +kernel
section
variable {o : Nat} {S : BqH} {n : Nat} {I : BqI} {L : BqL} {P : BqP}
theorem new_oX (h : BW o 536 tb11 S n I L P) : oX S n P o := by
  have hn := h.1
  have e := tb11_a
  have f := tb11_b
  simp only [Bool.and_eq_true, decide_eq_true_eq] at e f
  obtain ⟨⟨⟨⟨⟨⟨⟨⟨⟨e1, e2⟩, e3⟩, e4⟩, e5⟩, e6⟩, e7⟩, e8⟩, e9⟩, e10⟩ := e
  obtain ⟨⟨⟨⟨⟨⟨f1, f2⟩, f3⟩, f4⟩, f5⟩, f6⟩, f7⟩ := f
  exact ⟨h.sh (d := 0) (by omega) e1, by omega, h.ptr (d := 0) (by omega) e2, oState_of h (a := 1) (by omega) f1, h.ptr (d := 0) (by omega) e3, h.sh (d := 54) (by omega) e4, h.ptr (d := 0) (by omega) e5, oState_of h (a := 55) (by omega) f2, h.ptr (d := 0) (by omega) e6, oTape_of h (a := 108) (by omega) f3, h.ptr (d := 0) (by omega) e7, oPlan_of h (a := 131) (by omega) f4, h.ptr (d := 0) (by omega) e8, oMixer_of h (a := 152) (by omega) f5, h.ptr (d := 0) (by omega) e9, oPortion_of h (a := 157) (by omega) f6, h.ptr (d := 0) (by omega) e10, oPortion_of h (a := 161) (by omega) f7⟩
theorem new_oPast (h : BW o 536 tb11 S n I L P) : oPast S n P o (fun i => i) := by
  have e := tb11_c
  simp only [Bool.and_eq_true, decide_eq_true_eq, List.all_eq_true, List.mem_range] at e
  refine ⟨fun i hi => ⟨?_, hi⟩, fun i j _ _ q => q, fun j hj => ?_⟩
  · have p := h.ptr (d := 54) (by omega) (e i hi).1
    rw [show o + (165 + 53 * i) = o + 165 + 53 * i by omega] at p
    exact p
  · have p := oState_of h (a := 165 + 53 * j) (by omega) (e j hj).2
    rw [show o + (165 + 53 * j) = o + 165 + 53 * j by omega] at p
    exact p
theorem g0_0 : (decide (g0 6 = 0) && (List.range 10).all (fun i => decide (g0 (212 + 9 * i) = 0) && decide (¬ g0 (208 + 9 * i) = nI 1))) = true := by decide +kernel
theorem paid_0 : ∀ k, k ≤ 10 → paidN g0 k = 0
  | 0, _ => rfl
  | k + 1, hk => by
    have e := g0_0
    simp only [Bool.and_eq_true, decide_eq_true_eq, List.all_eq_true, List.mem_range] at e
    show (if g0 (208 + 9 * k) = nI 1 then _ else paidN g0 k) = 0
    rw [if_neg (e.2 k (by omega)).2, paid_0 k (by omega)]
theorem new_CXS (h : BW o 536 tb11 S n I L P) (hh : Nat → BqG) : CXS o S n I L P g0 hh 0 := by
  have e := tb11_d
  have z := g0_0
  simp only [Bool.and_eq_true, decide_eq_true_eq, List.all_eq_true, List.mem_range] at e z
  have hL : ∀ d, d < 536 → ∀ j, L (o + d) j = 0 := fun d hd => (h.2 d hd).2.2.1
  refine ⟨new_oX h, ⟨fun k a j hk => ?_, fun i hi => ?_, ?_, ?_⟩, ?_, by omega, (fun i => i), new_oPast h, fun i hi => absurd hi (Nat.not_lt_zero i)⟩
  · have q := List.all_eq_true.mp tb11_e k (List.mem_range.mpr (lc_lt hk))
    rw [hk] at q
    have q' : tb11.2.1 (1 + a) j = g0 k := of_decide_eq_true q
    have ha := (lc_il hk).2
    rw [Nat.add_assoc, (h.2 (1 + a) (by omega)).2.1]
    exact q'
  · rw [show o + 1 + 43 + i = o + (44 + i) by omega, hL _ (by omega), (z.2 i hi).1]; rfl
  · rw [show L (o + 1) 14 = 0 from hL 1 (by omega) 14, paid_0 10 (Nat.le_refl _)]
  · rw [show L (o + 1) 15 = 0 from hL 1 (by omega) 15, z.1]; rfl
  · exact (congrFun (h.2 0 (by omega)).2.1 2).trans e.1.1.1
end
/-! the first row is sound -/
theorem g0_r : (List.range 650).all (fun k => decide (g0 k = nI (gn g0 k)) && decide (gn g0 k < 2 ^ 31)) = true := by decide +kernel
theorem g0_c : (decide (gn g0 0 ≤ 9999 ∧ gn g0 1 ≤ 16 ∧ gn g0 2 ≤ 10 ∧ gn g0 3 ≤ 10 ∧ gn g0 4 ≤ 100 ∧ gn g0 5 ≤ 0) && (List.range 6).all (fun t => decide (1 ≤ gn g0 (10 + 19 * t) ∧ gn g0 (10 + 19 * t) ≤ 9999 ∧ gn g0 (11 + 19 * t) = 0 ∧ gn g0 (12 + 19 * t) = 0 ∧ (List.range 16).all (fun b => decide (gn g0 (13 + 19 * t + b) = 0)) = true)) && (List.range 16).all (fun b => (List.range 5).all (fun k => decide (gn g0 (124 + 5 * b + k) = 0))) && (List.range 10).all (fun q => (List.range 9).all (fun k => decide (gn g0 (204 + 9 * q + k) = 0)) && decide (gn g0 (296 + 3 * q) = 0)) && (List.range 4).all (fun k => decide (gn g0 (324 + k) = 0))) = true := by decide +kernel
theorem g0_2 : gn g0 2 = 0 := by decide +kernel
theorem ns_0 {F : Nat → Nat} {k : Nat} (h : ∀ j, j < k → F j = 0) : ns F k = 0 := (ns_congr (G := fun _ => 0) k h).trans (ns_z k)
theorem gk_0 : GK g0 0 := by
  have r := g0_r
  have e := g0_c
  simp only [Bool.and_eq_true, decide_eq_true_eq, List.all_eq_true, List.mem_range] at r e
  obtain ⟨⟨⟨⟨e1, e2⟩, e3⟩, e4⟩, e5⟩ := e
  refine ⟨fun k hk _ => r k hk, ⟨e1, fun t ht => ?_, fun b hb => ?_, fun q hq => ?_, fun q hq => ?_, fun q hq => ?_⟩, ?_⟩
  · obtain ⟨a1, a2, a3, a4, a5⟩ := e2 t ht
    have hz : ts (gn g0) t = 0 := ns_0 (fun j hj => a5 j hj)
    unfold GT
    rw [hz, a3, a4]
    exact ⟨a1, a2, by omega, by omega, by omega, by omega⟩
  · have hz : bs (gn g0) b = 0 := ns_0 (fun t ht => (e2 t ht).2.2.2.2 b hb)
    have k0 : gn g0 (124 + 5 * b) = 0 := e3 b hb 0 (by decide)
    have k1 : gn g0 (124 + 5 * b + 1) = 0 := e3 b hb 1 (by decide)
    have k2 : gn g0 (124 + 5 * b + 2) = 0 := e3 b hb 2 (by decide)
    have k3 : gn g0 (124 + 5 * b + 3) = 0 := e3 b hb 3 (by decide)
    rw [show 124 + 5 * b + 1 = 125 + 5 * b by omega] at k1
    rw [show 124 + 5 * b + 2 = 126 + 5 * b by omega] at k2
    rw [show 124 + 5 * b + 3 = 127 + 5 * b by omega] at k3
    unfold GB
    rw [hz, k0, k1, k2, k3]
    exact ⟨by omega, rfl, by omega, fun _ => rfl⟩
  · have k : ∀ i, i < 9 → gn g0 (204 + 9 * q + i) = 0 := (e4 q hq).1
    have k0 := k 0 (by decide)
    have k1 := k 1 (by decide)
    have k2 := k 2 (by decide)
    have k3 := k 3 (by decide)
    have k4 := k 4 (by decide)
    have k5 := k 5 (by decide)
    have k8 := k 8 (by decide)
    rw [show 204 + 9 * q + 1 = 205 + 9 * q by omega] at k1
    rw [show 204 + 9 * q + 2 = 206 + 9 * q by omega] at k2
    rw [show 204 + 9 * q + 3 = 207 + 9 * q by omega] at k3
    rw [show 204 + 9 * q + 4 = 208 + 9 * q by omega] at k4
    rw [show 204 + 9 * q + 5 = 209 + 9 * q by omega] at k5
    rw [show 204 + 9 * q + 8 = 212 + 9 * q by omega] at k8
    have h2 : gn g0 2 = 0 := g0_2
    unfold GO
    rw [k1, k2, k3, show gn g0 (204 + 9 * q) = 0 from k0, k4, k5, k8, h2]
    exact ⟨by omega, fun z => by omega, by omega, by omega, by omega, by omega, by omega, by omega, fun _ => rfl⟩
  · have := (e4 q hq).2
    omega
  · have := e5 q hq
    omega
  · have z := g0_0
    simp only [Bool.and_eq_true, decide_eq_true_eq] at z
    rw [z.1]
    decide
/-! the model -/
theorem tb12_a : (decide (tb12.1 0 = (12, 0)) && ckA tb12 1 650 && ckA tb12 2 3900 && ckA tb12 3 650 && ckA tb12 4 650 && ckA tb12 5 60 && ckA tb12 6 16 && ckA tb12 7 16 && ckA tb12 8 16 && ckA tb12 9 10 && ckA tb12 10 10 && decide (tb12.1 11 = (14, 10)) && ckA tb12 12 96 && ckA tb12 13 240) = true := by decide +kernel
theorem tb12_b : (decide (tb12.2.2 0 0 = some 1) && decide (tb12.2.2 0 1 = some 2) && decide (tb12.2.2 0 3 = some 3) && decide (tb12.2.2 0 5 = some 4) && decide (tb12.2.2 0 8 = some 5) && decide (tb12.2.2 0 10 = some 6) && decide (tb12.2.2 0 11 = some 7) && decide (tb12.2.2 0 12 = some 8) && decide (tb12.2.2 0 13 = some 9) && decide (tb12.2.2 0 14 = some 10) && decide (tb12.2.2 0 15 = some 11) && decide (tb12.2.2 0 16 = some 12) && decide (tb12.2.2 0 20 = some 13)) = true := by decide +kernel
theorem tb12_c : (decide (tb12.2.1 0 2 = 0) && decide (tb12.2.1 0 4 = 0) && decide (tb12.2.1 0 6 = 0) && decide (tb12.2.1 0 7 = 0) && decide (tb12.2.1 0 9 = 0)) = true := by decide +kernel
section
variable {o : Nat} {S : BqH} {n : Nat} {I : BqI} {L : BqL} {P : BqP}
theorem new_model (h : BW o 14 tb12 S n I L P) : oModel S n P o := by
  have hn := h.1
  have e := tb12_a
  have f := tb12_b
  simp only [Bool.and_eq_true, decide_eq_true_eq] at e f
  obtain ⟨⟨⟨⟨⟨⟨⟨⟨⟨⟨⟨⟨⟨e0, e1⟩, e2⟩, e3⟩, e4⟩, e5⟩, e6⟩, e7⟩, e8⟩, e9⟩, e10⟩, e11⟩, e12⟩, e13⟩ := e
  obtain ⟨⟨⟨⟨⟨⟨⟨⟨⟨⟨⟨⟨f1, f2⟩, f3⟩, f4⟩, f5⟩, f6⟩, f7⟩, f8⟩, f9⟩, f10⟩, f11⟩, f12⟩, f13⟩ := f
  have p : ∀ {k t : Nat}, tb12.2.2 0 k = some t → P o k = some (o + t) := fun q => h.ptr (d := 0) (by omega) q
  have a : ∀ {d len : Nat}, d < 14 → ckA tb12 d len = true → oA S n (o + d) len := fun hd q => oA_of h hd q
  exact ⟨h.sh (d := 0) (by omega) e0, by omega, p f1, a (by omega) e1, p f2, a (by omega) e2, p f3, a (by omega) e3, p f4, a (by omega) e4, p f5, a (by omega) e5, p f6, a (by omega) e6, p f7, a (by omega) e7, p f8, a (by omega) e8, p f9, a (by omega) e9, p f10, a (by omega) e10, p f11, ⟨h.sh (d := 11) (by omega) e11, h.lt (by omega)⟩, p f12, a (by omega) e12, p f13, a (by omega) e13⟩
theorem new_mI (h : BW o 14 tb12 S n I L P) (hh : Nat → BqG) : I (o + 1) = g0 ∧ MH o I hh 0 ∧ I o 4 = 0 ∧ I o 6 = nI 0 ∧ I o 7 = 0 ∧ I o 9 = nI 0 := by
  have e := tb12_c
  simp only [Bool.and_eq_true, decide_eq_true_eq] at e
  obtain ⟨⟨⟨⟨e2, e4⟩, e6⟩, e7⟩, e9⟩ := e
  have r : ∀ k, I o k = tb12.2.1 0 k := fun k => congrFun (h.2 0 (by omega)).2.1 k
  exact ⟨(h.2 1 (by omega)).2.1, ⟨(r 2).trans e2, by omega, fun i hi => absurd hi (Nat.not_lt_zero i)⟩, (r 4).trans e4, (r 6).trans e6, (r 7).trans e7, (r 9).trans e9⟩
theorem new_xI (h : BW o 536 tb11 S n I L P) : I o 4 = 0 ∧ I o 10 = (-5) ∧ I (o + 108) 0 = nI 0 := by
  have e := tb11_d
  simp only [Bool.and_eq_true, decide_eq_true_eq] at e
  obtain ⟨⟨⟨e2, e4⟩, e10⟩, e0⟩ := e
  have r : ∀ k, I o k = tb11.2.1 0 k := fun k => congrFun (h.2 0 (by omega)).2.1 k
  exact ⟨(r 4).trans e4, (r 10).trans e10, (congrFun (h.2 108 (by omega)).2.1 0).trans e0⟩
end
