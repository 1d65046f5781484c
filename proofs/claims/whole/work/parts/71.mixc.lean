/-! the class's mixer -/
def qMx (x : Nat) (I : BqI) (S : BqH) (n : Nat) (L : BqL) (P : BqP) (v : Value) : BqQ := fun r S' n' I' L' P' => r = some v ∧ S' = S ∧ n' = n ∧ L' = L ∧ P' = P ∧ ∀ a, a ≠ x + 155 → a ≠ x + 156 → I' a = I a
theorem al_m {T U : Nat → Int32} {F s : Nat → Nat} (hT : ∀ j, j < 16 → T j = nI (F j)) (hU : ∀ j, j < 16 → U j = nI (s j)) (hb : ∀ j, j < 16 → F j ≤ 9999) (hs : ∀ j, j < 16 → s j ≤ 2000) : bq_alc T U 16 = nJ (al F s) :=
  bq_alc_n (F := F) (G := s) 16 hT hU (fun j hj => by have := hs j hj; omega) (fun j hj => by have := hb j hj; omega)
theorem so_m {T U : Nat → Int32} {F s : Nat → Nat} (hT : ∀ j, j < 16 → T j = nI (F j)) (hU : ∀ j, j < 16 → U j = nI (s j)) (hb : ∀ j, j < 16 → F j ≤ 9999) (hs : ∀ j, j < 16 → s j ≤ 2000) : bq_sos T U 16 = nJ (so F s) := by
  have key : ∀ k, k ≤ 16 → bq_sos T U k = nJ (ns (fun b => if F b = 0 then 0 else s b) k) := by
    intro k
    induction k with
    | zero => intro _; rfl
    | succ k ih =>
      intro hk
      have h1 := hb k (by omega)
      have h2 := hs k (by omega)
      show (if T k ≤ 0 then bq_sos T U k else bq_sos T U k + (U k).toInt64) = nJ (ns (fun b => if F b = 0 then 0 else s b) k + (if F k = 0 then 0 else s k))
      rw [ih (by omega), hT k (by omega), hU k (by omega)]
      by_cases c : F k = 0
      · rw [c, if_pos (by decide), if_pos rfl]; rfl
      · rw [if_neg (nI_nle (Nat.pos_of_ne_zero c) (by omega)), if_neg c, nI_l (by omega)]
        exact lN_add _ _
  exact key 16 (Nat.le_refl _)
theorem al_le {F s : Nat → Nat} (hs : ∀ j, j < 16 → s j ≤ 2000) : al F s ≤ 2000 * ns F 16 := by
  have h : al F s ≤ ns (fun b => F b * 2000) 16 := ns_le 16 (fun j hj => Nat.mul_le_mul_left _ (hs j hj))
  rw [ns_mul] at h
  omega
theorem so_le {F s : Nat → Nat} (hs : ∀ j, j < 16 → s j ≤ 2000) : so F s ≤ 32000 := by
  have h : so F s ≤ ns (fun _ => 2000) 16 := ns_le 16 (fun j hj => by
    show (if F j = 0 then 0 else s j) ≤ 2000
    split
    · omega
    · exact hs j hj)
  exact Nat.le_trans h (by decide)
theorem mul_lt {a b A B : Nat} (h1 : a ≤ A) (h2 : b ≤ B) : a * b ≤ A * B := Nat.mul_le_mul h1 h2
theorem dz_bd {F G s : Nat → Nat} {l w k : Nat} (hs : ∀ j, j < 16 → s j ≤ 2000) (k2 : k ≤ ns F 16) (k3 : l - k ≤ ns G 16) (pF : 0 < ns F 16) (pG : 0 < ns G 16) (bF : ns F 16 ≤ 9999) (bG : ns G 16 ≤ 9999) (hl : l ≤ 9999) (hw : w ≤ 2000) : al (npt F k) s ≤ 19998000 ∧ al (npt G (l - k)) s ≤ 19998000 ∧ l * w ≤ 19998000 := by
  have h1 := al_le (F := npt F k) hs
  have h2 := al_le (F := npt G (l - k)) hs
  rw [(npt_in k2 pF).2] at h1
  rw [(npt_in k3 pG).2] at h2
  have h3 : l * w ≤ 9999 * 2000 := Nat.mul_le_mul hl hw
  omega
theorem dz_le {F G s : Nat → Nat} {l w k : Nat} (hs : ∀ j, j < 16 → s j ≤ 2000) (k2 : k ≤ ns F 16) (k3 : l - k ≤ ns G 16) (pF : 0 < ns F 16) (pG : 0 < ns G 16) (bF : ns F 16 ≤ 9999) (bG : ns G 16 ≤ 9999) (hl : l ≤ 9999) (hw : w ≤ 2000) : (dz F G s l w k).natAbs ≤ 50000000 := by
  obtain ⟨a, b, c⟩ := dz_bd hs k2 k3 pF pG bF bG hl hw
  unfold dz
  omega
theorem dz_abs {F G s : Nat → Nat} {l w k : Nat} {wv : Int64} (hs : ∀ j, j < 16 → s j ≤ 2000) (k2 : k ≤ ns F 16) (k3 : l - k ≤ ns G 16) (pF : 0 < ns F 16) (pG : 0 < ns G 16) (bF : ns F 16 ≤ 9999) (bG : ns G 16 ≤ 9999) (hl : l ≤ 9999) (hw : w ≤ 2000) (hwv : Lz wv (l * w : Nat)) : (if 0 < nJ (al (npt F k) s) + nJ (al (npt G (l - k)) s) - wv then nJ (al (npt F k) s) + nJ (al (npt G (l - k)) s) - wv else -(nJ (al (npt F k) s) + nJ (al (npt G (l - k)) s) - wv)) = lN (dz F G s l w k).natAbs := by
  obtain ⟨a, b, c⟩ := dz_bd hs k2 k3 pF pG bF bG hl hw
  have h := ((Lz.nat (a := al (npt F k) s) (by omega)).add (Lz.nat (a := al (npt G (l - k)) s) (by omega)) (by omega) (by omega)).sub hwv (by omega) (by omega)
  exact h.abs (by omega) (by omega)
theorem mx_lo {l B : Nat} {ob : Int64} (z : Lz ob B) (hl : l ≤ 9999) (hB : B ≤ 9999) : (if (nI l).toInt64 - ob < 0 then (0 : Int64) else (nI l).toInt64 - ob) = lN (l - B) := by
  have h := (Lz.nI (a := l) (by omega)).sub z (by omega) (by omega)
  have h0 : (0 : Int64).toInt = 0 := by decide
  unfold Lz at h
  refine Int64.toInt_inj.mp ?_
  rw [pk_lT (by omega)]
  by_cases c : (nI l).toInt64 - ob < 0
  · rw [if_pos c]
    have := Int64.lt_iff_toInt_lt.mp c
    omega
  · rw [if_neg c]
    have : ¬ ((nI l).toInt64 - ob).toInt < (0 : Int64).toInt := fun q => c (Int64.lt_iff_toInt_lt.mpr q)
    omega
theorem mx_hi {l A : Nat} {oa : Int64} (z : Lz oa A) (hl : l ≤ 9999) (hA : A ≤ 9999) : (if oa < (nI l).toInt64 then oa else (nI l).toInt64) = lN (min l A) := by
  have h := Lz.nI (a := l) (by omega)
  unfold Lz at h z
  refine Int64.toInt_inj.mp ?_
  rw [pk_lT (by omega)]
  by_cases c : oa < (nI l).toInt64
  · rw [if_pos c]
    have := Int64.lt_iff_toInt_lt.mp c
    omega
  · rw [if_neg c]
    have : ¬ oa.toInt < (nI l).toInt64.toInt := fun q => c (Int64.lt_iff_toInt_lt.mpr q)
    omega
theorem mx_w {l w : Nat} (hl : l ≤ 9999) (hw : w ≤ 2000) : Lz ((nI l).toInt64 * (nI w).toInt64) (l * w : Nat) := by
  have h3 : l * w ≤ 9999 * 2000 := Nat.mul_le_mul hl hw
  rw [nI_l (by omega), nI_l (by omega), lN_mul]
  exact Lz.nat (by omega)
theorem mx_sc {A B : Nat} {oa ob : Int64} (z1 : Lz oa A) (z2 : Lz ob B) (hA : A ≤ 9999) (hB : B ≤ 9999) : Lz (oa * ob) ((A : Int) * B) := by
  have h3 : A * B ≤ 9999 * 9999 := Nat.mul_le_mul hA hB
  have h4 : ((A * B : Nat) : Int) = (A : Int) * B := Int.natCast_mul A B
  exact z1.mul z2 (by omega) (by omega)
theorem mx_rs {A B p q : Nat} {oa ob : Int64} (z1 : Lz oa A) (z2 : Lz ob B) (b1 : p ≤ 2000 * A) (b2 : q ≤ 2000 * B) (hA : A ≤ 9999) (hB : B ≤ 9999) : Lz (nJ p * ob - nJ q * oa) ((p : Int) * B - q * A) := by
  have h1 : p * B ≤ 19998000 * 9999 := Nat.mul_le_mul (by omega) hB
  have h2 : q * A ≤ 19998000 * 9999 := Nat.mul_le_mul (by omega) hA
  have e1 : ((p * B : Nat) : Int) = (p : Int) * B := Int.natCast_mul p B
  have e2 : ((q * A : Nat) : Int) = (q : Int) * A := Int.natCast_mul q A
  exact ((Lz.nat (a := p) (by omega)).mul z2 (by omega) (by omega)).sub ((Lz.nat (a := q) (by omega)).mul z1 (by omega) (by omega)) (by omega) (by omega)
theorem mx_sa {A B q l w : Nat} {oa wa sc : Int64} (z1 : Lz oa A) (z3 : Lz wa (l * w : Nat)) (z4 : Lz sc ((A : Int) * B)) (b2 : q ≤ 2000 * B) (hA : A ≤ 9999) (hB : B ≤ 9999) (hl : l ≤ 9999) (hw : w ≤ 2000) : Lz (nJ q * oa * (nI l).toInt64 - wa * sc) ((q : Int) * A * l - (l * w : Nat) * ((A : Int) * B)) := by
  have h2 : q * A ≤ 19998000 * 9999 := Nat.mul_le_mul (by omega) hA
  have h3 : q * A * l ≤ 19998000 * 9999 * 9999 := Nat.mul_le_mul h2 hl
  have h4 : l * w ≤ 9999 * 2000 := Nat.mul_le_mul hl hw
  have h5 : A * B ≤ 9999 * 9999 := Nat.mul_le_mul hA hB
  have h6 : l * w * (A * B) ≤ 9999 * 2000 * (9999 * 9999) := Nat.mul_le_mul h4 h5
  have e2 : ((q * A : Nat) : Int) = (q : Int) * A := Int.natCast_mul q A
  have e3 : ((q * A * l : Nat) : Int) = (q : Int) * A * l := by rw [Int.natCast_mul, Int.natCast_mul]
  have e5 : ((l * w * (A * B) : Nat) : Int) = ((l * w : Nat) : Int) * ((A : Int) * B) := by rw [Int.natCast_mul (l * w), Int.natCast_mul A B]
  exact (((Lz.nat (a := q) (by omega)).mul z1 (by omega) (by omega)).mul (Lz.nI (a := l) (by omega)) (by omega) (by omega)).sub (z3.mul z4 (by omega) (by omega)) (by omega) (by omega)
theorem mx_ro {u v : Nat} (b3 : u ≤ 32000) (b4 : v ≤ 32000) : Lz (nJ u + nJ v) ((u : Int) + v) := (Lz.nat (a := u) (by omega)).add (Lz.nat (a := v) (by omega)) (by omega) (by omega)
theorem mx_guess {q : Int64} {lo hi : Nat} (h : lo ≤ hi) (hb : hi < 2 ^ 30) : ∃ f0, lo ≤ f0 ∧ f0 ≤ hi ∧ (if (if q < (nI hi).toInt64 then q else (nI hi).toInt64) < (nI lo).toInt64 then (nI lo).toInt64 else (if q < (nI hi).toInt64 then q else (nI hi).toInt64)).toInt32 = nI f0 := by
  have z1 := Lz.nI (a := hi) (by omega)
  have z2 := Lz.nI (a := lo) (by omega)
  unfold Lz at z1 z2
  have key : ∀ y : Int64, y.toInt ≤ hi → ∃ f0, lo ≤ f0 ∧ f0 ≤ hi ∧ (if y < (nI lo).toInt64 then (nI lo).toInt64 else y).toInt32 = nI f0 := by
    intro y hy
    by_cases c : y < (nI lo).toInt64
    · rw [if_pos c]
      refine ⟨lo, Nat.le_refl _, h, ?_⟩
      rw [nI_l (by omega)]; exact lN_i lo
    · rw [if_neg c]
      have c2 : ¬ y.toInt < (nI lo).toInt64.toInt := fun q => c (Int64.lt_iff_toInt_lt.mpr q)
      refine ⟨y.toInt.toNat, by omega, by omega, ?_⟩
      have e : y = lN y.toInt.toNat := Int64.toInt_inj.mp (by rw [pk_lT (by omega)]; omega)
      have := lN_i y.toInt.toNat
      rw [← e] at this
      exact this
  refine key _ ?_
  by_cases c : q < (nI hi).toInt64
  · rw [if_pos c]
    have := Int64.lt_iff_toInt_lt.mp c
    omega
  · rw [if_neg c]; omega
theorem mx_far {F G s : Nat → Nat} {l w k c : Nat} {sc rs sa ro : Int64} (pF : 0 < ns F 16) (pG : 0 < ns G 16) (k2 : k ≤ ns F 16) (k3 : l - k ≤ ns G 16) (k1 : k ≤ l) (z4 : Lz sc ((ns F 16 : Int) * ns G 16)) (z5 : Lz rs ((al F s : Int) * ns G 16 - al G s * ns F 16)) (z6 : Lz sa ((al G s : Int) * ns F 16 * l - (l * w : Nat) * ((ns F 16 : Int) * ns G 16))) (z7 : Lz ro ((so F s : Int) + so G s)) (b1 : al F s ≤ 2000 * ns F 16) (b2 : al G s ≤ 2000 * ns G 16) (b3 : so F s ≤ 32000) (b4 : so G s ≤ 32000) (bF : ns F 16 ≤ 9999) (bG : ns G 16 ≤ 9999) (hl : l ≤ 9999) (hw : w ≤ 2000) (hc : c ≤ 10 ^ 9) (h : ¬ lg_cmp (if 0 < sa + rs * (nI k).toInt64 then sa + rs * (nI k).toInt64 else -(sa + rs * (nI k).toInt64)) ((lN c + ro) * sc) < 0) : c ≤ (dz F G s l w k).natAbs := by
  refine dz_far pF pG k2 k3 k1 ?_
  have hk : k ≤ 9999 := by omega
  have h1 : al F s * ns G 16 ≤ 19998000 * 9999 := Nat.mul_le_mul (by omega) bG
  have h2 : al G s * ns F 16 ≤ 19998000 * 9999 := Nat.mul_le_mul (by omega) bF
  have h3 : al G s * ns F 16 * l ≤ 19998000 * 9999 * 9999 := Nat.mul_le_mul h2 hl
  have h4 : l * w ≤ 9999 * 2000 := Nat.mul_le_mul hl hw
  have h5 : ns F 16 * ns G 16 ≤ 9999 * 9999 := Nat.mul_le_mul bF bG
  have h6 : l * w * (ns F 16 * ns G 16) ≤ 9999 * 2000 * (9999 * 9999) := Nat.mul_le_mul h4 h5
  have h7 : al F s * ns G 16 * k ≤ 19998000 * 9999 * 9999 := Nat.mul_le_mul h1 hk
  have h8 : al G s * ns F 16 * k ≤ 19998000 * 9999 * 9999 := Nat.mul_le_mul h2 hk
  have h9 : (c + (so F s + so G s)) * (ns F 16 * ns G 16) ≤ (10 ^ 9 + 64000) * (9999 * 9999) := Nat.mul_le_mul (by omega) h5
  have e1 : ((al F s * ns G 16 : Nat) : Int) = (al F s : Int) * ns G 16 := Int.natCast_mul _ _
  have e2 : ((al G s * ns F 16 : Nat) : Int) = (al G s : Int) * ns F 16 := Int.natCast_mul _ _
  have e3 : ((al G s * ns F 16 * l : Nat) : Int) = (al G s : Int) * ns F 16 * l := by rw [Int.natCast_mul, Int.natCast_mul]
  have e6 : ((l * w * (ns F 16 * ns G 16) : Nat) : Int) = ((l * w : Nat) : Int) * ((ns F 16 : Int) * ns G 16) := by rw [Int.natCast_mul (l * w), Int.natCast_mul (ns F 16)]
  have e7 : ((al F s * ns G 16 * k : Nat) : Int) = (al F s : Int) * ns G 16 * k := by rw [Int.natCast_mul, Int.natCast_mul]
  have e8 : ((al G s * ns F 16 * k : Nat) : Int) = (al G s : Int) * ns F 16 * k := by rw [Int.natCast_mul, Int.natCast_mul]
  have e9 : (((c + (so F s + so G s)) * (ns F 16 * ns G 16) : Nat) : Int) = ((c : Int) + (so F s + so G s)) * ((ns F 16 : Int) * ns G 16) := by rw [Int.natCast_mul, Int.natCast_mul (ns F 16), Int.natCast_add, Int.natCast_add]
  have er : ((al F s : Int) * ns G 16 - al G s * ns F 16) * k = (al F s : Int) * ns G 16 * k - al G s * ns F 16 * k := Int.sub_mul _ _ _
  have zk := Lz.nI (a := k) (by omega)
  have y1 := z6.add (z5.mul zk (by rw [er]; omega) (by rw [er]; omega)) (by rw [er]; omega) (by rw [er]; omega)
  have y2 := ((Lz.nat (a := c) (by omega)).add z7 (by omega) (by omega)).mul z4 (by omega) (by omega)
  rw [y1.abs (by rw [er]; omega) (by rw [er]; omega)] at h
  have h10 : ¬ lN (((al G s : Int) * ns F 16 * l - (l * w : Nat) * ((ns F 16 : Int) * ns G 16)) + ((al F s : Int) * ns G 16 - al G s * ns F 16) * k).natAbs < (lN c + ro) * sc := fun q => h ((lg_cmp_lt _ _).mpr q)
  have h11 : ¬ (lN (((al G s : Int) * ns F 16 * l - (l * w : Nat) * ((ns F 16 : Int) * ns G 16)) + ((al F s : Int) * ns G 16 - al G s * ns F 16) * k).natAbs).toInt < ((lN c + ro) * sc).toInt := fun q => h10 (Int64.lt_iff_toInt_lt.mpr q)
  unfold Lz at y2
  rw [y2, pk_lT (by rw [er]; omega)] at h11
  omega
theorem mx_ge {c d : Nat} (hc : c ≤ 10 ^ 9) (hd : d ≤ 10 ^ 9) (h : 0 ≤ lg_cmp (lN d) (lN c)) : c ≤ d := (pk_lLE (by omega) (by omega)).mp ((lg_cmp_ge _ _).mp h)
theorem mx_lt {c d : Nat} (hc : c ≤ 10 ^ 9) (hd : d ≤ 10 ^ 9) (h : ¬ 0 ≤ lg_cmp (lN d) (lN c)) : d < c := Nat.lt_of_not_le (fun q => h ((lg_cmp_ge _ _).mpr ((pk_lLE (by omega) (by omega)).mpr q)))
def r_near (F G s : Nat → Nat) (l w : Nat) : Int32 := ri (mf (fun k => (dz F G s l w k).natAbs) (l - ns G 16) (min l (ns F 16) + 1 - (l - ns G 16)))
theorem r_near_in {F G s : Nat → Nat} {l w f : Nat} (h : mf (fun k => (dz F G s l w k).natAbs) (l - ns G 16) (min l (ns F 16) + 1 - (l - ns G 16)) = some f) : r_near F G s l w = nI f := by
  unfold r_near
  rw [h]
  rfl
set_option maxHeartbeats 1000000 in
set_option maxRecDepth 20000 in
theorem c_dist {S : BqH} {n : Nat} {I : BqI} {L : BqL} {P : BqP} {x w1 w2 st l w : Nat} {F G s : Nat → Nat} (hx : oX S n P x) (hw1 : oBlend S n P w1) (hw2 : oBlend S n P w2) (hst : oA S n st 16) (d1 : w1 + 1 < x + 131) (d2 : w2 + 1 < x + 131) (d3 : st < x + 131) (hF : ∀ j, j < 16 → I (w1 + 1) j = nI (F j)) (hG : ∀ j, j < 16 → I (w2 + 1) j = nI (G j)) (hS : ∀ j, j < 16 → I st j = nI (s j)) (hs2 : ∀ j, j < 16 → s j ≤ 2000) (pF : 0 < ns F 16) (pG : 0 < ns G 16) (bF : ns F 16 ≤ 9999) (bG : ns G 16 ≤ 9999) (hl : l ≤ 9999) (hw : w ≤ 2000) {k : Nat} (k1 : k ≤ l) (k2 : k ≤ ns F 16) (k3 : l - k ≤ ns G 16) {wv : Int64} (hwv : Lz wv (l * w : Nat)) : bq_Sp mX3_distanceAt 3 60 0 0 [.ref (x + 152), .ref w1, .ref w2, .ref st, .int (nI l), .int (nI k), .long wv] S n I L P (qMx x I S n L P (.long (lN (dz F G s l w k).natAbs))) := by
  refine q_entry (vs := [some (.ref (x + 152)), some (.ref w1), some (.ref w2), some (.ref st), some (.int (nI l)), some (.int (nI k)), some (.long wv), none, none, none]) (by decide +kernel) (by simp) (Nat.le_of_ble_eq_true rfl) rfl ?_
  refine q_aload_n (pc := 0) dX3_distanceAt_0 rfl rfl ?_
  refine q_getP (pc := 1) dX3_distanceAt_1 fX3_12 (Mixer_sh (Cellar_s_mixer hx)) ⟨by decide, rfl⟩ (Mixer_lt (Cellar_s_mixer hx)) (Mixer_p_taken (Cellar_s_mixer hx)) ?_
  refine q_aload_n (pc := 4) dX3_distanceAt_4 rfl rfl ?_
  refine q_iload (pc := 5) dX3_distanceAt_5 rfl ?_
  refine q_callV (pc := 7) dX3_distanceAt_7 kX3_48 (c_take (Mixer_s_taken (Cellar_s_mixer hx)) hw1 (by omega) (by omega) (pm_n hF k2 pF bF).2 (by omega)) (Portion_sh (Mixer_s_taken (Cellar_s_mixer hx))) rfl (Portion_lt (Mixer_s_taken (Cellar_s_mixer hx))) ⟨Nat.le_of_ble_eq_true rfl, Nat.le_of_ble_eq_true rfl⟩ rfl rfl (Nat.le_of_ble_eq_true rfl) ?_
  rintro _ S1 n1 I1 L1 P1 ⟨rfl, eS1, en1, eL1, eP1, f1, t1⟩
  subst S1 n1 L1 P1
  show bq_W _ _ _ _ _ 10 _ [] _ _ _ _ _ _
  have ht1 := fun j hj => (t1 j hj).trans (pt_n hF k2 pF bF j hj)
  have hS1 : ∀ j, j < 16 → I1 st j = nI (s j) := fun j hj => by rw [f1 _ (by omega) (by omega)]; exact hS j hj
  have hG1 : ∀ j, j < 16 → I1 (w2 + 1) j = nI (G j) := fun j hj => by rw [f1 _ (by omega) (by omega)]; exact hG j hj
  refine q_aload_n (pc := 10) dX3_distanceAt_10 rfl rfl ?_
  refine q_getP (pc := 11) dX3_distanceAt_11 fX3_12 (Mixer_sh (Cellar_s_mixer hx)) ⟨by decide, rfl⟩ (Mixer_lt (Cellar_s_mixer hx)) (Mixer_p_taken (Cellar_s_mixer hx)) ?_
  refine q_getP (pc := 14) dX3_distanceAt_14 fX3_52 (Portion_sh (Mixer_s_taken (Cellar_s_mixer hx))) ⟨by decide, rfl⟩ (Portion_lt (Mixer_s_taken (Cellar_s_mixer hx))) (Portion_p_blend (Mixer_s_taken (Cellar_s_mixer hx))) ?_
  refine q_aload_n (pc := 17) dX3_distanceAt_17 rfl rfl ?_
  refine q_callVF (pc := 18) dX3_distanceAt_18 kX3_33 (c_X0_alcohol (Portion_s_blend (Mixer_s_taken (Cellar_s_mixer hx))) hst) (Blend_sh (Portion_s_blend (Mixer_s_taken (Cellar_s_mixer hx)))) rfl (Blend_lt (Portion_s_blend (Mixer_s_taken (Cellar_s_mixer hx)))) ⟨Nat.le_of_ble_eq_true rfl, Nat.le_of_ble_eq_true rfl⟩ rfl rfl (Nat.le_of_ble_eq_true rfl) ?_
  show bq_W _ _ _ _ _ 21 _ [_] _ _ _ _ _ _
  rw [al_m ht1 hS1 (fun j hj => Nat.le_trans ((npt_in k2 pF).1 j hj).2.1 (Nat.le_trans (ns_ge 16 hj) bF)) hs2]
  refine q_lstore (pc := 21) dX3_distanceAt_21 (Nat.le_of_ble_eq_true rfl) rfl ?_
  show bq_W _ _ _ _ _ 23 [_, _, _, _, _, _, _, _, _, _] _ _ _ _ _ _ _
  refine q_aload_n (pc := 23) dX3_distanceAt_23 rfl rfl ?_
  refine q_getP (pc := 24) dX3_distanceAt_24 fX3_12 (Mixer_sh (Cellar_s_mixer hx)) ⟨by decide, rfl⟩ (Mixer_lt (Cellar_s_mixer hx)) (Mixer_p_taken (Cellar_s_mixer hx)) ?_
  refine q_aload_n (pc := 27) dX3_distanceAt_27 rfl rfl ?_
  refine q_iload (pc := 28) dX3_distanceAt_28 rfl ?_
  refine q_iload (pc := 30) dX3_distanceAt_30 rfl ?_
  refine q_isub (pc := 32) dX3_distanceAt_32 ?_
  rw [pk_sub k1]
  refine q_callV (pc := 33) dX3_distanceAt_33 kX3_48 (c_take (Mixer_s_taken (Cellar_s_mixer hx)) hw2 (by omega) (by omega) (pm_n hG1 k3 pG bG).2 (by omega)) (Portion_sh (Mixer_s_taken (Cellar_s_mixer hx))) rfl (Portion_lt (Mixer_s_taken (Cellar_s_mixer hx))) ⟨Nat.le_of_ble_eq_true rfl, Nat.le_of_ble_eq_true rfl⟩ rfl rfl (Nat.le_of_ble_eq_true rfl) ?_
  rintro _ S2 n2 I2 L2 P2 ⟨rfl, eS2, en2, eL2, eP2, f2, t2⟩
  subst S2 n2 L2 P2
  show bq_W _ _ _ _ _ 36 _ [] _ _ _ _ _ _
  have ht2 := fun j hj => (t2 j hj).trans (pt_n hG1 k3 pG bG j hj)
  have hS2 : ∀ j, j < 16 → I2 st j = nI (s j) := fun j hj => by rw [f2 _ (by omega) (by omega)]; exact hS1 j hj
  refine q_lload (pc := 36) dX3_distanceAt_36 rfl ?_
  refine q_aload_n (pc := 38) dX3_distanceAt_38 rfl rfl ?_
  refine q_getP (pc := 39) dX3_distanceAt_39 fX3_12 (Mixer_sh (Cellar_s_mixer hx)) ⟨by decide, rfl⟩ (Mixer_lt (Cellar_s_mixer hx)) (Mixer_p_taken (Cellar_s_mixer hx)) ?_
  refine q_getP (pc := 42) dX3_distanceAt_42 fX3_52 (Portion_sh (Mixer_s_taken (Cellar_s_mixer hx))) ⟨by decide, rfl⟩ (Portion_lt (Mixer_s_taken (Cellar_s_mixer hx))) (Portion_p_blend (Mixer_s_taken (Cellar_s_mixer hx))) ?_
  refine q_aload_n (pc := 45) dX3_distanceAt_45 rfl rfl ?_
  refine q_callVF (pc := 46) dX3_distanceAt_46 kX3_33 (c_X0_alcohol (Portion_s_blend (Mixer_s_taken (Cellar_s_mixer hx))) hst) (Blend_sh (Portion_s_blend (Mixer_s_taken (Cellar_s_mixer hx)))) rfl (Blend_lt (Portion_s_blend (Mixer_s_taken (Cellar_s_mixer hx)))) ⟨Nat.le_of_ble_eq_true rfl, Nat.le_of_ble_eq_true rfl⟩ rfl rfl (Nat.le_of_ble_eq_true rfl) ?_
  show bq_W _ _ _ _ _ 49 _ [_, _] _ _ _ _ _ _
  rw [al_m ht2 hS2 (fun j hj => Nat.le_trans ((npt_in k3 pG).1 j hj).2.1 (Nat.le_trans (ns_ge 16 hj) bG)) hs2]
  refine q_ladd (pc := 49) dX3_distanceAt_49 ?_
  refine q_lload (pc := 50) dX3_distanceAt_50 rfl ?_
  refine q_lsub (pc := 52) dX3_distanceAt_52 ?_
  refine q_absL (pc := 53) dX3_distanceAt_53 kX3_44 ⟨Nat.le_of_ble_eq_true rfl, Nat.le_of_ble_eq_true rfl⟩ ?_
  rw [dz_abs hs2 k2 k3 pF pG bF bG hl hw hwv]
  exact q_lret (st := []) (pc := 56) dX3_distanceAt_56 rfl ⟨rfl, rfl, rfl, rfl, rfl, fun a h1 h2 => by rw [f2 a (by omega) (by omega), f1 a (by omega) (by omega)]⟩
set_option maxHeartbeats 4900000 in
set_option maxRecDepth 20000 in
theorem c_near {S : BqH} {n : Nat} {I : BqI} {L : BqL} {P : BqP} {x w1 w2 st l w : Nat} {F G s : Nat → Nat} (hx : oX S n P x) (hw1 : oBlend S n P w1) (hw2 : oBlend S n P w2) (hst : oA S n st 16) (d1 : w1 + 1 < x + 131) (d2 : w2 + 1 < x + 131) (d3 : st < x + 131) (hF : ∀ j, j < 16 → I (w1 + 1) j = nI (F j)) (hG : ∀ j, j < 16 → I (w2 + 1) j = nI (G j)) (hS : ∀ j, j < 16 → I st j = nI (s j)) (hs2 : ∀ j, j < 16 → s j ≤ 2000) (pF : 0 < ns F 16) (pG : 0 < ns G 16) (bF : ns F 16 ≤ 9999) (bG : ns G 16 ≤ 9999) (hl : l ≤ 9999) (hw : w ≤ 2000) : bq_Sp mX3_nearest 4 89 0 0 [.ref (x + 152), .ref w1, .ref w2, .ref st, .int (nI l), .int (nI w)] S n I L P (qMx x I S n L P (.int (r_near F G s l w))) := by
  refine q_entry (vs := [some (.ref (x + 152)), some (.ref w1), some (.ref w2), some (.ref st), some (.int (nI l)), some (.int (nI w)), none, none, none, none, none, none, none, none, none, none, none, none, none, none, none, none, none, none, none, none, none, none]) (by decide +kernel) (by simp) (Nat.le_of_ble_eq_true rfl) rfl ?_
  have sF : bq_sum (I (w1 + 1)) 16 = nI (ns F 16) := bq_sum_n 16 hF
  have sG : bq_sum (I (w2 + 1)) 16 = nI (ns G 16) := bq_sum_n 16 hG
  have aF : bq_alc (I (w1 + 1)) (I st) 16 = nJ (al F s) := al_m hF hS (fun j hj => Nat.le_trans (ns_ge 16 hj) bF) hs2
  have aG : bq_alc (I (w2 + 1)) (I st) 16 = nJ (al G s) := al_m hG hS (fun j hj => Nat.le_trans (ns_ge 16 hj) bG) hs2
  have oF : bq_sos (I (w1 + 1)) (I st) 16 = nJ (so F s) := so_m hF hS (fun j hj => Nat.le_trans (ns_ge 16 hj) bF) hs2
  have oG : bq_sos (I (w2 + 1)) (I st) 16 = nJ (so G s) := so_m hG hS (fun j hj => Nat.le_trans (ns_ge 16 hj) bG) hs2
  have b1 : al F s ≤ 2000 * ns F 16 := al_le hs2
  have b2 : al G s ≤ 2000 * ns G 16 := al_le hs2
  have b3 : so F s ≤ 32000 := so_le hs2
  have b4 : so G s ≤ 32000 := so_le hs2
  refine q_aload_n (pc := 0) dX3_nearest_0 rfl rfl ?_
  refine q_callVF (pc := 1) dX3_nearest_1 kX3_18 (c_X0_total hw1) (Blend_sh hw1) rfl (Blend_lt hw1) ⟨Nat.le_of_ble_eq_true rfl, Nat.le_of_ble_eq_true rfl⟩ rfl rfl (Nat.le_of_ble_eq_true rfl) ?_
  show bq_W _ _ _ _ _ 4 _ [_] _ _ _ _ _ _
  rw [sF]
  refine q_i2l (pc := 4) dX3_nearest_4 ?_
  refine q_topL (fun oa e_oa => ?_)
  have z1 : Lz oa ((ns F 16 : Nat)) := by rw [e_oa]; exact Lz.nI (by omega)
  refine q_lstore (pc := 5) dX3_nearest_5 (Nat.le_of_ble_eq_true rfl) rfl ?_
  show bq_W _ _ _ _ _ 7 [_, _, _, _, _, _, _, _, _, _, _, _, _, _, _, _, _, _, _, _, _, _, _, _, _, _, _, _] _ _ _ _ _ _ _
  refine q_aload_n (pc := 7) dX3_nearest_7 rfl rfl ?_
  refine q_callVF (pc := 8) dX3_nearest_8 kX3_18 (c_X0_total hw2) (Blend_sh hw2) rfl (Blend_lt hw2) ⟨Nat.le_of_ble_eq_true rfl, Nat.le_of_ble_eq_true rfl⟩ rfl rfl (Nat.le_of_ble_eq_true rfl) ?_
  show bq_W _ _ _ _ _ 11 _ [_] _ _ _ _ _ _
  rw [sG]
  refine q_i2l (pc := 11) dX3_nearest_11 ?_
  refine q_topL (fun ob e_ob => ?_)
  have z2 : Lz ob ((ns G 16 : Nat)) := by rw [e_ob]; exact Lz.nI (by omega)
  refine q_lstore (pc := 12) dX3_nearest_12 (Nat.le_of_ble_eq_true rfl) rfl ?_
  show bq_W _ _ _ _ _ 14 [_, _, _, _, _, _, _, _, _, _, _, _, _, _, _, _, _, _, _, _, _, _, _, _, _, _, _, _] _ _ _ _ _ _ _
  refine q_lconst (pc := 14) dX3_nearest_14 rfl ?_
  refine q_iload (pc := 15) dX3_nearest_15 rfl ?_
  refine q_i2l (pc := 17) dX3_nearest_17 ?_
  refine q_lload (pc := 18) dX3_nearest_18 rfl ?_
  refine q_lsub (pc := 20) dX3_nearest_20 ?_
  refine q_maxL (pc := 21) dX3_nearest_21 kX3_24 ⟨Nat.le_of_ble_eq_true rfl, Nat.le_of_ble_eq_true rfl⟩ ?_
  refine q_topL (fun y1 e1 => ?_)
  have v1 : y1 = lN (l - ns G 16) := e1.trans (mx_lo z2 hl bG)
  rw [v1]
  refine q_l2i (pc := 24) dX3_nearest_24 ?_
  rw [lN_i]
  refine q_istore (pc := 25) dX3_nearest_25 (Nat.le_of_ble_eq_true rfl) rfl ?_
  show bq_W _ _ _ _ _ 27 [_, _, _, _, _, _, _, _, _, _, _, _, _, _, _, _, _, _, _, _, _, _, _, _, _, _, _, _] _ _ _ _ _ _ _
  refine q_iload (pc := 27) dX3_nearest_27 rfl ?_
  refine q_i2l (pc := 29) dX3_nearest_29 ?_
  refine q_lload (pc := 30) dX3_nearest_30 rfl ?_
  refine q_minL (pc := 32) dX3_nearest_32 kX3_30 ⟨Nat.le_of_ble_eq_true rfl, Nat.le_of_ble_eq_true rfl⟩ ?_
  refine q_topL (fun y2 e2 => ?_)
  have v2 : y2 = lN (min l (ns F 16)) := e2.trans (mx_hi z1 hl bF)
  rw [v2]
  refine q_l2i (pc := 35) dX3_nearest_35 ?_
  rw [lN_i]
  refine q_istore (pc := 36) dX3_nearest_36 (Nat.le_of_ble_eq_true rfl) rfl ?_
  show bq_W _ _ _ _ _ 38 [_, _, _, _, _, _, _, _, _, _, _, _, _, _, _, _, _, _, _, _, _, _, _, _, _, _, _, _] _ _ _ _ _ _ _
  refine q_iload (pc := 38) dX3_nearest_38 rfl ?_
  refine q_iload (pc := 40) dX3_nearest_40 rfl ?_
  refine q_icmp_le (pc := 42) 48 dX3_nearest_42 (by decide) (fun c_42 => ?_) (fun c_42 => ?_)
  · have hlh : l - ns G 16 ≤ min l (ns F 16) := (nI_leI (by omega) (by omega)).mp c_42
    refine q_iload (pc := 48) dX3_nearest_48 rfl ?_
    refine q_i2l (pc := 50) dX3_nearest_50 ?_
    refine q_iload (pc := 51) dX3_nearest_51 rfl ?_
    refine q_i2l (pc := 53) dX3_nearest_53 ?_
    refine q_lmul (pc := 54) dX3_nearest_54 ?_
    refine q_topL (fun wa e_wa => ?_)
    have z3 : Lz wa ((l * w : Nat)) := by rw [e_wa]; exact mx_w hl hw
    refine q_lstore (pc := 55) dX3_nearest_55 (Nat.le_of_ble_eq_true rfl) rfl ?_
    show bq_W _ _ _ _ _ 57 [_, _, _, _, _, _, _, _, _, _, _, _, _, _, _, _, _, _, _, _, _, _, _, _, _, _, _, _] _ _ _ _ _ _ _
    refine q_lload (pc := 57) dX3_nearest_57 rfl ?_
    refine q_lload (pc := 59) dX3_nearest_59 rfl ?_
    refine q_lmul (pc := 61) dX3_nearest_61 ?_
    refine q_topL (fun sc e_sc => ?_)
    have z4 : Lz sc ((ns F 16 : Int) * ns G 16) := by rw [e_sc]; exact mx_sc z1 z2 bF bG
    refine q_lstore (pc := 62) dX3_nearest_62 (Nat.le_of_ble_eq_true rfl) rfl ?_
    show bq_W _ _ _ _ _ 64 [_, _, _, _, _, _, _, _, _, _, _, _, _, _, _, _, _, _, _, _, _, _, _, _, _, _, _, _] _ _ _ _ _ _ _
    refine q_aload_n (pc := 64) dX3_nearest_64 rfl rfl ?_
    refine q_aload_n (pc := 65) dX3_nearest_65 rfl rfl ?_
    refine q_callVF (pc := 66) dX3_nearest_66 kX3_33 (c_X0_alcohol hw1 hst) (Blend_sh hw1) rfl (Blend_lt hw1) ⟨Nat.le_of_ble_eq_true rfl, Nat.le_of_ble_eq_true rfl⟩ rfl rfl (Nat.le_of_ble_eq_true rfl) ?_
    show bq_W _ _ _ _ _ 69 _ [_] _ _ _ _ _ _
    rw [aF]
    refine q_lload (pc := 69) dX3_nearest_69 rfl ?_
    refine q_lmul (pc := 71) dX3_nearest_71 ?_
    refine q_aload_n (pc := 72) dX3_nearest_72 rfl rfl ?_
    refine q_aload_n (pc := 73) dX3_nearest_73 rfl rfl ?_
    refine q_callVF (pc := 74) dX3_nearest_74 kX3_33 (c_X0_alcohol hw2 hst) (Blend_sh hw2) rfl (Blend_lt hw2) ⟨Nat.le_of_ble_eq_true rfl, Nat.le_of_ble_eq_true rfl⟩ rfl rfl (Nat.le_of_ble_eq_true rfl) ?_
    show bq_W _ _ _ _ _ 77 _ [_, _] _ _ _ _ _ _
    rw [aG]
    refine q_lload (pc := 77) dX3_nearest_77 rfl ?_
    refine q_lmul (pc := 79) dX3_nearest_79 ?_
    refine q_lsub (pc := 80) dX3_nearest_80 ?_
    refine q_topL (fun rs e_rs => ?_)
    have z5 : Lz rs ((al F s : Int) * ns G 16 - al G s * ns F 16) := by rw [e_rs]; exact mx_rs z1 z2 b1 b2 bF bG
    refine q_lstore (pc := 81) dX3_nearest_81 (Nat.le_of_ble_eq_true rfl) rfl ?_
    show bq_W _ _ _ _ _ 83 [_, _, _, _, _, _, _, _, _, _, _, _, _, _, _, _, _, _, _, _, _, _, _, _, _, _, _, _] _ _ _ _ _ _ _
    refine q_aload_n (pc := 83) dX3_nearest_83 rfl rfl ?_
    refine q_aload_n (pc := 84) dX3_nearest_84 rfl rfl ?_
    refine q_callVF (pc := 85) dX3_nearest_85 kX3_33 (c_X0_alcohol hw2 hst) (Blend_sh hw2) rfl (Blend_lt hw2) ⟨Nat.le_of_ble_eq_true rfl, Nat.le_of_ble_eq_true rfl⟩ rfl rfl (Nat.le_of_ble_eq_true rfl) ?_
    show bq_W _ _ _ _ _ 88 _ [_] _ _ _ _ _ _
    rw [aG]
    refine q_lload (pc := 88) dX3_nearest_88 rfl ?_
    refine q_lmul (pc := 90) dX3_nearest_90 ?_
    refine q_iload (pc := 91) dX3_nearest_91 rfl ?_
    refine q_i2l (pc := 93) dX3_nearest_93 ?_
    refine q_lmul (pc := 94) dX3_nearest_94 ?_
    refine q_lload (pc := 95) dX3_nearest_95 rfl ?_
    refine q_lload (pc := 97) dX3_nearest_97 rfl ?_
    refine q_lmul (pc := 99) dX3_nearest_99 ?_
    refine q_lsub (pc := 100) dX3_nearest_100 ?_
    refine q_topL (fun sa e_sa => ?_)
    have z6 : Lz sa ((al G s : Int) * ns F 16 * l - (l * w : Nat) * ((ns F 16 : Int) * ns G 16)) := by rw [e_sa]; exact mx_sa z1 z3 z4 b2 bF bG hl hw
    refine q_lstore (pc := 101) dX3_nearest_101 (Nat.le_of_ble_eq_true rfl) rfl ?_
    show bq_W _ _ _ _ _ 103 [_, _, _, _, _, _, _, _, _, _, _, _, _, _, _, _, _, _, _, _, _, _, _, _, _, _, _, _] _ _ _ _ _ _ _
    refine q_aload_n (pc := 103) dX3_nearest_103 rfl rfl ?_
    refine q_aload_n (pc := 104) dX3_nearest_104 rfl rfl ?_
    refine q_callVF (pc := 105) dX3_nearest_105 kX3_37 (c_X0_sumOfStrengths hw1 hst) (Blend_sh hw1) rfl (Blend_lt hw1) ⟨Nat.le_of_ble_eq_true rfl, Nat.le_of_ble_eq_true rfl⟩ rfl rfl (Nat.le_of_ble_eq_true rfl) ?_
    show bq_W _ _ _ _ _ 108 _ [_] _ _ _ _ _ _
    rw [oF]
    refine q_aload_n (pc := 108) dX3_nearest_108 rfl rfl ?_
    refine q_aload_n (pc := 109) dX3_nearest_109 rfl rfl ?_
    refine q_callVF (pc := 110) dX3_nearest_110 kX3_37 (c_X0_sumOfStrengths hw2 hst) (Blend_sh hw2) rfl (Blend_lt hw2) ⟨Nat.le_of_ble_eq_true rfl, Nat.le_of_ble_eq_true rfl⟩ rfl rfl (Nat.le_of_ble_eq_true rfl) ?_
    show bq_W _ _ _ _ _ 113 _ [_, _] _ _ _ _ _ _
    rw [oG]
    refine q_ladd (pc := 113) dX3_nearest_113 ?_
    refine q_topL (fun ro e_ro => ?_)
    have z7 : Lz ro ((so F s : Int) + so G s) := by rw [e_ro]; exact mx_ro b3 b4
    refine q_lstore (pc := 114) dX3_nearest_114 (Nat.le_of_ble_eq_true rfl) rfl ?_
    show bq_W _ _ _ _ _ 116 [_, _, _, _, _, _, _, _, _, _, _, _, _, _, _, _, _, _, _, _, _, _, _, _, _, _, _, _] _ _ _ _ _ _ _
    have go : ∀ f0 : Nat, (l - ns G 16) ≤ f0 → f0 ≤ (min l (ns F 16)) → bq_W mX3_nearest 4 89 0 0 147 [some (.ref (x + 152)), some (.ref w1), some (.ref w2), some (.ref st), some (.int (nI l)), some (.int (nI w)), some (.long oa), none, some (.long ob), none, some (.int (nI (l - ns G 16))), some (.int (nI (min l (ns F 16)))), some (.long wa), none, some (.long sc), none, some (.long rs), none, some (.long sa), none, some (.long ro), none, none, none, none, none, none, none] [.int (nI f0)] S n I L P (qMx x I S n L P (.int (r_near F G s l w))) := by
      intro f0 hf1 hf2
      have lp : ∀ i, i ≤ ((min l (ns F 16)) + 1 - (l - ns G 16)) → ∀ (c f : Nat) (J : BqI) (v26 v27 : Option Value), Cs (fun k => (dz F G s l w k).natAbs) (l - ns G 16) f0 i c f → (∀ a, a ≠ x + 155 → a ≠ x + 156 → J a = I a) → c ≤ 10 ^ 9 → f ≤ 9999 → bq_W mX3_nearest 4 89 0 0 170 [some (.ref (x + 152)), some (.ref w1), some (.ref w2), some (.ref st), some (.int (nI l)), some (.int (nI w)), some (.long oa), none, some (.long ob), none, some (.int (nI (l - ns G 16))), some (.int (nI (min l (ns F 16)))), some (.long wa), none, some (.long sc), none, some (.long rs), none, some (.long sa), none, some (.long ro), none, some (.int (nI f)), some (.long (lN c)), none, some (.int (nI ((l - ns G 16) + i))), v26, v27] [] S n J L P (qMx x I S n L P (.int (r_near F G s l w))) := by
        refine bq_down (A := fun i => ∀ (c f : Nat) (J : BqI) (v26 v27 : Option Value), Cs (fun k => (dz F G s l w k).natAbs) (l - ns G 16) f0 i c f → (∀ a, a ≠ x + 155 → a ≠ x + 156 → J a = I a) → c ≤ 10 ^ 9 → f ≤ 9999 → bq_W mX3_nearest 4 89 0 0 170 [some (.ref (x + 152)), some (.ref w1), some (.ref w2), some (.ref st), some (.int (nI l)), some (.int (nI w)), some (.long oa), none, some (.long ob), none, some (.int (nI (l - ns G 16))), some (.int (nI (min l (ns F 16)))), some (.long wa), none, some (.long sc), none, some (.long rs), none, some (.long sa), none, some (.long ro), none, some (.int (nI f)), some (.long (lN c)), none, some (.int (nI ((l - ns G 16) + i))), v26, v27] [] S n J L P (qMx x I S n L P (.int (r_near F G s l w)))) ((min l (ns F 16)) + 1 - (l - ns G 16)) ?_ ?_
        · intro c f J v26 v27 hc hJ hc9 hf9
          refine q_iload (pc := 170) dX3_nearest_170 rfl ?_
          refine q_iload (pc := 172) dX3_nearest_172 rfl ?_
          refine q_icmp_gt (pc := 174) 241 dX3_nearest_174 (by decide) (fun c_174 => ?_) (fun c_174 => absurd (nI_lt (by omega) (by omega)) c_174)
          refine q_iload (pc := 241) dX3_nearest_241 rfl ?_
          exact q_iret (st := []) (pc := 243) dX3_nearest_243 rfl ⟨by rw [r_near_in (hc.end hf1 (by omega))], rfl, rfl, rfl, rfl, hJ⟩
        · intro i hi ih c f J v26 v27 hc hJ hc9 hf9
          have k1 : (l - ns G 16) + i ≤ l := by omega
          have k2 : (l - ns G 16) + i ≤ ns F 16 := by omega
          have k3 : l - ((l - ns G 16) + i) ≤ ns G 16 := by omega
          have db : (fun k => (dz F G s l w k).natAbs) ((l - ns G 16) + i) ≤ 10 ^ 9 := Nat.le_trans (dz_le hs2 k2 k3 pF pG bF bG hl hw) (by decide)
          refine q_iload (pc := 170) dX3_nearest_170 rfl ?_
          refine q_iload (pc := 172) dX3_nearest_172 rfl ?_
          refine q_icmp_gt (pc := 174) 241 dX3_nearest_174 (by decide) (fun c_174 => (nI_nlt (show (l - ns G 16) + i ≤ (min l (ns F 16)) by omega) (by omega) c_174).elim) (fun c_174 => ?_)
          refine q_lload (pc := 177) dX3_nearest_177 rfl ?_
          refine q_lload (pc := 179) dX3_nearest_179 rfl ?_
          refine q_iload (pc := 181) dX3_nearest_181 rfl ?_
          refine q_i2l (pc := 183) dX3_nearest_183 ?_
          refine q_lmul (pc := 184) dX3_nearest_184 ?_
          refine q_ladd (pc := 185) dX3_nearest_185 ?_
          refine q_absL (pc := 186) dX3_nearest_186 kX3_44 ⟨Nat.le_of_ble_eq_true rfl, Nat.le_of_ble_eq_true rfl⟩ ?_
          refine q_lload (pc := 189) dX3_nearest_189 rfl ?_
          refine q_lload (pc := 191) dX3_nearest_191 rfl ?_
          refine q_ladd (pc := 193) dX3_nearest_193 ?_
          refine q_lload (pc := 194) dX3_nearest_194 rfl ?_
          refine q_lmul (pc := 196) dX3_nearest_196 ?_
          refine q_lcmp (pc := 197) dX3_nearest_197 ?_
          refine q_if_lt (pc := 198) 204 dX3_nearest_198 (by decide) (fun c_198 => ?_) (fun c_198 => ?_)
          · refine q_aload_n (pc := 204) dX3_nearest_204 rfl rfl ?_
            refine q_aload_n (pc := 205) dX3_nearest_205 rfl rfl ?_
            refine q_aload_n (pc := 206) dX3_nearest_206 rfl rfl ?_
            refine q_aload_n (pc := 207) dX3_nearest_207 rfl rfl ?_
            refine q_iload (pc := 208) dX3_nearest_208 rfl ?_
            refine q_iload (pc := 210) dX3_nearest_210 rfl ?_
            refine q_lload (pc := 212) dX3_nearest_212 rfl ?_
            refine q_callV (pc := 214) dX3_nearest_214 kX3_40 (c_dist hx hw1 hw2 hst d1 d2 d3 (fun j hj => by rw [hJ _ (by omega) (by omega)]; exact hF j hj) (fun j hj => by rw [hJ _ (by omega) (by omega)]; exact hG j hj) (fun j hj => by rw [hJ _ (by omega) (by omega)]; exact hS j hj) hs2 pF pG bF bG hl hw k1 k2 k3 z3) (Mixer_sh (Cellar_s_mixer hx)) rfl (Mixer_lt (Cellar_s_mixer hx)) ⟨Nat.le_of_ble_eq_true rfl, Nat.le_of_ble_eq_true rfl⟩ rfl rfl (Nat.le_of_ble_eq_true rfl) ?_
            rintro _ S2 n2 I2 L2 P2 ⟨rfl, eS2, en2, eL2, eP2, f2⟩
            subst S2 n2 L2 P2
            show bq_W _ _ _ _ _ 217 _ [_] _ _ _ _ _ _
            refine q_lstore (pc := 217) dX3_nearest_217 (Nat.le_of_ble_eq_true rfl) rfl ?_
            show bq_W _ _ _ _ _ 219 [_, _, _, _, _, _, _, _, _, _, _, _, _, _, _, _, _, _, _, _, _, _, _, _, _, _, _, _] _ _ _ _ _ _ _
            refine q_lload (pc := 219) dX3_nearest_219 rfl ?_
            refine q_lload (pc := 221) dX3_nearest_221 rfl ?_
            refine q_lcmp (pc := 223) dX3_nearest_223 ?_
            refine q_if_ge (pc := 224) 235 dX3_nearest_224 (by decide) (fun c_224 => ?_) (fun c_224 => ?_)
            · have hge : c ≤ (fun k => (dz F G s l w k).natAbs) ((l - ns G 16) + i) := mx_ge hc9 db c_224
              refine q_iinc (pc := 235) (v := nI (((l - ns G 16) + i) + 1)) dX3_nearest_235 rfl (bq_inc _) (Nat.le_of_ble_eq_true rfl) rfl ?_
              show bq_W _ _ _ _ _ 238 [_, _, _, _, _, _, _, _, _, _, _, _, _, _, _, _, _, _, _, _, _, _, _, _, _, _, _, _] _ _ _ _ _ _ _
              refine q_goto (pc := 238) 170 dX3_nearest_238 (by decide) ?_
              exact ih c f I2 _ _ (hc.keep hge) (fun a h1 h2 => (f2 a h1 h2).trans (hJ a h1 h2)) hc9 hf9
            · have hlt : (fun k => (dz F G s l w k).natAbs) ((l - ns G 16) + i) < c := mx_lt hc9 db c_224
              refine q_lload (pc := 227) dX3_nearest_227 rfl ?_
              refine q_lstore (pc := 229) dX3_nearest_229 (Nat.le_of_ble_eq_true rfl) rfl ?_
              show bq_W _ _ _ _ _ 231 [_, _, _, _, _, _, _, _, _, _, _, _, _, _, _, _, _, _, _, _, _, _, _, _, _, _, _, _] _ _ _ _ _ _ _
              refine q_iload (pc := 231) dX3_nearest_231 rfl ?_
              refine q_istore (pc := 233) dX3_nearest_233 (Nat.le_of_ble_eq_true rfl) rfl ?_
              show bq_W _ _ _ _ _ 235 [_, _, _, _, _, _, _, _, _, _, _, _, _, _, _, _, _, _, _, _, _, _, _, _, _, _, _, _] _ _ _ _ _ _ _
              refine q_iinc (pc := 235) (v := nI (((l - ns G 16) + i) + 1)) dX3_nearest_235 rfl (bq_inc _) (Nat.le_of_ble_eq_true rfl) rfl ?_
              show bq_W _ _ _ _ _ 238 [_, _, _, _, _, _, _, _, _, _, _, _, _, _, _, _, _, _, _, _, _, _, _, _, _, _, _, _] _ _ _ _ _ _ _
              refine q_goto (pc := 238) 170 dX3_nearest_238 (by decide) ?_
              exact ih _ _ I2 _ _ (hc.take hlt) (fun a h1 h2 => (f2 a h1 h2).trans (hJ a h1 h2)) db (by omega)
          · have hfar : c ≤ (fun k => (dz F G s l w k).natAbs) ((l - ns G 16) + i) := mx_far pF pG k2 k3 k1 z4 z5 z6 z7 b1 b2 b3 b4 bF bG hl hw hc9 c_198
            refine q_goto (pc := 201) 235 dX3_nearest_201 (by decide) ?_
            refine q_iinc (pc := 235) (v := nI (((l - ns G 16) + i) + 1)) dX3_nearest_235 rfl (bq_inc _) (Nat.le_of_ble_eq_true rfl) rfl ?_
            show bq_W _ _ _ _ _ 238 [_, _, _, _, _, _, _, _, _, _, _, _, _, _, _, _, _, _, _, _, _, _, _, _, _, _, _, _] _ _ _ _ _ _ _
            refine q_goto (pc := 238) 170 dX3_nearest_238 (by decide) ?_
            exact ih c f J _ _ (hc.keep hfar) hJ hc9 hf9
      refine q_istore (pc := 147) dX3_nearest_147 (Nat.le_of_ble_eq_true rfl) rfl ?_
      show bq_W _ _ _ _ _ 149 [_, _, _, _, _, _, _, _, _, _, _, _, _, _, _, _, _, _, _, _, _, _, _, _, _, _, _, _] _ _ _ _ _ _ _
      refine q_aload_n (pc := 149) dX3_nearest_149 rfl rfl ?_
      refine q_aload_n (pc := 150) dX3_nearest_150 rfl rfl ?_
      refine q_aload_n (pc := 151) dX3_nearest_151 rfl rfl ?_
      refine q_aload_n (pc := 152) dX3_nearest_152 rfl rfl ?_
      refine q_iload (pc := 153) dX3_nearest_153 rfl ?_
      refine q_iload (pc := 155) dX3_nearest_155 rfl ?_
      refine q_lload (pc := 157) dX3_nearest_157 rfl ?_
      refine q_callV (pc := 159) dX3_nearest_159 kX3_40 (c_dist hx hw1 hw2 hst d1 d2 d3 hF hG hS hs2 pF pG bF bG hl hw (by omega) (by omega) (by omega) z3) (Mixer_sh (Cellar_s_mixer hx)) rfl (Mixer_lt (Cellar_s_mixer hx)) ⟨Nat.le_of_ble_eq_true rfl, Nat.le_of_ble_eq_true rfl⟩ rfl rfl (Nat.le_of_ble_eq_true rfl) ?_
      rintro _ S1 n1 I1 L1 P1 ⟨rfl, eS1, en1, eL1, eP1, f1⟩
      subst S1 n1 L1 P1
      show bq_W _ _ _ _ _ 162 _ [_] _ _ _ _ _ _
      refine q_lconst (pc := 162) dX3_nearest_162 rfl ?_
      refine q_ladd (pc := 163) dX3_nearest_163 ?_
      refine q_topL (fun y3 e3 => ?_)
      have v3 : y3 = lN ((dz F G s l w f0).natAbs + 1) := e3.trans (lN_1 _)
      rw [v3]
      refine q_lstore (pc := 164) dX3_nearest_164 (Nat.le_of_ble_eq_true rfl) rfl ?_
      show bq_W _ _ _ _ _ 166 [_, _, _, _, _, _, _, _, _, _, _, _, _, _, _, _, _, _, _, _, _, _, _, _, _, _, _, _] _ _ _ _ _ _ _
      refine q_iload (pc := 166) dX3_nearest_166 rfl ?_
      refine q_istore (pc := 168) dX3_nearest_168 (Nat.le_of_ble_eq_true rfl) rfl ?_
      show bq_W _ _ _ _ _ 170 [_, _, _, _, _, _, _, _, _, _, _, _, _, _, _, _, _, _, _, _, _, _, _, _, _, _, _, _] _ _ _ _ _ _ _
      exact lp 0 (Nat.zero_le _) _ _ I1 _ _ Cs.start f1 (by have := dz_le (w := w) hs2 (k := f0) (by omega) (show l - f0 ≤ ns G 16 by omega) pF pG bF bG hl hw; omega) (by omega)
    refine q_lload (pc := 116) dX3_nearest_116 rfl ?_
    refine q_lconst (pc := 118) dX3_nearest_118 rfl ?_
    refine q_lcmp (pc := 119) dX3_nearest_119 ?_
    refine q_if_ne (pc := 120) 128 dX3_nearest_120 (by decide) (fun c_120 => ?_) (fun c_120 => ?_)
    · have hrs : ¬ rs = 0 := fun z => c_120 ((lg_cmp_eq _ _).mpr z)
      refine q_iload (pc := 128) dX3_nearest_128 rfl ?_
      refine q_i2l (pc := 130) dX3_nearest_130 ?_
      refine q_iload (pc := 131) dX3_nearest_131 rfl ?_
      refine q_i2l (pc := 133) dX3_nearest_133 ?_
      refine q_lload (pc := 134) dX3_nearest_134 rfl ?_
      refine q_lneg (pc := 136) dX3_nearest_136 ?_
      refine q_lload (pc := 137) dX3_nearest_137 rfl ?_
      refine q_ldiv (pc := 139) dX3_nearest_139 hrs ?_
      refine q_minL (pc := 140) dX3_nearest_140 kX3_30 ⟨Nat.le_of_ble_eq_true rfl, Nat.le_of_ble_eq_true rfl⟩ ?_
      refine q_maxL (pc := 143) dX3_nearest_143 kX3_24 ⟨Nat.le_of_ble_eq_true rfl, Nat.le_of_ble_eq_true rfl⟩ ?_
      refine q_l2i (pc := 146) dX3_nearest_146 ?_
      obtain ⟨f0, hf1, hf2, hf3⟩ := mx_guess (q := -sa / rs) hlh (by omega)
      rw [hf3]
      exact go f0 hf1 hf2
    · refine q_iload (pc := 123) dX3_nearest_123 rfl ?_
      refine q_goto (pc := 125) 147 dX3_nearest_125 (by decide) ?_
      exact go (l - ns G 16) (Nat.le_refl _) hlh
  · have hlh : ¬ l - ns G 16 ≤ min l (ns F 16) := fun z => c_42 (nI_le z (by omega))
    refine q_bipush (pc := 45) (v := (-5)) dX3_nearest_45 (by decide) ?_
    exact q_iret (st := []) (pc := 47) dX3_nearest_47 rfl ⟨by unfold r_near; rw [show min l (ns F 16) + 1 - (l - ns G 16) = 0 by omega]; rfl, rfl, rfl, rfl, rfl, fun _ _ _ => rfl⟩
