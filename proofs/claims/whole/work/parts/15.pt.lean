/-! portions in natural numbers -/
def ns (F : Nat → Nat) : Nat → Nat
  | 0 => 0
  | k + 1 => ns F k + F k
theorem ns_congr {F G : Nat → Nat} : ∀ k, (∀ j, j < k → F j = G j) → ns F k = ns G k
  | 0, _ => rfl
  | k + 1, h => by unfold ns; rw [ns_congr k (fun j hj => h j (by omega)), h k (by omega)]
theorem ns_le {F G : Nat → Nat} : ∀ k, (∀ j, j < k → F j ≤ G j) → ns F k ≤ ns G k
  | 0, _ => Nat.le_refl _
  | k + 1, h => by
    have h1 := ns_le k (fun j hj => h j (by omega))
    have h2 := h k (by omega)
    unfold ns; omega
theorem ns_mul (F : Nat → Nat) (c : Nat) : ∀ k, ns (fun j => F j * c) k = ns F k * c
  | 0 => by simp [ns]
  | k + 1 => by unfold ns; rw [ns_mul F c k, Nat.add_mul]
theorem ns_add (F G : Nat → Nat) : ∀ k, ns (fun j => F j + G j) k = ns F k + ns G k
  | 0 => rfl
  | k + 1 => by unfold ns; rw [ns_add F G k]; omega
theorem ns_pos {F : Nat → Nat} : ∀ k, 0 < ns F k → ∃ j, j < k ∧ 0 < F j
  | 0, h => by simp [ns] at h
  | k + 1, h => by
    unfold ns at h
    rcases Nat.eq_zero_or_pos (F k) with q | q
    · obtain ⟨j, h1, h2⟩ := ns_pos (F := F) k (by omega)
      exact ⟨j, by omega, h2⟩
    · exact ⟨k, by omega, q⟩
theorem ns_ge {F : Nat → Nat} {j : Nat} : ∀ k, j < k → F j ≤ ns F k
  | 0, h => by omega
  | k + 1, h => by
    unfold ns
    rcases Nat.lt_or_ge j k with q | q
    · have := ns_ge (F := F) k q; omega
    · have : j = k := by omega
      subst this; omega
theorem ns_upd {F : Nat → Nat} {c v : Nat} : ∀ k, ns (bq_r F c v) k + (if c < k then F c else 0) = ns F k + (if c < k then v else 0)
  | 0 => by simp [ns]
  | k + 1 => by
    have ih := ns_upd (F := F) (c := c) (v := v) k
    unfold ns
    by_cases e : k = c
    · subst e
      rw [bq_r_self]
      rw [if_neg (Nat.lt_irrefl k), if_neg (Nat.lt_irrefl k)] at ih
      rw [if_pos (by omega), if_pos (by omega)]
      omega
    · rw [bq_r_ne e]
      by_cases h : c < k
      · rw [if_pos h, if_pos h] at ih
        rw [if_pos (by omega), if_pos (by omega)]
        omega
      · rw [if_neg h, if_neg h] at ih
        rw [if_neg (by omega), if_neg (by omega)]
        omega
theorem bq_sum_n {f : Nat → Int32} {F : Nat → Nat} : ∀ k, (∀ j, j < k → f j = nI (F j)) → bq_sum f k = nI (ns F k)
  | 0, _ => rfl
  | k + 1, h => by
    unfold bq_sum ns
    rw [bq_sum_n k (fun j hj => h j (by omega)), h k (by omega), nI_add]
/-- the place of the greatest, the first of several -/
def nam (R : Nat → Nat) : Nat → Nat
  | 0 => 0
  | i + 1 => if R i ≤ R (nam R i) then nam R i else i
theorem nam_le (R : Nat → Nat) : ∀ i, nam R i ≤ i
  | 0 => Nat.le_refl 0
  | i + 1 => by
    have := nam_le R i
    unfold nam
    split <;> omega
theorem nam_lt (R : Nat → Nat) (i : Nat) : nam R (i + 1) < i + 1 := by
  have := nam_le R i
  unfold nam
  split <;> omega
theorem nam_max (R : Nat → Nat) : ∀ i j, j < i → R j ≤ R (nam R i)
  | 0, j, h => by omega
  | i + 1, j, h => by
    unfold nam
    split
    · rename_i hc
      rcases Nat.lt_or_ge j i with q | q
      · exact nam_max R i j q
      · have : j = i := by omega
        subst this; exact hc
    · rename_i hc
      rcases Nat.lt_or_ge j i with q | q
      · have := nam_max R i j q; omega
      · have : j = i := by omega
        subst this; omega
theorem nam_eq {f : Nat → Int32} {R : Nat → Nat} : ∀ i, (∀ j, j < i → f j = nI (R j)) → (∀ j, j < i → R j < 2 ^ 31) → bq_am f i = nam R i
  | 0, _, _ => rfl
  | i + 1, h, hb => by
    have ih := nam_eq (f := f) (R := R) i (fun j hj => h j (by omega)) (fun j hj => hb j (by omega))
    unfold bq_am nam
    rw [ih]
    have hc : nam R i < i + 1 := by have := nam_le R i; omega
    rw [h i (by omega), h _ hc]
    by_cases e : R i ≤ R (nam R i)
    · rw [if_pos e, if_pos ((nI_leI (hb i (by omega)) (hb _ hc)).mpr e)]
    · rw [if_neg e, if_neg (fun q => e ((nI_leI (hb i (by omega)) (hb _ hc)).mp q))]
/-- the one by one, in numbers -/
def npo (x : (Nat → Nat) × (Nat → Nat)) : (Nat → Nat) × (Nat → Nat) := (bq_r x.1 (nam x.2 16) (x.1 (nam x.2 16) + 1), bq_r x.2 (nam x.2 16) 0)
def npit : Nat → (Nat → Nat) × (Nat → Nat) → (Nat → Nat) × (Nat → Nat)
  | 0, x => x
  | k + 1, x => npit k (npo x)
def nqq (F : Nat → Nat) (l : Nat) (j : Nat) : Nat := F j * l / ns F 16
def nrr (F : Nat → Nat) (l : Nat) (j : Nat) : Nat := F j * l % ns F 16
def npt (F : Nat → Nat) (l : Nat) : Nat → Nat := (npit (l - ns (nqq F l) 16) (nqq F l, nrr F l)).1
theorem npit_eq (A : Nat) (hA : A < 2 ^ 30) : ∀ (k : Nat) (x : (Nat → Int32) × (Nat → Int32)) (X : (Nat → Nat) × (Nat → Nat)), (∀ j, j < 16 → x.1 j = nI (X.1 j)) → (∀ j, j < 16 → x.2 j = nI (X.2 j)) → (∀ j, j < 16 → X.2 j < A) → A * k ≤ ns X.2 16 → ∀ j, j < 16 → (pit k x).1 j = nI ((npit k X).1 j)
  | 0, x, X, h1, h2, h3, h4, j, hj => h1 j hj
  | k + 1, x, X, h1, h2, h3, h4, j, hj => by
    have hA0 : 0 < A := Nat.lt_of_le_of_lt (Nat.zero_le _) (h3 0 (by decide))
    have hc : nam X.2 16 < 16 := nam_lt X.2 15
    have ham : bq_am x.2 16 = nam X.2 16 := nam_eq 16 h2 (fun j hj => Nat.lt_trans (h3 j hj) (by omega))
    have hpos : 0 < ns X.2 16 := by
      have : A * (k + 1) = A * k + A := Nat.mul_succ A k
      omega
    obtain ⟨i, hi, hp⟩ := ns_pos 16 hpos
    have hmx : 0 < X.2 (nam X.2 16) := Nat.lt_of_lt_of_le hp (nam_max X.2 16 i hi)
    have hlt := h3 _ hc
    have e : po x = (bq_r x.1 (nam X.2 16) (x.1 (nam X.2 16) + nI 1), bq_r x.2 (nam X.2 16) (nI 0)) := by
      unfold po
      rw [ham, h2 _ hc, if_neg (nI_nle hmx (by omega))]
    show (pit k (po x)).1 j = nI ((npit k (npo X)).1 j)
    refine npit_eq A hA k (po x) (npo X) (fun j hj => ?_) (fun j hj => ?_) (fun j hj => ?_) ?_ j hj
    · rw [e]
      show bq_r x.1 _ _ j = nI (bq_r X.1 _ _ j)
      by_cases q : j = nam X.2 16
      · subst q; rw [bq_r_self, bq_r_self, h1 _ hj, nI_add]
      · rw [bq_r_ne q, bq_r_ne q, h1 j hj]
    · rw [e]
      show bq_r x.2 _ _ j = nI (bq_r X.2 _ _ j)
      by_cases q : j = nam X.2 16
      · subst q; rw [bq_r_self, bq_r_self]
      · rw [bq_r_ne q, bq_r_ne q, h2 j hj]
    · show bq_r X.2 _ _ j < A
      by_cases q : j = nam X.2 16
      · subst q; rw [bq_r_self]; exact hA0
      · rw [bq_r_ne q]; exact h3 j hj
    · show A * k ≤ ns (bq_r X.2 (nam X.2 16) 0) 16
      have := ns_upd (F := X.2) (c := nam X.2 16) (v := 0) 16
      rw [if_pos hc, if_pos hc] at this
      have : A * (k + 1) = A * k + A := Nat.mul_succ A k
      omega
/-- what holds of it: each is at most one more than its quotient, and just where there is a rest; all together they are k more -/
theorem npit_in (F B : Nat → Nat) (A : Nat) : ∀ (k : Nat) (X : (Nat → Nat) × (Nat → Nat)), (∀ j, j < 16 → X.1 j ≤ B j) → (∀ j, j < 16 → 0 < X.2 j → X.1 j + 1 ≤ B j) → (∀ j, j < 16 → X.2 j < A) → A * k ≤ ns X.2 16 → (∀ j, j < 16 → X.1 j ≤ (npit k X).1 j ∧ (npit k X).1 j ≤ B j) ∧ ns (npit k X).1 16 = ns X.1 16 + k
  | 0, X, h1, h2, h3, h4 => ⟨fun j hj => ⟨Nat.le_refl _, h1 j hj⟩, rfl⟩
  | k + 1, X, h1, h2, h3, h4 => by
    have hA0 : 0 < A := Nat.lt_of_le_of_lt (Nat.zero_le _) (h3 0 (by decide))
    have hc : nam X.2 16 < 16 := nam_lt X.2 15
    have hmul : A * (k + 1) = A * k + A := Nat.mul_succ A k
    have hpos : 0 < ns X.2 16 := by omega
    obtain ⟨i, hi, hp⟩ := ns_pos 16 hpos
    have hmx : 0 < X.2 (nam X.2 16) := Nat.lt_of_lt_of_le hp (nam_max X.2 16 i hi)
    have hlt := h3 _ hc
    have hs := ns_upd (F := X.2) (c := nam X.2 16) (v := 0) 16
    have hs1 := ns_upd (F := X.1) (c := nam X.2 16) (v := X.1 (nam X.2 16) + 1) 16
    rw [if_pos hc, if_pos hc] at hs hs1
    obtain ⟨g1, g2⟩ := npit_in F B A k (npo X)
      (fun j hj => by
        show bq_r X.1 _ _ j ≤ B j
        by_cases q : j = nam X.2 16
        · subst q; rw [bq_r_self]; exact h2 _ hj hmx
        · rw [bq_r_ne q]; exact h1 j hj)
      (fun j hj => by
        show 0 < bq_r X.2 _ _ j → bq_r X.1 _ _ j + 1 ≤ B j
        by_cases q : j = nam X.2 16
        · subst q; rw [bq_r_self]; omega
        · rw [bq_r_ne q, bq_r_ne q]; exact h2 j hj)
      (fun j hj => by
        show bq_r X.2 _ _ j < A
        by_cases q : j = nam X.2 16
        · subst q; rw [bq_r_self]; exact hA0
        · rw [bq_r_ne q]; exact h3 j hj)
      (by show A * k ≤ ns (bq_r X.2 (nam X.2 16) 0) 16; omega)
    refine ⟨fun j hj => ?_, ?_⟩
    · obtain ⟨f1, f2⟩ := g1 j hj
      refine ⟨Nat.le_trans ?_ f1, f2⟩
      show X.1 j ≤ bq_r X.1 _ _ j
      by_cases q : j = nam X.2 16
      · subst q; rw [bq_r_self]; omega
      · rw [bq_r_ne q]; exact Nat.le_refl _
    · show ns (npit k (npo X)).1 16 = _
      rw [g2]
      show ns (bq_r X.1 _ _) 16 + k = _
      omega
theorem ns_qr (F : Nat → Nat) (l : Nat) : ns (nrr F l) 16 = ns F 16 * (l - ns (nqq F l) 16) ∧ (0 < ns F 16 → ns (nqq F l) 16 ≤ l) := by
  have h : ∀ k, ns (nqq F l) k * ns F 16 + ns (nrr F l) k = ns F k * l := by
    intro k
    induction k with
    | zero => simp [ns]
    | succ k ih =>
      show (ns (nqq F l) k + nqq F l k) * ns F 16 + (ns (nrr F l) k + nrr F l k) = (ns F k + F k) * l
      rw [Nat.add_mul, Nat.add_mul]
      have : nqq F l k * ns F 16 + nrr F l k = F k * l := by
        unfold nqq nrr
        rw [Nat.mul_comm]
        exact Nat.div_add_mod _ _
      omega
  have h16 := h 16
  have hm : ns F 16 * (l - ns (nqq F l) 16) = ns F 16 * l - ns F 16 * ns (nqq F l) 16 := Nat.mul_sub _ _ _
  have hc := Nat.mul_comm (ns (nqq F l) 16) (ns F 16)
  refine ⟨by omega, fun hp => ?_⟩
  have : ns F 16 * ns (nqq F l) 16 ≤ ns F 16 * l := by omega
  exact Nat.le_of_mul_le_mul_left this hp
/-- the portion: each part is at most what is there, together they are l -/
theorem npt_in {F : Nat → Nat} {l : Nat} (hl : l ≤ ns F 16) (hp : 0 < ns F 16) : (∀ j, j < 16 → nqq F l j ≤ npt F l j ∧ npt F l j ≤ F j ∧ npt F l j ≤ nqq F l j + 1) ∧ ns (npt F l) 16 = l := by
  obtain ⟨h1, h2⟩ := ns_qr F l
  have h2 := h2 hp
  have hq : ∀ j, nqq F l j ≤ F j := fun j => by
    unfold nqq
    refine Nat.div_le_of_le_mul ?_
    rw [Nat.mul_comm]
    exact Nat.mul_le_mul_right _ hl
  have hq1 : ∀ j, 0 < nrr F l j → nqq F l j + 1 ≤ F j := fun j hj => by
    rcases Nat.lt_or_ge (nqq F l j) (F j) with q | q
    · exact q
    · exfalso
      have e : nqq F l j = F j := Nat.le_antisymm (hq j) q
      have hd := Nat.div_add_mod (F j * l) (ns F 16)
      have hd2 : ns F 16 * nqq F l j + nrr F l j = F j * l := hd
      rw [e] at hd2
      have : F j * l ≤ ns F 16 * F j := by rw [Nat.mul_comm]; exact Nat.mul_le_mul_right _ hl
      omega
  obtain ⟨g1, g2⟩ := npit_in F F (ns F 16) (l - ns (nqq F l) 16) (nqq F l, nrr F l) (fun j _ => hq j) (fun j _ => hq1 j) (fun j _ => Nat.mod_lt _ hp) (by show _ ≤ ns (nrr F l) 16; rw [h1]; exact Nat.le_refl _)
  obtain ⟨f1, -⟩ := npit_in F (fun j => nqq F l j + 1) (ns F 16) (l - ns (nqq F l) 16) (nqq F l, nrr F l) (fun j _ => Nat.le_succ _) (fun j _ _ => Nat.le_refl _) (fun j _ => Nat.mod_lt _ hp) (by show _ ≤ ns (nrr F l) 16; rw [h1]; exact Nat.le_refl _)
  refine ⟨fun j hj => ⟨(g1 j hj).1, (g1 j hj).2, (f1 j hj).2⟩, ?_⟩
  show ns (npit _ _).1 16 = l
  rw [g2]
  show ns (nqq F l) 16 + _ = l
  omega
theorem pm_n {f : Nat → Int32} {F : Nat → Nat} {l : Nat} (hf : ∀ j, j < 16 → f j = nI (F j)) (hl : l ≤ ns F 16) (hp : 0 < ns F 16) (hb : ns F 16 ≤ 9999) : (∀ j, j < 16 → pq f (nI l) j = nI (nqq F l j) ∧ pr f (nI l) j = nI (nrr F l j)) ∧ pm f (nI l) 16 = nI (l - ns (nqq F l) 16) := by
  have hs : bq_sum f 16 = nI (ns F 16) := bq_sum_n 16 hf
  have hF : ∀ j, j < 16 → F j ≤ 9999 := fun j hj => Nat.le_trans (ns_ge 16 hj) hb
  have key : ∀ j, j < 16 → pq f (nI l) j = nI (nqq F l j) ∧ pr f (nI l) j = nI (nrr F l j) := by
    intro j hj
    have hmul : F j * l < 2 ^ 31 := by
      have : F j * l ≤ 9999 * 9999 := Nat.mul_le_mul (hF j hj) (by omega)
      omega
    unfold pq pr tq tr
    rw [hs, if_neg (nI_nle hp (by omega)), if_neg (nI_nle hp (by omega)), hf j hj, pk_mul, pk_div hmul hp (by omega), pk_mul, pk_sub (by rw [Nat.mul_comm]; exact Nat.mul_div_le _ _)]
    refine ⟨rfl, ?_⟩
    congr 1
    unfold nrr
    have := Nat.div_add_mod (F j * l) (ns F 16)
    rw [Nat.mul_comm] at this
    omega
  refine ⟨key, ?_⟩
  have h2 := (ns_qr F l).2 hp
  have : ∀ k, k ≤ 16 → pm f (nI l) k = nI (l - ns (nqq F l) k) := by
    intro k
    induction k with
    | zero => intro _; rfl
    | succ k ih =>
      intro hk
      have hle : ns (nqq F l) (k + 1) ≤ l := by
        have mono : ∀ d, ns (nqq F l) (k + 1) ≤ ns (nqq F l) (k + 1 + d) := by
          intro d
          induction d with
          | zero => exact Nat.le_refl _
          | succ d ih => exact Nat.le_trans ih (by show _ ≤ ns (nqq F l) (k + 1 + d) + _; omega)
        have := mono (16 - (k + 1))
        rw [show k + 1 + (16 - (k + 1)) = 16 by omega] at this
        omega
      unfold pm
      rw [ih (by omega), (key k (by omega)).1]
      have e : ns (nqq F l) (k + 1) = ns (nqq F l) k + nqq F l k := rfl
      rw [pk_sub (by omega)]
      congr 1
      omega
  exact this 16 (by decide)
theorem pt_n {f : Nat → Int32} {F : Nat → Nat} {l : Nat} (hf : ∀ j, j < 16 → f j = nI (F j)) (hl : l ≤ ns F 16) (hp : 0 < ns F 16) (hb : ns F 16 ≤ 9999) : ∀ j, j < 16 → pt f (nI l) j = nI (npt F l j) := by
  obtain ⟨h1, h2⟩ := pm_n hf hl hp hb
  obtain ⟨h3, h4⟩ := ns_qr F l
  intro j hj
  unfold pt npt
  rw [h2, nI_clamp (by omega)]
  exact npit_eq (ns F 16) (by omega) (l - ns (nqq F l) 16) (pq f (nI l), pr f (nI l)) (nqq F l, nrr F l) (fun j hj => (h1 j hj).1) (fun j hj => (h1 j hj).2) (fun j _ => Nat.mod_lt _ hp) (by rw [h3]; exact Nat.le_refl _) j hj
