/-! mixing, in numbers -/
theorem q_topL {M : BqM} {fr lo kc ks pc : Nat} {vs : List (Option Value)} {st : List Value} {S : BqH} {n : Nat} {I : BqI} {L : BqL} {P : BqP} {post : BqQ} {x : Int64} (k : ∀ y : Int64, y = x → bq_W M fr lo kc ks pc vs (.long y :: st) S n I L P post) : bq_W M fr lo kc ks pc vs (.long x :: st) S n I L P post := k x rfl
/-- a whole number in the machine's long -/
def Lz (x : Int64) (z : Int) : Prop := x.toInt = z
theorem Lz.add {x y : Int64} {a b : Int} (h : Lz x a) (h' : Lz y b) (h1 : -(2 ^ 62) ≤ a + b) (h2 : a + b ≤ 2 ^ 62) : Lz (x + y) (a + b) := by
  unfold Lz at *
  rw [Int64.toInt_add, h, h', Int.bmod_eq_of_le (by omega) (by omega)]
theorem Lz.sub {x y : Int64} {a b : Int} (h : Lz x a) (h' : Lz y b) (h1 : -(2 ^ 62) ≤ a - b) (h2 : a - b ≤ 2 ^ 62) : Lz (x - y) (a - b) := by
  unfold Lz at *
  rw [Int64.toInt_sub, h, h', Int.bmod_eq_of_le (by omega) (by omega)]
theorem Lz.mul {x y : Int64} {a b : Int} (h : Lz x a) (h' : Lz y b) (h1 : -(2 ^ 62) ≤ a * b) (h2 : a * b ≤ 2 ^ 62) : Lz (x * y) (a * b) := by
  unfold Lz at *
  rw [Int64.toInt_mul, h, h', Int.bmod_eq_of_le (by omega) (by omega)]
theorem Lz.nat {a : Nat} (h : a < 2 ^ 62) : Lz (lN a) a := pk_lT (by omega)
theorem Lz.nI {a : Nat} (h : a < 2 ^ 31) : Lz (nI a).toInt64 a := by
  unfold Lz
  rw [Int32.toInt_toInt64, nI_toInt h]
theorem Lz.abs {x : Int64} {a : Int} (h : Lz x a) (h1 : -(2 ^ 62) ≤ a) (h2 : a ≤ 2 ^ 62) : (if 0 < x then x else -x) = lN a.natAbs := by
  refine Int64.toInt_inj.mp ?_
  rw [pk_lT (by omega)]
  have h0 : (0 : Int64).toInt = 0 := by decide
  by_cases c : 0 < x
  · rw [if_pos c]
    have := Int64.lt_iff_toInt_lt.mp c
    unfold Lz at h
    omega
  · rw [if_neg c]
    have c2 : ¬ (0 : Int64).toInt < x.toInt := fun q => c (Int64.lt_iff_toInt_lt.mpr q)
    unfold Lz at h
    rw [Int64.toInt_neg, h, Int.bmod_eq_of_le (by omega) (by omega)]
    omega
/-- alcohol of a blend: parts by strengths -/
def al (F s : Nat → Nat) : Nat := ns (fun b => F b * s b) 16
def so (F s : Nat → Nat) : Nat := ns (fun b => if F b = 0 then 0 else s b) 16
/-- how far a mixture is off -/
def dz (F G s : Nat → Nat) (l w : Nat) (k : Nat) : Int := (al (npt F k) s : Int) + al (npt G (l - k)) s - (l * w : Nat)
/-- what the portion rounds away: less than a litre of each batch that is there -/
theorem al_near {F s : Nat → Nat} {k : Nat} (hk : k ≤ ns F 16) (hp : 0 < ns F 16) : (ns F 16 : Int) * al (npt F k) s ≤ (k : Int) * al F s + ns F 16 * so F s ∧ (k : Int) * al F s ≤ (ns F 16 : Int) * al (npt F k) s + ns F 16 * so F s := by
  obtain ⟨h, -⟩ := npt_in (F := F) (l := k) hk hp
  have key : ∀ m, m ≤ 16 → ns F 16 * ns (fun b => npt F k b * s b) m ≤ k * ns (fun b => F b * s b) m + ns F 16 * ns (fun b => if F b = 0 then 0 else s b) m ∧ k * ns (fun b => F b * s b) m ≤ ns F 16 * ns (fun b => npt F k b * s b) m + ns F 16 * ns (fun b => if F b = 0 then 0 else s b) m := by
    intro m
    induction m with
    | zero => intro _; exact ⟨Nat.le_refl _, Nat.le_refl _⟩
    | succ m ih =>
      intro hm
      obtain ⟨i1, i2⟩ := ih (by omega)
      obtain ⟨a1, a2, a3⟩ := h m (by omega)
      have hd := Nat.div_add_mod (F m * k) (ns F 16)
      have hm2 := Nat.mod_lt (F m * k) hp
      have e1 : nqq F k m = F m * k / ns F 16 := rfl
      show ns F 16 * (ns (fun b => npt F k b * s b) m + npt F k m * s m) ≤ k * (ns (fun b => F b * s b) m + F m * s m) + ns F 16 * (ns (fun b => if F b = 0 then 0 else s b) m + (if F m = 0 then 0 else s m)) ∧ k * (ns (fun b => F b * s b) m + F m * s m) ≤ ns F 16 * (ns (fun b => npt F k b * s b) m + npt F k m * s m) + ns F 16 * (ns (fun b => if F b = 0 then 0 else s b) m + (if F m = 0 then 0 else s m))
      generalize ns (fun b => npt F k b * s b) m = X at *
      generalize ns (fun b => F b * s b) m = Y at *
      generalize ns (fun b => if F b = 0 then 0 else s b) m = Z at *
      generalize ns F 16 = A at *
      by_cases c : F m = 0
      · rw [if_pos c]
        have z : npt F k m = 0 := by omega
        rw [c, z]
        simp only [Nat.zero_mul, Nat.add_zero]
        exact ⟨i1, i2⟩
      · rw [if_neg c]
        rw [← e1] at hd
        -- the part itself, in whole litres times A
        have u1 : A * npt F k m ≤ F m * k + A := by
          have : A * npt F k m ≤ A * (nqq F k m + 1) := Nat.mul_le_mul_left _ a3
          rw [Nat.mul_add, Nat.mul_one] at this
          omega
        have u2 : F m * k ≤ A * npt F k m + A := by
          have : A * nqq F k m ≤ A * npt F k m := Nat.mul_le_mul_left _ a1
          omega
        have v1 : A * (npt F k m * s m) ≤ k * (F m * s m) + A * s m := by
          have := Nat.mul_le_mul_right (s m) u1
          rw [Nat.add_mul] at this
          calc A * (npt F k m * s m) = A * npt F k m * s m := by rw [Nat.mul_assoc]
            _ ≤ F m * k * s m + A * s m := this
            _ = k * (F m * s m) + A * s m := by rw [Nat.mul_comm (F m) k, Nat.mul_assoc]
        have v2 : k * (F m * s m) ≤ A * (npt F k m * s m) + A * s m := by
          have := Nat.mul_le_mul_right (s m) u2
          rw [Nat.add_mul] at this
          calc k * (F m * s m) = F m * k * s m := by rw [Nat.mul_comm (F m) k, Nat.mul_assoc]
            _ ≤ A * npt F k m * s m + A * s m := this
            _ = A * (npt F k m * s m) + A * s m := by rw [Nat.mul_assoc]
        rw [Nat.mul_add, Nat.mul_add, Nat.mul_add]
        exact ⟨by omega, by omega⟩
  obtain ⟨k1, k2⟩ := key 16 (Nat.le_refl _)
  unfold al so
  have c1 := Int.ofNat_le.mpr k1
  have c2 := Int.ofNat_le.mpr k2
  simp only [Int.natCast_add, Int.natCast_mul] at c1 c2
  exact ⟨c1, c2⟩
/-- where the line is far off, the portions are far off -/
theorem dz_far {F G s : Nat → Nat} {l w k c : Nat} (hF : 0 < ns F 16) (hG : 0 < ns G 16) (hk : k ≤ ns F 16) (hk2 : l - k ≤ ns G 16) (hkl : k ≤ l) (h : ((c : Int) + (so F s + so G s)) * (ns F 16 * ns G 16) ≤ (((al G s : Int) * ns F 16 * l - (l * w : Nat) * (ns F 16 * ns G 16)) + ((al F s : Int) * ns G 16 - al G s * ns F 16) * k).natAbs) : c ≤ (dz F G s l w k).natAbs := by
  obtain ⟨f1, f2⟩ := al_near (s := s) hk hF
  obtain ⟨g1, g2⟩ := al_near (s := s) hk2 hG
  unfold dz
  generalize hA : (ns F 16 : Int) = A at *
  generalize hB : (ns G 16 : Int) = B at *
  have hA0 : 0 < A := by omega
  have hB0 : 0 < B := by omega
  rw [Int.ofNat_sub hkl] at g1 g2
  generalize (al (npt F k) s : Int) = x at *
  generalize (al (npt G (l - k)) s : Int) = y at *
  generalize (al F s : Int) = p at *
  generalize (al G s : Int) = q at *
  generalize (so F s : Int) = u at *
  generalize (so G s : Int) = v at *
  generalize ((l * w : Nat) : Int) = z at *
  generalize (k : Int) = m at *
  generalize (l : Int) = n at *
  -- A B (x + y - z) against the line
  have e1 := Int.mul_le_mul_of_nonneg_left f1 (Int.le_of_lt hB0)
  have e2 := Int.mul_le_mul_of_nonneg_left f2 (Int.le_of_lt hB0)
  have e3 := Int.mul_le_mul_of_nonneg_left g1 (Int.le_of_lt hA0)
  have e4 := Int.mul_le_mul_of_nonneg_left g2 (Int.le_of_lt hA0)
  have r1 : B * (A * x) = A * B * x := by rw [← Int.mul_assoc, Int.mul_comm B A]
  have r2 : A * (B * y) = A * B * y := by rw [← Int.mul_assoc]
  have r3 : B * (m * p + A * u) = p * B * m + A * B * u := by
    rw [Int.mul_add, ← Int.mul_assoc B A u, Int.mul_comm B A, ← Int.mul_assoc B m p, Int.mul_comm (B * m) p, ← Int.mul_assoc]
  have r4 : B * (A * x + A * u) = A * B * x + A * B * u := by rw [Int.mul_add, r1, ← Int.mul_assoc B A u, Int.mul_comm B A]
  have r5 : A * ((n - m) * q + B * v) = q * A * n - q * A * m + A * B * v := by
    rw [Int.mul_add, ← Int.mul_assoc A B v, ← Int.mul_assoc A (n - m) q, Int.mul_comm (A * (n - m)) q, ← Int.mul_assoc, Int.mul_sub]
  have r6 : A * (B * y + B * v) = A * B * y + A * B * v := by rw [Int.mul_add, r2, ← Int.mul_assoc A B v]
  have r7 : B * (m * p) = p * B * m := by rw [← Int.mul_assoc, Int.mul_comm (B * m) p, ← Int.mul_assoc]
  have r8 : A * ((n - m) * q) = q * A * n - q * A * m := by rw [← Int.mul_assoc, Int.mul_comm (A * (n - m)) q, ← Int.mul_assoc, Int.mul_sub]
  rw [r1, r3] at e1
  rw [r7, r4] at e2
  rw [r2, r5] at e3
  rw [r8, r6] at e4
  have hline : q * A * n - z * (A * B) + (p * B - q * A) * m = p * B * m + (q * A * n - q * A * m) - z * (A * B) := by
    rw [Int.sub_mul]; omega
  have hsc : ((c : Int) + (u + v)) * (A * B) = c * (A * B) + A * B * u + A * B * v := by
    rw [Int.add_mul, Int.add_mul, Int.mul_comm u, Int.mul_comm v]; omega
  rw [hline, hsc] at h
  have hz : A * B * (x + y - z) = A * B * x + A * B * y - z * (A * B) := by
    rw [Int.mul_sub, Int.mul_add, Int.mul_comm z]
  generalize hAB : A * B = C at *
  have hC0 : 0 < C := hAB ▸ Int.mul_pos hA0 hB0
  generalize C * x = X at *
  generalize C * y = Y at *
  generalize C * u = U at *
  generalize C * v = V at *
  generalize hZ : z * C = Z at *
  generalize p * B * m = P1 at *
  generalize q * A * n = Q1 at *
  generalize q * A * m = Q2 at *
  have hfin : (c : Int) * C ≤ (C * (x + y - z)).natAbs := by rw [hz]; omega
  rw [Int.natAbs_mul] at hfin
  have hCn : ((C.natAbs : Nat) : Int) = C := by omega
  have : c * C.natAbs ≤ C.natAbs * (x + y - z).natAbs := by
    have h2 : ((c * C.natAbs : Nat) : Int) ≤ ((C.natAbs * (x + y - z).natAbs : Nat) : Int) := by rw [Int.natCast_mul, hCn]; exact hfin
    exact Int.ofNat_le.mp h2
  rw [Nat.mul_comm] at this
  exact Nat.le_of_mul_le_mul_left this (by omega)
/-- the first of the least among lo .. lo + n - 1 -/
def mf (d : Nat → Nat) (lo : Nat) : Nat → Option Nat
  | 0 => none
  | i + 1 => match mf d lo i with
    | none => some (lo + i)
    | some q => if d (lo + i) < d q then some (lo + i) else some q
theorem mf_ok (d : Nat → Nat) (lo : Nat) : ∀ i, (i = 0 ∧ mf d lo i = none) ∨ ∃ q, mf d lo i = some q ∧ lo ≤ q ∧ q < lo + i ∧ (∀ k, lo ≤ k → k < lo + i → d q ≤ d k) ∧ ∀ k, lo ≤ k → k < q → d q < d k
  | 0 => Or.inl ⟨rfl, rfl⟩
  | i + 1 => by
    refine Or.inr ?_
    rcases mf_ok d lo i with ⟨h1, h2⟩ | ⟨q, h1, h2, h3, h4, h5⟩
    · refine ⟨lo + i, by show (match mf d lo i with | none => some (lo + i) | some q => if d (lo + i) < d q then some (lo + i) else some q) = _; rw [h2], by omega, by omega, fun k a b => ?_, fun k a b => absurd b (by omega)⟩
      have : k = lo + i := by omega
      rw [this]; exact Nat.le_refl _
    · by_cases c : d (lo + i) < d q
      · refine ⟨lo + i, by show (match mf d lo i with | none => some (lo + i) | some q => if d (lo + i) < d q then some (lo + i) else some q) = _; rw [h1]; exact if_pos c, by omega, by omega, fun k a b => ?_, fun k a b => ?_⟩
        · by_cases e : k = lo + i
          · rw [e]; exact Nat.le_refl _
          · have := h4 k a (by omega); omega
        · have := h4 k a (by omega); omega
      · refine ⟨q, by show (match mf d lo i with | none => some (lo + i) | some q => if d (lo + i) < d q then some (lo + i) else some q) = _; rw [h1]; exact if_neg c, h2, by omega, fun k a b => ?_, h5⟩
        by_cases e : k = lo + i
        · rw [e]; omega
        · exact h4 k a (by omega)
/-- the class's search: c the closest so far, f the one found -/
def Cs (d : Nat → Nat) (lo f0 : Nat) (i c f : Nat) : Prop := (∀ k, lo ≤ k → k < lo + i → c ≤ d k) ∧ ((c = d f ∧ lo ≤ f ∧ f < lo + i ∧ ∀ k, lo ≤ k → k < f → c < d k) ∨ (c = d f0 + 1 ∧ f = f0))
theorem Cs.start {d : Nat → Nat} {lo f0 : Nat} : Cs d lo f0 0 (d f0 + 1) f0 := ⟨fun k a b => absurd b (by omega), Or.inr ⟨rfl, rfl⟩⟩
theorem Cs.keep {d : Nat → Nat} {lo f0 i c f : Nat} (h : Cs d lo f0 i c f) (hc : c ≤ d (lo + i)) : Cs d lo f0 (i + 1) c f := by
  refine ⟨fun k a b => ?_, h.2.imp (fun q => ⟨q.1, q.2.1, by omega, q.2.2.2⟩) id⟩
  by_cases e : k = lo + i
  · rw [e]; exact hc
  · exact h.1 k a (by omega)
theorem Cs.take {d : Nat → Nat} {lo f0 i c f : Nat} (h : Cs d lo f0 i c f) (hc : d (lo + i) < c) : Cs d lo f0 (i + 1) (d (lo + i)) (lo + i) := by
  refine ⟨fun k a b => ?_, Or.inl ⟨rfl, by omega, by omega, fun k a b => ?_⟩⟩
  · by_cases e : k = lo + i
    · rw [e]; exact Nat.le_refl _
    · have := h.1 k a (by omega); omega
  · have := h.1 k a (by omega); omega
theorem Cs.end {d : Nat → Nat} {lo f0 n c f : Nat} (h : Cs d lo f0 n c f) (h1 : lo ≤ f0) (h2 : f0 < lo + n) : mf d lo n = some f := by
  obtain ⟨a, b⟩ := h
  rcases b with ⟨b1, b2, b3, b4⟩ | ⟨b1, b2⟩
  · rcases mf_ok d lo n with ⟨z, -⟩ | ⟨q, q1, q2, q3, q4, q5⟩
    · omega
    · rw [q1]
      have e1 := a q q2 q3
      have e2 := q4 f b2 b3
      rcases Nat.lt_trichotomy q f with c | c | c
      · have := b4 q q2 c; omega
      · rw [c]
      · have := q5 f b2 c; omega
  · have := a f0 h1 h2
    omega
