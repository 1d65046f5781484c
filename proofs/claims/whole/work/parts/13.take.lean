/-! what a portion is, in numbers: parts and rests by division, then one by one -/
theorem bq_Sp.mono {N : BqM} {fr lo kc ks : Nat} {as : List Value} {S : BqH} {n : Nat} {I : BqI} {L : BqL} {P : BqP} {post post' : BqQ} (h : bq_Sp N fr lo kc ks as S n I L P post) (hq : ∀ r S n I L P, post r S n I L P → post' r S n I L P) : bq_Sp N fr lo kc ks as S n I L P post' := by
  intro l D b p e ha hc hk s m args below hf happ hP hK
  obtain ⟨t, o, h1, h2, h3, ⟨⟨r, S', n', I', L', P', q1, q2, q3⟩, h4⟩⟩ := h l D b p e ha hc hk s m args below hf happ hP hK
  exact ⟨t, o, h1, h2, h3, ⟨⟨r, S', n', I', L', P', q1, hq _ _ _ _ _ _ q2, q3⟩, h4⟩⟩
def pq (f : Nat → Int32) (l : Int32) (j : Nat) : Int32 := tq (bq_sum f 16) (f j * l)
def pr (f : Nat → Int32) (l : Int32) (j : Nat) : Int32 := tr (bq_sum f 16) (f j * l)
def pm (f : Nat → Int32) (l : Int32) : Nat → Int32
  | 0 => l
  | i + 1 => pm f l i - pq f l i
def po (x : (Nat → Int32) × (Nat → Int32)) : (Nat → Int32) × (Nat → Int32) := if x.2 (bq_am x.2 16) ≤ 0 then x else (bq_r x.1 (bq_am x.2 16) (x.1 (bq_am x.2 16) + nI 1), bq_r x.2 (bq_am x.2 16) (nI 0))
def pit : Nat → (Nat → Int32) × (Nat → Int32) → (Nat → Int32) × (Nat → Int32)
  | 0, x => x
  | k + 1, x => pit k (po x)
def pt (f : Nat → Int32) (l : Int32) : Nat → Int32 := (pit (pm f l 16).toNatClampNeg (pq f l, pr f l)).1
theorem bq_am_congr {F G : Nat → Int32} : ∀ (i : Nat), (∀ j, j < i → F j = G j) → bq_am F i = bq_am G i
  | 0, _ => rfl
  | i + 1, h => by
    have ih := bq_am_congr i (fun j hj => h j (by omega))
    have hb := bq_am_le2 G i
    unfold bq_am
    rw [ih, h i (by omega), h (bq_am G i) (by omega)]
theorem bq_sum_congr {F G : Nat → Int32} : ∀ (i : Nat), (∀ j, j < i → F j = G j) → bq_sum F i = bq_sum G i
  | 0, _ => rfl
  | i + 1, h => by
    unfold bq_sum
    rw [bq_sum_congr i (fun j hj => h j (by omega)), h i (by omega)]
theorem bq_u_at {α : Type} (f : Nat → Nat → α) (o k : Nat) (v : α) : bq_u f o k v o k = v := by unfold bq_u; rw [if_pos ⟨rfl, rfl⟩]
theorem bq_u_no {α : Type} {f : Nat → Nat → α} {o k a c : Nat} {v : α} (h : ¬ (a = o ∧ c = k)) : bq_u f o k v a c = f a c := by unfold bq_u; rw [if_neg h]
theorem tl1_cf (I : BqI) (p w : Nat) (l A : Int32) (h1 : w + 1 ≠ p + 1 + 1) (h2 : w + 1 ≠ p + 3) : ∀ i, (∀ a, a ≠ p + 1 + 1 → a ≠ p + 3 → tl1 I p w l A i a = I a) ∧ (∀ j, j < i → tl1 I p w l A i (p + 1 + 1) j = tq A (I (w + 1) j * l)) ∧ (∀ j, j < i → tl1 I p w l A i (p + 3) j = tr A (I (w + 1) j * l))
  | 0 => ⟨fun _ _ _ => rfl, fun j hj => by omega, fun j hj => by omega⟩
  | i + 1 => by
    obtain ⟨g1, g2, g3⟩ := tl1_cf I p w l A h1 h2 i
    have e : tl1 I p w l A i (w + 1) i = I (w + 1) i := by rw [g1 _ h1 h2]
    refine ⟨fun a q1 q2 => ?_, fun j hj => ?_, fun j hj => ?_⟩
    · show bq_u (bq_u _ _ _ _) _ _ _ a = _
      rw [bq_u_ne q2, bq_u_ne q1, g1 a q1 q2]
    · show bq_u (bq_u _ _ _ _) _ _ _ (p + 1 + 1) j = _
      rw [bq_u_no (by omega)]
      by_cases hji : j = i
      · subst hji; rw [bq_u_at, e]
      · rw [bq_u_no (by omega), g2 j (by omega)]
    · show bq_u (bq_u _ _ _ _) _ _ _ (p + 3) j = _
      by_cases hji : j = i
      · subst hji; rw [bq_u_at, e]
      · rw [bq_u_no (by omega), bq_u_no (by omega), g3 j (by omega)]
theorem tm1_cf (I : BqI) (p w : Nat) (l : Int32) (h1 : w + 1 ≠ p + 1 + 1) (h2 : w + 1 ≠ p + 3) : ∀ i, tm1 I p w l (bq_sum (I (w + 1)) 16) i = pm (I (w + 1)) l i
  | 0 => rfl
  | i + 1 => by
    rw [tm1_s, tm1_cf I p w l h1 h2 i, (tl1_cf I p w l _ h1 h2 (i + 1)).2.1 i (by omega)]
    rfl
theorem tom_cf (p : Nat) : ∀ (k : Nat) (J : BqI) (x : (Nat → Int32) × (Nat → Int32)), (∀ j, j < 16 → J (p + 1 + 1) j = x.1 j) → (∀ j, j < 16 → J (p + 3) j = x.2 j) → (∀ a, a ≠ p + 1 + 1 → a ≠ p + 3 → tom J p k a = J a) ∧ ∀ j, j < 16 → tom J p k (p + 1 + 1) j = (pit k x).1 j
  | 0, J, x, h1, h2 => ⟨fun _ _ _ => rfl, h1⟩
  | k + 1, J, x, h1, h2 => by
    have hc : bq_am (J (p + 3)) 16 = bq_am x.2 16 := bq_am_congr 16 h2
    have hl : bq_am x.2 16 < 16 := Nat.lt_of_le_of_lt (bq_am_le x.2 15) (by decide)
    have hv : J (p + 3) (bq_am x.2 16) = x.2 (bq_am x.2 16) := h2 _ hl
    show (∀ a, a ≠ p + 1 + 1 → a ≠ p + 3 → tom (om_I J p) p k a = J a) ∧ ∀ j, j < 16 → tom (om_I J p) p k (p + 1 + 1) j = (pit k (po x)).1 j
    by_cases h : x.2 (bq_am x.2 16) ≤ 0
    · have e1 : om_I J p = J := by unfold om_I; rw [hc, hv, if_pos h]
      have e2 : po x = x := by unfold po; rw [if_pos h]
      rw [e1, e2]
      exact tom_cf p k J x h1 h2
    · have e1 : om_I J p = bq_u (bq_u J (p + 1 + 1) (bq_am x.2 16) (J (p + 1 + 1) (bq_am x.2 16) + nI 1)) (p + 3) (bq_am x.2 16) (nI 0) := by unfold om_I; rw [hc, hv, if_neg h]
      have e2 : po x = (bq_r x.1 (bq_am x.2 16) (x.1 (bq_am x.2 16) + nI 1), bq_r x.2 (bq_am x.2 16) (nI 0)) := by unfold po; rw [if_neg h]
      rw [e1, e2]
      obtain ⟨g1, g2⟩ := tom_cf p k (bq_u (bq_u J (p + 1 + 1) (bq_am x.2 16) (J (p + 1 + 1) (bq_am x.2 16) + nI 1)) (p + 3) (bq_am x.2 16) (nI 0)) (bq_r x.1 (bq_am x.2 16) (x.1 (bq_am x.2 16) + nI 1), bq_r x.2 (bq_am x.2 16) (nI 0))
        (fun j hj => by
          show bq_u (bq_u _ _ _ _) _ _ _ (p + 1 + 1) j = bq_r x.1 _ _ j
          rw [bq_u_no (by omega)]
          by_cases hj2 : j = bq_am x.2 16
          · rw [hj2, bq_u_at, bq_r_self, h1 _ hl]
          · rw [bq_u_no (fun q => hj2 q.2), bq_r_ne hj2, h1 j hj])
        (fun j hj => by
          show bq_u (bq_u _ _ _ _) _ _ _ (p + 3) j = bq_r x.2 _ _ j
          by_cases hj2 : j = bq_am x.2 16
          · rw [hj2, bq_u_at, bq_r_self]
          · rw [bq_u_no (fun q => hj2 q.2), bq_u_no (by omega), bq_r_ne hj2, h2 j hj])
      refine ⟨fun a q1 q2 => ?_, g2⟩
      rw [g1 a q1 q2, bq_u_ne q2, bq_u_ne q1]
def qTake (I : BqI) (S : BqH) (n : Nat) (L : BqL) (P : BqP) (p w : Nat) (x : Int32) : BqQ := fun r S' n' I' L' P' => r = none ∧ S' = S ∧ n' = n ∧ L' = L ∧ P' = P ∧ (∀ a, a ≠ p + 1 + 1 → a ≠ p + 3 → I' a = I a) ∧ ∀ j, j < 16 → I' (p + 1 + 1) j = pt (I (w + 1)) x j
theorem c_take {S : BqH} {n : Nat} {I : BqI} {L : BqL} {P : BqP} {p w k : Nat} {x : Int32} (hp : oPortion S n P p) (hw : oBlend S n P w) (hne : w ≠ p + 1) (hne2 : w ≠ p + 2) (hm : pm (I (w + 1)) x 16 = nI k) (hk : k < 2 ^ 31) : bq_Sp mX6_take 2 34 0 0 [.ref p, .ref w, .int x] S n I L P (qTake I S n L P p w x) := by
  have h1 : w + 1 ≠ p + 1 + 1 := by omega
  have h2 : w + 1 ≠ p + 3 := by omega
  refine (c_X6_take hp hw ((tm1_cf I p w x h1 h2 16).trans hm) hk).mono ?_
  rintro r S' n' I' L' P' ⟨rfl, rfl, rfl, rfl, rfl, rfl⟩
  obtain ⟨g1, g2, g3⟩ := tl1_cf I p w x (bq_sum (I (w + 1)) 16) h1 h2 16
  obtain ⟨f1, f2⟩ := tom_cf p k (tl1 I p w x (bq_sum (I (w + 1)) 16) 16) (pq (I (w + 1)) x, pr (I (w + 1)) x) (fun j hj => g2 j hj) (fun j hj => g3 j hj)
  refine ⟨rfl, rfl, rfl, rfl, rfl, fun a q1 q2 => (f1 a q1 q2).trans (g1 a q1 q2), fun j hj => ?_⟩
  rw [f2 j hj]
  unfold pt
  rw [hm, nI_clamp hk]
