/-! the plan, in numbers -/
/-- the rank of an order: the day on which it is due, then the more litres; then its number -/
def kk (g : BqG) (o : Nat) : Nat := gn g (204 + 9 * o) * 10001 + (10000 - gn g (205 + 9 * o))
def key (g : BqG) (o : Nat) : Nat := kk g o * 16 + o
def ahd (g : BqG) (a b : Nat) : Prop := g (204 + 9 * a) < g (204 + 9 * b) ∨ (g (204 + 9 * a) = g (204 + 9 * b) ∧ ¬ g (205 + 9 * a) ≤ g (205 + 9 * b))
theorem ahd_kk {g : BqG} {en a b : Nat} (hG : GI g en) (ha : a < 10) (hb : b < 10) : ahd g a b ↔ kk g a < kk g b := by
  obtain ⟨a1, -, -, -, a5, -⟩ := hG.o ha
  obtain ⟨b1, -, -, -, b5, -⟩ := hG.o hb
  unfold ahd kk
  rw [hG.n (k := 204 + 9 * a) (by omega) (by omega), hG.n (k := 204 + 9 * b) (by omega) (by omega), hG.n (k := 205 + 9 * a) (by omega) (by omega), hG.n (k := 205 + 9 * b) (by omega) (by omega), nI_ltI (by omega) (by omega), nI_eq (by omega) (by omega), nI_leI (by omega) (by omega)]
  generalize gn g (204 + 9 * a) = x at *
  generalize gn g (204 + 9 * b) = y at *
  generalize gn g (205 + 9 * a) = u at *
  generalize gn g (205 + 9 * b) = v at *
  constructor
  · rintro (h | ⟨h1, h2⟩) <;> omega
  · intro h
    rcases Nat.lt_trichotomy x y with c | c | c
    · exact Or.inl c
    · exact Or.inr ⟨c, by omega⟩
    · omega
/-- where an order comes into a queue of n, from behind -/
def qpl (K : Nat → Nat) (Q : Nat → Nat) (i : Nat) : Nat → Nat
  | 0 => 0
  | n + 1 => if K i < K (Q n) then qpl K Q i n else n + 1
theorem qpl_le (K Q : Nat → Nat) (i : Nat) : ∀ n, qpl K Q i n ≤ n
  | 0 => Nat.le_refl _
  | n + 1 => by
    have := qpl_le K Q i n
    unfold qpl
    split <;> omega
theorem qpl_gt (K Q : Nat → Nat) (i : Nat) : ∀ n j, qpl K Q i n ≤ j → j < n → K i < K (Q j)
  | 0, j, _, h => by omega
  | n + 1, j, h1, h2 => by
    unfold qpl at h1
    by_cases c : K i < K (Q n)
    · rw [if_pos c] at h1
      by_cases e : j = n
      · subst e; exact c
      · exact qpl_gt K Q i n j h1 (by omega)
    · rw [if_neg c] at h1; omega
theorem qpl_ge (K Q : Nat → Nat) (i : Nat) : ∀ n, 0 < qpl K Q i n → ¬ K i < K (Q (qpl K Q i n - 1))
  | 0, h => by simp [qpl] at h
  | n + 1, h => by
    unfold qpl at h ⊢
    by_cases c : K i < K (Q n)
    · rw [if_pos c] at h ⊢; exact qpl_ge K Q i n h
    · rw [if_neg c]; exact c
def qin (Q : Nat → Nat) (p i : Nat) : Nat → Nat := fun j => if j < p then Q j else if j = p then i else Q (j - 1)
/-- the queue after the first i orders, and how long it is -/
def qq (K : Nat → Nat) (op : Nat → Bool) : Nat → (Nat → Nat) × Nat
  | 0 => ((fun _ => 0), 0)
  | i + 1 => if op i = true then (qin (qq K op i).1 (qpl K (qq K op i).1 i (qq K op i).2) i, (qq K op i).2 + 1) else qq K op i
/-- a queue: in rank, each open order once -/
def Qok (K : Nat → Nat) (op : Nat → Bool) (c : Nat) (Q : Nat → Nat) (n : Nat) : Prop :=
  (∀ a b, a < b → b < n → K (Q a) < K (Q b) ∨ (K (Q a) = K (Q b) ∧ Q a < Q b)) ∧ (∀ j, j < n → Q j < c ∧ op (Q j) = true) ∧ (∀ o, o < c → op o = true → ∃ j, j < n ∧ Q j = o) ∧ n ≤ c
theorem qq_ok (K : Nat → Nat) (op : Nat → Bool) : ∀ c, Qok K op c (qq K op c).1 (qq K op c).2
  | 0 => ⟨fun a b _ h => absurd h (Nat.not_lt_zero _), fun j h => absurd h (Nat.not_lt_zero _), fun o h => absurd h (Nat.not_lt_zero _), Nat.le_refl _⟩
  | i + 1 => by
    obtain ⟨h1, h2, h3, h4⟩ := qq_ok K op i
    unfold qq
    by_cases ho : op i = true
    · rw [if_pos ho]
      generalize (qq K op i).1 = Q at *
      generalize (qq K op i).2 = n at *
      show Qok K op (i + 1) (qin Q (qpl K Q i n) i) (n + 1)
      have p1 := qpl_le K Q i n
      have p2 := qpl_gt K Q i n
      have p3 := qpl_ge K Q i n
      generalize qpl K Q i n = p at *
      have lo : ∀ a, a < p → K (Q a) < K i ∨ (K (Q a) = K i ∧ Q a < i) := fun a ha => by
        have g3 := p3 (by omega)
        have hq := (h2 a (by omega)).1
        by_cases e : a = p - 1
        · subst e
          rcases Nat.lt_or_ge (K (Q (p - 1))) (K i) with z | z
          · exact Or.inl z
          · exact Or.inr ⟨by omega, hq⟩
        · have := h1 a (p - 1) (by omega) (by omega)
          rcases Nat.lt_or_ge (K (Q a)) (K i) with z | z
          · exact Or.inl z
          · exact Or.inr ⟨by omega, hq⟩
      have vlt : ∀ j, j < p → qin Q p i j = Q j := fun j hj => if_pos hj
      have veq : qin Q p i p = i := by unfold qin; rw [if_neg (by omega), if_pos rfl]
      have vgt : ∀ j, p < j → qin Q p i j = Q (j - 1) := fun j hj => by unfold qin; rw [if_neg (by omega), if_neg (by omega)]
      refine ⟨fun a b hab hb => ?_, fun j hj => ?_, fun o ho' hop => ?_, by omega⟩
      · rcases Nat.lt_trichotomy b p with c | c | c
        · rw [vlt a (by omega), vlt b c]; exact h1 a b hab (by omega)
        · rw [c, veq, vlt a (by omega)]; exact lo a (by omega)
        · rw [vgt b c]
          have hb1 := p2 (b - 1) (by omega) (by omega)
          rcases Nat.lt_trichotomy a p with d | d | d
          · rw [vlt a d]
            have := lo a d
            omega
          · rw [d, veq]; exact Or.inl hb1
          · rw [vgt a d]; exact h1 (a - 1) (b - 1) (by omega) (by omega)
      · rcases Nat.lt_trichotomy j p with c | c | c
        · rw [vlt j c]; have := h2 j (by omega); exact ⟨by omega, this.2⟩
        · rw [c, veq]; exact ⟨by omega, ho⟩
        · rw [vgt j c]; have := h2 (j - 1) (by omega); exact ⟨by omega, this.2⟩
      · by_cases e : o = i
        · exact ⟨p, by omega, by rw [veq, e]⟩
        · obtain ⟨j, hj, hq⟩ := h3 o (by omega) hop
          by_cases d : j < p
          · exact ⟨j, by omega, by rw [vlt j d]; exact hq⟩
          · exact ⟨j + 1, by omega, by rw [vgt (j + 1) (by omega), Nat.add_sub_cancel]; exact hq⟩
    · rw [if_neg ho]
      refine ⟨h1, fun j hj => ⟨by have := (h2 j hj).1; omega, (h2 j hj).2⟩, fun o ho' hop => ?_, by omega⟩
      by_cases e : o = i
      · subst e; exact absurd hop ho
      · exact h3 o (by omega) hop
/-- the first of the least among the orders that f lets in -/
def nxt (K : Nat → Nat) (f : Nat → Bool) : Nat → Option Nat
  | 0 => none
  | i + 1 => match nxt K f i with
    | none => if f i = true then some i else none
    | some q => if f i = true ∧ K i < K q then some i else some q
theorem nxt_ok (K : Nat → Nat) (f : Nat → Bool) : ∀ c, (nxt K f c = none → ∀ o, o < c → ¬ f o = true) ∧ ∀ q, nxt K f c = some q → q < c ∧ f q = true ∧ ∀ o, o < c → f o = true → K q < K o ∨ (K q = K o ∧ q ≤ o)
  | 0 => ⟨fun _ o h => absurd h (Nat.not_lt_zero _), fun q h => by simp [nxt] at h⟩
  | i + 1 => by
    obtain ⟨h1, h2⟩ := nxt_ok K f i
    unfold nxt
    cases hq : nxt K f i with
    | none =>
      have h1 := h1 hq
      by_cases c : f i = true
      · refine ⟨fun z => ?_, fun q z => ?_⟩
        · simp [c] at z
        · have : q = i := by simpa [c] using z.symm
          subst this
          refine ⟨by omega, c, fun o ho hf => ?_⟩
          by_cases e : o = q
          · subst e; exact Or.inr ⟨rfl, Nat.le_refl _⟩
          · exact absurd hf (h1 o (by omega))
      · refine ⟨fun _ o ho => ?_, fun q z => ?_⟩
        · by_cases e : o = i
          · subst e; exact c
          · exact h1 o (by omega)
        · simp [c] at z
    | some r =>
      obtain ⟨r1, r2, r3⟩ := h2 r hq
      by_cases c : f i = true ∧ K i < K r
      · refine ⟨fun z => ?_, fun q z => ?_⟩
        · simp [c] at z
        · have : q = i := by simpa [c] using z.symm
          subst this
          refine ⟨by omega, c.1, fun o ho hf => ?_⟩
          by_cases e : o = q
          · subst e; exact Or.inr ⟨rfl, Nat.le_refl _⟩
          · have := r3 o (by omega) hf; omega
      · refine ⟨fun z => ?_, fun q z => ?_⟩
        · simp [c] at z
        · have : q = r := by
            rw [show (match some r with | none => if f i = true then some i else none | some q => if f i = true ∧ K i < K q then some i else some q) = some r from if_neg c] at z
            exact (Option.some.inj z).symm
          subst this
          refine ⟨by omega, r2, fun o ho hf => ?_⟩
          by_cases e : o = i
          · subst e
            have : ¬ K o < K q := fun z => c ⟨hf, z⟩
            omega
          · exact r3 o (by omega) hf
/-- the next in rank is the next in the queue -/
theorem nxt_q {K : Nat → Nat} {op : Nat → Bool} {c n k : Nat} {Q : Nat → Nat} {f : Nat → Bool} (hQ : Qok K op c Q n) (hk : k ≤ n) (hf : ∀ o, o < c → (f o = true ↔ op o = true ∧ ∀ j, j < k → Q j ≠ o)) : nxt K f c = if k < n then some (Q k) else none := by
  obtain ⟨h1, h2, h3, h4⟩ := hQ
  obtain ⟨n1, n2⟩ := nxt_ok K f c
  by_cases ck : k < n
  · rw [if_pos ck]
    have hQk := h2 k ck
    have hfk : f (Q k) = true := (hf _ hQk.1).mpr ⟨hQk.2, fun j hj e => by have := h1 j k hj ck; rw [e] at this; omega⟩
    cases hq : nxt K f c with
    | none => exact absurd hfk (n1 hq _ hQk.1)
    | some q =>
      obtain ⟨q1, q2, q3⟩ := n2 q hq
      obtain ⟨o1, o2⟩ := (hf q q1).mp q2
      obtain ⟨j, hj, rfl⟩ := h3 q q1 o1
      have hjk : ¬ j < k := fun z => o2 j z rfl
      have := q3 (Q k) hQk.1 hfk
      by_cases e : j = k
      · rw [e]
      · have := h1 k j (by omega) hj
        omega
  · rw [if_neg ck]
    cases hq : nxt K f c with
    | none => rfl
    | some q =>
      obtain ⟨q1, q2, q3⟩ := n2 q hq
      obtain ⟨o1, o2⟩ := (hf q q1).mp q2
      obtain ⟨j, hj, rfl⟩ := h3 q q1 o1
      exact absurd rfl (o2 j (by omega))
/-- may a tank that holds F fill order o? -/
def fit (g : BqG) (o : Nat) (F : Nat → Nat) : Bool := decide (gn g (205 + 9 * o) ≤ ns F 16) && decide (¬ bq_str (fun j => nI (F j)) (fun b => g (124 + 5 * b)) < g (206 + 9 * o)) && decide (¬ g (207 + 9 * o) < bq_str (fun j => nI (F j)) (fun b => g (124 + 5 * b)))
/-- the tank with the fewest litres that fits, the first of several -/
def bt (g : BqG) (o : Nat) (F : Nat → Nat → Nat) : Nat → Option Nat
  | 0 => none
  | t + 1 => if fit g o (F t) = true then (match bt g o F t with
    | none => some t
    | some q => if ns (F t) 16 < ns (F q) 16 then some t else some q) else bt g o F t
theorem bt_ok {g : BqG} {o : Nat} {F : Nat → Nat → Nat} : ∀ {k t : Nat}, bt g o F k = some t → t < k ∧ fit g o (F t) = true
  | 0, t, h => by simp [bt] at h
  | k + 1, t, h => by
    unfold bt at h
    by_cases c : fit g o (F k) = true
    · rw [if_pos c] at h
      cases hq : bt g o F k with
      | none =>
        rw [hq] at h
        have : t = k := (Option.some.inj h).symm
        subst this; exact ⟨by omega, c⟩
      | some q =>
        rw [hq] at h
        have h : (if ns (F k) 16 < ns (F q) 16 then some k else some q) = some t := h
        by_cases d : ns (F k) 16 < ns (F q) 16
        · rw [if_pos d] at h
          have : t = k := (Option.some.inj h).symm
          subst this; exact ⟨by omega, c⟩
        · rw [if_neg d] at h
          have : t = q := (Option.some.inj h).symm
          subst this
          have := bt_ok hq
          exact ⟨by omega, this.2⟩
    · rw [if_neg c] at h
      have := bt_ok h
      exact ⟨by omega, this.2⟩
/-- the plan after k orders of the queue: what is left, how many fillings, their orders and their tanks -/
abbrev BqPl : Type := (Nat → Nat → Nat) × Nat × (Nat → Nat) × (Nat → Nat)
def pst (g : BqG) (p : BqPl) (o : Nat) : BqPl := match bt g o p.1 6 with
  | none => p
  | some t => (bq_r p.1 t (fun b => p.1 t b - npt (p.1 t) (gn g (205 + 9 * o)) b), p.2.1 + 1, bq_r p.2.2.1 p.2.1 o, bq_r p.2.2.2 p.2.1 t)
def pln (g : BqG) (Q : Nat → Nat) : Nat → BqPl
  | 0 => (gp g, 0, (fun _ => 0), (fun _ => 0))
  | k + 1 => pst g (pln g Q k) (Q k)
def qg (g : BqG) : (Nat → Nat) × Nat := qq (kk g) (fun o => decide (g (208 + 9 * o) = 0)) (gn g 2)
def plan (g : BqG) : BqPl := pln g (qg g).1 (qg g).2
/-- what is left is at most what was there, and the fillings are counted -/
theorem pln_ok {g : BqG} {en : Nat} (hG : GI g en) (Q : Nat → Nat) (n c : Nat) (hQ : ∀ j, j < n → Q j < c) (hc : c ≤ 10) (h1 : ∀ j, j < n → 1 ≤ gn g (205 + 9 * Q j)) : ∀ k, k ≤ n → (∀ t, t < 6 → ns ((pln g Q k).1 t) 16 ≤ 9999) ∧ (pln g Q k).2.1 ≤ k ∧ ∀ j, j < (pln g Q k).2.1 → (∃ i, i < k ∧ (pln g Q k).2.2.1 j = Q i) ∧ (pln g Q k).2.2.2 j < 6
  | 0, _ => ⟨fun t ht => by
      have h1 := (hG.t ht).2.2.2.2.1
      have h2 := (hG.t ht).2.1
      have : gt g t ≤ 9999 := by omega
      exact this, Nat.le_refl _, fun j hj => absurd hj (Nat.not_lt_zero _)⟩
  | k + 1, hk => by
    obtain ⟨p1, p2, p3⟩ := pln_ok hG Q n c hQ hc h1 k (by omega)
    rw [show pln g Q (k + 1) = pst g (pln g Q k) (Q k) from rfl]
    generalize pln g Q k = p at p1 p2 p3 ⊢
    cases hb : bt g (Q k) p.1 6 with
    | none =>
      rw [show pst g p (Q k) = p from by unfold pst; rw [hb]]
      exact ⟨p1, Nat.le_succ_of_le p2, fun j hj => by obtain ⟨⟨i, hi, e⟩, h6⟩ := p3 j hj; exact ⟨⟨i, by omega, e⟩, h6⟩⟩
    | some t =>
      obtain ⟨t1, t2⟩ := bt_ok hb
      rw [show pst g p (Q k) = (bq_r p.1 t (fun b => p.1 t b - npt (p.1 t) (gn g (205 + 9 * Q k)) b), p.2.1 + 1, bq_r p.2.2.1 p.2.1 (Q k), bq_r p.2.2.2 p.2.1 t) from by unfold pst; rw [hb]]
      refine ⟨fun q hq => ?_, Nat.succ_le_succ p2, fun j hj => ?_⟩
      · show ns (bq_r p.1 t (fun b => p.1 t b - npt (p.1 t) (gn g (205 + 9 * Q k)) b) q) 16 ≤ 9999
        by_cases c : q = t
        · subst c
          rw [bq_r_self]
          exact Nat.le_trans (ns_le 16 (fun j _ => Nat.sub_le _ _)) (p1 q hq)
        · rw [bq_r_ne c]; exact p1 q hq
      · have hj : j < p.2.1 + 1 := hj
        show (∃ i, i < k + 1 ∧ bq_r p.2.2.1 p.2.1 (Q k) j = Q i) ∧ bq_r p.2.2.2 p.2.1 t j < 6
        by_cases c : j = p.2.1
        · subst c
          rw [bq_r_self, bq_r_self]
          exact ⟨⟨k, by omega, rfl⟩, t1⟩
        · rw [bq_r_ne c, bq_r_ne c]
          obtain ⟨⟨i, hi, e⟩, h6⟩ := p3 j (by omega)
          exact ⟨⟨i, by omega, e⟩, h6⟩
