/-! what holds of the row is kept -/
def Rw (g : BqG) (N : Nat → Nat) : Prop := ∀ k, k < 650 → k ≠ 6 → g k = nI (N k) ∧ N k < 2 ^ 31
def ts (N : Nat → Nat) (t : Nat) : Nat := ns (fun b => N (13 + 19 * t + b)) 16
def bs (N : Nat → Nat) (b : Nat) : Nat := ns (fun t => N (13 + 19 * t + b)) 6
def GT (N : Nat → Nat) (t : Nat) : Prop := 1 ≤ N (10 + 19 * t) ∧ N (10 + 19 * t) ≤ 9999 ∧ N (11 + 19 * t) ≤ 3 ∧ N (12 + 19 * t) ≤ 10001 ∧ ts N t ≤ N (10 + 19 * t) ∧ (N (11 + 19 * t) = 1 ↔ 0 < ts N t)
def GB (N : Nat → Nat) (b : Nat) : Prop := N (124 + 5 * b) ≤ 2000 ∧ bs N b + N (126 + 5 * b) + N (127 + 5 * b) = N (125 + 5 * b) ∧ N (125 + 5 * b) ≤ 9999 ∧ (N 1 ≤ b → N (125 + 5 * b) = 0)
def GO (N : Nat → Nat) (o : Nat) : Prop := N (205 + 9 * o) ≤ 9999 ∧ (o < N 2 → 1 ≤ N (205 + 9 * o)) ∧ N (206 + 9 * o) ≤ 2000 ∧ N (207 + 9 * o) ≤ 2000 ∧ N (204 + 9 * o) ≤ 10098 ∧ N (208 + 9 * o) ≤ 2 ∧ N (209 + 9 * o) ≤ 20000000 ∧ N (212 + 9 * o) ≤ 20000000 ∧ (N 2 ≤ o → N (208 + 9 * o) = 0)
def GC (N : Nat → Nat) (en : Nat) : Prop := (N 0 ≤ 9999 ∧ N 1 ≤ 16 ∧ N 2 ≤ 10 ∧ N 3 ≤ 10 ∧ N 4 ≤ 100 ∧ N 5 ≤ en) ∧ (∀ t, t < 6 → GT N t) ∧ (∀ b, b < 16 → GB N b) ∧ (∀ o, o < 10 → GO N o) ∧ (∀ r, r < 10 → N (296 + 3 * r) ≤ 9999) ∧ ∀ r, r < 4 → N (324 + r) ≤ 9999 * N 5
def GK (g : BqG) (en : Nat) : Prop := Rw g (gn g) ∧ GC (gn g) en ∧ (g 6).toInt.natAbs ≤ 200000000
theorem GK.gi {g : BqG} {en : Nat} (h : GK g en) : GI g en :=
  ⟨h.1, h.2.1.1.1, h.2.1.1.2.1, h.2.1.1.2.2.1, h.2.1.1.2.2.2.1, h.2.1.1.2.2.2.2.1, h.2.1.1.2.2.2.2.2, h.2.1.2.1, h.2.1.2.2.1, h.2.1.2.2.2.1, h.2.1.2.2.2.2.1, h.2.2⟩
theorem GT.e {N N' : Nat → Nat} {t : Nat} (h : GT N t) (e : ∀ k, 10 + 19 * t ≤ k → k < 29 + 19 * t → N' k = N k) : GT N' t := by
  have es : ts N' t = ts N t := ns_congr 16 (fun j hj => e _ (by omega) (by omega))
  unfold GT at *
  rw [es, e (10 + 19 * t) (by omega) (by omega), e (11 + 19 * t) (by omega) (by omega), e (12 + 19 * t) (by omega) (by omega)]
  exact h
theorem GB.e {N N' : Nat → Nat} {b : Nat} (h : GB N b) (e : ∀ q, q < 6 → N' (13 + 19 * q + b) = N (13 + 19 * q + b)) (e2 : ∀ k, 124 + 5 * b ≤ k → k < 128 + 5 * b → N' k = N k) (e1 : N' 1 = N 1) : GB N' b := by
  have es : bs N' b = bs N b := ns_congr 6 (fun j hj => e j hj)
  unfold GB at *
  rw [es, e2 (124 + 5 * b) (by omega) (by omega), e2 (125 + 5 * b) (by omega) (by omega), e2 (126 + 5 * b) (by omega) (by omega), e2 (127 + 5 * b) (by omega) (by omega), e1]
  exact h
theorem GO.e {N N' : Nat → Nat} {o : Nat} (h : GO N o) (e : ∀ k, 204 + 9 * o ≤ k → k < 213 + 9 * o → N' k = N k) (e2 : N' 2 = N 2) : GO N' o := by
  unfold GO at *
  rw [e (204 + 9 * o) (by omega) (by omega), e (205 + 9 * o) (by omega) (by omega), e (206 + 9 * o) (by omega) (by omega), e (207 + 9 * o) (by omega) (by omega), e (208 + 9 * o) (by omega) (by omega), e (209 + 9 * o) (by omega) (by omega), e (212 + 9 * o) (by omega) (by omega), e2]
  exact h
theorem GC.e {N N' : Nat → Nat} {en : Nat} (h : GC N en) (e : ∀ k, k < 650 → k ≠ 6 → N' k = N k) : GC N' en := by
  obtain ⟨⟨h0, h1, h2, h3, h4, h5⟩, hT, hB, hO, hR, hL⟩ := h
  refine ⟨⟨?_, ?_, ?_, ?_, ?_, ?_⟩, fun t ht => (hT t ht).e (fun k q1 q2 => e k (by omega) (by omega)), fun b hb => (hB b hb).e (fun q hq => e _ (by omega) (by omega)) (fun k q1 q2 => e k (by omega) (by omega)) (e 1 (by omega) (by omega)), fun o ho => (hO o ho).e (fun k q1 q2 => e k (by omega) (by omega)) (e 2 (by omega) (by omega)), fun r hr => ?_, fun r hr => ?_⟩
  · rw [e 0 (by omega) (by omega)]; exact h0
  · rw [e 1 (by omega) (by omega)]; exact h1
  · rw [e 2 (by omega) (by omega)]; exact h2
  · rw [e 3 (by omega) (by omega)]; exact h3
  · rw [e 4 (by omega) (by omega)]; exact h4
  · rw [e 5 (by omega) (by omega)]; exact h5
  · rw [e (296 + 3 * r) (by omega) (by omega)]; exact hR r hr
  · rw [e (324 + r) (by omega) (by omega), e 5 (by omega) (by omega)]; exact hL r hr
theorem GK.of {g : BqG} {N : Nat → Nat} {en : Nat} (hR : Rw g N) (hC : GC N en) (h6 : (g 6).toInt.natAbs ≤ 200000000) : GK g en := by
  have e : ∀ k, k < 650 → k ≠ 6 → gn g k = N k := fun k hk k6 => by
    obtain ⟨a, b⟩ := hR k hk k6
    unfold gn
    rw [a, nI_clamp b]
  exact ⟨fun k hk k6 => by rw [e k hk k6]; exact hR k hk k6, hC.e e, h6⟩
theorem Rw.r {g : BqG} {N : Nat → Nat} (h : Rw g N) {k : Nat} {v : Int32} {w : Nat} (e : v = nI w) (hw : w < 2 ^ 31) : Rw (bq_r g k v) (bq_r N k w) := fun q hq q6 => by
  by_cases c : q = k
  · subst c; rw [bq_r_self, bq_r_self]; exact ⟨e, hw⟩
  · rw [bq_r_ne c, bq_r_ne c]; exact h q hq q6
/-- places alone, none of them a part or a litre of a batch -/
theorem GC.mk {N N' : Nat → Nat} {en en' : Nat} (h : GC N en) (hd : N' 0 ≤ 9999 ∧ N' 1 = N 1 ∧ N' 2 ≤ 10 ∧ N' 3 ≤ 10 ∧ N' 4 ≤ 100 ∧ N' 5 ≤ en') (hT : ∀ t, t < 6 → GT N' t) (hp : ∀ k, 13 ≤ k → k < 124 → (k - 10) % 19 ≥ 3 → N' k = N k) (hb : ∀ k, 124 ≤ k → k < 204 → N' k = N k) (hO : ∀ o, o < 10 → GO N' o) (hR : ∀ r, r < 10 → N' (296 + 3 * r) ≤ 9999) (hL : ∀ r, r < 4 → N' (324 + r) ≤ 9999 * N' 5) : GC N' en' :=
  ⟨⟨hd.1, by rw [hd.2.1]; exact h.1.2.1, hd.2.2.1, hd.2.2.2.1, hd.2.2.2.2.1, hd.2.2.2.2.2⟩, hT, fun b hb' => (h.2.2.1 b hb').e (fun q hq => hp _ (by omega) (by omega) (by omega)) (fun k q1 q2 => hb k (by omega) (by omega)) hd.2.1, hO, hR, hL⟩
theorem GK.d {g : BqG} {en : Nat} (h : GK g en) : (gn g 0 ≤ 9999 ∧ gn g 1 ≤ 16 ∧ gn g 2 ≤ 10 ∧ gn g 3 ≤ 10 ∧ gn g 4 ≤ 100 ∧ gn g 5 ≤ en) := h.2.1.1
theorem GK.mono {g : BqG} {en en' : Nat} (h : GK g en) (hl : en ≤ en') : GK g en' := ⟨h.1, ⟨⟨h.2.1.1.1, h.2.1.1.2.1, h.2.1.1.2.2.1, h.2.1.1.2.2.2.1, h.2.1.1.2.2.2.2.1, Nat.le_trans h.2.1.1.2.2.2.2.2 hl⟩, h.2.1.2⟩, h.2.2⟩
theorem gk_setLoss {g : BqG} {en v : Nat} (h : GK g en) (hv : v ≤ 100) : GK (bq_r g 4 (nI v)) en := by
  obtain ⟨hR, hC, h6⟩ := h
  obtain ⟨d0, d1, d2, d3, d4, d5⟩ := hC.1
  refine GK.of (hR.r rfl (show v < 2 ^ 31 by omega)) (hC.mk ⟨by rw [bq_r_ne (by omega)]; exact d0, bq_r_ne (by omega), by rw [bq_r_ne (by omega)]; exact d2, by rw [bq_r_ne (by omega)]; exact d3, by rw [bq_r_self]; exact hv, by rw [bq_r_ne (by omega)]; exact d5⟩ (fun t ht => (hC.2.1 t ht).e (fun k _ _ => bq_r_ne (by omega))) (fun k _ _ _ => bq_r_ne (by omega)) (fun k _ _ => bq_r_ne (by omega)) (fun o ho => (hC.2.2.2.1 o ho).e (fun k _ _ => bq_r_ne (by omega)) (bq_r_ne (by omega))) (fun r hr => by rw [bq_r_ne (by omega)]; exact hC.2.2.2.2.1 r hr) (fun r hr => by rw [bq_r_ne (by omega), bq_r_ne (by omega)]; exact hC.2.2.2.2.2 r hr)) (by rw [bq_r_ne (by omega)]; exact h6)
theorem gk_size {g : BqG} {en t v : Nat} (h : GK g en) (ht : t < 6) (h1 : 1 ≤ v) (h2 : v ≤ 9999) (hv : gt g t ≤ v) : GK (bq_r g (10 + 19 * t) (nI v)) en := by
  obtain ⟨hR, hC, h6⟩ := h
  obtain ⟨d0, d1, d2, d3, d4, d5⟩ := hC.1
  refine GK.of (hR.r rfl (show v < 2 ^ 31 by omega)) (hC.mk ⟨by rw [bq_r_ne (by omega)]; exact d0, bq_r_ne (by omega), by rw [bq_r_ne (by omega)]; exact d2, by rw [bq_r_ne (by omega)]; exact d3, by rw [bq_r_ne (by omega)]; exact d4, by rw [bq_r_ne (by omega)]; exact d5⟩ (fun q hq => ?_) (fun k _ _ _ => bq_r_ne (by omega)) (fun k _ _ => bq_r_ne (by omega)) (fun o ho => (hC.2.2.2.1 o ho).e (fun k _ _ => bq_r_ne (by omega)) (bq_r_ne (by omega))) (fun r hr => by rw [bq_r_ne (by omega)]; exact hC.2.2.2.2.1 r hr) (fun r hr => by rw [bq_r_ne (by omega), bq_r_ne (by omega)]; exact hC.2.2.2.2.2 r hr)) (by rw [bq_r_ne (by omega)]; exact h6)
  by_cases c : q = t
  · subst c
    obtain ⟨a1, a2, a3, a4, a5, a6⟩ := hC.2.1 q hq
    have es : ts (bq_r (gn g) (10 + 19 * q) v) q = ts (gn g) q := ns_congr 16 (fun j hj => bq_r_ne (by omega))
    unfold GT
    rw [es, bq_r_self, bq_r_ne (by omega), bq_r_ne (by omega)]
    exact ⟨h1, h2, a3, a4, hv, a6⟩
  · exact (hC.2.1 q hq).e (fun k _ _ => bq_r_ne (by omega))
theorem gk_rate {g : BqG} {en d s a : Nat} (h : GK g en) (hc : gn g 3 < 10) (hd : d ≤ 9999) (hs : s ≤ 2000) (ha : a ≤ 9999) : GK (x_rate g (nI d) (nI s) (nI a)) en := by
  obtain ⟨hR, hC, h6⟩ := h
  obtain ⟨d0, d1, d2, d3, d4, d5⟩ := hC.1
  have e : ∀ k, k < 294 → k ≠ 3 → bq_r (bq_r (bq_r (bq_r (gn g) (294 + 3 * gn g 3 + 0) d) (294 + 3 * gn g 3 + 1) s) (294 + 3 * gn g 3 + 2) a) 3 (gn g 3 + 1) k = gn g k := fun k hk k3 => by
    rw [bq_r_ne k3, bq_r_ne (by omega), bq_r_ne (by omega), bq_r_ne (by omega)]
  have e2 : ∀ k, 324 ≤ k → bq_r (bq_r (bq_r (bq_r (gn g) (294 + 3 * gn g 3 + 0) d) (294 + 3 * gn g 3 + 1) s) (294 + 3 * gn g 3 + 2) a) 3 (gn g 3 + 1) k = gn g k := fun k hk => by
    rw [bq_r_ne (by omega), bq_r_ne (by omega), bq_r_ne (by omega), bq_r_ne (by omega)]
  unfold x_rate
  refine GK.of ((((hR.r rfl (show d < 2 ^ 31 by omega)).r rfl (show s < 2 ^ 31 by omega)).r rfl (show a < 2 ^ 31 by omega)).r rfl (show gn g 3 + 1 < 2 ^ 31 by omega)) (hC.mk ⟨by rw [e 0 (by omega) (by omega)]; exact d0, e 1 (by omega) (by omega), by rw [e 2 (by omega) (by omega)]; exact d2, by rw [bq_r_self]; omega, by rw [e 4 (by omega) (by omega)]; exact d4, by rw [e 5 (by omega) (by omega)]; exact d5⟩ (fun q hq => (hC.2.1 q hq).e (fun k _ _ => e k (by omega) (by omega))) (fun k _ _ _ => e k (by omega) (by omega)) (fun k _ _ => e k (by omega) (by omega)) (fun o ho => (hC.2.2.2.1 o ho).e (fun k _ _ => e k (by omega) (by omega)) (e 2 (by omega) (by omega))) (fun r hr => ?_) (fun r hr => by rw [e2 _ (by omega), e 5 (by omega) (by omega)]; exact hC.2.2.2.2.2 r hr)) (by rw [bq_r_ne (by omega), bq_r_ne (by omega), bq_r_ne (by omega), bq_r_ne (by omega)]; exact h6)
  rw [bq_r_ne (by omega)]
  by_cases c : r = gn g 3
  · rw [show 296 + 3 * r = 294 + 3 * gn g 3 + 2 by omega, bq_r_self]; exact ha
  · rw [bq_r_ne (by omega), bq_r_ne (by omega), bq_r_ne (by omega)]; exact hC.2.2.2.2.1 r hr
theorem gk_order {g : BqG} {en d l a b : Nat} (h : GK g en) (hc : gn g 2 < 10) (hd : d ≤ 99) (hl1 : 1 ≤ l) (hl2 : l ≤ 9999) (ha : a ≤ 2000) (hb : b ≤ 2000) : GK (x_order g (nI d) (nI l) (nI a) (nI b)) en := by
  obtain ⟨hR, hC, h6⟩ := h
  obtain ⟨d0, d1, d2, d3, d4, d5⟩ := hC.1
  have hg0 : g 0 + nI d = nI (gn g 0 + d) := by rw [(hR 0 (by omega) (by omega)).1, nI_add]
  generalize hN : bq_r (bq_r (bq_r (bq_r (bq_r (bq_r (gn g) (204 + 9 * gn g 2 + 0) (gn g 0 + d)) (204 + 9 * gn g 2 + 1) l) (204 + 9 * gn g 2 + 2) a) (204 + 9 * gn g 2 + 3) b) (204 + 9 * gn g 2 + 4) 0) 2 (gn g 2 + 1) = N'
  have e : ∀ k, k ≠ 2 → (k < 204 + 9 * gn g 2 ∨ 208 + 9 * gn g 2 < k) → N' k = gn g k := fun k k2 hk => by
    rw [← hN, bq_r_ne k2, bq_r_ne (by omega), bq_r_ne (by omega), bq_r_ne (by omega), bq_r_ne (by omega), bq_r_ne (by omega)]
  have e2 : N' 2 = gn g 2 + 1 := by rw [← hN, bq_r_self]
  have c0 : N' (204 + 9 * gn g 2) = gn g 0 + d := by
    rw [← hN, bq_r_ne (by omega), bq_r_ne (by omega), bq_r_ne (by omega), bq_r_ne (by omega), bq_r_ne (by omega)]; exact bq_r_self
  have c1 : N' (205 + 9 * gn g 2) = l := by
    rw [← hN, bq_r_ne (by omega), bq_r_ne (by omega), bq_r_ne (by omega), bq_r_ne (by omega), show 205 + 9 * gn g 2 = 204 + 9 * gn g 2 + 1 by omega, bq_r_self]
  have c2 : N' (206 + 9 * gn g 2) = a := by
    rw [← hN, bq_r_ne (by omega), bq_r_ne (by omega), bq_r_ne (by omega), show 206 + 9 * gn g 2 = 204 + 9 * gn g 2 + 2 by omega, bq_r_self]
  have c3 : N' (207 + 9 * gn g 2) = b := by
    rw [← hN, bq_r_ne (by omega), bq_r_ne (by omega), show 207 + 9 * gn g 2 = 204 + 9 * gn g 2 + 3 by omega, bq_r_self]
  have c4 : N' (208 + 9 * gn g 2) = 0 := by
    rw [← hN, bq_r_ne (by omega), show 208 + 9 * gn g 2 = 204 + 9 * gn g 2 + 4 by omega, bq_r_self]
  unfold x_order
  refine GK.of (N := N') (by rw [← hN]; exact (((((hR.r hg0 (show gn g 0 + d < 2 ^ 31 by omega)).r rfl (show l < 2 ^ 31 by omega)).r rfl (show a < 2 ^ 31 by omega)).r rfl (show b < 2 ^ 31 by omega)).r rfl (show 0 < 2 ^ 31 by omega)).r rfl (show gn g 2 + 1 < 2 ^ 31 by omega)) (hC.mk ⟨by rw [e 0 (by omega) (by omega)]; exact d0, e 1 (by omega) (by omega), by omega, by rw [e 3 (by omega) (by omega)]; exact d3, by rw [e 4 (by omega) (by omega)]; exact d4, by rw [e 5 (by omega) (by omega)]; exact d5⟩ (fun q hq => (hC.2.1 q hq).e (fun k _ _ => e k (by omega) (by omega))) (fun k _ _ _ => e k (by omega) (by omega)) (fun k _ _ => e k (by omega) (by omega)) (fun o ho => ?_) (fun r hr => by rw [e _ (by omega) (by omega)]; exact hC.2.2.2.2.1 r hr) (fun r hr => by rw [e _ (by omega) (by omega), e 5 (by omega) (by omega)]; exact hC.2.2.2.2.2 r hr)) (by rw [bq_r_ne (by omega), bq_r_ne (by omega), bq_r_ne (by omega), bq_r_ne (by omega), bq_r_ne (by omega), bq_r_ne (by omega)]; exact h6)
  obtain ⟨o1, o2, o3, o4, o5, o6, o7, o8, o9⟩ := hC.2.2.2.1 o ho
  by_cases c : o = gn g 2
  · subst c
    unfold GO
    rw [c0, c1, c2, c3, c4, e2, e _ (by omega) (by omega), e (212 + 9 * gn g 2) (by omega) (by omega)]
    exact ⟨hl2, fun _ => hl1, ha, hb, by omega, by omega, o7, o8, fun _ => rfl⟩
  · unfold GO
    rw [e2, e _ (by omega) (by omega), e (206 + 9 * o) (by omega) (by omega), e (207 + 9 * o) (by omega) (by omega), e (204 + 9 * o) (by omega) (by omega), e (208 + 9 * o) (by omega) (by omega), e (209 + 9 * o) (by omega) (by omega), e (212 + 9 * o) (by omega) (by omega)]
    exact ⟨o1, fun q => o2 (by omega), o3, o4, o5, o6, o7, o8, fun q => o9 (by omega)⟩
theorem gk_drop {g : BqG} {en o : Nat} (h : GK g en) (ho : o < gn g 2) : GK (x_drop g o) en := by
  obtain ⟨hR, hC, h6⟩ := h
  obtain ⟨d0, d1, d2, d3, d4, d5⟩ := hC.1
  unfold x_drop
  refine GK.of (hR.r (w := 2) rfl (by omega)) (hC.mk ⟨by rw [bq_r_ne (by omega)]; exact d0, bq_r_ne (by omega), by rw [bq_r_ne (by omega)]; exact d2, by rw [bq_r_ne (by omega)]; exact d3, by rw [bq_r_ne (by omega)]; exact d4, by rw [bq_r_ne (by omega)]; exact d5⟩ (fun q hq => (hC.2.1 q hq).e (fun k _ _ => bq_r_ne (by omega))) (fun k _ _ _ => bq_r_ne (by omega)) (fun k _ _ => bq_r_ne (by omega)) (fun q hq => ?_) (fun r hr => by rw [bq_r_ne (by omega)]; exact hC.2.2.2.2.1 r hr) (fun r hr => by rw [bq_r_ne (by omega), bq_r_ne (by omega)]; exact hC.2.2.2.2.2 r hr)) (by rw [bq_r_ne (by omega)]; exact h6)
  by_cases c : q = o
  · subst c
    obtain ⟨o1, o2, o3, o4, o5, o6, o7, o8, o9⟩ := hC.2.2.2.1 q hq
    unfold GO
    have e : ∀ k, k ≠ 204 + 9 * q + 4 → bq_r (gn g) (204 + 9 * q + 4) 2 k = gn g k := fun k hk => bq_r_ne hk
    rw [e 2 (by omega), e (205 + 9 * q) (by omega), e (206 + 9 * q) (by omega), e (207 + 9 * q) (by omega), e (204 + 9 * q) (by omega), e (209 + 9 * q) (by omega), e (212 + 9 * q) (by omega), show 208 + 9 * q = 204 + 9 * q + 4 by omega, bq_r_self]
    exact ⟨o1, o2, o3, o4, o5, by omega, o7, o8, fun z => by omega⟩
  · exact (hC.2.2.2.1 q hq).e (fun k _ _ => bq_r_ne (by omega)) (bq_r_ne (by omega))
theorem gk_corr {g : BqG} {en : Nat} (h : GK g en) : GK (x_corr g) en := by
  obtain ⟨d, p, hd, hp, -, -, e3⟩ := due_n h.gi
  obtain ⟨hR, hC, h6⟩ := h
  refine GK.of (N := gn g) (fun k hk k6 => ?_) hC ?_
  · unfold x_corr; rw [bq_r_ne k6]; exact hR k hk k6
  · unfold x_corr; rw [bq_r_self, e3]; omega
theorem gk_scrub {g : BqG} {en t : Nat} (h : GK g en) (ht : t < 6) (h2 : gn g (11 + 19 * t) = 2) : GK (bq_r (bq_r g (11 + 19 * t) (nI 3)) (12 + 19 * t) (nI (gn g 0 + 2))) en := by
  obtain ⟨hR, hC, h6⟩ := h
  obtain ⟨d0, d1, d2, d3, d4, d5⟩ := hC.1
  have e : ∀ k, k ≠ 11 + 19 * t → k ≠ 12 + 19 * t → bq_r (bq_r (gn g) (11 + 19 * t) 3) (12 + 19 * t) (gn g 0 + 2) k = gn g k := fun k q1 q2 => by rw [bq_r_ne q2, bq_r_ne q1]
  refine GK.of ((hR.r (w := 3) rfl (by omega)).r (w := gn g 0 + 2) rfl (by omega)) (hC.mk ⟨by rw [e 0 (by omega) (by omega)]; exact d0, e 1 (by omega) (by omega), by rw [e 2 (by omega) (by omega)]; exact d2, by rw [e 3 (by omega) (by omega)]; exact d3, by rw [e 4 (by omega) (by omega)]; exact d4, by rw [e 5 (by omega) (by omega)]; exact d5⟩ (fun q hq => ?_) (fun k _ _ _ => e k (by omega) (by omega)) (fun k _ _ => e k (by omega) (by omega)) (fun o ho => (hC.2.2.2.1 o ho).e (fun k _ _ => e k (by omega) (by omega)) (e 2 (by omega) (by omega))) (fun r hr => by rw [e _ (by omega) (by omega)]; exact hC.2.2.2.2.1 r hr) (fun r hr => by rw [e _ (by omega) (by omega), e 5 (by omega) (by omega)]; exact hC.2.2.2.2.2 r hr)) (by rw [bq_r_ne (by omega), bq_r_ne (by omega)]; exact h6)
  by_cases c : q = t
  · subst c
    obtain ⟨a1, a2, a3, a4, a5, a6⟩ := hC.2.1 q hq
    have es : ts (bq_r (bq_r (gn g) (11 + 19 * q) 3) (12 + 19 * q) (gn g 0 + 2)) q = ts (gn g) q := ns_congr 16 (fun j hj => e _ (by omega) (by omega))
    unfold GT
    rw [es, bq_r_self, e (10 + 19 * q) (by omega) (by omega), bq_r_ne (show 11 + 19 * q ≠ 12 + 19 * q by omega), bq_r_self]
    refine ⟨a1, a2, by omega, by omega, a5, ?_⟩
    have : ¬ 0 < ts (gn g) q := fun z => by have := a6.mpr z; omega
    exact ⟨fun z => absurd z (by omega), fun z => absurd z this⟩
  · exact (hC.2.1 q hq).e (fun k _ _ => e k (by omega) (by omega))
def npass (N : Nat → Nat) (d i : Nat) : Nat → Nat := fun k => if k = 0 then N 0 + d else if k = 11 + 19 * ((k - 11) / 19) ∧ (k - 11) / 19 < i ∧ N k = 3 ∧ N (k + 1) ≤ N 0 + d then 0 else N k
theorem ps_N {g : BqG} {en d : Nat} (hG : GI g en) (hd : gn g 0 + d ≤ 9999) : ∀ i, i ≤ 6 → ∀ k, k < 650 → k ≠ 6 → (ps (x_day g d) i).2 k = nI (npass (gn g) d i k)
  | 0, _, k, hk, k6 => by
    show x_day g d k = _
    unfold x_day npass
    by_cases c : k = 0
    · subst c; rw [bq_r_self, if_pos rfl]
    · rw [bq_r_ne c, if_neg c, if_neg (by omega)]; exact hG.n hk k6
  | i + 1, hi, k, hk, k6 => by
    have ih := ps_N hG hd i (by omega) k hk k6
    have hd' : gn g 0 + d < 2 ^ 31 := by omega
    by_cases c : gn g (11 + 19 * i) = 3 ∧ gn g (12 + 19 * i) ≤ gn g 0 + d
    · rw [ps_yes hG hd' (by omega) c.1 c.2]
      show bq_r _ _ _ k = _
      by_cases e : k = 11 + 19 * i
      · subst e
        rw [bq_r_self]
        unfold npass
        rw [if_neg (by omega), if_pos ⟨by omega, by omega, c.1, by rw [show 11 + 19 * i + 1 = 12 + 19 * i by omega]; exact c.2⟩]
      · rw [bq_r_ne e, ih]
        unfold npass
        by_cases z : k = 0
        · rw [if_pos z, if_pos z]
        · rw [if_neg z, if_neg z]
          by_cases w : k = 11 + 19 * ((k - 11) / 19) ∧ (k - 11) / 19 < i ∧ gn g k = 3 ∧ gn g (k + 1) ≤ gn g 0 + d
          · rw [if_pos w, if_pos ⟨w.1, by omega, w.2.2⟩]
          · rw [if_neg w, if_neg (fun u => w ⟨u.1, by omega, u.2.2⟩)]
    · rw [ps_no hG hd' (by omega) c, ih]
      unfold npass
      by_cases z : k = 0
      · rw [if_pos z, if_pos z]
      · rw [if_neg z, if_neg z]
        by_cases w : k = 11 + 19 * ((k - 11) / 19) ∧ (k - 11) / 19 < i ∧ gn g k = 3 ∧ gn g (k + 1) ≤ gn g 0 + d
        · rw [if_pos w, if_pos ⟨w.1, by omega, w.2.2⟩]
        · rw [if_neg w, if_neg (fun u => w ⟨u.1, ?_, u.2.2⟩)]
          rcases Nat.lt_or_ge ((k - 11) / 19) i with q | q
          · exact q
          · exfalso
            have e : k = 11 + 19 * i := by omega
            exact c ⟨by rw [← e]; exact u.2.2.1, by rw [show 12 + 19 * i = k + 1 by omega]; exact u.2.2.2⟩
theorem npass_e {N : Nat → Nat} {d k : Nat} (h0 : k ≠ 0) (h : k < 11 ∨ 124 ≤ k ∨ k ≠ 11 + 19 * ((k - 11) / 19)) : npass N d 6 k = N k := by
  unfold npass
  rw [if_neg h0, if_neg (by omega)]
theorem gk_pass {g : BqG} {en d : Nat} (h : GK g en) (hd : gn g 0 + d ≤ 9999) : GK (ps (x_day g d) 6).2 en := by
  have hP := ps_N h.gi hd 6 (Nat.le_refl 6)
  have h66 : (ps (x_day g d) 6).2 6 = g 6 := by rw [ps_ne 6 (Or.inl (by omega))]; exact bq_r_ne (by omega)
  obtain ⟨hR, hC, h6⟩ := h
  obtain ⟨d0, d1, d2, d3, d4, d5⟩ := hC.1
  have e : ∀ k, k ≠ 0 → (k < 11 ∨ 124 ≤ k ∨ k ≠ 11 + 19 * ((k - 11) / 19)) → npass (gn g) d 6 k = gn g k := fun k q1 q2 => npass_e q1 q2
  refine GK.of (N := npass (gn g) d 6) (fun k hk k6 => ⟨hP k hk k6, ?_⟩) (hC.mk ⟨hd, e 1 (by omega) (by omega), by rw [e 2 (by omega) (by omega)]; exact d2, by rw [e 3 (by omega) (by omega)]; exact d3, by rw [e 4 (by omega) (by omega)]; exact d4, by rw [e 5 (by omega) (by omega)]; exact d5⟩ (fun q hq => ?_) (fun k _ _ _ => e k (by omega) (by omega)) (fun k _ _ => e k (by omega) (by omega)) (fun o ho => (hC.2.2.2.1 o ho).e (fun k _ _ => e k (by omega) (by omega)) (e 2 (by omega) (by omega))) (fun r hr => by rw [e _ (by omega) (by omega)]; exact hC.2.2.2.2.1 r hr) (fun r hr => by rw [e _ (by omega) (by omega), e 5 (by omega) (by omega)]; exact hC.2.2.2.2.2 r hr)) (by rw [h66]; exact h6)
  · unfold npass
    split
    · omega
    · split
      · omega
      · exact (hR k hk k6).2
  · obtain ⟨a1, a2, a3, a4, a5, a6⟩ := hC.2.1 q hq
    have es : ts (npass (gn g) d 6) q = ts (gn g) q := ns_congr 16 (fun j hj => e _ (by omega) (by omega))
    unfold GT
    rw [es, e (10 + 19 * q) (by omega) (by omega), e (12 + 19 * q) (by omega) (by omega)]
    by_cases c : gn g (11 + 19 * q) = 3 ∧ gn g (12 + 19 * q) ≤ gn g 0 + d
    · have e0 : npass (gn g) d 6 (11 + 19 * q) = 0 := by
        unfold npass
        rw [if_neg (by omega), if_pos ⟨by omega, by omega, c.1, by rw [show 11 + 19 * q + 1 = 12 + 19 * q by omega]; exact c.2⟩]
      rw [e0]
      refine ⟨a1, a2, by omega, a4, a5, fun z => absurd z (by omega), fun z => ?_⟩
      have := a6.mpr z
      omega
    · have e0 : npass (gn g) d 6 (11 + 19 * q) = gn g (11 + 19 * q) := by
        unfold npass
        rw [if_neg (by omega), if_neg (fun u => c ⟨u.2.2.1, by rw [show 12 + 19 * q = 11 + 19 * q + 1 by omega]; exact u.2.2.2⟩)]
      rw [e0]
      exact ⟨a1, a2, a3, a4, a5, a6⟩
