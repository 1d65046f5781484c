/-! the moves keep it -/
def n_sub (N : Nat → Nat) (t : Nat) (T : Nat → Nat) : Nat → Nat := fun k => if 13 + 19 * t ≤ k ∧ k < 29 + 19 * t then N k - T (k - (13 + 19 * t)) else N k
def n_add (N : Nat → Nat) (t : Nat) (T : Nat → Nat) : Nat → Nat := fun k => if 13 + 19 * t ≤ k ∧ k < 29 + 19 * t then N k + T (k - (13 + 19 * t)) else N k
def n_badd (N : Nat → Nat) (i : Nat) (T : Nat → Nat) : Nat → Nat := fun k => if 124 ≤ k ∧ k < 204 ∧ (k - 124) % 5 = i then N k + T ((k - 124) / 5) else N k
def n_out (N : Nat → Nat) (t : Nat) (T : Nat → Nat) : Nat → Nat := if ts (n_sub N t T) t = 0 then bq_r (n_sub N t T) (11 + 19 * t) 2 else n_sub N t T
def n_in (N : Nat → Nat) (t : Nat) (T : Nat → Nat) : Nat → Nat := bq_r (n_add N t T) (11 + 19 * t) 1
def n_ent (N : Nat → Nat) (m : Nat) (k t l : Nat) : Nat → Nat := if m < 80 then bq_r (bq_r (bq_r (bq_r N (330 + 4 * m) (N 0)) (330 + 4 * m + 1) k) (330 + 4 * m + 2) t) (330 + 4 * m + 3) l else N
def n_note (N : Nat → Nat) (m : Nat) (k t l : Nat) : Nat → Nat := bq_r (n_ent N m k t l) 5 (N 5 + 1)
theorem n_sub_ne {N T : Nat → Nat} {t k : Nat} (h : k < 13 + 19 * t ∨ 29 + 19 * t ≤ k) : n_sub N t T k = N k := by unfold n_sub; rw [if_neg (by omega)]
theorem n_add_ne {N T : Nat → Nat} {t k : Nat} (h : k < 13 + 19 * t ∨ 29 + 19 * t ≤ k) : n_add N t T k = N k := by unfold n_add; rw [if_neg (by omega)]
theorem n_sub_p {N T : Nat → Nat} {t b : Nat} (h : b < 16) : n_sub N t T (13 + 19 * t + b) = N (13 + 19 * t + b) - T b := by
  unfold n_sub; rw [if_pos (by omega), Nat.add_sub_cancel_left]
theorem n_add_p {N T : Nat → Nat} {t b : Nat} (h : b < 16) : n_add N t T (13 + 19 * t + b) = N (13 + 19 * t + b) + T b := by
  unfold n_add; rw [if_pos (by omega), Nat.add_sub_cancel_left]
theorem n_badd_ne {N T : Nat → Nat} {i k : Nat} (h : k < 124 ∨ 204 ≤ k ∨ (k - 124) % 5 ≠ i) : n_badd N i T k = N k := by unfold n_badd; rw [if_neg (by omega)]
theorem n_badd_p {N T : Nat → Nat} {i b : Nat} (hi : i < 5) (h : b < 16) : n_badd N i T (124 + 5 * b + i) = N (124 + 5 * b + i) + T b := by
  unfold n_badd; rw [if_pos (by omega), show (124 + 5 * b + i - 124) / 5 = b by omega]
theorem n_out_ne {N T : Nat → Nat} {t k : Nat} (h : k < 13 + 19 * t ∨ 29 + 19 * t ≤ k) (h1 : k ≠ 11 + 19 * t) : n_out N t T k = N k := by
  unfold n_out; split
  · rw [bq_r_ne h1, n_sub_ne h]
  · exact n_sub_ne h
theorem n_out_p {N T : Nat → Nat} {t b : Nat} (h : b < 16) : n_out N t T (13 + 19 * t + b) = N (13 + 19 * t + b) - T b := by
  unfold n_out; split
  · rw [bq_r_ne (by omega), n_sub_p h]
  · exact n_sub_p h
theorem n_in_ne {N T : Nat → Nat} {t k : Nat} (h : k < 13 + 19 * t ∨ 29 + 19 * t ≤ k) (h1 : k ≠ 11 + 19 * t) : n_in N t T k = N k := by
  unfold n_in; rw [bq_r_ne h1, n_add_ne h]
theorem n_in_p {N T : Nat → Nat} {t b : Nat} (h : b < 16) : n_in N t T (13 + 19 * t + b) = N (13 + 19 * t + b) + T b := by
  unfold n_in; rw [bq_r_ne (by omega), n_add_p h]
theorem n_in_1 {N T : Nat → Nat} {t : Nat} : n_in N t T (11 + 19 * t) = 1 := by unfold n_in; exact bq_r_self
theorem n_note_ne {N : Nat → Nat} {m k t l j : Nat} (h : j < 330) (h5 : j ≠ 5) : n_note N m k t l j = N j := by
  unfold n_note
  rw [bq_r_ne h5]
  unfold n_ent; split
  · rw [bq_r_ne (by omega), bq_r_ne (by omega), bq_r_ne (by omega), bq_r_ne (by omega)]
  · rfl
theorem n_note_5 {N : Nat → Nat} {m k t l : Nat} : n_note N m k t l 5 = N 5 + 1 := by unfold n_note; exact bq_r_self
theorem ts_sub {N T : Nat → Nat} {t : Nat} (h : ∀ j, j < 16 → T j ≤ N (13 + 19 * t + j)) : ts (n_sub N t T) t = ts N t - ns T 16 ∧ ns T 16 ≤ ts N t := by
  have e : ts (n_sub N t T) t = ns (fun j => N (13 + 19 * t + j) - T j) 16 := ns_congr 16 (fun j hj => n_sub_p hj)
  rw [e]
  exact ns_sub (F := fun j => N (13 + 19 * t + j)) (G := T) 16 h
theorem ts_out {N T : Nat → Nat} {t : Nat} (h : ∀ j, j < 16 → T j ≤ N (13 + 19 * t + j)) : ts (n_out N t T) t = ts N t - ns T 16 := by
  have e : ts (n_out N t T) t = ns (fun j => N (13 + 19 * t + j) - T j) 16 := ns_congr 16 (fun j hj => n_out_p hj)
  rw [e]
  exact (ns_sub (F := fun j => N (13 + 19 * t + j)) (G := T) 16 h).1
theorem ts_in {N T : Nat → Nat} {t : Nat} : ts (n_in N t T) t = ts N t + ns T 16 := by
  have e : ts (n_in N t T) t = ns (fun j => N (13 + 19 * t + j) + T j) 16 := ns_congr 16 (fun j hj => n_in_p hj)
  rw [e]
  exact ns_add (fun j => N (13 + 19 * t + j)) T 16
theorem bs_upd {N N' : Nat → Nat} {t b v : Nat} (ht : t < 6) (e : ∀ q, q < 6 → q ≠ t → N' (13 + 19 * q + b) = N (13 + 19 * q + b)) (ev : N' (13 + 19 * t + b) = v) : bs N' b + N (13 + 19 * t + b) = bs N b + v := by
  have h1 : bs N' b = ns (bq_r (fun q => N (13 + 19 * q + b)) t v) 6 := ns_congr 6 (fun q hq => by
    by_cases c : q = t
    · subst c; rw [bq_r_self]; exact ev
    · rw [bq_r_ne c]; exact e q hq c)
  have h2 := ns_upd (F := fun q => N (13 + 19 * q + b)) (c := t) (v := v) 6
  rw [if_pos ht, if_pos ht] at h2
  rw [h1]
  exact h2
theorem bs_ge {N : Nat → Nat} {t b : Nat} (ht : t < 6) : N (13 + 19 * t + b) ≤ bs N b := ns_ge (F := fun q => N (13 + 19 * q + b)) 6 ht
theorem Rw.p {g : BqG} {N : Nat → Nat} (h : Rw g N) {t j : Nat} (ht : t < 6) (hj : j < 16) : g (13 + 19 * t + j) = nI (N (13 + 19 * t + j)) ∧ N (13 + 19 * t + j) < 2 ^ 31 := h _ (by omega) (by omega)
theorem Rw.sub {g : BqG} {N T : Nat → Nat} {U : Nat → Int32} {t : Nat} (h : Rw g N) (hU : ∀ j, j < 16 → U j = nI (T j)) (hT : ∀ j, j < 16 → T j ≤ N (13 + 19 * t + j)) : Rw (g_sub g t U) (n_sub N t T) := fun k hk k6 => by
  unfold g_sub n_sub
  by_cases c : 13 + 19 * t ≤ k ∧ k < 29 + 19 * t
  · obtain ⟨a, b⟩ := h k hk k6
    have := hT (k - (13 + 19 * t)) (by omega)
    rw [show 13 + 19 * t + (k - (13 + 19 * t)) = k by omega] at this
    rw [if_pos c, if_pos c, a, hU _ (by omega), pk_sub this]
    exact ⟨rfl, by omega⟩
  · rw [if_neg c, if_neg c]; exact h k hk k6
theorem Rw.add {g : BqG} {N T : Nat → Nat} {U : Nat → Int32} {t : Nat} (h : Rw g N) (hU : ∀ j, j < 16 → U j = nI (T j)) (hT : ∀ j, j < 16 → N (13 + 19 * t + j) + T j < 2 ^ 31) : Rw (g_add g t U) (n_add N t T) := fun k hk k6 => by
  unfold g_add n_add
  by_cases c : 13 + 19 * t ≤ k ∧ k < 29 + 19 * t
  · obtain ⟨a, b⟩ := h k hk k6
    have := hT (k - (13 + 19 * t)) (by omega)
    rw [show 13 + 19 * t + (k - (13 + 19 * t)) = k by omega] at this
    rw [if_pos c, if_pos c, a, hU _ (by omega), nI_add]
    exact ⟨rfl, this⟩
  · rw [if_neg c, if_neg c]; exact h k hk k6
theorem Rw.badd {g : BqG} {N T : Nat → Nat} {U : Nat → Int32} {i : Nat} (hi : i < 5) (h : Rw g N) (hU : ∀ j, j < 16 → U j = nI (T j)) (hT : ∀ j, j < 16 → N (124 + 5 * j + i) + T j < 2 ^ 31) : Rw (g_badd g i U) (n_badd N i T) := fun k hk k6 => by
  unfold g_badd n_badd
  by_cases c : 124 ≤ k ∧ k < 204 ∧ (k - 124) % 5 = i
  · obtain ⟨a, b⟩ := h k hk k6
    have := hT ((k - 124) / 5) (by omega)
    rw [show 124 + 5 * ((k - 124) / 5) + i = k by omega] at this
    rw [if_pos c, if_pos c, a, hU _ (by omega), nI_add]
    exact ⟨rfl, this⟩
  · rw [if_neg c, if_neg c]; exact h k hk k6
theorem Rw.tot {g : BqG} {N : Nat → Nat} {t : Nat} (h : Rw g N) (ht : t < 6) : g_tot g t = nI (ts N t) := bq_sum_n (F := fun b => N (13 + 19 * t + b)) 16 (fun j hj => (h.p ht hj).1)
theorem Rw.out {g : BqG} {N T : Nat → Nat} {U : Nat → Int32} {t : Nat} (h : Rw g N) (ht : t < 6) (hU : ∀ j, j < 16 → U j = nI (T j)) (hT : ∀ j, j < 16 → T j ≤ N (13 + 19 * t + j)) (hb : ts N t < 2 ^ 31) : Rw (g_out g t U) (n_out N t T) := by
  have hs := h.sub hU hT
  have he := hs.tot ht
  have hl := (ts_sub hT).1
  unfold g_out n_out
  rw [he]
  by_cases c : ts (n_sub N t T) t = 0
  · rw [if_pos c, if_pos (by rw [c]; decide)]; exact hs.r rfl (by omega)
  · rw [if_neg c, if_neg (nI_ne0 (Nat.pos_of_ne_zero c) (by omega))]; exact hs
theorem Rw.in {g : BqG} {N T : Nat → Nat} {U : Nat → Int32} {t : Nat} (h : Rw g N) (hU : ∀ j, j < 16 → U j = nI (T j)) (hT : ∀ j, j < 16 → N (13 + 19 * t + j) + T j < 2 ^ 31) : Rw (g_in g t U) (n_in N t T) := (h.add hU hT).r rfl (by omega)
theorem Rw.note {g : BqG} {N : Nat → Nat} {m k t l : Nat} (h : Rw g N) (hk : k < 2 ^ 31) (ht : t < 2 ^ 31) (hl : l < 2 ^ 31) (h5 : N 5 + 1 < 2 ^ 31) : Rw (g_note g m (nI k) (nI t) (nI l)) (n_note N m k t l) := by
  unfold g_note n_note
  have h0 := h 0 (by omega) (by omega)
  refine Rw.r ?_ (by rw [(h 5 (by omega) (by omega)).1, nI_add]) h5
  unfold g_ent n_ent
  by_cases c : m < 80
  · rw [if_pos c, if_pos c]; exact (((h.r h0.1 h0.2).r rfl hk).r rfl ht).r rfl hl
  · rw [if_neg c, if_neg c]; exact h
/-- a portion out of a tank -/
theorem gt_out {N T : Nat → Nat} {t : Nat} (h : GT N t) (hT : ∀ j, j < 16 → T j ≤ N (13 + 19 * t + j)) (hp : N (11 + 19 * t) = 1) : GT (n_out N t T) t := by
  obtain ⟨a1, a2, a3, a4, a5, a6⟩ := h
  have e := ts_out hT
  have e2 := (ts_sub hT).1
  have e3 : n_out N t T (11 + 19 * t) = if ts N t - ns T 16 = 0 then 2 else 1 := by
    unfold n_out
    rw [e2]
    split
    · exact bq_r_self
    · rw [n_sub_ne (by omega)]; exact hp
  unfold GT
  rw [e, e3, n_out_ne (by omega) (by omega), n_out_ne (by omega) (by omega)]
  refine ⟨a1, a2, ?_, a4, by omega, ?_⟩
  · split <;> omega
  · split
    · rename_i c; exact ⟨fun z => absurd z (by omega), fun z => absurd z (by omega)⟩
    · rename_i c; exact ⟨fun _ => Nat.pos_of_ne_zero c, fun _ => rfl⟩
theorem gt_in {N T : Nat → Nat} {t : Nat} (h : GT N t) (hc : ts N t + ns T 16 ≤ N (10 + 19 * t)) (hp : 0 < ns T 16) : GT (n_in N t T) t := by
  obtain ⟨a1, a2, a3, a4, a5, a6⟩ := h
  unfold GT
  rw [ts_in, n_in_1, n_in_ne (by omega) (by omega), n_in_ne (by omega) (by omega)]
  exact ⟨a1, a2, by omega, a4, hc, fun _ => by omega, fun _ => rfl⟩
/-- what a portion of a tank of the row is -/
theorem tk_in {g : BqG} {en t l : Nat} (h : GK g en) (ht : t < 6) (hl : l ≤ gt g t) (hp : 0 < gt g t) : (∀ j, j < 16 → npt (gp g t) l j ≤ gn g (13 + 19 * t + j)) ∧ ns (npt (gp g t) l) 16 = l ∧ gt g t ≤ 9999 := by
  obtain ⟨a, b⟩ := npt_in (F := gp g t) hl hp
  obtain ⟨a1, a2, a3, a4, a5, a6⟩ := h.2.1.2.1 t ht
  have : gt g t ≤ gn g (10 + 19 * t) := a5
  exact ⟨fun j hj => (a j hj).2.1, b, by omega⟩
theorem gk_spill {g : BqG} {en t l r : Nat} (h : GK g en) (hen : en < 200000) (ht : t < 6) (h1 : 1 ≤ l) (hl : l ≤ gt g t) (hp : gn g (11 + 19 * t) = 1) (hr : r < 4) : GK (x_spill g t l r) (en + 1) := by
  obtain ⟨hT, hsum, hgt⟩ := tk_in h ht hl (by omega)
  obtain ⟨hR, hC, h6⟩ := h
  obtain ⟨d0, d1, d2, d3, d4, d5⟩ := hC.1
  generalize hTT : npt (gp g t) l = T at hT hsum
  have hU : ∀ j, j < 16 → tk g t l j = nI (T j) := fun j hj => by rw [← hTT]; rfl
  have hLr := hC.2.2.2.2.2 r hr
  have hB3 : ∀ j, j < 16 → n_out (gn g) t T (124 + 5 * j + 3) + T j < 2 ^ 31 := fun j hj => by
    obtain ⟨b1, b2, b3, b4⟩ := hC.2.2.1 j hj
    have := hT j hj
    have := bs_ge (N := gn g) (b := j) ht
    rw [n_out_ne (by omega) (by omega), show 124 + 5 * j + 3 = 127 + 5 * j by omega]
    omega
  have R1 := (hR.out ht hU hT (show ts (gn g) t < 2 ^ 31 from by have : ts (gn g) t = gt g t := rfl; omega)).badd (i := 3) (by decide) hU hB3
  have e324 : g_badd (g_out g t (tk g t l)) 3 (tk g t l) (324 + r) = nI (gn g (324 + r)) := by
    rw [g_badd_ne (Or.inr (by omega)), g_out_ne (by omega) (by omega)]; exact (hR _ (by omega) (by omega)).1
  have eL : g_out g t (tk g t l) (324 + r) + nI l = nI (gn g (324 + r) + l) := by
    rw [g_out_ne (by omega) (by omega), (hR _ (by omega) (by omega)).1, nI_add]
  have R2 := R1.r (k := 324 + r) (v := g_out g t (tk g t l) (324 + r) + nI l) (w := gn g (324 + r) + l) eL (by omega)
  have e5 : bq_r (n_badd (n_out (gn g) t T) 3 T) (324 + r) (gn g (324 + r) + l) 5 = gn g 5 := by rw [bq_r_ne (by omega), n_badd_ne (by omega), n_out_ne (by omega) (by omega)]
  have R3 := R2.note (m := gn g 5) (k := 3) (t := t) (l := l) (by omega) (by omega) (by omega) (by rw [e5]; omega)
  generalize hN : n_note (bq_r (n_badd (n_out (gn g) t T) 3 T) (324 + r) (gn g (324 + r) + l)) (gn g 5) 3 t l = N' at R3
  have f5 : N' 5 = gn g 5 + 1 := by rw [← hN, n_note_5, e5]
  have fo : ∀ k, k < 330 → k ≠ 5 → k ≠ 324 + r → (k < 124 ∨ 204 ≤ k ∨ (k - 124) % 5 ≠ 3) → N' k = n_out (gn g) t T k := fun k q1 q2 q3 q4 => by rw [← hN, n_note_ne q1 q2, bq_r_ne q3, n_badd_ne q4]
  have fe : ∀ k, k < 330 → k ≠ 5 → k ≠ 324 + r → (k < 124 ∨ 204 ≤ k ∨ (k - 124) % 5 ≠ 3) → (k < 13 + 19 * t ∨ 29 + 19 * t ≤ k) → k ≠ 11 + 19 * t → N' k = gn g k := fun k q1 q2 q3 q4 q5 q6 => by rw [fo k q1 q2 q3 q4, n_out_ne q5 q6]
  have f3 : ∀ b, b < 16 → N' (127 + 5 * b) = gn g (127 + 5 * b) + T b := fun b hb => by
    rw [← hN, n_note_ne (by omega) (by omega), bq_r_ne (by omega), show 127 + 5 * b = 124 + 5 * b + 3 by omega, n_badd_p (by decide) hb, n_out_ne (by omega) (by omega)]
  have fL : N' (324 + r) = gn g (324 + r) + l := by rw [← hN, n_note_ne (by omega) (by omega), bq_r_self]
  refine GK.of R3 ⟨⟨by rw [fe 0 (by omega) (by omega) (by omega) (by omega) (by omega) (by omega)]; exact d0, by rw [fe 1 (by omega) (by omega) (by omega) (by omega) (by omega) (by omega)]; exact d1, by rw [fe 2 (by omega) (by omega) (by omega) (by omega) (by omega) (by omega)]; exact d2, by rw [fe 3 (by omega) (by omega) (by omega) (by omega) (by omega) (by omega)]; exact d3, by rw [fe 4 (by omega) (by omega) (by omega) (by omega) (by omega) (by omega)]; exact d4, by omega⟩, fun q hq => ?_, fun b hb => ?_, fun o ho => (hC.2.2.2.1 o ho).e (fun k _ _ => fe k (by omega) (by omega) (by omega) (by omega) (by omega) (by omega)) (fe 2 (by omega) (by omega) (by omega) (by omega) (by omega) (by omega)), fun r' hr' => by rw [fe _ (by omega) (by omega) (by omega) (by omega) (by omega) (by omega)]; exact hC.2.2.2.2.1 r' hr', fun r' hr' => ?_⟩ ?_
  · by_cases c : q = t
    · subst c
      exact (gt_out (hC.2.1 q hq) hT hp).e (fun k _ _ => fo k (by omega) (by omega) (by omega) (by omega))
    · exact (hC.2.1 q hq).e (fun k _ _ => fe k (by omega) (by omega) (by omega) (by omega) (by omega) (by omega))
  · obtain ⟨b1, b2, b3, b4⟩ := hC.2.2.1 b hb
    have hbs := bs_upd (N := gn g) (N' := N') (b := b) (v := gn g (13 + 19 * t + b) - T b) ht (fun q hq c => fe _ (by omega) (by omega) (by omega) (by omega) (by omega) (by omega)) (by rw [fo _ (by omega) (by omega) (by omega) (by omega), n_out_p hb])
    have hTb := hT b hb
    have hge := bs_ge (N := gn g) (b := b) ht
    unfold GB
    rw [fe (124 + 5 * b) (by omega) (by omega) (by omega) (by omega) (by omega) (by omega), fe (125 + 5 * b) (by omega) (by omega) (by omega) (by omega) (by omega) (by omega), fe (126 + 5 * b) (by omega) (by omega) (by omega) (by omega) (by omega) (by omega), f3 b hb, fe 1 (by omega) (by omega) (by omega) (by omega) (by omega) (by omega)]
    exact ⟨b1, by omega, b3, b4⟩
  · rw [f5]
    by_cases c : r' = r
    · subst c; rw [fL]; omega
    · rw [fe _ (by omega) (by omega) (by omega) (by omega) (by omega) (by omega)]
      have := hC.2.2.2.2.2 r' hr'
      omega
  · unfold x_spill
    rw [g_loss_ne (by omega) (by omega), g_out_ne (by omega) (by omega)]; exact h6
