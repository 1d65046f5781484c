/-! transfer, filling, brewing keep it -/
theorem gc_pour {N N' T T2 : Nat → Nat} {en f t l ls : Nat} (hC : GC N en) (hf : f < 6) (ht : t < 6) (hne : f ≠ t) (h1 : 1 ≤ l) (hls : ls < l) (hl9 : l ≤ 9999) (hT : ∀ j, j < 16 → T j ≤ N (13 + 19 * f + j)) (hsum : ns T 16 = l) (hT2 : ∀ j, j < 16 → T2 j ≤ T j) (hsum2 : ns T2 16 = ls) (hp : N (11 + 19 * f) = 1) (hroom : ts N t + (l - ls) ≤ N (10 + 19 * t))
    (e : ∀ k, k < 330 → k ≠ 5 → k ≠ 324 → (k < 124 ∨ 204 ≤ k ∨ (k - 124) % 5 ≠ 3) → (k < 13 + 19 * f ∨ 29 + 19 * f ≤ k) → k ≠ 11 + 19 * f → (k < 13 + 19 * t ∨ 29 + 19 * t ≤ k) → k ≠ 11 + 19 * t → N' k = N k)
    (ef : ∀ j, j < 16 → N' (13 + 19 * f + j) = N (13 + 19 * f + j) - T j) (ef1 : N' (11 + 19 * f) = n_out N f T (11 + 19 * f)) (et : ∀ j, j < 16 → N' (13 + 19 * t + j) = N (13 + 19 * t + j) + (T j - T2 j)) (et1 : N' (11 + 19 * t) = 1)
    (e3 : ∀ b, b < 16 → N' (127 + 5 * b) = N (127 + 5 * b) + T2 b) (eL : N' 324 = N 324 + ls) (e5 : N 5 + 1 ≤ N' 5) (e53 : N' 5 ≤ N 5 + 3) : GC N' (en + 3) := by
  obtain ⟨⟨d0, d1, d2, d3, d4, d5⟩, hGT, hGB, hGO, hGR, hGL⟩ := hC
  have hD : ns (fun j => T j - T2 j) 16 = l - ls := by rw [(ns_sub (F := T) (G := T2) 16 hT2).1, hsum, hsum2]
  refine ⟨⟨by rw [e 0 (by omega) (by omega) (by omega) (by omega) (by omega) (by omega) (by omega) (by omega)]; exact d0, by rw [e 1 (by omega) (by omega) (by omega) (by omega) (by omega) (by omega) (by omega) (by omega)]; exact d1, by rw [e 2 (by omega) (by omega) (by omega) (by omega) (by omega) (by omega) (by omega) (by omega)]; exact d2, by rw [e 3 (by omega) (by omega) (by omega) (by omega) (by omega) (by omega) (by omega) (by omega)]; exact d3, by rw [e 4 (by omega) (by omega) (by omega) (by omega) (by omega) (by omega) (by omega) (by omega)]; exact d4, by omega⟩, fun q hq => ?_, fun b hb => ?_, fun o ho => (hGO o ho).e (fun k _ _ => e k (by omega) (by omega) (by omega) (by omega) (by omega) (by omega) (by omega) (by omega)) (e 2 (by omega) (by omega) (by omega) (by omega) (by omega) (by omega) (by omega) (by omega)), fun r hr => by rw [e _ (by omega) (by omega) (by omega) (by omega) (by omega) (by omega) (by omega) (by omega)]; exact hGR r hr, fun r hr => ?_⟩
  · by_cases c : q = f
    · subst c
      refine (gt_out (hGT q hq) hT hp).e (fun k k1 k2 => ?_)
      by_cases c1 : k = 11 + 19 * q
      · rw [c1]; exact ef1
      · by_cases c2 : 13 + 19 * q ≤ k
        · obtain ⟨j, rfl⟩ : ∃ j, k = 13 + 19 * q + j := ⟨k - (13 + 19 * q), by omega⟩
          rw [ef j (by omega), n_out_p (by omega)]
        · rw [n_out_ne (by omega) c1]; exact e k (by omega) (by omega) (by omega) (by omega) (by omega) c1 (by omega) (by omega)
    · by_cases c2 : q = t
      · subst c2
        refine (gt_in (T := fun j => T j - T2 j) (hGT q hq) (by rw [hD]; exact hroom) (by rw [hD]; omega)).e (fun k k1 k2 => ?_)
        by_cases c1 : k = 11 + 19 * q
        · rw [c1, et1, n_in_1]
        · by_cases c2 : 13 + 19 * q ≤ k
          · obtain ⟨j, rfl⟩ : ∃ j, k = 13 + 19 * q + j := ⟨k - (13 + 19 * q), by omega⟩
            rw [et j (by omega), n_in_p (by omega)]
          · rw [n_in_ne (by omega) c1]; exact e k (by omega) (by omega) (by omega) (by omega) (by omega) (by omega) (by omega) c1
      · exact (hGT q hq).e (fun k _ _ => e k (by omega) (by omega) (by omega) (by omega) (by omega) (by omega) (by omega) (by omega))
  · obtain ⟨b1, b2, b3, b4⟩ := hGB b hb
    have k1 := bs_upd (N := N) (N' := n_out N f T) (b := b) (v := N (13 + 19 * f + b) - T b) hf (fun q hq c => n_out_ne (by omega) (by omega)) (n_out_p hb)
    have k2 := bs_upd (N := n_out N f T) (N' := N') (b := b) (v := N (13 + 19 * t + b) + (T b - T2 b)) ht (fun q hq c => by
      by_cases c1 : q = f
      · subst c1; rw [ef b hb, n_out_p hb]
      · rw [n_out_ne (by omega) (by omega)]; exact e _ (by omega) (by omega) (by omega) (by omega) (by omega) (by omega) (by omega) (by omega)) (et b hb)
    rw [n_out_ne (k := 13 + 19 * t + b) (by omega) (by omega)] at k2
    have hTb := hT b hb
    have hT2b := hT2 b hb
    have hge := bs_ge (N := N) (b := b) hf
    unfold GB
    rw [e (124 + 5 * b) (by omega) (by omega) (by omega) (by omega) (by omega) (by omega) (by omega) (by omega), e (125 + 5 * b) (by omega) (by omega) (by omega) (by omega) (by omega) (by omega) (by omega) (by omega), e (126 + 5 * b) (by omega) (by omega) (by omega) (by omega) (by omega) (by omega) (by omega) (by omega), e3 b hb, e 1 (by omega) (by omega) (by omega) (by omega) (by omega) (by omega) (by omega) (by omega)]
    exact ⟨b1, by omega, b3, b4⟩
  · have := hGL r hr
    by_cases c : r = 0
    · subst c
      show N' 324 ≤ _
      have : N 324 ≤ 9999 * N 5 := hGL 0 hr
      omega
    · rw [e _ (by omega) (by omega) (by omega) (by omega) (by omega) (by omega) (by omega) (by omega)]
      omega
theorem gk_pour {g : BqG} {en f t l ls : Nat} (h : GK g en) (hen : en < 200000) (hf : f < 6) (ht : t < 6) (hne : f ≠ t) (h1 : 1 ≤ l) (hl : l ≤ gt g f) (hls : ls < l) (hp : gn g (11 + 19 * f) = 1) (hroom : gt g t + (l - ls) ≤ gn g (10 + 19 * t)) : GK (x_pour g f t l ls) (en + 3) := by
  obtain ⟨hT, hsum, hgt⟩ := tk_in h hf hl (by omega)
  obtain ⟨hR, hC, h6⟩ := h
  obtain ⟨d0, d1, d2, d3, d4, d5⟩ := hC.1
  have hP2 := npt_in (F := npt (gp g f) l) (l := ls) (by rw [hsum]; omega) (by rw [hsum]; omega)
  have hU2 : ∀ j, j < 16 → tk2 g f l ls j = nI (npt (npt (gp g f) l) ls j) := fun _ _ => rfl
  have hU : ∀ j, j < 16 → tk g f l j = nI (npt (gp g f) l j) := fun _ _ => rfl
  generalize hTT2 : npt (npt (gp g f) l) ls = T2 at hP2 hU2
  generalize hTT : npt (gp g f) l = T at hT hsum hP2 hU
  have hT2 : ∀ j, j < 16 → T2 j ≤ T j := fun j hj => (hP2.1 j hj).2.1
  have hTt : gt g t ≤ 9999 := by
    obtain ⟨a1, a2, a3, a4, a5, a6⟩ := hC.2.1 t ht
    have : gt g t ≤ gn g (10 + 19 * t) := a5
    omega
  have hTle : ∀ j, j < 16 → T j ≤ 9999 := fun j hj => by have := ns_ge (F := T) 16 hj; omega
  have hNt : ∀ j, j < 16 → gn g (13 + 19 * t + j) ≤ 9999 := fun j hj => by
    have : gp g t j ≤ gt g t := ns_ge (F := gp g t) 16 hj
    exact Nat.le_trans this hTt
  have R1 := (hR.out hf hU hT (show ts (gn g) f < 2 ^ 31 from by have : ts (gn g) f = gt g f := rfl; omega)).note (m := gn g 5) (k := 1) (t := f) (l := l) (by omega) (by omega) (by omega) (by rw [n_out_ne (by omega) (by omega)]; omega)
  have c324 := hC.2.2.2.2.2 0 (by decide)
  have c324' : gn g 324 ≤ 9999 * gn g 5 := c324
  by_cases hz : ls = 0
  · subst hz
    have hz2 : ∀ j, j < 16 → T2 j = 0 := fun j hj => by have := ns_ge (F := T2) 16 hj; have := hP2.2; omega
    have R2 := (R1.in (t := t) hU (fun j hj => by rw [n_note_ne (by omega) (by omega), n_out_ne (by omega) (by omega)]; have := hNt j hj; have := hTle j hj; omega)).note (m := gn g 5 + 1) (k := 2) (t := t) (l := l - 0) (by omega) (by omega) (by omega) (by rw [n_in_ne (by omega) (by omega), n_note_5, n_out_ne (by omega) (by omega)]; omega)
    generalize hN : n_note (n_in (n_note (n_out (gn g) f T) (gn g 5) 1 f l) t T) (gn g 5 + 1) 2 t (l - 0) = N' at R2
    have a1 : ∀ k, k < 330 → k ≠ 5 → (k < 13 + 19 * t ∨ 29 + 19 * t ≤ k) → k ≠ 11 + 19 * t → N' k = n_out (gn g) f T k := fun k q1 q2 q3 q4 => by rw [← hN, n_note_ne q1 q2, n_in_ne q3 q4, n_note_ne q1 q2]
    have a5 : N' 5 = gn g 5 + 2 := by rw [← hN, n_note_5, n_in_ne (by omega) (by omega), n_note_5, n_out_ne (by omega) (by omega)]
    have hx : x_pour g f t l 0 = g_note (g_in (x_pour1 g f l) t (tk g f l)) (gn g 5 + 1) (nI 2) (nI t) (nI (l - 0)) := if_pos rfl
    rw [hx]
    refine GK.of R2 (gc_pour (N := gn g) (T := T) (T2 := T2) hC hf ht hne h1 hls (by omega) hT hsum hT2 hP2.2 hp hroom (fun k q1 q2 q3 q4 q5 q6 q7 q8 => by rw [a1 k q1 q2 q7 q8, n_out_ne q5 q6]) (fun j hj => by rw [a1 _ (by omega) (by omega) (by omega) (by omega), n_out_p hj]) (a1 _ (by omega) (by omega) (by omega) (by omega)) (fun j hj => by rw [← hN, n_note_ne (by omega) (by omega), n_in_p hj, n_note_ne (by omega) (by omega), n_out_ne (by omega) (by omega), hz2 j hj, Nat.sub_zero]) (by rw [← hN, n_note_ne (by omega) (by omega), n_in_1]) (fun b hb => by rw [a1 _ (by omega) (by omega) (by omega) (by omega), n_out_ne (by omega) (by omega), hz2 b hb, Nat.add_zero]) (by rw [a1 _ (by omega) (by omega) (by omega) (by omega), n_out_ne (by omega) (by omega), Nat.add_zero]) (by omega) (by omega)) ?_
    rw [← hx, x_pour_hi (Or.inl rfl) hf ht]; exact h6
  · have hD : ∀ j, j < 16 → (fun j => tk g f l j - tk2 g f l ls j) j = nI (T j - T2 j) := fun j hj => by
      show tk g f l j - tk2 g f l ls j = _
      rw [hU j hj, hU2 j hj, pk_sub (hT2 j hj)]
    generalize hM : n_note (n_out (gn g) f T) (gn g 5) 1 f l = M at R1
    have m0 : ∀ k, k < 330 → k ≠ 5 → M k = n_out (gn g) f T k := fun k q1 q2 => by rw [← hM, n_note_ne q1 q2]
    have m5 : M 5 = gn g 5 + 1 := by rw [← hM, n_note_5, n_out_ne (by omega) (by omega)]
    have R2 := R1.badd (i := 3) (by decide) hU2 (fun j hj => by
      obtain ⟨b1, b2, b3, b4⟩ := hC.2.2.1 j hj
      have := hT2 j hj; have := hTle j hj
      rw [m0 _ (by omega) (by omega), n_out_ne (by omega) (by omega), show 124 + 5 * j + 3 = 127 + 5 * j by omega]
      omega)
    have eL : x_pour1 g f l 324 + nI ls = nI (gn g 324 + ls) := by
      unfold x_pour1
      rw [g_note_ne (by omega) (by omega), g_out_ne (by omega) (by omega), (hR 324 (by omega) (by omega)).1, nI_add]
    have R3 := (R2.r (k := 324 + 0) (v := x_pour1 g f l (324 + 0) + nI ls) (w := gn g 324 + ls) eL (by omega)).note (m := gn g 5 + 1) (k := 3) (t := f) (l := ls) (by omega) (by omega) (by omega) (by rw [bq_r_ne (by omega), n_badd_ne (by omega), m5]; omega)
    generalize hK : n_note (bq_r (n_badd M 3 T2) (324 + 0) (gn g 324 + ls)) (gn g 5 + 1) 3 f ls = K at R3
    have k0 : ∀ k, k < 330 → k ≠ 5 → k ≠ 324 → (k < 124 ∨ 204 ≤ k ∨ (k - 124) % 5 ≠ 3) → K k = n_out (gn g) f T k := fun k q1 q2 q3 q4 => by rw [← hK, n_note_ne q1 q2, bq_r_ne q3, n_badd_ne q4, m0 k q1 q2]
    have k5 : K 5 = gn g 5 + 2 := by rw [← hK, n_note_5, bq_r_ne (by omega), n_badd_ne (by omega), m5]
    have k3 : ∀ b, b < 16 → K (127 + 5 * b) = gn g (127 + 5 * b) + T2 b := fun b hb => by
      rw [← hK, n_note_ne (by omega) (by omega), bq_r_ne (by omega), show 127 + 5 * b = 124 + 5 * b + 3 by omega, n_badd_p (by decide) hb, m0 _ (by omega) (by omega), n_out_ne (by omega) (by omega)]
    have kL : K 324 = gn g 324 + ls := by rw [← hK, n_note_ne (by omega) (by omega)]; exact bq_r_self
    have R4 := (R3.in (t := t) hD (fun j hj => by rw [k0 _ (by omega) (by omega) (by omega) (by omega), n_out_ne (by omega) (by omega)]; have := hNt j hj; have := hTle j hj; omega)).note (m := gn g 5 + 2) (k := 2) (t := t) (l := l - ls) (by omega) (by omega) (by omega) (by rw [n_in_ne (by omega) (by omega), k5]; omega)
    generalize hN : n_note (n_in K t (fun j => T j - T2 j)) (gn g 5 + 2) 2 t (l - ls) = N' at R4
    have a1 : ∀ k, k < 330 → k ≠ 5 → (k < 13 + 19 * t ∨ 29 + 19 * t ≤ k) → k ≠ 11 + 19 * t → N' k = K k := fun k q1 q2 q3 q4 => by rw [← hN, n_note_ne q1 q2, n_in_ne q3 q4]
    have a5 : N' 5 = gn g 5 + 3 := by rw [← hN, n_note_5, n_in_ne (by omega) (by omega), k5]
    have hx : x_pour g f t l ls = g_note (g_in (g_loss (x_pour1 g f l) (gn g 5 + 1) (tk2 g f l ls) (nI f) (nI ls) 0) t (fun j => tk g f l j - tk2 g f l ls j)) (gn g 5 + 2) (nI 2) (nI t) (nI (l - ls)) := if_neg hz
    rw [hx]
    refine GK.of R4 (gc_pour (N := gn g) (T := T) (T2 := T2) hC hf ht hne h1 hls (by omega) hT hsum hT2 hP2.2 hp hroom (fun k q1 q2 q3 q4 q5 q6 q7 q8 => by rw [a1 k q1 q2 q7 q8, k0 k q1 q2 q3 q4, n_out_ne q5 q6]) (fun j hj => by rw [a1 _ (by omega) (by omega) (by omega) (by omega), k0 _ (by omega) (by omega) (by omega) (by omega), n_out_p hj]) (by rw [a1 _ (by omega) (by omega) (by omega) (by omega), k0 _ (by omega) (by omega) (by omega) (by omega)]) (fun j hj => by rw [← hN, n_note_ne (by omega) (by omega), n_in_p hj, k0 _ (by omega) (by omega) (by omega) (by omega), n_out_ne (by omega) (by omega)]) (by rw [← hN, n_note_ne (by omega) (by omega), n_in_1]) (fun b hb => by rw [a1 _ (by omega) (by omega) (by omega) (by omega), k3 b hb]) (by rw [a1 _ (by omega) (by omega) (by omega) (by omega), kL]) (by omega) (by omega)) ?_
    rw [← hx, x_pour_hi (Or.inl rfl) hf ht]; exact h6
theorem gk_fill {g : BqG} {en t o : Nat} (h : GK g en) (hen : en < 200000) (ht : t < 6) (ho : o < gn g 2) (hl : gn g (205 + 9 * o) ≤ gt g t) (hp : gn g (11 + 19 * t) = 1) : GK (x_fill g t o (gn g (205 + 9 * o))) (en + 1) := by
  have hG := h.gi
  have hc2 : gn g 2 ≤ 10 := h.2.1.1.2.2.1
  have ho10 : o < 10 := by omega
  have hl1 : 1 ≤ gn g (205 + 9 * o) := (h.2.1.2.2.2.1 o ho10).2.1 ho
  have hl9 : gn g (205 + 9 * o) ≤ 9999 := (h.2.1.2.2.2.1 o ho10).1
  generalize hll : gn g (205 + 9 * o) = l at hl hl1 hl9 ⊢
  obtain ⟨hT, hsum, hgt⟩ := tk_in h ht hl (by omega)
  have hpos : 0 < gt g t := by omega
  have hfa := fa_le hG hl hpos hgt
  have hfs := fs_m hG hl hpos hgt hl1
  obtain ⟨fdd, hfd1, hfd2⟩ := fd_n (o := o) hG hl hpos hgt
  have hsl : fa g t l / l ≤ 19998000 := Nat.le_trans (Nat.div_le_self _ _) hfa
  obtain ⟨hR, hC, h6⟩ := h
  obtain ⟨d0, d1, d2, d3, d4, d5⟩ := hC.1
  have hU : ∀ j, j < 16 → tk g t l j = nI (npt (gp g t) l j) := fun _ _ => rfl
  generalize hTT : npt (gp g t) l = T at hT hsum hU
  have R1 := (hR.out ht hU hT (show ts (gn g) t < 2 ^ 31 from by have : ts (gn g) t = gt g t := rfl; omega)).badd (i := 2) (by decide) hU (fun j hj => by
    obtain ⟨b1, b2, b3, b4⟩ := hC.2.2.1 j hj
    have := hT j hj
    have := bs_ge (N := gn g) (b := j) ht
    rw [n_out_ne (by omega) (by omega), show 124 + 5 * j + 2 = 126 + 5 * j by omega]
    omega)
  have R2 := ((((R1.r (k := 208 + 9 * o) (w := 1) rfl (by omega)).r (k := 210 + 9 * o) (hR 0 (by omega) (by omega)).1 (by omega)).r (k := 211 + 9 * o) hfs (by omega)).r (k := 212 + 9 * o) (w := fa g t l) rfl (by omega)).r (k := 209 + 9 * o) hfd2 (by omega)
  generalize hM : bq_r (bq_r (bq_r (bq_r (bq_r (n_badd (n_out (gn g) t T) 2 T) (208 + 9 * o) 1) (210 + 9 * o) (gn g 0)) (211 + 9 * o) (fa g t l / l)) (212 + 9 * o) (fa g t l)) (209 + 9 * o) fdd = M at R2
  have m0 : ∀ k, (k < 208 + 9 * o ∨ 212 + 9 * o < k) → (k < 124 ∨ 204 ≤ k ∨ (k - 124) % 5 ≠ 2) → M k = n_out (gn g) t T k := fun k q1 q2 => by rw [← hM, bq_r_ne (by omega), bq_r_ne (by omega), bq_r_ne (by omega), bq_r_ne (by omega), bq_r_ne (by omega), n_badd_ne q2]
  have R3 := R2.note (m := gn g 5) (k := 4) (t := t) (l := l) (by omega) (by omega) (by omega) (by rw [m0 5 (by omega) (by omega), n_out_ne (by omega) (by omega)]; omega)
  generalize hN : n_note M (gn g 5) 4 t l = N' at R3
  have a0 : ∀ k, k < 330 → k ≠ 5 → (k < 208 + 9 * o ∨ 212 + 9 * o < k) → (k < 124 ∨ 204 ≤ k ∨ (k - 124) % 5 ≠ 2) → N' k = n_out (gn g) t T k := fun k p1 p2 q1 q2 => by rw [← hN, n_note_ne p1 p2, m0 k q1 q2]
  have e : ∀ k, k < 330 → k ≠ 5 → (k < 208 + 9 * o ∨ 212 + 9 * o < k) → (k < 124 ∨ 204 ≤ k ∨ (k - 124) % 5 ≠ 2) → (k < 13 + 19 * t ∨ 29 + 19 * t ≤ k) → k ≠ 11 + 19 * t → N' k = gn g k := fun k p1 p2 q1 q2 q3 q4 => by rw [a0 k p1 p2 q1 q2, n_out_ne q3 q4]
  have a5 : N' 5 = gn g 5 + 1 := by rw [← hN, n_note_5, m0 5 (by omega) (by omega), n_out_ne (by omega) (by omega)]
  have c8 : N' (208 + 9 * o) = 1 := by rw [← hN, n_note_ne (by omega) (by omega), ← hM, bq_r_ne (by omega), bq_r_ne (by omega), bq_r_ne (by omega), bq_r_ne (by omega), bq_r_self]
  have c9 : N' (209 + 9 * o) = fdd := by rw [← hN, n_note_ne (by omega) (by omega), ← hM, bq_r_self]
  have c12 : N' (212 + 9 * o) = fa g t l := by rw [← hN, n_note_ne (by omega) (by omega), ← hM, bq_r_ne (by omega), bq_r_self]
  have f2 : ∀ b, b < 16 → N' (126 + 5 * b) = gn g (126 + 5 * b) + T b := fun b hb => by
    rw [← hN, n_note_ne (by omega) (by omega), ← hM, bq_r_ne (by omega), bq_r_ne (by omega), bq_r_ne (by omega), bq_r_ne (by omega), bq_r_ne (by omega), show 126 + 5 * b = 124 + 5 * b + 2 by omega, n_badd_p (by decide) hb, n_out_ne (by omega) (by omega)]
  have e2 : N' 2 = gn g 2 := e 2 (by omega) (by omega) (by omega) (by omega) (by omega) (by omega)
  refine GK.of R3 ⟨⟨by rw [e 0 (by omega) (by omega) (by omega) (by omega) (by omega) (by omega)]; exact d0, by rw [e 1 (by omega) (by omega) (by omega) (by omega) (by omega) (by omega)]; exact d1, by rw [e2]; exact d2, by rw [e 3 (by omega) (by omega) (by omega) (by omega) (by omega) (by omega)]; exact d3, by rw [e 4 (by omega) (by omega) (by omega) (by omega) (by omega) (by omega)]; exact d4, by omega⟩, fun q hq => ?_, fun b hb => ?_, fun q hq => ?_, fun r hr => by rw [e _ (by omega) (by omega) (by omega) (by omega) (by omega) (by omega)]; exact hC.2.2.2.2.1 r hr, fun r hr => ?_⟩ ?_
  · by_cases c : q = t
    · subst c
      exact (gt_out (hC.2.1 q hq) hT hp).e (fun k _ _ => a0 k (by omega) (by omega) (by omega) (by omega))
    · exact (hC.2.1 q hq).e (fun k _ _ => e k (by omega) (by omega) (by omega) (by omega) (by omega) (by omega))
  · obtain ⟨b1, b2, b3, b4⟩ := hC.2.2.1 b hb
    have hbs := bs_upd (N := gn g) (N' := N') (b := b) (v := gn g (13 + 19 * t + b) - T b) ht (fun q hq c => e _ (by omega) (by omega) (by omega) (by omega) (by omega) (by omega)) (by rw [a0 _ (by omega) (by omega) (by omega) (by omega), n_out_p hb])
    have hTb := hT b hb
    have hge := bs_ge (N := gn g) (b := b) ht
    unfold GB
    rw [e (124 + 5 * b) (by omega) (by omega) (by omega) (by omega) (by omega) (by omega), e (125 + 5 * b) (by omega) (by omega) (by omega) (by omega) (by omega) (by omega), e (127 + 5 * b) (by omega) (by omega) (by omega) (by omega) (by omega) (by omega), f2 b hb, e 1 (by omega) (by omega) (by omega) (by omega) (by omega) (by omega)]
    exact ⟨b1, by omega, b3, b4⟩
  · obtain ⟨o1, o2, o3, o4, o5, o6, o7, o8, o9⟩ := hC.2.2.2.1 q hq
    by_cases c : q = o
    · subst c
      unfold GO
      rw [c8, c9, c12, e2, e (205 + 9 * q) (by omega) (by omega) (by omega) (by omega) (by omega) (by omega), e (206 + 9 * q) (by omega) (by omega) (by omega) (by omega) (by omega) (by omega), e (207 + 9 * q) (by omega) (by omega) (by omega) (by omega) (by omega) (by omega), e (204 + 9 * q) (by omega) (by omega) (by omega) (by omega) (by omega) (by omega)]
      exact ⟨o1, o2, o3, o4, o5, by omega, hfd1, by omega, fun z => absurd z (by omega)⟩
    · exact (hC.2.2.2.1 q hq).e (fun k _ _ => e k (by omega) (by omega) (by omega) (by omega) (by omega) (by omega)) e2
  · rw [e _ (by omega) (by omega) (by omega) (by omega) (by omega) (by omega), a5]
    have := hC.2.2.2.2.2 r hr
    omega
  · rw [x_fill_n ht (by omega) (by omega), x_fill3_n ht (by omega) (by omega)]; exact h6
theorem gk_brew {g : BqG} {en t l s : Nat} (h : GK g en) (hen : en < 200000) (ht : t < 6) (h1 : 1 ≤ l) (hl : l ≤ gn g (10 + 19 * t)) (hs : s ≤ 2000) (hc : gn g 1 < 16) (hp : gn g (11 + 19 * t) = 0) : GK (x_brew g t (nI l) (nI s)) (en + 1) := by
  obtain ⟨hR, hC, h6⟩ := h
  obtain ⟨d0, d1, d2, d3, d4, d5⟩ := hC.1
  obtain ⟨t1, t2, t3, t4, t5, t6⟩ := hC.2.1 t ht
  have hts : ts (gn g) t = 0 := by rcases Nat.eq_zero_or_pos (ts (gn g) t) with z | z; exact z; have := t6.mpr z; omega
  obtain ⟨u1, u2, u3, u4⟩ := hC.2.2.1 (gn g 1) hc
  have u5 := u4 (Nat.le_refl _)
  have hz : ∀ q, q < 6 → gn g (13 + 19 * q + gn g 1) = 0 := fun q hq => by have := bs_ge (N := gn g) (b := gn g 1) hq; omega
  have hzt : ∀ j, j < 16 → gn g (13 + 19 * t + j) = 0 := fun j hj => by
    have : gn g (13 + 19 * t + j) ≤ ts (gn g) t := ns_ge (F := fun b => gn g (13 + 19 * t + b)) 16 hj
    omega
  have R1 := (((((hR.r (k := 124 + 5 * gn g 1) (w := s) rfl (by omega)).r (k := 124 + 5 * gn g 1 + 1) (w := l) rfl (by omega)).r (k := 124 + 5 * gn g 1 + 4) (hR 0 (by omega) (by omega)).1 (by omega)).r (k := 1) (w := gn g 1 + 1) rfl (by omega)).r (k := 11 + 19 * t) (w := 1) rfl (by omega)).r (k := 13 + 19 * t + gn g 1) (w := l) rfl (by omega)
  generalize hM : bq_r (bq_r (bq_r (bq_r (bq_r (bq_r (gn g) (124 + 5 * gn g 1) s) (124 + 5 * gn g 1 + 1) l) (124 + 5 * gn g 1 + 4) (gn g 0)) 1 (gn g 1 + 1)) (11 + 19 * t) 1) (13 + 19 * t + gn g 1) l = M at R1
  have m5 : M 5 = gn g 5 := by rw [← hM, bq_r_ne (by omega), bq_r_ne (by omega), bq_r_ne (by omega), bq_r_ne (by omega), bq_r_ne (by omega), bq_r_ne (by omega)]
  have R2 := R1.note (m := gn g 5) (k := 0) (t := t) (l := l) (by omega) (by omega) (by omega) (by rw [m5]; omega)
  generalize hN : n_note M (gn g 5) 0 t l = N' at R2
  have e : ∀ k, k < 330 → k ≠ 5 → k ≠ 1 → k ≠ 11 + 19 * t → k ≠ 13 + 19 * t + gn g 1 → k ≠ 124 + 5 * gn g 1 → k ≠ 125 + 5 * gn g 1 → k ≠ 128 + 5 * gn g 1 → N' k = gn g k := fun k p1 p2 p3 p4 p5 p6 p7 p8 => by
    rw [← hN, n_note_ne p1 p2, ← hM, bq_r_ne p5, bq_r_ne p4, bq_r_ne p3, bq_r_ne (by omega), bq_r_ne (by omega), bq_r_ne p6]
  have c1 : N' 1 = gn g 1 + 1 := by rw [← hN, n_note_ne (by omega) (by omega), ← hM, bq_r_ne (by omega), bq_r_ne (by omega), bq_r_self]
  have c5 : N' 5 = gn g 5 + 1 := by rw [← hN, n_note_5, m5]
  have cs : N' (124 + 5 * gn g 1) = s := by rw [← hN, n_note_ne (by omega) (by omega), ← hM, bq_r_ne (by omega), bq_r_ne (by omega), bq_r_ne (by omega), bq_r_ne (by omega), bq_r_ne (by omega), bq_r_self]
  have cl : N' (125 + 5 * gn g 1) = l := by rw [← hN, n_note_ne (by omega) (by omega), ← hM, bq_r_ne (by omega), bq_r_ne (by omega), bq_r_ne (by omega), bq_r_ne (by omega), show 125 + 5 * gn g 1 = 124 + 5 * gn g 1 + 1 by omega, bq_r_self]
  have cp : N' (11 + 19 * t) = 1 := by rw [← hN, n_note_ne (by omega) (by omega), ← hM, bq_r_ne (by omega), bq_r_self]
  have cq : N' (13 + 19 * t + gn g 1) = l := by rw [← hN, n_note_ne (by omega) (by omega), ← hM, bq_r_self]
  refine GK.of R2 ⟨⟨by rw [e 0 (by omega) (by omega) (by omega) (by omega) (by omega) (by omega) (by omega) (by omega)]; exact d0, by omega, by rw [e 2 (by omega) (by omega) (by omega) (by omega) (by omega) (by omega) (by omega) (by omega)]; exact d2, by rw [e 3 (by omega) (by omega) (by omega) (by omega) (by omega) (by omega) (by omega) (by omega)]; exact d3, by rw [e 4 (by omega) (by omega) (by omega) (by omega) (by omega) (by omega) (by omega) (by omega)]; exact d4, by omega⟩, fun q hq => ?_, fun b hb => ?_, fun o ho => (hC.2.2.2.1 o ho).e (fun k _ _ => e k (by omega) (by omega) (by omega) (by omega) (by omega) (by omega) (by omega) (by omega)) (e 2 (by omega) (by omega) (by omega) (by omega) (by omega) (by omega) (by omega) (by omega)), fun r hr => by rw [e _ (by omega) (by omega) (by omega) (by omega) (by omega) (by omega) (by omega) (by omega)]; exact hC.2.2.2.2.1 r hr, fun r hr => ?_⟩ ?_
  · by_cases c : q = t
    · subst c
      have es : ts N' q = l := by
        have h1 : ts N' q = ns (bq_r (fun _ => 0) (gn g 1) l) 16 := ns_congr 16 (fun j hj => by
          by_cases z : j = gn g 1
          · subst z; rw [bq_r_self]; exact cq
          · rw [bq_r_ne z, e _ (by omega) (by omega) (by omega) (by omega) (by omega) (by omega) (by omega) (by omega)]; exact hzt j hj)
        have h2 := ns_upd (F := fun _ => 0) (c := gn g 1) (v := l) 16
        rw [if_pos hc, if_pos hc] at h2
        have h3 : ns (fun _ => 0) 16 = 0 := rfl
        rw [h1]; omega
      unfold GT
      rw [es, cp, e (10 + 19 * q) (by omega) (by omega) (by omega) (by omega) (by omega) (by omega) (by omega) (by omega), e (12 + 19 * q) (by omega) (by omega) (by omega) (by omega) (by omega) (by omega) (by omega) (by omega)]
      exact ⟨t1, t2, by omega, t4, hl, fun _ => by omega, fun _ => rfl⟩
    · exact (hC.2.1 q hq).e (fun k _ _ => e k (by omega) (by omega) (by omega) (by omega) (by omega) (by omega) (by omega) (by omega))
  · by_cases c : b = gn g 1
    · subst c
      have hbs := bs_upd (N := gn g) (N' := N') (b := gn g 1) (v := l) ht (fun q hq c => e _ (by omega) (by omega) (by omega) (by omega) (by omega) (by omega) (by omega) (by omega)) cq
      have := hz t ht
      unfold GB
      rw [cs, cl, e (126 + 5 * gn g 1) (by omega) (by omega) (by omega) (by omega) (by omega) (by omega) (by omega) (by omega), e (127 + 5 * gn g 1) (by omega) (by omega) (by omega) (by omega) (by omega) (by omega) (by omega) (by omega), c1]
      exact ⟨hs, by omega, by omega, fun z => by omega⟩
    · obtain ⟨b1, b2, b3, b4⟩ := hC.2.2.1 b hb
      have es : bs N' b = bs (gn g) b := ns_congr 6 (fun q hq => e _ (by omega) (by omega) (by omega) (by omega) (by omega) (by omega) (by omega) (by omega))
      unfold GB
      rw [es, c1, e (124 + 5 * b) (by omega) (by omega) (by omega) (by omega) (by omega) (by omega) (by omega) (by omega), e (125 + 5 * b) (by omega) (by omega) (by omega) (by omega) (by omega) (by omega) (by omega) (by omega), e (126 + 5 * b) (by omega) (by omega) (by omega) (by omega) (by omega) (by omega) (by omega) (by omega), e (127 + 5 * b) (by omega) (by omega) (by omega) (by omega) (by omega) (by omega) (by omega) (by omega)]
      exact ⟨b1, b2, b3, fun z => b4 (by omega)⟩
  · rw [e _ (by omega) (by omega) (by omega) (by omega) (by omega) (by omega) (by omega) (by omega), c5]
    have := hC.2.2.2.2.2 r hr
    omega
  · rw [x_brew_hi ht hc (Or.inl rfl)]; exact h6
