/-! the class's state as the model's row: where place k of the row lies in a State -/
def lc (k : Nat) : Option (Nat × Nat) :=
  if k < 10 then (if k = 0 then some (0, 0) else if k = 1 then some (0, 3) else if k = 2 then some (0, 12) else if k = 3 then some (0, 10) else if k = 4 then some (0, 1) else if k = 5 then some (13, 0) else none)
  else if k < 124 then (if (k - 10) % 19 < 3 then some (15 + 3 * ((k - 10) / 19), (k - 10) % 19) else some (17 + 3 * ((k - 10) / 19), (k - 10) % 19 - 3))
  else if k < 204 then some (if (k - 124) % 5 = 0 then 2 else if (k - 124) % 5 = 1 then 5 else if (k - 124) % 5 = 2 then 7 else if (k - 124) % 5 = 3 then 9 else 3, (k - 124) / 5)
  else if k < 294 then (if (k - 204) % 9 < 8 then some (43 + (k - 204) / 9, (k - 204) % 9) else none)
  else if k < 324 then some (33 + (k - 294) / 3, (k - 294) % 3)
  else if k < 328 then some (10, k - 324)
  else if k < 330 then none
  else if k < 650 then some (14, k - 330) else none
def il (a j : Nat) : Nat :=
  if a = 0 then (if j = 0 then 0 else if j = 3 then 1 else if j = 12 then 2 else if j = 10 then 3 else 4)
  else if a = 2 then 124 + 5 * j else if a = 3 then 128 + 5 * j else if a = 5 then 125 + 5 * j else if a = 7 then 126 + 5 * j else if a = 9 then 127 + 5 * j
  else if a = 10 then 324 + j else if a = 13 then 5 else if a = 14 then 330 + j
  else if a < 33 then (if (a - 15) % 3 = 0 then 10 + 19 * ((a - 15) / 3) + j else 13 + 19 * ((a - 15) / 3) + j)
  else if a < 43 then 294 + 3 * (a - 33) + j else 204 + 9 * (a - 43) + j
theorem lc_all : (List.range 650).all (fun k => match lc k with | none => true | some (a, j) => decide (il a j = k ∧ a < 53)) = true := by decide +kernel
theorem lc_big {k : Nat} (h : 650 ≤ k) : lc k = none := by
  unfold lc
  rw [if_neg (by omega), if_neg (by omega), if_neg (by omega), if_neg (by omega), if_neg (by omega), if_neg (by omega), if_neg (by omega), if_neg (by omega)]
theorem lc_il {k a j : Nat} (h : lc k = some (a, j)) : il a j = k ∧ a < 53 := by
  have hk : k < 650 := by
    rcases Nat.lt_or_ge k 650 with q | q
    · exact q
    · rw [lc_big q] at h; cases h
  have := List.all_eq_true.mp lc_all k (List.mem_range.mpr hk)
  rw [h] at this
  exact of_decide_eq_true this
/-- how long row a of a State is -/
def rl (a : Nat) : Nat := if a = 10 then 4 else if a = 14 then 320 else if a = 2 ∨ a = 3 ∨ a = 5 ∨ a = 7 ∨ a = 9 then 16 else if 15 ≤ a ∧ a < 33 ∧ (a - 15) % 3 = 2 then 16 else 13
theorem lc_all2 : (List.range 650).all (fun k => match lc k with | none => true | some (a, j) => decide (j < rl a)) = true := by decide +kernel
theorem lc_lt {k a j : Nat} (h : lc k = some (a, j)) : k < 650 := by
  rcases Nat.lt_or_ge k 650 with q | q
  · exact q
  · rw [lc_big q] at h; cases h
theorem lc_len {k a j : Nat} (h : lc k = some (a, j)) : j < rl a := by
  have := List.all_eq_true.mp lc_all2 k (List.mem_range.mpr (lc_lt h))
  rw [h] at this
  exact of_decide_eq_true this
theorem lc_inj {k k' a j : Nat} (h : lc k = some (a, j)) (h' : lc k' = some (a, j)) : k = k' := by
  rw [← (lc_il h).1, ← (lc_il h').1]
theorem lc_T {t k : Nat} (ht : t < 6) (hk : k < 3) : lc (10 + 19 * t + k) = some (15 + 3 * t, k) := by
  have e1 : (10 + 19 * t + k - 10) / 19 = t := by omega
  have e2 : (10 + 19 * t + k - 10) % 19 = k := by omega
  unfold lc
  rw [if_neg (by omega), if_pos (by omega), e1, e2, if_pos hk]
theorem lc_P {t b : Nat} (ht : t < 6) (hb : b < 16) : lc (13 + 19 * t + b) = some (17 + 3 * t, b) := by
  have e1 : (13 + 19 * t + b - 10) / 19 = t := by omega
  have e2 : (13 + 19 * t + b - 10) % 19 = b + 3 := by omega
  unfold lc
  rw [if_neg (by omega), if_pos (by omega), e1, e2, if_neg (by omega), Nat.add_sub_cancel]
/-- which row of the State holds number j of the batches -/
def lbr (j : Nat) : Nat := if j = 0 then 2 else if j = 1 then 5 else if j = 2 then 7 else if j = 3 then 9 else 3
theorem lc_B {b j : Nat} (hb : b < 16) (hj : j < 5) : lc (124 + 5 * b + j) = some (lbr j, b) := by
  have e1 : (124 + 5 * b + j - 124) / 5 = b := by omega
  have e2 : (124 + 5 * b + j - 124) % 5 = j := by omega
  unfold lc lbr
  rw [if_neg (by omega), if_neg (by omega), if_pos (by omega), e1, e2]
theorem lc_O {o k : Nat} (ho : o < 10) (hk : k < 8) : lc (204 + 9 * o + k) = some (43 + o, k) := by
  have e1 : (204 + 9 * o + k - 204) / 9 = o := by omega
  have e2 : (204 + 9 * o + k - 204) % 9 = k := by omega
  unfold lc
  rw [if_neg (by omega), if_neg (by omega), if_neg (by omega), if_pos (by omega), e1, e2, if_pos hk]
theorem lc_R {r k : Nat} (hr : r < 10) (hk : k < 3) : lc (294 + 3 * r + k) = some (33 + r, k) := by
  have e1 : (294 + 3 * r + k - 294) / 3 = r := by omega
  have e2 : (294 + 3 * r + k - 294) % 3 = k := by omega
  unfold lc
  rw [if_neg (by omega), if_neg (by omega), if_neg (by omega), if_neg (by omega), if_pos (by omega), e1, e2]
theorem lc_L {r : Nat} (hr : r < 4) : lc (324 + r) = some (10, r) := by
  unfold lc
  rw [if_neg (by omega), if_neg (by omega), if_neg (by omega), if_neg (by omega), if_neg (by omega), if_pos (by omega), Nat.add_sub_cancel_left]
theorem lc_J {k : Nat} (hk : k < 320) : lc (330 + k) = some (14, k) := by
  unfold lc
  rw [if_neg (by omega), if_neg (by omega), if_neg (by omega), if_neg (by omega), if_neg (by omega), if_neg (by omega), if_neg (by omega), if_pos (by omega), Nat.add_sub_cancel_left]
abbrev BqG : Type := Nat → Int32
def CSI (I : BqI) (s : Nat) (g : BqG) : Prop := ∀ k a j, lc k = some (a, j) → I (s + a) j = g k
theorem CSI.u {I : BqI} {s : Nat} {g : BqG} (h : CSI I s g) {k a j : Nat} (hk : lc k = some (a, j)) (v : Int32) : CSI (bq_u I (s + a) j v) s (bq_r g k v) := by
  intro k' a' j' hk'
  by_cases e : k' = k
  · subst e
    rw [hk] at hk'
    cases hk'
    rw [bq_u_at, bq_r_self]
  · rw [bq_r_ne e, bq_u_no, h k' a' j' hk']
    rintro ⟨e1, e2⟩
    have : a' = a := by omega
    subst this; subst e2
    exact e (lc_inj hk' hk)
theorem CSI.fr {I I' : BqI} {s : Nat} {g : BqG} (h : CSI I s g) (hq : ∀ a, a < 53 → I' (s + a) = I (s + a)) : CSI I' s g := by
  intro k a j hk
  rw [hq a (lc_il hk).2]; exact h k a j hk
/-- one row changes -/
theorem CSI.row {I I' : BqI} {s : Nat} {g g' : BqG} (h : CSI I s g) (a0 : Nat) (hq : ∀ a, a < 53 → a ≠ a0 → I' (s + a) = I (s + a)) (h1 : ∀ k j, lc k = some (a0, j) → I' (s + a0) j = g' k) (h2 : ∀ k a j, lc k = some (a, j) → a ≠ a0 → g' k = g k) : CSI I' s g' := by
  intro k a j hk
  by_cases e : a = a0
  · subst e; exact h1 k j hk
  · rw [hq a (lc_il hk).2 e, h k a j hk, h2 k a j hk e]
theorem CSI.at {I : BqI} {s : Nat} {g : BqG} (h : CSI I s g) {k a j : Nat} (hk : lc k = some (a, j)) : I (s + a) j = g k := h k a j hk
theorem lc_iT {k t j : Nat} (ht : t < 6) (h : lc k = some (17 + 3 * t, j)) : k = 13 + 19 * t + j ∧ j < 16 := by
  have h1 := (lc_il h).1
  have e1 : (17 + 3 * t - 15) % 3 = 2 := by omega
  have e2 : (17 + 3 * t - 15) / 3 = t := by omega
  have hk : k = 13 + 19 * t + j := by
    rw [← h1]
    unfold il
    rw [if_neg (by omega), if_neg (by omega), if_neg (by omega), if_neg (by omega), if_neg (by omega), if_neg (by omega), if_neg (by omega), if_neg (by omega), if_neg (by omega), if_pos (by omega), e1, e2, if_neg (by omega)]
  refine ⟨hk, ?_⟩
  have := lc_len h
  unfold rl at this
  rw [if_neg (by omega), if_neg (by omega), if_neg (by omega), if_pos (by omega)] at this
  exact this
theorem lc_iB {k i b : Nat} (hi : i < 5) (h : lc k = some (lbr i, b)) : k = 124 + 5 * b + i ∧ b < 16 := by
  have h1 := (lc_il h).1
  have h2 := lc_len h
  match i, hi with
  | 0, _ => exact ⟨by rw [← h1]; rfl, h2⟩
  | 1, _ => exact ⟨by rw [← h1]; show 125 + 5 * b = _; omega, h2⟩
  | 2, _ => exact ⟨by rw [← h1]; show 126 + 5 * b = _; omega, h2⟩
  | 3, _ => exact ⟨by rw [← h1]; show 127 + 5 * b = _; omega, h2⟩
  | 4, _ => exact ⟨by rw [← h1]; show 128 + 5 * b = _; omega, h2⟩
/-! the moves of the row -/
def g_sub (g : BqG) (t : Nat) (T : Nat → Int32) : BqG := fun k => if 13 + 19 * t ≤ k ∧ k < 29 + 19 * t then g k - T (k - (13 + 19 * t)) else g k
def g_add (g : BqG) (t : Nat) (T : Nat → Int32) : BqG := fun k => if 13 + 19 * t ≤ k ∧ k < 29 + 19 * t then g k + T (k - (13 + 19 * t)) else g k
def g_badd (g : BqG) (i : Nat) (T : Nat → Int32) : BqG := fun k => if 124 ≤ k ∧ k < 204 ∧ (k - 124) % 5 = i then g k + T ((k - 124) / 5) else g k
def g_tot (g : BqG) (t : Nat) : Int32 := bq_sum (fun b => g (13 + 19 * t + b)) 16
def g_out (g : BqG) (t : Nat) (T : Nat → Int32) : BqG := if g_tot (g_sub g t T) t = 0 then bq_r (g_sub g t T) (11 + 19 * t) (nI 2) else g_sub g t T
def g_in (g : BqG) (t : Nat) (T : Nat → Int32) : BqG := bq_r (g_add g t T) (11 + 19 * t) (nI 1)
def g_ent (g : BqG) (m : Nat) (k t l : Int32) : BqG := if m < 80 then bq_r (bq_r (bq_r (bq_r g (330 + 4 * m) (g 0)) (330 + 4 * m + 1) k) (330 + 4 * m + 2) t) (330 + 4 * m + 3) l else g
def g_note (g : BqG) (m : Nat) (k t l : Int32) : BqG := bq_r (g_ent g m k t l) 5 (g 5 + nI 1)
def g_loss (g : BqG) (m : Nat) (T : Nat → Int32) (t l : Int32) (r : Nat) : BqG := g_note (bq_r (g_badd g 3 T) (324 + r) (g (324 + r) + l)) m (nI 3) t l
theorem bl_add_at {I : BqI} {d s : Nat} (h : d ≠ s) : ∀ k, (∀ a, a ≠ d → bl_add I d s k a = I a) ∧ ∀ j, bl_add I d s k d j = if j < k then I d j + I s j else I d j
  | 0 => ⟨fun _ _ => rfl, fun j => by rw [if_neg (Nat.not_lt_zero j)]; rfl⟩
  | k + 1 => by
    obtain ⟨h1, h2⟩ := bl_add_at (I := I) h k
    refine ⟨fun a ha => ?_, fun j => ?_⟩
    · show bq_u _ d k _ a = _
      rw [bq_u_ne ha, h1 a ha]
    · show bq_u _ d k _ d j = _
      by_cases e : j = k
      · subst e
        rw [bq_u_at, h2 j, if_neg (Nat.lt_irrefl j), h1 s (Ne.symm h), if_pos (by omega)]
      · rw [bq_u_no (fun q => e q.2), h2 j]
        by_cases e2 : j < k
        · rw [if_pos e2, if_pos (by omega)]
        · rw [if_neg e2, if_neg (by omega)]
theorem bl_rem_at {I : BqI} {d s : Nat} (h : d ≠ s) : ∀ k, (∀ a, a ≠ d → bl_rem I d s k a = I a) ∧ ∀ j, bl_rem I d s k d j = if j < k then I d j - I s j else I d j
  | 0 => ⟨fun _ _ => rfl, fun j => by rw [if_neg (Nat.not_lt_zero j)]; rfl⟩
  | k + 1 => by
    obtain ⟨h1, h2⟩ := bl_rem_at (I := I) h k
    refine ⟨fun a ha => ?_, fun j => ?_⟩
    · show bq_u _ d k _ a = _
      rw [bq_u_ne ha, h1 a ha]
    · show bq_u _ d k _ d j = _
      by_cases e : j = k
      · subst e
        rw [bq_u_at, h2 j, if_neg (Nat.lt_irrefl j), h1 s (Ne.symm h), if_pos (by omega)]
      · rw [bq_u_no (fun q => e q.2), h2 j]
        by_cases e2 : j < k
        · rw [if_pos e2, if_pos (by omega)]
        · rw [if_neg e2, if_neg (by omega)]
/-- litres of the row q taken out of a tank's parts -/
theorem CSI.sub {I : BqI} {s : Nat} {g : BqG} (h : CSI I s g) {t q : Nat} {T : Nat → Int32} (ht : t < 6) (hq : s + (17 + 3 * t) ≠ q) (hT : ∀ j, j < 16 → I q j = T j) : CSI (bl_rem I (s + (17 + 3 * t)) q 16) s (g_sub g t T) := by
  obtain ⟨h1, h2⟩ := bl_rem_at (I := I) hq 16
  refine h.row (17 + 3 * t) (fun a _ hne => h1 _ (by omega)) (fun k j hk => ?_) (fun k a j hk hne => ?_)
  · obtain ⟨rfl, hj⟩ := lc_iT ht hk
    rw [h2 j, if_pos hj, hT j hj, h.at hk]
    unfold g_sub
    rw [if_pos (by omega), Nat.add_sub_cancel_left]
  · unfold g_sub
    rw [if_neg]
    rintro ⟨g1, g2⟩
    obtain ⟨b, rfl⟩ : ∃ b, k = 13 + 19 * t + b := ⟨k - (13 + 19 * t), by omega⟩
    rw [lc_P ht (by omega)] at hk
    cases hk
    exact hne rfl
theorem CSI.add {I : BqI} {s : Nat} {g : BqG} (h : CSI I s g) {t q : Nat} {T : Nat → Int32} (ht : t < 6) (hq : s + (17 + 3 * t) ≠ q) (hT : ∀ j, j < 16 → I q j = T j) : CSI (bl_add I (s + (17 + 3 * t)) q 16) s (g_add g t T) := by
  obtain ⟨h1, h2⟩ := bl_add_at (I := I) hq 16
  refine h.row (17 + 3 * t) (fun a _ hne => h1 _ (by omega)) (fun k j hk => ?_) (fun k a j hk hne => ?_)
  · obtain ⟨rfl, hj⟩ := lc_iT ht hk
    rw [h2 j, if_pos hj, hT j hj, h.at hk]
    unfold g_add
    rw [if_pos (by omega), Nat.add_sub_cancel_left]
  · unfold g_add
    rw [if_neg]
    rintro ⟨g1, g2⟩
    obtain ⟨b, rfl⟩ : ∃ b, k = 13 + 19 * t + b := ⟨k - (13 + 19 * t), by omega⟩
    rw [lc_P ht (by omega)] at hk
    cases hk
    exact hne rfl
theorem CSI.badd {I : BqI} {s : Nat} {g : BqG} (h : CSI I s g) {i q : Nat} {T : Nat → Int32} (hi : i < 5) (hq : s + lbr i ≠ q) (hT : ∀ j, j < 16 → I q j = T j) : CSI (bl_add I (s + lbr i) q 16) s (g_badd g i T) := by
  obtain ⟨h1, h2⟩ := bl_add_at (I := I) hq 16
  refine h.row (lbr i) (fun a _ hne => h1 _ (by omega)) (fun k j hk => ?_) (fun k a j hk hne => ?_)
  · obtain ⟨rfl, hj⟩ := lc_iB hi hk
    rw [h2 j, if_pos hj, hT j hj, h.at hk]
    unfold g_badd
    rw [if_pos (by omega), show (124 + 5 * j + i - 124) / 5 = j by omega]
  · unfold g_badd
    rw [if_neg]
    rintro ⟨g1, g2, g3⟩
    obtain ⟨b, rfl⟩ : ∃ b, k = 124 + 5 * b + i := ⟨(k - 124) / 5, by omega⟩
    rw [lc_B (by omega) hi] at hk
    cases hk
    exact hne rfl
theorem CSI.tot {I : BqI} {s : Nat} {g : BqG} (h : CSI I s g) {t : Nat} (ht : t < 6) : bq_sum (I (s + (17 + 3 * t))) 16 = g_tot g t := bq_sum_congr 16 (fun j hj => h.at (lc_P ht hj))
theorem CSI.note {I : BqI} {s : Nat} {g : BqG} (h : CSI I s g) (m : Nat) (k t l : Int32) : CSI (jw_I I (s + 13) m (I (s + 0) 0) k t l) s (g_note g m k t l) := by
  have h5 : lc 5 = some (13, 0) := rfl
  have h0 : I (s + 0) 0 = g 0 := h.at rfl
  have h13 : I (s + 13) 0 = g 5 := h.at h5
  rw [h0]
  unfold g_note g_ent
  by_cases hm : m < 80
  · rw [jw_p hm, if_pos hm, bq_u_no (by omega), bq_u_no (by omega), bq_u_no (by omega), bq_u_no (by omega), h13]
    have e : ∀ i, i < 4 → lc (330 + 4 * m + i) = some (14, m * 4 + i) := fun i hi => by rw [show 330 + 4 * m + i = 330 + (m * 4 + i) by omega]; exact lc_J (by omega)
    exact ((((h.u (e 0 (by decide)) _).u (e 1 (by decide)) _).u (e 2 (by decide)) _).u (e 3 (by decide)) _).u h5 _
  · rw [jw_n hm, if_neg hm, h13]
    exact h.u h5 _
