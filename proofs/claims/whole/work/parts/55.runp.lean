/-! commands keep the row sound; what a run comes to -/
section
variable {g : BqG} {en : Nat}
theorem gk_wpour (h : GK g en) (hen : en < 200000) (f t l : Int32) : GK (w_pour g f t l).2 (en + 3) := by
  have h3 := h.mono (Nat.le_add_right en 3)
  by_cases c : (f < nI 0 ∨ ¬ f ≤ nI 5) ∨ (t < nI 0 ∨ ¬ t ≤ nI 5) ∨ f = t
  · rw [show w_pour g f t l = ((-1), g) from if_pos c]; exact h3
  by_cases c2 : l < nI 1 ∨ ¬ l ≤ nI 9999
  · rw [show w_pour g f t l = ((-8), g) from (if_neg c).trans (if_pos c2)]; exact h3
  obtain ⟨f, hf, rfl⟩ := (bq_in5 f 5 (by decide)).resolve_left (fun q => c (Or.inl q))
  obtain ⟨t, ht, rfl⟩ := (bq_in5 t 5 (by decide)).resolve_left (fun q => c (Or.inr (Or.inl q)))
  obtain ⟨l, h1, h2, rfl⟩ := (bq_in19 l 1 9999 (by decide) (by decide)).resolve_left c2
  have hne : f ≠ t := fun q => c (Or.inr (Or.inr (congrArg nI q)))
  rw [w_pour_n hf ht hne h1 h2]
  unfold n_pour
  by_cases d1 : gn g (11 + 19 * f) = 1 ∧ gn g (11 + 19 * t) ≤ 1
  · rw [if_neg (not_not_intro d1)]
    by_cases d2 : gt g f < l
    · rw [if_pos d2]; exact h3
    · rw [if_neg d2]
      by_cases d3 : gn g (10 + 19 * t) < gt g t + (l - l * gn g 4 / 1000)
      · rw [if_pos d3]; exact h3
      · rw [if_neg d3]
        have h4 := h.d.2.2.2.2.1
        have h5 : l * gn g 4 ≤ l * 100 := Nat.mul_le_mul_left l h4
        exact gk_pour h hen hf ht hne h1 (by omega) (by omega) d1.1 (by omega)
  · rw [if_pos d1]; exact h3
theorem gk_wspill (h : GK g en) (hen : en < 200000) (t l r : Int32) : GK (w_spill g t l r).2 (en + 3) := by
  have h3 := h.mono (Nat.le_add_right en 3)
  by_cases c : t < nI 0 ∨ ¬ t ≤ nI 5
  · rw [show w_spill g t l r = ((-1), g) from if_pos c]; exact h3
  by_cases c2 : (l < nI 1 ∨ ¬ l ≤ nI 9999) ∨ (r < nI 1 ∨ ¬ r ≤ nI 3)
  · rw [show w_spill g t l r = ((-8), g) from (if_neg c).trans (if_pos c2)]; exact h3
  obtain ⟨t, ht, rfl⟩ := (bq_in5 t 5 (by decide)).resolve_left c
  obtain ⟨l, h1, h2, rfl⟩ := (bq_in19 l 1 9999 (by decide) (by decide)).resolve_left (fun q => c2 (Or.inl q))
  obtain ⟨r, r1, r2, rfl⟩ := (bq_in19 r 1 3 (by decide) (by decide)).resolve_left (fun q => c2 (Or.inr q))
  rw [w_spill_n ht h1 h2 r1 r2]
  unfold n_spill
  by_cases d1 : gn g (11 + 19 * t) = 1
  · rw [if_neg (not_not_intro d1)]
    by_cases d2 : gt g t < l
    · rw [if_pos d2]; exact h3
    · rw [if_neg d2]
      exact (gk_spill h hen ht h1 (by omega) d1 (by omega)).mono (by omega)
  · rw [if_pos d1]; exact h3
theorem gk_wscrub (h : GK g en) (t : Int32) : GK (w_scrub g t).2 (en + 3) := by
  have h3 := h.mono (Nat.le_add_right en 3)
  by_cases c : t < nI 0 ∨ ¬ t ≤ nI 5
  · rw [show w_scrub g t = ((-1), g) from if_pos c]; exact h3
  obtain ⟨t, ht, rfl⟩ := (bq_in5 t 5 (by decide)).resolve_left c
  rw [w_scrub_n ht]
  by_cases d : gn g (11 + 19 * t) = 2
  · rw [if_pos d]; exact (gk_scrub h ht d).mono (by omega)
  · rw [if_neg d]; exact h3
theorem gk_wpass (h : GK g en) (d : Int32) : GK (w_pass g d).2 (en + 3) := by
  have h3 := h.mono (Nat.le_add_right en 3)
  by_cases c : d < nI 1 ∨ ¬ d ≤ nI 999
  · rw [show w_pass g d = ((-8), g) from if_pos c]; exact h3
  obtain ⟨d, d1, d2, rfl⟩ := (bq_in19 d 1 999 (by decide) (by decide)).resolve_left c
  rw [w_pass_n d1 d2]
  unfold n_pass
  by_cases e : 9999 < gn g 0 + d
  · rw [if_pos e]; exact h3
  · rw [if_neg e]; exact (gk_pass h (by omega)).mono (by omega)
theorem gk_wfill (h : GK g en) (hen : en < 200000) (t o : Int32) : GK (w_fill g t o).2 (en + 3) := by
  have h3 := h.mono (Nat.le_add_right en 3)
  by_cases c : t < nI 0 ∨ ¬ t ≤ nI 5
  · rw [show w_fill g t o = ((-1), g) from if_pos c]; exact h3
  by_cases c2 : o < 0 ∨ g 2 ≤ o ∨ nI 10 ≤ o
  · rw [show w_fill g t o = ((-5), g) from (if_neg c).trans (if_pos c2)]; exact h3
  obtain ⟨t, ht, rfl⟩ := (bq_in5 t 5 (by decide)).resolve_left c
  obtain ⟨o, ho, rfl⟩ := (bq_inO h.gi o).resolve_left c2
  rw [w_fill_n h.gi ht ho]
  unfold n_fill
  by_cases d0 : gn g (208 + 9 * o) = 0
  · rw [if_neg (not_not_intro d0)]
    by_cases d1 : gn g (11 + 19 * t) = 1
    · rw [if_neg (not_not_intro d1)]
      by_cases d2 : gt g t < gn g (205 + 9 * o)
      · rw [if_pos d2]; exact h3
      · rw [if_neg d2]
        by_cases d3 : ¬ g_str g t < g (206 + 9 * o) ∧ ¬ g (207 + 9 * o) < g_str g t
        · rw [if_neg (not_not_intro d3)]
          exact (gk_fill h hen ht ho (by omega) d1).mono (by omega)
        · rw [if_pos d3]; exact h3
    · rw [if_pos d1]; exact h3
  · rw [if_pos d0]; exact h3
theorem gk_wdo (h : GK g en) (hen : en < 200000) (a t o v : Int32) : GK (w_do g a t o v).2 (en + 3) := by
  unfold w_do
  by_cases c1 : a = nI 116
  · rw [if_pos c1]; exact gk_wpour h hen _ _ _
  · rw [if_neg c1]
    by_cases c2 : a = nI 108
    · rw [if_pos c2]; exact gk_wspill h hen _ _ _
    · rw [if_neg c2]
      by_cases c3 : a = nI 102
      · rw [if_pos c3]; exact gk_wfill h hen _ _
      · rw [if_neg c3]
        by_cases c4 : a = nI 99
        · rw [if_pos c4]; exact gk_wscrub h _
        · rw [if_neg c4]; exact gk_wpass h _
end
def wk (g : BqG) (k : BqC) : Int32 × BqG := w_do g k.1 k.2.1 k.2.2.1 k.2.2.2
/-- the row after the first i commands, and the first that is refused -/
def ds (cs : Nat → BqC) (g : BqG) : Nat → BqG
  | 0 => g
  | i + 1 => (wk (ds cs g i) (cs i)).2
def fz (cs : Nat → BqC) (g : BqG) : Nat → Option Nat
  | 0 => none
  | i + 1 => match fz cs g i with
    | some q => some q
    | none => if (wk (ds cs g i) (cs i)).1 < 0 then some i else none
theorem fz_some {cs : Nat → BqC} {g : BqG} {i q : Nat} (h : fz cs g i = some q) : ∀ d, fz cs g (i + d) = some q
  | 0 => h
  | d + 1 => by
    show (match fz cs g (i + d) with | some q => some q | none => _) = _
    rw [fz_some h d]
theorem fz_hit {cs : Nat → BqC} {g : BqG} {i n : Nat} (hi : i < n) (h : fz cs g i = none) (hw : (wk (ds cs g i) (cs i)).1 < 0) : fz cs g n = some i := by
  have e : fz cs g (i + 1) = some i := by
    show (match fz cs g i with | some q => some q | none => _) = _
    rw [h]; exact if_pos hw
  have := fz_some e (n - (i + 1))
  rwa [show i + 1 + (n - (i + 1)) = n by omega] at this
theorem fz_no {cs : Nat → BqC} {g : BqG} {i : Nat} (h : fz cs g i = none) (hw : ¬ (wk (ds cs g i) (cs i)).1 < 0) : fz cs g (i + 1) = none := by
  show (match fz cs g i with | some q => some q | none => _) = _
  rw [h]; exact if_neg hw
theorem ds_gk {cs : Nat → BqC} {g : BqG} {en : Nat} (h : GK g en) : ∀ i, en + 3 * i < 200000 → GK (ds cs g i) (en + 3 * i)
  | 0, _ => h
  | i + 1, hi => gk_wdo (ds_gk h i (by omega)) (by omega) _ _ _ _
/-- a run: the text read, then the commands -/
def p_run (g : BqG) (h : Nat → BqG) (ch : Nat) (y : Int32) (r : Bool × Nat × Nat × (Nat → BqC)) : BqR := if ¬ r.1 = true then ((-100) - nI r.2.1, g, h, ch, y) else match fz r.2.2.2 g r.2.2.1 with
  | some q => ((-200) - nI q, g, h, ch, -(wk (ds r.2.2.2 g q) (r.2.2.2 q)).1)
  | none => chg g (ds r.2.2.2 g r.2.2.1) h ch y (nI r.2.2.1)
theorem p_run_w {g : BqG} {h : Nat → BqG} {ch : Nat} {y : Int32} {r : Bool × Nat × Nat × (Nat → BqC)} (hr : ¬ r.1 = true) : p_run g h ch y r = ((-100) - nI r.2.1, g, h, ch, y) := if_pos hr
theorem p_run_f {g : BqG} {h : Nat → BqG} {ch q : Nat} {y : Int32} {r : Bool × Nat × Nat × (Nat → BqC)} (hr : r.1 = true) (hf : fz r.2.2.2 g r.2.2.1 = some q) : p_run g h ch y r = ((-200) - nI q, g, h, ch, -(wk (ds r.2.2.2 g q) (r.2.2.2 q)).1) := by
  unfold p_run
  rw [if_neg (not_not_intro hr), hf]
theorem p_run_o {g : BqG} {h : Nat → BqG} {ch : Nat} {y : Int32} {r : Bool × Nat × Nat × (Nat → BqC)} (hr : r.1 = true) (hf : fz r.2.2.2 g r.2.2.1 = none) : p_run g h ch y r = chg g (ds r.2.2.2 g r.2.2.1) h ch y (nI r.2.2.1) := by
  unfold p_run
  rw [if_neg (not_not_intro hr), hf]
/-! how many commands a text holds -/
theorem pR_n {B : Nat → Int32} {l : Nat} : ∀ (k i p : Nat) (cs : Nat → BqC), 3 * i ≤ p → p ≤ l → (pR B l k i p cs).1 = true → 3 * (pR B l k i p cs).2.2.1 ≤ l + 1
  | 0, i, p, cs, _, _, h => Bool.noConfusion h
  | k + 1, i, p, cs, h1, h2, h => by
    have hle := pC_le (B := B) h2
    have e : pR B l (k + 1) i p cs = if (pC B l p).1.2 = true then (false, (pC B l p).1.1, i, cs) else if l ≤ (pC B l p).1.1 then (true, (pC B l p).1.1, i + 1, bq_r cs i (pC B l p).2) else if hr B l (pC B l p).1.1 = nI 59 then pR B l k (i + 1) ((pC B l p).1.1 + 1) (bq_r cs i (pC B l p).2) else (false, (pC B l p).1.1, i + 1, cs) := rfl
    generalize er : pC B l p = r at hle e
    by_cases c1 : r.1.2 = true
    · rw [e, if_pos c1] at h; exact Bool.noConfusion h
    have h3 := hle.2.2 (by simpa using c1)
    by_cases c2 : l ≤ r.1.1
    · rw [e, if_neg c1, if_pos c2]
      show 3 * (i + 1) ≤ l + 1
      omega
    by_cases c3 : hr B l r.1.1 = nI 59
    · rw [e, if_neg c1, if_neg c2, if_pos c3] at h ⊢
      exact pR_n k (i + 1) (r.1.1 + 1) _ (by omega) (by omega) h
    · rw [e, if_neg c1, if_neg c2, if_neg c3] at h; exact Bool.noConfusion h
/-! two texts alike -/
section
variable {B B' : Nat → Int32} {l : Nat}
theorem pS_c (e : hr B l = hr B' l) {c : Int32} {s : BqT} : pS B l c s = pS B' l c s := by unfold pS; rw [e]
theorem pD_c (e : hr B l = hr B' l) {s : BqT} : pD B l s = pD B' l s := by
  unfold pD
  show (if s.2 = false ∧ dgt (hr B l s.1) then _ else _) = (if s.2 = false ∧ dgt (hr B' l s.1) then _ else _)
  rw [e]
theorem pL_c (e : hr B l = hr B' l) : ∀ (k : Nat) (v : Int32) (s : BqT), pL B l k v s = pL B' l k v s
  | 0, v, s => rfl
  | k + 1, v, s => by
    show (if s.2 = false ∧ dgt (hr B l s.1) then pL B l k (v * nI 10 + (hr B l s.1 - nI 48)) (s.1 + 1, false) else (v, s)) = (if s.2 = false ∧ dgt (hr B' l s.1) then pL B' l k (v * nI 10 + (hr B' l s.1 - nI 48)) (s.1 + 1, false) else (v, s))
    rw [e, pL_c e k]
theorem pN_c (e : hr B l = hr B' l) {s : BqT} : pN B l s = pN B' l s := by
  unfold pN
  rw [pD_c e, pL_c e]
theorem pC_c (e : hr B l = hr B' l) {p : Nat} : pC B l p = pC B' l p := by
  unfold pC pc_c pc_d pc_f pc_l pc_t
  simp only [e, pD_c e, pN_c e, pS_c e]
theorem pR_c (e : hr B l = hr B' l) : ∀ (k i p : Nat) (cs : Nat → BqC), pR B l k i p cs = pR B' l k i p cs
  | 0, i, p, cs => rfl
  | k + 1, i, p, cs => by
    show (if (pC B l p).1.2 = true then (false, (pC B l p).1.1, i, cs) else if l ≤ (pC B l p).1.1 then (true, (pC B l p).1.1, i + 1, bq_r cs i (pC B l p).2) else if hr B l (pC B l p).1.1 = nI 59 then pR B l k (i + 1) ((pC B l p).1.1 + 1) (bq_r cs i (pC B l p).2) else (false, (pC B l p).1.1, i + 1, cs)) = (if (pC B' l p).1.2 = true then (false, (pC B' l p).1.1, i, cs) else if l ≤ (pC B' l p).1.1 then (true, (pC B' l p).1.1, i + 1, bq_r cs i (pC B' l p).2) else if hr B' l (pC B' l p).1.1 = nI 59 then pR B' l k (i + 1) ((pC B' l p).1.1 + 1) (bq_r cs i (pC B' l p).2) else (false, (pC B' l p).1.1, i + 1, cs))
    rw [pC_c e, e, pR_c e k]
end
theorem hr_c {B B' : Nat → Int32} {l : Nat} (h : ∀ j, j < l → B j = B' j) : hr B l = hr B' l := by
  funext p
  unfold hr
  by_cases c : p < l
  · rw [if_pos c, if_pos c, h p c]
  · rw [if_neg c, if_neg c]
/-! the feeding of bytes -/
def fb (a b c d e : Int32) (k : Nat) : Int32 := if k = 0 then a else if k = 1 then b else if k = 2 then c else if k = 3 then d else e
/-- answer, length, bytes -/
def p_feed (l : Nat) (B : Nat → Int32) (n a b c d e : Int32) : Int32 × Nat × (Nat → Int32) := if (n < nI 1 ∨ ¬ n ≤ nI 5) ∨ (a < nI 0 ∨ ¬ a ≤ nI 127) ∨ (b < nI 0 ∨ ¬ b ≤ nI 127) ∨ (c < nI 0 ∨ ¬ c ≤ nI 127) ∨ (d < nI 0 ∨ ¬ d ≤ nI 127) ∨ (e < nI 0 ∨ ¬ e ≤ nI 127) then ((-2), l, B) else if 60 < l + n.toNatClampNeg then ((-4), l, B) else (nI (l + n.toNatClampNeg), l + n.toNatClampNeg, fun j => if l ≤ j ∧ j < l + n.toNatClampNeg then fb a b c d e (j - l) else B j)
theorem p_feed_bad {l : Nat} {B : Nat → Int32} {n a b c d e : Int32} (h : (n < nI 1 ∨ ¬ n ≤ nI 5) ∨ (a < nI 0 ∨ ¬ a ≤ nI 127) ∨ (b < nI 0 ∨ ¬ b ≤ nI 127) ∨ (c < nI 0 ∨ ¬ c ≤ nI 127) ∨ (d < nI 0 ∨ ¬ d ≤ nI 127) ∨ (e < nI 0 ∨ ¬ e ≤ nI 127)) : p_feed l B n a b c d e = ((-2), l, B) := if_pos h
theorem p_feed_full {l k : Nat} {B : Nat → Int32} {a b c d e : Int32} (hk : 1 ≤ k) (hk5 : k ≤ 5) (ha : ¬ (a < nI 0 ∨ ¬ a ≤ nI 127)) (hb : ¬ (b < nI 0 ∨ ¬ b ≤ nI 127)) (hc : ¬ (c < nI 0 ∨ ¬ c ≤ nI 127)) (hd : ¬ (d < nI 0 ∨ ¬ d ≤ nI 127)) (he : ¬ (e < nI 0 ∨ ¬ e ≤ nI 127)) (hl : 60 < l + k) : p_feed l B (nI k) a b c d e = ((-4), l, B) := by
  unfold p_feed
  rw [if_neg (fun z => z.elim (bq_nin hk hk5 (by decide)) (fun z => z.elim ha (fun z => z.elim hb (fun z => z.elim hc (fun z => z.elim hd he))))), nI_clamp (by omega), if_pos hl]
theorem p_feed_ok {l k : Nat} {B : Nat → Int32} {a b c d e : Int32} (hk : 1 ≤ k) (hk5 : k ≤ 5) (ha : ¬ (a < nI 0 ∨ ¬ a ≤ nI 127)) (hb : ¬ (b < nI 0 ∨ ¬ b ≤ nI 127)) (hc : ¬ (c < nI 0 ∨ ¬ c ≤ nI 127)) (hd : ¬ (d < nI 0 ∨ ¬ d ≤ nI 127)) (he : ¬ (e < nI 0 ∨ ¬ e ≤ nI 127)) (hl : ¬ 60 < l + k) : p_feed l B (nI k) a b c d e = (nI (l + k), l + k, fun j => if l ≤ j ∧ j < l + k then fb a b c d e (j - l) else B j) := by
  unfold p_feed
  rw [if_neg (fun z => z.elim (bq_nin hk hk5 (by decide)) (fun z => z.elim ha (fun z => z.elim hb (fun z => z.elim hc (fun z => z.elim hd he))))), nI_clamp (by omega), if_neg hl]
