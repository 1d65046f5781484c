/-! the text of a run, read: pure, and the class's reading -/
def hr (B : Nat → Int32) (l p : Nat) : Int32 := if p < l then B p else (-1)
abbrev dgt (x : Int32) : Prop := ¬ (x < nI 48 ∨ ¬ x ≤ nI 57)
abbrev BqT : Type := Nat × Bool
abbrev BqC : Type := Int32 × Int32 × Int32 × Int32
section
variable (B : Nat → Int32) (l : Nat)
abbrev pg (s : BqT) : Prop := s.2 = false ∧ dgt (hr B l s.1)
def pS (c : Int32) (s : BqT) : BqT := if s.2 = false ∧ hr B l s.1 = c then (s.1 + 1, false) else (s.1, true)
def pD (s : BqT) : Int32 × BqT := if pg B l s then (hr B l s.1 - nI 48, (s.1 + 1, false)) else (nI 0, (s.1, true))
def pL : Nat → Int32 → BqT → Int32 × BqT
  | 0, v, s => (v, s)
  | k + 1, v, s => if pg B l s then pL k (v * nI 10 + (hr B l s.1 - nI 48)) (s.1 + 1, false) else (v, s)
def pN (s : BqT) : Int32 × BqT := pL B l 3 (pD B l s).1 (pD B l s).2
def pc_c (s : BqT) : BqT × BqC := ((pD B l s).2, (nI 99, (pD B l s).1, nI 0, nI 0))
def pc_d (s : BqT) : BqT × BqC := ((pN B l s).2, (nI 100, nI 0, nI 0, (pN B l s).1))
def pc_f (s : BqT) : BqT × BqC := ((pN B l (pS B l (nI 35) (pD B l s).2)).2, (nI 102, (pD B l s).1, nI 0, (pN B l (pS B l (nI 35) (pD B l s).2)).1))
def pc_l (s : BqT) : BqT × BqC := ((pD B l (pS B l (nI 47) (pN B l (pS B l (nI 58) (pD B l s).2)).2)).2, (nI 108, (pD B l s).1, (pD B l (pS B l (nI 47) (pN B l (pS B l (nI 58) (pD B l s).2)).2)).1, (pN B l (pS B l (nI 58) (pD B l s).2)).1))
def pc_t (s : BqT) : BqT × BqC := ((pN B l (pS B l (nI 58) (pD B l (pS B l (nI 62) (pD B l s).2)).2)).2, (nI 116, (pD B l s).1, (pD B l (pS B l (nI 62) (pD B l s).2)).1, (pN B l (pS B l (nI 58) (pD B l (pS B l (nI 62) (pD B l s).2)).2)).1))
def pC (p : Nat) : BqT × BqC := if hr B l p = nI 99 then pc_c B l (p + 1, false) else if hr B l p = nI 100 then pc_d B l (p + 1, false) else if hr B l p = nI 102 then pc_f B l (p + 1, false) else if hr B l p = nI 108 then pc_l B l (p + 1, false) else if hr B l p = nI 116 then pc_t B l (p + 1, false) else ((p, true), (nI 0, nI 0, nI 0, nI 0))
/-- at most k commands from the i-th on: right?, place, how many, the commands -/
def pR : Nat → Nat → Nat → (Nat → BqC) → Bool × Nat × Nat × (Nat → BqC)
  | 0, i, p, cs => (false, p, i, cs)
  | k + 1, i, p, cs => if (pC B l p).1.2 = true then (false, (pC B l p).1.1, i, cs) else if l ≤ (pC B l p).1.1 then (true, (pC B l p).1.1, i + 1, bq_r cs i (pC B l p).2) else if hr B l (pC B l p).1.1 = nI 59 then pR k (i + 1) ((pC B l p).1.1 + 1) (bq_r cs i (pC B l p).2) else (false, (pC B l p).1.1, i + 1, cs)
end
theorem hr_in {B : Nat → Int32} {l p : Nat} (h : p < l) : hr B l p = B p := if_pos h
theorem hr_no {B : Nat → Int32} {l p : Nat} (h : ¬ p < l) : hr B l p = (-1) := if_neg h
theorem hr_lt {B : Nat → Int32} {l p k : Nat} (hk : k < 128) (h : hr B l p = nI k) : p < l := by
  refine Decidable.byContradiction fun q => ?_
  rw [hr_no q] at h
  have := congrArg Int32.toInt h
  rw [nI_toInt (by omega)] at this
  rw [show (-1 : Int32).toInt = -1 from rfl] at this
  omega
theorem dgt_lt {B : Nat → Int32} {l p : Nat} (h : dgt (hr B l p)) : p < l := by
  refine Decidable.byContradiction fun q => h (Or.inl ?_)
  rw [hr_no q]
  decide
theorem dgt_5 : ¬ dgt (-5) := fun h => h (Or.inl (by decide))
/-! how far reading goes -/
section
variable {B : Nat → Int32} {l : Nat}
theorem pS_le {k : Nat} (hk : k < 128) {s : BqT} (h : s.1 ≤ l) : s.1 ≤ (pS B l (nI k) s).1 ∧ (pS B l (nI k) s).1 ≤ l := by
  unfold pS
  by_cases c : s.2 = false ∧ hr B l s.1 = nI k
  · rw [if_pos c]
    have := hr_lt hk c.2
    exact ⟨by show s.1 ≤ s.1 + 1; omega, by show s.1 + 1 ≤ l; omega⟩
  · rw [if_neg c]
    exact ⟨Nat.le_refl _, h⟩
theorem pD_le {s : BqT} (h : s.1 ≤ l) : s.1 ≤ (pD B l s).2.1 ∧ (pD B l s).2.1 ≤ l ∧ ((pD B l s).2.2 = false → s.1 + 1 ≤ (pD B l s).2.1) := by
  unfold pD
  by_cases c : pg B l s
  · rw [if_pos c]
    have := dgt_lt c.2
    exact ⟨by show s.1 ≤ s.1 + 1; omega, by show s.1 + 1 ≤ l; omega, fun _ => Nat.le_refl _⟩
  · rw [if_neg c]
    exact ⟨Nat.le_refl _, h, fun q => Bool.noConfusion q⟩
theorem pL_le : ∀ (k : Nat) (v : Int32) (s : BqT), s.1 ≤ l → s.1 ≤ (pL B l k v s).2.1 ∧ (pL B l k v s).2.1 ≤ l ∧ ((pL B l k v s).2.2 = s.2)
  | 0, v, s, h => ⟨Nat.le_refl _, h, rfl⟩
  | k + 1, v, s, h => by
    by_cases c : pg B l s
    · rw [show pL B l (k + 1) v s = pL B l k (v * nI 10 + (hr B l s.1 - nI 48)) (s.1 + 1, false) from if_pos c]
      have hl := dgt_lt c.2
      have ih := pL_le k (v * nI 10 + (hr B l s.1 - nI 48)) (s.1 + 1, false) (by show s.1 + 1 ≤ l; omega)
      have i1 : s.1 + 1 ≤ _ := ih.1
      exact ⟨by omega, ih.2.1, by rw [ih.2.2, c.1]⟩
    · rw [show pL B l (k + 1) v s = (v, s) from if_neg c]
      exact ⟨Nat.le_refl _, h, rfl⟩
theorem pN_le {s : BqT} (h : s.1 ≤ l) : s.1 ≤ (pN B l s).2.1 ∧ (pN B l s).2.1 ≤ l ∧ ((pN B l s).2.2 = false → s.1 + 1 ≤ (pN B l s).2.1) := by
  have d := pD_le (B := B) h
  have e := pL_le (B := B) 3 (pD B l s).1 (pD B l s).2 d.2.1
  unfold pN
  exact ⟨by omega, e.2.1, fun q => by have := d.2.2 (e.2.2 ▸ q); omega⟩
theorem pC_le {p : Nat} (h : p ≤ l) : p ≤ (pC B l p).1.1 ∧ (pC B l p).1.1 ≤ l ∧ ((pC B l p).1.2 = false → p + 2 ≤ (pC B l p).1.1) := by
  unfold pC
  have hp : ∀ k, k < 128 → hr B l p = nI k → (p + 1, false).1 ≤ l := fun k hk e => hr_lt hk e
  split
  · rename_i c
    have d := pD_le (B := B) (hp 99 (by decide) c)
    have d1 : p + 1 ≤ _ := d.1
    exact ⟨by show p ≤ (pD B l (p + 1, false)).2.1; omega, d.2.1, d.2.2⟩
  · split
    · rename_i c
      have d := pN_le (B := B) (hp 100 (by decide) c)
      have d1 : p + 1 ≤ _ := d.1
      exact ⟨by show p ≤ (pN B l (p + 1, false)).2.1; omega, d.2.1, d.2.2⟩
    · split
      · rename_i c
        have d := pD_le (B := B) (hp 102 (by decide) c)
        have d1 : p + 1 ≤ _ := d.1
        have e := pS_le (B := B) (k := 35) (by decide) d.2.1
        have f := pN_le (B := B) e.2
        exact ⟨by show p ≤ (pN B l (pS B l (nI 35) (pD B l (p + 1, false)).2)).2.1; omega, f.2.1, fun q => by have := f.2.2 q; show p + 2 ≤ (pN B l (pS B l (nI 35) (pD B l (p + 1, false)).2)).2.1; omega⟩
      · split
        · rename_i c
          have d := pD_le (B := B) (hp 108 (by decide) c)
          have d1 : p + 1 ≤ _ := d.1
          have e := pS_le (B := B) (k := 58) (by decide) d.2.1
          have f := pN_le (B := B) e.2
          have e2 := pS_le (B := B) (k := 47) (by decide) f.2.1
          have f2 := pD_le (B := B) e2.2
          exact ⟨by show p ≤ (pD B l (pS B l (nI 47) (pN B l (pS B l (nI 58) (pD B l (p + 1, false)).2)).2)).2.1; omega, f2.2.1, fun q => by have := f2.2.2 q; show p + 2 ≤ (pD B l (pS B l (nI 47) (pN B l (pS B l (nI 58) (pD B l (p + 1, false)).2)).2)).2.1; omega⟩
        · split
          · rename_i c
            have d := pD_le (B := B) (hp 116 (by decide) c)
            have d1 : p + 1 ≤ _ := d.1
            have e := pS_le (B := B) (k := 62) (by decide) d.2.1
            have f := pD_le (B := B) e.2
            have e2 := pS_le (B := B) (k := 58) (by decide) f.2.1
            have f2 := pN_le (B := B) e2.2
            exact ⟨by show p ≤ (pN B l (pS B l (nI 58) (pD B l (pS B l (nI 62) (pD B l (p + 1, false)).2)).2)).2.1; omega, f2.2.1, fun q => by have := f2.2.2 q; show p + 2 ≤ (pN B l (pS B l (nI 58) (pD B l (pS B l (nI 62) (pD B l (p + 1, false)).2)).2)).2.1; omega⟩
          · exact ⟨Nat.le_refl _, h, fun q => Bool.noConfusion q⟩
theorem pC_end {p : Nat} (h : l ≤ p) : (pC B l p).1 = (p, true) := by
  have e : hr B l p = (-1) := hr_no (by omega)
  unfold pC
  rw [e, if_neg (by decide), if_neg (by decide), if_neg (by decide), if_neg (by decide), if_neg (by decide)]
end
/-! the class's tape -/
def TS (I : BqI) (t : Nat) (B : Nat → Int32) (l : Nat) (s : BqT) : Prop := I t 0 = nI l ∧ I (t + 1) = B ∧ I t 2 = nI s.1 ∧ I t 3 = (if s.2 = true then nI 1 else nI 0) ∧ s.1 ≤ l ∧ l ≤ 60
section
variable {I : BqI} {t : Nat} {B : Nat → Int32} {l : Nat} {s : BqT}
theorem tn_f (h : TS I t B l s) (hs : s.2 = false) : tn I t = if s.1 < l then B s.1 else (-5) := by
  obtain ⟨h0, h1, h2, h3, h4, h5⟩ := h
  rw [hs, if_neg (by decide)] at h3
  unfold tn
  rw [h0, h2, h3, if_neg (by decide), if_neg (nI_pos (by omega))]
  by_cases c : s.1 < l
  · rw [if_neg (nI_ge c (by omega)), if_neg (nI_ge (show s.1 < 60 by omega) (by decide)), h1, nI_clamp (by omega), if_pos c]
  · rw [if_pos (nI_le (by omega) (by omega)), if_neg c]
theorem tn_t (h : TS I t B l s) (hs : s.2 = true) : tn I t = (-5) := by
  have h3 := h.2.2.2.1
  rw [hs, if_pos rfl] at h3
  unfold tn
  rw [h3, if_pos (by decide)]
theorem tn_eq (h : TS I t B l s) {k : Nat} (hk : k < 128) : tn I t = nI k ↔ (s.2 = false ∧ hr B l s.1 = nI k) := by
  have n5 : ¬ (-5 : Int32) = nI k := fun e => by
    have := congrArg Int32.toInt e
    rw [nI_toInt (by omega), show (-5 : Int32).toInt = -5 from rfl] at this
    omega
  by_cases hs : s.2 = false
  · rw [tn_f h hs]
    by_cases c : s.1 < l
    · rw [if_pos c, hr_in c]
      exact ⟨fun e => ⟨hs, e⟩, fun e => e.2⟩
    · rw [if_neg c]
      exact ⟨fun e => absurd e n5, fun e => absurd (hr_lt hk e.2) c⟩
  · rw [tn_t h (by simpa using hs)]
    exact ⟨fun e => absurd e n5, fun e => absurd e.1 hs⟩
theorem tdg_pg (h : TS I t B l s) : tdg I t = true ↔ pg B l s := by
  have key : tdg I t = true ↔ dgt (tn I t) := by
    unfold tdg
    rw [Bool.and_eq_true, decide_eq_true_iff, decide_eq_true_iff, Int32.not_lt]
    show _ ↔ ¬ (tn I t < nI 48 ∨ ¬ tn I t ≤ nI 57)
    rw [Int32.not_lt]
    constructor
    · rintro ⟨a, b⟩ (c | c)
      · exact absurd c (Int32.not_lt.mpr a)
      · exact c b
    · intro c
      exact ⟨Int32.not_lt.mp (fun z => c (Or.inl z)), Decidable.byContradiction (fun z => c (Or.inr z))⟩
  rw [key]
  by_cases hs : s.2 = false
  · rw [tn_f h hs]
    by_cases c : s.1 < l
    · rw [if_pos c, ← hr_in (B := B) c]
      exact ⟨fun e => ⟨hs, e⟩, fun e => e.2⟩
    · rw [if_neg c]
      exact ⟨fun e => absurd e dgt_5, fun e => absurd (dgt_lt e.2) c⟩
  · rw [tn_t h (by simpa using hs)]
    exact ⟨fun e => absurd e dgt_5, fun e => absurd e.1 hs⟩
theorem TS.ta (h : TS I t B l s) (hs : s.2 = false) (hl : s.1 < l) : TS (ta_I I t) t B l (s.1 + 1, false) := by
  obtain ⟨h0, h1, h2, h3, h4, h5⟩ := h
  unfold ta_I
  refine ⟨(bq_u_no (by omega)).trans h0, (bq_u_ne (by omega)).trans h1, ?_, ?_, hl, h5⟩
  · rw [bq_u_at, h2, nI_add]
  · rw [bq_u_no (by omega), h3, hs]
theorem TS.wr (h : TS I t B l s) : TS (bq_u I t 3 (nI 1)) t B l (s.1, true) := by
  obtain ⟨h0, h1, h2, h3, h4, h5⟩ := h
  exact ⟨(bq_u_no (by omega)).trans h0, (bq_u_ne (by omega)).trans h1, (bq_u_no (by omega)).trans h2, (bq_u_at _ _ _ _).trans (if_pos rfl).symm, h4, h5⟩
theorem TS.fr {I' : BqI} (h : TS I t B l s) (e0 : I' t = I t) (e1 : I' (t + 1) = I (t + 1)) : TS I' t B l s := by
  obtain ⟨h0, h1, h2, h3, h4, h5⟩ := h
  exact ⟨by rw [e0]; exact h0, e1.trans h1, by rw [e0]; exact h2, by rw [e0]; exact h3, h4, h5⟩
theorem TS.rs (h : TS I t B l s) {k : Nat} (hk : k < 128) : TS (rs_I I t (nI k)) t B l (pS B l (nI k) s) := by
  unfold rs_I pS
  by_cases c : s.2 = false ∧ hr B l s.1 = nI k
  · rw [if_pos ((tn_eq h hk).mpr c), if_pos c]
    exact h.ta c.1 (hr_lt hk c.2)
  · rw [if_neg (fun z => c ((tn_eq h hk).mp z)), if_neg c]
    exact h.wr
theorem tn_pg (h : TS I t B l s) (c : pg B l s) : tn I t = hr B l s.1 := by
  rw [tn_f h c.1, if_pos (dgt_lt c.2), hr_in (dgt_lt c.2)]
theorem TS.rd (h : TS I t B l s) : rd_r I t = (pD B l s).1 ∧ TS (rd_I I t) t B l (pD B l s).2 := by
  unfold rd_r rd_I pD
  by_cases c : pg B l s
  · rw [if_pos ((tdg_pg h).mpr c), if_pos ((tdg_pg h).mpr c), if_pos c, tn_pg h c]
    exact ⟨rfl, h.ta c.1 (dgt_lt c.2)⟩
  · rw [if_neg (fun z => c ((tdg_pg h).mp z)), if_neg (fun z => c ((tdg_pg h).mp z)), if_neg c]
    exact ⟨rfl, h.wr⟩
end
theorem TS.rl {t : Nat} {B : Nat → Int32} {l : Nat} : ∀ (k : Nat) (v : Int32) (I : BqI) (s : BqT), TS I t B l s → (rn_l t k v I).1 = (pL B l k v s).1 ∧ TS (rn_l t k v I).2 t B l (pL B l k v s).2
  | 0, v, I, s, h => ⟨rfl, h⟩
  | k + 1, v, I, s, h => by
    by_cases c : pg B l s
    · rw [rn_t ((tdg_pg h).mpr c), show pL B l (k + 1) v s = pL B l k (v * nI 10 + (hr B l s.1 - nI 48)) (s.1 + 1, false) from if_pos c]
      have d := h.rd
      rw [show pD B l s = (hr B l s.1 - nI 48, (s.1 + 1, false)) from if_pos c] at d
      rw [d.1]
      exact TS.rl k _ _ _ d.2
    · rw [rn_f (fun z => c ((tdg_pg h).mp z)), show pL B l (k + 1) v s = (v, s) from if_neg c]
      exact ⟨rfl, h⟩
theorem TS.rn {I : BqI} {t : Nat} {B : Nat → Int32} {l : Nat} {s : BqT} (h : TS I t B l s) : rn_r I t = (pN B l s).1 ∧ TS (rn_I I t) t B l (pN B l s).2 := by
  have d := h.rd
  unfold rn_r rn_I pN
  rw [← d.1]
  exact TS.rl 3 _ _ _ d.2
/-! frames -/
theorem rs_fr {I : BqI} {t a : Nat} {c : Int32} (h : a ≠ t) : rs_I I t c a = I a := by
  unfold rs_I ta_I
  split <;> exact bq_u_ne h
theorem rd_fr {I : BqI} {t a : Nat} (h : a ≠ t) : rd_I I t a = I a := by
  unfold rd_I ta_I
  split <;> exact bq_u_ne h
theorem rl_fr {t a : Nat} (h : a ≠ t) : ∀ (k : Nat) (v : Int32) (I : BqI), (rn_l t k v I).2 a = I a
  | 0, v, I => rfl
  | k + 1, v, I => by
    by_cases c : tdg I t = true
    · rw [rn_t c, rl_fr h k, rd_fr h]
    · rw [rn_f c]
theorem rn_fr {I : BqI} {t a : Nat} (h : a ≠ t) : rn_I I t a = I a := by
  unfold rn_I
  rw [rl_fr h, rd_fr h]
theorem rcD_fr {I : BqI} {t c k a : Nat} (h : a ≠ t) (h2 : a ≠ c) : rcD I t c k a = I a := by
  unfold rcD
  rw [bq_u_ne h2, rd_fr h]
theorem rcN_fr {I : BqI} {t c k a : Nat} (h : a ≠ t) (h2 : a ≠ c) : rcN I t c k a = I a := by
  unfold rcN
  rw [bq_u_ne h2, rn_fr h]
theorem rcD_no {I : BqI} {t c k j : Nat} (h : c ≠ t) (h2 : j ≠ k) : rcD I t c k c j = I c j := by
  unfold rcD
  rw [bq_u_no (fun z => h2 z.2), rd_fr h]
theorem rcN_no {I : BqI} {t c k j : Nat} (h : c ≠ t) (h2 : j ≠ k) : rcN I t c k c j = I c j := by
  unfold rcN
  rw [bq_u_no (fun z => h2 z.2), rn_fr h]
theorem rcD_at {I : BqI} {t c k : Nat} : rcD I t c k c k = rd_r I t := by unfold rcD; rw [bq_u_at]
theorem rcN_at {I : BqI} {t c k : Nat} : rcN I t c k c k = rn_r I t := by unfold rcN; rw [bq_u_at]
theorem TS.D {I : BqI} {t c k : Nat} {B : Nat → Int32} {l : Nat} {s : BqT} (h : TS I t B l s) (hc : t + 2 < c) : TS (rcD I t c k) t B l (pD B l s).2 := (h.rd.2).fr (by unfold rcD; rw [bq_u_ne (by omega)]) (by unfold rcD; rw [bq_u_ne (by omega)])
theorem TS.N {I : BqI} {t c k : Nat} {B : Nat → Int32} {l : Nat} {s : BqT} (h : TS I t B l s) (hc : t + 2 < c) : TS (rcN I t c k) t B l (pN B l s).2 := (h.rn.2).fr (by unfold rcN; rw [bq_u_ne (by omega)]) (by unfold rcN; rw [bq_u_ne (by omega)])
/-- cell c of the class holds the command k -/
def Cm (I : BqI) (c : Nat) (k : BqC) : Prop := ∀ g : BqG, w_do g (I c 0) (I c 1) (I c 2) (I c 3) = w_do g k.1 k.2.1 k.2.2.1 k.2.2.2
theorem Cm.fr {I I' : BqI} {c : Nat} {k : BqC} (h : Cm I c k) (e : I' c = I c) : Cm I' c k := by
  unfold Cm
  rw [e]
  exact h
theorem wd_99 {g : BqG} {a o v : Int32} : w_do g (nI 99) a o v = w_scrub g a := by
  unfold w_do
  rw [if_neg (by decide), if_neg (by decide), if_neg (by decide), if_pos rfl]
theorem wd_100 {g : BqG} {a o v : Int32} : w_do g (nI 100) a o v = w_pass g v := by
  unfold w_do
  rw [if_neg (by decide), if_neg (by decide), if_neg (by decide), if_neg (by decide)]
theorem wd_102 {g : BqG} {a o v : Int32} : w_do g (nI 102) a o v = w_fill g a v := by
  unfold w_do
  rw [if_neg (by decide), if_neg (by decide), if_pos rfl]
theorem wd_108 {g : BqG} {a o v : Int32} : w_do g (nI 108) a o v = w_spill g a v o := by
  unfold w_do
  rw [if_neg (by decide), if_pos rfl]
theorem wd_116 {g : BqG} {a o v : Int32} : w_do g (nI 116) a o v = w_pour g a o v := by
  unfold w_do
  rw [if_pos rfl]
section
variable {I : BqI} {t c p : Nat} {B : Nat → Int32} {l : Nat}
theorem TS.z0 (h : TS I t B l (p, false)) (hc : t + 2 < c) (hp : p < l) : TS (rc0 I t c) t B l (p + 1, false) ∧ rc0 I t c c 0 = hr B l p := by
  have h2 : TS (bq_u I c 0 (tn I t)) t B l (p, false) := h.fr (bq_u_ne (by omega)) (bq_u_ne (by omega))
  refine ⟨h2.ta rfl hp, ?_⟩
  unfold rc0 ta_I
  rw [bq_u_ne (by omega), bq_u_at, tn_f h rfl]
  exact (if_pos hp).trans (hr_in hp).symm
theorem rc_ok (h : TS I t B l (p, false)) (hc : t + 2 < c) : TS (rc_I I t c) t B l (pC B l p).1 ∧ ((pC B l p).1.2 = false → Cm (rc_I I t c) c (pC B l p).2) ∧ ∀ a, a ≠ t → a ≠ c → rc_I I t c a = I a := by
  have hct : c ≠ t := by omega
  have f0 : ∀ a, a ≠ t → a ≠ c → rc0 I t c a = I a := fun a h1 h2 => by unfold rc0 ta_I; rw [bq_u_ne h1, bq_u_ne h2]
  by_cases hp : p < l
  · obtain ⟨h0, e0⟩ := h.z0 hc hp
    unfold rc_I pC
    rw [e0]
    by_cases c1 : hr B l p = nI 99
    · rw [if_pos c1, if_pos c1]
      refine ⟨h0.D hc, fun _ g => ?_, fun a h1 h2 => by rw [rcD_fr h1 h2, f0 a h1 h2]⟩
      show w_do g _ _ _ _ = w_do g (nI 99) (pD B l (p + 1, false)).1 (nI 0) (nI 0)
      rw [rcD_no hct (by decide), e0, c1, rcD_at, h0.rd.1, wd_99, wd_99]
    rw [if_neg c1, if_neg c1]
    by_cases c2 : hr B l p = nI 100
    · rw [if_pos c2, if_pos c2]
      refine ⟨h0.N hc, fun _ g => ?_, fun a h1 h2 => by rw [rcN_fr h1 h2, f0 a h1 h2]⟩
      show w_do g _ _ _ _ = w_do g (nI 100) (nI 0) (nI 0) (pN B l (p + 1, false)).1
      rw [rcN_no (j := 0) hct (by decide), e0, c2, rcN_at, h0.rn.1, wd_100, wd_100]
    rw [if_neg c2, if_neg c2]
    by_cases c3 : hr B l p = nI 102
    · rw [if_pos c3, if_pos c3]
      have h1 := h0.D (k := 1) hc
      have h2 := h1.rs (k := 35) (by decide)
      refine ⟨h2.N hc, fun _ g => ?_, fun a q1 q2 => by rw [rcN_fr q1 q2, rs_fr q1, rcD_fr q1 q2, f0 a q1 q2]⟩
      show w_do g _ _ _ _ = w_do g (nI 102) (pD B l (p + 1, false)).1 (nI 0) (pN B l (pS B l (nI 35) (pD B l (p + 1, false)).2)).1
      rw [rcN_no (j := 0) hct (by decide), rs_fr hct, rcD_no (j := 0) hct (by decide), e0, c3, rcN_no (j := 1) hct (by decide), rs_fr hct, rcD_at, h0.rd.1, rcN_at, h2.rn.1, wd_102, wd_102]
    rw [if_neg c3, if_neg c3]
    by_cases c4 : hr B l p = nI 108
    · rw [if_pos c4, if_pos c4]
      have h1 := h0.D (k := 1) hc
      have h2 := h1.rs (k := 58) (by decide)
      have h3 := h2.N (k := 3) hc
      have h4 := h3.rs (k := 47) (by decide)
      refine ⟨h4.D hc, fun _ g => ?_, fun a q1 q2 => by rw [rcD_fr q1 q2, rs_fr q1, rcN_fr q1 q2, rs_fr q1, rcD_fr q1 q2, f0 a q1 q2]⟩
      show w_do g _ _ _ _ = w_do g (nI 108) (pD B l (p + 1, false)).1 (pD B l (pS B l (nI 47) (pN B l (pS B l (nI 58) (pD B l (p + 1, false)).2)).2)).1 (pN B l (pS B l (nI 58) (pD B l (p + 1, false)).2)).1
      rw [rcD_no (j := 0) hct (by decide), rs_fr hct, rcN_no (j := 0) hct (by decide), rs_fr hct, rcD_no (j := 0) hct (by decide), e0, c4, rcD_no (j := 1) hct (by decide), rs_fr hct, rcN_no (j := 1) hct (by decide), rs_fr hct, rcD_at, h0.rd.1, rcD_at, h4.rd.1, rcD_no (j := 3) hct (by decide), rs_fr hct, rcN_at, h2.rn.1]
    rw [if_neg c4, if_neg c4]
    by_cases c5 : hr B l p = nI 116
    · rw [if_pos c5, if_pos c5]
      have h1 := h0.D (k := 1) hc
      have h2 := h1.rs (k := 62) (by decide)
      have h3 := h2.D (k := 2) hc
      have h4 := h3.rs (k := 58) (by decide)
      refine ⟨h4.N hc, fun _ g => ?_, fun a q1 q2 => by rw [rcN_fr q1 q2, rs_fr q1, rcD_fr q1 q2, rs_fr q1, rcD_fr q1 q2, f0 a q1 q2]⟩
      show w_do g _ _ _ _ = w_do g (nI 116) (pD B l (p + 1, false)).1 (pD B l (pS B l (nI 62) (pD B l (p + 1, false)).2)).1 (pN B l (pS B l (nI 58) (pD B l (pS B l (nI 62) (pD B l (p + 1, false)).2)).2)).1
      rw [rcN_no (j := 0) hct (by decide), rs_fr hct, rcD_no (j := 0) hct (by decide), rs_fr hct, rcD_no (j := 0) hct (by decide), e0, c5, rcN_no (j := 1) hct (by decide), rs_fr hct, rcD_no (j := 1) hct (by decide), rs_fr hct, rcD_at, h0.rd.1, rcN_no (j := 2) hct (by decide), rs_fr hct, rcD_at, h2.rd.1, rcN_at, h4.rn.1]
    rw [if_neg c5, if_neg c5]
    refine ⟨?_, fun q => Bool.noConfusion q, fun a q1 q2 => by rw [bq_u_ne q1, bq_u_ne q1, f0 a q1 q2]⟩
    obtain ⟨g0, g1, g2, g3, g4, g5⟩ := h0
    refine ⟨(bq_u_no (by omega)).trans ((bq_u_no (by omega)).trans g0), (bq_u_ne (by omega)).trans ((bq_u_ne (by omega)).trans g1), (bq_u_no (by omega)).trans ((bq_u_at _ _ _ _).trans ?_), (bq_u_at _ _ _ _).trans (if_pos rfl).symm, Nat.le_of_lt hp, g5⟩
    rw [g2, pk_sub (by show 1 ≤ p + 1; omega)]
    rfl
  · have e1 := pC_end (B := B) (l := l) (p := p) (by omega)
    have et : tn I t = (-5) := by rw [tn_f h rfl]; exact if_neg hp
    have e0 : rc0 I t c c 0 = (-5) := by unfold rc0 ta_I; rw [bq_u_ne hct, bq_u_at, et]
    rw [e1]
    unfold rc_I
    rw [e0, if_neg (by decide), if_neg (by decide), if_neg (by decide), if_neg (by decide), if_neg (by decide)]
    refine ⟨?_, fun q => Bool.noConfusion q, fun a q1 q2 => by rw [bq_u_ne q1, bq_u_ne q1, f0 a q1 q2]⟩
    obtain ⟨g0, g1, g2, g3, g4, g5⟩ := h
    have r2 : rc0 I t c t 2 = nI (p + 1) := by unfold rc0 ta_I; rw [bq_u_at, bq_u_ne (by omega), g2, nI_add]
    refine ⟨(bq_u_no (by omega)).trans ((bq_u_no (by omega)).trans ?_), (bq_u_ne (by omega)).trans ((bq_u_ne (by omega)).trans ((f0 _ (by omega) (by omega)).trans g1)), (bq_u_no (by omega)).trans ((bq_u_at _ _ _ _).trans ?_), (bq_u_at _ _ _ _).trans (if_pos rfl).symm, g4, g5⟩
    · unfold rc0 ta_I
      rw [bq_u_no (by omega), bq_u_ne (by omega)]
      exact g0
    · rw [r2, pk_sub (by omega)]
      rfl
theorem rc_wr (h : TS I t B l (p, true)) (hc : t + 2 < c) : rc_I I t c t 3 = nI 1 ∧ rc_I I t c t 2 = nI p ∧ ∀ a, a ≠ t → a ≠ c → rc_I I t c a = I a := by
  have hct : c ≠ t := by omega
  have f0 : ∀ a, a ≠ t → a ≠ c → rc0 I t c a = I a := fun a h1 h2 => by unfold rc0 ta_I; rw [bq_u_ne h1, bq_u_ne h2]
  have et : tn I t = (-5) := tn_t h rfl
  have e0 : rc0 I t c c 0 = (-5) := by unfold rc0 ta_I; rw [bq_u_ne hct, bq_u_at, et]
  have r2 : rc0 I t c t 2 = nI (p + 1) := by unfold rc0 ta_I; rw [bq_u_at, bq_u_ne (by omega), h.2.2.1, nI_add]
  unfold rc_I
  rw [e0, if_neg (by decide), if_neg (by decide), if_neg (by decide), if_neg (by decide), if_neg (by decide)]
  refine ⟨bq_u_at _ _ _ _, (bq_u_no (by omega)).trans ((bq_u_at _ _ _ _).trans ?_), fun a q1 q2 => by rw [bq_u_ne q1, bq_u_ne q1, f0 a q1 q2]⟩
  rw [r2, pk_sub (by omega)]
  rfl
end
theorem rs_4 {I : BqI} {t : Nat} {c : Int32} : rs_I I t c t 4 = I t 4 := by
  unfold rs_I ta_I
  split <;> exact bq_u_no (by omega)
theorem rd_4 {I : BqI} {t : Nat} : rd_I I t t 4 = I t 4 := by
  unfold rd_I ta_I
  split <;> exact bq_u_no (by omega)
theorem rl_4 {t : Nat} : ∀ (k : Nat) (v : Int32) (I : BqI), (rn_l t k v I).2 t 4 = I t 4
  | 0, v, I => rfl
  | k + 1, v, I => by
    by_cases c : tdg I t = true
    · rw [rn_t c, rl_4 k, rd_4]
    · rw [rn_f c]
theorem rn_4 {I : BqI} {t : Nat} : rn_I I t t 4 = I t 4 := by
  unfold rn_I
  rw [rl_4, rd_4]
theorem rcD_4 {I : BqI} {t c k : Nat} (h : c ≠ t) : rcD I t c k t 4 = I t 4 := by
  unfold rcD
  rw [bq_u_ne (by omega), rd_4]
theorem rcN_4 {I : BqI} {t c k : Nat} (h : c ≠ t) : rcN I t c k t 4 = I t 4 := by
  unfold rcN
  rw [bq_u_ne (by omega), rn_4]
theorem rc_4 (I : BqI) (t c : Nat) (h : c ≠ t) : rc_I I t c t 4 = I t 4 := by
  have e : rc0 I t c t 4 = I t 4 := by unfold rc0 ta_I; rw [bq_u_no (by omega), bq_u_ne (by omega)]
  unfold rc_I
  split
  · rw [rcD_4 h, e]
  · split
    · rw [rcN_4 h, e]
    · split
      · rw [rcN_4 h, rs_4, rcD_4 h, e]
      · split
        · rw [rcD_4 h, rs_4, rcN_4 h, rs_4, rcD_4 h, e]
        · split
          · rw [rcN_4 h, rs_4, rcD_4 h, rs_4, rcD_4 h, e]
          · rw [bq_u_no (by omega), bq_u_no (by omega), e]
/-- what the class's reading comes to -/
def RcR (I0 : BqI) (t l : Nat) (r : Bool × Nat × Nat × (Nat → BqC)) (w : Int32 × BqI) : Prop := w.1 = (if r.1 = true then nI 1 else nI 0) ∧ w.2 t 2 = nI r.2.1 ∧ (r.1 = true → w.2 t 4 = nI r.2.2.1 ∧ ∀ j, j < r.2.2.1 → Cm w.2 (t + 3 + j) (r.2.2.2 j)) ∧ ∀ a, a ≠ t → (a < t + 3 ∨ t + 23 ≤ a) → w.2 a = I0 a
theorem rcs_ok {I0 : BqI} {t : Nat} {B : Nat → Int32} {l : Nat} : ∀ (k i p : Nat) (I : BqI) (cs : Nat → BqC), k + i = 20 → 3 * i ≤ p → TS I t B l (p, false) → I t 4 = nI i → (∀ j, j < i → Cm I (t + 3 + j) (cs j)) → (∀ a, a ≠ t → (a < t + 3 ∨ t + 23 ≤ a) → I a = I0 a) → RcR I0 t l (pR B l (k + 1) i p cs) (rcs t k i I)
  | 0, i, p, I, cs, hk, hp, h, h4, hcs, hf => by
    have hl : l ≤ p := by have := h.2.2.2.2.2; omega
    have e := pC_end (B := B) (l := l) hl
    rw [show pR B l (0 + 1) i p cs = (false, p, i, cs) from by
      show (if (pC B l p).1.2 = true then (false, (pC B l p).1.1, i, cs) else _) = _
      rw [e]; rfl]
    exact ⟨rfl, h.2.2.1, fun q => Bool.noConfusion q, hf⟩
  | k + 1, i, p, I, cs, hk, hp, h, h4, hcs, hf => by
    obtain ⟨h1, h2, h3⟩ := rc_ok (c := t + 3 + i) h (by omega)
    have hle := pC_le (B := B) (l := l) h.2.2.2.2.1
    generalize er : pC B l p = r at h1 h2 hle
    by_cases c1 : r.1.2 = true
    · rw [show pR B l (k + 1 + 1) i p cs = (false, r.1.1, i, cs) from by
        show (if (pC B l p).1.2 = true then (false, (pC B l p).1.1, i, cs) else _) = _
        rw [er]; exact if_pos c1]
      have e3 : ¬ rcs_1 I t i t 3 = 0 := by
        show ¬ rc_I I t (t + 3 + i) t 3 = 0
        rw [h1.2.2.2.1, if_pos c1]; decide
      rw [rcs_a e3]
      exact ⟨rfl, h1.2.2.1, fun q => Bool.noConfusion q, fun a q1 q2 => (h3 a q1 (by omega)).trans (hf a q1 q2)⟩
    have c1' : r.1.2 = false := by simpa using c1
    have e3 : rcs_1 I t i t 3 = 0 := by
      show rc_I I t (t + 3 + i) t 3 = 0
      rw [h1.2.2.2.1, if_neg c1]; rfl
    have h4' : rcs_2 I t i t 4 = nI (i + 1) := by
      have e4 : rc_I I t (t + 3 + i) t 4 = nI i := (rc_4 I t (t + 3 + i) (by omega)).trans h4
      unfold rcs_2 rcs_1
      rw [bq_u_at, e4, nI_add]
    have hT : TS (rcs_2 I t i) t B l (r.1.1, false) := by
      obtain ⟨g0, g1, g2, g3, g4, g5⟩ := h1
      rw [c1'] at g3
      exact ⟨(bq_u_no (by omega)).trans g0, (bq_u_ne (by omega)).trans g1, (bq_u_no (by omega)).trans g2, (bq_u_no (by omega)).trans g3, g4, g5⟩
    have hC : ∀ j, j < i + 1 → Cm (rcs_2 I t i) (t + 3 + j) (bq_r cs i r.2 j) := by
      intro j hj
      by_cases e : j = i
      · subst e
        rw [bq_r_self]
        exact (h2 c1').fr (bq_u_ne (by omega))
      · rw [bq_r_ne e]
        exact (hcs j (by omega)).fr ((bq_u_ne (by omega)).trans (h3 _ (by omega) (by omega)))
    have hF : ∀ a, a ≠ t → (a < t + 3 ∨ t + 23 ≤ a) → rcs_2 I t i a = I0 a := fun a q1 q2 => (bq_u_ne q1).trans ((h3 a q1 (by omega)).trans (hf a q1 q2))
    by_cases c2 : l ≤ r.1.1
    · rw [show pR B l (k + 1 + 1) i p cs = (true, r.1.1, i + 1, bq_r cs i r.2) from by
        show (if (pC B l p).1.2 = true then (false, (pC B l p).1.1, i, cs) else if l ≤ (pC B l p).1.1 then (true, (pC B l p).1.1, i + 1, bq_r cs i (pC B l p).2) else _) = _
        rw [er, if_neg c1]; exact if_pos c2]
      rw [rcs_b e3 (by rw [hT.1, hT.2.2.1]; exact fun z => absurd (nI_le c2 (by have := hT.2.2.2.2.1; have := hT.2.2.2.2.2; show r.1.1 < 2 ^ 31; have h7 : r.1.1 ≤ l := hT.2.2.2.2.1; omega)) (Int32.not_le.mpr z))]
      exact ⟨rfl, hT.2.2.1, fun _ => ⟨h4', hC⟩, hF⟩
    have hlt : rcs_2 I t i t 2 < rcs_2 I t i t 0 := by
      rw [hT.1, hT.2.2.1]
      exact nI_lt (by show r.1.1 < l; omega) (by have := hT.2.2.2.2.2; omega)
    rw [rcs_c e3 hlt]
    have hS := hT.rs (k := 59) (by decide)
    have hS4 : rs_I (rcs_2 I t i) t (nI 59) t 4 = nI (i + 1) := by
      rw [← h4']
      unfold rs_I ta_I
      split <;> exact bq_u_no (by omega)
    have hSC : ∀ j, j < i + 1 → Cm (rs_I (rcs_2 I t i) t (nI 59)) (t + 3 + j) (bq_r cs i r.2 j) := fun j hj => (hC j hj).fr (rs_fr (by omega))
    have hSF : ∀ a, a ≠ t → (a < t + 3 ∨ t + 23 ≤ a) → rs_I (rcs_2 I t i) t (nI 59) a = I0 a := fun a q1 q2 => (rs_fr q1).trans (hF a q1 q2)
    by_cases c3 : hr B l r.1.1 = nI 59
    · rw [show pR B l (k + 1 + 1) i p cs = pR B l (k + 1) (i + 1) (r.1.1 + 1) (bq_r cs i r.2) from by
        show (if (pC B l p).1.2 = true then (false, (pC B l p).1.1, i, cs) else if l ≤ (pC B l p).1.1 then (true, (pC B l p).1.1, i + 1, bq_r cs i (pC B l p).2) else if hr B l (pC B l p).1.1 = nI 59 then pR B l (k + 1) (i + 1) ((pC B l p).1.1 + 1) (bq_r cs i (pC B l p).2) else _) = _
        rw [er, if_neg c1, if_neg c2]; exact if_pos c3]
      rw [show pS B l (nI 59) (r.1.1, false) = (r.1.1 + 1, false) from if_pos ⟨rfl, c3⟩] at hS
      have hge := hle.2.2 c1'
      exact rcs_ok k (i + 1) (r.1.1 + 1) _ _ (by omega) (by omega) hS hS4 hSC hSF
    · rw [show pR B l (k + 1 + 1) i p cs = (false, r.1.1, i + 1, cs) from by
        show (if (pC B l p).1.2 = true then (false, (pC B l p).1.1, i, cs) else if l ≤ (pC B l p).1.1 then (true, (pC B l p).1.1, i + 1, bq_r cs i (pC B l p).2) else if hr B l (pC B l p).1.1 = nI 59 then pR B l (k + 1) (i + 1) ((pC B l p).1.1 + 1) (bq_r cs i (pC B l p).2) else _) = _
        rw [er, if_neg c1, if_neg c2]; exact if_neg c3]
      rw [show pS B l (nI 59) (r.1.1, false) = (r.1.1, true) from if_neg (fun z => c3 z.2)] at hS
      match k, hk with
      | 0, hk => exact ⟨rfl, hS.2.2.1, fun q => Bool.noConfusion q, hSF⟩
      | k + 1, hk =>
        obtain ⟨w1, w2, w3⟩ := rc_wr (c := t + 3 + (i + 1)) hS (by omega)
        rw [rcs_a (show ¬ rcs_1 (rs_I (rcs_2 I t i) t (nI 59)) t (i + 1) t 3 = 0 from by
          show ¬ rc_I _ t (t + 3 + (i + 1)) t 3 = 0
          rw [w1]; decide)]
        exact ⟨rfl, w2, fun q => Bool.noConfusion q, fun a q1 q2 => (w3 a q1 (by omega)).trans (hSF a q1 q2)⟩
