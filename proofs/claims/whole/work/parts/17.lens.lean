/-! the works' moves: lens and frames -/
theorem q_nameI {M : BqM} {fr lo kc ks pc : Nat} {vs : List (Option Value)} {st : List Value} {S : BqH} {n : Nat} {I : BqI} {L : BqL} {P : BqP} {post : BqQ} (k : ∀ J : BqI, J = I → bq_W M fr lo kc ks pc vs st S n J L P post) : bq_W M fr lo kc ks pc vs st S n I L P post := k I rfl
theorem q_nameL {M : BqM} {fr lo kc ks pc : Nat} {vs : List (Option Value)} {st : List Value} {S : BqH} {n : Nat} {I : BqI} {L : BqL} {P : BqP} {post : BqQ} (k : ∀ J : BqL, J = L → bq_W M fr lo kc ks pc vs st S n I J P post) : bq_W M fr lo kc ks pc vs st S n I L P post := k L rfl
theorem wo_ne {I : BqI} {s o m r a : Nat} {x y : Int32} (h1 : s + 8 + 1 ≠ o + 1) (a1 : a ≠ s + 8 + 1) (a2 : a ≠ s + 10) (a3 : a ≠ s + 13) (a4 : a ≠ s + 13 + 1) : wo_I I s o m x y r a = I a := by
  unfold wo_I
  rw [jw_ne a3 a4, bq_u_ne a2, (bl_add_at (I := I) h1 16).1 a a1]
theorem wo_pre {I : BqI} {s o m r : Nat} {y : Int32} (h1 : s + 8 + 1 ≠ o + 1) (h : I (s + 13) 0 = nI m) : bq_u (bl_add I (s + 8 + 1) (o + 1) 16) (s + 10) r (bl_add I (s + 8 + 1) (o + 1) 16 (s + 10) r + y) (s + 13) 0 = nI m := by
  rw [bq_u_ne (by omega), (bl_add_at (I := I) h1 16).1 _ (by omega)]; exact h
theorem CSI.wo {I : BqI} {s : Nat} {g : BqG} (h : CSI I s g) {o m r : Nat} {T : Nat → Int32} {x y : Int32} (ho : o + 1 < s ∨ s + 53 ≤ o + 1) (hr : r < 4) (hT : ∀ j, j < 16 → I (o + 1) j = T j) : CSI (wo_I I s o m x y r) s (g_loss g m T x y r) := by
  have h1 : CSI (bl_add I (s + 8 + 1) (o + 1) 16) s (g_badd g 3 T) := h.badd (i := 3) (by decide) (by show s + 9 ≠ o + 1; omega) hT
  have e : bl_add I (s + 8 + 1) (o + 1) 16 (s + 10) r = g (324 + r) := by
    rw [h1.at (lc_L hr)]
    unfold g_badd
    rw [if_neg (by omega)]
  have h2 := h1.u (lc_L hr) (g (324 + r) + y)
  unfold wo_I g_loss
  rw [e]
  exact h2.note m (nI 3) x y
theorem CSI.in {I : BqI} {s : Nat} {g : BqG} (h : CSI I s g) {t o : Nat} {T : Nat → Int32} (ht : t < 6) (ho : o + 1 < s ∨ s + 53 ≤ o + 1) (hT : ∀ j, j < 16 → I (o + 1) j = T j) : CSI (bq_u (bl_add I (s + 15 + 3 * t + 2) (o + 1) 16) (s + 15 + 3 * t) 1 (nI 1)) s (g_in g t T) := by
  have h1 : CSI (bl_add I (s + (17 + 3 * t)) (o + 1) 16) s (g_add g t T) := h.add ht (by omega) hT
  have := h1.u (lc_T (k := 1) ht (by decide)) (nI 1)
  rw [show 10 + 19 * t + 1 = 11 + 19 * t by omega, show s + (15 + 3 * t) = s + 15 + 3 * t by omega, show s + (17 + 3 * t) = s + 15 + 3 * t + 2 by omega] at this
  exact this
theorem in_ne {I : BqI} {t o a : Nat} (h1 : t + 2 ≠ o + 1) (a1 : a ≠ t) (a2 : a ≠ t + 2) : bq_u (bl_add I (t + 2) (o + 1) 16) t 1 (nI 1) a = I a := by
  rw [bq_u_ne a1, (bl_add_at (I := I) h1 16).1 a a2]
def Scr (x a : Nat) : Prop := (x + 1 ≤ a ∧ a < x + 54) ∨ (x + 131 ≤ a ∧ a < x + 165)
theorem Frm.out {x : Nat} {I I' : BqI} (h : Frm x I I') {t o : Nat} (h1 : t + 2 ≠ o + 1) (ht : Scr x t ∧ Scr x (t + 2)) : Frm x I (tk_out I' t o) := fun a ha => by
  unfold Scr at ht
  rw [tk_out_ne h1 (by omega) (by omega)]; exact h a ha
theorem Frm.jw {x : Nat} {I I' : BqI} (h : Frm x I I') {j m : Nat} {d k t l : Int32} (ht : Scr x j ∧ Scr x (j + 1)) : Frm x I (jw_I I' j m d k t l) := fun a ha => by
  unfold Scr at ht
  rw [jw_ne (by omega) (by omega)]; exact h a ha
theorem Frm.take {x : Nat} {I I' I'' : BqI} (h : Frm x I I') {p : Nat} (h1 : ∀ a, a ≠ p + 1 + 1 → a ≠ p + 3 → I'' a = I' a) (ht : Scr x (p + 1 + 1) ∧ Scr x (p + 3)) : Frm x I I'' := fun a ha => by
  unfold Scr at ht
  rw [h1 a (by omega) (by omega)]; exact h a ha
theorem Frm.rem {x : Nat} {I I' : BqI} (h : Frm x I I') {d s : Nat} (h1 : d ≠ s) (ht : Scr x d) : Frm x I (bl_rem I' d s 16) := fun a ha => by
  unfold Scr at ht
  rw [(bl_rem_at (I := I') h1 16).1 a (by omega)]; exact h a ha
theorem Frm.add {x : Nat} {I I' : BqI} (h : Frm x I I') {d s : Nat} (h1 : d ≠ s) (ht : Scr x d) : Frm x I (bl_add I' d s 16) := fun a ha => by
  unfold Scr at ht
  rw [(bl_add_at (I := I') h1 16).1 a (by omega)]; exact h a ha
theorem Frm.wo {x : Nat} {I I' : BqI} (h : Frm x I I') {o m r : Nat} {y z : Int32} (h1 : x + 1 + 8 + 1 ≠ o + 1) : Frm x I (wo_I I' (x + 1) o m y z r) := fun a ha => by
  rw [wo_ne h1 (by omega) (by omega) (by omega) (by omega)]; exact h a ha
theorem Frm.in {x : Nat} {I I' : BqI} (h : Frm x I I') {t o : Nat} (h1 : t + 2 ≠ o + 1) (ht : Scr x t ∧ Scr x (t + 2)) : Frm x I (bq_u (bl_add I' (t + 2) (o + 1) 16) t 1 (nI 1)) := fun a ha => by
  unfold Scr at ht
  rw [in_ne h1 (by omega) (by omega)]; exact h a ha
/-! the row's moves, place by place -/
theorem g_sub_ne {g : BqG} {t k : Nat} {T : Nat → Int32} (h : k < 13 + 19 * t ∨ 29 + 19 * t ≤ k) : g_sub g t T k = g k := by unfold g_sub; rw [if_neg (by omega)]
theorem g_add_ne {g : BqG} {t k : Nat} {T : Nat → Int32} (h : k < 13 + 19 * t ∨ 29 + 19 * t ≤ k) : g_add g t T k = g k := by unfold g_add; rw [if_neg (by omega)]
theorem g_out_ne {g : BqG} {t k : Nat} {T : Nat → Int32} (h : k < 13 + 19 * t ∨ 29 + 19 * t ≤ k) (h1 : k ≠ 11 + 19 * t) : g_out g t T k = g k := by
  unfold g_out; split
  · rw [bq_r_ne h1, g_sub_ne h]
  · exact g_sub_ne h
theorem g_in_ne {g : BqG} {t k : Nat} {T : Nat → Int32} (h : k < 13 + 19 * t ∨ 29 + 19 * t ≤ k) (h1 : k ≠ 11 + 19 * t) : g_in g t T k = g k := by
  unfold g_in; rw [bq_r_ne h1, g_add_ne h]
theorem g_ent_ne {g : BqG} {m j : Nat} {k t l : Int32} (h : j < 330 ∨ 650 ≤ j) : g_ent g m k t l j = g j := by
  unfold g_ent; split
  · rw [bq_r_ne (by omega), bq_r_ne (by omega), bq_r_ne (by omega), bq_r_ne (by omega)]
  · rfl
theorem g_note_ne {g : BqG} {m j : Nat} {k t l : Int32} (h : j < 330 ∨ 650 ≤ j) (h5 : j ≠ 5) : g_note g m k t l j = g j := by
  unfold g_note; rw [bq_r_ne h5, g_ent_ne h]
theorem g_note_5 {g : BqG} {m : Nat} {k t l : Int32} : g_note g m k t l 5 = g 5 + nI 1 := by unfold g_note; rw [bq_r_self]
theorem g_badd_ne {g : BqG} {i k : Nat} {T : Nat → Int32} (h : k < 124 ∨ 204 ≤ k) : g_badd g i T k = g k := by unfold g_badd; rw [if_neg (by omega)]
theorem g_loss_ne {g : BqG} {m k r : Nat} {T : Nat → Int32} {t l : Int32} (h : k < 124 ∨ (204 ≤ k ∧ k < 324)) (h5 : k ≠ 5) : g_loss g m T t l r k = g k := by
  unfold g_loss; rw [g_note_ne (by omega) h5, bq_r_ne (by omega), g_badd_ne (by omega)]
theorem g_loss_5 {g : BqG} {m r : Nat} {T : Nat → Int32} {t l : Int32} : g_loss g m T t l r 5 = g 5 + nI 1 := by
  unfold g_loss; rw [g_note_5, bq_r_ne (by omega), g_badd_ne (by omega)]
/-! transfer -/
def tk (g : BqG) (t l : Nat) : Nat → Int32 := fun j => nI (npt (gp g t) l j)
def tk2 (g : BqG) (t l ls : Nat) : Nat → Int32 := fun j => nI (npt (npt (gp g t) l) ls j)
def x_pour1 (g : BqG) (f l : Nat) : BqG := g_note (g_out g f (tk g f l)) (gn g 5) (nI 1) (nI f) (nI l)
def x_pour (g : BqG) (f t l ls : Nat) : BqG := if ls = 0 then g_note (g_in (x_pour1 g f l) t (tk g f l)) (gn g 5 + 1) (nI 2) (nI t) (nI (l - ls)) else g_note (g_in (g_loss (x_pour1 g f l) (gn g 5 + 1) (tk2 g f l ls) (nI f) (nI ls) 0) t (fun j => tk g f l j - tk2 g f l ls j)) (gn g 5 + 2) (nI 2) (nI t) (nI (l - ls))
def n_pour (g : BqG) (f t l : Nat) : Int32 × BqG := if ¬ (gn g (11 + 19 * f) = 1 ∧ gn g (11 + 19 * t) ≤ 1) then ((-2), g) else if gt g f < l then ((-3), g) else if gn g (10 + 19 * t) < gt g t + (l - l * gn g 4 / 1000) then ((-4), g) else (nI (l - l * gn g 4 / 1000), x_pour g f t l (l * gn g 4 / 1000))
def w_pour (g : BqG) (f t l : Int32) : Int32 × BqG := if (f < nI 0 ∨ ¬ f ≤ nI 5) ∨ (t < nI 0 ∨ ¬ t ≤ nI 5) ∨ f = t then ((-1), g) else if l < nI 1 ∨ ¬ l ≤ nI 9999 then ((-8), g) else n_pour g f.toNatClampNeg t.toNatClampNeg l.toNatClampNeg
theorem w_pour_n {g : BqG} {f t l : Nat} (hf : f < 6) (ht : t < 6) (hne : f ≠ t) (h1 : 1 ≤ l) (h2 : l ≤ 9999) : w_pour g (nI f) (nI t) (nI l) = n_pour g f t l := by
  unfold w_pour
  rw [if_neg, if_neg (bq_nin h1 h2 (by omega)), nI_clamp (by omega), nI_clamp (by omega), nI_clamp (by omega)]
  rintro (h | h | h)
  · exact bq_nin (A := 0) (N := 5) (Nat.zero_le _) (by omega) (by omega) h
  · exact bq_nin (A := 0) (N := 5) (Nat.zero_le _) (by omega) (by omega) h
  · exact hne ((nI_eq (by omega) (by omega)).mp h)
