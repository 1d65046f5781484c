/-! the model's orders, rates and fillings -/
theorem io_out {o : Int32} {c : Nat} (hcl : c ≤ 10) (ho : o < 0 ∨ nI c ≤ o ∨ nI 10 ≤ o) : o < nI 0 ∨ ¬ o ≤ nI c - nI 1 := by
  rcases ho with h | h | h
  · exact Or.inl (by rw [nI_0]; exact h)
  · refine Or.inr fun q => ?_
    have h1 := Int32.le_iff_toInt_le.mp h
    have h2 := Int32.le_iff_toInt_le.mp q
    rw [nI_toInt (by omega)] at h1
    rw [pk_sub_toInt (by omega) (by omega)] at h2
    omega
  · refine Or.inr fun q => ?_
    have h1 := Int32.le_iff_toInt_le.mp h
    have h2 := Int32.le_iff_toInt_le.mp q
    rw [nI_toInt (by omega)] at h1
    rw [pk_sub_toInt (by omega) (by omega)] at h2
    omega
def hnd (g : BqG) (F : Nat → Nat) (s : Int32) (o : Nat) : Int32 := if ns F 16 < gn g (205 + 9 * o) then nI 3 else if s < g (206 + 9 * o) ∨ ¬ s ≤ g (207 + 9 * o) then nI 6 else nI 0
theorem hnd_0 {g : BqG} {t o : Nat} {s : Int32} (h : hnd g (gp g t) s o = 0) : gn g (205 + 9 * o) ≤ gt g t ∧ (¬ s < g (206 + 9 * o) ∧ ¬ g (207 + 9 * o) < s) := by
  unfold hnd at h
  by_cases c1 : ns (gp g t) 16 < gn g (205 + 9 * o)
  · rw [if_pos c1] at h; exact absurd h (by decide)
  · rw [if_neg c1] at h
    by_cases c2 : s < g (206 + 9 * o) ∨ ¬ s ≤ g (207 + 9 * o)
    · rw [if_pos c2] at h; exact absurd h (by decide)
    · exact ⟨Nat.le_of_not_lt c1, fun q => c2 (Or.inl q), fun q => c2 (Or.inr (Int32.not_le.mpr q))⟩
theorem hnd_n {q ch t o : Nat} {g : BqG} {h : Nat → BqG} {y : Int32} {W : Int32 × BqG} (hn : ¬ hnd g (gp g t) (g_str g t) o = 0) : mst q g h ch y (if gt g t < gn g (205 + 9 * o) then ((-3), g) else if ¬ (¬ g_str g t < g (206 + 9 * o) ∧ ¬ g (207 + 9 * o) < g_str g t) then ((-6), g) else W) = ((-3), g, h, ch, hnd g (gp g t) (g_str g t) o) := by
  by_cases c1 : gt g t < gn g (205 + 9 * o)
  · have c1' : ns (gp g t) 16 < gn g (205 + 9 * o) := c1
    rw [if_pos c1, mst_neg (by decide) (by decide : -(-3) = nI 3)]
    unfold hnd
    rw [if_pos c1']
  · have c1' : ¬ ns (gp g t) 16 < gn g (205 + 9 * o) := c1
    rw [if_neg c1]
    by_cases c2 : ¬ (¬ g_str g t < g (206 + 9 * o) ∧ ¬ g (207 + 9 * o) < g_str g t)
    · rw [if_pos c2, mst_neg (by decide) (by decide : -(-6) = nI 6)]
      have c3 : g_str g t < g (206 + 9 * o) ∨ ¬ g_str g t ≤ g (207 + 9 * o) := by
        by_cases d1 : g_str g t < g (206 + 9 * o)
        · exact Or.inl d1
        · refine Or.inr fun q => c2 ⟨d1, Int32.not_lt.mpr q⟩
      unfold hnd
      rw [if_neg c1', if_pos c3]
    · exfalso
      apply hn
      have c3 : ¬ (g_str g t < g (206 + 9 * o) ∨ ¬ g_str g t ≤ g (207 + 9 * o)) := by
        have c2 := Decidable.of_not_not c2
        rintro (q | q)
        · exact c2.1 q
        · exact c2.2 (Int32.not_le.mp q)
      unfold hnd
      rw [if_neg c1', if_neg c3]
      decide
theorem nJ_32 {a : Nat} (_ : a < 2 ^ 31) : (nJ a).toInt32 = nI a := lN_i a
theorem tk_le {g : BqG} {en t l : Nat} (_ : GI g en) (hge : l ≤ gt g t) (hpos : 0 < ns (gp g t) 16) (htb : ns (gp g t) 16 ≤ 9999) {j : Nat} (hj : j < 16) : npt (gp g t) l j ≤ 9999 :=
  Nat.le_trans ((npt_in (F := gp g t) hge hpos).1 j hj).2.1 (Nat.le_trans (ns_ge 16 hj) htb)
theorem fa_m {g G : BqG} {en t l : Nat} {T : Nat → Int32} (hG : GI g en) (hge : l ≤ gt g t) (hpos : 0 < ns (gp g t) 16) (htb : ns (gp g t) 16 ≤ 9999) (hT : ∀ j, j < 16 → T j = tk g t l j) (h : ∀ b, b < 16 → G (124 + 5 * b) = g (124 + 5 * b)) : bq_alc T (fun b => G (124 + 5 * b)) 16 = nJ (fa g t l) :=
  bq_alc_n (F := npt (gp g t) l) (G := fun b => gn g (124 + 5 * b)) 16 hT (fun j hj => (h j hj).trans (hG.n (by omega) (by omega))) (fun j hj => by have := (hG.2.2.2.2.2.2.2.2.1 j hj).1; show gn g (124 + 5 * j) < _; omega) (fun j hj => by have := tk_le hG hge hpos htb hj; omega)
theorem fs_m {g : BqG} {en t l : Nat} (hG : GI g en) (hge : l ≤ gt g t) (hpos : 0 < ns (gp g t) 16) (htb : ns (gp g t) 16 ≤ 9999) (hl : 1 ≤ l) : fs g t l = nI (fa g t l / l) := by
  have hs : bq_sum (tk g t l) 16 = nI l := (bq_sum_n (F := npt (gp g t) l) 16 (fun _ _ => rfl)).trans (by rw [(npt_in (F := gp g t) hge hpos).2])
  have hl2 : l ≤ 9999 := Nat.le_trans hge htb
  have hfa := fa_lt hG hge hpos htb
  unfold fs bq_str
  rw [hs, if_neg (nI_nle hl (by omega)), fa_m (G := g) hG hge hpos htb (fun _ _ => rfl) (fun _ _ => rfl), nI_l (by omega)]
  show (lN (fa g t l) / lN l).toInt32 = _
  rw [pk_lDiv (by omega) hl (by omega), lN_i]
theorem du_n {a b : Nat} (ha : a ≤ 20000000) (hb : b ≤ 9999) : (((nI a).toInt64 * (nI b).toInt64 + 9999) / 10000).toInt32 = nI ((a * b + 9999) / 10000) := by
  have hm : a * b ≤ 20000000 * 9999 := Nat.mul_le_mul ha hb
  rw [nI_l (by omega), nI_l (by omega), lN_mul, show (9999 : Int64) = lN 9999 from rfl, lN_add, show (10000 : Int64) = lN 10000 from rfl, pk_lDiv (by omega) (by decide) (by decide), lN_i]
theorem fa_le {g : BqG} {en t l : Nat} (hG : GI g en) (hge : l ≤ gt g t) (hpos : 0 < gt g t) (htb : gt g t ≤ 9999) : fa g t l ≤ 19998000 := by
  have h1 : fa g t l ≤ ns (fun b => npt (gp g t) l b * 2000) 16 := ns_le 16 (fun j hj => Nat.mul_le_mul_left _ (hG.2.2.2.2.2.2.2.2.1 j hj).1)
  rw [ns_mul, (npt_in (F := gp g t) hge hpos).2] at h1
  have : l * 2000 ≤ 9999 * 2000 := Nat.mul_le_mul_right _ (by omega)
  omega
theorem GI.r {g : BqG} {en r : Nat} (h : GI g en) (hr : r < 10) : gn g (296 + 3 * r) ≤ 9999 := h.2.2.2.2.2.2.2.2.2.2.1 r hr
theorem du_le {g : BqG} {en a : Nat} {D T : Int32} (hG : GI g en) (ha : a ≤ 20000000) : ∃ d, d ≤ 20000000 ∧ du (fun i => g (296 + 3 * i)) (rfx (fun i => g (294 + 3 * i)) (fun i => g (295 + 3 * i)) D T (gn g 3)) (nI a).toInt64 = nI d := by
  have hcl : gn g 3 ≤ 10 := hG.2.2.2.2.1
  cases hr : rfx (fun i => g (294 + 3 * i)) (fun i => g (295 + 3 * i)) D T (gn g 3) with
  | none => exact ⟨0, by omega, rfl⟩
  | some q =>
    have hq := rf_lt hr
    have hb := hG.r (r := q) (by omega)
    refine ⟨(a * gn g (296 + 3 * q) + 9999) / 10000, ?_, ?_⟩
    · have : a * gn g (296 + 3 * q) ≤ 20000000 * 9999 := Nat.mul_le_mul ha hb
      omega
    · show (((nI a).toInt64 * (g (296 + 3 * q)).toInt64 + 9999) / 10000).toInt32 = _
      rw [hG.n (k := 296 + 3 * q) (by omega) (by omega), du_n ha hb]
theorem fd_n {g : BqG} {en t o l : Nat} (hG : GI g en) (hge : l ≤ gt g t) (hpos : 0 < gt g t) (htb : gt g t ≤ 9999) : ∃ d, d ≤ 20000000 ∧ fd g t o l = nI d :=
  du_le hG (by have := fa_le hG hge hpos htb; omega)
theorem fd_pos {g : BqG} {en t o l : Nat} (hG : GI g en) (hge : l ≤ gt g t) (hpos : 0 < gt g t) (htb : gt g t ≤ 9999) : ¬ fd g t o l < 0 := by
  obtain ⟨d, h1, h2⟩ := fd_n (o := o) hG hge hpos htb
  rw [h2]
  exact nI_pos (by omega)
theorem fd_m {g G : BqG} {t o l : Nat} (h : ∀ k, 294 ≤ k → G k = g k) : du (fun i => G (296 + 3 * i)) (rfx (fun i => G (294 + 3 * i)) (fun i => G (295 + 3 * i)) (g 0) (fs g t l) (gn g 3)) (nI (fa g t l)).toInt64 = fd g t o l := by
  have e1 : (fun i => G (296 + 3 * i)) = (fun i => g (296 + 3 * i)) := funext fun i => h _ (by omega)
  have e2 : (fun i => G (294 + 3 * i)) = (fun i => g (294 + 3 * i)) := funext fun i => h _ (by omega)
  have e3 : (fun i => G (295 + 3 * i)) = (fun i => g (295 + 3 * i)) := funext fun i => h _ (by omega)
  rw [e1, e2, e3]
  rfl
theorem bd_fl (I : BqI) (m : Nat) : fl I (m + 1) (fun j => 124 + 5 * j + 2) (fun j => I (m + 1) (124 + 5 * j + 2) + I (m + 7) j) 16 = bq_r I (m + 1) (g_badd (I (m + 1)) 2 (I (m + 7))) := by
  refine fl_row (fun a b _ _ h => by first | omega | (dsimp only at h; omega)) (fun j hj => ?_) (fun q hq => ?_)
  · show g_badd _ _ _ (124 + 5 * j + 2) = _
    unfold g_badd
    rw [if_pos (by omega), show (124 + 5 * j + 2 - 124) / 5 = j by omega]
  · unfold g_badd
    rw [if_neg]
    rintro ⟨h1, h2, h3⟩
    refine hq ((q - 124) / 5) (by omega) ?_
    show 124 + 5 * ((q - 124) / 5) + 2 = q
    omega
/-! writes on the orders change places with the moves -/
theorem bq_r_cm {α : Type} {f : Nat → α} {a b : Nat} {x y : α} (h : a ≠ b) : bq_r (bq_r f a x) b y = bq_r (bq_r f b y) a x := by
  funext k
  by_cases c1 : k = b
  · subst c1; rw [bq_r_self, bq_r_ne (Ne.symm h), bq_r_self]
  · rw [bq_r_ne c1]
    by_cases c2 : k = a
    · subst c2; rw [bq_r_self, bq_r_self]
    · rw [bq_r_ne c2, bq_r_ne c2, bq_r_ne c1]
theorem g_badd_cm {g : BqG} {i j : Nat} {T : Nat → Int32} {v : Int32} (h : 204 ≤ j) : g_badd (bq_r g j v) i T = bq_r (g_badd g i T) j v := by
  funext k
  by_cases c : k = j
  · subst c; rw [bq_r_self, g_badd_ne (Or.inr h), bq_r_self]
  · rw [bq_r_ne c]
    unfold g_badd
    rw [bq_r_ne c]
theorem g_sub_cm {g : BqG} {t j : Nat} {T : Nat → Int32} {v : Int32} (ht : t < 6) (h : 124 ≤ j) : g_sub (bq_r g j v) t T = bq_r (g_sub g t T) j v := by
  funext k
  by_cases c : k = j
  · subst c; rw [bq_r_self, g_sub_ne (by omega), bq_r_self]
  · rw [bq_r_ne c]
    unfold g_sub
    rw [bq_r_ne c]
theorem g_tot_cm {g g' : BqG} {t : Nat} (h : ∀ k, 13 + 19 * t ≤ k → k < 29 + 19 * t → g' k = g k) : g_tot g' t = g_tot g t :=
  bq_sum_congr 16 (fun j hj => h _ (by omega) (by omega))
theorem g_out_cm {g : BqG} {t j : Nat} {T : Nat → Int32} {v : Int32} (ht : t < 6) (h : 124 ≤ j) : g_out (bq_r g j v) t T = bq_r (g_out g t T) j v := by
  unfold g_out
  rw [g_sub_cm ht h, g_tot_cm (g := g_sub g t T) (fun k h1 h2 => bq_r_ne (by omega))]
  split
  · exact bq_r_cm (by omega)
  · rfl
theorem g_out_badd {g : BqG} {t i : Nat} {T U : Nat → Int32} (ht : t < 6) : g_out (g_badd g i U) t T = g_badd (g_out g t T) i U := by
  have e : g_sub (g_badd g i U) t T = g_badd (g_sub g t T) i U := by
    funext k
    show (if 13 + 19 * t ≤ k ∧ k < 29 + 19 * t then g_badd g i U k - T (k - (13 + 19 * t)) else g_badd g i U k) = (if 124 ≤ k ∧ k < 204 ∧ (k - 124) % 5 = i then g_sub g t T k + U ((k - 124) / 5) else g_sub g t T k)
    by_cases c : 13 + 19 * t ≤ k ∧ k < 29 + 19 * t
    · rw [if_pos c, g_badd_ne (Or.inl (by omega)), if_neg (by omega)]
      exact (if_pos c).symm
    · rw [if_neg c, g_sub_ne (by omega)]
      rfl
  unfold g_out
  rw [e, g_tot_cm (g := g_sub g t T) (fun k h1 h2 => g_badd_ne (Or.inl (by omega)))]
  by_cases c : g_tot (g_sub g t T) t = 0
  · rw [if_pos c, if_pos c]
    funext k
    by_cases c2 : k = 11 + 19 * t
    · subst c2; rw [bq_r_self, g_badd_ne (Or.inl (by omega)), bq_r_self]
    · rw [bq_r_ne c2]
      unfold g_badd
      rw [bq_r_ne c2]
  · rw [if_neg c, if_neg c]
theorem x_fill_m {g : BqG} {t o l : Nat} (ht : t < 6) (ho : o < 10) : g_out (g_badd (bq_r (bq_r (bq_r (bq_r (bq_r (g) (208 + 9 * o) (nI 1)) (210 + 9 * o) (g 0)) (212 + 9 * o) (nI (fa g t l))) (211 + 9 * o) (fs g t l)) (209 + 9 * o) (fd g t o l)) 2 (tk g t l)) t (tk g t l) = x_fill3 g t o l := by
  rw [g_badd_cm (by omega), g_badd_cm (by omega), g_badd_cm (by omega), g_badd_cm (by omega), g_badd_cm (by omega), g_out_cm ht (by omega), g_out_cm ht (by omega), g_out_cm ht (by omega), g_out_cm ht (by omega), g_out_cm ht (by omega), g_out_badd ht]
  unfold x_fill3 x_fill2 x_fill1 x_fill0
  rw [bq_r_cm (a := 212 + 9 * o) (b := 211 + 9 * o) (by omega)]
theorem x_fill_d {g : BqG} {t o l : Nat} (ht : t < 6) (ho : o < 10) : x_fill g t o l (209 + 9 * o) = fd g t o l := by
  rw [x_fill_n ht (by omega) (by omega)]
  unfold x_fill3
  exact bq_r_self
def qFl (m : Nat) (I : BqI) (S : BqH) (n : Nat) (L : BqL) (P : BqP) (G : BqG) : BqQ := fun r S' n' I' L' P' => r = none ∧ S' = S ∧ n' = n ∧ L' = L ∧ P' = P ∧ I' (m + 1) = G ∧ ∀ a, a ≠ m + 1 → a < m + 6 ∨ m + 9 ≤ a → I' a = I a
set_option maxHeartbeats 1000000 in
set_option maxRecDepth 20000 in
theorem c_isOpen_out {S : BqH} {n : Nat} {I : BqI} {L : BqL} {P : BqP} {m c : Nat} (hm : oModel S n P m) (hc : I (m + 1) 2 = nI c) (hcl : c ≤ 10) {o : Int32} (ho : o < 0 ∨ nI c ≤ o ∨ nI 10 ≤ o) : bq_Sp mX12_isOpen 2 34 0 0 [.ref m, .int o] S n I L P (bq_F (some (.int (nI 0))) S n I L P) := by
  refine q_entry (vs := [some (.ref m), some (.int o)]) (by decide +kernel) (by simp) (Nat.le_of_ble_eq_true rfl) rfl ?_
  refine q_iload_n (pc := 0) dX12_isOpen_0 rfl rfl ?_
  refine q_iconst (pc := 1) (v := nI 0) dX12_isOpen_1 (by decide) ?_
  refine q_aload_n (pc := 2) dX12_isOpen_2 rfl rfl ?_
  refine q_getP (pc := 3) dX12_isOpen_3 fX12_9 (Model_sh hm) ⟨by decide, rfl⟩ (Model_lt hm) (Model_p_g hm) ?_
  refine q_iconst (pc := 6) (v := nI 2) dX12_isOpen_6 (by decide) ?_
  refine q_iald (pc := 7) dX12_isOpen_7 (oA_sh (Model_s_g hm)) (oA_lt (Model_s_g hm)) rfl (by omega) ?_
  rw [hc]
  refine q_iconst (pc := 8) (v := nI 1) dX12_isOpen_8 (by decide) ?_
  refine q_isub (pc := 9) dX12_isOpen_9 ?_
  refine q_callSF (pc := 10) dX12_isOpen_10 kX12_69 c_X12_in ⟨Nat.le_of_ble_eq_true rfl, Nat.le_of_ble_eq_true rfl⟩ rfl rfl (Nat.le_of_ble_eq_true rfl) ?_
  show bq_W _ _ _ _ _ 13 _ [_] _ _ _ _ _ _
  refine q_if_eq (pc := 13) 29 dX12_isOpen_13 (by decide) (fun c_13 => ?_) (fun c_13 => (c_13 (bq_nb0.mpr (io_out hcl ho))).elim)
  refine q_iconst (pc := 29) (v := nI 0) dX12_isOpen_29 (by decide) ?_
  exact q_zret (st := []) (pc := 30) dX12_isOpen_30 rfl (by decide) ⟨rfl, rfl, rfl, rfl, rfl, rfl⟩
set_option maxHeartbeats 1000000 in
set_option maxRecDepth 20000 in
theorem c_isOpen_in {S : BqH} {n : Nat} {I : BqI} {L : BqL} {P : BqP} {m c : Nat} (hm : oModel S n P m) (hc : I (m + 1) 2 = nI c) (hcl : c ≤ 10) {o : Nat} (ho : o < c) : bq_Sp mX12_isOpen 2 34 0 0 [.ref m, .int (nI o)] S n I L P (bq_F (some (.int (bq_b (I (m + 1) (208 + 9 * o) = 0)))) S n I L P) := by
  refine q_entry (vs := [some (.ref m), some (.int (nI o))]) (by decide +kernel) (by simp) (Nat.le_of_ble_eq_true rfl) rfl ?_
  refine q_iload_n (pc := 0) dX12_isOpen_0 rfl rfl ?_
  refine q_iconst (pc := 1) (v := nI 0) dX12_isOpen_1 (by decide) ?_
  refine q_aload_n (pc := 2) dX12_isOpen_2 rfl rfl ?_
  refine q_getP (pc := 3) dX12_isOpen_3 fX12_9 (Model_sh hm) ⟨by decide, rfl⟩ (Model_lt hm) (Model_p_g hm) ?_
  refine q_iconst (pc := 6) (v := nI 2) dX12_isOpen_6 (by decide) ?_
  refine q_iald (pc := 7) dX12_isOpen_7 (oA_sh (Model_s_g hm)) (oA_lt (Model_s_g hm)) rfl (by omega) ?_
  rw [hc]
  refine q_iconst (pc := 8) (v := nI 1) dX12_isOpen_8 (by decide) ?_
  refine q_isub (pc := 9) dX12_isOpen_9 ?_
  rw [pk_sub (show 1 ≤ c by omega)]
  refine q_callSF (pc := 10) dX12_isOpen_10 kX12_69 c_X12_in ⟨Nat.le_of_ble_eq_true rfl, Nat.le_of_ble_eq_true rfl⟩ rfl rfl (Nat.le_of_ble_eq_true rfl) ?_
  show bq_W _ _ _ _ _ 13 _ [_] _ _ _ _ _ _
  refine q_if_eq (pc := 13) 29 dX12_isOpen_13 (by decide) (fun c_13 => (bq_nin (Nat.zero_le o) (show o ≤ c - 1 by omega) (by omega) (bq_nb0.mp c_13)).elim) (fun c_13 => ?_)
  refine q_aload_n (pc := 16) dX12_isOpen_16 rfl rfl ?_
  refine q_iload_n (pc := 17) dX12_isOpen_17 rfl rfl ?_
  refine q_iconst (pc := 18) (v := nI 4) dX12_isOpen_18 (by decide) ?_
  refine q_callVF (pc := 19) dX12_isOpen_19 kX12_118 (c_oA hm (o := o) (k := 4) (j := 208 + 9 * o) (by omega) (by omega)) (Model_sh hm) rfl (Model_lt hm) ⟨Nat.le_of_ble_eq_true rfl, Nat.le_of_ble_eq_true rfl⟩ rfl rfl (Nat.le_of_ble_eq_true rfl) ?_
  show bq_W _ _ _ _ _ 22 _ [_] _ _ _ _ _ _
  refine q_if_ne (pc := 22) 29 dX12_isOpen_22 (by decide) (fun c_22 => ?_) (fun c_22 => ?_)
  · refine q_iconst (pc := 29) (v := nI 0) dX12_isOpen_29 (by decide) ?_
    exact q_zret (st := []) (pc := 30) dX12_isOpen_30 rfl (by decide) ⟨by first | rw [bq_bt c_22] | rw [bq_bf c_22], rfl, rfl, rfl, rfl, rfl⟩
  · refine q_iconst (pc := 25) (v := nI 1) dX12_isOpen_25 (by decide) ?_
    refine q_goto (pc := 26) 30 dX12_isOpen_26 (by decide) ?_
    exact q_zret (st := []) (pc := 30) dX12_isOpen_30 rfl (by decide) ⟨by first | rw [bq_bt c_22] | rw [bq_bf c_22], rfl, rfl, rfl, rfl, rfl⟩
set_option maxHeartbeats 1080000 in
set_option maxRecDepth 20000 in
theorem c_X12_openMany {S : BqH} {n : Nat} {I : BqI} {L : BqL} {P : BqP} {m c : Nat} (hm : oModel S n P m) (hc : I (m + 1) 2 = nI c) (hcl : c ≤ 10) : bq_Sp mX12_openMany 3 55 0 0 [.ref m] S n I L P (bq_F (some (.int (nI (bq_ct (fun i => I (m + 1) (208 + 9 * i)) 0 c)))) S n I L P) := by
  refine q_entry (vs := [some (.ref m), none, none]) (by decide +kernel) (by simp) (Nat.le_of_ble_eq_true rfl) rfl ?_
  have lp : ∀ i, i ≤ c → bq_W mX12_openMany 3 55 0 0 4 [some (.ref m), some (.int (nI (bq_ct (fun i => I (m + 1) (208 + 9 * i)) 0 i))), some (.int (nI i))] [] S n I L P (bq_F (some (.int (nI (bq_ct (fun i => I (m + 1) (208 + 9 * i)) 0 c)))) S n I L P) := by
    refine bq_down (A := fun i => bq_W mX12_openMany 3 55 0 0 4 [some (.ref m), some (.int (nI (bq_ct (fun i => I (m + 1) (208 + 9 * i)) 0 i))), some (.int (nI i))] [] S n I L P (bq_F (some (.int (nI (bq_ct (fun i => I (m + 1) (208 + 9 * i)) 0 c)))) S n I L P)) c ?_ ?_
    · refine q_iload_n (pc := 4) dX12_openMany_4 rfl rfl ?_
      refine q_aload_n (pc := 5) dX12_openMany_5 rfl rfl ?_
      refine q_getP (pc := 6) dX12_openMany_6 fX12_9 (Model_sh hm) ⟨by decide, rfl⟩ (Model_lt hm) (Model_p_g hm) ?_
      refine q_iconst (pc := 9) (v := nI 2) dX12_openMany_9 (by decide) ?_
      refine q_iald (pc := 10) dX12_openMany_10 (oA_sh (Model_s_g hm)) (oA_lt (Model_s_g hm)) rfl (by omega) ?_
      rw [hc]
      refine q_icmp_ge (pc := 11) 36 dX12_openMany_11 (by decide) (fun c_11 => ?_) (fun c_11 => absurd (nI_le (Nat.le_refl _) (by omega)) c_11)
      refine q_iload_n (pc := 36) dX12_openMany_36 rfl rfl ?_
      exact q_iret (st := []) (pc := 37) dX12_openMany_37 rfl ⟨rfl, rfl, rfl, rfl, rfl, rfl⟩
    · intro i hi ih
      refine q_iload_n (pc := 4) dX12_openMany_4 rfl rfl ?_
      refine q_aload_n (pc := 5) dX12_openMany_5 rfl rfl ?_
      refine q_getP (pc := 6) dX12_openMany_6 fX12_9 (Model_sh hm) ⟨by decide, rfl⟩ (Model_lt hm) (Model_p_g hm) ?_
      refine q_iconst (pc := 9) (v := nI 2) dX12_openMany_9 (by decide) ?_
      refine q_iald (pc := 10) dX12_openMany_10 (oA_sh (Model_s_g hm)) (oA_lt (Model_s_g hm)) rfl (by omega) ?_
      rw [hc]
      refine q_icmp_ge (pc := 11) 36 dX12_openMany_11 (by decide) (fun c_11 => absurd c_11 (nI_ge hi (by omega))) (fun c_11 => ?_)
      refine q_iload_n (pc := 14) dX12_openMany_14 rfl rfl ?_
      refine q_aload_n (pc := 15) dX12_openMany_15 rfl rfl ?_
      refine q_iload_n (pc := 16) dX12_openMany_16 rfl rfl ?_
      refine q_callVF (pc := 17) dX12_openMany_17 kX12_121 (c_isOpen_in hm hc hcl (o := i) hi) (Model_sh hm) rfl (Model_lt hm) ⟨Nat.le_of_ble_eq_true rfl, Nat.le_of_ble_eq_true rfl⟩ rfl rfl (Nat.le_of_ble_eq_true rfl) ?_
      show bq_W _ _ _ _ _ 20 _ [_, _] _ _ _ _ _ _
      refine q_if_eq (pc := 20) 27 dX12_openMany_20 (by decide) (fun c_20 => ?_) (fun c_20 => ?_)
      · replace c_20 := bq_b0.mp c_20
        refine q_iconst (pc := 27) (v := nI 0) dX12_openMany_27 (by decide) ?_
        refine q_iaddN (pc := 28) dX12_openMany_28 ?_
        refine q_istore_n (pc := 29) dX12_openMany_29 rfl (Nat.le_of_ble_eq_true rfl) rfl ?_
        show bq_W _ _ _ _ _ 30 [_, _, _] _ _ _ _ _ _ _
        refine q_iinc (pc := 30) (v := nI (i + 1)) dX12_openMany_30 rfl (bq_inc _) (Nat.le_of_ble_eq_true rfl) rfl ?_
        show bq_W _ _ _ _ _ 33 [_, _, _] _ _ _ _ _ _ _
        refine q_goto (pc := 33) 4 dX12_openMany_33 (by decide) ?_
        rw [show bq_ct (fun i => I (m + 1) (208 + 9 * i)) 0 (i + 1) = _ from if_neg c_20] at ih
        exact ih
      · replace c_20 := bq_bn.mp c_20
        refine q_iconst (pc := 23) (v := nI 1) dX12_openMany_23 (by decide) ?_
        refine q_goto (pc := 24) 28 dX12_openMany_24 (by decide) ?_
        refine q_iaddN (pc := 28) dX12_openMany_28 ?_
        refine q_istore_n (pc := 29) dX12_openMany_29 rfl (Nat.le_of_ble_eq_true rfl) rfl ?_
        show bq_W _ _ _ _ _ 30 [_, _, _] _ _ _ _ _ _ _
        refine q_iinc (pc := 30) (v := nI (i + 1)) dX12_openMany_30 rfl (bq_inc _) (Nat.le_of_ble_eq_true rfl) rfl ?_
        show bq_W _ _ _ _ _ 33 [_, _, _] _ _ _ _ _ _ _
        refine q_goto (pc := 33) 4 dX12_openMany_33 (by decide) ?_
        rw [show bq_ct (fun i => I (m + 1) (208 + 9 * i)) 0 (i + 1) = _ from if_pos c_20] at ih
        exact ih
  refine q_iconst (pc := 0) (v := nI 0) dX12_openMany_0 (by decide) ?_
  refine q_istore_n (pc := 1) dX12_openMany_1 rfl (Nat.le_of_ble_eq_true rfl) rfl ?_
  show bq_W _ _ _ _ _ 2 [_, _, _] _ _ _ _ _ _ _
  refine q_iconst (pc := 2) (v := nI 0) dX12_openMany_2 (by decide) ?_
  refine q_istore_n (pc := 3) dX12_openMany_3 rfl (Nat.le_of_ble_eq_true rfl) rfl ?_
  show bq_W _ _ _ _ _ 4 [_, _, _] _ _ _ _ _ _ _
  exact lp 0 (Nat.zero_le _)
set_option maxHeartbeats 1000000 in
set_option maxRecDepth 20000 in
theorem o_drop_a {S : BqH} {n : Nat} {I : BqI} {L : BqL} {P : BqP} {m ch : Nat} {h : Nat → BqG} {g : BqG} (hm : oModel S n P m) (hH : MH m I h ch) (hg : I (m + 1) = g) {en : Nat} (hG : GI g en) (hen : en < 2 ^ 29) (hq : I m 6 = nI 0) {o : Int32} (ho : o < 0 ∨ g 2 ≤ o ∨ nI 10 ≤ o) : bq_Sp mX12_drop 4 78 0 0 [.ref m, .int o] S n I L P (qMo m I S n L P (p_drop g h ch (I m 7) o)) := by
  refine q_entry (vs := [some (.ref m), some (.int o)]) (by decide +kernel) (by simp) (Nat.le_of_ble_eq_true rfl) rfl ?_
  have T0 := MSt.mk hH hg
  have hq1 : 0 ≤ 1 := by decide
  have hc : g 2 = nI (gn g 2) := hG.n (by decide) (by decide)
  have hcl : gn g 2 ≤ 10 := hG.2.2.2.1
  have hcI : I (m + 1) 2 = nI (gn g 2) := by rw [hg]; exact hc
  refine q_aload_n (pc := 0) dX12_drop_0 rfl rfl ?_
  refine q_iload_n (pc := 1) dX12_drop_1 rfl rfl ?_
  refine q_callVF (pc := 2) dX12_drop_2 kX12_121 (c_isOpen_out hm hcI hcl (by rw [hc] at ho; exact ho)) (Model_sh hm) rfl (Model_lt hm) ⟨Nat.le_of_ble_eq_true rfl, Nat.le_of_ble_eq_true rfl⟩ rfl rfl (Nat.le_of_ble_eq_true rfl) ?_
  show bq_W _ _ _ _ _ 5 _ [_] _ _ _ _ _ _
  refine q_if_ne (pc := 5) 14 dX12_drop_5 (by decide) (fun c_5 => (c_5 (by decide)).elim) (fun c_5 => ?_)
  refine q_aload_n (pc := 8) dX12_drop_8 rfl rfl ?_
  refine q_iconst (pc := 9) (v := nI 5) dX12_drop_9 (by decide) ?_
  refine q_callVF (pc := 10) dX12_drop_10 kX12_99 (c_X12_refuses hm) (Model_sh hm) rfl (Model_lt hm) ⟨Nat.le_of_ble_eq_true rfl, Nat.le_of_ble_eq_true rfl⟩ rfl rfl (Nat.le_of_ble_eq_true rfl) ?_
  show bq_W _ _ _ _ _ 13 _ [_] _ _ _ _ _ _
  exact q_iret (st := []) (pc := 13) dX12_drop_13 rfl (qMo.mk (T0.ref (nI 5)) (by unfold p_drop; rw [if_pos ho]))
set_option maxHeartbeats 1000000 in
set_option maxRecDepth 20000 in
theorem o_drop_b {S : BqH} {n : Nat} {I : BqI} {L : BqL} {P : BqP} {m ch : Nat} {h : Nat → BqG} {g : BqG} (hm : oModel S n P m) (hH : MH m I h ch) (hg : I (m + 1) = g) {en : Nat} (hG : GI g en) (hen : en < 2 ^ 29) (hq : I m 6 = nI 0) {o : Nat} (ho : o < gn g 2) : bq_Sp mX12_drop 4 78 0 0 [.ref m, .int (nI o)] S n I L P (qMo m I S n L P (p_drop g h ch (I m 7) (nI o))) := by
  refine q_entry (vs := [some (.ref m), some (.int (nI o))]) (by decide +kernel) (by simp) (Nat.le_of_ble_eq_true rfl) rfl ?_
  have T0 := MSt.mk hH hg
  have hq1 : 0 ≤ 1 := by decide
  have hc : g 2 = nI (gn g 2) := hG.n (by decide) (by decide)
  have hcl : gn g 2 ≤ 10 := hG.2.2.2.1
  have hcI : I (m + 1) 2 = nI (gn g 2) := by rw [hg]; exact hc
  rw [p_drop_n hG ho]
  refine q_aload_n (pc := 0) dX12_drop_0 rfl rfl ?_
  refine q_iload_n (pc := 1) dX12_drop_1 rfl rfl ?_
  refine q_callVF (pc := 2) dX12_drop_2 kX12_121 (c_isOpen_in hm hcI hcl (o := o) ho) (Model_sh hm) rfl (Model_lt hm) ⟨Nat.le_of_ble_eq_true rfl, Nat.le_of_ble_eq_true rfl⟩ rfl rfl (Nat.le_of_ble_eq_true rfl) ?_
  show bq_W _ _ _ _ _ 5 _ [_] _ _ _ _ _ _
  refine q_if_ne (pc := 5) 14 dX12_drop_5 (by decide) (fun c_5 => ?_) (fun c_5 => ?_)
  · replace c_5 := bq_bn.mp c_5
    refine q_aload_n (pc := 14) dX12_drop_14 rfl rfl ?_
    refine q_callV (pc := 15) dX12_drop_15 kX12_102 (c_rem hm hH hg hq hq1) (Model_sh hm) rfl (Model_lt hm) ⟨Nat.le_of_ble_eq_true rfl, Nat.le_of_ble_eq_true rfl⟩ rfl rfl (Nat.le_of_ble_eq_true rfl) ?_
    rintro _ S1 n1 I1 L1 P1 ⟨rfl, eS1, en1, eL1, eP1, H1, f1, f2⟩
    subst S1 n1 L1 P1
    show bq_W _ _ _ _ _ 18 _ [] _ _ _ _ _ _
    have T1 := T0.rem H1 f1 f2
    have hg1 := T1.1
    refine q_aload_n (pc := 18) dX12_drop_18 rfl rfl ?_
    refine q_getP (pc := 19) dX12_drop_19 fX12_9 (Model_sh hm) ⟨by decide, rfl⟩ (Model_lt hm) (Model_p_g hm) ?_
    refine q_sipush (pc := 22) (v := nI 204) dX12_drop_22 (by decide) ?_
    refine q_bipush (pc := 25) (v := nI 9) dX12_drop_25 (by decide) ?_
    refine q_iload_n (pc := 27) dX12_drop_27 rfl rfl ?_
    refine q_imulN (pc := 28) dX12_drop_28 ?_
    refine q_iaddN (pc := 29) dX12_drop_29 ?_
    refine q_iconst (pc := 30) (v := nI 4) dX12_drop_30 (by decide) ?_
    refine q_iaddN (pc := 31) dX12_drop_31 ?_
    refine q_iconst (pc := 32) (v := nI 2) dX12_drop_32 (by decide) ?_
    refine q_iast (pc := 33) dX12_drop_33 (oA_sh (Model_s_g hm)) (oA_lt (Model_s_g hm)) rfl (by omega) ?_
    refine q_nameI (fun I2 e2 => ?_)
    have T2 : MSt m I I2 (x_drop g o) (remH 0 g h ch).1 (remH 0 g h ch).2 (I m 7) := by rw [e2]; exact T1.u rfl (nI 2)
    have hc2 : I2 (m + 1) 2 = nI (gn g 2) := by rw [T2.1]; unfold x_drop; rw [bq_r_ne (by omega)]; exact hc
    refine q_aload_n (pc := 34) dX12_drop_34 rfl rfl ?_
    refine q_callVF (pc := 35) dX12_drop_35 kX12_124 (c_X12_openMany hm hc2 hcl) (Model_sh hm) rfl (Model_lt hm) ⟨Nat.le_of_ble_eq_true rfl, Nat.le_of_ble_eq_true rfl⟩ rfl rfl (Nat.le_of_ble_eq_true rfl) ?_
    show bq_W _ _ _ _ _ 38 _ [_] _ _ _ _ _ _
    rw [T2.1]
    exact q_iret (st := []) (pc := 38) dX12_drop_38 rfl (qMo.mk T2 (by unfold n_drop; rw [hg] at c_5; rw [if_pos c_5, chg_rem]))
  · replace c_5 := bq_b0.mp c_5
    refine q_aload_n (pc := 8) dX12_drop_8 rfl rfl ?_
    refine q_iconst (pc := 9) (v := nI 5) dX12_drop_9 (by decide) ?_
    refine q_callVF (pc := 10) dX12_drop_10 kX12_99 (c_X12_refuses hm) (Model_sh hm) rfl (Model_lt hm) ⟨Nat.le_of_ble_eq_true rfl, Nat.le_of_ble_eq_true rfl⟩ rfl rfl (Nat.le_of_ble_eq_true rfl) ?_
    show bq_W _ _ _ _ _ 13 _ [_] _ _ _ _ _ _
    exact q_iret (st := []) (pc := 13) dX12_drop_13 rfl (qMo.mk (T0.ref (nI 5)) (by unfold n_drop; rw [hg] at c_5; rw [if_neg c_5]))
theorem o_drop {S : BqH} {n : Nat} {I : BqI} {L : BqL} {P : BqP} {m ch : Nat} {h : Nat → BqG} {g : BqG} (hm : oModel S n P m) (hH : MH m I h ch) (hg : I (m + 1) = g) {en : Nat} (hG : GI g en) (hen : en < 2 ^ 29) (hq : I m 6 = nI 0) {o : Int32} : bq_Sp mX12_drop 4 78 0 0 [.ref m, .int o] S n I L P (qMo m I S n L P (p_drop g h ch (I m 7) o)) := by
  rcases bq_inO hG o with ho | ⟨o, ho, rfl⟩
  · exact o_drop_a hm hH hg hG hen hq ho
  · exact o_drop_b hm hH hg hG hen hq ho
set_option maxHeartbeats 4780000 in
set_option maxRecDepth 20000 in
theorem c_X12_rateFor {S : BqH} {n : Nat} {I : BqI} {L : BqL} {P : BqP} {m c : Nat} {g : BqG} (hm : oModel S n P m) (hg : I (m + 1) = g) (hc : g 3 = nI c) (hcl : c ≤ 10) {d s : Int32} : bq_Sp mX12_rateFor 1 12 0 0 [.ref m, .int d, .int s] S n I L P (bq_F (some (.int (ri (rfx (fun i => g (294 + 3 * i)) (fun i => g (295 + 3 * i)) d s c)))) S n I L P) := by
  refine q_entry (vs := [some (.ref m), some (.int d), some (.int s), none, none, none, none, none]) (by decide +kernel) (by simp) (Nat.le_of_ble_eq_true rfl) rfl ?_
  have hd : ∀ i, I (m + 1) (294 + 3 * i) = g (294 + 3 * i) := fun i => by rw [hg]
  have hs : ∀ i, I (m + 1) (294 + 3 * i + 1) = g (295 + 3 * i) := fun i => by rw [hg, show 294 + 3 * i + 1 = 295 + 3 * i by omega]
  have lp : ∀ i, i ≤ c → ∀ v5 v6 v7 : Option Value, bq_W mX12_rateFor 1 12 0 0 6 [some (.ref m), some (.int d), some (.int s), some (.int (ri (rfx (fun i => g (294 + 3 * i)) (fun i => g (295 + 3 * i)) d s i))), some (.int (nI i)), v5, v6, v7] [] S n I L P (bq_F (some (.int (ri (rfx (fun i => g (294 + 3 * i)) (fun i => g (295 + 3 * i)) d s c)))) S n I L P) := by
    refine bq_down (A := fun i => ∀ v5 v6 v7 : Option Value, bq_W mX12_rateFor 1 12 0 0 6 [some (.ref m), some (.int d), some (.int s), some (.int (ri (rfx (fun i => g (294 + 3 * i)) (fun i => g (295 + 3 * i)) d s i))), some (.int (nI i)), v5, v6, v7] [] S n I L P (bq_F (some (.int (ri (rfx (fun i => g (294 + 3 * i)) (fun i => g (295 + 3 * i)) d s c)))) S n I L P)) c ?_ ?_
    · intro v5 v6 v7
      refine q_iload (pc := 6) dX12_rateFor_6 rfl ?_
      refine q_aload_n (pc := 8) dX12_rateFor_8 rfl rfl ?_
      refine q_getP (pc := 9) dX12_rateFor_9 fX12_9 (Model_sh hm) ⟨by decide, rfl⟩ (Model_lt hm) (Model_p_g hm) ?_
      refine q_iconst (pc := 12) (v := nI 3) dX12_rateFor_12 (by decide) ?_
      refine q_iald (pc := 13) dX12_rateFor_13 (oA_sh (Model_s_g hm)) (oA_lt (Model_s_g hm)) rfl (by omega) ?_
      rw [hg, hc]
      refine q_icmp_ge (pc := 14) 148 dX12_rateFor_14 (by decide) (fun c_14 => ?_) (fun c_14 => absurd (nI_le (Nat.le_refl _) (by omega)) c_14)
      refine q_iload_n (pc := 148) dX12_rateFor_148 rfl rfl ?_
      exact q_iret (st := []) (pc := 149) dX12_rateFor_149 rfl ⟨rfl, rfl, rfl, rfl, rfl, rfl⟩
    · intro i hi ih v5 v6 v7
      cases hr : (rfx (fun i => g (294 + 3 * i)) (fun i => g (295 + 3 * i)) d s i) with
      | none =>
        rw [show ri none = (-5) from rfl]
        refine q_iload (pc := 6) dX12_rateFor_6 rfl ?_
        refine q_aload_n (pc := 8) dX12_rateFor_8 rfl rfl ?_
        refine q_getP (pc := 9) dX12_rateFor_9 fX12_9 (Model_sh hm) ⟨by decide, rfl⟩ (Model_lt hm) (Model_p_g hm) ?_
        refine q_iconst (pc := 12) (v := nI 3) dX12_rateFor_12 (by decide) ?_
        refine q_iald (pc := 13) dX12_rateFor_13 (oA_sh (Model_s_g hm)) (oA_lt (Model_s_g hm)) rfl (by omega) ?_
        rw [hg, hc]
        refine q_icmp_ge (pc := 14) 148 dX12_rateFor_14 (by decide) (fun c_14 => absurd c_14 (nI_ge hi (by omega))) (fun c_14 => ?_)
        refine q_sipush (pc := 17) (v := nI 294) dX12_rateFor_17 (by decide) ?_
        refine q_iconst (pc := 20) (v := nI 3) dX12_rateFor_20 (by decide) ?_
        refine q_iload (pc := 21) dX12_rateFor_21 rfl ?_
        refine q_imulN (pc := 23) dX12_rateFor_23 ?_
        refine q_iaddN (pc := 24) dX12_rateFor_24 ?_
        refine q_istore (pc := 25) dX12_rateFor_25 (Nat.le_of_ble_eq_true rfl) rfl ?_
        show bq_W _ _ _ _ _ 27 [_, _, _, _, _, _, _, _] _ _ _ _ _ _ _
        refine q_aload_n (pc := 27) dX12_rateFor_27 rfl rfl ?_
        refine q_getP (pc := 28) dX12_rateFor_28 fX12_9 (Model_sh hm) ⟨by decide, rfl⟩ (Model_lt hm) (Model_p_g hm) ?_
        refine q_iload (pc := 31) dX12_rateFor_31 rfl ?_
        refine q_iald (pc := 33) dX12_rateFor_33 (oA_sh (Model_s_g hm)) (oA_lt (Model_s_g hm)) rfl (by omega) ?_
        rw [hd i]
        refine q_iload_n (pc := 34) dX12_rateFor_34 rfl rfl ?_
        refine q_icmp_gt (pc := 35) 142 dX12_rateFor_35 (by decide) (fun c_35 => ?_) (fun c_35 => ?_)
        · refine q_iinc (pc := 142) (v := nI (i + 1)) dX12_rateFor_142 rfl (bq_inc _) (Nat.le_of_ble_eq_true rfl) rfl ?_
          show bq_W _ _ _ _ _ 145 [_, _, _, _, _, _, _, _] _ _ _ _ _ _ _
          refine q_goto (pc := 145) 6 dX12_rateFor_145 (by decide) ?_
          rw [rfx_s, hr, rfs_1 (d := fun i => g (294 + 3 * i)) (st := fun i => g (295 + 3 * i)) c_35] at ih
          exact ih _ _ _
        · refine q_aload_n (pc := 38) dX12_rateFor_38 rfl rfl ?_
          refine q_getP (pc := 39) dX12_rateFor_39 fX12_9 (Model_sh hm) ⟨by decide, rfl⟩ (Model_lt hm) (Model_p_g hm) ?_
          refine q_iload (pc := 42) dX12_rateFor_42 rfl ?_
          refine q_iconst (pc := 44) (v := nI 1) dX12_rateFor_44 (by decide) ?_
          refine q_iaddN (pc := 45) dX12_rateFor_45 ?_
          refine q_iald (pc := 46) dX12_rateFor_46 (oA_sh (Model_s_g hm)) (oA_lt (Model_s_g hm)) rfl (by omega) ?_
          rw [hs i]
          refine q_iload_n (pc := 47) dX12_rateFor_47 rfl rfl ?_
          refine q_icmp_gt (pc := 48) 142 dX12_rateFor_48 (by decide) (fun c_48 => ?_) (fun c_48 => ?_)
          · refine q_iinc (pc := 142) (v := nI (i + 1)) dX12_rateFor_142 rfl (bq_inc _) (Nat.le_of_ble_eq_true rfl) rfl ?_
            show bq_W _ _ _ _ _ 145 [_, _, _, _, _, _, _, _] _ _ _ _ _ _ _
            refine q_goto (pc := 145) 6 dX12_rateFor_145 (by decide) ?_
            rw [rfx_s, hr, rfs_2 (d := fun i => g (294 + 3 * i)) (st := fun i => g (295 + 3 * i)) c_35 (Int32.not_le.mpr c_48)] at ih
            exact ih _ _ _
          · refine q_sipush (pc := 51) (v := nI 294) dX12_rateFor_51 (by decide) ?_
            refine q_iconst (pc := 54) (v := nI 3) dX12_rateFor_54 (by decide) ?_
            refine q_iload_n (pc := 55) dX12_rateFor_55 rfl rfl ?_
            refine q_imul (pc := 56) dX12_rateFor_56 ?_
            refine q_iadd (pc := 57) dX12_rateFor_57 ?_
            refine q_istore (pc := 58) dX12_rateFor_58 (Nat.le_of_ble_eq_true rfl) rfl ?_
            show bq_W _ _ _ _ _ 60 [_, _, _, _, _, _, _, _] _ _ _ _ _ _ _
            refine q_iload_n (pc := 60) dX12_rateFor_60 rfl rfl ?_
            refine q_if_lt (pc := 61) 123 dX12_rateFor_61 (by decide) (fun c_61 => ?_) (fun c_61 => ((c_61 (by decide) : False)).elim)
            refine q_iconst (pc := 123) (v := nI 1) dX12_rateFor_123 (by decide) ?_
            refine q_goto (pc := 124) 128 dX12_rateFor_124 (by decide) ?_
            refine q_istore (pc := 128) dX12_rateFor_128 (Nat.le_of_ble_eq_true rfl) rfl ?_
            show bq_W _ _ _ _ _ 130 [_, _, _, _, _, _, _, _] _ _ _ _ _ _ _
            refine q_iload (pc := 130) dX12_rateFor_130 rfl ?_
            refine q_if_eq (pc := 132) 140 dX12_rateFor_132 (by decide) (fun c_132 => ((absurd c_132 (by decide) : False)).elim) (fun c_132 => ?_)
            refine q_iload (pc := 135) dX12_rateFor_135 rfl ?_
            refine q_goto (pc := 137) 141 dX12_rateFor_137 (by decide) ?_
            refine q_istore_n (pc := 141) dX12_rateFor_141 rfl (Nat.le_of_ble_eq_true rfl) rfl ?_
            show bq_W _ _ _ _ _ 142 [_, _, _, _, _, _, _, _] _ _ _ _ _ _ _
            refine q_iinc (pc := 142) (v := nI (i + 1)) dX12_rateFor_142 rfl (bq_inc _) (Nat.le_of_ble_eq_true rfl) rfl ?_
            show bq_W _ _ _ _ _ 145 [_, _, _, _, _, _, _, _] _ _ _ _ _ _ _
            refine q_goto (pc := 145) 6 dX12_rateFor_145 (by decide) ?_
            rw [rfx_s, hr, rfs_3 (d := fun i => g (294 + 3 * i)) (st := fun i => g (295 + 3 * i)) c_35 (Int32.not_lt.mp c_48)] at ih
            exact ih _ _ _
      | some q =>
        have hqi : q < i := rf_lt hr
        rw [show ri (some q) = nI q from rfl]
        refine q_iload (pc := 6) dX12_rateFor_6 rfl ?_
        refine q_aload_n (pc := 8) dX12_rateFor_8 rfl rfl ?_
        refine q_getP (pc := 9) dX12_rateFor_9 fX12_9 (Model_sh hm) ⟨by decide, rfl⟩ (Model_lt hm) (Model_p_g hm) ?_
        refine q_iconst (pc := 12) (v := nI 3) dX12_rateFor_12 (by decide) ?_
        refine q_iald (pc := 13) dX12_rateFor_13 (oA_sh (Model_s_g hm)) (oA_lt (Model_s_g hm)) rfl (by omega) ?_
        rw [hg, hc]
        refine q_icmp_ge (pc := 14) 148 dX12_rateFor_14 (by decide) (fun c_14 => absurd c_14 (nI_ge hi (by omega))) (fun c_14 => ?_)
        refine q_sipush (pc := 17) (v := nI 294) dX12_rateFor_17 (by decide) ?_
        refine q_iconst (pc := 20) (v := nI 3) dX12_rateFor_20 (by decide) ?_
        refine q_iload (pc := 21) dX12_rateFor_21 rfl ?_
        refine q_imulN (pc := 23) dX12_rateFor_23 ?_
        refine q_iaddN (pc := 24) dX12_rateFor_24 ?_
        refine q_istore (pc := 25) dX12_rateFor_25 (Nat.le_of_ble_eq_true rfl) rfl ?_
        show bq_W _ _ _ _ _ 27 [_, _, _, _, _, _, _, _] _ _ _ _ _ _ _
        refine q_aload_n (pc := 27) dX12_rateFor_27 rfl rfl ?_
        refine q_getP (pc := 28) dX12_rateFor_28 fX12_9 (Model_sh hm) ⟨by decide, rfl⟩ (Model_lt hm) (Model_p_g hm) ?_
        refine q_iload (pc := 31) dX12_rateFor_31 rfl ?_
        refine q_iald (pc := 33) dX12_rateFor_33 (oA_sh (Model_s_g hm)) (oA_lt (Model_s_g hm)) rfl (by omega) ?_
        rw [hd i]
        refine q_iload_n (pc := 34) dX12_rateFor_34 rfl rfl ?_
        refine q_icmp_gt (pc := 35) 142 dX12_rateFor_35 (by decide) (fun c_35 => ?_) (fun c_35 => ?_)
        · refine q_iinc (pc := 142) (v := nI (i + 1)) dX12_rateFor_142 rfl (bq_inc _) (Nat.le_of_ble_eq_true rfl) rfl ?_
          show bq_W _ _ _ _ _ 145 [_, _, _, _, _, _, _, _] _ _ _ _ _ _ _
          refine q_goto (pc := 145) 6 dX12_rateFor_145 (by decide) ?_
          rw [rfx_s, hr, rfs_1 (d := fun i => g (294 + 3 * i)) (st := fun i => g (295 + 3 * i)) c_35] at ih
          exact ih _ _ _
        · refine q_aload_n (pc := 38) dX12_rateFor_38 rfl rfl ?_
          refine q_getP (pc := 39) dX12_rateFor_39 fX12_9 (Model_sh hm) ⟨by decide, rfl⟩ (Model_lt hm) (Model_p_g hm) ?_
          refine q_iload (pc := 42) dX12_rateFor_42 rfl ?_
          refine q_iconst (pc := 44) (v := nI 1) dX12_rateFor_44 (by decide) ?_
          refine q_iaddN (pc := 45) dX12_rateFor_45 ?_
          refine q_iald (pc := 46) dX12_rateFor_46 (oA_sh (Model_s_g hm)) (oA_lt (Model_s_g hm)) rfl (by omega) ?_
          rw [hs i]
          refine q_iload_n (pc := 47) dX12_rateFor_47 rfl rfl ?_
          refine q_icmp_gt (pc := 48) 142 dX12_rateFor_48 (by decide) (fun c_48 => ?_) (fun c_48 => ?_)
          · refine q_iinc (pc := 142) (v := nI (i + 1)) dX12_rateFor_142 rfl (bq_inc _) (Nat.le_of_ble_eq_true rfl) rfl ?_
            show bq_W _ _ _ _ _ 145 [_, _, _, _, _, _, _, _] _ _ _ _ _ _ _
            refine q_goto (pc := 145) 6 dX12_rateFor_145 (by decide) ?_
            rw [rfx_s, hr, rfs_2 (d := fun i => g (294 + 3 * i)) (st := fun i => g (295 + 3 * i)) c_35 (Int32.not_le.mpr c_48)] at ih
            exact ih _ _ _
          · refine q_sipush (pc := 51) (v := nI 294) dX12_rateFor_51 (by decide) ?_
            refine q_iconst (pc := 54) (v := nI 3) dX12_rateFor_54 (by decide) ?_
            refine q_iload_n (pc := 55) dX12_rateFor_55 rfl rfl ?_
            refine q_imulN (pc := 56) dX12_rateFor_56 ?_
            refine q_iaddN (pc := 57) dX12_rateFor_57 ?_
            refine q_istore (pc := 58) dX12_rateFor_58 (Nat.le_of_ble_eq_true rfl) rfl ?_
            show bq_W _ _ _ _ _ 60 [_, _, _, _, _, _, _, _] _ _ _ _ _ _ _
            refine q_iload_n (pc := 60) dX12_rateFor_60 rfl rfl ?_
            refine q_if_lt (pc := 61) 123 dX12_rateFor_61 (by decide) (fun c_61 => ((nI_pos (by omega) c_61 : False)).elim) (fun c_61 => ?_)
            refine q_aload_n (pc := 64) dX12_rateFor_64 rfl rfl ?_
            refine q_getP (pc := 65) dX12_rateFor_65 fX12_9 (Model_sh hm) ⟨by decide, rfl⟩ (Model_lt hm) (Model_p_g hm) ?_
            refine q_iload (pc := 68) dX12_rateFor_68 rfl ?_
            refine q_iconst (pc := 70) (v := nI 1) dX12_rateFor_70 (by decide) ?_
            refine q_iaddN (pc := 71) dX12_rateFor_71 ?_
            refine q_iald (pc := 72) dX12_rateFor_72 (oA_sh (Model_s_g hm)) (oA_lt (Model_s_g hm)) rfl (by omega) ?_
            rw [hs i]
            refine q_aload_n (pc := 73) dX12_rateFor_73 rfl rfl ?_
            refine q_getP (pc := 74) dX12_rateFor_74 fX12_9 (Model_sh hm) ⟨by decide, rfl⟩ (Model_lt hm) (Model_p_g hm) ?_
            refine q_iload (pc := 77) dX12_rateFor_77 rfl ?_
            refine q_iconst (pc := 79) (v := nI 1) dX12_rateFor_79 (by decide) ?_
            refine q_iaddN (pc := 80) dX12_rateFor_80 ?_
            refine q_iald (pc := 81) dX12_rateFor_81 (oA_sh (Model_s_g hm)) (oA_lt (Model_s_g hm)) rfl (by omega) ?_
            rw [hs q]
            refine q_icmp_gt (pc := 82) 123 dX12_rateFor_82 (by decide) (fun c_82 => ?_) (fun c_82 => ?_)
            · refine q_iconst (pc := 123) (v := nI 1) dX12_rateFor_123 (by decide) ?_
              refine q_goto (pc := 124) 128 dX12_rateFor_124 (by decide) ?_
              refine q_istore (pc := 128) dX12_rateFor_128 (Nat.le_of_ble_eq_true rfl) rfl ?_
              show bq_W _ _ _ _ _ 130 [_, _, _, _, _, _, _, _] _ _ _ _ _ _ _
              refine q_iload (pc := 130) dX12_rateFor_130 rfl ?_
              refine q_if_eq (pc := 132) 140 dX12_rateFor_132 (by decide) (fun c_132 => ((absurd c_132 (by decide) : False)).elim) (fun c_132 => ?_)
              refine q_iload (pc := 135) dX12_rateFor_135 rfl ?_
              refine q_goto (pc := 137) 141 dX12_rateFor_137 (by decide) ?_
              refine q_istore_n (pc := 141) dX12_rateFor_141 rfl (Nat.le_of_ble_eq_true rfl) rfl ?_
              show bq_W _ _ _ _ _ 142 [_, _, _, _, _, _, _, _] _ _ _ _ _ _ _
              refine q_iinc (pc := 142) (v := nI (i + 1)) dX12_rateFor_142 rfl (bq_inc _) (Nat.le_of_ble_eq_true rfl) rfl ?_
              show bq_W _ _ _ _ _ 145 [_, _, _, _, _, _, _, _] _ _ _ _ _ _ _
              refine q_goto (pc := 145) 6 dX12_rateFor_145 (by decide) ?_
              rw [rfx_s, hr, rfs_4 (d := fun i => g (294 + 3 * i)) (st := fun i => g (295 + 3 * i)) c_35 (Int32.not_lt.mp c_48) c_82] at ih
              exact ih _ _ _
            · refine q_aload_n (pc := 85) dX12_rateFor_85 rfl rfl ?_
              refine q_getP (pc := 86) dX12_rateFor_86 fX12_9 (Model_sh hm) ⟨by decide, rfl⟩ (Model_lt hm) (Model_p_g hm) ?_
              refine q_iload (pc := 89) dX12_rateFor_89 rfl ?_
              refine q_iconst (pc := 91) (v := nI 1) dX12_rateFor_91 (by decide) ?_
              refine q_iaddN (pc := 92) dX12_rateFor_92 ?_
              refine q_iald (pc := 93) dX12_rateFor_93 (oA_sh (Model_s_g hm)) (oA_lt (Model_s_g hm)) rfl (by omega) ?_
              rw [hs i]
              refine q_aload_n (pc := 94) dX12_rateFor_94 rfl rfl ?_
              refine q_getP (pc := 95) dX12_rateFor_95 fX12_9 (Model_sh hm) ⟨by decide, rfl⟩ (Model_lt hm) (Model_p_g hm) ?_
              refine q_iload (pc := 98) dX12_rateFor_98 rfl ?_
              refine q_iconst (pc := 100) (v := nI 1) dX12_rateFor_100 (by decide) ?_
              refine q_iaddN (pc := 101) dX12_rateFor_101 ?_
              refine q_iald (pc := 102) dX12_rateFor_102 (oA_sh (Model_s_g hm)) (oA_lt (Model_s_g hm)) rfl (by omega) ?_
              rw [hs q]
              refine q_icmp_ne (pc := 103) 127 dX12_rateFor_103 (by decide) (fun c_103 => ?_) (fun c_103 => ?_)
              · refine q_iconst (pc := 127) (v := nI 0) dX12_rateFor_127 (by decide) ?_
                refine q_istore (pc := 128) dX12_rateFor_128 (Nat.le_of_ble_eq_true rfl) rfl ?_
                show bq_W _ _ _ _ _ 130 [_, _, _, _, _, _, _, _] _ _ _ _ _ _ _
                refine q_iload (pc := 130) dX12_rateFor_130 rfl ?_
                refine q_if_eq (pc := 132) 140 dX12_rateFor_132 (by decide) (fun c_132 => ?_) (fun c_132 => ((c_132 (by decide) : False)).elim)
                refine q_iload_n (pc := 140) dX12_rateFor_140 rfl rfl ?_
                refine q_istore_n (pc := 141) dX12_rateFor_141 rfl (Nat.le_of_ble_eq_true rfl) rfl ?_
                show bq_W _ _ _ _ _ 142 [_, _, _, _, _, _, _, _] _ _ _ _ _ _ _
                refine q_iinc (pc := 142) (v := nI (i + 1)) dX12_rateFor_142 rfl (bq_inc _) (Nat.le_of_ble_eq_true rfl) rfl ?_
                show bq_W _ _ _ _ _ 145 [_, _, _, _, _, _, _, _] _ _ _ _ _ _ _
                refine q_goto (pc := 145) 6 dX12_rateFor_145 (by decide) ?_
                rw [rfx_s, hr, rfs_5 (d := fun i => g (294 + 3 * i)) (st := fun i => g (295 + 3 * i)) c_35 (Int32.not_lt.mp c_48) c_82 c_103] at ih
                exact ih _ _ _
              · refine q_aload_n (pc := 106) dX12_rateFor_106 rfl rfl ?_
                refine q_getP (pc := 107) dX12_rateFor_107 fX12_9 (Model_sh hm) ⟨by decide, rfl⟩ (Model_lt hm) (Model_p_g hm) ?_
                refine q_iload (pc := 110) dX12_rateFor_110 rfl ?_
                refine q_iald (pc := 112) dX12_rateFor_112 (oA_sh (Model_s_g hm)) (oA_lt (Model_s_g hm)) rfl (by omega) ?_
                rw [hd i]
                refine q_aload_n (pc := 113) dX12_rateFor_113 rfl rfl ?_
                refine q_getP (pc := 114) dX12_rateFor_114 fX12_9 (Model_sh hm) ⟨by decide, rfl⟩ (Model_lt hm) (Model_p_g hm) ?_
                refine q_iload (pc := 117) dX12_rateFor_117 rfl ?_
                refine q_iald (pc := 119) dX12_rateFor_119 (oA_sh (Model_s_g hm)) (oA_lt (Model_s_g hm)) rfl (by omega) ?_
                rw [hd q]
                refine q_icmp_lt (pc := 120) 127 dX12_rateFor_120 (by decide) (fun c_120 => ?_) (fun c_120 => ?_)
                · refine q_iconst (pc := 127) (v := nI 0) dX12_rateFor_127 (by decide) ?_
                  refine q_istore (pc := 128) dX12_rateFor_128 (Nat.le_of_ble_eq_true rfl) rfl ?_
                  show bq_W _ _ _ _ _ 130 [_, _, _, _, _, _, _, _] _ _ _ _ _ _ _
                  refine q_iload (pc := 130) dX12_rateFor_130 rfl ?_
                  refine q_if_eq (pc := 132) 140 dX12_rateFor_132 (by decide) (fun c_132 => ?_) (fun c_132 => ((c_132 (by decide) : False)).elim)
                  refine q_iload_n (pc := 140) dX12_rateFor_140 rfl rfl ?_
                  refine q_istore_n (pc := 141) dX12_rateFor_141 rfl (Nat.le_of_ble_eq_true rfl) rfl ?_
                  show bq_W _ _ _ _ _ 142 [_, _, _, _, _, _, _, _] _ _ _ _ _ _ _
                  refine q_iinc (pc := 142) (v := nI (i + 1)) dX12_rateFor_142 rfl (bq_inc _) (Nat.le_of_ble_eq_true rfl) rfl ?_
                  show bq_W _ _ _ _ _ 145 [_, _, _, _, _, _, _, _] _ _ _ _ _ _ _
                  refine q_goto (pc := 145) 6 dX12_rateFor_145 (by decide) ?_
                  rw [rfx_s, hr, rfs_6 (d := fun i => g (294 + 3 * i)) (st := fun i => g (295 + 3 * i)) c_35 (Int32.not_lt.mp c_48) c_82 c_103 c_120] at ih
                  exact ih _ _ _
                · refine q_iconst (pc := 123) (v := nI 1) dX12_rateFor_123 (by decide) ?_
                  refine q_goto (pc := 124) 128 dX12_rateFor_124 (by decide) ?_
                  refine q_istore (pc := 128) dX12_rateFor_128 (Nat.le_of_ble_eq_true rfl) rfl ?_
                  show bq_W _ _ _ _ _ 130 [_, _, _, _, _, _, _, _] _ _ _ _ _ _ _
                  refine q_iload (pc := 130) dX12_rateFor_130 rfl ?_
                  refine q_if_eq (pc := 132) 140 dX12_rateFor_132 (by decide) (fun c_132 => ((absurd c_132 (by decide) : False)).elim) (fun c_132 => ?_)
                  refine q_iload (pc := 135) dX12_rateFor_135 rfl ?_
                  refine q_goto (pc := 137) 141 dX12_rateFor_137 (by decide) ?_
                  refine q_istore_n (pc := 141) dX12_rateFor_141 rfl (Nat.le_of_ble_eq_true rfl) rfl ?_
                  show bq_W _ _ _ _ _ 142 [_, _, _, _, _, _, _, _] _ _ _ _ _ _ _
                  refine q_iinc (pc := 142) (v := nI (i + 1)) dX12_rateFor_142 rfl (bq_inc _) (Nat.le_of_ble_eq_true rfl) rfl ?_
                  show bq_W _ _ _ _ _ 145 [_, _, _, _, _, _, _, _] _ _ _ _ _ _ _
                  refine q_goto (pc := 145) 6 dX12_rateFor_145 (by decide) ?_
                  rw [rfx_s, hr, rfs_7 (d := fun i => g (294 + 3 * i)) (st := fun i => g (295 + 3 * i)) c_35 (Int32.not_lt.mp c_48) c_82 c_103 c_120] at ih
                  exact ih _ _ _
  refine q_bipush (pc := 0) (v := (-5)) dX12_rateFor_0 (by decide) ?_
  refine q_istore_n (pc := 2) dX12_rateFor_2 rfl (Nat.le_of_ble_eq_true rfl) rfl ?_
  show bq_W _ _ _ _ _ 3 [_, _, _, _, _, _, _, _] _ _ _ _ _ _ _
  refine q_iconst (pc := 3) (v := nI 0) dX12_rateFor_3 (by decide) ?_
  refine q_istore (pc := 4) dX12_rateFor_4 (Nat.le_of_ble_eq_true rfl) rfl ?_
  show bq_W _ _ _ _ _ 6 [_, _, _, _, _, _, _, _] _ _ _ _ _ _ _
  exact lp 0 (Nat.zero_le _) _ _ _
set_option maxHeartbeats 1000000 in
set_option maxRecDepth 20000 in
theorem c_duty_none {S : BqH} {n : Nat} {I : BqI} {L : BqL} {P : BqP} {m c : Nat} {g : BqG} (hm : oModel S n P m) (hg : I (m + 1) = g) (hc : g 3 = nI c) (hcl : c ≤ 10) {d s a : Int32} (hr : (rfx (fun i => g (294 + 3 * i)) (fun i => g (295 + 3 * i)) d s c) = none) : bq_Sp mX12_dutyFor 2 39 0 0 [.ref m, .int d, .int s, .int a] S n I L P (bq_F (some (.int (du (fun i => g (296 + 3 * i)) (rfx (fun i => g (294 + 3 * i)) (fun i => g (295 + 3 * i)) d s c) (a.toInt64)))) S n I L P) := by
  refine q_entry (vs := [some (.ref m), some (.int d), some (.int s), some (.int a), none]) (by decide +kernel) (by simp) (Nat.le_of_ble_eq_true rfl) rfl ?_
  have hb := hcl
  refine q_aload_n (pc := 0) dX12_dutyFor_0 rfl rfl ?_
  refine q_iload_n (pc := 1) dX12_dutyFor_1 rfl rfl ?_
  refine q_iload_n (pc := 2) dX12_dutyFor_2 rfl rfl ?_
  refine q_callVF (pc := 3) dX12_dutyFor_3 kX12_128 (c_X12_rateFor hm hg hc hcl) (Model_sh hm) rfl (Model_lt hm) ⟨Nat.le_of_ble_eq_true rfl, Nat.le_of_ble_eq_true rfl⟩ rfl rfl (Nat.le_of_ble_eq_true rfl) ?_
  show bq_W _ _ _ _ _ 6 _ [_] _ _ _ _ _ _
  rw [hr, show ri none = (-5) from rfl]
  refine q_istore (pc := 6) dX12_dutyFor_6 (Nat.le_of_ble_eq_true rfl) rfl ?_
  show bq_W _ _ _ _ _ 8 [_, _, _, _, _] _ _ _ _ _ _ _
  refine q_iload (pc := 8) dX12_dutyFor_8 rfl ?_
  refine q_if_ge (pc := 10) 17 dX12_dutyFor_10 (by decide) (fun c_10 => ((absurd c_10 (by decide) : False)).elim) (fun c_10 => ?_)
  refine q_iconst (pc := 13) (v := nI 0) dX12_dutyFor_13 (by decide) ?_
  refine q_goto (pc := 14) 45 dX12_dutyFor_14 (by decide) ?_
  exact q_iret (st := []) (pc := 45) dX12_dutyFor_45 rfl ⟨by first | rfl | (rw [hr]; rfl), rfl, rfl, rfl, rfl, rfl⟩
set_option maxHeartbeats 1000000 in
set_option maxRecDepth 20000 in
theorem c_duty_some {S : BqH} {n : Nat} {I : BqI} {L : BqL} {P : BqP} {m c : Nat} {g : BqG} (hm : oModel S n P m) (hg : I (m + 1) = g) (hc : g 3 = nI c) (hcl : c ≤ 10) {d s a : Int32} {q : Nat} (hr : (rfx (fun i => g (294 + 3 * i)) (fun i => g (295 + 3 * i)) d s c) = some q) : bq_Sp mX12_dutyFor 2 39 0 0 [.ref m, .int d, .int s, .int a] S n I L P (bq_F (some (.int (du (fun i => g (296 + 3 * i)) (rfx (fun i => g (294 + 3 * i)) (fun i => g (295 + 3 * i)) d s c) (a.toInt64)))) S n I L P) := by
  refine q_entry (vs := [some (.ref m), some (.int d), some (.int s), some (.int a), none]) (by decide +kernel) (by simp) (Nat.le_of_ble_eq_true rfl) rfl ?_
  have hb := hcl
  have hqc : q < c := rf_lt hr
  refine q_aload_n (pc := 0) dX12_dutyFor_0 rfl rfl ?_
  refine q_iload_n (pc := 1) dX12_dutyFor_1 rfl rfl ?_
  refine q_iload_n (pc := 2) dX12_dutyFor_2 rfl rfl ?_
  refine q_callVF (pc := 3) dX12_dutyFor_3 kX12_128 (c_X12_rateFor hm hg hc hcl) (Model_sh hm) rfl (Model_lt hm) ⟨Nat.le_of_ble_eq_true rfl, Nat.le_of_ble_eq_true rfl⟩ rfl rfl (Nat.le_of_ble_eq_true rfl) ?_
  show bq_W _ _ _ _ _ 6 _ [_] _ _ _ _ _ _
  rw [hr, show ri (some q) = nI q from rfl]
  refine q_istore (pc := 6) dX12_dutyFor_6 (Nat.le_of_ble_eq_true rfl) rfl ?_
  show bq_W _ _ _ _ _ 8 [_, _, _, _, _] _ _ _ _ _ _ _
  refine q_iload (pc := 8) dX12_dutyFor_8 rfl ?_
  refine q_if_ge (pc := 10) 17 dX12_dutyFor_10 (by decide) (fun c_10 => ?_) (fun c_10 => (c_10 (nI_pos' (by omega))).elim)
  refine q_iload_n (pc := 17) dX12_dutyFor_17 rfl rfl ?_
  refine q_i2l (pc := 18) dX12_dutyFor_18 ?_
  refine q_aload_n (pc := 19) dX12_dutyFor_19 rfl rfl ?_
  refine q_getP (pc := 20) dX12_dutyFor_20 fX12_9 (Model_sh hm) ⟨by decide, rfl⟩ (Model_lt hm) (Model_p_g hm) ?_
  refine q_sipush (pc := 23) (v := nI 294) dX12_dutyFor_23 (by decide) ?_
  refine q_iconst (pc := 26) (v := nI 3) dX12_dutyFor_26 (by decide) ?_
  refine q_iload (pc := 27) dX12_dutyFor_27 rfl ?_
  refine q_imulN (pc := 29) dX12_dutyFor_29 ?_
  refine q_iaddN (pc := 30) dX12_dutyFor_30 ?_
  refine q_iconst (pc := 31) (v := nI 2) dX12_dutyFor_31 (by decide) ?_
  refine q_iaddN (pc := 32) dX12_dutyFor_32 ?_
  refine q_iald (pc := 33) dX12_dutyFor_33 (oA_sh (Model_s_g hm)) (oA_lt (Model_s_g hm)) rfl (by omega) ?_
  rw [hg, show 294 + 3 * q + 2 = 296 + 3 * q by omega]
  refine q_i2l (pc := 34) dX12_dutyFor_34 ?_
  refine q_lmul (pc := 35) dX12_dutyFor_35 ?_
  refine q_ldc2 (pc := 36) dX12_dutyFor_36 lX12_131 ?_
  refine q_ladd (pc := 39) dX12_dutyFor_39 ?_
  refine q_ldc2 (pc := 40) dX12_dutyFor_40 lX12_133 ?_
  refine q_ldiv (pc := 43) dX12_dutyFor_43 (by decide) ?_
  refine q_l2i (pc := 44) dX12_dutyFor_44 ?_
  exact q_iret (st := []) (pc := 45) dX12_dutyFor_45 rfl ⟨by first | rfl | (rw [hr]; rfl), rfl, rfl, rfl, rfl, rfl⟩
theorem c_X12_dutyFor {S : BqH} {n : Nat} {I : BqI} {L : BqL} {P : BqP} {m c : Nat} {g : BqG} (hm : oModel S n P m) (hg : I (m + 1) = g) (hc : g 3 = nI c) (hcl : c ≤ 10) {d s a : Int32} : bq_Sp mX12_dutyFor 2 39 0 0 [.ref m, .int d, .int s, .int a] S n I L P (bq_F (some (.int (du (fun i => g (296 + 3 * i)) (rfx (fun i => g (294 + 3 * i)) (fun i => g (295 + 3 * i)) d s c) (a.toInt64)))) S n I L P) := by
  cases hr : (rfx (fun i => g (294 + 3 * i)) (fun i => g (295 + 3 * i)) d s c) with
  | none => have := c_duty_none (L := L) (d := d) (s := s) (a := a) hm hg hc hcl hr; rw [hr] at this; exact this
  | some q => have := c_duty_some (L := L) (d := d) (s := s) (a := a) hm hg hc hcl hr; rw [hr] at this; exact this
set_option maxHeartbeats 1000000 in
set_option maxRecDepth 20000 in
theorem c_X12_blend {S : BqH} {n : Nat} {I : BqI} {L : BqL} {P : BqP} {m : Nat} (hm : oModel S n P m) (hp : ¬ bq_sum (I (m + 6)) 16 ≤ 0) : bq_Sp mX12_blend 3 57 0 0 [.ref m] S n I L P (bq_F (some (.int (bq_str (I (m + 6)) (fun b => I (m + 1) (124 + 5 * b))))) S n I L P) := by
  refine q_entry (vs := [some (.ref m)]) (by decide +kernel) (by simp) (Nat.le_of_ble_eq_true rfl) rfl ?_
  refine q_aload_n (pc := 0) dX12_blend_0 rfl rfl ?_
  refine q_aload_n (pc := 1) dX12_blend_1 rfl rfl ?_
  refine q_getP (pc := 2) dX12_blend_2 fX12_25 (Model_sh hm) ⟨by decide, rfl⟩ (Model_lt hm) (Model_p_there hm) ?_
  refine q_callVF (pc := 5) dX12_blend_5 kX12_135 (c_X12_alcoholOf hm (Model_s_there hm)) (Model_sh hm) rfl (Model_lt hm) ⟨Nat.le_of_ble_eq_true rfl, Nat.le_of_ble_eq_true rfl⟩ rfl rfl (Nat.le_of_ble_eq_true rfl) ?_
  show bq_W _ _ _ _ _ 8 _ [_] _ _ _ _ _ _
  refine q_aload_n (pc := 8) dX12_blend_8 rfl rfl ?_
  refine q_getP (pc := 9) dX12_blend_9 fX12_25 (Model_sh hm) ⟨by decide, rfl⟩ (Model_lt hm) (Model_p_there hm) ?_
  refine q_callSF (pc := 12) dX12_blend_12 kX12_84 (c_X12_sumOf (Model_s_there hm)) ⟨Nat.le_of_ble_eq_true rfl, Nat.le_of_ble_eq_true rfl⟩ rfl rfl (Nat.le_of_ble_eq_true rfl) ?_
  show bq_W _ _ _ _ _ 15 _ [_, _] _ _ _ _ _ _
  refine q_i2l (pc := 15) dX12_blend_15 ?_
  refine q_ldiv (pc := 16) dX12_blend_16 (bq_i64 hp) ?_
  refine q_l2i (pc := 17) dX12_blend_17 ?_
  exact q_iret (st := []) (pc := 18) dX12_blend_18 rfl ⟨by unfold bq_str; rw [if_neg hp], rfl, rfl, rfl, rfl, rfl⟩
set_option maxHeartbeats 1000000 in
set_option maxRecDepth 20000 in
theorem c_X12_hinders {S : BqH} {n : Nat} {I : BqI} {L : BqL} {P : BqP} {m o : Nat} {g : BqG} {F : Nat → Nat} (hm : oModel S n P m) (hg : I (m + 1) = g) {en : Nat} (hG : GI g en) (ho : o < 10) (hF : ∀ j, j < 16 → I (m + 6) j = nI (F j)) (hp : 0 < ns F 16) (hb : ns F 16 ≤ 9999) : bq_Sp mX12_hinders 4 77 0 0 [.ref m, .int (nI o)] S n I L P (bq_F (some (.int (hnd g F (bq_str (I (m + 6)) (fun b => g (124 + 5 * b))) o))) S n I L P) := by
  refine q_entry (vs := [some (.ref m), some (.int (nI o))]) (by decide +kernel) (by simp) (Nat.le_of_ble_eq_true rfl) rfl ?_
  have hs : bq_sum (I (m + 6)) 16 = nI (ns F 16) := bq_sum_n 16 hF
  have hsp : ¬ bq_sum (I (m + 6)) 16 ≤ 0 := by rw [hs]; exact nI_nle hp (by omega)
  have h1 : g (205 + 9 * o) = nI (gn g (205 + 9 * o)) := hG.n (by omega) (by omega)
  have h1l := (hG.o ho).1
  refine q_aload_n (pc := 0) dX12_hinders_0 rfl rfl ?_
  refine q_getP (pc := 1) dX12_hinders_1 fX12_25 (Model_sh hm) ⟨by decide, rfl⟩ (Model_lt hm) (Model_p_there hm) ?_
  refine q_callSF (pc := 4) dX12_hinders_4 kX12_84 (c_X12_sumOf (Model_s_there hm)) ⟨Nat.le_of_ble_eq_true rfl, Nat.le_of_ble_eq_true rfl⟩ rfl rfl (Nat.le_of_ble_eq_true rfl) ?_
  show bq_W _ _ _ _ _ 7 _ [_] _ _ _ _ _ _
  rw [hs]
  refine q_aload_n (pc := 7) dX12_hinders_7 rfl rfl ?_
  refine q_iload_n (pc := 8) dX12_hinders_8 rfl rfl ?_
  refine q_iconst (pc := 9) (v := nI 1) dX12_hinders_9 (by decide) ?_
  refine q_callVF (pc := 10) dX12_hinders_10 kX12_118 (c_oA hm (o := o) (k := 1) (j := 205 + 9 * o) (by omega) (by omega)) (Model_sh hm) rfl (Model_lt hm) ⟨Nat.le_of_ble_eq_true rfl, Nat.le_of_ble_eq_true rfl⟩ rfl rfl (Nat.le_of_ble_eq_true rfl) ?_
  show bq_W _ _ _ _ _ 13 _ [_, _] _ _ _ _ _ _
  rw [hg, h1]
  refine q_icmp_ge (pc := 13) 18 dX12_hinders_13 (by decide) (fun c_13 => ?_) (fun c_13 => ?_)
  · have hge : ¬ ns F 16 < gn g (205 + 9 * o) := Nat.not_lt.mpr ((nI_leI (by omega) (by omega)).mp c_13)
    refine q_aload_n (pc := 18) dX12_hinders_18 rfl rfl ?_
    refine q_callVF (pc := 19) dX12_hinders_19 kX12_139 (c_X12_blend hm hsp) (Model_sh hm) rfl (Model_lt hm) ⟨Nat.le_of_ble_eq_true rfl, Nat.le_of_ble_eq_true rfl⟩ rfl rfl (Nat.le_of_ble_eq_true rfl) ?_
    show bq_W _ _ _ _ _ 22 _ [_] _ _ _ _ _ _
    rw [hg]
    refine q_aload_n (pc := 22) dX12_hinders_22 rfl rfl ?_
    refine q_iload_n (pc := 23) dX12_hinders_23 rfl rfl ?_
    refine q_iconst (pc := 24) (v := nI 2) dX12_hinders_24 (by decide) ?_
    refine q_callVF (pc := 25) dX12_hinders_25 kX12_118 (c_oA hm (o := o) (k := 2) (j := 206 + 9 * o) (by omega) (by omega)) (Model_sh hm) rfl (Model_lt hm) ⟨Nat.le_of_ble_eq_true rfl, Nat.le_of_ble_eq_true rfl⟩ rfl rfl (Nat.le_of_ble_eq_true rfl) ?_
    show bq_W _ _ _ _ _ 28 _ [_, _] _ _ _ _ _ _
    rw [hg]
    refine q_aload_n (pc := 28) dX12_hinders_28 rfl rfl ?_
    refine q_iload_n (pc := 29) dX12_hinders_29 rfl rfl ?_
    refine q_iconst (pc := 30) (v := nI 3) dX12_hinders_30 (by decide) ?_
    refine q_callVF (pc := 31) dX12_hinders_31 kX12_118 (c_oA hm (o := o) (k := 3) (j := 207 + 9 * o) (by omega) (by omega)) (Model_sh hm) rfl (Model_lt hm) ⟨Nat.le_of_ble_eq_true rfl, Nat.le_of_ble_eq_true rfl⟩ rfl rfl (Nat.le_of_ble_eq_true rfl) ?_
    show bq_W _ _ _ _ _ 34 _ [_, _, _] _ _ _ _ _ _
    rw [hg]
    refine q_callSF (pc := 34) dX12_hinders_34 kX12_69 c_X12_in ⟨Nat.le_of_ble_eq_true rfl, Nat.le_of_ble_eq_true rfl⟩ rfl rfl (Nat.le_of_ble_eq_true rfl) ?_
    show bq_W _ _ _ _ _ 37 _ [_] _ _ _ _ _ _
    refine q_if_eq (pc := 37) 44 dX12_hinders_37 (by decide) (fun c_37 => ?_) (fun c_37 => ?_)
    · replace c_37 := bq_nb0.mp c_37
      refine q_bipush (pc := 44) (v := nI 6) dX12_hinders_44 (by decide) ?_
      exact q_iret (st := []) (pc := 46) dX12_hinders_46 rfl ⟨by unfold hnd; first | rw [if_pos hlt] | rw [if_neg hge, if_pos c_37] | rw [if_neg hge, if_neg c_37], rfl, rfl, rfl, rfl, rfl⟩
    · replace c_37 := bq_nbn.mp c_37
      refine q_iconst (pc := 40) (v := nI 0) dX12_hinders_40 (by decide) ?_
      refine q_goto (pc := 41) 46 dX12_hinders_41 (by decide) ?_
      exact q_iret (st := []) (pc := 46) dX12_hinders_46 rfl ⟨by unfold hnd; first | rw [if_pos hlt] | rw [if_neg hge, if_pos c_37] | rw [if_neg hge, if_neg c_37], rfl, rfl, rfl, rfl, rfl⟩
  · have hlt : ns F 16 < gn g (205 + 9 * o) := Nat.lt_of_not_le (fun z => c_13 (nI_le z (by omega)))
    refine q_iconst (pc := 16) (v := nI 3) dX12_hinders_16 (by decide) ?_
    exact q_iret (st := []) (pc := 17) dX12_hinders_17 rfl ⟨by unfold hnd; first | rw [if_pos hlt] | rw [if_neg hge, if_pos c_37] | rw [if_neg hge, if_neg c_37], rfl, rfl, rfl, rfl, rfl⟩
set_option maxHeartbeats 4000000 in
set_option maxRecDepth 20000 in
theorem c_X12_fills {S : BqH} {n : Nat} {I : BqI} {L : BqL} {P : BqP} {m t o l : Nat} {g : BqG} (hm : oModel S n P m) (hg : I (m + 1) = g) {en : Nat} (hG : GI g en) (hen : en < 2 ^ 29) (ht : t < 6) (ho : o < gn g 2) (hl : gn g (205 + 9 * o) = l) (hge : l ≤ gt g t) : bq_Sp mX12_fills 5 101 0 0 [.ref m, .int (nI t), .int (nI o)] S n I L P (qFl m I S n L P (x_fill g t o l)) := by
  refine q_entry (vs := [some (.ref m), some (.int (nI t)), some (.int (nI o)), none, none]) (by decide +kernel) (by simp) (Nat.le_of_ble_eq_true rfl) rfl ?_
  have h1t : g (11 + 19 * t) = nI (gn g (11 + 19 * t)) := hG.n (by omega) (by omega)
  obtain ⟨qt1, qt2, qt3, qt4, qt5, qt6⟩ := hG.t ht
  have ho10 : o < 10 := by have := hG.2.2.2.1; omega
  have h205 : g (205 + 9 * o) = nI l := by rw [← hl]; exact hG.n (by omega) (by omega)
  have hl1 : 1 ≤ l := by rw [← hl]; exact (hG.o ho10).2.1 ho
  have hl2 : l ≤ 9999 := by rw [← hl]; exact (hG.o ho10).1
  have hpos : 0 < ns (gp g t) 16 := show 0 < gt g t by omega
  have htb : ns (gp g t) 16 ≤ 9999 := show gt g t ≤ 9999 by omega
  have hc : g 3 = nI (gn g 3) := hG.n (by decide) (by decide)
  have hcl : gn g 3 ≤ 10 := hG.2.2.2.2.1
  have hfa := fa_lt hG hge hpos htb
  have hm5 : gn g 5 ≤ en := hG.2.2.2.2.2.2.1
  refine q_aload_n (pc := 0) dX12_fills_0 rfl rfl ?_
  refine q_iload_n (pc := 1) dX12_fills_1 rfl rfl ?_
  refine q_callVF (pc := 2) dX12_fills_2 kX12_105 (c_X12_looksAt hm (t := t) (by omega)) (Model_sh hm) rfl (Model_lt hm) ⟨Nat.le_of_ble_eq_true rfl, Nat.le_of_ble_eq_true rfl⟩ rfl rfl (Nat.le_of_ble_eq_true rfl) ?_
  show bq_W _ _ _ _ _ 5 _ [] _ _ _ _ _ _
  refine q_nameI (fun I1 e1 => ?_)
  have hF2 : ∀ j, j < 16 → I1 (m + 6) j = nI (gp g t j) := fun j hj => by rw [e1, bq_r_self, lk_at hj, hg]; exact hG.p ht j hj
  have r1 : I1 (m + 1) = g := by rw [e1, bq_r_ne (by omega)]; exact hg
  have u1 : ∀ a, a ≠ m + 6 → I1 a = I a := fun a ha => by rw [e1]; exact bq_r_ne ha
  refine q_aload_n (pc := 5) dX12_fills_5 rfl rfl ?_
  refine q_aload_n (pc := 6) dX12_fills_6 rfl rfl ?_
  refine q_iload_n (pc := 7) dX12_fills_7 rfl rfl ?_
  refine q_iconst (pc := 8) (v := nI 1) dX12_fills_8 (by decide) ?_
  refine q_callVF (pc := 9) dX12_fills_9 kX12_118 (c_oA hm (o := o) (k := 1) (j := 205 + 9 * o) (by omega) (by omega)) (Model_sh hm) rfl (Model_lt hm) ⟨Nat.le_of_ble_eq_true rfl, Nat.le_of_ble_eq_true rfl⟩ rfl rfl (Nat.le_of_ble_eq_true rfl) ?_
  show bq_W _ _ _ _ _ 12 _ [_, _] _ _ _ _ _ _
  rw [r1, h205]
  refine q_callV (pc := 12) dX12_fills_12 kX12_109 (c_X12_takes hm hF2 hge hpos htb) (Model_sh hm) rfl (Model_lt hm) ⟨Nat.le_of_ble_eq_true rfl, Nat.le_of_ble_eq_true rfl⟩ rfl rfl (Nat.le_of_ble_eq_true rfl) ?_
  rintro _ S2 n2 I2 L2 P2 ⟨rfl, eS2, en2, eL2, eP2, f2, t2⟩
  subst S2 n2 L2 P2
  show bq_W _ _ _ _ _ 15 _ [] _ _ _ _ _ _
  have r2 : I2 (m + 1) = g := by rw [f2 _ (by omega) (by omega)]; exact r1
  have ht2 : ∀ j, j < 16 → I2 (m + 7) j = tk g t l j := t2
  refine q_sipush (pc := 15) (v := nI 204) dX12_fills_15 (by decide) ?_
  refine q_bipush (pc := 18) (v := nI 9) dX12_fills_18 (by decide) ?_
  refine q_iload_n (pc := 20) dX12_fills_20 rfl rfl ?_
  refine q_imulN (pc := 21) dX12_fills_21 ?_
  refine q_iaddN (pc := 22) dX12_fills_22 ?_
  refine q_istore_n (pc := 23) dX12_fills_23 rfl (Nat.le_of_ble_eq_true rfl) rfl ?_
  show bq_W _ _ _ _ _ 24 [_, _, _, _, _] _ _ _ _ _ _ _
  refine q_aload_n (pc := 24) dX12_fills_24 rfl rfl ?_
  refine q_getP (pc := 25) dX12_fills_25 fX12_9 (Model_sh hm) ⟨by decide, rfl⟩ (Model_lt hm) (Model_p_g hm) ?_
  refine q_iload_n (pc := 28) dX12_fills_28 rfl rfl ?_
  refine q_iconst (pc := 29) (v := nI 4) dX12_fills_29 (by decide) ?_
  refine q_iaddN (pc := 30) dX12_fills_30 ?_
  refine q_iconst (pc := 31) (v := nI 1) dX12_fills_31 (by decide) ?_
  refine q_iast (pc := 32) dX12_fills_32 (oA_sh (Model_s_g hm)) (oA_lt (Model_s_g hm)) rfl (by omega) ?_
  refine q_nameI (fun I3 e3 => ?_)
  have r3 : I3 (m + 1) = bq_r (g) (208 + 9 * o) (nI 1) := by rw [e3]; rw [bq_u_r, bq_r_self, r2, show 204 + 9 * o + 4 = 208 + 9 * o by omega]
  have u3 : ∀ a, a ≠ m + 1 → I3 a = I2 a := fun a ha => by rw [e3]; exact bq_u_ne ha
  refine q_aload_n (pc := 33) dX12_fills_33 rfl rfl ?_
  refine q_getP (pc := 34) dX12_fills_34 fX12_9 (Model_sh hm) ⟨by decide, rfl⟩ (Model_lt hm) (Model_p_g hm) ?_
  refine q_iload_n (pc := 37) dX12_fills_37 rfl rfl ?_
  refine q_bipush (pc := 38) (v := nI 6) dX12_fills_38 (by decide) ?_
  refine q_iaddN (pc := 40) dX12_fills_40 ?_
  refine q_aload_n (pc := 41) dX12_fills_41 rfl rfl ?_
  refine q_getP (pc := 42) dX12_fills_42 fX12_9 (Model_sh hm) ⟨by decide, rfl⟩ (Model_lt hm) (Model_p_g hm) ?_
  refine q_iconst (pc := 45) (v := nI 0) dX12_fills_45 (by decide) ?_
  refine q_iald (pc := 46) dX12_fills_46 (oA_sh (Model_s_g hm)) (oA_lt (Model_s_g hm)) rfl (by omega) ?_
  rw [r3, bq_r_ne (show 0 ≠ 208 + 9 * o by omega)]
  refine q_iast (pc := 47) dX12_fills_47 (oA_sh (Model_s_g hm)) (oA_lt (Model_s_g hm)) rfl (by omega) ?_
  refine q_nameI (fun I4 e4 => ?_)
  have r4 : I4 (m + 1) = bq_r (bq_r (g) (208 + 9 * o) (nI 1)) (210 + 9 * o) (g 0) := by rw [e4]; rw [bq_u_r, bq_r_self, r3, show 204 + 9 * o + 6 = 210 + 9 * o by omega]
  have u4 : ∀ a, a ≠ m + 1 → I4 a = I3 a := fun a ha => by rw [e4]; exact bq_u_ne ha
  refine q_aload_n (pc := 48) dX12_fills_48 rfl rfl ?_
  refine q_getP (pc := 49) dX12_fills_49 fX12_9 (Model_sh hm) ⟨by decide, rfl⟩ (Model_lt hm) (Model_p_g hm) ?_
  refine q_iload_n (pc := 52) dX12_fills_52 rfl rfl ?_
  refine q_bipush (pc := 53) (v := nI 8) dX12_fills_53 (by decide) ?_
  refine q_iaddN (pc := 55) dX12_fills_55 ?_
  refine q_aload_n (pc := 56) dX12_fills_56 rfl rfl ?_
  refine q_aload_n (pc := 57) dX12_fills_57 rfl rfl ?_
  refine q_getP (pc := 58) dX12_fills_58 fX12_28 (Model_sh hm) ⟨by decide, rfl⟩ (Model_lt hm) (Model_p_taken hm) ?_
  refine q_callVF (pc := 61) dX12_fills_61 kX12_135 (c_X12_alcoholOf hm (Model_s_taken hm)) (Model_sh hm) rfl (Model_lt hm) ⟨Nat.le_of_ble_eq_true rfl, Nat.le_of_ble_eq_true rfl⟩ rfl rfl (Nat.le_of_ble_eq_true rfl) ?_
  show bq_W _ _ _ _ _ 64 _ [_, _, _] _ _ _ _ _ _
  refine q_l2i (pc := 64) dX12_fills_64 ?_
  rw [show bq_alc (I4 (m + 7)) (fun b => I4 (m + 1) (124 + 5 * b)) 16 = nJ (fa g t l) from by rw [r4, u4 _ (by omega), u3 _ (by omega)]; exact fa_m hG hge hpos htb ht2 (fun b hb => by rw [bq_r_ne (by omega), bq_r_ne (by omega)]), nJ_32 hfa]
  refine q_iast (pc := 65) dX12_fills_65 (oA_sh (Model_s_g hm)) (oA_lt (Model_s_g hm)) rfl (by omega) ?_
  refine q_nameI (fun I5 e5 => ?_)
  have r5 : I5 (m + 1) = bq_r (bq_r (bq_r (g) (208 + 9 * o) (nI 1)) (210 + 9 * o) (g 0)) (212 + 9 * o) (nI (fa g t l)) := by rw [e5]; rw [bq_u_r, bq_r_self, r4, show 204 + 9 * o + 8 = 212 + 9 * o by omega]
  have u5 : ∀ a, a ≠ m + 1 → I5 a = I4 a := fun a ha => by rw [e5]; exact bq_u_ne ha
  refine q_aload_n (pc := 66) dX12_fills_66 rfl rfl ?_
  refine q_getP (pc := 67) dX12_fills_67 fX12_9 (Model_sh hm) ⟨by decide, rfl⟩ (Model_lt hm) (Model_p_g hm) ?_
  refine q_iload_n (pc := 70) dX12_fills_70 rfl rfl ?_
  refine q_bipush (pc := 71) (v := nI 7) dX12_fills_71 (by decide) ?_
  refine q_iaddN (pc := 73) dX12_fills_73 ?_
  refine q_aload_n (pc := 74) dX12_fills_74 rfl rfl ?_
  refine q_getP (pc := 75) dX12_fills_75 fX12_9 (Model_sh hm) ⟨by decide, rfl⟩ (Model_lt hm) (Model_p_g hm) ?_
  refine q_iload_n (pc := 78) dX12_fills_78 rfl rfl ?_
  refine q_bipush (pc := 79) (v := nI 8) dX12_fills_79 (by decide) ?_
  refine q_iaddN (pc := 81) dX12_fills_81 ?_
  refine q_iald (pc := 82) dX12_fills_82 (oA_sh (Model_s_g hm)) (oA_lt (Model_s_g hm)) rfl (by omega) ?_
  rw [r5, show 204 + 9 * o + 8 = 212 + 9 * o by omega, bq_r_self]
  refine q_aload_n (pc := 83) dX12_fills_83 rfl rfl ?_
  refine q_getP (pc := 84) dX12_fills_84 fX12_9 (Model_sh hm) ⟨by decide, rfl⟩ (Model_lt hm) (Model_p_g hm) ?_
  refine q_iload_n (pc := 87) dX12_fills_87 rfl rfl ?_
  refine q_iconst (pc := 88) (v := nI 1) dX12_fills_88 (by decide) ?_
  refine q_iaddN (pc := 89) dX12_fills_89 ?_
  refine q_iald (pc := 90) dX12_fills_90 (oA_sh (Model_s_g hm)) (oA_lt (Model_s_g hm)) rfl (by omega) ?_
  rw [r5, show 204 + 9 * o + 1 = 205 + 9 * o by omega, bq_r_ne (show 205 + 9 * o ≠ 212 + 9 * o by omega), bq_r_ne (show 205 + 9 * o ≠ 210 + 9 * o by omega), bq_r_ne (show 205 + 9 * o ≠ 208 + 9 * o by omega), h205]
  refine q_idiv (pc := 91) dX12_fills_91 (nI_ne0 (by omega) (by omega)) ?_
  rw [pk_div hfa (by omega) (by omega), ← fs_m hG hge hpos htb hl1]
  refine q_iast (pc := 92) dX12_fills_92 (oA_sh (Model_s_g hm)) (oA_lt (Model_s_g hm)) rfl (by omega) ?_
  refine q_nameI (fun I6 e6 => ?_)
  have r6 : I6 (m + 1) = bq_r (bq_r (bq_r (bq_r (g) (208 + 9 * o) (nI 1)) (210 + 9 * o) (g 0)) (212 + 9 * o) (nI (fa g t l))) (211 + 9 * o) (fs g t l) := by rw [e6]; rw [bq_u_r, bq_r_self, r5, show 204 + 9 * o + 7 = 211 + 9 * o by omega]
  have u6 : ∀ a, a ≠ m + 1 → I6 a = I5 a := fun a ha => by rw [e6]; exact bq_u_ne ha
  refine q_aload_n (pc := 93) dX12_fills_93 rfl rfl ?_
  refine q_getP (pc := 94) dX12_fills_94 fX12_9 (Model_sh hm) ⟨by decide, rfl⟩ (Model_lt hm) (Model_p_g hm) ?_
  refine q_iload_n (pc := 97) dX12_fills_97 rfl rfl ?_
  refine q_iconst (pc := 98) (v := nI 5) dX12_fills_98 (by decide) ?_
  refine q_iaddN (pc := 99) dX12_fills_99 ?_
  refine q_aload_n (pc := 100) dX12_fills_100 rfl rfl ?_
  refine q_aload_n (pc := 101) dX12_fills_101 rfl rfl ?_
  refine q_getP (pc := 102) dX12_fills_102 fX12_9 (Model_sh hm) ⟨by decide, rfl⟩ (Model_lt hm) (Model_p_g hm) ?_
  refine q_iconst (pc := 105) (v := nI 0) dX12_fills_105 (by decide) ?_
  refine q_iald (pc := 106) dX12_fills_106 (oA_sh (Model_s_g hm)) (oA_lt (Model_s_g hm)) rfl (by omega) ?_
  rw [show I6 (m + 1) 0 = g 0 from by rw [r6, bq_r_ne (by omega), bq_r_ne (by omega), bq_r_ne (by omega), bq_r_ne (by omega)]]
  refine q_aload_n (pc := 107) dX12_fills_107 rfl rfl ?_
  refine q_getP (pc := 108) dX12_fills_108 fX12_9 (Model_sh hm) ⟨by decide, rfl⟩ (Model_lt hm) (Model_p_g hm) ?_
  refine q_iload_n (pc := 111) dX12_fills_111 rfl rfl ?_
  refine q_bipush (pc := 112) (v := nI 7) dX12_fills_112 (by decide) ?_
  refine q_iaddN (pc := 114) dX12_fills_114 ?_
  refine q_iald (pc := 115) dX12_fills_115 (oA_sh (Model_s_g hm)) (oA_lt (Model_s_g hm)) rfl (by omega) ?_
  rw [show I6 (m + 1) (204 + 9 * o + 7) = fs g t l from by rw [r6, show 204 + 9 * o + 7 = 211 + 9 * o by omega, bq_r_self]]
  refine q_aload_n (pc := 116) dX12_fills_116 rfl rfl ?_
  refine q_getP (pc := 117) dX12_fills_117 fX12_9 (Model_sh hm) ⟨by decide, rfl⟩ (Model_lt hm) (Model_p_g hm) ?_
  refine q_iload_n (pc := 120) dX12_fills_120 rfl rfl ?_
  refine q_bipush (pc := 121) (v := nI 8) dX12_fills_121 (by decide) ?_
  refine q_iaddN (pc := 123) dX12_fills_123 ?_
  refine q_iald (pc := 124) dX12_fills_124 (oA_sh (Model_s_g hm)) (oA_lt (Model_s_g hm)) rfl (by omega) ?_
  rw [show I6 (m + 1) (204 + 9 * o + 8) = nI (fa g t l) from by rw [r6, show 204 + 9 * o + 8 = 212 + 9 * o by omega, bq_r_ne (by omega), bq_r_self]]
  refine q_callVF (pc := 125) dX12_fills_125 kX12_142 (c_X12_dutyFor hm r6 (by rw [bq_r_ne (by omega), bq_r_ne (by omega), bq_r_ne (by omega), bq_r_ne (by omega)]; exact hc) hcl) (Model_sh hm) rfl (Model_lt hm) ⟨Nat.le_of_ble_eq_true rfl, Nat.le_of_ble_eq_true rfl⟩ rfl rfl (Nat.le_of_ble_eq_true rfl) ?_
  show bq_W _ _ _ _ _ 128 _ [_, _, _] _ _ _ _ _ _
  rw [fd_m (G := bq_r (bq_r (bq_r (bq_r (g) (208 + 9 * o) (nI 1)) (210 + 9 * o) (g 0)) (212 + 9 * o) (nI (fa g t l))) (211 + 9 * o) (fs g t l)) (fun k hk => by rw [bq_r_ne (by omega), bq_r_ne (by omega), bq_r_ne (by omega), bq_r_ne (by omega)])]
  refine q_iast (pc := 128) dX12_fills_128 (oA_sh (Model_s_g hm)) (oA_lt (Model_s_g hm)) rfl (by omega) ?_
  refine q_nameI (fun I7 e7 => ?_)
  have r7 : I7 (m + 1) = bq_r (bq_r (bq_r (bq_r (bq_r (g) (208 + 9 * o) (nI 1)) (210 + 9 * o) (g 0)) (212 + 9 * o) (nI (fa g t l))) (211 + 9 * o) (fs g t l)) (209 + 9 * o) (fd g t o l) := by rw [e7]; rw [bq_u_r, bq_r_self, r6, show 204 + 9 * o + 5 = 209 + 9 * o by omega]
  have u7 : ∀ a, a ≠ m + 1 → I7 a = I6 a := fun a ha => by rw [e7]; exact bq_u_ne ha
  have ht7 : ∀ j, j < 16 → I7 (m + 7) j = tk g t l j := fun j hj => by rw [u7 _ (by omega), u6 _ (by omega), u5 _ (by omega), u4 _ (by omega), u3 _ (by omega)]; exact ht2 j hj
  refine q_iconst (pc := 129) (v := nI 0) dX12_fills_129 (by decide) ?_
  refine q_istore (pc := 130) dX12_fills_130 (Nat.le_of_ble_eq_true rfl) rfl ?_
  show bq_W _ _ _ _ _ 132 [_, _, _, _, _] _ _ _ _ _ _ _
  have lp : ∀ i, i ≤ 16 → bq_W mX12_fills 5 101 0 0 132 [some (.ref m), some (.int (nI t)), some (.int (nI o)), some (.int (nI (204 + 9 * o))), some (.int (nI i))] [] S n (fl I7 (m + 1) (fun j => 124 + 5 * j + 2) (fun j => I7 (m + 1) (124 + 5 * j + 2) + I7 (m + 7) j) i) L P (qFl m I S n L P (x_fill g t o l)) := by
    refine bq_down (A := fun i => bq_W mX12_fills 5 101 0 0 132 [some (.ref m), some (.int (nI t)), some (.int (nI o)), some (.int (nI (204 + 9 * o))), some (.int (nI i))] [] S n (fl I7 (m + 1) (fun j => 124 + 5 * j + 2) (fun j => I7 (m + 1) (124 + 5 * j + 2) + I7 (m + 7) j) i) L P (qFl m I S n L P (x_fill g t o l))) 16 ?_ ?_
    · refine q_iload (pc := 132) dX12_fills_132 rfl ?_
      refine q_bipush (pc := 134) (v := nI 16) dX12_fills_134 (by decide) ?_
      refine q_icmp_ge (pc := 136) 169 dX12_fills_136 (by decide) (fun c_136 => ?_) (fun c_136 => absurd (by decide) c_136)
      rw [bd_fl I7 m]
      refine q_nameI (fun I8 e8 => ?_)
      have r8 : I8 (m + 1) = g_badd (bq_r (bq_r (bq_r (bq_r (bq_r (g) (208 + 9 * o) (nI 1)) (210 + 9 * o) (g 0)) (212 + 9 * o) (nI (fa g t l))) (211 + 9 * o) (fs g t l)) (209 + 9 * o) (fd g t o l)) 2 (tk g t l) := by rw [e8, bq_r_self, r7, g_badd_congr ht7]
      have u8 : ∀ a, a ≠ m + 1 → I8 a = I7 a := fun a ha => by rw [e8]; exact bq_r_ne ha
      have ht8 : ∀ j, j < 16 → I8 (m + 7) j = tk g t l j := fun j hj => by rw [u8 _ (by omega)]; exact ht7 j hj
      refine q_aload_n (pc := 169) dX12_fills_169 rfl rfl ?_
      refine q_iload_n (pc := 170) dX12_fills_170 rfl rfl ?_
      refine q_callVF (pc := 171) dX12_fills_171 kX12_112 (c_X12_leaves hm (t := t) (by omega)) (Model_sh hm) rfl (Model_lt hm) ⟨Nat.le_of_ble_eq_true rfl, Nat.le_of_ble_eq_true rfl⟩ rfl rfl (Nat.le_of_ble_eq_true rfl) ?_
      show bq_W _ _ _ _ _ 174 _ [] _ _ _ _ _ _
      refine q_nameI (fun I9 e9 => ?_)
      have r9 : I9 (m + 1) = x_fill3 g t o l := by rw [e9, bq_r_self, r8, g_out_congr ht8]; exact x_fill_m ht ho10
      have u9 : ∀ a, a ≠ m + 1 → I9 a = I8 a := fun a ha => by rw [e9]; exact bq_r_ne ha
      have hm9 : I9 (m + 1) 5 = nI (gn g 5) := by rw [r9, x_fill3_n ht (by omega) (by omega)]; exact hG.n (by decide) (by decide)
      refine q_aload_n (pc := 174) dX12_fills_174 rfl rfl ?_
      refine q_iconst (pc := 175) (v := nI 4) dX12_fills_175 (by decide) ?_
      refine q_iload_n (pc := 176) dX12_fills_176 rfl rfl ?_
      refine q_aload_n (pc := 177) dX12_fills_177 rfl rfl ?_
      refine q_getP (pc := 178) dX12_fills_178 fX12_9 (Model_sh hm) ⟨by decide, rfl⟩ (Model_lt hm) (Model_p_g hm) ?_
      refine q_iload_n (pc := 181) dX12_fills_181 rfl rfl ?_
      refine q_iconst (pc := 182) (v := nI 1) dX12_fills_182 (by decide) ?_
      refine q_iaddN (pc := 183) dX12_fills_183 ?_
      refine q_iald (pc := 184) dX12_fills_184 (oA_sh (Model_s_g hm)) (oA_lt (Model_s_g hm)) rfl (by omega) ?_
      rw [show I9 (m + 1) (204 + 9 * o + 1) = nI l from by rw [r9, x_fill3_n ht (by omega) (by omega), show 204 + 9 * o + 1 = 205 + 9 * o by omega]; exact h205]
      refine q_callVF (pc := 185) dX12_fills_185 kX12_91 (c_X12_notes hm hm9 (by omega)) (Model_sh hm) rfl (Model_lt hm) ⟨Nat.le_of_ble_eq_true rfl, Nat.le_of_ble_eq_true rfl⟩ rfl rfl (Nat.le_of_ble_eq_true rfl) ?_
      show bq_W _ _ _ _ _ 188 _ [] _ _ _ _ _ _
      exact q_vret (st := []) (pc := 188) dX12_fills_188 rfl ⟨rfl, rfl, rfl, rfl, rfl, by rw [bq_r_self, r9]; rfl, fun a ha ha2 => by rw [bq_r_ne ha, u9 a ha, u8 a ha, u7 a ha, u6 a ha, u5 a ha, u4 a ha, u3 a ha, f2 a (by omega) (by omega), u1 a (by omega)]⟩
    · intro i hi ih
      refine q_iload (pc := 132) dX12_fills_132 rfl ?_
      refine q_bipush (pc := 134) (v := nI 16) dX12_fills_134 (by decide) ?_
      refine q_icmp_ge (pc := 136) 169 dX12_fills_136 (by decide) (fun c_136 => absurd c_136 (nI_ge hi (by decide))) (fun c_136 => ?_)
      refine q_aload_n (pc := 139) dX12_fills_139 rfl rfl ?_
      refine q_getP (pc := 140) dX12_fills_140 fX12_9 (Model_sh hm) ⟨by decide, rfl⟩ (Model_lt hm) (Model_p_g hm) ?_
      refine q_bipush (pc := 143) (v := nI 124) dX12_fills_143 (by decide) ?_
      refine q_iconst (pc := 145) (v := nI 5) dX12_fills_145 (by decide) ?_
      refine q_iload (pc := 146) dX12_fills_146 rfl ?_
      refine q_imulN (pc := 148) dX12_fills_148 ?_
      refine q_iaddN (pc := 149) dX12_fills_149 ?_
      refine q_iconst (pc := 150) (v := nI 2) dX12_fills_150 (by decide) ?_
      refine q_iaddN (pc := 151) dX12_fills_151 ?_
      refine q_dup2 (pc := 152) dX12_fills_152 rfl rfl ?_
      refine q_iald (pc := 153) dX12_fills_153 (oA_sh (Model_s_g hm)) (oA_lt (Model_s_g hm)) rfl (by omega) ?_
      refine q_aload_n (pc := 154) dX12_fills_154 rfl rfl ?_
      refine q_getP (pc := 155) dX12_fills_155 fX12_28 (Model_sh hm) ⟨by decide, rfl⟩ (Model_lt hm) (Model_p_taken hm) ?_
      refine q_iload (pc := 158) dX12_fills_158 rfl ?_
      refine q_iald (pc := 160) dX12_fills_160 (oA_sh (Model_s_taken hm)) (oA_lt (Model_s_taken hm)) rfl (by omega) ?_
      rw [fl_no i (fun q hq => by omega), fl_ne (show m + 7 ≠ m + 1 by omega) i]
      refine q_iadd (pc := 161) dX12_fills_161 ?_
      refine q_iast (pc := 162) dX12_fills_162 (oA_sh (Model_s_g hm)) (oA_lt (Model_s_g hm)) rfl (by omega) ?_
      refine q_iinc (pc := 163) (v := nI (i + 1)) dX12_fills_163 rfl (bq_inc _) (Nat.le_of_ble_eq_true rfl) rfl ?_
      show bq_W _ _ _ _ _ 166 [_, _, _, _, _] _ _ _ _ _ _ _
      refine q_goto (pc := 166) 132 dX12_fills_166 (by decide) ?_
      exact ih
  exact lp 0 (by decide)
set_option maxHeartbeats 1000000 in
set_option maxRecDepth 20000 in
theorem o_fill_a {S : BqH} {n : Nat} {I : BqI} {L : BqL} {P : BqP} {m ch : Nat} {h : Nat → BqG} {g : BqG} (hm : oModel S n P m) (hH : MH m I h ch) (hg : I (m + 1) = g) {en : Nat} (hG : GI g en) (hen : en < 2 ^ 29) {q : Nat} (hq : I m 6 = nI q) (hq1 : q ≤ 1) {t o : Int32} (ho : o < 0 ∨ g 2 ≤ o ∨ nI 10 ≤ o) : bq_Sp mX12_fill 6 125 0 0 [.ref m, .int t, .int o] S n I L P (qMo m I S n L P (mst q g h ch (I m 7) (w_fill g t o))) := by
  refine q_entry (vs := [some (.ref m), some (.int t), some (.int o), none]) (by decide +kernel) (by simp) (Nat.le_of_ble_eq_true rfl) rfl ?_
  have T0 := MSt.mk hH hg
  have hc : g 2 = nI (gn g 2) := hG.n (by decide) (by decide)
  have hcl : gn g 2 ≤ 10 := hG.2.2.2.1
  have hcI : I (m + 1) 2 = nI (gn g 2) := by rw [hg]; exact hc
  refine q_iload_n (pc := 0) dX12_fill_0 rfl rfl ?_
  refine q_callSF (pc := 1) dX12_fill_1 kX12_95 c_X12_isTank ⟨Nat.le_of_ble_eq_true rfl, Nat.le_of_ble_eq_true rfl⟩ rfl rfl (Nat.le_of_ble_eq_true rfl) ?_
  show bq_W _ _ _ _ _ 4 _ [_] _ _ _ _ _ _
  refine q_if_ne (pc := 4) 13 dX12_fill_4 (by decide) (fun c_4 => ?_) (fun c_4 => ?_)
  · replace c_4 := bq_nbn.mp c_4
    refine q_aload_n (pc := 13) dX12_fill_13 rfl rfl ?_
    refine q_iload_n (pc := 14) dX12_fill_14 rfl rfl ?_
    refine q_callVF (pc := 15) dX12_fill_15 kX12_121 (c_isOpen_out hm hcI hcl (by rw [hc] at ho; exact ho)) (Model_sh hm) rfl (Model_lt hm) ⟨Nat.le_of_ble_eq_true rfl, Nat.le_of_ble_eq_true rfl⟩ rfl rfl (Nat.le_of_ble_eq_true rfl) ?_
    show bq_W _ _ _ _ _ 18 _ [_] _ _ _ _ _ _
    refine q_if_ne (pc := 18) 27 dX12_fill_18 (by decide) (fun c_18 => (c_18 (by decide)).elim) (fun c_18 => ?_)
    refine q_aload_n (pc := 21) dX12_fill_21 rfl rfl ?_
    refine q_iconst (pc := 22) (v := nI 5) dX12_fill_22 (by decide) ?_
    refine q_callVF (pc := 23) dX12_fill_23 kX12_99 (c_X12_refuses hm) (Model_sh hm) rfl (Model_lt hm) ⟨Nat.le_of_ble_eq_true rfl, Nat.le_of_ble_eq_true rfl⟩ rfl rfl (Nat.le_of_ble_eq_true rfl) ?_
    show bq_W _ _ _ _ _ 26 _ [_] _ _ _ _ _ _
    exact q_iret (st := []) (pc := 26) dX12_fill_26 rfl (qMo.mk (T0.ref (nI 5)) (by unfold w_fill; rw [if_neg c_4, if_pos ho, mst_neg (u := nI 5) (by decide) (by decide)]))
  · replace c_4 := bq_nb0.mp c_4
    refine q_aload_n (pc := 7) dX12_fill_7 rfl rfl ?_
    refine q_iconst (pc := 8) (v := nI 1) dX12_fill_8 (by decide) ?_
    refine q_callVF (pc := 9) dX12_fill_9 kX12_99 (c_X12_refuses hm) (Model_sh hm) rfl (Model_lt hm) ⟨Nat.le_of_ble_eq_true rfl, Nat.le_of_ble_eq_true rfl⟩ rfl rfl (Nat.le_of_ble_eq_true rfl) ?_
    show bq_W _ _ _ _ _ 12 _ [_] _ _ _ _ _ _
    exact q_iret (st := []) (pc := 12) dX12_fill_12 rfl (qMo.mk (T0.ref (nI 1)) (by unfold w_fill; rw [if_pos c_4, mst_neg (u := nI 1) (by decide) (by decide)]))
set_option maxHeartbeats 2040000 in
set_option maxRecDepth 20000 in
theorem o_fill_b {S : BqH} {n : Nat} {I : BqI} {L : BqL} {P : BqP} {m ch : Nat} {h : Nat → BqG} {g : BqG} (hm : oModel S n P m) (hH : MH m I h ch) (hg : I (m + 1) = g) {en : Nat} (hG : GI g en) (hen : en < 2 ^ 29) {q : Nat} (hq : I m 6 = nI q) (hq1 : q ≤ 1) {t : Int32} {o : Nat} (ho : o < gn g 2) : bq_Sp mX12_fill 6 125 0 0 [.ref m, .int t, .int (nI o)] S n I L P (qMo m I S n L P (mst q g h ch (I m 7) (w_fill g t (nI o)))) := by
  refine q_entry (vs := [some (.ref m), some (.int t), some (.int (nI o)), none]) (by decide +kernel) (by simp) (Nat.le_of_ble_eq_true rfl) rfl ?_
  have T0 := MSt.mk hH hg
  have hc : g 2 = nI (gn g 2) := hG.n (by decide) (by decide)
  have hcl : gn g 2 ≤ 10 := hG.2.2.2.1
  have hcI : I (m + 1) 2 = nI (gn g 2) := by rw [hg]; exact hc
  have ho10 : o < 10 := by omega
  have h208 : gn g (208 + 9 * o) ≤ 2 := (hG.o ho10).2.2.2.2.2.1
  have h205l : gn g (205 + 9 * o) ≤ 9999 := (hG.o ho10).1
  have h205g : 1 ≤ gn g (205 + 9 * o) := (hG.o ho10).2.1 ho
  have e208 : g (208 + 9 * o) = nI (gn g (208 + 9 * o)) := hG.n (by omega) (by omega)
  refine q_iload_n (pc := 0) dX12_fill_0 rfl rfl ?_
  refine q_callSF (pc := 1) dX12_fill_1 kX12_95 c_X12_isTank ⟨Nat.le_of_ble_eq_true rfl, Nat.le_of_ble_eq_true rfl⟩ rfl rfl (Nat.le_of_ble_eq_true rfl) ?_
  show bq_W _ _ _ _ _ 4 _ [_] _ _ _ _ _ _
  refine q_if_ne (pc := 4) 13 dX12_fill_4 (by decide) (fun c_4 => ?_) (fun c_4 => ?_)
  · replace c_4 := bq_nbn.mp c_4
    obtain ⟨t, ht, rfl⟩ := (bq_in5 t 5 (by decide)).resolve_left c_4
    have h1t : g (11 + 19 * t) = nI (gn g (11 + 19 * t)) := hG.n (by omega) (by omega)
    obtain ⟨qt1, qt2, qt3, qt4, qt5, qt6⟩ := hG.t ht
    have hw := w_fill_n (g := g) (t := t) hG ht ho
    refine q_aload_n (pc := 13) dX12_fill_13 rfl rfl ?_
    refine q_iload_n (pc := 14) dX12_fill_14 rfl rfl ?_
    refine q_callVF (pc := 15) dX12_fill_15 kX12_121 (c_isOpen_in hm hcI hcl (o := o) ho) (Model_sh hm) rfl (Model_lt hm) ⟨Nat.le_of_ble_eq_true rfl, Nat.le_of_ble_eq_true rfl⟩ rfl rfl (Nat.le_of_ble_eq_true rfl) ?_
    show bq_W _ _ _ _ _ 18 _ [_] _ _ _ _ _ _
    refine q_if_ne (pc := 18) 27 dX12_fill_18 (by decide) (fun c_18 => ?_) (fun c_18 => ?_)
    · replace c_18 := bq_bn.mp c_18
      rw [hg, e208] at c_18
      have h0 : gn g (208 + 9 * o) = 0 := (nI_eq (by omega) (by decide)).mp c_18
      refine q_aload_n (pc := 27) dX12_fill_27 rfl rfl ?_
      refine q_iload_n (pc := 28) dX12_fill_28 rfl rfl ?_
      refine q_iconst (pc := 29) (v := nI 1) dX12_fill_29 (by decide) ?_
      refine q_callVF (pc := 30) dX12_fill_30 kX12_73 (c_tA hm (t := t) (k := 1) (j := 11 + 19 * t) (by omega) (by omega)) (Model_sh hm) rfl (Model_lt hm) ⟨Nat.le_of_ble_eq_true rfl, Nat.le_of_ble_eq_true rfl⟩ rfl rfl (Nat.le_of_ble_eq_true rfl) ?_
      show bq_W _ _ _ _ _ 33 _ [_] _ _ _ _ _ _
      rw [hg, h1t]
      refine q_iconst (pc := 33) (v := nI 1) dX12_fill_33 (by decide) ?_
      refine q_icmp_eq (pc := 34) 43 dX12_fill_34 (by decide) (fun c_34 => ?_) (fun c_34 => ?_)
      · have hz := (nI_eq (by omega) (by decide)).mp c_34
        have hpos : 0 < ns (gp g t) 16 := (show 0 < gt g t by omega)
        have htb : ns (gp g t) 16 ≤ 9999 := (show gt g t ≤ 9999 by omega)
        refine q_aload_n (pc := 43) dX12_fill_43 rfl rfl ?_
        refine q_iload_n (pc := 44) dX12_fill_44 rfl rfl ?_
        refine q_callVF (pc := 45) dX12_fill_45 kX12_105 (c_X12_looksAt hm (t := t) (by omega)) (Model_sh hm) rfl (Model_lt hm) ⟨Nat.le_of_ble_eq_true rfl, Nat.le_of_ble_eq_true rfl⟩ rfl rfl (Nat.le_of_ble_eq_true rfl) ?_
        show bq_W _ _ _ _ _ 48 _ [] _ _ _ _ _ _
        refine q_nameI (fun I2 e2 => ?_)
        have hF2 : ∀ j, j < 16 → I2 (m + 6) j = nI (gp g t j) := fun j hj => by rw [e2, bq_r_self, lk_at hj, hg]; exact hG.p ht j hj
        have hq2 : I2 m 6 = nI q := by rw [e2, bq_r_ne (by omega)]; exact hq
        have T2 : MSt m I I2 g h ch (I m 7) := T0.sc (fun a ha => by rw [e2]; exact bq_r_ne (by omega))
        have hsg : bq_str (I2 (m + 6)) (fun b => g (124 + 5 * b)) = g_str g t := bq_str_congr (fun j hj => (hF2 j hj).trans (hG.p ht j hj).symm) (fun _ _ => rfl)
        refine q_aload_n (pc := 48) dX12_fill_48 rfl rfl ?_
        refine q_iload_n (pc := 49) dX12_fill_49 rfl rfl ?_
        refine q_callVF (pc := 50) dX12_fill_50 kX12_146 (c_X12_hinders hm T2.1 hG ho10 hF2 hpos htb) (Model_sh hm) rfl (Model_lt hm) ⟨Nat.le_of_ble_eq_true rfl, Nat.le_of_ble_eq_true rfl⟩ rfl rfl (Nat.le_of_ble_eq_true rfl) ?_
        show bq_W _ _ _ _ _ 53 _ [_] _ _ _ _ _ _
        rw [hsg]
        refine q_istore_n (pc := 53) dX12_fill_53 rfl (Nat.le_of_ble_eq_true rfl) rfl ?_
        show bq_W _ _ _ _ _ 54 [_, _, _, _] _ _ _ _ _ _ _
        refine q_iload_n (pc := 54) dX12_fill_54 rfl rfl ?_
        refine q_if_eq (pc := 55) 64 dX12_fill_55 (by decide) (fun c_55 => ?_) (fun c_55 => ?_)
        · have hok := hnd_0 c_55
          refine q_aload_n (pc := 64) dX12_fill_64 rfl rfl ?_
          refine q_callV (pc := 65) dX12_fill_65 kX12_102 (c_rem hm T2.2.1 T2.1 hq2 hq1) (Model_sh hm) rfl (Model_lt hm) ⟨Nat.le_of_ble_eq_true rfl, Nat.le_of_ble_eq_true rfl⟩ rfl rfl (Nat.le_of_ble_eq_true rfl) ?_
          rintro _ S3 n3 I3 L3 P3 ⟨rfl, eS3, en3, eL3, eP3, H3, f3, g3⟩
          subst S3 n3 L3 P3
          show bq_W _ _ _ _ _ 68 _ [] _ _ _ _ _ _
          have T3 := T2.rem H3 f3 g3
          refine q_aload_n (pc := 68) dX12_fill_68 rfl rfl ?_
          refine q_iload_n (pc := 69) dX12_fill_69 rfl rfl ?_
          refine q_iload_n (pc := 70) dX12_fill_70 rfl rfl ?_
          refine q_callV (pc := 71) dX12_fill_71 kX12_149 (c_X12_fills hm T3.1 hG hen ht ho rfl hok.1) (Model_sh hm) rfl (Model_lt hm) ⟨Nat.le_of_ble_eq_true rfl, Nat.le_of_ble_eq_true rfl⟩ rfl rfl (Nat.le_of_ble_eq_true rfl) ?_
          rintro _ S5 n5 I5 L5 P5 ⟨rfl, eS5, en5, eL5, eP5, r5, f5⟩
          subst S5 n5 L5 P5
          show bq_W _ _ _ _ _ 74 _ [] _ _ _ _ _ _
          have T5 : MSt m I I5 (x_fill g t o (gn g (205 + 9 * o))) (remH q g h ch).1 (remH q g h ch).2 (I m 7) := T3.fr r5 (fun a ha h2 => f5 a ha (by omega))
          refine q_aload_n (pc := 74) dX12_fill_74 rfl rfl ?_
          refine q_iload_n (pc := 75) dX12_fill_75 rfl rfl ?_
          refine q_iconst (pc := 76) (v := nI 5) dX12_fill_76 (by decide) ?_
          refine q_callVF (pc := 77) dX12_fill_77 kX12_118 (c_oA hm (o := o) (k := 5) (j := 209 + 9 * o) (by omega) (by omega)) (Model_sh hm) rfl (Model_lt hm) ⟨Nat.le_of_ble_eq_true rfl, Nat.le_of_ble_eq_true rfl⟩ rfl rfl (Nat.le_of_ble_eq_true rfl) ?_
          show bq_W _ _ _ _ _ 80 _ [_] _ _ _ _ _ _
          rw [T5.1, show x_fill g t o (gn g (205 + 9 * o)) (209 + 9 * o) = fd g t o (gn g (205 + 9 * o)) from x_fill_d ht ho10]
          exact q_iret (st := []) (pc := 80) dX12_fill_80 rfl (qMo.mk T5 (by rw [hw]; unfold n_fill; rw [if_neg (not_not_intro h0), if_neg (not_not_intro hz), if_neg (Nat.not_lt.mpr hok.1), if_neg (not_not_intro hok.2), mst_pos (fd_pos hG hok.1 hpos htb)]))
        · refine q_aload_n (pc := 58) dX12_fill_58 rfl rfl ?_
          refine q_iload_n (pc := 59) dX12_fill_59 rfl rfl ?_
          refine q_callVF (pc := 60) dX12_fill_60 kX12_99 (c_X12_refuses hm) (Model_sh hm) rfl (Model_lt hm) ⟨Nat.le_of_ble_eq_true rfl, Nat.le_of_ble_eq_true rfl⟩ rfl rfl (Nat.le_of_ble_eq_true rfl) ?_
          show bq_W _ _ _ _ _ 63 _ [_] _ _ _ _ _ _
          exact q_iret (st := []) (pc := 63) dX12_fill_63 rfl (qMo.mk (T2.ref _) (by rw [hw]; unfold n_fill; rw [if_neg (not_not_intro h0), if_neg (not_not_intro hz)]; exact hnd_n c_55))
      · refine q_aload_n (pc := 37) dX12_fill_37 rfl rfl ?_
        refine q_iconst (pc := 38) (v := nI 2) dX12_fill_38 (by decide) ?_
        refine q_callVF (pc := 39) dX12_fill_39 kX12_99 (c_X12_refuses hm) (Model_sh hm) rfl (Model_lt hm) ⟨Nat.le_of_ble_eq_true rfl, Nat.le_of_ble_eq_true rfl⟩ rfl rfl (Nat.le_of_ble_eq_true rfl) ?_
        show bq_W _ _ _ _ _ 42 _ [_] _ _ _ _ _ _
        exact q_iret (st := []) (pc := 42) dX12_fill_42 rfl (qMo.mk (T0.ref (nI 2)) (by rw [hw]; unfold n_fill; rw [if_neg (not_not_intro h0), if_pos (fun z => c_34 (by rw [z])), mst_neg (u := nI 2) (by decide) (by decide)]))
    · replace c_18 := bq_b0.mp c_18
      rw [hg, e208] at c_18
      have h0 : ¬ gn g (208 + 9 * o) = 0 := fun z => c_18 (by rw [z]; decide)
      refine q_aload_n (pc := 21) dX12_fill_21 rfl rfl ?_
      refine q_iconst (pc := 22) (v := nI 5) dX12_fill_22 (by decide) ?_
      refine q_callVF (pc := 23) dX12_fill_23 kX12_99 (c_X12_refuses hm) (Model_sh hm) rfl (Model_lt hm) ⟨Nat.le_of_ble_eq_true rfl, Nat.le_of_ble_eq_true rfl⟩ rfl rfl (Nat.le_of_ble_eq_true rfl) ?_
      show bq_W _ _ _ _ _ 26 _ [_] _ _ _ _ _ _
      exact q_iret (st := []) (pc := 26) dX12_fill_26 rfl (qMo.mk (T0.ref (nI 5)) (by rw [hw]; unfold n_fill; rw [if_pos h0, mst_neg (u := nI 5) (by decide) (by decide)]))
  · replace c_4 := bq_nb0.mp c_4
    refine q_aload_n (pc := 7) dX12_fill_7 rfl rfl ?_
    refine q_iconst (pc := 8) (v := nI 1) dX12_fill_8 (by decide) ?_
    refine q_callVF (pc := 9) dX12_fill_9 kX12_99 (c_X12_refuses hm) (Model_sh hm) rfl (Model_lt hm) ⟨Nat.le_of_ble_eq_true rfl, Nat.le_of_ble_eq_true rfl⟩ rfl rfl (Nat.le_of_ble_eq_true rfl) ?_
    show bq_W _ _ _ _ _ 12 _ [_] _ _ _ _ _ _
    exact q_iret (st := []) (pc := 12) dX12_fill_12 rfl (qMo.mk (T0.ref (nI 1)) (by unfold w_fill; rw [if_pos c_4, mst_neg (u := nI 1) (by decide) (by decide)]))
theorem o_fill {S : BqH} {n : Nat} {I : BqI} {L : BqL} {P : BqP} {m ch : Nat} {h : Nat → BqG} {g : BqG} (hm : oModel S n P m) (hH : MH m I h ch) (hg : I (m + 1) = g) {en : Nat} (hG : GI g en) (hen : en < 2 ^ 29) {q : Nat} (hq : I m 6 = nI q) (hq1 : q ≤ 1) {t o : Int32} : bq_Sp mX12_fill 6 125 0 0 [.ref m, .int t, .int o] S n I L P (qMo m I S n L P (mst q g h ch (I m 7) (w_fill g t o))) := by
  rcases bq_inO hG o with ho | ⟨o, ho, rfl⟩
  · exact o_fill_a hm hH hg hG hen hq hq1 ho
  · exact o_fill_b hm hH hg hG hen hq hq1 ho
