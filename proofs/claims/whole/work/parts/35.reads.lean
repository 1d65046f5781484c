/-! readers -/
def qMv (m : Nat) (I : BqI) (S : BqH) (n : Nat) (L : BqL) (P : BqP) (v : Value) : BqQ := fun r S' n' I' L' P' => r = some v ∧ S' = S ∧ n' = n ∧ L' = L ∧ P' = P ∧ ∀ a, a < m + 6 ∨ m + 13 ≤ a → I' a = I a
def n_ofTank (g : BqG) (t : Nat) (k : Int32) : Int32 := if k = nI 0 then g (10 + 19 * t) else if k = nI 1 then nI (gt g t) else if k = nI 2 then g (11 + 19 * t) else if k = nI 3 then g_str g t else if k = nI 4 then (if g (11 + 19 * t) = nI 3 then g (12 + 19 * t) else (-5)) else if k = nI 5 then nI (bq_cnt (fun b => g (13 + 19 * t + b)) 16) else if k = nI 6 then g (10 + 19 * t) - nI (gt g t) else (-1)
def r_ofTank (g : BqG) (t k : Int32) : Int32 := if t < nI 0 ∨ ¬ t ≤ nI 5 then (-1) else n_ofTank g t.toNatClampNeg k
theorem r_ofTank_n {g : BqG} {t : Nat} {k : Int32} (ht : t < 6) : r_ofTank g (nI t) k = n_ofTank g t k := by
  unfold r_ofTank
  rw [if_neg (bq_tin ht (by decide)), nI_clamp (by omega)]
theorem k_out {k : Int32} {N : Nat} (h : k < nI 0 ∨ ¬ k ≤ nI N) (hN : N < 2 ^ 30) {q : Nat} (hq : q ≤ N) : ¬ k = nI q := fun e => by
  subst e
  exact bq_nin (Nat.zero_le q) hq hN h
theorem n_ofTank_out {g : BqG} {t : Nat} {k : Int32} (h : k < nI 0 ∨ ¬ k ≤ nI 6) : n_ofTank g t k = (-1) := by
  unfold n_ofTank
  rw [if_neg (k_out h (by decide) (by decide)), if_neg (k_out h (by decide) (by decide)), if_neg (k_out h (by decide) (by decide)), if_neg (k_out h (by decide) (by decide)), if_neg (k_out h (by decide) (by decide)), if_neg (k_out h (by decide) (by decide)), if_neg (k_out h (by decide) (by decide))]
theorem k_6 {k : Int32} (h : ¬ (k < nI 0 ∨ ¬ k ≤ nI 6)) (h0 : ¬ k = nI 0) (h1 : ¬ k = nI 1) (h2 : ¬ k = nI 2) (h3 : ¬ k = nI 3) (h4 : ¬ k = nI 4) (h5 : ¬ k = nI 5) : k = nI 6 := by
  obtain ⟨q, hq, rfl⟩ := (bq_in5 k 6 (by decide)).resolve_left h
  match q, hq with
  | 0, _ => exact absurd rfl h0
  | 1, _ => exact absurd rfl h1
  | 2, _ => exact absurd rfl h2
  | 3, _ => exact absurd rfl h3
  | 4, _ => exact absurd rfl h4
  | 5, _ => exact absurd rfl h5
  | 6, _ => rfl
  | q + 7, hq => exact absurd hq (by omega)
theorem g_str_0 {g : BqG} {en t : Nat} (hG : GI g en) (ht : t < 6) (h : nI (gt g t) = 0) : g_str g t = (-5) := by
  unfold g_str bq_str
  rw [show bq_sum (fun b => g (13 + 19 * t + b)) 16 = nI (gt g t) from hG.tot ht, h]
  exact if_pos (by decide)
theorem bq_cnt_congr {f g : Nat → Int32} : ∀ k, (∀ j, j < k → f j = g j) → bq_cnt f k = bq_cnt g k
  | 0, _ => rfl
  | k + 1, h => by
    unfold bq_cnt
    rw [bq_cnt_congr k (fun j hj => h j (by omega)), h k (by omega)]
/-- the place of a batch -/
abbrev b_out (g : BqG) (b : Int32) : Prop := b < nI 0 ∨ ¬ b ≤ g 1 - nI 1
theorem b_cases {g : BqG} {en : Nat} (hG : GI g en) (b : Int32) : b_out g b ∨ ∃ q, q < gn g 1 ∧ b = nI q := by
  have hl : gn g 1 ≤ 16 := hG.2.2.1
  have e : g 1 = nI (gn g 1) := hG.n (by decide) (by decide)
  unfold b_out
  rw [e]
  rcases pk_ix b (n := gn g 1) (by omega) with h | h | ⟨j, hj, rfl⟩
  · exact Or.inl (Or.inl (by rw [nI_0]; exact h))
  · refine Or.inl (Or.inr fun q => ?_)
    have h1 := Int32.le_iff_toInt_le.mp h
    have h2 := Int32.le_iff_toInt_le.mp q
    rw [nI_toInt (by omega)] at h1
    rw [pk_sub_toInt (by omega) (by omega)] at h2
    omega
  · exact Or.inr ⟨j, hj, rfl⟩
theorem b_nout {g : BqG} {en q : Nat} (hG : GI g en) (h : q < gn g 1) : ¬ b_out g (nI q) := by
  have hl : gn g 1 ≤ 16 := hG.2.2.1
  have e : g 1 = nI (gn g 1) := hG.n (by decide) (by decide)
  unfold b_out
  rw [e, pk_sub (show 1 ≤ gn g 1 by omega)]
  exact bq_nin (Nat.zero_le q) (by omega) (by omega)
def r_litres (g : BqG) (t b : Int32) : Int32 := if (t < nI 0 ∨ ¬ t ≤ nI 5) ∨ b_out g b then (-1) else g (13 + 19 * t.toNatClampNeg + b.toNatClampNeg)
theorem r_litres_n {g : BqG} {en t b : Nat} (hG : GI g en) (ht : t < 6) (hb : b < gn g 1) : r_litres g (nI t) (nI b) = g (13 + 19 * t + b) := by
  have hl : gn g 1 ≤ 16 := hG.2.2.1
  unfold r_litres
  rw [if_neg (fun q => q.elim (bq_tin ht (by decide)) (b_nout hG hb)), nI_clamp (by omega), nI_clamp (by omega)]
def n_ofBatch (g : BqG) (b : Nat) (k : Int32) : Int32 := if k = nI 0 then g (124 + 5 * b) else if k = nI 1 then g (125 + 5 * b) else if k = nI 2 then bq_sum (fun i => g (13 + 19 * i + b)) 6 else if k = nI 3 then g (126 + 5 * b) else if k = nI 4 then g (127 + 5 * b) else if k = nI 5 then g (128 + 5 * b) else if k = nI 6 then bq_tw (fun i => g (13 + 19 * i + b)) 6 else (-1)
def r_ofBatch (g : BqG) (b k : Int32) : Int32 := if b_out g b then (-1) else n_ofBatch g b.toNatClampNeg k
theorem r_ofBatch_n {g : BqG} {en b : Nat} {k : Int32} (hG : GI g en) (hb : b < gn g 1) : r_ofBatch g (nI b) k = n_ofBatch g b k := by
  have hl : gn g 1 ≤ 16 := hG.2.2.1
  unfold r_ofBatch
  rw [if_neg (b_nout hG hb), nI_clamp (by omega)]
theorem n_ofBatch_out {g : BqG} {b : Nat} {k : Int32} (h : k < nI 0 ∨ ¬ k ≤ nI 6) : n_ofBatch g b k = (-1) := by
  unfold n_ofBatch
  rw [if_neg (k_out h (by decide) (by decide)), if_neg (k_out h (by decide) (by decide)), if_neg (k_out h (by decide) (by decide)), if_neg (k_out h (by decide) (by decide)), if_neg (k_out h (by decide) (by decide)), if_neg (k_out h (by decide) (by decide)), if_neg (k_out h (by decide) (by decide))]
/-- the other places of a batch: 0, 1, 3, 4, 5 -/
theorem n_ofBatch_at {g : BqG} {b q : Nat} (h : q = 0 ∨ q = 1 ∨ q = 3 ∨ q = 4 ∨ q = 5) : n_ofBatch g b (nI q) = g (124 + 5 * b + (if q < 2 then q else q - 1)) := by
  rcases h with h | h | h | h | h <;> subst h
  · rfl
  · unfold n_ofBatch
    rw [if_neg (by decide), if_pos rfl, if_pos (by decide)]
    exact congrArg g (by omega)
  · unfold n_ofBatch
    rw [if_neg (by decide), if_neg (by decide), if_neg (by decide), if_pos rfl, if_neg (by decide)]
    exact congrArg g (by omega)
  · unfold n_ofBatch
    rw [if_neg (by decide), if_neg (by decide), if_neg (by decide), if_neg (by decide), if_pos rfl, if_neg (by decide)]
    exact congrArg g (by omega)
  · unfold n_ofBatch
    rw [if_neg (by decide), if_neg (by decide), if_neg (by decide), if_neg (by decide), if_neg (by decide), if_pos rfl, if_neg (by decide)]
    exact congrArg g (by omega)
theorem k_rest {k : Int32} (h : ¬ (k < nI 0 ∨ ¬ k ≤ nI 6)) (h2 : ¬ k = nI 2) (h6 : ¬ k = nI 6) : ∃ q, k = nI q ∧ (q = 0 ∨ q = 1 ∨ q = 3 ∨ q = 4 ∨ q = 5) := by
  obtain ⟨q, hq, rfl⟩ := (bq_in5 k 6 (by decide)).resolve_left h
  have e2 : q ≠ 2 := fun z => h2 (by rw [z])
  have e6 : q ≠ 6 := fun z => h6 (by rw [z])
  exact ⟨q, rfl, by omega⟩
/-! excise -/
def dnm (g : BqG) (rc : Nat) : Nat → Int64
  | 0 => 0
  | i + 1 => if g (208 + 9 * i) = nI 1 then dnm g rc i + (du (fun j => g (296 + 3 * j)) (rfx (fun j => g (294 + 3 * j)) (fun j => g (295 + 3 * j)) (g (210 + 9 * i)) (g (211 + 9 * i)) rc) (g (212 + 9 * i)).toInt64).toInt64 else dnm g rc i
def due (g : BqG) : Int64 := dnm g (gn g 3) (gn g 2) - paidN g (gn g 2) - (g 6).toInt64
def r_excise (g : BqG) (k : Int32) : Int64 := if k = nI 0 then paidN g (gn g 2) else if k = nI 1 then dnm g (gn g 3) (gn g 2) else if k = nI 2 then (g 6).toInt64 else if k = nI 3 then due g else (-9223372036854775808)
theorem r_excise_out {g : BqG} {k : Int32} (h : k < nI 0 ∨ ¬ k ≤ nI 3) : r_excise g k = (-9223372036854775808) := by
  unfold r_excise
  rw [if_neg (k_out h (by decide) (by decide)), if_neg (k_out h (by decide) (by decide)), if_neg (k_out h (by decide) (by decide)), if_neg (k_out h (by decide) (by decide))]
theorem k_3 {k : Int32} (h : ¬ (k < nI 0 ∨ ¬ k ≤ nI 3)) (h0 : ¬ k = nI 0) (h1 : ¬ k = nI 1) (h2 : ¬ k = nI 2) : k = nI 3 := by
  obtain ⟨q, hq, rfl⟩ := (bq_in5 k 3 (by decide)).resolve_left h
  match q, hq with
  | 0, _ => exact absurd rfl h0
  | 1, _ => exact absurd rfl h1
  | 2, _ => exact absurd rfl h2
  | 3, _ => rfl
  | q + 4, hq => exact absurd hq (by omega)
def x_corr (g : BqG) : BqG := bq_r g 6 (g 6 + (due g).toInt32)
def p_corr (g : BqG) (h : Nat → BqG) (ch : Nat) (y : Int32) : BqR := chg g (x_corr g) h ch y (if (due g).toInt32 ≤ 0 then (if (due g).toInt32 = 0 then nI 0 else nI 2) else nI 1)
/-! the journal, and counts -/
def r_entry (g : BqG) (i k : Int32) : Int32 := if i = (-1) then g 5 else jp (g 5) (fun j => g (330 + j)) i k
theorem e_cases {g : BqG} {en : Nat} (hG : GI g en) (hen : en < 2 ^ 29) (i : Int32) : (i < 0 ∨ g 5 ≤ i ∨ nI 80 ≤ i) ∨ ∃ q, q < gn g 5 ∧ q < 80 ∧ i = nI q := by
  have e : g 5 = nI (gn g 5) := hG.n (by decide) (by decide)
  have hm : gn g 5 ≤ en := hG.2.2.2.2.2.2.1
  rcases pk_ix i (n := gn g 5) (by omega) with h | h | ⟨q, hq, rfl⟩
  · exact Or.inl (Or.inl h)
  · exact Or.inl (Or.inr (Or.inl (by rw [e]; exact h)))
  · rcases Nat.lt_or_ge q 80 with c | c
    · exact Or.inr ⟨q, hq, c, rfl⟩
    · exact Or.inl (Or.inr (Or.inr (nI_le c (by omega))))
theorem e_min {c : Nat} (h : c < 2 ^ 31) : (if nI 80 < nI c then nI 80 else nI c) = nI (min c 80) := by
  by_cases e : 80 < c
  · rw [if_pos (nI_lt e h), Nat.min_eq_right (by omega)]
  · rw [if_neg (nI_nlt (by omega) (by decide)), Nat.min_eq_left (by omega)]
theorem e_out {g : BqG} {en : Nat} {i : Int32} (hG : GI g en) (hen : en < 2 ^ 29) (h : i < 0 ∨ g 5 ≤ i ∨ nI 80 ≤ i) : i < nI 0 ∨ ¬ i ≤ nI (min (gn g 5) 80) - nI 1 := by
  have e : g 5 = nI (gn g 5) := hG.n (by decide) (by decide)
  have hm : gn g 5 ≤ en := hG.2.2.2.2.2.2.1
  rcases h with h | h | h
  · exact Or.inl (by rw [nI_0]; exact h)
  · refine Or.inr fun q => ?_
    rw [e] at h
    have h1 := Int32.le_iff_toInt_le.mp h
    have h2 := Int32.le_iff_toInt_le.mp q
    rw [nI_toInt (by omega)] at h1
    rw [pk_sub_toInt (by omega) (by omega)] at h2
    omega
  · refine Or.inr fun q => ?_
    have h1 := Int32.le_iff_toInt_le.mp h
    have h2 := Int32.le_iff_toInt_le.mp q
    rw [nI_toInt (by omega)] at h1
    rw [pk_sub_toInt (by omega) (by omega)] at h2
    omega
theorem r_entry_out {g : BqG} {i k : Int32} (h1 : ¬ i = (-1)) (h : i < 0 ∨ g 5 ≤ i ∨ nI 80 ≤ i) : r_entry g i k = (-1) := by
  unfold r_entry
  rw [if_neg h1]
  refine jp_out ?_
  rcases h with h | h | h
  · exact Or.inl h
  · exact Or.inr (Or.inl h)
  · exact Or.inr (Or.inr (Or.inl h))
theorem r_entry_k {g : BqG} {i k : Int32} (h1 : ¬ i = (-1)) (h : k < nI 0 ∨ ¬ k ≤ nI 3) : r_entry g i k = (-1) := by
  unfold r_entry
  rw [if_neg h1]
  exact jp_out (Or.inr (Or.inr (Or.inr h)))
theorem r_entry_in {g : BqG} {en q k : Nat} (hG : GI g en) (hen : en < 2 ^ 29) (hq : q < gn g 5) (h8 : q < 80) (hk : k ≤ 3) : r_entry g (nI q) (nI k) = g (330 + 4 * q + k) := by
  have e : g 5 = nI (gn g 5) := hG.n (by decide) (by decide)
  have hm : gn g 5 ≤ en := hG.2.2.2.2.2.2.1
  unfold r_entry
  rw [if_neg (fun z => by
    have := congrArg Int32.toInt z
    rw [nI_toInt (by omega)] at this
    have h2 : ((-1 : Int32)).toInt = -1 := by decide
    omega), jp_in (by rw [e]; exact nI_ge hq (by omega)) h8 hk]
  show g (330 + (q * 4 + k)) = _
  rw [show 330 + (q * 4 + k) = 330 + 4 * q + k by omega]
def r_count (g : BqG) (ta : Int32) (ch : Nat) (k : Int32) : Int32 := if ¬ (k < nI 10 ∨ ¬ k ≤ nI 13) then nI (bq_ct (fun i => g (11 + 19 * i)) (k - nI 10) 6) else if k = nI 0 then g 0 else if k = nI 1 then g 1 else if k = nI 2 then g 2 else if k = nI 3 then g 3 else if k = nI 4 then ta else if k = nI 5 then nI ch else if k = nI 6 then g 4 else (-1)
def qMb (m : Nat) (I : BqI) (S : BqH) (n : Nat) (L : BqL) (P : BqP) (v : Int32) (G : BqG) (h : Nat → BqG) (ch : Nat) : BqQ := fun r S' n' I' L' P' => r = some (.int v) ∧ S' = S ∧ n' = n ∧ L' = L ∧ P' = P ∧ MSt m I I' (I' (m + 1)) h ch (I m 7) ∧ ∀ k, k < 650 → I' (m + 1) k = G k
theorem back_m {I : BqI} {m c : Nat} {h : Nat → BqG} (hH : MH m I h (c + 1)) : MSt m I (fl (bq_u I m 2 (nI c)) (m + 1) (fun k => 0 + k) (fun k => bq_u I m 2 (nI c) (m + 2) (c * 650 + k)) 650) (fl (bq_u I m 2 (nI c)) (m + 1) (fun k => 0 + k) (fun k => bq_u I m 2 (nI c) (m + 2) (c * 650 + k)) 650 (m + 1)) h c (I m 7) ∧ ∀ k, k < 650 → fl (bq_u I m 2 (nI c)) (m + 1) (fun k => 0 + k) (fun k => bq_u I m 2 (nI c) (m + 2) (c * 650 + k)) 650 (m + 1) k = h c k := by
  generalize e : fl (bq_u I m 2 (nI c)) (m + 1) (fun k => 0 + k) (fun k => bq_u I m 2 (nI c) (m + 2) (c * 650 + k)) 650 = J
  have hJ : ∀ a, a ≠ m + 1 → J a = bq_u I m 2 (nI c) a := fun a ha => by rw [← e]; exact fl_ne ha 650
  have hl : c + 1 ≤ 6 := hH.2.1
  refine ⟨⟨rfl, ⟨?_, by omega, fun i hi k hk => ?_⟩, ?_, fun a ha => ?_, fun k h2 h7 h17 => ?_⟩, fun k hk => ?_⟩
  · rw [hJ m (by omega)]; exact bq_u_at _ _ _ _
  · rw [hJ (m + 2) (by omega), bq_u_ne (by omega)]; exact hH.2.2 i (by omega) k hk
  · rw [hJ m (by omega)]; exact bq_u_no (by omega)
  · rw [hJ a (by omega)]; exact bq_u_ne (by omega)
  · rw [hJ m (by omega)]; exact bq_u_no (by omega)
  · rw [← e]
    have := fl_at (I := bq_u I m 2 (nI c)) (d := m + 1) (ix := fun k => 0 + k) (v := fun k => bq_u I m 2 (nI c) (m + 2) (c * 650 + k)) (j := k) 650 (fun a b _ _ h => by first | omega | (dsimp only at h; omega)) hk
    refine (congrArg _ (Nat.zero_add k).symm).trans (this.trans ?_)
    show bq_u I m 2 (nI c) (m + 2) (c * 650 + k) = _
    rw [bq_u_ne (by omega)]
    exact hH.2.2 c (by omega) k hk
theorem e_nout {g : BqG} {en q : Nat} (hen : en < 2 ^ 29) (hm : gn g 5 ≤ en) (h : q < gn g 5) (h8 : q < 80) : ¬ (nI q < nI 0 ∨ ¬ nI q ≤ nI (min (gn g 5) 80) - nI 1) := by
  have : q + 1 ≤ min (gn g 5) 80 := Nat.le_min.mpr ⟨h, h8⟩
  have h2 : min (gn g 5) 80 ≤ 80 := Nat.min_le_right _ _
  rw [pk_sub (show 1 ≤ min (gn g 5) 80 by omega)]
  exact bq_nin (Nat.zero_le q) (by omega) (by omega)
theorem cp_0 {I : BqI} {m : Nat} : fl I (m + 1) (fun k => 0 + k) (fun k => I (m + 3) (0 + k)) 650 (m + 1) 0 = I (m + 3) 0 :=
  fl_at (I := I) (d := m + 1) (ix := fun k => 0 + k) (v := fun k => I (m + 3) (0 + k)) (j := 0) 650 (fun a b _ _ h => by first | omega | (dsimp only at h; omega)) (by decide)
set_option maxHeartbeats 1000000 in
set_option maxRecDepth 20000 in
theorem o_reason {S : BqH} {n : Nat} {I : BqI} {L : BqL} {P : BqP} {m : Nat} (hm : oModel S n P m) : bq_Sp mX12_reason 1 12 0 0 [.ref m] S n I L P (bq_F (some (.int (if I m 7 = 0 then (-5) else I m 7))) S n I L P) := by
  refine q_entry (vs := [some (.ref m)]) (by decide +kernel) (by simp) (Nat.le_of_ble_eq_true rfl) rfl ?_
  refine q_aload_n (pc := 0) dX12_reason_0 rfl rfl ?_
  refine q_getI (pc := 1) dX12_reason_1 fX12_50 (Model_sh hm) ⟨by decide, rfl⟩ (Model_lt hm) ?_
  refine q_if_ne (pc := 4) 12 dX12_reason_4 (by decide) (fun c_4 => ?_) (fun c_4 => ?_)
  · refine q_aload_n (pc := 12) dX12_reason_12 rfl rfl ?_
    refine q_getI (pc := 13) dX12_reason_13 fX12_50 (Model_sh hm) ⟨by decide, rfl⟩ (Model_lt hm) ?_
    exact q_iret (st := []) (pc := 16) dX12_reason_16 rfl ⟨by first | rw [if_neg c_4] | rw [if_pos c_4], rfl, rfl, rfl, rfl, rfl⟩
  · refine q_bipush (pc := 7) (v := (-5)) dX12_reason_7 (by decide) ?_
    refine q_goto (pc := 9) 16 dX12_reason_9 (by decide) ?_
    exact q_iret (st := []) (pc := 16) dX12_reason_16 rfl ⟨by first | rw [if_neg c_4] | rw [if_pos c_4], rfl, rfl, rfl, rfl, rfl⟩
set_option maxHeartbeats 2980000 in
set_option maxRecDepth 20000 in
theorem o_ofTank {S : BqH} {n : Nat} {I : BqI} {L : BqL} {P : BqP} {m : Nat} {g : BqG} (hm : oModel S n P m) (hg : I (m + 1) = g) {en : Nat} (hG : GI g en) {t k : Int32} : bq_Sp mX12_ofTank 4 78 0 0 [.ref m, .int t, .int k] S n I L P (qMv m I S n L P (.int (r_ofTank g t k))) := by
  refine q_entry (vs := [some (.ref m), some (.int t), some (.int k), none, none, none]) (by decide +kernel) (by simp) (Nat.le_of_ble_eq_true rfl) rfl ?_
  refine q_iload_n (pc := 0) dX12_ofTank_0 rfl rfl ?_
  refine q_callSF (pc := 1) dX12_ofTank_1 kX12_95 c_X12_isTank ⟨Nat.le_of_ble_eq_true rfl, Nat.le_of_ble_eq_true rfl⟩ rfl rfl (Nat.le_of_ble_eq_true rfl) ?_
  show bq_W _ _ _ _ _ 4 _ [_] _ _ _ _ _ _
  refine q_if_eq (pc := 4) 17 dX12_ofTank_4 (by decide) (fun c_4 => ?_) (fun c_4 => ?_)
  · replace c_4 := bq_nb0.mp c_4
    refine q_iconst (pc := 17) (v := (-1)) dX12_ofTank_17 (by decide) ?_
    exact q_iret (st := []) (pc := 18) dX12_ofTank_18 rfl ⟨congrArg (fun z => some (Value.int z)) (by first | (unfold r_ofTank; rw [if_pos c_4]) | (rw [hw, n_ofTank_out c_14])), rfl, rfl, rfl, rfl, fun _ _ => rfl⟩
  · replace c_4 := bq_nbn.mp c_4
    obtain ⟨t, ht, rfl⟩ := (bq_in5 t 5 (by decide)).resolve_left c_4
    have h1t : g (11 + 19 * t) = nI (gn g (11 + 19 * t)) := hG.n (by omega) (by omega)
    obtain ⟨qt1, qt2, qt3, qt4, qt5, qt6⟩ := hG.t ht
    have hw : r_ofTank g (nI t) k = n_ofTank g t k := r_ofTank_n ht
    refine q_iload_n (pc := 7) dX12_ofTank_7 rfl rfl ?_
    refine q_iconst (pc := 8) (v := nI 0) dX12_ofTank_8 (by decide) ?_
    refine q_bipush (pc := 9) (v := nI 6) dX12_ofTank_9 (by decide) ?_
    refine q_callSF (pc := 11) dX12_ofTank_11 kX12_69 c_X12_in ⟨Nat.le_of_ble_eq_true rfl, Nat.le_of_ble_eq_true rfl⟩ rfl rfl (Nat.le_of_ble_eq_true rfl) ?_
    show bq_W _ _ _ _ _ 14 _ [_] _ _ _ _ _ _
    refine q_if_ne (pc := 14) 19 dX12_ofTank_14 (by decide) (fun c_14 => ?_) (fun c_14 => ?_)
    · replace c_14 := bq_nbn.mp c_14
      refine q_aload_n (pc := 19) dX12_ofTank_19 rfl rfl ?_
      refine q_iload_n (pc := 20) dX12_ofTank_20 rfl rfl ?_
      refine q_callVF (pc := 21) dX12_ofTank_21 kX12_105 (c_X12_looksAt hm (t := t) (by omega)) (Model_sh hm) rfl (Model_lt hm) ⟨Nat.le_of_ble_eq_true rfl, Nat.le_of_ble_eq_true rfl⟩ rfl rfl (Nat.le_of_ble_eq_true rfl) ?_
      show bq_W _ _ _ _ _ 24 _ [] _ _ _ _ _ _
      refine q_nameI (fun I2 e2 => ?_)
      have hg2 : I2 (m + 1) = g := by rw [e2, bq_r_ne (by omega)]; exact hg
      have h6 : ∀ j, j < 16 → I2 (m + 6) j = g (13 + 19 * t + j) := fun j hj => by rw [e2, bq_r_self, lk_at hj, hg]
      have hfr : ∀ a, a < m + 6 ∨ m + 13 ≤ a → I2 a = I a := fun a ha => by rw [e2]; exact bq_r_ne (by omega)
      have hs2 : bq_sum (I2 (m + 6)) 16 = nI (gt g t) := (bq_sum_congr 16 h6).trans (hG.tot ht)
      refine q_aload_n (pc := 24) dX12_ofTank_24 rfl rfl ?_
      refine q_getP (pc := 25) dX12_ofTank_25 fX12_25 (Model_sh hm) ⟨by decide, rfl⟩ (Model_lt hm) (Model_p_there hm) ?_
      refine q_callSF (pc := 28) dX12_ofTank_28 kX12_84 (c_X12_sumOf (Model_s_there hm)) ⟨Nat.le_of_ble_eq_true rfl, Nat.le_of_ble_eq_true rfl⟩ rfl rfl (Nat.le_of_ble_eq_true rfl) ?_
      show bq_W _ _ _ _ _ 31 _ [_] _ _ _ _ _ _
      rw [hs2]
      refine q_istore_n (pc := 31) dX12_ofTank_31 rfl (Nat.le_of_ble_eq_true rfl) rfl ?_
      show bq_W _ _ _ _ _ 32 [_, _, _, _, _, _] _ _ _ _ _ _ _
      refine q_iload_n (pc := 32) dX12_ofTank_32 rfl rfl ?_
      by_cases s33_0 : k = nI 0
      · refine q_tableIn (pc := 33) (off := 39) 72 dX12_ofTank_33 (by rw [s33_0]; decide) (by rw [s33_0]; decide) (by rw [s33_0]; rfl) (by decide) ?_
        refine q_aload_n (pc := 72) dX12_ofTank_72 rfl rfl ?_
        refine q_iload_n (pc := 73) dX12_ofTank_73 rfl rfl ?_
        refine q_iconst (pc := 74) (v := nI 0) dX12_ofTank_74 (by decide) ?_
        refine q_callVF (pc := 75) dX12_ofTank_75 kX12_73 (c_tA hm (t := t) (k := 0) (j := 10 + 19 * t) (by omega) (by omega)) (Model_sh hm) rfl (Model_lt hm) ⟨Nat.le_of_ble_eq_true rfl, Nat.le_of_ble_eq_true rfl⟩ rfl rfl (Nat.le_of_ble_eq_true rfl) ?_
        show bq_W _ _ _ _ _ 78 _ [_] _ _ _ _ _ _
        rw [hg2]
        exact q_iret (st := []) (pc := 78) dX12_ofTank_78 rfl ⟨congrArg (fun z => some (Value.int z)) (by rw [hw]; unfold n_ofTank; rw [if_pos s33_0]), rfl, rfl, rfl, rfl, hfr⟩
      by_cases s33_1 : k = nI 1
      · refine q_tableIn (pc := 33) (off := 46) 79 dX12_ofTank_33 (by rw [s33_1]; decide) (by rw [s33_1]; decide) (by rw [s33_1]; rfl) (by decide) ?_
        refine q_iload_n (pc := 79) dX12_ofTank_79 rfl rfl ?_
        exact q_iret (st := []) (pc := 80) dX12_ofTank_80 rfl ⟨congrArg (fun z => some (Value.int z)) (by rw [hw]; unfold n_ofTank; rw [if_neg s33_0, if_pos s33_1]), rfl, rfl, rfl, rfl, hfr⟩
      by_cases s33_2 : k = nI 2
      · refine q_tableIn (pc := 33) (off := 48) 81 dX12_ofTank_33 (by rw [s33_2]; decide) (by rw [s33_2]; decide) (by rw [s33_2]; rfl) (by decide) ?_
        refine q_aload_n (pc := 81) dX12_ofTank_81 rfl rfl ?_
        refine q_iload_n (pc := 82) dX12_ofTank_82 rfl rfl ?_
        refine q_iconst (pc := 83) (v := nI 1) dX12_ofTank_83 (by decide) ?_
        refine q_callVF (pc := 84) dX12_ofTank_84 kX12_73 (c_tA hm (t := t) (k := 1) (j := 11 + 19 * t) (by omega) (by omega)) (Model_sh hm) rfl (Model_lt hm) ⟨Nat.le_of_ble_eq_true rfl, Nat.le_of_ble_eq_true rfl⟩ rfl rfl (Nat.le_of_ble_eq_true rfl) ?_
        show bq_W _ _ _ _ _ 87 _ [_] _ _ _ _ _ _
        rw [hg2]
        exact q_iret (st := []) (pc := 87) dX12_ofTank_87 rfl ⟨congrArg (fun z => some (Value.int z)) (by rw [hw]; unfold n_ofTank; rw [if_neg s33_0, if_neg s33_1, if_pos s33_2]), rfl, rfl, rfl, rfl, hfr⟩
      by_cases s33_3 : k = nI 3
      · refine q_tableIn (pc := 33) (off := 55) 88 dX12_ofTank_33 (by rw [s33_3]; decide) (by rw [s33_3]; decide) (by rw [s33_3]; rfl) (by decide) ?_
        refine q_iload_n (pc := 88) dX12_ofTank_88 rfl rfl ?_
        refine q_if_ne (pc := 89) 97 dX12_ofTank_89 (by decide) (fun c_89 => ?_) (fun c_89 => ?_)
        · have hst : bq_str (I2 (m + 6)) (fun b => I2 (m + 1) (124 + 5 * b)) = g_str g t := by rw [hg2]; exact bq_str_congr h6 (fun _ _ => rfl)
          refine q_aload_n (pc := 97) dX12_ofTank_97 rfl rfl ?_
          refine q_callVF (pc := 98) dX12_ofTank_98 kX12_139 (c_X12_blend hm (by rw [hs2]; exact fun z => c_89 (Int32.le_antisymm z (by rw [← nI_0]; exact nI_le (Nat.zero_le _) (by omega))))) (Model_sh hm) rfl (Model_lt hm) ⟨Nat.le_of_ble_eq_true rfl, Nat.le_of_ble_eq_true rfl⟩ rfl rfl (Nat.le_of_ble_eq_true rfl) ?_
          show bq_W _ _ _ _ _ 101 _ [_] _ _ _ _ _ _
          exact q_iret (st := []) (pc := 101) dX12_ofTank_101 rfl ⟨congrArg (fun z => some (Value.int z)) (by rw [hw]; unfold n_ofTank; rw [if_neg s33_0, if_neg s33_1, if_neg s33_2, if_pos s33_3]; exact hst), rfl, rfl, rfl, rfl, hfr⟩
        · have hst : (-5) = g_str g t := (g_str_0 hG ht c_89).symm
          refine q_bipush (pc := 92) (v := (-5)) dX12_ofTank_92 (by decide) ?_
          refine q_goto (pc := 94) 101 dX12_ofTank_94 (by decide) ?_
          exact q_iret (st := []) (pc := 101) dX12_ofTank_101 rfl ⟨congrArg (fun z => some (Value.int z)) (by rw [hw]; unfold n_ofTank; rw [if_neg s33_0, if_neg s33_1, if_neg s33_2, if_pos s33_3]; exact hst), rfl, rfl, rfl, rfl, hfr⟩
      by_cases s33_4 : k = nI 4
      · refine q_tableIn (pc := 33) (off := 69) 102 dX12_ofTank_33 (by rw [s33_4]; decide) (by rw [s33_4]; decide) (by rw [s33_4]; rfl) (by decide) ?_
        refine q_aload_n (pc := 102) dX12_ofTank_102 rfl rfl ?_
        refine q_iload_n (pc := 103) dX12_ofTank_103 rfl rfl ?_
        refine q_iconst (pc := 104) (v := nI 1) dX12_ofTank_104 (by decide) ?_
        refine q_callVF (pc := 105) dX12_ofTank_105 kX12_73 (c_tA hm (t := t) (k := 1) (j := 11 + 19 * t) (by omega) (by omega)) (Model_sh hm) rfl (Model_lt hm) ⟨Nat.le_of_ble_eq_true rfl, Nat.le_of_ble_eq_true rfl⟩ rfl rfl (Nat.le_of_ble_eq_true rfl) ?_
        show bq_W _ _ _ _ _ 108 _ [_] _ _ _ _ _ _
        refine q_iconst (pc := 108) (v := nI 3) dX12_ofTank_108 (by decide) ?_
        rw [hg2]
        refine q_icmp_ne (pc := 109) 121 dX12_ofTank_109 (by decide) (fun c_109 => ?_) (fun c_109 => ?_)
        · refine q_bipush (pc := 121) (v := (-5)) dX12_ofTank_121 (by decide) ?_
          exact q_iret (st := []) (pc := 123) dX12_ofTank_123 rfl ⟨congrArg (fun z => some (Value.int z)) (by rw [hw]; unfold n_ofTank; rw [if_neg s33_0, if_neg s33_1, if_neg s33_2, if_neg s33_3, if_pos s33_4]; first | rw [if_neg c_109] | (rw [if_pos c_109, hg2])), rfl, rfl, rfl, rfl, hfr⟩
        · refine q_aload_n (pc := 112) dX12_ofTank_112 rfl rfl ?_
          refine q_iload_n (pc := 113) dX12_ofTank_113 rfl rfl ?_
          refine q_iconst (pc := 114) (v := nI 2) dX12_ofTank_114 (by decide) ?_
          refine q_callVF (pc := 115) dX12_ofTank_115 kX12_73 (c_tA hm (t := t) (k := 2) (j := 12 + 19 * t) (by omega) (by omega)) (Model_sh hm) rfl (Model_lt hm) ⟨Nat.le_of_ble_eq_true rfl, Nat.le_of_ble_eq_true rfl⟩ rfl rfl (Nat.le_of_ble_eq_true rfl) ?_
          show bq_W _ _ _ _ _ 118 _ [_] _ _ _ _ _ _
          refine q_goto (pc := 118) 123 dX12_ofTank_118 (by decide) ?_
          exact q_iret (st := []) (pc := 123) dX12_ofTank_123 rfl ⟨congrArg (fun z => some (Value.int z)) (by rw [hw]; unfold n_ofTank; rw [if_neg s33_0, if_neg s33_1, if_neg s33_2, if_neg s33_3, if_pos s33_4]; first | rw [if_neg c_109] | (rw [if_pos c_109, hg2])), rfl, rfl, rfl, rfl, hfr⟩
      by_cases s33_5 : k = nI 5
      · refine q_tableIn (pc := 33) (off := 91) 124 dX12_ofTank_33 (by rw [s33_5]; decide) (by rw [s33_5]; decide) (by rw [s33_5]; rfl) (by decide) ?_
        refine q_iconst (pc := 124) (v := nI 0) dX12_ofTank_124 (by decide) ?_
        refine q_istore (pc := 125) dX12_ofTank_125 (Nat.le_of_ble_eq_true rfl) rfl ?_
        show bq_W _ _ _ _ _ 127 [_, _, _, _, _, _] _ _ _ _ _ _ _
        refine q_iconst (pc := 127) (v := nI 0) dX12_ofTank_127 (by decide) ?_
        refine q_istore (pc := 128) dX12_ofTank_128 (Nat.le_of_ble_eq_true rfl) rfl ?_
        show bq_W _ _ _ _ _ 130 [_, _, _, _, _, _] _ _ _ _ _ _ _
        have lp : ∀ i, i ≤ 16 → bq_W mX12_ofTank 4 78 0 0 130 [some (.ref m), some (.int (nI t)), some (.int k), some (.int (nI (gt g t))), some (.int (nI (bq_cnt (I2 (m + 6)) i))), some (.int (nI i))] [] S n I2 L P (qMv m I S n L P (.int (r_ofTank g (nI t) k))) := by
          refine bq_down (A := fun i => bq_W mX12_ofTank 4 78 0 0 130 [some (.ref m), some (.int (nI t)), some (.int k), some (.int (nI (gt g t))), some (.int (nI (bq_cnt (I2 (m + 6)) i))), some (.int (nI i))] [] S n I2 L P (qMv m I S n L P (.int (r_ofTank g (nI t) k)))) 16 ?_ ?_
          · refine q_iload (pc := 130) dX12_ofTank_130 rfl ?_
            refine q_bipush (pc := 132) (v := nI 16) dX12_ofTank_132 (by decide) ?_
            refine q_icmp_ge (pc := 134) 163 dX12_ofTank_134 (by decide) (fun c_134 => ?_) (fun c_134 => absurd (by decide) c_134)
            refine q_iload (pc := 163) dX12_ofTank_163 rfl ?_
            exact q_iret (st := []) (pc := 165) dX12_ofTank_165 rfl ⟨congrArg (fun z => some (Value.int z)) (by rw [hw]; unfold n_ofTank; rw [if_neg s33_0, if_neg s33_1, if_neg s33_2, if_neg s33_3, if_neg s33_4, if_pos s33_5]; exact congrArg nI (bq_cnt_congr 16 h6)), rfl, rfl, rfl, rfl, hfr⟩
          · intro i hi ih
            refine q_iload (pc := 130) dX12_ofTank_130 rfl ?_
            refine q_bipush (pc := 132) (v := nI 16) dX12_ofTank_132 (by decide) ?_
            refine q_icmp_ge (pc := 134) 163 dX12_ofTank_134 (by decide) (fun c_134 => absurd c_134 (nI_ge hi (by decide))) (fun c_134 => ?_)
            refine q_iload (pc := 137) dX12_ofTank_137 rfl ?_
            refine q_aload_n (pc := 139) dX12_ofTank_139 rfl rfl ?_
            refine q_getP (pc := 140) dX12_ofTank_140 fX12_25 (Model_sh hm) ⟨by decide, rfl⟩ (Model_lt hm) (Model_p_there hm) ?_
            refine q_iload (pc := 143) dX12_ofTank_143 rfl ?_
            refine q_iald (pc := 145) dX12_ofTank_145 (oA_sh (Model_s_there hm)) (oA_lt (Model_s_there hm)) rfl (by omega) ?_
            refine q_if_le (pc := 146) 153 dX12_ofTank_146 (by decide) (fun c_146 => ?_) (fun c_146 => ?_)
            · refine q_iconst (pc := 153) (v := nI 0) dX12_ofTank_153 (by decide) ?_
              refine q_iaddN (pc := 154) dX12_ofTank_154 ?_
              refine q_istore (pc := 155) dX12_ofTank_155 (Nat.le_of_ble_eq_true rfl) rfl ?_
              show bq_W _ _ _ _ _ 157 [_, _, _, _, _, _] _ _ _ _ _ _ _
              refine q_iinc (pc := 157) (v := nI (i + 1)) dX12_ofTank_157 rfl (bq_inc _) (Nat.le_of_ble_eq_true rfl) rfl ?_
              show bq_W _ _ _ _ _ 160 [_, _, _, _, _, _] _ _ _ _ _ _ _
              refine q_goto (pc := 160) 130 dX12_ofTank_160 (by decide) ?_
              rw [show (bq_cnt (I2 (m + 6)) (i + 1)) = _ from if_pos c_146] at ih
              exact ih
            · refine q_iconst (pc := 149) (v := nI 1) dX12_ofTank_149 (by decide) ?_
              refine q_goto (pc := 150) 154 dX12_ofTank_150 (by decide) ?_
              refine q_iaddN (pc := 154) dX12_ofTank_154 ?_
              refine q_istore (pc := 155) dX12_ofTank_155 (Nat.le_of_ble_eq_true rfl) rfl ?_
              show bq_W _ _ _ _ _ 157 [_, _, _, _, _, _] _ _ _ _ _ _ _
              refine q_iinc (pc := 157) (v := nI (i + 1)) dX12_ofTank_157 rfl (bq_inc _) (Nat.le_of_ble_eq_true rfl) rfl ?_
              show bq_W _ _ _ _ _ 160 [_, _, _, _, _, _] _ _ _ _ _ _ _
              refine q_goto (pc := 160) 130 dX12_ofTank_160 (by decide) ?_
              rw [show (bq_cnt (I2 (m + 6)) (i + 1)) = _ from if_neg c_146] at ih
              exact ih
        exact lp 0 (by decide)
      refine q_tableOut (pc := 33) 166 dX12_ofTank_33 (bq_out 5 (by decide) (fun j hj => match j, hj with | 0, _ => s33_0 | 1, _ => s33_1 | 2, _ => s33_2 | 3, _ => s33_3 | 4, _ => s33_4 | 5, _ => s33_5 | j + 6, hj => absurd hj (by omega))) (by decide) ?_
      refine q_aload_n (pc := 166) dX12_ofTank_166 rfl rfl ?_
      refine q_iload_n (pc := 167) dX12_ofTank_167 rfl rfl ?_
      refine q_iconst (pc := 168) (v := nI 0) dX12_ofTank_168 (by decide) ?_
      refine q_callVF (pc := 169) dX12_ofTank_169 kX12_73 (c_tA hm (t := t) (k := 0) (j := 10 + 19 * t) (by omega) (by omega)) (Model_sh hm) rfl (Model_lt hm) ⟨Nat.le_of_ble_eq_true rfl, Nat.le_of_ble_eq_true rfl⟩ rfl rfl (Nat.le_of_ble_eq_true rfl) ?_
      show bq_W _ _ _ _ _ 172 _ [_] _ _ _ _ _ _
      rw [hg2]
      refine q_iload_n (pc := 172) dX12_ofTank_172 rfl rfl ?_
      refine q_isub (pc := 173) dX12_ofTank_173 ?_
      exact q_iret (st := []) (pc := 174) dX12_ofTank_174 rfl ⟨congrArg (fun z => some (Value.int z)) (by rw [hw]; unfold n_ofTank; rw [if_neg s33_0, if_neg s33_1, if_neg s33_2, if_neg s33_3, if_neg s33_4, if_neg s33_5, if_pos (k_6 c_14 s33_0 s33_1 s33_2 s33_3 s33_4 s33_5)]), rfl, rfl, rfl, rfl, hfr⟩
    · replace c_14 := bq_nb0.mp c_14
      refine q_iconst (pc := 17) (v := (-1)) dX12_ofTank_17 (by decide) ?_
      exact q_iret (st := []) (pc := 18) dX12_ofTank_18 rfl ⟨congrArg (fun z => some (Value.int z)) (by first | (unfold r_ofTank; rw [if_pos c_4]) | (rw [hw, n_ofTank_out c_14])), rfl, rfl, rfl, rfl, fun _ _ => rfl⟩
set_option maxHeartbeats 1000000 in
set_option maxRecDepth 20000 in
theorem o_litres {S : BqH} {n : Nat} {I : BqI} {L : BqL} {P : BqP} {m : Nat} {g : BqG} (hm : oModel S n P m) (hg : I (m + 1) = g) {en : Nat} (hG : GI g en) {t b : Int32} : bq_Sp mX12_litres 3 56 0 0 [.ref m, .int t, .int b] S n I L P (bq_F (some (.int (r_litres g t b))) S n I L P) := by
  refine q_entry (vs := [some (.ref m), some (.int t), some (.int b)]) (by decide +kernel) (by simp) (Nat.le_of_ble_eq_true rfl) rfl ?_
  refine q_iload_n (pc := 0) dX12_litres_0 rfl rfl ?_
  refine q_callSF (pc := 1) dX12_litres_1 kX12_95 c_X12_isTank ⟨Nat.le_of_ble_eq_true rfl, Nat.le_of_ble_eq_true rfl⟩ rfl rfl (Nat.le_of_ble_eq_true rfl) ?_
  show bq_W _ _ _ _ _ 4 _ [_] _ _ _ _ _ _
  refine q_if_eq (pc := 4) 32 dX12_litres_4 (by decide) (fun c_4 => ?_) (fun c_4 => ?_)
  · replace c_4 := bq_nb0.mp c_4
    refine q_iconst (pc := 32) (v := (-1)) dX12_litres_32 (by decide) ?_
    exact q_iret (st := []) (pc := 33) dX12_litres_33 rfl ⟨by first | (rw [hg, hw]) | (unfold r_litres; rw [if_pos (by first | exact Or.inl c_4 | (rw [hg] at c_20; exact Or.inr c_20))]), rfl, rfl, rfl, rfl, rfl⟩
  · replace c_4 := bq_nbn.mp c_4
    refine q_iload_n (pc := 7) dX12_litres_7 rfl rfl ?_
    refine q_iconst (pc := 8) (v := nI 0) dX12_litres_8 (by decide) ?_
    refine q_aload_n (pc := 9) dX12_litres_9 rfl rfl ?_
    refine q_getP (pc := 10) dX12_litres_10 fX12_9 (Model_sh hm) ⟨by decide, rfl⟩ (Model_lt hm) (Model_p_g hm) ?_
    refine q_iconst (pc := 13) (v := nI 1) dX12_litres_13 (by decide) ?_
    refine q_iald (pc := 14) dX12_litres_14 (oA_sh (Model_s_g hm)) (oA_lt (Model_s_g hm)) rfl (by omega) ?_
    refine q_iconst (pc := 15) (v := nI 1) dX12_litres_15 (by decide) ?_
    refine q_isub (pc := 16) dX12_litres_16 ?_
    refine q_callSF (pc := 17) dX12_litres_17 kX12_69 c_X12_in ⟨Nat.le_of_ble_eq_true rfl, Nat.le_of_ble_eq_true rfl⟩ rfl rfl (Nat.le_of_ble_eq_true rfl) ?_
    show bq_W _ _ _ _ _ 20 _ [_] _ _ _ _ _ _
    refine q_if_eq (pc := 20) 32 dX12_litres_20 (by decide) (fun c_20 => ?_) (fun c_20 => ?_)
    · replace c_20 := bq_nb0.mp c_20
      refine q_iconst (pc := 32) (v := (-1)) dX12_litres_32 (by decide) ?_
      exact q_iret (st := []) (pc := 33) dX12_litres_33 rfl ⟨by first | (rw [hg, hw]) | (unfold r_litres; rw [if_pos (by first | exact Or.inl c_4 | (rw [hg] at c_20; exact Or.inr c_20))]), rfl, rfl, rfl, rfl, rfl⟩
    · replace c_20 := bq_nbn.mp c_20
      rw [hg] at c_20
      obtain ⟨t, ht, rfl⟩ := (bq_in5 t 5 (by decide)).resolve_left c_4
      obtain ⟨b, hb, rfl⟩ := (b_cases hG b).resolve_left c_20
      have hl : gn g 1 ≤ 16 := hG.2.2.1
      have hw := r_litres_n hG ht hb
      refine q_aload_n (pc := 23) dX12_litres_23 rfl rfl ?_
      refine q_iload_n (pc := 24) dX12_litres_24 rfl rfl ?_
      refine q_iload_n (pc := 25) dX12_litres_25 rfl rfl ?_
      refine q_callVF (pc := 26) dX12_litres_26 kX12_77 (c_X12_partAt hm (t := t) (b := b) (by omega)) (Model_sh hm) rfl (Model_lt hm) ⟨Nat.le_of_ble_eq_true rfl, Nat.le_of_ble_eq_true rfl⟩ rfl rfl (Nat.le_of_ble_eq_true rfl) ?_
      show bq_W _ _ _ _ _ 29 _ [_] _ _ _ _ _ _
      refine q_goto (pc := 29) 33 dX12_litres_29 (by decide) ?_
      exact q_iret (st := []) (pc := 33) dX12_litres_33 rfl ⟨by first | (rw [hg, hw]) | (unfold r_litres; rw [if_pos (by first | exact Or.inl c_4 | (rw [hg] at c_20; exact Or.inr c_20))]), rfl, rfl, rfl, rfl, rfl⟩
set_option maxHeartbeats 3960000 in
set_option maxRecDepth 20000 in
theorem o_ofBatch {S : BqH} {n : Nat} {I : BqI} {L : BqL} {P : BqP} {m : Nat} {g : BqG} (hm : oModel S n P m) (hg : I (m + 1) = g) {en : Nat} (hG : GI g en) {b k : Int32} : bq_Sp mX12_ofBatch 3 56 0 0 [.ref m, .int b, .int k] S n I L P (bq_F (some (.int (r_ofBatch g b k))) S n I L P) := by
  refine q_entry (vs := [some (.ref m), some (.int b), some (.int k), none, none, none]) (by decide +kernel) (by simp) (Nat.le_of_ble_eq_true rfl) rfl ?_
  refine q_iload_n (pc := 0) dX12_ofBatch_0 rfl rfl ?_
  refine q_iconst (pc := 1) (v := nI 0) dX12_ofBatch_1 (by decide) ?_
  refine q_aload_n (pc := 2) dX12_ofBatch_2 rfl rfl ?_
  refine q_getP (pc := 3) dX12_ofBatch_3 fX12_9 (Model_sh hm) ⟨by decide, rfl⟩ (Model_lt hm) (Model_p_g hm) ?_
  refine q_iconst (pc := 6) (v := nI 1) dX12_ofBatch_6 (by decide) ?_
  refine q_iald (pc := 7) dX12_ofBatch_7 (oA_sh (Model_s_g hm)) (oA_lt (Model_s_g hm)) rfl (by omega) ?_
  refine q_iconst (pc := 8) (v := nI 1) dX12_ofBatch_8 (by decide) ?_
  refine q_isub (pc := 9) dX12_ofBatch_9 ?_
  refine q_callSF (pc := 10) dX12_ofBatch_10 kX12_69 c_X12_in ⟨Nat.le_of_ble_eq_true rfl, Nat.le_of_ble_eq_true rfl⟩ rfl rfl (Nat.le_of_ble_eq_true rfl) ?_
  show bq_W _ _ _ _ _ 13 _ [_] _ _ _ _ _ _
  refine q_if_eq (pc := 13) 26 dX12_ofBatch_13 (by decide) (fun c_13 => ?_) (fun c_13 => ?_)
  · replace c_13 := bq_nb0.mp c_13
    refine q_iconst (pc := 26) (v := (-1)) dX12_ofBatch_26 (by decide) ?_
    exact q_iret (st := []) (pc := 27) dX12_ofBatch_27 rfl ⟨by first | (rw [hw, n_ofBatch_out c_23]) | (rw [hg] at c_13; unfold r_ofBatch; rw [if_pos c_13]), rfl, rfl, rfl, rfl, rfl⟩
  · replace c_13 := bq_nbn.mp c_13
    rw [hg] at c_13
    obtain ⟨b, hb, rfl⟩ := (b_cases hG b).resolve_left c_13
    have hl : gn g 1 ≤ 16 := hG.2.2.1
    have hw : r_ofBatch g (nI b) k = n_ofBatch g b k := r_ofBatch_n hG hb
    refine q_iload_n (pc := 16) dX12_ofBatch_16 rfl rfl ?_
    refine q_iconst (pc := 17) (v := nI 0) dX12_ofBatch_17 (by decide) ?_
    refine q_bipush (pc := 18) (v := nI 6) dX12_ofBatch_18 (by decide) ?_
    refine q_callSF (pc := 20) dX12_ofBatch_20 kX12_69 c_X12_in ⟨Nat.le_of_ble_eq_true rfl, Nat.le_of_ble_eq_true rfl⟩ rfl rfl (Nat.le_of_ble_eq_true rfl) ?_
    show bq_W _ _ _ _ _ 23 _ [_] _ _ _ _ _ _
    refine q_if_ne (pc := 23) 28 dX12_ofBatch_23 (by decide) (fun c_23 => ?_) (fun c_23 => ?_)
    · replace c_23 := bq_nbn.mp c_23
      refine q_iload_n (pc := 28) dX12_ofBatch_28 rfl rfl ?_
      refine q_iconst (pc := 29) (v := nI 2) dX12_ofBatch_29 (by decide) ?_
      refine q_icmp_eq (pc := 30) 39 dX12_ofBatch_30 (by decide) (fun c_30 => ?_) (fun c_30 => ?_)
      · have hk6 : k = nI 2 ∨ k = nI 6 := Or.inl c_30
        refine q_iconst (pc := 39) (v := nI 0) dX12_ofBatch_39 (by decide) ?_
        refine q_istore_n (pc := 40) dX12_ofBatch_40 rfl (Nat.le_of_ble_eq_true rfl) rfl ?_
        show bq_W _ _ _ _ _ 41 [_, _, _, _, _, _] _ _ _ _ _ _ _
        refine q_iconst (pc := 41) (v := nI 0) dX12_ofBatch_41 (by decide) ?_
        refine q_istore (pc := 42) dX12_ofBatch_42 (Nat.le_of_ble_eq_true rfl) rfl ?_
        show bq_W _ _ _ _ _ 44 [_, _, _, _, _, _] _ _ _ _ _ _ _
        refine q_iconst (pc := 44) (v := nI 0) dX12_ofBatch_44 (by decide) ?_
        refine q_istore (pc := 45) dX12_ofBatch_45 (Nat.le_of_ble_eq_true rfl) rfl ?_
        show bq_W _ _ _ _ _ 47 [_, _, _, _, _, _] _ _ _ _ _ _ _
        have lp : ∀ i, i ≤ 6 → bq_W mX12_ofBatch 3 56 0 0 47 [some (.ref m), some (.int (nI b)), some (.int k), some (.int (bq_sum (fun i => g (13 + 19 * i + b)) i)), some (.int (bq_tw (fun i => g (13 + 19 * i + b)) i)), some (.int (nI i))] [] S n I L P (bq_F (some (.int (r_ofBatch g (nI b) k))) S n I L P) := by
          refine bq_down (A := fun i => bq_W mX12_ofBatch 3 56 0 0 47 [some (.ref m), some (.int (nI b)), some (.int k), some (.int (bq_sum (fun i => g (13 + 19 * i + b)) i)), some (.int (bq_tw (fun i => g (13 + 19 * i + b)) i)), some (.int (nI i))] [] S n I L P (bq_F (some (.int (r_ofBatch g (nI b) k))) S n I L P)) 6 ?_ ?_
          · refine q_iload (pc := 47) dX12_ofBatch_47 rfl ?_
            refine q_bipush (pc := 49) (v := nI 6) dX12_ofBatch_49 (by decide) ?_
            refine q_icmp_ge (pc := 51) 93 dX12_ofBatch_51 (by decide) (fun c_51 => ?_) (fun c_51 => absurd (by decide) c_51)
            refine q_iload_n (pc := 93) dX12_ofBatch_93 rfl rfl ?_
            refine q_iconst (pc := 94) (v := nI 2) dX12_ofBatch_94 (by decide) ?_
            refine q_icmp_ne (pc := 95) 102 dX12_ofBatch_95 (by decide) (fun c_95 => ?_) (fun c_95 => ?_)
            · refine q_iload (pc := 102) dX12_ofBatch_102 rfl ?_
              exact q_iret (st := []) (pc := 104) dX12_ofBatch_104 rfl ⟨by rw [hw]; unfold n_ofBatch; first | (rw [c_95, if_neg (by decide), if_neg (by decide), if_pos rfl]) | (rw [show k = nI 6 from hk6.resolve_left c_95, if_neg (by decide), if_neg (by decide), if_neg (by decide), if_neg (by decide), if_neg (by decide), if_neg (by decide), if_pos rfl]), rfl, rfl, rfl, rfl, rfl⟩
            · refine q_iload_n (pc := 98) dX12_ofBatch_98 rfl rfl ?_
              refine q_goto (pc := 99) 104 dX12_ofBatch_99 (by decide) ?_
              exact q_iret (st := []) (pc := 104) dX12_ofBatch_104 rfl ⟨by rw [hw]; unfold n_ofBatch; first | (rw [c_95, if_neg (by decide), if_neg (by decide), if_pos rfl]) | (rw [show k = nI 6 from hk6.resolve_left c_95, if_neg (by decide), if_neg (by decide), if_neg (by decide), if_neg (by decide), if_neg (by decide), if_neg (by decide), if_pos rfl]), rfl, rfl, rfl, rfl, rfl⟩
          · intro i hi ih
            refine q_iload (pc := 47) dX12_ofBatch_47 rfl ?_
            refine q_bipush (pc := 49) (v := nI 6) dX12_ofBatch_49 (by decide) ?_
            refine q_icmp_ge (pc := 51) 93 dX12_ofBatch_51 (by decide) (fun c_51 => absurd c_51 (nI_ge hi (by decide))) (fun c_51 => ?_)
            refine q_iload_n (pc := 54) dX12_ofBatch_54 rfl rfl ?_
            refine q_aload_n (pc := 55) dX12_ofBatch_55 rfl rfl ?_
            refine q_iload (pc := 56) dX12_ofBatch_56 rfl ?_
            refine q_iload_n (pc := 58) dX12_ofBatch_58 rfl rfl ?_
            refine q_callVF (pc := 59) dX12_ofBatch_59 kX12_77 (c_X12_partAt hm (t := i) (b := b) (by omega)) (Model_sh hm) rfl (Model_lt hm) ⟨Nat.le_of_ble_eq_true rfl, Nat.le_of_ble_eq_true rfl⟩ rfl rfl (Nat.le_of_ble_eq_true rfl) ?_
            show bq_W _ _ _ _ _ 62 _ [_, _] _ _ _ _ _ _
            rw [hg]
            refine q_iadd (pc := 62) dX12_ofBatch_62 ?_
            refine q_istore_n (pc := 63) dX12_ofBatch_63 rfl (Nat.le_of_ble_eq_true rfl) rfl ?_
            show bq_W _ _ _ _ _ 64 [_, _, _, _, _, _] _ _ _ _ _ _ _
            refine q_iload (pc := 64) dX12_ofBatch_64 rfl ?_
            refine q_aload_n (pc := 66) dX12_ofBatch_66 rfl rfl ?_
            refine q_iload (pc := 67) dX12_ofBatch_67 rfl ?_
            refine q_iload_n (pc := 69) dX12_ofBatch_69 rfl rfl ?_
            refine q_callVF (pc := 70) dX12_ofBatch_70 kX12_77 (c_X12_partAt hm (t := i) (b := b) (by omega)) (Model_sh hm) rfl (Model_lt hm) ⟨Nat.le_of_ble_eq_true rfl, Nat.le_of_ble_eq_true rfl⟩ rfl rfl (Nat.le_of_ble_eq_true rfl) ?_
            show bq_W _ _ _ _ _ 73 _ [_, _] _ _ _ _ _ _
            rw [hg]
            refine q_if_le (pc := 73) 83 dX12_ofBatch_73 (by decide) (fun c_73 => ?_) (fun c_73 => ?_)
            · refine q_iconst (pc := 83) (v := nI 0) dX12_ofBatch_83 (by decide) ?_
              refine q_ior (pc := 84) dX12_ofBatch_84 ?_
              refine q_istore (pc := 85) dX12_ofBatch_85 (Nat.le_of_ble_eq_true rfl) rfl ?_
              show bq_W _ _ _ _ _ 87 [_, _, _, _, _, _] _ _ _ _ _ _ _
              refine q_iinc (pc := 87) (v := nI (i + 1)) dX12_ofBatch_87 rfl (bq_inc _) (Nat.le_of_ble_eq_true rfl) rfl ?_
              show bq_W _ _ _ _ _ 90 [_, _, _, _, _, _] _ _ _ _ _ _ _
              refine q_goto (pc := 90) 47 dX12_ofBatch_90 (by decide) ?_
              rw [show (bq_tw (fun i => g (13 + 19 * i + b)) (i + 1)) = _ from if_pos c_73] at ih
              rw [show ∀ z : Int32, z ||| nI 0 = z from fun z => by rw [nI_0]; exact Int32.or_zero]
              exact ih
            · refine q_iconst (pc := 76) (v := nI 1) dX12_ofBatch_76 (by decide) ?_
              refine q_iload (pc := 77) dX12_ofBatch_77 rfl ?_
              refine q_ishl (pc := 79) dX12_ofBatch_79 ?_
              refine q_goto (pc := 80) 84 dX12_ofBatch_80 (by decide) ?_
              refine q_ior (pc := 84) dX12_ofBatch_84 ?_
              refine q_istore (pc := 85) dX12_ofBatch_85 (Nat.le_of_ble_eq_true rfl) rfl ?_
              show bq_W _ _ _ _ _ 87 [_, _, _, _, _, _] _ _ _ _ _ _ _
              refine q_iinc (pc := 87) (v := nI (i + 1)) dX12_ofBatch_87 rfl (bq_inc _) (Nat.le_of_ble_eq_true rfl) rfl ?_
              show bq_W _ _ _ _ _ 90 [_, _, _, _, _, _] _ _ _ _ _ _ _
              refine q_goto (pc := 90) 47 dX12_ofBatch_90 (by decide) ?_
              rw [show (bq_tw (fun i => g (13 + 19 * i + b)) (i + 1)) = _ from if_neg c_73] at ih
              exact ih
        exact lp 0 (by decide)
      · refine q_iload_n (pc := 33) dX12_ofBatch_33 rfl rfl ?_
        refine q_bipush (pc := 34) (v := nI 6) dX12_ofBatch_34 (by decide) ?_
        refine q_icmp_ne (pc := 36) 105 dX12_ofBatch_36 (by decide) (fun c_36 => ?_) (fun c_36 => ?_)
        · obtain ⟨q, rfl, hq⟩ := k_rest c_23 c_30 c_36
          have hq6 : q ≤ 5 := by omega
          refine q_aload_n (pc := 105) dX12_ofBatch_105 rfl rfl ?_
          refine q_getP (pc := 106) dX12_ofBatch_106 fX12_9 (Model_sh hm) ⟨by decide, rfl⟩ (Model_lt hm) (Model_p_g hm) ?_
          refine q_bipush (pc := 109) (v := nI 124) dX12_ofBatch_109 (by decide) ?_
          refine q_iconst (pc := 111) (v := nI 5) dX12_ofBatch_111 (by decide) ?_
          refine q_iload_n (pc := 112) dX12_ofBatch_112 rfl rfl ?_
          refine q_imulN (pc := 113) dX12_ofBatch_113 ?_
          refine q_iaddN (pc := 114) dX12_ofBatch_114 ?_
          refine q_iload_n (pc := 115) dX12_ofBatch_115 rfl rfl ?_
          refine q_iconst (pc := 116) (v := nI 2) dX12_ofBatch_116 (by decide) ?_
          refine q_icmp_ge (pc := 117) 124 dX12_ofBatch_117 (by decide) (fun c_117 => ?_) (fun c_117 => ?_)
          · have hlt : ¬ q < 2 := fun z => nI_ge z (by omega) c_117
            refine q_iload_n (pc := 124) dX12_ofBatch_124 rfl rfl ?_
            refine q_iconst (pc := 125) (v := nI 1) dX12_ofBatch_125 (by decide) ?_
            refine q_isub (pc := 126) dX12_ofBatch_126 ?_
            rw [pk_sub (by omega)]
            refine q_iaddN (pc := 127) dX12_ofBatch_127 ?_
            refine q_iald (pc := 128) dX12_ofBatch_128 (oA_sh (Model_s_g hm)) (oA_lt (Model_s_g hm)) rfl (by omega) ?_
            exact q_iret (st := []) (pc := 129) dX12_ofBatch_129 rfl ⟨by rw [hg, hw, n_ofBatch_at hq]; first | rw [if_neg hlt] | rw [if_pos hlt], rfl, rfl, rfl, rfl, rfl⟩
          · have hlt : q < 2 := Nat.lt_of_not_le (fun z => c_117 (nI_le z (by omega)))
            refine q_iload_n (pc := 120) dX12_ofBatch_120 rfl rfl ?_
            refine q_goto (pc := 121) 127 dX12_ofBatch_121 (by decide) ?_
            refine q_iaddN (pc := 127) dX12_ofBatch_127 ?_
            refine q_iald (pc := 128) dX12_ofBatch_128 (oA_sh (Model_s_g hm)) (oA_lt (Model_s_g hm)) rfl (by omega) ?_
            exact q_iret (st := []) (pc := 129) dX12_ofBatch_129 rfl ⟨by rw [hg, hw, n_ofBatch_at hq]; first | rw [if_neg hlt] | rw [if_pos hlt], rfl, rfl, rfl, rfl, rfl⟩
        · have hk6 : k = nI 2 ∨ k = nI 6 := Or.inr c_36
          refine q_iconst (pc := 39) (v := nI 0) dX12_ofBatch_39 (by decide) ?_
          refine q_istore_n (pc := 40) dX12_ofBatch_40 rfl (Nat.le_of_ble_eq_true rfl) rfl ?_
          show bq_W _ _ _ _ _ 41 [_, _, _, _, _, _] _ _ _ _ _ _ _
          refine q_iconst (pc := 41) (v := nI 0) dX12_ofBatch_41 (by decide) ?_
          refine q_istore (pc := 42) dX12_ofBatch_42 (Nat.le_of_ble_eq_true rfl) rfl ?_
          show bq_W _ _ _ _ _ 44 [_, _, _, _, _, _] _ _ _ _ _ _ _
          refine q_iconst (pc := 44) (v := nI 0) dX12_ofBatch_44 (by decide) ?_
          refine q_istore (pc := 45) dX12_ofBatch_45 (Nat.le_of_ble_eq_true rfl) rfl ?_
          show bq_W _ _ _ _ _ 47 [_, _, _, _, _, _] _ _ _ _ _ _ _
          have lp : ∀ i, i ≤ 6 → bq_W mX12_ofBatch 3 56 0 0 47 [some (.ref m), some (.int (nI b)), some (.int k), some (.int (bq_sum (fun i => g (13 + 19 * i + b)) i)), some (.int (bq_tw (fun i => g (13 + 19 * i + b)) i)), some (.int (nI i))] [] S n I L P (bq_F (some (.int (r_ofBatch g (nI b) k))) S n I L P) := by
            refine bq_down (A := fun i => bq_W mX12_ofBatch 3 56 0 0 47 [some (.ref m), some (.int (nI b)), some (.int k), some (.int (bq_sum (fun i => g (13 + 19 * i + b)) i)), some (.int (bq_tw (fun i => g (13 + 19 * i + b)) i)), some (.int (nI i))] [] S n I L P (bq_F (some (.int (r_ofBatch g (nI b) k))) S n I L P)) 6 ?_ ?_
            · refine q_iload (pc := 47) dX12_ofBatch_47 rfl ?_
              refine q_bipush (pc := 49) (v := nI 6) dX12_ofBatch_49 (by decide) ?_
              refine q_icmp_ge (pc := 51) 93 dX12_ofBatch_51 (by decide) (fun c_51 => ?_) (fun c_51 => absurd (by decide) c_51)
              refine q_iload_n (pc := 93) dX12_ofBatch_93 rfl rfl ?_
              refine q_iconst (pc := 94) (v := nI 2) dX12_ofBatch_94 (by decide) ?_
              refine q_icmp_ne (pc := 95) 102 dX12_ofBatch_95 (by decide) (fun c_95 => ?_) (fun c_95 => ?_)
              · refine q_iload (pc := 102) dX12_ofBatch_102 rfl ?_
                exact q_iret (st := []) (pc := 104) dX12_ofBatch_104 rfl ⟨by rw [hw]; unfold n_ofBatch; first | (rw [c_95, if_neg (by decide), if_neg (by decide), if_pos rfl]) | (rw [show k = nI 6 from hk6.resolve_left c_95, if_neg (by decide), if_neg (by decide), if_neg (by decide), if_neg (by decide), if_neg (by decide), if_neg (by decide), if_pos rfl]), rfl, rfl, rfl, rfl, rfl⟩
              · refine q_iload_n (pc := 98) dX12_ofBatch_98 rfl rfl ?_
                refine q_goto (pc := 99) 104 dX12_ofBatch_99 (by decide) ?_
                exact q_iret (st := []) (pc := 104) dX12_ofBatch_104 rfl ⟨by rw [hw]; unfold n_ofBatch; first | (rw [c_95, if_neg (by decide), if_neg (by decide), if_pos rfl]) | (rw [show k = nI 6 from hk6.resolve_left c_95, if_neg (by decide), if_neg (by decide), if_neg (by decide), if_neg (by decide), if_neg (by decide), if_neg (by decide), if_pos rfl]), rfl, rfl, rfl, rfl, rfl⟩
            · intro i hi ih
              refine q_iload (pc := 47) dX12_ofBatch_47 rfl ?_
              refine q_bipush (pc := 49) (v := nI 6) dX12_ofBatch_49 (by decide) ?_
              refine q_icmp_ge (pc := 51) 93 dX12_ofBatch_51 (by decide) (fun c_51 => absurd c_51 (nI_ge hi (by decide))) (fun c_51 => ?_)
              refine q_iload_n (pc := 54) dX12_ofBatch_54 rfl rfl ?_
              refine q_aload_n (pc := 55) dX12_ofBatch_55 rfl rfl ?_
              refine q_iload (pc := 56) dX12_ofBatch_56 rfl ?_
              refine q_iload_n (pc := 58) dX12_ofBatch_58 rfl rfl ?_
              refine q_callVF (pc := 59) dX12_ofBatch_59 kX12_77 (c_X12_partAt hm (t := i) (b := b) (by omega)) (Model_sh hm) rfl (Model_lt hm) ⟨Nat.le_of_ble_eq_true rfl, Nat.le_of_ble_eq_true rfl⟩ rfl rfl (Nat.le_of_ble_eq_true rfl) ?_
              show bq_W _ _ _ _ _ 62 _ [_, _] _ _ _ _ _ _
              rw [hg]
              refine q_iadd (pc := 62) dX12_ofBatch_62 ?_
              refine q_istore_n (pc := 63) dX12_ofBatch_63 rfl (Nat.le_of_ble_eq_true rfl) rfl ?_
              show bq_W _ _ _ _ _ 64 [_, _, _, _, _, _] _ _ _ _ _ _ _
              refine q_iload (pc := 64) dX12_ofBatch_64 rfl ?_
              refine q_aload_n (pc := 66) dX12_ofBatch_66 rfl rfl ?_
              refine q_iload (pc := 67) dX12_ofBatch_67 rfl ?_
              refine q_iload_n (pc := 69) dX12_ofBatch_69 rfl rfl ?_
              refine q_callVF (pc := 70) dX12_ofBatch_70 kX12_77 (c_X12_partAt hm (t := i) (b := b) (by omega)) (Model_sh hm) rfl (Model_lt hm) ⟨Nat.le_of_ble_eq_true rfl, Nat.le_of_ble_eq_true rfl⟩ rfl rfl (Nat.le_of_ble_eq_true rfl) ?_
              show bq_W _ _ _ _ _ 73 _ [_, _] _ _ _ _ _ _
              rw [hg]
              refine q_if_le (pc := 73) 83 dX12_ofBatch_73 (by decide) (fun c_73 => ?_) (fun c_73 => ?_)
              · refine q_iconst (pc := 83) (v := nI 0) dX12_ofBatch_83 (by decide) ?_
                refine q_ior (pc := 84) dX12_ofBatch_84 ?_
                refine q_istore (pc := 85) dX12_ofBatch_85 (Nat.le_of_ble_eq_true rfl) rfl ?_
                show bq_W _ _ _ _ _ 87 [_, _, _, _, _, _] _ _ _ _ _ _ _
                refine q_iinc (pc := 87) (v := nI (i + 1)) dX12_ofBatch_87 rfl (bq_inc _) (Nat.le_of_ble_eq_true rfl) rfl ?_
                show bq_W _ _ _ _ _ 90 [_, _, _, _, _, _] _ _ _ _ _ _ _
                refine q_goto (pc := 90) 47 dX12_ofBatch_90 (by decide) ?_
                rw [show (bq_tw (fun i => g (13 + 19 * i + b)) (i + 1)) = _ from if_pos c_73] at ih
                rw [show ∀ z : Int32, z ||| nI 0 = z from fun z => by rw [nI_0]; exact Int32.or_zero]
                exact ih
              · refine q_iconst (pc := 76) (v := nI 1) dX12_ofBatch_76 (by decide) ?_
                refine q_iload (pc := 77) dX12_ofBatch_77 rfl ?_
                refine q_ishl (pc := 79) dX12_ofBatch_79 ?_
                refine q_goto (pc := 80) 84 dX12_ofBatch_80 (by decide) ?_
                refine q_ior (pc := 84) dX12_ofBatch_84 ?_
                refine q_istore (pc := 85) dX12_ofBatch_85 (Nat.le_of_ble_eq_true rfl) rfl ?_
                show bq_W _ _ _ _ _ 87 [_, _, _, _, _, _] _ _ _ _ _ _ _
                refine q_iinc (pc := 87) (v := nI (i + 1)) dX12_ofBatch_87 rfl (bq_inc _) (Nat.le_of_ble_eq_true rfl) rfl ?_
                show bq_W _ _ _ _ _ 90 [_, _, _, _, _, _] _ _ _ _ _ _ _
                refine q_goto (pc := 90) 47 dX12_ofBatch_90 (by decide) ?_
                rw [show (bq_tw (fun i => g (13 + 19 * i + b)) (i + 1)) = _ from if_neg c_73] at ih
                exact ih
          exact lp 0 (by decide)
    · replace c_23 := bq_nb0.mp c_23
      refine q_iconst (pc := 26) (v := (-1)) dX12_ofBatch_26 (by decide) ?_
      exact q_iret (st := []) (pc := 27) dX12_ofBatch_27 rfl ⟨by first | (rw [hw, n_ofBatch_out c_23]) | (rw [hg] at c_13; unfold r_ofBatch; rw [if_pos c_13]), rfl, rfl, rfl, rfl, rfl⟩
set_option maxHeartbeats 1000000 in
set_option maxRecDepth 20000 in
theorem o_holds {S : BqH} {n : Nat} {I : BqI} {L : BqL} {P : BqP} {m : Nat} {g : BqG} (hm : oModel S n P m) (hg : I (m + 1) = g) {en : Nat} (hG : GI g en) {d s : Int32} : bq_Sp mX12_holds 2 39 0 0 [.ref m, .int d, .int s] S n I L P (bq_F (some (.int (if (d < nI 0 ∨ ¬ d ≤ nI 9999) ∨ (s < nI 0 ∨ ¬ s ≤ nI 2000) then (-2) else ri (rfx (fun i => g (294 + 3 * i)) (fun i => g (295 + 3 * i)) d s (gn g 3))))) S n I L P) := by
  refine q_entry (vs := [some (.ref m), some (.int d), some (.int s)]) (by decide +kernel) (by simp) (Nat.le_of_ble_eq_true rfl) rfl ?_
  have hc : g 3 = nI (gn g 3) := hG.n (by decide) (by decide)
  have hcl : gn g 3 ≤ 10 := hG.2.2.2.2.1
  refine q_iload_n (pc := 0) dX12_holds_0 rfl rfl ?_
  refine q_iconst (pc := 1) (v := nI 0) dX12_holds_1 (by decide) ?_
  refine q_sipush (pc := 2) (v := nI 9999) dX12_holds_2 (by decide) ?_
  refine q_callSF (pc := 5) dX12_holds_5 kX12_69 c_X12_in ⟨Nat.le_of_ble_eq_true rfl, Nat.le_of_ble_eq_true rfl⟩ rfl rfl (Nat.le_of_ble_eq_true rfl) ?_
  show bq_W _ _ _ _ _ 8 _ [_] _ _ _ _ _ _
  refine q_if_eq (pc := 8) 31 dX12_holds_8 (by decide) (fun c_8 => ?_) (fun c_8 => ?_)
  · replace c_8 := bq_nb0.mp c_8
    refine q_bipush (pc := 31) (v := (-2)) dX12_holds_31 (by decide) ?_
    exact q_iret (st := []) (pc := 33) dX12_holds_33 rfl ⟨by first | rw [if_pos (by first | exact Or.inl c_8 | exact Or.inr c_19)] | rw [if_neg (by rintro (q | q); exact c_8 q; exact c_19 q)], rfl, rfl, rfl, rfl, rfl⟩
  · replace c_8 := bq_nbn.mp c_8
    refine q_iload_n (pc := 11) dX12_holds_11 rfl rfl ?_
    refine q_iconst (pc := 12) (v := nI 0) dX12_holds_12 (by decide) ?_
    refine q_sipush (pc := 13) (v := nI 2000) dX12_holds_13 (by decide) ?_
    refine q_callSF (pc := 16) dX12_holds_16 kX12_69 c_X12_in ⟨Nat.le_of_ble_eq_true rfl, Nat.le_of_ble_eq_true rfl⟩ rfl rfl (Nat.le_of_ble_eq_true rfl) ?_
    show bq_W _ _ _ _ _ 19 _ [_] _ _ _ _ _ _
    refine q_if_eq (pc := 19) 31 dX12_holds_19 (by decide) (fun c_19 => ?_) (fun c_19 => ?_)
    · replace c_19 := bq_nb0.mp c_19
      refine q_bipush (pc := 31) (v := (-2)) dX12_holds_31 (by decide) ?_
      exact q_iret (st := []) (pc := 33) dX12_holds_33 rfl ⟨by first | rw [if_pos (by first | exact Or.inl c_8 | exact Or.inr c_19)] | rw [if_neg (by rintro (q | q); exact c_8 q; exact c_19 q)], rfl, rfl, rfl, rfl, rfl⟩
    · replace c_19 := bq_nbn.mp c_19
      refine q_aload_n (pc := 22) dX12_holds_22 rfl rfl ?_
      refine q_iload_n (pc := 23) dX12_holds_23 rfl rfl ?_
      refine q_iload_n (pc := 24) dX12_holds_24 rfl rfl ?_
      refine q_callVF (pc := 25) dX12_holds_25 kX12_128 (c_X12_rateFor hm hg hc hcl) (Model_sh hm) rfl (Model_lt hm) ⟨Nat.le_of_ble_eq_true rfl, Nat.le_of_ble_eq_true rfl⟩ rfl rfl (Nat.le_of_ble_eq_true rfl) ?_
      show bq_W _ _ _ _ _ 28 _ [_] _ _ _ _ _ _
      refine q_goto (pc := 28) 33 dX12_holds_28 (by decide) ?_
      exact q_iret (st := []) (pc := 33) dX12_holds_33 rfl ⟨by first | rw [if_pos (by first | exact Or.inl c_8 | exact Or.inr c_19)] | rw [if_neg (by rintro (q | q); exact c_8 q; exact c_19 q)], rfl, rfl, rfl, rfl, rfl⟩
set_option maxHeartbeats 1240000 in
set_option maxRecDepth 20000 in
theorem c_exc_z {S : BqH} {n : Nat} {I : BqI} {L : BqL} {P : BqP} {m : Nat} {g : BqG} (hm : oModel S n P m) (hg : I (m + 1) = g) {en : Nat} (hG : GI g en) : bq_Sp mX12_excised 3 63 0 0 [.ref m, .int (nI 0)] S n I L P (bq_F (some (.long (paidN g (gn g 2)))) S n I L P) := by
  refine q_entry (vs := [some (.ref m), some (.int (nI 0)), none, none, none]) (by decide +kernel) (by simp) (Nat.le_of_ble_eq_true rfl) rfl ?_
  have hc : g 3 = nI (gn g 3) := hG.n (by decide) (by decide)
  have hcl : gn g 3 ≤ 10 := hG.2.2.2.2.1
  have h2 : I (m + 1) 2 = nI (gn g 2) := by rw [hg]; exact hG.n (by decide) (by decide)
  have h2l : gn g 2 ≤ 10 := hG.2.2.2.1
  have lp : ∀ i, i ≤ (gn g 2) → bq_W mX12_excised 3 63 0 0 5 [some (.ref m), some (.int (nI 0)), some (.long (paidN g i)), none, some (.int (nI i))] [] S n I L P (bq_F (some (.long (paidN g (gn g 2)))) S n I L P) := by
    refine bq_down (A := fun i => bq_W mX12_excised 3 63 0 0 5 [some (.ref m), some (.int (nI 0)), some (.long (paidN g i)), none, some (.int (nI i))] [] S n I L P (bq_F (some (.long (paidN g (gn g 2)))) S n I L P)) (gn g 2) ?_ ?_
    · refine q_iload (pc := 5) dX12_excised_5 rfl ?_
      refine q_aload_n (pc := 7) dX12_excised_7 rfl rfl ?_
      refine q_getP (pc := 8) dX12_excised_8 fX12_9 (Model_sh hm) ⟨by decide, rfl⟩ (Model_lt hm) (Model_p_g hm) ?_
      refine q_iconst (pc := 11) (v := nI 2) dX12_excised_11 (by decide) ?_
      refine q_iald (pc := 12) dX12_excised_12 (oA_sh (Model_s_g hm)) (oA_lt (Model_s_g hm)) rfl (by omega) ?_
      rw [h2]
      refine q_icmp_ge (pc := 13) 80 dX12_excised_13 (by decide) (fun c_13 => ?_) (fun c_13 => absurd (nI_le (Nat.le_refl _) (by omega)) c_13)
      refine q_lload_n (pc := 80) dX12_excised_80 rfl rfl ?_
      exact q_lret (st := []) (pc := 81) dX12_excised_81 rfl ⟨rfl, rfl, rfl, rfl, rfl, rfl⟩
    · intro i hi ih
      refine q_iload (pc := 5) dX12_excised_5 rfl ?_
      refine q_aload_n (pc := 7) dX12_excised_7 rfl rfl ?_
      refine q_getP (pc := 8) dX12_excised_8 fX12_9 (Model_sh hm) ⟨by decide, rfl⟩ (Model_lt hm) (Model_p_g hm) ?_
      refine q_iconst (pc := 11) (v := nI 2) dX12_excised_11 (by decide) ?_
      refine q_iald (pc := 12) dX12_excised_12 (oA_sh (Model_s_g hm)) (oA_lt (Model_s_g hm)) rfl (by omega) ?_
      rw [h2]
      refine q_icmp_ge (pc := 13) 80 dX12_excised_13 (by decide) (fun c_13 => absurd c_13 (nI_ge hi (by omega))) (fun c_13 => ?_)
      refine q_aload_n (pc := 16) dX12_excised_16 rfl rfl ?_
      refine q_iload (pc := 17) dX12_excised_17 rfl ?_
      refine q_iconst (pc := 19) (v := nI 4) dX12_excised_19 (by decide) ?_
      refine q_callVF (pc := 20) dX12_excised_20 kX12_118 (c_oA hm (o := i) (k := 4) (j := 208 + 9 * i) (by omega) (by omega)) (Model_sh hm) rfl (Model_lt hm) ⟨Nat.le_of_ble_eq_true rfl, Nat.le_of_ble_eq_true rfl⟩ rfl rfl (Nat.le_of_ble_eq_true rfl) ?_
      show bq_W _ _ _ _ _ 23 _ [_] _ _ _ _ _ _
      rw [hg]
      refine q_iconst (pc := 23) (v := nI 1) dX12_excised_23 (by decide) ?_
      refine q_icmp_ne (pc := 24) 74 dX12_excised_24 (by decide) (fun c_24 => ?_) (fun c_24 => ?_)
      · refine q_iinc (pc := 74) (v := nI (i + 1)) dX12_excised_74 rfl (bq_inc _) (Nat.le_of_ble_eq_true rfl) rfl ?_
        show bq_W _ _ _ _ _ 77 [_, _, _, _, _] _ _ _ _ _ _ _
        refine q_goto (pc := 77) 5 dX12_excised_77 (by decide) ?_
        rw [show (paidN g (i + 1)) = _ from if_neg c_24] at ih
        exact ih
      · refine q_lload_n (pc := 27) dX12_excised_27 rfl rfl ?_
        refine q_iload_n (pc := 28) dX12_excised_28 rfl rfl ?_
        refine q_if_eq (pc := 29) 64 dX12_excised_29 (by decide) (fun c_29 => ?_) (fun c_29 => (c_29 (by decide)).elim)
        refine q_aload_n (pc := 64) dX12_excised_64 rfl rfl ?_
        refine q_iload (pc := 65) dX12_excised_65 rfl ?_
        refine q_iconst (pc := 67) (v := nI 5) dX12_excised_67 (by decide) ?_
        refine q_callVF (pc := 68) dX12_excised_68 kX12_118 (c_oA hm (o := i) (k := 5) (j := 209 + 9 * i) (by omega) (by omega)) (Model_sh hm) rfl (Model_lt hm) ⟨Nat.le_of_ble_eq_true rfl, Nat.le_of_ble_eq_true rfl⟩ rfl rfl (Nat.le_of_ble_eq_true rfl) ?_
        show bq_W _ _ _ _ _ 71 _ [_, _] _ _ _ _ _ _
        rw [hg]
        refine q_i2l (pc := 71) dX12_excised_71 ?_
        refine q_ladd (pc := 72) dX12_excised_72 ?_
        refine q_lstore_n (pc := 73) dX12_excised_73 rfl (Nat.le_of_ble_eq_true rfl) rfl ?_
        show bq_W _ _ _ _ _ 74 [_, _, _, _, _] _ _ _ _ _ _ _
        refine q_iinc (pc := 74) (v := nI (i + 1)) dX12_excised_74 rfl (bq_inc _) (Nat.le_of_ble_eq_true rfl) rfl ?_
        show bq_W _ _ _ _ _ 77 [_, _, _, _, _] _ _ _ _ _ _ _
        refine q_goto (pc := 77) 5 dX12_excised_77 (by decide) ?_
        rw [show (paidN g (i + 1)) = _ from if_pos c_24] at ih
        exact ih
  refine q_lconst (pc := 0) dX12_excised_0 rfl ?_
  refine q_lstore_n (pc := 1) dX12_excised_1 rfl (Nat.le_of_ble_eq_true rfl) rfl ?_
  show bq_W _ _ _ _ _ 2 [_, _, _, _, _] _ _ _ _ _ _ _
  refine q_iconst (pc := 2) (v := nI 0) dX12_excised_2 (by decide) ?_
  refine q_istore (pc := 3) dX12_excised_3 (Nat.le_of_ble_eq_true rfl) rfl ?_
  show bq_W _ _ _ _ _ 5 [_, _, _, _, _] _ _ _ _ _ _ _
  exact lp 0 (Nat.zero_le _)
set_option maxHeartbeats 1560000 in
set_option maxRecDepth 20000 in
theorem c_exc_o {S : BqH} {n : Nat} {I : BqI} {L : BqL} {P : BqP} {m : Nat} {g : BqG} (hm : oModel S n P m) (hg : I (m + 1) = g) {en : Nat} (hG : GI g en) : bq_Sp mX12_excised 3 63 0 0 [.ref m, .int (nI 1)] S n I L P (bq_F (some (.long (dnm g (gn g 3) (gn g 2)))) S n I L P) := by
  refine q_entry (vs := [some (.ref m), some (.int (nI 1)), none, none, none]) (by decide +kernel) (by simp) (Nat.le_of_ble_eq_true rfl) rfl ?_
  have hc : g 3 = nI (gn g 3) := hG.n (by decide) (by decide)
  have hcl : gn g 3 ≤ 10 := hG.2.2.2.2.1
  have h2 : I (m + 1) 2 = nI (gn g 2) := by rw [hg]; exact hG.n (by decide) (by decide)
  have h2l : gn g 2 ≤ 10 := hG.2.2.2.1
  have lp : ∀ i, i ≤ (gn g 2) → bq_W mX12_excised 3 63 0 0 5 [some (.ref m), some (.int (nI 1)), some (.long (dnm g (gn g 3) i)), none, some (.int (nI i))] [] S n I L P (bq_F (some (.long (dnm g (gn g 3) (gn g 2)))) S n I L P) := by
    refine bq_down (A := fun i => bq_W mX12_excised 3 63 0 0 5 [some (.ref m), some (.int (nI 1)), some (.long (dnm g (gn g 3) i)), none, some (.int (nI i))] [] S n I L P (bq_F (some (.long (dnm g (gn g 3) (gn g 2)))) S n I L P)) (gn g 2) ?_ ?_
    · refine q_iload (pc := 5) dX12_excised_5 rfl ?_
      refine q_aload_n (pc := 7) dX12_excised_7 rfl rfl ?_
      refine q_getP (pc := 8) dX12_excised_8 fX12_9 (Model_sh hm) ⟨by decide, rfl⟩ (Model_lt hm) (Model_p_g hm) ?_
      refine q_iconst (pc := 11) (v := nI 2) dX12_excised_11 (by decide) ?_
      refine q_iald (pc := 12) dX12_excised_12 (oA_sh (Model_s_g hm)) (oA_lt (Model_s_g hm)) rfl (by omega) ?_
      rw [h2]
      refine q_icmp_ge (pc := 13) 80 dX12_excised_13 (by decide) (fun c_13 => ?_) (fun c_13 => absurd (nI_le (Nat.le_refl _) (by omega)) c_13)
      refine q_lload_n (pc := 80) dX12_excised_80 rfl rfl ?_
      exact q_lret (st := []) (pc := 81) dX12_excised_81 rfl ⟨rfl, rfl, rfl, rfl, rfl, rfl⟩
    · intro i hi ih
      refine q_iload (pc := 5) dX12_excised_5 rfl ?_
      refine q_aload_n (pc := 7) dX12_excised_7 rfl rfl ?_
      refine q_getP (pc := 8) dX12_excised_8 fX12_9 (Model_sh hm) ⟨by decide, rfl⟩ (Model_lt hm) (Model_p_g hm) ?_
      refine q_iconst (pc := 11) (v := nI 2) dX12_excised_11 (by decide) ?_
      refine q_iald (pc := 12) dX12_excised_12 (oA_sh (Model_s_g hm)) (oA_lt (Model_s_g hm)) rfl (by omega) ?_
      rw [h2]
      refine q_icmp_ge (pc := 13) 80 dX12_excised_13 (by decide) (fun c_13 => absurd c_13 (nI_ge hi (by omega))) (fun c_13 => ?_)
      refine q_aload_n (pc := 16) dX12_excised_16 rfl rfl ?_
      refine q_iload (pc := 17) dX12_excised_17 rfl ?_
      refine q_iconst (pc := 19) (v := nI 4) dX12_excised_19 (by decide) ?_
      refine q_callVF (pc := 20) dX12_excised_20 kX12_118 (c_oA hm (o := i) (k := 4) (j := 208 + 9 * i) (by omega) (by omega)) (Model_sh hm) rfl (Model_lt hm) ⟨Nat.le_of_ble_eq_true rfl, Nat.le_of_ble_eq_true rfl⟩ rfl rfl (Nat.le_of_ble_eq_true rfl) ?_
      show bq_W _ _ _ _ _ 23 _ [_] _ _ _ _ _ _
      rw [hg]
      refine q_iconst (pc := 23) (v := nI 1) dX12_excised_23 (by decide) ?_
      refine q_icmp_ne (pc := 24) 74 dX12_excised_24 (by decide) (fun c_24 => ?_) (fun c_24 => ?_)
      · refine q_iinc (pc := 74) (v := nI (i + 1)) dX12_excised_74 rfl (bq_inc _) (Nat.le_of_ble_eq_true rfl) rfl ?_
        show bq_W _ _ _ _ _ 77 [_, _, _, _, _] _ _ _ _ _ _ _
        refine q_goto (pc := 77) 5 dX12_excised_77 (by decide) ?_
        rw [show (dnm g (gn g 3) (i + 1)) = _ from if_neg c_24] at ih
        exact ih
      · refine q_lload_n (pc := 27) dX12_excised_27 rfl rfl ?_
        refine q_iload_n (pc := 28) dX12_excised_28 rfl rfl ?_
        refine q_if_eq (pc := 29) 64 dX12_excised_29 (by decide) (fun c_29 => ((absurd c_29 (by decide) : False)).elim) (fun c_29 => ?_)
        refine q_aload_n (pc := 32) dX12_excised_32 rfl rfl ?_
        refine q_aload_n (pc := 33) dX12_excised_33 rfl rfl ?_
        refine q_iload (pc := 34) dX12_excised_34 rfl ?_
        refine q_bipush (pc := 36) (v := nI 6) dX12_excised_36 (by decide) ?_
        refine q_callVF (pc := 38) dX12_excised_38 kX12_118 (c_oA hm (o := i) (k := 6) (j := 210 + 9 * i) (by omega) (by omega)) (Model_sh hm) rfl (Model_lt hm) ⟨Nat.le_of_ble_eq_true rfl, Nat.le_of_ble_eq_true rfl⟩ rfl rfl (Nat.le_of_ble_eq_true rfl) ?_
        show bq_W _ _ _ _ _ 41 _ [_, _, _] _ _ _ _ _ _
        rw [hg]
        refine q_aload_n (pc := 41) dX12_excised_41 rfl rfl ?_
        refine q_iload (pc := 42) dX12_excised_42 rfl ?_
        refine q_bipush (pc := 44) (v := nI 7) dX12_excised_44 (by decide) ?_
        refine q_callVF (pc := 46) dX12_excised_46 kX12_118 (c_oA hm (o := i) (k := 7) (j := 211 + 9 * i) (by omega) (by omega)) (Model_sh hm) rfl (Model_lt hm) ⟨Nat.le_of_ble_eq_true rfl, Nat.le_of_ble_eq_true rfl⟩ rfl rfl (Nat.le_of_ble_eq_true rfl) ?_
        show bq_W _ _ _ _ _ 49 _ [_, _, _, _] _ _ _ _ _ _
        rw [hg]
        refine q_aload_n (pc := 49) dX12_excised_49 rfl rfl ?_
        refine q_iload (pc := 50) dX12_excised_50 rfl ?_
        refine q_bipush (pc := 52) (v := nI 8) dX12_excised_52 (by decide) ?_
        refine q_callVF (pc := 54) dX12_excised_54 kX12_118 (c_oA hm (o := i) (k := 8) (j := 212 + 9 * i) (by omega) (by omega)) (Model_sh hm) rfl (Model_lt hm) ⟨Nat.le_of_ble_eq_true rfl, Nat.le_of_ble_eq_true rfl⟩ rfl rfl (Nat.le_of_ble_eq_true rfl) ?_
        show bq_W _ _ _ _ _ 57 _ [_, _, _, _, _] _ _ _ _ _ _
        rw [hg]
        refine q_callVF (pc := 57) dX12_excised_57 kX12_142 (c_X12_dutyFor hm hg hc hcl) (Model_sh hm) rfl (Model_lt hm) ⟨Nat.le_of_ble_eq_true rfl, Nat.le_of_ble_eq_true rfl⟩ rfl rfl (Nat.le_of_ble_eq_true rfl) ?_
        show bq_W _ _ _ _ _ 60 _ [_, _] _ _ _ _ _ _
        refine q_i2l (pc := 60) dX12_excised_60 ?_
        refine q_goto (pc := 61) 72 dX12_excised_61 (by decide) ?_
        refine q_ladd (pc := 72) dX12_excised_72 ?_
        refine q_lstore_n (pc := 73) dX12_excised_73 rfl (Nat.le_of_ble_eq_true rfl) rfl ?_
        show bq_W _ _ _ _ _ 74 [_, _, _, _, _] _ _ _ _ _ _ _
        refine q_iinc (pc := 74) (v := nI (i + 1)) dX12_excised_74 rfl (bq_inc _) (Nat.le_of_ble_eq_true rfl) rfl ?_
        show bq_W _ _ _ _ _ 77 [_, _, _, _, _] _ _ _ _ _ _ _
        refine q_goto (pc := 77) 5 dX12_excised_77 (by decide) ?_
        rw [show (dnm g (gn g 3) (i + 1)) = _ from if_pos c_24] at ih
        exact ih
  refine q_lconst (pc := 0) dX12_excised_0 rfl ?_
  refine q_lstore_n (pc := 1) dX12_excised_1 rfl (Nat.le_of_ble_eq_true rfl) rfl ?_
  show bq_W _ _ _ _ _ 2 [_, _, _, _, _] _ _ _ _ _ _ _
  refine q_iconst (pc := 2) (v := nI 0) dX12_excised_2 (by decide) ?_
  refine q_istore (pc := 3) dX12_excised_3 (Nat.le_of_ble_eq_true rfl) rfl ?_
  show bq_W _ _ _ _ _ 5 [_, _, _, _, _] _ _ _ _ _ _ _
  exact lp 0 (Nat.zero_le _)
set_option maxHeartbeats 1140000 in
set_option maxRecDepth 20000 in
theorem o_excise {S : BqH} {n : Nat} {I : BqI} {L : BqL} {P : BqP} {m : Nat} {g : BqG} (hm : oModel S n P m) (hg : I (m + 1) = g) {en : Nat} (hG : GI g en) {k : Int32} : bq_Sp mX12_excise 4 87 0 0 [.ref m, .int k] S n I L P (bq_F (some (.long (r_excise g k))) S n I L P) := by
  refine q_entry (vs := [some (.ref m), some (.int k), none, none]) (by decide +kernel) (by simp) (Nat.le_of_ble_eq_true rfl) rfl ?_
  refine q_iload_n (pc := 0) dX12_excise_0 rfl rfl ?_
  refine q_iconst (pc := 1) (v := nI 0) dX12_excise_1 (by decide) ?_
  refine q_iconst (pc := 2) (v := nI 3) dX12_excise_2 (by decide) ?_
  refine q_callSF (pc := 3) dX12_excise_3 kX12_69 c_X12_in ⟨Nat.le_of_ble_eq_true rfl, Nat.le_of_ble_eq_true rfl⟩ rfl rfl (Nat.le_of_ble_eq_true rfl) ?_
  show bq_W _ _ _ _ _ 6 _ [_] _ _ _ _ _ _
  refine q_if_ne (pc := 6) 13 dX12_excise_6 (by decide) (fun c_6 => ?_) (fun c_6 => ?_)
  · replace c_6 := bq_nbn.mp c_6
    refine q_aload_n (pc := 13) dX12_excise_13 rfl rfl ?_
    refine q_iconst (pc := 14) (v := nI 1) dX12_excise_14 (by decide) ?_
    refine q_callVF (pc := 15) dX12_excise_15 kX12_235 (c_exc_o hm hg hG) (Model_sh hm) rfl (Model_lt hm) ⟨Nat.le_of_ble_eq_true rfl, Nat.le_of_ble_eq_true rfl⟩ rfl rfl (Nat.le_of_ble_eq_true rfl) ?_
    show bq_W _ _ _ _ _ 18 _ [_] _ _ _ _ _ _
    refine q_aload_n (pc := 18) dX12_excise_18 rfl rfl ?_
    refine q_iconst (pc := 19) (v := nI 0) dX12_excise_19 (by decide) ?_
    refine q_callVF (pc := 20) dX12_excise_20 kX12_235 (c_exc_z hm hg hG) (Model_sh hm) rfl (Model_lt hm) ⟨Nat.le_of_ble_eq_true rfl, Nat.le_of_ble_eq_true rfl⟩ rfl rfl (Nat.le_of_ble_eq_true rfl) ?_
    show bq_W _ _ _ _ _ 23 _ [_, _] _ _ _ _ _ _
    refine q_lsub (pc := 23) dX12_excise_23 ?_
    refine q_aload_n (pc := 24) dX12_excise_24 rfl rfl ?_
    refine q_getP (pc := 25) dX12_excise_25 fX12_9 (Model_sh hm) ⟨by decide, rfl⟩ (Model_lt hm) (Model_p_g hm) ?_
    refine q_bipush (pc := 28) (v := nI 6) dX12_excise_28 (by decide) ?_
    refine q_iald (pc := 30) dX12_excise_30 (oA_sh (Model_s_g hm)) (oA_lt (Model_s_g hm)) rfl (by omega) ?_
    refine q_i2l (pc := 31) dX12_excise_31 ?_
    refine q_lsub (pc := 32) dX12_excise_32 ?_
    refine q_lstore_n (pc := 33) dX12_excise_33 rfl (Nat.le_of_ble_eq_true rfl) rfl ?_
    show bq_W _ _ _ _ _ 34 [_, _, _, _] _ _ _ _ _ _ _
    refine q_iload_n (pc := 34) dX12_excise_34 rfl rfl ?_
    refine q_if_ne (pc := 35) 46 dX12_excise_35 (by decide) (fun c_35 => ?_) (fun c_35 => ?_)
    · refine q_iload_n (pc := 46) dX12_excise_46 rfl rfl ?_
      refine q_iconst (pc := 47) (v := nI 1) dX12_excise_47 (by decide) ?_
      refine q_icmp_ne (pc := 48) 59 dX12_excise_48 (by decide) (fun c_48 => ?_) (fun c_48 => ?_)
      · refine q_iload_n (pc := 59) dX12_excise_59 rfl rfl ?_
        refine q_iconst (pc := 60) (v := nI 2) dX12_excise_60 (by decide) ?_
        refine q_icmp_ne (pc := 61) 75 dX12_excise_61 (by decide) (fun c_61 => ?_) (fun c_61 => ?_)
        · refine q_lload_n (pc := 75) dX12_excise_75 rfl rfl ?_
          exact q_lret (st := []) (pc := 76) dX12_excise_76 rfl ⟨by first | (rw [hg]; unfold r_excise; rw [if_neg (show ¬ k = nI 0 from c_35), if_neg c_48, if_neg c_61, if_pos (k_3 c_6 (show ¬ k = nI 0 from c_35) c_48 c_61)]; rfl) | (rw [hg]; unfold r_excise; rw [if_neg (show ¬ k = nI 0 from c_35), if_neg c_48, if_pos c_61]) | (unfold r_excise; rw [if_neg (show ¬ k = nI 0 from c_35), if_pos c_48]) | (unfold r_excise; rw [if_pos (show k = nI 0 from c_35)]), rfl, rfl, rfl, rfl, rfl⟩
        · refine q_aload_n (pc := 64) dX12_excise_64 rfl rfl ?_
          refine q_getP (pc := 65) dX12_excise_65 fX12_9 (Model_sh hm) ⟨by decide, rfl⟩ (Model_lt hm) (Model_p_g hm) ?_
          refine q_bipush (pc := 68) (v := nI 6) dX12_excise_68 (by decide) ?_
          refine q_iald (pc := 70) dX12_excise_70 (oA_sh (Model_s_g hm)) (oA_lt (Model_s_g hm)) rfl (by omega) ?_
          refine q_i2l (pc := 71) dX12_excise_71 ?_
          refine q_goto (pc := 72) 76 dX12_excise_72 (by decide) ?_
          exact q_lret (st := []) (pc := 76) dX12_excise_76 rfl ⟨by first | (rw [hg]; unfold r_excise; rw [if_neg (show ¬ k = nI 0 from c_35), if_neg c_48, if_neg c_61, if_pos (k_3 c_6 (show ¬ k = nI 0 from c_35) c_48 c_61)]; rfl) | (rw [hg]; unfold r_excise; rw [if_neg (show ¬ k = nI 0 from c_35), if_neg c_48, if_pos c_61]) | (unfold r_excise; rw [if_neg (show ¬ k = nI 0 from c_35), if_pos c_48]) | (unfold r_excise; rw [if_pos (show k = nI 0 from c_35)]), rfl, rfl, rfl, rfl, rfl⟩
      · refine q_aload_n (pc := 51) dX12_excise_51 rfl rfl ?_
        refine q_iconst (pc := 52) (v := nI 1) dX12_excise_52 (by decide) ?_
        refine q_callVF (pc := 53) dX12_excise_53 kX12_235 (c_exc_o hm hg hG) (Model_sh hm) rfl (Model_lt hm) ⟨Nat.le_of_ble_eq_true rfl, Nat.le_of_ble_eq_true rfl⟩ rfl rfl (Nat.le_of_ble_eq_true rfl) ?_
        show bq_W _ _ _ _ _ 56 _ [_] _ _ _ _ _ _
        refine q_goto (pc := 56) 76 dX12_excise_56 (by decide) ?_
        exact q_lret (st := []) (pc := 76) dX12_excise_76 rfl ⟨by first | (rw [hg]; unfold r_excise; rw [if_neg (show ¬ k = nI 0 from c_35), if_neg c_48, if_neg c_61, if_pos (k_3 c_6 (show ¬ k = nI 0 from c_35) c_48 c_61)]; rfl) | (rw [hg]; unfold r_excise; rw [if_neg (show ¬ k = nI 0 from c_35), if_neg c_48, if_pos c_61]) | (unfold r_excise; rw [if_neg (show ¬ k = nI 0 from c_35), if_pos c_48]) | (unfold r_excise; rw [if_pos (show k = nI 0 from c_35)]), rfl, rfl, rfl, rfl, rfl⟩
    · refine q_aload_n (pc := 38) dX12_excise_38 rfl rfl ?_
      refine q_iconst (pc := 39) (v := nI 0) dX12_excise_39 (by decide) ?_
      refine q_callVF (pc := 40) dX12_excise_40 kX12_235 (c_exc_z hm hg hG) (Model_sh hm) rfl (Model_lt hm) ⟨Nat.le_of_ble_eq_true rfl, Nat.le_of_ble_eq_true rfl⟩ rfl rfl (Nat.le_of_ble_eq_true rfl) ?_
      show bq_W _ _ _ _ _ 43 _ [_] _ _ _ _ _ _
      refine q_goto (pc := 43) 76 dX12_excise_43 (by decide) ?_
      exact q_lret (st := []) (pc := 76) dX12_excise_76 rfl ⟨by first | (rw [hg]; unfold r_excise; rw [if_neg (show ¬ k = nI 0 from c_35), if_neg c_48, if_neg c_61, if_pos (k_3 c_6 (show ¬ k = nI 0 from c_35) c_48 c_61)]; rfl) | (rw [hg]; unfold r_excise; rw [if_neg (show ¬ k = nI 0 from c_35), if_neg c_48, if_pos c_61]) | (unfold r_excise; rw [if_neg (show ¬ k = nI 0 from c_35), if_pos c_48]) | (unfold r_excise; rw [if_pos (show k = nI 0 from c_35)]), rfl, rfl, rfl, rfl, rfl⟩
  · replace c_6 := bq_nb0.mp c_6
    refine q_ldc2 (pc := 9) dX12_excise_9 lX12_233 ?_
    exact q_lret (st := []) (pc := 12) dX12_excise_12 rfl ⟨by rw [r_excise_out c_6], rfl, rfl, rfl, rfl, rfl⟩
set_option maxHeartbeats 1000000 in
set_option maxRecDepth 20000 in
theorem o_correct {S : BqH} {n : Nat} {I : BqI} {L : BqL} {P : BqP} {m ch : Nat} {h : Nat → BqG} {g : BqG} (hm : oModel S n P m) (hH : MH m I h ch) (hg : I (m + 1) = g) {en : Nat} (hG : GI g en) (hen : en < 2 ^ 29) (hq : I m 6 = nI 0) : bq_Sp mX12_correct 5 110 0 0 [.ref m] S n I L P (qMo m I S n L P (p_corr g h ch (I m 7))) := by
  refine q_entry (vs := [some (.ref m), none]) (by decide +kernel) (by simp) (Nat.le_of_ble_eq_true rfl) rfl ?_
  have T0 := MSt.mk hH hg
  have hq1 : 0 ≤ 1 := by decide
  refine q_aload_n (pc := 0) dX12_correct_0 rfl rfl ?_
  refine q_callV (pc := 1) dX12_correct_1 kX12_102 (c_rem hm hH hg hq hq1) (Model_sh hm) rfl (Model_lt hm) ⟨Nat.le_of_ble_eq_true rfl, Nat.le_of_ble_eq_true rfl⟩ rfl rfl (Nat.le_of_ble_eq_true rfl) ?_
  rintro _ S1 n1 I1 L1 P1 ⟨rfl, eS1, en1, eL1, eP1, H1, f1, f2⟩
  subst S1 n1 L1 P1
  show bq_W _ _ _ _ _ 4 _ [] _ _ _ _ _ _
  have T1 := T0.rem H1 f1 f2
  have hg1 := T1.1
  refine q_aload_n (pc := 4) dX12_correct_4 rfl rfl ?_
  refine q_iconst (pc := 5) (v := nI 3) dX12_correct_5 (by decide) ?_
  refine q_callVF (pc := 6) dX12_correct_6 kX12_239 (o_excise hm hg1 hG) (Model_sh hm) rfl (Model_lt hm) ⟨Nat.le_of_ble_eq_true rfl, Nat.le_of_ble_eq_true rfl⟩ rfl rfl (Nat.le_of_ble_eq_true rfl) ?_
  show bq_W _ _ _ _ _ 9 _ [_] _ _ _ _ _ _
  rw [show r_excise g (nI 3) = due g from by unfold r_excise; rw [if_neg (by decide), if_neg (by decide), if_neg (by decide), if_pos rfl]]
  refine q_l2i (pc := 9) dX12_correct_9 ?_
  refine q_istore_n (pc := 10) dX12_correct_10 rfl (Nat.le_of_ble_eq_true rfl) rfl ?_
  show bq_W _ _ _ _ _ 11 [_, _] _ _ _ _ _ _ _
  refine q_aload_n (pc := 11) dX12_correct_11 rfl rfl ?_
  refine q_getP (pc := 12) dX12_correct_12 fX12_9 (Model_sh hm) ⟨by decide, rfl⟩ (Model_lt hm) (Model_p_g hm) ?_
  refine q_bipush (pc := 15) (v := nI 6) dX12_correct_15 (by decide) ?_
  refine q_dup2 (pc := 17) dX12_correct_17 rfl rfl ?_
  refine q_iald (pc := 18) dX12_correct_18 (oA_sh (Model_s_g hm)) (oA_lt (Model_s_g hm)) rfl (by omega) ?_
  rw [hg1]
  refine q_iload_n (pc := 19) dX12_correct_19 rfl rfl ?_
  refine q_iadd (pc := 20) dX12_correct_20 ?_
  refine q_iast (pc := 21) dX12_correct_21 (oA_sh (Model_s_g hm)) (oA_lt (Model_s_g hm)) rfl (by omega) ?_
  refine q_iload_n (pc := 22) dX12_correct_22 rfl rfl ?_
  refine q_if_le (pc := 23) 30 dX12_correct_23 (by decide) (fun c_23 => ?_) (fun c_23 => ?_)
  · refine q_iload_n (pc := 30) dX12_correct_30 rfl rfl ?_
    refine q_if_ne (pc := 31) 38 dX12_correct_31 (by decide) (fun c_31 => ?_) (fun c_31 => ?_)
    · refine q_iconst (pc := 38) (v := nI 2) dX12_correct_38 (by decide) ?_
      exact q_iret (st := []) (pc := 39) dX12_correct_39 rfl (qMo.mk (T1.u rfl _) (by unfold p_corr; rw [chg_rem]; first | (rw [if_neg c_23]; rfl) | (rw [if_pos c_23, if_pos c_31]; rfl) | (rw [if_pos c_23, if_neg c_31]; rfl)))
    · refine q_iconst (pc := 34) (v := nI 0) dX12_correct_34 (by decide) ?_
      refine q_goto (pc := 35) 39 dX12_correct_35 (by decide) ?_
      exact q_iret (st := []) (pc := 39) dX12_correct_39 rfl (qMo.mk (T1.u rfl _) (by unfold p_corr; rw [chg_rem]; first | (rw [if_neg c_23]; rfl) | (rw [if_pos c_23, if_pos c_31]; rfl) | (rw [if_pos c_23, if_neg c_31]; rfl)))
  · refine q_iconst (pc := 26) (v := nI 1) dX12_correct_26 (by decide) ?_
    refine q_goto (pc := 27) 39 dX12_correct_27 (by decide) ?_
    exact q_iret (st := []) (pc := 39) dX12_correct_39 rfl (qMo.mk (T1.u rfl _) (by unfold p_corr; rw [chg_rem]; first | (rw [if_neg c_23]; rfl) | (rw [if_pos c_23, if_pos c_31]; rfl) | (rw [if_pos c_23, if_neg c_31]; rfl)))
set_option maxHeartbeats 1080000 in
set_option maxRecDepth 20000 in
theorem o_entry {S : BqH} {n : Nat} {I : BqI} {L : BqL} {P : BqP} {m : Nat} {g : BqG} (hm : oModel S n P m) (hg : I (m + 1) = g) {en : Nat} (hG : GI g en) (hen : en < 2 ^ 29) {i k : Int32} : bq_Sp mX12_entry 2 34 0 0 [.ref m, .int i, .int k] S n I L P (bq_F (some (.int (r_entry g i k))) S n I L P) := by
  refine q_entry (vs := [some (.ref m), some (.int i), some (.int k)]) (by decide +kernel) (by simp) (Nat.le_of_ble_eq_true rfl) rfl ?_
  have h5 : I (m + 1) 5 = nI (gn g 5) := by rw [hg]; exact hG.n (by decide) (by decide)
  have hm5 : gn g 5 ≤ en := hG.2.2.2.2.2.2.1
  refine q_iload_n (pc := 0) dX12_entry_0 rfl rfl ?_
  refine q_iconst (pc := 1) (v := (-1)) dX12_entry_1 (by decide) ?_
  refine q_icmp_ne (pc := 2) 12 dX12_entry_2 (by decide) (fun c_2 => ?_) (fun c_2 => ?_)
  · refine q_iload_n (pc := 12) dX12_entry_12 rfl rfl ?_
    refine q_iconst (pc := 13) (v := nI 0) dX12_entry_13 (by decide) ?_
    refine q_aload_n (pc := 14) dX12_entry_14 rfl rfl ?_
    refine q_getP (pc := 15) dX12_entry_15 fX12_9 (Model_sh hm) ⟨by decide, rfl⟩ (Model_lt hm) (Model_p_g hm) ?_
    refine q_iconst (pc := 18) (v := nI 5) dX12_entry_18 (by decide) ?_
    refine q_iald (pc := 19) dX12_entry_19 (oA_sh (Model_s_g hm)) (oA_lt (Model_s_g hm)) rfl (by omega) ?_
    rw [h5]
    refine q_bipush (pc := 20) (v := nI 80) dX12_entry_20 (by decide) ?_
    refine q_min (pc := 22) dX12_entry_22 kX12_220 ⟨Nat.le_of_ble_eq_true rfl, Nat.le_of_ble_eq_true rfl⟩ ?_
    rw [e_min (by omega)]
    refine q_iconst (pc := 25) (v := nI 1) dX12_entry_25 (by decide) ?_
    refine q_isub (pc := 26) dX12_entry_26 ?_
    refine q_callSF (pc := 27) dX12_entry_27 kX12_69 c_X12_in ⟨Nat.le_of_ble_eq_true rfl, Nat.le_of_ble_eq_true rfl⟩ rfl rfl (Nat.le_of_ble_eq_true rfl) ?_
    show bq_W _ _ _ _ _ 30 _ [_] _ _ _ _ _ _
    refine q_if_eq (pc := 30) 59 dX12_entry_30 (by decide) (fun c_30 => ?_) (fun c_30 => ?_)
    · replace c_30 := bq_nb0.mp c_30
      refine q_iconst (pc := 59) (v := (-1)) dX12_entry_59 (by decide) ?_
      exact q_iret (st := []) (pc := 60) dX12_entry_60 rfl ⟨by first | (rw [hg, r_entry_in hG hen hi hi8 (by omega)]) | (rw [r_entry_k c_2 c_39]) | (rw [r_entry_out c_2 ((e_cases hG hen i).resolve_right (fun ⟨q, z1, z2, z3⟩ => e_nout hen hm5 z1 z2 (z3 ▸ c_30)))]), rfl, rfl, rfl, rfl, rfl⟩
    · replace c_30 := bq_nbn.mp c_30
      obtain ⟨i, hi, hi8, rfl⟩ := (e_cases hG hen i).resolve_left (fun z => c_30 (e_out hG hen z))
      refine q_iload_n (pc := 33) dX12_entry_33 rfl rfl ?_
      refine q_iconst (pc := 34) (v := nI 0) dX12_entry_34 (by decide) ?_
      refine q_iconst (pc := 35) (v := nI 3) dX12_entry_35 (by decide) ?_
      refine q_callSF (pc := 36) dX12_entry_36 kX12_69 c_X12_in ⟨Nat.le_of_ble_eq_true rfl, Nat.le_of_ble_eq_true rfl⟩ rfl rfl (Nat.le_of_ble_eq_true rfl) ?_
      show bq_W _ _ _ _ _ 39 _ [_] _ _ _ _ _ _
      refine q_if_eq (pc := 39) 59 dX12_entry_39 (by decide) (fun c_39 => ?_) (fun c_39 => ?_)
      · replace c_39 := bq_nb0.mp c_39
        refine q_iconst (pc := 59) (v := (-1)) dX12_entry_59 (by decide) ?_
        exact q_iret (st := []) (pc := 60) dX12_entry_60 rfl ⟨by first | (rw [hg, r_entry_in hG hen hi hi8 (by omega)]) | (rw [r_entry_k c_2 c_39]) | (rw [r_entry_out c_2 ((e_cases hG hen i).resolve_right (fun ⟨q, z1, z2, z3⟩ => e_nout hen hm5 z1 z2 (z3 ▸ c_30)))]), rfl, rfl, rfl, rfl, rfl⟩
      · replace c_39 := bq_nbn.mp c_39
        obtain ⟨k, hk, rfl⟩ := (bq_in5 k 3 (by decide)).resolve_left c_39
        refine q_aload_n (pc := 42) dX12_entry_42 rfl rfl ?_
        refine q_getP (pc := 43) dX12_entry_43 fX12_9 (Model_sh hm) ⟨by decide, rfl⟩ (Model_lt hm) (Model_p_g hm) ?_
        refine q_sipush (pc := 46) (v := nI 330) dX12_entry_46 (by decide) ?_
        refine q_iconst (pc := 49) (v := nI 4) dX12_entry_49 (by decide) ?_
        refine q_iload_n (pc := 50) dX12_entry_50 rfl rfl ?_
        refine q_imulN (pc := 51) dX12_entry_51 ?_
        refine q_iaddN (pc := 52) dX12_entry_52 ?_
        refine q_iload_n (pc := 53) dX12_entry_53 rfl rfl ?_
        refine q_iaddN (pc := 54) dX12_entry_54 ?_
        refine q_iald (pc := 55) dX12_entry_55 (oA_sh (Model_s_g hm)) (oA_lt (Model_s_g hm)) rfl (by omega) ?_
        refine q_goto (pc := 56) 60 dX12_entry_56 (by decide) ?_
        exact q_iret (st := []) (pc := 60) dX12_entry_60 rfl ⟨by first | (rw [hg, r_entry_in hG hen hi hi8 (by omega)]) | (rw [r_entry_k c_2 c_39]) | (rw [r_entry_out c_2 ((e_cases hG hen i).resolve_right (fun ⟨q, z1, z2, z3⟩ => e_nout hen hm5 z1 z2 (z3 ▸ c_30)))]), rfl, rfl, rfl, rfl, rfl⟩
  · refine q_aload_n (pc := 5) dX12_entry_5 rfl rfl ?_
    refine q_getP (pc := 6) dX12_entry_6 fX12_9 (Model_sh hm) ⟨by decide, rfl⟩ (Model_lt hm) (Model_p_g hm) ?_
    refine q_iconst (pc := 9) (v := nI 5) dX12_entry_9 (by decide) ?_
    refine q_iald (pc := 10) dX12_entry_10 (oA_sh (Model_s_g hm)) (oA_lt (Model_s_g hm)) rfl (by omega) ?_
    exact q_iret (st := []) (pc := 11) dX12_entry_11 rfl ⟨by rw [c_2, hg]; rfl, rfl, rfl, rfl, rfl, rfl⟩
set_option maxHeartbeats 2120000 in
set_option maxRecDepth 20000 in
theorem o_count {S : BqH} {n : Nat} {I : BqI} {L : BqL} {P : BqP} {m : Nat} {g : BqG} (hm : oModel S n P m) (hg : I (m + 1) = g) {en : Nat} (hG : GI g en) {ch : Nat} (hch : I m 2 = nI ch) {k : Int32} : bq_Sp mX12_count 2 34 0 0 [.ref m, .int k] S n I L P (bq_F (some (.int (r_count g (I m 9) ch k))) S n I L P) := by
  refine q_entry (vs := [some (.ref m), some (.int k), none, none]) (by decide +kernel) (by simp) (Nat.le_of_ble_eq_true rfl) rfl ?_
  refine q_iload_n (pc := 0) dX12_count_0 rfl rfl ?_
  refine q_bipush (pc := 1) (v := nI 10) dX12_count_1 (by decide) ?_
  refine q_bipush (pc := 3) (v := nI 13) dX12_count_3 (by decide) ?_
  refine q_callSF (pc := 5) dX12_count_5 kX12_69 c_X12_in ⟨Nat.le_of_ble_eq_true rfl, Nat.le_of_ble_eq_true rfl⟩ rfl rfl (Nat.le_of_ble_eq_true rfl) ?_
  show bq_W _ _ _ _ _ 8 _ [_] _ _ _ _ _ _
  refine q_if_eq (pc := 8) 50 dX12_count_8 (by decide) (fun c_8 => ?_) (fun c_8 => ?_)
  · replace c_8 := bq_nb0.mp c_8
    refine q_iload_n (pc := 50) dX12_count_50 rfl rfl ?_
    by_cases s51_0 : k = nI 0
    · refine q_tableIn (pc := 51) (off := 41) 92 dX12_count_51 (by rw [s51_0]; decide) (by rw [s51_0]; decide) (by rw [s51_0]; rfl) (by decide) ?_
      refine q_aload_n (pc := 92) dX12_count_92 rfl rfl ?_
      refine q_getP (pc := 93) dX12_count_93 fX12_9 (Model_sh hm) ⟨by decide, rfl⟩ (Model_lt hm) (Model_p_g hm) ?_
      refine q_iconst (pc := 96) (v := nI 0) dX12_count_96 (by decide) ?_
      refine q_iald (pc := 97) dX12_count_97 (oA_sh (Model_s_g hm)) (oA_lt (Model_s_g hm)) rfl (by omega) ?_
      exact q_iret (st := []) (pc := 98) dX12_count_98 rfl ⟨by unfold r_count; rw [if_neg (not_not_intro c_8), if_pos s51_0, hg], rfl, rfl, rfl, rfl, rfl⟩
    by_cases s51_1 : k = nI 1
    · refine q_tableIn (pc := 51) (off := 48) 99 dX12_count_51 (by rw [s51_1]; decide) (by rw [s51_1]; decide) (by rw [s51_1]; rfl) (by decide) ?_
      refine q_aload_n (pc := 99) dX12_count_99 rfl rfl ?_
      refine q_getP (pc := 100) dX12_count_100 fX12_9 (Model_sh hm) ⟨by decide, rfl⟩ (Model_lt hm) (Model_p_g hm) ?_
      refine q_iconst (pc := 103) (v := nI 1) dX12_count_103 (by decide) ?_
      refine q_iald (pc := 104) dX12_count_104 (oA_sh (Model_s_g hm)) (oA_lt (Model_s_g hm)) rfl (by omega) ?_
      exact q_iret (st := []) (pc := 105) dX12_count_105 rfl ⟨by unfold r_count; rw [if_neg (not_not_intro c_8), if_neg s51_0, if_pos s51_1, hg], rfl, rfl, rfl, rfl, rfl⟩
    by_cases s51_2 : k = nI 2
    · refine q_tableIn (pc := 51) (off := 55) 106 dX12_count_51 (by rw [s51_2]; decide) (by rw [s51_2]; decide) (by rw [s51_2]; rfl) (by decide) ?_
      refine q_aload_n (pc := 106) dX12_count_106 rfl rfl ?_
      refine q_getP (pc := 107) dX12_count_107 fX12_9 (Model_sh hm) ⟨by decide, rfl⟩ (Model_lt hm) (Model_p_g hm) ?_
      refine q_iconst (pc := 110) (v := nI 2) dX12_count_110 (by decide) ?_
      refine q_iald (pc := 111) dX12_count_111 (oA_sh (Model_s_g hm)) (oA_lt (Model_s_g hm)) rfl (by omega) ?_
      exact q_iret (st := []) (pc := 112) dX12_count_112 rfl ⟨by unfold r_count; rw [if_neg (not_not_intro c_8), if_neg s51_0, if_neg s51_1, if_pos s51_2, hg], rfl, rfl, rfl, rfl, rfl⟩
    by_cases s51_3 : k = nI 3
    · refine q_tableIn (pc := 51) (off := 62) 113 dX12_count_51 (by rw [s51_3]; decide) (by rw [s51_3]; decide) (by rw [s51_3]; rfl) (by decide) ?_
      refine q_aload_n (pc := 113) dX12_count_113 rfl rfl ?_
      refine q_getP (pc := 114) dX12_count_114 fX12_9 (Model_sh hm) ⟨by decide, rfl⟩ (Model_lt hm) (Model_p_g hm) ?_
      refine q_iconst (pc := 117) (v := nI 3) dX12_count_117 (by decide) ?_
      refine q_iald (pc := 118) dX12_count_118 (oA_sh (Model_s_g hm)) (oA_lt (Model_s_g hm)) rfl (by omega) ?_
      exact q_iret (st := []) (pc := 119) dX12_count_119 rfl ⟨by unfold r_count; rw [if_neg (not_not_intro c_8), if_neg s51_0, if_neg s51_1, if_neg s51_2, if_pos s51_3, hg], rfl, rfl, rfl, rfl, rfl⟩
    by_cases s51_4 : k = nI 4
    · refine q_tableIn (pc := 51) (off := 69) 120 dX12_count_51 (by rw [s51_4]; decide) (by rw [s51_4]; decide) (by rw [s51_4]; rfl) (by decide) ?_
      refine q_aload_n (pc := 120) dX12_count_120 rfl rfl ?_
      refine q_getI (pc := 121) dX12_count_121 fX12_175 (Model_sh hm) ⟨by decide, rfl⟩ (Model_lt hm) ?_
      exact q_iret (st := []) (pc := 124) dX12_count_124 rfl ⟨by unfold r_count; rw [if_neg (not_not_intro c_8), if_neg s51_0, if_neg s51_1, if_neg s51_2, if_neg s51_3, if_pos s51_4], rfl, rfl, rfl, rfl, rfl⟩
    by_cases s51_5 : k = nI 5
    · refine q_tableIn (pc := 51) (off := 74) 125 dX12_count_51 (by rw [s51_5]; decide) (by rw [s51_5]; decide) (by rw [s51_5]; rfl) (by decide) ?_
      refine q_aload_n (pc := 125) dX12_count_125 rfl rfl ?_
      refine q_getI (pc := 126) dX12_count_126 fX12_54 (Model_sh hm) ⟨by decide, rfl⟩ (Model_lt hm) ?_
      exact q_iret (st := []) (pc := 129) dX12_count_129 rfl ⟨by unfold r_count; rw [if_neg (not_not_intro c_8), if_neg s51_0, if_neg s51_1, if_neg s51_2, if_neg s51_3, if_neg s51_4, if_pos s51_5, hch], rfl, rfl, rfl, rfl, rfl⟩
    by_cases s51_6 : k = nI 6
    · refine q_tableIn (pc := 51) (off := 79) 130 dX12_count_51 (by rw [s51_6]; decide) (by rw [s51_6]; decide) (by rw [s51_6]; rfl) (by decide) ?_
      refine q_aload_n (pc := 130) dX12_count_130 rfl rfl ?_
      refine q_getP (pc := 131) dX12_count_131 fX12_9 (Model_sh hm) ⟨by decide, rfl⟩ (Model_lt hm) (Model_p_g hm) ?_
      refine q_iconst (pc := 134) (v := nI 4) dX12_count_134 (by decide) ?_
      refine q_iald (pc := 135) dX12_count_135 (oA_sh (Model_s_g hm)) (oA_lt (Model_s_g hm)) rfl (by omega) ?_
      exact q_iret (st := []) (pc := 136) dX12_count_136 rfl ⟨by unfold r_count; rw [if_neg (not_not_intro c_8), if_neg s51_0, if_neg s51_1, if_neg s51_2, if_neg s51_3, if_neg s51_4, if_neg s51_5, if_pos s51_6, hg], rfl, rfl, rfl, rfl, rfl⟩
    refine q_tableOut (pc := 51) 137 dX12_count_51 (bq_out 6 (by decide) (fun j hj => match j, hj with | 0, _ => s51_0 | 1, _ => s51_1 | 2, _ => s51_2 | 3, _ => s51_3 | 4, _ => s51_4 | 5, _ => s51_5 | 6, _ => s51_6 | j + 7, hj => absurd hj (by omega))) (by decide) ?_
    refine q_iconst (pc := 137) (v := (-1)) dX12_count_137 (by decide) ?_
    exact q_iret (st := []) (pc := 138) dX12_count_138 rfl ⟨by unfold r_count; rw [if_neg (not_not_intro c_8), if_neg s51_0, if_neg s51_1, if_neg s51_2, if_neg s51_3, if_neg s51_4, if_neg s51_5, if_neg s51_6], rfl, rfl, rfl, rfl, rfl⟩
  · replace c_8 := bq_nbn.mp c_8
    refine q_iconst (pc := 11) (v := nI 0) dX12_count_11 (by decide) ?_
    refine q_istore_n (pc := 12) dX12_count_12 rfl (Nat.le_of_ble_eq_true rfl) rfl ?_
    show bq_W _ _ _ _ _ 13 [_, _, _, _] _ _ _ _ _ _ _
    refine q_iconst (pc := 13) (v := nI 0) dX12_count_13 (by decide) ?_
    refine q_istore_n (pc := 14) dX12_count_14 rfl (Nat.le_of_ble_eq_true rfl) rfl ?_
    show bq_W _ _ _ _ _ 15 [_, _, _, _] _ _ _ _ _ _ _
    have lp : ∀ i, i ≤ 6 → bq_W mX12_count 2 34 0 0 15 [some (.ref m), some (.int k), some (.int (nI (bq_ct (fun i => g (11 + 19 * i)) (k - nI 10) i))), some (.int (nI i))] [] S n I L P (bq_F (some (.int (r_count g (I m 9) ch k))) S n I L P) := by
      refine bq_down (A := fun i => bq_W mX12_count 2 34 0 0 15 [some (.ref m), some (.int k), some (.int (nI (bq_ct (fun i => g (11 + 19 * i)) (k - nI 10) i))), some (.int (nI i))] [] S n I L P (bq_F (some (.int (r_count g (I m 9) ch k))) S n I L P)) 6 ?_ ?_
      · refine q_iload_n (pc := 15) dX12_count_15 rfl rfl ?_
        refine q_bipush (pc := 16) (v := nI 6) dX12_count_16 (by decide) ?_
        refine q_icmp_ge (pc := 18) 48 dX12_count_18 (by decide) (fun c_18 => ?_) (fun c_18 => absurd (by decide) c_18)
        refine q_iload_n (pc := 48) dX12_count_48 rfl rfl ?_
        exact q_iret (st := []) (pc := 49) dX12_count_49 rfl ⟨by unfold r_count; rw [if_pos c_8], rfl, rfl, rfl, rfl, rfl⟩
      · intro i hi ih
        refine q_iload_n (pc := 15) dX12_count_15 rfl rfl ?_
        refine q_bipush (pc := 16) (v := nI 6) dX12_count_16 (by decide) ?_
        refine q_icmp_ge (pc := 18) 48 dX12_count_18 (by decide) (fun c_18 => absurd c_18 (nI_ge hi (by decide))) (fun c_18 => ?_)
        refine q_iload_n (pc := 21) dX12_count_21 rfl rfl ?_
        refine q_aload_n (pc := 22) dX12_count_22 rfl rfl ?_
        refine q_iload_n (pc := 23) dX12_count_23 rfl rfl ?_
        refine q_iconst (pc := 24) (v := nI 1) dX12_count_24 (by decide) ?_
        refine q_callVF (pc := 25) dX12_count_25 kX12_73 (c_tA hm (t := i) (k := 1) (j := 11 + 19 * i) (by omega) (by omega)) (Model_sh hm) rfl (Model_lt hm) ⟨Nat.le_of_ble_eq_true rfl, Nat.le_of_ble_eq_true rfl⟩ rfl rfl (Nat.le_of_ble_eq_true rfl) ?_
        show bq_W _ _ _ _ _ 28 _ [_, _] _ _ _ _ _ _
        rw [hg]
        refine q_iload_n (pc := 28) dX12_count_28 rfl rfl ?_
        refine q_bipush (pc := 29) (v := nI 10) dX12_count_29 (by decide) ?_
        refine q_isub (pc := 31) dX12_count_31 ?_
        refine q_icmp_ne (pc := 32) 39 dX12_count_32 (by decide) (fun c_32 => ?_) (fun c_32 => ?_)
        · refine q_iconst (pc := 39) (v := nI 0) dX12_count_39 (by decide) ?_
          refine q_iaddN (pc := 40) dX12_count_40 ?_
          refine q_istore_n (pc := 41) dX12_count_41 rfl (Nat.le_of_ble_eq_true rfl) rfl ?_
          show bq_W _ _ _ _ _ 42 [_, _, _, _] _ _ _ _ _ _ _
          refine q_iinc (pc := 42) (v := nI (i + 1)) dX12_count_42 rfl (bq_inc _) (Nat.le_of_ble_eq_true rfl) rfl ?_
          show bq_W _ _ _ _ _ 45 [_, _, _, _] _ _ _ _ _ _ _
          refine q_goto (pc := 45) 15 dX12_count_45 (by decide) ?_
          rw [show (bq_ct (fun i => g (11 + 19 * i)) (k - nI 10) (i + 1)) = _ from if_neg c_32] at ih
          exact ih
        · refine q_iconst (pc := 35) (v := nI 1) dX12_count_35 (by decide) ?_
          refine q_goto (pc := 36) 40 dX12_count_36 (by decide) ?_
          refine q_iaddN (pc := 40) dX12_count_40 ?_
          refine q_istore_n (pc := 41) dX12_count_41 rfl (Nat.le_of_ble_eq_true rfl) rfl ?_
          show bq_W _ _ _ _ _ 42 [_, _, _, _] _ _ _ _ _ _ _
          refine q_iinc (pc := 42) (v := nI (i + 1)) dX12_count_42 rfl (bq_inc _) (Nat.le_of_ble_eq_true rfl) rfl ?_
          show bq_W _ _ _ _ _ 45 [_, _, _, _] _ _ _ _ _ _ _
          refine q_goto (pc := 45) 15 dX12_count_45 (by decide) ?_
          rw [show (bq_ct (fun i => g (11 + 19 * i)) (k - nI 10) (i + 1)) = _ from if_pos c_32] at ih
          exact ih
    exact lp 0 (by decide)
set_option maxHeartbeats 1000000 in
set_option maxRecDepth 20000 in
theorem o_back_a {S : BqH} {n : Nat} {I : BqI} {L : BqL} {P : BqP} {m : Nat} {h : Nat → BqG} (hm : oModel S n P m) (hH : MH m I h 0) : bq_Sp mX12_back 2 36 0 0 [.ref m] S n I L P (bq_F (some (.int (-3))) S n I L P) := by
  refine q_entry (vs := [some (.ref m)]) (by decide +kernel) (by simp) (Nat.le_of_ble_eq_true rfl) rfl ?_
  refine q_aload_n (pc := 0) dX12_back_0 rfl rfl ?_
  refine q_getI (pc := 1) dX12_back_1 fX12_54 (Model_sh hm) ⟨by decide, rfl⟩ (Model_lt hm) ?_
  refine q_if_ne (pc := 4) 10 dX12_back_4 (by decide) (fun c_4 => (c_4 hH.1).elim) (fun c_4 => ?_)
  refine q_bipush (pc := 7) (v := (-3)) dX12_back_7 (by decide) ?_
  exact q_iret (st := []) (pc := 9) dX12_back_9 rfl ⟨rfl, rfl, rfl, rfl, rfl, rfl⟩
set_option maxHeartbeats 1000000 in
set_option maxRecDepth 20000 in
theorem o_back_b {S : BqH} {n : Nat} {I : BqI} {L : BqL} {P : BqP} {m c : Nat} {h : Nat → BqG} (hm : oModel S n P m) (hH : MH m I h (c + 1)) : bq_Sp mX12_back 2 36 0 0 [.ref m] S n I L P (qMb m I S n L P (nI c) (h c) h c) := by
  refine q_entry (vs := [some (.ref m)]) (by decide +kernel) (by simp) (Nat.le_of_ble_eq_true rfl) rfl ?_
  have hc := hH.1
  have hl := hH.2.1
  have hB := back_m hH
  refine q_aload_n (pc := 0) dX12_back_0 rfl rfl ?_
  refine q_getI (pc := 1) dX12_back_1 fX12_54 (Model_sh hm) ⟨by decide, rfl⟩ (Model_lt hm) ?_
  rw [hc]
  refine q_if_ne (pc := 4) 10 dX12_back_4 (by decide) (fun c_4 => ?_) (fun c_4 => (nI_ne0 (Nat.succ_pos c) (by omega) c_4).elim)
  refine q_aload_n (pc := 10) dX12_back_10 rfl rfl ?_
  refine q_dup (pc := 11) dX12_back_11 rfl ?_
  refine q_getI (pc := 12) dX12_back_12 fX12_54 (Model_sh hm) ⟨by decide, rfl⟩ (Model_lt hm) ?_
  rw [hc]
  refine q_iconst (pc := 15) (v := nI 1) dX12_back_15 (by decide) ?_
  refine q_isub (pc := 16) dX12_back_16 ?_
  rw [show nI (c + 1) - nI 1 = nI c from by rw [pk_sub (by omega), Nat.add_sub_cancel]]
  refine q_putI (pc := 17) dX12_back_17 (pX12_54 _) (Model_sh hm) ⟨by decide, rfl⟩ (Model_lt hm) ?_
  refine q_aload_n (pc := 20) dX12_back_20 rfl rfl ?_
  refine q_getP (pc := 21) dX12_back_21 fX12_13 (Model_sh hm) ⟨by decide, rfl⟩ (Model_lt hm) (Model_p_history hm) ?_
  refine q_aload_n (pc := 24) dX12_back_24 rfl rfl ?_
  refine q_getI (pc := 25) dX12_back_25 fX12_54 (Model_sh hm) ⟨by decide, rfl⟩ (Model_lt hm) ?_
  rw [bq_u_at]
  refine q_sipush (pc := 28) (v := nI 650) dX12_back_28 (by decide) ?_
  refine q_imulN (pc := 31) dX12_back_31 ?_
  refine q_aload_n (pc := 32) dX12_back_32 rfl rfl ?_
  refine q_getP (pc := 33) dX12_back_33 fX12_9 (Model_sh hm) ⟨by decide, rfl⟩ (Model_lt hm) (Model_p_g hm) ?_
  refine q_iconst (pc := 36) (v := nI 0) dX12_back_36 (by decide) ?_
  refine q_callSF (pc := 37) dX12_back_37 kX12_57 (c_X12_copy (Model_s_history hm) (Model_s_g hm) (x := (c * 650)) (y := 0) (by omega) (by omega) (by omega)) ⟨Nat.le_of_ble_eq_true rfl, Nat.le_of_ble_eq_true rfl⟩ rfl rfl (Nat.le_of_ble_eq_true rfl) ?_
  show bq_W _ _ _ _ _ 40 _ [] _ _ _ _ _ _
  refine q_aload_n (pc := 40) dX12_back_40 rfl rfl ?_
  refine q_getI (pc := 41) dX12_back_41 fX12_54 (Model_sh hm) ⟨by decide, rfl⟩ (Model_lt hm) ?_
  rw [fl_ne (show m ≠ m + 1 by omega) 650, bq_u_at]
  exact q_iret (st := []) (pc := 44) dX12_back_44 rfl ⟨rfl, rfl, rfl, rfl, rfl, hB⟩
set_option maxHeartbeats 1000000 in
set_option maxRecDepth 20000 in
theorem o_image {S : BqH} {n : Nat} {I : BqI} {L : BqL} {P : BqP} {m : Nat} (hm : oModel S n P m) : bq_Sp mX12_image 2 36 0 0 [.ref m] S n I L P (bq_F (some (.int (I (m + 1) 0))) S n (bq_u (fl I (m + 3) (fun k => 0 + k) (fun k => I (m + 1) (0 + k)) 650) m 4 (nI 1)) L P) := by
  refine q_entry (vs := [some (.ref m)]) (by decide +kernel) (by simp) (Nat.le_of_ble_eq_true rfl) rfl ?_
  refine q_aload_n (pc := 0) dX12_image_0 rfl rfl ?_
  refine q_getP (pc := 1) dX12_image_1 fX12_9 (Model_sh hm) ⟨by decide, rfl⟩ (Model_lt hm) (Model_p_g hm) ?_
  refine q_iconst (pc := 4) (v := nI 0) dX12_image_4 (by decide) ?_
  refine q_aload_n (pc := 5) dX12_image_5 rfl rfl ?_
  refine q_getP (pc := 6) dX12_image_6 fX12_16 (Model_sh hm) ⟨by decide, rfl⟩ (Model_lt hm) (Model_p_kept hm) ?_
  refine q_iconst (pc := 9) (v := nI 0) dX12_image_9 (by decide) ?_
  refine q_callSF (pc := 10) dX12_image_10 kX12_57 (c_X12_copy (Model_s_g hm) (Model_s_kept hm) (x := 0) (y := 0) (by omega) (by omega) (by omega)) ⟨Nat.le_of_ble_eq_true rfl, Nat.le_of_ble_eq_true rfl⟩ rfl rfl (Nat.le_of_ble_eq_true rfl) ?_
  show bq_W _ _ _ _ _ 13 _ [] _ _ _ _ _ _
  refine q_aload_n (pc := 13) dX12_image_13 rfl rfl ?_
  refine q_iconst (pc := 14) (v := nI 1) dX12_image_14 (by decide) ?_
  refine q_putZ (pc := 15) dX12_image_15 (pX12_246 _) (Model_sh hm) ⟨by decide, rfl⟩ (Or.inr (by decide)) (Model_lt hm) ?_
  refine q_aload_n (pc := 18) dX12_image_18 rfl rfl ?_
  refine q_getP (pc := 19) dX12_image_19 fX12_9 (Model_sh hm) ⟨by decide, rfl⟩ (Model_lt hm) (Model_p_g hm) ?_
  refine q_iconst (pc := 22) (v := nI 0) dX12_image_22 (by decide) ?_
  refine q_iald (pc := 23) dX12_image_23 (oA_sh (Model_s_g hm)) (oA_lt (Model_s_g hm)) rfl (by omega) ?_
  rw [bq_u_ne (show m + 1 ≠ m by omega), fl_ne (show m + 1 ≠ m + 3 by omega) 650]
  exact q_iret (st := []) (pc := 24) dX12_image_24 rfl ⟨rfl, rfl, rfl, rfl, rfl, rfl⟩
set_option maxHeartbeats 1000000 in
set_option maxRecDepth 20000 in
theorem o_undo_a {S : BqH} {n : Nat} {I : BqI} {L : BqL} {P : BqP} {m : Nat} (hm : oModel S n P m) (h4 : I m 4 = 0) : bq_Sp mX12_undo 2 36 0 0 [.ref m] S n I L P (bq_F (some (.int (-3))) S n I L P) := by
  refine q_entry (vs := [some (.ref m)]) (by decide +kernel) (by simp) (Nat.le_of_ble_eq_true rfl) rfl ?_
  refine q_aload_n (pc := 0) dX12_undo_0 rfl rfl ?_
  refine q_getI (pc := 1) dX12_undo_1 fX12_246 (Model_sh hm) ⟨by decide, rfl⟩ (Model_lt hm) ?_
  refine q_if_ne (pc := 4) 10 dX12_undo_4 (by decide) (fun c_4 => (c_4 h4).elim) (fun c_4 => ?_)
  refine q_bipush (pc := 7) (v := (-3)) dX12_undo_7 (by decide) ?_
  exact q_iret (st := []) (pc := 9) dX12_undo_9 rfl ⟨rfl, rfl, rfl, rfl, rfl, rfl⟩
set_option maxHeartbeats 1000000 in
set_option maxRecDepth 20000 in
theorem o_undo_b {S : BqH} {n : Nat} {I : BqI} {L : BqL} {P : BqP} {m : Nat} (hm : oModel S n P m) (h4 : ¬ I m 4 = 0) : bq_Sp mX12_undo 2 36 0 0 [.ref m] S n I L P (bq_F (some (.int (I (m + 3) 0))) S n (bq_u (fl I (m + 1) (fun k => 0 + k) (fun k => I (m + 3) (0 + k)) 650) m 2 (nI 0)) L P) := by
  refine q_entry (vs := [some (.ref m)]) (by decide +kernel) (by simp) (Nat.le_of_ble_eq_true rfl) rfl ?_
  refine q_aload_n (pc := 0) dX12_undo_0 rfl rfl ?_
  refine q_getI (pc := 1) dX12_undo_1 fX12_246 (Model_sh hm) ⟨by decide, rfl⟩ (Model_lt hm) ?_
  refine q_if_ne (pc := 4) 10 dX12_undo_4 (by decide) (fun c_4 => ?_) (fun c_4 => (h4 c_4).elim)
  refine q_aload_n (pc := 10) dX12_undo_10 rfl rfl ?_
  refine q_getP (pc := 11) dX12_undo_11 fX12_16 (Model_sh hm) ⟨by decide, rfl⟩ (Model_lt hm) (Model_p_kept hm) ?_
  refine q_iconst (pc := 14) (v := nI 0) dX12_undo_14 (by decide) ?_
  refine q_aload_n (pc := 15) dX12_undo_15 rfl rfl ?_
  refine q_getP (pc := 16) dX12_undo_16 fX12_9 (Model_sh hm) ⟨by decide, rfl⟩ (Model_lt hm) (Model_p_g hm) ?_
  refine q_iconst (pc := 19) (v := nI 0) dX12_undo_19 (by decide) ?_
  refine q_callSF (pc := 20) dX12_undo_20 kX12_57 (c_X12_copy (Model_s_kept hm) (Model_s_g hm) (x := 0) (y := 0) (by omega) (by omega) (by omega)) ⟨Nat.le_of_ble_eq_true rfl, Nat.le_of_ble_eq_true rfl⟩ rfl rfl (Nat.le_of_ble_eq_true rfl) ?_
  show bq_W _ _ _ _ _ 23 _ [] _ _ _ _ _ _
  refine q_aload_n (pc := 23) dX12_undo_23 rfl rfl ?_
  refine q_iconst (pc := 24) (v := nI 0) dX12_undo_24 (by decide) ?_
  refine q_putI (pc := 25) dX12_undo_25 (pX12_54 _) (Model_sh hm) ⟨by decide, rfl⟩ (Model_lt hm) ?_
  refine q_aload_n (pc := 28) dX12_undo_28 rfl rfl ?_
  refine q_getP (pc := 29) dX12_undo_29 fX12_9 (Model_sh hm) ⟨by decide, rfl⟩ (Model_lt hm) (Model_p_g hm) ?_
  refine q_iconst (pc := 32) (v := nI 0) dX12_undo_32 (by decide) ?_
  refine q_iald (pc := 33) dX12_undo_33 (oA_sh (Model_s_g hm)) (oA_lt (Model_s_g hm)) rfl (by omega) ?_
  rw [bq_u_ne (show m + 1 ≠ m by omega), show fl I (m + 1) (fun k => 0 + k) (fun k => I (m + 3) (0 + k)) 650 (m + 1) 0 = I (m + 3) 0 from cp_0]
  exact q_iret (st := []) (pc := 34) dX12_undo_34 rfl ⟨rfl, rfl, rfl, rfl, rfl, rfl⟩
