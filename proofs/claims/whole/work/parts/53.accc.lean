/-! the class's accounts -/
theorem ns_z : ∀ k, ns (fun _ => 0) k = 0
  | 0 => rfl
  | k + 1 => by
    show ns (fun _ => 0) k + 0 = 0
    rw [ns_z k]
theorem ns_swap (F : Nat → Nat → Nat) (m : Nat) : ∀ k, ns (fun t => ns (F t) m) k = ns (fun b => ns (fun t => F t b) k) m
  | 0 => (ns_z m).symm
  | k + 1 => by
    show ns (fun t => ns (F t) m) k + ns (F k) m = ns (fun b => ns (fun t => F t b) k + F k b) m
    rw [ns_add, ns_swap F m k]
theorem gt_gb (g : BqG) : ns (gt g) 6 = ns (gb g) 16 := ns_swap (gp g) 16 6
theorem gt_le {g : BqG} {en : Nat} (hG : GI g en) : ns (gb g) 16 ≤ 159984 := by
  have h := ns_le (F := ac g 1) (G := fun _ => 9999) 16 (fun j hj => (ac_b hG hj (by decide)).1)
  exact h
theorem acc_s {g : BqG} {en q : Nat} {f : Nat → Int32} (hG : GI g en) (hq : q ≤ 3) (h : ∀ j, j < 16 → f j = nI (ac g q j)) : (bq_sum f 16).toInt64 = lN (ns (ac g q) 16) := by
  have hb := ns_le (F := ac g q) (G := fun _ => 9999) 16 (fun j hj => (ac_b hG hj hq).1)
  have h2 : ns (fun _ => 9999) 16 = 159984 := rfl
  rw [bq_sum_n 16 h, nI_l (by omega)]
theorem acc_t {g : BqG} {en : Nat} {f : Nat → Int32} (hG : GI g en) (h : ∀ t, t < 6 → f t = nI (gt g t)) : (bq_sum f 6).toInt64 = lN (ns (ac g 1) 16) := by
  have hb := gt_le hG
  rw [bq_sum_n 6 h, gt_gb, nI_l (by omega)]
  rfl
theorem acc_a {g : BqG} {en q : Nat} {f s : Nat → Int32} (hG : GI g en) (hq : q ≤ 3) (h : ∀ j, j < 16 → f j = nI (ac g q j)) (h' : ∀ j, j < 16 → s j = g (124 + 5 * j)) : bq_alc f s 16 = lN (ns (fun b => ac g q b * gn g (124 + 5 * b)) 16) :=
  bq_alc_n 16 h (fun j hj => (h' j hj).trans (hG.n (by omega) (by omega))) (fun j hj => (hG.1 (124 + 5 * j) (by omega) (by omega)).2) (fun j hj => Nat.lt_of_le_of_lt (ac_b hG hj hq).1 (by decide))
theorem suL_n {f : Nat → Int64} {F : Nat → Nat} : ∀ k, (∀ j, j < k → f j = lN (F j)) → bq_suL f k = lN (ns F k)
  | 0, _ => rfl
  | k + 1, h => by
    unfold bq_suL ns
    rw [suL_n k (fun j hj => h j (by omega)), h k (by omega), lN_add]
theorem acc_at {g : BqG} {en : Nat} {p : Nat → Nat → Int32} {s : Nat → Int32} (hG : GI g en) (h : ∀ t, t < 6 → ∀ j, j < 16 → p t j = g (13 + 19 * t + j)) (h' : ∀ j, j < 16 → s j = g (124 + 5 * j)) : bq_suL (fun i => bq_alc (p i) s 16) 6 = lN (ns (fun b => ac g 1 b * gn g (124 + 5 * b)) 16) := by
  rw [suL_n (F := fun t => ns (fun b => gp g t b * gn g (124 + 5 * b)) 16) 6 (fun t ht => bq_alc_n 16 (fun j hj => (h t ht j hj).trans (hG.n (by omega) (by omega))) (fun j hj => (h' j hj).trans (hG.n (by omega) (by omega))) (fun j hj => (hG.1 (124 + 5 * j) (by omega) (by omega)).2) (fun j hj => (hG.1 (13 + 19 * t + j) (by omega) (by omega)).2))]
  rw [ns_swap (fun t b => gp g t b * gn g (124 + 5 * b)) 16 6]
  exact congrArg lN (ns_congr 16 (fun b _ => ns_mul (fun t => gp g t b) (gn g (124 + 5 * b)) 6))
theorem ct_le {f : Nat → Int32} {v : Int32} : ∀ k, bq_ct f v k ≤ k
  | 0 => Nat.le_refl _
  | k + 1 => by
    have ih := ct_le (f := f) (v := v) k
    show (if f k = v then bq_ct f v k + 1 else bq_ct f v k) ≤ k + 1
    split <;> omega
theorem acc_o {g : BqG} {c : Nat} {f : Nat → Int32} (hc : c ≤ 10) (h : ∀ j, j < c → f j = g (208 + 9 * j)) : (nI (bq_ct f 0 c)).toInt64 = lN (bq_ct (fun i => g (208 + 9 * i)) 0 c) := by
  have hb := ct_le (f := fun i => g (208 + 9 * i)) (v := 0) c
  rw [bq_ct_congr c h, nI_l (by omega)]
theorem sc_oL {g : BqG} {f a : Nat → Int32} : ∀ k, (∀ j, j < k → f j = g (208 + 9 * j)) → (∀ j, j < k → a j = nI (gn g (205 + 9 * j))) → bq_sc f a k = nI (oL g k)
  | 0, _, _ => rfl
  | k + 1, h, h' => by
    show (if f k = 0 then bq_sc f a k + a k else bq_sc f a k) = nI (if g (208 + 9 * k) = 0 then oL g k + gn g (205 + 9 * k) else oL g k)
    rw [h k (by omega), h' k (by omega), sc_oL k (fun j hj => h j (by omega)) (fun j hj => h' j (by omega))]
    split
    · exact nI_add _ _
    · rfl
theorem acc_l {g : BqG} {en c : Nat} {f a : Nat → Int32} (hG : GI g en) (hc : c ≤ 10) (h : ∀ j, j < c → f j = g (208 + 9 * j)) (h' : ∀ j, j < c → a j = nI (gn g (205 + 9 * j))) : (bq_sc f a c).toInt64 = lN (oL g c) := by
  have hb := oL_le hG c hc
  rw [sc_oL c h h', nI_l (by omega)]
set_option maxHeartbeats 3180000 in
set_option maxRecDepth 20000 in
theorem m_account {S : BqH} {n : Nat} {I : BqI} {L : BqL} {P : BqP} {x : Nat} {g : BqG} {en : Nat} (hx : oX S n P x) (hC : CS I L (x + 1) g) (hG : GI g en) {k : Int32} : bq_Sp mX11_account 3 59 0 0 [.ref x, .int k] S n I L P (bq_F (some (.long (r_account g k))) S n I L P) := by
  refine q_entry (vs := [some (.ref x), some (.int k)]) (by decide +kernel) (by simp) (Nat.le_of_ble_eq_true rfl) rfl ?_
  have h2l : gn g 2 ≤ 10 := hG.2.2.2.1
  have hoc : I (x + 1) 12 = nI (gn g 2) := (hC.1.at (k := 2) rfl).trans (hG.n (by decide) (by decide))
  have hst : ∀ j, j < 16 → I (x + 1 + 2) j = g (124 + 5 * j) := fun j hj => hC.1.at (lc_B0 hj)
  have hb0 : ∀ j, j < 16 → I (x + 1 + 4 + 1) j = nI (ac g 0 j) := fun j hj => (hC.1.ab (j := 1) hj (by decide)).trans (hG.n (by omega) (by omega))
  have hb2 : ∀ j, j < 16 → I (x + 1 + 6 + 1) j = nI (ac g 2 j) := fun j hj => (hC.1.ab (j := 2) hj (by decide)).trans (hG.n (by omega) (by omega))
  have hb3 : ∀ j, j < 16 → I (x + 1 + 8 + 1) j = nI (ac g 3 j) := fun j hj => (hC.1.ab (j := 3) hj (by decide)).trans (hG.n (by omega) (by omega))
  have hpt : ∀ t, t < 6 → ∀ j, j < 16 → I (x + 1 + 15 + 3 * t + 1 + 1) j = g (13 + 19 * t + j) := fun t ht j hj => hC.1.ap ht hj
  have hpn : ∀ t, t < 6 → bq_sum (I (x + 1 + 15 + 3 * t + 1 + 1)) 16 = nI (gt g t) := fun t ht => bq_sum_n 16 (hC.1.pn hG ht)
  have ho4 : ∀ j, j < gn g 2 → I (x + 1 + 43 + j) 4 = g (208 + 9 * j) := fun j hj => (hC.1.ao (o := j) (k := 4) (by omega) (by decide)).trans (congrArg g (by omega))
  have ho1 : ∀ j, j < gn g 2 → I (x + 1 + 43 + j) 1 = nI (gn g (205 + 9 * j)) := fun j hj => ((hC.1.ao (o := j) (k := 1) (by omega) (by decide)).trans (congrArg g (show 204 + 9 * j + 1 = 205 + 9 * j by omega))).trans (hG.n (by omega) (by omega))
  refine q_iload_n (pc := 0) dX11_account_0 rfl rfl ?_
  by_cases s1_0 : k = nI 0
  · refine q_tableIn (pc := 1) (off := 67) 68 dX11_account_1 (by rw [s1_0]; decide) (by rw [s1_0]; decide) (by rw [s1_0]; rfl) (by decide) ?_
    subst s1_0
    refine q_aload_n (pc := 68) dX11_account_68 rfl rfl ?_
    refine q_getP (pc := 69) dX11_account_69 fX11_10 (Cellar_sh hx) ⟨by decide, rfl⟩ (Cellar_lt hx) (Cellar_p_state hx) ?_
    refine q_getP (pc := 72) dX11_account_72 fX11_245 (State_sh (Cellar_s_state hx)) ⟨by decide, rfl⟩ (State_lt (Cellar_s_state hx)) (State_p_brewed (Cellar_s_state hx)) ?_
    refine q_callVF (pc := 75) dX11_account_75 kX11_79 (c_X0_total (State_s_brewed (Cellar_s_state hx))) (Blend_sh (State_s_brewed (Cellar_s_state hx))) rfl (Blend_lt (State_s_brewed (Cellar_s_state hx))) ⟨Nat.le_of_ble_eq_true rfl, Nat.le_of_ble_eq_true rfl⟩ rfl rfl (Nat.le_of_ble_eq_true rfl) ?_
    show bq_W _ _ _ _ _ 78 _ [_] _ _ _ _ _ _
    refine q_i2l (pc := 78) dX11_account_78 ?_
    exact q_lret (st := []) (pc := 79) dX11_account_79 rfl ⟨by rw [r_account_in (by decide)]; exact congrArg (fun z => some (Value.long z)) (acc_s hG (by decide) hb0), rfl, rfl, rfl, rfl, rfl⟩
  by_cases s1_1 : k = nI 1
  · refine q_tableIn (pc := 1) (off := 79) 80 dX11_account_1 (by rw [s1_1]; decide) (by rw [s1_1]; decide) (by rw [s1_1]; rfl) (by decide) ?_
    subst s1_1
    refine q_aload_n (pc := 80) dX11_account_80 rfl rfl ?_
    refine q_getP (pc := 81) dX11_account_81 fX11_10 (Cellar_sh hx) ⟨by decide, rfl⟩ (Cellar_lt hx) (Cellar_p_state hx) ?_
    refine q_callVF (pc := 84) dX11_account_84 kX11_306 (c_X8_litresInTanks (Cellar_s_state hx)) (State_sh (Cellar_s_state hx)) rfl (State_lt (Cellar_s_state hx)) ⟨Nat.le_of_ble_eq_true rfl, Nat.le_of_ble_eq_true rfl⟩ rfl rfl (Nat.le_of_ble_eq_true rfl) ?_
    show bq_W _ _ _ _ _ 87 _ [_] _ _ _ _ _ _
    refine q_i2l (pc := 87) dX11_account_87 ?_
    exact q_lret (st := []) (pc := 88) dX11_account_88 rfl ⟨by rw [r_account_in (by decide)]; exact congrArg (fun z => some (Value.long z)) (acc_t hG hpn), rfl, rfl, rfl, rfl, rfl⟩
  by_cases s1_2 : k = nI 2
  · refine q_tableIn (pc := 1) (off := 88) 89 dX11_account_1 (by rw [s1_2]; decide) (by rw [s1_2]; decide) (by rw [s1_2]; rfl) (by decide) ?_
    subst s1_2
    refine q_aload_n (pc := 89) dX11_account_89 rfl rfl ?_
    refine q_getP (pc := 90) dX11_account_90 fX11_10 (Cellar_sh hx) ⟨by decide, rfl⟩ (Cellar_lt hx) (Cellar_p_state hx) ?_
    refine q_getP (pc := 93) dX11_account_93 fX11_251 (State_sh (Cellar_s_state hx)) ⟨by decide, rfl⟩ (State_lt (Cellar_s_state hx)) (State_p_filled (Cellar_s_state hx)) ?_
    refine q_callVF (pc := 96) dX11_account_96 kX11_79 (c_X0_total (State_s_filled (Cellar_s_state hx))) (Blend_sh (State_s_filled (Cellar_s_state hx))) rfl (Blend_lt (State_s_filled (Cellar_s_state hx))) ⟨Nat.le_of_ble_eq_true rfl, Nat.le_of_ble_eq_true rfl⟩ rfl rfl (Nat.le_of_ble_eq_true rfl) ?_
    show bq_W _ _ _ _ _ 99 _ [_] _ _ _ _ _ _
    refine q_i2l (pc := 99) dX11_account_99 ?_
    exact q_lret (st := []) (pc := 100) dX11_account_100 rfl ⟨by rw [r_account_in (by decide)]; exact congrArg (fun z => some (Value.long z)) (acc_s hG (by decide) hb2), rfl, rfl, rfl, rfl, rfl⟩
  by_cases s1_3 : k = nI 3
  · refine q_tableIn (pc := 1) (off := 100) 101 dX11_account_1 (by rw [s1_3]; decide) (by rw [s1_3]; decide) (by rw [s1_3]; rfl) (by decide) ?_
    subst s1_3
    refine q_aload_n (pc := 101) dX11_account_101 rfl rfl ?_
    refine q_getP (pc := 102) dX11_account_102 fX11_10 (Cellar_sh hx) ⟨by decide, rfl⟩ (Cellar_lt hx) (Cellar_p_state hx) ?_
    refine q_getP (pc := 105) dX11_account_105 fX11_309 (State_sh (Cellar_s_state hx)) ⟨by decide, rfl⟩ (State_lt (Cellar_s_state hx)) (State_p_lostFor (Cellar_s_state hx)) ?_
    refine q_iload_n (pc := 108) dX11_account_108 rfl rfl ?_
    refine q_iconst (pc := 109) (v := nI 3) dX11_account_109 (by decide) ?_
    refine q_isub (pc := 110) dX11_account_110 ?_
    rw [pk_sub (by decide)]
    refine q_iald (pc := 111) dX11_account_111 (oA_sh (State_s_lostFor (Cellar_s_state hx))) (oA_lt (State_s_lostFor (Cellar_s_state hx))) rfl (by omega) ?_
    refine q_i2l (pc := 112) dX11_account_112 ?_
    exact q_lret (st := []) (pc := 113) dX11_account_113 rfl ⟨by rw [r_account_in (by decide)]; first | (exact congrArg (fun z => some (Value.long (Int32.toInt64 z))) (hC.1.at (lc_L (r := 0) (by decide)))) | (exact congrArg (fun z => some (Value.long (Int32.toInt64 z))) (hC.1.at (lc_L (r := 1) (by decide)))) | (exact congrArg (fun z => some (Value.long (Int32.toInt64 z))) (hC.1.at (lc_L (r := 2) (by decide)))) | (exact congrArg (fun z => some (Value.long (Int32.toInt64 z))) (hC.1.at (lc_L (r := 3) (by decide)))), rfl, rfl, rfl, rfl, rfl⟩
  by_cases s1_4 : k = nI 4
  · refine q_tableIn (pc := 1) (off := 100) 101 dX11_account_1 (by rw [s1_4]; decide) (by rw [s1_4]; decide) (by rw [s1_4]; rfl) (by decide) ?_
    subst s1_4
    refine q_aload_n (pc := 101) dX11_account_101 rfl rfl ?_
    refine q_getP (pc := 102) dX11_account_102 fX11_10 (Cellar_sh hx) ⟨by decide, rfl⟩ (Cellar_lt hx) (Cellar_p_state hx) ?_
    refine q_getP (pc := 105) dX11_account_105 fX11_309 (State_sh (Cellar_s_state hx)) ⟨by decide, rfl⟩ (State_lt (Cellar_s_state hx)) (State_p_lostFor (Cellar_s_state hx)) ?_
    refine q_iload_n (pc := 108) dX11_account_108 rfl rfl ?_
    refine q_iconst (pc := 109) (v := nI 3) dX11_account_109 (by decide) ?_
    refine q_isub (pc := 110) dX11_account_110 ?_
    rw [pk_sub (by decide)]
    refine q_iald (pc := 111) dX11_account_111 (oA_sh (State_s_lostFor (Cellar_s_state hx))) (oA_lt (State_s_lostFor (Cellar_s_state hx))) rfl (by omega) ?_
    refine q_i2l (pc := 112) dX11_account_112 ?_
    exact q_lret (st := []) (pc := 113) dX11_account_113 rfl ⟨by rw [r_account_in (by decide)]; first | (exact congrArg (fun z => some (Value.long (Int32.toInt64 z))) (hC.1.at (lc_L (r := 0) (by decide)))) | (exact congrArg (fun z => some (Value.long (Int32.toInt64 z))) (hC.1.at (lc_L (r := 1) (by decide)))) | (exact congrArg (fun z => some (Value.long (Int32.toInt64 z))) (hC.1.at (lc_L (r := 2) (by decide)))) | (exact congrArg (fun z => some (Value.long (Int32.toInt64 z))) (hC.1.at (lc_L (r := 3) (by decide)))), rfl, rfl, rfl, rfl, rfl⟩
  by_cases s1_5 : k = nI 5
  · refine q_tableIn (pc := 1) (off := 100) 101 dX11_account_1 (by rw [s1_5]; decide) (by rw [s1_5]; decide) (by rw [s1_5]; rfl) (by decide) ?_
    subst s1_5
    refine q_aload_n (pc := 101) dX11_account_101 rfl rfl ?_
    refine q_getP (pc := 102) dX11_account_102 fX11_10 (Cellar_sh hx) ⟨by decide, rfl⟩ (Cellar_lt hx) (Cellar_p_state hx) ?_
    refine q_getP (pc := 105) dX11_account_105 fX11_309 (State_sh (Cellar_s_state hx)) ⟨by decide, rfl⟩ (State_lt (Cellar_s_state hx)) (State_p_lostFor (Cellar_s_state hx)) ?_
    refine q_iload_n (pc := 108) dX11_account_108 rfl rfl ?_
    refine q_iconst (pc := 109) (v := nI 3) dX11_account_109 (by decide) ?_
    refine q_isub (pc := 110) dX11_account_110 ?_
    rw [pk_sub (by decide)]
    refine q_iald (pc := 111) dX11_account_111 (oA_sh (State_s_lostFor (Cellar_s_state hx))) (oA_lt (State_s_lostFor (Cellar_s_state hx))) rfl (by omega) ?_
    refine q_i2l (pc := 112) dX11_account_112 ?_
    exact q_lret (st := []) (pc := 113) dX11_account_113 rfl ⟨by rw [r_account_in (by decide)]; first | (exact congrArg (fun z => some (Value.long (Int32.toInt64 z))) (hC.1.at (lc_L (r := 0) (by decide)))) | (exact congrArg (fun z => some (Value.long (Int32.toInt64 z))) (hC.1.at (lc_L (r := 1) (by decide)))) | (exact congrArg (fun z => some (Value.long (Int32.toInt64 z))) (hC.1.at (lc_L (r := 2) (by decide)))) | (exact congrArg (fun z => some (Value.long (Int32.toInt64 z))) (hC.1.at (lc_L (r := 3) (by decide)))), rfl, rfl, rfl, rfl, rfl⟩
  by_cases s1_6 : k = nI 6
  · refine q_tableIn (pc := 1) (off := 100) 101 dX11_account_1 (by rw [s1_6]; decide) (by rw [s1_6]; decide) (by rw [s1_6]; rfl) (by decide) ?_
    subst s1_6
    refine q_aload_n (pc := 101) dX11_account_101 rfl rfl ?_
    refine q_getP (pc := 102) dX11_account_102 fX11_10 (Cellar_sh hx) ⟨by decide, rfl⟩ (Cellar_lt hx) (Cellar_p_state hx) ?_
    refine q_getP (pc := 105) dX11_account_105 fX11_309 (State_sh (Cellar_s_state hx)) ⟨by decide, rfl⟩ (State_lt (Cellar_s_state hx)) (State_p_lostFor (Cellar_s_state hx)) ?_
    refine q_iload_n (pc := 108) dX11_account_108 rfl rfl ?_
    refine q_iconst (pc := 109) (v := nI 3) dX11_account_109 (by decide) ?_
    refine q_isub (pc := 110) dX11_account_110 ?_
    rw [pk_sub (by decide)]
    refine q_iald (pc := 111) dX11_account_111 (oA_sh (State_s_lostFor (Cellar_s_state hx))) (oA_lt (State_s_lostFor (Cellar_s_state hx))) rfl (by omega) ?_
    refine q_i2l (pc := 112) dX11_account_112 ?_
    exact q_lret (st := []) (pc := 113) dX11_account_113 rfl ⟨by rw [r_account_in (by decide)]; first | (exact congrArg (fun z => some (Value.long (Int32.toInt64 z))) (hC.1.at (lc_L (r := 0) (by decide)))) | (exact congrArg (fun z => some (Value.long (Int32.toInt64 z))) (hC.1.at (lc_L (r := 1) (by decide)))) | (exact congrArg (fun z => some (Value.long (Int32.toInt64 z))) (hC.1.at (lc_L (r := 2) (by decide)))) | (exact congrArg (fun z => some (Value.long (Int32.toInt64 z))) (hC.1.at (lc_L (r := 3) (by decide)))), rfl, rfl, rfl, rfl, rfl⟩
  by_cases s1_7 : k = nI 7
  · refine q_tableIn (pc := 1) (off := 113) 114 dX11_account_1 (by rw [s1_7]; decide) (by rw [s1_7]; decide) (by rw [s1_7]; rfl) (by decide) ?_
    subst s1_7
    refine q_aload_n (pc := 114) dX11_account_114 rfl rfl ?_
    refine q_getP (pc := 115) dX11_account_115 fX11_10 (Cellar_sh hx) ⟨by decide, rfl⟩ (Cellar_lt hx) (Cellar_p_state hx) ?_
    refine q_getP (pc := 118) dX11_account_118 fX11_245 (State_sh (Cellar_s_state hx)) ⟨by decide, rfl⟩ (State_lt (Cellar_s_state hx)) (State_p_brewed (Cellar_s_state hx)) ?_
    refine q_aload_n (pc := 121) dX11_account_121 rfl rfl ?_
    refine q_getP (pc := 122) dX11_account_122 fX11_10 (Cellar_sh hx) ⟨by decide, rfl⟩ (Cellar_lt hx) (Cellar_p_state hx) ?_
    refine q_getP (pc := 125) dX11_account_125 fX11_233 (State_sh (Cellar_s_state hx)) ⟨by decide, rfl⟩ (State_lt (Cellar_s_state hx)) (State_p_strengths (Cellar_s_state hx)) ?_
    refine q_callVF (pc := 128) dX11_account_128 kX11_312 (c_X0_alcohol (State_s_brewed (Cellar_s_state hx)) (State_s_strengths (Cellar_s_state hx))) (Blend_sh (State_s_brewed (Cellar_s_state hx))) rfl (Blend_lt (State_s_brewed (Cellar_s_state hx))) ⟨Nat.le_of_ble_eq_true rfl, Nat.le_of_ble_eq_true rfl⟩ rfl rfl (Nat.le_of_ble_eq_true rfl) ?_
    show bq_W _ _ _ _ _ 131 _ [_] _ _ _ _ _ _
    exact q_lret (st := []) (pc := 131) dX11_account_131 rfl ⟨by rw [r_account_in (by decide)]; exact congrArg (fun z => some (Value.long z)) (acc_a hG (by decide) hb0 hst), rfl, rfl, rfl, rfl, rfl⟩
  by_cases s1_8 : k = nI 8
  · refine q_tableIn (pc := 1) (off := 131) 132 dX11_account_1 (by rw [s1_8]; decide) (by rw [s1_8]; decide) (by rw [s1_8]; rfl) (by decide) ?_
    subst s1_8
    refine q_aload_n (pc := 132) dX11_account_132 rfl rfl ?_
    refine q_getP (pc := 133) dX11_account_133 fX11_10 (Cellar_sh hx) ⟨by decide, rfl⟩ (Cellar_lt hx) (Cellar_p_state hx) ?_
    refine q_callVF (pc := 136) dX11_account_136 kX11_316 (c_X8_alcoholInTanks (Cellar_s_state hx)) (State_sh (Cellar_s_state hx)) rfl (State_lt (Cellar_s_state hx)) ⟨Nat.le_of_ble_eq_true rfl, Nat.le_of_ble_eq_true rfl⟩ rfl rfl (Nat.le_of_ble_eq_true rfl) ?_
    show bq_W _ _ _ _ _ 139 _ [_] _ _ _ _ _ _
    exact q_lret (st := []) (pc := 139) dX11_account_139 rfl ⟨by rw [r_account_in (by decide)]; exact congrArg (fun z => some (Value.long z)) (acc_at hG hpt hst), rfl, rfl, rfl, rfl, rfl⟩
  by_cases s1_9 : k = nI 9
  · refine q_tableIn (pc := 1) (off := 139) 140 dX11_account_1 (by rw [s1_9]; decide) (by rw [s1_9]; decide) (by rw [s1_9]; rfl) (by decide) ?_
    subst s1_9
    refine q_aload_n (pc := 140) dX11_account_140 rfl rfl ?_
    refine q_getP (pc := 141) dX11_account_141 fX11_10 (Cellar_sh hx) ⟨by decide, rfl⟩ (Cellar_lt hx) (Cellar_p_state hx) ?_
    refine q_getP (pc := 144) dX11_account_144 fX11_251 (State_sh (Cellar_s_state hx)) ⟨by decide, rfl⟩ (State_lt (Cellar_s_state hx)) (State_p_filled (Cellar_s_state hx)) ?_
    refine q_aload_n (pc := 147) dX11_account_147 rfl rfl ?_
    refine q_getP (pc := 148) dX11_account_148 fX11_10 (Cellar_sh hx) ⟨by decide, rfl⟩ (Cellar_lt hx) (Cellar_p_state hx) ?_
    refine q_getP (pc := 151) dX11_account_151 fX11_233 (State_sh (Cellar_s_state hx)) ⟨by decide, rfl⟩ (State_lt (Cellar_s_state hx)) (State_p_strengths (Cellar_s_state hx)) ?_
    refine q_callVF (pc := 154) dX11_account_154 kX11_312 (c_X0_alcohol (State_s_filled (Cellar_s_state hx)) (State_s_strengths (Cellar_s_state hx))) (Blend_sh (State_s_filled (Cellar_s_state hx))) rfl (Blend_lt (State_s_filled (Cellar_s_state hx))) ⟨Nat.le_of_ble_eq_true rfl, Nat.le_of_ble_eq_true rfl⟩ rfl rfl (Nat.le_of_ble_eq_true rfl) ?_
    show bq_W _ _ _ _ _ 157 _ [_] _ _ _ _ _ _
    exact q_lret (st := []) (pc := 157) dX11_account_157 rfl ⟨by rw [r_account_in (by decide)]; exact congrArg (fun z => some (Value.long z)) (acc_a hG (by decide) hb2 hst), rfl, rfl, rfl, rfl, rfl⟩
  by_cases s1_10 : k = nI 10
  · refine q_tableIn (pc := 1) (off := 157) 158 dX11_account_1 (by rw [s1_10]; decide) (by rw [s1_10]; decide) (by rw [s1_10]; rfl) (by decide) ?_
    subst s1_10
    refine q_aload_n (pc := 158) dX11_account_158 rfl rfl ?_
    refine q_getP (pc := 159) dX11_account_159 fX11_10 (Cellar_sh hx) ⟨by decide, rfl⟩ (Cellar_lt hx) (Cellar_p_state hx) ?_
    refine q_getP (pc := 162) dX11_account_162 fX11_254 (State_sh (Cellar_s_state hx)) ⟨by decide, rfl⟩ (State_lt (Cellar_s_state hx)) (State_p_lost (Cellar_s_state hx)) ?_
    refine q_aload_n (pc := 165) dX11_account_165 rfl rfl ?_
    refine q_getP (pc := 166) dX11_account_166 fX11_10 (Cellar_sh hx) ⟨by decide, rfl⟩ (Cellar_lt hx) (Cellar_p_state hx) ?_
    refine q_getP (pc := 169) dX11_account_169 fX11_233 (State_sh (Cellar_s_state hx)) ⟨by decide, rfl⟩ (State_lt (Cellar_s_state hx)) (State_p_strengths (Cellar_s_state hx)) ?_
    refine q_callVF (pc := 172) dX11_account_172 kX11_312 (c_X0_alcohol (State_s_lost (Cellar_s_state hx)) (State_s_strengths (Cellar_s_state hx))) (Blend_sh (State_s_lost (Cellar_s_state hx))) rfl (Blend_lt (State_s_lost (Cellar_s_state hx))) ⟨Nat.le_of_ble_eq_true rfl, Nat.le_of_ble_eq_true rfl⟩ rfl rfl (Nat.le_of_ble_eq_true rfl) ?_
    show bq_W _ _ _ _ _ 175 _ [_] _ _ _ _ _ _
    exact q_lret (st := []) (pc := 175) dX11_account_175 rfl ⟨by rw [r_account_in (by decide)]; exact congrArg (fun z => some (Value.long z)) (acc_a hG (by decide) hb3 hst), rfl, rfl, rfl, rfl, rfl⟩
  by_cases s1_11 : k = nI 11
  · refine q_tableIn (pc := 1) (off := 175) 176 dX11_account_1 (by rw [s1_11]; decide) (by rw [s1_11]; decide) (by rw [s1_11]; rfl) (by decide) ?_
    subst s1_11
    refine q_aload_n (pc := 176) dX11_account_176 rfl rfl ?_
    refine q_getP (pc := 177) dX11_account_177 fX11_10 (Cellar_sh hx) ⟨by decide, rfl⟩ (Cellar_lt hx) (Cellar_p_state hx) ?_
    refine q_callVF (pc := 180) dX11_account_180 kX11_179 (c_X8_openOrders (Cellar_s_state hx) hoc h2l) (State_sh (Cellar_s_state hx)) rfl (State_lt (Cellar_s_state hx)) ⟨Nat.le_of_ble_eq_true rfl, Nat.le_of_ble_eq_true rfl⟩ rfl rfl (Nat.le_of_ble_eq_true rfl) ?_
    show bq_W _ _ _ _ _ 183 _ [_] _ _ _ _ _ _
    refine q_i2l (pc := 183) dX11_account_183 ?_
    exact q_lret (st := []) (pc := 184) dX11_account_184 rfl ⟨by rw [r_account_in (by decide)]; exact congrArg (fun z => some (Value.long z)) (acc_o h2l ho4), rfl, rfl, rfl, rfl, rfl⟩
  by_cases s1_12 : k = nI 12
  · refine q_tableIn (pc := 1) (off := 184) 185 dX11_account_1 (by rw [s1_12]; decide) (by rw [s1_12]; decide) (by rw [s1_12]; rfl) (by decide) ?_
    subst s1_12
    refine q_aload_n (pc := 185) dX11_account_185 rfl rfl ?_
    refine q_getP (pc := 186) dX11_account_186 fX11_10 (Cellar_sh hx) ⟨by decide, rfl⟩ (Cellar_lt hx) (Cellar_p_state hx) ?_
    refine q_callVF (pc := 189) dX11_account_189 kX11_319 (c_X8_openLitres (Cellar_s_state hx) hoc h2l) (State_sh (Cellar_s_state hx)) rfl (State_lt (Cellar_s_state hx)) ⟨Nat.le_of_ble_eq_true rfl, Nat.le_of_ble_eq_true rfl⟩ rfl rfl (Nat.le_of_ble_eq_true rfl) ?_
    show bq_W _ _ _ _ _ 192 _ [_] _ _ _ _ _ _
    refine q_i2l (pc := 192) dX11_account_192 ?_
    exact q_lret (st := []) (pc := 193) dX11_account_193 rfl ⟨by rw [r_account_in (by decide)]; exact congrArg (fun z => some (Value.long z)) (acc_l hG h2l ho4 ho1), rfl, rfl, rfl, rfl, rfl⟩
  refine q_tableOut (pc := 1) 194 dX11_account_1 (bq_out 12 (by decide) (fun j hj => match j, hj with | 0, _ => s1_0 | 1, _ => s1_1 | 2, _ => s1_2 | 3, _ => s1_3 | 4, _ => s1_4 | 5, _ => s1_5 | 6, _ => s1_6 | 7, _ => s1_7 | 8, _ => s1_8 | 9, _ => s1_9 | 10, _ => s1_10 | 11, _ => s1_11 | 12, _ => s1_12 | j + 13, hj => absurd hj (by omega))) (by decide) ?_
  have hk : k < nI 0 ∨ ¬ k ≤ nI 12 := (bq_in5 k 12 (by decide)).resolve_right (fun ⟨q, hq, e⟩ => match q, hq, e with | 0, _, e => s1_0 e | 1, _, e => s1_1 e | 2, _, e => s1_2 e | 3, _, e => s1_3 e | 4, _, e => s1_4 e | 5, _, e => s1_5 e | 6, _, e => s1_6 e | 7, _, e => s1_7 e | 8, _, e => s1_8 e | 9, _, e => s1_9 e | 10, _, e => s1_10 e | 11, _, e => s1_11 e | 12, _, e => s1_12 e | q + 13, hq, _ => absurd hq (by omega))
  refine q_ldc2 (pc := 194) dX11_account_194 lX11_292 ?_
  exact q_lret (st := []) (pc := 197) dX11_account_197 rfl ⟨by rw [r_account_out hk], rfl, rfl, rfl, rfl, rfl⟩
