/-! the accounts -/
def ac (g : BqG) (q b : Nat) : Nat := if q = 1 then gb g b else gn g (124 + 5 * b + (if q < 1 then 1 else q))
theorem ac_b {g : BqG} {en b q : Nat} (hG : GI g en) (hb : b < 16) (hq : q ≤ 3) : ac g q b ≤ 9999 ∧ (gn g 1 ≤ b → ac g q b = 0) := by
  have h := hG.2.2.2.2.2.2.2.2.1 b hb
  unfold ac
  by_cases c : q = 1
  · rw [if_pos c]
    refine ⟨by omega, fun z => ?_⟩
    have := h.2.2.2 z
    omega
  · rw [if_neg c]
    by_cases c0 : q < 1
    · rw [if_pos c0, show 124 + 5 * b + 1 = 125 + 5 * b by omega]
      exact ⟨h.2.2.1, fun z => h.2.2.2 z⟩
    · rw [if_neg c0]
      have hq2 : q = 2 ∨ q = 3 := by omega
      rcases hq2 with e | e
      · rw [e, show 124 + 5 * b + 2 = 126 + 5 * b by omega]
        refine ⟨by omega, fun z => ?_⟩
        have := h.2.2.2 z
        omega
      · rw [e, show 124 + 5 * b + 3 = 127 + 5 * b by omega]
        refine ⟨by omega, fun z => ?_⟩
        have := h.2.2.2 z
        omega
theorem gb_sum {g : BqG} {en b : Nat} (hG : GI g en) (hb : b < 16) : bq_sum (fun i => g (13 + 19 * i + b)) 6 = nI (gb g b) :=
  bq_sum_n 6 (fun j hj => hG.n (by omega) (by omega))
theorem ac_of {g : BqG} {en b q : Nat} (hG : GI g en) (hb : b < 16) (hq : q ≤ 3) : n_ofBatch g b (nI (1 + q)) = nI (ac g q b) := by
  by_cases c : q = 1
  · subst c
    unfold n_ofBatch ac
    rw [if_neg (by decide), if_neg (by decide), if_pos rfl, if_pos rfl]
    exact gb_sum hG hb
  · rw [n_ofBatch_at (q := 1 + q) (by omega)]
    unfold ac
    rw [if_neg c, show (if 1 + q < 2 then 1 + q else 1 + q - 1) = (if q < 1 then 1 else q) from by split <;> split <;> omega]
    refine hG.n ?_ ?_ <;> split <;> omega
theorem ns_end {F : Nat → Nat} {c : Nat} (h : ∀ j, c ≤ j → j < 16 → F j = 0) : ∀ d, c + d ≤ 16 → ns F (c + d) = ns F c
  | 0, _ => rfl
  | d + 1, hd => by
    show ns F (c + d) + F (c + d) = _
    rw [ns_end h d (by omega), h (c + d) (by omega) (by omega)]
    rfl
theorem ns_16 {F : Nat → Nat} {c : Nat} (hc : c ≤ 16) (h : ∀ j, c ≤ j → j < 16 → F j = 0) : ns F c = ns F 16 := by
  have e := ns_end h (16 - c) (by omega)
  rw [show c + (16 - c) = 16 by omega] at e
  exact e.symm
def oL (g : BqG) : Nat → Nat
  | 0 => 0
  | i + 1 => if g (208 + 9 * i) = 0 then oL g i + gn g (205 + 9 * i) else oL g i
theorem oL_le {g : BqG} {en : Nat} (hG : GI g en) : ∀ k, k ≤ 10 → oL g k ≤ 9999 * k
  | 0, _ => Nat.le_refl _
  | k + 1, hk => by
    have ih := oL_le hG k (by omega)
    have ho := (hG.o (o := k) (by omega)).1
    show (if g (208 + 9 * k) = 0 then oL g k + gn g (205 + 9 * k) else oL g k) ≤ _
    split <;> omega
def n_account (g : BqG) (k : Nat) : Int64 := if k < 3 then lN (ns (ac g k) 16) else if k < 7 then (g (324 + k - 3)).toInt64 else if k < 11 then lN (ns (fun b => ac g (k - 7) b * gn g (124 + 5 * b)) 16) else if k = 11 then lN (bq_ct (fun i => g (208 + 9 * i)) 0 (gn g 2)) else lN (oL g (gn g 2))
def r_account (g : BqG) (k : Int32) : Int64 := if k < nI 0 ∨ ¬ k ≤ nI 12 then (-9223372036854775808) else n_account g k.toNatClampNeg
theorem r_account_out {g : BqG} {k : Int32} (h : k < nI 0 ∨ ¬ k ≤ nI 12) : r_account g k = (-9223372036854775808) := if_pos h
theorem r_account_in {g : BqG} {k : Nat} (h : k ≤ 12) : r_account g (nI k) = n_account g k := by
  unfold r_account
  rw [if_neg (bq_tin (k := 12) (by omega) (by decide)), nI_clamp (by omega)]
theorem acc_lit {g : BqG} {en k : Nat} (hG : GI g en) (h : k < 3) : r_account g (nI k) = lN (ns (ac g k) (gn g 1)) := by
  rw [r_account_in (by omega), ns_16 hG.2.2.1 (fun j h1 h2 => (ac_b hG h2 (by omega)).2 h1)]
  exact if_pos h
theorem acc_alc {g : BqG} {en k : Nat} (hG : GI g en) (h : 7 ≤ k) (h2 : k < 11) : r_account g (nI k) = lN (ns (fun b => ac g (k - 7) b * gn g (124 + 5 * b)) (gn g 1)) := by
  rw [r_account_in (by omega), ns_16 hG.2.2.1 (fun j h1 h2 => by show ac g (k - 7) j * _ = 0; rw [(ac_b hG h2 (by omega)).2 h1, Nat.zero_mul])]
  unfold n_account
  rw [if_neg (by omega), if_neg (by omega), if_pos h2]
theorem acc_lost {g : BqG} {k : Nat} (h : 3 ≤ k) (h2 : k < 7) : r_account g (nI k) = (g (324 + k - 3)).toInt64 := by
  rw [r_account_in (by omega)]
  unfold n_account
  rw [if_neg (by omega), if_pos h2]
theorem acc_oc {g : BqG} : r_account g (nI 11) = lN (bq_ct (fun i => g (208 + 9 * i)) 0 (gn g 2)) := by
  rw [r_account_in (by omega)]
  rfl
theorem acc_ol {g : BqG} : r_account g (nI 12) = lN (oL g (gn g 2)) := by
  rw [r_account_in (by omega)]
  rfl
theorem acc_cases (k : Int32) : (k < nI 0 ∨ ¬ k ≤ nI 12) ∨ ∃ q, k = nI q ∧ (q < 3 ∨ (3 ≤ q ∧ q < 7) ∨ (7 ≤ q ∧ q < 11) ∨ q = 11 ∨ q = 12) := by
  rcases bq_in5 k 12 (by decide) with h | ⟨q, hq, rfl⟩
  · exact Or.inl h
  · exact Or.inr ⟨q, rfl, by omega⟩
set_option maxHeartbeats 1000000 in
set_option maxRecDepth 20000 in
theorem o_account_a {S : BqH} {n : Nat} {I : BqI} {L : BqL} {P : BqP} {m : Nat} {g : BqG} (hm : oModel S n P m) (hg : I (m + 1) = g) {en : Nat} (hG : GI g en) {k : Int32} (hk : k < nI 0 ∨ ¬ k ≤ nI 12) : bq_Sp mX12_account 4 81 0 0 [.ref m, .int k] S n I L P (bq_F (some (.long (r_account g k))) S n I L P) := by
  refine q_entry (vs := [some (.ref m), some (.int k), none, none, none, none, none]) (by decide +kernel) (by simp) (Nat.le_of_ble_eq_true rfl) rfl ?_
  refine q_iload_n (pc := 0) dX12_account_0 rfl rfl ?_
  refine q_iconst (pc := 1) (v := nI 0) dX12_account_1 (by decide) ?_
  refine q_bipush (pc := 2) (v := nI 12) dX12_account_2 (by decide) ?_
  refine q_callSF (pc := 4) dX12_account_4 kX12_69 c_X12_in ⟨Nat.le_of_ble_eq_true rfl, Nat.le_of_ble_eq_true rfl⟩ rfl rfl (Nat.le_of_ble_eq_true rfl) ?_
  show bq_W _ _ _ _ _ 7 _ [_] _ _ _ _ _ _
  refine q_if_ne (pc := 7) 14 dX12_account_7 (by decide) (fun c_7 => ((c_7 (bq_nb0.mpr hk))).elim) (fun c_7 => ?_)
  refine q_ldc2 (pc := 10) dX12_account_10 lX12_233 ?_
  exact q_lret (st := []) (pc := 13) dX12_account_13 rfl ⟨by rw [r_account_out hk], rfl, rfl, rfl, rfl, rfl⟩
set_option maxHeartbeats 1000000 in
set_option maxRecDepth 20000 in
theorem o_account_b {S : BqH} {n : Nat} {I : BqI} {L : BqL} {P : BqP} {m : Nat} {g : BqG} (hm : oModel S n P m) (hg : I (m + 1) = g) {en : Nat} (hG : GI g en) {k : Nat} (hk1 : 3 ≤ k) (hk2 : k < 7) : bq_Sp mX12_account 4 81 0 0 [.ref m, .int (nI k)] S n I L P (bq_F (some (.long (r_account g (nI k)))) S n I L P) := by
  refine q_entry (vs := [some (.ref m), some (.int (nI k)), none, none, none, none, none]) (by decide +kernel) (by simp) (Nat.le_of_ble_eq_true rfl) rfl ?_
  refine q_iload_n (pc := 0) dX12_account_0 rfl rfl ?_
  refine q_iconst (pc := 1) (v := nI 0) dX12_account_1 (by decide) ?_
  refine q_bipush (pc := 2) (v := nI 12) dX12_account_2 (by decide) ?_
  refine q_callSF (pc := 4) dX12_account_4 kX12_69 c_X12_in ⟨Nat.le_of_ble_eq_true rfl, Nat.le_of_ble_eq_true rfl⟩ rfl rfl (Nat.le_of_ble_eq_true rfl) ?_
  show bq_W _ _ _ _ _ 7 _ [_] _ _ _ _ _ _
  refine q_if_ne (pc := 7) 14 dX12_account_7 (by decide) (fun c_7 => ?_) (fun c_7 => ((bq_tin (k := 12) (by omega) (by decide) (bq_nb0.mp c_7))).elim)
  refine q_iload_n (pc := 14) dX12_account_14 rfl rfl ?_
  refine q_iconst (pc := 15) (v := nI 2) dX12_account_15 (by decide) ?_
  refine q_icmp_le (pc := 16) 39 dX12_account_16 (by decide) (fun c_16 => absurd c_16 (nI_ge (show 2 < k by omega) (by omega))) (fun c_16 => ?_)
  refine q_iload_n (pc := 19) dX12_account_19 rfl rfl ?_
  refine q_bipush (pc := 20) (v := nI 7) dX12_account_20 (by decide) ?_
  refine q_icmp_ge (pc := 22) 39 dX12_account_22 (by decide) (fun c_22 => absurd c_22 (nI_ge hk2 (by decide))) (fun c_22 => ?_)
  refine q_aload_n (pc := 25) dX12_account_25 rfl rfl ?_
  refine q_getP (pc := 26) dX12_account_26 fX12_9 (Model_sh hm) ⟨by decide, rfl⟩ (Model_lt hm) (Model_p_g hm) ?_
  refine q_sipush (pc := 29) (v := nI 324) dX12_account_29 (by decide) ?_
  refine q_iload_n (pc := 32) dX12_account_32 rfl rfl ?_
  refine q_iaddN (pc := 33) dX12_account_33 ?_
  refine q_iconst (pc := 34) (v := nI 3) dX12_account_34 (by decide) ?_
  refine q_isub (pc := 35) dX12_account_35 ?_
  rw [pk_sub (by omega)]
  refine q_iald (pc := 36) dX12_account_36 (oA_sh (Model_s_g hm)) (oA_lt (Model_s_g hm)) rfl (by omega) ?_
  refine q_i2l (pc := 37) dX12_account_37 ?_
  exact q_lret (st := []) (pc := 38) dX12_account_38 rfl ⟨by rw [hg, acc_lost hk1 hk2], rfl, rfl, rfl, rfl, rfl⟩
set_option maxHeartbeats 1560000 in
set_option maxRecDepth 20000 in
theorem o_account_c {S : BqH} {n : Nat} {I : BqI} {L : BqL} {P : BqP} {m : Nat} {g : BqG} (hm : oModel S n P m) (hg : I (m + 1) = g) {en : Nat} (hG : GI g en) {k : Nat} (hk : k < 3) : bq_Sp mX12_account 4 81 0 0 [.ref m, .int (nI k)] S n I L P (bq_F (some (.long (r_account g (nI k)))) S n I L P) := by
  refine q_entry (vs := [some (.ref m), some (.int (nI k)), none, none, none, none, none]) (by decide +kernel) (by simp) (Nat.le_of_ble_eq_true rfl) rfl ?_
  have h1 : I (m + 1) 1 = nI (gn g 1) := by rw [hg]; exact hG.n (by decide) (by decide)
  have hl : gn g 1 ≤ 16 := hG.2.2.1
  have h2 : I (m + 1) 2 = nI (gn g 2) := by rw [hg]; exact hG.n (by decide) (by decide)
  have h2l : gn g 2 ≤ 10 := hG.2.2.2.1
  refine q_iload_n (pc := 0) dX12_account_0 rfl rfl ?_
  refine q_iconst (pc := 1) (v := nI 0) dX12_account_1 (by decide) ?_
  refine q_bipush (pc := 2) (v := nI 12) dX12_account_2 (by decide) ?_
  refine q_callSF (pc := 4) dX12_account_4 kX12_69 c_X12_in ⟨Nat.le_of_ble_eq_true rfl, Nat.le_of_ble_eq_true rfl⟩ rfl rfl (Nat.le_of_ble_eq_true rfl) ?_
  show bq_W _ _ _ _ _ 7 _ [_] _ _ _ _ _ _
  refine q_if_ne (pc := 7) 14 dX12_account_7 (by decide) (fun c_7 => ?_) (fun c_7 => ((bq_tin (k := 12) (by omega) (by decide) (bq_nb0.mp c_7))).elim)
  refine q_iload_n (pc := 14) dX12_account_14 rfl rfl ?_
  refine q_iconst (pc := 15) (v := nI 2) dX12_account_15 (by decide) ?_
  refine q_icmp_le (pc := 16) 39 dX12_account_16 (by decide) (fun c_16 => ?_) (fun c_16 => absurd (nI_le (show k ≤ 2 by omega) (by decide)) c_16)
  refine q_lconst (pc := 39) dX12_account_39 rfl ?_
  refine q_lstore_n (pc := 40) dX12_account_40 rfl (Nat.le_of_ble_eq_true rfl) rfl ?_
  show bq_W _ _ _ _ _ 41 [_, _, _, _, _, _, _] _ _ _ _ _ _ _
  refine q_iload_n (pc := 41) dX12_account_41 rfl rfl ?_
  refine q_bipush (pc := 42) (v := nI 10) dX12_account_42 (by decide) ?_
  refine q_icmp_le (pc := 44) 103 dX12_account_44 (by decide) (fun c_44 => ?_) (fun c_44 => absurd (nI_le (show k ≤ 10 by omega) (by decide)) c_44)
  refine q_iload_n (pc := 103) dX12_account_103 rfl rfl ?_
  refine q_iconst (pc := 104) (v := nI 3) dX12_account_104 (by decide) ?_
  refine q_icmp_ge (pc := 105) 112 dX12_account_105 (by decide) (fun c_105 => absurd c_105 (nI_ge hk (by decide))) (fun c_105 => ?_)
  refine q_iload_n (pc := 108) dX12_account_108 rfl rfl ?_
  refine q_goto (pc := 109) 116 dX12_account_109 (by decide) ?_
  refine q_istore (pc := 116) dX12_account_116 (Nat.le_of_ble_eq_true rfl) rfl ?_
  show bq_W _ _ _ _ _ 118 [_, _, _, _, _, _, _] _ _ _ _ _ _ _
  refine q_iconst (pc := 118) (v := nI 0) dX12_account_118 (by decide) ?_
  refine q_istore (pc := 119) dX12_account_119 (Nat.le_of_ble_eq_true rfl) rfl ?_
  show bq_W _ _ _ _ _ 121 [_, _, _, _, _, _, _] _ _ _ _ _ _ _
  have lp : ∀ i, i ≤ (gn g 1) → bq_W mX12_account 4 81 0 0 121 [some (.ref m), some (.int (nI k)), some (.long (lN (ns (ac g k) i))), none, some (.int (nI k)), some (.int (nI i)), none] [] S n I L P (bq_F (some (.long (r_account g (nI k)))) S n I L P) := by
    refine bq_down (A := fun i => bq_W mX12_account 4 81 0 0 121 [some (.ref m), some (.int (nI k)), some (.long (lN (ns (ac g k) i))), none, some (.int (nI k)), some (.int (nI i)), none] [] S n I L P (bq_F (some (.long (r_account g (nI k)))) S n I L P)) (gn g 1) ?_ ?_
    · refine q_iload (pc := 121) dX12_account_121 rfl ?_
      refine q_aload_n (pc := 123) dX12_account_123 rfl rfl ?_
      refine q_getP (pc := 124) dX12_account_124 fX12_9 (Model_sh hm) ⟨by decide, rfl⟩ (Model_lt hm) (Model_p_g hm) ?_
      refine q_iconst (pc := 127) (v := nI 1) dX12_account_127 (by decide) ?_
      refine q_iald (pc := 128) dX12_account_128 (oA_sh (Model_s_g hm)) (oA_lt (Model_s_g hm)) rfl (by omega) ?_
      rw [h1]
      refine q_icmp_ge (pc := 129) 175 dX12_account_129 (by decide) (fun c_129 => ?_) (fun c_129 => absurd (nI_le (Nat.le_refl _) (by omega)) c_129)
      refine q_lload_n (pc := 175) dX12_account_175 rfl rfl ?_
      exact q_lret (st := []) (pc := 176) dX12_account_176 rfl ⟨by rw [acc_lit hG hk], rfl, rfl, rfl, rfl, rfl⟩
    · intro i hi ih
      refine q_iload (pc := 121) dX12_account_121 rfl ?_
      refine q_aload_n (pc := 123) dX12_account_123 rfl rfl ?_
      refine q_getP (pc := 124) dX12_account_124 fX12_9 (Model_sh hm) ⟨by decide, rfl⟩ (Model_lt hm) (Model_p_g hm) ?_
      refine q_iconst (pc := 127) (v := nI 1) dX12_account_127 (by decide) ?_
      refine q_iald (pc := 128) dX12_account_128 (oA_sh (Model_s_g hm)) (oA_lt (Model_s_g hm)) rfl (by omega) ?_
      rw [h1]
      refine q_icmp_ge (pc := 129) 175 dX12_account_129 (by decide) (fun c_129 => absurd c_129 (nI_ge hi (by omega))) (fun c_129 => ?_)
      refine q_aload_n (pc := 132) dX12_account_132 rfl rfl ?_
      refine q_iload (pc := 133) dX12_account_133 rfl ?_
      refine q_iconst (pc := 135) (v := nI 1) dX12_account_135 (by decide) ?_
      refine q_iload (pc := 136) dX12_account_136 rfl ?_
      refine q_iaddN (pc := 138) dX12_account_138 ?_
      refine q_callVF (pc := 139) dX12_account_139 kX12_243 (o_ofBatch hm hg hG (b := nI i)) (Model_sh hm) rfl (Model_lt hm) ⟨Nat.le_of_ble_eq_true rfl, Nat.le_of_ble_eq_true rfl⟩ rfl rfl (Nat.le_of_ble_eq_true rfl) ?_
      show bq_W _ _ _ _ _ 142 _ [_] _ _ _ _ _ _
      have hi16 : i < 16 := Nat.lt_of_lt_of_le hi hl
      have ha := (ac_b (q := k) hG hi16 (by omega)).1
      rw [r_ofBatch_n hG hi, ac_of hG hi16 (by omega)]
      refine q_istore (pc := 142) dX12_account_142 (Nat.le_of_ble_eq_true rfl) rfl ?_
      show bq_W _ _ _ _ _ 144 [_, _, _, _, _, _, _] _ _ _ _ _ _ _
      refine q_lload_n (pc := 144) dX12_account_144 rfl rfl ?_
      refine q_iload_n (pc := 145) dX12_account_145 rfl rfl ?_
      refine q_iconst (pc := 146) (v := nI 3) dX12_account_146 (by decide) ?_
      refine q_icmp_ge (pc := 147) 156 dX12_account_147 (by decide) (fun c_147 => absurd c_147 (nI_ge hk (by decide))) (fun c_147 => ?_)
      refine q_iload (pc := 150) dX12_account_150 rfl ?_
      refine q_i2l (pc := 152) dX12_account_152 ?_
      refine q_goto (pc := 153) 167 dX12_account_153 (by decide) ?_
      refine q_ladd (pc := 167) dX12_account_167 ?_
      rw [nI_l (by omega), lN_add]
      refine q_lstore_n (pc := 168) dX12_account_168 rfl (Nat.le_of_ble_eq_true rfl) rfl ?_
      show bq_W _ _ _ _ _ 169 [_, _, _, _, _, _, _] _ _ _ _ _ _ _
      refine q_iinc (pc := 169) (v := nI (i + 1)) dX12_account_169 rfl (bq_inc _) (Nat.le_of_ble_eq_true rfl) rfl ?_
      show bq_W _ _ _ _ _ 172 [_, _, _, _, _, _, _] _ _ _ _ _ _ _
      refine q_goto (pc := 172) 121 dX12_account_172 (by decide) ?_
      refine q_wk (vs2 := [some (.ref m), some (.int (nI k)), some (.long (lN (ns (ac g k) (i + 1)))), none, some (.int (nI k)), some (.int (nI (i + 1))), none]) ⟨rfl, rfl, rfl, rfl, rfl, trivial⟩ ?_
      exact ih
  exact lp 0 (Nat.zero_le _)
set_option maxHeartbeats 1760000 in
set_option maxRecDepth 20000 in
theorem o_account_d {S : BqH} {n : Nat} {I : BqI} {L : BqL} {P : BqP} {m : Nat} {g : BqG} (hm : oModel S n P m) (hg : I (m + 1) = g) {en : Nat} (hG : GI g en) {k : Nat} (hk0 : 7 ≤ k) (hk2 : k < 11) : bq_Sp mX12_account 4 81 0 0 [.ref m, .int (nI k)] S n I L P (bq_F (some (.long (r_account g (nI k)))) S n I L P) := by
  refine q_entry (vs := [some (.ref m), some (.int (nI k)), none, none, none, none, none]) (by decide +kernel) (by simp) (Nat.le_of_ble_eq_true rfl) rfl ?_
  have h1 : I (m + 1) 1 = nI (gn g 1) := by rw [hg]; exact hG.n (by decide) (by decide)
  have hl : gn g 1 ≤ 16 := hG.2.2.1
  have h2 : I (m + 1) 2 = nI (gn g 2) := by rw [hg]; exact hG.n (by decide) (by decide)
  have h2l : gn g 2 ≤ 10 := hG.2.2.2.1
  refine q_iload_n (pc := 0) dX12_account_0 rfl rfl ?_
  refine q_iconst (pc := 1) (v := nI 0) dX12_account_1 (by decide) ?_
  refine q_bipush (pc := 2) (v := nI 12) dX12_account_2 (by decide) ?_
  refine q_callSF (pc := 4) dX12_account_4 kX12_69 c_X12_in ⟨Nat.le_of_ble_eq_true rfl, Nat.le_of_ble_eq_true rfl⟩ rfl rfl (Nat.le_of_ble_eq_true rfl) ?_
  show bq_W _ _ _ _ _ 7 _ [_] _ _ _ _ _ _
  refine q_if_ne (pc := 7) 14 dX12_account_7 (by decide) (fun c_7 => ?_) (fun c_7 => ((bq_tin (k := 12) (by omega) (by decide) (bq_nb0.mp c_7))).elim)
  refine q_iload_n (pc := 14) dX12_account_14 rfl rfl ?_
  refine q_iconst (pc := 15) (v := nI 2) dX12_account_15 (by decide) ?_
  refine q_icmp_le (pc := 16) 39 dX12_account_16 (by decide) (fun c_16 => absurd c_16 (nI_ge (show 2 < k by omega) (by omega))) (fun c_16 => ?_)
  refine q_iload_n (pc := 19) dX12_account_19 rfl rfl ?_
  refine q_bipush (pc := 20) (v := nI 7) dX12_account_20 (by decide) ?_
  refine q_icmp_ge (pc := 22) 39 dX12_account_22 (by decide) (fun c_22 => ?_) (fun c_22 => absurd (nI_le hk0 (by omega)) c_22)
  refine q_lconst (pc := 39) dX12_account_39 rfl ?_
  refine q_lstore_n (pc := 40) dX12_account_40 rfl (Nat.le_of_ble_eq_true rfl) rfl ?_
  show bq_W _ _ _ _ _ 41 [_, _, _, _, _, _, _] _ _ _ _ _ _ _
  refine q_iload_n (pc := 41) dX12_account_41 rfl rfl ?_
  refine q_bipush (pc := 42) (v := nI 10) dX12_account_42 (by decide) ?_
  refine q_icmp_le (pc := 44) 103 dX12_account_44 (by decide) (fun c_44 => ?_) (fun c_44 => absurd (nI_le (show k ≤ 10 by omega) (by decide)) c_44)
  refine q_iload_n (pc := 103) dX12_account_103 rfl rfl ?_
  refine q_iconst (pc := 104) (v := nI 3) dX12_account_104 (by decide) ?_
  refine q_icmp_ge (pc := 105) 112 dX12_account_105 (by decide) (fun c_105 => ?_) (fun c_105 => absurd (nI_le (show 3 ≤ k by omega) (by omega)) c_105)
  refine q_iload_n (pc := 112) dX12_account_112 rfl rfl ?_
  refine q_bipush (pc := 113) (v := nI 7) dX12_account_113 (by decide) ?_
  refine q_isub (pc := 115) dX12_account_115 ?_
  rw [pk_sub (by omega)]
  refine q_istore (pc := 116) dX12_account_116 (Nat.le_of_ble_eq_true rfl) rfl ?_
  show bq_W _ _ _ _ _ 118 [_, _, _, _, _, _, _] _ _ _ _ _ _ _
  refine q_iconst (pc := 118) (v := nI 0) dX12_account_118 (by decide) ?_
  refine q_istore (pc := 119) dX12_account_119 (Nat.le_of_ble_eq_true rfl) rfl ?_
  show bq_W _ _ _ _ _ 121 [_, _, _, _, _, _, _] _ _ _ _ _ _ _
  have lp : ∀ i, i ≤ (gn g 1) → bq_W mX12_account 4 81 0 0 121 [some (.ref m), some (.int (nI k)), some (.long (lN (ns (fun b => ac g (k - 7) b * gn g (124 + 5 * b)) i))), none, some (.int (nI (k - 7))), some (.int (nI i)), none] [] S n I L P (bq_F (some (.long (r_account g (nI k)))) S n I L P) := by
    refine bq_down (A := fun i => bq_W mX12_account 4 81 0 0 121 [some (.ref m), some (.int (nI k)), some (.long (lN (ns (fun b => ac g (k - 7) b * gn g (124 + 5 * b)) i))), none, some (.int (nI (k - 7))), some (.int (nI i)), none] [] S n I L P (bq_F (some (.long (r_account g (nI k)))) S n I L P)) (gn g 1) ?_ ?_
    · refine q_iload (pc := 121) dX12_account_121 rfl ?_
      refine q_aload_n (pc := 123) dX12_account_123 rfl rfl ?_
      refine q_getP (pc := 124) dX12_account_124 fX12_9 (Model_sh hm) ⟨by decide, rfl⟩ (Model_lt hm) (Model_p_g hm) ?_
      refine q_iconst (pc := 127) (v := nI 1) dX12_account_127 (by decide) ?_
      refine q_iald (pc := 128) dX12_account_128 (oA_sh (Model_s_g hm)) (oA_lt (Model_s_g hm)) rfl (by omega) ?_
      rw [h1]
      refine q_icmp_ge (pc := 129) 175 dX12_account_129 (by decide) (fun c_129 => ?_) (fun c_129 => absurd (nI_le (Nat.le_refl _) (by omega)) c_129)
      refine q_lload_n (pc := 175) dX12_account_175 rfl rfl ?_
      exact q_lret (st := []) (pc := 176) dX12_account_176 rfl ⟨by rw [acc_alc hG hk0 hk2], rfl, rfl, rfl, rfl, rfl⟩
    · intro i hi ih
      refine q_iload (pc := 121) dX12_account_121 rfl ?_
      refine q_aload_n (pc := 123) dX12_account_123 rfl rfl ?_
      refine q_getP (pc := 124) dX12_account_124 fX12_9 (Model_sh hm) ⟨by decide, rfl⟩ (Model_lt hm) (Model_p_g hm) ?_
      refine q_iconst (pc := 127) (v := nI 1) dX12_account_127 (by decide) ?_
      refine q_iald (pc := 128) dX12_account_128 (oA_sh (Model_s_g hm)) (oA_lt (Model_s_g hm)) rfl (by omega) ?_
      rw [h1]
      refine q_icmp_ge (pc := 129) 175 dX12_account_129 (by decide) (fun c_129 => absurd c_129 (nI_ge hi (by omega))) (fun c_129 => ?_)
      refine q_aload_n (pc := 132) dX12_account_132 rfl rfl ?_
      refine q_iload (pc := 133) dX12_account_133 rfl ?_
      refine q_iconst (pc := 135) (v := nI 1) dX12_account_135 (by decide) ?_
      refine q_iload (pc := 136) dX12_account_136 rfl ?_
      refine q_iaddN (pc := 138) dX12_account_138 ?_
      refine q_callVF (pc := 139) dX12_account_139 kX12_243 (o_ofBatch hm hg hG (b := nI i)) (Model_sh hm) rfl (Model_lt hm) ⟨Nat.le_of_ble_eq_true rfl, Nat.le_of_ble_eq_true rfl⟩ rfl rfl (Nat.le_of_ble_eq_true rfl) ?_
      show bq_W _ _ _ _ _ 142 _ [_] _ _ _ _ _ _
      have hi16 : i < 16 := Nat.lt_of_lt_of_le hi hl
      have ha := (ac_b (q := (k - 7)) hG hi16 (by omega)).1
      rw [r_ofBatch_n hG hi, ac_of hG hi16 (by omega)]
      refine q_istore (pc := 142) dX12_account_142 (Nat.le_of_ble_eq_true rfl) rfl ?_
      show bq_W _ _ _ _ _ 144 [_, _, _, _, _, _, _] _ _ _ _ _ _ _
      refine q_lload_n (pc := 144) dX12_account_144 rfl rfl ?_
      refine q_iload_n (pc := 145) dX12_account_145 rfl rfl ?_
      refine q_iconst (pc := 146) (v := nI 3) dX12_account_146 (by decide) ?_
      refine q_icmp_ge (pc := 147) 156 dX12_account_147 (by decide) (fun c_147 => ?_) (fun c_147 => absurd (nI_le (show 3 ≤ k by omega) (by omega)) c_147)
      refine q_iload (pc := 156) dX12_account_156 rfl ?_
      refine q_i2l (pc := 158) dX12_account_158 ?_
      refine q_aload_n (pc := 159) dX12_account_159 rfl rfl ?_
      refine q_iload (pc := 160) dX12_account_160 rfl ?_
      refine q_callVF (pc := 162) dX12_account_162 kX12_80 (c_X12_strengthOf hm (b := i) (by omega)) (Model_sh hm) rfl (Model_lt hm) ⟨Nat.le_of_ble_eq_true rfl, Nat.le_of_ble_eq_true rfl⟩ rfl rfl (Nat.le_of_ble_eq_true rfl) ?_
      show bq_W _ _ _ _ _ 165 _ [_, _, _] _ _ _ _ _ _
      refine q_i2l (pc := 165) dX12_account_165 ?_
      refine q_lmul (pc := 166) dX12_account_166 ?_
      refine q_ladd (pc := 167) dX12_account_167 ?_
      rw [hg, hG.n (k := 124 + 5 * i) (by omega) (by omega), nI_l (by omega), nI_l (hG.1 (124 + 5 * i) (by omega) (by omega)).2, lN_mul, lN_add]
      refine q_lstore_n (pc := 168) dX12_account_168 rfl (Nat.le_of_ble_eq_true rfl) rfl ?_
      show bq_W _ _ _ _ _ 169 [_, _, _, _, _, _, _] _ _ _ _ _ _ _
      refine q_iinc (pc := 169) (v := nI (i + 1)) dX12_account_169 rfl (bq_inc _) (Nat.le_of_ble_eq_true rfl) rfl ?_
      show bq_W _ _ _ _ _ 172 [_, _, _, _, _, _, _] _ _ _ _ _ _ _
      refine q_goto (pc := 172) 121 dX12_account_172 (by decide) ?_
      refine q_wk (vs2 := [some (.ref m), some (.int (nI k)), some (.long (lN (ns (fun b => ac g (k - 7) b * gn g (124 + 5 * b)) (i + 1)))), none, some (.int (nI (k - 7))), some (.int (nI (i + 1))), none]) ⟨rfl, rfl, rfl, rfl, rfl, trivial⟩ ?_
      exact ih
  exact lp 0 (Nat.zero_le _)
set_option maxHeartbeats 1640000 in
set_option maxRecDepth 20000 in
theorem o_account_e {S : BqH} {n : Nat} {I : BqI} {L : BqL} {P : BqP} {m : Nat} {g : BqG} (hm : oModel S n P m) (hg : I (m + 1) = g) {en : Nat} (hG : GI g en) : bq_Sp mX12_account 4 81 0 0 [.ref m, .int (nI 11)] S n I L P (bq_F (some (.long (r_account g (nI 11)))) S n I L P) := by
  refine q_entry (vs := [some (.ref m), some (.int (nI 11)), none, none, none, none, none]) (by decide +kernel) (by simp) (Nat.le_of_ble_eq_true rfl) rfl ?_
  have h1 : I (m + 1) 1 = nI (gn g 1) := by rw [hg]; exact hG.n (by decide) (by decide)
  have hl : gn g 1 ≤ 16 := hG.2.2.1
  have h2 : I (m + 1) 2 = nI (gn g 2) := by rw [hg]; exact hG.n (by decide) (by decide)
  have h2l : gn g 2 ≤ 10 := hG.2.2.2.1
  refine q_iload_n (pc := 0) dX12_account_0 rfl rfl ?_
  refine q_iconst (pc := 1) (v := nI 0) dX12_account_1 (by decide) ?_
  refine q_bipush (pc := 2) (v := nI 12) dX12_account_2 (by decide) ?_
  refine q_callSF (pc := 4) dX12_account_4 kX12_69 c_X12_in ⟨Nat.le_of_ble_eq_true rfl, Nat.le_of_ble_eq_true rfl⟩ rfl rfl (Nat.le_of_ble_eq_true rfl) ?_
  show bq_W _ _ _ _ _ 7 _ [_] _ _ _ _ _ _
  refine q_if_ne (pc := 7) 14 dX12_account_7 (by decide) (fun c_7 => ?_) (fun c_7 => ((bq_tin (k := 12) (by decide) (by decide) (bq_nb0.mp c_7))).elim)
  refine q_iload_n (pc := 14) dX12_account_14 rfl rfl ?_
  refine q_iconst (pc := 15) (v := nI 2) dX12_account_15 (by decide) ?_
  refine q_icmp_le (pc := 16) 39 dX12_account_16 (by decide) (fun c_16 => absurd c_16 (by decide)) (fun c_16 => ?_)
  refine q_iload_n (pc := 19) dX12_account_19 rfl rfl ?_
  refine q_bipush (pc := 20) (v := nI 7) dX12_account_20 (by decide) ?_
  refine q_icmp_ge (pc := 22) 39 dX12_account_22 (by decide) (fun c_22 => ?_) (fun c_22 => absurd (by decide) c_22)
  refine q_lconst (pc := 39) dX12_account_39 rfl ?_
  refine q_lstore_n (pc := 40) dX12_account_40 rfl (Nat.le_of_ble_eq_true rfl) rfl ?_
  show bq_W _ _ _ _ _ 41 [_, _, _, _, _, _, _] _ _ _ _ _ _ _
  refine q_iload_n (pc := 41) dX12_account_41 rfl rfl ?_
  refine q_bipush (pc := 42) (v := nI 10) dX12_account_42 (by decide) ?_
  refine q_icmp_le (pc := 44) 103 dX12_account_44 (by decide) (fun c_44 => absurd c_44 (by decide)) (fun c_44 => ?_)
  refine q_iconst (pc := 47) (v := nI 0) dX12_account_47 (by decide) ?_
  refine q_istore (pc := 48) dX12_account_48 (Nat.le_of_ble_eq_true rfl) rfl ?_
  show bq_W _ _ _ _ _ 50 [_, _, _, _, _, _, _] _ _ _ _ _ _ _
  have lp : ∀ i, i ≤ (gn g 2) → bq_W mX12_account 4 81 0 0 50 [some (.ref m), some (.int (nI 11)), some (.long (lN (bq_ct (fun i => g (208 + 9 * i)) 0 i))), none, some (.int (nI i)), none, none] [] S n I L P (bq_F (some (.long (r_account g (nI 11)))) S n I L P) := by
    refine bq_down (A := fun i => bq_W mX12_account 4 81 0 0 50 [some (.ref m), some (.int (nI 11)), some (.long (lN (bq_ct (fun i => g (208 + 9 * i)) 0 i))), none, some (.int (nI i)), none, none] [] S n I L P (bq_F (some (.long (r_account g (nI 11)))) S n I L P)) (gn g 2) ?_ ?_
    · refine q_iload (pc := 50) dX12_account_50 rfl ?_
      refine q_aload_n (pc := 52) dX12_account_52 rfl rfl ?_
      refine q_getP (pc := 53) dX12_account_53 fX12_9 (Model_sh hm) ⟨by decide, rfl⟩ (Model_lt hm) (Model_p_g hm) ?_
      refine q_iconst (pc := 56) (v := nI 2) dX12_account_56 (by decide) ?_
      refine q_iald (pc := 57) dX12_account_57 (oA_sh (Model_s_g hm)) (oA_lt (Model_s_g hm)) rfl (by omega) ?_
      rw [h2]
      refine q_icmp_ge (pc := 58) 101 dX12_account_58 (by decide) (fun c_58 => ?_) (fun c_58 => absurd (nI_le (Nat.le_refl _) (by omega)) c_58)
      refine q_lload_n (pc := 101) dX12_account_101 rfl rfl ?_
      exact q_lret (st := []) (pc := 102) dX12_account_102 rfl ⟨by rw [acc_oc], rfl, rfl, rfl, rfl, rfl⟩
    · intro i hi ih
      refine q_iload (pc := 50) dX12_account_50 rfl ?_
      refine q_aload_n (pc := 52) dX12_account_52 rfl rfl ?_
      refine q_getP (pc := 53) dX12_account_53 fX12_9 (Model_sh hm) ⟨by decide, rfl⟩ (Model_lt hm) (Model_p_g hm) ?_
      refine q_iconst (pc := 56) (v := nI 2) dX12_account_56 (by decide) ?_
      refine q_iald (pc := 57) dX12_account_57 (oA_sh (Model_s_g hm)) (oA_lt (Model_s_g hm)) rfl (by omega) ?_
      rw [h2]
      refine q_icmp_ge (pc := 58) 101 dX12_account_58 (by decide) (fun c_58 => absurd c_58 (nI_ge hi (by omega))) (fun c_58 => ?_)
      refine q_lload_n (pc := 61) dX12_account_61 rfl rfl ?_
      refine q_aload_n (pc := 62) dX12_account_62 rfl rfl ?_
      refine q_iload (pc := 63) dX12_account_63 rfl ?_
      refine q_callVF (pc := 65) dX12_account_65 kX12_121 (c_isOpen_in hm h2 h2l (o := i) hi) (Model_sh hm) rfl (Model_lt hm) ⟨Nat.le_of_ble_eq_true rfl, Nat.le_of_ble_eq_true rfl⟩ rfl rfl (Nat.le_of_ble_eq_true rfl) ?_
      show bq_W _ _ _ _ _ 68 _ [_, _] _ _ _ _ _ _
      refine q_if_eq (pc := 68) 92 dX12_account_68 (by decide) (fun c_68 => ?_) (fun c_68 => ?_)
      · replace c_68 := bq_b0.mp c_68
        rw [hg] at c_68
        refine q_lconst (pc := 92) dX12_account_92 rfl ?_
        refine q_ladd (pc := 93) dX12_account_93 ?_
        show bq_W _ _ _ _ _ (93 + 1) _ [.long (_ + lN 0)] _ _ _ _ _ _
        rw [lN_add, Nat.add_zero]
        refine q_lstore_n (pc := 94) dX12_account_94 rfl (Nat.le_of_ble_eq_true rfl) rfl ?_
        show bq_W _ _ _ _ _ 95 [_, _, _, _, _, _, _] _ _ _ _ _ _ _
        refine q_iinc (pc := 95) (v := nI (i + 1)) dX12_account_95 rfl (bq_inc _) (Nat.le_of_ble_eq_true rfl) rfl ?_
        show bq_W _ _ _ _ _ 98 [_, _, _, _, _, _, _] _ _ _ _ _ _ _
        refine q_goto (pc := 98) 50 dX12_account_98 (by decide) ?_
        rw [show (bq_ct (fun i => g (208 + 9 * i)) 0 (i + 1)) = _ from if_neg c_68] at ih
        exact ih
      · replace c_68 := bq_bn.mp c_68
        rw [hg] at c_68
        refine q_iload_n (pc := 71) dX12_account_71 rfl rfl ?_
        refine q_bipush (pc := 72) (v := nI 11) dX12_account_72 (by decide) ?_
        refine q_icmp_ne (pc := 74) 81 dX12_account_74 (by decide) (fun c_74 => ((absurd rfl c_74 : False)).elim) (fun c_74 => ?_)
        refine q_lconst (pc := 77) dX12_account_77 rfl ?_
        refine q_goto (pc := 78) 93 dX12_account_78 (by decide) ?_
        refine q_ladd (pc := 93) dX12_account_93 ?_
        show bq_W _ _ _ _ _ (93 + 1) _ [.long (_ + lN 1)] _ _ _ _ _ _
        rw [lN_add]
        refine q_lstore_n (pc := 94) dX12_account_94 rfl (Nat.le_of_ble_eq_true rfl) rfl ?_
        show bq_W _ _ _ _ _ 95 [_, _, _, _, _, _, _] _ _ _ _ _ _ _
        refine q_iinc (pc := 95) (v := nI (i + 1)) dX12_account_95 rfl (bq_inc _) (Nat.le_of_ble_eq_true rfl) rfl ?_
        show bq_W _ _ _ _ _ 98 [_, _, _, _, _, _, _] _ _ _ _ _ _ _
        refine q_goto (pc := 98) 50 dX12_account_98 (by decide) ?_
        rw [show (bq_ct (fun i => g (208 + 9 * i)) 0 (i + 1)) = _ from if_pos c_68] at ih
        exact ih
  exact lp 0 (Nat.zero_le _)
set_option maxHeartbeats 1740000 in
set_option maxRecDepth 20000 in
theorem o_account_f {S : BqH} {n : Nat} {I : BqI} {L : BqL} {P : BqP} {m : Nat} {g : BqG} (hm : oModel S n P m) (hg : I (m + 1) = g) {en : Nat} (hG : GI g en) : bq_Sp mX12_account 4 81 0 0 [.ref m, .int (nI 12)] S n I L P (bq_F (some (.long (r_account g (nI 12)))) S n I L P) := by
  refine q_entry (vs := [some (.ref m), some (.int (nI 12)), none, none, none, none, none]) (by decide +kernel) (by simp) (Nat.le_of_ble_eq_true rfl) rfl ?_
  have h1 : I (m + 1) 1 = nI (gn g 1) := by rw [hg]; exact hG.n (by decide) (by decide)
  have hl : gn g 1 ≤ 16 := hG.2.2.1
  have h2 : I (m + 1) 2 = nI (gn g 2) := by rw [hg]; exact hG.n (by decide) (by decide)
  have h2l : gn g 2 ≤ 10 := hG.2.2.2.1
  refine q_iload_n (pc := 0) dX12_account_0 rfl rfl ?_
  refine q_iconst (pc := 1) (v := nI 0) dX12_account_1 (by decide) ?_
  refine q_bipush (pc := 2) (v := nI 12) dX12_account_2 (by decide) ?_
  refine q_callSF (pc := 4) dX12_account_4 kX12_69 c_X12_in ⟨Nat.le_of_ble_eq_true rfl, Nat.le_of_ble_eq_true rfl⟩ rfl rfl (Nat.le_of_ble_eq_true rfl) ?_
  show bq_W _ _ _ _ _ 7 _ [_] _ _ _ _ _ _
  refine q_if_ne (pc := 7) 14 dX12_account_7 (by decide) (fun c_7 => ?_) (fun c_7 => ((bq_tin (k := 12) (by decide) (by decide) (bq_nb0.mp c_7))).elim)
  refine q_iload_n (pc := 14) dX12_account_14 rfl rfl ?_
  refine q_iconst (pc := 15) (v := nI 2) dX12_account_15 (by decide) ?_
  refine q_icmp_le (pc := 16) 39 dX12_account_16 (by decide) (fun c_16 => absurd c_16 (by decide)) (fun c_16 => ?_)
  refine q_iload_n (pc := 19) dX12_account_19 rfl rfl ?_
  refine q_bipush (pc := 20) (v := nI 7) dX12_account_20 (by decide) ?_
  refine q_icmp_ge (pc := 22) 39 dX12_account_22 (by decide) (fun c_22 => ?_) (fun c_22 => absurd (by decide) c_22)
  refine q_lconst (pc := 39) dX12_account_39 rfl ?_
  refine q_lstore_n (pc := 40) dX12_account_40 rfl (Nat.le_of_ble_eq_true rfl) rfl ?_
  show bq_W _ _ _ _ _ 41 [_, _, _, _, _, _, _] _ _ _ _ _ _ _
  refine q_iload_n (pc := 41) dX12_account_41 rfl rfl ?_
  refine q_bipush (pc := 42) (v := nI 10) dX12_account_42 (by decide) ?_
  refine q_icmp_le (pc := 44) 103 dX12_account_44 (by decide) (fun c_44 => absurd c_44 (by decide)) (fun c_44 => ?_)
  refine q_iconst (pc := 47) (v := nI 0) dX12_account_47 (by decide) ?_
  refine q_istore (pc := 48) dX12_account_48 (Nat.le_of_ble_eq_true rfl) rfl ?_
  show bq_W _ _ _ _ _ 50 [_, _, _, _, _, _, _] _ _ _ _ _ _ _
  have lp : ∀ i, i ≤ (gn g 2) → bq_W mX12_account 4 81 0 0 50 [some (.ref m), some (.int (nI 12)), some (.long (lN (oL g i))), none, some (.int (nI i)), none, none] [] S n I L P (bq_F (some (.long (r_account g (nI 12)))) S n I L P) := by
    refine bq_down (A := fun i => bq_W mX12_account 4 81 0 0 50 [some (.ref m), some (.int (nI 12)), some (.long (lN (oL g i))), none, some (.int (nI i)), none, none] [] S n I L P (bq_F (some (.long (r_account g (nI 12)))) S n I L P)) (gn g 2) ?_ ?_
    · refine q_iload (pc := 50) dX12_account_50 rfl ?_
      refine q_aload_n (pc := 52) dX12_account_52 rfl rfl ?_
      refine q_getP (pc := 53) dX12_account_53 fX12_9 (Model_sh hm) ⟨by decide, rfl⟩ (Model_lt hm) (Model_p_g hm) ?_
      refine q_iconst (pc := 56) (v := nI 2) dX12_account_56 (by decide) ?_
      refine q_iald (pc := 57) dX12_account_57 (oA_sh (Model_s_g hm)) (oA_lt (Model_s_g hm)) rfl (by omega) ?_
      rw [h2]
      refine q_icmp_ge (pc := 58) 101 dX12_account_58 (by decide) (fun c_58 => ?_) (fun c_58 => absurd (nI_le (Nat.le_refl _) (by omega)) c_58)
      refine q_lload_n (pc := 101) dX12_account_101 rfl rfl ?_
      exact q_lret (st := []) (pc := 102) dX12_account_102 rfl ⟨by rw [acc_ol], rfl, rfl, rfl, rfl, rfl⟩
    · intro i hi ih
      refine q_iload (pc := 50) dX12_account_50 rfl ?_
      refine q_aload_n (pc := 52) dX12_account_52 rfl rfl ?_
      refine q_getP (pc := 53) dX12_account_53 fX12_9 (Model_sh hm) ⟨by decide, rfl⟩ (Model_lt hm) (Model_p_g hm) ?_
      refine q_iconst (pc := 56) (v := nI 2) dX12_account_56 (by decide) ?_
      refine q_iald (pc := 57) dX12_account_57 (oA_sh (Model_s_g hm)) (oA_lt (Model_s_g hm)) rfl (by omega) ?_
      rw [h2]
      refine q_icmp_ge (pc := 58) 101 dX12_account_58 (by decide) (fun c_58 => absurd c_58 (nI_ge hi (by omega))) (fun c_58 => ?_)
      refine q_lload_n (pc := 61) dX12_account_61 rfl rfl ?_
      refine q_aload_n (pc := 62) dX12_account_62 rfl rfl ?_
      refine q_iload (pc := 63) dX12_account_63 rfl ?_
      refine q_callVF (pc := 65) dX12_account_65 kX12_121 (c_isOpen_in hm h2 h2l (o := i) hi) (Model_sh hm) rfl (Model_lt hm) ⟨Nat.le_of_ble_eq_true rfl, Nat.le_of_ble_eq_true rfl⟩ rfl rfl (Nat.le_of_ble_eq_true rfl) ?_
      show bq_W _ _ _ _ _ 68 _ [_, _] _ _ _ _ _ _
      refine q_if_eq (pc := 68) 92 dX12_account_68 (by decide) (fun c_68 => ?_) (fun c_68 => ?_)
      · replace c_68 := bq_b0.mp c_68
        rw [hg] at c_68
        refine q_lconst (pc := 92) dX12_account_92 rfl ?_
        refine q_ladd (pc := 93) dX12_account_93 ?_
        show bq_W _ _ _ _ _ (93 + 1) _ [.long (_ + lN 0)] _ _ _ _ _ _
        rw [lN_add, Nat.add_zero]
        refine q_lstore_n (pc := 94) dX12_account_94 rfl (Nat.le_of_ble_eq_true rfl) rfl ?_
        show bq_W _ _ _ _ _ 95 [_, _, _, _, _, _, _] _ _ _ _ _ _ _
        refine q_iinc (pc := 95) (v := nI (i + 1)) dX12_account_95 rfl (bq_inc _) (Nat.le_of_ble_eq_true rfl) rfl ?_
        show bq_W _ _ _ _ _ 98 [_, _, _, _, _, _, _] _ _ _ _ _ _ _
        refine q_goto (pc := 98) 50 dX12_account_98 (by decide) ?_
        rw [show (oL g (i + 1)) = _ from if_neg c_68] at ih
        exact ih
      · replace c_68 := bq_bn.mp c_68
        rw [hg] at c_68
        refine q_iload_n (pc := 71) dX12_account_71 rfl rfl ?_
        refine q_bipush (pc := 72) (v := nI 11) dX12_account_72 (by decide) ?_
        refine q_icmp_ne (pc := 74) 81 dX12_account_74 (by decide) (fun c_74 => ?_) (fun c_74 => ((absurd c_74 (by decide) : False)).elim)
        refine q_aload_n (pc := 81) dX12_account_81 rfl rfl ?_
        refine q_iload (pc := 82) dX12_account_82 rfl ?_
        refine q_iconst (pc := 84) (v := nI 1) dX12_account_84 (by decide) ?_
        refine q_callVF (pc := 85) dX12_account_85 kX12_118 (c_oA hm (o := i) (k := 1) (j := 205 + 9 * i) (by omega) (by omega)) (Model_sh hm) rfl (Model_lt hm) ⟨Nat.le_of_ble_eq_true rfl, Nat.le_of_ble_eq_true rfl⟩ rfl rfl (Nat.le_of_ble_eq_true rfl) ?_
        show bq_W _ _ _ _ _ 88 _ [_, _] _ _ _ _ _ _
        refine q_i2l (pc := 88) dX12_account_88 ?_
        refine q_goto (pc := 89) 93 dX12_account_89 (by decide) ?_
        refine q_ladd (pc := 93) dX12_account_93 ?_
        have ho := (hG.o (o := i) (by omega)).1
        rw [hg, hG.n (k := 205 + 9 * i) (by omega) (by omega), nI_l (by omega), lN_add]
        refine q_lstore_n (pc := 94) dX12_account_94 rfl (Nat.le_of_ble_eq_true rfl) rfl ?_
        show bq_W _ _ _ _ _ 95 [_, _, _, _, _, _, _] _ _ _ _ _ _ _
        refine q_iinc (pc := 95) (v := nI (i + 1)) dX12_account_95 rfl (bq_inc _) (Nat.le_of_ble_eq_true rfl) rfl ?_
        show bq_W _ _ _ _ _ 98 [_, _, _, _, _, _, _] _ _ _ _ _ _ _
        refine q_goto (pc := 98) 50 dX12_account_98 (by decide) ?_
        rw [show (oL g (i + 1)) = _ from if_pos c_68] at ih
        exact ih
  exact lp 0 (Nat.zero_le _)
theorem o_account {S : BqH} {n : Nat} {I : BqI} {L : BqL} {P : BqP} {m : Nat} {g : BqG} (hm : oModel S n P m) (hg : I (m + 1) = g) {en : Nat} (hG : GI g en) {k : Int32} : bq_Sp mX12_account 4 81 0 0 [.ref m, .int k] S n I L P (bq_F (some (.long (r_account g k))) S n I L P) := by
  rcases acc_cases k with h | ⟨q, rfl, h | ⟨h1, h2⟩ | ⟨h1, h2⟩ | rfl | rfl⟩
  · exact o_account_a hm hg hG h
  · exact o_account_c hm hg hG h
  · exact o_account_b hm hg hG h1 h2
  · exact o_account_d hm hg hG h1 h2
  · exact o_account_e hm hg hG
  · exact o_account_f hm hg hG
