/-! the model's feeding -/
def FM (m : Nat) (I0 I : BqI) (l : Nat) (F : Nat → Int32) : Prop := I m 9 = nI l ∧ (∀ j, j < 60 → I (m + 5) j = F j) ∧ (∀ a, a ≠ m → a ≠ m + 5 → I a = I0 a) ∧ ∀ k, k ≠ 9 → I m k = I0 m k
theorem FM.ap {m l : Nat} {I0 I : BqI} {F : Nat → Int32} {v : Int32} (h : FM m I0 I l F) : FM m I0 (bq_u (bq_u I (m + 5) l v) m 9 (nI (l + 1))) (l + 1) (bq_r F l v) := by
  obtain ⟨h0, h1, h2, h3⟩ := h
  refine ⟨bq_u_at _ _ _ _, fun j hj => ?_, fun a q1 q2 => ?_, fun k q => ?_⟩
  · rw [bq_u_ne (by omega)]
    by_cases e : j = l
    · rw [e, bq_u_at, bq_r_self]
    · rw [bq_u_no (fun z => e z.2), bq_r_ne e]; exact h1 j hj
  · rw [bq_u_ne q1, bq_u_ne q2]; exact h2 a q1 q2
  · rw [bq_u_no (fun z => q z.2), bq_u_ne (by omega)]; exact h3 k q
def qFm (m : Nat) (I : BqI) (S : BqH) (n : Nat) (L : BqL) (P : BqP) (w : Int32 × Nat × (Nat → Int32)) : BqQ := fun r S' n' I' L' P' => r = some (.int w.1) ∧ S' = S ∧ n' = n ∧ L' = L ∧ P' = P ∧ FM m I I' w.2.1 w.2.2
set_option maxHeartbeats 1060000 in
set_option maxRecDepth 20000 in
theorem o_feed_a {S : BqH} {n : Nat} {I : BqI} {L : BqL} {P : BqP} {m : Nat} (hm : oModel S n P m) {l : Nat} (h0 : I m 9 = nI l) (hl : l ≤ 60) {k : Int32} {a b c d e : Int32} (hb : (k < nI 1 ∨ ¬ k ≤ nI 5) ∨ (a < nI 0 ∨ ¬ a ≤ nI 127) ∨ (b < nI 0 ∨ ¬ b ≤ nI 127) ∨ (c < nI 0 ∨ ¬ c ≤ nI 127) ∨ (d < nI 0 ∨ ¬ d ≤ nI 127) ∨ (e < nI 0 ∨ ¬ e ≤ nI 127)) : bq_Sp mX12_feed 3 54 0 0 [.ref m, .int k, .int a, .int b, .int c, .int d, .int e] S n I L P (qFm m I S n L P (p_feed l (I (m + 5)) k a b c d e)) := by
  refine q_entry (vs := [some (.ref m), some (.int k), some (.int a), some (.int b), some (.int c), some (.int d), some (.int e), none]) (by decide +kernel) (by simp) (Nat.le_of_ble_eq_true rfl) rfl ?_
  have f0 : FM m I I l (I (m + 5)) := ⟨h0, fun _ _ => rfl, fun _ _ _ => rfl, fun _ _ => rfl⟩
  refine q_iload_n (pc := 0) dX12_feed_0 rfl rfl ?_
  refine q_iconst (pc := 1) (v := nI 1) dX12_feed_1 (by decide) ?_
  refine q_iconst (pc := 2) (v := nI 5) dX12_feed_2 (by decide) ?_
  refine q_callSF (pc := 3) dX12_feed_3 kX12_69 c_X12_in ⟨Nat.le_of_ble_eq_true rfl, Nat.le_of_ble_eq_true rfl⟩ rfl rfl (Nat.le_of_ble_eq_true rfl) ?_
  show bq_W _ _ _ _ _ 6 _ [_] _ _ _ _ _ _
  refine q_if_eq (pc := 6) 47 dX12_feed_6 (by decide) (fun c_6 => ?_) (fun c_6 => ?_)
  · replace c_6 := bq_nb0.mp c_6
    refine q_bipush (pc := 47) (v := (-2)) dX12_feed_47 (by decide) ?_
    exact q_iret (st := []) (pc := 49) dX12_feed_49 rfl ⟨by rw [p_feed_bad hb], rfl, rfl, rfl, rfl, by rw [p_feed_bad hb]; exact f0⟩
  · replace c_6 := bq_nbn.mp c_6
    refine q_iload_n (pc := 9) dX12_feed_9 rfl rfl ?_
    refine q_callSF (pc := 10) dX12_feed_10 kX12_172 c_X12_isByte ⟨Nat.le_of_ble_eq_true rfl, Nat.le_of_ble_eq_true rfl⟩ rfl rfl (Nat.le_of_ble_eq_true rfl) ?_
    show bq_W _ _ _ _ _ 13 _ [_] _ _ _ _ _ _
    refine q_if_eq (pc := 13) 47 dX12_feed_13 (by decide) (fun c_13 => ?_) (fun c_13 => ?_)
    · replace c_13 := bq_nb0.mp c_13
      refine q_bipush (pc := 47) (v := (-2)) dX12_feed_47 (by decide) ?_
      exact q_iret (st := []) (pc := 49) dX12_feed_49 rfl ⟨by rw [p_feed_bad hb], rfl, rfl, rfl, rfl, by rw [p_feed_bad hb]; exact f0⟩
    · replace c_13 := bq_nbn.mp c_13
      refine q_iload_n (pc := 16) dX12_feed_16 rfl rfl ?_
      refine q_callSF (pc := 17) dX12_feed_17 kX12_172 c_X12_isByte ⟨Nat.le_of_ble_eq_true rfl, Nat.le_of_ble_eq_true rfl⟩ rfl rfl (Nat.le_of_ble_eq_true rfl) ?_
      show bq_W _ _ _ _ _ 20 _ [_] _ _ _ _ _ _
      refine q_if_eq (pc := 20) 47 dX12_feed_20 (by decide) (fun c_20 => ?_) (fun c_20 => ?_)
      · replace c_20 := bq_nb0.mp c_20
        refine q_bipush (pc := 47) (v := (-2)) dX12_feed_47 (by decide) ?_
        exact q_iret (st := []) (pc := 49) dX12_feed_49 rfl ⟨by rw [p_feed_bad hb], rfl, rfl, rfl, rfl, by rw [p_feed_bad hb]; exact f0⟩
      · replace c_20 := bq_nbn.mp c_20
        refine q_iload (pc := 23) dX12_feed_23 rfl ?_
        refine q_callSF (pc := 25) dX12_feed_25 kX12_172 c_X12_isByte ⟨Nat.le_of_ble_eq_true rfl, Nat.le_of_ble_eq_true rfl⟩ rfl rfl (Nat.le_of_ble_eq_true rfl) ?_
        show bq_W _ _ _ _ _ 28 _ [_] _ _ _ _ _ _
        refine q_if_eq (pc := 28) 47 dX12_feed_28 (by decide) (fun c_28 => ?_) (fun c_28 => ?_)
        · replace c_28 := bq_nb0.mp c_28
          refine q_bipush (pc := 47) (v := (-2)) dX12_feed_47 (by decide) ?_
          exact q_iret (st := []) (pc := 49) dX12_feed_49 rfl ⟨by rw [p_feed_bad hb], rfl, rfl, rfl, rfl, by rw [p_feed_bad hb]; exact f0⟩
        · replace c_28 := bq_nbn.mp c_28
          refine q_iload (pc := 31) dX12_feed_31 rfl ?_
          refine q_callSF (pc := 33) dX12_feed_33 kX12_172 c_X12_isByte ⟨Nat.le_of_ble_eq_true rfl, Nat.le_of_ble_eq_true rfl⟩ rfl rfl (Nat.le_of_ble_eq_true rfl) ?_
          show bq_W _ _ _ _ _ 36 _ [_] _ _ _ _ _ _
          refine q_if_eq (pc := 36) 47 dX12_feed_36 (by decide) (fun c_36 => ?_) (fun c_36 => ?_)
          · replace c_36 := bq_nb0.mp c_36
            refine q_bipush (pc := 47) (v := (-2)) dX12_feed_47 (by decide) ?_
            exact q_iret (st := []) (pc := 49) dX12_feed_49 rfl ⟨by rw [p_feed_bad hb], rfl, rfl, rfl, rfl, by rw [p_feed_bad hb]; exact f0⟩
          · replace c_36 := bq_nbn.mp c_36
            refine q_iload (pc := 39) dX12_feed_39 rfl ?_
            refine q_callSF (pc := 41) dX12_feed_41 kX12_172 c_X12_isByte ⟨Nat.le_of_ble_eq_true rfl, Nat.le_of_ble_eq_true rfl⟩ rfl rfl (Nat.le_of_ble_eq_true rfl) ?_
            show bq_W _ _ _ _ _ 44 _ [_] _ _ _ _ _ _
            refine q_if_ne (pc := 44) 50 dX12_feed_44 (by decide) (fun c_44 => ?_) (fun c_44 => ?_)
            · replace c_44 := bq_nbn.mp c_44
              exact absurd hb (fun z => z.elim c_6 (fun z => z.elim c_13 (fun z => z.elim c_20 (fun z => z.elim c_28 (fun z => z.elim c_36 c_44)))))
            · replace c_44 := bq_nb0.mp c_44
              refine q_bipush (pc := 47) (v := (-2)) dX12_feed_47 (by decide) ?_
              exact q_iret (st := []) (pc := 49) dX12_feed_49 rfl ⟨by rw [p_feed_bad hb], rfl, rfl, rfl, rfl, by rw [p_feed_bad hb]; exact f0⟩
set_option maxHeartbeats 1000000 in
set_option maxRecDepth 20000 in
theorem o_feed_b {S : BqH} {n : Nat} {I : BqI} {L : BqL} {P : BqP} {m : Nat} (hm : oModel S n P m) {l : Nat} (h0 : I m 9 = nI l) (hl : l ≤ 60) {k : Nat} (k1 : 1 ≤ k) (k5 : k ≤ 5) {a b c d e : Int32} (ha : ¬ (a < nI 0 ∨ ¬ a ≤ nI 127)) (hb : ¬ (b < nI 0 ∨ ¬ b ≤ nI 127)) (hc : ¬ (c < nI 0 ∨ ¬ c ≤ nI 127)) (hd : ¬ (d < nI 0 ∨ ¬ d ≤ nI 127)) (he : ¬ (e < nI 0 ∨ ¬ e ≤ nI 127)) (hf : 60 < l + k) : bq_Sp mX12_feed 3 54 0 0 [.ref m, .int (nI k), .int a, .int b, .int c, .int d, .int e] S n I L P (qFm m I S n L P (p_feed l (I (m + 5)) (nI k) a b c d e)) := by
  refine q_entry (vs := [some (.ref m), some (.int (nI k)), some (.int a), some (.int b), some (.int c), some (.int d), some (.int e), none]) (by decide +kernel) (by simp) (Nat.le_of_ble_eq_true rfl) rfl ?_
  have f0 : FM m I I l (I (m + 5)) := ⟨h0, fun _ _ => rfl, fun _ _ _ => rfl, fun _ _ => rfl⟩
  refine q_iload_n (pc := 0) dX12_feed_0 rfl rfl ?_
  refine q_iconst (pc := 1) (v := nI 1) dX12_feed_1 (by decide) ?_
  refine q_iconst (pc := 2) (v := nI 5) dX12_feed_2 (by decide) ?_
  refine q_callSF (pc := 3) dX12_feed_3 kX12_69 c_X12_in ⟨Nat.le_of_ble_eq_true rfl, Nat.le_of_ble_eq_true rfl⟩ rfl rfl (Nat.le_of_ble_eq_true rfl) ?_
  show bq_W _ _ _ _ _ 6 _ [_] _ _ _ _ _ _
  refine q_if_eq (pc := 6) 47 dX12_feed_6 (by decide) (fun c_6 => (((bq_nin (by omega) (by omega) (by decide)) (bq_nb0.mp c_6) : False)).elim) (fun c_6 => ?_)
  refine q_iload_n (pc := 9) dX12_feed_9 rfl rfl ?_
  refine q_callSF (pc := 10) dX12_feed_10 kX12_172 c_X12_isByte ⟨Nat.le_of_ble_eq_true rfl, Nat.le_of_ble_eq_true rfl⟩ rfl rfl (Nat.le_of_ble_eq_true rfl) ?_
  show bq_W _ _ _ _ _ 13 _ [_] _ _ _ _ _ _
  refine q_if_eq (pc := 13) 47 dX12_feed_13 (by decide) (fun c_13 => ((ha (bq_nb0.mp c_13))).elim) (fun c_13 => ?_)
  refine q_iload_n (pc := 16) dX12_feed_16 rfl rfl ?_
  refine q_callSF (pc := 17) dX12_feed_17 kX12_172 c_X12_isByte ⟨Nat.le_of_ble_eq_true rfl, Nat.le_of_ble_eq_true rfl⟩ rfl rfl (Nat.le_of_ble_eq_true rfl) ?_
  show bq_W _ _ _ _ _ 20 _ [_] _ _ _ _ _ _
  refine q_if_eq (pc := 20) 47 dX12_feed_20 (by decide) (fun c_20 => ((hb (bq_nb0.mp c_20))).elim) (fun c_20 => ?_)
  refine q_iload (pc := 23) dX12_feed_23 rfl ?_
  refine q_callSF (pc := 25) dX12_feed_25 kX12_172 c_X12_isByte ⟨Nat.le_of_ble_eq_true rfl, Nat.le_of_ble_eq_true rfl⟩ rfl rfl (Nat.le_of_ble_eq_true rfl) ?_
  show bq_W _ _ _ _ _ 28 _ [_] _ _ _ _ _ _
  refine q_if_eq (pc := 28) 47 dX12_feed_28 (by decide) (fun c_28 => ((hc (bq_nb0.mp c_28))).elim) (fun c_28 => ?_)
  refine q_iload (pc := 31) dX12_feed_31 rfl ?_
  refine q_callSF (pc := 33) dX12_feed_33 kX12_172 c_X12_isByte ⟨Nat.le_of_ble_eq_true rfl, Nat.le_of_ble_eq_true rfl⟩ rfl rfl (Nat.le_of_ble_eq_true rfl) ?_
  show bq_W _ _ _ _ _ 36 _ [_] _ _ _ _ _ _
  refine q_if_eq (pc := 36) 47 dX12_feed_36 (by decide) (fun c_36 => ((hd (bq_nb0.mp c_36))).elim) (fun c_36 => ?_)
  refine q_iload (pc := 39) dX12_feed_39 rfl ?_
  refine q_callSF (pc := 41) dX12_feed_41 kX12_172 c_X12_isByte ⟨Nat.le_of_ble_eq_true rfl, Nat.le_of_ble_eq_true rfl⟩ rfl rfl (Nat.le_of_ble_eq_true rfl) ?_
  show bq_W _ _ _ _ _ 44 _ [_] _ _ _ _ _ _
  refine q_if_ne (pc := 44) 50 dX12_feed_44 (by decide) (fun c_44 => ?_) (fun c_44 => ((he (bq_nb0.mp c_44))).elim)
  refine q_aload_n (pc := 50) dX12_feed_50 rfl rfl ?_
  refine q_getI (pc := 51) dX12_feed_51 fX12_175 (Model_sh hm) ⟨by decide, rfl⟩ (Model_lt hm) ?_
  rw [h0]
  refine q_iload_n (pc := 54) dX12_feed_54 rfl rfl ?_
  refine q_iaddN (pc := 55) dX12_feed_55 ?_
  refine q_bipush (pc := 56) (v := nI 60) dX12_feed_56 (by decide) ?_
  refine q_icmp_le (pc := 58) 64 dX12_feed_58 (by decide) (fun c_58 => absurd c_58 (nI_ge hf (by omega))) (fun c_58 => ?_)
  refine q_bipush (pc := 61) (v := (-4)) dX12_feed_61 (by decide) ?_
  exact q_iret (st := []) (pc := 63) dX12_feed_63 rfl ⟨by rw [p_feed_full k1 k5 ha hb hc hd he hf], rfl, rfl, rfl, rfl, by rw [p_feed_full k1 k5 ha hb hc hd he hf]; exact f0⟩
set_option maxHeartbeats 1400000 in
set_option maxRecDepth 20000 in
theorem o_feed_k1 {S : BqH} {n : Nat} {I : BqI} {L : BqL} {P : BqP} {m : Nat} (hm : oModel S n P m) {l : Nat} (h0 : I m 9 = nI l) (hl : l ≤ 60) {a b c d e : Int32} (ha : ¬ (a < nI 0 ∨ ¬ a ≤ nI 127)) (hb : ¬ (b < nI 0 ∨ ¬ b ≤ nI 127)) (hc : ¬ (c < nI 0 ∨ ¬ c ≤ nI 127)) (hd : ¬ (d < nI 0 ∨ ¬ d ≤ nI 127)) (he : ¬ (e < nI 0 ∨ ¬ e ≤ nI 127)) (hf : ¬ 60 < l + 1) : bq_Sp mX12_feed 3 54 0 0 [.ref m, .int (nI 1), .int a, .int b, .int c, .int d, .int e] S n I L P (qFm m I S n L P (p_feed l (I (m + 5)) (nI 1) a b c d e)) := by
  refine q_entry (vs := [some (.ref m), some (.int (nI 1)), some (.int a), some (.int b), some (.int c), some (.int d), some (.int e), none]) (by decide +kernel) (by simp) (Nat.le_of_ble_eq_true rfl) rfl ?_
  have f0 : FM m I I l (I (m + 5)) := ⟨h0, fun _ _ => rfl, fun _ _ _ => rfl, fun _ _ => rfl⟩
  refine q_iload_n (pc := 0) dX12_feed_0 rfl rfl ?_
  refine q_iconst (pc := 1) (v := nI 1) dX12_feed_1 (by decide) ?_
  refine q_iconst (pc := 2) (v := nI 5) dX12_feed_2 (by decide) ?_
  refine q_callSF (pc := 3) dX12_feed_3 kX12_69 c_X12_in ⟨Nat.le_of_ble_eq_true rfl, Nat.le_of_ble_eq_true rfl⟩ rfl rfl (Nat.le_of_ble_eq_true rfl) ?_
  show bq_W _ _ _ _ _ 6 _ [_] _ _ _ _ _ _
  refine q_if_eq (pc := 6) 47 dX12_feed_6 (by decide) (fun c_6 => (((bq_nin (by omega) (by omega) (by decide)) (bq_nb0.mp c_6) : False)).elim) (fun c_6 => ?_)
  refine q_iload_n (pc := 9) dX12_feed_9 rfl rfl ?_
  refine q_callSF (pc := 10) dX12_feed_10 kX12_172 c_X12_isByte ⟨Nat.le_of_ble_eq_true rfl, Nat.le_of_ble_eq_true rfl⟩ rfl rfl (Nat.le_of_ble_eq_true rfl) ?_
  show bq_W _ _ _ _ _ 13 _ [_] _ _ _ _ _ _
  refine q_if_eq (pc := 13) 47 dX12_feed_13 (by decide) (fun c_13 => ((ha (bq_nb0.mp c_13))).elim) (fun c_13 => ?_)
  refine q_iload_n (pc := 16) dX12_feed_16 rfl rfl ?_
  refine q_callSF (pc := 17) dX12_feed_17 kX12_172 c_X12_isByte ⟨Nat.le_of_ble_eq_true rfl, Nat.le_of_ble_eq_true rfl⟩ rfl rfl (Nat.le_of_ble_eq_true rfl) ?_
  show bq_W _ _ _ _ _ 20 _ [_] _ _ _ _ _ _
  refine q_if_eq (pc := 20) 47 dX12_feed_20 (by decide) (fun c_20 => ((hb (bq_nb0.mp c_20))).elim) (fun c_20 => ?_)
  refine q_iload (pc := 23) dX12_feed_23 rfl ?_
  refine q_callSF (pc := 25) dX12_feed_25 kX12_172 c_X12_isByte ⟨Nat.le_of_ble_eq_true rfl, Nat.le_of_ble_eq_true rfl⟩ rfl rfl (Nat.le_of_ble_eq_true rfl) ?_
  show bq_W _ _ _ _ _ 28 _ [_] _ _ _ _ _ _
  refine q_if_eq (pc := 28) 47 dX12_feed_28 (by decide) (fun c_28 => ((hc (bq_nb0.mp c_28))).elim) (fun c_28 => ?_)
  refine q_iload (pc := 31) dX12_feed_31 rfl ?_
  refine q_callSF (pc := 33) dX12_feed_33 kX12_172 c_X12_isByte ⟨Nat.le_of_ble_eq_true rfl, Nat.le_of_ble_eq_true rfl⟩ rfl rfl (Nat.le_of_ble_eq_true rfl) ?_
  show bq_W _ _ _ _ _ 36 _ [_] _ _ _ _ _ _
  refine q_if_eq (pc := 36) 47 dX12_feed_36 (by decide) (fun c_36 => ((hd (bq_nb0.mp c_36))).elim) (fun c_36 => ?_)
  refine q_iload (pc := 39) dX12_feed_39 rfl ?_
  refine q_callSF (pc := 41) dX12_feed_41 kX12_172 c_X12_isByte ⟨Nat.le_of_ble_eq_true rfl, Nat.le_of_ble_eq_true rfl⟩ rfl rfl (Nat.le_of_ble_eq_true rfl) ?_
  show bq_W _ _ _ _ _ 44 _ [_] _ _ _ _ _ _
  refine q_if_ne (pc := 44) 50 dX12_feed_44 (by decide) (fun c_44 => ?_) (fun c_44 => ((he (bq_nb0.mp c_44))).elim)
  refine q_aload_n (pc := 50) dX12_feed_50 rfl rfl ?_
  refine q_getI (pc := 51) dX12_feed_51 fX12_175 (Model_sh hm) ⟨by decide, rfl⟩ (Model_lt hm) ?_
  rw [h0]
  refine q_iload_n (pc := 54) dX12_feed_54 rfl rfl ?_
  refine q_iaddN (pc := 55) dX12_feed_55 ?_
  refine q_bipush (pc := 56) (v := nI 60) dX12_feed_56 (by decide) ?_
  refine q_icmp_le (pc := 58) 64 dX12_feed_58 (by decide) (fun c_58 => ?_) (fun c_58 => absurd (nI_le (show l + 1 ≤ 60 by omega) (by decide)) c_58)
  refine q_iconst (pc := 64) (v := nI 0) dX12_feed_64 (by decide) ?_
  refine q_istore (pc := 65) dX12_feed_65 (Nat.le_of_ble_eq_true rfl) rfl ?_
  show bq_W _ _ _ _ _ 67 [_, _, _, _, _, _, _, _] _ _ _ _ _ _ _
  refine q_iload (pc := 67) dX12_feed_67 rfl ?_
  refine q_iload_n (pc := 69) dX12_feed_69 rfl rfl ?_
  refine q_icmp_ge (pc := 70) 141 dX12_feed_70 (by decide) (fun c_70 => absurd c_70 (by decide)) (fun c_70 => ?_)
  refine q_aload_n (pc := 73) dX12_feed_73 rfl rfl ?_
  refine q_getP (pc := 74) dX12_feed_74 fX12_22 (Model_sh hm) ⟨by decide, rfl⟩ (Model_lt hm) (Model_p_tape hm) ?_
  refine q_aload_n (pc := 77) dX12_feed_77 rfl rfl ?_
  refine q_getI (pc := 78) dX12_feed_78 fX12_175 (Model_sh hm) ⟨by decide, rfl⟩ (Model_lt hm) ?_
  rw [f0.1]
  refine q_iload (pc := 81) dX12_feed_81 rfl ?_
  refine q_if_ne (pc := 83) 90 dX12_feed_83 (by decide) (fun c_83 => absurd c_83 (by decide)) (fun c_83 => ?_)
  refine q_iload_n (pc := 86) dX12_feed_86 rfl rfl ?_
  refine q_goto (pc := 87) 124 dX12_feed_87 (by decide) ?_
  refine q_iast (pc := 124) dX12_feed_124 (oA_sh (Model_s_tape hm)) (oA_lt (Model_s_tape hm)) rfl (by omega) ?_
  refine q_aload_n (pc := 125) dX12_feed_125 rfl rfl ?_
  refine q_dup (pc := 126) dX12_feed_126 rfl ?_
  refine q_getI (pc := 127) dX12_feed_127 fX12_175 (Model_sh hm) ⟨by decide, rfl⟩ (Model_lt hm) ?_
  rw [bq_u_ne (show m ≠ m + 5 by omega), f0.1]
  refine q_iconst (pc := 130) (v := nI 1) dX12_feed_130 (by decide) ?_
  refine q_iaddN (pc := 131) dX12_feed_131 ?_
  refine q_putI (pc := 132) dX12_feed_132 (pX12_175 _) (Model_sh hm) ⟨by decide, rfl⟩ (Model_lt hm) ?_
  refine q_nameI (fun J1 e1 => ?_)
  have f1 := (FM.ap (v := a) f0)
  rw [← e1] at f1
  refine q_iinc (pc := 135) (v := nI (0 + 1)) dX12_feed_135 rfl (bq_inc _) (Nat.le_of_ble_eq_true rfl) rfl ?_
  show bq_W _ _ _ _ _ 138 [_, _, _, _, _, _, _, _] _ _ _ _ _ _ _
  refine q_goto (pc := 138) 67 dX12_feed_138 (by decide) ?_
  refine q_iload (pc := 67) dX12_feed_67 rfl ?_
  refine q_iload_n (pc := 69) dX12_feed_69 rfl rfl ?_
  refine q_icmp_ge (pc := 70) 141 dX12_feed_70 (by decide) (fun c_70 => ?_) (fun c_70 => absurd (by decide) c_70)
  refine q_aload_n (pc := 141) dX12_feed_141 rfl rfl ?_
  refine q_getI (pc := 142) dX12_feed_142 fX12_175 (Model_sh hm) ⟨by decide, rfl⟩ (Model_lt hm) ?_
  exact q_iret (st := []) (pc := 145) dX12_feed_145 rfl ⟨by rw [p_feed_ok (by decide) (by decide) ha hb hc hd he hf, f1.1], rfl, rfl, rfl, rfl, by rw [p_feed_ok (by decide) (by decide) ha hb hc hd he hf]; exact ⟨f1.1, fun j hj => (f1.2.1 j hj).trans (fb_1), f1.2.2⟩⟩
set_option maxHeartbeats 1980000 in
set_option maxRecDepth 20000 in
theorem o_feed_k2 {S : BqH} {n : Nat} {I : BqI} {L : BqL} {P : BqP} {m : Nat} (hm : oModel S n P m) {l : Nat} (h0 : I m 9 = nI l) (hl : l ≤ 60) {a b c d e : Int32} (ha : ¬ (a < nI 0 ∨ ¬ a ≤ nI 127)) (hb : ¬ (b < nI 0 ∨ ¬ b ≤ nI 127)) (hc : ¬ (c < nI 0 ∨ ¬ c ≤ nI 127)) (hd : ¬ (d < nI 0 ∨ ¬ d ≤ nI 127)) (he : ¬ (e < nI 0 ∨ ¬ e ≤ nI 127)) (hf : ¬ 60 < l + 2) : bq_Sp mX12_feed 3 54 0 0 [.ref m, .int (nI 2), .int a, .int b, .int c, .int d, .int e] S n I L P (qFm m I S n L P (p_feed l (I (m + 5)) (nI 2) a b c d e)) := by
  refine q_entry (vs := [some (.ref m), some (.int (nI 2)), some (.int a), some (.int b), some (.int c), some (.int d), some (.int e), none]) (by decide +kernel) (by simp) (Nat.le_of_ble_eq_true rfl) rfl ?_
  have f0 : FM m I I l (I (m + 5)) := ⟨h0, fun _ _ => rfl, fun _ _ _ => rfl, fun _ _ => rfl⟩
  refine q_iload_n (pc := 0) dX12_feed_0 rfl rfl ?_
  refine q_iconst (pc := 1) (v := nI 1) dX12_feed_1 (by decide) ?_
  refine q_iconst (pc := 2) (v := nI 5) dX12_feed_2 (by decide) ?_
  refine q_callSF (pc := 3) dX12_feed_3 kX12_69 c_X12_in ⟨Nat.le_of_ble_eq_true rfl, Nat.le_of_ble_eq_true rfl⟩ rfl rfl (Nat.le_of_ble_eq_true rfl) ?_
  show bq_W _ _ _ _ _ 6 _ [_] _ _ _ _ _ _
  refine q_if_eq (pc := 6) 47 dX12_feed_6 (by decide) (fun c_6 => (((bq_nin (by omega) (by omega) (by decide)) (bq_nb0.mp c_6) : False)).elim) (fun c_6 => ?_)
  refine q_iload_n (pc := 9) dX12_feed_9 rfl rfl ?_
  refine q_callSF (pc := 10) dX12_feed_10 kX12_172 c_X12_isByte ⟨Nat.le_of_ble_eq_true rfl, Nat.le_of_ble_eq_true rfl⟩ rfl rfl (Nat.le_of_ble_eq_true rfl) ?_
  show bq_W _ _ _ _ _ 13 _ [_] _ _ _ _ _ _
  refine q_if_eq (pc := 13) 47 dX12_feed_13 (by decide) (fun c_13 => ((ha (bq_nb0.mp c_13))).elim) (fun c_13 => ?_)
  refine q_iload_n (pc := 16) dX12_feed_16 rfl rfl ?_
  refine q_callSF (pc := 17) dX12_feed_17 kX12_172 c_X12_isByte ⟨Nat.le_of_ble_eq_true rfl, Nat.le_of_ble_eq_true rfl⟩ rfl rfl (Nat.le_of_ble_eq_true rfl) ?_
  show bq_W _ _ _ _ _ 20 _ [_] _ _ _ _ _ _
  refine q_if_eq (pc := 20) 47 dX12_feed_20 (by decide) (fun c_20 => ((hb (bq_nb0.mp c_20))).elim) (fun c_20 => ?_)
  refine q_iload (pc := 23) dX12_feed_23 rfl ?_
  refine q_callSF (pc := 25) dX12_feed_25 kX12_172 c_X12_isByte ⟨Nat.le_of_ble_eq_true rfl, Nat.le_of_ble_eq_true rfl⟩ rfl rfl (Nat.le_of_ble_eq_true rfl) ?_
  show bq_W _ _ _ _ _ 28 _ [_] _ _ _ _ _ _
  refine q_if_eq (pc := 28) 47 dX12_feed_28 (by decide) (fun c_28 => ((hc (bq_nb0.mp c_28))).elim) (fun c_28 => ?_)
  refine q_iload (pc := 31) dX12_feed_31 rfl ?_
  refine q_callSF (pc := 33) dX12_feed_33 kX12_172 c_X12_isByte ⟨Nat.le_of_ble_eq_true rfl, Nat.le_of_ble_eq_true rfl⟩ rfl rfl (Nat.le_of_ble_eq_true rfl) ?_
  show bq_W _ _ _ _ _ 36 _ [_] _ _ _ _ _ _
  refine q_if_eq (pc := 36) 47 dX12_feed_36 (by decide) (fun c_36 => ((hd (bq_nb0.mp c_36))).elim) (fun c_36 => ?_)
  refine q_iload (pc := 39) dX12_feed_39 rfl ?_
  refine q_callSF (pc := 41) dX12_feed_41 kX12_172 c_X12_isByte ⟨Nat.le_of_ble_eq_true rfl, Nat.le_of_ble_eq_true rfl⟩ rfl rfl (Nat.le_of_ble_eq_true rfl) ?_
  show bq_W _ _ _ _ _ 44 _ [_] _ _ _ _ _ _
  refine q_if_ne (pc := 44) 50 dX12_feed_44 (by decide) (fun c_44 => ?_) (fun c_44 => ((he (bq_nb0.mp c_44))).elim)
  refine q_aload_n (pc := 50) dX12_feed_50 rfl rfl ?_
  refine q_getI (pc := 51) dX12_feed_51 fX12_175 (Model_sh hm) ⟨by decide, rfl⟩ (Model_lt hm) ?_
  rw [h0]
  refine q_iload_n (pc := 54) dX12_feed_54 rfl rfl ?_
  refine q_iaddN (pc := 55) dX12_feed_55 ?_
  refine q_bipush (pc := 56) (v := nI 60) dX12_feed_56 (by decide) ?_
  refine q_icmp_le (pc := 58) 64 dX12_feed_58 (by decide) (fun c_58 => ?_) (fun c_58 => absurd (nI_le (show l + 2 ≤ 60 by omega) (by decide)) c_58)
  refine q_iconst (pc := 64) (v := nI 0) dX12_feed_64 (by decide) ?_
  refine q_istore (pc := 65) dX12_feed_65 (Nat.le_of_ble_eq_true rfl) rfl ?_
  show bq_W _ _ _ _ _ 67 [_, _, _, _, _, _, _, _] _ _ _ _ _ _ _
  refine q_iload (pc := 67) dX12_feed_67 rfl ?_
  refine q_iload_n (pc := 69) dX12_feed_69 rfl rfl ?_
  refine q_icmp_ge (pc := 70) 141 dX12_feed_70 (by decide) (fun c_70 => absurd c_70 (by decide)) (fun c_70 => ?_)
  refine q_aload_n (pc := 73) dX12_feed_73 rfl rfl ?_
  refine q_getP (pc := 74) dX12_feed_74 fX12_22 (Model_sh hm) ⟨by decide, rfl⟩ (Model_lt hm) (Model_p_tape hm) ?_
  refine q_aload_n (pc := 77) dX12_feed_77 rfl rfl ?_
  refine q_getI (pc := 78) dX12_feed_78 fX12_175 (Model_sh hm) ⟨by decide, rfl⟩ (Model_lt hm) ?_
  rw [f0.1]
  refine q_iload (pc := 81) dX12_feed_81 rfl ?_
  refine q_if_ne (pc := 83) 90 dX12_feed_83 (by decide) (fun c_83 => absurd c_83 (by decide)) (fun c_83 => ?_)
  refine q_iload_n (pc := 86) dX12_feed_86 rfl rfl ?_
  refine q_goto (pc := 87) 124 dX12_feed_87 (by decide) ?_
  refine q_iast (pc := 124) dX12_feed_124 (oA_sh (Model_s_tape hm)) (oA_lt (Model_s_tape hm)) rfl (by omega) ?_
  refine q_aload_n (pc := 125) dX12_feed_125 rfl rfl ?_
  refine q_dup (pc := 126) dX12_feed_126 rfl ?_
  refine q_getI (pc := 127) dX12_feed_127 fX12_175 (Model_sh hm) ⟨by decide, rfl⟩ (Model_lt hm) ?_
  rw [bq_u_ne (show m ≠ m + 5 by omega), f0.1]
  refine q_iconst (pc := 130) (v := nI 1) dX12_feed_130 (by decide) ?_
  refine q_iaddN (pc := 131) dX12_feed_131 ?_
  refine q_putI (pc := 132) dX12_feed_132 (pX12_175 _) (Model_sh hm) ⟨by decide, rfl⟩ (Model_lt hm) ?_
  refine q_nameI (fun J1 e1 => ?_)
  have f1 := (FM.ap (v := a) f0)
  rw [← e1] at f1
  refine q_iinc (pc := 135) (v := nI (0 + 1)) dX12_feed_135 rfl (bq_inc _) (Nat.le_of_ble_eq_true rfl) rfl ?_
  show bq_W _ _ _ _ _ 138 [_, _, _, _, _, _, _, _] _ _ _ _ _ _ _
  refine q_goto (pc := 138) 67 dX12_feed_138 (by decide) ?_
  refine q_iload (pc := 67) dX12_feed_67 rfl ?_
  refine q_iload_n (pc := 69) dX12_feed_69 rfl rfl ?_
  refine q_icmp_ge (pc := 70) 141 dX12_feed_70 (by decide) (fun c_70 => absurd c_70 (by decide)) (fun c_70 => ?_)
  refine q_aload_n (pc := 73) dX12_feed_73 rfl rfl ?_
  refine q_getP (pc := 74) dX12_feed_74 fX12_22 (Model_sh hm) ⟨by decide, rfl⟩ (Model_lt hm) (Model_p_tape hm) ?_
  refine q_aload_n (pc := 77) dX12_feed_77 rfl rfl ?_
  refine q_getI (pc := 78) dX12_feed_78 fX12_175 (Model_sh hm) ⟨by decide, rfl⟩ (Model_lt hm) ?_
  rw [f1.1]
  refine q_iload (pc := 81) dX12_feed_81 rfl ?_
  refine q_if_ne (pc := 83) 90 dX12_feed_83 (by decide) (fun c_83 => ?_) (fun c_83 => ((absurd c_83 (by decide) : False)).elim)
  refine q_iload (pc := 90) dX12_feed_90 rfl ?_
  refine q_iconst (pc := 92) (v := nI 1) dX12_feed_92 (by decide) ?_
  refine q_icmp_ne (pc := 93) 100 dX12_feed_93 (by decide) (fun c_93 => absurd c_93 (by decide)) (fun c_93 => ?_)
  refine q_iload_n (pc := 96) dX12_feed_96 rfl rfl ?_
  refine q_goto (pc := 97) 124 dX12_feed_97 (by decide) ?_
  refine q_iast (pc := 124) dX12_feed_124 (oA_sh (Model_s_tape hm)) (oA_lt (Model_s_tape hm)) rfl (by omega) ?_
  refine q_aload_n (pc := 125) dX12_feed_125 rfl rfl ?_
  refine q_dup (pc := 126) dX12_feed_126 rfl ?_
  refine q_getI (pc := 127) dX12_feed_127 fX12_175 (Model_sh hm) ⟨by decide, rfl⟩ (Model_lt hm) ?_
  rw [bq_u_ne (show m ≠ m + 5 by omega), f1.1]
  refine q_iconst (pc := 130) (v := nI 1) dX12_feed_130 (by decide) ?_
  refine q_iaddN (pc := 131) dX12_feed_131 ?_
  refine q_putI (pc := 132) dX12_feed_132 (pX12_175 _) (Model_sh hm) ⟨by decide, rfl⟩ (Model_lt hm) ?_
  refine q_nameI (fun J2 e2 => ?_)
  have f2 := (FM.ap (v := b) f1)
  rw [← e2] at f2
  refine q_iinc (pc := 135) (v := nI ((0 + 1) + 1)) dX12_feed_135 rfl (bq_inc _) (Nat.le_of_ble_eq_true rfl) rfl ?_
  show bq_W _ _ _ _ _ 138 [_, _, _, _, _, _, _, _] _ _ _ _ _ _ _
  refine q_goto (pc := 138) 67 dX12_feed_138 (by decide) ?_
  refine q_iload (pc := 67) dX12_feed_67 rfl ?_
  refine q_iload_n (pc := 69) dX12_feed_69 rfl rfl ?_
  refine q_icmp_ge (pc := 70) 141 dX12_feed_70 (by decide) (fun c_70 => ?_) (fun c_70 => absurd (by decide) c_70)
  refine q_aload_n (pc := 141) dX12_feed_141 rfl rfl ?_
  refine q_getI (pc := 142) dX12_feed_142 fX12_175 (Model_sh hm) ⟨by decide, rfl⟩ (Model_lt hm) ?_
  exact q_iret (st := []) (pc := 145) dX12_feed_145 rfl ⟨by rw [p_feed_ok (by decide) (by decide) ha hb hc hd he hf, f2.1], rfl, rfl, rfl, rfl, by rw [p_feed_ok (by decide) (by decide) ha hb hc hd he hf]; exact ⟨f2.1, fun j hj => (f2.2.1 j hj).trans (fb_s (k := 1) (fb_1)), f2.2.2⟩⟩
set_option maxHeartbeats 2620000 in
set_option maxRecDepth 20000 in
theorem o_feed_k3 {S : BqH} {n : Nat} {I : BqI} {L : BqL} {P : BqP} {m : Nat} (hm : oModel S n P m) {l : Nat} (h0 : I m 9 = nI l) (hl : l ≤ 60) {a b c d e : Int32} (ha : ¬ (a < nI 0 ∨ ¬ a ≤ nI 127)) (hb : ¬ (b < nI 0 ∨ ¬ b ≤ nI 127)) (hc : ¬ (c < nI 0 ∨ ¬ c ≤ nI 127)) (hd : ¬ (d < nI 0 ∨ ¬ d ≤ nI 127)) (he : ¬ (e < nI 0 ∨ ¬ e ≤ nI 127)) (hf : ¬ 60 < l + 3) : bq_Sp mX12_feed 3 54 0 0 [.ref m, .int (nI 3), .int a, .int b, .int c, .int d, .int e] S n I L P (qFm m I S n L P (p_feed l (I (m + 5)) (nI 3) a b c d e)) := by
  refine q_entry (vs := [some (.ref m), some (.int (nI 3)), some (.int a), some (.int b), some (.int c), some (.int d), some (.int e), none]) (by decide +kernel) (by simp) (Nat.le_of_ble_eq_true rfl) rfl ?_
  have f0 : FM m I I l (I (m + 5)) := ⟨h0, fun _ _ => rfl, fun _ _ _ => rfl, fun _ _ => rfl⟩
  refine q_iload_n (pc := 0) dX12_feed_0 rfl rfl ?_
  refine q_iconst (pc := 1) (v := nI 1) dX12_feed_1 (by decide) ?_
  refine q_iconst (pc := 2) (v := nI 5) dX12_feed_2 (by decide) ?_
  refine q_callSF (pc := 3) dX12_feed_3 kX12_69 c_X12_in ⟨Nat.le_of_ble_eq_true rfl, Nat.le_of_ble_eq_true rfl⟩ rfl rfl (Nat.le_of_ble_eq_true rfl) ?_
  show bq_W _ _ _ _ _ 6 _ [_] _ _ _ _ _ _
  refine q_if_eq (pc := 6) 47 dX12_feed_6 (by decide) (fun c_6 => (((bq_nin (by omega) (by omega) (by decide)) (bq_nb0.mp c_6) : False)).elim) (fun c_6 => ?_)
  refine q_iload_n (pc := 9) dX12_feed_9 rfl rfl ?_
  refine q_callSF (pc := 10) dX12_feed_10 kX12_172 c_X12_isByte ⟨Nat.le_of_ble_eq_true rfl, Nat.le_of_ble_eq_true rfl⟩ rfl rfl (Nat.le_of_ble_eq_true rfl) ?_
  show bq_W _ _ _ _ _ 13 _ [_] _ _ _ _ _ _
  refine q_if_eq (pc := 13) 47 dX12_feed_13 (by decide) (fun c_13 => ((ha (bq_nb0.mp c_13))).elim) (fun c_13 => ?_)
  refine q_iload_n (pc := 16) dX12_feed_16 rfl rfl ?_
  refine q_callSF (pc := 17) dX12_feed_17 kX12_172 c_X12_isByte ⟨Nat.le_of_ble_eq_true rfl, Nat.le_of_ble_eq_true rfl⟩ rfl rfl (Nat.le_of_ble_eq_true rfl) ?_
  show bq_W _ _ _ _ _ 20 _ [_] _ _ _ _ _ _
  refine q_if_eq (pc := 20) 47 dX12_feed_20 (by decide) (fun c_20 => ((hb (bq_nb0.mp c_20))).elim) (fun c_20 => ?_)
  refine q_iload (pc := 23) dX12_feed_23 rfl ?_
  refine q_callSF (pc := 25) dX12_feed_25 kX12_172 c_X12_isByte ⟨Nat.le_of_ble_eq_true rfl, Nat.le_of_ble_eq_true rfl⟩ rfl rfl (Nat.le_of_ble_eq_true rfl) ?_
  show bq_W _ _ _ _ _ 28 _ [_] _ _ _ _ _ _
  refine q_if_eq (pc := 28) 47 dX12_feed_28 (by decide) (fun c_28 => ((hc (bq_nb0.mp c_28))).elim) (fun c_28 => ?_)
  refine q_iload (pc := 31) dX12_feed_31 rfl ?_
  refine q_callSF (pc := 33) dX12_feed_33 kX12_172 c_X12_isByte ⟨Nat.le_of_ble_eq_true rfl, Nat.le_of_ble_eq_true rfl⟩ rfl rfl (Nat.le_of_ble_eq_true rfl) ?_
  show bq_W _ _ _ _ _ 36 _ [_] _ _ _ _ _ _
  refine q_if_eq (pc := 36) 47 dX12_feed_36 (by decide) (fun c_36 => ((hd (bq_nb0.mp c_36))).elim) (fun c_36 => ?_)
  refine q_iload (pc := 39) dX12_feed_39 rfl ?_
  refine q_callSF (pc := 41) dX12_feed_41 kX12_172 c_X12_isByte ⟨Nat.le_of_ble_eq_true rfl, Nat.le_of_ble_eq_true rfl⟩ rfl rfl (Nat.le_of_ble_eq_true rfl) ?_
  show bq_W _ _ _ _ _ 44 _ [_] _ _ _ _ _ _
  refine q_if_ne (pc := 44) 50 dX12_feed_44 (by decide) (fun c_44 => ?_) (fun c_44 => ((he (bq_nb0.mp c_44))).elim)
  refine q_aload_n (pc := 50) dX12_feed_50 rfl rfl ?_
  refine q_getI (pc := 51) dX12_feed_51 fX12_175 (Model_sh hm) ⟨by decide, rfl⟩ (Model_lt hm) ?_
  rw [h0]
  refine q_iload_n (pc := 54) dX12_feed_54 rfl rfl ?_
  refine q_iaddN (pc := 55) dX12_feed_55 ?_
  refine q_bipush (pc := 56) (v := nI 60) dX12_feed_56 (by decide) ?_
  refine q_icmp_le (pc := 58) 64 dX12_feed_58 (by decide) (fun c_58 => ?_) (fun c_58 => absurd (nI_le (show l + 3 ≤ 60 by omega) (by decide)) c_58)
  refine q_iconst (pc := 64) (v := nI 0) dX12_feed_64 (by decide) ?_
  refine q_istore (pc := 65) dX12_feed_65 (Nat.le_of_ble_eq_true rfl) rfl ?_
  show bq_W _ _ _ _ _ 67 [_, _, _, _, _, _, _, _] _ _ _ _ _ _ _
  refine q_iload (pc := 67) dX12_feed_67 rfl ?_
  refine q_iload_n (pc := 69) dX12_feed_69 rfl rfl ?_
  refine q_icmp_ge (pc := 70) 141 dX12_feed_70 (by decide) (fun c_70 => absurd c_70 (by decide)) (fun c_70 => ?_)
  refine q_aload_n (pc := 73) dX12_feed_73 rfl rfl ?_
  refine q_getP (pc := 74) dX12_feed_74 fX12_22 (Model_sh hm) ⟨by decide, rfl⟩ (Model_lt hm) (Model_p_tape hm) ?_
  refine q_aload_n (pc := 77) dX12_feed_77 rfl rfl ?_
  refine q_getI (pc := 78) dX12_feed_78 fX12_175 (Model_sh hm) ⟨by decide, rfl⟩ (Model_lt hm) ?_
  rw [f0.1]
  refine q_iload (pc := 81) dX12_feed_81 rfl ?_
  refine q_if_ne (pc := 83) 90 dX12_feed_83 (by decide) (fun c_83 => absurd c_83 (by decide)) (fun c_83 => ?_)
  refine q_iload_n (pc := 86) dX12_feed_86 rfl rfl ?_
  refine q_goto (pc := 87) 124 dX12_feed_87 (by decide) ?_
  refine q_iast (pc := 124) dX12_feed_124 (oA_sh (Model_s_tape hm)) (oA_lt (Model_s_tape hm)) rfl (by omega) ?_
  refine q_aload_n (pc := 125) dX12_feed_125 rfl rfl ?_
  refine q_dup (pc := 126) dX12_feed_126 rfl ?_
  refine q_getI (pc := 127) dX12_feed_127 fX12_175 (Model_sh hm) ⟨by decide, rfl⟩ (Model_lt hm) ?_
  rw [bq_u_ne (show m ≠ m + 5 by omega), f0.1]
  refine q_iconst (pc := 130) (v := nI 1) dX12_feed_130 (by decide) ?_
  refine q_iaddN (pc := 131) dX12_feed_131 ?_
  refine q_putI (pc := 132) dX12_feed_132 (pX12_175 _) (Model_sh hm) ⟨by decide, rfl⟩ (Model_lt hm) ?_
  refine q_nameI (fun J1 e1 => ?_)
  have f1 := (FM.ap (v := a) f0)
  rw [← e1] at f1
  refine q_iinc (pc := 135) (v := nI (0 + 1)) dX12_feed_135 rfl (bq_inc _) (Nat.le_of_ble_eq_true rfl) rfl ?_
  show bq_W _ _ _ _ _ 138 [_, _, _, _, _, _, _, _] _ _ _ _ _ _ _
  refine q_goto (pc := 138) 67 dX12_feed_138 (by decide) ?_
  refine q_iload (pc := 67) dX12_feed_67 rfl ?_
  refine q_iload_n (pc := 69) dX12_feed_69 rfl rfl ?_
  refine q_icmp_ge (pc := 70) 141 dX12_feed_70 (by decide) (fun c_70 => absurd c_70 (by decide)) (fun c_70 => ?_)
  refine q_aload_n (pc := 73) dX12_feed_73 rfl rfl ?_
  refine q_getP (pc := 74) dX12_feed_74 fX12_22 (Model_sh hm) ⟨by decide, rfl⟩ (Model_lt hm) (Model_p_tape hm) ?_
  refine q_aload_n (pc := 77) dX12_feed_77 rfl rfl ?_
  refine q_getI (pc := 78) dX12_feed_78 fX12_175 (Model_sh hm) ⟨by decide, rfl⟩ (Model_lt hm) ?_
  rw [f1.1]
  refine q_iload (pc := 81) dX12_feed_81 rfl ?_
  refine q_if_ne (pc := 83) 90 dX12_feed_83 (by decide) (fun c_83 => ?_) (fun c_83 => ((absurd c_83 (by decide) : False)).elim)
  refine q_iload (pc := 90) dX12_feed_90 rfl ?_
  refine q_iconst (pc := 92) (v := nI 1) dX12_feed_92 (by decide) ?_
  refine q_icmp_ne (pc := 93) 100 dX12_feed_93 (by decide) (fun c_93 => absurd c_93 (by decide)) (fun c_93 => ?_)
  refine q_iload_n (pc := 96) dX12_feed_96 rfl rfl ?_
  refine q_goto (pc := 97) 124 dX12_feed_97 (by decide) ?_
  refine q_iast (pc := 124) dX12_feed_124 (oA_sh (Model_s_tape hm)) (oA_lt (Model_s_tape hm)) rfl (by omega) ?_
  refine q_aload_n (pc := 125) dX12_feed_125 rfl rfl ?_
  refine q_dup (pc := 126) dX12_feed_126 rfl ?_
  refine q_getI (pc := 127) dX12_feed_127 fX12_175 (Model_sh hm) ⟨by decide, rfl⟩ (Model_lt hm) ?_
  rw [bq_u_ne (show m ≠ m + 5 by omega), f1.1]
  refine q_iconst (pc := 130) (v := nI 1) dX12_feed_130 (by decide) ?_
  refine q_iaddN (pc := 131) dX12_feed_131 ?_
  refine q_putI (pc := 132) dX12_feed_132 (pX12_175 _) (Model_sh hm) ⟨by decide, rfl⟩ (Model_lt hm) ?_
  refine q_nameI (fun J2 e2 => ?_)
  have f2 := (FM.ap (v := b) f1)
  rw [← e2] at f2
  refine q_iinc (pc := 135) (v := nI ((0 + 1) + 1)) dX12_feed_135 rfl (bq_inc _) (Nat.le_of_ble_eq_true rfl) rfl ?_
  show bq_W _ _ _ _ _ 138 [_, _, _, _, _, _, _, _] _ _ _ _ _ _ _
  refine q_goto (pc := 138) 67 dX12_feed_138 (by decide) ?_
  refine q_iload (pc := 67) dX12_feed_67 rfl ?_
  refine q_iload_n (pc := 69) dX12_feed_69 rfl rfl ?_
  refine q_icmp_ge (pc := 70) 141 dX12_feed_70 (by decide) (fun c_70 => absurd c_70 (by decide)) (fun c_70 => ?_)
  refine q_aload_n (pc := 73) dX12_feed_73 rfl rfl ?_
  refine q_getP (pc := 74) dX12_feed_74 fX12_22 (Model_sh hm) ⟨by decide, rfl⟩ (Model_lt hm) (Model_p_tape hm) ?_
  refine q_aload_n (pc := 77) dX12_feed_77 rfl rfl ?_
  refine q_getI (pc := 78) dX12_feed_78 fX12_175 (Model_sh hm) ⟨by decide, rfl⟩ (Model_lt hm) ?_
  rw [f2.1]
  refine q_iload (pc := 81) dX12_feed_81 rfl ?_
  refine q_if_ne (pc := 83) 90 dX12_feed_83 (by decide) (fun c_83 => ?_) (fun c_83 => ((absurd c_83 (by decide) : False)).elim)
  refine q_iload (pc := 90) dX12_feed_90 rfl ?_
  refine q_iconst (pc := 92) (v := nI 1) dX12_feed_92 (by decide) ?_
  refine q_icmp_ne (pc := 93) 100 dX12_feed_93 (by decide) (fun c_93 => ?_) (fun c_93 => ((absurd c_93 (by decide) : False)).elim)
  refine q_iload (pc := 100) dX12_feed_100 rfl ?_
  refine q_iconst (pc := 102) (v := nI 2) dX12_feed_102 (by decide) ?_
  refine q_icmp_ne (pc := 103) 111 dX12_feed_103 (by decide) (fun c_103 => absurd c_103 (by decide)) (fun c_103 => ?_)
  refine q_iload (pc := 106) dX12_feed_106 rfl ?_
  refine q_goto (pc := 108) 124 dX12_feed_108 (by decide) ?_
  refine q_iast (pc := 124) dX12_feed_124 (oA_sh (Model_s_tape hm)) (oA_lt (Model_s_tape hm)) rfl (by omega) ?_
  refine q_aload_n (pc := 125) dX12_feed_125 rfl rfl ?_
  refine q_dup (pc := 126) dX12_feed_126 rfl ?_
  refine q_getI (pc := 127) dX12_feed_127 fX12_175 (Model_sh hm) ⟨by decide, rfl⟩ (Model_lt hm) ?_
  rw [bq_u_ne (show m ≠ m + 5 by omega), f2.1]
  refine q_iconst (pc := 130) (v := nI 1) dX12_feed_130 (by decide) ?_
  refine q_iaddN (pc := 131) dX12_feed_131 ?_
  refine q_putI (pc := 132) dX12_feed_132 (pX12_175 _) (Model_sh hm) ⟨by decide, rfl⟩ (Model_lt hm) ?_
  refine q_nameI (fun J3 e3 => ?_)
  have f3 := (FM.ap (v := c) f2)
  rw [← e3] at f3
  refine q_iinc (pc := 135) (v := nI (((0 + 1) + 1) + 1)) dX12_feed_135 rfl (bq_inc _) (Nat.le_of_ble_eq_true rfl) rfl ?_
  show bq_W _ _ _ _ _ 138 [_, _, _, _, _, _, _, _] _ _ _ _ _ _ _
  refine q_goto (pc := 138) 67 dX12_feed_138 (by decide) ?_
  refine q_iload (pc := 67) dX12_feed_67 rfl ?_
  refine q_iload_n (pc := 69) dX12_feed_69 rfl rfl ?_
  refine q_icmp_ge (pc := 70) 141 dX12_feed_70 (by decide) (fun c_70 => ?_) (fun c_70 => absurd (by decide) c_70)
  refine q_aload_n (pc := 141) dX12_feed_141 rfl rfl ?_
  refine q_getI (pc := 142) dX12_feed_142 fX12_175 (Model_sh hm) ⟨by decide, rfl⟩ (Model_lt hm) ?_
  exact q_iret (st := []) (pc := 145) dX12_feed_145 rfl ⟨by rw [p_feed_ok (by decide) (by decide) ha hb hc hd he hf, f3.1], rfl, rfl, rfl, rfl, by rw [p_feed_ok (by decide) (by decide) ha hb hc hd he hf]; exact ⟨f3.1, fun j hj => (f3.2.1 j hj).trans (fb_s (k := 2) (fb_s (k := 1) (fb_1))), f3.2.2⟩⟩
set_option maxHeartbeats 3320000 in
set_option maxRecDepth 20000 in
theorem o_feed_k4 {S : BqH} {n : Nat} {I : BqI} {L : BqL} {P : BqP} {m : Nat} (hm : oModel S n P m) {l : Nat} (h0 : I m 9 = nI l) (hl : l ≤ 60) {a b c d e : Int32} (ha : ¬ (a < nI 0 ∨ ¬ a ≤ nI 127)) (hb : ¬ (b < nI 0 ∨ ¬ b ≤ nI 127)) (hc : ¬ (c < nI 0 ∨ ¬ c ≤ nI 127)) (hd : ¬ (d < nI 0 ∨ ¬ d ≤ nI 127)) (he : ¬ (e < nI 0 ∨ ¬ e ≤ nI 127)) (hf : ¬ 60 < l + 4) : bq_Sp mX12_feed 3 54 0 0 [.ref m, .int (nI 4), .int a, .int b, .int c, .int d, .int e] S n I L P (qFm m I S n L P (p_feed l (I (m + 5)) (nI 4) a b c d e)) := by
  refine q_entry (vs := [some (.ref m), some (.int (nI 4)), some (.int a), some (.int b), some (.int c), some (.int d), some (.int e), none]) (by decide +kernel) (by simp) (Nat.le_of_ble_eq_true rfl) rfl ?_
  have f0 : FM m I I l (I (m + 5)) := ⟨h0, fun _ _ => rfl, fun _ _ _ => rfl, fun _ _ => rfl⟩
  refine q_iload_n (pc := 0) dX12_feed_0 rfl rfl ?_
  refine q_iconst (pc := 1) (v := nI 1) dX12_feed_1 (by decide) ?_
  refine q_iconst (pc := 2) (v := nI 5) dX12_feed_2 (by decide) ?_
  refine q_callSF (pc := 3) dX12_feed_3 kX12_69 c_X12_in ⟨Nat.le_of_ble_eq_true rfl, Nat.le_of_ble_eq_true rfl⟩ rfl rfl (Nat.le_of_ble_eq_true rfl) ?_
  show bq_W _ _ _ _ _ 6 _ [_] _ _ _ _ _ _
  refine q_if_eq (pc := 6) 47 dX12_feed_6 (by decide) (fun c_6 => (((bq_nin (by omega) (by omega) (by decide)) (bq_nb0.mp c_6) : False)).elim) (fun c_6 => ?_)
  refine q_iload_n (pc := 9) dX12_feed_9 rfl rfl ?_
  refine q_callSF (pc := 10) dX12_feed_10 kX12_172 c_X12_isByte ⟨Nat.le_of_ble_eq_true rfl, Nat.le_of_ble_eq_true rfl⟩ rfl rfl (Nat.le_of_ble_eq_true rfl) ?_
  show bq_W _ _ _ _ _ 13 _ [_] _ _ _ _ _ _
  refine q_if_eq (pc := 13) 47 dX12_feed_13 (by decide) (fun c_13 => ((ha (bq_nb0.mp c_13))).elim) (fun c_13 => ?_)
  refine q_iload_n (pc := 16) dX12_feed_16 rfl rfl ?_
  refine q_callSF (pc := 17) dX12_feed_17 kX12_172 c_X12_isByte ⟨Nat.le_of_ble_eq_true rfl, Nat.le_of_ble_eq_true rfl⟩ rfl rfl (Nat.le_of_ble_eq_true rfl) ?_
  show bq_W _ _ _ _ _ 20 _ [_] _ _ _ _ _ _
  refine q_if_eq (pc := 20) 47 dX12_feed_20 (by decide) (fun c_20 => ((hb (bq_nb0.mp c_20))).elim) (fun c_20 => ?_)
  refine q_iload (pc := 23) dX12_feed_23 rfl ?_
  refine q_callSF (pc := 25) dX12_feed_25 kX12_172 c_X12_isByte ⟨Nat.le_of_ble_eq_true rfl, Nat.le_of_ble_eq_true rfl⟩ rfl rfl (Nat.le_of_ble_eq_true rfl) ?_
  show bq_W _ _ _ _ _ 28 _ [_] _ _ _ _ _ _
  refine q_if_eq (pc := 28) 47 dX12_feed_28 (by decide) (fun c_28 => ((hc (bq_nb0.mp c_28))).elim) (fun c_28 => ?_)
  refine q_iload (pc := 31) dX12_feed_31 rfl ?_
  refine q_callSF (pc := 33) dX12_feed_33 kX12_172 c_X12_isByte ⟨Nat.le_of_ble_eq_true rfl, Nat.le_of_ble_eq_true rfl⟩ rfl rfl (Nat.le_of_ble_eq_true rfl) ?_
  show bq_W _ _ _ _ _ 36 _ [_] _ _ _ _ _ _
  refine q_if_eq (pc := 36) 47 dX12_feed_36 (by decide) (fun c_36 => ((hd (bq_nb0.mp c_36))).elim) (fun c_36 => ?_)
  refine q_iload (pc := 39) dX12_feed_39 rfl ?_
  refine q_callSF (pc := 41) dX12_feed_41 kX12_172 c_X12_isByte ⟨Nat.le_of_ble_eq_true rfl, Nat.le_of_ble_eq_true rfl⟩ rfl rfl (Nat.le_of_ble_eq_true rfl) ?_
  show bq_W _ _ _ _ _ 44 _ [_] _ _ _ _ _ _
  refine q_if_ne (pc := 44) 50 dX12_feed_44 (by decide) (fun c_44 => ?_) (fun c_44 => ((he (bq_nb0.mp c_44))).elim)
  refine q_aload_n (pc := 50) dX12_feed_50 rfl rfl ?_
  refine q_getI (pc := 51) dX12_feed_51 fX12_175 (Model_sh hm) ⟨by decide, rfl⟩ (Model_lt hm) ?_
  rw [h0]
  refine q_iload_n (pc := 54) dX12_feed_54 rfl rfl ?_
  refine q_iaddN (pc := 55) dX12_feed_55 ?_
  refine q_bipush (pc := 56) (v := nI 60) dX12_feed_56 (by decide) ?_
  refine q_icmp_le (pc := 58) 64 dX12_feed_58 (by decide) (fun c_58 => ?_) (fun c_58 => absurd (nI_le (show l + 4 ≤ 60 by omega) (by decide)) c_58)
  refine q_iconst (pc := 64) (v := nI 0) dX12_feed_64 (by decide) ?_
  refine q_istore (pc := 65) dX12_feed_65 (Nat.le_of_ble_eq_true rfl) rfl ?_
  show bq_W _ _ _ _ _ 67 [_, _, _, _, _, _, _, _] _ _ _ _ _ _ _
  refine q_iload (pc := 67) dX12_feed_67 rfl ?_
  refine q_iload_n (pc := 69) dX12_feed_69 rfl rfl ?_
  refine q_icmp_ge (pc := 70) 141 dX12_feed_70 (by decide) (fun c_70 => absurd c_70 (by decide)) (fun c_70 => ?_)
  refine q_aload_n (pc := 73) dX12_feed_73 rfl rfl ?_
  refine q_getP (pc := 74) dX12_feed_74 fX12_22 (Model_sh hm) ⟨by decide, rfl⟩ (Model_lt hm) (Model_p_tape hm) ?_
  refine q_aload_n (pc := 77) dX12_feed_77 rfl rfl ?_
  refine q_getI (pc := 78) dX12_feed_78 fX12_175 (Model_sh hm) ⟨by decide, rfl⟩ (Model_lt hm) ?_
  rw [f0.1]
  refine q_iload (pc := 81) dX12_feed_81 rfl ?_
  refine q_if_ne (pc := 83) 90 dX12_feed_83 (by decide) (fun c_83 => absurd c_83 (by decide)) (fun c_83 => ?_)
  refine q_iload_n (pc := 86) dX12_feed_86 rfl rfl ?_
  refine q_goto (pc := 87) 124 dX12_feed_87 (by decide) ?_
  refine q_iast (pc := 124) dX12_feed_124 (oA_sh (Model_s_tape hm)) (oA_lt (Model_s_tape hm)) rfl (by omega) ?_
  refine q_aload_n (pc := 125) dX12_feed_125 rfl rfl ?_
  refine q_dup (pc := 126) dX12_feed_126 rfl ?_
  refine q_getI (pc := 127) dX12_feed_127 fX12_175 (Model_sh hm) ⟨by decide, rfl⟩ (Model_lt hm) ?_
  rw [bq_u_ne (show m ≠ m + 5 by omega), f0.1]
  refine q_iconst (pc := 130) (v := nI 1) dX12_feed_130 (by decide) ?_
  refine q_iaddN (pc := 131) dX12_feed_131 ?_
  refine q_putI (pc := 132) dX12_feed_132 (pX12_175 _) (Model_sh hm) ⟨by decide, rfl⟩ (Model_lt hm) ?_
  refine q_nameI (fun J1 e1 => ?_)
  have f1 := (FM.ap (v := a) f0)
  rw [← e1] at f1
  refine q_iinc (pc := 135) (v := nI (0 + 1)) dX12_feed_135 rfl (bq_inc _) (Nat.le_of_ble_eq_true rfl) rfl ?_
  show bq_W _ _ _ _ _ 138 [_, _, _, _, _, _, _, _] _ _ _ _ _ _ _
  refine q_goto (pc := 138) 67 dX12_feed_138 (by decide) ?_
  refine q_iload (pc := 67) dX12_feed_67 rfl ?_
  refine q_iload_n (pc := 69) dX12_feed_69 rfl rfl ?_
  refine q_icmp_ge (pc := 70) 141 dX12_feed_70 (by decide) (fun c_70 => absurd c_70 (by decide)) (fun c_70 => ?_)
  refine q_aload_n (pc := 73) dX12_feed_73 rfl rfl ?_
  refine q_getP (pc := 74) dX12_feed_74 fX12_22 (Model_sh hm) ⟨by decide, rfl⟩ (Model_lt hm) (Model_p_tape hm) ?_
  refine q_aload_n (pc := 77) dX12_feed_77 rfl rfl ?_
  refine q_getI (pc := 78) dX12_feed_78 fX12_175 (Model_sh hm) ⟨by decide, rfl⟩ (Model_lt hm) ?_
  rw [f1.1]
  refine q_iload (pc := 81) dX12_feed_81 rfl ?_
  refine q_if_ne (pc := 83) 90 dX12_feed_83 (by decide) (fun c_83 => ?_) (fun c_83 => ((absurd c_83 (by decide) : False)).elim)
  refine q_iload (pc := 90) dX12_feed_90 rfl ?_
  refine q_iconst (pc := 92) (v := nI 1) dX12_feed_92 (by decide) ?_
  refine q_icmp_ne (pc := 93) 100 dX12_feed_93 (by decide) (fun c_93 => absurd c_93 (by decide)) (fun c_93 => ?_)
  refine q_iload_n (pc := 96) dX12_feed_96 rfl rfl ?_
  refine q_goto (pc := 97) 124 dX12_feed_97 (by decide) ?_
  refine q_iast (pc := 124) dX12_feed_124 (oA_sh (Model_s_tape hm)) (oA_lt (Model_s_tape hm)) rfl (by omega) ?_
  refine q_aload_n (pc := 125) dX12_feed_125 rfl rfl ?_
  refine q_dup (pc := 126) dX12_feed_126 rfl ?_
  refine q_getI (pc := 127) dX12_feed_127 fX12_175 (Model_sh hm) ⟨by decide, rfl⟩ (Model_lt hm) ?_
  rw [bq_u_ne (show m ≠ m + 5 by omega), f1.1]
  refine q_iconst (pc := 130) (v := nI 1) dX12_feed_130 (by decide) ?_
  refine q_iaddN (pc := 131) dX12_feed_131 ?_
  refine q_putI (pc := 132) dX12_feed_132 (pX12_175 _) (Model_sh hm) ⟨by decide, rfl⟩ (Model_lt hm) ?_
  refine q_nameI (fun J2 e2 => ?_)
  have f2 := (FM.ap (v := b) f1)
  rw [← e2] at f2
  refine q_iinc (pc := 135) (v := nI ((0 + 1) + 1)) dX12_feed_135 rfl (bq_inc _) (Nat.le_of_ble_eq_true rfl) rfl ?_
  show bq_W _ _ _ _ _ 138 [_, _, _, _, _, _, _, _] _ _ _ _ _ _ _
  refine q_goto (pc := 138) 67 dX12_feed_138 (by decide) ?_
  refine q_iload (pc := 67) dX12_feed_67 rfl ?_
  refine q_iload_n (pc := 69) dX12_feed_69 rfl rfl ?_
  refine q_icmp_ge (pc := 70) 141 dX12_feed_70 (by decide) (fun c_70 => absurd c_70 (by decide)) (fun c_70 => ?_)
  refine q_aload_n (pc := 73) dX12_feed_73 rfl rfl ?_
  refine q_getP (pc := 74) dX12_feed_74 fX12_22 (Model_sh hm) ⟨by decide, rfl⟩ (Model_lt hm) (Model_p_tape hm) ?_
  refine q_aload_n (pc := 77) dX12_feed_77 rfl rfl ?_
  refine q_getI (pc := 78) dX12_feed_78 fX12_175 (Model_sh hm) ⟨by decide, rfl⟩ (Model_lt hm) ?_
  rw [f2.1]
  refine q_iload (pc := 81) dX12_feed_81 rfl ?_
  refine q_if_ne (pc := 83) 90 dX12_feed_83 (by decide) (fun c_83 => ?_) (fun c_83 => ((absurd c_83 (by decide) : False)).elim)
  refine q_iload (pc := 90) dX12_feed_90 rfl ?_
  refine q_iconst (pc := 92) (v := nI 1) dX12_feed_92 (by decide) ?_
  refine q_icmp_ne (pc := 93) 100 dX12_feed_93 (by decide) (fun c_93 => ?_) (fun c_93 => ((absurd c_93 (by decide) : False)).elim)
  refine q_iload (pc := 100) dX12_feed_100 rfl ?_
  refine q_iconst (pc := 102) (v := nI 2) dX12_feed_102 (by decide) ?_
  refine q_icmp_ne (pc := 103) 111 dX12_feed_103 (by decide) (fun c_103 => absurd c_103 (by decide)) (fun c_103 => ?_)
  refine q_iload (pc := 106) dX12_feed_106 rfl ?_
  refine q_goto (pc := 108) 124 dX12_feed_108 (by decide) ?_
  refine q_iast (pc := 124) dX12_feed_124 (oA_sh (Model_s_tape hm)) (oA_lt (Model_s_tape hm)) rfl (by omega) ?_
  refine q_aload_n (pc := 125) dX12_feed_125 rfl rfl ?_
  refine q_dup (pc := 126) dX12_feed_126 rfl ?_
  refine q_getI (pc := 127) dX12_feed_127 fX12_175 (Model_sh hm) ⟨by decide, rfl⟩ (Model_lt hm) ?_
  rw [bq_u_ne (show m ≠ m + 5 by omega), f2.1]
  refine q_iconst (pc := 130) (v := nI 1) dX12_feed_130 (by decide) ?_
  refine q_iaddN (pc := 131) dX12_feed_131 ?_
  refine q_putI (pc := 132) dX12_feed_132 (pX12_175 _) (Model_sh hm) ⟨by decide, rfl⟩ (Model_lt hm) ?_
  refine q_nameI (fun J3 e3 => ?_)
  have f3 := (FM.ap (v := c) f2)
  rw [← e3] at f3
  refine q_iinc (pc := 135) (v := nI (((0 + 1) + 1) + 1)) dX12_feed_135 rfl (bq_inc _) (Nat.le_of_ble_eq_true rfl) rfl ?_
  show bq_W _ _ _ _ _ 138 [_, _, _, _, _, _, _, _] _ _ _ _ _ _ _
  refine q_goto (pc := 138) 67 dX12_feed_138 (by decide) ?_
  refine q_iload (pc := 67) dX12_feed_67 rfl ?_
  refine q_iload_n (pc := 69) dX12_feed_69 rfl rfl ?_
  refine q_icmp_ge (pc := 70) 141 dX12_feed_70 (by decide) (fun c_70 => absurd c_70 (by decide)) (fun c_70 => ?_)
  refine q_aload_n (pc := 73) dX12_feed_73 rfl rfl ?_
  refine q_getP (pc := 74) dX12_feed_74 fX12_22 (Model_sh hm) ⟨by decide, rfl⟩ (Model_lt hm) (Model_p_tape hm) ?_
  refine q_aload_n (pc := 77) dX12_feed_77 rfl rfl ?_
  refine q_getI (pc := 78) dX12_feed_78 fX12_175 (Model_sh hm) ⟨by decide, rfl⟩ (Model_lt hm) ?_
  rw [f3.1]
  refine q_iload (pc := 81) dX12_feed_81 rfl ?_
  refine q_if_ne (pc := 83) 90 dX12_feed_83 (by decide) (fun c_83 => ?_) (fun c_83 => ((absurd c_83 (by decide) : False)).elim)
  refine q_iload (pc := 90) dX12_feed_90 rfl ?_
  refine q_iconst (pc := 92) (v := nI 1) dX12_feed_92 (by decide) ?_
  refine q_icmp_ne (pc := 93) 100 dX12_feed_93 (by decide) (fun c_93 => ?_) (fun c_93 => ((absurd c_93 (by decide) : False)).elim)
  refine q_iload (pc := 100) dX12_feed_100 rfl ?_
  refine q_iconst (pc := 102) (v := nI 2) dX12_feed_102 (by decide) ?_
  refine q_icmp_ne (pc := 103) 111 dX12_feed_103 (by decide) (fun c_103 => ?_) (fun c_103 => ((absurd c_103 (by decide) : False)).elim)
  refine q_iload (pc := 111) dX12_feed_111 rfl ?_
  refine q_iconst (pc := 113) (v := nI 3) dX12_feed_113 (by decide) ?_
  refine q_icmp_ne (pc := 114) 122 dX12_feed_114 (by decide) (fun c_114 => absurd c_114 (by decide)) (fun c_114 => ?_)
  refine q_iload (pc := 117) dX12_feed_117 rfl ?_
  refine q_goto (pc := 119) 124 dX12_feed_119 (by decide) ?_
  refine q_iast (pc := 124) dX12_feed_124 (oA_sh (Model_s_tape hm)) (oA_lt (Model_s_tape hm)) rfl (by omega) ?_
  refine q_aload_n (pc := 125) dX12_feed_125 rfl rfl ?_
  refine q_dup (pc := 126) dX12_feed_126 rfl ?_
  refine q_getI (pc := 127) dX12_feed_127 fX12_175 (Model_sh hm) ⟨by decide, rfl⟩ (Model_lt hm) ?_
  rw [bq_u_ne (show m ≠ m + 5 by omega), f3.1]
  refine q_iconst (pc := 130) (v := nI 1) dX12_feed_130 (by decide) ?_
  refine q_iaddN (pc := 131) dX12_feed_131 ?_
  refine q_putI (pc := 132) dX12_feed_132 (pX12_175 _) (Model_sh hm) ⟨by decide, rfl⟩ (Model_lt hm) ?_
  refine q_nameI (fun J4 e4 => ?_)
  have f4 := (FM.ap (v := d) f3)
  rw [← e4] at f4
  refine q_iinc (pc := 135) (v := nI ((((0 + 1) + 1) + 1) + 1)) dX12_feed_135 rfl (bq_inc _) (Nat.le_of_ble_eq_true rfl) rfl ?_
  show bq_W _ _ _ _ _ 138 [_, _, _, _, _, _, _, _] _ _ _ _ _ _ _
  refine q_goto (pc := 138) 67 dX12_feed_138 (by decide) ?_
  refine q_iload (pc := 67) dX12_feed_67 rfl ?_
  refine q_iload_n (pc := 69) dX12_feed_69 rfl rfl ?_
  refine q_icmp_ge (pc := 70) 141 dX12_feed_70 (by decide) (fun c_70 => ?_) (fun c_70 => absurd (by decide) c_70)
  refine q_aload_n (pc := 141) dX12_feed_141 rfl rfl ?_
  refine q_getI (pc := 142) dX12_feed_142 fX12_175 (Model_sh hm) ⟨by decide, rfl⟩ (Model_lt hm) ?_
  exact q_iret (st := []) (pc := 145) dX12_feed_145 rfl ⟨by rw [p_feed_ok (by decide) (by decide) ha hb hc hd he hf, f4.1], rfl, rfl, rfl, rfl, by rw [p_feed_ok (by decide) (by decide) ha hb hc hd he hf]; exact ⟨f4.1, fun j hj => (f4.2.1 j hj).trans (fb_s (k := 3) (fb_s (k := 2) (fb_s (k := 1) (fb_1)))), f4.2.2⟩⟩
set_option maxHeartbeats 4000000 in
set_option maxRecDepth 20000 in
theorem o_feed_k5 {S : BqH} {n : Nat} {I : BqI} {L : BqL} {P : BqP} {m : Nat} (hm : oModel S n P m) {l : Nat} (h0 : I m 9 = nI l) (hl : l ≤ 60) {a b c d e : Int32} (ha : ¬ (a < nI 0 ∨ ¬ a ≤ nI 127)) (hb : ¬ (b < nI 0 ∨ ¬ b ≤ nI 127)) (hc : ¬ (c < nI 0 ∨ ¬ c ≤ nI 127)) (hd : ¬ (d < nI 0 ∨ ¬ d ≤ nI 127)) (he : ¬ (e < nI 0 ∨ ¬ e ≤ nI 127)) (hf : ¬ 60 < l + 5) : bq_Sp mX12_feed 3 54 0 0 [.ref m, .int (nI 5), .int a, .int b, .int c, .int d, .int e] S n I L P (qFm m I S n L P (p_feed l (I (m + 5)) (nI 5) a b c d e)) := by
  refine q_entry (vs := [some (.ref m), some (.int (nI 5)), some (.int a), some (.int b), some (.int c), some (.int d), some (.int e), none]) (by decide +kernel) (by simp) (Nat.le_of_ble_eq_true rfl) rfl ?_
  have f0 : FM m I I l (I (m + 5)) := ⟨h0, fun _ _ => rfl, fun _ _ _ => rfl, fun _ _ => rfl⟩
  refine q_iload_n (pc := 0) dX12_feed_0 rfl rfl ?_
  refine q_iconst (pc := 1) (v := nI 1) dX12_feed_1 (by decide) ?_
  refine q_iconst (pc := 2) (v := nI 5) dX12_feed_2 (by decide) ?_
  refine q_callSF (pc := 3) dX12_feed_3 kX12_69 c_X12_in ⟨Nat.le_of_ble_eq_true rfl, Nat.le_of_ble_eq_true rfl⟩ rfl rfl (Nat.le_of_ble_eq_true rfl) ?_
  show bq_W _ _ _ _ _ 6 _ [_] _ _ _ _ _ _
  refine q_if_eq (pc := 6) 47 dX12_feed_6 (by decide) (fun c_6 => (((bq_nin (by omega) (by omega) (by decide)) (bq_nb0.mp c_6) : False)).elim) (fun c_6 => ?_)
  refine q_iload_n (pc := 9) dX12_feed_9 rfl rfl ?_
  refine q_callSF (pc := 10) dX12_feed_10 kX12_172 c_X12_isByte ⟨Nat.le_of_ble_eq_true rfl, Nat.le_of_ble_eq_true rfl⟩ rfl rfl (Nat.le_of_ble_eq_true rfl) ?_
  show bq_W _ _ _ _ _ 13 _ [_] _ _ _ _ _ _
  refine q_if_eq (pc := 13) 47 dX12_feed_13 (by decide) (fun c_13 => ((ha (bq_nb0.mp c_13))).elim) (fun c_13 => ?_)
  refine q_iload_n (pc := 16) dX12_feed_16 rfl rfl ?_
  refine q_callSF (pc := 17) dX12_feed_17 kX12_172 c_X12_isByte ⟨Nat.le_of_ble_eq_true rfl, Nat.le_of_ble_eq_true rfl⟩ rfl rfl (Nat.le_of_ble_eq_true rfl) ?_
  show bq_W _ _ _ _ _ 20 _ [_] _ _ _ _ _ _
  refine q_if_eq (pc := 20) 47 dX12_feed_20 (by decide) (fun c_20 => ((hb (bq_nb0.mp c_20))).elim) (fun c_20 => ?_)
  refine q_iload (pc := 23) dX12_feed_23 rfl ?_
  refine q_callSF (pc := 25) dX12_feed_25 kX12_172 c_X12_isByte ⟨Nat.le_of_ble_eq_true rfl, Nat.le_of_ble_eq_true rfl⟩ rfl rfl (Nat.le_of_ble_eq_true rfl) ?_
  show bq_W _ _ _ _ _ 28 _ [_] _ _ _ _ _ _
  refine q_if_eq (pc := 28) 47 dX12_feed_28 (by decide) (fun c_28 => ((hc (bq_nb0.mp c_28))).elim) (fun c_28 => ?_)
  refine q_iload (pc := 31) dX12_feed_31 rfl ?_
  refine q_callSF (pc := 33) dX12_feed_33 kX12_172 c_X12_isByte ⟨Nat.le_of_ble_eq_true rfl, Nat.le_of_ble_eq_true rfl⟩ rfl rfl (Nat.le_of_ble_eq_true rfl) ?_
  show bq_W _ _ _ _ _ 36 _ [_] _ _ _ _ _ _
  refine q_if_eq (pc := 36) 47 dX12_feed_36 (by decide) (fun c_36 => ((hd (bq_nb0.mp c_36))).elim) (fun c_36 => ?_)
  refine q_iload (pc := 39) dX12_feed_39 rfl ?_
  refine q_callSF (pc := 41) dX12_feed_41 kX12_172 c_X12_isByte ⟨Nat.le_of_ble_eq_true rfl, Nat.le_of_ble_eq_true rfl⟩ rfl rfl (Nat.le_of_ble_eq_true rfl) ?_
  show bq_W _ _ _ _ _ 44 _ [_] _ _ _ _ _ _
  refine q_if_ne (pc := 44) 50 dX12_feed_44 (by decide) (fun c_44 => ?_) (fun c_44 => ((he (bq_nb0.mp c_44))).elim)
  refine q_aload_n (pc := 50) dX12_feed_50 rfl rfl ?_
  refine q_getI (pc := 51) dX12_feed_51 fX12_175 (Model_sh hm) ⟨by decide, rfl⟩ (Model_lt hm) ?_
  rw [h0]
  refine q_iload_n (pc := 54) dX12_feed_54 rfl rfl ?_
  refine q_iaddN (pc := 55) dX12_feed_55 ?_
  refine q_bipush (pc := 56) (v := nI 60) dX12_feed_56 (by decide) ?_
  refine q_icmp_le (pc := 58) 64 dX12_feed_58 (by decide) (fun c_58 => ?_) (fun c_58 => absurd (nI_le (show l + 5 ≤ 60 by omega) (by decide)) c_58)
  refine q_iconst (pc := 64) (v := nI 0) dX12_feed_64 (by decide) ?_
  refine q_istore (pc := 65) dX12_feed_65 (Nat.le_of_ble_eq_true rfl) rfl ?_
  show bq_W _ _ _ _ _ 67 [_, _, _, _, _, _, _, _] _ _ _ _ _ _ _
  refine q_iload (pc := 67) dX12_feed_67 rfl ?_
  refine q_iload_n (pc := 69) dX12_feed_69 rfl rfl ?_
  refine q_icmp_ge (pc := 70) 141 dX12_feed_70 (by decide) (fun c_70 => absurd c_70 (by decide)) (fun c_70 => ?_)
  refine q_aload_n (pc := 73) dX12_feed_73 rfl rfl ?_
  refine q_getP (pc := 74) dX12_feed_74 fX12_22 (Model_sh hm) ⟨by decide, rfl⟩ (Model_lt hm) (Model_p_tape hm) ?_
  refine q_aload_n (pc := 77) dX12_feed_77 rfl rfl ?_
  refine q_getI (pc := 78) dX12_feed_78 fX12_175 (Model_sh hm) ⟨by decide, rfl⟩ (Model_lt hm) ?_
  rw [f0.1]
  refine q_iload (pc := 81) dX12_feed_81 rfl ?_
  refine q_if_ne (pc := 83) 90 dX12_feed_83 (by decide) (fun c_83 => absurd c_83 (by decide)) (fun c_83 => ?_)
  refine q_iload_n (pc := 86) dX12_feed_86 rfl rfl ?_
  refine q_goto (pc := 87) 124 dX12_feed_87 (by decide) ?_
  refine q_iast (pc := 124) dX12_feed_124 (oA_sh (Model_s_tape hm)) (oA_lt (Model_s_tape hm)) rfl (by omega) ?_
  refine q_aload_n (pc := 125) dX12_feed_125 rfl rfl ?_
  refine q_dup (pc := 126) dX12_feed_126 rfl ?_
  refine q_getI (pc := 127) dX12_feed_127 fX12_175 (Model_sh hm) ⟨by decide, rfl⟩ (Model_lt hm) ?_
  rw [bq_u_ne (show m ≠ m + 5 by omega), f0.1]
  refine q_iconst (pc := 130) (v := nI 1) dX12_feed_130 (by decide) ?_
  refine q_iaddN (pc := 131) dX12_feed_131 ?_
  refine q_putI (pc := 132) dX12_feed_132 (pX12_175 _) (Model_sh hm) ⟨by decide, rfl⟩ (Model_lt hm) ?_
  refine q_nameI (fun J1 e1 => ?_)
  have f1 := (FM.ap (v := a) f0)
  rw [← e1] at f1
  refine q_iinc (pc := 135) (v := nI (0 + 1)) dX12_feed_135 rfl (bq_inc _) (Nat.le_of_ble_eq_true rfl) rfl ?_
  show bq_W _ _ _ _ _ 138 [_, _, _, _, _, _, _, _] _ _ _ _ _ _ _
  refine q_goto (pc := 138) 67 dX12_feed_138 (by decide) ?_
  refine q_iload (pc := 67) dX12_feed_67 rfl ?_
  refine q_iload_n (pc := 69) dX12_feed_69 rfl rfl ?_
  refine q_icmp_ge (pc := 70) 141 dX12_feed_70 (by decide) (fun c_70 => absurd c_70 (by decide)) (fun c_70 => ?_)
  refine q_aload_n (pc := 73) dX12_feed_73 rfl rfl ?_
  refine q_getP (pc := 74) dX12_feed_74 fX12_22 (Model_sh hm) ⟨by decide, rfl⟩ (Model_lt hm) (Model_p_tape hm) ?_
  refine q_aload_n (pc := 77) dX12_feed_77 rfl rfl ?_
  refine q_getI (pc := 78) dX12_feed_78 fX12_175 (Model_sh hm) ⟨by decide, rfl⟩ (Model_lt hm) ?_
  rw [f1.1]
  refine q_iload (pc := 81) dX12_feed_81 rfl ?_
  refine q_if_ne (pc := 83) 90 dX12_feed_83 (by decide) (fun c_83 => ?_) (fun c_83 => ((absurd c_83 (by decide) : False)).elim)
  refine q_iload (pc := 90) dX12_feed_90 rfl ?_
  refine q_iconst (pc := 92) (v := nI 1) dX12_feed_92 (by decide) ?_
  refine q_icmp_ne (pc := 93) 100 dX12_feed_93 (by decide) (fun c_93 => absurd c_93 (by decide)) (fun c_93 => ?_)
  refine q_iload_n (pc := 96) dX12_feed_96 rfl rfl ?_
  refine q_goto (pc := 97) 124 dX12_feed_97 (by decide) ?_
  refine q_iast (pc := 124) dX12_feed_124 (oA_sh (Model_s_tape hm)) (oA_lt (Model_s_tape hm)) rfl (by omega) ?_
  refine q_aload_n (pc := 125) dX12_feed_125 rfl rfl ?_
  refine q_dup (pc := 126) dX12_feed_126 rfl ?_
  refine q_getI (pc := 127) dX12_feed_127 fX12_175 (Model_sh hm) ⟨by decide, rfl⟩ (Model_lt hm) ?_
  rw [bq_u_ne (show m ≠ m + 5 by omega), f1.1]
  refine q_iconst (pc := 130) (v := nI 1) dX12_feed_130 (by decide) ?_
  refine q_iaddN (pc := 131) dX12_feed_131 ?_
  refine q_putI (pc := 132) dX12_feed_132 (pX12_175 _) (Model_sh hm) ⟨by decide, rfl⟩ (Model_lt hm) ?_
  refine q_nameI (fun J2 e2 => ?_)
  have f2 := (FM.ap (v := b) f1)
  rw [← e2] at f2
  refine q_iinc (pc := 135) (v := nI ((0 + 1) + 1)) dX12_feed_135 rfl (bq_inc _) (Nat.le_of_ble_eq_true rfl) rfl ?_
  show bq_W _ _ _ _ _ 138 [_, _, _, _, _, _, _, _] _ _ _ _ _ _ _
  refine q_goto (pc := 138) 67 dX12_feed_138 (by decide) ?_
  refine q_iload (pc := 67) dX12_feed_67 rfl ?_
  refine q_iload_n (pc := 69) dX12_feed_69 rfl rfl ?_
  refine q_icmp_ge (pc := 70) 141 dX12_feed_70 (by decide) (fun c_70 => absurd c_70 (by decide)) (fun c_70 => ?_)
  refine q_aload_n (pc := 73) dX12_feed_73 rfl rfl ?_
  refine q_getP (pc := 74) dX12_feed_74 fX12_22 (Model_sh hm) ⟨by decide, rfl⟩ (Model_lt hm) (Model_p_tape hm) ?_
  refine q_aload_n (pc := 77) dX12_feed_77 rfl rfl ?_
  refine q_getI (pc := 78) dX12_feed_78 fX12_175 (Model_sh hm) ⟨by decide, rfl⟩ (Model_lt hm) ?_
  rw [f2.1]
  refine q_iload (pc := 81) dX12_feed_81 rfl ?_
  refine q_if_ne (pc := 83) 90 dX12_feed_83 (by decide) (fun c_83 => ?_) (fun c_83 => ((absurd c_83 (by decide) : False)).elim)
  refine q_iload (pc := 90) dX12_feed_90 rfl ?_
  refine q_iconst (pc := 92) (v := nI 1) dX12_feed_92 (by decide) ?_
  refine q_icmp_ne (pc := 93) 100 dX12_feed_93 (by decide) (fun c_93 => ?_) (fun c_93 => ((absurd c_93 (by decide) : False)).elim)
  refine q_iload (pc := 100) dX12_feed_100 rfl ?_
  refine q_iconst (pc := 102) (v := nI 2) dX12_feed_102 (by decide) ?_
  refine q_icmp_ne (pc := 103) 111 dX12_feed_103 (by decide) (fun c_103 => absurd c_103 (by decide)) (fun c_103 => ?_)
  refine q_iload (pc := 106) dX12_feed_106 rfl ?_
  refine q_goto (pc := 108) 124 dX12_feed_108 (by decide) ?_
  refine q_iast (pc := 124) dX12_feed_124 (oA_sh (Model_s_tape hm)) (oA_lt (Model_s_tape hm)) rfl (by omega) ?_
  refine q_aload_n (pc := 125) dX12_feed_125 rfl rfl ?_
  refine q_dup (pc := 126) dX12_feed_126 rfl ?_
  refine q_getI (pc := 127) dX12_feed_127 fX12_175 (Model_sh hm) ⟨by decide, rfl⟩ (Model_lt hm) ?_
  rw [bq_u_ne (show m ≠ m + 5 by omega), f2.1]
  refine q_iconst (pc := 130) (v := nI 1) dX12_feed_130 (by decide) ?_
  refine q_iaddN (pc := 131) dX12_feed_131 ?_
  refine q_putI (pc := 132) dX12_feed_132 (pX12_175 _) (Model_sh hm) ⟨by decide, rfl⟩ (Model_lt hm) ?_
  refine q_nameI (fun J3 e3 => ?_)
  have f3 := (FM.ap (v := c) f2)
  rw [← e3] at f3
  refine q_iinc (pc := 135) (v := nI (((0 + 1) + 1) + 1)) dX12_feed_135 rfl (bq_inc _) (Nat.le_of_ble_eq_true rfl) rfl ?_
  show bq_W _ _ _ _ _ 138 [_, _, _, _, _, _, _, _] _ _ _ _ _ _ _
  refine q_goto (pc := 138) 67 dX12_feed_138 (by decide) ?_
  refine q_iload (pc := 67) dX12_feed_67 rfl ?_
  refine q_iload_n (pc := 69) dX12_feed_69 rfl rfl ?_
  refine q_icmp_ge (pc := 70) 141 dX12_feed_70 (by decide) (fun c_70 => absurd c_70 (by decide)) (fun c_70 => ?_)
  refine q_aload_n (pc := 73) dX12_feed_73 rfl rfl ?_
  refine q_getP (pc := 74) dX12_feed_74 fX12_22 (Model_sh hm) ⟨by decide, rfl⟩ (Model_lt hm) (Model_p_tape hm) ?_
  refine q_aload_n (pc := 77) dX12_feed_77 rfl rfl ?_
  refine q_getI (pc := 78) dX12_feed_78 fX12_175 (Model_sh hm) ⟨by decide, rfl⟩ (Model_lt hm) ?_
  rw [f3.1]
  refine q_iload (pc := 81) dX12_feed_81 rfl ?_
  refine q_if_ne (pc := 83) 90 dX12_feed_83 (by decide) (fun c_83 => ?_) (fun c_83 => ((absurd c_83 (by decide) : False)).elim)
  refine q_iload (pc := 90) dX12_feed_90 rfl ?_
  refine q_iconst (pc := 92) (v := nI 1) dX12_feed_92 (by decide) ?_
  refine q_icmp_ne (pc := 93) 100 dX12_feed_93 (by decide) (fun c_93 => ?_) (fun c_93 => ((absurd c_93 (by decide) : False)).elim)
  refine q_iload (pc := 100) dX12_feed_100 rfl ?_
  refine q_iconst (pc := 102) (v := nI 2) dX12_feed_102 (by decide) ?_
  refine q_icmp_ne (pc := 103) 111 dX12_feed_103 (by decide) (fun c_103 => ?_) (fun c_103 => ((absurd c_103 (by decide) : False)).elim)
  refine q_iload (pc := 111) dX12_feed_111 rfl ?_
  refine q_iconst (pc := 113) (v := nI 3) dX12_feed_113 (by decide) ?_
  refine q_icmp_ne (pc := 114) 122 dX12_feed_114 (by decide) (fun c_114 => absurd c_114 (by decide)) (fun c_114 => ?_)
  refine q_iload (pc := 117) dX12_feed_117 rfl ?_
  refine q_goto (pc := 119) 124 dX12_feed_119 (by decide) ?_
  refine q_iast (pc := 124) dX12_feed_124 (oA_sh (Model_s_tape hm)) (oA_lt (Model_s_tape hm)) rfl (by omega) ?_
  refine q_aload_n (pc := 125) dX12_feed_125 rfl rfl ?_
  refine q_dup (pc := 126) dX12_feed_126 rfl ?_
  refine q_getI (pc := 127) dX12_feed_127 fX12_175 (Model_sh hm) ⟨by decide, rfl⟩ (Model_lt hm) ?_
  rw [bq_u_ne (show m ≠ m + 5 by omega), f3.1]
  refine q_iconst (pc := 130) (v := nI 1) dX12_feed_130 (by decide) ?_
  refine q_iaddN (pc := 131) dX12_feed_131 ?_
  refine q_putI (pc := 132) dX12_feed_132 (pX12_175 _) (Model_sh hm) ⟨by decide, rfl⟩ (Model_lt hm) ?_
  refine q_nameI (fun J4 e4 => ?_)
  have f4 := (FM.ap (v := d) f3)
  rw [← e4] at f4
  refine q_iinc (pc := 135) (v := nI ((((0 + 1) + 1) + 1) + 1)) dX12_feed_135 rfl (bq_inc _) (Nat.le_of_ble_eq_true rfl) rfl ?_
  show bq_W _ _ _ _ _ 138 [_, _, _, _, _, _, _, _] _ _ _ _ _ _ _
  refine q_goto (pc := 138) 67 dX12_feed_138 (by decide) ?_
  refine q_iload (pc := 67) dX12_feed_67 rfl ?_
  refine q_iload_n (pc := 69) dX12_feed_69 rfl rfl ?_
  refine q_icmp_ge (pc := 70) 141 dX12_feed_70 (by decide) (fun c_70 => absurd c_70 (by decide)) (fun c_70 => ?_)
  refine q_aload_n (pc := 73) dX12_feed_73 rfl rfl ?_
  refine q_getP (pc := 74) dX12_feed_74 fX12_22 (Model_sh hm) ⟨by decide, rfl⟩ (Model_lt hm) (Model_p_tape hm) ?_
  refine q_aload_n (pc := 77) dX12_feed_77 rfl rfl ?_
  refine q_getI (pc := 78) dX12_feed_78 fX12_175 (Model_sh hm) ⟨by decide, rfl⟩ (Model_lt hm) ?_
  rw [f4.1]
  refine q_iload (pc := 81) dX12_feed_81 rfl ?_
  refine q_if_ne (pc := 83) 90 dX12_feed_83 (by decide) (fun c_83 => ?_) (fun c_83 => ((absurd c_83 (by decide) : False)).elim)
  refine q_iload (pc := 90) dX12_feed_90 rfl ?_
  refine q_iconst (pc := 92) (v := nI 1) dX12_feed_92 (by decide) ?_
  refine q_icmp_ne (pc := 93) 100 dX12_feed_93 (by decide) (fun c_93 => ?_) (fun c_93 => ((absurd c_93 (by decide) : False)).elim)
  refine q_iload (pc := 100) dX12_feed_100 rfl ?_
  refine q_iconst (pc := 102) (v := nI 2) dX12_feed_102 (by decide) ?_
  refine q_icmp_ne (pc := 103) 111 dX12_feed_103 (by decide) (fun c_103 => ?_) (fun c_103 => ((absurd c_103 (by decide) : False)).elim)
  refine q_iload (pc := 111) dX12_feed_111 rfl ?_
  refine q_iconst (pc := 113) (v := nI 3) dX12_feed_113 (by decide) ?_
  refine q_icmp_ne (pc := 114) 122 dX12_feed_114 (by decide) (fun c_114 => ?_) (fun c_114 => ((absurd c_114 (by decide) : False)).elim)
  refine q_iload (pc := 122) dX12_feed_122 rfl ?_
  refine q_iast (pc := 124) dX12_feed_124 (oA_sh (Model_s_tape hm)) (oA_lt (Model_s_tape hm)) rfl (by omega) ?_
  refine q_aload_n (pc := 125) dX12_feed_125 rfl rfl ?_
  refine q_dup (pc := 126) dX12_feed_126 rfl ?_
  refine q_getI (pc := 127) dX12_feed_127 fX12_175 (Model_sh hm) ⟨by decide, rfl⟩ (Model_lt hm) ?_
  rw [bq_u_ne (show m ≠ m + 5 by omega), f4.1]
  refine q_iconst (pc := 130) (v := nI 1) dX12_feed_130 (by decide) ?_
  refine q_iaddN (pc := 131) dX12_feed_131 ?_
  refine q_putI (pc := 132) dX12_feed_132 (pX12_175 _) (Model_sh hm) ⟨by decide, rfl⟩ (Model_lt hm) ?_
  refine q_nameI (fun J5 e5 => ?_)
  have f5 := (FM.ap (v := e) f4)
  rw [← e5] at f5
  refine q_iinc (pc := 135) (v := nI (((((0 + 1) + 1) + 1) + 1) + 1)) dX12_feed_135 rfl (bq_inc _) (Nat.le_of_ble_eq_true rfl) rfl ?_
  show bq_W _ _ _ _ _ 138 [_, _, _, _, _, _, _, _] _ _ _ _ _ _ _
  refine q_goto (pc := 138) 67 dX12_feed_138 (by decide) ?_
  refine q_iload (pc := 67) dX12_feed_67 rfl ?_
  refine q_iload_n (pc := 69) dX12_feed_69 rfl rfl ?_
  refine q_icmp_ge (pc := 70) 141 dX12_feed_70 (by decide) (fun c_70 => ?_) (fun c_70 => absurd (by decide) c_70)
  refine q_aload_n (pc := 141) dX12_feed_141 rfl rfl ?_
  refine q_getI (pc := 142) dX12_feed_142 fX12_175 (Model_sh hm) ⟨by decide, rfl⟩ (Model_lt hm) ?_
  exact q_iret (st := []) (pc := 145) dX12_feed_145 rfl ⟨by rw [p_feed_ok (by decide) (by decide) ha hb hc hd he hf, f5.1], rfl, rfl, rfl, rfl, by rw [p_feed_ok (by decide) (by decide) ha hb hc hd he hf]; exact ⟨f5.1, fun j hj => (f5.2.1 j hj).trans (fb_s (k := 4) (fb_s (k := 3) (fb_s (k := 2) (fb_s (k := 1) (fb_1))))), f5.2.2⟩⟩
theorem o_feed {S : BqH} {n : Nat} {I : BqI} {L : BqL} {P : BqP} {m : Nat} (hm : oModel S n P m) {l : Nat} (h0 : I m 9 = nI l) (hl : l ≤ 60) {k : Int32} {a b c d e : Int32} : bq_Sp mX12_feed 3 54 0 0 [.ref m, .int k, .int a, .int b, .int c, .int d, .int e] S n I L P (qFm m I S n L P (p_feed l (I (m + 5)) k a b c d e)) := by
  by_cases hb : (k < nI 1 ∨ ¬ k ≤ nI 5) ∨ (a < nI 0 ∨ ¬ a ≤ nI 127) ∨ (b < nI 0 ∨ ¬ b ≤ nI 127) ∨ (c < nI 0 ∨ ¬ c ≤ nI 127) ∨ (d < nI 0 ∨ ¬ d ≤ nI 127) ∨ (e < nI 0 ∨ ¬ e ≤ nI 127)
  · exact o_feed_a hm h0 hl hb
  obtain ⟨q, q1, q5, rfl⟩ := (bq_in19 k 1 5 (by decide) (by decide)).resolve_left (fun z => hb (Or.inl z))
  have ha : ¬ (a < nI 0 ∨ ¬ a ≤ nI 127) := fun z => hb (Or.inr (Or.inl z))
  have hb' : ¬ (b < nI 0 ∨ ¬ b ≤ nI 127) := fun z => hb (Or.inr (Or.inr (Or.inl z)))
  have hc : ¬ (c < nI 0 ∨ ¬ c ≤ nI 127) := fun z => hb (Or.inr (Or.inr (Or.inr (Or.inl z))))
  have hd : ¬ (d < nI 0 ∨ ¬ d ≤ nI 127) := fun z => hb (Or.inr (Or.inr (Or.inr (Or.inr (Or.inl z)))))
  have he : ¬ (e < nI 0 ∨ ¬ e ≤ nI 127) := fun z => hb (Or.inr (Or.inr (Or.inr (Or.inr (Or.inr z)))))
  by_cases hf : 60 < l + q
  · exact o_feed_b hm h0 hl q1 q5 ha hb' hc hd he hf
  match q, q1, q5, hf with
  | 1, _, _, hf => exact o_feed_k1 hm h0 hl ha hb' hc hd he hf
  | 2, _, _, hf => exact o_feed_k2 hm h0 hl ha hb' hc hd he hf
  | 3, _, _, hf => exact o_feed_k3 hm h0 hl ha hb' hc hd he hf
  | 4, _, _, hf => exact o_feed_k4 hm h0 hl ha hb' hc hd he hf
  | 5, _, _, hf => exact o_feed_k5 hm h0 hl ha hb' hc hd he hf
  | q + 6, _, q5, _ => exact absurd q5 (by omega)
