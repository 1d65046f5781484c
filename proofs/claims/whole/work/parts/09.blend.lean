def tk_cp (I : BqI) (t o : Nat) : BqI := bq_cp (bq_u (bq_u (bq_u I t 0 (I o 0)) t 1 (bq_u I t 0 (I o 0) o 1)) t 2 (bq_u (bq_u I t 0 (I o 0)) t 1 (bq_u I t 0 (I o 0) o 1) o 2)) (o + 2) (t + 2) 16
def tk_out (I : BqI) (t o : Nat) : BqI := if bq_sum (bl_rem I (t + 2) (o + 1) 16 (t + 2)) 16 = 0 then bq_u (bl_rem I (t + 2) (o + 1) 16) t 1 (nI 2) else bl_rem I (t + 2) (o + 1) 16
def bq_f1 (I : BqI) (d o k : Nat) : BqI := bq_u I d k (I o k)
def or_cp (I : BqI) (d o : Nat) : BqI := bq_f1 (bq_f1 (bq_f1 (bq_f1 (bq_f1 (bq_f1 (bq_f1 (bq_f1 I d o 0) d o 1) d o 2) d o 3) d o 4) d o 5) d o 6) d o 7
def ra_cp (I : BqI) (d o : Nat) : BqI := bq_f1 (bq_f1 (bq_f1 I d o 0) d o 1) d o 2
set_option maxHeartbeats 400000 in
set_option maxRecDepth 20000 in
theorem c_X0_total {S : BqH} {n : Nat} {I : BqI} {L : BqL} {P : BqP} {b : Nat} (hb : oBlend S n P b) : bq_Sp mX0_total 1 12 0 0 [.ref b] S n I L P (bq_F (some (.int (bq_sum (I (b + 1)) 16))) S n I L P) := by
  refine q_entry (vs := [some (.ref b), none, none]) (by decide +kernel) (by simp) (Nat.le_of_ble_eq_true rfl) rfl ?_
  have lp : ∀ i, i ≤ 16 → bq_W mX0_total 1 12 0 0 4 [some (.ref b), some (.int (bq_sum (I (b + 1)) i)), some (.int (nI i))] [] S n I L P (bq_F (some (.int (bq_sum (I (b + 1)) 16))) S n I L P) := by
    refine bq_down (A := fun i => bq_W mX0_total 1 12 0 0 4 [some (.ref b), some (.int (bq_sum (I (b + 1)) i)), some (.int (nI i))] [] S n I L P (bq_F (some (.int (bq_sum (I (b + 1)) 16))) S n I L P)) 16 ?_ ?_
    · refine q_iload_n (pc := 4) dX0_total_4 rfl rfl ?_
      refine q_bipush (pc := 5) (v := nI 16) dX0_total_5 (by decide) ?_
      refine q_icmp_ge (pc := 7) 25 dX0_total_7 (by decide) (fun c_7 => ?_) (fun c_7 => absurd (by decide) c_7)
      refine q_iload_n (pc := 25) dX0_total_25 rfl rfl ?_
      exact q_iret (st := []) (pc := 26) dX0_total_26 rfl ⟨rfl, rfl, rfl, rfl, rfl, rfl⟩
    · intro i hi ih
      refine q_iload_n (pc := 4) dX0_total_4 rfl rfl ?_
      refine q_bipush (pc := 5) (v := nI 16) dX0_total_5 (by decide) ?_
      refine q_icmp_ge (pc := 7) 25 dX0_total_7 (by decide) (fun c_7 => absurd c_7 (nI_ge hi (by decide))) (fun c_7 => ?_)
      refine q_iload_n (pc := 10) dX0_total_10 rfl rfl ?_
      refine q_aload_n (pc := 11) dX0_total_11 rfl rfl ?_
      refine q_getP (pc := 12) dX0_total_12 fX0_9 (Blend_sh hb) ⟨by decide, rfl⟩ (Blend_lt hb) (Blend_p_parts hb) ?_
      refine q_iload_n (pc := 15) dX0_total_15 rfl rfl ?_
      refine q_iald (pc := 16) dX0_total_16 (oA_sh (Blend_s_parts hb)) (oA_lt (Blend_s_parts hb)) rfl (by omega) ?_
      refine q_iadd (pc := 17) dX0_total_17 ?_
      refine q_istore_n (pc := 18) dX0_total_18 rfl (Nat.le_of_ble_eq_true rfl) rfl ?_
      show bq_W _ _ _ _ _ 19 [_, _, _] _ _ _ _ _ _ _
      refine q_iinc (pc := 19) (v := nI (i + 1)) dX0_total_19 rfl (bq_inc _) (Nat.le_of_ble_eq_true rfl) rfl ?_
      show bq_W _ _ _ _ _ 22 [_, _, _] _ _ _ _ _ _ _
      refine q_goto (pc := 22) 4 dX0_total_22 (by decide) ?_
      exact ih
  refine q_iconst (pc := 0) (v := nI 0) dX0_total_0 (by decide) ?_
  refine q_istore_n (pc := 1) dX0_total_1 rfl (Nat.le_of_ble_eq_true rfl) rfl ?_
  show bq_W _ _ _ _ _ 2 [_, _, _] _ _ _ _ _ _ _
  refine q_iconst (pc := 2) (v := nI 0) dX0_total_2 (by decide) ?_
  refine q_istore_n (pc := 3) dX0_total_3 rfl (Nat.le_of_ble_eq_true rfl) rfl ?_
  show bq_W _ _ _ _ _ 4 [_, _, _] _ _ _ _ _ _ _
  exact lp 0 (by decide)
set_option maxHeartbeats 400000 in
set_option maxRecDepth 20000 in
theorem c_X0_copyFrom {S : BqH} {n : Nat} {I : BqI} {L : BqL} {P : BqP} {b o : Nat} (hb : oBlend S n P b) (ho : oBlend S n P o) : bq_Sp mX0_copyFrom 2 60 0 0 [.ref b, .ref o] S n I L P (bq_F (none) S n (bq_cp I (o + 1) (b + 1) 16) L P) := by
  refine q_entry (vs := [some (.ref b), some (.ref o)]) (by decide +kernel) (by simp) (Nat.le_of_ble_eq_true rfl) rfl ?_
  refine q_aload_n (pc := 0) dX0_copyFrom_0 rfl rfl ?_
  refine q_getP (pc := 1) dX0_copyFrom_1 fX0_9 (Blend_sh ho) ⟨by decide, rfl⟩ (Blend_lt ho) (Blend_p_parts ho) ?_
  refine q_iconst (pc := 4) (v := nI 0) dX0_copyFrom_4 (by decide) ?_
  refine q_aload_n (pc := 5) dX0_copyFrom_5 rfl rfl ?_
  refine q_getP (pc := 6) dX0_copyFrom_6 fX0_9 (Blend_sh hb) ⟨by decide, rfl⟩ (Blend_lt hb) (Blend_p_parts hb) ?_
  refine q_iconst (pc := 9) (v := nI 0) dX0_copyFrom_9 (by decide) ?_
  refine q_bipush (pc := 10) (v := nI 16) dX0_copyFrom_10 (by decide) ?_
  refine q_copy (pc := 12) dX0_copyFrom_12 kX0_15 (oA_sh (Blend_s_parts ho)) (oA_sh (Blend_s_parts hb)) (oA_lt (Blend_s_parts ho)) (oA_lt (Blend_s_parts hb)) (by decide) (by decide) ⟨Nat.le_of_ble_eq_true rfl, Nat.le_of_ble_eq_true rfl⟩ ?_
  exact q_vret (st := []) (pc := 15) dX0_copyFrom_15 rfl ⟨rfl, rfl, rfl, rfl, rfl, rfl⟩
set_option maxHeartbeats 400000 in
set_option maxRecDepth 20000 in
theorem c_X0_add {S : BqH} {n : Nat} {I : BqI} {L : BqL} {P : BqP} {b o : Nat} (hb : oBlend S n P b) (ho : oBlend S n P o) : bq_Sp mX0_add 1 12 0 0 [.ref b, .ref o] S n I L P (bq_F (none) S n (bl_add I (b + 1) (o + 1) 16) L P) := by
  refine q_entry (vs := [some (.ref b), some (.ref o), none]) (by decide +kernel) (by simp) (Nat.le_of_ble_eq_true rfl) rfl ?_
  have lp : ∀ i, i ≤ 16 → bq_W mX0_add 1 12 0 0 2 [some (.ref b), some (.ref o), some (.int (nI i))] [] S n (bl_add I (b + 1) (o + 1) i) L P (bq_F (none) S n (bl_add I (b + 1) (o + 1) 16) L P) := by
    refine bq_down (A := fun i => bq_W mX0_add 1 12 0 0 2 [some (.ref b), some (.ref o), some (.int (nI i))] [] S n (bl_add I (b + 1) (o + 1) i) L P (bq_F (none) S n (bl_add I (b + 1) (o + 1) 16) L P)) 16 ?_ ?_
    · refine q_iload_n (pc := 2) dX0_add_2 rfl rfl ?_
      refine q_bipush (pc := 3) (v := nI 16) dX0_add_3 (by decide) ?_
      refine q_icmp_ge (pc := 5) 29 dX0_add_5 (by decide) (fun c_5 => ?_) (fun c_5 => absurd (by decide) c_5)
      exact q_vret (st := []) (pc := 29) dX0_add_29 rfl ⟨rfl, rfl, rfl, rfl, rfl, rfl⟩
    · intro i hi ih
      refine q_iload_n (pc := 2) dX0_add_2 rfl rfl ?_
      refine q_bipush (pc := 3) (v := nI 16) dX0_add_3 (by decide) ?_
      refine q_icmp_ge (pc := 5) 29 dX0_add_5 (by decide) (fun c_5 => absurd c_5 (nI_ge hi (by decide))) (fun c_5 => ?_)
      refine q_aload_n (pc := 8) dX0_add_8 rfl rfl ?_
      refine q_getP (pc := 9) dX0_add_9 fX0_9 (Blend_sh hb) ⟨by decide, rfl⟩ (Blend_lt hb) (Blend_p_parts hb) ?_
      refine q_iload_n (pc := 12) dX0_add_12 rfl rfl ?_
      refine q_dup2 (pc := 13) dX0_add_13 rfl rfl ?_
      refine q_iald (pc := 14) dX0_add_14 (oA_sh (Blend_s_parts hb)) (oA_lt (Blend_s_parts hb)) rfl (by omega) ?_
      refine q_aload_n (pc := 15) dX0_add_15 rfl rfl ?_
      refine q_getP (pc := 16) dX0_add_16 fX0_9 (Blend_sh ho) ⟨by decide, rfl⟩ (Blend_lt ho) (Blend_p_parts ho) ?_
      refine q_iload_n (pc := 19) dX0_add_19 rfl rfl ?_
      refine q_iald (pc := 20) dX0_add_20 (oA_sh (Blend_s_parts ho)) (oA_lt (Blend_s_parts ho)) rfl (by omega) ?_
      refine q_iadd (pc := 21) dX0_add_21 ?_
      refine q_iast (pc := 22) dX0_add_22 (oA_sh (Blend_s_parts hb)) (oA_lt (Blend_s_parts hb)) rfl (by omega) ?_
      refine q_iinc (pc := 23) (v := nI (i + 1)) dX0_add_23 rfl (bq_inc _) (Nat.le_of_ble_eq_true rfl) rfl ?_
      show bq_W _ _ _ _ _ 26 [_, _, _] _ _ _ _ _ _ _
      refine q_goto (pc := 26) 2 dX0_add_26 (by decide) ?_
      exact ih
  refine q_iconst (pc := 0) (v := nI 0) dX0_add_0 (by decide) ?_
  refine q_istore_n (pc := 1) dX0_add_1 rfl (Nat.le_of_ble_eq_true rfl) rfl ?_
  show bq_W _ _ _ _ _ 2 [_, _, _] _ _ _ _ _ _ _
  exact lp 0 (by decide)
set_option maxHeartbeats 400000 in
set_option maxRecDepth 20000 in
theorem c_X0_remove {S : BqH} {n : Nat} {I : BqI} {L : BqL} {P : BqP} {b o : Nat} (hb : oBlend S n P b) (ho : oBlend S n P o) : bq_Sp mX0_remove 1 12 0 0 [.ref b, .ref o] S n I L P (bq_F (none) S n (bl_rem I (b + 1) (o + 1) 16) L P) := by
  refine q_entry (vs := [some (.ref b), some (.ref o), none]) (by decide +kernel) (by simp) (Nat.le_of_ble_eq_true rfl) rfl ?_
  have lp : ∀ i, i ≤ 16 → bq_W mX0_remove 1 12 0 0 2 [some (.ref b), some (.ref o), some (.int (nI i))] [] S n (bl_rem I (b + 1) (o + 1) i) L P (bq_F (none) S n (bl_rem I (b + 1) (o + 1) 16) L P) := by
    refine bq_down (A := fun i => bq_W mX0_remove 1 12 0 0 2 [some (.ref b), some (.ref o), some (.int (nI i))] [] S n (bl_rem I (b + 1) (o + 1) i) L P (bq_F (none) S n (bl_rem I (b + 1) (o + 1) 16) L P)) 16 ?_ ?_
    · refine q_iload_n (pc := 2) dX0_remove_2 rfl rfl ?_
      refine q_bipush (pc := 3) (v := nI 16) dX0_remove_3 (by decide) ?_
      refine q_icmp_ge (pc := 5) 29 dX0_remove_5 (by decide) (fun c_5 => ?_) (fun c_5 => absurd (by decide) c_5)
      exact q_vret (st := []) (pc := 29) dX0_remove_29 rfl ⟨rfl, rfl, rfl, rfl, rfl, rfl⟩
    · intro i hi ih
      refine q_iload_n (pc := 2) dX0_remove_2 rfl rfl ?_
      refine q_bipush (pc := 3) (v := nI 16) dX0_remove_3 (by decide) ?_
      refine q_icmp_ge (pc := 5) 29 dX0_remove_5 (by decide) (fun c_5 => absurd c_5 (nI_ge hi (by decide))) (fun c_5 => ?_)
      refine q_aload_n (pc := 8) dX0_remove_8 rfl rfl ?_
      refine q_getP (pc := 9) dX0_remove_9 fX0_9 (Blend_sh hb) ⟨by decide, rfl⟩ (Blend_lt hb) (Blend_p_parts hb) ?_
      refine q_iload_n (pc := 12) dX0_remove_12 rfl rfl ?_
      refine q_dup2 (pc := 13) dX0_remove_13 rfl rfl ?_
      refine q_iald (pc := 14) dX0_remove_14 (oA_sh (Blend_s_parts hb)) (oA_lt (Blend_s_parts hb)) rfl (by omega) ?_
      refine q_aload_n (pc := 15) dX0_remove_15 rfl rfl ?_
      refine q_getP (pc := 16) dX0_remove_16 fX0_9 (Blend_sh ho) ⟨by decide, rfl⟩ (Blend_lt ho) (Blend_p_parts ho) ?_
      refine q_iload_n (pc := 19) dX0_remove_19 rfl rfl ?_
      refine q_iald (pc := 20) dX0_remove_20 (oA_sh (Blend_s_parts ho)) (oA_lt (Blend_s_parts ho)) rfl (by omega) ?_
      refine q_isub (pc := 21) dX0_remove_21 ?_
      refine q_iast (pc := 22) dX0_remove_22 (oA_sh (Blend_s_parts hb)) (oA_lt (Blend_s_parts hb)) rfl (by omega) ?_
      refine q_iinc (pc := 23) (v := nI (i + 1)) dX0_remove_23 rfl (bq_inc _) (Nat.le_of_ble_eq_true rfl) rfl ?_
      show bq_W _ _ _ _ _ 26 [_, _, _] _ _ _ _ _ _ _
      refine q_goto (pc := 26) 2 dX0_remove_26 (by decide) ?_
      exact ih
  refine q_iconst (pc := 0) (v := nI 0) dX0_remove_0 (by decide) ?_
  refine q_istore_n (pc := 1) dX0_remove_1 rfl (Nat.le_of_ble_eq_true rfl) rfl ?_
  show bq_W _ _ _ _ _ 2 [_, _, _] _ _ _ _ _ _ _
  exact lp 0 (by decide)
set_option maxHeartbeats 400000 in
set_option maxRecDepth 20000 in
theorem c_X0_batches {S : BqH} {n : Nat} {I : BqI} {L : BqL} {P : BqP} {b : Nat} (hb : oBlend S n P b) : bq_Sp mX0_batches 1 12 0 0 [.ref b] S n I L P (bq_F (some (.int (nI (bq_cnt (I (b + 1)) 16)))) S n I L P) := by
  refine q_entry (vs := [some (.ref b), none, none]) (by decide +kernel) (by simp) (Nat.le_of_ble_eq_true rfl) rfl ?_
  have lp : ∀ i, i ≤ 16 → bq_W mX0_batches 1 12 0 0 4 [some (.ref b), some (.int (nI (bq_cnt (I (b + 1)) i))), some (.int (nI i))] [] S n I L P (bq_F (some (.int (nI (bq_cnt (I (b + 1)) 16)))) S n I L P) := by
    refine bq_down (A := fun i => bq_W mX0_batches 1 12 0 0 4 [some (.ref b), some (.int (nI (bq_cnt (I (b + 1)) i))), some (.int (nI i))] [] S n I L P (bq_F (some (.int (nI (bq_cnt (I (b + 1)) 16)))) S n I L P)) 16 ?_ ?_
    · refine q_iload_n (pc := 4) dX0_batches_4 rfl rfl ?_
      refine q_bipush (pc := 5) (v := nI 16) dX0_batches_5 (by decide) ?_
      refine q_icmp_ge (pc := 7) 28 dX0_batches_7 (by decide) (fun c_7 => ?_) (fun c_7 => absurd (by decide) c_7)
      refine q_iload_n (pc := 28) dX0_batches_28 rfl rfl ?_
      exact q_iret (st := []) (pc := 29) dX0_batches_29 rfl ⟨rfl, rfl, rfl, rfl, rfl, rfl⟩
    · intro i hi ih
      refine q_iload_n (pc := 4) dX0_batches_4 rfl rfl ?_
      refine q_bipush (pc := 5) (v := nI 16) dX0_batches_5 (by decide) ?_
      refine q_icmp_ge (pc := 7) 28 dX0_batches_7 (by decide) (fun c_7 => absurd c_7 (nI_ge hi (by decide))) (fun c_7 => ?_)
      refine q_aload_n (pc := 10) dX0_batches_10 rfl rfl ?_
      refine q_getP (pc := 11) dX0_batches_11 fX0_9 (Blend_sh hb) ⟨by decide, rfl⟩ (Blend_lt hb) (Blend_p_parts hb) ?_
      refine q_iload_n (pc := 14) dX0_batches_14 rfl rfl ?_
      refine q_iald (pc := 15) dX0_batches_15 (oA_sh (Blend_s_parts hb)) (oA_lt (Blend_s_parts hb)) rfl (by omega) ?_
      refine q_if_le (pc := 16) 22 dX0_batches_16 (by decide) (fun c_16 => ?_) (fun c_16 => ?_)
      · refine q_iinc (pc := 22) (v := nI (i + 1)) dX0_batches_22 rfl (bq_inc _) (Nat.le_of_ble_eq_true rfl) rfl ?_
        show bq_W _ _ _ _ _ 25 [_, _, _] _ _ _ _ _ _ _
        refine q_goto (pc := 25) 4 dX0_batches_25 (by decide) ?_
        rw [show bq_cnt (I (b + 1)) (i + 1) = _ from if_pos c_16] at ih
        exact ih
      · refine q_iinc (pc := 19) (v := nI ((bq_cnt (I (b + 1)) i) + 1)) dX0_batches_19 rfl (bq_inc _) (Nat.le_of_ble_eq_true rfl) rfl ?_
        show bq_W _ _ _ _ _ 22 [_, _, _] _ _ _ _ _ _ _
        refine q_iinc (pc := 22) (v := nI (i + 1)) dX0_batches_22 rfl (bq_inc _) (Nat.le_of_ble_eq_true rfl) rfl ?_
        show bq_W _ _ _ _ _ 25 [_, _, _] _ _ _ _ _ _ _
        refine q_goto (pc := 25) 4 dX0_batches_25 (by decide) ?_
        rw [show bq_cnt (I (b + 1)) (i + 1) = _ from if_neg c_16] at ih
        exact ih
  refine q_iconst (pc := 0) (v := nI 0) dX0_batches_0 (by decide) ?_
  refine q_istore_n (pc := 1) dX0_batches_1 rfl (Nat.le_of_ble_eq_true rfl) rfl ?_
  show bq_W _ _ _ _ _ 2 [_, _, _] _ _ _ _ _ _ _
  refine q_iconst (pc := 2) (v := nI 0) dX0_batches_2 (by decide) ?_
  refine q_istore_n (pc := 3) dX0_batches_3 rfl (Nat.le_of_ble_eq_true rfl) rfl ?_
  show bq_W _ _ _ _ _ 4 [_, _, _] _ _ _ _ _ _ _
  exact lp 0 (by decide)
set_option maxHeartbeats 400000 in
set_option maxRecDepth 20000 in
theorem c_X0_alcohol {S : BqH} {n : Nat} {I : BqI} {L : BqL} {P : BqP} {b g : Nat} (hb : oBlend S n P b) (hg : oA S n g 16) : bq_Sp mX0_alcohol 1 12 0 0 [.ref b, .ref g] S n I L P (bq_F (some (.long (bq_alc (I (b + 1)) (I g) 16))) S n I L P) := by
  refine q_entry (vs := [some (.ref b), some (.ref g), none, none, none]) (by decide +kernel) (by simp) (Nat.le_of_ble_eq_true rfl) rfl ?_
  have lp : ∀ i, i ≤ 16 → bq_W mX0_alcohol 1 12 0 0 5 [some (.ref b), some (.ref g), some (.long (bq_alc (I (b + 1)) (I g) i)), none, some (.int (nI i))] [] S n I L P (bq_F (some (.long (bq_alc (I (b + 1)) (I g) 16))) S n I L P) := by
    refine bq_down (A := fun i => bq_W mX0_alcohol 1 12 0 0 5 [some (.ref b), some (.ref g), some (.long (bq_alc (I (b + 1)) (I g) i)), none, some (.int (nI i))] [] S n I L P (bq_F (some (.long (bq_alc (I (b + 1)) (I g) 16))) S n I L P)) 16 ?_ ?_
    · refine q_iload (pc := 5) dX0_alcohol_5 rfl ?_
      refine q_bipush (pc := 7) (v := nI 16) dX0_alcohol_7 (by decide) ?_
      refine q_icmp_ge (pc := 9) 42 dX0_alcohol_9 (by decide) (fun c_9 => ?_) (fun c_9 => absurd (by decide) c_9)
      refine q_lload_n (pc := 42) dX0_alcohol_42 rfl rfl ?_
      exact q_lret (st := []) (pc := 43) dX0_alcohol_43 rfl ⟨rfl, rfl, rfl, rfl, rfl, rfl⟩
    · intro i hi ih
      refine q_iload (pc := 5) dX0_alcohol_5 rfl ?_
      refine q_bipush (pc := 7) (v := nI 16) dX0_alcohol_7 (by decide) ?_
      refine q_icmp_ge (pc := 9) 42 dX0_alcohol_9 (by decide) (fun c_9 => absurd c_9 (nI_ge hi (by decide))) (fun c_9 => ?_)
      refine q_iload (pc := 12) dX0_alcohol_12 rfl ?_
      refine q_aload_n (pc := 14) dX0_alcohol_14 rfl rfl ?_
      refine q_alen (pc := 15) dX0_alcohol_15 (oA_sh hg) (by decide) (oA_lt hg) ?_
      refine q_icmp_ge (pc := 16) 42 dX0_alcohol_16 (by decide) (fun c_16 => absurd c_16 (nI_ge hi (by decide))) (fun c_16 => ?_)
      refine q_lload_n (pc := 19) dX0_alcohol_19 rfl rfl ?_
      refine q_aload_n (pc := 20) dX0_alcohol_20 rfl rfl ?_
      refine q_getP (pc := 21) dX0_alcohol_21 fX0_9 (Blend_sh hb) ⟨by decide, rfl⟩ (Blend_lt hb) (Blend_p_parts hb) ?_
      refine q_iload (pc := 24) dX0_alcohol_24 rfl ?_
      refine q_iald (pc := 26) dX0_alcohol_26 (oA_sh (Blend_s_parts hb)) (oA_lt (Blend_s_parts hb)) rfl (by omega) ?_
      refine q_i2l (pc := 27) dX0_alcohol_27 ?_
      refine q_aload_n (pc := 28) dX0_alcohol_28 rfl rfl ?_
      refine q_iload (pc := 29) dX0_alcohol_29 rfl ?_
      refine q_iald (pc := 31) dX0_alcohol_31 (oA_sh hg) (oA_lt hg) rfl (by omega) ?_
      refine q_i2l (pc := 32) dX0_alcohol_32 ?_
      refine q_lmul (pc := 33) dX0_alcohol_33 ?_
      refine q_ladd (pc := 34) dX0_alcohol_34 ?_
      refine q_lstore_n (pc := 35) dX0_alcohol_35 rfl (Nat.le_of_ble_eq_true rfl) rfl ?_
      show bq_W _ _ _ _ _ 36 [_, _, _, _, _] _ _ _ _ _ _ _
      refine q_iinc (pc := 36) (v := nI (i + 1)) dX0_alcohol_36 rfl (bq_inc _) (Nat.le_of_ble_eq_true rfl) rfl ?_
      show bq_W _ _ _ _ _ 39 [_, _, _, _, _] _ _ _ _ _ _ _
      refine q_goto (pc := 39) 5 dX0_alcohol_39 (by decide) ?_
      exact ih
  refine q_lconst (pc := 0) dX0_alcohol_0 rfl ?_
  refine q_lstore_n (pc := 1) dX0_alcohol_1 rfl (Nat.le_of_ble_eq_true rfl) rfl ?_
  show bq_W _ _ _ _ _ 2 [_, _, _, _, _] _ _ _ _ _ _ _
  refine q_iconst (pc := 2) (v := nI 0) dX0_alcohol_2 (by decide) ?_
  refine q_istore (pc := 3) dX0_alcohol_3 (Nat.le_of_ble_eq_true rfl) rfl ?_
  show bq_W _ _ _ _ _ 5 [_, _, _, _, _] _ _ _ _ _ _ _
  exact lp 0 (by decide)
set_option maxHeartbeats 400000 in
set_option maxRecDepth 20000 in
theorem c_X0_sumOfStrengths {S : BqH} {n : Nat} {I : BqI} {L : BqL} {P : BqP} {b g : Nat} (hb : oBlend S n P b) (hg : oA S n g 16) : bq_Sp mX0_sumOfStrengths 1 12 0 0 [.ref b, .ref g] S n I L P (bq_F (some (.long (bq_sos (I (b + 1)) (I g) 16))) S n I L P) := by
  refine q_entry (vs := [some (.ref b), some (.ref g), none, none, none]) (by decide +kernel) (by simp) (Nat.le_of_ble_eq_true rfl) rfl ?_
  have lp : ∀ i, i ≤ 16 → bq_W mX0_sumOfStrengths 1 12 0 0 5 [some (.ref b), some (.ref g), some (.long (bq_sos (I (b + 1)) (I g) i)), none, some (.int (nI i))] [] S n I L P (bq_F (some (.long (bq_sos (I (b + 1)) (I g) 16))) S n I L P) := by
    refine bq_down (A := fun i => bq_W mX0_sumOfStrengths 1 12 0 0 5 [some (.ref b), some (.ref g), some (.long (bq_sos (I (b + 1)) (I g) i)), none, some (.int (nI i))] [] S n I L P (bq_F (some (.long (bq_sos (I (b + 1)) (I g) 16))) S n I L P)) 16 ?_ ?_
    · refine q_iload (pc := 5) dX0_sumOfStrengths_5 rfl ?_
      refine q_bipush (pc := 7) (v := nI 16) dX0_sumOfStrengths_7 (by decide) ?_
      refine q_icmp_ge (pc := 9) 43 dX0_sumOfStrengths_9 (by decide) (fun c_9 => ?_) (fun c_9 => absurd (by decide) c_9)
      refine q_lload_n (pc := 43) dX0_sumOfStrengths_43 rfl rfl ?_
      exact q_lret (st := []) (pc := 44) dX0_sumOfStrengths_44 rfl ⟨rfl, rfl, rfl, rfl, rfl, rfl⟩
    · intro i hi ih
      refine q_iload (pc := 5) dX0_sumOfStrengths_5 rfl ?_
      refine q_bipush (pc := 7) (v := nI 16) dX0_sumOfStrengths_7 (by decide) ?_
      refine q_icmp_ge (pc := 9) 43 dX0_sumOfStrengths_9 (by decide) (fun c_9 => absurd c_9 (nI_ge hi (by decide))) (fun c_9 => ?_)
      refine q_iload (pc := 12) dX0_sumOfStrengths_12 rfl ?_
      refine q_aload_n (pc := 14) dX0_sumOfStrengths_14 rfl rfl ?_
      refine q_alen (pc := 15) dX0_sumOfStrengths_15 (oA_sh hg) (by decide) (oA_lt hg) ?_
      refine q_icmp_ge (pc := 16) 43 dX0_sumOfStrengths_16 (by decide) (fun c_16 => absurd c_16 (nI_ge hi (by decide))) (fun c_16 => ?_)
      refine q_aload_n (pc := 19) dX0_sumOfStrengths_19 rfl rfl ?_
      refine q_getP (pc := 20) dX0_sumOfStrengths_20 fX0_9 (Blend_sh hb) ⟨by decide, rfl⟩ (Blend_lt hb) (Blend_p_parts hb) ?_
      refine q_iload (pc := 23) dX0_sumOfStrengths_23 rfl ?_
      refine q_iald (pc := 25) dX0_sumOfStrengths_25 (oA_sh (Blend_s_parts hb)) (oA_lt (Blend_s_parts hb)) rfl (by omega) ?_
      refine q_if_le (pc := 26) 37 dX0_sumOfStrengths_26 (by decide) (fun c_26 => ?_) (fun c_26 => ?_)
      · refine q_iinc (pc := 37) (v := nI (i + 1)) dX0_sumOfStrengths_37 rfl (bq_inc _) (Nat.le_of_ble_eq_true rfl) rfl ?_
        show bq_W _ _ _ _ _ 40 [_, _, _, _, _] _ _ _ _ _ _ _
        refine q_goto (pc := 40) 5 dX0_sumOfStrengths_40 (by decide) ?_
        rw [show bq_sos (I (b + 1)) (I g) (i + 1) = _ from if_pos c_26] at ih
        exact ih
      · refine q_lload_n (pc := 29) dX0_sumOfStrengths_29 rfl rfl ?_
        refine q_aload_n (pc := 30) dX0_sumOfStrengths_30 rfl rfl ?_
        refine q_iload (pc := 31) dX0_sumOfStrengths_31 rfl ?_
        refine q_iald (pc := 33) dX0_sumOfStrengths_33 (oA_sh hg) (oA_lt hg) rfl (by omega) ?_
        refine q_i2l (pc := 34) dX0_sumOfStrengths_34 ?_
        refine q_ladd (pc := 35) dX0_sumOfStrengths_35 ?_
        refine q_lstore_n (pc := 36) dX0_sumOfStrengths_36 rfl (Nat.le_of_ble_eq_true rfl) rfl ?_
        show bq_W _ _ _ _ _ 37 [_, _, _, _, _] _ _ _ _ _ _ _
        refine q_iinc (pc := 37) (v := nI (i + 1)) dX0_sumOfStrengths_37 rfl (bq_inc _) (Nat.le_of_ble_eq_true rfl) rfl ?_
        show bq_W _ _ _ _ _ 40 [_, _, _, _, _] _ _ _ _ _ _ _
        refine q_goto (pc := 40) 5 dX0_sumOfStrengths_40 (by decide) ?_
        rw [show bq_sos (I (b + 1)) (I g) (i + 1) = _ from if_neg c_26] at ih
        exact ih
  refine q_lconst (pc := 0) dX0_sumOfStrengths_0 rfl ?_
  refine q_lstore_n (pc := 1) dX0_sumOfStrengths_1 rfl (Nat.le_of_ble_eq_true rfl) rfl ?_
  show bq_W _ _ _ _ _ 2 [_, _, _, _, _] _ _ _ _ _ _ _
  refine q_iconst (pc := 2) (v := nI 0) dX0_sumOfStrengths_2 (by decide) ?_
  refine q_istore (pc := 3) dX0_sumOfStrengths_3 (Nat.le_of_ble_eq_true rfl) rfl ?_
  show bq_W _ _ _ _ _ 5 [_, _, _, _, _] _ _ _ _ _ _ _
  exact lp 0 (by decide)
set_option maxHeartbeats 400000 in
set_option maxRecDepth 20000 in
theorem c_X0_strength {S : BqH} {n : Nat} {I : BqI} {L : BqL} {P : BqP} {b g : Nat} (hb : oBlend S n P b) (hg : oA S n g 16) : bq_Sp mX0_strength 2 36 0 0 [.ref b, .ref g] S n I L P (bq_F (some (.int (bq_str (I (b + 1)) (I g)))) S n I L P) := by
  refine q_entry (vs := [some (.ref b), some (.ref g), none]) (by decide +kernel) (by simp) (Nat.le_of_ble_eq_true rfl) rfl ?_
  refine q_aload_n (pc := 0) dX0_strength_0 rfl rfl ?_
  refine q_callVF (pc := 1) dX0_strength_1 kX0_21 (c_X0_total hb) (Blend_sh hb) rfl (Blend_lt hb) ⟨Nat.le_of_ble_eq_true rfl, Nat.le_of_ble_eq_true rfl⟩ rfl rfl (Nat.le_of_ble_eq_true rfl) ?_
  show bq_W _ _ _ _ _ 4 _ [_] _ _ _ _ _ _
  refine q_istore_n (pc := 4) dX0_strength_4 rfl (Nat.le_of_ble_eq_true rfl) rfl ?_
  show bq_W _ _ _ _ _ 5 [_, _, _] _ _ _ _ _ _ _
  refine q_iload_n (pc := 5) dX0_strength_5 rfl rfl ?_
  refine q_if_le (pc := 6) 21 dX0_strength_6 (by decide) (fun c_6 => ?_) (fun c_6 => ?_)
  · refine q_bipush (pc := 21) (v := (-5)) dX0_strength_21 (by decide) ?_
    exact q_iret (st := []) (pc := 23) dX0_strength_23 rfl ⟨by simp [bq_str, c_6], rfl, rfl, rfl, rfl, rfl⟩
  · refine q_aload_n (pc := 9) dX0_strength_9 rfl rfl ?_
    refine q_aload_n (pc := 10) dX0_strength_10 rfl rfl ?_
    refine q_callVF (pc := 11) dX0_strength_11 kX0_25 (c_X0_alcohol hb hg) (Blend_sh hb) rfl (Blend_lt hb) ⟨Nat.le_of_ble_eq_true rfl, Nat.le_of_ble_eq_true rfl⟩ rfl rfl (Nat.le_of_ble_eq_true rfl) ?_
    show bq_W _ _ _ _ _ 14 _ [_] _ _ _ _ _ _
    refine q_iload_n (pc := 14) dX0_strength_14 rfl rfl ?_
    refine q_i2l (pc := 15) dX0_strength_15 ?_
    refine q_ldiv (pc := 16) dX0_strength_16 (bq_i64 c_6) ?_
    refine q_l2i (pc := 17) dX0_strength_17 ?_
    refine q_goto (pc := 18) 23 dX0_strength_18 (by decide) ?_
    exact q_iret (st := []) (pc := 23) dX0_strength_23 rfl ⟨by simp [bq_str, c_6], rfl, rfl, rfl, rfl, rfl⟩
set_option maxHeartbeats 400000 in
set_option maxRecDepth 20000 in
theorem c_X9_copyFrom {S : BqH} {n : Nat} {I : BqI} {L : BqL} {P : BqP} {t o : Nat} (ht : oTank S n P t) (ho : oTank S n P o) : bq_Sp mX9_copyFrom 3 81 0 0 [.ref t, .ref o] S n I L P (bq_F (none) S n (tk_cp I t o) L P) := by
  refine q_entry (vs := [some (.ref t), some (.ref o)]) (by decide +kernel) (by simp) (Nat.le_of_ble_eq_true rfl) rfl ?_
  refine q_aload_n (pc := 0) dX9_copyFrom_0 rfl rfl ?_
  refine q_aload_n (pc := 1) dX9_copyFrom_1 rfl rfl ?_
  refine q_getI (pc := 2) dX9_copyFrom_2 fX9_9 (Tank_sh ho) ⟨by decide, rfl⟩ (Tank_lt ho) ?_
  refine q_putI (pc := 5) dX9_copyFrom_5 (pX9_9 _) (Tank_sh ht) ⟨by decide, rfl⟩ (Tank_lt ht) ?_
  refine q_aload_n (pc := 8) dX9_copyFrom_8 rfl rfl ?_
  refine q_aload_n (pc := 9) dX9_copyFrom_9 rfl rfl ?_
  refine q_getI (pc := 10) dX9_copyFrom_10 fX9_15 (Tank_sh ho) ⟨by decide, rfl⟩ (Tank_lt ho) ?_
  refine q_putI (pc := 13) dX9_copyFrom_13 (pX9_15 _) (Tank_sh ht) ⟨by decide, rfl⟩ (Tank_lt ht) ?_
  refine q_aload_n (pc := 16) dX9_copyFrom_16 rfl rfl ?_
  refine q_aload_n (pc := 17) dX9_copyFrom_17 rfl rfl ?_
  refine q_getI (pc := 18) dX9_copyFrom_18 fX9_18 (Tank_sh ho) ⟨by decide, rfl⟩ (Tank_lt ho) ?_
  refine q_putI (pc := 21) dX9_copyFrom_21 (pX9_18 _) (Tank_sh ht) ⟨by decide, rfl⟩ (Tank_lt ht) ?_
  refine q_aload_n (pc := 24) dX9_copyFrom_24 rfl rfl ?_
  refine q_getP (pc := 25) dX9_copyFrom_25 fX9_24 (Tank_sh ht) ⟨by decide, rfl⟩ (Tank_lt ht) (Tank_p_content ht) ?_
  refine q_aload_n (pc := 28) dX9_copyFrom_28 rfl rfl ?_
  refine q_getP (pc := 29) dX9_copyFrom_29 fX9_24 (Tank_sh ho) ⟨by decide, rfl⟩ (Tank_lt ho) (Tank_p_content ho) ?_
  refine q_callVF (pc := 32) dX9_copyFrom_32 kX9_28 (c_X0_copyFrom (Tank_s_content ht) (Tank_s_content ho)) (Blend_sh (Tank_s_content ht)) rfl (Blend_lt (Tank_s_content ht)) ⟨Nat.le_of_ble_eq_true rfl, Nat.le_of_ble_eq_true rfl⟩ rfl rfl (Nat.le_of_ble_eq_true rfl) ?_
  show bq_W _ _ _ _ _ 35 _ [] _ _ _ _ _ _
  exact q_vret (st := []) (pc := 35) dX9_copyFrom_35 rfl ⟨rfl, rfl, rfl, rfl, rfl, rfl⟩
set_option maxHeartbeats 400000 in
set_option maxRecDepth 20000 in
theorem c_X9_room {S : BqH} {n : Nat} {I : BqI} {L : BqL} {P : BqP} {t : Nat} (ht : oTank S n P t) : bq_Sp mX9_room 2 34 0 0 [.ref t] S n I L P (bq_F (some (.int (I t 0 - bq_sum (I (t + 2)) 16))) S n I L P) := by
  refine q_entry (vs := [some (.ref t)]) (by decide +kernel) (by simp) (Nat.le_of_ble_eq_true rfl) rfl ?_
  refine q_aload_n (pc := 0) dX9_room_0 rfl rfl ?_
  refine q_getI (pc := 1) dX9_room_1 fX9_9 (Tank_sh ht) ⟨by decide, rfl⟩ (Tank_lt ht) ?_
  refine q_aload_n (pc := 4) dX9_room_4 rfl rfl ?_
  refine q_getP (pc := 5) dX9_room_5 fX9_24 (Tank_sh ht) ⟨by decide, rfl⟩ (Tank_lt ht) (Tank_p_content ht) ?_
  refine q_callVF (pc := 8) dX9_room_8 kX9_32 (c_X0_total (Tank_s_content ht)) (Blend_sh (Tank_s_content ht)) rfl (Blend_lt (Tank_s_content ht)) ⟨Nat.le_of_ble_eq_true rfl, Nat.le_of_ble_eq_true rfl⟩ rfl rfl (Nat.le_of_ble_eq_true rfl) ?_
  show bq_W _ _ _ _ _ 11 _ [_, _] _ _ _ _ _ _
  refine q_isub (pc := 11) dX9_room_11 ?_
  exact q_iret (st := []) (pc := 12) dX9_room_12 rfl ⟨rfl, rfl, rfl, rfl, rfl, rfl⟩
set_option maxHeartbeats 400000 in
set_option maxRecDepth 20000 in
theorem c_X9_giveOut {S : BqH} {n : Nat} {I : BqI} {L : BqL} {P : BqP} {t o : Nat} (ht : oTank S n P t) (ho : oBlend S n P o) : bq_Sp mX9_giveOut 2 34 0 0 [.ref t, .ref o] S n I L P (bq_F (none) S n (tk_out I t o) L P) := by
  refine q_entry (vs := [some (.ref t), some (.ref o)]) (by decide +kernel) (by simp) (Nat.le_of_ble_eq_true rfl) rfl ?_
  refine q_aload_n (pc := 0) dX9_giveOut_0 rfl rfl ?_
  refine q_getP (pc := 1) dX9_giveOut_1 fX9_24 (Tank_sh ht) ⟨by decide, rfl⟩ (Tank_lt ht) (Tank_p_content ht) ?_
  refine q_aload_n (pc := 4) dX9_giveOut_4 rfl rfl ?_
  refine q_callVF (pc := 5) dX9_giveOut_5 kX9_36 (c_X0_remove (Tank_s_content ht) ho) (Blend_sh (Tank_s_content ht)) rfl (Blend_lt (Tank_s_content ht)) ⟨Nat.le_of_ble_eq_true rfl, Nat.le_of_ble_eq_true rfl⟩ rfl rfl (Nat.le_of_ble_eq_true rfl) ?_
  show bq_W _ _ _ _ _ 8 _ [] _ _ _ _ _ _
  refine q_aload_n (pc := 8) dX9_giveOut_8 rfl rfl ?_
  refine q_getP (pc := 9) dX9_giveOut_9 fX9_24 (Tank_sh ht) ⟨by decide, rfl⟩ (Tank_lt ht) (Tank_p_content ht) ?_
  refine q_callVF (pc := 12) dX9_giveOut_12 kX9_32 (c_X0_total (Tank_s_content ht)) (Blend_sh (Tank_s_content ht)) rfl (Blend_lt (Tank_s_content ht)) ⟨Nat.le_of_ble_eq_true rfl, Nat.le_of_ble_eq_true rfl⟩ rfl rfl (Nat.le_of_ble_eq_true rfl) ?_
  show bq_W _ _ _ _ _ 15 _ [_] _ _ _ _ _ _
  refine q_if_ne (pc := 15) 23 dX9_giveOut_15 (by decide) (fun c_15 => ?_) (fun c_15 => ?_)
  · exact q_vret (st := []) (pc := 23) dX9_giveOut_23 rfl ⟨rfl, rfl, rfl, by simp [tk_out, c_15], rfl, rfl⟩
  · refine q_aload_n (pc := 18) dX9_giveOut_18 rfl rfl ?_
    refine q_iconst (pc := 19) (v := nI 2) dX9_giveOut_19 (by decide) ?_
    refine q_putI (pc := 20) dX9_giveOut_20 (pX9_15 _) (Tank_sh ht) ⟨by decide, rfl⟩ (Tank_lt ht) ?_
    exact q_vret (st := []) (pc := 23) dX9_giveOut_23 rfl ⟨rfl, rfl, rfl, by simp [tk_out, c_15], rfl, rfl⟩
set_option maxHeartbeats 400000 in
set_option maxRecDepth 20000 in
theorem c_X9_takeIn {S : BqH} {n : Nat} {I : BqI} {L : BqL} {P : BqP} {t o : Nat} (ht : oTank S n P t) (ho : oBlend S n P o) : bq_Sp mX9_takeIn 2 34 0 0 [.ref t, .ref o] S n I L P (bq_F (none) S n (bq_u (bl_add I (t + 2) (o + 1) 16) t 1 (nI 1)) L P) := by
  refine q_entry (vs := [some (.ref t), some (.ref o)]) (by decide +kernel) (by simp) (Nat.le_of_ble_eq_true rfl) rfl ?_
  refine q_aload_n (pc := 0) dX9_takeIn_0 rfl rfl ?_
  refine q_getP (pc := 1) dX9_takeIn_1 fX9_24 (Tank_sh ht) ⟨by decide, rfl⟩ (Tank_lt ht) (Tank_p_content ht) ?_
  refine q_aload_n (pc := 4) dX9_takeIn_4 rfl rfl ?_
  refine q_callVF (pc := 5) dX9_takeIn_5 kX9_39 (c_X0_add (Tank_s_content ht) ho) (Blend_sh (Tank_s_content ht)) rfl (Blend_lt (Tank_s_content ht)) ⟨Nat.le_of_ble_eq_true rfl, Nat.le_of_ble_eq_true rfl⟩ rfl rfl (Nat.le_of_ble_eq_true rfl) ?_
  show bq_W _ _ _ _ _ 8 _ [] _ _ _ _ _ _
  refine q_aload_n (pc := 8) dX9_takeIn_8 rfl rfl ?_
  refine q_iconst (pc := 9) (v := nI 1) dX9_takeIn_9 (by decide) ?_
  refine q_putI (pc := 10) dX9_takeIn_10 (pX9_15 _) (Tank_sh ht) ⟨by decide, rfl⟩ (Tank_lt ht) ?_
  exact q_vret (st := []) (pc := 13) dX9_takeIn_13 rfl ⟨rfl, rfl, rfl, rfl, rfl, rfl⟩
set_option maxHeartbeats 400000 in
set_option maxRecDepth 20000 in
theorem c_X4_copyFrom {S : BqH} {n : Nat} {I : BqI} {L : BqL} {P : BqP} {d o : Nat} (hd : oOrder S n P d) (ho : oOrder S n P o) : bq_Sp mX4_copyFrom 1 12 0 0 [.ref d, .ref o] S n I L P (bq_F (none) S n (or_cp I d o) (bq_u L d 8 (L o 8)) P) := by
  refine q_entry (vs := [some (.ref d), some (.ref o)]) (by decide +kernel) (by simp) (Nat.le_of_ble_eq_true rfl) rfl ?_
  refine q_aload_n (pc := 0) dX4_copyFrom_0 rfl rfl ?_
  refine q_aload_n (pc := 1) dX4_copyFrom_1 rfl rfl ?_
  refine q_getI (pc := 2) dX4_copyFrom_2 fX4_9 (Order_sh ho) ⟨by decide, rfl⟩ (Order_lt ho) ?_
  refine q_putI (pc := 5) dX4_copyFrom_5 (pX4_9 _) (Order_sh hd) ⟨by decide, rfl⟩ (Order_lt hd) ?_
  refine q_aload_n (pc := 8) dX4_copyFrom_8 rfl rfl ?_
  refine q_aload_n (pc := 9) dX4_copyFrom_9 rfl rfl ?_
  refine q_getI (pc := 10) dX4_copyFrom_10 fX4_15 (Order_sh ho) ⟨by decide, rfl⟩ (Order_lt ho) ?_
  refine q_putI (pc := 13) dX4_copyFrom_13 (pX4_15 _) (Order_sh hd) ⟨by decide, rfl⟩ (Order_lt hd) ?_
  refine q_aload_n (pc := 16) dX4_copyFrom_16 rfl rfl ?_
  refine q_aload_n (pc := 17) dX4_copyFrom_17 rfl rfl ?_
  refine q_getI (pc := 18) dX4_copyFrom_18 fX4_18 (Order_sh ho) ⟨by decide, rfl⟩ (Order_lt ho) ?_
  refine q_putI (pc := 21) dX4_copyFrom_21 (pX4_18 _) (Order_sh hd) ⟨by decide, rfl⟩ (Order_lt hd) ?_
  refine q_aload_n (pc := 24) dX4_copyFrom_24 rfl rfl ?_
  refine q_aload_n (pc := 25) dX4_copyFrom_25 rfl rfl ?_
  refine q_getI (pc := 26) dX4_copyFrom_26 fX4_21 (Order_sh ho) ⟨by decide, rfl⟩ (Order_lt ho) ?_
  refine q_putI (pc := 29) dX4_copyFrom_29 (pX4_21 _) (Order_sh hd) ⟨by decide, rfl⟩ (Order_lt hd) ?_
  refine q_aload_n (pc := 32) dX4_copyFrom_32 rfl rfl ?_
  refine q_aload_n (pc := 33) dX4_copyFrom_33 rfl rfl ?_
  refine q_getI (pc := 34) dX4_copyFrom_34 fX4_24 (Order_sh ho) ⟨by decide, rfl⟩ (Order_lt ho) ?_
  refine q_putI (pc := 37) dX4_copyFrom_37 (pX4_24 _) (Order_sh hd) ⟨by decide, rfl⟩ (Order_lt hd) ?_
  refine q_aload_n (pc := 40) dX4_copyFrom_40 rfl rfl ?_
  refine q_aload_n (pc := 41) dX4_copyFrom_41 rfl rfl ?_
  refine q_getI (pc := 42) dX4_copyFrom_42 fX4_27 (Order_sh ho) ⟨by decide, rfl⟩ (Order_lt ho) ?_
  refine q_putI (pc := 45) dX4_copyFrom_45 (pX4_27 _) (Order_sh hd) ⟨by decide, rfl⟩ (Order_lt hd) ?_
  refine q_aload_n (pc := 48) dX4_copyFrom_48 rfl rfl ?_
  refine q_aload_n (pc := 49) dX4_copyFrom_49 rfl rfl ?_
  refine q_getI (pc := 50) dX4_copyFrom_50 fX4_30 (Order_sh ho) ⟨by decide, rfl⟩ (Order_lt ho) ?_
  refine q_putI (pc := 53) dX4_copyFrom_53 (pX4_30 _) (Order_sh hd) ⟨by decide, rfl⟩ (Order_lt hd) ?_
  refine q_aload_n (pc := 56) dX4_copyFrom_56 rfl rfl ?_
  refine q_aload_n (pc := 57) dX4_copyFrom_57 rfl rfl ?_
  refine q_getI (pc := 58) dX4_copyFrom_58 fX4_33 (Order_sh ho) ⟨by decide, rfl⟩ (Order_lt ho) ?_
  refine q_putI (pc := 61) dX4_copyFrom_61 (pX4_33 _) (Order_sh hd) ⟨by decide, rfl⟩ (Order_lt hd) ?_
  refine q_aload_n (pc := 64) dX4_copyFrom_64 rfl rfl ?_
  refine q_aload_n (pc := 65) dX4_copyFrom_65 rfl rfl ?_
  refine q_getL (pc := 66) dX4_copyFrom_66 fX4_36 (Order_sh ho) ⟨by decide, rfl⟩ (Order_lt ho) ?_
  refine q_putL (pc := 69) dX4_copyFrom_69 (pX4_36 _) (Order_sh hd) ⟨by decide, rfl⟩ (Order_lt hd) ?_
  exact q_vret (st := []) (pc := 72) dX4_copyFrom_72 rfl ⟨rfl, rfl, rfl, rfl, rfl, rfl⟩
set_option maxHeartbeats 400000 in
set_option maxRecDepth 20000 in
theorem c_X4_allows {S : BqH} {n : Nat} {I : BqI} {L : BqL} {P : BqP} {d : Nat} {x : Int32} (hd : oOrder S n P d) : bq_Sp mX4_allows 1 12 0 0 [.ref d, .int x] S n I L P (bq_F (some (.int (bq_b (¬ x < I d 2 ∧ ¬ I d 3 < x)))) S n I L P) := by
  refine q_entry (vs := [some (.ref d), some (.int x)]) (by decide +kernel) (by simp) (Nat.le_of_ble_eq_true rfl) rfl ?_
  refine q_iload_n (pc := 0) dX4_allows_0 rfl rfl ?_
  refine q_aload_n (pc := 1) dX4_allows_1 rfl rfl ?_
  refine q_getI (pc := 2) dX4_allows_2 fX4_18 (Order_sh hd) ⟨by decide, rfl⟩ (Order_lt hd) ?_
  refine q_icmp_lt (pc := 5) 20 dX4_allows_5 (by decide) (fun c_5 => ?_) (fun c_5 => ?_)
  · refine q_iconst (pc := 20) (v := nI 0) dX4_allows_20 (by decide) ?_
    exact q_zret (st := []) (pc := 21) dX4_allows_21 rfl (by decide) ⟨by simp [bq_b, *], rfl, rfl, rfl, rfl, rfl⟩
  · refine q_iload_n (pc := 8) dX4_allows_8 rfl rfl ?_
    refine q_aload_n (pc := 9) dX4_allows_9 rfl rfl ?_
    refine q_getI (pc := 10) dX4_allows_10 fX4_21 (Order_sh hd) ⟨by decide, rfl⟩ (Order_lt hd) ?_
    refine q_icmp_gt (pc := 13) 20 dX4_allows_13 (by decide) (fun c_13 => ?_) (fun c_13 => ?_)
    · refine q_iconst (pc := 20) (v := nI 0) dX4_allows_20 (by decide) ?_
      exact q_zret (st := []) (pc := 21) dX4_allows_21 rfl (by decide) ⟨by simp [bq_b, *], rfl, rfl, rfl, rfl, rfl⟩
    · refine q_iconst (pc := 16) (v := nI 1) dX4_allows_16 (by decide) ?_
      refine q_goto (pc := 17) 21 dX4_allows_17 (by decide) ?_
      exact q_zret (st := []) (pc := 21) dX4_allows_21 rfl (by decide) ⟨by simp [bq_b, *], rfl, rfl, rfl, rfl, rfl⟩
set_option maxHeartbeats 400000 in
set_option maxRecDepth 20000 in
theorem c_X4_aheadOf {S : BqH} {n : Nat} {I : BqI} {L : BqL} {P : BqP} {d o : Nat} (hd : oOrder S n P d) (ho : oOrder S n P o) : bq_Sp mX4_aheadOf 1 12 0 0 [.ref d, .ref o] S n I L P (bq_F (some (.int (bq_b (I d 0 < I o 0 ∨ (I d 0 = I o 0 ∧ ¬ I d 1 ≤ I o 1))))) S n I L P) := by
  refine q_entry (vs := [some (.ref d), some (.ref o)]) (by decide +kernel) (by simp) (Nat.le_of_ble_eq_true rfl) rfl ?_
  refine q_aload_n (pc := 0) dX4_aheadOf_0 rfl rfl ?_
  refine q_getI (pc := 1) dX4_aheadOf_1 fX4_9 (Order_sh hd) ⟨by decide, rfl⟩ (Order_lt hd) ?_
  refine q_aload_n (pc := 4) dX4_aheadOf_4 rfl rfl ?_
  refine q_getI (pc := 5) dX4_aheadOf_5 fX4_9 (Order_sh ho) ⟨by decide, rfl⟩ (Order_lt ho) ?_
  refine q_icmp_lt (pc := 8) 33 dX4_aheadOf_8 (by decide) (fun c_8 => ?_) (fun c_8 => ?_)
  · refine q_iconst (pc := 33) (v := nI 1) dX4_aheadOf_33 (by decide) ?_
    refine q_goto (pc := 34) 38 dX4_aheadOf_34 (by decide) ?_
    exact q_zret (st := []) (pc := 38) dX4_aheadOf_38 rfl (by decide) ⟨by simp [bq_b, *], rfl, rfl, rfl, rfl, rfl⟩
  · refine q_aload_n (pc := 11) dX4_aheadOf_11 rfl rfl ?_
    refine q_getI (pc := 12) dX4_aheadOf_12 fX4_9 (Order_sh hd) ⟨by decide, rfl⟩ (Order_lt hd) ?_
    refine q_aload_n (pc := 15) dX4_aheadOf_15 rfl rfl ?_
    refine q_getI (pc := 16) dX4_aheadOf_16 fX4_9 (Order_sh ho) ⟨by decide, rfl⟩ (Order_lt ho) ?_
    refine q_icmp_ne (pc := 19) 37 dX4_aheadOf_19 (by decide) (fun c_19 => ?_) (fun c_19 => ?_)
    · refine q_iconst (pc := 37) (v := nI 0) dX4_aheadOf_37 (by decide) ?_
      exact q_zret (st := []) (pc := 38) dX4_aheadOf_38 rfl (by decide) ⟨by simp [bq_b, *], rfl, rfl, rfl, rfl, rfl⟩
    · refine q_aload_n (pc := 22) dX4_aheadOf_22 rfl rfl ?_
      refine q_getI (pc := 23) dX4_aheadOf_23 fX4_15 (Order_sh hd) ⟨by decide, rfl⟩ (Order_lt hd) ?_
      refine q_aload_n (pc := 26) dX4_aheadOf_26 rfl rfl ?_
      refine q_getI (pc := 27) dX4_aheadOf_27 fX4_15 (Order_sh ho) ⟨by decide, rfl⟩ (Order_lt ho) ?_
      refine q_icmp_le (pc := 30) 37 dX4_aheadOf_30 (by decide) (fun c_30 => ?_) (fun c_30 => ?_)
      · refine q_iconst (pc := 37) (v := nI 0) dX4_aheadOf_37 (by decide) ?_
        exact q_zret (st := []) (pc := 38) dX4_aheadOf_38 rfl (by decide) ⟨by simp [bq_b, *], rfl, rfl, rfl, rfl, rfl⟩
      · refine q_iconst (pc := 33) (v := nI 1) dX4_aheadOf_33 (by decide) ?_
        refine q_goto (pc := 34) 38 dX4_aheadOf_34 (by decide) ?_
        exact q_zret (st := []) (pc := 38) dX4_aheadOf_38 rfl (by decide) ⟨by simp [bq_b, *], rfl, rfl, rfl, rfl, rfl⟩
set_option maxHeartbeats 400000 in
set_option maxRecDepth 20000 in
theorem c_X7_copyFrom {S : BqH} {n : Nat} {I : BqI} {L : BqL} {P : BqP} {d o : Nat} (hd : oRate S n P d) (ho : oRate S n P o) : bq_Sp mX7_copyFrom 1 12 0 0 [.ref d, .ref o] S n I L P (bq_F (none) S n (ra_cp I d o) L P) := by
  refine q_entry (vs := [some (.ref d), some (.ref o)]) (by decide +kernel) (by simp) (Nat.le_of_ble_eq_true rfl) rfl ?_
  refine q_aload_n (pc := 0) dX7_copyFrom_0 rfl rfl ?_
  refine q_aload_n (pc := 1) dX7_copyFrom_1 rfl rfl ?_
  refine q_getI (pc := 2) dX7_copyFrom_2 fX7_7 (Rate_sh ho) ⟨by decide, rfl⟩ (Rate_lt ho) ?_
  refine q_putI (pc := 5) dX7_copyFrom_5 (pX7_7 _) (Rate_sh hd) ⟨by decide, rfl⟩ (Rate_lt hd) ?_
  refine q_aload_n (pc := 8) dX7_copyFrom_8 rfl rfl ?_
  refine q_aload_n (pc := 9) dX7_copyFrom_9 rfl rfl ?_
  refine q_getI (pc := 10) dX7_copyFrom_10 fX7_13 (Rate_sh ho) ⟨by decide, rfl⟩ (Rate_lt ho) ?_
  refine q_putI (pc := 13) dX7_copyFrom_13 (pX7_13 _) (Rate_sh hd) ⟨by decide, rfl⟩ (Rate_lt hd) ?_
  refine q_aload_n (pc := 16) dX7_copyFrom_16 rfl rfl ?_
  refine q_aload_n (pc := 17) dX7_copyFrom_17 rfl rfl ?_
  refine q_getI (pc := 18) dX7_copyFrom_18 fX7_16 (Rate_sh ho) ⟨by decide, rfl⟩ (Rate_lt ho) ?_
  refine q_putI (pc := 21) dX7_copyFrom_21 (pX7_16 _) (Rate_sh hd) ⟨by decide, rfl⟩ (Rate_lt hd) ?_
  exact q_vret (st := []) (pc := 24) dX7_copyFrom_24 rfl ⟨rfl, rfl, rfl, rfl, rfl, rfl⟩
set_option maxHeartbeats 400000 in
set_option maxRecDepth 20000 in
theorem c_X11_outside {S : BqH} {n : Nat} {I : BqI} {L : BqL} {P : BqP} {x y z : Int32} : bq_Sp mX11_outside 1 12 0 0 [.int x, .int y, .int z] S n I L P (bq_F (some (.int (bq_b (x < y ∨ ¬ x ≤ z)))) S n I L P) := by
  refine q_entry (vs := [some (.int x), some (.int y), some (.int z)]) (by decide +kernel) (by simp) (Nat.le_of_ble_eq_true rfl) rfl ?_
  refine q_iload_n (pc := 0) dX11_outside_0 rfl rfl ?_
  refine q_iload_n (pc := 1) dX11_outside_1 rfl rfl ?_
  refine q_icmp_lt (pc := 2) 10 dX11_outside_2 (by decide) (fun c_2 => ?_) (fun c_2 => ?_)
  · refine q_iconst (pc := 10) (v := nI 1) dX11_outside_10 (by decide) ?_
    refine q_goto (pc := 11) 15 dX11_outside_11 (by decide) ?_
    exact q_zret (st := []) (pc := 15) dX11_outside_15 rfl (by decide) ⟨by simp [bq_b, *], rfl, rfl, rfl, rfl, rfl⟩
  · refine q_iload_n (pc := 5) dX11_outside_5 rfl rfl ?_
    refine q_iload_n (pc := 6) dX11_outside_6 rfl rfl ?_
    refine q_icmp_le (pc := 7) 14 dX11_outside_7 (by decide) (fun c_7 => ?_) (fun c_7 => ?_)
    · refine q_iconst (pc := 14) (v := nI 0) dX11_outside_14 (by decide) ?_
      exact q_zret (st := []) (pc := 15) dX11_outside_15 rfl (by decide) ⟨by simp [bq_b, *], rfl, rfl, rfl, rfl, rfl⟩
    · refine q_iconst (pc := 10) (v := nI 1) dX11_outside_10 (by decide) ?_
      refine q_goto (pc := 11) 15 dX11_outside_11 (by decide) ?_
      exact q_zret (st := []) (pc := 15) dX11_outside_15 rfl (by decide) ⟨by simp [bq_b, *], rfl, rfl, rfl, rfl, rfl⟩
set_option maxHeartbeats 400000 in
set_option maxRecDepth 20000 in
theorem c_X2_copyFrom {S : BqH} {n : Nat} {I : BqI} {L : BqL} {P : BqP} {d o : Nat} (hd : oJournal S n P d) (ho : oJournal S n P o) : bq_Sp mX2_copyFrom 2 60 0 0 [.ref d, .ref o] S n I L P (bq_F (none) S n (bq_cp (bq_u I d 0 (I o 0)) (o + 1) (d + 1) 320) L P) := by
  refine q_entry (vs := [some (.ref d), some (.ref o)]) (by decide +kernel) (by simp) (Nat.le_of_ble_eq_true rfl) rfl ?_
  refine q_aload_n (pc := 0) dX2_copyFrom_0 rfl rfl ?_
  refine q_aload_n (pc := 1) dX2_copyFrom_1 rfl rfl ?_
  refine q_getI (pc := 2) dX2_copyFrom_2 fX2_9 (Journal_sh ho) ⟨by decide, rfl⟩ (Journal_lt ho) ?_
  refine q_putI (pc := 5) dX2_copyFrom_5 (pX2_9 _) (Journal_sh hd) ⟨by decide, rfl⟩ (Journal_lt hd) ?_
  refine q_aload_n (pc := 8) dX2_copyFrom_8 rfl rfl ?_
  refine q_getP (pc := 9) dX2_copyFrom_9 fX2_15 (Journal_sh ho) ⟨by decide, rfl⟩ (Journal_lt ho) (Journal_p_parts ho) ?_
  refine q_iconst (pc := 12) (v := nI 0) dX2_copyFrom_12 (by decide) ?_
  refine q_aload_n (pc := 13) dX2_copyFrom_13 rfl rfl ?_
  refine q_getP (pc := 14) dX2_copyFrom_14 fX2_15 (Journal_sh hd) ⟨by decide, rfl⟩ (Journal_lt hd) (Journal_p_parts hd) ?_
  refine q_iconst (pc := 17) (v := nI 0) dX2_copyFrom_17 (by decide) ?_
  refine q_sipush (pc := 18) (v := nI 320) dX2_copyFrom_18 (by decide) ?_
  refine q_copy (pc := 21) dX2_copyFrom_21 kX2_19 (oA_sh (Journal_s_parts ho)) (oA_sh (Journal_s_parts hd)) (oA_lt (Journal_s_parts ho)) (oA_lt (Journal_s_parts hd)) (by decide) (by decide) ⟨Nat.le_of_ble_eq_true rfl, Nat.le_of_ble_eq_true rfl⟩ ?_
  exact q_vret (st := []) (pc := 24) dX2_copyFrom_24 rfl ⟨rfl, rfl, rfl, rfl, rfl, rfl⟩
