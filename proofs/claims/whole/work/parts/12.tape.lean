theorem q_topI {M : BqM} {fr lo kc ks pc : Nat} {vs : List (Option Value)} {st : List Value} {S : BqH} {n : Nat} {I : BqI} {L : BqL} {P : BqP} {post : BqQ} {x : Int32} (k : ∀ y : Int32, y = x → bq_W M fr lo kc ks pc vs (.int y :: st) S n I L P post) : bq_W M fr lo kc ks pc vs (.int x :: st) S n I L P post := k x rfl
theorem bq_out {y : Int32} (N : Nat) (hN : N < 2 ^ 30) (h : ∀ j, j < N + 1 → ¬ y = nI j) : y.toInt < ((0 : Nat) : Int) ∨ ((N : Nat) : Int) < y.toInt := by
  rcases pk_ix y (n := N + 1) (by omega) with g | g | ⟨j, hj, g⟩
  · left
    have := Int32.lt_iff_toInt_lt.mp g
    simpa using this
  · right
    have := Int32.le_iff_toInt_le.mp g
    rw [nI_toInt (by omega)] at this
    omega
  · exact absurd g (h j hj)
def tn (I : BqI) (t : Nat) : Int32 := if ¬ I t 3 = 0 then (-5) else if I t 2 < 0 then (-5) else if I t 0 ≤ I t 2 then (-5) else if nI 60 ≤ I t 2 then (-5) else I (t + 1) (I t 2).toNatClampNeg
def tdg (I : BqI) (t : Nat) : Bool := decide (¬ tn I t < nI 48) && decide (¬ nI 57 < tn I t)
theorem tdg_t {I : BqI} {t : Nat} (h1 : ¬ tn I t < nI 48) (h2 : ¬ nI 57 < tn I t) : tdg I t = true := by unfold tdg; simp [h1, h2]
theorem tdg_1 {I : BqI} {t : Nat} (h1 : tn I t < nI 48) : ¬ tdg I t = true := by unfold tdg; simp [h1]
theorem tdg_2 {I : BqI} {t : Nat} (h2 : nI 57 < tn I t) : ¬ tdg I t = true := by unfold tdg; simp [h2]
theorem bq_bt {p : Prop} [Decidable p] (h : p) : nI 1 = bq_b p := by unfold bq_b; rw [if_pos h]
theorem bq_bf {p : Prop} [Decidable p] (h : ¬ p) : nI 0 = bq_b p := by unfold bq_b; rw [if_neg h]
def ta_I (I : BqI) (t : Nat) : BqI := bq_u I t 2 (I t 2 + nI 1)
def rs_I (I : BqI) (t : Nat) (c : Int32) : BqI := if tn I t = c then ta_I I t else bq_u I t 3 (nI 1)
def rd_r (I : BqI) (t : Nat) : Int32 := if tdg I t = true then tn I t - nI 48 else nI 0
def rd_I (I : BqI) (t : Nat) : BqI := if tdg I t = true then ta_I I t else bq_u I t 3 (nI 1)
def rn_l (t : Nat) : Nat → Int32 → BqI → Int32 × BqI
  | 0, v, I => (v, I)
  | k + 1, v, I => if tdg I t = true then rn_l t k (v * nI 10 + rd_r I t) (rd_I I t) else (v, I)
def rn_r (I : BqI) (t : Nat) : Int32 := (rn_l t 3 (rd_r I t) (rd_I I t)).1
def rn_I (I : BqI) (t : Nat) : BqI := (rn_l t 3 (rd_r I t) (rd_I I t)).2
theorem rn_t {t k : Nat} {v : Int32} {I : BqI} (h : tdg I t = true) : rn_l t (k + 1) v I = rn_l t k (v * nI 10 + rd_r I t) (rd_I I t) := if_pos h
theorem rn_f {t k : Nat} {v : Int32} {I : BqI} (h : ¬ tdg I t = true) : rn_l t (k + 1) v I = (v, I) := if_neg h
/-- a digit, a number read into field k of the command c -/
def rcD (I : BqI) (t c k : Nat) : BqI := bq_u (rd_I I t) c k (rd_r I t)
def rcN (I : BqI) (t c k : Nat) : BqI := bq_u (rn_I I t) c k (rn_r I t)
def rc0 (I : BqI) (t c : Nat) : BqI := ta_I (bq_u I c 0 (tn I t)) t
def rc_I (I : BqI) (t c : Nat) : BqI := if rc0 I t c c 0 = nI 99 then rcD (rc0 I t c) t c 1 else if rc0 I t c c 0 = nI 100 then rcN (rc0 I t c) t c 3 else if rc0 I t c c 0 = nI 102 then rcN (rs_I (rcD (rc0 I t c) t c 1) t (nI 35)) t c 3 else if rc0 I t c c 0 = nI 108 then rcD (rs_I (rcN (rs_I (rcD (rc0 I t c) t c 1) t (nI 58)) t c 3) t (nI 47)) t c 2 else if rc0 I t c c 0 = nI 116 then rcN (rs_I (rcD (rs_I (rcD (rc0 I t c) t c 1) t (nI 62)) t c 2) t (nI 58)) t c 3 else bq_u (bq_u (rc0 I t c) t 2 (rc0 I t c t 2 - nI 1)) t 3 (nI 1)
/-- the commands from the i-th on, at most k of them: 1 if the text is right -/
def rcs_1 (I : BqI) (t i : Nat) : BqI := rc_I I t (t + 3 + i)
def rcs_2 (I : BqI) (t i : Nat) : BqI := bq_u (rcs_1 I t i) t 4 (rcs_1 I t i t 4 + nI 1)
def rcs (t : Nat) : Nat → Nat → BqI → Int32 × BqI
  | 0, _, I => (nI 0, I)
  | k + 1, i, I => if ¬ rcs_1 I t i t 3 = 0 then (nI 0, rcs_1 I t i) else if ¬ rcs_2 I t i t 2 < rcs_2 I t i t 0 then (nI 1, rcs_2 I t i) else rcs t k (i + 1) (rs_I (rcs_2 I t i) t (nI 59))
def rcs_0 (I : BqI) (t : Nat) : BqI := bq_u (bq_u (bq_u I t 2 (nI 0)) t 3 (nI 0)) t 4 (nI 0)
def ap_I (I : BqI) (t : Nat) (x : Int32) (q : Nat) : BqI := bq_u (bq_u I (t + 1) q x) t 0 (bq_u I (t + 1) q x t 0 + nI 1)
theorem rcs_a {t k i : Nat} {I : BqI} (h : ¬ rcs_1 I t i t 3 = 0) : rcs t (k + 1) i I = (nI 0, rcs_1 I t i) := if_pos h
theorem rcs_b {t k i : Nat} {I : BqI} (h : rcs_1 I t i t 3 = 0) (h2 : ¬ rcs_2 I t i t 2 < rcs_2 I t i t 0) : rcs t (k + 1) i I = (nI 1, rcs_2 I t i) := (if_neg (not_not_intro h)).trans (if_pos h2)
theorem rcs_c {t k i : Nat} {I : BqI} (h : rcs_1 I t i t 3 = 0) (h2 : rcs_2 I t i t 2 < rcs_2 I t i t 0) : rcs t (k + 1) i I = rcs t k (i + 1) (rs_I (rcs_2 I t i) t (nI 59)) := (if_neg (not_not_intro h)).trans (if_neg (not_not_intro h2))
set_option maxHeartbeats 400000 in
set_option maxRecDepth 20000 in
theorem c_X10_append {S : BqH} {n : Nat} {I : BqI} {L : BqL} {P : BqP} {t q : Nat} {x : Int32} (ht : oTape S n P t) (hq : I t 0 = nI q) (hl : q < 60) : bq_Sp mX10_append 1 12 0 0 [.ref t, .int x] S n I L P (bq_F (none) S n (ap_I I t x q) L P) := by
  refine q_entry (vs := [some (.ref t), some (.int x)]) (by decide +kernel) (by simp) (Nat.le_of_ble_eq_true rfl) rfl ?_
  refine q_aload_n (pc := 0) dX10_append_0 rfl rfl ?_
  refine q_getI (pc := 1) dX10_append_1 fX10_9 (Tape_sh ht) ⟨by decide, rfl⟩ (Tape_lt ht) ?_
  rw [hq]
  refine q_bipush (pc := 4) (v := nI 60) dX10_append_4 (by decide) ?_
  refine q_icmp_ge (pc := 6) 29 dX10_append_6 (by decide) (fun c_6 => absurd c_6 (nI_ge hl (by decide))) (fun c_6 => ?_)
  refine q_aload_n (pc := 9) dX10_append_9 rfl rfl ?_
  refine q_getP (pc := 10) dX10_append_10 fX10_15 (Tape_sh ht) ⟨by decide, rfl⟩ (Tape_lt ht) (Tape_p_bytes ht) ?_
  refine q_aload_n (pc := 13) dX10_append_13 rfl rfl ?_
  refine q_getI (pc := 14) dX10_append_14 fX10_9 (Tape_sh ht) ⟨by decide, rfl⟩ (Tape_lt ht) ?_
  rw [hq]
  refine q_iload_n (pc := 17) dX10_append_17 rfl rfl ?_
  refine q_iast (pc := 18) dX10_append_18 (oA_sh (Tape_s_bytes ht)) (oA_lt (Tape_s_bytes ht)) rfl hl ?_
  refine q_aload_n (pc := 19) dX10_append_19 rfl rfl ?_
  refine q_dup (pc := 20) dX10_append_20 rfl ?_
  refine q_getI (pc := 21) dX10_append_21 fX10_9 (Tape_sh ht) ⟨by decide, rfl⟩ (Tape_lt ht) ?_
  refine q_iconst (pc := 24) (v := nI 1) dX10_append_24 (by decide) ?_
  refine q_iadd (pc := 25) dX10_append_25 ?_
  refine q_putI (pc := 26) dX10_append_26 (pX10_9 _) (Tape_sh ht) ⟨by decide, rfl⟩ (Tape_lt ht) ?_
  exact q_vret (st := []) (pc := 29) dX10_append_29 rfl ⟨rfl, rfl, rfl, rfl, rfl, rfl⟩
set_option maxHeartbeats 400000 in
set_option maxRecDepth 20000 in
theorem c_X10_next {S : BqH} {n : Nat} {I : BqI} {L : BqL} {P : BqP} {t : Nat} (ht : oTape S n P t) : bq_Sp mX10_next 1 12 0 0 [.ref t] S n I L P (bq_F (some (.int (tn I t))) S n I L P) := by
  refine q_entry (vs := [some (.ref t)]) (by decide +kernel) (by simp) (Nat.le_of_ble_eq_true rfl) rfl ?_
  refine q_aload_n (pc := 0) dX10_next_0 rfl rfl ?_
  refine q_getI (pc := 1) dX10_next_1 fX10_22 (Tape_sh ht) ⟨by decide, rfl⟩ (Tape_lt ht) ?_
  refine q_if_ne (pc := 4) 34 dX10_next_4 (by decide) (fun c_4 => ?_) (fun c_4 => ?_)
  · refine q_bipush (pc := 34) (v := (-5)) dX10_next_34 (by decide) ?_
    refine q_goto (pc := 36) 48 dX10_next_36 (by decide) ?_
    exact q_iret (st := []) (pc := 48) dX10_next_48 rfl ⟨by first | (unfold tn; rw [if_pos c_4]; done) | (unfold tn; rw [if_neg (not_not_intro c_4), if_pos c_11]; done) | (unfold tn; rw [if_neg (not_not_intro c_4), if_neg c_11, if_pos c_22]; done) | (unfold tn; rw [if_neg (not_not_intro c_4), if_neg c_11, if_neg c_22, if_pos (Int32.not_lt.mp c_31)]; done) | (unfold tn; rw [if_neg (not_not_intro c_4), if_neg c_11, if_neg c_22, if_neg (Int32.not_le.mpr c_31), hz, nI_clamp (by omega)]; done), rfl, rfl, rfl, rfl, rfl⟩
  · refine q_aload_n (pc := 7) dX10_next_7 rfl rfl ?_
    refine q_getI (pc := 8) dX10_next_8 fX10_19 (Tape_sh ht) ⟨by decide, rfl⟩ (Tape_lt ht) ?_
    refine q_if_lt (pc := 11) 34 dX10_next_11 (by decide) (fun c_11 => ?_) (fun c_11 => ?_)
    · refine q_bipush (pc := 34) (v := (-5)) dX10_next_34 (by decide) ?_
      refine q_goto (pc := 36) 48 dX10_next_36 (by decide) ?_
      exact q_iret (st := []) (pc := 48) dX10_next_48 rfl ⟨by first | (unfold tn; rw [if_pos c_4]; done) | (unfold tn; rw [if_neg (not_not_intro c_4), if_pos c_11]; done) | (unfold tn; rw [if_neg (not_not_intro c_4), if_neg c_11, if_pos c_22]; done) | (unfold tn; rw [if_neg (not_not_intro c_4), if_neg c_11, if_neg c_22, if_pos (Int32.not_lt.mp c_31)]; done) | (unfold tn; rw [if_neg (not_not_intro c_4), if_neg c_11, if_neg c_22, if_neg (Int32.not_le.mpr c_31), hz, nI_clamp (by omega)]; done), rfl, rfl, rfl, rfl, rfl⟩
    · refine q_aload_n (pc := 14) dX10_next_14 rfl rfl ?_
      refine q_getI (pc := 15) dX10_next_15 fX10_19 (Tape_sh ht) ⟨by decide, rfl⟩ (Tape_lt ht) ?_
      refine q_aload_n (pc := 18) dX10_next_18 rfl rfl ?_
      refine q_getI (pc := 19) dX10_next_19 fX10_9 (Tape_sh ht) ⟨by decide, rfl⟩ (Tape_lt ht) ?_
      refine q_icmp_ge (pc := 22) 34 dX10_next_22 (by decide) (fun c_22 => ?_) (fun c_22 => ?_)
      · refine q_bipush (pc := 34) (v := (-5)) dX10_next_34 (by decide) ?_
        refine q_goto (pc := 36) 48 dX10_next_36 (by decide) ?_
        exact q_iret (st := []) (pc := 48) dX10_next_48 rfl ⟨by first | (unfold tn; rw [if_pos c_4]; done) | (unfold tn; rw [if_neg (not_not_intro c_4), if_pos c_11]; done) | (unfold tn; rw [if_neg (not_not_intro c_4), if_neg c_11, if_pos c_22]; done) | (unfold tn; rw [if_neg (not_not_intro c_4), if_neg c_11, if_neg c_22, if_pos (Int32.not_lt.mp c_31)]; done) | (unfold tn; rw [if_neg (not_not_intro c_4), if_neg c_11, if_neg c_22, if_neg (Int32.not_le.mpr c_31), hz, nI_clamp (by omega)]; done), rfl, rfl, rfl, rfl, rfl⟩
      · refine q_aload_n (pc := 25) dX10_next_25 rfl rfl ?_
        refine q_getI (pc := 26) dX10_next_26 fX10_19 (Tape_sh ht) ⟨by decide, rfl⟩ (Tape_lt ht) ?_
        refine q_bipush (pc := 29) (v := nI 60) dX10_next_29 (by decide) ?_
        refine q_icmp_lt (pc := 31) 39 dX10_next_31 (by decide) (fun c_31 => ?_) (fun c_31 => ?_)
        · obtain ⟨q, hq, hz⟩ := bq_rng c_11 (fun z => absurd c_31 (Int32.not_lt.mpr z)) (by decide)
          refine q_aload_n (pc := 39) dX10_next_39 rfl rfl ?_
          refine q_getP (pc := 40) dX10_next_40 fX10_15 (Tape_sh ht) ⟨by decide, rfl⟩ (Tape_lt ht) (Tape_p_bytes ht) ?_
          refine q_aload_n (pc := 43) dX10_next_43 rfl rfl ?_
          refine q_getI (pc := 44) dX10_next_44 fX10_19 (Tape_sh ht) ⟨by decide, rfl⟩ (Tape_lt ht) ?_
          refine q_iald (pc := 47) dX10_next_47 (oA_sh (Tape_s_bytes ht)) (oA_lt (Tape_s_bytes ht)) hz hq ?_
          exact q_iret (st := []) (pc := 48) dX10_next_48 rfl ⟨by first | (unfold tn; rw [if_pos c_4]; done) | (unfold tn; rw [if_neg (not_not_intro c_4), if_pos c_11]; done) | (unfold tn; rw [if_neg (not_not_intro c_4), if_neg c_11, if_pos c_22]; done) | (unfold tn; rw [if_neg (not_not_intro c_4), if_neg c_11, if_neg c_22, if_pos (Int32.not_lt.mp c_31)]; done) | (unfold tn; rw [if_neg (not_not_intro c_4), if_neg c_11, if_neg c_22, if_neg (Int32.not_le.mpr c_31), hz, nI_clamp (by omega)]; done), rfl, rfl, rfl, rfl, rfl⟩
        · refine q_bipush (pc := 34) (v := (-5)) dX10_next_34 (by decide) ?_
          refine q_goto (pc := 36) 48 dX10_next_36 (by decide) ?_
          exact q_iret (st := []) (pc := 48) dX10_next_48 rfl ⟨by first | (unfold tn; rw [if_pos c_4]; done) | (unfold tn; rw [if_neg (not_not_intro c_4), if_pos c_11]; done) | (unfold tn; rw [if_neg (not_not_intro c_4), if_neg c_11, if_pos c_22]; done) | (unfold tn; rw [if_neg (not_not_intro c_4), if_neg c_11, if_neg c_22, if_pos (Int32.not_lt.mp c_31)]; done) | (unfold tn; rw [if_neg (not_not_intro c_4), if_neg c_11, if_neg c_22, if_neg (Int32.not_le.mpr c_31), hz, nI_clamp (by omega)]; done), rfl, rfl, rfl, rfl, rfl⟩
set_option maxHeartbeats 400000 in
set_option maxRecDepth 20000 in
theorem c_X10_digitNext {S : BqH} {n : Nat} {I : BqI} {L : BqL} {P : BqP} {t : Nat} (ht : oTape S n P t) : bq_Sp mX10_digitNext 2 32 0 0 [.ref t] S n I L P (bq_F (some (.int (bq_b (tdg I t = true)))) S n I L P) := by
  refine q_entry (vs := [some (.ref t)]) (by decide +kernel) (by simp) (Nat.le_of_ble_eq_true rfl) rfl ?_
  refine q_aload_n (pc := 0) dX10_digitNext_0 rfl rfl ?_
  refine q_callVF (pc := 1) dX10_digitNext_1 kX10_44 (c_X10_next ht) (Tape_sh ht) rfl (Tape_lt ht) ⟨Nat.le_of_ble_eq_true rfl, Nat.le_of_ble_eq_true rfl⟩ rfl rfl (Nat.le_of_ble_eq_true rfl) ?_
  show bq_W _ _ _ _ _ 4 _ [_] _ _ _ _ _ _
  refine q_bipush (pc := 4) (v := nI 48) dX10_digitNext_4 (by decide) ?_
  refine q_icmp_lt (pc := 6) 22 dX10_digitNext_6 (by decide) (fun c_6 => ?_) (fun c_6 => ?_)
  · refine q_iconst (pc := 22) (v := nI 0) dX10_digitNext_22 (by decide) ?_
    exact q_zret (st := []) (pc := 23) dX10_digitNext_23 rfl (by decide) ⟨by first | rw [bq_bt (tdg_t c_6 c_15)] | rw [bq_bf (tdg_1 c_6)] | rw [bq_bf (tdg_2 c_15)], rfl, rfl, rfl, rfl, rfl⟩
  · refine q_aload_n (pc := 9) dX10_digitNext_9 rfl rfl ?_
    refine q_callVF (pc := 10) dX10_digitNext_10 kX10_44 (c_X10_next ht) (Tape_sh ht) rfl (Tape_lt ht) ⟨Nat.le_of_ble_eq_true rfl, Nat.le_of_ble_eq_true rfl⟩ rfl rfl (Nat.le_of_ble_eq_true rfl) ?_
    show bq_W _ _ _ _ _ 13 _ [_] _ _ _ _ _ _
    refine q_bipush (pc := 13) (v := nI 57) dX10_digitNext_13 (by decide) ?_
    refine q_icmp_gt (pc := 15) 22 dX10_digitNext_15 (by decide) (fun c_15 => ?_) (fun c_15 => ?_)
    · refine q_iconst (pc := 22) (v := nI 0) dX10_digitNext_22 (by decide) ?_
      exact q_zret (st := []) (pc := 23) dX10_digitNext_23 rfl (by decide) ⟨by first | rw [bq_bt (tdg_t c_6 c_15)] | rw [bq_bf (tdg_1 c_6)] | rw [bq_bf (tdg_2 c_15)], rfl, rfl, rfl, rfl, rfl⟩
    · refine q_iconst (pc := 18) (v := nI 1) dX10_digitNext_18 (by decide) ?_
      refine q_goto (pc := 19) 23 dX10_digitNext_19 (by decide) ?_
      exact q_zret (st := []) (pc := 23) dX10_digitNext_23 rfl (by decide) ⟨by first | rw [bq_bt (tdg_t c_6 c_15)] | rw [bq_bf (tdg_1 c_6)] | rw [bq_bf (tdg_2 c_15)], rfl, rfl, rfl, rfl, rfl⟩
set_option maxHeartbeats 400000 in
set_option maxRecDepth 20000 in
theorem c_X10_readSign {S : BqH} {n : Nat} {I : BqI} {L : BqL} {P : BqP} {t : Nat} {x : Int32} (ht : oTape S n P t) : bq_Sp mX10_readSign 2 32 0 0 [.ref t, .int x] S n I L P (bq_F (none) S n (rs_I I t x) L P) := by
  refine q_entry (vs := [some (.ref t), some (.int x)]) (by decide +kernel) (by simp) (Nat.le_of_ble_eq_true rfl) rfl ?_
  refine q_aload_n (pc := 0) dX10_readSign_0 rfl rfl ?_
  refine q_callVF (pc := 1) dX10_readSign_1 kX10_44 (c_X10_next ht) (Tape_sh ht) rfl (Tape_lt ht) ⟨Nat.le_of_ble_eq_true rfl, Nat.le_of_ble_eq_true rfl⟩ rfl rfl (Nat.le_of_ble_eq_true rfl) ?_
  show bq_W _ _ _ _ _ 4 _ [_] _ _ _ _ _ _
  refine q_iload_n (pc := 4) dX10_readSign_4 rfl rfl ?_
  refine q_icmp_ne (pc := 5) 21 dX10_readSign_5 (by decide) (fun c_5 => ?_) (fun c_5 => ?_)
  · refine q_aload_n (pc := 21) dX10_readSign_21 rfl rfl ?_
    refine q_iconst (pc := 22) (v := nI 1) dX10_readSign_22 (by decide) ?_
    refine q_putZ (pc := 23) dX10_readSign_23 (pX10_22 _) (Tape_sh ht) ⟨by decide, rfl⟩ (by decide) (Tape_lt ht) ?_
    exact q_vret (st := []) (pc := 26) dX10_readSign_26 rfl ⟨rfl, rfl, rfl, by first | (unfold rs_I; rw [if_neg c_5]; done) | (unfold rs_I; rw [if_pos c_5]; rfl), rfl, rfl⟩
  · refine q_aload_n (pc := 8) dX10_readSign_8 rfl rfl ?_
    refine q_dup (pc := 9) dX10_readSign_9 rfl ?_
    refine q_getI (pc := 10) dX10_readSign_10 fX10_19 (Tape_sh ht) ⟨by decide, rfl⟩ (Tape_lt ht) ?_
    refine q_iconst (pc := 13) (v := nI 1) dX10_readSign_13 (by decide) ?_
    refine q_iadd (pc := 14) dX10_readSign_14 ?_
    refine q_putI (pc := 15) dX10_readSign_15 (pX10_19 _) (Tape_sh ht) ⟨by decide, rfl⟩ (Tape_lt ht) ?_
    refine q_goto (pc := 18) 26 dX10_readSign_18 (by decide) ?_
    exact q_vret (st := []) (pc := 26) dX10_readSign_26 rfl ⟨rfl, rfl, rfl, by first | (unfold rs_I; rw [if_neg c_5]; done) | (unfold rs_I; rw [if_pos c_5]; rfl), rfl, rfl⟩
set_option maxHeartbeats 400000 in
set_option maxRecDepth 20000 in
theorem c_X10_readDigit {S : BqH} {n : Nat} {I : BqI} {L : BqL} {P : BqP} {t : Nat} (ht : oTape S n P t) : bq_Sp mX10_readDigit 3 52 0 0 [.ref t] S n I L P (bq_F (some (.int (rd_r I t))) S n (rd_I I t) L P) := by
  refine q_entry (vs := [some (.ref t), none]) (by decide +kernel) (by simp) (Nat.le_of_ble_eq_true rfl) rfl ?_
  refine q_aload_n (pc := 0) dX10_readDigit_0 rfl rfl ?_
  refine q_callVF (pc := 1) dX10_readDigit_1 kX10_66 (c_X10_digitNext ht) (Tape_sh ht) rfl (Tape_lt ht) ⟨Nat.le_of_ble_eq_true rfl, Nat.le_of_ble_eq_true rfl⟩ rfl rfl (Nat.le_of_ble_eq_true rfl) ?_
  show bq_W _ _ _ _ _ 4 _ [_] _ _ _ _ _ _
  refine q_if_ne (pc := 4) 14 dX10_readDigit_4 (by decide) (fun c_4 => ?_) (fun c_4 => ?_)
  · replace c_4 := bq_bn.mp c_4
    refine q_aload_n (pc := 14) dX10_readDigit_14 rfl rfl ?_
    refine q_callVF (pc := 15) dX10_readDigit_15 kX10_44 (c_X10_next ht) (Tape_sh ht) rfl (Tape_lt ht) ⟨Nat.le_of_ble_eq_true rfl, Nat.le_of_ble_eq_true rfl⟩ rfl rfl (Nat.le_of_ble_eq_true rfl) ?_
    show bq_W _ _ _ _ _ 18 _ [_] _ _ _ _ _ _
    refine q_bipush (pc := 18) (v := nI 48) dX10_readDigit_18 (by decide) ?_
    refine q_isub (pc := 20) dX10_readDigit_20 ?_
    refine q_istore_n (pc := 21) dX10_readDigit_21 rfl (Nat.le_of_ble_eq_true rfl) rfl ?_
    show bq_W _ _ _ _ _ 22 [_, _] _ _ _ _ _ _ _
    refine q_aload_n (pc := 22) dX10_readDigit_22 rfl rfl ?_
    refine q_dup (pc := 23) dX10_readDigit_23 rfl ?_
    refine q_getI (pc := 24) dX10_readDigit_24 fX10_19 (Tape_sh ht) ⟨by decide, rfl⟩ (Tape_lt ht) ?_
    refine q_iconst (pc := 27) (v := nI 1) dX10_readDigit_27 (by decide) ?_
    refine q_iadd (pc := 28) dX10_readDigit_28 ?_
    refine q_putI (pc := 29) dX10_readDigit_29 (pX10_19 _) (Tape_sh ht) ⟨by decide, rfl⟩ (Tape_lt ht) ?_
    refine q_iload_n (pc := 32) dX10_readDigit_32 rfl rfl ?_
    exact q_iret (st := []) (pc := 33) dX10_readDigit_33 rfl ⟨by unfold rd_r; first | rw [if_pos c_4] | rw [if_neg c_4], rfl, rfl, by unfold rd_I; first | (rw [if_pos c_4]; rfl) | (rw [if_neg c_4]; done), rfl, rfl⟩
  · replace c_4 := bq_b0.mp c_4
    refine q_aload_n (pc := 7) dX10_readDigit_7 rfl rfl ?_
    refine q_iconst (pc := 8) (v := nI 1) dX10_readDigit_8 (by decide) ?_
    refine q_putZ (pc := 9) dX10_readDigit_9 (pX10_22 _) (Tape_sh ht) ⟨by decide, rfl⟩ (by decide) (Tape_lt ht) ?_
    refine q_iconst (pc := 12) (v := nI 0) dX10_readDigit_12 (by decide) ?_
    exact q_iret (st := []) (pc := 13) dX10_readDigit_13 rfl ⟨by unfold rd_r; first | rw [if_pos c_4] | rw [if_neg c_4], rfl, rfl, by unfold rd_I; first | (rw [if_pos c_4]; rfl) | (rw [if_neg c_4]; done), rfl, rfl⟩
set_option maxHeartbeats 400000 in
set_option maxRecDepth 20000 in
theorem c_X10_readNumber {S : BqH} {n : Nat} {I : BqI} {L : BqL} {P : BqP} {t : Nat} (ht : oTape S n P t) : bq_Sp mX10_readNumber 4 73 0 0 [.ref t] S n I L P (bq_F (some (.int (rn_r I t))) S n (rn_I I t) L P) := by
  refine q_entry (vs := [some (.ref t), none, none]) (by decide +kernel) (by simp) (Nat.le_of_ble_eq_true rfl) rfl ?_
  have lp : ∀ k, k ≤ 3 → ∀ (v : Int32) (J : BqI), rn_l t k v J = rn_l t 3 (rd_r I t) (rd_I I t) → bq_W mX10_readNumber 4 73 0 0 7 [some (.ref t), some (.int v), some (.int (nI (4 - k)))] [] S n J L P (bq_F (some (.int (rn_r I t))) S n (rn_I I t) L P) := by
    intro k
    induction k with
    | zero =>
      intro hk v J hJ
      refine q_iload_n (pc := 7) dX10_readNumber_7 rfl rfl ?_
      refine q_iconst (pc := 8) (v := nI 4) dX10_readNumber_8 (by decide) ?_
      refine q_icmp_ge (pc := 9) 35 dX10_readNumber_9 (by decide) (fun c_9 => ?_) (fun c_9 => absurd (by decide) c_9)
      refine q_iload_n (pc := 35) dX10_readNumber_35 rfl rfl ?_
      exact q_iret (st := []) (pc := 36) dX10_readNumber_36 rfl ⟨by unfold rn_r; rw [← hJ]; rfl, rfl, rfl, by unfold rn_I; rw [← hJ]; rfl, rfl, rfl⟩
    | succ k ihk =>
      intro hk v J hJ
      refine q_iload_n (pc := 7) dX10_readNumber_7 rfl rfl ?_
      refine q_iconst (pc := 8) (v := nI 4) dX10_readNumber_8 (by decide) ?_
      refine q_icmp_ge (pc := 9) 35 dX10_readNumber_9 (by decide) (fun c_9 => absurd c_9 (nI_ge (show 4 - (k + 1) < 4 by omega) (by decide))) (fun c_9 => ?_)
      refine q_aload_n (pc := 12) dX10_readNumber_12 rfl rfl ?_
      refine q_callVF (pc := 13) dX10_readNumber_13 kX10_66 (c_X10_digitNext ht) (Tape_sh ht) rfl (Tape_lt ht) ⟨Nat.le_of_ble_eq_true rfl, Nat.le_of_ble_eq_true rfl⟩ rfl rfl (Nat.le_of_ble_eq_true rfl) ?_
      show bq_W _ _ _ _ _ 16 _ [_] _ _ _ _ _ _
      refine q_if_eq (pc := 16) 35 dX10_readNumber_16 (by decide) (fun c_16 => ?_) (fun c_16 => ?_)
      · replace c_16 := bq_b0.mp c_16
        refine q_iload_n (pc := 35) dX10_readNumber_35 rfl rfl ?_
        exact q_iret (st := []) (pc := 36) dX10_readNumber_36 rfl ⟨by unfold rn_r; rw [← hJ]; rw [rn_f c_16], rfl, rfl, by unfold rn_I; rw [← hJ]; rw [rn_f c_16], rfl, rfl⟩
      · replace c_16 := bq_bn.mp c_16
        refine q_iload_n (pc := 19) dX10_readNumber_19 rfl rfl ?_
        refine q_bipush (pc := 20) (v := nI 10) dX10_readNumber_20 (by decide) ?_
        refine q_imul (pc := 22) dX10_readNumber_22 ?_
        refine q_aload_n (pc := 23) dX10_readNumber_23 rfl rfl ?_
        refine q_callVF (pc := 24) dX10_readNumber_24 kX10_51 (c_X10_readDigit ht) (Tape_sh ht) rfl (Tape_lt ht) ⟨Nat.le_of_ble_eq_true rfl, Nat.le_of_ble_eq_true rfl⟩ rfl rfl (Nat.le_of_ble_eq_true rfl) ?_
        show bq_W _ _ _ _ _ 27 _ [_, _] _ _ _ _ _ _
        refine q_iadd (pc := 27) dX10_readNumber_27 ?_
        refine q_istore_n (pc := 28) dX10_readNumber_28 rfl (Nat.le_of_ble_eq_true rfl) rfl ?_
        show bq_W _ _ _ _ _ 29 [_, _, _] _ _ _ _ _ _ _
        refine q_iinc (pc := 29) (v := nI ((4 - (k + 1)) + 1)) dX10_readNumber_29 rfl (bq_inc _) (Nat.le_of_ble_eq_true rfl) rfl ?_
        show bq_W _ _ _ _ _ 32 [_, _, _] _ _ _ _ _ _ _
        refine q_goto (pc := 32) 7 dX10_readNumber_32 (by decide) ?_
        rw [rn_t c_16] at hJ
        rw [show 4 - (k + 1) + 1 = 4 - k by omega]
        exact ihk (by omega) _ _ hJ
  refine q_aload_n (pc := 0) dX10_readNumber_0 rfl rfl ?_
  refine q_callVF (pc := 1) dX10_readNumber_1 kX10_51 (c_X10_readDigit ht) (Tape_sh ht) rfl (Tape_lt ht) ⟨Nat.le_of_ble_eq_true rfl, Nat.le_of_ble_eq_true rfl⟩ rfl rfl (Nat.le_of_ble_eq_true rfl) ?_
  show bq_W _ _ _ _ _ 4 _ [_] _ _ _ _ _ _
  refine q_istore_n (pc := 4) dX10_readNumber_4 rfl (Nat.le_of_ble_eq_true rfl) rfl ?_
  show bq_W _ _ _ _ _ 5 [_, _, _] _ _ _ _ _ _ _
  refine q_iconst (pc := 5) (v := nI 1) dX10_readNumber_5 (by decide) ?_
  refine q_istore_n (pc := 6) dX10_readNumber_6 rfl (Nat.le_of_ble_eq_true rfl) rfl ?_
  show bq_W _ _ _ _ _ 7 [_, _, _] _ _ _ _ _ _ _
  exact lp 3 (by decide) _ _ rfl
set_option maxHeartbeats 400000 in
set_option maxRecDepth 20000 in
theorem rcp_99 {S : BqH} {n : Nat} {I : BqI} {L : BqL} {P : BqP} {t c : Nat} (ht : oTape S n P t) (hc : oCommand S n P c) : bq_W mX10_readCommand 5 95 0 0 175 [some (.ref t), some (.ref c)] [] S n I L P (bq_F (none) S n (rcD I t c 1) L P) := by
  refine q_aload_n (pc := 175) dX10_readCommand_175 rfl rfl ?_
  refine q_aload_n (pc := 176) dX10_readCommand_176 rfl rfl ?_
  refine q_callVF (pc := 177) dX10_readCommand_177 kX10_51 (c_X10_readDigit ht) (Tape_sh ht) rfl (Tape_lt ht) ⟨Nat.le_of_ble_eq_true rfl, Nat.le_of_ble_eq_true rfl⟩ rfl rfl (Nat.le_of_ble_eq_true rfl) ?_
  show bq_W _ _ _ _ _ 180 _ [_, _] _ _ _ _ _ _
  refine q_putI (pc := 180) dX10_readCommand_180 (pX10_54 _) (Command_sh hc) ⟨by decide, rfl⟩ (Command_lt hc) ?_
  show bq_W _ _ _ _ _ 183 _ _ _ _ (rcD I t c 1) _ _ _
  refine q_goto (pc := 183) 212 dX10_readCommand_183 (by decide) ?_
  exact q_vret (st := []) (pc := 212) dX10_readCommand_212 rfl ⟨rfl, rfl, rfl, rfl, rfl, rfl⟩
set_option maxHeartbeats 400000 in
set_option maxRecDepth 20000 in
theorem rcp_100 {S : BqH} {n : Nat} {I : BqI} {L : BqL} {P : BqP} {t c : Nat} (ht : oTape S n P t) (hc : oCommand S n P c) : bq_W mX10_readCommand 5 95 0 0 186 [some (.ref t), some (.ref c)] [] S n I L P (bq_F (none) S n (rcN I t c 3) L P) := by
  refine q_aload_n (pc := 186) dX10_readCommand_186 rfl rfl ?_
  refine q_aload_n (pc := 187) dX10_readCommand_187 rfl rfl ?_
  refine q_callVF (pc := 188) dX10_readCommand_188 kX10_60 (c_X10_readNumber ht) (Tape_sh ht) rfl (Tape_lt ht) ⟨Nat.le_of_ble_eq_true rfl, Nat.le_of_ble_eq_true rfl⟩ rfl rfl (Nat.le_of_ble_eq_true rfl) ?_
  show bq_W _ _ _ _ _ 191 _ [_, _] _ _ _ _ _ _
  refine q_putI (pc := 191) dX10_readCommand_191 (pX10_63 _) (Command_sh hc) ⟨by decide, rfl⟩ (Command_lt hc) ?_
  show bq_W _ _ _ _ _ 194 _ _ _ _ (rcN I t c 3) _ _ _
  refine q_goto (pc := 194) 212 dX10_readCommand_194 (by decide) ?_
  exact q_vret (st := []) (pc := 212) dX10_readCommand_212 rfl ⟨rfl, rfl, rfl, rfl, rfl, rfl⟩
set_option maxHeartbeats 400000 in
set_option maxRecDepth 20000 in
theorem rcp_102 {S : BqH} {n : Nat} {I : BqI} {L : BqL} {P : BqP} {t c : Nat} (ht : oTape S n P t) (hc : oCommand S n P c) : bq_W mX10_readCommand 5 95 0 0 150 [some (.ref t), some (.ref c)] [] S n I L P (bq_F (none) S n (rcN (rs_I (rcD I t c 1) t (nI 35)) t c 3) L P) := by
  refine q_aload_n (pc := 150) dX10_readCommand_150 rfl rfl ?_
  refine q_aload_n (pc := 151) dX10_readCommand_151 rfl rfl ?_
  refine q_callVF (pc := 152) dX10_readCommand_152 kX10_51 (c_X10_readDigit ht) (Tape_sh ht) rfl (Tape_lt ht) ⟨Nat.le_of_ble_eq_true rfl, Nat.le_of_ble_eq_true rfl⟩ rfl rfl (Nat.le_of_ble_eq_true rfl) ?_
  show bq_W _ _ _ _ _ 155 _ [_, _] _ _ _ _ _ _
  refine q_putI (pc := 155) dX10_readCommand_155 (pX10_54 _) (Command_sh hc) ⟨by decide, rfl⟩ (Command_lt hc) ?_
  show bq_W _ _ _ _ _ 158 _ _ _ _ (rcD I t c 1) _ _ _
  refine q_aload_n (pc := 158) dX10_readCommand_158 rfl rfl ?_
  refine q_bipush (pc := 159) (v := nI 35) dX10_readCommand_159 (by decide) ?_
  refine q_callVF (pc := 161) dX10_readCommand_161 kX10_40 (c_X10_readSign ht) (Tape_sh ht) rfl (Tape_lt ht) ⟨Nat.le_of_ble_eq_true rfl, Nat.le_of_ble_eq_true rfl⟩ rfl rfl (Nat.le_of_ble_eq_true rfl) ?_
  show bq_W _ _ _ _ _ 164 _ [] _ _ _ _ _ _
  refine q_aload_n (pc := 164) dX10_readCommand_164 rfl rfl ?_
  refine q_aload_n (pc := 165) dX10_readCommand_165 rfl rfl ?_
  refine q_callVF (pc := 166) dX10_readCommand_166 kX10_60 (c_X10_readNumber ht) (Tape_sh ht) rfl (Tape_lt ht) ⟨Nat.le_of_ble_eq_true rfl, Nat.le_of_ble_eq_true rfl⟩ rfl rfl (Nat.le_of_ble_eq_true rfl) ?_
  show bq_W _ _ _ _ _ 169 _ [_, _] _ _ _ _ _ _
  refine q_putI (pc := 169) dX10_readCommand_169 (pX10_63 _) (Command_sh hc) ⟨by decide, rfl⟩ (Command_lt hc) ?_
  show bq_W _ _ _ _ _ 172 _ _ _ _ (rcN (rs_I (rcD I t c 1) t (nI 35)) t c 3) _ _ _
  refine q_goto (pc := 172) 212 dX10_readCommand_172 (by decide) ?_
  exact q_vret (st := []) (pc := 212) dX10_readCommand_212 rfl ⟨rfl, rfl, rfl, rfl, rfl, rfl⟩
set_option maxHeartbeats 400000 in
set_option maxRecDepth 20000 in
theorem rcp_108 {S : BqH} {n : Nat} {I : BqI} {L : BqL} {P : BqP} {t c : Nat} (ht : oTape S n P t) (hc : oCommand S n P c) : bq_W mX10_readCommand 5 95 0 0 111 [some (.ref t), some (.ref c)] [] S n I L P (bq_F (none) S n (rcD (rs_I (rcN (rs_I (rcD I t c 1) t (nI 58)) t c 3) t (nI 47)) t c 2) L P) := by
  refine q_aload_n (pc := 111) dX10_readCommand_111 rfl rfl ?_
  refine q_aload_n (pc := 112) dX10_readCommand_112 rfl rfl ?_
  refine q_callVF (pc := 113) dX10_readCommand_113 kX10_51 (c_X10_readDigit ht) (Tape_sh ht) rfl (Tape_lt ht) ⟨Nat.le_of_ble_eq_true rfl, Nat.le_of_ble_eq_true rfl⟩ rfl rfl (Nat.le_of_ble_eq_true rfl) ?_
  show bq_W _ _ _ _ _ 116 _ [_, _] _ _ _ _ _ _
  refine q_putI (pc := 116) dX10_readCommand_116 (pX10_54 _) (Command_sh hc) ⟨by decide, rfl⟩ (Command_lt hc) ?_
  show bq_W _ _ _ _ _ 119 _ _ _ _ (rcD I t c 1) _ _ _
  refine q_aload_n (pc := 119) dX10_readCommand_119 rfl rfl ?_
  refine q_bipush (pc := 120) (v := nI 58) dX10_readCommand_120 (by decide) ?_
  refine q_callVF (pc := 122) dX10_readCommand_122 kX10_40 (c_X10_readSign ht) (Tape_sh ht) rfl (Tape_lt ht) ⟨Nat.le_of_ble_eq_true rfl, Nat.le_of_ble_eq_true rfl⟩ rfl rfl (Nat.le_of_ble_eq_true rfl) ?_
  show bq_W _ _ _ _ _ 125 _ [] _ _ _ _ _ _
  refine q_aload_n (pc := 125) dX10_readCommand_125 rfl rfl ?_
  refine q_aload_n (pc := 126) dX10_readCommand_126 rfl rfl ?_
  refine q_callVF (pc := 127) dX10_readCommand_127 kX10_60 (c_X10_readNumber ht) (Tape_sh ht) rfl (Tape_lt ht) ⟨Nat.le_of_ble_eq_true rfl, Nat.le_of_ble_eq_true rfl⟩ rfl rfl (Nat.le_of_ble_eq_true rfl) ?_
  show bq_W _ _ _ _ _ 130 _ [_, _] _ _ _ _ _ _
  refine q_putI (pc := 130) dX10_readCommand_130 (pX10_63 _) (Command_sh hc) ⟨by decide, rfl⟩ (Command_lt hc) ?_
  show bq_W _ _ _ _ _ 133 _ _ _ _ (rcN (rs_I (rcD I t c 1) t (nI 58)) t c 3) _ _ _
  refine q_aload_n (pc := 133) dX10_readCommand_133 rfl rfl ?_
  refine q_bipush (pc := 134) (v := nI 47) dX10_readCommand_134 (by decide) ?_
  refine q_callVF (pc := 136) dX10_readCommand_136 kX10_40 (c_X10_readSign ht) (Tape_sh ht) rfl (Tape_lt ht) ⟨Nat.le_of_ble_eq_true rfl, Nat.le_of_ble_eq_true rfl⟩ rfl rfl (Nat.le_of_ble_eq_true rfl) ?_
  show bq_W _ _ _ _ _ 139 _ [] _ _ _ _ _ _
  refine q_aload_n (pc := 139) dX10_readCommand_139 rfl rfl ?_
  refine q_aload_n (pc := 140) dX10_readCommand_140 rfl rfl ?_
  refine q_callVF (pc := 141) dX10_readCommand_141 kX10_51 (c_X10_readDigit ht) (Tape_sh ht) rfl (Tape_lt ht) ⟨Nat.le_of_ble_eq_true rfl, Nat.le_of_ble_eq_true rfl⟩ rfl rfl (Nat.le_of_ble_eq_true rfl) ?_
  show bq_W _ _ _ _ _ 144 _ [_, _] _ _ _ _ _ _
  refine q_putI (pc := 144) dX10_readCommand_144 (pX10_57 _) (Command_sh hc) ⟨by decide, rfl⟩ (Command_lt hc) ?_
  show bq_W _ _ _ _ _ 147 _ _ _ _ (rcD (rs_I (rcN (rs_I (rcD I t c 1) t (nI 58)) t c 3) t (nI 47)) t c 2) _ _ _
  refine q_goto (pc := 147) 212 dX10_readCommand_147 (by decide) ?_
  exact q_vret (st := []) (pc := 212) dX10_readCommand_212 rfl ⟨rfl, rfl, rfl, rfl, rfl, rfl⟩
set_option maxHeartbeats 400000 in
set_option maxRecDepth 20000 in
theorem rcp_116 {S : BqH} {n : Nat} {I : BqI} {L : BqL} {P : BqP} {t c : Nat} (ht : oTape S n P t) (hc : oCommand S n P c) : bq_W mX10_readCommand 5 95 0 0 72 [some (.ref t), some (.ref c)] [] S n I L P (bq_F (none) S n (rcN (rs_I (rcD (rs_I (rcD I t c 1) t (nI 62)) t c 2) t (nI 58)) t c 3) L P) := by
  refine q_aload_n (pc := 72) dX10_readCommand_72 rfl rfl ?_
  refine q_aload_n (pc := 73) dX10_readCommand_73 rfl rfl ?_
  refine q_callVF (pc := 74) dX10_readCommand_74 kX10_51 (c_X10_readDigit ht) (Tape_sh ht) rfl (Tape_lt ht) ⟨Nat.le_of_ble_eq_true rfl, Nat.le_of_ble_eq_true rfl⟩ rfl rfl (Nat.le_of_ble_eq_true rfl) ?_
  show bq_W _ _ _ _ _ 77 _ [_, _] _ _ _ _ _ _
  refine q_putI (pc := 77) dX10_readCommand_77 (pX10_54 _) (Command_sh hc) ⟨by decide, rfl⟩ (Command_lt hc) ?_
  show bq_W _ _ _ _ _ 80 _ _ _ _ (rcD I t c 1) _ _ _
  refine q_aload_n (pc := 80) dX10_readCommand_80 rfl rfl ?_
  refine q_bipush (pc := 81) (v := nI 62) dX10_readCommand_81 (by decide) ?_
  refine q_callVF (pc := 83) dX10_readCommand_83 kX10_40 (c_X10_readSign ht) (Tape_sh ht) rfl (Tape_lt ht) ⟨Nat.le_of_ble_eq_true rfl, Nat.le_of_ble_eq_true rfl⟩ rfl rfl (Nat.le_of_ble_eq_true rfl) ?_
  show bq_W _ _ _ _ _ 86 _ [] _ _ _ _ _ _
  refine q_aload_n (pc := 86) dX10_readCommand_86 rfl rfl ?_
  refine q_aload_n (pc := 87) dX10_readCommand_87 rfl rfl ?_
  refine q_callVF (pc := 88) dX10_readCommand_88 kX10_51 (c_X10_readDigit ht) (Tape_sh ht) rfl (Tape_lt ht) ⟨Nat.le_of_ble_eq_true rfl, Nat.le_of_ble_eq_true rfl⟩ rfl rfl (Nat.le_of_ble_eq_true rfl) ?_
  show bq_W _ _ _ _ _ 91 _ [_, _] _ _ _ _ _ _
  refine q_putI (pc := 91) dX10_readCommand_91 (pX10_57 _) (Command_sh hc) ⟨by decide, rfl⟩ (Command_lt hc) ?_
  show bq_W _ _ _ _ _ 94 _ _ _ _ (rcD (rs_I (rcD I t c 1) t (nI 62)) t c 2) _ _ _
  refine q_aload_n (pc := 94) dX10_readCommand_94 rfl rfl ?_
  refine q_bipush (pc := 95) (v := nI 58) dX10_readCommand_95 (by decide) ?_
  refine q_callVF (pc := 97) dX10_readCommand_97 kX10_40 (c_X10_readSign ht) (Tape_sh ht) rfl (Tape_lt ht) ⟨Nat.le_of_ble_eq_true rfl, Nat.le_of_ble_eq_true rfl⟩ rfl rfl (Nat.le_of_ble_eq_true rfl) ?_
  show bq_W _ _ _ _ _ 100 _ [] _ _ _ _ _ _
  refine q_aload_n (pc := 100) dX10_readCommand_100 rfl rfl ?_
  refine q_aload_n (pc := 101) dX10_readCommand_101 rfl rfl ?_
  refine q_callVF (pc := 102) dX10_readCommand_102 kX10_60 (c_X10_readNumber ht) (Tape_sh ht) rfl (Tape_lt ht) ⟨Nat.le_of_ble_eq_true rfl, Nat.le_of_ble_eq_true rfl⟩ rfl rfl (Nat.le_of_ble_eq_true rfl) ?_
  show bq_W _ _ _ _ _ 105 _ [_, _] _ _ _ _ _ _
  refine q_putI (pc := 105) dX10_readCommand_105 (pX10_63 _) (Command_sh hc) ⟨by decide, rfl⟩ (Command_lt hc) ?_
  show bq_W _ _ _ _ _ 108 _ _ _ _ (rcN (rs_I (rcD (rs_I (rcD I t c 1) t (nI 62)) t c 2) t (nI 58)) t c 3) _ _ _
  refine q_goto (pc := 108) 212 dX10_readCommand_108 (by decide) ?_
  exact q_vret (st := []) (pc := 212) dX10_readCommand_212 rfl ⟨rfl, rfl, rfl, rfl, rfl, rfl⟩
set_option maxHeartbeats 416000 in
set_option maxRecDepth 20000 in
theorem c_X10_readCommand {S : BqH} {n : Nat} {I : BqI} {L : BqL} {P : BqP} {t c : Nat} (ht : oTape S n P t) (hc : oCommand S n P c) : bq_Sp mX10_readCommand 5 95 0 0 [.ref t, .ref c] S n I L P (bq_F (none) S n (rc_I I t c) L P) := by
  refine q_entry (vs := [some (.ref t), some (.ref c)]) (by decide +kernel) (by simp) (Nat.le_of_ble_eq_true rfl) rfl ?_
  refine q_aload_n (pc := 0) dX10_readCommand_0 rfl rfl ?_
  refine q_aload_n (pc := 1) dX10_readCommand_1 rfl rfl ?_
  refine q_callVF (pc := 2) dX10_readCommand_2 kX10_44 (c_X10_next ht) (Tape_sh ht) rfl (Tape_lt ht) ⟨Nat.le_of_ble_eq_true rfl, Nat.le_of_ble_eq_true rfl⟩ rfl rfl (Nat.le_of_ble_eq_true rfl) ?_
  show bq_W _ _ _ _ _ 5 _ [_, _] _ _ _ _ _ _
  refine q_putI (pc := 5) dX10_readCommand_5 (pX10_48 _) (Command_sh hc) ⟨by decide, rfl⟩ (Command_lt hc) ?_
  refine q_aload_n (pc := 8) dX10_readCommand_8 rfl rfl ?_
  refine q_dup (pc := 9) dX10_readCommand_9 rfl ?_
  refine q_getI (pc := 10) dX10_readCommand_10 fX10_19 (Tape_sh ht) ⟨by decide, rfl⟩ (Tape_lt ht) ?_
  refine q_iconst (pc := 13) (v := nI 1) dX10_readCommand_13 (by decide) ?_
  refine q_iadd (pc := 14) dX10_readCommand_14 ?_
  refine q_putI (pc := 15) dX10_readCommand_15 (pX10_19 _) (Tape_sh ht) ⟨by decide, rfl⟩ (Tape_lt ht) ?_
  show bq_W _ _ _ _ _ 18 _ _ _ _ (rc0 I t c) _ _ _
  refine q_aload_n (pc := 18) dX10_readCommand_18 rfl rfl ?_
  refine q_getI (pc := 19) dX10_readCommand_19 fX10_48 (Command_sh hc) ⟨by decide, rfl⟩ (Command_lt hc) ?_
  refine q_topI (fun y_22 e_22 => ?_)
  by_cases s22_99 : y_22 = nI 99
  · refine q_lookup (pc := 22) (off := 153) 175 dX10_readCommand_22 rfl (by rw [s22_99]; decide) (by decide) ?_
    subst e_22
    rw [show rc_I I t c = _ from if_pos s22_99]
    exact rcp_99 ht hc
  by_cases s22_100 : y_22 = nI 100
  · refine q_lookup (pc := 22) (off := 164) 186 dX10_readCommand_22 rfl (by rw [s22_100]; decide) (by decide) ?_
    subst e_22
    rw [show rc_I I t c = _ from (if_neg s22_99).trans (if_pos s22_100)]
    exact rcp_100 ht hc
  by_cases s22_102 : y_22 = nI 102
  · refine q_lookup (pc := 22) (off := 128) 150 dX10_readCommand_22 rfl (by rw [s22_102]; decide) (by decide) ?_
    subst e_22
    rw [show rc_I I t c = _ from (if_neg s22_99).trans ((if_neg s22_100).trans (if_pos s22_102))]
    exact rcp_102 ht hc
  by_cases s22_108 : y_22 = nI 108
  · refine q_lookup (pc := 22) (off := 89) 111 dX10_readCommand_22 rfl (by rw [s22_108]; decide) (by decide) ?_
    subst e_22
    rw [show rc_I I t c = _ from (if_neg s22_99).trans ((if_neg s22_100).trans ((if_neg s22_102).trans (if_pos s22_108)))]
    exact rcp_108 ht hc
  by_cases s22_116 : y_22 = nI 116
  · refine q_lookup (pc := 22) (off := 50) 72 dX10_readCommand_22 rfl (by rw [s22_116]; decide) (by decide) ?_
    subst e_22
    rw [show rc_I I t c = _ from (if_neg s22_99).trans ((if_neg s22_100).trans ((if_neg s22_102).trans ((if_neg s22_108).trans (if_pos s22_116))))]
    exact rcp_116 ht hc
  refine q_lookup (pc := 22) (off := 175) 197 dX10_readCommand_22 rfl (by show Op.lookupswitch.offset [(99, 153), (100, 164), (102, 128), (108, 89), (116, 50)] 175 _ = _; rw [lv_osw s22_99 (by decide), lv_osw s22_100 (by decide), lv_osw s22_102 (by decide), lv_osw s22_108 (by decide), lv_osw s22_116 (by decide)]; rfl) (by decide) ?_
  refine q_aload_n (pc := 197) dX10_readCommand_197 rfl rfl ?_
  refine q_dup (pc := 198) dX10_readCommand_198 rfl ?_
  refine q_getI (pc := 199) dX10_readCommand_199 fX10_19 (Tape_sh ht) ⟨by decide, rfl⟩ (Tape_lt ht) ?_
  refine q_iconst (pc := 202) (v := nI 1) dX10_readCommand_202 (by decide) ?_
  refine q_isub (pc := 203) dX10_readCommand_203 ?_
  refine q_putI (pc := 204) dX10_readCommand_204 (pX10_19 _) (Tape_sh ht) ⟨by decide, rfl⟩ (Tape_lt ht) ?_
  refine q_aload_n (pc := 207) dX10_readCommand_207 rfl rfl ?_
  refine q_iconst (pc := 208) (v := nI 1) dX10_readCommand_208 (by decide) ?_
  refine q_putZ (pc := 209) dX10_readCommand_209 (pX10_22 _) (Tape_sh ht) ⟨by decide, rfl⟩ (by decide) (Tape_lt ht) ?_
  exact q_vret (st := []) (pc := 212) dX10_readCommand_212 rfl ⟨rfl, rfl, rfl, by subst e_22; unfold rc_I; rw [if_neg s22_99, if_neg s22_100, if_neg s22_102, if_neg s22_108, if_neg s22_116], rfl, rfl⟩
set_option maxHeartbeats 512000 in
set_option maxRecDepth 20000 in
theorem c_X10_readCommands {S : BqH} {n : Nat} {I : BqI} {L : BqL} {P : BqP} {t : Nat} (ht : oTape S n P t) : bq_Sp mX10_readCommands 6 116 0 0 [.ref t] S n I L P (bq_F (some (.int (rcs t 20 0 (rcs_0 I t)).1)) S n (rcs t 20 0 (rcs_0 I t)).2 L P) := by
  refine q_entry (vs := [some (.ref t), none]) (by decide +kernel) (by simp) (Nat.le_of_ble_eq_true rfl) rfl ?_
  have lp : ∀ k, k ≤ 20 → ∀ (i : Nat) (J : BqI), i = 20 - k → rcs t k i J = rcs t 20 0 (rcs_0 I t) → bq_W mX10_readCommands 6 116 0 0 17 [some (.ref t), some (.int (nI i))] [] S n J L P (bq_F (some (.int (rcs t 20 0 (rcs_0 I t)).1)) S n (rcs t 20 0 (rcs_0 I t)).2 L P) := by
    intro k
    induction k with
    | zero =>
      intro hk i J hi hJ
      subst hi
      refine q_iload_n (pc := 17) dX10_readCommands_17 rfl rfl ?_
      refine q_bipush (pc := 18) (v := nI 20) dX10_readCommands_18 (by decide) ?_
      refine q_icmp_ge (pc := 20) 77 dX10_readCommands_20 (by decide) (fun c_20 => ?_) (fun c_20 => absurd (by decide) c_20)
      refine q_iconst (pc := 77) (v := nI 0) dX10_readCommands_77 (by decide) ?_
      exact q_zret (st := []) (pc := 78) dX10_readCommands_78 rfl (by decide) ⟨by rw [← hJ]; rfl, rfl, rfl, by rw [← hJ]; rfl, rfl, rfl⟩
    | succ k ihk =>
      intro hk i J hi hJ
      refine q_iload_n (pc := 17) dX10_readCommands_17 rfl rfl ?_
      refine q_bipush (pc := 18) (v := nI 20) dX10_readCommands_18 (by decide) ?_
      refine q_icmp_ge (pc := 20) 77 dX10_readCommands_20 (by decide) (fun c_20 => absurd c_20 (nI_ge (show i < 20 by omega) (by decide))) (fun c_20 => ?_)
      refine q_aload_n (pc := 23) dX10_readCommands_23 rfl rfl ?_
      refine q_aload_n (pc := 24) dX10_readCommands_24 rfl rfl ?_
      refine q_getP (pc := 25) dX10_readCommands_25 fX10_31 (Tape_sh ht) ⟨by decide, rfl⟩ (Tape_lt ht) (Tape_p_commands ht) ?_
      refine q_iload_n (pc := 28) dX10_readCommands_28 rfl rfl ?_
      refine q_aald (pc := 29) dX10_readCommands_29 (Tapecommands_sh ht) (by decide) (Tapecommands_lt ht) rfl (show i < 20 by omega) (Tapecommands_p_el ht (show i < 20 by omega)) ?_
      refine q_callVF (pc := 30) dX10_readCommands_30 kX10_36 (c_X10_readCommand ht (Tapecommands_s_el ht (show i < 20 by omega))) (Tape_sh ht) rfl (Tape_lt ht) ⟨Nat.le_of_ble_eq_true rfl, Nat.le_of_ble_eq_true rfl⟩ rfl rfl (Nat.le_of_ble_eq_true rfl) ?_
      show bq_W _ _ _ _ _ 33 _ [] _ _ _ _ _ _
      refine q_aload_n (pc := 33) dX10_readCommands_33 rfl rfl ?_
      refine q_getI (pc := 34) dX10_readCommands_34 fX10_22 (Tape_sh ht) ⟨by decide, rfl⟩ (Tape_lt ht) ?_
      refine q_if_eq (pc := 37) 42 dX10_readCommands_37 (by decide) (fun c_37 => ?_) (fun c_37 => ?_)
      · refine q_aload_n (pc := 42) dX10_readCommands_42 rfl rfl ?_
        refine q_dup (pc := 43) dX10_readCommands_43 rfl ?_
        refine q_getI (pc := 44) dX10_readCommands_44 fX10_26 (Tape_sh ht) ⟨by decide, rfl⟩ (Tape_lt ht) ?_
        refine q_iconst (pc := 47) (v := nI 1) dX10_readCommands_47 (by decide) ?_
        refine q_iadd (pc := 48) dX10_readCommands_48 ?_
        refine q_putI (pc := 49) dX10_readCommands_49 (pX10_26 _) (Tape_sh ht) ⟨by decide, rfl⟩ (Tape_lt ht) ?_
        refine q_aload_n (pc := 52) dX10_readCommands_52 rfl rfl ?_
        refine q_getI (pc := 53) dX10_readCommands_53 fX10_19 (Tape_sh ht) ⟨by decide, rfl⟩ (Tape_lt ht) ?_
        refine q_aload_n (pc := 56) dX10_readCommands_56 rfl rfl ?_
        refine q_getI (pc := 57) dX10_readCommands_57 fX10_9 (Tape_sh ht) ⟨by decide, rfl⟩ (Tape_lt ht) ?_
        refine q_icmp_lt (pc := 60) 65 dX10_readCommands_60 (by decide) (fun c_60 => ?_) (fun c_60 => ?_)
        · refine q_aload_n (pc := 65) dX10_readCommands_65 rfl rfl ?_
          refine q_bipush (pc := 66) (v := nI 59) dX10_readCommands_66 (by decide) ?_
          refine q_callVF (pc := 68) dX10_readCommands_68 kX10_40 (c_X10_readSign ht) (Tape_sh ht) rfl (Tape_lt ht) ⟨Nat.le_of_ble_eq_true rfl, Nat.le_of_ble_eq_true rfl⟩ rfl rfl (Nat.le_of_ble_eq_true rfl) ?_
          show bq_W _ _ _ _ _ 71 _ [] _ _ _ _ _ _
          refine q_iinc (pc := 71) (v := nI (i + 1)) dX10_readCommands_71 rfl (bq_inc _) (Nat.le_of_ble_eq_true rfl) rfl ?_
          show bq_W _ _ _ _ _ 74 [_, _] _ _ _ _ _ _ _
          refine q_goto (pc := 74) 17 dX10_readCommands_74 (by decide) ?_
          rw [rcs_c c_37 c_60] at hJ
          exact ihk (by omega) _ _ (by omega) hJ
        · refine q_iconst (pc := 63) (v := nI 1) dX10_readCommands_63 (by decide) ?_
          exact q_zret (st := []) (pc := 64) dX10_readCommands_64 rfl (by decide) ⟨by rw [← hJ, rcs_b c_37 c_60], rfl, rfl, by rw [← hJ, rcs_b c_37 c_60]; rfl, rfl, rfl⟩
      · refine q_iconst (pc := 40) (v := nI 0) dX10_readCommands_40 (by decide) ?_
        exact q_zret (st := []) (pc := 41) dX10_readCommands_41 rfl (by decide) ⟨by rw [← hJ, rcs_a c_37], rfl, rfl, by rw [← hJ, rcs_a c_37]; rfl, rfl, rfl⟩
  refine q_aload_n (pc := 0) dX10_readCommands_0 rfl rfl ?_
  refine q_iconst (pc := 1) (v := nI 0) dX10_readCommands_1 (by decide) ?_
  refine q_putI (pc := 2) dX10_readCommands_2 (pX10_19 _) (Tape_sh ht) ⟨by decide, rfl⟩ (Tape_lt ht) ?_
  refine q_aload_n (pc := 5) dX10_readCommands_5 rfl rfl ?_
  refine q_iconst (pc := 6) (v := nI 0) dX10_readCommands_6 (by decide) ?_
  refine q_putZ (pc := 7) dX10_readCommands_7 (pX10_22 _) (Tape_sh ht) ⟨by decide, rfl⟩ (by decide) (Tape_lt ht) ?_
  refine q_aload_n (pc := 10) dX10_readCommands_10 rfl rfl ?_
  refine q_iconst (pc := 11) (v := nI 0) dX10_readCommands_11 (by decide) ?_
  refine q_putI (pc := 12) dX10_readCommands_12 (pX10_26 _) (Tape_sh ht) ⟨by decide, rfl⟩ (Tape_lt ht) ?_
  refine q_iconst (pc := 15) (v := nI 0) dX10_readCommands_15 (by decide) ?_
  refine q_istore_n (pc := 16) dX10_readCommands_16 rfl (Nat.le_of_ble_eq_true rfl) rfl ?_
  show bq_W _ _ _ _ _ 17 [_, _] _ _ _ _ _ _ _
  exact lp 20 (by decide) 0 _ rfl rfl
