def bq_am (F : Nat → Int32) : Nat → Nat
  | 0 => 0
  | i + 1 => if F i ≤ F (bq_am F i) then bq_am F i else i
theorem bq_am_le2 (F : Nat → Int32) : ∀ i, bq_am F i ≤ i
  | 0 => Nat.le_refl 0
  | i + 1 => by
    have := bq_am_le2 F i
    unfold bq_am
    split <;> omega
theorem bq_am_le (F : Nat → Int32) (i : Nat) : bq_am F (i + 1) ≤ i := by
  have := bq_am_le2 F i
  unfold bq_am
  split <;> omega
theorem bq_am_1 (F : Nat → Int32) : bq_am F 1 = 0 := by
  exact Nat.le_zero.mp (bq_am_le F 0)
def om_I (I : BqI) (p : Nat) : BqI := if I (p + 3) (bq_am (I (p + 3)) 16) ≤ 0 then I else bq_u (bq_u I (p + 1 + 1) (bq_am (I (p + 3)) 16) (I (p + 1 + 1) (bq_am (I (p + 3)) 16) + nI 1)) (p + 3) (bq_am (I (p + 3)) 16) (nI 0)
def tq (A x : Int32) : Int32 := if A ≤ 0 then nI 0 else x / A
def tr (A x : Int32) : Int32 := if A ≤ 0 then nI 0 else x - x / A * A
def tl1 (I : BqI) (p w : Nat) (l A : Int32) : Nat → BqI
  | 0 => I
  | i + 1 => bq_u (bq_u (tl1 I p w l A i) (p + 1 + 1) i (tq A (tl1 I p w l A i (w + 1) i * l))) (p + 3) i (tr A (tl1 I p w l A i (w + 1) i * l))
def tm1 (I : BqI) (p w : Nat) (l A : Int32) : Nat → Int32
  | 0 => l
  | i + 1 => tm1 I p w l A i - tl1 I p w l A (i + 1) (p + 1 + 1) i
theorem tm1_s (I : BqI) (p w : Nat) (l A : Int32) (i : Nat) : tm1 I p w l A (i + 1) = tm1 I p w l A i - tl1 I p w l A (i + 1) (p + 1 + 1) i := rfl
theorem tl1_p {I : BqI} {p w : Nat} {l A : Int32} {i : Nat} (h : A ≤ 0) : tl1 I p w l A (i + 1) = bq_u (bq_u (tl1 I p w l A i) (p + 1 + 1) i (nI 0)) (p + 3) i (nI 0) := by
  show bq_u (bq_u _ _ _ (tq _ _)) _ _ (tr _ _) = _
  unfold tq tr
  rw [if_pos h, if_pos h]
theorem tl1_n {I : BqI} {p w : Nat} {l A : Int32} {i : Nat} (h : ¬ A ≤ 0) : tl1 I p w l A (i + 1) = bq_u (bq_u (tl1 I p w l A i) (p + 1 + 1) i (tl1 I p w l A i (w + 1) i * l / A)) (p + 3) i (tl1 I p w l A i (w + 1) i * l - tl1 I p w l A i (w + 1) i * l / A * A) := by
  show bq_u (bq_u _ _ _ (tq _ _)) _ _ (tr _ _) = _
  unfold tq tr
  rw [if_neg h, if_neg h]
def tom (I : BqI) (p : Nat) : Nat → BqI
  | 0 => I
  | k + 1 => tom (om_I I p) p k
set_option maxHeartbeats 400000 in
set_option maxRecDepth 20000 in
theorem c_X6_takeOneMore {S : BqH} {n : Nat} {I : BqI} {L : BqL} {P : BqP} {p : Nat} (hp : oPortion S n P p) : bq_Sp mX6_takeOneMore 1 12 0 0 [.ref p] S n I L P (bq_F (none) S n (om_I I p) L P) := by
  refine q_entry (vs := [some (.ref p), none, none]) (by decide +kernel) (by simp) (Nat.le_of_ble_eq_true rfl) rfl ?_
  have lp : ∀ i, i ≤ 16 → bq_W mX6_takeOneMore 1 12 0 0 4 [some (.ref p), some (.int (nI (bq_am (I (p + 3)) i))), some (.int (nI i))] [] S n I L P (bq_F (none) S n (om_I I p) L P) := by
    refine bq_down (A := fun i => bq_W mX6_takeOneMore 1 12 0 0 4 [some (.ref p), some (.int (nI (bq_am (I (p + 3)) i))), some (.int (nI i))] [] S n I L P (bq_F (none) S n (om_I I p) L P)) 16 ?_ ?_
    · refine q_iload_n (pc := 4) dX6_takeOneMore_4 rfl rfl ?_
      refine q_bipush (pc := 5) (v := nI 16) dX6_takeOneMore_5 (by decide) ?_
      refine q_icmp_ge (pc := 7) 33 dX6_takeOneMore_7 (by decide) (fun c_7 => ?_) (fun c_7 => absurd (by decide) c_7)
      refine q_aload_n (pc := 33) dX6_takeOneMore_33 rfl rfl ?_
      refine q_getP (pc := 34) dX6_takeOneMore_34 fX6_18 (Portion_sh hp) ⟨by decide, rfl⟩ (Portion_lt hp) (Portion_p_remainders hp) ?_
      refine q_iload_n (pc := 37) dX6_takeOneMore_37 rfl rfl ?_
      refine q_iald (pc := 38) dX6_takeOneMore_38 (oA_sh (Portion_s_remainders hp)) (oA_lt (Portion_s_remainders hp)) rfl (Nat.lt_of_le_of_lt (bq_am_le _ 15) (by decide)) ?_
      refine q_if_le (pc := 39) 62 dX6_takeOneMore_39 (by decide) (fun c_39 => ?_) (fun c_39 => ?_)
      · exact q_vret (st := []) (pc := 62) dX6_takeOneMore_62 rfl ⟨rfl, rfl, rfl, by simp [om_I, c_39], rfl, rfl⟩
      · refine q_aload_n (pc := 42) dX6_takeOneMore_42 rfl rfl ?_
        refine q_getP (pc := 43) dX6_takeOneMore_43 fX6_12 (Portion_sh hp) ⟨by decide, rfl⟩ (Portion_lt hp) (Portion_p_blend hp) ?_
        refine q_getP (pc := 46) dX6_takeOneMore_46 fX6_26 (Blend_sh (Portion_s_blend hp)) ⟨by decide, rfl⟩ (Blend_lt (Portion_s_blend hp)) (Blend_p_parts (Portion_s_blend hp)) ?_
        refine q_iload_n (pc := 49) dX6_takeOneMore_49 rfl rfl ?_
        refine q_dup2 (pc := 50) dX6_takeOneMore_50 rfl rfl ?_
        refine q_iald (pc := 51) dX6_takeOneMore_51 (oA_sh (Blend_s_parts (Portion_s_blend hp))) (oA_lt (Blend_s_parts (Portion_s_blend hp))) rfl (Nat.lt_of_le_of_lt (bq_am_le _ 15) (by decide)) ?_
        refine q_iconst (pc := 52) (v := nI 1) dX6_takeOneMore_52 (by decide) ?_
        refine q_iadd (pc := 53) dX6_takeOneMore_53 ?_
        refine q_iast (pc := 54) dX6_takeOneMore_54 (oA_sh (Blend_s_parts (Portion_s_blend hp))) (oA_lt (Blend_s_parts (Portion_s_blend hp))) rfl (Nat.lt_of_le_of_lt (bq_am_le _ 15) (by decide)) ?_
        refine q_aload_n (pc := 55) dX6_takeOneMore_55 rfl rfl ?_
        refine q_getP (pc := 56) dX6_takeOneMore_56 fX6_18 (Portion_sh hp) ⟨by decide, rfl⟩ (Portion_lt hp) (Portion_p_remainders hp) ?_
        refine q_iload_n (pc := 59) dX6_takeOneMore_59 rfl rfl ?_
        refine q_iconst (pc := 60) (v := nI 0) dX6_takeOneMore_60 (by decide) ?_
        refine q_iast (pc := 61) dX6_takeOneMore_61 (oA_sh (Portion_s_remainders hp)) (oA_lt (Portion_s_remainders hp)) rfl (Nat.lt_of_le_of_lt (bq_am_le _ 15) (by decide)) ?_
        exact q_vret (st := []) (pc := 62) dX6_takeOneMore_62 rfl ⟨rfl, rfl, rfl, by simp [om_I, c_39], rfl, rfl⟩
    · intro i hi ih
      refine q_iload_n (pc := 4) dX6_takeOneMore_4 rfl rfl ?_
      refine q_bipush (pc := 5) (v := nI 16) dX6_takeOneMore_5 (by decide) ?_
      refine q_icmp_ge (pc := 7) 33 dX6_takeOneMore_7 (by decide) (fun c_7 => absurd c_7 (nI_ge hi (by decide))) (fun c_7 => ?_)
      refine q_aload_n (pc := 10) dX6_takeOneMore_10 rfl rfl ?_
      refine q_getP (pc := 11) dX6_takeOneMore_11 fX6_18 (Portion_sh hp) ⟨by decide, rfl⟩ (Portion_lt hp) (Portion_p_remainders hp) ?_
      refine q_iload_n (pc := 14) dX6_takeOneMore_14 rfl rfl ?_
      refine q_iald (pc := 15) dX6_takeOneMore_15 (oA_sh (Portion_s_remainders hp)) (oA_lt (Portion_s_remainders hp)) rfl hi ?_
      refine q_aload_n (pc := 16) dX6_takeOneMore_16 rfl rfl ?_
      refine q_getP (pc := 17) dX6_takeOneMore_17 fX6_18 (Portion_sh hp) ⟨by decide, rfl⟩ (Portion_lt hp) (Portion_p_remainders hp) ?_
      refine q_iload_n (pc := 20) dX6_takeOneMore_20 rfl rfl ?_
      refine q_iald (pc := 21) dX6_takeOneMore_21 (oA_sh (Portion_s_remainders hp)) (oA_lt (Portion_s_remainders hp)) rfl (Nat.lt_of_le_of_lt (bq_am_le2 _ i) hi) ?_
      refine q_icmp_le (pc := 22) 27 dX6_takeOneMore_22 (by decide) (fun c_22 => ?_) (fun c_22 => ?_)
      · refine q_iinc (pc := 27) (v := nI (i + 1)) dX6_takeOneMore_27 rfl (bq_inc _) (Nat.le_of_ble_eq_true rfl) rfl ?_
        show bq_W _ _ _ _ _ 30 [_, _, _] _ _ _ _ _ _ _
        refine q_goto (pc := 30) 4 dX6_takeOneMore_30 (by decide) ?_
        rw [show bq_am (I (p + 3)) (i + 1) = _ from if_pos c_22] at ih
        exact ih
      · refine q_iload_n (pc := 25) dX6_takeOneMore_25 rfl rfl ?_
        refine q_istore_n (pc := 26) dX6_takeOneMore_26 rfl (Nat.le_of_ble_eq_true rfl) rfl ?_
        show bq_W _ _ _ _ _ 27 [_, _, _] _ _ _ _ _ _ _
        refine q_iinc (pc := 27) (v := nI (i + 1)) dX6_takeOneMore_27 rfl (bq_inc _) (Nat.le_of_ble_eq_true rfl) rfl ?_
        show bq_W _ _ _ _ _ 30 [_, _, _] _ _ _ _ _ _ _
        refine q_goto (pc := 30) 4 dX6_takeOneMore_30 (by decide) ?_
        rw [show bq_am (I (p + 3)) (i + 1) = _ from if_neg c_22] at ih
        exact ih
  refine q_iconst (pc := 0) (v := nI 0) dX6_takeOneMore_0 (by decide) ?_
  refine q_istore_n (pc := 1) dX6_takeOneMore_1 rfl (Nat.le_of_ble_eq_true rfl) rfl ?_
  show bq_W _ _ _ _ _ 2 [_, _, _] _ _ _ _ _ _ _
  refine q_iconst (pc := 2) (v := nI 1) dX6_takeOneMore_2 (by decide) ?_
  refine q_istore_n (pc := 3) dX6_takeOneMore_3 rfl (Nat.le_of_ble_eq_true rfl) rfl ?_
  show bq_W _ _ _ _ _ 4 [_, _, _] _ _ _ _ _ _ _
  exact (bq_am_1 (I (p + 3))) ▸ lp 1 (by decide)
set_option maxHeartbeats 400000 in
set_option maxRecDepth 20000 in
theorem c_X6_take {S : BqH} {n : Nat} {I : BqI} {L : BqL} {P : BqP} {p w k : Nat} {x : Int32} (hp : oPortion S n P p) (hw : oBlend S n P w) (hm : tm1 I p w x (bq_sum (I (w + 1)) 16) 16 = nI k) (hk : k < 2 ^ 31) : bq_Sp mX6_take 2 34 0 0 [.ref p, .ref w, .int x] S n I L P (bq_F (none) S n (tom (tl1 I p w x (bq_sum (I (w + 1)) 16) 16) p k) L P) := by
  refine q_entry (vs := [some (.ref p), some (.ref w), some (.int x), none, none, none, none]) (by decide +kernel) (by simp) (Nat.le_of_ble_eq_true rfl) rfl ?_
  have l2 : ∀ (c : Nat) (J : BqI) (v5 v6 : Option Value), c < 2 ^ 31 → tom J p c = tom (tl1 I p w x (bq_sum (I (w + 1)) 16) 16) p k → bq_W mX6_take 2 34 0 0 91 [some (.ref p), some (.ref w), some (.int x), some (.int (bq_sum (I (w + 1)) 16)), some (.int (nI c)), v5, v6] [] S n J L P (bq_F none S n (tom (tl1 I p w x (bq_sum (I (w + 1)) 16) 16) p k) L P) := by
    intro c
    induction c with
    | zero =>
      intro J v5 v6 hk2 hJ
      refine q_iload (pc := 91) dX6_take_91 rfl ?_
      refine q_if_le (pc := 93) 106 dX6_take_93 (by decide) (fun c_93 => ?_) (fun c_93 => absurd (by decide) c_93)
      exact q_vret (st := []) (pc := 106) dX6_take_106 rfl ⟨rfl, rfl, rfl, hJ, rfl, rfl⟩
    | succ c ihc =>
      intro J v5 v6 hk2 hJ
      refine q_iload (pc := 91) dX6_take_91 rfl ?_
      refine q_if_le (pc := 93) 106 dX6_take_93 (by decide) (fun c_93 => absurd c_93 (nI_nle (Nat.succ_pos c) hk2)) (fun c_93 => ?_)
      refine q_aload_n (pc := 96) dX6_take_96 rfl rfl ?_
      refine q_callVF (pc := 97) dX6_take_97 kX6_29 (c_X6_takeOneMore hp) (Portion_sh hp) rfl (Portion_lt hp) ⟨Nat.le_of_ble_eq_true rfl, Nat.le_of_ble_eq_true rfl⟩ rfl rfl (Nat.le_of_ble_eq_true rfl) ?_
      show bq_W _ _ _ _ _ 100 _ [] _ _ _ _ _ _
      refine q_iinc (pc := 100) dX6_take_100 rfl rfl (Nat.le_of_ble_eq_true rfl) rfl ?_
      show bq_W _ _ _ _ _ 103 [_, _, _, _, _, _, _] _ _ _ _ _ _ _
      refine q_goto (pc := 103) 91 dX6_take_103 (by decide) ?_
      rw [show nI (c + 1) + Int32.ofInt (-1) = nI c from pk_m1 c]
      exact ihc _ _ _ (by omega) hJ
  have lp : ∀ i, i ≤ 16 → ∀ v6 : Option Value, bq_W mX6_take 2 34 0 0 11 [some (.ref p), some (.ref w), some (.int x), some (.int (bq_sum (I (w + 1)) 16)), some (.int (tm1 I p w x (bq_sum (I (w + 1)) 16) i)), some (.int (nI i)), v6] [] S n (tl1 I p w x (bq_sum (I (w + 1)) 16) i) L P (bq_F (none) S n (tom (tl1 I p w x (bq_sum (I (w + 1)) 16) 16) p k) L P) := by
    refine bq_down (A := fun i => ∀ v6 : Option Value, bq_W mX6_take 2 34 0 0 11 [some (.ref p), some (.ref w), some (.int x), some (.int (bq_sum (I (w + 1)) 16)), some (.int (tm1 I p w x (bq_sum (I (w + 1)) 16) i)), some (.int (nI i)), v6] [] S n (tl1 I p w x (bq_sum (I (w + 1)) 16) i) L P (bq_F (none) S n (tom (tl1 I p w x (bq_sum (I (w + 1)) 16) 16) p k) L P)) 16 ?_ ?_
    · intro v6
      refine q_iload (pc := 11) dX6_take_11 rfl ?_
      refine q_bipush (pc := 13) (v := nI 16) dX6_take_13 (by decide) ?_
      refine q_icmp_ge (pc := 15) 91 dX6_take_15 (by decide) (fun c_15 => ?_) (fun c_15 => absurd (by decide) c_15)
      rw [hm]
      exact l2 k _ _ _ hk rfl
    · intro i hi ih v6
      refine q_iload (pc := 11) dX6_take_11 rfl ?_
      refine q_bipush (pc := 13) (v := nI 16) dX6_take_13 (by decide) ?_
      refine q_icmp_ge (pc := 15) 91 dX6_take_15 (by decide) (fun c_15 => absurd c_15 (nI_ge hi (by decide))) (fun c_15 => ?_)
      refine q_aload_n (pc := 18) dX6_take_18 rfl rfl ?_
      refine q_getP (pc := 19) dX6_take_19 fX6_26 (Blend_sh hw) ⟨by decide, rfl⟩ (Blend_lt hw) (Blend_p_parts hw) ?_
      refine q_iload (pc := 22) dX6_take_22 rfl ?_
      refine q_iald (pc := 24) dX6_take_24 (oA_sh (Blend_s_parts hw)) (oA_lt (Blend_s_parts hw)) rfl (by omega) ?_
      refine q_iload_n (pc := 25) dX6_take_25 rfl rfl ?_
      refine q_imul (pc := 26) dX6_take_26 ?_
      refine q_istore (pc := 27) dX6_take_27 (Nat.le_of_ble_eq_true rfl) rfl ?_
      show bq_W _ _ _ _ _ 29 [_, _, _, _, _, _, _] _ _ _ _ _ _ _
      refine q_aload_n (pc := 29) dX6_take_29 rfl rfl ?_
      refine q_getP (pc := 30) dX6_take_30 fX6_12 (Portion_sh hp) ⟨by decide, rfl⟩ (Portion_lt hp) (Portion_p_blend hp) ?_
      refine q_getP (pc := 33) dX6_take_33 fX6_26 (Blend_sh (Portion_s_blend hp)) ⟨by decide, rfl⟩ (Blend_lt (Portion_s_blend hp)) (Blend_p_parts (Portion_s_blend hp)) ?_
      refine q_iload (pc := 36) dX6_take_36 rfl ?_
      refine q_iload_n (pc := 38) dX6_take_38 rfl rfl ?_
      refine q_if_le (pc := 39) 49 dX6_take_39 (by decide) (fun c_39 => ?_) (fun c_39 => ?_)
      · refine q_iconst (pc := 49) (v := nI 0) dX6_take_49 (by decide) ?_
        refine q_iast (pc := 50) dX6_take_50 (oA_sh (Blend_s_parts (Portion_s_blend hp))) (oA_lt (Blend_s_parts (Portion_s_blend hp))) rfl (by omega) ?_
        refine q_aload_n (pc := 51) dX6_take_51 rfl rfl ?_
        refine q_getP (pc := 52) dX6_take_52 fX6_18 (Portion_sh hp) ⟨by decide, rfl⟩ (Portion_lt hp) (Portion_p_remainders hp) ?_
        refine q_iload (pc := 55) dX6_take_55 rfl ?_
        refine q_iload_n (pc := 57) dX6_take_57 rfl rfl ?_
        refine q_if_le (pc := 58) 68 dX6_take_58 (by decide) (fun c_58 => ?_) (fun c_58 => absurd c_39 c_58)
        refine q_iconst (pc := 68) (v := nI 0) dX6_take_68 (by decide) ?_
        refine q_iast (pc := 69) dX6_take_69 (oA_sh (Portion_s_remainders hp)) (oA_lt (Portion_s_remainders hp)) rfl (by omega) ?_
        refine q_iload (pc := 70) dX6_take_70 rfl ?_
        refine q_aload_n (pc := 72) dX6_take_72 rfl rfl ?_
        refine q_getP (pc := 73) dX6_take_73 fX6_12 (Portion_sh hp) ⟨by decide, rfl⟩ (Portion_lt hp) (Portion_p_blend hp) ?_
        refine q_getP (pc := 76) dX6_take_76 fX6_26 (Blend_sh (Portion_s_blend hp)) ⟨by decide, rfl⟩ (Blend_lt (Portion_s_blend hp)) (Blend_p_parts (Portion_s_blend hp)) ?_
        refine q_iload (pc := 79) dX6_take_79 rfl ?_
        refine q_iald (pc := 81) dX6_take_81 (oA_sh (Blend_s_parts (Portion_s_blend hp))) (oA_lt (Blend_s_parts (Portion_s_blend hp))) rfl (by omega) ?_
        refine q_isub (pc := 82) dX6_take_82 ?_
        refine q_istore (pc := 83) dX6_take_83 (Nat.le_of_ble_eq_true rfl) rfl ?_
        show bq_W _ _ _ _ _ 85 [_, _, _, _, _, _, _] _ _ _ _ _ _ _
        refine q_iinc (pc := 85) (v := nI (i + 1)) dX6_take_85 rfl (bq_inc _) (Nat.le_of_ble_eq_true rfl) rfl ?_
        show bq_W _ _ _ _ _ 88 [_, _, _, _, _, _, _] _ _ _ _ _ _ _
        refine q_goto (pc := 88) 11 dX6_take_88 (by decide) ?_
        rw [tm1_s, tl1_p c_39] at ih
        exact ih _
      · refine q_iload (pc := 42) dX6_take_42 rfl ?_
        refine q_iload_n (pc := 44) dX6_take_44 rfl rfl ?_
        refine q_idiv (pc := 45) dX6_take_45 (bq_pos0 c_39) ?_
        refine q_goto (pc := 46) 50 dX6_take_46 (by decide) ?_
        refine q_iast (pc := 50) dX6_take_50 (oA_sh (Blend_s_parts (Portion_s_blend hp))) (oA_lt (Blend_s_parts (Portion_s_blend hp))) rfl (by omega) ?_
        refine q_aload_n (pc := 51) dX6_take_51 rfl rfl ?_
        refine q_getP (pc := 52) dX6_take_52 fX6_18 (Portion_sh hp) ⟨by decide, rfl⟩ (Portion_lt hp) (Portion_p_remainders hp) ?_
        refine q_iload (pc := 55) dX6_take_55 rfl ?_
        refine q_iload_n (pc := 57) dX6_take_57 rfl rfl ?_
        refine q_if_le (pc := 58) 68 dX6_take_58 (by decide) (fun c_58 => absurd c_58 c_39) (fun c_58 => ?_)
        refine q_iload (pc := 61) dX6_take_61 rfl ?_
        refine q_iload_n (pc := 63) dX6_take_63 rfl rfl ?_
        refine q_irem (pc := 64) dX6_take_64 (bq_pos0 c_39) ?_
        refine q_goto (pc := 65) 69 dX6_take_65 (by decide) ?_
        refine q_iast (pc := 69) dX6_take_69 (oA_sh (Portion_s_remainders hp)) (oA_lt (Portion_s_remainders hp)) rfl (by omega) ?_
        refine q_iload (pc := 70) dX6_take_70 rfl ?_
        refine q_aload_n (pc := 72) dX6_take_72 rfl rfl ?_
        refine q_getP (pc := 73) dX6_take_73 fX6_12 (Portion_sh hp) ⟨by decide, rfl⟩ (Portion_lt hp) (Portion_p_blend hp) ?_
        refine q_getP (pc := 76) dX6_take_76 fX6_26 (Blend_sh (Portion_s_blend hp)) ⟨by decide, rfl⟩ (Blend_lt (Portion_s_blend hp)) (Blend_p_parts (Portion_s_blend hp)) ?_
        refine q_iload (pc := 79) dX6_take_79 rfl ?_
        refine q_iald (pc := 81) dX6_take_81 (oA_sh (Blend_s_parts (Portion_s_blend hp))) (oA_lt (Blend_s_parts (Portion_s_blend hp))) rfl (by omega) ?_
        refine q_isub (pc := 82) dX6_take_82 ?_
        refine q_istore (pc := 83) dX6_take_83 (Nat.le_of_ble_eq_true rfl) rfl ?_
        show bq_W _ _ _ _ _ 85 [_, _, _, _, _, _, _] _ _ _ _ _ _ _
        refine q_iinc (pc := 85) (v := nI (i + 1)) dX6_take_85 rfl (bq_inc _) (Nat.le_of_ble_eq_true rfl) rfl ?_
        show bq_W _ _ _ _ _ 88 [_, _, _, _, _, _, _] _ _ _ _ _ _ _
        refine q_goto (pc := 88) 11 dX6_take_88 (by decide) ?_
        rw [tm1_s, tl1_n c_39] at ih
        exact ih _
  refine q_aload_n (pc := 0) dX6_take_0 rfl rfl ?_
  refine q_callVF (pc := 1) dX6_take_1 kX6_22 (c_X0_total hw) (Blend_sh hw) rfl (Blend_lt hw) ⟨Nat.le_of_ble_eq_true rfl, Nat.le_of_ble_eq_true rfl⟩ rfl rfl (Nat.le_of_ble_eq_true rfl) ?_
  show bq_W _ _ _ _ _ 4 _ [_] _ _ _ _ _ _
  refine q_istore_n (pc := 4) dX6_take_4 rfl (Nat.le_of_ble_eq_true rfl) rfl ?_
  show bq_W _ _ _ _ _ 5 [_, _, _, _, _, _, _] _ _ _ _ _ _ _
  refine q_iload_n (pc := 5) dX6_take_5 rfl rfl ?_
  refine q_istore (pc := 6) dX6_take_6 (Nat.le_of_ble_eq_true rfl) rfl ?_
  show bq_W _ _ _ _ _ 8 [_, _, _, _, _, _, _] _ _ _ _ _ _ _
  refine q_iconst (pc := 8) (v := nI 0) dX6_take_8 (by decide) ?_
  refine q_istore (pc := 9) dX6_take_9 (Nat.le_of_ble_eq_true rfl) rfl ?_
  show bq_W _ _ _ _ _ 11 [_, _, _, _, _, _, _] _ _ _ _ _ _ _
  exact lp 0 (by decide) _
