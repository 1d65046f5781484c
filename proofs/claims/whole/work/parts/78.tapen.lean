/-! the model's command read, done; the run -/
theorem MT.mk0 {m l p : Nat} {I : BqI} {B : Nat → Int32} {v : Int32} {w : Bool} (hp : I m 18 = nI p) (hl : I m 9 = nI l) (hb : I (m + 5) = B) (hl60 : l ≤ 60) (hpl : p ≤ l) (hv : v = (if w = true then nI 1 else nI 0)) : MT m I (bq_u I m 19 v) B l (p, w) :=
  ⟨(bq_u_no (by omega)).trans hp, (bq_u_at _ _ _ _).trans hv, (bq_u_no (by omega)).trans hl, (bq_u_ne (by omega)).trans hb, hpl, hl60, fun a q1 _ => bq_u_ne q1, fun k _ q2 => bq_u_no (fun z => q2 z.2)⟩
theorem MT.te {m l k : Nat} {I0 I J : BqI} {B : Nat → Int32} {s : BqT} {v : Int32} (T : MT m I0 I B l s) (e : J = bq_u I (m + 13) k v) : MT m I0 J B l s := by
  subst e
  exact T.t
theorem Ft {m k : Nat} {I J : BqI} {F : Nat → Int32} {v : Int32} (G : I (m + 13) = F) (e : J = bq_u I (m + 13) k v) : J (m + 13) = bq_r F k v := by
  rw [e, bq_u_r, bq_r_self, G]
section
variable {R : Nat → Int32} {t : Nat} {a b c d : Int32}
theorem td_2 : bq_r (bq_r R t a) (t + 1) b t = a ∧ bq_r (bq_r R t a) (t + 1) b (t + 1) = b := by
  refine ⟨?_, bq_r_self⟩
  rw [bq_r_ne (by omega), bq_r_self]
theorem td_3 : bq_r (bq_r (bq_r R t a) (t + 1) b) (t + 2) c t = a ∧ bq_r (bq_r (bq_r R t a) (t + 1) b) (t + 2) c (t + 1) = b ∧ bq_r (bq_r (bq_r R t a) (t + 1) b) (t + 2) c (t + 2) = c := by
  refine ⟨?_, ?_, bq_r_self⟩
  · rw [bq_r_ne (by omega), bq_r_ne (by omega), bq_r_self]
  · rw [bq_r_ne (by omega), bq_r_self]
theorem td_4 : bq_r (bq_r (bq_r (bq_r R t a) (t + 1) b) (t + 2) c) (t + 3) d t = a ∧ bq_r (bq_r (bq_r (bq_r R t a) (t + 1) b) (t + 2) c) (t + 3) d (t + 1) = b ∧ bq_r (bq_r (bq_r (bq_r R t a) (t + 1) b) (t + 2) c) (t + 3) d (t + 2) = c ∧ bq_r (bq_r (bq_r (bq_r R t a) (t + 1) b) (t + 2) c) (t + 3) d (t + 3) = d := by
  refine ⟨?_, ?_, ?_, bq_r_self⟩
  · rw [bq_r_ne (by omega), bq_r_ne (by omega), bq_r_ne (by omega), bq_r_self]
  · rw [bq_r_ne (by omega), bq_r_ne (by omega), bq_r_self]
  · rw [bq_r_ne (by omega), bq_r_self]
end
theorem Cn_99 {F R : Nat → Int32} {t : Nat} {a x y : Int32} (e : F = bq_r (bq_r R t (nI 99)) (t + 1) a) : Cn F t (nI 99, a, x, y) := fun g => by
  subst e
  rw [td_2.1, td_2.2, wm_99]
  exact wd_99.symm
theorem Cn_100 {F R : Nat → Int32} {t : Nat} {a x y : Int32} (e : F = bq_r (bq_r R t (nI 100)) (t + 1) a) : Cn F t (nI 100, x, y, a) := fun g => by
  subst e
  rw [td_2.1, td_2.2, wm_100]
  exact wd_100.symm
theorem Cn_102 {F R : Nat → Int32} {t : Nat} {a b x : Int32} (e : F = bq_r (bq_r (bq_r R t (nI 102)) (t + 1) a) (t + 2) b) : Cn F t (nI 102, a, x, b) := fun g => by
  subst e
  rw [td_3.1, td_3.2.1, td_3.2.2, wm_102]
  exact wd_102.symm
theorem Cn_108 {F R : Nat → Int32} {t : Nat} {a b c : Int32} (e : F = bq_r (bq_r (bq_r (bq_r R t (nI 108)) (t + 1) a) (t + 2) b) (t + 3) c) : Cn F t (nI 108, a, c, b) := fun g => by
  subst e
  rw [td_4.1, td_4.2.1, td_4.2.2.1, td_4.2.2.2, wm_108]
  exact wd_108.symm
theorem Cn_116 {F R : Nat → Int32} {t : Nat} {a b c : Int32} (e : F = bq_r (bq_r (bq_r (bq_r R t (nI 116)) (t + 1) a) (t + 2) b) (t + 3) c) : Cn F t (nI 116, a, b, c) := fun g => by
  subst e
  rw [td_4.1, td_4.2.1, td_4.2.2.1, td_4.2.2.2, wm_116]
  exact wd_116.symm
theorem Cn.fr {F F' : Nat → Int32} {t : Nat} {k : BqC} (h : Cn F t k) (e : ∀ j, t ≤ j → j < t + 4 → F' j = F j) : Cn F' t k := fun g => by
  rw [e t (by omega) (by omega), e (t + 1) (by omega) (by omega), e (t + 2) (by omega) (by omega), e (t + 3) (by omega) (by omega)]
  exact h g
set_option maxHeartbeats 8200000 in
set_option maxRecDepth 20000 in
theorem c_rcmd {S : BqH} {n : Nat} {I : BqI} {L : BqL} {P : BqP} {m p t : Nat} {B : Nat → Int32} {l : Nat} (hm : oModel S n P m) (hp : I m 18 = nI p) (hl : I m 9 = nI l) (hb : I (m + 5) = B) (hl60 : l ≤ 60) (hpl : p ≤ l) (ht : t + 3 < 240) : bq_Sp mX12_readsCommand 3 57 0 0 [.ref m, .int (nI t)] S n I L P (qTc m I S n L P B l t (pC B l p)) := by
  refine q_entry (vs := [some (.ref m), some (.int (nI t)), none]) (by decide +kernel) (by simp) (Nat.le_of_ble_eq_true rfl) rfl ?_
  refine q_aload_n (pc := 0) dX12_readsCommand_0 rfl rfl ?_
  refine q_callVF (pc := 1) dX12_readsCommand_1 kX12_184 (c_X12_here hm hp hl hb hl60 hpl) (Model_sh hm) rfl (Model_lt hm) ⟨Nat.le_of_ble_eq_true rfl, Nat.le_of_ble_eq_true rfl⟩ rfl rfl (Nat.le_of_ble_eq_true rfl) ?_
  show bq_W _ _ _ _ _ 4 _ [_] _ _ _ _ _ _
  refine q_istore_n (pc := 4) dX12_readsCommand_4 rfl (Nat.le_of_ble_eq_true rfl) rfl ?_
  show bq_W _ _ _ _ _ 5 [_, _, _] _ _ _ _ _ _ _
  refine q_aload_n (pc := 5) dX12_readsCommand_5 rfl rfl ?_
  refine q_iload_n (pc := 6) dX12_readsCommand_6 rfl rfl ?_
  refine q_bipush (pc := 7) (v := nI 116) dX12_readsCommand_7 (by decide) ?_
  refine q_icmp_eq (pc := 9) 40 dX12_readsCommand_9 (by decide) (fun c_9 => ?_) (fun c_9 => ?_)
  · have hlt := hr_lt (by decide) c_9
    rw [show pC B l p = pc_t B l (p + 1, false) from by unfold pC; rw [c_9, if_neg (by decide), if_neg (by decide), if_neg (by decide), if_neg (by decide), if_pos rfl]]
    rw [c_9]
    refine q_iconst (pc := 40) (v := nI 0) dX12_readsCommand_40 (by decide) ?_
    refine q_putZ (pc := 41) dX12_readsCommand_41 (pX12_181 _) (Model_sh hm) ⟨by decide, rfl⟩ (by decide) (Model_lt hm) ?_
    refine q_aload_n (pc := 44) dX12_readsCommand_44 rfl rfl ?_
    refine q_getI (pc := 45) dX12_readsCommand_45 fX12_181 (Model_sh hm) ⟨by decide, rfl⟩ (Model_lt hm) ?_
    rw [bq_u_at]
    refine q_if_eq (pc := 48) 52 dX12_readsCommand_48 (by decide) (fun c_48 => ?_) (fun c_48 => absurd rfl c_48)
    refine q_aload_n (pc := 52) dX12_readsCommand_52 rfl rfl ?_
    refine q_dup (pc := 53) dX12_readsCommand_53 rfl ?_
    refine q_getI (pc := 54) dX12_readsCommand_54 fX12_178 (Model_sh hm) ⟨by decide, rfl⟩ (Model_lt hm) ?_
    rw [bq_u_no (by omega), hp]
    refine q_iconst (pc := 57) (v := nI 1) dX12_readsCommand_57 (by decide) ?_
    refine q_iaddN (pc := 58) dX12_readsCommand_58 ?_
    refine q_putI (pc := 59) dX12_readsCommand_59 (pX12_178 _) (Model_sh hm) ⟨by decide, rfl⟩ (Model_lt hm) ?_
    refine q_aload_n (pc := 62) dX12_readsCommand_62 rfl rfl ?_
    refine q_getP (pc := 63) dX12_readsCommand_63 fX12_47 (Model_sh hm) ⟨by decide, rfl⟩ (Model_lt hm) (Model_p_told hm) ?_
    refine q_iload_n (pc := 66) dX12_readsCommand_66 rfl rfl ?_
    refine q_iload_n (pc := 67) dX12_readsCommand_67 rfl rfl ?_
    refine q_iast (pc := 68) dX12_readsCommand_68 (oA_sh (Model_s_told hm)) (oA_lt (Model_s_told hm)) rfl (by omega) ?_
    refine q_nameI (fun J0 e0 => ?_)
    have T0 : MT m I J0 B l (p + 1, false) := by rw [e0]; exact ((MT.mk0 (w := false) hp hl hb hl60 hpl rfl).p (q := p + 1) hlt).t
    have F0 : J0 (m + 13) = (bq_r (I (m + 13)) t (nI 116)) := by rw [e0, bq_u_r, bq_r_self, bq_u_ne (show m + 13 ≠ m by omega), bq_u_ne (show m + 13 ≠ m by omega)]
    refine q_aload_n (pc := 69) dX12_readsCommand_69 rfl rfl ?_
    refine q_getP (pc := 70) dX12_readsCommand_70 fX12_47 (Model_sh hm) ⟨by decide, rfl⟩ (Model_lt hm) (Model_p_told hm) ?_
    refine q_iload_n (pc := 73) dX12_readsCommand_73 rfl rfl ?_
    refine q_iconst (pc := 74) (v := nI 1) dX12_readsCommand_74 (by decide) ?_
    refine q_iaddN (pc := 75) dX12_readsCommand_75 ?_
    refine q_aload_n (pc := 76) dX12_readsCommand_76 rfl rfl ?_
    refine q_iload_n (pc := 77) dX12_readsCommand_77 rfl rfl ?_
    refine q_bipush (pc := 78) (v := nI 100) dX12_readsCommand_78 (by decide) ?_
    refine q_icmp_ne (pc := 80) 87 dX12_readsCommand_80 (by decide) (fun c_80 => ?_) (fun c_80 => ((absurd c_80 (by decide) : False)).elim)
    refine q_iconst (pc := 87) (v := nI 1) dX12_readsCommand_87 (by decide) ?_
    refine q_callV (pc := 88) dX12_readsCommand_88 kX12_187 (c_rdig hm T0 (K := 1) (by decide)) (Model_sh hm) rfl (Model_lt hm) ⟨Nat.le_of_ble_eq_true rfl, Nat.le_of_ble_eq_true rfl⟩ rfl rfl (Nat.le_of_ble_eq_true rfl) ?_
    rintro _ S1 n1 I1 L1 P1 ⟨rfl, eS1, en1, eL1, eP1, T1, G1⟩
    subst S1 n1 L1 P1
    show bq_W _ _ _ _ _ 91 _ [_, _, _] _ _ _ _ _ _
    rw [pM_1] at T1
    rw [pM_1]
    refine q_iast (pc := 91) dX12_readsCommand_91 (oA_sh (Model_s_told hm)) (oA_lt (Model_s_told hm)) rfl (by omega) ?_
    refine q_nameI (fun J1 e1 => ?_)
    have T1x := T1.te e1
    have F1 := Ft (G1.trans F0) e1
    refine q_iload_n (pc := 92) dX12_readsCommand_92 rfl rfl ?_
    refine q_bipush (pc := 93) (v := nI 116) dX12_readsCommand_93 (by decide) ?_
    refine q_icmp_ne (pc := 95) 139 dX12_readsCommand_95 (by decide) (fun c_95 => absurd c_95 (by decide)) (fun c_95 => ?_)
    refine q_aload_n (pc := 98) dX12_readsCommand_98 rfl rfl ?_
    refine q_bipush (pc := 99) (v := nI 62) dX12_readsCommand_99 (by decide) ?_
    refine q_callV (pc := 101) dX12_readsCommand_101 kX12_190 (c_reads hm T1x (c := 62) (by decide)) (Model_sh hm) rfl (Model_lt hm) ⟨Nat.le_of_ble_eq_true rfl, Nat.le_of_ble_eq_true rfl⟩ rfl rfl (Nat.le_of_ble_eq_true rfl) ?_
    rintro _ S2 n2 I2 L2 P2 ⟨rfl, eS2, en2, eL2, eP2, T2, G2⟩
    subst S2 n2 L2 P2
    show bq_W _ _ _ _ _ 104 _ [] _ _ _ _ _ _
    refine q_aload_n (pc := 104) dX12_readsCommand_104 rfl rfl ?_
    refine q_getP (pc := 105) dX12_readsCommand_105 fX12_47 (Model_sh hm) ⟨by decide, rfl⟩ (Model_lt hm) (Model_p_told hm) ?_
    refine q_iload_n (pc := 108) dX12_readsCommand_108 rfl rfl ?_
    refine q_iconst (pc := 109) (v := nI 2) dX12_readsCommand_109 (by decide) ?_
    refine q_iaddN (pc := 110) dX12_readsCommand_110 ?_
    refine q_aload_n (pc := 111) dX12_readsCommand_111 rfl rfl ?_
    refine q_iconst (pc := 112) (v := nI 1) dX12_readsCommand_112 (by decide) ?_
    refine q_callV (pc := 113) dX12_readsCommand_113 kX12_187 (c_rdig hm T2 (K := 1) (by decide)) (Model_sh hm) rfl (Model_lt hm) ⟨Nat.le_of_ble_eq_true rfl, Nat.le_of_ble_eq_true rfl⟩ rfl rfl (Nat.le_of_ble_eq_true rfl) ?_
    rintro _ S3 n3 I3 L3 P3 ⟨rfl, eS3, en3, eL3, eP3, T3, G3⟩
    subst S3 n3 L3 P3
    show bq_W _ _ _ _ _ 116 _ [_, _, _] _ _ _ _ _ _
    rw [pM_1] at T3
    rw [pM_1]
    refine q_iast (pc := 116) dX12_readsCommand_116 (oA_sh (Model_s_told hm)) (oA_lt (Model_s_told hm)) rfl (by omega) ?_
    refine q_nameI (fun J3 e3 => ?_)
    have T3x := T3.te e3
    have F3 := Ft (G3.trans (G2.trans F1)) e3
    refine q_aload_n (pc := 117) dX12_readsCommand_117 rfl rfl ?_
    refine q_bipush (pc := 118) (v := nI 58) dX12_readsCommand_118 (by decide) ?_
    refine q_callV (pc := 120) dX12_readsCommand_120 kX12_190 (c_reads hm T3x (c := 58) (by decide)) (Model_sh hm) rfl (Model_lt hm) ⟨Nat.le_of_ble_eq_true rfl, Nat.le_of_ble_eq_true rfl⟩ rfl rfl (Nat.le_of_ble_eq_true rfl) ?_
    rintro _ S4 n4 I4 L4 P4 ⟨rfl, eS4, en4, eL4, eP4, T4, G4⟩
    subst S4 n4 L4 P4
    show bq_W _ _ _ _ _ 123 _ [] _ _ _ _ _ _
    refine q_aload_n (pc := 123) dX12_readsCommand_123 rfl rfl ?_
    refine q_getP (pc := 124) dX12_readsCommand_124 fX12_47 (Model_sh hm) ⟨by decide, rfl⟩ (Model_lt hm) (Model_p_told hm) ?_
    refine q_iload_n (pc := 127) dX12_readsCommand_127 rfl rfl ?_
    refine q_iconst (pc := 128) (v := nI 3) dX12_readsCommand_128 (by decide) ?_
    refine q_iaddN (pc := 129) dX12_readsCommand_129 ?_
    refine q_aload_n (pc := 130) dX12_readsCommand_130 rfl rfl ?_
    refine q_iconst (pc := 131) (v := nI 4) dX12_readsCommand_131 (by decide) ?_
    refine q_callV (pc := 132) dX12_readsCommand_132 kX12_187 (c_rdig hm T4 (K := 4) (by decide)) (Model_sh hm) rfl (Model_lt hm) ⟨Nat.le_of_ble_eq_true rfl, Nat.le_of_ble_eq_true rfl⟩ rfl rfl (Nat.le_of_ble_eq_true rfl) ?_
    rintro _ S5 n5 I5 L5 P5 ⟨rfl, eS5, en5, eL5, eP5, T5, G5⟩
    subst S5 n5 L5 P5
    show bq_W _ _ _ _ _ 135 _ [_, _, _] _ _ _ _ _ _
    rw [pM_4] at T5
    rw [pM_4]
    refine q_iast (pc := 135) dX12_readsCommand_135 (oA_sh (Model_s_told hm)) (oA_lt (Model_s_told hm)) rfl (by omega) ?_
    refine q_nameI (fun J5 e5 => ?_)
    have T5x := T5.te e5
    have F5 := Ft (G5.trans (G4.trans F3)) e5
    refine q_goto (pc := 136) 211 dX12_readsCommand_136 (by decide) ?_
    exact q_vret (st := []) (pc := 211) dX12_readsCommand_211 rfl ⟨rfl, rfl, rfl, rfl, rfl, T5x, fun _ => Cn_116 F5, fun j hj => by rw [F5, bq_r_ne (by omega), bq_r_ne (by omega), bq_r_ne (by omega), bq_r_ne (by omega)]⟩
  · refine q_iload_n (pc := 12) dX12_readsCommand_12 rfl rfl ?_
    refine q_bipush (pc := 13) (v := nI 108) dX12_readsCommand_13 (by decide) ?_
    refine q_icmp_eq (pc := 15) 40 dX12_readsCommand_15 (by decide) (fun c_15 => ?_) (fun c_15 => ?_)
    · have hlt := hr_lt (by decide) c_15
      rw [show pC B l p = pc_l B l (p + 1, false) from by unfold pC; rw [c_15, if_neg (by decide), if_neg (by decide), if_neg (by decide), if_pos rfl]]
      rw [c_15]
      refine q_iconst (pc := 40) (v := nI 0) dX12_readsCommand_40 (by decide) ?_
      refine q_putZ (pc := 41) dX12_readsCommand_41 (pX12_181 _) (Model_sh hm) ⟨by decide, rfl⟩ (by decide) (Model_lt hm) ?_
      refine q_aload_n (pc := 44) dX12_readsCommand_44 rfl rfl ?_
      refine q_getI (pc := 45) dX12_readsCommand_45 fX12_181 (Model_sh hm) ⟨by decide, rfl⟩ (Model_lt hm) ?_
      rw [bq_u_at]
      refine q_if_eq (pc := 48) 52 dX12_readsCommand_48 (by decide) (fun c_48 => ?_) (fun c_48 => absurd rfl c_48)
      refine q_aload_n (pc := 52) dX12_readsCommand_52 rfl rfl ?_
      refine q_dup (pc := 53) dX12_readsCommand_53 rfl ?_
      refine q_getI (pc := 54) dX12_readsCommand_54 fX12_178 (Model_sh hm) ⟨by decide, rfl⟩ (Model_lt hm) ?_
      rw [bq_u_no (by omega), hp]
      refine q_iconst (pc := 57) (v := nI 1) dX12_readsCommand_57 (by decide) ?_
      refine q_iaddN (pc := 58) dX12_readsCommand_58 ?_
      refine q_putI (pc := 59) dX12_readsCommand_59 (pX12_178 _) (Model_sh hm) ⟨by decide, rfl⟩ (Model_lt hm) ?_
      refine q_aload_n (pc := 62) dX12_readsCommand_62 rfl rfl ?_
      refine q_getP (pc := 63) dX12_readsCommand_63 fX12_47 (Model_sh hm) ⟨by decide, rfl⟩ (Model_lt hm) (Model_p_told hm) ?_
      refine q_iload_n (pc := 66) dX12_readsCommand_66 rfl rfl ?_
      refine q_iload_n (pc := 67) dX12_readsCommand_67 rfl rfl ?_
      refine q_iast (pc := 68) dX12_readsCommand_68 (oA_sh (Model_s_told hm)) (oA_lt (Model_s_told hm)) rfl (by omega) ?_
      refine q_nameI (fun J0 e0 => ?_)
      have T0 : MT m I J0 B l (p + 1, false) := by rw [e0]; exact ((MT.mk0 (w := false) hp hl hb hl60 hpl rfl).p (q := p + 1) hlt).t
      have F0 : J0 (m + 13) = (bq_r (I (m + 13)) t (nI 108)) := by rw [e0, bq_u_r, bq_r_self, bq_u_ne (show m + 13 ≠ m by omega), bq_u_ne (show m + 13 ≠ m by omega)]
      refine q_aload_n (pc := 69) dX12_readsCommand_69 rfl rfl ?_
      refine q_getP (pc := 70) dX12_readsCommand_70 fX12_47 (Model_sh hm) ⟨by decide, rfl⟩ (Model_lt hm) (Model_p_told hm) ?_
      refine q_iload_n (pc := 73) dX12_readsCommand_73 rfl rfl ?_
      refine q_iconst (pc := 74) (v := nI 1) dX12_readsCommand_74 (by decide) ?_
      refine q_iaddN (pc := 75) dX12_readsCommand_75 ?_
      refine q_aload_n (pc := 76) dX12_readsCommand_76 rfl rfl ?_
      refine q_iload_n (pc := 77) dX12_readsCommand_77 rfl rfl ?_
      refine q_bipush (pc := 78) (v := nI 100) dX12_readsCommand_78 (by decide) ?_
      refine q_icmp_ne (pc := 80) 87 dX12_readsCommand_80 (by decide) (fun c_80 => ?_) (fun c_80 => ((absurd c_80 (by decide) : False)).elim)
      refine q_iconst (pc := 87) (v := nI 1) dX12_readsCommand_87 (by decide) ?_
      refine q_callV (pc := 88) dX12_readsCommand_88 kX12_187 (c_rdig hm T0 (K := 1) (by decide)) (Model_sh hm) rfl (Model_lt hm) ⟨Nat.le_of_ble_eq_true rfl, Nat.le_of_ble_eq_true rfl⟩ rfl rfl (Nat.le_of_ble_eq_true rfl) ?_
      rintro _ S1 n1 I1 L1 P1 ⟨rfl, eS1, en1, eL1, eP1, T1, G1⟩
      subst S1 n1 L1 P1
      show bq_W _ _ _ _ _ 91 _ [_, _, _] _ _ _ _ _ _
      rw [pM_1] at T1
      rw [pM_1]
      refine q_iast (pc := 91) dX12_readsCommand_91 (oA_sh (Model_s_told hm)) (oA_lt (Model_s_told hm)) rfl (by omega) ?_
      refine q_nameI (fun J1 e1 => ?_)
      have T1x := T1.te e1
      have F1 := Ft (G1.trans F0) e1
      refine q_iload_n (pc := 92) dX12_readsCommand_92 rfl rfl ?_
      refine q_bipush (pc := 93) (v := nI 116) dX12_readsCommand_93 (by decide) ?_
      refine q_icmp_ne (pc := 95) 139 dX12_readsCommand_95 (by decide) (fun c_95 => ?_) (fun c_95 => ((absurd c_95 (by decide) : False)).elim)
      refine q_iload_n (pc := 139) dX12_readsCommand_139 rfl rfl ?_
      refine q_bipush (pc := 140) (v := nI 108) dX12_readsCommand_140 (by decide) ?_
      refine q_icmp_ne (pc := 142) 186 dX12_readsCommand_142 (by decide) (fun c_142 => absurd c_142 (by decide)) (fun c_142 => ?_)
      refine q_aload_n (pc := 145) dX12_readsCommand_145 rfl rfl ?_
      refine q_bipush (pc := 146) (v := nI 58) dX12_readsCommand_146 (by decide) ?_
      refine q_callV (pc := 148) dX12_readsCommand_148 kX12_190 (c_reads hm T1x (c := 58) (by decide)) (Model_sh hm) rfl (Model_lt hm) ⟨Nat.le_of_ble_eq_true rfl, Nat.le_of_ble_eq_true rfl⟩ rfl rfl (Nat.le_of_ble_eq_true rfl) ?_
      rintro _ S2 n2 I2 L2 P2 ⟨rfl, eS2, en2, eL2, eP2, T2, G2⟩
      subst S2 n2 L2 P2
      show bq_W _ _ _ _ _ 151 _ [] _ _ _ _ _ _
      refine q_aload_n (pc := 151) dX12_readsCommand_151 rfl rfl ?_
      refine q_getP (pc := 152) dX12_readsCommand_152 fX12_47 (Model_sh hm) ⟨by decide, rfl⟩ (Model_lt hm) (Model_p_told hm) ?_
      refine q_iload_n (pc := 155) dX12_readsCommand_155 rfl rfl ?_
      refine q_iconst (pc := 156) (v := nI 2) dX12_readsCommand_156 (by decide) ?_
      refine q_iaddN (pc := 157) dX12_readsCommand_157 ?_
      refine q_aload_n (pc := 158) dX12_readsCommand_158 rfl rfl ?_
      refine q_iconst (pc := 159) (v := nI 4) dX12_readsCommand_159 (by decide) ?_
      refine q_callV (pc := 160) dX12_readsCommand_160 kX12_187 (c_rdig hm T2 (K := 4) (by decide)) (Model_sh hm) rfl (Model_lt hm) ⟨Nat.le_of_ble_eq_true rfl, Nat.le_of_ble_eq_true rfl⟩ rfl rfl (Nat.le_of_ble_eq_true rfl) ?_
      rintro _ S3 n3 I3 L3 P3 ⟨rfl, eS3, en3, eL3, eP3, T3, G3⟩
      subst S3 n3 L3 P3
      show bq_W _ _ _ _ _ 163 _ [_, _, _] _ _ _ _ _ _
      rw [pM_4] at T3
      rw [pM_4]
      refine q_iast (pc := 163) dX12_readsCommand_163 (oA_sh (Model_s_told hm)) (oA_lt (Model_s_told hm)) rfl (by omega) ?_
      refine q_nameI (fun J3 e3 => ?_)
      have T3x := T3.te e3
      have F3 := Ft (G3.trans (G2.trans F1)) e3
      refine q_aload_n (pc := 164) dX12_readsCommand_164 rfl rfl ?_
      refine q_bipush (pc := 165) (v := nI 47) dX12_readsCommand_165 (by decide) ?_
      refine q_callV (pc := 167) dX12_readsCommand_167 kX12_190 (c_reads hm T3x (c := 47) (by decide)) (Model_sh hm) rfl (Model_lt hm) ⟨Nat.le_of_ble_eq_true rfl, Nat.le_of_ble_eq_true rfl⟩ rfl rfl (Nat.le_of_ble_eq_true rfl) ?_
      rintro _ S4 n4 I4 L4 P4 ⟨rfl, eS4, en4, eL4, eP4, T4, G4⟩
      subst S4 n4 L4 P4
      show bq_W _ _ _ _ _ 170 _ [] _ _ _ _ _ _
      refine q_aload_n (pc := 170) dX12_readsCommand_170 rfl rfl ?_
      refine q_getP (pc := 171) dX12_readsCommand_171 fX12_47 (Model_sh hm) ⟨by decide, rfl⟩ (Model_lt hm) (Model_p_told hm) ?_
      refine q_iload_n (pc := 174) dX12_readsCommand_174 rfl rfl ?_
      refine q_iconst (pc := 175) (v := nI 3) dX12_readsCommand_175 (by decide) ?_
      refine q_iaddN (pc := 176) dX12_readsCommand_176 ?_
      refine q_aload_n (pc := 177) dX12_readsCommand_177 rfl rfl ?_
      refine q_iconst (pc := 178) (v := nI 1) dX12_readsCommand_178 (by decide) ?_
      refine q_callV (pc := 179) dX12_readsCommand_179 kX12_187 (c_rdig hm T4 (K := 1) (by decide)) (Model_sh hm) rfl (Model_lt hm) ⟨Nat.le_of_ble_eq_true rfl, Nat.le_of_ble_eq_true rfl⟩ rfl rfl (Nat.le_of_ble_eq_true rfl) ?_
      rintro _ S5 n5 I5 L5 P5 ⟨rfl, eS5, en5, eL5, eP5, T5, G5⟩
      subst S5 n5 L5 P5
      show bq_W _ _ _ _ _ 182 _ [_, _, _] _ _ _ _ _ _
      rw [pM_1] at T5
      rw [pM_1]
      refine q_iast (pc := 182) dX12_readsCommand_182 (oA_sh (Model_s_told hm)) (oA_lt (Model_s_told hm)) rfl (by omega) ?_
      refine q_nameI (fun J5 e5 => ?_)
      have T5x := T5.te e5
      have F5 := Ft (G5.trans (G4.trans F3)) e5
      refine q_goto (pc := 183) 211 dX12_readsCommand_183 (by decide) ?_
      exact q_vret (st := []) (pc := 211) dX12_readsCommand_211 rfl ⟨rfl, rfl, rfl, rfl, rfl, T5x, fun _ => Cn_108 F5, fun j hj => by rw [F5, bq_r_ne (by omega), bq_r_ne (by omega), bq_r_ne (by omega), bq_r_ne (by omega)]⟩
    · refine q_iload_n (pc := 18) dX12_readsCommand_18 rfl rfl ?_
      refine q_bipush (pc := 19) (v := nI 102) dX12_readsCommand_19 (by decide) ?_
      refine q_icmp_eq (pc := 21) 40 dX12_readsCommand_21 (by decide) (fun c_21 => ?_) (fun c_21 => ?_)
      · have hlt := hr_lt (by decide) c_21
        rw [show pC B l p = pc_f B l (p + 1, false) from by unfold pC; rw [c_21, if_neg (by decide), if_neg (by decide), if_pos rfl]]
        rw [c_21]
        refine q_iconst (pc := 40) (v := nI 0) dX12_readsCommand_40 (by decide) ?_
        refine q_putZ (pc := 41) dX12_readsCommand_41 (pX12_181 _) (Model_sh hm) ⟨by decide, rfl⟩ (by decide) (Model_lt hm) ?_
        refine q_aload_n (pc := 44) dX12_readsCommand_44 rfl rfl ?_
        refine q_getI (pc := 45) dX12_readsCommand_45 fX12_181 (Model_sh hm) ⟨by decide, rfl⟩ (Model_lt hm) ?_
        rw [bq_u_at]
        refine q_if_eq (pc := 48) 52 dX12_readsCommand_48 (by decide) (fun c_48 => ?_) (fun c_48 => absurd rfl c_48)
        refine q_aload_n (pc := 52) dX12_readsCommand_52 rfl rfl ?_
        refine q_dup (pc := 53) dX12_readsCommand_53 rfl ?_
        refine q_getI (pc := 54) dX12_readsCommand_54 fX12_178 (Model_sh hm) ⟨by decide, rfl⟩ (Model_lt hm) ?_
        rw [bq_u_no (by omega), hp]
        refine q_iconst (pc := 57) (v := nI 1) dX12_readsCommand_57 (by decide) ?_
        refine q_iaddN (pc := 58) dX12_readsCommand_58 ?_
        refine q_putI (pc := 59) dX12_readsCommand_59 (pX12_178 _) (Model_sh hm) ⟨by decide, rfl⟩ (Model_lt hm) ?_
        refine q_aload_n (pc := 62) dX12_readsCommand_62 rfl rfl ?_
        refine q_getP (pc := 63) dX12_readsCommand_63 fX12_47 (Model_sh hm) ⟨by decide, rfl⟩ (Model_lt hm) (Model_p_told hm) ?_
        refine q_iload_n (pc := 66) dX12_readsCommand_66 rfl rfl ?_
        refine q_iload_n (pc := 67) dX12_readsCommand_67 rfl rfl ?_
        refine q_iast (pc := 68) dX12_readsCommand_68 (oA_sh (Model_s_told hm)) (oA_lt (Model_s_told hm)) rfl (by omega) ?_
        refine q_nameI (fun J0 e0 => ?_)
        have T0 : MT m I J0 B l (p + 1, false) := by rw [e0]; exact ((MT.mk0 (w := false) hp hl hb hl60 hpl rfl).p (q := p + 1) hlt).t
        have F0 : J0 (m + 13) = (bq_r (I (m + 13)) t (nI 102)) := by rw [e0, bq_u_r, bq_r_self, bq_u_ne (show m + 13 ≠ m by omega), bq_u_ne (show m + 13 ≠ m by omega)]
        refine q_aload_n (pc := 69) dX12_readsCommand_69 rfl rfl ?_
        refine q_getP (pc := 70) dX12_readsCommand_70 fX12_47 (Model_sh hm) ⟨by decide, rfl⟩ (Model_lt hm) (Model_p_told hm) ?_
        refine q_iload_n (pc := 73) dX12_readsCommand_73 rfl rfl ?_
        refine q_iconst (pc := 74) (v := nI 1) dX12_readsCommand_74 (by decide) ?_
        refine q_iaddN (pc := 75) dX12_readsCommand_75 ?_
        refine q_aload_n (pc := 76) dX12_readsCommand_76 rfl rfl ?_
        refine q_iload_n (pc := 77) dX12_readsCommand_77 rfl rfl ?_
        refine q_bipush (pc := 78) (v := nI 100) dX12_readsCommand_78 (by decide) ?_
        refine q_icmp_ne (pc := 80) 87 dX12_readsCommand_80 (by decide) (fun c_80 => ?_) (fun c_80 => ((absurd c_80 (by decide) : False)).elim)
        refine q_iconst (pc := 87) (v := nI 1) dX12_readsCommand_87 (by decide) ?_
        refine q_callV (pc := 88) dX12_readsCommand_88 kX12_187 (c_rdig hm T0 (K := 1) (by decide)) (Model_sh hm) rfl (Model_lt hm) ⟨Nat.le_of_ble_eq_true rfl, Nat.le_of_ble_eq_true rfl⟩ rfl rfl (Nat.le_of_ble_eq_true rfl) ?_
        rintro _ S1 n1 I1 L1 P1 ⟨rfl, eS1, en1, eL1, eP1, T1, G1⟩
        subst S1 n1 L1 P1
        show bq_W _ _ _ _ _ 91 _ [_, _, _] _ _ _ _ _ _
        rw [pM_1] at T1
        rw [pM_1]
        refine q_iast (pc := 91) dX12_readsCommand_91 (oA_sh (Model_s_told hm)) (oA_lt (Model_s_told hm)) rfl (by omega) ?_
        refine q_nameI (fun J1 e1 => ?_)
        have T1x := T1.te e1
        have F1 := Ft (G1.trans F0) e1
        refine q_iload_n (pc := 92) dX12_readsCommand_92 rfl rfl ?_
        refine q_bipush (pc := 93) (v := nI 116) dX12_readsCommand_93 (by decide) ?_
        refine q_icmp_ne (pc := 95) 139 dX12_readsCommand_95 (by decide) (fun c_95 => ?_) (fun c_95 => ((absurd c_95 (by decide) : False)).elim)
        refine q_iload_n (pc := 139) dX12_readsCommand_139 rfl rfl ?_
        refine q_bipush (pc := 140) (v := nI 108) dX12_readsCommand_140 (by decide) ?_
        refine q_icmp_ne (pc := 142) 186 dX12_readsCommand_142 (by decide) (fun c_142 => ?_) (fun c_142 => ((absurd c_142 (by decide) : False)).elim)
        refine q_iload_n (pc := 186) dX12_readsCommand_186 rfl rfl ?_
        refine q_bipush (pc := 187) (v := nI 102) dX12_readsCommand_187 (by decide) ?_
        refine q_icmp_ne (pc := 189) 211 dX12_readsCommand_189 (by decide) (fun c_189 => absurd c_189 (by decide)) (fun c_189 => ?_)
        refine q_aload_n (pc := 192) dX12_readsCommand_192 rfl rfl ?_
        refine q_bipush (pc := 193) (v := nI 35) dX12_readsCommand_193 (by decide) ?_
        refine q_callV (pc := 195) dX12_readsCommand_195 kX12_190 (c_reads hm T1x (c := 35) (by decide)) (Model_sh hm) rfl (Model_lt hm) ⟨Nat.le_of_ble_eq_true rfl, Nat.le_of_ble_eq_true rfl⟩ rfl rfl (Nat.le_of_ble_eq_true rfl) ?_
        rintro _ S2 n2 I2 L2 P2 ⟨rfl, eS2, en2, eL2, eP2, T2, G2⟩
        subst S2 n2 L2 P2
        show bq_W _ _ _ _ _ 198 _ [] _ _ _ _ _ _
        refine q_aload_n (pc := 198) dX12_readsCommand_198 rfl rfl ?_
        refine q_getP (pc := 199) dX12_readsCommand_199 fX12_47 (Model_sh hm) ⟨by decide, rfl⟩ (Model_lt hm) (Model_p_told hm) ?_
        refine q_iload_n (pc := 202) dX12_readsCommand_202 rfl rfl ?_
        refine q_iconst (pc := 203) (v := nI 2) dX12_readsCommand_203 (by decide) ?_
        refine q_iaddN (pc := 204) dX12_readsCommand_204 ?_
        refine q_aload_n (pc := 205) dX12_readsCommand_205 rfl rfl ?_
        refine q_iconst (pc := 206) (v := nI 4) dX12_readsCommand_206 (by decide) ?_
        refine q_callV (pc := 207) dX12_readsCommand_207 kX12_187 (c_rdig hm T2 (K := 4) (by decide)) (Model_sh hm) rfl (Model_lt hm) ⟨Nat.le_of_ble_eq_true rfl, Nat.le_of_ble_eq_true rfl⟩ rfl rfl (Nat.le_of_ble_eq_true rfl) ?_
        rintro _ S3 n3 I3 L3 P3 ⟨rfl, eS3, en3, eL3, eP3, T3, G3⟩
        subst S3 n3 L3 P3
        show bq_W _ _ _ _ _ 210 _ [_, _, _] _ _ _ _ _ _
        rw [pM_4] at T3
        rw [pM_4]
        refine q_iast (pc := 210) dX12_readsCommand_210 (oA_sh (Model_s_told hm)) (oA_lt (Model_s_told hm)) rfl (by omega) ?_
        refine q_nameI (fun J3 e3 => ?_)
        have T3x := T3.te e3
        have F3 := Ft (G3.trans (G2.trans F1)) e3
        exact q_vret (st := []) (pc := 211) dX12_readsCommand_211 rfl ⟨rfl, rfl, rfl, rfl, rfl, T3x, fun _ => Cn_102 F3, fun j hj => by rw [F3, bq_r_ne (by omega), bq_r_ne (by omega), bq_r_ne (by omega)]⟩
      · refine q_iload_n (pc := 24) dX12_readsCommand_24 rfl rfl ?_
        refine q_bipush (pc := 25) (v := nI 99) dX12_readsCommand_25 (by decide) ?_
        refine q_icmp_eq (pc := 27) 40 dX12_readsCommand_27 (by decide) (fun c_27 => ?_) (fun c_27 => ?_)
        · have hlt := hr_lt (by decide) c_27
          rw [show pC B l p = pc_c B l (p + 1, false) from by unfold pC; rw [c_27, if_pos rfl]]
          rw [c_27]
          refine q_iconst (pc := 40) (v := nI 0) dX12_readsCommand_40 (by decide) ?_
          refine q_putZ (pc := 41) dX12_readsCommand_41 (pX12_181 _) (Model_sh hm) ⟨by decide, rfl⟩ (by decide) (Model_lt hm) ?_
          refine q_aload_n (pc := 44) dX12_readsCommand_44 rfl rfl ?_
          refine q_getI (pc := 45) dX12_readsCommand_45 fX12_181 (Model_sh hm) ⟨by decide, rfl⟩ (Model_lt hm) ?_
          rw [bq_u_at]
          refine q_if_eq (pc := 48) 52 dX12_readsCommand_48 (by decide) (fun c_48 => ?_) (fun c_48 => absurd rfl c_48)
          refine q_aload_n (pc := 52) dX12_readsCommand_52 rfl rfl ?_
          refine q_dup (pc := 53) dX12_readsCommand_53 rfl ?_
          refine q_getI (pc := 54) dX12_readsCommand_54 fX12_178 (Model_sh hm) ⟨by decide, rfl⟩ (Model_lt hm) ?_
          rw [bq_u_no (by omega), hp]
          refine q_iconst (pc := 57) (v := nI 1) dX12_readsCommand_57 (by decide) ?_
          refine q_iaddN (pc := 58) dX12_readsCommand_58 ?_
          refine q_putI (pc := 59) dX12_readsCommand_59 (pX12_178 _) (Model_sh hm) ⟨by decide, rfl⟩ (Model_lt hm) ?_
          refine q_aload_n (pc := 62) dX12_readsCommand_62 rfl rfl ?_
          refine q_getP (pc := 63) dX12_readsCommand_63 fX12_47 (Model_sh hm) ⟨by decide, rfl⟩ (Model_lt hm) (Model_p_told hm) ?_
          refine q_iload_n (pc := 66) dX12_readsCommand_66 rfl rfl ?_
          refine q_iload_n (pc := 67) dX12_readsCommand_67 rfl rfl ?_
          refine q_iast (pc := 68) dX12_readsCommand_68 (oA_sh (Model_s_told hm)) (oA_lt (Model_s_told hm)) rfl (by omega) ?_
          refine q_nameI (fun J0 e0 => ?_)
          have T0 : MT m I J0 B l (p + 1, false) := by rw [e0]; exact ((MT.mk0 (w := false) hp hl hb hl60 hpl rfl).p (q := p + 1) hlt).t
          have F0 : J0 (m + 13) = (bq_r (I (m + 13)) t (nI 99)) := by rw [e0, bq_u_r, bq_r_self, bq_u_ne (show m + 13 ≠ m by omega), bq_u_ne (show m + 13 ≠ m by omega)]
          refine q_aload_n (pc := 69) dX12_readsCommand_69 rfl rfl ?_
          refine q_getP (pc := 70) dX12_readsCommand_70 fX12_47 (Model_sh hm) ⟨by decide, rfl⟩ (Model_lt hm) (Model_p_told hm) ?_
          refine q_iload_n (pc := 73) dX12_readsCommand_73 rfl rfl ?_
          refine q_iconst (pc := 74) (v := nI 1) dX12_readsCommand_74 (by decide) ?_
          refine q_iaddN (pc := 75) dX12_readsCommand_75 ?_
          refine q_aload_n (pc := 76) dX12_readsCommand_76 rfl rfl ?_
          refine q_iload_n (pc := 77) dX12_readsCommand_77 rfl rfl ?_
          refine q_bipush (pc := 78) (v := nI 100) dX12_readsCommand_78 (by decide) ?_
          refine q_icmp_ne (pc := 80) 87 dX12_readsCommand_80 (by decide) (fun c_80 => ?_) (fun c_80 => ((absurd c_80 (by decide) : False)).elim)
          refine q_iconst (pc := 87) (v := nI 1) dX12_readsCommand_87 (by decide) ?_
          refine q_callV (pc := 88) dX12_readsCommand_88 kX12_187 (c_rdig hm T0 (K := 1) (by decide)) (Model_sh hm) rfl (Model_lt hm) ⟨Nat.le_of_ble_eq_true rfl, Nat.le_of_ble_eq_true rfl⟩ rfl rfl (Nat.le_of_ble_eq_true rfl) ?_
          rintro _ S1 n1 I1 L1 P1 ⟨rfl, eS1, en1, eL1, eP1, T1, G1⟩
          subst S1 n1 L1 P1
          show bq_W _ _ _ _ _ 91 _ [_, _, _] _ _ _ _ _ _
          rw [pM_1] at T1
          rw [pM_1]
          refine q_iast (pc := 91) dX12_readsCommand_91 (oA_sh (Model_s_told hm)) (oA_lt (Model_s_told hm)) rfl (by omega) ?_
          refine q_nameI (fun J1 e1 => ?_)
          have T1x := T1.te e1
          have F1 := Ft (G1.trans F0) e1
          refine q_iload_n (pc := 92) dX12_readsCommand_92 rfl rfl ?_
          refine q_bipush (pc := 93) (v := nI 116) dX12_readsCommand_93 (by decide) ?_
          refine q_icmp_ne (pc := 95) 139 dX12_readsCommand_95 (by decide) (fun c_95 => ?_) (fun c_95 => ((absurd c_95 (by decide) : False)).elim)
          refine q_iload_n (pc := 139) dX12_readsCommand_139 rfl rfl ?_
          refine q_bipush (pc := 140) (v := nI 108) dX12_readsCommand_140 (by decide) ?_
          refine q_icmp_ne (pc := 142) 186 dX12_readsCommand_142 (by decide) (fun c_142 => ?_) (fun c_142 => ((absurd c_142 (by decide) : False)).elim)
          refine q_iload_n (pc := 186) dX12_readsCommand_186 rfl rfl ?_
          refine q_bipush (pc := 187) (v := nI 102) dX12_readsCommand_187 (by decide) ?_
          refine q_icmp_ne (pc := 189) 211 dX12_readsCommand_189 (by decide) (fun c_189 => ?_) (fun c_189 => ((absurd c_189 (by decide) : False)).elim)
          exact q_vret (st := []) (pc := 211) dX12_readsCommand_211 rfl ⟨rfl, rfl, rfl, rfl, rfl, T1x, fun _ => Cn_99 F1, fun j hj => by rw [F1, bq_r_ne (by omega), bq_r_ne (by omega)]⟩
        · refine q_iload_n (pc := 30) dX12_readsCommand_30 rfl rfl ?_
          refine q_bipush (pc := 31) (v := nI 100) dX12_readsCommand_31 (by decide) ?_
          refine q_icmp_eq (pc := 33) 40 dX12_readsCommand_33 (by decide) (fun c_33 => ?_) (fun c_33 => ?_)
          · have hlt := hr_lt (by decide) c_33
            rw [show pC B l p = pc_d B l (p + 1, false) from by unfold pC; rw [c_33, if_neg (by decide), if_pos rfl]]
            rw [c_33]
            refine q_iconst (pc := 40) (v := nI 0) dX12_readsCommand_40 (by decide) ?_
            refine q_putZ (pc := 41) dX12_readsCommand_41 (pX12_181 _) (Model_sh hm) ⟨by decide, rfl⟩ (by decide) (Model_lt hm) ?_
            refine q_aload_n (pc := 44) dX12_readsCommand_44 rfl rfl ?_
            refine q_getI (pc := 45) dX12_readsCommand_45 fX12_181 (Model_sh hm) ⟨by decide, rfl⟩ (Model_lt hm) ?_
            rw [bq_u_at]
            refine q_if_eq (pc := 48) 52 dX12_readsCommand_48 (by decide) (fun c_48 => ?_) (fun c_48 => absurd rfl c_48)
            refine q_aload_n (pc := 52) dX12_readsCommand_52 rfl rfl ?_
            refine q_dup (pc := 53) dX12_readsCommand_53 rfl ?_
            refine q_getI (pc := 54) dX12_readsCommand_54 fX12_178 (Model_sh hm) ⟨by decide, rfl⟩ (Model_lt hm) ?_
            rw [bq_u_no (by omega), hp]
            refine q_iconst (pc := 57) (v := nI 1) dX12_readsCommand_57 (by decide) ?_
            refine q_iaddN (pc := 58) dX12_readsCommand_58 ?_
            refine q_putI (pc := 59) dX12_readsCommand_59 (pX12_178 _) (Model_sh hm) ⟨by decide, rfl⟩ (Model_lt hm) ?_
            refine q_aload_n (pc := 62) dX12_readsCommand_62 rfl rfl ?_
            refine q_getP (pc := 63) dX12_readsCommand_63 fX12_47 (Model_sh hm) ⟨by decide, rfl⟩ (Model_lt hm) (Model_p_told hm) ?_
            refine q_iload_n (pc := 66) dX12_readsCommand_66 rfl rfl ?_
            refine q_iload_n (pc := 67) dX12_readsCommand_67 rfl rfl ?_
            refine q_iast (pc := 68) dX12_readsCommand_68 (oA_sh (Model_s_told hm)) (oA_lt (Model_s_told hm)) rfl (by omega) ?_
            refine q_nameI (fun J0 e0 => ?_)
            have T0 : MT m I J0 B l (p + 1, false) := by rw [e0]; exact ((MT.mk0 (w := false) hp hl hb hl60 hpl rfl).p (q := p + 1) hlt).t
            have F0 : J0 (m + 13) = (bq_r (I (m + 13)) t (nI 100)) := by rw [e0, bq_u_r, bq_r_self, bq_u_ne (show m + 13 ≠ m by omega), bq_u_ne (show m + 13 ≠ m by omega)]
            refine q_aload_n (pc := 69) dX12_readsCommand_69 rfl rfl ?_
            refine q_getP (pc := 70) dX12_readsCommand_70 fX12_47 (Model_sh hm) ⟨by decide, rfl⟩ (Model_lt hm) (Model_p_told hm) ?_
            refine q_iload_n (pc := 73) dX12_readsCommand_73 rfl rfl ?_
            refine q_iconst (pc := 74) (v := nI 1) dX12_readsCommand_74 (by decide) ?_
            refine q_iaddN (pc := 75) dX12_readsCommand_75 ?_
            refine q_aload_n (pc := 76) dX12_readsCommand_76 rfl rfl ?_
            refine q_iload_n (pc := 77) dX12_readsCommand_77 rfl rfl ?_
            refine q_bipush (pc := 78) (v := nI 100) dX12_readsCommand_78 (by decide) ?_
            refine q_icmp_ne (pc := 80) 87 dX12_readsCommand_80 (by decide) (fun c_80 => absurd c_80 (by decide)) (fun c_80 => ?_)
            refine q_iconst (pc := 83) (v := nI 4) dX12_readsCommand_83 (by decide) ?_
            refine q_goto (pc := 84) 88 dX12_readsCommand_84 (by decide) ?_
            refine q_callV (pc := 88) dX12_readsCommand_88 kX12_187 (c_rdig hm T0 (K := 4) (by decide)) (Model_sh hm) rfl (Model_lt hm) ⟨Nat.le_of_ble_eq_true rfl, Nat.le_of_ble_eq_true rfl⟩ rfl rfl (Nat.le_of_ble_eq_true rfl) ?_
            rintro _ S1 n1 I1 L1 P1 ⟨rfl, eS1, en1, eL1, eP1, T1, G1⟩
            subst S1 n1 L1 P1
            show bq_W _ _ _ _ _ 91 _ [_, _, _] _ _ _ _ _ _
            rw [pM_4] at T1
            rw [pM_4]
            refine q_iast (pc := 91) dX12_readsCommand_91 (oA_sh (Model_s_told hm)) (oA_lt (Model_s_told hm)) rfl (by omega) ?_
            refine q_nameI (fun J1 e1 => ?_)
            have T1x := T1.te e1
            have F1 := Ft (G1.trans F0) e1
            refine q_iload_n (pc := 92) dX12_readsCommand_92 rfl rfl ?_
            refine q_bipush (pc := 93) (v := nI 116) dX12_readsCommand_93 (by decide) ?_
            refine q_icmp_ne (pc := 95) 139 dX12_readsCommand_95 (by decide) (fun c_95 => ?_) (fun c_95 => ((absurd c_95 (by decide) : False)).elim)
            refine q_iload_n (pc := 139) dX12_readsCommand_139 rfl rfl ?_
            refine q_bipush (pc := 140) (v := nI 108) dX12_readsCommand_140 (by decide) ?_
            refine q_icmp_ne (pc := 142) 186 dX12_readsCommand_142 (by decide) (fun c_142 => ?_) (fun c_142 => ((absurd c_142 (by decide) : False)).elim)
            refine q_iload_n (pc := 186) dX12_readsCommand_186 rfl rfl ?_
            refine q_bipush (pc := 187) (v := nI 102) dX12_readsCommand_187 (by decide) ?_
            refine q_icmp_ne (pc := 189) 211 dX12_readsCommand_189 (by decide) (fun c_189 => ?_) (fun c_189 => ((absurd c_189 (by decide) : False)).elim)
            exact q_vret (st := []) (pc := 211) dX12_readsCommand_211 rfl ⟨rfl, rfl, rfl, rfl, rfl, T1x, fun _ => Cn_100 F1, fun j hj => by rw [F1, bq_r_ne (by omega), bq_r_ne (by omega)]⟩
          · rw [show pC B l p = ((p, true), (nI 0, nI 0, nI 0, nI 0)) from by unfold pC; rw [if_neg c_27, if_neg c_33, if_neg c_21, if_neg c_15, if_neg c_9]]
            refine q_iconst (pc := 36) (v := nI 1) dX12_readsCommand_36 (by decide) ?_
            refine q_goto (pc := 37) 41 dX12_readsCommand_37 (by decide) ?_
            refine q_putZ (pc := 41) dX12_readsCommand_41 (pX12_181 _) (Model_sh hm) ⟨by decide, rfl⟩ (by decide) (Model_lt hm) ?_
            refine q_aload_n (pc := 44) dX12_readsCommand_44 rfl rfl ?_
            refine q_getI (pc := 45) dX12_readsCommand_45 fX12_181 (Model_sh hm) ⟨by decide, rfl⟩ (Model_lt hm) ?_
            rw [bq_u_at]
            refine q_if_eq (pc := 48) 52 dX12_readsCommand_48 (by decide) (fun c_48 => absurd c_48 (by decide)) (fun c_48 => ?_)
            exact q_vret (st := []) (pc := 51) dX12_readsCommand_51 rfl ⟨rfl, rfl, rfl, rfl, rfl, MT.mk0 (w := true) hp hl hb hl60 hpl rfl, fun q => Bool.noConfusion q, fun j _ => by rw [bq_u_ne (by omega)]⟩
set_option maxHeartbeats 1680000 in
set_option maxRecDepth 20000 in
theorem c_does {S : BqH} {n : Nat} {I : BqI} {L : BqL} {P : BqP} {m ch : Nat} {h : Nat → BqG} {g : BqG} (hm : oModel S n P m) (hH : MH m I h ch) (hg : I (m + 1) = g) {en : Nat} (hG : GI g en) (hen : en < 2 ^ 29) (hq : I m 6 = nI 1) {t : Nat} (ht : t + 3 < 240) : bq_Sp mX12_does 7 148 0 0 [.ref m, .int (nI t)] S n I L P (qMo m I S n L P (mst 1 g h ch (I m 7) (wm g (I (m + 13) t) (I (m + 13) (t + 1)) (I (m + 13) (t + 2)) (I (m + 13) (t + 3))))) := by
  refine q_entry (vs := [some (.ref m), some (.int (nI t)), none, none, none]) (by decide +kernel) (by simp) (Nat.le_of_ble_eq_true rfl) rfl ?_
  refine q_aload_n (pc := 0) dX12_does_0 rfl rfl ?_
  refine q_getP (pc := 1) dX12_does_1 fX12_47 (Model_sh hm) ⟨by decide, rfl⟩ (Model_lt hm) (Model_p_told hm) ?_
  refine q_iload_n (pc := 4) dX12_does_4 rfl rfl ?_
  refine q_iconst (pc := 5) (v := nI 1) dX12_does_5 (by decide) ?_
  refine q_iaddN (pc := 6) dX12_does_6 ?_
  refine q_iald (pc := 7) dX12_does_7 (oA_sh (Model_s_told hm)) (oA_lt (Model_s_told hm)) rfl (by omega) ?_
  refine q_istore_n (pc := 8) dX12_does_8 rfl (Nat.le_of_ble_eq_true rfl) rfl ?_
  show bq_W _ _ _ _ _ 9 [_, _, _, _, _] _ _ _ _ _ _ _
  refine q_aload_n (pc := 9) dX12_does_9 rfl rfl ?_
  refine q_getP (pc := 10) dX12_does_10 fX12_47 (Model_sh hm) ⟨by decide, rfl⟩ (Model_lt hm) (Model_p_told hm) ?_
  refine q_iload_n (pc := 13) dX12_does_13 rfl rfl ?_
  refine q_iconst (pc := 14) (v := nI 2) dX12_does_14 (by decide) ?_
  refine q_iaddN (pc := 15) dX12_does_15 ?_
  refine q_iald (pc := 16) dX12_does_16 (oA_sh (Model_s_told hm)) (oA_lt (Model_s_told hm)) rfl (by omega) ?_
  refine q_istore_n (pc := 17) dX12_does_17 rfl (Nat.le_of_ble_eq_true rfl) rfl ?_
  show bq_W _ _ _ _ _ 18 [_, _, _, _, _] _ _ _ _ _ _ _
  refine q_aload_n (pc := 18) dX12_does_18 rfl rfl ?_
  refine q_getP (pc := 19) dX12_does_19 fX12_47 (Model_sh hm) ⟨by decide, rfl⟩ (Model_lt hm) (Model_p_told hm) ?_
  refine q_iload_n (pc := 22) dX12_does_22 rfl rfl ?_
  refine q_iconst (pc := 23) (v := nI 3) dX12_does_23 (by decide) ?_
  refine q_iaddN (pc := 24) dX12_does_24 ?_
  refine q_iald (pc := 25) dX12_does_25 (oA_sh (Model_s_told hm)) (oA_lt (Model_s_told hm)) rfl (by omega) ?_
  refine q_istore (pc := 26) dX12_does_26 (Nat.le_of_ble_eq_true rfl) rfl ?_
  show bq_W _ _ _ _ _ 28 [_, _, _, _, _] _ _ _ _ _ _ _
  refine q_aload_n (pc := 28) dX12_does_28 rfl rfl ?_
  refine q_getP (pc := 29) dX12_does_29 fX12_47 (Model_sh hm) ⟨by decide, rfl⟩ (Model_lt hm) (Model_p_told hm) ?_
  refine q_iload_n (pc := 32) dX12_does_32 rfl rfl ?_
  refine q_iald (pc := 33) dX12_does_33 (oA_sh (Model_s_told hm)) (oA_lt (Model_s_told hm)) rfl (by omega) ?_
  refine q_topI (fun y_34 e_34 => ?_)
  by_cases s34_99 : y_34 = nI 99
  · refine q_lookup (pc := 34) (off := 67) 101 dX12_does_34 rfl (by rw [s34_99]; decide) (by decide) ?_
    rw [show (wm g (I (m + 13) t) (I (m + 13) (t + 1)) (I (m + 13) (t + 2)) (I (m + 13) (t + 3))) = w_scrub g (I (m + 13) (t + 1)) from by rw [← e_34, s34_99]; exact wm_99]
    refine q_aload_n (pc := 101) dX12_does_101 rfl rfl ?_
    refine q_iload_n (pc := 102) dX12_does_102 rfl rfl ?_
    refine q_callV (pc := 103) dX12_does_103 kX12_203 (o_clean hm hH hg hG hen hq (by decide)) (Model_sh hm) rfl (Model_lt hm) ⟨Nat.le_of_ble_eq_true rfl, Nat.le_of_ble_eq_true rfl⟩ rfl rfl (Nat.le_of_ble_eq_true rfl) ?_
    rintro _ S1 n1 I1 L1 P1 ⟨rfl, eS1, en1, eL1, eP1, Q⟩
    subst S1 n1 L1 P1
    show bq_W _ _ _ _ _ 106 _ [_] _ _ _ _ _ _
    exact q_iret (st := []) (pc := 106) dX12_does_106 rfl ⟨rfl, rfl, rfl, rfl, rfl, Q⟩
  by_cases s34_102 : y_34 = nI 102
  · refine q_lookup (pc := 34) (off := 60) 94 dX12_does_34 rfl (by rw [s34_102]; decide) (by decide) ?_
    rw [show (wm g (I (m + 13) t) (I (m + 13) (t + 1)) (I (m + 13) (t + 2)) (I (m + 13) (t + 3))) = w_fill g (I (m + 13) (t + 1)) (I (m + 13) (t + 2)) from by rw [← e_34, s34_102]; exact wm_102]
    refine q_aload_n (pc := 94) dX12_does_94 rfl rfl ?_
    refine q_iload_n (pc := 95) dX12_does_95 rfl rfl ?_
    refine q_iload_n (pc := 96) dX12_does_96 rfl rfl ?_
    refine q_callV (pc := 97) dX12_does_97 kX12_200 (o_fill hm hH hg hG hen hq (by decide)) (Model_sh hm) rfl (Model_lt hm) ⟨Nat.le_of_ble_eq_true rfl, Nat.le_of_ble_eq_true rfl⟩ rfl rfl (Nat.le_of_ble_eq_true rfl) ?_
    rintro _ S1 n1 I1 L1 P1 ⟨rfl, eS1, en1, eL1, eP1, Q⟩
    subst S1 n1 L1 P1
    show bq_W _ _ _ _ _ 100 _ [_] _ _ _ _ _ _
    exact q_iret (st := []) (pc := 100) dX12_does_100 rfl ⟨rfl, rfl, rfl, rfl, rfl, Q⟩
  by_cases s34_108 : y_34 = nI 108
  · refine q_lookup (pc := 34) (off := 51) 85 dX12_does_34 rfl (by rw [s34_108]; decide) (by decide) ?_
    rw [show (wm g (I (m + 13) t) (I (m + 13) (t + 1)) (I (m + 13) (t + 2)) (I (m + 13) (t + 3))) = w_spill g (I (m + 13) (t + 1)) (I (m + 13) (t + 2)) (I (m + 13) (t + 3)) from by rw [← e_34, s34_108]; exact wm_108]
    refine q_aload_n (pc := 85) dX12_does_85 rfl rfl ?_
    refine q_iload_n (pc := 86) dX12_does_86 rfl rfl ?_
    refine q_iload_n (pc := 87) dX12_does_87 rfl rfl ?_
    refine q_iload (pc := 88) dX12_does_88 rfl ?_
    refine q_callV (pc := 90) dX12_does_90 kX12_197 (o_lose hm hH hg hG hen hq (by decide)) (Model_sh hm) rfl (Model_lt hm) ⟨Nat.le_of_ble_eq_true rfl, Nat.le_of_ble_eq_true rfl⟩ rfl rfl (Nat.le_of_ble_eq_true rfl) ?_
    rintro _ S1 n1 I1 L1 P1 ⟨rfl, eS1, en1, eL1, eP1, Q⟩
    subst S1 n1 L1 P1
    show bq_W _ _ _ _ _ 93 _ [_] _ _ _ _ _ _
    exact q_iret (st := []) (pc := 93) dX12_does_93 rfl ⟨rfl, rfl, rfl, rfl, rfl, Q⟩
  by_cases s34_116 : y_34 = nI 116
  · refine q_lookup (pc := 34) (off := 42) 76 dX12_does_34 rfl (by rw [s34_116]; decide) (by decide) ?_
    rw [show (wm g (I (m + 13) t) (I (m + 13) (t + 1)) (I (m + 13) (t + 2)) (I (m + 13) (t + 3))) = w_pour g (I (m + 13) (t + 1)) (I (m + 13) (t + 2)) (I (m + 13) (t + 3)) from by rw [← e_34, s34_116]; exact wm_116]
    refine q_aload_n (pc := 76) dX12_does_76 rfl rfl ?_
    refine q_iload_n (pc := 77) dX12_does_77 rfl rfl ?_
    refine q_iload_n (pc := 78) dX12_does_78 rfl rfl ?_
    refine q_iload (pc := 79) dX12_does_79 rfl ?_
    refine q_callV (pc := 81) dX12_does_81 kX12_194 (o_transfer hm hH hg hG hen hq (by decide)) (Model_sh hm) rfl (Model_lt hm) ⟨Nat.le_of_ble_eq_true rfl, Nat.le_of_ble_eq_true rfl⟩ rfl rfl (Nat.le_of_ble_eq_true rfl) ?_
    rintro _ S1 n1 I1 L1 P1 ⟨rfl, eS1, en1, eL1, eP1, Q⟩
    subst S1 n1 L1 P1
    show bq_W _ _ _ _ _ 84 _ [_] _ _ _ _ _ _
    exact q_iret (st := []) (pc := 84) dX12_does_84 rfl ⟨rfl, rfl, rfl, rfl, rfl, Q⟩
  refine q_lookup (pc := 34) (off := 73) 107 dX12_does_34 rfl (by show Op.lookupswitch.offset [(99, 67), (102, 60), (108, 51), (116, 42)] 73 _ = _; rw [lv_osw s34_99 (by decide), lv_osw s34_102 (by decide), lv_osw s34_108 (by decide), lv_osw s34_116 (by decide)]; rfl) (by decide) ?_
  rw [show (wm g (I (m + 13) t) (I (m + 13) (t + 1)) (I (m + 13) (t + 2)) (I (m + 13) (t + 3))) = w_pass g (I (m + 13) (t + 1)) from by unfold wm; rw [← e_34, if_neg s34_116, if_neg s34_108, if_neg s34_102, if_neg s34_99]]
  refine q_aload_n (pc := 107) dX12_does_107 rfl rfl ?_
  refine q_iload_n (pc := 108) dX12_does_108 rfl rfl ?_
  refine q_callV (pc := 109) dX12_does_109 kX12_206 (o_pass hm hH hg hG hen hq (by decide)) (Model_sh hm) rfl (Model_lt hm) ⟨Nat.le_of_ble_eq_true rfl, Nat.le_of_ble_eq_true rfl⟩ rfl rfl (Nat.le_of_ble_eq_true rfl) ?_
  rintro _ S1 n1 I1 L1 P1 ⟨rfl, eS1, en1, eL1, eP1, Q⟩
  subst S1 n1 L1 P1
  show bq_W _ _ _ _ _ 112 _ [_] _ _ _ _ _ _
  exact q_iret (st := []) (pc := 112) dX12_does_112 rfl ⟨rfl, rfl, rfl, rfl, rfl, Q⟩
