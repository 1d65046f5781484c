/-! the model's reading of a text -/
def MT (m : Nat) (I0 I : BqI) (B : Nat → Int32) (l : Nat) (s : BqT) : Prop := I m 18 = nI s.1 ∧ I m 19 = (if s.2 = true then nI 1 else nI 0) ∧ I m 9 = nI l ∧ I (m + 5) = B ∧ s.1 ≤ l ∧ l ≤ 60 ∧ (∀ a, a ≠ m → a ≠ m + 13 → I a = I0 a) ∧ ∀ k, k ≠ 18 → k ≠ 19 → I m k = I0 m k
def qT (m : Nat) (I0 I : BqI) (S : BqH) (n : Nat) (L : BqL) (P : BqP) (B : Nat → Int32) (l : Nat) (v : Option Value) (s : BqT) : BqQ := fun r S' n' I' L' P' => r = v ∧ S' = S ∧ n' = n ∧ L' = L ∧ P' = P ∧ MT m I0 I' B l s ∧ I' (m + 13) = I (m + 13)
theorem MT.set {m l q : Nat} {I0 I : BqI} {B : Nat → Int32} {s : BqT} {v : Int32} {w : Bool} (T : MT m I0 I B l s) (hv : v = (if w = true then nI 1 else nI 0)) (hq : q ≤ l) : MT m I0 (bq_u (bq_u I m 19 v) m 18 (nI q)) B l (q, w) := by
  obtain ⟨h1, h2, h3, h4, h5, h6, h7, h8⟩ := T
  refine ⟨bq_u_at _ _ _ _, ?_, ?_, ?_, hq, h6, fun a q1 q2 => ?_, fun k q1 q2 => ?_⟩
  · rw [bq_u_no (by omega), bq_u_at]; exact hv
  · rw [bq_u_no (by omega), bq_u_no (by omega)]; exact h3
  · rw [bq_u_ne (by omega), bq_u_ne (by omega)]; exact h4
  · rw [bq_u_ne q1, bq_u_ne q1]; exact h7 a q1 q2
  · rw [bq_u_no (fun z => q1 z.2), bq_u_no (fun z => q2 z.2)]; exact h8 k q1 q2
theorem MT.w {m l : Nat} {I0 I : BqI} {B : Nat → Int32} {s : BqT} {v : Int32} {w : Bool} (T : MT m I0 I B l s) (hv : v = (if w = true then nI 1 else nI 0)) : MT m I0 (bq_u I m 19 v) B l (s.1, w) := by
  obtain ⟨h1, h2, h3, h4, h5, h6, h7, h8⟩ := T
  refine ⟨(bq_u_no (by omega)).trans h1, (bq_u_at _ _ _ _).trans hv, (bq_u_no (by omega)).trans h3, (bq_u_ne (by omega)).trans h4, h5, h6, fun a q1 q2 => ?_, fun k q1 q2 => ?_⟩
  · rw [bq_u_ne q1]; exact h7 a q1 q2
  · rw [bq_u_no (fun z => q2 z.2)]; exact h8 k q1 q2
theorem MT.p {m l q : Nat} {I0 I : BqI} {B : Nat → Int32} {s : BqT} (T : MT m I0 I B l s) (hq : q ≤ l) : MT m I0 (bq_u I m 18 (nI q)) B l (q, s.2) := by
  obtain ⟨h1, h2, h3, h4, h5, h6, h7, h8⟩ := T
  refine ⟨bq_u_at _ _ _ _, (bq_u_no (by omega)).trans h2, (bq_u_no (by omega)).trans h3, (bq_u_ne (by omega)).trans h4, hq, h6, fun a q1 q2 => ?_, fun k q1 q2 => ?_⟩
  · rw [bq_u_ne q1]; exact h7 a q1 q2
  · rw [bq_u_no (fun z => q1 z.2)]; exact h8 k q1 q2
theorem MT.t {m l k : Nat} {I0 I : BqI} {B : Nat → Int32} {s : BqT} {v : Int32} (T : MT m I0 I B l s) : MT m I0 (bq_u I (m + 13) k v) B l s := by
  obtain ⟨h1, h2, h3, h4, h5, h6, h7, h8⟩ := T
  refine ⟨?_, ?_, ?_, ?_, h5, h6, fun a q1 q2 => ?_, fun k q1 q2 => ?_⟩
  · rw [bq_u_ne (by omega)]; exact h1
  · rw [bq_u_ne (by omega)]; exact h2
  · rw [bq_u_ne (by omega)]; exact h3
  · rw [bq_u_ne (by omega)]; exact h4
  · rw [bq_u_ne q2]; exact h7 a q1 q2
  · rw [bq_u_ne (by omega)]; exact h8 k q1 q2
/-- most digits, as the model reads them -/
def pM (B : Nat → Int32) (l K : Nat) (s : BqT) : Int32 × BqT := if pg B l s then pL B l K (nI 0) s else (nI 0, (s.1, true))
theorem pL_s {B : Nat → Int32} {l k : Nat} {v : Int32} {s : BqT} (c : pg B l s) : pL B l (k + 1) v s = pL B l k (v * nI 10 + (hr B l s.1 - nI 48)) (s.1 + 1, false) := if_pos c
theorem pL_n {B : Nat → Int32} {l k : Nat} {v : Int32} {s : BqT} (c : ¬ pg B l s) : pL B l (k + 1) v s = (v, s) := if_neg c
theorem z_10 (h : Int32) : nI 0 * nI 10 + h = h := by
  rw [show nI 0 * nI 10 = 0 from rfl, Int32.zero_add]
theorem m_10 (v h : Int32) : nI 10 * v + h - nI 48 = v * nI 10 + (h - nI 48) := by
  rw [Int32.mul_comm, Int32.sub_eq_add_neg, Int32.sub_eq_add_neg, Int32.add_assoc]
theorem pM_1 {B : Nat → Int32} {l : Nat} {s : BqT} : pM B l 1 s = pD B l s := by
  unfold pM pD
  by_cases c : pg B l s
  · rw [if_pos c, if_pos c, pL_s c, z_10]; rfl
  · rw [if_neg c, if_neg c]
theorem pM_4 {B : Nat → Int32} {l : Nat} {s : BqT} : pM B l 4 s = pN B l s := by
  unfold pM pN pD
  by_cases c : pg B l s
  · rw [if_pos c, if_pos c, pL_s c, z_10]
  · rw [if_neg c, if_neg c, pL_n (fun z => Bool.noConfusion z.1)]
/-- a command as the model keeps it: letter, and three numbers in the order in which they are read -/
def wm (g : BqG) (a b c d : Int32) : Int32 × BqG := if a = nI 116 then w_pour g b c d else if a = nI 108 then w_spill g b c d else if a = nI 102 then w_fill g b c else if a = nI 99 then w_scrub g b else w_pass g b
def Cn (F : Nat → Int32) (t : Nat) (k : BqC) : Prop := ∀ g : BqG, wm g (F t) (F (t + 1)) (F (t + 2)) (F (t + 3)) = wk g k
theorem wm_116 {g : BqG} {b c d : Int32} : wm g (nI 116) b c d = w_pour g b c d := if_pos rfl
theorem wm_108 {g : BqG} {b c d : Int32} : wm g (nI 108) b c d = w_spill g b c d := (if_neg (by decide)).trans (if_pos rfl)
theorem wm_102 {g : BqG} {b c d : Int32} : wm g (nI 102) b c d = w_fill g b c := (if_neg (by decide)).trans ((if_neg (by decide)).trans (if_pos rfl))
theorem wm_99 {g : BqG} {b c d : Int32} : wm g (nI 99) b c d = w_scrub g b := (if_neg (by decide)).trans ((if_neg (by decide)).trans ((if_neg (by decide)).trans (if_pos rfl)))
theorem wm_100 {g : BqG} {b c d : Int32} : wm g (nI 100) b c d = w_pass g b := (if_neg (by decide)).trans ((if_neg (by decide)).trans ((if_neg (by decide)).trans (if_neg (by decide))))
def qTc (m : Nat) (I : BqI) (S : BqH) (n : Nat) (L : BqL) (P : BqP) (B : Nat → Int32) (l t : Nat) (c : BqT × BqC) : BqQ := fun r S' n' I' L' P' => r = none ∧ S' = S ∧ n' = n ∧ L' = L ∧ P' = P ∧ MT m I I' B l c.1 ∧ (c.1.2 = false → Cn (I' (m + 13)) t c.2) ∧ ∀ j, j < t ∨ t + 4 ≤ j → I' (m + 13) j = I (m + 13) j
set_option maxHeartbeats 1000000 in
set_option maxRecDepth 20000 in
theorem c_X12_here {S : BqH} {n : Nat} {I : BqI} {L : BqL} {P : BqP} {m p : Nat} {B : Nat → Int32} {l : Nat} (hm : oModel S n P m) (hp : I m 18 = nI p) (hl : I m 9 = nI l) (hb : I (m + 5) = B) (hl60 : l ≤ 60) (hpl : p ≤ l) : bq_Sp mX12_here 1 12 0 0 [.ref m] S n I L P (bq_F (some (.int (hr B l p))) S n I L P) := by
  refine q_entry (vs := [some (.ref m)]) (by decide +kernel) (by simp) (Nat.le_of_ble_eq_true rfl) rfl ?_
  refine q_aload_n (pc := 0) dX12_here_0 rfl rfl ?_
  refine q_getI (pc := 1) dX12_here_1 fX12_178 (Model_sh hm) ⟨by decide, rfl⟩ (Model_lt hm) ?_
  rw [hp]
  refine q_aload_n (pc := 4) dX12_here_4 rfl rfl ?_
  refine q_getI (pc := 5) dX12_here_5 fX12_175 (Model_sh hm) ⟨by decide, rfl⟩ (Model_lt hm) ?_
  rw [hl]
  refine q_icmp_ge (pc := 8) 23 dX12_here_8 (by decide) (fun c_8 => ?_) (fun c_8 => ?_)
  · refine q_iconst (pc := 23) (v := (-1)) dX12_here_23 (by decide) ?_
    exact q_iret (st := []) (pc := 24) dX12_here_24 rfl ⟨by first | rw [hr_no (fun z => nI_ge z (by omega) c_8)] | rw [hr_in hlt, hb], rfl, rfl, rfl, rfl, rfl⟩
  · have hlt : p < l := Nat.lt_of_not_le (fun z => c_8 (nI_le z (by omega)))
    refine q_aload_n (pc := 11) dX12_here_11 rfl rfl ?_
    refine q_getP (pc := 12) dX12_here_12 fX12_22 (Model_sh hm) ⟨by decide, rfl⟩ (Model_lt hm) (Model_p_tape hm) ?_
    refine q_aload_n (pc := 15) dX12_here_15 rfl rfl ?_
    refine q_getI (pc := 16) dX12_here_16 fX12_178 (Model_sh hm) ⟨by decide, rfl⟩ (Model_lt hm) ?_
    rw [hp]
    refine q_iald (pc := 19) dX12_here_19 (oA_sh (Model_s_tape hm)) (oA_lt (Model_s_tape hm)) rfl (by omega) ?_
    refine q_goto (pc := 20) 24 dX12_here_20 (by decide) ?_
    exact q_iret (st := []) (pc := 24) dX12_here_24 rfl ⟨by first | rw [hr_no (fun z => nI_ge z (by omega) c_8)] | rw [hr_in hlt, hb], rfl, rfl, rfl, rfl, rfl⟩
set_option maxHeartbeats 1000000 in
set_option maxRecDepth 20000 in
theorem c_reads_f {S : BqH} {n : Nat} {I : BqI} {L : BqL} {P : BqP} {m p c : Nat} {I0 : BqI} {B : Nat → Int32} {l : Nat} (hm : oModel S n P m) (T : MT m I0 I B l (p, false)) (hc : c < 128) : bq_Sp mX12_reads 2 32 0 0 [.ref m, .int (nI c)] S n I L P (qT m I0 I S n L P B l (none) (pS B l (nI c) (p, false))) := by
  refine q_entry (vs := [some (.ref m), some (.int (nI c))]) (by decide +kernel) (by simp) (Nat.le_of_ble_eq_true rfl) rfl ?_
  have hw : I m 19 = nI 0 := T.2.1
  have hp : I m 18 = nI p := T.1
  have hpl : p ≤ l := T.2.2.2.2.1
  refine q_aload_n (pc := 0) dX12_reads_0 rfl rfl ?_
  refine q_dup (pc := 1) dX12_reads_1 rfl ?_
  refine q_getI (pc := 2) dX12_reads_2 fX12_181 (Model_sh hm) ⟨by decide, rfl⟩ (Model_lt hm) ?_
  rw [hw]
  refine q_aload_n (pc := 5) dX12_reads_5 rfl rfl ?_
  refine q_callVF (pc := 6) dX12_reads_6 kX12_184 (c_X12_here hm T.1 T.2.2.1 T.2.2.2.1 T.2.2.2.2.2.1 T.2.2.2.2.1) (Model_sh hm) rfl (Model_lt hm) ⟨Nat.le_of_ble_eq_true rfl, Nat.le_of_ble_eq_true rfl⟩ rfl rfl (Nat.le_of_ble_eq_true rfl) ?_
  show bq_W _ _ _ _ _ 9 _ [_, _, _] _ _ _ _ _ _
  refine q_iload_n (pc := 9) dX12_reads_9 rfl rfl ?_
  refine q_icmp_eq (pc := 10) 17 dX12_reads_10 (by decide) (fun c_10 => ?_) (fun c_10 => ?_)
  · have hlt := hr_lt hc c_10
    rw [show pS B l (nI c) (p, false) = (p + 1, false) from if_pos ⟨rfl, c_10⟩]
    refine q_iconst (pc := 17) (v := nI 0) dX12_reads_17 (by decide) ?_
    refine q_ior (pc := 18) dX12_reads_18 ?_
    refine q_putZ (pc := 19) dX12_reads_19 (pX12_181 _) (Model_sh hm) ⟨by decide, rfl⟩ (by decide) (Model_lt hm) ?_
    refine q_aload_n (pc := 22) dX12_reads_22 rfl rfl ?_
    refine q_dup (pc := 23) dX12_reads_23 rfl ?_
    refine q_getI (pc := 24) dX12_reads_24 fX12_178 (Model_sh hm) ⟨by decide, rfl⟩ (Model_lt hm) ?_
    rw [bq_u_no (by omega), hp]
    refine q_aload_n (pc := 27) dX12_reads_27 rfl rfl ?_
    refine q_getI (pc := 28) dX12_reads_28 fX12_181 (Model_sh hm) ⟨by decide, rfl⟩ (Model_lt hm) ?_
    rw [bq_u_at]
    refine q_if_eq (pc := 31) 38 dX12_reads_31 (by decide) (fun c_31 => ?_) (fun c_31 => absurd (by decide) c_31)
    refine q_iconst (pc := 38) (v := nI 1) dX12_reads_38 (by decide) ?_
    refine q_iaddN (pc := 39) dX12_reads_39 ?_
    refine q_putI (pc := 40) dX12_reads_40 (pX12_178 _) (Model_sh hm) ⟨by decide, rfl⟩ (Model_lt hm) ?_
    exact q_vret (st := []) (pc := 43) dX12_reads_43 rfl ⟨rfl, rfl, rfl, rfl, rfl, by first | exact T.set (w := false) (by decide) (by omega) | exact T.set (w := true) (by decide) hpl, by rw [bq_u_ne (by omega), bq_u_ne (by omega)]⟩
  · rw [show pS B l (nI c) (p, false) = (p, true) from if_neg (fun z => c_10 z.2)]
    refine q_iconst (pc := 13) (v := nI 1) dX12_reads_13 (by decide) ?_
    refine q_goto (pc := 14) 18 dX12_reads_14 (by decide) ?_
    refine q_ior (pc := 18) dX12_reads_18 ?_
    refine q_putZ (pc := 19) dX12_reads_19 (pX12_181 _) (Model_sh hm) ⟨by decide, rfl⟩ (by decide) (Model_lt hm) ?_
    refine q_aload_n (pc := 22) dX12_reads_22 rfl rfl ?_
    refine q_dup (pc := 23) dX12_reads_23 rfl ?_
    refine q_getI (pc := 24) dX12_reads_24 fX12_178 (Model_sh hm) ⟨by decide, rfl⟩ (Model_lt hm) ?_
    rw [bq_u_no (by omega), hp]
    refine q_aload_n (pc := 27) dX12_reads_27 rfl rfl ?_
    refine q_getI (pc := 28) dX12_reads_28 fX12_181 (Model_sh hm) ⟨by decide, rfl⟩ (Model_lt hm) ?_
    rw [bq_u_at]
    refine q_if_eq (pc := 31) 38 dX12_reads_31 (by decide) (fun c_31 => absurd c_31 (by decide)) (fun c_31 => ?_)
    refine q_iconst (pc := 34) (v := nI 0) dX12_reads_34 (by decide) ?_
    refine q_goto (pc := 35) 39 dX12_reads_35 (by decide) ?_
    refine q_iaddN (pc := 39) dX12_reads_39 ?_
    refine q_putI (pc := 40) dX12_reads_40 (pX12_178 _) (Model_sh hm) ⟨by decide, rfl⟩ (Model_lt hm) ?_
    exact q_vret (st := []) (pc := 43) dX12_reads_43 rfl ⟨rfl, rfl, rfl, rfl, rfl, by first | exact T.set (w := false) (by decide) (by omega) | exact T.set (w := true) (by decide) hpl, by rw [bq_u_ne (by omega), bq_u_ne (by omega)]⟩
set_option maxHeartbeats 1000000 in
set_option maxRecDepth 20000 in
theorem c_reads_t {S : BqH} {n : Nat} {I : BqI} {L : BqL} {P : BqP} {m p c : Nat} {I0 : BqI} {B : Nat → Int32} {l : Nat} (hm : oModel S n P m) (T : MT m I0 I B l (p, true)) (hc : c < 128) : bq_Sp mX12_reads 2 32 0 0 [.ref m, .int (nI c)] S n I L P (qT m I0 I S n L P B l (none) (pS B l (nI c) (p, true))) := by
  refine q_entry (vs := [some (.ref m), some (.int (nI c))]) (by decide +kernel) (by simp) (Nat.le_of_ble_eq_true rfl) rfl ?_
  have hw : I m 19 = nI 1 := T.2.1
  have hp : I m 18 = nI p := T.1
  have hpl : p ≤ l := T.2.2.2.2.1
  refine q_aload_n (pc := 0) dX12_reads_0 rfl rfl ?_
  refine q_dup (pc := 1) dX12_reads_1 rfl ?_
  refine q_getI (pc := 2) dX12_reads_2 fX12_181 (Model_sh hm) ⟨by decide, rfl⟩ (Model_lt hm) ?_
  rw [hw]
  refine q_aload_n (pc := 5) dX12_reads_5 rfl rfl ?_
  refine q_callVF (pc := 6) dX12_reads_6 kX12_184 (c_X12_here hm T.1 T.2.2.1 T.2.2.2.1 T.2.2.2.2.2.1 T.2.2.2.2.1) (Model_sh hm) rfl (Model_lt hm) ⟨Nat.le_of_ble_eq_true rfl, Nat.le_of_ble_eq_true rfl⟩ rfl rfl (Nat.le_of_ble_eq_true rfl) ?_
  show bq_W _ _ _ _ _ 9 _ [_, _, _] _ _ _ _ _ _
  refine q_iload_n (pc := 9) dX12_reads_9 rfl rfl ?_
  refine q_icmp_eq (pc := 10) 17 dX12_reads_10 (by decide) (fun c_10 => ?_) (fun c_10 => ?_)
  · rw [show pS B l (nI c) (p, true) = (p, true) from if_neg (fun z => Bool.noConfusion z.1)]
    refine q_iconst (pc := 17) (v := nI 0) dX12_reads_17 (by decide) ?_
    refine q_ior (pc := 18) dX12_reads_18 ?_
    refine q_putZ (pc := 19) dX12_reads_19 (pX12_181 _) (Model_sh hm) ⟨by decide, rfl⟩ (by decide) (Model_lt hm) ?_
    refine q_aload_n (pc := 22) dX12_reads_22 rfl rfl ?_
    refine q_dup (pc := 23) dX12_reads_23 rfl ?_
    refine q_getI (pc := 24) dX12_reads_24 fX12_178 (Model_sh hm) ⟨by decide, rfl⟩ (Model_lt hm) ?_
    rw [bq_u_no (by omega), hp]
    refine q_aload_n (pc := 27) dX12_reads_27 rfl rfl ?_
    refine q_getI (pc := 28) dX12_reads_28 fX12_181 (Model_sh hm) ⟨by decide, rfl⟩ (Model_lt hm) ?_
    rw [bq_u_at]
    refine q_if_eq (pc := 31) 38 dX12_reads_31 (by decide) (fun c_31 => absurd c_31 (by decide)) (fun c_31 => ?_)
    refine q_iconst (pc := 34) (v := nI 0) dX12_reads_34 (by decide) ?_
    refine q_goto (pc := 35) 39 dX12_reads_35 (by decide) ?_
    refine q_iaddN (pc := 39) dX12_reads_39 ?_
    refine q_putI (pc := 40) dX12_reads_40 (pX12_178 _) (Model_sh hm) ⟨by decide, rfl⟩ (Model_lt hm) ?_
    exact q_vret (st := []) (pc := 43) dX12_reads_43 rfl ⟨rfl, rfl, rfl, rfl, rfl, by first | exact T.set (w := false) (by decide) (by omega) | exact T.set (w := true) (by decide) hpl, by rw [bq_u_ne (by omega), bq_u_ne (by omega)]⟩
  · rw [show pS B l (nI c) (p, true) = (p, true) from if_neg (fun z => Bool.noConfusion z.1)]
    refine q_iconst (pc := 13) (v := nI 1) dX12_reads_13 (by decide) ?_
    refine q_goto (pc := 14) 18 dX12_reads_14 (by decide) ?_
    refine q_ior (pc := 18) dX12_reads_18 ?_
    refine q_putZ (pc := 19) dX12_reads_19 (pX12_181 _) (Model_sh hm) ⟨by decide, rfl⟩ (by decide) (Model_lt hm) ?_
    refine q_aload_n (pc := 22) dX12_reads_22 rfl rfl ?_
    refine q_dup (pc := 23) dX12_reads_23 rfl ?_
    refine q_getI (pc := 24) dX12_reads_24 fX12_178 (Model_sh hm) ⟨by decide, rfl⟩ (Model_lt hm) ?_
    rw [bq_u_no (by omega), hp]
    refine q_aload_n (pc := 27) dX12_reads_27 rfl rfl ?_
    refine q_getI (pc := 28) dX12_reads_28 fX12_181 (Model_sh hm) ⟨by decide, rfl⟩ (Model_lt hm) ?_
    rw [bq_u_at]
    refine q_if_eq (pc := 31) 38 dX12_reads_31 (by decide) (fun c_31 => absurd c_31 (by decide)) (fun c_31 => ?_)
    refine q_iconst (pc := 34) (v := nI 0) dX12_reads_34 (by decide) ?_
    refine q_goto (pc := 35) 39 dX12_reads_35 (by decide) ?_
    refine q_iaddN (pc := 39) dX12_reads_39 ?_
    refine q_putI (pc := 40) dX12_reads_40 (pX12_178 _) (Model_sh hm) ⟨by decide, rfl⟩ (Model_lt hm) ?_
    exact q_vret (st := []) (pc := 43) dX12_reads_43 rfl ⟨rfl, rfl, rfl, rfl, rfl, by first | exact T.set (w := false) (by decide) (by omega) | exact T.set (w := true) (by decide) hpl, by rw [bq_u_ne (by omega), bq_u_ne (by omega)]⟩
theorem c_reads {S : BqH} {n : Nat} {I : BqI} {L : BqL} {P : BqP} {m c : Nat} {I0 : BqI} {B : Nat → Int32} {l : Nat} {s : BqT} (hm : oModel S n P m) (T : MT m I0 I B l s) (hc : c < 128) : bq_Sp mX12_reads 2 32 0 0 [.ref m, .int (nI c)] S n I L P (qT m I0 I S n L P B l (none) (pS B l (nI c) s)) := by
  match s, T with
  | (p, false), T => exact c_reads_f hm T hc
  | (p, true), T => exact c_reads_t hm T hc
set_option maxHeartbeats 1040000 in
set_option maxRecDepth 20000 in
theorem c_rdig_t {S : BqH} {n : Nat} {I : BqI} {L : BqL} {P : BqP} {m p K : Nat} {I0 : BqI} {B : Nat → Int32} {l : Nat} (hm : oModel S n P m) (T : MT m I0 I B l (p, true)) (hK : K ≤ 4) : bq_Sp mX12_readsDigits 2 34 0 0 [.ref m, .int (nI K)] S n I L P (qT m I0 I S n L P B l (some (.int (pM B l K (p, true)).1)) ((pM B l K (p, true)).2)) := by
  refine q_entry (vs := [some (.ref m), some (.int (nI K)), none, none]) (by decide +kernel) (by simp) (Nat.le_of_ble_eq_true rfl) rfl ?_
  have hw : I m 19 = nI 1 := T.2.1
  have hpl : p ≤ l := T.2.2.2.2.1
  refine q_aload_n (pc := 0) dX12_readsDigits_0 rfl rfl ?_
  refine q_dup (pc := 1) dX12_readsDigits_1 rfl ?_
  refine q_getI (pc := 2) dX12_readsDigits_2 fX12_181 (Model_sh hm) ⟨by decide, rfl⟩ (Model_lt hm) ?_
  rw [hw]
  refine q_aload_n (pc := 5) dX12_readsDigits_5 rfl rfl ?_
  refine q_callVF (pc := 6) dX12_readsDigits_6 kX12_184 (c_X12_here hm T.1 T.2.2.1 T.2.2.2.1 T.2.2.2.2.2.1 T.2.2.2.2.1) (Model_sh hm) rfl (Model_lt hm) ⟨Nat.le_of_ble_eq_true rfl, Nat.le_of_ble_eq_true rfl⟩ rfl rfl (Nat.le_of_ble_eq_true rfl) ?_
  show bq_W _ _ _ _ _ 9 _ [_, _, _] _ _ _ _ _ _
  refine q_bipush (pc := 9) (v := nI 48) dX12_readsDigits_9 (by decide) ?_
  refine q_bipush (pc := 11) (v := nI 57) dX12_readsDigits_11 (by decide) ?_
  refine q_callSF (pc := 13) dX12_readsDigits_13 kX12_69 c_X12_in ⟨Nat.le_of_ble_eq_true rfl, Nat.le_of_ble_eq_true rfl⟩ rfl rfl (Nat.le_of_ble_eq_true rfl) ?_
  show bq_W _ _ _ _ _ 16 _ [_, _, _] _ _ _ _ _ _
  refine q_if_ne (pc := 16) 23 dX12_readsDigits_16 (by decide) (fun c_16 => ?_) (fun c_16 => ?_)
  · replace c_16 := bq_nbn.mp c_16
    have hd : dgt (hr B l p) := c_16
    refine q_iconst (pc := 23) (v := nI 0) dX12_readsDigits_23 (by decide) ?_
    refine q_ior (pc := 24) dX12_readsDigits_24 ?_
    refine q_putZ (pc := 25) dX12_readsDigits_25 (pX12_181 _) (Model_sh hm) ⟨by decide, rfl⟩ (by decide) (Model_lt hm) ?_
    refine q_iconst (pc := 28) (v := nI 0) dX12_readsDigits_28 (by decide) ?_
    refine q_istore_n (pc := 29) dX12_readsDigits_29 rfl (Nat.le_of_ble_eq_true rfl) rfl ?_
    show bq_W _ _ _ _ _ 30 [_, _, _, _] _ _ _ _ _ _ _
    refine q_iconst (pc := 30) (v := nI 0) dX12_readsDigits_30 (by decide) ?_
    refine q_istore_n (pc := 31) dX12_readsDigits_31 rfl (Nat.le_of_ble_eq_true rfl) rfl ?_
    show bq_W _ _ _ _ _ 32 [_, _, _, _] _ _ _ _ _ _ _
    rw [show pM B l K (p, true) = (nI 0, (p, true)) from if_neg (fun z => Bool.noConfusion z.1)]
    refine q_aload_n (pc := 32) dX12_readsDigits_32 rfl rfl ?_
    refine q_getI (pc := 33) dX12_readsDigits_33 fX12_181 (Model_sh hm) ⟨by decide, rfl⟩ (Model_lt hm) ?_
    rw [bq_u_at]
    refine q_if_ne (pc := 36) 87 dX12_readsDigits_36 (by decide) (fun c_36 => ?_) (fun c_36 => ((absurd c_36 (by decide) : False)).elim)
    refine q_iload_n (pc := 87) dX12_readsDigits_87 rfl rfl ?_
    exact q_iret (st := []) (pc := 88) dX12_readsDigits_88 rfl ⟨rfl, rfl, rfl, rfl, rfl, T.w (s := (p, _)) (w := true) (by decide), by rw [bq_u_ne (by omega)]⟩
  · replace c_16 := bq_nb0.mp c_16
    have hd : ¬ dgt (hr B l p) := not_not_intro c_16
    refine q_iconst (pc := 19) (v := nI 1) dX12_readsDigits_19 (by decide) ?_
    refine q_goto (pc := 20) 24 dX12_readsDigits_20 (by decide) ?_
    refine q_ior (pc := 24) dX12_readsDigits_24 ?_
    refine q_putZ (pc := 25) dX12_readsDigits_25 (pX12_181 _) (Model_sh hm) ⟨by decide, rfl⟩ (by decide) (Model_lt hm) ?_
    refine q_iconst (pc := 28) (v := nI 0) dX12_readsDigits_28 (by decide) ?_
    refine q_istore_n (pc := 29) dX12_readsDigits_29 rfl (Nat.le_of_ble_eq_true rfl) rfl ?_
    show bq_W _ _ _ _ _ 30 [_, _, _, _] _ _ _ _ _ _ _
    refine q_iconst (pc := 30) (v := nI 0) dX12_readsDigits_30 (by decide) ?_
    refine q_istore_n (pc := 31) dX12_readsDigits_31 rfl (Nat.le_of_ble_eq_true rfl) rfl ?_
    show bq_W _ _ _ _ _ 32 [_, _, _, _] _ _ _ _ _ _ _
    rw [show pM B l K (p, true) = (nI 0, (p, true)) from if_neg (fun z => Bool.noConfusion z.1)]
    refine q_aload_n (pc := 32) dX12_readsDigits_32 rfl rfl ?_
    refine q_getI (pc := 33) dX12_readsDigits_33 fX12_181 (Model_sh hm) ⟨by decide, rfl⟩ (Model_lt hm) ?_
    rw [bq_u_at]
    refine q_if_ne (pc := 36) 87 dX12_readsDigits_36 (by decide) (fun c_36 => ?_) (fun c_36 => ((absurd c_36 (by decide) : False)).elim)
    refine q_iload_n (pc := 87) dX12_readsDigits_87 rfl rfl ?_
    exact q_iret (st := []) (pc := 88) dX12_readsDigits_88 rfl ⟨rfl, rfl, rfl, rfl, rfl, T.w (s := (p, _)) (w := true) (by decide), by rw [bq_u_ne (by omega)]⟩
set_option maxHeartbeats 2300000 in
set_option maxRecDepth 20000 in
theorem c_rdig_f {S : BqH} {n : Nat} {I : BqI} {L : BqL} {P : BqP} {m p K : Nat} {I0 : BqI} {B : Nat → Int32} {l : Nat} (hm : oModel S n P m) (T : MT m I0 I B l (p, false)) (hK : K ≤ 4) : bq_Sp mX12_readsDigits 2 34 0 0 [.ref m, .int (nI K)] S n I L P (qT m I0 I S n L P B l (some (.int (pM B l K (p, false)).1)) ((pM B l K (p, false)).2)) := by
  refine q_entry (vs := [some (.ref m), some (.int (nI K)), none, none]) (by decide +kernel) (by simp) (Nat.le_of_ble_eq_true rfl) rfl ?_
  have hw : I m 19 = nI 0 := T.2.1
  have hpl : p ≤ l := T.2.2.2.2.1
  refine q_aload_n (pc := 0) dX12_readsDigits_0 rfl rfl ?_
  refine q_dup (pc := 1) dX12_readsDigits_1 rfl ?_
  refine q_getI (pc := 2) dX12_readsDigits_2 fX12_181 (Model_sh hm) ⟨by decide, rfl⟩ (Model_lt hm) ?_
  rw [hw]
  refine q_aload_n (pc := 5) dX12_readsDigits_5 rfl rfl ?_
  refine q_callVF (pc := 6) dX12_readsDigits_6 kX12_184 (c_X12_here hm T.1 T.2.2.1 T.2.2.2.1 T.2.2.2.2.2.1 T.2.2.2.2.1) (Model_sh hm) rfl (Model_lt hm) ⟨Nat.le_of_ble_eq_true rfl, Nat.le_of_ble_eq_true rfl⟩ rfl rfl (Nat.le_of_ble_eq_true rfl) ?_
  show bq_W _ _ _ _ _ 9 _ [_, _, _] _ _ _ _ _ _
  refine q_bipush (pc := 9) (v := nI 48) dX12_readsDigits_9 (by decide) ?_
  refine q_bipush (pc := 11) (v := nI 57) dX12_readsDigits_11 (by decide) ?_
  refine q_callSF (pc := 13) dX12_readsDigits_13 kX12_69 c_X12_in ⟨Nat.le_of_ble_eq_true rfl, Nat.le_of_ble_eq_true rfl⟩ rfl rfl (Nat.le_of_ble_eq_true rfl) ?_
  show bq_W _ _ _ _ _ 16 _ [_, _, _] _ _ _ _ _ _
  refine q_if_ne (pc := 16) 23 dX12_readsDigits_16 (by decide) (fun c_16 => ?_) (fun c_16 => ?_)
  · replace c_16 := bq_nbn.mp c_16
    have hd : dgt (hr B l p) := c_16
    refine q_iconst (pc := 23) (v := nI 0) dX12_readsDigits_23 (by decide) ?_
    refine q_ior (pc := 24) dX12_readsDigits_24 ?_
    refine q_putZ (pc := 25) dX12_readsDigits_25 (pX12_181 _) (Model_sh hm) ⟨by decide, rfl⟩ (by decide) (Model_lt hm) ?_
    refine q_iconst (pc := 28) (v := nI 0) dX12_readsDigits_28 (by decide) ?_
    refine q_istore_n (pc := 29) dX12_readsDigits_29 rfl (Nat.le_of_ble_eq_true rfl) rfl ?_
    show bq_W _ _ _ _ _ 30 [_, _, _, _] _ _ _ _ _ _ _
    refine q_iconst (pc := 30) (v := nI 0) dX12_readsDigits_30 (by decide) ?_
    refine q_istore_n (pc := 31) dX12_readsDigits_31 rfl (Nat.le_of_ble_eq_true rfl) rfl ?_
    show bq_W _ _ _ _ _ 32 [_, _, _, _] _ _ _ _ _ _ _
    rw [show pM B l K (p, false) = pL B l K (nI 0) (p, false) from if_pos ⟨rfl, hd⟩]
    have lp : ∀ k, k ≤ K → ∀ (J : BqI) (v : Int32) (q : Nat), MT m I0 J B l (q, false) → J (m + 13) = I (m + 13) → pL B l k v (q, false) = pL B l K (nI 0) (p, false) → bq_W mX12_readsDigits 2 34 0 0 32 [some (.ref m), some (.int (nI K)), some (.int v), some (.int (nI (K - k)))] [] S n J L P (qT m I0 I S n L P B l (some (.int (pL B l K (nI 0) (p, false)).1)) ((pL B l K (nI 0) (p, false)).2)) := by
      intro k
      induction k with
      | zero =>
        intro hk J v q hT hF hv
        have hw2 : J m 19 = nI 0 := hT.2.1
        refine q_aload_n (pc := 32) dX12_readsDigits_32 rfl rfl ?_
        refine q_getI (pc := 33) dX12_readsDigits_33 fX12_181 (Model_sh hm) ⟨by decide, rfl⟩ (Model_lt hm) ?_
        rw [hw2]
        refine q_if_ne (pc := 36) 87 dX12_readsDigits_36 (by decide) (fun c_36 => absurd c_36 (by decide)) (fun c_36 => ?_)
        refine q_iload_n (pc := 39) dX12_readsDigits_39 rfl rfl ?_
        refine q_iload_n (pc := 40) dX12_readsDigits_40 rfl rfl ?_
        refine q_icmp_ge (pc := 41) 87 dX12_readsDigits_41 (by decide) (fun c_41 => ?_) (fun c_41 => absurd (nI_le (show K ≤ K - 0 by omega) (by omega)) c_41)
        refine q_iload_n (pc := 87) dX12_readsDigits_87 rfl rfl ?_
        exact q_iret (st := []) (pc := 88) dX12_readsDigits_88 rfl ⟨by rw [← hv]; rfl, rfl, rfl, rfl, rfl, by rw [← hv]; exact hT, hF⟩
      | succ k ihk =>
        intro hk J v q hT hF hv
        have hw2 : J m 19 = nI 0 := hT.2.1
        have hp2 : J m 18 = nI q := hT.1
        refine q_aload_n (pc := 32) dX12_readsDigits_32 rfl rfl ?_
        refine q_getI (pc := 33) dX12_readsDigits_33 fX12_181 (Model_sh hm) ⟨by decide, rfl⟩ (Model_lt hm) ?_
        rw [hw2]
        refine q_if_ne (pc := 36) 87 dX12_readsDigits_36 (by decide) (fun c_36 => absurd c_36 (by decide)) (fun c_36 => ?_)
        refine q_iload_n (pc := 39) dX12_readsDigits_39 rfl rfl ?_
        refine q_iload_n (pc := 40) dX12_readsDigits_40 rfl rfl ?_
        refine q_icmp_ge (pc := 41) 87 dX12_readsDigits_41 (by decide) (fun c_41 => absurd c_41 (nI_ge (show K - (k + 1) < K by omega) (by omega))) (fun c_41 => ?_)
        refine q_aload_n (pc := 44) dX12_readsDigits_44 rfl rfl ?_
        refine q_callVF (pc := 45) dX12_readsDigits_45 kX12_184 (c_X12_here hm hT.1 hT.2.2.1 hT.2.2.2.1 hT.2.2.2.2.2.1 hT.2.2.2.2.1) (Model_sh hm) rfl (Model_lt hm) ⟨Nat.le_of_ble_eq_true rfl, Nat.le_of_ble_eq_true rfl⟩ rfl rfl (Nat.le_of_ble_eq_true rfl) ?_
        show bq_W _ _ _ _ _ 48 _ [_] _ _ _ _ _ _
        refine q_bipush (pc := 48) (v := nI 48) dX12_readsDigits_48 (by decide) ?_
        refine q_bipush (pc := 50) (v := nI 57) dX12_readsDigits_50 (by decide) ?_
        refine q_callSF (pc := 52) dX12_readsDigits_52 kX12_69 c_X12_in ⟨Nat.le_of_ble_eq_true rfl, Nat.le_of_ble_eq_true rfl⟩ rfl rfl (Nat.le_of_ble_eq_true rfl) ?_
        show bq_W _ _ _ _ _ 55 _ [_] _ _ _ _ _ _
        refine q_if_eq (pc := 55) 87 dX12_readsDigits_55 (by decide) (fun c_55 => ?_) (fun c_55 => ?_)
        · replace c_55 := bq_nb0.mp c_55
          have hn : ¬ pg B l (q, false) := fun z => z.2 c_55
          rw [pL_n hn] at hv
          refine q_iload_n (pc := 87) dX12_readsDigits_87 rfl rfl ?_
          exact q_iret (st := []) (pc := 88) dX12_readsDigits_88 rfl ⟨by rw [← hv], rfl, rfl, rfl, rfl, by rw [← hv]; exact hT, hF⟩
        · replace c_55 := bq_nbn.mp c_55
          have hy : pg B l (q, false) := ⟨rfl, c_55⟩
          have hlt : q < l := dgt_lt c_55
          rw [pL_s hy, ← m_10] at hv
          refine q_bipush (pc := 58) (v := nI 10) dX12_readsDigits_58 (by decide) ?_
          refine q_iload_n (pc := 60) dX12_readsDigits_60 rfl rfl ?_
          refine q_imul (pc := 61) dX12_readsDigits_61 ?_
          refine q_aload_n (pc := 62) dX12_readsDigits_62 rfl rfl ?_
          refine q_callVF (pc := 63) dX12_readsDigits_63 kX12_184 (c_X12_here hm hT.1 hT.2.2.1 hT.2.2.2.1 hT.2.2.2.2.2.1 hT.2.2.2.2.1) (Model_sh hm) rfl (Model_lt hm) ⟨Nat.le_of_ble_eq_true rfl, Nat.le_of_ble_eq_true rfl⟩ rfl rfl (Nat.le_of_ble_eq_true rfl) ?_
          show bq_W _ _ _ _ _ 66 _ [_, _] _ _ _ _ _ _
          refine q_iadd (pc := 66) dX12_readsDigits_66 ?_
          refine q_bipush (pc := 67) (v := nI 48) dX12_readsDigits_67 (by decide) ?_
          refine q_isub (pc := 69) dX12_readsDigits_69 ?_
          refine q_istore_n (pc := 70) dX12_readsDigits_70 rfl (Nat.le_of_ble_eq_true rfl) rfl ?_
          show bq_W _ _ _ _ _ 71 [_, _, _, _] _ _ _ _ _ _ _
          refine q_aload_n (pc := 71) dX12_readsDigits_71 rfl rfl ?_
          refine q_dup (pc := 72) dX12_readsDigits_72 rfl ?_
          refine q_getI (pc := 73) dX12_readsDigits_73 fX12_178 (Model_sh hm) ⟨by decide, rfl⟩ (Model_lt hm) ?_
          rw [hp2]
          refine q_iconst (pc := 76) (v := nI 1) dX12_readsDigits_76 (by decide) ?_
          refine q_iaddN (pc := 77) dX12_readsDigits_77 ?_
          refine q_putI (pc := 78) dX12_readsDigits_78 (pX12_178 _) (Model_sh hm) ⟨by decide, rfl⟩ (Model_lt hm) ?_
          refine q_iinc (pc := 81) (v := nI ((K - (k + 1)) + 1)) dX12_readsDigits_81 rfl (bq_inc _) (Nat.le_of_ble_eq_true rfl) rfl ?_
          show bq_W _ _ _ _ _ 84 [_, _, _, _] _ _ _ _ _ _ _
          refine q_goto (pc := 84) 32 dX12_readsDigits_84 (by decide) ?_
          rw [show K - (k + 1) + 1 = K - k by omega]
          exact ihk (by omega) _ _ (q + 1) (hT.p (q := q + 1) hlt) ((bq_u_ne (by omega)).trans hF) hv
    have lp2 := lp K (Nat.le_refl _)
    rw [Nat.sub_self] at lp2
    exact lp2 _ _ p (T.w (s := (p, false)) (w := false) (by decide)) (bq_u_ne (by omega)) rfl
  · replace c_16 := bq_nb0.mp c_16
    have hd : ¬ dgt (hr B l p) := not_not_intro c_16
    refine q_iconst (pc := 19) (v := nI 1) dX12_readsDigits_19 (by decide) ?_
    refine q_goto (pc := 20) 24 dX12_readsDigits_20 (by decide) ?_
    refine q_ior (pc := 24) dX12_readsDigits_24 ?_
    refine q_putZ (pc := 25) dX12_readsDigits_25 (pX12_181 _) (Model_sh hm) ⟨by decide, rfl⟩ (by decide) (Model_lt hm) ?_
    refine q_iconst (pc := 28) (v := nI 0) dX12_readsDigits_28 (by decide) ?_
    refine q_istore_n (pc := 29) dX12_readsDigits_29 rfl (Nat.le_of_ble_eq_true rfl) rfl ?_
    show bq_W _ _ _ _ _ 30 [_, _, _, _] _ _ _ _ _ _ _
    refine q_iconst (pc := 30) (v := nI 0) dX12_readsDigits_30 (by decide) ?_
    refine q_istore_n (pc := 31) dX12_readsDigits_31 rfl (Nat.le_of_ble_eq_true rfl) rfl ?_
    show bq_W _ _ _ _ _ 32 [_, _, _, _] _ _ _ _ _ _ _
    rw [show pM B l K (p, false) = (nI 0, (p, true)) from if_neg (fun z => hd z.2)]
    refine q_aload_n (pc := 32) dX12_readsDigits_32 rfl rfl ?_
    refine q_getI (pc := 33) dX12_readsDigits_33 fX12_181 (Model_sh hm) ⟨by decide, rfl⟩ (Model_lt hm) ?_
    rw [bq_u_at]
    refine q_if_ne (pc := 36) 87 dX12_readsDigits_36 (by decide) (fun c_36 => ?_) (fun c_36 => ((absurd c_36 (by decide) : False)).elim)
    refine q_iload_n (pc := 87) dX12_readsDigits_87 rfl rfl ?_
    exact q_iret (st := []) (pc := 88) dX12_readsDigits_88 rfl ⟨rfl, rfl, rfl, rfl, rfl, T.w (s := (p, _)) (w := true) (by decide), by rw [bq_u_ne (by omega)]⟩
theorem c_rdig {S : BqH} {n : Nat} {I : BqI} {L : BqL} {P : BqP} {m K : Nat} {I0 : BqI} {B : Nat → Int32} {l : Nat} {s : BqT} (hm : oModel S n P m) (T : MT m I0 I B l s) (hK : K ≤ 4) : bq_Sp mX12_readsDigits 2 34 0 0 [.ref m, .int (nI K)] S n I L P (qT m I0 I S n L P B l (some (.int (pM B l K s).1)) ((pM B l K s).2)) := by
  match s, T with
  | (p, false), T => exact c_rdig_f hm T hK
  | (p, true), T => exact c_rdig_t hm T hK
