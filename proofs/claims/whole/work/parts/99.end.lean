/-! the model's reading of a text -/
def MT (m : Nat) (I0 I : BqI) (B : Nat → Int32) (l : Nat) (s : BqT) : Prop := I m 18 = nI s.1 ∧ I m 19 = (if s.2 = true then nI 1 else nI 0) ∧ I m 9 = nI l ∧ I (m + 5) = B ∧ s.1 ≤ l ∧ l ≤ 60 ∧ (∀ a, a ≠ m → a ≠ m + 13 → I a = I0 a) ∧ ∀ k, k ≠ 18 → k ≠ 19 → I m k = I0 m k
def qT (m : Nat) (I0 I : BqI) (S : BqH) (n : Nat) (L : BqL) (P : BqP) (B : Nat → Int32) (l : Nat) (v : Option Value) (s : BqT) : BqQ := fun r S' n' I' L' P' => r = v ∧ S' = S ∧ n' = n ∧ L' = L ∧ P' = P ∧ MT m I0 I' B l s ∧ I' (m + 13) = I (m + 13)
theorem MT.set {m l q : Nat} {I0 I : BqI} {B : Nat → Int32} {s : BqT} {v : Int32} {w : Bool} (T : MT m I0 I B l s) (hv : v = (if w = true then nI 1 else nI 0)) (hq : q ≤ l) : MT m I0 (bq_u (bq_u I m 19 v) m 18 (nI q)) B l (q, w) := by
  obtain ⟨h1, h2, h3, h4, h5, h6, h7, h8⟩ := T
  refine ⟨bq_u_at _ _ _ _, ?_, ?_, ?_, hq, h6, fun a q1 q2 => ?_, fun k q1 q2 => ?_⟩
  · rw [bq_u_no (by omega), bq_u_at]; exact hv
  · rw [bq_u_no (by omega), bq_u_no (by omega)]; exact h3
  · rw [bq_u_ne (by omega), bq_u_ne (by omega)]; exact h4
  · rw [bq_u_ne q1, bq_u_ne q1]; exact h7 a q1 q2
  · rw [bq_u_no (fun z => q1 z.2), bq_u_no (fun z => q2 z.2)]; exact h8 k q1 q2
theorem MT.w {m l : Nat} {I0 I : BqI} {B : Nat → Int32} {s : BqT} {v : Int32} {w : Bool} (T : MT m I0 I B l s) (hv : v = (if w = true then nI 1 else nI 0)) : MT m I0 (bq_u I m 19 v) B l (s.1, w) := by
  obtain ⟨h1, h2, h3, h4, h5, h6, h7, h8⟩ := T
  refine ⟨(bq_u_no (by omega)).trans h1, (bq_u_at _ _ _ _).trans hv, (bq_u_no (by omega)).trans h3, (bq_u_ne (by omega)).trans h4, h5, h6, fun a q1 q2 => ?_, fun k q1 q2 => ?_⟩
  · rw [bq_u_ne q1]; exact h7 a q1 q2
  · rw [bq_u_no (fun z => q2 z.2)]; exact h8 k q1 q2
theorem MT.p {m l q : Nat} {I0 I : BqI} {B : Nat → Int32} {s : BqT} (T : MT m I0 I B l s) (hq : q ≤ l) : MT m I0 (bq_u I m 18 (nI q)) B l (q, s.2) := by
  obtain ⟨h1, h2, h3, h4, h5, h6, h7, h8⟩ := T
  refine ⟨bq_u_at _ _ _ _, (bq_u_no (by omega)).trans h2, (bq_u_no (by omega)).trans h3, (bq_u_ne (by omega)).trans h4, hq, h6, fun a q1 q2 => ?_, fun k q1 q2 => ?_⟩
  · rw [bq_u_ne q1]; exact h7 a q1 q2
  · rw [bq_u_no (fun z => q1 z.2)]; exact h8 k q1 q2
theorem MT.t {m l k : Nat} {I0 I : BqI} {B : Nat → Int32} {s : BqT} {v : Int32} (T : MT m I0 I B l s) : MT m I0 (bq_u I (m + 13) k v) B l s := by
  obtain ⟨h1, h2, h3, h4, h5, h6, h7, h8⟩ := T
  refine ⟨?_, ?_, ?_, ?_, h5, h6, fun a q1 q2 => ?_, fun k q1 q2 => ?_⟩
  · rw [bq_u_ne (by omega)]; exact h1
  · rw [bq_u_ne (by omega)]; exact h2
  · rw [bq_u_ne (by omega)]; exact h3
  · rw [bq_u_ne (by omega)]; exact h4
  · rw [bq_u_ne q2]; exact h7 a q1 q2
  · rw [bq_u_ne (by omega)]; exact h8 k q1 q2
/-- most digits, as the model reads them -/
def pM (B : Nat → Int32) (l K : Nat) (s : BqT) : Int32 × BqT := if pg B l s then pL B l K (nI 0) s else (nI 0, (s.1, true))
theorem pL_s {B : Nat → Int32} {l k : Nat} {v : Int32} {s : BqT} (c : pg B l s) : pL B l (k + 1) v s = pL B l k (v * nI 10 + (hr B l s.1 - nI 48)) (s.1 + 1, false) := if_pos c
theorem pL_n {B : Nat → Int32} {l k : Nat} {v : Int32} {s : BqT} (c : ¬ pg B l s) : pL B l (k + 1) v s = (v, s) := if_neg c
theorem z_10 (h : Int32) : nI 0 * nI 10 + h = h := by
  rw [show nI 0 * nI 10 = 0 from rfl, Int32.zero_add]
theorem m_10 (v h : Int32) : nI 10 * v + h - nI 48 = v * nI 10 + (h - nI 48) := by
  rw [Int32.mul_comm, Int32.sub_eq_add_neg, Int32.sub_eq_add_neg, Int32.add_assoc]
theorem pM_1 {B : Nat → Int32} {l : Nat} {s : BqT} : pM B l 1 s = pD B l s := by
  unfold pM pD
  by_cases c : pg B l s
  · rw [if_pos c, if_pos c, pL_s c, z_10]; rfl
  · rw [if_neg c, if_neg c]
theorem pM_4 {B : Nat → Int32} {l : Nat} {s : BqT} : pM B l 4 s = pN B l s := by
  unfold pM pN pD
  by_cases c : pg B l s
  · rw [if_pos c, if_pos c, pL_s c, z_10]
  · rw [if_neg c, if_neg c, pL_n (fun z => Bool.noConfusion z.1)]
/-- a command as the model keeps it: letter, and three numbers in the order in which they are read -/
def wm (g : BqG) (a b c d : Int32) : Int32 × BqG := if a = nI 116 then w_pour g b c d else if a = nI 108 then w_spill g b c d else if a = nI 102 then w_fill g b c else if a = nI 99 then w_scrub g b else w_pass g b
def Cn (F : Nat → Int32) (t : Nat) (k : BqC) : Prop := ∀ g : BqG, wm g (F t) (F (t + 1)) (F (t + 2)) (F (t + 3)) = wk g k
theorem wm_116 {g : BqG} {b c d : Int32} : wm g (nI 116) b c d = w_pour g b c d := if_pos rfl
theorem wm_108 {g : BqG} {b c d : Int32} : wm g (nI 108) b c d = w_spill g b c d := (if_neg (by decide)).trans (if_pos rfl)
theorem wm_102 {g : BqG} {b c d : Int32} : wm g (nI 102) b c d = w_fill g b c := (if_neg (by decide)).trans ((if_neg (by decide)).trans (if_pos rfl))
theorem wm_99 {g : BqG} {b c d : Int32} : wm g (nI 99) b c d = w_scrub g b := (if_neg (by decide)).trans ((if_neg (by decide)).trans ((if_neg (by decide)).trans (if_pos rfl)))
theorem wm_100 {g : BqG} {b c d : Int32} : wm g (nI 100) b c d = w_pass g b := (if_neg (by decide)).trans ((if_neg (by decide)).trans ((if_neg (by decide)).trans (if_neg (by decide))))
def qTc (m : Nat) (I : BqI) (S : BqH) (n : Nat) (L : BqL) (P : BqP) (B : Nat → Int32) (l t : Nat) (c : BqT × BqC) : BqQ := fun r S' n' I' L' P' => r = none ∧ S' = S ∧ n' = n ∧ L' = L ∧ P' = P ∧ MT m I I' B l c.1 ∧ (c.1.2 = false → Cn (I' (m + 13)) t c.2) ∧ ∀ j, j < t ∨ t + 4 ≤ j → I' (m + 13) j = I (m + 13) j
set_option maxHeartbeats 1000000 in
set_option maxRecDepth 20000 in
theorem c_X12_here {S : BqH} {n : Nat} {I : BqI} {L : BqL} {P : BqP} {m p : Nat} {B : Nat → Int32} {l : Nat} (hm : oModel S n P m) (hp : I m 18 = nI p) (hl : I m 9 = nI l) (hb : I (m + 5) = B) (hl60 : l ≤ 60) (hpl : p ≤ l) : bq_Sp mX12_here 1 12 0 0 [.ref m] S n I L P (bq_F (some (.int (hr B l p))) S n I L P) := by
  refine q_entry (vs := [some (.ref m)]) (by decide +kernel) (by simp) (Nat.le_of_ble_eq_true rfl) rfl ?_
  refine q_aload_n (pc := 0) dX12_here_0 rfl rfl ?_
  refine q_getI (pc := 1) dX12_here_1 fX12_178 (Model_sh hm) ⟨by decide, rfl⟩ (Model_lt hm) ?_
  rw [hp]
  refine q_aload_n (pc := 4) dX12_here_4 rfl rfl ?_
  refine q_getI (pc := 5) dX12_here_5 fX12_175 (Model_sh hm) ⟨by decide, rfl⟩ (Model_lt hm) ?_
  rw [hl]
  refine q_icmp_ge (pc := 8) 23 dX12_here_8 (by decide) (fun c_8 => ?_) (fun c_8 => ?_)
  · refine q_iconst (pc := 23) (v := (-1)) dX12_here_23 (by decide) ?_
    exact q_iret (st := []) (pc := 24) dX12_here_24 rfl ⟨by first | rw [hr_no (fun z => nI_ge z (by omega) c_8)] | rw [hr_in hlt, hb], rfl, rfl, rfl, rfl, rfl⟩
  · have hlt : p < l := Nat.lt_of_not_le (fun z => c_8 (nI_le z (by omega)))
    refine q_aload_n (pc := 11) dX12_here_11 rfl rfl ?_
    refine q_getP (pc := 12) dX12_here_12 fX12_22 (Model_sh hm) ⟨by decide, rfl⟩ (Model_lt hm) (Model_p_tape hm) ?_
    refine q_aload_n (pc := 15) dX12_here_15 rfl rfl ?_
    refine q_getI (pc := 16) dX12_here_16 fX12_178 (Model_sh hm) ⟨by decide, rfl⟩ (Model_lt hm) ?_
    rw [hp]
    refine q_iald (pc := 19) dX12_here_19 (oA_sh (Model_s_tape hm)) (oA_lt (Model_s_tape hm)) rfl (by omega) ?_
    refine q_goto (pc := 20) 24 dX12_here_20 (by decide) ?_
    exact q_iret (st := []) (pc := 24) dX12_here_24 rfl ⟨by first | rw [hr_no (fun z => nI_ge z (by omega) c_8)] | rw [hr_in hlt, hb], rfl, rfl, rfl, rfl, rfl⟩
set_option maxHeartbeats 1000000 in
set_option maxRecDepth 20000 in
theorem c_reads_f {S : BqH} {n : Nat} {I : BqI} {L : BqL} {P : BqP} {m p c : Nat} {I0 : BqI} {B : Nat → Int32} {l : Nat} (hm : oModel S n P m) (T : MT m I0 I B l (p, false)) (hc : c < 128) : bq_Sp mX12_reads 2 32 0 0 [.ref m, .int (nI c)] S n I L P (qT m I0 I S n L P B l (none) (pS B l (nI c) (p, false))) := by
  refine q_entry (vs := [some (.ref m), some (.int (nI c))]) (by decide +kernel) (by simp) (Nat.le_of_ble_eq_true rfl) rfl ?_
  have hw : I m 19 = nI 0 := T.2.1
  have hp : I m 18 = nI p := T.1
  have hpl : p ≤ l := T.2.2.2.2.1
  refine q_aload_n (pc := 0) dX12_reads_0 rfl rfl ?_
  refine q_dup (pc := 1) dX12_reads_1 rfl ?_
  refine q_getI (pc := 2) dX12_reads_2 fX12_181 (Model_sh hm) ⟨by decide, rfl⟩ (Model_lt hm) ?_
  rw [hw]
  refine q_aload_n (pc := 5) dX12_reads_5 rfl rfl ?_
  refine q_callVF (pc := 6) dX12_reads_6 kX12_184 (c_X12_here hm T.1 T.2.2.1 T.2.2.2.1 T.2.2.2.2.2.1 T.2.2.2.2.1) (Model_sh hm) rfl (Model_lt hm) ⟨Nat.le_of_ble_eq_true rfl, Nat.le_of_ble_eq_true rfl⟩ rfl rfl (Nat.le_of_ble_eq_true rfl) ?_
  show bq_W _ _ _ _ _ 9 _ [_, _, _] _ _ _ _ _ _
  refine q_iload_n (pc := 9) dX12_reads_9 rfl rfl ?_
  refine q_icmp_eq (pc := 10) 17 dX12_reads_10 (by decide) (fun c_10 => ?_) (fun c_10 => ?_)
  · have hlt := hr_lt hc c_10
    rw [show pS B l (nI c) (p, false) = (p + 1, false) from if_pos ⟨rfl, c_10⟩]
    refine q_iconst (pc := 17) (v := nI 0) dX12_reads_17 (by decide) ?_
    refine q_ior (pc := 18) dX12_reads_18 ?_
    refine q_putZ (pc := 19) dX12_reads_19 (pX12_181 _) (Model_sh hm) ⟨by decide, rfl⟩ (by decide) (Model_lt hm) ?_
    refine q_aload_n (pc := 22) dX12_reads_22 rfl rfl ?_
    refine q_dup (pc := 23) dX12_reads_23 rfl ?_
    refine q_getI (pc := 24) dX12_reads_24 fX12_178 (Model_sh hm) ⟨by decide, rfl⟩ (Model_lt hm) ?_
    rw [bq_u_no (by omega), hp]
    refine q_aload_n (pc := 27) dX12_reads_27 rfl rfl ?_
    refine q_getI (pc := 28) dX12_reads_28 fX12_181 (Model_sh hm) ⟨by decide, rfl⟩ (Model_lt hm) ?_
    rw [bq_u_at]
    refine q_if_eq (pc := 31) 38 dX12_reads_31 (by decide) (fun c_31 => ?_) (fun c_31 => absurd (by decide) c_31)
    refine q_iconst (pc := 38) (v := nI 1) dX12_reads_38 (by decide) ?_
    refine q_iaddN (pc := 39) dX12_reads_39 ?_
    refine q_putI (pc := 40) dX12_reads_40 (pX12_178 _) (Model_sh hm) ⟨by decide, rfl⟩ (Model_lt hm) ?_
    exact q_vret (st := []) (pc := 43) dX12_reads_43 rfl ⟨rfl, rfl, rfl, rfl, rfl, by first | exact T.set (w := false) (by decide) (by omega) | exact T.set (w := true) (by decide) hpl, by rw [bq_u_ne (by omega), bq_u_ne (by omega)]⟩
  · rw [show pS B l (nI c) (p, false) = (p, true) from if_neg (fun z => c_10 z.2)]
    refine q_iconst (pc := 13) (v := nI 1) dX12_reads_13 (by decide) ?_
    refine q_goto (pc := 14) 18 dX12_reads_14 (by decide) ?_
    refine q_ior (pc := 18) dX12_reads_18 ?_
    refine q_putZ (pc := 19) dX12_reads_19 (pX12_181 _) (Model_sh hm) ⟨by decide, rfl⟩ (by decide) (Model_lt hm) ?_
    refine q_aload_n (pc := 22) dX12_reads_22 rfl rfl ?_
    refine q_dup (pc := 23) dX12_reads_23 rfl ?_
    refine q_getI (pc := 24) dX12_reads_24 fX12_178 (Model_sh hm) ⟨by decide, rfl⟩ (Model_lt hm) ?_
    rw [bq_u_no (by omega), hp]
    refine q_aload_n (pc := 27) dX12_reads_27 rfl rfl ?_
    refine q_getI (pc := 28) dX12_reads_28 fX12_181 (Model_sh hm) ⟨by decide, rfl⟩ (Model_lt hm) ?_
    rw [bq_u_at]
    refine q_if_eq (pc := 31) 38 dX12_reads_31 (by decide) (fun c_31 => absurd c_31 (by decide)) (fun c_31 => ?_)
    refine q_iconst (pc := 34) (v := nI 0) dX12_reads_34 (by decide) ?_
    refine q_goto (pc := 35) 39 dX12_reads_35 (by decide) ?_
    refine q_iaddN (pc := 39) dX12_reads_39 ?_
    refine q_putI (pc := 40) dX12_reads_40 (pX12_178 _) (Model_sh hm) ⟨by decide, rfl⟩ (Model_lt hm) ?_
    exact q_vret (st := []) (pc := 43) dX12_reads_43 rfl ⟨rfl, rfl, rfl, rfl, rfl, by first | exact T.set (w := false) (by decide) (by omega) | exact T.set (w := true) (by decide) hpl, by rw [bq_u_ne (by omega), bq_u_ne (by omega)]⟩
set_option maxHeartbeats 1000000 in
set_option maxRecDepth 20000 in
theorem c_reads_t {S : BqH} {n : Nat} {I : BqI} {L : BqL} {P : BqP} {m p c : Nat} {I0 : BqI} {B : Nat → Int32} {l : Nat} (hm : oModel S n P m) (T : MT m I0 I B l (p, true)) (hc : c < 128) : bq_Sp mX12_reads 2 32 0 0 [.ref m, .int (nI c)] S n I L P (qT m I0 I S n L P B l (none) (pS B l (nI c) (p, true))) := by
  refine q_entry (vs := [some (.ref m), some (.int (nI c))]) (by decide +kernel) (by simp) (Nat.le_of_ble_eq_true rfl) rfl ?_
  have hw : I m 19 = nI 1 := T.2.1
  have hp : I m 18 = nI p := T.1
  have hpl : p ≤ l := T.2.2.2.2.1
  refine q_aload_n (pc := 0) dX12_reads_0 rfl rfl ?_
  refine q_dup (pc := 1) dX12_reads_1 rfl ?_
  refine q_getI (pc := 2) dX12_reads_2 fX12_181 (Model_sh hm) ⟨by decide, rfl⟩ (Model_lt hm) ?_
  rw [hw]
  refine q_aload_n (pc := 5) dX12_reads_5 rfl rfl ?_
  refine q_callVF (pc := 6) dX12_reads_6 kX12_184 (c_X12_here hm T.1 T.2.2.1 T.2.2.2.1 T.2.2.2.2.2.1 T.2.2.2.2.1) (Model_sh hm) rfl (Model_lt hm) ⟨Nat.le_of_ble_eq_true rfl, Nat.le_of_ble_eq_true rfl⟩ rfl rfl (Nat.le_of_ble_eq_true rfl) ?_
  show bq_W _ _ _ _ _ 9 _ [_, _, _] _ _ _ _ _ _
  refine q_iload_n (pc := 9) dX12_reads_9 rfl rfl ?_
  refine q_icmp_eq (pc := 10) 17 dX12_reads_10 (by decide) (fun c_10 => ?_) (fun c_10 => ?_)
  · rw [show pS B l (nI c) (p, true) = (p, true) from if_neg (fun z => Bool.noConfusion z.1)]
    refine q_iconst (pc := 17) (v := nI 0) dX12_reads_17 (by decide) ?_
    refine q_ior (pc := 18) dX12_reads_18 ?_
    refine q_putZ (pc := 19) dX12_reads_19 (pX12_181 _) (Model_sh hm) ⟨by decide, rfl⟩ (by decide) (Model_lt hm) ?_
    refine q_aload_n (pc := 22) dX12_reads_22 rfl rfl ?_
    refine q_dup (pc := 23) dX12_reads_23 rfl ?_
    refine q_getI (pc := 24) dX12_reads_24 fX12_178 (Model_sh hm) ⟨by decide, rfl⟩ (Model_lt hm) ?_
    rw [bq_u_no (by omega), hp]
    refine q_aload_n (pc := 27) dX12_reads_27 rfl rfl ?_
    refine q_getI (pc := 28) dX12_reads_28 fX12_181 (Model_sh hm) ⟨by decide, rfl⟩ (Model_lt hm) ?_
    rw [bq_u_at]
    refine q_if_eq (pc := 31) 38 dX12_reads_31 (by decide) (fun c_31 => absurd c_31 (by decide)) (fun c_31 => ?_)
    refine q_iconst (pc := 34) (v := nI 0) dX12_reads_34 (by decide) ?_
    refine q_goto (pc := 35) 39 dX12_reads_35 (by decide) ?_
    refine q_iaddN (pc := 39) dX12_reads_39 ?_
    refine q_putI (pc := 40) dX12_reads_40 (pX12_178 _) (Model_sh hm) ⟨by decide, rfl⟩ (Model_lt hm) ?_
    exact q_vret (st := []) (pc := 43) dX12_reads_43 rfl ⟨rfl, rfl, rfl, rfl, rfl, by first | exact T.set (w := false) (by decide) (by omega) | exact T.set (w := true) (by decide) hpl, by rw [bq_u_ne (by omega), bq_u_ne (by omega)]⟩
  · rw [show pS B l (nI c) (p, true) = (p, true) from if_neg (fun z => Bool.noConfusion z.1)]
    refine q_iconst (pc := 13) (v := nI 1) dX12_reads_13 (by decide) ?_
    refine q_goto (pc := 14) 18 dX12_reads_14 (by decide) ?_
    refine q_ior (pc := 18) dX12_reads_18 ?_
    refine q_putZ (pc := 19) dX12_reads_19 (pX12_181 _) (Model_sh hm) ⟨by decide, rfl⟩ (by decide) (Model_lt hm) ?_
    refine q_aload_n (pc := 22) dX12_reads_22 rfl rfl ?_
    refine q_dup (pc := 23) dX12_reads_23 rfl ?_
    refine q_getI (pc := 24) dX12_reads_24 fX12_178 (Model_sh hm) ⟨by decide, rfl⟩ (Model_lt hm) ?_
    rw [bq_u_no (by omega), hp]
    refine q_aload_n (pc := 27) dX12_reads_27 rfl rfl ?_
    refine q_getI (pc := 28) dX12_reads_28 fX12_181 (Model_sh hm) ⟨by decide, rfl⟩ (Model_lt hm) ?_
    rw [bq_u_at]
    refine q_if_eq (pc := 31) 38 dX12_reads_31 (by decide) (fun c_31 => absurd c_31 (by decide)) (fun c_31 => ?_)
    refine q_iconst (pc := 34) (v := nI 0) dX12_reads_34 (by decide) ?_
    refine q_goto (pc := 35) 39 dX12_reads_35 (by decide) ?_
    refine q_iaddN (pc := 39) dX12_reads_39 ?_
    refine q_putI (pc := 40) dX12_reads_40 (pX12_178 _) (Model_sh hm) ⟨by decide, rfl⟩ (Model_lt hm) ?_
    exact q_vret (st := []) (pc := 43) dX12_reads_43 rfl ⟨rfl, rfl, rfl, rfl, rfl, by first | exact T.set (w := false) (by decide) (by omega) | exact T.set (w := true) (by decide) hpl, by rw [bq_u_ne (by omega), bq_u_ne (by omega)]⟩
theorem c_reads {S : BqH} {n : Nat} {I : BqI} {L : BqL} {P : BqP} {m c : Nat} {I0 : BqI} {B : Nat → Int32} {l : Nat} {s : BqT} (hm : oModel S n P m) (T : MT m I0 I B l s) (hc : c < 128) : bq_Sp mX12_reads 2 32 0 0 [.ref m, .int (nI c)] S n I L P (qT m I0 I S n L P B l (none) (pS B l (nI c) s)) := by
  match s, T with
  | (p, false), T => exact c_reads_f hm T hc
  | (p, true), T => exact c_reads_t hm T hc
set_option maxHeartbeats 1040000 in
set_option maxRecDepth 20000 in
theorem c_rdig_t {S : BqH} {n : Nat} {I : BqI} {L : BqL} {P : BqP} {m p K : Nat} {I0 : BqI} {B : Nat → Int32} {l : Nat} (hm : oModel S n P m) (T : MT m I0 I B l (p, true)) (hK : K ≤ 4) : bq_Sp mX12_readsDigits 2 34 0 0 [.ref m, .int (nI K)] S n I L P (qT m I0 I S n L P B l (some (.int (pM B l K (p, true)).1)) ((pM B l K (p, true)).2)) := by
  refine q_entry (vs := [some (.ref m), some (.int (nI K)), none, none]) (by decide +kernel) (by simp) (Nat.le_of_ble_eq_true rfl) rfl ?_
  have hw : I m 19 = nI 1 := T.2.1
  have hpl : p ≤ l := T.2.2.2.2.1
  refine q_aload_n (pc := 0) dX12_readsDigits_0 rfl rfl ?_
  refine q_dup (pc := 1) dX12_readsDigits_1 rfl ?_
  refine q_getI (pc := 2) dX12_readsDigits_2 fX12_181 (Model_sh hm) ⟨by decide, rfl⟩ (Model_lt hm) ?_
  rw [hw]
  refine q_aload_n (pc := 5) dX12_readsDigits_5 rfl rfl ?_
  refine q_callVF (pc := 6) dX12_readsDigits_6 kX12_184 (c_X12_here hm T.1 T.2.2.1 T.2.2.2.1 T.2.2.2.2.2.1 T.2.2.2.2.1) (Model_sh hm) rfl (Model_lt hm) ⟨Nat.le_of_ble_eq_true rfl, Nat.le_of_ble_eq_true rfl⟩ rfl rfl (Nat.le_of_ble_eq_true rfl) ?_
  show bq_W _ _ _ _ _ 9 _ [_, _, _] _ _ _ _ _ _
  refine q_bipush (pc := 9) (v := nI 48) dX12_readsDigits_9 (by decide) ?_
  refine q_bipush (pc := 11) (v := nI 57) dX12_readsDigits_11 (by decide) ?_
  refine q_callSF (pc := 13) dX12_readsDigits_13 kX12_69 c_X12_in ⟨Nat.le_of_ble_eq_true rfl, Nat.le_of_ble_eq_true rfl⟩ rfl rfl (Nat.le_of_ble_eq_true rfl) ?_
  show bq_W _ _ _ _ _ 16 _ [_, _, _] _ _ _ _ _ _
  refine q_if_ne (pc := 16) 23 dX12_readsDigits_16 (by decide) (fun c_16 => ?_) (fun c_16 => ?_)
  · replace c_16 := bq_nbn.mp c_16
    have hd : dgt (hr B l p) := c_16
    refine q_iconst (pc := 23) (v := nI 0) dX12_readsDigits_23 (by decide) ?_
    refine q_ior (pc := 24) dX12_readsDigits_24 ?_
    refine q_putZ (pc := 25) dX12_readsDigits_25 (pX12_181 _) (Model_sh hm) ⟨by decide, rfl⟩ (by decide) (Model_lt hm) ?_
    refine q_iconst (pc := 28) (v := nI 0) dX12_readsDigits_28 (by decide) ?_
    refine q_istore_n (pc := 29) dX12_readsDigits_29 rfl (Nat.le_of_ble_eq_true rfl) rfl ?_
    show bq_W _ _ _ _ _ 30 [_, _, _, _] _ _ _ _ _ _ _
    refine q_iconst (pc := 30) (v := nI 0) dX12_readsDigits_30 (by decide) ?_
    refine q_istore_n (pc := 31) dX12_readsDigits_31 rfl (Nat.le_of_ble_eq_true rfl) rfl ?_
    show bq_W _ _ _ _ _ 32 [_, _, _, _] _ _ _ _ _ _ _
    rw [show pM B l K (p, true) = (nI 0, (p, true)) from if_neg (fun z => Bool.noConfusion z.1)]
    refine q_aload_n (pc := 32) dX12_readsDigits_32 rfl rfl ?_
    refine q_getI (pc := 33) dX12_readsDigits_33 fX12_181 (Model_sh hm) ⟨by decide, rfl⟩ (Model_lt hm) ?_
    rw [bq_u_at]
    refine q_if_ne (pc := 36) 87 dX12_readsDigits_36 (by decide) (fun c_36 => ?_) (fun c_36 => ((absurd c_36 (by decide) : False)).elim)
    refine q_iload_n (pc := 87) dX12_readsDigits_87 rfl rfl ?_
    exact q_iret (st := []) (pc := 88) dX12_readsDigits_88 rfl ⟨rfl, rfl, rfl, rfl, rfl, T.w (s := (p, _)) (w := true) (by decide), by rw [bq_u_ne (by omega)]⟩
  · replace c_16 := bq_nb0.mp c_16
    have hd : ¬ dgt (hr B l p) := not_not_intro c_16
    refine q_iconst (pc := 19) (v := nI 1) dX12_readsDigits_19 (by decide) ?_
    refine q_goto (pc := 20) 24 dX12_readsDigits_20 (by decide) ?_
    refine q_ior (pc := 24) dX12_readsDigits_24 ?_
    refine q_putZ (pc := 25) dX12_readsDigits_25 (pX12_181 _) (Model_sh hm) ⟨by decide, rfl⟩ (by decide) (Model_lt hm) ?_
    refine q_iconst (pc := 28) (v := nI 0) dX12_readsDigits_28 (by decide) ?_
    refine q_istore_n (pc := 29) dX12_readsDigits_29 rfl (Nat.le_of_ble_eq_true rfl) rfl ?_
    show bq_W _ _ _ _ _ 30 [_, _, _, _] _ _ _ _ _ _ _
    refine q_iconst (pc := 30) (v := nI 0) dX12_readsDigits_30 (by decide) ?_
    refine q_istore_n (pc := 31) dX12_readsDigits_31 rfl (Nat.le_of_ble_eq_true rfl) rfl ?_
    show bq_W _ _ _ _ _ 32 [_, _, _, _] _ _ _ _ _ _ _
    rw [show pM B l K (p, true) = (nI 0, (p, true)) from if_neg (fun z => Bool.noConfusion z.1)]
    refine q_aload_n (pc := 32) dX12_readsDigits_32 rfl rfl ?_
    refine q_getI (pc := 33) dX12_readsDigits_33 fX12_181 (Model_sh hm) ⟨by decide, rfl⟩ (Model_lt hm) ?_
    rw [bq_u_at]
    refine q_if_ne (pc := 36) 87 dX12_readsDigits_36 (by decide) (fun c_36 => ?_) (fun c_36 => ((absurd c_36 (by decide) : False)).elim)
    refine q_iload_n (pc := 87) dX12_readsDigits_87 rfl rfl ?_
    exact q_iret (st := []) (pc := 88) dX12_readsDigits_88 rfl ⟨rfl, rfl, rfl, rfl, rfl, T.w (s := (p, _)) (w := true) (by decide), by rw [bq_u_ne (by omega)]⟩
set_option maxHeartbeats 2300000 in
set_option maxRecDepth 20000 in
theorem c_rdig_f {S : BqH} {n : Nat} {I : BqI} {L : BqL} {P : BqP} {m p K : Nat} {I0 : BqI} {B : Nat → Int32} {l : Nat} (hm : oModel S n P m) (T : MT m I0 I B l (p, false)) (hK : K ≤ 4) : bq_Sp mX12_readsDigits 2 34 0 0 [.ref m, .int (nI K)] S n I L P (qT m I0 I S n L P B l (some (.int (pM B l K (p, false)).1)) ((pM B l K (p, false)).2)) := by
  refine q_entry (vs := [some (.ref m), some (.int (nI K)), none, none]) (by decide +kernel) (by simp) (Nat.le_of_ble_eq_true rfl) rfl ?_
  have hw : I m 19 = nI 0 := T.2.1
  have hpl : p ≤ l := T.2.2.2.2.1
  refine q_aload_n (pc := 0) dX12_readsDigits_0 rfl rfl ?_
  refine q_dup (pc := 1) dX12_readsDigits_1 rfl ?_
  refine q_getI (pc := 2) dX12_readsDigits_2 fX12_181 (Model_sh hm) ⟨by decide, rfl⟩ (Model_lt hm) ?_
  rw [hw]
  refine q_aload_n (pc := 5) dX12_readsDigits_5 rfl rfl ?_
  refine q_callVF (pc := 6) dX12_readsDigits_6 kX12_184 (c_X12_here hm T.1 T.2.2.1 T.2.2.2.1 T.2.2.2.2.2.1 T.2.2.2.2.1) (Model_sh hm) rfl (Model_lt hm) ⟨Nat.le_of_ble_eq_true rfl, Nat.le_of_ble_eq_true rfl⟩ rfl rfl (Nat.le_of_ble_eq_true rfl) ?_
  show bq_W _ _ _ _ _ 9 _ [_, _, _] _ _ _ _ _ _
  refine q_bipush (pc := 9) (v := nI 48) dX12_readsDigits_9 (by decide) ?_
  refine q_bipush (pc := 11) (v := nI 57) dX12_readsDigits_11 (by decide) ?_
  refine q_callSF (pc := 13) dX12_readsDigits_13 kX12_69 c_X12_in ⟨Nat.le_of_ble_eq_true rfl, Nat.le_of_ble_eq_true rfl⟩ rfl rfl (Nat.le_of_ble_eq_true rfl) ?_
  show bq_W _ _ _ _ _ 16 _ [_, _, _] _ _ _ _ _ _
  refine q_if_ne (pc := 16) 23 dX12_readsDigits_16 (by decide) (fun c_16 => ?_) (fun c_16 => ?_)
  · replace c_16 := bq_nbn.mp c_16
    have hd : dgt (hr B l p) := c_16
    refine q_iconst (pc := 23) (v := nI 0) dX12_readsDigits_23 (by decide) ?_
    refine q_ior (pc := 24) dX12_readsDigits_24 ?_
    refine q_putZ (pc := 25) dX12_readsDigits_25 (pX12_181 _) (Model_sh hm) ⟨by decide, rfl⟩ (by decide) (Model_lt hm) ?_
    refine q_iconst (pc := 28) (v := nI 0) dX12_readsDigits_28 (by decide) ?_
    refine q_istore_n (pc := 29) dX12_readsDigits_29 rfl (Nat.le_of_ble_eq_true rfl) rfl ?_
    show bq_W _ _ _ _ _ 30 [_, _, _, _] _ _ _ _ _ _ _
    refine q_iconst (pc := 30) (v := nI 0) dX12_readsDigits_30 (by decide) ?_
    refine q_istore_n (pc := 31) dX12_readsDigits_31 rfl (Nat.le_of_ble_eq_true rfl) rfl ?_
    show bq_W _ _ _ _ _ 32 [_, _, _, _] _ _ _ _ _ _ _
    rw [show pM B l K (p, false) = pL B l K (nI 0) (p, false) from if_pos ⟨rfl, hd⟩]
    have lp : ∀ k, k ≤ K → ∀ (J : BqI) (v : Int32) (q : Nat), MT m I0 J B l (q, false) → J (m + 13) = I (m + 13) → pL B l k v (q, false) = pL B l K (nI 0) (p, false) → bq_W mX12_readsDigits 2 34 0 0 32 [some (.ref m), some (.int (nI K)), some (.int v), some (.int (nI (K - k)))] [] S n J L P (qT m I0 I S n L P B l (some (.int (pL B l K (nI 0) (p, false)).1)) ((pL B l K (nI 0) (p, false)).2)) := by
      intro k
      induction k with
      | zero =>
        intro hk J v q hT hF hv
        have hw2 : J m 19 = nI 0 := hT.2.1
        refine q_aload_n (pc := 32) dX12_readsDigits_32 rfl rfl ?_
        refine q_getI (pc := 33) dX12_readsDigits_33 fX12_181 (Model_sh hm) ⟨by decide, rfl⟩ (Model_lt hm) ?_
        rw [hw2]
        refine q_if_ne (pc := 36) 87 dX12_readsDigits_36 (by decide) (fun c_36 => absurd c_36 (by decide)) (fun c_36 => ?_)
        refine q_iload_n (pc := 39) dX12_readsDigits_39 rfl rfl ?_
        refine q_iload_n (pc := 40) dX12_readsDigits_40 rfl rfl ?_
        refine q_icmp_ge (pc := 41) 87 dX12_readsDigits_41 (by decide) (fun c_41 => ?_) (fun c_41 => absurd (nI_le (show K ≤ K - 0 by omega) (by omega)) c_41)
        refine q_iload_n (pc := 87) dX12_readsDigits_87 rfl rfl ?_
        exact q_iret (st := []) (pc := 88) dX12_readsDigits_88 rfl ⟨by rw [← hv]; rfl, rfl, rfl, rfl, rfl, by rw [← hv]; exact hT, hF⟩
      | succ k ihk =>
        intro hk J v q hT hF hv
        have hw2 : J m 19 = nI 0 := hT.2.1
        have hp2 : J m 18 = nI q := hT.1
        refine q_aload_n (pc := 32) dX12_readsDigits_32 rfl rfl ?_
        refine q_getI (pc := 33) dX12_readsDigits_33 fX12_181 (Model_sh hm) ⟨by decide, rfl⟩ (Model_lt hm) ?_
        rw [hw2]
        refine q_if_ne (pc := 36) 87 dX12_readsDigits_36 (by decide) (fun c_36 => absurd c_36 (by decide)) (fun c_36 => ?_)
        refine q_iload_n (pc := 39) dX12_readsDigits_39 rfl rfl ?_
        refine q_iload_n (pc := 40) dX12_readsDigits_40 rfl rfl ?_
        refine q_icmp_ge (pc := 41) 87 dX12_readsDigits_41 (by decide) (fun c_41 => absurd c_41 (nI_ge (show K - (k + 1) < K by omega) (by omega))) (fun c_41 => ?_)
        refine q_aload_n (pc := 44) dX12_readsDigits_44 rfl rfl ?_
        refine q_callVF (pc := 45) dX12_readsDigits_45 kX12_184 (c_X12_here hm hT.1 hT.2.2.1 hT.2.2.2.1 hT.2.2.2.2.2.1 hT.2.2.2.2.1) (Model_sh hm) rfl (Model_lt hm) ⟨Nat.le_of_ble_eq_true rfl, Nat.le_of_ble_eq_true rfl⟩ rfl rfl (Nat.le_of_ble_eq_true rfl) ?_
        show bq_W _ _ _ _ _ 48 _ [_] _ _ _ _ _ _
        refine q_bipush (pc := 48) (v := nI 48) dX12_readsDigits_48 (by decide) ?_
        refine q_bipush (pc := 50) (v := nI 57) dX12_readsDigits_50 (by decide) ?_
        refine q_callSF (pc := 52) dX12_readsDigits_52 kX12_69 c_X12_in ⟨Nat.le_of_ble_eq_true rfl, Nat.le_of_ble_eq_true rfl⟩ rfl rfl (Nat.le_of_ble_eq_true rfl) ?_
        show bq_W _ _ _ _ _ 55 _ [_] _ _ _ _ _ _
        refine q_if_eq (pc := 55) 87 dX12_readsDigits_55 (by decide) (fun c_55 => ?_) (fun c_55 => ?_)
        · replace c_55 := bq_nb0.mp c_55
          have hn : ¬ pg B l (q, false) := fun z => z.2 c_55
          rw [pL_n hn] at hv
          refine q_iload_n (pc := 87) dX12_readsDigits_87 rfl rfl ?_
          exact q_iret (st := []) (pc := 88) dX12_readsDigits_88 rfl ⟨by rw [← hv], rfl, rfl, rfl, rfl, by rw [← hv]; exact hT, hF⟩
        · replace c_55 := bq_nbn.mp c_55
          have hy : pg B l (q, false) := ⟨rfl, c_55⟩
          have hlt : q < l := dgt_lt c_55
          rw [pL_s hy, ← m_10] at hv
          refine q_bipush (pc := 58) (v := nI 10) dX12_readsDigits_58 (by decide) ?_
          refine q_iload_n (pc := 60) dX12_readsDigits_60 rfl rfl ?_
          refine q_imul (pc := 61) dX12_readsDigits_61 ?_
          refine q_aload_n (pc := 62) dX12_readsDigits_62 rfl rfl ?_
          refine q_callVF (pc := 63) dX12_readsDigits_63 kX12_184 (c_X12_here hm hT.1 hT.2.2.1 hT.2.2.2.1 hT.2.2.2.2.2.1 hT.2.2.2.2.1) (Model_sh hm) rfl (Model_lt hm) ⟨Nat.le_of_ble_eq_true rfl, Nat.le_of_ble_eq_true rfl⟩ rfl rfl (Nat.le_of_ble_eq_true rfl) ?_
          show bq_W _ _ _ _ _ 66 _ [_, _] _ _ _ _ _ _
          refine q_iadd (pc := 66) dX12_readsDigits_66 ?_
          refine q_bipush (pc := 67) (v := nI 48) dX12_readsDigits_67 (by decide) ?_
          refine q_isub (pc := 69) dX12_readsDigits_69 ?_
          refine q_istore_n (pc := 70) dX12_readsDigits_70 rfl (Nat.le_of_ble_eq_true rfl) rfl ?_
          show bq_W _ _ _ _ _ 71 [_, _, _, _] _ _ _ _ _ _ _
          refine q_aload_n (pc := 71) dX12_readsDigits_71 rfl rfl ?_
          refine q_dup (pc := 72) dX12_readsDigits_72 rfl ?_
          refine q_getI (pc := 73) dX12_readsDigits_73 fX12_178 (Model_sh hm) ⟨by decide, rfl⟩ (Model_lt hm) ?_
          rw [hp2]
          refine q_iconst (pc := 76) (v := nI 1) dX12_readsDigits_76 (by decide) ?_
          refine q_iaddN (pc := 77) dX12_readsDigits_77 ?_
          refine q_putI (pc := 78) dX12_readsDigits_78 (pX12_178 _) (Model_sh hm) ⟨by decide, rfl⟩ (Model_lt hm) ?_
          refine q_iinc (pc := 81) (v := nI ((K - (k + 1)) + 1)) dX12_readsDigits_81 rfl (bq_inc _) (Nat.le_of_ble_eq_true rfl) rfl ?_
          show bq_W _ _ _ _ _ 84 [_, _, _, _] _ _ _ _ _ _ _
          refine q_goto (pc := 84) 32 dX12_readsDigits_84 (by decide) ?_
          rw [show K - (k + 1) + 1 = K - k by omega]
          exact ihk (by omega) _ _ (q + 1) (hT.p (q := q + 1) hlt) ((bq_u_ne (by omega)).trans hF) hv
    have lp2 := lp K (Nat.le_refl _)
    rw [Nat.sub_self] at lp2
    exact lp2 _ _ p (T.w (s := (p, false)) (w := false) (by decide)) (bq_u_ne (by omega)) rfl
  · replace c_16 := bq_nb0.mp c_16
    have hd : ¬ dgt (hr B l p) := not_not_intro c_16
    refine q_iconst (pc := 19) (v := nI 1) dX12_readsDigits_19 (by decide) ?_
    refine q_goto (pc := 20) 24 dX12_readsDigits_20 (by decide) ?_
    refine q_ior (pc := 24) dX12_readsDigits_24 ?_
    refine q_putZ (pc := 25) dX12_readsDigits_25 (pX12_181 _) (Model_sh hm) ⟨by decide, rfl⟩ (by decide) (Model_lt hm) ?_
    refine q_iconst (pc := 28) (v := nI 0) dX12_readsDigits_28 (by decide) ?_
    refine q_istore_n (pc := 29) dX12_readsDigits_29 rfl (Nat.le_of_ble_eq_true rfl) rfl ?_
    show bq_W _ _ _ _ _ 30 [_, _, _, _] _ _ _ _ _ _ _
    refine q_iconst (pc := 30) (v := nI 0) dX12_readsDigits_30 (by decide) ?_
    refine q_istore_n (pc := 31) dX12_readsDigits_31 rfl (Nat.le_of_ble_eq_true rfl) rfl ?_
    show bq_W _ _ _ _ _ 32 [_, _, _, _] _ _ _ _ _ _ _
    rw [show pM B l K (p, false) = (nI 0, (p, true)) from if_neg (fun z => hd z.2)]
    refine q_aload_n (pc := 32) dX12_readsDigits_32 rfl rfl ?_
    refine q_getI (pc := 33) dX12_readsDigits_33 fX12_181 (Model_sh hm) ⟨by decide, rfl⟩ (Model_lt hm) ?_
    rw [bq_u_at]
    refine q_if_ne (pc := 36) 87 dX12_readsDigits_36 (by decide) (fun c_36 => ?_) (fun c_36 => ((absurd c_36 (by decide) : False)).elim)
    refine q_iload_n (pc := 87) dX12_readsDigits_87 rfl rfl ?_
    exact q_iret (st := []) (pc := 88) dX12_readsDigits_88 rfl ⟨rfl, rfl, rfl, rfl, rfl, T.w (s := (p, _)) (w := true) (by decide), by rw [bq_u_ne (by omega)]⟩
theorem c_rdig {S : BqH} {n : Nat} {I : BqI} {L : BqL} {P : BqP} {m K : Nat} {I0 : BqI} {B : Nat → Int32} {l : Nat} {s : BqT} (hm : oModel S n P m) (T : MT m I0 I B l s) (hK : K ≤ 4) : bq_Sp mX12_readsDigits 2 34 0 0 [.ref m, .int (nI K)] S n I L P (qT m I0 I S n L P B l (some (.int (pM B l K s).1)) ((pM B l K s).2)) := by
  match s, T with
  | (p, false), T => exact c_rdig_f hm T hK
  | (p, true), T => exact c_rdig_t hm T hK
/-! the model's command read, done; the run -/
theorem MT.mk0 {m l p : Nat} {I : BqI} {B : Nat → Int32} {v : Int32} {w : Bool} (hp : I m 18 = nI p) (hl : I m 9 = nI l) (hb : I (m + 5) = B) (hl60 : l ≤ 60) (hpl : p ≤ l) (hv : v = (if w = true then nI 1 else nI 0)) : MT m I (bq_u I m 19 v) B l (p, w) :=
  ⟨(bq_u_no (by omega)).trans hp, (bq_u_at _ _ _ _).trans hv, (bq_u_no (by omega)).trans hl, (bq_u_ne (by omega)).trans hb, hpl, hl60, fun a q1 _ => bq_u_ne q1, fun k _ q2 => bq_u_no (fun z => q2 z.2)⟩
theorem MT.te {m l k : Nat} {I0 I J : BqI} {B : Nat → Int32} {s : BqT} {v : Int32} (T : MT m I0 I B l s) (e : J = bq_u I (m + 13) k v) : MT m I0 J B l s := by
  subst e
  exact T.t
theorem Ft {m k : Nat} {I J : BqI} {F : Nat → Int32} {v : Int32} (G : I (m + 13) = F) (e : J = bq_u I (m + 13) k v) : J (m + 13) = bq_r F k v := by
  rw [e, bq_u_r, bq_r_self, G]
section
variable {R : Nat → Int32} {t : Nat} {a b c d : Int32}
theorem td_2 : bq_r (bq_r R t a) (t + 1) b t = a ∧ bq_r (bq_r R t a) (t + 1) b (t + 1) = b := by
  refine ⟨?_, bq_r_self⟩
  rw [bq_r_ne (by omega), bq_r_self]
theorem td_3 : bq_r (bq_r (bq_r R t a) (t + 1) b) (t + 2) c t = a ∧ bq_r (bq_r (bq_r R t a) (t + 1) b) (t + 2) c (t + 1) = b ∧ bq_r (bq_r (bq_r R t a) (t + 1) b) (t + 2) c (t + 2) = c := by
  refine ⟨?_, ?_, bq_r_self⟩
  · rw [bq_r_ne (by omega), bq_r_ne (by omega), bq_r_self]
  · rw [bq_r_ne (by omega), bq_r_self]
theorem td_4 : bq_r (bq_r (bq_r (bq_r R t a) (t + 1) b) (t + 2) c) (t + 3) d t = a ∧ bq_r (bq_r (bq_r (bq_r R t a) (t + 1) b) (t + 2) c) (t + 3) d (t + 1) = b ∧ bq_r (bq_r (bq_r (bq_r R t a) (t + 1) b) (t + 2) c) (t + 3) d (t + 2) = c ∧ bq_r (bq_r (bq_r (bq_r R t a) (t + 1) b) (t + 2) c) (t + 3) d (t + 3) = d := by
  refine ⟨?_, ?_, ?_, bq_r_self⟩
  · rw [bq_r_ne (by omega), bq_r_ne (by omega), bq_r_ne (by omega), bq_r_self]
  · rw [bq_r_ne (by omega), bq_r_ne (by omega), bq_r_self]
  · rw [bq_r_ne (by omega), bq_r_self]
end
theorem Cn_99 {F R : Nat → Int32} {t : Nat} {a x y : Int32} (e : F = bq_r (bq_r R t (nI 99)) (t + 1) a) : Cn F t (nI 99, a, x, y) := fun g => by
  subst e
  rw [td_2.1, td_2.2, wm_99]
  exact wd_99.symm
theorem Cn_100 {F R : Nat → Int32} {t : Nat} {a x y : Int32} (e : F = bq_r (bq_r R t (nI 100)) (t + 1) a) : Cn F t (nI 100, x, y, a) := fun g => by
  subst e
  rw [td_2.1, td_2.2, wm_100]
  exact wd_100.symm
theorem Cn_102 {F R : Nat → Int32} {t : Nat} {a b x : Int32} (e : F = bq_r (bq_r (bq_r R t (nI 102)) (t + 1) a) (t + 2) b) : Cn F t (nI 102, a, x, b) := fun g => by
  subst e
  rw [td_3.1, td_3.2.1, td_3.2.2, wm_102]
  exact wd_102.symm
theorem Cn_108 {F R : Nat → Int32} {t : Nat} {a b c : Int32} (e : F = bq_r (bq_r (bq_r (bq_r R t (nI 108)) (t + 1) a) (t + 2) b) (t + 3) c) : Cn F t (nI 108, a, c, b) := fun g => by
  subst e
  rw [td_4.1, td_4.2.1, td_4.2.2.1, td_4.2.2.2, wm_108]
  exact wd_108.symm
theorem Cn_116 {F R : Nat → Int32} {t : Nat} {a b c : Int32} (e : F = bq_r (bq_r (bq_r (bq_r R t (nI 116)) (t + 1) a) (t + 2) b) (t + 3) c) : Cn F t (nI 116, a, b, c) := fun g => by
  subst e
  rw [td_4.1, td_4.2.1, td_4.2.2.1, td_4.2.2.2, wm_116]
  exact wd_116.symm
theorem Cn.fr {F F' : Nat → Int32} {t : Nat} {k : BqC} (h : Cn F t k) (e : ∀ j, t ≤ j → j < t + 4 → F' j = F j) : Cn F' t k := fun g => by
  rw [e t (by omega) (by omega), e (t + 1) (by omega) (by omega), e (t + 2) (by omega) (by omega), e (t + 3) (by omega) (by omega)]
  exact h g
set_option maxHeartbeats 8200000 in
set_option maxRecDepth 20000 in
theorem c_rcmd {S : BqH} {n : Nat} {I : BqI} {L : BqL} {P : BqP} {m p t : Nat} {B : Nat → Int32} {l : Nat} (hm : oModel S n P m) (hp : I m 18 = nI p) (hl : I m 9 = nI l) (hb : I (m + 5) = B) (hl60 : l ≤ 60) (hpl : p ≤ l) (ht : t + 3 < 240) : bq_Sp mX12_readsCommand 3 57 0 0 [.ref m, .int (nI t)] S n I L P (qTc m I S n L P B l t (pC B l p)) := by
  refine q_entry (vs := [some (.ref m), some (.int (nI t)), none]) (by decide +kernel) (by simp) (Nat.le_of_ble_eq_true rfl) rfl ?_
  refine q_aload_n (pc := 0) dX12_readsCommand_0 rfl rfl ?_
  refine q_callVF (pc := 1) dX12_readsCommand_1 kX12_184 (c_X12_here hm hp hl hb hl60 hpl) (Model_sh hm) rfl (Model_lt hm) ⟨Nat.le_of_ble_eq_true rfl, Nat.le_of_ble_eq_true rfl⟩ rfl rfl (Nat.le_of_ble_eq_true rfl) ?_
  show bq_W _ _ _ _ _ 4 _ [_] _ _ _ _ _ _
  refine q_istore_n (pc := 4) dX12_readsCommand_4 rfl (Nat.le_of_ble_eq_true rfl) rfl ?_
  show bq_W _ _ _ _ _ 5 [_, _, _] _ _ _ _ _ _ _
  refine q_aload_n (pc := 5) dX12_readsCommand_5 rfl rfl ?_
  refine q_iload_n (pc := 6) dX12_readsCommand_6 rfl rfl ?_
  refine q_bipush (pc := 7) (v := nI 116) dX12_readsCommand_7 (by decide) ?_
  refine q_icmp_eq (pc := 9) 40 dX12_readsCommand_9 (by decide) (fun c_9 => ?_) (fun c_9 => ?_)
  · have hlt := hr_lt (by decide) c_9
    rw [show pC B l p = pc_t B l (p + 1, false) from by unfold pC; rw [c_9, if_neg (by decide), if_neg (by decide), if_neg (by decide), if_neg (by decide), if_pos rfl]]
    rw [c_9]
    refine q_iconst (pc := 40) (v := nI 0) dX12_readsCommand_40 (by decide) ?_
    refine q_putZ (pc := 41) dX12_readsCommand_41 (pX12_181 _) (Model_sh hm) ⟨by decide, rfl⟩ (by decide) (Model_lt hm) ?_
    refine q_aload_n (pc := 44) dX12_readsCommand_44 rfl rfl ?_
    refine q_getI (pc := 45) dX12_readsCommand_45 fX12_181 (Model_sh hm) ⟨by decide, rfl⟩ (Model_lt hm) ?_
    rw [bq_u_at]
    refine q_if_eq (pc := 48) 52 dX12_readsCommand_48 (by decide) (fun c_48 => ?_) (fun c_48 => absurd rfl c_48)
    refine q_aload_n (pc := 52) dX12_readsCommand_52 rfl rfl ?_
    refine q_dup (pc := 53) dX12_readsCommand_53 rfl ?_
    refine q_getI (pc := 54) dX12_readsCommand_54 fX12_178 (Model_sh hm) ⟨by decide, rfl⟩ (Model_lt hm) ?_
    rw [bq_u_no (by omega), hp]
    refine q_iconst (pc := 57) (v := nI 1) dX12_readsCommand_57 (by decide) ?_
    refine q_iaddN (pc := 58) dX12_readsCommand_58 ?_
    refine q_putI (pc := 59) dX12_readsCommand_59 (pX12_178 _) (Model_sh hm) ⟨by decide, rfl⟩ (Model_lt hm) ?_
    refine q_aload_n (pc := 62) dX12_readsCommand_62 rfl rfl ?_
    refine q_getP (pc := 63) dX12_readsCommand_63 fX12_47 (Model_sh hm) ⟨by decide, rfl⟩ (Model_lt hm) (Model_p_told hm) ?_
    refine q_iload_n (pc := 66) dX12_readsCommand_66 rfl rfl ?_
    refine q_iload_n (pc := 67) dX12_readsCommand_67 rfl rfl ?_
    refine q_iast (pc := 68) dX12_readsCommand_68 (oA_sh (Model_s_told hm)) (oA_lt (Model_s_told hm)) rfl (by omega) ?_
    refine q_nameI (fun J0 e0 => ?_)
    have T0 : MT m I J0 B l (p + 1, false) := by rw [e0]; exact ((MT.mk0 (w := false) hp hl hb hl60 hpl rfl).p (q := p + 1) hlt).t
    have F0 : J0 (m + 13) = (bq_r (I (m + 13)) t (nI 116)) := by rw [e0, bq_u_r, bq_r_self, bq_u_ne (show m + 13 ≠ m by omega), bq_u_ne (show m + 13 ≠ m by omega)]
    refine q_aload_n (pc := 69) dX12_readsCommand_69 rfl rfl ?_
    refine q_getP (pc := 70) dX12_readsCommand_70 fX12_47 (Model_sh hm) ⟨by decide, rfl⟩ (Model_lt hm) (Model_p_told hm) ?_
    refine q_iload_n (pc := 73) dX12_readsCommand_73 rfl rfl ?_
    refine q_iconst (pc := 74) (v := nI 1) dX12_readsCommand_74 (by decide) ?_
    refine q_iaddN (pc := 75) dX12_readsCommand_75 ?_
    refine q_aload_n (pc := 76) dX12_readsCommand_76 rfl rfl ?_
    refine q_iload_n (pc := 77) dX12_readsCommand_77 rfl rfl ?_
    refine q_bipush (pc := 78) (v := nI 100) dX12_readsCommand_78 (by decide) ?_
    refine q_icmp_ne (pc := 80) 87 dX12_readsCommand_80 (by decide) (fun c_80 => ?_) (fun c_80 => ((absurd c_80 (by decide) : False)).elim)
    refine q_iconst (pc := 87) (v := nI 1) dX12_readsCommand_87 (by decide) ?_
    refine q_callV (pc := 88) dX12_readsCommand_88 kX12_187 (c_rdig hm T0 (K := 1) (by decide)) (Model_sh hm) rfl (Model_lt hm) ⟨Nat.le_of_ble_eq_true rfl, Nat.le_of_ble_eq_true rfl⟩ rfl rfl (Nat.le_of_ble_eq_true rfl) ?_
    rintro _ S1 n1 I1 L1 P1 ⟨rfl, eS1, en1, eL1, eP1, T1, G1⟩
    subst S1 n1 L1 P1
    show bq_W _ _ _ _ _ 91 _ [_, _, _] _ _ _ _ _ _
    rw [pM_1] at T1
    rw [pM_1]
    refine q_iast (pc := 91) dX12_readsCommand_91 (oA_sh (Model_s_told hm)) (oA_lt (Model_s_told hm)) rfl (by omega) ?_
    refine q_nameI (fun J1 e1 => ?_)
    have T1x := T1.te e1
    have F1 := Ft (G1.trans F0) e1
    refine q_iload_n (pc := 92) dX12_readsCommand_92 rfl rfl ?_
    refine q_bipush (pc := 93) (v := nI 116) dX12_readsCommand_93 (by decide) ?_
    refine q_icmp_ne (pc := 95) 139 dX12_readsCommand_95 (by decide) (fun c_95 => absurd c_95 (by decide)) (fun c_95 => ?_)
    refine q_aload_n (pc := 98) dX12_readsCommand_98 rfl rfl ?_
    refine q_bipush (pc := 99) (v := nI 62) dX12_readsCommand_99 (by decide) ?_
    refine q_callV (pc := 101) dX12_readsCommand_101 kX12_190 (c_reads hm T1x (c := 62) (by decide)) (Model_sh hm) rfl (Model_lt hm) ⟨Nat.le_of_ble_eq_true rfl, Nat.le_of_ble_eq_true rfl⟩ rfl rfl (Nat.le_of_ble_eq_true rfl) ?_
    rintro _ S2 n2 I2 L2 P2 ⟨rfl, eS2, en2, eL2, eP2, T2, G2⟩
    subst S2 n2 L2 P2
    show bq_W _ _ _ _ _ 104 _ [] _ _ _ _ _ _
    refine q_aload_n (pc := 104) dX12_readsCommand_104 rfl rfl ?_
    refine q_getP (pc := 105) dX12_readsCommand_105 fX12_47 (Model_sh hm) ⟨by decide, rfl⟩ (Model_lt hm) (Model_p_told hm) ?_
    refine q_iload_n (pc := 108) dX12_readsCommand_108 rfl rfl ?_
    refine q_iconst (pc := 109) (v := nI 2) dX12_readsCommand_109 (by decide) ?_
    refine q_iaddN (pc := 110) dX12_readsCommand_110 ?_
    refine q_aload_n (pc := 111) dX12_readsCommand_111 rfl rfl ?_
    refine q_iconst (pc := 112) (v := nI 1) dX12_readsCommand_112 (by decide) ?_
    refine q_callV (pc := 113) dX12_readsCommand_113 kX12_187 (c_rdig hm T2 (K := 1) (by decide)) (Model_sh hm) rfl (Model_lt hm) ⟨Nat.le_of_ble_eq_true rfl, Nat.le_of_ble_eq_true rfl⟩ rfl rfl (Nat.le_of_ble_eq_true rfl) ?_
    rintro _ S3 n3 I3 L3 P3 ⟨rfl, eS3, en3, eL3, eP3, T3, G3⟩
    subst S3 n3 L3 P3
    show bq_W _ _ _ _ _ 116 _ [_, _, _] _ _ _ _ _ _
    rw [pM_1] at T3
    rw [pM_1]
    refine q_iast (pc := 116) dX12_readsCommand_116 (oA_sh (Model_s_told hm)) (oA_lt (Model_s_told hm)) rfl (by omega) ?_
    refine q_nameI (fun J3 e3 => ?_)
    have T3x := T3.te e3
    have F3 := Ft (G3.trans (G2.trans F1)) e3
    refine q_aload_n (pc := 117) dX12_readsCommand_117 rfl rfl ?_
    refine q_bipush (pc := 118) (v := nI 58) dX12_readsCommand_118 (by decide) ?_
    refine q_callV (pc := 120) dX12_readsCommand_120 kX12_190 (c_reads hm T3x (c := 58) (by decide)) (Model_sh hm) rfl (Model_lt hm) ⟨Nat.le_of_ble_eq_true rfl, Nat.le_of_ble_eq_true rfl⟩ rfl rfl (Nat.le_of_ble_eq_true rfl) ?_
    rintro _ S4 n4 I4 L4 P4 ⟨rfl, eS4, en4, eL4, eP4, T4, G4⟩
    subst S4 n4 L4 P4
    show bq_W _ _ _ _ _ 123 _ [] _ _ _ _ _ _
    refine q_aload_n (pc := 123) dX12_readsCommand_123 rfl rfl ?_
    refine q_getP (pc := 124) dX12_readsCommand_124 fX12_47 (Model_sh hm) ⟨by decide, rfl⟩ (Model_lt hm) (Model_p_told hm) ?_
    refine q_iload_n (pc := 127) dX12_readsCommand_127 rfl rfl ?_
    refine q_iconst (pc := 128) (v := nI 3) dX12_readsCommand_128 (by decide) ?_
    refine q_iaddN (pc := 129) dX12_readsCommand_129 ?_
    refine q_aload_n (pc := 130) dX12_readsCommand_130 rfl rfl ?_
    refine q_iconst (pc := 131) (v := nI 4) dX12_readsCommand_131 (by decide) ?_
    refine q_callV (pc := 132) dX12_readsCommand_132 kX12_187 (c_rdig hm T4 (K := 4) (by decide)) (Model_sh hm) rfl (Model_lt hm) ⟨Nat.le_of_ble_eq_true rfl, Nat.le_of_ble_eq_true rfl⟩ rfl rfl (Nat.le_of_ble_eq_true rfl) ?_
    rintro _ S5 n5 I5 L5 P5 ⟨rfl, eS5, en5, eL5, eP5, T5, G5⟩
    subst S5 n5 L5 P5
    show bq_W _ _ _ _ _ 135 _ [_, _, _] _ _ _ _ _ _
    rw [pM_4] at T5
    rw [pM_4]
    refine q_iast (pc := 135) dX12_readsCommand_135 (oA_sh (Model_s_told hm)) (oA_lt (Model_s_told hm)) rfl (by omega) ?_
    refine q_nameI (fun J5 e5 => ?_)
    have T5x := T5.te e5
    have F5 := Ft (G5.trans (G4.trans F3)) e5
    refine q_goto (pc := 136) 211 dX12_readsCommand_136 (by decide) ?_
    exact q_vret (st := []) (pc := 211) dX12_readsCommand_211 rfl ⟨rfl, rfl, rfl, rfl, rfl, T5x, fun _ => Cn_116 F5, fun j hj => by rw [F5, bq_r_ne (by omega), bq_r_ne (by omega), bq_r_ne (by omega), bq_r_ne (by omega)]⟩
  · refine q_iload_n (pc := 12) dX12_readsCommand_12 rfl rfl ?_
    refine q_bipush (pc := 13) (v := nI 108) dX12_readsCommand_13 (by decide) ?_
    refine q_icmp_eq (pc := 15) 40 dX12_readsCommand_15 (by decide) (fun c_15 => ?_) (fun c_15 => ?_)
    · have hlt := hr_lt (by decide) c_15
      rw [show pC B l p = pc_l B l (p + 1, false) from by unfold pC; rw [c_15, if_neg (by decide), if_neg (by decide), if_neg (by decide), if_pos rfl]]
      rw [c_15]
      refine q_iconst (pc := 40) (v := nI 0) dX12_readsCommand_40 (by decide) ?_
      refine q_putZ (pc := 41) dX12_readsCommand_41 (pX12_181 _) (Model_sh hm) ⟨by decide, rfl⟩ (by decide) (Model_lt hm) ?_
      refine q_aload_n (pc := 44) dX12_readsCommand_44 rfl rfl ?_
      refine q_getI (pc := 45) dX12_readsCommand_45 fX12_181 (Model_sh hm) ⟨by decide, rfl⟩ (Model_lt hm) ?_
      rw [bq_u_at]
      refine q_if_eq (pc := 48) 52 dX12_readsCommand_48 (by decide) (fun c_48 => ?_) (fun c_48 => absurd rfl c_48)
      refine q_aload_n (pc := 52) dX12_readsCommand_52 rfl rfl ?_
      refine q_dup (pc := 53) dX12_readsCommand_53 rfl ?_
      refine q_getI (pc := 54) dX12_readsCommand_54 fX12_178 (Model_sh hm) ⟨by decide, rfl⟩ (Model_lt hm) ?_
      rw [bq_u_no (by omega), hp]
      refine q_iconst (pc := 57) (v := nI 1) dX12_readsCommand_57 (by decide) ?_
      refine q_iaddN (pc := 58) dX12_readsCommand_58 ?_
      refine q_putI (pc := 59) dX12_readsCommand_59 (pX12_178 _) (Model_sh hm) ⟨by decide, rfl⟩ (Model_lt hm) ?_
      refine q_aload_n (pc := 62) dX12_readsCommand_62 rfl rfl ?_
      refine q_getP (pc := 63) dX12_readsCommand_63 fX12_47 (Model_sh hm) ⟨by decide, rfl⟩ (Model_lt hm) (Model_p_told hm) ?_
      refine q_iload_n (pc := 66) dX12_readsCommand_66 rfl rfl ?_
      refine q_iload_n (pc := 67) dX12_readsCommand_67 rfl rfl ?_
      refine q_iast (pc := 68) dX12_readsCommand_68 (oA_sh (Model_s_told hm)) (oA_lt (Model_s_told hm)) rfl (by omega) ?_
      refine q_nameI (fun J0 e0 => ?_)
      have T0 : MT m I J0 B l (p + 1, false) := by rw [e0]; exact ((MT.mk0 (w := false) hp hl hb hl60 hpl rfl).p (q := p + 1) hlt).t
      have F0 : J0 (m + 13) = (bq_r (I (m + 13)) t (nI 108)) := by rw [e0, bq_u_r, bq_r_self, bq_u_ne (show m + 13 ≠ m by omega), bq_u_ne (show m + 13 ≠ m by omega)]
      refine q_aload_n (pc := 69) dX12_readsCommand_69 rfl rfl ?_
      refine q_getP (pc := 70) dX12_readsCommand_70 fX12_47 (Model_sh hm) ⟨by decide, rfl⟩ (Model_lt hm) (Model_p_told hm) ?_
      refine q_iload_n (pc := 73) dX12_readsCommand_73 rfl rfl ?_
      refine q_iconst (pc := 74) (v := nI 1) dX12_readsCommand_74 (by decide) ?_
      refine q_iaddN (pc := 75) dX12_readsCommand_75 ?_
      refine q_aload_n (pc := 76) dX12_readsCommand_76 rfl rfl ?_
      refine q_iload_n (pc := 77) dX12_readsCommand_77 rfl rfl ?_
      refine q_bipush (pc := 78) (v := nI 100) dX12_readsCommand_78 (by decide) ?_
      refine q_icmp_ne (pc := 80) 87 dX12_readsCommand_80 (by decide) (fun c_80 => ?_) (fun c_80 => ((absurd c_80 (by decide) : False)).elim)
      refine q_iconst (pc := 87) (v := nI 1) dX12_readsCommand_87 (by decide) ?_
      refine q_callV (pc := 88) dX12_readsCommand_88 kX12_187 (c_rdig hm T0 (K := 1) (by decide)) (Model_sh hm) rfl (Model_lt hm) ⟨Nat.le_of_ble_eq_true rfl, Nat.le_of_ble_eq_true rfl⟩ rfl rfl (Nat.le_of_ble_eq_true rfl) ?_
      rintro _ S1 n1 I1 L1 P1 ⟨rfl, eS1, en1, eL1, eP1, T1, G1⟩
      subst S1 n1 L1 P1
      show bq_W _ _ _ _ _ 91 _ [_, _, _] _ _ _ _ _ _
      rw [pM_1] at T1
      rw [pM_1]
      refine q_iast (pc := 91) dX12_readsCommand_91 (oA_sh (Model_s_told hm)) (oA_lt (Model_s_told hm)) rfl (by omega) ?_
      refine q_nameI (fun J1 e1 => ?_)
      have T1x := T1.te e1
      have F1 := Ft (G1.trans F0) e1
      refine q_iload_n (pc := 92) dX12_readsCommand_92 rfl rfl ?_
      refine q_bipush (pc := 93) (v := nI 116) dX12_readsCommand_93 (by decide) ?_
      refine q_icmp_ne (pc := 95) 139 dX12_readsCommand_95 (by decide) (fun c_95 => ?_) (fun c_95 => ((absurd c_95 (by decide) : False)).elim)
      refine q_iload_n (pc := 139) dX12_readsCommand_139 rfl rfl ?_
      refine q_bipush (pc := 140) (v := nI 108) dX12_readsCommand_140 (by decide) ?_
      refine q_icmp_ne (pc := 142) 186 dX12_readsCommand_142 (by decide) (fun c_142 => absurd c_142 (by decide)) (fun c_142 => ?_)
      refine q_aload_n (pc := 145) dX12_readsCommand_145 rfl rfl ?_
      refine q_bipush (pc := 146) (v := nI 58) dX12_readsCommand_146 (by decide) ?_
      refine q_callV (pc := 148) dX12_readsCommand_148 kX12_190 (c_reads hm T1x (c := 58) (by decide)) (Model_sh hm) rfl (Model_lt hm) ⟨Nat.le_of_ble_eq_true rfl, Nat.le_of_ble_eq_true rfl⟩ rfl rfl (Nat.le_of_ble_eq_true rfl) ?_
      rintro _ S2 n2 I2 L2 P2 ⟨rfl, eS2, en2, eL2, eP2, T2, G2⟩
      subst S2 n2 L2 P2
      show bq_W _ _ _ _ _ 151 _ [] _ _ _ _ _ _
      refine q_aload_n (pc := 151) dX12_readsCommand_151 rfl rfl ?_
      refine q_getP (pc := 152) dX12_readsCommand_152 fX12_47 (Model_sh hm) ⟨by decide, rfl⟩ (Model_lt hm) (Model_p_told hm) ?_
      refine q_iload_n (pc := 155) dX12_readsCommand_155 rfl rfl ?_
      refine q_iconst (pc := 156) (v := nI 2) dX12_readsCommand_156 (by decide) ?_
      refine q_iaddN (pc := 157) dX12_readsCommand_157 ?_
      refine q_aload_n (pc := 158) dX12_readsCommand_158 rfl rfl ?_
      refine q_iconst (pc := 159) (v := nI 4) dX12_readsCommand_159 (by decide) ?_
      refine q_callV (pc := 160) dX12_readsCommand_160 kX12_187 (c_rdig hm T2 (K := 4) (by decide)) (Model_sh hm) rfl (Model_lt hm) ⟨Nat.le_of_ble_eq_true rfl, Nat.le_of_ble_eq_true rfl⟩ rfl rfl (Nat.le_of_ble_eq_true rfl) ?_
      rintro _ S3 n3 I3 L3 P3 ⟨rfl, eS3, en3, eL3, eP3, T3, G3⟩
      subst S3 n3 L3 P3
      show bq_W _ _ _ _ _ 163 _ [_, _, _] _ _ _ _ _ _
      rw [pM_4] at T3
      rw [pM_4]
      refine q_iast (pc := 163) dX12_readsCommand_163 (oA_sh (Model_s_told hm)) (oA_lt (Model_s_told hm)) rfl (by omega) ?_
      refine q_nameI (fun J3 e3 => ?_)
      have T3x := T3.te e3
      have F3 := Ft (G3.trans (G2.trans F1)) e3
      refine q_aload_n (pc := 164) dX12_readsCommand_164 rfl rfl ?_
      refine q_bipush (pc := 165) (v := nI 47) dX12_readsCommand_165 (by decide) ?_
      refine q_callV (pc := 167) dX12_readsCommand_167 kX12_190 (c_reads hm T3x (c := 47) (by decide)) (Model_sh hm) rfl (Model_lt hm) ⟨Nat.le_of_ble_eq_true rfl, Nat.le_of_ble_eq_true rfl⟩ rfl rfl (Nat.le_of_ble_eq_true rfl) ?_
      rintro _ S4 n4 I4 L4 P4 ⟨rfl, eS4, en4, eL4, eP4, T4, G4⟩
      subst S4 n4 L4 P4
      show bq_W _ _ _ _ _ 170 _ [] _ _ _ _ _ _
      refine q_aload_n (pc := 170) dX12_readsCommand_170 rfl rfl ?_
      refine q_getP (pc := 171) dX12_readsCommand_171 fX12_47 (Model_sh hm) ⟨by decide, rfl⟩ (Model_lt hm) (Model_p_told hm) ?_
      refine q_iload_n (pc := 174) dX12_readsCommand_174 rfl rfl ?_
      refine q_iconst (pc := 175) (v := nI 3) dX12_readsCommand_175 (by decide) ?_
      refine q_iaddN (pc := 176) dX12_readsCommand_176 ?_
      refine q_aload_n (pc := 177) dX12_readsCommand_177 rfl rfl ?_
      refine q_iconst (pc := 178) (v := nI 1) dX12_readsCommand_178 (by decide) ?_
      refine q_callV (pc := 179) dX12_readsCommand_179 kX12_187 (c_rdig hm T4 (K := 1) (by decide)) (Model_sh hm) rfl (Model_lt hm) ⟨Nat.le_of_ble_eq_true rfl, Nat.le_of_ble_eq_true rfl⟩ rfl rfl (Nat.le_of_ble_eq_true rfl) ?_
      rintro _ S5 n5 I5 L5 P5 ⟨rfl, eS5, en5, eL5, eP5, T5, G5⟩
      subst S5 n5 L5 P5
      show bq_W _ _ _ _ _ 182 _ [_, _, _] _ _ _ _ _ _
      rw [pM_1] at T5
      rw [pM_1]
      refine q_iast (pc := 182) dX12_readsCommand_182 (oA_sh (Model_s_told hm)) (oA_lt (Model_s_told hm)) rfl (by omega) ?_
      refine q_nameI (fun J5 e5 => ?_)
      have T5x := T5.te e5
      have F5 := Ft (G5.trans (G4.trans F3)) e5
      refine q_goto (pc := 183) 211 dX12_readsCommand_183 (by decide) ?_
      exact q_vret (st := []) (pc := 211) dX12_readsCommand_211 rfl ⟨rfl, rfl, rfl, rfl, rfl, T5x, fun _ => Cn_108 F5, fun j hj => by rw [F5, bq_r_ne (by omega), bq_r_ne (by omega), bq_r_ne (by omega), bq_r_ne (by omega)]⟩
    · refine q_iload_n (pc := 18) dX12_readsCommand_18 rfl rfl ?_
      refine q_bipush (pc := 19) (v := nI 102) dX12_readsCommand_19 (by decide) ?_
      refine q_icmp_eq (pc := 21) 40 dX12_readsCommand_21 (by decide) (fun c_21 => ?_) (fun c_21 => ?_)
      · have hlt := hr_lt (by decide) c_21
        rw [show pC B l p = pc_f B l (p + 1, false) from by unfold pC; rw [c_21, if_neg (by decide), if_neg (by decide), if_pos rfl]]
        rw [c_21]
        refine q_iconst (pc := 40) (v := nI 0) dX12_readsCommand_40 (by decide) ?_
        refine q_putZ (pc := 41) dX12_readsCommand_41 (pX12_181 _) (Model_sh hm) ⟨by decide, rfl⟩ (by decide) (Model_lt hm) ?_
        refine q_aload_n (pc := 44) dX12_readsCommand_44 rfl rfl ?_
        refine q_getI (pc := 45) dX12_readsCommand_45 fX12_181 (Model_sh hm) ⟨by decide, rfl⟩ (Model_lt hm) ?_
        rw [bq_u_at]
        refine q_if_eq (pc := 48) 52 dX12_readsCommand_48 (by decide) (fun c_48 => ?_) (fun c_48 => absurd rfl c_48)
        refine q_aload_n (pc := 52) dX12_readsCommand_52 rfl rfl ?_
        refine q_dup (pc := 53) dX12_readsCommand_53 rfl ?_
        refine q_getI (pc := 54) dX12_readsCommand_54 fX12_178 (Model_sh hm) ⟨by decide, rfl⟩ (Model_lt hm) ?_
        rw [bq_u_no (by omega), hp]
        refine q_iconst (pc := 57) (v := nI 1) dX12_readsCommand_57 (by decide) ?_
        refine q_iaddN (pc := 58) dX12_readsCommand_58 ?_
        refine q_putI (pc := 59) dX12_readsCommand_59 (pX12_178 _) (Model_sh hm) ⟨by decide, rfl⟩ (Model_lt hm) ?_
        refine q_aload_n (pc := 62) dX12_readsCommand_62 rfl rfl ?_
        refine q_getP (pc := 63) dX12_readsCommand_63 fX12_47 (Model_sh hm) ⟨by decide, rfl⟩ (Model_lt hm) (Model_p_told hm) ?_
        refine q_iload_n (pc := 66) dX12_readsCommand_66 rfl rfl ?_
        refine q_iload_n (pc := 67) dX12_readsCommand_67 rfl rfl ?_
        refine q_iast (pc := 68) dX12_readsCommand_68 (oA_sh (Model_s_told hm)) (oA_lt (Model_s_told hm)) rfl (by omega) ?_
        refine q_nameI (fun J0 e0 => ?_)
        have T0 : MT m I J0 B l (p + 1, false) := by rw [e0]; exact ((MT.mk0 (w := false) hp hl hb hl60 hpl rfl).p (q := p + 1) hlt).t
        have F0 : J0 (m + 13) = (bq_r (I (m + 13)) t (nI 102)) := by rw [e0, bq_u_r, bq_r_self, bq_u_ne (show m + 13 ≠ m by omega), bq_u_ne (show m + 13 ≠ m by omega)]
        refine q_aload_n (pc := 69) dX12_readsCommand_69 rfl rfl ?_
        refine q_getP (pc := 70) dX12_readsCommand_70 fX12_47 (Model_sh hm) ⟨by decide, rfl⟩ (Model_lt hm) (Model_p_told hm) ?_
        refine q_iload_n (pc := 73) dX12_readsCommand_73 rfl rfl ?_
        refine q_iconst (pc := 74) (v := nI 1) dX12_readsCommand_74 (by decide) ?_
        refine q_iaddN (pc := 75) dX12_readsCommand_75 ?_
        refine q_aload_n (pc := 76) dX12_readsCommand_76 rfl rfl ?_
        refine q_iload_n (pc := 77) dX12_readsCommand_77 rfl rfl ?_
        refine q_bipush (pc := 78) (v := nI 100) dX12_readsCommand_78 (by decide) ?_
        refine q_icmp_ne (pc := 80) 87 dX12_readsCommand_80 (by decide) (fun c_80 => ?_) (fun c_80 => ((absurd c_80 (by decide) : False)).elim)
        refine q_iconst (pc := 87) (v := nI 1) dX12_readsCommand_87 (by decide) ?_
        refine q_callV (pc := 88) dX12_readsCommand_88 kX12_187 (c_rdig hm T0 (K := 1) (by decide)) (Model_sh hm) rfl (Model_lt hm) ⟨Nat.le_of_ble_eq_true rfl, Nat.le_of_ble_eq_true rfl⟩ rfl rfl (Nat.le_of_ble_eq_true rfl) ?_
        rintro _ S1 n1 I1 L1 P1 ⟨rfl, eS1, en1, eL1, eP1, T1, G1⟩
        subst S1 n1 L1 P1
        show bq_W _ _ _ _ _ 91 _ [_, _, _] _ _ _ _ _ _
        rw [pM_1] at T1
        rw [pM_1]
        refine q_iast (pc := 91) dX12_readsCommand_91 (oA_sh (Model_s_told hm)) (oA_lt (Model_s_told hm)) rfl (by omega) ?_
        refine q_nameI (fun J1 e1 => ?_)
        have T1x := T1.te e1
        have F1 := Ft (G1.trans F0) e1
        refine q_iload_n (pc := 92) dX12_readsCommand_92 rfl rfl ?_
        refine q_bipush (pc := 93) (v := nI 116) dX12_readsCommand_93 (by decide) ?_
        refine q_icmp_ne (pc := 95) 139 dX12_readsCommand_95 (by decide) (fun c_95 => ?_) (fun c_95 => ((absurd c_95 (by decide) : False)).elim)
        refine q_iload_n (pc := 139) dX12_readsCommand_139 rfl rfl ?_
        refine q_bipush (pc := 140) (v := nI 108) dX12_readsCommand_140 (by decide) ?_
        refine q_icmp_ne (pc := 142) 186 dX12_readsCommand_142 (by decide) (fun c_142 => ?_) (fun c_142 => ((absurd c_142 (by decide) : False)).elim)
        refine q_iload_n (pc := 186) dX12_readsCommand_186 rfl rfl ?_
        refine q_bipush (pc := 187) (v := nI 102) dX12_readsCommand_187 (by decide) ?_
        refine q_icmp_ne (pc := 189) 211 dX12_readsCommand_189 (by decide) (fun c_189 => absurd c_189 (by decide)) (fun c_189 => ?_)
        refine q_aload_n (pc := 192) dX12_readsCommand_192 rfl rfl ?_
        refine q_bipush (pc := 193) (v := nI 35) dX12_readsCommand_193 (by decide) ?_
        refine q_callV (pc := 195) dX12_readsCommand_195 kX12_190 (c_reads hm T1x (c := 35) (by decide)) (Model_sh hm) rfl (Model_lt hm) ⟨Nat.le_of_ble_eq_true rfl, Nat.le_of_ble_eq_true rfl⟩ rfl rfl (Nat.le_of_ble_eq_true rfl) ?_
        rintro _ S2 n2 I2 L2 P2 ⟨rfl, eS2, en2, eL2, eP2, T2, G2⟩
        subst S2 n2 L2 P2
        show bq_W _ _ _ _ _ 198 _ [] _ _ _ _ _ _
        refine q_aload_n (pc := 198) dX12_readsCommand_198 rfl rfl ?_
        refine q_getP (pc := 199) dX12_readsCommand_199 fX12_47 (Model_sh hm) ⟨by decide, rfl⟩ (Model_lt hm) (Model_p_told hm) ?_
        refine q_iload_n (pc := 202) dX12_readsCommand_202 rfl rfl ?_
        refine q_iconst (pc := 203) (v := nI 2) dX12_readsCommand_203 (by decide) ?_
        refine q_iaddN (pc := 204) dX12_readsCommand_204 ?_
        refine q_aload_n (pc := 205) dX12_readsCommand_205 rfl rfl ?_
        refine q_iconst (pc := 206) (v := nI 4) dX12_readsCommand_206 (by decide) ?_
        refine q_callV (pc := 207) dX12_readsCommand_207 kX12_187 (c_rdig hm T2 (K := 4) (by decide)) (Model_sh hm) rfl (Model_lt hm) ⟨Nat.le_of_ble_eq_true rfl, Nat.le_of_ble_eq_true rfl⟩ rfl rfl (Nat.le_of_ble_eq_true rfl) ?_
        rintro _ S3 n3 I3 L3 P3 ⟨rfl, eS3, en3, eL3, eP3, T3, G3⟩
        subst S3 n3 L3 P3
        show bq_W _ _ _ _ _ 210 _ [_, _, _] _ _ _ _ _ _
        rw [pM_4] at T3
        rw [pM_4]
        refine q_iast (pc := 210) dX12_readsCommand_210 (oA_sh (Model_s_told hm)) (oA_lt (Model_s_told hm)) rfl (by omega) ?_
        refine q_nameI (fun J3 e3 => ?_)
        have T3x := T3.te e3
        have F3 := Ft (G3.trans (G2.trans F1)) e3
        exact q_vret (st := []) (pc := 211) dX12_readsCommand_211 rfl ⟨rfl, rfl, rfl, rfl, rfl, T3x, fun _ => Cn_102 F3, fun j hj => by rw [F3, bq_r_ne (by omega), bq_r_ne (by omega), bq_r_ne (by omega)]⟩
      · refine q_iload_n (pc := 24) dX12_readsCommand_24 rfl rfl ?_
        refine q_bipush (pc := 25) (v := nI 99) dX12_readsCommand_25 (by decide) ?_
        refine q_icmp_eq (pc := 27) 40 dX12_readsCommand_27 (by decide) (fun c_27 => ?_) (fun c_27 => ?_)
        · have hlt := hr_lt (by decide) c_27
          rw [show pC B l p = pc_c B l (p + 1, false) from by unfold pC; rw [c_27, if_pos rfl]]
          rw [c_27]
          refine q_iconst (pc := 40) (v := nI 0) dX12_readsCommand_40 (by decide) ?_
          refine q_putZ (pc := 41) dX12_readsCommand_41 (pX12_181 _) (Model_sh hm) ⟨by decide, rfl⟩ (by decide) (Model_lt hm) ?_
          refine q_aload_n (pc := 44) dX12_readsCommand_44 rfl rfl ?_
          refine q_getI (pc := 45) dX12_readsCommand_45 fX12_181 (Model_sh hm) ⟨by decide, rfl⟩ (Model_lt hm) ?_
          rw [bq_u_at]
          refine q_if_eq (pc := 48) 52 dX12_readsCommand_48 (by decide) (fun c_48 => ?_) (fun c_48 => absurd rfl c_48)
          refine q_aload_n (pc := 52) dX12_readsCommand_52 rfl rfl ?_
          refine q_dup (pc := 53) dX12_readsCommand_53 rfl ?_
          refine q_getI (pc := 54) dX12_readsCommand_54 fX12_178 (Model_sh hm) ⟨by decide, rfl⟩ (Model_lt hm) ?_
          rw [bq_u_no (by omega), hp]
          refine q_iconst (pc := 57) (v := nI 1) dX12_readsCommand_57 (by decide) ?_
          refine q_iaddN (pc := 58) dX12_readsCommand_58 ?_
          refine q_putI (pc := 59) dX12_readsCommand_59 (pX12_178 _) (Model_sh hm) ⟨by decide, rfl⟩ (Model_lt hm) ?_
          refine q_aload_n (pc := 62) dX12_readsCommand_62 rfl rfl ?_
          refine q_getP (pc := 63) dX12_readsCommand_63 fX12_47 (Model_sh hm) ⟨by decide, rfl⟩ (Model_lt hm) (Model_p_told hm) ?_
          refine q_iload_n (pc := 66) dX12_readsCommand_66 rfl rfl ?_
          refine q_iload_n (pc := 67) dX12_readsCommand_67 rfl rfl ?_
          refine q_iast (pc := 68) dX12_readsCommand_68 (oA_sh (Model_s_told hm)) (oA_lt (Model_s_told hm)) rfl (by omega) ?_
          refine q_nameI (fun J0 e0 => ?_)
          have T0 : MT m I J0 B l (p + 1, false) := by rw [e0]; exact ((MT.mk0 (w := false) hp hl hb hl60 hpl rfl).p (q := p + 1) hlt).t
          have F0 : J0 (m + 13) = (bq_r (I (m + 13)) t (nI 99)) := by rw [e0, bq_u_r, bq_r_self, bq_u_ne (show m + 13 ≠ m by omega), bq_u_ne (show m + 13 ≠ m by omega)]
          refine q_aload_n (pc := 69) dX12_readsCommand_69 rfl rfl ?_
          refine q_getP (pc := 70) dX12_readsCommand_70 fX12_47 (Model_sh hm) ⟨by decide, rfl⟩ (Model_lt hm) (Model_p_told hm) ?_
          refine q_iload_n (pc := 73) dX12_readsCommand_73 rfl rfl ?_
          refine q_iconst (pc := 74) (v := nI 1) dX12_readsCommand_74 (by decide) ?_
          refine q_iaddN (pc := 75) dX12_readsCommand_75 ?_
          refine q_aload_n (pc := 76) dX12_readsCommand_76 rfl rfl ?_
          refine q_iload_n (pc := 77) dX12_readsCommand_77 rfl rfl ?_
          refine q_bipush (pc := 78) (v := nI 100) dX12_readsCommand_78 (by decide) ?_
          refine q_icmp_ne (pc := 80) 87 dX12_readsCommand_80 (by decide) (fun c_80 => ?_) (fun c_80 => ((absurd c_80 (by decide) : False)).elim)
          refine q_iconst (pc := 87) (v := nI 1) dX12_readsCommand_87 (by decide) ?_
          refine q_callV (pc := 88) dX12_readsCommand_88 kX12_187 (c_rdig hm T0 (K := 1) (by decide)) (Model_sh hm) rfl (Model_lt hm) ⟨Nat.le_of_ble_eq_true rfl, Nat.le_of_ble_eq_true rfl⟩ rfl rfl (Nat.le_of_ble_eq_true rfl) ?_
          rintro _ S1 n1 I1 L1 P1 ⟨rfl, eS1, en1, eL1, eP1, T1, G1⟩
          subst S1 n1 L1 P1
          show bq_W _ _ _ _ _ 91 _ [_, _, _] _ _ _ _ _ _
          rw [pM_1] at T1
          rw [pM_1]
          refine q_iast (pc := 91) dX12_readsCommand_91 (oA_sh (Model_s_told hm)) (oA_lt (Model_s_told hm)) rfl (by omega) ?_
          refine q_nameI (fun J1 e1 => ?_)
          have T1x := T1.te e1
          have F1 := Ft (G1.trans F0) e1
          refine q_iload_n (pc := 92) dX12_readsCommand_92 rfl rfl ?_
          refine q_bipush (pc := 93) (v := nI 116) dX12_readsCommand_93 (by decide) ?_
          refine q_icmp_ne (pc := 95) 139 dX12_readsCommand_95 (by decide) (fun c_95 => ?_) (fun c_95 => ((absurd c_95 (by decide) : False)).elim)
          refine q_iload_n (pc := 139) dX12_readsCommand_139 rfl rfl ?_
          refine q_bipush (pc := 140) (v := nI 108) dX12_readsCommand_140 (by decide) ?_
          refine q_icmp_ne (pc := 142) 186 dX12_readsCommand_142 (by decide) (fun c_142 => ?_) (fun c_142 => ((absurd c_142 (by decide) : False)).elim)
          refine q_iload_n (pc := 186) dX12_readsCommand_186 rfl rfl ?_
          refine q_bipush (pc := 187) (v := nI 102) dX12_readsCommand_187 (by decide) ?_
          refine q_icmp_ne (pc := 189) 211 dX12_readsCommand_189 (by decide) (fun c_189 => ?_) (fun c_189 => ((absurd c_189 (by decide) : False)).elim)
          exact q_vret (st := []) (pc := 211) dX12_readsCommand_211 rfl ⟨rfl, rfl, rfl, rfl, rfl, T1x, fun _ => Cn_99 F1, fun j hj => by rw [F1, bq_r_ne (by omega), bq_r_ne (by omega)]⟩
        · refine q_iload_n (pc := 30) dX12_readsCommand_30 rfl rfl ?_
          refine q_bipush (pc := 31) (v := nI 100) dX12_readsCommand_31 (by decide) ?_
          refine q_icmp_eq (pc := 33) 40 dX12_readsCommand_33 (by decide) (fun c_33 => ?_) (fun c_33 => ?_)
          · have hlt := hr_lt (by decide) c_33
            rw [show pC B l p = pc_d B l (p + 1, false) from by unfold pC; rw [c_33, if_neg (by decide), if_pos rfl]]
            rw [c_33]
            refine q_iconst (pc := 40) (v := nI 0) dX12_readsCommand_40 (by decide) ?_
            refine q_putZ (pc := 41) dX12_readsCommand_41 (pX12_181 _) (Model_sh hm) ⟨by decide, rfl⟩ (by decide) (Model_lt hm) ?_
            refine q_aload_n (pc := 44) dX12_readsCommand_44 rfl rfl ?_
            refine q_getI (pc := 45) dX12_readsCommand_45 fX12_181 (Model_sh hm) ⟨by decide, rfl⟩ (Model_lt hm) ?_
            rw [bq_u_at]
            refine q_if_eq (pc := 48) 52 dX12_readsCommand_48 (by decide) (fun c_48 => ?_) (fun c_48 => absurd rfl c_48)
            refine q_aload_n (pc := 52) dX12_readsCommand_52 rfl rfl ?_
            refine q_dup (pc := 53) dX12_readsCommand_53 rfl ?_
            refine q_getI (pc := 54) dX12_readsCommand_54 fX12_178 (Model_sh hm) ⟨by decide, rfl⟩ (Model_lt hm) ?_
            rw [bq_u_no (by omega), hp]
            refine q_iconst (pc := 57) (v := nI 1) dX12_readsCommand_57 (by decide) ?_
            refine q_iaddN (pc := 58) dX12_readsCommand_58 ?_
            refine q_putI (pc := 59) dX12_readsCommand_59 (pX12_178 _) (Model_sh hm) ⟨by decide, rfl⟩ (Model_lt hm) ?_
            refine q_aload_n (pc := 62) dX12_readsCommand_62 rfl rfl ?_
            refine q_getP (pc := 63) dX12_readsCommand_63 fX12_47 (Model_sh hm) ⟨by decide, rfl⟩ (Model_lt hm) (Model_p_told hm) ?_
            refine q_iload_n (pc := 66) dX12_readsCommand_66 rfl rfl ?_
            refine q_iload_n (pc := 67) dX12_readsCommand_67 rfl rfl ?_
            refine q_iast (pc := 68) dX12_readsCommand_68 (oA_sh (Model_s_told hm)) (oA_lt (Model_s_told hm)) rfl (by omega) ?_
            refine q_nameI (fun J0 e0 => ?_)
            have T0 : MT m I J0 B l (p + 1, false) := by rw [e0]; exact ((MT.mk0 (w := false) hp hl hb hl60 hpl rfl).p (q := p + 1) hlt).t
            have F0 : J0 (m + 13) = (bq_r (I (m + 13)) t (nI 100)) := by rw [e0, bq_u_r, bq_r_self, bq_u_ne (show m + 13 ≠ m by omega), bq_u_ne (show m + 13 ≠ m by omega)]
            refine q_aload_n (pc := 69) dX12_readsCommand_69 rfl rfl ?_
            refine q_getP (pc := 70) dX12_readsCommand_70 fX12_47 (Model_sh hm) ⟨by decide, rfl⟩ (Model_lt hm) (Model_p_told hm) ?_
            refine q_iload_n (pc := 73) dX12_readsCommand_73 rfl rfl ?_
            refine q_iconst (pc := 74) (v := nI 1) dX12_readsCommand_74 (by decide) ?_
            refine q_iaddN (pc := 75) dX12_readsCommand_75 ?_
            refine q_aload_n (pc := 76) dX12_readsCommand_76 rfl rfl ?_
            refine q_iload_n (pc := 77) dX12_readsCommand_77 rfl rfl ?_
            refine q_bipush (pc := 78) (v := nI 100) dX12_readsCommand_78 (by decide) ?_
            refine q_icmp_ne (pc := 80) 87 dX12_readsCommand_80 (by decide) (fun c_80 => absurd c_80 (by decide)) (fun c_80 => ?_)
            refine q_iconst (pc := 83) (v := nI 4) dX12_readsCommand_83 (by decide) ?_
            refine q_goto (pc := 84) 88 dX12_readsCommand_84 (by decide) ?_
            refine q_callV (pc := 88) dX12_readsCommand_88 kX12_187 (c_rdig hm T0 (K := 4) (by decide)) (Model_sh hm) rfl (Model_lt hm) ⟨Nat.le_of_ble_eq_true rfl, Nat.le_of_ble_eq_true rfl⟩ rfl rfl (Nat.le_of_ble_eq_true rfl) ?_
            rintro _ S1 n1 I1 L1 P1 ⟨rfl, eS1, en1, eL1, eP1, T1, G1⟩
            subst S1 n1 L1 P1
            show bq_W _ _ _ _ _ 91 _ [_, _, _] _ _ _ _ _ _
            rw [pM_4] at T1
            rw [pM_4]
            refine q_iast (pc := 91) dX12_readsCommand_91 (oA_sh (Model_s_told hm)) (oA_lt (Model_s_told hm)) rfl (by omega) ?_
            refine q_nameI (fun J1 e1 => ?_)
            have T1x := T1.te e1
            have F1 := Ft (G1.trans F0) e1
            refine q_iload_n (pc := 92) dX12_readsCommand_92 rfl rfl ?_
            refine q_bipush (pc := 93) (v := nI 116) dX12_readsCommand_93 (by decide) ?_
            refine q_icmp_ne (pc := 95) 139 dX12_readsCommand_95 (by decide) (fun c_95 => ?_) (fun c_95 => ((absurd c_95 (by decide) : False)).elim)
            refine q_iload_n (pc := 139) dX12_readsCommand_139 rfl rfl ?_
            refine q_bipush (pc := 140) (v := nI 108) dX12_readsCommand_140 (by decide) ?_
            refine q_icmp_ne (pc := 142) 186 dX12_readsCommand_142 (by decide) (fun c_142 => ?_) (fun c_142 => ((absurd c_142 (by decide) : False)).elim)
            refine q_iload_n (pc := 186) dX12_readsCommand_186 rfl rfl ?_
            refine q_bipush (pc := 187) (v := nI 102) dX12_readsCommand_187 (by decide) ?_
            refine q_icmp_ne (pc := 189) 211 dX12_readsCommand_189 (by decide) (fun c_189 => ?_) (fun c_189 => ((absurd c_189 (by decide) : False)).elim)
            exact q_vret (st := []) (pc := 211) dX12_readsCommand_211 rfl ⟨rfl, rfl, rfl, rfl, rfl, T1x, fun _ => Cn_100 F1, fun j hj => by rw [F1, bq_r_ne (by omega), bq_r_ne (by omega)]⟩
          · rw [show pC B l p = ((p, true), (nI 0, nI 0, nI 0, nI 0)) from by unfold pC; rw [if_neg c_27, if_neg c_33, if_neg c_21, if_neg c_15, if_neg c_9]]
            refine q_iconst (pc := 36) (v := nI 1) dX12_readsCommand_36 (by decide) ?_
            refine q_goto (pc := 37) 41 dX12_readsCommand_37 (by decide) ?_
            refine q_putZ (pc := 41) dX12_readsCommand_41 (pX12_181 _) (Model_sh hm) ⟨by decide, rfl⟩ (by decide) (Model_lt hm) ?_
            refine q_aload_n (pc := 44) dX12_readsCommand_44 rfl rfl ?_
            refine q_getI (pc := 45) dX12_readsCommand_45 fX12_181 (Model_sh hm) ⟨by decide, rfl⟩ (Model_lt hm) ?_
            rw [bq_u_at]
            refine q_if_eq (pc := 48) 52 dX12_readsCommand_48 (by decide) (fun c_48 => absurd c_48 (by decide)) (fun c_48 => ?_)
            exact q_vret (st := []) (pc := 51) dX12_readsCommand_51 rfl ⟨rfl, rfl, rfl, rfl, rfl, MT.mk0 (w := true) hp hl hb hl60 hpl rfl, fun q => Bool.noConfusion q, fun j _ => by rw [bq_u_ne (by omega)]⟩
set_option maxHeartbeats 1680000 in
set_option maxRecDepth 20000 in
theorem c_does {S : BqH} {n : Nat} {I : BqI} {L : BqL} {P : BqP} {m ch : Nat} {h : Nat → BqG} {g : BqG} (hm : oModel S n P m) (hH : MH m I h ch) (hg : I (m + 1) = g) {en : Nat} (hG : GI g en) (hen : en < 2 ^ 29) (hq : I m 6 = nI 1) {t : Nat} (ht : t + 3 < 240) : bq_Sp mX12_does 7 148 0 0 [.ref m, .int (nI t)] S n I L P (qMo m I S n L P (mst 1 g h ch (I m 7) (wm g (I (m + 13) t) (I (m + 13) (t + 1)) (I (m + 13) (t + 2)) (I (m + 13) (t + 3))))) := by
  refine q_entry (vs := [some (.ref m), some (.int (nI t)), none, none, none]) (by decide +kernel) (by simp) (Nat.le_of_ble_eq_true rfl) rfl ?_
  refine q_aload_n (pc := 0) dX12_does_0 rfl rfl ?_
  refine q_getP (pc := 1) dX12_does_1 fX12_47 (Model_sh hm) ⟨by decide, rfl⟩ (Model_lt hm) (Model_p_told hm) ?_
  refine q_iload_n (pc := 4) dX12_does_4 rfl rfl ?_
  refine q_iconst (pc := 5) (v := nI 1) dX12_does_5 (by decide) ?_
  refine q_iaddN (pc := 6) dX12_does_6 ?_
  refine q_iald (pc := 7) dX12_does_7 (oA_sh (Model_s_told hm)) (oA_lt (Model_s_told hm)) rfl (by omega) ?_
  refine q_istore_n (pc := 8) dX12_does_8 rfl (Nat.le_of_ble_eq_true rfl) rfl ?_
  show bq_W _ _ _ _ _ 9 [_, _, _, _, _] _ _ _ _ _ _ _
  refine q_aload_n (pc := 9) dX12_does_9 rfl rfl ?_
  refine q_getP (pc := 10) dX12_does_10 fX12_47 (Model_sh hm) ⟨by decide, rfl⟩ (Model_lt hm) (Model_p_told hm) ?_
  refine q_iload_n (pc := 13) dX12_does_13 rfl rfl ?_
  refine q_iconst (pc := 14) (v := nI 2) dX12_does_14 (by decide) ?_
  refine q_iaddN (pc := 15) dX12_does_15 ?_
  refine q_iald (pc := 16) dX12_does_16 (oA_sh (Model_s_told hm)) (oA_lt (Model_s_told hm)) rfl (by omega) ?_
  refine q_istore_n (pc := 17) dX12_does_17 rfl (Nat.le_of_ble_eq_true rfl) rfl ?_
  show bq_W _ _ _ _ _ 18 [_, _, _, _, _] _ _ _ _ _ _ _
  refine q_aload_n (pc := 18) dX12_does_18 rfl rfl ?_
  refine q_getP (pc := 19) dX12_does_19 fX12_47 (Model_sh hm) ⟨by decide, rfl⟩ (Model_lt hm) (Model_p_told hm) ?_
  refine q_iload_n (pc := 22) dX12_does_22 rfl rfl ?_
  refine q_iconst (pc := 23) (v := nI 3) dX12_does_23 (by decide) ?_
  refine q_iaddN (pc := 24) dX12_does_24 ?_
  refine q_iald (pc := 25) dX12_does_25 (oA_sh (Model_s_told hm)) (oA_lt (Model_s_told hm)) rfl (by omega) ?_
  refine q_istore (pc := 26) dX12_does_26 (Nat.le_of_ble_eq_true rfl) rfl ?_
  show bq_W _ _ _ _ _ 28 [_, _, _, _, _] _ _ _ _ _ _ _
  refine q_aload_n (pc := 28) dX12_does_28 rfl rfl ?_
  refine q_getP (pc := 29) dX12_does_29 fX12_47 (Model_sh hm) ⟨by decide, rfl⟩ (Model_lt hm) (Model_p_told hm) ?_
  refine q_iload_n (pc := 32) dX12_does_32 rfl rfl ?_
  refine q_iald (pc := 33) dX12_does_33 (oA_sh (Model_s_told hm)) (oA_lt (Model_s_told hm)) rfl (by omega) ?_
  refine q_topI (fun y_34 e_34 => ?_)
  by_cases s34_99 : y_34 = nI 99
  · refine q_lookup (pc := 34) (off := 67) 101 dX12_does_34 rfl (by rw [s34_99]; decide) (by decide) ?_
    rw [show (wm g (I (m + 13) t) (I (m + 13) (t + 1)) (I (m + 13) (t + 2)) (I (m + 13) (t + 3))) = w_scrub g (I (m + 13) (t + 1)) from by rw [← e_34, s34_99]; exact wm_99]
    refine q_aload_n (pc := 101) dX12_does_101 rfl rfl ?_
    refine q_iload_n (pc := 102) dX12_does_102 rfl rfl ?_
    refine q_callV (pc := 103) dX12_does_103 kX12_203 (o_clean hm hH hg hG hen hq (by decide)) (Model_sh hm) rfl (Model_lt hm) ⟨Nat.le_of_ble_eq_true rfl, Nat.le_of_ble_eq_true rfl⟩ rfl rfl (Nat.le_of_ble_eq_true rfl) ?_
    rintro _ S1 n1 I1 L1 P1 ⟨rfl, eS1, en1, eL1, eP1, Q⟩
    subst S1 n1 L1 P1
    show bq_W _ _ _ _ _ 106 _ [_] _ _ _ _ _ _
    exact q_iret (st := []) (pc := 106) dX12_does_106 rfl ⟨rfl, rfl, rfl, rfl, rfl, Q⟩
  by_cases s34_102 : y_34 = nI 102
  · refine q_lookup (pc := 34) (off := 60) 94 dX12_does_34 rfl (by rw [s34_102]; decide) (by decide) ?_
    rw [show (wm g (I (m + 13) t) (I (m + 13) (t + 1)) (I (m + 13) (t + 2)) (I (m + 13) (t + 3))) = w_fill g (I (m + 13) (t + 1)) (I (m + 13) (t + 2)) from by rw [← e_34, s34_102]; exact wm_102]
    refine q_aload_n (pc := 94) dX12_does_94 rfl rfl ?_
    refine q_iload_n (pc := 95) dX12_does_95 rfl rfl ?_
    refine q_iload_n (pc := 96) dX12_does_96 rfl rfl ?_
    refine q_callV (pc := 97) dX12_does_97 kX12_200 (o_fill hm hH hg hG hen hq (by decide)) (Model_sh hm) rfl (Model_lt hm) ⟨Nat.le_of_ble_eq_true rfl, Nat.le_of_ble_eq_true rfl⟩ rfl rfl (Nat.le_of_ble_eq_true rfl) ?_
    rintro _ S1 n1 I1 L1 P1 ⟨rfl, eS1, en1, eL1, eP1, Q⟩
    subst S1 n1 L1 P1
    show bq_W _ _ _ _ _ 100 _ [_] _ _ _ _ _ _
    exact q_iret (st := []) (pc := 100) dX12_does_100 rfl ⟨rfl, rfl, rfl, rfl, rfl, Q⟩
  by_cases s34_108 : y_34 = nI 108
  · refine q_lookup (pc := 34) (off := 51) 85 dX12_does_34 rfl (by rw [s34_108]; decide) (by decide) ?_
    rw [show (wm g (I (m + 13) t) (I (m + 13) (t + 1)) (I (m + 13) (t + 2)) (I (m + 13) (t + 3))) = w_spill g (I (m + 13) (t + 1)) (I (m + 13) (t + 2)) (I (m + 13) (t + 3)) from by rw [← e_34, s34_108]; exact wm_108]
    refine q_aload_n (pc := 85) dX12_does_85 rfl rfl ?_
    refine q_iload_n (pc := 86) dX12_does_86 rfl rfl ?_
    refine q_iload_n (pc := 87) dX12_does_87 rfl rfl ?_
    refine q_iload (pc := 88) dX12_does_88 rfl ?_
    refine q_callV (pc := 90) dX12_does_90 kX12_197 (o_lose hm hH hg hG hen hq (by decide)) (Model_sh hm) rfl (Model_lt hm) ⟨Nat.le_of_ble_eq_true rfl, Nat.le_of_ble_eq_true rfl⟩ rfl rfl (Nat.le_of_ble_eq_true rfl) ?_
    rintro _ S1 n1 I1 L1 P1 ⟨rfl, eS1, en1, eL1, eP1, Q⟩
    subst S1 n1 L1 P1
    show bq_W _ _ _ _ _ 93 _ [_] _ _ _ _ _ _
    exact q_iret (st := []) (pc := 93) dX12_does_93 rfl ⟨rfl, rfl, rfl, rfl, rfl, Q⟩
  by_cases s34_116 : y_34 = nI 116
  · refine q_lookup (pc := 34) (off := 42) 76 dX12_does_34 rfl (by rw [s34_116]; decide) (by decide) ?_
    rw [show (wm g (I (m + 13) t) (I (m + 13) (t + 1)) (I (m + 13) (t + 2)) (I (m + 13) (t + 3))) = w_pour g (I (m + 13) (t + 1)) (I (m + 13) (t + 2)) (I (m + 13) (t + 3)) from by rw [← e_34, s34_116]; exact wm_116]
    refine q_aload_n (pc := 76) dX12_does_76 rfl rfl ?_
    refine q_iload_n (pc := 77) dX12_does_77 rfl rfl ?_
    refine q_iload_n (pc := 78) dX12_does_78 rfl rfl ?_
    refine q_iload (pc := 79) dX12_does_79 rfl ?_
    refine q_callV (pc := 81) dX12_does_81 kX12_194 (o_transfer hm hH hg hG hen hq (by decide)) (Model_sh hm) rfl (Model_lt hm) ⟨Nat.le_of_ble_eq_true rfl, Nat.le_of_ble_eq_true rfl⟩ rfl rfl (Nat.le_of_ble_eq_true rfl) ?_
    rintro _ S1 n1 I1 L1 P1 ⟨rfl, eS1, en1, eL1, eP1, Q⟩
    subst S1 n1 L1 P1
    show bq_W _ _ _ _ _ 84 _ [_] _ _ _ _ _ _
    exact q_iret (st := []) (pc := 84) dX12_does_84 rfl ⟨rfl, rfl, rfl, rfl, rfl, Q⟩
  refine q_lookup (pc := 34) (off := 73) 107 dX12_does_34 rfl (by show Op.lookupswitch.offset [(99, 67), (102, 60), (108, 51), (116, 42)] 73 _ = _; rw [lv_osw s34_99 (by decide), lv_osw s34_102 (by decide), lv_osw s34_108 (by decide), lv_osw s34_116 (by decide)]; rfl) (by decide) ?_
  rw [show (wm g (I (m + 13) t) (I (m + 13) (t + 1)) (I (m + 13) (t + 2)) (I (m + 13) (t + 3))) = w_pass g (I (m + 13) (t + 1)) from by unfold wm; rw [← e_34, if_neg s34_116, if_neg s34_108, if_neg s34_102, if_neg s34_99]]
  refine q_aload_n (pc := 107) dX12_does_107 rfl rfl ?_
  refine q_iload_n (pc := 108) dX12_does_108 rfl rfl ?_
  refine q_callV (pc := 109) dX12_does_109 kX12_206 (o_pass hm hH hg hG hen hq (by decide)) (Model_sh hm) rfl (Model_lt hm) ⟨Nat.le_of_ble_eq_true rfl, Nat.le_of_ble_eq_true rfl⟩ rfl rfl (Nat.le_of_ble_eq_true rfl) ?_
  rintro _ S1 n1 I1 L1 P1 ⟨rfl, eS1, en1, eL1, eP1, Q⟩
  subst S1 n1 L1 P1
  show bq_W _ _ _ _ _ 112 _ [_] _ _ _ _ _ _
  exact q_iret (st := []) (pc := 112) dX12_does_112 rfl ⟨rfl, rfl, rfl, rfl, rfl, Q⟩
/-! the model's run -/
theorem cp_at {I : BqI} {d a j : Nat} (hj : j < 650) : fl I d (fun k => 0 + k) (fun k => I a (0 + k)) 650 d j = I a j := by
  have e := fl_at (I := I) (d := d) (ix := fun k => 0 + k) (v := fun k => I a (0 + k)) (j := j) 650 (fun a b _ _ h => by first | omega | (dsimp only at h; omega)) hj
  have e2 : fl I d (fun k => 0 + k) (fun k => I a (0 + k)) 650 d (0 + j) = I a (0 + j) := e
  rw [Nat.zero_add] at e2
  exact e2
theorem remH_c {m ch : Nat} {I : BqI} {a g : BqG} {h : Nat → BqG} (e : ∀ k, k < 650 → a k = g k) (hH : MH m I (remH 0 a h ch).1 (remH 0 a h ch).2) : MH m I (remH 0 g h ch).1 (remH 0 g h ch).2 := by
  unfold remH at hH ⊢
  rw [if_neg (show ¬ 0 = 1 by decide)] at hH ⊢
  by_cases c : ch < 6
  · rw [if_pos c] at hH ⊢
    refine ⟨hH.1, hH.2.1, fun i hi k hk => (hH.2.2 i hi k hk).trans ?_⟩
    show bq_r h ch a i k = bq_r h ch g i k
    by_cases q : i = ch
    · subst q; rw [bq_r_self, bq_r_self]; exact e k hk
    · rw [bq_r_ne q, bq_r_ne q]
  · rw [if_neg c] at hH ⊢
    refine ⟨hH.1, hH.2.1, fun i hi k hk => (hH.2.2 i hi k hk).trans ?_⟩
    show (if i = 5 then a else h (i + 1)) k = (if i = 5 then g else h (i + 1)) k
    by_cases q : i = 5
    · rw [if_pos q, if_pos q]; exact e k hk
    · rw [if_neg q, if_neg q]
def qMr (m : Nat) (I : BqI) (S : BqH) (n : Nat) (L : BqL) (P : BqP) (w : BqR) : BqQ := fun r S' n' I' L' P' => r = some (.int w.1) ∧ S' = S ∧ n' = n ∧ L' = L ∧ P' = P ∧ (∀ k, k < 650 → I' (m + 1) k = w.2.1 k) ∧ MH m I' w.2.2.1 w.2.2.2.1 ∧ I' m 7 = w.2.2.2.2 ∧ I' m 9 = nI 0 ∧ I' (m + 5) = I (m + 5) ∧ I' (m + 3) = I (m + 3) ∧ I' m 4 = I m 4 ∧ I' m 6 = nI 0 ∧ ∀ a, a < m ∨ m + 14 ≤ a → I' a = I a
/-- what the reading leaves: rows, changes, reason, kept -/
def Rd (m : Nat) (I J : BqI) : Prop := (∀ a, a ≠ m → a ≠ m + 13 → J a = I a) ∧ ∀ k, k ≠ 9 → k ≠ 18 → k ≠ 19 → J m k = I m k
theorem MT.rd {m l : Nat} {I J0 J : BqI} {B : Nat → Int32} {s : BqT} {v : Int32} (T : MT m J0 J B l s) (e : J0 = bq_u I m 18 v) : Rd m I J := by
  subst e
  refine ⟨fun a q1 q2 => (T.2.2.2.2.2.2.1 a q1 q2).trans (bq_u_ne q1), fun k q0 q1 q2 => (T.2.2.2.2.2.2.2 k q1 q2).trans (bq_u_no (fun z => q1 z.2))⟩
theorem Rd.u {m k : Nat} {I J : BqI} {v : Int32} (h : Rd m I J) (hk : k = 9 ∨ k = 18 ∨ k = 19) : Rd m I (bq_u J m k v) :=
  ⟨fun a q1 q2 => (bq_u_ne q1).trans (h.1 a q1 q2), fun j q0 q1 q2 => (bq_u_no (by omega)).trans (h.2 j q0 q1 q2)⟩
theorem qMr.bad {m ch : Nat} {I J : BqI} {S : BqH} {n : Nat} {L : BqL} {P : BqP} {g : BqG} {h : Nat → BqG} {v x : Int32} {w : BqR} (hR : Rd m I J) (hg : I (m + 1) = g) (hH : MH m I h ch) (hq : I m 6 = nI 0) (hv : v = x) (hw : w = (x, g, h, ch, I m 7)) (h9 : J m 9 = nI 0) : qMr m I S n L P w (some (.int v)) S n J L P := by
  subst hw hv
  refine ⟨rfl, rfl, rfl, rfl, rfl, fun k _ => ?_, ⟨(hR.2 2 (by decide) (by decide) (by decide)).trans hH.1, hH.2.1, fun i hi k hk => ?_⟩, hR.2 7 (by decide) (by decide) (by decide), h9, hR.1 _ (by omega) (by omega), hR.1 _ (by omega) (by omega), hR.2 4 (by decide) (by decide) (by decide), (hR.2 6 (by decide) (by decide) (by decide)).trans hq, fun a ha => hR.1 a (by omega) (by omega)⟩
  · rw [hR.1 _ (by omega) (by omega), hg]
  · rw [hR.1 _ (by omega) (by omega)]; exact hH.2.2 i hi k hk
/-- ready for the commands: quiet, the row put before -/
def Qu (m : Nat) (I K : BqI) : Prop := K m 6 = nI 1 ∧ K (m + 1) = I (m + 1) ∧ (∀ k, k < 650 → K (m + 4) k = I (m + 1) k) ∧ K m 9 = nI 0 ∧ (∀ a, a ≠ m → a ≠ m + 4 → a ≠ m + 13 → K a = I a) ∧ ∀ k, k ≠ 6 → k ≠ 9 → k ≠ 18 → k ≠ 19 → K m k = I m k
theorem Qu.mk {m : Nat} {I J : BqI} (hR : Rd m I J) (h9 : J m 9 = nI 0) : Qu m I (bq_u (fl J (m + 4) (fun k => 0 + k) (fun k => J (m + 1) (0 + k)) 650) m 6 (nI 1)) ∧ (bq_u (fl J (m + 4) (fun k => 0 + k) (fun k => J (m + 1) (0 + k)) 650) m 6 (nI 1)) (m + 13) = J (m + 13) := by
  refine ⟨⟨bq_u_at _ _ _ _, ?_, fun k hk => ?_, ?_, fun a q1 q2 q3 => ?_, fun k q1 q2 q3 q4 => ?_⟩, ?_⟩
  · rw [bq_u_ne (by omega), fl_ne (by omega)]; exact hR.1 _ (by omega) (by omega)
  · rw [bq_u_ne (by omega), cp_at hk, hR.1 _ (by omega) (by omega)]
  · rw [bq_u_no (by omega), fl_ne (by omega)]; exact h9
  · rw [bq_u_ne q1, fl_ne q2]; exact hR.1 a q1 q3
  · rw [bq_u_no (fun z => q1 z.2), fl_ne (by omega)]; exact hR.2 k q2 q3 q4
  · rw [bq_u_ne (by omega), fl_ne (by omega)]
theorem Qu.st {m ch : Nat} {I K : BqI} {g : BqG} {h : Nat → BqG} (hQ : Qu m I K) (hg : I (m + 1) = g) (hH : MH m I h ch) : MSt m K K g h ch (I m 7) := by
  obtain ⟨q1, q2, q3, q4, q5, q6⟩ := hQ
  refine ⟨q2.trans hg, ⟨(q6 2 (by decide) (by decide) (by decide) (by decide)).trans hH.1, hH.2.1, fun i hi k hk => ?_⟩, q6 7 (by decide) (by decide) (by decide) (by decide), fun _ _ => rfl, fun _ _ _ _ => rfl⟩
  rw [q5 _ (by omega) (by omega) (by omega)]; exact hH.2.2 i hi k hk
theorem mst1_neg {ch : Nat} {g : BqG} {h : Nat → BqG} {y : Int32} {w : Int32 × BqG} (hv : w.1 < 0) : mst 1 g h ch y w = ((-3), w.2, h, ch, -w.1) := if_pos hv
theorem mst1_pos {ch : Nat} {g : BqG} {h : Nat → BqG} {y : Int32} {w : Int32 × BqG} (hv : ¬ w.1 < 0) : mst 1 g h ch y w = (w.1, w.2, h, ch, y) := if_neg hv
theorem mst1_3 {ch : Nat} {g : BqG} {h : Nat → BqG} {y : Int32} {w : Int32 × BqG} : (mst 1 g h ch y w).1 = (-3) ↔ w.1 < 0 := by
  by_cases c : w.1 < 0
  · rw [mst1_neg c]; exact ⟨fun _ => c, fun _ => rfl⟩
  · rw [mst1_pos c]
    refine ⟨fun e => absurd ?_ c, fun e => absurd e c⟩
    have e' : w.1 = (-3) := e
    rw [e']; decide
/-- the run is refused at a command -/
theorem qMr.ref {m ch : Nat} {I K J : BqI} {S : BqH} {n : Nat} {L : BqL} {P : BqP} {g G : BqG} {h : Nat → BqG} {u v x : Int32} {w : BqR} (hQ : Qu m I K) (hT : MSt m K J G h ch u) (hg : I (m + 1) = g) (hv : v = x) (hw : w = (x, g, h, ch, u)) : qMr m I S n L P w (some (.int v)) S n (fl (bq_u J m 6 (nI 0)) (m + 1) (fun k => 0 + k) (fun k => bq_u J m 6 (nI 0) (m + 4) (0 + k)) 650) L P := by
  subst hw hv
  obtain ⟨q1, q2, q3, q4, q5, q6⟩ := hQ
  obtain ⟨t1, t2, t3, t4, t5⟩ := hT
  have f : ∀ a, a ≠ m → a ≠ m + 1 → fl (bq_u J m 6 (nI 0)) (m + 1) (fun k => 0 + k) (fun k => bq_u J m 6 (nI 0) (m + 4) (0 + k)) 650 a = J a := fun a z1 z2 => by rw [fl_ne z2, bq_u_ne z1]
  have f0 : ∀ k, k ≠ 6 → fl (bq_u J m 6 (nI 0)) (m + 1) (fun k => 0 + k) (fun k => bq_u J m 6 (nI 0) (m + 4) (0 + k)) 650 m k = J m k := fun k z1 => by rw [fl_ne (by omega), bq_u_no (fun z => z1 z.2)]
  refine ⟨rfl, rfl, rfl, rfl, rfl, fun k hk => ?_, ⟨(f0 2 (by decide)).trans t2.1, t2.2.1, fun i hi k hk => ?_⟩, (f0 7 (by decide)).trans t3, ?_, ?_, ?_, ?_, ?_, fun a ha => ?_⟩
  · rw [cp_at hk, bq_u_ne (by omega), t4 (m + 4) (by omega), q3 k hk, hg]
  · rw [f _ (by omega) (by omega)]; exact t2.2.2 i hi k hk
  · rw [f0 9 (by decide), t5 9 (by decide) (by decide) (by decide)]; exact q4
  · rw [f _ (by omega) (by omega), t4 (m + 5) (by omega)]; exact q5 _ (by omega) (by omega) (by omega)
  · rw [f _ (by omega) (by omega), t4 (m + 3) (by omega)]; exact q5 _ (by omega) (by omega) (by omega)
  · rw [f0 4 (by decide), t5 4 (by decide) (by decide) (by decide)]; exact q6 4 (by decide) (by decide) (by decide) (by decide)
  · rw [fl_ne (by omega), bq_u_at]
  · rw [f a (by omega) (by omega), t4 a (by omega)]; exact q5 a (by omega) (by omega) (by omega)
/-- the run is done -/
theorem qMr.ok {m ch : Nat} {I K J J' : BqI} {S : BqH} {n : Nat} {L : BqL} {P : BqP} {g G : BqG} {h : Nat → BqG} {v : Int32} {w : BqR} (hQ : Qu m I K) (hT : MSt m K J G h ch (I m 7)) (hg : I (m + 1) = g) (hw : w = (v, G, (remH 0 g h ch).1, (remH 0 g h ch).2, I m 7)) (hM : MH m J' (remH 0 (bq_u J m 6 (nI 0) (m + 4)) h ch).1 (remH 0 (bq_u J m 6 (nI 0) (m + 4)) h ch).2) (f1 : ∀ b, b ≠ m → b ≠ m + 2 → J' b = bq_u J m 6 (nI 0) b) (f2 : ∀ k, k ≠ 2 → J' m k = bq_u J m 6 (nI 0) m k) : qMr m I S n L P w (some (.int v)) S n J' L P := by
  subst hw
  obtain ⟨q1, q2, q3, q4, q5, q6⟩ := hQ
  obtain ⟨t1, t2, t3, t4, t5⟩ := hT
  have f : ∀ a, a ≠ m → a ≠ m + 2 → J' a = J a := fun a z1 z2 => by rw [f1 a z1 z2, bq_u_ne z1]
  have f0 : ∀ k, k ≠ 2 → k ≠ 6 → J' m k = J m k := fun k z1 z2 => by rw [f2 k z1, bq_u_no (fun z => z2 z.2)]
  refine ⟨rfl, rfl, rfl, rfl, rfl, fun k hk => ?_, remH_c (fun k hk => ?_) hM, (f0 7 (by decide) (by decide)).trans t3, ?_, ?_, ?_, ?_, ?_, fun a ha => ?_⟩
  · rw [f _ (by omega) (by omega), t1]
  · rw [bq_u_ne (by omega), t4 (m + 4) (by omega), q3 k hk, hg]
  · rw [f0 9 (by decide) (by decide), t5 9 (by decide) (by decide) (by decide)]; exact q4
  · rw [f _ (by omega) (by omega), t4 (m + 5) (by omega)]; exact q5 _ (by omega) (by omega) (by omega)
  · rw [f _ (by omega) (by omega), t4 (m + 3) (by omega)]; exact q5 _ (by omega) (by omega) (by omega)
  · rw [f0 4 (by decide) (by decide), t5 4 (by decide) (by decide) (by decide)]; exact q6 4 (by decide) (by decide) (by decide) (by decide)
  · rw [f2 6 (by decide), bq_u_at]
  · rw [f a (by omega) (by omega), t4 a (by omega)]; exact q5 a (by omega) (by omega) (by omega)
theorem MT.un {m l : Nat} {J0 J J3 : BqI} {B : Nat → Int32} {s s' : BqT} {v : Int32} (T : MT m (bq_u J m 18 v) J3 B l s) (hT : MT m J0 J B l s') : MT m J0 J3 B l s := by
  obtain ⟨a1, a2, a3, a4, a5, a6, a7, a8⟩ := T
  refine ⟨a1, a2, a3, a4, a5, a6, fun a q1 q2 => ?_, fun k q1 q2 => ?_⟩
  · rw [a7 a q1 q2, bq_u_ne q1]; exact hT.2.2.2.2.2.2.1 a q1 q2
  · rw [a8 k q1 q2, bq_u_no (fun z => q1 z.2)]; exact hT.2.2.2.2.2.2.2 k q1 q2
theorem MH.q6 {m ch : Nat} {J : BqI} {h : Nat → BqG} {v : Int32} (hH : MH m J h ch) : MH m (bq_u J m 6 v) h ch :=
  ⟨(bq_u_no (by omega)).trans hH.1, hH.2.1, fun i hi k hk => by rw [bq_u_ne (by omega)]; exact hH.2.2 i hi k hk⟩
theorem MSt.tr {m ch ch' : Nat} {K J I' : BqI} {G G' : BqG} {h h' : Nat → BqG} {y y' : Int32} (T : MSt m K J G h ch y) (T' : MSt m J I' G' h' ch' y') : MSt m K I' G' h' ch' y' :=
  ⟨T'.1, T'.2.1, T'.2.2.1, fun a ha => (T'.2.2.2.1 a ha).trans (T.2.2.2.1 a ha), fun k h2 h7 h17 => (T'.2.2.2.2 k h2 h7 h17).trans (T.2.2.2.2 k h2 h7 h17)⟩
set_option maxHeartbeats 6820000 in
set_option maxRecDepth 20000 in
theorem o_run {S : BqH} {n : Nat} {I : BqI} {L : BqL} {P : BqP} {m ch : Nat} {h : Nat → BqG} {g : BqG} (hm : oModel S n P m) (hH : MH m I h ch) (hg : I (m + 1) = g) {en : Nat} (hK : GK g en) (hen : en + 60 < 200000) (hq : I m 6 = nI 0) {l : Nat} (h9 : I m 9 = nI l) (hl60 : l ≤ 60) : bq_Sp mX12_run 8 172 0 0 [.ref m] S n I L P (qMr m I S n L P (p_run g h ch (I m 7) (pR (I (m + 5)) l 21 0 0 (fun _ => (nI 0, nI 0, nI 0, nI 0))))) := by
  refine q_entry (vs := [some (.ref m), none, none, none]) (by decide +kernel) (by simp) (Nat.le_of_ble_eq_true rfl) rfl ?_
  have hn := pR_n (B := I (m + 5)) (l := l) 21 0 0 (fun _ => (nI 0, nI 0, nI 0, nI 0)) (Nat.le_refl _) (Nat.zero_le _)
  generalize er : (pR (I (m + 5)) l 21 0 0 (fun _ => (nI 0, nI 0, nI 0, nI 0))) = r at hn ⊢
  refine q_aload_n (pc := 0) dX12_run_0 rfl rfl ?_
  refine q_iconst (pc := 1) (v := nI 0) dX12_run_1 (by decide) ?_
  refine q_putI (pc := 2) dX12_run_2 (pX12_178 _) (Model_sh hm) ⟨by decide, rfl⟩ (Model_lt hm) ?_
  refine q_nameI (fun J0 e0 => ?_)
  have p0 : J0 m 18 = nI 0 := by rw [e0, bq_u_at]
  have l0 : J0 m 9 = nI l := by rw [e0, bq_u_no (by omega)]; exact h9
  have b0 : J0 (m + 5) = I (m + 5) := by rw [e0, bq_u_ne (by omega)]
  have exW : ∀ (J : BqI) (q N : Nat), MT m J0 J (I (m + 5)) l (q, true) → ¬ r.1 = true → r.2.1 = q → bq_W mX12_run 8 172 0 0 51 [some (.ref m), some (.int (nI N)), none, none] [] S n J L P (qMr m I S n L P (p_run g h ch (I m 7) r)) := by
    intro J q N hT hr hp
    have hw : J m 19 = nI 1 := hT.2.1
    have hR := hT.rd e0
    have hq18 : J m 18 = nI q := hT.1
    have hl9 : J m 9 = nI l := hT.2.2.1
    refine q_aload_n (pc := 51) dX12_run_51 rfl rfl ?_
    refine q_dup (pc := 52) dX12_run_52 rfl ?_
    refine q_getI (pc := 53) dX12_run_53 fX12_181 (Model_sh hm) ⟨by decide, rfl⟩ (Model_lt hm) ?_
    rw [hw]
    refine q_aload_n (pc := 56) dX12_run_56 rfl rfl ?_
    refine q_getI (pc := 57) dX12_run_57 fX12_178 (Model_sh hm) ⟨by decide, rfl⟩ (Model_lt hm) ?_
    rw [hq18]
    refine q_aload_n (pc := 60) dX12_run_60 rfl rfl ?_
    refine q_getI (pc := 61) dX12_run_61 fX12_175 (Model_sh hm) ⟨by decide, rfl⟩ (Model_lt hm) ?_
    rw [hl9]
    refine q_icmp_ge (pc := 64) 71 dX12_run_64 (by decide) (fun c_64 => ?_) (fun c_64 => ?_)
    · refine q_iconst (pc := 71) (v := nI 0) dX12_run_71 (by decide) ?_
      refine q_ior (pc := 72) dX12_run_72 ?_
      refine q_putZ (pc := 73) dX12_run_73 (pX12_181 _) (Model_sh hm) ⟨by decide, rfl⟩ (by decide) (Model_lt hm) ?_
      refine q_aload_n (pc := 76) dX12_run_76 rfl rfl ?_
      refine q_iconst (pc := 77) (v := nI 0) dX12_run_77 (by decide) ?_
      refine q_putI (pc := 78) dX12_run_78 (pX12_175 _) (Model_sh hm) ⟨by decide, rfl⟩ (Model_lt hm) ?_
      refine q_aload_n (pc := 81) dX12_run_81 rfl rfl ?_
      refine q_getI (pc := 82) dX12_run_82 fX12_181 (Model_sh hm) ⟨by decide, rfl⟩ (Model_lt hm) ?_
      rw [bq_u_no (by omega), bq_u_at]
      refine q_if_eq (pc := 85) 96 dX12_run_85 (by decide) (fun c_85 => absurd c_85 (by decide)) (fun c_85 => ?_)
      refine q_bipush (pc := 88) (v := (-100)) dX12_run_88 (by decide) ?_
      refine q_aload_n (pc := 90) dX12_run_90 rfl rfl ?_
      refine q_getI (pc := 91) dX12_run_91 fX12_178 (Model_sh hm) ⟨by decide, rfl⟩ (Model_lt hm) ?_
      rw [bq_u_no (by omega), bq_u_no (by omega), hq18]
      refine q_isub (pc := 94) dX12_run_94 ?_
      exact q_iret (st := []) (pc := 95) dX12_run_95 rfl (qMr.bad ((hR.u (Or.inr (Or.inr rfl))).u (Or.inl rfl)) hg hH hq (by rw [← hp]) (p_run_w hr) (bq_u_at _ _ _ _))
    · refine q_iconst (pc := 67) (v := nI 1) dX12_run_67 (by decide) ?_
      refine q_goto (pc := 68) 72 dX12_run_68 (by decide) ?_
      refine q_ior (pc := 72) dX12_run_72 ?_
      refine q_putZ (pc := 73) dX12_run_73 (pX12_181 _) (Model_sh hm) ⟨by decide, rfl⟩ (by decide) (Model_lt hm) ?_
      refine q_aload_n (pc := 76) dX12_run_76 rfl rfl ?_
      refine q_iconst (pc := 77) (v := nI 0) dX12_run_77 (by decide) ?_
      refine q_putI (pc := 78) dX12_run_78 (pX12_175 _) (Model_sh hm) ⟨by decide, rfl⟩ (Model_lt hm) ?_
      refine q_aload_n (pc := 81) dX12_run_81 rfl rfl ?_
      refine q_getI (pc := 82) dX12_run_82 fX12_181 (Model_sh hm) ⟨by decide, rfl⟩ (Model_lt hm) ?_
      rw [bq_u_no (by omega), bq_u_at]
      refine q_if_eq (pc := 85) 96 dX12_run_85 (by decide) (fun c_85 => absurd c_85 (by decide)) (fun c_85 => ?_)
      refine q_bipush (pc := 88) (v := (-100)) dX12_run_88 (by decide) ?_
      refine q_aload_n (pc := 90) dX12_run_90 rfl rfl ?_
      refine q_getI (pc := 91) dX12_run_91 fX12_178 (Model_sh hm) ⟨by decide, rfl⟩ (Model_lt hm) ?_
      rw [bq_u_no (by omega), bq_u_no (by omega), hq18]
      refine q_isub (pc := 94) dX12_run_94 ?_
      exact q_iret (st := []) (pc := 95) dX12_run_95 rfl (qMr.bad ((hR.u (Or.inr (Or.inr rfl))).u (Or.inl rfl)) hg hH hq (by rw [← hp]) (p_run_w hr) (bq_u_at _ _ _ _))
  have exF : ∀ (J : BqI) (q N : Nat), MT m J0 J (I (m + 5)) l (q, false) → q < l → ¬ r.1 = true → r.2.1 = q → bq_W mX12_run 8 172 0 0 51 [some (.ref m), some (.int (nI N)), none, none] [] S n J L P (qMr m I S n L P (p_run g h ch (I m 7) r)) := by
    intro J q N hT hlt hr hp
    have hw : J m 19 = nI 0 := hT.2.1
    have hR := hT.rd e0
    have hq18 : J m 18 = nI q := hT.1
    have hl9 : J m 9 = nI l := hT.2.2.1
    refine q_aload_n (pc := 51) dX12_run_51 rfl rfl ?_
    refine q_dup (pc := 52) dX12_run_52 rfl ?_
    refine q_getI (pc := 53) dX12_run_53 fX12_181 (Model_sh hm) ⟨by decide, rfl⟩ (Model_lt hm) ?_
    rw [hw]
    refine q_aload_n (pc := 56) dX12_run_56 rfl rfl ?_
    refine q_getI (pc := 57) dX12_run_57 fX12_178 (Model_sh hm) ⟨by decide, rfl⟩ (Model_lt hm) ?_
    rw [hq18]
    refine q_aload_n (pc := 60) dX12_run_60 rfl rfl ?_
    refine q_getI (pc := 61) dX12_run_61 fX12_175 (Model_sh hm) ⟨by decide, rfl⟩ (Model_lt hm) ?_
    rw [hl9]
    refine q_icmp_ge (pc := 64) 71 dX12_run_64 (by decide) (fun c_64 => absurd c_64 (nI_ge hlt (by omega))) (fun c_64 => ?_)
    refine q_iconst (pc := 67) (v := nI 1) dX12_run_67 (by decide) ?_
    refine q_goto (pc := 68) 72 dX12_run_68 (by decide) ?_
    refine q_ior (pc := 72) dX12_run_72 ?_
    refine q_putZ (pc := 73) dX12_run_73 (pX12_181 _) (Model_sh hm) ⟨by decide, rfl⟩ (by decide) (Model_lt hm) ?_
    refine q_aload_n (pc := 76) dX12_run_76 rfl rfl ?_
    refine q_iconst (pc := 77) (v := nI 0) dX12_run_77 (by decide) ?_
    refine q_putI (pc := 78) dX12_run_78 (pX12_175 _) (Model_sh hm) ⟨by decide, rfl⟩ (Model_lt hm) ?_
    refine q_aload_n (pc := 81) dX12_run_81 rfl rfl ?_
    refine q_getI (pc := 82) dX12_run_82 fX12_181 (Model_sh hm) ⟨by decide, rfl⟩ (Model_lt hm) ?_
    rw [bq_u_no (by omega), bq_u_at]
    refine q_if_eq (pc := 85) 96 dX12_run_85 (by decide) (fun c_85 => absurd c_85 (by decide)) (fun c_85 => ?_)
    refine q_bipush (pc := 88) (v := (-100)) dX12_run_88 (by decide) ?_
    refine q_aload_n (pc := 90) dX12_run_90 rfl rfl ?_
    refine q_getI (pc := 91) dX12_run_91 fX12_178 (Model_sh hm) ⟨by decide, rfl⟩ (Model_lt hm) ?_
    rw [bq_u_no (by omega), bq_u_no (by omega), hq18]
    refine q_isub (pc := 94) dX12_run_94 ?_
    exact q_iret (st := []) (pc := 95) dX12_run_95 rfl (qMr.bad ((hR.u (Or.inr (Or.inr rfl))).u (Or.inl rfl)) hg hH hq (by rw [← hp]) (p_run_w hr) (bq_u_at _ _ _ _))
  have exO : ∀ (J : BqI) (q : Nat), MT m J0 J (I (m + 5)) l (q, false) → ¬ q < l → r.1 = true → (∀ j, j < r.2.2.1 → Cn (J (m + 13)) (4 * j) (r.2.2.2 j)) → bq_W mX12_run 8 172 0 0 51 [some (.ref m), some (.int (nI r.2.2.1)), none, none] [] S n J L P (qMr m I S n L P (p_run g h ch (I m 7) r)) := by
    intro J q hT hge hr hC
    have hn3 := hn hr
    have hw : J m 19 = nI 0 := hT.2.1
    have hR := hT.rd e0
    have hq18 : J m 18 = nI q := hT.1
    have hl9 : J m 9 = nI l := hT.2.2.1
    have hql : q ≤ l := hT.2.2.2.2.1
    refine q_aload_n (pc := 51) dX12_run_51 rfl rfl ?_
    refine q_dup (pc := 52) dX12_run_52 rfl ?_
    refine q_getI (pc := 53) dX12_run_53 fX12_181 (Model_sh hm) ⟨by decide, rfl⟩ (Model_lt hm) ?_
    rw [hw]
    refine q_aload_n (pc := 56) dX12_run_56 rfl rfl ?_
    refine q_getI (pc := 57) dX12_run_57 fX12_178 (Model_sh hm) ⟨by decide, rfl⟩ (Model_lt hm) ?_
    rw [hq18]
    refine q_aload_n (pc := 60) dX12_run_60 rfl rfl ?_
    refine q_getI (pc := 61) dX12_run_61 fX12_175 (Model_sh hm) ⟨by decide, rfl⟩ (Model_lt hm) ?_
    rw [hl9]
    refine q_icmp_ge (pc := 64) 71 dX12_run_64 (by decide) (fun c_64 => ?_) (fun c_64 => absurd (nI_le (Nat.not_lt.mp hge) (by omega)) c_64)
    refine q_iconst (pc := 71) (v := nI 0) dX12_run_71 (by decide) ?_
    refine q_ior (pc := 72) dX12_run_72 ?_
    refine q_putZ (pc := 73) dX12_run_73 (pX12_181 _) (Model_sh hm) ⟨by decide, rfl⟩ (by decide) (Model_lt hm) ?_
    refine q_aload_n (pc := 76) dX12_run_76 rfl rfl ?_
    refine q_iconst (pc := 77) (v := nI 0) dX12_run_77 (by decide) ?_
    refine q_putI (pc := 78) dX12_run_78 (pX12_175 _) (Model_sh hm) ⟨by decide, rfl⟩ (Model_lt hm) ?_
    refine q_aload_n (pc := 81) dX12_run_81 rfl rfl ?_
    refine q_getI (pc := 82) dX12_run_82 fX12_181 (Model_sh hm) ⟨by decide, rfl⟩ (Model_lt hm) ?_
    rw [bq_u_no (by omega), bq_u_at]
    refine q_if_eq (pc := 85) 96 dX12_run_85 (by decide) (fun c_85 => ?_) (fun c_85 => absurd (by decide) c_85)
    refine q_aload_n (pc := 96) dX12_run_96 rfl rfl ?_
    refine q_getP (pc := 97) dX12_run_97 fX12_9 (Model_sh hm) ⟨by decide, rfl⟩ (Model_lt hm) (Model_p_g hm) ?_
    refine q_iconst (pc := 100) (v := nI 0) dX12_run_100 (by decide) ?_
    refine q_aload_n (pc := 101) dX12_run_101 rfl rfl ?_
    refine q_getP (pc := 102) dX12_run_102 fX12_19 (Model_sh hm) ⟨by decide, rfl⟩ (Model_lt hm) (Model_p_before hm) ?_
    refine q_iconst (pc := 105) (v := nI 0) dX12_run_105 (by decide) ?_
    refine q_callSF (pc := 106) dX12_run_106 kX12_57 (c_X12_copy (Model_s_g hm) (Model_s_before hm) (x := 0) (y := 0) (by omega) (by omega) (by omega)) ⟨Nat.le_of_ble_eq_true rfl, Nat.le_of_ble_eq_true rfl⟩ rfl rfl (Nat.le_of_ble_eq_true rfl) ?_
    show bq_W _ _ _ _ _ 109 _ [] _ _ _ _ _ _
    refine q_aload_n (pc := 109) dX12_run_109 rfl rfl ?_
    refine q_iconst (pc := 110) (v := nI 1) dX12_run_110 (by decide) ?_
    refine q_putZ (pc := 111) dX12_run_111 (pX12_61 _) (Model_sh hm) ⟨by decide, rfl⟩ (by decide) (Model_lt hm) ?_
    refine q_iconst (pc := 114) (v := (-1)) dX12_run_114 (by decide) ?_
    refine q_istore_n (pc := 115) dX12_run_115 rfl (Nat.le_of_ble_eq_true rfl) rfl ?_
    show bq_W _ _ _ _ _ 116 [_, _, _, _] _ _ _ _ _ _ _
    refine q_iconst (pc := 116) (v := nI 0) dX12_run_116 (by decide) ?_
    refine q_istore_n (pc := 117) dX12_run_117 rfl (Nat.le_of_ble_eq_true rfl) rfl ?_
    show bq_W _ _ _ _ _ 118 [_, _, _, _] _ _ _ _ _ _ _
    refine q_nameI (fun K eK => ?_)
    have hQu : Qu m I K ∧ K (m + 13) = J (m + 13) := by
      rw [eK]
      have hz := Qu.mk (J := bq_u (bq_u J m 19 (nI 0 ||| nI 0)) m 9 (nI 0)) ((hR.u (Or.inr (Or.inr rfl))).u (Or.inl rfl)) (bq_u_at _ _ _ _)
      exact ⟨hz.1, hz.2.trans ((bq_u_ne (by omega)).trans (bq_u_ne (by omega)))⟩
    obtain ⟨hQ, hK13⟩ := hQu
    have hS0 := hQ.st hg hH
    have exQ : ∀ (J2 : BqI) (G : BqG) (u : Int32) (q i : Nat), q < 20 → MSt m K J2 G h ch u → p_run g h ch (I m 7) r = ((-200) - nI q, g, h, ch, u) → bq_W mX12_run 8 172 0 0 152 [some (.ref m), some (.int (nI r.2.2.1)), some (.int (nI q)), some (.int (nI i))] [] S n J2 L P (qMr m I S n L P (p_run g h ch (I m 7) r)) := by
      intro J2 G u q i hq20 hT2 hpr
      refine q_aload_n (pc := 152) dX12_run_152 rfl rfl ?_
      refine q_iconst (pc := 153) (v := nI 0) dX12_run_153 (by decide) ?_
      refine q_putZ (pc := 154) dX12_run_154 (pX12_61 _) (Model_sh hm) ⟨by decide, rfl⟩ (by decide) (Model_lt hm) ?_
      refine q_iload_n (pc := 157) dX12_run_157 rfl rfl ?_
      refine q_iconst (pc := 158) (v := (-1)) dX12_run_158 (by decide) ?_
      refine q_icmp_eq (pc := 159) 181 dX12_run_159 (by decide) (fun c_159 => ((rn_ne (by omega) c_159 : False)).elim) (fun c_159 => ?_)
      refine q_aload_n (pc := 162) dX12_run_162 rfl rfl ?_
      refine q_getP (pc := 163) dX12_run_163 fX12_19 (Model_sh hm) ⟨by decide, rfl⟩ (Model_lt hm) (Model_p_before hm) ?_
      refine q_iconst (pc := 166) (v := nI 0) dX12_run_166 (by decide) ?_
      refine q_aload_n (pc := 167) dX12_run_167 rfl rfl ?_
      refine q_getP (pc := 168) dX12_run_168 fX12_9 (Model_sh hm) ⟨by decide, rfl⟩ (Model_lt hm) (Model_p_g hm) ?_
      refine q_iconst (pc := 171) (v := nI 0) dX12_run_171 (by decide) ?_
      refine q_callSF (pc := 172) dX12_run_172 kX12_57 (c_X12_copy (Model_s_before hm) (Model_s_g hm) (x := 0) (y := 0) (by omega) (by omega) (by omega)) ⟨Nat.le_of_ble_eq_true rfl, Nat.le_of_ble_eq_true rfl⟩ rfl rfl (Nat.le_of_ble_eq_true rfl) ?_
      show bq_W _ _ _ _ _ 175 _ [] _ _ _ _ _ _
      refine q_sipush (pc := 175) (v := (-200)) dX12_run_175 (by decide) ?_
      refine q_iload_n (pc := 178) dX12_run_178 rfl rfl ?_
      refine q_isub (pc := 179) dX12_run_179 ?_
      exact q_iret (st := []) (pc := 180) dX12_run_180 rfl (qMr.ref hQ hT2 hg rfl hpr)
    have l2 : ∀ i, i ≤ r.2.2.1 → ∀ J2 : BqI, MSt m K J2 (ds r.2.2.2 g i) h ch (I m 7) → fz r.2.2.2 g i = none → bq_W mX12_run 8 172 0 0 118 [some (.ref m), some (.int (nI r.2.2.1)), some (.int (-1)), some (.int (nI i))] [] S n J2 L P (qMr m I S n L P (p_run g h ch (I m 7) r)) := by
      refine bq_down (A := fun i => ∀ J2 : BqI, MSt m K J2 (ds r.2.2.2 g i) h ch (I m 7) → fz r.2.2.2 g i = none → bq_W mX12_run 8 172 0 0 118 [some (.ref m), some (.int (nI r.2.2.1)), some (.int (-1)), some (.int (nI i))] [] S n J2 L P (qMr m I S n L P (p_run g h ch (I m 7) r))) r.2.2.1 ?_ ?_
      · intro J2 hT2 hz
        refine q_iload_n (pc := 118) dX12_run_118 rfl rfl ?_
        refine q_iload_n (pc := 119) dX12_run_119 rfl rfl ?_
        refine q_icmp_ge (pc := 120) 152 dX12_run_120 (by decide) (fun c_120 => ?_) (fun c_120 => absurd (nI_le (Nat.le_refl _) (by omega)) c_120)
        refine q_aload_n (pc := 152) dX12_run_152 rfl rfl ?_
        refine q_iconst (pc := 153) (v := nI 0) dX12_run_153 (by decide) ?_
        refine q_putZ (pc := 154) dX12_run_154 (pX12_61 _) (Model_sh hm) ⟨by decide, rfl⟩ (by decide) (Model_lt hm) ?_
        refine q_iload_n (pc := 157) dX12_run_157 rfl rfl ?_
        refine q_iconst (pc := 158) (v := (-1)) dX12_run_158 (by decide) ?_
        refine q_icmp_eq (pc := 159) 181 dX12_run_159 (by decide) (fun c_159 => ?_) (fun c_159 => absurd rfl c_159)
        refine q_aload_n (pc := 181) dX12_run_181 rfl rfl ?_
        refine q_aload_n (pc := 182) dX12_run_182 rfl rfl ?_
        refine q_getP (pc := 183) dX12_run_183 fX12_19 (Model_sh hm) ⟨by decide, rfl⟩ (Model_lt hm) (Model_p_before hm) ?_
        refine q_callV (pc := 186) dX12_run_186 kX12_65 (c_remRow hm (Model_s_before hm) (by omega) (by omega) (MH.q6 hT2.2.1)) (Model_sh hm) rfl (Model_lt hm) ⟨Nat.le_of_ble_eq_true rfl, Nat.le_of_ble_eq_true rfl⟩ rfl rfl (Nat.le_of_ble_eq_true rfl) ?_
        rintro _ S5 n5 I5 L5 P5 ⟨rfl, eS5, en5, eL5, eP5, H5, f1, f2⟩
        subst S5 n5 L5 P5
        show bq_W _ _ _ _ _ 189 _ [] _ _ _ _ _ _
        refine q_iload_n (pc := 189) dX12_run_189 rfl rfl ?_
        exact q_iret (st := []) (pc := 190) dX12_run_190 rfl (qMr.ok hQ hT2 hg ((p_run_o hr hz).trans chg_rem) H5 f1 f2)
      · intro i hi ih J2 hT2 hz
        have hG2 : GI (ds r.2.2.2 g i) (en + 3 * i) := (ds_gk hK i (by omega)).gi
        have hq6 : J2 m 6 = nI 1 := (hT2.2.2.2.2 6 (by decide) (by decide) (by decide)).trans hQ.1
        have hcn : wm (ds r.2.2.2 g i) (J2 (m + 13) (4 * i)) (J2 (m + 13) (4 * i + 1)) (J2 (m + 13) (4 * i + 2)) (J2 (m + 13) (4 * i + 3)) = wk (ds r.2.2.2 g i) (r.2.2.2 i) := by
          rw [hT2.2.2.2.1 (m + 13) (by omega), hK13]; exact hC i hi _
        refine q_iload_n (pc := 118) dX12_run_118 rfl rfl ?_
        refine q_iload_n (pc := 119) dX12_run_119 rfl rfl ?_
        refine q_icmp_ge (pc := 120) 152 dX12_run_120 (by decide) (fun c_120 => absurd c_120 (nI_ge hi (by omega))) (fun c_120 => ?_)
        refine q_iload_n (pc := 123) dX12_run_123 rfl rfl ?_
        refine q_iconst (pc := 124) (v := (-1)) dX12_run_124 (by decide) ?_
        refine q_icmp_ne (pc := 125) 152 dX12_run_125 (by decide) (fun c_125 => ((c_125 rfl : False)).elim) (fun c_125 => ?_)
        refine q_aload_n (pc := 128) dX12_run_128 rfl rfl ?_
        refine q_iconst (pc := 129) (v := nI 4) dX12_run_129 (by decide) ?_
        refine q_iload_n (pc := 130) dX12_run_130 rfl rfl ?_
        refine q_imulN (pc := 131) dX12_run_131 ?_
        refine q_callV (pc := 132) dX12_run_132 kX12_212 (c_does hm hT2.2.1 hT2.1 hG2 (by omega) hq6 (t := 4 * i) (by omega)) (Model_sh hm) rfl (Model_lt hm) ⟨Nat.le_of_ble_eq_true rfl, Nat.le_of_ble_eq_true rfl⟩ rfl rfl (Nat.le_of_ble_eq_true rfl) ?_
        rintro _ S4 n4 I4 L4 P4 ⟨rfl, eS4, en4, eL4, eP4, Q4⟩
        subst S4 n4 L4 P4
        show bq_W _ _ _ _ _ 135 _ [_] _ _ _ _ _ _
        rw [hcn] at Q4
        rw [hcn]
        refine q_bipush (pc := 135) (v := (-3)) dX12_run_135 (by decide) ?_
        refine q_icmp_ne (pc := 137) 144 dX12_run_137 (by decide) (fun c_137 => ?_) (fun c_137 => ?_)
        · have hw4 := fun z => c_137 (mst1_3.mpr z)
          rw [mst1_pos hw4] at Q4
          have Q5 : MSt m K I4 _ h ch _ := hT2.tr Q4
          refine q_iconst (pc := 144) (v := (-1)) dX12_run_144 (by decide) ?_
          refine q_istore_n (pc := 145) dX12_run_145 rfl (Nat.le_of_ble_eq_true rfl) rfl ?_
          show bq_W _ _ _ _ _ 146 [_, _, _, _] _ _ _ _ _ _ _
          refine q_iinc (pc := 146) (v := nI (i + 1)) dX12_run_146 rfl (bq_inc _) (Nat.le_of_ble_eq_true rfl) rfl ?_
          show bq_W _ _ _ _ _ 149 [_, _, _, _] _ _ _ _ _ _ _
          refine q_goto (pc := 149) 118 dX12_run_149 (by decide) ?_
          rw [hT2.2.2.1] at Q5
          exact ih I4 Q5 (fz_no hz hw4)
        · have hw4 := mst1_3.mp c_137
          rw [mst1_neg hw4] at Q4
          have Q5 : MSt m K I4 _ h ch _ := hT2.tr Q4
          have hf := fz_hit hi hz hw4
          refine q_iload_n (pc := 140) dX12_run_140 rfl rfl ?_
          refine q_goto (pc := 141) 145 dX12_run_141 (by decide) ?_
          refine q_istore_n (pc := 145) dX12_run_145 rfl (Nat.le_of_ble_eq_true rfl) rfl ?_
          show bq_W _ _ _ _ _ 146 [_, _, _, _] _ _ _ _ _ _ _
          refine q_iinc (pc := 146) (v := nI (i + 1)) dX12_run_146 rfl (bq_inc _) (Nat.le_of_ble_eq_true rfl) rfl ?_
          show bq_W _ _ _ _ _ 149 [_, _, _, _] _ _ _ _ _ _ _
          refine q_goto (pc := 149) 118 dX12_run_149 (by decide) ?_
          refine q_iload_n (pc := 118) dX12_run_118 rfl rfl ?_
          refine q_iload_n (pc := 119) dX12_run_119 rfl rfl ?_
          refine q_icmp_ge (pc := 120) 152 dX12_run_120 (by decide) (fun c_120 => ?_) (fun c_120 => ?_)
          · exact exQ I4 _ _ i (i + 1) (by omega) Q5 (p_run_f hr hf)
          · refine q_iload_n (pc := 123) dX12_run_123 rfl rfl ?_
            refine q_iconst (pc := 124) (v := (-1)) dX12_run_124 (by decide) ?_
            refine q_icmp_ne (pc := 125) 152 dX12_run_125 (by decide) (fun c_125 => ?_) (fun c_125 => ((rn_ne (by omega) c_125 : False)).elim)
            exact exQ I4 _ _ i (i + 1) (by omega) Q5 (p_run_f hr hf)
    exact l2 0 (Nat.zero_le _) K hS0 rfl
  have l1 : ∀ k, ∀ (i p : Nat) (J : BqI) (cs : Nat → BqC), k + i = 20 → 3 * i ≤ p → p ≤ l → pR (I (m + 5)) l (k + 1) i p cs = r → MT m J0 J (I (m + 5)) l (pC (I (m + 5)) l p).1 → ((pC (I (m + 5)) l p).1.2 = false → Cn (J (m + 13)) (4 * i) (pC (I (m + 5)) l p).2) → (∀ j, j < i → Cn (J (m + 13)) (4 * j) (cs j)) → bq_W mX12_run 8 172 0 0 12 [some (.ref m), some (.int (nI (i + 1))), none, none] [] S n J L P (qMr m I S n L P (p_run g h ch (I m 7) r)) := by
    intro k
    induction k with
    | zero =>
      intro i p J cs hki hip hpl hr0 hT hC hCs
      have hle := pC_le (B := I (m + 5)) hpl
      have e : pR (I (m + 5)) l (0 + 1) i p cs = if (pC (I (m + 5)) l p).1.2 = true then (false, (pC (I (m + 5)) l p).1.1, i, cs) else if l ≤ (pC (I (m + 5)) l p).1.1 then (true, (pC (I (m + 5)) l p).1.1, i + 1, bq_r cs i (pC (I (m + 5)) l p).2) else if hr (I (m + 5)) l (pC (I (m + 5)) l p).1.1 = nI 59 then pR (I (m + 5)) l 0 (i + 1) ((pC (I (m + 5)) l p).1.1 + 1) (bq_r cs i (pC (I (m + 5)) l p).2) else (false, (pC (I (m + 5)) l p).1.1, i + 1, cs) := rfl
      have hend := pC_end (B := I (m + 5)) (l := l) (p := p) (by omega)
      generalize ec : pC (I (m + 5)) l p = c at hle e hT hC hend
      obtain ⟨⟨q, w⟩, cm⟩ := c
      cases w with
      | true =>
        have hr1 : r = (false, q, i, cs) := by rw [← hr0, e]; exact if_pos rfl
        have hw : J m 19 = nI 1 := hT.2.1
        refine q_aload_n (pc := 12) dX12_run_12 rfl rfl ?_
        refine q_getI (pc := 13) dX12_run_13 fX12_181 (Model_sh hm) ⟨by decide, rfl⟩ (Model_lt hm) ?_
        rw [hw]
        refine q_if_ne (pc := 16) 51 dX12_run_16 (by decide) (fun c_16 => ?_) (fun c_16 => ((absurd c_16 (by decide) : False)).elim)
        exact exW J q (i + 1) hT (by rw [hr1]; exact fun z => Bool.noConfusion z) (by rw [hr1])
      | false =>
        exact Bool.noConfusion (congrArg Prod.snd hend)
    | succ k ihk =>
      intro i p J cs hki hip hpl hr0 hT hC hCs
      have hle := pC_le (B := I (m + 5)) hpl
      have e : pR (I (m + 5)) l ((k + 1) + 1) i p cs = if (pC (I (m + 5)) l p).1.2 = true then (false, (pC (I (m + 5)) l p).1.1, i, cs) else if l ≤ (pC (I (m + 5)) l p).1.1 then (true, (pC (I (m + 5)) l p).1.1, i + 1, bq_r cs i (pC (I (m + 5)) l p).2) else if hr (I (m + 5)) l (pC (I (m + 5)) l p).1.1 = nI 59 then pR (I (m + 5)) l (k + 1) (i + 1) ((pC (I (m + 5)) l p).1.1 + 1) (bq_r cs i (pC (I (m + 5)) l p).2) else (false, (pC (I (m + 5)) l p).1.1, i + 1, cs) := rfl
      generalize ec : pC (I (m + 5)) l p = c at hle e hT hC
      obtain ⟨⟨q, w⟩, cm⟩ := c
      cases w with
      | true =>
        have hr1 : r = (false, q, i, cs) := by rw [← hr0, e]; exact if_pos rfl
        have hw : J m 19 = nI 1 := hT.2.1
        refine q_aload_n (pc := 12) dX12_run_12 rfl rfl ?_
        refine q_getI (pc := 13) dX12_run_13 fX12_181 (Model_sh hm) ⟨by decide, rfl⟩ (Model_lt hm) ?_
        rw [hw]
        refine q_if_ne (pc := 16) 51 dX12_run_16 (by decide) (fun c_16 => ?_) (fun c_16 => ((absurd c_16 (by decide) : False)).elim)
        exact exW J q (i + 1) hT (by rw [hr1]; exact fun z => Bool.noConfusion z) (by rw [hr1])
      | false =>
        have hw : J m 19 = nI 0 := hT.2.1
        have hq18 : J m 18 = nI q := hT.1
        have hql : q ≤ l := hT.2.2.2.2.1
        have hC' := hC rfl
        refine q_aload_n (pc := 12) dX12_run_12 rfl rfl ?_
        refine q_getI (pc := 13) dX12_run_13 fX12_181 (Model_sh hm) ⟨by decide, rfl⟩ (Model_lt hm) ?_
        rw [hw]
        refine q_if_ne (pc := 16) 51 dX12_run_16 (by decide) (fun c_16 => absurd c_16 (by decide)) (fun c_16 => ?_)
        refine q_aload_n (pc := 19) dX12_run_19 rfl rfl ?_
        refine q_callVF (pc := 20) dX12_run_20 kX12_184 (c_X12_here hm hT.1 hT.2.2.1 hT.2.2.2.1 hT.2.2.2.2.2.1 hT.2.2.2.2.1) (Model_sh hm) rfl (Model_lt hm) ⟨Nat.le_of_ble_eq_true rfl, Nat.le_of_ble_eq_true rfl⟩ rfl rfl (Nat.le_of_ble_eq_true rfl) ?_
        show bq_W _ _ _ _ _ 23 _ [_] _ _ _ _ _ _
        refine q_bipush (pc := 23) (v := nI 59) dX12_run_23 (by decide) ?_
        refine q_icmp_ne (pc := 25) 51 dX12_run_25 (by decide) (fun c_25 => ?_) (fun c_25 => ?_)
        · by_cases c2 : l ≤ q
          · have hr1 : r = (true, q, i + 1, bq_r cs i cm) := by rw [← hr0, e]; exact (if_neg (fun z => Bool.noConfusion z)).trans (if_pos c2)
            have hall : ∀ j, j < i + 1 → Cn (J (m + 13)) (4 * j) (bq_r cs i cm j) := by
              intro j hj
              by_cases z : j = i
              · rw [z, bq_r_self]; exact hC'
              · rw [bq_r_ne z]; exact hCs j (by omega)
            have hx := exO J q hT (by omega) (by rw [hr1]) (by rw [hr1]; exact hall)
            rw [show r.2.2.1 = i + 1 from by rw [hr1]] at hx
            exact hx
          · have hr1 : r = (false, q, i + 1, cs) := by rw [← hr0, e]; exact (if_neg (fun z => Bool.noConfusion z)).trans ((if_neg c2).trans (if_neg c_25))
            exact exF J q (i + 1) hT (by omega) (by rw [hr1]; exact fun z => Bool.noConfusion z) (by rw [hr1])
        · have hlt := hr_lt (by decide) c_25
          refine q_aload_n (pc := 28) dX12_run_28 rfl rfl ?_
          refine q_dup (pc := 29) dX12_run_29 rfl ?_
          refine q_getI (pc := 30) dX12_run_30 fX12_178 (Model_sh hm) ⟨by decide, rfl⟩ (Model_lt hm) ?_
          rw [hq18]
          refine q_iconst (pc := 33) (v := nI 1) dX12_run_33 (by decide) ?_
          refine q_iaddN (pc := 34) dX12_run_34 ?_
          refine q_putI (pc := 35) dX12_run_35 (pX12_178 _) (Model_sh hm) ⟨by decide, rfl⟩ (Model_lt hm) ?_
          refine q_aload_n (pc := 38) dX12_run_38 rfl rfl ?_
          refine q_iconst (pc := 39) (v := nI 4) dX12_run_39 (by decide) ?_
          refine q_iload_n (pc := 40) dX12_run_40 rfl rfl ?_
          refine q_imulN (pc := 41) dX12_run_41 ?_
          refine q_callV (pc := 42) dX12_run_42 kX12_209 (c_rcmd (B := I (m + 5)) (l := l) (p := q + 1) (t := 4 * (i + 1)) hm (bq_u_at _ _ _ _) ((bq_u_no (by omega)).trans hT.2.2.1) ((bq_u_ne (by omega)).trans hT.2.2.2.1) hl60 hlt (by omega)) (Model_sh hm) rfl (Model_lt hm) ⟨Nat.le_of_ble_eq_true rfl, Nat.le_of_ble_eq_true rfl⟩ rfl rfl (Nat.le_of_ble_eq_true rfl) ?_
          rintro _ S3 n3 I3 L3 P3 ⟨rfl, eS3, en3, eL3, eP3, T3, C3, D3⟩
          subst S3 n3 L3 P3
          show bq_W _ _ _ _ _ 45 _ [] _ _ _ _ _ _
          refine q_iinc (pc := 45) (v := nI ((i + 1) + 1)) dX12_run_45 rfl (bq_inc _) (Nat.le_of_ble_eq_true rfl) rfl ?_
          show bq_W _ _ _ _ _ 48 [_, _, _, _] _ _ _ _ _ _ _
          refine q_goto (pc := 48) 12 dX12_run_48 (by decide) ?_
          have hge := hle.2.2 rfl
          have hge' : p + 2 ≤ q := hge
          have hr1 : pR (I (m + 5)) l (k + 1) (i + 1) (q + 1) (bq_r cs i cm) = r := by rw [← hr0, e]; exact ((if_neg (fun z => Bool.noConfusion z)).trans ((if_neg (show ¬ l ≤ q by omega)).trans (if_pos c_25))).symm
          have D4 : ∀ j, j < 4 * (i + 1) → I3 (m + 13) j = J (m + 13) j := fun j hj => (D3 j (Or.inl hj)).trans (congrFun (bq_u_ne (by omega)) j)
          exact ihk (i + 1) (q + 1) I3 (bq_r cs i cm) (by omega) (by omega) hlt hr1 (T3.un hT) C3 (fun j hj => by
            by_cases z : j = i
            · rw [z, bq_r_self]; exact hC'.fr (fun a a1 a2 => D4 a (by omega))
            · rw [bq_r_ne z]; exact (hCs j (by omega)).fr (fun a a1 a2 => D4 a (by omega)))
  refine q_aload_n (pc := 5) dX12_run_5 rfl rfl ?_
  refine q_iconst (pc := 6) (v := nI 0) dX12_run_6 (by decide) ?_
  refine q_callV (pc := 7) dX12_run_7 kX12_209 (c_rcmd (B := I (m + 5)) (l := l) (p := 0) (t := 0) hm p0 l0 b0 hl60 (Nat.zero_le _) (by decide)) (Model_sh hm) rfl (Model_lt hm) ⟨Nat.le_of_ble_eq_true rfl, Nat.le_of_ble_eq_true rfl⟩ rfl rfl (Nat.le_of_ble_eq_true rfl) ?_
  rintro _ S1 n1 I1 L1 P1 ⟨rfl, eS1, en1, eL1, eP1, T1, C1, D1⟩
  subst S1 n1 L1 P1
  show bq_W _ _ _ _ _ 10 _ [] _ _ _ _ _ _
  refine q_iconst (pc := 10) (v := nI 1) dX12_run_10 (by decide) ?_
  refine q_istore_n (pc := 11) dX12_run_11 rfl (Nat.le_of_ble_eq_true rfl) rfl ?_
  show bq_W _ _ _ _ _ 12 [_, _, _, _] _ _ _ _ _ _ _
  exact l1 20 0 0 I1 _ rfl (Nat.le_refl _) (Nat.zero_le _) er T1 C1 (fun j hj => absurd hj (Nat.not_lt_zero j))
/-! the model's feeding -/
def FM (m : Nat) (I0 I : BqI) (l : Nat) (F : Nat → Int32) : Prop := I m 9 = nI l ∧ (∀ j, j < 60 → I (m + 5) j = F j) ∧ (∀ a, a ≠ m → a ≠ m + 5 → I a = I0 a) ∧ ∀ k, k ≠ 9 → I m k = I0 m k
theorem FM.ap {m l : Nat} {I0 I : BqI} {F : Nat → Int32} {v : Int32} (h : FM m I0 I l F) : FM m I0 (bq_u (bq_u I (m + 5) l v) m 9 (nI (l + 1))) (l + 1) (bq_r F l v) := by
  obtain ⟨h0, h1, h2, h3⟩ := h
  refine ⟨bq_u_at _ _ _ _, fun j hj => ?_, fun a q1 q2 => ?_, fun k q => ?_⟩
  · rw [bq_u_ne (by omega)]
    by_cases e : j = l
    · rw [e, bq_u_at, bq_r_self]
    · rw [bq_u_no (fun z => e z.2), bq_r_ne e]; exact h1 j hj
  · rw [bq_u_ne q1, bq_u_ne q2]; exact h2 a q1 q2
  · rw [bq_u_no (fun z => q z.2), bq_u_ne (by omega)]; exact h3 k q
def qFm (m : Nat) (I : BqI) (S : BqH) (n : Nat) (L : BqL) (P : BqP) (w : Int32 × Nat × (Nat → Int32)) : BqQ := fun r S' n' I' L' P' => r = some (.int w.1) ∧ S' = S ∧ n' = n ∧ L' = L ∧ P' = P ∧ FM m I I' w.2.1 w.2.2
set_option maxHeartbeats 1060000 in
set_option maxRecDepth 20000 in
theorem o_feed_a {S : BqH} {n : Nat} {I : BqI} {L : BqL} {P : BqP} {m : Nat} (hm : oModel S n P m) {l : Nat} (h0 : I m 9 = nI l) (hl : l ≤ 60) {k : Int32} {a b c d e : Int32} (hb : (k < nI 1 ∨ ¬ k ≤ nI 5) ∨ (a < nI 0 ∨ ¬ a ≤ nI 127) ∨ (b < nI 0 ∨ ¬ b ≤ nI 127) ∨ (c < nI 0 ∨ ¬ c ≤ nI 127) ∨ (d < nI 0 ∨ ¬ d ≤ nI 127) ∨ (e < nI 0 ∨ ¬ e ≤ nI 127)) : bq_Sp mX12_feed 3 54 0 0 [.ref m, .int k, .int a, .int b, .int c, .int d, .int e] S n I L P (qFm m I S n L P (p_feed l (I (m + 5)) k a b c d e)) := by
  refine q_entry (vs := [some (.ref m), some (.int k), some (.int a), some (.int b), some (.int c), some (.int d), some (.int e), none]) (by decide +kernel) (by simp) (Nat.le_of_ble_eq_true rfl) rfl ?_
  have f0 : FM m I I l (I (m + 5)) := ⟨h0, fun _ _ => rfl, fun _ _ _ => rfl, fun _ _ => rfl⟩
  refine q_iload_n (pc := 0) dX12_feed_0 rfl rfl ?_
  refine q_iconst (pc := 1) (v := nI 1) dX12_feed_1 (by decide) ?_
  refine q_iconst (pc := 2) (v := nI 5) dX12_feed_2 (by decide) ?_
  refine q_callSF (pc := 3) dX12_feed_3 kX12_69 c_X12_in ⟨Nat.le_of_ble_eq_true rfl, Nat.le_of_ble_eq_true rfl⟩ rfl rfl (Nat.le_of_ble_eq_true rfl) ?_
  show bq_W _ _ _ _ _ 6 _ [_] _ _ _ _ _ _
  refine q_if_eq (pc := 6) 47 dX12_feed_6 (by decide) (fun c_6 => ?_) (fun c_6 => ?_)
  · replace c_6 := bq_nb0.mp c_6
    refine q_bipush (pc := 47) (v := (-2)) dX12_feed_47 (by decide) ?_
    exact q_iret (st := []) (pc := 49) dX12_feed_49 rfl ⟨by rw [p_feed_bad hb], rfl, rfl, rfl, rfl, by rw [p_feed_bad hb]; exact f0⟩
  · replace c_6 := bq_nbn.mp c_6
    refine q_iload_n (pc := 9) dX12_feed_9 rfl rfl ?_
    refine q_callSF (pc := 10) dX12_feed_10 kX12_172 c_X12_isByte ⟨Nat.le_of_ble_eq_true rfl, Nat.le_of_ble_eq_true rfl⟩ rfl rfl (Nat.le_of_ble_eq_true rfl) ?_
    show bq_W _ _ _ _ _ 13 _ [_] _ _ _ _ _ _
    refine q_if_eq (pc := 13) 47 dX12_feed_13 (by decide) (fun c_13 => ?_) (fun c_13 => ?_)
    · replace c_13 := bq_nb0.mp c_13
      refine q_bipush (pc := 47) (v := (-2)) dX12_feed_47 (by decide) ?_
      exact q_iret (st := []) (pc := 49) dX12_feed_49 rfl ⟨by rw [p_feed_bad hb], rfl, rfl, rfl, rfl, by rw [p_feed_bad hb]; exact f0⟩
    · replace c_13 := bq_nbn.mp c_13
      refine q_iload_n (pc := 16) dX12_feed_16 rfl rfl ?_
      refine q_callSF (pc := 17) dX12_feed_17 kX12_172 c_X12_isByte ⟨Nat.le_of_ble_eq_true rfl, Nat.le_of_ble_eq_true rfl⟩ rfl rfl (Nat.le_of_ble_eq_true rfl) ?_
      show bq_W _ _ _ _ _ 20 _ [_] _ _ _ _ _ _
      refine q_if_eq (pc := 20) 47 dX12_feed_20 (by decide) (fun c_20 => ?_) (fun c_20 => ?_)
      · replace c_20 := bq_nb0.mp c_20
        refine q_bipush (pc := 47) (v := (-2)) dX12_feed_47 (by decide) ?_
        exact q_iret (st := []) (pc := 49) dX12_feed_49 rfl ⟨by rw [p_feed_bad hb], rfl, rfl, rfl, rfl, by rw [p_feed_bad hb]; exact f0⟩
      · replace c_20 := bq_nbn.mp c_20
        refine q_iload (pc := 23) dX12_feed_23 rfl ?_
        refine q_callSF (pc := 25) dX12_feed_25 kX12_172 c_X12_isByte ⟨Nat.le_of_ble_eq_true rfl, Nat.le_of_ble_eq_true rfl⟩ rfl rfl (Nat.le_of_ble_eq_true rfl) ?_
        show bq_W _ _ _ _ _ 28 _ [_] _ _ _ _ _ _
        refine q_if_eq (pc := 28) 47 dX12_feed_28 (by decide) (fun c_28 => ?_) (fun c_28 => ?_)
        · replace c_28 := bq_nb0.mp c_28
          refine q_bipush (pc := 47) (v := (-2)) dX12_feed_47 (by decide) ?_
          exact q_iret (st := []) (pc := 49) dX12_feed_49 rfl ⟨by rw [p_feed_bad hb], rfl, rfl, rfl, rfl, by rw [p_feed_bad hb]; exact f0⟩
        · replace c_28 := bq_nbn.mp c_28
          refine q_iload (pc := 31) dX12_feed_31 rfl ?_
          refine q_callSF (pc := 33) dX12_feed_33 kX12_172 c_X12_isByte ⟨Nat.le_of_ble_eq_true rfl, Nat.le_of_ble_eq_true rfl⟩ rfl rfl (Nat.le_of_ble_eq_true rfl) ?_
          show bq_W _ _ _ _ _ 36 _ [_] _ _ _ _ _ _
          refine q_if_eq (pc := 36) 47 dX12_feed_36 (by decide) (fun c_36 => ?_) (fun c_36 => ?_)
          · replace c_36 := bq_nb0.mp c_36
            refine q_bipush (pc := 47) (v := (-2)) dX12_feed_47 (by decide) ?_
            exact q_iret (st := []) (pc := 49) dX12_feed_49 rfl ⟨by rw [p_feed_bad hb], rfl, rfl, rfl, rfl, by rw [p_feed_bad hb]; exact f0⟩
          · replace c_36 := bq_nbn.mp c_36
            refine q_iload (pc := 39) dX12_feed_39 rfl ?_
            refine q_callSF (pc := 41) dX12_feed_41 kX12_172 c_X12_isByte ⟨Nat.le_of_ble_eq_true rfl, Nat.le_of_ble_eq_true rfl⟩ rfl rfl (Nat.le_of_ble_eq_true rfl) ?_
            show bq_W _ _ _ _ _ 44 _ [_] _ _ _ _ _ _
            refine q_if_ne (pc := 44) 50 dX12_feed_44 (by decide) (fun c_44 => ?_) (fun c_44 => ?_)
            · replace c_44 := bq_nbn.mp c_44
              exact absurd hb (fun z => z.elim c_6 (fun z => z.elim c_13 (fun z => z.elim c_20 (fun z => z.elim c_28 (fun z => z.elim c_36 c_44)))))
            · replace c_44 := bq_nb0.mp c_44
              refine q_bipush (pc := 47) (v := (-2)) dX12_feed_47 (by decide) ?_
              exact q_iret (st := []) (pc := 49) dX12_feed_49 rfl ⟨by rw [p_feed_bad hb], rfl, rfl, rfl, rfl, by rw [p_feed_bad hb]; exact f0⟩
set_option maxHeartbeats 1000000 in
set_option maxRecDepth 20000 in
theorem o_feed_b {S : BqH} {n : Nat} {I : BqI} {L : BqL} {P : BqP} {m : Nat} (hm : oModel S n P m) {l : Nat} (h0 : I m 9 = nI l) (hl : l ≤ 60) {k : Nat} (k1 : 1 ≤ k) (k5 : k ≤ 5) {a b c d e : Int32} (ha : ¬ (a < nI 0 ∨ ¬ a ≤ nI 127)) (hb : ¬ (b < nI 0 ∨ ¬ b ≤ nI 127)) (hc : ¬ (c < nI 0 ∨ ¬ c ≤ nI 127)) (hd : ¬ (d < nI 0 ∨ ¬ d ≤ nI 127)) (he : ¬ (e < nI 0 ∨ ¬ e ≤ nI 127)) (hf : 60 < l + k) : bq_Sp mX12_feed 3 54 0 0 [.ref m, .int (nI k), .int a, .int b, .int c, .int d, .int e] S n I L P (qFm m I S n L P (p_feed l (I (m + 5)) (nI k) a b c d e)) := by
  refine q_entry (vs := [some (.ref m), some (.int (nI k)), some (.int a), some (.int b), some (.int c), some (.int d), some (.int e), none]) (by decide +kernel) (by simp) (Nat.le_of_ble_eq_true rfl) rfl ?_
  have f0 : FM m I I l (I (m + 5)) := ⟨h0, fun _ _ => rfl, fun _ _ _ => rfl, fun _ _ => rfl⟩
  refine q_iload_n (pc := 0) dX12_feed_0 rfl rfl ?_
  refine q_iconst (pc := 1) (v := nI 1) dX12_feed_1 (by decide) ?_
  refine q_iconst (pc := 2) (v := nI 5) dX12_feed_2 (by decide) ?_
  refine q_callSF (pc := 3) dX12_feed_3 kX12_69 c_X12_in ⟨Nat.le_of_ble_eq_true rfl, Nat.le_of_ble_eq_true rfl⟩ rfl rfl (Nat.le_of_ble_eq_true rfl) ?_
  show bq_W _ _ _ _ _ 6 _ [_] _ _ _ _ _ _
  refine q_if_eq (pc := 6) 47 dX12_feed_6 (by decide) (fun c_6 => (((bq_nin (by omega) (by omega) (by decide)) (bq_nb0.mp c_6) : False)).elim) (fun c_6 => ?_)
  refine q_iload_n (pc := 9) dX12_feed_9 rfl rfl ?_
  refine q_callSF (pc := 10) dX12_feed_10 kX12_172 c_X12_isByte ⟨Nat.le_of_ble_eq_true rfl, Nat.le_of_ble_eq_true rfl⟩ rfl rfl (Nat.le_of_ble_eq_true rfl) ?_
  show bq_W _ _ _ _ _ 13 _ [_] _ _ _ _ _ _
  refine q_if_eq (pc := 13) 47 dX12_feed_13 (by decide) (fun c_13 => ((ha (bq_nb0.mp c_13))).elim) (fun c_13 => ?_)
  refine q_iload_n (pc := 16) dX12_feed_16 rfl rfl ?_
  refine q_callSF (pc := 17) dX12_feed_17 kX12_172 c_X12_isByte ⟨Nat.le_of_ble_eq_true rfl, Nat.le_of_ble_eq_true rfl⟩ rfl rfl (Nat.le_of_ble_eq_true rfl) ?_
  show bq_W _ _ _ _ _ 20 _ [_] _ _ _ _ _ _
  refine q_if_eq (pc := 20) 47 dX12_feed_20 (by decide) (fun c_20 => ((hb (bq_nb0.mp c_20))).elim) (fun c_20 => ?_)
  refine q_iload (pc := 23) dX12_feed_23 rfl ?_
  refine q_callSF (pc := 25) dX12_feed_25 kX12_172 c_X12_isByte ⟨Nat.le_of_ble_eq_true rfl, Nat.le_of_ble_eq_true rfl⟩ rfl rfl (Nat.le_of_ble_eq_true rfl) ?_
  show bq_W _ _ _ _ _ 28 _ [_] _ _ _ _ _ _
  refine q_if_eq (pc := 28) 47 dX12_feed_28 (by decide) (fun c_28 => ((hc (bq_nb0.mp c_28))).elim) (fun c_28 => ?_)
  refine q_iload (pc := 31) dX12_feed_31 rfl ?_
  refine q_callSF (pc := 33) dX12_feed_33 kX12_172 c_X12_isByte ⟨Nat.le_of_ble_eq_true rfl, Nat.le_of_ble_eq_true rfl⟩ rfl rfl (Nat.le_of_ble_eq_true rfl) ?_
  show bq_W _ _ _ _ _ 36 _ [_] _ _ _ _ _ _
  refine q_if_eq (pc := 36) 47 dX12_feed_36 (by decide) (fun c_36 => ((hd (bq_nb0.mp c_36))).elim) (fun c_36 => ?_)
  refine q_iload (pc := 39) dX12_feed_39 rfl ?_
  refine q_callSF (pc := 41) dX12_feed_41 kX12_172 c_X12_isByte ⟨Nat.le_of_ble_eq_true rfl, Nat.le_of_ble_eq_true rfl⟩ rfl rfl (Nat.le_of_ble_eq_true rfl) ?_
  show bq_W _ _ _ _ _ 44 _ [_] _ _ _ _ _ _
  refine q_if_ne (pc := 44) 50 dX12_feed_44 (by decide) (fun c_44 => ?_) (fun c_44 => ((he (bq_nb0.mp c_44))).elim)
  refine q_aload_n (pc := 50) dX12_feed_50 rfl rfl ?_
  refine q_getI (pc := 51) dX12_feed_51 fX12_175 (Model_sh hm) ⟨by decide, rfl⟩ (Model_lt hm) ?_
  rw [h0]
  refine q_iload_n (pc := 54) dX12_feed_54 rfl rfl ?_
  refine q_iaddN (pc := 55) dX12_feed_55 ?_
  refine q_bipush (pc := 56) (v := nI 60) dX12_feed_56 (by decide) ?_
  refine q_icmp_le (pc := 58) 64 dX12_feed_58 (by decide) (fun c_58 => absurd c_58 (nI_ge hf (by omega))) (fun c_58 => ?_)
  refine q_bipush (pc := 61) (v := (-4)) dX12_feed_61 (by decide) ?_
  exact q_iret (st := []) (pc := 63) dX12_feed_63 rfl ⟨by rw [p_feed_full k1 k5 ha hb hc hd he hf], rfl, rfl, rfl, rfl, by rw [p_feed_full k1 k5 ha hb hc hd he hf]; exact f0⟩
set_option maxHeartbeats 1400000 in
set_option maxRecDepth 20000 in
theorem o_feed_k1 {S : BqH} {n : Nat} {I : BqI} {L : BqL} {P : BqP} {m : Nat} (hm : oModel S n P m) {l : Nat} (h0 : I m 9 = nI l) (hl : l ≤ 60) {a b c d e : Int32} (ha : ¬ (a < nI 0 ∨ ¬ a ≤ nI 127)) (hb : ¬ (b < nI 0 ∨ ¬ b ≤ nI 127)) (hc : ¬ (c < nI 0 ∨ ¬ c ≤ nI 127)) (hd : ¬ (d < nI 0 ∨ ¬ d ≤ nI 127)) (he : ¬ (e < nI 0 ∨ ¬ e ≤ nI 127)) (hf : ¬ 60 < l + 1) : bq_Sp mX12_feed 3 54 0 0 [.ref m, .int (nI 1), .int a, .int b, .int c, .int d, .int e] S n I L P (qFm m I S n L P (p_feed l (I (m + 5)) (nI 1) a b c d e)) := by
  refine q_entry (vs := [some (.ref m), some (.int (nI 1)), some (.int a), some (.int b), some (.int c), some (.int d), some (.int e), none]) (by decide +kernel) (by simp) (Nat.le_of_ble_eq_true rfl) rfl ?_
  have f0 : FM m I I l (I (m + 5)) := ⟨h0, fun _ _ => rfl, fun _ _ _ => rfl, fun _ _ => rfl⟩
  refine q_iload_n (pc := 0) dX12_feed_0 rfl rfl ?_
  refine q_iconst (pc := 1) (v := nI 1) dX12_feed_1 (by decide) ?_
  refine q_iconst (pc := 2) (v := nI 5) dX12_feed_2 (by decide) ?_
  refine q_callSF (pc := 3) dX12_feed_3 kX12_69 c_X12_in ⟨Nat.le_of_ble_eq_true rfl, Nat.le_of_ble_eq_true rfl⟩ rfl rfl (Nat.le_of_ble_eq_true rfl) ?_
  show bq_W _ _ _ _ _ 6 _ [_] _ _ _ _ _ _
  refine q_if_eq (pc := 6) 47 dX12_feed_6 (by decide) (fun c_6 => (((bq_nin (by omega) (by omega) (by decide)) (bq_nb0.mp c_6) : False)).elim) (fun c_6 => ?_)
  refine q_iload_n (pc := 9) dX12_feed_9 rfl rfl ?_
  refine q_callSF (pc := 10) dX12_feed_10 kX12_172 c_X12_isByte ⟨Nat.le_of_ble_eq_true rfl, Nat.le_of_ble_eq_true rfl⟩ rfl rfl (Nat.le_of_ble_eq_true rfl) ?_
  show bq_W _ _ _ _ _ 13 _ [_] _ _ _ _ _ _
  refine q_if_eq (pc := 13) 47 dX12_feed_13 (by decide) (fun c_13 => ((ha (bq_nb0.mp c_13))).elim) (fun c_13 => ?_)
  refine q_iload_n (pc := 16) dX12_feed_16 rfl rfl ?_
  refine q_callSF (pc := 17) dX12_feed_17 kX12_172 c_X12_isByte ⟨Nat.le_of_ble_eq_true rfl, Nat.le_of_ble_eq_true rfl⟩ rfl rfl (Nat.le_of_ble_eq_true rfl) ?_
  show bq_W _ _ _ _ _ 20 _ [_] _ _ _ _ _ _
  refine q_if_eq (pc := 20) 47 dX12_feed_20 (by decide) (fun c_20 => ((hb (bq_nb0.mp c_20))).elim) (fun c_20 => ?_)
  refine q_iload (pc := 23) dX12_feed_23 rfl ?_
  refine q_callSF (pc := 25) dX12_feed_25 kX12_172 c_X12_isByte ⟨Nat.le_of_ble_eq_true rfl, Nat.le_of_ble_eq_true rfl⟩ rfl rfl (Nat.le_of_ble_eq_true rfl) ?_
  show bq_W _ _ _ _ _ 28 _ [_] _ _ _ _ _ _
  refine q_if_eq (pc := 28) 47 dX12_feed_28 (by decide) (fun c_28 => ((hc (bq_nb0.mp c_28))).elim) (fun c_28 => ?_)
  refine q_iload (pc := 31) dX12_feed_31 rfl ?_
  refine q_callSF (pc := 33) dX12_feed_33 kX12_172 c_X12_isByte ⟨Nat.le_of_ble_eq_true rfl, Nat.le_of_ble_eq_true rfl⟩ rfl rfl (Nat.le_of_ble_eq_true rfl) ?_
  show bq_W _ _ _ _ _ 36 _ [_] _ _ _ _ _ _
  refine q_if_eq (pc := 36) 47 dX12_feed_36 (by decide) (fun c_36 => ((hd (bq_nb0.mp c_36))).elim) (fun c_36 => ?_)
  refine q_iload (pc := 39) dX12_feed_39 rfl ?_
  refine q_callSF (pc := 41) dX12_feed_41 kX12_172 c_X12_isByte ⟨Nat.le_of_ble_eq_true rfl, Nat.le_of_ble_eq_true rfl⟩ rfl rfl (Nat.le_of_ble_eq_true rfl) ?_
  show bq_W _ _ _ _ _ 44 _ [_] _ _ _ _ _ _
  refine q_if_ne (pc := 44) 50 dX12_feed_44 (by decide) (fun c_44 => ?_) (fun c_44 => ((he (bq_nb0.mp c_44))).elim)
  refine q_aload_n (pc := 50) dX12_feed_50 rfl rfl ?_
  refine q_getI (pc := 51) dX12_feed_51 fX12_175 (Model_sh hm) ⟨by decide, rfl⟩ (Model_lt hm) ?_
  rw [h0]
  refine q_iload_n (pc := 54) dX12_feed_54 rfl rfl ?_
  refine q_iaddN (pc := 55) dX12_feed_55 ?_
  refine q_bipush (pc := 56) (v := nI 60) dX12_feed_56 (by decide) ?_
  refine q_icmp_le (pc := 58) 64 dX12_feed_58 (by decide) (fun c_58 => ?_) (fun c_58 => absurd (nI_le (show l + 1 ≤ 60 by omega) (by decide)) c_58)
  refine q_iconst (pc := 64) (v := nI 0) dX12_feed_64 (by decide) ?_
  refine q_istore (pc := 65) dX12_feed_65 (Nat.le_of_ble_eq_true rfl) rfl ?_
  show bq_W _ _ _ _ _ 67 [_, _, _, _, _, _, _, _] _ _ _ _ _ _ _
  refine q_iload (pc := 67) dX12_feed_67 rfl ?_
  refine q_iload_n (pc := 69) dX12_feed_69 rfl rfl ?_
  refine q_icmp_ge (pc := 70) 141 dX12_feed_70 (by decide) (fun c_70 => absurd c_70 (by decide)) (fun c_70 => ?_)
  refine q_aload_n (pc := 73) dX12_feed_73 rfl rfl ?_
  refine q_getP (pc := 74) dX12_feed_74 fX12_22 (Model_sh hm) ⟨by decide, rfl⟩ (Model_lt hm) (Model_p_tape hm) ?_
  refine q_aload_n (pc := 77) dX12_feed_77 rfl rfl ?_
  refine q_getI (pc := 78) dX12_feed_78 fX12_175 (Model_sh hm) ⟨by decide, rfl⟩ (Model_lt hm) ?_
  rw [f0.1]
  refine q_iload (pc := 81) dX12_feed_81 rfl ?_
  refine q_if_ne (pc := 83) 90 dX12_feed_83 (by decide) (fun c_83 => absurd c_83 (by decide)) (fun c_83 => ?_)
  refine q_iload_n (pc := 86) dX12_feed_86 rfl rfl ?_
  refine q_goto (pc := 87) 124 dX12_feed_87 (by decide) ?_
  refine q_iast (pc := 124) dX12_feed_124 (oA_sh (Model_s_tape hm)) (oA_lt (Model_s_tape hm)) rfl (by omega) ?_
  refine q_aload_n (pc := 125) dX12_feed_125 rfl rfl ?_
  refine q_dup (pc := 126) dX12_feed_126 rfl ?_
  refine q_getI (pc := 127) dX12_feed_127 fX12_175 (Model_sh hm) ⟨by decide, rfl⟩ (Model_lt hm) ?_
  rw [bq_u_ne (show m ≠ m + 5 by omega), f0.1]
  refine q_iconst (pc := 130) (v := nI 1) dX12_feed_130 (by decide) ?_
  refine q_iaddN (pc := 131) dX12_feed_131 ?_
  refine q_putI (pc := 132) dX12_feed_132 (pX12_175 _) (Model_sh hm) ⟨by decide, rfl⟩ (Model_lt hm) ?_
  refine q_nameI (fun J1 e1 => ?_)
  have f1 := (FM.ap (v := a) f0)
  rw [← e1] at f1
  refine q_iinc (pc := 135) (v := nI (0 + 1)) dX12_feed_135 rfl (bq_inc _) (Nat.le_of_ble_eq_true rfl) rfl ?_
  show bq_W _ _ _ _ _ 138 [_, _, _, _, _, _, _, _] _ _ _ _ _ _ _
  refine q_goto (pc := 138) 67 dX12_feed_138 (by decide) ?_
  refine q_iload (pc := 67) dX12_feed_67 rfl ?_
  refine q_iload_n (pc := 69) dX12_feed_69 rfl rfl ?_
  refine q_icmp_ge (pc := 70) 141 dX12_feed_70 (by decide) (fun c_70 => ?_) (fun c_70 => absurd (by decide) c_70)
  refine q_aload_n (pc := 141) dX12_feed_141 rfl rfl ?_
  refine q_getI (pc := 142) dX12_feed_142 fX12_175 (Model_sh hm) ⟨by decide, rfl⟩ (Model_lt hm) ?_
  exact q_iret (st := []) (pc := 145) dX12_feed_145 rfl ⟨by rw [p_feed_ok (by decide) (by decide) ha hb hc hd he hf, f1.1], rfl, rfl, rfl, rfl, by rw [p_feed_ok (by decide) (by decide) ha hb hc hd he hf]; exact ⟨f1.1, fun j hj => (f1.2.1 j hj).trans (fb_1), f1.2.2⟩⟩
set_option maxHeartbeats 1980000 in
set_option maxRecDepth 20000 in
theorem o_feed_k2 {S : BqH} {n : Nat} {I : BqI} {L : BqL} {P : BqP} {m : Nat} (hm : oModel S n P m) {l : Nat} (h0 : I m 9 = nI l) (hl : l ≤ 60) {a b c d e : Int32} (ha : ¬ (a < nI 0 ∨ ¬ a ≤ nI 127)) (hb : ¬ (b < nI 0 ∨ ¬ b ≤ nI 127)) (hc : ¬ (c < nI 0 ∨ ¬ c ≤ nI 127)) (hd : ¬ (d < nI 0 ∨ ¬ d ≤ nI 127)) (he : ¬ (e < nI 0 ∨ ¬ e ≤ nI 127)) (hf : ¬ 60 < l + 2) : bq_Sp mX12_feed 3 54 0 0 [.ref m, .int (nI 2), .int a, .int b, .int c, .int d, .int e] S n I L P (qFm m I S n L P (p_feed l (I (m + 5)) (nI 2) a b c d e)) := by
  refine q_entry (vs := [some (.ref m), some (.int (nI 2)), some (.int a), some (.int b), some (.int c), some (.int d), some (.int e), none]) (by decide +kernel) (by simp) (Nat.le_of_ble_eq_true rfl) rfl ?_
  have f0 : FM m I I l (I (m + 5)) := ⟨h0, fun _ _ => rfl, fun _ _ _ => rfl, fun _ _ => rfl⟩
  refine q_iload_n (pc := 0) dX12_feed_0 rfl rfl ?_
  refine q_iconst (pc := 1) (v := nI 1) dX12_feed_1 (by decide) ?_
  refine q_iconst (pc := 2) (v := nI 5) dX12_feed_2 (by decide) ?_
  refine q_callSF (pc := 3) dX12_feed_3 kX12_69 c_X12_in ⟨Nat.le_of_ble_eq_true rfl, Nat.le_of_ble_eq_true rfl⟩ rfl rfl (Nat.le_of_ble_eq_true rfl) ?_
  show bq_W _ _ _ _ _ 6 _ [_] _ _ _ _ _ _
  refine q_if_eq (pc := 6) 47 dX12_feed_6 (by decide) (fun c_6 => (((bq_nin (by omega) (by omega) (by decide)) (bq_nb0.mp c_6) : False)).elim) (fun c_6 => ?_)
  refine q_iload_n (pc := 9) dX12_feed_9 rfl rfl ?_
  refine q_callSF (pc := 10) dX12_feed_10 kX12_172 c_X12_isByte ⟨Nat.le_of_ble_eq_true rfl, Nat.le_of_ble_eq_true rfl⟩ rfl rfl (Nat.le_of_ble_eq_true rfl) ?_
  show bq_W _ _ _ _ _ 13 _ [_] _ _ _ _ _ _
  refine q_if_eq (pc := 13) 47 dX12_feed_13 (by decide) (fun c_13 => ((ha (bq_nb0.mp c_13))).elim) (fun c_13 => ?_)
  refine q_iload_n (pc := 16) dX12_feed_16 rfl rfl ?_
  refine q_callSF (pc := 17) dX12_feed_17 kX12_172 c_X12_isByte ⟨Nat.le_of_ble_eq_true rfl, Nat.le_of_ble_eq_true rfl⟩ rfl rfl (Nat.le_of_ble_eq_true rfl) ?_
  show bq_W _ _ _ _ _ 20 _ [_] _ _ _ _ _ _
  refine q_if_eq (pc := 20) 47 dX12_feed_20 (by decide) (fun c_20 => ((hb (bq_nb0.mp c_20))).elim) (fun c_20 => ?_)
  refine q_iload (pc := 23) dX12_feed_23 rfl ?_
  refine q_callSF (pc := 25) dX12_feed_25 kX12_172 c_X12_isByte ⟨Nat.le_of_ble_eq_true rfl, Nat.le_of_ble_eq_true rfl⟩ rfl rfl (Nat.le_of_ble_eq_true rfl) ?_
  show bq_W _ _ _ _ _ 28 _ [_] _ _ _ _ _ _
  refine q_if_eq (pc := 28) 47 dX12_feed_28 (by decide) (fun c_28 => ((hc (bq_nb0.mp c_28))).elim) (fun c_28 => ?_)
  refine q_iload (pc := 31) dX12_feed_31 rfl ?_
  refine q_callSF (pc := 33) dX12_feed_33 kX12_172 c_X12_isByte ⟨Nat.le_of_ble_eq_true rfl, Nat.le_of_ble_eq_true rfl⟩ rfl rfl (Nat.le_of_ble_eq_true rfl) ?_
  show bq_W _ _ _ _ _ 36 _ [_] _ _ _ _ _ _
  refine q_if_eq (pc := 36) 47 dX12_feed_36 (by decide) (fun c_36 => ((hd (bq_nb0.mp c_36))).elim) (fun c_36 => ?_)
  refine q_iload (pc := 39) dX12_feed_39 rfl ?_
  refine q_callSF (pc := 41) dX12_feed_41 kX12_172 c_X12_isByte ⟨Nat.le_of_ble_eq_true rfl, Nat.le_of_ble_eq_true rfl⟩ rfl rfl (Nat.le_of_ble_eq_true rfl) ?_
  show bq_W _ _ _ _ _ 44 _ [_] _ _ _ _ _ _
  refine q_if_ne (pc := 44) 50 dX12_feed_44 (by decide) (fun c_44 => ?_) (fun c_44 => ((he (bq_nb0.mp c_44))).elim)
  refine q_aload_n (pc := 50) dX12_feed_50 rfl rfl ?_
  refine q_getI (pc := 51) dX12_feed_51 fX12_175 (Model_sh hm) ⟨by decide, rfl⟩ (Model_lt hm) ?_
  rw [h0]
  refine q_iload_n (pc := 54) dX12_feed_54 rfl rfl ?_
  refine q_iaddN (pc := 55) dX12_feed_55 ?_
  refine q_bipush (pc := 56) (v := nI 60) dX12_feed_56 (by decide) ?_
  refine q_icmp_le (pc := 58) 64 dX12_feed_58 (by decide) (fun c_58 => ?_) (fun c_58 => absurd (nI_le (show l + 2 ≤ 60 by omega) (by decide)) c_58)
  refine q_iconst (pc := 64) (v := nI 0) dX12_feed_64 (by decide) ?_
  refine q_istore (pc := 65) dX12_feed_65 (Nat.le_of_ble_eq_true rfl) rfl ?_
  show bq_W _ _ _ _ _ 67 [_, _, _, _, _, _, _, _] _ _ _ _ _ _ _
  refine q_iload (pc := 67) dX12_feed_67 rfl ?_
  refine q_iload_n (pc := 69) dX12_feed_69 rfl rfl ?_
  refine q_icmp_ge (pc := 70) 141 dX12_feed_70 (by decide) (fun c_70 => absurd c_70 (by decide)) (fun c_70 => ?_)
  refine q_aload_n (pc := 73) dX12_feed_73 rfl rfl ?_
  refine q_getP (pc := 74) dX12_feed_74 fX12_22 (Model_sh hm) ⟨by decide, rfl⟩ (Model_lt hm) (Model_p_tape hm) ?_
  refine q_aload_n (pc := 77) dX12_feed_77 rfl rfl ?_
  refine q_getI (pc := 78) dX12_feed_78 fX12_175 (Model_sh hm) ⟨by decide, rfl⟩ (Model_lt hm) ?_
  rw [f0.1]
  refine q_iload (pc := 81) dX12_feed_81 rfl ?_
  refine q_if_ne (pc := 83) 90 dX12_feed_83 (by decide) (fun c_83 => absurd c_83 (by decide)) (fun c_83 => ?_)
  refine q_iload_n (pc := 86) dX12_feed_86 rfl rfl ?_
  refine q_goto (pc := 87) 124 dX12_feed_87 (by decide) ?_
  refine q_iast (pc := 124) dX12_feed_124 (oA_sh (Model_s_tape hm)) (oA_lt (Model_s_tape hm)) rfl (by omega) ?_
  refine q_aload_n (pc := 125) dX12_feed_125 rfl rfl ?_
  refine q_dup (pc := 126) dX12_feed_126 rfl ?_
  refine q_getI (pc := 127) dX12_feed_127 fX12_175 (Model_sh hm) ⟨by decide, rfl⟩ (Model_lt hm) ?_
  rw [bq_u_ne (show m ≠ m + 5 by omega), f0.1]
  refine q_iconst (pc := 130) (v := nI 1) dX12_feed_130 (by decide) ?_
  refine q_iaddN (pc := 131) dX12_feed_131 ?_
  refine q_putI (pc := 132) dX12_feed_132 (pX12_175 _) (Model_sh hm) ⟨by decide, rfl⟩ (Model_lt hm) ?_
  refine q_nameI (fun J1 e1 => ?_)
  have f1 := (FM.ap (v := a) f0)
  rw [← e1] at f1
  refine q_iinc (pc := 135) (v := nI (0 + 1)) dX12_feed_135 rfl (bq_inc _) (Nat.le_of_ble_eq_true rfl) rfl ?_
  show bq_W _ _ _ _ _ 138 [_, _, _, _, _, _, _, _] _ _ _ _ _ _ _
  refine q_goto (pc := 138) 67 dX12_feed_138 (by decide) ?_
  refine q_iload (pc := 67) dX12_feed_67 rfl ?_
  refine q_iload_n (pc := 69) dX12_feed_69 rfl rfl ?_
  refine q_icmp_ge (pc := 70) 141 dX12_feed_70 (by decide) (fun c_70 => absurd c_70 (by decide)) (fun c_70 => ?_)
  refine q_aload_n (pc := 73) dX12_feed_73 rfl rfl ?_
  refine q_getP (pc := 74) dX12_feed_74 fX12_22 (Model_sh hm) ⟨by decide, rfl⟩ (Model_lt hm) (Model_p_tape hm) ?_
  refine q_aload_n (pc := 77) dX12_feed_77 rfl rfl ?_
  refine q_getI (pc := 78) dX12_feed_78 fX12_175 (Model_sh hm) ⟨by decide, rfl⟩ (Model_lt hm) ?_
  rw [f1.1]
  refine q_iload (pc := 81) dX12_feed_81 rfl ?_
  refine q_if_ne (pc := 83) 90 dX12_feed_83 (by decide) (fun c_83 => ?_) (fun c_83 => ((absurd c_83 (by decide) : False)).elim)
  refine q_iload (pc := 90) dX12_feed_90 rfl ?_
  refine q_iconst (pc := 92) (v := nI 1) dX12_feed_92 (by decide) ?_
  refine q_icmp_ne (pc := 93) 100 dX12_feed_93 (by decide) (fun c_93 => absurd c_93 (by decide)) (fun c_93 => ?_)
  refine q_iload_n (pc := 96) dX12_feed_96 rfl rfl ?_
  refine q_goto (pc := 97) 124 dX12_feed_97 (by decide) ?_
  refine q_iast (pc := 124) dX12_feed_124 (oA_sh (Model_s_tape hm)) (oA_lt (Model_s_tape hm)) rfl (by omega) ?_
  refine q_aload_n (pc := 125) dX12_feed_125 rfl rfl ?_
  refine q_dup (pc := 126) dX12_feed_126 rfl ?_
  refine q_getI (pc := 127) dX12_feed_127 fX12_175 (Model_sh hm) ⟨by decide, rfl⟩ (Model_lt hm) ?_
  rw [bq_u_ne (show m ≠ m + 5 by omega), f1.1]
  refine q_iconst (pc := 130) (v := nI 1) dX12_feed_130 (by decide) ?_
  refine q_iaddN (pc := 131) dX12_feed_131 ?_
  refine q_putI (pc := 132) dX12_feed_132 (pX12_175 _) (Model_sh hm) ⟨by decide, rfl⟩ (Model_lt hm) ?_
  refine q_nameI (fun J2 e2 => ?_)
  have f2 := (FM.ap (v := b) f1)
  rw [← e2] at f2
  refine q_iinc (pc := 135) (v := nI ((0 + 1) + 1)) dX12_feed_135 rfl (bq_inc _) (Nat.le_of_ble_eq_true rfl) rfl ?_
  show bq_W _ _ _ _ _ 138 [_, _, _, _, _, _, _, _] _ _ _ _ _ _ _
  refine q_goto (pc := 138) 67 dX12_feed_138 (by decide) ?_
  refine q_iload (pc := 67) dX12_feed_67 rfl ?_
  refine q_iload_n (pc := 69) dX12_feed_69 rfl rfl ?_
  refine q_icmp_ge (pc := 70) 141 dX12_feed_70 (by decide) (fun c_70 => ?_) (fun c_70 => absurd (by decide) c_70)
  refine q_aload_n (pc := 141) dX12_feed_141 rfl rfl ?_
  refine q_getI (pc := 142) dX12_feed_142 fX12_175 (Model_sh hm) ⟨by decide, rfl⟩ (Model_lt hm) ?_
  exact q_iret (st := []) (pc := 145) dX12_feed_145 rfl ⟨by rw [p_feed_ok (by decide) (by decide) ha hb hc hd he hf, f2.1], rfl, rfl, rfl, rfl, by rw [p_feed_ok (by decide) (by decide) ha hb hc hd he hf]; exact ⟨f2.1, fun j hj => (f2.2.1 j hj).trans (fb_s (k := 1) (fb_1)), f2.2.2⟩⟩
set_option maxHeartbeats 2620000 in
set_option maxRecDepth 20000 in
theorem o_feed_k3 {S : BqH} {n : Nat} {I : BqI} {L : BqL} {P : BqP} {m : Nat} (hm : oModel S n P m) {l : Nat} (h0 : I m 9 = nI l) (hl : l ≤ 60) {a b c d e : Int32} (ha : ¬ (a < nI 0 ∨ ¬ a ≤ nI 127)) (hb : ¬ (b < nI 0 ∨ ¬ b ≤ nI 127)) (hc : ¬ (c < nI 0 ∨ ¬ c ≤ nI 127)) (hd : ¬ (d < nI 0 ∨ ¬ d ≤ nI 127)) (he : ¬ (e < nI 0 ∨ ¬ e ≤ nI 127)) (hf : ¬ 60 < l + 3) : bq_Sp mX12_feed 3 54 0 0 [.ref m, .int (nI 3), .int a, .int b, .int c, .int d, .int e] S n I L P (qFm m I S n L P (p_feed l (I (m + 5)) (nI 3) a b c d e)) := by
  refine q_entry (vs := [some (.ref m), some (.int (nI 3)), some (.int a), some (.int b), some (.int c), some (.int d), some (.int e), none]) (by decide +kernel) (by simp) (Nat.le_of_ble_eq_true rfl) rfl ?_
  have f0 : FM m I I l (I (m + 5)) := ⟨h0, fun _ _ => rfl, fun _ _ _ => rfl, fun _ _ => rfl⟩
  refine q_iload_n (pc := 0) dX12_feed_0 rfl rfl ?_
  refine q_iconst (pc := 1) (v := nI 1) dX12_feed_1 (by decide) ?_
  refine q_iconst (pc := 2) (v := nI 5) dX12_feed_2 (by decide) ?_
  refine q_callSF (pc := 3) dX12_feed_3 kX12_69 c_X12_in ⟨Nat.le_of_ble_eq_true rfl, Nat.le_of_ble_eq_true rfl⟩ rfl rfl (Nat.le_of_ble_eq_true rfl) ?_
  show bq_W _ _ _ _ _ 6 _ [_] _ _ _ _ _ _
  refine q_if_eq (pc := 6) 47 dX12_feed_6 (by decide) (fun c_6 => (((bq_nin (by omega) (by omega) (by decide)) (bq_nb0.mp c_6) : False)).elim) (fun c_6 => ?_)
  refine q_iload_n (pc := 9) dX12_feed_9 rfl rfl ?_
  refine q_callSF (pc := 10) dX12_feed_10 kX12_172 c_X12_isByte ⟨Nat.le_of_ble_eq_true rfl, Nat.le_of_ble_eq_true rfl⟩ rfl rfl (Nat.le_of_ble_eq_true rfl) ?_
  show bq_W _ _ _ _ _ 13 _ [_] _ _ _ _ _ _
  refine q_if_eq (pc := 13) 47 dX12_feed_13 (by decide) (fun c_13 => ((ha (bq_nb0.mp c_13))).elim) (fun c_13 => ?_)
  refine q_iload_n (pc := 16) dX12_feed_16 rfl rfl ?_
  refine q_callSF (pc := 17) dX12_feed_17 kX12_172 c_X12_isByte ⟨Nat.le_of_ble_eq_true rfl, Nat.le_of_ble_eq_true rfl⟩ rfl rfl (Nat.le_of_ble_eq_true rfl) ?_
  show bq_W _ _ _ _ _ 20 _ [_] _ _ _ _ _ _
  refine q_if_eq (pc := 20) 47 dX12_feed_20 (by decide) (fun c_20 => ((hb (bq_nb0.mp c_20))).elim) (fun c_20 => ?_)
  refine q_iload (pc := 23) dX12_feed_23 rfl ?_
  refine q_callSF (pc := 25) dX12_feed_25 kX12_172 c_X12_isByte ⟨Nat.le_of_ble_eq_true rfl, Nat.le_of_ble_eq_true rfl⟩ rfl rfl (Nat.le_of_ble_eq_true rfl) ?_
  show bq_W _ _ _ _ _ 28 _ [_] _ _ _ _ _ _
  refine q_if_eq (pc := 28) 47 dX12_feed_28 (by decide) (fun c_28 => ((hc (bq_nb0.mp c_28))).elim) (fun c_28 => ?_)
  refine q_iload (pc := 31) dX12_feed_31 rfl ?_
  refine q_callSF (pc := 33) dX12_feed_33 kX12_172 c_X12_isByte ⟨Nat.le_of_ble_eq_true rfl, Nat.le_of_ble_eq_true rfl⟩ rfl rfl (Nat.le_of_ble_eq_true rfl) ?_
  show bq_W _ _ _ _ _ 36 _ [_] _ _ _ _ _ _
  refine q_if_eq (pc := 36) 47 dX12_feed_36 (by decide) (fun c_36 => ((hd (bq_nb0.mp c_36))).elim) (fun c_36 => ?_)
  refine q_iload (pc := 39) dX12_feed_39 rfl ?_
  refine q_callSF (pc := 41) dX12_feed_41 kX12_172 c_X12_isByte ⟨Nat.le_of_ble_eq_true rfl, Nat.le_of_ble_eq_true rfl⟩ rfl rfl (Nat.le_of_ble_eq_true rfl) ?_
  show bq_W _ _ _ _ _ 44 _ [_] _ _ _ _ _ _
  refine q_if_ne (pc := 44) 50 dX12_feed_44 (by decide) (fun c_44 => ?_) (fun c_44 => ((he (bq_nb0.mp c_44))).elim)
  refine q_aload_n (pc := 50) dX12_feed_50 rfl rfl ?_
  refine q_getI (pc := 51) dX12_feed_51 fX12_175 (Model_sh hm) ⟨by decide, rfl⟩ (Model_lt hm) ?_
  rw [h0]
  refine q_iload_n (pc := 54) dX12_feed_54 rfl rfl ?_
  refine q_iaddN (pc := 55) dX12_feed_55 ?_
  refine q_bipush (pc := 56) (v := nI 60) dX12_feed_56 (by decide) ?_
  refine q_icmp_le (pc := 58) 64 dX12_feed_58 (by decide) (fun c_58 => ?_) (fun c_58 => absurd (nI_le (show l + 3 ≤ 60 by omega) (by decide)) c_58)
  refine q_iconst (pc := 64) (v := nI 0) dX12_feed_64 (by decide) ?_
  refine q_istore (pc := 65) dX12_feed_65 (Nat.le_of_ble_eq_true rfl) rfl ?_
  show bq_W _ _ _ _ _ 67 [_, _, _, _, _, _, _, _] _ _ _ _ _ _ _
  refine q_iload (pc := 67) dX12_feed_67 rfl ?_
  refine q_iload_n (pc := 69) dX12_feed_69 rfl rfl ?_
  refine q_icmp_ge (pc := 70) 141 dX12_feed_70 (by decide) (fun c_70 => absurd c_70 (by decide)) (fun c_70 => ?_)
  refine q_aload_n (pc := 73) dX12_feed_73 rfl rfl ?_
  refine q_getP (pc := 74) dX12_feed_74 fX12_22 (Model_sh hm) ⟨by decide, rfl⟩ (Model_lt hm) (Model_p_tape hm) ?_
  refine q_aload_n (pc := 77) dX12_feed_77 rfl rfl ?_
  refine q_getI (pc := 78) dX12_feed_78 fX12_175 (Model_sh hm) ⟨by decide, rfl⟩ (Model_lt hm) ?_
  rw [f0.1]
  refine q_iload (pc := 81) dX12_feed_81 rfl ?_
  refine q_if_ne (pc := 83) 90 dX12_feed_83 (by decide) (fun c_83 => absurd c_83 (by decide)) (fun c_83 => ?_)
  refine q_iload_n (pc := 86) dX12_feed_86 rfl rfl ?_
  refine q_goto (pc := 87) 124 dX12_feed_87 (by decide) ?_
  refine q_iast (pc := 124) dX12_feed_124 (oA_sh (Model_s_tape hm)) (oA_lt (Model_s_tape hm)) rfl (by omega) ?_
  refine q_aload_n (pc := 125) dX12_feed_125 rfl rfl ?_
  refine q_dup (pc := 126) dX12_feed_126 rfl ?_
  refine q_getI (pc := 127) dX12_feed_127 fX12_175 (Model_sh hm) ⟨by decide, rfl⟩ (Model_lt hm) ?_
  rw [bq_u_ne (show m ≠ m + 5 by omega), f0.1]
  refine q_iconst (pc := 130) (v := nI 1) dX12_feed_130 (by decide) ?_
  refine q_iaddN (pc := 131) dX12_feed_131 ?_
  refine q_putI (pc := 132) dX12_feed_132 (pX12_175 _) (Model_sh hm) ⟨by decide, rfl⟩ (Model_lt hm) ?_
  refine q_nameI (fun J1 e1 => ?_)
  have f1 := (FM.ap (v := a) f0)
  rw [← e1] at f1
  refine q_iinc (pc := 135) (v := nI (0 + 1)) dX12_feed_135 rfl (bq_inc _) (Nat.le_of_ble_eq_true rfl) rfl ?_
  show bq_W _ _ _ _ _ 138 [_, _, _, _, _, _, _, _] _ _ _ _ _ _ _
  refine q_goto (pc := 138) 67 dX12_feed_138 (by decide) ?_
  refine q_iload (pc := 67) dX12_feed_67 rfl ?_
  refine q_iload_n (pc := 69) dX12_feed_69 rfl rfl ?_
  refine q_icmp_ge (pc := 70) 141 dX12_feed_70 (by decide) (fun c_70 => absurd c_70 (by decide)) (fun c_70 => ?_)
  refine q_aload_n (pc := 73) dX12_feed_73 rfl rfl ?_
  refine q_getP (pc := 74) dX12_feed_74 fX12_22 (Model_sh hm) ⟨by decide, rfl⟩ (Model_lt hm) (Model_p_tape hm) ?_
  refine q_aload_n (pc := 77) dX12_feed_77 rfl rfl ?_
  refine q_getI (pc := 78) dX12_feed_78 fX12_175 (Model_sh hm) ⟨by decide, rfl⟩ (Model_lt hm) ?_
  rw [f1.1]
  refine q_iload (pc := 81) dX12_feed_81 rfl ?_
  refine q_if_ne (pc := 83) 90 dX12_feed_83 (by decide) (fun c_83 => ?_) (fun c_83 => ((absurd c_83 (by decide) : False)).elim)
  refine q_iload (pc := 90) dX12_feed_90 rfl ?_
  refine q_iconst (pc := 92) (v := nI 1) dX12_feed_92 (by decide) ?_
  refine q_icmp_ne (pc := 93) 100 dX12_feed_93 (by decide) (fun c_93 => absurd c_93 (by decide)) (fun c_93 => ?_)
  refine q_iload_n (pc := 96) dX12_feed_96 rfl rfl ?_
  refine q_goto (pc := 97) 124 dX12_feed_97 (by decide) ?_
  refine q_iast (pc := 124) dX12_feed_124 (oA_sh (Model_s_tape hm)) (oA_lt (Model_s_tape hm)) rfl (by omega) ?_
  refine q_aload_n (pc := 125) dX12_feed_125 rfl rfl ?_
  refine q_dup (pc := 126) dX12_feed_126 rfl ?_
  refine q_getI (pc := 127) dX12_feed_127 fX12_175 (Model_sh hm) ⟨by decide, rfl⟩ (Model_lt hm) ?_
  rw [bq_u_ne (show m ≠ m + 5 by omega), f1.1]
  refine q_iconst (pc := 130) (v := nI 1) dX12_feed_130 (by decide) ?_
  refine q_iaddN (pc := 131) dX12_feed_131 ?_
  refine q_putI (pc := 132) dX12_feed_132 (pX12_175 _) (Model_sh hm) ⟨by decide, rfl⟩ (Model_lt hm) ?_
  refine q_nameI (fun J2 e2 => ?_)
  have f2 := (FM.ap (v := b) f1)
  rw [← e2] at f2
  refine q_iinc (pc := 135) (v := nI ((0 + 1) + 1)) dX12_feed_135 rfl (bq_inc _) (Nat.le_of_ble_eq_true rfl) rfl ?_
  show bq_W _ _ _ _ _ 138 [_, _, _, _, _, _, _, _] _ _ _ _ _ _ _
  refine q_goto (pc := 138) 67 dX12_feed_138 (by decide) ?_
  refine q_iload (pc := 67) dX12_feed_67 rfl ?_
  refine q_iload_n (pc := 69) dX12_feed_69 rfl rfl ?_
  refine q_icmp_ge (pc := 70) 141 dX12_feed_70 (by decide) (fun c_70 => absurd c_70 (by decide)) (fun c_70 => ?_)
  refine q_aload_n (pc := 73) dX12_feed_73 rfl rfl ?_
  refine q_getP (pc := 74) dX12_feed_74 fX12_22 (Model_sh hm) ⟨by decide, rfl⟩ (Model_lt hm) (Model_p_tape hm) ?_
  refine q_aload_n (pc := 77) dX12_feed_77 rfl rfl ?_
  refine q_getI (pc := 78) dX12_feed_78 fX12_175 (Model_sh hm) ⟨by decide, rfl⟩ (Model_lt hm) ?_
  rw [f2.1]
  refine q_iload (pc := 81) dX12_feed_81 rfl ?_
  refine q_if_ne (pc := 83) 90 dX12_feed_83 (by decide) (fun c_83 => ?_) (fun c_83 => ((absurd c_83 (by decide) : False)).elim)
  refine q_iload (pc := 90) dX12_feed_90 rfl ?_
  refine q_iconst (pc := 92) (v := nI 1) dX12_feed_92 (by decide) ?_
  refine q_icmp_ne (pc := 93) 100 dX12_feed_93 (by decide) (fun c_93 => ?_) (fun c_93 => ((absurd c_93 (by decide) : False)).elim)
  refine q_iload (pc := 100) dX12_feed_100 rfl ?_
  refine q_iconst (pc := 102) (v := nI 2) dX12_feed_102 (by decide) ?_
  refine q_icmp_ne (pc := 103) 111 dX12_feed_103 (by decide) (fun c_103 => absurd c_103 (by decide)) (fun c_103 => ?_)
  refine q_iload (pc := 106) dX12_feed_106 rfl ?_
  refine q_goto (pc := 108) 124 dX12_feed_108 (by decide) ?_
  refine q_iast (pc := 124) dX12_feed_124 (oA_sh (Model_s_tape hm)) (oA_lt (Model_s_tape hm)) rfl (by omega) ?_
  refine q_aload_n (pc := 125) dX12_feed_125 rfl rfl ?_
  refine q_dup (pc := 126) dX12_feed_126 rfl ?_
  refine q_getI (pc := 127) dX12_feed_127 fX12_175 (Model_sh hm) ⟨by decide, rfl⟩ (Model_lt hm) ?_
  rw [bq_u_ne (show m ≠ m + 5 by omega), f2.1]
  refine q_iconst (pc := 130) (v := nI 1) dX12_feed_130 (by decide) ?_
  refine q_iaddN (pc := 131) dX12_feed_131 ?_
  refine q_putI (pc := 132) dX12_feed_132 (pX12_175 _) (Model_sh hm) ⟨by decide, rfl⟩ (Model_lt hm) ?_
  refine q_nameI (fun J3 e3 => ?_)
  have f3 := (FM.ap (v := c) f2)
  rw [← e3] at f3
  refine q_iinc (pc := 135) (v := nI (((0 + 1) + 1) + 1)) dX12_feed_135 rfl (bq_inc _) (Nat.le_of_ble_eq_true rfl) rfl ?_
  show bq_W _ _ _ _ _ 138 [_, _, _, _, _, _, _, _] _ _ _ _ _ _ _
  refine q_goto (pc := 138) 67 dX12_feed_138 (by decide) ?_
  refine q_iload (pc := 67) dX12_feed_67 rfl ?_
  refine q_iload_n (pc := 69) dX12_feed_69 rfl rfl ?_
  refine q_icmp_ge (pc := 70) 141 dX12_feed_70 (by decide) (fun c_70 => ?_) (fun c_70 => absurd (by decide) c_70)
  refine q_aload_n (pc := 141) dX12_feed_141 rfl rfl ?_
  refine q_getI (pc := 142) dX12_feed_142 fX12_175 (Model_sh hm) ⟨by decide, rfl⟩ (Model_lt hm) ?_
  exact q_iret (st := []) (pc := 145) dX12_feed_145 rfl ⟨by rw [p_feed_ok (by decide) (by decide) ha hb hc hd he hf, f3.1], rfl, rfl, rfl, rfl, by rw [p_feed_ok (by decide) (by decide) ha hb hc hd he hf]; exact ⟨f3.1, fun j hj => (f3.2.1 j hj).trans (fb_s (k := 2) (fb_s (k := 1) (fb_1))), f3.2.2⟩⟩
set_option maxHeartbeats 3320000 in
set_option maxRecDepth 20000 in
theorem o_feed_k4 {S : BqH} {n : Nat} {I : BqI} {L : BqL} {P : BqP} {m : Nat} (hm : oModel S n P m) {l : Nat} (h0 : I m 9 = nI l) (hl : l ≤ 60) {a b c d e : Int32} (ha : ¬ (a < nI 0 ∨ ¬ a ≤ nI 127)) (hb : ¬ (b < nI 0 ∨ ¬ b ≤ nI 127)) (hc : ¬ (c < nI 0 ∨ ¬ c ≤ nI 127)) (hd : ¬ (d < nI 0 ∨ ¬ d ≤ nI 127)) (he : ¬ (e < nI 0 ∨ ¬ e ≤ nI 127)) (hf : ¬ 60 < l + 4) : bq_Sp mX12_feed 3 54 0 0 [.ref m, .int (nI 4), .int a, .int b, .int c, .int d, .int e] S n I L P (qFm m I S n L P (p_feed l (I (m + 5)) (nI 4) a b c d e)) := by
  refine q_entry (vs := [some (.ref m), some (.int (nI 4)), some (.int a), some (.int b), some (.int c), some (.int d), some (.int e), none]) (by decide +kernel) (by simp) (Nat.le_of_ble_eq_true rfl) rfl ?_
  have f0 : FM m I I l (I (m + 5)) := ⟨h0, fun _ _ => rfl, fun _ _ _ => rfl, fun _ _ => rfl⟩
  refine q_iload_n (pc := 0) dX12_feed_0 rfl rfl ?_
  refine q_iconst (pc := 1) (v := nI 1) dX12_feed_1 (by decide) ?_
  refine q_iconst (pc := 2) (v := nI 5) dX12_feed_2 (by decide) ?_
  refine q_callSF (pc := 3) dX12_feed_3 kX12_69 c_X12_in ⟨Nat.le_of_ble_eq_true rfl, Nat.le_of_ble_eq_true rfl⟩ rfl rfl (Nat.le_of_ble_eq_true rfl) ?_
  show bq_W _ _ _ _ _ 6 _ [_] _ _ _ _ _ _
  refine q_if_eq (pc := 6) 47 dX12_feed_6 (by decide) (fun c_6 => (((bq_nin (by omega) (by omega) (by decide)) (bq_nb0.mp c_6) : False)).elim) (fun c_6 => ?_)
  refine q_iload_n (pc := 9) dX12_feed_9 rfl rfl ?_
  refine q_callSF (pc := 10) dX12_feed_10 kX12_172 c_X12_isByte ⟨Nat.le_of_ble_eq_true rfl, Nat.le_of_ble_eq_true rfl⟩ rfl rfl (Nat.le_of_ble_eq_true rfl) ?_
  show bq_W _ _ _ _ _ 13 _ [_] _ _ _ _ _ _
  refine q_if_eq (pc := 13) 47 dX12_feed_13 (by decide) (fun c_13 => ((ha (bq_nb0.mp c_13))).elim) (fun c_13 => ?_)
  refine q_iload_n (pc := 16) dX12_feed_16 rfl rfl ?_
  refine q_callSF (pc := 17) dX12_feed_17 kX12_172 c_X12_isByte ⟨Nat.le_of_ble_eq_true rfl, Nat.le_of_ble_eq_true rfl⟩ rfl rfl (Nat.le_of_ble_eq_true rfl) ?_
  show bq_W _ _ _ _ _ 20 _ [_] _ _ _ _ _ _
  refine q_if_eq (pc := 20) 47 dX12_feed_20 (by decide) (fun c_20 => ((hb (bq_nb0.mp c_20))).elim) (fun c_20 => ?_)
  refine q_iload (pc := 23) dX12_feed_23 rfl ?_
  refine q_callSF (pc := 25) dX12_feed_25 kX12_172 c_X12_isByte ⟨Nat.le_of_ble_eq_true rfl, Nat.le_of_ble_eq_true rfl⟩ rfl rfl (Nat.le_of_ble_eq_true rfl) ?_
  show bq_W _ _ _ _ _ 28 _ [_] _ _ _ _ _ _
  refine q_if_eq (pc := 28) 47 dX12_feed_28 (by decide) (fun c_28 => ((hc (bq_nb0.mp c_28))).elim) (fun c_28 => ?_)
  refine q_iload (pc := 31) dX12_feed_31 rfl ?_
  refine q_callSF (pc := 33) dX12_feed_33 kX12_172 c_X12_isByte ⟨Nat.le_of_ble_eq_true rfl, Nat.le_of_ble_eq_true rfl⟩ rfl rfl (Nat.le_of_ble_eq_true rfl) ?_
  show bq_W _ _ _ _ _ 36 _ [_] _ _ _ _ _ _
  refine q_if_eq (pc := 36) 47 dX12_feed_36 (by decide) (fun c_36 => ((hd (bq_nb0.mp c_36))).elim) (fun c_36 => ?_)
  refine q_iload (pc := 39) dX12_feed_39 rfl ?_
  refine q_callSF (pc := 41) dX12_feed_41 kX12_172 c_X12_isByte ⟨Nat.le_of_ble_eq_true rfl, Nat.le_of_ble_eq_true rfl⟩ rfl rfl (Nat.le_of_ble_eq_true rfl) ?_
  show bq_W _ _ _ _ _ 44 _ [_] _ _ _ _ _ _
  refine q_if_ne (pc := 44) 50 dX12_feed_44 (by decide) (fun c_44 => ?_) (fun c_44 => ((he (bq_nb0.mp c_44))).elim)
  refine q_aload_n (pc := 50) dX12_feed_50 rfl rfl ?_
  refine q_getI (pc := 51) dX12_feed_51 fX12_175 (Model_sh hm) ⟨by decide, rfl⟩ (Model_lt hm) ?_
  rw [h0]
  refine q_iload_n (pc := 54) dX12_feed_54 rfl rfl ?_
  refine q_iaddN (pc := 55) dX12_feed_55 ?_
  refine q_bipush (pc := 56) (v := nI 60) dX12_feed_56 (by decide) ?_
  refine q_icmp_le (pc := 58) 64 dX12_feed_58 (by decide) (fun c_58 => ?_) (fun c_58 => absurd (nI_le (show l + 4 ≤ 60 by omega) (by decide)) c_58)
  refine q_iconst (pc := 64) (v := nI 0) dX12_feed_64 (by decide) ?_
  refine q_istore (pc := 65) dX12_feed_65 (Nat.le_of_ble_eq_true rfl) rfl ?_
  show bq_W _ _ _ _ _ 67 [_, _, _, _, _, _, _, _] _ _ _ _ _ _ _
  refine q_iload (pc := 67) dX12_feed_67 rfl ?_
  refine q_iload_n (pc := 69) dX12_feed_69 rfl rfl ?_
  refine q_icmp_ge (pc := 70) 141 dX12_feed_70 (by decide) (fun c_70 => absurd c_70 (by decide)) (fun c_70 => ?_)
  refine q_aload_n (pc := 73) dX12_feed_73 rfl rfl ?_
  refine q_getP (pc := 74) dX12_feed_74 fX12_22 (Model_sh hm) ⟨by decide, rfl⟩ (Model_lt hm) (Model_p_tape hm) ?_
  refine q_aload_n (pc := 77) dX12_feed_77 rfl rfl ?_
  refine q_getI (pc := 78) dX12_feed_78 fX12_175 (Model_sh hm) ⟨by decide, rfl⟩ (Model_lt hm) ?_
  rw [f0.1]
  refine q_iload (pc := 81) dX12_feed_81 rfl ?_
  refine q_if_ne (pc := 83) 90 dX12_feed_83 (by decide) (fun c_83 => absurd c_83 (by decide)) (fun c_83 => ?_)
  refine q_iload_n (pc := 86) dX12_feed_86 rfl rfl ?_
  refine q_goto (pc := 87) 124 dX12_feed_87 (by decide) ?_
  refine q_iast (pc := 124) dX12_feed_124 (oA_sh (Model_s_tape hm)) (oA_lt (Model_s_tape hm)) rfl (by omega) ?_
  refine q_aload_n (pc := 125) dX12_feed_125 rfl rfl ?_
  refine q_dup (pc := 126) dX12_feed_126 rfl ?_
  refine q_getI (pc := 127) dX12_feed_127 fX12_175 (Model_sh hm) ⟨by decide, rfl⟩ (Model_lt hm) ?_
  rw [bq_u_ne (show m ≠ m + 5 by omega), f0.1]
  refine q_iconst (pc := 130) (v := nI 1) dX12_feed_130 (by decide) ?_
  refine q_iaddN (pc := 131) dX12_feed_131 ?_
  refine q_putI (pc := 132) dX12_feed_132 (pX12_175 _) (Model_sh hm) ⟨by decide, rfl⟩ (Model_lt hm) ?_
  refine q_nameI (fun J1 e1 => ?_)
  have f1 := (FM.ap (v := a) f0)
  rw [← e1] at f1
  refine q_iinc (pc := 135) (v := nI (0 + 1)) dX12_feed_135 rfl (bq_inc _) (Nat.le_of_ble_eq_true rfl) rfl ?_
  show bq_W _ _ _ _ _ 138 [_, _, _, _, _, _, _, _] _ _ _ _ _ _ _
  refine q_goto (pc := 138) 67 dX12_feed_138 (by decide) ?_
  refine q_iload (pc := 67) dX12_feed_67 rfl ?_
  refine q_iload_n (pc := 69) dX12_feed_69 rfl rfl ?_
  refine q_icmp_ge (pc := 70) 141 dX12_feed_70 (by decide) (fun c_70 => absurd c_70 (by decide)) (fun c_70 => ?_)
  refine q_aload_n (pc := 73) dX12_feed_73 rfl rfl ?_
  refine q_getP (pc := 74) dX12_feed_74 fX12_22 (Model_sh hm) ⟨by decide, rfl⟩ (Model_lt hm) (Model_p_tape hm) ?_
  refine q_aload_n (pc := 77) dX12_feed_77 rfl rfl ?_
  refine q_getI (pc := 78) dX12_feed_78 fX12_175 (Model_sh hm) ⟨by decide, rfl⟩ (Model_lt hm) ?_
  rw [f1.1]
  refine q_iload (pc := 81) dX12_feed_81 rfl ?_
  refine q_if_ne (pc := 83) 90 dX12_feed_83 (by decide) (fun c_83 => ?_) (fun c_83 => ((absurd c_83 (by decide) : False)).elim)
  refine q_iload (pc := 90) dX12_feed_90 rfl ?_
  refine q_iconst (pc := 92) (v := nI 1) dX12_feed_92 (by decide) ?_
  refine q_icmp_ne (pc := 93) 100 dX12_feed_93 (by decide) (fun c_93 => absurd c_93 (by decide)) (fun c_93 => ?_)
  refine q_iload_n (pc := 96) dX12_feed_96 rfl rfl ?_
  refine q_goto (pc := 97) 124 dX12_feed_97 (by decide) ?_
  refine q_iast (pc := 124) dX12_feed_124 (oA_sh (Model_s_tape hm)) (oA_lt (Model_s_tape hm)) rfl (by omega) ?_
  refine q_aload_n (pc := 125) dX12_feed_125 rfl rfl ?_
  refine q_dup (pc := 126) dX12_feed_126 rfl ?_
  refine q_getI (pc := 127) dX12_feed_127 fX12_175 (Model_sh hm) ⟨by decide, rfl⟩ (Model_lt hm) ?_
  rw [bq_u_ne (show m ≠ m + 5 by omega), f1.1]
  refine q_iconst (pc := 130) (v := nI 1) dX12_feed_130 (by decide) ?_
  refine q_iaddN (pc := 131) dX12_feed_131 ?_
  refine q_putI (pc := 132) dX12_feed_132 (pX12_175 _) (Model_sh hm) ⟨by decide, rfl⟩ (Model_lt hm) ?_
  refine q_nameI (fun J2 e2 => ?_)
  have f2 := (FM.ap (v := b) f1)
  rw [← e2] at f2
  refine q_iinc (pc := 135) (v := nI ((0 + 1) + 1)) dX12_feed_135 rfl (bq_inc _) (Nat.le_of_ble_eq_true rfl) rfl ?_
  show bq_W _ _ _ _ _ 138 [_, _, _, _, _, _, _, _] _ _ _ _ _ _ _
  refine q_goto (pc := 138) 67 dX12_feed_138 (by decide) ?_
  refine q_iload (pc := 67) dX12_feed_67 rfl ?_
  refine q_iload_n (pc := 69) dX12_feed_69 rfl rfl ?_
  refine q_icmp_ge (pc := 70) 141 dX12_feed_70 (by decide) (fun c_70 => absurd c_70 (by decide)) (fun c_70 => ?_)
  refine q_aload_n (pc := 73) dX12_feed_73 rfl rfl ?_
  refine q_getP (pc := 74) dX12_feed_74 fX12_22 (Model_sh hm) ⟨by decide, rfl⟩ (Model_lt hm) (Model_p_tape hm) ?_
  refine q_aload_n (pc := 77) dX12_feed_77 rfl rfl ?_
  refine q_getI (pc := 78) dX12_feed_78 fX12_175 (Model_sh hm) ⟨by decide, rfl⟩ (Model_lt hm) ?_
  rw [f2.1]
  refine q_iload (pc := 81) dX12_feed_81 rfl ?_
  refine q_if_ne (pc := 83) 90 dX12_feed_83 (by decide) (fun c_83 => ?_) (fun c_83 => ((absurd c_83 (by decide) : False)).elim)
  refine q_iload (pc := 90) dX12_feed_90 rfl ?_
  refine q_iconst (pc := 92) (v := nI 1) dX12_feed_92 (by decide) ?_
  refine q_icmp_ne (pc := 93) 100 dX12_feed_93 (by decide) (fun c_93 => ?_) (fun c_93 => ((absurd c_93 (by decide) : False)).elim)
  refine q_iload (pc := 100) dX12_feed_100 rfl ?_
  refine q_iconst (pc := 102) (v := nI 2) dX12_feed_102 (by decide) ?_
  refine q_icmp_ne (pc := 103) 111 dX12_feed_103 (by decide) (fun c_103 => absurd c_103 (by decide)) (fun c_103 => ?_)
  refine q_iload (pc := 106) dX12_feed_106 rfl ?_
  refine q_goto (pc := 108) 124 dX12_feed_108 (by decide) ?_
  refine q_iast (pc := 124) dX12_feed_124 (oA_sh (Model_s_tape hm)) (oA_lt (Model_s_tape hm)) rfl (by omega) ?_
  refine q_aload_n (pc := 125) dX12_feed_125 rfl rfl ?_
  refine q_dup (pc := 126) dX12_feed_126 rfl ?_
  refine q_getI (pc := 127) dX12_feed_127 fX12_175 (Model_sh hm) ⟨by decide, rfl⟩ (Model_lt hm) ?_
  rw [bq_u_ne (show m ≠ m + 5 by omega), f2.1]
  refine q_iconst (pc := 130) (v := nI 1) dX12_feed_130 (by decide) ?_
  refine q_iaddN (pc := 131) dX12_feed_131 ?_
  refine q_putI (pc := 132) dX12_feed_132 (pX12_175 _) (Model_sh hm) ⟨by decide, rfl⟩ (Model_lt hm) ?_
  refine q_nameI (fun J3 e3 => ?_)
  have f3 := (FM.ap (v := c) f2)
  rw [← e3] at f3
  refine q_iinc (pc := 135) (v := nI (((0 + 1) + 1) + 1)) dX12_feed_135 rfl (bq_inc _) (Nat.le_of_ble_eq_true rfl) rfl ?_
  show bq_W _ _ _ _ _ 138 [_, _, _, _, _, _, _, _] _ _ _ _ _ _ _
  refine q_goto (pc := 138) 67 dX12_feed_138 (by decide) ?_
  refine q_iload (pc := 67) dX12_feed_67 rfl ?_
  refine q_iload_n (pc := 69) dX12_feed_69 rfl rfl ?_
  refine q_icmp_ge (pc := 70) 141 dX12_feed_70 (by decide) (fun c_70 => absurd c_70 (by decide)) (fun c_70 => ?_)
  refine q_aload_n (pc := 73) dX12_feed_73 rfl rfl ?_
  refine q_getP (pc := 74) dX12_feed_74 fX12_22 (Model_sh hm) ⟨by decide, rfl⟩ (Model_lt hm) (Model_p_tape hm) ?_
  refine q_aload_n (pc := 77) dX12_feed_77 rfl rfl ?_
  refine q_getI (pc := 78) dX12_feed_78 fX12_175 (Model_sh hm) ⟨by decide, rfl⟩ (Model_lt hm) ?_
  rw [f3.1]
  refine q_iload (pc := 81) dX12_feed_81 rfl ?_
  refine q_if_ne (pc := 83) 90 dX12_feed_83 (by decide) (fun c_83 => ?_) (fun c_83 => ((absurd c_83 (by decide) : False)).elim)
  refine q_iload (pc := 90) dX12_feed_90 rfl ?_
  refine q_iconst (pc := 92) (v := nI 1) dX12_feed_92 (by decide) ?_
  refine q_icmp_ne (pc := 93) 100 dX12_feed_93 (by decide) (fun c_93 => ?_) (fun c_93 => ((absurd c_93 (by decide) : False)).elim)
  refine q_iload (pc := 100) dX12_feed_100 rfl ?_
  refine q_iconst (pc := 102) (v := nI 2) dX12_feed_102 (by decide) ?_
  refine q_icmp_ne (pc := 103) 111 dX12_feed_103 (by decide) (fun c_103 => ?_) (fun c_103 => ((absurd c_103 (by decide) : False)).elim)
  refine q_iload (pc := 111) dX12_feed_111 rfl ?_
  refine q_iconst (pc := 113) (v := nI 3) dX12_feed_113 (by decide) ?_
  refine q_icmp_ne (pc := 114) 122 dX12_feed_114 (by decide) (fun c_114 => absurd c_114 (by decide)) (fun c_114 => ?_)
  refine q_iload (pc := 117) dX12_feed_117 rfl ?_
  refine q_goto (pc := 119) 124 dX12_feed_119 (by decide) ?_
  refine q_iast (pc := 124) dX12_feed_124 (oA_sh (Model_s_tape hm)) (oA_lt (Model_s_tape hm)) rfl (by omega) ?_
  refine q_aload_n (pc := 125) dX12_feed_125 rfl rfl ?_
  refine q_dup (pc := 126) dX12_feed_126 rfl ?_
  refine q_getI (pc := 127) dX12_feed_127 fX12_175 (Model_sh hm) ⟨by decide, rfl⟩ (Model_lt hm) ?_
  rw [bq_u_ne (show m ≠ m + 5 by omega), f3.1]
  refine q_iconst (pc := 130) (v := nI 1) dX12_feed_130 (by decide) ?_
  refine q_iaddN (pc := 131) dX12_feed_131 ?_
  refine q_putI (pc := 132) dX12_feed_132 (pX12_175 _) (Model_sh hm) ⟨by decide, rfl⟩ (Model_lt hm) ?_
  refine q_nameI (fun J4 e4 => ?_)
  have f4 := (FM.ap (v := d) f3)
  rw [← e4] at f4
  refine q_iinc (pc := 135) (v := nI ((((0 + 1) + 1) + 1) + 1)) dX12_feed_135 rfl (bq_inc _) (Nat.le_of_ble_eq_true rfl) rfl ?_
  show bq_W _ _ _ _ _ 138 [_, _, _, _, _, _, _, _] _ _ _ _ _ _ _
  refine q_goto (pc := 138) 67 dX12_feed_138 (by decide) ?_
  refine q_iload (pc := 67) dX12_feed_67 rfl ?_
  refine q_iload_n (pc := 69) dX12_feed_69 rfl rfl ?_
  refine q_icmp_ge (pc := 70) 141 dX12_feed_70 (by decide) (fun c_70 => ?_) (fun c_70 => absurd (by decide) c_70)
  refine q_aload_n (pc := 141) dX12_feed_141 rfl rfl ?_
  refine q_getI (pc := 142) dX12_feed_142 fX12_175 (Model_sh hm) ⟨by decide, rfl⟩ (Model_lt hm) ?_
  exact q_iret (st := []) (pc := 145) dX12_feed_145 rfl ⟨by rw [p_feed_ok (by decide) (by decide) ha hb hc hd he hf, f4.1], rfl, rfl, rfl, rfl, by rw [p_feed_ok (by decide) (by decide) ha hb hc hd he hf]; exact ⟨f4.1, fun j hj => (f4.2.1 j hj).trans (fb_s (k := 3) (fb_s (k := 2) (fb_s (k := 1) (fb_1)))), f4.2.2⟩⟩
set_option maxHeartbeats 4000000 in
set_option maxRecDepth 20000 in
theorem o_feed_k5 {S : BqH} {n : Nat} {I : BqI} {L : BqL} {P : BqP} {m : Nat} (hm : oModel S n P m) {l : Nat} (h0 : I m 9 = nI l) (hl : l ≤ 60) {a b c d e : Int32} (ha : ¬ (a < nI 0 ∨ ¬ a ≤ nI 127)) (hb : ¬ (b < nI 0 ∨ ¬ b ≤ nI 127)) (hc : ¬ (c < nI 0 ∨ ¬ c ≤ nI 127)) (hd : ¬ (d < nI 0 ∨ ¬ d ≤ nI 127)) (he : ¬ (e < nI 0 ∨ ¬ e ≤ nI 127)) (hf : ¬ 60 < l + 5) : bq_Sp mX12_feed 3 54 0 0 [.ref m, .int (nI 5), .int a, .int b, .int c, .int d, .int e] S n I L P (qFm m I S n L P (p_feed l (I (m + 5)) (nI 5) a b c d e)) := by
  refine q_entry (vs := [some (.ref m), some (.int (nI 5)), some (.int a), some (.int b), some (.int c), some (.int d), some (.int e), none]) (by decide +kernel) (by simp) (Nat.le_of_ble_eq_true rfl) rfl ?_
  have f0 : FM m I I l (I (m + 5)) := ⟨h0, fun _ _ => rfl, fun _ _ _ => rfl, fun _ _ => rfl⟩
  refine q_iload_n (pc := 0) dX12_feed_0 rfl rfl ?_
  refine q_iconst (pc := 1) (v := nI 1) dX12_feed_1 (by decide) ?_
  refine q_iconst (pc := 2) (v := nI 5) dX12_feed_2 (by decide) ?_
  refine q_callSF (pc := 3) dX12_feed_3 kX12_69 c_X12_in ⟨Nat.le_of_ble_eq_true rfl, Nat.le_of_ble_eq_true rfl⟩ rfl rfl (Nat.le_of_ble_eq_true rfl) ?_
  show bq_W _ _ _ _ _ 6 _ [_] _ _ _ _ _ _
  refine q_if_eq (pc := 6) 47 dX12_feed_6 (by decide) (fun c_6 => (((bq_nin (by omega) (by omega) (by decide)) (bq_nb0.mp c_6) : False)).elim) (fun c_6 => ?_)
  refine q_iload_n (pc := 9) dX12_feed_9 rfl rfl ?_
  refine q_callSF (pc := 10) dX12_feed_10 kX12_172 c_X12_isByte ⟨Nat.le_of_ble_eq_true rfl, Nat.le_of_ble_eq_true rfl⟩ rfl rfl (Nat.le_of_ble_eq_true rfl) ?_
  show bq_W _ _ _ _ _ 13 _ [_] _ _ _ _ _ _
  refine q_if_eq (pc := 13) 47 dX12_feed_13 (by decide) (fun c_13 => ((ha (bq_nb0.mp c_13))).elim) (fun c_13 => ?_)
  refine q_iload_n (pc := 16) dX12_feed_16 rfl rfl ?_
  refine q_callSF (pc := 17) dX12_feed_17 kX12_172 c_X12_isByte ⟨Nat.le_of_ble_eq_true rfl, Nat.le_of_ble_eq_true rfl⟩ rfl rfl (Nat.le_of_ble_eq_true rfl) ?_
  show bq_W _ _ _ _ _ 20 _ [_] _ _ _ _ _ _
  refine q_if_eq (pc := 20) 47 dX12_feed_20 (by decide) (fun c_20 => ((hb (bq_nb0.mp c_20))).elim) (fun c_20 => ?_)
  refine q_iload (pc := 23) dX12_feed_23 rfl ?_
  refine q_callSF (pc := 25) dX12_feed_25 kX12_172 c_X12_isByte ⟨Nat.le_of_ble_eq_true rfl, Nat.le_of_ble_eq_true rfl⟩ rfl rfl (Nat.le_of_ble_eq_true rfl) ?_
  show bq_W _ _ _ _ _ 28 _ [_] _ _ _ _ _ _
  refine q_if_eq (pc := 28) 47 dX12_feed_28 (by decide) (fun c_28 => ((hc (bq_nb0.mp c_28))).elim) (fun c_28 => ?_)
  refine q_iload (pc := 31) dX12_feed_31 rfl ?_
  refine q_callSF (pc := 33) dX12_feed_33 kX12_172 c_X12_isByte ⟨Nat.le_of_ble_eq_true rfl, Nat.le_of_ble_eq_true rfl⟩ rfl rfl (Nat.le_of_ble_eq_true rfl) ?_
  show bq_W _ _ _ _ _ 36 _ [_] _ _ _ _ _ _
  refine q_if_eq (pc := 36) 47 dX12_feed_36 (by decide) (fun c_36 => ((hd (bq_nb0.mp c_36))).elim) (fun c_36 => ?_)
  refine q_iload (pc := 39) dX12_feed_39 rfl ?_
  refine q_callSF (pc := 41) dX12_feed_41 kX12_172 c_X12_isByte ⟨Nat.le_of_ble_eq_true rfl, Nat.le_of_ble_eq_true rfl⟩ rfl rfl (Nat.le_of_ble_eq_true rfl) ?_
  show bq_W _ _ _ _ _ 44 _ [_] _ _ _ _ _ _
  refine q_if_ne (pc := 44) 50 dX12_feed_44 (by decide) (fun c_44 => ?_) (fun c_44 => ((he (bq_nb0.mp c_44))).elim)
  refine q_aload_n (pc := 50) dX12_feed_50 rfl rfl ?_
  refine q_getI (pc := 51) dX12_feed_51 fX12_175 (Model_sh hm) ⟨by decide, rfl⟩ (Model_lt hm) ?_
  rw [h0]
  refine q_iload_n (pc := 54) dX12_feed_54 rfl rfl ?_
  refine q_iaddN (pc := 55) dX12_feed_55 ?_
  refine q_bipush (pc := 56) (v := nI 60) dX12_feed_56 (by decide) ?_
  refine q_icmp_le (pc := 58) 64 dX12_feed_58 (by decide) (fun c_58 => ?_) (fun c_58 => absurd (nI_le (show l + 5 ≤ 60 by omega) (by decide)) c_58)
  refine q_iconst (pc := 64) (v := nI 0) dX12_feed_64 (by decide) ?_
  refine q_istore (pc := 65) dX12_feed_65 (Nat.le_of_ble_eq_true rfl) rfl ?_
  show bq_W _ _ _ _ _ 67 [_, _, _, _, _, _, _, _] _ _ _ _ _ _ _
  refine q_iload (pc := 67) dX12_feed_67 rfl ?_
  refine q_iload_n (pc := 69) dX12_feed_69 rfl rfl ?_
  refine q_icmp_ge (pc := 70) 141 dX12_feed_70 (by decide) (fun c_70 => absurd c_70 (by decide)) (fun c_70 => ?_)
  refine q_aload_n (pc := 73) dX12_feed_73 rfl rfl ?_
  refine q_getP (pc := 74) dX12_feed_74 fX12_22 (Model_sh hm) ⟨by decide, rfl⟩ (Model_lt hm) (Model_p_tape hm) ?_
  refine q_aload_n (pc := 77) dX12_feed_77 rfl rfl ?_
  refine q_getI (pc := 78) dX12_feed_78 fX12_175 (Model_sh hm) ⟨by decide, rfl⟩ (Model_lt hm) ?_
  rw [f0.1]
  refine q_iload (pc := 81) dX12_feed_81 rfl ?_
  refine q_if_ne (pc := 83) 90 dX12_feed_83 (by decide) (fun c_83 => absurd c_83 (by decide)) (fun c_83 => ?_)
  refine q_iload_n (pc := 86) dX12_feed_86 rfl rfl ?_
  refine q_goto (pc := 87) 124 dX12_feed_87 (by decide) ?_
  refine q_iast (pc := 124) dX12_feed_124 (oA_sh (Model_s_tape hm)) (oA_lt (Model_s_tape hm)) rfl (by omega) ?_
  refine q_aload_n (pc := 125) dX12_feed_125 rfl rfl ?_
  refine q_dup (pc := 126) dX12_feed_126 rfl ?_
  refine q_getI (pc := 127) dX12_feed_127 fX12_175 (Model_sh hm) ⟨by decide, rfl⟩ (Model_lt hm) ?_
  rw [bq_u_ne (show m ≠ m + 5 by omega), f0.1]
  refine q_iconst (pc := 130) (v := nI 1) dX12_feed_130 (by decide) ?_
  refine q_iaddN (pc := 131) dX12_feed_131 ?_
  refine q_putI (pc := 132) dX12_feed_132 (pX12_175 _) (Model_sh hm) ⟨by decide, rfl⟩ (Model_lt hm) ?_
  refine q_nameI (fun J1 e1 => ?_)
  have f1 := (FM.ap (v := a) f0)
  rw [← e1] at f1
  refine q_iinc (pc := 135) (v := nI (0 + 1)) dX12_feed_135 rfl (bq_inc _) (Nat.le_of_ble_eq_true rfl) rfl ?_
  show bq_W _ _ _ _ _ 138 [_, _, _, _, _, _, _, _] _ _ _ _ _ _ _
  refine q_goto (pc := 138) 67 dX12_feed_138 (by decide) ?_
  refine q_iload (pc := 67) dX12_feed_67 rfl ?_
  refine q_iload_n (pc := 69) dX12_feed_69 rfl rfl ?_
  refine q_icmp_ge (pc := 70) 141 dX12_feed_70 (by decide) (fun c_70 => absurd c_70 (by decide)) (fun c_70 => ?_)
  refine q_aload_n (pc := 73) dX12_feed_73 rfl rfl ?_
  refine q_getP (pc := 74) dX12_feed_74 fX12_22 (Model_sh hm) ⟨by decide, rfl⟩ (Model_lt hm) (Model_p_tape hm) ?_
  refine q_aload_n (pc := 77) dX12_feed_77 rfl rfl ?_
  refine q_getI (pc := 78) dX12_feed_78 fX12_175 (Model_sh hm) ⟨by decide, rfl⟩ (Model_lt hm) ?_
  rw [f1.1]
  refine q_iload (pc := 81) dX12_feed_81 rfl ?_
  refine q_if_ne (pc := 83) 90 dX12_feed_83 (by decide) (fun c_83 => ?_) (fun c_83 => ((absurd c_83 (by decide) : False)).elim)
  refine q_iload (pc := 90) dX12_feed_90 rfl ?_
  refine q_iconst (pc := 92) (v := nI 1) dX12_feed_92 (by decide) ?_
  refine q_icmp_ne (pc := 93) 100 dX12_feed_93 (by decide) (fun c_93 => absurd c_93 (by decide)) (fun c_93 => ?_)
  refine q_iload_n (pc := 96) dX12_feed_96 rfl rfl ?_
  refine q_goto (pc := 97) 124 dX12_feed_97 (by decide) ?_
  refine q_iast (pc := 124) dX12_feed_124 (oA_sh (Model_s_tape hm)) (oA_lt (Model_s_tape hm)) rfl (by omega) ?_
  refine q_aload_n (pc := 125) dX12_feed_125 rfl rfl ?_
  refine q_dup (pc := 126) dX12_feed_126 rfl ?_
  refine q_getI (pc := 127) dX12_feed_127 fX12_175 (Model_sh hm) ⟨by decide, rfl⟩ (Model_lt hm) ?_
  rw [bq_u_ne (show m ≠ m + 5 by omega), f1.1]
  refine q_iconst (pc := 130) (v := nI 1) dX12_feed_130 (by decide) ?_
  refine q_iaddN (pc := 131) dX12_feed_131 ?_
  refine q_putI (pc := 132) dX12_feed_132 (pX12_175 _) (Model_sh hm) ⟨by decide, rfl⟩ (Model_lt hm) ?_
  refine q_nameI (fun J2 e2 => ?_)
  have f2 := (FM.ap (v := b) f1)
  rw [← e2] at f2
  refine q_iinc (pc := 135) (v := nI ((0 + 1) + 1)) dX12_feed_135 rfl (bq_inc _) (Nat.le_of_ble_eq_true rfl) rfl ?_
  show bq_W _ _ _ _ _ 138 [_, _, _, _, _, _, _, _] _ _ _ _ _ _ _
  refine q_goto (pc := 138) 67 dX12_feed_138 (by decide) ?_
  refine q_iload (pc := 67) dX12_feed_67 rfl ?_
  refine q_iload_n (pc := 69) dX12_feed_69 rfl rfl ?_
  refine q_icmp_ge (pc := 70) 141 dX12_feed_70 (by decide) (fun c_70 => absurd c_70 (by decide)) (fun c_70 => ?_)
  refine q_aload_n (pc := 73) dX12_feed_73 rfl rfl ?_
  refine q_getP (pc := 74) dX12_feed_74 fX12_22 (Model_sh hm) ⟨by decide, rfl⟩ (Model_lt hm) (Model_p_tape hm) ?_
  refine q_aload_n (pc := 77) dX12_feed_77 rfl rfl ?_
  refine q_getI (pc := 78) dX12_feed_78 fX12_175 (Model_sh hm) ⟨by decide, rfl⟩ (Model_lt hm) ?_
  rw [f2.1]
  refine q_iload (pc := 81) dX12_feed_81 rfl ?_
  refine q_if_ne (pc := 83) 90 dX12_feed_83 (by decide) (fun c_83 => ?_) (fun c_83 => ((absurd c_83 (by decide) : False)).elim)
  refine q_iload (pc := 90) dX12_feed_90 rfl ?_
  refine q_iconst (pc := 92) (v := nI 1) dX12_feed_92 (by decide) ?_
  refine q_icmp_ne (pc := 93) 100 dX12_feed_93 (by decide) (fun c_93 => ?_) (fun c_93 => ((absurd c_93 (by decide) : False)).elim)
  refine q_iload (pc := 100) dX12_feed_100 rfl ?_
  refine q_iconst (pc := 102) (v := nI 2) dX12_feed_102 (by decide) ?_
  refine q_icmp_ne (pc := 103) 111 dX12_feed_103 (by decide) (fun c_103 => absurd c_103 (by decide)) (fun c_103 => ?_)
  refine q_iload (pc := 106) dX12_feed_106 rfl ?_
  refine q_goto (pc := 108) 124 dX12_feed_108 (by decide) ?_
  refine q_iast (pc := 124) dX12_feed_124 (oA_sh (Model_s_tape hm)) (oA_lt (Model_s_tape hm)) rfl (by omega) ?_
  refine q_aload_n (pc := 125) dX12_feed_125 rfl rfl ?_
  refine q_dup (pc := 126) dX12_feed_126 rfl ?_
  refine q_getI (pc := 127) dX12_feed_127 fX12_175 (Model_sh hm) ⟨by decide, rfl⟩ (Model_lt hm) ?_
  rw [bq_u_ne (show m ≠ m + 5 by omega), f2.1]
  refine q_iconst (pc := 130) (v := nI 1) dX12_feed_130 (by decide) ?_
  refine q_iaddN (pc := 131) dX12_feed_131 ?_
  refine q_putI (pc := 132) dX12_feed_132 (pX12_175 _) (Model_sh hm) ⟨by decide, rfl⟩ (Model_lt hm) ?_
  refine q_nameI (fun J3 e3 => ?_)
  have f3 := (FM.ap (v := c) f2)
  rw [← e3] at f3
  refine q_iinc (pc := 135) (v := nI (((0 + 1) + 1) + 1)) dX12_feed_135 rfl (bq_inc _) (Nat.le_of_ble_eq_true rfl) rfl ?_
  show bq_W _ _ _ _ _ 138 [_, _, _, _, _, _, _, _] _ _ _ _ _ _ _
  refine q_goto (pc := 138) 67 dX12_feed_138 (by decide) ?_
  refine q_iload (pc := 67) dX12_feed_67 rfl ?_
  refine q_iload_n (pc := 69) dX12_feed_69 rfl rfl ?_
  refine q_icmp_ge (pc := 70) 141 dX12_feed_70 (by decide) (fun c_70 => absurd c_70 (by decide)) (fun c_70 => ?_)
  refine q_aload_n (pc := 73) dX12_feed_73 rfl rfl ?_
  refine q_getP (pc := 74) dX12_feed_74 fX12_22 (Model_sh hm) ⟨by decide, rfl⟩ (Model_lt hm) (Model_p_tape hm) ?_
  refine q_aload_n (pc := 77) dX12_feed_77 rfl rfl ?_
  refine q_getI (pc := 78) dX12_feed_78 fX12_175 (Model_sh hm) ⟨by decide, rfl⟩ (Model_lt hm) ?_
  rw [f3.1]
  refine q_iload (pc := 81) dX12_feed_81 rfl ?_
  refine q_if_ne (pc := 83) 90 dX12_feed_83 (by decide) (fun c_83 => ?_) (fun c_83 => ((absurd c_83 (by decide) : False)).elim)
  refine q_iload (pc := 90) dX12_feed_90 rfl ?_
  refine q_iconst (pc := 92) (v := nI 1) dX12_feed_92 (by decide) ?_
  refine q_icmp_ne (pc := 93) 100 dX12_feed_93 (by decide) (fun c_93 => ?_) (fun c_93 => ((absurd c_93 (by decide) : False)).elim)
  refine q_iload (pc := 100) dX12_feed_100 rfl ?_
  refine q_iconst (pc := 102) (v := nI 2) dX12_feed_102 (by decide) ?_
  refine q_icmp_ne (pc := 103) 111 dX12_feed_103 (by decide) (fun c_103 => ?_) (fun c_103 => ((absurd c_103 (by decide) : False)).elim)
  refine q_iload (pc := 111) dX12_feed_111 rfl ?_
  refine q_iconst (pc := 113) (v := nI 3) dX12_feed_113 (by decide) ?_
  refine q_icmp_ne (pc := 114) 122 dX12_feed_114 (by decide) (fun c_114 => absurd c_114 (by decide)) (fun c_114 => ?_)
  refine q_iload (pc := 117) dX12_feed_117 rfl ?_
  refine q_goto (pc := 119) 124 dX12_feed_119 (by decide) ?_
  refine q_iast (pc := 124) dX12_feed_124 (oA_sh (Model_s_tape hm)) (oA_lt (Model_s_tape hm)) rfl (by omega) ?_
  refine q_aload_n (pc := 125) dX12_feed_125 rfl rfl ?_
  refine q_dup (pc := 126) dX12_feed_126 rfl ?_
  refine q_getI (pc := 127) dX12_feed_127 fX12_175 (Model_sh hm) ⟨by decide, rfl⟩ (Model_lt hm) ?_
  rw [bq_u_ne (show m ≠ m + 5 by omega), f3.1]
  refine q_iconst (pc := 130) (v := nI 1) dX12_feed_130 (by decide) ?_
  refine q_iaddN (pc := 131) dX12_feed_131 ?_
  refine q_putI (pc := 132) dX12_feed_132 (pX12_175 _) (Model_sh hm) ⟨by decide, rfl⟩ (Model_lt hm) ?_
  refine q_nameI (fun J4 e4 => ?_)
  have f4 := (FM.ap (v := d) f3)
  rw [← e4] at f4
  refine q_iinc (pc := 135) (v := nI ((((0 + 1) + 1) + 1) + 1)) dX12_feed_135 rfl (bq_inc _) (Nat.le_of_ble_eq_true rfl) rfl ?_
  show bq_W _ _ _ _ _ 138 [_, _, _, _, _, _, _, _] _ _ _ _ _ _ _
  refine q_goto (pc := 138) 67 dX12_feed_138 (by decide) ?_
  refine q_iload (pc := 67) dX12_feed_67 rfl ?_
  refine q_iload_n (pc := 69) dX12_feed_69 rfl rfl ?_
  refine q_icmp_ge (pc := 70) 141 dX12_feed_70 (by decide) (fun c_70 => absurd c_70 (by decide)) (fun c_70 => ?_)
  refine q_aload_n (pc := 73) dX12_feed_73 rfl rfl ?_
  refine q_getP (pc := 74) dX12_feed_74 fX12_22 (Model_sh hm) ⟨by decide, rfl⟩ (Model_lt hm) (Model_p_tape hm) ?_
  refine q_aload_n (pc := 77) dX12_feed_77 rfl rfl ?_
  refine q_getI (pc := 78) dX12_feed_78 fX12_175 (Model_sh hm) ⟨by decide, rfl⟩ (Model_lt hm) ?_
  rw [f4.1]
  refine q_iload (pc := 81) dX12_feed_81 rfl ?_
  refine q_if_ne (pc := 83) 90 dX12_feed_83 (by decide) (fun c_83 => ?_) (fun c_83 => ((absurd c_83 (by decide) : False)).elim)
  refine q_iload (pc := 90) dX12_feed_90 rfl ?_
  refine q_iconst (pc := 92) (v := nI 1) dX12_feed_92 (by decide) ?_
  refine q_icmp_ne (pc := 93) 100 dX12_feed_93 (by decide) (fun c_93 => ?_) (fun c_93 => ((absurd c_93 (by decide) : False)).elim)
  refine q_iload (pc := 100) dX12_feed_100 rfl ?_
  refine q_iconst (pc := 102) (v := nI 2) dX12_feed_102 (by decide) ?_
  refine q_icmp_ne (pc := 103) 111 dX12_feed_103 (by decide) (fun c_103 => ?_) (fun c_103 => ((absurd c_103 (by decide) : False)).elim)
  refine q_iload (pc := 111) dX12_feed_111 rfl ?_
  refine q_iconst (pc := 113) (v := nI 3) dX12_feed_113 (by decide) ?_
  refine q_icmp_ne (pc := 114) 122 dX12_feed_114 (by decide) (fun c_114 => ?_) (fun c_114 => ((absurd c_114 (by decide) : False)).elim)
  refine q_iload (pc := 122) dX12_feed_122 rfl ?_
  refine q_iast (pc := 124) dX12_feed_124 (oA_sh (Model_s_tape hm)) (oA_lt (Model_s_tape hm)) rfl (by omega) ?_
  refine q_aload_n (pc := 125) dX12_feed_125 rfl rfl ?_
  refine q_dup (pc := 126) dX12_feed_126 rfl ?_
  refine q_getI (pc := 127) dX12_feed_127 fX12_175 (Model_sh hm) ⟨by decide, rfl⟩ (Model_lt hm) ?_
  rw [bq_u_ne (show m ≠ m + 5 by omega), f4.1]
  refine q_iconst (pc := 130) (v := nI 1) dX12_feed_130 (by decide) ?_
  refine q_iaddN (pc := 131) dX12_feed_131 ?_
  refine q_putI (pc := 132) dX12_feed_132 (pX12_175 _) (Model_sh hm) ⟨by decide, rfl⟩ (Model_lt hm) ?_
  refine q_nameI (fun J5 e5 => ?_)
  have f5 := (FM.ap (v := e) f4)
  rw [← e5] at f5
  refine q_iinc (pc := 135) (v := nI (((((0 + 1) + 1) + 1) + 1) + 1)) dX12_feed_135 rfl (bq_inc _) (Nat.le_of_ble_eq_true rfl) rfl ?_
  show bq_W _ _ _ _ _ 138 [_, _, _, _, _, _, _, _] _ _ _ _ _ _ _
  refine q_goto (pc := 138) 67 dX12_feed_138 (by decide) ?_
  refine q_iload (pc := 67) dX12_feed_67 rfl ?_
  refine q_iload_n (pc := 69) dX12_feed_69 rfl rfl ?_
  refine q_icmp_ge (pc := 70) 141 dX12_feed_70 (by decide) (fun c_70 => ?_) (fun c_70 => absurd (by decide) c_70)
  refine q_aload_n (pc := 141) dX12_feed_141 rfl rfl ?_
  refine q_getI (pc := 142) dX12_feed_142 fX12_175 (Model_sh hm) ⟨by decide, rfl⟩ (Model_lt hm) ?_
  exact q_iret (st := []) (pc := 145) dX12_feed_145 rfl ⟨by rw [p_feed_ok (by decide) (by decide) ha hb hc hd he hf, f5.1], rfl, rfl, rfl, rfl, by rw [p_feed_ok (by decide) (by decide) ha hb hc hd he hf]; exact ⟨f5.1, fun j hj => (f5.2.1 j hj).trans (fb_s (k := 4) (fb_s (k := 3) (fb_s (k := 2) (fb_s (k := 1) (fb_1))))), f5.2.2⟩⟩
theorem o_feed {S : BqH} {n : Nat} {I : BqI} {L : BqL} {P : BqP} {m : Nat} (hm : oModel S n P m) {l : Nat} (h0 : I m 9 = nI l) (hl : l ≤ 60) {k : Int32} {a b c d e : Int32} : bq_Sp mX12_feed 3 54 0 0 [.ref m, .int k, .int a, .int b, .int c, .int d, .int e] S n I L P (qFm m I S n L P (p_feed l (I (m + 5)) k a b c d e)) := by
  by_cases hb : (k < nI 1 ∨ ¬ k ≤ nI 5) ∨ (a < nI 0 ∨ ¬ a ≤ nI 127) ∨ (b < nI 0 ∨ ¬ b ≤ nI 127) ∨ (c < nI 0 ∨ ¬ c ≤ nI 127) ∨ (d < nI 0 ∨ ¬ d ≤ nI 127) ∨ (e < nI 0 ∨ ¬ e ≤ nI 127)
  · exact o_feed_a hm h0 hl hb
  obtain ⟨q, q1, q5, rfl⟩ := (bq_in19 k 1 5 (by decide) (by decide)).resolve_left (fun z => hb (Or.inl z))
  have ha : ¬ (a < nI 0 ∨ ¬ a ≤ nI 127) := fun z => hb (Or.inr (Or.inl z))
  have hb' : ¬ (b < nI 0 ∨ ¬ b ≤ nI 127) := fun z => hb (Or.inr (Or.inr (Or.inl z)))
  have hc : ¬ (c < nI 0 ∨ ¬ c ≤ nI 127) := fun z => hb (Or.inr (Or.inr (Or.inr (Or.inl z))))
  have hd : ¬ (d < nI 0 ∨ ¬ d ≤ nI 127) := fun z => hb (Or.inr (Or.inr (Or.inr (Or.inr (Or.inl z)))))
  have he : ¬ (e < nI 0 ∨ ¬ e ≤ nI 127) := fun z => hb (Or.inr (Or.inr (Or.inr (Or.inr (Or.inr z)))))
  by_cases hf : 60 < l + q
  · exact o_feed_b hm h0 hl q1 q5 ha hb' hc hd he hf
  match q, q1, q5, hf with
  | 1, _, _, hf => exact o_feed_k1 hm h0 hl ha hb' hc hd he hf
  | 2, _, _, hf => exact o_feed_k2 hm h0 hl ha hb' hc hd he hf
  | 3, _, _, hf => exact o_feed_k3 hm h0 hl ha hb' hc hd he hf
  | 4, _, _, hf => exact o_feed_k4 hm h0 hl ha hb' hc hd he hf
  | 5, _, _, hf => exact o_feed_k5 hm h0 hl ha hb' hc hd he hf
  | q + 6, _, q5, _ => exact absurd q5 (by omega)
/-! the two objects: feeding, running, back, image, undo -/
theorem fz_neg {cs : Nat → BqC} {g : BqG} {q : Nat} : ∀ {n : Nat}, fz cs g n = some q → (wk (ds cs g q) (cs q)).1 < 0
  | 0, h => by
    have h' : (none : Option Nat) = some q := h
    cases h'
  | n + 1, h => by
    have h' : (match fz cs g n with | some q => some q | none => if (wk (ds cs g n) (cs n)).1 < 0 then some n else none) = some q := h
    cases hf : fz cs g n with
    | some p =>
      rw [hf] at h'
      have e : p = q := Option.some.inj h'
      exact fz_neg (hf.trans (congrArg some e))
    | none =>
      rw [hf] at h'
      by_cases c : (wk (ds cs g n) (cs n)).1 < 0
      · have e : n = q := Option.some.inj ((if_pos c).symm.trans h')
        rw [← e]; exact c
      · have h2 := (if_neg c).symm.trans h'
        cases h2
theorem op_run {g : BqG} {h : Nat → BqG} {ch en : Nat} {r : Bool × Nat × Nat × (Nat → BqC)} (hK : GK g en) (hen : en + 60 < 200000) (hn : r.1 = true → 3 * r.2.2.1 ≤ 61) : Op g h ch en (fun y => p_run g h ch y r) := by
  by_cases hr : r.1 = true
  · have hn := hn hr
    cases hf : fz r.2.2.2 g r.2.2.1 with
    | none => exact Op.cg ((ds_gk hK r.2.2.1 (by omega)).mono (by omega)) (fun y => p_run_o hr hf)
    | some q =>
      refine Op.ref hK ?_ (fun y => p_run_f hr hf)
      intro z
      have hw := fz_neg hf
      have z2 : (wk (ds r.2.2.2 g q) (r.2.2.2 q)).1 = 0 := by rw [← Int32.neg_neg (a := (wk (ds r.2.2.2 g q) (r.2.2.2 q)).1), z]; rfl
      rw [z2] at hw
      exact absurd hw (by decide)
  · exact Op.same hK (fun y => p_run_w hr)
/-- feeding, whatever lies on the tape -/
theorem p_feed_x {l : Nat} {k a b c d e : Int32} (hl : l ≤ 60) : ∃ (v : Int32) (l' : Nat) (F : (Nat → Int32) → Nat → Int32), l' ≤ 60 ∧ (∀ B, p_feed l B k a b c d e = (v, l', F B)) ∧ ∀ B B' : Nat → Int32, (∀ j, j < l → B j = B' j) → ∀ j, j < l' → F B j = F B' j := by
  by_cases hb : (k < nI 1 ∨ ¬ k ≤ nI 5) ∨ (a < nI 0 ∨ ¬ a ≤ nI 127) ∨ (b < nI 0 ∨ ¬ b ≤ nI 127) ∨ (c < nI 0 ∨ ¬ c ≤ nI 127) ∨ (d < nI 0 ∨ ¬ d ≤ nI 127) ∨ (e < nI 0 ∨ ¬ e ≤ nI 127)
  · exact ⟨(-2), l, (fun B => B), hl, fun B => p_feed_bad hb, fun B B' q j hj => q j hj⟩
  obtain ⟨q, q1, q5, rfl⟩ := (bq_in19 k 1 5 (by decide) (by decide)).resolve_left (fun z => hb (Or.inl z))
  have ha : ¬ (a < nI 0 ∨ ¬ a ≤ nI 127) := fun z => hb (Or.inr (Or.inl z))
  have hb' : ¬ (b < nI 0 ∨ ¬ b ≤ nI 127) := fun z => hb (Or.inr (Or.inr (Or.inl z)))
  have hc : ¬ (c < nI 0 ∨ ¬ c ≤ nI 127) := fun z => hb (Or.inr (Or.inr (Or.inr (Or.inl z))))
  have hd : ¬ (d < nI 0 ∨ ¬ d ≤ nI 127) := fun z => hb (Or.inr (Or.inr (Or.inr (Or.inr (Or.inl z)))))
  have he : ¬ (e < nI 0 ∨ ¬ e ≤ nI 127) := fun z => hb (Or.inr (Or.inr (Or.inr (Or.inr (Or.inr z)))))
  by_cases hf : 60 < l + q
  · exact ⟨(-4), l, (fun B => B), hl, fun B => p_feed_full q1 q5 ha hb' hc hd he hf, fun B B' z j hj => z j hj⟩
  · refine ⟨nI (l + q), l + q, (fun B j => if l ≤ j ∧ j < l + q then fb a b c d e (j - l) else B j), by omega, fun B => p_feed_ok q1 q5 ha hb' hc hd he hf, fun B B' z j hj => ?_⟩
    show (if l ≤ j ∧ j < l + q then fb a b c d e (j - l) else B j) = (if l ≤ j ∧ j < l + q then fb a b c d e (j - l) else B' j)
    by_cases w : l ≤ j ∧ j < l + q
    · rw [if_pos w, if_pos w]
    · rw [if_neg w, if_neg w]; exact z j (by omega)
section
variable {x m : Nat} {S : BqH} {n : Nat} {I : BqI} {L : BqL} {P : BqP} {h : Nat → BqG} {ch l en : Nat}
theorem JI.feed {k a b c d e : Int32} {r r2 : Option Value} {S1 S2 : BqH} {n1 n2 : Nat} {I1 I2 : BqI} {L1 L2 : BqL} {P1 P2 : BqP} (J : JI x m S n I L P h ch l en) (hxm : x + 536 ≤ m) (q : qFd x I L S n P (p_feed l (I (x + 108 + 1)) k a b c d e) r S1 n1 I1 L1 P1) (q2 : qFm m I1 S1 n1 L1 P1 (p_feed l (I1 (m + 5)) k a b c d e) r2 S2 n2 I2 L2 P2) : (∃ v, r = some (.int v) ∧ r2 = some (.int v)) ∧ n2 = n ∧ ∃ l', JI x m S2 n2 I2 L2 P2 h ch l' (en + 60) := by
  obtain ⟨jX, jM, jH, jg, jh, ⟨t1, t2, t3, t4⟩, jr, j6, ji⟩ := J
  obtain ⟨v, l', F, hl', e1, e2⟩ := p_feed_x (k := k) (a := a) (b := b) (c := c) (d := d) (e := e) t3
  rw [e1] at q q2
  obtain ⟨rfl, rfl, rfl, rfl, rfl, x0, x1, x2⟩ := q
  obtain ⟨rfl, rfl, rfl, rfl, rfl, m0, m1, m2, m3⟩ := q2
  have f : ∀ a, a ≠ x + 108 → a ≠ x + 108 + 1 → a ≠ m → a ≠ m + 5 → I2 a = I a := fun a z1 z2 z3 z4 => (m2 a z3 z4).trans (x2 a z1 z2)
  have fm : ∀ k, k ≠ 9 → I2 m k = I m k := fun k z => (m3 k z).trans (congrFun (x2 m (by omega) (by omega)) k)
  have g1 : I2 (m + 1) = I (m + 1) := f _ (by omega) (by omega) (by omega) (by omega)
  have g3 : I2 (m + 3) = I (m + 3) := f _ (by omega) (by omega) (by omega) (by omega)
  refine ⟨⟨v, rfl, rfl⟩, rfl, l', ?_, jM, ⟨(fm 2 (by decide)).trans jH.1, jH.2.1, fun i hi k hk => ?_⟩, ?_, fun i hi => (jh i hi).mono (by omega), ⟨?_, m0, hl', fun j hj => ?_⟩, ?_, ?_, ?_⟩
  · rw [g1]; exact jX.tp (fun a ha => f a (by omega) (by omega) (by omega) (by omega))
  · rw [f _ (by omega) (by omega) (by omega) (by omega)]; exact jH.2.2 i hi k hk
  · rw [g1]; exact jg.mono (by omega)
  · rw [m2 _ (by omega) (by omega)]; exact x0
  · rw [m2 (x + 108 + 1) (by omega) (by omega), x1 j (by omega), m1 j (by omega), x2 (m + 5) (by omega) (by omega)]
    exact e2 _ _ t4 j hj
  · rw [f x (by omega) (by omega) (by omega) (by omega), fm 7 (by decide)]; exact jr
  · rw [fm 6 (by decide)]; exact j6
  · rw [f x (by omega) (by omega) (by omega) (by omega), fm 4 (by decide), g3]
    rcases ji with ji | ⟨i1, i2, i3, i4⟩
    · exact Or.inl ji
    · exact Or.inr ⟨i1, i2, i3.fr (fun b q1 q2 => f b (by omega) (by omega) (by omega) (by omega)) (fun _ _ _ => rfl), i4.mono (by omega)⟩
theorem JI.run {r r2 : Option Value} {S1 S2 : BqH} {n1 n2 : Nat} {I1 I2 : BqI} {L1 L2 : BqL} {P1 P2 : BqP} {cs : Nat → BqC} (J : JI x m S n I L P h ch l en) (hxm : x + 536 ≤ m) (hen : en + 60 < 200000) (q : qRun x I L S n P (p_run (I (m + 1)) h ch (I x 10) (pR (I (x + 108 + 1)) l 21 0 0 cs)) r S1 n1 I1 L1 P1) (q2 : qMr m I1 S1 n1 L1 P1 (p_run (I (m + 1)) h ch (I1 m 7) (pR (I1 (m + 5)) l 21 0 0 cs)) r2 S2 n2 I2 L2 P2) : (∃ v, r = some (.int v) ∧ r2 = some (.int v)) ∧ n2 = n ∧ ∃ h' ch', JI x m S2 n2 I2 L2 P2 h' ch' 0 (en + 60) := by
  obtain ⟨jX, jM, jH, jg, jh, ⟨t1, t2, t3, t4⟩, jr, j6, ji⟩ := J
  have f0 : ∀ a, x + 536 ≤ a → I1 a = I a := fun a ha => q.2.2.2.2.2.2.2.1 a (by omega)
  have eB : hr (I1 (m + 5)) l = hr (I (x + 108 + 1)) l := hr_c (fun j hj => by rw [f0 _ (by omega)]; exact (t4 j hj).symm)
  rw [pR_c eB] at q2
  have hn := pR_n (B := I (x + 108 + 1)) (l := l) 21 0 0 cs (Nat.le_refl _) (Nat.zero_le _)
  generalize pR (I (x + 108 + 1)) l 21 0 0 cs = R at q q2 hn
  have O : Op (I (m + 1)) h ch en (fun y => p_run (I (m + 1)) h ch y R) := op_run jg hen (fun z => by have := hn z; omega)
  obtain ⟨a, g', h', ch', rr, hK, hKh, hr, e⟩ := O.x jg jh jH.2.1
  have e1 : p_run (I (m + 1)) h ch (I x 10) R = (a, g', h', ch', rr.getD (I x 10)) := e _
  have e2 : p_run (I (m + 1)) h ch (I1 m 7) R = (a, g', h', ch', rr.getD (I1 m 7)) := e _
  rw [e1] at q
  rw [e2] at q2
  obtain ⟨rfl, rfl, rfl, x1, x2, x3, x4, x5, x6, x7, x8⟩ := q
  obtain ⟨rfl, rfl, rfl, rfl, rfl, m1, m2, m3, m4, m5, m6, m7, m8, m9⟩ := q2
  have fx : ∀ b, b < m → I2 b = I1 b := fun b hb => m9 b (Or.inl hb)
  have ea : Alk g' (I2 (m + 1)) := fun k hk => (m1 k hk).symm
  refine ⟨⟨a, rfl, rfl⟩, rfl, h', ch', (x1.all (fun b hb => fx b (by omega))).alk ea (fun i hi k _ => rfl), jM.congr (x8 m (by omega)), m2, hK.alk ea, hKh, ⟨?_, m4, by omega, fun j hj => absurd hj (Nat.not_lt_zero j)⟩, ?_, m8, ?_⟩
  · rw [fx _ (by omega)]; exact x3
  · rw [fx x (by omega), x2, m3]
    show rr.getD (I x 10) = (if rr.getD (I1 m 7) = 0 then (-5) else rr.getD (I1 m 7))
    cases hrr : rr with
    | none => show I x 10 = (if I1 m 7 = 0 then (-5) else I1 m 7); rw [f0 m hxm]; exact jr
    | some v => exact (if_neg (hr v hrr)).symm
  · rw [fx x (by omega), x6, m7, f0 m hxm, m6, f0 (m + 3) (by omega)]
    rcases ji with ji | ⟨i1, i2, i3, i4⟩
    · exact Or.inl ji
    · exact Or.inr ⟨i1, i2, i3.fr (fun b q1 q2 => by rw [fx b (by omega), x5 b (by omega)]) (fun b q1 q2 => x7 b (by omega)), i4.mono (by omega)⟩
theorem JI.back {v : Int32} {c : Nat} {r r2 : Option Value} {S1 S2 : BqH} {n1 n2 : Nat} {I1 I2 : BqI} {L1 L2 : BqL} {P1 P2 : BqP} (J : JI x m S n I L P h (c + 1) l en) (hxm : x + 536 ≤ m) (q : qOp x I L S n P (v, h c, h, c, I x 10) r S1 n1 I1 L1 P1) (q2 : qMb m I1 S1 n1 L1 P1 v (h c) h c r2 S2 n2 I2 L2 P2) : (∃ v, r = some (.int v) ∧ r2 = some (.int v)) ∧ n2 = n ∧ JI x m S2 n2 I2 L2 P2 h c l (en + 60) := by
  obtain ⟨jX, jM, jH, jg, jh, ⟨t1, t2, t3, t4⟩, jr, j6, ji⟩ := J
  obtain ⟨rfl, rfl, rfl, x1, x2, ⟨x3, x3b⟩, x4, x5⟩ := q
  obtain ⟨rfl, rfl, rfl, rfl, rfl, ⟨-, m2, m3, m4, m5⟩, m6⟩ := q2
  have fx : ∀ b, b < m → I2 b = I1 b := fun b hb => m4 b (Or.inl hb)
  have fm : ∀ b, x + 536 ≤ b → I1 b = I b := fun b hb => x3 b (by omega)
  have ea : Alk (h c) (I2 (m + 1)) := fun k hk => (m6 k hk).symm
  refine ⟨⟨v, rfl, rfl⟩, rfl, (x1.all (fun b hb => fx b (by omega))).alk ea (fun i hi k _ => rfl), jM.congr (x5 m (by omega)), m2, ((jh c (by omega)).alk ea).mono (by omega), fun i hi => (jh i (by omega)).mono (by omega), ⟨?_, ?_, t3, fun j hj => ?_⟩, ?_, ?_, ?_⟩
  · rw [fx _ (by omega), x3 _ (by omega)]; exact t1
  · rw [m5 9 (by decide) (by decide) (by decide), fm m hxm]; exact t2
  · rw [fx _ (by omega), x3 _ (by omega), m4 (m + 5) (by omega), fm _ (by omega)]; exact t4 j hj
  · rw [fx x (by omega), m3, fm m hxm]
    exact x2.trans jr
  · rw [m5 6 (by decide) (by decide) (by decide), fm m hxm]; exact j6
  · have e4 : I2 x 4 = I x 4 := by rw [fx x (by omega)]; exact x3b
    have em4 : I2 m 4 = I m 4 := by rw [m5 4 (by decide) (by decide) (by decide), fm m hxm]
    have em3 : I2 (m + 3) = I (m + 3) := by rw [m4 (m + 3) (by omega), fm _ (by omega)]
    rw [e4, em4, em3]
    rcases ji with ji | ⟨i1, i2, i3, i4⟩
    · exact Or.inl ji
    · exact Or.inr ⟨i1, i2, i3.fr (fun b q1 q2 => by rw [fx b (by omega), x3 b (by omega)]) (fun b q1 q2 => x4 b (by omega)), i4.mono (by omega)⟩
end
section
variable {x m : Nat} {S : BqH} {n : Nat} {I : BqI} {L : BqL} {P : BqP} {h : Nat → BqG} {ch l en : Nat}
theorem JI.img (J : JI x m S n I L P h ch l en) (hxm : x + 536 ≤ m) : I (x + 1) 0 = I (m + 1) 0 ∧ ∀ (I1 I2 : BqI), I1 = bq_u (st_cpI I (x + 55) (x + 1)) x 4 (nI 1) → I2 = bq_u (fl I1 (m + 3) (fun k => 0 + k) (fun k => I1 (m + 1) (0 + k)) 650) m 4 (nI 1) → JI x m S n I2 (st_cpL L (x + 55) (x + 1)) P h ch l (en + 60) := by
  obtain ⟨⟨hx, hC, hc, hl, π, hP, hh⟩, jM, jH, jg, jh, ⟨t1, t2, t3, t4⟩, jr, j6, ji⟩ := J
  refine ⟨hC.1.at (k := 0) rfl, fun I1 I2 e1 e2 => ?_⟩
  have c55 : CS I1 (st_cpL L (x + 55) (x + 1)) (x + 55) (I (m + 1)) := by
    rw [e1]
    exact (hC.copy (by omega)).fr (fun a q1 q2 => bq_u_ne (by omega)) (fun _ _ _ => rfl)
  have f1 : ∀ a, a ≠ x → (a < x + 55 ∨ x + 108 ≤ a) → I1 a = I a := fun a q1 q2 => by rw [e1, bq_u_ne q1, st_cpI_ne (by omega) (by omega)]
  have f1x : ∀ k, k ≠ 4 → I1 x k = I x k := fun k q => by rw [e1, bq_u_no (fun z => q z.2), st_cpI_ne (by omega) (by omega)]
  have f2 : ∀ a, a ≠ m → a ≠ m + 3 → I2 a = I1 a := fun a q1 q2 => by rw [e2, bq_u_ne q1, fl_ne q2]
  have f2m : ∀ k, k ≠ 4 → I2 m k = I m k := fun k q => by rw [e2, bq_u_no (fun z => q z.2), fl_ne (by omega), f1 m (by omega) (by omega)]
  have f : ∀ a, a ≠ x → a ≠ m → a ≠ m + 3 → (a < x + 55 ∨ x + 108 ≤ a) → I2 a = I a := fun a q1 q2 q3 q4 => (f2 a q2 q3).trans (f1 a q1 q4)
  have fL : ∀ a, a < x + 55 ∨ x + 108 ≤ a → st_cpL L (x + 55) (x + 1) a = L a := fun a q => st_cpL_ne (by omega) (by omega)
  have g1 : I2 (m + 1) = I (m + 1) := f _ (by omega) (by omega) (by omega) (by omega)
  have k3 : Alk (I (m + 1)) (I2 (m + 3)) := fun k hk => by rw [e2, bq_u_ne (by omega), cp_at hk, f1 (m + 1) (by omega) (by omega)]
  have c2 : I2 x 2 = I x 2 := by rw [f2 x (by omega) (by omega)]; exact f1x 2 (by decide)
  refine ⟨⟨hx, ?_, c2.trans hc, hl, π, hP, fun i hi => ?_⟩, jM, ⟨(f2m 2 (by decide)).trans jH.1, jH.2.1, fun i hi k hk => ?_⟩, ?_, fun i hi => (jh i hi).mono (by omega), ⟨?_, (f2m 9 (by decide)).trans t2, t3, fun j hj => ?_⟩, ?_, (f2m 6 (by decide)).trans j6, Or.inr ⟨?_, ?_, ?_, ?_⟩⟩
  · rw [g1]; exact hC.fr (fun a q1 q2 => f a (by omega) (by omega) (by omega) (by omega)) (fun a q1 q2 => fL a (by omega))
  · have h7 := (hP.1 i (by omega)).2
    exact (hh i hi).fr (fun a q1 q2 => f a (by omega) (by omega) (by omega) (by omega)) (fun a q1 q2 => fL a (by omega))
  · rw [f _ (by omega) (by omega) (by omega) (by omega)]; exact jH.2.2 i hi k hk
  · rw [g1]; exact jg.mono (by omega)
  · rw [f _ (by omega) (by omega) (by omega) (by omega)]; exact t1
  · rw [f _ (by omega) (by omega) (by omega) (by omega), f (m + 5) (by omega) (by omega) (by omega) (by omega)]; exact t4 j hj
  · rw [f2 x (by omega) (by omega), f1x 10 (by decide), f2m 7 (by decide)]; exact jr
  · rw [f2 x (by omega) (by omega), e1, bq_u_at]; decide
  · rw [e2, bq_u_at]; decide
  · exact (c55.fr (fun a q1 q2 => f2 a (by omega) (by omega)) (fun _ _ _ => rfl)).alk k3
  · exact (jg.alk k3).mono (by omega)
theorem JI.und (J : JI x m S n I L P h ch l en) (hxm : x + 536 ≤ m) (h4 : ¬ I x 4 = 0) : ¬ I m 4 = 0 ∧ I (x + 55) 0 = I (m + 3) 0 ∧ ∀ (I1 I2 : BqI), I1 = bq_u (st_cpI I (x + 1) (x + 55)) x 2 (nI 0) → I2 = bq_u (fl I1 (m + 1) (fun k => 0 + k) (fun k => I1 (m + 3) (0 + k)) 650) m 2 (nI 0) → JI x m S n I2 (st_cpL L (x + 1) (x + 55)) P h 0 l (en + 60) := by
  obtain ⟨⟨hx, hC, hc, hl, π, hP, hh⟩, jM, jH, jg, jh, ⟨t1, t2, t3, t4⟩, jr, j6, ji⟩ := J
  obtain ⟨i1, i2, i3, i4⟩ := ji.resolve_left (fun z => h4 z.1)
  refine ⟨i2, i3.1.at (k := 0) rfl, fun I1 I2 e1 e2 => ?_⟩
  have c1 : CS I1 (st_cpL L (x + 1) (x + 55)) (x + 1) (I (m + 3)) := by
    rw [e1]
    exact (i3.copy (by omega)).fr (fun a q1 q2 => bq_u_ne (by omega)) (fun _ _ _ => rfl)
  have f1 : ∀ a, a ≠ x → (a < x + 1 ∨ x + 54 ≤ a) → I1 a = I a := fun a q1 q2 => by rw [e1, bq_u_ne q1, st_cpI_ne (by omega) (by omega)]
  have f1x : ∀ k, k ≠ 2 → I1 x k = I x k := fun k q => by rw [e1, bq_u_no (fun z => q z.2), st_cpI_ne (by omega) (by omega)]
  have f2 : ∀ a, a ≠ m → a ≠ m + 1 → I2 a = I1 a := fun a q1 q2 => by rw [e2, bq_u_ne q1, fl_ne q2]
  have f2m : ∀ k, k ≠ 2 → I2 m k = I m k := fun k q => by rw [e2, bq_u_no (fun z => q z.2), fl_ne (by omega), f1 m (by omega) (by omega)]
  have f : ∀ a, a ≠ x → a ≠ m → a ≠ m + 1 → (a < x + 1 ∨ x + 54 ≤ a) → I2 a = I a := fun a q1 q2 q3 q4 => (f2 a q2 q3).trans (f1 a q1 q4)
  have k1 : Alk (I (m + 3)) (I2 (m + 1)) := fun k hk => by rw [e2, bq_u_ne (by omega), cp_at hk, f1 (m + 3) (by omega) (by omega)]
  have g3 : I2 (m + 3) = I (m + 3) := f _ (by omega) (by omega) (by omega) (by omega)
  refine ⟨⟨hx, (c1.fr (fun a q1 q2 => f2 a (by omega) (by omega)) (fun _ _ _ => rfl)).alk k1, ?_, by omega, π, hP, fun i hi => absurd hi (Nat.not_lt_zero i)⟩, jM, ⟨?_, by omega, fun i hi => absurd hi (Nat.not_lt_zero i)⟩, (i4.alk k1).mono (by omega), fun i hi => absurd hi (Nat.not_lt_zero i), ⟨?_, (f2m 9 (by decide)).trans t2, t3, fun j hj => ?_⟩, ?_, (f2m 6 (by decide)).trans j6, Or.inr ⟨?_, ?_, ?_, ?_⟩⟩
  · rw [f2 x (by omega) (by omega), e1, bq_u_at]
  · rw [e2, bq_u_at]
  · rw [f _ (by omega) (by omega) (by omega) (by omega)]; exact t1
  · rw [f _ (by omega) (by omega) (by omega) (by omega), f (m + 5) (by omega) (by omega) (by omega) (by omega)]; exact t4 j hj
  · rw [f2 x (by omega) (by omega), f1x 10 (by decide), f2m 7 (by decide)]; exact jr
  · rw [f2 x (by omega) (by omega), f1x 4 (by decide)]; exact h4
  · rw [f2m 4 (by decide)]; exact i2
  · rw [g3]; exact i3.fr (fun a q1 q2 => f a (by omega) (by omega) (by omega) (by omega)) (fun a q1 q2 => st_cpL_ne (by omega) (by omega))
  · rw [g3]; exact i4.mono (by omega)
/-- the start -/
theorem JI.new {S0 : BqH} {I0 : BqI} {L0 : BqL} {P0 : BqP} {S1 : BqH} {n1 : Nat} {I1 : BqI} {L1 : BqL} {P1 : BqP} (hh : Nat → BqG) (h1 : BB x 536 tb11 S0 I0 L0 P0 S1 n1 I1 L1 P1) (h2 : BB (x + 536) 14 tb12 S1 I1 L1 P1 S n I L P) : JI x (x + 536) S n I L P hh 0 0 0 := by
  have hx := h1.w2 h2
  obtain ⟨a1, a2, a3, a4, a5, a6⟩ := new_mI h2.w hh
  obtain ⟨b1, b2, b3⟩ := new_xI hx
  refine ⟨by rw [a1]; exact new_CXS hx hh, new_model h2.w, a2, by rw [a1]; exact gk_0, fun i hi => absurd hi (Nat.not_lt_zero i), ⟨b3, a6, by omega, fun j hj => absurd hj (Nat.not_lt_zero j)⟩, ?_, a4, Or.inl ⟨b1, a3⟩⟩
  rw [b2, a5]
  exact (if_pos rfl).symm
end
theorem i_vc : Claimed_1_1 ∧ Claimed_1_2 := sorry
