/-! the model's plan: the next order, the tank for an order -/
def rn (r : Option Nat) : Int32 := match r with
  | none => (-1)
  | some q => nI q
theorem rn_ne {q : Nat} (h : q < 2 ^ 31) (e : nI q = (-1)) : False := by
  have := congrArg Int32.toInt e
  rw [nI_toInt h] at this
  have h2 : ((-1 : Int32)).toInt = -1 := by decide
  omega
theorem nx_no {K : Nat → Nat} {f : Nat → Bool} {i : Nat} (h : ¬ f i = true) : nxt K f (i + 1) = nxt K f i := by
  show (match nxt K f i with | none => if f i = true then some i else none | some q => if f i = true ∧ K i < K q then some i else some q) = _
  cases nxt K f i with
  | none => exact if_neg h
  | some q => exact if_neg (fun z => h z.1)
theorem nx_new {K : Nat → Nat} {f : Nat → Bool} {i : Nat} (hr : nxt K f i = none) (h : f i = true) : nxt K f (i + 1) = some i := by
  show (match nxt K f i with | none => if f i = true then some i else none | some q => if f i = true ∧ K i < K q then some i else some q) = _
  rw [hr]; exact if_pos h
theorem nx_lt {K : Nat → Nat} {f : Nat → Bool} {i q : Nat} (hr : nxt K f i = some q) (h : f i = true) (hl : K i < K q) : nxt K f (i + 1) = some i := by
  show (match nxt K f i with | none => if f i = true then some i else none | some q => if f i = true ∧ K i < K q then some i else some q) = _
  rw [hr]; exact if_pos ⟨h, hl⟩
theorem nx_ge {K : Nat → Nat} {f : Nat → Bool} {i q : Nat} (hr : nxt K f i = some q) (h : ¬ (f i = true ∧ K i < K q)) : nxt K f (i + 1) = some q := by
  show (match nxt K f i with | none => if f i = true then some i else none | some q => if f i = true ∧ K i < K q then some i else some q) = _
  rw [hr]; exact if_neg h
def qTf (m : Nat) (I : BqI) (S : BqH) (n : Nat) (L : BqL) (P : BqP) (v : Int32) : BqQ := fun r S' n' I' L' P' => r = some (.int v) ∧ S' = S ∧ n' = n ∧ L' = L ∧ P' = P ∧ ∀ a, a ≠ m + 6 → I' a = I a
theorem hnd_f {g : BqG} {o : Nat} {F : Nat → Nat} (z : fit g o F = true) : hnd g F (bq_str (fun j => nI (F j)) (fun b => g (124 + 5 * b))) o = 0 := by
  obtain ⟨h1, h2, h3⟩ := fit_d z
  unfold hnd
  rw [if_neg (Nat.not_lt.mpr h1), if_neg]
  · decide
  · rintro (q | q)
    · exact h2 q
    · exact h3 (Int32.not_le.mp q)
theorem hnd_t {g : BqG} {o : Nat} {F : Nat → Nat} (h : hnd g F (bq_str (fun j => nI (F j)) (fun b => g (124 + 5 * b))) o = 0) : fit g o F = true := by
  unfold hnd at h
  by_cases c1 : ns F 16 < gn g (205 + 9 * o)
  · rw [if_pos c1] at h; exact absurd h (by decide)
  · rw [if_neg c1] at h
    by_cases c2 : bq_str (fun j => nI (F j)) (fun b => g (124 + 5 * b)) < g (206 + 9 * o) ∨ ¬ bq_str (fun j => nI (F j)) (fun b => g (124 + 5 * b)) ≤ g (207 + 9 * o)
    · rw [if_pos c2] at h; exact absurd h (by decide)
    · exact fit_y (Nat.le_of_not_lt c1) ⟨fun q => c2 (Or.inl q), fun q => c2 (Or.inr (Int32.not_le.mpr q))⟩
set_option maxHeartbeats 1100000 in
set_option maxRecDepth 20000 in
theorem c_X12_isAhead {S : BqH} {n : Nat} {I : BqI} {L : BqL} {P : BqP} {m : Nat} {g : BqG} (hm : oModel S n P m) (hg : I (m + 1) = g) {en : Nat} (hG : GI g en) {a b : Nat} (ha : a < 10) (hb : b < 10) : bq_Sp mX12_isAhead 2 34 0 0 [.ref m, .int (nI a), .int (nI b)] S n I L P (bq_F (some (.int (bq_b (kk g a < kk g b)))) S n I L P) := by
  refine q_entry (vs := [some (.ref m), some (.int (nI a)), some (.int (nI b))]) (by decide +kernel) (by simp) (Nat.le_of_ble_eq_true rfl) rfl ?_
  have hk := ahd_kk hG ha hb
  refine q_aload_n (pc := 0) dX12_isAhead_0 rfl rfl ?_
  refine q_iload_n (pc := 1) dX12_isAhead_1 rfl rfl ?_
  refine q_iconst (pc := 2) (v := nI 0) dX12_isAhead_2 (by decide) ?_
  refine q_callVF (pc := 3) dX12_isAhead_3 kX12_118 (c_oA hm (o := a) (k := 0) (j := 204 + 9 * a) (by omega) (by omega)) (Model_sh hm) rfl (Model_lt hm) ⟨Nat.le_of_ble_eq_true rfl, Nat.le_of_ble_eq_true rfl⟩ rfl rfl (Nat.le_of_ble_eq_true rfl) ?_
  show bq_W _ _ _ _ _ 6 _ [_] _ _ _ _ _ _
  rw [hg]
  refine q_aload_n (pc := 6) dX12_isAhead_6 rfl rfl ?_
  refine q_iload_n (pc := 7) dX12_isAhead_7 rfl rfl ?_
  refine q_iconst (pc := 8) (v := nI 0) dX12_isAhead_8 (by decide) ?_
  refine q_callVF (pc := 9) dX12_isAhead_9 kX12_118 (c_oA hm (o := b) (k := 0) (j := 204 + 9 * b) (by omega) (by omega)) (Model_sh hm) rfl (Model_lt hm) ⟨Nat.le_of_ble_eq_true rfl, Nat.le_of_ble_eq_true rfl⟩ rfl rfl (Nat.le_of_ble_eq_true rfl) ?_
  show bq_W _ _ _ _ _ 12 _ [_, _] _ _ _ _ _ _
  rw [hg]
  refine q_icmp_eq (pc := 12) 36 dX12_isAhead_12 (by decide) (fun c_12 => ?_) (fun c_12 => ?_)
  · refine q_aload_n (pc := 36) dX12_isAhead_36 rfl rfl ?_
    refine q_iload_n (pc := 37) dX12_isAhead_37 rfl rfl ?_
    refine q_iconst (pc := 38) (v := nI 1) dX12_isAhead_38 (by decide) ?_
    refine q_callVF (pc := 39) dX12_isAhead_39 kX12_118 (c_oA hm (o := a) (k := 1) (j := 205 + 9 * a) (by omega) (by omega)) (Model_sh hm) rfl (Model_lt hm) ⟨Nat.le_of_ble_eq_true rfl, Nat.le_of_ble_eq_true rfl⟩ rfl rfl (Nat.le_of_ble_eq_true rfl) ?_
    show bq_W _ _ _ _ _ 42 _ [_] _ _ _ _ _ _
    rw [hg]
    refine q_aload_n (pc := 42) dX12_isAhead_42 rfl rfl ?_
    refine q_iload_n (pc := 43) dX12_isAhead_43 rfl rfl ?_
    refine q_iconst (pc := 44) (v := nI 1) dX12_isAhead_44 (by decide) ?_
    refine q_callVF (pc := 45) dX12_isAhead_45 kX12_118 (c_oA hm (o := b) (k := 1) (j := 205 + 9 * b) (by omega) (by omega)) (Model_sh hm) rfl (Model_lt hm) ⟨Nat.le_of_ble_eq_true rfl, Nat.le_of_ble_eq_true rfl⟩ rfl rfl (Nat.le_of_ble_eq_true rfl) ?_
    show bq_W _ _ _ _ _ 48 _ [_, _] _ _ _ _ _ _
    rw [hg]
    refine q_icmp_le (pc := 48) 55 dX12_isAhead_48 (by decide) (fun c_48 => ?_) (fun c_48 => ?_)
    · have hno : ¬ kk g a < kk g b := fun z => (hk.mpr z).elim (fun q => absurd (by rw [c_12]; exact Int32.le_refl _) (Int32.not_le.mpr q)) (fun q => q.2 c_48)
      refine q_iconst (pc := 55) (v := nI 0) dX12_isAhead_55 (by decide) ?_
      exact q_zret (st := []) (pc := 56) dX12_isAhead_56 rfl (by decide) ⟨by first | rw [bq_bt hy] | rw [bq_bf hno], rfl, rfl, rfl, rfl, rfl⟩
    · have hy : kk g a < kk g b := hk.mp (Or.inr ⟨c_12, c_48⟩)
      refine q_iconst (pc := 51) (v := nI 1) dX12_isAhead_51 (by decide) ?_
      refine q_goto (pc := 52) 56 dX12_isAhead_52 (by decide) ?_
      exact q_zret (st := []) (pc := 56) dX12_isAhead_56 rfl (by decide) ⟨by first | rw [bq_bt hy] | rw [bq_bf hno], rfl, rfl, rfl, rfl, rfl⟩
  · refine q_aload_n (pc := 15) dX12_isAhead_15 rfl rfl ?_
    refine q_iload_n (pc := 16) dX12_isAhead_16 rfl rfl ?_
    refine q_iconst (pc := 17) (v := nI 0) dX12_isAhead_17 (by decide) ?_
    refine q_callVF (pc := 18) dX12_isAhead_18 kX12_118 (c_oA hm (o := a) (k := 0) (j := 204 + 9 * a) (by omega) (by omega)) (Model_sh hm) rfl (Model_lt hm) ⟨Nat.le_of_ble_eq_true rfl, Nat.le_of_ble_eq_true rfl⟩ rfl rfl (Nat.le_of_ble_eq_true rfl) ?_
    show bq_W _ _ _ _ _ 21 _ [_] _ _ _ _ _ _
    rw [hg]
    refine q_aload_n (pc := 21) dX12_isAhead_21 rfl rfl ?_
    refine q_iload_n (pc := 22) dX12_isAhead_22 rfl rfl ?_
    refine q_iconst (pc := 23) (v := nI 0) dX12_isAhead_23 (by decide) ?_
    refine q_callVF (pc := 24) dX12_isAhead_24 kX12_118 (c_oA hm (o := b) (k := 0) (j := 204 + 9 * b) (by omega) (by omega)) (Model_sh hm) rfl (Model_lt hm) ⟨Nat.le_of_ble_eq_true rfl, Nat.le_of_ble_eq_true rfl⟩ rfl rfl (Nat.le_of_ble_eq_true rfl) ?_
    show bq_W _ _ _ _ _ 27 _ [_, _] _ _ _ _ _ _
    rw [hg]
    refine q_icmp_ge (pc := 27) 34 dX12_isAhead_27 (by decide) (fun c_27 => ?_) (fun c_27 => ?_)
    · have hno : ¬ kk g a < kk g b := fun z => (hk.mpr z).elim (fun q => absurd c_27 (Int32.not_le.mpr q)) (fun q => c_12 q.1)
      refine q_iconst (pc := 34) (v := nI 0) dX12_isAhead_34 (by decide) ?_
      exact q_zret (st := []) (pc := 35) dX12_isAhead_35 rfl (by decide) ⟨by first | rw [bq_bt hy] | rw [bq_bf hno], rfl, rfl, rfl, rfl, rfl⟩
    · have hy : kk g a < kk g b := hk.mp (Or.inl (Int32.not_le.mp c_27))
      refine q_iconst (pc := 30) (v := nI 1) dX12_isAhead_30 (by decide) ?_
      refine q_goto (pc := 31) 35 dX12_isAhead_31 (by decide) ?_
      exact q_zret (st := []) (pc := 35) dX12_isAhead_35 rfl (by decide) ⟨by first | rw [bq_bt hy] | rw [bq_bf hno], rfl, rfl, rfl, rfl, rfl⟩
set_option maxHeartbeats 3260000 in
set_option maxRecDepth 20000 in
theorem c_X12_nextOrder {S : BqH} {n : Nat} {I : BqI} {L : BqL} {P : BqP} {m : Nat} {g : BqG} (hm : oModel S n P m) (hg : I (m + 1) = g) {en : Nat} (hG : GI g en) {f sn : Nat → Bool} (hsn : ∀ o, o < 10 → I (m + 11) o = (if sn o = true then nI 1 else nI 0)) (hf : ∀ o, f o = (decide (g (208 + 9 * o) = 0) && !sn o)) : bq_Sp mX12_nextOrder 3 56 0 0 [.ref m] S n I L P (bq_F (some (.int (rn (nxt (kk g) f (gn g 2))))) S n I L P) := by
  refine q_entry (vs := [some (.ref m), none, none]) (by decide +kernel) (by simp) (Nat.le_of_ble_eq_true rfl) rfl ?_
  have hc : I (m + 1) 2 = nI (gn g 2) := by rw [hg]; exact hG.n (by decide) (by decide)
  have hcl : gn g 2 ≤ 10 := hG.2.2.2.1
  have lp : ∀ i, i ≤ gn g 2 → bq_W mX12_nextOrder 3 56 0 0 4 [some (.ref m), some (.int (rn (nxt (kk g) f i))), some (.int (nI i))] [] S n I L P (bq_F (some (.int (rn (nxt (kk g) f (gn g 2))))) S n I L P) := by
    refine bq_down (A := fun i => bq_W mX12_nextOrder 3 56 0 0 4 [some (.ref m), some (.int (rn (nxt (kk g) f i))), some (.int (nI i))] [] S n I L P (bq_F (some (.int (rn (nxt (kk g) f (gn g 2))))) S n I L P)) (gn g 2) ?_ ?_
    · refine q_iload_n (pc := 4) dX12_nextOrder_4 rfl rfl ?_
      refine q_aload_n (pc := 5) dX12_nextOrder_5 rfl rfl ?_
      refine q_getP (pc := 6) dX12_nextOrder_6 fX12_9 (Model_sh hm) ⟨by decide, rfl⟩ (Model_lt hm) (Model_p_g hm) ?_
      refine q_iconst (pc := 9) (v := nI 2) dX12_nextOrder_9 (by decide) ?_
      refine q_iald (pc := 10) dX12_nextOrder_10 (oA_sh (Model_s_g hm)) (oA_lt (Model_s_g hm)) rfl (by omega) ?_
      rw [hc]
      refine q_icmp_ge (pc := 11) 57 dX12_nextOrder_11 (by decide) (fun c_11 => ?_) (fun c_11 => absurd (nI_le (Nat.le_refl _) (by omega)) c_11)
      refine q_iload_n (pc := 57) dX12_nextOrder_57 rfl rfl ?_
      exact q_iret (st := []) (pc := 58) dX12_nextOrder_58 rfl ⟨rfl, rfl, rfl, rfl, rfl, rfl⟩
    · intro i hi ih
      have hi10 : i < 10 := by omega
      have hfi := hf i
      have hsi := hsn i hi10
      cases hr : (nxt (kk g) f i) with
      | none =>
        rw [show rn none = (-1) from rfl]
        refine q_iload_n (pc := 4) dX12_nextOrder_4 rfl rfl ?_
        refine q_aload_n (pc := 5) dX12_nextOrder_5 rfl rfl ?_
        refine q_getP (pc := 6) dX12_nextOrder_6 fX12_9 (Model_sh hm) ⟨by decide, rfl⟩ (Model_lt hm) (Model_p_g hm) ?_
        refine q_iconst (pc := 9) (v := nI 2) dX12_nextOrder_9 (by decide) ?_
        refine q_iald (pc := 10) dX12_nextOrder_10 (oA_sh (Model_s_g hm)) (oA_lt (Model_s_g hm)) rfl (by omega) ?_
        rw [hc]
        refine q_icmp_ge (pc := 11) 57 dX12_nextOrder_11 (by decide) (fun c_11 => absurd c_11 (nI_ge hi (by omega))) (fun c_11 => ?_)
        refine q_aload_n (pc := 14) dX12_nextOrder_14 rfl rfl ?_
        refine q_iload_n (pc := 15) dX12_nextOrder_15 rfl rfl ?_
        refine q_callVF (pc := 16) dX12_nextOrder_16 kX12_121 (c_isOpen_in hm hc hcl (o := i) hi) (Model_sh hm) rfl (Model_lt hm) ⟨Nat.le_of_ble_eq_true rfl, Nat.le_of_ble_eq_true rfl⟩ rfl rfl (Nat.le_of_ble_eq_true rfl) ?_
        show bq_W _ _ _ _ _ 19 _ [_] _ _ _ _ _ _
        refine q_if_eq (pc := 19) 49 dX12_nextOrder_19 (by decide) (fun c_19 => ?_) (fun c_19 => ?_)
        · replace c_19 := bq_b0.mp c_19
          rw [hg] at c_19
          have hfn : ¬ f i = true := by rw [hfi, decide_eq_false c_19]; simp
          refine q_iload_n (pc := 49) dX12_nextOrder_49 rfl rfl ?_
          refine q_istore_n (pc := 50) dX12_nextOrder_50 rfl (Nat.le_of_ble_eq_true rfl) rfl ?_
          show bq_W _ _ _ _ _ 51 [_, _, _] _ _ _ _ _ _ _
          refine q_iinc (pc := 51) (v := nI (i + 1)) dX12_nextOrder_51 rfl (bq_inc _) (Nat.le_of_ble_eq_true rfl) rfl ?_
          show bq_W _ _ _ _ _ 54 [_, _, _] _ _ _ _ _ _ _
          refine q_goto (pc := 54) 4 dX12_nextOrder_54 (by decide) ?_
          rw [nx_no hfn, hr] at ih
          exact ih
        · replace c_19 := bq_bn.mp c_19
          rw [hg] at c_19
          refine q_aload_n (pc := 22) dX12_nextOrder_22 rfl rfl ?_
          refine q_getP (pc := 23) dX12_nextOrder_23 fX12_40 (Model_sh hm) ⟨by decide, rfl⟩ (Model_lt hm) (Model_p_wasSeen hm) ?_
          refine q_iload_n (pc := 26) dX12_nextOrder_26 rfl rfl ?_
          refine q_bald (pc := 27) dX12_nextOrder_27 (oZ_sh (Model_s_wasSeen hm)) (oZ_lt (Model_s_wasSeen hm)) rfl hi10 ?_
          refine q_if_ne (pc := 28) 49 dX12_nextOrder_28 (by decide) (fun c_28 => ?_) (fun c_28 => ?_)
          · have hsy : sn i = true := by
              by_cases z : sn i = true
              · exact z
              · rw [hsi, if_neg z] at c_28; exact absurd (by decide) c_28
            have hfn : ¬ f i = true := by rw [hfi, hsy]; simp
            refine q_iload_n (pc := 49) dX12_nextOrder_49 rfl rfl ?_
            refine q_istore_n (pc := 50) dX12_nextOrder_50 rfl (Nat.le_of_ble_eq_true rfl) rfl ?_
            show bq_W _ _ _ _ _ 51 [_, _, _] _ _ _ _ _ _ _
            refine q_iinc (pc := 51) (v := nI (i + 1)) dX12_nextOrder_51 rfl (bq_inc _) (Nat.le_of_ble_eq_true rfl) rfl ?_
            show bq_W _ _ _ _ _ 54 [_, _, _] _ _ _ _ _ _ _
            refine q_goto (pc := 54) 4 dX12_nextOrder_54 (by decide) ?_
            rw [nx_no hfn, hr] at ih
            exact ih
          · have hsy : ¬ sn i = true := fun z => by rw [hsi, if_pos z] at c_28; exact absurd c_28 (by decide)
            have hfy : f i = true := by rw [hfi, decide_eq_true c_19]; simp [hsy]
            refine q_iload_n (pc := 31) dX12_nextOrder_31 rfl rfl ?_
            refine q_iconst (pc := 32) (v := (-1)) dX12_nextOrder_32 (by decide) ?_
            refine q_icmp_eq (pc := 33) 45 dX12_nextOrder_33 (by decide) (fun c_33 => ?_) (fun c_33 => (c_33 rfl).elim)
            refine q_iload_n (pc := 45) dX12_nextOrder_45 rfl rfl ?_
            refine q_goto (pc := 46) 50 dX12_nextOrder_46 (by decide) ?_
            refine q_istore_n (pc := 50) dX12_nextOrder_50 rfl (Nat.le_of_ble_eq_true rfl) rfl ?_
            show bq_W _ _ _ _ _ 51 [_, _, _] _ _ _ _ _ _ _
            refine q_iinc (pc := 51) (v := nI (i + 1)) dX12_nextOrder_51 rfl (bq_inc _) (Nat.le_of_ble_eq_true rfl) rfl ?_
            show bq_W _ _ _ _ _ 54 [_, _, _] _ _ _ _ _ _ _
            refine q_goto (pc := 54) 4 dX12_nextOrder_54 (by decide) ?_
            rw [nx_new hr hfy] at ih
            exact ih
      | some q =>
        have hqi : q < i := ((nxt_ok (kk g) f i).2 q hr).1
        rw [show rn (some q) = nI q from rfl]
        refine q_iload_n (pc := 4) dX12_nextOrder_4 rfl rfl ?_
        refine q_aload_n (pc := 5) dX12_nextOrder_5 rfl rfl ?_
        refine q_getP (pc := 6) dX12_nextOrder_6 fX12_9 (Model_sh hm) ⟨by decide, rfl⟩ (Model_lt hm) (Model_p_g hm) ?_
        refine q_iconst (pc := 9) (v := nI 2) dX12_nextOrder_9 (by decide) ?_
        refine q_iald (pc := 10) dX12_nextOrder_10 (oA_sh (Model_s_g hm)) (oA_lt (Model_s_g hm)) rfl (by omega) ?_
        rw [hc]
        refine q_icmp_ge (pc := 11) 57 dX12_nextOrder_11 (by decide) (fun c_11 => absurd c_11 (nI_ge hi (by omega))) (fun c_11 => ?_)
        refine q_aload_n (pc := 14) dX12_nextOrder_14 rfl rfl ?_
        refine q_iload_n (pc := 15) dX12_nextOrder_15 rfl rfl ?_
        refine q_callVF (pc := 16) dX12_nextOrder_16 kX12_121 (c_isOpen_in hm hc hcl (o := i) hi) (Model_sh hm) rfl (Model_lt hm) ⟨Nat.le_of_ble_eq_true rfl, Nat.le_of_ble_eq_true rfl⟩ rfl rfl (Nat.le_of_ble_eq_true rfl) ?_
        show bq_W _ _ _ _ _ 19 _ [_] _ _ _ _ _ _
        refine q_if_eq (pc := 19) 49 dX12_nextOrder_19 (by decide) (fun c_19 => ?_) (fun c_19 => ?_)
        · replace c_19 := bq_b0.mp c_19
          rw [hg] at c_19
          have hfn : ¬ f i = true := by rw [hfi, decide_eq_false c_19]; simp
          refine q_iload_n (pc := 49) dX12_nextOrder_49 rfl rfl ?_
          refine q_istore_n (pc := 50) dX12_nextOrder_50 rfl (Nat.le_of_ble_eq_true rfl) rfl ?_
          show bq_W _ _ _ _ _ 51 [_, _, _] _ _ _ _ _ _ _
          refine q_iinc (pc := 51) (v := nI (i + 1)) dX12_nextOrder_51 rfl (bq_inc _) (Nat.le_of_ble_eq_true rfl) rfl ?_
          show bq_W _ _ _ _ _ 54 [_, _, _] _ _ _ _ _ _ _
          refine q_goto (pc := 54) 4 dX12_nextOrder_54 (by decide) ?_
          rw [nx_no hfn, hr] at ih
          exact ih
        · replace c_19 := bq_bn.mp c_19
          rw [hg] at c_19
          refine q_aload_n (pc := 22) dX12_nextOrder_22 rfl rfl ?_
          refine q_getP (pc := 23) dX12_nextOrder_23 fX12_40 (Model_sh hm) ⟨by decide, rfl⟩ (Model_lt hm) (Model_p_wasSeen hm) ?_
          refine q_iload_n (pc := 26) dX12_nextOrder_26 rfl rfl ?_
          refine q_bald (pc := 27) dX12_nextOrder_27 (oZ_sh (Model_s_wasSeen hm)) (oZ_lt (Model_s_wasSeen hm)) rfl hi10 ?_
          refine q_if_ne (pc := 28) 49 dX12_nextOrder_28 (by decide) (fun c_28 => ?_) (fun c_28 => ?_)
          · have hsy : sn i = true := by
              by_cases z : sn i = true
              · exact z
              · rw [hsi, if_neg z] at c_28; exact absurd (by decide) c_28
            have hfn : ¬ f i = true := by rw [hfi, hsy]; simp
            refine q_iload_n (pc := 49) dX12_nextOrder_49 rfl rfl ?_
            refine q_istore_n (pc := 50) dX12_nextOrder_50 rfl (Nat.le_of_ble_eq_true rfl) rfl ?_
            show bq_W _ _ _ _ _ 51 [_, _, _] _ _ _ _ _ _ _
            refine q_iinc (pc := 51) (v := nI (i + 1)) dX12_nextOrder_51 rfl (bq_inc _) (Nat.le_of_ble_eq_true rfl) rfl ?_
            show bq_W _ _ _ _ _ 54 [_, _, _] _ _ _ _ _ _ _
            refine q_goto (pc := 54) 4 dX12_nextOrder_54 (by decide) ?_
            rw [nx_no hfn, hr] at ih
            exact ih
          · have hsy : ¬ sn i = true := fun z => by rw [hsi, if_pos z] at c_28; exact absurd c_28 (by decide)
            have hfy : f i = true := by rw [hfi, decide_eq_true c_19]; simp [hsy]
            refine q_iload_n (pc := 31) dX12_nextOrder_31 rfl rfl ?_
            refine q_iconst (pc := 32) (v := (-1)) dX12_nextOrder_32 (by decide) ?_
            refine q_icmp_eq (pc := 33) 45 dX12_nextOrder_33 (by decide) (fun c_33 => (rn_ne (by omega) c_33).elim) (fun c_33 => ?_)
            refine q_aload_n (pc := 36) dX12_nextOrder_36 rfl rfl ?_
            refine q_iload_n (pc := 37) dX12_nextOrder_37 rfl rfl ?_
            refine q_iload_n (pc := 38) dX12_nextOrder_38 rfl rfl ?_
            refine q_callVF (pc := 39) dX12_nextOrder_39 kX12_153 (c_X12_isAhead hm hg hG (a := i) (b := q) hi10 (by omega)) (Model_sh hm) rfl (Model_lt hm) ⟨Nat.le_of_ble_eq_true rfl, Nat.le_of_ble_eq_true rfl⟩ rfl rfl (Nat.le_of_ble_eq_true rfl) ?_
            show bq_W _ _ _ _ _ 42 _ [_] _ _ _ _ _ _
            refine q_if_eq (pc := 42) 49 dX12_nextOrder_42 (by decide) (fun c_42 => ?_) (fun c_42 => ?_)
            · replace c_42 := bq_b0.mp c_42
              have hge : ¬ (f i = true ∧ kk g i < kk g q) := fun z => c_42 z.2
              refine q_iload_n (pc := 49) dX12_nextOrder_49 rfl rfl ?_
              refine q_istore_n (pc := 50) dX12_nextOrder_50 rfl (Nat.le_of_ble_eq_true rfl) rfl ?_
              show bq_W _ _ _ _ _ 51 [_, _, _] _ _ _ _ _ _ _
              refine q_iinc (pc := 51) (v := nI (i + 1)) dX12_nextOrder_51 rfl (bq_inc _) (Nat.le_of_ble_eq_true rfl) rfl ?_
              show bq_W _ _ _ _ _ 54 [_, _, _] _ _ _ _ _ _ _
              refine q_goto (pc := 54) 4 dX12_nextOrder_54 (by decide) ?_
              rw [nx_ge hr hge] at ih
              exact ih
            · replace c_42 := bq_bn.mp c_42
              have hlt := c_42
              refine q_iload_n (pc := 45) dX12_nextOrder_45 rfl rfl ?_
              refine q_goto (pc := 46) 50 dX12_nextOrder_46 (by decide) ?_
              refine q_istore_n (pc := 50) dX12_nextOrder_50 rfl (Nat.le_of_ble_eq_true rfl) rfl ?_
              show bq_W _ _ _ _ _ 51 [_, _, _] _ _ _ _ _ _ _
              refine q_iinc (pc := 51) (v := nI (i + 1)) dX12_nextOrder_51 rfl (bq_inc _) (Nat.le_of_ble_eq_true rfl) rfl ?_
              show bq_W _ _ _ _ _ 54 [_, _, _] _ _ _ _ _ _ _
              refine q_goto (pc := 54) 4 dX12_nextOrder_54 (by decide) ?_
              rw [nx_lt hr hfy hlt] at ih
              exact ih
  refine q_iconst (pc := 0) (v := (-1)) dX12_nextOrder_0 (by decide) ?_
  refine q_istore_n (pc := 1) dX12_nextOrder_1 rfl (Nat.le_of_ble_eq_true rfl) rfl ?_
  show bq_W _ _ _ _ _ 2 [_, _, _] _ _ _ _ _ _ _
  refine q_iconst (pc := 2) (v := nI 0) dX12_nextOrder_2 (by decide) ?_
  refine q_istore_n (pc := 3) dX12_nextOrder_3 rfl (Nat.le_of_ble_eq_true rfl) rfl ?_
  show bq_W _ _ _ _ _ 4 [_, _, _] _ _ _ _ _ _ _
  exact lp 0 (Nat.zero_le _)
set_option maxHeartbeats 1000000 in
set_option maxRecDepth 20000 in
theorem c_X12_looksAtPlan {S : BqH} {n : Nat} {I : BqI} {L : BqL} {P : BqP} {m : Nat} (hm : oModel S n P m) {t : Nat} (ht : t < 6) : bq_Sp mX12_looksAtPlan 1 12 0 0 [.ref m, .int (nI t)] S n I L P (bq_F (none) S n (fl I (m + 6) (fun j => j) (fun j => I (m + 12) (16 * t + j)) 16) L P) := by
  refine q_entry (vs := [some (.ref m), some (.int (nI t)), none]) (by decide +kernel) (by simp) (Nat.le_of_ble_eq_true rfl) rfl ?_
  have lp : ∀ i, i ≤ 16 → bq_W mX12_looksAtPlan 1 12 0 0 2 [some (.ref m), some (.int (nI t)), some (.int (nI i))] [] S n (fl I (m + 6) (fun j => j) (fun j => I (m + 12) (16 * t + j)) i) L P (bq_F (none) S n (fl I (m + 6) (fun j => j) (fun j => I (m + 12) (16 * t + j)) 16) L P) := by
    refine bq_down (A := fun i => bq_W mX12_looksAtPlan 1 12 0 0 2 [some (.ref m), some (.int (nI t)), some (.int (nI i))] [] S n (fl I (m + 6) (fun j => j) (fun j => I (m + 12) (16 * t + j)) i) L P (bq_F (none) S n (fl I (m + 6) (fun j => j) (fun j => I (m + 12) (16 * t + j)) 16) L P)) 16 ?_ ?_
    · refine q_iload_n (pc := 2) dX12_looksAtPlan_2 rfl rfl ?_
      refine q_bipush (pc := 3) (v := nI 16) dX12_looksAtPlan_3 (by decide) ?_
      refine q_icmp_ge (pc := 5) 31 dX12_looksAtPlan_5 (by decide) (fun c_5 => ?_) (fun c_5 => absurd (by decide) c_5)
      exact q_vret (st := []) (pc := 31) dX12_looksAtPlan_31 rfl ⟨rfl, rfl, rfl, rfl, rfl, rfl⟩
    · intro i hi ih
      refine q_iload_n (pc := 2) dX12_looksAtPlan_2 rfl rfl ?_
      refine q_bipush (pc := 3) (v := nI 16) dX12_looksAtPlan_3 (by decide) ?_
      refine q_icmp_ge (pc := 5) 31 dX12_looksAtPlan_5 (by decide) (fun c_5 => absurd c_5 (nI_ge hi (by decide))) (fun c_5 => ?_)
      refine q_aload_n (pc := 8) dX12_looksAtPlan_8 rfl rfl ?_
      refine q_getP (pc := 9) dX12_looksAtPlan_9 fX12_25 (Model_sh hm) ⟨by decide, rfl⟩ (Model_lt hm) (Model_p_there hm) ?_
      refine q_iload_n (pc := 12) dX12_looksAtPlan_12 rfl rfl ?_
      refine q_aload_n (pc := 13) dX12_looksAtPlan_13 rfl rfl ?_
      refine q_getP (pc := 14) dX12_looksAtPlan_14 fX12_44 (Model_sh hm) ⟨by decide, rfl⟩ (Model_lt hm) (Model_p_planned hm) ?_
      refine q_bipush (pc := 17) (v := nI 16) dX12_looksAtPlan_17 (by decide) ?_
      refine q_iload_n (pc := 19) dX12_looksAtPlan_19 rfl rfl ?_
      refine q_imulN (pc := 20) dX12_looksAtPlan_20 ?_
      refine q_iload_n (pc := 21) dX12_looksAtPlan_21 rfl rfl ?_
      refine q_iaddN (pc := 22) dX12_looksAtPlan_22 ?_
      refine q_iald (pc := 23) dX12_looksAtPlan_23 (oA_sh (Model_s_planned hm)) (oA_lt (Model_s_planned hm)) rfl (by omega) ?_
      rw [fl_ne (show m + 12 ≠ m + 6 by omega) i]
      refine q_iast (pc := 24) dX12_looksAtPlan_24 (oA_sh (Model_s_there hm)) (oA_lt (Model_s_there hm)) rfl (by omega) ?_
      refine q_iinc (pc := 25) (v := nI (i + 1)) dX12_looksAtPlan_25 rfl (bq_inc _) (Nat.le_of_ble_eq_true rfl) rfl ?_
      show bq_W _ _ _ _ _ 28 [_, _, _] _ _ _ _ _ _ _
      refine q_goto (pc := 28) 2 dX12_looksAtPlan_28 (by decide) ?_
      exact ih
  refine q_iconst (pc := 0) (v := nI 0) dX12_looksAtPlan_0 (by decide) ?_
  refine q_istore_n (pc := 1) dX12_looksAtPlan_1 rfl (Nat.le_of_ble_eq_true rfl) rfl ?_
  show bq_W _ _ _ _ _ 2 [_, _, _] _ _ _ _ _ _ _
  exact lp 0 (by decide)
set_option maxHeartbeats 3240000 in
set_option maxRecDepth 20000 in
theorem c_X12_tankFor {S : BqH} {n : Nat} {I : BqI} {L : BqL} {P : BqP} {m : Nat} {g : BqG} (hm : oModel S n P m) (hg : I (m + 1) = g) {en : Nat} (hG : GI g en) {o : Nat} {F : Nat → Nat → Nat} (ho : o < 10) (hl1 : 1 ≤ gn g (205 + 9 * o)) (hF : ∀ t, t < 6 → ∀ j, j < 16 → I (m + 12) (16 * t + j) = nI (F t j)) (hb : ∀ t, t < 6 → ns (F t) 16 ≤ 9999) : bq_Sp mX12_tankFor 5 98 0 0 [.ref m, .int (nI o)] S n I L P (qTf m I S n L P (rn (bt g o F 6))) := by
  refine q_entry (vs := [some (.ref m), some (.int (nI o)), none, none, none]) (by decide +kernel) (by simp) (Nat.le_of_ble_eq_true rfl) rfl ?_
  have lp : ∀ i, i ≤ 6 → ∀ J : BqI, (∀ a, a ≠ m + 6 → J a = I a) → bq_W mX12_tankFor 5 98 0 0 7 [some (.ref m), some (.int (nI o)), some (.int (rn (bt g o F i))), some (.int (few F (bt g o F i))), some (.int (nI i))] [] S n J L P (qTf m I S n L P (rn (bt g o F 6))) := by
    refine bq_down (A := fun i => ∀ J : BqI, (∀ a, a ≠ m + 6 → J a = I a) → bq_W mX12_tankFor 5 98 0 0 7 [some (.ref m), some (.int (nI o)), some (.int (rn (bt g o F i))), some (.int (few F (bt g o F i))), some (.int (nI i))] [] S n J L P (qTf m I S n L P (rn (bt g o F 6)))) 6 ?_ ?_
    · intro J hJ
      refine q_iload (pc := 7) dX12_tankFor_7 rfl ?_
      refine q_bipush (pc := 9) (v := nI 6) dX12_tankFor_9 (by decide) ?_
      refine q_icmp_ge (pc := 11) 71 dX12_tankFor_11 (by decide) (fun c_11 => ?_) (fun c_11 => absurd (by decide) c_11)
      refine q_iload_n (pc := 71) dX12_tankFor_71 rfl rfl ?_
      exact q_iret (st := []) (pc := 72) dX12_tankFor_72 rfl ⟨rfl, rfl, rfl, rfl, rfl, hJ⟩
    · intro i hi ih J hJ
      have hsb := hb i hi
      cases hr : (bt g o F i) with
      | none =>
        rw [show rn none = (-1) from rfl]
        refine q_iload (pc := 7) dX12_tankFor_7 rfl ?_
        refine q_bipush (pc := 9) (v := nI 6) dX12_tankFor_9 (by decide) ?_
        refine q_icmp_ge (pc := 11) 71 dX12_tankFor_11 (by decide) (fun c_11 => absurd c_11 (nI_ge hi (by decide))) (fun c_11 => ?_)
        refine q_aload_n (pc := 14) dX12_tankFor_14 rfl rfl ?_
        refine q_iload (pc := 15) dX12_tankFor_15 rfl ?_
        refine q_callVF (pc := 17) dX12_tankFor_17 kX12_157 (c_X12_looksAtPlan hm (t := i) (by omega)) (Model_sh hm) rfl (Model_lt hm) ⟨Nat.le_of_ble_eq_true rfl, Nat.le_of_ble_eq_true rfl⟩ rfl rfl (Nat.le_of_ble_eq_true rfl) ?_
        show bq_W _ _ _ _ _ 20 _ [] _ _ _ _ _ _
        refine q_nameI (fun J2 e2 => ?_)
        have hJ2 : ∀ a, a ≠ m + 6 → J2 a = I a := fun a ha => by rw [e2, fl_ne ha 16]; exact hJ a ha
        have h6 : ∀ j, j < 16 → J2 (m + 6) j = nI (F i j) := fun j hj => by rw [e2]; exact (fl_at (I := J) (d := m + 6) (ix := fun j => j) (v := fun j => J (m + 12) (16 * i + j)) (j := j) 16 (fun a b _ _ h => h) hj).trans (by rw [hJ _ (by omega)]; exact hF i hi j hj)
        have hs2 : bq_sum (J2 (m + 6)) 16 = nI (ns (F i) 16) := bq_sum_n 16 h6
        have hg2 : J2 (m + 1) = g := by rw [hJ2 _ (by omega)]; exact hg
        have hst : bq_str (J2 (m + 6)) (fun b => g (124 + 5 * b)) = bq_str (fun j => nI (F i j)) (fun b => g (124 + 5 * b)) := bq_str_congr h6 (fun _ _ => rfl)
        refine q_aload_n (pc := 20) dX12_tankFor_20 rfl rfl ?_
        refine q_getP (pc := 21) dX12_tankFor_21 fX12_25 (Model_sh hm) ⟨by decide, rfl⟩ (Model_lt hm) (Model_p_there hm) ?_
        refine q_callSF (pc := 24) dX12_tankFor_24 kX12_84 (c_X12_sumOf (Model_s_there hm)) ⟨Nat.le_of_ble_eq_true rfl, Nat.le_of_ble_eq_true rfl⟩ rfl rfl (Nat.le_of_ble_eq_true rfl) ?_
        show bq_W _ _ _ _ _ 27 _ [_] _ _ _ _ _ _
        rw [hs2]
        refine q_if_le (pc := 27) 65 dX12_tankFor_27 (by decide) (fun c_27 => ?_) (fun c_27 => ?_)
        · have hno : ¬ fit g o (F i) = true := fit_1 (by rcases Nat.eq_zero_or_pos (ns (F i) 16) with z | z; omega; exact absurd c_27 (nI_nle z (by omega)))
          refine q_iinc (pc := 65) (v := nI (i + 1)) dX12_tankFor_65 rfl (bq_inc _) (Nat.le_of_ble_eq_true rfl) rfl ?_
          show bq_W _ _ _ _ _ 68 [_, _, _, _, _] _ _ _ _ _ _ _
          refine q_goto (pc := 68) 7 dX12_tankFor_68 (by decide) ?_
          rw [bt_no hno, hr] at ih
          exact ih J2 hJ2
        · have hpos : 0 < ns (F i) 16 := by
            rcases Nat.eq_zero_or_pos (ns (F i) 16) with z | z
            · exact absurd (by rw [z]; decide) c_27
            · exact z
          refine q_aload_n (pc := 30) dX12_tankFor_30 rfl rfl ?_
          refine q_iload_n (pc := 31) dX12_tankFor_31 rfl rfl ?_
          refine q_callVF (pc := 32) dX12_tankFor_32 kX12_146 (c_X12_hinders hm hg2 hG ho h6 hpos hsb) (Model_sh hm) rfl (Model_lt hm) ⟨Nat.le_of_ble_eq_true rfl, Nat.le_of_ble_eq_true rfl⟩ rfl rfl (Nat.le_of_ble_eq_true rfl) ?_
          show bq_W _ _ _ _ _ 35 _ [_] _ _ _ _ _ _
          rw [hst]
          refine q_if_ne (pc := 35) 65 dX12_tankFor_35 (by decide) (fun c_35 => ?_) (fun c_35 => ?_)
          · have hno : ¬ fit g o (F i) = true := fun z => c_35 (hnd_f z)
            refine q_iinc (pc := 65) (v := nI (i + 1)) dX12_tankFor_65 rfl (bq_inc _) (Nat.le_of_ble_eq_true rfl) rfl ?_
            show bq_W _ _ _ _ _ 68 [_, _, _, _, _] _ _ _ _ _ _ _
            refine q_goto (pc := 68) 7 dX12_tankFor_68 (by decide) ?_
            rw [bt_no hno, hr] at ih
            exact ih J2 hJ2
          · have hfit : fit g o (F i) = true := hnd_t c_35
            refine q_iload_n (pc := 38) dX12_tankFor_38 rfl rfl ?_
            refine q_iconst (pc := 39) (v := (-1)) dX12_tankFor_39 (by decide) ?_
            refine q_icmp_eq (pc := 40) 54 dX12_tankFor_40 (by decide) (fun c_40 => ?_) (fun c_40 => (c_40 rfl).elim)
            refine q_iload (pc := 54) dX12_tankFor_54 rfl ?_
            refine q_istore_n (pc := 56) dX12_tankFor_56 rfl (Nat.le_of_ble_eq_true rfl) rfl ?_
            show bq_W _ _ _ _ _ 57 [_, _, _, _, _] _ _ _ _ _ _ _
            refine q_aload_n (pc := 57) dX12_tankFor_57 rfl rfl ?_
            refine q_getP (pc := 58) dX12_tankFor_58 fX12_25 (Model_sh hm) ⟨by decide, rfl⟩ (Model_lt hm) (Model_p_there hm) ?_
            refine q_callSF (pc := 61) dX12_tankFor_61 kX12_84 (c_X12_sumOf (Model_s_there hm)) ⟨Nat.le_of_ble_eq_true rfl, Nat.le_of_ble_eq_true rfl⟩ rfl rfl (Nat.le_of_ble_eq_true rfl) ?_
            show bq_W _ _ _ _ _ 64 _ [_] _ _ _ _ _ _
            rw [hs2]
            refine q_istore_n (pc := 64) dX12_tankFor_64 rfl (Nat.le_of_ble_eq_true rfl) rfl ?_
            show bq_W _ _ _ _ _ 65 [_, _, _, _, _] _ _ _ _ _ _ _
            refine q_iinc (pc := 65) (v := nI (i + 1)) dX12_tankFor_65 rfl (bq_inc _) (Nat.le_of_ble_eq_true rfl) rfl ?_
            show bq_W _ _ _ _ _ 68 [_, _, _, _, _] _ _ _ _ _ _ _
            refine q_goto (pc := 68) 7 dX12_tankFor_68 (by decide) ?_
            rw [bt_new hr hfit] at ih
            exact ih J2 hJ2
      | some q =>
        have hq6 : q < 6 := Nat.lt_trans (bt_ok hr).1 hi
        have hqb := hb q hq6
        rw [show rn (some q) = nI q from rfl, show few F (some q) = nI (ns (F q) 16) from rfl]
        refine q_iload (pc := 7) dX12_tankFor_7 rfl ?_
        refine q_bipush (pc := 9) (v := nI 6) dX12_tankFor_9 (by decide) ?_
        refine q_icmp_ge (pc := 11) 71 dX12_tankFor_11 (by decide) (fun c_11 => absurd c_11 (nI_ge hi (by decide))) (fun c_11 => ?_)
        refine q_aload_n (pc := 14) dX12_tankFor_14 rfl rfl ?_
        refine q_iload (pc := 15) dX12_tankFor_15 rfl ?_
        refine q_callVF (pc := 17) dX12_tankFor_17 kX12_157 (c_X12_looksAtPlan hm (t := i) (by omega)) (Model_sh hm) rfl (Model_lt hm) ⟨Nat.le_of_ble_eq_true rfl, Nat.le_of_ble_eq_true rfl⟩ rfl rfl (Nat.le_of_ble_eq_true rfl) ?_
        show bq_W _ _ _ _ _ 20 _ [] _ _ _ _ _ _
        refine q_nameI (fun J2 e2 => ?_)
        have hJ2 : ∀ a, a ≠ m + 6 → J2 a = I a := fun a ha => by rw [e2, fl_ne ha 16]; exact hJ a ha
        have h6 : ∀ j, j < 16 → J2 (m + 6) j = nI (F i j) := fun j hj => by rw [e2]; exact (fl_at (I := J) (d := m + 6) (ix := fun j => j) (v := fun j => J (m + 12) (16 * i + j)) (j := j) 16 (fun a b _ _ h => h) hj).trans (by rw [hJ _ (by omega)]; exact hF i hi j hj)
        have hs2 : bq_sum (J2 (m + 6)) 16 = nI (ns (F i) 16) := bq_sum_n 16 h6
        have hg2 : J2 (m + 1) = g := by rw [hJ2 _ (by omega)]; exact hg
        have hst : bq_str (J2 (m + 6)) (fun b => g (124 + 5 * b)) = bq_str (fun j => nI (F i j)) (fun b => g (124 + 5 * b)) := bq_str_congr h6 (fun _ _ => rfl)
        refine q_aload_n (pc := 20) dX12_tankFor_20 rfl rfl ?_
        refine q_getP (pc := 21) dX12_tankFor_21 fX12_25 (Model_sh hm) ⟨by decide, rfl⟩ (Model_lt hm) (Model_p_there hm) ?_
        refine q_callSF (pc := 24) dX12_tankFor_24 kX12_84 (c_X12_sumOf (Model_s_there hm)) ⟨Nat.le_of_ble_eq_true rfl, Nat.le_of_ble_eq_true rfl⟩ rfl rfl (Nat.le_of_ble_eq_true rfl) ?_
        show bq_W _ _ _ _ _ 27 _ [_] _ _ _ _ _ _
        rw [hs2]
        refine q_if_le (pc := 27) 65 dX12_tankFor_27 (by decide) (fun c_27 => ?_) (fun c_27 => ?_)
        · have hno : ¬ fit g o (F i) = true := fit_1 (by rcases Nat.eq_zero_or_pos (ns (F i) 16) with z | z; omega; exact absurd c_27 (nI_nle z (by omega)))
          refine q_iinc (pc := 65) (v := nI (i + 1)) dX12_tankFor_65 rfl (bq_inc _) (Nat.le_of_ble_eq_true rfl) rfl ?_
          show bq_W _ _ _ _ _ 68 [_, _, _, _, _] _ _ _ _ _ _ _
          refine q_goto (pc := 68) 7 dX12_tankFor_68 (by decide) ?_
          rw [bt_no hno, hr] at ih
          exact ih J2 hJ2
        · have hpos : 0 < ns (F i) 16 := by
            rcases Nat.eq_zero_or_pos (ns (F i) 16) with z | z
            · exact absurd (by rw [z]; decide) c_27
            · exact z
          refine q_aload_n (pc := 30) dX12_tankFor_30 rfl rfl ?_
          refine q_iload_n (pc := 31) dX12_tankFor_31 rfl rfl ?_
          refine q_callVF (pc := 32) dX12_tankFor_32 kX12_146 (c_X12_hinders hm hg2 hG ho h6 hpos hsb) (Model_sh hm) rfl (Model_lt hm) ⟨Nat.le_of_ble_eq_true rfl, Nat.le_of_ble_eq_true rfl⟩ rfl rfl (Nat.le_of_ble_eq_true rfl) ?_
          show bq_W _ _ _ _ _ 35 _ [_] _ _ _ _ _ _
          rw [hst]
          refine q_if_ne (pc := 35) 65 dX12_tankFor_35 (by decide) (fun c_35 => ?_) (fun c_35 => ?_)
          · have hno : ¬ fit g o (F i) = true := fun z => c_35 (hnd_f z)
            refine q_iinc (pc := 65) (v := nI (i + 1)) dX12_tankFor_65 rfl (bq_inc _) (Nat.le_of_ble_eq_true rfl) rfl ?_
            show bq_W _ _ _ _ _ 68 [_, _, _, _, _] _ _ _ _ _ _ _
            refine q_goto (pc := 68) 7 dX12_tankFor_68 (by decide) ?_
            rw [bt_no hno, hr] at ih
            exact ih J2 hJ2
          · have hfit : fit g o (F i) = true := hnd_t c_35
            refine q_iload_n (pc := 38) dX12_tankFor_38 rfl rfl ?_
            refine q_iconst (pc := 39) (v := (-1)) dX12_tankFor_39 (by decide) ?_
            refine q_icmp_eq (pc := 40) 54 dX12_tankFor_40 (by decide) (fun c_40 => (rn_ne (by omega) c_40).elim) (fun c_40 => ?_)
            refine q_aload_n (pc := 43) dX12_tankFor_43 rfl rfl ?_
            refine q_getP (pc := 44) dX12_tankFor_44 fX12_25 (Model_sh hm) ⟨by decide, rfl⟩ (Model_lt hm) (Model_p_there hm) ?_
            refine q_callSF (pc := 47) dX12_tankFor_47 kX12_84 (c_X12_sumOf (Model_s_there hm)) ⟨Nat.le_of_ble_eq_true rfl, Nat.le_of_ble_eq_true rfl⟩ rfl rfl (Nat.le_of_ble_eq_true rfl) ?_
            show bq_W _ _ _ _ _ 50 _ [_] _ _ _ _ _ _
            rw [hs2]
            refine q_iload_n (pc := 50) dX12_tankFor_50 rfl rfl ?_
            refine q_icmp_ge (pc := 51) 65 dX12_tankFor_51 (by decide) (fun c_51 => ?_) (fun c_51 => ?_)
            · have hge : ¬ ns (F i) 16 < ns (F q) 16 := fun z => nI_ge z (by omega) c_51
              refine q_iinc (pc := 65) (v := nI (i + 1)) dX12_tankFor_65 rfl (bq_inc _) (Nat.le_of_ble_eq_true rfl) rfl ?_
              show bq_W _ _ _ _ _ 68 [_, _, _, _, _] _ _ _ _ _ _ _
              refine q_goto (pc := 68) 7 dX12_tankFor_68 (by decide) ?_
              rw [bt_ge hr hfit hge] at ih
              exact ih J2 hJ2
            · have hlt : ns (F i) 16 < ns (F q) 16 := Nat.lt_of_not_le (fun z => c_51 (nI_le z (by omega)))
              refine q_iload (pc := 54) dX12_tankFor_54 rfl ?_
              refine q_istore_n (pc := 56) dX12_tankFor_56 rfl (Nat.le_of_ble_eq_true rfl) rfl ?_
              show bq_W _ _ _ _ _ 57 [_, _, _, _, _] _ _ _ _ _ _ _
              refine q_aload_n (pc := 57) dX12_tankFor_57 rfl rfl ?_
              refine q_getP (pc := 58) dX12_tankFor_58 fX12_25 (Model_sh hm) ⟨by decide, rfl⟩ (Model_lt hm) (Model_p_there hm) ?_
              refine q_callSF (pc := 61) dX12_tankFor_61 kX12_84 (c_X12_sumOf (Model_s_there hm)) ⟨Nat.le_of_ble_eq_true rfl, Nat.le_of_ble_eq_true rfl⟩ rfl rfl (Nat.le_of_ble_eq_true rfl) ?_
              show bq_W _ _ _ _ _ 64 _ [_] _ _ _ _ _ _
              rw [hs2]
              refine q_istore_n (pc := 64) dX12_tankFor_64 rfl (Nat.le_of_ble_eq_true rfl) rfl ?_
              show bq_W _ _ _ _ _ 65 [_, _, _, _, _] _ _ _ _ _ _ _
              refine q_iinc (pc := 65) (v := nI (i + 1)) dX12_tankFor_65 rfl (bq_inc _) (Nat.le_of_ble_eq_true rfl) rfl ?_
              show bq_W _ _ _ _ _ 68 [_, _, _, _, _] _ _ _ _ _ _ _
              refine q_goto (pc := 68) 7 dX12_tankFor_68 (by decide) ?_
              rw [bt_lt hr hfit hlt] at ih
              exact ih J2 hJ2
  refine q_iconst (pc := 0) (v := (-1)) dX12_tankFor_0 (by decide) ?_
  refine q_istore_n (pc := 1) dX12_tankFor_1 rfl (Nat.le_of_ble_eq_true rfl) rfl ?_
  show bq_W _ _ _ _ _ 2 [_, _, _, _, _] _ _ _ _ _ _ _
  refine q_iconst (pc := 2) (v := nI 0) dX12_tankFor_2 (by decide) ?_
  refine q_istore_n (pc := 3) dX12_tankFor_3 rfl (Nat.le_of_ble_eq_true rfl) rfl ?_
  show bq_W _ _ _ _ _ 4 [_, _, _, _, _] _ _ _ _ _ _ _
  refine q_iconst (pc := 4) (v := nI 0) dX12_tankFor_4 (by decide) ?_
  refine q_istore (pc := 5) dX12_tankFor_5 (Nat.le_of_ble_eq_true rfl) rfl ?_
  show bq_W _ _ _ _ _ 7 [_, _, _, _, _] _ _ _ _ _ _ _
  exact lp 0 (by decide) I (fun _ _ => rfl)
