/-! the model's moves -/
theorem g_sub_congr {g : BqG} {t : Nat} {T T' : Nat → Int32} (h : ∀ j, j < 16 → T j = T' j) : g_sub g t T = g_sub g t T' := by
  funext k
  unfold g_sub
  by_cases c : 13 + 19 * t ≤ k ∧ k < 29 + 19 * t
  · rw [if_pos c, if_pos c, h _ (by omega)]
  · rw [if_neg c, if_neg c]
theorem g_add_congr {g : BqG} {t : Nat} {T T' : Nat → Int32} (h : ∀ j, j < 16 → T j = T' j) : g_add g t T = g_add g t T' := by
  funext k
  unfold g_add
  by_cases c : 13 + 19 * t ≤ k ∧ k < 29 + 19 * t
  · rw [if_pos c, if_pos c, h _ (by omega)]
  · rw [if_neg c, if_neg c]
theorem g_out_congr {g : BqG} {t : Nat} {T T' : Nat → Int32} (h : ∀ j, j < 16 → T j = T' j) : g_out g t T = g_out g t T' := by
  unfold g_out; rw [g_sub_congr h]
theorem g_in_congr {g : BqG} {t : Nat} {T T' : Nat → Int32} (h : ∀ j, j < 16 → T j = T' j) : g_in g t T = g_in g t T' := by
  unfold g_in; rw [g_add_congr h]
theorem g_badd_congr {g : BqG} {i : Nat} {T T' : Nat → Int32} (h : ∀ j, j < 16 → T j = T' j) : g_badd g i T = g_badd g i T' := by
  funext k
  unfold g_badd
  by_cases c : 124 ≤ k ∧ k < 204 ∧ (k - 124) % 5 = i
  · rw [if_pos c, if_pos c, h _ (by omega)]
  · rw [if_neg c, if_neg c]
theorem g_loss_congr {g : BqG} {c r : Nat} {a b : Int32} {T T' : Nat → Int32} (h : ∀ j, j < 16 → T j = T' j) : g_loss g c T a b r = g_loss g c T' a b r := by
  unfold g_loss; rw [g_badd_congr h]
theorem bq_r_id {α : Type} {f : Nat → α} {k : Nat} : bq_r f k (f k) = f := by
  funext q
  by_cases c : q = k
  · subst c; exact bq_r_self
  · exact bq_r_ne c
theorem ad_fl {I : BqI} {m t : Nat} : fl I (m + 1) (fun j => 10 + 19 * t + 3 + j) (fun j => I (m + 1) (10 + 19 * t + 3 + j) + (I (m + 6) j - I (m + 7) j)) 16 = bq_r I (m + 1) (g_add (I (m + 1)) t (fun j => I (m + 6) j - I (m + 7) j)) := by
  refine fl_row (fun a b _ _ h => by first | omega | (dsimp only at h; omega)) (fun j hj => ?_) (fun q hq => ?_)
  · show g_add _ _ _ (10 + 19 * t + 3 + j) = _
    unfold g_add
    rw [if_pos (by omega), show 10 + 19 * t + 3 + j - (13 + 19 * t) = j by omega]
  · refine g_add_ne ?_
    rcases Nat.lt_or_ge q (13 + 19 * t) with h | h
    · exact Or.inl h
    · refine Or.inr (Nat.le_of_not_lt fun h2 => hq (q - (13 + 19 * t)) (by omega) ?_)
      show 10 + 19 * t + 3 + (q - (13 + 19 * t)) = q
      omega
/-- alike but for the tanks -/
def Loc (g' g : BqG) : Prop := ∀ k, k < 10 ∨ 124 ≤ k → g' k = g k
theorem Loc.r {g' g : BqG} (h : Loc g' g) (j : Nat) {v v' : Int32} (e : v' = v) : Loc (bq_r g' j v') (bq_r g j v) := fun k hk => by
  by_cases c : k = j
  · subst c; rw [bq_r_self, bq_r_self, e]
  · rw [bq_r_ne c, bq_r_ne c, h k hk]
theorem Loc.badd {g' g : BqG} (h : Loc g' g) (i : Nat) (T : Nat → Int32) : Loc (g_badd g' i T) (g_badd g i T) := fun k hk => by
  unfold g_badd
  by_cases c : 124 ≤ k ∧ k < 204 ∧ (k - 124) % 5 = i
  · rw [if_pos c, if_pos c, h k hk]
  · rw [if_neg c, if_neg c, h k hk]
theorem Loc.note {g' g : BqG} (h : Loc g' g) (c : Nat) (k t l : Int32) : Loc (g_note g' c k t l) (g_note g c k t l) := by
  unfold g_note
  refine Loc.r ?_ 5 (by rw [h 5 (by omega)])
  unfold g_ent
  by_cases hc : c < 80
  · rw [if_pos hc, if_pos hc]; exact (((h.r _ (h 0 (by omega))).r _ rfl).r _ rfl).r _ rfl
  · rw [if_neg hc, if_neg hc]; exact h
theorem Loc.loss {g' g : BqG} (h : Loc g' g) (c r : Nat) (T : Nat → Int32) (t l : Int32) : Loc (g_loss g' c T t l r) (g_loss g c T t l r) := by
  unfold g_loss
  exact ((h.badd 3 T).r _ (by rw [h (324 + r) (by omega)])).note c _ _ _
theorem Loc.in {g : BqG} {t : Nat} {D : Nat → Int32} (ht : t < 6) : Loc (g_in g t D) g := fun k hk => g_in_ne (by omega) (by omega)
/-- the moves change places: first lost, then taken in, or the other way round -/
theorem g_in_loss {g : BqG} {t c : Nat} {D T : Nat → Int32} {a b : Int32} (ht : t < 6) : g_in (g_loss g c T a b 0) t D = g_loss (g_in g t D) c T a b 0 := by
  funext k
  by_cases hk : k < 10 ∨ 124 ≤ k
  · rw [g_in_ne (by omega) (by omega)]
    exact ((Loc.in (g := g) (D := D) ht).loss c 0 T a b k hk).symm
  · rw [g_loss_ne (g := g_in g t D) (by omega) (by omega)]
    unfold g_in
    by_cases e : k = 11 + 19 * t
    · subst e; rw [bq_r_self, bq_r_self]
    · rw [bq_r_ne e, bq_r_ne e]
      unfold g_add
      by_cases e2 : 13 + 19 * t ≤ k ∧ k < 29 + 19 * t
      · rw [if_pos e2, if_pos e2, g_loss_ne (by omega) (by omega)]
      · rw [if_neg e2, if_neg e2, g_loss_ne (by omega) (by omega)]
theorem npt_0 {F : Nat → Nat} (hp : 0 < ns F 16) {j : Nat} (hj : j < 16) : npt F 0 j = 0 := by
  have h := (npt_in (F := F) (l := 0) (Nat.zero_le _) hp).2
  have := ns_ge (F := npt F 0) 16 hj
  omega
theorem x_pour_m0 {g : BqG} {f t l : Nat} (hge : l ≤ gt g f) (hpos : 0 < ns (gp g f) 16) (hl : 0 < l := by omega) : x_pour g f t l 0 = g_note (g_in (x_pour1 g f l) t (fun j => tk g f l j - tk2 g f l 0 j)) (gn g 5 + 1) (nI 2) (nI t) (nI (l - 0)) := by
  unfold x_pour
  rw [if_pos rfl]
  rw [g_in_congr (T := fun j => tk g f l j - tk2 g f l 0 j) (T' := tk g f l) (fun j hj => by
    show nI _ - nI (npt (npt (gp g f) l) 0 j) = nI _
    rw [npt_0 (by rw [(npt_in (F := gp g f) hge hpos).2]; exact hl) hj, pk_sub (Nat.zero_le _)]; rfl)]
theorem x_pour_m1 {g : BqG} {f t l ls : Nat} (ht : t < 6) (h0 : 0 < ls) : x_pour g f t l ls = g_note (g_loss (g_in (x_pour1 g f l) t (fun j => tk g f l j - tk2 g f l ls j)) (gn g 5 + 1) (tk2 g f l ls) (nI f) (nI ls) 0) (gn g 5 + 2) (nI 2) (nI t) (nI (l - ls)) := by
  unfold x_pour
  rw [if_neg (by omega), g_in_loss ht]
/-! brew -/
def x_brew0 (g : BqG) (t : Nat) (l s : Int32) : BqG := bq_r (bq_r (bq_r (bq_r (bq_r (bq_r g (124 + 5 * gn g 1) s) (124 + 5 * gn g 1 + 1) l) (124 + 5 * gn g 1 + 4) (g 0)) 1 (nI (gn g 1 + 1))) (11 + 19 * t) (nI 1)) (13 + 19 * t + gn g 1) l
def x_brew (g : BqG) (t : Nat) (l s : Int32) : BqG := g_note (x_brew0 g t l s) (gn g 5) (nI 0) (nI t) l
theorem x_brew0_5 {g : BqG} {t : Nat} {l s : Int32} : x_brew0 g t l s 5 = g 5 := by
  unfold x_brew0
  rw [bq_r_ne (by omega), bq_r_ne (by omega), bq_r_ne (by omega), bq_r_ne (by omega), bq_r_ne (by omega), bq_r_ne (by omega)]
def n_brew (g : BqG) (h : Nat → BqG) (ch : Nat) (y : Int32) (t : Nat) (l s : Int32) : BqR := if ¬ gn g 1 < 16 then ((-4), g, h, ch, y) else if ¬ gn g (11 + 19 * t) = 0 then ((-3), g, h, ch, nI 2) else if ¬ l ≤ g (10 + 19 * t) then ((-3), g, h, ch, nI 4) else chg g (x_brew g t l s) h ch y (nI (gn g 1))
def p_brew (g : BqG) (h : Nat → BqG) (ch : Nat) (y t l s : Int32) : BqR := if t < nI 0 ∨ ¬ t ≤ nI 5 then ((-1), g, h, ch, y) else if (l < nI 1 ∨ ¬ l ≤ nI 9999) ∨ (s < nI 0 ∨ ¬ s ≤ nI 2000) then ((-2), g, h, ch, y) else n_brew g h ch y t.toNatClampNeg l s
theorem p_brew_n {g : BqG} {h : Nat → BqG} {ch t : Nat} {y l s : Int32} (ht : t < 6) (hn : ¬ ((l < nI 1 ∨ ¬ l ≤ nI 9999) ∨ (s < nI 0 ∨ ¬ s ≤ nI 2000))) : p_brew g h ch y (nI t) l s = n_brew g h ch y t l s := by
  unfold p_brew
  rw [if_neg (bq_tin ht (by decide)), if_neg hn, nI_clamp (by omega)]
theorem ps_lt {g : BqG} : ∀ i, i ≤ 6 → (ps g i).1 < 2 ^ 31 := by
  have key : ∀ i, (ps g i).1 ≤ i := by
    intro i
    induction i with
    | zero => exact Nat.le_refl _
    | succ i ih =>
      unfold ps
      split
      · show (ps g i).1 + 1 ≤ i + 1
        omega
      · show (ps g i).1 ≤ i + 1
        omega
  intro i hi
  have := key i
  omega
set_option maxHeartbeats 2380000 in
set_option maxRecDepth 20000 in
theorem o_lose {S : BqH} {n : Nat} {I : BqI} {L : BqL} {P : BqP} {m ch : Nat} {h : Nat → BqG} {g : BqG} (hm : oModel S n P m) (hH : MH m I h ch) (hg : I (m + 1) = g) {en : Nat} (hG : GI g en) (hen : en < 2 ^ 29) {q : Nat} (hq : I m 6 = nI q) (hq1 : q ≤ 1) {t l r : Int32} : bq_Sp mX12_lose 5 101 0 0 [.ref m, .int t, .int l, .int r] S n I L P (qMo m I S n L P (mst q g h ch (I m 7) (w_spill g t l r))) := by
  refine q_entry (vs := [some (.ref m), some (.int t), some (.int l), some (.int r)]) (by decide +kernel) (by simp) (Nat.le_of_ble_eq_true rfl) rfl ?_
  have T0 := MSt.mk hH hg
  refine q_iload_n (pc := 0) dX12_lose_0 rfl rfl ?_
  refine q_callSF (pc := 1) dX12_lose_1 kX12_95 c_X12_isTank ⟨Nat.le_of_ble_eq_true rfl, Nat.le_of_ble_eq_true rfl⟩ rfl rfl (Nat.le_of_ble_eq_true rfl) ?_
  show bq_W _ _ _ _ _ 4 _ [_] _ _ _ _ _ _
  refine q_if_ne (pc := 4) 13 dX12_lose_4 (by decide) (fun c_4 => ?_) (fun c_4 => ?_)
  · replace c_4 := bq_nbn.mp c_4
    obtain ⟨t, ht, rfl⟩ := (bq_in5 t 5 (by decide)).resolve_left c_4
    have h1t : g (11 + 19 * t) = nI (gn g (11 + 19 * t)) := hG.n (by omega) (by omega)
    obtain ⟨qt1, qt2, qt3, qt4, qt5, qt6⟩ := hG.t ht
    refine q_iload_n (pc := 13) dX12_lose_13 rfl rfl ?_
    refine q_iconst (pc := 14) (v := nI 1) dX12_lose_14 (by decide) ?_
    refine q_sipush (pc := 15) (v := nI 9999) dX12_lose_15 (by decide) ?_
    refine q_callSF (pc := 18) dX12_lose_18 kX12_69 c_X12_in ⟨Nat.le_of_ble_eq_true rfl, Nat.le_of_ble_eq_true rfl⟩ rfl rfl (Nat.le_of_ble_eq_true rfl) ?_
    show bq_W _ _ _ _ _ 21 _ [_] _ _ _ _ _ _
    refine q_if_eq (pc := 21) 33 dX12_lose_21 (by decide) (fun c_21 => ?_) (fun c_21 => ?_)
    · replace c_21 := bq_nb0.mp c_21
      refine q_aload_n (pc := 33) dX12_lose_33 rfl rfl ?_
      refine q_bipush (pc := 34) (v := nI 8) dX12_lose_34 (by decide) ?_
      refine q_callVF (pc := 36) dX12_lose_36 kX12_99 (c_X12_refuses hm) (Model_sh hm) rfl (Model_lt hm) ⟨Nat.le_of_ble_eq_true rfl, Nat.le_of_ble_eq_true rfl⟩ rfl rfl (Nat.le_of_ble_eq_true rfl) ?_
      show bq_W _ _ _ _ _ 39 _ [_] _ _ _ _ _ _
      exact q_iret (st := []) (pc := 39) dX12_lose_39 rfl (qMo.mk (T0.ref (nI 8)) (by unfold w_spill; rw [if_neg (bq_tin ht (by decide)), if_pos (by first | exact Or.inl c_21 | exact Or.inr c_30), mst_neg (u := nI 8) (by decide) (by decide)]))
    · replace c_21 := bq_nbn.mp c_21
      refine q_iload_n (pc := 24) dX12_lose_24 rfl rfl ?_
      refine q_iconst (pc := 25) (v := nI 1) dX12_lose_25 (by decide) ?_
      refine q_iconst (pc := 26) (v := nI 3) dX12_lose_26 (by decide) ?_
      refine q_callSF (pc := 27) dX12_lose_27 kX12_69 c_X12_in ⟨Nat.le_of_ble_eq_true rfl, Nat.le_of_ble_eq_true rfl⟩ rfl rfl (Nat.le_of_ble_eq_true rfl) ?_
      show bq_W _ _ _ _ _ 30 _ [_] _ _ _ _ _ _
      refine q_if_ne (pc := 30) 40 dX12_lose_30 (by decide) (fun c_30 => ?_) (fun c_30 => ?_)
      · replace c_30 := bq_nbn.mp c_30
        obtain ⟨l, hl1, hl2, rfl⟩ := (bq_in19 l 1 9999 (by decide) (by decide)).resolve_left c_21
        obtain ⟨r, hr1, hr2, rfl⟩ := (bq_in19 r 1 3 (by decide) (by decide)).resolve_left c_30
        have hw := w_spill_n (g := g) ht hl1 hl2 hr1 hr2
        refine q_aload_n (pc := 40) dX12_lose_40 rfl rfl ?_
        refine q_iload_n (pc := 41) dX12_lose_41 rfl rfl ?_
        refine q_iconst (pc := 42) (v := nI 1) dX12_lose_42 (by decide) ?_
        refine q_callVF (pc := 43) dX12_lose_43 kX12_73 (c_tA hm (t := t) (k := 1) (j := 11 + 19 * t) (by omega) (by omega)) (Model_sh hm) rfl (Model_lt hm) ⟨Nat.le_of_ble_eq_true rfl, Nat.le_of_ble_eq_true rfl⟩ rfl rfl (Nat.le_of_ble_eq_true rfl) ?_
        show bq_W _ _ _ _ _ 46 _ [_] _ _ _ _ _ _
        rw [hg, h1t]
        refine q_iconst (pc := 46) (v := nI 1) dX12_lose_46 (by decide) ?_
        refine q_icmp_eq (pc := 47) 56 dX12_lose_47 (by decide) (fun c_47 => ?_) (fun c_47 => ?_)
        · have hz := (nI_eq (by omega) (by decide)).mp c_47
          refine q_aload_n (pc := 56) dX12_lose_56 rfl rfl ?_
          refine q_iload_n (pc := 57) dX12_lose_57 rfl rfl ?_
          refine q_callVF (pc := 58) dX12_lose_58 kX12_88 (c_X12_litresIn hm (t := t) (by omega)) (Model_sh hm) rfl (Model_lt hm) ⟨Nat.le_of_ble_eq_true rfl, Nat.le_of_ble_eq_true rfl⟩ rfl rfl (Nat.le_of_ble_eq_true rfl) ?_
          show bq_W _ _ _ _ _ 61 _ [_] _ _ _ _ _ _
          rw [hg, hG.tot ht]
          refine q_iload_n (pc := 61) dX12_lose_61 rfl rfl ?_
          refine q_icmp_ge (pc := 62) 71 dX12_lose_62 (by decide) (fun c_62 => ?_) (fun c_62 => ?_)
          · have hge : l ≤ gt g t := (nI_leI (by omega) (by omega)).mp c_62
            have hpos : 0 < ns (gp g t) 16 := (show 0 < gt g t by omega)
            have htb : ns (gp g t) 16 ≤ 9999 := (show gt g t ≤ 9999 by omega)
            refine q_aload_n (pc := 71) dX12_lose_71 rfl rfl ?_
            refine q_callV (pc := 72) dX12_lose_72 kX12_102 (c_rem hm hH hg hq hq1) (Model_sh hm) rfl (Model_lt hm) ⟨Nat.le_of_ble_eq_true rfl, Nat.le_of_ble_eq_true rfl⟩ rfl rfl (Nat.le_of_ble_eq_true rfl) ?_
            rintro _ S1 n1 I1 L1 P1 ⟨rfl, eS1, en1, eL1, eP1, H1, f1, f2⟩
            subst S1 n1 L1 P1
            show bq_W _ _ _ _ _ 75 _ [] _ _ _ _ _ _
            have T1 := T0.rem H1 f1 f2
            have hg1 := T1.1
            refine q_aload_n (pc := 75) dX12_lose_75 rfl rfl ?_
            refine q_iload_n (pc := 76) dX12_lose_76 rfl rfl ?_
            refine q_callVF (pc := 77) dX12_lose_77 kX12_105 (c_X12_looksAt hm (t := t) (by omega)) (Model_sh hm) rfl (Model_lt hm) ⟨Nat.le_of_ble_eq_true rfl, Nat.le_of_ble_eq_true rfl⟩ rfl rfl (Nat.le_of_ble_eq_true rfl) ?_
            show bq_W _ _ _ _ _ 80 _ [] _ _ _ _ _ _
            refine q_nameI (fun I2 e2 => ?_)
            have hF2 : ∀ j, j < 16 → I2 (m + 6) j = nI (gp g t j) := fun j hj => by rw [e2, bq_r_self, lk_at hj, hg1]; exact hG.p ht j hj
            have T2 : MSt m I I2 (g) (remH q g h ch).1 (remH q g h ch).2 (I m 7) := T1.sc (fun a ha => by rw [e2]; exact bq_r_ne (by omega))
            refine q_aload_n (pc := 80) dX12_lose_80 rfl rfl ?_
            refine q_iload_n (pc := 81) dX12_lose_81 rfl rfl ?_
            refine q_callV (pc := 82) dX12_lose_82 kX12_109 (c_X12_takes hm hF2 hge hpos htb) (Model_sh hm) rfl (Model_lt hm) ⟨Nat.le_of_ble_eq_true rfl, Nat.le_of_ble_eq_true rfl⟩ rfl rfl (Nat.le_of_ble_eq_true rfl) ?_
            rintro _ S3 n3 I3 L3 P3 ⟨rfl, eS3, en3, eL3, eP3, f3, t3⟩
            subst S3 n3 L3 P3
            show bq_W _ _ _ _ _ 85 _ [] _ _ _ _ _ _
            have T3 : MSt m I I3 (g) (remH q g h ch).1 (remH q g h ch).2 (I m 7) := T2.sc (fun a ha => f3 a (by omega) (by omega))
            have ht3 : ∀ j, j < 16 → I3 (m + 7) j = tk g t l j := t3
            refine q_aload_n (pc := 85) dX12_lose_85 rfl rfl ?_
            refine q_iload_n (pc := 86) dX12_lose_86 rfl rfl ?_
            refine q_callVF (pc := 87) dX12_lose_87 kX12_112 (c_X12_leaves hm (t := t) (by omega)) (Model_sh hm) rfl (Model_lt hm) ⟨Nat.le_of_ble_eq_true rfl, Nat.le_of_ble_eq_true rfl⟩ rfl rfl (Nat.le_of_ble_eq_true rfl) ?_
            show bq_W _ _ _ _ _ 90 _ [] _ _ _ _ _ _
            refine q_nameI (fun I4 e4 => ?_)
            have T4 : MSt m I I4 (g_out g t (tk g t l)) (remH q g h ch).1 (remH q g h ch).2 (I m 7) := by rw [e4, T3.1, g_out_congr ht3]; exact T3.r _
            have ht4 : ∀ j, j < 16 → I4 (m + 7) j = tk g t l j := fun j hj => by rw [e4, bq_r_ne (by omega)]; exact ht3 j hj
            have hm4 : I4 (m + 1) 5 = nI (gn g 5) := by rw [T4.1, g_out_ne (by omega) (by omega)]; exact hG.n (by decide) (by decide)
            have hm5 : gn g 5 ≤ en := hG.2.2.2.2.2.2.1
            refine q_aload_n (pc := 90) dX12_lose_90 rfl rfl ?_
            refine q_iload_n (pc := 91) dX12_lose_91 rfl rfl ?_
            refine q_iload_n (pc := 92) dX12_lose_92 rfl rfl ?_
            refine q_iload_n (pc := 93) dX12_lose_93 rfl rfl ?_
            refine q_callVF (pc := 94) dX12_lose_94 kX12_115 (c_X12_loses hm (r := r) (by omega) hm4 (by omega)) (Model_sh hm) rfl (Model_lt hm) ⟨Nat.le_of_ble_eq_true rfl, Nat.le_of_ble_eq_true rfl⟩ rfl rfl (Nat.le_of_ble_eq_true rfl) ?_
            show bq_W _ _ _ _ _ 97 _ [] _ _ _ _ _ _
            refine q_nameI (fun I5 e5 => ?_)
            have T5 : MSt m I I5 (x_spill g t l r) (remH q g h ch).1 (remH q g h ch).2 (I m 7) := by rw [e5, T4.1, g_loss_congr ht4]; exact T4.r _
            refine q_aload_n (pc := 97) dX12_lose_97 rfl rfl ?_
            refine q_iload_n (pc := 98) dX12_lose_98 rfl rfl ?_
            refine q_callVF (pc := 99) dX12_lose_99 kX12_88 (c_X12_litresIn hm (t := t) (by omega)) (Model_sh hm) rfl (Model_lt hm) ⟨Nat.le_of_ble_eq_true rfl, Nat.le_of_ble_eq_true rfl⟩ rfl rfl (Nat.le_of_ble_eq_true rfl) ?_
            show bq_W _ _ _ _ _ 102 _ [_] _ _ _ _ _ _
            rw [T5.1, x_spill_left hG ht hge hpos]
            exact q_iret (st := []) (pc := 102) dX12_lose_102 rfl (qMo.mk T5 (by rw [hw]; unfold n_spill; rw [if_neg (not_not_intro hz), if_neg (Nat.not_lt.mpr hge), mst_pos (nI_pos (by omega))]))
          · refine q_aload_n (pc := 65) dX12_lose_65 rfl rfl ?_
            refine q_iconst (pc := 66) (v := nI 3) dX12_lose_66 (by decide) ?_
            refine q_callVF (pc := 67) dX12_lose_67 kX12_99 (c_X12_refuses hm) (Model_sh hm) rfl (Model_lt hm) ⟨Nat.le_of_ble_eq_true rfl, Nat.le_of_ble_eq_true rfl⟩ rfl rfl (Nat.le_of_ble_eq_true rfl) ?_
            show bq_W _ _ _ _ _ 70 _ [_] _ _ _ _ _ _
            exact q_iret (st := []) (pc := 70) dX12_lose_70 rfl (qMo.mk (T0.ref (nI 3)) (by rw [hw]; unfold n_spill; rw [if_neg (not_not_intro hz), if_pos (Nat.lt_of_not_le fun z => c_62 (nI_le z (by omega))), mst_neg (u := nI 3) (by decide) (by decide)]))
        · refine q_aload_n (pc := 50) dX12_lose_50 rfl rfl ?_
          refine q_iconst (pc := 51) (v := nI 2) dX12_lose_51 (by decide) ?_
          refine q_callVF (pc := 52) dX12_lose_52 kX12_99 (c_X12_refuses hm) (Model_sh hm) rfl (Model_lt hm) ⟨Nat.le_of_ble_eq_true rfl, Nat.le_of_ble_eq_true rfl⟩ rfl rfl (Nat.le_of_ble_eq_true rfl) ?_
          show bq_W _ _ _ _ _ 55 _ [_] _ _ _ _ _ _
          exact q_iret (st := []) (pc := 55) dX12_lose_55 rfl (qMo.mk (T0.ref (nI 2)) (by rw [hw]; unfold n_spill; rw [if_pos (fun z => c_47 (by rw [z])), mst_neg (u := nI 2) (by decide) (by decide)]))
      · replace c_30 := bq_nb0.mp c_30
        refine q_aload_n (pc := 33) dX12_lose_33 rfl rfl ?_
        refine q_bipush (pc := 34) (v := nI 8) dX12_lose_34 (by decide) ?_
        refine q_callVF (pc := 36) dX12_lose_36 kX12_99 (c_X12_refuses hm) (Model_sh hm) rfl (Model_lt hm) ⟨Nat.le_of_ble_eq_true rfl, Nat.le_of_ble_eq_true rfl⟩ rfl rfl (Nat.le_of_ble_eq_true rfl) ?_
        show bq_W _ _ _ _ _ 39 _ [_] _ _ _ _ _ _
        exact q_iret (st := []) (pc := 39) dX12_lose_39 rfl (qMo.mk (T0.ref (nI 8)) (by unfold w_spill; rw [if_neg (bq_tin ht (by decide)), if_pos (by first | exact Or.inl c_21 | exact Or.inr c_30), mst_neg (u := nI 8) (by decide) (by decide)]))
  · replace c_4 := bq_nb0.mp c_4
    refine q_aload_n (pc := 7) dX12_lose_7 rfl rfl ?_
    refine q_iconst (pc := 8) (v := nI 1) dX12_lose_8 (by decide) ?_
    refine q_callVF (pc := 9) dX12_lose_9 kX12_99 (c_X12_refuses hm) (Model_sh hm) rfl (Model_lt hm) ⟨Nat.le_of_ble_eq_true rfl, Nat.le_of_ble_eq_true rfl⟩ rfl rfl (Nat.le_of_ble_eq_true rfl) ?_
    show bq_W _ _ _ _ _ 12 _ [_] _ _ _ _ _ _
    exact q_iret (st := []) (pc := 12) dX12_lose_12 rfl (qMo.mk (T0.ref (nI 1)) (by unfold w_spill; rw [if_pos c_4, mst_neg (u := nI 1) (by decide) (by decide)]))
set_option maxHeartbeats 6500000 in
set_option maxRecDepth 20000 in
theorem o_transfer {S : BqH} {n : Nat} {I : BqI} {L : BqL} {P : BqP} {m ch : Nat} {h : Nat → BqG} {g : BqG} (hm : oModel S n P m) (hH : MH m I h ch) (hg : I (m + 1) = g) {en : Nat} (hG : GI g en) (hen : en < 2 ^ 29) {q : Nat} (hq : I m 6 = nI q) (hq1 : q ≤ 1) {f t l : Int32} : bq_Sp mX12_transfer 5 101 0 0 [.ref m, .int f, .int t, .int l] S n I L P (qMo m I S n L P (mst q g h ch (I m 7) (w_pour g f t l))) := by
  refine q_entry (vs := [some (.ref m), some (.int f), some (.int t), some (.int l), none, none]) (by decide +kernel) (by simp) (Nat.le_of_ble_eq_true rfl) rfl ?_
  have T0 := MSt.mk hH hg
  refine q_iload_n (pc := 0) dX12_transfer_0 rfl rfl ?_
  refine q_callSF (pc := 1) dX12_transfer_1 kX12_95 c_X12_isTank ⟨Nat.le_of_ble_eq_true rfl, Nat.le_of_ble_eq_true rfl⟩ rfl rfl (Nat.le_of_ble_eq_true rfl) ?_
  show bq_W _ _ _ _ _ 4 _ [_] _ _ _ _ _ _
  refine q_if_eq (pc := 4) 19 dX12_transfer_4 (by decide) (fun c_4 => ?_) (fun c_4 => ?_)
  · replace c_4 := bq_nb0.mp c_4
    refine q_aload_n (pc := 19) dX12_transfer_19 rfl rfl ?_
    refine q_iconst (pc := 20) (v := nI 1) dX12_transfer_20 (by decide) ?_
    refine q_callVF (pc := 21) dX12_transfer_21 kX12_99 (c_X12_refuses hm) (Model_sh hm) rfl (Model_lt hm) ⟨Nat.le_of_ble_eq_true rfl, Nat.le_of_ble_eq_true rfl⟩ rfl rfl (Nat.le_of_ble_eq_true rfl) ?_
    show bq_W _ _ _ _ _ 24 _ [_] _ _ _ _ _ _
    exact q_iret (st := []) (pc := 24) dX12_transfer_24 rfl (qMo.mk (T0.ref (nI 1)) (by unfold w_pour; rw [if_pos (by first | exact Or.inl c_4 | exact Or.inr (Or.inl c_11) | exact Or.inr (Or.inr c_16)), mst_neg (u := nI 1) (by decide) (by decide)]))
  · replace c_4 := bq_nbn.mp c_4
    refine q_iload_n (pc := 7) dX12_transfer_7 rfl rfl ?_
    refine q_callSF (pc := 8) dX12_transfer_8 kX12_95 c_X12_isTank ⟨Nat.le_of_ble_eq_true rfl, Nat.le_of_ble_eq_true rfl⟩ rfl rfl (Nat.le_of_ble_eq_true rfl) ?_
    show bq_W _ _ _ _ _ 11 _ [_] _ _ _ _ _ _
    refine q_if_eq (pc := 11) 19 dX12_transfer_11 (by decide) (fun c_11 => ?_) (fun c_11 => ?_)
    · replace c_11 := bq_nb0.mp c_11
      refine q_aload_n (pc := 19) dX12_transfer_19 rfl rfl ?_
      refine q_iconst (pc := 20) (v := nI 1) dX12_transfer_20 (by decide) ?_
      refine q_callVF (pc := 21) dX12_transfer_21 kX12_99 (c_X12_refuses hm) (Model_sh hm) rfl (Model_lt hm) ⟨Nat.le_of_ble_eq_true rfl, Nat.le_of_ble_eq_true rfl⟩ rfl rfl (Nat.le_of_ble_eq_true rfl) ?_
      show bq_W _ _ _ _ _ 24 _ [_] _ _ _ _ _ _
      exact q_iret (st := []) (pc := 24) dX12_transfer_24 rfl (qMo.mk (T0.ref (nI 1)) (by unfold w_pour; rw [if_pos (by first | exact Or.inl c_4 | exact Or.inr (Or.inl c_11) | exact Or.inr (Or.inr c_16)), mst_neg (u := nI 1) (by decide) (by decide)]))
    · replace c_11 := bq_nbn.mp c_11
      refine q_iload_n (pc := 14) dX12_transfer_14 rfl rfl ?_
      refine q_iload_n (pc := 15) dX12_transfer_15 rfl rfl ?_
      refine q_icmp_ne (pc := 16) 25 dX12_transfer_16 (by decide) (fun c_16 => ?_) (fun c_16 => ?_)
      · obtain ⟨f, hf, rfl⟩ := (bq_in5 f 5 (by decide)).resolve_left c_4
        obtain ⟨t, ht, rfl⟩ := (bq_in5 t 5 (by decide)).resolve_left c_11
        have hne : f ≠ t := fun z => c_16 (by rw [z])
        have h1f : g (11 + 19 * f) = nI (gn g (11 + 19 * f)) := hG.n (by omega) (by omega)
        obtain ⟨qf1, qf2, qf3, qf4, qf5, qf6⟩ := hG.t hf
        have h1t : g (11 + 19 * t) = nI (gn g (11 + 19 * t)) := hG.n (by omega) (by omega)
        obtain ⟨qt1, qt2, qt3, qt4, qt5, qt6⟩ := hG.t ht
        have hloss : gn g 4 ≤ 100 := hG.2.2.2.2.2.1
        refine q_iload_n (pc := 25) dX12_transfer_25 rfl rfl ?_
        refine q_iconst (pc := 26) (v := nI 1) dX12_transfer_26 (by decide) ?_
        refine q_sipush (pc := 27) (v := nI 9999) dX12_transfer_27 (by decide) ?_
        refine q_callSF (pc := 30) dX12_transfer_30 kX12_69 c_X12_in ⟨Nat.le_of_ble_eq_true rfl, Nat.le_of_ble_eq_true rfl⟩ rfl rfl (Nat.le_of_ble_eq_true rfl) ?_
        show bq_W _ _ _ _ _ 33 _ [_] _ _ _ _ _ _
        refine q_if_ne (pc := 33) 43 dX12_transfer_33 (by decide) (fun c_33 => ?_) (fun c_33 => ?_)
        · replace c_33 := bq_nbn.mp c_33
          obtain ⟨l, hl1, hl2, rfl⟩ := (bq_in19 l 1 9999 (by decide) (by decide)).resolve_left c_33
          have hw := w_pour_n (g := g) hf ht hne hl1 hl2
          refine q_aload_n (pc := 43) dX12_transfer_43 rfl rfl ?_
          refine q_iload_n (pc := 44) dX12_transfer_44 rfl rfl ?_
          refine q_iconst (pc := 45) (v := nI 1) dX12_transfer_45 (by decide) ?_
          refine q_callVF (pc := 46) dX12_transfer_46 kX12_73 (c_tA hm (t := f) (k := 1) (j := 11 + 19 * f) (by omega) (by omega)) (Model_sh hm) rfl (Model_lt hm) ⟨Nat.le_of_ble_eq_true rfl, Nat.le_of_ble_eq_true rfl⟩ rfl rfl (Nat.le_of_ble_eq_true rfl) ?_
          show bq_W _ _ _ _ _ 49 _ [_] _ _ _ _ _ _
          rw [hg, h1f]
          refine q_iconst (pc := 49) (v := nI 1) dX12_transfer_49 (by decide) ?_
          refine q_icmp_ne (pc := 50) 63 dX12_transfer_50 (by decide) (fun c_50 => ?_) (fun c_50 => ?_)
          · refine q_aload_n (pc := 63) dX12_transfer_63 rfl rfl ?_
            refine q_iconst (pc := 64) (v := nI 2) dX12_transfer_64 (by decide) ?_
            refine q_callVF (pc := 65) dX12_transfer_65 kX12_99 (c_X12_refuses hm) (Model_sh hm) rfl (Model_lt hm) ⟨Nat.le_of_ble_eq_true rfl, Nat.le_of_ble_eq_true rfl⟩ rfl rfl (Nat.le_of_ble_eq_true rfl) ?_
            show bq_W _ _ _ _ _ 68 _ [_] _ _ _ _ _ _
            exact q_iret (st := []) (pc := 68) dX12_transfer_68 rfl (qMo.mk (T0.ref (nI 2)) (by rw [hw]; unfold n_pour; rw [if_pos (fun z => by first | exact c_50 (by rw [z.1]) | exact c_60 (nI_le z.2 (by decide))), mst_neg (u := nI 2) (by decide) (by decide)]))
          · refine q_aload_n (pc := 53) dX12_transfer_53 rfl rfl ?_
            refine q_iload_n (pc := 54) dX12_transfer_54 rfl rfl ?_
            refine q_iconst (pc := 55) (v := nI 1) dX12_transfer_55 (by decide) ?_
            refine q_callVF (pc := 56) dX12_transfer_56 kX12_73 (c_tA hm (t := t) (k := 1) (j := 11 + 19 * t) (by omega) (by omega)) (Model_sh hm) rfl (Model_lt hm) ⟨Nat.le_of_ble_eq_true rfl, Nat.le_of_ble_eq_true rfl⟩ rfl rfl (Nat.le_of_ble_eq_true rfl) ?_
            show bq_W _ _ _ _ _ 59 _ [_] _ _ _ _ _ _
            rw [hg, h1t]
            refine q_iconst (pc := 59) (v := nI 1) dX12_transfer_59 (by decide) ?_
            refine q_icmp_le (pc := 60) 69 dX12_transfer_60 (by decide) (fun c_60 => ?_) (fun c_60 => ?_)
            · have hA : gn g (11 + 19 * f) = 1 ∧ gn g (11 + 19 * t) ≤ 1 := ⟨(nI_eq (by omega) (by decide)).mp c_50, (nI_leI (by omega) (by decide)).mp c_60⟩
              refine q_aload_n (pc := 69) dX12_transfer_69 rfl rfl ?_
              refine q_iload_n (pc := 70) dX12_transfer_70 rfl rfl ?_
              refine q_callVF (pc := 71) dX12_transfer_71 kX12_88 (c_X12_litresIn hm (t := f) (by omega)) (Model_sh hm) rfl (Model_lt hm) ⟨Nat.le_of_ble_eq_true rfl, Nat.le_of_ble_eq_true rfl⟩ rfl rfl (Nat.le_of_ble_eq_true rfl) ?_
              show bq_W _ _ _ _ _ 74 _ [_] _ _ _ _ _ _
              rw [hg, hG.tot hf]
              refine q_iload_n (pc := 74) dX12_transfer_74 rfl rfl ?_
              refine q_icmp_ge (pc := 75) 84 dX12_transfer_75 (by decide) (fun c_75 => ?_) (fun c_75 => ?_)
              · have hge : l ≤ gt g f := (nI_leI (by omega) (by omega)).mp c_75
                have hpos : 0 < ns (gp g f) 16 := (show 0 < gt g f by omega)
                have htb : ns (gp g f) 16 ≤ 9999 := (show gt g f ≤ 9999 by omega)
                have hml : l * gn g 4 < 2 ^ 31 := by have : l * gn g 4 ≤ 9999 * 100 := Nat.mul_le_mul hl2 hloss; omega
                have hll0 : (l * gn g 4 / 1000) ≤ l := by have : l * gn g 4 ≤ l * 100 := Nat.mul_le_mul_left l hloss; omega
                obtain ⟨ls, hlse⟩ : ∃ ls, (l * gn g 4 / 1000) = ls := ⟨_, rfl⟩
                have hll : ls ≤ l := hlse ▸ hll0
                refine q_iload_n (pc := 84) dX12_transfer_84 rfl rfl ?_
                refine q_aload_n (pc := 85) dX12_transfer_85 rfl rfl ?_
                refine q_getP (pc := 86) dX12_transfer_86 fX12_9 (Model_sh hm) ⟨by decide, rfl⟩ (Model_lt hm) (Model_p_g hm) ?_
                refine q_iconst (pc := 89) (v := nI 4) dX12_transfer_89 (by decide) ?_
                refine q_iald (pc := 90) dX12_transfer_90 (oA_sh (Model_s_g hm)) (oA_lt (Model_s_g hm)) rfl (by omega) ?_
                rw [hg, hG.n (k := 4) (by decide) (by decide)]
                refine q_imulN (pc := 91) dX12_transfer_91 ?_
                refine q_sipush (pc := 92) (v := nI 1000) dX12_transfer_92 (by decide) ?_
                refine q_idiv (pc := 95) dX12_transfer_95 (nI_ne0 (by decide) (by decide)) ?_
                rw [pk_div hml (by decide) (by decide), hlse]
                refine q_istore (pc := 96) dX12_transfer_96 (Nat.le_of_ble_eq_true rfl) rfl ?_
                show bq_W _ _ _ _ _ 98 [_, _, _, _, _, _] _ _ _ _ _ _ _
                refine q_aload_n (pc := 98) dX12_transfer_98 rfl rfl ?_
                refine q_iload_n (pc := 99) dX12_transfer_99 rfl rfl ?_
                refine q_callVF (pc := 100) dX12_transfer_100 kX12_88 (c_X12_litresIn hm (t := t) (by omega)) (Model_sh hm) rfl (Model_lt hm) ⟨Nat.le_of_ble_eq_true rfl, Nat.le_of_ble_eq_true rfl⟩ rfl rfl (Nat.le_of_ble_eq_true rfl) ?_
                show bq_W _ _ _ _ _ 103 _ [_] _ _ _ _ _ _
                rw [hg, hG.tot ht]
                refine q_iload_n (pc := 103) dX12_transfer_103 rfl rfl ?_
                refine q_iaddN (pc := 104) dX12_transfer_104 ?_
                refine q_iload (pc := 105) dX12_transfer_105 rfl ?_
                refine q_isub (pc := 107) dX12_transfer_107 ?_
                rw [pk_sub (by omega)]
                refine q_aload_n (pc := 108) dX12_transfer_108 rfl rfl ?_
                refine q_iload_n (pc := 109) dX12_transfer_109 rfl rfl ?_
                refine q_iconst (pc := 110) (v := nI 0) dX12_transfer_110 (by decide) ?_
                refine q_callVF (pc := 111) dX12_transfer_111 kX12_73 (c_tA hm (t := t) (k := 0) (j := 10 + 19 * t) (by omega) (by omega)) (Model_sh hm) rfl (Model_lt hm) ⟨Nat.le_of_ble_eq_true rfl, Nat.le_of_ble_eq_true rfl⟩ rfl rfl (Nat.le_of_ble_eq_true rfl) ?_
                show bq_W _ _ _ _ _ 114 _ [_, _] _ _ _ _ _ _
                rw [hg, hG.n (k := 10 + 19 * t) (by omega) (by omega)]
                refine q_icmp_le (pc := 114) 123 dX12_transfer_114 (by decide) (fun c_114 => ?_) (fun c_114 => ?_)
                · have hroom : gt g t + l - ls ≤ gn g (10 + 19 * t) := (nI_leI (by omega) (by omega)).mp c_114
                  refine q_aload_n (pc := 123) dX12_transfer_123 rfl rfl ?_
                  refine q_callV (pc := 124) dX12_transfer_124 kX12_102 (c_rem hm hH hg hq hq1) (Model_sh hm) rfl (Model_lt hm) ⟨Nat.le_of_ble_eq_true rfl, Nat.le_of_ble_eq_true rfl⟩ rfl rfl (Nat.le_of_ble_eq_true rfl) ?_
                  rintro _ S1 n1 I1 L1 P1 ⟨rfl, eS1, en1, eL1, eP1, H1, f1, f2⟩
                  subst S1 n1 L1 P1
                  show bq_W _ _ _ _ _ 127 _ [] _ _ _ _ _ _
                  have T1 := T0.rem H1 f1 f2
                  have hg1 := T1.1
                  refine q_aload_n (pc := 127) dX12_transfer_127 rfl rfl ?_
                  refine q_iload_n (pc := 128) dX12_transfer_128 rfl rfl ?_
                  refine q_callVF (pc := 129) dX12_transfer_129 kX12_105 (c_X12_looksAt hm (t := f) (by omega)) (Model_sh hm) rfl (Model_lt hm) ⟨Nat.le_of_ble_eq_true rfl, Nat.le_of_ble_eq_true rfl⟩ rfl rfl (Nat.le_of_ble_eq_true rfl) ?_
                  show bq_W _ _ _ _ _ 132 _ [] _ _ _ _ _ _
                  refine q_nameI (fun I2 e2 => ?_)
                  have hF2 : ∀ j, j < 16 → I2 (m + 6) j = nI (gp g f j) := fun j hj => by rw [e2, bq_r_self, lk_at hj, hg1]; exact hG.p hf j hj
                  have T2 : MSt m I I2 (g) (remH q g h ch).1 (remH q g h ch).2 (I m 7) := T1.sc (fun a ha => by rw [e2]; exact bq_r_ne (by omega))
                  refine q_aload_n (pc := 132) dX12_transfer_132 rfl rfl ?_
                  refine q_iload_n (pc := 133) dX12_transfer_133 rfl rfl ?_
                  refine q_callV (pc := 134) dX12_transfer_134 kX12_109 (c_X12_takes hm hF2 hge hpos htb) (Model_sh hm) rfl (Model_lt hm) ⟨Nat.le_of_ble_eq_true rfl, Nat.le_of_ble_eq_true rfl⟩ rfl rfl (Nat.le_of_ble_eq_true rfl) ?_
                  rintro _ S3 n3 I3 L3 P3 ⟨rfl, eS3, en3, eL3, eP3, f3, t3⟩
                  subst S3 n3 L3 P3
                  show bq_W _ _ _ _ _ 137 _ [] _ _ _ _ _ _
                  have T3 : MSt m I I3 (g) (remH q g h ch).1 (remH q g h ch).2 (I m 7) := T2.sc (fun a ha => f3 a (by omega) (by omega))
                  have ht3 : ∀ j, j < 16 → I3 (m + 7) j = tk g f l j := t3
                  refine q_aload_n (pc := 137) dX12_transfer_137 rfl rfl ?_
                  refine q_iload_n (pc := 138) dX12_transfer_138 rfl rfl ?_
                  refine q_callVF (pc := 139) dX12_transfer_139 kX12_112 (c_X12_leaves hm (t := f) (by omega)) (Model_sh hm) rfl (Model_lt hm) ⟨Nat.le_of_ble_eq_true rfl, Nat.le_of_ble_eq_true rfl⟩ rfl rfl (Nat.le_of_ble_eq_true rfl) ?_
                  show bq_W _ _ _ _ _ 142 _ [] _ _ _ _ _ _
                  refine q_nameI (fun I4 e4 => ?_)
                  have T4 : MSt m I I4 (g_out g f (tk g f l)) (remH q g h ch).1 (remH q g h ch).2 (I m 7) := by rw [e4, T3.1, g_out_congr ht3]; exact T3.r _
                  have ht4 : ∀ j, j < 16 → I4 (m + 7) j = tk g f l j := fun j hj => by rw [e4, bq_r_ne (by omega)]; exact ht3 j hj
                  have hm4 : I4 (m + 1) 5 = nI (gn g 5) := by rw [T4.1, g_out_ne (by omega) (by omega)]; exact hG.n (by decide) (by decide)
                  have hm5 : gn g 5 ≤ en := hG.2.2.2.2.2.2.1
                  refine q_aload_n (pc := 142) dX12_transfer_142 rfl rfl ?_
                  refine q_iconst (pc := 143) (v := nI 1) dX12_transfer_143 (by decide) ?_
                  refine q_iload_n (pc := 144) dX12_transfer_144 rfl rfl ?_
                  refine q_iload_n (pc := 145) dX12_transfer_145 rfl rfl ?_
                  refine q_callVF (pc := 146) dX12_transfer_146 kX12_91 (c_X12_notes hm hm4 (by omega)) (Model_sh hm) rfl (Model_lt hm) ⟨Nat.le_of_ble_eq_true rfl, Nat.le_of_ble_eq_true rfl⟩ rfl rfl (Nat.le_of_ble_eq_true rfl) ?_
                  show bq_W _ _ _ _ _ 149 _ [] _ _ _ _ _ _
                  refine q_nameI (fun I5 e5 => ?_)
                  have T5 : MSt m I I5 (x_pour1 g f l) (remH q g h ch).1 (remH q g h ch).2 (I m 7) := by rw [e5, T4.1]; exact T4.r _
                  have ht5 : ∀ j, j < 16 → I5 (m + 7) j = tk g f l j := fun j hj => by rw [e5, bq_r_ne (by omega)]; exact ht4 j hj
                  refine q_iconst (pc := 149) (v := nI 0) dX12_transfer_149 (by decide) ?_
                  refine q_istore (pc := 150) dX12_transfer_150 (Nat.le_of_ble_eq_true rfl) rfl ?_
                  show bq_W _ _ _ _ _ 152 [_, _, _, _, _, _] _ _ _ _ _ _ _
                  have lp1 : ∀ i, i ≤ 16 → bq_W mX12_transfer 5 101 0 0 152 [some (.ref m), some (.int (nI f)), some (.int (nI t)), some (.int (nI l)), some (.int (nI ls)), some (.int (nI i))] [] S n (fl I5 (m + 6) (fun j => j) (fun j => I5 (m + 7) j) i) L P (qMo m I S n L P (mst q g h ch (I m 7) (w_pour g (nI f) (nI t) (nI l)))) := by
                    refine bq_down (A := fun i => bq_W mX12_transfer 5 101 0 0 152 [some (.ref m), some (.int (nI f)), some (.int (nI t)), some (.int (nI l)), some (.int (nI ls)), some (.int (nI i))] [] S n (fl I5 (m + 6) (fun j => j) (fun j => I5 (m + 7) j) i) L P (qMo m I S n L P (mst q g h ch (I m 7) (w_pour g (nI f) (nI t) (nI l))))) 16 ?_ ?_
                    · refine q_iload (pc := 152) dX12_transfer_152 rfl ?_
                      refine q_bipush (pc := 154) (v := nI 16) dX12_transfer_154 (by decide) ?_
                      refine q_icmp_ge (pc := 156) 179 dX12_transfer_156 (by decide) (fun c_156 => ?_) (fun c_156 => absurd (by decide) c_156)
                      refine q_nameI (fun I6 e6 => ?_)
                      have hF6 : ∀ j, j < 16 → I6 (m + 6) j = nI (npt (gp g f) l j) := fun j hj => by rw [e6]; exact (fl_at (I := I5) (d := m + 6) (ix := fun j => j) (v := fun j => I5 (m + 7) j) (j := j) 16 (fun a b _ _ h => h) hj).trans (ht5 j hj)
                      have T6 : MSt m I I6 (x_pour1 g f l) (remH q g h ch).1 (remH q g h ch).2 (I m 7) := T5.sc (fun a ha => by rw [e6]; exact fl_ne (by omega) 16)
                      obtain ⟨nt1, nt2⟩ := npt_in (F := gp g f) hge hpos
                      have hls2 : ls ≤ ns (npt (gp g f) l) 16 := by rw [nt2]; exact hll
                      have hpos2 : 0 < ns (npt (gp g f) l) 16 := by rw [nt2]; omega
                      have htb2 : ns (npt (gp g f) l) 16 ≤ 9999 := by rw [nt2]; omega
                      refine q_aload_n (pc := 179) dX12_transfer_179 rfl rfl ?_
                      refine q_iload (pc := 180) dX12_transfer_180 rfl ?_
                      refine q_callV (pc := 182) dX12_transfer_182 kX12_109 (c_X12_takes hm hF6 hls2 hpos2 htb2) (Model_sh hm) rfl (Model_lt hm) ⟨Nat.le_of_ble_eq_true rfl, Nat.le_of_ble_eq_true rfl⟩ rfl rfl (Nat.le_of_ble_eq_true rfl) ?_
                      rintro _ S7 n7 I7 L7 P7 ⟨rfl, eS7, en7, eL7, eP7, f7, t7⟩
                      subst S7 n7 L7 P7
                      show bq_W _ _ _ _ _ 185 _ [] _ _ _ _ _ _
                      have T7 : MSt m I I7 (x_pour1 g f l) (remH q g h ch).1 (remH q g h ch).2 (I m 7) := T6.sc (fun a ha => f7 a (by omega) (by omega))
                      have ht7 : ∀ j, j < 16 → I7 (m + 7) j = tk2 g f l ls j := t7
                      have hD7 : ∀ j, j < 16 → I7 (m + 6) j - I7 (m + 7) j = (fun j => tk g f l j - tk2 g f l ls j) j := fun j hj => by rw [ht7 j hj, f7 _ (by omega) (by omega), hF6 j hj]; rfl
                      have hm51 : x_pour1 g f l 5 = nI (gn g 5 + 1) := by unfold x_pour1; rw [g_note_5, g_out_ne (by omega) (by omega), hG.n (k := 5) (by decide) (by decide), nI_add]
                      refine q_iconst (pc := 185) (v := nI 0) dX12_transfer_185 (by decide) ?_
                      refine q_istore (pc := 186) dX12_transfer_186 (Nat.le_of_ble_eq_true rfl) rfl ?_
                      show bq_W _ _ _ _ _ 188 [_, _, _, _, _, _] _ _ _ _ _ _ _
                      have lp2 : ∀ i, i ≤ 16 → bq_W mX12_transfer 5 101 0 0 188 [some (.ref m), some (.int (nI f)), some (.int (nI t)), some (.int (nI l)), some (.int (nI ls)), some (.int (nI i))] [] S n (fl I7 (m + 1) (fun j => 10 + 19 * t + 3 + j) (fun j => I7 (m + 1) (10 + 19 * t + 3 + j) + (I7 (m + 6) j - I7 (m + 7) j)) i) L P (qMo m I S n L P (mst q g h ch (I m 7) (w_pour g (nI f) (nI t) (nI l)))) := by
                        refine bq_down (A := fun i => bq_W mX12_transfer 5 101 0 0 188 [some (.ref m), some (.int (nI f)), some (.int (nI t)), some (.int (nI l)), some (.int (nI ls)), some (.int (nI i))] [] S n (fl I7 (m + 1) (fun j => 10 + 19 * t + 3 + j) (fun j => I7 (m + 1) (10 + 19 * t + 3 + j) + (I7 (m + 6) j - I7 (m + 7) j)) i) L P (qMo m I S n L P (mst q g h ch (I m 7) (w_pour g (nI f) (nI t) (nI l))))) 16 ?_ ?_
                        · refine q_iload (pc := 188) dX12_transfer_188 rfl ?_
                          refine q_bipush (pc := 190) (v := nI 16) dX12_transfer_190 (by decide) ?_
                          refine q_icmp_ge (pc := 192) 236 dX12_transfer_192 (by decide) (fun c_192 => ?_) (fun c_192 => absurd (by decide) c_192)
                          rw [ad_fl]
                          refine q_aload_n (pc := 236) dX12_transfer_236 rfl rfl ?_
                          refine q_getP (pc := 237) dX12_transfer_237 fX12_9 (Model_sh hm) ⟨by decide, rfl⟩ (Model_lt hm) (Model_p_g hm) ?_
                          refine q_bipush (pc := 240) (v := nI 10) dX12_transfer_240 (by decide) ?_
                          refine q_bipush (pc := 242) (v := nI 19) dX12_transfer_242 (by decide) ?_
                          refine q_iload_n (pc := 244) dX12_transfer_244 rfl rfl ?_
                          refine q_imulN (pc := 245) dX12_transfer_245 ?_
                          refine q_iaddN (pc := 246) dX12_transfer_246 ?_
                          refine q_iconst (pc := 247) (v := nI 1) dX12_transfer_247 (by decide) ?_
                          refine q_iaddN (pc := 248) dX12_transfer_248 ?_
                          refine q_iconst (pc := 249) (v := nI 1) dX12_transfer_249 (by decide) ?_
                          refine q_iast (pc := 250) dX12_transfer_250 (oA_sh (Model_s_g hm)) (oA_lt (Model_s_g hm)) rfl (by omega) ?_
                          refine q_nameI (fun I8 e8 => ?_)
                          have T8 : MSt m I I8 (g_in (x_pour1 g f l) t (fun j => tk g f l j - tk2 g f l ls j)) (remH q g h ch).1 (remH q g h ch).2 (I m 7) := by rw [e8, T7.1, g_add_congr hD7]; exact (T7.r _).u (by omega) (nI 1)
                          have ht8 : ∀ j, j < 16 → I8 (m + 7) j = tk2 g f l ls j := fun j hj => by rw [e8, bq_u_ne (by omega), bq_r_ne (by omega)]; exact ht7 j hj
                          have hm8 : I8 (m + 1) 5 = nI (gn g 5 + 1) := by rw [T8.1, g_in_ne (by omega) (by omega)]; exact hm51
                          refine q_iload (pc := 251) dX12_transfer_251 rfl ?_
                          refine q_if_le (pc := 253) 264 dX12_transfer_253 (by decide) (fun c_253 => ?_) (fun c_253 => ?_)
                          · have hz0 : ls = 0 := by
                              rcases Nat.eq_zero_or_pos ls with z | z
                              · exact z
                              · exact absurd c_253 (nI_nle z (by omega))
                            refine q_aload_n (pc := 264) dX12_transfer_264 rfl rfl ?_
                            refine q_iconst (pc := 265) (v := nI 2) dX12_transfer_265 (by decide) ?_
                            refine q_iload_n (pc := 266) dX12_transfer_266 rfl rfl ?_
                            refine q_iload_n (pc := 267) dX12_transfer_267 rfl rfl ?_
                            refine q_iload (pc := 268) dX12_transfer_268 rfl ?_
                            refine q_isub (pc := 270) dX12_transfer_270 ?_
                            rw [pk_sub hll]
                            refine q_callVF (pc := 271) dX12_transfer_271 kX12_91 (c_X12_notes hm hm8 (by omega)) (Model_sh hm) rfl (Model_lt hm) ⟨Nat.le_of_ble_eq_true rfl, Nat.le_of_ble_eq_true rfl⟩ rfl rfl (Nat.le_of_ble_eq_true rfl) ?_
                            show bq_W _ _ _ _ _ 274 _ [] _ _ _ _ _ _
                            refine q_nameI (fun I9 e9 => ?_)
                            have T9 : MSt m I I9 (x_pour g f t l ls) (remH q g h ch).1 (remH q g h ch).2 (I m 7) := by rw [e9, T8.1, hz0, x_pour_m0 hge hpos]; exact T8.r _
                            refine q_iload_n (pc := 274) dX12_transfer_274 rfl rfl ?_
                            refine q_iload (pc := 275) dX12_transfer_275 rfl ?_
                            refine q_isub (pc := 277) dX12_transfer_277 ?_
                            rw [pk_sub hll]
                            exact q_iret (st := []) (pc := 278) dX12_transfer_278 rfl (qMo.mk T9 (by rw [hw]; unfold n_pour; rw [if_neg (not_not_intro hA), if_neg (Nat.not_lt.mpr hge), hlse, if_neg (by omega), mst_pos (nI_pos (by omega))]))
                          · have hz0 : 0 < ls := Nat.pos_of_ne_zero (fun z => c_253 (by rw [z]; decide))
                            refine q_aload_n (pc := 256) dX12_transfer_256 rfl rfl ?_
                            refine q_iload_n (pc := 257) dX12_transfer_257 rfl rfl ?_
                            refine q_iload (pc := 258) dX12_transfer_258 rfl ?_
                            refine q_iconst (pc := 260) (v := nI 0) dX12_transfer_260 (by decide) ?_
                            refine q_callVF (pc := 261) dX12_transfer_261 kX12_115 (c_X12_loses hm (r := 0) (by decide) hm8 (by omega)) (Model_sh hm) rfl (Model_lt hm) ⟨Nat.le_of_ble_eq_true rfl, Nat.le_of_ble_eq_true rfl⟩ rfl rfl (Nat.le_of_ble_eq_true rfl) ?_
                            show bq_W _ _ _ _ _ 264 _ [] _ _ _ _ _ _
                            refine q_nameI (fun I9 e9 => ?_)
                            have T9 : MSt m I I9 (g_loss (g_in (x_pour1 g f l) t (fun j => tk g f l j - tk2 g f l ls j)) (gn g 5 + 1) (tk2 g f l ls) (nI f) (nI ls) 0) (remH q g h ch).1 (remH q g h ch).2 (I m 7) := by rw [e9, T8.1, g_loss_congr ht8]; exact T8.r _
                            have hm9 : I9 (m + 1) 5 = nI (gn g 5 + 2) := by rw [T9.1, g_loss_5, g_in_ne (by omega) (by omega), hm51, nI_add]
                            refine q_aload_n (pc := 264) dX12_transfer_264 rfl rfl ?_
                            refine q_iconst (pc := 265) (v := nI 2) dX12_transfer_265 (by decide) ?_
                            refine q_iload_n (pc := 266) dX12_transfer_266 rfl rfl ?_
                            refine q_iload_n (pc := 267) dX12_transfer_267 rfl rfl ?_
                            refine q_iload (pc := 268) dX12_transfer_268 rfl ?_
                            refine q_isub (pc := 270) dX12_transfer_270 ?_
                            rw [pk_sub hll]
                            refine q_callVF (pc := 271) dX12_transfer_271 kX12_91 (c_X12_notes hm hm9 (by omega)) (Model_sh hm) rfl (Model_lt hm) ⟨Nat.le_of_ble_eq_true rfl, Nat.le_of_ble_eq_true rfl⟩ rfl rfl (Nat.le_of_ble_eq_true rfl) ?_
                            show bq_W _ _ _ _ _ 274 _ [] _ _ _ _ _ _
                            refine q_nameI (fun I10 e10 => ?_)
                            have T9 : MSt m I I10 (x_pour g f t l ls) (remH q g h ch).1 (remH q g h ch).2 (I m 7) := by rw [e10, T9.1, x_pour_m1 ht hz0]; exact T9.r _
                            refine q_iload_n (pc := 274) dX12_transfer_274 rfl rfl ?_
                            refine q_iload (pc := 275) dX12_transfer_275 rfl ?_
                            refine q_isub (pc := 277) dX12_transfer_277 ?_
                            rw [pk_sub hll]
                            exact q_iret (st := []) (pc := 278) dX12_transfer_278 rfl (qMo.mk T9 (by rw [hw]; unfold n_pour; rw [if_neg (not_not_intro hA), if_neg (Nat.not_lt.mpr hge), hlse, if_neg (by omega), mst_pos (nI_pos (by omega))]))
                        · intro i hi ih
                          refine q_iload (pc := 188) dX12_transfer_188 rfl ?_
                          refine q_bipush (pc := 190) (v := nI 16) dX12_transfer_190 (by decide) ?_
                          refine q_icmp_ge (pc := 192) 236 dX12_transfer_192 (by decide) (fun c_192 => absurd c_192 (nI_ge hi (by decide))) (fun c_192 => ?_)
                          refine q_aload_n (pc := 195) dX12_transfer_195 rfl rfl ?_
                          refine q_getP (pc := 196) dX12_transfer_196 fX12_9 (Model_sh hm) ⟨by decide, rfl⟩ (Model_lt hm) (Model_p_g hm) ?_
                          refine q_bipush (pc := 199) (v := nI 10) dX12_transfer_199 (by decide) ?_
                          refine q_bipush (pc := 201) (v := nI 19) dX12_transfer_201 (by decide) ?_
                          refine q_iload_n (pc := 203) dX12_transfer_203 rfl rfl ?_
                          refine q_imulN (pc := 204) dX12_transfer_204 ?_
                          refine q_iaddN (pc := 205) dX12_transfer_205 ?_
                          refine q_iconst (pc := 206) (v := nI 3) dX12_transfer_206 (by decide) ?_
                          refine q_iaddN (pc := 207) dX12_transfer_207 ?_
                          refine q_iload (pc := 208) dX12_transfer_208 rfl ?_
                          refine q_iaddN (pc := 210) dX12_transfer_210 ?_
                          refine q_dup2 (pc := 211) dX12_transfer_211 rfl rfl ?_
                          refine q_iald (pc := 212) dX12_transfer_212 (oA_sh (Model_s_g hm)) (oA_lt (Model_s_g hm)) rfl (by omega) ?_
                          refine q_aload_n (pc := 213) dX12_transfer_213 rfl rfl ?_
                          refine q_getP (pc := 214) dX12_transfer_214 fX12_25 (Model_sh hm) ⟨by decide, rfl⟩ (Model_lt hm) (Model_p_there hm) ?_
                          refine q_iload (pc := 217) dX12_transfer_217 rfl ?_
                          refine q_iald (pc := 219) dX12_transfer_219 (oA_sh (Model_s_there hm)) (oA_lt (Model_s_there hm)) rfl (by omega) ?_
                          refine q_aload_n (pc := 220) dX12_transfer_220 rfl rfl ?_
                          refine q_getP (pc := 221) dX12_transfer_221 fX12_28 (Model_sh hm) ⟨by decide, rfl⟩ (Model_lt hm) (Model_p_taken hm) ?_
                          refine q_iload (pc := 224) dX12_transfer_224 rfl ?_
                          refine q_iald (pc := 226) dX12_transfer_226 (oA_sh (Model_s_taken hm)) (oA_lt (Model_s_taken hm)) rfl (by omega) ?_
                          rw [fl_no i (fun q hq => by omega), fl_ne (show m + 6 ≠ m + 1 by omega) i, fl_ne (show m + 7 ≠ m + 1 by omega) i]
                          refine q_isub (pc := 227) dX12_transfer_227 ?_
                          refine q_iadd (pc := 228) dX12_transfer_228 ?_
                          refine q_iast (pc := 229) dX12_transfer_229 (oA_sh (Model_s_g hm)) (oA_lt (Model_s_g hm)) rfl (by omega) ?_
                          refine q_iinc (pc := 230) (v := nI (i + 1)) dX12_transfer_230 rfl (bq_inc _) (Nat.le_of_ble_eq_true rfl) rfl ?_
                          show bq_W _ _ _ _ _ 233 [_, _, _, _, _, _] _ _ _ _ _ _ _
                          refine q_goto (pc := 233) 188 dX12_transfer_233 (by decide) ?_
                          exact ih
                      exact lp2 0 (by decide)
                    · intro i hi ih
                      refine q_iload (pc := 152) dX12_transfer_152 rfl ?_
                      refine q_bipush (pc := 154) (v := nI 16) dX12_transfer_154 (by decide) ?_
                      refine q_icmp_ge (pc := 156) 179 dX12_transfer_156 (by decide) (fun c_156 => absurd c_156 (nI_ge hi (by decide))) (fun c_156 => ?_)
                      refine q_aload_n (pc := 159) dX12_transfer_159 rfl rfl ?_
                      refine q_getP (pc := 160) dX12_transfer_160 fX12_25 (Model_sh hm) ⟨by decide, rfl⟩ (Model_lt hm) (Model_p_there hm) ?_
                      refine q_iload (pc := 163) dX12_transfer_163 rfl ?_
                      refine q_aload_n (pc := 165) dX12_transfer_165 rfl rfl ?_
                      refine q_getP (pc := 166) dX12_transfer_166 fX12_28 (Model_sh hm) ⟨by decide, rfl⟩ (Model_lt hm) (Model_p_taken hm) ?_
                      refine q_iload (pc := 169) dX12_transfer_169 rfl ?_
                      refine q_iald (pc := 171) dX12_transfer_171 (oA_sh (Model_s_taken hm)) (oA_lt (Model_s_taken hm)) rfl (by omega) ?_
                      rw [fl_ne (show m + 7 ≠ m + 6 by omega) i]
                      refine q_iast (pc := 172) dX12_transfer_172 (oA_sh (Model_s_there hm)) (oA_lt (Model_s_there hm)) rfl (by omega) ?_
                      refine q_iinc (pc := 173) (v := nI (i + 1)) dX12_transfer_173 rfl (bq_inc _) (Nat.le_of_ble_eq_true rfl) rfl ?_
                      show bq_W _ _ _ _ _ 176 [_, _, _, _, _, _] _ _ _ _ _ _ _
                      refine q_goto (pc := 176) 152 dX12_transfer_176 (by decide) ?_
                      exact ih
                  exact lp1 0 (by decide)
                · refine q_aload_n (pc := 117) dX12_transfer_117 rfl rfl ?_
                  refine q_iconst (pc := 118) (v := nI 4) dX12_transfer_118 (by decide) ?_
                  refine q_callVF (pc := 119) dX12_transfer_119 kX12_99 (c_X12_refuses hm) (Model_sh hm) rfl (Model_lt hm) ⟨Nat.le_of_ble_eq_true rfl, Nat.le_of_ble_eq_true rfl⟩ rfl rfl (Nat.le_of_ble_eq_true rfl) ?_
                  show bq_W _ _ _ _ _ 122 _ [_] _ _ _ _ _ _
                  exact q_iret (st := []) (pc := 122) dX12_transfer_122 rfl (qMo.mk (T0.ref (nI 4)) (by rw [hw]; unfold n_pour; rw [if_neg (not_not_intro hA), if_neg (Nat.not_lt.mpr hge), hlse, if_pos (Nat.lt_of_not_le fun z => c_114 (nI_le (by omega) (by omega))), mst_neg (u := nI 4) (by decide) (by decide)]))
              · refine q_aload_n (pc := 78) dX12_transfer_78 rfl rfl ?_
                refine q_iconst (pc := 79) (v := nI 3) dX12_transfer_79 (by decide) ?_
                refine q_callVF (pc := 80) dX12_transfer_80 kX12_99 (c_X12_refuses hm) (Model_sh hm) rfl (Model_lt hm) ⟨Nat.le_of_ble_eq_true rfl, Nat.le_of_ble_eq_true rfl⟩ rfl rfl (Nat.le_of_ble_eq_true rfl) ?_
                show bq_W _ _ _ _ _ 83 _ [_] _ _ _ _ _ _
                exact q_iret (st := []) (pc := 83) dX12_transfer_83 rfl (qMo.mk (T0.ref (nI 3)) (by rw [hw]; unfold n_pour; rw [if_neg (not_not_intro hA), if_pos (Nat.lt_of_not_le fun z => c_75 (nI_le z (by omega))), mst_neg (u := nI 3) (by decide) (by decide)]))
            · refine q_aload_n (pc := 63) dX12_transfer_63 rfl rfl ?_
              refine q_iconst (pc := 64) (v := nI 2) dX12_transfer_64 (by decide) ?_
              refine q_callVF (pc := 65) dX12_transfer_65 kX12_99 (c_X12_refuses hm) (Model_sh hm) rfl (Model_lt hm) ⟨Nat.le_of_ble_eq_true rfl, Nat.le_of_ble_eq_true rfl⟩ rfl rfl (Nat.le_of_ble_eq_true rfl) ?_
              show bq_W _ _ _ _ _ 68 _ [_] _ _ _ _ _ _
              exact q_iret (st := []) (pc := 68) dX12_transfer_68 rfl (qMo.mk (T0.ref (nI 2)) (by rw [hw]; unfold n_pour; rw [if_pos (fun z => by first | exact c_50 (by rw [z.1]) | exact c_60 (nI_le z.2 (by decide))), mst_neg (u := nI 2) (by decide) (by decide)]))
        · replace c_33 := bq_nb0.mp c_33
          refine q_aload_n (pc := 36) dX12_transfer_36 rfl rfl ?_
          refine q_bipush (pc := 37) (v := nI 8) dX12_transfer_37 (by decide) ?_
          refine q_callVF (pc := 39) dX12_transfer_39 kX12_99 (c_X12_refuses hm) (Model_sh hm) rfl (Model_lt hm) ⟨Nat.le_of_ble_eq_true rfl, Nat.le_of_ble_eq_true rfl⟩ rfl rfl (Nat.le_of_ble_eq_true rfl) ?_
          show bq_W _ _ _ _ _ 42 _ [_] _ _ _ _ _ _
          exact q_iret (st := []) (pc := 42) dX12_transfer_42 rfl (qMo.mk (T0.ref (nI 8)) (by unfold w_pour; rw [if_neg (w_pour_ok hf ht hne), if_pos c_33, mst_neg (u := nI 8) (by decide) (by decide)]))
      · refine q_aload_n (pc := 19) dX12_transfer_19 rfl rfl ?_
        refine q_iconst (pc := 20) (v := nI 1) dX12_transfer_20 (by decide) ?_
        refine q_callVF (pc := 21) dX12_transfer_21 kX12_99 (c_X12_refuses hm) (Model_sh hm) rfl (Model_lt hm) ⟨Nat.le_of_ble_eq_true rfl, Nat.le_of_ble_eq_true rfl⟩ rfl rfl (Nat.le_of_ble_eq_true rfl) ?_
        show bq_W _ _ _ _ _ 24 _ [_] _ _ _ _ _ _
        exact q_iret (st := []) (pc := 24) dX12_transfer_24 rfl (qMo.mk (T0.ref (nI 1)) (by unfold w_pour; rw [if_pos (by first | exact Or.inl c_4 | exact Or.inr (Or.inl c_11) | exact Or.inr (Or.inr c_16)), mst_neg (u := nI 1) (by decide) (by decide)]))
set_option maxHeartbeats 3340000 in
set_option maxRecDepth 20000 in
theorem o_brew {S : BqH} {n : Nat} {I : BqI} {L : BqL} {P : BqP} {m ch : Nat} {h : Nat → BqG} {g : BqG} (hm : oModel S n P m) (hH : MH m I h ch) (hg : I (m + 1) = g) {en : Nat} (hG : GI g en) (hen : en < 2 ^ 29) (hq : I m 6 = nI 0) {t l s : Int32} : bq_Sp mX12_brew 4 78 0 0 [.ref m, .int t, .int l, .int s] S n I L P (qMo m I S n L P (p_brew g h ch (I m 7) t l s)) := by
  refine q_entry (vs := [some (.ref m), some (.int t), some (.int l), some (.int s), none]) (by decide +kernel) (by simp) (Nat.le_of_ble_eq_true rfl) rfl ?_
  have T0 := MSt.mk hH hg
  have hq1 : 0 ≤ 1 := by decide
  have h3 : g 1 = nI (gn g 1) := hG.n (by decide) (by decide)
  have h3l : gn g 1 ≤ 16 := hG.2.2.1
  refine q_iload_n (pc := 0) dX12_brew_0 rfl rfl ?_
  refine q_callSF (pc := 1) dX12_brew_1 kX12_95 c_X12_isTank ⟨Nat.le_of_ble_eq_true rfl, Nat.le_of_ble_eq_true rfl⟩ rfl rfl (Nat.le_of_ble_eq_true rfl) ?_
  show bq_W _ _ _ _ _ 4 _ [_] _ _ _ _ _ _
  refine q_if_ne (pc := 4) 9 dX12_brew_4 (by decide) (fun c_4 => ?_) (fun c_4 => ?_)
  · replace c_4 := bq_nbn.mp c_4
    obtain ⟨t, ht, rfl⟩ := (bq_in5 t 5 (by decide)).resolve_left c_4
    have h1t : g (11 + 19 * t) = nI (gn g (11 + 19 * t)) := hG.n (by omega) (by omega)
    obtain ⟨qt1, qt2, qt3, qt4, qt5, qt6⟩ := hG.t ht
    refine q_iload_n (pc := 9) dX12_brew_9 rfl rfl ?_
    refine q_iconst (pc := 10) (v := nI 1) dX12_brew_10 (by decide) ?_
    refine q_sipush (pc := 11) (v := nI 9999) dX12_brew_11 (by decide) ?_
    refine q_callSF (pc := 14) dX12_brew_14 kX12_69 c_X12_in ⟨Nat.le_of_ble_eq_true rfl, Nat.le_of_ble_eq_true rfl⟩ rfl rfl (Nat.le_of_ble_eq_true rfl) ?_
    show bq_W _ _ _ _ _ 17 _ [_] _ _ _ _ _ _
    refine q_if_eq (pc := 17) 31 dX12_brew_17 (by decide) (fun c_17 => ?_) (fun c_17 => ?_)
    · replace c_17 := bq_nb0.mp c_17
      refine q_bipush (pc := 31) (v := (-2)) dX12_brew_31 (by decide) ?_
      exact q_iret (st := []) (pc := 33) dX12_brew_33 rfl (qMo.mk T0 (by unfold p_brew; rw [if_neg (bq_tin ht (by decide)), if_pos (by first | exact Or.inl c_17 | exact Or.inr c_28)]))
    · replace c_17 := bq_nbn.mp c_17
      refine q_iload_n (pc := 20) dX12_brew_20 rfl rfl ?_
      refine q_iconst (pc := 21) (v := nI 0) dX12_brew_21 (by decide) ?_
      refine q_sipush (pc := 22) (v := nI 2000) dX12_brew_22 (by decide) ?_
      refine q_callSF (pc := 25) dX12_brew_25 kX12_69 c_X12_in ⟨Nat.le_of_ble_eq_true rfl, Nat.le_of_ble_eq_true rfl⟩ rfl rfl (Nat.le_of_ble_eq_true rfl) ?_
      show bq_W _ _ _ _ _ 28 _ [_] _ _ _ _ _ _
      refine q_if_ne (pc := 28) 34 dX12_brew_28 (by decide) (fun c_28 => ?_) (fun c_28 => ?_)
      · replace c_28 := bq_nbn.mp c_28
        have hw := p_brew_n (g := g) (h := h) (ch := ch) (y := I m 7) ht (l := l) (s := s) (by rintro (q | q); exact c_17 q; exact c_28 q)
        refine q_aload_n (pc := 34) dX12_brew_34 rfl rfl ?_
        refine q_getP (pc := 35) dX12_brew_35 fX12_9 (Model_sh hm) ⟨by decide, rfl⟩ (Model_lt hm) (Model_p_g hm) ?_
        refine q_iconst (pc := 38) (v := nI 1) dX12_brew_38 (by decide) ?_
        refine q_iald (pc := 39) dX12_brew_39 (oA_sh (Model_s_g hm)) (oA_lt (Model_s_g hm)) rfl (by omega) ?_
        rw [hg, h3]
        refine q_bipush (pc := 40) (v := nI 16) dX12_brew_40 (by decide) ?_
        refine q_icmp_ne (pc := 42) 48 dX12_brew_42 (by decide) (fun c_42 => ?_) (fun c_42 => ?_)
        · have hr : gn g 1 < 16 := Nat.lt_of_le_of_ne h3l (fun z => c_42 (by rw [z]))
          refine q_aload_n (pc := 48) dX12_brew_48 rfl rfl ?_
          refine q_iload_n (pc := 49) dX12_brew_49 rfl rfl ?_
          refine q_iconst (pc := 50) (v := nI 1) dX12_brew_50 (by decide) ?_
          refine q_callVF (pc := 51) dX12_brew_51 kX12_73 (c_tA hm (t := t) (k := 1) (j := 11 + 19 * t) (by omega) (by omega)) (Model_sh hm) rfl (Model_lt hm) ⟨Nat.le_of_ble_eq_true rfl, Nat.le_of_ble_eq_true rfl⟩ rfl rfl (Nat.le_of_ble_eq_true rfl) ?_
          show bq_W _ _ _ _ _ 54 _ [_] _ _ _ _ _ _
          rw [hg, h1t]
          refine q_if_eq (pc := 54) 63 dX12_brew_54 (by decide) (fun c_54 => ?_) (fun c_54 => ?_)
          · have hz : gn g (11 + 19 * t) = 0 := (nI_eq (by omega) (by decide)).mp c_54
            refine q_iload_n (pc := 63) dX12_brew_63 rfl rfl ?_
            refine q_aload_n (pc := 64) dX12_brew_64 rfl rfl ?_
            refine q_iload_n (pc := 65) dX12_brew_65 rfl rfl ?_
            refine q_iconst (pc := 66) (v := nI 0) dX12_brew_66 (by decide) ?_
            refine q_callVF (pc := 67) dX12_brew_67 kX12_73 (c_tA hm (t := t) (k := 0) (j := 10 + 19 * t) (by omega) (by omega)) (Model_sh hm) rfl (Model_lt hm) ⟨Nat.le_of_ble_eq_true rfl, Nat.le_of_ble_eq_true rfl⟩ rfl rfl (Nat.le_of_ble_eq_true rfl) ?_
            show bq_W _ _ _ _ _ 70 _ [_, _] _ _ _ _ _ _
            rw [hg]
            refine q_icmp_le (pc := 70) 79 dX12_brew_70 (by decide) (fun c_70 => ?_) (fun c_70 => ?_)
            · refine q_aload_n (pc := 79) dX12_brew_79 rfl rfl ?_
              refine q_callV (pc := 80) dX12_brew_80 kX12_102 (c_rem hm hH hg hq hq1) (Model_sh hm) rfl (Model_lt hm) ⟨Nat.le_of_ble_eq_true rfl, Nat.le_of_ble_eq_true rfl⟩ rfl rfl (Nat.le_of_ble_eq_true rfl) ?_
              rintro _ S1 n1 I1 L1 P1 ⟨rfl, eS1, en1, eL1, eP1, H1, f1, f2⟩
              subst S1 n1 L1 P1
              show bq_W _ _ _ _ _ 83 _ [] _ _ _ _ _ _
              have T1 := T0.rem H1 f1 f2
              have hg1 := T1.1
              refine q_aload_n (pc := 83) dX12_brew_83 rfl rfl ?_
              refine q_getP (pc := 84) dX12_brew_84 fX12_9 (Model_sh hm) ⟨by decide, rfl⟩ (Model_lt hm) (Model_p_g hm) ?_
              refine q_iconst (pc := 87) (v := nI 1) dX12_brew_87 (by decide) ?_
              refine q_iald (pc := 88) dX12_brew_88 (oA_sh (Model_s_g hm)) (oA_lt (Model_s_g hm)) rfl (by omega) ?_
              rw [hg1, h3]
              refine q_istore (pc := 89) dX12_brew_89 (Nat.le_of_ble_eq_true rfl) rfl ?_
              show bq_W _ _ _ _ _ 91 [_, _, _, _, _] _ _ _ _ _ _ _
              refine q_aload_n (pc := 91) dX12_brew_91 rfl rfl ?_
              refine q_getP (pc := 92) dX12_brew_92 fX12_9 (Model_sh hm) ⟨by decide, rfl⟩ (Model_lt hm) (Model_p_g hm) ?_
              refine q_bipush (pc := 95) (v := nI 124) dX12_brew_95 (by decide) ?_
              refine q_iconst (pc := 97) (v := nI 5) dX12_brew_97 (by decide) ?_
              refine q_iload (pc := 98) dX12_brew_98 rfl ?_
              refine q_imulN (pc := 100) dX12_brew_100 ?_
              refine q_iaddN (pc := 101) dX12_brew_101 ?_
              refine q_iload_n (pc := 102) dX12_brew_102 rfl rfl ?_
              refine q_iast (pc := 103) dX12_brew_103 (oA_sh (Model_s_g hm)) (oA_lt (Model_s_g hm)) rfl (by omega) ?_
              refine q_aload_n (pc := 104) dX12_brew_104 rfl rfl ?_
              refine q_getP (pc := 105) dX12_brew_105 fX12_9 (Model_sh hm) ⟨by decide, rfl⟩ (Model_lt hm) (Model_p_g hm) ?_
              refine q_bipush (pc := 108) (v := nI 124) dX12_brew_108 (by decide) ?_
              refine q_iconst (pc := 110) (v := nI 5) dX12_brew_110 (by decide) ?_
              refine q_iload (pc := 111) dX12_brew_111 rfl ?_
              refine q_imulN (pc := 113) dX12_brew_113 ?_
              refine q_iaddN (pc := 114) dX12_brew_114 ?_
              refine q_iconst (pc := 115) (v := nI 1) dX12_brew_115 (by decide) ?_
              refine q_iaddN (pc := 116) dX12_brew_116 ?_
              refine q_iload_n (pc := 117) dX12_brew_117 rfl rfl ?_
              refine q_iast (pc := 118) dX12_brew_118 (oA_sh (Model_s_g hm)) (oA_lt (Model_s_g hm)) rfl (by omega) ?_
              refine q_aload_n (pc := 119) dX12_brew_119 rfl rfl ?_
              refine q_getP (pc := 120) dX12_brew_120 fX12_9 (Model_sh hm) ⟨by decide, rfl⟩ (Model_lt hm) (Model_p_g hm) ?_
              refine q_bipush (pc := 123) (v := nI 124) dX12_brew_123 (by decide) ?_
              refine q_iconst (pc := 125) (v := nI 5) dX12_brew_125 (by decide) ?_
              refine q_iload (pc := 126) dX12_brew_126 rfl ?_
              refine q_imulN (pc := 128) dX12_brew_128 ?_
              refine q_iaddN (pc := 129) dX12_brew_129 ?_
              refine q_iconst (pc := 130) (v := nI 4) dX12_brew_130 (by decide) ?_
              refine q_iaddN (pc := 131) dX12_brew_131 ?_
              refine q_aload_n (pc := 132) dX12_brew_132 rfl rfl ?_
              refine q_getP (pc := 133) dX12_brew_133 fX12_9 (Model_sh hm) ⟨by decide, rfl⟩ (Model_lt hm) (Model_p_g hm) ?_
              refine q_iconst (pc := 136) (v := nI 0) dX12_brew_136 (by decide) ?_
              refine q_iald (pc := 137) dX12_brew_137 (oA_sh (Model_s_g hm)) (oA_lt (Model_s_g hm)) rfl (by omega) ?_
              rw [show bq_u (bq_u I1 (m + 1) (124 + 5 * gn g 1) s) (m + 1) (124 + 5 * gn g 1 + 1) l (m + 1) 0 = g 0 from by rw [bq_u_no (by omega), bq_u_no (by omega), hg1]]
              refine q_iast (pc := 138) dX12_brew_138 (oA_sh (Model_s_g hm)) (oA_lt (Model_s_g hm)) rfl (by omega) ?_
              refine q_aload_n (pc := 139) dX12_brew_139 rfl rfl ?_
              refine q_getP (pc := 140) dX12_brew_140 fX12_9 (Model_sh hm) ⟨by decide, rfl⟩ (Model_lt hm) (Model_p_g hm) ?_
              refine q_iconst (pc := 143) (v := nI 1) dX12_brew_143 (by decide) ?_
              refine q_dup2 (pc := 144) dX12_brew_144 rfl rfl ?_
              refine q_iald (pc := 145) dX12_brew_145 (oA_sh (Model_s_g hm)) (oA_lt (Model_s_g hm)) rfl (by omega) ?_
              rw [show bq_u (bq_u (bq_u I1 (m + 1) (124 + 5 * gn g 1) s) (m + 1) (124 + 5 * gn g 1 + 1) l) (m + 1) (124 + 5 * gn g 1 + 4) (g 0) (m + 1) 1 = nI (gn g 1) from by rw [bq_u_no (by omega), bq_u_no (by omega), bq_u_no (by omega), hg1, h3]]
              refine q_iconst (pc := 146) (v := nI 1) dX12_brew_146 (by decide) ?_
              refine q_iaddN (pc := 147) dX12_brew_147 ?_
              refine q_iast (pc := 148) dX12_brew_148 (oA_sh (Model_s_g hm)) (oA_lt (Model_s_g hm)) rfl (by omega) ?_
              refine q_aload_n (pc := 149) dX12_brew_149 rfl rfl ?_
              refine q_getP (pc := 150) dX12_brew_150 fX12_9 (Model_sh hm) ⟨by decide, rfl⟩ (Model_lt hm) (Model_p_g hm) ?_
              refine q_bipush (pc := 153) (v := nI 10) dX12_brew_153 (by decide) ?_
              refine q_bipush (pc := 155) (v := nI 19) dX12_brew_155 (by decide) ?_
              refine q_iload_n (pc := 157) dX12_brew_157 rfl rfl ?_
              refine q_imulN (pc := 158) dX12_brew_158 ?_
              refine q_iaddN (pc := 159) dX12_brew_159 ?_
              refine q_iconst (pc := 160) (v := nI 1) dX12_brew_160 (by decide) ?_
              refine q_iaddN (pc := 161) dX12_brew_161 ?_
              refine q_iconst (pc := 162) (v := nI 1) dX12_brew_162 (by decide) ?_
              refine q_iast (pc := 163) dX12_brew_163 (oA_sh (Model_s_g hm)) (oA_lt (Model_s_g hm)) rfl (by omega) ?_
              refine q_aload_n (pc := 164) dX12_brew_164 rfl rfl ?_
              refine q_getP (pc := 165) dX12_brew_165 fX12_9 (Model_sh hm) ⟨by decide, rfl⟩ (Model_lt hm) (Model_p_g hm) ?_
              refine q_bipush (pc := 168) (v := nI 10) dX12_brew_168 (by decide) ?_
              refine q_bipush (pc := 170) (v := nI 19) dX12_brew_170 (by decide) ?_
              refine q_iload_n (pc := 172) dX12_brew_172 rfl rfl ?_
              refine q_imulN (pc := 173) dX12_brew_173 ?_
              refine q_iaddN (pc := 174) dX12_brew_174 ?_
              refine q_iconst (pc := 175) (v := nI 3) dX12_brew_175 (by decide) ?_
              refine q_iaddN (pc := 176) dX12_brew_176 ?_
              refine q_iload (pc := 177) dX12_brew_177 rfl ?_
              refine q_iaddN (pc := 179) dX12_brew_179 ?_
              refine q_iload_n (pc := 180) dX12_brew_180 rfl rfl ?_
              refine q_iast (pc := 181) dX12_brew_181 (oA_sh (Model_s_g hm)) (oA_lt (Model_s_g hm)) rfl (by omega) ?_
              refine q_nameI (fun I2 e2 => ?_)
              have T2 : MSt m I I2 (x_brew0 g t l s) (remH 0 g h ch).1 (remH 0 g h ch).2 (I m 7) := by rw [e2]; exact (((((T1.u (k' := 124 + 5 * gn g 1) rfl s).u (k' := 124 + 5 * gn g 1 + 1) rfl l).u (k' := 124 + 5 * gn g 1 + 4) rfl (g 0)).u (k' := 1) rfl (nI (gn g 1 + 1))).u (k' := 11 + 19 * t) (by omega) (nI 1)).u (k' := 13 + 19 * t + gn g 1) (by omega) l
              have hm2 : I2 (m + 1) 5 = nI (gn g 5) := by rw [T2.1, x_brew0_5]; exact hG.n (by decide) (by decide)
              have hm5 : gn g 5 ≤ en := hG.2.2.2.2.2.2.1
              refine q_aload_n (pc := 182) dX12_brew_182 rfl rfl ?_
              refine q_iconst (pc := 183) (v := nI 0) dX12_brew_183 (by decide) ?_
              refine q_iload_n (pc := 184) dX12_brew_184 rfl rfl ?_
              refine q_iload_n (pc := 185) dX12_brew_185 rfl rfl ?_
              refine q_callVF (pc := 186) dX12_brew_186 kX12_91 (c_X12_notes hm hm2 (by omega)) (Model_sh hm) rfl (Model_lt hm) ⟨Nat.le_of_ble_eq_true rfl, Nat.le_of_ble_eq_true rfl⟩ rfl rfl (Nat.le_of_ble_eq_true rfl) ?_
              show bq_W _ _ _ _ _ 189 _ [] _ _ _ _ _ _
              refine q_iload (pc := 189) dX12_brew_189 rfl ?_
              exact q_iret (st := []) (pc := 191) dX12_brew_191 rfl (qMo.mk (T2.r _) (by rw [hw]; unfold n_brew; rw [if_neg (by omega), if_neg (not_not_intro hz), if_neg (not_not_intro c_70), chg_rem, T2.1]; rfl))
            · refine q_aload_n (pc := 73) dX12_brew_73 rfl rfl ?_
              refine q_iconst (pc := 74) (v := nI 4) dX12_brew_74 (by decide) ?_
              refine q_callVF (pc := 75) dX12_brew_75 kX12_99 (c_X12_refuses hm) (Model_sh hm) rfl (Model_lt hm) ⟨Nat.le_of_ble_eq_true rfl, Nat.le_of_ble_eq_true rfl⟩ rfl rfl (Nat.le_of_ble_eq_true rfl) ?_
              show bq_W _ _ _ _ _ 78 _ [_] _ _ _ _ _ _
              exact q_iret (st := []) (pc := 78) dX12_brew_78 rfl (qMo.mk (T0.ref (nI 4)) (by rw [hw]; unfold n_brew; rw [if_neg (by omega), if_neg (not_not_intro hz), if_pos c_70]))
          · refine q_aload_n (pc := 57) dX12_brew_57 rfl rfl ?_
            refine q_iconst (pc := 58) (v := nI 2) dX12_brew_58 (by decide) ?_
            refine q_callVF (pc := 59) dX12_brew_59 kX12_99 (c_X12_refuses hm) (Model_sh hm) rfl (Model_lt hm) ⟨Nat.le_of_ble_eq_true rfl, Nat.le_of_ble_eq_true rfl⟩ rfl rfl (Nat.le_of_ble_eq_true rfl) ?_
            show bq_W _ _ _ _ _ 62 _ [_] _ _ _ _ _ _
            exact q_iret (st := []) (pc := 62) dX12_brew_62 rfl (qMo.mk (T0.ref (nI 2)) (by rw [hw]; unfold n_brew; rw [if_neg (by omega), if_pos (fun z => c_54 (by rw [z]; decide))]))
        · refine q_bipush (pc := 45) (v := (-4)) dX12_brew_45 (by decide) ?_
          exact q_iret (st := []) (pc := 47) dX12_brew_47 rfl (qMo.mk T0 (by rw [hw]; unfold n_brew; rw [if_pos (by have := (nI_eq (by omega) (by decide)).mp c_42; omega)]))
      · replace c_28 := bq_nb0.mp c_28
        refine q_bipush (pc := 31) (v := (-2)) dX12_brew_31 (by decide) ?_
        exact q_iret (st := []) (pc := 33) dX12_brew_33 rfl (qMo.mk T0 (by unfold p_brew; rw [if_neg (bq_tin ht (by decide)), if_pos (by first | exact Or.inl c_17 | exact Or.inr c_28)]))
  · replace c_4 := bq_nb0.mp c_4
    refine q_iconst (pc := 7) (v := (-1)) dX12_brew_7 (by decide) ?_
    exact q_iret (st := []) (pc := 8) dX12_brew_8 rfl (qMo.mk T0 (by unfold p_brew; rw [if_pos c_4]))
set_option maxHeartbeats 2600000 in
set_option maxRecDepth 20000 in
theorem o_pass {S : BqH} {n : Nat} {I : BqI} {L : BqL} {P : BqP} {m ch : Nat} {h : Nat → BqG} {g : BqG} (hm : oModel S n P m) (hH : MH m I h ch) (hg : I (m + 1) = g) {en : Nat} (hG : GI g en) (hen : en < 2 ^ 29) {q : Nat} (hq : I m 6 = nI q) (hq1 : q ≤ 1) {d : Int32} : bq_Sp mX12_pass 4 78 0 0 [.ref m, .int d] S n I L P (qMo m I S n L P (mst q g h ch (I m 7) (w_pass g d))) := by
  refine q_entry (vs := [some (.ref m), some (.int d), none, none]) (by decide +kernel) (by simp) (Nat.le_of_ble_eq_true rfl) rfl ?_
  have T0 := MSt.mk hH hg
  have h0 : g 0 = nI (gn g 0) := hG.n (by decide) (by decide)
  have h0l := hG.2.1
  refine q_iload_n (pc := 0) dX12_pass_0 rfl rfl ?_
  refine q_iconst (pc := 1) (v := nI 1) dX12_pass_1 (by decide) ?_
  refine q_sipush (pc := 2) (v := nI 999) dX12_pass_2 (by decide) ?_
  refine q_callSF (pc := 5) dX12_pass_5 kX12_69 c_X12_in ⟨Nat.le_of_ble_eq_true rfl, Nat.le_of_ble_eq_true rfl⟩ rfl rfl (Nat.le_of_ble_eq_true rfl) ?_
  show bq_W _ _ _ _ _ 8 _ [_] _ _ _ _ _ _
  refine q_if_eq (pc := 8) 25 dX12_pass_8 (by decide) (fun c_8 => ?_) (fun c_8 => ?_)
  · replace c_8 := bq_nb0.mp c_8
    refine q_aload_n (pc := 25) dX12_pass_25 rfl rfl ?_
    refine q_bipush (pc := 26) (v := nI 8) dX12_pass_26 (by decide) ?_
    refine q_callVF (pc := 28) dX12_pass_28 kX12_99 (c_X12_refuses hm) (Model_sh hm) rfl (Model_lt hm) ⟨Nat.le_of_ble_eq_true rfl, Nat.le_of_ble_eq_true rfl⟩ rfl rfl (Nat.le_of_ble_eq_true rfl) ?_
    show bq_W _ _ _ _ _ 31 _ [_] _ _ _ _ _ _
    exact q_iret (st := []) (pc := 31) dX12_pass_31 rfl (qMo.mk (T0.ref (nI 8)) (by first | (unfold w_pass; rw [if_pos c_8, mst_neg (u := nI 8) (by decide) (by decide)]) | (rw [hw]; unfold n_pass; rw [if_pos (Nat.lt_of_not_le fun z => c_22 (nI_le z (by decide))), mst_neg (u := nI 8) (by decide) (by decide)])))
  · replace c_8 := bq_nbn.mp c_8
    obtain ⟨d, hd1, hd2, rfl⟩ := (bq_in19 d 1 999 (by decide) (by decide)).resolve_left c_8
    have hw := w_pass_n (g := g) hd1 hd2
    refine q_aload_n (pc := 11) dX12_pass_11 rfl rfl ?_
    refine q_getP (pc := 12) dX12_pass_12 fX12_9 (Model_sh hm) ⟨by decide, rfl⟩ (Model_lt hm) (Model_p_g hm) ?_
    refine q_iconst (pc := 15) (v := nI 0) dX12_pass_15 (by decide) ?_
    refine q_iald (pc := 16) dX12_pass_16 (oA_sh (Model_s_g hm)) (oA_lt (Model_s_g hm)) rfl (by omega) ?_
    rw [hg, h0]
    refine q_iload_n (pc := 17) dX12_pass_17 rfl rfl ?_
    refine q_iaddN (pc := 18) dX12_pass_18 ?_
    refine q_sipush (pc := 19) (v := nI 9999) dX12_pass_19 (by decide) ?_
    refine q_icmp_le (pc := 22) 32 dX12_pass_22 (by decide) (fun c_22 => ?_) (fun c_22 => ?_)
    · have hle9 : gn g 0 + d ≤ 9999 := (nI_leI (by omega) (by decide)).mp c_22
      have hd : gn g 0 + d < 2 ^ 31 := by omega
      refine q_aload_n (pc := 32) dX12_pass_32 rfl rfl ?_
      refine q_callV (pc := 33) dX12_pass_33 kX12_102 (c_rem hm hH hg hq hq1) (Model_sh hm) rfl (Model_lt hm) ⟨Nat.le_of_ble_eq_true rfl, Nat.le_of_ble_eq_true rfl⟩ rfl rfl (Nat.le_of_ble_eq_true rfl) ?_
      rintro _ S1 n1 I1 L1 P1 ⟨rfl, eS1, en1, eL1, eP1, H1, f1, f2⟩
      subst S1 n1 L1 P1
      show bq_W _ _ _ _ _ 36 _ [] _ _ _ _ _ _
      have T1 := T0.rem H1 f1 f2
      have hg1 := T1.1
      refine q_aload_n (pc := 36) dX12_pass_36 rfl rfl ?_
      refine q_getP (pc := 37) dX12_pass_37 fX12_9 (Model_sh hm) ⟨by decide, rfl⟩ (Model_lt hm) (Model_p_g hm) ?_
      refine q_iconst (pc := 40) (v := nI 0) dX12_pass_40 (by decide) ?_
      refine q_dup2 (pc := 41) dX12_pass_41 rfl rfl ?_
      refine q_iald (pc := 42) dX12_pass_42 (oA_sh (Model_s_g hm)) (oA_lt (Model_s_g hm)) rfl (by omega) ?_
      rw [hg1, h0]
      refine q_iload_n (pc := 43) dX12_pass_43 rfl rfl ?_
      refine q_iaddN (pc := 44) dX12_pass_44 ?_
      refine q_iast (pc := 45) dX12_pass_45 (oA_sh (Model_s_g hm)) (oA_lt (Model_s_g hm)) rfl (by omega) ?_
      refine q_nameI (fun I2 e2 => ?_)
      have T2 : MSt m I I2 (x_day g d) (remH q g h ch).1 (remH q g h ch).2 (I m 7) := by rw [e2]; exact T1.u rfl _
      refine q_iconst (pc := 46) (v := nI 0) dX12_pass_46 (by decide) ?_
      refine q_istore_n (pc := 47) dX12_pass_47 rfl (Nat.le_of_ble_eq_true rfl) rfl ?_
      show bq_W _ _ _ _ _ 48 [_, _, _, _] _ _ _ _ _ _ _
      refine q_iconst (pc := 48) (v := nI 0) dX12_pass_48 (by decide) ?_
      refine q_istore_n (pc := 49) dX12_pass_49 rfl (Nat.le_of_ble_eq_true rfl) rfl ?_
      show bq_W _ _ _ _ _ 50 [_, _, _, _] _ _ _ _ _ _ _
      have hI2 : I2 = bq_r I2 (m + 1) (ps (x_day g d) 0).2 := by
        show I2 = bq_r I2 (m + 1) (x_day g d)
        rw [← T2.1]; exact bq_r_id.symm
      have lp : ∀ i, i ≤ 6 → bq_W mX12_pass 4 78 0 0 50 [some (.ref m), some (.int (nI d)), some (.int (nI (ps (x_day g d) i).1)), some (.int (nI i))] [] S n (bq_r I2 (m + 1) (ps (x_day g d) i).2) L P (qMo m I S n L P (mst q g h ch (I m 7) (w_pass g (nI d)))) := by
        refine bq_down (A := fun i => bq_W mX12_pass 4 78 0 0 50 [some (.ref m), some (.int (nI d)), some (.int (nI (ps (x_day g d) i).1)), some (.int (nI i))] [] S n (bq_r I2 (m + 1) (ps (x_day g d) i).2) L P (qMo m I S n L P (mst q g h ch (I m 7) (w_pass g (nI d))))) 6 ?_ ?_
        · refine q_iload_n (pc := 50) dX12_pass_50 rfl rfl ?_
          refine q_bipush (pc := 51) (v := nI 6) dX12_pass_51 (by decide) ?_
          refine q_icmp_ge (pc := 53) 105 dX12_pass_53 (by decide) (fun c_53 => ?_) (fun c_53 => absurd (by decide) c_53)
          refine q_iload_n (pc := 105) dX12_pass_105 rfl rfl ?_
          exact q_iret (st := []) (pc := 106) dX12_pass_106 rfl (qMo.mk (T2.r _) (by rw [hw]; unfold n_pass; rw [if_neg (by omega), mst_pos (nI_pos (ps_lt 6 (by decide)))]))
        · intro i hi ih
          obtain ⟨a1, a2, a3⟩ := ps_at hG hd hi
          obtain ⟨qt1, qt2, qt3, qt4, qt5, qt6⟩ := hG.t hi
          refine q_iload_n (pc := 50) dX12_pass_50 rfl rfl ?_
          refine q_bipush (pc := 51) (v := nI 6) dX12_pass_51 (by decide) ?_
          refine q_icmp_ge (pc := 53) 105 dX12_pass_53 (by decide) (fun c_53 => absurd c_53 (nI_ge hi (by decide))) (fun c_53 => ?_)
          refine q_aload_n (pc := 56) dX12_pass_56 rfl rfl ?_
          refine q_iload_n (pc := 57) dX12_pass_57 rfl rfl ?_
          refine q_iconst (pc := 58) (v := nI 1) dX12_pass_58 (by decide) ?_
          refine q_callVF (pc := 59) dX12_pass_59 kX12_73 (c_tA hm (t := i) (k := 1) (j := 11 + 19 * i) (by omega) (by omega)) (Model_sh hm) rfl (Model_lt hm) ⟨Nat.le_of_ble_eq_true rfl, Nat.le_of_ble_eq_true rfl⟩ rfl rfl (Nat.le_of_ble_eq_true rfl) ?_
          show bq_W _ _ _ _ _ 62 _ [_] _ _ _ _ _ _
          rw [bq_r_self, a1]
          refine q_iconst (pc := 62) (v := nI 3) dX12_pass_62 (by decide) ?_
          refine q_icmp_ne (pc := 63) 99 dX12_pass_63 (by decide) (fun c_63 => ?_) (fun c_63 => ?_)
          · have hno : ¬ (gn g (11 + 19 * i) = 3 ∧ gn g (12 + 19 * i) ≤ gn g 0 + d) := fun z => c_63 (by rw [z.1])
            refine q_iinc (pc := 99) (v := nI (i + 1)) dX12_pass_99 rfl (bq_inc _) (Nat.le_of_ble_eq_true rfl) rfl ?_
            show bq_W _ _ _ _ _ 102 [_, _, _, _] _ _ _ _ _ _ _
            refine q_goto (pc := 102) 50 dX12_pass_102 (by decide) ?_
            rw [ps_no hG hd hi hno] at ih
            exact ih
          · have h3 := (nI_eq (by omega) (by decide)).mp c_63
            refine q_aload_n (pc := 66) dX12_pass_66 rfl rfl ?_
            refine q_iload_n (pc := 67) dX12_pass_67 rfl rfl ?_
            refine q_iconst (pc := 68) (v := nI 2) dX12_pass_68 (by decide) ?_
            refine q_callVF (pc := 69) dX12_pass_69 kX12_73 (c_tA hm (t := i) (k := 2) (j := 12 + 19 * i) (by omega) (by omega)) (Model_sh hm) rfl (Model_lt hm) ⟨Nat.le_of_ble_eq_true rfl, Nat.le_of_ble_eq_true rfl⟩ rfl rfl (Nat.le_of_ble_eq_true rfl) ?_
            show bq_W _ _ _ _ _ 72 _ [_] _ _ _ _ _ _
            rw [bq_r_self, a2]
            refine q_aload_n (pc := 72) dX12_pass_72 rfl rfl ?_
            refine q_getP (pc := 73) dX12_pass_73 fX12_9 (Model_sh hm) ⟨by decide, rfl⟩ (Model_lt hm) (Model_p_g hm) ?_
            refine q_iconst (pc := 76) (v := nI 0) dX12_pass_76 (by decide) ?_
            refine q_iald (pc := 77) dX12_pass_77 (oA_sh (Model_s_g hm)) (oA_lt (Model_s_g hm)) rfl (by omega) ?_
            rw [bq_r_self, a3]
            refine q_icmp_gt (pc := 78) 99 dX12_pass_78 (by decide) (fun c_78 => ?_) (fun c_78 => ?_)
            · have hno : ¬ (gn g (11 + 19 * i) = 3 ∧ gn g (12 + 19 * i) ≤ gn g 0 + d) := fun z => nI_nlt z.2 (by omega) c_78
              refine q_iinc (pc := 99) (v := nI (i + 1)) dX12_pass_99 rfl (bq_inc _) (Nat.le_of_ble_eq_true rfl) rfl ?_
              show bq_W _ _ _ _ _ 102 [_, _, _, _] _ _ _ _ _ _ _
              refine q_goto (pc := 102) 50 dX12_pass_102 (by decide) ?_
              rw [ps_no hG hd hi hno] at ih
              exact ih
            · have hle : gn g (12 + 19 * i) ≤ gn g 0 + d := Nat.le_of_not_lt (fun z => c_78 (nI_lt z (by omega)))
              refine q_aload_n (pc := 81) dX12_pass_81 rfl rfl ?_
              refine q_getP (pc := 82) dX12_pass_82 fX12_9 (Model_sh hm) ⟨by decide, rfl⟩ (Model_lt hm) (Model_p_g hm) ?_
              refine q_bipush (pc := 85) (v := nI 10) dX12_pass_85 (by decide) ?_
              refine q_bipush (pc := 87) (v := nI 19) dX12_pass_87 (by decide) ?_
              refine q_iload_n (pc := 89) dX12_pass_89 rfl rfl ?_
              refine q_imulN (pc := 90) dX12_pass_90 ?_
              refine q_iaddN (pc := 91) dX12_pass_91 ?_
              refine q_iconst (pc := 92) (v := nI 1) dX12_pass_92 (by decide) ?_
              refine q_iaddN (pc := 93) dX12_pass_93 ?_
              refine q_iconst (pc := 94) (v := nI 0) dX12_pass_94 (by decide) ?_
              refine q_iast (pc := 95) dX12_pass_95 (oA_sh (Model_s_g hm)) (oA_lt (Model_s_g hm)) rfl (by omega) ?_
              refine q_iinc (pc := 96) (v := nI ((ps (x_day g d) i).1 + 1)) dX12_pass_96 rfl (bq_inc _) (Nat.le_of_ble_eq_true rfl) rfl ?_
              show bq_W _ _ _ _ _ 99 [_, _, _, _] _ _ _ _ _ _ _
              refine q_iinc (pc := 99) (v := nI (i + 1)) dX12_pass_99 rfl (bq_inc _) (Nat.le_of_ble_eq_true rfl) rfl ?_
              show bq_W _ _ _ _ _ 102 [_, _, _, _] _ _ _ _ _ _ _
              refine q_goto (pc := 102) 50 dX12_pass_102 (by decide) ?_
              rw [ps_yes hG hd hi h3 hle] at ih
              rw [bq_u_r, bq_r_self, bq_rr, show 10 + 19 * i + 1 = 11 + 19 * i by omega]
              exact ih
      rw [hI2]
      exact lp 0 (by decide)
    · refine q_aload_n (pc := 25) dX12_pass_25 rfl rfl ?_
      refine q_bipush (pc := 26) (v := nI 8) dX12_pass_26 (by decide) ?_
      refine q_callVF (pc := 28) dX12_pass_28 kX12_99 (c_X12_refuses hm) (Model_sh hm) rfl (Model_lt hm) ⟨Nat.le_of_ble_eq_true rfl, Nat.le_of_ble_eq_true rfl⟩ rfl rfl (Nat.le_of_ble_eq_true rfl) ?_
      show bq_W _ _ _ _ _ 31 _ [_] _ _ _ _ _ _
      exact q_iret (st := []) (pc := 31) dX12_pass_31 rfl (qMo.mk (T0.ref (nI 8)) (by first | (unfold w_pass; rw [if_pos c_8, mst_neg (u := nI 8) (by decide) (by decide)]) | (rw [hw]; unfold n_pass; rw [if_pos (Nat.lt_of_not_le fun z => c_22 (nI_le z (by decide))), mst_neg (u := nI 8) (by decide) (by decide)])))
