theorem q_astore_nN {M : BqM} {fr lo kc ks pc : Nat} {vs : List (Option Value)} {st : List Value} {S : BqH} {n : Nat} {I : BqI} {L : BqL} {P : BqP} {post : BqQ} {k0 : Fin 4} {i : Nat} (hd : decode M.2.1 pc = .ok (.astore_n k0, 1)) (hi : (k0 : Nat) = i) (hn : i < M.2.2.1) (hl : bq_nl vs i = true) (k : bq_W M fr lo kc ks (pc + 1) (vs.set i (some .null)) st S n I L P post) : bq_W M fr lo kc ks pc vs (.null :: st) S n I L P post := by
  intro l D b p e R s m args below meth c H locs cells slots mc ms ls C N hR hS hL
  exact lv_astore_nN C.1 C.2.1 hd hi hL.has hn rfl (fun ls' h => k l D b p e R s m args below meth c H locs cells slots mc ms ls' C N hR hS (bq_st1 (v := .null) h hl))
theorem q_astoreN {M : BqM} {fr lo kc ks pc : Nat} {vs : List (Option Value)} {st : List Value} {S : BqH} {n : Nat} {I : BqI} {L : BqL} {P : BqP} {post : BqQ} {i : Nat} (hd : decode M.2.1 pc = .ok (.astore i, 2)) (hn : i < M.2.2.1) (hl : bq_nl vs i = true) (k : bq_W M fr lo kc ks (pc + 2) (vs.set i (some .null)) st S n I L P post) : bq_W M fr lo kc ks pc vs (.null :: st) S n I L P post := by
  intro l D b p e R s m args below meth c H locs cells slots mc ms ls C N hR hS hL
  exact lv_astoreN C.1 C.2.1 hd hL.has hn rfl (fun ls' h => k l D b p e R s m args below meth c H locs cells slots mc ms ls' C N hR hS (bq_st1 (v := .null) h hl))
theorem q_aload_nN {M : BqM} {fr lo kc ks pc : Nat} {vs : List (Option Value)} {st : List Value} {S : BqH} {n : Nat} {I : BqI} {L : BqL} {P : BqP} {post : BqQ} {k0 : Fin 4} {i : Nat} (hd : decode M.2.1 pc = .ok (.aload_n k0, 1)) (hi : (k0 : Nat) = i) (hv : vs[i]? = some (some .null)) (k : bq_W M fr lo kc ks (pc + 1) vs (.null :: st) S n I L P post) : bq_W M fr lo kc ks pc vs st S n I L P post := by
  intro l D b p e R s m args below meth c H locs cells slots mc ms ls C N hR hS hL
  exact lv_aload_nN C.1 C.2.1 hd hi (hL.2.2 _ _ hv) (k l D b p e R s m args below meth c H locs cells slots mc ms ls C N hR hS hL)
theorem q_aloadN {M : BqM} {fr lo kc ks pc : Nat} {vs : List (Option Value)} {st : List Value} {S : BqH} {n : Nat} {I : BqI} {L : BqL} {P : BqP} {post : BqQ} {i : Nat} (hd : decode M.2.1 pc = .ok (.aload i, 2)) (hv : vs[i]? = some (some .null)) (k : bq_W M fr lo kc ks (pc + 2) vs (.null :: st) S n I L P post) : bq_W M fr lo kc ks pc vs st S n I L P post := by
  intro l D b p e R s m args below meth c H locs cells slots mc ms ls C N hR hS hL
  exact lv_aloadN C.1 C.2.1 hd (hL.2.2 _ _ hv) (k l D b p e R s m args below meth c H locs cells slots mc ms ls C N hR hS hL)
theorem w_pour_ok {f t : Nat} (hf : f < 6) (ht : t < 6) (hne : f ≠ t) : ¬ ((nI f < nI 0 ∨ ¬ nI f ≤ nI 5) ∨ (nI t < nI 0 ∨ ¬ nI t ≤ nI 5) ∨ nI f = nI t) := by
  rintro (h | h | h)
  · exact bq_nin (A := 0) (N := 5) (Nat.zero_le _) (by omega) (by omega) h
  · exact bq_nin (A := 0) (N := 5) (Nat.zero_le _) (by omega) (by omega) h
  · exact hne ((nI_eq (by omega) (by omega)).mp h)
def x_spill (g : BqG) (t l r : Nat) : BqG := g_loss (g_out g t (tk g t l)) (gn g 5) (tk g t l) (nI t) (nI l) r
def n_spill (g : BqG) (t l r : Nat) : Int32 × BqG := if ¬ gn g (11 + 19 * t) = 1 then ((-2), g) else if gt g t < l then ((-3), g) else (nI (gt g t - l), x_spill g t l r)
def w_spill (g : BqG) (t l r : Int32) : Int32 × BqG := if t < nI 0 ∨ ¬ t ≤ nI 5 then ((-1), g) else if (l < nI 1 ∨ ¬ l ≤ nI 9999) ∨ (r < nI 1 ∨ ¬ r ≤ nI 3) then ((-8), g) else n_spill g t.toNatClampNeg l.toNatClampNeg r.toNatClampNeg
theorem w_spill_n {g : BqG} {t l r : Nat} (ht : t < 6) (h1 : 1 ≤ l) (h2 : l ≤ 9999) (hr1 : 1 ≤ r) (hr2 : r ≤ 3) : w_spill g (nI t) (nI l) (nI r) = n_spill g t l r := by
  unfold w_spill
  rw [if_neg (bq_tin (k := 5) ht (by decide)), if_neg, nI_clamp (by omega), nI_clamp (by omega), nI_clamp (by omega)]
  rintro (h | h)
  · exact bq_nin h1 h2 (by decide) h
  · exact bq_nin hr1 hr2 (by decide) h
theorem x_spill_hi {g : BqG} {t l r k : Nat} (h : k = 6 ∨ (204 ≤ k ∧ k < 324)) (ht : t < 6) : x_spill g t l r k = g k := by
  unfold x_spill
  rw [g_loss_ne (by omega) (by omega), g_out_ne (by omega) (by omega)]
theorem g_out_p {g : BqG} {t b : Nat} {T : Nat → Int32} (hb : b < 16) : g_out g t T (13 + 19 * t + b) = g (13 + 19 * t + b) - T b := by
  have e : g_sub g t T (13 + 19 * t + b) = g (13 + 19 * t + b) - T b := by unfold g_sub; rw [if_pos (by omega), Nat.add_sub_cancel_left]
  unfold g_out; split
  · rw [bq_r_ne (by omega), e]
  · exact e
theorem g_loss_p {g : BqG} {m k r : Nat} {T : Nat → Int32} {t l : Int32} (h : k < 124) (h5 : k ≠ 5) : g_loss g m T t l r k = g k := g_loss_ne (Or.inl h) h5
theorem ns_sub {F G : Nat → Nat} : ∀ k, (∀ j, j < k → G j ≤ F j) → ns (fun j => F j - G j) k = ns F k - ns G k ∧ ns G k ≤ ns F k
  | 0, _ => ⟨rfl, Nat.le_refl _⟩
  | k + 1, h => by
    obtain ⟨h1, h2⟩ := ns_sub (F := F) (G := G) k (fun j hj => h j (by omega))
    have h3 := h k (by omega)
    unfold ns
    rw [h1]
    omega
theorem x_spill_left {g : BqG} {en t l r : Nat} (hG : GI g en) (ht : t < 6) (hge : l ≤ gt g t) (hpos : 0 < gt g t) : g_tot (x_spill g t l r) t = nI (gt g t - l) := by
  obtain ⟨nt1, nt2⟩ := npt_in (F := gp g t) hge hpos
  have e : ∀ j, j < 16 → x_spill g t l r (13 + 19 * t + j) = nI (gp g t j - npt (gp g t) l j) := fun j hj => by
    unfold x_spill
    rw [g_loss_p (by omega) (by omega), g_out_p hj, hG.p ht j hj]
    exact pk_sub (nt1 j hj).2.1
  have := bq_sum_n (f := fun b => x_spill g t l r (13 + 19 * t + b)) (F := fun j => gp g t j - npt (gp g t) l j) 16 e
  rw [(ns_sub 16 (fun j hj => (nt1 j hj).2.1)).1, nt2] at this
  exact this
def w_scrub (g : BqG) (t : Int32) : Int32 × BqG := if t < nI 0 ∨ ¬ t ≤ nI 5 then ((-1), g) else if gn g (11 + 19 * t.toNatClampNeg) = 2 then (nI (gn g 0 + 2), bq_r (bq_r g (11 + 19 * t.toNatClampNeg) (nI 3)) (12 + 19 * t.toNatClampNeg) (nI (gn g 0 + 2))) else ((-7), g)
theorem w_scrub_n {g : BqG} {t : Nat} (ht : t < 6) : w_scrub g (nI t) = if gn g (11 + 19 * t) = 2 then (nI (gn g 0 + 2), bq_r (bq_r g (11 + 19 * t) (nI 3)) (12 + 19 * t) (nI (gn g 0 + 2))) else ((-7), g) := by
  unfold w_scrub
  rw [if_neg (bq_tin (k := 5) ht (by decide)), nI_clamp (by omega)]
set_option maxHeartbeats 400000 in
set_option maxRecDepth 20000 in
theorem c_pour_a {S : BqH} {n : Nat} {I : BqI} {L : BqL} {P : BqP} {x : Nat} {g : BqG} {en : Nat} (hx : oX S n P x) (hC : CS I L (x + 1) g) (hG : GI g en) (hen : en < 2 ^ 29) {f t l : Int32} (hf : f < nI 0 ∨ ¬ f ≤ nI 5) (ht : t < nI 0 ∨ ¬ t ≤ nI 5) : bq_Sp mX11_pour 4 84 0 0 [.ref x, .int f, .int t, .int l] S n I L P (qCore x I L S n P (w_pour g f t l)) := by
  refine q_entry (vs := [some (.ref x), some (.int f), some (.int t), some (.int l), none, none, none, none]) (by decide +kernel) (by simp) (Nat.le_of_ble_eq_true rfl) rfl ?_
  refine q_aload_n (pc := 0) dX11_pour_0 rfl rfl ?_
  refine q_getP (pc := 1) dX11_pour_1 fX11_10 (Cellar_sh hx) ⟨by decide, rfl⟩ (Cellar_lt hx) (Cellar_p_state hx) ?_
  refine q_iload_n (pc := 4) dX11_pour_4 rfl rfl ?_
  refine q_callVF (pc := 5) dX11_pour_5 kX11_65 (c_tankAt0 (Cellar_s_state hx) hf) (State_sh (Cellar_s_state hx)) rfl (State_lt (Cellar_s_state hx)) ⟨Nat.le_of_ble_eq_true rfl, Nat.le_of_ble_eq_true rfl⟩ rfl rfl (Nat.le_of_ble_eq_true rfl) ?_
  show bq_W _ _ _ _ _ 8 _ [_] _ _ _ _ _ _
  refine q_astoreN (pc := 8) dX11_pour_8 (Nat.le_of_ble_eq_true rfl) rfl ?_
  show bq_W _ _ _ _ _ 10 [_, _, _, _, _, _, _, _] _ _ _ _ _ _ _
  refine q_aload_n (pc := 10) dX11_pour_10 rfl rfl ?_
  refine q_getP (pc := 11) dX11_pour_11 fX11_10 (Cellar_sh hx) ⟨by decide, rfl⟩ (Cellar_lt hx) (Cellar_p_state hx) ?_
  refine q_iload_n (pc := 14) dX11_pour_14 rfl rfl ?_
  refine q_callVF (pc := 15) dX11_pour_15 kX11_65 (c_tankAt0 (Cellar_s_state hx) ht) (State_sh (Cellar_s_state hx)) rfl (State_lt (Cellar_s_state hx)) ⟨Nat.le_of_ble_eq_true rfl, Nat.le_of_ble_eq_true rfl⟩ rfl rfl (Nat.le_of_ble_eq_true rfl) ?_
  show bq_W _ _ _ _ _ 18 _ [_] _ _ _ _ _ _
  refine q_astoreN (pc := 18) dX11_pour_18 (Nat.le_of_ble_eq_true rfl) rfl ?_
  show bq_W _ _ _ _ _ 20 [_, _, _, _, _, _, _, _] _ _ _ _ _ _ _
  refine q_aloadN (pc := 20) dX11_pour_20 rfl ?_
  refine q_ifnullN (pc := 22) 35 dX11_pour_22 (by decide) ?_
  refine q_iconst (pc := 35) (v := (-1)) dX11_pour_35 (by decide) ?_
  exact q_iret (st := []) (pc := 36) dX11_pour_36 rfl (qCore.same hC (by unfold w_pour; rw [if_pos (Or.inl hf)]))
set_option maxHeartbeats 400000 in
set_option maxRecDepth 20000 in
theorem c_pour_b {S : BqH} {n : Nat} {I : BqI} {L : BqL} {P : BqP} {x : Nat} {g : BqG} {en : Nat} (hx : oX S n P x) (hC : CS I L (x + 1) g) (hG : GI g en) (hen : en < 2 ^ 29) {f l : Int32} {t : Nat} (hf : f < nI 0 ∨ ¬ f ≤ nI 5) (ht : t < 6) : bq_Sp mX11_pour 4 84 0 0 [.ref x, .int f, .int (nI t), .int l] S n I L P (qCore x I L S n P (w_pour g f (nI t) l)) := by
  refine q_entry (vs := [some (.ref x), some (.int f), some (.int (nI t)), some (.int l), none, none, none, none]) (by decide +kernel) (by simp) (Nat.le_of_ble_eq_true rfl) rfl ?_
  refine q_aload_n (pc := 0) dX11_pour_0 rfl rfl ?_
  refine q_getP (pc := 1) dX11_pour_1 fX11_10 (Cellar_sh hx) ⟨by decide, rfl⟩ (Cellar_lt hx) (Cellar_p_state hx) ?_
  refine q_iload_n (pc := 4) dX11_pour_4 rfl rfl ?_
  refine q_callVF (pc := 5) dX11_pour_5 kX11_65 (c_tankAt0 (Cellar_s_state hx) hf) (State_sh (Cellar_s_state hx)) rfl (State_lt (Cellar_s_state hx)) ⟨Nat.le_of_ble_eq_true rfl, Nat.le_of_ble_eq_true rfl⟩ rfl rfl (Nat.le_of_ble_eq_true rfl) ?_
  show bq_W _ _ _ _ _ 8 _ [_] _ _ _ _ _ _
  refine q_astoreN (pc := 8) dX11_pour_8 (Nat.le_of_ble_eq_true rfl) rfl ?_
  show bq_W _ _ _ _ _ 10 [_, _, _, _, _, _, _, _] _ _ _ _ _ _ _
  refine q_aload_n (pc := 10) dX11_pour_10 rfl rfl ?_
  refine q_getP (pc := 11) dX11_pour_11 fX11_10 (Cellar_sh hx) ⟨by decide, rfl⟩ (Cellar_lt hx) (Cellar_p_state hx) ?_
  refine q_iload_n (pc := 14) dX11_pour_14 rfl rfl ?_
  refine q_callVF (pc := 15) dX11_pour_15 kX11_65 (c_tankAt (Cellar_s_state hx) ht) (State_sh (Cellar_s_state hx)) rfl (State_lt (Cellar_s_state hx)) ⟨Nat.le_of_ble_eq_true rfl, Nat.le_of_ble_eq_true rfl⟩ rfl rfl (Nat.le_of_ble_eq_true rfl) ?_
  show bq_W _ _ _ _ _ 18 _ [_] _ _ _ _ _ _
  refine q_astore (pc := 18) dX11_pour_18 (Nat.le_of_ble_eq_true rfl) rfl ?_
  show bq_W _ _ _ _ _ 20 [_, _, _, _, _, _, _, _] _ _ _ _ _ _ _
  refine q_aloadN (pc := 20) dX11_pour_20 rfl ?_
  refine q_ifnullN (pc := 22) 35 dX11_pour_22 (by decide) ?_
  refine q_iconst (pc := 35) (v := (-1)) dX11_pour_35 (by decide) ?_
  exact q_iret (st := []) (pc := 36) dX11_pour_36 rfl (qCore.same hC (by unfold w_pour; rw [if_pos (Or.inl hf)]))
set_option maxHeartbeats 400000 in
set_option maxRecDepth 20000 in
theorem c_pour_c {S : BqH} {n : Nat} {I : BqI} {L : BqL} {P : BqP} {x : Nat} {g : BqG} {en : Nat} (hx : oX S n P x) (hC : CS I L (x + 1) g) (hG : GI g en) (hen : en < 2 ^ 29) {t l : Int32} {f : Nat} (hf : f < 6) (ht : t < nI 0 ∨ ¬ t ≤ nI 5) : bq_Sp mX11_pour 4 84 0 0 [.ref x, .int (nI f), .int t, .int l] S n I L P (qCore x I L S n P (w_pour g (nI f) t l)) := by
  refine q_entry (vs := [some (.ref x), some (.int (nI f)), some (.int t), some (.int l), none, none, none, none]) (by decide +kernel) (by simp) (Nat.le_of_ble_eq_true rfl) rfl ?_
  refine q_aload_n (pc := 0) dX11_pour_0 rfl rfl ?_
  refine q_getP (pc := 1) dX11_pour_1 fX11_10 (Cellar_sh hx) ⟨by decide, rfl⟩ (Cellar_lt hx) (Cellar_p_state hx) ?_
  refine q_iload_n (pc := 4) dX11_pour_4 rfl rfl ?_
  refine q_callVF (pc := 5) dX11_pour_5 kX11_65 (c_tankAt (Cellar_s_state hx) hf) (State_sh (Cellar_s_state hx)) rfl (State_lt (Cellar_s_state hx)) ⟨Nat.le_of_ble_eq_true rfl, Nat.le_of_ble_eq_true rfl⟩ rfl rfl (Nat.le_of_ble_eq_true rfl) ?_
  show bq_W _ _ _ _ _ 8 _ [_] _ _ _ _ _ _
  refine q_astore (pc := 8) dX11_pour_8 (Nat.le_of_ble_eq_true rfl) rfl ?_
  show bq_W _ _ _ _ _ 10 [_, _, _, _, _, _, _, _] _ _ _ _ _ _ _
  refine q_aload_n (pc := 10) dX11_pour_10 rfl rfl ?_
  refine q_getP (pc := 11) dX11_pour_11 fX11_10 (Cellar_sh hx) ⟨by decide, rfl⟩ (Cellar_lt hx) (Cellar_p_state hx) ?_
  refine q_iload_n (pc := 14) dX11_pour_14 rfl rfl ?_
  refine q_callVF (pc := 15) dX11_pour_15 kX11_65 (c_tankAt0 (Cellar_s_state hx) ht) (State_sh (Cellar_s_state hx)) rfl (State_lt (Cellar_s_state hx)) ⟨Nat.le_of_ble_eq_true rfl, Nat.le_of_ble_eq_true rfl⟩ rfl rfl (Nat.le_of_ble_eq_true rfl) ?_
  show bq_W _ _ _ _ _ 18 _ [_] _ _ _ _ _ _
  refine q_astoreN (pc := 18) dX11_pour_18 (Nat.le_of_ble_eq_true rfl) rfl ?_
  show bq_W _ _ _ _ _ 20 [_, _, _, _, _, _, _, _] _ _ _ _ _ _ _
  refine q_aload (pc := 20) dX11_pour_20 rfl ?_
  refine q_ifnull (pc := 22) dX11_pour_22 ?_
  refine q_aloadN (pc := 25) dX11_pour_25 rfl ?_
  refine q_ifnullN (pc := 27) 35 dX11_pour_27 (by decide) ?_
  refine q_iconst (pc := 35) (v := (-1)) dX11_pour_35 (by decide) ?_
  exact q_iret (st := []) (pc := 36) dX11_pour_36 rfl (qCore.same hC (by unfold w_pour; rw [if_pos (Or.inr (Or.inl ht))]))
set_option maxHeartbeats 400000 in
set_option maxRecDepth 20000 in
theorem c_pour_d {S : BqH} {n : Nat} {I : BqI} {L : BqL} {P : BqP} {x : Nat} {g : BqG} {en : Nat} (hx : oX S n P x) (hC : CS I L (x + 1) g) (hG : GI g en) (hen : en < 2 ^ 29) {l : Int32} {t : Nat} (ht : t < 6) : bq_Sp mX11_pour 4 84 0 0 [.ref x, .int (nI t), .int (nI t), .int l] S n I L P (qCore x I L S n P (w_pour g (nI t) (nI t) l)) := by
  refine q_entry (vs := [some (.ref x), some (.int (nI t)), some (.int (nI t)), some (.int l), none, none, none, none]) (by decide +kernel) (by simp) (Nat.le_of_ble_eq_true rfl) rfl ?_
  refine q_aload_n (pc := 0) dX11_pour_0 rfl rfl ?_
  refine q_getP (pc := 1) dX11_pour_1 fX11_10 (Cellar_sh hx) ⟨by decide, rfl⟩ (Cellar_lt hx) (Cellar_p_state hx) ?_
  refine q_iload_n (pc := 4) dX11_pour_4 rfl rfl ?_
  refine q_callVF (pc := 5) dX11_pour_5 kX11_65 (c_tankAt (Cellar_s_state hx) ht) (State_sh (Cellar_s_state hx)) rfl (State_lt (Cellar_s_state hx)) ⟨Nat.le_of_ble_eq_true rfl, Nat.le_of_ble_eq_true rfl⟩ rfl rfl (Nat.le_of_ble_eq_true rfl) ?_
  show bq_W _ _ _ _ _ 8 _ [_] _ _ _ _ _ _
  refine q_astore (pc := 8) dX11_pour_8 (Nat.le_of_ble_eq_true rfl) rfl ?_
  show bq_W _ _ _ _ _ 10 [_, _, _, _, _, _, _, _] _ _ _ _ _ _ _
  refine q_aload_n (pc := 10) dX11_pour_10 rfl rfl ?_
  refine q_getP (pc := 11) dX11_pour_11 fX11_10 (Cellar_sh hx) ⟨by decide, rfl⟩ (Cellar_lt hx) (Cellar_p_state hx) ?_
  refine q_iload_n (pc := 14) dX11_pour_14 rfl rfl ?_
  refine q_callVF (pc := 15) dX11_pour_15 kX11_65 (c_tankAt (Cellar_s_state hx) ht) (State_sh (Cellar_s_state hx)) rfl (State_lt (Cellar_s_state hx)) ⟨Nat.le_of_ble_eq_true rfl, Nat.le_of_ble_eq_true rfl⟩ rfl rfl (Nat.le_of_ble_eq_true rfl) ?_
  show bq_W _ _ _ _ _ 18 _ [_] _ _ _ _ _ _
  refine q_astore (pc := 18) dX11_pour_18 (Nat.le_of_ble_eq_true rfl) rfl ?_
  show bq_W _ _ _ _ _ 20 [_, _, _, _, _, _, _, _] _ _ _ _ _ _ _
  refine q_aload (pc := 20) dX11_pour_20 rfl ?_
  refine q_ifnull (pc := 22) dX11_pour_22 ?_
  refine q_aload (pc := 25) dX11_pour_25 rfl ?_
  refine q_ifnull (pc := 27) dX11_pour_27 ?_
  refine q_iload_n (pc := 30) dX11_pour_30 rfl rfl ?_
  refine q_iload_n (pc := 31) dX11_pour_31 rfl rfl ?_
  refine q_icmp_ne (pc := 32) 37 dX11_pour_32 (by decide) (fun c_32 => (c_32 rfl).elim) (fun c_32 => ?_)
  refine q_iconst (pc := 35) (v := (-1)) dX11_pour_35 (by decide) ?_
  exact q_iret (st := []) (pc := 36) dX11_pour_36 rfl (qCore.same hC (by unfold w_pour; rw [if_pos (Or.inr (Or.inr rfl))]))
set_option maxHeartbeats 400000 in
set_option maxRecDepth 20000 in
theorem c_pour_e {S : BqH} {n : Nat} {I : BqI} {L : BqL} {P : BqP} {x : Nat} {g : BqG} {en : Nat} (hx : oX S n P x) (hC : CS I L (x + 1) g) (hG : GI g en) (hen : en < 2 ^ 29) {f t : Nat} {l : Int32} (hf : f < 6) (ht : t < 6) (hne : f ≠ t) (hl : l < nI 1 ∨ ¬ l ≤ nI 9999) : bq_Sp mX11_pour 4 84 0 0 [.ref x, .int (nI f), .int (nI t), .int l] S n I L P (qCore x I L S n P (w_pour g (nI f) (nI t) l)) := by
  refine q_entry (vs := [some (.ref x), some (.int (nI f)), some (.int (nI t)), some (.int l), none, none, none, none]) (by decide +kernel) (by simp) (Nat.le_of_ble_eq_true rfl) rfl ?_
  refine q_aload_n (pc := 0) dX11_pour_0 rfl rfl ?_
  refine q_getP (pc := 1) dX11_pour_1 fX11_10 (Cellar_sh hx) ⟨by decide, rfl⟩ (Cellar_lt hx) (Cellar_p_state hx) ?_
  refine q_iload_n (pc := 4) dX11_pour_4 rfl rfl ?_
  refine q_callVF (pc := 5) dX11_pour_5 kX11_65 (c_tankAt (Cellar_s_state hx) hf) (State_sh (Cellar_s_state hx)) rfl (State_lt (Cellar_s_state hx)) ⟨Nat.le_of_ble_eq_true rfl, Nat.le_of_ble_eq_true rfl⟩ rfl rfl (Nat.le_of_ble_eq_true rfl) ?_
  show bq_W _ _ _ _ _ 8 _ [_] _ _ _ _ _ _
  refine q_astore (pc := 8) dX11_pour_8 (Nat.le_of_ble_eq_true rfl) rfl ?_
  show bq_W _ _ _ _ _ 10 [_, _, _, _, _, _, _, _] _ _ _ _ _ _ _
  refine q_aload_n (pc := 10) dX11_pour_10 rfl rfl ?_
  refine q_getP (pc := 11) dX11_pour_11 fX11_10 (Cellar_sh hx) ⟨by decide, rfl⟩ (Cellar_lt hx) (Cellar_p_state hx) ?_
  refine q_iload_n (pc := 14) dX11_pour_14 rfl rfl ?_
  refine q_callVF (pc := 15) dX11_pour_15 kX11_65 (c_tankAt (Cellar_s_state hx) ht) (State_sh (Cellar_s_state hx)) rfl (State_lt (Cellar_s_state hx)) ⟨Nat.le_of_ble_eq_true rfl, Nat.le_of_ble_eq_true rfl⟩ rfl rfl (Nat.le_of_ble_eq_true rfl) ?_
  show bq_W _ _ _ _ _ 18 _ [_] _ _ _ _ _ _
  refine q_astore (pc := 18) dX11_pour_18 (Nat.le_of_ble_eq_true rfl) rfl ?_
  show bq_W _ _ _ _ _ 20 [_, _, _, _, _, _, _, _] _ _ _ _ _ _ _
  refine q_aload (pc := 20) dX11_pour_20 rfl ?_
  refine q_ifnull (pc := 22) dX11_pour_22 ?_
  refine q_aload (pc := 25) dX11_pour_25 rfl ?_
  refine q_ifnull (pc := 27) dX11_pour_27 ?_
  refine q_iload_n (pc := 30) dX11_pour_30 rfl rfl ?_
  refine q_iload_n (pc := 31) dX11_pour_31 rfl rfl ?_
  refine q_icmp_ne (pc := 32) 37 dX11_pour_32 (by decide) (fun c_32 => ?_) (fun c_32 => (hne ((nI_eq (by omega) (by omega)).mp c_32)).elim)
  refine q_iload_n (pc := 37) dX11_pour_37 rfl rfl ?_
  refine q_iconst (pc := 38) (v := nI 1) dX11_pour_38 (by decide) ?_
  refine q_sipush (pc := 39) (v := nI 9999) dX11_pour_39 (by decide) ?_
  refine q_callSF (pc := 42) dX11_pour_42 kX11_69 c_X11_outside ⟨Nat.le_of_ble_eq_true rfl, Nat.le_of_ble_eq_true rfl⟩ rfl rfl (Nat.le_of_ble_eq_true rfl) ?_
  show bq_W _ _ _ _ _ 45 _ [_] _ _ _ _ _ _
  refine q_if_eq (pc := 45) 51 dX11_pour_45 (by decide) (fun c_45 => (bq_b0.mp c_45 hl).elim) (fun c_45 => ?_)
  refine q_bipush (pc := 48) (v := (-8)) dX11_pour_48 (by decide) ?_
  exact q_iret (st := []) (pc := 50) dX11_pour_50 rfl (qCore.same hC (by unfold w_pour; rw [if_neg (w_pour_ok hf ht hne), if_pos hl]))
theorem c_pour {S : BqH} {n : Nat} {I : BqI} {L : BqL} {P : BqP} {x : Nat} {g : BqG} {en : Nat} (hx : oX S n P x) (hC : CS I L (x + 1) g) (hG : GI g en) (hen : en < 2 ^ 29) {f t l : Int32} : bq_Sp mX11_pour 4 84 0 0 [.ref x, .int f, .int t, .int l] S n I L P (qCore x I L S n P (w_pour g f t l)) := by
  rcases bq_in5 f 5 (by decide) with hf | ⟨f, hf, rfl⟩
  · rcases bq_in5 t 5 (by decide) with ht | ⟨t, ht, rfl⟩
    · exact c_pour_a hx hC hG hen hf ht
    · exact c_pour_b hx hC hG hen hf ht
  · rcases bq_in5 t 5 (by decide) with ht | ⟨t, ht, rfl⟩
    · exact c_pour_c hx hC hG hen hf ht
    · by_cases hne : f = t
      · subst hne; exact c_pour_d hx hC hG hen hf
      · rcases bq_in19 l 1 9999 (by decide) (by decide) with hl | ⟨l, h1, h2, rfl⟩
        · exact c_pour_e hx hC hG hen hf ht hne hl
        · rw [w_pour_n hf ht hne h1 h2]; exact c_pour_n hx hC hG hen hf ht hne h1 h2
set_option maxHeartbeats 720000 in
set_option maxRecDepth 20000 in
theorem c_spill_n {S : BqH} {n : Nat} {I : BqI} {L : BqL} {P : BqP} {x : Nat} {g : BqG} {en : Nat} (hx : oX S n P x) (hC : CS I L (x + 1) g) (hG : GI g en) (hen : en < 2 ^ 29) {t l r : Nat} (ht : t < 6) (h1 : 1 ≤ l) (h2 : l ≤ 9999) (hr1 : 1 ≤ r) (hr2 : r ≤ 3) : bq_Sp mX11_spill 4 84 0 0 [.ref x, .int (nI t), .int (nI l), .int (nI r)] S n I L P (qCore x I L S n P (n_spill g t l r)) := by
  refine q_entry (vs := [some (.ref x), some (.int (nI t)), some (.int (nI l)), some (.int (nI r)), none]) (by decide +kernel) (by simp) (Nat.le_of_ble_eq_true rfl) rfl ?_
  have ht1 : I (x + 1 + 15 + 3 * t) 1 = nI (gn g (11 + 19 * t)) := hC.1.tn1 hG ht
  have hpt : ∀ j, j < 16 → I (x + 1 + 15 + 3 * t + 1 + 1) j = nI (gp g t j) := hC.1.pn hG ht
  have htt : bq_sum (I (x + 1 + 15 + 3 * t + 1 + 1)) 16 = nI (gt g t) := bq_sum_n 16 hpt
  obtain ⟨qt1, qt2, qt3, qt4, qt5, qt6⟩ := hG.t ht
  have hm : gn g 5 ≤ en := hG.2.2.2.2.2.2.1
  refine q_aload_n (pc := 0) dX11_spill_0 rfl rfl ?_
  refine q_getP (pc := 1) dX11_spill_1 fX11_10 (Cellar_sh hx) ⟨by decide, rfl⟩ (Cellar_lt hx) (Cellar_p_state hx) ?_
  refine q_iload_n (pc := 4) dX11_spill_4 rfl rfl ?_
  refine q_callVF (pc := 5) dX11_spill_5 kX11_65 (c_tankAt (Cellar_s_state hx) ht) (State_sh (Cellar_s_state hx)) rfl (State_lt (Cellar_s_state hx)) ⟨Nat.le_of_ble_eq_true rfl, Nat.le_of_ble_eq_true rfl⟩ rfl rfl (Nat.le_of_ble_eq_true rfl) ?_
  show bq_W _ _ _ _ _ 8 _ [_] _ _ _ _ _ _
  refine q_astore (pc := 8) dX11_spill_8 (Nat.le_of_ble_eq_true rfl) rfl ?_
  show bq_W _ _ _ _ _ 10 [_, _, _, _, _] _ _ _ _ _ _ _
  refine q_aload (pc := 10) dX11_spill_10 rfl ?_
  refine q_ifnonnull (pc := 12) 17 dX11_spill_12 (by decide) ?_
  refine q_iload_n (pc := 17) dX11_spill_17 rfl rfl ?_
  refine q_iconst (pc := 18) (v := nI 1) dX11_spill_18 (by decide) ?_
  refine q_sipush (pc := 19) (v := nI 9999) dX11_spill_19 (by decide) ?_
  refine q_callSF (pc := 22) dX11_spill_22 kX11_69 c_X11_outside ⟨Nat.le_of_ble_eq_true rfl, Nat.le_of_ble_eq_true rfl⟩ rfl rfl (Nat.le_of_ble_eq_true rfl) ?_
  show bq_W _ _ _ _ _ 25 _ [_] _ _ _ _ _ _
  refine q_if_ne (pc := 25) 37 dX11_spill_25 (by decide) (fun c_25 => (bq_nin h1 h2 (by decide) (bq_bn.mp (fun z => c_25 z))).elim) (fun c_25 => ?_)
  refine q_iload_n (pc := 28) dX11_spill_28 rfl rfl ?_
  refine q_iconst (pc := 29) (v := nI 1) dX11_spill_29 (by decide) ?_
  refine q_iconst (pc := 30) (v := nI 3) dX11_spill_30 (by decide) ?_
  refine q_callSF (pc := 31) dX11_spill_31 kX11_69 c_X11_outside ⟨Nat.le_of_ble_eq_true rfl, Nat.le_of_ble_eq_true rfl⟩ rfl rfl (Nat.le_of_ble_eq_true rfl) ?_
  show bq_W _ _ _ _ _ 34 _ [_] _ _ _ _ _ _
  refine q_if_eq (pc := 34) 40 dX11_spill_34 (by decide) (fun c_34 => ?_) (fun c_34 => (bq_nin hr1 hr2 (by decide) (bq_bn.mp c_34)).elim)
  refine q_aload (pc := 40) dX11_spill_40 rfl ?_
  refine q_getI (pc := 42) dX11_spill_42 fX11_101 (Tank_sh (Statetanks_s_el (Cellar_s_state hx) ht)) ⟨by decide, rfl⟩ (Tank_lt (Statetanks_s_el (Cellar_s_state hx) ht)) ?_
  rw [ht1]
  refine q_iconst (pc := 45) (v := nI 1) dX11_spill_45 (by decide) ?_
  refine q_icmp_eq (pc := 46) 52 dX11_spill_46 (by decide) (fun c_46 => ?_) (fun c_46 => ?_)
  · refine q_aload (pc := 52) dX11_spill_52 rfl ?_
    refine q_getP (pc := 54) dX11_spill_54 fX11_73 (Tank_sh (Statetanks_s_el (Cellar_s_state hx) ht)) ⟨by decide, rfl⟩ (Tank_lt (Statetanks_s_el (Cellar_s_state hx) ht)) (Tank_p_content (Statetanks_s_el (Cellar_s_state hx) ht)) ?_
    refine q_callVF (pc := 57) dX11_spill_57 kX11_79 (c_X0_total (Tank_s_content (Statetanks_s_el (Cellar_s_state hx) ht))) (Blend_sh (Tank_s_content (Statetanks_s_el (Cellar_s_state hx) ht))) rfl (Blend_lt (Tank_s_content (Statetanks_s_el (Cellar_s_state hx) ht))) ⟨Nat.le_of_ble_eq_true rfl, Nat.le_of_ble_eq_true rfl⟩ rfl rfl (Nat.le_of_ble_eq_true rfl) ?_
    show bq_W _ _ _ _ _ 60 _ [_] _ _ _ _ _ _
    rw [htt]
    refine q_iload_n (pc := 60) dX11_spill_60 rfl rfl ?_
    refine q_icmp_ge (pc := 61) 67 dX11_spill_61 (by decide) (fun c_61 => ?_) (fun c_61 => ?_)
    · have hge : l ≤ gt g t := (nI_leI (by omega) (by omega)).mp c_61
      rw [show n_spill g t l r = (nI (gt g t - l), x_spill g t l r) from by unfold n_spill; rw [if_neg (not_not_intro ((nI_eq (by omega) (by omega)).mp c_46)), if_neg (Nat.not_lt.mpr hge)]]
      have hpos : 0 < gt g t := by omega
      have htb : gt g t ≤ 9999 := by omega
      obtain ⟨nt1, nt2⟩ := npt_in (F := gp g t) hge hpos
      refine q_aload_n (pc := 67) dX11_spill_67 rfl rfl ?_
      refine q_getP (pc := 68) dX11_spill_68 fX11_55 (Cellar_sh hx) ⟨by decide, rfl⟩ (Cellar_lt hx) (Cellar_p_taken hx) ?_
      refine q_aload (pc := 71) dX11_spill_71 rfl ?_
      refine q_getP (pc := 73) dX11_spill_73 fX11_73 (Tank_sh (Statetanks_s_el (Cellar_s_state hx) ht)) ⟨by decide, rfl⟩ (Tank_lt (Statetanks_s_el (Cellar_s_state hx) ht)) (Tank_p_content (Statetanks_s_el (Cellar_s_state hx) ht)) ?_
      refine q_iload_n (pc := 76) dX11_spill_76 rfl rfl ?_
      refine q_callV (pc := 77) dX11_spill_77 kX11_339 (c_take (Cellar_s_taken hx) (Tank_s_content (Statetanks_s_el (Cellar_s_state hx) ht)) (by omega) (by omega) (pm_n hpt hge hpos htb).2 (by omega)) (Portion_sh (Cellar_s_taken hx)) rfl (Portion_lt (Cellar_s_taken hx)) ⟨Nat.le_of_ble_eq_true rfl, Nat.le_of_ble_eq_true rfl⟩ rfl rfl (Nat.le_of_ble_eq_true rfl) ?_
      rintro _ _ _ I1 L1 P1 ⟨rfl, rfl, rfl, rfl, rfl, f1, t1⟩
      show bq_W _ _ _ _ _ 80 _ [] _ _ _ _ _ _
      have hC1 : CSI I1 (x + 1) g := hC.1.fr (fun a ha => f1 _ (by omega) (by omega))
      have hT1 : ∀ j, j < 16 → I1 (x + 157 + 1 + 1) j = tk g t l j := fun j hj => (t1 j hj).trans (pt_n hpt hge hpos htb j hj)
      have hF1 : Frm x I I1 := Frm.rf.take (p := x + 157) f1 ⟨Or.inr (by omega), Or.inr (by omega)⟩
      refine q_aload (pc := 80) dX11_spill_80 rfl ?_
      refine q_aload_n (pc := 82) dX11_spill_82 rfl rfl ?_
      refine q_getP (pc := 83) dX11_spill_83 fX11_55 (Cellar_sh hx) ⟨by decide, rfl⟩ (Cellar_lt hx) (Cellar_p_taken hx) ?_
      refine q_getP (pc := 86) dX11_spill_86 fX11_343 (Portion_sh (Cellar_s_taken hx)) ⟨by decide, rfl⟩ (Portion_lt (Cellar_s_taken hx)) (Portion_p_blend (Cellar_s_taken hx)) ?_
      refine q_callVF (pc := 89) dX11_spill_89 kX11_346 (c_X9_giveOut (Statetanks_s_el (Cellar_s_state hx) ht) (Portion_s_blend (Cellar_s_taken hx))) (Tank_sh (Statetanks_s_el (Cellar_s_state hx) ht)) rfl (Tank_lt (Statetanks_s_el (Cellar_s_state hx) ht)) ⟨Nat.le_of_ble_eq_true rfl, Nat.le_of_ble_eq_true rfl⟩ rfl rfl (Nat.le_of_ble_eq_true rfl) ?_
      show bq_W _ _ _ _ _ 92 _ [] _ _ _ _ _ _
      refine q_nameI (fun I2 e2 => ?_)
      have hC2 : CSI I2 (x + 1) (g_out g t (tk g t l)) := by rw [e2]; exact hC1.out ht (Or.inr (by omega)) hT1
      have hT2 : ∀ j, j < 16 → I2 (x + 157 + 1 + 1) j = tk g t l j := fun j hj => by rw [e2, tk_out_ne (by omega) (by omega) (by omega)]; exact hT1 j hj
      have hF2 : Frm x I I2 := by rw [e2]; exact hF1.out (by omega) ⟨Or.inl (by omega), Or.inl (by omega)⟩
      have hm2 : I2 (x + 1 + 13) 0 = nI (gn g 5) := (hC2.at (k := 5) rfl).trans ((g_out_ne (Or.inl (by omega)) (by omega)).trans (hG.n (by decide) (by decide)))
      refine q_aload_n (pc := 92) dX11_spill_92 rfl rfl ?_
      refine q_getP (pc := 93) dX11_spill_93 fX11_10 (Cellar_sh hx) ⟨by decide, rfl⟩ (Cellar_lt hx) (Cellar_p_state hx) ?_
      refine q_iload_n (pc := 96) dX11_spill_96 rfl rfl ?_
      refine q_aload_n (pc := 97) dX11_spill_97 rfl rfl ?_
      refine q_getP (pc := 98) dX11_spill_98 fX11_55 (Cellar_sh hx) ⟨by decide, rfl⟩ (Cellar_lt hx) (Cellar_p_taken hx) ?_
      refine q_getP (pc := 101) dX11_spill_101 fX11_343 (Portion_sh (Cellar_s_taken hx)) ⟨by decide, rfl⟩ (Portion_lt (Cellar_s_taken hx)) (Portion_p_blend (Cellar_s_taken hx)) ?_
      refine q_iload_n (pc := 104) dX11_spill_104 rfl rfl ?_
      refine q_iload_n (pc := 105) dX11_spill_105 rfl rfl ?_
      refine q_callVF (pc := 106) dX11_spill_106 kX11_353 (c_X8_writeOff (Cellar_s_state hx) (Portion_s_blend (Cellar_s_taken hx)) (show r < 4 by omega) (wo_pre (by omega) hm2) (by omega)) (State_sh (Cellar_s_state hx)) rfl (State_lt (Cellar_s_state hx)) ⟨Nat.le_of_ble_eq_true rfl, Nat.le_of_ble_eq_true rfl⟩ rfl rfl (Nat.le_of_ble_eq_true rfl) ?_
      show bq_W _ _ _ _ _ 109 _ [] _ _ _ _ _ _
      refine q_nameI (fun I3 e3 => ?_)
      have hC3 : CSI I3 (x + 1) (x_spill g t l r) := by rw [e3]; exact hC2.wo (Or.inr (by omega)) (by omega) hT2
      have hF3 : Frm x I I3 := by rw [e3]; exact hF2.wo (by omega)
      have hleft : bq_sum (I3 (x + 1 + 15 + 3 * t + 1 + 1)) 16 = nI (gt g t - l) := by rw [show x + 1 + 15 + 3 * t + 1 + 1 = x + 1 + (17 + 3 * t) by omega, hC3.tot ht]; exact x_spill_left hG ht hge hpos
      refine q_aload (pc := 109) dX11_spill_109 rfl ?_
      refine q_getP (pc := 111) dX11_spill_111 fX11_73 (Tank_sh (Statetanks_s_el (Cellar_s_state hx) ht)) ⟨by decide, rfl⟩ (Tank_lt (Statetanks_s_el (Cellar_s_state hx) ht)) (Tank_p_content (Statetanks_s_el (Cellar_s_state hx) ht)) ?_
      refine q_callVF (pc := 114) dX11_spill_114 kX11_79 (c_X0_total (Tank_s_content (Statetanks_s_el (Cellar_s_state hx) ht))) (Blend_sh (Tank_s_content (Statetanks_s_el (Cellar_s_state hx) ht))) rfl (Blend_lt (Tank_s_content (Statetanks_s_el (Cellar_s_state hx) ht))) ⟨Nat.le_of_ble_eq_true rfl, Nat.le_of_ble_eq_true rfl⟩ rfl rfl (Nat.le_of_ble_eq_true rfl) ?_
      show bq_W _ _ _ _ _ 117 _ [_] _ _ _ _ _ _
      rw [hleft]
      exact q_iret (st := []) (pc := 117) dX11_spill_117 rfl ⟨rfl, rfl, rfl, rfl, ⟨hC3, hC.2.congr (show x_spill g t l r 6 = g 6 from x_spill_hi (Or.inl rfl) ht) (fun k k1 k2 => show x_spill g t l r k = g k from x_spill_hi (Or.inr ⟨k1, by omega⟩) ht)⟩, hF3, FrmL.rf⟩
    · refine q_bipush (pc := 64) (v := (-3)) dX11_spill_64 (by decide) ?_
      exact q_iret (st := []) (pc := 66) dX11_spill_66 rfl (qCore.same hC (by unfold n_spill; rw [if_neg (not_not_intro ((nI_eq (by omega) (by omega)).mp c_46)), if_pos (Nat.lt_of_not_le fun q => c_61 (nI_le q (by omega)))]))
  · refine q_bipush (pc := 49) (v := (-2)) dX11_spill_49 (by decide) ?_
    exact q_iret (st := []) (pc := 51) dX11_spill_51 rfl (qCore.same hC (by unfold n_spill; rw [if_pos (fun q => c_46 (by rw [q]))]))
set_option maxHeartbeats 400000 in
set_option maxRecDepth 20000 in
theorem c_spill_a {S : BqH} {n : Nat} {I : BqI} {L : BqL} {P : BqP} {x : Nat} {g : BqG} {en : Nat} (hx : oX S n P x) (hC : CS I L (x + 1) g) (hG : GI g en) (hen : en < 2 ^ 29) {t l r : Int32} (ht : t < nI 0 ∨ ¬ t ≤ nI 5) : bq_Sp mX11_spill 4 84 0 0 [.ref x, .int t, .int l, .int r] S n I L P (qCore x I L S n P (w_spill g t l r)) := by
  refine q_entry (vs := [some (.ref x), some (.int t), some (.int l), some (.int r), none]) (by decide +kernel) (by simp) (Nat.le_of_ble_eq_true rfl) rfl ?_
  refine q_aload_n (pc := 0) dX11_spill_0 rfl rfl ?_
  refine q_getP (pc := 1) dX11_spill_1 fX11_10 (Cellar_sh hx) ⟨by decide, rfl⟩ (Cellar_lt hx) (Cellar_p_state hx) ?_
  refine q_iload_n (pc := 4) dX11_spill_4 rfl rfl ?_
  refine q_callVF (pc := 5) dX11_spill_5 kX11_65 (c_tankAt0 (Cellar_s_state hx) ht) (State_sh (Cellar_s_state hx)) rfl (State_lt (Cellar_s_state hx)) ⟨Nat.le_of_ble_eq_true rfl, Nat.le_of_ble_eq_true rfl⟩ rfl rfl (Nat.le_of_ble_eq_true rfl) ?_
  show bq_W _ _ _ _ _ 8 _ [_] _ _ _ _ _ _
  refine q_astoreN (pc := 8) dX11_spill_8 (Nat.le_of_ble_eq_true rfl) rfl ?_
  show bq_W _ _ _ _ _ 10 [_, _, _, _, _] _ _ _ _ _ _ _
  refine q_aloadN (pc := 10) dX11_spill_10 rfl ?_
  refine q_ifnonnullN (pc := 12) dX11_spill_12 ?_
  refine q_iconst (pc := 15) (v := (-1)) dX11_spill_15 (by decide) ?_
  exact q_iret (st := []) (pc := 16) dX11_spill_16 rfl (qCore.same hC (by unfold w_spill; rw [if_pos ht]))
set_option maxHeartbeats 400000 in
set_option maxRecDepth 20000 in
theorem c_spill_b {S : BqH} {n : Nat} {I : BqI} {L : BqL} {P : BqP} {x : Nat} {g : BqG} {en : Nat} (hx : oX S n P x) (hC : CS I L (x + 1) g) (hG : GI g en) (hen : en < 2 ^ 29) {t : Nat} {l r : Int32} (ht : t < 6) (hl : l < nI 1 ∨ ¬ l ≤ nI 9999) : bq_Sp mX11_spill 4 84 0 0 [.ref x, .int (nI t), .int l, .int r] S n I L P (qCore x I L S n P (w_spill g (nI t) l r)) := by
  refine q_entry (vs := [some (.ref x), some (.int (nI t)), some (.int l), some (.int r), none]) (by decide +kernel) (by simp) (Nat.le_of_ble_eq_true rfl) rfl ?_
  refine q_aload_n (pc := 0) dX11_spill_0 rfl rfl ?_
  refine q_getP (pc := 1) dX11_spill_1 fX11_10 (Cellar_sh hx) ⟨by decide, rfl⟩ (Cellar_lt hx) (Cellar_p_state hx) ?_
  refine q_iload_n (pc := 4) dX11_spill_4 rfl rfl ?_
  refine q_callVF (pc := 5) dX11_spill_5 kX11_65 (c_tankAt (Cellar_s_state hx) ht) (State_sh (Cellar_s_state hx)) rfl (State_lt (Cellar_s_state hx)) ⟨Nat.le_of_ble_eq_true rfl, Nat.le_of_ble_eq_true rfl⟩ rfl rfl (Nat.le_of_ble_eq_true rfl) ?_
  show bq_W _ _ _ _ _ 8 _ [_] _ _ _ _ _ _
  refine q_astore (pc := 8) dX11_spill_8 (Nat.le_of_ble_eq_true rfl) rfl ?_
  show bq_W _ _ _ _ _ 10 [_, _, _, _, _] _ _ _ _ _ _ _
  refine q_aload (pc := 10) dX11_spill_10 rfl ?_
  refine q_ifnonnull (pc := 12) 17 dX11_spill_12 (by decide) ?_
  refine q_iload_n (pc := 17) dX11_spill_17 rfl rfl ?_
  refine q_iconst (pc := 18) (v := nI 1) dX11_spill_18 (by decide) ?_
  refine q_sipush (pc := 19) (v := nI 9999) dX11_spill_19 (by decide) ?_
  refine q_callSF (pc := 22) dX11_spill_22 kX11_69 c_X11_outside ⟨Nat.le_of_ble_eq_true rfl, Nat.le_of_ble_eq_true rfl⟩ rfl rfl (Nat.le_of_ble_eq_true rfl) ?_
  show bq_W _ _ _ _ _ 25 _ [_] _ _ _ _ _ _
  refine q_if_ne (pc := 25) 37 dX11_spill_25 (by decide) (fun c_25 => ?_) (fun c_25 => (bq_b0.mp c_25 hl).elim)
  refine q_bipush (pc := 37) (v := (-8)) dX11_spill_37 (by decide) ?_
  exact q_iret (st := []) (pc := 39) dX11_spill_39 rfl (qCore.same hC (by unfold w_spill; rw [if_neg (bq_tin (k := 5) ht (by decide)), if_pos (Or.inl hl)]))
set_option maxHeartbeats 400000 in
set_option maxRecDepth 20000 in
theorem c_spill_c {S : BqH} {n : Nat} {I : BqI} {L : BqL} {P : BqP} {x : Nat} {g : BqG} {en : Nat} (hx : oX S n P x) (hC : CS I L (x + 1) g) (hG : GI g en) (hen : en < 2 ^ 29) {t l : Nat} {r : Int32} (ht : t < 6) (h1 : 1 ≤ l) (h2 : l ≤ 9999) (hr : r < nI 1 ∨ ¬ r ≤ nI 3) : bq_Sp mX11_spill 4 84 0 0 [.ref x, .int (nI t), .int (nI l), .int r] S n I L P (qCore x I L S n P (w_spill g (nI t) (nI l) r)) := by
  refine q_entry (vs := [some (.ref x), some (.int (nI t)), some (.int (nI l)), some (.int r), none]) (by decide +kernel) (by simp) (Nat.le_of_ble_eq_true rfl) rfl ?_
  refine q_aload_n (pc := 0) dX11_spill_0 rfl rfl ?_
  refine q_getP (pc := 1) dX11_spill_1 fX11_10 (Cellar_sh hx) ⟨by decide, rfl⟩ (Cellar_lt hx) (Cellar_p_state hx) ?_
  refine q_iload_n (pc := 4) dX11_spill_4 rfl rfl ?_
  refine q_callVF (pc := 5) dX11_spill_5 kX11_65 (c_tankAt (Cellar_s_state hx) ht) (State_sh (Cellar_s_state hx)) rfl (State_lt (Cellar_s_state hx)) ⟨Nat.le_of_ble_eq_true rfl, Nat.le_of_ble_eq_true rfl⟩ rfl rfl (Nat.le_of_ble_eq_true rfl) ?_
  show bq_W _ _ _ _ _ 8 _ [_] _ _ _ _ _ _
  refine q_astore (pc := 8) dX11_spill_8 (Nat.le_of_ble_eq_true rfl) rfl ?_
  show bq_W _ _ _ _ _ 10 [_, _, _, _, _] _ _ _ _ _ _ _
  refine q_aload (pc := 10) dX11_spill_10 rfl ?_
  refine q_ifnonnull (pc := 12) 17 dX11_spill_12 (by decide) ?_
  refine q_iload_n (pc := 17) dX11_spill_17 rfl rfl ?_
  refine q_iconst (pc := 18) (v := nI 1) dX11_spill_18 (by decide) ?_
  refine q_sipush (pc := 19) (v := nI 9999) dX11_spill_19 (by decide) ?_
  refine q_callSF (pc := 22) dX11_spill_22 kX11_69 c_X11_outside ⟨Nat.le_of_ble_eq_true rfl, Nat.le_of_ble_eq_true rfl⟩ rfl rfl (Nat.le_of_ble_eq_true rfl) ?_
  show bq_W _ _ _ _ _ 25 _ [_] _ _ _ _ _ _
  refine q_if_ne (pc := 25) 37 dX11_spill_25 (by decide) (fun c_25 => (bq_nin h1 h2 (by decide) (bq_bn.mp c_25)).elim) (fun c_25 => ?_)
  refine q_iload_n (pc := 28) dX11_spill_28 rfl rfl ?_
  refine q_iconst (pc := 29) (v := nI 1) dX11_spill_29 (by decide) ?_
  refine q_iconst (pc := 30) (v := nI 3) dX11_spill_30 (by decide) ?_
  refine q_callSF (pc := 31) dX11_spill_31 kX11_69 c_X11_outside ⟨Nat.le_of_ble_eq_true rfl, Nat.le_of_ble_eq_true rfl⟩ rfl rfl (Nat.le_of_ble_eq_true rfl) ?_
  show bq_W _ _ _ _ _ 34 _ [_] _ _ _ _ _ _
  refine q_if_eq (pc := 34) 40 dX11_spill_34 (by decide) (fun c_34 => (bq_b0.mp c_34 hr).elim) (fun c_34 => ?_)
  refine q_bipush (pc := 37) (v := (-8)) dX11_spill_37 (by decide) ?_
  exact q_iret (st := []) (pc := 39) dX11_spill_39 rfl (qCore.same hC (by unfold w_spill; rw [if_neg (bq_tin (k := 5) ht (by decide)), if_pos (Or.inr hr)]))
theorem c_spill {S : BqH} {n : Nat} {I : BqI} {L : BqL} {P : BqP} {x : Nat} {g : BqG} {en : Nat} (hx : oX S n P x) (hC : CS I L (x + 1) g) (hG : GI g en) (hen : en < 2 ^ 29) {t l r : Int32} : bq_Sp mX11_spill 4 84 0 0 [.ref x, .int t, .int l, .int r] S n I L P (qCore x I L S n P (w_spill g t l r)) := by
  rcases bq_in5 t 5 (by decide) with ht | ⟨t, ht, rfl⟩
  · exact c_spill_a hx hC hG hen ht
  · rcases bq_in19 l 1 9999 (by decide) (by decide) with hl | ⟨l, h1, h2, rfl⟩
    · exact c_spill_b hx hC hG hen ht hl
    · rcases bq_in19 r 1 3 (by decide) (by decide) with hr | ⟨r, hr1, hr2, rfl⟩
      · exact c_spill_c hx hC hG hen ht h1 h2 hr
      · rw [w_spill_n ht h1 h2 hr1 hr2]; exact c_spill_n hx hC hG hen ht h1 h2 hr1 hr2
set_option maxHeartbeats 400000 in
set_option maxRecDepth 20000 in
theorem c_scrub_n {S : BqH} {n : Nat} {I : BqI} {L : BqL} {P : BqP} {x : Nat} {g : BqG} {en : Nat} (hx : oX S n P x) (hC : CS I L (x + 1) g) (hG : GI g en) (hen : en < 2 ^ 29) {t : Nat} (ht : t < 6) : bq_Sp mX11_scrub 3 55 0 0 [.ref x, .int (nI t)] S n I L P (qCore x I L S n P (w_scrub g (nI t))) := by
  refine q_entry (vs := [some (.ref x), some (.int (nI t)), none]) (by decide +kernel) (by simp) (Nat.le_of_ble_eq_true rfl) rfl ?_
  have ht1 : I (x + 1 + 15 + 3 * t) 1 = nI (gn g (11 + 19 * t)) := hC.1.tn1 hG ht
  obtain ⟨qt1, qt2, qt3, qt4, qt5, qt6⟩ := hG.t ht
  have hd : gn g 0 ≤ 9999 := hG.2.1
  have h1 : lc (11 + 19 * t) = some (15 + 3 * t, 1) := by rw [show 11 + 19 * t = 10 + 19 * t + 1 by omega]; exact lc_T ht (by decide)
  have h2 : lc (12 + 19 * t) = some (15 + 3 * t, 2) := by rw [show 12 + 19 * t = 10 + 19 * t + 2 by omega]; exact lc_T ht (by decide)
  refine q_aload_n (pc := 0) dX11_scrub_0 rfl rfl ?_
  refine q_getP (pc := 1) dX11_scrub_1 fX11_10 (Cellar_sh hx) ⟨by decide, rfl⟩ (Cellar_lt hx) (Cellar_p_state hx) ?_
  refine q_iload_n (pc := 4) dX11_scrub_4 rfl rfl ?_
  refine q_callVF (pc := 5) dX11_scrub_5 kX11_65 (c_tankAt (Cellar_s_state hx) ht) (State_sh (Cellar_s_state hx)) rfl (State_lt (Cellar_s_state hx)) ⟨Nat.le_of_ble_eq_true rfl, Nat.le_of_ble_eq_true rfl⟩ rfl rfl (Nat.le_of_ble_eq_true rfl) ?_
  show bq_W _ _ _ _ _ 8 _ [_] _ _ _ _ _ _
  refine q_astore_n (pc := 8) dX11_scrub_8 rfl (Nat.le_of_ble_eq_true rfl) rfl ?_
  show bq_W _ _ _ _ _ 9 [_, _, _] _ _ _ _ _ _ _
  refine q_aload_n (pc := 9) dX11_scrub_9 rfl rfl ?_
  refine q_ifnonnull (pc := 10) 15 dX11_scrub_10 (by decide) ?_
  refine q_aload_n (pc := 15) dX11_scrub_15 rfl rfl ?_
  refine q_getI (pc := 16) dX11_scrub_16 fX11_101 (Tank_sh (Statetanks_s_el (Cellar_s_state hx) ht)) ⟨by decide, rfl⟩ (Tank_lt (Statetanks_s_el (Cellar_s_state hx) ht)) ?_
  rw [ht1]
  refine q_iconst (pc := 19) (v := nI 2) dX11_scrub_19 (by decide) ?_
  refine q_icmp_eq (pc := 20) 26 dX11_scrub_20 (by decide) (fun c_20 => ?_) (fun c_20 => ?_)
  · rw [w_scrub_n ht, if_pos ((nI_eq (by omega) (by omega)).mp c_20)]
    refine q_aload_n (pc := 26) dX11_scrub_26 rfl rfl ?_
    refine q_iconst (pc := 27) (v := nI 3) dX11_scrub_27 (by decide) ?_
    refine q_putI (pc := 28) dX11_scrub_28 (pX11_101 _) (Tank_sh (Statetanks_s_el (Cellar_s_state hx) ht)) ⟨by decide, rfl⟩ (Tank_lt (Statetanks_s_el (Cellar_s_state hx) ht)) ?_
    refine q_nameI (fun I1 e1 => ?_)
    have hC1 : CSI I1 (x + 1) (bq_r g (11 + 19 * t) (nI 3)) := by rw [e1, show x + 1 + 15 + 3 * t = x + 1 + (15 + 3 * t) by omega]; exact hC.1.u h1 (nI 3)
    have hF1 : Frm x I I1 := by rw [e1]; exact Frm.rf.u (Or.inl (by omega))
    have hday : I1 (x + 1) 0 = nI (gn g 0) := by rw [hC1.at (k := 0) rfl, bq_r_ne (by omega)]; exact hG.n (by decide) (by decide)
    refine q_aload_n (pc := 31) dX11_scrub_31 rfl rfl ?_
    refine q_aload_n (pc := 32) dX11_scrub_32 rfl rfl ?_
    refine q_getP (pc := 33) dX11_scrub_33 fX11_10 (Cellar_sh hx) ⟨by decide, rfl⟩ (Cellar_lt hx) (Cellar_p_state hx) ?_
    refine q_getI (pc := 36) dX11_scrub_36 fX11_157 (State_sh (Cellar_s_state hx)) ⟨by decide, rfl⟩ (State_lt (Cellar_s_state hx)) ?_
    rw [hday]
    refine q_iconst (pc := 39) (v := nI 2) dX11_scrub_39 (by decide) ?_
    refine q_iaddN (pc := 40) dX11_scrub_40 ?_
    refine q_putI (pc := 41) dX11_scrub_41 (pX11_239 _) (Tank_sh (Statetanks_s_el (Cellar_s_state hx) ht)) ⟨by decide, rfl⟩ (Tank_lt (Statetanks_s_el (Cellar_s_state hx) ht)) ?_
    refine q_nameI (fun I2 e2 => ?_)
    have hC2 : CSI I2 (x + 1) (bq_r (bq_r g (11 + 19 * t) (nI 3)) (12 + 19 * t) (nI (gn g 0 + 2))) := by rw [e2, show x + 1 + 15 + 3 * t = x + 1 + (15 + 3 * t) by omega]; exact hC1.u h2 _
    have hF2 : Frm x I I2 := by rw [e2]; exact hF1.u (Or.inl (by omega))
    have hcd : I2 (x + 1 + 15 + 3 * t) 2 = nI (gn g 0 + 2) := by rw [e2, bq_u_at]
    refine q_aload_n (pc := 44) dX11_scrub_44 rfl rfl ?_
    refine q_getI (pc := 45) dX11_scrub_45 fX11_239 (Tank_sh (Statetanks_s_el (Cellar_s_state hx) ht)) ⟨by decide, rfl⟩ (Tank_lt (Statetanks_s_el (Cellar_s_state hx) ht)) ?_
    rw [hcd]
    exact q_iret (st := []) (pc := 48) dX11_scrub_48 rfl ⟨rfl, rfl, rfl, rfl, ⟨hC2, hC.2.congr (by show bq_r (bq_r g _ _) _ _ 6 = g 6; rw [bq_r_ne (by omega), bq_r_ne (by omega)]) (fun k k1 k2 => by show bq_r (bq_r g _ _) _ _ k = g k; rw [bq_r_ne (by omega), bq_r_ne (by omega)])⟩, hF2, FrmL.rf⟩
  · refine q_bipush (pc := 23) (v := (-7)) dX11_scrub_23 (by decide) ?_
    exact q_iret (st := []) (pc := 25) dX11_scrub_25 rfl (qCore.same hC (by rw [w_scrub_n ht]; rw [if_neg (fun q => c_20 (by rw [q]))]))
set_option maxHeartbeats 400000 in
set_option maxRecDepth 20000 in
theorem c_scrub_a {S : BqH} {n : Nat} {I : BqI} {L : BqL} {P : BqP} {x : Nat} {g : BqG} {en : Nat} (hx : oX S n P x) (hC : CS I L (x + 1) g) (hG : GI g en) (hen : en < 2 ^ 29) {t : Int32} (ht : t < nI 0 ∨ ¬ t ≤ nI 5) : bq_Sp mX11_scrub 3 55 0 0 [.ref x, .int t] S n I L P (qCore x I L S n P (w_scrub g t)) := by
  refine q_entry (vs := [some (.ref x), some (.int t), none]) (by decide +kernel) (by simp) (Nat.le_of_ble_eq_true rfl) rfl ?_
  refine q_aload_n (pc := 0) dX11_scrub_0 rfl rfl ?_
  refine q_getP (pc := 1) dX11_scrub_1 fX11_10 (Cellar_sh hx) ⟨by decide, rfl⟩ (Cellar_lt hx) (Cellar_p_state hx) ?_
  refine q_iload_n (pc := 4) dX11_scrub_4 rfl rfl ?_
  refine q_callVF (pc := 5) dX11_scrub_5 kX11_65 (c_tankAt0 (Cellar_s_state hx) ht) (State_sh (Cellar_s_state hx)) rfl (State_lt (Cellar_s_state hx)) ⟨Nat.le_of_ble_eq_true rfl, Nat.le_of_ble_eq_true rfl⟩ rfl rfl (Nat.le_of_ble_eq_true rfl) ?_
  show bq_W _ _ _ _ _ 8 _ [_] _ _ _ _ _ _
  refine q_astore_nN (pc := 8) dX11_scrub_8 rfl (Nat.le_of_ble_eq_true rfl) rfl ?_
  show bq_W _ _ _ _ _ 9 [_, _, _] _ _ _ _ _ _ _
  refine q_aload_nN (pc := 9) dX11_scrub_9 rfl rfl ?_
  refine q_ifnonnullN (pc := 10) dX11_scrub_10 ?_
  refine q_iconst (pc := 13) (v := (-1)) dX11_scrub_13 (by decide) ?_
  exact q_iret (st := []) (pc := 14) dX11_scrub_14 rfl (qCore.same hC (by unfold w_scrub; rw [if_pos ht]))
theorem c_scrub {S : BqH} {n : Nat} {I : BqI} {L : BqL} {P : BqP} {x : Nat} {g : BqG} {en : Nat} (hx : oX S n P x) (hC : CS I L (x + 1) g) (hG : GI g en) (hen : en < 2 ^ 29) {t : Int32} : bq_Sp mX11_scrub 3 55 0 0 [.ref x, .int t] S n I L P (qCore x I L S n P (w_scrub g t)) := by
  rcases bq_in5 t 5 (by decide) with ht | ⟨t, ht, rfl⟩
  · exact c_scrub_a hx hC hG hen ht
  · exact c_scrub_n hx hC hG hen ht
