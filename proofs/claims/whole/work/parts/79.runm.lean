/-! the model's run -/
theorem cp_at {I : BqI} {d a j : Nat} (hj : j < 650) : fl I d (fun k => 0 + k) (fun k => I a (0 + k)) 650 d j = I a j := by
  have e := fl_at (I := I) (d := d) (ix := fun k => 0 + k) (v := fun k => I a (0 + k)) (j := j) 650 (fun a b _ _ h => by first | omega | (dsimp only at h; omega)) hj
  have e2 : fl I d (fun k => 0 + k) (fun k => I a (0 + k)) 650 d (0 + j) = I a (0 + j) := e
  rw [Nat.zero_add] at e2
  exact e2
theorem remH_c {m ch : Nat} {I : BqI} {a g : BqG} {h : Nat → BqG} (e : ∀ k, k < 650 → a k = g k) (hH : MH m I (remH 0 a h ch).1 (remH 0 a h ch).2) : MH m I (remH 0 g h ch).1 (remH 0 g h ch).2 := by
  unfold remH at hH ⊢
  rw [if_neg (show ¬ 0 = 1 by decide)] at hH ⊢
  by_cases c : ch < 6
  · rw [if_pos c] at hH ⊢
    refine ⟨hH.1, hH.2.1, fun i hi k hk => (hH.2.2 i hi k hk).trans ?_⟩
    show bq_r h ch a i k = bq_r h ch g i k
    by_cases q : i = ch
    · subst q; rw [bq_r_self, bq_r_self]; exact e k hk
    · rw [bq_r_ne q, bq_r_ne q]
  · rw [if_neg c] at hH ⊢
    refine ⟨hH.1, hH.2.1, fun i hi k hk => (hH.2.2 i hi k hk).trans ?_⟩
    show (if i = 5 then a else h (i + 1)) k = (if i = 5 then g else h (i + 1)) k
    by_cases q : i = 5
    · rw [if_pos q, if_pos q]; exact e k hk
    · rw [if_neg q, if_neg q]
def qMr (m : Nat) (I : BqI) (S : BqH) (n : Nat) (L : BqL) (P : BqP) (w : BqR) : BqQ := fun r S' n' I' L' P' => r = some (.int w.1) ∧ S' = S ∧ n' = n ∧ L' = L ∧ P' = P ∧ (∀ k, k < 650 → I' (m + 1) k = w.2.1 k) ∧ MH m I' w.2.2.1 w.2.2.2.1 ∧ I' m 7 = w.2.2.2.2 ∧ I' m 9 = nI 0 ∧ I' (m + 5) = I (m + 5) ∧ I' (m + 3) = I (m + 3) ∧ I' m 4 = I m 4 ∧ I' m 6 = nI 0 ∧ ∀ a, a < m ∨ m + 14 ≤ a → I' a = I a
/-- what the reading leaves: rows, changes, reason, kept -/
def Rd (m : Nat) (I J : BqI) : Prop := (∀ a, a ≠ m → a ≠ m + 13 → J a = I a) ∧ ∀ k, k ≠ 9 → k ≠ 18 → k ≠ 19 → J m k = I m k
theorem MT.rd {m l : Nat} {I J0 J : BqI} {B : Nat → Int32} {s : BqT} {v : Int32} (T : MT m J0 J B l s) (e : J0 = bq_u I m 18 v) : Rd m I J := by
  subst e
  refine ⟨fun a q1 q2 => (T.2.2.2.2.2.2.1 a q1 q2).trans (bq_u_ne q1), fun k q0 q1 q2 => (T.2.2.2.2.2.2.2 k q1 q2).trans (bq_u_no (fun z => q1 z.2))⟩
theorem Rd.u {m k : Nat} {I J : BqI} {v : Int32} (h : Rd m I J) (hk : k = 9 ∨ k = 18 ∨ k = 19) : Rd m I (bq_u J m k v) :=
  ⟨fun a q1 q2 => (bq_u_ne q1).trans (h.1 a q1 q2), fun j q0 q1 q2 => (bq_u_no (by omega)).trans (h.2 j q0 q1 q2)⟩
theorem qMr.bad {m ch : Nat} {I J : BqI} {S : BqH} {n : Nat} {L : BqL} {P : BqP} {g : BqG} {h : Nat → BqG} {v x : Int32} {w : BqR} (hR : Rd m I J) (hg : I (m + 1) = g) (hH : MH m I h ch) (hq : I m 6 = nI 0) (hv : v = x) (hw : w = (x, g, h, ch, I m 7)) (h9 : J m 9 = nI 0) : qMr m I S n L P w (some (.int v)) S n J L P := by
  subst hw hv
  refine ⟨rfl, rfl, rfl, rfl, rfl, fun k _ => ?_, ⟨(hR.2 2 (by decide) (by decide) (by decide)).trans hH.1, hH.2.1, fun i hi k hk => ?_⟩, hR.2 7 (by decide) (by decide) (by decide), h9, hR.1 _ (by omega) (by omega), hR.1 _ (by omega) (by omega), hR.2 4 (by decide) (by decide) (by decide), (hR.2 6 (by decide) (by decide) (by decide)).trans hq, fun a ha => hR.1 a (by omega) (by omega)⟩
  · rw [hR.1 _ (by omega) (by omega), hg]
  · rw [hR.1 _ (by omega) (by omega)]; exact hH.2.2 i hi k hk
/-- ready for the commands: quiet, the row put before -/
def Qu (m : Nat) (I K : BqI) : Prop := K m 6 = nI 1 ∧ K (m + 1) = I (m + 1) ∧ (∀ k, k < 650 → K (m + 4) k = I (m + 1) k) ∧ K m 9 = nI 0 ∧ (∀ a, a ≠ m → a ≠ m + 4 → a ≠ m + 13 → K a = I a) ∧ ∀ k, k ≠ 6 → k ≠ 9 → k ≠ 18 → k ≠ 19 → K m k = I m k
theorem Qu.mk {m : Nat} {I J : BqI} (hR : Rd m I J) (h9 : J m 9 = nI 0) : Qu m I (bq_u (fl J (m + 4) (fun k => 0 + k) (fun k => J (m + 1) (0 + k)) 650) m 6 (nI 1)) ∧ (bq_u (fl J (m + 4) (fun k => 0 + k) (fun k => J (m + 1) (0 + k)) 650) m 6 (nI 1)) (m + 13) = J (m + 13) := by
  refine ⟨⟨bq_u_at _ _ _ _, ?_, fun k hk => ?_, ?_, fun a q1 q2 q3 => ?_, fun k q1 q2 q3 q4 => ?_⟩, ?_⟩
  · rw [bq_u_ne (by omega), fl_ne (by omega)]; exact hR.1 _ (by omega) (by omega)
  · rw [bq_u_ne (by omega), cp_at hk, hR.1 _ (by omega) (by omega)]
  · rw [bq_u_no (by omega), fl_ne (by omega)]; exact h9
  · rw [bq_u_ne q1, fl_ne q2]; exact hR.1 a q1 q3
  · rw [bq_u_no (fun z => q1 z.2), fl_ne (by omega)]; exact hR.2 k q2 q3 q4
  · rw [bq_u_ne (by omega), fl_ne (by omega)]
theorem Qu.st {m ch : Nat} {I K : BqI} {g : BqG} {h : Nat → BqG} (hQ : Qu m I K) (hg : I (m + 1) = g) (hH : MH m I h ch) : MSt m K K g h ch (I m 7) := by
  obtain ⟨q1, q2, q3, q4, q5, q6⟩ := hQ
  refine ⟨q2.trans hg, ⟨(q6 2 (by decide) (by decide) (by decide) (by decide)).trans hH.1, hH.2.1, fun i hi k hk => ?_⟩, q6 7 (by decide) (by decide) (by decide) (by decide), fun _ _ => rfl, fun _ _ _ _ => rfl⟩
  rw [q5 _ (by omega) (by omega) (by omega)]; exact hH.2.2 i hi k hk
theorem mst1_neg {ch : Nat} {g : BqG} {h : Nat → BqG} {y : Int32} {w : Int32 × BqG} (hv : w.1 < 0) : mst 1 g h ch y w = ((-3), w.2, h, ch, -w.1) := if_pos hv
theorem mst1_pos {ch : Nat} {g : BqG} {h : Nat → BqG} {y : Int32} {w : Int32 × BqG} (hv : ¬ w.1 < 0) : mst 1 g h ch y w = (w.1, w.2, h, ch, y) := if_neg hv
theorem mst1_3 {ch : Nat} {g : BqG} {h : Nat → BqG} {y : Int32} {w : Int32 × BqG} : (mst 1 g h ch y w).1 = (-3) ↔ w.1 < 0 := by
  by_cases c : w.1 < 0
  · rw [mst1_neg c]; exact ⟨fun _ => c, fun _ => rfl⟩
  · rw [mst1_pos c]
    refine ⟨fun e => absurd ?_ c, fun e => absurd e c⟩
    have e' : w.1 = (-3) := e
    rw [e']; decide
/-- the run is refused at a command -/
theorem qMr.ref {m ch : Nat} {I K J : BqI} {S : BqH} {n : Nat} {L : BqL} {P : BqP} {g G : BqG} {h : Nat → BqG} {u v x : Int32} {w : BqR} (hQ : Qu m I K) (hT : MSt m K J G h ch u) (hg : I (m + 1) = g) (hv : v = x) (hw : w = (x, g, h, ch, u)) : qMr m I S n L P w (some (.int v)) S n (fl (bq_u J m 6 (nI 0)) (m + 1) (fun k => 0 + k) (fun k => bq_u J m 6 (nI 0) (m + 4) (0 + k)) 650) L P := by
  subst hw hv
  obtain ⟨q1, q2, q3, q4, q5, q6⟩ := hQ
  obtain ⟨t1, t2, t3, t4, t5⟩ := hT
  have f : ∀ a, a ≠ m → a ≠ m + 1 → fl (bq_u J m 6 (nI 0)) (m + 1) (fun k => 0 + k) (fun k => bq_u J m 6 (nI 0) (m + 4) (0 + k)) 650 a = J a := fun a z1 z2 => by rw [fl_ne z2, bq_u_ne z1]
  have f0 : ∀ k, k ≠ 6 → fl (bq_u J m 6 (nI 0)) (m + 1) (fun k => 0 + k) (fun k => bq_u J m 6 (nI 0) (m + 4) (0 + k)) 650 m k = J m k := fun k z1 => by rw [fl_ne (by omega), bq_u_no (fun z => z1 z.2)]
  refine ⟨rfl, rfl, rfl, rfl, rfl, fun k hk => ?_, ⟨(f0 2 (by decide)).trans t2.1, t2.2.1, fun i hi k hk => ?_⟩, (f0 7 (by decide)).trans t3, ?_, ?_, ?_, ?_, ?_, fun a ha => ?_⟩
  · rw [cp_at hk, bq_u_ne (by omega), t4 (m + 4) (by omega), q3 k hk, hg]
  · rw [f _ (by omega) (by omega)]; exact t2.2.2 i hi k hk
  · rw [f0 9 (by decide), t5 9 (by decide) (by decide) (by decide)]; exact q4
  · rw [f _ (by omega) (by omega), t4 (m + 5) (by omega)]; exact q5 _ (by omega) (by omega) (by omega)
  · rw [f _ (by omega) (by omega), t4 (m + 3) (by omega)]; exact q5 _ (by omega) (by omega) (by omega)
  · rw [f0 4 (by decide), t5 4 (by decide) (by decide) (by decide)]; exact q6 4 (by decide) (by decide) (by decide) (by decide)
  · rw [fl_ne (by omega), bq_u_at]
  · rw [f a (by omega) (by omega), t4 a (by omega)]; exact q5 a (by omega) (by omega) (by omega)
/-- the run is done -/
theorem qMr.ok {m ch : Nat} {I K J J' : BqI} {S : BqH} {n : Nat} {L : BqL} {P : BqP} {g G : BqG} {h : Nat → BqG} {v : Int32} {w : BqR} (hQ : Qu m I K) (hT : MSt m K J G h ch (I m 7)) (hg : I (m + 1) = g) (hw : w = (v, G, (remH 0 g h ch).1, (remH 0 g h ch).2, I m 7)) (hM : MH m J' (remH 0 (bq_u J m 6 (nI 0) (m + 4)) h ch).1 (remH 0 (bq_u J m 6 (nI 0) (m + 4)) h ch).2) (f1 : ∀ b, b ≠ m → b ≠ m + 2 → J' b = bq_u J m 6 (nI 0) b) (f2 : ∀ k, k ≠ 2 → J' m k = bq_u J m 6 (nI 0) m k) : qMr m I S n L P w (some (.int v)) S n J' L P := by
  subst hw
  obtain ⟨q1, q2, q3, q4, q5, q6⟩ := hQ
  obtain ⟨t1, t2, t3, t4, t5⟩ := hT
  have f : ∀ a, a ≠ m → a ≠ m + 2 → J' a = J a := fun a z1 z2 => by rw [f1 a z1 z2, bq_u_ne z1]
  have f0 : ∀ k, k ≠ 2 → k ≠ 6 → J' m k = J m k := fun k z1 z2 => by rw [f2 k z1, bq_u_no (fun z => z2 z.2)]
  refine ⟨rfl, rfl, rfl, rfl, rfl, fun k hk => ?_, remH_c (fun k hk => ?_) hM, (f0 7 (by decide) (by decide)).trans t3, ?_, ?_, ?_, ?_, ?_, fun a ha => ?_⟩
  · rw [f _ (by omega) (by omega), t1]
  · rw [bq_u_ne (by omega), t4 (m + 4) (by omega), q3 k hk, hg]
  · rw [f0 9 (by decide) (by decide), t5 9 (by decide) (by decide) (by decide)]; exact q4
  · rw [f _ (by omega) (by omega), t4 (m + 5) (by omega)]; exact q5 _ (by omega) (by omega) (by omega)
  · rw [f _ (by omega) (by omega), t4 (m + 3) (by omega)]; exact q5 _ (by omega) (by omega) (by omega)
  · rw [f0 4 (by decide) (by decide), t5 4 (by decide) (by decide) (by decide)]; exact q6 4 (by decide) (by decide) (by decide) (by decide)
  · rw [f2 6 (by decide), bq_u_at]
  · rw [f a (by omega) (by omega), t4 a (by omega)]; exact q5 a (by omega) (by omega) (by omega)
theorem MT.un {m l : Nat} {J0 J J3 : BqI} {B : Nat → Int32} {s s' : BqT} {v : Int32} (T : MT m (bq_u J m 18 v) J3 B l s) (hT : MT m J0 J B l s') : MT m J0 J3 B l s := by
  obtain ⟨a1, a2, a3, a4, a5, a6, a7, a8⟩ := T
  refine ⟨a1, a2, a3, a4, a5, a6, fun a q1 q2 => ?_, fun k q1 q2 => ?_⟩
  · rw [a7 a q1 q2, bq_u_ne q1]; exact hT.2.2.2.2.2.2.1 a q1 q2
  · rw [a8 k q1 q2, bq_u_no (fun z => q1 z.2)]; exact hT.2.2.2.2.2.2.2 k q1 q2
theorem MH.q6 {m ch : Nat} {J : BqI} {h : Nat → BqG} {v : Int32} (hH : MH m J h ch) : MH m (bq_u J m 6 v) h ch :=
  ⟨(bq_u_no (by omega)).trans hH.1, hH.2.1, fun i hi k hk => by rw [bq_u_ne (by omega)]; exact hH.2.2 i hi k hk⟩
theorem MSt.tr {m ch ch' : Nat} {K J I' : BqI} {G G' : BqG} {h h' : Nat → BqG} {y y' : Int32} (T : MSt m K J G h ch y) (T' : MSt m J I' G' h' ch' y') : MSt m K I' G' h' ch' y' :=
  ⟨T'.1, T'.2.1, T'.2.2.1, fun a ha => (T'.2.2.2.1 a ha).trans (T.2.2.2.1 a ha), fun k h2 h7 h17 => (T'.2.2.2.2 k h2 h7 h17).trans (T.2.2.2.2 k h2 h7 h17)⟩
set_option maxHeartbeats 6820000 in
set_option maxRecDepth 20000 in
theorem o_run {S : BqH} {n : Nat} {I : BqI} {L : BqL} {P : BqP} {m ch : Nat} {h : Nat → BqG} {g : BqG} (hm : oModel S n P m) (hH : MH m I h ch) (hg : I (m + 1) = g) {en : Nat} (hK : GK g en) (hen : en + 60 < 200000) (hq : I m 6 = nI 0) {l : Nat} (h9 : I m 9 = nI l) (hl60 : l ≤ 60) : bq_Sp mX12_run 8 172 0 0 [.ref m] S n I L P (qMr m I S n L P (p_run g h ch (I m 7) (pR (I (m + 5)) l 21 0 0 (fun _ => (nI 0, nI 0, nI 0, nI 0))))) := by
  refine q_entry (vs := [some (.ref m), none, none, none]) (by decide +kernel) (by simp) (Nat.le_of_ble_eq_true rfl) rfl ?_
  have hn := pR_n (B := I (m + 5)) (l := l) 21 0 0 (fun _ => (nI 0, nI 0, nI 0, nI 0)) (Nat.le_refl _) (Nat.zero_le _)
  generalize er : (pR (I (m + 5)) l 21 0 0 (fun _ => (nI 0, nI 0, nI 0, nI 0))) = r at hn ⊢
  refine q_aload_n (pc := 0) dX12_run_0 rfl rfl ?_
  refine q_iconst (pc := 1) (v := nI 0) dX12_run_1 (by decide) ?_
  refine q_putI (pc := 2) dX12_run_2 (pX12_178 _) (Model_sh hm) ⟨by decide, rfl⟩ (Model_lt hm) ?_
  refine q_nameI (fun J0 e0 => ?_)
  have p0 : J0 m 18 = nI 0 := by rw [e0, bq_u_at]
  have l0 : J0 m 9 = nI l := by rw [e0, bq_u_no (by omega)]; exact h9
  have b0 : J0 (m + 5) = I (m + 5) := by rw [e0, bq_u_ne (by omega)]
  have exW : ∀ (J : BqI) (q N : Nat), MT m J0 J (I (m + 5)) l (q, true) → ¬ r.1 = true → r.2.1 = q → bq_W mX12_run 8 172 0 0 51 [some (.ref m), some (.int (nI N)), none, none] [] S n J L P (qMr m I S n L P (p_run g h ch (I m 7) r)) := by
    intro J q N hT hr hp
    have hw : J m 19 = nI 1 := hT.2.1
    have hR := hT.rd e0
    have hq18 : J m 18 = nI q := hT.1
    have hl9 : J m 9 = nI l := hT.2.2.1
    refine q_aload_n (pc := 51) dX12_run_51 rfl rfl ?_
    refine q_dup (pc := 52) dX12_run_52 rfl ?_
    refine q_getI (pc := 53) dX12_run_53 fX12_181 (Model_sh hm) ⟨by decide, rfl⟩ (Model_lt hm) ?_
    rw [hw]
    refine q_aload_n (pc := 56) dX12_run_56 rfl rfl ?_
    refine q_getI (pc := 57) dX12_run_57 fX12_178 (Model_sh hm) ⟨by decide, rfl⟩ (Model_lt hm) ?_
    rw [hq18]
    refine q_aload_n (pc := 60) dX12_run_60 rfl rfl ?_
    refine q_getI (pc := 61) dX12_run_61 fX12_175 (Model_sh hm) ⟨by decide, rfl⟩ (Model_lt hm) ?_
    rw [hl9]
    refine q_icmp_ge (pc := 64) 71 dX12_run_64 (by decide) (fun c_64 => ?_) (fun c_64 => ?_)
    · refine q_iconst (pc := 71) (v := nI 0) dX12_run_71 (by decide) ?_
      refine q_ior (pc := 72) dX12_run_72 ?_
      refine q_putZ (pc := 73) dX12_run_73 (pX12_181 _) (Model_sh hm) ⟨by decide, rfl⟩ (by decide) (Model_lt hm) ?_
      refine q_aload_n (pc := 76) dX12_run_76 rfl rfl ?_
      refine q_iconst (pc := 77) (v := nI 0) dX12_run_77 (by decide) ?_
      refine q_putI (pc := 78) dX12_run_78 (pX12_175 _) (Model_sh hm) ⟨by decide, rfl⟩ (Model_lt hm) ?_
      refine q_aload_n (pc := 81) dX12_run_81 rfl rfl ?_
      refine q_getI (pc := 82) dX12_run_82 fX12_181 (Model_sh hm) ⟨by decide, rfl⟩ (Model_lt hm) ?_
      rw [bq_u_no (by omega), bq_u_at]
      refine q_if_eq (pc := 85) 96 dX12_run_85 (by decide) (fun c_85 => absurd c_85 (by decide)) (fun c_85 => ?_)
      refine q_bipush (pc := 88) (v := (-100)) dX12_run_88 (by decide) ?_
      refine q_aload_n (pc := 90) dX12_run_90 rfl rfl ?_
      refine q_getI (pc := 91) dX12_run_91 fX12_178 (Model_sh hm) ⟨by decide, rfl⟩ (Model_lt hm) ?_
      rw [bq_u_no (by omega), bq_u_no (by omega), hq18]
      refine q_isub (pc := 94) dX12_run_94 ?_
      exact q_iret (st := []) (pc := 95) dX12_run_95 rfl (qMr.bad ((hR.u (Or.inr (Or.inr rfl))).u (Or.inl rfl)) hg hH hq (by rw [← hp]) (p_run_w hr) (bq_u_at _ _ _ _))
    · refine q_iconst (pc := 67) (v := nI 1) dX12_run_67 (by decide) ?_
      refine q_goto (pc := 68) 72 dX12_run_68 (by decide) ?_
      refine q_ior (pc := 72) dX12_run_72 ?_
      refine q_putZ (pc := 73) dX12_run_73 (pX12_181 _) (Model_sh hm) ⟨by decide, rfl⟩ (by decide) (Model_lt hm) ?_
      refine q_aload_n (pc := 76) dX12_run_76 rfl rfl ?_
      refine q_iconst (pc := 77) (v := nI 0) dX12_run_77 (by decide) ?_
      refine q_putI (pc := 78) dX12_run_78 (pX12_175 _) (Model_sh hm) ⟨by decide, rfl⟩ (Model_lt hm) ?_
      refine q_aload_n (pc := 81) dX12_run_81 rfl rfl ?_
      refine q_getI (pc := 82) dX12_run_82 fX12_181 (Model_sh hm) ⟨by decide, rfl⟩ (Model_lt hm) ?_
      rw [bq_u_no (by omega), bq_u_at]
      refine q_if_eq (pc := 85) 96 dX12_run_85 (by decide) (fun c_85 => absurd c_85 (by decide)) (fun c_85 => ?_)
      refine q_bipush (pc := 88) (v := (-100)) dX12_run_88 (by decide) ?_
      refine q_aload_n (pc := 90) dX12_run_90 rfl rfl ?_
      refine q_getI (pc := 91) dX12_run_91 fX12_178 (Model_sh hm) ⟨by decide, rfl⟩ (Model_lt hm) ?_
      rw [bq_u_no (by omega), bq_u_no (by omega), hq18]
      refine q_isub (pc := 94) dX12_run_94 ?_
      exact q_iret (st := []) (pc := 95) dX12_run_95 rfl (qMr.bad ((hR.u (Or.inr (Or.inr rfl))).u (Or.inl rfl)) hg hH hq (by rw [← hp]) (p_run_w hr) (bq_u_at _ _ _ _))
  have exF : ∀ (J : BqI) (q N : Nat), MT m J0 J (I (m + 5)) l (q, false) → q < l → ¬ r.1 = true → r.2.1 = q → bq_W mX12_run 8 172 0 0 51 [some (.ref m), some (.int (nI N)), none, none] [] S n J L P (qMr m I S n L P (p_run g h ch (I m 7) r)) := by
    intro J q N hT hlt hr hp
    have hw : J m 19 = nI 0 := hT.2.1
    have hR := hT.rd e0
    have hq18 : J m 18 = nI q := hT.1
    have hl9 : J m 9 = nI l := hT.2.2.1
    refine q_aload_n (pc := 51) dX12_run_51 rfl rfl ?_
    refine q_dup (pc := 52) dX12_run_52 rfl ?_
    refine q_getI (pc := 53) dX12_run_53 fX12_181 (Model_sh hm) ⟨by decide, rfl⟩ (Model_lt hm) ?_
    rw [hw]
    refine q_aload_n (pc := 56) dX12_run_56 rfl rfl ?_
    refine q_getI (pc := 57) dX12_run_57 fX12_178 (Model_sh hm) ⟨by decide, rfl⟩ (Model_lt hm) ?_
    rw [hq18]
    refine q_aload_n (pc := 60) dX12_run_60 rfl rfl ?_
    refine q_getI (pc := 61) dX12_run_61 fX12_175 (Model_sh hm) ⟨by decide, rfl⟩ (Model_lt hm) ?_
    rw [hl9]
    refine q_icmp_ge (pc := 64) 71 dX12_run_64 (by decide) (fun c_64 => absurd c_64 (nI_ge hlt (by omega))) (fun c_64 => ?_)
    refine q_iconst (pc := 67) (v := nI 1) dX12_run_67 (by decide) ?_
    refine q_goto (pc := 68) 72 dX12_run_68 (by decide) ?_
    refine q_ior (pc := 72) dX12_run_72 ?_
    refine q_putZ (pc := 73) dX12_run_73 (pX12_181 _) (Model_sh hm) ⟨by decide, rfl⟩ (by decide) (Model_lt hm) ?_
    refine q_aload_n (pc := 76) dX12_run_76 rfl rfl ?_
    refine q_iconst (pc := 77) (v := nI 0) dX12_run_77 (by decide) ?_
    refine q_putI (pc := 78) dX12_run_78 (pX12_175 _) (Model_sh hm) ⟨by decide, rfl⟩ (Model_lt hm) ?_
    refine q_aload_n (pc := 81) dX12_run_81 rfl rfl ?_
    refine q_getI (pc := 82) dX12_run_82 fX12_181 (Model_sh hm) ⟨by decide, rfl⟩ (Model_lt hm) ?_
    rw [bq_u_no (by omega), bq_u_at]
    refine q_if_eq (pc := 85) 96 dX12_run_85 (by decide) (fun c_85 => absurd c_85 (by decide)) (fun c_85 => ?_)
    refine q_bipush (pc := 88) (v := (-100)) dX12_run_88 (by decide) ?_
    refine q_aload_n (pc := 90) dX12_run_90 rfl rfl ?_
    refine q_getI (pc := 91) dX12_run_91 fX12_178 (Model_sh hm) ⟨by decide, rfl⟩ (Model_lt hm) ?_
    rw [bq_u_no (by omega), bq_u_no (by omega), hq18]
    refine q_isub (pc := 94) dX12_run_94 ?_
    exact q_iret (st := []) (pc := 95) dX12_run_95 rfl (qMr.bad ((hR.u (Or.inr (Or.inr rfl))).u (Or.inl rfl)) hg hH hq (by rw [← hp]) (p_run_w hr) (bq_u_at _ _ _ _))
  have exO : ∀ (J : BqI) (q : Nat), MT m J0 J (I (m + 5)) l (q, false) → ¬ q < l → r.1 = true → (∀ j, j < r.2.2.1 → Cn (J (m + 13)) (4 * j) (r.2.2.2 j)) → bq_W mX12_run 8 172 0 0 51 [some (.ref m), some (.int (nI r.2.2.1)), none, none] [] S n J L P (qMr m I S n L P (p_run g h ch (I m 7) r)) := by
    intro J q hT hge hr hC
    have hn3 := hn hr
    have hw : J m 19 = nI 0 := hT.2.1
    have hR := hT.rd e0
    have hq18 : J m 18 = nI q := hT.1
    have hl9 : J m 9 = nI l := hT.2.2.1
    have hql : q ≤ l := hT.2.2.2.2.1
    refine q_aload_n (pc := 51) dX12_run_51 rfl rfl ?_
    refine q_dup (pc := 52) dX12_run_52 rfl ?_
    refine q_getI (pc := 53) dX12_run_53 fX12_181 (Model_sh hm) ⟨by decide, rfl⟩ (Model_lt hm) ?_
    rw [hw]
    refine q_aload_n (pc := 56) dX12_run_56 rfl rfl ?_
    refine q_getI (pc := 57) dX12_run_57 fX12_178 (Model_sh hm) ⟨by decide, rfl⟩ (Model_lt hm) ?_
    rw [hq18]
    refine q_aload_n (pc := 60) dX12_run_60 rfl rfl ?_
    refine q_getI (pc := 61) dX12_run_61 fX12_175 (Model_sh hm) ⟨by decide, rfl⟩ (Model_lt hm) ?_
    rw [hl9]
    refine q_icmp_ge (pc := 64) 71 dX12_run_64 (by decide) (fun c_64 => ?_) (fun c_64 => absurd (nI_le (Nat.not_lt.mp hge) (by omega)) c_64)
    refine q_iconst (pc := 71) (v := nI 0) dX12_run_71 (by decide) ?_
    refine q_ior (pc := 72) dX12_run_72 ?_
    refine q_putZ (pc := 73) dX12_run_73 (pX12_181 _) (Model_sh hm) ⟨by decide, rfl⟩ (by decide) (Model_lt hm) ?_
    refine q_aload_n (pc := 76) dX12_run_76 rfl rfl ?_
    refine q_iconst (pc := 77) (v := nI 0) dX12_run_77 (by decide) ?_
    refine q_putI (pc := 78) dX12_run_78 (pX12_175 _) (Model_sh hm) ⟨by decide, rfl⟩ (Model_lt hm) ?_
    refine q_aload_n (pc := 81) dX12_run_81 rfl rfl ?_
    refine q_getI (pc := 82) dX12_run_82 fX12_181 (Model_sh hm) ⟨by decide, rfl⟩ (Model_lt hm) ?_
    rw [bq_u_no (by omega), bq_u_at]
    refine q_if_eq (pc := 85) 96 dX12_run_85 (by decide) (fun c_85 => ?_) (fun c_85 => absurd (by decide) c_85)
    refine q_aload_n (pc := 96) dX12_run_96 rfl rfl ?_
    refine q_getP (pc := 97) dX12_run_97 fX12_9 (Model_sh hm) ⟨by decide, rfl⟩ (Model_lt hm) (Model_p_g hm) ?_
    refine q_iconst (pc := 100) (v := nI 0) dX12_run_100 (by decide) ?_
    refine q_aload_n (pc := 101) dX12_run_101 rfl rfl ?_
    refine q_getP (pc := 102) dX12_run_102 fX12_19 (Model_sh hm) ⟨by decide, rfl⟩ (Model_lt hm) (Model_p_before hm) ?_
    refine q_iconst (pc := 105) (v := nI 0) dX12_run_105 (by decide) ?_
    refine q_callSF (pc := 106) dX12_run_106 kX12_57 (c_X12_copy (Model_s_g hm) (Model_s_before hm) (x := 0) (y := 0) (by omega) (by omega) (by omega)) ⟨Nat.le_of_ble_eq_true rfl, Nat.le_of_ble_eq_true rfl⟩ rfl rfl (Nat.le_of_ble_eq_true rfl) ?_
    show bq_W _ _ _ _ _ 109 _ [] _ _ _ _ _ _
    refine q_aload_n (pc := 109) dX12_run_109 rfl rfl ?_
    refine q_iconst (pc := 110) (v := nI 1) dX12_run_110 (by decide) ?_
    refine q_putZ (pc := 111) dX12_run_111 (pX12_61 _) (Model_sh hm) ⟨by decide, rfl⟩ (by decide) (Model_lt hm) ?_
    refine q_iconst (pc := 114) (v := (-1)) dX12_run_114 (by decide) ?_
    refine q_istore_n (pc := 115) dX12_run_115 rfl (Nat.le_of_ble_eq_true rfl) rfl ?_
    show bq_W _ _ _ _ _ 116 [_, _, _, _] _ _ _ _ _ _ _
    refine q_iconst (pc := 116) (v := nI 0) dX12_run_116 (by decide) ?_
    refine q_istore_n (pc := 117) dX12_run_117 rfl (Nat.le_of_ble_eq_true rfl) rfl ?_
    show bq_W _ _ _ _ _ 118 [_, _, _, _] _ _ _ _ _ _ _
    refine q_nameI (fun K eK => ?_)
    have hQu : Qu m I K ∧ K (m + 13) = J (m + 13) := by
      rw [eK]
      have hz := Qu.mk (J := bq_u (bq_u J m 19 (nI 0 ||| nI 0)) m 9 (nI 0)) ((hR.u (Or.inr (Or.inr rfl))).u (Or.inl rfl)) (bq_u_at _ _ _ _)
      exact ⟨hz.1, hz.2.trans ((bq_u_ne (by omega)).trans (bq_u_ne (by omega)))⟩
    obtain ⟨hQ, hK13⟩ := hQu
    have hS0 := hQ.st hg hH
    have exQ : ∀ (J2 : BqI) (G : BqG) (u : Int32) (q i : Nat), q < 20 → MSt m K J2 G h ch u → p_run g h ch (I m 7) r = ((-200) - nI q, g, h, ch, u) → bq_W mX12_run 8 172 0 0 152 [some (.ref m), some (.int (nI r.2.2.1)), some (.int (nI q)), some (.int (nI i))] [] S n J2 L P (qMr m I S n L P (p_run g h ch (I m 7) r)) := by
      intro J2 G u q i hq20 hT2 hpr
      refine q_aload_n (pc := 152) dX12_run_152 rfl rfl ?_
      refine q_iconst (pc := 153) (v := nI 0) dX12_run_153 (by decide) ?_
      refine q_putZ (pc := 154) dX12_run_154 (pX12_61 _) (Model_sh hm) ⟨by decide, rfl⟩ (by decide) (Model_lt hm) ?_
      refine q_iload_n (pc := 157) dX12_run_157 rfl rfl ?_
      refine q_iconst (pc := 158) (v := (-1)) dX12_run_158 (by decide) ?_
      refine q_icmp_eq (pc := 159) 181 dX12_run_159 (by decide) (fun c_159 => ((rn_ne (by omega) c_159 : False)).elim) (fun c_159 => ?_)
      refine q_aload_n (pc := 162) dX12_run_162 rfl rfl ?_
      refine q_getP (pc := 163) dX12_run_163 fX12_19 (Model_sh hm) ⟨by decide, rfl⟩ (Model_lt hm) (Model_p_before hm) ?_
      refine q_iconst (pc := 166) (v := nI 0) dX12_run_166 (by decide) ?_
      refine q_aload_n (pc := 167) dX12_run_167 rfl rfl ?_
      refine q_getP (pc := 168) dX12_run_168 fX12_9 (Model_sh hm) ⟨by decide, rfl⟩ (Model_lt hm) (Model_p_g hm) ?_
      refine q_iconst (pc := 171) (v := nI 0) dX12_run_171 (by decide) ?_
      refine q_callSF (pc := 172) dX12_run_172 kX12_57 (c_X12_copy (Model_s_before hm) (Model_s_g hm) (x := 0) (y := 0) (by omega) (by omega) (by omega)) ⟨Nat.le_of_ble_eq_true rfl, Nat.le_of_ble_eq_true rfl⟩ rfl rfl (Nat.le_of_ble_eq_true rfl) ?_
      show bq_W _ _ _ _ _ 175 _ [] _ _ _ _ _ _
      refine q_sipush (pc := 175) (v := (-200)) dX12_run_175 (by decide) ?_
      refine q_iload_n (pc := 178) dX12_run_178 rfl rfl ?_
      refine q_isub (pc := 179) dX12_run_179 ?_
      exact q_iret (st := []) (pc := 180) dX12_run_180 rfl (qMr.ref hQ hT2 hg rfl hpr)
    have l2 : ∀ i, i ≤ r.2.2.1 → ∀ J2 : BqI, MSt m K J2 (ds r.2.2.2 g i) h ch (I m 7) → fz r.2.2.2 g i = none → bq_W mX12_run 8 172 0 0 118 [some (.ref m), some (.int (nI r.2.2.1)), some (.int (-1)), some (.int (nI i))] [] S n J2 L P (qMr m I S n L P (p_run g h ch (I m 7) r)) := by
      refine bq_down (A := fun i => ∀ J2 : BqI, MSt m K J2 (ds r.2.2.2 g i) h ch (I m 7) → fz r.2.2.2 g i = none → bq_W mX12_run 8 172 0 0 118 [some (.ref m), some (.int (nI r.2.2.1)), some (.int (-1)), some (.int (nI i))] [] S n J2 L P (qMr m I S n L P (p_run g h ch (I m 7) r))) r.2.2.1 ?_ ?_
      · intro J2 hT2 hz
        refine q_iload_n (pc := 118) dX12_run_118 rfl rfl ?_
        refine q_iload_n (pc := 119) dX12_run_119 rfl rfl ?_
        refine q_icmp_ge (pc := 120) 152 dX12_run_120 (by decide) (fun c_120 => ?_) (fun c_120 => absurd (nI_le (Nat.le_refl _) (by omega)) c_120)
        refine q_aload_n (pc := 152) dX12_run_152 rfl rfl ?_
        refine q_iconst (pc := 153) (v := nI 0) dX12_run_153 (by decide) ?_
        refine q_putZ (pc := 154) dX12_run_154 (pX12_61 _) (Model_sh hm) ⟨by decide, rfl⟩ (by decide) (Model_lt hm) ?_
        refine q_iload_n (pc := 157) dX12_run_157 rfl rfl ?_
        refine q_iconst (pc := 158) (v := (-1)) dX12_run_158 (by decide) ?_
        refine q_icmp_eq (pc := 159) 181 dX12_run_159 (by decide) (fun c_159 => ?_) (fun c_159 => absurd rfl c_159)
        refine q_aload_n (pc := 181) dX12_run_181 rfl rfl ?_
        refine q_aload_n (pc := 182) dX12_run_182 rfl rfl ?_
        refine q_getP (pc := 183) dX12_run_183 fX12_19 (Model_sh hm) ⟨by decide, rfl⟩ (Model_lt hm) (Model_p_before hm) ?_
        refine q_callV (pc := 186) dX12_run_186 kX12_65 (c_remRow hm (Model_s_before hm) (by omega) (by omega) (MH.q6 hT2.2.1)) (Model_sh hm) rfl (Model_lt hm) ⟨Nat.le_of_ble_eq_true rfl, Nat.le_of_ble_eq_true rfl⟩ rfl rfl (Nat.le_of_ble_eq_true rfl) ?_
        rintro _ S5 n5 I5 L5 P5 ⟨rfl, eS5, en5, eL5, eP5, H5, f1, f2⟩
        subst S5 n5 L5 P5
        show bq_W _ _ _ _ _ 189 _ [] _ _ _ _ _ _
        refine q_iload_n (pc := 189) dX12_run_189 rfl rfl ?_
        exact q_iret (st := []) (pc := 190) dX12_run_190 rfl (qMr.ok hQ hT2 hg ((p_run_o hr hz).trans chg_rem) H5 f1 f2)
      · intro i hi ih J2 hT2 hz
        have hG2 : GI (ds r.2.2.2 g i) (en + 3 * i) := (ds_gk hK i (by omega)).gi
        have hq6 : J2 m 6 = nI 1 := (hT2.2.2.2.2 6 (by decide) (by decide) (by decide)).trans hQ.1
        have hcn : wm (ds r.2.2.2 g i) (J2 (m + 13) (4 * i)) (J2 (m + 13) (4 * i + 1)) (J2 (m + 13) (4 * i + 2)) (J2 (m + 13) (4 * i + 3)) = wk (ds r.2.2.2 g i) (r.2.2.2 i) := by
          rw [hT2.2.2.2.1 (m + 13) (by omega), hK13]; exact hC i hi _
        refine q_iload_n (pc := 118) dX12_run_118 rfl rfl ?_
        refine q_iload_n (pc := 119) dX12_run_119 rfl rfl ?_
        refine q_icmp_ge (pc := 120) 152 dX12_run_120 (by decide) (fun c_120 => absurd c_120 (nI_ge hi (by omega))) (fun c_120 => ?_)
        refine q_iload_n (pc := 123) dX12_run_123 rfl rfl ?_
        refine q_iconst (pc := 124) (v := (-1)) dX12_run_124 (by decide) ?_
        refine q_icmp_ne (pc := 125) 152 dX12_run_125 (by decide) (fun c_125 => ((c_125 rfl : False)).elim) (fun c_125 => ?_)
        refine q_aload_n (pc := 128) dX12_run_128 rfl rfl ?_
        refine q_iconst (pc := 129) (v := nI 4) dX12_run_129 (by decide) ?_
        refine q_iload_n (pc := 130) dX12_run_130 rfl rfl ?_
        refine q_imulN (pc := 131) dX12_run_131 ?_
        refine q_callV (pc := 132) dX12_run_132 kX12_212 (c_does hm hT2.2.1 hT2.1 hG2 (by omega) hq6 (t := 4 * i) (by omega)) (Model_sh hm) rfl (Model_lt hm) ⟨Nat.le_of_ble_eq_true rfl, Nat.le_of_ble_eq_true rfl⟩ rfl rfl (Nat.le_of_ble_eq_true rfl) ?_
        rintro _ S4 n4 I4 L4 P4 ⟨rfl, eS4, en4, eL4, eP4, Q4⟩
        subst S4 n4 L4 P4
        show bq_W _ _ _ _ _ 135 _ [_] _ _ _ _ _ _
        rw [hcn] at Q4
        rw [hcn]
        refine q_bipush (pc := 135) (v := (-3)) dX12_run_135 (by decide) ?_
        refine q_icmp_ne (pc := 137) 144 dX12_run_137 (by decide) (fun c_137 => ?_) (fun c_137 => ?_)
        · have hw4 := fun z => c_137 (mst1_3.mpr z)
          rw [mst1_pos hw4] at Q4
          have Q5 : MSt m K I4 _ h ch _ := hT2.tr Q4
          refine q_iconst (pc := 144) (v := (-1)) dX12_run_144 (by decide) ?_
          refine q_istore_n (pc := 145) dX12_run_145 rfl (Nat.le_of_ble_eq_true rfl) rfl ?_
          show bq_W _ _ _ _ _ 146 [_, _, _, _] _ _ _ _ _ _ _
          refine q_iinc (pc := 146) (v := nI (i + 1)) dX12_run_146 rfl (bq_inc _) (Nat.le_of_ble_eq_true rfl) rfl ?_
          show bq_W _ _ _ _ _ 149 [_, _, _, _] _ _ _ _ _ _ _
          refine q_goto (pc := 149) 118 dX12_run_149 (by decide) ?_
          rw [hT2.2.2.1] at Q5
          exact ih I4 Q5 (fz_no hz hw4)
        · have hw4 := mst1_3.mp c_137
          rw [mst1_neg hw4] at Q4
          have Q5 : MSt m K I4 _ h ch _ := hT2.tr Q4
          have hf := fz_hit hi hz hw4
          refine q_iload_n (pc := 140) dX12_run_140 rfl rfl ?_
          refine q_goto (pc := 141) 145 dX12_run_141 (by decide) ?_
          refine q_istore_n (pc := 145) dX12_run_145 rfl (Nat.le_of_ble_eq_true rfl) rfl ?_
          show bq_W _ _ _ _ _ 146 [_, _, _, _] _ _ _ _ _ _ _
          refine q_iinc (pc := 146) (v := nI (i + 1)) dX12_run_146 rfl (bq_inc _) (Nat.le_of_ble_eq_true rfl) rfl ?_
          show bq_W _ _ _ _ _ 149 [_, _, _, _] _ _ _ _ _ _ _
          refine q_goto (pc := 149) 118 dX12_run_149 (by decide) ?_
          refine q_iload_n (pc := 118) dX12_run_118 rfl rfl ?_
          refine q_iload_n (pc := 119) dX12_run_119 rfl rfl ?_
          refine q_icmp_ge (pc := 120) 152 dX12_run_120 (by decide) (fun c_120 => ?_) (fun c_120 => ?_)
          · exact exQ I4 _ _ i (i + 1) (by omega) Q5 (p_run_f hr hf)
          · refine q_iload_n (pc := 123) dX12_run_123 rfl rfl ?_
            refine q_iconst (pc := 124) (v := (-1)) dX12_run_124 (by decide) ?_
            refine q_icmp_ne (pc := 125) 152 dX12_run_125 (by decide) (fun c_125 => ?_) (fun c_125 => ((rn_ne (by omega) c_125 : False)).elim)
            exact exQ I4 _ _ i (i + 1) (by omega) Q5 (p_run_f hr hf)
    exact l2 0 (Nat.zero_le _) K hS0 rfl
  have l1 : ∀ k, ∀ (i p : Nat) (J : BqI) (cs : Nat → BqC), k + i = 20 → 3 * i ≤ p → p ≤ l → pR (I (m + 5)) l (k + 1) i p cs = r → MT m J0 J (I (m + 5)) l (pC (I (m + 5)) l p).1 → ((pC (I (m + 5)) l p).1.2 = false → Cn (J (m + 13)) (4 * i) (pC (I (m + 5)) l p).2) → (∀ j, j < i → Cn (J (m + 13)) (4 * j) (cs j)) → bq_W mX12_run 8 172 0 0 12 [some (.ref m), some (.int (nI (i + 1))), none, none] [] S n J L P (qMr m I S n L P (p_run g h ch (I m 7) r)) := by
    intro k
    induction k with
    | zero =>
      intro i p J cs hki hip hpl hr0 hT hC hCs
      have hle := pC_le (B := I (m + 5)) hpl
      have e : pR (I (m + 5)) l (0 + 1) i p cs = if (pC (I (m + 5)) l p).1.2 = true then (false, (pC (I (m + 5)) l p).1.1, i, cs) else if l ≤ (pC (I (m + 5)) l p).1.1 then (true, (pC (I (m + 5)) l p).1.1, i + 1, bq_r cs i (pC (I (m + 5)) l p).2) else if hr (I (m + 5)) l (pC (I (m + 5)) l p).1.1 = nI 59 then pR (I (m + 5)) l 0 (i + 1) ((pC (I (m + 5)) l p).1.1 + 1) (bq_r cs i (pC (I (m + 5)) l p).2) else (false, (pC (I (m + 5)) l p).1.1, i + 1, cs) := rfl
      have hend := pC_end (B := I (m + 5)) (l := l) (p := p) (by omega)
      generalize ec : pC (I (m + 5)) l p = c at hle e hT hC hend
      obtain ⟨⟨q, w⟩, cm⟩ := c
      cases w with
      | true =>
        have hr1 : r = (false, q, i, cs) := by rw [← hr0, e]; exact if_pos rfl
        have hw : J m 19 = nI 1 := hT.2.1
        refine q_aload_n (pc := 12) dX12_run_12 rfl rfl ?_
        refine q_getI (pc := 13) dX12_run_13 fX12_181 (Model_sh hm) ⟨by decide, rfl⟩ (Model_lt hm) ?_
        rw [hw]
        refine q_if_ne (pc := 16) 51 dX12_run_16 (by decide) (fun c_16 => ?_) (fun c_16 => ((absurd c_16 (by decide) : False)).elim)
        exact exW J q (i + 1) hT (by rw [hr1]; exact fun z => Bool.noConfusion z) (by rw [hr1])
      | false =>
        exact Bool.noConfusion (congrArg Prod.snd hend)
    | succ k ihk =>
      intro i p J cs hki hip hpl hr0 hT hC hCs
      have hle := pC_le (B := I (m + 5)) hpl
      have e : pR (I (m + 5)) l ((k + 1) + 1) i p cs = if (pC (I (m + 5)) l p).1.2 = true then (false, (pC (I (m + 5)) l p).1.1, i, cs) else if l ≤ (pC (I (m + 5)) l p).1.1 then (true, (pC (I (m + 5)) l p).1.1, i + 1, bq_r cs i (pC (I (m + 5)) l p).2) else if hr (I (m + 5)) l (pC (I (m + 5)) l p).1.1 = nI 59 then pR (I (m + 5)) l (k + 1) (i + 1) ((pC (I (m + 5)) l p).1.1 + 1) (bq_r cs i (pC (I (m + 5)) l p).2) else (false, (pC (I (m + 5)) l p).1.1, i + 1, cs) := rfl
      generalize ec : pC (I (m + 5)) l p = c at hle e hT hC
      obtain ⟨⟨q, w⟩, cm⟩ := c
      cases w with
      | true =>
        have hr1 : r = (false, q, i, cs) := by rw [← hr0, e]; exact if_pos rfl
        have hw : J m 19 = nI 1 := hT.2.1
        refine q_aload_n (pc := 12) dX12_run_12 rfl rfl ?_
        refine q_getI (pc := 13) dX12_run_13 fX12_181 (Model_sh hm) ⟨by decide, rfl⟩ (Model_lt hm) ?_
        rw [hw]
        refine q_if_ne (pc := 16) 51 dX12_run_16 (by decide) (fun c_16 => ?_) (fun c_16 => ((absurd c_16 (by decide) : False)).elim)
        exact exW J q (i + 1) hT (by rw [hr1]; exact fun z => Bool.noConfusion z) (by rw [hr1])
      | false =>
        have hw : J m 19 = nI 0 := hT.2.1
        have hq18 : J m 18 = nI q := hT.1
        have hql : q ≤ l := hT.2.2.2.2.1
        have hC' := hC rfl
        refine q_aload_n (pc := 12) dX12_run_12 rfl rfl ?_
        refine q_getI (pc := 13) dX12_run_13 fX12_181 (Model_sh hm) ⟨by decide, rfl⟩ (Model_lt hm) ?_
        rw [hw]
        refine q_if_ne (pc := 16) 51 dX12_run_16 (by decide) (fun c_16 => absurd c_16 (by decide)) (fun c_16 => ?_)
        refine q_aload_n (pc := 19) dX12_run_19 rfl rfl ?_
        refine q_callVF (pc := 20) dX12_run_20 kX12_184 (c_X12_here hm hT.1 hT.2.2.1 hT.2.2.2.1 hT.2.2.2.2.2.1 hT.2.2.2.2.1) (Model_sh hm) rfl (Model_lt hm) ⟨Nat.le_of_ble_eq_true rfl, Nat.le_of_ble_eq_true rfl⟩ rfl rfl (Nat.le_of_ble_eq_true rfl) ?_
        show bq_W _ _ _ _ _ 23 _ [_] _ _ _ _ _ _
        refine q_bipush (pc := 23) (v := nI 59) dX12_run_23 (by decide) ?_
        refine q_icmp_ne (pc := 25) 51 dX12_run_25 (by decide) (fun c_25 => ?_) (fun c_25 => ?_)
        · by_cases c2 : l ≤ q
          · have hr1 : r = (true, q, i + 1, bq_r cs i cm) := by rw [← hr0, e]; exact (if_neg (fun z => Bool.noConfusion z)).trans (if_pos c2)
            have hall : ∀ j, j < i + 1 → Cn (J (m + 13)) (4 * j) (bq_r cs i cm j) := by
              intro j hj
              by_cases z : j = i
              · rw [z, bq_r_self]; exact hC'
              · rw [bq_r_ne z]; exact hCs j (by omega)
            have hx := exO J q hT (by omega) (by rw [hr1]) (by rw [hr1]; exact hall)
            rw [show r.2.2.1 = i + 1 from by rw [hr1]] at hx
            exact hx
          · have hr1 : r = (false, q, i + 1, cs) := by rw [← hr0, e]; exact (if_neg (fun z => Bool.noConfusion z)).trans ((if_neg c2).trans (if_neg c_25))
            exact exF J q (i + 1) hT (by omega) (by rw [hr1]; exact fun z => Bool.noConfusion z) (by rw [hr1])
        · have hlt : q < l := hr_lt (by decide) c_25
          refine q_aload_n (pc := 28) dX12_run_28 rfl rfl ?_
          refine q_dup (pc := 29) dX12_run_29 rfl ?_
          refine q_getI (pc := 30) dX12_run_30 fX12_178 (Model_sh hm) ⟨by decide, rfl⟩ (Model_lt hm) ?_
          rw [hq18]
          refine q_iconst (pc := 33) (v := nI 1) dX12_run_33 (by decide) ?_
          refine q_iaddN (pc := 34) dX12_run_34 ?_
          refine q_putI (pc := 35) dX12_run_35 (pX12_178 _) (Model_sh hm) ⟨by decide, rfl⟩ (Model_lt hm) ?_
          refine q_aload_n (pc := 38) dX12_run_38 rfl rfl ?_
          refine q_iconst (pc := 39) (v := nI 4) dX12_run_39 (by decide) ?_
          refine q_iload_n (pc := 40) dX12_run_40 rfl rfl ?_
          refine q_imulN (pc := 41) dX12_run_41 ?_
          refine q_callV (pc := 42) dX12_run_42 kX12_209 (c_rcmd (B := I (m + 5)) (l := l) (p := q + 1) (t := 4 * (i + 1)) hm (bq_u_at _ _ _ _) ((bq_u_no (by omega)).trans hT.2.2.1) ((bq_u_ne (by omega)).trans hT.2.2.2.1) hl60 hlt (by omega)) (Model_sh hm) rfl (Model_lt hm) ⟨Nat.le_of_ble_eq_true rfl, Nat.le_of_ble_eq_true rfl⟩ rfl rfl (Nat.le_of_ble_eq_true rfl) ?_
          rintro _ S3 n3 I3 L3 P3 ⟨rfl, eS3, en3, eL3, eP3, T3, C3, D3⟩
          subst S3 n3 L3 P3
          show bq_W _ _ _ _ _ 45 _ [] _ _ _ _ _ _
          refine q_iinc (pc := 45) (v := nI ((i + 1) + 1)) dX12_run_45 rfl (bq_inc _) (Nat.le_of_ble_eq_true rfl) rfl ?_
          show bq_W _ _ _ _ _ 48 [_, _, _, _] _ _ _ _ _ _ _
          refine q_goto (pc := 48) 12 dX12_run_48 (by decide) ?_
          have hge := hle.2.2 rfl
          have hge' : p + 2 ≤ q := hge
          have hr1 : pR (I (m + 5)) l (k + 1) (i + 1) (q + 1) (bq_r cs i cm) = r := by rw [← hr0, e]; exact ((if_neg (fun z => Bool.noConfusion z)).trans ((if_neg (show ¬ l ≤ q by omega)).trans (if_pos c_25))).symm
          have D4 : ∀ j, j < 4 * (i + 1) → I3 (m + 13) j = J (m + 13) j := fun j hj => (D3 j (Or.inl hj)).trans (congrFun (bq_u_ne (by omega)) j)
          exact ihk (i + 1) (q + 1) I3 (bq_r cs i cm) (by omega) (by omega) hlt hr1 (T3.un hT) C3 (fun j hj => by
            by_cases z : j = i
            · rw [z, bq_r_self]; exact hC'.fr (fun a a1 a2 => D4 a (by omega))
            · rw [bq_r_ne z]; exact (hCs j (by omega)).fr (fun a a1 a2 => D4 a (by omega)))
  refine q_aload_n (pc := 5) dX12_run_5 rfl rfl ?_
  refine q_iconst (pc := 6) (v := nI 0) dX12_run_6 (by decide) ?_
  refine q_callV (pc := 7) dX12_run_7 kX12_209 (c_rcmd (B := I (m + 5)) (l := l) (p := 0) (t := 0) hm p0 l0 b0 hl60 (Nat.zero_le _) (by decide)) (Model_sh hm) rfl (Model_lt hm) ⟨Nat.le_of_ble_eq_true rfl, Nat.le_of_ble_eq_true rfl⟩ rfl rfl (Nat.le_of_ble_eq_true rfl) ?_
  rintro _ S1 n1 I1 L1 P1 ⟨rfl, eS1, en1, eL1, eP1, T1, C1, D1⟩
  subst S1 n1 L1 P1
  show bq_W _ _ _ _ _ 10 _ [] _ _ _ _ _ _
  refine q_iconst (pc := 10) (v := nI 1) dX12_run_10 (by decide) ?_
  refine q_istore_n (pc := 11) dX12_run_11 rfl (Nat.le_of_ble_eq_true rfl) rfl ?_
  show bq_W _ _ _ _ _ 12 [_, _, _, _] _ _ _ _ _ _ _
  exact l1 20 0 0 I1 _ rfl (Nat.le_refl _) (Nat.zero_le _) er T1 C1 (fun j hj => absurd hj (Nat.not_lt_zero j))
