/-! the law's loop, its start, its end -/
theorem lq_and (x : Int32) : ∃ q, q < 32 ∧ x &&& nI 31 = nI q := by
  refine ⟨x.toBitVec.toNat % 32, Nat.mod_lt _ (by decide), Int32.toBitVec_inj.1 (BitVec.eq_of_toNat_eq ?_)⟩
  rw [Int32.toBitVec_and, BitVec.toNat_and]
  have e1 : (nI 31).toBitVec.toNat = 2 ^ 5 - 1 := by decide
  have e2 : (nI (x.toBitVec.toNat % 32)).toBitVec.toNat = x.toBitVec.toNat % 32 % 2 ^ 32 := rfl
  have e3 : x.toBitVec.toNat % 32 < 2 ^ 32 := Nat.lt_of_lt_of_le (Nat.mod_lt _ (by decide)) (by decide)
  rw [e1, e2, Nat.mod_eq_of_lt e3, Nat.and_two_pow_sub_one_eq_mod]
theorem lq_lt {i Ln : Nat} (hi : i < 10000) (hn : Ln ≤ 3584) (h : ¬ nI Ln - nI 7 < nI i) : i + 7 ≤ Ln := by
  rw [Int32.lt_iff_toInt_lt, Int32.toInt_sub, nI_toInt (by omega), nI_toInt (by omega), nI_toInt (by omega), Int.bmod_eq_of_le (by omega) (by omega)] at h
  omega
section
variable {D : va_G} {p : Program} {l : Launch} {e : Env} {s : State} {m : MethodId} {below : List Frame} {meth : Method} {c : Code} {sb Ln cells slots : Nat} {xs : Nat → Int32} {S : BqH} {n : Nat} {I : BqI} {L : BqL} {P : BqP} {h : Nat → BqG} {ch tl en : Nat}
set_option maxHeartbeats 1000000 in
set_option maxRecDepth 20000 in
theorem law_loop (C : lq_C D p s m meth c sb Ln xs) (hn : Ln ≤ 3584) (hc : cells ≤ 600000 ∧ slots ≤ 7302250) : ∀ (f t : Nat) (S : BqH) (n : Nat) (I : BqI) (L : BqL) (P : BqP) (h : Nat → BqG) (ch tl : Nat), t + f = 520 → 7 * t ≤ Ln + 6 → JI 0 536 S n I L P h ch tl (60 * t) → lq_W D p l e s m below meth c sb cells slots 18 (lq_L s.heap.size sb (7 * t)) [] S n I L P
  | 0, t, S, n, I, L, P, h, ch, tl, ht, hl, _ => by omega
  | f + 1, t, S, n, I, L, P, h, ch, tl, ht, hl, J => by
    refine lq_iload_n (pc := 18) 3 C dL_law_18 rfl rfl ?_
    refine lq_aload_n (pc := 19) 0 C dL_law_19 rfl rfl ?_
    refine lq_alen (pc := 20) C dL_law_20 ?_
    refine lq_bipush (pc := 21) (v := nI 7) C dL_law_21 (by decide) ?_
    refine lq_isub (pc := 23) C dL_law_23 ?_
    refine lq_gt (pc := 24) 1068 C dL_law_24 (by decide) (fun _ => lq_end C hc) (fun c24 => ?_)
    have hi : 7 * t + 7 ≤ Ln := lq_lt (by omega) hn c24
    have hen : 60 * t + 60 < 200000 := by omega
    have K : ∀ (S' : BqH) (n' : Nat) (I' : BqI) (L' : BqL) (P' : BqP) (h' : Nat → BqG) (ch' tl' : Nat), JI 0 536 S' n' I' L' P' h' ch' tl' (60 * t + 60) → lq_W D p l e s m below meth c sb cells slots 1062 (lq_L s.heap.size sb (7 * t)) [] S' n' I' L' P' := fun S' n' I' L' P' h' ch' tl' J' => by
      refine lq_iinc (pc := 1062) C dL_law_1062 ?_
      refine lq_goto (pc := 1065) 18 C dL_law_1065 (by decide) ?_
      have r := law_loop C hn hc f (t + 1) S' n' I' L' P' h' ch' tl' (by omega) (by omega) (by rw [show 60 * (t + 1) = 60 * t + 60 by omega]; exact J')
      rw [show 7 * (t + 1) = 7 * t + 7 by omega] at r
      exact r
    refine lq_aload_n (pc := 27) 0 C dL_law_27 rfl rfl ?_
    refine lq_iload_n (pc := 28) 3 C dL_law_28 rfl rfl ?_
    refine lq_sld (pc := 29) C (by omega) hn dL_law_29 ?_
    refine lq_bipush (pc := 30) (v := nI 31) C dL_law_30 (by decide) ?_
    refine lq_iand (pc := 32) C dL_law_32 ?_
    obtain ⟨q, hq, e⟩ := lq_and (xs (7 * t))
    rw [e]
    rcases (show q = 0 ∨ q = 1 ∨ q = 2 ∨ q = 3 ∨ q = 4 ∨ q = 5 ∨ q = 6 ∨ q = 7 ∨ q = 8 ∨ q = 9 ∨ q = 10 ∨ q = 11 ∨ q = 12 ∨ q = 13 ∨ q = 14 ∨ q = 15 ∨ q = 16 ∨ q = 17 ∨ q = 18 ∨ q = 19 ∨ q = 20 ∨ q = 21 ∨ q = 22 ∨ q = 23 ∨ q = 24 ∨ q = 25 ∨ q = 26 ∨ q = 27 ∨ q = 28 ∨ q = 29 ∨ 29 < q by omega) with rfl | rfl | rfl | rfl | rfl | rfl | rfl | rfl | rfl | rfl | rfl | rfl | rfl | rfl | rfl | rfl | rfl | rfl | rfl | rfl | rfl | rfl | rfl | rfl | rfl | rfl | rfl | rfl | rfl | rfl | h29
    · exact lq_in (pc := 33) 168 C dL_law_33 (by decide) rfl (by decide) (law_0 C hn hi hc J hen K)
    · exact lq_in (pc := 33) 201 C dL_law_33 (by decide) rfl (by decide) (law_1 C hn hi hc J hen K)
    · exact lq_in (pc := 33) 244 C dL_law_33 (by decide) rfl (by decide) (law_2 C hn hi hc J hen K)
    · exact lq_in (pc := 33) 287 C dL_law_33 (by decide) rfl (by decide) (law_3 C hn hi hc J hen K)
    · exact lq_in (pc := 33) 330 C dL_law_33 (by decide) rfl (by decide) (law_4 C hn hi hc J hen K)
    · exact lq_in (pc := 33) 353 C dL_law_33 (by decide) rfl (by decide) (law_5 C hn hi hc J hen K)
    · exact lq_in (pc := 33) 396 C dL_law_33 (by decide) rfl (by decide) (law_6 C hn hi hc J hen K)
    · exact lq_in (pc := 33) 449 C dL_law_33 (by decide) rfl (by decide) (law_7 C hn hi hc J hen K)
    · exact lq_in (pc := 33) 472 C dL_law_33 (by decide) rfl (by decide) (law_8 C hn hi hc J hen K)
    · exact lq_in (pc := 33) 505 C dL_law_33 (by decide) rfl (by decide) (law_9 C hn hi hc J hen K)
    · exact lq_in (pc := 33) 518 C dL_law_33 (by decide) rfl (by decide) (law_10 C hn hi hc J hen K)
    · exact lq_in (pc := 33) 541 C dL_law_33 (by decide) rfl (by decide) (law_11 C hn hi hc J hen K)
    · exact lq_in (pc := 33) 564 C dL_law_33 (by decide) rfl (by decide) (law_12 C hn hi hc J hen K)
    · exact lq_in (pc := 33) 639 C dL_law_33 (by decide) rfl (by decide) (law_13 C hn hi hc J hen K)
    · exact lq_in (pc := 33) 652 C dL_law_33 (by decide) rfl (by decide) (law_14 C hn hi hc J hen K)
    · exact lq_in (pc := 33) 665 C dL_law_33 (by decide) rfl (by decide) (law_15 C hn hi hc J hen K)
    · exact lq_in (pc := 33) 698 C dL_law_33 (by decide) rfl (by decide) (law_16 C hn hi hc J hen K)
    · exact lq_in (pc := 33) 731 C dL_law_33 (by decide) rfl (by decide) (law_17 C hn hi hc J hen K)
    · exact lq_in (pc := 33) 764 C dL_law_33 (by decide) rfl (by decide) (law_18 C hn hi hc J hen K)
    · exact lq_in (pc := 33) 817 C dL_law_33 (by decide) rfl (by decide) (law_19 C hn hi hc J hen K)
    · exact lq_in (pc := 33) 850 C dL_law_33 (by decide) rfl (by decide) (law_20 C hn hi hc J hen K)
    · exact lq_in (pc := 33) 873 C dL_law_33 (by decide) rfl (by decide) (law_21 C hn hi hc J hen K)
    · exact lq_in (pc := 33) 906 C dL_law_33 (by decide) rfl (by decide) (law_22 C hn hi hc J hen K)
    · exact lq_in (pc := 33) 930 C dL_law_33 (by decide) rfl (by decide) (law_23 C hn hi hc J hen K)
    · exact lq_in (pc := 33) 943 C dL_law_33 (by decide) rfl (by decide) (law_24 C hn hi hc J hen K)
    · exact lq_in (pc := 33) 976 C dL_law_33 (by decide) rfl (by decide) (law_25 C hn hi hc J hen K)
    · exact lq_in (pc := 33) 1000 C dL_law_33 (by decide) rfl (by decide) (law_26 C hn hi hc J hen K)
    · exact lq_in (pc := 33) 1013 C dL_law_33 (by decide) rfl (by decide) (law_27 C hn hi hc J hen K)
    · exact lq_in (pc := 33) 1026 C dL_law_33 (by decide) rfl (by decide) (law_28 C hn hi hc J hen K)
    · exact lq_in (pc := 33) 1039 C dL_law_33 (by decide) rfl (by decide) (law_29 C hn hi hc J hen K)
    · exact lq_out (pc := 33) 1062 C dL_law_33 h29 hq (by decide) (K _ _ _ _ _ _ _ _ (J.fr (by omega) (fun _ _ => rfl) (fun _ _ => rfl)))
end
theorem BB.fst {o z : Nat} {T U : BqTb} {kd : Nat × Nat} {S0 : BqH} {I0 : BqI} {L0 : BqL} {P0 : BqP} {S : BqH} {n : Nat} {I : BqI} {L : BqL} {P : BqP} {S' : BqH} {n' : Nat} {I' : BqI} {L' : BqL} {P' : BqP} (h : BB o 1 (tN T 0 kd) S0 I0 L0 P0 S n I L P) (h' : BB o z U S I L P S' n' I' L' P') : BB o z U S0 I0 L0 P0 S' n' I' L' P' :=
  ⟨h'.1, fun a ha => ⟨(h'.2 a ha).1.trans (h.2 a ha).1, (h'.2 a ha).2.1.trans (h.2 a ha).2.1, (h'.2 a ha).2.2.1.trans (h.2 a ha).2.2.1, (h'.2 a ha).2.2.2.trans (h.2 a ha).2.2.2⟩⟩
theorem BB.zero {T : BqTb} {o : Nat} {S : BqH} {I : BqI} {L : BqL} {P : BqP} : BB o 0 T S I L P S o I L P := ⟨⟨rfl, fun d hd => absurd hd (Nat.not_lt_zero d)⟩, fun _ _ => ⟨rfl, rfl, rfl, rfl⟩⟩
set_option maxHeartbeats 1000000 in
set_option maxRecDepth 20000 in
/-- from the entry, for every script of at most 3584 ints, the law comes to its end with true -/
theorem whole_start {p : Program} {e : Env} {s : State} {m : MethodId} {below : List Frame} {meth : Method} {c : Code} (l : Launch) (hflags : l.flags = flags0) {b L : Nat} {xs : Nat → Int32} (hL : L ≤ 3584) (C0 : lw_At p s m meth c b L xs) : W p l e room_1 s m #[Value.ref b] below meth c s.heap [] 0 0 (lw_Z below #[Value.ref b] s) (entryFrame m ([Value.ref b] : List Value).toArray 4) := by
  obtain ⟨hx, hb, hr, hml, hown, hts, hX, hbl, hlocks, hgv⟩ := id C0
  obtain ⟨D, hK⟩ := lq_K hts
  have C : lq_C D p s m meth c b L xs := ⟨hx, hb, hr, hml, hown, fun w hw => hts w (List.mem_filter.mp hw).1, hlocks, hK, hX, hbl⟩
  have hl := lv_entry ([.ref b]) (n := 4) (Nat.le_of_ble_eq_true rfl)
  rw [lg_entry_eq]
  generalize (lg_sl ([.ref b]) ++ List.replicate (4 - (lg_sl ([.ref b])).length) Slot.unset).toArray = ls at hl ⊢
  have hl : lv_has ls 4 [(0, .ref b)] := hl
  have h0 : BB 0 0 (t0 11) (fun _ => (0, 0)) (fun _ _ => 0) (fun _ _ => 0) (fun _ _ => none) (fun _ => (0, 0)) 0 (fun _ _ => 0) (fun _ _ => 0) (fun _ _ => none) := BB.zero
  have h1 := h0.new (11, 0)
  have go : lq_W D p l e s m below meth c b 0 0 0 [(0, .ref b)] [] (fun _ => (0, 0)) 0 (fun _ _ => 0) (fun _ _ => 0) (fun _ _ => none) := by
    refine lq_new (pc := 0) (ci := 11) (N1 := 11) C dL_law_0 nL_7 (by decide) ⟨Nat.le_of_ble_eq_true rfl, Nat.le_of_ble_eq_true rfl⟩ ?_
    refine lq_dup (pc := 3) C dL_law_3 ?_
    refine lq_callI (pc := 4) (k0 := 0) C dL_law_4 kL_9 (c_init11 h1.in) ⟨Nat.le_of_ble_eq_true rfl, Nat.le_of_ble_eq_true rfl⟩ ⟨Nat.le_of_ble_eq_true rfl, Nat.le_of_ble_eq_true rfl⟩ (Nat.le_of_ble_eq_true rfl) (fun r S1 n1 I1 L1 P1 q1 => ⟨q1.1, ?_⟩)
    obtain ⟨-, q1⟩ := q1
    have h2 := h1.fst q1
    obtain rfl : n1 = 536 := q1.1.1
    have h3 : BB 536 0 (t0 12) S1 I1 L1 P1 S1 536 I1 L1 P1 := BB.zero
    have h4 := h3.new (12, 0)
    suffices go2 : lq_W D p l e s m below meth c b (0 + 1 + 535) (0 + 11 + 6741) 8 [(1, .ref (s.heap.size + 0)), (0, .ref b)] [] S1 536 I1 L1 P1 by
      intro H locs ls hR hS hl
      exact lv_astore_n (lv' := [(1, .ref (s.heap.size + 0)), (0, .ref b)]) hx hb dL_law_7 rfl hl (by decide) rfl (fun ls hl => go2 H locs ls hR hS hl)
    refine lq_new (pc := 8) (ci := 12) (N1 := 21) C dL_law_8 nL_10 (by decide) ⟨Nat.le_of_ble_eq_true rfl, Nat.le_of_ble_eq_true rfl⟩ ?_
    refine lq_dup (pc := 11) C dL_law_11 ?_
    refine lq_callI (pc := 12) (k0 := 0) C dL_law_12 kL_12 (c_init12 h4.in) ⟨Nat.le_of_ble_eq_true rfl, Nat.le_of_ble_eq_true rfl⟩ ⟨Nat.le_of_ble_eq_true rfl, Nat.le_of_ble_eq_true rfl⟩ (Nat.le_of_ble_eq_true rfl) (fun r S2 n2 I2 L2 P2 q2 => ⟨q2.1, ?_⟩)
    obtain ⟨-, q2⟩ := q2
    have h5 := h4.fst q2
    have J : JI 0 536 S2 n2 I2 L2 P2 (fun _ _ => 0) 0 0 0 := JI.new (fun _ _ => 0) h2 h5
    intro H locs ls hR hS hl
    refine lv_astore_n (lv' := [(2, .ref (s.heap.size + 536)), (1, .ref (s.heap.size + 0)), (0, .ref b)]) hx hb dL_law_15 rfl hl (by decide) rfl (fun ls hl => ?_)
    refine lv_iconst (v := nI 0) hx hb dL_law_16 (by decide) ?_
    refine lv_istore_n (lv' := [(3, .int (nI 0)), (2, .ref (s.heap.size + 536)), (1, .ref (s.heap.size + 0)), (0, .ref b)]) hx hb dL_law_17 rfl hl (by decide) rfl (fun ls hl => ?_)
    exact law_loop C hL ⟨Nat.le_of_ble_eq_true rfl, Nat.le_of_ble_eq_true rfl⟩ 520 0 S2 n2 I2 L2 P2 (fun _ _ => 0) 0 0 rfl (by omega) J H locs ls hR hS (lv_sub hl [3, 2, 1, 0] rfl)
  exact go s.heap [] ls ⟨rfl, fun o ho => absurd ho (Nat.not_lt_zero o)⟩ va_S.rf hl
-- the end: the claim out of the walk
set_option maxHeartbeats 4000000 in
theorem lw_walk (l : Launch) (hflags : l.flags = flags0) (b : Addr) (xs : List Int32) : MetFree l x (headSpec (Jvm.Cond.code x code maxLocals ret :: tables_1) room_1) (lw_P b xs) (fun _ _ _ _ _ => True) lw_Q := by
  refine MetFree.of_bodyS (code := code) (maxLocals := maxLocals) (ret := ret) (by decide) ?_ ?_
  · intro args s m h hn
    obtain ⟨meth, c, h1, h2, h3, h4, h5, h6, -, -⟩ := Cond.code_spec hn (atoms_spec (ws := Jvm.Cond.code x code maxLocals ret :: tables_1) h _ List.mem_cons_self)
    exact ⟨meth, c, h1, h2, h3, h4, h5, h6⟩
  · intro p e s m args below meth c s₁ B hml0 hP _
    obtain ⟨rfl, hx, hbd, hgv⟩ := hP
    obtain ⟨scr, harrAt, hlist, hof, hsmall⟩ := hx
    obtain ⟨hcb, hkn, -, -⟩ := State.arrayAt?_spec harrAt
    have hown : s.vm.findClass R_law = some m.cls := findClass_of_methodNamed B.named
    have hts0 : ∀ c ∈ (Jvm.Cond.code x code maxLocals ret :: tables_1), c.before #[Value.ref b] s = true := atoms_spec (ws := Jvm.Cond.code x code maxLocals ret :: tables_1) B.pre
    have hts : ∀ w ∈ lw_tbl, w.before #[Value.ref b] s = true := k2_hts_sels lw_privs (fun w hw => hts0 w (List.mem_cons_of_mem _ hw)) lw_privs_ok
    have hml : c.maxLocals = 4 := B.maxLocals_eq (hts0 _ List.mem_cons_self)
    have X₀ : Stand p l e room_1 s m #[Value.ref b] below meth c s₁ [] 0 0 := Stand.of_body B
    have hh0 : s₁.heap = s.heap := by rw [B.state]; rfl
    have hsz : scr.slots.size = xs.length := by rw [← Array.length_toList, hlist, List.length_map]
    have hval : ∀ j : Nat, j < xs.length → scr.slots[j]? = some (.int (xs.getD j 0)) := fun j hj => by
      rw [← Array.getElem?_toList, hlist]
      simp [hj]
    have hbl : b < s.heap.size := (Array.getElem?_eq_some_iff.mp hcb).1
    have hX : va_X b xs.length (fun j => xs.getD j 0) s s.heap := ⟨scr, hcb, hof, hkn, hsz, hval⟩
    have K : W p l e room_1 s m #[Value.ref b] below meth c s₁.heap [] 0 0 (lw_Z below #[Value.ref b] s) (entryFrame m ([Value.ref b] : List Value).toArray 4) := by
      rw [hh0]
      exact whole_start l hflags hbd ⟨B.exec, B.bytes, B.returns, hml, hown, hts, hX, hbl, B.notSynchronized, hgv⟩
    obtain ⟨t, a1, o, b1, b2, b3⟩ := K s₁ rfl X₀
    exact ⟨t, o, a1, b1, b2, b3⟩
theorem lw_pre_spec {args : Array Value} {s : State} (h : (Jvm.Cond.and given_1 narrow_1).before args s = true) (hr : rest_1_c.before args s = true) : ∃ (b : Addr) (xs : List Int32), lw_P b xs args s := by
  have hs := flat_of_before _ h
  have hq := flat_of_before _ hr
  have hc : (Cond.count 1).before args s = true := hs _ (by decide +kernel)
  have harr : (Cond.arrayOf (.arg 0) .int).before args s = true := hs _ (by decide +kernel)
  have hle : (Cond.le (.length (.arg 0)) (.int 3584)).before args s = true := hs _ (by decide +kernel)
  have hlen : (Cond.isInt (.length (.arg 0))).before args s = true := hq _ (by decide +kernel)
  have hall : (Cond.all (.arg 0) (.isInt (.elem (.arg 0) (.index 0)))).before args s = true := hq _ (by decide +kernel)
  obtain ⟨b, xs, hb, hx⟩ := State.ints_of_pre rfl harr hlen hall
  have hsm : xs.length < 2 ^ 31 := hx.choose_spec.2.2.2
  have hev : (Term.length (.arg 0)).eval args s none [] s = some (.int xs.length.toInt32) := hx.length_eval hb
  have hv := Cond.le_ints hev (show (Term.int 3584).eval args s none [] s = some (.int 3584) from rfl)
  have hd : xs.length.toInt32 ≤ 3584 := by
    simpa [Cond.before, Cond.holds, hv] using hle
  have hN : xs.length ≤ 3584 := (Int32.ofNat_le_ofNat hsm (by decide)).mp (show Int32.ofNat xs.length ≤ Int32.ofNat 3584 from hd)
  exact ⟨b, xs, Cond.one_arg hc (show args[0]? = some (.ref b) from hb), hx, hN, h⟩
theorem lw_comes (l : Launch) (hflags : l.flags = flags0) : Comes l x (Jvm.Cond.code x code maxLocals ret :: tables_1) room_1 (fun tb e args s => Calls_1 tb e args s ∧ rest_1 tb e args s ∧ Pre_1 tb e args s)
    (fun _ _ args s o t => lw_Q args s o t) := by
  intro p e ha hc hk s m args below hf hfit hheap happ hpre
  obtain ⟨b, xs, hP⟩ := lw_pre_spec hpre.2.2 hpre.2.1
  obtain ⟨k, o, h1, h2, h3, hQ⟩ := lw_walk l hflags b xs p e ha hc hk s m args below hf ((Spec.applies_iff_loose hf).mp happ).1 hP trivial
  exact ⟨k, o, h1, h2, h3, hQ⟩
theorem lw_frame {s t : State} {o : Outcome} {args : Array Value} (h : Framed s o t [] 600000 7302250) :
    Framed s o t (fieldLocs frame_1_writes args s ++ arrayLocs frame_1_arrays args s ++ staticLocs frame_1_statics s) 600000 7302250 := h
theorem lw_limb (L : Cond) (hL : ∀ (args : Array Value) (s t : State), L.after args s (.returned (some (.int 1))) t = true) :
    ArmFor flags0 classFile x code maxLocals ret World_1 tables_1 room_1 Calls_1 rest_1 Pre_1
      (fun tb e a s o t => postC L tb e a s o t ∧ Framed s o t (fieldLocs frame_1_writes a s ++ arrayLocs frame_1_arrays a s ++ staticLocs frame_1_statics s) 600000 7302250) := by
  intro l hflags _ _ p e ha hc hk s m args below hf hfit hheap happ hpre
  obtain ⟨k, o, h1, h2, h3, rfl, hF⟩ := lw_comes l hflags p e ha hc hk s m args below hf hfit hheap happ hpre
  exact ⟨k, _, h1, h2, h3, hL args s _, lw_frame hF⟩
theorem i_vc : Claimed_1_1 ∧ Claimed_1_2 := ⟨lw_limb limb_1_1 (fun args s t => by simp [limb_1_1, Cond.after, Cond.holds, Cond.value]), lw_limb limb_1_2 (fun args s t => Cond.after_iff.mpr (by
  first | (rw [show limb_1_2 = Cond.eq .result (.int 1) from rfl, Cond.eq_ints (x := 1) (y := 1) rfl rfl]; simp; done) | (simp [limb_1_2, Cond.value, Term.eval]; done)))⟩
