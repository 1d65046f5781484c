/-! the law's own walk: the script's cell lies below the block -/
def R_law : String := "BreweryCellarLaw"
def lw_P (b : Addr) (xs : List Int32) (args : Array Value) (s : State) : Prop := args = #[.ref b] ∧ s.IntsAt b xs ∧ xs.length ≤ 3584 ∧ (Jvm.Cond.and given_1 narrow_1).before args s = true
def lw_Q (_ : Array Value) (s : State) (o : Outcome) (t : State) : Prop := o = .returned (some (.int 1)) ∧ Framed s o t [] 600000 7302250
def lw_Z (below : List Frame) (a : Array Value) (s : State) : State → Prop := fun t => ∃ o, t.status = .running ∧ Ended t below o ∧ lw_Q a s o t
/-- the law's own end, with 1 on the stack, nothing written that was there before, its room as the claim has it -/
theorem lw_ret {p : Program} {l : Launch} {e : Env} {s : State} {m : MethodId} {below : List Frame} {meth : Method} {c : Code} {b : Nat} (hx : p.tables.exec = Jvm.exec) (hb : c.code = code) (hr : meth.sig.returnType = ret) (hlocks : meth.locks = false) {pc : Nat} {H : Heap} {ls : Array Slot} (hdg : decode code pc = .ok (.ireturn, 1)) : W p l e room_1 s m #[Value.ref b] below meth c H [] 600000 7302250 (lw_Z below #[Value.ref b] s) (F0 m pc ls [.int 1]) := by
  intro T hT X
  obtain ⟨fs, hret, hrun, hended, hW, hframe⟩ := X.leave (v := some (.int 1)) (hlocks := hlocks) (fun h => by rw [hr] at h; cases h)
  have hmeth' : T.vm.method? m = some meth := X.method'
  refine ⟨T.setFrames fs, ?_, .returned (some (.int 1)), hrun, hended, rfl, ⟨_, rfl⟩, hW, hframe⟩
  jvm_step X.here [X.here.top, hx, hb, hdg, hmeth', hr, ret, narrow_b1]
  (try refine ⟨rfl, ?_⟩); (try refine ⟨rfl, ?_⟩)
  first | (intro acts; rw [hret _ acts rfl rfl rfl]) | rw [hret _ _ rfl rfl rfl]
  exact Steps.refl _
/-- what holds at the law's entry: the machine, the code, the tables' words (any of lw_tbl by 'hts w (by decide +kernel)'), the script of L ints xs at the cell b, what the Statement gives of the start (any of its parts by flat_of_before) -/
def lw_At (p : Program) (s : State) (m : MethodId) (meth : Method) (c : Code) (b L : Nat) (xs : Nat → Int32) : Prop :=
  p.tables.exec = Jvm.exec ∧ c.code = code ∧ meth.sig.returnType = ret ∧ c.maxLocals = 4 ∧ s.vm.findClass R_law = some m.cls ∧ (∀ w ∈ lw_tbl, w.before #[Value.ref b] s = true) ∧ va_X b L xs s s.heap ∧ b < s.heap.size ∧ meth.locks = false ∧ (Jvm.Cond.and given_1 narrow_1).before #[Value.ref b] s = true
def lq_C (D : va_G) (p : Program) (s : State) (m : MethodId) (meth : Method) (c : Code) (sb Ln : Nat) (xs : Nat → Int32) : Prop :=
  p.tables.exec = Jvm.exec ∧ c.code = cL_law ∧ meth.sig.returnType = ret ∧ c.maxLocals = 4 ∧ s.vm.findClass RL = some m.cls ∧ (∀ w ∈ bq_TB, w.before #[Value.ref sb] s = true) ∧ meth.locks = false ∧ bq_K D s ∧ va_X sb Ln xs s s.heap ∧ sb < s.heap.size
def lq_W (D : va_G) (p : Program) (l : Launch) (e : Env) (s : State) (m : MethodId) (below : List Frame) (meth : Method) (c : Code) (sb cells slots pc : Nat) (lv : List (Nat × Value)) (st : List Value) (S : BqH) (n : Nat) (I : BqI) (L : BqL) (P : BqP) : Prop :=
  ∀ (H : Heap) (locs : List Jvm.Loc) (ls : Array Slot), bq_R D s.heap.size s H S n I L P → va_S (fun q => s.heap.size ≤ q) s.heap H locs → lv_has ls 4 lv → W p l e room_1 s m #[Value.ref sb] below meth c H locs cells slots (lw_Z below #[Value.ref sb] s) (F0 m pc ls st)
abbrev lq_L (b sb i : Nat) : List (Nat × Value) := [(0, .ref sb), (1, .ref (b + 0)), (2, .ref (b + 536)), (3, .int (nI i))]
section
variable {D : va_G} {p : Program} {l : Launch} {e : Env} {s : State} {m : MethodId} {below : List Frame} {meth : Method} {c : Code} {sb Ln cells slots pc : Nat} {xs : Nat → Int32} {lv : List (Nat × Value)} {st : List Value} {S : BqH} {n : Nat} {I : BqI} {L : BqL} {P : BqP}
theorem lq_iconst {z : Int} {v : Int32} (C : lq_C D p s m meth c sb Ln xs) (hd : decode cL_law pc = .ok (.iconst z, 1)) (hv : Int32.ofInt z = v) (k : lq_W D p l e s m below meth c sb cells slots (pc + 1) lv (.int v :: st) S n I L P) : lq_W D p l e s m below meth c sb cells slots pc lv st S n I L P :=
  fun H locs ls hR hS hL => lv_iconst C.1 C.2.1 hd hv (k H locs ls hR hS hL)
theorem lq_bipush {z : Int} {v : Int32} (C : lq_C D p s m meth c sb Ln xs) (hd : decode cL_law pc = .ok (.bipush z, 2)) (hv : (Int8.ofInt z).toInt32 = v) (k : lq_W D p l e s m below meth c sb cells slots (pc + 2) lv (.int v :: st) S n I L P) : lq_W D p l e s m below meth c sb cells slots pc lv st S n I L P :=
  fun H locs ls hR hS hL => lv_bipush C.1 C.2.1 hd hv (k H locs ls hR hS hL)
theorem lq_iload_n {k0 : Fin 4} {i : Nat} {x : Int32} (j : Nat) (C : lq_C D p s m meth c sb Ln xs) (hd : decode cL_law pc = .ok (.iload_n k0, 1)) (hi : (k0 : Nat) = i) (hj : lv[j]? = some (i, .int x)) (k : lq_W D p l e s m below meth c sb cells slots (pc + 1) lv (.int x :: st) S n I L P) : lq_W D p l e s m below meth c sb cells slots pc lv st S n I L P :=
  fun H locs ls hR hS hL => lv_iload_n C.1 C.2.1 hd hi (lv_at hL j hj) (k H locs ls hR hS hL)
theorem lq_aload_n {k0 : Fin 4} {i : Nat} {x : Nat} (j : Nat) (C : lq_C D p s m meth c sb Ln xs) (hd : decode cL_law pc = .ok (.aload_n k0, 1)) (hi : (k0 : Nat) = i) (hj : lv[j]? = some (i, .ref x)) (k : lq_W D p l e s m below meth c sb cells slots (pc + 1) lv (.ref x :: st) S n I L P) : lq_W D p l e s m below meth c sb cells slots pc lv st S n I L P :=
  fun H locs ls hR hS hL => lv_aload_n C.1 C.2.1 hd hi (lv_at hL j hj) (k H locs ls hR hS hL)
theorem lq_iadd {x y : Int32} (C : lq_C D p s m meth c sb Ln xs) (hd : decode cL_law pc = .ok (.iadd, 1)) (k : lq_W D p l e s m below meth c sb cells slots (pc + 1) lv (.int (x + y) :: st) S n I L P) : lq_W D p l e s m below meth c sb cells slots pc lv (.int y :: .int x :: st) S n I L P :=
  fun H locs ls hR hS hL => lv_iadd C.1 C.2.1 hd (k H locs ls hR hS hL)
theorem lq_isub {x y : Int32} (C : lq_C D p s m meth c sb Ln xs) (hd : decode cL_law pc = .ok (.isub, 1)) (k : lq_W D p l e s m below meth c sb cells slots (pc + 1) lv (.int (x - y) :: st) S n I L P) : lq_W D p l e s m below meth c sb cells slots pc lv (.int y :: .int x :: st) S n I L P :=
  fun H locs ls hR hS hL => lv_isub C.1 C.2.1 hd (k H locs ls hR hS hL)
theorem lq_iand {x y : Int32} (C : lq_C D p s m meth c sb Ln xs) (hd : decode cL_law pc = .ok (.iand, 1)) (k : lq_W D p l e s m below meth c sb cells slots (pc + 1) lv (.int (x &&& y) :: st) S n I L P) : lq_W D p l e s m below meth c sb cells slots pc lv (.int y :: .int x :: st) S n I L P :=
  fun H locs ls hR hS hL => lv_iand C.1 C.2.1 hd (k H locs ls hR hS hL)
theorem lq_dup {x : Nat} (C : lq_C D p s m meth c sb Ln xs) (hd : decode cL_law pc = .ok (.dup, 1)) (k : lq_W D p l e s m below meth c sb cells slots (pc + 1) lv (.ref x :: .ref x :: st) S n I L P) : lq_W D p l e s m below meth c sb cells slots pc lv (.ref x :: st) S n I L P :=
  fun H locs ls hR hS hL => lv_dup C.1 C.2.1 hd rfl (k H locs ls hR hS hL)
theorem lq_goto {off : Int} (tgt : Nat) (C : lq_C D p s m meth c sb Ln xs) (hd : decode cL_law pc = .ok (.goto off, 3)) (ht : (pc : Int) + off = (tgt : Int)) (k : lq_W D p l e s m below meth c sb cells slots tgt lv st S n I L P) : lq_W D p l e s m below meth c sb cells slots pc lv st S n I L P :=
  fun H locs ls hR hS hL => lv_goto C.1 C.2.1 hd ht (k H locs ls hR hS hL)
theorem lq_alen (C : lq_C D p s m meth c sb Ln xs) (hd : decode cL_law pc = .ok (.arraylength, 1)) (k : lq_W D p l e s m below meth c sb cells slots (pc + 1) lv (.int (nI Ln) :: st) S n I L P) : lq_W D p l e s m below meth c sb cells slots pc lv (.ref sb :: st) S n I L P :=
  fun H locs ls hR hS hL => va_slen C.1 C.2.1 C.2.2.2.2.2.2.2.2.1 C.2.2.2.2.2.2.2.2.2 (Nat.not_le.mpr C.2.2.2.2.2.2.2.2.2) hS hd (k H locs ls hR hS hL)
theorem lq_sld {j : Nat} (C : lq_C D p s m meth c sb Ln xs) (hj : j < Ln) (hn : Ln ≤ 3584) (hd : decode cL_law pc = .ok (.iaload, 1)) (k : lq_W D p l e s m below meth c sb cells slots (pc + 1) lv (.int (xs j) :: st) S n I L P) : lq_W D p l e s m below meth c sb cells slots pc lv (.int (nI j) :: .ref sb :: st) S n I L P :=
  fun H locs ls hR hS hL => va_sld C.1 C.2.1 C.2.2.2.2.2.2.2.2.1 C.2.2.2.2.2.2.2.2.2 (Nat.not_le.mpr C.2.2.2.2.2.2.2.2.2) hS (vp_in_nI hj (by omega)) hd (by rw [nI_clamp (by omega)]; exact k H locs ls hR hS hL)
theorem lq_iinc {i : Nat} (C : lq_C D p s m meth c sb Ln xs) (hd : decode cL_law pc = .ok (.iinc 3 7, 3)) (k : lq_W D p l e s m below meth c sb cells slots (pc + 3) (lq_L s.heap.size sb (i + 7)) st S n I L P) : lq_W D p l e s m below meth c sb cells slots pc (lq_L s.heap.size sb i) st S n I L P :=
  fun H locs ls hR hS hL => lv_iinc (k := 3) (v := nI (i + 7)) C.1 C.2.1 hd hL rfl (by rw [← nI_add, show Int32.ofInt 7 = nI 7 by decide]) (by decide) rfl (fun ls' h => k H locs ls' hR hS (lv_sub h [1, 2, 3, 0] rfl))
theorem lq_gt {x y : Int32} {off : Int} (tgt : Nat) (C : lq_C D p s m meth c sb Ln xs) (hd : decode cL_law pc = .ok (.if_icmp .gt off, 3)) (ht : (pc : Int) + off = (tgt : Int)) (kt : y < x → lq_W D p l e s m below meth c sb cells slots tgt lv st S n I L P) (kf : ¬ y < x → lq_W D p l e s m below meth c sb cells slots (pc + 3) lv st S n I L P) : lq_W D p l e s m below meth c sb cells slots pc lv (.int y :: .int x :: st) S n I L P :=
  fun H locs ls hR hS hL => lv_icmp_gt C.1 C.2.1 hd ht (fun h => kt h H locs ls hR hS hL) (fun h => kf h H locs ls hR hS hL)
theorem lq_eqI {x : Int32} {off : Int} (C : lq_C D p s m meth c sb Ln xs) (hd : decode cL_law pc = .ok (.if_icmp .eq off, 3)) (ht : (pc : Int) + off = ((1062 : Nat) : Int)) (k : lq_W D p l e s m below meth c sb cells slots 1062 lv st S n I L P) : lq_W D p l e s m below meth c sb cells slots pc lv (.int x :: .int x :: st) S n I L P :=
  fun H locs ls hR hS hL => lv_icmp_eq C.1 C.2.1 hd ht (fun _ => k H locs ls hR hS hL) (fun h => absurd rfl h)
theorem lg_cmp_self (x : Int64) : lg_cmp x x = 0 := by
  unfold lg_cmp
  rw [if_neg (show ¬ x > x from fun h => Int64.lt_irrefl h), if_pos rfl]
theorem lq_eqL {x : Int64} {off : Int} (C : lq_C D p s m meth c sb Ln xs) (hd0 : decode cL_law pc = .ok (.lcmp, 1)) (hd : decode cL_law (pc + 1) = .ok (.ifCond .eq off, 3)) (ht : ((pc + 1 : Nat) : Int) + off = ((1062 : Nat) : Int)) (k : lq_W D p l e s m below meth c sb cells slots 1062 lv st S n I L P) : lq_W D p l e s m below meth c sb cells slots pc lv (.long x :: .long x :: st) S n I L P :=
  fun H locs ls hR hS hL => W.lcmp C.1 C.2.1 hd0 (by rw [lg_cmp_self]; exact lv_if_eq C.1 C.2.1 hd ht (fun _ => k H locs ls hR hS hL) (fun h => absurd rfl h))
theorem lq_in {q : Nat} {off : Int} (tgt : Nat) (C : lq_C D p s m meth c sb Ln xs) {offs : Array Int} {dflt : Int} {len : Nat} (hd : decode cL_law pc = .ok (.tableswitch dflt 0 29 offs, len)) (hq : q ≤ 29) (ho : offs[q]? = some off) (ht : (pc : Int) + off = (tgt : Int)) (k : lq_W D p l e s m below meth c sb cells slots tgt lv st S n I L P) : lq_W D p l e s m below meth c sb cells slots pc lv (.int (nI q) :: st) S n I L P :=
  fun H locs ls hR hS hL => by
    have e : (nI q).toInt = (q : Int) := nI_toInt (by omega)
    exact lv_tableIn C.1 C.2.1 hd (by rw [e]; omega) (by rw [e]; omega) (by rw [e]; simpa using ho) ht (k H locs ls hR hS hL)
theorem lq_out {q : Nat} (tgt : Nat) (C : lq_C D p s m meth c sb Ln xs) {offs : Array Int} {dflt : Int} {len : Nat} (hd : decode cL_law pc = .ok (.tableswitch dflt 0 29 offs, len)) (hq : 29 < q) (hq2 : q < 32) (ht : (pc : Int) + dflt = (tgt : Int)) (k : lq_W D p l e s m below meth c sb cells slots tgt lv st S n I L P) : lq_W D p l e s m below meth c sb cells slots pc lv (.int (nI q) :: st) S n I L P :=
  fun H locs ls hR hS hL => by
    have e : (nI q).toInt = (q : Int) := nI_toInt (by omega)
    exact lv_tableOut C.1 C.2.1 hd (by rw [e]; omega) ht (k H locs ls hR hS hL)
theorem lq_arg {i j : Nat} {z : Int} (C : lq_C D p s m meth c sb Ln xs) (d0 : decode cL_law pc = .ok (.aload_n 0, 1)) (d1 : decode cL_law (pc + 1) = .ok (.iload_n 3, 1)) (d2 : decode cL_law (pc + 2) = .ok (.iconst z, 1)) (d3 : decode cL_law (pc + 3) = .ok (.iadd, 1)) (d4 : decode cL_law (pc + 4) = .ok (.iaload, 1)) (hz : Int32.ofInt z = nI j) (hj : i + j < Ln) (hn : Ln ≤ 3584) (k : lq_W D p l e s m below meth c sb cells slots (pc + 5) (lq_L s.heap.size sb i) (.int (xs (i + j)) :: st) S n I L P) : lq_W D p l e s m below meth c sb cells slots pc (lq_L s.heap.size sb i) st S n I L P := by
  refine lq_aload_n 0 C d0 rfl rfl ?_
  refine lq_iload_n 3 C d1 rfl rfl ?_
  refine lq_iconst C d2 hz ?_
  refine lq_iadd C d3 ?_
  rw [nI_add]
  exact lq_sld C hj hn d4 k
theorem lq_arg6 {i j : Nat} {z : Int} (C : lq_C D p s m meth c sb Ln xs) (d0 : decode cL_law pc = .ok (.aload_n 0, 1)) (d1 : decode cL_law (pc + 1) = .ok (.iload_n 3, 1)) (d2 : decode cL_law (pc + 2) = .ok (.bipush z, 2)) (d3 : decode cL_law (pc + 4) = .ok (.iadd, 1)) (d4 : decode cL_law (pc + 5) = .ok (.iaload, 1)) (hz : (Int8.ofInt z).toInt32 = nI j) (hj : i + j < Ln) (hn : Ln ≤ 3584) (k : lq_W D p l e s m below meth c sb cells slots (pc + 6) (lq_L s.heap.size sb i) (.int (xs (i + j)) :: st) S n I L P) : lq_W D p l e s m below meth c sb cells slots pc (lq_L s.heap.size sb i) st S n I L P := by
  refine lq_aload_n 0 C d0 rfl rfl ?_
  refine lq_iload_n 3 C d1 rfl rfl ?_
  refine lq_bipush C d2 hz ?_
  refine lq_iadd C d3 ?_
  rw [nI_add]
  exact lq_sld C hj hn d4 k
theorem lq_call {N0 : BqM} {o ci z idx k0 fr' lo' : Nat} {as st0 : List Value} {post' : BqQ} (C : lq_C D p s m meth c sb Ln xs) (hd : decode cL_law pc = .ok (.invokevirtual idx, 3)) (hw : bq_cV RL idx N0 k0) (hsp : bq_Sp N0 fr' lo' 0 0 (.ref o :: as) S n I L P post') (hs : S o = (ci, z)) (hci : (vwCl[ci]?).map (fun q => q.1) = some N0.1.cls) (ho : o < n) (hr : fr' + 1 ≤ 10 ∧ 8 + (N0.2.2.1 + 11) + lo' ≤ 370) (hk : as.length = k0) (hc : cells ≤ 600000 ∧ slots ≤ 7302250) (hst : st0 = (as.map (bq_cv s.heap.size)).reverse ++ .ref (s.heap.size + o) :: st) (hW : (st.map fun v => v.category).sum ≤ 8) (kk : ∀ (r : Option Value) (S' : BqH) (n' : Nat) (I' : BqI) (L' : BqL) (P' : BqP), post' r S' n' I' L' P' → ∃ v : Value, r = some v ∧ lq_W D p l e s m below meth c sb cells slots (pc + 3) lv (bq_cv s.heap.size v :: st) S' n' I' L' P') : lq_W D p l e s m below meth c sb cells slots pc lv st0 S n I L P := by
  intro H locs ls hR hS hL
  have hts := C.2.2.2.2.2.1
  refine bq_call (mc := 0) (ms := 0) (rest := st) (va_runV (As := as.map (bq_cv s.heap.size)) ⟨C.1, C.2.1, C.2.2.2.1, C.2.2.2.2.1, hts⟩ (hsp l D s.heap.size) ⟨callB_of k0 hts (bq_goodIn hw.2.2.2.2.1) rfl rfl rfl (hts _ hw.2.2.2.1) (hts _ hw.1) hw.2.2.2.2.2 hr, hts _ hw.2.1, hts _ hw.2.2.1⟩ ⟨bq_blind D s.heap.size (.ref o :: as) S n I L P, bq_recv C.2.2.2.2.2.2.2.1 hR ho hs hci, fun U hU hW => ⟨rfl, C.2.2.2.2.2.2.2.1.warm hW, by rw [hU]; exact hR.moved hW.alike⟩⟩ rfl (by rw [List.length_map]; exact hk) hL.1 hst (lv_room hW) hd hc) hS (fun r S' n' I' L' P' H1 locs1 hp hR1 hS1 => ?_)
  obtain ⟨v, rfl, h⟩ := kk r S' n' I' L' P' hp
  exact h H1 locs1 ls hR1 hS1 hL
theorem lq_callI {y0 : MethodName} {b0 : ByteArray} {l0 o idx k0 fr' lo' kc' ks' : Nat} {post' : BqQ} (C : lq_C D p s m meth c sb Ln xs) (hd : decode cL_law pc = .ok (.invokespecial idx, 3)) (hw : bq_cI RL idx (y0, b0, l0, none) 0) (hsp : bq_Sp (y0, b0, l0, none) fr' lo' kc' ks' [.ref o] S n I L P post') (hr : fr' + 1 ≤ 10 ∧ 8 + (l0 + 11) + lo' ≤ 370) (hc : cells + kc' ≤ 600000 ∧ slots + ks' ≤ 7302250) (hW : (st.map fun v => v.category).sum ≤ 8) (kk : ∀ (r : Option Value) (S' : BqH) (n' : Nat) (I' : BqI) (L' : BqL) (P' : BqP), post' r S' n' I' L' P' → r = none ∧ lq_W D p l e s m below meth c sb (cells + kc') (slots + ks') (pc + 3) lv st S' n' I' L' P') : lq_W D p l e s m below meth c sb cells slots pc lv (.ref (s.heap.size + o) :: st) S n I L P := by
  intro H locs ls hR hS hL
  have hts := C.2.2.2.2.2.1
  refine bq_call (mc := kc') (ms := ks') (rest := st) (va_runI (As := []) ⟨C.1, C.2.1, C.2.2.2.1, C.2.2.2.2.1, hts⟩ (hsp l D s.heap.size) ⟨callB_of 0 hts (bq_goodIn hw.2.2.2.2.1) rfl rfl rfl (hts _ hw.2.2.2.1) (hts _ hw.1) hw.2.2.2.2.2 hr, hw.2.2.1, hts _ hw.2.1⟩ ⟨bq_blind D s.heap.size [.ref o] S n I L P, fun U hU hW => ⟨rfl, C.2.2.2.2.2.2.2.1.warm hW, by rw [hU]; exact hR.moved hW.alike⟩⟩ rfl rfl hL.1 rfl (lv_room hW) hd hc) hS (fun r S' n' I' L' P' H1 locs1 hp hR1 hS1 => ?_)
  obtain ⟨rfl, h⟩ := kk r S' n' I' L' P' hp
  exact h H1 locs1 ls hR1 hS1 hL
theorem lq_new {idx ci N1 : Nat} (C : lq_C D p s m meth c sb Ln xs) (hd : decode cL_law pc = .ok (.new idx, 3)) (hw : bq_nw RL idx ci N1) (hc : ci < 13) (hr : cells + 1 ≤ 600000 ∧ slots + N1 ≤ 7302250) (k : lq_W D p l e s m below meth c sb (cells + 1) (slots + N1) (pc + 3) lv (.ref (s.heap.size + n) :: st) (bq_r S n (ci, 0)) (n + 1) (bq_r I n (fun _ => 0)) (bq_r L n (fun _ => 0)) (bq_r P n (fun _ => none))) : lq_W D p l e s m below meth c sb cells slots pc lv st S n I L P := by
  intro H locs ls hR hS hL
  obtain ⟨C1, T, e1, e2, e3, e4, e5⟩ := hw
  have hts := C.2.2.2.2.2.1
  have hK := C.2.2.2.2.2.2.2.1
  have hKn := hK.1.1 ci _ e1
  refine W.newcK C.1 C.2.1 C.2.2.2.2.1 (hts _ e3) (hts _ e4) (hts _ e5) rfl hd hr.1 hr.2 hKn.2.1 rfl (fun H1 kC hkC g1 g2 g3 => ?_)
  rw [hR.1] at g1 ⊢
  refine k H1 locs ls (bq_made hR g2 g3 ?_) (bq_madeS hS g2 g3) hL
  refine ⟨fun _ => ⟨_, e1, ?_⟩, fun h => by have : 13 ≤ ci := h; omega⟩
  refine (u_born (bq_fty ci) hts e2 hKn hkC g1 (bq_cls ci _ _ _ e1).1).to (fun j _ => ?_)
  unfold bq_vf
  rw [bq_r_self, bq_r_self, bq_r_self]
  exact bq_dflt _ s.heap.size (bq_fty_ok ci j)
theorem lq_end (C : lq_C D p s m meth c sb Ln xs) (hc : cells ≤ 600000 ∧ slots ≤ 7302250) : lq_W D p l e s m below meth c sb cells slots 1068 lv [] S n I L P :=
  fun H locs ls hR hS hL => lv_iconst (v := 1) C.1 C.2.1 dL_law_1068 (by decide) (va_forget hS.2.2 (W.widen (k := 600000) (n := 7302250) hc.1 hc.2 (lw_ret C.1 C.2.1 C.2.2.1 C.2.2.2.2.2.2.1 dL_law_1069)))
end
theorem lq_kn {args : Array Value} {s : State} (hts : ∀ w ∈ lw_tbl, w.before args s = true) {C : String} {T : u_T} {N : Nat} (hin : ∀ w ∈ u_ws C T N, w ∈ bq_TB) {i : Nat} (hi : lw_tbl[i]? = some (.instantiable C N)) : ∃ (cC : ClassId) (iS : Nat → Nat), u_Kn s C T N cC iS :=
  u_known (ws := bq_TB) (fun w hw => hts w (List.mem_filter.mp hw).1) hin (hts _ (List.mem_of_getElem? hi))
theorem lq_K {args : Array Value} {s : State} (hts : ∀ w ∈ lw_tbl, w.before args s = true) : ∃ D : va_G, bq_K D s := by
  obtain ⟨c0, i0, h0⟩ := lq_kn hts lwX0 (i := 86) (by decide +kernel)
  obtain ⟨c1, i1, h1⟩ := lq_kn hts lwX1 (i := 296) (by decide +kernel)
  obtain ⟨c2, i2, h2⟩ := lq_kn hts lwX2 (i := 104) (by decide +kernel)
  obtain ⟨c3, i3, h3⟩ := lq_kn hts lwX3 (i := 398) (by decide +kernel)
  obtain ⟨c4, i4, h4⟩ := lq_kn hts lwX4 (i := 165) (by decide +kernel)
  obtain ⟨c5, i5, h5⟩ := lq_kn hts lwX5 (i := 346) (by decide +kernel)
  obtain ⟨c6, i6, h6⟩ := lq_kn hts lwX6 (i := 354) (by decide +kernel)
  obtain ⟨c7, i7, h7⟩ := lq_kn hts lwX7 (i := 144) (by decide +kernel)
  obtain ⟨c8, i8, h8⟩ := lq_kn hts lwX8 (i := 78) (by decide +kernel)
  obtain ⟨c9, i9, h9⟩ := lq_kn hts lwX9 (i := 117) (by decide +kernel)
  obtain ⟨c10, i10, h10⟩ := lq_kn hts lwX10 (i := 289) (by decide +kernel)
  obtain ⟨c11, i11, h11⟩ := lq_kn hts lwX11 (i := 70) (by decide +kernel)
  obtain ⟨c12, i12, h12⟩ := lq_kn hts lwX12 (i := 862) (by decide +kernel)
  refine ⟨(fun k => if k = 0 then c0 else if k = 1 then c1 else if k = 2 then c2 else if k = 3 then c3 else if k = 4 then c4 else if k = 5 then c5 else if k = 6 then c6 else if k = 7 then c7 else if k = 8 then c8 else if k = 9 then c9 else if k = 10 then c10 else if k = 11 then c11 else c12, fun k => if k = 0 then i0 else if k = 1 then i1 else if k = 2 then i2 else if k = 3 then i3 else if k = 4 then i4 else if k = 5 then i5 else if k = 6 then i6 else if k = 7 then i7 else if k = 8 then i8 else if k = 9 then i9 else if k = 10 then i10 else if k = 11 then i11 else i12), ⟨fun k q hq => ?_, fun k q h => by simp at h⟩, ?_, ?_⟩
  · match k, hq with
    | 0, hq => cases hq; exact h0
    | 1, hq => cases hq; exact h1
    | 2, hq => cases hq; exact h2
    | 3, hq => cases hq; exact h3
    | 4, hq => cases hq; exact h4
    | 5, hq => cases hq; exact h5
    | 6, hq => cases hq; exact h6
    | 7, hq => cases hq; exact h7
    | 8, hq => cases hq; exact h8
    | 9, hq => cases hq; exact h9
    | 10, hq => cases hq; exact h10
    | 11, hq => cases hq; exact h11
    | 12, hq => cases hq; exact h12
    | k + 13, hq => simp at hq
  · have h : ∀ (i : Nat) (w : Cond), lw_tbl[i]? = some w → w.onTables = true → va_Nw w s := fun i w hi ho => va_Nw.of ho (hts _ (List.mem_of_getElem? hi))
    refine List.forall_mem_cons.mpr ⟨?_, List.forall_mem_cons.mpr ⟨?_, List.forall_mem_cons.mpr ⟨?_, List.forall_mem_cons.mpr ⟨?_, List.forall_mem_cons.mpr ⟨?_, List.forall_mem_cons.mpr ⟨?_, List.forall_mem_cons.mpr ⟨?_, List.forall_mem_cons.mpr ⟨?_, List.forall_mem_cons.mpr ⟨?_, List.forall_mem_cons.mpr ⟨?_, List.forall_mem_cons.mpr ⟨?_, List.forall_mem_cons.mpr ⟨?_, List.forall_mem_cons.mpr ⟨?_, List.forall_mem_cons.mpr ⟨?_, List.forall_mem_cons.mpr ⟨?_, fun _ z => absurd z List.not_mem_nil⟩⟩⟩⟩⟩⟩⟩⟩⟩⟩⟩⟩⟩⟩⟩
    · exact h 297 _ (by decide +kernel) rfl
    · exact h 123 _ (by decide +kernel) rfl
    · exact h 166 _ (by decide +kernel) rfl
    · exact h 145 _ (by decide +kernel) rfl
    · exact h 118 _ (by decide +kernel) rfl
    · exact h 105 _ (by decide +kernel) rfl
    · exact h 87 _ (by decide +kernel) rfl
    · exact h 453 _ (by decide +kernel) rfl
    · exact h 360 _ (by decide +kernel) rfl
    · exact h 371 _ (by decide +kernel) rfl
    · exact h 355 _ (by decide +kernel) rfl
    · exact h 404 _ (by decide +kernel) rfl
    · exact h 822 _ (by decide +kernel) rfl
    · exact h 410 _ (by decide +kernel) rfl
    · exact h 399 _ (by decide +kernel) rfl
  · have h : ∀ (i : Nat) (X : String), lw_tbl[i]? = some (.arrayOver (.object X)) → va_AO X s := fun i X hi => va_AO.of (hts _ (List.mem_of_getElem? hi))
    refine List.forall_mem_cons.mpr ⟨?_, List.forall_mem_cons.mpr ⟨?_, List.forall_mem_cons.mpr ⟨?_, List.forall_mem_cons.mpr ⟨?_, List.forall_mem_cons.mpr ⟨?_, List.forall_mem_cons.mpr ⟨?_, fun _ z => absurd z List.not_mem_nil⟩⟩⟩⟩⟩⟩
    · exact h 352 _ (by decide +kernel)
    · exact h 295 _ (by decide +kernel)
    · exact h 102 _ (by decide +kernel)
    · exact h 100 _ (by decide +kernel)
    · exact h 287 _ (by decide +kernel)
    · exact h 84 _ (by decide +kernel)
