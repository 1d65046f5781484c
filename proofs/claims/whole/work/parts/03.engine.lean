/-! The engine: a whole-world store (shapes, ints, longs, refs by object number), and rows 'bq_W' of the machine over it. -/
abbrev BqM : Type := MethodName × ByteArray × Nat × Option FieldType
def bq_TB : List Cond := lw_tbl.filter goodWord
theorem bq_at {w : Cond} (i : Nat) (h : lw_tbl[i]? = some w) (g : goodWord w = true) : w ∈ bq_TB := List.mem_filter.mpr ⟨List.mem_of_getElem? h, g⟩
theorem bq_good {w : Cond} (h : w ∈ bq_TB) : w ∈ bq_TB ∧ ((w.onTables && w.keeps) = true ∨ ∃ ty, w = .arrayClass ty) := ⟨h, good_of_word (List.mem_filter.mp h).2⟩
theorem bq_goodIn {c : Cond} (h : c ∈ bq_TB) : GoodIn bq_TB (c :: bq_TB) := fun w hw => (List.mem_cons.mp hw).elim (fun e => e ▸ bq_good h) (fun h2 => bq_good h2)
def bq_cv (b : Nat) (v : Value) : Value := match v with
  | .ref k => .ref (b + k)
  | w => w
theorem bq_cat (b : Nat) (v : Value) : (bq_cv b v).category = v.category := by cases v <;> rfl
theorem bq_catM (b : Nat) (l : List Value) : ((l.map (bq_cv b)).map fun v => v.category).sum = (l.map fun v => v.category).sum := by
  induction l with
  | nil => rfl
  | cons a t ih => simp only [List.map_cons, List.sum_cons, bq_cat, ih]
/-- what an array of kind k (13 ..) holds -/
def bq_ty (k : Nat) : FieldType := if k = 13 then .int else if k = 14 then .boolean else if k = 15 then .object RX0 else if k = 16 then .object RX1 else if k = 17 then .object RX4 else if k = 18 then .object RX7 else if k = 19 then .object RX8 else .object RX9
/-- the class of what an array of references holds -/
def bq_ec (k : Nat) : Nat := if k = 15 then 0 else if k = 16 then 1 else if k = 17 then 4 else if k = 18 then 7 else if k = 19 then 8 else 9
def bq_fty (ci k : Nat) : FieldType := if ci = 0 then tyX0 k else if ci = 1 then tyX1 k else if ci = 2 then tyX2 k else if ci = 3 then tyX3 k else if ci = 4 then tyX4 k else if ci = 5 then tyX5 k else if ci = 6 then tyX6 k else if ci = 7 then tyX7 k else if ci = 8 then tyX8 k else if ci = 9 then tyX9 k else if ci = 10 then tyX10 k else if ci = 11 then tyX11 k else tyX12 k
/-- 0 an int or boolean, 1 a long, 2 a reference -/
def bq_tag (t : FieldType) : Nat := match t with
  | .long => 1
  | .object _ => 2
  | .array _ => 2
  | _ => 0
def bq_rf (b : Nat) (r : Option Nat) : Value := match r with
  | none => .null
  | some q => .ref (b + q)
abbrev BqI : Type := Nat → Nat → Int32
abbrev BqL : Type := Nat → Nat → Int64
abbrev BqP : Type := Nat → Nat → Option Nat
abbrev BqH : Type := Nat → Nat × Nat
abbrev BqQ : Type := Option Value → BqH → Nat → BqI → BqL → BqP → Prop
def bq_val (t b : Nat) (i : Int32) (j : Int64) (r : Option Nat) : Value := if t = 0 then .int i else if t = 1 then .long j else bq_rf b r
def bq_vf (ci b : Nat) (I : BqI) (L : BqL) (P : BqP) (o k : Nat) : Value := bq_val (bq_tag (bq_fty ci k)) b (I o k) (L o k) (P o k)
def bq_va (kd b : Nat) (I : BqI) (L : BqL) (P : BqP) (o k : Nat) : Value := bq_val (bq_tag (bq_ty kd)) b (I o k) (L o k) (P o k)
def bq_cell (D : va_G) (b : Nat) (U : State) (H : Heap) (I : BqI) (L : BqL) (P : BqP) (o : Nat) (s : Nat × Nat) : Prop :=
  (s.1 < 13 → ∃ r : vw_C, vwCl[s.1]? = some r ∧ t_OB (b + o) (D.1 s.1) r.2.2 (D.2 s.1) H (bq_vf s.1 b I L P o)) ∧
  (13 ≤ s.1 → s.2 < 2 ^ 31 ∧ ∃ cA : ClassId, H[b + o]? = some (arrV cA s.2 (bq_va s.1 b I L P o)) ∧ ArrOfT U cA (bq_ty s.1) ∧ va_RA U cA (bq_ty s.1))
def bq_R (D : va_G) (b : Nat) (U : State) (H : Heap) (S : BqH) (n : Nat) (I : BqI) (L : BqL) (P : BqP) : Prop := H.size = b + n ∧ ∀ o, o < n → bq_cell D b U H I L P o (S o)
def bq_nest : List (String × Nat × MethodName × String) := [(RX10, 35, yX1_init, RX11), (RX9, 23, yX0_init, RX11), (RX8, 84, yX4_init, RX11), (RX8, 83, yX7_init, RX11), (RX8, 82, yX9_init, RX11), (RX8, 77, yX2_init, RX11), (RX8, 36, yX0_init, RX11), (RX8, 107, yX11_outside, RX11), (RX6, 11, yX0_init, RX11), (RX5, 41, yX0_init, RX11), (RX5, 36, yX6_init, RX11), (RX3, 11, yX6_init, RX11), (RX2, 25, yX11_outside, RX11), (RX11, 54, yX6_init, RX11), (RX11, 47, yX3_init, RX11)]
def bq_ao : List String := [RX0, RX1, RX4, RX7, RX8, RX9]
def bq_K (D : va_G) (U : State) : Prop := va_K D vwCl [] U ∧ (∀ q ∈ bq_nest, va_Nw (.methodLinkNest q.1 q.2.1 q.2.2.1 q.2.2.2) U) ∧ ∀ C ∈ bq_ao, va_AO C U
theorem bq_cell.kept {D : va_G} {b : Nat} {U U' : State} {H H' : Heap} {I : BqI} {L : BqL} {P : BqP} {o : Nat} {s : Nat × Nat} (h : bq_cell D b U H I L P o s) (hq : H'[b + o]? = H[b + o]?) (hv : U.vm.Alike U'.vm) : bq_cell D b U' H' I L P o s := by
  refine ⟨fun g => ?_, fun g => ?_⟩
  · obtain ⟨r, h1, h2⟩ := h.1 g
    exact ⟨r, h1, h2.kept hq⟩
  · obtain ⟨h0, cA, h1, h2, h3⟩ := h.2 g
    exact ⟨h0, cA, hq.trans h1, arrOfT_moved hv h2, h3.moved hv⟩
theorem bq_R.moved {D : va_G} {b : Nat} {U U' : State} {H : Heap} {S : BqH} {n : Nat} {I : BqI} {L : BqL} {P : BqP} (h : bq_R D b U H S n I L P) (hv : U.vm.Alike U'.vm) : bq_R D b U' H S n I L P := ⟨h.1, fun o ho => (h.2 o ho).kept rfl hv⟩
theorem bq_K.warm {D : va_G} {s U : State} (h : bq_K D s) (hW : s.WarmedH U.vm) : bq_K D U := ⟨va_K.moved hW.alike h.1, fun q hq => va_Nw.warmM hW (h.2.1 q hq), fun C hC => va_AO.moved hW.alike (h.2.2 C hC)⟩
theorem bq_K.calling {D : va_G} {U : State} (h : bq_K D U) (g : JFrame) (mk : MethodId) (a : Array Value) : bq_K D (U.calling g mk a) := ⟨va_K.moved (u := U) (U := U.calling g mk a) (Vm.Alike.refl U.vm) h.1, fun q hq => va_Nw.same (u := U) (U := U.calling g mk a) rfl rfl (h.2.1 q hq), fun C hC => va_AO.moved (u := U) (U := U.calling g mk a) (Vm.Alike.refl U.vm) (h.2.2 C hC)⟩
def bq_Pc (D : va_G) (b : Nat) (as : List Value) (S : BqH) (n : Nat) (I : BqI) (L : BqL) (P : BqP) : Array Value → State → Prop := fun v U => v = (as.map (bq_cv b)).toArray ∧ bq_K D U ∧ bq_R D b U U.heap S n I L P
def bq_Qc (D : va_G) (b : Nat) (post : BqQ) : Array Value → State → Outcome → State → Prop := fun _ st oc t => ∃ (r : Option Value) (S : BqH) (n : Nat) (I : BqI) (L : BqL) (P : BqP), oc = .returned (r.map (bq_cv b)) ∧ post r S n I L P ∧ bq_R D b t t.heap S n I L P ∧ va_F (fun q => b ≤ q) st t
theorem bq_blind (D : va_G) (b : Nat) (as : List Value) (S : BqH) (n : Nat) (I : BqI) (L : BqL) (P : BqP) : FrameBlind (bq_Pc D b as S n I L P) := by
  intro a U g mk q
  obtain ⟨q1, q2, q3⟩ := q
  exact ⟨q1, q2.calling g mk a, bq_R.moved (U := U) (U' := U.calling g mk a) q3 (Vm.Alike.refl U.vm)⟩
/-- a method's contract -/
def bq_Sp (N : BqM) (fr lo kc ks : Nat) (as : List Value) (S : BqH) (n : Nat) (I : BqI) (L : BqL) (P : BqP) (post : BqQ) : Prop :=
  ∀ (l : Launch) (D : va_G) (b : Nat), Met l N.1 (Cond.code N.1 N.2.1 N.2.2.1 N.2.2.2 :: bq_TB) ({ frames := fr, cells := kc, slots := ks, locals := lo } : Room) (bq_Pc D b as S n I L P) (bq_Qc D b post) kc ks (fun q => b ≤ q)
/-- the locals -/
def bq_LH (b : Nat) (ls : Array Slot) (nL : Nat) (vs : List (Option Value)) : Prop := ls.size = nL ∧ lv_wf ls ∧ ∀ (i : Nat) (v : Value), vs[i]? = some (some v) → ls[i]? = some (.val (bq_cv b v))
def bq_C (M : BqM) (D : va_G) (b : Nat) (p : Program) (s : State) (m : MethodId) (args : Array Value) (meth : Method) (c : Code) : Prop :=
  p.tables.exec = Jvm.exec ∧ c.code = M.2.1 ∧ meth.sig.returnType = M.2.2.2 ∧ c.maxLocals = M.2.2.1 ∧ s.vm.findClass M.1.cls = some m.cls ∧ (∀ w ∈ bq_TB, w.before args s = true) ∧ meth.locks = false ∧ meth.name = M.1.name ∧ bq_K D s
def bq_N (fr lo kc ks : Nat) (R : Room) (cells slots mc ms : Nat) : Prop := fr ≤ R.frames ∧ lo ≤ R.locals ∧ cells + kc ≤ mc ∧ mc ≤ R.cells ∧ slots + ks ≤ ms ∧ ms ≤ R.slots
/-- from here the method ends with post -/
def bq_W (M : BqM) (fr lo kc ks pc : Nat) (vs : List (Option Value)) (st : List Value) (S : BqH) (n : Nat) (I : BqI) (L : BqL) (P : BqP) (post : BqQ) : Prop :=
  ∀ (l : Launch) (D : va_G) (b : Nat) (p : Program) (e : Env) (R : Room) (s : State) (m : MethodId) (args : Array Value) (below : List Frame) (meth : Method) (c : Code) (H : Heap) (locs : List Loc) (cells slots mc ms : Nat) (ls : Array Slot),
    bq_C M D b p s m args meth c → bq_N fr lo kc ks R cells slots mc ms → bq_R D b s H S n I L P → va_S (fun q => b ≤ q) s.heap H locs → bq_LH b ls M.2.2.1 vs →
    W p l e R s m args below meth c H locs cells slots (MQ below (bq_Qc D b post) args s mc ms (fun q => b ≤ q)) (F0 m pc ls (st.map (bq_cv b)))
theorem q_iconst {M : BqM} {fr lo kc ks pc : Nat} {vs : List (Option Value)} {st : List Value} {S : BqH} {n : Nat} {I : BqI} {L : BqL} {P : BqP} {post : BqQ} {z : Int} {v : Int32} (hd : decode M.2.1 pc = .ok (.iconst z, 1)) (hv : Int32.ofInt z = v) (k : bq_W M fr lo kc ks (pc + 1) vs (.int v :: st) S n I L P post) : bq_W M fr lo kc ks pc vs st S n I L P post := by
  intro l D b p e R s m args below meth c H locs cells slots mc ms ls C N hR hS hL
  exact lv_iconst C.1 C.2.1 hd hv (k l D b p e R s m args below meth c H locs cells slots mc ms ls C N hR hS hL)
theorem q_bipush {M : BqM} {fr lo kc ks pc : Nat} {vs : List (Option Value)} {st : List Value} {S : BqH} {n : Nat} {I : BqI} {L : BqL} {P : BqP} {post : BqQ} {z : Int} {v : Int32} (hd : decode M.2.1 pc = .ok (.bipush z, 2)) (hv : (Int8.ofInt z).toInt32 = v) (k : bq_W M fr lo kc ks (pc + 2) vs (.int v :: st) S n I L P post) : bq_W M fr lo kc ks pc vs st S n I L P post := by
  intro l D b p e R s m args below meth c H locs cells slots mc ms ls C N hR hS hL
  exact lv_bipush C.1 C.2.1 hd hv (k l D b p e R s m args below meth c H locs cells slots mc ms ls C N hR hS hL)
theorem q_sipush {M : BqM} {fr lo kc ks pc : Nat} {vs : List (Option Value)} {st : List Value} {S : BqH} {n : Nat} {I : BqI} {L : BqL} {P : BqP} {post : BqQ} {z : Int} {v : Int32} (hd : decode M.2.1 pc = .ok (.sipush z, 3)) (hv : (Int16.ofInt z).toInt32 = v) (k : bq_W M fr lo kc ks (pc + 3) vs (.int v :: st) S n I L P post) : bq_W M fr lo kc ks pc vs st S n I L P post := by
  intro l D b p e R s m args below meth c H locs cells slots mc ms ls C N hR hS hL
  exact lv_sipush C.1 C.2.1 hd hv (k l D b p e R s m args below meth c H locs cells slots mc ms ls C N hR hS hL)
theorem q_lconst {M : BqM} {fr lo kc ks pc : Nat} {vs : List (Option Value)} {st : List Value} {S : BqH} {n : Nat} {I : BqI} {L : BqL} {P : BqP} {post : BqQ} {z : Fin 2} {v : Int64} (hd : decode M.2.1 pc = .ok (.lconst z, 1)) (hv : Int64.ofNat (z : Nat) = v) (k : bq_W M fr lo kc ks (pc + 1) vs (.long v :: st) S n I L P post) : bq_W M fr lo kc ks pc vs st S n I L P post := by
  intro l D b p e R s m args below meth c H locs cells slots mc ms ls C N hR hS hL
  exact lv_lconst C.1 C.2.1 hd hv (k l D b p e R s m args below meth c H locs cells slots mc ms ls C N hR hS hL)
theorem q_null {M : BqM} {fr lo kc ks pc : Nat} {vs : List (Option Value)} {st : List Value} {S : BqH} {n : Nat} {I : BqI} {L : BqL} {P : BqP} {post : BqQ}  (hd : decode M.2.1 pc = .ok (.aconst_null, 1))  (k : bq_W M fr lo kc ks (pc + 1) vs (.null :: st) S n I L P post) : bq_W M fr lo kc ks pc vs st S n I L P post := by
  intro l D b p e R s m args below meth c H locs cells slots mc ms ls C N hR hS hL
  exact lv_null C.1 C.2.1 hd (k l D b p e R s m args below meth c H locs cells slots mc ms ls C N hR hS hL)
theorem q_iload_n {M : BqM} {fr lo kc ks pc : Nat} {vs : List (Option Value)} {st : List Value} {S : BqH} {n : Nat} {I : BqI} {L : BqL} {P : BqP} {post : BqQ} {k0 : Fin 4} {i : Nat} {x : Int32} (hd : decode M.2.1 pc = .ok (.iload_n k0, 1)) (hi : (k0 : Nat) = i) (hv : vs[i]? = some (some (.int x))) (k : bq_W M fr lo kc ks (pc + 1) vs (.int x :: st) S n I L P post) : bq_W M fr lo kc ks pc vs st S n I L P post := by
  intro l D b p e R s m args below meth c H locs cells slots mc ms ls C N hR hS hL
  exact lv_iload_n C.1 C.2.1 hd hi (hL.2.2 _ _ hv) (k l D b p e R s m args below meth c H locs cells slots mc ms ls C N hR hS hL)
theorem q_iload {M : BqM} {fr lo kc ks pc : Nat} {vs : List (Option Value)} {st : List Value} {S : BqH} {n : Nat} {I : BqI} {L : BqL} {P : BqP} {post : BqQ} {i : Nat} {x : Int32} (hd : decode M.2.1 pc = .ok (.iload i, 2)) (hv : vs[i]? = some (some (.int x))) (k : bq_W M fr lo kc ks (pc + 2) vs (.int x :: st) S n I L P post) : bq_W M fr lo kc ks pc vs st S n I L P post := by
  intro l D b p e R s m args below meth c H locs cells slots mc ms ls C N hR hS hL
  exact lv_iload C.1 C.2.1 hd (hL.2.2 _ _ hv) (k l D b p e R s m args below meth c H locs cells slots mc ms ls C N hR hS hL)
theorem q_lload_n {M : BqM} {fr lo kc ks pc : Nat} {vs : List (Option Value)} {st : List Value} {S : BqH} {n : Nat} {I : BqI} {L : BqL} {P : BqP} {post : BqQ} {k0 : Fin 4} {i : Nat} {x : Int64} (hd : decode M.2.1 pc = .ok (.lload_n k0, 1)) (hi : (k0 : Nat) = i) (hv : vs[i]? = some (some (.long x))) (k : bq_W M fr lo kc ks (pc + 1) vs (.long x :: st) S n I L P post) : bq_W M fr lo kc ks pc vs st S n I L P post := by
  intro l D b p e R s m args below meth c H locs cells slots mc ms ls C N hR hS hL
  exact lv_lload_n C.1 C.2.1 hd hi (hL.2.2 _ _ hv) (k l D b p e R s m args below meth c H locs cells slots mc ms ls C N hR hS hL)
theorem q_lload {M : BqM} {fr lo kc ks pc : Nat} {vs : List (Option Value)} {st : List Value} {S : BqH} {n : Nat} {I : BqI} {L : BqL} {P : BqP} {post : BqQ} {i : Nat} {x : Int64} (hd : decode M.2.1 pc = .ok (.lload i, 2)) (hv : vs[i]? = some (some (.long x))) (k : bq_W M fr lo kc ks (pc + 2) vs (.long x :: st) S n I L P post) : bq_W M fr lo kc ks pc vs st S n I L P post := by
  intro l D b p e R s m args below meth c H locs cells slots mc ms ls C N hR hS hL
  exact lv_lload C.1 C.2.1 hd (hL.2.2 _ _ hv) (k l D b p e R s m args below meth c H locs cells slots mc ms ls C N hR hS hL)
theorem q_aload_n {M : BqM} {fr lo kc ks pc : Nat} {vs : List (Option Value)} {st : List Value} {S : BqH} {n : Nat} {I : BqI} {L : BqL} {P : BqP} {post : BqQ} {k0 : Fin 4} {i : Nat} {x : Nat} (hd : decode M.2.1 pc = .ok (.aload_n k0, 1)) (hi : (k0 : Nat) = i) (hv : vs[i]? = some (some (.ref x))) (k : bq_W M fr lo kc ks (pc + 1) vs (.ref x :: st) S n I L P post) : bq_W M fr lo kc ks pc vs st S n I L P post := by
  intro l D b p e R s m args below meth c H locs cells slots mc ms ls C N hR hS hL
  exact lv_aload_n C.1 C.2.1 hd hi (hL.2.2 _ _ hv) (k l D b p e R s m args below meth c H locs cells slots mc ms ls C N hR hS hL)
theorem q_aload {M : BqM} {fr lo kc ks pc : Nat} {vs : List (Option Value)} {st : List Value} {S : BqH} {n : Nat} {I : BqI} {L : BqL} {P : BqP} {post : BqQ} {i : Nat} {x : Nat} (hd : decode M.2.1 pc = .ok (.aload i, 2)) (hv : vs[i]? = some (some (.ref x))) (k : bq_W M fr lo kc ks (pc + 2) vs (.ref x :: st) S n I L P post) : bq_W M fr lo kc ks pc vs st S n I L P post := by
  intro l D b p e R s m args below meth c H locs cells slots mc ms ls C N hR hS hL
  exact lv_aload C.1 C.2.1 hd (hL.2.2 _ _ hv) (k l D b p e R s m args below meth c H locs cells slots mc ms ls C N hR hS hL)
theorem q_iadd {M : BqM} {fr lo kc ks pc : Nat} {vs : List (Option Value)} {st : List Value} {S : BqH} {n : Nat} {I : BqI} {L : BqL} {P : BqP} {post : BqQ} {x y : Int32} (hd : decode M.2.1 pc = .ok (.iadd, 1))  (k : bq_W M fr lo kc ks (pc + 1) vs (.int (x + y) :: st) S n I L P post) : bq_W M fr lo kc ks pc vs (.int y :: .int x :: st) S n I L P post := by
  intro l D b p e R s m args below meth c H locs cells slots mc ms ls C N hR hS hL
  exact lv_iadd C.1 C.2.1 hd (k l D b p e R s m args below meth c H locs cells slots mc ms ls C N hR hS hL)
theorem q_isub {M : BqM} {fr lo kc ks pc : Nat} {vs : List (Option Value)} {st : List Value} {S : BqH} {n : Nat} {I : BqI} {L : BqL} {P : BqP} {post : BqQ} {x y : Int32} (hd : decode M.2.1 pc = .ok (.isub, 1))  (k : bq_W M fr lo kc ks (pc + 1) vs (.int (x - y) :: st) S n I L P post) : bq_W M fr lo kc ks pc vs (.int y :: .int x :: st) S n I L P post := by
  intro l D b p e R s m args below meth c H locs cells slots mc ms ls C N hR hS hL
  exact lv_isub C.1 C.2.1 hd (k l D b p e R s m args below meth c H locs cells slots mc ms ls C N hR hS hL)
theorem q_imul {M : BqM} {fr lo kc ks pc : Nat} {vs : List (Option Value)} {st : List Value} {S : BqH} {n : Nat} {I : BqI} {L : BqL} {P : BqP} {post : BqQ} {x y : Int32} (hd : decode M.2.1 pc = .ok (.imul, 1))  (k : bq_W M fr lo kc ks (pc + 1) vs (.int (x * y) :: st) S n I L P post) : bq_W M fr lo kc ks pc vs (.int y :: .int x :: st) S n I L P post := by
  intro l D b p e R s m args below meth c H locs cells slots mc ms ls C N hR hS hL
  exact lv_imul C.1 C.2.1 hd (k l D b p e R s m args below meth c H locs cells slots mc ms ls C N hR hS hL)
theorem q_ior {M : BqM} {fr lo kc ks pc : Nat} {vs : List (Option Value)} {st : List Value} {S : BqH} {n : Nat} {I : BqI} {L : BqL} {P : BqP} {post : BqQ} {x y : Int32} (hd : decode M.2.1 pc = .ok (.ior, 1))  (k : bq_W M fr lo kc ks (pc + 1) vs (.int (x ||| y) :: st) S n I L P post) : bq_W M fr lo kc ks pc vs (.int y :: .int x :: st) S n I L P post := by
  intro l D b p e R s m args below meth c H locs cells slots mc ms ls C N hR hS hL
  exact lv_ior C.1 C.2.1 hd (k l D b p e R s m args below meth c H locs cells slots mc ms ls C N hR hS hL)
theorem q_iand {M : BqM} {fr lo kc ks pc : Nat} {vs : List (Option Value)} {st : List Value} {S : BqH} {n : Nat} {I : BqI} {L : BqL} {P : BqP} {post : BqQ} {x y : Int32} (hd : decode M.2.1 pc = .ok (.iand, 1))  (k : bq_W M fr lo kc ks (pc + 1) vs (.int (x &&& y) :: st) S n I L P post) : bq_W M fr lo kc ks pc vs (.int y :: .int x :: st) S n I L P post := by
  intro l D b p e R s m args below meth c H locs cells slots mc ms ls C N hR hS hL
  exact lv_iand C.1 C.2.1 hd (k l D b p e R s m args below meth c H locs cells slots mc ms ls C N hR hS hL)
theorem q_ishl {M : BqM} {fr lo kc ks pc : Nat} {vs : List (Option Value)} {st : List Value} {S : BqH} {n : Nat} {I : BqI} {L : BqL} {P : BqP} {post : BqQ} {x y : Int32} (hd : decode M.2.1 pc = .ok (.ishl, 1))  (k : bq_W M fr lo kc ks (pc + 1) vs (.int (x <<< (y &&& 31)) :: st) S n I L P post) : bq_W M fr lo kc ks pc vs (.int y :: .int x :: st) S n I L P post := by
  intro l D b p e R s m args below meth c H locs cells slots mc ms ls C N hR hS hL
  exact lv_ishl C.1 C.2.1 hd (k l D b p e R s m args below meth c H locs cells slots mc ms ls C N hR hS hL)
theorem q_idiv {M : BqM} {fr lo kc ks pc : Nat} {vs : List (Option Value)} {st : List Value} {S : BqH} {n : Nat} {I : BqI} {L : BqL} {P : BqP} {post : BqQ} {x y : Int32} (hd : decode M.2.1 pc = .ok (.idiv, 1)) (hne : ¬ y = 0) (k : bq_W M fr lo kc ks (pc + 1) vs (.int (x / y) :: st) S n I L P post) : bq_W M fr lo kc ks pc vs (.int y :: .int x :: st) S n I L P post := by
  intro l D b p e R s m args below meth c H locs cells slots mc ms ls C N hR hS hL
  exact lv_idiv C.1 C.2.1 hd hne (k l D b p e R s m args below meth c H locs cells slots mc ms ls C N hR hS hL)
theorem q_irem {M : BqM} {fr lo kc ks pc : Nat} {vs : List (Option Value)} {st : List Value} {S : BqH} {n : Nat} {I : BqI} {L : BqL} {P : BqP} {post : BqQ} {x y : Int32} (hd : decode M.2.1 pc = .ok (.irem, 1)) (hne : ¬ y = 0) (k : bq_W M fr lo kc ks (pc + 1) vs (.int (x - x / y * y) :: st) S n I L P post) : bq_W M fr lo kc ks pc vs (.int y :: .int x :: st) S n I L P post := by
  intro l D b p e R s m args below meth c H locs cells slots mc ms ls C N hR hS hL
  exact lv_irem C.1 C.2.1 hd hne (k l D b p e R s m args below meth c H locs cells slots mc ms ls C N hR hS hL)
theorem q_ineg {M : BqM} {fr lo kc ks pc : Nat} {vs : List (Option Value)} {st : List Value} {S : BqH} {n : Nat} {I : BqI} {L : BqL} {P : BqP} {post : BqQ} {x : Int32} (hd : decode M.2.1 pc = .ok (.ineg, 1))  (k : bq_W M fr lo kc ks (pc + 1) vs (.int (-x) :: st) S n I L P post) : bq_W M fr lo kc ks pc vs (.int x :: st) S n I L P post := by
  intro l D b p e R s m args below meth c H locs cells slots mc ms ls C N hR hS hL
  exact lv_ineg C.1 C.2.1 hd (k l D b p e R s m args below meth c H locs cells slots mc ms ls C N hR hS hL)
theorem q_ladd {M : BqM} {fr lo kc ks pc : Nat} {vs : List (Option Value)} {st : List Value} {S : BqH} {n : Nat} {I : BqI} {L : BqL} {P : BqP} {post : BqQ} {x y : Int64} (hd : decode M.2.1 pc = .ok (.ladd, 1))  (k : bq_W M fr lo kc ks (pc + 1) vs (.long (x + y) :: st) S n I L P post) : bq_W M fr lo kc ks pc vs (.long y :: .long x :: st) S n I L P post := by
  intro l D b p e R s m args below meth c H locs cells slots mc ms ls C N hR hS hL
  exact lv_ladd C.1 C.2.1 hd (k l D b p e R s m args below meth c H locs cells slots mc ms ls C N hR hS hL)
theorem q_lsub {M : BqM} {fr lo kc ks pc : Nat} {vs : List (Option Value)} {st : List Value} {S : BqH} {n : Nat} {I : BqI} {L : BqL} {P : BqP} {post : BqQ} {x y : Int64} (hd : decode M.2.1 pc = .ok (.lsub, 1))  (k : bq_W M fr lo kc ks (pc + 1) vs (.long (x - y) :: st) S n I L P post) : bq_W M fr lo kc ks pc vs (.long y :: .long x :: st) S n I L P post := by
  intro l D b p e R s m args below meth c H locs cells slots mc ms ls C N hR hS hL
  exact lv_lsub C.1 C.2.1 hd (k l D b p e R s m args below meth c H locs cells slots mc ms ls C N hR hS hL)
theorem q_lmul {M : BqM} {fr lo kc ks pc : Nat} {vs : List (Option Value)} {st : List Value} {S : BqH} {n : Nat} {I : BqI} {L : BqL} {P : BqP} {post : BqQ} {x y : Int64} (hd : decode M.2.1 pc = .ok (.lmul, 1))  (k : bq_W M fr lo kc ks (pc + 1) vs (.long (x * y) :: st) S n I L P post) : bq_W M fr lo kc ks pc vs (.long y :: .long x :: st) S n I L P post := by
  intro l D b p e R s m args below meth c H locs cells slots mc ms ls C N hR hS hL
  exact lv_lmul C.1 C.2.1 hd (k l D b p e R s m args below meth c H locs cells slots mc ms ls C N hR hS hL)
theorem q_ldiv {M : BqM} {fr lo kc ks pc : Nat} {vs : List (Option Value)} {st : List Value} {S : BqH} {n : Nat} {I : BqI} {L : BqL} {P : BqP} {post : BqQ} {x y : Int64} (hd : decode M.2.1 pc = .ok (.ldiv, 1)) (hne : ¬ y = 0) (k : bq_W M fr lo kc ks (pc + 1) vs (.long (x / y) :: st) S n I L P post) : bq_W M fr lo kc ks pc vs (.long y :: .long x :: st) S n I L P post := by
  intro l D b p e R s m args below meth c H locs cells slots mc ms ls C N hR hS hL
  exact lv_ldiv C.1 C.2.1 hd hne (k l D b p e R s m args below meth c H locs cells slots mc ms ls C N hR hS hL)
theorem q_lneg {M : BqM} {fr lo kc ks pc : Nat} {vs : List (Option Value)} {st : List Value} {S : BqH} {n : Nat} {I : BqI} {L : BqL} {P : BqP} {post : BqQ} {x : Int64} (hd : decode M.2.1 pc = .ok (.lneg, 1))  (k : bq_W M fr lo kc ks (pc + 1) vs (.long (-x) :: st) S n I L P post) : bq_W M fr lo kc ks pc vs (.long x :: st) S n I L P post := by
  intro l D b p e R s m args below meth c H locs cells slots mc ms ls C N hR hS hL
  exact lv_lneg C.1 C.2.1 hd (k l D b p e R s m args below meth c H locs cells slots mc ms ls C N hR hS hL)
theorem q_i2l {M : BqM} {fr lo kc ks pc : Nat} {vs : List (Option Value)} {st : List Value} {S : BqH} {n : Nat} {I : BqI} {L : BqL} {P : BqP} {post : BqQ} {x : Int32} (hd : decode M.2.1 pc = .ok (.i2l, 1))  (k : bq_W M fr lo kc ks (pc + 1) vs (.long x.toInt64 :: st) S n I L P post) : bq_W M fr lo kc ks pc vs (.int x :: st) S n I L P post := by
  intro l D b p e R s m args below meth c H locs cells slots mc ms ls C N hR hS hL
  exact lv_i2l C.1 C.2.1 hd rfl (k l D b p e R s m args below meth c H locs cells slots mc ms ls C N hR hS hL)
theorem q_l2i {M : BqM} {fr lo kc ks pc : Nat} {vs : List (Option Value)} {st : List Value} {S : BqH} {n : Nat} {I : BqI} {L : BqL} {P : BqP} {post : BqQ} {x : Int64} (hd : decode M.2.1 pc = .ok (.l2i, 1))  (k : bq_W M fr lo kc ks (pc + 1) vs (.int x.toInt32 :: st) S n I L P post) : bq_W M fr lo kc ks pc vs (.long x :: st) S n I L P post := by
  intro l D b p e R s m args below meth c H locs cells slots mc ms ls C N hR hS hL
  exact lv_l2i C.1 C.2.1 hd rfl (k l D b p e R s m args below meth c H locs cells slots mc ms ls C N hR hS hL)
theorem q_dup {M : BqM} {fr lo kc ks pc : Nat} {vs : List (Option Value)} {st : List Value} {S : BqH} {n : Nat} {I : BqI} {L : BqL} {P : BqP} {post : BqQ} {a : Value} (hd : decode M.2.1 pc = .ok (.dup, 1)) (ha : a.category = 1) (k : bq_W M fr lo kc ks (pc + 1) vs (a :: a :: st) S n I L P post) : bq_W M fr lo kc ks pc vs (a :: st) S n I L P post := by
  intro l D b p e R s m args below meth c H locs cells slots mc ms ls C N hR hS hL
  exact lv_dup C.1 C.2.1 hd ((bq_cat b a).trans ha) (k l D b p e R s m args below meth c H locs cells slots mc ms ls C N hR hS hL)
theorem q_dup2 {M : BqM} {fr lo kc ks pc : Nat} {vs : List (Option Value)} {st : List Value} {S : BqH} {n : Nat} {I : BqI} {L : BqL} {P : BqP} {post : BqQ} {a a2 : Value} (hd : decode M.2.1 pc = .ok (.dup2, 1)) (ha : a.category = 1) (ha2 : a2.category = 1) (k : bq_W M fr lo kc ks (pc + 1) vs (a :: a2 :: a :: a2 :: st) S n I L P post) : bq_W M fr lo kc ks pc vs (a :: a2 :: st) S n I L P post := by
  intro l D b p e R s m args below meth c H locs cells slots mc ms ls C N hR hS hL
  exact lv_dup2_11 C.1 C.2.1 hd ((bq_cat b a).trans ha) ((bq_cat b a2).trans ha2) (k l D b p e R s m args below meth c H locs cells slots mc ms ls C N hR hS hL)
theorem q_pop {M : BqM} {fr lo kc ks pc : Nat} {vs : List (Option Value)} {st : List Value} {S : BqH} {n : Nat} {I : BqI} {L : BqL} {P : BqP} {post : BqQ} {a : Value} (hd : decode M.2.1 pc = .ok (.pop, 1)) (ha : a.category = 1) (k : bq_W M fr lo kc ks (pc + 1) vs st S n I L P post) : bq_W M fr lo kc ks pc vs (a :: st) S n I L P post := by
  intro l D b p e R s m args below meth c H locs cells slots mc ms ls C N hR hS hL
  exact lv_pop C.1 C.2.1 hd ((bq_cat b a).trans ha) (k l D b p e R s m args below meth c H locs cells slots mc ms ls C N hR hS hL)
theorem q_if_eq {M : BqM} {fr lo kc ks pc : Nat} {vs : List (Option Value)} {st : List Value} {S : BqH} {n : Nat} {I : BqI} {L : BqL} {P : BqP} {post : BqQ} {x : Int32} {off : Int} (tgt : Nat) (hd : decode M.2.1 pc = .ok (.ifCond .eq off, 3)) (ht : (pc : Int) + off = (tgt : Int))  (kt : x = 0 → bq_W M fr lo kc ks tgt vs st S n I L P post) (kf : ¬ x = 0 → bq_W M fr lo kc ks (pc + 3) vs st S n I L P post) : bq_W M fr lo kc ks pc vs (.int x :: st) S n I L P post := by
  intro l D b p e R s m args below meth c H locs cells slots mc ms ls C N hR hS hL
  exact lv_if_eq C.1 C.2.1 hd ht (fun h => kt h l D b p e R s m args below meth c H locs cells slots mc ms ls C N hR hS hL) (fun h => kf h l D b p e R s m args below meth c H locs cells slots mc ms ls C N hR hS hL)
theorem q_if_ne {M : BqM} {fr lo kc ks pc : Nat} {vs : List (Option Value)} {st : List Value} {S : BqH} {n : Nat} {I : BqI} {L : BqL} {P : BqP} {post : BqQ} {x : Int32} {off : Int} (tgt : Nat) (hd : decode M.2.1 pc = .ok (.ifCond .ne off, 3)) (ht : (pc : Int) + off = (tgt : Int))  (kt : ¬ x = 0 → bq_W M fr lo kc ks tgt vs st S n I L P post) (kf : x = 0 → bq_W M fr lo kc ks (pc + 3) vs st S n I L P post) : bq_W M fr lo kc ks pc vs (.int x :: st) S n I L P post := by
  intro l D b p e R s m args below meth c H locs cells slots mc ms ls C N hR hS hL
  exact lv_if_ne C.1 C.2.1 hd ht (fun h => kt h l D b p e R s m args below meth c H locs cells slots mc ms ls C N hR hS hL) (fun h => kf h l D b p e R s m args below meth c H locs cells slots mc ms ls C N hR hS hL)
theorem q_if_lt {M : BqM} {fr lo kc ks pc : Nat} {vs : List (Option Value)} {st : List Value} {S : BqH} {n : Nat} {I : BqI} {L : BqL} {P : BqP} {post : BqQ} {x : Int32} {off : Int} (tgt : Nat) (hd : decode M.2.1 pc = .ok (.ifCond .lt off, 3)) (ht : (pc : Int) + off = (tgt : Int))  (kt : x < 0 → bq_W M fr lo kc ks tgt vs st S n I L P post) (kf : ¬ x < 0 → bq_W M fr lo kc ks (pc + 3) vs st S n I L P post) : bq_W M fr lo kc ks pc vs (.int x :: st) S n I L P post := by
  intro l D b p e R s m args below meth c H locs cells slots mc ms ls C N hR hS hL
  exact lv_if_lt C.1 C.2.1 hd ht (fun h => kt h l D b p e R s m args below meth c H locs cells slots mc ms ls C N hR hS hL) (fun h => kf h l D b p e R s m args below meth c H locs cells slots mc ms ls C N hR hS hL)
theorem q_if_ge {M : BqM} {fr lo kc ks pc : Nat} {vs : List (Option Value)} {st : List Value} {S : BqH} {n : Nat} {I : BqI} {L : BqL} {P : BqP} {post : BqQ} {x : Int32} {off : Int} (tgt : Nat) (hd : decode M.2.1 pc = .ok (.ifCond .ge off, 3)) (ht : (pc : Int) + off = (tgt : Int))  (kt : 0 ≤ x → bq_W M fr lo kc ks tgt vs st S n I L P post) (kf : ¬ 0 ≤ x → bq_W M fr lo kc ks (pc + 3) vs st S n I L P post) : bq_W M fr lo kc ks pc vs (.int x :: st) S n I L P post := by
  intro l D b p e R s m args below meth c H locs cells slots mc ms ls C N hR hS hL
  exact lv_if_ge C.1 C.2.1 hd ht (fun h => kt h l D b p e R s m args below meth c H locs cells slots mc ms ls C N hR hS hL) (fun h => kf h l D b p e R s m args below meth c H locs cells slots mc ms ls C N hR hS hL)
theorem q_if_gt {M : BqM} {fr lo kc ks pc : Nat} {vs : List (Option Value)} {st : List Value} {S : BqH} {n : Nat} {I : BqI} {L : BqL} {P : BqP} {post : BqQ} {x : Int32} {off : Int} (tgt : Nat) (hd : decode M.2.1 pc = .ok (.ifCond .gt off, 3)) (ht : (pc : Int) + off = (tgt : Int))  (kt : 0 < x → bq_W M fr lo kc ks tgt vs st S n I L P post) (kf : ¬ 0 < x → bq_W M fr lo kc ks (pc + 3) vs st S n I L P post) : bq_W M fr lo kc ks pc vs (.int x :: st) S n I L P post := by
  intro l D b p e R s m args below meth c H locs cells slots mc ms ls C N hR hS hL
  exact lv_if_gt C.1 C.2.1 hd ht (fun h => kt h l D b p e R s m args below meth c H locs cells slots mc ms ls C N hR hS hL) (fun h => kf h l D b p e R s m args below meth c H locs cells slots mc ms ls C N hR hS hL)
theorem q_if_le {M : BqM} {fr lo kc ks pc : Nat} {vs : List (Option Value)} {st : List Value} {S : BqH} {n : Nat} {I : BqI} {L : BqL} {P : BqP} {post : BqQ} {x : Int32} {off : Int} (tgt : Nat) (hd : decode M.2.1 pc = .ok (.ifCond .le off, 3)) (ht : (pc : Int) + off = (tgt : Int))  (kt : x ≤ 0 → bq_W M fr lo kc ks tgt vs st S n I L P post) (kf : ¬ x ≤ 0 → bq_W M fr lo kc ks (pc + 3) vs st S n I L P post) : bq_W M fr lo kc ks pc vs (.int x :: st) S n I L P post := by
  intro l D b p e R s m args below meth c H locs cells slots mc ms ls C N hR hS hL
  exact lv_if_le C.1 C.2.1 hd ht (fun h => kt h l D b p e R s m args below meth c H locs cells slots mc ms ls C N hR hS hL) (fun h => kf h l D b p e R s m args below meth c H locs cells slots mc ms ls C N hR hS hL)
theorem q_icmp_eq {M : BqM} {fr lo kc ks pc : Nat} {vs : List (Option Value)} {st : List Value} {S : BqH} {n : Nat} {I : BqI} {L : BqL} {P : BqP} {post : BqQ} {x y : Int32} {off : Int} (tgt : Nat) (hd : decode M.2.1 pc = .ok (.if_icmp .eq off, 3)) (ht : (pc : Int) + off = (tgt : Int))  (kt : x = y → bq_W M fr lo kc ks tgt vs st S n I L P post) (kf : ¬ x = y → bq_W M fr lo kc ks (pc + 3) vs st S n I L P post) : bq_W M fr lo kc ks pc vs (.int y :: .int x :: st) S n I L P post := by
  intro l D b p e R s m args below meth c H locs cells slots mc ms ls C N hR hS hL
  exact lv_icmp_eq C.1 C.2.1 hd ht (fun h => kt h l D b p e R s m args below meth c H locs cells slots mc ms ls C N hR hS hL) (fun h => kf h l D b p e R s m args below meth c H locs cells slots mc ms ls C N hR hS hL)
theorem q_icmp_ne {M : BqM} {fr lo kc ks pc : Nat} {vs : List (Option Value)} {st : List Value} {S : BqH} {n : Nat} {I : BqI} {L : BqL} {P : BqP} {post : BqQ} {x y : Int32} {off : Int} (tgt : Nat) (hd : decode M.2.1 pc = .ok (.if_icmp .ne off, 3)) (ht : (pc : Int) + off = (tgt : Int))  (kt : ¬ x = y → bq_W M fr lo kc ks tgt vs st S n I L P post) (kf : x = y → bq_W M fr lo kc ks (pc + 3) vs st S n I L P post) : bq_W M fr lo kc ks pc vs (.int y :: .int x :: st) S n I L P post := by
  intro l D b p e R s m args below meth c H locs cells slots mc ms ls C N hR hS hL
  exact lv_icmp_ne C.1 C.2.1 hd ht (fun h => kt h l D b p e R s m args below meth c H locs cells slots mc ms ls C N hR hS hL) (fun h => kf h l D b p e R s m args below meth c H locs cells slots mc ms ls C N hR hS hL)
theorem q_icmp_lt {M : BqM} {fr lo kc ks pc : Nat} {vs : List (Option Value)} {st : List Value} {S : BqH} {n : Nat} {I : BqI} {L : BqL} {P : BqP} {post : BqQ} {x y : Int32} {off : Int} (tgt : Nat) (hd : decode M.2.1 pc = .ok (.if_icmp .lt off, 3)) (ht : (pc : Int) + off = (tgt : Int))  (kt : x < y → bq_W M fr lo kc ks tgt vs st S n I L P post) (kf : ¬ x < y → bq_W M fr lo kc ks (pc + 3) vs st S n I L P post) : bq_W M fr lo kc ks pc vs (.int y :: .int x :: st) S n I L P post := by
  intro l D b p e R s m args below meth c H locs cells slots mc ms ls C N hR hS hL
  exact lv_icmp_lt C.1 C.2.1 hd ht (fun h => kt h l D b p e R s m args below meth c H locs cells slots mc ms ls C N hR hS hL) (fun h => kf h l D b p e R s m args below meth c H locs cells slots mc ms ls C N hR hS hL)
theorem q_icmp_ge {M : BqM} {fr lo kc ks pc : Nat} {vs : List (Option Value)} {st : List Value} {S : BqH} {n : Nat} {I : BqI} {L : BqL} {P : BqP} {post : BqQ} {x y : Int32} {off : Int} (tgt : Nat) (hd : decode M.2.1 pc = .ok (.if_icmp .ge off, 3)) (ht : (pc : Int) + off = (tgt : Int))  (kt : y ≤ x → bq_W M fr lo kc ks tgt vs st S n I L P post) (kf : ¬ y ≤ x → bq_W M fr lo kc ks (pc + 3) vs st S n I L P post) : bq_W M fr lo kc ks pc vs (.int y :: .int x :: st) S n I L P post := by
  intro l D b p e R s m args below meth c H locs cells slots mc ms ls C N hR hS hL
  exact lv_icmp_ge C.1 C.2.1 hd ht (fun h => kt h l D b p e R s m args below meth c H locs cells slots mc ms ls C N hR hS hL) (fun h => kf h l D b p e R s m args below meth c H locs cells slots mc ms ls C N hR hS hL)
theorem q_icmp_gt {M : BqM} {fr lo kc ks pc : Nat} {vs : List (Option Value)} {st : List Value} {S : BqH} {n : Nat} {I : BqI} {L : BqL} {P : BqP} {post : BqQ} {x y : Int32} {off : Int} (tgt : Nat) (hd : decode M.2.1 pc = .ok (.if_icmp .gt off, 3)) (ht : (pc : Int) + off = (tgt : Int))  (kt : y < x → bq_W M fr lo kc ks tgt vs st S n I L P post) (kf : ¬ y < x → bq_W M fr lo kc ks (pc + 3) vs st S n I L P post) : bq_W M fr lo kc ks pc vs (.int y :: .int x :: st) S n I L P post := by
  intro l D b p e R s m args below meth c H locs cells slots mc ms ls C N hR hS hL
  exact lv_icmp_gt C.1 C.2.1 hd ht (fun h => kt h l D b p e R s m args below meth c H locs cells slots mc ms ls C N hR hS hL) (fun h => kf h l D b p e R s m args below meth c H locs cells slots mc ms ls C N hR hS hL)
theorem q_icmp_le {M : BqM} {fr lo kc ks pc : Nat} {vs : List (Option Value)} {st : List Value} {S : BqH} {n : Nat} {I : BqI} {L : BqL} {P : BqP} {post : BqQ} {x y : Int32} {off : Int} (tgt : Nat) (hd : decode M.2.1 pc = .ok (.if_icmp .le off, 3)) (ht : (pc : Int) + off = (tgt : Int))  (kt : x ≤ y → bq_W M fr lo kc ks tgt vs st S n I L P post) (kf : ¬ x ≤ y → bq_W M fr lo kc ks (pc + 3) vs st S n I L P post) : bq_W M fr lo kc ks pc vs (.int y :: .int x :: st) S n I L P post := by
  intro l D b p e R s m args below meth c H locs cells slots mc ms ls C N hR hS hL
  exact lv_icmp_le C.1 C.2.1 hd ht (fun h => kt h l D b p e R s m args below meth c H locs cells slots mc ms ls C N hR hS hL) (fun h => kf h l D b p e R s m args below meth c H locs cells slots mc ms ls C N hR hS hL)
theorem q_goto {M : BqM} {fr lo kc ks pc : Nat} {vs : List (Option Value)} {st : List Value} {S : BqH} {n : Nat} {I : BqI} {L : BqL} {P : BqP} {post : BqQ} {off : Int} (tgt : Nat) (hd : decode M.2.1 pc = .ok (.goto off, 3)) (ht : (pc : Int) + off = (tgt : Int)) (k : bq_W M fr lo kc ks tgt vs st S n I L P post) : bq_W M fr lo kc ks pc vs st S n I L P post := by
  intro l D b p e R s m args below meth c H locs cells slots mc ms ls C N hR hS hL
  exact lv_goto C.1 C.2.1 hd ht (k l D b p e R s m args below meth c H locs cells slots mc ms ls C N hR hS hL)
theorem q_ifnull {M : BqM} {fr lo kc ks pc : Nat} {vs : List (Option Value)} {st : List Value} {S : BqH} {n : Nat} {I : BqI} {L : BqL} {P : BqP} {post : BqQ} {x : Nat} {off : Int} (hd : decode M.2.1 pc = .ok (.ifnull off, 3)) (k : bq_W M fr lo kc ks (pc + 3) vs st S n I L P post) : bq_W M fr lo kc ks pc vs (.ref x :: st) S n I L P post := by
  intro l D b p e R s m args below meth c H locs cells slots mc ms ls C N hR hS hL
  exact lv_ifnull C.1 C.2.1 hd (k l D b p e R s m args below meth c H locs cells slots mc ms ls C N hR hS hL)
theorem q_ifnullN {M : BqM} {fr lo kc ks pc : Nat} {vs : List (Option Value)} {st : List Value} {S : BqH} {n : Nat} {I : BqI} {L : BqL} {P : BqP} {post : BqQ} {off : Int} (tgt : Nat) (hd : decode M.2.1 pc = .ok (.ifnull off, 3)) (ht : (pc : Int) + off = (tgt : Int)) (k : bq_W M fr lo kc ks tgt vs st S n I L P post) : bq_W M fr lo kc ks pc vs (.null :: st) S n I L P post := by
  intro l D b p e R s m args below meth c H locs cells slots mc ms ls C N hR hS hL
  exact lv_ifnullN C.1 C.2.1 hd ht (k l D b p e R s m args below meth c H locs cells slots mc ms ls C N hR hS hL)
theorem q_ifnonnull {M : BqM} {fr lo kc ks pc : Nat} {vs : List (Option Value)} {st : List Value} {S : BqH} {n : Nat} {I : BqI} {L : BqL} {P : BqP} {post : BqQ} {x : Nat} {off : Int} (tgt : Nat) (hd : decode M.2.1 pc = .ok (.ifnonnull off, 3)) (ht : (pc : Int) + off = (tgt : Int)) (k : bq_W M fr lo kc ks tgt vs st S n I L P post) : bq_W M fr lo kc ks pc vs (.ref x :: st) S n I L P post := by
  intro l D b p e R s m args below meth c H locs cells slots mc ms ls C N hR hS hL
  exact lv_ifnonnull C.1 C.2.1 hd ht (k l D b p e R s m args below meth c H locs cells slots mc ms ls C N hR hS hL)
theorem q_ifnonnullN {M : BqM} {fr lo kc ks pc : Nat} {vs : List (Option Value)} {st : List Value} {S : BqH} {n : Nat} {I : BqI} {L : BqL} {P : BqP} {post : BqQ} {off : Int} (hd : decode M.2.1 pc = .ok (.ifnonnull off, 3)) (k : bq_W M fr lo kc ks (pc + 3) vs st S n I L P post) : bq_W M fr lo kc ks pc vs (.null :: st) S n I L P post := by
  intro l D b p e R s m args below meth c H locs cells slots mc ms ls C N hR hS hL
  exact lv_ifnonnullN C.1 C.2.1 hd (k l D b p e R s m args below meth c H locs cells slots mc ms ls C N hR hS hL)
theorem q_tableIn {M : BqM} {fr lo kc ks pc : Nat} {vs : List (Option Value)} {st : List Value} {S : BqH} {n : Nat} {I : BqI} {L : BqL} {P : BqP} {post : BqQ} {dflt lo' hi' : Int} {offs : Array Int} {len : Nat} {x : Int32} {off : Int} (tgt : Nat) (hd : decode M.2.1 pc = .ok (.tableswitch dflt lo' hi' offs, len)) (h1 : ¬ x.toInt < lo') (h2 : ¬ hi' < x.toInt) (ho : offs[(x.toInt - lo').toNat]? = some off) (ht : (pc : Int) + off = (tgt : Int)) (k : bq_W M fr lo kc ks tgt vs st S n I L P post) : bq_W M fr lo kc ks pc vs (.int x :: st) S n I L P post := by
  intro l D b p e R s m args below meth c H locs cells slots mc ms ls C N hR hS hL
  exact lv_tableIn C.1 C.2.1 hd h1 h2 ho ht (k l D b p e R s m args below meth c H locs cells slots mc ms ls C N hR hS hL)
theorem q_tableOut {M : BqM} {fr lo kc ks pc : Nat} {vs : List (Option Value)} {st : List Value} {S : BqH} {n : Nat} {I : BqI} {L : BqL} {P : BqP} {post : BqQ} {dflt lo' hi' : Int} {offs : Array Int} {len : Nat} {x : Int32} (tgt : Nat) (hd : decode M.2.1 pc = .ok (.tableswitch dflt lo' hi' offs, len)) (h : x.toInt < lo' ∨ hi' < x.toInt) (ht : (pc : Int) + dflt = (tgt : Int)) (k : bq_W M fr lo kc ks tgt vs st S n I L P post) : bq_W M fr lo kc ks pc vs (.int x :: st) S n I L P post := by
  intro l D b p e R s m args below meth c H locs cells slots mc ms ls C N hR hS hL
  exact lv_tableOut C.1 C.2.1 hd h ht (k l D b p e R s m args below meth c H locs cells slots mc ms ls C N hR hS hL)
theorem q_lookup {M : BqM} {fr lo kc ks pc : Nat} {vs : List (Option Value)} {st : List Value} {S : BqH} {n : Nat} {I : BqI} {L : BqL} {P : BqP} {post : BqQ} {dflt : Int} {ps : Array (Int × Int)} {len : Nat} {x : Int32} {off : Int} (tgt : Nat) (hd : decode M.2.1 pc = .ok (.lookupswitch dflt ps, len)) (hp : (ps.toList.zip (ps.toList.drop 1)).all (fun (a, next) => a.1 < next.1) = true) (ho : Op.lookupswitch.offset ps.toList dflt x.toInt = off) (ht : (pc : Int) + off = (tgt : Int)) (k : bq_W M fr lo kc ks tgt vs st S n I L P post) : bq_W M fr lo kc ks pc vs (.int x :: st) S n I L P post := by
  intro l D b p e R s m args below meth c H locs cells slots mc ms ls C N hR hS hL
  exact lv_lookup C.1 C.2.1 hd hp ho ht (k l D b p e R s m args below meth c H locs cells slots mc ms ls C N hR hS hL)
theorem q_lcmp {M : BqM} {fr lo kc ks pc : Nat} {vs : List (Option Value)} {st : List Value} {S : BqH} {n : Nat} {I : BqI} {L : BqL} {P : BqP} {post : BqQ} {x y : Int64} (hd : decode M.2.1 pc = .ok (.lcmp, 1))  (k : bq_W M fr lo kc ks (pc + 1) vs (.int (lg_cmp x y) :: st) S n I L P post) : bq_W M fr lo kc ks pc vs (.long y :: .long x :: st) S n I L P post := by
  intro l D b p e R s m args below meth c H locs cells slots mc ms ls C N hR hS hL
  exact W.lcmp C.1 C.2.1 hd (k l D b p e R s m args below meth c H locs cells slots mc ms ls C N hR hS hL)
def bq_en (b : Nat) (vs : List (Option Value)) : List (Nat × Value) := (List.range vs.length).filterMap (fun i => (vs[i]?.join).map (fun v => (i, bq_cv b v)))
theorem bq_en_mem {b : Nat} {vs : List (Option Value)} {q : Nat × Value} : q ∈ bq_en b vs ↔ ∃ v, vs[q.1]? = some (some v) ∧ q.2 = bq_cv b v := by
  obtain ⟨i, w⟩ := q
  unfold bq_en
  rw [List.mem_filterMap]
  constructor
  · rintro ⟨j, hj, h⟩
    cases hv : vs[j]? with
    | none => rw [hv] at h; cases h
    | some o =>
      cases o with
      | none => rw [hv] at h; cases h
      | some v => rw [hv] at h; simp at h; obtain ⟨rfl, rfl⟩ := h; exact ⟨v, hv, rfl⟩
  · rintro ⟨v, h, rfl⟩
    have hl : i < vs.length := (List.getElem?_eq_some_iff.mp h).1
    refine ⟨i, List.mem_range.mpr hl, ?_⟩
    dsimp only at h
    rw [h]; rfl
theorem bq_LH.has {b : Nat} {ls : Array Slot} {nL : Nat} {vs : List (Option Value)} (h : bq_LH b ls nL vs) : lv_has ls nL (bq_en b vs) := by
  refine ⟨h.1, h.2.1, fun q hq => ?_⟩
  obtain ⟨v, h1, h2⟩ := bq_en_mem.mp hq
  rw [h2]; exact h.2.2 _ _ h1
/-- the place in front of i holds no long -/
def bq_nl (vs : List (Option Value)) (i : Nat) : Bool := match i with
  | 0 => true
  | j + 1 => match vs[j]? with
    | some (some w) => w.category == 1
    | _ => true
theorem bq_st1 {b : Nat} {ls : Array Slot} {nL i : Nat} {vs : List (Option Value)} {v : Value} (h : lv_has ls nL ((i, bq_cv b v) :: (bq_en b vs).filter (fun q => !(q.1 == i) && !(q.1 + 1 == i && q.2.category == 2)))) (hn : bq_nl vs i = true) : bq_LH b ls nL (vs.set i (some v)) := by
  refine ⟨h.1, h.2.1, fun j w hj => ?_⟩
  rw [List.getElem?_set] at hj
  by_cases e : i = j
  · subst e
    rw [if_pos rfl] at hj
    by_cases hl : i < vs.length
    · rw [if_pos hl] at hj
      cases hj
      exact h.2.2 (i, _) List.mem_cons_self
    · rw [if_neg hl] at hj; cases hj
  · rw [if_neg e] at hj
    refine h.2.2 (j, bq_cv b w) (List.mem_cons_of_mem _ (List.mem_filter.mpr ⟨bq_en_mem.mpr ⟨w, hj, rfl⟩, ?_⟩))
    have h1 : (j == i) = false := by simp; omega
    simp only [h1, Bool.not_false, Bool.true_and, bq_cat]
    by_cases h2 : j + 1 = i
    · subst h2
      simp only [bq_nl, hj] at hn
      have h3 : w.category = 1 := by simpa using hn
      simp [h3]
    · have h2' : (j + 1 == i) = false := by simpa using h2
      simp [h2']
theorem bq_st2 {b : Nat} {ls : Array Slot} {nL i : Nat} {vs : List (Option Value)} {v : Value} (h : lv_has ls nL ((i, bq_cv b v) :: (bq_en b vs).filter (fun q => !(q.1 == i) && (!(q.1 == i + 1) && !(q.1 + 1 == i && q.2.category == 2))))) (hn : bq_nl vs i = true) : bq_LH b ls nL ((vs.set i (some v)).set (i + 1) none) := by
  refine ⟨h.1, h.2.1, fun j w hj => ?_⟩
  rw [List.getElem?_set] at hj
  by_cases e2 : i + 1 = j
  · rw [if_pos e2] at hj
    split at hj <;> cases hj
  rw [if_neg e2, List.getElem?_set] at hj
  by_cases e : i = j
  · subst e
    rw [if_pos rfl] at hj
    by_cases hl : i < vs.length
    · rw [if_pos hl] at hj
      cases hj
      exact h.2.2 (i, _) List.mem_cons_self
    · rw [if_neg hl] at hj; cases hj
  · rw [if_neg e] at hj
    refine h.2.2 (j, bq_cv b w) (List.mem_cons_of_mem _ (List.mem_filter.mpr ⟨bq_en_mem.mpr ⟨w, hj, rfl⟩, ?_⟩))
    have h1 : (j == i) = false := by simp; omega
    have h1' : (j == i + 1) = false := by simp; omega
    simp only [h1, h1', Bool.not_false, Bool.true_and, bq_cat]
    by_cases h2 : j + 1 = i
    · subst h2
      simp only [bq_nl, hj] at hn
      have h3 : w.category = 1 := by simpa using hn
      simp [h3]
    · have h2' : (j + 1 == i) = false := by simpa using h2
      simp [h2']
theorem q_istore_n {M : BqM} {fr lo kc ks pc : Nat} {vs : List (Option Value)} {st : List Value} {S : BqH} {n : Nat} {I : BqI} {L : BqL} {P : BqP} {post : BqQ} {k0 : Fin 4} {i : Nat} {x : Int32} (hd : decode M.2.1 pc = .ok (.istore_n k0, 1)) (hi : (k0 : Nat) = i) (hn : i < M.2.2.1) (hl : bq_nl vs i = true) (k : bq_W M fr lo kc ks (pc + 1) (vs.set i (some (.int x))) st S n I L P post) : bq_W M fr lo kc ks pc vs (.int x :: st) S n I L P post := by
  intro l D b p e R s m args below meth c H locs cells slots mc ms ls C N hR hS hL
  exact lv_istore_n C.1 C.2.1 hd hi hL.has hn rfl (fun ls' h => k l D b p e R s m args below meth c H locs cells slots mc ms ls' C N hR hS (bq_st1 (v := .int x) h hl))
theorem q_istore {M : BqM} {fr lo kc ks pc : Nat} {vs : List (Option Value)} {st : List Value} {S : BqH} {n : Nat} {I : BqI} {L : BqL} {P : BqP} {post : BqQ} {i : Nat} {x : Int32} (hd : decode M.2.1 pc = .ok (.istore i, 2)) (hn : i < M.2.2.1) (hl : bq_nl vs i = true) (k : bq_W M fr lo kc ks (pc + 2) (vs.set i (some (.int x))) st S n I L P post) : bq_W M fr lo kc ks pc vs (.int x :: st) S n I L P post := by
  intro l D b p e R s m args below meth c H locs cells slots mc ms ls C N hR hS hL
  exact lv_istore C.1 C.2.1 hd hL.has hn rfl (fun ls' h => k l D b p e R s m args below meth c H locs cells slots mc ms ls' C N hR hS (bq_st1 (v := .int x) h hl))
theorem q_astore_n {M : BqM} {fr lo kc ks pc : Nat} {vs : List (Option Value)} {st : List Value} {S : BqH} {n : Nat} {I : BqI} {L : BqL} {P : BqP} {post : BqQ} {k0 : Fin 4} {i : Nat} {x : Nat} (hd : decode M.2.1 pc = .ok (.astore_n k0, 1)) (hi : (k0 : Nat) = i) (hn : i < M.2.2.1) (hl : bq_nl vs i = true) (k : bq_W M fr lo kc ks (pc + 1) (vs.set i (some (.ref x))) st S n I L P post) : bq_W M fr lo kc ks pc vs (.ref x :: st) S n I L P post := by
  intro l D b p e R s m args below meth c H locs cells slots mc ms ls C N hR hS hL
  exact lv_astore_n C.1 C.2.1 hd hi hL.has hn rfl (fun ls' h => k l D b p e R s m args below meth c H locs cells slots mc ms ls' C N hR hS (bq_st1 (v := .ref x) h hl))
theorem q_astore {M : BqM} {fr lo kc ks pc : Nat} {vs : List (Option Value)} {st : List Value} {S : BqH} {n : Nat} {I : BqI} {L : BqL} {P : BqP} {post : BqQ} {i : Nat} {x : Nat} (hd : decode M.2.1 pc = .ok (.astore i, 2)) (hn : i < M.2.2.1) (hl : bq_nl vs i = true) (k : bq_W M fr lo kc ks (pc + 2) (vs.set i (some (.ref x))) st S n I L P post) : bq_W M fr lo kc ks pc vs (.ref x :: st) S n I L P post := by
  intro l D b p e R s m args below meth c H locs cells slots mc ms ls C N hR hS hL
  exact lv_astore C.1 C.2.1 hd hL.has hn rfl (fun ls' h => k l D b p e R s m args below meth c H locs cells slots mc ms ls' C N hR hS (bq_st1 (v := .ref x) h hl))
theorem q_lstore_n {M : BqM} {fr lo kc ks pc : Nat} {vs : List (Option Value)} {st : List Value} {S : BqH} {n : Nat} {I : BqI} {L : BqL} {P : BqP} {post : BqQ} {k0 : Fin 4} {i : Nat} {x : Int64} (hd : decode M.2.1 pc = .ok (.lstore_n k0, 1)) (hi : (k0 : Nat) = i) (hn : i + 1 < M.2.2.1) (hl : bq_nl vs i = true) (k : bq_W M fr lo kc ks (pc + 1) ((vs.set i (some (.long x))).set (i + 1) none) st S n I L P post) : bq_W M fr lo kc ks pc vs (.long x :: st) S n I L P post := by
  intro l D b p e R s m args below meth c H locs cells slots mc ms ls C N hR hS hL
  exact lv_lstore_n C.1 C.2.1 hd hi hL.has hn rfl (fun ls' h => k l D b p e R s m args below meth c H locs cells slots mc ms ls' C N hR hS (bq_st2 (v := .long x) h hl))
theorem q_lstore {M : BqM} {fr lo kc ks pc : Nat} {vs : List (Option Value)} {st : List Value} {S : BqH} {n : Nat} {I : BqI} {L : BqL} {P : BqP} {post : BqQ} {i : Nat} {x : Int64} (hd : decode M.2.1 pc = .ok (.lstore i, 2)) (hn : i + 1 < M.2.2.1) (hl : bq_nl vs i = true) (k : bq_W M fr lo kc ks (pc + 2) ((vs.set i (some (.long x))).set (i + 1) none) st S n I L P post) : bq_W M fr lo kc ks pc vs (.long x :: st) S n I L P post := by
  intro l D b p e R s m args below meth c H locs cells slots mc ms ls C N hR hS hL
  exact lv_lstore C.1 C.2.1 hd hL.has hn rfl (fun ls' h => k l D b p e R s m args below meth c H locs cells slots mc ms ls' C N hR hS (bq_st2 (v := .long x) h hl))
theorem q_iinc {M : BqM} {fr lo kc ks pc : Nat} {vs : List (Option Value)} {st : List Value} {S : BqH} {n : Nat} {I : BqI} {L : BqL} {P : BqP} {post : BqQ} {i : Nat} {z : Int} {x v : Int32} (hd : decode M.2.1 pc = .ok (.iinc i z, 3)) (hv : vs[i]? = some (some (.int x))) (hx : x + Int32.ofInt z = v) (hn : i < M.2.2.1) (hl : bq_nl vs i = true) (k : bq_W M fr lo kc ks (pc + 3) (vs.set i (some (.int v))) st S n I L P post) : bq_W M fr lo kc ks pc vs st S n I L P post := by
  intro l D b p e R s m args below meth c H locs cells slots mc ms ls C N hR hS hL
  obtain ⟨j, hj⟩ := List.getElem?_of_mem (bq_en_mem.mpr ⟨.int x, hv, rfl⟩ : (i, Value.int x) ∈ bq_en b vs)
  exact lv_iinc C.1 C.2.1 hd hL.has hj hx hn rfl (fun ls' h => k l D b p e R s m args below meth c H locs cells slots mc ms ls' C N hR hS (bq_st1 (v := .int v) h hl))
theorem q_ldc2 {M : BqM} {fr lo kc ks pc : Nat} {vs : List (Option Value)} {st : List Value} {S : BqH} {n : Nat} {I : BqI} {L : BqL} {P : BqP} {post : BqQ} {idx : Nat} {v : Int64} (hd : decode M.2.1 pc = .ok (.ldc2_w idx, 3)) (hw : Cond.constantLong M.1.cls idx v ∈ bq_TB) (k : bq_W M fr lo kc ks (pc + 3) vs (.long v :: st) S n I L P post) : bq_W M fr lo kc ks pc vs st S n I L P post := by
  intro l D b p e R s m args below meth c H locs cells slots mc ms ls C N hR hS hL
  exact lv_ldc2 C.1 C.2.1 C.2.2.2.2.1 (C.2.2.2.2.2.1 _ hw) hd (k l D b p e R s m args below meth c H locs cells slots mc ms ls C N hR hS hL)
theorem q_sub {M : BqM} {fr lo kc ks pc : Nat} {vs : List (Option Value)} {st : List Value} {S : BqH} {n : Nat} {I : BqI} {L : BqL} {P : BqP} {post : BqQ} {vs2 : List (Option Value)} (h : ∀ (i : Nat) (v : Value), vs2[i]? = some (some v) → vs[i]? = some (some v)) (k : bq_W M fr lo kc ks pc vs2 st S n I L P post) : bq_W M fr lo kc ks pc vs st S n I L P post := by
  intro l D b p e R s m args below meth c H locs cells slots mc ms ls C N hR hS hL
  exact k l D b p e R s m args below meth c H locs cells slots mc ms ls C N hR hS ⟨hL.1, hL.2.1, fun i v hv => hL.2.2 i v (h i v hv)⟩
theorem q_to {M : BqM} {fr lo kc ks pc : Nat} {vs : List (Option Value)} {st : List Value} {S : BqH} {n : Nat} {I : BqI} {L : BqL} {P : BqP} {post : BqQ} {vs2 : List (Option Value)} {st2 : List Value} {I2 : BqI} {L2 : BqL} (hv : vs = vs2) (hs : st = st2) (hI : I = I2) (hL : L = L2) (k : bq_W M fr lo kc ks pc vs2 st2 S n I2 L2 P post) : bq_W M fr lo kc ks pc vs st S n I L P post := by
  subst hv; subst hs; subst hI; subst hL; exact k
theorem q_iret {M : BqM} {fr lo kc ks pc : Nat} {vs : List (Option Value)} {st : List Value} {S : BqH} {n : Nat} {I : BqI} {L : BqL} {P : BqP} {post : BqQ} {x : Int32} (hd : decode M.2.1 pc = .ok (.ireturn, 1)) (hr : M.2.2.2 = some .int) (hp : post (some (.int x)) S n I L P) : bq_W M fr lo kc ks pc vs [.int x] S n I L P post := by
  intro l D b p e R s m args below meth c H locs cells slots mc ms ls C N hR hS hL
  refine W.widen (k := mc) (n := ms) (by have := N.2.2.1; omega) (by have := N.2.2.2.2.1; omega) ?_
  exact W.iret C.1 C.2.1 (C.2.2.1.trans hr) (fun t ht hW => ⟨(some (.int x)), S, n, I, L, P, rfl, hp, by rw [ht]; exact hR.moved hW.alike, hS.F ht⟩) hS.2.2 hd C.2.2.2.2.2.2.1
theorem q_zret {M : BqM} {fr lo kc ks pc : Nat} {vs : List (Option Value)} {st : List Value} {S : BqH} {n : Nat} {I : BqI} {L : BqL} {P : BqP} {post : BqQ} {x : Int32} (hd : decode M.2.1 pc = .ok (.ireturn, 1)) (hr : M.2.2.2 = some .boolean) (hz : x = 0 ∨ x = 1) (hp : post (some (.int x)) S n I L P) : bq_W M fr lo kc ks pc vs [.int x] S n I L P post := by
  intro l D b p e R s m args below meth c H locs cells slots mc ms ls C N hR hS hL
  refine W.widen (k := mc) (n := ms) (by have := N.2.2.1; omega) (by have := N.2.2.2.2.1; omega) ?_
  exact W.zret C.1 C.2.1 (C.2.2.1.trans hr) (by rcases hz with rfl | rfl <;> rfl) (fun t ht hW => ⟨(some (.int x)), S, n, I, L, P, rfl, hp, by rw [ht]; exact hR.moved hW.alike, hS.F ht⟩) hS.2.2 hd C.2.2.2.2.2.2.1
theorem q_lret {M : BqM} {fr lo kc ks pc : Nat} {vs : List (Option Value)} {st : List Value} {S : BqH} {n : Nat} {I : BqI} {L : BqL} {P : BqP} {post : BqQ} {x : Int64} (hd : decode M.2.1 pc = .ok (.lreturn, 1)) (hr : M.2.2.2 = some .long) (hp : post (some (.long x)) S n I L P) : bq_W M fr lo kc ks pc vs [.long x] S n I L P post := by
  intro l D b p e R s m args below meth c H locs cells slots mc ms ls C N hR hS hL
  refine W.widen (k := mc) (n := ms) (by have := N.2.2.1; omega) (by have := N.2.2.2.2.1; omega) ?_
  exact W.lret C.1 C.2.1 (C.2.2.1.trans hr) (fun t ht hW => ⟨(some (.long x)), S, n, I, L, P, rfl, hp, by rw [ht]; exact hR.moved hW.alike, hS.F ht⟩) hS.2.2 hd C.2.2.2.2.2.2.1
theorem q_vret {M : BqM} {fr lo kc ks pc : Nat} {vs : List (Option Value)} {st : List Value} {S : BqH} {n : Nat} {I : BqI} {L : BqL} {P : BqP} {post : BqQ}  (hd : decode M.2.1 pc = .ok (.return_, 1)) (hr : M.2.2.2 = none) (hp : post none S n I L P) : bq_W M fr lo kc ks pc vs [] S n I L P post := by
  intro l D b p e R s m args below meth c H locs cells slots mc ms ls C N hR hS hL
  refine W.widen (k := mc) (n := ms) (by have := N.2.2.1; omega) (by have := N.2.2.2.2.1; omega) ?_
  exact W.vret C.1 C.2.1 (C.2.2.1.trans hr) (fun t ht hW => ⟨none, S, n, I, L, P, rfl, hp, by rw [ht]; exact hR.moved hW.alike, hS.F ht⟩) hS.2.2 hd C.2.2.2.2.2.2.1
