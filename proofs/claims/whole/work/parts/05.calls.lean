theorem bq_call {p : Program} {l : Launch} {e : Env} {R : Room} {s : State} {m : MethodId} {args : Array Value} {below : List Frame} {meth : Method} {c : Code} {H : Heap} {locs : List Loc} {cells slots : Nat} {Q : State → Prop} {D : va_G} {b mc ms pc : Nat} {ls : Array Slot} {rest st0 : List Value} {a : Array Value} {H0 : Heap} {post : BqQ} (hr : va_Run p l e R s m args below meth c H locs cells slots mc ms (F0 m pc ls st0) rest (bq_Qc D b post a) (fun q => b ≤ q)) (hS : va_S (fun q => b ≤ q) H0 H locs)
    (kk : ∀ (r : Option Value) (S : BqH) (n : Nat) (I : BqI) (L : BqL) (P : BqP) (H1 : Heap) (locs1 : List Loc), post r S n I L P → bq_R D b s H1 S n I L P → va_S (fun q => b ≤ q) H0 H1 locs1 → W p l e R s m args below meth c H1 locs1 (cells + mc) (slots + ms) Q (F0 m (pc + 3) ls ((r.map (bq_cv b)).toList ++ rest))) : W p l e R s m args below meth c H locs cells slots Q (F0 m pc ls st0) := by
  intro T hT X
  obtain ⟨v, st₀, t, T', L0, h0, X', hL, e1, e2, ⟨r, S, n, I, L, P, hv, hp, hR, hz, hk⟩, st⟩ := hr T hT X
  cases hv
  rw [h0] at hz hk
  obtain ⟨t2, a1, b1⟩ := kk r S n I L P T'.heap (locs ++ L0) hp (by rw [e1]; exact hR.moved (by rw [← e2]; exact X'.warmed.alike.symm))
    ⟨Nat.le_trans hS.1 (by rw [e1]; exact hz), fun q h1 h2 => by rw [e1, hk q (Nat.lt_of_lt_of_le h1 hS.1) h2]; exact hS.2.1 q h1 h2, fun q hq => by
      rcases List.mem_append.mp hq with h | h
      · exact hS.2.2 q h
      · exact hL q h⟩ T' rfl X'
  exact ⟨t2, st t2 a1, b1⟩
def bq_dd (N : BqM) (k : Nat) : Prop := N.1.cls ≠ "java/lang/invoke/MethodHandle" ∧ N.1.cls ≠ "java/lang/invoke/VarHandle" ∧ (parseMethodDescriptor N.1.desc).map (fun d => d.parameters.length) = some k
def bq_cV (own : String) (idx : Nat) (N : BqM) (k : Nat) : Prop := Cond.methodLink own idx N.1 ∈ bq_TB ∧ Cond.instanceMethod N.1 ∈ bq_TB ∧ Cond.selects N.1.cls N.1 N.1 ∈ bq_TB ∧ Cond.initialized N.1.cls ∈ bq_TB ∧ Cond.code N.1 N.2.1 N.2.2.1 N.2.2.2 ∈ bq_TB ∧ bq_dd N k
def bq_cS (own : String) (idx : Nat) (N : BqM) (k : Nat) : Prop := Cond.methodLink own idx N.1 ∈ bq_TB ∧ Cond.static N.1 ∈ bq_TB ∧ Cond.initialized N.1.cls ∈ bq_TB ∧ Cond.code N.1 N.2.1 N.2.2.1 N.2.2.2 ∈ bq_TB ∧ bq_dd N k
def bq_cT (own : String) (idx : Nat) (N : BqM) (k : Nat) : Prop := (own, idx, N.1, RX11) ∈ bq_nest ∧ Cond.static N.1 ∈ bq_TB ∧ Cond.initialized N.1.cls ∈ bq_TB ∧ Cond.code N.1 N.2.1 N.2.2.1 N.2.2.2 ∈ bq_TB ∧ bq_dd N k
def bq_cI (own : String) (idx : Nat) (N : BqM) (k : Nat) : Prop := Cond.methodLink own idx N.1 ∈ bq_TB ∧ Cond.instanceMethod N.1 ∈ bq_TB ∧ N.1.name = "<init>" ∧ Cond.initialized N.1.cls ∈ bq_TB ∧ Cond.code N.1 N.2.1 N.2.2.1 N.2.2.2 ∈ bq_TB ∧ bq_dd N k
def bq_cJ (own : String) (idx : Nat) (N : BqM) (k : Nat) : Prop := (own, idx, N.1, RX11) ∈ bq_nest ∧ Cond.instanceMethod N.1 ∈ bq_TB ∧ N.1.name = "<init>" ∧ Cond.initialized N.1.cls ∈ bq_TB ∧ Cond.code N.1 N.2.1 N.2.2.1 N.2.2.2 ∈ bq_TB ∧ bq_dd N k
theorem bq_recv {D : va_G} {b : Nat} {s : State} {H : Heap} {S : BqH} {n : Nat} {I : BqI} {L : BqL} {P : BqP} {o ci z : Nat} {X : String} (hK : bq_K D s) (hR : bq_R D b s H S n I L P) (ho : o < n) (hs : S o = (ci, z)) (hc : (vwCl[ci]?).map (fun q => q.1) = some X) : ∃ cellB : Cell, H[b + o]? = some cellB ∧ cellB.vm.isStatics = false ∧ s.vm.findClass X = some cellB.cls := by
  have hcell := hR.2 o ho
  rw [hs] at hcell
  have hci : ci < 13 := by
    rcases Nat.lt_or_ge ci 13 with h | h
    · exact h
    · rw [List.getElem?_eq_none (show vwCl.length ≤ ci from h)] at hc; cases hc
  obtain ⟨r, h1, cell, q1, q2, q3, q4⟩ := hcell.1 hci
  have h1' : vwCl[ci]? = some r := h1
  rw [h1'] at hc
  cases hc
  exact ⟨cell, q1, by rw [q3]; rfl, by rw [q2]; exact (hK.1.1 ci r h1').2.1⟩
theorem bq_stk {b : Nat} {st0 as st : List Value} (h : st0 = as.reverse ++ st) : st0.map (bq_cv b) = (as.map (bq_cv b)).reverse ++ st.map (bq_cv b) := by
  rw [h, List.map_append, List.map_reverse]
theorem bq_res (b : Nat) (r : Option Value) (st : List Value) : (r.toList ++ st).map (bq_cv b) = (r.map (bq_cv b)).toList ++ st.map (bq_cv b) := by
  cases r <;> rfl

/-- a contract that says what comes out -/
def bq_F (r0 : Option Value) (S0 : BqH) (n0 : Nat) (I0 : BqI) (L0 : BqL) (P0 : BqP) : BqQ := fun r S n I L P => r = r0 ∧ S = S0 ∧ n = n0 ∧ I = I0 ∧ L = L0 ∧ P = P0

theorem q_callV {M : BqM} {fr lo kc ks pc : Nat} {vs : List (Option Value)} {st : List Value} {S : BqH} {n : Nat} {I : BqI} {L : BqL} {P : BqP} {post : BqQ} {N0 : BqM} {o ci z : Nat} {idx k0 fr' lo' kc' ks' : Nat} {as st0 : List Value} {post' : BqQ} (hd : decode M.2.1 pc = .ok (.invokevirtual idx, 3)) (hw : bq_cV M.1.cls idx N0 k0) (hsp : bq_Sp N0 fr' lo' kc' ks' (.ref o :: as) S n I L P post') (hs : S o = (ci, z)) (hci : (vwCl[ci]?).map (fun q => q.1) = some N0.1.cls) (ho : o < n) (hr : fr' + 1 ≤ fr ∧ 8 + (N0.2.2.1 + 11) + lo' ≤ lo) (hk : as.length = k0) (hst : st0 = as.reverse ++ .ref o :: st) (hW : (st.map fun v => v.category).sum ≤ 8) (kk : ∀ (r : Option Value) (S' : BqH) (n' : Nat) (I' : BqI) (L' : BqL) (P' : BqP), post' r S' n' I' L' P' → bq_W M fr lo kc ks (pc + 3) vs (r.toList ++ st) S' n' I' L' P' post) : bq_W M fr lo (kc + kc') (ks + ks') pc vs st0 S n I L P post := by
  intro l D b p e R s m args below meth c H locs cells slots mc ms ls C N hR hS hL
  have hts := C.2.2.2.2.2.1
  have hroom : cells + kc' ≤ R.cells ∧ slots + ks' ≤ R.slots := ⟨by have := N.2.2.1; have := N.2.2.2.1; omega, by have := N.2.2.2.2.1; have := N.2.2.2.2.2; omega⟩
  have hrr : fr' + 1 ≤ R.frames ∧ 8 + (N0.2.2.1 + 11) + lo' ≤ R.locals := ⟨Nat.le_trans hr.1 N.1, Nat.le_trans hr.2 N.2.1⟩
  refine bq_call (rest := st.map (bq_cv b)) (va_runV (As := as.map (bq_cv b)) ⟨C.1, C.2.1, C.2.2.2.1, C.2.2.2.2.1, hts⟩ (hsp l D b) ⟨callB_of k0 hts (bq_goodIn hw.2.2.2.2.1) rfl rfl rfl (hts _ hw.2.2.2.1) (hts _ hw.1) hw.2.2.2.2.2 hrr, hts _ hw.2.1, hts _ hw.2.2.1⟩ ⟨bq_blind D b (.ref o :: as) S n I L P, bq_recv C.2.2.2.2.2.2.2.2 hR ho hs hci, fun U hU hW => ⟨rfl, C.2.2.2.2.2.2.2.2.warm hW, by rw [hU]; exact hR.moved hW.alike⟩⟩ rfl (by rw [List.length_map]; exact hk) hL.1 (bq_stk hst) (lv_room (by rw [bq_catM]; exact hW)) hd hroom) hS (fun r S' n' I' L' P' H1 locs1 hp hR1 hS1 => ?_)
  have h := kk r S' n' I' L' P' hp l D b p e R s m args below meth c H1 locs1 (cells + kc') (slots + ks') mc ms ls C ⟨N.1, N.2.1, by have := N.2.2.1; omega, N.2.2.2.1, by have := N.2.2.2.2.1; omega, N.2.2.2.2.2⟩ hR1 hS1 hL
  rw [bq_res] at h
  exact h
theorem q_callVF {M : BqM} {fr lo kc ks pc : Nat} {vs : List (Option Value)} {st : List Value} {S : BqH} {n : Nat} {I : BqI} {L : BqL} {P : BqP} {post : BqQ} {N0 : BqM} {o ci z : Nat} {idx k0 fr' lo' kc' ks' : Nat} {as st0 : List Value} {r1 : Option Value} {S1 : BqH} {n1 : Nat} {I1 : BqI} {L1 : BqL} {P1 : BqP} (hd : decode M.2.1 pc = .ok (.invokevirtual idx, 3)) (hw : bq_cV M.1.cls idx N0 k0) (hsp : bq_Sp N0 fr' lo' kc' ks' (.ref o :: as) S n I L P (bq_F r1 S1 n1 I1 L1 P1)) (hs : S o = (ci, z)) (hci : (vwCl[ci]?).map (fun q => q.1) = some N0.1.cls) (ho : o < n) (hr : fr' + 1 ≤ fr ∧ 8 + (N0.2.2.1 + 11) + lo' ≤ lo) (hk : as.length = k0) (hst : st0 = as.reverse ++ .ref o :: st) (hW : (st.map fun v => v.category).sum ≤ 8) (kk : bq_W M fr lo kc ks (pc + 3) vs (r1.toList ++ st) S1 n1 I1 L1 P1 post) : bq_W M fr lo (kc + kc') (ks + ks') pc vs st0 S n I L P post :=
  q_callV hd hw hsp hs hci ho hr hk hst hW (fun r S' n' I' L' P' h => by obtain ⟨rfl, rfl, rfl, rfl, rfl, rfl⟩ := h; exact kk)

theorem q_callS {M : BqM} {fr lo kc ks pc : Nat} {vs : List (Option Value)} {st : List Value} {S : BqH} {n : Nat} {I : BqI} {L : BqL} {P : BqP} {post : BqQ} {N0 : BqM}  {idx k0 fr' lo' kc' ks' : Nat} {as st0 : List Value} {post' : BqQ} (hd : decode M.2.1 pc = .ok (.invokestatic idx, 3)) (hw : bq_cS M.1.cls idx N0 k0) (hsp : bq_Sp N0 fr' lo' kc' ks' as S n I L P post')  (hr : fr' + 1 ≤ fr ∧ 8 + (N0.2.2.1 + 11) + lo' ≤ lo) (hk : as.length = k0) (hst : st0 = as.reverse ++ st) (hW : (st.map fun v => v.category).sum ≤ 8) (kk : ∀ (r : Option Value) (S' : BqH) (n' : Nat) (I' : BqI) (L' : BqL) (P' : BqP), post' r S' n' I' L' P' → bq_W M fr lo kc ks (pc + 3) vs (r.toList ++ st) S' n' I' L' P' post) : bq_W M fr lo (kc + kc') (ks + ks') pc vs st0 S n I L P post := by
  intro l D b p e R s m args below meth c H locs cells slots mc ms ls C N hR hS hL
  have hts := C.2.2.2.2.2.1
  have hroom : cells + kc' ≤ R.cells ∧ slots + ks' ≤ R.slots := ⟨by have := N.2.2.1; have := N.2.2.2.1; omega, by have := N.2.2.2.2.1; have := N.2.2.2.2.2; omega⟩
  have hrr : fr' + 1 ≤ R.frames ∧ 8 + (N0.2.2.1 + 11) + lo' ≤ R.locals := ⟨Nat.le_trans hr.1 N.1, Nat.le_trans hr.2 N.2.1⟩
  refine bq_call (rest := st.map (bq_cv b)) (va_runS (As := as.map (bq_cv b)) ⟨C.1, C.2.1, C.2.2.2.1, C.2.2.2.2.1, hts⟩ (hsp l D b) ⟨callB_of k0 hts (bq_goodIn hw.2.2.2.1) rfl rfl rfl (hts _ hw.2.2.1) (hts _ hw.1) hw.2.2.2.2 hrr, hts _ hw.2.1⟩ ⟨bq_blind D b as S n I L P, fun U hU hW => ⟨rfl, C.2.2.2.2.2.2.2.2.warm hW, by rw [hU]; exact hR.moved hW.alike⟩⟩ rfl (by rw [List.length_map]; exact hk) hL.1 (bq_stk hst) (lv_room (by rw [bq_catM]; exact hW)) hd hroom) hS (fun r S' n' I' L' P' H1 locs1 hp hR1 hS1 => ?_)
  have h := kk r S' n' I' L' P' hp l D b p e R s m args below meth c H1 locs1 (cells + kc') (slots + ks') mc ms ls C ⟨N.1, N.2.1, by have := N.2.2.1; omega, N.2.2.2.1, by have := N.2.2.2.2.1; omega, N.2.2.2.2.2⟩ hR1 hS1 hL
  rw [bq_res] at h
  exact h
theorem q_callSF {M : BqM} {fr lo kc ks pc : Nat} {vs : List (Option Value)} {st : List Value} {S : BqH} {n : Nat} {I : BqI} {L : BqL} {P : BqP} {post : BqQ} {N0 : BqM}  {idx k0 fr' lo' kc' ks' : Nat} {as st0 : List Value} {r1 : Option Value} {S1 : BqH} {n1 : Nat} {I1 : BqI} {L1 : BqL} {P1 : BqP} (hd : decode M.2.1 pc = .ok (.invokestatic idx, 3)) (hw : bq_cS M.1.cls idx N0 k0) (hsp : bq_Sp N0 fr' lo' kc' ks' as S n I L P (bq_F r1 S1 n1 I1 L1 P1))  (hr : fr' + 1 ≤ fr ∧ 8 + (N0.2.2.1 + 11) + lo' ≤ lo) (hk : as.length = k0) (hst : st0 = as.reverse ++ st) (hW : (st.map fun v => v.category).sum ≤ 8) (kk : bq_W M fr lo kc ks (pc + 3) vs (r1.toList ++ st) S1 n1 I1 L1 P1 post) : bq_W M fr lo (kc + kc') (ks + ks') pc vs st0 S n I L P post :=
  q_callS hd hw hsp  hr hk hst hW (fun r S' n' I' L' P' h => by obtain ⟨rfl, rfl, rfl, rfl, rfl, rfl⟩ := h; exact kk)

theorem q_callI {M : BqM} {fr lo kc ks pc : Nat} {vs : List (Option Value)} {st : List Value} {S : BqH} {n : Nat} {I : BqI} {L : BqL} {P : BqP} {post : BqQ} {y0 : MethodName} {b0 : ByteArray} {l0 : Nat} {o : Nat} {idx k0 fr' lo' kc' ks' : Nat} {as st0 : List Value} {post' : BqQ} (hd : decode M.2.1 pc = .ok (.invokespecial idx, 3)) (hw : bq_cI M.1.cls idx (y0, b0, l0, none) k0) (hsp : bq_Sp (y0, b0, l0, none) fr' lo' kc' ks' (.ref o :: as) S n I L P post')  (hr : fr' + 1 ≤ fr ∧ 8 + (l0 + 11) + lo' ≤ lo) (hk : as.length = k0) (hst : st0 = as.reverse ++ .ref o :: st) (hW : (st.map fun v => v.category).sum ≤ 8) (kk : ∀ (r : Option Value) (S' : BqH) (n' : Nat) (I' : BqI) (L' : BqL) (P' : BqP), post' r S' n' I' L' P' → bq_W M fr lo kc ks (pc + 3) vs (r.toList ++ st) S' n' I' L' P' post) : bq_W M fr lo (kc + kc') (ks + ks') pc vs st0 S n I L P post := by
  intro l D b p e R s m args below meth c H locs cells slots mc ms ls C N hR hS hL
  have hts := C.2.2.2.2.2.1
  have hroom : cells + kc' ≤ R.cells ∧ slots + ks' ≤ R.slots := ⟨by have := N.2.2.1; have := N.2.2.2.1; omega, by have := N.2.2.2.2.1; have := N.2.2.2.2.2; omega⟩
  have hrr : fr' + 1 ≤ R.frames ∧ 8 + (l0 + 11) + lo' ≤ R.locals := ⟨Nat.le_trans hr.1 N.1, Nat.le_trans hr.2 N.2.1⟩
  refine bq_call (rest := st.map (bq_cv b)) (va_runI (As := as.map (bq_cv b)) ⟨C.1, C.2.1, C.2.2.2.1, C.2.2.2.2.1, hts⟩ (hsp l D b) ⟨callB_of k0 hts (bq_goodIn hw.2.2.2.2.1) rfl rfl rfl (hts _ hw.2.2.2.1) (hts _ hw.1) hw.2.2.2.2.2 hrr, hw.2.2.1, hts _ hw.2.1⟩ ⟨bq_blind D b (.ref o :: as) S n I L P, fun U hU hW => ⟨rfl, C.2.2.2.2.2.2.2.2.warm hW, by rw [hU]; exact hR.moved hW.alike⟩⟩ rfl (by rw [List.length_map]; exact hk) hL.1 (bq_stk hst) (lv_room (by rw [bq_catM]; exact hW)) hd hroom) hS (fun r S' n' I' L' P' H1 locs1 hp hR1 hS1 => ?_)
  have h := kk r S' n' I' L' P' hp l D b p e R s m args below meth c H1 locs1 (cells + kc') (slots + ks') mc ms ls C ⟨N.1, N.2.1, by have := N.2.2.1; omega, N.2.2.2.1, by have := N.2.2.2.2.1; omega, N.2.2.2.2.2⟩ hR1 hS1 hL
  rw [bq_res] at h
  exact h
theorem q_callIF {M : BqM} {fr lo kc ks pc : Nat} {vs : List (Option Value)} {st : List Value} {S : BqH} {n : Nat} {I : BqI} {L : BqL} {P : BqP} {post : BqQ} {y0 : MethodName} {b0 : ByteArray} {l0 : Nat} {o : Nat} {idx k0 fr' lo' kc' ks' : Nat} {as st0 : List Value} {r1 : Option Value} {S1 : BqH} {n1 : Nat} {I1 : BqI} {L1 : BqL} {P1 : BqP} (hd : decode M.2.1 pc = .ok (.invokespecial idx, 3)) (hw : bq_cI M.1.cls idx (y0, b0, l0, none) k0) (hsp : bq_Sp (y0, b0, l0, none) fr' lo' kc' ks' (.ref o :: as) S n I L P (bq_F r1 S1 n1 I1 L1 P1))  (hr : fr' + 1 ≤ fr ∧ 8 + (l0 + 11) + lo' ≤ lo) (hk : as.length = k0) (hst : st0 = as.reverse ++ .ref o :: st) (hW : (st.map fun v => v.category).sum ≤ 8) (kk : bq_W M fr lo kc ks (pc + 3) vs (r1.toList ++ st) S1 n1 I1 L1 P1 post) : bq_W M fr lo (kc + kc') (ks + ks') pc vs st0 S n I L P post :=
  q_callI hd hw hsp  hr hk hst hW (fun r S' n' I' L' P' h => by obtain ⟨rfl, rfl, rfl, rfl, rfl, rfl⟩ := h; exact kk)

theorem q_callT {M : BqM} {fr lo kc ks pc : Nat} {vs : List (Option Value)} {st : List Value} {S : BqH} {n : Nat} {I : BqI} {L : BqL} {P : BqP} {post : BqQ} {N0 : BqM}  {idx k0 fr' lo' kc' ks' : Nat} {as st0 : List Value} {post' : BqQ} (hd : decode M.2.1 pc = .ok (.invokestatic idx, 3)) (hw : bq_cT M.1.cls idx N0 k0) (hsp : bq_Sp N0 fr' lo' kc' ks' as S n I L P post')  (hr : fr' + 1 ≤ fr ∧ 8 + (N0.2.2.1 + 11) + lo' ≤ lo) (hk : as.length = k0) (hst : st0 = as.reverse ++ st) (hW : (st.map fun v => v.category).sum ≤ 8) (kk : ∀ (r : Option Value) (S' : BqH) (n' : Nat) (I' : BqI) (L' : BqL) (P' : BqP), post' r S' n' I' L' P' → bq_W M fr lo kc ks (pc + 3) vs (r.toList ++ st) S' n' I' L' P' post) : bq_W M fr lo (kc + kc') (ks + ks') pc vs st0 S n I L P post := by
  intro l D b p e R s m args below meth c H locs cells slots mc ms ls C N hR hS hL
  have hts := C.2.2.2.2.2.1
  have hroom : cells + kc' ≤ R.cells ∧ slots + ks' ≤ R.slots := ⟨by have := N.2.2.1; have := N.2.2.2.1; omega, by have := N.2.2.2.2.1; have := N.2.2.2.2.2; omega⟩
  have hrr : fr' + 1 ≤ R.frames ∧ 8 + (N0.2.2.1 + 11) + lo' ≤ R.locals := ⟨Nat.le_trans hr.1 N.1, Nat.le_trans hr.2 N.2.1⟩
  refine bq_call (rest := st.map (bq_cv b)) (va_runSN (As := as.map (bq_cv b)) ⟨C.1, C.2.1, C.2.2.2.1, C.2.2.2.2.1, hts⟩ (hsp l D b) ⟨va_cnB k0 hts (bq_goodIn hw.2.2.2.1) rfl rfl rfl (C.2.2.2.2.2.2.2.2.2.1 _ hw.1) (hts _ hw.2.2.1) hw.2.2.2.2 hrr, hts _ hw.2.1, trivial⟩ ⟨bq_blind D b as S n I L P, fun U hU hW => ⟨rfl, C.2.2.2.2.2.2.2.2.warm hW, by rw [hU]; exact hR.moved hW.alike⟩⟩ rfl (by rw [List.length_map]; exact hk) hL.1 (bq_stk hst) (lv_room (by rw [bq_catM]; exact hW)) hd hroom) hS (fun r S' n' I' L' P' H1 locs1 hp hR1 hS1 => ?_)
  have h := kk r S' n' I' L' P' hp l D b p e R s m args below meth c H1 locs1 (cells + kc') (slots + ks') mc ms ls C ⟨N.1, N.2.1, by have := N.2.2.1; omega, N.2.2.2.1, by have := N.2.2.2.2.1; omega, N.2.2.2.2.2⟩ hR1 hS1 hL
  rw [bq_res] at h
  exact h
theorem q_callTF {M : BqM} {fr lo kc ks pc : Nat} {vs : List (Option Value)} {st : List Value} {S : BqH} {n : Nat} {I : BqI} {L : BqL} {P : BqP} {post : BqQ} {N0 : BqM}  {idx k0 fr' lo' kc' ks' : Nat} {as st0 : List Value} {r1 : Option Value} {S1 : BqH} {n1 : Nat} {I1 : BqI} {L1 : BqL} {P1 : BqP} (hd : decode M.2.1 pc = .ok (.invokestatic idx, 3)) (hw : bq_cT M.1.cls idx N0 k0) (hsp : bq_Sp N0 fr' lo' kc' ks' as S n I L P (bq_F r1 S1 n1 I1 L1 P1))  (hr : fr' + 1 ≤ fr ∧ 8 + (N0.2.2.1 + 11) + lo' ≤ lo) (hk : as.length = k0) (hst : st0 = as.reverse ++ st) (hW : (st.map fun v => v.category).sum ≤ 8) (kk : bq_W M fr lo kc ks (pc + 3) vs (r1.toList ++ st) S1 n1 I1 L1 P1 post) : bq_W M fr lo (kc + kc') (ks + ks') pc vs st0 S n I L P post :=
  q_callT hd hw hsp  hr hk hst hW (fun r S' n' I' L' P' h => by obtain ⟨rfl, rfl, rfl, rfl, rfl, rfl⟩ := h; exact kk)

theorem q_callJ {M : BqM} {fr lo kc ks pc : Nat} {vs : List (Option Value)} {st : List Value} {S : BqH} {n : Nat} {I : BqI} {L : BqL} {P : BqP} {post : BqQ} {y0 : MethodName} {b0 : ByteArray} {l0 : Nat} {o : Nat} {idx k0 fr' lo' kc' ks' : Nat} {as st0 : List Value} {post' : BqQ} (hd : decode M.2.1 pc = .ok (.invokespecial idx, 3)) (hw : bq_cJ M.1.cls idx (y0, b0, l0, none) k0) (hsp : bq_Sp (y0, b0, l0, none) fr' lo' kc' ks' (.ref o :: as) S n I L P post')  (hr : fr' + 1 ≤ fr ∧ 8 + (l0 + 11) + lo' ≤ lo) (hk : as.length = k0) (hst : st0 = as.reverse ++ .ref o :: st) (hW : (st.map fun v => v.category).sum ≤ 8) (kk : ∀ (r : Option Value) (S' : BqH) (n' : Nat) (I' : BqI) (L' : BqL) (P' : BqP), post' r S' n' I' L' P' → bq_W M fr lo kc ks (pc + 3) vs (r.toList ++ st) S' n' I' L' P' post) : bq_W M fr lo (kc + kc') (ks + ks') pc vs st0 S n I L P post := by
  intro l D b p e R s m args below meth c H locs cells slots mc ms ls C N hR hS hL
  have hts := C.2.2.2.2.2.1
  have hroom : cells + kc' ≤ R.cells ∧ slots + ks' ≤ R.slots := ⟨by have := N.2.2.1; have := N.2.2.2.1; omega, by have := N.2.2.2.2.1; have := N.2.2.2.2.2; omega⟩
  have hrr : fr' + 1 ≤ R.frames ∧ 8 + (l0 + 11) + lo' ≤ R.locals := ⟨Nat.le_trans hr.1 N.1, Nat.le_trans hr.2 N.2.1⟩
  refine bq_call (rest := st.map (bq_cv b)) (va_runIN (As := as.map (bq_cv b)) ⟨C.1, C.2.1, C.2.2.2.1, C.2.2.2.2.1, hts⟩ (hsp l D b) ⟨va_cnB k0 hts (bq_goodIn hw.2.2.2.2.1) rfl rfl rfl (C.2.2.2.2.2.2.2.2.2.1 _ hw.1) (hts _ hw.2.2.2.1) hw.2.2.2.2.2 hrr, hw.2.2.1, hts _ hw.2.1⟩ ⟨bq_blind D b (.ref o :: as) S n I L P, fun U hU hW => ⟨rfl, C.2.2.2.2.2.2.2.2.warm hW, by rw [hU]; exact hR.moved hW.alike⟩⟩ rfl (by rw [List.length_map]; exact hk) hL.1 (bq_stk hst) (lv_room (by rw [bq_catM]; exact hW)) hd hroom) hS (fun r S' n' I' L' P' H1 locs1 hp hR1 hS1 => ?_)
  have h := kk r S' n' I' L' P' hp l D b p e R s m args below meth c H1 locs1 (cells + kc') (slots + ks') mc ms ls C ⟨N.1, N.2.1, by have := N.2.2.1; omega, N.2.2.2.1, by have := N.2.2.2.2.1; omega, N.2.2.2.2.2⟩ hR1 hS1 hL
  rw [bq_res] at h
  exact h
theorem q_callJF {M : BqM} {fr lo kc ks pc : Nat} {vs : List (Option Value)} {st : List Value} {S : BqH} {n : Nat} {I : BqI} {L : BqL} {P : BqP} {post : BqQ} {y0 : MethodName} {b0 : ByteArray} {l0 : Nat} {o : Nat} {idx k0 fr' lo' kc' ks' : Nat} {as st0 : List Value} {r1 : Option Value} {S1 : BqH} {n1 : Nat} {I1 : BqI} {L1 : BqL} {P1 : BqP} (hd : decode M.2.1 pc = .ok (.invokespecial idx, 3)) (hw : bq_cJ M.1.cls idx (y0, b0, l0, none) k0) (hsp : bq_Sp (y0, b0, l0, none) fr' lo' kc' ks' (.ref o :: as) S n I L P (bq_F r1 S1 n1 I1 L1 P1))  (hr : fr' + 1 ≤ fr ∧ 8 + (l0 + 11) + lo' ≤ lo) (hk : as.length = k0) (hst : st0 = as.reverse ++ .ref o :: st) (hW : (st.map fun v => v.category).sum ≤ 8) (kk : bq_W M fr lo kc ks (pc + 3) vs (r1.toList ++ st) S1 n1 I1 L1 P1 post) : bq_W M fr lo (kc + kc') (ks + ks') pc vs st0 S n I L P post :=
  q_callJ hd hw hsp  hr hk hst hW (fun r S' n' I' L' P' h => by obtain ⟨rfl, rfl, rfl, rfl, rfl, rfl⟩ := h; exact kk)

theorem q_objInit {M : BqM} {fr lo kc ks pc : Nat} {vs : List (Option Value)} {st : List Value} {S : BqH} {n : Nat} {I : BqI} {L : BqL} {P : BqP} {post : BqQ} {idx a : Nat} (hd : decode M.2.1 pc = .ok (.invokespecial idx, 3)) (hw : Cond.methodLink M.1.cls idx objectInit ∈ bq_TB ∧ Cond.instanceMethod objectInit ∈ bq_TB ∧ Cond.code objectInit ⟨#[0xb1]⟩ 1 none ∈ bq_TB) (hr : 1 ≤ fr ∧ (st.map fun v => v.category).sum + 12 ≤ lo) (kk : bq_W M fr lo kc ks (pc + 3) vs st S n I L P post) : bq_W M fr lo kc ks pc vs (.ref a :: st) S n I L P post := by
  intro l D b p e R s m args below meth c H locs cells slots mc ms ls C N hR hS hL
  have hts := C.2.2.2.2.2.1
  exact W.objInit (rest := st.map (bq_cv b)) C.1 C.2.1 C.2.2.2.2.1 (hts _ hw.1) (hts _ hw.2.1) (hts _ hw.2.2) rfl (hL.1.trans C.2.2.2.1.symm) rfl hd (Nat.le_trans hr.1 N.1) (by rw [bq_catM]; have := hr.2; have := N.2.1; show 2 * 0 + _ + 12 ≤ _; omega) (kk l D b p e R s m args below meth c H locs cells slots mc ms ls C N hR hS hL)
/-- the entry of a method -/
def bq_al : List Value → List (Option Value)
  | [] => []
  | .long x :: t => some (.long x) :: none :: bq_al t
  | v :: t => some v :: bq_al t
def bq_ent (as : List Value) (k : Nat) : List (Option Value) := bq_al as ++ List.replicate (k - (bq_al as).length) none
theorem bq_al_args (b : Nat) : ∀ (as : List Value), (∀ v ∈ as, ∀ z, v ≠ .double z) → ∀ (k i : Nat) (v : Value), (bq_al as)[i]? = some (some v) → (k + i, bq_cv b v) ∈ lv_args k (as.map (bq_cv b))
  | [], _, k, i, v, h => by simp [bq_al] at h
  | a :: t, hd, k, i, v, h => by
    have ih := bq_al_args b t (fun v hv => hd v (List.mem_cons_of_mem _ hv))
    by_cases hl : ∃ x, a = .long x
    · obtain ⟨x, rfl⟩ := hl
      show (k + i, bq_cv b v) ∈ (k, bq_cv b (.long x)) :: lv_args (if (bq_cv b (.long x)).category = 2 then k + 2 else k + 1) (t.map (bq_cv b))
      rw [bq_cat, show (Value.long x).category = 2 from rfl, if_pos rfl]
      match i, h with
      | 0, h => simp [bq_al] at h; subst h; exact List.mem_cons_self
      | 1, h => simp [bq_al] at h
      | i + 2, h =>
        simp only [bq_al, List.getElem?_cons_succ] at h
        have := ih (k + 2) i v h
        rw [show k + (i + 2) = k + 2 + i by omega]
        exact List.mem_cons_of_mem _ this
    · have hc : a.category = 1 := by
        cases a <;> first | rfl | exact absurd ⟨_, rfl⟩ hl | exact absurd rfl (hd _ List.mem_cons_self _)
      have e : bq_al (a :: t) = some a :: bq_al t := by
        cases a <;> first | rfl | exact absurd ⟨_, rfl⟩ hl
      show (k + i, bq_cv b v) ∈ (k, bq_cv b a) :: lv_args (if (bq_cv b a).category = 2 then k + 2 else k + 1) (t.map (bq_cv b))
      rw [bq_cat, hc, if_neg (by decide)]
      rw [e] at h
      match i, h with
      | 0, h => simp at h; subst h; exact List.mem_cons_self
      | i + 1, h =>
        simp only [List.getElem?_cons_succ] at h
        have := ih (k + 1) i v h
        rw [show k + (i + 1) = k + 1 + i by omega]
        exact List.mem_cons_of_mem _ this
theorem bq_sl (b : Nat) : ∀ (as : List Value), (lg_sl (as.map (bq_cv b))).length = (as.map fun v => v.category).sum
  | [] => rfl
  | a :: t => by
    have e : lg_sl ((a :: t).map (bq_cv b)) = (if (bq_cv b a).category = 2 then [Slot.val (bq_cv b a), Slot.second] else [Slot.val (bq_cv b a)]) ++ lg_sl (t.map (bq_cv b)) := rfl
    rw [e, List.length_append, bq_sl b t, bq_cat, List.map_cons, List.sum_cons]
    rcases lv_cat a with h | h <;> rw [h] <;> simp
theorem q_entry {N0 : BqM} {fr lo kc ks : Nat} {as : List Value} {S : BqH} {n : Nat} {I : BqI} {L : BqL} {P : BqP} {post : BqQ} {vs : List (Option Value)} (hy : plainName N0.1.cls = true) (hd : ∀ v ∈ as, ∀ z, v ≠ .double z) (hw : (as.map fun v => v.category).sum ≤ N0.2.2.1) (hvs : bq_ent as N0.2.2.1 = vs) (k : bq_W N0 fr lo kc ks 0 vs [] S n I L P post) : bq_Sp N0 fr lo kc ks as S n I L P post := by
  intro l D b
  refine Met.ofW hy rfl ?_
  intro p e s m args below meth c s₁ B hml hv
  obtain ⟨rfl, hK, hR⟩ := hv
  have hts := atoms_spec (ws := Cond.code N0.1 N0.2.1 N0.2.2.1 N0.2.2.2 :: bq_TB) B.pre
  have hlen := bq_sl b as
  have hl := lv_entry (as.map (bq_cv b)) (n := N0.2.2.1) (by rw [hlen]; exact hw)
  rw [lg_entry_eq]
  refine k l D b p e _ s m _ below meth c s.heap [] 0 0 kc ks _ ⟨B.exec, B.bytes, B.returns, hml, findClass_of_methodNamed B.named, fun w hw => hts w (List.mem_cons_of_mem _ hw), B.notSynchronized, (name_of_methodNamed B.named B.method).1, hK⟩ ⟨Nat.le_refl _, Nat.le_refl _, Nat.le_of_eq (Nat.zero_add _), Nat.le_refl _, Nat.le_of_eq (Nat.zero_add _), Nat.le_refl _⟩ hR va_S.rf ⟨hl.1, hl.2.1, fun i v hi => ?_⟩
  rw [← hvs] at hi
  unfold bq_ent at hi
  have hi2 : (bq_al as)[i]? = some (some v) := by
    rcases Nat.lt_or_ge i (bq_al as).length with h | h
    · rw [List.getElem?_append_left h] at hi; exact hi
    · rw [List.getElem?_append_right h, List.getElem?_replicate] at hi
      split at hi <;> cases hi
  have hm := bq_al_args b as hd 0 i v hi2
  rw [Nat.zero_add] at hm
  exact hl.2.2 _ hm

