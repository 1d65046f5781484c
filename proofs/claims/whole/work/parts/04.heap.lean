theorem q_aret {M : BqM} {fr lo kc ks pc : Nat} {vs : List (Option Value)} {st : List Value} {S : BqH} {n : Nat} {I : BqI} {L : BqL} {P : BqP} {post : BqQ} {a : Nat} {X : String} (hd : decode M.2.1 pc = .ok (.areturn, 1)) (hr : M.2.2.2 = some (.object X)) (hp : post (some (.ref a)) S n I L P) : bq_W M fr lo kc ks pc vs [.ref a] S n I L P post := by
  intro l D b p e R s m args below meth c H locs cells slots mc ms ls C N hR hS hL
  refine W.widen (k := mc) (n := ms) (by have := N.2.2.1; omega) (by have := N.2.2.2.2.1; omega) ?_
  exact W.aret C.1 C.2.1 (C.2.2.1.trans hr) (Or.inl ⟨X, rfl⟩) (Or.inr ⟨_, rfl⟩) (fun t ht hW => ⟨some (.ref a), S, n, I, L, P, rfl, hp, by rw [ht]; exact hR.moved hW.alike, hS.F ht⟩) hS.2.2 hd C.2.2.2.2.2.2.1
theorem q_aretN {M : BqM} {fr lo kc ks pc : Nat} {vs : List (Option Value)} {st : List Value} {S : BqH} {n : Nat} {I : BqI} {L : BqL} {P : BqP} {post : BqQ} {X : String} (hd : decode M.2.1 pc = .ok (.areturn, 1)) (hr : M.2.2.2 = some (.object X)) (hp : post (some .null) S n I L P) : bq_W M fr lo kc ks pc vs [.null] S n I L P post := by
  intro l D b p e R s m args below meth c H locs cells slots mc ms ls C N hR hS hL
  refine W.widen (k := mc) (n := ms) (by have := N.2.2.1; omega) (by have := N.2.2.2.2.1; omega) ?_
  exact W.aret C.1 C.2.1 (C.2.2.1.trans hr) (Or.inl ⟨X, rfl⟩) (Or.inl rfl) (fun t ht hW => ⟨some .null, S, n, I, L, P, rfl, hp, by rw [ht]; exact hR.moved hW.alike, hS.F ht⟩) hS.2.2 hd C.2.2.2.2.2.2.1
theorem bq_cls : ∀ (ci : Nat) (C : String) (T : u_T) (N : Nat), vwCl[ci]? = some (C, T, N) → (∀ k, k < N → parseFieldDescriptor (T k).2.2.1 = some (bq_fty ci k)) ∧ ∀ a, a < N → ∀ b, b < N → a ≠ b → (T a).2.1 ≠ (T b).2.1 := by
  intro ci C T N h
  match ci, h with
  | 0, h => cases h; exact ⟨tyX0_ok, nmX0⟩
  | 1, h => cases h; exact ⟨tyX1_ok, nmX1⟩
  | 2, h => cases h; exact ⟨tyX2_ok, nmX2⟩
  | 3, h => cases h; exact ⟨tyX3_ok, nmX3⟩
  | 4, h => cases h; exact ⟨tyX4_ok, nmX4⟩
  | 5, h => cases h; exact ⟨tyX5_ok, nmX5⟩
  | 6, h => cases h; exact ⟨tyX6_ok, nmX6⟩
  | 7, h => cases h; exact ⟨tyX7_ok, nmX7⟩
  | 8, h => cases h; exact ⟨tyX8_ok, nmX8⟩
  | 9, h => cases h; exact ⟨tyX9_ok, nmX9⟩
  | 10, h => cases h; exact ⟨tyX10_ok, nmX10⟩
  | 11, h => cases h; exact ⟨tyX11_ok, nmX11⟩
  | 12, h => cases h; exact ⟨tyX12_ok, nmX12⟩
  | k + 13, h => simp at h
def bq_fl (own : String) (idx ci k : Nat) : Prop := ∃ (C : String) (T : u_T) (N : Nat), vwCl[ci]? = some (C, T, N) ∧ k < N ∧ (∀ w ∈ u_ws C T N, w ∈ bq_TB) ∧ Cond.fieldLink own idx (T k).1 (T k).2.1 (T k).2.2.1 ∈ bq_TB
def bq_fp (own name : String) (idx ci k : Nat) : Prop := ∃ (C : String) (T : u_T) (N : Nat), vwCl[ci]? = some (C, T, N) ∧ k < N ∧ (∀ w ∈ u_ws C T N, w ∈ bq_TB) ∧ Cond.fieldLink own idx (T k).1 (T k).2.1 (T k).2.2.1 ∈ bq_TB ∧ ((T k).2.2.2 = false ∨ ((T k).2.2.2 = true ∧ name = "<init>" ∧ (T k).1 = own))
theorem q_getG {M : BqM} {fr lo kc ks pc : Nat} {vs : List (Option Value)} {st : List Value} {S : BqH} {n : Nat} {I : BqI} {L : BqL} {P : BqP} {post : BqQ} {idx o ci z k : Nat} (v : Value) (hd : decode M.2.1 pc = .ok (.getfield idx, 3)) (hf : bq_fl M.1.cls idx ci k) (hs : S o = (ci, z)) (hc : ci < 13) (ho : o < n) (hv : ∀ b, bq_vf ci b I L P o k = bq_cv b v) (kk : bq_W M fr lo kc ks (pc + 3) vs (v :: st) S n I L P post) : bq_W M fr lo kc ks pc vs (.ref o :: st) S n I L P post := by
  intro l D b p e R s m args below meth c H locs cells slots mc ms ls C N hR hS hL
  obtain ⟨C1, T, N1, e1, e2, e3, e4⟩ := hf
  have hcell := hR.2 o ho
  rw [hs] at hcell
  obtain ⟨r, h1, cell, q1, q2, q3, q4⟩ := hcell.1 hc
  have hr : r = (C1, T, N1) := Option.some.inj (h1.symm.trans e1)
  subst hr
  obtain ⟨hSl, hfc, kC, hkC, hkind⟩ := C.2.2.2.2.2.2.2.2.1.1 ci _ e1
  obtain ⟨cf, kf, fi, f, hi, hsl⟩ := hSl k e2
  have hts := C.2.2.2.2.2.1
  refine W.getf C.1 C.2.1 C.2.2.2.2.1 (hts _ e4) hi (u_facts hfc hkC (u_lays hts e3 e2) hi).1 q1 (by rw [q3]; exact fun h => by cases h) (v := bq_cv b v) ?_ rfl rfl hd (kk l D b p e R s m args below meth c H locs cells slots mc ms ls C N hR hS hL)
  rw [hsl, q4 k e2, hv b]
theorem q_getI {M : BqM} {fr lo kc ks pc : Nat} {vs : List (Option Value)} {st : List Value} {S : BqH} {n : Nat} {I : BqI} {L : BqL} {P : BqP} {post : BqQ} {idx o ci z k : Nat} (hd : decode M.2.1 pc = .ok (.getfield idx, 3)) (hf : bq_fl M.1.cls idx ci k) (hs : S o = (ci, z)) (ht : (ci < 13) ∧ bq_tag (bq_fty ci k) = 0) (ho : o < n) (kk : bq_W M fr lo kc ks (pc + 3) vs (.int (I o k) :: st) S n I L P post) : bq_W M fr lo kc ks pc vs (.ref o :: st) S n I L P post :=
  q_getG (.int (I o k)) hd hf hs ht.1 ho (fun b => by unfold bq_vf bq_val; rw [ht.2]; rfl) kk
theorem q_getL {M : BqM} {fr lo kc ks pc : Nat} {vs : List (Option Value)} {st : List Value} {S : BqH} {n : Nat} {I : BqI} {L : BqL} {P : BqP} {post : BqQ} {idx o ci z k : Nat} (hd : decode M.2.1 pc = .ok (.getfield idx, 3)) (hf : bq_fl M.1.cls idx ci k) (hs : S o = (ci, z)) (ht : (ci < 13) ∧ bq_tag (bq_fty ci k) = 1) (ho : o < n) (kk : bq_W M fr lo kc ks (pc + 3) vs (.long (L o k) :: st) S n I L P post) : bq_W M fr lo kc ks pc vs (.ref o :: st) S n I L P post :=
  q_getG (.long (L o k)) hd hf hs ht.1 ho (fun b => by unfold bq_vf bq_val; rw [ht.2]; rfl) kk
theorem q_getP {M : BqM} {fr lo kc ks pc : Nat} {vs : List (Option Value)} {st : List Value} {S : BqH} {n : Nat} {I : BqI} {L : BqL} {P : BqP} {post : BqQ} {idx o ci z k q : Nat} (hd : decode M.2.1 pc = .ok (.getfield idx, 3)) (hf : bq_fl M.1.cls idx ci k) (hs : S o = (ci, z)) (ht : (ci < 13) ∧ bq_tag (bq_fty ci k) = 2) (ho : o < n) (hq : P o k = some q) (kk : bq_W M fr lo kc ks (pc + 3) vs (.ref q :: st) S n I L P post) : bq_W M fr lo kc ks pc vs (.ref o :: st) S n I L P post :=
  q_getG (.ref q) hd hf hs ht.1 ho (fun b => by unfold bq_vf bq_val; rw [ht.2, hq]; rfl) kk
def bq_u {α : Type} (f : Nat → Nat → α) (o k : Nat) (v : α) : Nat → Nat → α := fun a c => if a = o ∧ c = k then v else f a c
theorem q_putG {M : BqM} {fr lo kc ks pc : Nat} {vs : List (Option Value)} {st : List Value} {S : BqH} {n : Nat} {I : BqI} {L : BqL} {P : BqP} {post : BqQ} {idx o ci z k : Nat} (v : Value) (I' : BqI) (L' : BqL) (P' : BqP) (hd : decode M.2.1 pc = .ok (.putfield idx, 3)) (hf : bq_fp M.1.cls M.1.name idx ci k) (hs : S o = (ci, z)) (hc : ci < 13) (ho : o < n)
    (hv : ∀ b j, bq_vf ci b I' L' P' o j = if j = k then bq_cv b v else bq_vf ci b I L P o j) (hI : ∀ a, a ≠ o → I' a = I a) (hL' : ∀ a, a ≠ o → L' a = L a) (hP' : ∀ a, a ≠ o → P' a = P a)
    (hn : ∀ b, narrow (bq_fty ci k) (bq_cv b v) = bq_cv b v) (hfit : ∀ b, fits (bq_fty ci k) (bq_cv b v) = true) (kk : bq_W M fr lo kc ks (pc + 3) vs st S n I' L' P' post) : bq_W M fr lo kc ks pc vs (v :: .ref o :: st) S n I L P post := by
  intro l D b p e R s m args below meth c H locs cells slots mc ms ls C N hR hS hL
  obtain ⟨C1, T, N1, e1, e2, e3, e4, e5⟩ := hf
  have hcell := hR.2 o ho
  rw [hs] at hcell
  obtain ⟨r, h1, cell, q1, q2, q3, q4⟩ := hcell.1 hc
  have hr : r = (C1, T, N1) := Option.some.inj (h1.symm.trans e1)
  subst hr
  have hts := C.2.2.2.2.2.1
  have hK := C.2.2.2.2.2.2.2.2.1
  have hap := va_apart (own := M.1.cls) hts e3 (bq_fty ci) (bq_cls ci _ _ _ e1).1 (bq_cls ci _ _ _ e1).2 hK e1
  obtain ⟨hSl, hfc, kC, hkC, hkind⟩ := hK.1 ci _ e1
  obtain ⟨cf, kf, fi, f, hi, hsl⟩ := hSl k e2
  have hlay := hts _ (e3 _ (u_in_lay e2))
  have hst := (u_facts hfc hkC (u_lays hts e3 e2) hi).1
  have fin : ∀ H' : Heap, H'[b + o]? = some (cell.setSlot f.slot (bq_cv b v)) → H'.size = H.size → (∀ q, q ≠ b + o → H'[q]? = H[q]?) → W p l e R s m args below meth c H' (locs ++ [⟨b + o, f.slot⟩]) cells slots (MQ below (bq_Qc D b post) args s mc ms (fun q => b ≤ q)) (F0 m (pc + 3) ls (st.map (bq_cv b))) := by
    intro H' g1 g2 g3
    refine kk l D b p e R s m args below meth c H' _ cells slots mc ms ls C N ⟨g2.trans hR.1, fun a ha => ?_⟩ (hS.put g2 g3 (Nat.le_add_right b o)) hL
    by_cases hao : a = o
    · subst hao
      rw [hs]
      refine ⟨fun _ => ⟨_, e1, ?_⟩, fun h => by omega⟩
      rw [hsl] at g1
      exact t_OB.to (V := updV (bq_vf ci b I L P a) k (bq_cv b v)) ⟨_, g1, q2, q3, t_set q4 hap e2 (bq_cv b v)⟩ (fun j _ => by rw [hv b j]; rfl)
    · have h0 := (hR.2 a ha).kept (H' := H') (U' := s) (g3 (b + a) (by omega)) (Vm.Alike.refl _)
      refine ⟨fun h => ?_, fun h => ?_⟩
      · obtain ⟨r, h1, h2⟩ := h0.1 h
        exact ⟨r, h1, h2.to (fun j _ => by unfold bq_vf; rw [hI a hao, hL' a hao, hP' a hao])⟩
      · obtain ⟨h00, cA, h1, h2, h3⟩ := h0.2 h
        exact ⟨h00, cA, by rw [h1]; congr 1; unfold bq_va; rw [hI a hao, hL' a hao, hP' a hao], h2, h3⟩
  rcases e5 with e5 | ⟨e5, e6, e7⟩
  · unfold u_lay at hlay
    rw [if_neg (by rw [e5]; decide)] at hlay
    have h6 := u_store hfc hkC hkind hlay hi ((bq_cls ci _ _ _ e1).1 k e2) (hn b) (hfit b)
    exact W.putK C.1 C.2.1 (f := f) ⟨C.2.2.2.2.1, hts _ e4, ⟨_, _, _, hi⟩, hst⟩ (by rw [q2]; exact h6) q1 q3 (by rw [hsl]; exact k2_hasslot (q4 k e2)) rfl rfl hd fin
  · unfold u_lay at hlay
    rw [if_pos e5] at hlay
    have hcf : m.cls = cf := by
      obtain ⟨_, _, c', _, _, _, -, -, hf', -, -, -, hown2, -⟩ := Cond.laysFinal_spec hlay
      have e1 : c' = cf := by have := hi.symm.trans hf'; simp at this; exact this.1.symm
      rw [e7] at hown2
      rw [← e1]; exact Option.some.inj (C.2.2.2.2.1.symm.trans hown2)
    have h6 := u_fits hfc hkC hkind (Or.inr hlay) hi ((bq_cls ci _ _ _ e1).1 k e2) (hn b) (hfit b)
    exact W.putFinK C.1 C.2.1 C.2.2.2.2.1 (hts _ e4) hi hst hcf (C.2.2.2.2.2.2.2.1.trans e6) (by rw [q2]; exact h6) q1 q3 (by rw [hsl]; exact k2_hasslot (q4 k e2)) rfl rfl hd fin
theorem bq_u_ne {α : Type} {f : Nat → Nat → α} {o k a : Nat} {v : α} (h : a ≠ o) : bq_u f o k v a = f a := by funext c; unfold bq_u; rw [if_neg (fun q => h q.1)]
theorem q_putI {M : BqM} {fr lo kc ks pc : Nat} {vs : List (Option Value)} {st : List Value} {S : BqH} {n : Nat} {I : BqI} {L : BqL} {P : BqP} {post : BqQ} {idx o ci z k : Nat} {x : Int32} (hd : decode M.2.1 pc = .ok (.putfield idx, 3)) (hf : bq_fp M.1.cls M.1.name idx ci k) (hs : S o = (ci, z)) (ht : (ci < 13) ∧ bq_fty ci k = .int) (ho : o < n) (kk : bq_W M fr lo kc ks (pc + 3) vs st S n (bq_u I o k x) L P post) : bq_W M fr lo kc ks pc vs (.int x :: .ref o :: st) S n I L P post :=
  q_putG (.int x) (bq_u I o k x) L P hd hf hs ht.1 ho (fun b j => by
    by_cases hj : j = k
    · subst hj; unfold bq_vf bq_val; rw [ht.2]; simp [bq_u, bq_tag, bq_cv]
    · unfold bq_vf; simp [bq_u, hj]) (fun a h => bq_u_ne h) (fun _ _ => rfl) (fun _ _ => rfl) (fun b => by rw [ht.2]; rfl) (fun b => by rw [ht.2]; rfl) kk
theorem q_putZ {M : BqM} {fr lo kc ks pc : Nat} {vs : List (Option Value)} {st : List Value} {S : BqH} {n : Nat} {I : BqI} {L : BqL} {P : BqP} {post : BqQ} {idx o ci z k : Nat} {x : Int32} (hd : decode M.2.1 pc = .ok (.putfield idx, 3)) (hf : bq_fp M.1.cls M.1.name idx ci k) (hs : S o = (ci, z)) (ht : (ci < 13) ∧ bq_fty ci k = .boolean) (hz : x = 0 ∨ x = 1) (ho : o < n) (kk : bq_W M fr lo kc ks (pc + 3) vs st S n (bq_u I o k x) L P post) : bq_W M fr lo kc ks pc vs (.int x :: .ref o :: st) S n I L P post :=
  q_putG (.int x) (bq_u I o k x) L P hd hf hs ht.1 ho (fun b j => by
    by_cases hj : j = k
    · subst hj; unfold bq_vf bq_val; rw [ht.2]; simp [bq_u, bq_tag, bq_cv]
    · unfold bq_vf; simp [bq_u, hj]) (fun a h => bq_u_ne h) (fun _ _ => rfl) (fun _ _ => rfl) (fun b => by rw [ht.2]; rcases hz with rfl | rfl <;> rfl) (fun b => by rw [ht.2]; rcases hz with rfl | rfl <;> rfl) kk
theorem q_putL {M : BqM} {fr lo kc ks pc : Nat} {vs : List (Option Value)} {st : List Value} {S : BqH} {n : Nat} {I : BqI} {L : BqL} {P : BqP} {post : BqQ} {idx o ci z k : Nat} {x : Int64} (hd : decode M.2.1 pc = .ok (.putfield idx, 3)) (hf : bq_fp M.1.cls M.1.name idx ci k) (hs : S o = (ci, z)) (ht : (ci < 13) ∧ bq_fty ci k = .long) (ho : o < n) (kk : bq_W M fr lo kc ks (pc + 3) vs st S n I (bq_u L o k x) P post) : bq_W M fr lo kc ks pc vs (.long x :: .ref o :: st) S n I L P post :=
  q_putG (.long x) I (bq_u L o k x) P hd hf hs ht.1 ho (fun b j => by
    by_cases hj : j = k
    · subst hj; unfold bq_vf bq_val; rw [ht.2]; simp [bq_u, bq_tag, bq_cv]
    · unfold bq_vf; simp [bq_u, hj]) (fun _ _ => rfl) (fun a h => bq_u_ne h) (fun _ _ => rfl) (fun b => by rw [ht.2]; rfl) (fun b => by rw [ht.2]; rfl) kk
theorem q_putP {M : BqM} {fr lo kc ks pc : Nat} {vs : List (Option Value)} {st : List Value} {S : BqH} {n : Nat} {I : BqI} {L : BqL} {P : BqP} {post : BqQ} {idx o ci z k q : Nat} (hd : decode M.2.1 pc = .ok (.putfield idx, 3)) (hf : bq_fp M.1.cls M.1.name idx ci k) (hs : S o = (ci, z)) (ht : (ci < 13) ∧ bq_tag (bq_fty ci k) = 2) (ho : o < n) (kk : bq_W M fr lo kc ks (pc + 3) vs st S n I L (bq_u P o k (some q)) post) : bq_W M fr lo kc ks pc vs (.ref q :: .ref o :: st) S n I L P post :=
  q_putG (.ref q) I L (bq_u P o k (some q)) hd hf hs ht.1 ho (fun b j => by
    by_cases hj : j = k
    · subst hj; unfold bq_vf bq_val; rw [ht.2]; simp [bq_u, bq_cv, bq_rf]
    · unfold bq_vf; simp [bq_u, hj]) (fun _ _ => rfl) (fun _ _ => rfl) (fun a h => bq_u_ne h) (fun b => by have := ht.2; unfold bq_tag at this; cases h : bq_fty ci k <;> rw [h] at this <;> first | rfl | cases this) (fun b => by have := ht.2; unfold bq_tag at this; cases h : bq_fty ci k <;> rw [h] at this <;> first | rfl | cases this) kk

theorem bq_ni {j len : Nat} (hj : j < len) (hl : len < 2 ^ 31) (cA : ClassId) (f : Nat → Value) : ¬ (nI j < 0 ∨ (arrV cA len f).slots.size ≤ (nI j).toNatClampNeg) := by
  rw [arrV_size]; exact nI_in hj hl
theorem bq_ld {j len : Nat} (hj : j < len) (hl : len < 2 ^ 31) (cA : ClassId) (f : Nat → Value) : (arrV cA len f).slots[(nI j).toNatClampNeg]? = some (f j) := by
  rw [nI_clamp (by omega)]; exact arrV_read cA f hj
theorem q_iald {M : BqM} {fr lo kc ks pc : Nat} {vs : List (Option Value)} {st : List Value} {S : BqH} {n : Nat} {I : BqI} {L : BqL} {P : BqP} {post : BqQ} {o j len : Nat} {x : Int32} (hd : decode M.2.1 pc = .ok (.iaload, 1)) (hs : S o = (13, len)) (ho : o < n) (hx : x = nI j) (hj : j < len) (kk : bq_W M fr lo kc ks (pc + 1) vs (.int (I o j) :: st) S n I L P post) : bq_W M fr lo kc ks pc vs (.int x :: .ref o :: st) S n I L P post := by
  intro l D b p e R s m args below meth c H locs cells slots mc ms ls C N hR hS hL
  subst hx
  have hcell := hR.2 o ho
  rw [hs] at hcell
  obtain ⟨h0, cA, h1, h2, h3⟩ := hcell.2 (Nat.le_refl 13)
  exact W.iald (v := .int (I o j)) C.1 C.2.1 h1 (h2 _ _) (fun h => by cases h) (bq_ni hj h0 _ _) (bq_ld hj h0 _ _) rfl rfl hd (kk l D b p e R s m args below meth c H locs cells slots mc ms ls C N hR hS hL)
theorem q_bald {M : BqM} {fr lo kc ks pc : Nat} {vs : List (Option Value)} {st : List Value} {S : BqH} {n : Nat} {I : BqI} {L : BqL} {P : BqP} {post : BqQ} {o j len : Nat} {x : Int32} (hd : decode M.2.1 pc = .ok (.baload, 1)) (hs : S o = (14, len)) (ho : o < n) (hx : x = nI j) (hj : j < len) (kk : bq_W M fr lo kc ks (pc + 1) vs (.int (I o j) :: st) S n I L P post) : bq_W M fr lo kc ks pc vs (.int x :: .ref o :: st) S n I L P post := by
  intro l D b p e R s m args below meth c H locs cells slots mc ms ls C N hR hS hL
  subst hx
  have hcell := hR.2 o ho
  rw [hs] at hcell
  obtain ⟨h0, cA, h1, h2, h3⟩ := hcell.2 (by omega)
  exact W.zald (v := .int (I o j)) C.1 C.2.1 h1 (h2 _ _) (fun h => by cases h) (bq_ni hj h0 _ _) (bq_ld hj h0 _ _) rfl rfl hd (kk l D b p e R s m args below meth c H locs cells slots mc ms ls C N hR hS hL)
theorem bq_tyR {kd : Nat} (h : 15 ≤ kd) : ∃ X, bq_ty kd = .object X := by
  unfold bq_ty
  rw [if_neg (by omega), if_neg (by omega)]
  repeat' split
  all_goals exact ⟨_, rfl⟩
theorem q_aald {M : BqM} {fr lo kc ks pc : Nat} {vs : List (Option Value)} {st : List Value} {S : BqH} {n : Nat} {I : BqI} {L : BqL} {P : BqP} {post : BqQ} {o j len kd q : Nat} {x : Int32} (hd : decode M.2.1 pc = .ok (.aaload, 1)) (hs : S o = (kd, len)) (hk : 15 ≤ kd) (ho : o < n) (hx : x = nI j) (hj : j < len) (hq : P o j = some q) (kk : bq_W M fr lo kc ks (pc + 1) vs (.ref q :: st) S n I L P post) : bq_W M fr lo kc ks pc vs (.int x :: .ref o :: st) S n I L P post := by
  intro l D b p e R s m args below meth c H locs cells slots mc ms ls C N hR hS hL
  subst hx
  have hcell := hR.2 o ho
  rw [hs] at hcell
  obtain ⟨h0, cA, h1, h2, h3⟩ := hcell.2 (by show 13 ≤ kd; omega)
  obtain ⟨X, hX⟩ := bq_tyR hk
  refine W.aald (v := bq_cv b (.ref q)) C.1 C.2.1 h1 (h2 _ _) (by show (bq_ty kd).isReference = true; rw [hX]; rfl) (fun h => by cases h) (bq_ni hj h0 _ _) ?_ rfl rfl hd (kk l D b p e R s m args below meth c H locs cells slots mc ms ls C N hR hS hL)
  rw [bq_ld hj h0]
  show some (bq_va kd b I L P o j) = _
  unfold bq_va
  rw [hX, hq]
  rfl
/-- the cells behind a store into the array o -/
theorem bq_stored {D : va_G} {b : Nat} {s : State} {H H' : Heap} {S : BqH} {n : Nat} {I I' : BqI} {L : BqL} {P P' : BqP} {o kd len : Nat} {cA : ClassId} (hR : bq_R D b s H S n I L P) (hs : S o = (kd, len)) (hk : 13 ≤ kd) (h0 : len < 2 ^ 31) (h2 : ArrOfT s cA (bq_ty kd)) (h3 : va_RA s cA (bq_ty kd))
    (g1 : H'[b + o]? = some (arrV cA len (bq_va kd b I' L P' o))) (g2 : H'.size = H.size) (g3 : ∀ q, q ≠ b + o → H'[q]? = H[q]?) (hI : ∀ a, a ≠ o → I' a = I a) (hP : ∀ a, a ≠ o → P' a = P a) : bq_R D b s H' S n I' L P' := by
  refine ⟨g2.trans hR.1, fun a ha => ?_⟩
  by_cases hao : a = o
  · subst hao
    rw [hs]
    exact ⟨fun h => by omega, fun _ => ⟨h0, cA, g1, h2, h3⟩⟩
  · have h00 := (hR.2 a ha).kept (H' := H') (U' := s) (g3 (b + a) (by omega)) (Vm.Alike.refl _)
    refine ⟨fun h => ?_, fun h => ?_⟩
    · obtain ⟨r, h1, h2⟩ := h00.1 h
      exact ⟨r, h1, h2.to (fun j _ => by unfold bq_vf; rw [hI a hao, hP a hao])⟩
    · obtain ⟨h01, cA, h1, h2, h3⟩ := h00.2 h
      exact ⟨h01, cA, by rw [h1]; congr 1; unfold bq_va; rw [hI a hao, hP a hao], h2, h3⟩
theorem q_iast {M : BqM} {fr lo kc ks pc : Nat} {vs : List (Option Value)} {st : List Value} {S : BqH} {n : Nat} {I : BqI} {L : BqL} {P : BqP} {post : BqQ} {o j len : Nat} {x y : Int32} (hd : decode M.2.1 pc = .ok (.iastore, 1)) (hs : S o = (13, len)) (ho : o < n) (hx : x = nI j) (hj : j < len) (kk : bq_W M fr lo kc ks (pc + 1) vs st S n (bq_u I o j y) L P post) : bq_W M fr lo kc ks pc vs (.int y :: .int x :: .ref o :: st) S n I L P post := by
  intro l D b p e R s m args below meth c H locs cells slots mc ms ls C N hR hS hL
  subst hx
  have hcell := hR.2 o ho
  rw [hs] at hcell
  obtain ⟨h0, cA, h1, h2, h3⟩ := hcell.2 (Nat.le_refl 13)
  refine W.iast C.1 C.2.1 h1 (h2 _ _) (fun h => by cases h) (bq_ni hj h0 _ _) rfl rfl hd (fun H' g1 g2 g3 => kk l D b p e R s m args below meth c H' _ cells slots mc ms ls C N (bq_stored (I' := bq_u I o j y) (P' := P) hR hs (Nat.le_refl 13) h0 h2 h3 ?_ g2 g3 (fun a h => bq_u_ne h) (fun _ _ => rfl)) (hS.put g2 g3 (Nat.le_add_right b o)) hL)
  rw [g1, arrV_store, nI_clamp (by omega)]
  congr 2
  funext q
  by_cases hq : q = j
  · subst hq; simp [updV, bq_va, bq_val, bq_u, bq_ty, bq_tag]
  · simp [updV, bq_va, bq_u, hq]
theorem q_bast {M : BqM} {fr lo kc ks pc : Nat} {vs : List (Option Value)} {st : List Value} {S : BqH} {n : Nat} {I : BqI} {L : BqL} {P : BqP} {post : BqQ} {o j len : Nat} {x y : Int32} (hd : decode M.2.1 pc = .ok (.bastore, 1)) (hs : S o = (14, len)) (ho : o < n) (hx : x = nI j) (hj : j < len) (hz : y = 0 ∨ y = 1) (kk : bq_W M fr lo kc ks (pc + 1) vs st S n (bq_u I o j y) L P post) : bq_W M fr lo kc ks pc vs (.int y :: .int x :: .ref o :: st) S n I L P post := by
  intro l D b p e R s m args below meth c H locs cells slots mc ms ls C N hR hS hL
  subst hx
  have hcell := hR.2 o ho
  rw [hs] at hcell
  obtain ⟨h0, cA, h1, h2, h3⟩ := hcell.2 (by omega)
  refine W.zast C.1 C.2.1 h1 (h2 _ _) (fun h => by cases h) (bq_ni hj h0 _ _) rfl rfl hd (fun H' g1 g2 g3 => kk l D b p e R s m args below meth c H' _ cells slots mc ms ls C N (bq_stored (I' := bq_u I o j y) (P' := P) hR hs (by omega) h0 h2 h3 ?_ g2 g3 (fun a h => bq_u_ne h) (fun _ _ => rfl)) (hS.put g2 g3 (Nat.le_add_right b o)) hL)
  have hnz : narrow .boolean (.int y) = .int y := by rcases hz with rfl | rfl <;> rfl
  rw [g1, arrV_store, nI_clamp (by omega), hnz]
  congr 2
  funext q
  by_cases hq : q = j
  · subst hq; simp [updV, bq_va, bq_val, bq_u, bq_ty, bq_tag]
  · simp [updV, bq_va, bq_u, hq]
theorem q_aast {M : BqM} {fr lo kc ks pc : Nat} {vs : List (Option Value)} {st : List Value} {S : BqH} {n : Nat} {I : BqI} {L : BqL} {P : BqP} {post : BqQ} {o j len kd q z : Nat} {x : Int32} (hd : decode M.2.1 pc = .ok (.aastore, 1)) (hs : S o = (kd, len)) (hk : 15 ≤ kd) (ho : o < n) (hx : x = nI j) (hj : j < len) (hq : S q = (bq_ec kd, z)) (hqn : q < n) (kk : bq_W M fr lo kc ks (pc + 1) vs st S n I L (bq_u P o j (some q)) post) : bq_W M fr lo kc ks pc vs (.ref q :: .int x :: .ref o :: st) S n I L P post := by
  intro l D b p e R s m args below meth c H locs cells slots mc ms ls C N hR hS hL
  subst hx
  have hcell := hR.2 o ho
  rw [hs] at hcell
  obtain ⟨h0, cA, h1, h2, h3⟩ := hcell.2 (by show 13 ≤ kd; omega)
  have hec : bq_ec kd < 13 ∧ ∃ r : vw_C, vwCl[bq_ec kd]? = some r ∧ bq_ty kd = .object r.1 := by
    unfold bq_ec bq_ty
    rw [if_neg (show ¬ kd = 13 by omega), if_neg (show ¬ kd = 14 by omega)]
    repeat' split
    all_goals exact ⟨by omega, _, rfl, rfl⟩
  obtain ⟨hec, r, hr1, hr2⟩ := hec
  have hcq := hR.2 q hqn
  rw [hq] at hcq
  obtain ⟨r', hr', cellV, g1, g2, g3, -⟩ := hcq.1 hec
  have hK := C.2.2.2.2.2.2.2.2.1
  have hcls := (hK.1 _ r hr1).2
  rw [hr2] at h3
  obtain ⟨kA, comp, k1, k2, k3, k4⟩ := h3
  have hcomp : comp = D.1 (bq_ec kd) := Option.some.inj (k3.symm.trans hcls.1)
  subst hcomp
  obtain ⟨kC, hkC, -⟩ := hcls.2
  have hlt : (nI j).toNatClampNeg < len := by rw [nI_clamp (by omega)]; exact hj
  refine W.aast C.1 C.2.1 h1 (fun q h => by cases h) (fun h => by cases h) k1 k2 rfl hkC ⟨nI_pos (by omega), by rw [arrV_size]; exact hlt⟩ g1 (fun q h => by rw [g3] at h; cases h) (by rw [g2]; exact hkC) (by rw [g2]; exact va_assign hcls) rfl rfl hd (fun H' g1 g2 g3 => kk l D b p e R s m args below meth c H' _ cells slots mc ms ls C N (bq_stored (I' := I) (P' := bq_u P o j (some q)) hR hs (by omega) h0 h2 (by rw [hr2]; exact ⟨kA, _, k1, k2, k3, k4⟩) ?_ g2 g3 (fun _ _ => rfl) (fun a h => bq_u_ne h)) (hS.put g2 g3 (Nat.le_add_right b o)) hL)
  rw [g1, arrV_store, nI_clamp (by omega)]
  congr 2
  funext a
  by_cases ha : a = j
  · subst ha; simp [updV, bq_va, bq_val, bq_u, hr2, bq_tag, bq_rf]
  · simp [updV, bq_va, bq_u, ha]
theorem q_alen {M : BqM} {fr lo kc ks pc : Nat} {vs : List (Option Value)} {st : List Value} {S : BqH} {n : Nat} {I : BqI} {L : BqL} {P : BqP} {post : BqQ} {o kd len : Nat} (hd : decode M.2.1 pc = .ok (.arraylength, 1)) (hs : S o = (kd, len)) (hk : 13 ≤ kd) (ho : o < n) (kk : bq_W M fr lo kc ks (pc + 1) vs (.int (nI len) :: st) S n I L P post) : bq_W M fr lo kc ks pc vs (.ref o :: st) S n I L P post := by
  intro l D b p e R s m args below meth c H locs cells slots mc ms ls C N hR hS hL
  have hcell := hR.2 o ho
  rw [hs] at hcell
  obtain ⟨h0, cA, h1, h2, h3⟩ := hcell.2 hk
  exact W.alen (n := nI len) C.1 C.2.1 h1 (h2 _ _) (by rw [arrV_size]; rfl) rfl rfl hd (kk l D b p e R s m args below meth c H locs cells slots mc ms ls C N hR hS hL)

def bq_r {α : Type} (f : Nat → α) (o : Nat) (v : α) : Nat → α := fun a => if a = o then v else f a
theorem bq_r_self {α : Type} {f : Nat → α} {o : Nat} {v : α} : bq_r f o v o = v := by unfold bq_r; rw [if_pos rfl]
theorem bq_r_ne {α : Type} {f : Nat → α} {o a : Nat} {v : α} (h : a ≠ o) : bq_r f o v a = f a := by unfold bq_r; rw [if_neg h]
def bq_okt (t : FieldType) : Prop := t = .int ∨ t = .boolean ∨ t = .long ∨ (∃ X, t = .object X) ∨ ∃ T, t = .array T
theorem bq_okt0 (k : Nat) : bq_okt (tyX0 k) := by
  unfold tyX0 bq_okt
  (try split) <;> simp
theorem bq_okt1 (k : Nat) : bq_okt (tyX1 k) := by
  unfold tyX1 bq_okt
  (try split) <;> simp
theorem bq_okt2 (k : Nat) : bq_okt (tyX2 k) := by
  unfold tyX2 bq_okt
  (try split) <;> simp
theorem bq_okt3 (k : Nat) : bq_okt (tyX3 k) := by
  unfold tyX3 bq_okt
  (try split) <;> simp
theorem bq_okt4 (k : Nat) : bq_okt (tyX4 k) := by
  unfold tyX4 bq_okt
  (try split) <;> simp
theorem bq_okt5 (k : Nat) : bq_okt (tyX5 k) := by
  unfold tyX5 bq_okt
  (try split) <;> simp
theorem bq_okt6 (k : Nat) : bq_okt (tyX6 k) := by
  unfold tyX6 bq_okt
  (try split) <;> simp
theorem bq_okt7 (k : Nat) : bq_okt (tyX7 k) := by
  unfold tyX7 bq_okt
  (try split) <;> simp
theorem bq_okt8 (k : Nat) : bq_okt (tyX8 k) := by
  unfold tyX8 bq_okt
  (try split) <;> simp
theorem bq_okt9 (k : Nat) : bq_okt (tyX9 k) := by
  unfold tyX9 bq_okt
  (try split) <;> simp
theorem bq_okt10 (k : Nat) : bq_okt (tyX10 k) := by
  unfold tyX10 bq_okt
  (try split) <;> simp
theorem bq_okt11 (k : Nat) : bq_okt (tyX11 k) := by
  unfold tyX11 bq_okt
  (try split) <;> simp
theorem bq_okt12 (k : Nat) : bq_okt (tyX12 k) := by
  unfold tyX12 bq_okt
  (try split) <;> simp
theorem bq_fty_ok (ci k : Nat) : bq_okt (bq_fty ci k) := by
  unfold bq_fty
  split
  · exact bq_okt0 k
  split
  · exact bq_okt1 k
  split
  · exact bq_okt2 k
  split
  · exact bq_okt3 k
  split
  · exact bq_okt4 k
  split
  · exact bq_okt5 k
  split
  · exact bq_okt6 k
  split
  · exact bq_okt7 k
  split
  · exact bq_okt8 k
  split
  · exact bq_okt9 k
  split
  · exact bq_okt10 k
  split
  · exact bq_okt11 k
  exact bq_okt12 k
theorem bq_dflt (t : FieldType) (b : Nat) (h : bq_okt t) : defaultValue t = bq_val (bq_tag t) b 0 0 none := by
  rcases h with rfl | rfl | rfl | ⟨X, rfl⟩ | ⟨T, rfl⟩ <;> rfl
/-- the cells behind a making -/
theorem bq_made {D : va_G} {b : Nat} {s : State} {H H' : Heap} {S : BqH} {n : Nat} {I : BqI} {L : BqL} {P : BqP} {x : Nat × Nat} (hR : bq_R D b s H S n I L P) (g2 : H'.size = H.size + 1) (g3 : ∀ q, q < H.size → H'[q]? = H[q]?) (hx : bq_cell D b s H' (bq_r I n (fun _ => 0)) (bq_r L n (fun _ => 0)) (bq_r P n (fun _ => none)) n x) :
    bq_R D b s H' (bq_r S n x) (n + 1) (bq_r I n (fun _ => 0)) (bq_r L n (fun _ => 0)) (bq_r P n (fun _ => none)) := by
  refine ⟨by rw [g2, hR.1]; omega, fun a ha => ?_⟩
  by_cases hao : a = n
  · subst hao; rw [bq_r_self]; exact hx
  · rw [bq_r_ne hao]
    have h00 := (hR.2 a (by omega)).kept (H' := H') (U' := s) (g3 (b + a) (by rw [hR.1]; omega)) (Vm.Alike.refl _)
    refine ⟨fun h => ?_, fun h => ?_⟩
    · obtain ⟨r, h1, h2⟩ := h00.1 h
      exact ⟨r, h1, h2.to (fun j _ => by unfold bq_vf; rw [bq_r_ne hao, bq_r_ne hao, bq_r_ne hao])⟩
    · obtain ⟨h01, cA, h1, h2, h3⟩ := h00.2 h
      exact ⟨h01, cA, by rw [h1]; congr 1; unfold bq_va; rw [bq_r_ne hao, bq_r_ne hao, bq_r_ne hao], h2, h3⟩
theorem bq_madeS {b : Nat} {s : State} {H H' : Heap} {locs : List Loc} (hS : va_S (fun q => b ≤ q) s.heap H locs) (g2 : H'.size = H.size + 1) (g3 : ∀ q, q < H.size → H'[q]? = H[q]?) : va_S (fun q => b ≤ q) s.heap H' locs :=
  ⟨Nat.le_trans hS.1 (by omega), fun q h1 h2 => (g3 q (Nat.lt_of_lt_of_le h1 hS.1)).trans (hS.2.1 q h1 h2), hS.2.2⟩
def bq_nw (own : String) (idx ci N1 : Nat) : Prop := ∃ (C : String) (T : u_T), vwCl[ci]? = some (C, T, N1) ∧ (∀ w ∈ u_ws C T N1, w ∈ bq_TB) ∧ Cond.classLink own idx C ∈ bq_TB ∧ Cond.instantiable C N1 ∈ bq_TB ∧ Cond.initialized C ∈ bq_TB
theorem q_new {M : BqM} {fr lo kc ks pc : Nat} {vs : List (Option Value)} {st : List Value} {S : BqH} {n : Nat} {I : BqI} {L : BqL} {P : BqP} {post : BqQ} {idx ci N1 : Nat} (hd : decode M.2.1 pc = .ok (.new idx, 3)) (hw : bq_nw M.1.cls idx ci N1) (hc : ci < 13) (k : bq_W M fr lo kc ks (pc + 3) vs (.ref n :: st) (bq_r S n (ci, 0)) (n + 1) (bq_r I n (fun _ => 0)) (bq_r L n (fun _ => 0)) (bq_r P n (fun _ => none)) post) : bq_W M fr lo (kc + 1) (ks + N1) pc vs st S n I L P post := by
  intro l D b p e R s m args below meth c H locs cells slots mc ms ls C N hR hS hL
  obtain ⟨C1, T, e1, e2, e3, e4, e5⟩ := hw
  have hts := C.2.2.2.2.2.1
  have hK := C.2.2.2.2.2.2.2.2.1
  have hKn := hK.1 ci _ e1
  refine W.newcK C.1 C.2.1 C.2.2.2.2.1 (hts _ e3) (hts _ e4) (hts _ e5) rfl hd (by have := N.2.2.1; have := N.2.2.2.1; omega) (by have := N.2.2.2.2.1; have := N.2.2.2.2.2; omega) hKn.2.1 rfl (fun H1 kC hkC g1 g2 g3 => ?_)
  rw [hR.1] at g1 ⊢
  refine k l D b p e R s m args below meth c H1 locs (cells + 1) (slots + N1) mc ms ls C ⟨N.1, N.2.1, by have := N.2.2.1; omega, N.2.2.2.1, by have := N.2.2.2.2.1; omega, N.2.2.2.2.2⟩ (bq_made hR g2 g3 ?_) (bq_madeS hS g2 g3) hL
  refine ⟨fun _ => ⟨_, e1, ?_⟩, fun h => by have : 13 ≤ ci := h; omega⟩
  refine (u_born (bq_fty ci) hts e2 hKn hkC g1 (bq_cls ci _ _ _ e1).1).to (fun j _ => ?_)
  unfold bq_vf
  rw [bq_r_self, bq_r_self, bq_r_self]
  exact bq_dflt _ b (bq_fty_ok ci j)
theorem q_newI {M : BqM} {fr lo kc ks pc : Nat} {vs : List (Option Value)} {st : List Value} {S : BqH} {n : Nat} {I : BqI} {L : BqL} {P : BqP} {post : BqQ} {len : Nat} {x : Int32} (hd : decode M.2.1 pc = .ok (.newarray .int, 2)) (hw : Cond.arrayClass .int ∈ bq_TB) (hx : x = nI len) (hl : len < 100000) (k : bq_W M fr lo kc ks (pc + 2) vs (.ref n :: st) (bq_r S n (13, len)) (n + 1) (bq_r I n (fun _ => 0)) (bq_r L n (fun _ => 0)) (bq_r P n (fun _ => none)) post) : bq_W M fr lo (kc + 1) (ks + len) pc vs (.int x :: st) S n I L P post := by
  intro l D b p e R s m args below meth c H locs cells slots mc ms ls C N hR hS hL
  subst hx
  refine va_newaK (atype := .int) (N := len) C.1 C.2.1 (C.2.2.2.2.2.1 _ hw) rfl hd rfl (nI_pos (by omega)) (nI_clamp (by omega)) (by show len * 4 ≤ _; omega) (by have := N.2.2.1; have := N.2.2.2.1; omega) (by have := N.2.2.2.2.1; have := N.2.2.2.2.2; omega) rfl (fun H1 cA g1 g2 g3 g4 g5 => ?_)
  rw [hR.1] at g1 ⊢
  refine k l D b p e R s m args below meth c H1 locs (cells + 1) (slots + len) mc ms ls C ⟨N.1, N.2.1, by have := N.2.2.1; omega, N.2.2.2.1, by have := N.2.2.2.2.1; omega, N.2.2.2.2.2⟩ (bq_made hR g2 g3 ?_) (bq_madeS hS g2 g3) hL
  refine ⟨fun h => by have : 13 < 13 := h; omega, fun _ => ⟨by show len < 2 ^ 31; omega, cA, ?_, g4, g5⟩⟩
  rw [g1]
  congr 2
  funext j
  show Value.int 0 = bq_va 13 b _ _ _ n j
  unfold bq_va
  rw [bq_r_self]
  rfl
theorem q_newZ {M : BqM} {fr lo kc ks pc : Nat} {vs : List (Option Value)} {st : List Value} {S : BqH} {n : Nat} {I : BqI} {L : BqL} {P : BqP} {post : BqQ} {len : Nat} {x : Int32} (hd : decode M.2.1 pc = .ok (.newarray .boolean, 2)) (hw : Cond.arrayClass .boolean ∈ bq_TB) (hx : x = nI len) (hl : len < 100000) (k : bq_W M fr lo kc ks (pc + 2) vs (.ref n :: st) (bq_r S n (14, len)) (n + 1) (bq_r I n (fun _ => 0)) (bq_r L n (fun _ => 0)) (bq_r P n (fun _ => none)) post) : bq_W M fr lo (kc + 1) (ks + len) pc vs (.int x :: st) S n I L P post := by
  intro l D b p e R s m args below meth c H locs cells slots mc ms ls C N hR hS hL
  subst hx
  refine va_newaK (atype := .boolean) (N := len) C.1 C.2.1 (C.2.2.2.2.2.1 _ hw) rfl hd rfl (nI_pos (by omega)) (nI_clamp (by omega)) (by show len * 1 ≤ _; omega) (by have := N.2.2.1; have := N.2.2.2.1; omega) (by have := N.2.2.2.2.1; have := N.2.2.2.2.2; omega) rfl (fun H1 cA g1 g2 g3 g4 g5 => ?_)
  rw [hR.1] at g1 ⊢
  refine k l D b p e R s m args below meth c H1 locs (cells + 1) (slots + len) mc ms ls C ⟨N.1, N.2.1, by have := N.2.2.1; omega, N.2.2.2.1, by have := N.2.2.2.2.1; omega, N.2.2.2.2.2⟩ (bq_made hR g2 g3 ?_) (bq_madeS hS g2 g3) hL
  refine ⟨fun h => by have : 14 < 13 := h; omega, fun _ => ⟨by show len < 2 ^ 31; omega, cA, ?_, g4, g5⟩⟩
  rw [g1]
  congr 2
  funext j
  show Value.int 0 = bq_va 14 b _ _ _ n j
  unfold bq_va
  rw [bq_r_self]
  rfl
theorem q_newq {M : BqM} {fr lo kc ks pc : Nat} {vs : List (Option Value)} {st : List Value} {S : BqH} {n : Nat} {I : BqI} {L : BqL} {P : BqP} {post : BqQ} {idx len kd : Nat} {X : String} {x : Int32} (hd : decode M.2.1 pc = .ok (.anewarray idx, 3)) (hw : Cond.classLink M.1.cls idx X ∈ bq_TB) (hX : X ∈ bq_ao) (hk : 15 ≤ kd) (ht : bq_ty kd = .object X) (hx : x = nI len) (hl : len < 100000) (k : bq_W M fr lo kc ks (pc + 3) vs (.ref n :: st) (bq_r S n (kd, len)) (n + 1) (bq_r I n (fun _ => 0)) (bq_r L n (fun _ => 0)) (bq_r P n (fun _ => none)) post) : bq_W M fr lo (kc + 1) (ks + len) pc vs (.int x :: st) S n I L P post := by
  intro l D b p e R s m args below meth c H locs cells slots mc ms ls C N hR hS hL
  subst hx
  have hcl : (nI len).toNatClampNeg = len := nI_clamp (by omega)
  refine W.anew C.1 C.2.1 C.2.2.2.2.1 (C.2.2.2.2.2.1 _ hw) (va_AO.use (C.2.2.2.2.2.2.2.2.2.2 _ hX)) rfl hd rfl (nI_pos (by omega)) (by rw [hcl]; omega) (by have := N.2.2.1; have := N.2.2.2.1; omega) (by rw [hcl]; have := N.2.2.2.2.1; have := N.2.2.2.2.2; omega) (fun cA kA comp f1 f2 f3 f4 => ?_)
  rw [hcl]
  generalize hH1 : H.push ({ cls := cA, slots := Array.replicate len .null, vm := .none } : Cell) = H1
  have g2 : H1.size = H.size + 1 := by rw [← hH1, Array.size_push]
  have g1 : H1[H.size]? = some (arrV cA len (fun _ => .null)) := by rw [← hH1, Array.getElem?_push_size, ← arrV_new]
  have g3 : ∀ q : Nat, q < H.size → H1[q]? = H[q]? := fun q hq => by rw [← hH1, Array.getElem?_push, if_neg (Nat.ne_of_lt hq)]
  have hAr : ArrOfT s cA (.object X) := fun N z => ⟨(fun k h => by cases h), kA, f2, comp, f3⟩
  rw [hR.1] at g1 ⊢
  refine k l D b p e R s m args below meth c H1 locs (cells + 1) (slots + len) mc ms ls C ⟨N.1, N.2.1, by have := N.2.2.1; omega, N.2.2.2.1, by have := N.2.2.2.2.1; omega, N.2.2.2.2.2⟩ (bq_made hR g2 g3 ?_) (bq_madeS hS g2 g3) hL
  refine ⟨fun h => by have : kd < 13 := h; omega, fun _ => ⟨by show len < 2 ^ 31; omega, cA, ?_, by show ArrOfT s cA (bq_ty kd); rw [ht]; exact hAr, by show va_RA s cA (bq_ty kd); rw [ht]; exact ⟨kA, comp, f2, f3, f4, f1⟩⟩⟩
  rw [g1]
  congr 2
  funext j
  show Value.null = bq_va kd b _ _ _ n j
  unfold bq_va
  rw [bq_r_self, bq_r_self, bq_r_self, ht]
  rfl

