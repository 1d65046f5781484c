theorem q_aret {M : BqM} {fr lo kc ks pc : Nat} {vs : List (Option Value)} {st : List Value} {S : BqH} {n : Nat} {I : BqI} {L : BqL} {P : BqP} {post : BqQ} {a : Nat} {X : String} (hd : decode M.2.1 pc = .ok (.areturn, 1)) (hr : M.2.2.2 = some (.object X)) (hp : post (some (.ref a)) S n I L P) : bq_W M fr lo kc ks pc vs [.ref a] S n I L P post := by
  intro l D b p e R s m args below meth c H locs cells slots mc ms ls C N hR hS hL
  refine W.widen (k := mc) (n := ms) (by have := N.2.2.1; omega) (by have := N.2.2.2.2.1; omega) ?_
  exact W.aret C.1 C.2.1 (C.2.2.1.trans hr) (Or.inl ⟨X, rfl⟩) (Or.inr ⟨_, rfl⟩) (fun t ht hW => ⟨some (.ref a), S, n, I, L, P, rfl, hp, by rw [ht]; exact hR.moved hW.alike, hS.F ht⟩) hS.2.2 hd C.2.2.2.2.2.2.1
theorem q_aretN {M : BqM} {fr lo kc ks pc : Nat} {vs : List (Option Value)} {st : List Value} {S : BqH} {n : Nat} {I : BqI} {L : BqL} {P : BqP} {post : BqQ} {X : String} (hd : decode M.2.1 pc = .ok (.areturn, 1)) (hr : M.2.2.2 = some (.object X)) (hp : post (some .null) S n I L P) : bq_W M fr lo kc ks pc vs [.null] S n I L P post := by
  intro l D b p e R s m args below meth c H locs cells slots mc ms ls C N hR hS hL
  refine W.widen (k := mc) (n := ms) (by have := N.2.2.1; omega) (by have := N.2.2.2.2.1; omega) ?_
  exact W.aret C.1 C.2.1 (C.2.2.1.trans hr) (Or.inl ⟨X, rfl⟩) (Or.inl rfl) (fun t ht hW => ⟨some .null, S, n, I, L, P, rfl, hp, by rw [ht]; exact hR.moved hW.alike, hS.F ht⟩) hS.2.2 hd C.2.2.2.2.2.2.1
theorem bq_cls : ∀ (ci : Nat) (C : String) (T : u_T) (N : Nat), vwCl[ci]? = some (C, T, N) → (∀ k, k < N → parseFieldDescriptor (T k).2.2.1 = some (bq_fty ci k)) ∧ ∀ a, a < N → ∀ b, b < N → a ≠ b → (T a).2.1 ≠ (T b).2.1 := by
  intro ci C T N h
  match ci, h with
  | 0, h => cases h; exact ⟨tyX0_ok, nmX0⟩
  | 1, h => cases h; exact ⟨tyX1_ok, nmX1⟩
  | 2, h => cases h; exact ⟨tyX2_ok, nmX2⟩
  | 3, h => cases h; exact ⟨tyX3_ok, nmX3⟩
  | 4, h => cases h; exact ⟨tyX4_ok, nmX4⟩
  | 5, h => cases h; exact ⟨tyX5_ok, nmX5⟩
  | 6, h => cases h; exact ⟨tyX6_ok, nmX6⟩
  | 7, h => cases h; exact ⟨tyX7_ok, nmX7⟩
  | 8, h => cases h; exact ⟨tyX8_ok, nmX8⟩
  | 9, h => cases h; exact ⟨tyX9_ok, nmX9⟩
  | 10, h => cases h; exact ⟨tyX10_ok, nmX10⟩
  | 11, h => cases h; exact ⟨tyX11_ok, nmX11⟩
  | 12, h => cases h; exact ⟨tyX12_ok, nmX12⟩
  | k + 13, h => simp at h
def bq_fl (own : String) (idx ci k : Nat) : Prop := ∃ (C : String) (T : u_T) (N : Nat), vwCl[ci]? = some (C, T, N) ∧ k < N ∧ (∀ w ∈ u_ws C T N, w ∈ bq_TB) ∧ Cond.fieldLink own idx (T k).1 (T k).2.1 (T k).2.2.1 ∈ bq_TB
def bq_fp (own name : String) (idx ci k : Nat) : Prop := ∃ (C : String) (T : u_T) (N : Nat), vwCl[ci]? = some (C, T, N) ∧ k < N ∧ (∀ w ∈ u_ws C T N, w ∈ bq_TB) ∧ Cond.fieldLink own idx (T k).1 (T k).2.1 (T k).2.2.1 ∈ bq_TB ∧ ((T k).2.2.2 = false ∨ ((T k).2.2.2 = true ∧ name = "<init>" ∧ (T k).1 = own))
theorem q_getG {M : BqM} {fr lo kc ks pc : Nat} {vs : List (Option Value)} {st : List Value} {S : BqH} {n : Nat} {I : BqI} {L : BqL} {P : BqP} {post : BqQ} {idx o ci z k : Nat} (v : Value) (hd : decode M.2.1 pc = .ok (.getfield idx, 3)) (hf : bq_fl M.1.cls idx ci k) (hs : S o = (ci, z)) (hc : ci < 13) (ho : o < n) (hv : ∀ b, bq_vf ci b I L P o k = bq_cv b v) (kk : bq_W M fr lo kc ks (pc + 3) vs (v :: st) S n I L P post) : bq_W M fr lo kc ks pc vs (.ref o :: st) S n I L P post := by
  intro l D b p e R s m args below meth c H locs cells slots mc ms ls C N hR hS hL
  obtain ⟨C1, T, N1, e1, e2, e3, e4⟩ := hf
  have hcell := hR.2 o ho
  rw [hs] at hcell
  obtain ⟨r, h1, cell, q1, q2, q3, q4⟩ := hcell.1 hc
  have hr : r = (C1, T, N1) := Option.some.inj (h1.symm.trans e1)
  subst hr
  obtain ⟨hSl, hfc, kC, hkC, hkind⟩ := C.2.2.2.2.2.2.2.2.1.1 ci _ e1
  obtain ⟨cf, kf, fi, f, hi, hsl⟩ := hSl k e2
  have hts := C.2.2.2.2.2.1
  refine W.getf C.1 C.2.1 C.2.2.2.2.1 (hts _ e4) hi (u_facts hfc hkC (u_lays hts e3 e2) hi).1 q1 (by rw [q3]; exact fun h => by cases h) (v := bq_cv b v) ?_ rfl rfl hd (kk l D b p e R s m args below meth c H locs cells slots mc ms ls C N hR hS hL)
  rw [hsl, q4 k e2, hv b]
theorem q_getI {M : BqM} {fr lo kc ks pc : Nat} {vs : List (Option Value)} {st : List Value} {S : BqH} {n : Nat} {I : BqI} {L : BqL} {P : BqP} {post : BqQ} {idx o ci z k : Nat} (hd : decode M.2.1 pc = .ok (.getfield idx, 3)) (hf : bq_fl M.1.cls idx ci k) (hs : S o = (ci, z)) (ht : (ci < 13) ∧ bq_tag (bq_fty ci k) = 0) (ho : o < n) (kk : bq_W M fr lo kc ks (pc + 3) vs (.int (I o k) :: st) S n I L P post) : bq_W M fr lo kc ks pc vs (.ref o :: st) S n I L P post :=
  q_getG (.int (I o k)) hd hf hs ht.1 ho (fun b => by unfold bq_vf bq_val; rw [ht.2]; rfl) kk
theorem q_getL {M : BqM} {fr lo kc ks pc : Nat} {vs : List (Option Value)} {st : List Value} {S : BqH} {n : Nat} {I : BqI} {L : BqL} {P : BqP} {post : BqQ} {idx o ci z k : Nat} (hd : decode M.2.1 pc = .ok (.getfield idx, 3)) (hf : bq_fl M.1.cls idx ci k) (hs : S o = (ci, z)) (ht : (ci < 13) ∧ bq_tag (bq_fty ci k) = 1) (ho : o < n) (kk : bq_W M fr lo kc ks (pc + 3) vs (.long (L o k) :: st) S n I L P post) : bq_W M fr lo kc ks pc vs (.ref o :: st) S n I L P post :=
  q_getG (.long (L o k)) hd hf hs ht.1 ho (fun b => by unfold bq_vf bq_val; rw [ht.2]; rfl) kk
theorem q_getP {M : BqM} {fr lo kc ks pc : Nat} {vs : List (Option Value)} {st : List Value} {S : BqH} {n : Nat} {I : BqI} {L : BqL} {P : BqP} {post : BqQ} {idx o ci z k q : Nat} (hd : decode M.2.1 pc = .ok (.getfield idx, 3)) (hf : bq_fl M.1.cls idx ci k) (hs : S o = (ci, z)) (ht : (ci < 13) ∧ bq_tag (bq_fty ci k) = 2) (ho : o < n) (hq : P o k = some q) (kk : bq_W M fr lo kc ks (pc + 3) vs (.ref q :: st) S n I L P post) : bq_W M fr lo kc ks pc vs (.ref o :: st) S n I L P post :=
  q_getG (.ref q) hd hf hs ht.1 ho (fun b => by unfold bq_vf bq_val; rw [ht.2, hq]; rfl) kk
def bq_u {α : Type} (f : Nat → Nat → α) (o k : Nat) (v : α) : Nat → Nat → α := fun a c => if a = o ∧ c = k then v else f a c
theorem q_putG {M : BqM} {fr lo kc ks pc : Nat} {vs : List (Option Value)} {st : List Value} {S : BqH} {n : Nat} {I : BqI} {L : BqL} {P : BqP} {post : BqQ} {idx o ci z k : Nat} (v : Value) (I' : BqI) (L' : BqL) (P' : BqP) (hd : decode M.2.1 pc = .ok (.putfield idx, 3)) (hf : bq_fp M.1.cls M.1.name idx ci k) (hs : S o = (ci, z)) (hc : ci < 13) (ho : o < n)
    (hv : ∀ b j, bq_vf ci b I' L' P' o j = if j = k then bq_cv b v else bq_vf ci b I L P o j) (hI : ∀ a, a ≠ o → I' a = I a) (hL' : ∀ a, a ≠ o → L' a = L a) (hP' : ∀ a, a ≠ o → P' a = P a)
    (hn : ∀ b, narrow (bq_fty ci k) (bq_cv b v) = bq_cv b v) (hfit : ∀ b, fits (bq_fty ci k) (bq_cv b v) = true) (kk : bq_W M fr lo kc ks (pc + 3) vs st S n I' L' P' post) : bq_W M fr lo kc ks pc vs (v :: .ref o :: st) S n I L P post := by
  intro l D b p e R s m args below meth c H locs cells slots mc ms ls C N hR hS hL
  obtain ⟨C1, T, N1, e1, e2, e3, e4, e5⟩ := hf
  have hcell := hR.2 o ho
  rw [hs] at hcell
  obtain ⟨r, h1, cell, q1, q2, q3, q4⟩ := hcell.1 hc
  have hr : r = (C1, T, N1) := Option.some.inj (h1.symm.trans e1)
  subst hr
  have hts := C.2.2.2.2.2.1
  have hK := C.2.2.2.2.2.2.2.2.1
  have hap := va_apart (own := M.1.cls) hts e3 (bq_fty ci) (bq_cls ci _ _ _ e1).1 (bq_cls ci _ _ _ e1).2 hK e1
  obtain ⟨hSl, hfc, kC, hkC, hkind⟩ := hK.1 ci _ e1
  obtain ⟨cf, kf, fi, f, hi, hsl⟩ := hSl k e2
  have hlay := hts _ (e3 _ (u_in_lay e2))
  have hst := (u_facts hfc hkC (u_lays hts e3 e2) hi).1
  have fin : ∀ H' : Heap, H'[b + o]? = some (cell.setSlot f.slot (bq_cv b v)) → H'.size = H.size → (∀ q, q ≠ b + o → H'[q]? = H[q]?) → W p l e R s m args below meth c H' (locs ++ [⟨b + o, f.slot⟩]) cells slots (MQ below (bq_Qc D b post) args s mc ms (fun q => b ≤ q)) (F0 m (pc + 3) ls (st.map (bq_cv b))) := by
    intro H' g1 g2 g3
    refine kk l D b p e R s m args below meth c H' _ cells slots mc ms ls C N ⟨g2.trans hR.1, fun a ha => ?_⟩ (hS.put g2 g3 (Nat.le_add_right b o)) hL
    by_cases hao : a = o
    · subst hao
      rw [hs]
      refine ⟨fun _ => ⟨_, e1, ?_⟩, fun h => by omega⟩
      rw [hsl] at g1
      exact t_OB.to (V := updV (bq_vf ci b I L P a) k (bq_cv b v)) ⟨_, g1, q2, q3, t_set q4 hap e2 (bq_cv b v)⟩ (fun j _ => by rw [hv b j]; rfl)
    · have h0 := (hR.2 a ha).kept (H' := H') (U' := s) (g3 (b + a) (by omega)) (Vm.Alike.refl _)
      refine ⟨fun h => ?_, fun h => ?_⟩
      · obtain ⟨r, h1, h2⟩ := h0.1 h
        exact ⟨r, h1, h2.to (fun j _ => by unfold bq_vf; rw [hI a hao, hL' a hao, hP' a hao])⟩
      · obtain ⟨h00, cA, h1, h2, h3⟩ := h0.2 h
        exact ⟨h00, cA, by rw [h1]; congr 1; unfold bq_va; rw [hI a hao, hL' a hao, hP' a hao], h2, h3⟩
  rcases e5 with e5 | ⟨e5, e6, e7⟩
  · unfold u_lay at hlay
    rw [if_neg (by rw [e5]; decide)] at hlay
    have h6 := u_store hfc hkC hkind hlay hi ((bq_cls ci _ _ _ e1).1 k e2) (hn b) (hfit b)
    exact W.putK C.1 C.2.1 (f := f) ⟨C.2.2.2.2.1, hts _ e4, ⟨_, _, _, hi⟩, hst⟩ (by rw [q2]; exact h6) q1 q3 (by rw [hsl]; exact k2_hasslot (q4 k e2)) rfl rfl hd fin
  · unfold u_lay at hlay
    rw [if_pos e5] at hlay
    have hcf : m.cls = cf := by
      obtain ⟨_, _, c', _, _, _, -, -, hf', -, -, -, hown2, -⟩ := Cond.laysFinal_spec hlay
      have e1 : c' = cf := by have := hi.symm.trans hf'; simp at this; exact this.1.symm
      rw [e7] at hown2
      rw [← e1]; exact Option.some.inj (C.2.2.2.2.1.symm.trans hown2)
    have h6 := u_fits hfc hkC hkind (Or.inr hlay) hi ((bq_cls ci _ _ _ e1).1 k e2) (hn b) (hfit b)
    exact W.putFinK C.1 C.2.1 C.2.2.2.2.1 (hts _ e4) hi hst hcf (C.2.2.2.2.2.2.2.1.trans e6) (by rw [q2]; exact h6) q1 q3 (by rw [hsl]; exact k2_hasslot (q4 k e2)) rfl rfl hd fin
theorem bq_u_ne {α : Type} {f : Nat → Nat → α} {o k a : Nat} {v : α} (h : a ≠ o) : bq_u f o k v a = f a := by funext c; unfold bq_u; rw [if_neg (fun q => h q.1)]
theorem q_putI {M : BqM} {fr lo kc ks pc : Nat} {vs : List (Option Value)} {st : List Value} {S : BqH} {n : Nat} {I : BqI} {L : BqL} {P : BqP} {post : BqQ} {idx o ci z k : Nat} {x : Int32} (hd : decode M.2.1 pc = .ok (.putfield idx, 3)) (hf : bq_fp M.1.cls M.1.name idx ci k) (hs : S o = (ci, z)) (ht : (ci < 13) ∧ bq_fty ci k = .int) (ho : o < n) (kk : bq_W M fr lo kc ks (pc + 3) vs st S n (bq_u I o k x) L P post) : bq_W M fr lo kc ks pc vs (.int x :: .ref o :: st) S n I L P post :=
  q_putG (.int x) (bq_u I o k x) L P hd hf hs ht.1 ho (fun b j => by
    by_cases hj : j = k
    · subst hj; unfold bq_vf bq_val; rw [ht.2]; simp [bq_u, bq_tag, bq_cv]
    · unfold bq_vf; simp [bq_u, hj]) (fun a h => bq_u_ne h) (fun _ _ => rfl) (fun _ _ => rfl) (fun b => by rw [ht.2]; rfl) (fun b => by rw [ht.2]; rfl) kk
theorem q_putZ {M : BqM} {fr lo kc ks pc : Nat} {vs : List (Option Value)} {st : List Value} {S : BqH} {n : Nat} {I : BqI} {L : BqL} {P : BqP} {post : BqQ} {idx o ci z k : Nat} {x : Int32} (hd : decode M.2.1 pc = .ok (.putfield idx, 3)) (hf : bq_fp M.1.cls M.1.name idx ci k) (hs : S o = (ci, z)) (ht : (ci < 13) ∧ bq_fty ci k = .boolean) (hz : x = 0 ∨ x = 1) (ho : o < n) (kk : bq_W M fr lo kc ks (pc + 3) vs st S n (bq_u I o k x) L P post) : bq_W M fr lo kc ks pc vs (.int x :: .ref o :: st) S n I L P post :=
  q_putG (.int x) (bq_u I o k x) L P hd hf hs ht.1 ho (fun b j => by
    by_cases hj : j = k
    · subst hj; unfold bq_vf bq_val; rw [ht.2]; simp [bq_u, bq_tag, bq_cv]
    · unfold bq_vf; simp [bq_u, hj]) (fun a h => bq_u_ne h) (fun _ _ => rfl) (fun _ _ => rfl) (fun b => by rw [ht.2]; rcases hz with rfl | rfl <;> rfl) (fun b => by rw [ht.2]; rcases hz with rfl | rfl <;> rfl) kk
theorem q_putL {M : BqM} {fr lo kc ks pc : Nat} {vs : List (Option Value)} {st : List Value} {S : BqH} {n : Nat} {I : BqI} {L : BqL} {P : BqP} {post : BqQ} {idx o ci z k : Nat} {x : Int64} (hd : decode M.2.1 pc = .ok (.putfield idx, 3)) (hf : bq_fp M.1.cls M.1.name idx ci k) (hs : S o = (ci, z)) (ht : (ci < 13) ∧ bq_fty ci k = .long) (ho : o < n) (kk : bq_W M fr lo kc ks (pc + 3) vs st S n I (bq_u L o k x) P post) : bq_W M fr lo kc ks pc vs (.long x :: .ref o :: st) S n I L P post :=
  q_putG (.long x) I (bq_u L o k x) P hd hf hs ht.1 ho (fun b j => by
    by_cases hj : j = k
    · subst hj; unfold bq_vf bq_val; rw [ht.2]; simp [bq_u, bq_tag, bq_cv]
    · unfold bq_vf; simp [bq_u, hj]) (fun _ _ => rfl) (fun a h => bq_u_ne h) (fun _ _ => rfl) (fun b => by rw [ht.2]; rfl) (fun b => by rw [ht.2]; rfl) kk
theorem q_putP {M : BqM} {fr lo kc ks pc : Nat} {vs : List (Option Value)} {st : List Value} {S : BqH} {n : Nat} {I : BqI} {L : BqL} {P : BqP} {post : BqQ} {idx o ci z k q : Nat} (hd : decode M.2.1 pc = .ok (.putfield idx, 3)) (hf : bq_fp M.1.cls M.1.name idx ci k) (hs : S o = (ci, z)) (ht : (ci < 13) ∧ bq_tag (bq_fty ci k) = 2) (ho : o < n) (kk : bq_W M fr lo kc ks (pc + 3) vs st S n I L (bq_u P o k (some q)) post) : bq_W M fr lo kc ks pc vs (.ref q :: .ref o :: st) S n I L P post :=
  q_putG (.ref q) I L (bq_u P o k (some q)) hd hf hs ht.1 ho (fun b j => by
    by_cases hj : j = k
    · subst hj; unfold bq_vf bq_val; rw [ht.2]; simp [bq_u, bq_cv, bq_rf]
    · unfold bq_vf; simp [bq_u, hj]) (fun _ _ => rfl) (fun _ _ => rfl) (fun a h => bq_u_ne h) (fun b => by have := ht.2; unfold bq_tag at this; cases h : bq_fty ci k <;> rw [h] at this <;> first | rfl | cases this) (fun b => by have := ht.2; unfold bq_tag at this; cases h : bq_fty ci k <;> rw [h] at this <;> first | rfl | cases this) kk

theorem i_vc : Claimed_1_1 ∧ Claimed_1_2 := sorry
