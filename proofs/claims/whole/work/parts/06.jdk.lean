def bq_wmax (own : String) (idx : Nat) : Prop := Cond.methodLink own idx Lib.Math.max.name ∈ bq_TB ∧ Cond.static Lib.Math.max.name ∈ bq_TB ∧ Cond.initialized "java/lang/Math" ∈ bq_TB ∧ Cond.code Lib.Math.max.name Lib.Math.max.code 2 (some .int) ∈ bq_TB
theorem q_max {M : BqM} {fr lo kc ks pc : Nat} {vs : List (Option Value)} {st : List Value} {S : BqH} {n : Nat} {I : BqI} {L : BqL} {P : BqP} {post : BqQ} {x y : Int32} {idx : Nat} (hd : decode M.2.1 pc = .ok (.invokestatic idx, 3)) (hw : bq_wmax M.1.cls idx) (hr : 1 ≤ fr ∧ (st.map fun v => v.category).sum + 13 ≤ lo) (kk : bq_W M fr lo kc ks (pc + 3) vs (.int (if x < y then y else x) :: st) S n I L P post) : bq_W M fr lo kc ks pc vs (.int y :: .int x :: st) S n I L P post := by
  intro l D b p e R s m args below meth c H locs cells slots mc ms ls C N hR hS hL
  have hts := C.2.2.2.2.2.1
  exact va_mmax C.1 C.2.1 (C.2.2.2.1.trans hL.1.symm) C.2.2.2.2.1 (hts _ hw.1) (hts _ hw.2.1) (hts _ hw.2.2.1) (hts _ hw.2.2.2) (Nat.le_trans hr.1 N.1) (by rw [bq_catM]; exact Nat.le_trans hr.2 N.2.1) (by have := N.2.2.1; have := N.2.2.2.1; omega) (by have := N.2.2.2.2.1; have := N.2.2.2.2.2; omega) hd (kk l D b p e R s m args below meth c H locs cells slots mc ms ls C N hR hS hL)
def bq_wmin (own : String) (idx : Nat) : Prop := Cond.methodLink own idx Lib.Math.min.name ∈ bq_TB ∧ Cond.static Lib.Math.min.name ∈ bq_TB ∧ Cond.initialized "java/lang/Math" ∈ bq_TB ∧ Cond.code Lib.Math.min.name Lib.Math.min.code 2 (some .int) ∈ bq_TB
theorem q_min {M : BqM} {fr lo kc ks pc : Nat} {vs : List (Option Value)} {st : List Value} {S : BqH} {n : Nat} {I : BqI} {L : BqL} {P : BqP} {post : BqQ} {x y : Int32} {idx : Nat} (hd : decode M.2.1 pc = .ok (.invokestatic idx, 3)) (hw : bq_wmin M.1.cls idx) (hr : 1 ≤ fr ∧ (st.map fun v => v.category).sum + 13 ≤ lo) (kk : bq_W M fr lo kc ks (pc + 3) vs (.int (if y < x then y else x) :: st) S n I L P post) : bq_W M fr lo kc ks pc vs (.int y :: .int x :: st) S n I L P post := by
  intro l D b p e R s m args below meth c H locs cells slots mc ms ls C N hR hS hL
  have hts := C.2.2.2.2.2.1
  exact va_mmin C.1 C.2.1 (C.2.2.2.1.trans hL.1.symm) C.2.2.2.2.1 (hts _ hw.1) (hts _ hw.2.1) (hts _ hw.2.2.1) (hts _ hw.2.2.2) (Nat.le_trans hr.1 N.1) (by rw [bq_catM]; exact Nat.le_trans hr.2 N.2.1) (by have := N.2.2.1; have := N.2.2.2.1; omega) (by have := N.2.2.2.2.1; have := N.2.2.2.2.2; omega) hd (kk l D b p e R s m args below meth c H locs cells slots mc ms ls C N hR hS hL)
def bq_wmaxL (own : String) (idx : Nat) : Prop := Cond.methodLink own idx Lib.MathLoose.max_long.x ∈ bq_TB ∧ Cond.static Lib.MathLoose.max_long.x ∈ bq_TB ∧ Cond.initialized "java/lang/Math" ∈ bq_TB ∧ Cond.code Lib.MathLoose.max_long.x Lib.MathLoose.max_long.code 4 (some .long) ∈ bq_TB
theorem q_maxL {M : BqM} {fr lo kc ks pc : Nat} {vs : List (Option Value)} {st : List Value} {S : BqH} {n : Nat} {I : BqI} {L : BqL} {P : BqP} {post : BqQ} {x y : Int64} {idx : Nat} (hd : decode M.2.1 pc = .ok (.invokestatic idx, 3)) (hw : bq_wmaxL M.1.cls idx) (hr : 1 ≤ fr ∧ (st.map fun v => v.category).sum + 15 ≤ lo) (kk : bq_W M fr lo kc ks (pc + 3) vs (.long (if y < x then x else y) :: st) S n I L P post) : bq_W M fr lo kc ks pc vs (.long y :: .long x :: st) S n I L P post := by
  intro l D b p e R s m args below meth c H locs cells slots mc ms ls C N hR hS hL
  have hts := C.2.2.2.2.2.1
  exact va_mmax_long C.1 C.2.1 (C.2.2.2.1.trans hL.1.symm) C.2.2.2.2.1 (hts _ hw.1) (hts _ hw.2.1) (hts _ hw.2.2.1) (hts _ hw.2.2.2) (Nat.le_trans hr.1 N.1) (by rw [bq_catM]; exact Nat.le_trans hr.2 N.2.1) (by have := N.2.2.1; have := N.2.2.2.1; omega) (by have := N.2.2.2.2.1; have := N.2.2.2.2.2; omega) hd (kk l D b p e R s m args below meth c H locs cells slots mc ms ls C N hR hS hL)
def bq_wminL (own : String) (idx : Nat) : Prop := Cond.methodLink own idx Lib.MathLoose.min_long.x ∈ bq_TB ∧ Cond.static Lib.MathLoose.min_long.x ∈ bq_TB ∧ Cond.initialized "java/lang/Math" ∈ bq_TB ∧ Cond.code Lib.MathLoose.min_long.x Lib.MathLoose.min_long.code 4 (some .long) ∈ bq_TB
theorem q_minL {M : BqM} {fr lo kc ks pc : Nat} {vs : List (Option Value)} {st : List Value} {S : BqH} {n : Nat} {I : BqI} {L : BqL} {P : BqP} {post : BqQ} {x y : Int64} {idx : Nat} (hd : decode M.2.1 pc = .ok (.invokestatic idx, 3)) (hw : bq_wminL M.1.cls idx) (hr : 1 ≤ fr ∧ (st.map fun v => v.category).sum + 15 ≤ lo) (kk : bq_W M fr lo kc ks (pc + 3) vs (.long (if y < x then y else x) :: st) S n I L P post) : bq_W M fr lo kc ks pc vs (.long y :: .long x :: st) S n I L P post := by
  intro l D b p e R s m args below meth c H locs cells slots mc ms ls C N hR hS hL
  have hts := C.2.2.2.2.2.1
  exact va_mmin_long C.1 C.2.1 (C.2.2.2.1.trans hL.1.symm) C.2.2.2.2.1 (hts _ hw.1) (hts _ hw.2.1) (hts _ hw.2.2.1) (hts _ hw.2.2.2) (Nat.le_trans hr.1 N.1) (by rw [bq_catM]; exact Nat.le_trans hr.2 N.2.1) (by have := N.2.2.1; have := N.2.2.2.1; omega) (by have := N.2.2.2.2.1; have := N.2.2.2.2.2; omega) hd (kk l D b p e R s m args below meth c H locs cells slots mc ms ls C N hR hS hL)
def bq_wabsL (own : String) (idx : Nat) : Prop := Cond.methodLink own idx Lib.MathLoose.abs_long.x ∈ bq_TB ∧ Cond.static Lib.MathLoose.abs_long.x ∈ bq_TB ∧ Cond.initialized "java/lang/Math" ∈ bq_TB ∧ Cond.code Lib.MathLoose.abs_long.x Lib.MathLoose.abs_long.code 2 (some .long) ∈ bq_TB
theorem q_absL {M : BqM} {fr lo kc ks pc : Nat} {vs : List (Option Value)} {st : List Value} {S : BqH} {n : Nat} {I : BqI} {L : BqL} {P : BqP} {post : BqQ} {x : Int64} {idx : Nat} (hd : decode M.2.1 pc = .ok (.invokestatic idx, 3)) (hw : bq_wabsL M.1.cls idx) (hr : 1 ≤ fr ∧ (st.map fun v => v.category).sum + 13 ≤ lo) (kk : bq_W M fr lo kc ks (pc + 3) vs (.long (if 0 < x then x else -x) :: st) S n I L P post) : bq_W M fr lo kc ks pc vs (.long x :: st) S n I L P post := by
  intro l D b p e R s m args below meth c H locs cells slots mc ms ls C N hR hS hL
  have hts := C.2.2.2.2.2.1
  exact va_mabs_long C.1 C.2.1 (C.2.2.2.1.trans hL.1.symm) C.2.2.2.2.1 (hts _ hw.1) (hts _ hw.2.1) (hts _ hw.2.2.1) (hts _ hw.2.2.2) (Nat.le_trans hr.1 N.1) (by rw [bq_catM]; exact Nat.le_trans hr.2 N.2.1) (by have := N.2.2.1; have := N.2.2.2.1; omega) (by have := N.2.2.2.2.1; have := N.2.2.2.2.2; omega) hd (kk l D b p e R s m args below meth c H locs cells slots mc ms ls C N hR hS hL)
theorem bq_nn {k : Nat} (h : k < 2 ^ 31) : (nI k).toInt = ((nI k).toNatClampNeg : Int) := by rw [nI_toInt h, nI_clamp h]
/-- arraycopy of the first k ints -/
theorem q_copy {M : BqM} {fr lo kc ks pc : Nat} {vs : List (Option Value)} {st : List Value} {S : BqH} {n : Nat} {I : BqI} {L : BqL} {P : BqP} {post : BqQ} {a0 a1 n0 n1 k idx : Nat} (hd : decode M.2.1 pc = .ok (.invokestatic idx, 3)) (hw : Cond.methodLink M.1.cls idx arraycopyName ∈ bq_TB ∧ Cond.native arraycopyName ∈ bq_TB ∧ Cond.static arraycopyName ∈ bq_TB ∧ Cond.initialized "java/lang/System" ∈ bq_TB) (hs0 : S a0 = (13, n0)) (hs1 : S a1 = (13, n1)) (h0 : a0 < n) (h1 : a1 < n) (hk0 : k ≤ n0) (hk1 : k ≤ n1) (hr : 1 ≤ fr ∧ (st.map fun v => v.category).sum + (nativeFrameWords "java/lang/System" "arraycopy" 5 + 11) ≤ lo)
    (kk : bq_W M fr lo kc ks (pc + 3) vs st S n (bq_r I a1 (fun j => if j < k then I a0 j else I a1 j)) L P post) : bq_W M fr lo kc ks pc vs (.int (nI k) :: .int (nI 0) :: .ref a1 :: .int (nI 0) :: .ref a0 :: st) S n I L P post := by
  intro l D b p e R s m args below meth c H locs cells slots mc ms ls C N hR hS hL
  have hts := C.2.2.2.2.2.1
  have hc0 := hR.2 a0 h0
  rw [hs0] at hc0
  obtain ⟨z0, c0, e0, f0, r0⟩ := hc0.2 (Nat.le_refl 13)
  have hc1 := hR.2 a1 h1
  rw [hs1] at hc1
  obtain ⟨z1, c1, e1, f1, r1⟩ := hc1.2 (Nat.le_refl 13)
  have z0 : n0 < 2 ^ 31 := z0
  have z1 : n1 < 2 ^ 31 := z1
  have ck : (nI k).toNatClampNeg = k := nI_clamp (by omega)
  have c00 : (nI 0).toNatClampNeg = 0 := nI_clamp (by omega)
  have tk : (nI k).toInt = k := nI_toInt (by omega)
  have t0 : (nI 0).toInt = 0 := nI_toInt (n := 0) (by omega)
  intro T hT X
  obtain ⟨-, k0, hk0', cm0, hkk0⟩ := f0 n0 (bq_va 13 b I L P a0)
  obtain ⟨-, k1, hk1', cm1, hkk1⟩ := f1 n1 (bq_va 13 b I L P a1)
  obtain ⟨vm', X', step⟩ := X.arraycopy C.1 C.2.2.2.2.1 (hts _ hw.1) (hts _ hw.2.1) (hts _ hw.2.2.1) (hts _ hw.2.2.2) (src := b + a0) (dst := b + a1) (cs := arrV c0 n0 (bq_va 13 b I L P a0)) (cd := arrV c1 n1 (bq_va 13 b I L P a1)) (srcPos := nI 0) (destPos := nI 0) (n := nI k) (by rw [hT]; exact e0) (by rw [hT]; exact e1)
    (fun _ h => by cases h) (fun _ h => by cases h) (fun h => by cases h) (fun h => by cases h) hk0' hk1' hkk0 hkk1 rfl (nI_pos (by omega)) (nI_pos (by omega)) (nI_pos (by omega))
    (by rw [t0, tk, arrV_size]; omega)
    (by rw [t0, tk, arrV_size]; omega)
    (fun vm₁ _ i hi => by
      rw [ck] at hi
      have e : (arrV c0 n0 (bq_va 13 b I L P a0)).slots.getD ((nI 0).toNatClampNeg + i) .null = .int (I a0 i) := by
        rw [c00, Nat.zero_add, Array.getD_eq_getD_getElem?, arrV_read _ _ (by omega)]
        rfl
      exact ⟨by rw [e]; rfl, by rw [e]; exact trivial⟩)
    (g := F0 m pc ls (.int (nI k) :: .int (nI 0) :: .ref (b + a1) :: .int (nI 0) :: .ref (b + a0) :: st.map (bq_cv b))) rfl (hL.1.trans C.2.2.2.1.symm) (rest := st.map (bq_cv b)) rfl (by rw [C.2.1]; exact hd) (Nat.le_trans hr.1 N.1) (by rw [bq_catM]; have := hr.2; have := N.2.1; show 2 * 0 + _ + _ ≤ _; omega)
  have eq1 : copied (arrV c0 n0 (bq_va 13 b I L P a0)) (arrV c1 n1 (bq_va 13 b I L P a1)) (nI 0) (nI 0) (nI k) = arrV c1 n1 (fun j => .int (va_cpy (I a0) (I a1) (nI 0).toNatClampNeg (nI 0).toNatClampNeg (nI k).toNatClampNeg j)) := va_copied (fun z => .int z) c0 c1 (I a0) (I a1) (by rw [c00, ck]; omega)
  rw [eq1] at X' step
  have hl : b + a1 < H.size := by rw [hR.1]; omega
  generalize hcell : arrV c1 n1 (fun j => Value.int (va_cpy (I a0) (I a1) (nI 0).toNatClampNeg (nI 0).toNatClampNeg (nI k).toNatClampNeg j)) = cell at X' step
  have hheap : ((T.setVm vm').setCell (b + a1) cell).heap = H.setIfInBounds (b + a1) cell := by rw [← hT]; rfl
  have g3 : ∀ q : Nat, q ≠ b + a1 → (H.setIfInBounds (b + a1) cell)[q]? = H[q]? := fun q hq => by simp [Array.getElem?_setIfInBounds, Ne.symm hq]
  have g1 : (H.setIfInBounds (b + a1) cell)[b + a1]? = some (arrV c1 n1 (bq_va 13 b (bq_r I a1 (fun j => if j < k then I a0 j else I a1 j)) L P a1)) := by
    rw [Array.getElem?_setIfInBounds]
    simp only [if_pos hl, if_true]
    rw [← hcell]
    congr 2
    funext j
    unfold bq_va
    rw [bq_r_self, c00, ck]
    unfold va_cpy
    simp only [Nat.zero_le, true_and, Nat.zero_add, Nat.sub_zero]
    rfl
  obtain ⟨t, a2, b2⟩ := kk l D b p e R s m args below meth c (H.setIfInBounds (b + a1) cell) _ cells slots mc ms ls C N
    (bq_stored (I' := bq_r I a1 (fun j => if j < k then I a0 j else I a1 j)) (P' := P) hR hs1 (Nat.le_refl 13) z1 f1 r1 g1 (by simp) g3 (fun a h => bq_r_ne h) (fun _ _ => rfl))
    ⟨by simp; exact hS.1, fun q g4 g5 => by
      rw [g3 q (by have : ¬ b ≤ q := g5; omega)]
      exact hS.2.1 q g4 g5, fun q hq => by
      rcases List.mem_append.mp hq with h | h
      · exact hS.2.2 q h
      · obtain ⟨z, -, hz⟩ := List.mem_map.mp h
        rw [← hz]
        exact Nat.le_add_right b a1⟩ hL _ hheap X'
  exact ⟨t, step t a2, b2⟩

