/-! a block under construction: its cells as a table -/
abbrev BqTb : Type := BqH × BqI × BqP
def Rel (o c : Nat) (T : BqTb) (S : BqH) (n : Nat) (I : BqI) (L : BqL) (P : BqP) : Prop := n = o + c ∧ ∀ d, d < c → S (o + d) = T.1 d ∧ I (o + d) = T.2.1 d ∧ (∀ j, L (o + d) j = 0) ∧ ∀ j, P (o + d) j = (T.2.2 d j).map (fun t => o + t)
def Lo (o : Nat) (S S' : BqH) (I I' : BqI) (L L' : BqL) (P P' : BqP) : Prop := ∀ a, a < o → S' a = S a ∧ I' a = I a ∧ L' a = L a ∧ P' a = P a
def BB (o c : Nat) (T : BqTb) (S0 : BqH) (I0 : BqI) (L0 : BqL) (P0 : BqP) (S : BqH) (n : Nat) (I : BqI) (L : BqL) (P : BqP) : Prop := Rel o c T S n I L P ∧ Lo o S0 S I0 I L0 L P0 P
def t0 (ci : Nat) : BqTb := (fun _ => (ci, 0), fun _ _ => 0, fun _ _ => none)
def tN (T : BqTb) (c : Nat) (kd : Nat × Nat) : BqTb := (bq_r T.1 c kd, bq_r T.2.1 c (fun _ => 0), bq_r T.2.2 c (fun _ => none))
def tI (T : BqTb) (d k : Nat) (v : Int32) : BqTb := (T.1, bq_u T.2.1 d k v, T.2.2)
def tP (T : BqTb) (d k t : Nat) : BqTb := (T.1, T.2.1, bq_u T.2.2 d k (some t))
def tM (T : BqTb) (c : Nat) (U : BqTb) : BqTb := (fun d => if d < c then T.1 d else U.1 (d - c), fun d => if d < c then T.2.1 d else U.2.1 (d - c), fun d j => if d < c then T.2.2 d j else (U.2.2 (d - c) j).map (fun t => c + t))
def qB (o z : Nat) (T : BqTb) (S0 : BqH) (I0 : BqI) (L0 : BqL) (P0 : BqP) : BqQ := fun r S' n' I' L' P' => r = none ∧ BB o z T S0 I0 L0 P0 S' n' I' L' P'
section
variable {o c : Nat} {T : BqTb} {S0 : BqH} {I0 : BqI} {L0 : BqL} {P0 : BqP} {S : BqH} {n : Nat} {I : BqI} {L : BqL} {P : BqP}
theorem BB.sh (h : BB o c T S0 I0 L0 P0 S n I L P) {d : Nat} (hd : d < c) {z : Nat × Nat} (e : T.1 d = z) : S (o + d) = z := (h.1.2 d hd).1.trans e
theorem BB.lt (h : BB o c T S0 I0 L0 P0 S n I L P) {d : Nat} (hd : d < c) : o + d < n := by have := h.1.1; omega
theorem BB.new (h : BB o c T S0 I0 L0 P0 S n I L P) (kd : Nat × Nat) : BB o (c + 1) (tN T c kd) S0 I0 L0 P0 (bq_r S n kd) (n + 1) (bq_r I n (fun _ => 0)) (bq_r L n (fun _ => 0)) (bq_r P n (fun _ => none)) := by
  obtain ⟨⟨hn, h1⟩, h2⟩ := h
  subst hn
  refine ⟨⟨rfl, fun d hd => ?_⟩, fun a ha => ?_⟩
  · by_cases e : d = c
    · subst e
      have e1 : bq_r P (o + d) (fun _ => none) (o + d) = fun _ => none := bq_r_self
      have e2 : (tN T d kd).2.2 d = fun _ => none := bq_r_self
      have e3 : bq_r L (o + d) (fun _ => 0) (o + d) = fun _ => 0 := bq_r_self
      refine ⟨(bq_r_self).trans (bq_r_self (f := T.1) (o := d)).symm, (bq_r_self).trans (bq_r_self (f := T.2.1) (o := d)).symm, fun j => ?_, fun j => ?_⟩
      · rw [e3]
      · rw [e1, e2]; rfl
    · have hne : o + d ≠ o + c := by omega
      unfold tN
      rw [bq_r_ne hne, bq_r_ne hne, bq_r_ne hne, bq_r_ne hne]
      show S (o + d) = bq_r T.1 c kd d ∧ I (o + d) = bq_r T.2.1 c (fun _ => 0) d ∧ (∀ j, L (o + d) j = 0) ∧ ∀ j, P (o + d) j = Option.map (fun t => o + t) (bq_r T.2.2 c (fun _ => none) d j)
      rw [bq_r_ne e, bq_r_ne e, bq_r_ne e]
      exact h1 d (by omega)
  · have hne : a ≠ o + c := by omega
    rw [bq_r_ne hne, bq_r_ne hne, bq_r_ne hne, bq_r_ne hne]
    exact h2 a ha
theorem BB.pI (h : BB o c T S0 I0 L0 P0 S n I L P) {d k : Nat} {v : Int32} (_ : d < c) : BB o c (tI T d k v) S0 I0 L0 P0 S n (bq_u I (o + d) k v) L P := by
  obtain ⟨⟨hn, h1⟩, h2⟩ := h
  refine ⟨⟨hn, fun d' hd' => ⟨(h1 d' hd').1, ?_, (h1 d' hd').2.2⟩⟩, fun a ha => ⟨(h2 a ha).1, (bq_u_ne (by omega)).trans (h2 a ha).2.1, (h2 a ha).2.2⟩⟩
  show bq_u I (o + d) k v (o + d') = bq_u T.2.1 d k v d'
  by_cases e : d' = d
  · subst e
    funext j
    unfold bq_u
    by_cases q : j = k
    · rw [if_pos ⟨rfl, q⟩, if_pos ⟨rfl, q⟩]
    · rw [if_neg (fun z => q z.2), if_neg (fun z => q z.2), (h1 d' hd').2.1]
  · rw [bq_u_ne (by omega), bq_u_ne e]
    exact (h1 d' hd').2.1
theorem BB.pL (h : BB o c T S0 I0 L0 P0 S n I L P) {d k : Nat} {v : Int64} (_ : d < c) (hv : v = 0) : BB o c T S0 I0 L0 P0 S n I (bq_u L (o + d) k v) P := by
  obtain ⟨⟨hn, h1⟩, h2⟩ := h
  refine ⟨⟨hn, fun d' hd' => ⟨(h1 d' hd').1, (h1 d' hd').2.1, fun j => ?_, (h1 d' hd').2.2.2⟩⟩, fun a ha => ⟨(h2 a ha).1, (h2 a ha).2.1, (bq_u_ne (by omega)).trans (h2 a ha).2.2.1, (h2 a ha).2.2.2⟩⟩
  unfold bq_u
  by_cases q : o + d' = o + d ∧ j = k
  · rw [if_pos q, hv]
  · rw [if_neg q]; exact (h1 d' hd').2.2.1 j
theorem BB.pP (h : BB o c T S0 I0 L0 P0 S n I L P) {d k t : Nat} (_ : d < c) : BB o c (tP T d k t) S0 I0 L0 P0 S n I L (bq_u P (o + d) k (some (o + t))) := by
  obtain ⟨⟨hn, h1⟩, h2⟩ := h
  refine ⟨⟨hn, fun d' hd' => ⟨(h1 d' hd').1, (h1 d' hd').2.1, (h1 d' hd').2.2.1, fun j => ?_⟩⟩, fun a ha => ⟨(h2 a ha).1, (h2 a ha).2.1, (h2 a ha).2.2.1, (bq_u_ne (by omega)).trans (h2 a ha).2.2.2⟩⟩
  show bq_u P (o + d) k (some (o + t)) (o + d') j = Option.map (fun t => o + t) (bq_u T.2.2 d k (some t) d' j)
  unfold bq_u
  by_cases q : d' = d ∧ j = k
  · rw [if_pos q, if_pos ⟨by omega, q.2⟩]; rfl
  · rw [if_neg q, if_neg (fun z => q ⟨by omega, z.2⟩)]; exact (h1 d' hd').2.2.2 j
theorem BB.in {ci : Nat} (h : BB o (c + 1) (tN T c (ci, 0)) S0 I0 L0 P0 S n I L P) : BB (o + c) 1 (t0 ci) S I L P S n I L P := by
  obtain ⟨⟨hn, h1⟩, h2⟩ := h
  refine ⟨⟨hn, fun d hd => ?_⟩, fun _ _ => ⟨rfl, rfl, rfl, rfl⟩⟩
  have e : d = 0 := by omega
  subst e
  have h3 := h1 c (by omega)
  have e2 : (tN T c (ci, 0)).2.2 c = fun _ => none := bq_r_self
  exact ⟨h3.1.trans bq_r_self, h3.2.1.trans bq_r_self, h3.2.2.1, fun j => (h3.2.2.2 j).trans (by rw [e2]; rfl)⟩
theorem BB.out {kd : Nat × Nat} {z : Nat} {U : BqTb} {S' : BqH} {n' : Nat} {I' : BqI} {L' : BqL} {P' : BqP} (h : BB o (c + 1) (tN T c kd) S0 I0 L0 P0 S n I L P) (h' : BB (o + c) z U S I L P S' n' I' L' P') : BB o (c + z) (tM T c U) S0 I0 L0 P0 S' n' I' L' P' := by
  obtain ⟨⟨hn, h1⟩, h2⟩ := h
  obtain ⟨⟨hn', h1'⟩, h2'⟩ := h'
  refine ⟨⟨by omega, fun d hd => ?_⟩, fun a ha => ?_⟩
  · by_cases q : d < c
    · obtain ⟨a1, a2, a3, a4⟩ := h2' (o + d) (by omega)
      obtain ⟨b1, b2, b3, b4⟩ := h1 d (by omega)
      have e1 : (tN T c kd).1 d = T.1 d := bq_r_ne (by omega)
      have e2 : (tN T c kd).2.1 d = T.2.1 d := bq_r_ne (by omega)
      have e3 : (tN T c kd).2.2 d = T.2.2 d := bq_r_ne (by omega)
      rw [e1] at b1
      rw [e2] at b2
      rw [e3] at b4
      unfold tM
      refine ⟨?_, ?_, fun j => ?_, fun j => ?_⟩
      · show S' (o + d) = (if d < c then T.1 d else U.1 (d - c))
        rw [if_pos q, a1, b1]
      · show I' (o + d) = (if d < c then T.2.1 d else U.2.1 (d - c))
        rw [if_pos q, a2, b2]
      · rw [a3]; exact b3 j
      · show P' (o + d) j = Option.map (fun t => o + t) (if d < c then T.2.2 d j else (U.2.2 (d - c) j).map (fun t => c + t))
        rw [if_pos q, a4, b4 j]
    · obtain ⟨b1, b2, b3, b4⟩ := h1' (d - c) (by omega)
      rw [show o + c + (d - c) = o + d by omega] at b1 b2 b3 b4
      unfold tM
      refine ⟨?_, ?_, b3, fun j => ?_⟩
      · show S' (o + d) = (if d < c then T.1 d else U.1 (d - c))
        rw [if_neg q, b1]
      · show I' (o + d) = (if d < c then T.2.1 d else U.2.1 (d - c))
        rw [if_neg q, b2]
      · show P' (o + d) j = Option.map (fun t => o + t) (if d < c then T.2.2 d j else (U.2.2 (d - c) j).map (fun t => c + t))
        rw [if_neg q, b4 j]
        cases U.2.2 (d - c) j with
        | none => rfl
        | some t => exact congrArg some (Nat.add_assoc o c t)
  · obtain ⟨a1, a2, a3, a4⟩ := h2' a (by omega)
    obtain ⟨b1, b2, b3, b4⟩ := h2 a ha
    exact ⟨a1.trans b1, a2.trans b2, a3.trans b3, a4.trans b4⟩
end
section
variable {M : BqM} {fr lo kc ks pc : Nat} {vs : List (Option Value)} {st : List Value} {o c : Nat} {T : BqTb} {S0 : BqH} {I0 : BqI} {L0 : BqL} {P0 : BqP} {S : BqH} {n : Nat} {I : BqI} {L : BqL} {P : BqP} {post : BqQ}
theorem t_new {idx ci N1 : Nat} (h : BB o c T S0 I0 L0 P0 S n I L P) (hd : decode M.2.1 pc = .ok (.new idx, 3)) (hw : bq_nw M.1.cls idx ci N1) (hc : ci < 13) (k : ∀ (S' : BqH) (n' : Nat) (I' : BqI) (L' : BqL) (P' : BqP), BB o (c + 1) (tN T c (ci, 0)) S0 I0 L0 P0 S' n' I' L' P' → bq_W M fr lo kc ks (pc + 3) vs (.ref (o + c) :: st) S' n' I' L' P' post) : bq_W M fr lo (kc + 1) (ks + N1) pc vs st S n I L P post := by
  have e := h.1.1
  have h' := h.new (ci, 0)
  subst e
  exact q_new hd hw hc (k _ _ _ _ _ h')
theorem t_newI {len : Nat} {x : Int32} (h : BB o c T S0 I0 L0 P0 S n I L P) (hd : decode M.2.1 pc = .ok (.newarray .int, 2)) (hx : x = nI len) (hl : len < 100000) (k : ∀ (S' : BqH) (n' : Nat) (I' : BqI) (L' : BqL) (P' : BqP), BB o (c + 1) (tN T c (13, len)) S0 I0 L0 P0 S' n' I' L' P' → bq_W M fr lo kc ks (pc + 2) vs (.ref (o + c) :: st) S' n' I' L' P' post) : bq_W M fr lo (kc + 1) (ks + len) pc vs (.int x :: st) S n I L P post := by
  have e := h.1.1
  have h' := h.new (13, len)
  subst e
  exact q_newI hd aI hx hl (k _ _ _ _ _ h')
theorem t_newZ {len : Nat} {x : Int32} (h : BB o c T S0 I0 L0 P0 S n I L P) (hd : decode M.2.1 pc = .ok (.newarray .boolean, 2)) (hx : x = nI len) (hl : len < 100000) (k : ∀ (S' : BqH) (n' : Nat) (I' : BqI) (L' : BqL) (P' : BqP), BB o (c + 1) (tN T c (14, len)) S0 I0 L0 P0 S' n' I' L' P' → bq_W M fr lo kc ks (pc + 2) vs (.ref (o + c) :: st) S' n' I' L' P' post) : bq_W M fr lo (kc + 1) (ks + len) pc vs (.int x :: st) S n I L P post := by
  have e := h.1.1
  have h' := h.new (14, len)
  subst e
  exact q_newZ hd aZ hx hl (k _ _ _ _ _ h')
theorem t_newq {idx len kd : Nat} {X : String} {x : Int32} (h : BB o c T S0 I0 L0 P0 S n I L P) (hd : decode M.2.1 pc = .ok (.anewarray idx, 3)) (hw : Cond.classLink M.1.cls idx X ∈ bq_TB) (hX : X ∈ bq_ao) (hk : 15 ≤ kd) (ht : bq_ty kd = .object X) (hx : x = nI len) (hl : len < 100000) (k : ∀ (S' : BqH) (n' : Nat) (I' : BqI) (L' : BqL) (P' : BqP), BB o (c + 1) (tN T c (kd, len)) S0 I0 L0 P0 S' n' I' L' P' → bq_W M fr lo kc ks (pc + 3) vs (.ref (o + c) :: st) S' n' I' L' P' post) : bq_W M fr lo (kc + 1) (ks + len) pc vs (.int x :: st) S n I L P post := by
  have e := h.1.1
  have h' := h.new (kd, len)
  subst e
  exact q_newq hd hw hX hk ht hx hl (k _ _ _ _ _ h')
theorem t_putI {idx ci z d k : Nat} {x : Int32} (h : BB o c T S0 I0 L0 P0 S n I L P) (hd : decode M.2.1 pc = .ok (.putfield idx, 3)) (hf : bq_fp M.1.cls M.1.name idx ci k) (hc : d < c) (hs : T.1 d = (ci, z)) (ht : (ci < 13) ∧ bq_fty ci k = .int) (kk : ∀ I' : BqI, BB o c (tI T d k x) S0 I0 L0 P0 S n I' L P → bq_W M fr lo kc ks (pc + 3) vs st S n I' L P post) : bq_W M fr lo kc ks pc vs (.int x :: .ref (o + d) :: st) S n I L P post :=
  q_putI hd hf (h.sh hc hs) ht (h.lt hc) (kk _ (h.pI hc))
theorem t_putZ {idx ci z d k : Nat} {x : Int32} (h : BB o c T S0 I0 L0 P0 S n I L P) (hd : decode M.2.1 pc = .ok (.putfield idx, 3)) (hf : bq_fp M.1.cls M.1.name idx ci k) (hc : d < c) (hs : T.1 d = (ci, z)) (ht : (ci < 13) ∧ bq_fty ci k = .boolean) (hz : x = 0 ∨ x = 1) (kk : ∀ I' : BqI, BB o c (tI T d k x) S0 I0 L0 P0 S n I' L P → bq_W M fr lo kc ks (pc + 3) vs st S n I' L P post) : bq_W M fr lo kc ks pc vs (.int x :: .ref (o + d) :: st) S n I L P post :=
  q_putZ hd hf (h.sh hc hs) ht hz (h.lt hc) (kk _ (h.pI hc))
theorem t_putL {idx ci z d k : Nat} {x : Int64} (h : BB o c T S0 I0 L0 P0 S n I L P) (hd : decode M.2.1 pc = .ok (.putfield idx, 3)) (hf : bq_fp M.1.cls M.1.name idx ci k) (hc : d < c) (hs : T.1 d = (ci, z)) (ht : (ci < 13) ∧ bq_fty ci k = .long) (hx : x = 0) (kk : ∀ L' : BqL, BB o c T S0 I0 L0 P0 S n I L' P → bq_W M fr lo kc ks (pc + 3) vs st S n I L' P post) : bq_W M fr lo kc ks pc vs (.long x :: .ref (o + d) :: st) S n I L P post :=
  q_putL hd hf (h.sh hc hs) ht (h.lt hc) (kk _ (h.pL hc hx))
theorem t_putP {idx ci z d k t : Nat} (h : BB o c T S0 I0 L0 P0 S n I L P) (hd : decode M.2.1 pc = .ok (.putfield idx, 3)) (hf : bq_fp M.1.cls M.1.name idx ci k) (hc : d < c) (hs : T.1 d = (ci, z)) (ht : (ci < 13) ∧ bq_tag (bq_fty ci k) = 2) (kk : ∀ P' : BqP, BB o c (tP T d k t) S0 I0 L0 P0 S n I L P' → bq_W M fr lo kc ks (pc + 3) vs st S n I L P' post) : bq_W M fr lo kc ks pc vs (.ref (o + t) :: .ref (o + d) :: st) S n I L P post :=
  q_putP hd hf (h.sh hc hs) ht (h.lt hc) (kk _ (h.pP hc))
theorem t_getP {idx ci z d k t : Nat} (h : BB o c T S0 I0 L0 P0 S n I L P) (hd : decode M.2.1 pc = .ok (.getfield idx, 3)) (hf : bq_fl M.1.cls idx ci k) (hc : d < c) (hs : T.1 d = (ci, z)) (ht : (ci < 13) ∧ bq_tag (bq_fty ci k) = 2) (hp : T.2.2 d k = some t) (kk : bq_W M fr lo kc ks (pc + 3) vs (.ref (o + t) :: st) S n I L P post) : bq_W M fr lo kc ks pc vs (.ref (o + d) :: st) S n I L P post :=
  q_getP hd hf (h.sh hc hs) ht (h.lt hc) (((h.1.2 d hc).2.2.2 k).trans (by rw [hp]; rfl)) kk
theorem t_iast {d j len : Nat} {x y : Int32} (h : BB o c T S0 I0 L0 P0 S n I L P) (hd : decode M.2.1 pc = .ok (.iastore, 1)) (hc : d < c) (hs : T.1 d = (13, len)) (hx : x = nI j) (hj : j < len) (kk : ∀ I' : BqI, BB o c (tI T d j y) S0 I0 L0 P0 S n I' L P → bq_W M fr lo kc ks (pc + 1) vs st S n I' L P post) : bq_W M fr lo kc ks pc vs (.int y :: .int x :: .ref (o + d) :: st) S n I L P post :=
  q_iast hd (h.sh hc hs) (h.lt hc) hx hj (kk _ (h.pI hc))
theorem t_aast {d j len kd t z : Nat} {x : Int32} (h : BB o c T S0 I0 L0 P0 S n I L P) (hd : decode M.2.1 pc = .ok (.aastore, 1)) (hc : d < c) (hs : T.1 d = (kd, len)) (hk : 15 ≤ kd) (hx : x = nI j) (hj : j < len) (ht : t < c) (hq : T.1 t = (bq_ec kd, z)) (kk : ∀ P' : BqP, BB o c (tP T d j t) S0 I0 L0 P0 S n I L P' → bq_W M fr lo kc ks (pc + 1) vs st S n I L P' post) : bq_W M fr lo kc ks pc vs (.ref (o + t) :: .int x :: .ref (o + d) :: st) S n I L P post :=
  q_aast hd (h.sh hc hs) hk (h.lt hc) hx hj (h.sh ht hq) (h.lt ht) (kk _ (h.pP hc))
theorem t_callJ {idx fr' lo' kc' ks' ci z : Nat} {y0 : MethodName} {b0 : ByteArray} {l0 : Nat} {U : BqTb} (h : BB o (c + 1) (tN T c (ci, 0)) S0 I0 L0 P0 S n I L P) (hd : decode M.2.1 pc = .ok (.invokespecial idx, 3)) (hw : bq_cJ M.1.cls idx (y0, b0, l0, none) 0) (hsp : bq_Sp (y0, b0, l0, none) fr' lo' kc' ks' [.ref (o + c)] S n I L P (qB (o + c) z U S I L P)) (hr : fr' + 1 ≤ fr ∧ 8 + (l0 + 11) + lo' ≤ lo) (hW : (st.map fun v => v.category).sum ≤ 8) (k : ∀ (S' : BqH) (n' : Nat) (I' : BqI) (L' : BqL) (P' : BqP), BB o (c + z) (tM T c U) S0 I0 L0 P0 S' n' I' L' P' → bq_W M fr lo kc ks (pc + 3) vs st S' n' I' L' P' post) : bq_W M fr lo (kc + kc') (ks + ks') pc vs (.ref (o + c) :: st) S n I L P post := by
  refine q_callJ hd hw hsp hr rfl rfl hW ?_
  rintro _ S' n' I' L' P' ⟨rfl, h'⟩
  exact k _ _ _ _ _ (h.out h')
theorem t_callI {idx fr' lo' kc' ks' ci z : Nat} {y0 : MethodName} {b0 : ByteArray} {l0 : Nat} {U : BqTb} (h : BB o (c + 1) (tN T c (ci, 0)) S0 I0 L0 P0 S n I L P) (hd : decode M.2.1 pc = .ok (.invokespecial idx, 3)) (hw : bq_cI M.1.cls idx (y0, b0, l0, none) 0) (hsp : bq_Sp (y0, b0, l0, none) fr' lo' kc' ks' [.ref (o + c)] S n I L P (qB (o + c) z U S I L P)) (hr : fr' + 1 ≤ fr ∧ 8 + (l0 + 11) + lo' ≤ lo) (hW : (st.map fun v => v.category).sum ≤ 8) (k : ∀ (S' : BqH) (n' : Nat) (I' : BqI) (L' : BqL) (P' : BqP), BB o (c + z) (tM T c U) S0 I0 L0 P0 S' n' I' L' P' → bq_W M fr lo kc ks (pc + 3) vs st S' n' I' L' P' post) : bq_W M fr lo (kc + kc') (ks + ks') pc vs (.ref (o + c) :: st) S n I L P post := by
  refine q_callI hd hw hsp hr rfl rfl hW ?_
  rintro _ S' n' I' L' P' ⟨rfl, h'⟩
  exact k _ _ _ _ _ (h.out h')
end
