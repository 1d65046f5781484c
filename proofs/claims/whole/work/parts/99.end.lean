/-! a block under construction: its cells as a table -/
abbrev BqTb : Type := BqH × BqI × BqP
def Rel (o c : Nat) (T : BqTb) (S : BqH) (n : Nat) (I : BqI) (L : BqL) (P : BqP) : Prop := n = o + c ∧ ∀ d, d < c → S (o + d) = T.1 d ∧ I (o + d) = T.2.1 d ∧ (∀ j, L (o + d) j = 0) ∧ ∀ j, P (o + d) j = (T.2.2 d j).map (fun t => o + t)
def Lo (o : Nat) (S S' : BqH) (I I' : BqI) (L L' : BqL) (P P' : BqP) : Prop := ∀ a, a < o → S' a = S a ∧ I' a = I a ∧ L' a = L a ∧ P' a = P a
def BB (o c : Nat) (T : BqTb) (S0 : BqH) (I0 : BqI) (L0 : BqL) (P0 : BqP) (S : BqH) (n : Nat) (I : BqI) (L : BqL) (P : BqP) : Prop := Rel o c T S n I L P ∧ Lo o S0 S I0 I L0 L P0 P
def t0 (ci : Nat) : BqTb := (fun _ => (ci, 0), fun _ _ => 0, fun _ _ => none)
def tN (T : BqTb) (c : Nat) (kd : Nat × Nat) : BqTb := (bq_r T.1 c kd, bq_r T.2.1 c (fun _ => 0), bq_r T.2.2 c (fun _ => none))
def tI (T : BqTb) (d k : Nat) (v : Int32) : BqTb := (T.1, bq_u T.2.1 d k v, T.2.2)
def tP (T : BqTb) (d k t : Nat) : BqTb := (T.1, T.2.1, bq_u T.2.2 d k (some t))
def tM (T : BqTb) (c : Nat) (U : BqTb) : BqTb := (fun d => if d < c then T.1 d else U.1 (d - c), fun d => if d < c then T.2.1 d else U.2.1 (d - c), fun d j => if d < c then T.2.2 d j else (U.2.2 (d - c) j).map (fun t => c + t))
def qB (o z : Nat) (T : BqTb) (S0 : BqH) (I0 : BqI) (L0 : BqL) (P0 : BqP) : BqQ := fun r S' n' I' L' P' => r = none ∧ BB o z T S0 I0 L0 P0 S' n' I' L' P'
section
variable {o c : Nat} {T : BqTb} {S0 : BqH} {I0 : BqI} {L0 : BqL} {P0 : BqP} {S : BqH} {n : Nat} {I : BqI} {L : BqL} {P : BqP}
theorem BB.sh (h : BB o c T S0 I0 L0 P0 S n I L P) {d : Nat} (hd : d < c) {z : Nat × Nat} (e : T.1 d = z) : S (o + d) = z := (h.1.2 d hd).1.trans e
theorem BB.lt (h : BB o c T S0 I0 L0 P0 S n I L P) {d : Nat} (hd : d < c) : o + d < n := by have := h.1.1; omega
theorem BB.new (h : BB o c T S0 I0 L0 P0 S n I L P) (kd : Nat × Nat) : BB o (c + 1) (tN T c kd) S0 I0 L0 P0 (bq_r S n kd) (n + 1) (bq_r I n (fun _ => 0)) (bq_r L n (fun _ => 0)) (bq_r P n (fun _ => none)) := by
  obtain ⟨⟨hn, h1⟩, h2⟩ := h
  subst hn
  refine ⟨⟨rfl, fun d hd => ?_⟩, fun a ha => ?_⟩
  · by_cases e : d = c
    · subst e
      have e1 : bq_r P (o + d) (fun _ => none) (o + d) = fun _ => none := bq_r_self
      have e2 : (tN T d kd).2.2 d = fun _ => none := bq_r_self
      have e3 : bq_r L (o + d) (fun _ => 0) (o + d) = fun _ => 0 := bq_r_self
      refine ⟨(bq_r_self).trans (bq_r_self (f := T.1) (o := d)).symm, (bq_r_self).trans (bq_r_self (f := T.2.1) (o := d)).symm, fun j => ?_, fun j => ?_⟩
      · rw [e3]
      · rw [e1, e2]; rfl
    · have hne : o + d ≠ o + c := by omega
      unfold tN
      rw [bq_r_ne hne, bq_r_ne hne, bq_r_ne hne, bq_r_ne hne]
      show S (o + d) = bq_r T.1 c kd d ∧ I (o + d) = bq_r T.2.1 c (fun _ => 0) d ∧ (∀ j, L (o + d) j = 0) ∧ ∀ j, P (o + d) j = Option.map (fun t => o + t) (bq_r T.2.2 c (fun _ => none) d j)
      rw [bq_r_ne e, bq_r_ne e, bq_r_ne e]
      exact h1 d (by omega)
  · have hne : a ≠ o + c := by omega
    rw [bq_r_ne hne, bq_r_ne hne, bq_r_ne hne, bq_r_ne hne]
    exact h2 a ha
theorem BB.pI (h : BB o c T S0 I0 L0 P0 S n I L P) {d k : Nat} {v : Int32} (_ : d < c) : BB o c (tI T d k v) S0 I0 L0 P0 S n (bq_u I (o + d) k v) L P := by
  obtain ⟨⟨hn, h1⟩, h2⟩ := h
  refine ⟨⟨hn, fun d' hd' => ⟨(h1 d' hd').1, ?_, (h1 d' hd').2.2⟩⟩, fun a ha => ⟨(h2 a ha).1, (bq_u_ne (by omega)).trans (h2 a ha).2.1, (h2 a ha).2.2⟩⟩
  show bq_u I (o + d) k v (o + d') = bq_u T.2.1 d k v d'
  by_cases e : d' = d
  · subst e
    funext j
    unfold bq_u
    by_cases q : j = k
    · rw [if_pos ⟨rfl, q⟩, if_pos ⟨rfl, q⟩]
    · rw [if_neg (fun z => q z.2), if_neg (fun z => q z.2), (h1 d' hd').2.1]
  · rw [bq_u_ne (by omega), bq_u_ne e]
    exact (h1 d' hd').2.1
theorem BB.pL (h : BB o c T S0 I0 L0 P0 S n I L P) {d k : Nat} {v : Int64} (_ : d < c) (hv : v = 0) : BB o c T S0 I0 L0 P0 S n I (bq_u L (o + d) k v) P := by
  obtain ⟨⟨hn, h1⟩, h2⟩ := h
  refine ⟨⟨hn, fun d' hd' => ⟨(h1 d' hd').1, (h1 d' hd').2.1, fun j => ?_, (h1 d' hd').2.2.2⟩⟩, fun a ha => ⟨(h2 a ha).1, (h2 a ha).2.1, (bq_u_ne (by omega)).trans (h2 a ha).2.2.1, (h2 a ha).2.2.2⟩⟩
  unfold bq_u
  by_cases q : o + d' = o + d ∧ j = k
  · rw [if_pos q, hv]
  · rw [if_neg q]; exact (h1 d' hd').2.2.1 j
theorem BB.pP (h : BB o c T S0 I0 L0 P0 S n I L P) {d k t : Nat} (_ : d < c) : BB o c (tP T d k t) S0 I0 L0 P0 S n I L (bq_u P (o + d) k (some (o + t))) := by
  obtain ⟨⟨hn, h1⟩, h2⟩ := h
  refine ⟨⟨hn, fun d' hd' => ⟨(h1 d' hd').1, (h1 d' hd').2.1, (h1 d' hd').2.2.1, fun j => ?_⟩⟩, fun a ha => ⟨(h2 a ha).1, (h2 a ha).2.1, (h2 a ha).2.2.1, (bq_u_ne (by omega)).trans (h2 a ha).2.2.2⟩⟩
  show bq_u P (o + d) k (some (o + t)) (o + d') j = Option.map (fun t => o + t) (bq_u T.2.2 d k (some t) d' j)
  unfold bq_u
  by_cases q : d' = d ∧ j = k
  · rw [if_pos q, if_pos ⟨by omega, q.2⟩]; rfl
  · rw [if_neg q, if_neg (fun z => q ⟨by omega, z.2⟩)]; exact (h1 d' hd').2.2.2 j
theorem BB.in {ci : Nat} (h : BB o (c + 1) (tN T c (ci, 0)) S0 I0 L0 P0 S n I L P) : BB (o + c) 1 (t0 ci) S I L P S n I L P := by
  obtain ⟨⟨hn, h1⟩, h2⟩ := h
  refine ⟨⟨hn, fun d hd => ?_⟩, fun _ _ => ⟨rfl, rfl, rfl, rfl⟩⟩
  have e : d = 0 := by omega
  subst e
  have h3 := h1 c (by omega)
  have e2 : (tN T c (ci, 0)).2.2 c = fun _ => none := bq_r_self
  exact ⟨h3.1.trans bq_r_self, h3.2.1.trans bq_r_self, h3.2.2.1, fun j => (h3.2.2.2 j).trans (by rw [e2]; rfl)⟩
theorem BB.out {kd : Nat × Nat} {z : Nat} {U : BqTb} {S' : BqH} {n' : Nat} {I' : BqI} {L' : BqL} {P' : BqP} (h : BB o (c + 1) (tN T c kd) S0 I0 L0 P0 S n I L P) (h' : BB (o + c) z U S I L P S' n' I' L' P') : BB o (c + z) (tM T c U) S0 I0 L0 P0 S' n' I' L' P' := by
  obtain ⟨⟨hn, h1⟩, h2⟩ := h
  obtain ⟨⟨hn', h1'⟩, h2'⟩ := h'
  refine ⟨⟨by omega, fun d hd => ?_⟩, fun a ha => ?_⟩
  · by_cases q : d < c
    · obtain ⟨a1, a2, a3, a4⟩ := h2' (o + d) (by omega)
      obtain ⟨b1, b2, b3, b4⟩ := h1 d (by omega)
      have e1 : (tN T c kd).1 d = T.1 d := bq_r_ne (by omega)
      have e2 : (tN T c kd).2.1 d = T.2.1 d := bq_r_ne (by omega)
      have e3 : (tN T c kd).2.2 d = T.2.2 d := bq_r_ne (by omega)
      rw [e1] at b1
      rw [e2] at b2
      rw [e3] at b4
      unfold tM
      refine ⟨?_, ?_, fun j => ?_, fun j => ?_⟩
      · show S' (o + d) = (if d < c then T.1 d else U.1 (d - c))
        rw [if_pos q, a1, b1]
      · show I' (o + d) = (if d < c then T.2.1 d else U.2.1 (d - c))
        rw [if_pos q, a2, b2]
      · rw [a3]; exact b3 j
      · show P' (o + d) j = Option.map (fun t => o + t) (if d < c then T.2.2 d j else (U.2.2 (d - c) j).map (fun t => c + t))
        rw [if_pos q, a4, b4 j]
    · obtain ⟨b1, b2, b3, b4⟩ := h1' (d - c) (by omega)
      rw [show o + c + (d - c) = o + d by omega] at b1 b2 b3 b4
      unfold tM
      refine ⟨?_, ?_, b3, fun j => ?_⟩
      · show S' (o + d) = (if d < c then T.1 d else U.1 (d - c))
        rw [if_neg q, b1]
      · show I' (o + d) = (if d < c then T.2.1 d else U.2.1 (d - c))
        rw [if_neg q, b2]
      · show P' (o + d) j = Option.map (fun t => o + t) (if d < c then T.2.2 d j else (U.2.2 (d - c) j).map (fun t => c + t))
        rw [if_neg q, b4 j]
        cases U.2.2 (d - c) j with
        | none => rfl
        | some t => exact congrArg some (Nat.add_assoc o c t)
  · obtain ⟨a1, a2, a3, a4⟩ := h2' a (by omega)
    obtain ⟨b1, b2, b3, b4⟩ := h2 a ha
    exact ⟨a1.trans b1, a2.trans b2, a3.trans b3, a4.trans b4⟩
end
section
variable {M : BqM} {fr lo kc ks pc : Nat} {vs : List (Option Value)} {st : List Value} {o c : Nat} {T : BqTb} {S0 : BqH} {I0 : BqI} {L0 : BqL} {P0 : BqP} {S : BqH} {n : Nat} {I : BqI} {L : BqL} {P : BqP} {post : BqQ}
theorem t_new {idx ci N1 : Nat} (h : BB o c T S0 I0 L0 P0 S n I L P) (hd : decode M.2.1 pc = .ok (.new idx, 3)) (hw : bq_nw M.1.cls idx ci N1) (hc : ci < 13) (k : ∀ (S' : BqH) (n' : Nat) (I' : BqI) (L' : BqL) (P' : BqP), BB o (c + 1) (tN T c (ci, 0)) S0 I0 L0 P0 S' n' I' L' P' → bq_W M fr lo kc ks (pc + 3) vs (.ref (o + c) :: st) S' n' I' L' P' post) : bq_W M fr lo (kc + 1) (ks + N1) pc vs st S n I L P post := by
  have e := h.1.1
  have h' := h.new (ci, 0)
  subst e
  exact q_new hd hw hc (k _ _ _ _ _ h')
theorem t_newI {len : Nat} {x : Int32} (h : BB o c T S0 I0 L0 P0 S n I L P) (hd : decode M.2.1 pc = .ok (.newarray .int, 2)) (hx : x = nI len) (hl : len < 100000) (k : ∀ (S' : BqH) (n' : Nat) (I' : BqI) (L' : BqL) (P' : BqP), BB o (c + 1) (tN T c (13, len)) S0 I0 L0 P0 S' n' I' L' P' → bq_W M fr lo kc ks (pc + 2) vs (.ref (o + c) :: st) S' n' I' L' P' post) : bq_W M fr lo (kc + 1) (ks + len) pc vs (.int x :: st) S n I L P post := by
  have e := h.1.1
  have h' := h.new (13, len)
  subst e
  exact q_newI hd aI hx hl (k _ _ _ _ _ h')
theorem t_newZ {len : Nat} {x : Int32} (h : BB o c T S0 I0 L0 P0 S n I L P) (hd : decode M.2.1 pc = .ok (.newarray .boolean, 2)) (hx : x = nI len) (hl : len < 100000) (k : ∀ (S' : BqH) (n' : Nat) (I' : BqI) (L' : BqL) (P' : BqP), BB o (c + 1) (tN T c (14, len)) S0 I0 L0 P0 S' n' I' L' P' → bq_W M fr lo kc ks (pc + 2) vs (.ref (o + c) :: st) S' n' I' L' P' post) : bq_W M fr lo (kc + 1) (ks + len) pc vs (.int x :: st) S n I L P post := by
  have e := h.1.1
  have h' := h.new (14, len)
  subst e
  exact q_newZ hd aZ hx hl (k _ _ _ _ _ h')
theorem t_newq {idx len kd : Nat} {X : String} {x : Int32} (h : BB o c T S0 I0 L0 P0 S n I L P) (hd : decode M.2.1 pc = .ok (.anewarray idx, 3)) (hw : Cond.classLink M.1.cls idx X ∈ bq_TB) (hX : X ∈ bq_ao) (hk : 15 ≤ kd) (ht : bq_ty kd = .object X) (hx : x = nI len) (hl : len < 100000) (k : ∀ (S' : BqH) (n' : Nat) (I' : BqI) (L' : BqL) (P' : BqP), BB o (c + 1) (tN T c (kd, len)) S0 I0 L0 P0 S' n' I' L' P' → bq_W M fr lo kc ks (pc + 3) vs (.ref (o + c) :: st) S' n' I' L' P' post) : bq_W M fr lo (kc + 1) (ks + len) pc vs (.int x :: st) S n I L P post := by
  have e := h.1.1
  have h' := h.new (kd, len)
  subst e
  exact q_newq hd hw hX hk ht hx hl (k _ _ _ _ _ h')
theorem t_putI {idx ci z d k : Nat} {x : Int32} (h : BB o c T S0 I0 L0 P0 S n I L P) (hd : decode M.2.1 pc = .ok (.putfield idx, 3)) (hf : bq_fp M.1.cls M.1.name idx ci k) (hc : d < c) (hs : T.1 d = (ci, z)) (ht : (ci < 13) ∧ bq_fty ci k = .int) (kk : ∀ I' : BqI, BB o c (tI T d k x) S0 I0 L0 P0 S n I' L P → bq_W M fr lo kc ks (pc + 3) vs st S n I' L P post) : bq_W M fr lo kc ks pc vs (.int x :: .ref (o + d) :: st) S n I L P post :=
  q_putI hd hf (h.sh hc hs) ht (h.lt hc) (kk _ (h.pI hc))
theorem t_putZ {idx ci z d k : Nat} {x : Int32} (h : BB o c T S0 I0 L0 P0 S n I L P) (hd : decode M.2.1 pc = .ok (.putfield idx, 3)) (hf : bq_fp M.1.cls M.1.name idx ci k) (hc : d < c) (hs : T.1 d = (ci, z)) (ht : (ci < 13) ∧ bq_fty ci k = .boolean) (hz : x = 0 ∨ x = 1) (kk : ∀ I' : BqI, BB o c (tI T d k x) S0 I0 L0 P0 S n I' L P → bq_W M fr lo kc ks (pc + 3) vs st S n I' L P post) : bq_W M fr lo kc ks pc vs (.int x :: .ref (o + d) :: st) S n I L P post :=
  q_putZ hd hf (h.sh hc hs) ht hz (h.lt hc) (kk _ (h.pI hc))
theorem t_putL {idx ci z d k : Nat} {x : Int64} (h : BB o c T S0 I0 L0 P0 S n I L P) (hd : decode M.2.1 pc = .ok (.putfield idx, 3)) (hf : bq_fp M.1.cls M.1.name idx ci k) (hc : d < c) (hs : T.1 d = (ci, z)) (ht : (ci < 13) ∧ bq_fty ci k = .long) (hx : x = 0) (kk : ∀ L' : BqL, BB o c T S0 I0 L0 P0 S n I L' P → bq_W M fr lo kc ks (pc + 3) vs st S n I L' P post) : bq_W M fr lo kc ks pc vs (.long x :: .ref (o + d) :: st) S n I L P post :=
  q_putL hd hf (h.sh hc hs) ht (h.lt hc) (kk _ (h.pL hc hx))
theorem t_putP {idx ci z d k t : Nat} (h : BB o c T S0 I0 L0 P0 S n I L P) (hd : decode M.2.1 pc = .ok (.putfield idx, 3)) (hf : bq_fp M.1.cls M.1.name idx ci k) (hc : d < c) (hs : T.1 d = (ci, z)) (ht : (ci < 13) ∧ bq_tag (bq_fty ci k) = 2) (kk : ∀ P' : BqP, BB o c (tP T d k t) S0 I0 L0 P0 S n I L P' → bq_W M fr lo kc ks (pc + 3) vs st S n I L P' post) : bq_W M fr lo kc ks pc vs (.ref (o + t) :: .ref (o + d) :: st) S n I L P post :=
  q_putP hd hf (h.sh hc hs) ht (h.lt hc) (kk _ (h.pP hc))
theorem t_getP {idx ci z d k t : Nat} (h : BB o c T S0 I0 L0 P0 S n I L P) (hd : decode M.2.1 pc = .ok (.getfield idx, 3)) (hf : bq_fl M.1.cls idx ci k) (hc : d < c) (hs : T.1 d = (ci, z)) (ht : (ci < 13) ∧ bq_tag (bq_fty ci k) = 2) (hp : T.2.2 d k = some t) (kk : bq_W M fr lo kc ks (pc + 3) vs (.ref (o + t) :: st) S n I L P post) : bq_W M fr lo kc ks pc vs (.ref (o + d) :: st) S n I L P post :=
  q_getP hd hf (h.sh hc hs) ht (h.lt hc) (((h.1.2 d hc).2.2.2 k).trans (by rw [hp]; rfl)) kk
theorem t_iast {d j len : Nat} {x y : Int32} (h : BB o c T S0 I0 L0 P0 S n I L P) (hd : decode M.2.1 pc = .ok (.iastore, 1)) (hc : d < c) (hs : T.1 d = (13, len)) (hx : x = nI j) (hj : j < len) (kk : ∀ I' : BqI, BB o c (tI T d j y) S0 I0 L0 P0 S n I' L P → bq_W M fr lo kc ks (pc + 1) vs st S n I' L P post) : bq_W M fr lo kc ks pc vs (.int y :: .int x :: .ref (o + d) :: st) S n I L P post :=
  q_iast hd (h.sh hc hs) (h.lt hc) hx hj (kk _ (h.pI hc))
theorem t_aast {d j len kd t z : Nat} {x : Int32} (h : BB o c T S0 I0 L0 P0 S n I L P) (hd : decode M.2.1 pc = .ok (.aastore, 1)) (hc : d < c) (hs : T.1 d = (kd, len)) (hk : 15 ≤ kd) (hx : x = nI j) (hj : j < len) (ht : t < c) (hq : T.1 t = (bq_ec kd, z)) (kk : ∀ P' : BqP, BB o c (tP T d j t) S0 I0 L0 P0 S n I L P' → bq_W M fr lo kc ks (pc + 1) vs st S n I L P' post) : bq_W M fr lo kc ks pc vs (.ref (o + t) :: .int x :: .ref (o + d) :: st) S n I L P post :=
  q_aast hd (h.sh hc hs) hk (h.lt hc) hx hj (h.sh ht hq) (h.lt ht) (kk _ (h.pP hc))
theorem t_callJ {idx fr' lo' kc' ks' ci z : Nat} {y0 : MethodName} {b0 : ByteArray} {l0 : Nat} {U : BqTb} (h : BB o (c + 1) (tN T c (ci, 0)) S0 I0 L0 P0 S n I L P) (hd : decode M.2.1 pc = .ok (.invokespecial idx, 3)) (hw : bq_cJ M.1.cls idx (y0, b0, l0, none) 0) (hsp : bq_Sp (y0, b0, l0, none) fr' lo' kc' ks' [.ref (o + c)] S n I L P (qB (o + c) z U S I L P)) (hr : fr' + 1 ≤ fr ∧ 8 + (l0 + 11) + lo' ≤ lo) (hW : (st.map fun v => v.category).sum ≤ 8) (k : ∀ (S' : BqH) (n' : Nat) (I' : BqI) (L' : BqL) (P' : BqP), BB o (c + z) (tM T c U) S0 I0 L0 P0 S' n' I' L' P' → bq_W M fr lo kc ks (pc + 3) vs st S' n' I' L' P' post) : bq_W M fr lo (kc + kc') (ks + ks') pc vs (.ref (o + c) :: st) S n I L P post := by
  refine q_callJ hd hw hsp hr rfl rfl hW ?_
  rintro _ S' n' I' L' P' ⟨rfl, h'⟩
  exact k _ _ _ _ _ (h.out h')
theorem t_callI {idx fr' lo' kc' ks' ci z : Nat} {y0 : MethodName} {b0 : ByteArray} {l0 : Nat} {U : BqTb} (h : BB o (c + 1) (tN T c (ci, 0)) S0 I0 L0 P0 S n I L P) (hd : decode M.2.1 pc = .ok (.invokespecial idx, 3)) (hw : bq_cI M.1.cls idx (y0, b0, l0, none) 0) (hsp : bq_Sp (y0, b0, l0, none) fr' lo' kc' ks' [.ref (o + c)] S n I L P (qB (o + c) z U S I L P)) (hr : fr' + 1 ≤ fr ∧ 8 + (l0 + 11) + lo' ≤ lo) (hW : (st.map fun v => v.category).sum ≤ 8) (k : ∀ (S' : BqH) (n' : Nat) (I' : BqI) (L' : BqL) (P' : BqP), BB o (c + z) (tM T c U) S0 I0 L0 P0 S' n' I' L' P' → bq_W M fr lo kc ks (pc + 3) vs st S' n' I' L' P' post) : bq_W M fr lo (kc + kc') (ks + ks') pc vs (.ref (o + c) :: st) S n I L P post := by
  refine q_callI hd hw hsp hr rfl rfl hW ?_
  rintro _ S' n' I' L' P' ⟨rfl, h'⟩
  exact k _ _ _ _ _ (h.out h')
end
/-! the constructors of the parts -/
def tb0_0 : BqTb := t0 0
def tb0_1 : BqTb := tN tb0_0 1 (13, 16)
def tb0_2 : BqTb := tP tb0_1 0 0 1
def tb0 : BqTb := tb0_2
set_option maxHeartbeats 1000000 in
set_option maxRecDepth 20000 in
theorem c_init0 {S : BqH} {n : Nat} {I : BqI} {L : BqL} {P : BqP} {o : Nat} {S0 : BqH} {I0 : BqI} {L0 : BqL} {P0 : BqP} (h0 : BB o 1 (t0 0) S0 I0 L0 P0 S n I L P) : bq_Sp mX0_init 2 20 1 16 [.ref o] S n I L P (qB o 2 tb0 S0 I0 L0 P0) := by
  refine q_entry (vs := [some (.ref o)]) (by decide +kernel) (by simp) (Nat.le_of_ble_eq_true rfl) rfl ?_
  refine q_aload_n (pc := 0) dX0_init_0 rfl rfl ?_
  refine q_objInit (pc := 1) dX0_init_1 kX0_3 ⟨Nat.le_of_ble_eq_true rfl, Nat.le_of_ble_eq_true rfl⟩ ?_
  refine q_aload_n (pc := 4) dX0_init_4 rfl rfl ?_
  refine q_bipush (pc := 5) (v := nI 16) dX0_init_5 (by decide) ?_
  refine t_newI (M := mX0_init) (kc := 0) (ks := 0) (len := 16) (pc := 7) h0 dX0_init_7 rfl (by decide) (fun S1 n1 I1 L1 P1 h1 => ?_)
  refine t_putP (M := mX0_init) (pc := 9) (d := 0) (t := 1) h1 dX0_init_9 pX0_9 (by decide) rfl ⟨by decide, rfl⟩ (fun P2 h2 => ?_)
  exact q_vret (st := []) (pc := 12) dX0_init_12 rfl ⟨rfl, h2⟩
def tb1_0 : BqTb := t0 1
def tb1_1 : BqTb := tI tb1_0 0 0 (nI 0)
def tb1_2 : BqTb := tI tb1_1 0 1 (nI 0)
def tb1_3 : BqTb := tI tb1_2 0 2 (nI 0)
def tb1_4 : BqTb := tI tb1_3 0 3 (nI 0)
def tb1 : BqTb := tb1_4
set_option maxHeartbeats 1000000 in
set_option maxRecDepth 20000 in
theorem c_init1 {S : BqH} {n : Nat} {I : BqI} {L : BqL} {P : BqP} {o : Nat} {S0 : BqH} {I0 : BqI} {L0 : BqL} {P0 : BqP} (h0 : BB o 1 (t0 1) S0 I0 L0 P0 S n I L P) : bq_Sp mX1_init 2 20 0 0 [.ref o] S n I L P (qB o 1 tb1 S0 I0 L0 P0) := by
  refine q_entry (vs := [some (.ref o)]) (by decide +kernel) (by simp) (Nat.le_of_ble_eq_true rfl) rfl ?_
  refine q_aload_n (pc := 0) dX1_init_0 rfl rfl ?_
  refine q_objInit (pc := 1) dX1_init_1 kX1_1 ⟨Nat.le_of_ble_eq_true rfl, Nat.le_of_ble_eq_true rfl⟩ ?_
  refine q_aload_n (pc := 4) dX1_init_4 rfl rfl ?_
  refine q_iconst (pc := 5) (v := nI 0) dX1_init_5 (by decide) ?_
  refine t_putI (M := mX1_init) (pc := 6) (d := 0) h0 dX1_init_6 (pX1_7 _) (by decide) rfl ⟨by decide, rfl⟩ (fun I1 h1 => ?_)
  refine q_aload_n (pc := 9) dX1_init_9 rfl rfl ?_
  refine q_iconst (pc := 10) (v := nI 0) dX1_init_10 (by decide) ?_
  refine t_putI (M := mX1_init) (pc := 11) (d := 0) h1 dX1_init_11 (pX1_13 _) (by decide) rfl ⟨by decide, rfl⟩ (fun I2 h2 => ?_)
  refine q_aload_n (pc := 14) dX1_init_14 rfl rfl ?_
  refine q_iconst (pc := 15) (v := nI 0) dX1_init_15 (by decide) ?_
  refine t_putI (M := mX1_init) (pc := 16) (d := 0) h2 dX1_init_16 (pX1_16 _) (by decide) rfl ⟨by decide, rfl⟩ (fun I3 h3 => ?_)
  refine q_aload_n (pc := 19) dX1_init_19 rfl rfl ?_
  refine q_iconst (pc := 20) (v := nI 0) dX1_init_20 (by decide) ?_
  refine t_putI (M := mX1_init) (pc := 21) (d := 0) h3 dX1_init_21 (pX1_19 _) (by decide) rfl ⟨by decide, rfl⟩ (fun I4 h4 => ?_)
  exact q_vret (st := []) (pc := 24) dX1_init_24 rfl ⟨rfl, h4⟩
def tb2_0 : BqTb := t0 2
def tb2_1 : BqTb := tI tb2_0 0 0 (nI 0)
def tb2_2 : BqTb := tN tb2_1 1 (13, 320)
def tb2_3 : BqTb := tP tb2_2 0 1 1
def tb2 : BqTb := tb2_3
set_option maxHeartbeats 1000000 in
set_option maxRecDepth 20000 in
theorem c_init2 {S : BqH} {n : Nat} {I : BqI} {L : BqL} {P : BqP} {o : Nat} {S0 : BqH} {I0 : BqI} {L0 : BqL} {P0 : BqP} (h0 : BB o 1 (t0 2) S0 I0 L0 P0 S n I L P) : bq_Sp mX2_init 2 20 1 320 [.ref o] S n I L P (qB o 2 tb2 S0 I0 L0 P0) := by
  refine q_entry (vs := [some (.ref o)]) (by decide +kernel) (by simp) (Nat.le_of_ble_eq_true rfl) rfl ?_
  refine q_aload_n (pc := 0) dX2_init_0 rfl rfl ?_
  refine q_objInit (pc := 1) dX2_init_1 kX2_3 ⟨Nat.le_of_ble_eq_true rfl, Nat.le_of_ble_eq_true rfl⟩ ?_
  refine q_aload_n (pc := 4) dX2_init_4 rfl rfl ?_
  refine q_iconst (pc := 5) (v := nI 0) dX2_init_5 (by decide) ?_
  refine t_putI (M := mX2_init) (pc := 6) (d := 0) h0 dX2_init_6 (pX2_9 _) (by decide) rfl ⟨by decide, rfl⟩ (fun I1 h1 => ?_)
  refine q_aload_n (pc := 9) dX2_init_9 rfl rfl ?_
  refine q_sipush (pc := 10) (v := nI 320) dX2_init_10 (by decide) ?_
  refine t_newI (M := mX2_init) (kc := 0) (ks := 0) (len := 320) (pc := 13) h1 dX2_init_13 rfl (by decide) (fun S2 n2 I2 L2 P2 h2 => ?_)
  refine t_putP (M := mX2_init) (pc := 15) (d := 0) (t := 1) h2 dX2_init_15 pX2_15 (by decide) rfl ⟨by decide, rfl⟩ (fun P3 h3 => ?_)
  exact q_vret (st := []) (pc := 18) dX2_init_18 rfl ⟨rfl, h3⟩
def tb4_0 : BqTb := t0 4
def tb4_1 : BqTb := tI tb4_0 0 0 (nI 0)
def tb4_2 : BqTb := tI tb4_1 0 1 (nI 0)
def tb4_3 : BqTb := tI tb4_2 0 2 (nI 0)
def tb4_4 : BqTb := tI tb4_3 0 3 (nI 0)
def tb4_5 : BqTb := tI tb4_4 0 4 (nI 0)
def tb4_6 : BqTb := tI tb4_5 0 5 (nI 0)
def tb4_7 : BqTb := tI tb4_6 0 6 (nI 0)
def tb4_8 : BqTb := tI tb4_7 0 7 (nI 0)
def tb4 : BqTb := tb4_8
set_option maxHeartbeats 1200000 in
set_option maxRecDepth 20000 in
theorem c_init4 {S : BqH} {n : Nat} {I : BqI} {L : BqL} {P : BqP} {o : Nat} {S0 : BqH} {I0 : BqI} {L0 : BqL} {P0 : BqP} (h0 : BB o 1 (t0 4) S0 I0 L0 P0 S n I L P) : bq_Sp mX4_init 2 20 0 0 [.ref o] S n I L P (qB o 1 tb4 S0 I0 L0 P0) := by
  refine q_entry (vs := [some (.ref o)]) (by decide +kernel) (by simp) (Nat.le_of_ble_eq_true rfl) rfl ?_
  refine q_aload_n (pc := 0) dX4_init_0 rfl rfl ?_
  refine q_objInit (pc := 1) dX4_init_1 kX4_3 ⟨Nat.le_of_ble_eq_true rfl, Nat.le_of_ble_eq_true rfl⟩ ?_
  refine q_aload_n (pc := 4) dX4_init_4 rfl rfl ?_
  refine q_iconst (pc := 5) (v := nI 0) dX4_init_5 (by decide) ?_
  refine t_putI (M := mX4_init) (pc := 6) (d := 0) h0 dX4_init_6 (pX4_9 _) (by decide) rfl ⟨by decide, rfl⟩ (fun I1 h1 => ?_)
  refine q_aload_n (pc := 9) dX4_init_9 rfl rfl ?_
  refine q_iconst (pc := 10) (v := nI 0) dX4_init_10 (by decide) ?_
  refine t_putI (M := mX4_init) (pc := 11) (d := 0) h1 dX4_init_11 (pX4_15 _) (by decide) rfl ⟨by decide, rfl⟩ (fun I2 h2 => ?_)
  refine q_aload_n (pc := 14) dX4_init_14 rfl rfl ?_
  refine q_iconst (pc := 15) (v := nI 0) dX4_init_15 (by decide) ?_
  refine t_putI (M := mX4_init) (pc := 16) (d := 0) h2 dX4_init_16 (pX4_18 _) (by decide) rfl ⟨by decide, rfl⟩ (fun I3 h3 => ?_)
  refine q_aload_n (pc := 19) dX4_init_19 rfl rfl ?_
  refine q_iconst (pc := 20) (v := nI 0) dX4_init_20 (by decide) ?_
  refine t_putI (M := mX4_init) (pc := 21) (d := 0) h3 dX4_init_21 (pX4_21 _) (by decide) rfl ⟨by decide, rfl⟩ (fun I4 h4 => ?_)
  refine q_aload_n (pc := 24) dX4_init_24 rfl rfl ?_
  refine q_iconst (pc := 25) (v := nI 0) dX4_init_25 (by decide) ?_
  refine t_putI (M := mX4_init) (pc := 26) (d := 0) h4 dX4_init_26 (pX4_24 _) (by decide) rfl ⟨by decide, rfl⟩ (fun I5 h5 => ?_)
  refine q_aload_n (pc := 29) dX4_init_29 rfl rfl ?_
  refine q_iconst (pc := 30) (v := nI 0) dX4_init_30 (by decide) ?_
  refine t_putI (M := mX4_init) (pc := 31) (d := 0) h5 dX4_init_31 (pX4_27 _) (by decide) rfl ⟨by decide, rfl⟩ (fun I6 h6 => ?_)
  refine q_aload_n (pc := 34) dX4_init_34 rfl rfl ?_
  refine q_iconst (pc := 35) (v := nI 0) dX4_init_35 (by decide) ?_
  refine t_putI (M := mX4_init) (pc := 36) (d := 0) h6 dX4_init_36 (pX4_30 _) (by decide) rfl ⟨by decide, rfl⟩ (fun I7 h7 => ?_)
  refine q_aload_n (pc := 39) dX4_init_39 rfl rfl ?_
  refine q_iconst (pc := 40) (v := nI 0) dX4_init_40 (by decide) ?_
  refine t_putI (M := mX4_init) (pc := 41) (d := 0) h7 dX4_init_41 (pX4_33 _) (by decide) rfl ⟨by decide, rfl⟩ (fun I8 h8 => ?_)
  refine q_aload_n (pc := 44) dX4_init_44 rfl rfl ?_
  refine q_lconst (pc := 45) dX4_init_45 rfl ?_
  refine t_putL (M := mX4_init) (pc := 46) (d := 0) h8 dX4_init_46 (pX4_36 _) (by decide) rfl ⟨by decide, rfl⟩ rfl (fun L9 h9 => ?_)
  exact q_vret (st := []) (pc := 49) dX4_init_49 rfl ⟨rfl, h9⟩
def tb7_0 : BqTb := t0 7
def tb7_1 : BqTb := tI tb7_0 0 0 (nI 0)
def tb7_2 : BqTb := tI tb7_1 0 1 (nI 0)
def tb7_3 : BqTb := tI tb7_2 0 2 (nI 0)
def tb7 : BqTb := tb7_3
set_option maxHeartbeats 1000000 in
set_option maxRecDepth 20000 in
theorem c_init7 {S : BqH} {n : Nat} {I : BqI} {L : BqL} {P : BqP} {o : Nat} {S0 : BqH} {I0 : BqI} {L0 : BqL} {P0 : BqP} (h0 : BB o 1 (t0 7) S0 I0 L0 P0 S n I L P) : bq_Sp mX7_init 2 20 0 0 [.ref o] S n I L P (qB o 1 tb7 S0 I0 L0 P0) := by
  refine q_entry (vs := [some (.ref o)]) (by decide +kernel) (by simp) (Nat.le_of_ble_eq_true rfl) rfl ?_
  refine q_aload_n (pc := 0) dX7_init_0 rfl rfl ?_
  refine q_objInit (pc := 1) dX7_init_1 kX7_1 ⟨Nat.le_of_ble_eq_true rfl, Nat.le_of_ble_eq_true rfl⟩ ?_
  refine q_aload_n (pc := 4) dX7_init_4 rfl rfl ?_
  refine q_iconst (pc := 5) (v := nI 0) dX7_init_5 (by decide) ?_
  refine t_putI (M := mX7_init) (pc := 6) (d := 0) h0 dX7_init_6 (pX7_7 _) (by decide) rfl ⟨by decide, rfl⟩ (fun I1 h1 => ?_)
  refine q_aload_n (pc := 9) dX7_init_9 rfl rfl ?_
  refine q_iconst (pc := 10) (v := nI 0) dX7_init_10 (by decide) ?_
  refine t_putI (M := mX7_init) (pc := 11) (d := 0) h1 dX7_init_11 (pX7_13 _) (by decide) rfl ⟨by decide, rfl⟩ (fun I2 h2 => ?_)
  refine q_aload_n (pc := 14) dX7_init_14 rfl rfl ?_
  refine q_iconst (pc := 15) (v := nI 0) dX7_init_15 (by decide) ?_
  refine t_putI (M := mX7_init) (pc := 16) (d := 0) h2 dX7_init_16 (pX7_16 _) (by decide) rfl ⟨by decide, rfl⟩ (fun I3 h3 => ?_)
  exact q_vret (st := []) (pc := 19) dX7_init_19 rfl ⟨rfl, h3⟩
def tb6_0 : BqTb := t0 6
def tb6_1 : BqTb := tN tb6_0 1 (0, 0)
def tb6_2 : BqTb := tM tb6_0 1 tb0
def tb6_3 : BqTb := tP tb6_2 0 0 1
def tb6_4 : BqTb := tN tb6_3 3 (13, 16)
def tb6_5 : BqTb := tP tb6_4 0 1 3
def tb6 : BqTb := tb6_5
set_option maxHeartbeats 1000000 in
set_option maxRecDepth 20000 in
theorem c_init6 {S : BqH} {n : Nat} {I : BqI} {L : BqL} {P : BqP} {o : Nat} {S0 : BqH} {I0 : BqI} {L0 : BqL} {P0 : BqP} (h0 : BB o 1 (t0 6) S0 I0 L0 P0 S n I L P) : bq_Sp mX6_init 3 40 3 33 [.ref o] S n I L P (qB o 4 tb6 S0 I0 L0 P0) := by
  refine q_entry (vs := [some (.ref o)]) (by decide +kernel) (by simp) (Nat.le_of_ble_eq_true rfl) rfl ?_
  refine q_aload_n (pc := 0) dX6_init_0 rfl rfl ?_
  refine q_objInit (pc := 1) dX6_init_1 kX6_3 ⟨Nat.le_of_ble_eq_true rfl, Nat.le_of_ble_eq_true rfl⟩ ?_
  refine q_aload_n (pc := 4) dX6_init_4 rfl rfl ?_
  refine t_new (M := mX6_init) (kc := 2) (ks := 32) (pc := 5) h0 dX6_init_5 nX6_9 (by decide) (fun S1 n1 I1 L1 P1 h1 => ?_)
  refine q_dup (pc := 8) dX6_init_8 rfl ?_
  refine t_callJ (M := mX6_init) (kc := 1) (ks := 16) (kc' := 1) (ks' := 16) (pc := 9) h1 dX6_init_9 kX6_11 (c_init0 h1.in) ⟨Nat.le_of_ble_eq_true rfl, Nat.le_of_ble_eq_true rfl⟩ (Nat.le_of_ble_eq_true rfl) (fun S2 n2 I2 L2 P2 h2 => ?_)
  refine t_putP (M := mX6_init) (pc := 12) (d := 0) (t := 1) h2 dX6_init_12 pX6_12 (by decide) rfl ⟨by decide, rfl⟩ (fun P3 h3 => ?_)
  refine q_aload_n (pc := 15) dX6_init_15 rfl rfl ?_
  refine q_bipush (pc := 16) (v := nI 16) dX6_init_16 (by decide) ?_
  refine t_newI (M := mX6_init) (kc := 0) (ks := 0) (len := 16) (pc := 18) h3 dX6_init_18 rfl (by decide) (fun S4 n4 I4 L4 P4 h4 => ?_)
  refine t_putP (M := mX6_init) (pc := 20) (d := 0) (t := 3) h4 dX6_init_20 pX6_18 (by decide) rfl ⟨by decide, rfl⟩ (fun P5 h5 => ?_)
  exact q_vret (st := []) (pc := 23) dX6_init_23 rfl ⟨rfl, h5⟩
def tb9_0 : BqTb := t0 9
def tb9_1 : BqTb := tI tb9_0 0 0 (nI 1000)
def tb9_2 : BqTb := tI tb9_1 0 1 (nI 0)
def tb9_3 : BqTb := tI tb9_2 0 2 (nI 0)
def tb9_4 : BqTb := tN tb9_3 1 (0, 0)
def tb9_5 : BqTb := tM tb9_3 1 tb0
def tb9_6 : BqTb := tP tb9_5 0 3 1
def tb9 : BqTb := tb9_6
set_option maxHeartbeats 1000000 in
set_option maxRecDepth 20000 in
theorem c_init9 {S : BqH} {n : Nat} {I : BqI} {L : BqL} {P : BqP} {o : Nat} {S0 : BqH} {I0 : BqI} {L0 : BqL} {P0 : BqP} (h0 : BB o 1 (t0 9) S0 I0 L0 P0 S n I L P) : bq_Sp mX9_init 3 40 2 17 [.ref o] S n I L P (qB o 3 tb9 S0 I0 L0 P0) := by
  refine q_entry (vs := [some (.ref o)]) (by decide +kernel) (by simp) (Nat.le_of_ble_eq_true rfl) rfl ?_
  refine q_aload_n (pc := 0) dX9_init_0 rfl rfl ?_
  refine q_objInit (pc := 1) dX9_init_1 kX9_3 ⟨Nat.le_of_ble_eq_true rfl, Nat.le_of_ble_eq_true rfl⟩ ?_
  refine q_aload_n (pc := 4) dX9_init_4 rfl rfl ?_
  refine q_sipush (pc := 5) (v := nI 1000) dX9_init_5 (by decide) ?_
  refine t_putI (M := mX9_init) (pc := 8) (d := 0) h0 dX9_init_8 (pX9_9 _) (by decide) rfl ⟨by decide, rfl⟩ (fun I1 h1 => ?_)
  refine q_aload_n (pc := 11) dX9_init_11 rfl rfl ?_
  refine q_iconst (pc := 12) (v := nI 0) dX9_init_12 (by decide) ?_
  refine t_putI (M := mX9_init) (pc := 13) (d := 0) h1 dX9_init_13 (pX9_15 _) (by decide) rfl ⟨by decide, rfl⟩ (fun I2 h2 => ?_)
  refine q_aload_n (pc := 16) dX9_init_16 rfl rfl ?_
  refine q_iconst (pc := 17) (v := nI 0) dX9_init_17 (by decide) ?_
  refine t_putI (M := mX9_init) (pc := 18) (d := 0) h2 dX9_init_18 (pX9_18 _) (by decide) rfl ⟨by decide, rfl⟩ (fun I3 h3 => ?_)
  refine q_aload_n (pc := 21) dX9_init_21 rfl rfl ?_
  refine t_new (M := mX9_init) (kc := 1) (ks := 16) (pc := 22) h3 dX9_init_22 nX9_21 (by decide) (fun S4 n4 I4 L4 P4 h4 => ?_)
  refine q_dup (pc := 25) dX9_init_25 rfl ?_
  refine t_callJ (M := mX9_init) (kc := 0) (ks := 0) (kc' := 1) (ks' := 16) (pc := 26) h4 dX9_init_26 kX9_23 (c_init0 h4.in) ⟨Nat.le_of_ble_eq_true rfl, Nat.le_of_ble_eq_true rfl⟩ (Nat.le_of_ble_eq_true rfl) (fun S5 n5 I5 L5 P5 h5 => ?_)
  refine t_putP (M := mX9_init) (pc := 29) (d := 0) (t := 1) h5 dX9_init_29 pX9_24 (by decide) rfl ⟨by decide, rfl⟩ (fun P6 h6 => ?_)
  exact q_vret (st := []) (pc := 32) dX9_init_32 rfl ⟨rfl, h6⟩
def tb3_0 : BqTb := t0 3
def tb3_1 : BqTb := tN tb3_0 1 (6, 0)
def tb3_2 : BqTb := tM tb3_0 1 tb6
def tb3_3 : BqTb := tP tb3_2 0 0 1
def tb3 : BqTb := tb3_3
set_option maxHeartbeats 1000000 in
set_option maxRecDepth 20000 in
theorem c_init3 {S : BqH} {n : Nat} {I : BqI} {L : BqL} {P : BqP} {o : Nat} {S0 : BqH} {I0 : BqI} {L0 : BqL} {P0 : BqP} (h0 : BB o 1 (t0 3) S0 I0 L0 P0 S n I L P) : bq_Sp mX3_init 4 60 4 35 [.ref o] S n I L P (qB o 5 tb3 S0 I0 L0 P0) := by
  refine q_entry (vs := [some (.ref o)]) (by decide +kernel) (by simp) (Nat.le_of_ble_eq_true rfl) rfl ?_
  refine q_aload_n (pc := 0) dX3_init_0 rfl rfl ?_
  refine q_objInit (pc := 1) dX3_init_1 kX3_3 ⟨Nat.le_of_ble_eq_true rfl, Nat.le_of_ble_eq_true rfl⟩ ?_
  refine q_aload_n (pc := 4) dX3_init_4 rfl rfl ?_
  refine t_new (M := mX3_init) (kc := 3) (ks := 33) (pc := 5) h0 dX3_init_5 nX3_9 (by decide) (fun S1 n1 I1 L1 P1 h1 => ?_)
  refine q_dup (pc := 8) dX3_init_8 rfl ?_
  refine t_callJ (M := mX3_init) (kc := 0) (ks := 0) (kc' := 3) (ks' := 33) (pc := 9) h1 dX3_init_9 kX3_11 (c_init6 h1.in) ⟨Nat.le_of_ble_eq_true rfl, Nat.le_of_ble_eq_true rfl⟩ (Nat.le_of_ble_eq_true rfl) (fun S2 n2 I2 L2 P2 h2 => ?_)
  refine t_putP (M := mX3_init) (pc := 12) (d := 0) (t := 1) h2 dX3_init_12 pX3_12 (by decide) rfl ⟨by decide, rfl⟩ (fun P3 h3 => ?_)
  exact q_vret (st := []) (pc := 15) dX3_init_15 rfl ⟨rfl, h3⟩
def tb5_0 : BqTb := t0 5
def tb5_1 : BqTb := tI tb5_0 0 0 (nI 0)
def tb5_2 : BqTb := tN tb5_1 1 (13, 10)
def tb5_3 : BqTb := tP tb5_2 0 1 1
def tb5_4 : BqTb := tN tb5_3 2 (13, 10)
def tb5_5 : BqTb := tP tb5_4 0 2 2
def tb5_6 : BqTb := tI tb5_5 0 3 (nI 0)
def tb5_7 : BqTb := tN tb5_6 3 (13, 10)
def tb5_8 : BqTb := tP tb5_7 0 4 3
def tb5_9 : BqTb := tN tb5_8 4 (15, 6)
def tb5_10 : BqTb := tP tb5_9 0 5 4
def tb5_11 : BqTb := tN tb5_10 5 (6, 0)
def tb5_12 : BqTb := tM tb5_10 5 tb6
def tb5_13 : BqTb := tP tb5_12 0 6 5
def tb5_14 : BqTb := tN tb5_13 9 (0, 0)
def tb5_15 : BqTb := tM tb5_13 9 tb0
def tb5_16 : BqTb := tP tb5_15 4 0 9
def tb5_17 : BqTb := tN tb5_16 11 (0, 0)
def tb5_18 : BqTb := tM tb5_16 11 tb0
def tb5_19 : BqTb := tP tb5_18 4 1 11
def tb5_20 : BqTb := tN tb5_19 13 (0, 0)
def tb5_21 : BqTb := tM tb5_19 13 tb0
def tb5_22 : BqTb := tP tb5_21 4 2 13
def tb5_23 : BqTb := tN tb5_22 15 (0, 0)
def tb5_24 : BqTb := tM tb5_22 15 tb0
def tb5_25 : BqTb := tP tb5_24 4 3 15
def tb5_26 : BqTb := tN tb5_25 17 (0, 0)
def tb5_27 : BqTb := tM tb5_25 17 tb0
def tb5_28 : BqTb := tP tb5_27 4 4 17
def tb5_29 : BqTb := tN tb5_28 19 (0, 0)
def tb5_30 : BqTb := tM tb5_28 19 tb0
def tb5_31 : BqTb := tP tb5_30 4 5 19
def tb5 : BqTb := tb5_31
set_option maxHeartbeats 4560000 in
set_option maxRecDepth 20000 in
theorem c_init5 {S : BqH} {n : Nat} {I : BqI} {L : BqL} {P : BqP} {o : Nat} {S0 : BqH} {I0 : BqI} {L0 : BqL} {P0 : BqP} (h0 : BB o 1 (t0 5) S0 I0 L0 P0 S n I L P) : bq_Sp mX5_init 4 60 20 173 [.ref o] S n I L P (qB o 21 tb5 S0 I0 L0 P0) := by
  refine q_entry (vs := [some (.ref o), none]) (by decide +kernel) (by simp) (Nat.le_of_ble_eq_true rfl) rfl ?_
  refine q_aload_n (pc := 0) dX5_init_0 rfl rfl ?_
  refine q_objInit (pc := 1) dX5_init_1 kX5_3 ⟨Nat.le_of_ble_eq_true rfl, Nat.le_of_ble_eq_true rfl⟩ ?_
  refine q_aload_n (pc := 4) dX5_init_4 rfl rfl ?_
  refine q_iconst (pc := 5) (v := nI 0) dX5_init_5 (by decide) ?_
  refine t_putI (M := mX5_init) (pc := 6) (d := 0) h0 dX5_init_6 (pX5_9 _) (by decide) rfl ⟨by decide, rfl⟩ (fun I1 h1 => ?_)
  refine q_aload_n (pc := 9) dX5_init_9 rfl rfl ?_
  refine q_bipush (pc := 10) (v := nI 10) dX5_init_10 (by decide) ?_
  refine t_newI (M := mX5_init) (kc := 19) (ks := 163) (len := 10) (pc := 12) h1 dX5_init_12 rfl (by decide) (fun S2 n2 I2 L2 P2 h2 => ?_)
  refine t_putP (M := mX5_init) (pc := 14) (d := 0) (t := 1) h2 dX5_init_14 pX5_15 (by decide) rfl ⟨by decide, rfl⟩ (fun P3 h3 => ?_)
  refine q_aload_n (pc := 17) dX5_init_17 rfl rfl ?_
  refine q_bipush (pc := 18) (v := nI 10) dX5_init_18 (by decide) ?_
  refine t_newI (M := mX5_init) (kc := 18) (ks := 153) (len := 10) (pc := 20) h3 dX5_init_20 rfl (by decide) (fun S4 n4 I4 L4 P4 h4 => ?_)
  refine t_putP (M := mX5_init) (pc := 22) (d := 0) (t := 2) h4 dX5_init_22 pX5_19 (by decide) rfl ⟨by decide, rfl⟩ (fun P5 h5 => ?_)
  refine q_aload_n (pc := 25) dX5_init_25 rfl rfl ?_
  refine q_iconst (pc := 26) (v := nI 0) dX5_init_26 (by decide) ?_
  refine t_putI (M := mX5_init) (pc := 27) (d := 0) h5 dX5_init_27 (pX5_22 _) (by decide) rfl ⟨by decide, rfl⟩ (fun I6 h6 => ?_)
  refine q_aload_n (pc := 30) dX5_init_30 rfl rfl ?_
  refine q_bipush (pc := 31) (v := nI 10) dX5_init_31 (by decide) ?_
  refine t_newI (M := mX5_init) (kc := 17) (ks := 143) (len := 10) (pc := 33) h6 dX5_init_33 rfl (by decide) (fun S7 n7 I7 L7 P7 h7 => ?_)
  refine t_putP (M := mX5_init) (pc := 35) (d := 0) (t := 3) h7 dX5_init_35 pX5_25 (by decide) rfl ⟨by decide, rfl⟩ (fun P8 h8 => ?_)
  refine q_aload_n (pc := 38) dX5_init_38 rfl rfl ?_
  refine q_bipush (pc := 39) (v := nI 6) dX5_init_39 (by decide) ?_
  refine t_newq (M := mX5_init) (kc := 16) (ks := 137) (len := 6) (kd := 15) (pc := 41) h8 dX5_init_41 qX5_28 (by decide) (by decide) rfl rfl (by decide) (fun S9 n9 I9 L9 P9 h9 => ?_)
  refine t_putP (M := mX5_init) (pc := 44) (d := 0) (t := 4) h9 dX5_init_44 pX5_30 (by decide) rfl ⟨by decide, rfl⟩ (fun P10 h10 => ?_)
  refine q_aload_n (pc := 47) dX5_init_47 rfl rfl ?_
  refine t_new (M := mX5_init) (kc := 15) (ks := 135) (pc := 48) h10 dX5_init_48 nX5_34 (by decide) (fun S11 n11 I11 L11 P11 h11 => ?_)
  refine q_dup (pc := 51) dX5_init_51 rfl ?_
  refine t_callJ (M := mX5_init) (kc := 12) (ks := 102) (kc' := 3) (ks' := 33) (pc := 52) h11 dX5_init_52 kX5_36 (c_init6 h11.in) ⟨Nat.le_of_ble_eq_true rfl, Nat.le_of_ble_eq_true rfl⟩ (Nat.le_of_ble_eq_true rfl) (fun S12 n12 I12 L12 P12 h12 => ?_)
  refine t_putP (M := mX5_init) (pc := 55) (d := 0) (t := 5) h12 dX5_init_55 pX5_37 (by decide) rfl ⟨by decide, rfl⟩ (fun P13 h13 => ?_)
  refine q_iconst (pc := 58) (v := nI 0) dX5_init_58 (by decide) ?_
  refine q_istore_n (pc := 59) dX5_init_59 rfl (Nat.le_of_ble_eq_true rfl) rfl ?_
  show bq_W _ _ _ _ _ 60 [_, _] _ _ _ _ _ _ _
  refine q_iload_n (pc := 60) dX5_init_60 rfl rfl ?_
  refine q_bipush (pc := 61) (v := nI 6) dX5_init_61 (by decide) ?_
  refine q_icmp_ge (pc := 63) 85 dX5_init_63 (by decide) (fun c_63 => absurd c_63 (by decide)) (fun c_63 => ?_)
  refine q_aload_n (pc := 66) dX5_init_66 rfl rfl ?_
  refine t_getP (M := mX5_init) (pc := 67) (d := 0) (t := 4) h13 dX5_init_67 fX5_30 (by decide) rfl ⟨by decide, rfl⟩ rfl ?_
  refine q_iload_n (pc := 70) dX5_init_70 rfl rfl ?_
  refine t_new (M := mX5_init) (kc := 11) (ks := 101) (pc := 71) h13 dX5_init_71 nX5_28 (by decide) (fun S14 n14 I14 L14 P14 h14 => ?_)
  refine q_dup (pc := 74) dX5_init_74 rfl ?_
  refine t_callJ (M := mX5_init) (kc := 10) (ks := 85) (kc' := 1) (ks' := 16) (pc := 75) h14 dX5_init_75 kX5_41 (c_init0 h14.in) ⟨Nat.le_of_ble_eq_true rfl, Nat.le_of_ble_eq_true rfl⟩ (Nat.le_of_ble_eq_true rfl) (fun S15 n15 I15 L15 P15 h15 => ?_)
  refine t_aast (M := mX5_init) (pc := 78) (d := 4) (j := 0) (t := 9) h15 dX5_init_78 (by decide) rfl (by decide) rfl (by decide) (by decide) rfl (fun P16 h16 => ?_)
  refine q_iinc (pc := 79) (v := nI 1) dX5_init_79 rfl (bq_inc _) (Nat.le_of_ble_eq_true rfl) rfl ?_
  show bq_W _ _ _ _ _ 82 [_, _] _ _ _ _ _ _ _
  refine q_goto (pc := 82) 60 dX5_init_82 (by decide) ?_
  refine q_iload_n (pc := 60) dX5_init_60 rfl rfl ?_
  refine q_bipush (pc := 61) (v := nI 6) dX5_init_61 (by decide) ?_
  refine q_icmp_ge (pc := 63) 85 dX5_init_63 (by decide) (fun c_63 => absurd c_63 (by decide)) (fun c_63 => ?_)
  refine q_aload_n (pc := 66) dX5_init_66 rfl rfl ?_
  refine t_getP (M := mX5_init) (pc := 67) (d := 0) (t := 4) h16 dX5_init_67 fX5_30 (by decide) rfl ⟨by decide, rfl⟩ rfl ?_
  refine q_iload_n (pc := 70) dX5_init_70 rfl rfl ?_
  refine t_new (M := mX5_init) (kc := 9) (ks := 84) (pc := 71) h16 dX5_init_71 nX5_28 (by decide) (fun S17 n17 I17 L17 P17 h17 => ?_)
  refine q_dup (pc := 74) dX5_init_74 rfl ?_
  refine t_callJ (M := mX5_init) (kc := 8) (ks := 68) (kc' := 1) (ks' := 16) (pc := 75) h17 dX5_init_75 kX5_41 (c_init0 h17.in) ⟨Nat.le_of_ble_eq_true rfl, Nat.le_of_ble_eq_true rfl⟩ (Nat.le_of_ble_eq_true rfl) (fun S18 n18 I18 L18 P18 h18 => ?_)
  refine t_aast (M := mX5_init) (pc := 78) (d := 4) (j := 1) (t := 11) h18 dX5_init_78 (by decide) rfl (by decide) rfl (by decide) (by decide) rfl (fun P19 h19 => ?_)
  refine q_iinc (pc := 79) (v := nI 2) dX5_init_79 rfl (bq_inc _) (Nat.le_of_ble_eq_true rfl) rfl ?_
  show bq_W _ _ _ _ _ 82 [_, _] _ _ _ _ _ _ _
  refine q_goto (pc := 82) 60 dX5_init_82 (by decide) ?_
  refine q_iload_n (pc := 60) dX5_init_60 rfl rfl ?_
  refine q_bipush (pc := 61) (v := nI 6) dX5_init_61 (by decide) ?_
  refine q_icmp_ge (pc := 63) 85 dX5_init_63 (by decide) (fun c_63 => absurd c_63 (by decide)) (fun c_63 => ?_)
  refine q_aload_n (pc := 66) dX5_init_66 rfl rfl ?_
  refine t_getP (M := mX5_init) (pc := 67) (d := 0) (t := 4) h19 dX5_init_67 fX5_30 (by decide) rfl ⟨by decide, rfl⟩ rfl ?_
  refine q_iload_n (pc := 70) dX5_init_70 rfl rfl ?_
  refine t_new (M := mX5_init) (kc := 7) (ks := 67) (pc := 71) h19 dX5_init_71 nX5_28 (by decide) (fun S20 n20 I20 L20 P20 h20 => ?_)
  refine q_dup (pc := 74) dX5_init_74 rfl ?_
  refine t_callJ (M := mX5_init) (kc := 6) (ks := 51) (kc' := 1) (ks' := 16) (pc := 75) h20 dX5_init_75 kX5_41 (c_init0 h20.in) ⟨Nat.le_of_ble_eq_true rfl, Nat.le_of_ble_eq_true rfl⟩ (Nat.le_of_ble_eq_true rfl) (fun S21 n21 I21 L21 P21 h21 => ?_)
  refine t_aast (M := mX5_init) (pc := 78) (d := 4) (j := 2) (t := 13) h21 dX5_init_78 (by decide) rfl (by decide) rfl (by decide) (by decide) rfl (fun P22 h22 => ?_)
  refine q_iinc (pc := 79) (v := nI 3) dX5_init_79 rfl (bq_inc _) (Nat.le_of_ble_eq_true rfl) rfl ?_
  show bq_W _ _ _ _ _ 82 [_, _] _ _ _ _ _ _ _
  refine q_goto (pc := 82) 60 dX5_init_82 (by decide) ?_
  refine q_iload_n (pc := 60) dX5_init_60 rfl rfl ?_
  refine q_bipush (pc := 61) (v := nI 6) dX5_init_61 (by decide) ?_
  refine q_icmp_ge (pc := 63) 85 dX5_init_63 (by decide) (fun c_63 => absurd c_63 (by decide)) (fun c_63 => ?_)
  refine q_aload_n (pc := 66) dX5_init_66 rfl rfl ?_
  refine t_getP (M := mX5_init) (pc := 67) (d := 0) (t := 4) h22 dX5_init_67 fX5_30 (by decide) rfl ⟨by decide, rfl⟩ rfl ?_
  refine q_iload_n (pc := 70) dX5_init_70 rfl rfl ?_
  refine t_new (M := mX5_init) (kc := 5) (ks := 50) (pc := 71) h22 dX5_init_71 nX5_28 (by decide) (fun S23 n23 I23 L23 P23 h23 => ?_)
  refine q_dup (pc := 74) dX5_init_74 rfl ?_
  refine t_callJ (M := mX5_init) (kc := 4) (ks := 34) (kc' := 1) (ks' := 16) (pc := 75) h23 dX5_init_75 kX5_41 (c_init0 h23.in) ⟨Nat.le_of_ble_eq_true rfl, Nat.le_of_ble_eq_true rfl⟩ (Nat.le_of_ble_eq_true rfl) (fun S24 n24 I24 L24 P24 h24 => ?_)
  refine t_aast (M := mX5_init) (pc := 78) (d := 4) (j := 3) (t := 15) h24 dX5_init_78 (by decide) rfl (by decide) rfl (by decide) (by decide) rfl (fun P25 h25 => ?_)
  refine q_iinc (pc := 79) (v := nI 4) dX5_init_79 rfl (bq_inc _) (Nat.le_of_ble_eq_true rfl) rfl ?_
  show bq_W _ _ _ _ _ 82 [_, _] _ _ _ _ _ _ _
  refine q_goto (pc := 82) 60 dX5_init_82 (by decide) ?_
  refine q_iload_n (pc := 60) dX5_init_60 rfl rfl ?_
  refine q_bipush (pc := 61) (v := nI 6) dX5_init_61 (by decide) ?_
  refine q_icmp_ge (pc := 63) 85 dX5_init_63 (by decide) (fun c_63 => absurd c_63 (by decide)) (fun c_63 => ?_)
  refine q_aload_n (pc := 66) dX5_init_66 rfl rfl ?_
  refine t_getP (M := mX5_init) (pc := 67) (d := 0) (t := 4) h25 dX5_init_67 fX5_30 (by decide) rfl ⟨by decide, rfl⟩ rfl ?_
  refine q_iload_n (pc := 70) dX5_init_70 rfl rfl ?_
  refine t_new (M := mX5_init) (kc := 3) (ks := 33) (pc := 71) h25 dX5_init_71 nX5_28 (by decide) (fun S26 n26 I26 L26 P26 h26 => ?_)
  refine q_dup (pc := 74) dX5_init_74 rfl ?_
  refine t_callJ (M := mX5_init) (kc := 2) (ks := 17) (kc' := 1) (ks' := 16) (pc := 75) h26 dX5_init_75 kX5_41 (c_init0 h26.in) ⟨Nat.le_of_ble_eq_true rfl, Nat.le_of_ble_eq_true rfl⟩ (Nat.le_of_ble_eq_true rfl) (fun S27 n27 I27 L27 P27 h27 => ?_)
  refine t_aast (M := mX5_init) (pc := 78) (d := 4) (j := 4) (t := 17) h27 dX5_init_78 (by decide) rfl (by decide) rfl (by decide) (by decide) rfl (fun P28 h28 => ?_)
  refine q_iinc (pc := 79) (v := nI 5) dX5_init_79 rfl (bq_inc _) (Nat.le_of_ble_eq_true rfl) rfl ?_
  show bq_W _ _ _ _ _ 82 [_, _] _ _ _ _ _ _ _
  refine q_goto (pc := 82) 60 dX5_init_82 (by decide) ?_
  refine q_iload_n (pc := 60) dX5_init_60 rfl rfl ?_
  refine q_bipush (pc := 61) (v := nI 6) dX5_init_61 (by decide) ?_
  refine q_icmp_ge (pc := 63) 85 dX5_init_63 (by decide) (fun c_63 => absurd c_63 (by decide)) (fun c_63 => ?_)
  refine q_aload_n (pc := 66) dX5_init_66 rfl rfl ?_
  refine t_getP (M := mX5_init) (pc := 67) (d := 0) (t := 4) h28 dX5_init_67 fX5_30 (by decide) rfl ⟨by decide, rfl⟩ rfl ?_
  refine q_iload_n (pc := 70) dX5_init_70 rfl rfl ?_
  refine t_new (M := mX5_init) (kc := 1) (ks := 16) (pc := 71) h28 dX5_init_71 nX5_28 (by decide) (fun S29 n29 I29 L29 P29 h29 => ?_)
  refine q_dup (pc := 74) dX5_init_74 rfl ?_
  refine t_callJ (M := mX5_init) (kc := 0) (ks := 0) (kc' := 1) (ks' := 16) (pc := 75) h29 dX5_init_75 kX5_41 (c_init0 h29.in) ⟨Nat.le_of_ble_eq_true rfl, Nat.le_of_ble_eq_true rfl⟩ (Nat.le_of_ble_eq_true rfl) (fun S30 n30 I30 L30 P30 h30 => ?_)
  refine t_aast (M := mX5_init) (pc := 78) (d := 4) (j := 5) (t := 19) h30 dX5_init_78 (by decide) rfl (by decide) rfl (by decide) (by decide) rfl (fun P31 h31 => ?_)
  refine q_iinc (pc := 79) (v := nI 6) dX5_init_79 rfl (bq_inc _) (Nat.le_of_ble_eq_true rfl) rfl ?_
  show bq_W _ _ _ _ _ 82 [_, _] _ _ _ _ _ _ _
  refine q_goto (pc := 82) 60 dX5_init_82 (by decide) ?_
  refine q_iload_n (pc := 60) dX5_init_60 rfl rfl ?_
  refine q_bipush (pc := 61) (v := nI 6) dX5_init_61 (by decide) ?_
  refine q_icmp_ge (pc := 63) 85 dX5_init_63 (by decide) (fun c_63 => ?_) (fun c_63 => absurd (by decide) c_63)
  exact q_vret (st := []) (pc := 85) dX5_init_85 rfl ⟨rfl, h31⟩
def tb10_0 : BqTb := t0 10
def tb10_1 : BqTb := tI tb10_0 0 0 (nI 0)
def tb10_2 : BqTb := tN tb10_1 1 (13, 60)
def tb10_3 : BqTb := tP tb10_2 0 1 1
def tb10_4 : BqTb := tI tb10_3 0 2 (nI 0)
def tb10_5 : BqTb := tI tb10_4 0 3 (nI 0)
def tb10_6 : BqTb := tI tb10_5 0 4 (nI 0)
def tb10_7 : BqTb := tN tb10_6 2 (16, 20)
def tb10_8 : BqTb := tP tb10_7 0 5 2
def tb10_9 : BqTb := tN tb10_8 3 (1, 0)
def tb10_10 : BqTb := tM tb10_8 3 tb1
def tb10_11 : BqTb := tP tb10_10 2 0 3
def tb10_12 : BqTb := tN tb10_11 4 (1, 0)
def tb10_13 : BqTb := tM tb10_11 4 tb1
def tb10_14 : BqTb := tP tb10_13 2 1 4
def tb10_15 : BqTb := tN tb10_14 5 (1, 0)
def tb10_16 : BqTb := tM tb10_14 5 tb1
def tb10_17 : BqTb := tP tb10_16 2 2 5
def tb10_18 : BqTb := tN tb10_17 6 (1, 0)
def tb10_19 : BqTb := tM tb10_17 6 tb1
def tb10_20 : BqTb := tP tb10_19 2 3 6
def tb10_21 : BqTb := tN tb10_20 7 (1, 0)
def tb10_22 : BqTb := tM tb10_20 7 tb1
def tb10_23 : BqTb := tP tb10_22 2 4 7
def tb10_24 : BqTb := tN tb10_23 8 (1, 0)
def tb10_25 : BqTb := tM tb10_23 8 tb1
def tb10_26 : BqTb := tP tb10_25 2 5 8
def tb10_27 : BqTb := tN tb10_26 9 (1, 0)
def tb10_28 : BqTb := tM tb10_26 9 tb1
def tb10_29 : BqTb := tP tb10_28 2 6 9
def tb10_30 : BqTb := tN tb10_29 10 (1, 0)
def tb10_31 : BqTb := tM tb10_29 10 tb1
def tb10_32 : BqTb := tP tb10_31 2 7 10
def tb10_33 : BqTb := tN tb10_32 11 (1, 0)
def tb10_34 : BqTb := tM tb10_32 11 tb1
def tb10_35 : BqTb := tP tb10_34 2 8 11
def tb10_36 : BqTb := tN tb10_35 12 (1, 0)
def tb10_37 : BqTb := tM tb10_35 12 tb1
def tb10_38 : BqTb := tP tb10_37 2 9 12
def tb10_39 : BqTb := tN tb10_38 13 (1, 0)
def tb10_40 : BqTb := tM tb10_38 13 tb1
def tb10_41 : BqTb := tP tb10_40 2 10 13
def tb10_42 : BqTb := tN tb10_41 14 (1, 0)
def tb10_43 : BqTb := tM tb10_41 14 tb1
def tb10_44 : BqTb := tP tb10_43 2 11 14
def tb10_45 : BqTb := tN tb10_44 15 (1, 0)
def tb10_46 : BqTb := tM tb10_44 15 tb1
def tb10_47 : BqTb := tP tb10_46 2 12 15
def tb10_48 : BqTb := tN tb10_47 16 (1, 0)
def tb10_49 : BqTb := tM tb10_47 16 tb1
def tb10_50 : BqTb := tP tb10_49 2 13 16
def tb10_51 : BqTb := tN tb10_50 17 (1, 0)
def tb10_52 : BqTb := tM tb10_50 17 tb1
def tb10_53 : BqTb := tP tb10_52 2 14 17
def tb10_54 : BqTb := tN tb10_53 18 (1, 0)
def tb10_55 : BqTb := tM tb10_53 18 tb1
def tb10_56 : BqTb := tP tb10_55 2 15 18
def tb10_57 : BqTb := tN tb10_56 19 (1, 0)
def tb10_58 : BqTb := tM tb10_56 19 tb1
def tb10_59 : BqTb := tP tb10_58 2 16 19
def tb10_60 : BqTb := tN tb10_59 20 (1, 0)
def tb10_61 : BqTb := tM tb10_59 20 tb1
def tb10_62 : BqTb := tP tb10_61 2 17 20
def tb10_63 : BqTb := tN tb10_62 21 (1, 0)
def tb10_64 : BqTb := tM tb10_62 21 tb1
def tb10_65 : BqTb := tP tb10_64 2 18 21
def tb10_66 : BqTb := tN tb10_65 22 (1, 0)
def tb10_67 : BqTb := tM tb10_65 22 tb1
def tb10_68 : BqTb := tP tb10_67 2 19 22
def tb10 : BqTb := tb10_68
set_option maxHeartbeats 11560000 in
set_option maxRecDepth 20000 in
theorem c_init10 {S : BqH} {n : Nat} {I : BqI} {L : BqL} {P : BqP} {o : Nat} {S0 : BqH} {I0 : BqI} {L0 : BqL} {P0 : BqP} (h0 : BB o 1 (t0 10) S0 I0 L0 P0 S n I L P) : bq_Sp mX10_init 3 40 22 160 [.ref o] S n I L P (qB o 23 tb10 S0 I0 L0 P0) := by
  refine q_entry (vs := [some (.ref o), none]) (by decide +kernel) (by simp) (Nat.le_of_ble_eq_true rfl) rfl ?_
  refine q_aload_n (pc := 0) dX10_init_0 rfl rfl ?_
  refine q_objInit (pc := 1) dX10_init_1 kX10_3 ⟨Nat.le_of_ble_eq_true rfl, Nat.le_of_ble_eq_true rfl⟩ ?_
  refine q_aload_n (pc := 4) dX10_init_4 rfl rfl ?_
  refine q_iconst (pc := 5) (v := nI 0) dX10_init_5 (by decide) ?_
  refine t_putI (M := mX10_init) (pc := 6) (d := 0) h0 dX10_init_6 (pX10_9 _) (by decide) rfl ⟨by decide, rfl⟩ (fun I1 h1 => ?_)
  refine q_aload_n (pc := 9) dX10_init_9 rfl rfl ?_
  refine q_bipush (pc := 10) (v := nI 60) dX10_init_10 (by decide) ?_
  refine t_newI (M := mX10_init) (kc := 21) (ks := 100) (len := 60) (pc := 12) h1 dX10_init_12 rfl (by decide) (fun S2 n2 I2 L2 P2 h2 => ?_)
  refine t_putP (M := mX10_init) (pc := 14) (d := 0) (t := 1) h2 dX10_init_14 pX10_15 (by decide) rfl ⟨by decide, rfl⟩ (fun P3 h3 => ?_)
  refine q_aload_n (pc := 17) dX10_init_17 rfl rfl ?_
  refine q_iconst (pc := 18) (v := nI 0) dX10_init_18 (by decide) ?_
  refine t_putI (M := mX10_init) (pc := 19) (d := 0) h3 dX10_init_19 (pX10_19 _) (by decide) rfl ⟨by decide, rfl⟩ (fun I4 h4 => ?_)
  refine q_aload_n (pc := 22) dX10_init_22 rfl rfl ?_
  refine q_iconst (pc := 23) (v := nI 0) dX10_init_23 (by decide) ?_
  refine t_putZ (M := mX10_init) (pc := 24) (d := 0) h4 dX10_init_24 (pX10_22 _) (by decide) rfl ⟨by decide, rfl⟩ (by decide) (fun I5 h5 => ?_)
  refine q_aload_n (pc := 27) dX10_init_27 rfl rfl ?_
  refine q_iconst (pc := 28) (v := nI 0) dX10_init_28 (by decide) ?_
  refine t_putI (M := mX10_init) (pc := 29) (d := 0) h5 dX10_init_29 (pX10_26 _) (by decide) rfl ⟨by decide, rfl⟩ (fun I6 h6 => ?_)
  refine q_aload_n (pc := 32) dX10_init_32 rfl rfl ?_
  refine q_bipush (pc := 33) (v := nI 20) dX10_init_33 (by decide) ?_
  refine t_newq (M := mX10_init) (kc := 20) (ks := 80) (len := 20) (kd := 16) (pc := 35) h6 dX10_init_35 qX10_29 (by decide) (by decide) rfl rfl (by decide) (fun S7 n7 I7 L7 P7 h7 => ?_)
  refine t_putP (M := mX10_init) (pc := 38) (d := 0) (t := 2) h7 dX10_init_38 pX10_31 (by decide) rfl ⟨by decide, rfl⟩ (fun P8 h8 => ?_)
  refine q_iconst (pc := 41) (v := nI 0) dX10_init_41 (by decide) ?_
  refine q_istore_n (pc := 42) dX10_init_42 rfl (Nat.le_of_ble_eq_true rfl) rfl ?_
  show bq_W _ _ _ _ _ 43 [_, _] _ _ _ _ _ _ _
  refine q_iload_n (pc := 43) dX10_init_43 rfl rfl ?_
  refine q_bipush (pc := 44) (v := nI 20) dX10_init_44 (by decide) ?_
  refine q_icmp_ge (pc := 46) 68 dX10_init_46 (by decide) (fun c_46 => absurd c_46 (by decide)) (fun c_46 => ?_)
  refine q_aload_n (pc := 49) dX10_init_49 rfl rfl ?_
  refine t_getP (M := mX10_init) (pc := 50) (d := 0) (t := 2) h8 dX10_init_50 fX10_31 (by decide) rfl ⟨by decide, rfl⟩ rfl ?_
  refine q_iload_n (pc := 53) dX10_init_53 rfl rfl ?_
  refine t_new (M := mX10_init) (kc := 19) (ks := 76) (pc := 54) h8 dX10_init_54 nX10_29 (by decide) (fun S9 n9 I9 L9 P9 h9 => ?_)
  refine q_dup (pc := 57) dX10_init_57 rfl ?_
  refine t_callJ (M := mX10_init) (kc := 19) (ks := 76) (kc' := 0) (ks' := 0) (pc := 58) h9 dX10_init_58 kX10_35 (c_init1 h9.in) ⟨Nat.le_of_ble_eq_true rfl, Nat.le_of_ble_eq_true rfl⟩ (Nat.le_of_ble_eq_true rfl) (fun S10 n10 I10 L10 P10 h10 => ?_)
  refine t_aast (M := mX10_init) (pc := 61) (d := 2) (j := 0) (t := 3) h10 dX10_init_61 (by decide) rfl (by decide) rfl (by decide) (by decide) rfl (fun P11 h11 => ?_)
  refine q_iinc (pc := 62) (v := nI 1) dX10_init_62 rfl (bq_inc _) (Nat.le_of_ble_eq_true rfl) rfl ?_
  show bq_W _ _ _ _ _ 65 [_, _] _ _ _ _ _ _ _
  refine q_goto (pc := 65) 43 dX10_init_65 (by decide) ?_
  refine q_iload_n (pc := 43) dX10_init_43 rfl rfl ?_
  refine q_bipush (pc := 44) (v := nI 20) dX10_init_44 (by decide) ?_
  refine q_icmp_ge (pc := 46) 68 dX10_init_46 (by decide) (fun c_46 => absurd c_46 (by decide)) (fun c_46 => ?_)
  refine q_aload_n (pc := 49) dX10_init_49 rfl rfl ?_
  refine t_getP (M := mX10_init) (pc := 50) (d := 0) (t := 2) h11 dX10_init_50 fX10_31 (by decide) rfl ⟨by decide, rfl⟩ rfl ?_
  refine q_iload_n (pc := 53) dX10_init_53 rfl rfl ?_
  refine t_new (M := mX10_init) (kc := 18) (ks := 72) (pc := 54) h11 dX10_init_54 nX10_29 (by decide) (fun S12 n12 I12 L12 P12 h12 => ?_)
  refine q_dup (pc := 57) dX10_init_57 rfl ?_
  refine t_callJ (M := mX10_init) (kc := 18) (ks := 72) (kc' := 0) (ks' := 0) (pc := 58) h12 dX10_init_58 kX10_35 (c_init1 h12.in) ⟨Nat.le_of_ble_eq_true rfl, Nat.le_of_ble_eq_true rfl⟩ (Nat.le_of_ble_eq_true rfl) (fun S13 n13 I13 L13 P13 h13 => ?_)
  refine t_aast (M := mX10_init) (pc := 61) (d := 2) (j := 1) (t := 4) h13 dX10_init_61 (by decide) rfl (by decide) rfl (by decide) (by decide) rfl (fun P14 h14 => ?_)
  refine q_iinc (pc := 62) (v := nI 2) dX10_init_62 rfl (bq_inc _) (Nat.le_of_ble_eq_true rfl) rfl ?_
  show bq_W _ _ _ _ _ 65 [_, _] _ _ _ _ _ _ _
  refine q_goto (pc := 65) 43 dX10_init_65 (by decide) ?_
  refine q_iload_n (pc := 43) dX10_init_43 rfl rfl ?_
  refine q_bipush (pc := 44) (v := nI 20) dX10_init_44 (by decide) ?_
  refine q_icmp_ge (pc := 46) 68 dX10_init_46 (by decide) (fun c_46 => absurd c_46 (by decide)) (fun c_46 => ?_)
  refine q_aload_n (pc := 49) dX10_init_49 rfl rfl ?_
  refine t_getP (M := mX10_init) (pc := 50) (d := 0) (t := 2) h14 dX10_init_50 fX10_31 (by decide) rfl ⟨by decide, rfl⟩ rfl ?_
  refine q_iload_n (pc := 53) dX10_init_53 rfl rfl ?_
  refine t_new (M := mX10_init) (kc := 17) (ks := 68) (pc := 54) h14 dX10_init_54 nX10_29 (by decide) (fun S15 n15 I15 L15 P15 h15 => ?_)
  refine q_dup (pc := 57) dX10_init_57 rfl ?_
  refine t_callJ (M := mX10_init) (kc := 17) (ks := 68) (kc' := 0) (ks' := 0) (pc := 58) h15 dX10_init_58 kX10_35 (c_init1 h15.in) ⟨Nat.le_of_ble_eq_true rfl, Nat.le_of_ble_eq_true rfl⟩ (Nat.le_of_ble_eq_true rfl) (fun S16 n16 I16 L16 P16 h16 => ?_)
  refine t_aast (M := mX10_init) (pc := 61) (d := 2) (j := 2) (t := 5) h16 dX10_init_61 (by decide) rfl (by decide) rfl (by decide) (by decide) rfl (fun P17 h17 => ?_)
  refine q_iinc (pc := 62) (v := nI 3) dX10_init_62 rfl (bq_inc _) (Nat.le_of_ble_eq_true rfl) rfl ?_
  show bq_W _ _ _ _ _ 65 [_, _] _ _ _ _ _ _ _
  refine q_goto (pc := 65) 43 dX10_init_65 (by decide) ?_
  refine q_iload_n (pc := 43) dX10_init_43 rfl rfl ?_
  refine q_bipush (pc := 44) (v := nI 20) dX10_init_44 (by decide) ?_
  refine q_icmp_ge (pc := 46) 68 dX10_init_46 (by decide) (fun c_46 => absurd c_46 (by decide)) (fun c_46 => ?_)
  refine q_aload_n (pc := 49) dX10_init_49 rfl rfl ?_
  refine t_getP (M := mX10_init) (pc := 50) (d := 0) (t := 2) h17 dX10_init_50 fX10_31 (by decide) rfl ⟨by decide, rfl⟩ rfl ?_
  refine q_iload_n (pc := 53) dX10_init_53 rfl rfl ?_
  refine t_new (M := mX10_init) (kc := 16) (ks := 64) (pc := 54) h17 dX10_init_54 nX10_29 (by decide) (fun S18 n18 I18 L18 P18 h18 => ?_)
  refine q_dup (pc := 57) dX10_init_57 rfl ?_
  refine t_callJ (M := mX10_init) (kc := 16) (ks := 64) (kc' := 0) (ks' := 0) (pc := 58) h18 dX10_init_58 kX10_35 (c_init1 h18.in) ⟨Nat.le_of_ble_eq_true rfl, Nat.le_of_ble_eq_true rfl⟩ (Nat.le_of_ble_eq_true rfl) (fun S19 n19 I19 L19 P19 h19 => ?_)
  refine t_aast (M := mX10_init) (pc := 61) (d := 2) (j := 3) (t := 6) h19 dX10_init_61 (by decide) rfl (by decide) rfl (by decide) (by decide) rfl (fun P20 h20 => ?_)
  refine q_iinc (pc := 62) (v := nI 4) dX10_init_62 rfl (bq_inc _) (Nat.le_of_ble_eq_true rfl) rfl ?_
  show bq_W _ _ _ _ _ 65 [_, _] _ _ _ _ _ _ _
  refine q_goto (pc := 65) 43 dX10_init_65 (by decide) ?_
  refine q_iload_n (pc := 43) dX10_init_43 rfl rfl ?_
  refine q_bipush (pc := 44) (v := nI 20) dX10_init_44 (by decide) ?_
  refine q_icmp_ge (pc := 46) 68 dX10_init_46 (by decide) (fun c_46 => absurd c_46 (by decide)) (fun c_46 => ?_)
  refine q_aload_n (pc := 49) dX10_init_49 rfl rfl ?_
  refine t_getP (M := mX10_init) (pc := 50) (d := 0) (t := 2) h20 dX10_init_50 fX10_31 (by decide) rfl ⟨by decide, rfl⟩ rfl ?_
  refine q_iload_n (pc := 53) dX10_init_53 rfl rfl ?_
  refine t_new (M := mX10_init) (kc := 15) (ks := 60) (pc := 54) h20 dX10_init_54 nX10_29 (by decide) (fun S21 n21 I21 L21 P21 h21 => ?_)
  refine q_dup (pc := 57) dX10_init_57 rfl ?_
  refine t_callJ (M := mX10_init) (kc := 15) (ks := 60) (kc' := 0) (ks' := 0) (pc := 58) h21 dX10_init_58 kX10_35 (c_init1 h21.in) ⟨Nat.le_of_ble_eq_true rfl, Nat.le_of_ble_eq_true rfl⟩ (Nat.le_of_ble_eq_true rfl) (fun S22 n22 I22 L22 P22 h22 => ?_)
  refine t_aast (M := mX10_init) (pc := 61) (d := 2) (j := 4) (t := 7) h22 dX10_init_61 (by decide) rfl (by decide) rfl (by decide) (by decide) rfl (fun P23 h23 => ?_)
  refine q_iinc (pc := 62) (v := nI 5) dX10_init_62 rfl (bq_inc _) (Nat.le_of_ble_eq_true rfl) rfl ?_
  show bq_W _ _ _ _ _ 65 [_, _] _ _ _ _ _ _ _
  refine q_goto (pc := 65) 43 dX10_init_65 (by decide) ?_
  refine q_iload_n (pc := 43) dX10_init_43 rfl rfl ?_
  refine q_bipush (pc := 44) (v := nI 20) dX10_init_44 (by decide) ?_
  refine q_icmp_ge (pc := 46) 68 dX10_init_46 (by decide) (fun c_46 => absurd c_46 (by decide)) (fun c_46 => ?_)
  refine q_aload_n (pc := 49) dX10_init_49 rfl rfl ?_
  refine t_getP (M := mX10_init) (pc := 50) (d := 0) (t := 2) h23 dX10_init_50 fX10_31 (by decide) rfl ⟨by decide, rfl⟩ rfl ?_
  refine q_iload_n (pc := 53) dX10_init_53 rfl rfl ?_
  refine t_new (M := mX10_init) (kc := 14) (ks := 56) (pc := 54) h23 dX10_init_54 nX10_29 (by decide) (fun S24 n24 I24 L24 P24 h24 => ?_)
  refine q_dup (pc := 57) dX10_init_57 rfl ?_
  refine t_callJ (M := mX10_init) (kc := 14) (ks := 56) (kc' := 0) (ks' := 0) (pc := 58) h24 dX10_init_58 kX10_35 (c_init1 h24.in) ⟨Nat.le_of_ble_eq_true rfl, Nat.le_of_ble_eq_true rfl⟩ (Nat.le_of_ble_eq_true rfl) (fun S25 n25 I25 L25 P25 h25 => ?_)
  refine t_aast (M := mX10_init) (pc := 61) (d := 2) (j := 5) (t := 8) h25 dX10_init_61 (by decide) rfl (by decide) rfl (by decide) (by decide) rfl (fun P26 h26 => ?_)
  refine q_iinc (pc := 62) (v := nI 6) dX10_init_62 rfl (bq_inc _) (Nat.le_of_ble_eq_true rfl) rfl ?_
  show bq_W _ _ _ _ _ 65 [_, _] _ _ _ _ _ _ _
  refine q_goto (pc := 65) 43 dX10_init_65 (by decide) ?_
  refine q_iload_n (pc := 43) dX10_init_43 rfl rfl ?_
  refine q_bipush (pc := 44) (v := nI 20) dX10_init_44 (by decide) ?_
  refine q_icmp_ge (pc := 46) 68 dX10_init_46 (by decide) (fun c_46 => absurd c_46 (by decide)) (fun c_46 => ?_)
  refine q_aload_n (pc := 49) dX10_init_49 rfl rfl ?_
  refine t_getP (M := mX10_init) (pc := 50) (d := 0) (t := 2) h26 dX10_init_50 fX10_31 (by decide) rfl ⟨by decide, rfl⟩ rfl ?_
  refine q_iload_n (pc := 53) dX10_init_53 rfl rfl ?_
  refine t_new (M := mX10_init) (kc := 13) (ks := 52) (pc := 54) h26 dX10_init_54 nX10_29 (by decide) (fun S27 n27 I27 L27 P27 h27 => ?_)
  refine q_dup (pc := 57) dX10_init_57 rfl ?_
  refine t_callJ (M := mX10_init) (kc := 13) (ks := 52) (kc' := 0) (ks' := 0) (pc := 58) h27 dX10_init_58 kX10_35 (c_init1 h27.in) ⟨Nat.le_of_ble_eq_true rfl, Nat.le_of_ble_eq_true rfl⟩ (Nat.le_of_ble_eq_true rfl) (fun S28 n28 I28 L28 P28 h28 => ?_)
  refine t_aast (M := mX10_init) (pc := 61) (d := 2) (j := 6) (t := 9) h28 dX10_init_61 (by decide) rfl (by decide) rfl (by decide) (by decide) rfl (fun P29 h29 => ?_)
  refine q_iinc (pc := 62) (v := nI 7) dX10_init_62 rfl (bq_inc _) (Nat.le_of_ble_eq_true rfl) rfl ?_
  show bq_W _ _ _ _ _ 65 [_, _] _ _ _ _ _ _ _
  refine q_goto (pc := 65) 43 dX10_init_65 (by decide) ?_
  refine q_iload_n (pc := 43) dX10_init_43 rfl rfl ?_
  refine q_bipush (pc := 44) (v := nI 20) dX10_init_44 (by decide) ?_
  refine q_icmp_ge (pc := 46) 68 dX10_init_46 (by decide) (fun c_46 => absurd c_46 (by decide)) (fun c_46 => ?_)
  refine q_aload_n (pc := 49) dX10_init_49 rfl rfl ?_
  refine t_getP (M := mX10_init) (pc := 50) (d := 0) (t := 2) h29 dX10_init_50 fX10_31 (by decide) rfl ⟨by decide, rfl⟩ rfl ?_
  refine q_iload_n (pc := 53) dX10_init_53 rfl rfl ?_
  refine t_new (M := mX10_init) (kc := 12) (ks := 48) (pc := 54) h29 dX10_init_54 nX10_29 (by decide) (fun S30 n30 I30 L30 P30 h30 => ?_)
  refine q_dup (pc := 57) dX10_init_57 rfl ?_
  refine t_callJ (M := mX10_init) (kc := 12) (ks := 48) (kc' := 0) (ks' := 0) (pc := 58) h30 dX10_init_58 kX10_35 (c_init1 h30.in) ⟨Nat.le_of_ble_eq_true rfl, Nat.le_of_ble_eq_true rfl⟩ (Nat.le_of_ble_eq_true rfl) (fun S31 n31 I31 L31 P31 h31 => ?_)
  refine t_aast (M := mX10_init) (pc := 61) (d := 2) (j := 7) (t := 10) h31 dX10_init_61 (by decide) rfl (by decide) rfl (by decide) (by decide) rfl (fun P32 h32 => ?_)
  refine q_iinc (pc := 62) (v := nI 8) dX10_init_62 rfl (bq_inc _) (Nat.le_of_ble_eq_true rfl) rfl ?_
  show bq_W _ _ _ _ _ 65 [_, _] _ _ _ _ _ _ _
  refine q_goto (pc := 65) 43 dX10_init_65 (by decide) ?_
  refine q_iload_n (pc := 43) dX10_init_43 rfl rfl ?_
  refine q_bipush (pc := 44) (v := nI 20) dX10_init_44 (by decide) ?_
  refine q_icmp_ge (pc := 46) 68 dX10_init_46 (by decide) (fun c_46 => absurd c_46 (by decide)) (fun c_46 => ?_)
  refine q_aload_n (pc := 49) dX10_init_49 rfl rfl ?_
  refine t_getP (M := mX10_init) (pc := 50) (d := 0) (t := 2) h32 dX10_init_50 fX10_31 (by decide) rfl ⟨by decide, rfl⟩ rfl ?_
  refine q_iload_n (pc := 53) dX10_init_53 rfl rfl ?_
  refine t_new (M := mX10_init) (kc := 11) (ks := 44) (pc := 54) h32 dX10_init_54 nX10_29 (by decide) (fun S33 n33 I33 L33 P33 h33 => ?_)
  refine q_dup (pc := 57) dX10_init_57 rfl ?_
  refine t_callJ (M := mX10_init) (kc := 11) (ks := 44) (kc' := 0) (ks' := 0) (pc := 58) h33 dX10_init_58 kX10_35 (c_init1 h33.in) ⟨Nat.le_of_ble_eq_true rfl, Nat.le_of_ble_eq_true rfl⟩ (Nat.le_of_ble_eq_true rfl) (fun S34 n34 I34 L34 P34 h34 => ?_)
  refine t_aast (M := mX10_init) (pc := 61) (d := 2) (j := 8) (t := 11) h34 dX10_init_61 (by decide) rfl (by decide) rfl (by decide) (by decide) rfl (fun P35 h35 => ?_)
  refine q_iinc (pc := 62) (v := nI 9) dX10_init_62 rfl (bq_inc _) (Nat.le_of_ble_eq_true rfl) rfl ?_
  show bq_W _ _ _ _ _ 65 [_, _] _ _ _ _ _ _ _
  refine q_goto (pc := 65) 43 dX10_init_65 (by decide) ?_
  refine q_iload_n (pc := 43) dX10_init_43 rfl rfl ?_
  refine q_bipush (pc := 44) (v := nI 20) dX10_init_44 (by decide) ?_
  refine q_icmp_ge (pc := 46) 68 dX10_init_46 (by decide) (fun c_46 => absurd c_46 (by decide)) (fun c_46 => ?_)
  refine q_aload_n (pc := 49) dX10_init_49 rfl rfl ?_
  refine t_getP (M := mX10_init) (pc := 50) (d := 0) (t := 2) h35 dX10_init_50 fX10_31 (by decide) rfl ⟨by decide, rfl⟩ rfl ?_
  refine q_iload_n (pc := 53) dX10_init_53 rfl rfl ?_
  refine t_new (M := mX10_init) (kc := 10) (ks := 40) (pc := 54) h35 dX10_init_54 nX10_29 (by decide) (fun S36 n36 I36 L36 P36 h36 => ?_)
  refine q_dup (pc := 57) dX10_init_57 rfl ?_
  refine t_callJ (M := mX10_init) (kc := 10) (ks := 40) (kc' := 0) (ks' := 0) (pc := 58) h36 dX10_init_58 kX10_35 (c_init1 h36.in) ⟨Nat.le_of_ble_eq_true rfl, Nat.le_of_ble_eq_true rfl⟩ (Nat.le_of_ble_eq_true rfl) (fun S37 n37 I37 L37 P37 h37 => ?_)
  refine t_aast (M := mX10_init) (pc := 61) (d := 2) (j := 9) (t := 12) h37 dX10_init_61 (by decide) rfl (by decide) rfl (by decide) (by decide) rfl (fun P38 h38 => ?_)
  refine q_iinc (pc := 62) (v := nI 10) dX10_init_62 rfl (bq_inc _) (Nat.le_of_ble_eq_true rfl) rfl ?_
  show bq_W _ _ _ _ _ 65 [_, _] _ _ _ _ _ _ _
  refine q_goto (pc := 65) 43 dX10_init_65 (by decide) ?_
  refine q_iload_n (pc := 43) dX10_init_43 rfl rfl ?_
  refine q_bipush (pc := 44) (v := nI 20) dX10_init_44 (by decide) ?_
  refine q_icmp_ge (pc := 46) 68 dX10_init_46 (by decide) (fun c_46 => absurd c_46 (by decide)) (fun c_46 => ?_)
  refine q_aload_n (pc := 49) dX10_init_49 rfl rfl ?_
  refine t_getP (M := mX10_init) (pc := 50) (d := 0) (t := 2) h38 dX10_init_50 fX10_31 (by decide) rfl ⟨by decide, rfl⟩ rfl ?_
  refine q_iload_n (pc := 53) dX10_init_53 rfl rfl ?_
  refine t_new (M := mX10_init) (kc := 9) (ks := 36) (pc := 54) h38 dX10_init_54 nX10_29 (by decide) (fun S39 n39 I39 L39 P39 h39 => ?_)
  refine q_dup (pc := 57) dX10_init_57 rfl ?_
  refine t_callJ (M := mX10_init) (kc := 9) (ks := 36) (kc' := 0) (ks' := 0) (pc := 58) h39 dX10_init_58 kX10_35 (c_init1 h39.in) ⟨Nat.le_of_ble_eq_true rfl, Nat.le_of_ble_eq_true rfl⟩ (Nat.le_of_ble_eq_true rfl) (fun S40 n40 I40 L40 P40 h40 => ?_)
  refine t_aast (M := mX10_init) (pc := 61) (d := 2) (j := 10) (t := 13) h40 dX10_init_61 (by decide) rfl (by decide) rfl (by decide) (by decide) rfl (fun P41 h41 => ?_)
  refine q_iinc (pc := 62) (v := nI 11) dX10_init_62 rfl (bq_inc _) (Nat.le_of_ble_eq_true rfl) rfl ?_
  show bq_W _ _ _ _ _ 65 [_, _] _ _ _ _ _ _ _
  refine q_goto (pc := 65) 43 dX10_init_65 (by decide) ?_
  refine q_iload_n (pc := 43) dX10_init_43 rfl rfl ?_
  refine q_bipush (pc := 44) (v := nI 20) dX10_init_44 (by decide) ?_
  refine q_icmp_ge (pc := 46) 68 dX10_init_46 (by decide) (fun c_46 => absurd c_46 (by decide)) (fun c_46 => ?_)
  refine q_aload_n (pc := 49) dX10_init_49 rfl rfl ?_
  refine t_getP (M := mX10_init) (pc := 50) (d := 0) (t := 2) h41 dX10_init_50 fX10_31 (by decide) rfl ⟨by decide, rfl⟩ rfl ?_
  refine q_iload_n (pc := 53) dX10_init_53 rfl rfl ?_
  refine t_new (M := mX10_init) (kc := 8) (ks := 32) (pc := 54) h41 dX10_init_54 nX10_29 (by decide) (fun S42 n42 I42 L42 P42 h42 => ?_)
  refine q_dup (pc := 57) dX10_init_57 rfl ?_
  refine t_callJ (M := mX10_init) (kc := 8) (ks := 32) (kc' := 0) (ks' := 0) (pc := 58) h42 dX10_init_58 kX10_35 (c_init1 h42.in) ⟨Nat.le_of_ble_eq_true rfl, Nat.le_of_ble_eq_true rfl⟩ (Nat.le_of_ble_eq_true rfl) (fun S43 n43 I43 L43 P43 h43 => ?_)
  refine t_aast (M := mX10_init) (pc := 61) (d := 2) (j := 11) (t := 14) h43 dX10_init_61 (by decide) rfl (by decide) rfl (by decide) (by decide) rfl (fun P44 h44 => ?_)
  refine q_iinc (pc := 62) (v := nI 12) dX10_init_62 rfl (bq_inc _) (Nat.le_of_ble_eq_true rfl) rfl ?_
  show bq_W _ _ _ _ _ 65 [_, _] _ _ _ _ _ _ _
  refine q_goto (pc := 65) 43 dX10_init_65 (by decide) ?_
  refine q_iload_n (pc := 43) dX10_init_43 rfl rfl ?_
  refine q_bipush (pc := 44) (v := nI 20) dX10_init_44 (by decide) ?_
  refine q_icmp_ge (pc := 46) 68 dX10_init_46 (by decide) (fun c_46 => absurd c_46 (by decide)) (fun c_46 => ?_)
  refine q_aload_n (pc := 49) dX10_init_49 rfl rfl ?_
  refine t_getP (M := mX10_init) (pc := 50) (d := 0) (t := 2) h44 dX10_init_50 fX10_31 (by decide) rfl ⟨by decide, rfl⟩ rfl ?_
  refine q_iload_n (pc := 53) dX10_init_53 rfl rfl ?_
  refine t_new (M := mX10_init) (kc := 7) (ks := 28) (pc := 54) h44 dX10_init_54 nX10_29 (by decide) (fun S45 n45 I45 L45 P45 h45 => ?_)
  refine q_dup (pc := 57) dX10_init_57 rfl ?_
  refine t_callJ (M := mX10_init) (kc := 7) (ks := 28) (kc' := 0) (ks' := 0) (pc := 58) h45 dX10_init_58 kX10_35 (c_init1 h45.in) ⟨Nat.le_of_ble_eq_true rfl, Nat.le_of_ble_eq_true rfl⟩ (Nat.le_of_ble_eq_true rfl) (fun S46 n46 I46 L46 P46 h46 => ?_)
  refine t_aast (M := mX10_init) (pc := 61) (d := 2) (j := 12) (t := 15) h46 dX10_init_61 (by decide) rfl (by decide) rfl (by decide) (by decide) rfl (fun P47 h47 => ?_)
  refine q_iinc (pc := 62) (v := nI 13) dX10_init_62 rfl (bq_inc _) (Nat.le_of_ble_eq_true rfl) rfl ?_
  show bq_W _ _ _ _ _ 65 [_, _] _ _ _ _ _ _ _
  refine q_goto (pc := 65) 43 dX10_init_65 (by decide) ?_
  refine q_iload_n (pc := 43) dX10_init_43 rfl rfl ?_
  refine q_bipush (pc := 44) (v := nI 20) dX10_init_44 (by decide) ?_
  refine q_icmp_ge (pc := 46) 68 dX10_init_46 (by decide) (fun c_46 => absurd c_46 (by decide)) (fun c_46 => ?_)
  refine q_aload_n (pc := 49) dX10_init_49 rfl rfl ?_
  refine t_getP (M := mX10_init) (pc := 50) (d := 0) (t := 2) h47 dX10_init_50 fX10_31 (by decide) rfl ⟨by decide, rfl⟩ rfl ?_
  refine q_iload_n (pc := 53) dX10_init_53 rfl rfl ?_
  refine t_new (M := mX10_init) (kc := 6) (ks := 24) (pc := 54) h47 dX10_init_54 nX10_29 (by decide) (fun S48 n48 I48 L48 P48 h48 => ?_)
  refine q_dup (pc := 57) dX10_init_57 rfl ?_
  refine t_callJ (M := mX10_init) (kc := 6) (ks := 24) (kc' := 0) (ks' := 0) (pc := 58) h48 dX10_init_58 kX10_35 (c_init1 h48.in) ⟨Nat.le_of_ble_eq_true rfl, Nat.le_of_ble_eq_true rfl⟩ (Nat.le_of_ble_eq_true rfl) (fun S49 n49 I49 L49 P49 h49 => ?_)
  refine t_aast (M := mX10_init) (pc := 61) (d := 2) (j := 13) (t := 16) h49 dX10_init_61 (by decide) rfl (by decide) rfl (by decide) (by decide) rfl (fun P50 h50 => ?_)
  refine q_iinc (pc := 62) (v := nI 14) dX10_init_62 rfl (bq_inc _) (Nat.le_of_ble_eq_true rfl) rfl ?_
  show bq_W _ _ _ _ _ 65 [_, _] _ _ _ _ _ _ _
  refine q_goto (pc := 65) 43 dX10_init_65 (by decide) ?_
  refine q_iload_n (pc := 43) dX10_init_43 rfl rfl ?_
  refine q_bipush (pc := 44) (v := nI 20) dX10_init_44 (by decide) ?_
  refine q_icmp_ge (pc := 46) 68 dX10_init_46 (by decide) (fun c_46 => absurd c_46 (by decide)) (fun c_46 => ?_)
  refine q_aload_n (pc := 49) dX10_init_49 rfl rfl ?_
  refine t_getP (M := mX10_init) (pc := 50) (d := 0) (t := 2) h50 dX10_init_50 fX10_31 (by decide) rfl ⟨by decide, rfl⟩ rfl ?_
  refine q_iload_n (pc := 53) dX10_init_53 rfl rfl ?_
  refine t_new (M := mX10_init) (kc := 5) (ks := 20) (pc := 54) h50 dX10_init_54 nX10_29 (by decide) (fun S51 n51 I51 L51 P51 h51 => ?_)
  refine q_dup (pc := 57) dX10_init_57 rfl ?_
  refine t_callJ (M := mX10_init) (kc := 5) (ks := 20) (kc' := 0) (ks' := 0) (pc := 58) h51 dX10_init_58 kX10_35 (c_init1 h51.in) ⟨Nat.le_of_ble_eq_true rfl, Nat.le_of_ble_eq_true rfl⟩ (Nat.le_of_ble_eq_true rfl) (fun S52 n52 I52 L52 P52 h52 => ?_)
  refine t_aast (M := mX10_init) (pc := 61) (d := 2) (j := 14) (t := 17) h52 dX10_init_61 (by decide) rfl (by decide) rfl (by decide) (by decide) rfl (fun P53 h53 => ?_)
  refine q_iinc (pc := 62) (v := nI 15) dX10_init_62 rfl (bq_inc _) (Nat.le_of_ble_eq_true rfl) rfl ?_
  show bq_W _ _ _ _ _ 65 [_, _] _ _ _ _ _ _ _
  refine q_goto (pc := 65) 43 dX10_init_65 (by decide) ?_
  refine q_iload_n (pc := 43) dX10_init_43 rfl rfl ?_
  refine q_bipush (pc := 44) (v := nI 20) dX10_init_44 (by decide) ?_
  refine q_icmp_ge (pc := 46) 68 dX10_init_46 (by decide) (fun c_46 => absurd c_46 (by decide)) (fun c_46 => ?_)
  refine q_aload_n (pc := 49) dX10_init_49 rfl rfl ?_
  refine t_getP (M := mX10_init) (pc := 50) (d := 0) (t := 2) h53 dX10_init_50 fX10_31 (by decide) rfl ⟨by decide, rfl⟩ rfl ?_
  refine q_iload_n (pc := 53) dX10_init_53 rfl rfl ?_
  refine t_new (M := mX10_init) (kc := 4) (ks := 16) (pc := 54) h53 dX10_init_54 nX10_29 (by decide) (fun S54 n54 I54 L54 P54 h54 => ?_)
  refine q_dup (pc := 57) dX10_init_57 rfl ?_
  refine t_callJ (M := mX10_init) (kc := 4) (ks := 16) (kc' := 0) (ks' := 0) (pc := 58) h54 dX10_init_58 kX10_35 (c_init1 h54.in) ⟨Nat.le_of_ble_eq_true rfl, Nat.le_of_ble_eq_true rfl⟩ (Nat.le_of_ble_eq_true rfl) (fun S55 n55 I55 L55 P55 h55 => ?_)
  refine t_aast (M := mX10_init) (pc := 61) (d := 2) (j := 15) (t := 18) h55 dX10_init_61 (by decide) rfl (by decide) rfl (by decide) (by decide) rfl (fun P56 h56 => ?_)
  refine q_iinc (pc := 62) (v := nI 16) dX10_init_62 rfl (bq_inc _) (Nat.le_of_ble_eq_true rfl) rfl ?_
  show bq_W _ _ _ _ _ 65 [_, _] _ _ _ _ _ _ _
  refine q_goto (pc := 65) 43 dX10_init_65 (by decide) ?_
  refine q_iload_n (pc := 43) dX10_init_43 rfl rfl ?_
  refine q_bipush (pc := 44) (v := nI 20) dX10_init_44 (by decide) ?_
  refine q_icmp_ge (pc := 46) 68 dX10_init_46 (by decide) (fun c_46 => absurd c_46 (by decide)) (fun c_46 => ?_)
  refine q_aload_n (pc := 49) dX10_init_49 rfl rfl ?_
  refine t_getP (M := mX10_init) (pc := 50) (d := 0) (t := 2) h56 dX10_init_50 fX10_31 (by decide) rfl ⟨by decide, rfl⟩ rfl ?_
  refine q_iload_n (pc := 53) dX10_init_53 rfl rfl ?_
  refine t_new (M := mX10_init) (kc := 3) (ks := 12) (pc := 54) h56 dX10_init_54 nX10_29 (by decide) (fun S57 n57 I57 L57 P57 h57 => ?_)
  refine q_dup (pc := 57) dX10_init_57 rfl ?_
  refine t_callJ (M := mX10_init) (kc := 3) (ks := 12) (kc' := 0) (ks' := 0) (pc := 58) h57 dX10_init_58 kX10_35 (c_init1 h57.in) ⟨Nat.le_of_ble_eq_true rfl, Nat.le_of_ble_eq_true rfl⟩ (Nat.le_of_ble_eq_true rfl) (fun S58 n58 I58 L58 P58 h58 => ?_)
  refine t_aast (M := mX10_init) (pc := 61) (d := 2) (j := 16) (t := 19) h58 dX10_init_61 (by decide) rfl (by decide) rfl (by decide) (by decide) rfl (fun P59 h59 => ?_)
  refine q_iinc (pc := 62) (v := nI 17) dX10_init_62 rfl (bq_inc _) (Nat.le_of_ble_eq_true rfl) rfl ?_
  show bq_W _ _ _ _ _ 65 [_, _] _ _ _ _ _ _ _
  refine q_goto (pc := 65) 43 dX10_init_65 (by decide) ?_
  refine q_iload_n (pc := 43) dX10_init_43 rfl rfl ?_
  refine q_bipush (pc := 44) (v := nI 20) dX10_init_44 (by decide) ?_
  refine q_icmp_ge (pc := 46) 68 dX10_init_46 (by decide) (fun c_46 => absurd c_46 (by decide)) (fun c_46 => ?_)
  refine q_aload_n (pc := 49) dX10_init_49 rfl rfl ?_
  refine t_getP (M := mX10_init) (pc := 50) (d := 0) (t := 2) h59 dX10_init_50 fX10_31 (by decide) rfl ⟨by decide, rfl⟩ rfl ?_
  refine q_iload_n (pc := 53) dX10_init_53 rfl rfl ?_
  refine t_new (M := mX10_init) (kc := 2) (ks := 8) (pc := 54) h59 dX10_init_54 nX10_29 (by decide) (fun S60 n60 I60 L60 P60 h60 => ?_)
  refine q_dup (pc := 57) dX10_init_57 rfl ?_
  refine t_callJ (M := mX10_init) (kc := 2) (ks := 8) (kc' := 0) (ks' := 0) (pc := 58) h60 dX10_init_58 kX10_35 (c_init1 h60.in) ⟨Nat.le_of_ble_eq_true rfl, Nat.le_of_ble_eq_true rfl⟩ (Nat.le_of_ble_eq_true rfl) (fun S61 n61 I61 L61 P61 h61 => ?_)
  refine t_aast (M := mX10_init) (pc := 61) (d := 2) (j := 17) (t := 20) h61 dX10_init_61 (by decide) rfl (by decide) rfl (by decide) (by decide) rfl (fun P62 h62 => ?_)
  refine q_iinc (pc := 62) (v := nI 18) dX10_init_62 rfl (bq_inc _) (Nat.le_of_ble_eq_true rfl) rfl ?_
  show bq_W _ _ _ _ _ 65 [_, _] _ _ _ _ _ _ _
  refine q_goto (pc := 65) 43 dX10_init_65 (by decide) ?_
  refine q_iload_n (pc := 43) dX10_init_43 rfl rfl ?_
  refine q_bipush (pc := 44) (v := nI 20) dX10_init_44 (by decide) ?_
  refine q_icmp_ge (pc := 46) 68 dX10_init_46 (by decide) (fun c_46 => absurd c_46 (by decide)) (fun c_46 => ?_)
  refine q_aload_n (pc := 49) dX10_init_49 rfl rfl ?_
  refine t_getP (M := mX10_init) (pc := 50) (d := 0) (t := 2) h62 dX10_init_50 fX10_31 (by decide) rfl ⟨by decide, rfl⟩ rfl ?_
  refine q_iload_n (pc := 53) dX10_init_53 rfl rfl ?_
  refine t_new (M := mX10_init) (kc := 1) (ks := 4) (pc := 54) h62 dX10_init_54 nX10_29 (by decide) (fun S63 n63 I63 L63 P63 h63 => ?_)
  refine q_dup (pc := 57) dX10_init_57 rfl ?_
  refine t_callJ (M := mX10_init) (kc := 1) (ks := 4) (kc' := 0) (ks' := 0) (pc := 58) h63 dX10_init_58 kX10_35 (c_init1 h63.in) ⟨Nat.le_of_ble_eq_true rfl, Nat.le_of_ble_eq_true rfl⟩ (Nat.le_of_ble_eq_true rfl) (fun S64 n64 I64 L64 P64 h64 => ?_)
  refine t_aast (M := mX10_init) (pc := 61) (d := 2) (j := 18) (t := 21) h64 dX10_init_61 (by decide) rfl (by decide) rfl (by decide) (by decide) rfl (fun P65 h65 => ?_)
  refine q_iinc (pc := 62) (v := nI 19) dX10_init_62 rfl (bq_inc _) (Nat.le_of_ble_eq_true rfl) rfl ?_
  show bq_W _ _ _ _ _ 65 [_, _] _ _ _ _ _ _ _
  refine q_goto (pc := 65) 43 dX10_init_65 (by decide) ?_
  refine q_iload_n (pc := 43) dX10_init_43 rfl rfl ?_
  refine q_bipush (pc := 44) (v := nI 20) dX10_init_44 (by decide) ?_
  refine q_icmp_ge (pc := 46) 68 dX10_init_46 (by decide) (fun c_46 => absurd c_46 (by decide)) (fun c_46 => ?_)
  refine q_aload_n (pc := 49) dX10_init_49 rfl rfl ?_
  refine t_getP (M := mX10_init) (pc := 50) (d := 0) (t := 2) h65 dX10_init_50 fX10_31 (by decide) rfl ⟨by decide, rfl⟩ rfl ?_
  refine q_iload_n (pc := 53) dX10_init_53 rfl rfl ?_
  refine t_new (M := mX10_init) (kc := 0) (ks := 0) (pc := 54) h65 dX10_init_54 nX10_29 (by decide) (fun S66 n66 I66 L66 P66 h66 => ?_)
  refine q_dup (pc := 57) dX10_init_57 rfl ?_
  refine t_callJ (M := mX10_init) (kc := 0) (ks := 0) (kc' := 0) (ks' := 0) (pc := 58) h66 dX10_init_58 kX10_35 (c_init1 h66.in) ⟨Nat.le_of_ble_eq_true rfl, Nat.le_of_ble_eq_true rfl⟩ (Nat.le_of_ble_eq_true rfl) (fun S67 n67 I67 L67 P67 h67 => ?_)
  refine t_aast (M := mX10_init) (pc := 61) (d := 2) (j := 19) (t := 22) h67 dX10_init_61 (by decide) rfl (by decide) rfl (by decide) (by decide) rfl (fun P68 h68 => ?_)
  refine q_iinc (pc := 62) (v := nI 20) dX10_init_62 rfl (bq_inc _) (Nat.le_of_ble_eq_true rfl) rfl ?_
  show bq_W _ _ _ _ _ 65 [_, _] _ _ _ _ _ _ _
  refine q_goto (pc := 65) 43 dX10_init_65 (by decide) ?_
  refine q_iload_n (pc := 43) dX10_init_43 rfl rfl ?_
  refine q_bipush (pc := 44) (v := nI 20) dX10_init_44 (by decide) ?_
  refine q_icmp_ge (pc := 46) 68 dX10_init_46 (by decide) (fun c_46 => ?_) (fun c_46 => absurd (by decide) c_46)
  exact q_vret (st := []) (pc := 68) dX10_init_68 rfl ⟨rfl, h68⟩
def tb8_0 : BqTb := t0 8
def tb8_1 : BqTb := tI tb8_0 0 0 (nI 0)
def tb8_2 : BqTb := tI tb8_1 0 1 (nI 5)
def tb8_3 : BqTb := tN tb8_2 1 (20, 6)
def tb8_4 : BqTb := tP tb8_3 0 2 1
def tb8_5 : BqTb := tI tb8_4 0 3 (nI 0)
def tb8_6 : BqTb := tN tb8_5 2 (13, 16)
def tb8_7 : BqTb := tP tb8_6 0 4 2
def tb8_8 : BqTb := tN tb8_7 3 (13, 16)
def tb8_9 : BqTb := tP tb8_8 0 5 3
def tb8_10 : BqTb := tN tb8_9 4 (0, 0)
def tb8_11 : BqTb := tM tb8_9 4 tb0
def tb8_12 : BqTb := tP tb8_11 0 6 4
def tb8_13 : BqTb := tN tb8_12 6 (0, 0)
def tb8_14 : BqTb := tM tb8_12 6 tb0
def tb8_15 : BqTb := tP tb8_14 0 7 6
def tb8_16 : BqTb := tN tb8_15 8 (0, 0)
def tb8_17 : BqTb := tM tb8_15 8 tb0
def tb8_18 : BqTb := tP tb8_17 0 8 8
def tb8_19 : BqTb := tN tb8_18 10 (13, 4)
def tb8_20 : BqTb := tP tb8_19 0 9 10
def tb8_21 : BqTb := tI tb8_20 0 10 (nI 0)
def tb8_22 : BqTb := tN tb8_21 11 (18, 10)
def tb8_23 : BqTb := tP tb8_22 0 11 11
def tb8_24 : BqTb := tI tb8_23 0 12 (nI 0)
def tb8_25 : BqTb := tN tb8_24 12 (17, 10)
def tb8_26 : BqTb := tP tb8_25 0 13 12
def tb8_27 : BqTb := tN tb8_26 13 (2, 0)
def tb8_28 : BqTb := tM tb8_26 13 tb2
def tb8_29 : BqTb := tP tb8_28 0 16 13
def tb8_30 : BqTb := tN tb8_29 15 (9, 0)
def tb8_31 : BqTb := tM tb8_29 15 tb9
def tb8_32 : BqTb := tP tb8_31 1 0 15
def tb8_33 : BqTb := tN tb8_32 18 (9, 0)
def tb8_34 : BqTb := tM tb8_32 18 tb9
def tb8_35 : BqTb := tP tb8_34 1 1 18
def tb8_36 : BqTb := tN tb8_35 21 (9, 0)
def tb8_37 : BqTb := tM tb8_35 21 tb9
def tb8_38 : BqTb := tP tb8_37 1 2 21
def tb8_39 : BqTb := tN tb8_38 24 (9, 0)
def tb8_40 : BqTb := tM tb8_38 24 tb9
def tb8_41 : BqTb := tP tb8_40 1 3 24
def tb8_42 : BqTb := tN tb8_41 27 (9, 0)
def tb8_43 : BqTb := tM tb8_41 27 tb9
def tb8_44 : BqTb := tP tb8_43 1 4 27
def tb8_45 : BqTb := tN tb8_44 30 (9, 0)
def tb8_46 : BqTb := tM tb8_44 30 tb9
def tb8_47 : BqTb := tP tb8_46 1 5 30
def tb8_48 : BqTb := tN tb8_47 33 (7, 0)
def tb8_49 : BqTb := tM tb8_47 33 tb7
def tb8_50 : BqTb := tP tb8_49 11 0 33
def tb8_51 : BqTb := tN tb8_50 34 (7, 0)
def tb8_52 : BqTb := tM tb8_50 34 tb7
def tb8_53 : BqTb := tP tb8_52 11 1 34
def tb8_54 : BqTb := tN tb8_53 35 (7, 0)
def tb8_55 : BqTb := tM tb8_53 35 tb7
def tb8_56 : BqTb := tP tb8_55 11 2 35
def tb8_57 : BqTb := tN tb8_56 36 (7, 0)
def tb8_58 : BqTb := tM tb8_56 36 tb7
def tb8_59 : BqTb := tP tb8_58 11 3 36
def tb8_60 : BqTb := tN tb8_59 37 (7, 0)
def tb8_61 : BqTb := tM tb8_59 37 tb7
def tb8_62 : BqTb := tP tb8_61 11 4 37
def tb8_63 : BqTb := tN tb8_62 38 (7, 0)
def tb8_64 : BqTb := tM tb8_62 38 tb7
def tb8_65 : BqTb := tP tb8_64 11 5 38
def tb8_66 : BqTb := tN tb8_65 39 (7, 0)
def tb8_67 : BqTb := tM tb8_65 39 tb7
def tb8_68 : BqTb := tP tb8_67 11 6 39
def tb8_69 : BqTb := tN tb8_68 40 (7, 0)
def tb8_70 : BqTb := tM tb8_68 40 tb7
def tb8_71 : BqTb := tP tb8_70 11 7 40
def tb8_72 : BqTb := tN tb8_71 41 (7, 0)
def tb8_73 : BqTb := tM tb8_71 41 tb7
def tb8_74 : BqTb := tP tb8_73 11 8 41
def tb8_75 : BqTb := tN tb8_74 42 (7, 0)
def tb8_76 : BqTb := tM tb8_74 42 tb7
def tb8_77 : BqTb := tP tb8_76 11 9 42
def tb8_78 : BqTb := tN tb8_77 43 (4, 0)
def tb8_79 : BqTb := tM tb8_77 43 tb4
def tb8_80 : BqTb := tP tb8_79 12 0 43
def tb8_81 : BqTb := tN tb8_80 44 (4, 0)
def tb8_82 : BqTb := tM tb8_80 44 tb4
def tb8_83 : BqTb := tP tb8_82 12 1 44
def tb8_84 : BqTb := tN tb8_83 45 (4, 0)
def tb8_85 : BqTb := tM tb8_83 45 tb4
def tb8_86 : BqTb := tP tb8_85 12 2 45
def tb8_87 : BqTb := tN tb8_86 46 (4, 0)
def tb8_88 : BqTb := tM tb8_86 46 tb4
def tb8_89 : BqTb := tP tb8_88 12 3 46
def tb8_90 : BqTb := tN tb8_89 47 (4, 0)
def tb8_91 : BqTb := tM tb8_89 47 tb4
def tb8_92 : BqTb := tP tb8_91 12 4 47
def tb8_93 : BqTb := tN tb8_92 48 (4, 0)
def tb8_94 : BqTb := tM tb8_92 48 tb4
def tb8_95 : BqTb := tP tb8_94 12 5 48
def tb8_96 : BqTb := tN tb8_95 49 (4, 0)
def tb8_97 : BqTb := tM tb8_95 49 tb4
def tb8_98 : BqTb := tP tb8_97 12 6 49
def tb8_99 : BqTb := tN tb8_98 50 (4, 0)
def tb8_100 : BqTb := tM tb8_98 50 tb4
def tb8_101 : BqTb := tP tb8_100 12 7 50
def tb8_102 : BqTb := tN tb8_101 51 (4, 0)
def tb8_103 : BqTb := tM tb8_101 51 tb4
def tb8_104 : BqTb := tP tb8_103 12 8 51
def tb8_105 : BqTb := tN tb8_104 52 (4, 0)
def tb8_106 : BqTb := tM tb8_104 52 tb4
def tb8_107 : BqTb := tP tb8_106 12 9 52
def tb8 : BqTb := tb8_107
set_option maxHeartbeats 16960000 in
set_option maxRecDepth 20000 in
theorem c_init8 {S : BqH} {n : Nat} {I : BqI} {L : BqL} {P : BqP} {o : Nat} {S0 : BqH} {I0 : BqI} {L0 : BqL} {P0 : BqP} (h0 : BB o 1 (t0 8) S0 I0 L0 P0 S n I L P) : bq_Sp mX8_init 4 60 52 681 [.ref o] S n I L P (qB o 53 tb8 S0 I0 L0 P0) := by
  refine q_entry (vs := [some (.ref o), none]) (by decide +kernel) (by simp) (Nat.le_of_ble_eq_true rfl) rfl ?_
  refine q_aload_n (pc := 0) dX8_init_0 rfl rfl ?_
  refine q_objInit (pc := 1) dX8_init_1 kX8_3 ⟨Nat.le_of_ble_eq_true rfl, Nat.le_of_ble_eq_true rfl⟩ ?_
  refine q_aload_n (pc := 4) dX8_init_4 rfl rfl ?_
  refine q_iconst (pc := 5) (v := nI 0) dX8_init_5 (by decide) ?_
  refine t_putI (M := mX8_init) (pc := 6) (d := 0) h0 dX8_init_6 (pX8_9 _) (by decide) rfl ⟨by decide, rfl⟩ (fun I1 h1 => ?_)
  refine q_aload_n (pc := 9) dX8_init_9 rfl rfl ?_
  refine q_iconst (pc := 10) (v := nI 5) dX8_init_10 (by decide) ?_
  refine t_putI (M := mX8_init) (pc := 11) (d := 0) h1 dX8_init_11 (pX8_15 _) (by decide) rfl ⟨by decide, rfl⟩ (fun I2 h2 => ?_)
  refine q_aload_n (pc := 14) dX8_init_14 rfl rfl ?_
  refine q_bipush (pc := 15) (v := nI 6) dX8_init_15 (by decide) ?_
  refine t_newq (M := mX8_init) (kc := 51) (ks := 675) (len := 6) (kd := 20) (pc := 17) h2 dX8_init_17 qX8_18 (by decide) (by decide) rfl rfl (by decide) (fun S3 n3 I3 L3 P3 h3 => ?_)
  refine t_putP (M := mX8_init) (pc := 20) (d := 0) (t := 1) h3 dX8_init_20 pX8_20 (by decide) rfl ⟨by decide, rfl⟩ (fun P4 h4 => ?_)
  refine q_aload_n (pc := 23) dX8_init_23 rfl rfl ?_
  refine q_iconst (pc := 24) (v := nI 0) dX8_init_24 (by decide) ?_
  refine t_putI (M := mX8_init) (pc := 25) (d := 0) h4 dX8_init_25 (pX8_24 _) (by decide) rfl ⟨by decide, rfl⟩ (fun I5 h5 => ?_)
  refine q_aload_n (pc := 28) dX8_init_28 rfl rfl ?_
  refine q_bipush (pc := 29) (v := nI 16) dX8_init_29 (by decide) ?_
  refine t_newI (M := mX8_init) (kc := 50) (ks := 659) (len := 16) (pc := 31) h5 dX8_init_31 rfl (by decide) (fun S6 n6 I6 L6 P6 h6 => ?_)
  refine t_putP (M := mX8_init) (pc := 33) (d := 0) (t := 2) h6 dX8_init_33 pX8_27 (by decide) rfl ⟨by decide, rfl⟩ (fun P7 h7 => ?_)
  refine q_aload_n (pc := 36) dX8_init_36 rfl rfl ?_
  refine q_bipush (pc := 37) (v := nI 16) dX8_init_37 (by decide) ?_
  refine t_newI (M := mX8_init) (kc := 49) (ks := 643) (len := 16) (pc := 39) h7 dX8_init_39 rfl (by decide) (fun S8 n8 I8 L8 P8 h8 => ?_)
  refine t_putP (M := mX8_init) (pc := 41) (d := 0) (t := 3) h8 dX8_init_41 pX8_31 (by decide) rfl ⟨by decide, rfl⟩ (fun P9 h9 => ?_)
  refine q_aload_n (pc := 44) dX8_init_44 rfl rfl ?_
  refine t_new (M := mX8_init) (kc := 48) (ks := 642) (pc := 45) h9 dX8_init_45 nX8_34 (by decide) (fun S10 n10 I10 L10 P10 h10 => ?_)
  refine q_dup (pc := 48) dX8_init_48 rfl ?_
  refine t_callJ (M := mX8_init) (kc := 47) (ks := 626) (kc' := 1) (ks' := 16) (pc := 49) h10 dX8_init_49 kX8_36 (c_init0 h10.in) ⟨Nat.le_of_ble_eq_true rfl, Nat.le_of_ble_eq_true rfl⟩ (Nat.le_of_ble_eq_true rfl) (fun S11 n11 I11 L11 P11 h11 => ?_)
  refine t_putP (M := mX8_init) (pc := 52) (d := 0) (t := 4) h11 dX8_init_52 pX8_37 (by decide) rfl ⟨by decide, rfl⟩ (fun P12 h12 => ?_)
  refine q_aload_n (pc := 55) dX8_init_55 rfl rfl ?_
  refine t_new (M := mX8_init) (kc := 46) (ks := 625) (pc := 56) h12 dX8_init_56 nX8_34 (by decide) (fun S13 n13 I13 L13 P13 h13 => ?_)
  refine q_dup (pc := 59) dX8_init_59 rfl ?_
  refine t_callJ (M := mX8_init) (kc := 45) (ks := 609) (kc' := 1) (ks' := 16) (pc := 60) h13 dX8_init_60 kX8_36 (c_init0 h13.in) ⟨Nat.le_of_ble_eq_true rfl, Nat.le_of_ble_eq_true rfl⟩ (Nat.le_of_ble_eq_true rfl) (fun S14 n14 I14 L14 P14 h14 => ?_)
  refine t_putP (M := mX8_init) (pc := 63) (d := 0) (t := 6) h14 dX8_init_63 pX8_41 (by decide) rfl ⟨by decide, rfl⟩ (fun P15 h15 => ?_)
  refine q_aload_n (pc := 66) dX8_init_66 rfl rfl ?_
  refine t_new (M := mX8_init) (kc := 44) (ks := 608) (pc := 67) h15 dX8_init_67 nX8_34 (by decide) (fun S16 n16 I16 L16 P16 h16 => ?_)
  refine q_dup (pc := 70) dX8_init_70 rfl ?_
  refine t_callJ (M := mX8_init) (kc := 43) (ks := 592) (kc' := 1) (ks' := 16) (pc := 71) h16 dX8_init_71 kX8_36 (c_init0 h16.in) ⟨Nat.le_of_ble_eq_true rfl, Nat.le_of_ble_eq_true rfl⟩ (Nat.le_of_ble_eq_true rfl) (fun S17 n17 I17 L17 P17 h17 => ?_)
  refine t_putP (M := mX8_init) (pc := 74) (d := 0) (t := 8) h17 dX8_init_74 pX8_44 (by decide) rfl ⟨by decide, rfl⟩ (fun P18 h18 => ?_)
  refine q_aload_n (pc := 77) dX8_init_77 rfl rfl ?_
  refine q_iconst (pc := 78) (v := nI 4) dX8_init_78 (by decide) ?_
  refine t_newI (M := mX8_init) (kc := 42) (ks := 588) (len := 4) (pc := 79) h18 dX8_init_79 rfl (by decide) (fun S19 n19 I19 L19 P19 h19 => ?_)
  refine t_putP (M := mX8_init) (pc := 81) (d := 0) (t := 10) h19 dX8_init_81 pX8_47 (by decide) rfl ⟨by decide, rfl⟩ (fun P20 h20 => ?_)
  refine q_aload_n (pc := 84) dX8_init_84 rfl rfl ?_
  refine q_iconst (pc := 85) (v := nI 0) dX8_init_85 (by decide) ?_
  refine t_putI (M := mX8_init) (pc := 86) (d := 0) h20 dX8_init_86 (pX8_50 _) (by decide) rfl ⟨by decide, rfl⟩ (fun I21 h21 => ?_)
  refine q_aload_n (pc := 89) dX8_init_89 rfl rfl ?_
  refine q_bipush (pc := 90) (v := nI 10) dX8_init_90 (by decide) ?_
  refine t_newq (M := mX8_init) (kc := 41) (ks := 578) (len := 10) (kd := 18) (pc := 92) h21 dX8_init_92 qX8_53 (by decide) (by decide) rfl rfl (by decide) (fun S22 n22 I22 L22 P22 h22 => ?_)
  refine t_putP (M := mX8_init) (pc := 95) (d := 0) (t := 11) h22 dX8_init_95 pX8_55 (by decide) rfl ⟨by decide, rfl⟩ (fun P23 h23 => ?_)
  refine q_aload_n (pc := 98) dX8_init_98 rfl rfl ?_
  refine q_iconst (pc := 99) (v := nI 0) dX8_init_99 (by decide) ?_
  refine t_putI (M := mX8_init) (pc := 100) (d := 0) h23 dX8_init_100 (pX8_59 _) (by decide) rfl ⟨by decide, rfl⟩ (fun I24 h24 => ?_)
  refine q_aload_n (pc := 103) dX8_init_103 rfl rfl ?_
  refine q_bipush (pc := 104) (v := nI 10) dX8_init_104 (by decide) ?_
  refine t_newq (M := mX8_init) (kc := 40) (ks := 568) (len := 10) (kd := 17) (pc := 106) h24 dX8_init_106 qX8_62 (by decide) (by decide) rfl rfl (by decide) (fun S25 n25 I25 L25 P25 h25 => ?_)
  refine t_putP (M := mX8_init) (pc := 109) (d := 0) (t := 12) h25 dX8_init_109 pX8_64 (by decide) rfl ⟨by decide, rfl⟩ (fun P26 h26 => ?_)
  refine q_aload_n (pc := 112) dX8_init_112 rfl rfl ?_
  refine q_lconst (pc := 113) dX8_init_113 rfl ?_
  refine t_putL (M := mX8_init) (pc := 114) (d := 0) h26 dX8_init_114 (pX8_68 _) (by decide) rfl ⟨by decide, rfl⟩ rfl (fun L27 h27 => ?_)
  refine q_aload_n (pc := 117) dX8_init_117 rfl rfl ?_
  refine q_lconst (pc := 118) dX8_init_118 rfl ?_
  refine t_putL (M := mX8_init) (pc := 119) (d := 0) h27 dX8_init_119 (pX8_72 _) (by decide) rfl ⟨by decide, rfl⟩ rfl (fun L28 h28 => ?_)
  refine q_aload_n (pc := 122) dX8_init_122 rfl rfl ?_
  refine t_new (M := mX8_init) (kc := 39) (ks := 566) (pc := 123) h28 dX8_init_123 nX8_75 (by decide) (fun S29 n29 I29 L29 P29 h29 => ?_)
  refine q_dup (pc := 126) dX8_init_126 rfl ?_
  refine t_callJ (M := mX8_init) (kc := 38) (ks := 246) (kc' := 1) (ks' := 320) (pc := 127) h29 dX8_init_127 kX8_77 (c_init2 h29.in) ⟨Nat.le_of_ble_eq_true rfl, Nat.le_of_ble_eq_true rfl⟩ (Nat.le_of_ble_eq_true rfl) (fun S30 n30 I30 L30 P30 h30 => ?_)
  refine t_putP (M := mX8_init) (pc := 130) (d := 0) (t := 13) h30 dX8_init_130 pX8_78 (by decide) rfl ⟨by decide, rfl⟩ (fun P31 h31 => ?_)
  refine q_iconst (pc := 133) (v := nI 0) dX8_init_133 (by decide) ?_
  refine q_istore_n (pc := 134) dX8_init_134 rfl (Nat.le_of_ble_eq_true rfl) rfl ?_
  show bq_W _ _ _ _ _ 135 [_, _] _ _ _ _ _ _ _
  refine q_iload_n (pc := 135) dX8_init_135 rfl rfl ?_
  refine q_bipush (pc := 136) (v := nI 6) dX8_init_136 (by decide) ?_
  refine q_icmp_ge (pc := 138) 160 dX8_init_138 (by decide) (fun c_138 => absurd c_138 (by decide)) (fun c_138 => ?_)
  refine q_aload_n (pc := 141) dX8_init_141 rfl rfl ?_
  refine t_getP (M := mX8_init) (pc := 142) (d := 0) (t := 1) h31 dX8_init_142 fX8_20 (by decide) rfl ⟨by decide, rfl⟩ rfl ?_
  refine q_iload_n (pc := 145) dX8_init_145 rfl rfl ?_
  refine t_new (M := mX8_init) (kc := 37) (ks := 242) (pc := 146) h31 dX8_init_146 nX8_18 (by decide) (fun S32 n32 I32 L32 P32 h32 => ?_)
  refine q_dup (pc := 149) dX8_init_149 rfl ?_
  refine t_callJ (M := mX8_init) (kc := 35) (ks := 225) (kc' := 2) (ks' := 17) (pc := 150) h32 dX8_init_150 kX8_82 (c_init9 h32.in) ⟨Nat.le_of_ble_eq_true rfl, Nat.le_of_ble_eq_true rfl⟩ (Nat.le_of_ble_eq_true rfl) (fun S33 n33 I33 L33 P33 h33 => ?_)
  refine t_aast (M := mX8_init) (pc := 153) (d := 1) (j := 0) (t := 15) h33 dX8_init_153 (by decide) rfl (by decide) rfl (by decide) (by decide) rfl (fun P34 h34 => ?_)
  refine q_iinc (pc := 154) (v := nI 1) dX8_init_154 rfl (bq_inc _) (Nat.le_of_ble_eq_true rfl) rfl ?_
  show bq_W _ _ _ _ _ 157 [_, _] _ _ _ _ _ _ _
  refine q_goto (pc := 157) 135 dX8_init_157 (by decide) ?_
  refine q_iload_n (pc := 135) dX8_init_135 rfl rfl ?_
  refine q_bipush (pc := 136) (v := nI 6) dX8_init_136 (by decide) ?_
  refine q_icmp_ge (pc := 138) 160 dX8_init_138 (by decide) (fun c_138 => absurd c_138 (by decide)) (fun c_138 => ?_)
  refine q_aload_n (pc := 141) dX8_init_141 rfl rfl ?_
  refine t_getP (M := mX8_init) (pc := 142) (d := 0) (t := 1) h34 dX8_init_142 fX8_20 (by decide) rfl ⟨by decide, rfl⟩ rfl ?_
  refine q_iload_n (pc := 145) dX8_init_145 rfl rfl ?_
  refine t_new (M := mX8_init) (kc := 34) (ks := 221) (pc := 146) h34 dX8_init_146 nX8_18 (by decide) (fun S35 n35 I35 L35 P35 h35 => ?_)
  refine q_dup (pc := 149) dX8_init_149 rfl ?_
  refine t_callJ (M := mX8_init) (kc := 32) (ks := 204) (kc' := 2) (ks' := 17) (pc := 150) h35 dX8_init_150 kX8_82 (c_init9 h35.in) ⟨Nat.le_of_ble_eq_true rfl, Nat.le_of_ble_eq_true rfl⟩ (Nat.le_of_ble_eq_true rfl) (fun S36 n36 I36 L36 P36 h36 => ?_)
  refine t_aast (M := mX8_init) (pc := 153) (d := 1) (j := 1) (t := 18) h36 dX8_init_153 (by decide) rfl (by decide) rfl (by decide) (by decide) rfl (fun P37 h37 => ?_)
  refine q_iinc (pc := 154) (v := nI 2) dX8_init_154 rfl (bq_inc _) (Nat.le_of_ble_eq_true rfl) rfl ?_
  show bq_W _ _ _ _ _ 157 [_, _] _ _ _ _ _ _ _
  refine q_goto (pc := 157) 135 dX8_init_157 (by decide) ?_
  refine q_iload_n (pc := 135) dX8_init_135 rfl rfl ?_
  refine q_bipush (pc := 136) (v := nI 6) dX8_init_136 (by decide) ?_
  refine q_icmp_ge (pc := 138) 160 dX8_init_138 (by decide) (fun c_138 => absurd c_138 (by decide)) (fun c_138 => ?_)
  refine q_aload_n (pc := 141) dX8_init_141 rfl rfl ?_
  refine t_getP (M := mX8_init) (pc := 142) (d := 0) (t := 1) h37 dX8_init_142 fX8_20 (by decide) rfl ⟨by decide, rfl⟩ rfl ?_
  refine q_iload_n (pc := 145) dX8_init_145 rfl rfl ?_
  refine t_new (M := mX8_init) (kc := 31) (ks := 200) (pc := 146) h37 dX8_init_146 nX8_18 (by decide) (fun S38 n38 I38 L38 P38 h38 => ?_)
  refine q_dup (pc := 149) dX8_init_149 rfl ?_
  refine t_callJ (M := mX8_init) (kc := 29) (ks := 183) (kc' := 2) (ks' := 17) (pc := 150) h38 dX8_init_150 kX8_82 (c_init9 h38.in) ⟨Nat.le_of_ble_eq_true rfl, Nat.le_of_ble_eq_true rfl⟩ (Nat.le_of_ble_eq_true rfl) (fun S39 n39 I39 L39 P39 h39 => ?_)
  refine t_aast (M := mX8_init) (pc := 153) (d := 1) (j := 2) (t := 21) h39 dX8_init_153 (by decide) rfl (by decide) rfl (by decide) (by decide) rfl (fun P40 h40 => ?_)
  refine q_iinc (pc := 154) (v := nI 3) dX8_init_154 rfl (bq_inc _) (Nat.le_of_ble_eq_true rfl) rfl ?_
  show bq_W _ _ _ _ _ 157 [_, _] _ _ _ _ _ _ _
  refine q_goto (pc := 157) 135 dX8_init_157 (by decide) ?_
  refine q_iload_n (pc := 135) dX8_init_135 rfl rfl ?_
  refine q_bipush (pc := 136) (v := nI 6) dX8_init_136 (by decide) ?_
  refine q_icmp_ge (pc := 138) 160 dX8_init_138 (by decide) (fun c_138 => absurd c_138 (by decide)) (fun c_138 => ?_)
  refine q_aload_n (pc := 141) dX8_init_141 rfl rfl ?_
  refine t_getP (M := mX8_init) (pc := 142) (d := 0) (t := 1) h40 dX8_init_142 fX8_20 (by decide) rfl ⟨by decide, rfl⟩ rfl ?_
  refine q_iload_n (pc := 145) dX8_init_145 rfl rfl ?_
  refine t_new (M := mX8_init) (kc := 28) (ks := 179) (pc := 146) h40 dX8_init_146 nX8_18 (by decide) (fun S41 n41 I41 L41 P41 h41 => ?_)
  refine q_dup (pc := 149) dX8_init_149 rfl ?_
  refine t_callJ (M := mX8_init) (kc := 26) (ks := 162) (kc' := 2) (ks' := 17) (pc := 150) h41 dX8_init_150 kX8_82 (c_init9 h41.in) ⟨Nat.le_of_ble_eq_true rfl, Nat.le_of_ble_eq_true rfl⟩ (Nat.le_of_ble_eq_true rfl) (fun S42 n42 I42 L42 P42 h42 => ?_)
  refine t_aast (M := mX8_init) (pc := 153) (d := 1) (j := 3) (t := 24) h42 dX8_init_153 (by decide) rfl (by decide) rfl (by decide) (by decide) rfl (fun P43 h43 => ?_)
  refine q_iinc (pc := 154) (v := nI 4) dX8_init_154 rfl (bq_inc _) (Nat.le_of_ble_eq_true rfl) rfl ?_
  show bq_W _ _ _ _ _ 157 [_, _] _ _ _ _ _ _ _
  refine q_goto (pc := 157) 135 dX8_init_157 (by decide) ?_
  refine q_iload_n (pc := 135) dX8_init_135 rfl rfl ?_
  refine q_bipush (pc := 136) (v := nI 6) dX8_init_136 (by decide) ?_
  refine q_icmp_ge (pc := 138) 160 dX8_init_138 (by decide) (fun c_138 => absurd c_138 (by decide)) (fun c_138 => ?_)
  refine q_aload_n (pc := 141) dX8_init_141 rfl rfl ?_
  refine t_getP (M := mX8_init) (pc := 142) (d := 0) (t := 1) h43 dX8_init_142 fX8_20 (by decide) rfl ⟨by decide, rfl⟩ rfl ?_
  refine q_iload_n (pc := 145) dX8_init_145 rfl rfl ?_
  refine t_new (M := mX8_init) (kc := 25) (ks := 158) (pc := 146) h43 dX8_init_146 nX8_18 (by decide) (fun S44 n44 I44 L44 P44 h44 => ?_)
  refine q_dup (pc := 149) dX8_init_149 rfl ?_
  refine t_callJ (M := mX8_init) (kc := 23) (ks := 141) (kc' := 2) (ks' := 17) (pc := 150) h44 dX8_init_150 kX8_82 (c_init9 h44.in) ⟨Nat.le_of_ble_eq_true rfl, Nat.le_of_ble_eq_true rfl⟩ (Nat.le_of_ble_eq_true rfl) (fun S45 n45 I45 L45 P45 h45 => ?_)
  refine t_aast (M := mX8_init) (pc := 153) (d := 1) (j := 4) (t := 27) h45 dX8_init_153 (by decide) rfl (by decide) rfl (by decide) (by decide) rfl (fun P46 h46 => ?_)
  refine q_iinc (pc := 154) (v := nI 5) dX8_init_154 rfl (bq_inc _) (Nat.le_of_ble_eq_true rfl) rfl ?_
  show bq_W _ _ _ _ _ 157 [_, _] _ _ _ _ _ _ _
  refine q_goto (pc := 157) 135 dX8_init_157 (by decide) ?_
  refine q_iload_n (pc := 135) dX8_init_135 rfl rfl ?_
  refine q_bipush (pc := 136) (v := nI 6) dX8_init_136 (by decide) ?_
  refine q_icmp_ge (pc := 138) 160 dX8_init_138 (by decide) (fun c_138 => absurd c_138 (by decide)) (fun c_138 => ?_)
  refine q_aload_n (pc := 141) dX8_init_141 rfl rfl ?_
  refine t_getP (M := mX8_init) (pc := 142) (d := 0) (t := 1) h46 dX8_init_142 fX8_20 (by decide) rfl ⟨by decide, rfl⟩ rfl ?_
  refine q_iload_n (pc := 145) dX8_init_145 rfl rfl ?_
  refine t_new (M := mX8_init) (kc := 22) (ks := 137) (pc := 146) h46 dX8_init_146 nX8_18 (by decide) (fun S47 n47 I47 L47 P47 h47 => ?_)
  refine q_dup (pc := 149) dX8_init_149 rfl ?_
  refine t_callJ (M := mX8_init) (kc := 20) (ks := 120) (kc' := 2) (ks' := 17) (pc := 150) h47 dX8_init_150 kX8_82 (c_init9 h47.in) ⟨Nat.le_of_ble_eq_true rfl, Nat.le_of_ble_eq_true rfl⟩ (Nat.le_of_ble_eq_true rfl) (fun S48 n48 I48 L48 P48 h48 => ?_)
  refine t_aast (M := mX8_init) (pc := 153) (d := 1) (j := 5) (t := 30) h48 dX8_init_153 (by decide) rfl (by decide) rfl (by decide) (by decide) rfl (fun P49 h49 => ?_)
  refine q_iinc (pc := 154) (v := nI 6) dX8_init_154 rfl (bq_inc _) (Nat.le_of_ble_eq_true rfl) rfl ?_
  show bq_W _ _ _ _ _ 157 [_, _] _ _ _ _ _ _ _
  refine q_goto (pc := 157) 135 dX8_init_157 (by decide) ?_
  refine q_iload_n (pc := 135) dX8_init_135 rfl rfl ?_
  refine q_bipush (pc := 136) (v := nI 6) dX8_init_136 (by decide) ?_
  refine q_icmp_ge (pc := 138) 160 dX8_init_138 (by decide) (fun c_138 => ?_) (fun c_138 => absurd (by decide) c_138)
  refine q_iconst (pc := 160) (v := nI 0) dX8_init_160 (by decide) ?_
  refine q_istore_n (pc := 161) dX8_init_161 rfl (Nat.le_of_ble_eq_true rfl) rfl ?_
  show bq_W _ _ _ _ _ 162 [_, _] _ _ _ _ _ _ _
  refine q_iload_n (pc := 162) dX8_init_162 rfl rfl ?_
  refine q_bipush (pc := 163) (v := nI 10) dX8_init_163 (by decide) ?_
  refine q_icmp_ge (pc := 165) 187 dX8_init_165 (by decide) (fun c_165 => absurd c_165 (by decide)) (fun c_165 => ?_)
  refine q_aload_n (pc := 168) dX8_init_168 rfl rfl ?_
  refine t_getP (M := mX8_init) (pc := 169) (d := 0) (t := 11) h49 dX8_init_169 fX8_55 (by decide) rfl ⟨by decide, rfl⟩ rfl ?_
  refine q_iload_n (pc := 172) dX8_init_172 rfl rfl ?_
  refine t_new (M := mX8_init) (kc := 19) (ks := 117) (pc := 173) h49 dX8_init_173 nX8_53 (by decide) (fun S50 n50 I50 L50 P50 h50 => ?_)
  refine q_dup (pc := 176) dX8_init_176 rfl ?_
  refine t_callJ (M := mX8_init) (kc := 19) (ks := 117) (kc' := 0) (ks' := 0) (pc := 177) h50 dX8_init_177 kX8_83 (c_init7 h50.in) ⟨Nat.le_of_ble_eq_true rfl, Nat.le_of_ble_eq_true rfl⟩ (Nat.le_of_ble_eq_true rfl) (fun S51 n51 I51 L51 P51 h51 => ?_)
  refine t_aast (M := mX8_init) (pc := 180) (d := 11) (j := 0) (t := 33) h51 dX8_init_180 (by decide) rfl (by decide) rfl (by decide) (by decide) rfl (fun P52 h52 => ?_)
  refine q_iinc (pc := 181) (v := nI 1) dX8_init_181 rfl (bq_inc _) (Nat.le_of_ble_eq_true rfl) rfl ?_
  show bq_W _ _ _ _ _ 184 [_, _] _ _ _ _ _ _ _
  refine q_goto (pc := 184) 162 dX8_init_184 (by decide) ?_
  refine q_iload_n (pc := 162) dX8_init_162 rfl rfl ?_
  refine q_bipush (pc := 163) (v := nI 10) dX8_init_163 (by decide) ?_
  refine q_icmp_ge (pc := 165) 187 dX8_init_165 (by decide) (fun c_165 => absurd c_165 (by decide)) (fun c_165 => ?_)
  refine q_aload_n (pc := 168) dX8_init_168 rfl rfl ?_
  refine t_getP (M := mX8_init) (pc := 169) (d := 0) (t := 11) h52 dX8_init_169 fX8_55 (by decide) rfl ⟨by decide, rfl⟩ rfl ?_
  refine q_iload_n (pc := 172) dX8_init_172 rfl rfl ?_
  refine t_new (M := mX8_init) (kc := 18) (ks := 114) (pc := 173) h52 dX8_init_173 nX8_53 (by decide) (fun S53 n53 I53 L53 P53 h53 => ?_)
  refine q_dup (pc := 176) dX8_init_176 rfl ?_
  refine t_callJ (M := mX8_init) (kc := 18) (ks := 114) (kc' := 0) (ks' := 0) (pc := 177) h53 dX8_init_177 kX8_83 (c_init7 h53.in) ⟨Nat.le_of_ble_eq_true rfl, Nat.le_of_ble_eq_true rfl⟩ (Nat.le_of_ble_eq_true rfl) (fun S54 n54 I54 L54 P54 h54 => ?_)
  refine t_aast (M := mX8_init) (pc := 180) (d := 11) (j := 1) (t := 34) h54 dX8_init_180 (by decide) rfl (by decide) rfl (by decide) (by decide) rfl (fun P55 h55 => ?_)
  refine q_iinc (pc := 181) (v := nI 2) dX8_init_181 rfl (bq_inc _) (Nat.le_of_ble_eq_true rfl) rfl ?_
  show bq_W _ _ _ _ _ 184 [_, _] _ _ _ _ _ _ _
  refine q_goto (pc := 184) 162 dX8_init_184 (by decide) ?_
  refine q_iload_n (pc := 162) dX8_init_162 rfl rfl ?_
  refine q_bipush (pc := 163) (v := nI 10) dX8_init_163 (by decide) ?_
  refine q_icmp_ge (pc := 165) 187 dX8_init_165 (by decide) (fun c_165 => absurd c_165 (by decide)) (fun c_165 => ?_)
  refine q_aload_n (pc := 168) dX8_init_168 rfl rfl ?_
  refine t_getP (M := mX8_init) (pc := 169) (d := 0) (t := 11) h55 dX8_init_169 fX8_55 (by decide) rfl ⟨by decide, rfl⟩ rfl ?_
  refine q_iload_n (pc := 172) dX8_init_172 rfl rfl ?_
  refine t_new (M := mX8_init) (kc := 17) (ks := 111) (pc := 173) h55 dX8_init_173 nX8_53 (by decide) (fun S56 n56 I56 L56 P56 h56 => ?_)
  refine q_dup (pc := 176) dX8_init_176 rfl ?_
  refine t_callJ (M := mX8_init) (kc := 17) (ks := 111) (kc' := 0) (ks' := 0) (pc := 177) h56 dX8_init_177 kX8_83 (c_init7 h56.in) ⟨Nat.le_of_ble_eq_true rfl, Nat.le_of_ble_eq_true rfl⟩ (Nat.le_of_ble_eq_true rfl) (fun S57 n57 I57 L57 P57 h57 => ?_)
  refine t_aast (M := mX8_init) (pc := 180) (d := 11) (j := 2) (t := 35) h57 dX8_init_180 (by decide) rfl (by decide) rfl (by decide) (by decide) rfl (fun P58 h58 => ?_)
  refine q_iinc (pc := 181) (v := nI 3) dX8_init_181 rfl (bq_inc _) (Nat.le_of_ble_eq_true rfl) rfl ?_
  show bq_W _ _ _ _ _ 184 [_, _] _ _ _ _ _ _ _
  refine q_goto (pc := 184) 162 dX8_init_184 (by decide) ?_
  refine q_iload_n (pc := 162) dX8_init_162 rfl rfl ?_
  refine q_bipush (pc := 163) (v := nI 10) dX8_init_163 (by decide) ?_
  refine q_icmp_ge (pc := 165) 187 dX8_init_165 (by decide) (fun c_165 => absurd c_165 (by decide)) (fun c_165 => ?_)
  refine q_aload_n (pc := 168) dX8_init_168 rfl rfl ?_
  refine t_getP (M := mX8_init) (pc := 169) (d := 0) (t := 11) h58 dX8_init_169 fX8_55 (by decide) rfl ⟨by decide, rfl⟩ rfl ?_
  refine q_iload_n (pc := 172) dX8_init_172 rfl rfl ?_
  refine t_new (M := mX8_init) (kc := 16) (ks := 108) (pc := 173) h58 dX8_init_173 nX8_53 (by decide) (fun S59 n59 I59 L59 P59 h59 => ?_)
  refine q_dup (pc := 176) dX8_init_176 rfl ?_
  refine t_callJ (M := mX8_init) (kc := 16) (ks := 108) (kc' := 0) (ks' := 0) (pc := 177) h59 dX8_init_177 kX8_83 (c_init7 h59.in) ⟨Nat.le_of_ble_eq_true rfl, Nat.le_of_ble_eq_true rfl⟩ (Nat.le_of_ble_eq_true rfl) (fun S60 n60 I60 L60 P60 h60 => ?_)
  refine t_aast (M := mX8_init) (pc := 180) (d := 11) (j := 3) (t := 36) h60 dX8_init_180 (by decide) rfl (by decide) rfl (by decide) (by decide) rfl (fun P61 h61 => ?_)
  refine q_iinc (pc := 181) (v := nI 4) dX8_init_181 rfl (bq_inc _) (Nat.le_of_ble_eq_true rfl) rfl ?_
  show bq_W _ _ _ _ _ 184 [_, _] _ _ _ _ _ _ _
  refine q_goto (pc := 184) 162 dX8_init_184 (by decide) ?_
  refine q_iload_n (pc := 162) dX8_init_162 rfl rfl ?_
  refine q_bipush (pc := 163) (v := nI 10) dX8_init_163 (by decide) ?_
  refine q_icmp_ge (pc := 165) 187 dX8_init_165 (by decide) (fun c_165 => absurd c_165 (by decide)) (fun c_165 => ?_)
  refine q_aload_n (pc := 168) dX8_init_168 rfl rfl ?_
  refine t_getP (M := mX8_init) (pc := 169) (d := 0) (t := 11) h61 dX8_init_169 fX8_55 (by decide) rfl ⟨by decide, rfl⟩ rfl ?_
  refine q_iload_n (pc := 172) dX8_init_172 rfl rfl ?_
  refine t_new (M := mX8_init) (kc := 15) (ks := 105) (pc := 173) h61 dX8_init_173 nX8_53 (by decide) (fun S62 n62 I62 L62 P62 h62 => ?_)
  refine q_dup (pc := 176) dX8_init_176 rfl ?_
  refine t_callJ (M := mX8_init) (kc := 15) (ks := 105) (kc' := 0) (ks' := 0) (pc := 177) h62 dX8_init_177 kX8_83 (c_init7 h62.in) ⟨Nat.le_of_ble_eq_true rfl, Nat.le_of_ble_eq_true rfl⟩ (Nat.le_of_ble_eq_true rfl) (fun S63 n63 I63 L63 P63 h63 => ?_)
  refine t_aast (M := mX8_init) (pc := 180) (d := 11) (j := 4) (t := 37) h63 dX8_init_180 (by decide) rfl (by decide) rfl (by decide) (by decide) rfl (fun P64 h64 => ?_)
  refine q_iinc (pc := 181) (v := nI 5) dX8_init_181 rfl (bq_inc _) (Nat.le_of_ble_eq_true rfl) rfl ?_
  show bq_W _ _ _ _ _ 184 [_, _] _ _ _ _ _ _ _
  refine q_goto (pc := 184) 162 dX8_init_184 (by decide) ?_
  refine q_iload_n (pc := 162) dX8_init_162 rfl rfl ?_
  refine q_bipush (pc := 163) (v := nI 10) dX8_init_163 (by decide) ?_
  refine q_icmp_ge (pc := 165) 187 dX8_init_165 (by decide) (fun c_165 => absurd c_165 (by decide)) (fun c_165 => ?_)
  refine q_aload_n (pc := 168) dX8_init_168 rfl rfl ?_
  refine t_getP (M := mX8_init) (pc := 169) (d := 0) (t := 11) h64 dX8_init_169 fX8_55 (by decide) rfl ⟨by decide, rfl⟩ rfl ?_
  refine q_iload_n (pc := 172) dX8_init_172 rfl rfl ?_
  refine t_new (M := mX8_init) (kc := 14) (ks := 102) (pc := 173) h64 dX8_init_173 nX8_53 (by decide) (fun S65 n65 I65 L65 P65 h65 => ?_)
  refine q_dup (pc := 176) dX8_init_176 rfl ?_
  refine t_callJ (M := mX8_init) (kc := 14) (ks := 102) (kc' := 0) (ks' := 0) (pc := 177) h65 dX8_init_177 kX8_83 (c_init7 h65.in) ⟨Nat.le_of_ble_eq_true rfl, Nat.le_of_ble_eq_true rfl⟩ (Nat.le_of_ble_eq_true rfl) (fun S66 n66 I66 L66 P66 h66 => ?_)
  refine t_aast (M := mX8_init) (pc := 180) (d := 11) (j := 5) (t := 38) h66 dX8_init_180 (by decide) rfl (by decide) rfl (by decide) (by decide) rfl (fun P67 h67 => ?_)
  refine q_iinc (pc := 181) (v := nI 6) dX8_init_181 rfl (bq_inc _) (Nat.le_of_ble_eq_true rfl) rfl ?_
  show bq_W _ _ _ _ _ 184 [_, _] _ _ _ _ _ _ _
  refine q_goto (pc := 184) 162 dX8_init_184 (by decide) ?_
  refine q_iload_n (pc := 162) dX8_init_162 rfl rfl ?_
  refine q_bipush (pc := 163) (v := nI 10) dX8_init_163 (by decide) ?_
  refine q_icmp_ge (pc := 165) 187 dX8_init_165 (by decide) (fun c_165 => absurd c_165 (by decide)) (fun c_165 => ?_)
  refine q_aload_n (pc := 168) dX8_init_168 rfl rfl ?_
  refine t_getP (M := mX8_init) (pc := 169) (d := 0) (t := 11) h67 dX8_init_169 fX8_55 (by decide) rfl ⟨by decide, rfl⟩ rfl ?_
  refine q_iload_n (pc := 172) dX8_init_172 rfl rfl ?_
  refine t_new (M := mX8_init) (kc := 13) (ks := 99) (pc := 173) h67 dX8_init_173 nX8_53 (by decide) (fun S68 n68 I68 L68 P68 h68 => ?_)
  refine q_dup (pc := 176) dX8_init_176 rfl ?_
  refine t_callJ (M := mX8_init) (kc := 13) (ks := 99) (kc' := 0) (ks' := 0) (pc := 177) h68 dX8_init_177 kX8_83 (c_init7 h68.in) ⟨Nat.le_of_ble_eq_true rfl, Nat.le_of_ble_eq_true rfl⟩ (Nat.le_of_ble_eq_true rfl) (fun S69 n69 I69 L69 P69 h69 => ?_)
  refine t_aast (M := mX8_init) (pc := 180) (d := 11) (j := 6) (t := 39) h69 dX8_init_180 (by decide) rfl (by decide) rfl (by decide) (by decide) rfl (fun P70 h70 => ?_)
  refine q_iinc (pc := 181) (v := nI 7) dX8_init_181 rfl (bq_inc _) (Nat.le_of_ble_eq_true rfl) rfl ?_
  show bq_W _ _ _ _ _ 184 [_, _] _ _ _ _ _ _ _
  refine q_goto (pc := 184) 162 dX8_init_184 (by decide) ?_
  refine q_iload_n (pc := 162) dX8_init_162 rfl rfl ?_
  refine q_bipush (pc := 163) (v := nI 10) dX8_init_163 (by decide) ?_
  refine q_icmp_ge (pc := 165) 187 dX8_init_165 (by decide) (fun c_165 => absurd c_165 (by decide)) (fun c_165 => ?_)
  refine q_aload_n (pc := 168) dX8_init_168 rfl rfl ?_
  refine t_getP (M := mX8_init) (pc := 169) (d := 0) (t := 11) h70 dX8_init_169 fX8_55 (by decide) rfl ⟨by decide, rfl⟩ rfl ?_
  refine q_iload_n (pc := 172) dX8_init_172 rfl rfl ?_
  refine t_new (M := mX8_init) (kc := 12) (ks := 96) (pc := 173) h70 dX8_init_173 nX8_53 (by decide) (fun S71 n71 I71 L71 P71 h71 => ?_)
  refine q_dup (pc := 176) dX8_init_176 rfl ?_
  refine t_callJ (M := mX8_init) (kc := 12) (ks := 96) (kc' := 0) (ks' := 0) (pc := 177) h71 dX8_init_177 kX8_83 (c_init7 h71.in) ⟨Nat.le_of_ble_eq_true rfl, Nat.le_of_ble_eq_true rfl⟩ (Nat.le_of_ble_eq_true rfl) (fun S72 n72 I72 L72 P72 h72 => ?_)
  refine t_aast (M := mX8_init) (pc := 180) (d := 11) (j := 7) (t := 40) h72 dX8_init_180 (by decide) rfl (by decide) rfl (by decide) (by decide) rfl (fun P73 h73 => ?_)
  refine q_iinc (pc := 181) (v := nI 8) dX8_init_181 rfl (bq_inc _) (Nat.le_of_ble_eq_true rfl) rfl ?_
  show bq_W _ _ _ _ _ 184 [_, _] _ _ _ _ _ _ _
  refine q_goto (pc := 184) 162 dX8_init_184 (by decide) ?_
  refine q_iload_n (pc := 162) dX8_init_162 rfl rfl ?_
  refine q_bipush (pc := 163) (v := nI 10) dX8_init_163 (by decide) ?_
  refine q_icmp_ge (pc := 165) 187 dX8_init_165 (by decide) (fun c_165 => absurd c_165 (by decide)) (fun c_165 => ?_)
  refine q_aload_n (pc := 168) dX8_init_168 rfl rfl ?_
  refine t_getP (M := mX8_init) (pc := 169) (d := 0) (t := 11) h73 dX8_init_169 fX8_55 (by decide) rfl ⟨by decide, rfl⟩ rfl ?_
  refine q_iload_n (pc := 172) dX8_init_172 rfl rfl ?_
  refine t_new (M := mX8_init) (kc := 11) (ks := 93) (pc := 173) h73 dX8_init_173 nX8_53 (by decide) (fun S74 n74 I74 L74 P74 h74 => ?_)
  refine q_dup (pc := 176) dX8_init_176 rfl ?_
  refine t_callJ (M := mX8_init) (kc := 11) (ks := 93) (kc' := 0) (ks' := 0) (pc := 177) h74 dX8_init_177 kX8_83 (c_init7 h74.in) ⟨Nat.le_of_ble_eq_true rfl, Nat.le_of_ble_eq_true rfl⟩ (Nat.le_of_ble_eq_true rfl) (fun S75 n75 I75 L75 P75 h75 => ?_)
  refine t_aast (M := mX8_init) (pc := 180) (d := 11) (j := 8) (t := 41) h75 dX8_init_180 (by decide) rfl (by decide) rfl (by decide) (by decide) rfl (fun P76 h76 => ?_)
  refine q_iinc (pc := 181) (v := nI 9) dX8_init_181 rfl (bq_inc _) (Nat.le_of_ble_eq_true rfl) rfl ?_
  show bq_W _ _ _ _ _ 184 [_, _] _ _ _ _ _ _ _
  refine q_goto (pc := 184) 162 dX8_init_184 (by decide) ?_
  refine q_iload_n (pc := 162) dX8_init_162 rfl rfl ?_
  refine q_bipush (pc := 163) (v := nI 10) dX8_init_163 (by decide) ?_
  refine q_icmp_ge (pc := 165) 187 dX8_init_165 (by decide) (fun c_165 => absurd c_165 (by decide)) (fun c_165 => ?_)
  refine q_aload_n (pc := 168) dX8_init_168 rfl rfl ?_
  refine t_getP (M := mX8_init) (pc := 169) (d := 0) (t := 11) h76 dX8_init_169 fX8_55 (by decide) rfl ⟨by decide, rfl⟩ rfl ?_
  refine q_iload_n (pc := 172) dX8_init_172 rfl rfl ?_
  refine t_new (M := mX8_init) (kc := 10) (ks := 90) (pc := 173) h76 dX8_init_173 nX8_53 (by decide) (fun S77 n77 I77 L77 P77 h77 => ?_)
  refine q_dup (pc := 176) dX8_init_176 rfl ?_
  refine t_callJ (M := mX8_init) (kc := 10) (ks := 90) (kc' := 0) (ks' := 0) (pc := 177) h77 dX8_init_177 kX8_83 (c_init7 h77.in) ⟨Nat.le_of_ble_eq_true rfl, Nat.le_of_ble_eq_true rfl⟩ (Nat.le_of_ble_eq_true rfl) (fun S78 n78 I78 L78 P78 h78 => ?_)
  refine t_aast (M := mX8_init) (pc := 180) (d := 11) (j := 9) (t := 42) h78 dX8_init_180 (by decide) rfl (by decide) rfl (by decide) (by decide) rfl (fun P79 h79 => ?_)
  refine q_iinc (pc := 181) (v := nI 10) dX8_init_181 rfl (bq_inc _) (Nat.le_of_ble_eq_true rfl) rfl ?_
  show bq_W _ _ _ _ _ 184 [_, _] _ _ _ _ _ _ _
  refine q_goto (pc := 184) 162 dX8_init_184 (by decide) ?_
  refine q_iload_n (pc := 162) dX8_init_162 rfl rfl ?_
  refine q_bipush (pc := 163) (v := nI 10) dX8_init_163 (by decide) ?_
  refine q_icmp_ge (pc := 165) 187 dX8_init_165 (by decide) (fun c_165 => ?_) (fun c_165 => absurd (by decide) c_165)
  refine q_iconst (pc := 187) (v := nI 0) dX8_init_187 (by decide) ?_
  refine q_istore_n (pc := 188) dX8_init_188 rfl (Nat.le_of_ble_eq_true rfl) rfl ?_
  show bq_W _ _ _ _ _ 189 [_, _] _ _ _ _ _ _ _
  refine q_iload_n (pc := 189) dX8_init_189 rfl rfl ?_
  refine q_bipush (pc := 190) (v := nI 10) dX8_init_190 (by decide) ?_
  refine q_icmp_ge (pc := 192) 214 dX8_init_192 (by decide) (fun c_192 => absurd c_192 (by decide)) (fun c_192 => ?_)
  refine q_aload_n (pc := 195) dX8_init_195 rfl rfl ?_
  refine t_getP (M := mX8_init) (pc := 196) (d := 0) (t := 12) h79 dX8_init_196 fX8_64 (by decide) rfl ⟨by decide, rfl⟩ rfl ?_
  refine q_iload_n (pc := 199) dX8_init_199 rfl rfl ?_
  refine t_new (M := mX8_init) (kc := 9) (ks := 81) (pc := 200) h79 dX8_init_200 nX8_62 (by decide) (fun S80 n80 I80 L80 P80 h80 => ?_)
  refine q_dup (pc := 203) dX8_init_203 rfl ?_
  refine t_callJ (M := mX8_init) (kc := 9) (ks := 81) (kc' := 0) (ks' := 0) (pc := 204) h80 dX8_init_204 kX8_84 (c_init4 h80.in) ⟨Nat.le_of_ble_eq_true rfl, Nat.le_of_ble_eq_true rfl⟩ (Nat.le_of_ble_eq_true rfl) (fun S81 n81 I81 L81 P81 h81 => ?_)
  refine t_aast (M := mX8_init) (pc := 207) (d := 12) (j := 0) (t := 43) h81 dX8_init_207 (by decide) rfl (by decide) rfl (by decide) (by decide) rfl (fun P82 h82 => ?_)
  refine q_iinc (pc := 208) (v := nI 1) dX8_init_208 rfl (bq_inc _) (Nat.le_of_ble_eq_true rfl) rfl ?_
  show bq_W _ _ _ _ _ 211 [_, _] _ _ _ _ _ _ _
  refine q_goto (pc := 211) 189 dX8_init_211 (by decide) ?_
  refine q_iload_n (pc := 189) dX8_init_189 rfl rfl ?_
  refine q_bipush (pc := 190) (v := nI 10) dX8_init_190 (by decide) ?_
  refine q_icmp_ge (pc := 192) 214 dX8_init_192 (by decide) (fun c_192 => absurd c_192 (by decide)) (fun c_192 => ?_)
  refine q_aload_n (pc := 195) dX8_init_195 rfl rfl ?_
  refine t_getP (M := mX8_init) (pc := 196) (d := 0) (t := 12) h82 dX8_init_196 fX8_64 (by decide) rfl ⟨by decide, rfl⟩ rfl ?_
  refine q_iload_n (pc := 199) dX8_init_199 rfl rfl ?_
  refine t_new (M := mX8_init) (kc := 8) (ks := 72) (pc := 200) h82 dX8_init_200 nX8_62 (by decide) (fun S83 n83 I83 L83 P83 h83 => ?_)
  refine q_dup (pc := 203) dX8_init_203 rfl ?_
  refine t_callJ (M := mX8_init) (kc := 8) (ks := 72) (kc' := 0) (ks' := 0) (pc := 204) h83 dX8_init_204 kX8_84 (c_init4 h83.in) ⟨Nat.le_of_ble_eq_true rfl, Nat.le_of_ble_eq_true rfl⟩ (Nat.le_of_ble_eq_true rfl) (fun S84 n84 I84 L84 P84 h84 => ?_)
  refine t_aast (M := mX8_init) (pc := 207) (d := 12) (j := 1) (t := 44) h84 dX8_init_207 (by decide) rfl (by decide) rfl (by decide) (by decide) rfl (fun P85 h85 => ?_)
  refine q_iinc (pc := 208) (v := nI 2) dX8_init_208 rfl (bq_inc _) (Nat.le_of_ble_eq_true rfl) rfl ?_
  show bq_W _ _ _ _ _ 211 [_, _] _ _ _ _ _ _ _
  refine q_goto (pc := 211) 189 dX8_init_211 (by decide) ?_
  refine q_iload_n (pc := 189) dX8_init_189 rfl rfl ?_
  refine q_bipush (pc := 190) (v := nI 10) dX8_init_190 (by decide) ?_
  refine q_icmp_ge (pc := 192) 214 dX8_init_192 (by decide) (fun c_192 => absurd c_192 (by decide)) (fun c_192 => ?_)
  refine q_aload_n (pc := 195) dX8_init_195 rfl rfl ?_
  refine t_getP (M := mX8_init) (pc := 196) (d := 0) (t := 12) h85 dX8_init_196 fX8_64 (by decide) rfl ⟨by decide, rfl⟩ rfl ?_
  refine q_iload_n (pc := 199) dX8_init_199 rfl rfl ?_
  refine t_new (M := mX8_init) (kc := 7) (ks := 63) (pc := 200) h85 dX8_init_200 nX8_62 (by decide) (fun S86 n86 I86 L86 P86 h86 => ?_)
  refine q_dup (pc := 203) dX8_init_203 rfl ?_
  refine t_callJ (M := mX8_init) (kc := 7) (ks := 63) (kc' := 0) (ks' := 0) (pc := 204) h86 dX8_init_204 kX8_84 (c_init4 h86.in) ⟨Nat.le_of_ble_eq_true rfl, Nat.le_of_ble_eq_true rfl⟩ (Nat.le_of_ble_eq_true rfl) (fun S87 n87 I87 L87 P87 h87 => ?_)
  refine t_aast (M := mX8_init) (pc := 207) (d := 12) (j := 2) (t := 45) h87 dX8_init_207 (by decide) rfl (by decide) rfl (by decide) (by decide) rfl (fun P88 h88 => ?_)
  refine q_iinc (pc := 208) (v := nI 3) dX8_init_208 rfl (bq_inc _) (Nat.le_of_ble_eq_true rfl) rfl ?_
  show bq_W _ _ _ _ _ 211 [_, _] _ _ _ _ _ _ _
  refine q_goto (pc := 211) 189 dX8_init_211 (by decide) ?_
  refine q_iload_n (pc := 189) dX8_init_189 rfl rfl ?_
  refine q_bipush (pc := 190) (v := nI 10) dX8_init_190 (by decide) ?_
  refine q_icmp_ge (pc := 192) 214 dX8_init_192 (by decide) (fun c_192 => absurd c_192 (by decide)) (fun c_192 => ?_)
  refine q_aload_n (pc := 195) dX8_init_195 rfl rfl ?_
  refine t_getP (M := mX8_init) (pc := 196) (d := 0) (t := 12) h88 dX8_init_196 fX8_64 (by decide) rfl ⟨by decide, rfl⟩ rfl ?_
  refine q_iload_n (pc := 199) dX8_init_199 rfl rfl ?_
  refine t_new (M := mX8_init) (kc := 6) (ks := 54) (pc := 200) h88 dX8_init_200 nX8_62 (by decide) (fun S89 n89 I89 L89 P89 h89 => ?_)
  refine q_dup (pc := 203) dX8_init_203 rfl ?_
  refine t_callJ (M := mX8_init) (kc := 6) (ks := 54) (kc' := 0) (ks' := 0) (pc := 204) h89 dX8_init_204 kX8_84 (c_init4 h89.in) ⟨Nat.le_of_ble_eq_true rfl, Nat.le_of_ble_eq_true rfl⟩ (Nat.le_of_ble_eq_true rfl) (fun S90 n90 I90 L90 P90 h90 => ?_)
  refine t_aast (M := mX8_init) (pc := 207) (d := 12) (j := 3) (t := 46) h90 dX8_init_207 (by decide) rfl (by decide) rfl (by decide) (by decide) rfl (fun P91 h91 => ?_)
  refine q_iinc (pc := 208) (v := nI 4) dX8_init_208 rfl (bq_inc _) (Nat.le_of_ble_eq_true rfl) rfl ?_
  show bq_W _ _ _ _ _ 211 [_, _] _ _ _ _ _ _ _
  refine q_goto (pc := 211) 189 dX8_init_211 (by decide) ?_
  refine q_iload_n (pc := 189) dX8_init_189 rfl rfl ?_
  refine q_bipush (pc := 190) (v := nI 10) dX8_init_190 (by decide) ?_
  refine q_icmp_ge (pc := 192) 214 dX8_init_192 (by decide) (fun c_192 => absurd c_192 (by decide)) (fun c_192 => ?_)
  refine q_aload_n (pc := 195) dX8_init_195 rfl rfl ?_
  refine t_getP (M := mX8_init) (pc := 196) (d := 0) (t := 12) h91 dX8_init_196 fX8_64 (by decide) rfl ⟨by decide, rfl⟩ rfl ?_
  refine q_iload_n (pc := 199) dX8_init_199 rfl rfl ?_
  refine t_new (M := mX8_init) (kc := 5) (ks := 45) (pc := 200) h91 dX8_init_200 nX8_62 (by decide) (fun S92 n92 I92 L92 P92 h92 => ?_)
  refine q_dup (pc := 203) dX8_init_203 rfl ?_
  refine t_callJ (M := mX8_init) (kc := 5) (ks := 45) (kc' := 0) (ks' := 0) (pc := 204) h92 dX8_init_204 kX8_84 (c_init4 h92.in) ⟨Nat.le_of_ble_eq_true rfl, Nat.le_of_ble_eq_true rfl⟩ (Nat.le_of_ble_eq_true rfl) (fun S93 n93 I93 L93 P93 h93 => ?_)
  refine t_aast (M := mX8_init) (pc := 207) (d := 12) (j := 4) (t := 47) h93 dX8_init_207 (by decide) rfl (by decide) rfl (by decide) (by decide) rfl (fun P94 h94 => ?_)
  refine q_iinc (pc := 208) (v := nI 5) dX8_init_208 rfl (bq_inc _) (Nat.le_of_ble_eq_true rfl) rfl ?_
  show bq_W _ _ _ _ _ 211 [_, _] _ _ _ _ _ _ _
  refine q_goto (pc := 211) 189 dX8_init_211 (by decide) ?_
  refine q_iload_n (pc := 189) dX8_init_189 rfl rfl ?_
  refine q_bipush (pc := 190) (v := nI 10) dX8_init_190 (by decide) ?_
  refine q_icmp_ge (pc := 192) 214 dX8_init_192 (by decide) (fun c_192 => absurd c_192 (by decide)) (fun c_192 => ?_)
  refine q_aload_n (pc := 195) dX8_init_195 rfl rfl ?_
  refine t_getP (M := mX8_init) (pc := 196) (d := 0) (t := 12) h94 dX8_init_196 fX8_64 (by decide) rfl ⟨by decide, rfl⟩ rfl ?_
  refine q_iload_n (pc := 199) dX8_init_199 rfl rfl ?_
  refine t_new (M := mX8_init) (kc := 4) (ks := 36) (pc := 200) h94 dX8_init_200 nX8_62 (by decide) (fun S95 n95 I95 L95 P95 h95 => ?_)
  refine q_dup (pc := 203) dX8_init_203 rfl ?_
  refine t_callJ (M := mX8_init) (kc := 4) (ks := 36) (kc' := 0) (ks' := 0) (pc := 204) h95 dX8_init_204 kX8_84 (c_init4 h95.in) ⟨Nat.le_of_ble_eq_true rfl, Nat.le_of_ble_eq_true rfl⟩ (Nat.le_of_ble_eq_true rfl) (fun S96 n96 I96 L96 P96 h96 => ?_)
  refine t_aast (M := mX8_init) (pc := 207) (d := 12) (j := 5) (t := 48) h96 dX8_init_207 (by decide) rfl (by decide) rfl (by decide) (by decide) rfl (fun P97 h97 => ?_)
  refine q_iinc (pc := 208) (v := nI 6) dX8_init_208 rfl (bq_inc _) (Nat.le_of_ble_eq_true rfl) rfl ?_
  show bq_W _ _ _ _ _ 211 [_, _] _ _ _ _ _ _ _
  refine q_goto (pc := 211) 189 dX8_init_211 (by decide) ?_
  refine q_iload_n (pc := 189) dX8_init_189 rfl rfl ?_
  refine q_bipush (pc := 190) (v := nI 10) dX8_init_190 (by decide) ?_
  refine q_icmp_ge (pc := 192) 214 dX8_init_192 (by decide) (fun c_192 => absurd c_192 (by decide)) (fun c_192 => ?_)
  refine q_aload_n (pc := 195) dX8_init_195 rfl rfl ?_
  refine t_getP (M := mX8_init) (pc := 196) (d := 0) (t := 12) h97 dX8_init_196 fX8_64 (by decide) rfl ⟨by decide, rfl⟩ rfl ?_
  refine q_iload_n (pc := 199) dX8_init_199 rfl rfl ?_
  refine t_new (M := mX8_init) (kc := 3) (ks := 27) (pc := 200) h97 dX8_init_200 nX8_62 (by decide) (fun S98 n98 I98 L98 P98 h98 => ?_)
  refine q_dup (pc := 203) dX8_init_203 rfl ?_
  refine t_callJ (M := mX8_init) (kc := 3) (ks := 27) (kc' := 0) (ks' := 0) (pc := 204) h98 dX8_init_204 kX8_84 (c_init4 h98.in) ⟨Nat.le_of_ble_eq_true rfl, Nat.le_of_ble_eq_true rfl⟩ (Nat.le_of_ble_eq_true rfl) (fun S99 n99 I99 L99 P99 h99 => ?_)
  refine t_aast (M := mX8_init) (pc := 207) (d := 12) (j := 6) (t := 49) h99 dX8_init_207 (by decide) rfl (by decide) rfl (by decide) (by decide) rfl (fun P100 h100 => ?_)
  refine q_iinc (pc := 208) (v := nI 7) dX8_init_208 rfl (bq_inc _) (Nat.le_of_ble_eq_true rfl) rfl ?_
  show bq_W _ _ _ _ _ 211 [_, _] _ _ _ _ _ _ _
  refine q_goto (pc := 211) 189 dX8_init_211 (by decide) ?_
  refine q_iload_n (pc := 189) dX8_init_189 rfl rfl ?_
  refine q_bipush (pc := 190) (v := nI 10) dX8_init_190 (by decide) ?_
  refine q_icmp_ge (pc := 192) 214 dX8_init_192 (by decide) (fun c_192 => absurd c_192 (by decide)) (fun c_192 => ?_)
  refine q_aload_n (pc := 195) dX8_init_195 rfl rfl ?_
  refine t_getP (M := mX8_init) (pc := 196) (d := 0) (t := 12) h100 dX8_init_196 fX8_64 (by decide) rfl ⟨by decide, rfl⟩ rfl ?_
  refine q_iload_n (pc := 199) dX8_init_199 rfl rfl ?_
  refine t_new (M := mX8_init) (kc := 2) (ks := 18) (pc := 200) h100 dX8_init_200 nX8_62 (by decide) (fun S101 n101 I101 L101 P101 h101 => ?_)
  refine q_dup (pc := 203) dX8_init_203 rfl ?_
  refine t_callJ (M := mX8_init) (kc := 2) (ks := 18) (kc' := 0) (ks' := 0) (pc := 204) h101 dX8_init_204 kX8_84 (c_init4 h101.in) ⟨Nat.le_of_ble_eq_true rfl, Nat.le_of_ble_eq_true rfl⟩ (Nat.le_of_ble_eq_true rfl) (fun S102 n102 I102 L102 P102 h102 => ?_)
  refine t_aast (M := mX8_init) (pc := 207) (d := 12) (j := 7) (t := 50) h102 dX8_init_207 (by decide) rfl (by decide) rfl (by decide) (by decide) rfl (fun P103 h103 => ?_)
  refine q_iinc (pc := 208) (v := nI 8) dX8_init_208 rfl (bq_inc _) (Nat.le_of_ble_eq_true rfl) rfl ?_
  show bq_W _ _ _ _ _ 211 [_, _] _ _ _ _ _ _ _
  refine q_goto (pc := 211) 189 dX8_init_211 (by decide) ?_
  refine q_iload_n (pc := 189) dX8_init_189 rfl rfl ?_
  refine q_bipush (pc := 190) (v := nI 10) dX8_init_190 (by decide) ?_
  refine q_icmp_ge (pc := 192) 214 dX8_init_192 (by decide) (fun c_192 => absurd c_192 (by decide)) (fun c_192 => ?_)
  refine q_aload_n (pc := 195) dX8_init_195 rfl rfl ?_
  refine t_getP (M := mX8_init) (pc := 196) (d := 0) (t := 12) h103 dX8_init_196 fX8_64 (by decide) rfl ⟨by decide, rfl⟩ rfl ?_
  refine q_iload_n (pc := 199) dX8_init_199 rfl rfl ?_
  refine t_new (M := mX8_init) (kc := 1) (ks := 9) (pc := 200) h103 dX8_init_200 nX8_62 (by decide) (fun S104 n104 I104 L104 P104 h104 => ?_)
  refine q_dup (pc := 203) dX8_init_203 rfl ?_
  refine t_callJ (M := mX8_init) (kc := 1) (ks := 9) (kc' := 0) (ks' := 0) (pc := 204) h104 dX8_init_204 kX8_84 (c_init4 h104.in) ⟨Nat.le_of_ble_eq_true rfl, Nat.le_of_ble_eq_true rfl⟩ (Nat.le_of_ble_eq_true rfl) (fun S105 n105 I105 L105 P105 h105 => ?_)
  refine t_aast (M := mX8_init) (pc := 207) (d := 12) (j := 8) (t := 51) h105 dX8_init_207 (by decide) rfl (by decide) rfl (by decide) (by decide) rfl (fun P106 h106 => ?_)
  refine q_iinc (pc := 208) (v := nI 9) dX8_init_208 rfl (bq_inc _) (Nat.le_of_ble_eq_true rfl) rfl ?_
  show bq_W _ _ _ _ _ 211 [_, _] _ _ _ _ _ _ _
  refine q_goto (pc := 211) 189 dX8_init_211 (by decide) ?_
  refine q_iload_n (pc := 189) dX8_init_189 rfl rfl ?_
  refine q_bipush (pc := 190) (v := nI 10) dX8_init_190 (by decide) ?_
  refine q_icmp_ge (pc := 192) 214 dX8_init_192 (by decide) (fun c_192 => absurd c_192 (by decide)) (fun c_192 => ?_)
  refine q_aload_n (pc := 195) dX8_init_195 rfl rfl ?_
  refine t_getP (M := mX8_init) (pc := 196) (d := 0) (t := 12) h106 dX8_init_196 fX8_64 (by decide) rfl ⟨by decide, rfl⟩ rfl ?_
  refine q_iload_n (pc := 199) dX8_init_199 rfl rfl ?_
  refine t_new (M := mX8_init) (kc := 0) (ks := 0) (pc := 200) h106 dX8_init_200 nX8_62 (by decide) (fun S107 n107 I107 L107 P107 h107 => ?_)
  refine q_dup (pc := 203) dX8_init_203 rfl ?_
  refine t_callJ (M := mX8_init) (kc := 0) (ks := 0) (kc' := 0) (ks' := 0) (pc := 204) h107 dX8_init_204 kX8_84 (c_init4 h107.in) ⟨Nat.le_of_ble_eq_true rfl, Nat.le_of_ble_eq_true rfl⟩ (Nat.le_of_ble_eq_true rfl) (fun S108 n108 I108 L108 P108 h108 => ?_)
  refine t_aast (M := mX8_init) (pc := 207) (d := 12) (j := 9) (t := 52) h108 dX8_init_207 (by decide) rfl (by decide) rfl (by decide) (by decide) rfl (fun P109 h109 => ?_)
  refine q_iinc (pc := 208) (v := nI 10) dX8_init_208 rfl (bq_inc _) (Nat.le_of_ble_eq_true rfl) rfl ?_
  show bq_W _ _ _ _ _ 211 [_, _] _ _ _ _ _ _ _
  refine q_goto (pc := 211) 189 dX8_init_211 (by decide) ?_
  refine q_iload_n (pc := 189) dX8_init_189 rfl rfl ?_
  refine q_bipush (pc := 190) (v := nI 10) dX8_init_190 (by decide) ?_
  refine q_icmp_ge (pc := 192) 214 dX8_init_192 (by decide) (fun c_192 => ?_) (fun c_192 => absurd (by decide) c_192)
  exact q_vret (st := []) (pc := 214) dX8_init_214 rfl ⟨rfl, h109⟩
/-! the constructors of the cellar and of the model -/
def tb11_0 : BqTb := t0 11
def tb11_1 : BqTb := tN tb11_0 1 (8, 0)
def tb11_2 : BqTb := tM tb11_0 1 tb8
def tb11_3 : BqTb := tP tb11_2 0 0 1
def tb11_4 : BqTb := tN tb11_3 54 (19, 7)
def tb11_5 : BqTb := tP tb11_4 0 1 54
def tb11_6 : BqTb := tI tb11_5 0 2 (nI 0)
def tb11_7 : BqTb := tN tb11_6 55 (8, 0)
def tb11_8 : BqTb := tM tb11_6 55 tb8
def tb11_9 : BqTb := tP tb11_8 0 3 55
def tb11_10 : BqTb := tI tb11_9 0 4 (nI 0)
def tb11_11 : BqTb := tN tb11_10 108 (10, 0)
def tb11_12 : BqTb := tM tb11_10 108 tb10
def tb11_13 : BqTb := tP tb11_12 0 5 108
def tb11_14 : BqTb := tN tb11_13 131 (5, 0)
def tb11_15 : BqTb := tM tb11_13 131 tb5
def tb11_16 : BqTb := tP tb11_15 0 6 131
def tb11_17 : BqTb := tN tb11_16 152 (3, 0)
def tb11_18 : BqTb := tM tb11_16 152 tb3
def tb11_19 : BqTb := tP tb11_18 0 7 152
def tb11_20 : BqTb := tN tb11_19 157 (6, 0)
def tb11_21 : BqTb := tM tb11_19 157 tb6
def tb11_22 : BqTb := tP tb11_21 0 8 157
def tb11_23 : BqTb := tN tb11_22 161 (6, 0)
def tb11_24 : BqTb := tM tb11_22 161 tb6
def tb11_25 : BqTb := tP tb11_24 0 9 161
def tb11_26 : BqTb := tI tb11_25 0 10 (-5)
def tb11_27 : BqTb := tN tb11_26 165 (8, 0)
def tb11_28 : BqTb := tM tb11_26 165 tb8
def tb11_29 : BqTb := tP tb11_28 54 0 165
def tb11_30 : BqTb := tN tb11_29 218 (8, 0)
def tb11_31 : BqTb := tM tb11_29 218 tb8
def tb11_32 : BqTb := tP tb11_31 54 1 218
def tb11_33 : BqTb := tN tb11_32 271 (8, 0)
def tb11_34 : BqTb := tM tb11_32 271 tb8
def tb11_35 : BqTb := tP tb11_34 54 2 271
def tb11_36 : BqTb := tN tb11_35 324 (8, 0)
def tb11_37 : BqTb := tM tb11_35 324 tb8
def tb11_38 : BqTb := tP tb11_37 54 3 324
def tb11_39 : BqTb := tN tb11_38 377 (8, 0)
def tb11_40 : BqTb := tM tb11_38 377 tb8
def tb11_41 : BqTb := tP tb11_40 54 4 377
def tb11_42 : BqTb := tN tb11_41 430 (8, 0)
def tb11_43 : BqTb := tM tb11_41 430 tb8
def tb11_44 : BqTb := tP tb11_43 54 5 430
def tb11_45 : BqTb := tN tb11_44 483 (8, 0)
def tb11_46 : BqTb := tM tb11_44 483 tb8
def tb11_47 : BqTb := tP tb11_46 54 6 483
def tb11 : BqTb := tb11_47
set_option maxHeartbeats 5920000 in
set_option maxRecDepth 20000 in
theorem c_init11 {S : BqH} {n : Nat} {I : BqI} {L : BqL} {P : BqP} {o : Nat} {S0 : BqH} {I0 : BqI} {L0 : BqL} {P0 : BqP} (h0 : BB o 1 (t0 11) S0 I0 L0 P0 S n I L P) : bq_Sp mX11_init 5 81 535 6741 [.ref o] S n I L P (qB o 536 tb11 S0 I0 L0 P0) := by
  refine q_entry (vs := [some (.ref o), none]) (by decide +kernel) (by simp) (Nat.le_of_ble_eq_true rfl) rfl ?_
  refine q_aload_n (pc := 0) dX11_init_0 rfl rfl ?_
  refine q_objInit (pc := 1) dX11_init_1 kX11_1 ⟨Nat.le_of_ble_eq_true rfl, Nat.le_of_ble_eq_true rfl⟩ ?_
  refine q_aload_n (pc := 4) dX11_init_4 rfl rfl ?_
  refine t_new (M := mX11_init) (kc := 534) (ks := 6724) (pc := 5) h0 dX11_init_5 nX11_7 (by decide) (fun S1 n1 I1 L1 P1 h1 => ?_)
  refine q_dup (pc := 8) dX11_init_8 rfl ?_
  refine t_callI (M := mX11_init) (kc := 482) (ks := 6043) (kc' := 52) (ks' := 681) (pc := 9) h1 dX11_init_9 kX11_9 (c_init8 h1.in) ⟨Nat.le_of_ble_eq_true rfl, Nat.le_of_ble_eq_true rfl⟩ (Nat.le_of_ble_eq_true rfl) (fun S2 n2 I2 L2 P2 h2 => ?_)
  refine t_putP (M := mX11_init) (pc := 12) (d := 0) (t := 1) h2 dX11_init_12 pX11_10 (by decide) rfl ⟨by decide, rfl⟩ (fun P3 h3 => ?_)
  refine q_aload_n (pc := 15) dX11_init_15 rfl rfl ?_
  refine q_bipush (pc := 16) (v := nI 7) dX11_init_16 (by decide) ?_
  refine t_newq (M := mX11_init) (kc := 481) (ks := 6036) (len := 7) (kd := 19) (pc := 18) h3 dX11_init_18 qX11_7 (by decide) (by decide) rfl rfl (by decide) (fun S4 n4 I4 L4 P4 h4 => ?_)
  refine t_putP (M := mX11_init) (pc := 21) (d := 0) (t := 54) h4 dX11_init_21 pX11_16 (by decide) rfl ⟨by decide, rfl⟩ (fun P5 h5 => ?_)
  refine q_aload_n (pc := 24) dX11_init_24 rfl rfl ?_
  refine q_iconst (pc := 25) (v := nI 0) dX11_init_25 (by decide) ?_
  refine t_putI (M := mX11_init) (pc := 26) (d := 0) h5 dX11_init_26 (pX11_20 _) (by decide) rfl ⟨by decide, rfl⟩ (fun I6 h6 => ?_)
  refine q_aload_n (pc := 29) dX11_init_29 rfl rfl ?_
  refine t_new (M := mX11_init) (kc := 480) (ks := 6019) (pc := 30) h6 dX11_init_30 nX11_7 (by decide) (fun S7 n7 I7 L7 P7 h7 => ?_)
  refine q_dup (pc := 33) dX11_init_33 rfl ?_
  refine t_callI (M := mX11_init) (kc := 428) (ks := 5338) (kc' := 52) (ks' := 681) (pc := 34) h7 dX11_init_34 kX11_9 (c_init8 h7.in) ⟨Nat.le_of_ble_eq_true rfl, Nat.le_of_ble_eq_true rfl⟩ (Nat.le_of_ble_eq_true rfl) (fun S8 n8 I8 L8 P8 h8 => ?_)
  refine t_putP (M := mX11_init) (pc := 37) (d := 0) (t := 55) h8 dX11_init_37 pX11_24 (by decide) rfl ⟨by decide, rfl⟩ (fun P9 h9 => ?_)
  refine q_aload_n (pc := 40) dX11_init_40 rfl rfl ?_
  refine q_iconst (pc := 41) (v := nI 0) dX11_init_41 (by decide) ?_
  refine t_putZ (M := mX11_init) (pc := 42) (d := 0) h9 dX11_init_42 (pX11_27 _) (by decide) rfl ⟨by decide, rfl⟩ (by decide) (fun I10 h10 => ?_)
  refine q_aload_n (pc := 45) dX11_init_45 rfl rfl ?_
  refine t_new (M := mX11_init) (kc := 427) (ks := 5332) (pc := 46) h10 dX11_init_46 nX11_31 (by decide) (fun S11 n11 I11 L11 P11 h11 => ?_)
  refine q_dup (pc := 49) dX11_init_49 rfl ?_
  refine t_callI (M := mX11_init) (kc := 405) (ks := 5172) (kc' := 22) (ks' := 160) (pc := 50) h11 dX11_init_50 kX11_33 (c_init10 h11.in) ⟨Nat.le_of_ble_eq_true rfl, Nat.le_of_ble_eq_true rfl⟩ (Nat.le_of_ble_eq_true rfl) (fun S12 n12 I12 L12 P12 h12 => ?_)
  refine t_putP (M := mX11_init) (pc := 53) (d := 0) (t := 108) h12 dX11_init_53 pX11_34 (by decide) rfl ⟨by decide, rfl⟩ (fun P13 h13 => ?_)
  refine q_aload_n (pc := 56) dX11_init_56 rfl rfl ?_
  refine t_new (M := mX11_init) (kc := 404) (ks := 5165) (pc := 57) h13 dX11_init_57 nX11_38 (by decide) (fun S14 n14 I14 L14 P14 h14 => ?_)
  refine q_dup (pc := 60) dX11_init_60 rfl ?_
  refine t_callI (M := mX11_init) (kc := 384) (ks := 4992) (kc' := 20) (ks' := 173) (pc := 61) h14 dX11_init_61 kX11_40 (c_init5 h14.in) ⟨Nat.le_of_ble_eq_true rfl, Nat.le_of_ble_eq_true rfl⟩ (Nat.le_of_ble_eq_true rfl) (fun S15 n15 I15 L15 P15 h15 => ?_)
  refine t_putP (M := mX11_init) (pc := 64) (d := 0) (t := 131) h15 dX11_init_64 pX11_41 (by decide) rfl ⟨by decide, rfl⟩ (fun P16 h16 => ?_)
  refine q_aload_n (pc := 67) dX11_init_67 rfl rfl ?_
  refine t_new (M := mX11_init) (kc := 383) (ks := 4991) (pc := 68) h16 dX11_init_68 nX11_45 (by decide) (fun S17 n17 I17 L17 P17 h17 => ?_)
  refine q_dup (pc := 71) dX11_init_71 rfl ?_
  refine t_callJ (M := mX11_init) (kc := 379) (ks := 4956) (kc' := 4) (ks' := 35) (pc := 72) h17 dX11_init_72 kX11_47 (c_init3 h17.in) ⟨Nat.le_of_ble_eq_true rfl, Nat.le_of_ble_eq_true rfl⟩ (Nat.le_of_ble_eq_true rfl) (fun S18 n18 I18 L18 P18 h18 => ?_)
  refine t_putP (M := mX11_init) (pc := 75) (d := 0) (t := 152) h18 dX11_init_75 pX11_48 (by decide) rfl ⟨by decide, rfl⟩ (fun P19 h19 => ?_)
  refine q_aload_n (pc := 78) dX11_init_78 rfl rfl ?_
  refine t_new (M := mX11_init) (kc := 378) (ks := 4954) (pc := 79) h19 dX11_init_79 nX11_52 (by decide) (fun S20 n20 I20 L20 P20 h20 => ?_)
  refine q_dup (pc := 82) dX11_init_82 rfl ?_
  refine t_callJ (M := mX11_init) (kc := 375) (ks := 4921) (kc' := 3) (ks' := 33) (pc := 83) h20 dX11_init_83 kX11_54 (c_init6 h20.in) ⟨Nat.le_of_ble_eq_true rfl, Nat.le_of_ble_eq_true rfl⟩ (Nat.le_of_ble_eq_true rfl) (fun S21 n21 I21 L21 P21 h21 => ?_)
  refine t_putP (M := mX11_init) (pc := 86) (d := 0) (t := 157) h21 dX11_init_86 pX11_55 (by decide) rfl ⟨by decide, rfl⟩ (fun P22 h22 => ?_)
  refine q_aload_n (pc := 89) dX11_init_89 rfl rfl ?_
  refine t_new (M := mX11_init) (kc := 374) (ks := 4919) (pc := 90) h22 dX11_init_90 nX11_52 (by decide) (fun S23 n23 I23 L23 P23 h23 => ?_)
  refine q_dup (pc := 93) dX11_init_93 rfl ?_
  refine t_callJ (M := mX11_init) (kc := 371) (ks := 4886) (kc' := 3) (ks' := 33) (pc := 94) h23 dX11_init_94 kX11_54 (c_init6 h23.in) ⟨Nat.le_of_ble_eq_true rfl, Nat.le_of_ble_eq_true rfl⟩ (Nat.le_of_ble_eq_true rfl) (fun S24 n24 I24 L24 P24 h24 => ?_)
  refine t_putP (M := mX11_init) (pc := 97) (d := 0) (t := 161) h24 dX11_init_97 pX11_59 (by decide) rfl ⟨by decide, rfl⟩ (fun P25 h25 => ?_)
  refine q_aload_n (pc := 100) dX11_init_100 rfl rfl ?_
  refine q_bipush (pc := 101) (v := (-5)) dX11_init_101 (by decide) ?_
  refine t_putI (M := mX11_init) (pc := 103) (d := 0) h25 dX11_init_103 (pX11_62 _) (by decide) rfl ⟨by decide, rfl⟩ (fun I26 h26 => ?_)
  refine q_iconst (pc := 106) (v := nI 0) dX11_init_106 (by decide) ?_
  refine q_istore_n (pc := 107) dX11_init_107 rfl (Nat.le_of_ble_eq_true rfl) rfl ?_
  show bq_W _ _ _ _ _ 108 [_, _] _ _ _ _ _ _ _
  refine q_iload_n (pc := 108) dX11_init_108 rfl rfl ?_
  refine q_bipush (pc := 109) (v := nI 6) dX11_init_109 (by decide) ?_
  refine q_icmp_gt (pc := 111) 133 dX11_init_111 (by decide) (fun c_111 => absurd c_111 (by decide)) (fun c_111 => ?_)
  refine q_aload_n (pc := 114) dX11_init_114 rfl rfl ?_
  refine t_getP (M := mX11_init) (pc := 115) (d := 0) (t := 54) h26 dX11_init_115 fX11_16 (by decide) rfl ⟨by decide, rfl⟩ rfl ?_
  refine q_iload_n (pc := 118) dX11_init_118 rfl rfl ?_
  refine t_new (M := mX11_init) (kc := 370) (ks := 4869) (pc := 119) h26 dX11_init_119 nX11_7 (by decide) (fun S27 n27 I27 L27 P27 h27 => ?_)
  refine q_dup (pc := 122) dX11_init_122 rfl ?_
  refine t_callI (M := mX11_init) (kc := 318) (ks := 4188) (kc' := 52) (ks' := 681) (pc := 123) h27 dX11_init_123 kX11_9 (c_init8 h27.in) ⟨Nat.le_of_ble_eq_true rfl, Nat.le_of_ble_eq_true rfl⟩ (Nat.le_of_ble_eq_true rfl) (fun S28 n28 I28 L28 P28 h28 => ?_)
  refine t_aast (M := mX11_init) (pc := 126) (d := 54) (j := 0) (t := 165) h28 dX11_init_126 (by decide) rfl (by decide) rfl (by decide) (by decide) rfl (fun P29 h29 => ?_)
  refine q_iinc (pc := 127) (v := nI 1) dX11_init_127 rfl (bq_inc _) (Nat.le_of_ble_eq_true rfl) rfl ?_
  show bq_W _ _ _ _ _ 130 [_, _] _ _ _ _ _ _ _
  refine q_goto (pc := 130) 108 dX11_init_130 (by decide) ?_
  refine q_iload_n (pc := 108) dX11_init_108 rfl rfl ?_
  refine q_bipush (pc := 109) (v := nI 6) dX11_init_109 (by decide) ?_
  refine q_icmp_gt (pc := 111) 133 dX11_init_111 (by decide) (fun c_111 => absurd c_111 (by decide)) (fun c_111 => ?_)
  refine q_aload_n (pc := 114) dX11_init_114 rfl rfl ?_
  refine t_getP (M := mX11_init) (pc := 115) (d := 0) (t := 54) h29 dX11_init_115 fX11_16 (by decide) rfl ⟨by decide, rfl⟩ rfl ?_
  refine q_iload_n (pc := 118) dX11_init_118 rfl rfl ?_
  refine t_new (M := mX11_init) (kc := 317) (ks := 4171) (pc := 119) h29 dX11_init_119 nX11_7 (by decide) (fun S30 n30 I30 L30 P30 h30 => ?_)
  refine q_dup (pc := 122) dX11_init_122 rfl ?_
  refine t_callI (M := mX11_init) (kc := 265) (ks := 3490) (kc' := 52) (ks' := 681) (pc := 123) h30 dX11_init_123 kX11_9 (c_init8 h30.in) ⟨Nat.le_of_ble_eq_true rfl, Nat.le_of_ble_eq_true rfl⟩ (Nat.le_of_ble_eq_true rfl) (fun S31 n31 I31 L31 P31 h31 => ?_)
  refine t_aast (M := mX11_init) (pc := 126) (d := 54) (j := 1) (t := 218) h31 dX11_init_126 (by decide) rfl (by decide) rfl (by decide) (by decide) rfl (fun P32 h32 => ?_)
  refine q_iinc (pc := 127) (v := nI 2) dX11_init_127 rfl (bq_inc _) (Nat.le_of_ble_eq_true rfl) rfl ?_
  show bq_W _ _ _ _ _ 130 [_, _] _ _ _ _ _ _ _
  refine q_goto (pc := 130) 108 dX11_init_130 (by decide) ?_
  refine q_iload_n (pc := 108) dX11_init_108 rfl rfl ?_
  refine q_bipush (pc := 109) (v := nI 6) dX11_init_109 (by decide) ?_
  refine q_icmp_gt (pc := 111) 133 dX11_init_111 (by decide) (fun c_111 => absurd c_111 (by decide)) (fun c_111 => ?_)
  refine q_aload_n (pc := 114) dX11_init_114 rfl rfl ?_
  refine t_getP (M := mX11_init) (pc := 115) (d := 0) (t := 54) h32 dX11_init_115 fX11_16 (by decide) rfl ⟨by decide, rfl⟩ rfl ?_
  refine q_iload_n (pc := 118) dX11_init_118 rfl rfl ?_
  refine t_new (M := mX11_init) (kc := 264) (ks := 3473) (pc := 119) h32 dX11_init_119 nX11_7 (by decide) (fun S33 n33 I33 L33 P33 h33 => ?_)
  refine q_dup (pc := 122) dX11_init_122 rfl ?_
  refine t_callI (M := mX11_init) (kc := 212) (ks := 2792) (kc' := 52) (ks' := 681) (pc := 123) h33 dX11_init_123 kX11_9 (c_init8 h33.in) ⟨Nat.le_of_ble_eq_true rfl, Nat.le_of_ble_eq_true rfl⟩ (Nat.le_of_ble_eq_true rfl) (fun S34 n34 I34 L34 P34 h34 => ?_)
  refine t_aast (M := mX11_init) (pc := 126) (d := 54) (j := 2) (t := 271) h34 dX11_init_126 (by decide) rfl (by decide) rfl (by decide) (by decide) rfl (fun P35 h35 => ?_)
  refine q_iinc (pc := 127) (v := nI 3) dX11_init_127 rfl (bq_inc _) (Nat.le_of_ble_eq_true rfl) rfl ?_
  show bq_W _ _ _ _ _ 130 [_, _] _ _ _ _ _ _ _
  refine q_goto (pc := 130) 108 dX11_init_130 (by decide) ?_
  refine q_iload_n (pc := 108) dX11_init_108 rfl rfl ?_
  refine q_bipush (pc := 109) (v := nI 6) dX11_init_109 (by decide) ?_
  refine q_icmp_gt (pc := 111) 133 dX11_init_111 (by decide) (fun c_111 => absurd c_111 (by decide)) (fun c_111 => ?_)
  refine q_aload_n (pc := 114) dX11_init_114 rfl rfl ?_
  refine t_getP (M := mX11_init) (pc := 115) (d := 0) (t := 54) h35 dX11_init_115 fX11_16 (by decide) rfl ⟨by decide, rfl⟩ rfl ?_
  refine q_iload_n (pc := 118) dX11_init_118 rfl rfl ?_
  refine t_new (M := mX11_init) (kc := 211) (ks := 2775) (pc := 119) h35 dX11_init_119 nX11_7 (by decide) (fun S36 n36 I36 L36 P36 h36 => ?_)
  refine q_dup (pc := 122) dX11_init_122 rfl ?_
  refine t_callI (M := mX11_init) (kc := 159) (ks := 2094) (kc' := 52) (ks' := 681) (pc := 123) h36 dX11_init_123 kX11_9 (c_init8 h36.in) ⟨Nat.le_of_ble_eq_true rfl, Nat.le_of_ble_eq_true rfl⟩ (Nat.le_of_ble_eq_true rfl) (fun S37 n37 I37 L37 P37 h37 => ?_)
  refine t_aast (M := mX11_init) (pc := 126) (d := 54) (j := 3) (t := 324) h37 dX11_init_126 (by decide) rfl (by decide) rfl (by decide) (by decide) rfl (fun P38 h38 => ?_)
  refine q_iinc (pc := 127) (v := nI 4) dX11_init_127 rfl (bq_inc _) (Nat.le_of_ble_eq_true rfl) rfl ?_
  show bq_W _ _ _ _ _ 130 [_, _] _ _ _ _ _ _ _
  refine q_goto (pc := 130) 108 dX11_init_130 (by decide) ?_
  refine q_iload_n (pc := 108) dX11_init_108 rfl rfl ?_
  refine q_bipush (pc := 109) (v := nI 6) dX11_init_109 (by decide) ?_
  refine q_icmp_gt (pc := 111) 133 dX11_init_111 (by decide) (fun c_111 => absurd c_111 (by decide)) (fun c_111 => ?_)
  refine q_aload_n (pc := 114) dX11_init_114 rfl rfl ?_
  refine t_getP (M := mX11_init) (pc := 115) (d := 0) (t := 54) h38 dX11_init_115 fX11_16 (by decide) rfl ⟨by decide, rfl⟩ rfl ?_
  refine q_iload_n (pc := 118) dX11_init_118 rfl rfl ?_
  refine t_new (M := mX11_init) (kc := 158) (ks := 2077) (pc := 119) h38 dX11_init_119 nX11_7 (by decide) (fun S39 n39 I39 L39 P39 h39 => ?_)
  refine q_dup (pc := 122) dX11_init_122 rfl ?_
  refine t_callI (M := mX11_init) (kc := 106) (ks := 1396) (kc' := 52) (ks' := 681) (pc := 123) h39 dX11_init_123 kX11_9 (c_init8 h39.in) ⟨Nat.le_of_ble_eq_true rfl, Nat.le_of_ble_eq_true rfl⟩ (Nat.le_of_ble_eq_true rfl) (fun S40 n40 I40 L40 P40 h40 => ?_)
  refine t_aast (M := mX11_init) (pc := 126) (d := 54) (j := 4) (t := 377) h40 dX11_init_126 (by decide) rfl (by decide) rfl (by decide) (by decide) rfl (fun P41 h41 => ?_)
  refine q_iinc (pc := 127) (v := nI 5) dX11_init_127 rfl (bq_inc _) (Nat.le_of_ble_eq_true rfl) rfl ?_
  show bq_W _ _ _ _ _ 130 [_, _] _ _ _ _ _ _ _
  refine q_goto (pc := 130) 108 dX11_init_130 (by decide) ?_
  refine q_iload_n (pc := 108) dX11_init_108 rfl rfl ?_
  refine q_bipush (pc := 109) (v := nI 6) dX11_init_109 (by decide) ?_
  refine q_icmp_gt (pc := 111) 133 dX11_init_111 (by decide) (fun c_111 => absurd c_111 (by decide)) (fun c_111 => ?_)
  refine q_aload_n (pc := 114) dX11_init_114 rfl rfl ?_
  refine t_getP (M := mX11_init) (pc := 115) (d := 0) (t := 54) h41 dX11_init_115 fX11_16 (by decide) rfl ⟨by decide, rfl⟩ rfl ?_
  refine q_iload_n (pc := 118) dX11_init_118 rfl rfl ?_
  refine t_new (M := mX11_init) (kc := 105) (ks := 1379) (pc := 119) h41 dX11_init_119 nX11_7 (by decide) (fun S42 n42 I42 L42 P42 h42 => ?_)
  refine q_dup (pc := 122) dX11_init_122 rfl ?_
  refine t_callI (M := mX11_init) (kc := 53) (ks := 698) (kc' := 52) (ks' := 681) (pc := 123) h42 dX11_init_123 kX11_9 (c_init8 h42.in) ⟨Nat.le_of_ble_eq_true rfl, Nat.le_of_ble_eq_true rfl⟩ (Nat.le_of_ble_eq_true rfl) (fun S43 n43 I43 L43 P43 h43 => ?_)
  refine t_aast (M := mX11_init) (pc := 126) (d := 54) (j := 5) (t := 430) h43 dX11_init_126 (by decide) rfl (by decide) rfl (by decide) (by decide) rfl (fun P44 h44 => ?_)
  refine q_iinc (pc := 127) (v := nI 6) dX11_init_127 rfl (bq_inc _) (Nat.le_of_ble_eq_true rfl) rfl ?_
  show bq_W _ _ _ _ _ 130 [_, _] _ _ _ _ _ _ _
  refine q_goto (pc := 130) 108 dX11_init_130 (by decide) ?_
  refine q_iload_n (pc := 108) dX11_init_108 rfl rfl ?_
  refine q_bipush (pc := 109) (v := nI 6) dX11_init_109 (by decide) ?_
  refine q_icmp_gt (pc := 111) 133 dX11_init_111 (by decide) (fun c_111 => absurd c_111 (by decide)) (fun c_111 => ?_)
  refine q_aload_n (pc := 114) dX11_init_114 rfl rfl ?_
  refine t_getP (M := mX11_init) (pc := 115) (d := 0) (t := 54) h44 dX11_init_115 fX11_16 (by decide) rfl ⟨by decide, rfl⟩ rfl ?_
  refine q_iload_n (pc := 118) dX11_init_118 rfl rfl ?_
  refine t_new (M := mX11_init) (kc := 52) (ks := 681) (pc := 119) h44 dX11_init_119 nX11_7 (by decide) (fun S45 n45 I45 L45 P45 h45 => ?_)
  refine q_dup (pc := 122) dX11_init_122 rfl ?_
  refine t_callI (M := mX11_init) (kc := 0) (ks := 0) (kc' := 52) (ks' := 681) (pc := 123) h45 dX11_init_123 kX11_9 (c_init8 h45.in) ⟨Nat.le_of_ble_eq_true rfl, Nat.le_of_ble_eq_true rfl⟩ (Nat.le_of_ble_eq_true rfl) (fun S46 n46 I46 L46 P46 h46 => ?_)
  refine t_aast (M := mX11_init) (pc := 126) (d := 54) (j := 6) (t := 483) h46 dX11_init_126 (by decide) rfl (by decide) rfl (by decide) (by decide) rfl (fun P47 h47 => ?_)
  refine q_iinc (pc := 127) (v := nI 7) dX11_init_127 rfl (bq_inc _) (Nat.le_of_ble_eq_true rfl) rfl ?_
  show bq_W _ _ _ _ _ 130 [_, _] _ _ _ _ _ _ _
  refine q_goto (pc := 130) 108 dX11_init_130 (by decide) ?_
  refine q_iload_n (pc := 108) dX11_init_108 rfl rfl ?_
  refine q_bipush (pc := 109) (v := nI 6) dX11_init_109 (by decide) ?_
  refine q_icmp_gt (pc := 111) 133 dX11_init_111 (by decide) (fun c_111 => ?_) (fun c_111 => absurd (by decide) c_111)
  exact q_vret (st := []) (pc := 133) dX11_init_133 rfl ⟨rfl, h47⟩
def tb12_0 : BqTb := t0 12
def tb12_1 : BqTb := tN tb12_0 1 (13, 650)
def tb12_2 : BqTb := tP tb12_1 0 0 1
def tb12_3 : BqTb := tN tb12_2 2 (13, 3900)
def tb12_4 : BqTb := tP tb12_3 0 1 2
def tb12_5 : BqTb := tN tb12_4 3 (13, 650)
def tb12_6 : BqTb := tP tb12_5 0 3 3
def tb12_7 : BqTb := tN tb12_6 4 (13, 650)
def tb12_8 : BqTb := tP tb12_7 0 5 4
def tb12_9 : BqTb := tN tb12_8 5 (13, 60)
def tb12_10 : BqTb := tP tb12_9 0 8 5
def tb12_11 : BqTb := tN tb12_10 6 (13, 16)
def tb12_12 : BqTb := tP tb12_11 0 10 6
def tb12_13 : BqTb := tN tb12_12 7 (13, 16)
def tb12_14 : BqTb := tP tb12_13 0 11 7
def tb12_15 : BqTb := tN tb12_14 8 (13, 16)
def tb12_16 : BqTb := tP tb12_15 0 12 8
def tb12_17 : BqTb := tN tb12_16 9 (13, 10)
def tb12_18 : BqTb := tP tb12_17 0 13 9
def tb12_19 : BqTb := tN tb12_18 10 (13, 10)
def tb12_20 : BqTb := tP tb12_19 0 14 10
def tb12_21 : BqTb := tN tb12_20 11 (14, 10)
def tb12_22 : BqTb := tP tb12_21 0 15 11
def tb12_23 : BqTb := tN tb12_22 12 (13, 96)
def tb12_24 : BqTb := tP tb12_23 0 16 12
def tb12_25 : BqTb := tN tb12_24 13 (13, 240)
def tb12_26 : BqTb := tP tb12_25 0 20 13
def tb12_27 : BqTb := tI tb12_26 1 10 (nI 1000)
def tb12_28 : BqTb := tI tb12_27 1 29 (nI 1000)
def tb12_29 : BqTb := tI tb12_28 1 48 (nI 1000)
def tb12_30 : BqTb := tI tb12_29 1 67 (nI 1000)
def tb12_31 : BqTb := tI tb12_30 1 86 (nI 1000)
def tb12_32 : BqTb := tI tb12_31 1 105 (nI 1000)
def tb12_33 : BqTb := tI tb12_32 1 4 (nI 5)
def tb12 : BqTb := tb12_33
set_option maxHeartbeats 6240000 in
set_option maxRecDepth 20000 in
theorem c_init12 {S : BqH} {n : Nat} {I : BqI} {L : BqL} {P : BqP} {o : Nat} {S0 : BqH} {I0 : BqI} {L0 : BqL} {P0 : BqP} (h0 : BB o 1 (t0 12) S0 I0 L0 P0 S n I L P) : bq_Sp mX12_init 2 20 13 6324 [.ref o] S n I L P (qB o 14 tb12 S0 I0 L0 P0) := by
  refine q_entry (vs := [some (.ref o), none]) (by decide +kernel) (by simp) (Nat.le_of_ble_eq_true rfl) rfl ?_
  refine q_aload_n (pc := 0) dX12_init_0 rfl rfl ?_
  refine q_objInit (pc := 1) dX12_init_1 kX12_1 ⟨Nat.le_of_ble_eq_true rfl, Nat.le_of_ble_eq_true rfl⟩ ?_
  refine q_aload_n (pc := 4) dX12_init_4 rfl rfl ?_
  refine q_sipush (pc := 5) (v := nI 650) dX12_init_5 (by decide) ?_
  refine t_newI (M := mX12_init) (kc := 12) (ks := 5674) (len := 650) (pc := 8) h0 dX12_init_8 rfl (by decide) (fun S1 n1 I1 L1 P1 h1 => ?_)
  refine t_putP (M := mX12_init) (pc := 10) (d := 0) (t := 1) h1 dX12_init_10 pX12_9 (by decide) rfl ⟨by decide, rfl⟩ (fun P2 h2 => ?_)
  refine q_aload_n (pc := 13) dX12_init_13 rfl rfl ?_
  refine q_sipush (pc := 14) (v := nI 3900) dX12_init_14 (by decide) ?_
  refine t_newI (M := mX12_init) (kc := 11) (ks := 1774) (len := 3900) (pc := 17) h2 dX12_init_17 rfl (by decide) (fun S3 n3 I3 L3 P3 h3 => ?_)
  refine t_putP (M := mX12_init) (pc := 19) (d := 0) (t := 2) h3 dX12_init_19 pX12_13 (by decide) rfl ⟨by decide, rfl⟩ (fun P4 h4 => ?_)
  refine q_aload_n (pc := 22) dX12_init_22 rfl rfl ?_
  refine q_sipush (pc := 23) (v := nI 650) dX12_init_23 (by decide) ?_
  refine t_newI (M := mX12_init) (kc := 10) (ks := 1124) (len := 650) (pc := 26) h4 dX12_init_26 rfl (by decide) (fun S5 n5 I5 L5 P5 h5 => ?_)
  refine t_putP (M := mX12_init) (pc := 28) (d := 0) (t := 3) h5 dX12_init_28 pX12_16 (by decide) rfl ⟨by decide, rfl⟩ (fun P6 h6 => ?_)
  refine q_aload_n (pc := 31) dX12_init_31 rfl rfl ?_
  refine q_sipush (pc := 32) (v := nI 650) dX12_init_32 (by decide) ?_
  refine t_newI (M := mX12_init) (kc := 9) (ks := 474) (len := 650) (pc := 35) h6 dX12_init_35 rfl (by decide) (fun S7 n7 I7 L7 P7 h7 => ?_)
  refine t_putP (M := mX12_init) (pc := 37) (d := 0) (t := 4) h7 dX12_init_37 pX12_19 (by decide) rfl ⟨by decide, rfl⟩ (fun P8 h8 => ?_)
  refine q_aload_n (pc := 40) dX12_init_40 rfl rfl ?_
  refine q_bipush (pc := 41) (v := nI 60) dX12_init_41 (by decide) ?_
  refine t_newI (M := mX12_init) (kc := 8) (ks := 414) (len := 60) (pc := 43) h8 dX12_init_43 rfl (by decide) (fun S9 n9 I9 L9 P9 h9 => ?_)
  refine t_putP (M := mX12_init) (pc := 45) (d := 0) (t := 5) h9 dX12_init_45 pX12_22 (by decide) rfl ⟨by decide, rfl⟩ (fun P10 h10 => ?_)
  refine q_aload_n (pc := 48) dX12_init_48 rfl rfl ?_
  refine q_bipush (pc := 49) (v := nI 16) dX12_init_49 (by decide) ?_
  refine t_newI (M := mX12_init) (kc := 7) (ks := 398) (len := 16) (pc := 51) h10 dX12_init_51 rfl (by decide) (fun S11 n11 I11 L11 P11 h11 => ?_)
  refine t_putP (M := mX12_init) (pc := 53) (d := 0) (t := 6) h11 dX12_init_53 pX12_25 (by decide) rfl ⟨by decide, rfl⟩ (fun P12 h12 => ?_)
  refine q_aload_n (pc := 56) dX12_init_56 rfl rfl ?_
  refine q_bipush (pc := 57) (v := nI 16) dX12_init_57 (by decide) ?_
  refine t_newI (M := mX12_init) (kc := 6) (ks := 382) (len := 16) (pc := 59) h12 dX12_init_59 rfl (by decide) (fun S13 n13 I13 L13 P13 h13 => ?_)
  refine t_putP (M := mX12_init) (pc := 61) (d := 0) (t := 7) h13 dX12_init_61 pX12_28 (by decide) rfl ⟨by decide, rfl⟩ (fun P14 h14 => ?_)
  refine q_aload_n (pc := 64) dX12_init_64 rfl rfl ?_
  refine q_bipush (pc := 65) (v := nI 16) dX12_init_65 (by decide) ?_
  refine t_newI (M := mX12_init) (kc := 5) (ks := 366) (len := 16) (pc := 67) h14 dX12_init_67 rfl (by decide) (fun S15 n15 I15 L15 P15 h15 => ?_)
  refine t_putP (M := mX12_init) (pc := 69) (d := 0) (t := 8) h15 dX12_init_69 pX12_31 (by decide) rfl ⟨by decide, rfl⟩ (fun P16 h16 => ?_)
  refine q_aload_n (pc := 72) dX12_init_72 rfl rfl ?_
  refine q_bipush (pc := 73) (v := nI 10) dX12_init_73 (by decide) ?_
  refine t_newI (M := mX12_init) (kc := 4) (ks := 356) (len := 10) (pc := 75) h16 dX12_init_75 rfl (by decide) (fun S17 n17 I17 L17 P17 h17 => ?_)
  refine t_putP (M := mX12_init) (pc := 77) (d := 0) (t := 9) h17 dX12_init_77 pX12_34 (by decide) rfl ⟨by decide, rfl⟩ (fun P18 h18 => ?_)
  refine q_aload_n (pc := 80) dX12_init_80 rfl rfl ?_
  refine q_bipush (pc := 81) (v := nI 10) dX12_init_81 (by decide) ?_
  refine t_newI (M := mX12_init) (kc := 3) (ks := 346) (len := 10) (pc := 83) h18 dX12_init_83 rfl (by decide) (fun S19 n19 I19 L19 P19 h19 => ?_)
  refine t_putP (M := mX12_init) (pc := 85) (d := 0) (t := 10) h19 dX12_init_85 pX12_37 (by decide) rfl ⟨by decide, rfl⟩ (fun P20 h20 => ?_)
  refine q_aload_n (pc := 88) dX12_init_88 rfl rfl ?_
  refine q_bipush (pc := 89) (v := nI 10) dX12_init_89 (by decide) ?_
  refine t_newZ (M := mX12_init) (kc := 2) (ks := 336) (len := 10) (pc := 91) h20 dX12_init_91 rfl (by decide) (fun S21 n21 I21 L21 P21 h21 => ?_)
  refine t_putP (M := mX12_init) (pc := 93) (d := 0) (t := 11) h21 dX12_init_93 pX12_40 (by decide) rfl ⟨by decide, rfl⟩ (fun P22 h22 => ?_)
  refine q_aload_n (pc := 96) dX12_init_96 rfl rfl ?_
  refine q_bipush (pc := 97) (v := nI 96) dX12_init_97 (by decide) ?_
  refine t_newI (M := mX12_init) (kc := 1) (ks := 240) (len := 96) (pc := 99) h22 dX12_init_99 rfl (by decide) (fun S23 n23 I23 L23 P23 h23 => ?_)
  refine t_putP (M := mX12_init) (pc := 101) (d := 0) (t := 12) h23 dX12_init_101 pX12_44 (by decide) rfl ⟨by decide, rfl⟩ (fun P24 h24 => ?_)
  refine q_aload_n (pc := 104) dX12_init_104 rfl rfl ?_
  refine q_sipush (pc := 105) (v := nI 240) dX12_init_105 (by decide) ?_
  refine t_newI (M := mX12_init) (kc := 0) (ks := 0) (len := 240) (pc := 108) h24 dX12_init_108 rfl (by decide) (fun S25 n25 I25 L25 P25 h25 => ?_)
  refine t_putP (M := mX12_init) (pc := 110) (d := 0) (t := 13) h25 dX12_init_110 pX12_47 (by decide) rfl ⟨by decide, rfl⟩ (fun P26 h26 => ?_)
  refine q_iconst (pc := 113) (v := nI 0) dX12_init_113 (by decide) ?_
  refine q_istore_n (pc := 114) dX12_init_114 rfl (Nat.le_of_ble_eq_true rfl) rfl ?_
  show bq_W _ _ _ _ _ 115 [_, _] _ _ _ _ _ _ _
  refine q_iload_n (pc := 115) dX12_init_115 rfl rfl ?_
  refine q_bipush (pc := 116) (v := nI 6) dX12_init_116 (by decide) ?_
  refine q_icmp_ge (pc := 118) 142 dX12_init_118 (by decide) (fun c_118 => absurd c_118 (by decide)) (fun c_118 => ?_)
  refine q_aload_n (pc := 121) dX12_init_121 rfl rfl ?_
  refine t_getP (M := mX12_init) (pc := 122) (d := 0) (t := 1) h26 dX12_init_122 fX12_9 (by decide) rfl ⟨by decide, rfl⟩ rfl ?_
  refine q_bipush (pc := 125) (v := nI 10) dX12_init_125 (by decide) ?_
  refine q_bipush (pc := 127) (v := nI 19) dX12_init_127 (by decide) ?_
  refine q_iload_n (pc := 129) dX12_init_129 rfl rfl ?_
  refine q_imulN (pc := 130) dX12_init_130 ?_
  refine q_iaddN (pc := 131) dX12_init_131 ?_
  refine q_sipush (pc := 132) (v := nI 1000) dX12_init_132 (by decide) ?_
  refine t_iast (M := mX12_init) (pc := 135) (d := 1) (j := 10) h26 dX12_init_135 (by decide) rfl rfl (by decide) (fun I27 h27 => ?_)
  refine q_iinc (pc := 136) (v := nI 1) dX12_init_136 rfl (bq_inc _) (Nat.le_of_ble_eq_true rfl) rfl ?_
  show bq_W _ _ _ _ _ 139 [_, _] _ _ _ _ _ _ _
  refine q_goto (pc := 139) 115 dX12_init_139 (by decide) ?_
  refine q_iload_n (pc := 115) dX12_init_115 rfl rfl ?_
  refine q_bipush (pc := 116) (v := nI 6) dX12_init_116 (by decide) ?_
  refine q_icmp_ge (pc := 118) 142 dX12_init_118 (by decide) (fun c_118 => absurd c_118 (by decide)) (fun c_118 => ?_)
  refine q_aload_n (pc := 121) dX12_init_121 rfl rfl ?_
  refine t_getP (M := mX12_init) (pc := 122) (d := 0) (t := 1) h27 dX12_init_122 fX12_9 (by decide) rfl ⟨by decide, rfl⟩ rfl ?_
  refine q_bipush (pc := 125) (v := nI 10) dX12_init_125 (by decide) ?_
  refine q_bipush (pc := 127) (v := nI 19) dX12_init_127 (by decide) ?_
  refine q_iload_n (pc := 129) dX12_init_129 rfl rfl ?_
  refine q_imulN (pc := 130) dX12_init_130 ?_
  refine q_iaddN (pc := 131) dX12_init_131 ?_
  refine q_sipush (pc := 132) (v := nI 1000) dX12_init_132 (by decide) ?_
  refine t_iast (M := mX12_init) (pc := 135) (d := 1) (j := 29) h27 dX12_init_135 (by decide) rfl rfl (by decide) (fun I28 h28 => ?_)
  refine q_iinc (pc := 136) (v := nI 2) dX12_init_136 rfl (bq_inc _) (Nat.le_of_ble_eq_true rfl) rfl ?_
  show bq_W _ _ _ _ _ 139 [_, _] _ _ _ _ _ _ _
  refine q_goto (pc := 139) 115 dX12_init_139 (by decide) ?_
  refine q_iload_n (pc := 115) dX12_init_115 rfl rfl ?_
  refine q_bipush (pc := 116) (v := nI 6) dX12_init_116 (by decide) ?_
  refine q_icmp_ge (pc := 118) 142 dX12_init_118 (by decide) (fun c_118 => absurd c_118 (by decide)) (fun c_118 => ?_)
  refine q_aload_n (pc := 121) dX12_init_121 rfl rfl ?_
  refine t_getP (M := mX12_init) (pc := 122) (d := 0) (t := 1) h28 dX12_init_122 fX12_9 (by decide) rfl ⟨by decide, rfl⟩ rfl ?_
  refine q_bipush (pc := 125) (v := nI 10) dX12_init_125 (by decide) ?_
  refine q_bipush (pc := 127) (v := nI 19) dX12_init_127 (by decide) ?_
  refine q_iload_n (pc := 129) dX12_init_129 rfl rfl ?_
  refine q_imulN (pc := 130) dX12_init_130 ?_
  refine q_iaddN (pc := 131) dX12_init_131 ?_
  refine q_sipush (pc := 132) (v := nI 1000) dX12_init_132 (by decide) ?_
  refine t_iast (M := mX12_init) (pc := 135) (d := 1) (j := 48) h28 dX12_init_135 (by decide) rfl rfl (by decide) (fun I29 h29 => ?_)
  refine q_iinc (pc := 136) (v := nI 3) dX12_init_136 rfl (bq_inc _) (Nat.le_of_ble_eq_true rfl) rfl ?_
  show bq_W _ _ _ _ _ 139 [_, _] _ _ _ _ _ _ _
  refine q_goto (pc := 139) 115 dX12_init_139 (by decide) ?_
  refine q_iload_n (pc := 115) dX12_init_115 rfl rfl ?_
  refine q_bipush (pc := 116) (v := nI 6) dX12_init_116 (by decide) ?_
  refine q_icmp_ge (pc := 118) 142 dX12_init_118 (by decide) (fun c_118 => absurd c_118 (by decide)) (fun c_118 => ?_)
  refine q_aload_n (pc := 121) dX12_init_121 rfl rfl ?_
  refine t_getP (M := mX12_init) (pc := 122) (d := 0) (t := 1) h29 dX12_init_122 fX12_9 (by decide) rfl ⟨by decide, rfl⟩ rfl ?_
  refine q_bipush (pc := 125) (v := nI 10) dX12_init_125 (by decide) ?_
  refine q_bipush (pc := 127) (v := nI 19) dX12_init_127 (by decide) ?_
  refine q_iload_n (pc := 129) dX12_init_129 rfl rfl ?_
  refine q_imulN (pc := 130) dX12_init_130 ?_
  refine q_iaddN (pc := 131) dX12_init_131 ?_
  refine q_sipush (pc := 132) (v := nI 1000) dX12_init_132 (by decide) ?_
  refine t_iast (M := mX12_init) (pc := 135) (d := 1) (j := 67) h29 dX12_init_135 (by decide) rfl rfl (by decide) (fun I30 h30 => ?_)
  refine q_iinc (pc := 136) (v := nI 4) dX12_init_136 rfl (bq_inc _) (Nat.le_of_ble_eq_true rfl) rfl ?_
  show bq_W _ _ _ _ _ 139 [_, _] _ _ _ _ _ _ _
  refine q_goto (pc := 139) 115 dX12_init_139 (by decide) ?_
  refine q_iload_n (pc := 115) dX12_init_115 rfl rfl ?_
  refine q_bipush (pc := 116) (v := nI 6) dX12_init_116 (by decide) ?_
  refine q_icmp_ge (pc := 118) 142 dX12_init_118 (by decide) (fun c_118 => absurd c_118 (by decide)) (fun c_118 => ?_)
  refine q_aload_n (pc := 121) dX12_init_121 rfl rfl ?_
  refine t_getP (M := mX12_init) (pc := 122) (d := 0) (t := 1) h30 dX12_init_122 fX12_9 (by decide) rfl ⟨by decide, rfl⟩ rfl ?_
  refine q_bipush (pc := 125) (v := nI 10) dX12_init_125 (by decide) ?_
  refine q_bipush (pc := 127) (v := nI 19) dX12_init_127 (by decide) ?_
  refine q_iload_n (pc := 129) dX12_init_129 rfl rfl ?_
  refine q_imulN (pc := 130) dX12_init_130 ?_
  refine q_iaddN (pc := 131) dX12_init_131 ?_
  refine q_sipush (pc := 132) (v := nI 1000) dX12_init_132 (by decide) ?_
  refine t_iast (M := mX12_init) (pc := 135) (d := 1) (j := 86) h30 dX12_init_135 (by decide) rfl rfl (by decide) (fun I31 h31 => ?_)
  refine q_iinc (pc := 136) (v := nI 5) dX12_init_136 rfl (bq_inc _) (Nat.le_of_ble_eq_true rfl) rfl ?_
  show bq_W _ _ _ _ _ 139 [_, _] _ _ _ _ _ _ _
  refine q_goto (pc := 139) 115 dX12_init_139 (by decide) ?_
  refine q_iload_n (pc := 115) dX12_init_115 rfl rfl ?_
  refine q_bipush (pc := 116) (v := nI 6) dX12_init_116 (by decide) ?_
  refine q_icmp_ge (pc := 118) 142 dX12_init_118 (by decide) (fun c_118 => absurd c_118 (by decide)) (fun c_118 => ?_)
  refine q_aload_n (pc := 121) dX12_init_121 rfl rfl ?_
  refine t_getP (M := mX12_init) (pc := 122) (d := 0) (t := 1) h31 dX12_init_122 fX12_9 (by decide) rfl ⟨by decide, rfl⟩ rfl ?_
  refine q_bipush (pc := 125) (v := nI 10) dX12_init_125 (by decide) ?_
  refine q_bipush (pc := 127) (v := nI 19) dX12_init_127 (by decide) ?_
  refine q_iload_n (pc := 129) dX12_init_129 rfl rfl ?_
  refine q_imulN (pc := 130) dX12_init_130 ?_
  refine q_iaddN (pc := 131) dX12_init_131 ?_
  refine q_sipush (pc := 132) (v := nI 1000) dX12_init_132 (by decide) ?_
  refine t_iast (M := mX12_init) (pc := 135) (d := 1) (j := 105) h31 dX12_init_135 (by decide) rfl rfl (by decide) (fun I32 h32 => ?_)
  refine q_iinc (pc := 136) (v := nI 6) dX12_init_136 rfl (bq_inc _) (Nat.le_of_ble_eq_true rfl) rfl ?_
  show bq_W _ _ _ _ _ 139 [_, _] _ _ _ _ _ _ _
  refine q_goto (pc := 139) 115 dX12_init_139 (by decide) ?_
  refine q_iload_n (pc := 115) dX12_init_115 rfl rfl ?_
  refine q_bipush (pc := 116) (v := nI 6) dX12_init_116 (by decide) ?_
  refine q_icmp_ge (pc := 118) 142 dX12_init_118 (by decide) (fun c_118 => ?_) (fun c_118 => absurd (by decide) c_118)
  refine q_aload_n (pc := 142) dX12_init_142 rfl rfl ?_
  refine t_getP (M := mX12_init) (pc := 143) (d := 0) (t := 1) h32 dX12_init_143 fX12_9 (by decide) rfl ⟨by decide, rfl⟩ rfl ?_
  refine q_iconst (pc := 146) (v := nI 4) dX12_init_146 (by decide) ?_
  refine q_iconst (pc := 147) (v := nI 5) dX12_init_147 (by decide) ?_
  refine t_iast (M := mX12_init) (pc := 148) (d := 1) (j := 4) h32 dX12_init_148 (by decide) rfl rfl (by decide) (fun I33 h33 => ?_)
  exact q_vret (st := []) (pc := 149) dX12_init_149 rfl ⟨rfl, h33⟩
/-! what the tables say: the new objects -/
def BW (o c : Nat) (T : BqTb) (S : BqH) (n : Nat) (I : BqI) (L : BqL) (P : BqP) : Prop := o + c ≤ n ∧ ∀ d, d < c → S (o + d) = T.1 d ∧ I (o + d) = T.2.1 d ∧ (∀ j, L (o + d) j = 0) ∧ ∀ j, P (o + d) j = (T.2.2 d j).map (fun t => o + t)
theorem BB.w {o c : Nat} {T : BqTb} {S0 : BqH} {I0 : BqI} {L0 : BqL} {P0 : BqP} {S : BqH} {n : Nat} {I : BqI} {L : BqL} {P : BqP} (h : BB o c T S0 I0 L0 P0 S n I L P) : BW o c T S n I L P := ⟨by have := h.1.1; omega, h.1.2⟩
theorem BB.w2 {o c z : Nat} {T U : BqTb} {S0 : BqH} {I0 : BqI} {L0 : BqL} {P0 : BqP} {S1 : BqH} {n1 : Nat} {I1 : BqI} {L1 : BqL} {P1 : BqP} {S : BqH} {n : Nat} {I : BqI} {L : BqL} {P : BqP} (h1 : BB o c T S0 I0 L0 P0 S1 n1 I1 L1 P1) (h2 : BB (o + c) z U S1 I1 L1 P1 S n I L P) : BW o c T S n I L P := by
  refine ⟨by have := h2.1.1; omega, fun d hd => ?_⟩
  obtain ⟨a1, a2, a3, a4⟩ := h2.2 (o + d) (by omega)
  obtain ⟨b1, b2, b3, b4⟩ := h1.1.2 d hd
  exact ⟨a1.trans b1, a2.trans b2, fun j => by rw [a3]; exact b3 j, fun j => by rw [a4]; exact b4 j⟩
def ckA (T : BqTb) (a len : Nat) : Bool := decide (T.1 a = (13, len))
def ckBlend (T : BqTb) (a : Nat) : Bool := decide (T.1 a = (0, 0)) && decide (T.2.2 a 0 = some (a + 1)) && ckA T (a + 1) 16
def ckPortion (T : BqTb) (a : Nat) : Bool := decide (T.1 a = (6, 0)) && decide (T.2.2 a 0 = some (a + 1)) && ckBlend T (a + 1) && decide (T.2.2 a 1 = some (a + 3)) && ckA T (a + 3) 16
def ckTank (T : BqTb) (a : Nat) : Bool := decide (T.1 a = (9, 0)) && decide (T.2.2 a 3 = some (a + 1)) && ckBlend T (a + 1)
def ckJournal (T : BqTb) (a : Nat) : Bool := decide (T.1 a = (2, 0)) && decide (T.2.2 a 1 = some (a + 1)) && ckA T (a + 1) 320
def ckMixer (T : BqTb) (a : Nat) : Bool := decide (T.1 a = (3, 0)) && decide (T.2.2 a 0 = some (a + 1)) && ckPortion T (a + 1)
def ckPlan (T : BqTb) (a : Nat) : Bool := decide (T.1 a = (5, 0)) && decide (T.2.2 a 1 = some (a + 1)) && ckA T (a + 1) 10 && decide (T.2.2 a 2 = some (a + 2)) && ckA T (a + 2) 10 && decide (T.2.2 a 4 = some (a + 3)) && ckA T (a + 3) 10 && decide (T.2.2 a 5 = some (a + 4)) && decide (T.1 (a + 4) = (15, 6)) && (List.range 6).all (fun i => decide (T.2.2 (a + 4) i = some (a + 9 + 2 * i)) && ckBlend T (a + 9 + 2 * i)) && decide (T.2.2 a 6 = some (a + 5)) && ckPortion T (a + 5)
def ckTape (T : BqTb) (a : Nat) : Bool := decide (T.1 a = (10, 0)) && decide (T.2.2 a 1 = some (a + 1)) && ckA T (a + 1) 60 && decide (T.2.2 a 5 = some (a + 2)) && decide (T.1 (a + 2) = (16, 20)) && (List.range 20).all (fun i => decide (T.2.2 (a + 2) i = some (a + 3 + i)) && decide (T.1 (a + 3 + i) = (1, 0)))
def ckS1 (T : BqTb) (a : Nat) : Bool := decide (T.1 a = (8, 0)) && decide (T.2.2 a 2 = some (a + 1)) && decide (T.1 (a + 1) = (20, 6)) && (List.range 6).all (fun i => decide (T.2.2 (a + 1) i = some (a + 15 + 3 * i)) && ckTank T (a + 15 + 3 * i))
def ckS2 (T : BqTb) (a : Nat) : Bool := decide (T.2.2 a 4 = some (a + 2)) && ckA T (a + 2) 16 && decide (T.2.2 a 5 = some (a + 3)) && ckA T (a + 3) 16 && decide (T.2.2 a 6 = some (a + 4)) && ckBlend T (a + 4) && decide (T.2.2 a 7 = some (a + 6)) && ckBlend T (a + 6) && decide (T.2.2 a 8 = some (a + 8)) && ckBlend T (a + 8) && decide (T.2.2 a 9 = some (a + 10)) && ckA T (a + 10) 4
def ckS3 (T : BqTb) (a : Nat) : Bool := decide (T.2.2 a 11 = some (a + 11)) && decide (T.1 (a + 11) = (18, 10)) && (List.range 10).all (fun i => decide (T.2.2 (a + 11) i = some (a + 33 + i)) && decide (T.1 (a + 33 + i) = (7, 0))) && decide (T.2.2 a 13 = some (a + 12)) && decide (T.1 (a + 12) = (17, 10)) && (List.range 10).all (fun i => decide (T.2.2 (a + 12) i = some (a + 43 + i)) && decide (T.1 (a + 43 + i) = (4, 0))) && decide (T.2.2 a 16 = some (a + 13)) && ckJournal T (a + 13)
def ckState (T : BqTb) (a : Nat) : Bool := ckS1 T a && ckS2 T a && ckS3 T a
section
variable {o c : Nat} {T : BqTb} {S : BqH} {n : Nat} {I : BqI} {L : BqL} {P : BqP}
theorem BW.sh (h : BW o c T S n I L P) {d : Nat} (hd : d < c) {z : Nat × Nat} (e : T.1 d = z) : S (o + d) = z := (h.2 d hd).1.trans e
theorem BW.lt (h : BW o c T S n I L P) {d : Nat} (hd : d < c) : o + d < n := by have := h.1; omega
theorem BW.ptr (h : BW o c T S n I L P) {d k t : Nat} (hd : d < c) (e : T.2.2 d k = some t) : P (o + d) k = some (o + t) := ((h.2 d hd).2.2.2 k).trans (by rw [e]; rfl)
theorem oA_of (h : BW o c T S n I L P) {a len : Nat} (ha : a < c) (e : ckA T a len = true) : oA S n (o + a) len := ⟨h.sh ha (of_decide_eq_true e), h.lt ha⟩
theorem oBlend_of (h : BW o c T S n I L P) {a : Nat} (ha : a + 1 < c) (e : ckBlend T a = true) : oBlend S n P (o + a) := by
  have hn := h.1
  simp only [ckBlend, Bool.and_eq_true, decide_eq_true_eq] at e
  obtain ⟨⟨e1, e2⟩, e3⟩ := e
  exact ⟨h.sh (by omega) e1, by omega, h.ptr (by omega) e2, oA_of h ha e3⟩
theorem oPortion_of (h : BW o c T S n I L P) {a : Nat} (ha : a + 3 < c) (e : ckPortion T a = true) : oPortion S n P (o + a) := by
  have hn := h.1
  simp only [ckPortion, Bool.and_eq_true, decide_eq_true_eq] at e
  obtain ⟨⟨⟨⟨e1, e2⟩, e3⟩, e4⟩, e5⟩ := e
  exact ⟨h.sh (by omega) e1, by omega, h.ptr (by omega) e2, oBlend_of h (a := a + 1) (by omega) e3, h.ptr (by omega) e4, oA_of h (a := a + 3) (by omega) e5⟩
theorem oTank_of (h : BW o c T S n I L P) {a : Nat} (ha : a + 2 < c) (e : ckTank T a = true) : oTank S n P (o + a) := by
  have hn := h.1
  simp only [ckTank, Bool.and_eq_true, decide_eq_true_eq] at e
  obtain ⟨⟨e1, e2⟩, e3⟩ := e
  exact ⟨h.sh (by omega) e1, by omega, h.ptr (by omega) e2, oBlend_of h (a := a + 1) (by omega) e3⟩
theorem oJournal_of (h : BW o c T S n I L P) {a : Nat} (ha : a + 1 < c) (e : ckJournal T a = true) : oJournal S n P (o + a) := by
  have hn := h.1
  simp only [ckJournal, Bool.and_eq_true, decide_eq_true_eq] at e
  obtain ⟨⟨e1, e2⟩, e3⟩ := e
  exact ⟨h.sh (by omega) e1, by omega, h.ptr (by omega) e2, oA_of h (a := a + 1) (by omega) e3⟩
theorem oMixer_of (h : BW o c T S n I L P) {a : Nat} (ha : a + 4 < c) (e : ckMixer T a = true) : oMixer S n P (o + a) := by
  have hn := h.1
  simp only [ckMixer, Bool.and_eq_true, decide_eq_true_eq] at e
  obtain ⟨⟨e1, e2⟩, e3⟩ := e
  exact ⟨h.sh (by omega) e1, by omega, h.ptr (by omega) e2, oPortion_of h (a := a + 1) (by omega) e3⟩
theorem oPlan_of (h : BW o c T S n I L P) {a : Nat} (ha : a + 20 < c) (e : ckPlan T a = true) : oPlan S n P (o + a) := by
  have hn := h.1
  simp only [ckPlan, Bool.and_eq_true, decide_eq_true_eq, List.all_eq_true, List.mem_range] at e
  obtain ⟨⟨⟨⟨⟨⟨⟨⟨⟨⟨⟨e1, e2⟩, e3⟩, e4⟩, e5⟩, e6⟩, e7⟩, e8⟩, e9⟩, e10⟩, e11⟩, e12⟩ := e
  refine ⟨h.sh (by omega) e1, by omega, h.ptr (by omega) e2, oA_of h (a := a + 1) (by omega) e3, h.ptr (by omega) e4, oA_of h (a := a + 2) (by omega) e5, h.ptr (by omega) e6, oA_of h (a := a + 3) (by omega) e7, h.ptr (by omega) e8, h.sh (d := a + 4) (by omega) e9, fun i hi => ?_, h.ptr (by omega) e11, oPortion_of h (a := a + 5) (by omega) e12⟩
  obtain ⟨q1, q2⟩ := e10 i hi
  have p1 := h.ptr (d := a + 4) (by omega) q1
  have p2 := oBlend_of h (a := a + 9 + 2 * i) (by omega) q2
  rw [show o + (a + 9 + 2 * i) = o + a + 9 + 2 * i by omega] at p1 p2
  exact ⟨p1, p2⟩
theorem oTape_of (h : BW o c T S n I L P) {a : Nat} (ha : a + 22 < c) (e : ckTape T a = true) : oTape S n P (o + a) := by
  have hn := h.1
  simp only [ckTape, Bool.and_eq_true, decide_eq_true_eq, List.all_eq_true, List.mem_range] at e
  obtain ⟨⟨⟨⟨⟨e1, e2⟩, e3⟩, e4⟩, e5⟩, e6⟩ := e
  refine ⟨h.sh (by omega) e1, by omega, h.ptr (by omega) e2, oA_of h (a := a + 1) (by omega) e3, h.ptr (by omega) e4, h.sh (d := a + 2) (by omega) e5, fun i hi => ?_⟩
  obtain ⟨q1, q2⟩ := e6 i hi
  have p1 := h.ptr (d := a + 2) (by omega) q1
  have p2 := h.sh (d := a + 3 + i) (by omega) q2
  have p3 := h.lt (d := a + 3 + i) (by omega)
  rw [show o + (a + 3 + i) = o + a + 3 + i by omega] at p1 p2 p3
  exact ⟨p1, p2, p3⟩
theorem oState_of (h : BW o c T S n I L P) {a : Nat} (ha : a + 52 < c) (e : ckState T a = true) : oState S n P (o + a) := by
  have hn := h.1
  simp only [ckState, ckS1, ckS2, ckS3, Bool.and_eq_true, decide_eq_true_eq, List.all_eq_true, List.mem_range] at e
  obtain ⟨⟨⟨⟨⟨a1, a2⟩, a3⟩, a4⟩, ⟨⟨⟨⟨⟨⟨⟨⟨⟨⟨⟨b1, b2⟩, b3⟩, b4⟩, b5⟩, b6⟩, b7⟩, b8⟩, b9⟩, b10⟩, b11⟩, b12⟩⟩, ⟨⟨⟨⟨⟨⟨⟨c1, c2⟩, c3⟩, c4⟩, c5⟩, c6⟩, c7⟩, c8⟩⟩ := e
  refine ⟨h.sh (by omega) a1, by omega, h.ptr (by omega) a2, h.sh (d := a + 1) (by omega) a3, fun i hi => ?_, h.ptr (by omega) b1, oA_of h (a := a + 2) (by omega) b2, h.ptr (by omega) b3, oA_of h (a := a + 3) (by omega) b4, h.ptr (by omega) b5, oBlend_of h (a := a + 4) (by omega) b6, h.ptr (by omega) b7, oBlend_of h (a := a + 6) (by omega) b8, h.ptr (by omega) b9, oBlend_of h (a := a + 8) (by omega) b10, h.ptr (by omega) b11, oA_of h (a := a + 10) (by omega) b12, h.ptr (by omega) c1, h.sh (d := a + 11) (by omega) c2, fun i hi => ?_, h.ptr (by omega) c4, h.sh (d := a + 12) (by omega) c5, fun i hi => ?_, h.ptr (by omega) c7, oJournal_of h (a := a + 13) (by omega) c8⟩
  · obtain ⟨q1, q2⟩ := a4 i hi
    have p1 := h.ptr (d := a + 1) (by omega) q1
    have p2 := oTank_of h (a := a + 15 + 3 * i) (by omega) q2
    rw [show o + (a + 15 + 3 * i) = o + a + 15 + 3 * i by omega] at p1 p2
    exact ⟨p1, p2⟩
  · obtain ⟨q1, q2⟩ := c3 i hi
    have p1 := h.ptr (d := a + 11) (by omega) q1
    have p2 := h.sh (d := a + 33 + i) (by omega) q2
    have p3 := h.lt (d := a + 33 + i) (by omega)
    rw [show o + (a + 33 + i) = o + a + 33 + i by omega] at p1 p2 p3
    exact ⟨p1, p2, p3⟩
  · obtain ⟨q1, q2⟩ := c6 i hi
    have p1 := h.ptr (d := a + 12) (by omega) q1
    have p2 := h.sh (d := a + 43 + i) (by omega) q2
    have p3 := h.lt (d := a + 43 + i) (by omega)
    rw [show o + (a + 43 + i) = o + a + 43 + i by omega] at p1 p2 p3
    exact ⟨p1, p2, p3⟩
end
/-! the cellar -/
theorem tb11_a : (decide (tb11.1 0 = (11, 0)) && decide (tb11.2.2 0 0 = some 1) && decide (tb11.2.2 0 1 = some 54) && decide (tb11.1 54 = (19, 7)) && decide (tb11.2.2 0 3 = some 55) && decide (tb11.2.2 0 5 = some 108) && decide (tb11.2.2 0 6 = some 131) && decide (tb11.2.2 0 7 = some 152) && decide (tb11.2.2 0 8 = some 157) && decide (tb11.2.2 0 9 = some 161)) = true := by decide +kernel
theorem tb11_b : (ckState tb11 1 && ckState tb11 55 && ckTape tb11 108 && ckPlan tb11 131 && ckMixer tb11 152 && ckPortion tb11 157 && ckPortion tb11 161) = true := by decide +kernel
theorem tb11_c : (List.range 7).all (fun i => decide (tb11.2.2 54 i = some (165 + 53 * i)) && ckState tb11 (165 + 53 * i)) = true := by decide +kernel
theorem tb11_d : (decide (tb11.2.1 0 2 = 0) && decide (tb11.2.1 0 4 = 0) && decide (tb11.2.1 0 10 = (-5)) && decide (tb11.2.1 108 0 = 0)) = true := by decide +kernel
/-- the first row -/
def g0 : BqG := tb12.2.1 1
theorem tb11_e : (List.range 650).all (fun k => match lc k with | none => true | some (a, j) => decide (tb11.2.1 (1 + a) j = g0 k)) = true := by decide +kernel
section
variable {o : Nat} {S : BqH} {n : Nat} {I : BqI} {L : BqL} {P : BqP}
theorem new_oX (h : BW o 536 tb11 S n I L P) : oX S n P o := by
  have hn := h.1
  have e := tb11_a
  have f := tb11_b
  simp only [Bool.and_eq_true, decide_eq_true_eq] at e f
  obtain ⟨⟨⟨⟨⟨⟨⟨⟨⟨e1, e2⟩, e3⟩, e4⟩, e5⟩, e6⟩, e7⟩, e8⟩, e9⟩, e10⟩ := e
  obtain ⟨⟨⟨⟨⟨⟨f1, f2⟩, f3⟩, f4⟩, f5⟩, f6⟩, f7⟩ := f
  exact ⟨h.sh (d := 0) (by omega) e1, by omega, h.ptr (d := 0) (by omega) e2, oState_of h (a := 1) (by omega) f1, h.ptr (d := 0) (by omega) e3, h.sh (d := 54) (by omega) e4, h.ptr (d := 0) (by omega) e5, oState_of h (a := 55) (by omega) f2, h.ptr (d := 0) (by omega) e6, oTape_of h (a := 108) (by omega) f3, h.ptr (d := 0) (by omega) e7, oPlan_of h (a := 131) (by omega) f4, h.ptr (d := 0) (by omega) e8, oMixer_of h (a := 152) (by omega) f5, h.ptr (d := 0) (by omega) e9, oPortion_of h (a := 157) (by omega) f6, h.ptr (d := 0) (by omega) e10, oPortion_of h (a := 161) (by omega) f7⟩
theorem new_oPast (h : BW o 536 tb11 S n I L P) : oPast S n P o (fun i => i) := by
  have e := tb11_c
  simp only [Bool.and_eq_true, decide_eq_true_eq, List.all_eq_true, List.mem_range] at e
  refine ⟨fun i hi => ⟨?_, hi⟩, fun i j _ _ q => q, fun j hj => ?_⟩
  · have p := h.ptr (d := 54) (by omega) (e i hi).1
    rw [show o + (165 + 53 * i) = o + 165 + 53 * i by omega] at p
    exact p
  · have p := oState_of h (a := 165 + 53 * j) (by omega) (e j hj).2
    rw [show o + (165 + 53 * j) = o + 165 + 53 * j by omega] at p
    exact p
theorem g0_0 : (decide (g0 6 = 0) && (List.range 10).all (fun i => decide (g0 (212 + 9 * i) = 0) && decide (¬ g0 (208 + 9 * i) = nI 1))) = true := by decide +kernel
theorem paid_0 : ∀ k, k ≤ 10 → paidN g0 k = 0
  | 0, _ => rfl
  | k + 1, hk => by
    have e := g0_0
    simp only [Bool.and_eq_true, decide_eq_true_eq, List.all_eq_true, List.mem_range] at e
    show (if g0 (208 + 9 * k) = nI 1 then _ else paidN g0 k) = 0
    rw [if_neg (e.2 k (by omega)).2, paid_0 k (by omega)]
theorem new_CXS (h : BW o 536 tb11 S n I L P) (hh : Nat → BqG) : CXS o S n I L P g0 hh 0 := by
  have e := tb11_d
  have z := g0_0
  simp only [Bool.and_eq_true, decide_eq_true_eq, List.all_eq_true, List.mem_range] at e z
  have hL : ∀ d, d < 536 → ∀ j, L (o + d) j = 0 := fun d hd => (h.2 d hd).2.2.1
  refine ⟨new_oX h, ⟨fun k a j hk => ?_, fun i hi => ?_, ?_, ?_⟩, ?_, by omega, (fun i => i), new_oPast h, fun i hi => absurd hi (Nat.not_lt_zero i)⟩
  · have q := List.all_eq_true.mp tb11_e k (List.mem_range.mpr (lc_lt hk))
    rw [hk] at q
    have q' : tb11.2.1 (1 + a) j = g0 k := of_decide_eq_true q
    have ha := (lc_il hk).2
    rw [Nat.add_assoc, (h.2 (1 + a) (by omega)).2.1]
    exact q'
  · rw [show o + 1 + 43 + i = o + (44 + i) by omega, hL _ (by omega), (z.2 i hi).1]; rfl
  · rw [show L (o + 1) 14 = 0 from hL 1 (by omega) 14, paid_0 10 (Nat.le_refl _)]
  · rw [show L (o + 1) 15 = 0 from hL 1 (by omega) 15, z.1]; rfl
  · exact (congrFun (h.2 0 (by omega)).2.1 2).trans e.1.1.1
end
/-! the first row is sound -/
theorem g0_r : (List.range 650).all (fun k => decide (g0 k = nI (gn g0 k)) && decide (gn g0 k < 2 ^ 31)) = true := by decide +kernel
theorem g0_c : (decide (gn g0 0 ≤ 9999 ∧ gn g0 1 ≤ 16 ∧ gn g0 2 ≤ 10 ∧ gn g0 3 ≤ 10 ∧ gn g0 4 ≤ 100 ∧ gn g0 5 ≤ 0) && (List.range 6).all (fun t => decide (1 ≤ gn g0 (10 + 19 * t) ∧ gn g0 (10 + 19 * t) ≤ 9999 ∧ gn g0 (11 + 19 * t) = 0 ∧ gn g0 (12 + 19 * t) = 0 ∧ (List.range 16).all (fun b => decide (gn g0 (13 + 19 * t + b) = 0)) = true)) && (List.range 16).all (fun b => (List.range 5).all (fun k => decide (gn g0 (124 + 5 * b + k) = 0))) && (List.range 10).all (fun q => (List.range 9).all (fun k => decide (gn g0 (204 + 9 * q + k) = 0)) && decide (gn g0 (296 + 3 * q) = 0)) && (List.range 4).all (fun k => decide (gn g0 (324 + k) = 0))) = true := by decide +kernel
theorem g0_2 : gn g0 2 = 0 := by decide +kernel
theorem ns_0 {F : Nat → Nat} {k : Nat} (h : ∀ j, j < k → F j = 0) : ns F k = 0 := (ns_congr (G := fun _ => 0) k h).trans (ns_z k)
theorem gk_0 : GK g0 0 := by
  have r := g0_r
  have e := g0_c
  simp only [Bool.and_eq_true, decide_eq_true_eq, List.all_eq_true, List.mem_range] at r e
  obtain ⟨⟨⟨⟨e1, e2⟩, e3⟩, e4⟩, e5⟩ := e
  refine ⟨fun k hk _ => r k hk, ⟨e1, fun t ht => ?_, fun b hb => ?_, fun q hq => ?_, fun q hq => ?_, fun q hq => ?_⟩, ?_⟩
  · obtain ⟨a1, a2, a3, a4, a5⟩ := e2 t ht
    have hz : ts (gn g0) t = 0 := ns_0 (fun j hj => a5 j hj)
    unfold GT
    rw [hz, a3, a4]
    exact ⟨a1, a2, by omega, by omega, by omega, by omega⟩
  · have hz : bs (gn g0) b = 0 := ns_0 (fun t ht => (e2 t ht).2.2.2.2 b hb)
    have k0 : gn g0 (124 + 5 * b) = 0 := e3 b hb 0 (by decide)
    have k1 : gn g0 (124 + 5 * b + 1) = 0 := e3 b hb 1 (by decide)
    have k2 : gn g0 (124 + 5 * b + 2) = 0 := e3 b hb 2 (by decide)
    have k3 : gn g0 (124 + 5 * b + 3) = 0 := e3 b hb 3 (by decide)
    rw [show 124 + 5 * b + 1 = 125 + 5 * b by omega] at k1
    rw [show 124 + 5 * b + 2 = 126 + 5 * b by omega] at k2
    rw [show 124 + 5 * b + 3 = 127 + 5 * b by omega] at k3
    unfold GB
    rw [hz, k0, k1, k2, k3]
    exact ⟨by omega, rfl, by omega, fun _ => rfl⟩
  · have k : ∀ i, i < 9 → gn g0 (204 + 9 * q + i) = 0 := (e4 q hq).1
    have k0 := k 0 (by decide)
    have k1 := k 1 (by decide)
    have k2 := k 2 (by decide)
    have k3 := k 3 (by decide)
    have k4 := k 4 (by decide)
    have k5 := k 5 (by decide)
    have k8 := k 8 (by decide)
    rw [show 204 + 9 * q + 1 = 205 + 9 * q by omega] at k1
    rw [show 204 + 9 * q + 2 = 206 + 9 * q by omega] at k2
    rw [show 204 + 9 * q + 3 = 207 + 9 * q by omega] at k3
    rw [show 204 + 9 * q + 4 = 208 + 9 * q by omega] at k4
    rw [show 204 + 9 * q + 5 = 209 + 9 * q by omega] at k5
    rw [show 204 + 9 * q + 8 = 212 + 9 * q by omega] at k8
    have h2 : gn g0 2 = 0 := g0_2
    unfold GO
    rw [k1, k2, k3, show gn g0 (204 + 9 * q) = 0 from k0, k4, k5, k8, h2]
    exact ⟨by omega, fun z => by omega, by omega, by omega, by omega, by omega, by omega, by omega, fun _ => rfl⟩
  · have := (e4 q hq).2
    omega
  · have := e5 q hq
    omega
  · have z := g0_0
    simp only [Bool.and_eq_true, decide_eq_true_eq] at z
    rw [z.1]
    decide
/-! the model -/
theorem tb12_a : (decide (tb12.1 0 = (12, 0)) && ckA tb12 1 650 && ckA tb12 2 3900 && ckA tb12 3 650 && ckA tb12 4 650 && ckA tb12 5 60 && ckA tb12 6 16 && ckA tb12 7 16 && ckA tb12 8 16 && ckA tb12 9 10 && ckA tb12 10 10 && decide (tb12.1 11 = (14, 10)) && ckA tb12 12 96 && ckA tb12 13 240) = true := by decide +kernel
theorem tb12_b : (decide (tb12.2.2 0 0 = some 1) && decide (tb12.2.2 0 1 = some 2) && decide (tb12.2.2 0 3 = some 3) && decide (tb12.2.2 0 5 = some 4) && decide (tb12.2.2 0 8 = some 5) && decide (tb12.2.2 0 10 = some 6) && decide (tb12.2.2 0 11 = some 7) && decide (tb12.2.2 0 12 = some 8) && decide (tb12.2.2 0 13 = some 9) && decide (tb12.2.2 0 14 = some 10) && decide (tb12.2.2 0 15 = some 11) && decide (tb12.2.2 0 16 = some 12) && decide (tb12.2.2 0 20 = some 13)) = true := by decide +kernel
theorem tb12_c : (decide (tb12.2.1 0 2 = 0) && decide (tb12.2.1 0 4 = 0) && decide (tb12.2.1 0 6 = 0) && decide (tb12.2.1 0 7 = 0) && decide (tb12.2.1 0 9 = 0)) = true := by decide +kernel
section
variable {o : Nat} {S : BqH} {n : Nat} {I : BqI} {L : BqL} {P : BqP}
theorem new_model (h : BW o 14 tb12 S n I L P) : oModel S n P o := by
  have hn := h.1
  have e := tb12_a
  have f := tb12_b
  simp only [Bool.and_eq_true, decide_eq_true_eq] at e f
  obtain ⟨⟨⟨⟨⟨⟨⟨⟨⟨⟨⟨⟨⟨e0, e1⟩, e2⟩, e3⟩, e4⟩, e5⟩, e6⟩, e7⟩, e8⟩, e9⟩, e10⟩, e11⟩, e12⟩, e13⟩ := e
  obtain ⟨⟨⟨⟨⟨⟨⟨⟨⟨⟨⟨⟨f1, f2⟩, f3⟩, f4⟩, f5⟩, f6⟩, f7⟩, f8⟩, f9⟩, f10⟩, f11⟩, f12⟩, f13⟩ := f
  have p : ∀ {k t : Nat}, tb12.2.2 0 k = some t → P o k = some (o + t) := fun q => h.ptr (d := 0) (by omega) q
  have a : ∀ {d len : Nat}, d < 14 → ckA tb12 d len = true → oA S n (o + d) len := fun hd q => oA_of h hd q
  exact ⟨h.sh (d := 0) (by omega) e0, by omega, p f1, a (by omega) e1, p f2, a (by omega) e2, p f3, a (by omega) e3, p f4, a (by omega) e4, p f5, a (by omega) e5, p f6, a (by omega) e6, p f7, a (by omega) e7, p f8, a (by omega) e8, p f9, a (by omega) e9, p f10, a (by omega) e10, p f11, ⟨h.sh (d := 11) (by omega) e11, h.lt (by omega)⟩, p f12, a (by omega) e12, p f13, a (by omega) e13⟩
theorem new_mI (h : BW o 14 tb12 S n I L P) (hh : Nat → BqG) : I (o + 1) = g0 ∧ MH o I hh 0 ∧ I o 4 = 0 ∧ I o 6 = nI 0 ∧ I o 7 = 0 ∧ I o 9 = nI 0 := by
  have e := tb12_c
  simp only [Bool.and_eq_true, decide_eq_true_eq] at e
  obtain ⟨⟨⟨⟨e2, e4⟩, e6⟩, e7⟩, e9⟩ := e
  have r : ∀ k, I o k = tb12.2.1 0 k := fun k => congrFun (h.2 0 (by omega)).2.1 k
  exact ⟨(h.2 1 (by omega)).2.1, ⟨(r 2).trans e2, by omega, fun i hi => absurd hi (Nat.not_lt_zero i)⟩, (r 4).trans e4, (r 6).trans e6, (r 7).trans e7, (r 9).trans e9⟩
theorem new_xI (h : BW o 536 tb11 S n I L P) : I o 4 = 0 ∧ I o 10 = (-5) ∧ I (o + 108) 0 = nI 0 := by
  have e := tb11_d
  simp only [Bool.and_eq_true, decide_eq_true_eq] at e
  obtain ⟨⟨⟨e2, e4⟩, e10⟩, e0⟩ := e
  have r : ∀ k, I o k = tb11.2.1 0 k := fun k => congrFun (h.2 0 (by omega)).2.1 k
  exact ⟨(r 4).trans e4, (r 10).trans e10, (congrFun (h.2 108 (by omega)).2.1 0).trans e0⟩
end
theorem i_vc : Claimed_1_1 ∧ Claimed_1_2 := sorry
