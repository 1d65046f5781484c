def jw_I (I : BqI) (j m : Nat) (d k t l : Int32) : BqI := bq_u (if m < 80 then bq_u (bq_u (bq_u (bq_u I (j + 1) (m * 4) d) (j + 1) (m * 4 + 1) k) (j + 1) (m * 4 + 2) t) (j + 1) (m * 4 + 3) l else I) j 0 ((if m < 80 then bq_u (bq_u (bq_u (bq_u I (j + 1) (m * 4) d) (j + 1) (m * 4 + 1) k) (j + 1) (m * 4 + 2) t) (j + 1) (m * 4 + 3) l else I) j 0 + nI 1)
theorem jw_p {I : BqI} {j m : Nat} {d k t l : Int32} (h : m < 80) : jw_I I j m d k t l = bq_u (bq_u (bq_u (bq_u (bq_u I (j + 1) (m * 4) d) (j + 1) (m * 4 + 1) k) (j + 1) (m * 4 + 2) t) (j + 1) (m * 4 + 3) l) j 0 (bq_u (bq_u (bq_u (bq_u I (j + 1) (m * 4) d) (j + 1) (m * 4 + 1) k) (j + 1) (m * 4 + 2) t) (j + 1) (m * 4 + 3) l j 0 + nI 1) := by unfold jw_I; rw [if_pos h]
theorem jw_n {I : BqI} {j m : Nat} {d k t l : Int32} (h : ¬ m < 80) : jw_I I j m d k t l = bq_u I j 0 (I j 0 + nI 1) := by unfold jw_I; rw [if_neg h]
theorem bq_rng {x : Int32} {N : Nat} (h1 : ¬ x < 0) (h2 : ¬ nI N ≤ x) (hN : N < 2 ^ 31) : ∃ q, q < N ∧ x = nI q := by
  obtain ⟨q, hq, rfl⟩ := nI_of h1
  refine ⟨q, ?_, rfl⟩
  rcases Nat.lt_or_ge q N with h | h
  · exact h
  · exact absurd (nI_le h hq) h2
theorem bq_rng2 {x : Int32} {N : Nat} (h : ¬ (x < nI 0 ∨ ¬ x ≤ nI N)) (hN : N < 2 ^ 30) : ∃ q, q ≤ N ∧ x = nI q := by
  have h1 : ¬ x < nI 0 := fun q => h (Or.inl q)
  have h2 : x ≤ nI N := Decidable.byContradiction fun q => h (Or.inr q)
  obtain ⟨q, hq, rfl⟩ := nI_of (show ¬ x < 0 from h1)
  exact ⟨q, (nI_leI hq (by omega)).mp h2, rfl⟩
theorem bq_tin {t k : Nat} (ht : t < k + 1) (hk : k < 2 ^ 30) : ¬ (nI t < nI 0 ∨ ¬ nI t ≤ nI k) := by
  rintro (h | h)
  · exact nI_pos (by omega) h
  · exact h (nI_le (by omega) (by omega))
def jp (m : Int32) (f : Nat → Int32) (x y : Int32) : Int32 := if x < 0 ∨ m ≤ x ∨ nI 80 ≤ x ∨ (y < nI 0 ∨ ¬ y ≤ nI 3) then (-1) else f (x.toNatClampNeg * 4 + y.toNatClampNeg)
theorem jp_out {m : Int32} {f : Nat → Int32} {x y : Int32} (h : x < 0 ∨ m ≤ x ∨ nI 80 ≤ x ∨ (y < nI 0 ∨ ¬ y ≤ nI 3)) : jp m f x y = (-1) := if_pos h
theorem jp_in {m : Int32} {f : Nat → Int32} {q q2 : Nat} (h : ¬ m ≤ nI q) (hq : q < 80) (hq2 : q2 ≤ 3) : jp m f (nI q) (nI q2) = f (q * 4 + q2) := by
  unfold jp
  rw [if_neg, nI_clamp (by omega), nI_clamp (by omega)]
  rintro (g | g | g | g)
  · exact nI_pos (by omega) g
  · exact h g
  · exact nI_ge hq (by decide) g
  · exact bq_tin (k := 3) (by omega) (by decide) g
def st_1 (I : BqI) (s o : Nat) : BqI := bq_f1 (bq_f1 I s o 0) s o 1
def st_t (I : BqI) (s o : Nat) : Nat → BqI
  | 0 => I
  | i + 1 => tk_cp (st_t I s o i) (s + 15 + 3 * i) (o + 15 + 3 * i)
def st_9 (I : BqI) (s o : Nat) : BqI := bq_cp (bq_cp (bq_cp (bq_cp (bq_cp (bq_cp (bq_f1 I s o 3) (o + 2) (s + 2) 16) (o + 3) (s + 3) 16) (o + 4 + 1) (s + 4 + 1) 16) (o + 6 + 1) (s + 6 + 1) 16) (o + 8 + 1) (s + 8 + 1) 16) (o + 10) (s + 10) 4
def st_10 (I : BqI) (s o : Nat) : BqI := bq_f1 (st_9 (st_t (st_1 I s o) s o 6) s o) s o 10
def st_r (I : BqI) (s o : Nat) : Nat → BqI
  | 0 => I
  | i + 1 => ra_cp (st_r I s o i) (s + 33 + i) (o + 33 + i)
def st_12 (I : BqI) (s o : Nat) : BqI := bq_f1 (st_r (st_10 I s o) s o 10) s o 12
def st_o (I : BqI) (s o : Nat) : Nat → BqI
  | 0 => I
  | i + 1 => or_cp (st_o I s o i) (s + 43 + i) (o + 43 + i)
def st_l (L : BqL) (s o : Nat) : Nat → BqL
  | 0 => L
  | i + 1 => bq_u (st_l L s o i) (s + 43 + i) 8 (st_l L s o i (o + 43 + i) 8)
def st_cpI (I : BqI) (s o : Nat) : BqI := bq_cp (bq_u (st_o (st_12 I s o) s o 10) (s + 13) 0 (st_o (st_12 I s o) s o 10 (o + 13) 0)) (o + 13 + 1) (s + 13 + 1) 320
def st_cpL (L : BqL) (s o : Nat) : BqL := bq_u (bq_u (st_l L s o 10) s 14 (st_l L s o 10 o 14)) s 15 (bq_u (st_l L s o 10) s 14 (st_l L s o 10 o 14) o 15)
def ab_I (I : BqI) (s b : Nat) (x y : Int32) : BqI := bq_u (bq_u (bq_u (bq_u I (s + 2) b y) (s + 3) b (bq_u I (s + 2) b y s 0)) (s + 4 + 1) b x) s 3 (bq_u (bq_u (bq_u I (s + 2) b y) (s + 3) b (bq_u I (s + 2) b y s 0)) (s + 4 + 1) b x s 3 + nI 1)
def wo_I (I : BqI) (s o m : Nat) (x y : Int32) (r : Nat) : BqI := jw_I (bq_u (bl_add I (s + 8 + 1) (o + 1) 16) (s + 10) r (bl_add I (s + 8 + 1) (o + 1) 16 (s + 10) r + y)) (s + 13) m (bq_u (bl_add I (s + 8 + 1) (o + 1) 16) (s + 10) r (bl_add I (s + 8 + 1) (o + 1) 16 (s + 10) r + y) s 0) (nI 3) x y
def bq_tw (f : Nat → Int32) : Nat → Int32
  | 0 => nI 0
  | i + 1 => if f i ≤ 0 then bq_tw f i else bq_tw f i ||| (nI 1 <<< (nI i &&& 31))
def bq_suL (f : Nat → Int64) : Nat → Int64
  | 0 => 0
  | i + 1 => bq_suL f i + f i
def bq_ct (f : Nat → Int32) (v : Int32) : Nat → Nat
  | 0 => 0
  | i + 1 => if f i = v then bq_ct f v i + 1 else bq_ct f v i
def bq_sc (f g : Nat → Int32) : Nat → Int32
  | 0 => nI 0
  | i + 1 => if f i = 0 then bq_sc f g i + g i else bq_sc f g i
def ri (r : Option Nat) : Int32 := match r with
  | none => (-5)
  | some q => nI q
def rfs (d st : Nat → Int32) (D T : Int32) (i : Nat) (f : Option Nat) : Option Nat := if D < d i then f else if ¬ st i ≤ T then f else match f with
  | none => some i
  | some q => if st q < st i then some i else if ¬ st i = st q then some q else if d i < d q then some q else some i
section
variable {d st : Nat → Int32} {D T : Int32} {i q : Nat} {f : Option Nat}
theorem rfs_1 (h1 : D < d i) : rfs d st D T i f = f := by unfold rfs; rw [if_pos h1]
theorem rfs_2 (h1 : ¬ D < d i) (h2 : ¬ st i ≤ T) : rfs d st D T i f = f := by unfold rfs; rw [if_neg h1, if_pos h2]
theorem rfs_3 (h1 : ¬ D < d i) (h2 : st i ≤ T) : rfs d st D T i none = some i := by unfold rfs; rw [if_neg h1, if_neg (not_not_intro h2)]
theorem rfs_4 (h1 : ¬ D < d i) (h2 : st i ≤ T) (h3 : st q < st i) : rfs d st D T i (some q) = some i := by unfold rfs; rw [if_neg h1, if_neg (not_not_intro h2)]; exact if_pos h3
theorem rfs_5 (h1 : ¬ D < d i) (h2 : st i ≤ T) (h3 : ¬ st q < st i) (h4 : ¬ st i = st q) : rfs d st D T i (some q) = some q := by unfold rfs; rw [if_neg h1, if_neg (not_not_intro h2)]; exact (if_neg h3).trans (if_pos h4)
theorem rfs_6 (h1 : ¬ D < d i) (h2 : st i ≤ T) (h3 : ¬ st q < st i) (h4 : st i = st q) (h5 : d i < d q) : rfs d st D T i (some q) = some q := by unfold rfs; rw [if_neg h1, if_neg (not_not_intro h2)]; exact (if_neg h3).trans ((if_neg (not_not_intro h4)).trans (if_pos h5))
theorem rfs_7 (h1 : ¬ D < d i) (h2 : st i ≤ T) (h3 : ¬ st q < st i) (h4 : st i = st q) (h5 : ¬ d i < d q) : rfs d st D T i (some q) = some i := by unfold rfs; rw [if_neg h1, if_neg (not_not_intro h2)]; exact (if_neg h3).trans ((if_neg (not_not_intro h4)).trans (if_neg h5))
end
def rfx (d st : Nat → Int32) (D T : Int32) : Nat → Option Nat
  | 0 => none
  | i + 1 => rfs d st D T i (rfx d st D T i)
theorem rfx_s (d st : Nat → Int32) (D T : Int32) (i : Nat) : rfx d st D T (i + 1) = rfs d st D T i (rfx d st D T i) := rfl
theorem rf_lt {d st : Nat → Int32} {D T : Int32} : ∀ {i q : Nat}, rfx d st D T i = some q → q < i
  | 0, q, h => by cases h
  | i + 1, q, h => by
    rw [rfx_s] at h
    have key : ∀ f : Option Nat, (∀ z, f = some z → z < i) → rfs d st D T i f = some q → q < i + 1 := by
      intro f hf h
      unfold rfs at h
      split at h
      · have := hf q h; omega
      · split at h
        · have := hf q h; omega
        · split at h
          · cases h; omega
          · rename_i z
            have hz := hf z rfl
            split at h
            · cases h; omega
            · split at h
              · cases h; omega
              · split at h <;> cases h <;> omega
    exact key _ (fun z hz => rf_lt hz) h
def du (am : Nat → Int32) (r : Option Nat) (al : Int64) : Int32 := match r with
  | none => nI 0
  | some q => ((al * (am q).toInt64 + 9999) / 10000).toInt32
def dnow (I : BqI) (L : BqL) (s rc : Nat) : Nat → Int64
  | 0 => 0
  | i + 1 => if I (s + 43 + i) 4 = nI 1 then dnow I L s rc i + (du (fun i => I (s + 33 + i) 2) (rfx (fun i => I (s + 33 + i) 0) (fun i => I (s + 33 + i) 1) (I (s + 43 + i) 6) (I (s + 43 + i) 7) rc) (L (s + 43 + i) 8)).toInt64 else dnow I L s rc i
set_option maxHeartbeats 472000 in
set_option maxRecDepth 20000 in
theorem c_X2_write {S : BqH} {n : Nat} {I : BqI} {L : BqL} {P : BqP} {j m : Nat} {x1 x2 x3 x4 : Int32} (hj : oJournal S n P j) (hm : I j 0 = nI m) (hb : m < 2 ^ 30) : bq_Sp mX2_write 1 12 0 0 [.ref j, .int x1, .int x2, .int x3, .int x4] S n I L P (bq_F (none) S n (jw_I I j m x1 x2 x3 x4) L P) := by
  refine q_entry (vs := [some (.ref j), some (.int x1), some (.int x2), some (.int x3), some (.int x4), none]) (by decide +kernel) (by simp) (Nat.le_of_ble_eq_true rfl) rfl ?_
  refine q_aload_n (pc := 0) dX2_write_0 rfl rfl ?_
  refine q_getI (pc := 1) dX2_write_1 fX2_9 (Journal_sh hj) ⟨by decide, rfl⟩ (Journal_lt hj) ?_
  rw [hm]
  refine q_if_lt (pc := 4) 63 dX2_write_4 (by decide) (fun c_4 => absurd c_4 (nI_pos (by omega))) (fun c_4 => ?_)
  refine q_aload_n (pc := 7) dX2_write_7 rfl rfl ?_
  refine q_getI (pc := 8) dX2_write_8 fX2_9 (Journal_sh hj) ⟨by decide, rfl⟩ (Journal_lt hj) ?_
  rw [hm]
  refine q_bipush (pc := 11) (v := nI 80) dX2_write_11 (by decide) ?_
  refine q_icmp_ge (pc := 13) 63 dX2_write_13 (by decide) (fun c_13 => ?_) (fun c_13 => ?_)
  · have hge : ¬ m < 80 := fun h => absurd c_13 (nI_ge h (by decide))
    refine q_aload_n (pc := 63) dX2_write_63 rfl rfl ?_
    refine q_dup (pc := 64) dX2_write_64 rfl ?_
    refine q_getI (pc := 65) dX2_write_65 fX2_9 (Journal_sh hj) ⟨by decide, rfl⟩ (Journal_lt hj) ?_
    refine q_iconst (pc := 68) (v := nI 1) dX2_write_68 (by decide) ?_
    refine q_iadd (pc := 69) dX2_write_69 ?_
    refine q_putI (pc := 70) dX2_write_70 (pX2_9 _) (Journal_sh hj) ⟨by decide, rfl⟩ (Journal_lt hj) ?_
    exact q_vret (st := []) (pc := 73) dX2_write_73 rfl ⟨rfl, rfl, rfl, by first | (rw [jw_n hge]; done) | (rw [jw_p hlt]; done), rfl, rfl⟩
  · have hlt : m < 80 := by rcases Nat.lt_or_ge m 80 with h | h; exact h; exact absurd (nI_le h (by omega)) c_13
    refine q_aload_n (pc := 16) dX2_write_16 rfl rfl ?_
    refine q_getI (pc := 17) dX2_write_17 fX2_9 (Journal_sh hj) ⟨by decide, rfl⟩ (Journal_lt hj) ?_
    rw [hm]
    refine q_iconst (pc := 20) (v := nI 4) dX2_write_20 (by decide) ?_
    refine q_imulN (pc := 21) dX2_write_21 ?_
    refine q_istore (pc := 22) dX2_write_22 (Nat.le_of_ble_eq_true rfl) rfl ?_
    show bq_W _ _ _ _ _ 24 [_, _, _, _, _, _] _ _ _ _ _ _ _
    refine q_aload_n (pc := 24) dX2_write_24 rfl rfl ?_
    refine q_getP (pc := 25) dX2_write_25 fX2_15 (Journal_sh hj) ⟨by decide, rfl⟩ (Journal_lt hj) (Journal_p_parts hj) ?_
    refine q_iload (pc := 28) dX2_write_28 rfl ?_
    refine q_iload_n (pc := 30) dX2_write_30 rfl rfl ?_
    refine q_iast (pc := 31) dX2_write_31 (oA_sh (Journal_s_parts hj)) (oA_lt (Journal_s_parts hj)) rfl (by omega) ?_
    refine q_aload_n (pc := 32) dX2_write_32 rfl rfl ?_
    refine q_getP (pc := 33) dX2_write_33 fX2_15 (Journal_sh hj) ⟨by decide, rfl⟩ (Journal_lt hj) (Journal_p_parts hj) ?_
    refine q_iload (pc := 36) dX2_write_36 rfl ?_
    refine q_iconst (pc := 38) (v := nI 1) dX2_write_38 (by decide) ?_
    refine q_iaddN (pc := 39) dX2_write_39 ?_
    refine q_iload_n (pc := 40) dX2_write_40 rfl rfl ?_
    refine q_iast (pc := 41) dX2_write_41 (oA_sh (Journal_s_parts hj)) (oA_lt (Journal_s_parts hj)) rfl (by omega) ?_
    refine q_aload_n (pc := 42) dX2_write_42 rfl rfl ?_
    refine q_getP (pc := 43) dX2_write_43 fX2_15 (Journal_sh hj) ⟨by decide, rfl⟩ (Journal_lt hj) (Journal_p_parts hj) ?_
    refine q_iload (pc := 46) dX2_write_46 rfl ?_
    refine q_iconst (pc := 48) (v := nI 2) dX2_write_48 (by decide) ?_
    refine q_iaddN (pc := 49) dX2_write_49 ?_
    refine q_iload_n (pc := 50) dX2_write_50 rfl rfl ?_
    refine q_iast (pc := 51) dX2_write_51 (oA_sh (Journal_s_parts hj)) (oA_lt (Journal_s_parts hj)) rfl (by omega) ?_
    refine q_aload_n (pc := 52) dX2_write_52 rfl rfl ?_
    refine q_getP (pc := 53) dX2_write_53 fX2_15 (Journal_sh hj) ⟨by decide, rfl⟩ (Journal_lt hj) (Journal_p_parts hj) ?_
    refine q_iload (pc := 56) dX2_write_56 rfl ?_
    refine q_iconst (pc := 58) (v := nI 3) dX2_write_58 (by decide) ?_
    refine q_iaddN (pc := 59) dX2_write_59 ?_
    refine q_iload (pc := 60) dX2_write_60 rfl ?_
    refine q_iast (pc := 62) dX2_write_62 (oA_sh (Journal_s_parts hj)) (oA_lt (Journal_s_parts hj)) rfl (by omega) ?_
    refine q_aload_n (pc := 63) dX2_write_63 rfl rfl ?_
    refine q_dup (pc := 64) dX2_write_64 rfl ?_
    refine q_getI (pc := 65) dX2_write_65 fX2_9 (Journal_sh hj) ⟨by decide, rfl⟩ (Journal_lt hj) ?_
    refine q_iconst (pc := 68) (v := nI 1) dX2_write_68 (by decide) ?_
    refine q_iadd (pc := 69) dX2_write_69 ?_
    refine q_putI (pc := 70) dX2_write_70 (pX2_9 _) (Journal_sh hj) ⟨by decide, rfl⟩ (Journal_lt hj) ?_
    exact q_vret (st := []) (pc := 73) dX2_write_73 rfl ⟨rfl, rfl, rfl, by first | (rw [jw_n hge]; done) | (rw [jw_p hlt]; done), rfl, rfl⟩
set_option maxHeartbeats 400000 in
set_option maxRecDepth 20000 in
theorem c_X2_part {S : BqH} {n : Nat} {I : BqI} {L : BqL} {P : BqP} {j : Nat} {x y : Int32} (hj : oJournal S n P j) : bq_Sp mX2_part 2 34 0 0 [.ref j, .int x, .int y] S n I L P (bq_F (some (.int (jp (I j 0) (I (j + 1)) x y))) S n I L P) := by
  refine q_entry (vs := [some (.ref j), some (.int x), some (.int y)]) (by decide +kernel) (by simp) (Nat.le_of_ble_eq_true rfl) rfl ?_
  refine q_iload_n (pc := 0) dX2_part_0 rfl rfl ?_
  refine q_if_lt (pc := 1) 27 dX2_part_1 (by decide) (fun c_1 => ?_) (fun c_1 => ?_)
  · refine q_iconst (pc := 27) (v := (-1)) dX2_part_27 (by decide) ?_
    exact q_iret (st := []) (pc := 28) dX2_part_28 rfl ⟨by rw [jp_out (by first | exact Or.inl c_1 | exact Or.inr (Or.inl c_9) | exact Or.inr (Or.inr (Or.inl c_15)) | exact Or.inr (Or.inr (Or.inr c_24)))], rfl, rfl, rfl, rfl, rfl⟩
  · refine q_iload_n (pc := 4) dX2_part_4 rfl rfl ?_
    refine q_aload_n (pc := 5) dX2_part_5 rfl rfl ?_
    refine q_getI (pc := 6) dX2_part_6 fX2_9 (Journal_sh hj) ⟨by decide, rfl⟩ (Journal_lt hj) ?_
    refine q_icmp_ge (pc := 9) 27 dX2_part_9 (by decide) (fun c_9 => ?_) (fun c_9 => ?_)
    · refine q_iconst (pc := 27) (v := (-1)) dX2_part_27 (by decide) ?_
      exact q_iret (st := []) (pc := 28) dX2_part_28 rfl ⟨by rw [jp_out (by first | exact Or.inl c_1 | exact Or.inr (Or.inl c_9) | exact Or.inr (Or.inr (Or.inl c_15)) | exact Or.inr (Or.inr (Or.inr c_24)))], rfl, rfl, rfl, rfl, rfl⟩
    · refine q_iload_n (pc := 12) dX2_part_12 rfl rfl ?_
      refine q_bipush (pc := 13) (v := nI 80) dX2_part_13 (by decide) ?_
      refine q_icmp_ge (pc := 15) 27 dX2_part_15 (by decide) (fun c_15 => ?_) (fun c_15 => ?_)
      · refine q_iconst (pc := 27) (v := (-1)) dX2_part_27 (by decide) ?_
        exact q_iret (st := []) (pc := 28) dX2_part_28 rfl ⟨by rw [jp_out (by first | exact Or.inl c_1 | exact Or.inr (Or.inl c_9) | exact Or.inr (Or.inr (Or.inl c_15)) | exact Or.inr (Or.inr (Or.inr c_24)))], rfl, rfl, rfl, rfl, rfl⟩
      · refine q_iload_n (pc := 18) dX2_part_18 rfl rfl ?_
        refine q_iconst (pc := 19) (v := nI 0) dX2_part_19 (by decide) ?_
        refine q_iconst (pc := 20) (v := nI 3) dX2_part_20 (by decide) ?_
        refine q_callTF (pc := 21) dX2_part_21 kX2_25 c_X11_outside ⟨Nat.le_of_ble_eq_true rfl, Nat.le_of_ble_eq_true rfl⟩ rfl rfl (Nat.le_of_ble_eq_true rfl) ?_
        show bq_W _ _ _ _ _ 24 _ [_] _ _ _ _ _ _
        refine q_if_eq (pc := 24) 29 dX2_part_24 (by decide) (fun c_24 => ?_) (fun c_24 => ?_)
        · replace c_24 := bq_b0.mp c_24
          obtain ⟨q, hq, rfl⟩ := bq_rng c_1 c_15 (by decide)
          obtain ⟨q2, hq2, rfl⟩ := bq_rng2 c_24 (by decide)
          refine q_aload_n (pc := 29) dX2_part_29 rfl rfl ?_
          refine q_getP (pc := 30) dX2_part_30 fX2_15 (Journal_sh hj) ⟨by decide, rfl⟩ (Journal_lt hj) (Journal_p_parts hj) ?_
          refine q_iload_n (pc := 33) dX2_part_33 rfl rfl ?_
          refine q_iconst (pc := 34) (v := nI 4) dX2_part_34 (by decide) ?_
          refine q_imulN (pc := 35) dX2_part_35 ?_
          refine q_iload_n (pc := 36) dX2_part_36 rfl rfl ?_
          refine q_iaddN (pc := 37) dX2_part_37 ?_
          refine q_iald (pc := 38) dX2_part_38 (oA_sh (Journal_s_parts hj)) (oA_lt (Journal_s_parts hj)) rfl (by omega) ?_
          exact q_iret (st := []) (pc := 39) dX2_part_39 rfl ⟨by rw [jp_in c_9 hq hq2], rfl, rfl, rfl, rfl, rfl⟩
        · replace c_24 := bq_bn.mp c_24
          refine q_iconst (pc := 27) (v := (-1)) dX2_part_27 (by decide) ?_
          exact q_iret (st := []) (pc := 28) dX2_part_28 rfl ⟨by rw [jp_out (by first | exact Or.inl c_1 | exact Or.inr (Or.inl c_9) | exact Or.inr (Or.inr (Or.inl c_15)) | exact Or.inr (Or.inr (Or.inr c_24)))], rfl, rfl, rfl, rfl, rfl⟩
set_option maxHeartbeats 1272000 in
set_option maxRecDepth 20000 in
theorem c_X8_copyFrom {S : BqH} {n : Nat} {I : BqI} {L : BqL} {P : BqP} {s o : Nat} (hs : oState S n P s) (ho : oState S n P o) : bq_Sp mX8_copyFrom 4 102 0 0 [.ref s, .ref o] S n I L P (bq_F (none) S n (st_cpI I s o) (st_cpL L s o) P) := by
  refine q_entry (vs := [some (.ref s), some (.ref o), none]) (by decide +kernel) (by simp) (Nat.le_of_ble_eq_true rfl) rfl ?_
  have l3 : ∀ i, i ≤ 10 → bq_W mX8_copyFrom 4 102 0 0 177 [some (.ref s), some (.ref o), some (.int (nI i))] [] S n (st_o (st_12 I s o) s o i) (st_l L s o i) P (bq_F (none) S n (st_cpI I s o) (st_cpL L s o) P) := by
    refine bq_down (A := fun i => bq_W mX8_copyFrom 4 102 0 0 177 [some (.ref s), some (.ref o), some (.int (nI i))] [] S n (st_o (st_12 I s o) s o i) (st_l L s o i) P (bq_F (none) S n (st_cpI I s o) (st_cpL L s o) P)) 10 ?_ ?_
    · refine q_iload_n (pc := 177) dX8_copyFrom_177 rfl rfl ?_
      refine q_bipush (pc := 178) (v := nI 10) dX8_copyFrom_178 (by decide) ?_
      refine q_icmp_ge (pc := 180) 204 dX8_copyFrom_180 (by decide) (fun c_180 => ?_) (fun c_180 => absurd (by decide) c_180)
      refine q_aload_n (pc := 204) dX8_copyFrom_204 rfl rfl ?_
      refine q_aload_n (pc := 205) dX8_copyFrom_205 rfl rfl ?_
      refine q_getL (pc := 206) dX8_copyFrom_206 fX8_68 (State_sh ho) ⟨by decide, rfl⟩ (State_lt ho) ?_
      refine q_putL (pc := 209) dX8_copyFrom_209 (pX8_68 _) (State_sh hs) ⟨by decide, rfl⟩ (State_lt hs) ?_
      refine q_aload_n (pc := 212) dX8_copyFrom_212 rfl rfl ?_
      refine q_aload_n (pc := 213) dX8_copyFrom_213 rfl rfl ?_
      refine q_getL (pc := 214) dX8_copyFrom_214 fX8_72 (State_sh ho) ⟨by decide, rfl⟩ (State_lt ho) ?_
      refine q_putL (pc := 217) dX8_copyFrom_217 (pX8_72 _) (State_sh hs) ⟨by decide, rfl⟩ (State_lt hs) ?_
      refine q_aload_n (pc := 220) dX8_copyFrom_220 rfl rfl ?_
      refine q_getP (pc := 221) dX8_copyFrom_221 fX8_78 (State_sh hs) ⟨by decide, rfl⟩ (State_lt hs) (State_p_journal hs) ?_
      refine q_aload_n (pc := 224) dX8_copyFrom_224 rfl rfl ?_
      refine q_getP (pc := 225) dX8_copyFrom_225 fX8_78 (State_sh ho) ⟨by decide, rfl⟩ (State_lt ho) (State_p_journal ho) ?_
      refine q_callVF (pc := 228) dX8_copyFrom_228 kX8_104 (c_X2_copyFrom (State_s_journal hs) (State_s_journal ho)) (Journal_sh (State_s_journal hs)) rfl (Journal_lt (State_s_journal hs)) ⟨Nat.le_of_ble_eq_true rfl, Nat.le_of_ble_eq_true rfl⟩ rfl rfl (Nat.le_of_ble_eq_true rfl) ?_
      show bq_W _ _ _ _ _ 231 _ [] _ _ _ _ _ _
      exact q_vret (st := []) (pc := 231) dX8_copyFrom_231 rfl ⟨rfl, rfl, rfl, rfl, rfl, rfl⟩
    · intro i hi ih
      refine q_iload_n (pc := 177) dX8_copyFrom_177 rfl rfl ?_
      refine q_bipush (pc := 178) (v := nI 10) dX8_copyFrom_178 (by decide) ?_
      refine q_icmp_ge (pc := 180) 204 dX8_copyFrom_180 (by decide) (fun c_180 => absurd c_180 (nI_ge hi (by decide))) (fun c_180 => ?_)
      refine q_aload_n (pc := 183) dX8_copyFrom_183 rfl rfl ?_
      refine q_getP (pc := 184) dX8_copyFrom_184 fX8_64 (State_sh hs) ⟨by decide, rfl⟩ (State_lt hs) (State_p_orders hs) ?_
      refine q_iload_n (pc := 187) dX8_copyFrom_187 rfl rfl ?_
      refine q_aald (pc := 188) dX8_copyFrom_188 (Stateorders_sh hs) (by decide) (Stateorders_lt hs) rfl hi (Stateorders_p_el hs hi) ?_
      refine q_aload_n (pc := 189) dX8_copyFrom_189 rfl rfl ?_
      refine q_getP (pc := 190) dX8_copyFrom_190 fX8_64 (State_sh ho) ⟨by decide, rfl⟩ (State_lt ho) (State_p_orders ho) ?_
      refine q_iload_n (pc := 193) dX8_copyFrom_193 rfl rfl ?_
      refine q_aald (pc := 194) dX8_copyFrom_194 (Stateorders_sh ho) (by decide) (Stateorders_lt ho) rfl hi (Stateorders_p_el ho hi) ?_
      refine q_callVF (pc := 195) dX8_copyFrom_195 kX8_101 (c_X4_copyFrom (Stateorders_s_el hs hi) (Stateorders_s_el ho hi)) (Order_sh (Stateorders_s_el hs hi)) rfl (Order_lt (Stateorders_s_el hs hi)) ⟨Nat.le_of_ble_eq_true rfl, Nat.le_of_ble_eq_true rfl⟩ rfl rfl (Nat.le_of_ble_eq_true rfl) ?_
      show bq_W _ _ _ _ _ 198 _ [] _ _ _ _ _ _
      refine q_iinc (pc := 198) (v := nI (i + 1)) dX8_copyFrom_198 rfl (bq_inc _) (Nat.le_of_ble_eq_true rfl) rfl ?_
      show bq_W _ _ _ _ _ 201 [_, _, _] _ _ _ _ _ _ _
      refine q_goto (pc := 201) 177 dX8_copyFrom_201 (by decide) ?_
      exact ih
  have l2 : ∀ i, i ≤ 10 → bq_W mX8_copyFrom 4 102 0 0 140 [some (.ref s), some (.ref o), some (.int (nI i))] [] S n (st_r (st_10 I s o) s o i) L P (bq_F (none) S n (st_cpI I s o) (st_cpL L s o) P) := by
    refine bq_down (A := fun i => bq_W mX8_copyFrom 4 102 0 0 140 [some (.ref s), some (.ref o), some (.int (nI i))] [] S n (st_r (st_10 I s o) s o i) L P (bq_F (none) S n (st_cpI I s o) (st_cpL L s o) P)) 10 ?_ ?_
    · refine q_iload_n (pc := 140) dX8_copyFrom_140 rfl rfl ?_
      refine q_bipush (pc := 141) (v := nI 10) dX8_copyFrom_141 (by decide) ?_
      refine q_icmp_ge (pc := 143) 167 dX8_copyFrom_143 (by decide) (fun c_143 => ?_) (fun c_143 => absurd (by decide) c_143)
      refine q_aload_n (pc := 167) dX8_copyFrom_167 rfl rfl ?_
      refine q_aload_n (pc := 168) dX8_copyFrom_168 rfl rfl ?_
      refine q_getI (pc := 169) dX8_copyFrom_169 fX8_59 (State_sh ho) ⟨by decide, rfl⟩ (State_lt ho) ?_
      refine q_putI (pc := 172) dX8_copyFrom_172 (pX8_59 _) (State_sh hs) ⟨by decide, rfl⟩ (State_lt hs) ?_
      refine q_iconst (pc := 175) (v := nI 0) dX8_copyFrom_175 (by decide) ?_
      refine q_istore_n (pc := 176) dX8_copyFrom_176 rfl (Nat.le_of_ble_eq_true rfl) rfl ?_
      show bq_W _ _ _ _ _ 177 [_, _, _] _ _ _ _ _ _ _
      exact l3 0 (by decide)
    · intro i hi ih
      refine q_iload_n (pc := 140) dX8_copyFrom_140 rfl rfl ?_
      refine q_bipush (pc := 141) (v := nI 10) dX8_copyFrom_141 (by decide) ?_
      refine q_icmp_ge (pc := 143) 167 dX8_copyFrom_143 (by decide) (fun c_143 => absurd c_143 (nI_ge hi (by decide))) (fun c_143 => ?_)
      refine q_aload_n (pc := 146) dX8_copyFrom_146 rfl rfl ?_
      refine q_getP (pc := 147) dX8_copyFrom_147 fX8_55 (State_sh hs) ⟨by decide, rfl⟩ (State_lt hs) (State_p_rates hs) ?_
      refine q_iload_n (pc := 150) dX8_copyFrom_150 rfl rfl ?_
      refine q_aald (pc := 151) dX8_copyFrom_151 (Staterates_sh hs) (by decide) (Staterates_lt hs) rfl hi (Staterates_p_el hs hi) ?_
      refine q_aload_n (pc := 152) dX8_copyFrom_152 rfl rfl ?_
      refine q_getP (pc := 153) dX8_copyFrom_153 fX8_55 (State_sh ho) ⟨by decide, rfl⟩ (State_lt ho) (State_p_rates ho) ?_
      refine q_iload_n (pc := 156) dX8_copyFrom_156 rfl rfl ?_
      refine q_aald (pc := 157) dX8_copyFrom_157 (Staterates_sh ho) (by decide) (Staterates_lt ho) rfl hi (Staterates_p_el ho hi) ?_
      refine q_callVF (pc := 158) dX8_copyFrom_158 kX8_98 (c_X7_copyFrom (Staterates_s_el hs hi) (Staterates_s_el ho hi)) (Rate_sh (Staterates_s_el hs hi)) rfl (Rate_lt (Staterates_s_el hs hi)) ⟨Nat.le_of_ble_eq_true rfl, Nat.le_of_ble_eq_true rfl⟩ rfl rfl (Nat.le_of_ble_eq_true rfl) ?_
      show bq_W _ _ _ _ _ 161 _ [] _ _ _ _ _ _
      refine q_iinc (pc := 161) (v := nI (i + 1)) dX8_copyFrom_161 rfl (bq_inc _) (Nat.le_of_ble_eq_true rfl) rfl ?_
      show bq_W _ _ _ _ _ 164 [_, _, _] _ _ _ _ _ _ _
      refine q_goto (pc := 164) 140 dX8_copyFrom_164 (by decide) ?_
      exact ih
  have l1 : ∀ i, i ≤ 6 → bq_W mX8_copyFrom 4 102 0 0 18 [some (.ref s), some (.ref o), some (.int (nI i))] [] S n (st_t (st_1 I s o) s o i) L P (bq_F (none) S n (st_cpI I s o) (st_cpL L s o) P) := by
    refine bq_down (A := fun i => bq_W mX8_copyFrom 4 102 0 0 18 [some (.ref s), some (.ref o), some (.int (nI i))] [] S n (st_t (st_1 I s o) s o i) L P (bq_F (none) S n (st_cpI I s o) (st_cpL L s o) P)) 6 ?_ ?_
    · refine q_iload_n (pc := 18) dX8_copyFrom_18 rfl rfl ?_
      refine q_bipush (pc := 19) (v := nI 6) dX8_copyFrom_19 (by decide) ?_
      refine q_icmp_ge (pc := 21) 45 dX8_copyFrom_21 (by decide) (fun c_21 => ?_) (fun c_21 => absurd (by decide) c_21)
      refine q_aload_n (pc := 45) dX8_copyFrom_45 rfl rfl ?_
      refine q_aload_n (pc := 46) dX8_copyFrom_46 rfl rfl ?_
      refine q_getI (pc := 47) dX8_copyFrom_47 fX8_24 (State_sh ho) ⟨by decide, rfl⟩ (State_lt ho) ?_
      refine q_putI (pc := 50) dX8_copyFrom_50 (pX8_24 _) (State_sh hs) ⟨by decide, rfl⟩ (State_lt hs) ?_
      refine q_aload_n (pc := 53) dX8_copyFrom_53 rfl rfl ?_
      refine q_getP (pc := 54) dX8_copyFrom_54 fX8_27 (State_sh ho) ⟨by decide, rfl⟩ (State_lt ho) (State_p_strengths ho) ?_
      refine q_iconst (pc := 57) (v := nI 0) dX8_copyFrom_57 (by decide) ?_
      refine q_aload_n (pc := 58) dX8_copyFrom_58 rfl rfl ?_
      refine q_getP (pc := 59) dX8_copyFrom_59 fX8_27 (State_sh hs) ⟨by decide, rfl⟩ (State_lt hs) (State_p_strengths hs) ?_
      refine q_iconst (pc := 62) (v := nI 0) dX8_copyFrom_62 (by decide) ?_
      refine q_bipush (pc := 63) (v := nI 16) dX8_copyFrom_63 (by decide) ?_
      refine q_copy (pc := 65) dX8_copyFrom_65 kX8_89 (oA_sh (State_s_strengths ho)) (oA_sh (State_s_strengths hs)) (oA_lt (State_s_strengths ho)) (oA_lt (State_s_strengths hs)) (by decide) (by decide) ⟨Nat.le_of_ble_eq_true rfl, Nat.le_of_ble_eq_true rfl⟩ ?_
      refine q_aload_n (pc := 68) dX8_copyFrom_68 rfl rfl ?_
      refine q_getP (pc := 69) dX8_copyFrom_69 fX8_31 (State_sh ho) ⟨by decide, rfl⟩ (State_lt ho) (State_p_brewDays ho) ?_
      refine q_iconst (pc := 72) (v := nI 0) dX8_copyFrom_72 (by decide) ?_
      refine q_aload_n (pc := 73) dX8_copyFrom_73 rfl rfl ?_
      refine q_getP (pc := 74) dX8_copyFrom_74 fX8_31 (State_sh hs) ⟨by decide, rfl⟩ (State_lt hs) (State_p_brewDays hs) ?_
      refine q_iconst (pc := 77) (v := nI 0) dX8_copyFrom_77 (by decide) ?_
      refine q_bipush (pc := 78) (v := nI 16) dX8_copyFrom_78 (by decide) ?_
      refine q_copy (pc := 80) dX8_copyFrom_80 kX8_89 (oA_sh (State_s_brewDays ho)) (oA_sh (State_s_brewDays hs)) (oA_lt (State_s_brewDays ho)) (oA_lt (State_s_brewDays hs)) (by decide) (by decide) ⟨Nat.le_of_ble_eq_true rfl, Nat.le_of_ble_eq_true rfl⟩ ?_
      refine q_aload_n (pc := 83) dX8_copyFrom_83 rfl rfl ?_
      refine q_getP (pc := 84) dX8_copyFrom_84 fX8_37 (State_sh hs) ⟨by decide, rfl⟩ (State_lt hs) (State_p_brewed hs) ?_
      refine q_aload_n (pc := 87) dX8_copyFrom_87 rfl rfl ?_
      refine q_getP (pc := 88) dX8_copyFrom_88 fX8_37 (State_sh ho) ⟨by decide, rfl⟩ (State_lt ho) (State_p_brewed ho) ?_
      refine q_callVF (pc := 91) dX8_copyFrom_91 kX8_95 (c_X0_copyFrom (State_s_brewed hs) (State_s_brewed ho)) (Blend_sh (State_s_brewed hs)) rfl (Blend_lt (State_s_brewed hs)) ⟨Nat.le_of_ble_eq_true rfl, Nat.le_of_ble_eq_true rfl⟩ rfl rfl (Nat.le_of_ble_eq_true rfl) ?_
      show bq_W _ _ _ _ _ 94 _ [] _ _ _ _ _ _
      refine q_aload_n (pc := 94) dX8_copyFrom_94 rfl rfl ?_
      refine q_getP (pc := 95) dX8_copyFrom_95 fX8_41 (State_sh hs) ⟨by decide, rfl⟩ (State_lt hs) (State_p_filled hs) ?_
      refine q_aload_n (pc := 98) dX8_copyFrom_98 rfl rfl ?_
      refine q_getP (pc := 99) dX8_copyFrom_99 fX8_41 (State_sh ho) ⟨by decide, rfl⟩ (State_lt ho) (State_p_filled ho) ?_
      refine q_callVF (pc := 102) dX8_copyFrom_102 kX8_95 (c_X0_copyFrom (State_s_filled hs) (State_s_filled ho)) (Blend_sh (State_s_filled hs)) rfl (Blend_lt (State_s_filled hs)) ⟨Nat.le_of_ble_eq_true rfl, Nat.le_of_ble_eq_true rfl⟩ rfl rfl (Nat.le_of_ble_eq_true rfl) ?_
      show bq_W _ _ _ _ _ 105 _ [] _ _ _ _ _ _
      refine q_aload_n (pc := 105) dX8_copyFrom_105 rfl rfl ?_
      refine q_getP (pc := 106) dX8_copyFrom_106 fX8_44 (State_sh hs) ⟨by decide, rfl⟩ (State_lt hs) (State_p_lost hs) ?_
      refine q_aload_n (pc := 109) dX8_copyFrom_109 rfl rfl ?_
      refine q_getP (pc := 110) dX8_copyFrom_110 fX8_44 (State_sh ho) ⟨by decide, rfl⟩ (State_lt ho) (State_p_lost ho) ?_
      refine q_callVF (pc := 113) dX8_copyFrom_113 kX8_95 (c_X0_copyFrom (State_s_lost hs) (State_s_lost ho)) (Blend_sh (State_s_lost hs)) rfl (Blend_lt (State_s_lost hs)) ⟨Nat.le_of_ble_eq_true rfl, Nat.le_of_ble_eq_true rfl⟩ rfl rfl (Nat.le_of_ble_eq_true rfl) ?_
      show bq_W _ _ _ _ _ 116 _ [] _ _ _ _ _ _
      refine q_aload_n (pc := 116) dX8_copyFrom_116 rfl rfl ?_
      refine q_getP (pc := 117) dX8_copyFrom_117 fX8_47 (State_sh ho) ⟨by decide, rfl⟩ (State_lt ho) (State_p_lostFor ho) ?_
      refine q_iconst (pc := 120) (v := nI 0) dX8_copyFrom_120 (by decide) ?_
      refine q_aload_n (pc := 121) dX8_copyFrom_121 rfl rfl ?_
      refine q_getP (pc := 122) dX8_copyFrom_122 fX8_47 (State_sh hs) ⟨by decide, rfl⟩ (State_lt hs) (State_p_lostFor hs) ?_
      refine q_iconst (pc := 125) (v := nI 0) dX8_copyFrom_125 (by decide) ?_
      refine q_iconst (pc := 126) (v := nI 4) dX8_copyFrom_126 (by decide) ?_
      refine q_copy (pc := 127) dX8_copyFrom_127 kX8_89 (oA_sh (State_s_lostFor ho)) (oA_sh (State_s_lostFor hs)) (oA_lt (State_s_lostFor ho)) (oA_lt (State_s_lostFor hs)) (by decide) (by decide) ⟨Nat.le_of_ble_eq_true rfl, Nat.le_of_ble_eq_true rfl⟩ ?_
      refine q_aload_n (pc := 130) dX8_copyFrom_130 rfl rfl ?_
      refine q_aload_n (pc := 131) dX8_copyFrom_131 rfl rfl ?_
      refine q_getI (pc := 132) dX8_copyFrom_132 fX8_50 (State_sh ho) ⟨by decide, rfl⟩ (State_lt ho) ?_
      refine q_putI (pc := 135) dX8_copyFrom_135 (pX8_50 _) (State_sh hs) ⟨by decide, rfl⟩ (State_lt hs) ?_
      refine q_iconst (pc := 138) (v := nI 0) dX8_copyFrom_138 (by decide) ?_
      refine q_istore_n (pc := 139) dX8_copyFrom_139 rfl (Nat.le_of_ble_eq_true rfl) rfl ?_
      show bq_W _ _ _ _ _ 140 [_, _, _] _ _ _ _ _ _ _
      exact l2 0 (by decide)
    · intro i hi ih
      refine q_iload_n (pc := 18) dX8_copyFrom_18 rfl rfl ?_
      refine q_bipush (pc := 19) (v := nI 6) dX8_copyFrom_19 (by decide) ?_
      refine q_icmp_ge (pc := 21) 45 dX8_copyFrom_21 (by decide) (fun c_21 => absurd c_21 (nI_ge hi (by decide))) (fun c_21 => ?_)
      refine q_aload_n (pc := 24) dX8_copyFrom_24 rfl rfl ?_
      refine q_getP (pc := 25) dX8_copyFrom_25 fX8_20 (State_sh hs) ⟨by decide, rfl⟩ (State_lt hs) (State_p_tanks hs) ?_
      refine q_iload_n (pc := 28) dX8_copyFrom_28 rfl rfl ?_
      refine q_aald (pc := 29) dX8_copyFrom_29 (Statetanks_sh hs) (by decide) (Statetanks_lt hs) rfl hi (Statetanks_p_el hs hi) ?_
      refine q_aload_n (pc := 30) dX8_copyFrom_30 rfl rfl ?_
      refine q_getP (pc := 31) dX8_copyFrom_31 fX8_20 (State_sh ho) ⟨by decide, rfl⟩ (State_lt ho) (State_p_tanks ho) ?_
      refine q_iload_n (pc := 34) dX8_copyFrom_34 rfl rfl ?_
      refine q_aald (pc := 35) dX8_copyFrom_35 (Statetanks_sh ho) (by decide) (Statetanks_lt ho) rfl hi (Statetanks_p_el ho hi) ?_
      refine q_callVF (pc := 36) dX8_copyFrom_36 kX8_85 (c_X9_copyFrom (Statetanks_s_el hs hi) (Statetanks_s_el ho hi)) (Tank_sh (Statetanks_s_el hs hi)) rfl (Tank_lt (Statetanks_s_el hs hi)) ⟨Nat.le_of_ble_eq_true rfl, Nat.le_of_ble_eq_true rfl⟩ rfl rfl (Nat.le_of_ble_eq_true rfl) ?_
      show bq_W _ _ _ _ _ 39 _ [] _ _ _ _ _ _
      refine q_iinc (pc := 39) (v := nI (i + 1)) dX8_copyFrom_39 rfl (bq_inc _) (Nat.le_of_ble_eq_true rfl) rfl ?_
      show bq_W _ _ _ _ _ 42 [_, _, _] _ _ _ _ _ _ _
      refine q_goto (pc := 42) 18 dX8_copyFrom_42 (by decide) ?_
      exact ih
  refine q_aload_n (pc := 0) dX8_copyFrom_0 rfl rfl ?_
  refine q_aload_n (pc := 1) dX8_copyFrom_1 rfl rfl ?_
  refine q_getI (pc := 2) dX8_copyFrom_2 fX8_9 (State_sh ho) ⟨by decide, rfl⟩ (State_lt ho) ?_
  refine q_putI (pc := 5) dX8_copyFrom_5 (pX8_9 _) (State_sh hs) ⟨by decide, rfl⟩ (State_lt hs) ?_
  refine q_aload_n (pc := 8) dX8_copyFrom_8 rfl rfl ?_
  refine q_aload_n (pc := 9) dX8_copyFrom_9 rfl rfl ?_
  refine q_getI (pc := 10) dX8_copyFrom_10 fX8_15 (State_sh ho) ⟨by decide, rfl⟩ (State_lt ho) ?_
  refine q_putI (pc := 13) dX8_copyFrom_13 (pX8_15 _) (State_sh hs) ⟨by decide, rfl⟩ (State_lt hs) ?_
  refine q_iconst (pc := 16) (v := nI 0) dX8_copyFrom_16 (by decide) ?_
  refine q_istore_n (pc := 17) dX8_copyFrom_17 rfl (Nat.le_of_ble_eq_true rfl) rfl ?_
  show bq_W _ _ _ _ _ 18 [_, _, _] _ _ _ _ _ _ _
  exact l1 0 (by decide)
set_option maxHeartbeats 400000 in
set_option maxRecDepth 20000 in
theorem c_tankAt {S : BqH} {n : Nat} {I : BqI} {L : BqL} {P : BqP} {s t : Nat} (hs : oState S n P s) (ht : t < 6) : bq_Sp mX8_tankAt 2 34 0 0 [.ref s, .int (nI t)] S n I L P (bq_F (some (.ref (s + 15 + 3 * t))) S n I L P) := by
  refine q_entry (vs := [some (.ref s), some (.int (nI t))]) (by decide +kernel) (by simp) (Nat.le_of_ble_eq_true rfl) rfl ?_
  refine q_iload_n (pc := 0) dX8_tankAt_0 rfl rfl ?_
  refine q_iconst (pc := 1) (v := nI 0) dX8_tankAt_1 (by decide) ?_
  refine q_iconst (pc := 2) (v := nI 5) dX8_tankAt_2 (by decide) ?_
  refine q_callTF (pc := 3) dX8_tankAt_3 kX8_107 c_X11_outside ⟨Nat.le_of_ble_eq_true rfl, Nat.le_of_ble_eq_true rfl⟩ rfl rfl (Nat.le_of_ble_eq_true rfl) ?_
  show bq_W _ _ _ _ _ 6 _ [_] _ _ _ _ _ _
  refine q_if_eq (pc := 6) 13 dX8_tankAt_6 (by decide) (fun c_6 => ?_) (fun c_6 => absurd (bq_bn.mp c_6) (bq_tin ht (by decide)))
  refine q_aload_n (pc := 13) dX8_tankAt_13 rfl rfl ?_
  refine q_getP (pc := 14) dX8_tankAt_14 fX8_20 (State_sh hs) ⟨by decide, rfl⟩ (State_lt hs) (State_p_tanks hs) ?_
  refine q_iload_n (pc := 17) dX8_tankAt_17 rfl rfl ?_
  refine q_aald (pc := 18) dX8_tankAt_18 (Statetanks_sh hs) (by decide) (Statetanks_lt hs) rfl ht (Statetanks_p_el hs ht) ?_
  exact q_aret (st := []) (pc := 19) dX8_tankAt_19 rfl ⟨rfl, rfl, rfl, rfl, rfl, rfl⟩
set_option maxHeartbeats 400000 in
set_option maxRecDepth 20000 in
theorem c_tankAt0 {S : BqH} {n : Nat} {I : BqI} {L : BqL} {P : BqP} {s : Nat} {x : Int32} (hs : oState S n P s) (hx : x < nI 0 ∨ ¬ x ≤ nI 5) : bq_Sp mX8_tankAt 2 34 0 0 [.ref s, .int x] S n I L P (bq_F (some .null) S n I L P) := by
  refine q_entry (vs := [some (.ref s), some (.int x)]) (by decide +kernel) (by simp) (Nat.le_of_ble_eq_true rfl) rfl ?_
  refine q_iload_n (pc := 0) dX8_tankAt_0 rfl rfl ?_
  refine q_iconst (pc := 1) (v := nI 0) dX8_tankAt_1 (by decide) ?_
  refine q_iconst (pc := 2) (v := nI 5) dX8_tankAt_2 (by decide) ?_
  refine q_callTF (pc := 3) dX8_tankAt_3 kX8_107 c_X11_outside ⟨Nat.le_of_ble_eq_true rfl, Nat.le_of_ble_eq_true rfl⟩ rfl rfl (Nat.le_of_ble_eq_true rfl) ?_
  show bq_W _ _ _ _ _ 6 _ [_] _ _ _ _ _ _
  refine q_if_eq (pc := 6) 13 dX8_tankAt_6 (by decide) (fun c_6 => absurd hx (bq_b0.mp c_6)) (fun c_6 => ?_)
  refine q_null (pc := 9) dX8_tankAt_9 ?_
  refine q_goto (pc := 10) 19 dX8_tankAt_10 (by decide) ?_
  exact q_aretN (st := []) (pc := 19) dX8_tankAt_19 rfl ⟨rfl, rfl, rfl, rfl, rfl, rfl⟩
set_option maxHeartbeats 400000 in
set_option maxRecDepth 20000 in
theorem c_orderAt {S : BqH} {n : Nat} {I : BqI} {L : BqL} {P : BqP} {s d oc : Nat} (hs : oState S n P s) (hc : I s 12 = nI oc) (hd : d < oc) (hoc : oc ≤ 10) : bq_Sp mX8_orderAt 1 12 0 0 [.ref s, .int (nI d)] S n I L P (bq_F (some (.ref (s + 43 + d))) S n I L P) := by
  refine q_entry (vs := [some (.ref s), some (.int (nI d))]) (by decide +kernel) (by simp) (Nat.le_of_ble_eq_true rfl) rfl ?_
  refine q_iload_n (pc := 0) dX8_orderAt_0 rfl rfl ?_
  refine q_if_lt (pc := 1) 18 dX8_orderAt_1 (by decide) (fun c_1 => absurd c_1 (nI_pos (by omega))) (fun c_1 => ?_)
  refine q_iload_n (pc := 4) dX8_orderAt_4 rfl rfl ?_
  refine q_aload_n (pc := 5) dX8_orderAt_5 rfl rfl ?_
  refine q_getI (pc := 6) dX8_orderAt_6 fX8_59 (State_sh hs) ⟨by decide, rfl⟩ (State_lt hs) ?_
  rw [hc]
  refine q_icmp_ge (pc := 9) 18 dX8_orderAt_9 (by decide) (fun c_9 => absurd c_9 (nI_ge hd (by omega))) (fun c_9 => ?_)
  refine q_iload_n (pc := 12) dX8_orderAt_12 rfl rfl ?_
  refine q_bipush (pc := 13) (v := nI 10) dX8_orderAt_13 (by decide) ?_
  refine q_icmp_lt (pc := 15) 22 dX8_orderAt_15 (by decide) (fun c_15 => ?_) (fun c_15 => absurd (nI_lt (show d < 10 by omega) (by decide)) c_15)
  refine q_aload_n (pc := 22) dX8_orderAt_22 rfl rfl ?_
  refine q_getP (pc := 23) dX8_orderAt_23 fX8_64 (State_sh hs) ⟨by decide, rfl⟩ (State_lt hs) (State_p_orders hs) ?_
  refine q_iload_n (pc := 26) dX8_orderAt_26 rfl rfl ?_
  refine q_aald (pc := 27) dX8_orderAt_27 (Stateorders_sh hs) (by decide) (Stateorders_lt hs) rfl (Nat.lt_of_lt_of_le hd hoc) (Stateorders_p_el hs (Nat.lt_of_lt_of_le hd hoc)) ?_
  exact q_aret (st := []) (pc := 28) dX8_orderAt_28 rfl ⟨rfl, rfl, rfl, rfl, rfl, rfl⟩
set_option maxHeartbeats 400000 in
set_option maxRecDepth 20000 in
theorem c_orderAt0 {S : BqH} {n : Nat} {I : BqI} {L : BqL} {P : BqP} {s : Nat} {x : Int32} (hs : oState S n P s) (hx : x < 0 ∨ I s 12 ≤ x ∨ nI 10 ≤ x) : bq_Sp mX8_orderAt 1 12 0 0 [.ref s, .int x] S n I L P (bq_F (some .null) S n I L P) := by
  refine q_entry (vs := [some (.ref s), some (.int x)]) (by decide +kernel) (by simp) (Nat.le_of_ble_eq_true rfl) rfl ?_
  refine q_iload_n (pc := 0) dX8_orderAt_0 rfl rfl ?_
  refine q_if_lt (pc := 1) 18 dX8_orderAt_1 (by decide) (fun c_1 => ?_) (fun c_1 => ?_)
  · refine q_null (pc := 18) dX8_orderAt_18 ?_
    refine q_goto (pc := 19) 28 dX8_orderAt_19 (by decide) ?_
    exact q_aretN (st := []) (pc := 28) dX8_orderAt_28 rfl ⟨rfl, rfl, rfl, rfl, rfl, rfl⟩
  · refine q_iload_n (pc := 4) dX8_orderAt_4 rfl rfl ?_
    refine q_aload_n (pc := 5) dX8_orderAt_5 rfl rfl ?_
    refine q_getI (pc := 6) dX8_orderAt_6 fX8_59 (State_sh hs) ⟨by decide, rfl⟩ (State_lt hs) ?_
    refine q_icmp_ge (pc := 9) 18 dX8_orderAt_9 (by decide) (fun c_9 => ?_) (fun c_9 => ?_)
    · refine q_null (pc := 18) dX8_orderAt_18 ?_
      refine q_goto (pc := 19) 28 dX8_orderAt_19 (by decide) ?_
      exact q_aretN (st := []) (pc := 28) dX8_orderAt_28 rfl ⟨rfl, rfl, rfl, rfl, rfl, rfl⟩
    · refine q_iload_n (pc := 12) dX8_orderAt_12 rfl rfl ?_
      refine q_bipush (pc := 13) (v := nI 10) dX8_orderAt_13 (by decide) ?_
      refine q_icmp_lt (pc := 15) 22 dX8_orderAt_15 (by decide) (fun c_15 => ?_) (fun c_15 => ?_)
      · exact absurd hx (by rintro (h | h | h); exact c_1 h; exact c_9 h; exact absurd c_15 (Int32.not_lt.mpr h))
      · refine q_null (pc := 18) dX8_orderAt_18 ?_
        refine q_goto (pc := 19) 28 dX8_orderAt_19 (by decide) ?_
        exact q_aretN (st := []) (pc := 28) dX8_orderAt_28 rfl ⟨rfl, rfl, rfl, rfl, rfl, rfl⟩
set_option maxHeartbeats 400000 in
set_option maxRecDepth 20000 in
theorem c_X8_note {S : BqH} {n : Nat} {I : BqI} {L : BqL} {P : BqP} {s m : Nat} {x1 x2 x3 : Int32} (hs : oState S n P s) (hm : I (s + 13) 0 = nI m) (hb : m < 2 ^ 30) : bq_Sp mX8_note 2 37 0 0 [.ref s, .int x1, .int x2, .int x3] S n I L P (bq_F (none) S n (jw_I I (s + 13) m (I s 0) x1 x2 x3) L P) := by
  refine q_entry (vs := [some (.ref s), some (.int x1), some (.int x2), some (.int x3)]) (by decide +kernel) (by simp) (Nat.le_of_ble_eq_true rfl) rfl ?_
  refine q_aload_n (pc := 0) dX8_note_0 rfl rfl ?_
  refine q_getP (pc := 1) dX8_note_1 fX8_78 (State_sh hs) ⟨by decide, rfl⟩ (State_lt hs) (State_p_journal hs) ?_
  refine q_aload_n (pc := 4) dX8_note_4 rfl rfl ?_
  refine q_getI (pc := 5) dX8_note_5 fX8_9 (State_sh hs) ⟨by decide, rfl⟩ (State_lt hs) ?_
  refine q_iload_n (pc := 8) dX8_note_8 rfl rfl ?_
  refine q_iload_n (pc := 9) dX8_note_9 rfl rfl ?_
  refine q_iload_n (pc := 10) dX8_note_10 rfl rfl ?_
  refine q_callVF (pc := 11) dX8_note_11 kX8_111 (c_X2_write (State_s_journal hs) hm hb) (Journal_sh (State_s_journal hs)) rfl (Journal_lt (State_s_journal hs)) ⟨Nat.le_of_ble_eq_true rfl, Nat.le_of_ble_eq_true rfl⟩ rfl rfl (Nat.le_of_ble_eq_true rfl) ?_
  show bq_W _ _ _ _ _ 14 _ [] _ _ _ _ _ _
  exact q_vret (st := []) (pc := 14) dX8_note_14 rfl ⟨rfl, rfl, rfl, rfl, rfl, rfl⟩
set_option maxHeartbeats 400000 in
set_option maxRecDepth 20000 in
theorem c_X8_addBatch {S : BqH} {n : Nat} {I : BqI} {L : BqL} {P : BqP} {s b : Nat} {x y : Int32} (hs : oState S n P s) (hb : I s 3 = nI b) (hl : b < 16) : bq_Sp mX8_addBatch 1 12 0 0 [.ref s, .int x, .int y] S n I L P (bq_F (some (.int (nI b))) S n (ab_I I s b x y) L P) := by
  refine q_entry (vs := [some (.ref s), some (.int x), some (.int y), none]) (by decide +kernel) (by simp) (Nat.le_of_ble_eq_true rfl) rfl ?_
  refine q_aload_n (pc := 0) dX8_addBatch_0 rfl rfl ?_
  refine q_getI (pc := 1) dX8_addBatch_1 fX8_24 (State_sh hs) ⟨by decide, rfl⟩ (State_lt hs) ?_
  rw [hb]
  refine q_istore_n (pc := 4) dX8_addBatch_4 rfl (Nat.le_of_ble_eq_true rfl) rfl ?_
  show bq_W _ _ _ _ _ 5 [_, _, _, _] _ _ _ _ _ _ _
  refine q_aload_n (pc := 5) dX8_addBatch_5 rfl rfl ?_
  refine q_getP (pc := 6) dX8_addBatch_6 fX8_27 (State_sh hs) ⟨by decide, rfl⟩ (State_lt hs) (State_p_strengths hs) ?_
  refine q_iload_n (pc := 9) dX8_addBatch_9 rfl rfl ?_
  refine q_iload_n (pc := 10) dX8_addBatch_10 rfl rfl ?_
  refine q_iast (pc := 11) dX8_addBatch_11 (oA_sh (State_s_strengths hs)) (oA_lt (State_s_strengths hs)) rfl hl ?_
  refine q_aload_n (pc := 12) dX8_addBatch_12 rfl rfl ?_
  refine q_getP (pc := 13) dX8_addBatch_13 fX8_31 (State_sh hs) ⟨by decide, rfl⟩ (State_lt hs) (State_p_brewDays hs) ?_
  refine q_iload_n (pc := 16) dX8_addBatch_16 rfl rfl ?_
  refine q_aload_n (pc := 17) dX8_addBatch_17 rfl rfl ?_
  refine q_getI (pc := 18) dX8_addBatch_18 fX8_9 (State_sh hs) ⟨by decide, rfl⟩ (State_lt hs) ?_
  refine q_iast (pc := 21) dX8_addBatch_21 (oA_sh (State_s_brewDays hs)) (oA_lt (State_s_brewDays hs)) rfl hl ?_
  refine q_aload_n (pc := 22) dX8_addBatch_22 rfl rfl ?_
  refine q_getP (pc := 23) dX8_addBatch_23 fX8_37 (State_sh hs) ⟨by decide, rfl⟩ (State_lt hs) (State_p_brewed hs) ?_
  refine q_getP (pc := 26) dX8_addBatch_26 fX8_115 (Blend_sh (State_s_brewed hs)) ⟨by decide, rfl⟩ (Blend_lt (State_s_brewed hs)) (Blend_p_parts (State_s_brewed hs)) ?_
  refine q_iload_n (pc := 29) dX8_addBatch_29 rfl rfl ?_
  refine q_iload_n (pc := 30) dX8_addBatch_30 rfl rfl ?_
  refine q_iast (pc := 31) dX8_addBatch_31 (oA_sh (Blend_s_parts (State_s_brewed hs))) (oA_lt (Blend_s_parts (State_s_brewed hs))) rfl hl ?_
  refine q_aload_n (pc := 32) dX8_addBatch_32 rfl rfl ?_
  refine q_dup (pc := 33) dX8_addBatch_33 rfl ?_
  refine q_getI (pc := 34) dX8_addBatch_34 fX8_24 (State_sh hs) ⟨by decide, rfl⟩ (State_lt hs) ?_
  refine q_iconst (pc := 37) (v := nI 1) dX8_addBatch_37 (by decide) ?_
  refine q_iadd (pc := 38) dX8_addBatch_38 ?_
  refine q_putI (pc := 39) dX8_addBatch_39 (pX8_24 _) (State_sh hs) ⟨by decide, rfl⟩ (State_lt hs) ?_
  refine q_iload_n (pc := 42) dX8_addBatch_42 rfl rfl ?_
  exact q_iret (st := []) (pc := 43) dX8_addBatch_43 rfl ⟨rfl, rfl, rfl, rfl, rfl, rfl⟩
set_option maxHeartbeats 400000 in
set_option maxRecDepth 20000 in
theorem c_X8_writeOff {S : BqH} {n : Nat} {I : BqI} {L : BqL} {P : BqP} {s o r m : Nat} {x y : Int32} (hs : oState S n P s) (ho : oBlend S n P o) (hr : r < 4) (hm : bq_u (bl_add I (s + 8 + 1) (o + 1) 16) (s + 10) r (bl_add I (s + 8 + 1) (o + 1) 16 (s + 10) r + y) (s + 13) 0 = nI m) (hb : m < 2 ^ 30) : bq_Sp mX8_writeOff 3 60 0 0 [.ref s, .int x, .ref o, .int y, .int (nI r)] S n I L P (bq_F (none) S n (wo_I I s o m x y r) L P) := by
  refine q_entry (vs := [some (.ref s), some (.int x), some (.ref o), some (.int y), some (.int (nI r))]) (by decide +kernel) (by simp) (Nat.le_of_ble_eq_true rfl) rfl ?_
  refine q_aload_n (pc := 0) dX8_writeOff_0 rfl rfl ?_
  refine q_getP (pc := 1) dX8_writeOff_1 fX8_44 (State_sh hs) ⟨by decide, rfl⟩ (State_lt hs) (State_p_lost hs) ?_
  refine q_aload_n (pc := 4) dX8_writeOff_4 rfl rfl ?_
  refine q_callVF (pc := 5) dX8_writeOff_5 kX8_118 (c_X0_add (State_s_lost hs) ho) (Blend_sh (State_s_lost hs)) rfl (Blend_lt (State_s_lost hs)) ⟨Nat.le_of_ble_eq_true rfl, Nat.le_of_ble_eq_true rfl⟩ rfl rfl (Nat.le_of_ble_eq_true rfl) ?_
  show bq_W _ _ _ _ _ 8 _ [] _ _ _ _ _ _
  refine q_aload_n (pc := 8) dX8_writeOff_8 rfl rfl ?_
  refine q_getP (pc := 9) dX8_writeOff_9 fX8_47 (State_sh hs) ⟨by decide, rfl⟩ (State_lt hs) (State_p_lostFor hs) ?_
  refine q_iload (pc := 12) dX8_writeOff_12 rfl ?_
  refine q_dup2 (pc := 14) dX8_writeOff_14 rfl rfl ?_
  refine q_iald (pc := 15) dX8_writeOff_15 (oA_sh (State_s_lostFor hs)) (oA_lt (State_s_lostFor hs)) rfl hr ?_
  refine q_iload_n (pc := 16) dX8_writeOff_16 rfl rfl ?_
  refine q_iadd (pc := 17) dX8_writeOff_17 ?_
  refine q_iast (pc := 18) dX8_writeOff_18 (oA_sh (State_s_lostFor hs)) (oA_lt (State_s_lostFor hs)) rfl hr ?_
  refine q_aload_n (pc := 19) dX8_writeOff_19 rfl rfl ?_
  refine q_iconst (pc := 20) (v := nI 3) dX8_writeOff_20 (by decide) ?_
  refine q_iload_n (pc := 21) dX8_writeOff_21 rfl rfl ?_
  refine q_iload_n (pc := 22) dX8_writeOff_22 rfl rfl ?_
  refine q_callVF (pc := 23) dX8_writeOff_23 kX8_121 (c_X8_note hs hm hb) (State_sh hs) rfl (State_lt hs) ⟨Nat.le_of_ble_eq_true rfl, Nat.le_of_ble_eq_true rfl⟩ rfl rfl (Nat.le_of_ble_eq_true rfl) ?_
  show bq_W _ _ _ _ _ 26 _ [] _ _ _ _ _ _
  exact q_vret (st := []) (pc := 26) dX8_writeOff_26 rfl ⟨rfl, rfl, rfl, rfl, rfl, rfl⟩
set_option maxHeartbeats 400000 in
set_option maxRecDepth 20000 in
theorem c_X8_inTanks {S : BqH} {n : Nat} {I : BqI} {L : BqL} {P : BqP} {s b : Nat} (hs : oState S n P s) (hb : b < 16) : bq_Sp mX8_inTanks 1 12 0 0 [.ref s, .int (nI b)] S n I L P (bq_F (some (.int (bq_sum (fun i => I (s + 15 + 3 * i + 1 + 1) b) 6))) S n I L P) := by
  refine q_entry (vs := [some (.ref s), some (.int (nI b)), none, none]) (by decide +kernel) (by simp) (Nat.le_of_ble_eq_true rfl) rfl ?_
  have lp : ∀ i, i ≤ 6 → bq_W mX8_inTanks 1 12 0 0 4 [some (.ref s), some (.int (nI b)), some (.int (bq_sum (fun i => I (s + 15 + 3 * i + 1 + 1) b) i)), some (.int (nI i))] [] S n I L P (bq_F (some (.int (bq_sum (fun i => I (s + 15 + 3 * i + 1 + 1) b) 6))) S n I L P) := by
    refine bq_down (A := fun i => bq_W mX8_inTanks 1 12 0 0 4 [some (.ref s), some (.int (nI b)), some (.int (bq_sum (fun i => I (s + 15 + 3 * i + 1 + 1) b) i)), some (.int (nI i))] [] S n I L P (bq_F (some (.int (bq_sum (fun i => I (s + 15 + 3 * i + 1 + 1) b) 6))) S n I L P)) 6 ?_ ?_
    · refine q_iload_n (pc := 4) dX8_inTanks_4 rfl rfl ?_
      refine q_bipush (pc := 5) (v := nI 6) dX8_inTanks_5 (by decide) ?_
      refine q_icmp_ge (pc := 7) 33 dX8_inTanks_7 (by decide) (fun c_7 => ?_) (fun c_7 => absurd (by decide) c_7)
      refine q_iload_n (pc := 33) dX8_inTanks_33 rfl rfl ?_
      exact q_iret (st := []) (pc := 34) dX8_inTanks_34 rfl ⟨rfl, rfl, rfl, rfl, rfl, rfl⟩
    · intro i hi ih
      refine q_iload_n (pc := 4) dX8_inTanks_4 rfl rfl ?_
      refine q_bipush (pc := 5) (v := nI 6) dX8_inTanks_5 (by decide) ?_
      refine q_icmp_ge (pc := 7) 33 dX8_inTanks_7 (by decide) (fun c_7 => absurd c_7 (nI_ge hi (by decide))) (fun c_7 => ?_)
      refine q_iload_n (pc := 10) dX8_inTanks_10 rfl rfl ?_
      refine q_aload_n (pc := 11) dX8_inTanks_11 rfl rfl ?_
      refine q_getP (pc := 12) dX8_inTanks_12 fX8_20 (State_sh hs) ⟨by decide, rfl⟩ (State_lt hs) (State_p_tanks hs) ?_
      refine q_iload_n (pc := 15) dX8_inTanks_15 rfl rfl ?_
      refine q_aald (pc := 16) dX8_inTanks_16 (Statetanks_sh hs) (by decide) (Statetanks_lt hs) rfl hi (Statetanks_p_el hs hi) ?_
      refine q_getP (pc := 17) dX8_inTanks_17 fX8_125 (Tank_sh (Statetanks_s_el hs hi)) ⟨by decide, rfl⟩ (Tank_lt (Statetanks_s_el hs hi)) (Tank_p_content (Statetanks_s_el hs hi)) ?_
      refine q_getP (pc := 20) dX8_inTanks_20 fX8_115 (Blend_sh (Tank_s_content (Statetanks_s_el hs hi))) ⟨by decide, rfl⟩ (Blend_lt (Tank_s_content (Statetanks_s_el hs hi))) (Blend_p_parts (Tank_s_content (Statetanks_s_el hs hi))) ?_
      refine q_iload_n (pc := 23) dX8_inTanks_23 rfl rfl ?_
      refine q_iald (pc := 24) dX8_inTanks_24 (oA_sh (Blend_s_parts (Tank_s_content (Statetanks_s_el hs hi)))) (oA_lt (Blend_s_parts (Tank_s_content (Statetanks_s_el hs hi)))) rfl hb ?_
      refine q_iadd (pc := 25) dX8_inTanks_25 ?_
      refine q_istore_n (pc := 26) dX8_inTanks_26 rfl (Nat.le_of_ble_eq_true rfl) rfl ?_
      show bq_W _ _ _ _ _ 27 [_, _, _, _] _ _ _ _ _ _ _
      refine q_iinc (pc := 27) (v := nI (i + 1)) dX8_inTanks_27 rfl (bq_inc _) (Nat.le_of_ble_eq_true rfl) rfl ?_
      show bq_W _ _ _ _ _ 30 [_, _, _, _] _ _ _ _ _ _ _
      refine q_goto (pc := 30) 4 dX8_inTanks_30 (by decide) ?_
      exact ih
  refine q_iconst (pc := 0) (v := nI 0) dX8_inTanks_0 (by decide) ?_
  refine q_istore_n (pc := 1) dX8_inTanks_1 rfl (Nat.le_of_ble_eq_true rfl) rfl ?_
  show bq_W _ _ _ _ _ 2 [_, _, _, _] _ _ _ _ _ _ _
  refine q_iconst (pc := 2) (v := nI 0) dX8_inTanks_2 (by decide) ?_
  refine q_istore_n (pc := 3) dX8_inTanks_3 rfl (Nat.le_of_ble_eq_true rfl) rfl ?_
  show bq_W _ _ _ _ _ 4 [_, _, _, _] _ _ _ _ _ _ _
  exact lp 0 (by decide)
set_option maxHeartbeats 400000 in
set_option maxRecDepth 20000 in
theorem c_X8_tanksWith {S : BqH} {n : Nat} {I : BqI} {L : BqL} {P : BqP} {s b : Nat} (hs : oState S n P s) (hb : b < 16) : bq_Sp mX8_tanksWith 1 12 0 0 [.ref s, .int (nI b)] S n I L P (bq_F (some (.int (bq_tw (fun i => I (s + 15 + 3 * i + 1 + 1) b) 6))) S n I L P) := by
  refine q_entry (vs := [some (.ref s), some (.int (nI b)), none, none]) (by decide +kernel) (by simp) (Nat.le_of_ble_eq_true rfl) rfl ?_
  have lp : ∀ i, i ≤ 6 → bq_W mX8_tanksWith 1 12 0 0 4 [some (.ref s), some (.int (nI b)), some (.int (bq_tw (fun i => I (s + 15 + 3 * i + 1 + 1) b) i)), some (.int (nI i))] [] S n I L P (bq_F (some (.int (bq_tw (fun i => I (s + 15 + 3 * i + 1 + 1) b) 6))) S n I L P) := by
    refine bq_down (A := fun i => bq_W mX8_tanksWith 1 12 0 0 4 [some (.ref s), some (.int (nI b)), some (.int (bq_tw (fun i => I (s + 15 + 3 * i + 1 + 1) b) i)), some (.int (nI i))] [] S n I L P (bq_F (some (.int (bq_tw (fun i => I (s + 15 + 3 * i + 1 + 1) b) 6))) S n I L P)) 6 ?_ ?_
    · refine q_iload_n (pc := 4) dX8_tanksWith_4 rfl rfl ?_
      refine q_bipush (pc := 5) (v := nI 6) dX8_tanksWith_5 (by decide) ?_
      refine q_icmp_ge (pc := 7) 39 dX8_tanksWith_7 (by decide) (fun c_7 => ?_) (fun c_7 => absurd (by decide) c_7)
      refine q_iload_n (pc := 39) dX8_tanksWith_39 rfl rfl ?_
      exact q_iret (st := []) (pc := 40) dX8_tanksWith_40 rfl ⟨rfl, rfl, rfl, rfl, rfl, rfl⟩
    · intro i hi ih
      refine q_iload_n (pc := 4) dX8_tanksWith_4 rfl rfl ?_
      refine q_bipush (pc := 5) (v := nI 6) dX8_tanksWith_5 (by decide) ?_
      refine q_icmp_ge (pc := 7) 39 dX8_tanksWith_7 (by decide) (fun c_7 => absurd c_7 (nI_ge hi (by decide))) (fun c_7 => ?_)
      refine q_aload_n (pc := 10) dX8_tanksWith_10 rfl rfl ?_
      refine q_getP (pc := 11) dX8_tanksWith_11 fX8_20 (State_sh hs) ⟨by decide, rfl⟩ (State_lt hs) (State_p_tanks hs) ?_
      refine q_iload_n (pc := 14) dX8_tanksWith_14 rfl rfl ?_
      refine q_aald (pc := 15) dX8_tanksWith_15 (Statetanks_sh hs) (by decide) (Statetanks_lt hs) rfl hi (Statetanks_p_el hs hi) ?_
      refine q_getP (pc := 16) dX8_tanksWith_16 fX8_125 (Tank_sh (Statetanks_s_el hs hi)) ⟨by decide, rfl⟩ (Tank_lt (Statetanks_s_el hs hi)) (Tank_p_content (Statetanks_s_el hs hi)) ?_
      refine q_getP (pc := 19) dX8_tanksWith_19 fX8_115 (Blend_sh (Tank_s_content (Statetanks_s_el hs hi))) ⟨by decide, rfl⟩ (Blend_lt (Tank_s_content (Statetanks_s_el hs hi))) (Blend_p_parts (Tank_s_content (Statetanks_s_el hs hi))) ?_
      refine q_iload_n (pc := 22) dX8_tanksWith_22 rfl rfl ?_
      refine q_iald (pc := 23) dX8_tanksWith_23 (oA_sh (Blend_s_parts (Tank_s_content (Statetanks_s_el hs hi)))) (oA_lt (Blend_s_parts (Tank_s_content (Statetanks_s_el hs hi)))) rfl hb ?_
      refine q_if_le (pc := 24) 33 dX8_tanksWith_24 (by decide) (fun c_24 => ?_) (fun c_24 => ?_)
      · refine q_iinc (pc := 33) (v := nI (i + 1)) dX8_tanksWith_33 rfl (bq_inc _) (Nat.le_of_ble_eq_true rfl) rfl ?_
        show bq_W _ _ _ _ _ 36 [_, _, _, _] _ _ _ _ _ _ _
        refine q_goto (pc := 36) 4 dX8_tanksWith_36 (by decide) ?_
        rw [show bq_tw (fun i => I (s + 15 + 3 * i + 1 + 1) b) (i + 1) = _ from if_pos c_24] at ih
        exact ih
      · refine q_iload_n (pc := 27) dX8_tanksWith_27 rfl rfl ?_
        refine q_iconst (pc := 28) (v := nI 1) dX8_tanksWith_28 (by decide) ?_
        refine q_iload_n (pc := 29) dX8_tanksWith_29 rfl rfl ?_
        refine q_ishl (pc := 30) dX8_tanksWith_30 ?_
        refine q_ior (pc := 31) dX8_tanksWith_31 ?_
        refine q_istore_n (pc := 32) dX8_tanksWith_32 rfl (Nat.le_of_ble_eq_true rfl) rfl ?_
        show bq_W _ _ _ _ _ 33 [_, _, _, _] _ _ _ _ _ _ _
        refine q_iinc (pc := 33) (v := nI (i + 1)) dX8_tanksWith_33 rfl (bq_inc _) (Nat.le_of_ble_eq_true rfl) rfl ?_
        show bq_W _ _ _ _ _ 36 [_, _, _, _] _ _ _ _ _ _ _
        refine q_goto (pc := 36) 4 dX8_tanksWith_36 (by decide) ?_
        rw [show bq_tw (fun i => I (s + 15 + 3 * i + 1 + 1) b) (i + 1) = _ from if_neg c_24] at ih
        exact ih
  refine q_iconst (pc := 0) (v := nI 0) dX8_tanksWith_0 (by decide) ?_
  refine q_istore_n (pc := 1) dX8_tanksWith_1 rfl (Nat.le_of_ble_eq_true rfl) rfl ?_
  show bq_W _ _ _ _ _ 2 [_, _, _, _] _ _ _ _ _ _ _
  refine q_iconst (pc := 2) (v := nI 0) dX8_tanksWith_2 (by decide) ?_
  refine q_istore_n (pc := 3) dX8_tanksWith_3 rfl (Nat.le_of_ble_eq_true rfl) rfl ?_
  show bq_W _ _ _ _ _ 4 [_, _, _, _] _ _ _ _ _ _ _
  exact lp 0 (by decide)
set_option maxHeartbeats 400000 in
set_option maxRecDepth 20000 in
theorem c_X8_litresInTanks {S : BqH} {n : Nat} {I : BqI} {L : BqL} {P : BqP} {s : Nat} (hs : oState S n P s) : bq_Sp mX8_litresInTanks 2 34 0 0 [.ref s] S n I L P (bq_F (some (.int (bq_sum (fun i => bq_sum (I (s + 15 + 3 * i + 1 + 1)) 16) 6))) S n I L P) := by
  refine q_entry (vs := [some (.ref s), none, none]) (by decide +kernel) (by simp) (Nat.le_of_ble_eq_true rfl) rfl ?_
  have lp : ∀ i, i ≤ 6 → bq_W mX8_litresInTanks 2 34 0 0 4 [some (.ref s), some (.int (bq_sum (fun i => bq_sum (I (s + 15 + 3 * i + 1 + 1)) 16) i)), some (.int (nI i))] [] S n I L P (bq_F (some (.int (bq_sum (fun i => bq_sum (I (s + 15 + 3 * i + 1 + 1)) 16) 6))) S n I L P) := by
    refine bq_down (A := fun i => bq_W mX8_litresInTanks 2 34 0 0 4 [some (.ref s), some (.int (bq_sum (fun i => bq_sum (I (s + 15 + 3 * i + 1 + 1)) 16) i)), some (.int (nI i))] [] S n I L P (bq_F (some (.int (bq_sum (fun i => bq_sum (I (s + 15 + 3 * i + 1 + 1)) 16) 6))) S n I L P)) 6 ?_ ?_
    · refine q_iload_n (pc := 4) dX8_litresInTanks_4 rfl rfl ?_
      refine q_bipush (pc := 5) (v := nI 6) dX8_litresInTanks_5 (by decide) ?_
      refine q_icmp_ge (pc := 7) 31 dX8_litresInTanks_7 (by decide) (fun c_7 => ?_) (fun c_7 => absurd (by decide) c_7)
      refine q_iload_n (pc := 31) dX8_litresInTanks_31 rfl rfl ?_
      exact q_iret (st := []) (pc := 32) dX8_litresInTanks_32 rfl ⟨rfl, rfl, rfl, rfl, rfl, rfl⟩
    · intro i hi ih
      refine q_iload_n (pc := 4) dX8_litresInTanks_4 rfl rfl ?_
      refine q_bipush (pc := 5) (v := nI 6) dX8_litresInTanks_5 (by decide) ?_
      refine q_icmp_ge (pc := 7) 31 dX8_litresInTanks_7 (by decide) (fun c_7 => absurd c_7 (nI_ge hi (by decide))) (fun c_7 => ?_)
      refine q_iload_n (pc := 10) dX8_litresInTanks_10 rfl rfl ?_
      refine q_aload_n (pc := 11) dX8_litresInTanks_11 rfl rfl ?_
      refine q_getP (pc := 12) dX8_litresInTanks_12 fX8_20 (State_sh hs) ⟨by decide, rfl⟩ (State_lt hs) (State_p_tanks hs) ?_
      refine q_iload_n (pc := 15) dX8_litresInTanks_15 rfl rfl ?_
      refine q_aald (pc := 16) dX8_litresInTanks_16 (Statetanks_sh hs) (by decide) (Statetanks_lt hs) rfl hi (Statetanks_p_el hs hi) ?_
      refine q_getP (pc := 17) dX8_litresInTanks_17 fX8_125 (Tank_sh (Statetanks_s_el hs hi)) ⟨by decide, rfl⟩ (Tank_lt (Statetanks_s_el hs hi)) (Tank_p_content (Statetanks_s_el hs hi)) ?_
      refine q_callVF (pc := 20) dX8_litresInTanks_20 kX8_128 (c_X0_total (Tank_s_content (Statetanks_s_el hs hi))) (Blend_sh (Tank_s_content (Statetanks_s_el hs hi))) rfl (Blend_lt (Tank_s_content (Statetanks_s_el hs hi))) ⟨Nat.le_of_ble_eq_true rfl, Nat.le_of_ble_eq_true rfl⟩ rfl rfl (Nat.le_of_ble_eq_true rfl) ?_
      show bq_W _ _ _ _ _ 23 _ [_, _] _ _ _ _ _ _
      refine q_iadd (pc := 23) dX8_litresInTanks_23 ?_
      refine q_istore_n (pc := 24) dX8_litresInTanks_24 rfl (Nat.le_of_ble_eq_true rfl) rfl ?_
      show bq_W _ _ _ _ _ 25 [_, _, _] _ _ _ _ _ _ _
      refine q_iinc (pc := 25) (v := nI (i + 1)) dX8_litresInTanks_25 rfl (bq_inc _) (Nat.le_of_ble_eq_true rfl) rfl ?_
      show bq_W _ _ _ _ _ 28 [_, _, _] _ _ _ _ _ _ _
      refine q_goto (pc := 28) 4 dX8_litresInTanks_28 (by decide) ?_
      exact ih
  refine q_iconst (pc := 0) (v := nI 0) dX8_litresInTanks_0 (by decide) ?_
  refine q_istore_n (pc := 1) dX8_litresInTanks_1 rfl (Nat.le_of_ble_eq_true rfl) rfl ?_
  show bq_W _ _ _ _ _ 2 [_, _, _] _ _ _ _ _ _ _
  refine q_iconst (pc := 2) (v := nI 0) dX8_litresInTanks_2 (by decide) ?_
  refine q_istore_n (pc := 3) dX8_litresInTanks_3 rfl (Nat.le_of_ble_eq_true rfl) rfl ?_
  show bq_W _ _ _ _ _ 4 [_, _, _] _ _ _ _ _ _ _
  exact lp 0 (by decide)
set_option maxHeartbeats 400000 in
set_option maxRecDepth 20000 in
theorem c_X8_alcoholInTanks {S : BqH} {n : Nat} {I : BqI} {L : BqL} {P : BqP} {s : Nat} (hs : oState S n P s) : bq_Sp mX8_alcoholInTanks 2 36 0 0 [.ref s] S n I L P (bq_F (some (.long (bq_suL (fun i => bq_alc (I (s + 15 + 3 * i + 1 + 1)) (I (s + 2)) 16) 6))) S n I L P) := by
  refine q_entry (vs := [some (.ref s), none, none, none]) (by decide +kernel) (by simp) (Nat.le_of_ble_eq_true rfl) rfl ?_
  have lp : ∀ i, i ≤ 6 → bq_W mX8_alcoholInTanks 2 36 0 0 4 [some (.ref s), some (.long (bq_suL (fun i => bq_alc (I (s + 15 + 3 * i + 1 + 1)) (I (s + 2)) 16) i)), none, some (.int (nI i))] [] S n I L P (bq_F (some (.long (bq_suL (fun i => bq_alc (I (s + 15 + 3 * i + 1 + 1)) (I (s + 2)) 16) 6))) S n I L P) := by
    refine bq_down (A := fun i => bq_W mX8_alcoholInTanks 2 36 0 0 4 [some (.ref s), some (.long (bq_suL (fun i => bq_alc (I (s + 15 + 3 * i + 1 + 1)) (I (s + 2)) 16) i)), none, some (.int (nI i))] [] S n I L P (bq_F (some (.long (bq_suL (fun i => bq_alc (I (s + 15 + 3 * i + 1 + 1)) (I (s + 2)) 16) 6))) S n I L P)) 6 ?_ ?_
    · refine q_iload_n (pc := 4) dX8_alcoholInTanks_4 rfl rfl ?_
      refine q_bipush (pc := 5) (v := nI 6) dX8_alcoholInTanks_5 (by decide) ?_
      refine q_icmp_ge (pc := 7) 35 dX8_alcoholInTanks_7 (by decide) (fun c_7 => ?_) (fun c_7 => absurd (by decide) c_7)
      refine q_lload_n (pc := 35) dX8_alcoholInTanks_35 rfl rfl ?_
      exact q_lret (st := []) (pc := 36) dX8_alcoholInTanks_36 rfl ⟨rfl, rfl, rfl, rfl, rfl, rfl⟩
    · intro i hi ih
      refine q_iload_n (pc := 4) dX8_alcoholInTanks_4 rfl rfl ?_
      refine q_bipush (pc := 5) (v := nI 6) dX8_alcoholInTanks_5 (by decide) ?_
      refine q_icmp_ge (pc := 7) 35 dX8_alcoholInTanks_7 (by decide) (fun c_7 => absurd c_7 (nI_ge hi (by decide))) (fun c_7 => ?_)
      refine q_lload_n (pc := 10) dX8_alcoholInTanks_10 rfl rfl ?_
      refine q_aload_n (pc := 11) dX8_alcoholInTanks_11 rfl rfl ?_
      refine q_getP (pc := 12) dX8_alcoholInTanks_12 fX8_20 (State_sh hs) ⟨by decide, rfl⟩ (State_lt hs) (State_p_tanks hs) ?_
      refine q_iload_n (pc := 15) dX8_alcoholInTanks_15 rfl rfl ?_
      refine q_aald (pc := 16) dX8_alcoholInTanks_16 (Statetanks_sh hs) (by decide) (Statetanks_lt hs) rfl hi (Statetanks_p_el hs hi) ?_
      refine q_getP (pc := 17) dX8_alcoholInTanks_17 fX8_125 (Tank_sh (Statetanks_s_el hs hi)) ⟨by decide, rfl⟩ (Tank_lt (Statetanks_s_el hs hi)) (Tank_p_content (Statetanks_s_el hs hi)) ?_
      refine q_aload_n (pc := 20) dX8_alcoholInTanks_20 rfl rfl ?_
      refine q_getP (pc := 21) dX8_alcoholInTanks_21 fX8_27 (State_sh hs) ⟨by decide, rfl⟩ (State_lt hs) (State_p_strengths hs) ?_
      refine q_callVF (pc := 24) dX8_alcoholInTanks_24 kX8_132 (c_X0_alcohol (Tank_s_content (Statetanks_s_el hs hi)) (State_s_strengths hs)) (Blend_sh (Tank_s_content (Statetanks_s_el hs hi))) rfl (Blend_lt (Tank_s_content (Statetanks_s_el hs hi))) ⟨Nat.le_of_ble_eq_true rfl, Nat.le_of_ble_eq_true rfl⟩ rfl rfl (Nat.le_of_ble_eq_true rfl) ?_
      show bq_W _ _ _ _ _ 27 _ [_, _] _ _ _ _ _ _
      refine q_ladd (pc := 27) dX8_alcoholInTanks_27 ?_
      refine q_lstore_n (pc := 28) dX8_alcoholInTanks_28 rfl (Nat.le_of_ble_eq_true rfl) rfl ?_
      show bq_W _ _ _ _ _ 29 [_, _, _, _] _ _ _ _ _ _ _
      refine q_iinc (pc := 29) (v := nI (i + 1)) dX8_alcoholInTanks_29 rfl (bq_inc _) (Nat.le_of_ble_eq_true rfl) rfl ?_
      show bq_W _ _ _ _ _ 32 [_, _, _, _] _ _ _ _ _ _ _
      refine q_goto (pc := 32) 4 dX8_alcoholInTanks_32 (by decide) ?_
      exact ih
  refine q_lconst (pc := 0) dX8_alcoholInTanks_0 rfl ?_
  refine q_lstore_n (pc := 1) dX8_alcoholInTanks_1 rfl (Nat.le_of_ble_eq_true rfl) rfl ?_
  show bq_W _ _ _ _ _ 2 [_, _, _, _] _ _ _ _ _ _ _
  refine q_iconst (pc := 2) (v := nI 0) dX8_alcoholInTanks_2 (by decide) ?_
  refine q_istore_n (pc := 3) dX8_alcoholInTanks_3 rfl (Nat.le_of_ble_eq_true rfl) rfl ?_
  show bq_W _ _ _ _ _ 4 [_, _, _, _] _ _ _ _ _ _ _
  exact lp 0 (by decide)
set_option maxHeartbeats 400000 in
set_option maxRecDepth 20000 in
theorem c_X8_tanksInPhase {S : BqH} {n : Nat} {I : BqI} {L : BqL} {P : BqP} {s : Nat} {x : Int32} (hs : oState S n P s) : bq_Sp mX8_tanksInPhase 1 12 0 0 [.ref s, .int x] S n I L P (bq_F (some (.int (nI (bq_ct (fun i => I (s + 15 + 3 * i) 1) x 6)))) S n I L P) := by
  refine q_entry (vs := [some (.ref s), some (.int x), none, none]) (by decide +kernel) (by simp) (Nat.le_of_ble_eq_true rfl) rfl ?_
  have lp : ∀ i, i ≤ 6 → bq_W mX8_tanksInPhase 1 12 0 0 4 [some (.ref s), some (.int x), some (.int (nI (bq_ct (fun i => I (s + 15 + 3 * i) 1) x i))), some (.int (nI i))] [] S n I L P (bq_F (some (.int (nI (bq_ct (fun i => I (s + 15 + 3 * i) 1) x 6)))) S n I L P) := by
    refine bq_down (A := fun i => bq_W mX8_tanksInPhase 1 12 0 0 4 [some (.ref s), some (.int x), some (.int (nI (bq_ct (fun i => I (s + 15 + 3 * i) 1) x i))), some (.int (nI i))] [] S n I L P (bq_F (some (.int (nI (bq_ct (fun i => I (s + 15 + 3 * i) 1) x 6)))) S n I L P)) 6 ?_ ?_
    · refine q_iload_n (pc := 4) dX8_tanksInPhase_4 rfl rfl ?_
      refine q_bipush (pc := 5) (v := nI 6) dX8_tanksInPhase_5 (by decide) ?_
      refine q_icmp_ge (pc := 7) 32 dX8_tanksInPhase_7 (by decide) (fun c_7 => ?_) (fun c_7 => absurd (by decide) c_7)
      refine q_iload_n (pc := 32) dX8_tanksInPhase_32 rfl rfl ?_
      exact q_iret (st := []) (pc := 33) dX8_tanksInPhase_33 rfl ⟨rfl, rfl, rfl, rfl, rfl, rfl⟩
    · intro i hi ih
      refine q_iload_n (pc := 4) dX8_tanksInPhase_4 rfl rfl ?_
      refine q_bipush (pc := 5) (v := nI 6) dX8_tanksInPhase_5 (by decide) ?_
      refine q_icmp_ge (pc := 7) 32 dX8_tanksInPhase_7 (by decide) (fun c_7 => absurd c_7 (nI_ge hi (by decide))) (fun c_7 => ?_)
      refine q_aload_n (pc := 10) dX8_tanksInPhase_10 rfl rfl ?_
      refine q_getP (pc := 11) dX8_tanksInPhase_11 fX8_20 (State_sh hs) ⟨by decide, rfl⟩ (State_lt hs) (State_p_tanks hs) ?_
      refine q_iload_n (pc := 14) dX8_tanksInPhase_14 rfl rfl ?_
      refine q_aald (pc := 15) dX8_tanksInPhase_15 (Statetanks_sh hs) (by decide) (Statetanks_lt hs) rfl hi (Statetanks_p_el hs hi) ?_
      refine q_getI (pc := 16) dX8_tanksInPhase_16 fX8_136 (Tank_sh (Statetanks_s_el hs hi)) ⟨by decide, rfl⟩ (Tank_lt (Statetanks_s_el hs hi)) ?_
      refine q_iload_n (pc := 19) dX8_tanksInPhase_19 rfl rfl ?_
      refine q_icmp_ne (pc := 20) 26 dX8_tanksInPhase_20 (by decide) (fun c_20 => ?_) (fun c_20 => ?_)
      · refine q_iinc (pc := 26) (v := nI (i + 1)) dX8_tanksInPhase_26 rfl (bq_inc _) (Nat.le_of_ble_eq_true rfl) rfl ?_
        show bq_W _ _ _ _ _ 29 [_, _, _, _] _ _ _ _ _ _ _
        refine q_goto (pc := 29) 4 dX8_tanksInPhase_29 (by decide) ?_
        rw [show bq_ct (fun i => I (s + 15 + 3 * i) 1) x (i + 1) = _ from if_neg c_20] at ih
        exact ih
      · refine q_iinc (pc := 23) (v := nI ((bq_ct (fun i => I (s + 15 + 3 * i) 1) x i) + 1)) dX8_tanksInPhase_23 rfl (bq_inc _) (Nat.le_of_ble_eq_true rfl) rfl ?_
        show bq_W _ _ _ _ _ 26 [_, _, _, _] _ _ _ _ _ _ _
        refine q_iinc (pc := 26) (v := nI (i + 1)) dX8_tanksInPhase_26 rfl (bq_inc _) (Nat.le_of_ble_eq_true rfl) rfl ?_
        show bq_W _ _ _ _ _ 29 [_, _, _, _] _ _ _ _ _ _ _
        refine q_goto (pc := 29) 4 dX8_tanksInPhase_29 (by decide) ?_
        rw [show bq_ct (fun i => I (s + 15 + 3 * i) 1) x (i + 1) = _ from if_pos c_20] at ih
        exact ih
  refine q_iconst (pc := 0) (v := nI 0) dX8_tanksInPhase_0 (by decide) ?_
  refine q_istore_n (pc := 1) dX8_tanksInPhase_1 rfl (Nat.le_of_ble_eq_true rfl) rfl ?_
  show bq_W _ _ _ _ _ 2 [_, _, _, _] _ _ _ _ _ _ _
  refine q_iconst (pc := 2) (v := nI 0) dX8_tanksInPhase_2 (by decide) ?_
  refine q_istore_n (pc := 3) dX8_tanksInPhase_3 rfl (Nat.le_of_ble_eq_true rfl) rfl ?_
  show bq_W _ _ _ _ _ 4 [_, _, _, _] _ _ _ _ _ _ _
  exact lp 0 (by decide)
set_option maxHeartbeats 400000 in
set_option maxRecDepth 20000 in
theorem c_X8_openOrders {S : BqH} {n : Nat} {I : BqI} {L : BqL} {P : BqP} {s oc : Nat} (hs : oState S n P s) (hc : I s 12 = nI oc) (hoc : oc ≤ 10) : bq_Sp mX8_openOrders 1 12 0 0 [.ref s] S n I L P (bq_F (some (.int (nI (bq_ct (fun i => I (s + 43 + i) 4) 0 oc)))) S n I L P) := by
  refine q_entry (vs := [some (.ref s), none, none]) (by decide +kernel) (by simp) (Nat.le_of_ble_eq_true rfl) rfl ?_
  have lp : ∀ i, i ≤ oc → bq_W mX8_openOrders 1 12 0 0 4 [some (.ref s), some (.int (nI (bq_ct (fun i => I (s + 43 + i) 4) 0 i))), some (.int (nI i))] [] S n I L P (bq_F (some (.int (nI (bq_ct (fun i => I (s + 43 + i) 4) 0 oc)))) S n I L P) := by
    refine bq_down (A := fun i => bq_W mX8_openOrders 1 12 0 0 4 [some (.ref s), some (.int (nI (bq_ct (fun i => I (s + 43 + i) 4) 0 i))), some (.int (nI i))] [] S n I L P (bq_F (some (.int (nI (bq_ct (fun i => I (s + 43 + i) 4) 0 oc)))) S n I L P)) oc ?_ ?_
    · refine q_iload_n (pc := 4) dX8_openOrders_4 rfl rfl ?_
      refine q_aload_n (pc := 5) dX8_openOrders_5 rfl rfl ?_
      refine q_getI (pc := 6) dX8_openOrders_6 fX8_59 (State_sh hs) ⟨by decide, rfl⟩ (State_lt hs) ?_
      rw [hc]
      refine q_icmp_ge (pc := 9) 39 dX8_openOrders_9 (by decide) (fun c_9 => ?_) (fun c_9 => absurd (Int32.le_refl _) c_9)
      refine q_iload_n (pc := 39) dX8_openOrders_39 rfl rfl ?_
      exact q_iret (st := []) (pc := 40) dX8_openOrders_40 rfl ⟨rfl, rfl, rfl, rfl, rfl, rfl⟩
    · intro i hi ih
      refine q_iload_n (pc := 4) dX8_openOrders_4 rfl rfl ?_
      refine q_aload_n (pc := 5) dX8_openOrders_5 rfl rfl ?_
      refine q_getI (pc := 6) dX8_openOrders_6 fX8_59 (State_sh hs) ⟨by decide, rfl⟩ (State_lt hs) ?_
      rw [hc]
      refine q_icmp_ge (pc := 9) 39 dX8_openOrders_9 (by decide) (fun c_9 => absurd c_9 (nI_ge hi (by omega))) (fun c_9 => ?_)
      refine q_iload_n (pc := 12) dX8_openOrders_12 rfl rfl ?_
      refine q_bipush (pc := 13) (v := nI 10) dX8_openOrders_13 (by decide) ?_
      refine q_icmp_ge (pc := 15) 39 dX8_openOrders_15 (by decide) (fun c_15 => absurd c_15 (nI_ge (show i < 10 by omega) (by decide))) (fun c_15 => ?_)
      refine q_aload_n (pc := 18) dX8_openOrders_18 rfl rfl ?_
      refine q_getP (pc := 19) dX8_openOrders_19 fX8_64 (State_sh hs) ⟨by decide, rfl⟩ (State_lt hs) (State_p_orders hs) ?_
      refine q_iload_n (pc := 22) dX8_openOrders_22 rfl rfl ?_
      refine q_aald (pc := 23) dX8_openOrders_23 (Stateorders_sh hs) (by decide) (Stateorders_lt hs) rfl (Nat.lt_of_lt_of_le hi hoc) (Stateorders_p_el hs (Nat.lt_of_lt_of_le hi hoc)) ?_
      refine q_getI (pc := 24) dX8_openOrders_24 fX8_139 (Order_sh (Stateorders_s_el hs (Nat.lt_of_lt_of_le hi hoc))) ⟨by decide, rfl⟩ (Order_lt (Stateorders_s_el hs (Nat.lt_of_lt_of_le hi hoc))) ?_
      refine q_if_ne (pc := 27) 33 dX8_openOrders_27 (by decide) (fun c_27 => ?_) (fun c_27 => ?_)
      · refine q_iinc (pc := 33) (v := nI (i + 1)) dX8_openOrders_33 rfl (bq_inc _) (Nat.le_of_ble_eq_true rfl) rfl ?_
        show bq_W _ _ _ _ _ 36 [_, _, _] _ _ _ _ _ _ _
        refine q_goto (pc := 36) 4 dX8_openOrders_36 (by decide) ?_
        rw [show bq_ct (fun i => I (s + 43 + i) 4) 0 (i + 1) = _ from if_neg c_27] at ih
        exact ih
      · refine q_iinc (pc := 30) (v := nI ((bq_ct (fun i => I (s + 43 + i) 4) 0 i) + 1)) dX8_openOrders_30 rfl (bq_inc _) (Nat.le_of_ble_eq_true rfl) rfl ?_
        show bq_W _ _ _ _ _ 33 [_, _, _] _ _ _ _ _ _ _
        refine q_iinc (pc := 33) (v := nI (i + 1)) dX8_openOrders_33 rfl (bq_inc _) (Nat.le_of_ble_eq_true rfl) rfl ?_
        show bq_W _ _ _ _ _ 36 [_, _, _] _ _ _ _ _ _ _
        refine q_goto (pc := 36) 4 dX8_openOrders_36 (by decide) ?_
        rw [show bq_ct (fun i => I (s + 43 + i) 4) 0 (i + 1) = _ from if_pos c_27] at ih
        exact ih
  refine q_iconst (pc := 0) (v := nI 0) dX8_openOrders_0 (by decide) ?_
  refine q_istore_n (pc := 1) dX8_openOrders_1 rfl (Nat.le_of_ble_eq_true rfl) rfl ?_
  show bq_W _ _ _ _ _ 2 [_, _, _] _ _ _ _ _ _ _
  refine q_iconst (pc := 2) (v := nI 0) dX8_openOrders_2 (by decide) ?_
  refine q_istore_n (pc := 3) dX8_openOrders_3 rfl (Nat.le_of_ble_eq_true rfl) rfl ?_
  show bq_W _ _ _ _ _ 4 [_, _, _] _ _ _ _ _ _ _
  exact lp 0 (Nat.zero_le _)
set_option maxHeartbeats 408000 in
set_option maxRecDepth 20000 in
theorem c_X8_openLitres {S : BqH} {n : Nat} {I : BqI} {L : BqL} {P : BqP} {s oc : Nat} (hs : oState S n P s) (hc : I s 12 = nI oc) (hoc : oc ≤ 10) : bq_Sp mX8_openLitres 1 12 0 0 [.ref s] S n I L P (bq_F (some (.int (bq_sc (fun i => I (s + 43 + i) 4) (fun i => I (s + 43 + i) 1) oc))) S n I L P) := by
  refine q_entry (vs := [some (.ref s), none, none]) (by decide +kernel) (by simp) (Nat.le_of_ble_eq_true rfl) rfl ?_
  have lp : ∀ i, i ≤ oc → bq_W mX8_openLitres 1 12 0 0 4 [some (.ref s), some (.int (bq_sc (fun i => I (s + 43 + i) 4) (fun i => I (s + 43 + i) 1) i)), some (.int (nI i))] [] S n I L P (bq_F (some (.int (bq_sc (fun i => I (s + 43 + i) 4) (fun i => I (s + 43 + i) 1) oc))) S n I L P) := by
    refine bq_down (A := fun i => bq_W mX8_openLitres 1 12 0 0 4 [some (.ref s), some (.int (bq_sc (fun i => I (s + 43 + i) 4) (fun i => I (s + 43 + i) 1) i)), some (.int (nI i))] [] S n I L P (bq_F (some (.int (bq_sc (fun i => I (s + 43 + i) 4) (fun i => I (s + 43 + i) 1) oc))) S n I L P)) oc ?_ ?_
    · refine q_iload_n (pc := 4) dX8_openLitres_4 rfl rfl ?_
      refine q_aload_n (pc := 5) dX8_openLitres_5 rfl rfl ?_
      refine q_getI (pc := 6) dX8_openLitres_6 fX8_59 (State_sh hs) ⟨by decide, rfl⟩ (State_lt hs) ?_
      rw [hc]
      refine q_icmp_ge (pc := 9) 48 dX8_openLitres_9 (by decide) (fun c_9 => ?_) (fun c_9 => absurd (Int32.le_refl _) c_9)
      refine q_iload_n (pc := 48) dX8_openLitres_48 rfl rfl ?_
      exact q_iret (st := []) (pc := 49) dX8_openLitres_49 rfl ⟨rfl, rfl, rfl, rfl, rfl, rfl⟩
    · intro i hi ih
      refine q_iload_n (pc := 4) dX8_openLitres_4 rfl rfl ?_
      refine q_aload_n (pc := 5) dX8_openLitres_5 rfl rfl ?_
      refine q_getI (pc := 6) dX8_openLitres_6 fX8_59 (State_sh hs) ⟨by decide, rfl⟩ (State_lt hs) ?_
      rw [hc]
      refine q_icmp_ge (pc := 9) 48 dX8_openLitres_9 (by decide) (fun c_9 => absurd c_9 (nI_ge hi (by omega))) (fun c_9 => ?_)
      refine q_iload_n (pc := 12) dX8_openLitres_12 rfl rfl ?_
      refine q_bipush (pc := 13) (v := nI 10) dX8_openLitres_13 (by decide) ?_
      refine q_icmp_ge (pc := 15) 48 dX8_openLitres_15 (by decide) (fun c_15 => absurd c_15 (nI_ge (show i < 10 by omega) (by decide))) (fun c_15 => ?_)
      refine q_aload_n (pc := 18) dX8_openLitres_18 rfl rfl ?_
      refine q_getP (pc := 19) dX8_openLitres_19 fX8_64 (State_sh hs) ⟨by decide, rfl⟩ (State_lt hs) (State_p_orders hs) ?_
      refine q_iload_n (pc := 22) dX8_openLitres_22 rfl rfl ?_
      refine q_aald (pc := 23) dX8_openLitres_23 (Stateorders_sh hs) (by decide) (Stateorders_lt hs) rfl (Nat.lt_of_lt_of_le hi hoc) (Stateorders_p_el hs (Nat.lt_of_lt_of_le hi hoc)) ?_
      refine q_getI (pc := 24) dX8_openLitres_24 fX8_139 (Order_sh (Stateorders_s_el hs (Nat.lt_of_lt_of_le hi hoc))) ⟨by decide, rfl⟩ (Order_lt (Stateorders_s_el hs (Nat.lt_of_lt_of_le hi hoc))) ?_
      refine q_if_ne (pc := 27) 42 dX8_openLitres_27 (by decide) (fun c_27 => ?_) (fun c_27 => ?_)
      · refine q_iinc (pc := 42) (v := nI (i + 1)) dX8_openLitres_42 rfl (bq_inc _) (Nat.le_of_ble_eq_true rfl) rfl ?_
        show bq_W _ _ _ _ _ 45 [_, _, _] _ _ _ _ _ _ _
        refine q_goto (pc := 45) 4 dX8_openLitres_45 (by decide) ?_
        rw [show bq_sc (fun i => I (s + 43 + i) 4) (fun i => I (s + 43 + i) 1) (i + 1) = _ from if_neg c_27] at ih
        exact ih
      · refine q_iload_n (pc := 30) dX8_openLitres_30 rfl rfl ?_
        refine q_aload_n (pc := 31) dX8_openLitres_31 rfl rfl ?_
        refine q_getP (pc := 32) dX8_openLitres_32 fX8_64 (State_sh hs) ⟨by decide, rfl⟩ (State_lt hs) (State_p_orders hs) ?_
        refine q_iload_n (pc := 35) dX8_openLitres_35 rfl rfl ?_
        refine q_aald (pc := 36) dX8_openLitres_36 (Stateorders_sh hs) (by decide) (Stateorders_lt hs) rfl (Nat.lt_of_lt_of_le hi hoc) (Stateorders_p_el hs (Nat.lt_of_lt_of_le hi hoc)) ?_
        refine q_getI (pc := 37) dX8_openLitres_37 fX8_142 (Order_sh (Stateorders_s_el hs (Nat.lt_of_lt_of_le hi hoc))) ⟨by decide, rfl⟩ (Order_lt (Stateorders_s_el hs (Nat.lt_of_lt_of_le hi hoc))) ?_
        refine q_iadd (pc := 40) dX8_openLitres_40 ?_
        refine q_istore_n (pc := 41) dX8_openLitres_41 rfl (Nat.le_of_ble_eq_true rfl) rfl ?_
        show bq_W _ _ _ _ _ 42 [_, _, _] _ _ _ _ _ _ _
        refine q_iinc (pc := 42) (v := nI (i + 1)) dX8_openLitres_42 rfl (bq_inc _) (Nat.le_of_ble_eq_true rfl) rfl ?_
        show bq_W _ _ _ _ _ 45 [_, _, _] _ _ _ _ _ _ _
        refine q_goto (pc := 45) 4 dX8_openLitres_45 (by decide) ?_
        rw [show bq_sc (fun i => I (s + 43 + i) 4) (fun i => I (s + 43 + i) 1) (i + 1) = _ from if_pos c_27] at ih
        exact ih
  refine q_iconst (pc := 0) (v := nI 0) dX8_openLitres_0 (by decide) ?_
  refine q_istore_n (pc := 1) dX8_openLitres_1 rfl (Nat.le_of_ble_eq_true rfl) rfl ?_
  show bq_W _ _ _ _ _ 2 [_, _, _] _ _ _ _ _ _ _
  refine q_iconst (pc := 2) (v := nI 0) dX8_openLitres_2 (by decide) ?_
  refine q_istore_n (pc := 3) dX8_openLitres_3 rfl (Nat.le_of_ble_eq_true rfl) rfl ?_
  show bq_W _ _ _ _ _ 4 [_, _, _] _ _ _ _ _ _ _
  exact lp 0 (Nat.zero_le _)
set_option maxHeartbeats 1272000 in
set_option maxRecDepth 20000 in
theorem c_X8_rateFor {S : BqH} {n : Nat} {I : BqI} {L : BqL} {P : BqP} {s rc : Nat} {D T : Int32} (hs : oState S n P s) (hc : I s 10 = nI rc) (hoc : rc ≤ 10) : bq_Sp mX8_rateFor 1 12 0 0 [.ref s, .int D, .int T] S n I L P (bq_F (some (.int (ri ((rfx (fun i => I (s + 33 + i) 0) (fun i => I (s + 33 + i) 1) D T) rc)))) S n I L P) := by
  refine q_entry (vs := [some (.ref s), some (.int D), some (.int T), none, none, none]) (by decide +kernel) (by simp) (Nat.le_of_ble_eq_true rfl) rfl ?_
  have lp : ∀ i, i ≤ rc → ∀ v5 : Option Value, bq_W mX8_rateFor 1 12 0 0 6 [some (.ref s), some (.int D), some (.int T), some (.int (ri ((rfx (fun i => I (s + 33 + i) 0) (fun i => I (s + 33 + i) 1) D T) i))), some (.int (nI i)), v5] [] S n I L P (bq_F (some (.int (ri ((rfx (fun i => I (s + 33 + i) 0) (fun i => I (s + 33 + i) 1) D T) rc)))) S n I L P) := by
    refine bq_down (A := fun i => ∀ v5 : Option Value, bq_W mX8_rateFor 1 12 0 0 6 [some (.ref s), some (.int D), some (.int T), some (.int (ri ((rfx (fun i => I (s + 33 + i) 0) (fun i => I (s + 33 + i) 1) D T) i))), some (.int (nI i)), v5] [] S n I L P (bq_F (some (.int (ri ((rfx (fun i => I (s + 33 + i) 0) (fun i => I (s + 33 + i) 1) D T) rc)))) S n I L P)) rc ?_ ?_
    · intro v5
      refine q_iload (pc := 6) dX8_rateFor_6 rfl ?_
      refine q_aload_n (pc := 8) dX8_rateFor_8 rfl rfl ?_
      refine q_getI (pc := 9) dX8_rateFor_9 fX8_50 (State_sh hs) ⟨by decide, rfl⟩ (State_lt hs) ?_
      rw [hc]
      refine q_icmp_ge (pc := 12) 116 dX8_rateFor_12 (by decide) (fun c_12 => ?_) (fun c_12 => absurd (Int32.le_refl _) c_12)
      refine q_iload_n (pc := 116) dX8_rateFor_116 rfl rfl ?_
      exact q_iret (st := []) (pc := 117) dX8_rateFor_117 rfl ⟨rfl, rfl, rfl, rfl, rfl, rfl⟩
    · intro i hi ih v5
      rcases hf : (rfx (fun i => I (s + 33 + i) 0) (fun i => I (s + 33 + i) 1) D T) i with _ | q
      · show bq_W _ _ _ _ _ 6 [_, _, _, some (.int (-5)), _, _] _ _ _ _ _ _ _
        refine q_iload (pc := 6) dX8_rateFor_6 rfl ?_
        refine q_aload_n (pc := 8) dX8_rateFor_8 rfl rfl ?_
        refine q_getI (pc := 9) dX8_rateFor_9 fX8_50 (State_sh hs) ⟨by decide, rfl⟩ (State_lt hs) ?_
        rw [hc]
        refine q_icmp_ge (pc := 12) 116 dX8_rateFor_12 (by decide) (fun c_12 => absurd c_12 (nI_ge hi (by omega))) (fun c_12 => ?_)
        refine q_iload (pc := 15) dX8_rateFor_15 rfl ?_
        refine q_bipush (pc := 17) (v := nI 10) dX8_rateFor_17 (by decide) ?_
        refine q_icmp_ge (pc := 19) 116 dX8_rateFor_19 (by decide) (fun c_19 => absurd c_19 (nI_ge (show i < 10 by omega) (by decide))) (fun c_19 => ?_)
        refine q_aload_n (pc := 22) dX8_rateFor_22 rfl rfl ?_
        refine q_getP (pc := 23) dX8_rateFor_23 fX8_55 (State_sh hs) ⟨by decide, rfl⟩ (State_lt hs) (State_p_rates hs) ?_
        refine q_iload (pc := 26) dX8_rateFor_26 rfl ?_
        refine q_aald (pc := 28) dX8_rateFor_28 (Staterates_sh hs) (by decide) (Staterates_lt hs) rfl (Nat.lt_of_lt_of_le hi hoc) (Staterates_p_el hs (Nat.lt_of_lt_of_le hi hoc)) ?_
        refine q_astore (pc := 29) dX8_rateFor_29 (Nat.le_of_ble_eq_true rfl) rfl ?_
        show bq_W _ _ _ _ _ 31 [_, _, _, _, _, _] _ _ _ _ _ _ _
        refine q_aload (pc := 31) dX8_rateFor_31 rfl ?_
        refine q_getI (pc := 33) dX8_rateFor_33 fX8_145 (Rate_sh (Staterates_s_el hs (Nat.lt_of_lt_of_le hi hoc))) ⟨by decide, rfl⟩ (Rate_lt (Staterates_s_el hs (Nat.lt_of_lt_of_le hi hoc))) ?_
        refine q_iload_n (pc := 36) dX8_rateFor_36 rfl rfl ?_
        refine q_icmp_gt (pc := 37) 110 dX8_rateFor_37 (by decide) (fun c_37 => ?_) (fun c_37 => ?_)
        · refine q_iinc (pc := 110) (v := nI (i + 1)) dX8_rateFor_110 rfl (bq_inc _) (Nat.le_of_ble_eq_true rfl) rfl ?_
          show bq_W _ _ _ _ _ 113 [_, _, _, _, _, _] _ _ _ _ _ _ _
          refine q_goto (pc := 113) 6 dX8_rateFor_113 (by decide) ?_
          rw [rfx_s, hf] at ih
          first | rw [rfs_1 (d := fun i => I (s + 33 + i) 0) (st := fun i => I (s + 33 + i) 1) c_37] at ih | rw [rfs_2 (d := fun i => I (s + 33 + i) 0) (st := fun i => I (s + 33 + i) 1) c_37 c_46] at ih | rw [rfs_3 (d := fun i => I (s + 33 + i) 0) (st := fun i => I (s + 33 + i) 1) c_37 c_46] at ih | rw [rfs_4 (d := fun i => I (s + 33 + i) 0) (st := fun i => I (s + 33 + i) 1) c_37 c_46 c_70] at ih | rw [rfs_5 (d := fun i => I (s + 33 + i) 0) (st := fun i => I (s + 33 + i) 1) c_37 c_46 c_70 c_87] at ih | rw [rfs_6 (d := fun i => I (s + 33 + i) 0) (st := fun i => I (s + 33 + i) 1) c_37 c_46 c_70 c_87 c_104] at ih | rw [rfs_7 (d := fun i => I (s + 33 + i) 0) (st := fun i => I (s + 33 + i) 1) c_37 c_46 c_70 c_87 c_104] at ih
          exact ih _
        · refine q_aload (pc := 40) dX8_rateFor_40 rfl ?_
          refine q_getI (pc := 42) dX8_rateFor_42 fX8_146 (Rate_sh (Staterates_s_el hs (Nat.lt_of_lt_of_le hi hoc))) ⟨by decide, rfl⟩ (Rate_lt (Staterates_s_el hs (Nat.lt_of_lt_of_le hi hoc))) ?_
          refine q_iload_n (pc := 45) dX8_rateFor_45 rfl rfl ?_
          refine q_icmp_le (pc := 46) 52 dX8_rateFor_46 (by decide) (fun c_46 => ?_) (fun c_46 => ?_)
          · refine q_iload_n (pc := 52) dX8_rateFor_52 rfl rfl ?_
            refine q_if_lt (pc := 53) 107 dX8_rateFor_53 (by decide) (fun c_53 => ?_) (fun c_53 => absurd (by decide) c_53)
            refine q_iload (pc := 107) dX8_rateFor_107 rfl ?_
            refine q_istore_n (pc := 109) dX8_rateFor_109 rfl (Nat.le_of_ble_eq_true rfl) rfl ?_
            show bq_W _ _ _ _ _ 110 [_, _, _, _, _, _] _ _ _ _ _ _ _
            refine q_iinc (pc := 110) (v := nI (i + 1)) dX8_rateFor_110 rfl (bq_inc _) (Nat.le_of_ble_eq_true rfl) rfl ?_
            show bq_W _ _ _ _ _ 113 [_, _, _, _, _, _] _ _ _ _ _ _ _
            refine q_goto (pc := 113) 6 dX8_rateFor_113 (by decide) ?_
            rw [rfx_s, hf] at ih
            first | rw [rfs_1 (d := fun i => I (s + 33 + i) 0) (st := fun i => I (s + 33 + i) 1) c_37] at ih | rw [rfs_2 (d := fun i => I (s + 33 + i) 0) (st := fun i => I (s + 33 + i) 1) c_37 c_46] at ih | rw [rfs_3 (d := fun i => I (s + 33 + i) 0) (st := fun i => I (s + 33 + i) 1) c_37 c_46] at ih | rw [rfs_4 (d := fun i => I (s + 33 + i) 0) (st := fun i => I (s + 33 + i) 1) c_37 c_46 c_70] at ih | rw [rfs_5 (d := fun i => I (s + 33 + i) 0) (st := fun i => I (s + 33 + i) 1) c_37 c_46 c_70 c_87] at ih | rw [rfs_6 (d := fun i => I (s + 33 + i) 0) (st := fun i => I (s + 33 + i) 1) c_37 c_46 c_70 c_87 c_104] at ih | rw [rfs_7 (d := fun i => I (s + 33 + i) 0) (st := fun i => I (s + 33 + i) 1) c_37 c_46 c_70 c_87 c_104] at ih
            exact ih _
          · refine q_goto (pc := 49) 110 dX8_rateFor_49 (by decide) ?_
            refine q_iinc (pc := 110) (v := nI (i + 1)) dX8_rateFor_110 rfl (bq_inc _) (Nat.le_of_ble_eq_true rfl) rfl ?_
            show bq_W _ _ _ _ _ 113 [_, _, _, _, _, _] _ _ _ _ _ _ _
            refine q_goto (pc := 113) 6 dX8_rateFor_113 (by decide) ?_
            rw [rfx_s, hf] at ih
            first | rw [rfs_1 (d := fun i => I (s + 33 + i) 0) (st := fun i => I (s + 33 + i) 1) c_37] at ih | rw [rfs_2 (d := fun i => I (s + 33 + i) 0) (st := fun i => I (s + 33 + i) 1) c_37 c_46] at ih | rw [rfs_3 (d := fun i => I (s + 33 + i) 0) (st := fun i => I (s + 33 + i) 1) c_37 c_46] at ih | rw [rfs_4 (d := fun i => I (s + 33 + i) 0) (st := fun i => I (s + 33 + i) 1) c_37 c_46 c_70] at ih | rw [rfs_5 (d := fun i => I (s + 33 + i) 0) (st := fun i => I (s + 33 + i) 1) c_37 c_46 c_70 c_87] at ih | rw [rfs_6 (d := fun i => I (s + 33 + i) 0) (st := fun i => I (s + 33 + i) 1) c_37 c_46 c_70 c_87 c_104] at ih | rw [rfs_7 (d := fun i => I (s + 33 + i) 0) (st := fun i => I (s + 33 + i) 1) c_37 c_46 c_70 c_87 c_104] at ih
            exact ih _
      · show bq_W _ _ _ _ _ 6 [_, _, _, some (.int (nI q)), _, _] _ _ _ _ _ _ _
        refine q_iload (pc := 6) dX8_rateFor_6 rfl ?_
        refine q_aload_n (pc := 8) dX8_rateFor_8 rfl rfl ?_
        refine q_getI (pc := 9) dX8_rateFor_9 fX8_50 (State_sh hs) ⟨by decide, rfl⟩ (State_lt hs) ?_
        rw [hc]
        refine q_icmp_ge (pc := 12) 116 dX8_rateFor_12 (by decide) (fun c_12 => absurd c_12 (nI_ge hi (by omega))) (fun c_12 => ?_)
        refine q_iload (pc := 15) dX8_rateFor_15 rfl ?_
        refine q_bipush (pc := 17) (v := nI 10) dX8_rateFor_17 (by decide) ?_
        refine q_icmp_ge (pc := 19) 116 dX8_rateFor_19 (by decide) (fun c_19 => absurd c_19 (nI_ge (show i < 10 by omega) (by decide))) (fun c_19 => ?_)
        refine q_aload_n (pc := 22) dX8_rateFor_22 rfl rfl ?_
        refine q_getP (pc := 23) dX8_rateFor_23 fX8_55 (State_sh hs) ⟨by decide, rfl⟩ (State_lt hs) (State_p_rates hs) ?_
        refine q_iload (pc := 26) dX8_rateFor_26 rfl ?_
        refine q_aald (pc := 28) dX8_rateFor_28 (Staterates_sh hs) (by decide) (Staterates_lt hs) rfl (Nat.lt_of_lt_of_le hi hoc) (Staterates_p_el hs (Nat.lt_of_lt_of_le hi hoc)) ?_
        refine q_astore (pc := 29) dX8_rateFor_29 (Nat.le_of_ble_eq_true rfl) rfl ?_
        show bq_W _ _ _ _ _ 31 [_, _, _, _, _, _] _ _ _ _ _ _ _
        refine q_aload (pc := 31) dX8_rateFor_31 rfl ?_
        refine q_getI (pc := 33) dX8_rateFor_33 fX8_145 (Rate_sh (Staterates_s_el hs (Nat.lt_of_lt_of_le hi hoc))) ⟨by decide, rfl⟩ (Rate_lt (Staterates_s_el hs (Nat.lt_of_lt_of_le hi hoc))) ?_
        refine q_iload_n (pc := 36) dX8_rateFor_36 rfl rfl ?_
        refine q_icmp_gt (pc := 37) 110 dX8_rateFor_37 (by decide) (fun c_37 => ?_) (fun c_37 => ?_)
        · refine q_iinc (pc := 110) (v := nI (i + 1)) dX8_rateFor_110 rfl (bq_inc _) (Nat.le_of_ble_eq_true rfl) rfl ?_
          show bq_W _ _ _ _ _ 113 [_, _, _, _, _, _] _ _ _ _ _ _ _
          refine q_goto (pc := 113) 6 dX8_rateFor_113 (by decide) ?_
          rw [rfx_s, hf] at ih
          first | rw [rfs_1 (d := fun i => I (s + 33 + i) 0) (st := fun i => I (s + 33 + i) 1) c_37] at ih | rw [rfs_2 (d := fun i => I (s + 33 + i) 0) (st := fun i => I (s + 33 + i) 1) c_37 c_46] at ih | rw [rfs_3 (d := fun i => I (s + 33 + i) 0) (st := fun i => I (s + 33 + i) 1) c_37 c_46] at ih | rw [rfs_4 (d := fun i => I (s + 33 + i) 0) (st := fun i => I (s + 33 + i) 1) c_37 c_46 c_70] at ih | rw [rfs_5 (d := fun i => I (s + 33 + i) 0) (st := fun i => I (s + 33 + i) 1) c_37 c_46 c_70 c_87] at ih | rw [rfs_6 (d := fun i => I (s + 33 + i) 0) (st := fun i => I (s + 33 + i) 1) c_37 c_46 c_70 c_87 c_104] at ih | rw [rfs_7 (d := fun i => I (s + 33 + i) 0) (st := fun i => I (s + 33 + i) 1) c_37 c_46 c_70 c_87 c_104] at ih
          exact ih _
        · refine q_aload (pc := 40) dX8_rateFor_40 rfl ?_
          refine q_getI (pc := 42) dX8_rateFor_42 fX8_146 (Rate_sh (Staterates_s_el hs (Nat.lt_of_lt_of_le hi hoc))) ⟨by decide, rfl⟩ (Rate_lt (Staterates_s_el hs (Nat.lt_of_lt_of_le hi hoc))) ?_
          refine q_iload_n (pc := 45) dX8_rateFor_45 rfl rfl ?_
          refine q_icmp_le (pc := 46) 52 dX8_rateFor_46 (by decide) (fun c_46 => ?_) (fun c_46 => ?_)
          · refine q_iload_n (pc := 52) dX8_rateFor_52 rfl rfl ?_
            refine q_if_lt (pc := 53) 107 dX8_rateFor_53 (by decide) (fun c_53 => absurd c_53 (nI_pos (by have := rf_lt hf; omega))) (fun c_53 => ?_)
            refine q_aload (pc := 56) dX8_rateFor_56 rfl ?_
            refine q_getI (pc := 58) dX8_rateFor_58 fX8_146 (Rate_sh (Staterates_s_el hs (Nat.lt_of_lt_of_le hi hoc))) ⟨by decide, rfl⟩ (Rate_lt (Staterates_s_el hs (Nat.lt_of_lt_of_le hi hoc))) ?_
            refine q_aload_n (pc := 61) dX8_rateFor_61 rfl rfl ?_
            refine q_getP (pc := 62) dX8_rateFor_62 fX8_55 (State_sh hs) ⟨by decide, rfl⟩ (State_lt hs) (State_p_rates hs) ?_
            refine q_iload_n (pc := 65) dX8_rateFor_65 rfl rfl ?_
            refine q_aald (pc := 66) dX8_rateFor_66 (Staterates_sh hs) (by decide) (Staterates_lt hs) rfl (show q < 10 by have := rf_lt hf; omega) (Staterates_p_el hs (show q < 10 by have := rf_lt hf; omega)) ?_
            refine q_getI (pc := 67) dX8_rateFor_67 fX8_146 (Rate_sh (Staterates_s_el hs (show q < 10 by have := rf_lt hf; omega))) ⟨by decide, rfl⟩ (Rate_lt (Staterates_s_el hs (show q < 10 by have := rf_lt hf; omega))) ?_
            refine q_icmp_gt (pc := 70) 107 dX8_rateFor_70 (by decide) (fun c_70 => ?_) (fun c_70 => ?_)
            · refine q_iload (pc := 107) dX8_rateFor_107 rfl ?_
              refine q_istore_n (pc := 109) dX8_rateFor_109 rfl (Nat.le_of_ble_eq_true rfl) rfl ?_
              show bq_W _ _ _ _ _ 110 [_, _, _, _, _, _] _ _ _ _ _ _ _
              refine q_iinc (pc := 110) (v := nI (i + 1)) dX8_rateFor_110 rfl (bq_inc _) (Nat.le_of_ble_eq_true rfl) rfl ?_
              show bq_W _ _ _ _ _ 113 [_, _, _, _, _, _] _ _ _ _ _ _ _
              refine q_goto (pc := 113) 6 dX8_rateFor_113 (by decide) ?_
              rw [rfx_s, hf] at ih
              first | rw [rfs_1 (d := fun i => I (s + 33 + i) 0) (st := fun i => I (s + 33 + i) 1) c_37] at ih | rw [rfs_2 (d := fun i => I (s + 33 + i) 0) (st := fun i => I (s + 33 + i) 1) c_37 c_46] at ih | rw [rfs_3 (d := fun i => I (s + 33 + i) 0) (st := fun i => I (s + 33 + i) 1) c_37 c_46] at ih | rw [rfs_4 (d := fun i => I (s + 33 + i) 0) (st := fun i => I (s + 33 + i) 1) c_37 c_46 c_70] at ih | rw [rfs_5 (d := fun i => I (s + 33 + i) 0) (st := fun i => I (s + 33 + i) 1) c_37 c_46 c_70 c_87] at ih | rw [rfs_6 (d := fun i => I (s + 33 + i) 0) (st := fun i => I (s + 33 + i) 1) c_37 c_46 c_70 c_87 c_104] at ih | rw [rfs_7 (d := fun i => I (s + 33 + i) 0) (st := fun i => I (s + 33 + i) 1) c_37 c_46 c_70 c_87 c_104] at ih
              exact ih _
            · refine q_aload (pc := 73) dX8_rateFor_73 rfl ?_
              refine q_getI (pc := 75) dX8_rateFor_75 fX8_146 (Rate_sh (Staterates_s_el hs (Nat.lt_of_lt_of_le hi hoc))) ⟨by decide, rfl⟩ (Rate_lt (Staterates_s_el hs (Nat.lt_of_lt_of_le hi hoc))) ?_
              refine q_aload_n (pc := 78) dX8_rateFor_78 rfl rfl ?_
              refine q_getP (pc := 79) dX8_rateFor_79 fX8_55 (State_sh hs) ⟨by decide, rfl⟩ (State_lt hs) (State_p_rates hs) ?_
              refine q_iload_n (pc := 82) dX8_rateFor_82 rfl rfl ?_
              refine q_aald (pc := 83) dX8_rateFor_83 (Staterates_sh hs) (by decide) (Staterates_lt hs) rfl (show q < 10 by have := rf_lt hf; omega) (Staterates_p_el hs (show q < 10 by have := rf_lt hf; omega)) ?_
              refine q_getI (pc := 84) dX8_rateFor_84 fX8_146 (Rate_sh (Staterates_s_el hs (show q < 10 by have := rf_lt hf; omega))) ⟨by decide, rfl⟩ (Rate_lt (Staterates_s_el hs (show q < 10 by have := rf_lt hf; omega))) ?_
              refine q_icmp_ne (pc := 87) 110 dX8_rateFor_87 (by decide) (fun c_87 => ?_) (fun c_87 => ?_)
              · refine q_iinc (pc := 110) (v := nI (i + 1)) dX8_rateFor_110 rfl (bq_inc _) (Nat.le_of_ble_eq_true rfl) rfl ?_
                show bq_W _ _ _ _ _ 113 [_, _, _, _, _, _] _ _ _ _ _ _ _
                refine q_goto (pc := 113) 6 dX8_rateFor_113 (by decide) ?_
                rw [rfx_s, hf] at ih
                first | rw [rfs_1 (d := fun i => I (s + 33 + i) 0) (st := fun i => I (s + 33 + i) 1) c_37] at ih | rw [rfs_2 (d := fun i => I (s + 33 + i) 0) (st := fun i => I (s + 33 + i) 1) c_37 c_46] at ih | rw [rfs_3 (d := fun i => I (s + 33 + i) 0) (st := fun i => I (s + 33 + i) 1) c_37 c_46] at ih | rw [rfs_4 (d := fun i => I (s + 33 + i) 0) (st := fun i => I (s + 33 + i) 1) c_37 c_46 c_70] at ih | rw [rfs_5 (d := fun i => I (s + 33 + i) 0) (st := fun i => I (s + 33 + i) 1) c_37 c_46 c_70 c_87] at ih | rw [rfs_6 (d := fun i => I (s + 33 + i) 0) (st := fun i => I (s + 33 + i) 1) c_37 c_46 c_70 c_87 c_104] at ih | rw [rfs_7 (d := fun i => I (s + 33 + i) 0) (st := fun i => I (s + 33 + i) 1) c_37 c_46 c_70 c_87 c_104] at ih
                exact ih _
              · refine q_aload (pc := 90) dX8_rateFor_90 rfl ?_
                refine q_getI (pc := 92) dX8_rateFor_92 fX8_145 (Rate_sh (Staterates_s_el hs (Nat.lt_of_lt_of_le hi hoc))) ⟨by decide, rfl⟩ (Rate_lt (Staterates_s_el hs (Nat.lt_of_lt_of_le hi hoc))) ?_
                refine q_aload_n (pc := 95) dX8_rateFor_95 rfl rfl ?_
                refine q_getP (pc := 96) dX8_rateFor_96 fX8_55 (State_sh hs) ⟨by decide, rfl⟩ (State_lt hs) (State_p_rates hs) ?_
                refine q_iload_n (pc := 99) dX8_rateFor_99 rfl rfl ?_
                refine q_aald (pc := 100) dX8_rateFor_100 (Staterates_sh hs) (by decide) (Staterates_lt hs) rfl (show q < 10 by have := rf_lt hf; omega) (Staterates_p_el hs (show q < 10 by have := rf_lt hf; omega)) ?_
                refine q_getI (pc := 101) dX8_rateFor_101 fX8_145 (Rate_sh (Staterates_s_el hs (show q < 10 by have := rf_lt hf; omega))) ⟨by decide, rfl⟩ (Rate_lt (Staterates_s_el hs (show q < 10 by have := rf_lt hf; omega))) ?_
                refine q_icmp_lt (pc := 104) 110 dX8_rateFor_104 (by decide) (fun c_104 => ?_) (fun c_104 => ?_)
                · refine q_iinc (pc := 110) (v := nI (i + 1)) dX8_rateFor_110 rfl (bq_inc _) (Nat.le_of_ble_eq_true rfl) rfl ?_
                  show bq_W _ _ _ _ _ 113 [_, _, _, _, _, _] _ _ _ _ _ _ _
                  refine q_goto (pc := 113) 6 dX8_rateFor_113 (by decide) ?_
                  rw [rfx_s, hf] at ih
                  first | rw [rfs_1 (d := fun i => I (s + 33 + i) 0) (st := fun i => I (s + 33 + i) 1) c_37] at ih | rw [rfs_2 (d := fun i => I (s + 33 + i) 0) (st := fun i => I (s + 33 + i) 1) c_37 c_46] at ih | rw [rfs_3 (d := fun i => I (s + 33 + i) 0) (st := fun i => I (s + 33 + i) 1) c_37 c_46] at ih | rw [rfs_4 (d := fun i => I (s + 33 + i) 0) (st := fun i => I (s + 33 + i) 1) c_37 c_46 c_70] at ih | rw [rfs_5 (d := fun i => I (s + 33 + i) 0) (st := fun i => I (s + 33 + i) 1) c_37 c_46 c_70 c_87] at ih | rw [rfs_6 (d := fun i => I (s + 33 + i) 0) (st := fun i => I (s + 33 + i) 1) c_37 c_46 c_70 c_87 c_104] at ih | rw [rfs_7 (d := fun i => I (s + 33 + i) 0) (st := fun i => I (s + 33 + i) 1) c_37 c_46 c_70 c_87 c_104] at ih
                  exact ih _
                · refine q_iload (pc := 107) dX8_rateFor_107 rfl ?_
                  refine q_istore_n (pc := 109) dX8_rateFor_109 rfl (Nat.le_of_ble_eq_true rfl) rfl ?_
                  show bq_W _ _ _ _ _ 110 [_, _, _, _, _, _] _ _ _ _ _ _ _
                  refine q_iinc (pc := 110) (v := nI (i + 1)) dX8_rateFor_110 rfl (bq_inc _) (Nat.le_of_ble_eq_true rfl) rfl ?_
                  show bq_W _ _ _ _ _ 113 [_, _, _, _, _, _] _ _ _ _ _ _ _
                  refine q_goto (pc := 113) 6 dX8_rateFor_113 (by decide) ?_
                  rw [rfx_s, hf] at ih
                  first | rw [rfs_1 (d := fun i => I (s + 33 + i) 0) (st := fun i => I (s + 33 + i) 1) c_37] at ih | rw [rfs_2 (d := fun i => I (s + 33 + i) 0) (st := fun i => I (s + 33 + i) 1) c_37 c_46] at ih | rw [rfs_3 (d := fun i => I (s + 33 + i) 0) (st := fun i => I (s + 33 + i) 1) c_37 c_46] at ih | rw [rfs_4 (d := fun i => I (s + 33 + i) 0) (st := fun i => I (s + 33 + i) 1) c_37 c_46 c_70] at ih | rw [rfs_5 (d := fun i => I (s + 33 + i) 0) (st := fun i => I (s + 33 + i) 1) c_37 c_46 c_70 c_87] at ih | rw [rfs_6 (d := fun i => I (s + 33 + i) 0) (st := fun i => I (s + 33 + i) 1) c_37 c_46 c_70 c_87 c_104] at ih | rw [rfs_7 (d := fun i => I (s + 33 + i) 0) (st := fun i => I (s + 33 + i) 1) c_37 c_46 c_70 c_87 c_104] at ih
                  exact ih _
          · refine q_goto (pc := 49) 110 dX8_rateFor_49 (by decide) ?_
            refine q_iinc (pc := 110) (v := nI (i + 1)) dX8_rateFor_110 rfl (bq_inc _) (Nat.le_of_ble_eq_true rfl) rfl ?_
            show bq_W _ _ _ _ _ 113 [_, _, _, _, _, _] _ _ _ _ _ _ _
            refine q_goto (pc := 113) 6 dX8_rateFor_113 (by decide) ?_
            rw [rfx_s, hf] at ih
            first | rw [rfs_1 (d := fun i => I (s + 33 + i) 0) (st := fun i => I (s + 33 + i) 1) c_37] at ih | rw [rfs_2 (d := fun i => I (s + 33 + i) 0) (st := fun i => I (s + 33 + i) 1) c_37 c_46] at ih | rw [rfs_3 (d := fun i => I (s + 33 + i) 0) (st := fun i => I (s + 33 + i) 1) c_37 c_46] at ih | rw [rfs_4 (d := fun i => I (s + 33 + i) 0) (st := fun i => I (s + 33 + i) 1) c_37 c_46 c_70] at ih | rw [rfs_5 (d := fun i => I (s + 33 + i) 0) (st := fun i => I (s + 33 + i) 1) c_37 c_46 c_70 c_87] at ih | rw [rfs_6 (d := fun i => I (s + 33 + i) 0) (st := fun i => I (s + 33 + i) 1) c_37 c_46 c_70 c_87 c_104] at ih | rw [rfs_7 (d := fun i => I (s + 33 + i) 0) (st := fun i => I (s + 33 + i) 1) c_37 c_46 c_70 c_87 c_104] at ih
            exact ih _
  refine q_bipush (pc := 0) (v := (-5)) dX8_rateFor_0 (by decide) ?_
  refine q_istore_n (pc := 2) dX8_rateFor_2 rfl (Nat.le_of_ble_eq_true rfl) rfl ?_
  show bq_W _ _ _ _ _ 3 [_, _, _, _, _, _] _ _ _ _ _ _ _
  refine q_iconst (pc := 3) (v := nI 0) dX8_rateFor_3 (by decide) ?_
  refine q_istore (pc := 4) dX8_rateFor_4 (Nat.le_of_ble_eq_true rfl) rfl ?_
  show bq_W _ _ _ _ _ 6 [_, _, _, _, _, _] _ _ _ _ _ _ _
  exact lp 0 (Nat.zero_le _) _
set_option maxHeartbeats 400000 in
set_option maxRecDepth 20000 in
theorem c_X8_dutyOn {S : BqH} {n : Nat} {I : BqI} {L : BqL} {P : BqP} {s d rc : Nat} (hs : oState S n P s) (hd : oOrder S n P d) (hc : I s 10 = nI rc) (hoc : rc ≤ 10) : bq_Sp mX8_dutyOn 2 37 0 0 [.ref s, .ref d] S n I L P (bq_F (some (.int (du (fun i => I (s + 33 + i) 2) (rfx (fun i => I (s + 33 + i) 0) (fun i => I (s + 33 + i) 1) (I d 6) (I d 7) rc) (L d 8)))) S n I L P) := by
  refine q_entry (vs := [some (.ref s), some (.ref d), none]) (by decide +kernel) (by simp) (Nat.le_of_ble_eq_true rfl) rfl ?_
  refine q_aload_n (pc := 0) dX8_dutyOn_0 rfl rfl ?_
  refine q_aload_n (pc := 1) dX8_dutyOn_1 rfl rfl ?_
  refine q_getI (pc := 2) dX8_dutyOn_2 fX8_149 (Order_sh hd) ⟨by decide, rfl⟩ (Order_lt hd) ?_
  refine q_aload_n (pc := 5) dX8_dutyOn_5 rfl rfl ?_
  refine q_getI (pc := 6) dX8_dutyOn_6 fX8_152 (Order_sh hd) ⟨by decide, rfl⟩ (Order_lt hd) ?_
  refine q_callVF (pc := 9) dX8_dutyOn_9 kX8_155 (c_X8_rateFor hs hc hoc) (State_sh hs) rfl (State_lt hs) ⟨Nat.le_of_ble_eq_true rfl, Nat.le_of_ble_eq_true rfl⟩ rfl rfl (Nat.le_of_ble_eq_true rfl) ?_
  show bq_W _ _ _ _ _ 12 _ [_] _ _ _ _ _ _
  rcases hf : (rfx (fun i => I (s + 33 + i) 0) (fun i => I (s + 33 + i) 1) (I d 6) (I d 7) rc) with _ | q
  · show bq_W _ _ _ _ _ 12 _ [.int (-5)] _ _ _ _ _ _
    refine q_istore_n (pc := 12) dX8_dutyOn_12 rfl (Nat.le_of_ble_eq_true rfl) rfl ?_
    show bq_W _ _ _ _ _ 13 [_, _, _] _ _ _ _ _ _ _
    refine q_iload_n (pc := 13) dX8_dutyOn_13 rfl rfl ?_
    refine q_if_ge (pc := 14) 21 dX8_dutyOn_14 (by decide) (fun c_14 => absurd c_14 (by decide)) (fun c_14 => ?_)
    refine q_iconst (pc := 17) (v := nI 0) dX8_dutyOn_17 (by decide) ?_
    refine q_goto (pc := 18) 45 dX8_dutyOn_18 (by decide) ?_
    exact q_iret (st := []) (pc := 45) dX8_dutyOn_45 rfl ⟨rfl, rfl, rfl, rfl, rfl, rfl⟩
  · show bq_W _ _ _ _ _ 12 _ [.int (nI q)] _ _ _ _ _ _
    refine q_istore_n (pc := 12) dX8_dutyOn_12 rfl (Nat.le_of_ble_eq_true rfl) rfl ?_
    show bq_W _ _ _ _ _ 13 [_, _, _] _ _ _ _ _ _ _
    refine q_iload_n (pc := 13) dX8_dutyOn_13 rfl rfl ?_
    refine q_if_ge (pc := 14) 21 dX8_dutyOn_14 (by decide) (fun c_14 => ?_) (fun c_14 => absurd (nI_pos' (by have := rf_lt hf; omega)) c_14)
    refine q_aload_n (pc := 21) dX8_dutyOn_21 rfl rfl ?_
    refine q_getL (pc := 22) dX8_dutyOn_22 fX8_159 (Order_sh hd) ⟨by decide, rfl⟩ (Order_lt hd) ?_
    refine q_aload_n (pc := 25) dX8_dutyOn_25 rfl rfl ?_
    refine q_getP (pc := 26) dX8_dutyOn_26 fX8_55 (State_sh hs) ⟨by decide, rfl⟩ (State_lt hs) (State_p_rates hs) ?_
    refine q_iload_n (pc := 29) dX8_dutyOn_29 rfl rfl ?_
    refine q_aald (pc := 30) dX8_dutyOn_30 (Staterates_sh hs) (by decide) (Staterates_lt hs) rfl (show q < 10 by have := rf_lt hf; omega) (Staterates_p_el hs (show q < 10 by have := rf_lt hf; omega)) ?_
    refine q_getI (pc := 31) dX8_dutyOn_31 fX8_162 (Rate_sh (Staterates_s_el hs (show q < 10 by have := rf_lt hf; omega))) ⟨by decide, rfl⟩ (Rate_lt (Staterates_s_el hs (show q < 10 by have := rf_lt hf; omega))) ?_
    refine q_i2l (pc := 34) dX8_dutyOn_34 ?_
    refine q_lmul (pc := 35) dX8_dutyOn_35 ?_
    refine q_ldc2 (pc := 36) dX8_dutyOn_36 lX8_165 ?_
    refine q_ladd (pc := 39) dX8_dutyOn_39 ?_
    refine q_ldc2 (pc := 40) dX8_dutyOn_40 lX8_167 ?_
    refine q_ldiv (pc := 43) dX8_dutyOn_43 (by decide) ?_
    refine q_l2i (pc := 44) dX8_dutyOn_44 ?_
    exact q_iret (st := []) (pc := 45) dX8_dutyOn_45 rfl ⟨rfl, rfl, rfl, rfl, rfl, rfl⟩
set_option maxHeartbeats 440000 in
set_option maxRecDepth 20000 in
theorem c_X8_dutyNow {S : BqH} {n : Nat} {I : BqI} {L : BqL} {P : BqP} {s oc rc : Nat} (hs : oState S n P s) (ho : I s 12 = nI oc) (hol : oc ≤ 10) (hc : I s 10 = nI rc) (hoc : rc ≤ 10) : bq_Sp mX8_dutyNow 3 59 0 0 [.ref s] S n I L P (bq_F (some (.long (dnow I L s rc oc))) S n I L P) := by
  refine q_entry (vs := [some (.ref s), none, none, none]) (by decide +kernel) (by simp) (Nat.le_of_ble_eq_true rfl) rfl ?_
  have lp : ∀ i, i ≤ oc → bq_W mX8_dutyNow 3 59 0 0 4 [some (.ref s), some (.long (dnow I L s rc i)), none, some (.int (nI i))] [] S n I L P (bq_F (some (.long (dnow I L s rc oc))) S n I L P) := by
    refine bq_down (A := fun i => bq_W mX8_dutyNow 3 59 0 0 4 [some (.ref s), some (.long (dnow I L s rc i)), none, some (.int (nI i))] [] S n I L P (bq_F (some (.long (dnow I L s rc oc))) S n I L P)) oc ?_ ?_
    · refine q_iload_n (pc := 4) dX8_dutyNow_4 rfl rfl ?_
      refine q_aload_n (pc := 5) dX8_dutyNow_5 rfl rfl ?_
      refine q_getI (pc := 6) dX8_dutyNow_6 fX8_59 (State_sh hs) ⟨by decide, rfl⟩ (State_lt hs) ?_
      rw [ho]
      refine q_icmp_ge (pc := 9) 51 dX8_dutyNow_9 (by decide) (fun c_9 => ?_) (fun c_9 => absurd (Int32.le_refl _) c_9)
      refine q_lload_n (pc := 51) dX8_dutyNow_51 rfl rfl ?_
      exact q_lret (st := []) (pc := 52) dX8_dutyNow_52 rfl ⟨rfl, rfl, rfl, rfl, rfl, rfl⟩
    · intro i hi ih
      refine q_iload_n (pc := 4) dX8_dutyNow_4 rfl rfl ?_
      refine q_aload_n (pc := 5) dX8_dutyNow_5 rfl rfl ?_
      refine q_getI (pc := 6) dX8_dutyNow_6 fX8_59 (State_sh hs) ⟨by decide, rfl⟩ (State_lt hs) ?_
      rw [ho]
      refine q_icmp_ge (pc := 9) 51 dX8_dutyNow_9 (by decide) (fun c_9 => absurd c_9 (nI_ge hi (by omega))) (fun c_9 => ?_)
      refine q_iload_n (pc := 12) dX8_dutyNow_12 rfl rfl ?_
      refine q_bipush (pc := 13) (v := nI 10) dX8_dutyNow_13 (by decide) ?_
      refine q_icmp_ge (pc := 15) 51 dX8_dutyNow_15 (by decide) (fun c_15 => absurd c_15 (nI_ge (show i < 10 by omega) (by decide))) (fun c_15 => ?_)
      refine q_aload_n (pc := 18) dX8_dutyNow_18 rfl rfl ?_
      refine q_getP (pc := 19) dX8_dutyNow_19 fX8_64 (State_sh hs) ⟨by decide, rfl⟩ (State_lt hs) (State_p_orders hs) ?_
      refine q_iload_n (pc := 22) dX8_dutyNow_22 rfl rfl ?_
      refine q_aald (pc := 23) dX8_dutyNow_23 (Stateorders_sh hs) (by decide) (Stateorders_lt hs) rfl (Nat.lt_of_lt_of_le hi hol) (Stateorders_p_el hs (Nat.lt_of_lt_of_le hi hol)) ?_
      refine q_getI (pc := 24) dX8_dutyNow_24 fX8_139 (Order_sh (Stateorders_s_el hs (Nat.lt_of_lt_of_le hi hol))) ⟨by decide, rfl⟩ (Order_lt (Stateorders_s_el hs (Nat.lt_of_lt_of_le hi hol))) ?_
      refine q_iconst (pc := 27) (v := nI 1) dX8_dutyNow_27 (by decide) ?_
      refine q_icmp_ne (pc := 28) 45 dX8_dutyNow_28 (by decide) (fun c_28 => ?_) (fun c_28 => ?_)
      · refine q_iinc (pc := 45) (v := nI (i + 1)) dX8_dutyNow_45 rfl (bq_inc _) (Nat.le_of_ble_eq_true rfl) rfl ?_
        show bq_W _ _ _ _ _ 48 [_, _, _, _] _ _ _ _ _ _ _
        refine q_goto (pc := 48) 4 dX8_dutyNow_48 (by decide) ?_
        rw [show dnow I L s rc (i + 1) = _ from if_neg c_28] at ih
        exact ih
      · refine q_lload_n (pc := 31) dX8_dutyNow_31 rfl rfl ?_
        refine q_aload_n (pc := 32) dX8_dutyNow_32 rfl rfl ?_
        refine q_aload_n (pc := 33) dX8_dutyNow_33 rfl rfl ?_
        refine q_getP (pc := 34) dX8_dutyNow_34 fX8_64 (State_sh hs) ⟨by decide, rfl⟩ (State_lt hs) (State_p_orders hs) ?_
        refine q_iload_n (pc := 37) dX8_dutyNow_37 rfl rfl ?_
        refine q_aald (pc := 38) dX8_dutyNow_38 (Stateorders_sh hs) (by decide) (Stateorders_lt hs) rfl (Nat.lt_of_lt_of_le hi hol) (Stateorders_p_el hs (Nat.lt_of_lt_of_le hi hol)) ?_
        refine q_callVF (pc := 39) dX8_dutyNow_39 kX8_169 (c_X8_dutyOn hs (Stateorders_s_el hs (Nat.lt_of_lt_of_le hi hol)) hc hoc) (State_sh hs) rfl (State_lt hs) ⟨Nat.le_of_ble_eq_true rfl, Nat.le_of_ble_eq_true rfl⟩ rfl rfl (Nat.le_of_ble_eq_true rfl) ?_
        show bq_W _ _ _ _ _ 42 _ [_, _] _ _ _ _ _ _
        refine q_i2l (pc := 42) dX8_dutyNow_42 ?_
        refine q_ladd (pc := 43) dX8_dutyNow_43 ?_
        refine q_lstore_n (pc := 44) dX8_dutyNow_44 rfl (Nat.le_of_ble_eq_true rfl) rfl ?_
        show bq_W _ _ _ _ _ 45 [_, _, _, _] _ _ _ _ _ _ _
        refine q_iinc (pc := 45) (v := nI (i + 1)) dX8_dutyNow_45 rfl (bq_inc _) (Nat.le_of_ble_eq_true rfl) rfl ?_
        show bq_W _ _ _ _ _ 48 [_, _, _, _] _ _ _ _ _ _ _
        refine q_goto (pc := 48) 4 dX8_dutyNow_48 (by decide) ?_
        rw [show dnow I L s rc (i + 1) = _ from if_pos c_28] at ih
        exact ih
  refine q_lconst (pc := 0) dX8_dutyNow_0 rfl ?_
  refine q_lstore_n (pc := 1) dX8_dutyNow_1 rfl (Nat.le_of_ble_eq_true rfl) rfl ?_
  show bq_W _ _ _ _ _ 2 [_, _, _, _] _ _ _ _ _ _ _
  refine q_iconst (pc := 2) (v := nI 0) dX8_dutyNow_2 (by decide) ?_
  refine q_istore_n (pc := 3) dX8_dutyNow_3 rfl (Nat.le_of_ble_eq_true rfl) rfl ?_
  show bq_W _ _ _ _ _ 4 [_, _, _, _] _ _ _ _ _ _ _
  exact lp 0 (Nat.zero_le _)
set_option maxHeartbeats 400000 in
set_option maxRecDepth 20000 in
theorem c_X8_stillDue {S : BqH} {n : Nat} {I : BqI} {L : BqL} {P : BqP} {s oc rc : Nat} (hs : oState S n P s) (ho : I s 12 = nI oc) (hol : oc ≤ 10) (hc : I s 10 = nI rc) (hoc : rc ≤ 10) : bq_Sp mX8_stillDue 4 82 0 0 [.ref s] S n I L P (bq_F (some (.long (dnow I L s rc oc - L s 14 - L s 15))) S n I L P) := by
  refine q_entry (vs := [some (.ref s)]) (by decide +kernel) (by simp) (Nat.le_of_ble_eq_true rfl) rfl ?_
  refine q_aload_n (pc := 0) dX8_stillDue_0 rfl rfl ?_
  refine q_callVF (pc := 1) dX8_stillDue_1 kX8_173 (c_X8_dutyNow hs ho hol hc hoc) (State_sh hs) rfl (State_lt hs) ⟨Nat.le_of_ble_eq_true rfl, Nat.le_of_ble_eq_true rfl⟩ rfl rfl (Nat.le_of_ble_eq_true rfl) ?_
  show bq_W _ _ _ _ _ 4 _ [_] _ _ _ _ _ _
  refine q_aload_n (pc := 4) dX8_stillDue_4 rfl rfl ?_
  refine q_getL (pc := 5) dX8_stillDue_5 fX8_68 (State_sh hs) ⟨by decide, rfl⟩ (State_lt hs) ?_
  refine q_lsub (pc := 8) dX8_stillDue_8 ?_
  refine q_aload_n (pc := 9) dX8_stillDue_9 rfl rfl ?_
  refine q_getL (pc := 10) dX8_stillDue_10 fX8_72 (State_sh hs) ⟨by decide, rfl⟩ (State_lt hs) ?_
  refine q_lsub (pc := 13) dX8_stillDue_13 ?_
  exact q_lret (st := []) (pc := 14) dX8_stillDue_14 rfl ⟨rfl, rfl, rfl, rfl, rfl, rfl⟩
