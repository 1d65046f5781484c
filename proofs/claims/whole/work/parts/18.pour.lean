theorem CSI.tn {I : BqI} {s : Nat} {g : BqG} {en t k : Nat} (h : CSI I s g) (hG : GI g en) (ht : t < 6) (hk : k < 3) : I (s + 15 + 3 * t) k = nI (gn g (10 + 19 * t + k)) := by
  rw [show s + 15 + 3 * t = s + (15 + 3 * t) by omega, h.at (lc_T ht hk)]
  exact hG.n (by omega) (by omega)
theorem CSI.tn1 {I : BqI} {s : Nat} {g : BqG} {en t : Nat} (h : CSI I s g) (hG : GI g en) (ht : t < 6) : I (s + 15 + 3 * t) 1 = nI (gn g (11 + 19 * t)) := by
  have := h.tn hG (k := 1) ht (by decide)
  rwa [show 10 + 19 * t + 1 = 11 + 19 * t by omega] at this
theorem CSI.pn {I : BqI} {s : Nat} {g : BqG} {en t : Nat} (h : CSI I s g) (hG : GI g en) (ht : t < 6) : ∀ j, j < 16 → I (s + 15 + 3 * t + 1 + 1) j = nI (gp g t j) := fun j hj => by
  rw [show s + 15 + 3 * t + 1 + 1 = s + (17 + 3 * t) by omega, h.at (lc_P ht hj)]
  exact hG.p ht j hj
theorem bq_01 {q : Nat} (h : q ≤ 1) (h0 : ¬ nI q = 0) (h1 : ¬ nI q = nI 1) : False := by
  rcases Nat.eq_zero_or_pos q with z | z
  · exact h0 (by rw [z]; decide)
  · exact h1 (by rw [show q = 1 by omega])
theorem x_pour_hi {g : BqG} {f t l ls k : Nat} (h : k = 6 ∨ (204 ≤ k ∧ k < 324)) (hf : f < 6) (ht : t < 6) : x_pour g f t l ls k = g k := by
  have e : x_pour1 g f l k = g k := by unfold x_pour1; rw [g_note_ne (by omega) (by omega), g_out_ne (by omega) (by omega)]
  unfold x_pour
  split
  · rw [g_note_ne (by omega) (by omega), g_in_ne (by omega) (by omega), e]
  · rw [g_note_ne (by omega) (by omega), g_in_ne (by omega) (by omega), g_loss_ne (by omega) (by omega), e]
set_option maxHeartbeats 2224000 in
set_option maxRecDepth 20000 in
theorem c_pour_n {S : BqH} {n : Nat} {I : BqI} {L : BqL} {P : BqP} {x : Nat} {g : BqG} {en : Nat} (hx : oX S n P x) (hC : CS I L (x + 1) g) (hG : GI g en) (hen : en < 2 ^ 29) {f t l : Nat} (hf : f < 6) (ht : t < 6) (hne : f ≠ t) (h1 : 1 ≤ l) (h2 : l ≤ 9999) : bq_Sp mX11_pour 4 84 0 0 [.ref x, .int (nI f), .int (nI t), .int (nI l)] S n I L P (qCore x I L S n P (n_pour g f t l)) := by
  refine q_entry (vs := [some (.ref x), some (.int (nI f)), some (.int (nI t)), some (.int (nI l)), none, none, none, none]) (by decide +kernel) (by simp) (Nat.le_of_ble_eq_true rfl) rfl ?_
  have hf1 : I (x + 1 + 15 + 3 * f) 1 = nI (gn g (11 + 19 * f)) := hC.1.tn1 hG hf
  have ht1 : I (x + 1 + 15 + 3 * t) 1 = nI (gn g (11 + 19 * t)) := hC.1.tn1 hG ht
  have ht0 : I (x + 1 + 15 + 3 * t) 0 = nI (gn g (10 + 19 * t)) := hC.1.tn hG (k := 0) ht (by decide)
  have hpf : ∀ j, j < 16 → I (x + 1 + 15 + 3 * f + 1 + 1) j = nI (gp g f j) := hC.1.pn hG hf
  have htf : bq_sum (I (x + 1 + 15 + 3 * f + 1 + 1)) 16 = nI (gt g f) := bq_sum_n 16 hpf
  have htt : bq_sum (I (x + 1 + 15 + 3 * t + 2)) 16 = nI (gt g t) := bq_sum_n 16 (hC.1.pn hG ht)
  have hls : I (x + 1) 1 = nI (gn g 4) := (hC.1.at (k := 4) rfl).trans (hG.n (by decide) (by decide))
  obtain ⟨qf1, qf2, qf3, qf4, qf5, qf6⟩ := hG.t hf
  obtain ⟨qt1, qt2, qt3, qt4, qt5, qt6⟩ := hG.t ht
  have hloss : gn g 4 ≤ 100 := hG.2.2.2.2.2.1
  have hm : gn g 5 ≤ en := hG.2.2.2.2.2.2.1
  by_cases hA : gn g (11 + 19 * f) = 1 ∧ gn g (11 + 19 * t) ≤ 1
  · have key : bq_W mX11_pour 4 84 0 0 80 [some (.ref x), some (.int (nI f)), some (.int (nI t)), some (.int (nI l)), some (.ref (x + 1 + 15 + 3 * f)), some (.ref (x + 1 + 15 + 3 * t)), none, none] [] S n I L P (qCore x I L S n P (n_pour g f t l)) := by
      refine q_aload (pc := 80) dX11_pour_80 rfl ?_
      refine q_getP (pc := 82) dX11_pour_82 fX11_73 (Tank_sh (Statetanks_s_el (Cellar_s_state hx) hf)) ⟨by decide, rfl⟩ (Tank_lt (Statetanks_s_el (Cellar_s_state hx) hf)) (Tank_p_content (Statetanks_s_el (Cellar_s_state hx) hf)) ?_
      refine q_callVF (pc := 85) dX11_pour_85 kX11_79 (c_X0_total (Tank_s_content (Statetanks_s_el (Cellar_s_state hx) hf))) (Blend_sh (Tank_s_content (Statetanks_s_el (Cellar_s_state hx) hf))) rfl (Blend_lt (Tank_s_content (Statetanks_s_el (Cellar_s_state hx) hf))) ⟨Nat.le_of_ble_eq_true rfl, Nat.le_of_ble_eq_true rfl⟩ rfl rfl (Nat.le_of_ble_eq_true rfl) ?_
      show bq_W _ _ _ _ _ 88 _ [_] _ _ _ _ _ _
      rw [htf]
      refine q_iload_n (pc := 88) dX11_pour_88 rfl rfl ?_
      refine q_icmp_ge (pc := 89) 95 dX11_pour_89 (by decide) (fun c_89 => ?_) (fun c_89 => ?_)
      · have hge : l ≤ gt g f := (nI_leI (by omega) (by omega)).mp c_89
        have hml : l * gn g 4 < 2 ^ 31 := by have : l * gn g 4 ≤ 9999 * 100 := Nat.mul_le_mul h2 hloss; omega
        have hll : (l * gn g 4 / 1000) ≤ l := by have : l * gn g 4 ≤ l * 100 := Nat.mul_le_mul_left l hloss; omega
        refine q_iload_n (pc := 95) dX11_pour_95 rfl rfl ?_
        refine q_aload_n (pc := 96) dX11_pour_96 rfl rfl ?_
        refine q_getP (pc := 97) dX11_pour_97 fX11_10 (Cellar_sh hx) ⟨by decide, rfl⟩ (Cellar_lt hx) (Cellar_p_state hx) ?_
        refine q_getI (pc := 100) dX11_pour_100 fX11_129 (State_sh (Cellar_s_state hx)) ⟨by decide, rfl⟩ (State_lt (Cellar_s_state hx)) ?_
        rw [hls]
        refine q_imulN (pc := 103) dX11_pour_103 ?_
        refine q_sipush (pc := 104) (v := nI 1000) dX11_pour_104 (by decide) ?_
        refine q_idiv (pc := 107) dX11_pour_107 (nI_ne0 (by decide) (by decide)) ?_
        rw [pk_div hml (by decide) (by decide)]
        refine q_istore (pc := 108) dX11_pour_108 (Nat.le_of_ble_eq_true rfl) rfl ?_
        show bq_W _ _ _ _ _ 110 [_, _, _, _, _, _, _, _] _ _ _ _ _ _ _
        refine q_iload_n (pc := 110) dX11_pour_110 rfl rfl ?_
        refine q_iload (pc := 111) dX11_pour_111 rfl ?_
        refine q_isub (pc := 113) dX11_pour_113 ?_
        rw [pk_sub hll]
        refine q_istore (pc := 114) dX11_pour_114 (Nat.le_of_ble_eq_true rfl) rfl ?_
        show bq_W _ _ _ _ _ 116 [_, _, _, _, _, _, _, _] _ _ _ _ _ _ _
        refine q_iload (pc := 116) dX11_pour_116 rfl ?_
        refine q_aload (pc := 118) dX11_pour_118 rfl ?_
        refine q_callVF (pc := 120) dX11_pour_120 kX11_104 (c_X9_room (Statetanks_s_el (Cellar_s_state hx) ht)) (Tank_sh (Statetanks_s_el (Cellar_s_state hx) ht)) rfl (Tank_lt (Statetanks_s_el (Cellar_s_state hx) ht)) ⟨Nat.le_of_ble_eq_true rfl, Nat.le_of_ble_eq_true rfl⟩ rfl rfl (Nat.le_of_ble_eq_true rfl) ?_
        show bq_W _ _ _ _ _ 123 _ [_, _] _ _ _ _ _ _
        rw [ht0, htt, pk_sub qt5]
        refine q_icmp_le (pc := 123) 129 dX11_pour_123 (by decide) (fun c_123 => ?_) (fun c_123 => ?_)
        · have hroom : l - (l * gn g 4 / 1000) ≤ gn g (10 + 19 * t) - gt g t := (nI_leI (by omega) (by omega)).mp c_123
          rw [show n_pour g f t l = (nI (l - (l * gn g 4 / 1000)), x_pour g f t l (l * gn g 4 / 1000)) from by unfold n_pour; rw [if_neg (not_not_intro hA), if_neg (Nat.not_lt.mpr hge), if_neg (by omega)]]
          generalize hlse : (l * gn g 4 / 1000) = ls at *
          have hpos : 0 < gt g f := by omega
          have htb : gt g f ≤ 9999 := by omega
          obtain ⟨nt1, nt2⟩ := npt_in (F := gp g f) hge hpos
          refine q_aload_n (pc := 129) dX11_pour_129 rfl rfl ?_
          refine q_getP (pc := 130) dX11_pour_130 fX11_55 (Cellar_sh hx) ⟨by decide, rfl⟩ (Cellar_lt hx) (Cellar_p_taken hx) ?_
          refine q_aload (pc := 133) dX11_pour_133 rfl ?_
          refine q_getP (pc := 135) dX11_pour_135 fX11_73 (Tank_sh (Statetanks_s_el (Cellar_s_state hx) hf)) ⟨by decide, rfl⟩ (Tank_lt (Statetanks_s_el (Cellar_s_state hx) hf)) (Tank_p_content (Statetanks_s_el (Cellar_s_state hx) hf)) ?_
          refine q_iload_n (pc := 138) dX11_pour_138 rfl rfl ?_
          refine q_callV (pc := 139) dX11_pour_139 kX11_339 (c_take (Cellar_s_taken hx) (Tank_s_content (Statetanks_s_el (Cellar_s_state hx) hf)) (by omega) (by omega) (pm_n hpf hge hpos htb).2 (by omega)) (Portion_sh (Cellar_s_taken hx)) rfl (Portion_lt (Cellar_s_taken hx)) ⟨Nat.le_of_ble_eq_true rfl, Nat.le_of_ble_eq_true rfl⟩ rfl rfl (Nat.le_of_ble_eq_true rfl) ?_
          rintro _ _ _ I1 L1 P1 ⟨rfl, rfl, rfl, rfl, rfl, f1, t1⟩
          show bq_W _ _ _ _ _ 142 _ [] _ _ _ _ _ _
          have hC1 : CSI I1 (x + 1) g := hC.1.fr (fun a ha => f1 _ (by omega) (by omega))
          have hT1 : ∀ j, j < 16 → I1 (x + 157 + 1 + 1) j = tk g f l j := fun j hj => (t1 j hj).trans (pt_n hpf hge hpos htb j hj)
          have hF1 : Frm x I I1 := Frm.rf.take (p := x + 157) f1 ⟨Or.inr (by omega), Or.inr (by omega)⟩
          refine q_aload (pc := 142) dX11_pour_142 rfl ?_
          refine q_aload_n (pc := 144) dX11_pour_144 rfl rfl ?_
          refine q_getP (pc := 145) dX11_pour_145 fX11_55 (Cellar_sh hx) ⟨by decide, rfl⟩ (Cellar_lt hx) (Cellar_p_taken hx) ?_
          refine q_getP (pc := 148) dX11_pour_148 fX11_343 (Portion_sh (Cellar_s_taken hx)) ⟨by decide, rfl⟩ (Portion_lt (Cellar_s_taken hx)) (Portion_p_blend (Cellar_s_taken hx)) ?_
          refine q_callVF (pc := 151) dX11_pour_151 kX11_346 (c_X9_giveOut (Statetanks_s_el (Cellar_s_state hx) hf) (Portion_s_blend (Cellar_s_taken hx))) (Tank_sh (Statetanks_s_el (Cellar_s_state hx) hf)) rfl (Tank_lt (Statetanks_s_el (Cellar_s_state hx) hf)) ⟨Nat.le_of_ble_eq_true rfl, Nat.le_of_ble_eq_true rfl⟩ rfl rfl (Nat.le_of_ble_eq_true rfl) ?_
          show bq_W _ _ _ _ _ 154 _ [] _ _ _ _ _ _
          refine q_nameI (fun I2 e2 => ?_)
          have hC2 : CSI I2 (x + 1) (g_out g f (tk g f l)) := by rw [e2]; exact hC1.out hf (Or.inr (by omega)) hT1
          have hT2 : ∀ j, j < 16 → I2 (x + 157 + 1 + 1) j = tk g f l j := fun j hj => by rw [e2, tk_out_ne (by omega) (by omega) (by omega)]; exact hT1 j hj
          have hF2 : Frm x I I2 := by rw [e2]; exact hF1.out (by omega) ⟨Or.inl (by omega), Or.inl (by omega)⟩
          have hm2 : I2 (x + 1 + 13) 0 = nI (gn g 5) := (hC2.at (k := 5) rfl).trans ((g_out_ne (Or.inl (by omega)) (by omega)).trans (hG.n (by decide) (by decide)))
          refine q_aload_n (pc := 154) dX11_pour_154 rfl rfl ?_
          refine q_getP (pc := 155) dX11_pour_155 fX11_10 (Cellar_sh hx) ⟨by decide, rfl⟩ (Cellar_lt hx) (Cellar_p_state hx) ?_
          refine q_iconst (pc := 158) (v := nI 1) dX11_pour_158 (by decide) ?_
          refine q_iload_n (pc := 159) dX11_pour_159 rfl rfl ?_
          refine q_iload_n (pc := 160) dX11_pour_160 rfl rfl ?_
          refine q_callVF (pc := 161) dX11_pour_161 kX11_115 (c_X8_note (Cellar_s_state hx) hm2 (by omega)) (State_sh (Cellar_s_state hx)) rfl (State_lt (Cellar_s_state hx)) ⟨Nat.le_of_ble_eq_true rfl, Nat.le_of_ble_eq_true rfl⟩ rfl rfl (Nat.le_of_ble_eq_true rfl) ?_
          show bq_W _ _ _ _ _ 164 _ [] _ _ _ _ _ _
          refine q_nameI (fun I3 e3 => ?_)
          have hC3 : CSI I3 (x + 1) (x_pour1 g f l) := by rw [e3]; exact hC2.note (gn g 5) (nI 1) (nI f) (nI l)
          have hT3 : ∀ j, j < 16 → I3 (x + 157 + 1 + 1) j = tk g f l j := fun j hj => by rw [e3, jw_ne (by omega) (by omega)]; exact hT2 j hj
          have hF3 : Frm x I I3 := by rw [e3]; exact hF2.jw ⟨Or.inl (by omega), Or.inl (by omega)⟩
          have hm3 : I3 (x + 1 + 13) 0 = nI (gn g 5 + 1) := by rw [hC3.at (k := 5) rfl]; unfold x_pour1; rw [g_note_5, g_out_ne (Or.inl (by omega)) (by omega), hG.n (k := 5) (by decide) (by decide), nI_add]
          refine q_iload (pc := 164) dX11_pour_164 rfl ?_
          refine q_if_le (pc := 166) 220 dX11_pour_166 (by decide) (fun c_166 => ?_) (fun c_166 => ?_)
          · have hz : ls = 0 := by rcases Nat.eq_zero_or_pos ls with q | q; exact q; exact absurd c_166 (nI_nle q (by omega))
            subst hz
            refine q_aload (pc := 220) dX11_pour_220 rfl ?_
            refine q_aload_n (pc := 222) dX11_pour_222 rfl rfl ?_
            refine q_getP (pc := 223) dX11_pour_223 fX11_55 (Cellar_sh hx) ⟨by decide, rfl⟩ (Cellar_lt hx) (Cellar_p_taken hx) ?_
            refine q_getP (pc := 226) dX11_pour_226 fX11_343 (Portion_sh (Cellar_s_taken hx)) ⟨by decide, rfl⟩ (Portion_lt (Cellar_s_taken hx)) (Portion_p_blend (Cellar_s_taken hx)) ?_
            refine q_callVF (pc := 229) dX11_pour_229 kX11_357 (c_X9_takeIn (Statetanks_s_el (Cellar_s_state hx) ht) (Portion_s_blend (Cellar_s_taken hx))) (Tank_sh (Statetanks_s_el (Cellar_s_state hx) ht)) rfl (Tank_lt (Statetanks_s_el (Cellar_s_state hx) ht)) ⟨Nat.le_of_ble_eq_true rfl, Nat.le_of_ble_eq_true rfl⟩ rfl rfl (Nat.le_of_ble_eq_true rfl) ?_
            show bq_W _ _ _ _ _ 232 _ [] _ _ _ _ _ _
            refine q_nameI (fun I4 e4 => ?_)
            have hC4 : CSI I4 (x + 1) (g_in (x_pour1 g f l) t (tk g f l)) := by rw [e4]; exact hC3.in ht (Or.inr (by omega)) hT3
            have hF4 : Frm x I I4 := by rw [e4]; exact hF3.in (by omega) ⟨Or.inl (by omega), Or.inl (by omega)⟩
            have hm4 : I4 (x + 1 + 13) 0 = nI (gn g 5 + 1) := by rw [e4, in_ne (by omega) (by omega) (by omega)]; exact hm3
            refine q_aload_n (pc := 232) dX11_pour_232 rfl rfl ?_
            refine q_getP (pc := 233) dX11_pour_233 fX11_10 (Cellar_sh hx) ⟨by decide, rfl⟩ (Cellar_lt hx) (Cellar_p_state hx) ?_
            refine q_iconst (pc := 236) (v := nI 2) dX11_pour_236 (by decide) ?_
            refine q_iload_n (pc := 237) dX11_pour_237 rfl rfl ?_
            refine q_iload (pc := 238) dX11_pour_238 rfl ?_
            refine q_callVF (pc := 240) dX11_pour_240 kX11_115 (c_X8_note (Cellar_s_state hx) hm4 (by omega)) (State_sh (Cellar_s_state hx)) rfl (State_lt (Cellar_s_state hx)) ⟨Nat.le_of_ble_eq_true rfl, Nat.le_of_ble_eq_true rfl⟩ rfl rfl (Nat.le_of_ble_eq_true rfl) ?_
            show bq_W _ _ _ _ _ 243 _ [] _ _ _ _ _ _
            refine q_nameI (fun I5 e5 => ?_)
            have hC5 : CSI I5 (x + 1) (x_pour g f t l 0) := by rw [e5]; unfold x_pour; rw [if_pos rfl]; exact hC4.note (gn g 5 + 1) (nI 2) (nI t) (nI (l - 0))
            have hF5 : Frm x I I5 := by rw [e5]; exact hF4.jw ⟨Or.inl (by omega), Or.inl (by omega)⟩
            refine q_iload (pc := 243) dX11_pour_243 rfl ?_
            exact q_iret (st := []) (pc := 245) dX11_pour_245 rfl ⟨rfl, rfl, rfl, rfl, ⟨hC5, hC.2.congr (show x_pour g f t l 0 6 = g 6 from x_pour_hi (Or.inl rfl) hf ht) (fun k k1 k2 => show x_pour g f t l 0 k = g k from x_pour_hi (Or.inr ⟨k1, by omega⟩) hf ht)⟩, hF5, FrmL.rf⟩
          · have hlp : 0 < ls := Nat.pos_of_ne_zero (fun q => c_166 (by rw [q]; decide))
            have hls2 : ls ≤ ns (npt (gp g f) l) 16 := by rw [nt2]; exact hll
            have hpos2 : 0 < ns (npt (gp g f) l) 16 := by rw [nt2]; omega
            have htb2 : ns (npt (gp g f) l) 16 ≤ 9999 := by rw [nt2]; omega
            refine q_aload_n (pc := 169) dX11_pour_169 rfl rfl ?_
            refine q_getP (pc := 170) dX11_pour_170 fX11_59 (Cellar_sh hx) ⟨by decide, rfl⟩ (Cellar_lt hx) (Cellar_p_wasted hx) ?_
            refine q_aload_n (pc := 173) dX11_pour_173 rfl rfl ?_
            refine q_getP (pc := 174) dX11_pour_174 fX11_55 (Cellar_sh hx) ⟨by decide, rfl⟩ (Cellar_lt hx) (Cellar_p_taken hx) ?_
            refine q_getP (pc := 177) dX11_pour_177 fX11_343 (Portion_sh (Cellar_s_taken hx)) ⟨by decide, rfl⟩ (Portion_lt (Cellar_s_taken hx)) (Portion_p_blend (Cellar_s_taken hx)) ?_
            refine q_iload (pc := 180) dX11_pour_180 rfl ?_
            refine q_callV (pc := 182) dX11_pour_182 kX11_339 (c_take (w := x + 157 + 1) (Cellar_s_wasted hx) (Portion_s_blend (Cellar_s_taken hx)) (by omega) (by omega) (pm_n hT3 hls2 hpos2 htb2).2 (by omega)) (Portion_sh (Cellar_s_wasted hx)) rfl (Portion_lt (Cellar_s_wasted hx)) ⟨Nat.le_of_ble_eq_true rfl, Nat.le_of_ble_eq_true rfl⟩ rfl rfl (Nat.le_of_ble_eq_true rfl) ?_
            rintro _ _ _ I4 L4 P4 ⟨rfl, rfl, rfl, rfl, rfl, f4, t4⟩
            show bq_W _ _ _ _ _ 185 _ [] _ _ _ _ _ _
            have hC4 : CSI I4 (x + 1) (x_pour1 g f l) := hC3.fr (fun a ha => f4 _ (by omega) (by omega))
            have hT4 : ∀ j, j < 16 → I4 (x + 157 + 1 + 1) j = tk g f l j := fun j hj => by rw [f4 _ (by omega) (by omega)]; exact hT3 j hj
            have hW4 : ∀ j, j < 16 → I4 (x + 161 + 1 + 1) j = tk2 g f l ls j := fun j hj => (t4 j hj).trans (pt_n hT3 hls2 hpos2 htb2 j hj)
            have hF4 : Frm x I I4 := hF3.take (p := x + 161) f4 ⟨Or.inr (by omega), Or.inr (by omega)⟩
            have hm4 : I4 (x + 1 + 13) 0 = nI (gn g 5 + 1) := by rw [f4 _ (by omega) (by omega)]; exact hm3
            refine q_aload_n (pc := 185) dX11_pour_185 rfl rfl ?_
            refine q_getP (pc := 186) dX11_pour_186 fX11_55 (Cellar_sh hx) ⟨by decide, rfl⟩ (Cellar_lt hx) (Cellar_p_taken hx) ?_
            refine q_getP (pc := 189) dX11_pour_189 fX11_343 (Portion_sh (Cellar_s_taken hx)) ⟨by decide, rfl⟩ (Portion_lt (Cellar_s_taken hx)) (Portion_p_blend (Cellar_s_taken hx)) ?_
            refine q_aload_n (pc := 192) dX11_pour_192 rfl rfl ?_
            refine q_getP (pc := 193) dX11_pour_193 fX11_59 (Cellar_sh hx) ⟨by decide, rfl⟩ (Cellar_lt hx) (Cellar_p_wasted hx) ?_
            refine q_getP (pc := 196) dX11_pour_196 fX11_343 (Portion_sh (Cellar_s_wasted hx)) ⟨by decide, rfl⟩ (Portion_lt (Cellar_s_wasted hx)) (Portion_p_blend (Cellar_s_wasted hx)) ?_
            refine q_callVF (pc := 199) dX11_pour_199 kX11_350 (c_X0_remove (Portion_s_blend (Cellar_s_taken hx)) (Portion_s_blend (Cellar_s_wasted hx))) (Blend_sh (Portion_s_blend (Cellar_s_taken hx))) rfl (Blend_lt (Portion_s_blend (Cellar_s_taken hx))) ⟨Nat.le_of_ble_eq_true rfl, Nat.le_of_ble_eq_true rfl⟩ rfl rfl (Nat.le_of_ble_eq_true rfl) ?_
            show bq_W _ _ _ _ _ 202 _ [] _ _ _ _ _ _
            refine q_nameI (fun I5 e5 => ?_)
            have hC5 : CSI I5 (x + 1) (x_pour1 g f l) := by rw [e5]; exact hC4.fr (fun a ha => (bl_rem_at (I := I4) (by omega) 16).1 _ (by omega))
            have hT5 : ∀ j, j < 16 → I5 (x + 157 + 1 + 1) j = tk g f l j - tk2 g f l ls j := fun j hj => by rw [e5, (bl_rem_at (I := I4) (by omega) 16).2 j, if_pos hj, hT4 j hj, hW4 j hj]
            have hW5 : ∀ j, j < 16 → I5 (x + 161 + 1 + 1) j = tk2 g f l ls j := fun j hj => by rw [e5, (bl_rem_at (I := I4) (by omega) 16).1 _ (by omega)]; exact hW4 j hj
            have hF5 : Frm x I I5 := by rw [e5]; exact hF4.rem (by omega) (Or.inr (by omega))
            have hm5 : I5 (x + 1 + 13) 0 = nI (gn g 5 + 1) := by rw [e5, (bl_rem_at (I := I4) (by omega) 16).1 _ (by omega)]; exact hm4
            refine q_aload_n (pc := 202) dX11_pour_202 rfl rfl ?_
            refine q_getP (pc := 203) dX11_pour_203 fX11_10 (Cellar_sh hx) ⟨by decide, rfl⟩ (Cellar_lt hx) (Cellar_p_state hx) ?_
            refine q_iload_n (pc := 206) dX11_pour_206 rfl rfl ?_
            refine q_aload_n (pc := 207) dX11_pour_207 rfl rfl ?_
            refine q_getP (pc := 208) dX11_pour_208 fX11_59 (Cellar_sh hx) ⟨by decide, rfl⟩ (Cellar_lt hx) (Cellar_p_wasted hx) ?_
            refine q_getP (pc := 211) dX11_pour_211 fX11_343 (Portion_sh (Cellar_s_wasted hx)) ⟨by decide, rfl⟩ (Portion_lt (Cellar_s_wasted hx)) (Portion_p_blend (Cellar_s_wasted hx)) ?_
            refine q_iload (pc := 214) dX11_pour_214 rfl ?_
            refine q_iconst (pc := 216) (v := nI 0) dX11_pour_216 (by decide) ?_
            refine q_callVF (pc := 217) dX11_pour_217 kX11_353 (c_X8_writeOff (Cellar_s_state hx) (Portion_s_blend (Cellar_s_wasted hx)) (by decide) (wo_pre (by omega) hm5) (by omega)) (State_sh (Cellar_s_state hx)) rfl (State_lt (Cellar_s_state hx)) ⟨Nat.le_of_ble_eq_true rfl, Nat.le_of_ble_eq_true rfl⟩ rfl rfl (Nat.le_of_ble_eq_true rfl) ?_
            show bq_W _ _ _ _ _ 220 _ [] _ _ _ _ _ _
            refine q_nameI (fun I6 e6 => ?_)
            have hC6 : CSI I6 (x + 1) (g_loss (x_pour1 g f l) (gn g 5 + 1) (tk2 g f l ls) (nI f) (nI ls) 0) := by rw [e6]; exact hC5.wo (Or.inr (by omega)) (by decide) hW5
            have hT6 : ∀ j, j < 16 → I6 (x + 157 + 1 + 1) j = tk g f l j - tk2 g f l ls j := fun j hj => by rw [e6, wo_ne (by omega) (by omega) (by omega) (by omega) (by omega)]; exact hT5 j hj
            have hF6 : Frm x I I6 := by rw [e6]; exact hF5.wo (by omega)
            have hm6 : I6 (x + 1 + 13) 0 = nI (gn g 5 + 2) := by rw [hC6.at (k := 5) rfl, g_loss_5, ← hC5.at (k := 5) rfl, hm5, nI_add]
            refine q_aload (pc := 220) dX11_pour_220 rfl ?_
            refine q_aload_n (pc := 222) dX11_pour_222 rfl rfl ?_
            refine q_getP (pc := 223) dX11_pour_223 fX11_55 (Cellar_sh hx) ⟨by decide, rfl⟩ (Cellar_lt hx) (Cellar_p_taken hx) ?_
            refine q_getP (pc := 226) dX11_pour_226 fX11_343 (Portion_sh (Cellar_s_taken hx)) ⟨by decide, rfl⟩ (Portion_lt (Cellar_s_taken hx)) (Portion_p_blend (Cellar_s_taken hx)) ?_
            refine q_callVF (pc := 229) dX11_pour_229 kX11_357 (c_X9_takeIn (Statetanks_s_el (Cellar_s_state hx) ht) (Portion_s_blend (Cellar_s_taken hx))) (Tank_sh (Statetanks_s_el (Cellar_s_state hx) ht)) rfl (Tank_lt (Statetanks_s_el (Cellar_s_state hx) ht)) ⟨Nat.le_of_ble_eq_true rfl, Nat.le_of_ble_eq_true rfl⟩ rfl rfl (Nat.le_of_ble_eq_true rfl) ?_
            show bq_W _ _ _ _ _ 232 _ [] _ _ _ _ _ _
            refine q_nameI (fun I7 e7 => ?_)
            have hC7 : CSI I7 (x + 1) (g_in (g_loss (x_pour1 g f l) (gn g 5 + 1) (tk2 g f l ls) (nI f) (nI ls) 0) t (fun j => tk g f l j - tk2 g f l ls j)) := by rw [e7]; exact hC6.in ht (Or.inr (by omega)) hT6
            have hF7 : Frm x I I7 := by rw [e7]; exact hF6.in (by omega) ⟨Or.inl (by omega), Or.inl (by omega)⟩
            have hm7 : I7 (x + 1 + 13) 0 = nI (gn g 5 + 2) := by rw [e7, in_ne (by omega) (by omega) (by omega)]; exact hm6
            refine q_aload_n (pc := 232) dX11_pour_232 rfl rfl ?_
            refine q_getP (pc := 233) dX11_pour_233 fX11_10 (Cellar_sh hx) ⟨by decide, rfl⟩ (Cellar_lt hx) (Cellar_p_state hx) ?_
            refine q_iconst (pc := 236) (v := nI 2) dX11_pour_236 (by decide) ?_
            refine q_iload_n (pc := 237) dX11_pour_237 rfl rfl ?_
            refine q_iload (pc := 238) dX11_pour_238 rfl ?_
            refine q_callVF (pc := 240) dX11_pour_240 kX11_115 (c_X8_note (Cellar_s_state hx) hm7 (by omega)) (State_sh (Cellar_s_state hx)) rfl (State_lt (Cellar_s_state hx)) ⟨Nat.le_of_ble_eq_true rfl, Nat.le_of_ble_eq_true rfl⟩ rfl rfl (Nat.le_of_ble_eq_true rfl) ?_
            show bq_W _ _ _ _ _ 243 _ [] _ _ _ _ _ _
            refine q_nameI (fun I8 e8 => ?_)
            have hC8 : CSI I8 (x + 1) (x_pour g f t l ls) := by rw [e8]; unfold x_pour; rw [if_neg (by omega)]; exact hC7.note (gn g 5 + 2) (nI 2) (nI t) (nI (l - ls))
            have hF8 : Frm x I I8 := by rw [e8]; exact hF7.jw ⟨Or.inl (by omega), Or.inl (by omega)⟩
            refine q_iload (pc := 243) dX11_pour_243 rfl ?_
            exact q_iret (st := []) (pc := 245) dX11_pour_245 rfl ⟨rfl, rfl, rfl, rfl, ⟨hC8, hC.2.congr (show x_pour g f t l ls 6 = g 6 from x_pour_hi (Or.inl rfl) hf ht) (fun k k1 k2 => show x_pour g f t l ls k = g k from x_pour_hi (Or.inr ⟨k1, by omega⟩) hf ht)⟩, hF8, FrmL.rf⟩
        · refine q_bipush (pc := 126) (v := (-4)) dX11_pour_126 (by decide) ?_
          exact q_iret (st := []) (pc := 128) dX11_pour_128 rfl (qCore.same hC (by unfold n_pour; rw [if_neg (not_not_intro hA), if_neg (Nat.not_lt.mpr hge), if_pos (Nat.lt_of_not_le fun q => c_123 (nI_le (by omega) (by omega)))]))
      · refine q_bipush (pc := 92) (v := (-3)) dX11_pour_92 (by decide) ?_
        exact q_iret (st := []) (pc := 94) dX11_pour_94 rfl (qCore.same hC (by unfold n_pour; rw [if_neg (not_not_intro hA), if_pos (Nat.lt_of_not_le fun q => c_89 (nI_le q (by omega)))]))
    refine q_aload_n (pc := 0) dX11_pour_0 rfl rfl ?_
    refine q_getP (pc := 1) dX11_pour_1 fX11_10 (Cellar_sh hx) ⟨by decide, rfl⟩ (Cellar_lt hx) (Cellar_p_state hx) ?_
    refine q_iload_n (pc := 4) dX11_pour_4 rfl rfl ?_
    refine q_callVF (pc := 5) dX11_pour_5 kX11_65 (c_tankAt (Cellar_s_state hx) hf) (State_sh (Cellar_s_state hx)) rfl (State_lt (Cellar_s_state hx)) ⟨Nat.le_of_ble_eq_true rfl, Nat.le_of_ble_eq_true rfl⟩ rfl rfl (Nat.le_of_ble_eq_true rfl) ?_
    show bq_W _ _ _ _ _ 8 _ [_] _ _ _ _ _ _
    refine q_astore (pc := 8) dX11_pour_8 (Nat.le_of_ble_eq_true rfl) rfl ?_
    show bq_W _ _ _ _ _ 10 [_, _, _, _, _, _, _, _] _ _ _ _ _ _ _
    refine q_aload_n (pc := 10) dX11_pour_10 rfl rfl ?_
    refine q_getP (pc := 11) dX11_pour_11 fX11_10 (Cellar_sh hx) ⟨by decide, rfl⟩ (Cellar_lt hx) (Cellar_p_state hx) ?_
    refine q_iload_n (pc := 14) dX11_pour_14 rfl rfl ?_
    refine q_callVF (pc := 15) dX11_pour_15 kX11_65 (c_tankAt (Cellar_s_state hx) ht) (State_sh (Cellar_s_state hx)) rfl (State_lt (Cellar_s_state hx)) ⟨Nat.le_of_ble_eq_true rfl, Nat.le_of_ble_eq_true rfl⟩ rfl rfl (Nat.le_of_ble_eq_true rfl) ?_
    show bq_W _ _ _ _ _ 18 _ [_] _ _ _ _ _ _
    refine q_astore (pc := 18) dX11_pour_18 (Nat.le_of_ble_eq_true rfl) rfl ?_
    show bq_W _ _ _ _ _ 20 [_, _, _, _, _, _, _, _] _ _ _ _ _ _ _
    refine q_aload (pc := 20) dX11_pour_20 rfl ?_
    refine q_ifnull (pc := 22) dX11_pour_22 ?_
    refine q_aload (pc := 25) dX11_pour_25 rfl ?_
    refine q_ifnull (pc := 27) dX11_pour_27 ?_
    refine q_iload_n (pc := 30) dX11_pour_30 rfl rfl ?_
    refine q_iload_n (pc := 31) dX11_pour_31 rfl rfl ?_
    refine q_icmp_ne (pc := 32) 37 dX11_pour_32 (by decide) (fun c_32 => ?_) (fun c_32 => (hne ((nI_eq (by omega) (by omega)).mp c_32)).elim)
    refine q_iload_n (pc := 37) dX11_pour_37 rfl rfl ?_
    refine q_iconst (pc := 38) (v := nI 1) dX11_pour_38 (by decide) ?_
    refine q_sipush (pc := 39) (v := nI 9999) dX11_pour_39 (by decide) ?_
    refine q_callSF (pc := 42) dX11_pour_42 kX11_69 c_X11_outside ⟨Nat.le_of_ble_eq_true rfl, Nat.le_of_ble_eq_true rfl⟩ rfl rfl (Nat.le_of_ble_eq_true rfl) ?_
    show bq_W _ _ _ _ _ 45 _ [_] _ _ _ _ _ _
    refine q_if_eq (pc := 45) 51 dX11_pour_45 (by decide) (fun c_45 => ?_) (fun c_45 => (bq_nin h1 h2 (by decide) (bq_bn.mp c_45)).elim)
    refine q_aload (pc := 51) dX11_pour_51 rfl ?_
    refine q_getI (pc := 53) dX11_pour_53 fX11_101 (Tank_sh (Statetanks_s_el (Cellar_s_state hx) hf)) ⟨by decide, rfl⟩ (Tank_lt (Statetanks_s_el (Cellar_s_state hx) hf)) ?_
    rw [hf1]
    refine q_iconst (pc := 56) (v := nI 1) dX11_pour_56 (by decide) ?_
    refine q_icmp_ne (pc := 57) 77 dX11_pour_57 (by decide) (fun c_57 => ?_) (fun c_57 => ?_)
    · exact absurd (by rw [hA.1]) c_57
    · refine q_aload (pc := 60) dX11_pour_60 rfl ?_
      refine q_getI (pc := 62) dX11_pour_62 fX11_101 (Tank_sh (Statetanks_s_el (Cellar_s_state hx) ht)) ⟨by decide, rfl⟩ (Tank_lt (Statetanks_s_el (Cellar_s_state hx) ht)) ?_
      rw [ht1]
      refine q_if_eq (pc := 65) 80 dX11_pour_65 (by decide) (fun c_65 => ?_) (fun c_65 => ?_)
      · exact key
      · refine q_aload (pc := 68) dX11_pour_68 rfl ?_
        refine q_getI (pc := 70) dX11_pour_70 fX11_101 (Tank_sh (Statetanks_s_el (Cellar_s_state hx) ht)) ⟨by decide, rfl⟩ (Tank_lt (Statetanks_s_el (Cellar_s_state hx) ht)) ?_
        rw [ht1]
        refine q_iconst (pc := 73) (v := nI 1) dX11_pour_73 (by decide) ?_
        refine q_icmp_eq (pc := 74) 80 dX11_pour_74 (by decide) (fun c_74 => ?_) (fun c_74 => ?_)
        · exact key
        · exact (bq_01 hA.2 c_65 c_74).elim
  · refine q_aload_n (pc := 0) dX11_pour_0 rfl rfl ?_
    refine q_getP (pc := 1) dX11_pour_1 fX11_10 (Cellar_sh hx) ⟨by decide, rfl⟩ (Cellar_lt hx) (Cellar_p_state hx) ?_
    refine q_iload_n (pc := 4) dX11_pour_4 rfl rfl ?_
    refine q_callVF (pc := 5) dX11_pour_5 kX11_65 (c_tankAt (Cellar_s_state hx) hf) (State_sh (Cellar_s_state hx)) rfl (State_lt (Cellar_s_state hx)) ⟨Nat.le_of_ble_eq_true rfl, Nat.le_of_ble_eq_true rfl⟩ rfl rfl (Nat.le_of_ble_eq_true rfl) ?_
    show bq_W _ _ _ _ _ 8 _ [_] _ _ _ _ _ _
    refine q_astore (pc := 8) dX11_pour_8 (Nat.le_of_ble_eq_true rfl) rfl ?_
    show bq_W _ _ _ _ _ 10 [_, _, _, _, _, _, _, _] _ _ _ _ _ _ _
    refine q_aload_n (pc := 10) dX11_pour_10 rfl rfl ?_
    refine q_getP (pc := 11) dX11_pour_11 fX11_10 (Cellar_sh hx) ⟨by decide, rfl⟩ (Cellar_lt hx) (Cellar_p_state hx) ?_
    refine q_iload_n (pc := 14) dX11_pour_14 rfl rfl ?_
    refine q_callVF (pc := 15) dX11_pour_15 kX11_65 (c_tankAt (Cellar_s_state hx) ht) (State_sh (Cellar_s_state hx)) rfl (State_lt (Cellar_s_state hx)) ⟨Nat.le_of_ble_eq_true rfl, Nat.le_of_ble_eq_true rfl⟩ rfl rfl (Nat.le_of_ble_eq_true rfl) ?_
    show bq_W _ _ _ _ _ 18 _ [_] _ _ _ _ _ _
    refine q_astore (pc := 18) dX11_pour_18 (Nat.le_of_ble_eq_true rfl) rfl ?_
    show bq_W _ _ _ _ _ 20 [_, _, _, _, _, _, _, _] _ _ _ _ _ _ _
    refine q_aload (pc := 20) dX11_pour_20 rfl ?_
    refine q_ifnull (pc := 22) dX11_pour_22 ?_
    refine q_aload (pc := 25) dX11_pour_25 rfl ?_
    refine q_ifnull (pc := 27) dX11_pour_27 ?_
    refine q_iload_n (pc := 30) dX11_pour_30 rfl rfl ?_
    refine q_iload_n (pc := 31) dX11_pour_31 rfl rfl ?_
    refine q_icmp_ne (pc := 32) 37 dX11_pour_32 (by decide) (fun c_32 => ?_) (fun c_32 => (hne ((nI_eq (by omega) (by omega)).mp c_32)).elim)
    refine q_iload_n (pc := 37) dX11_pour_37 rfl rfl ?_
    refine q_iconst (pc := 38) (v := nI 1) dX11_pour_38 (by decide) ?_
    refine q_sipush (pc := 39) (v := nI 9999) dX11_pour_39 (by decide) ?_
    refine q_callSF (pc := 42) dX11_pour_42 kX11_69 c_X11_outside ⟨Nat.le_of_ble_eq_true rfl, Nat.le_of_ble_eq_true rfl⟩ rfl rfl (Nat.le_of_ble_eq_true rfl) ?_
    show bq_W _ _ _ _ _ 45 _ [_] _ _ _ _ _ _
    refine q_if_eq (pc := 45) 51 dX11_pour_45 (by decide) (fun c_45 => ?_) (fun c_45 => (bq_nin h1 h2 (by decide) (bq_bn.mp c_45)).elim)
    refine q_aload (pc := 51) dX11_pour_51 rfl ?_
    refine q_getI (pc := 53) dX11_pour_53 fX11_101 (Tank_sh (Statetanks_s_el (Cellar_s_state hx) hf)) ⟨by decide, rfl⟩ (Tank_lt (Statetanks_s_el (Cellar_s_state hx) hf)) ?_
    rw [hf1]
    refine q_iconst (pc := 56) (v := nI 1) dX11_pour_56 (by decide) ?_
    refine q_icmp_ne (pc := 57) 77 dX11_pour_57 (by decide) (fun c_57 => ?_) (fun c_57 => ?_)
    · refine q_bipush (pc := 77) (v := (-2)) dX11_pour_77 (by decide) ?_
      exact q_iret (st := []) (pc := 79) dX11_pour_79 rfl (qCore.same hC (by unfold n_pour; rw [if_pos hA]))
    · refine q_aload (pc := 60) dX11_pour_60 rfl ?_
      refine q_getI (pc := 62) dX11_pour_62 fX11_101 (Tank_sh (Statetanks_s_el (Cellar_s_state hx) ht)) ⟨by decide, rfl⟩ (Tank_lt (Statetanks_s_el (Cellar_s_state hx) ht)) ?_
      rw [ht1]
      refine q_if_eq (pc := 65) 80 dX11_pour_65 (by decide) (fun c_65 => ?_) (fun c_65 => ?_)
      · exact absurd ⟨(nI_eq (by omega) (by decide)).mp c_57, by first | (have := (nI_eq (a := gn g (11 + 19 * t)) (b := 0) (by omega) (by decide)).mp c_65; omega) | (have := (nI_eq (by omega) (by decide)).mp c_74; omega)⟩ hA
      · refine q_aload (pc := 68) dX11_pour_68 rfl ?_
        refine q_getI (pc := 70) dX11_pour_70 fX11_101 (Tank_sh (Statetanks_s_el (Cellar_s_state hx) ht)) ⟨by decide, rfl⟩ (Tank_lt (Statetanks_s_el (Cellar_s_state hx) ht)) ?_
        rw [ht1]
        refine q_iconst (pc := 73) (v := nI 1) dX11_pour_73 (by decide) ?_
        refine q_icmp_eq (pc := 74) 80 dX11_pour_74 (by decide) (fun c_74 => ?_) (fun c_74 => ?_)
        · exact absurd ⟨(nI_eq (by omega) (by decide)).mp c_57, by first | (have := (nI_eq (a := gn g (11 + 19 * t)) (b := 0) (by omega) (by decide)).mp c_65; omega) | (have := (nI_eq (by omega) (by decide)).mp c_74; omega)⟩ hA
        · refine q_bipush (pc := 77) (v := (-2)) dX11_pour_77 (by decide) ?_
          exact q_iret (st := []) (pc := 79) dX11_pour_79 rfl (qCore.same hC (by unfold n_pour; rw [if_pos hA]))
