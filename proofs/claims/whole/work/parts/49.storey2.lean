/-! the model: a storey, blinded, felled, night (by program: wip/whole/c49.py) -/
theorem mq_st {I : Nat → Nat → Int32} {G : gr_T} {dr : Nat → Bool} {sh : Nat → Nat → Bool} {t : Nat} (h : mq_T I G dr sh) : mq_T (up_I I 51 t (g_h G t + 1)) (g_st G t) dr sh := by
  have := mg_wh (t := t) (v := g_h G t + 1) (B := (G, dr, sh, I 46 3, I 46 4)) ⟨h.1, h.2.1, h.2.2.1, rfl, rfl⟩
  exact ⟨this.1, this.2.1, this.2.2.1, h.2.2.2.1, h.2.2.2.2⟩
theorem h_20 {S : sg_T} (hI : IV_T S) {a : Nat} (ha : a < g_n (z_G S)) (hh : is_H (g_k (z_G S) a)) : 20 ≤ g_h (z_G S) a ↔ g_h (z_G S) a = 20 := by
  obtain ⟨h, h1, h2⟩ := hI.1.2.2.1 a ha hh
  rw [show g_h (z_G S) a = nI h from h2]
  have e : ∀ h, h < 21 → (20 ≤ nI h ↔ nI h = 20) := by decide +kernel
  exact e h (by omega)
theorem lst_0 {S : sg_T} {t : Int32} (h : ¬ s_lh S t t = 0) : s_lst S t = s_lh S t t := by rw [s_lst, if_neg (fun q => h q.1)]
theorem se_st {G : gr_T} {dr : Nat → Bool} {sh : Nat → Nat → Bool} {t : Nat} (j i : Nat) : p_se (g_st G t) dr sh j i = true → p_h G j = true := by
  intro h
  have := (se_in h).2.1
  simp only [p_h, Bool.and_eq_true, decide_eq_true_eq]
  exact ⟨this.1, this.2⟩
theorem sm_8 {f : Nat → Nat} {n : Nat} (h8 : n ≤ 8) (h : ∀ i, n ≤ i → i < 8 → f i = 0) : sm_N (fun i => nI (f i)) 8 0 0 = sm_N (fun i => nI (f i)) n 0 0 := by
  rw [sm_s0, sm_s0]
  have := sN_ext (f := f) (8 - n) n (fun i h1 h2 => h i h1 (by omega))
  rw [show n + (8 - n) = 8 by omega] at this
  rw [this]
theorem cn_0 {p : Nat → Bool} (h : ∀ i, p i = false) : cn_8 p = 0 := by
  rw [show p = fun _ => false from funext h]
  rfl
theorem c_X5_storey (l : Launch) {I : Nat → Nat → Int32} {L : Nat → Nat → Int64} {Rf : Nat → Nat → Option Nat} {n : Nat} {S : sg_T} (W : wd_T Rf n) (hM : MR_T I L S) (hI : IV_T S) {t : Int32} : wm_C l mX5_storey 19 0 0 [vv_A (some 46), vv_I t] (I, L, Rf, n) (q_M (f_storey S t).1 (f_storey S t).2 I L Rf n) := by
  refine wm_of (by decide) (Nat.le_of_ble_eq_true rfl) rfl ?_
  have hQ : mq_T I (z_G S) (b_dr (z_B S)) (b_sh (z_B S)) := mg_mq hM.1 hI.1
  have hG := hQ.1
  have h8 : g_n (z_G S) ≤ 8 := hI.1.1
  have hr : hr_T (z_G S) := hI.1.2.1
  refine ra_0 oX5_storey_0 ?_
  refine ri_1 oX5_storey_1 ?_
  refine rr_cVi (c_X5_barred l W hM hI) oX5_storey_2 (cv_X5_127 rfl) (by decide) kk_46 (by decide) hcn_5 (wd_lt W rfl) rfl rfl (Nat.le_of_ble_eq_true rfl) ?_
  refine si_2 oX5_storey_5 rfl rfl ?_
  refine ri_2 oX5_storey_6 ?_
  refine rr_if_ne (tgt := 24) oX5_storey_7 (by decide) (fun c => ?_) (fun c => ?_)
  · have hno := no_lh c
    have els := lst_0 c
    refine ri_2 oX5_storey_24 ?_
    refine rr_if_eq (tgt := 34) oX5_storey_25 (by decide) (fun c9 => ?_) (fun c9 => ?_)
    · exact absurd c9 c
    refine ra_0 oX5_storey_28 ?_
    refine ri_2 oX5_storey_29 ?_
    refine rr_cVi (c_X5_noMuch l W hno.1 hno.2) oX5_storey_30 (cv_X5_245 rfl) (by decide) kk_46 (by decide) hcn_5 (wd_lt W rfl) rfl rfl (Nat.le_of_ble_eq_true rfl) ?_
    exact rr_ireturn oX5_storey_33 rfl rfl (q_M_nod hM me_rf (by rw [f_storey, els, if_pos c]) hno.1)
  · obtain ⟨a, b, ⟨ha, rfl, ha2⟩, ⟨hb, e2, hb2⟩⟩ := s_lh_0 h8 c
    have exa : ix_N (nI a) = a := nI_clamp (by omega)
    refine ra_0 oX5_storey_10 ?_
    refine rr_gr (v := 51) oX5_storey_11 (ff_X5_35 rfl) kk_46 (wd_lt W rfl) ⟨by decide, rfl⟩ (wd_r W rfl rfl) ?_
    refine ri_1 oX5_storey_14 ?_
    refine rr_iv oX5_storey_15 kk_51 (wd_lt W rfl) rfl (by omega) (by decide) (mv_h hG (by omega)) ?_
    refine rr_bipush (v := 20) oX5_storey_16 (by decide) ?_
    refine rr_icmp_ne (tgt := 24) oX5_storey_18 (by decide) (fun c1 => ?_) (fun c1 => ?_)
    · have els : s_lst S (nI a) = 0 := by rw [s_lst, if_neg (fun q => c1 ((h_20 hI ha ha2).mp (by have := q.2; rw [exa] at this; exact this))), c]
      refine ri_2 oX5_storey_24 ?_
      refine rr_if_eq (tgt := 34) oX5_storey_25 (by decide) (fun c9 => ?_) (fun c9 => ?_)
      rotate_left
      · exact absurd c c9
      refine ra_0 oX5_storey_34 ?_
      refine ra_0 oX5_storey_35 ?_
      refine rr_cVi (c_X5_allRight l W hQ) oX5_storey_36 (cv_X5_210 rfl) (by decide) kk_46 (by decide) hcn_5 (wd_lt W rfl) rfl rfl (Nat.le_of_ble_eq_true rfl) ?_
      refine rr_cVi (c_X5_many l) oX5_storey_39 (cv_X5_107 rfl) (by decide) kk_46 (by decide) hcn_5 (wd_lt W rfl) rfl rfl (Nat.le_of_ble_eq_true rfl) ?_
      refine si_3 oX5_storey_42 rfl rfl ?_
      refine ra_0 oX5_storey_43 ?_
      refine rr_gr (v := 51) oX5_storey_44 (ff_X5_35 rfl) kk_46 (wd_lt W rfl) ⟨by decide, rfl⟩ (wd_r W rfl rfl) ?_
      refine ri_1 oX5_storey_47 ?_
      refine rr_dup2 oX5_storey_48 rfl rfl ?_
      refine rr_iv oX5_storey_49 kk_51 (wd_lt W rfl) rfl (by omega) (by decide) (mv_h hG (by omega)) ?_
      refine rk_1 oX5_storey_50 ?_
      refine rr_iadd oX5_storey_51 ?_
      refine rr_ist oX5_storey_52 kk_51 (wd_lt W rfl) rfl (by omega) (by decide) ?_
      refine ra_0 oX5_storey_53 ?_
      refine ra_0 oX5_storey_54 ?_
      refine rr_cVi (c_X5_allRight l W (mq_st (t := a) hQ)) oX5_storey_55 (cv_X5_210 rfl) (by decide) kk_46 (by decide) hcn_5 (wd_lt W rfl) rfl rfl (Nat.le_of_ble_eq_true rfl) ?_
      refine rr_cVi (c_X5_many l) oX5_storey_58 (cv_X5_107 rfl) (by decide) kk_46 (by decide) hcn_5 (wd_lt W rfl) rfl rfl (Nat.le_of_ble_eq_true rfl) ?_
      refine ri_3 oX5_storey_61 ?_
      refine rr_isub oX5_storey_62 ?_
      refine si_3 oX5_storey_63 rfl rfl ?_
      refine ra_0 oX5_storey_64 ?_
      refine rr_gr (v := 51) oX5_storey_65 (ff_X5_35 rfl) kk_46 (wd_lt W rfl) ⟨by decide, rfl⟩ (wd_r W rfl rfl) ?_
      refine ri_1 oX5_storey_68 ?_
      refine rr_dup2 oX5_storey_69 rfl rfl ?_
      refine rr_iv oX5_storey_70 kk_51 (wd_lt W rfl) rfl (by omega) (by decide) (show _ = g_h (z_G S) a + 1 from up_I_at) ?_
      refine rk_1 oX5_storey_71 ?_
      refine rr_isub oX5_storey_72 ?_
      rw [Int32.add_sub_cancel]
      refine rr_ist oX5_storey_73 kk_51 (wd_lt W rfl) rfl (by omega) (by decide) ?_
      rw [up_bk (mv_h hG (by omega)).symm]
      refine ri_3 oX5_storey_74 ?_
      exact rr_ireturn oX5_storey_75 rfl rfl (q_M_an hM me_rf (show f_storey S (nI a) = (_, S) from by rw [f_storey, els, if_neg (fun q => q rfl), exa]) rfl)
    · have els : s_lst S (nI a) = -6 := by rw [s_lst, if_pos ⟨c, by rw [exa]; exact (h_20 hI ha ha2).mpr c1⟩]
      refine rr_bipush (v := (-6)) oX5_storey_21 (by decide) ?_
      refine si_2 oX5_storey_23 rfl rfl ?_
      refine ri_2 oX5_storey_24 ?_
      refine rr_if_eq (tgt := 34) oX5_storey_25 (by decide) (fun q => absurd q (by decide)) (fun _ => ?_)
      refine ra_0 oX5_storey_28 ?_
      refine ri_2 oX5_storey_29 ?_
      refine rr_cVi (c_X5_noMuch l W (c := 6) (by decide) (by decide)) oX5_storey_30 (cv_X5_245 rfl) (by decide) kk_46 (by decide) hcn_5 (wd_lt W rfl) rfl rfl (Nat.le_of_ble_eq_true rfl) ?_
      exact rr_ireturn oX5_storey_33 rfl rfl (q_M_nod (r := -6) hM me_rf (by rw [f_storey, els, if_pos (by decide)]) (by decide))
theorem lp_X5_blinded (l : Launch) {I : Nat → Nat → Int32} {L : Nat → Nat → Int64} {Rf : Nat → Nat → Option Nat} {n : Nat} {G : gr_T} {dr : Nat → Bool} {sh : Nat → Nat → Bool} (W : wd_T Rf n) (hQ : mq_T I G dr sh) {Q : Option vv_T → mx_T → Prop} {a : Nat} {x2 : Int32} {WX : vv_T} (hP : ∀ J : Nat → Nat → Int32, (∀ j, j < g_n G → J 65 j = st_S (p_se G dr sh j)) → (∀ b, b ≠ 65 → J b = I b) → wm_W l mX5_blinded 18 0 0 73 [vv_A (some 46), vv_I (nI a), vv_I x2, vv_I (nI (g_n G)), WX] [] (J, L, Rf, n) Q) : ∀ m (J : Nat → Nat → Int32) t, t + m = g_n G → (∀ j, j < t → J 65 j = st_S (p_se G dr sh j)) → (∀ b, b ≠ 65 → J b = I b) → wm_W l mX5_blinded 18 0 0 36 [vv_A (some 46), vv_I (nI a), vv_I x2, vv_I (nI t), WX] [] (J, L, Rf, n) Q := by
  intro m
  induction m with
  | zero =>
    intro J t ht h1 h2
    have h8 := mv_8 hQ.1
    refine ri_3 oX5_blinded_36 ?_
    refine ra_0 oX5_blinded_37 ?_
    refine rr_giv oX5_blinded_38 (ff_X5_84 rfl) kk_46 (wd_lt W rfl) ⟨by decide, rfl⟩ (show _ = nI (g_n G) from by rw [h2 46 (by omega)]; exact hQ.1.2.1) ?_
    refine rr_icmp_ge (tgt := 73) oX5_blinded_41 (by decide) (fun c => ?_) (fun c => ?_)
    rotate_left
    · exact absurd c (by rw [nI_le_iff (by omega) (by omega)]; omega)
    have e : t = g_n G := by omega
    subst e
    exact hP J h1 h2
  | succ m ih =>
    intro J t ht h1 h2
    have h8 := mv_8 hQ.1
    refine ri_3 oX5_blinded_36 ?_
    refine ra_0 oX5_blinded_37 ?_
    refine rr_giv oX5_blinded_38 (ff_X5_84 rfl) kk_46 (wd_lt W rfl) ⟨by decide, rfl⟩ (show _ = nI (g_n G) from by rw [h2 46 (by omega)]; exact hQ.1.2.1) ?_
    refine rr_icmp_ge (tgt := 73) oX5_blinded_41 (by decide) (fun c => ?_) (fun c => ?_)
    · (rw [nI_le_iff (by omega) (by omega)] at c; omega)
    have hQJ : mq_T J G dr sh := mq_ce hQ (fun f _ => by rw [h2 46 (by omega)]) (fun b q1 q2 => h2 b (by omega))
    have htn : t < g_n G := by omega
    refine ra_0 oX5_blinded_44 ?_
    refine rr_gr (v := 65) oX5_blinded_45 (ff_X5_78 rfl) kk_46 (wd_lt W rfl) ⟨by decide, rfl⟩ (wd_r W rfl rfl) ?_
    refine ri_3 oX5_blinded_48 ?_
    refine ra_0 oX5_blinded_49 ?_
    refine ri_3 oX5_blinded_50 ?_
    refine rr_cVi (c_X5_isHouse l W hQJ htn) oX5_blinded_51 (cv_X5_91 rfl) (by decide) kk_46 (by decide) hcn_5 (wd_lt W rfl) rfl rfl (Nat.le_of_ble_eq_true rfl) ?_
    refine rr_ifb_eq (tgt := 65) oX5_blinded_54 (by decide) (fun c1 => ?_) (fun c1 => ?_)
    · refine rk_0 oX5_blinded_65 ?_
      refine rr_ist oX5_blinded_66 kk_65 (wd_lt W rfl) rfl (by omega) (by decide) ?_
      refine rn_3 oX5_blinded_67 rfl rfl ?_
      refine rr_goto (tgt := 36) oX5_blinded_70 (by decide) ?_
      refine ih _ (t + 1) (by omega) (fun j hj => ?_) (fun b hb => by rw [up_I_ne hb]; exact h2 b hb)
      by_cases q : j = t
      · subst q
        rw [up_I_at]
        refine (st_e0.mpr (fun i _ => ?_)).symm
        cases z : p_se G dr sh j i with
        | false => rfl
        | true => exact absurd (se_in z).2.1.2 c1
      · rw [up_I_at_ne q]; exact h1 j (by omega)
    · refine ra_0 oX5_blinded_57 ?_
      refine ri_3 oX5_blinded_58 ?_
      refine rr_cVi (c_X5_seesInto l W hQJ htn c1) oX5_blinded_59 (cv_X5_204 rfl) (by decide) kk_46 (by decide) hcn_5 (wd_lt W rfl) rfl rfl (Nat.le_of_ble_eq_true rfl) ?_
      refine rr_goto (tgt := 66) oX5_blinded_62 (by decide) ?_
      refine rr_ist oX5_blinded_66 kk_65 (wd_lt W rfl) rfl (by omega) (by decide) ?_
      refine rn_3 oX5_blinded_67 rfl rfl ?_
      refine rr_goto (tgt := 36) oX5_blinded_70 (by decide) ?_
      refine ih _ (t + 1) (by omega) (fun j hj => ?_) (fun b hb => by rw [up_I_ne hb]; exact h2 b hb)
      by_cases q : j = t
      · subst q
        rw [up_I_at]
      · rw [up_I_at_ne q]; exact h1 j (by omega)
theorem lq_X5_blinded (l : Launch) {I : Nat → Nat → Int32} {L : Nat → Nat → Int64} {Rf : Nat → Nat → Option Nat} {n : Nat} {G G2 : gr_T} {dr : Nat → Bool} {sh : Nat → Nat → Bool} (W : wd_T Rf n) (hQ : mq_T I G2 dr sh) (hn : g_n G2 = g_n G) (hk2 : g_k G2 = g_k G) {a : Nat} {x2 : Int32} {Q : Option vv_T → mx_T → Prop} (h65 : ∀ j, j < g_n G → I 65 j = st_S (p_se G dr sh j)) {C : Int32} (hP : wm_W l mX5_blinded 18 0 0 135 [vv_A (some 46), vv_I (nI a), vv_I x2, vv_I C, vv_I (nI (g_n G))] [] (I, L, Rf, n) Q) : ∀ m t acc, t + m = g_n G → C = sm_N (fun j => nI (cn_8 (fun i => p_se G dr sh j i && !p_se G2 dr sh j i))) m t acc → wm_W l mX5_blinded 18 0 0 88 [vv_A (some 46), vv_I (nI a), vv_I x2, vv_I acc, vv_I (nI t)] [] (I, L, Rf, n) Q := by
  intro m
  induction m with
  | zero =>
    intro t acc ht h1
    have h8 : g_n G ≤ 8 := by have := mv_8 hQ.1; omega
    refine ri_4 oX5_blinded_88 ?_
    refine ra_0 oX5_blinded_90 ?_
    refine rr_giv oX5_blinded_91 (ff_X5_84 rfl) kk_46 (wd_lt W rfl) ⟨by decide, rfl⟩ (show _ = nI (g_n G) from by rw [← hn]; exact hQ.1.2.1) ?_
    refine rr_icmp_ge (tgt := 135) oX5_blinded_94 (by decide) (fun c => ?_) (fun c => ?_)
    rotate_left
    · exact absurd c (by rw [nI_le_iff (by omega) (by omega)]; omega)
    have e : t = g_n G := by omega
    subst e
    rw [show acc = C from h1.symm]
    exact hP
  | succ m ih =>
    intro t acc ht h1
    have h8 : g_n G ≤ 8 := by have := mv_8 hQ.1; omega
    refine ri_4 oX5_blinded_88 ?_
    refine ra_0 oX5_blinded_90 ?_
    refine rr_giv oX5_blinded_91 (ff_X5_84 rfl) kk_46 (wd_lt W rfl) ⟨by decide, rfl⟩ (show _ = nI (g_n G) from by rw [← hn]; exact hQ.1.2.1) ?_
    refine rr_icmp_ge (tgt := 135) oX5_blinded_94 (by decide) (fun c => ?_) (fun c => ?_)
    · (rw [nI_le_iff (by omega) (by omega)] at c; omega)
    have htn : t < g_n G := by omega
    have htn2 : t < g_n G2 := by omega
    refine ra_0 oX5_blinded_97 ?_
    refine ri_4 oX5_blinded_98 ?_
    refine rr_cVi (c_X5_isHouse l W hQ htn2) oX5_blinded_100 (cv_X5_91 rfl) (by decide) kk_46 (by decide) hcn_5 (wd_lt W rfl) rfl rfl (Nat.le_of_ble_eq_true rfl) ?_
    refine rr_ifb_eq (tgt := 129) oX5_blinded_103 (by decide) (fun c1 => ?_) (fun c1 => ?_)
    · refine rn_4 oX5_blinded_129 rfl rfl ?_
      refine rr_goto (tgt := 88) oX5_blinded_132 (by decide) ?_
      refine ih (t + 1) acc (by omega) ?_
      rw [h1]
      simp only [sm_N]
      rw [cn_0 (fun i => by
          cases z : p_se G dr sh t i with
          | false => rfl
          | true => exact absurd (by rw [hk2]; exact (se_in z).2.1.2) c1)]
      rw [show nI 0 = 0 from rfl, Int32.add_zero]
    · refine ri_3 oX5_blinded_106 ?_
      refine ra_0 oX5_blinded_107 ?_
      refine ra_0 oX5_blinded_108 ?_
      refine rr_gr (v := 65) oX5_blinded_109 (ff_X5_78 rfl) kk_46 (wd_lt W rfl) ⟨by decide, rfl⟩ (wd_r W rfl rfl) ?_
      refine ri_4 oX5_blinded_112 ?_
      refine rr_iv oX5_blinded_114 kk_65 (wd_lt W rfl) rfl (by omega) (by decide) (h65 t htn) ?_
      refine ra_0 oX5_blinded_115 ?_
      refine ri_4 oX5_blinded_116 ?_
      refine rr_cVi (c_X5_seesInto l W hQ htn2 c1) oX5_blinded_118 (cv_X5_204 rfl) (by decide) kk_46 (by decide) hcn_5 (wd_lt W rfl) rfl rfl (Nat.le_of_ble_eq_true rfl) ?_
      refine rk_m1 oX5_blinded_121 ?_
      refine rr_ixor oX5_blinded_122 ?_
      refine rr_iand oX5_blinded_123 ?_
      rw [st_not]
      refine rr_cVi (c_X5_many l) oX5_blinded_124 (cv_X5_107 rfl) (by decide) kk_46 (by decide) hcn_5 (wd_lt W rfl) rfl rfl (Nat.le_of_ble_eq_true rfl) ?_
      refine rr_iadd oX5_blinded_127 ?_
      refine si_3 oX5_blinded_128 rfl rfl ?_
      refine rn_4 oX5_blinded_129 rfl rfl ?_
      refine rr_goto (tgt := 88) oX5_blinded_132 (by decide) ?_
      refine ih (t + 1) _ (by omega) ?_
      rw [h1]
      simp only [sm_N]
theorem lt_X5_blinded (l : Launch) {I : Nat → Nat → Int32} {L : Nat → Nat → Int64} {Rf : Nat → Nat → Option Nat} {n : Nat} {S : sg_T} (W : wd_T Rf n) (hM : MR_T I L S) (hI : IV_T S) {J : Nat → Nat → Int32} {x2 : Int32} {WX : vv_T} {a : Nat} (ha : a < g_n (z_G S)) (els : s_lst S (nI a) = 0) (h1 : ∀ j, j < g_n (z_G S) → J 65 j = st_S (p_se (z_G S) (b_dr (z_B S)) (b_sh (z_B S)) j)) (h2 : ∀ b, b ≠ 65 → J b = I b) (hQJ : mq_T J (z_G S) (b_dr (z_B S)) (b_sh (z_B S))) : wm_W l mX5_blinded 18 0 0 135 [vv_A (some 46), vv_I (nI a), vv_I x2, vv_I (sm_N (fun j => nI (cn_8 (fun i => p_se (z_G S) (b_dr (z_B S)) (b_sh (z_B S)) j i && !p_se (g_st (z_G S) a) (b_dr (z_B S)) (b_sh (z_B S)) j i))) (g_n (z_G S)) 0 0), vv_I (nI (g_n (z_G S)))] [] (up_I J 51 a (g_h (z_G S) a + 1), L, Rf, n) (q_M (f_blinded S (nI a)).1 (f_blinded S (nI a)).2 I L Rf n) := by
  have hQ : mq_T I (z_G S) (b_dr (z_B S)) (b_sh (z_B S)) := mg_mq hM.1 hI.1
  have hG := hQ.1
  have h8 : g_n (z_G S) ≤ 8 := hI.1.1
  have hr : hr_T (z_G S) := hI.1.2.1
  have exa : ix_N (nI a) = a := nI_clamp (by omega)
  refine ra_0 oX5_blinded_135 ?_
  refine rr_gr (v := 51) oX5_blinded_136 (ff_X5_35 rfl) kk_46 (wd_lt W rfl) ⟨by decide, rfl⟩ (wd_r W rfl rfl) ?_
  refine ri_1 oX5_blinded_139 ?_
  refine rr_dup2 oX5_blinded_140 rfl rfl ?_
  refine rr_iv oX5_blinded_141 kk_51 (wd_lt W rfl) rfl (by omega) (by decide) (show _ = g_h (z_G S) a + 1 from up_I_at) ?_
  refine rk_1 oX5_blinded_142 ?_
  refine rr_isub oX5_blinded_143 ?_
  rw [Int32.add_sub_cancel]
  refine rr_ist oX5_blinded_144 kk_51 (wd_lt W rfl) rfl (by omega) (by decide) ?_
  rw [up_bk (mv_h hQJ.1 (by omega)).symm]
  refine ri_3 oX5_blinded_145 ?_
  exact rr_ireturn oX5_blinded_146 rfl rfl (q_M_an hM (J := J) ⟨fun f _ => by rw [h2 46 (by omega)], fun b q1 q2 q3 q4 => h2 b q4⟩ (show f_blinded S (nI a) = (_, S) from by rw [f_blinded, els, if_neg (fun q => q rfl), exa]) (sm_8 h8 (fun j hj _ => cn_0 (fun i => by
        cases z : p_se (z_G S) (b_dr (z_B S)) (b_sh (z_B S)) j i with
        | false => rfl
        | true => exact absurd (se_in z).2.1.1 (Nat.not_lt.mpr hj)))).symm)
theorem lr_X5_blinded (l : Launch) {I : Nat → Nat → Int32} {L : Nat → Nat → Int64} {Rf : Nat → Nat → Option Nat} {n : Nat} {S : sg_T} (W : wd_T Rf n) (hM : MR_T I L S) (hI : IV_T S) {J : Nat → Nat → Int32} {x2 : Int32} {WX : vv_T} {a : Nat} (ha : a < g_n (z_G S)) (els : s_lst S (nI a) = 0) (h1 : ∀ j, j < g_n (z_G S) → J 65 j = st_S (p_se (z_G S) (b_dr (z_B S)) (b_sh (z_B S)) j)) (h2 : ∀ b, b ≠ 65 → J b = I b) (hQJ : mq_T J (z_G S) (b_dr (z_B S)) (b_sh (z_B S))) : wm_W l mX5_blinded 18 0 0 73 [vv_A (some 46), vv_I (nI a), vv_I x2, vv_I (nI (g_n (z_G S))), WX] [] (J, L, Rf, n) (q_M (f_blinded S (nI a)).1 (f_blinded S (nI a)).2 I L Rf n) := by
  have hQ : mq_T I (z_G S) (b_dr (z_B S)) (b_sh (z_B S)) := mg_mq hM.1 hI.1
  have hG := hQ.1
  have h8 : g_n (z_G S) ≤ 8 := hI.1.1
  have hr : hr_T (z_G S) := hI.1.2.1
  refine ra_0 oX5_blinded_73 ?_
  refine rr_gr (v := 51) oX5_blinded_74 (ff_X5_35 rfl) kk_46 (wd_lt W rfl) ⟨by decide, rfl⟩ (wd_r W rfl rfl) ?_
  refine ri_1 oX5_blinded_77 ?_
  refine rr_dup2 oX5_blinded_78 rfl rfl ?_
  refine rr_iv oX5_blinded_79 kk_51 (wd_lt W rfl) rfl (by omega) (by decide) (mv_h hQJ.1 (by omega)) ?_
  refine rk_1 oX5_blinded_80 ?_
  refine rr_iadd oX5_blinded_81 ?_
  refine rr_ist oX5_blinded_82 kk_51 (wd_lt W rfl) rfl (by omega) (by decide) ?_
  refine rk_0 oX5_blinded_83 ?_
  refine si_3 oX5_blinded_84 rfl rfl ?_
  refine rk_0 oX5_blinded_85 ?_
  refine si_4 oX5_blinded_86 rfl rfl ?_
  refine lq_X5_blinded l (G := z_G S) W (mq_st (t := a) hQJ) rfl rfl (fun j hj => by rw [up_I_ne (by omega)]; exact h1 j hj) ?_ (g_n (z_G S)) 0 0 (Nat.zero_add _) rfl
  exact lt_X5_blinded (WX := vv_U) l W hM hI ha els h1 h2 hQJ
theorem c_X5_blinded (l : Launch) {I : Nat → Nat → Int32} {L : Nat → Nat → Int64} {Rf : Nat → Nat → Option Nat} {n : Nat} {S : sg_T} (W : wd_T Rf n) (hM : MR_T I L S) (hI : IV_T S) {t : Int32} : wm_C l mX5_blinded 18 0 0 [vv_A (some 46), vv_I t] (I, L, Rf, n) (q_M (f_blinded S t).1 (f_blinded S t).2 I L Rf n) := by
  refine wm_of (by decide) (Nat.le_of_ble_eq_true rfl) rfl ?_
  have hQ : mq_T I (z_G S) (b_dr (z_B S)) (b_sh (z_B S)) := mg_mq hM.1 hI.1
  have hG := hQ.1
  have h8 : g_n (z_G S) ≤ 8 := hI.1.1
  have hr : hr_T (z_G S) := hI.1.2.1
  refine ra_0 oX5_blinded_0 ?_
  refine ri_1 oX5_blinded_1 ?_
  refine rr_cVi (c_X5_barred l W hM hI) oX5_blinded_2 (cv_X5_127 rfl) (by decide) kk_46 (by decide) hcn_5 (wd_lt W rfl) rfl rfl (Nat.le_of_ble_eq_true rfl) ?_
  refine si_2 oX5_blinded_5 rfl rfl ?_
  refine ri_2 oX5_blinded_6 ?_
  refine rr_if_ne (tgt := 24) oX5_blinded_7 (by decide) (fun c => ?_) (fun c => ?_)
  · have hno := no_lh c
    have els := lst_0 c
    refine ri_2 oX5_blinded_24 ?_
    refine rr_if_eq (tgt := 34) oX5_blinded_25 (by decide) (fun c9 => ?_) (fun c9 => ?_)
    · exact absurd c9 c
    refine ra_0 oX5_blinded_28 ?_
    refine ri_2 oX5_blinded_29 ?_
    refine rr_cVi (c_X5_no l W hno.1 hno.2) oX5_blinded_30 (cv_X5_97 rfl) (by decide) kk_46 (by decide) hcn_5 (wd_lt W rfl) rfl rfl (Nat.le_of_ble_eq_true rfl) ?_
    exact rr_ireturn oX5_blinded_33 rfl rfl (q_M_nov hM me_rf (by rw [f_blinded, els, if_pos c]) hno.1)
  · obtain ⟨a, b, ⟨ha, rfl, ha2⟩, ⟨hb, e2, hb2⟩⟩ := s_lh_0 h8 c
    have exa : ix_N (nI a) = a := nI_clamp (by omega)
    refine ra_0 oX5_blinded_10 ?_
    refine rr_gr (v := 51) oX5_blinded_11 (ff_X5_35 rfl) kk_46 (wd_lt W rfl) ⟨by decide, rfl⟩ (wd_r W rfl rfl) ?_
    refine ri_1 oX5_blinded_14 ?_
    refine rr_iv oX5_blinded_15 kk_51 (wd_lt W rfl) rfl (by omega) (by decide) (mv_h hG (by omega)) ?_
    refine rr_bipush (v := 20) oX5_blinded_16 (by decide) ?_
    refine rr_icmp_ne (tgt := 24) oX5_blinded_18 (by decide) (fun c1 => ?_) (fun c1 => ?_)
    · have els : s_lst S (nI a) = 0 := by rw [s_lst, if_neg (fun q => c1 ((h_20 hI ha ha2).mp (by have := q.2; rw [exa] at this; exact this))), c]
      refine ri_2 oX5_blinded_24 ?_
      refine rr_if_eq (tgt := 34) oX5_blinded_25 (by decide) (fun c9 => ?_) (fun c9 => ?_)
      rotate_left
      · exact absurd c c9
      refine rk_0 oX5_blinded_34 ?_
      refine si_3 oX5_blinded_35 rfl rfl ?_
      refine lp_X5_blinded l W hQ (fun J h1 h2 => ?_) (g_n (z_G S)) I 0 (Nat.zero_add _) (fun j hj => absurd hj (by omega)) (fun _ _ => rfl)
      have hQJ : mq_T J (z_G S) (b_dr (z_B S)) (b_sh (z_B S)) := mq_ce hQ (fun f _ => by rw [h2 46 (by omega)]) (fun b q1 q2 => h2 b (by omega))
      exact lr_X5_blinded l W hM hI ha els h1 h2 hQJ
    · have els : s_lst S (nI a) = -6 := by rw [s_lst, if_pos ⟨c, by rw [exa]; exact (h_20 hI ha ha2).mpr c1⟩]
      refine rr_bipush (v := (-6)) oX5_blinded_21 (by decide) ?_
      refine si_2 oX5_blinded_23 rfl rfl ?_
      refine ri_2 oX5_blinded_24 ?_
      refine rr_if_eq (tgt := 34) oX5_blinded_25 (by decide) (fun q => absurd q (by decide)) (fun _ => ?_)
      refine ra_0 oX5_blinded_28 ?_
      refine ri_2 oX5_blinded_29 ?_
      refine rr_cVi (c_X5_no l W (c := 6) (by decide) (by decide)) oX5_blinded_30 (cv_X5_97 rfl) (by decide) kk_46 (by decide) hcn_5 (wd_lt W rfl) rfl rfl (Nat.le_of_ble_eq_true rfl) ?_
      exact rr_ireturn oX5_blinded_33 rfl rfl (q_M_noc hM me_rf (show _ = f_no S (-6) from by rw [f_blinded, els, if_pos (by decide)]) (by decide) (by decide))
theorem dr_x {p w : Bool} : (1 : Int32) - (if p = true then 1 else 0) = if (p ^^ true) = true then 1 else 0 := by cases p <;> decide
theorem dr_y {p : Bool} : (1 : Int32) - (1 - (if p = true then 1 else 0)) = if p = true then 1 else 0 := by cases p <;> decide
theorem mq_nt {I : Nat → Nat → Int32} {G : gr_T} {dr : Nat → Bool} {sh : Nat → Nat → Bool} {t : Nat} (h : mq_T I G dr sh) (ht : t < 8) : mq_T (up_I I 53 t (1 - (if dr t = true then 1 else 0))) G (fun q => dr q ^^ decide (q = t)) sh := by
  refine mq_dr h (fun i hi => ?_) (fun a ha => up_I_ne ha)
  by_cases e : i = t
  · subst e
    rw [up_I_at, decide_eq_true rfl]
    exact dr_x (w := true)
  · rw [up_I_at_ne e, decide_eq_false e, Bool.xor_false]
    exact h.2.1 i hi
def nt_p (S : sg_T) (r : Int32) (i : Nat) : Bool := p_h (z_G S) i && (st_S (p_ri (z_G S) (fun q => b_dr (z_B S) q ^^ decide (q = i)) (b_sh (z_B S))) == r)
theorem nt_n {S : sg_T} {r : Int32} (h8 : g_n (z_G S) ≤ 8) : bs_N (nt_p S r) 8 0 0 = bs_N (nt_p S r) (g_n (z_G S)) 0 0 := by
  rw [bs_st _ h8]
  refine st_c (fun i _ => ?_)
  cases z : nt_p S r i with
  | false => simp
  | true =>
    simp only [nt_p, p_h, Bool.and_eq_true, decide_eq_true_eq] at z
    rw [decide_eq_true z.1.1]
    rfl
theorem no_neg {r : Int32} {p : Nat → Bool} (hr : r < 0) : ¬ r &&& (st_S p ^^^ (-1)) = 0 := by
  intro h
  have h31 : bt_B r 31 = true := by
    have := Int32.lt_iff_toInt_lt.mp hr
    rw [show (0 : Int32).toInt = 0 by decide] at this
    unfold bt_B
    have e1 : r.toBitVec.msb = decide (r.toInt < 0) := BitVec.msb_eq_toInt
    rw [decide_eq_true this, BitVec.msb_eq_getLsbD_last] at e1
    exact e1
  have h0 : bt_B (r &&& (st_S p ^^^ (-1))) 31 = bt_B 0 31 := by rw [h]
  rw [bt_and, bt_xor, bt_st, h31, bt_m1 31 (by omega), bt_0, show decide (31 < 8) = false from rfl] at h0
  simp at h0
theorem lp_X5_night (l : Launch) {I : Nat → Nat → Int32} {L : Nat → Nat → Int64} {Rf : Nat → Nat → Option Nat} {n : Nat} {S : sg_T} (W : wd_T Rf n) (hM : MR_T I L S) (hI : IV_T S) {r C : Int32} {Q : Option vv_T → mx_T → Prop} (hP : Q (some (vv_I C)) (I, L, Rf, n)) : ∀ m t acc, t + m = g_n (z_G S) → C = bs_N (nt_p S r) m t acc → wm_W l mX5_night 19 0 0 26 [vv_A (some 46), vv_I r, vv_I acc, vv_I (nI t)] [] (I, L, Rf, n) Q := by
  intro m
  induction m with
  | zero =>
    intro t acc ht h1
    have hQ : mq_T I (z_G S) (b_dr (z_B S)) (b_sh (z_B S)) := mg_mq hM.1 hI.1
    have hG := hQ.1
    have h8 : g_n (z_G S) ≤ 8 := hI.1.1
    have hr : hr_T (z_G S) := hI.1.2.1
    refine ri_3 oX5_night_26 ?_
    refine ra_0 oX5_night_27 ?_
    refine rr_giv oX5_night_28 (ff_X5_84 rfl) kk_46 (wd_lt W rfl) ⟨by decide, rfl⟩ (mv_c hG) ?_
    refine rr_icmp_ge (tgt := 93) oX5_night_31 (by decide) (fun c => ?_) (fun c => ?_)
    rotate_left
    · exact absurd c (by rw [nI_le_iff (by omega) (by omega)]; omega)
    refine ri_2 oX5_night_93 ?_
    exact rr_ireturn oX5_night_94 rfl rfl (by rw [show acc = C from h1.symm]; exact hP)
  | succ m ih =>
    intro t acc ht h1
    have hQ : mq_T I (z_G S) (b_dr (z_B S)) (b_sh (z_B S)) := mg_mq hM.1 hI.1
    have hG := hQ.1
    have h8 : g_n (z_G S) ≤ 8 := hI.1.1
    have hr : hr_T (z_G S) := hI.1.2.1
    refine ri_3 oX5_night_26 ?_
    refine ra_0 oX5_night_27 ?_
    refine rr_giv oX5_night_28 (ff_X5_84 rfl) kk_46 (wd_lt W rfl) ⟨by decide, rfl⟩ (mv_c hG) ?_
    refine rr_icmp_ge (tgt := 93) oX5_night_31 (by decide) (fun c => ?_) (fun c => ?_)
    · (rw [nI_le_iff (by omega) (by omega)] at c; omega)
    have htn : t < g_n (z_G S) := by omega
    refine ra_0 oX5_night_34 ?_
    refine ri_3 oX5_night_35 ?_
    refine rr_cVi (c_X5_isHouse l W hQ (by omega)) oX5_night_36 (cv_X5_91 rfl) (by decide) kk_46 (by decide) hcn_5 (wd_lt W rfl) rfl rfl (Nat.le_of_ble_eq_true rfl) ?_
    refine rr_ifb_ne (tgt := 45) oX5_night_39 (by decide) (fun c1 => ?_) (fun c1 => ?_)
    · have hph : p_h (z_G S) t = true := by simp only [p_h, decide_eq_true htn, decide_eq_true c1, Bool.and_self]
      refine ra_0 oX5_night_45 ?_
      refine rr_gr (v := 53) oX5_night_46 (ff_X5_41 rfl) kk_46 (wd_lt W rfl) ⟨by decide, rfl⟩ (wd_r W rfl rfl) ?_
      refine ri_3 oX5_night_49 ?_
      refine rk_1 oX5_night_50 ?_
      refine ra_0 oX5_night_51 ?_
      refine rr_gr (v := 53) oX5_night_52 (ff_X5_41 rfl) kk_46 (wd_lt W rfl) ⟨by decide, rfl⟩ (wd_r W rfl rfl) ?_
      refine ri_3 oX5_night_55 ?_
      refine rr_iv oX5_night_56 kk_53 (wd_lt W rfl) rfl (by omega) (by decide) (hQ.2.1 t (by omega)) ?_
      refine rr_isub oX5_night_57 ?_
      refine rr_ist oX5_night_58 kk_53 (wd_lt W rfl) rfl (by omega) (by decide) ?_
      refine ra_0 oX5_night_59 ?_
      refine rr_cVi (c_X5_allRight l W (mq_nt (t := t) hQ (by omega))) oX5_night_60 (cv_X5_210 rfl) (by decide) kk_46 (by decide) hcn_5 (wd_lt W rfl) rfl rfl (Nat.le_of_ble_eq_true rfl) ?_
      refine ri_1 oX5_night_63 ?_
      refine rr_icmp_ne (tgt := 73) oX5_night_64 (by decide) (fun c2 => ?_) (fun c2 => ?_)
      · refine ra_0 oX5_night_73 ?_
        refine rr_gr (v := 53) oX5_night_74 (ff_X5_41 rfl) kk_46 (wd_lt W rfl) ⟨by decide, rfl⟩ (wd_r W rfl rfl) ?_
        refine ri_3 oX5_night_77 ?_
        refine rk_1 oX5_night_78 ?_
        refine ra_0 oX5_night_79 ?_
        refine rr_gr (v := 53) oX5_night_80 (ff_X5_41 rfl) kk_46 (wd_lt W rfl) ⟨by decide, rfl⟩ (wd_r W rfl rfl) ?_
        refine ri_3 oX5_night_83 ?_
        refine rr_iv oX5_night_84 kk_53 (wd_lt W rfl) rfl (by omega) (by decide) (show _ = (1 : Int32) - (if b_dr (z_B S) t = true then 1 else 0) from up_I_at) ?_
        refine rr_isub oX5_night_85 ?_
        rw [dr_y]
        refine rr_ist oX5_night_86 kk_53 (wd_lt W rfl) rfl (by omega) (by decide) ?_
        rw [up_bk (hQ.2.1 t (by omega)).symm]
        refine rn_3 oX5_night_87 rfl rfl ?_
        refine rr_goto (tgt := 26) oX5_night_90 (by decide) ?_
        refine ih (t + 1) acc (by omega) ?_
        rw [h1]
        simp only [bs_N]
        rw [if_neg (by simp only [nt_p, hph, Bool.true_and, beq_iff_eq]; exact c2)]
      · refine ri_2 oX5_night_67 ?_
        refine rk_1 oX5_night_68 ?_
        refine ri_3 oX5_night_69 ?_
        refine rr_ishl oX5_night_70 ?_
        refine rr_ior oX5_night_71 ?_
        refine si_2 oX5_night_72 rfl rfl ?_
        refine ra_0 oX5_night_73 ?_
        refine rr_gr (v := 53) oX5_night_74 (ff_X5_41 rfl) kk_46 (wd_lt W rfl) ⟨by decide, rfl⟩ (wd_r W rfl rfl) ?_
        refine ri_3 oX5_night_77 ?_
        refine rk_1 oX5_night_78 ?_
        refine ra_0 oX5_night_79 ?_
        refine rr_gr (v := 53) oX5_night_80 (ff_X5_41 rfl) kk_46 (wd_lt W rfl) ⟨by decide, rfl⟩ (wd_r W rfl rfl) ?_
        refine ri_3 oX5_night_83 ?_
        refine rr_iv oX5_night_84 kk_53 (wd_lt W rfl) rfl (by omega) (by decide) (show _ = (1 : Int32) - (if b_dr (z_B S) t = true then 1 else 0) from up_I_at) ?_
        refine rr_isub oX5_night_85 ?_
        rw [dr_y]
        refine rr_ist oX5_night_86 kk_53 (wd_lt W rfl) rfl (by omega) (by decide) ?_
        rw [up_bk (hQ.2.1 t (by omega)).symm]
        refine rn_3 oX5_night_87 rfl rfl ?_
        refine rr_goto (tgt := 26) oX5_night_90 (by decide) ?_
        refine ih (t + 1) _ (by omega) ?_
        rw [h1]
        simp only [bs_N]
        rw [if_pos (by simp only [nt_p, hph, Bool.true_and, beq_iff_eq]; exact c2)]
    · have hph : p_h (z_G S) t = false := by simp only [p_h, decide_eq_true htn, decide_eq_false c1, Bool.and_false]
      refine rr_goto (tgt := 87) oX5_night_42 (by decide) ?_
      refine rn_3 oX5_night_87 rfl rfl ?_
      refine rr_goto (tgt := 26) oX5_night_90 (by decide) ?_
      refine ih (t + 1) acc (by omega) ?_
      rw [h1]
      simp only [bs_N]
      rw [if_neg (by simp only [nt_p, hph, Bool.false_and]; decide)]
theorem c_X5_night (l : Launch) {I : Nat → Nat → Int32} {L : Nat → Nat → Int64} {Rf : Nat → Nat → Option Nat} {n : Nat} {S : sg_T} (W : wd_T Rf n) (hM : MR_T I L S) (hI : IV_T S) {r : Int32} : wm_C l mX5_night 19 0 0 [vv_A (some 46), vv_I r] (I, L, Rf, n) (q_M (f_night S r).1 (f_night S r).2 I L Rf n) := by
  refine wm_of (by decide) (Nat.le_of_ble_eq_true rfl) rfl ?_
  have hQ : mq_T I (z_G S) (b_dr (z_B S)) (b_sh (z_B S)) := mg_mq hM.1 hI.1
  have hG := hQ.1
  have h8 : g_n (z_G S) ≤ 8 := hI.1.1
  have hr : hr_T (z_G S) := hI.1.2.1
  refine ri_1 oX5_night_0 ?_
  refine rr_if_lt (tgt := 15) oX5_night_1 (by decide) (fun c => ?_) (fun c => ?_)
  · refine ra_0 oX5_night_15 ?_
    refine rr_bipush (v := (-6)) oX5_night_16 (by decide) ?_
    refine rr_cVi (c_X5_no l W (c := 6) (by decide) (by decide)) oX5_night_18 (cv_X5_97 rfl) (by decide) kk_46 (by decide) hcn_5 (wd_lt W rfl) rfl rfl (Nat.le_of_ble_eq_true rfl) ?_
    exact rr_ireturn oX5_night_21 rfl rfl (q_M_noc hM me_rf (show _ = f_no S (-6) from by rw [f_night, if_pos (no_neg c)]) (by decide) (by decide))
  · refine ri_1 oX5_night_4 ?_
    refine ra_0 oX5_night_5 ?_
    refine rr_cVi (c_X5_houses l W hQ) oX5_night_6 (cv_X5_235 rfl) (by decide) kk_46 (by decide) hcn_5 (wd_lt W rfl) rfl rfl (Nat.le_of_ble_eq_true rfl) ?_
    refine rk_m1 oX5_night_9 ?_
    refine rr_ixor oX5_night_10 ?_
    refine rr_iand oX5_night_11 ?_
    refine rr_if_eq (tgt := 22) oX5_night_12 (by decide) (fun c1 => ?_) (fun c1 => ?_)
    · refine rk_0 oX5_night_22 ?_
      refine si_2 oX5_night_23 rfl rfl ?_
      refine rk_0 oX5_night_24 ?_
      refine si_3 oX5_night_25 rfl rfl ?_
      refine lp_X5_night l W hM hI (q_M_an hM me_rf ?_ rfl) (g_n (z_G S)) 0 0 (Nat.zero_add _) rfl
      rw [f_night, if_neg (fun q => q c1), ← nt_n h8]
      rfl
    · refine ra_0 oX5_night_15 ?_
      refine rr_bipush (v := (-6)) oX5_night_16 (by decide) ?_
      refine rr_cVi (c_X5_no l W (c := 6) (by decide) (by decide)) oX5_night_18 (cv_X5_97 rfl) (by decide) kk_46 (by decide) hcn_5 (wd_lt W rfl) rfl rfl (Nat.le_of_ble_eq_true rfl) ?_
      exact rr_ireturn oX5_night_21 rfl rfl (q_M_noc hM me_rf (show _ = f_no S (-6) from by rw [f_night, if_pos c1]) (by decide) (by decide))
