/-! the model: bodies (by program: wip/whole/c45.py) -/
def mo_T (I J : Nat → Nat → Int32) : Prop := (∀ f, f ≠ 36 → J 46 f = I 46 f) ∧ ∀ q, q ≠ 46 → q ≠ 66 → J q = I q
theorem mo_rf {I : Nat → Nat → Int32} : mo_T I I := ⟨fun _ _ => rfl, fun _ _ _ => rfl⟩
theorem mo_tr {I J K : Nat → Nat → Int32} (h1 : mo_T I J) (h2 : mo_T J K) : mo_T I K := ⟨fun f q => (h2.1 f q).trans (h1.1 f q), fun a q1 q2 => (h2.2 a q1 q2).trans (h1.2 a q1 q2)⟩
theorem mq_ce {I J : Nat → Nat → Int32} {G : gr_T} {dr : Nat → Bool} {sh : Nat → Nat → Bool} (h : mq_T I G dr sh) (h0 : ∀ f, f < 3 → J 46 f = I 46 f) (ha : ∀ a, 48 ≤ a → a ≤ 54 → J a = I a) : mq_T J G dr sh := by
  obtain ⟨⟨g1, g2, g3, g4, g5⟩, h2, h3, h4, h5⟩ := h
  exact ⟨⟨g1, by rw [h0 0 (by omega)]; exact g2, by rw [h0 1 (by omega)]; exact g3, by rw [h0 2 (by omega)]; exact g4, fun t ht => by rw [ha 48 (by omega) (by omega), ha 49 (by omega) (by omega), ha 50 (by omega) (by omega), ha 51 (by omega) (by omega), ha 52 (by omega) (by omega)]; exact g5 t ht⟩, fun t ht => by rw [ha 53 (by omega) (by omega)]; exact h2 t ht, fun t ht => by rw [ha 54 (by omega) (by omega)]; exact h3 t ht, h4, h5⟩
def bc_T (I : Nat → Nat → Int32) (G : gr_T) (dr : Nat → Bool) (sh : Nat → Nat → Bool) (A : (Nat → Int32) × Nat) : Prop := mq_T I G dr sh ∧ I 46 36 = nI A.2 ∧ A.2 < 1000 ∧ ∀ i, i < 20 → I 66 i = A.1 i
theorem c_X5_body (l : Launch) {I : Nat → Nat → Int32} {L : Nat → Nat → Int64} {Rf : Nat → Nat → Option Nat} {n : Nat} {G : gr_T} {dr : Nat → Bool} {sh : Nat → Nat → Bool} {A : (Nat → Int32) × Nat} (W : wd_T Rf n) (hbc : bc_T I G dr sh A)  {b : Int32} (hA : A.2 < 900) : wm_C l mX5_body 1 0 0 [vv_A (some 46), vv_I b] (I, L, Rf, n) (q_m (fun J => bc_T J G dr sh (bd_N A b) ∧ mo_T I J) L Rf n) := by
  refine wm_of (by decide) (Nat.le_of_ble_eq_true rfl) rfl ?_
  have hr36 := hbc.2.1
  refine ra_0 oX5_body_0 ?_
  refine rr_giv oX5_body_1 (ff_X5_270 rfl) kk_46 (wd_lt W rfl) ⟨by decide, rfl⟩ hbc.2.1 ?_
  refine rr_bipush (v := 20) oX5_body_4 (by decide) ?_
  refine rr_icmp_ge (tgt := 19) oX5_body_6 (by decide) (fun c => ?_) (fun c => ?_)
  · rw [show (20 : Int32) = nI 20 from rfl, nI_le_iff (by omega) (by omega)] at c
    refine ra_0 oX5_body_19 ?_
    refine rr_dup oX5_body_20 rfl ?_
    refine rr_giv oX5_body_21 (ff_X5_270 rfl) kk_46 (wd_lt W rfl) ⟨by decide, rfl⟩ hbc.2.1 ?_
    refine rk_1 oX5_body_24 ?_
    refine rr_iadd oX5_body_25 ?_
    rw [nI_1]
    refine rr_pi oX5_body_26 (ff_X5_270 rfl) kk_46 (wd_lt W rfl) ⟨by decide, rfl, by decide⟩ pf_5_36 ⟨rfl, rfl⟩ ?_
    exact rr_return oX5_body_29 rfl (q_m_of ⟨⟨mq_ce hbc.1 (fun f hf => up_I_at_ne (by omega)) (fun a q1 q2 => up_I_ne (by omega)), up_I_at, by rw [bd_2]; omega, fun i hi => by rw [up_I_ne (by omega)]; simp only [bd_N, if_neg (show ¬ A.2 < 20 by omega)]; exact hbc.2.2.2 i hi⟩, fun f hf => up_I_at_ne hf, fun q q1 _ => up_I_ne q1⟩)
  · rw [show (20 : Int32) = nI 20 from rfl, nI_le_iff (by omega) (by omega)] at c
    refine ra_0 oX5_body_9 ?_
    refine rr_gr (v := 66) oX5_body_10 (ff_X5_81 rfl) kk_46 (wd_lt W rfl) ⟨by decide, rfl⟩ (wd_r W rfl rfl) ?_
    refine ra_0 oX5_body_13 ?_
    refine rr_giv oX5_body_14 (ff_X5_270 rfl) kk_46 (wd_lt W rfl) ⟨by decide, rfl⟩ hbc.2.1 ?_
    refine ri_1 oX5_body_17 ?_
    refine rr_ist oX5_body_18 kk_66 (wd_lt W rfl) rfl (by omega) (by decide) ?_
    refine ra_0 oX5_body_19 ?_
    refine rr_dup oX5_body_20 rfl ?_
    refine rr_giv oX5_body_21 (ff_X5_270 rfl) kk_46 (wd_lt W rfl) ⟨by decide, rfl⟩ (show _ = nI A.2 from by rw [up_I_ne (by omega)]; exact hbc.2.1) ?_
    refine rk_1 oX5_body_24 ?_
    refine rr_iadd oX5_body_25 ?_
    rw [nI_1]
    refine rr_pi oX5_body_26 (ff_X5_270 rfl) kk_46 (wd_lt W rfl) ⟨by decide, rfl, by decide⟩ pf_5_36 ⟨rfl, rfl⟩ ?_
    exact rr_return oX5_body_29 rfl (q_m_of ⟨⟨mq_ce hbc.1 (fun f hf => by rw [up_I_at_ne (by omega), up_I_ne (by omega)]) (fun a q1 q2 => by rw [up_I_ne (by omega), up_I_ne (by omega)]), up_I_at, by rw [bd_2]; omega, fun i hi => by rw [up_I_ne (by omega), up_I_eq]; simp only [bd_N, if_pos (show A.2 < 20 by omega)]; by_cases q : i = A.2 <;> simp only [upd, q, if_true, if_false]; exact hbc.2.2.2 i hi⟩, fun f hf => by rw [up_I_at_ne hf, up_I_ne (by omega)], fun q q1 q2 => by rw [up_I_ne q1, up_I_ne q2]⟩)
theorem c0_X5_standing (l : Launch) {I : Nat → Nat → Int32} {L : Nat → Nat → Int64} {Rf : Nat → Nat → Option Nat} {n : Nat} {G : gr_T} {dr : Nat → Bool} {sh : Nat → Nat → Bool} {A : (Nat → Int32) × Nat} (W : wd_T Rf n) (hbc : bc_T I G dr sh A)  {t : Nat} (ht : t < g_n G) {x : Int32} (hk : g_k G t = 0) (hA : A.2 < 890) : wm_C l mX5_standing 3 0 0 [vv_A (some 46), vv_I (nI t), vv_I x] (I, L, Rf, n) (q_n (fun v J => v = s_stv 0 (nI t) (g_a G t) x ∧ bc_T J G dr sh (s_stA 0 A) ∧ mo_T I J) L Rf n) := by
  refine wm_of (by decide) (Nat.le_of_ble_eq_true rfl) rfl ?_
  have hmo : mo_T I I := mo_rf
  have h8 := mv_8 hbc.1.1
  refine ra_0 oX5_standing_0 ?_
  refine rr_gr (v := 48) oX5_standing_1 (ff_X5_26 rfl) kk_46 (wd_lt W rfl) ⟨by decide, rfl⟩ (wd_r W rfl rfl) ?_
  refine ri_1 oX5_standing_4 ?_
  refine rr_iv oX5_standing_5 kk_48 (wd_lt W rfl) rfl (by omega) (by decide) ((mv_k hbc.1.1 (by omega)).trans hk) ?_
  refine si_3 oX5_standing_6 rfl rfl ?_
  refine ra_0 oX5_standing_7 ?_
  refine ri_1 oX5_standing_8 ?_
  refine rr_cVi (c_X5_isHouse l W hbc.1 ht) oX5_standing_9 (cv_X5_91 rfl) (by decide) kk_46 (by decide) hcn_5 (wd_lt W rfl) rfl rfl (Nat.le_of_ble_eq_true rfl) ?_
  rw [hk]
  refine si_4 oX5_standing_12 rfl rfl ?_
  refine ri_3 oX5_standing_14 ?_
  refine rk_4 oX5_standing_15 ?_
  refine rr_icmp_ne (tgt := 25) oX5_standing_16 (by decide) (fun _ => ?_) (fun q => absurd q (by decide))
  refine ri_3 oX5_standing_25 ?_
  refine rr_bipush (v := 6) oX5_standing_26 (by decide) ?_
  refine rr_icmp_ne (tgt := 37) oX5_standing_28 (by decide) (fun _ => ?_) (fun q => absurd q (by decide))
  refine ri_4 oX5_standing_37 ?_
  refine rr_ifb_eq (tgt := 48) oX5_standing_39 (by decide) (fun c39 => ?_) (fun c39 => ?_)
  rotate_left
  · exact absurd c39 (by decide)
  refine ra_0 oX5_standing_48 ?_
  refine rr_bipush (v := 10) oX5_standing_49 (by decide) ?_
  refine rr_cVm (c_X5_body l W hbc (by first | omega | (simp only [bd_2]; omega))) oX5_standing_51 (cv_X5_273 rfl) (by decide) kk_46 (by decide) hcn_5 (wd_lt W rfl) rfl rfl (Nat.le_of_ble_eq_true rfl) (fun J hJ => ?_)
  obtain ⟨hbc, hmo2⟩ := hJ
  replace hmo := mo_tr hmo hmo2
  refine ri_4 oX5_standing_54 ?_
  refine rr_ifb_eq (tgt := 72) oX5_standing_56 (by decide) (fun c56 => ?_) (fun c56 => ?_)
  rotate_left
  · exact absurd c56 (by decide)
  refine ri_2 oX5_standing_72 ?_
  refine ri_1 oX5_standing_73 ?_
  refine rr_iadd oX5_standing_74 ?_
  refine si_5 oX5_standing_75 rfl rfl ?_
  refine ri_3 oX5_standing_77 ?_
  refine rk_4 oX5_standing_78 ?_
  refine rr_icmp_ne (tgt := 89) oX5_standing_79 (by decide) (fun _ => ?_) (fun q => absurd q (by decide))
  refine ri_3 oX5_standing_89 ?_
  refine rr_bipush (v := 6) oX5_standing_90 (by decide) ?_
  refine rr_icmp_ne (tgt := 102) oX5_standing_92 (by decide) (fun _ => ?_) (fun q => absurd q (by decide))
  refine ri_5 oX5_standing_102 ?_
  exact rr_ireturn oX5_standing_104 rfl rfl (q_n_of ⟨rfl, hbc, hmo⟩)
theorem c1_X5_standing (l : Launch) {I : Nat → Nat → Int32} {L : Nat → Nat → Int64} {Rf : Nat → Nat → Option Nat} {n : Nat} {G : gr_T} {dr : Nat → Bool} {sh : Nat → Nat → Bool} {A : (Nat → Int32) × Nat} (W : wd_T Rf n) (hbc : bc_T I G dr sh A)  {t : Nat} (ht : t < g_n G) {x : Int32} (hk : g_k G t = 1) (hA : A.2 < 890) : wm_C l mX5_standing 3 0 0 [vv_A (some 46), vv_I (nI t), vv_I x] (I, L, Rf, n) (q_n (fun v J => v = s_stv 1 (nI t) (g_a G t) x ∧ bc_T J G dr sh (s_stA 1 A) ∧ mo_T I J) L Rf n) := by
  refine wm_of (by decide) (Nat.le_of_ble_eq_true rfl) rfl ?_
  have hmo : mo_T I I := mo_rf
  have h8 := mv_8 hbc.1.1
  refine ra_0 oX5_standing_0 ?_
  refine rr_gr (v := 48) oX5_standing_1 (ff_X5_26 rfl) kk_46 (wd_lt W rfl) ⟨by decide, rfl⟩ (wd_r W rfl rfl) ?_
  refine ri_1 oX5_standing_4 ?_
  refine rr_iv oX5_standing_5 kk_48 (wd_lt W rfl) rfl (by omega) (by decide) ((mv_k hbc.1.1 (by omega)).trans hk) ?_
  refine si_3 oX5_standing_6 rfl rfl ?_
  refine ra_0 oX5_standing_7 ?_
  refine ri_1 oX5_standing_8 ?_
  refine rr_cVi (c_X5_isHouse l W hbc.1 ht) oX5_standing_9 (cv_X5_91 rfl) (by decide) kk_46 (by decide) hcn_5 (wd_lt W rfl) rfl rfl (Nat.le_of_ble_eq_true rfl) ?_
  rw [hk]
  refine si_4 oX5_standing_12 rfl rfl ?_
  refine ri_3 oX5_standing_14 ?_
  refine rk_4 oX5_standing_15 ?_
  refine rr_icmp_ne (tgt := 25) oX5_standing_16 (by decide) (fun _ => ?_) (fun q => absurd q (by decide))
  refine ri_3 oX5_standing_25 ?_
  refine rr_bipush (v := 6) oX5_standing_26 (by decide) ?_
  refine rr_icmp_ne (tgt := 37) oX5_standing_28 (by decide) (fun _ => ?_) (fun q => absurd q (by decide))
  refine ri_4 oX5_standing_37 ?_
  refine rr_ifb_eq (tgt := 48) oX5_standing_39 (by decide) (fun c39 => ?_) (fun c39 => ?_)
  · exact absurd c39 (by decide)
  refine ra_0 oX5_standing_42 ?_
  refine rr_bipush (v := 20) oX5_standing_43 (by decide) ?_
  refine rr_cVm (c_X5_body l W hbc (by first | omega | (simp only [bd_2]; omega))) oX5_standing_45 (cv_X5_273 rfl) (by decide) kk_46 (by decide) hcn_5 (wd_lt W rfl) rfl rfl (Nat.le_of_ble_eq_true rfl) (fun J hJ => ?_)
  obtain ⟨hbc, hmo2⟩ := hJ
  replace hmo := mo_tr hmo hmo2
  refine ra_0 oX5_standing_48 ?_
  refine rr_bipush (v := 10) oX5_standing_49 (by decide) ?_
  refine rr_cVm (c_X5_body l W hbc (by first | omega | (simp only [bd_2]; omega))) oX5_standing_51 (cv_X5_273 rfl) (by decide) kk_46 (by decide) hcn_5 (wd_lt W rfl) rfl rfl (Nat.le_of_ble_eq_true rfl) (fun J hJ => ?_)
  obtain ⟨hbc, hmo2⟩ := hJ
  replace hmo := mo_tr hmo hmo2
  refine ri_4 oX5_standing_54 ?_
  refine rr_ifb_eq (tgt := 72) oX5_standing_56 (by decide) (fun c56 => ?_) (fun c56 => ?_)
  · exact absurd c56 (by decide)
  refine ri_2 oX5_standing_59 ?_
  refine ri_1 oX5_standing_60 ?_
  refine rr_iadd oX5_standing_61 ?_
  refine ra_0 oX5_standing_62 ?_
  refine rr_gr (v := 52) oX5_standing_63 (ff_X5_38 rfl) kk_46 (wd_lt W rfl) ⟨by decide, rfl⟩ (wd_r W rfl rfl) ?_
  refine ri_1 oX5_standing_66 ?_
  refine rr_iv oX5_standing_67 kk_52 (wd_lt W rfl) rfl (by omega) (by decide) (mv_a hbc.1.1 (by omega)) ?_
  refine rr_iadd oX5_standing_68 ?_
  refine rr_goto (tgt := 75) oX5_standing_69 (by decide) ?_
  refine si_5 oX5_standing_75 rfl rfl ?_
  refine ri_3 oX5_standing_77 ?_
  refine rk_4 oX5_standing_78 ?_
  refine rr_icmp_ne (tgt := 89) oX5_standing_79 (by decide) (fun _ => ?_) (fun q => absurd q (by decide))
  refine ri_3 oX5_standing_89 ?_
  refine rr_bipush (v := 6) oX5_standing_90 (by decide) ?_
  refine rr_icmp_ne (tgt := 102) oX5_standing_92 (by decide) (fun _ => ?_) (fun q => absurd q (by decide))
  refine ri_5 oX5_standing_102 ?_
  exact rr_ireturn oX5_standing_104 rfl rfl (q_n_of ⟨rfl, hbc, hmo⟩)
theorem c2_X5_standing (l : Launch) {I : Nat → Nat → Int32} {L : Nat → Nat → Int64} {Rf : Nat → Nat → Option Nat} {n : Nat} {G : gr_T} {dr : Nat → Bool} {sh : Nat → Nat → Bool} {A : (Nat → Int32) × Nat} (W : wd_T Rf n) (hbc : bc_T I G dr sh A)  {t : Nat} (ht : t < g_n G) {x : Int32} (hk : g_k G t = 2) (hA : A.2 < 890) : wm_C l mX5_standing 3 0 0 [vv_A (some 46), vv_I (nI t), vv_I x] (I, L, Rf, n) (q_n (fun v J => v = s_stv 2 (nI t) (g_a G t) x ∧ bc_T J G dr sh (s_stA 2 A) ∧ mo_T I J) L Rf n) := by
  refine wm_of (by decide) (Nat.le_of_ble_eq_true rfl) rfl ?_
  have hmo : mo_T I I := mo_rf
  have h8 := mv_8 hbc.1.1
  refine ra_0 oX5_standing_0 ?_
  refine rr_gr (v := 48) oX5_standing_1 (ff_X5_26 rfl) kk_46 (wd_lt W rfl) ⟨by decide, rfl⟩ (wd_r W rfl rfl) ?_
  refine ri_1 oX5_standing_4 ?_
  refine rr_iv oX5_standing_5 kk_48 (wd_lt W rfl) rfl (by omega) (by decide) ((mv_k hbc.1.1 (by omega)).trans hk) ?_
  refine si_3 oX5_standing_6 rfl rfl ?_
  refine ra_0 oX5_standing_7 ?_
  refine ri_1 oX5_standing_8 ?_
  refine rr_cVi (c_X5_isHouse l W hbc.1 ht) oX5_standing_9 (cv_X5_91 rfl) (by decide) kk_46 (by decide) hcn_5 (wd_lt W rfl) rfl rfl (Nat.le_of_ble_eq_true rfl) ?_
  rw [hk]
  refine si_4 oX5_standing_12 rfl rfl ?_
  refine ri_3 oX5_standing_14 ?_
  refine rk_4 oX5_standing_15 ?_
  refine rr_icmp_ne (tgt := 25) oX5_standing_16 (by decide) (fun _ => ?_) (fun q => absurd q (by decide))
  refine ri_3 oX5_standing_25 ?_
  refine rr_bipush (v := 6) oX5_standing_26 (by decide) ?_
  refine rr_icmp_ne (tgt := 37) oX5_standing_28 (by decide) (fun _ => ?_) (fun q => absurd q (by decide))
  refine ri_4 oX5_standing_37 ?_
  refine rr_ifb_eq (tgt := 48) oX5_standing_39 (by decide) (fun c39 => ?_) (fun c39 => ?_)
  rotate_left
  · exact absurd c39 (by decide)
  refine ra_0 oX5_standing_48 ?_
  refine rr_bipush (v := 10) oX5_standing_49 (by decide) ?_
  refine rr_cVm (c_X5_body l W hbc (by first | omega | (simp only [bd_2]; omega))) oX5_standing_51 (cv_X5_273 rfl) (by decide) kk_46 (by decide) hcn_5 (wd_lt W rfl) rfl rfl (Nat.le_of_ble_eq_true rfl) (fun J hJ => ?_)
  obtain ⟨hbc, hmo2⟩ := hJ
  replace hmo := mo_tr hmo hmo2
  refine ri_4 oX5_standing_54 ?_
  refine rr_ifb_eq (tgt := 72) oX5_standing_56 (by decide) (fun c56 => ?_) (fun c56 => ?_)
  rotate_left
  · exact absurd c56 (by decide)
  refine ri_2 oX5_standing_72 ?_
  refine ri_1 oX5_standing_73 ?_
  refine rr_iadd oX5_standing_74 ?_
  refine si_5 oX5_standing_75 rfl rfl ?_
  refine ri_3 oX5_standing_77 ?_
  refine rk_4 oX5_standing_78 ?_
  refine rr_icmp_ne (tgt := 89) oX5_standing_79 (by decide) (fun _ => ?_) (fun q => absurd q (by decide))
  refine ri_3 oX5_standing_89 ?_
  refine rr_bipush (v := 6) oX5_standing_90 (by decide) ?_
  refine rr_icmp_ne (tgt := 102) oX5_standing_92 (by decide) (fun _ => ?_) (fun q => absurd q (by decide))
  refine ri_5 oX5_standing_102 ?_
  exact rr_ireturn oX5_standing_104 rfl rfl (q_n_of ⟨rfl, hbc, hmo⟩)
theorem c3_X5_standing (l : Launch) {I : Nat → Nat → Int32} {L : Nat → Nat → Int64} {Rf : Nat → Nat → Option Nat} {n : Nat} {G : gr_T} {dr : Nat → Bool} {sh : Nat → Nat → Bool} {A : (Nat → Int32) × Nat} (W : wd_T Rf n) (hbc : bc_T I G dr sh A)  {t : Nat} (ht : t < g_n G) {x : Int32} (hk : g_k G t = 3) (hA : A.2 < 890) : wm_C l mX5_standing 3 0 0 [vv_A (some 46), vv_I (nI t), vv_I x] (I, L, Rf, n) (q_n (fun v J => v = s_stv 3 (nI t) (g_a G t) x ∧ bc_T J G dr sh (s_stA 3 A) ∧ mo_T I J) L Rf n) := by
  refine wm_of (by decide) (Nat.le_of_ble_eq_true rfl) rfl ?_
  have hmo : mo_T I I := mo_rf
  have h8 := mv_8 hbc.1.1
  refine ra_0 oX5_standing_0 ?_
  refine rr_gr (v := 48) oX5_standing_1 (ff_X5_26 rfl) kk_46 (wd_lt W rfl) ⟨by decide, rfl⟩ (wd_r W rfl rfl) ?_
  refine ri_1 oX5_standing_4 ?_
  refine rr_iv oX5_standing_5 kk_48 (wd_lt W rfl) rfl (by omega) (by decide) ((mv_k hbc.1.1 (by omega)).trans hk) ?_
  refine si_3 oX5_standing_6 rfl rfl ?_
  refine ra_0 oX5_standing_7 ?_
  refine ri_1 oX5_standing_8 ?_
  refine rr_cVi (c_X5_isHouse l W hbc.1 ht) oX5_standing_9 (cv_X5_91 rfl) (by decide) kk_46 (by decide) hcn_5 (wd_lt W rfl) rfl rfl (Nat.le_of_ble_eq_true rfl) ?_
  rw [hk]
  refine si_4 oX5_standing_12 rfl rfl ?_
  refine ri_3 oX5_standing_14 ?_
  refine rk_4 oX5_standing_15 ?_
  refine rr_icmp_ne (tgt := 25) oX5_standing_16 (by decide) (fun _ => ?_) (fun q => absurd q (by decide))
  refine ri_3 oX5_standing_25 ?_
  refine rr_bipush (v := 6) oX5_standing_26 (by decide) ?_
  refine rr_icmp_ne (tgt := 37) oX5_standing_28 (by decide) (fun _ => ?_) (fun q => absurd q (by decide))
  refine ri_4 oX5_standing_37 ?_
  refine rr_ifb_eq (tgt := 48) oX5_standing_39 (by decide) (fun c39 => ?_) (fun c39 => ?_)
  · exact absurd c39 (by decide)
  refine ra_0 oX5_standing_42 ?_
  refine rr_bipush (v := 20) oX5_standing_43 (by decide) ?_
  refine rr_cVm (c_X5_body l W hbc (by first | omega | (simp only [bd_2]; omega))) oX5_standing_45 (cv_X5_273 rfl) (by decide) kk_46 (by decide) hcn_5 (wd_lt W rfl) rfl rfl (Nat.le_of_ble_eq_true rfl) (fun J hJ => ?_)
  obtain ⟨hbc, hmo2⟩ := hJ
  replace hmo := mo_tr hmo hmo2
  refine ra_0 oX5_standing_48 ?_
  refine rr_bipush (v := 10) oX5_standing_49 (by decide) ?_
  refine rr_cVm (c_X5_body l W hbc (by first | omega | (simp only [bd_2]; omega))) oX5_standing_51 (cv_X5_273 rfl) (by decide) kk_46 (by decide) hcn_5 (wd_lt W rfl) rfl rfl (Nat.le_of_ble_eq_true rfl) (fun J hJ => ?_)
  obtain ⟨hbc, hmo2⟩ := hJ
  replace hmo := mo_tr hmo hmo2
  refine ri_4 oX5_standing_54 ?_
  refine rr_ifb_eq (tgt := 72) oX5_standing_56 (by decide) (fun c56 => ?_) (fun c56 => ?_)
  · exact absurd c56 (by decide)
  refine ri_2 oX5_standing_59 ?_
  refine ri_1 oX5_standing_60 ?_
  refine rr_iadd oX5_standing_61 ?_
  refine ra_0 oX5_standing_62 ?_
  refine rr_gr (v := 52) oX5_standing_63 (ff_X5_38 rfl) kk_46 (wd_lt W rfl) ⟨by decide, rfl⟩ (wd_r W rfl rfl) ?_
  refine ri_1 oX5_standing_66 ?_
  refine rr_iv oX5_standing_67 kk_52 (wd_lt W rfl) rfl (by omega) (by decide) (mv_a hbc.1.1 (by omega)) ?_
  refine rr_iadd oX5_standing_68 ?_
  refine rr_goto (tgt := 75) oX5_standing_69 (by decide) ?_
  refine si_5 oX5_standing_75 rfl rfl ?_
  refine ri_3 oX5_standing_77 ?_
  refine rk_4 oX5_standing_78 ?_
  refine rr_icmp_ne (tgt := 89) oX5_standing_79 (by decide) (fun _ => ?_) (fun q => absurd q (by decide))
  refine ri_3 oX5_standing_89 ?_
  refine rr_bipush (v := 6) oX5_standing_90 (by decide) ?_
  refine rr_icmp_ne (tgt := 102) oX5_standing_92 (by decide) (fun _ => ?_) (fun q => absurd q (by decide))
  refine ri_5 oX5_standing_102 ?_
  exact rr_ireturn oX5_standing_104 rfl rfl (q_n_of ⟨rfl, hbc, hmo⟩)
theorem c4_X5_standing (l : Launch) {I : Nat → Nat → Int32} {L : Nat → Nat → Int64} {Rf : Nat → Nat → Option Nat} {n : Nat} {G : gr_T} {dr : Nat → Bool} {sh : Nat → Nat → Bool} {A : (Nat → Int32) × Nat} (W : wd_T Rf n) (hbc : bc_T I G dr sh A)  {t : Nat} (ht : t < g_n G) {x : Int32} (hk : g_k G t = 4) (hA : A.2 < 890) : wm_C l mX5_standing 3 0 0 [vv_A (some 46), vv_I (nI t), vv_I x] (I, L, Rf, n) (q_n (fun v J => v = s_stv 4 (nI t) (g_a G t) x ∧ bc_T J G dr sh (s_stA 4 A) ∧ mo_T I J) L Rf n) := by
  refine wm_of (by decide) (Nat.le_of_ble_eq_true rfl) rfl ?_
  have hmo : mo_T I I := mo_rf
  have h8 := mv_8 hbc.1.1
  refine ra_0 oX5_standing_0 ?_
  refine rr_gr (v := 48) oX5_standing_1 (ff_X5_26 rfl) kk_46 (wd_lt W rfl) ⟨by decide, rfl⟩ (wd_r W rfl rfl) ?_
  refine ri_1 oX5_standing_4 ?_
  refine rr_iv oX5_standing_5 kk_48 (wd_lt W rfl) rfl (by omega) (by decide) ((mv_k hbc.1.1 (by omega)).trans hk) ?_
  refine si_3 oX5_standing_6 rfl rfl ?_
  refine ra_0 oX5_standing_7 ?_
  refine ri_1 oX5_standing_8 ?_
  refine rr_cVi (c_X5_isHouse l W hbc.1 ht) oX5_standing_9 (cv_X5_91 rfl) (by decide) kk_46 (by decide) hcn_5 (wd_lt W rfl) rfl rfl (Nat.le_of_ble_eq_true rfl) ?_
  rw [hk]
  refine si_4 oX5_standing_12 rfl rfl ?_
  refine ri_3 oX5_standing_14 ?_
  refine rk_4 oX5_standing_15 ?_
  refine rr_icmp_ne (tgt := 25) oX5_standing_16 (by decide) (fun q => absurd q (by decide)) (fun _ => ?_)
  refine ra_0 oX5_standing_19 ?_
  refine rr_bipush (v := 51) oX5_standing_20 (by decide) ?_
  refine rr_cVm (c_X5_body l W hbc (by first | omega | (simp only [bd_2]; omega))) oX5_standing_22 (cv_X5_273 rfl) (by decide) kk_46 (by decide) hcn_5 (wd_lt W rfl) rfl rfl (Nat.le_of_ble_eq_true rfl) (fun J hJ => ?_)
  obtain ⟨hbc, hmo2⟩ := hJ
  replace hmo := mo_tr hmo hmo2
  refine ri_3 oX5_standing_25 ?_
  refine rr_bipush (v := 6) oX5_standing_26 (by decide) ?_
  refine rr_icmp_ne (tgt := 37) oX5_standing_28 (by decide) (fun _ => ?_) (fun q => absurd q (by decide))
  refine ri_4 oX5_standing_37 ?_
  refine rr_ifb_eq (tgt := 48) oX5_standing_39 (by decide) (fun c39 => ?_) (fun c39 => ?_)
  · exact absurd c39 (by decide)
  refine ra_0 oX5_standing_42 ?_
  refine rr_bipush (v := 20) oX5_standing_43 (by decide) ?_
  refine rr_cVm (c_X5_body l W hbc (by first | omega | (simp only [bd_2]; omega))) oX5_standing_45 (cv_X5_273 rfl) (by decide) kk_46 (by decide) hcn_5 (wd_lt W rfl) rfl rfl (Nat.le_of_ble_eq_true rfl) (fun J hJ => ?_)
  obtain ⟨hbc, hmo2⟩ := hJ
  replace hmo := mo_tr hmo hmo2
  refine ra_0 oX5_standing_48 ?_
  refine rr_bipush (v := 10) oX5_standing_49 (by decide) ?_
  refine rr_cVm (c_X5_body l W hbc (by first | omega | (simp only [bd_2]; omega))) oX5_standing_51 (cv_X5_273 rfl) (by decide) kk_46 (by decide) hcn_5 (wd_lt W rfl) rfl rfl (Nat.le_of_ble_eq_true rfl) (fun J hJ => ?_)
  obtain ⟨hbc, hmo2⟩ := hJ
  replace hmo := mo_tr hmo hmo2
  refine ri_4 oX5_standing_54 ?_
  refine rr_ifb_eq (tgt := 72) oX5_standing_56 (by decide) (fun c56 => ?_) (fun c56 => ?_)
  · exact absurd c56 (by decide)
  refine ri_2 oX5_standing_59 ?_
  refine ri_1 oX5_standing_60 ?_
  refine rr_iadd oX5_standing_61 ?_
  refine ra_0 oX5_standing_62 ?_
  refine rr_gr (v := 52) oX5_standing_63 (ff_X5_38 rfl) kk_46 (wd_lt W rfl) ⟨by decide, rfl⟩ (wd_r W rfl rfl) ?_
  refine ri_1 oX5_standing_66 ?_
  refine rr_iv oX5_standing_67 kk_52 (wd_lt W rfl) rfl (by omega) (by decide) (mv_a hbc.1.1 (by omega)) ?_
  refine rr_iadd oX5_standing_68 ?_
  refine rr_goto (tgt := 75) oX5_standing_69 (by decide) ?_
  refine si_5 oX5_standing_75 rfl rfl ?_
  refine ri_3 oX5_standing_77 ?_
  refine rk_4 oX5_standing_78 ?_
  refine rr_icmp_ne (tgt := 89) oX5_standing_79 (by decide) (fun q => absurd q (by decide)) (fun _ => ?_)
  refine ri_5 oX5_standing_82 ?_
  refine ri_1 oX5_standing_84 ?_
  refine rr_isub oX5_standing_85 ?_
  refine rr_goto (tgt := 104) oX5_standing_86 (by decide) ?_
  exact rr_ireturn oX5_standing_104 rfl rfl (q_n_of ⟨rfl, hbc, hmo⟩)
theorem c5_X5_standing (l : Launch) {I : Nat → Nat → Int32} {L : Nat → Nat → Int64} {Rf : Nat → Nat → Option Nat} {n : Nat} {G : gr_T} {dr : Nat → Bool} {sh : Nat → Nat → Bool} {A : (Nat → Int32) × Nat} (W : wd_T Rf n) (hbc : bc_T I G dr sh A)  {t : Nat} (ht : t < g_n G) {x : Int32} (hk : g_k G t = 5) (hA : A.2 < 890) : wm_C l mX5_standing 3 0 0 [vv_A (some 46), vv_I (nI t), vv_I x] (I, L, Rf, n) (q_n (fun v J => v = s_stv 5 (nI t) (g_a G t) x ∧ bc_T J G dr sh (s_stA 5 A) ∧ mo_T I J) L Rf n) := by
  refine wm_of (by decide) (Nat.le_of_ble_eq_true rfl) rfl ?_
  have hmo : mo_T I I := mo_rf
  have h8 := mv_8 hbc.1.1
  refine ra_0 oX5_standing_0 ?_
  refine rr_gr (v := 48) oX5_standing_1 (ff_X5_26 rfl) kk_46 (wd_lt W rfl) ⟨by decide, rfl⟩ (wd_r W rfl rfl) ?_
  refine ri_1 oX5_standing_4 ?_
  refine rr_iv oX5_standing_5 kk_48 (wd_lt W rfl) rfl (by omega) (by decide) ((mv_k hbc.1.1 (by omega)).trans hk) ?_
  refine si_3 oX5_standing_6 rfl rfl ?_
  refine ra_0 oX5_standing_7 ?_
  refine ri_1 oX5_standing_8 ?_
  refine rr_cVi (c_X5_isHouse l W hbc.1 ht) oX5_standing_9 (cv_X5_91 rfl) (by decide) kk_46 (by decide) hcn_5 (wd_lt W rfl) rfl rfl (Nat.le_of_ble_eq_true rfl) ?_
  rw [hk]
  refine si_4 oX5_standing_12 rfl rfl ?_
  refine ri_3 oX5_standing_14 ?_
  refine rk_4 oX5_standing_15 ?_
  refine rr_icmp_ne (tgt := 25) oX5_standing_16 (by decide) (fun _ => ?_) (fun q => absurd q (by decide))
  refine ri_3 oX5_standing_25 ?_
  refine rr_bipush (v := 6) oX5_standing_26 (by decide) ?_
  refine rr_icmp_ne (tgt := 37) oX5_standing_28 (by decide) (fun _ => ?_) (fun q => absurd q (by decide))
  refine ri_4 oX5_standing_37 ?_
  refine rr_ifb_eq (tgt := 48) oX5_standing_39 (by decide) (fun c39 => ?_) (fun c39 => ?_)
  · exact absurd c39 (by decide)
  refine ra_0 oX5_standing_42 ?_
  refine rr_bipush (v := 20) oX5_standing_43 (by decide) ?_
  refine rr_cVm (c_X5_body l W hbc (by first | omega | (simp only [bd_2]; omega))) oX5_standing_45 (cv_X5_273 rfl) (by decide) kk_46 (by decide) hcn_5 (wd_lt W rfl) rfl rfl (Nat.le_of_ble_eq_true rfl) (fun J hJ => ?_)
  obtain ⟨hbc, hmo2⟩ := hJ
  replace hmo := mo_tr hmo hmo2
  refine ra_0 oX5_standing_48 ?_
  refine rr_bipush (v := 10) oX5_standing_49 (by decide) ?_
  refine rr_cVm (c_X5_body l W hbc (by first | omega | (simp only [bd_2]; omega))) oX5_standing_51 (cv_X5_273 rfl) (by decide) kk_46 (by decide) hcn_5 (wd_lt W rfl) rfl rfl (Nat.le_of_ble_eq_true rfl) (fun J hJ => ?_)
  obtain ⟨hbc, hmo2⟩ := hJ
  replace hmo := mo_tr hmo hmo2
  refine ri_4 oX5_standing_54 ?_
  refine rr_ifb_eq (tgt := 72) oX5_standing_56 (by decide) (fun c56 => ?_) (fun c56 => ?_)
  · exact absurd c56 (by decide)
  refine ri_2 oX5_standing_59 ?_
  refine ri_1 oX5_standing_60 ?_
  refine rr_iadd oX5_standing_61 ?_
  refine ra_0 oX5_standing_62 ?_
  refine rr_gr (v := 52) oX5_standing_63 (ff_X5_38 rfl) kk_46 (wd_lt W rfl) ⟨by decide, rfl⟩ (wd_r W rfl rfl) ?_
  refine ri_1 oX5_standing_66 ?_
  refine rr_iv oX5_standing_67 kk_52 (wd_lt W rfl) rfl (by omega) (by decide) (mv_a hbc.1.1 (by omega)) ?_
  refine rr_iadd oX5_standing_68 ?_
  refine rr_goto (tgt := 75) oX5_standing_69 (by decide) ?_
  refine si_5 oX5_standing_75 rfl rfl ?_
  refine ri_3 oX5_standing_77 ?_
  refine rk_4 oX5_standing_78 ?_
  refine rr_icmp_ne (tgt := 89) oX5_standing_79 (by decide) (fun _ => ?_) (fun q => absurd q (by decide))
  refine ri_3 oX5_standing_89 ?_
  refine rr_bipush (v := 6) oX5_standing_90 (by decide) ?_
  refine rr_icmp_ne (tgt := 102) oX5_standing_92 (by decide) (fun _ => ?_) (fun q => absurd q (by decide))
  refine ri_5 oX5_standing_102 ?_
  exact rr_ireturn oX5_standing_104 rfl rfl (q_n_of ⟨rfl, hbc, hmo⟩)
theorem c6_X5_standing (l : Launch) {I : Nat → Nat → Int32} {L : Nat → Nat → Int64} {Rf : Nat → Nat → Option Nat} {n : Nat} {G : gr_T} {dr : Nat → Bool} {sh : Nat → Nat → Bool} {A : (Nat → Int32) × Nat} (W : wd_T Rf n) (hbc : bc_T I G dr sh A)  {t : Nat} (ht : t < g_n G) {x : Int32} (hk : g_k G t = 6) (hA : A.2 < 890) : wm_C l mX5_standing 3 0 0 [vv_A (some 46), vv_I (nI t), vv_I x] (I, L, Rf, n) (q_n (fun v J => v = s_stv 6 (nI t) (g_a G t) x ∧ bc_T J G dr sh (s_stA 6 A) ∧ mo_T I J) L Rf n) := by
  refine wm_of (by decide) (Nat.le_of_ble_eq_true rfl) rfl ?_
  have hmo : mo_T I I := mo_rf
  have h8 := mv_8 hbc.1.1
  refine ra_0 oX5_standing_0 ?_
  refine rr_gr (v := 48) oX5_standing_1 (ff_X5_26 rfl) kk_46 (wd_lt W rfl) ⟨by decide, rfl⟩ (wd_r W rfl rfl) ?_
  refine ri_1 oX5_standing_4 ?_
  refine rr_iv oX5_standing_5 kk_48 (wd_lt W rfl) rfl (by omega) (by decide) ((mv_k hbc.1.1 (by omega)).trans hk) ?_
  refine si_3 oX5_standing_6 rfl rfl ?_
  refine ra_0 oX5_standing_7 ?_
  refine ri_1 oX5_standing_8 ?_
  refine rr_cVi (c_X5_isHouse l W hbc.1 ht) oX5_standing_9 (cv_X5_91 rfl) (by decide) kk_46 (by decide) hcn_5 (wd_lt W rfl) rfl rfl (Nat.le_of_ble_eq_true rfl) ?_
  rw [hk]
  refine si_4 oX5_standing_12 rfl rfl ?_
  refine ri_3 oX5_standing_14 ?_
  refine rk_4 oX5_standing_15 ?_
  refine rr_icmp_ne (tgt := 25) oX5_standing_16 (by decide) (fun _ => ?_) (fun q => absurd q (by decide))
  refine ri_3 oX5_standing_25 ?_
  refine rr_bipush (v := 6) oX5_standing_26 (by decide) ?_
  refine rr_icmp_ne (tgt := 37) oX5_standing_28 (by decide) (fun q => absurd q (by decide)) (fun _ => ?_)
  refine ra_0 oX5_standing_31 ?_
  refine rr_bipush (v := 70) oX5_standing_32 (by decide) ?_
  refine rr_cVm (c_X5_body l W hbc (by first | omega | (simp only [bd_2]; omega))) oX5_standing_34 (cv_X5_273 rfl) (by decide) kk_46 (by decide) hcn_5 (wd_lt W rfl) rfl rfl (Nat.le_of_ble_eq_true rfl) (fun J hJ => ?_)
  obtain ⟨hbc, hmo2⟩ := hJ
  replace hmo := mo_tr hmo hmo2
  refine ri_4 oX5_standing_37 ?_
  refine rr_ifb_eq (tgt := 48) oX5_standing_39 (by decide) (fun c39 => ?_) (fun c39 => ?_)
  rotate_left
  · exact absurd c39 (by decide)
  refine ra_0 oX5_standing_48 ?_
  refine rr_bipush (v := 10) oX5_standing_49 (by decide) ?_
  refine rr_cVm (c_X5_body l W hbc (by first | omega | (simp only [bd_2]; omega))) oX5_standing_51 (cv_X5_273 rfl) (by decide) kk_46 (by decide) hcn_5 (wd_lt W rfl) rfl rfl (Nat.le_of_ble_eq_true rfl) (fun J hJ => ?_)
  obtain ⟨hbc, hmo2⟩ := hJ
  replace hmo := mo_tr hmo hmo2
  refine ri_4 oX5_standing_54 ?_
  refine rr_ifb_eq (tgt := 72) oX5_standing_56 (by decide) (fun c56 => ?_) (fun c56 => ?_)
  rotate_left
  · exact absurd c56 (by decide)
  refine ri_2 oX5_standing_72 ?_
  refine ri_1 oX5_standing_73 ?_
  refine rr_iadd oX5_standing_74 ?_
  refine si_5 oX5_standing_75 rfl rfl ?_
  refine ri_3 oX5_standing_77 ?_
  refine rk_4 oX5_standing_78 ?_
  refine rr_icmp_ne (tgt := 89) oX5_standing_79 (by decide) (fun _ => ?_) (fun q => absurd q (by decide))
  refine ri_3 oX5_standing_89 ?_
  refine rr_bipush (v := 6) oX5_standing_90 (by decide) ?_
  refine rr_icmp_ne (tgt := 102) oX5_standing_92 (by decide) (fun q => absurd q (by decide)) (fun _ => ?_)
  refine ri_5 oX5_standing_95 ?_
  refine rk_2 oX5_standing_97 ?_
  refine rr_imul oX5_standing_98 ?_
  refine rr_goto (tgt := 104) oX5_standing_99 (by decide) ?_
  exact rr_ireturn oX5_standing_104 rfl rfl (q_n_of ⟨rfl, hbc, hmo⟩)
theorem c_X5_standing (l : Launch) {I : Nat → Nat → Int32} {L : Nat → Nat → Int64} {Rf : Nat → Nat → Option Nat} {n : Nat} {G : gr_T} {dr : Nat → Bool} {sh : Nat → Nat → Bool} {A : (Nat → Int32) × Nat} (W : wd_T Rf n) (hbc : bc_T I G dr sh A)  {t : Nat} (ht : t < g_n G) {x : Int32} (hA : A.2 < 890) : wm_C l mX5_standing 3 0 0 [vv_A (some 46), vv_I (nI t), vv_I x] (I, L, Rf, n) (q_n (fun v J => v = s_stv (g_k G t) (nI t) (g_a G t) x ∧ bc_T J G dr sh (s_stA (g_k G t) A) ∧ mo_T I J) L Rf n) := by
  have hk := hbc.1.2.2.2.1 t ht
  have e : ∀ v : Int32, g_k G t = v → g_k G t = v := fun _ h => h
  rcases kd_7 hk with q | q | q | q | q | q | q
  · have r := c0_X5_standing (L := L) l W hbc ht (x := x) q hA; rw [q]; exact r
  · have r := c1_X5_standing (L := L) l W hbc ht (x := x) q hA; rw [q]; exact r
  · have r := c2_X5_standing (L := L) l W hbc ht (x := x) q hA; rw [q]; exact r
  · have r := c3_X5_standing (L := L) l W hbc ht (x := x) q hA; rw [q]; exact r
  · have r := c4_X5_standing (L := L) l W hbc ht (x := x) q hA; rw [q]; exact r
  · have r := c5_X5_standing (L := L) l W hbc ht (x := x) q hA; rw [q]; exact r
  · have r := c6_X5_standing (L := L) l W hbc ht (x := x) q hA; rw [q]; exact r
theorem c0_X5_looking (l : Launch) {I : Nat → Nat → Int32} {L : Nat → Nat → Int64} {Rf : Nat → Nat → Option Nat} {n : Nat} {G : gr_T} {dr : Nat → Bool} {sh : Nat → Nat → Bool} {A : (Nat → Int32) × Nat} (W : wd_T Rf n) (hbc : bc_T I G dr sh A)  {t : Nat} (ht : t < g_n G) {x : Int32} (hk : g_k G t = 0) (hA : A.2 < 880) : wm_C l mX5_looking 4 0 0 [vv_A (some 46), vv_I (nI t), vv_I x] (I, L, Rf, n) (q_n (fun v J => v = s_lov 0 (nI t) (g_a G t) x ∧ bc_T J G dr sh (s_stA 0 (s_loA 0 A)) ∧ mo_T I J) L Rf n) := by
  refine wm_of (by decide) (Nat.le_of_ble_eq_true rfl) rfl ?_
  have hmo : mo_T I I := mo_rf
  have h8 := mv_8 hbc.1.1
  refine ra_0 oX5_looking_0 ?_
  refine rr_gr (v := 48) oX5_looking_1 (ff_X5_26 rfl) kk_46 (wd_lt W rfl) ⟨by decide, rfl⟩ (wd_r W rfl rfl) ?_
  refine ri_1 oX5_looking_4 ?_
  refine rr_iv oX5_looking_5 kk_48 (wd_lt W rfl) rfl (by omega) (by decide) ((mv_k hbc.1.1 (by omega)).trans hk) ?_
  refine si_3 oX5_looking_6 rfl rfl ?_
  refine ri_2 oX5_looking_7 ?_
  refine si_4 oX5_looking_8 rfl rfl ?_
  refine ri_3 oX5_looking_10 ?_
  refine rk_3 oX5_looking_11 ?_
  refine rr_icmp_ne (tgt := 26) oX5_looking_12 (by decide) (fun _ => ?_) (fun q => absurd q (by decide))
  refine ri_3 oX5_looking_26 ?_
  refine rr_bipush (v := 6) oX5_looking_27 (by decide) ?_
  refine rr_icmp_ne (tgt := 48) oX5_looking_29 (by decide) (fun _ => ?_) (fun q => absurd q (by decide))
  refine ri_3 oX5_looking_48 ?_
  refine rk_2 oX5_looking_49 ?_
  refine rr_icmp_eq (tgt := 59) oX5_looking_50 (by decide) (fun q => absurd q (by decide)) (fun _ => ?_)
  refine ri_3 oX5_looking_53 ?_
  refine rr_bipush (v := 6) oX5_looking_54 (by decide) ?_
  refine rr_icmp_ne (tgt := 65) oX5_looking_56 (by decide) (fun _ => ?_) (fun q => absurd q (by decide))
  refine ra_0 oX5_looking_65 ?_
  refine rr_bipush (v := 11) oX5_looking_66 (by decide) ?_
  refine rr_cVm (c_X5_body l W hbc (by first | omega | (simp only [bd_2]; omega))) oX5_looking_68 (cv_X5_273 rfl) (by decide) kk_46 (by decide) hcn_5 (wd_lt W rfl) rfl rfl (Nat.le_of_ble_eq_true rfl) (fun J hJ => ?_)
  obtain ⟨hbc, hmo2⟩ := hJ
  replace hmo := mo_tr hmo hmo2
  refine ra_0 oX5_looking_71 ?_
  refine ri_1 oX5_looking_72 ?_
  refine ri_4 oX5_looking_73 ?_
  refine rr_cVn (c_X5_standing l W hbc ht (by first | omega | (simp only [bd_2]; omega))) oX5_looking_75 (cv_X5_276 rfl) (by decide) kk_46 (by decide) hcn_5 (wd_lt W rfl) rfl rfl (Nat.le_of_ble_eq_true rfl) (fun v J hJ => ?_)
  obtain ⟨hv, hbc, hmo2⟩ := hJ
  replace hmo := mo_tr hmo hmo2
  refine rk_2 oX5_looking_78 ?_
  refine rr_imul oX5_looking_79 ?_
  refine si_5 oX5_looking_80 rfl rfl ?_
  refine ri_3 oX5_looking_82 ?_
  refine rk_2 oX5_looking_83 ?_
  refine rr_icmp_eq (tgt := 93) oX5_looking_84 (by decide) (fun q => absurd q (by decide)) (fun _ => ?_)
  refine ri_3 oX5_looking_87 ?_
  refine rr_bipush (v := 6) oX5_looking_88 (by decide) ?_
  refine rr_icmp_ne (tgt := 100) oX5_looking_90 (by decide) (fun _ => ?_) (fun q => absurd q (by decide))
  refine ri_5 oX5_looking_100 ?_
  exact rr_ireturn oX5_looking_102 rfl rfl (q_n_of ⟨by rw [hv, hk]; rfl, by rw [hk] at hbc; exact hbc, hmo⟩)
theorem c1_X5_looking (l : Launch) {I : Nat → Nat → Int32} {L : Nat → Nat → Int64} {Rf : Nat → Nat → Option Nat} {n : Nat} {G : gr_T} {dr : Nat → Bool} {sh : Nat → Nat → Bool} {A : (Nat → Int32) × Nat} (W : wd_T Rf n) (hbc : bc_T I G dr sh A)  {t : Nat} (ht : t < g_n G) {x : Int32} (hk : g_k G t = 1) (hA : A.2 < 880) : wm_C l mX5_looking 4 0 0 [vv_A (some 46), vv_I (nI t), vv_I x] (I, L, Rf, n) (q_n (fun v J => v = s_lov 1 (nI t) (g_a G t) x ∧ bc_T J G dr sh (s_stA 1 (s_loA 1 A)) ∧ mo_T I J) L Rf n) := by
  refine wm_of (by decide) (Nat.le_of_ble_eq_true rfl) rfl ?_
  have hmo : mo_T I I := mo_rf
  have h8 := mv_8 hbc.1.1
  refine ra_0 oX5_looking_0 ?_
  refine rr_gr (v := 48) oX5_looking_1 (ff_X5_26 rfl) kk_46 (wd_lt W rfl) ⟨by decide, rfl⟩ (wd_r W rfl rfl) ?_
  refine ri_1 oX5_looking_4 ?_
  refine rr_iv oX5_looking_5 kk_48 (wd_lt W rfl) rfl (by omega) (by decide) ((mv_k hbc.1.1 (by omega)).trans hk) ?_
  refine si_3 oX5_looking_6 rfl rfl ?_
  refine ri_2 oX5_looking_7 ?_
  refine si_4 oX5_looking_8 rfl rfl ?_
  refine ri_3 oX5_looking_10 ?_
  refine rk_3 oX5_looking_11 ?_
  refine rr_icmp_ne (tgt := 26) oX5_looking_12 (by decide) (fun _ => ?_) (fun q => absurd q (by decide))
  refine ri_3 oX5_looking_26 ?_
  refine rr_bipush (v := 6) oX5_looking_27 (by decide) ?_
  refine rr_icmp_ne (tgt := 48) oX5_looking_29 (by decide) (fun _ => ?_) (fun q => absurd q (by decide))
  refine ri_3 oX5_looking_48 ?_
  refine rk_2 oX5_looking_49 ?_
  refine rr_icmp_eq (tgt := 59) oX5_looking_50 (by decide) (fun q => absurd q (by decide)) (fun _ => ?_)
  refine ri_3 oX5_looking_53 ?_
  refine rr_bipush (v := 6) oX5_looking_54 (by decide) ?_
  refine rr_icmp_ne (tgt := 65) oX5_looking_56 (by decide) (fun _ => ?_) (fun q => absurd q (by decide))
  refine ra_0 oX5_looking_65 ?_
  refine rr_bipush (v := 11) oX5_looking_66 (by decide) ?_
  refine rr_cVm (c_X5_body l W hbc (by first | omega | (simp only [bd_2]; omega))) oX5_looking_68 (cv_X5_273 rfl) (by decide) kk_46 (by decide) hcn_5 (wd_lt W rfl) rfl rfl (Nat.le_of_ble_eq_true rfl) (fun J hJ => ?_)
  obtain ⟨hbc, hmo2⟩ := hJ
  replace hmo := mo_tr hmo hmo2
  refine ra_0 oX5_looking_71 ?_
  refine ri_1 oX5_looking_72 ?_
  refine ri_4 oX5_looking_73 ?_
  refine rr_cVn (c_X5_standing l W hbc ht (by first | omega | (simp only [bd_2]; omega))) oX5_looking_75 (cv_X5_276 rfl) (by decide) kk_46 (by decide) hcn_5 (wd_lt W rfl) rfl rfl (Nat.le_of_ble_eq_true rfl) (fun v J hJ => ?_)
  obtain ⟨hv, hbc, hmo2⟩ := hJ
  replace hmo := mo_tr hmo hmo2
  refine rk_2 oX5_looking_78 ?_
  refine rr_imul oX5_looking_79 ?_
  refine si_5 oX5_looking_80 rfl rfl ?_
  refine ri_3 oX5_looking_82 ?_
  refine rk_2 oX5_looking_83 ?_
  refine rr_icmp_eq (tgt := 93) oX5_looking_84 (by decide) (fun q => absurd q (by decide)) (fun _ => ?_)
  refine ri_3 oX5_looking_87 ?_
  refine rr_bipush (v := 6) oX5_looking_88 (by decide) ?_
  refine rr_icmp_ne (tgt := 100) oX5_looking_90 (by decide) (fun _ => ?_) (fun q => absurd q (by decide))
  refine ri_5 oX5_looking_100 ?_
  exact rr_ireturn oX5_looking_102 rfl rfl (q_n_of ⟨by rw [hv, hk]; rfl, by rw [hk] at hbc; exact hbc, hmo⟩)
theorem c2_X5_looking (l : Launch) {I : Nat → Nat → Int32} {L : Nat → Nat → Int64} {Rf : Nat → Nat → Option Nat} {n : Nat} {G : gr_T} {dr : Nat → Bool} {sh : Nat → Nat → Bool} {A : (Nat → Int32) × Nat} (W : wd_T Rf n) (hbc : bc_T I G dr sh A)  {t : Nat} (ht : t < g_n G) {x : Int32} (hk : g_k G t = 2) (hA : A.2 < 880) : wm_C l mX5_looking 4 0 0 [vv_A (some 46), vv_I (nI t), vv_I x] (I, L, Rf, n) (q_n (fun v J => v = s_lov 2 (nI t) (g_a G t) x ∧ bc_T J G dr sh (s_stA 2 (s_loA 2 A)) ∧ mo_T I J) L Rf n) := by
  refine wm_of (by decide) (Nat.le_of_ble_eq_true rfl) rfl ?_
  have hmo : mo_T I I := mo_rf
  have h8 := mv_8 hbc.1.1
  refine ra_0 oX5_looking_0 ?_
  refine rr_gr (v := 48) oX5_looking_1 (ff_X5_26 rfl) kk_46 (wd_lt W rfl) ⟨by decide, rfl⟩ (wd_r W rfl rfl) ?_
  refine ri_1 oX5_looking_4 ?_
  refine rr_iv oX5_looking_5 kk_48 (wd_lt W rfl) rfl (by omega) (by decide) ((mv_k hbc.1.1 (by omega)).trans hk) ?_
  refine si_3 oX5_looking_6 rfl rfl ?_
  refine ri_2 oX5_looking_7 ?_
  refine si_4 oX5_looking_8 rfl rfl ?_
  refine ri_3 oX5_looking_10 ?_
  refine rk_3 oX5_looking_11 ?_
  refine rr_icmp_ne (tgt := 26) oX5_looking_12 (by decide) (fun _ => ?_) (fun q => absurd q (by decide))
  refine ri_3 oX5_looking_26 ?_
  refine rr_bipush (v := 6) oX5_looking_27 (by decide) ?_
  refine rr_icmp_ne (tgt := 48) oX5_looking_29 (by decide) (fun _ => ?_) (fun q => absurd q (by decide))
  refine ri_3 oX5_looking_48 ?_
  refine rk_2 oX5_looking_49 ?_
  refine rr_icmp_eq (tgt := 59) oX5_looking_50 (by decide) (fun _ => ?_) (fun q => absurd q (by decide))
  refine ra_0 oX5_looking_59 ?_
  refine rr_bipush (v := 30) oX5_looking_60 (by decide) ?_
  refine rr_cVm (c_X5_body l W hbc (by first | omega | (simp only [bd_2]; omega))) oX5_looking_62 (cv_X5_273 rfl) (by decide) kk_46 (by decide) hcn_5 (wd_lt W rfl) rfl rfl (Nat.le_of_ble_eq_true rfl) (fun J hJ => ?_)
  obtain ⟨hbc, hmo2⟩ := hJ
  replace hmo := mo_tr hmo hmo2
  refine ra_0 oX5_looking_65 ?_
  refine rr_bipush (v := 11) oX5_looking_66 (by decide) ?_
  refine rr_cVm (c_X5_body l W hbc (by first | omega | (simp only [bd_2]; omega))) oX5_looking_68 (cv_X5_273 rfl) (by decide) kk_46 (by decide) hcn_5 (wd_lt W rfl) rfl rfl (Nat.le_of_ble_eq_true rfl) (fun J hJ => ?_)
  obtain ⟨hbc, hmo2⟩ := hJ
  replace hmo := mo_tr hmo hmo2
  refine ra_0 oX5_looking_71 ?_
  refine ri_1 oX5_looking_72 ?_
  refine ri_4 oX5_looking_73 ?_
  refine rr_cVn (c_X5_standing l W hbc ht (by first | omega | (simp only [bd_2]; omega))) oX5_looking_75 (cv_X5_276 rfl) (by decide) kk_46 (by decide) hcn_5 (wd_lt W rfl) rfl rfl (Nat.le_of_ble_eq_true rfl) (fun v J hJ => ?_)
  obtain ⟨hv, hbc, hmo2⟩ := hJ
  replace hmo := mo_tr hmo hmo2
  refine rk_2 oX5_looking_78 ?_
  refine rr_imul oX5_looking_79 ?_
  refine si_5 oX5_looking_80 rfl rfl ?_
  refine ri_3 oX5_looking_82 ?_
  refine rk_2 oX5_looking_83 ?_
  refine rr_icmp_eq (tgt := 93) oX5_looking_84 (by decide) (fun _ => ?_) (fun q => absurd q (by decide))
  refine ri_5 oX5_looking_93 ?_
  refine rk_3 oX5_looking_95 ?_
  refine rr_imul oX5_looking_96 ?_
  refine rr_goto (tgt := 102) oX5_looking_97 (by decide) ?_
  exact rr_ireturn oX5_looking_102 rfl rfl (q_n_of ⟨by rw [hv, hk]; rfl, by rw [hk] at hbc; exact hbc, hmo⟩)
theorem c3_X5_looking (l : Launch) {I : Nat → Nat → Int32} {L : Nat → Nat → Int64} {Rf : Nat → Nat → Option Nat} {n : Nat} {G : gr_T} {dr : Nat → Bool} {sh : Nat → Nat → Bool} {A : (Nat → Int32) × Nat} (W : wd_T Rf n) (hbc : bc_T I G dr sh A)  {t : Nat} (ht : t < g_n G) {x : Int32} (hk : g_k G t = 3) (hA : A.2 < 880) : wm_C l mX5_looking 4 0 0 [vv_A (some 46), vv_I (nI t), vv_I x] (I, L, Rf, n) (q_n (fun v J => v = s_lov 3 (nI t) (g_a G t) x ∧ bc_T J G dr sh (s_stA 3 (s_loA 3 A)) ∧ mo_T I J) L Rf n) := by
  refine wm_of (by decide) (Nat.le_of_ble_eq_true rfl) rfl ?_
  have hmo : mo_T I I := mo_rf
  have h8 := mv_8 hbc.1.1
  refine ra_0 oX5_looking_0 ?_
  refine rr_gr (v := 48) oX5_looking_1 (ff_X5_26 rfl) kk_46 (wd_lt W rfl) ⟨by decide, rfl⟩ (wd_r W rfl rfl) ?_
  refine ri_1 oX5_looking_4 ?_
  refine rr_iv oX5_looking_5 kk_48 (wd_lt W rfl) rfl (by omega) (by decide) ((mv_k hbc.1.1 (by omega)).trans hk) ?_
  refine si_3 oX5_looking_6 rfl rfl ?_
  refine ri_2 oX5_looking_7 ?_
  refine si_4 oX5_looking_8 rfl rfl ?_
  refine ri_3 oX5_looking_10 ?_
  refine rk_3 oX5_looking_11 ?_
  refine rr_icmp_ne (tgt := 26) oX5_looking_12 (by decide) (fun q => absurd q (by decide)) (fun _ => ?_)
  refine ra_0 oX5_looking_15 ?_
  refine rr_bipush (v := 40) oX5_looking_16 (by decide) ?_
  refine rr_cVm (c_X5_body l W hbc (by first | omega | (simp only [bd_2]; omega))) oX5_looking_18 (cv_X5_273 rfl) (by decide) kk_46 (by decide) hcn_5 (wd_lt W rfl) rfl rfl (Nat.le_of_ble_eq_true rfl) (fun J hJ => ?_)
  obtain ⟨hbc, hmo2⟩ := hJ
  replace hmo := mo_tr hmo hmo2
  refine ri_2 oX5_looking_21 ?_
  refine rk_1 oX5_looking_22 ?_
  refine rr_iadd oX5_looking_23 ?_
  refine si_4 oX5_looking_24 rfl rfl ?_
  refine ri_3 oX5_looking_26 ?_
  refine rr_bipush (v := 6) oX5_looking_27 (by decide) ?_
  refine rr_icmp_ne (tgt := 48) oX5_looking_29 (by decide) (fun _ => ?_) (fun q => absurd q (by decide))
  refine ri_3 oX5_looking_48 ?_
  refine rk_2 oX5_looking_49 ?_
  refine rr_icmp_eq (tgt := 59) oX5_looking_50 (by decide) (fun q => absurd q (by decide)) (fun _ => ?_)
  refine ri_3 oX5_looking_53 ?_
  refine rr_bipush (v := 6) oX5_looking_54 (by decide) ?_
  refine rr_icmp_ne (tgt := 65) oX5_looking_56 (by decide) (fun _ => ?_) (fun q => absurd q (by decide))
  refine ra_0 oX5_looking_65 ?_
  refine rr_bipush (v := 11) oX5_looking_66 (by decide) ?_
  refine rr_cVm (c_X5_body l W hbc (by first | omega | (simp only [bd_2]; omega))) oX5_looking_68 (cv_X5_273 rfl) (by decide) kk_46 (by decide) hcn_5 (wd_lt W rfl) rfl rfl (Nat.le_of_ble_eq_true rfl) (fun J hJ => ?_)
  obtain ⟨hbc, hmo2⟩ := hJ
  replace hmo := mo_tr hmo hmo2
  refine ra_0 oX5_looking_71 ?_
  refine ri_1 oX5_looking_72 ?_
  refine ri_4 oX5_looking_73 ?_
  refine rr_cVn (c_X5_standing l W hbc ht (by first | omega | (simp only [bd_2]; omega))) oX5_looking_75 (cv_X5_276 rfl) (by decide) kk_46 (by decide) hcn_5 (wd_lt W rfl) rfl rfl (Nat.le_of_ble_eq_true rfl) (fun v J hJ => ?_)
  obtain ⟨hv, hbc, hmo2⟩ := hJ
  replace hmo := mo_tr hmo hmo2
  refine rk_2 oX5_looking_78 ?_
  refine rr_imul oX5_looking_79 ?_
  refine si_5 oX5_looking_80 rfl rfl ?_
  refine ri_3 oX5_looking_82 ?_
  refine rk_2 oX5_looking_83 ?_
  refine rr_icmp_eq (tgt := 93) oX5_looking_84 (by decide) (fun q => absurd q (by decide)) (fun _ => ?_)
  refine ri_3 oX5_looking_87 ?_
  refine rr_bipush (v := 6) oX5_looking_88 (by decide) ?_
  refine rr_icmp_ne (tgt := 100) oX5_looking_90 (by decide) (fun _ => ?_) (fun q => absurd q (by decide))
  refine ri_5 oX5_looking_100 ?_
  exact rr_ireturn oX5_looking_102 rfl rfl (q_n_of ⟨by rw [hv, hk]; rfl, by rw [hk] at hbc; exact hbc, hmo⟩)
theorem c4_X5_looking (l : Launch) {I : Nat → Nat → Int32} {L : Nat → Nat → Int64} {Rf : Nat → Nat → Option Nat} {n : Nat} {G : gr_T} {dr : Nat → Bool} {sh : Nat → Nat → Bool} {A : (Nat → Int32) × Nat} (W : wd_T Rf n) (hbc : bc_T I G dr sh A)  {t : Nat} (ht : t < g_n G) {x : Int32} (hk : g_k G t = 4) (hA : A.2 < 880) : wm_C l mX5_looking 4 0 0 [vv_A (some 46), vv_I (nI t), vv_I x] (I, L, Rf, n) (q_n (fun v J => v = s_lov 4 (nI t) (g_a G t) x ∧ bc_T J G dr sh (s_stA 4 (s_loA 4 A)) ∧ mo_T I J) L Rf n) := by
  refine wm_of (by decide) (Nat.le_of_ble_eq_true rfl) rfl ?_
  have hmo : mo_T I I := mo_rf
  have h8 := mv_8 hbc.1.1
  refine ra_0 oX5_looking_0 ?_
  refine rr_gr (v := 48) oX5_looking_1 (ff_X5_26 rfl) kk_46 (wd_lt W rfl) ⟨by decide, rfl⟩ (wd_r W rfl rfl) ?_
  refine ri_1 oX5_looking_4 ?_
  refine rr_iv oX5_looking_5 kk_48 (wd_lt W rfl) rfl (by omega) (by decide) ((mv_k hbc.1.1 (by omega)).trans hk) ?_
  refine si_3 oX5_looking_6 rfl rfl ?_
  refine ri_2 oX5_looking_7 ?_
  refine si_4 oX5_looking_8 rfl rfl ?_
  refine ri_3 oX5_looking_10 ?_
  refine rk_3 oX5_looking_11 ?_
  refine rr_icmp_ne (tgt := 26) oX5_looking_12 (by decide) (fun _ => ?_) (fun q => absurd q (by decide))
  refine ri_3 oX5_looking_26 ?_
  refine rr_bipush (v := 6) oX5_looking_27 (by decide) ?_
  refine rr_icmp_ne (tgt := 48) oX5_looking_29 (by decide) (fun _ => ?_) (fun q => absurd q (by decide))
  refine ri_3 oX5_looking_48 ?_
  refine rk_2 oX5_looking_49 ?_
  refine rr_icmp_eq (tgt := 59) oX5_looking_50 (by decide) (fun q => absurd q (by decide)) (fun _ => ?_)
  refine ri_3 oX5_looking_53 ?_
  refine rr_bipush (v := 6) oX5_looking_54 (by decide) ?_
  refine rr_icmp_ne (tgt := 65) oX5_looking_56 (by decide) (fun _ => ?_) (fun q => absurd q (by decide))
  refine ra_0 oX5_looking_65 ?_
  refine rr_bipush (v := 11) oX5_looking_66 (by decide) ?_
  refine rr_cVm (c_X5_body l W hbc (by first | omega | (simp only [bd_2]; omega))) oX5_looking_68 (cv_X5_273 rfl) (by decide) kk_46 (by decide) hcn_5 (wd_lt W rfl) rfl rfl (Nat.le_of_ble_eq_true rfl) (fun J hJ => ?_)
  obtain ⟨hbc, hmo2⟩ := hJ
  replace hmo := mo_tr hmo hmo2
  refine ra_0 oX5_looking_71 ?_
  refine ri_1 oX5_looking_72 ?_
  refine ri_4 oX5_looking_73 ?_
  refine rr_cVn (c_X5_standing l W hbc ht (by first | omega | (simp only [bd_2]; omega))) oX5_looking_75 (cv_X5_276 rfl) (by decide) kk_46 (by decide) hcn_5 (wd_lt W rfl) rfl rfl (Nat.le_of_ble_eq_true rfl) (fun v J hJ => ?_)
  obtain ⟨hv, hbc, hmo2⟩ := hJ
  replace hmo := mo_tr hmo hmo2
  refine rk_2 oX5_looking_78 ?_
  refine rr_imul oX5_looking_79 ?_
  refine si_5 oX5_looking_80 rfl rfl ?_
  refine ri_3 oX5_looking_82 ?_
  refine rk_2 oX5_looking_83 ?_
  refine rr_icmp_eq (tgt := 93) oX5_looking_84 (by decide) (fun q => absurd q (by decide)) (fun _ => ?_)
  refine ri_3 oX5_looking_87 ?_
  refine rr_bipush (v := 6) oX5_looking_88 (by decide) ?_
  refine rr_icmp_ne (tgt := 100) oX5_looking_90 (by decide) (fun _ => ?_) (fun q => absurd q (by decide))
  refine ri_5 oX5_looking_100 ?_
  exact rr_ireturn oX5_looking_102 rfl rfl (q_n_of ⟨by rw [hv, hk]; rfl, by rw [hk] at hbc; exact hbc, hmo⟩)
theorem c5_X5_looking (l : Launch) {I : Nat → Nat → Int32} {L : Nat → Nat → Int64} {Rf : Nat → Nat → Option Nat} {n : Nat} {G : gr_T} {dr : Nat → Bool} {sh : Nat → Nat → Bool} {A : (Nat → Int32) × Nat} (W : wd_T Rf n) (hbc : bc_T I G dr sh A)  {t : Nat} (ht : t < g_n G) {x : Int32} (hk : g_k G t = 5) (hA : A.2 < 880) : wm_C l mX5_looking 4 0 0 [vv_A (some 46), vv_I (nI t), vv_I x] (I, L, Rf, n) (q_n (fun v J => v = s_lov 5 (nI t) (g_a G t) x ∧ bc_T J G dr sh (s_stA 5 (s_loA 5 A)) ∧ mo_T I J) L Rf n) := by
  refine wm_of (by decide) (Nat.le_of_ble_eq_true rfl) rfl ?_
  have hmo : mo_T I I := mo_rf
  have h8 := mv_8 hbc.1.1
  refine ra_0 oX5_looking_0 ?_
  refine rr_gr (v := 48) oX5_looking_1 (ff_X5_26 rfl) kk_46 (wd_lt W rfl) ⟨by decide, rfl⟩ (wd_r W rfl rfl) ?_
  refine ri_1 oX5_looking_4 ?_
  refine rr_iv oX5_looking_5 kk_48 (wd_lt W rfl) rfl (by omega) (by decide) ((mv_k hbc.1.1 (by omega)).trans hk) ?_
  refine si_3 oX5_looking_6 rfl rfl ?_
  refine ri_2 oX5_looking_7 ?_
  refine si_4 oX5_looking_8 rfl rfl ?_
  refine ri_3 oX5_looking_10 ?_
  refine rk_3 oX5_looking_11 ?_
  refine rr_icmp_ne (tgt := 26) oX5_looking_12 (by decide) (fun _ => ?_) (fun q => absurd q (by decide))
  refine ri_3 oX5_looking_26 ?_
  refine rr_bipush (v := 6) oX5_looking_27 (by decide) ?_
  refine rr_icmp_ne (tgt := 48) oX5_looking_29 (by decide) (fun _ => ?_) (fun q => absurd q (by decide))
  refine ri_3 oX5_looking_48 ?_
  refine rk_2 oX5_looking_49 ?_
  refine rr_icmp_eq (tgt := 59) oX5_looking_50 (by decide) (fun q => absurd q (by decide)) (fun _ => ?_)
  refine ri_3 oX5_looking_53 ?_
  refine rr_bipush (v := 6) oX5_looking_54 (by decide) ?_
  refine rr_icmp_ne (tgt := 65) oX5_looking_56 (by decide) (fun _ => ?_) (fun q => absurd q (by decide))
  refine ra_0 oX5_looking_65 ?_
  refine rr_bipush (v := 11) oX5_looking_66 (by decide) ?_
  refine rr_cVm (c_X5_body l W hbc (by first | omega | (simp only [bd_2]; omega))) oX5_looking_68 (cv_X5_273 rfl) (by decide) kk_46 (by decide) hcn_5 (wd_lt W rfl) rfl rfl (Nat.le_of_ble_eq_true rfl) (fun J hJ => ?_)
  obtain ⟨hbc, hmo2⟩ := hJ
  replace hmo := mo_tr hmo hmo2
  refine ra_0 oX5_looking_71 ?_
  refine ri_1 oX5_looking_72 ?_
  refine ri_4 oX5_looking_73 ?_
  refine rr_cVn (c_X5_standing l W hbc ht (by first | omega | (simp only [bd_2]; omega))) oX5_looking_75 (cv_X5_276 rfl) (by decide) kk_46 (by decide) hcn_5 (wd_lt W rfl) rfl rfl (Nat.le_of_ble_eq_true rfl) (fun v J hJ => ?_)
  obtain ⟨hv, hbc, hmo2⟩ := hJ
  replace hmo := mo_tr hmo hmo2
  refine rk_2 oX5_looking_78 ?_
  refine rr_imul oX5_looking_79 ?_
  refine si_5 oX5_looking_80 rfl rfl ?_
  refine ri_3 oX5_looking_82 ?_
  refine rk_2 oX5_looking_83 ?_
  refine rr_icmp_eq (tgt := 93) oX5_looking_84 (by decide) (fun q => absurd q (by decide)) (fun _ => ?_)
  refine ri_3 oX5_looking_87 ?_
  refine rr_bipush (v := 6) oX5_looking_88 (by decide) ?_
  refine rr_icmp_ne (tgt := 100) oX5_looking_90 (by decide) (fun _ => ?_) (fun q => absurd q (by decide))
  refine ri_5 oX5_looking_100 ?_
  exact rr_ireturn oX5_looking_102 rfl rfl (q_n_of ⟨by rw [hv, hk]; rfl, by rw [hk] at hbc; exact hbc, hmo⟩)
theorem c6_X5_looking (l : Launch) {I : Nat → Nat → Int32} {L : Nat → Nat → Int64} {Rf : Nat → Nat → Option Nat} {n : Nat} {G : gr_T} {dr : Nat → Bool} {sh : Nat → Nat → Bool} {A : (Nat → Int32) × Nat} (W : wd_T Rf n) (hbc : bc_T I G dr sh A)  {t : Nat} (ht : t < g_n G) {x : Int32} (hk : g_k G t = 6) (hA : A.2 < 880) : wm_C l mX5_looking 4 0 0 [vv_A (some 46), vv_I (nI t), vv_I x] (I, L, Rf, n) (q_n (fun v J => v = s_lov 6 (nI t) (g_a G t) x ∧ bc_T J G dr sh (s_stA 6 (s_loA 6 A)) ∧ mo_T I J) L Rf n) := by
  refine wm_of (by decide) (Nat.le_of_ble_eq_true rfl) rfl ?_
  have hmo : mo_T I I := mo_rf
  have h8 := mv_8 hbc.1.1
  refine ra_0 oX5_looking_0 ?_
  refine rr_gr (v := 48) oX5_looking_1 (ff_X5_26 rfl) kk_46 (wd_lt W rfl) ⟨by decide, rfl⟩ (wd_r W rfl rfl) ?_
  refine ri_1 oX5_looking_4 ?_
  refine rr_iv oX5_looking_5 kk_48 (wd_lt W rfl) rfl (by omega) (by decide) ((mv_k hbc.1.1 (by omega)).trans hk) ?_
  refine si_3 oX5_looking_6 rfl rfl ?_
  refine ri_2 oX5_looking_7 ?_
  refine si_4 oX5_looking_8 rfl rfl ?_
  refine ri_3 oX5_looking_10 ?_
  refine rk_3 oX5_looking_11 ?_
  refine rr_icmp_ne (tgt := 26) oX5_looking_12 (by decide) (fun _ => ?_) (fun q => absurd q (by decide))
  refine ri_3 oX5_looking_26 ?_
  refine rr_bipush (v := 6) oX5_looking_27 (by decide) ?_
  refine rr_icmp_ne (tgt := 48) oX5_looking_29 (by decide) (fun q => absurd q (by decide)) (fun _ => ?_)
  refine ra_0 oX5_looking_32 ?_
  refine rr_bipush (v := 71) oX5_looking_33 (by decide) ?_
  refine rr_cVm (c_X5_body l W hbc (by first | omega | (simp only [bd_2]; omega))) oX5_looking_35 (cv_X5_273 rfl) (by decide) kk_46 (by decide) hcn_5 (wd_lt W rfl) rfl rfl (Nat.le_of_ble_eq_true rfl) (fun J hJ => ?_)
  obtain ⟨hbc, hmo2⟩ := hJ
  replace hmo := mo_tr hmo hmo2
  refine ri_2 oX5_looking_38 ?_
  refine ra_0 oX5_looking_39 ?_
  refine rr_gr (v := 52) oX5_looking_40 (ff_X5_38 rfl) kk_46 (wd_lt W rfl) ⟨by decide, rfl⟩ (wd_r W rfl rfl) ?_
  refine ri_1 oX5_looking_43 ?_
  refine rr_iv oX5_looking_44 kk_52 (wd_lt W rfl) rfl (by omega) (by decide) (mv_a hbc.1.1 (by omega)) ?_
  refine rr_isub oX5_looking_45 ?_
  refine si_4 oX5_looking_46 rfl rfl ?_
  refine ri_3 oX5_looking_48 ?_
  refine rk_2 oX5_looking_49 ?_
  refine rr_icmp_eq (tgt := 59) oX5_looking_50 (by decide) (fun q => absurd q (by decide)) (fun _ => ?_)
  refine ri_3 oX5_looking_53 ?_
  refine rr_bipush (v := 6) oX5_looking_54 (by decide) ?_
  refine rr_icmp_ne (tgt := 65) oX5_looking_56 (by decide) (fun q => absurd q (by decide)) (fun _ => ?_)
  refine ra_0 oX5_looking_59 ?_
  refine rr_bipush (v := 30) oX5_looking_60 (by decide) ?_
  refine rr_cVm (c_X5_body l W hbc (by first | omega | (simp only [bd_2]; omega))) oX5_looking_62 (cv_X5_273 rfl) (by decide) kk_46 (by decide) hcn_5 (wd_lt W rfl) rfl rfl (Nat.le_of_ble_eq_true rfl) (fun J hJ => ?_)
  obtain ⟨hbc, hmo2⟩ := hJ
  replace hmo := mo_tr hmo hmo2
  refine ra_0 oX5_looking_65 ?_
  refine rr_bipush (v := 11) oX5_looking_66 (by decide) ?_
  refine rr_cVm (c_X5_body l W hbc (by first | omega | (simp only [bd_2]; omega))) oX5_looking_68 (cv_X5_273 rfl) (by decide) kk_46 (by decide) hcn_5 (wd_lt W rfl) rfl rfl (Nat.le_of_ble_eq_true rfl) (fun J hJ => ?_)
  obtain ⟨hbc, hmo2⟩ := hJ
  replace hmo := mo_tr hmo hmo2
  refine ra_0 oX5_looking_71 ?_
  refine ri_1 oX5_looking_72 ?_
  refine ri_4 oX5_looking_73 ?_
  refine rr_cVn (c_X5_standing l W hbc ht (by first | omega | (simp only [bd_2]; omega))) oX5_looking_75 (cv_X5_276 rfl) (by decide) kk_46 (by decide) hcn_5 (wd_lt W rfl) rfl rfl (Nat.le_of_ble_eq_true rfl) (fun v J hJ => ?_)
  obtain ⟨hv, hbc, hmo2⟩ := hJ
  replace hmo := mo_tr hmo hmo2
  refine rk_2 oX5_looking_78 ?_
  refine rr_imul oX5_looking_79 ?_
  refine si_5 oX5_looking_80 rfl rfl ?_
  refine ri_3 oX5_looking_82 ?_
  refine rk_2 oX5_looking_83 ?_
  refine rr_icmp_eq (tgt := 93) oX5_looking_84 (by decide) (fun q => absurd q (by decide)) (fun _ => ?_)
  refine ri_3 oX5_looking_87 ?_
  refine rr_bipush (v := 6) oX5_looking_88 (by decide) ?_
  refine rr_icmp_ne (tgt := 100) oX5_looking_90 (by decide) (fun q => absurd q (by decide)) (fun _ => ?_)
  refine ri_5 oX5_looking_93 ?_
  refine rk_3 oX5_looking_95 ?_
  refine rr_imul oX5_looking_96 ?_
  refine rr_goto (tgt := 102) oX5_looking_97 (by decide) ?_
  exact rr_ireturn oX5_looking_102 rfl rfl (q_n_of ⟨by rw [hv, hk]; rfl, by rw [hk] at hbc; exact hbc, hmo⟩)
theorem c_X5_looking (l : Launch) {I : Nat → Nat → Int32} {L : Nat → Nat → Int64} {Rf : Nat → Nat → Option Nat} {n : Nat} {G : gr_T} {dr : Nat → Bool} {sh : Nat → Nat → Bool} {A : (Nat → Int32) × Nat} (W : wd_T Rf n) (hbc : bc_T I G dr sh A)  {t : Nat} (ht : t < g_n G) {x : Int32} (hA : A.2 < 880) : wm_C l mX5_looking 4 0 0 [vv_A (some 46), vv_I (nI t), vv_I x] (I, L, Rf, n) (q_n (fun v J => v = s_lov (g_k G t) (nI t) (g_a G t) x ∧ bc_T J G dr sh (s_stA (g_k G t) (s_loA (g_k G t) A)) ∧ mo_T I J) L Rf n) := by
  have hk := hbc.1.2.2.2.1 t ht
  have e : ∀ v : Int32, g_k G t = v → g_k G t = v := fun _ h => h
  rcases kd_7 hk with q | q | q | q | q | q | q
  · have r := c0_X5_looking (L := L) l W hbc ht (x := x) q hA; rw [q]; exact r
  · have r := c1_X5_looking (L := L) l W hbc ht (x := x) q hA; rw [q]; exact r
  · have r := c2_X5_looking (L := L) l W hbc ht (x := x) q hA; rw [q]; exact r
  · have r := c3_X5_looking (L := L) l W hbc ht (x := x) q hA; rw [q]; exact r
  · have r := c4_X5_looking (L := L) l W hbc ht (x := x) q hA; rw [q]; exact r
  · have r := c5_X5_looking (L := L) l W hbc ht (x := x) q hA; rw [q]; exact r
  · have r := c6_X5_looking (L := L) l W hbc ht (x := x) q hA; rw [q]; exact r
theorem c0_X5_hiding (l : Launch) {I : Nat → Nat → Int32} {L : Nat → Nat → Int64} {Rf : Nat → Nat → Option Nat} {n : Nat} {G : gr_T} {dr : Nat → Bool} {sh : Nat → Nat → Bool} {A : (Nat → Int32) × Nat} (W : wd_T Rf n) (hbc : bc_T I G dr sh A)  {t : Nat} (ht : t < g_n G) {x : Int32} (hk : g_k G t = 0) (hA : A.2 < 800) : wm_C l mX5_hiding 5 0 0 [vv_A (some 46), vv_I (nI t), vv_I x] (I, L, Rf, n) (q_n (fun v J => v = s_hiv 0 (nI t) (g_a G t) x ∧ bc_T J G dr sh (s_stA 0 (s_stA 0 (s_loA 0 (s_hiA 0 A)))) ∧ mo_T I J) L Rf n) := by
  refine wm_of (by decide) (Nat.le_of_ble_eq_true rfl) rfl ?_
  have hmo : mo_T I I := mo_rf
  have h8 := mv_8 hbc.1.1
  refine ra_0 oX5_hiding_0 ?_
  refine rr_gr (v := 48) oX5_hiding_1 (ff_X5_26 rfl) kk_46 (wd_lt W rfl) ⟨by decide, rfl⟩ (wd_r W rfl rfl) ?_
  refine ri_1 oX5_hiding_4 ?_
  refine rr_iv oX5_hiding_5 kk_48 (wd_lt W rfl) rfl (by omega) (by decide) ((mv_k hbc.1.1 (by omega)).trans hk) ?_
  refine si_3 oX5_hiding_6 rfl rfl ?_
  refine ri_3 oX5_hiding_7 ?_
  refine rk_4 oX5_hiding_8 ?_
  refine rr_icmp_ne (tgt := 18) oX5_hiding_9 (by decide) (fun _ => ?_) (fun q => absurd q (by decide))
  refine ri_3 oX5_hiding_18 ?_
  refine rk_5 oX5_hiding_19 ?_
  refine rr_icmp_ne (tgt := 29) oX5_hiding_20 (by decide) (fun _ => ?_) (fun q => absurd q (by decide))
  refine ra_0 oX5_hiding_29 ?_
  refine rr_bipush (v := 12) oX5_hiding_30 (by decide) ?_
  refine rr_cVm (c_X5_body l W hbc (by first | omega | (simp only [bd_2]; omega))) oX5_hiding_32 (cv_X5_273 rfl) (by decide) kk_46 (by decide) hcn_5 (wd_lt W rfl) rfl rfl (Nat.le_of_ble_eq_true rfl) (fun J hJ => ?_)
  obtain ⟨hbc, hmo2⟩ := hJ
  replace hmo := mo_tr hmo hmo2
  refine ra_0 oX5_hiding_35 ?_
  refine ri_1 oX5_hiding_36 ?_
  refine ri_2 oX5_hiding_37 ?_
  refine rr_cVn (c_X5_looking l W hbc ht (by first | omega | (simp only [bd_2]; omega))) oX5_hiding_38 (cv_X5_279 rfl) (by decide) kk_46 (by decide) hcn_5 (wd_lt W rfl) rfl rfl (Nat.le_of_ble_eq_true rfl) (fun v1 J hJ => ?_)
  obtain ⟨hv1, hbc, hmo2⟩ := hJ
  replace hmo := mo_tr hmo hmo2
  refine si_4 oX5_hiding_41 rfl rfl ?_
  refine ri_4 oX5_hiding_43 ?_
  refine ra_0 oX5_hiding_45 ?_
  refine ri_1 oX5_hiding_46 ?_
  refine ri_2 oX5_hiding_47 ?_
  refine ra_0 oX5_hiding_48 ?_
  refine rr_gr (v := 52) oX5_hiding_49 (ff_X5_38 rfl) kk_46 (wd_lt W rfl) ⟨by decide, rfl⟩ (wd_r W rfl rfl) ?_
  refine ri_1 oX5_hiding_52 ?_
  refine rr_iv oX5_hiding_53 kk_52 (wd_lt W rfl) rfl (by omega) (by decide) (mv_a hbc.1.1 (by omega)) ?_
  refine rr_isub oX5_hiding_54 ?_
  rw [hk] at hbc
  have hle := st_le 0 (s_loA 0 (s_hiA 0 A))
  have hle2 := lo_le 0 (s_hiA 0 A)
  have hle3 := hi_le 0 A
  refine rr_cVn (c_X5_standing l W hbc ht (show (s_stA 0 (s_loA 0 (s_hiA 0 A))).2 < 890 by omega)) oX5_hiding_55 (cv_X5_276 rfl) (by decide) kk_46 (by decide) hcn_5 (wd_lt W rfl) rfl rfl (Nat.le_of_ble_eq_true rfl) (fun v J hJ => ?_)
  obtain ⟨hv, hbc, hmo2⟩ := hJ
  replace hmo := mo_tr hmo hmo2
  refine rr_ixor oX5_hiding_58 ?_
  refine si_4 oX5_hiding_59 rfl rfl ?_
  refine ri_3 oX5_hiding_61 ?_
  refine rk_4 oX5_hiding_62 ?_
  refine rr_icmp_ne (tgt := 72) oX5_hiding_63 (by decide) (fun _ => ?_) (fun q => absurd q (by decide))
  refine ri_3 oX5_hiding_72 ?_
  refine rk_5 oX5_hiding_73 ?_
  refine rr_icmp_ne (tgt := 84) oX5_hiding_74 (by decide) (fun _ => ?_) (fun q => absurd q (by decide))
  refine ri_4 oX5_hiding_84 ?_
  exact rr_ireturn oX5_hiding_86 rfl rfl (q_n_of ⟨by rw [hv, hv1, hk]; rfl, by rw [hk] at hbc; exact hbc, hmo⟩)
theorem c1_X5_hiding (l : Launch) {I : Nat → Nat → Int32} {L : Nat → Nat → Int64} {Rf : Nat → Nat → Option Nat} {n : Nat} {G : gr_T} {dr : Nat → Bool} {sh : Nat → Nat → Bool} {A : (Nat → Int32) × Nat} (W : wd_T Rf n) (hbc : bc_T I G dr sh A)  {t : Nat} (ht : t < g_n G) {x : Int32} (hk : g_k G t = 1) (hA : A.2 < 800) : wm_C l mX5_hiding 5 0 0 [vv_A (some 46), vv_I (nI t), vv_I x] (I, L, Rf, n) (q_n (fun v J => v = s_hiv 1 (nI t) (g_a G t) x ∧ bc_T J G dr sh (s_stA 1 (s_stA 1 (s_loA 1 (s_hiA 1 A)))) ∧ mo_T I J) L Rf n) := by
  refine wm_of (by decide) (Nat.le_of_ble_eq_true rfl) rfl ?_
  have hmo : mo_T I I := mo_rf
  have h8 := mv_8 hbc.1.1
  refine ra_0 oX5_hiding_0 ?_
  refine rr_gr (v := 48) oX5_hiding_1 (ff_X5_26 rfl) kk_46 (wd_lt W rfl) ⟨by decide, rfl⟩ (wd_r W rfl rfl) ?_
  refine ri_1 oX5_hiding_4 ?_
  refine rr_iv oX5_hiding_5 kk_48 (wd_lt W rfl) rfl (by omega) (by decide) ((mv_k hbc.1.1 (by omega)).trans hk) ?_
  refine si_3 oX5_hiding_6 rfl rfl ?_
  refine ri_3 oX5_hiding_7 ?_
  refine rk_4 oX5_hiding_8 ?_
  refine rr_icmp_ne (tgt := 18) oX5_hiding_9 (by decide) (fun _ => ?_) (fun q => absurd q (by decide))
  refine ri_3 oX5_hiding_18 ?_
  refine rk_5 oX5_hiding_19 ?_
  refine rr_icmp_ne (tgt := 29) oX5_hiding_20 (by decide) (fun _ => ?_) (fun q => absurd q (by decide))
  refine ra_0 oX5_hiding_29 ?_
  refine rr_bipush (v := 12) oX5_hiding_30 (by decide) ?_
  refine rr_cVm (c_X5_body l W hbc (by first | omega | (simp only [bd_2]; omega))) oX5_hiding_32 (cv_X5_273 rfl) (by decide) kk_46 (by decide) hcn_5 (wd_lt W rfl) rfl rfl (Nat.le_of_ble_eq_true rfl) (fun J hJ => ?_)
  obtain ⟨hbc, hmo2⟩ := hJ
  replace hmo := mo_tr hmo hmo2
  refine ra_0 oX5_hiding_35 ?_
  refine ri_1 oX5_hiding_36 ?_
  refine ri_2 oX5_hiding_37 ?_
  refine rr_cVn (c_X5_looking l W hbc ht (by first | omega | (simp only [bd_2]; omega))) oX5_hiding_38 (cv_X5_279 rfl) (by decide) kk_46 (by decide) hcn_5 (wd_lt W rfl) rfl rfl (Nat.le_of_ble_eq_true rfl) (fun v1 J hJ => ?_)
  obtain ⟨hv1, hbc, hmo2⟩ := hJ
  replace hmo := mo_tr hmo hmo2
  refine si_4 oX5_hiding_41 rfl rfl ?_
  refine ri_4 oX5_hiding_43 ?_
  refine ra_0 oX5_hiding_45 ?_
  refine ri_1 oX5_hiding_46 ?_
  refine ri_2 oX5_hiding_47 ?_
  refine ra_0 oX5_hiding_48 ?_
  refine rr_gr (v := 52) oX5_hiding_49 (ff_X5_38 rfl) kk_46 (wd_lt W rfl) ⟨by decide, rfl⟩ (wd_r W rfl rfl) ?_
  refine ri_1 oX5_hiding_52 ?_
  refine rr_iv oX5_hiding_53 kk_52 (wd_lt W rfl) rfl (by omega) (by decide) (mv_a hbc.1.1 (by omega)) ?_
  refine rr_isub oX5_hiding_54 ?_
  rw [hk] at hbc
  have hle := st_le 1 (s_loA 1 (s_hiA 1 A))
  have hle2 := lo_le 1 (s_hiA 1 A)
  have hle3 := hi_le 1 A
  refine rr_cVn (c_X5_standing l W hbc ht (show (s_stA 1 (s_loA 1 (s_hiA 1 A))).2 < 890 by omega)) oX5_hiding_55 (cv_X5_276 rfl) (by decide) kk_46 (by decide) hcn_5 (wd_lt W rfl) rfl rfl (Nat.le_of_ble_eq_true rfl) (fun v J hJ => ?_)
  obtain ⟨hv, hbc, hmo2⟩ := hJ
  replace hmo := mo_tr hmo hmo2
  refine rr_ixor oX5_hiding_58 ?_
  refine si_4 oX5_hiding_59 rfl rfl ?_
  refine ri_3 oX5_hiding_61 ?_
  refine rk_4 oX5_hiding_62 ?_
  refine rr_icmp_ne (tgt := 72) oX5_hiding_63 (by decide) (fun _ => ?_) (fun q => absurd q (by decide))
  refine ri_3 oX5_hiding_72 ?_
  refine rk_5 oX5_hiding_73 ?_
  refine rr_icmp_ne (tgt := 84) oX5_hiding_74 (by decide) (fun _ => ?_) (fun q => absurd q (by decide))
  refine ri_4 oX5_hiding_84 ?_
  exact rr_ireturn oX5_hiding_86 rfl rfl (q_n_of ⟨by rw [hv, hv1, hk]; rfl, by rw [hk] at hbc; exact hbc, hmo⟩)
theorem c2_X5_hiding (l : Launch) {I : Nat → Nat → Int32} {L : Nat → Nat → Int64} {Rf : Nat → Nat → Option Nat} {n : Nat} {G : gr_T} {dr : Nat → Bool} {sh : Nat → Nat → Bool} {A : (Nat → Int32) × Nat} (W : wd_T Rf n) (hbc : bc_T I G dr sh A)  {t : Nat} (ht : t < g_n G) {x : Int32} (hk : g_k G t = 2) (hA : A.2 < 800) : wm_C l mX5_hiding 5 0 0 [vv_A (some 46), vv_I (nI t), vv_I x] (I, L, Rf, n) (q_n (fun v J => v = s_hiv 2 (nI t) (g_a G t) x ∧ bc_T J G dr sh (s_stA 2 (s_stA 2 (s_loA 2 (s_hiA 2 A)))) ∧ mo_T I J) L Rf n) := by
  refine wm_of (by decide) (Nat.le_of_ble_eq_true rfl) rfl ?_
  have hmo : mo_T I I := mo_rf
  have h8 := mv_8 hbc.1.1
  refine ra_0 oX5_hiding_0 ?_
  refine rr_gr (v := 48) oX5_hiding_1 (ff_X5_26 rfl) kk_46 (wd_lt W rfl) ⟨by decide, rfl⟩ (wd_r W rfl rfl) ?_
  refine ri_1 oX5_hiding_4 ?_
  refine rr_iv oX5_hiding_5 kk_48 (wd_lt W rfl) rfl (by omega) (by decide) ((mv_k hbc.1.1 (by omega)).trans hk) ?_
  refine si_3 oX5_hiding_6 rfl rfl ?_
  refine ri_3 oX5_hiding_7 ?_
  refine rk_4 oX5_hiding_8 ?_
  refine rr_icmp_ne (tgt := 18) oX5_hiding_9 (by decide) (fun _ => ?_) (fun q => absurd q (by decide))
  refine ri_3 oX5_hiding_18 ?_
  refine rk_5 oX5_hiding_19 ?_
  refine rr_icmp_ne (tgt := 29) oX5_hiding_20 (by decide) (fun _ => ?_) (fun q => absurd q (by decide))
  refine ra_0 oX5_hiding_29 ?_
  refine rr_bipush (v := 12) oX5_hiding_30 (by decide) ?_
  refine rr_cVm (c_X5_body l W hbc (by first | omega | (simp only [bd_2]; omega))) oX5_hiding_32 (cv_X5_273 rfl) (by decide) kk_46 (by decide) hcn_5 (wd_lt W rfl) rfl rfl (Nat.le_of_ble_eq_true rfl) (fun J hJ => ?_)
  obtain ⟨hbc, hmo2⟩ := hJ
  replace hmo := mo_tr hmo hmo2
  refine ra_0 oX5_hiding_35 ?_
  refine ri_1 oX5_hiding_36 ?_
  refine ri_2 oX5_hiding_37 ?_
  refine rr_cVn (c_X5_looking l W hbc ht (by first | omega | (simp only [bd_2]; omega))) oX5_hiding_38 (cv_X5_279 rfl) (by decide) kk_46 (by decide) hcn_5 (wd_lt W rfl) rfl rfl (Nat.le_of_ble_eq_true rfl) (fun v1 J hJ => ?_)
  obtain ⟨hv1, hbc, hmo2⟩ := hJ
  replace hmo := mo_tr hmo hmo2
  refine si_4 oX5_hiding_41 rfl rfl ?_
  refine ri_4 oX5_hiding_43 ?_
  refine ra_0 oX5_hiding_45 ?_
  refine ri_1 oX5_hiding_46 ?_
  refine ri_2 oX5_hiding_47 ?_
  refine ra_0 oX5_hiding_48 ?_
  refine rr_gr (v := 52) oX5_hiding_49 (ff_X5_38 rfl) kk_46 (wd_lt W rfl) ⟨by decide, rfl⟩ (wd_r W rfl rfl) ?_
  refine ri_1 oX5_hiding_52 ?_
  refine rr_iv oX5_hiding_53 kk_52 (wd_lt W rfl) rfl (by omega) (by decide) (mv_a hbc.1.1 (by omega)) ?_
  refine rr_isub oX5_hiding_54 ?_
  rw [hk] at hbc
  have hle := st_le 2 (s_loA 2 (s_hiA 2 A))
  have hle2 := lo_le 2 (s_hiA 2 A)
  have hle3 := hi_le 2 A
  refine rr_cVn (c_X5_standing l W hbc ht (show (s_stA 2 (s_loA 2 (s_hiA 2 A))).2 < 890 by omega)) oX5_hiding_55 (cv_X5_276 rfl) (by decide) kk_46 (by decide) hcn_5 (wd_lt W rfl) rfl rfl (Nat.le_of_ble_eq_true rfl) (fun v J hJ => ?_)
  obtain ⟨hv, hbc, hmo2⟩ := hJ
  replace hmo := mo_tr hmo hmo2
  refine rr_ixor oX5_hiding_58 ?_
  refine si_4 oX5_hiding_59 rfl rfl ?_
  refine ri_3 oX5_hiding_61 ?_
  refine rk_4 oX5_hiding_62 ?_
  refine rr_icmp_ne (tgt := 72) oX5_hiding_63 (by decide) (fun _ => ?_) (fun q => absurd q (by decide))
  refine ri_3 oX5_hiding_72 ?_
  refine rk_5 oX5_hiding_73 ?_
  refine rr_icmp_ne (tgt := 84) oX5_hiding_74 (by decide) (fun _ => ?_) (fun q => absurd q (by decide))
  refine ri_4 oX5_hiding_84 ?_
  exact rr_ireturn oX5_hiding_86 rfl rfl (q_n_of ⟨by rw [hv, hv1, hk]; rfl, by rw [hk] at hbc; exact hbc, hmo⟩)
theorem c3_X5_hiding (l : Launch) {I : Nat → Nat → Int32} {L : Nat → Nat → Int64} {Rf : Nat → Nat → Option Nat} {n : Nat} {G : gr_T} {dr : Nat → Bool} {sh : Nat → Nat → Bool} {A : (Nat → Int32) × Nat} (W : wd_T Rf n) (hbc : bc_T I G dr sh A)  {t : Nat} (ht : t < g_n G) {x : Int32} (hk : g_k G t = 3) (hA : A.2 < 800) : wm_C l mX5_hiding 5 0 0 [vv_A (some 46), vv_I (nI t), vv_I x] (I, L, Rf, n) (q_n (fun v J => v = s_hiv 3 (nI t) (g_a G t) x ∧ bc_T J G dr sh (s_stA 3 (s_stA 3 (s_loA 3 (s_hiA 3 A)))) ∧ mo_T I J) L Rf n) := by
  refine wm_of (by decide) (Nat.le_of_ble_eq_true rfl) rfl ?_
  have hmo : mo_T I I := mo_rf
  have h8 := mv_8 hbc.1.1
  refine ra_0 oX5_hiding_0 ?_
  refine rr_gr (v := 48) oX5_hiding_1 (ff_X5_26 rfl) kk_46 (wd_lt W rfl) ⟨by decide, rfl⟩ (wd_r W rfl rfl) ?_
  refine ri_1 oX5_hiding_4 ?_
  refine rr_iv oX5_hiding_5 kk_48 (wd_lt W rfl) rfl (by omega) (by decide) ((mv_k hbc.1.1 (by omega)).trans hk) ?_
  refine si_3 oX5_hiding_6 rfl rfl ?_
  refine ri_3 oX5_hiding_7 ?_
  refine rk_4 oX5_hiding_8 ?_
  refine rr_icmp_ne (tgt := 18) oX5_hiding_9 (by decide) (fun _ => ?_) (fun q => absurd q (by decide))
  refine ri_3 oX5_hiding_18 ?_
  refine rk_5 oX5_hiding_19 ?_
  refine rr_icmp_ne (tgt := 29) oX5_hiding_20 (by decide) (fun _ => ?_) (fun q => absurd q (by decide))
  refine ra_0 oX5_hiding_29 ?_
  refine rr_bipush (v := 12) oX5_hiding_30 (by decide) ?_
  refine rr_cVm (c_X5_body l W hbc (by first | omega | (simp only [bd_2]; omega))) oX5_hiding_32 (cv_X5_273 rfl) (by decide) kk_46 (by decide) hcn_5 (wd_lt W rfl) rfl rfl (Nat.le_of_ble_eq_true rfl) (fun J hJ => ?_)
  obtain ⟨hbc, hmo2⟩ := hJ
  replace hmo := mo_tr hmo hmo2
  refine ra_0 oX5_hiding_35 ?_
  refine ri_1 oX5_hiding_36 ?_
  refine ri_2 oX5_hiding_37 ?_
  refine rr_cVn (c_X5_looking l W hbc ht (by first | omega | (simp only [bd_2]; omega))) oX5_hiding_38 (cv_X5_279 rfl) (by decide) kk_46 (by decide) hcn_5 (wd_lt W rfl) rfl rfl (Nat.le_of_ble_eq_true rfl) (fun v1 J hJ => ?_)
  obtain ⟨hv1, hbc, hmo2⟩ := hJ
  replace hmo := mo_tr hmo hmo2
  refine si_4 oX5_hiding_41 rfl rfl ?_
  refine ri_4 oX5_hiding_43 ?_
  refine ra_0 oX5_hiding_45 ?_
  refine ri_1 oX5_hiding_46 ?_
  refine ri_2 oX5_hiding_47 ?_
  refine ra_0 oX5_hiding_48 ?_
  refine rr_gr (v := 52) oX5_hiding_49 (ff_X5_38 rfl) kk_46 (wd_lt W rfl) ⟨by decide, rfl⟩ (wd_r W rfl rfl) ?_
  refine ri_1 oX5_hiding_52 ?_
  refine rr_iv oX5_hiding_53 kk_52 (wd_lt W rfl) rfl (by omega) (by decide) (mv_a hbc.1.1 (by omega)) ?_
  refine rr_isub oX5_hiding_54 ?_
  rw [hk] at hbc
  have hle := st_le 3 (s_loA 3 (s_hiA 3 A))
  have hle2 := lo_le 3 (s_hiA 3 A)
  have hle3 := hi_le 3 A
  refine rr_cVn (c_X5_standing l W hbc ht (show (s_stA 3 (s_loA 3 (s_hiA 3 A))).2 < 890 by omega)) oX5_hiding_55 (cv_X5_276 rfl) (by decide) kk_46 (by decide) hcn_5 (wd_lt W rfl) rfl rfl (Nat.le_of_ble_eq_true rfl) (fun v J hJ => ?_)
  obtain ⟨hv, hbc, hmo2⟩ := hJ
  replace hmo := mo_tr hmo hmo2
  refine rr_ixor oX5_hiding_58 ?_
  refine si_4 oX5_hiding_59 rfl rfl ?_
  refine ri_3 oX5_hiding_61 ?_
  refine rk_4 oX5_hiding_62 ?_
  refine rr_icmp_ne (tgt := 72) oX5_hiding_63 (by decide) (fun _ => ?_) (fun q => absurd q (by decide))
  refine ri_3 oX5_hiding_72 ?_
  refine rk_5 oX5_hiding_73 ?_
  refine rr_icmp_ne (tgt := 84) oX5_hiding_74 (by decide) (fun _ => ?_) (fun q => absurd q (by decide))
  refine ri_4 oX5_hiding_84 ?_
  exact rr_ireturn oX5_hiding_86 rfl rfl (q_n_of ⟨by rw [hv, hv1, hk]; rfl, by rw [hk] at hbc; exact hbc, hmo⟩)
theorem c4_X5_hiding (l : Launch) {I : Nat → Nat → Int32} {L : Nat → Nat → Int64} {Rf : Nat → Nat → Option Nat} {n : Nat} {G : gr_T} {dr : Nat → Bool} {sh : Nat → Nat → Bool} {A : (Nat → Int32) × Nat} (W : wd_T Rf n) (hbc : bc_T I G dr sh A)  {t : Nat} (ht : t < g_n G) {x : Int32} (hk : g_k G t = 4) (hA : A.2 < 800) : wm_C l mX5_hiding 5 0 0 [vv_A (some 46), vv_I (nI t), vv_I x] (I, L, Rf, n) (q_n (fun v J => v = s_hiv 4 (nI t) (g_a G t) x ∧ bc_T J G dr sh (s_stA 4 (s_stA 4 (s_loA 4 (s_hiA 4 A)))) ∧ mo_T I J) L Rf n) := by
  refine wm_of (by decide) (Nat.le_of_ble_eq_true rfl) rfl ?_
  have hmo : mo_T I I := mo_rf
  have h8 := mv_8 hbc.1.1
  refine ra_0 oX5_hiding_0 ?_
  refine rr_gr (v := 48) oX5_hiding_1 (ff_X5_26 rfl) kk_46 (wd_lt W rfl) ⟨by decide, rfl⟩ (wd_r W rfl rfl) ?_
  refine ri_1 oX5_hiding_4 ?_
  refine rr_iv oX5_hiding_5 kk_48 (wd_lt W rfl) rfl (by omega) (by decide) ((mv_k hbc.1.1 (by omega)).trans hk) ?_
  refine si_3 oX5_hiding_6 rfl rfl ?_
  refine ri_3 oX5_hiding_7 ?_
  refine rk_4 oX5_hiding_8 ?_
  refine rr_icmp_ne (tgt := 18) oX5_hiding_9 (by decide) (fun q => absurd q (by decide)) (fun _ => ?_)
  refine ra_0 oX5_hiding_12 ?_
  refine rr_bipush (v := 50) oX5_hiding_13 (by decide) ?_
  refine rr_cVm (c_X5_body l W hbc (by first | omega | (simp only [bd_2]; omega))) oX5_hiding_15 (cv_X5_273 rfl) (by decide) kk_46 (by decide) hcn_5 (wd_lt W rfl) rfl rfl (Nat.le_of_ble_eq_true rfl) (fun J hJ => ?_)
  obtain ⟨hbc, hmo2⟩ := hJ
  replace hmo := mo_tr hmo hmo2
  refine ri_3 oX5_hiding_18 ?_
  refine rk_5 oX5_hiding_19 ?_
  refine rr_icmp_ne (tgt := 29) oX5_hiding_20 (by decide) (fun _ => ?_) (fun q => absurd q (by decide))
  refine ra_0 oX5_hiding_29 ?_
  refine rr_bipush (v := 12) oX5_hiding_30 (by decide) ?_
  refine rr_cVm (c_X5_body l W hbc (by first | omega | (simp only [bd_2]; omega))) oX5_hiding_32 (cv_X5_273 rfl) (by decide) kk_46 (by decide) hcn_5 (wd_lt W rfl) rfl rfl (Nat.le_of_ble_eq_true rfl) (fun J hJ => ?_)
  obtain ⟨hbc, hmo2⟩ := hJ
  replace hmo := mo_tr hmo hmo2
  refine ra_0 oX5_hiding_35 ?_
  refine ri_1 oX5_hiding_36 ?_
  refine ri_2 oX5_hiding_37 ?_
  refine rr_cVn (c_X5_looking l W hbc ht (by first | omega | (simp only [bd_2]; omega))) oX5_hiding_38 (cv_X5_279 rfl) (by decide) kk_46 (by decide) hcn_5 (wd_lt W rfl) rfl rfl (Nat.le_of_ble_eq_true rfl) (fun v1 J hJ => ?_)
  obtain ⟨hv1, hbc, hmo2⟩ := hJ
  replace hmo := mo_tr hmo hmo2
  refine si_4 oX5_hiding_41 rfl rfl ?_
  refine ri_4 oX5_hiding_43 ?_
  refine ra_0 oX5_hiding_45 ?_
  refine ri_1 oX5_hiding_46 ?_
  refine ri_2 oX5_hiding_47 ?_
  refine ra_0 oX5_hiding_48 ?_
  refine rr_gr (v := 52) oX5_hiding_49 (ff_X5_38 rfl) kk_46 (wd_lt W rfl) ⟨by decide, rfl⟩ (wd_r W rfl rfl) ?_
  refine ri_1 oX5_hiding_52 ?_
  refine rr_iv oX5_hiding_53 kk_52 (wd_lt W rfl) rfl (by omega) (by decide) (mv_a hbc.1.1 (by omega)) ?_
  refine rr_isub oX5_hiding_54 ?_
  rw [hk] at hbc
  have hle := st_le 4 (s_loA 4 (s_hiA 4 A))
  have hle2 := lo_le 4 (s_hiA 4 A)
  have hle3 := hi_le 4 A
  refine rr_cVn (c_X5_standing l W hbc ht (show (s_stA 4 (s_loA 4 (s_hiA 4 A))).2 < 890 by omega)) oX5_hiding_55 (cv_X5_276 rfl) (by decide) kk_46 (by decide) hcn_5 (wd_lt W rfl) rfl rfl (Nat.le_of_ble_eq_true rfl) (fun v J hJ => ?_)
  obtain ⟨hv, hbc, hmo2⟩ := hJ
  replace hmo := mo_tr hmo hmo2
  refine rr_ixor oX5_hiding_58 ?_
  refine si_4 oX5_hiding_59 rfl rfl ?_
  refine ri_3 oX5_hiding_61 ?_
  refine rk_4 oX5_hiding_62 ?_
  refine rr_icmp_ne (tgt := 72) oX5_hiding_63 (by decide) (fun q => absurd q (by decide)) (fun _ => ?_)
  refine ri_4 oX5_hiding_66 ?_
  refine rr_ineg oX5_hiding_68 ?_
  refine rr_goto (tgt := 86) oX5_hiding_69 (by decide) ?_
  exact rr_ireturn oX5_hiding_86 rfl rfl (q_n_of ⟨by rw [hv, hv1, hk]; rfl, by rw [hk] at hbc; exact hbc, hmo⟩)
theorem c5_X5_hiding (l : Launch) {I : Nat → Nat → Int32} {L : Nat → Nat → Int64} {Rf : Nat → Nat → Option Nat} {n : Nat} {G : gr_T} {dr : Nat → Bool} {sh : Nat → Nat → Bool} {A : (Nat → Int32) × Nat} (W : wd_T Rf n) (hbc : bc_T I G dr sh A)  {t : Nat} (ht : t < g_n G) {x : Int32} (hk : g_k G t = 5) (hA : A.2 < 800) : wm_C l mX5_hiding 5 0 0 [vv_A (some 46), vv_I (nI t), vv_I x] (I, L, Rf, n) (q_n (fun v J => v = s_hiv 5 (nI t) (g_a G t) x ∧ bc_T J G dr sh (s_stA 5 (s_stA 5 (s_loA 5 (s_hiA 5 A)))) ∧ mo_T I J) L Rf n) := by
  refine wm_of (by decide) (Nat.le_of_ble_eq_true rfl) rfl ?_
  have hmo : mo_T I I := mo_rf
  have h8 := mv_8 hbc.1.1
  refine ra_0 oX5_hiding_0 ?_
  refine rr_gr (v := 48) oX5_hiding_1 (ff_X5_26 rfl) kk_46 (wd_lt W rfl) ⟨by decide, rfl⟩ (wd_r W rfl rfl) ?_
  refine ri_1 oX5_hiding_4 ?_
  refine rr_iv oX5_hiding_5 kk_48 (wd_lt W rfl) rfl (by omega) (by decide) ((mv_k hbc.1.1 (by omega)).trans hk) ?_
  refine si_3 oX5_hiding_6 rfl rfl ?_
  refine ri_3 oX5_hiding_7 ?_
  refine rk_4 oX5_hiding_8 ?_
  refine rr_icmp_ne (tgt := 18) oX5_hiding_9 (by decide) (fun _ => ?_) (fun q => absurd q (by decide))
  refine ri_3 oX5_hiding_18 ?_
  refine rk_5 oX5_hiding_19 ?_
  refine rr_icmp_ne (tgt := 29) oX5_hiding_20 (by decide) (fun q => absurd q (by decide)) (fun _ => ?_)
  refine ra_0 oX5_hiding_23 ?_
  refine rr_bipush (v := 60) oX5_hiding_24 (by decide) ?_
  refine rr_cVm (c_X5_body l W hbc (by first | omega | (simp only [bd_2]; omega))) oX5_hiding_26 (cv_X5_273 rfl) (by decide) kk_46 (by decide) hcn_5 (wd_lt W rfl) rfl rfl (Nat.le_of_ble_eq_true rfl) (fun J hJ => ?_)
  obtain ⟨hbc, hmo2⟩ := hJ
  replace hmo := mo_tr hmo hmo2
  refine ra_0 oX5_hiding_29 ?_
  refine rr_bipush (v := 12) oX5_hiding_30 (by decide) ?_
  refine rr_cVm (c_X5_body l W hbc (by first | omega | (simp only [bd_2]; omega))) oX5_hiding_32 (cv_X5_273 rfl) (by decide) kk_46 (by decide) hcn_5 (wd_lt W rfl) rfl rfl (Nat.le_of_ble_eq_true rfl) (fun J hJ => ?_)
  obtain ⟨hbc, hmo2⟩ := hJ
  replace hmo := mo_tr hmo hmo2
  refine ra_0 oX5_hiding_35 ?_
  refine ri_1 oX5_hiding_36 ?_
  refine ri_2 oX5_hiding_37 ?_
  refine rr_cVn (c_X5_looking l W hbc ht (by first | omega | (simp only [bd_2]; omega))) oX5_hiding_38 (cv_X5_279 rfl) (by decide) kk_46 (by decide) hcn_5 (wd_lt W rfl) rfl rfl (Nat.le_of_ble_eq_true rfl) (fun v1 J hJ => ?_)
  obtain ⟨hv1, hbc, hmo2⟩ := hJ
  replace hmo := mo_tr hmo hmo2
  refine si_4 oX5_hiding_41 rfl rfl ?_
  refine ri_4 oX5_hiding_43 ?_
  refine ra_0 oX5_hiding_45 ?_
  refine ri_1 oX5_hiding_46 ?_
  refine ri_2 oX5_hiding_47 ?_
  refine ra_0 oX5_hiding_48 ?_
  refine rr_gr (v := 52) oX5_hiding_49 (ff_X5_38 rfl) kk_46 (wd_lt W rfl) ⟨by decide, rfl⟩ (wd_r W rfl rfl) ?_
  refine ri_1 oX5_hiding_52 ?_
  refine rr_iv oX5_hiding_53 kk_52 (wd_lt W rfl) rfl (by omega) (by decide) (mv_a hbc.1.1 (by omega)) ?_
  refine rr_isub oX5_hiding_54 ?_
  rw [hk] at hbc
  have hle := st_le 5 (s_loA 5 (s_hiA 5 A))
  have hle2 := lo_le 5 (s_hiA 5 A)
  have hle3 := hi_le 5 A
  refine rr_cVn (c_X5_standing l W hbc ht (show (s_stA 5 (s_loA 5 (s_hiA 5 A))).2 < 890 by omega)) oX5_hiding_55 (cv_X5_276 rfl) (by decide) kk_46 (by decide) hcn_5 (wd_lt W rfl) rfl rfl (Nat.le_of_ble_eq_true rfl) (fun v J hJ => ?_)
  obtain ⟨hv, hbc, hmo2⟩ := hJ
  replace hmo := mo_tr hmo hmo2
  refine rr_ixor oX5_hiding_58 ?_
  refine si_4 oX5_hiding_59 rfl rfl ?_
  refine ri_3 oX5_hiding_61 ?_
  refine rk_4 oX5_hiding_62 ?_
  refine rr_icmp_ne (tgt := 72) oX5_hiding_63 (by decide) (fun _ => ?_) (fun q => absurd q (by decide))
  refine ri_3 oX5_hiding_72 ?_
  refine rk_5 oX5_hiding_73 ?_
  refine rr_icmp_ne (tgt := 84) oX5_hiding_74 (by decide) (fun q => absurd q (by decide)) (fun _ => ?_)
  refine ri_4 oX5_hiding_77 ?_
  refine rk_5 oX5_hiding_79 ?_
  refine rr_ixor oX5_hiding_80 ?_
  refine rr_goto (tgt := 86) oX5_hiding_81 (by decide) ?_
  exact rr_ireturn oX5_hiding_86 rfl rfl (q_n_of ⟨by rw [hv, hv1, hk]; rfl, by rw [hk] at hbc; exact hbc, hmo⟩)
theorem c6_X5_hiding (l : Launch) {I : Nat → Nat → Int32} {L : Nat → Nat → Int64} {Rf : Nat → Nat → Option Nat} {n : Nat} {G : gr_T} {dr : Nat → Bool} {sh : Nat → Nat → Bool} {A : (Nat → Int32) × Nat} (W : wd_T Rf n) (hbc : bc_T I G dr sh A)  {t : Nat} (ht : t < g_n G) {x : Int32} (hk : g_k G t = 6) (hA : A.2 < 800) : wm_C l mX5_hiding 5 0 0 [vv_A (some 46), vv_I (nI t), vv_I x] (I, L, Rf, n) (q_n (fun v J => v = s_hiv 6 (nI t) (g_a G t) x ∧ bc_T J G dr sh (s_stA 6 (s_stA 6 (s_loA 6 (s_hiA 6 A)))) ∧ mo_T I J) L Rf n) := by
  refine wm_of (by decide) (Nat.le_of_ble_eq_true rfl) rfl ?_
  have hmo : mo_T I I := mo_rf
  have h8 := mv_8 hbc.1.1
  refine ra_0 oX5_hiding_0 ?_
  refine rr_gr (v := 48) oX5_hiding_1 (ff_X5_26 rfl) kk_46 (wd_lt W rfl) ⟨by decide, rfl⟩ (wd_r W rfl rfl) ?_
  refine ri_1 oX5_hiding_4 ?_
  refine rr_iv oX5_hiding_5 kk_48 (wd_lt W rfl) rfl (by omega) (by decide) ((mv_k hbc.1.1 (by omega)).trans hk) ?_
  refine si_3 oX5_hiding_6 rfl rfl ?_
  refine ri_3 oX5_hiding_7 ?_
  refine rk_4 oX5_hiding_8 ?_
  refine rr_icmp_ne (tgt := 18) oX5_hiding_9 (by decide) (fun _ => ?_) (fun q => absurd q (by decide))
  refine ri_3 oX5_hiding_18 ?_
  refine rk_5 oX5_hiding_19 ?_
  refine rr_icmp_ne (tgt := 29) oX5_hiding_20 (by decide) (fun _ => ?_) (fun q => absurd q (by decide))
  refine ra_0 oX5_hiding_29 ?_
  refine rr_bipush (v := 12) oX5_hiding_30 (by decide) ?_
  refine rr_cVm (c_X5_body l W hbc (by first | omega | (simp only [bd_2]; omega))) oX5_hiding_32 (cv_X5_273 rfl) (by decide) kk_46 (by decide) hcn_5 (wd_lt W rfl) rfl rfl (Nat.le_of_ble_eq_true rfl) (fun J hJ => ?_)
  obtain ⟨hbc, hmo2⟩ := hJ
  replace hmo := mo_tr hmo hmo2
  refine ra_0 oX5_hiding_35 ?_
  refine ri_1 oX5_hiding_36 ?_
  refine ri_2 oX5_hiding_37 ?_
  refine rr_cVn (c_X5_looking l W hbc ht (by first | omega | (simp only [bd_2]; omega))) oX5_hiding_38 (cv_X5_279 rfl) (by decide) kk_46 (by decide) hcn_5 (wd_lt W rfl) rfl rfl (Nat.le_of_ble_eq_true rfl) (fun v1 J hJ => ?_)
  obtain ⟨hv1, hbc, hmo2⟩ := hJ
  replace hmo := mo_tr hmo hmo2
  refine si_4 oX5_hiding_41 rfl rfl ?_
  refine ri_4 oX5_hiding_43 ?_
  refine ra_0 oX5_hiding_45 ?_
  refine ri_1 oX5_hiding_46 ?_
  refine ri_2 oX5_hiding_47 ?_
  refine ra_0 oX5_hiding_48 ?_
  refine rr_gr (v := 52) oX5_hiding_49 (ff_X5_38 rfl) kk_46 (wd_lt W rfl) ⟨by decide, rfl⟩ (wd_r W rfl rfl) ?_
  refine ri_1 oX5_hiding_52 ?_
  refine rr_iv oX5_hiding_53 kk_52 (wd_lt W rfl) rfl (by omega) (by decide) (mv_a hbc.1.1 (by omega)) ?_
  refine rr_isub oX5_hiding_54 ?_
  rw [hk] at hbc
  have hle := st_le 6 (s_loA 6 (s_hiA 6 A))
  have hle2 := lo_le 6 (s_hiA 6 A)
  have hle3 := hi_le 6 A
  refine rr_cVn (c_X5_standing l W hbc ht (show (s_stA 6 (s_loA 6 (s_hiA 6 A))).2 < 890 by omega)) oX5_hiding_55 (cv_X5_276 rfl) (by decide) kk_46 (by decide) hcn_5 (wd_lt W rfl) rfl rfl (Nat.le_of_ble_eq_true rfl) (fun v J hJ => ?_)
  obtain ⟨hv, hbc, hmo2⟩ := hJ
  replace hmo := mo_tr hmo hmo2
  refine rr_ixor oX5_hiding_58 ?_
  refine si_4 oX5_hiding_59 rfl rfl ?_
  refine ri_3 oX5_hiding_61 ?_
  refine rk_4 oX5_hiding_62 ?_
  refine rr_icmp_ne (tgt := 72) oX5_hiding_63 (by decide) (fun _ => ?_) (fun q => absurd q (by decide))
  refine ri_3 oX5_hiding_72 ?_
  refine rk_5 oX5_hiding_73 ?_
  refine rr_icmp_ne (tgt := 84) oX5_hiding_74 (by decide) (fun _ => ?_) (fun q => absurd q (by decide))
  refine ri_4 oX5_hiding_84 ?_
  exact rr_ireturn oX5_hiding_86 rfl rfl (q_n_of ⟨by rw [hv, hv1, hk]; rfl, by rw [hk] at hbc; exact hbc, hmo⟩)
theorem c_X5_hiding (l : Launch) {I : Nat → Nat → Int32} {L : Nat → Nat → Int64} {Rf : Nat → Nat → Option Nat} {n : Nat} {G : gr_T} {dr : Nat → Bool} {sh : Nat → Nat → Bool} {A : (Nat → Int32) × Nat} (W : wd_T Rf n) (hbc : bc_T I G dr sh A)  {t : Nat} (ht : t < g_n G) {x : Int32} (hA : A.2 < 800) : wm_C l mX5_hiding 5 0 0 [vv_A (some 46), vv_I (nI t), vv_I x] (I, L, Rf, n) (q_n (fun v J => v = s_hiv (g_k G t) (nI t) (g_a G t) x ∧ bc_T J G dr sh (s_stA (g_k G t) (s_stA (g_k G t) (s_loA (g_k G t) (s_hiA (g_k G t) A)))) ∧ mo_T I J) L Rf n) := by
  have hk := hbc.1.2.2.2.1 t ht
  have e : ∀ v : Int32, g_k G t = v → g_k G t = v := fun _ h => h
  rcases kd_7 hk with q | q | q | q | q | q | q
  · have r := c0_X5_hiding (L := L) l W hbc ht (x := x) q hA; rw [q]; exact r
  · have r := c1_X5_hiding (L := L) l W hbc ht (x := x) q hA; rw [q]; exact r
  · have r := c2_X5_hiding (L := L) l W hbc ht (x := x) q hA; rw [q]; exact r
  · have r := c3_X5_hiding (L := L) l W hbc ht (x := x) q hA; rw [q]; exact r
  · have r := c4_X5_hiding (L := L) l W hbc ht (x := x) q hA; rw [q]; exact r
  · have r := c5_X5_hiding (L := L) l W hbc ht (x := x) q hA; rw [q]; exact r
  · have r := c6_X5_hiding (L := L) l W hbc ht (x := x) q hA; rw [q]; exact r
theorem MR_tr {I J : Nat → Nat → Int32} {L : Nat → Nat → Int64} {S : sg_T} (h : MR_T I L S) (ho : mo_T I J) {f : Nat → Int32} {r : Int32} (hf : ∀ k, k < 20 → J 66 k = f k) (hr : J 46 36 = r) : MR_T J L (w_tr S f r) := by
  obtain ⟨h1, h2, h3, h4, h5, h6, h7, h8, h9⟩ := h
  refine ⟨mg_ce h1 (fun f q => ho.1 f (by omega)) (fun a q1 q2 => ho.2 a (by omega) (by omega)), by rw [ho.1 37 (by omega)]; exact h2, fun q => ?_, fun k hk => by rw [ho.2 47 (by omega) (by omega)]; exact h4 k hk, by rw [ho.1 5 (by omega)]; exact h5, fun s hs => ?_, hf, hr, fun k hk => by rw [ho.2 61 (by omega) (by omega)]; exact h9 k hk⟩
  · have := h3 q
    unfold ka_T
    rw [ho.2 64 (by omega) (by omega)]
    exact this
  · have := h6 s hs
    unfold mh_T
    rw [ho.2 55 (by omega) (by omega), ho.2 56 (by omega) (by omega), ho.2 57 (by omega) (by omega), ho.2 58 (by omega) (by omega)]
    exact this
theorem q_M_tr {S : sg_T} {I J : Nat → Nat → Int32} {L : Nat → Nat → Int64} {Rf : Nat → Nat → Option Nat} {n : Nat} {v w : Int32} {a : an_T} {A : (Nat → Int32) × Nat} {G : gr_T} {dr : Nat → Bool} {sh : Nat → Nat → Bool} (hM : MR_T I L S) (hbc : bc_T J G dr sh A) (ho : mo_T I J) (ha : a = (v, w_tr S A.1 (nI A.2))) (hv : w = v) : q_M a.1 a.2 I L Rf n (some (vv_I w)) (J, L, Rf, n) := by
  rw [ha]
  exact q_M_of hv (MR_tr hM ho hbc.2.2.2 hbc.2.1) (fun b hb => ⟨ho.2 b (by omega) (by omega), rfl⟩)
theorem act_0 {S : sg_T} {t a x : Int32} (h : ¬ (rn_T S t ∧ 0 ≤ a ∧ a ≤ 2)) : f_act S t a x = (0, w_tr S (z_tr S) (nI 0)) := by
  by_cases q : rn_T S t
  · have e : ∀ v : Int32, 0 ≤ v ∧ v ≤ 2 → ¬ a = v := fun v hv z => h ⟨q, by rw [z]; exact hv⟩
    rw [f_act, if_neg (fun z => z q)]
    simp only []
    rw [if_neg (e 0 (by decide)), if_neg (e 1 (by decide)), if_neg (e 2 (by decide))]
    rfl
  · rw [f_act, if_pos q]; rfl
theorem k_2 {k : Int32} (h : 0 ≤ k) (h2 : k ≤ 2) (h0 : ¬ k = 0) (h1 : ¬ k = 1) : k = 2 := by
  have g1 := Int32.le_iff_toInt_le.mp h
  have g2 := Int32.le_iff_toInt_le.mp h2
  rw [show (0 : Int32).toInt = 0 by decide] at g1
  rw [show (2 : Int32).toInt = 2 by decide] at g2
  rcases (show k.toInt = 0 ∨ k.toInt = 1 ∨ k.toInt = 2 by omega) with q | q | q
  · exact absurd (Int32.toInt_inj.mp (q.trans (by decide))) h0
  · exact absurd (Int32.toInt_inj.mp (q.trans (by decide))) h1
  · exact Int32.toInt_inj.mp (q.trans (by decide))
theorem c_X5_act (l : Launch) {I : Nat → Nat → Int32} {L : Nat → Nat → Int64} {Rf : Nat → Nat → Option Nat} {n : Nat} {S : sg_T} (W : wd_T Rf n) (hM : MR_T I L S) (hI : IV_T S) {t a x : Int32} : wm_C l mX5_act 6 0 0 [vv_A (some 46), vv_I t, vv_I a, vv_I x] (I, L, Rf, n) (q_M (f_act S t a x).1 (f_act S t a x).2 I L Rf n) := by
  refine wm_of (by decide) (Nat.le_of_ble_eq_true rfl) rfl ?_
  have hQ : mq_T I (z_G S) (b_dr (z_B S)) (b_sh (z_B S)) := mg_mq hM.1 hI.1
  have hG := hQ.1
  have h8 : g_n (z_G S) ≤ 8 := hI.1.1
  have hr : hr_T (z_G S) := hI.1.2.1
  refine ra_0 oX5_act_0 ?_
  refine rk_0 oX5_act_1 ?_
  refine rr_pi oX5_act_2 (ff_X5_270 rfl) kk_46 (wd_lt W rfl) ⟨by decide, rfl, by decide⟩ pf_5_36 ⟨rfl, rfl⟩ ?_
  have hmo : mo_T I (up_I I 46 36 0) := ⟨fun f hf => up_I_at_ne hf, fun q q1 _ => up_I_ne q1⟩
  have hbc : bc_T (up_I I 46 36 0) (z_G S) (b_dr (z_B S)) (b_sh (z_B S)) (z_tr S, 0) := ⟨mq_ce hQ (fun f hf => hmo.1 f (by omega)) (fun q q1 q2 => hmo.2 q (by omega) (by omega)), up_I_at, by show (0 : Nat) < 1000; omega, fun i hi => by rw [up_I_ne (by omega)]; exact hM.2.2.2.2.2.2.1 i hi⟩
  refine ra_0 oX5_act_5 ?_
  refine ri_1 oX5_act_6 ?_
  refine rr_cVi (c_X5_isThing l W hbc.1) oX5_act_7 (cv_X5_87 rfl) (by decide) kk_46 (by decide) hcn_5 (wd_lt W rfl) rfl rfl (Nat.le_of_ble_eq_true rfl) ?_
  refine rr_ifb_eq (tgt := 22) oX5_act_10 (by decide) (fun c => ?_) (fun c => ?_)
  · refine rk_0 oX5_act_22 ?_
    exact rr_ireturn oX5_act_23 rfl rfl (q_M_tr (A := (z_tr S, 0)) hM hbc hmo (act_0 (fun q => c q.1)) rfl)
  · obtain ⟨b, hb, rfl⟩ := ix_of c.1 c.2 (by omega)
    have exb : ix_N (nI b) = b := nI_clamp (by omega)
    refine ri_2 oX5_act_13 ?_
    refine rr_if_lt (tgt := 22) oX5_act_14 (by decide) (fun c1 => ?_) (fun c1 => ?_)
    · refine rk_0 oX5_act_22 ?_
      exact rr_ireturn oX5_act_23 rfl rfl (q_M_tr (A := (z_tr S, 0)) hM hbc hmo (act_0 (fun q => Int32.not_le.mpr c1 q.2.1)) rfl)
    · refine ri_2 oX5_act_17 ?_
      refine rk_2 oX5_act_18 ?_
      refine rr_icmp_le (tgt := 24) oX5_act_19 (by decide) (fun c2 => ?_) (fun c2 => ?_)
      · refine ri_2 oX5_act_24 ?_
        refine rr_if_ne (tgt := 37) oX5_act_25 (by decide) (fun c3 => ?_) (fun c3 => ?_)
        · refine ri_2 oX5_act_37 ?_
          refine rk_1 oX5_act_38 ?_
          refine rr_icmp_ne (tgt := 51) oX5_act_39 (by decide) (fun c4 => ?_) (fun c4 => ?_)
          · refine ra_0 oX5_act_51 ?_
            refine ri_1 oX5_act_52 ?_
            refine ri_3 oX5_act_53 ?_
            refine rr_cVn (c_X5_hiding l W hbc hb (by show (0 : Nat) < 800; omega)) oX5_act_54 (cv_X5_282 rfl) (by decide) kk_46 (by decide) hcn_5 (wd_lt W rfl) rfl rfl (Nat.le_of_ble_eq_true rfl) (fun v J hJ => ?_)
            obtain ⟨hv, hbc, hmo2⟩ := hJ
            replace hmo := mo_tr hmo hmo2
            exact rr_ireturn oX5_act_57 rfl rfl (q_M_tr hM hbc hmo (by rw [f_act, if_neg (fun q => q c)]; simp only [exb]; rw [if_neg c3, if_neg c4, if_pos (k_2 (Int32.not_lt.mp c1) c2 c3 c4)]) hv)
          · refine ra_0 oX5_act_42 ?_
            refine ri_1 oX5_act_43 ?_
            refine ri_3 oX5_act_44 ?_
            refine rr_cVn (c_X5_looking l W hbc hb (by show (0 : Nat) < 880; omega)) oX5_act_45 (cv_X5_279 rfl) (by decide) kk_46 (by decide) hcn_5 (wd_lt W rfl) rfl rfl (Nat.le_of_ble_eq_true rfl) (fun v J hJ => ?_)
            obtain ⟨hv, hbc, hmo2⟩ := hJ
            replace hmo := mo_tr hmo hmo2
            refine rr_goto (tgt := 57) oX5_act_48 (by decide) ?_
            exact rr_ireturn oX5_act_57 rfl rfl (q_M_tr hM hbc hmo (by rw [f_act, if_neg (fun q => q c)]; simp only [exb]; rw [if_neg c3, if_pos c4]) hv)
        · refine ra_0 oX5_act_28 ?_
          refine ri_1 oX5_act_29 ?_
          refine ri_3 oX5_act_30 ?_
          refine rr_cVn (c_X5_standing l W hbc hb (by show (0 : Nat) < 890; omega)) oX5_act_31 (cv_X5_276 rfl) (by decide) kk_46 (by decide) hcn_5 (wd_lt W rfl) rfl rfl (Nat.le_of_ble_eq_true rfl) (fun v J hJ => ?_)
          obtain ⟨hv, hbc, hmo2⟩ := hJ
          replace hmo := mo_tr hmo hmo2
          refine rr_goto (tgt := 57) oX5_act_34 (by decide) ?_
          exact rr_ireturn oX5_act_57 rfl rfl (q_M_tr hM hbc hmo (by rw [f_act, if_neg (fun q => q c)]; simp only [exb]; rw [if_pos c3]) hv)
      · refine rk_0 oX5_act_22 ?_
        exact rr_ireturn oX5_act_23 rfl rfl (q_M_tr (A := (z_tr S, 0)) hM hbc hmo (act_0 (fun q => c2 q.2.2)) rfl)
