/-! the model: list (by program: wip/whole/c53.py) -/
theorem fit_0 {S : sg_T} {e : Nat → Int64} {su : Int32} (h8 : g_n (z_G S) ≤ 8) (d : ¬ sm_N (fun j => bc_I (s_unl (g_ws (z_G S) su) (b_dr (z_B S)) (b_sh (z_B S)) e j)) (g_n (g_ws (z_G S) su)) 0 0 = 0) : s_fit S e su = 0 := by
  rw [s_fit]
  exact if_neg (fun q => d ((off_0 (G := g_ws (z_G S) su) (dr := b_dr (z_B S)) (sh := b_sh (z_B S)) (e := e) h8).mpr q))
theorem fit_1 {S : sg_T} {e : Nat → Int64} {su : Int32} (h8 : g_n (z_G S) ≤ 8) (d : sm_N (fun j => bc_I (s_unl (g_ws (z_G S) su) (b_dr (z_B S)) (b_sh (z_B S)) e j)) (g_n (g_ws (z_G S) su)) 0 0 = 0) : s_fit S e su = 1 := by
  rw [s_fit]
  exact if_pos ((off_0 (G := g_ws (z_G S) su) (dr := b_dr (z_B S)) (sh := b_sh (z_B S)) (e := e) h8).mp d)
theorem list_end {I J0 J1 : Nat → Nat → Int32} {L : Nat → Nat → Int64} {Rf : Nat → Nat → Option Nat} {n : Nat} {S : sg_T} {x0 x1 x2 v w : Int32} {a : an_T} (hM : MR_T I L S) (hI : IV_T S) (f0 : ∀ f, f ≠ 33 → f ≠ 34 → J0 46 f = up_I I 46 1 x0 46 f) (g0 : ∀ a, a ≠ 46 → J0 a = up_I I 46 1 x0 a) (f1 : ∀ f, f ≠ 33 → f ≠ 34 → J1 46 f = up_I J0 46 1 x1 46 f) (g1 : ∀ a, a ≠ 46 → J1 a = up_I J0 46 1 x1 a) (ha : a = (v, w_B S (z_B S))) (hv : w = v) : q_M a.1 a.2 I L Rf n (some (vv_I w)) (up_I (up_I J1 46 1 x2) 46 1 (g_s (z_G S)), L, Rf, n) := by
  have hQ : mq_T I (z_G S) (b_dr (z_B S)) (b_sh (z_B S)) := mg_mq hM.1 hI.1
  refine q_M_gr hM (B := z_B S) ?_ (fun f q => ?_) (fun a q0 q1 q2 q3 q4 => ?_) ha hv
  · have hQ2 : mq_T (up_I (up_I J1 46 1 x2) 46 1 (g_s (z_G S))) (z_G S) (b_dr (z_B S)) (b_sh (z_B S)) := mq_ws (s := g_s (z_G S)) hQ up_I_at (fun f q1 q2 => by rw [up_I_at_ne q2, up_I_at_ne q2, f1 f (by omega) (by omega), up_I_at_ne q2, f0 f (by omega) (by omega), up_I_at_ne q2]) (fun a q1 q2 => by rw [up_I_ne (by omega), up_I_ne (by omega), g1 a (by omega), up_I_ne (by omega), g0 a (by omega), up_I_ne (by omega)])
    exact mg_mq2 (B := z_B S) hQ2 (by rw [up_I_at_ne (by omega), up_I_at_ne (by omega), f1 3 (by omega) (by omega), up_I_at_ne (by omega), f0 3 (by omega) (by omega), up_I_at_ne (by omega)]; exact hM.1.2.2.2.1) (by rw [up_I_at_ne (by omega), up_I_at_ne (by omega), f1 4 (by omega) (by omega), up_I_at_ne (by omega), f0 4 (by omega) (by omega), up_I_at_ne (by omega)]; exact hM.1.2.2.2.2)
  · rw [up_I_at_ne (by omega), up_I_at_ne (by omega), f1 f (by omega) (by omega), up_I_at_ne (by omega), f0 f (by omega) (by omega), up_I_at_ne (by omega)]
  · rw [up_I_ne q0, up_I_ne q0, g1 a q0, up_I_ne q0, g0 a q0, up_I_ne q0]
theorem w_1 {k : Int32} (h : 0 ≤ k) (h2 : k ≤ 2) (h0 : ¬ k = 0) (h1 : ¬ k = 2) : k = 1 := by
  have g1 := Int32.le_iff_toInt_le.mp h
  have g2 := Int32.le_iff_toInt_le.mp h2
  rw [show (0 : Int32).toInt = 0 by decide] at g1
  rw [show (2 : Int32).toInt = 2 by decide] at g2
  rcases (show k.toInt = 0 ∨ k.toInt = 1 ∨ k.toInt = 2 by omega) with q | q | q
  · exact absurd (Int32.toInt_inj.mp (q.trans (by decide))) h0
  · exact Int32.toInt_inj.mp (q.trans (by decide))
  · exact absurd (Int32.toInt_inj.mp (q.trans (by decide))) h1
theorem c_X5_list (l : Launch) {I : Nat → Nat → Int32} {L : Nat → Nat → Int64} {Rf : Nat → Nat → Option Nat} {n : Nat} {S : sg_T} (W : wd_T Rf n) (hM : MR_T I L S) (hI : IV_T S) {s w : Int32} : wm_C l mX5_list 17 0 0 [vv_A (some 46), vv_I s, vv_I w] (I, L, Rf, n) (q_M (f_list S s w).1 (f_list S s w).2 I L Rf n) := by
  refine wm_of (by decide) (Nat.le_of_ble_eq_true rfl) rfl ?_
  have hQ : mq_T I (z_G S) (b_dr (z_B S)) (b_sh (z_B S)) := mg_mq hM.1 hI.1
  have hG := hQ.1
  have h8 : g_n (z_G S) ≤ 8 := hI.1.1
  have hr : hr_T (z_G S) := hI.1.2.1
  refine ra_0 oX5_list_0 ?_
  refine ri_1 oX5_list_1 ?_
  refine rr_cVi (c_X5_wants l W hM hI) oX5_list_2 (cv_X5_176 rfl) (by decide) kk_46 (by decide) hcn_5 (wd_lt W rfl) rfl rfl (Nat.le_of_ble_eq_true rfl) ?_
  refine si_3 oX5_list_5 rfl rfl ?_
  refine ri_3 oX5_list_6 ?_
  refine rr_if_ne (tgt := 35) oX5_list_7 (by decide) (fun c => ?_) (fun c => ?_)
  · have hli : s_li S s w = s_lr S s := by rw [s_li, if_pos c]
    have hno := no_lr s_lr_n c
    refine ri_3 oX5_list_35 ?_
    refine rr_if_eq (tgt := 45) oX5_list_36 (by decide) (fun c9 => ?_) (fun c9 => ?_)
    · exact absurd c9 c
    refine ra_0 oX5_list_39 ?_
    refine ri_3 oX5_list_40 ?_
    refine rr_cVi (c_X5_noTen l W hno.1 hno.2) oX5_list_41 (cv_X5_207 rfl) (by decide) kk_46 (by decide) hcn_5 (wd_lt W rfl) rfl rfl (Nat.le_of_ble_eq_true rfl) ?_
    exact rr_ireturn oX5_list_44 rfl rfl (q_M_nod hM me_rf (by rw [f_list, if_pos (by rw [hli]; exact c), hli]) hno.1)
  · obtain ⟨t, ht, rfl, c3, c4⟩ := s_lr_0 c
    obtain ⟨o, ho, ho2, k, hk, hk2⟩ := IV_row hI ht c3
    have ex : ix_N (nI t) = t := nI_clamp (by omega)
    obtain ⟨esz, hel⟩ := mh_row (hM.2.2.2.2.2.1 t ht) c3
    refine ra_0 oX5_list_10 ?_
    refine rr_gr (v := 57) oX5_list_11 (ff_X5_53 rfl) kk_46 (wd_lt W rfl) ⟨by decide, rfl⟩ (wd_r W rfl rfl) ?_
    refine ri_1 oX5_list_14 ?_
    refine rr_iv oX5_list_15 kk_57 (wd_lt W rfl) rfl (by omega) (by decide) esz ?_
    refine ra_0 oX5_list_16 ?_
    refine rr_giv oX5_list_17 (ff_X5_84 rfl) kk_46 (wd_lt W rfl) ⟨by decide, rfl⟩ (mv_c hG) ?_
    refine rr_icmp_lt (tgt := 32) oX5_list_20 (by decide) (fun b1 => ?_) (fun b1 => ?_)
    · have els : s_li S (nI t) w = -5 := by rw [s_li, if_neg (fun q => q c), ex, if_pos (Or.inl b1)]
      refine rr_bipush (v := (-5)) oX5_list_32 (by decide) ?_
      refine si_3 oX5_list_34 rfl rfl ?_
      refine ri_3 oX5_list_35 ?_
      refine rr_if_eq (tgt := 45) oX5_list_36 (by decide) (fun q => absurd q (by decide)) (fun _ => ?_)
      refine ra_0 oX5_list_39 ?_
      refine ri_3 oX5_list_40 ?_
      refine rr_cVi (c_X5_noTen l W (c := 5) (by decide) (by decide)) oX5_list_41 (cv_X5_207 rfl) (by decide) kk_46 (by decide) hcn_5 (wd_lt W rfl) rfl rfl (Nat.le_of_ble_eq_true rfl) ?_
      exact rr_ireturn oX5_list_44 rfl rfl (q_M_nod (r := -5) hM me_rf (by rw [f_list, els, if_pos (by decide)]) (by decide))
    · refine ri_2 oX5_list_23 ?_
      refine rr_if_lt (tgt := 32) oX5_list_24 (by decide) (fun b2 => ?_) (fun b2 => ?_)
      · have els : s_li S (nI t) w = -5 := by rw [s_li, if_neg (fun q => q c), if_pos (Or.inr (Or.inl b2))]
        refine rr_bipush (v := (-5)) oX5_list_32 (by decide) ?_
        refine si_3 oX5_list_34 rfl rfl ?_
        refine ri_3 oX5_list_35 ?_
        refine rr_if_eq (tgt := 45) oX5_list_36 (by decide) (fun q => absurd q (by decide)) (fun _ => ?_)
        refine ra_0 oX5_list_39 ?_
        refine ri_3 oX5_list_40 ?_
        refine rr_cVi (c_X5_noTen l W (c := 5) (by decide) (by decide)) oX5_list_41 (cv_X5_207 rfl) (by decide) kk_46 (by decide) hcn_5 (wd_lt W rfl) rfl rfl (Nat.le_of_ble_eq_true rfl) ?_
        exact rr_ireturn oX5_list_44 rfl rfl (q_M_nod (r := -5) hM me_rf (by rw [f_list, els, if_pos (by decide)]) (by decide))
      · refine ri_2 oX5_list_27 ?_
        refine rk_2 oX5_list_28 ?_
        refine rr_icmp_le (tgt := 35) oX5_list_29 (by decide) (fun b3 => ?_) (fun b3 => ?_)
        · have els : s_li S (nI t) w = 0 := by rw [s_li, if_neg (fun q => q c), ex, if_neg (by rintro (q | q | q); exact b1 q; exact b2 q; exact Int32.not_lt.mpr b3 q)]
          refine ri_3 oX5_list_35 ?_
          refine rr_if_eq (tgt := 45) oX5_list_36 (by decide) (fun c9 => ?_) (fun c9 => ?_)
          rotate_left
          · exact absurd c c9
          refine ri_2 oX5_list_45 ?_
          refine rk_2 oX5_list_46 ?_
          refine rr_icmp_ne (tgt := 124) oX5_list_47 (by decide) (fun c46 => ?_) (fun c46 => ?_)
          · refine ra_0 oX5_list_124 ?_
            refine ri_1 oX5_list_125 ?_
            refine rr_cVm (c_X5_lists l W ht hel hQ) oX5_list_126 (cv_X5_260 rfl) (by decide) kk_46 (by decide) hcn_5 (wd_lt W rfl) rfl rfl (Nat.le_of_ble_eq_true rfl) (fun J9 hJ9 => ?_)
            obtain ⟨a9, o9, f9, g9⟩ := hJ9
            refine ri_2 oX5_list_129 ?_
            refine rr_if_ne (tgt := 140) oX5_list_130 (by decide) (fun c5 => ?_) (fun c5 => ?_)
            · refine ra_0 oX5_list_140 ?_
              refine rr_giv oX5_list_141 (ff_X5_254 rfl) kk_46 (wd_lt W rfl) ⟨by decide, rfl⟩ o9 ?_
              exact rr_ireturn oX5_list_144 rfl rfl (q_M_an hM (J := J9) ⟨fun f q => f9 f (by omega) (by omega), fun a q1 q2 q3 q4 => g9 a q1⟩ (show f_list S (nI t) w = (_, S) from by rw [f_list, els, if_neg (fun q => q rfl), if_neg c5, if_pos (w_1 (Int32.not_lt.mp b2) b3 c5 c46), ex]) rfl)
            · refine ra_0 oX5_list_133 ?_
              refine rr_giv oX5_list_134 (ff_X5_251 rfl) kk_46 (wd_lt W rfl) ⟨by decide, rfl⟩ a9 ?_
              refine rr_goto (tgt := 144) oX5_list_137 (by decide) ?_
              exact rr_ireturn oX5_list_144 rfl rfl (q_M_an hM (J := J9) ⟨fun f q => f9 f (by omega) (by omega), fun a q1 q2 q3 q4 => g9 a q1⟩ (show f_list S (nI t) w = (_, S) from by rw [f_list, els, if_neg (fun q => q rfl), if_pos c5, ex]) rfl)
          · have c46_0 : ¬ w = 0 := fun q => by rw [q] at c46; exact absurd c46 (by decide)
            have c46_1 : ¬ w = 1 := fun q => by rw [q] at c46; exact absurd c46 (by decide)
            refine ra_0 oX5_list_50 ?_
            refine rr_giv oX5_list_51 (ff_X5_7 rfl) kk_46 (wd_lt W rfl) ⟨by decide, rfl⟩ (mv_s hG) ?_
            refine si_4 oX5_list_54 rfl rfl ?_
            refine rk_0 oX5_list_56 ?_
            refine si_5 oX5_list_57 rfl rfl ?_
            refine ra_0 oX5_list_59 ?_
            refine rk_0 oX5_list_60 ?_
            refine rr_pi oX5_list_61 (ff_X5_7 rfl) kk_46 (wd_lt W rfl) ⟨by decide, rfl, by decide⟩ pf_5_1 ⟨rfl, rfl⟩ ?_
            refine ra_0 oX5_list_64 ?_
            refine rr_giv oX5_list_65 (ff_X5_7 rfl) kk_46 (wd_lt W rfl) ⟨by decide, rfl⟩ (show _ = (0 : Int32) from up_I_at) ?_
            refine rk_2 oX5_list_68 ?_
            refine rr_icmp_ge (tgt := 115) oX5_list_69 (by decide) (fun q => absurd q (by decide)) (fun _ => ?_)
            refine ra_0 oX5_list_72 ?_
            refine ri_1 oX5_list_73 ?_
            refine rr_cVm (c_X5_lists l W ht hel (mq_ws (s := 0) hQ up_I_at (fun f _ q => up_I_at_ne q) (fun a q1 q2 => up_I_ne (by omega)))) oX5_list_74 (cv_X5_260 rfl) (by decide) kk_46 (by decide) hcn_5 (wd_lt W rfl) rfl rfl (Nat.le_of_ble_eq_true rfl) (fun J0 hJ0 => ?_)
            obtain ⟨a0, o0, f0, g0⟩ := hJ0
            have hQ1 : mq_T J0 (g_ws (z_G S) 0) (b_dr (z_B S)) (b_sh (z_B S)) := mq_ws (s := 0) hQ ((f0 1 (by omega) (by omega)).trans up_I_at) (fun f q1 q2 => (f0 f (by omega) (by omega)).trans (up_I_at_ne q2)) (fun a q1 q2 => (g0 a (by omega)).trans (up_I_ne (by omega)))
            refine ra_0 oX5_list_77 ?_
            refine rr_giv oX5_list_78 (ff_X5_254 rfl) kk_46 (wd_lt W rfl) ⟨by decide, rfl⟩ o0 ?_
            refine rr_if_ne (tgt := 102) oX5_list_81 (by decide) (fun d0 => ?_) (fun d0 => ?_)
            · refine ra_0 oX5_list_102 ?_
              refine rr_dup oX5_list_103 rfl ?_
              refine rr_giv oX5_list_104 (ff_X5_7 rfl) kk_46 (wd_lt W rfl) ⟨by decide, rfl⟩ (show _ = (0 : Int32) from (f0 1 (by omega) (by omega)).trans up_I_at) ?_
              refine rk_1 oX5_list_107 ?_
              refine rr_iadd oX5_list_108 ?_
              refine rr_pi oX5_list_109 (ff_X5_7 rfl) kk_46 (wd_lt W rfl) ⟨by decide, rfl, by decide⟩ pf_5_1 ⟨rfl, rfl⟩ ?_
              refine rr_goto (tgt := 64) oX5_list_112 (by decide) ?_
              refine ra_0 oX5_list_64 ?_
              refine rr_giv oX5_list_65 (ff_X5_7 rfl) kk_46 (wd_lt W rfl) ⟨by decide, rfl⟩ (show _ = (1 : Int32) from up_I_at) ?_
              refine rk_2 oX5_list_68 ?_
              refine rr_icmp_ge (tgt := 115) oX5_list_69 (by decide) (fun q => absurd q (by decide)) (fun _ => ?_)
              refine ra_0 oX5_list_72 ?_
              refine ri_1 oX5_list_73 ?_
              refine rr_cVm (c_X5_lists l W ht hel (mq_ws (s := 1) hQ1 up_I_at (fun f _ q => up_I_at_ne q) (fun a q1 q2 => up_I_ne (by omega)))) oX5_list_74 (cv_X5_260 rfl) (by decide) kk_46 (by decide) hcn_5 (wd_lt W rfl) rfl rfl (Nat.le_of_ble_eq_true rfl) (fun J1 hJ1 => ?_)
              obtain ⟨a1, o1, f1, g1⟩ := hJ1
              refine ra_0 oX5_list_77 ?_
              refine rr_giv oX5_list_78 (ff_X5_254 rfl) kk_46 (wd_lt W rfl) ⟨by decide, rfl⟩ o1 ?_
              refine rr_if_ne (tgt := 102) oX5_list_81 (by decide) (fun d1 => ?_) (fun d1 => ?_)
              · refine ra_0 oX5_list_102 ?_
                refine rr_dup oX5_list_103 rfl ?_
                refine rr_giv oX5_list_104 (ff_X5_7 rfl) kk_46 (wd_lt W rfl) ⟨by decide, rfl⟩ (show _ = (1 : Int32) from (f1 1 (by omega) (by omega)).trans up_I_at) ?_
                refine rk_1 oX5_list_107 ?_
                refine rr_iadd oX5_list_108 ?_
                refine rr_pi oX5_list_109 (ff_X5_7 rfl) kk_46 (wd_lt W rfl) ⟨by decide, rfl, by decide⟩ pf_5_1 ⟨rfl, rfl⟩ ?_
                refine rr_goto (tgt := 64) oX5_list_112 (by decide) ?_
                refine ra_0 oX5_list_64 ?_
                refine rr_giv oX5_list_65 (ff_X5_7 rfl) kk_46 (wd_lt W rfl) ⟨by decide, rfl⟩ (show _ = (2 : Int32) from up_I_at) ?_
                refine rk_2 oX5_list_68 ?_
                refine rr_icmp_ge (tgt := 115) oX5_list_69 (by decide) (fun _ => ?_) (fun q => absurd q (by decide))
                refine ra_0 oX5_list_115 ?_
                refine ri_4 oX5_list_116 ?_
                refine rr_pi oX5_list_118 (ff_X5_7 rfl) kk_46 (wd_lt W rfl) ⟨by decide, rfl, by decide⟩ pf_5_1 ⟨rfl, rfl⟩ ?_
                refine ri_5 oX5_list_121 ?_
                exact rr_ireturn oX5_list_123 rfl rfl (list_end hM hI f0 g0 f1 g1 (show f_list S (nI t) w = (_, w_B S (z_B S)) from by rw [f_list, els, if_neg (fun q => q rfl), if_neg c46_0, if_neg c46_1, ex]; rfl) (by rw [fit_0 h8 d0, fit_0 h8 d1]; rfl))
              · refine ri_5 oX5_list_84 ?_
                refine ra_0 oX5_list_86 ?_
                refine rr_giv oX5_list_87 (ff_X5_7 rfl) kk_46 (wd_lt W rfl) ⟨by decide, rfl⟩ (show _ = (1 : Int32) from (f1 1 (by omega) (by omega)).trans up_I_at) ?_
                refine rk_1 oX5_list_90 ?_
                refine rr_icmp_ne (tgt := 98) oX5_list_91 (by decide) (fun q => absurd q (by decide)) (fun _ => ?_)
                refine rk_1 oX5_list_94 ?_
                refine rr_goto (tgt := 99) oX5_list_95 (by decide) ?_
                refine rr_iadd oX5_list_99 ?_
                refine si_5 oX5_list_100 rfl rfl ?_
                refine ra_0 oX5_list_102 ?_
                refine rr_dup oX5_list_103 rfl ?_
                refine rr_giv oX5_list_104 (ff_X5_7 rfl) kk_46 (wd_lt W rfl) ⟨by decide, rfl⟩ (show _ = (1 : Int32) from (f1 1 (by omega) (by omega)).trans up_I_at) ?_
                refine rk_1 oX5_list_107 ?_
                refine rr_iadd oX5_list_108 ?_
                refine rr_pi oX5_list_109 (ff_X5_7 rfl) kk_46 (wd_lt W rfl) ⟨by decide, rfl, by decide⟩ pf_5_1 ⟨rfl, rfl⟩ ?_
                refine rr_goto (tgt := 64) oX5_list_112 (by decide) ?_
                refine ra_0 oX5_list_64 ?_
                refine rr_giv oX5_list_65 (ff_X5_7 rfl) kk_46 (wd_lt W rfl) ⟨by decide, rfl⟩ (show _ = (2 : Int32) from up_I_at) ?_
                refine rk_2 oX5_list_68 ?_
                refine rr_icmp_ge (tgt := 115) oX5_list_69 (by decide) (fun _ => ?_) (fun q => absurd q (by decide))
                refine ra_0 oX5_list_115 ?_
                refine ri_4 oX5_list_116 ?_
                refine rr_pi oX5_list_118 (ff_X5_7 rfl) kk_46 (wd_lt W rfl) ⟨by decide, rfl, by decide⟩ pf_5_1 ⟨rfl, rfl⟩ ?_
                refine ri_5 oX5_list_121 ?_
                exact rr_ireturn oX5_list_123 rfl rfl (list_end hM hI f0 g0 f1 g1 (show f_list S (nI t) w = (_, w_B S (z_B S)) from by rw [f_list, els, if_neg (fun q => q rfl), if_neg c46_0, if_neg c46_1, ex]; rfl) (by rw [fit_0 h8 d0, fit_1 h8 d1]; rfl))
            · refine ri_5 oX5_list_84 ?_
              refine ra_0 oX5_list_86 ?_
              refine rr_giv oX5_list_87 (ff_X5_7 rfl) kk_46 (wd_lt W rfl) ⟨by decide, rfl⟩ (show _ = (0 : Int32) from (f0 1 (by omega) (by omega)).trans up_I_at) ?_
              refine rk_1 oX5_list_90 ?_
              refine rr_icmp_ne (tgt := 98) oX5_list_91 (by decide) (fun _ => ?_) (fun q => absurd q (by decide))
              refine rk_2 oX5_list_98 ?_
              refine rr_iadd oX5_list_99 ?_
              refine si_5 oX5_list_100 rfl rfl ?_
              refine ra_0 oX5_list_102 ?_
              refine rr_dup oX5_list_103 rfl ?_
              refine rr_giv oX5_list_104 (ff_X5_7 rfl) kk_46 (wd_lt W rfl) ⟨by decide, rfl⟩ (show _ = (0 : Int32) from (f0 1 (by omega) (by omega)).trans up_I_at) ?_
              refine rk_1 oX5_list_107 ?_
              refine rr_iadd oX5_list_108 ?_
              refine rr_pi oX5_list_109 (ff_X5_7 rfl) kk_46 (wd_lt W rfl) ⟨by decide, rfl, by decide⟩ pf_5_1 ⟨rfl, rfl⟩ ?_
              refine rr_goto (tgt := 64) oX5_list_112 (by decide) ?_
              refine ra_0 oX5_list_64 ?_
              refine rr_giv oX5_list_65 (ff_X5_7 rfl) kk_46 (wd_lt W rfl) ⟨by decide, rfl⟩ (show _ = (1 : Int32) from up_I_at) ?_
              refine rk_2 oX5_list_68 ?_
              refine rr_icmp_ge (tgt := 115) oX5_list_69 (by decide) (fun q => absurd q (by decide)) (fun _ => ?_)
              refine ra_0 oX5_list_72 ?_
              refine ri_1 oX5_list_73 ?_
              refine rr_cVm (c_X5_lists l W ht hel (mq_ws (s := 1) hQ1 up_I_at (fun f _ q => up_I_at_ne q) (fun a q1 q2 => up_I_ne (by omega)))) oX5_list_74 (cv_X5_260 rfl) (by decide) kk_46 (by decide) hcn_5 (wd_lt W rfl) rfl rfl (Nat.le_of_ble_eq_true rfl) (fun J1 hJ1 => ?_)
              obtain ⟨a1, o1, f1, g1⟩ := hJ1
              refine ra_0 oX5_list_77 ?_
              refine rr_giv oX5_list_78 (ff_X5_254 rfl) kk_46 (wd_lt W rfl) ⟨by decide, rfl⟩ o1 ?_
              refine rr_if_ne (tgt := 102) oX5_list_81 (by decide) (fun d1 => ?_) (fun d1 => ?_)
              · refine ra_0 oX5_list_102 ?_
                refine rr_dup oX5_list_103 rfl ?_
                refine rr_giv oX5_list_104 (ff_X5_7 rfl) kk_46 (wd_lt W rfl) ⟨by decide, rfl⟩ (show _ = (1 : Int32) from (f1 1 (by omega) (by omega)).trans up_I_at) ?_
                refine rk_1 oX5_list_107 ?_
                refine rr_iadd oX5_list_108 ?_
                refine rr_pi oX5_list_109 (ff_X5_7 rfl) kk_46 (wd_lt W rfl) ⟨by decide, rfl, by decide⟩ pf_5_1 ⟨rfl, rfl⟩ ?_
                refine rr_goto (tgt := 64) oX5_list_112 (by decide) ?_
                refine ra_0 oX5_list_64 ?_
                refine rr_giv oX5_list_65 (ff_X5_7 rfl) kk_46 (wd_lt W rfl) ⟨by decide, rfl⟩ (show _ = (2 : Int32) from up_I_at) ?_
                refine rk_2 oX5_list_68 ?_
                refine rr_icmp_ge (tgt := 115) oX5_list_69 (by decide) (fun _ => ?_) (fun q => absurd q (by decide))
                refine ra_0 oX5_list_115 ?_
                refine ri_4 oX5_list_116 ?_
                refine rr_pi oX5_list_118 (ff_X5_7 rfl) kk_46 (wd_lt W rfl) ⟨by decide, rfl, by decide⟩ pf_5_1 ⟨rfl, rfl⟩ ?_
                refine ri_5 oX5_list_121 ?_
                exact rr_ireturn oX5_list_123 rfl rfl (list_end hM hI f0 g0 f1 g1 (show f_list S (nI t) w = (_, w_B S (z_B S)) from by rw [f_list, els, if_neg (fun q => q rfl), if_neg c46_0, if_neg c46_1, ex]; rfl) (by rw [fit_1 h8 d0, fit_0 h8 d1]; rfl))
              · refine ri_5 oX5_list_84 ?_
                refine ra_0 oX5_list_86 ?_
                refine rr_giv oX5_list_87 (ff_X5_7 rfl) kk_46 (wd_lt W rfl) ⟨by decide, rfl⟩ (show _ = (1 : Int32) from (f1 1 (by omega) (by omega)).trans up_I_at) ?_
                refine rk_1 oX5_list_90 ?_
                refine rr_icmp_ne (tgt := 98) oX5_list_91 (by decide) (fun q => absurd q (by decide)) (fun _ => ?_)
                refine rk_1 oX5_list_94 ?_
                refine rr_goto (tgt := 99) oX5_list_95 (by decide) ?_
                refine rr_iadd oX5_list_99 ?_
                refine si_5 oX5_list_100 rfl rfl ?_
                refine ra_0 oX5_list_102 ?_
                refine rr_dup oX5_list_103 rfl ?_
                refine rr_giv oX5_list_104 (ff_X5_7 rfl) kk_46 (wd_lt W rfl) ⟨by decide, rfl⟩ (show _ = (1 : Int32) from (f1 1 (by omega) (by omega)).trans up_I_at) ?_
                refine rk_1 oX5_list_107 ?_
                refine rr_iadd oX5_list_108 ?_
                refine rr_pi oX5_list_109 (ff_X5_7 rfl) kk_46 (wd_lt W rfl) ⟨by decide, rfl, by decide⟩ pf_5_1 ⟨rfl, rfl⟩ ?_
                refine rr_goto (tgt := 64) oX5_list_112 (by decide) ?_
                refine ra_0 oX5_list_64 ?_
                refine rr_giv oX5_list_65 (ff_X5_7 rfl) kk_46 (wd_lt W rfl) ⟨by decide, rfl⟩ (show _ = (2 : Int32) from up_I_at) ?_
                refine rk_2 oX5_list_68 ?_
                refine rr_icmp_ge (tgt := 115) oX5_list_69 (by decide) (fun _ => ?_) (fun q => absurd q (by decide))
                refine ra_0 oX5_list_115 ?_
                refine ri_4 oX5_list_116 ?_
                refine rr_pi oX5_list_118 (ff_X5_7 rfl) kk_46 (wd_lt W rfl) ⟨by decide, rfl, by decide⟩ pf_5_1 ⟨rfl, rfl⟩ ?_
                refine ri_5 oX5_list_121 ?_
                exact rr_ireturn oX5_list_123 rfl rfl (list_end hM hI f0 g0 f1 g1 (show f_list S (nI t) w = (_, w_B S (z_B S)) from by rw [f_list, els, if_neg (fun q => q rfl), if_neg c46_0, if_neg c46_1, ex]; rfl) (by rw [fit_1 h8 d0, fit_1 h8 d1]; rfl))
        · have els : s_li S (nI t) w = -5 := by rw [s_li, if_neg (fun q => q c), if_pos (Or.inr (Or.inr (Int32.not_le.mp b3)))]
          refine rr_bipush (v := (-5)) oX5_list_32 (by decide) ?_
          refine si_3 oX5_list_34 rfl rfl ?_
          refine ri_3 oX5_list_35 ?_
          refine rr_if_eq (tgt := 45) oX5_list_36 (by decide) (fun q => absurd q (by decide)) (fun _ => ?_)
          refine ra_0 oX5_list_39 ?_
          refine ri_3 oX5_list_40 ?_
          refine rr_cVi (c_X5_noTen l W (c := 5) (by decide) (by decide)) oX5_list_41 (cv_X5_207 rfl) (by decide) kk_46 (by decide) hcn_5 (wd_lt W rfl) rfl rfl (Nat.le_of_ble_eq_true rfl) ?_
          exact rr_ireturn oX5_list_44 rfl rfl (q_M_nod (r := -5) hM me_rf (by rw [f_list, els, if_pos (by decide)]) (by decide))
