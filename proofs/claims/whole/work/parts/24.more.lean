/-! SeenByOne: most, restore, storeys, fellings, shuts, night (by program: wip/whole/c24.py) -/
def dr_S (c : Nat → Int32) : Option Nat → Int32
  | none => -1
  | some u => c u
theorem lp_X4_most (l : Launch) {I : Nat → Nat → Int32} {L : Nat → Nat → Int64} {Rf : Nat → Nat → Option Nat} {n : Nat} {J : Nat → Nat → Int32} {S : sg_T} (W : wd_T Rf n) (hA : gl_T J 2 (z_G S) (b_dr (z_B S)) (b_sh (z_B S))) (hC : CR_T I L S) (he : ce_T I J) : ∀ m t b w4, t + m = 8 → wm_W l mX4_most 7 0 0 30 [vv_A (some 0), vv_I (oI b), vv_I (dr_S (s_seen S) b), vv_I (nI t), w4] [] (J, L, Rf, n) (q_C (oI (kp_N (p_h (z_G S)) (s_seen S) m t b)) S I L Rf n) := by
  intro m
  induction m with
  | zero =>
    intro t b w4 ht
    have hG := hA.1.1
    have h8 : g_n (z_G S) ≤ 8 := gv_8 hG
    refine ri_3 oX4_most_30 ?_
    refine rr_bipush (v := 8) oX4_most_31 (by decide) ?_
    refine rr_icmp_ge (tgt := 78) oX4_most_33 (by decide) (fun c => ?_) (fun c => ?_)
    rotate_left
    · exact absurd c (by rw [show (8 : Int32) = nI 8 from rfl, nI_le_iff (by omega) (by omega)]; omega)
    refine ri_1 oX4_most_78 ?_
    exact rr_ireturn oX4_most_79 rfl rfl (q_C_ce hC he rfl)
  | succ m ih =>
    intro t b w4 ht
    have hG := hA.1.1
    have h8 : g_n (z_G S) ≤ 8 := gv_8 hG
    refine ri_3 oX4_most_30 ?_
    refine rr_bipush (v := 8) oX4_most_31 (by decide) ?_
    refine rr_icmp_ge (tgt := 78) oX4_most_33 (by decide) (fun c => ?_) (fun c => ?_)
    · (rw [show (8 : Int32) = nI 8 from rfl, nI_le_iff (by omega) (by omega)] at c; omega)
    refine ra_0 oX4_most_36 ?_
    refine rr_gr (v := 2) oX4_most_37 (ff_X4_18 rfl) kk_0 (wd_lt W rfl) ⟨by decide, rfl⟩ (wd_r W rfl rfl) ?_
    refine ri_3 oX4_most_40 ?_
    refine rr_cVi (c_X1_isHouse l W gd_2 hG) oX4_most_41 (cv_X4_268 rfl) (by decide) (gd_k gd_2) (by decide) hcn_1 (gd_lt (j := 0) W gd_2 rfl) rfl rfl (Nat.le_of_ble_eq_true rfl) ?_
    refine rr_ifb_eq (tgt := 58) oX4_most_44 (by decide) (fun c1 => ?_) (fun c1 => ?_)
    · have e2 : ¬ p_h (z_G S) t = true := by
        intro q
        simp only [p_h, Bool.and_eq_true, decide_eq_true_eq] at q
        exact c1 ⟨⟨nI_pos' (by omega), by rw [nI_lt_iff (by omega) (by omega)]; exact q.1⟩, by rw [nI_clamp (by omega)]; exact q.2⟩
      refine rk_m1 oX4_most_58 ?_
      refine si_4 oX4_most_59 rfl rfl ?_
      refine ri_4 oX4_most_61 ?_
      refine ri_2 oX4_most_63 ?_
      refine rr_icmp_le (tgt := 72) oX4_most_64 (by decide) (fun c2 => ?_) (fun c2 => ?_)
      rotate_left
      · refine absurd ?_ c2
        have hdr : ∀ b : Option Nat, (-1 : Int32) ≤ dr_S (s_seen S) b := by
          intro b
          cases b with
          | none => exact Int32.le_refl _
          | some u => exact Int32.le_of_lt (s_seen_0 S u h8)
        exact hdr b
      refine rn_3 oX4_most_72 rfl rfl ?_
      refine rr_goto (tgt := 30) oX4_most_75 (by decide) ?_
      have h3 := ih (t + 1) b (vv_I (-1)) (by omega)
      simp only [kp_N]
      rw [if_neg e2]
      exact h3
    · have e2 : p_h (z_G S) t = true := by
        obtain ⟨⟨q1, q2⟩, q3⟩ := c1
        rw [nI_lt_iff (by omega) (by omega)] at q2
        rw [nI_clamp (by omega)] at q3
        simp only [p_h, Bool.and_eq_true, decide_eq_true_eq]
        exact ⟨q2, q3⟩
      have hs0 := s_seen_0 S t h8
      refine ra_0 oX4_most_47 ?_
      refine rr_gr (v := 2) oX4_most_48 (ff_X4_18 rfl) kk_0 (wd_lt W rfl) ⟨by decide, rfl⟩ (wd_r W rfl rfl) ?_
      refine ri_3 oX4_most_51 ?_
      refine rr_cVi (c_X1_countSeenBy l W gd_2 hA (i := t) (by omega)) oX4_most_52 (cv_X4_274 rfl) (by decide) (gd_k gd_2) (by decide) hcn_1 (gd_lt (j := 0) W gd_2 rfl) rfl rfl (Nat.le_of_ble_eq_true rfl) ?_
      rw [show sm_N (fun j => if p_se (z_G S) (b_dr (z_B S)) (b_sh (z_B S)) j t = true then 1 else 0) (g_n (z_G S)) 0 0 = s_seen S t from rfl]
      refine rr_goto (tgt := 59) oX4_most_55 (by decide) ?_
      refine si_4 oX4_most_59 rfl rfl ?_
      refine ri_4 oX4_most_61 ?_
      refine ri_2 oX4_most_63 ?_
      refine rr_icmp_le (tgt := 72) oX4_most_64 (by decide) (fun c2 => ?_) (fun c2 => ?_)
      · refine rn_3 oX4_most_72 rfl rfl ?_
        refine rr_goto (tgt := 30) oX4_most_75 (by decide) ?_
        have h3 := ih (t + 1) b (vv_I (s_seen S t)) (by omega)
        simp only [kp_N]
        rw [if_pos e2]
        cases b with
        | none => exact absurd hs0 (Int32.not_lt.mpr c2)
        | some u =>
          simp only []
          rw [if_neg (Int32.not_lt.mpr (show s_seen S t ≤ s_seen S u from c2))]
          exact h3
      · refine ri_3 oX4_most_67 ?_
        refine si_1 oX4_most_68 rfl rfl ?_
        refine ri_4 oX4_most_69 ?_
        refine si_2 oX4_most_71 rfl rfl ?_
        refine rn_3 oX4_most_72 rfl rfl ?_
        refine rr_goto (tgt := 30) oX4_most_75 (by decide) ?_
        have h3 := ih (t + 1) (some t) (vv_I (s_seen S t)) (by omega)
        simp only [kp_N]
        rw [if_pos e2]
        cases b with
        | none => exact h3
        | some u =>
          simp only []
          rw [if_pos (Int32.not_le.mp (show ¬ s_seen S t ≤ s_seen S u from c2))]
          exact h3
theorem c_X4_most (l : Launch) {I : Nat → Nat → Int32} {L : Nat → Nat → Int64} {Rf : Nat → Nat → Option Nat} {n : Nat} {S : sg_T} (W : wd_T Rf n) (hC : CR_T I L S) (hI : IV_T S) : wm_C l mX4_most 7 0 0 [vv_A (some 0)] (I, L, Rf, n) (q_C (f_most S).1 (f_most S).2 I L Rf n) := by
  refine wm_of (by decide) (Nat.le_of_ble_eq_true rfl) rfl ?_
  have hG : gv_T I 2 (z_G S) := hC.1.1.1
  have h8 : g_n (z_G S) ≤ 8 := hI.1.1
  have hr : hr_T (z_G S) := hI.1.2.1
  refine ra_0 oX4_most_0 ?_
  refine rr_gr (v := 2) oX4_most_1 (ff_X4_18 rfl) kk_0 (wd_lt W rfl) ⟨by decide, rfl⟩ (wd_r W rfl rfl) ?_
  refine rr_cVi (c_X1_houses l W gd_2 hG) oX4_most_4 (cv_X4_224 rfl) (by decide) (gd_k gd_2) (by decide) hcn_1 (gd_lt (j := 0) W gd_2 rfl) rfl rfl (Nat.le_of_ble_eq_true rfl) ?_
  refine rr_if_ne (tgt := 17) oX4_most_7 (by decide) (fun c => ?_) (fun c => ?_)
  · refine ra_0 oX4_most_17 ?_
    refine rr_gr (v := 2) oX4_most_18 (ff_X4_18 rfl) kk_0 (wd_lt W rfl) ⟨by decide, rfl⟩ (wd_r W rfl rfl) ?_
    refine rr_cVm (c_X1_lookAround l W gd_2 hG (hr_xy hr)) oX4_most_21 (cv_X4_113 rfl) (by decide) (gd_k gd_2) (by decide) hcn_1 (gd_lt (j := 0) W gd_2 rfl) rfl rfl (Nat.le_of_ble_eq_true rfl) (fun J hJ => ?_)
    have hA : gl_T J 2 (z_G S) (b_dr (z_B S)) (b_sh (z_B S)) := la_gl hJ hC.1.1
    have he : ce_T I J := ce_la hJ
    have hG := hA.1.1
    refine rk_m1 oX4_most_24 ?_
    refine si_1 oX4_most_25 rfl rfl ?_
    refine rk_m1 oX4_most_26 ?_
    refine si_2 oX4_most_27 rfl rfl ?_
    refine rk_0 oX4_most_28 ?_
    refine si_3 oX4_most_29 rfl rfl ?_
    rw [f_most, if_neg c]
    exact lp_X4_most l W hA hC he 8 0 none _ rfl
  · refine ra_0 oX4_most_10 ?_
    refine rr_bipush (v := (-5)) oX4_most_11 (by decide) ?_
    refine rr_cVi (c_X4_refuse l W (c := 5) (by decide) (by decide)) oX4_most_13 (cv_X4_55 rfl) (by decide) kk_0 (by decide) hcn_4 (wd_lt W rfl) rfl rfl (Nat.le_of_ble_eq_true rfl) ?_
    exact rr_ireturn oX4_most_16 rfl rfl (q_C_noc hC ce_rf (by rw [f_most, if_pos c]) (by decide) (by decide))
def hd_t (S : sg_T) (m t : Nat) : Nat → Int32 := fun s => if s < t then rs_hd m (z_hd S s) else z_hd S s
theorem hd_t8 {I : Nat → Nat → Int32} {L : Nat → Nat → Int64} {S : sg_T} {m : Nat} (h : CR_T I L (w_hd S (hd_t S m 8))) : CR_T I L (w_hd S (fun s => rs_hd m (z_hd S s))) := by
  obtain ⟨h1, h2, h3, h4, h5, h6, h7, h8⟩ := h
  refine ⟨h1, h2, h3, h4, h5, fun s hs => ?_, h7, h8⟩
  obtain ⟨g1, g2⟩ := h6 s hs
  exact ⟨g1.trans (if_pos hs), g2⟩
theorem hd_up {S : sg_T} {m t : Nat} {v : Int32} (hv : rs_hd m (z_hd S t) = v) {s : Nat} (q : s = t) : hd_t S m (t + 1) s = v := by
  subst q
  rw [← hv]
  exact if_pos (by omega)
theorem hd_ne {S : sg_T} {m t s : Nat} (q : s ≠ t) : hd_t S m (t + 1) s = hd_t S m t s := by
  unfold hd_t
  by_cases q2 : s < t
  · rw [if_pos q2, if_pos (by omega)]
  · rw [if_neg q2, if_neg (by omega)]
theorem lp_X4_restore (l : Launch) {L : Nat → Nat → Int64} {Rf : Nat → Nat → Option Nat} {n : Nat} {I0 : Nat → Nat → Int32} (W : wd_T Rf n) {S : sg_T} (h8 : g_n (z_G S) ≤ 8) : ∀ m (I : Nat → Nat → Int32) t, t + m = 8 → CR_T I L (w_hd S (hd_t S (g_n (z_G S)) t)) → (∀ a, 46 ≤ a → I a = I0 a) → wm_W l mX4_restore 3 0 0 27 [vv_A (some 0), vv_I (nI t)] [] (I, L, Rf, n) (q_C (nI (g_n (z_G S))) (w_hd S (fun s => rs_hd (g_n (z_G S)) (z_hd S s))) I0 L Rf n) := by
  intro m
  induction m with
  | zero =>
    intro I t ht hC h1
    refine ri_1 oX4_restore_27 ?_
    refine rr_bipush (v := 8) oX4_restore_28 (by decide) ?_
    refine rr_icmp_ge (tgt := 80) oX4_restore_30 (by decide) (fun c => ?_) (fun c => ?_)
    rotate_left
    · exact absurd c (by rw [show (8 : Int32) = nI 8 from rfl, nI_le_iff (by omega) (by omega)]; omega)
    refine ra_0 oX4_restore_80 ?_
    refine rr_gr (v := 2) oX4_restore_81 (ff_X4_18 rfl) kk_0 (wd_lt W rfl) ⟨by decide, rfl⟩ (wd_r W rfl rfl) ?_
    refine rr_giv oX4_restore_84 (ff_X4_280 rfl) (gd_k gd_2) (gd_lt (j := 0) W gd_2 rfl) ⟨by decide, rfl⟩ (CR_n hC) ?_
    exact rr_ireturn oX4_restore_87 rfl rfl (q_C_of rfl (hd_t8 (by rw [show t = 8 by omega] at hC; exact hC)) (fun a ha => ⟨h1 a ha, rfl⟩))
  | succ m ih =>
    intro I t ht hC h1
    refine ri_1 oX4_restore_27 ?_
    refine rr_bipush (v := 8) oX4_restore_28 (by decide) ?_
    refine rr_icmp_ge (tgt := 80) oX4_restore_30 (by decide) (fun c => ?_) (fun c => ?_)
    · (rw [show (8 : Int32) = nI 8 from rfl, nI_le_iff (by omega) (by omega)] at c; omega)
    have ht8 : t < 8 := by omega
    have eh : I (30 + 2 * t) 0 = z_hd S t := by rw [CR_hd hC ht8]; exact if_neg (by omega)
    have hG : gv_T I 2 (z_G S) := hC.1.1.1
    refine ra_0 oX4_restore_33 ?_
    refine rr_gr (v := 1) oX4_restore_34 (ff_X4_11 rfl) kk_0 (wd_lt W rfl) ⟨by decide, rfl⟩ (wd_r W rfl rfl) ?_
    refine ri_1 oX4_restore_37 ?_
    refine rr_ald (t := t) (v := 30 + 2 * t) oX4_restore_38 kk_1 (wd_lt W rfl) rfl (by omega) (by decide) (sh_q W ht8) ?_
    refine rr_cVi (c_X3_holdsThing l W (sh_of ht8)) oX4_restore_39 (cv_X4_335 rfl) (by decide) (sh_k (sh_of ht8)) (by decide) hcn_3 (sh_lt (j := 0) W (sh_of ht8) rfl) rfl rfl (Nat.le_of_ble_eq_true rfl) ?_
    refine rr_ifb_eq (tgt := 74) oX4_restore_42 (by decide) (fun c1 => ?_) (fun c1 => ?_)
    · rw [eh] at c1
      refine rn_1 oX4_restore_74 rfl rfl ?_
      refine rr_goto (tgt := 27) oX4_restore_77 (by decide) ?_
      have ev : rs_hd (g_n (z_G S)) (z_hd S t) = z_hd S t := if_neg (fun q => c1 q.1)
      exact ih I (t + 1) (by omega) (CR_shelf ht8 hC (fun _ _ => rfl) (fun _ _ => rfl) ⟨rfl, rfl, rfl, rfl, rfl, rfl⟩ (fun s hs => ⟨hd_ne hs, rfl, fun _ _ => rfl⟩) ⟨eh.trans (hd_up ev rfl).symm, CR_sz hC ht8, fun k hk => CR_el hC ht8 hk⟩) h1
    · rw [eh] at c1
      refine ra_0 oX4_restore_45 ?_
      refine rr_gr (v := 2) oX4_restore_46 (ff_X4_18 rfl) kk_0 (wd_lt W rfl) ⟨by decide, rfl⟩ (wd_r W rfl rfl) ?_
      refine ra_0 oX4_restore_49 ?_
      refine rr_gr (v := 1) oX4_restore_50 (ff_X4_11 rfl) kk_0 (wd_lt W rfl) ⟨by decide, rfl⟩ (wd_r W rfl rfl) ?_
      refine ri_1 oX4_restore_53 ?_
      refine rr_ald (t := t) (v := 30 + 2 * t) oX4_restore_54 kk_1 (wd_lt W rfl) rfl (by omega) (by decide) (sh_q W ht8) ?_
      refine rr_giv oX4_restore_55 (ff_X4_94 rfl) (sh_k (sh_of ht8)) (sh_lt (j := 0) W (sh_of ht8) rfl) ⟨by decide, rfl⟩ eh ?_
      refine rr_cVi (c_X1_hasG l W gd_2 hG) oX4_restore_58 (cv_X4_91 rfl) (by decide) (gd_k gd_2) (by decide) hcn_1 (gd_lt (j := 0) W gd_2 rfl) rfl rfl (Nat.le_of_ble_eq_true rfl) ?_
      refine rr_ifb_ne (tgt := 74) oX4_restore_61 (by decide) (fun c2 => ?_) (fun c2 => ?_)
      · refine rn_1 oX4_restore_74 rfl rfl ?_
        refine rr_goto (tgt := 27) oX4_restore_77 (by decide) ?_
        have ev : rs_hd (g_n (z_G S)) (z_hd S t) = z_hd S t := if_neg (fun q => q.2 c2)
        exact ih I (t + 1) (by omega) (CR_shelf ht8 hC (fun _ _ => rfl) (fun _ _ => rfl) ⟨rfl, rfl, rfl, rfl, rfl, rfl⟩ (fun s hs => ⟨hd_ne hs, rfl, fun _ _ => rfl⟩) ⟨eh.trans (hd_up ev rfl).symm, CR_sz hC ht8, fun k hk => CR_el hC ht8 hk⟩) h1
      · refine ra_0 oX4_restore_64 ?_
        refine rr_gr (v := 1) oX4_restore_65 (ff_X4_11 rfl) kk_0 (wd_lt W rfl) ⟨by decide, rfl⟩ (wd_r W rfl rfl) ?_
        refine ri_1 oX4_restore_68 ?_
        refine rr_ald (t := t) (v := 30 + 2 * t) oX4_restore_69 kk_1 (wd_lt W rfl) rfl (by omega) (by decide) (sh_q W ht8) ?_
        refine rk_m1 oX4_restore_70 ?_
        refine rr_pi oX4_restore_71 (ff_X4_94 rfl) (sh_k (sh_of ht8)) (sh_lt (j := 0) W (sh_of ht8) rfl) ⟨by decide, rfl, by decide⟩ pf_3_0 ⟨rfl, rfl⟩ ?_
        refine rn_1 oX4_restore_74 rfl rfl ?_
        refine rr_goto (tgt := 27) oX4_restore_77 (by decide) ?_
        have ev : rs_hd (g_n (z_G S)) (z_hd S t) = -1 := if_pos ⟨c1, c2⟩
        exact ih _ (t + 1) (by omega) (CR_shelf ht8 hC (fun a ha => up_I_ne ha) (fun _ _ => rfl) ⟨rfl, rfl, rfl, rfl, rfl, rfl⟩ (fun s hs => ⟨hd_ne hs, rfl, fun _ _ => rfl⟩) ⟨by rw [up_I_at]; exact (hd_up ev rfl).symm, by rw [up_I_at_ne (by omega)]; exact CR_sz hC ht8, fun k hk => CR_el hC ht8 hk⟩) (fun a ha => by rw [up_I_ne (by omega)]; exact h1 a ha)
theorem hd_t0 {I : Nat → Nat → Int32} {L : Nat → Nat → Int64} {S : sg_T} {m : Nat} (h : CR_T I L S) : CR_T I L (w_hd S (hd_t S m 0)) := by
  have e : hd_t S m 0 = z_hd S := by funext s; exact if_neg (by omega)
  rw [e]
  exact h
theorem c_X4_restore (l : Launch) {I : Nat → Nat → Int32} {L : Nat → Nat → Int64} {Rf : Nat → Nat → Option Nat} {n : Nat} {S : sg_T} (W : wd_T Rf n) (hC : CR_T I L S) (hI : IV_T S) : wm_C l mX4_restore 3 0 0 [vv_A (some 0)] (I, L, Rf, n) (q_C (f_restore S).1 (f_restore S).2 I L Rf n) := by
  refine wm_of (by decide) (Nat.le_of_ble_eq_true rfl) rfl ?_
  have hG : gv_T I 2 (z_G S) := hC.1.1.1
  have h8 : g_n (z_G S) ≤ 8 := hI.1.1
  have hr : hr_T (z_G S) := hI.1.2.1
  refine ra_0 oX4_restore_0 ?_
  refine rr_giv oX4_restore_1 (ff_X4_42 rfl) kk_0 (wd_lt W rfl) ⟨by decide, rfl⟩ (show _ = bI ((z_im S).1 = true) from hC.2.1) ?_
  refine rr_ifb_ne (tgt := 14) oX4_restore_4 (by decide) (fun c => ?_) (fun c => ?_)
  · refine ra_0 oX4_restore_14 ?_
    refine rr_gr (v := 2) oX4_restore_15 (ff_X4_18 rfl) kk_0 (wd_lt W rfl) ⟨by decide, rfl⟩ (wd_r W rfl rfl) ?_
    refine ra_0 oX4_restore_18 ?_
    refine rr_gr (v := 10) oX4_restore_19 (ff_X4_22 rfl) kk_0 (wd_lt W rfl) ⟨by decide, rfl⟩ (wd_r W rfl rfl) ?_
    have hi := hC.2.2.1 c
    refine rr_cVm (c_X1_copyFrom l W gd_2 gd_10 (by omega)) oX4_restore_22 (cv_X4_197 rfl) (by decide) (gd_k gd_2) (by decide) hcn_1 (gd_lt (j := 0) W gd_2 rfl) rfl rfl (Nat.le_of_ble_eq_true rfl) (fun J hJ => ?_)
    refine rk_0 oX4_restore_25 ?_
    refine si_1 oX4_restore_26 rfl rfl ?_
    rw [f_restore, if_neg (fun q => q c)]
    exact lp_X4_restore l W (S := w_B S (z_im S).2) (hI.2.1 c).1 8 J 0 rfl (hd_t0 (CR_gr hC (cf_cg hJ hi) (fun a q1 q2 _ _ => hJ.2.2.2 a (by omega)))) (fun a ha => hJ.2.2.2 a (by omega))
  · refine ra_0 oX4_restore_7 ?_
    refine rr_bipush (v := (-6)) oX4_restore_8 (by decide) ?_
    refine rr_cVi (c_X4_refuse l W (c := 6) (by decide) (by decide)) oX4_restore_10 (cv_X4_55 rfl) (by decide) kk_0 (by decide) hcn_4 (wd_lt W rfl) rfl rfl (Nat.le_of_ble_eq_true rfl) ?_
    exact rr_ireturn oX4_restore_13 rfl rfl (q_C_noc hC ce_rf (by rw [f_restore, if_pos c]) (by decide) (by decide))
/-- the trial one storey higher, both looked around -/
def ts_T (I J : Nat → Nat → Int32) (S : sg_T) (G2 : gr_T) : Prop := gl_T J 2 (z_G S) (b_dr (z_B S)) (b_sh (z_B S)) ∧ gl_T J 18 G2 (b_dr (z_B S)) (b_sh (z_B S)) ∧ ce_T I J
theorem c_X4_tryStorey (l : Launch) {I : Nat → Nat → Int32} {L : Nat → Nat → Int64} {Rf : Nat → Nat → Option Nat} {n : Nat} {S : sg_T} (W : wd_T Rf n) (hC : CR_T I L S) (hI : IV_T S) {t : Nat} (ht : t < g_n (z_G S)) : wm_C l mX4_tryStorey 7 0 0 [vv_A (some 0), vv_I (nI t)] (I, L, Rf, n) (q_m (fun J => ts_T I J S (g_st (z_G S) t)) L Rf n) := by
  refine wm_of (by decide) (Nat.le_of_ble_eq_true rfl) rfl ?_
  have hG : gv_T I 2 (z_G S) := hC.1.1.1
  have h8 : g_n (z_G S) ≤ 8 := hI.1.1
  have hr : hr_T (z_G S) := hI.1.2.1
  refine ra_0 oX4_tryStorey_0 ?_
  refine rr_gr (v := 2) oX4_tryStorey_1 (ff_X4_18 rfl) kk_0 (wd_lt W rfl) ⟨by decide, rfl⟩ (wd_r W rfl rfl) ?_
  refine rr_cVm (c_X1_lookAround l W gd_2 hG (hr_xy hr)) oX4_tryStorey_4 (cv_X4_113 rfl) (by decide) (gd_k gd_2) (by decide) hcn_1 (gd_lt (j := 0) W gd_2 rfl) rfl rfl (Nat.le_of_ble_eq_true rfl) (fun J hJ => ?_)
  have hA : gl_T J 2 (z_G S) (b_dr (z_B S)) (b_sh (z_B S)) := la_gl hJ hC.1.1
  have he : ce_T I J := ce_la hJ
  have hG := hA.1.1
  refine ra_0 oX4_tryStorey_7 ?_
  refine rr_gr (v := 18) oX4_tryStorey_8 (ff_X4_25 rfl) kk_0 (wd_lt W rfl) ⟨by decide, rfl⟩ (wd_r W rfl rfl) ?_
  refine ra_0 oX4_tryStorey_11 ?_
  refine rr_gr (v := 2) oX4_tryStorey_12 (ff_X4_18 rfl) kk_0 (wd_lt W rfl) ⟨by decide, rfl⟩ (wd_r W rfl rfl) ?_
  refine rr_cVm (c_X1_copyFrom l W gd_18 gd_2 (by omega)) oX4_tryStorey_15 (cv_X4_197 rfl) (by decide) (gd_k gd_18) (by decide) hcn_1 (gd_lt (j := 0) W gd_18 rfl) rfl rfl (Nat.le_of_ble_eq_true rfl) (fun K hK => ?_)
  have hT := cf_gs hK hA.1
  have hA2 : gl_T K 2 (z_G S) (b_dr (z_B S)) (b_sh (z_B S)) := gl_ce hA (fun j hj => hK.2.2.2 _ (by omega))
  refine ra_0 oX4_tryStorey_18 ?_
  refine rr_gr (v := 18) oX4_tryStorey_19 (ff_X4_25 rfl) kk_0 (wd_lt W rfl) ⟨by decide, rfl⟩ (wd_r W rfl rfl) ?_
  refine rr_gr oX4_tryStorey_22 (ff_X4_127 rfl) (gd_k gd_18) (gd_lt (j := 0) W gd_18 rfl) ⟨by decide, rfl⟩ (gd_r W gd_18 9 4 rfl) ?_
  refine ri_1 oX4_tryStorey_25 ?_
  refine rr_dup2 oX4_tryStorey_26 rfl rfl ?_
  refine rr_iv oX4_tryStorey_27 (gd_a gd_18 4 rfl) (gd_lt (j := 4) W gd_18 rfl) rfl (by omega) (by decide) (gv_h hT.1 ht) ?_
  refine rk_1 oX4_tryStorey_28 ?_
  refine rr_iadd oX4_tryStorey_29 ?_
  refine rr_ist oX4_tryStorey_30 (gd_a gd_18 4 rfl) (gd_lt (j := 4) W gd_18 rfl) rfl (by omega) (by decide) ?_
  have hT2 := gs_wh (t := t) (v := g_h (z_G S) t + 1) hT
  refine ra_0 oX4_tryStorey_31 ?_
  refine rr_gr (v := 18) oX4_tryStorey_32 (ff_X4_25 rfl) kk_0 (wd_lt W rfl) ⟨by decide, rfl⟩ (wd_r W rfl rfl) ?_
  refine rr_cVm (c_X1_lookAround l W gd_18 hT2.1 (hr_xy hr)) oX4_tryStorey_35 (cv_X4_113 rfl) (by decide) (gd_k gd_18) (by decide) hcn_1 (gd_lt (j := 0) W gd_18 rfl) rfl rfl (Nat.le_of_ble_eq_true rfl) (fun M hM => ?_)
  exact rr_return oX4_tryStorey_38 rfl (q_m_of ⟨gl_ce hA2 (fun j hj => by rw [hM.2 _ (by omega), up_I_ne (by omega)]), la_gl hM hT2, ce_tr he (fun a q1 q2 q3 => by rw [hM.2 a (by omega), up_I_ne (by omega)]; exact hK.2.2.2 a (by omega))⟩)
theorem c_X4_storey (l : Launch) {I : Nat → Nat → Int32} {L : Nat → Nat → Int64} {Rf : Nat → Nat → Option Nat} {n : Nat} {S : sg_T} (W : wd_T Rf n) (hC : CR_T I L S) (hI : IV_T S) {t : Int32} : wm_C l mX4_storey 8 0 0 [vv_A (some 0), vv_I t] (I, L, Rf, n) (q_C (f_storey S t).1 (f_storey S t).2 I L Rf n) := by
  refine wm_of (by decide) (Nat.le_of_ble_eq_true rfl) rfl ?_
  have hG : gv_T I 2 (z_G S) := hC.1.1.1
  have h8 : g_n (z_G S) ≤ 8 := hI.1.1
  have hr : hr_T (z_G S) := hI.1.2.1
  refine ra_0 oX4_storey_0 ?_
  refine ri_1 oX4_storey_1 ?_
  refine rr_cVi (c_X4_lacksStorey l W hC hI) oX4_storey_2 (cv_X4_262 rfl) (by decide) kk_0 (by decide) hcn_4 (wd_lt W rfl) rfl rfl (Nat.le_of_ble_eq_true rfl) ?_
  refine si_2 oX4_storey_5 rfl rfl ?_
  refine ri_2 oX4_storey_6 ?_
  refine rr_if_eq (tgt := 20) oX4_storey_7 (by decide) (fun c => ?_) (fun c => ?_)
  · have c0 := (s_lst_0 c).1
    obtain ⟨a, b, ⟨ha, rfl, ha2⟩, ⟨hb, e2, hb2⟩⟩ := s_lh_0 h8 c0
    have exa : ix_N (nI a) = a := nI_clamp (by omega)
    refine ra_0 oX4_storey_20 ?_
    refine ri_1 oX4_storey_21 ?_
    refine rr_cVm (c_X4_tryStorey l W hC hI ha) oX4_storey_22 (cv_X4_265 rfl) (by decide) kk_0 (by decide) hcn_4 (wd_lt W rfl) rfl rfl (Nat.le_of_ble_eq_true rfl) (fun J hJ => ?_)
    obtain ⟨hA, hB, he⟩ := hJ
    refine ra_0 oX4_storey_25 ?_
    refine rr_gr (v := 18) oX4_storey_26 (ff_X4_25 rfl) kk_0 (wd_lt W rfl) ⟨by decide, rfl⟩ (wd_r W rfl rfl) ?_
    refine rr_cVi (c_X1_countRight l W gd_18 hB) oX4_storey_29 (cv_X4_252 rfl) (by decide) (gd_k gd_18) (by decide) hcn_1 (gd_lt (j := 0) W gd_18 rfl) rfl rfl (Nat.le_of_ble_eq_true rfl) ?_
    refine ra_0 oX4_storey_32 ?_
    refine rr_gr (v := 2) oX4_storey_33 (ff_X4_18 rfl) kk_0 (wd_lt W rfl) ⟨by decide, rfl⟩ (wd_r W rfl rfl) ?_
    refine rr_cVi (c_X1_countRight l W gd_2 hA) oX4_storey_36 (cv_X4_252 rfl) (by decide) (gd_k gd_2) (by decide) hcn_1 (gd_lt (j := 0) W gd_2 rfl) rfl rfl (Nat.le_of_ble_eq_true rfl) ?_
    refine rr_isub oX4_storey_39 ?_
    exact rr_ireturn oX4_storey_40 rfl rfl (q_C_an hC he (by rw [f_storey, if_neg (fun q => q c), exa]) rfl)
  · have hno := no_lst c
    refine ra_0 oX4_storey_10 ?_
    refine ri_2 oX4_storey_11 ?_
    refine rr_cVi (c_X4_refuse l W hno.1 hno.2) oX4_storey_12 (cv_X4_55 rfl) (by decide) kk_0 (by decide) hcn_4 (wd_lt W rfl) rfl rfl (Nat.le_of_ble_eq_true rfl) ?_
    refine rr_sipush (v := 1000) oX4_storey_15 (by decide) ?_
    refine rr_isub oX4_storey_18 ?_
    exact rr_ireturn oX4_storey_19 rfl rfl (q_C_nod hC ce_rf (by rw [f_storey, if_pos c]) hno.1)
theorem lp_X4_blinded (l : Launch) {I J : Nat → Nat → Int32} {L : Nat → Nat → Int64} {Rf : Nat → Nat → Option Nat} {n : Nat} {S : sg_T} {G2 : gr_T} (W : wd_T Rf n) (hC : CR_T I L S) (hA : gl_T J 2 (z_G S) (b_dr (z_B S)) (b_sh (z_B S))) (hB : gl_T J 18 G2 (b_dr (z_B S)) (b_sh (z_B S))) (he : ce_T I J) {w1 : vv_T} {w2 : Int32} : ∀ m t acc, t + m = 8 → wm_W l mX4_blinded 8 0 0 26 [vv_A (some 0), w1, vv_I w2, vv_I acc, vv_I (nI t)] [] (J, L, Rf, n) (q_C (sm_N (fun j => nI (cn_8 (fun i => q_se S j i && !p_se G2 (b_dr (z_B S)) (b_sh (z_B S)) j i))) m t acc) S I L Rf n) := by
  intro m
  induction m with
  | zero =>
    intro t acc ht
    refine ri_4 oX4_blinded_26 ?_
    refine rr_bipush (v := 8) oX4_blinded_28 (by decide) ?_
    refine rr_icmp_ge (tgt := 66) oX4_blinded_30 (by decide) (fun c => ?_) (fun c => ?_)
    rotate_left
    · exact absurd c (by rw [show (8 : Int32) = nI 8 from rfl, nI_le_iff (by omega) (by omega)]; omega)
    refine ri_3 oX4_blinded_66 ?_
    exact rr_ireturn oX4_blinded_67 rfl rfl (q_C_ce hC he rfl)
  | succ m ih =>
    intro t acc ht
    refine ri_4 oX4_blinded_26 ?_
    refine rr_bipush (v := 8) oX4_blinded_28 (by decide) ?_
    refine rr_icmp_ge (tgt := 66) oX4_blinded_30 (by decide) (fun c => ?_) (fun c => ?_)
    · (rw [show (8 : Int32) = nI 8 from rfl, nI_le_iff (by omega) (by omega)] at c; omega)
    refine ri_3 oX4_blinded_33 ?_
    refine ra_0 oX4_blinded_34 ?_
    refine rr_gr (v := 2) oX4_blinded_35 (ff_X4_18 rfl) kk_0 (wd_lt W rfl) ⟨by decide, rfl⟩ (wd_r W rfl rfl) ?_
    refine ri_4 oX4_blinded_38 ?_
    refine rr_cVi (c_X1_lookersSeeing l W gd_2 hA (j := t) (by omega)) oX4_blinded_40 (cv_X4_218 rfl) (by decide) (gd_k gd_2) (by decide) hcn_1 (gd_lt (j := 0) W gd_2 rfl) rfl rfl (Nat.le_of_ble_eq_true rfl) ?_
    refine ra_0 oX4_blinded_43 ?_
    refine rr_gr (v := 18) oX4_blinded_44 (ff_X4_25 rfl) kk_0 (wd_lt W rfl) ⟨by decide, rfl⟩ (wd_r W rfl rfl) ?_
    refine ri_4 oX4_blinded_47 ?_
    refine rr_cVi (c_X1_lookersSeeing l W gd_18 hB (j := t) (by omega)) oX4_blinded_49 (cv_X4_218 rfl) (by decide) (gd_k gd_18) (by decide) hcn_1 (gd_lt (j := 0) W gd_18 rfl) rfl rfl (Nat.le_of_ble_eq_true rfl) ?_
    refine rk_m1 oX4_blinded_52 ?_
    refine rr_ixor oX4_blinded_53 ?_
    refine rr_iand oX4_blinded_54 ?_
    rw [st_not]
    refine rr_cSi (c_J6_bitCount_0f7a4 l) oX4_blinded_55 (cs_X4_122 rfl) (by decide) rfl rfl (Nat.le_of_ble_eq_true rfl) ?_
    rw [bc_st]
    refine rr_iadd oX4_blinded_58 ?_
    refine si_3 oX4_blinded_59 rfl rfl ?_
    refine rn_4 oX4_blinded_60 rfl rfl ?_
    refine rr_goto (tgt := 26) oX4_blinded_63 (by decide) ?_
    exact ih (t + 1) _ (by omega)
theorem c_X4_blinded (l : Launch) {I : Nat → Nat → Int32} {L : Nat → Nat → Int64} {Rf : Nat → Nat → Option Nat} {n : Nat} {S : sg_T} (W : wd_T Rf n) (hC : CR_T I L S) (hI : IV_T S) {t : Int32} : wm_C l mX4_blinded 8 0 0 [vv_A (some 0), vv_I t] (I, L, Rf, n) (q_C (f_blinded S t).1 (f_blinded S t).2 I L Rf n) := by
  refine wm_of (by decide) (Nat.le_of_ble_eq_true rfl) rfl ?_
  have hG : gv_T I 2 (z_G S) := hC.1.1.1
  have h8 : g_n (z_G S) ≤ 8 := hI.1.1
  have hr : hr_T (z_G S) := hI.1.2.1
  refine ra_0 oX4_blinded_0 ?_
  refine ri_1 oX4_blinded_1 ?_
  refine rr_cVi (c_X4_lacksStorey l W hC hI) oX4_blinded_2 (cv_X4_262 rfl) (by decide) kk_0 (by decide) hcn_4 (wd_lt W rfl) rfl rfl (Nat.le_of_ble_eq_true rfl) ?_
  refine si_2 oX4_blinded_5 rfl rfl ?_
  refine ri_2 oX4_blinded_6 ?_
  refine rr_if_eq (tgt := 16) oX4_blinded_7 (by decide) (fun c => ?_) (fun c => ?_)
  · have c0 := (s_lst_0 c).1
    obtain ⟨a, b, ⟨ha, rfl, ha2⟩, ⟨hb, e2, hb2⟩⟩ := s_lh_0 h8 c0
    have exa : ix_N (nI a) = a := nI_clamp (by omega)
    refine ra_0 oX4_blinded_16 ?_
    refine ri_1 oX4_blinded_17 ?_
    refine rr_cVm (c_X4_tryStorey l W hC hI ha) oX4_blinded_18 (cv_X4_265 rfl) (by decide) kk_0 (by decide) hcn_4 (wd_lt W rfl) rfl rfl (Nat.le_of_ble_eq_true rfl) (fun J hJ => ?_)
    obtain ⟨hA, hB, he⟩ := hJ
    refine rk_0 oX4_blinded_21 ?_
    refine si_3 oX4_blinded_22 rfl rfl ?_
    refine rk_0 oX4_blinded_23 ?_
    refine si_4 oX4_blinded_24 rfl rfl ?_
    rw [f_blinded, if_neg (fun q => q c), exa]
    exact lp_X4_blinded l W hC hA hB he 8 0 0 rfl
  · have hno := no_lst c
    refine ra_0 oX4_blinded_10 ?_
    refine ri_2 oX4_blinded_11 ?_
    refine rr_cVi (c_X4_refuse l W hno.1 hno.2) oX4_blinded_12 (cv_X4_55 rfl) (by decide) kk_0 (by decide) hcn_4 (wd_lt W rfl) rfl rfl (Nat.le_of_ble_eq_true rfl) ?_
    exact rr_ireturn oX4_blinded_15 rfl rfl (q_C_nov hC ce_rf (by rw [f_blinded, if_pos c]) hno.1)
theorem c_X4_felled (l : Launch) {I : Nat → Nat → Int32} {L : Nat → Nat → Int64} {Rf : Nat → Nat → Option Nat} {n : Nat} {S : sg_T} (W : wd_T Rf n) (hC : CR_T I L S) (hI : IV_T S) {t : Int32} : wm_C l mX4_felled 8 0 0 [vv_A (some 0), vv_I t] (I, L, Rf, n) (q_C (f_felled S t).1 (f_felled S t).2 I L Rf n) := by
  refine wm_of (by decide) (Nat.le_of_ble_eq_true rfl) rfl ?_
  have hG : gv_T I 2 (z_G S) := hC.1.1.1
  have h8 : g_n (z_G S) ≤ 8 := hI.1.1
  have hr : hr_T (z_G S) := hI.1.2.1
  refine ra_0 oX4_felled_0 ?_
  refine rr_gr (v := 2) oX4_felled_1 (ff_X4_18 rfl) kk_0 (wd_lt W rfl) ⟨by decide, rfl⟩ (wd_r W rfl rfl) ?_
  refine ri_1 oX4_felled_4 ?_
  refine rr_cVi (c_X1_hasG l W gd_2 hG) oX4_felled_5 (cv_X4_91 rfl) (by decide) (gd_k gd_2) (by decide) hcn_1 (gd_lt (j := 0) W gd_2 rfl) rfl rfl (Nat.le_of_ble_eq_true rfl) ?_
  refine rr_ifb_ne (tgt := 21) oX4_felled_8 (by decide) (fun c => ?_) (fun c => ?_)
  · obtain ⟨a, ha, rfl⟩ := ix_of c.1 c.2 (by omega)
    have exa : ix_N (nI a) = a := nI_clamp (by omega)
    refine ra_0 oX4_felled_21 ?_
    refine rr_gr (v := 2) oX4_felled_22 (ff_X4_18 rfl) kk_0 (wd_lt W rfl) ⟨by decide, rfl⟩ (wd_r W rfl rfl) ?_
    refine ri_1 oX4_felled_25 ?_
    refine rr_cVi (c_X1_isHouse l W gd_2 hG) oX4_felled_26 (cv_X4_268 rfl) (by decide) (gd_k gd_2) (by decide) hcn_1 (gd_lt (j := 0) W gd_2 rfl) rfl rfl (Nat.le_of_ble_eq_true rfl) ?_
    refine rr_ifb_eq (tgt := 43) oX4_felled_29 (by decide) (fun c1 => ?_) (fun c1 => ?_)
    · have c2 : ¬ hs_T S (nI a) := fun q => c1 ⟨c, q⟩
      have c3 : ¬ is_H (g_k (z_G S) a) := fun q => c2 (by rw [hs_T, exa]; exact q)
      refine ra_0 oX4_felled_43 ?_
      refine rr_gr (v := 2) oX4_felled_44 (ff_X4_18 rfl) kk_0 (wd_lt W rfl) ⟨by decide, rfl⟩ (wd_r W rfl rfl) ?_
      refine rr_cVm (c_X1_lookAround l W gd_2 hG (hr_xy hr)) oX4_felled_47 (cv_X4_113 rfl) (by decide) (gd_k gd_2) (by decide) hcn_1 (gd_lt (j := 0) W gd_2 rfl) rfl rfl (Nat.le_of_ble_eq_true rfl) (fun J hJ => ?_)
      have hA : gl_T J 2 (z_G S) (b_dr (z_B S)) (b_sh (z_B S)) := la_gl hJ hC.1.1
      have he : ce_T I J := ce_la hJ
      have hG := hA.1.1
      refine ra_0 oX4_felled_50 ?_
      refine rr_gr (v := 18) oX4_felled_51 (ff_X4_25 rfl) kk_0 (wd_lt W rfl) ⟨by decide, rfl⟩ (wd_r W rfl rfl) ?_
      refine ra_0 oX4_felled_54 ?_
      refine rr_gr (v := 2) oX4_felled_55 (ff_X4_18 rfl) kk_0 (wd_lt W rfl) ⟨by decide, rfl⟩ (wd_r W rfl rfl) ?_
      refine rr_cVm (c_X1_copyFrom l W gd_18 gd_2 (by omega)) oX4_felled_58 (cv_X4_197 rfl) (by decide) (gd_k gd_18) (by decide) hcn_1 (gd_lt (j := 0) W gd_18 rfl) rfl rfl (Nat.le_of_ble_eq_true rfl) (fun K hK => ?_)
      have hT := cf_gs hK hA.1
      have hA2 : gl_T K 2 (z_G S) (b_dr (z_B S)) (b_sh (z_B S)) := gl_ce hA (fun j hj => hK.2.2.2 _ (by omega))
      refine ra_0 oX4_felled_61 ?_
      refine rr_gr (v := 18) oX4_felled_62 (ff_X4_25 rfl) kk_0 (wd_lt W rfl) ⟨by decide, rfl⟩ (wd_r W rfl rfl) ?_
      refine ri_1 oX4_felled_65 ?_
      refine rr_cVv (c_X1_takeAway l W gd_18 (t := a) (by omega)) oX4_felled_66 (cv_X4_271 rfl) (by decide) (gd_k gd_18) (by decide) hcn_1 (gd_lt (j := 0) W gd_18 rfl) rfl rfl (Nat.le_of_ble_eq_true rfl) ?_
      have hT2 := gs_fl (t := a) (v := -1) hT
      refine ra_0 oX4_felled_69 ?_
      refine rr_gr (v := 18) oX4_felled_70 (ff_X4_25 rfl) kk_0 (wd_lt W rfl) ⟨by decide, rfl⟩ (wd_r W rfl rfl) ?_
      refine rr_cVm (c_X1_lookAround l W gd_18 hT2.1 (hr_xy (hr_fl hr c3))) oX4_felled_73 (cv_X4_113 rfl) (by decide) (gd_k gd_18) (by decide) hcn_1 (gd_lt (j := 0) W gd_18 rfl) rfl rfl (Nat.le_of_ble_eq_true rfl) (fun M hM => ?_)
      have hB := la_gl hM hT2
      have hA3 : gl_T M 2 (z_G S) (b_dr (z_B S)) (b_sh (z_B S)) := gl_ce hA2 (fun j hj => by rw [hM.2 _ (by omega), up_I_ne (by omega), up_I_ne (by omega)])
      refine ra_0 oX4_felled_76 ?_
      refine rr_gr (v := 18) oX4_felled_77 (ff_X4_25 rfl) kk_0 (wd_lt W rfl) ⟨by decide, rfl⟩ (wd_r W rfl rfl) ?_
      refine rr_cVi (c_X1_countRight l W gd_18 hB) oX4_felled_80 (cv_X4_252 rfl) (by decide) (gd_k gd_18) (by decide) hcn_1 (gd_lt (j := 0) W gd_18 rfl) rfl rfl (Nat.le_of_ble_eq_true rfl) ?_
      refine ra_0 oX4_felled_83 ?_
      refine rr_gr (v := 2) oX4_felled_84 (ff_X4_18 rfl) kk_0 (wd_lt W rfl) ⟨by decide, rfl⟩ (wd_r W rfl rfl) ?_
      refine rr_cVi (c_X1_countRight l W gd_2 hA3) oX4_felled_87 (cv_X4_252 rfl) (by decide) (gd_k gd_2) (by decide) hcn_1 (gd_lt (j := 0) W gd_2 rfl) rfl rfl (Nat.le_of_ble_eq_true rfl) ?_
      refine rr_isub oX4_felled_90 ?_
      exact rr_ireturn oX4_felled_91 rfl rfl (q_C_an hC (ce_tr he (fun b q1 q2 q3 => by rw [hM.2 b (by omega), up_I_ne (by omega), up_I_ne (by omega)]; exact hK.2.2.2 b (by omega))) (by rw [f_felled, if_neg (fun q => q c), if_neg c2, exa]) rfl)
    · refine ra_0 oX4_felled_32 ?_
      refine rr_bipush (v := (-2)) oX4_felled_33 (by decide) ?_
      refine rr_cVi (c_X4_refuse l W (c := 2) (by decide) (by decide)) oX4_felled_35 (cv_X4_55 rfl) (by decide) kk_0 (by decide) hcn_4 (wd_lt W rfl) rfl rfl (Nat.le_of_ble_eq_true rfl) ?_
      refine rr_sipush (v := 1000) oX4_felled_38 (by decide) ?_
      refine rr_isub oX4_felled_41 ?_
      exact rr_ireturn oX4_felled_42 rfl rfl (q_C_ok (by rw [f_felled, if_neg (fun q => q c), if_pos c1.2]) rfl (CR_no hC (by decide)) (fun a ha => ⟨up_I_ne (by omega), rfl⟩))
  · refine ra_0 oX4_felled_11 ?_
    refine rk_m1 oX4_felled_12 ?_
    refine rr_cVi (c_X4_refuse l W (c := 1) (by decide) (by decide)) oX4_felled_13 (cv_X4_55 rfl) (by decide) kk_0 (by decide) hcn_4 (wd_lt W rfl) rfl rfl (Nat.le_of_ble_eq_true rfl) ?_
    refine rr_sipush (v := 1000) oX4_felled_16 (by decide) ?_
    refine rr_isub oX4_felled_19 ?_
    exact rr_ireturn oX4_felled_20 rfl rfl (q_C_ok (by rw [f_felled, if_pos c]) rfl (CR_no hC (by decide)) (fun a ha => ⟨up_I_ne (by omega), rfl⟩))
theorem lp_X4_night (l : Launch) {I : Nat → Nat → Int32} {L : Nat → Nat → Int64} {Rf : Nat → Nat → Option Nat} {n : Nat} {S : sg_T} (W : wd_T Rf n) (hC : CR_T I L S) {r : Int32} : ∀ m (J : Nat → Nat → Int32) t acc dr, t + m = 8 → gl_T J 18 (z_G S) dr (b_sh (z_B S)) → ce_T I J → wm_W l mX4_night 7 0 0 46 [vv_A (some 0), vv_I r, vv_I (st_S (p_h (z_G S))), vv_I acc, vv_I (nI t)] [] (J, L, Rf, n) (q_C (bs_N (fun i => p_h (z_G S) i && (st_S (p_ri (z_G S) (fun q => b_dr (z_B S) q ^^ decide (q = i)) (b_sh (z_B S))) == r)) m t acc) S I L Rf n) := by
  intro m
  induction m with
  | zero =>
    intro J t acc dr ht hB he
    refine ri_4 oX4_night_46 ?_
    refine rr_bipush (v := 8) oX4_night_48 (by decide) ?_
    refine rr_icmp_ge (tgt := 107) oX4_night_50 (by decide) (fun c => ?_) (fun c => ?_)
    rotate_left
    · exact absurd c (by rw [show (8 : Int32) = nI 8 from rfl, nI_le_iff (by omega) (by omega)]; omega)
    refine ri_3 oX4_night_107 ?_
    exact rr_ireturn oX4_night_108 rfl rfl (q_C_ce hC he rfl)
  | succ m ih =>
    intro J t acc dr ht hB he
    refine ri_4 oX4_night_46 ?_
    refine rr_bipush (v := 8) oX4_night_48 (by decide) ?_
    refine rr_icmp_ge (tgt := 107) oX4_night_50 (by decide) (fun c => ?_) (fun c => ?_)
    · (rw [show (8 : Int32) = nI 8 from rfl, nI_le_iff (by omega) (by omega)] at c; omega)
    refine ra_0 oX4_night_53 ?_
    refine rr_gr (v := 18) oX4_night_54 (ff_X4_25 rfl) kk_0 (wd_lt W rfl) ⟨by decide, rfl⟩ (wd_r W rfl rfl) ?_
    refine ra_0 oX4_night_57 ?_
    refine rr_gr (v := 2) oX4_night_58 (ff_X4_18 rfl) kk_0 (wd_lt W rfl) ⟨by decide, rfl⟩ (wd_r W rfl rfl) ?_
    refine rr_giv oX4_night_61 (ff_X4_170 rfl) (gd_k gd_2) (gd_lt (j := 0) W gd_2 rfl) ⟨by decide, rfl⟩ (show _ = st_S (b_dr (z_B S)) from by rw [he 2 (by omega) (by omega) (by omega)]; exact hC.1.1.2.1) ?_
    refine ri_4 oX4_night_64 ?_
    refine rr_cSi (c_X4_bit l) oX4_night_66 (cs_X4_191 rfl) (by decide) rfl rfl (Nat.le_of_ble_eq_true rfl) ?_
    refine rr_ixor oX4_night_69 ?_
    refine rr_pi oX4_night_70 (ff_X4_170 rfl) (gd_k gd_18) (gd_lt (j := 0) W gd_18 rfl) ⟨by decide, rfl, by decide⟩ pf_1_3 ⟨rfl, rfl⟩ ?_
    have hB2 : gl_T (up_I J 18 3 (st_S (b_dr (z_B S)) ^^^ (1 : Int32) <<< (nI t &&& 31))) 18 (z_G S) (fun q => b_dr (z_B S) q ^^ decide (q = t)) (b_sh (z_B S)) :=
      ⟨⟨gv_keep hB.1.1 (by rw [up_I_at_ne (by omega)]) (by rw [up_I_at_ne (by omega)]) (by rw [up_I_at_ne (by omega)]) (fun j q1 q2 => up_I_ne (by omega)), by rw [up_I_at, st_one t (by omega), st_xor], fun j hj => by rw [up_I_ne (by omega)]; exact hB.1.2.2 j hj⟩, fun j hj => by rw [up_I_ne (by omega)]; exact hB.2 j hj⟩
    have he2 : ce_T I (up_I J 18 3 (st_S (b_dr (z_B S)) ^^^ (1 : Int32) <<< (nI t &&& 31))) := fun a q1 q2 q3 => by rw [up_I_ne (by omega)]; exact he a q1 q2 q3
    refine ri_2 oX4_night_73 ?_
    refine ri_4 oX4_night_74 ?_
    refine rr_cSi (c_X4_isIn l) oX4_night_76 (cs_X4_142 rfl) (by decide) rfl rfl (Nat.le_of_ble_eq_true rfl) ?_
    refine rr_ifb_eq (tgt := 101) oX4_night_79 (by decide) (fun c1 => ?_) (fun c1 => ?_)
    · rw [st_in (by omega)] at c1
      refine rn_4 oX4_night_101 rfl rfl ?_
      refine rr_goto (tgt := 46) oX4_night_104 (by decide) ?_
      have h3 := ih _ (t + 1) acc _ (by omega) hB2 he2
      simp only [bs_N]
      rw [if_neg (by simp [c1])]
      exact h3
    · rw [st_in (by omega)] at c1
      refine ra_0 oX4_night_82 ?_
      refine rr_gr (v := 18) oX4_night_83 (ff_X4_25 rfl) kk_0 (wd_lt W rfl) ⟨by decide, rfl⟩ (wd_r W rfl rfl) ?_
      refine rr_cVi (c_X1_rightHouses l W gd_18 hB2) oX4_night_86 (cv_X4_138 rfl) (by decide) (gd_k gd_18) (by decide) hcn_1 (gd_lt (j := 0) W gd_18 rfl) rfl rfl (Nat.le_of_ble_eq_true rfl) ?_
      refine ri_1 oX4_night_89 ?_
      refine rr_icmp_ne (tgt := 101) oX4_night_90 (by decide) (fun c2 => ?_) (fun c2 => ?_)
      · refine rn_4 oX4_night_101 rfl rfl ?_
        refine rr_goto (tgt := 46) oX4_night_104 (by decide) ?_
        have h3 := ih _ (t + 1) acc _ (by omega) hB2 he2
        simp only [bs_N]
        rw [if_neg (by simp [c2])]
        exact h3
      · refine ri_3 oX4_night_93 ?_
        refine ri_4 oX4_night_94 ?_
        refine rr_cSi (c_X4_bit l) oX4_night_96 (cs_X4_191 rfl) (by decide) rfl rfl (Nat.le_of_ble_eq_true rfl) ?_
        refine rr_ior oX4_night_99 ?_
        refine si_3 oX4_night_100 rfl rfl ?_
        refine rn_4 oX4_night_101 rfl rfl ?_
        refine rr_goto (tgt := 46) oX4_night_104 (by decide) ?_
        have h3 := ih _ (t + 1) (acc ||| (1 : Int32) <<< (nI t &&& 31)) _ (by omega) hB2 he2
        simp only [bs_N]
        rw [if_pos (by simp [c1, c2])]
        exact h3
theorem c_X4_night (l : Launch) {I : Nat → Nat → Int32} {L : Nat → Nat → Int64} {Rf : Nat → Nat → Option Nat} {n : Nat} {S : sg_T} (W : wd_T Rf n) (hC : CR_T I L S) (hI : IV_T S) {r : Int32} : wm_C l mX4_night 7 0 0 [vv_A (some 0), vv_I r] (I, L, Rf, n) (q_C (f_night S r).1 (f_night S r).2 I L Rf n) := by
  refine wm_of (by decide) (Nat.le_of_ble_eq_true rfl) rfl ?_
  have hG : gv_T I 2 (z_G S) := hC.1.1.1
  have h8 : g_n (z_G S) ≤ 8 := hI.1.1
  have hr : hr_T (z_G S) := hI.1.2.1
  refine ra_0 oX4_night_0 ?_
  refine rr_gr (v := 2) oX4_night_1 (ff_X4_18 rfl) kk_0 (wd_lt W rfl) ⟨by decide, rfl⟩ (wd_r W rfl rfl) ?_
  refine rr_cVi (c_X1_houses l W gd_2 hG) oX4_night_4 (cv_X4_224 rfl) (by decide) (gd_k gd_2) (by decide) hcn_1 (gd_lt (j := 0) W gd_2 rfl) rfl rfl (Nat.le_of_ble_eq_true rfl) ?_
  refine si_2 oX4_night_7 rfl rfl ?_
  refine ri_1 oX4_night_8 ?_
  refine ri_2 oX4_night_9 ?_
  refine rk_m1 oX4_night_10 ?_
  refine rr_ixor oX4_night_11 ?_
  refine rr_iand oX4_night_12 ?_
  refine rr_if_eq (tgt := 23) oX4_night_13 (by decide) (fun c => ?_) (fun c => ?_)
  · refine ra_0 oX4_night_23 ?_
    refine rr_gr (v := 18) oX4_night_24 (ff_X4_25 rfl) kk_0 (wd_lt W rfl) ⟨by decide, rfl⟩ (wd_r W rfl rfl) ?_
    refine ra_0 oX4_night_27 ?_
    refine rr_gr (v := 2) oX4_night_28 (ff_X4_18 rfl) kk_0 (wd_lt W rfl) ⟨by decide, rfl⟩ (wd_r W rfl rfl) ?_
    refine rr_cVm (c_X1_copyFrom l W gd_18 gd_2 (by omega)) oX4_night_31 (cv_X4_197 rfl) (by decide) (gd_k gd_18) (by decide) hcn_1 (gd_lt (j := 0) W gd_18 rfl) rfl rfl (Nat.le_of_ble_eq_true rfl) (fun K hK => ?_)
    have hT := cf_gs hK hC.1.1
    refine ra_0 oX4_night_34 ?_
    refine rr_gr (v := 18) oX4_night_35 (ff_X4_25 rfl) kk_0 (wd_lt W rfl) ⟨by decide, rfl⟩ (wd_r W rfl rfl) ?_
    refine rr_cVm (c_X1_lookAround l W gd_18 hT.1 (hr_xy hr)) oX4_night_38 (cv_X4_113 rfl) (by decide) (gd_k gd_18) (by decide) hcn_1 (gd_lt (j := 0) W gd_18 rfl) rfl rfl (Nat.le_of_ble_eq_true rfl) (fun M hM => ?_)
    refine rk_0 oX4_night_41 ?_
    refine si_3 oX4_night_42 rfl rfl ?_
    refine rk_0 oX4_night_43 ?_
    refine si_4 oX4_night_44 rfl rfl ?_
    rw [f_night, if_neg (fun q => q c)]
    exact lp_X4_night l W hC 8 M 0 0 (b_dr (z_B S)) rfl (la_gl hM hT) (ce_tr (ce_cf hK) (ce_la18 hM))
  · refine ra_0 oX4_night_16 ?_
    refine rr_bipush (v := (-6)) oX4_night_17 (by decide) ?_
    refine rr_cVi (c_X4_refuse l W (c := 6) (by decide) (by decide)) oX4_night_19 (cv_X4_55 rfl) (by decide) kk_0 (by decide) hcn_4 (wd_lt W rfl) rfl rfl (Nat.le_of_ble_eq_true rfl) ?_
    exact rr_ireturn oX4_night_22 rfl rfl (q_C_noc hC ce_rf (by rw [f_night, if_pos c]) (by decide) (by decide))
theorem lp_X4_shuts (l : Launch) {I0 : Nat → Nat → Int32} {L : Nat → Nat → Int64} {Rf : Nat → Nat → Option Nat} {n : Nat} {S : sg_T} (W : wd_T Rf n) (hC : CR_T I0 L S) (hr : hr_T (z_G S)) {v : Int32} : ∀ m (J : Nat → Nat → Int32) t, t + m = 8 → gl_T J 2 (z_G S) (b_dr (z_B S)) (fun j i => b_sh (z_B S) j i || (decide (j < t) && p_tm (z_G S) (b_dr (z_B S)) (b_sh (z_B S)) j i)) → (∀ a, a ≠ 9 → a ≠ 8 → J a = I0 a) → wm_W l mX4_shuts 7 0 0 34 [vv_A (some 0), vv_I v, vv_I (nI t)] [] (J, L, Rf, n) (q_C v (w_B S (b_ws (z_B S) (fun j i => b_sh (z_B S) j i || (decide (j < 8) && p_tm (z_G S) (b_dr (z_B S)) (b_sh (z_B S)) j i)))) I0 L Rf n) := by
  intro m
  induction m with
  | zero =>
    intro J t ht hA h1
    have hG := hA.1.1
    refine ri_2 oX4_shuts_34 ?_
    refine rr_bipush (v := 8) oX4_shuts_35 (by decide) ?_
    refine rr_icmp_ge (tgt := 66) oX4_shuts_37 (by decide) (fun c => ?_) (fun c => ?_)
    rotate_left
    · exact absurd c (by rw [show (8 : Int32) = nI 8 from rfl, nI_le_iff (by omega) (by omega)]; omega)
    refine ri_1 oX4_shuts_66 ?_
    exact rr_ireturn oX4_shuts_67 rfl rfl (q_C_of rfl (CR_gr hC (B := b_ws (z_B S) (fun j i => b_sh (z_B S) j i || (decide (j < 8) && p_tm (z_G S) (b_dr (z_B S)) (b_sh (z_B S)) j i))) ⟨by rw [show t = 8 by omega] at hA; exact hA.1, by rw [h1 2 (by omega) (by omega)]; exact hC.1.2.1, by rw [h1 2 (by omega) (by omega)]; exact hC.1.2.2⟩ (fun a q1 q2 _ _ => h1 a q1 (by omega))) (fun a ha => ⟨h1 a (by omega) (by omega), rfl⟩))
  | succ m ih =>
    intro J t ht hA h1
    have hG := hA.1.1
    refine ri_2 oX4_shuts_34 ?_
    refine rr_bipush (v := 8) oX4_shuts_35 (by decide) ?_
    refine rr_icmp_ge (tgt := 66) oX4_shuts_37 (by decide) (fun c => ?_) (fun c => ?_)
    · (rw [show (8 : Int32) = nI 8 from rfl, nI_le_iff (by omega) (by omega)] at c; omega)
    refine ra_0 oX4_shuts_40 ?_
    refine rr_gr (v := 2) oX4_shuts_41 (ff_X4_18 rfl) kk_0 (wd_lt W rfl) ⟨by decide, rfl⟩ (wd_r W rfl rfl) ?_
    refine rr_gr oX4_shuts_44 (ff_X4_188 rfl) (gd_k gd_2) (gd_lt (j := 0) W gd_2 rfl) ⟨by decide, rfl⟩ (gd_r W gd_2 11 6 rfl) ?_
    refine ri_2 oX4_shuts_47 ?_
    refine rr_dup2 oX4_shuts_48 rfl rfl ?_
    refine rr_iv oX4_shuts_49 (gd_a gd_2 6 rfl) (gd_lt (j := 6) W gd_2 rfl) rfl (by omega) (by decide) (hA.1.2.2 t (by omega)) ?_
    refine ra_0 oX4_shuts_50 ?_
    refine rr_gr (v := 2) oX4_shuts_51 (ff_X4_18 rfl) kk_0 (wd_lt W rfl) ⟨by decide, rfl⟩ (wd_r W rfl rfl) ?_
    refine ri_2 oX4_shuts_54 ?_
    refine rr_cVi (c_X1_seersTooMany l W gd_2 hA hr (j := t) (by omega)) oX4_shuts_55 (cv_X4_301 rfl) (by decide) (gd_k gd_2) (by decide) hcn_1 (gd_lt (j := 0) W gd_2 rfl) rfl rfl (Nat.le_of_ble_eq_true rfl) ?_
    have ep : p_tm (z_G S) (b_dr (z_B S)) (fun j i => b_sh (z_B S) j i || (decide (j < t) && p_tm (z_G S) (b_dr (z_B S)) (b_sh (z_B S)) j i)) t = p_tm (z_G S) (b_dr (z_B S)) (b_sh (z_B S)) t := p_tm_c (by funext i; simp)
    refine rr_ior oX4_shuts_58 ?_
    rw [st_or]
    refine rr_ist oX4_shuts_59 (gd_a gd_2 6 rfl) (gd_lt (j := 6) W gd_2 rfl) rfl (by omega) (by decide) ?_
    refine rn_2 oX4_shuts_60 rfl rfl ?_
    refine rr_goto (tgt := 34) oX4_shuts_63 (by decide) ?_
    refine ih _ (t + 1) (by omega) ⟨⟨gv_keep hA.1.1 (by rw [up_I_ne (by omega)]) (by rw [up_I_ne (by omega)]) (by rw [up_I_ne (by omega)]) (fun j q1 q2 => up_I_ne (by omega)), by rw [up_I_ne (by omega)]; exact hA.1.2.1, fun j hj => ?_⟩, fun j hj => by rw [up_I_ne (by omega)]; exact hA.2 j hj⟩ (fun a q1 q2 => by rw [up_I_ne q2]; exact h1 a q1 q2)
    rw [up_I_eq]
    by_cases q : j = t
    · subst q
      simp only [upd, if_true]
      exact st_c (fun i _ => by rw [ep]; simp)
    · simp only [upd, if_neg q]
      refine (hA.1.2.2 j hj).trans (st_c (fun i _ => ?_))
      have e1 : (j < t + 1) ↔ (j < t) := by omega
      simp only [e1]
theorem c_X4_shuts (l : Launch) {I : Nat → Nat → Int32} {L : Nat → Nat → Int64} {Rf : Nat → Nat → Option Nat} {n : Nat} {S : sg_T} (W : wd_T Rf n) (hC : CR_T I L S) (hI : IV_T S) : wm_C l mX4_shuts 7 0 0 [vv_A (some 0)] (I, L, Rf, n) (q_C (f_shuts S).1 (f_shuts S).2 I L Rf n) := by
  refine wm_of (by decide) (Nat.le_of_ble_eq_true rfl) rfl ?_
  have hG : gv_T I 2 (z_G S) := hC.1.1.1
  have h8 : g_n (z_G S) ≤ 8 := hI.1.1
  have hr : hr_T (z_G S) := hI.1.2.1
  refine ra_0 oX4_shuts_0 ?_
  refine rr_gr (v := 2) oX4_shuts_1 (ff_X4_18 rfl) kk_0 (wd_lt W rfl) ⟨by decide, rfl⟩ (wd_r W rfl rfl) ?_
  refine rr_cVm (c_X1_lookAround l W gd_2 hG (hr_xy hr)) oX4_shuts_4 (cv_X4_113 rfl) (by decide) (gd_k gd_2) (by decide) hcn_1 (gd_lt (j := 0) W gd_2 rfl) rfl rfl (Nat.le_of_ble_eq_true rfl) (fun J hJ => ?_)
  have hA : gl_T J 2 (z_G S) (b_dr (z_B S)) (b_sh (z_B S)) := la_gl hJ hC.1.1
  have he : ce_T I J := ce_la hJ
  have hG := hA.1.1
  refine ra_0 oX4_shuts_7 ?_
  refine rr_gr (v := 2) oX4_shuts_8 (ff_X4_18 rfl) kk_0 (wd_lt W rfl) ⟨by decide, rfl⟩ (wd_r W rfl rfl) ?_
  refine rr_cVi (c_X1_hopelessHouses l W gd_2 hA) oX4_shuts_11 (cv_X4_236 rfl) (by decide) (gd_k gd_2) (by decide) hcn_1 (gd_lt (j := 0) W gd_2 rfl) rfl rfl (Nat.le_of_ble_eq_true rfl) ?_
  refine rr_if_eq (tgt := 24) oX4_shuts_14 (by decide) (fun c => ?_) (fun c => ?_)
  · refine ra_0 oX4_shuts_24 ?_
    refine rr_gr (v := 2) oX4_shuts_25 (ff_X4_18 rfl) kk_0 (wd_lt W rfl) ⟨by decide, rfl⟩ (wd_r W rfl rfl) ?_
    refine rr_cVi (c_X1_cheapestCost l W gd_2 hA hr) oX4_shuts_28 (cv_X4_233 rfl) (by decide) (gd_k gd_2) (by decide) hcn_1 (gd_lt (j := 0) W gd_2 rfl) rfl rfl (Nat.le_of_ble_eq_true rfl) ?_
    refine si_1 oX4_shuts_31 rfl rfl ?_
    refine rk_0 oX4_shuts_32 ?_
    refine si_2 oX4_shuts_33 rfl rfl ?_
    rw [f_shuts, if_neg (fun q => q (show s_chop S = 0 from c))]
    refine lp_X4_shuts l W hC hr 8 J 0 rfl ⟨⟨hA.1.1, hA.1.2.1, fun j hj => (hA.1.2.2 j hj).trans (st_c fun i _ => by simp)⟩, hA.2⟩ (fun a q1 _ => hJ.2 a q1)
  · refine ra_0 oX4_shuts_17 ?_
    refine rr_bipush (v := (-6)) oX4_shuts_18 (by decide) ?_
    refine rr_cVi (c_X4_refuse l W (c := 6) (by decide) (by decide)) oX4_shuts_20 (cv_X4_55 rfl) (by decide) kk_0 (by decide) hcn_4 (wd_lt W rfl) rfl rfl (Nat.le_of_ble_eq_true rfl) ?_
    exact rr_ireturn oX4_shuts_23 rfl rfl (q_C_noc hC he (by rw [f_shuts, if_pos (show ¬ s_chop S = 0 from c)]) (by decide) (by decide))
