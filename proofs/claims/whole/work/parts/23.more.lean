/-! SeenByOne: opens, image, restore, years, pairs, back, most, storeys, fellings, shuts, night (by program: wip/whole/c23.py) -/
theorem CR_ground {I : Nat → Nat → Int32} {L : Nat → Nat → Int64} {S : sg_T} (h : CR_T I L S) : cg_T I 2 (z_B S) := h.1
theorem w_B_2 {S : sg_T} {B C : gb_T} : w_B (w_B S B) C = w_B S C := rfl
def f_image (S : sg_T) : an_T := (nI (g_n (z_G S)), w_im S (true, z_B S))
theorem cf_cg {I J : Nat → Nat → Int32} {d s : Nat} {B : gb_T} (h : cf_T I J d s) (hs : cg_T I s B) : cg_T J d B := ⟨cf_gs h hs.1, by rw [h.1 4 (by omega)]; exact hs.2.1, by rw [h.1 5 (by omega)]; exact hs.2.2⟩
theorem CR_image {I J : Nat → Nat → Int32} {L : Nat → Nat → Int64} {S : sg_T} (h : CR_T I L S) (hJ : cf_T I J 10 2) : CR_T (up_I J 0 7 1) L (w_im S (true, z_B S)) := by
  have hi : cg_T J 10 (z_B S) := cf_cg hJ h.1
  obtain ⟨h1, h2, h3, h4, h5, h6, h7, h8⟩ := h
  have ne : ∀ a, a ≠ 0 → (a < 10 ∨ 17 < a) → up_I J 0 7 1 a = I a := fun a ha hb => by rw [up_I_ne ha]; exact hJ.2.2.2 a (by omega)
  refine ⟨cg_ce h1 (fun j hj => ne _ (by omega) (by omega)), by rw [up_I_at]; rfl, fun _ => cg_ce hi (fun j hj => up_I_ne (by omega)), fun k hk => ?_, ?_, fun s hs => ?_, fun k hk => ?_, ?_⟩
  · rw [ne 28 (by omega) (by omega)]; exact h4 k hk
  · rw [up_I_at_ne (by omega), hJ.2.2.2 0 (by omega)]; exact h5
  · rw [ne (30 + 2 * s) (by omega) (by omega)]; exact h6 s hs
  · rw [ne 27 (by omega) (by omega)]; exact h7 k hk
  · rw [ne 26 (by omega) (by omega)]; exact h8
def rs_hd (m : Nat) (h : Int32) : Int32 := if (0 ≤ h ∧ h < 8) ∧ ¬ (0 ≤ h ∧ h < nI m) then -1 else h
def f_restore (S : sg_T) : an_T := if ¬ (z_im S).1 = true then f_no S (-6) else (nI (g_n (b_G (z_im S).2)), w_hd (w_B S (z_im S).2) (fun s => rs_hd (g_n (b_G (z_im S).2)) (z_hd S s)))
/-- a year -/
def s_year (B : gb_T) : gb_T :=
  (g_ws (g_wh (b_G B) (yr_N (g_k (b_G B)) (g_n (b_G B)) 0 (g_h (b_G B)) (b_sd B)).1) (1 - g_s (b_G B)), b_dr B, b_sh B,
   b_fi B + nI (cn_8 (fun i => p_h (b_G B) i && !p_ri (g_ws (g_wh (b_G B) (yr_N (g_k (b_G B)) (g_n (b_G B)) 0 (g_h (b_G B)) (b_sd B)).1) (1 - g_s (b_G B))) (b_dr B) (b_sh B) i)), (yr_N (g_k (b_G B)) (g_n (b_G B)) 0 (g_h (b_G B)) (b_sd B)).2)
def it_Y : Nat → gb_T → gb_T
  | 0, B => B
  | m + 1, B => it_Y m (s_year B)
def f_years (S : sg_T) (w : Int32) : an_T := if w < 1 ∨ 30 < w then f_no S (-6) else (b_fi (it_Y (ix_N w) (z_B S)) - b_fi (z_B S), w_B S (it_Y (ix_N w) (z_B S)))
theorem gs_wh {I : Nat → Nat → Int32} {g t : Nat} {G : gr_T} {dr : Nat → Bool} {sh : Nat → Nat → Bool} {v : Int32} (h : gs_T I g G dr sh) : gs_T (up_I I (g + 4) t v) g (g_wh G (upd (g_h G) t v)) dr sh :=
  (cg_wh (B := (G, dr, sh, I g 4, I g 5)) ⟨h, rfl, rfl⟩).1
def g_fl (G : gr_T) (t : Nat) (v : Int32) : gr_T := (g_n G, g_k G, upd (g_x G) t v, upd (g_y G) t v, g_h G, g_a G, g_s G, g_f G)
theorem gs_fl {I : Nat → Nat → Int32} {g t : Nat} {G : gr_T} {dr : Nat → Bool} {sh : Nat → Nat → Bool} {v : Int32} (h : gs_T I g G dr sh) : gs_T (up_I (up_I I (g + 2) t v) (g + 3) t v) g (g_fl G t v) dr sh := by
  obtain ⟨⟨g1, g2, g3, g4, g5⟩, g6, g7⟩ := h
  have ne : ∀ a, a ≠ g + 2 → a ≠ g + 3 → up_I (up_I I (g + 2) t v) (g + 3) t v a = I a := fun a ha hb => by rw [up_I_ne hb, up_I_ne ha]
  refine ⟨⟨g1, by rw [ne g (by omega) (by omega)]; exact g2, by rw [ne g (by omega) (by omega)]; exact g3, by rw [ne g (by omega) (by omega)]; exact g4, fun u hu => ?_⟩, by rw [ne g (by omega) (by omega)]; exact g6, fun j hj => by rw [ne _ (by omega) (by omega)]; exact g7 j hj⟩
  have e := g5 u hu
  rw [ne (g + 1) (by omega) (by omega), ne (g + 4) (by omega) (by omega), ne (g + 5) (by omega) (by omega), up_I_eq, up_I_ne (show g + 2 ≠ g + 3 by omega), up_I_eq, up_I_ne (show g + 3 ≠ g + 2 by omega)]
  refine ⟨e.1, ?_, ?_, e.2.2.2.1, e.2.2.2.2⟩
  · show upd (I (g + 2)) t v u = upd (g_x G) t v u
    by_cases q : u = t
    · simp [upd, q]
    · simp only [upd, if_neg q]; exact e.2.1
  · show upd (I (g + 3)) t v u = upd (g_y G) t v u
    by_cases q : u = t
    · simp [upd, q]
    · simp only [upd, if_neg q]; exact e.2.2.1
theorem hr_fl {G : gr_T} {t : Nat} {v : Int32} (hr : hr_T G) (h : ¬ is_H (g_k G t)) : hr_T (g_fl G t v) := by
  intro u hu hh
  have hu2 : u < g_n G := hu
  have hh2 : is_H (g_k G u) := hh
  have ne : u ≠ t := fun e => h (e ▸ hh2)
  obtain ⟨⟨p, q, h1, h2, h3, h4⟩, h5⟩ := hr u hu2 hh2
  exact ⟨⟨p, q, h1, h2, (if_neg ne).trans h3, (if_neg ne).trans h4⟩, h5⟩
theorem gl_ce {I J : Nat → Nat → Int32} {g : Nat} {G : gr_T} {dr : Nat → Bool} {sh : Nat → Nat → Bool} (h : gl_T I g G dr sh) (he : ∀ j, j ≤ 7 → J (g + j) = I (g + j)) : gl_T J g G dr sh :=
  ⟨gs_ce h.1 (fun j hj => he j (by omega)), fun j hj => by rw [he 7 (by omega)]; exact h.2 j hj⟩
def g_st (G : gr_T) (t : Nat) : gr_T := g_wh G (upd (g_h G) t (g_h G t + 1))
def f_storey (S : sg_T) (t : Int32) : an_T := if ¬ s_lst S t = 0 then (s_lst S t - 1000, w_no S (no_c (s_lst S t))) else (nI (cn_8 (p_ri (g_st (z_G S) (ix_N t)) (b_dr (z_B S)) (b_sh (z_B S)))) - nI (cn_8 (q_ri S)), S)
def f_blinded (S : sg_T) (t : Int32) : an_T := if ¬ s_lst S t = 0 then f_no S (s_lst S t) else (sm_N (fun j => nI (cn_8 (fun i => q_se S j i && !p_se (g_st (z_G S) (ix_N t)) (b_dr (z_B S)) (b_sh (z_B S)) j i))) 8 0 0, S)
def f_felled (S : sg_T) (t : Int32) : an_T := if ¬ rn_T S t then (-1 - 1000, w_no S 1) else if hs_T S t then (-2 - 1000, w_no S 2) else (nI (cn_8 (p_ri (g_fl (z_G S) (ix_N t) (-1)) (b_dr (z_B S)) (b_sh (z_B S)))) - nI (cn_8 (q_ri S)), S)
def f_shuts (S : sg_T) : an_T := if ¬ s_chop S = 0 then f_no S (-6) else (s_ccost S, w_B S (b_ws (z_B S) (fun j i => b_sh (z_B S) j i || (decide (j < 8) && p_tm (z_G S) (b_dr (z_B S)) (b_sh (z_B S)) j i))))
def f_night (S : sg_T) (r : Int32) : an_T := if ¬ r &&& (st_S (p_h (z_G S)) ^^^ (-1)) = 0 then f_no S (-6) else (bs_N (fun i => p_h (z_G S) i && (st_S (p_ri (z_G S) (fun q => b_dr (z_B S) q ^^ decide (q = i)) (b_sh (z_B S))) == r)) 8 0 0, S)
theorem p_tm_c {G : gr_T} {dr : Nat → Bool} {s1 s2 : Nat → Nat → Bool} {j : Nat} (h : s1 j = s2 j) : p_tm G dr s1 j = p_tm G dr s2 j := by
  have e1 : p_sr G dr s1 j = p_sr G dr s2 j := by funext i; simp only [p_sr, p_se, h]
  have e2 : p_kp G dr s1 j = p_kp G dr s2 j := by funext i; simp only [p_kp, e1]
  funext i
  simp only [p_tm, s_kept, e1, e2]
theorem lp_X4_opens (l : Launch) {I0 : Nat → Nat → Int32} {L : Nat → Nat → Int64} {Rf : Nat → Nat → Option Nat} {n : Nat} (W : wd_T Rf n) {v : Int32} {Q : Option vv_T → mx_T → Prop} (kk : ∀ J : Nat → Nat → Int32, (∀ j, j < 8 → J 8 j = 0) → (∀ a, a ≠ 8 → J a = I0 a) → wm_W l mX4_opens 3 0 0 43 [vv_A (some 0), vv_I v, vv_I (nI 8)] [] (J, L, Rf, n) Q) : ∀ m (I : Nat → Nat → Int32) t, t + m = 8 → (∀ j, j < t → I 8 j = 0) → (∀ a, a ≠ 8 → I a = I0 a) → wm_W l mX4_opens 3 0 0 21 [vv_A (some 0), vv_I v, vv_I (nI t)] [] (I, L, Rf, n) Q := by
  intro m
  induction m with
  | zero =>
    intro I t ht h1 h2
    refine ri_2 oX4_opens_21 ?_
    refine rr_bipush (v := 8) oX4_opens_22 (by decide) ?_
    refine rr_icmp_ge (tgt := 43) oX4_opens_24 (by decide) (fun c => ?_) (fun c => ?_)
    rotate_left
    · exact absurd c (by rw [show (8 : Int32) = nI 8 from rfl, nI_le_iff (by omega) (by omega)]; omega)
    rw [show t = 8 by omega]
    exact kk I (fun j hj => h1 j (by omega)) h2
  | succ m ih =>
    intro I t ht h1 h2
    refine ri_2 oX4_opens_21 ?_
    refine rr_bipush (v := 8) oX4_opens_22 (by decide) ?_
    refine rr_icmp_ge (tgt := 43) oX4_opens_24 (by decide) (fun c => ?_) (fun c => ?_)
    · (rw [show (8 : Int32) = nI 8 from rfl, nI_le_iff (by omega) (by omega)] at c; omega)
    refine ra_0 oX4_opens_27 ?_
    refine rr_gr (v := 2) oX4_opens_28 (ff_X4_18 rfl) kk_0 (wd_lt W rfl) ⟨by decide, rfl⟩ (wd_r W rfl rfl) ?_
    refine rr_gr oX4_opens_31 (ff_X4_188 rfl) (gd_k gd_2) (gd_lt (j := 0) W gd_2 rfl) ⟨by decide, rfl⟩ (gd_r W gd_2 11 6 rfl) ?_
    refine ri_2 oX4_opens_34 ?_
    refine rk_0 oX4_opens_35 ?_
    refine rr_ist oX4_opens_36 (gd_a gd_2 6 rfl) (gd_lt (j := 6) W gd_2 rfl) rfl (by omega) (by decide) ?_
    refine rn_2 oX4_opens_37 rfl rfl ?_
    refine rr_goto (tgt := 21) oX4_opens_40 (by decide) ?_
    refine ih _ (t + 1) (by omega) (fun j hj => ?_) (fun a ha => ?_)
    · rw [up_I_eq]
      by_cases q : j = t
      · exact if_pos q
      · exact (if_neg q).trans (h1 j (by omega))
    · rw [up_I_ne ha]; exact h2 a ha
theorem c_X4_opens (l : Launch) {I : Nat → Nat → Int32} {L : Nat → Nat → Int64} {Rf : Nat → Nat → Option Nat} {n : Nat} {S : sg_T} (W : wd_T Rf n) (hC : CR_T I L S) (hI : IV_T S) : wm_C l mX4_opens 3 0 0 [vv_A (some 0)] (I, L, Rf, n) (q_C (f_opens S).1 (f_opens S).2 I L Rf n) := by
  refine wm_of (by decide) (Nat.le_of_ble_eq_true rfl) rfl ?_
  have hG : gv_T I 2 (z_G S) := hC.1.1.1
  have h8 : g_n (z_G S) ≤ 8 := hI.1.1
  have hr : hr_T (z_G S) := hI.1.2.1
  refine ra_0 oX4_opens_0 ?_
  refine rr_gr (v := 2) oX4_opens_1 (ff_X4_18 rfl) kk_0 (wd_lt W rfl) ⟨by decide, rfl⟩ (wd_r W rfl rfl) ?_
  refine rr_cVi (c_X1_countShutters l W gd_2 hC.1.1.2.2) oX4_opens_4 (cv_X4_304 rfl) (by decide) (gd_k gd_2) (by decide) hcn_1 (gd_lt (j := 0) W gd_2 rfl) rfl rfl (Nat.le_of_ble_eq_true rfl) ?_
  refine ra_0 oX4_opens_7 ?_
  refine rr_gr (v := 2) oX4_opens_8 (ff_X4_18 rfl) kk_0 (wd_lt W rfl) ⟨by decide, rfl⟩ (wd_r W rfl rfl) ?_
  refine rr_giv oX4_opens_11 (ff_X4_170 rfl) (gd_k gd_2) (gd_lt (j := 0) W gd_2 rfl) ⟨by decide, rfl⟩ hC.1.1.2.1 ?_
  refine rr_cSi (c_J6_bitCount_0f7a4 l) oX4_opens_14 (cs_X4_122 rfl) (by decide) rfl rfl (Nat.le_of_ble_eq_true rfl) ?_
  rw [bc_st]
  refine rr_iadd oX4_opens_17 ?_
  refine si_1 oX4_opens_18 rfl rfl ?_
  refine rk_0 oX4_opens_19 ?_
  refine si_2 oX4_opens_20 rfl rfl ?_
  refine lp_X4_opens l W (I0 := I) (fun J h1 h2 => ?_) 8 I 0 rfl (fun j hj => absurd hj (by omega)) (fun _ _ => rfl)
  refine ra_0 oX4_opens_43 ?_
  refine rr_gr (v := 2) oX4_opens_44 (ff_X4_18 rfl) kk_0 (wd_lt W rfl) ⟨by decide, rfl⟩ (wd_r W rfl rfl) ?_
  refine rk_0 oX4_opens_47 ?_
  refine rr_pi oX4_opens_48 (ff_X4_170 rfl) (gd_k gd_2) (gd_lt (j := 0) W gd_2 rfl) ⟨by decide, rfl, by decide⟩ pf_1_3 ⟨rfl, rfl⟩ ?_
  refine ri_1 oX4_opens_51 ?_
  exact rr_ireturn oX4_opens_52 rfl rfl (q_C_gr hC (B := (z_G S, fun _ => false, fun _ _ => false, b_fi (z_B S), b_sd (z_B S))) ⟨⟨gv_keep hG (by rw [up_I_at_ne (by omega), h2 2 (by omega)]) (by rw [up_I_at_ne (by omega), h2 2 (by omega)]) (by rw [up_I_at_ne (by omega), h2 2 (by omega)]) (fun j q1 q2 => by rw [up_I_ne (by omega), h2 _ (by omega)]), by rw [up_I_at]; exact st_0.symm, fun j hj => by rw [up_I_ne (by omega)]; exact (h1 j hj).trans st_0.symm⟩, by rw [up_I_at_ne (by omega), h2 2 (by omega)]; exact hC.1.2.1, by rw [up_I_at_ne (by omega), h2 2 (by omega)]; exact hC.1.2.2⟩ (fun a _ q2 _ _ => by rw [up_I_ne (by omega)]; exact h2 a (by omega)) rfl rfl)
theorem c_X4_image (l : Launch) {I : Nat → Nat → Int32} {L : Nat → Nat → Int64} {Rf : Nat → Nat → Option Nat} {n : Nat} {S : sg_T} (W : wd_T Rf n) (hC : CR_T I L S) (hI : IV_T S) : wm_C l mX4_image 3 0 0 [vv_A (some 0)] (I, L, Rf, n) (q_C (f_image S).1 (f_image S).2 I L Rf n) := by
  refine wm_of (by decide) (Nat.le_of_ble_eq_true rfl) rfl ?_
  have hG : gv_T I 2 (z_G S) := hC.1.1.1
  have h8 : g_n (z_G S) ≤ 8 := hI.1.1
  have hr : hr_T (z_G S) := hI.1.2.1
  refine ra_0 oX4_image_0 ?_
  refine rr_gr (v := 10) oX4_image_1 (ff_X4_22 rfl) kk_0 (wd_lt W rfl) ⟨by decide, rfl⟩ (wd_r W rfl rfl) ?_
  refine ra_0 oX4_image_4 ?_
  refine rr_gr (v := 2) oX4_image_5 (ff_X4_18 rfl) kk_0 (wd_lt W rfl) ⟨by decide, rfl⟩ (wd_r W rfl rfl) ?_
  refine rr_cVm (c_X1_copyFrom l W gd_10 gd_2 (by omega)) oX4_image_8 (cv_X4_197 rfl) (by decide) (gd_k gd_10) (by decide) hcn_1 (gd_lt (j := 0) W gd_10 rfl) rfl rfl (Nat.le_of_ble_eq_true rfl) (fun J hJ => ?_)
  refine ra_0 oX4_image_11 ?_
  refine rk_1 oX4_image_12 ?_
  refine rr_pi oX4_image_13 (ff_X4_42 rfl) kk_0 (wd_lt W rfl) ⟨by decide, rfl, by decide⟩ pf_4_7 ⟨rfl, rfl⟩ ?_
  refine ra_0 oX4_image_16 ?_
  refine rr_gr (v := 2) oX4_image_17 (ff_X4_18 rfl) kk_0 (wd_lt W rfl) ⟨by decide, rfl⟩ (wd_r W rfl rfl) ?_
  refine rr_giv oX4_image_20 (ff_X4_280 rfl) (gd_k gd_2) (gd_lt (j := 0) W gd_2 rfl) ⟨by decide, rfl⟩ (show _ = nI (g_n (z_G S)) from by rw [up_I_ne (by omega), hJ.2.2.2 2 (by omega)]; exact CR_n hC) ?_
  exact rr_ireturn oX4_image_23 rfl rfl (q_C_ok rfl rfl (CR_image hC hJ) (fun a ha => ⟨by rw [up_I_ne (by omega)]; exact hJ.2.2.2 a (by omega), rfl⟩))
theorem lp_X4_years (l : Launch) {L : Nat → Nat → Int64} {Rf : Nat → Nat → Option Nat} {n : Nat} {I0 : Nat → Nat → Int32} (W : wd_T Rf n) {k : Nat} (hk : k ≤ 30) {f0 : Int32} : ∀ m (I : Nat → Nat → Int32) (S : sg_T) t, t + m = k → CR_T I L S → hr_T (z_G S) → (∀ a, 46 ≤ a → I a = I0 a) → wm_W l mX4_years 8 0 0 28 [vv_A (some 0), vv_I (nI k), vv_I f0, vv_I (nI t)] [] (I, L, Rf, n) (q_C (b_fi (it_Y m (z_B S)) - f0) (w_B S (it_Y m (z_B S))) I0 L Rf n) := by
  intro m
  induction m with
  | zero =>
    intro I S t ht hC hr h1
    refine ri_3 oX4_years_28 ?_
    refine ri_1 oX4_years_29 ?_
    refine rr_icmp_ge (tgt := 46) oX4_years_30 (by decide) (fun c => ?_) (fun c => ?_)
    rotate_left
    · exact absurd c (by rw [nI_le_iff (by omega) (by omega)]; omega)
    refine ra_0 oX4_years_46 ?_
    refine rr_gr (v := 2) oX4_years_47 (ff_X4_18 rfl) kk_0 (wd_lt W rfl) ⟨by decide, rfl⟩ (wd_r W rfl rfl) ?_
    refine rr_giv oX4_years_50 (ff_X4_307 rfl) (gd_k gd_2) (gd_lt (j := 0) W gd_2 rfl) ⟨by decide, rfl⟩ hC.1.2.1 ?_
    refine ri_2 oX4_years_53 ?_
    refine rr_isub oX4_years_54 ?_
    exact rr_ireturn oX4_years_55 rfl rfl (q_C_of rfl hC (fun a ha => ⟨h1 a ha, rfl⟩))
  | succ m ih =>
    intro I S t ht hC hr h1
    refine ri_3 oX4_years_28 ?_
    refine ri_1 oX4_years_29 ?_
    refine rr_icmp_ge (tgt := 46) oX4_years_30 (by decide) (fun c => ?_) (fun c => ?_)
    · (rw [nI_le_iff (by omega) (by omega)] at c; omega)
    refine ra_0 oX4_years_33 ?_
    refine rr_gr (v := 2) oX4_years_34 (ff_X4_18 rfl) kk_0 (wd_lt W rfl) ⟨by decide, rfl⟩ (wd_r W rfl rfl) ?_
    refine rr_cVm (c_X1_passYear l W gd_2 hC.1.1 hr) oX4_years_37 (cv_X4_310 rfl) (by decide) (gd_k gd_2) (by decide) hcn_1 (gd_lt (j := 0) W gd_2 rfl) rfl rfl (Nat.le_of_ble_eq_true rfl) (fun J hJ => ?_)
    refine rn_3 oX4_years_40 rfl rfl ?_
    refine rr_goto (tgt := 28) oX4_years_43 (by decide) ?_
    obtain ⟨p1, p2, p3, p4⟩ := hJ
    rw [hC.1.2.2] at p1 p2 p3
    exact ih J (w_B S (s_year (z_B S))) (t + 1) (by omega) (CR_gr hC ⟨p1.1, by rw [p3, hC.1.2.1]; rfl, p2⟩ (fun a q1 q2 _ _ => p4 a (by omega))) hr (fun a ha => (p4 a (by omega)).trans (h1 a ha))
theorem c_X4_years (l : Launch) {I : Nat → Nat → Int32} {L : Nat → Nat → Int64} {Rf : Nat → Nat → Option Nat} {n : Nat} {S : sg_T} (W : wd_T Rf n) (hC : CR_T I L S) (hI : IV_T S) {w : Int32} : wm_C l mX4_years 8 0 0 [vv_A (some 0), vv_I w] (I, L, Rf, n) (q_C (f_years S w).1 (f_years S w).2 I L Rf n) := by
  refine wm_of (by decide) (Nat.le_of_ble_eq_true rfl) rfl ?_
  have hG : gv_T I 2 (z_G S) := hC.1.1.1
  have h8 : g_n (z_G S) ≤ 8 := hI.1.1
  have hr : hr_T (z_G S) := hI.1.2.1
  refine ri_1 oX4_years_0 ?_
  refine rk_1 oX4_years_1 ?_
  refine rr_icmp_lt (tgt := 11) oX4_years_2 (by decide) (fun c => ?_) (fun c => ?_)
  · refine ra_0 oX4_years_11 ?_
    refine rr_bipush (v := (-6)) oX4_years_12 (by decide) ?_
    refine rr_cVi (c_X4_refuse l W (c := 6) (by decide) (by decide)) oX4_years_14 (cv_X4_55 rfl) (by decide) kk_0 (by decide) hcn_4 (wd_lt W rfl) rfl rfl (Nat.le_of_ble_eq_true rfl) ?_
    exact rr_ireturn oX4_years_17 rfl rfl (q_C_noc hC ce_rf (by rw [f_years, if_pos (Or.inl c)]) (by decide) (by decide))
  · refine ri_1 oX4_years_5 ?_
    refine rr_bipush (v := 30) oX4_years_6 (by decide) ?_
    refine rr_icmp_le (tgt := 18) oX4_years_8 (by decide) (fun c1 => ?_) (fun c1 => ?_)
    · refine ra_0 oX4_years_18 ?_
      refine rr_gr (v := 2) oX4_years_19 (ff_X4_18 rfl) kk_0 (wd_lt W rfl) ⟨by decide, rfl⟩ (wd_r W rfl rfl) ?_
      refine rr_giv oX4_years_22 (ff_X4_307 rfl) (gd_k gd_2) (gd_lt (j := 0) W gd_2 rfl) ⟨by decide, rfl⟩ hC.1.2.1 ?_
      refine si_2 oX4_years_25 rfl rfl ?_
      refine rk_0 oX4_years_26 ?_
      refine si_3 oX4_years_27 rfl rfl ?_
      have ew : ∃ k, k < 31 ∧ w = nI k := by
        have h1 := Int32.not_lt.mp c
        rw [Int32.le_iff_toInt_le, show (1 : Int32).toInt = 1 by decide] at h1
        rw [Int32.le_iff_toInt_le, show (30 : Int32).toInt = 30 by decide] at c1
        refine ⟨w.toInt.toNat, by omega, Int32.toInt_inj.mp ?_⟩
        rw [nI_toInt (by omega)]
        omega
      obtain ⟨k, hk, rfl⟩ := ew
      rw [f_years, if_neg (by rintro (q | q); exact c q; exact Int32.not_lt.mpr c1 q), show ix_N (nI k) = k from nI_clamp (by omega)]
      exact lp_X4_years l W (by omega) k I S 0 (Nat.zero_add _) hC hr (fun _ _ => rfl)
    · refine ra_0 oX4_years_11 ?_
      refine rr_bipush (v := (-6)) oX4_years_12 (by decide) ?_
      refine rr_cVi (c_X4_refuse l W (c := 6) (by decide) (by decide)) oX4_years_14 (cv_X4_55 rfl) (by decide) kk_0 (by decide) hcn_4 (wd_lt W rfl) rfl rfl (Nat.le_of_ble_eq_true rfl) ?_
      exact rr_ireturn oX4_years_17 rfl rfl (q_C_noc hC ce_rf (by rw [f_years, if_pos (Or.inr (Int32.not_le.mp c1))]) (by decide) (by decide))
theorem li_X4_pairs (l : Launch) {L : Nat → Nat → Int64} {Rf : Nat → Nat → Option Nat} {n : Nat} {J : Nat → Nat → Int32} {S : sg_T} (W : wd_T Rf n) (hA : gl_T J 2 (z_G S) (b_dr (z_B S)) (b_sh (z_B S))) {j : Nat} (hj : j < 8) {Q : Option vv_T → mx_T → Prop} : ∀ m t acc, t + m = j → wm_W l mX4_pairs 7 0 0 63 [vv_A (some 0), vv_I (sm_N ((fun j i => if q_se S j i = true ∧ q_se S i j = true then 1 else 0) j) m t acc), vv_I (nI j), vv_I (nI j)] [] (J, L, Rf, n) Q → wm_W l mX4_pairs 7 0 0 19 [vv_A (some 0), vv_I acc, vv_I (nI j), vv_I (nI t)] [] (J, L, Rf, n) Q := by
  intro m
  induction m with
  | zero =>
    intro t acc ht hQ
    refine ri_3 oX4_pairs_19 ?_
    refine ri_2 oX4_pairs_20 ?_
    refine rr_icmp_ge (tgt := 63) oX4_pairs_21 (by decide) (fun c => ?_) (fun c => ?_)
    rotate_left
    · exact absurd c (by rw [nI_le_iff (by omega) (by omega)]; omega)
    rw [show t = j by omega]
    exact hQ
  | succ m ih =>
    intro t acc ht hQ
    refine ri_3 oX4_pairs_19 ?_
    refine ri_2 oX4_pairs_20 ?_
    refine rr_icmp_ge (tgt := 63) oX4_pairs_21 (by decide) (fun c => ?_) (fun c => ?_)
    · (rw [nI_le_iff (by omega) (by omega)] at c; omega)
    refine ra_0 oX4_pairs_24 ?_
    refine rr_gr (v := 2) oX4_pairs_25 (ff_X4_18 rfl) kk_0 (wd_lt W rfl) ⟨by decide, rfl⟩ (wd_r W rfl rfl) ?_
    refine ri_2 oX4_pairs_28 ?_
    refine rr_cVi (c_X1_lookersSeeing l W gd_2 hA hj) oX4_pairs_29 (cv_X4_218 rfl) (by decide) (gd_k gd_2) (by decide) hcn_1 (gd_lt (j := 0) W gd_2 rfl) rfl rfl (Nat.le_of_ble_eq_true rfl) ?_
    refine ri_3 oX4_pairs_32 ?_
    refine rr_cSi (c_X4_isIn l) oX4_pairs_33 (cs_X4_142 rfl) (by decide) rfl rfl (Nat.le_of_ble_eq_true rfl) ?_
    refine rr_ifb_eq (tgt := 57) oX4_pairs_36 (by decide) (fun c1 => ?_) (fun c1 => ?_)
    · rw [st_in (by omega)] at c1
      refine rn_3 oX4_pairs_57 rfl rfl ?_
      refine rr_goto (tgt := 19) oX4_pairs_60 (by decide) ?_
      refine ih (t + 1) acc (by omega) ?_
      simp only [sm_N] at hQ
      rw [if_neg (fun q => c1 q.1), Int32.add_zero] at hQ
      exact hQ
    · rw [st_in (by omega)] at c1
      refine ra_0 oX4_pairs_39 ?_
      refine rr_gr (v := 2) oX4_pairs_40 (ff_X4_18 rfl) kk_0 (wd_lt W rfl) ⟨by decide, rfl⟩ (wd_r W rfl rfl) ?_
      refine ri_3 oX4_pairs_43 ?_
      refine rr_cVi (c_X1_lookersSeeing l W gd_2 hA (j := t) (by omega)) oX4_pairs_44 (cv_X4_218 rfl) (by decide) (gd_k gd_2) (by decide) hcn_1 (gd_lt (j := 0) W gd_2 rfl) rfl rfl (Nat.le_of_ble_eq_true rfl) ?_
      refine ri_2 oX4_pairs_47 ?_
      refine rr_cSi (c_X4_isIn l) oX4_pairs_48 (cs_X4_142 rfl) (by decide) rfl rfl (Nat.le_of_ble_eq_true rfl) ?_
      refine rr_ifb_eq (tgt := 57) oX4_pairs_51 (by decide) (fun c2 => ?_) (fun c2 => ?_)
      · rw [st_in (by omega)] at c2
        refine rn_3 oX4_pairs_57 rfl rfl ?_
        refine rr_goto (tgt := 19) oX4_pairs_60 (by decide) ?_
        refine ih (t + 1) acc (by omega) ?_
        simp only [sm_N] at hQ
        rw [if_neg (fun q => c2 q.2), Int32.add_zero] at hQ
        exact hQ
      · rw [st_in (by omega)] at c2
        refine rc_1 (v := acc + 1) oX4_pairs_54 rfl rfl rfl ?_
        refine rn_3 oX4_pairs_57 rfl rfl ?_
        refine rr_goto (tgt := 19) oX4_pairs_60 (by decide) ?_
        refine ih (t + 1) (acc + 1) (by omega) ?_
        simp only [sm_N] at hQ
        rw [if_pos ⟨c1, c2⟩] at hQ
        exact hQ
theorem lp_X4_pairs (l : Launch) {I : Nat → Nat → Int32} {L : Nat → Nat → Int64} {Rf : Nat → Nat → Option Nat} {n : Nat} {J : Nat → Nat → Int32} {S : sg_T} (W : wd_T Rf n) (hA : gl_T J 2 (z_G S) (b_dr (z_B S)) (b_sh (z_B S))) (hC : CR_T I L S) (he : ce_T I J) : ∀ m t acc w3, t + m = 8 → wm_W l mX4_pairs 7 0 0 11 [vv_A (some 0), vv_I acc, vv_I (nI t), w3] [] (J, L, Rf, n) (q_C (s3_N (fun j i => if q_se S j i = true ∧ q_se S i j = true then 1 else 0) m t acc) S I L Rf n) := by
  intro m
  induction m with
  | zero =>
    intro t acc w3 ht
    refine ri_2 oX4_pairs_11 ?_
    refine rr_bipush (v := 8) oX4_pairs_12 (by decide) ?_
    refine rr_icmp_ge (tgt := 69) oX4_pairs_14 (by decide) (fun c => ?_) (fun c => ?_)
    rotate_left
    · exact absurd c (by rw [show (8 : Int32) = nI 8 from rfl, nI_le_iff (by omega) (by omega)]; omega)
    refine ri_1 oX4_pairs_69 ?_
    exact rr_ireturn oX4_pairs_70 rfl rfl (q_C_ce hC he rfl)
  | succ m ih =>
    intro t acc w3 ht
    refine ri_2 oX4_pairs_11 ?_
    refine rr_bipush (v := 8) oX4_pairs_12 (by decide) ?_
    refine rr_icmp_ge (tgt := 69) oX4_pairs_14 (by decide) (fun c => ?_) (fun c => ?_)
    · (rw [show (8 : Int32) = nI 8 from rfl, nI_le_iff (by omega) (by omega)] at c; omega)
    refine rk_0 oX4_pairs_17 ?_
    refine si_3 oX4_pairs_18 rfl rfl ?_
    refine li_X4_pairs l W hA (j := t) (by omega) t 0 acc (Nat.zero_add _) ?_
    refine rn_2 oX4_pairs_63 rfl rfl ?_
    refine rr_goto (tgt := 11) oX4_pairs_66 (by decide) ?_
    exact ih (t + 1) _ _ (by omega)
theorem c_X4_pairs (l : Launch) {I : Nat → Nat → Int32} {L : Nat → Nat → Int64} {Rf : Nat → Nat → Option Nat} {n : Nat} {S : sg_T} (W : wd_T Rf n) (hC : CR_T I L S) (hI : IV_T S) : wm_C l mX4_pairs 7 0 0 [vv_A (some 0)] (I, L, Rf, n) (q_C (f_pairs S).1 (f_pairs S).2 I L Rf n) := by
  refine wm_of (by decide) (Nat.le_of_ble_eq_true rfl) rfl ?_
  have hG : gv_T I 2 (z_G S) := hC.1.1.1
  have h8 : g_n (z_G S) ≤ 8 := hI.1.1
  have hr : hr_T (z_G S) := hI.1.2.1
  refine ra_0 oX4_pairs_0 ?_
  refine rr_gr (v := 2) oX4_pairs_1 (ff_X4_18 rfl) kk_0 (wd_lt W rfl) ⟨by decide, rfl⟩ (wd_r W rfl rfl) ?_
  refine rr_cVm (c_X1_lookAround l W gd_2 hG (hr_xy hr)) oX4_pairs_4 (cv_X4_113 rfl) (by decide) (gd_k gd_2) (by decide) hcn_1 (gd_lt (j := 0) W gd_2 rfl) rfl rfl (Nat.le_of_ble_eq_true rfl) (fun J hJ => ?_)
  have hA : gl_T J 2 (z_G S) (b_dr (z_B S)) (b_sh (z_B S)) := la_gl hJ hC.1.1
  have he : ce_T I J := ce_la hJ
  have hG := hA.1.1
  refine rk_0 oX4_pairs_7 ?_
  refine si_1 oX4_pairs_8 rfl rfl ?_
  refine rk_0 oX4_pairs_9 ?_
  refine si_2 oX4_pairs_10 rfl rfl ?_
  exact lp_X4_pairs l W hA hC he 8 0 0 _ rfl
theorem lp_X4_back (l : Launch) {I : Nat → Nat → Int32} {L : Nat → Nat → Int64} {Rf : Nat → Nat → Option Nat} {n : Nat} {J : Nat → Nat → Int32} {S : sg_T} (W : wd_T Rf n) (hA : gl_T J 2 (z_G S) (b_dr (z_B S)) (b_sh (z_B S))) (hC : CR_T I L S) (he : ce_T I J) {h : Nat} (hh : h < 8) {w2 : Int32} : ∀ m k a, k + m = 9 → a < 8 → wm_W l mX4_back 7 0 0 31 [vv_A (some 0), vv_I (nI h), vv_I w2, vv_I (nI a), vv_I (nI k)] [] (J, L, Rf, n) (q_C (bk_N (fun a => fo_N (q_sr S a) 8 0) h m k a) S I L Rf n) := by
  intro m
  induction m with
  | zero =>
    intro k a hk ha
    refine ri_4 oX4_back_31 ?_
    refine rr_bipush (v := 8) oX4_back_33 (by decide) ?_
    refine rr_icmp_gt (tgt := 71) oX4_back_35 (by decide) (fun c => ?_) (fun c => ?_)
    rotate_left
    · exact absurd (show (8 : Int32) < nI k from by rw [show (8 : Int32) = nI 8 from rfl, nI_lt_iff (by omega) (by omega)]; omega) c
    refine rk_m1 oX4_back_71 ?_
    exact rr_ireturn oX4_back_72 rfl rfl (q_C_ce hC he rfl)
  | succ m ih =>
    intro k a hk ha
    refine ri_4 oX4_back_31 ?_
    refine rr_bipush (v := 8) oX4_back_33 (by decide) ?_
    refine rr_icmp_gt (tgt := 71) oX4_back_35 (by decide) (fun c => ?_) (fun c => ?_)
    · (rw [show (8 : Int32) = nI 8 from rfl, nI_lt_iff (by omega) (by omega)] at c; omega)
    refine ra_0 oX4_back_38 ?_
    refine rr_gr (v := 2) oX4_back_39 (ff_X4_18 rfl) kk_0 (wd_lt W rfl) ⟨by decide, rfl⟩ (wd_r W rfl rfl) ?_
    refine ri_3 oX4_back_42 ?_
    refine rr_cVi (c_X1_seersOf l W gd_2 hA ha) oX4_back_43 (cv_X4_119 rfl) (by decide) (gd_k gd_2) (by decide) hcn_1 (gd_lt (j := 0) W gd_2 rfl) rfl rfl (Nat.le_of_ble_eq_true rfl) ?_
    refine rr_cSi (c_X4_lowestOf l) oX4_back_46 (cs_X4_227 rfl) (by decide) rfl rfl (Nat.le_of_ble_eq_true rfl) ?_
    generalize hst : fo_N (p_sr (z_G S) (b_dr (z_B S)) (b_sh (z_B S)) a) 8 0 = ke
    have hst2 : fo_N (q_sr S a) 8 0 = ke := hst
    rcases ke with _ | b
    · refine si_3 oX4_back_49 rfl rfl ?_
      refine ri_3 oX4_back_50 ?_
      refine rk_m1 oX4_back_51 ?_
      refine rr_icmp_ne (tgt := 57) oX4_back_52 (by decide) (fun c1 => ?_) (fun c1 => ?_)
      · exact absurd rfl c1
      refine rk_m1 oX4_back_55 ?_
      exact rr_ireturn oX4_back_56 rfl rfl (q_C_ce hC he (by simp only [bk_N, hst2]))
    · have hb := fo_lt _ _ _ hst
      simp only [oI]
      refine si_3 oX4_back_49 rfl rfl ?_
      refine ri_3 oX4_back_50 ?_
      refine rk_m1 oX4_back_51 ?_
      refine rr_icmp_ne (tgt := 57) oX4_back_52 (by decide) (fun c1 => ?_) (fun c1 => ?_)
      rotate_left
      · exact absurd c1 (nI_nm1 (by omega))
      refine ri_3 oX4_back_57 ?_
      refine ri_1 oX4_back_58 ?_
      refine rr_icmp_ne (tgt := 65) oX4_back_59 (by decide) (fun c2 => ?_) (fun c2 => ?_)
      · refine rn_4 oX4_back_65 rfl rfl ?_
        refine rr_goto (tgt := 31) oX4_back_68 (by decide) ?_
        have h3 := ih (k + 1) b (by omega) (by omega)
        simp only [bk_N, hst2]
        rw [if_neg (fun q => c2 (by rw [q]))]
        exact h3
      · refine ri_4 oX4_back_62 ?_
        exact rr_ireturn oX4_back_64 rfl rfl (q_C_ce hC he (by simp only [bk_N, hst2]; rw [if_pos ((nI_inj (by omega) (by omega)).mp c2)]))
theorem c_X4_back (l : Launch) {I : Nat → Nat → Int32} {L : Nat → Nat → Int64} {Rf : Nat → Nat → Option Nat} {n : Nat} {S : sg_T} (W : wd_T Rf n) (hC : CR_T I L S) (hI : IV_T S) {t : Int32} : wm_C l mX4_back 7 0 0 [vv_A (some 0), vv_I t] (I, L, Rf, n) (q_C (f_back S t).1 (f_back S t).2 I L Rf n) := by
  refine wm_of (by decide) (Nat.le_of_ble_eq_true rfl) rfl ?_
  have hG : gv_T I 2 (z_G S) := hC.1.1.1
  have h8 : g_n (z_G S) ≤ 8 := hI.1.1
  have hr : hr_T (z_G S) := hI.1.2.1
  refine ra_0 oX4_back_0 ?_
  refine ri_1 oX4_back_1 ?_
  refine rr_cVi (c_X4_lacksHouse l W hC hI) oX4_back_2 (cv_X4_194 rfl) (by decide) kk_0 (by decide) hcn_4 (wd_lt W rfl) rfl rfl (Nat.le_of_ble_eq_true rfl) ?_
  refine si_2 oX4_back_5 rfl rfl ?_
  refine ri_2 oX4_back_6 ?_
  refine rr_if_eq (tgt := 19) oX4_back_7 (by decide) (fun c => ?_) (fun c => ?_)
  · obtain ⟨a, b, ⟨ha, rfl, ha2⟩, ⟨hb, e2, hb2⟩⟩ := s_lh_0 h8 c
    have exa : ix_N (nI a) = a := nI_clamp (by omega)
    have exb : ix_N (nI b) = b := nI_clamp (by omega)
    refine ra_0 oX4_back_19 ?_
    refine rr_gr (v := 2) oX4_back_20 (ff_X4_18 rfl) kk_0 (wd_lt W rfl) ⟨by decide, rfl⟩ (wd_r W rfl rfl) ?_
    refine rr_cVm (c_X1_lookAround l W gd_2 hG (hr_xy hr)) oX4_back_23 (cv_X4_113 rfl) (by decide) (gd_k gd_2) (by decide) hcn_1 (gd_lt (j := 0) W gd_2 rfl) rfl rfl (Nat.le_of_ble_eq_true rfl) (fun J hJ => ?_)
    have hA : gl_T J 2 (z_G S) (b_dr (z_B S)) (b_sh (z_B S)) := la_gl hJ hC.1.1
    have he : ce_T I J := ce_la hJ
    have hG := hA.1.1
    refine ri_1 oX4_back_26 ?_
    refine si_3 oX4_back_27 rfl rfl ?_
    refine rk_1 oX4_back_28 ?_
    refine si_4 oX4_back_29 rfl rfl ?_
    rw [f_back, if_neg (fun q => q c), exa]
    exact lp_X4_back l W hA hC he (h := a) (by omega) 8 1 a (by omega) (by omega)
  · have hno := no_lh c
    refine ra_0 oX4_back_10 ?_
    refine ri_2 oX4_back_11 ?_
    refine rr_cVi (c_X4_refuse l W hno.1 hno.2) oX4_back_12 (cv_X4_55 rfl) (by decide) kk_0 (by decide) hcn_4 (wd_lt W rfl) rfl rfl (Nat.le_of_ble_eq_true rfl) ?_
    refine rr_bipush (v := 10) oX4_back_15 (by decide) ?_
    refine rr_isub oX4_back_17 ?_
    exact rr_ireturn oX4_back_18 rfl rfl (q_C_nod hC ce_rf (by rw [f_back, if_pos c]) hno.1)
