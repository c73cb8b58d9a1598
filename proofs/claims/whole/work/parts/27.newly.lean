/-! SeenByOne: where a new house may stand (by program: wip/whole/c27.py) -/
theorem fo_none_m1 {b : Option Nat} (h : ∀ u, b = some u → u < 2 ^ 31) : oI b = -1 ↔ b = none := by
  cases b with
  | none => exact ⟨fun _ => rfl, fun _ => rfl⟩
  | some u => exact ⟨fun q => absurd q (nI_nm1 (h u rfl)), fun q => by cases q⟩
theorem at_m1 {G : gr_T} (h8 : g_n G ≤ 8) {x y : Int32} : oI (s_at G x y) = -1 ↔ s_at G x y = none :=
  fo_none_m1 (fun u hu => by have := s_at_lt hu; omega)
theorem hr_add {G : gr_T} (hr : hr_T G) {k h : Int32} {x y a : Nat} (hx : x < 10) (hy : y < 10) (ha : a < 10) : hr_T (g_add G k (nI x) (nI y) h (nI a)) := by
  intro t ht hh
  have ht2 : t < g_n G + 1 := ht
  by_cases q : t = g_n G
  · subst q
    exact ⟨⟨x, y, hx, hy, by simp [g_add, upd, g_x], by simp [g_add, upd, g_y]⟩, a, ha, by simp [g_add, upd, g_a]⟩
  · have hh2 : is_H (g_k G t) := by
      have e : g_k (g_add G k (nI x) (nI y) h (nI a)) t = g_k G t := by simp [g_add, upd, g_k, q]
      rw [e] at hh
      exact hh
    obtain ⟨⟨u, v, h1, h2, h3, h4⟩, c, h5, h6⟩ := hr t (by omega) hh2
    exact ⟨⟨u, v, h1, h2, by simpa [g_add, upd, g_x, q] using h3, by simpa [g_add, upd, g_y, q] using h4⟩, c, h5, by simpa [g_add, upd, g_a, q] using h6⟩
theorem gs_drop {I K M : Nat → Nat → Int32} {g : Nat} {G : gr_T} {dr : Nat → Bool} {sh : Nat → Nat → Bool} {k x y h a : Int32} (hs : gs_T I g G dr sh) (H : ad_T I K g (g_n G) k x y h a) (hM : ∀ b, b ≠ g + 7 → M b = K b) : gs_T (up_I M g 0 (nI (g_n G))) g G dr sh := by
  obtain ⟨h1, h2, ⟨h3, h4, h5, h6, h7⟩, h9⟩ := H
  obtain ⟨⟨g1, g2, g3, g4, g5⟩, g6, g7⟩ := hs
  have ne : ∀ b, b ≠ g → up_I M g 0 (nI (g_n G)) b = M b := fun b hb => up_I_ne hb
  have e0 : ∀ q, q ≠ 0 → up_I M g 0 (nI (g_n G)) g q = I g q := fun q hq => by rw [up_I_at_ne hq, hM g (by omega), h2 q hq]
  refine ⟨⟨g1, up_I_at, by rw [e0 1 (by omega)]; exact g3, by rw [e0 2 (by omega)]; exact g4, fun t ht => ?_⟩, by rw [e0 3 (by omega)]; exact g6, fun j hj => by rw [ne _ (by omega), hM _ (by omega), h9 _ (by omega)]; exact g7 j hj⟩
  have nt : t ≠ g_n G := by omega
  rw [ne (g + 1) (by omega), ne (g + 2) (by omega), ne (g + 3) (by omega), ne (g + 4) (by omega), ne (g + 5) (by omega), hM (g + 1) (by omega), hM (g + 2) (by omega), hM (g + 3) (by omega), hM (g + 4) (by omega), hM (g + 5) (by omega), h3, h4, h5, h6, h7]
  simpa [upd, nt] using g5 t ht
def s_nc2 (S : sg_T) (h : Int32) (x y : Nat) : Int32 := nI (cn_8 (p_ri (g_add (z_G S) 1 (nI x) (nI y) h 0) (b_dr (z_B S)) (b_sh (z_B S))))
def s_fr (S : sg_T) (p : Nat) : Bool := s_at (z_G S) (nI (p % 10)) (nI (p / 10)) == none
def s_nc (S : sg_T) (h : Int32) (p : Nat) : Int32 := s_nc2 S h (p % 10) (p / 10)
def f_newly (S : sg_T) (h : Int32) : an_T := if ¬ (0 ≤ h ∧ h ≤ 20) then f_no S (-6) else if 8 ≤ g_n (z_G S) then f_no S (-7) else
  match kp_N (s_fr S) (s_nc S h) 100 0 none with
  | none => f_no S (-5)
  | some p => (nI p, S)
theorem kp_add (p : Nat → Bool) (c : Nat → Int32) : ∀ m1 m2 t b, kp_N p c (m1 + m2) t b = kp_N p c m2 (t + m1) (kp_N p c m1 t b) := by
  intro m1
  induction m1 with
  | zero => intro m2 t b; rw [Nat.zero_add]; rfl
  | succ m1 ih =>
    intro m2 t b
    rw [show m1 + 1 + m2 = (m1 + m2) + 1 by omega]
    simp only [kp_N]
    rw [ih m2 (t + 1), show t + 1 + m1 = t + (m1 + 1) by omega]
theorem pl_N : ∀ y, y < 10 → ∀ x, x < 10 → (10 : Int32) * nI y + nI x = nI (10 * y + x) := by decide +kernel
theorem nc_m1 (S : sg_T) (h : Int32) (p : Nat) : (-1 : Int32) < s_nc S h p := by
  have h8 : cn_8 (p_ri (g_add (z_G S) 1 (nI (p % 10)) (nI (p / 10)) h 0) (b_dr (z_B S)) (b_sh (z_B S))) ≤ 8 := cn_le _ 8
  have e : ∀ k, k < 9 → (-1 : Int32) < nI k := by decide +kernel
  exact e _ (by omega)
theorem dr_m1 (S : sg_T) (h : Int32) (b : Option Nat) : (-1 : Int32) ≤ dr_S (s_nc S h) b := by
  cases b with
  | none => exact Int32.le_refl _
  | some u => exact Int32.le_of_lt (nc_m1 S h u)
theorem kp_1 {p : Nat → Bool} {c : Nat → Int32} {m t : Nat} {b : Option Nat} (h : p t = true) (h2 : ¬ c t ≤ dr_S c b) : kp_N p c (m + 1) t b = kp_N p c m (t + 1) (some t) := by
  simp only [kp_N]
  rw [if_pos h]
  cases b with
  | none => rfl
  | some u => simp only []; rw [if_pos (show c u < c t from Int32.not_le.mp h2)]
theorem kp_2 {p : Nat → Bool} {c : Nat → Int32} {m t : Nat} {b : Option Nat} (h0 : (-1 : Int32) < c t) (h2 : c t ≤ dr_S c b) : kp_N p c (m + 1) t b = kp_N p c m (t + 1) b := by
  simp only [kp_N]
  congr 1
  split
  · cases b with
    | none => exact absurd h0 (Int32.not_lt.mpr h2)
    | some u => simp only []; rw [if_neg (Int32.not_lt.mpr (show c t ≤ c u from h2))]
  · rfl
theorem kp_3 {p : Nat → Bool} {c : Nat → Int32} {m t : Nat} {b : Option Nat} (h : ¬ p t = true) : kp_N p c (m + 1) t b = kp_N p c m (t + 1) b := by
  simp only [kp_N]
  rw [if_neg h]
theorem c_X4_rightWithNewHouse (l : Launch) {I : Nat → Nat → Int32} {L : Nat → Nat → Int64} {Rf : Nat → Nat → Option Nat} {n : Nat} {S : sg_T} (W : wd_T Rf n) (hC : CR_T I L S) (hI : IV_T S) (hT : gs_T I 18 (z_G S) (b_dr (z_B S)) (b_sh (z_B S))) (h7 : g_n (z_G S) < 8) {x y : Nat} (hx : x < 10) (hy : y < 10) {h : Int32} : wm_C l mX4_rightWithNewHouse 7 0 0 [vv_A (some 0), vv_I (nI x), vv_I (nI y), vv_I h] (I, L, Rf, n) (q_n (fun v J => v = (if s_at (z_G S) (nI x) (nI y) = none then s_nc2 S h x y else -1) ∧ gs_T J 18 (z_G S) (b_dr (z_B S)) (b_sh (z_B S)) ∧ ce_T I J) L Rf n) := by
  refine wm_of (by decide) (Nat.le_of_ble_eq_true rfl) rfl ?_
  have hG : gv_T I 2 (z_G S) := hC.1.1.1
  have h8 : g_n (z_G S) ≤ 8 := hI.1.1
  have hr : hr_T (z_G S) := hI.1.2.1
  refine ra_0 oX4_rightWithNewHouse_0 ?_
  refine rr_gr (v := 18) oX4_rightWithNewHouse_1 (ff_X4_25 rfl) kk_0 (wd_lt W rfl) ⟨by decide, rfl⟩ (wd_r W rfl rfl) ?_
  refine rr_cVi (c_X1_isFull l W gd_18) oX4_rightWithNewHouse_4 (cv_X4_157 rfl) (by decide) (gd_k gd_18) (by decide) hcn_1 (gd_lt (j := 0) W gd_18 rfl) rfl rfl (Nat.le_of_ble_eq_true rfl) ?_
  refine rr_ifb_ne (tgt := 23) oX4_rightWithNewHouse_7 (by decide) (fun c => ?_) (fun c => ?_)
  · exact absurd c (by rw [gv_c hT.1, show (8 : Int32) = nI 8 from rfl, nI_le_iff (by omega) (by omega)]; omega)
  refine ra_0 oX4_rightWithNewHouse_10 ?_
  refine rr_gr (v := 18) oX4_rightWithNewHouse_11 (ff_X4_25 rfl) kk_0 (wd_lt W rfl) ⟨by decide, rfl⟩ (wd_r W rfl rfl) ?_
  refine ri_1 oX4_rightWithNewHouse_14 ?_
  refine ri_2 oX4_rightWithNewHouse_15 ?_
  refine rr_cVi (c_X1_thingAt l W gd_18 hT.1) oX4_rightWithNewHouse_16 (cv_X4_154 rfl) (by decide) (gd_k gd_18) (by decide) hcn_1 (gd_lt (j := 0) W gd_18 rfl) rfl rfl (Nat.le_of_ble_eq_true rfl) ?_
  refine rk_m1 oX4_rightWithNewHouse_19 ?_
  refine rr_icmp_eq (tgt := 25) oX4_rightWithNewHouse_20 (by decide) (fun c1 => ?_) (fun c1 => ?_)
  · rw [at_m1 h8] at c1
    refine ra_0 oX4_rightWithNewHouse_25 ?_
    refine rr_gr (v := 18) oX4_rightWithNewHouse_26 (ff_X4_25 rfl) kk_0 (wd_lt W rfl) ⟨by decide, rfl⟩ (wd_r W rfl rfl) ?_
    refine rk_1 oX4_rightWithNewHouse_29 ?_
    refine ri_1 oX4_rightWithNewHouse_30 ?_
    refine ri_2 oX4_rightWithNewHouse_31 ?_
    refine ri_3 oX4_rightWithNewHouse_32 ?_
    refine rk_0 oX4_rightWithNewHouse_33 ?_
    refine rr_cVn (c_X1_add l W gd_18 h7 (gv_c hT.1)) oX4_rightWithNewHouse_34 (cv_X4_160 rfl) (by decide) (gd_k gd_18) (by decide) hcn_1 (gd_lt (j := 0) W gd_18 rfl) rfl rfl (Nat.le_of_ble_eq_true rfl) (fun v K hK1 => ?_)
    obtain ⟨rfl, hK⟩ := hK1
    have hT2 := ad_gs h7 hK hT
    refine rr_pop oX4_rightWithNewHouse_37 rfl ?_
    refine ra_0 oX4_rightWithNewHouse_38 ?_
    refine rr_gr (v := 18) oX4_rightWithNewHouse_39 (ff_X4_25 rfl) kk_0 (wd_lt W rfl) ⟨by decide, rfl⟩ (wd_r W rfl rfl) ?_
    refine rr_cVm (c_X1_lookAround l W gd_18 hT2.1 (hr_xy (hr_add (a := 0) hr hx hy (by omega)))) oX4_rightWithNewHouse_42 (cv_X4_113 rfl) (by decide) (gd_k gd_18) (by decide) hcn_1 (gd_lt (j := 0) W gd_18 rfl) rfl rfl (Nat.le_of_ble_eq_true rfl) (fun M hM => ?_)
    have hB := la_gl hM hT2
    refine ra_0 oX4_rightWithNewHouse_45 ?_
    refine rr_gr (v := 18) oX4_rightWithNewHouse_46 (ff_X4_25 rfl) kk_0 (wd_lt W rfl) ⟨by decide, rfl⟩ (wd_r W rfl rfl) ?_
    refine rr_cVi (c_X1_countRight l W gd_18 hB) oX4_rightWithNewHouse_49 (cv_X4_252 rfl) (by decide) (gd_k gd_18) (by decide) hcn_1 (gd_lt (j := 0) W gd_18 rfl) rfl rfl (Nat.le_of_ble_eq_true rfl) ?_
    refine si_4 oX4_rightWithNewHouse_52 rfl rfl ?_
    refine ra_0 oX4_rightWithNewHouse_54 ?_
    refine rr_gr (v := 18) oX4_rightWithNewHouse_55 (ff_X4_25 rfl) kk_0 (wd_lt W rfl) ⟨by decide, rfl⟩ (wd_r W rfl rfl) ?_
    refine rr_cVv (c_X1_dropLatest l W gd_18 (m := g_n (z_G S)) h7 (by rw [hM.2 18 (by omega)]; exact hK.1)) oX4_rightWithNewHouse_58 (cv_X4_259 rfl) (by decide) (gd_k gd_18) (by decide) hcn_1 (gd_lt (j := 0) W gd_18 rfl) rfl rfl (Nat.le_of_ble_eq_true rfl) ?_
    refine ri_4 oX4_rightWithNewHouse_61 ?_
    exact rr_ireturn oX4_rightWithNewHouse_63 rfl rfl (q_n_of ⟨(if_pos c1).symm, gs_drop hT hK (fun b hb => hM.2 b hb), fun a q1 q2 q3 => by rw [up_I_ne (by omega), hM.2 a (by omega)]; exact hK.2.2.2 a (by omega)⟩)
  · rw [at_m1 h8] at c1
    refine rk_m1 oX4_rightWithNewHouse_23 ?_
    exact rr_ireturn oX4_rightWithNewHouse_24 rfl rfl (q_n_of ⟨(if_neg c1).symm, hT, ce_rf⟩)
theorem li_X4_newly (l : Launch) {I : Nat → Nat → Int32} {L : Nat → Nat → Int64} {Rf : Nat → Nat → Option Nat} {n : Nat} {S : sg_T} (W : wd_T Rf n) (hC : CR_T I L S) (hI : IV_T S) {h : Int32} (h7 : g_n (z_G S) < 8) {Q : Option vv_T → mx_T → Prop} {y : Nat} (hy : y < 10) : ∀ m (J : Nat → Nat → Int32) x b w6, x + m = 10 → gs_T J 18 (z_G S) (b_dr (z_B S)) (b_sh (z_B S)) → ce_T I J → (∀ (K : Nat → Nat → Int32) w6, gs_T K 18 (z_G S) (b_dr (z_B S)) (b_sh (z_B S)) → ce_T I K → wm_W l mX4_newly 8 0 0 101 [vv_A (some 0), vv_I h, vv_I (oI (kp_N (s_fr S) (s_nc S h) m (10 * y + x) b)), vv_I (dr_S (s_nc S h) (kp_N (s_fr S) (s_nc S h) m (10 * y + x) b)), vv_I (nI y), vv_I (nI 10), w6] [] (K, L, Rf, n) Q) → wm_W l mX4_newly 8 0 0 59 [vv_A (some 0), vv_I h, vv_I (oI (b)), vv_I (dr_S (s_nc S h) (b)), vv_I (nI y), vv_I (nI x), w6] [] (J, L, Rf, n) Q := by
  intro m
  induction m with
  | zero =>
    intro J x b w6 hx hT he hQ
    refine ri_5 oX4_newly_59 ?_
    refine rr_bipush (v := 9) oX4_newly_61 (by decide) ?_
    refine rr_icmp_gt (tgt := 101) oX4_newly_63 (by decide) (fun c => ?_) (fun c => ?_)
    rotate_left
    · exact absurd (show (9 : Int32) < nI x from by rw [show (9 : Int32) = nI 9 from rfl, nI_lt_iff (by omega) (by omega)]; omega) c
    rw [show x = 10 by omega]
    exact hQ J w6 hT he
  | succ m ih =>
    intro J x b w6 hx hT he hQ
    refine ri_5 oX4_newly_59 ?_
    refine rr_bipush (v := 9) oX4_newly_61 (by decide) ?_
    refine rr_icmp_gt (tgt := 101) oX4_newly_63 (by decide) (fun c => ?_) (fun c => ?_)
    · (rw [show (9 : Int32) = nI 9 from rfl, nI_lt_iff (by omega) (by omega)] at c; omega)
    refine ra_0 oX4_newly_66 ?_
    refine ri_5 oX4_newly_67 ?_
    refine ri_4 oX4_newly_69 ?_
    refine ri_1 oX4_newly_71 ?_
    refine rr_cVn (c_X4_rightWithNewHouse l W (CR_ce hC he) hI hT h7 (x := x) (y := y) (by omega) hy) oX4_newly_72 (cv_X4_255 rfl) (by decide) kk_0 (by decide) hcn_4 (wd_lt W rfl) rfl rfl (Nat.le_of_ble_eq_true rfl) (fun v1 K hK1 => ?_)
    obtain ⟨rfl, hT2, he1⟩ := hK1
    have he2 := ce_tr he he1
    have e1 : s_fr S (10 * y + x) = (s_at (z_G S) (nI x) (nI y) == none) := by rw [s_fr, show (10 * y + x) % 10 = x by omega, show (10 * y + x) / 10 = y by omega]
    have e2 : s_nc S h (10 * y + x) = s_nc2 S h x y := by rw [s_nc, show (10 * y + x) % 10 = x by omega, show (10 * y + x) / 10 = y by omega]
    have hm1 := nc_m1 S h (10 * y + x)
    rw [← e2]
    refine si_6 oX4_newly_75 rfl rfl ?_
    by_cases hf : s_at (z_G S) (nI x) (nI y) = none
    · rw [if_pos hf]
      refine ri_6 oX4_newly_77 ?_
      refine ri_3 oX4_newly_79 ?_
      refine rr_icmp_le (tgt := 95) oX4_newly_80 (by decide) (fun c1 => ?_) (fun c1 => ?_)
      · refine rn_5 oX4_newly_95 rfl rfl ?_
        refine rr_goto (tgt := 59) oX4_newly_98 (by decide) ?_
        refine ih K (x + 1) b _ (by omega) hT2 he2 (fun M w h1 h2 => ?_)
        have h3 := hQ M w h1 h2
        rw [kp_2 hm1 c1] at h3
        exact h3
      · refine ri_6 oX4_newly_83 ?_
        refine si_3 oX4_newly_85 rfl rfl ?_
        refine rr_bipush (v := 10) oX4_newly_86 (by decide) ?_
        refine ri_4 oX4_newly_88 ?_
        refine rr_imul oX4_newly_90 ?_
        refine ri_5 oX4_newly_91 ?_
        refine rr_iadd oX4_newly_93 ?_
        rw [pl_N y hy x (by omega)]
        refine si_2 oX4_newly_94 rfl rfl ?_
        refine rn_5 oX4_newly_95 rfl rfl ?_
        refine rr_goto (tgt := 59) oX4_newly_98 (by decide) ?_
        refine ih K (x + 1) (some (10 * y + x)) _ (by omega) hT2 he2 (fun M w h1 h2 => ?_)
        have h3 := hQ M w h1 h2
        rw [kp_1 (by rw [e1]; simp [hf]) c1] at h3
        exact h3
    · rw [if_neg hf]
      refine ri_6 oX4_newly_77 ?_
      refine ri_3 oX4_newly_79 ?_
      refine rr_icmp_le (tgt := 95) oX4_newly_80 (by decide) (fun c1 => ?_) (fun c1 => ?_)
      rotate_left
      · exact absurd (dr_m1 S h b) c1
      refine rn_5 oX4_newly_95 rfl rfl ?_
      refine rr_goto (tgt := 59) oX4_newly_98 (by decide) ?_
      refine ih K (x + 1) b _ (by omega) hT2 he2 (fun M w h1 h2 => ?_)
      have h3 := hQ M w h1 h2
      rw [kp_3 (by rw [e1]; simp [hf])] at h3
      exact h3
theorem lp_X4_newly (l : Launch) {I : Nat → Nat → Int32} {L : Nat → Nat → Int64} {Rf : Nat → Nat → Option Nat} {n : Nat} {S : sg_T} (W : wd_T Rf n) (hC : CR_T I L S) (hI : IV_T S) {h : Int32} (h7 : g_n (z_G S) < 8) {Q : Option vv_T → mx_T → Prop} : ∀ m (J : Nat → Nat → Int32) y b w5 w6, y + m = 10 → gs_T J 18 (z_G S) (b_dr (z_B S)) (b_sh (z_B S)) → ce_T I J → (∀ (K : Nat → Nat → Int32) w5 w6, ce_T I K → wm_W l mX4_newly 8 0 0 107 [vv_A (some 0), vv_I h, vv_I (oI (kp_N (s_fr S) (s_nc S h) (10 * m) (10 * y) b)), vv_I (dr_S (s_nc S h) (kp_N (s_fr S) (s_nc S h) (10 * m) (10 * y) b)), vv_I (nI 10), w5, w6] [] (K, L, Rf, n) Q) → wm_W l mX4_newly 8 0 0 49 [vv_A (some 0), vv_I h, vv_I (oI (b)), vv_I (dr_S (s_nc S h) (b)), vv_I (nI y), w5, w6] [] (J, L, Rf, n) Q := by
  intro m
  induction m with
  | zero =>
    intro J y b w5 w6 hy hT he hQ
    refine ri_4 oX4_newly_49 ?_
    refine rr_bipush (v := 9) oX4_newly_51 (by decide) ?_
    refine rr_icmp_gt (tgt := 107) oX4_newly_53 (by decide) (fun c => ?_) (fun c => ?_)
    rotate_left
    · exact absurd (show (9 : Int32) < nI y from by rw [show (9 : Int32) = nI 9 from rfl, nI_lt_iff (by omega) (by omega)]; omega) c
    rw [show y = 10 by omega]
    exact hQ J w5 w6 he
  | succ m ih =>
    intro J y b w5 w6 hy hT he hQ
    refine ri_4 oX4_newly_49 ?_
    refine rr_bipush (v := 9) oX4_newly_51 (by decide) ?_
    refine rr_icmp_gt (tgt := 107) oX4_newly_53 (by decide) (fun c => ?_) (fun c => ?_)
    · (rw [show (9 : Int32) = nI 9 from rfl, nI_lt_iff (by omega) (by omega)] at c; omega)
    refine rk_0 oX4_newly_56 ?_
    refine si_5 oX4_newly_57 rfl rfl ?_
    refine li_X4_newly l W hC hI h7 (y := y) (by omega) 10 J 0 b _ rfl hT he (fun K w6 hT2 he2 => ?_)
    refine rn_4 oX4_newly_101 rfl rfl ?_
    refine rr_goto (tgt := 49) oX4_newly_104 (by decide) ?_
    refine ih K (y + 1) _ _ _ (by omega) hT2 he2 (fun M w5 w6 h1 => ?_)
    have h3 := hQ M w5 w6 h1
    rw [show 10 * (m + 1) = 10 + 10 * m by omega, kp_add] at h3
    exact h3
theorem ls_X4_newly (l : Launch) {I K : Nat → Nat → Int32} {L : Nat → Nat → Int64} {Rf : Nat → Nat → Option Nat} {n : Nat} {S : sg_T} (W : wd_T Rf n) (hC : CR_T I L S) {h : Int32} {w5 w6 : vv_T} (hh : 0 ≤ h ∧ h ≤ 20) (h7 : g_n (z_G S) < 8) {b : Option Nat} (hb : kp_N (s_fr S) (s_nc S h) 100 0 none = b) (he : ce_T I K) : wm_W l mX4_newly 8 0 0 107 [vv_A (some 0), vv_I h, vv_I (oI b), vv_I (dr_S (s_nc S h) b), vv_I (nI 10), w5, w6] [] (K, L, Rf, n) (q_C (f_newly S h).1 (f_newly S h).2 I L Rf n) := by
  rcases b with _ | b
  · refine ri_2 oX4_newly_107 ?_
    refine rk_m1 oX4_newly_108 ?_
    refine rr_icmp_ne (tgt := 121) oX4_newly_109 (by decide) (fun c => ?_) (fun c => ?_)
    · exact absurd rfl c
    refine ra_0 oX4_newly_112 ?_
    refine rr_bipush (v := (-5)) oX4_newly_113 (by decide) ?_
    refine rr_cVi (c_X4_refuse l W (c := 5) (by decide) (by decide)) oX4_newly_115 (cv_X4_55 rfl) (by decide) kk_0 (by decide) hcn_4 (wd_lt W rfl) rfl rfl (Nat.le_of_ble_eq_true rfl) ?_
    refine rr_goto (tgt := 122) oX4_newly_118 (by decide) ?_
    exact rr_ireturn oX4_newly_122 rfl rfl (q_C_noc hC he (by rw [f_newly, if_neg (fun q => q hh), if_neg (by omega), hb]) (by decide) (by decide))
  · have hb2 := kp_lt _ _ _ _ _ (by intro u h; cases h) _ hb
    refine ri_2 oX4_newly_107 ?_
    refine rk_m1 oX4_newly_108 ?_
    refine rr_icmp_ne (tgt := 121) oX4_newly_109 (by decide) (fun c => ?_) (fun c => ?_)
    rotate_left
    · exact absurd c (nI_nm1 (by omega))
    refine ri_2 oX4_newly_121 ?_
    exact rr_ireturn oX4_newly_122 rfl rfl (q_C_an hC he (by rw [f_newly, if_neg (fun q => q hh), if_neg (by omega), hb]; rfl) rfl)
theorem c_X4_newly (l : Launch) {I : Nat → Nat → Int32} {L : Nat → Nat → Int64} {Rf : Nat → Nat → Option Nat} {n : Nat} {S : sg_T} (W : wd_T Rf n) (hC : CR_T I L S) (hI : IV_T S) {h : Int32} : wm_C l mX4_newly 8 0 0 [vv_A (some 0), vv_I h] (I, L, Rf, n) (q_C (f_newly S h).1 (f_newly S h).2 I L Rf n) := by
  refine wm_of (by decide) (Nat.le_of_ble_eq_true rfl) rfl ?_
  have hG : gv_T I 2 (z_G S) := hC.1.1.1
  have h8 : g_n (z_G S) ≤ 8 := hI.1.1
  have hr : hr_T (z_G S) := hI.1.2.1
  refine ri_1 oX4_newly_0 ?_
  refine rr_cSi (c_X4_isHeight l) oX4_newly_1 (cs_X4_151 rfl) (by decide) rfl rfl (Nat.le_of_ble_eq_true rfl) ?_
  refine rr_ifb_ne (tgt := 14) oX4_newly_4 (by decide) (fun c => ?_) (fun c => ?_)
  · refine ra_0 oX4_newly_14 ?_
    refine rr_gr (v := 2) oX4_newly_15 (ff_X4_18 rfl) kk_0 (wd_lt W rfl) ⟨by decide, rfl⟩ (wd_r W rfl rfl) ?_
    refine rr_cVi (c_X1_isFull l W gd_2) oX4_newly_18 (cv_X4_157 rfl) (by decide) (gd_k gd_2) (by decide) hcn_1 (gd_lt (j := 0) W gd_2 rfl) rfl rfl (Nat.le_of_ble_eq_true rfl) ?_
    refine rr_ifb_eq (tgt := 31) oX4_newly_21 (by decide) (fun c1 => ?_) (fun c1 => ?_)
    · rw [CR_n hC, show (8 : Int32) = nI 8 from rfl, nI_le_iff (by omega) (by omega)] at c1
      refine ra_0 oX4_newly_31 ?_
      refine rr_gr (v := 18) oX4_newly_32 (ff_X4_25 rfl) kk_0 (wd_lt W rfl) ⟨by decide, rfl⟩ (wd_r W rfl rfl) ?_
      refine ra_0 oX4_newly_35 ?_
      refine rr_gr (v := 2) oX4_newly_36 (ff_X4_18 rfl) kk_0 (wd_lt W rfl) ⟨by decide, rfl⟩ (wd_r W rfl rfl) ?_
      refine rr_cVm (c_X1_copyFrom l W gd_18 gd_2 (by omega)) oX4_newly_39 (cv_X4_197 rfl) (by decide) (gd_k gd_18) (by decide) hcn_1 (gd_lt (j := 0) W gd_18 rfl) rfl rfl (Nat.le_of_ble_eq_true rfl) (fun K hK => ?_)
      have hT := cf_gs hK hC.1.1
      refine rk_m1 oX4_newly_42 ?_
      refine si_2 oX4_newly_43 rfl rfl ?_
      refine rk_m1 oX4_newly_44 ?_
      refine si_3 oX4_newly_45 rfl rfl ?_
      refine rk_0 oX4_newly_46 ?_
      refine si_4 oX4_newly_47 rfl rfl ?_
      exact lp_X4_newly l W hC hI (by omega) 10 K 0 none _ _ rfl hT (ce_cf hK) (fun M w5 w6 he => ls_X4_newly l W hC c (by omega) rfl he)
    · rw [CR_n hC, show (8 : Int32) = nI 8 from rfl, nI_le_iff (by omega) (by omega)] at c1
      refine ra_0 oX4_newly_24 ?_
      refine rr_bipush (v := (-7)) oX4_newly_25 (by decide) ?_
      refine rr_cVi (c_X4_refuse l W (c := 7) (by decide) (by decide)) oX4_newly_27 (cv_X4_55 rfl) (by decide) kk_0 (by decide) hcn_4 (wd_lt W rfl) rfl rfl (Nat.le_of_ble_eq_true rfl) ?_
      exact rr_ireturn oX4_newly_30 rfl rfl (q_C_noc hC ce_rf (by rw [f_newly, if_neg (fun q => q c), if_pos c1]) (by decide) (by decide))
  · refine ra_0 oX4_newly_7 ?_
    refine rr_bipush (v := (-6)) oX4_newly_8 (by decide) ?_
    refine rr_cVi (c_X4_refuse l W (c := 6) (by decide) (by decide)) oX4_newly_10 (cv_X4_55 rfl) (by decide) kk_0 (by decide) hcn_4 (wd_lt W rfl) rfl rfl (Nat.le_of_ble_eq_true rfl) ?_
    exact rr_ireturn oX4_newly_13 rfl rfl (q_C_noc hC ce_rf (by rw [f_newly, if_pos c]) (by decide) (by decide))
