/-! the model: a felling, years (by program: wip/whole/c50.py) -/
def g_xy (G : gr_T) (X Y : Nat → Int32) : gr_T := (g_n G, g_k G, X, Y, g_h G, g_a G, g_s G, g_f G)
theorem rx_N : ∀ u, u < 10 → ∀ v, v < 10 → ∀ P, P < 10 → ∀ k, k < P → (nI u + (nI v - nI u) / nI P * nI k).toNatClampNeg < 10 ∧ nI u + (nI v - nI u) / nI P * nI k = nI (nI u + (nI v - nI u) / nI P * nI k).toNatClampNeg := by decide +kernel
theorem sP_9 {G : gr_T} {i j : Nat} (hxi : xy_T G i) (hxj : xy_T G j) : s_P G i j < 10 := by
  obtain ⟨u, v, hu, hv, e1, e2⟩ := hxi
  obtain ⟨u2, v2, hu2, hv2, e3, e4⟩ := hxj
  obtain ⟨a, ea⟩ : ∃ a, a = (if u2 < u then u - u2 else u2 - u) := ⟨_, rfl⟩
  obtain ⟨b, eb⟩ : ∃ b, b = (if v2 < v then v - v2 else v2 - v) := ⟨_, rfl⟩
  have fa : s_abs (g_x G j - g_x G i) = nI a := by rw [e3, e1, ea]; exact ab_N u2 hu2 u hu
  have fb : s_abs (g_y G j - g_y G i) = nI b := by rw [e4, e2, eb]; exact ab_N v2 hv2 v hv
  have ha : a < 10 := by rw [ea]; split <;> omega
  have hb : b < 10 := by rw [eb]; split <;> omega
  have eP : s_gcd a b = s_P G i j := by rw [s_P, fa, fb, nI_clamp (by omega), nI_clamp (by omega)]
  rw [← eP]
  exact s_gcd_9 a ha b hb
theorem bl_xy {G : gr_T} {X1 Y1 X2 Y2 : Nat → Int32} (hat : ∀ p q, p < 10 → q < 10 → s_at (g_xy G X1 Y1) (nI p) (nI q) = s_at (g_xy G X2 Y2) (nI p) (nI q)) {i j P : Nat} (hP : P < 10) (ex : X1 i = X2 i ∧ X1 j = X2 j ∧ Y1 i = Y2 i ∧ Y1 j = Y2 j) (hxi : xy_T (g_xy G X1 Y1) i) (hxj : xy_T (g_xy G X1 Y1) j) : ∀ m k acc, k + m = P → s_bl (g_xy G X1 Y1) i j P m k acc = s_bl (g_xy G X2 Y2) i j P m k acc := by
  intro m
  induction m with
  | zero => intro k acc _; rfl
  | succ m ih =>
    intro k acc hk
    have e : s_st (g_xy G X1 Y1) i j P k = s_st (g_xy G X2 Y2) i j P k := by
      obtain ⟨u, v, hu, hv, e1, e2⟩ := hxi
      obtain ⟨u2, v2, hu2, hv2, e3, e4⟩ := hxj
      have d1 : X1 i = nI u := e1
      have d2 : Y1 i = nI v := e2
      have d3 : X1 j = nI u2 := e3
      have d4 : Y1 j = nI v2 := e4
      have r1 := rx_N u hu u2 hu2 P hP k (by omega)
      have r2 := rx_N v hv v2 hv2 P hP k (by omega)
      show s_at (g_xy G X1 Y1) (X1 i + (X1 j - X1 i) / nI P * nI k) (Y1 i + (Y1 j - Y1 i) / nI P * nI k) = s_at (g_xy G X2 Y2) (X2 i + (X2 j - X2 i) / nI P * nI k) (Y2 i + (Y2 j - Y2 i) / nI P * nI k)
      rw [← ex.1, ← ex.2.1, ← ex.2.2.1, ← ex.2.2.2, d1, d2, d3, d4, r1.2, r2.2]
      exact hat _ _ r1.1 r2.1
    simp only [s_bl]
    rw [e]
    exact ih (k + 1) _ (by omega)
theorem ri_xy {G : gr_T} {X1 Y1 X2 Y2 : Nat → Int32} {dr : Nat → Bool} {sh : Nat → Nat → Bool} (hat : ∀ p q, p < 10 → q < 10 → s_at (g_xy G X1 Y1) (nI p) (nI q) = s_at (g_xy G X2 Y2) (nI p) (nI q)) (hx : ∀ i, i < g_n G → is_H (g_k G i) → X1 i = X2 i ∧ Y1 i = Y2 i) (hr : hr_T (g_xy G X1 Y1)) : p_ri (g_xy G X1 Y1) dr sh = p_ri (g_xy G X2 Y2) dr sh := by
  have hb : ∀ i j, i < g_n G → is_H (g_k G i) → j < g_n G → is_H (g_k G j) → b_look (g_xy G X1 Y1) i j = b_look (g_xy G X2 Y2) i j := by
    intro i j hi hi2 hj hj2
    obtain ⟨x1, y1⟩ := hx i hi hi2
    obtain ⟨x2, y2⟩ := hx j hj hj2
    have hxi := (hr i hi hi2).1
    have hxj := (hr j hj hj2).1
    have eP : s_P (g_xy G X1 Y1) i j = s_P (g_xy G X2 Y2) i j := by
      show s_gcd (s_abs (X1 j - X1 i)).toNatClampNeg (s_abs (Y1 j - Y1 i)).toNatClampNeg = s_gcd (s_abs (X2 j - X2 i)).toNatClampNeg (s_abs (Y2 j - Y2 i)).toNatClampNeg
      rw [x1, y1, x2, y2]
    have hP9 := sP_9 hxi hxj
    have hP1 := s_gcd_1 (s_abs (X1 j - X1 i)).toNatClampNeg (s_abs (Y1 j - Y1 i)).toNatClampNeg
    have hP1' : 1 ≤ s_P (g_xy G X1 Y1) i j := hP1
    have e1 : s_bar (g_xy G X1 Y1) i j = s_bar (g_xy G X2 Y2) i j := by
      unfold s_bar
      rw [← eP]
      exact bl_xy hat hP9 ⟨x1, x2, y1, y2⟩ hxi hxj _ _ _ (by omega)
    have e2 : s_dist (g_xy G X1 Y1) i j = s_dist (g_xy G X2 Y2) i j := by
      show s_max (s_abs (X1 i - X1 j)) (s_abs (Y1 i - Y1 j)) = s_max (s_abs (X2 i - X2 j)) (s_abs (Y2 i - Y2 j))
      rw [x1, y1, x2, y2]
    unfold b_look
    rw [e1, e2]
    rfl
  have hl : ∀ j i, p_lk (g_xy G X1 Y1) j i = p_lk (g_xy G X2 Y2) j i := by
    intro j i
    show (decide (j < g_n G) && decide (is_H (g_k G j)) && (decide (i < g_n G) && (!(i == j) && decide (is_H (g_k G i)) && b_look (g_xy G X1 Y1) i j))) = (decide (j < g_n G) && decide (is_H (g_k G j)) && (decide (i < g_n G) && (!(i == j) && decide (is_H (g_k G i)) && b_look (g_xy G X2 Y2) i j)))
    by_cases q1 : j < g_n G
    · by_cases q2 : is_H (g_k G j)
      · by_cases q3 : i < g_n G
        · by_cases q4 : is_H (g_k G i)
          · rw [hb i j q3 q4 q1 q2]
          · simp [q4]
        · simp [q3]
      · simp [q2]
    · simp [q1]
  have hs : ∀ j, p_sr (g_xy G X1 Y1) dr sh j = p_sr (g_xy G X2 Y2) dr sh j := by
    intro j
    funext i
    simp only [p_sr, p_se]
    rw [hl]
    rfl
  funext j
  unfold p_ri
  rw [hs]
  rfl
theorem at_fl {G : gr_T} {t : Nat} {p q : Nat} (hp : p < 10) : s_at (g_xy G (upd (g_x G) t (-100)) (g_y G)) (nI p) (nI q) = s_at (g_xy G (upd (g_x G) t (-1)) (upd (g_y G) t (-1))) (nI p) (nI q) := by
  unfold s_at
  refine fo_c _ _ (fun u _ _ => ?_)
  show (upd (g_x G) t (-100) u == nI p && g_y G u == nI q) = (upd (g_x G) t (-1) u == nI p && upd (g_y G) t (-1) u == nI q)
  by_cases e : u = t
  · subst e
    have e1 : ∀ p, p < 10 → ((-100 : Int32) == nI p) = false ∧ ((-1 : Int32) == nI p) = false := by decide +kernel
    simp only [upd, if_true]
    rw [(e1 p hp).1, (e1 p hp).2]
    rfl
  · simp only [upd, if_neg e]
theorem ri_fl {G : gr_T} {dr : Nat → Bool} {sh : Nat → Nat → Bool} {t : Nat} (hr : hr_T G) (h : ¬ is_H (g_k G t)) : p_ri (g_xy G (upd (g_x G) t (-100)) (g_y G)) dr sh = p_ri (g_fl G t (-1)) dr sh := by
  refine ri_xy (X2 := upd (g_x G) t (-1)) (Y2 := upd (g_y G) t (-1)) (fun p q hp _ => at_fl hp) (fun i hi hh => ?_) (fun u hu hh => ?_)
  · have ne : i ≠ t := fun e => h (e ▸ hh)
    simp only [upd, if_neg ne]
    exact ⟨trivial, trivial⟩
  · have hu2 : u < g_n G := hu
    have hh2 : is_H (g_k G u) := hh
    have ne : u ≠ t := fun e => h (e ▸ hh2)
    obtain ⟨⟨p, q, h1, h2, h3, h4⟩, h5⟩ := hr u hu2 hh2
    exact ⟨⟨p, q, h1, h2, (if_neg ne).trans h3, h4⟩, h5⟩
theorem mq_fl {I : Nat → Nat → Int32} {G : gr_T} {dr : Nat → Bool} {sh : Nat → Nat → Bool} {t : Nat} {v : Int32} (hQ : mq_T I G dr sh) (h : ¬ is_H (g_k G t)) : mq_T (up_I I 49 t v) (g_xy G (upd (g_x G) t v) (g_y G)) dr sh := by
  obtain ⟨⟨g1, g2, g3, g4, g5⟩, h2, h3, h4, h5⟩ := hQ
  refine ⟨⟨g1, by rw [up_I_ne (by omega)]; exact g2, by rw [up_I_ne (by omega)]; exact g3, by rw [up_I_ne (by omega)]; exact g4, fun u hu => ?_⟩, fun u hu => by rw [up_I_ne (by omega)]; exact h2 u hu, fun u hu => by rw [up_I_ne (by omega)]; exact h3 u hu, h4, fun u hu hh => ?_⟩
  · have e := g5 u hu
    rw [up_I_ne (by omega), up_I_eq, up_I_ne (by omega), up_I_ne (by omega), up_I_ne (by omega)]
    refine ⟨e.1, ?_, e.2.2⟩
    show upd (I 49) t v u = upd (g_x G) t v u
    by_cases q : u = t
    · simp [upd, q]
    · simp only [upd, if_neg q]; exact e.2.1
  · have hu2 : u < g_n G := hu
    have hh2 : is_H (g_k G u) := hh
    have ne : u ≠ t := fun e => h (e ▸ hh2)
    obtain ⟨⟨p, q, k1, k2, k3, k4⟩, k5⟩ := h5 u hu2 hh2
    exact ⟨⟨p, q, k1, k2, (if_neg ne).trans k3, k4⟩, k5⟩
theorem c_X5_felled (l : Launch) {I : Nat → Nat → Int32} {L : Nat → Nat → Int64} {Rf : Nat → Nat → Option Nat} {n : Nat} {S : sg_T} (W : wd_T Rf n) (hM : MR_T I L S) (hI : IV_T S) {t : Int32} : wm_C l mX5_felled 19 0 0 [vv_A (some 46), vv_I t] (I, L, Rf, n) (q_M (f_felled S t).1 (f_felled S t).2 I L Rf n) := by
  refine wm_of (by decide) (Nat.le_of_ble_eq_true rfl) rfl ?_
  have hQ : mq_T I (z_G S) (b_dr (z_B S)) (b_sh (z_B S)) := mg_mq hM.1 hI.1
  have hG := hQ.1
  have h8 : g_n (z_G S) ≤ 8 := hI.1.1
  have hr : hr_T (z_G S) := hI.1.2.1
  refine ra_0 oX5_felled_0 ?_
  refine ri_1 oX5_felled_1 ?_
  refine rr_cVi (c_X5_isThing l W hQ) oX5_felled_2 (cv_X5_87 rfl) (by decide) kk_46 (by decide) hcn_5 (wd_lt W rfl) rfl rfl (Nat.le_of_ble_eq_true rfl) ?_
  refine rr_ifb_ne (tgt := 14) oX5_felled_5 (by decide) (fun c => ?_) (fun c => ?_)
  · obtain ⟨a, ha, rfl⟩ := ix_of c.1 c.2 (by omega)
    have exa : ix_N (nI a) = a := nI_clamp (by omega)
    refine ra_0 oX5_felled_14 ?_
    refine ri_1 oX5_felled_15 ?_
    refine rr_cVi (c_X5_isHouse l W hQ ha) oX5_felled_16 (cv_X5_91 rfl) (by decide) kk_46 (by decide) hcn_5 (wd_lt W rfl) rfl rfl (Nat.le_of_ble_eq_true rfl) ?_
    refine rr_ifb_eq (tgt := 29) oX5_felled_19 (by decide) (fun c1 => ?_) (fun c1 => ?_)
    · refine ra_0 oX5_felled_29 ?_
      refine ra_0 oX5_felled_30 ?_
      refine rr_cVi (c_X5_allRight l W hQ) oX5_felled_31 (cv_X5_210 rfl) (by decide) kk_46 (by decide) hcn_5 (wd_lt W rfl) rfl rfl (Nat.le_of_ble_eq_true rfl) ?_
      refine rr_cVi (c_X5_many l) oX5_felled_34 (cv_X5_107 rfl) (by decide) kk_46 (by decide) hcn_5 (wd_lt W rfl) rfl rfl (Nat.le_of_ble_eq_true rfl) ?_
      refine si_2 oX5_felled_37 rfl rfl ?_
      refine ra_0 oX5_felled_38 ?_
      refine rr_gr (v := 49) oX5_felled_39 (ff_X5_29 rfl) kk_46 (wd_lt W rfl) ⟨by decide, rfl⟩ (wd_r W rfl rfl) ?_
      refine ri_1 oX5_felled_42 ?_
      refine rr_iv oX5_felled_43 kk_49 (wd_lt W rfl) rfl (by omega) (by decide) (mv_x hG (by omega)) ?_
      refine si_3 oX5_felled_44 rfl rfl ?_
      refine ra_0 oX5_felled_45 ?_
      refine rr_gr (v := 49) oX5_felled_46 (ff_X5_29 rfl) kk_46 (wd_lt W rfl) ⟨by decide, rfl⟩ (wd_r W rfl rfl) ?_
      refine ri_1 oX5_felled_49 ?_
      refine rr_bipush (v := (-100)) oX5_felled_50 (by decide) ?_
      refine rr_ist oX5_felled_52 kk_49 (wd_lt W rfl) rfl (by omega) (by decide) ?_
      refine ra_0 oX5_felled_53 ?_
      refine ra_0 oX5_felled_54 ?_
      refine rr_cVi (c_X5_allRight l W (mq_fl (t := a) (v := -100) hQ c1)) oX5_felled_55 (cv_X5_210 rfl) (by decide) kk_46 (by decide) hcn_5 (wd_lt W rfl) rfl rfl (Nat.le_of_ble_eq_true rfl) ?_
      refine rr_cVi (c_X5_many l) oX5_felled_58 (cv_X5_107 rfl) (by decide) kk_46 (by decide) hcn_5 (wd_lt W rfl) rfl rfl (Nat.le_of_ble_eq_true rfl) ?_
      refine ri_2 oX5_felled_61 ?_
      refine rr_isub oX5_felled_62 ?_
      refine si_2 oX5_felled_63 rfl rfl ?_
      refine ra_0 oX5_felled_64 ?_
      refine rr_gr (v := 49) oX5_felled_65 (ff_X5_29 rfl) kk_46 (wd_lt W rfl) ⟨by decide, rfl⟩ (wd_r W rfl rfl) ?_
      refine ri_1 oX5_felled_68 ?_
      refine ri_3 oX5_felled_69 ?_
      refine rr_ist oX5_felled_70 kk_49 (wd_lt W rfl) rfl (by omega) (by decide) ?_
      rw [up_bk (mv_x hG (by omega)).symm]
      refine ri_2 oX5_felled_71 ?_
      exact rr_ireturn oX5_felled_72 rfl rfl (q_M_an hM me_rf (show f_felled S (nI a) = (_, S) from by rw [f_felled, if_neg (fun q => q c), if_neg (by rw [hs_T, exa]; exact c1), exa]) (by rw [ri_fl hr c1]))
    · refine ra_0 oX5_felled_22 ?_
      refine rr_bipush (v := (-2)) oX5_felled_23 (by decide) ?_
      refine rr_cVi (c_X5_noMuch l W (c := 2) (by decide) (by decide)) oX5_felled_25 (cv_X5_245 rfl) (by decide) kk_46 (by decide) hcn_5 (wd_lt W rfl) rfl rfl (Nat.le_of_ble_eq_true rfl) ?_
      exact rr_ireturn oX5_felled_28 rfl rfl (q_M_nod (r := -2) hM me_rf (show _ = ((-2 : Int32) - 1000, w_no S (no_c (-2))) from by rw [f_felled, if_neg (fun q => q c), if_pos (by rw [hs_T, exa]; exact c1)]; rfl) (by decide))
  · refine ra_0 oX5_felled_8 ?_
    refine rk_m1 oX5_felled_9 ?_
    refine rr_cVi (c_X5_noMuch l W (c := 1) (by decide) (by decide)) oX5_felled_10 (cv_X5_245 rfl) (by decide) kk_46 (by decide) hcn_5 (wd_lt W rfl) rfl rfl (Nat.le_of_ble_eq_true rfl) ?_
    exact rr_ireturn oX5_felled_13 rfl rfl (q_M_nod (r := -1) hM me_rf (show _ = ((-1 : Int32) - 1000, w_no S (no_c (-1))) from by rw [f_felled, if_pos c]; rfl) (by decide))
