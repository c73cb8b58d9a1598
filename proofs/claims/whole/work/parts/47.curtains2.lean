/-! the model: curtains (by program: wip/whole/c47.py) -/
theorem mq_ws {I J : Nat → Nat → Int32} {G : gr_T} {dr : Nat → Bool} {sh : Nat → Nat → Bool} {s : Int32} (h : mq_T I G dr sh) (h1 : J 46 1 = s) (h0 : ∀ f, f < 3 → f ≠ 1 → J 46 f = I 46 f) (ha : ∀ a, 48 ≤ a → a ≤ 54 → J a = I a) : mq_T J (g_ws G s) dr sh := by
  obtain ⟨⟨g1, g2, g3, g4, g5⟩, h2, h3, h4, h5⟩ := h
  exact ⟨⟨g1, by rw [h0 0 (by omega) (by omega)]; exact g2, h1, by rw [h0 2 (by omega) (by omega)]; exact g4, fun t ht => by rw [ha 48 (by omega) (by omega), ha 49 (by omega) (by omega), ha 50 (by omega) (by omega), ha 51 (by omega) (by omega), ha 52 (by omega) (by omega)]; exact g5 t ht⟩, fun t ht => by rw [ha 53 (by omega) (by omega)]; exact h2 t ht, fun t ht => by rw [ha 54 (by omega) (by omega)]; exact h3 t ht, h4, h5⟩
theorem mq_dr {I J : Nat → Nat → Int32} {G : gr_T} {dr d2 : Nat → Bool} {sh : Nat → Nat → Bool} (h : mq_T I G dr sh) (hd : ∀ t, t < 8 → J 53 t = if d2 t = true then 1 else 0) (hJ : ∀ a, a ≠ 53 → J a = I a) : mq_T J G d2 sh := by
  obtain ⟨⟨g1, g2, g3, g4, g5⟩, h2, h3, h4, h5⟩ := h
  exact ⟨⟨g1, by rw [hJ 46 (by omega)]; exact g2, by rw [hJ 46 (by omega)]; exact g3, by rw [hJ 46 (by omega)]; exact g4, fun t ht => by rw [hJ 48 (by omega), hJ 49 (by omega), hJ 50 (by omega), hJ 51 (by omega), hJ 52 (by omega)]; exact g5 t ht⟩, hd, fun t ht => by rw [hJ 54 (by omega)]; exact h3 t ht, h4, h5⟩
theorem lp_X5_draws (l : Launch) {I : Nat → Nat → Int32} {L : Nat → Nat → Int64} {Rf : Nat → Nat → Option Nat} {n : Nat} {G : gr_T} {dr p : Nat → Bool} {sh : Nat → Nat → Bool} (W : wd_T Rf n) (hQ : mq_T I G dr sh) (hp : ∀ t, t < 8 → g_n G ≤ t → p t = dr t) {x : Int32} (hx : x = st_S p) : ∀ m (J : Nat → Nat → Int32) t, t + m = g_n G → (∀ i, i < 8 → J 53 i = if i < t then (if p i = true then 1 else 0) else I 53 i) → (∀ a, a ≠ 53 → J a = I a) → wm_W l mX5_draws 1 0 0 2 [vv_A (some 46), vv_I x, vv_I (nI t)] [] (J, L, Rf, n) (q_m (fun J => mq_T J G p sh ∧ ∀ a, a ≠ 53 → J a = I a) L Rf n) := by
  intro m
  induction m with
  | zero =>
    intro J t ht h1 h2
    have h8 := mv_8 hQ.1
    refine ri_2 oX5_draws_2 ?_
    refine ra_0 oX5_draws_3 ?_
    refine rr_giv oX5_draws_4 (ff_X5_84 rfl) kk_46 (wd_lt W rfl) ⟨by decide, rfl⟩ (show _ = nI (g_n G) from by rw [h2 46 (by omega)]; exact hQ.1.2.1) ?_
    refine rr_icmp_ge (tgt := 27) oX5_draws_7 (by decide) (fun c => ?_) (fun c => ?_)
    rotate_left
    · exact absurd c (by rw [nI_le_iff (by omega) (by omega)]; omega)
    exact rr_return oX5_draws_27 rfl (q_m_of ⟨mq_dr hQ (fun i hi => by
          rw [h1 i hi]
          by_cases q : i < t
          · rw [if_pos q]
          · rw [if_neg q, hQ.2.1 i hi, hp i hi (by omega)]) h2, h2⟩)
  | succ m ih =>
    intro J t ht h1 h2
    have h8 := mv_8 hQ.1
    refine ri_2 oX5_draws_2 ?_
    refine ra_0 oX5_draws_3 ?_
    refine rr_giv oX5_draws_4 (ff_X5_84 rfl) kk_46 (wd_lt W rfl) ⟨by decide, rfl⟩ (show _ = nI (g_n G) from by rw [h2 46 (by omega)]; exact hQ.1.2.1) ?_
    refine rr_icmp_ge (tgt := 27) oX5_draws_7 (by decide) (fun c => ?_) (fun c => ?_)
    · (rw [nI_le_iff (by omega) (by omega)] at c; omega)
    refine ra_0 oX5_draws_10 ?_
    refine rr_gr (v := 53) oX5_draws_11 (ff_X5_41 rfl) kk_46 (wd_lt W rfl) ⟨by decide, rfl⟩ (wd_r W rfl rfl) ?_
    refine ri_2 oX5_draws_14 ?_
    refine ri_1 oX5_draws_15 ?_
    refine ri_2 oX5_draws_16 ?_
    refine rr_ishr oX5_draws_17 ?_
    refine rk_1 oX5_draws_18 ?_
    refine rr_iand oX5_draws_19 ?_
    rw [show x >>> (nI t &&& 31) &&& 1 = (if p t = true then 1 else 0) from by rw [hx]; exact st_sh (by omega)]
    refine rr_ist oX5_draws_20 kk_53 (wd_lt W rfl) rfl (by omega) (by decide) ?_
    refine rn_2 oX5_draws_21 rfl rfl ?_
    refine rr_goto (tgt := 2) oX5_draws_24 (by decide) ?_
    refine ih _ (t + 1) (by omega) (fun i hi => ?_) (fun a ha => by rw [up_I_ne ha]; exact h2 a ha)
    rw [up_I_eq]
    by_cases q : i = t
    · subst q
      simp only [upd, if_true]
      rw [if_pos (show i < i + 1 by omega)]
    · simp only [upd, if_neg q]
      rw [h1 i hi]
      by_cases y : i < t
      · rw [if_pos y, if_pos (show i < t + 1 by omega)]
      · rw [if_neg y, if_neg (show ¬ i < t + 1 by omega)]
theorem c_X5_draws (l : Launch) {I : Nat → Nat → Int32} {L : Nat → Nat → Int64} {Rf : Nat → Nat → Option Nat} {n : Nat} {G : gr_T} {dr p : Nat → Bool} {sh : Nat → Nat → Bool} (W : wd_T Rf n) (hQ : mq_T I G dr sh) (hp : ∀ t, t < 8 → g_n G ≤ t → p t = dr t) {x : Int32} (hx : x = st_S p) : wm_C l mX5_draws 1 0 0 [vv_A (some 46), vv_I x] (I, L, Rf, n) (q_m (fun J => mq_T J G p sh ∧ ∀ a, a ≠ 53 → J a = I a) L Rf n) := by
  refine wm_of (by decide) (Nat.le_of_ble_eq_true rfl) rfl ?_
  refine rk_0 oX5_draws_0 ?_
  refine si_2 oX5_draws_1 rfl rfl ?_
  exact lp_X5_draws l W hQ hp hx (g_n G) I 0 (Nat.zero_add _) (fun i _ => by rw [if_neg (by omega)]) (fun _ _ => rfl)
theorem c_X5_manyN (l : Launch) {I : Nat → Nat → Int32} {L : Nat → Nat → Int64} {Rf : Nat → Nat → Option Nat} {n : Nat} {s : Nat} (hs : s < 256) : wm_C l mX5_many 1 0 0 [vv_A (some 46), vv_I (nI s)] (I, L, Rf, n) (q_i (nI (cn_8 (tb_N s))) (I, L, Rf, n)) := by
  rw [st_tb s hs]
  exact c_X5_many l
theorem c_X5_rightInBoth (l : Launch) {I : Nat → Nat → Int32} {L : Nat → Nat → Int64} {Rf : Nat → Nat → Option Nat} {n : Nat} {G : gr_T} {dr : Nat → Bool} {sh : Nat → Nat → Bool} (W : wd_T Rf n) (hQ : mq_T I G dr sh) : wm_C l mX5_rightInBoth 19 0 0 [vv_A (some 46)] (I, L, Rf, n) (q_n (fun v J => v = nI (cn_8 (p_ri (g_ws G 0) dr sh) + cn_8 (p_ri (g_ws G 1) dr sh)) ∧ (∀ f, J 46 f = I 46 f) ∧ ∀ a, a ≠ 46 → J a = I a) L Rf n) := by
  refine wm_of (by decide) (Nat.le_of_ble_eq_true rfl) rfl ?_
  refine ra_0 oX5_rightInBoth_0 ?_
  refine rr_giv oX5_rightInBoth_1 (ff_X5_7 rfl) kk_46 (wd_lt W rfl) ⟨by decide, rfl⟩ hQ.1.2.2.1 ?_
  refine si_1 oX5_rightInBoth_4 rfl rfl ?_
  refine rk_0 oX5_rightInBoth_5 ?_
  refine si_2 oX5_rightInBoth_6 rfl rfl ?_
  refine ra_0 oX5_rightInBoth_7 ?_
  refine rk_0 oX5_rightInBoth_8 ?_
  refine rr_pi oX5_rightInBoth_9 (ff_X5_7 rfl) kk_46 (wd_lt W rfl) ⟨by decide, rfl, by decide⟩ pf_5_1 ⟨rfl, rfl⟩ ?_
  refine ra_0 oX5_rightInBoth_12 ?_
  refine rr_giv oX5_rightInBoth_13 (ff_X5_7 rfl) kk_46 (wd_lt W rfl) ⟨by decide, rfl⟩ (show _ = (0 : Int32) from up_I_at) ?_
  refine rk_2 oX5_rightInBoth_16 ?_
  refine rr_icmp_ge (tgt := 44) oX5_rightInBoth_17 (by decide) (fun q => absurd q (by decide)) (fun _ => ?_)
  refine ri_2 oX5_rightInBoth_20 ?_
  refine ra_0 oX5_rightInBoth_21 ?_
  refine ra_0 oX5_rightInBoth_22 ?_
  refine rr_cVi (c_X5_allRight l W (mq_ws (s := 0) hQ up_I_at (fun f _ q => up_I_at_ne q) (fun a q1 q2 => up_I_ne (by omega)))) oX5_rightInBoth_23 (cv_X5_210 rfl) (by decide) kk_46 (by decide) hcn_5 (wd_lt W rfl) rfl rfl (Nat.le_of_ble_eq_true rfl) ?_
  refine rr_cVi (c_X5_many l) oX5_rightInBoth_26 (cv_X5_107 rfl) (by decide) kk_46 (by decide) hcn_5 (wd_lt W rfl) rfl rfl (Nat.le_of_ble_eq_true rfl) ?_
  refine rr_iadd oX5_rightInBoth_29 ?_
  refine si_2 oX5_rightInBoth_30 rfl rfl ?_
  refine ra_0 oX5_rightInBoth_31 ?_
  refine rr_dup oX5_rightInBoth_32 rfl ?_
  refine rr_giv oX5_rightInBoth_33 (ff_X5_7 rfl) kk_46 (wd_lt W rfl) ⟨by decide, rfl⟩ (show _ = (0 : Int32) from up_I_at) ?_
  refine rk_1 oX5_rightInBoth_36 ?_
  refine rr_iadd oX5_rightInBoth_37 ?_
  refine rr_pi oX5_rightInBoth_38 (ff_X5_7 rfl) kk_46 (wd_lt W rfl) ⟨by decide, rfl, by decide⟩ pf_5_1 ⟨rfl, rfl⟩ ?_
  refine rr_goto (tgt := 12) oX5_rightInBoth_41 (by decide) ?_
  refine ra_0 oX5_rightInBoth_12 ?_
  refine rr_giv oX5_rightInBoth_13 (ff_X5_7 rfl) kk_46 (wd_lt W rfl) ⟨by decide, rfl⟩ (show _ = (1 : Int32) from up_I_at) ?_
  refine rk_2 oX5_rightInBoth_16 ?_
  refine rr_icmp_ge (tgt := 44) oX5_rightInBoth_17 (by decide) (fun q => absurd q (by decide)) (fun _ => ?_)
  refine ri_2 oX5_rightInBoth_20 ?_
  refine ra_0 oX5_rightInBoth_21 ?_
  refine ra_0 oX5_rightInBoth_22 ?_
  refine rr_cVi (c_X5_allRight l W (mq_ws (s := 1) hQ up_I_at (fun f _ q => by rw [up_I_at_ne q, up_I_at_ne q]) (fun a q1 q2 => by rw [up_I_ne (by omega), up_I_ne (by omega)]))) oX5_rightInBoth_23 (cv_X5_210 rfl) (by decide) kk_46 (by decide) hcn_5 (wd_lt W rfl) rfl rfl (Nat.le_of_ble_eq_true rfl) ?_
  refine rr_cVi (c_X5_many l) oX5_rightInBoth_26 (cv_X5_107 rfl) (by decide) kk_46 (by decide) hcn_5 (wd_lt W rfl) rfl rfl (Nat.le_of_ble_eq_true rfl) ?_
  refine rr_iadd oX5_rightInBoth_29 ?_
  refine si_2 oX5_rightInBoth_30 rfl rfl ?_
  refine ra_0 oX5_rightInBoth_31 ?_
  refine rr_dup oX5_rightInBoth_32 rfl ?_
  refine rr_giv oX5_rightInBoth_33 (ff_X5_7 rfl) kk_46 (wd_lt W rfl) ⟨by decide, rfl⟩ (show _ = (1 : Int32) from up_I_at) ?_
  refine rk_1 oX5_rightInBoth_36 ?_
  refine rr_iadd oX5_rightInBoth_37 ?_
  refine rr_pi oX5_rightInBoth_38 (ff_X5_7 rfl) kk_46 (wd_lt W rfl) ⟨by decide, rfl, by decide⟩ pf_5_1 ⟨rfl, rfl⟩ ?_
  refine rr_goto (tgt := 12) oX5_rightInBoth_41 (by decide) ?_
  refine ra_0 oX5_rightInBoth_12 ?_
  refine rr_giv oX5_rightInBoth_13 (ff_X5_7 rfl) kk_46 (wd_lt W rfl) ⟨by decide, rfl⟩ (show _ = (2 : Int32) from up_I_at) ?_
  refine rk_2 oX5_rightInBoth_16 ?_
  refine rr_icmp_ge (tgt := 44) oX5_rightInBoth_17 (by decide) (fun _ => ?_) (fun q => absurd q (by decide))
  refine ra_0 oX5_rightInBoth_44 ?_
  refine ri_1 oX5_rightInBoth_45 ?_
  refine rr_pi oX5_rightInBoth_46 (ff_X5_7 rfl) kk_46 (wd_lt W rfl) ⟨by decide, rfl, by decide⟩ pf_5_1 ⟨rfl, rfl⟩ ?_
  refine ri_2 oX5_rightInBoth_49 ?_
  exact rr_ireturn oX5_rightInBoth_50 rfl rfl (q_n_of ⟨by rw [← nI_add]; congr 1; exact Int32.zero_add _, fun f => by
      by_cases q : f = 1
      · rw [q, up_I_at]; exact hQ.1.2.2.1.symm
      · rw [up_I_at_ne q, up_I_at_ne q, up_I_at_ne q, up_I_at_ne q], fun a ha => by rw [up_I_ne ha, up_I_ne ha, up_I_ne ha, up_I_ne ha]⟩)
theorem w4_of {w : Int32} (h : ¬ (w < 0 ∨ 3 < w)) : w = 0 ∨ w = 1 ∨ w = 2 ∨ w = 3 := by
  have g1 := Int32.le_iff_toInt_le.mp (Int32.not_lt.mp (fun q => h (Or.inl q)))
  have g2 := Int32.le_iff_toInt_le.mp (Int32.not_lt.mp (fun q => h (Or.inr q)))
  rw [show (0 : Int32).toInt = 0 by decide] at g1
  rw [show (3 : Int32).toInt = 3 by decide] at g2
  rcases (show w.toInt = 0 ∨ w.toInt = 1 ∨ w.toInt = 2 ∨ w.toInt = 3 by omega) with q | q | q | q
  · exact Or.inl (Int32.toInt_inj.mp (q.trans (by decide)))
  · exact Or.inr (Or.inl (Int32.toInt_inj.mp (q.trans (by decide))))
  · exact Or.inr (Or.inr (Or.inl (Int32.toInt_inj.mp (q.trans (by decide)))))
  · exact Or.inr (Or.inr (Or.inr (Int32.toInt_inj.mp (q.trans (by decide)))))
theorem w4_par {w : Int32} (h : ¬ (w < 0 ∨ 3 < w)) : w - w / 2 * 2 = 0 ↔ (w = 0 ∨ w = 2) := by
  rcases w4_of h with rfl | rfl | rfl | rfl <;> decide
theorem tot_1 {S : sg_T} {w : Int32} {s : Nat} (h : w < 2) (hs : s_ok (z_G S) s = true) : k_tot S w s = cn_8 (p_ri (z_G S) (tb_N s) (b_sh (z_B S))) := by
  rw [k_tot, if_pos h, k_ad, if_pos hs]
  rfl
theorem tot_2 {S : sg_T} {w : Int32} {s : Nat} (h : ¬ w < 2) (hs : s_ok (z_G S) s = true) : k_tot S w s = cn_8 (p_ri (g_ws (z_G S) 0) (tb_N s) (b_sh (z_B S))) + cn_8 (p_ri (g_ws (z_G S) 1) (tb_N s) (b_sh (z_B S))) := by
  rw [k_tot, if_neg h, k_ad, k_ad, if_pos hs, if_pos hs]
theorem ok_0 {G : gr_T} : s_ok G 0 = true := by
  rw [s_ok, beq_iff_eq]
  refine st_e0.mpr (fun i _ => ?_)
  simp [tb_N]
theorem ok_n {G : gr_T} {s i : Nat} (h : s_ok G s = true) (hi : i < 8) (hn : g_n G ≤ i) : tb_N s i = false := by
  rw [s_ok, beq_iff_eq] at h
  have := st_e0.mp h i hi
  have e : p_h G i = false := by
    simp only [p_h]
    rw [show decide (i < g_n G) = false from decide_eq_false (by omega)]
    rfl
  rw [e] at this
  simpa using this
theorem lp_X5_curtains (l : Launch) {I : Nat → Nat → Int32} {L : Nat → Nat → Int64} {Rf : Nat → Nat → Option Nat} {n : Nat} {S : sg_T} (W : wd_T Rf n) (hM : MR_T I L S) (hI : IV_T S) {w : Int32} (hw : ¬ (w < 0 ∨ 3 < w)) : ∀ m (J : Nat → Nat → Int32) t b (dr : Nat → Bool) (w7 : vv_T), t + m = 256 → b < 256 → s_ok (z_G S) b = true → 1 ≤ t → mq_T J (z_G S) dr (b_sh (z_B S)) → (∀ i, i < 8 → g_n (z_G S) ≤ i → dr i = false) → (∀ f, J 46 f = I 46 f) → (∀ a, a ≠ 46 → a ≠ 53 → J a = I a) → k_best S w = bw_N (s_ok (z_G S)) (k_tot S w) (fun s => cn_8 (tb_N s)) m t b → wm_W l mX5_curtains 20 0 0 35 [vv_A (some 46), vv_I w, vv_I (st_S (b_dr (z_B S))), vv_I (st_S (p_h (z_G S))), vv_I (nI b), vv_I (nI (k_tot S w b)), vv_I (nI t), w7] [] (J, L, Rf, n) (q_M (f_curtains S w).1 (f_curtains S w).2 I L Rf n) := by
  intro m
  induction m with
  | zero =>
    intro J t b dr w7 ht hb hb1 ht1 hJ hdr h46 hfr hk
    have hQ : mq_T I (z_G S) (b_dr (z_B S)) (b_sh (z_B S)) := mg_mq hM.1 hI.1
    have hG := hQ.1
    have h8 : g_n (z_G S) ≤ 8 := hI.1.1
    have hr : hr_T (z_G S) := hI.1.2.1
    have ht16 := k_tot_16 S w t
    have hb16 := k_tot_16 S w b
    have hcb : cn_8 (tb_N b) ≤ 8 := cn_le _ 8
    have hct : cn_8 (tb_N t) ≤ 8 := cn_le _ 8
    refine ri_6 oX5_curtains_35 ?_
    refine rr_sipush (v := 256) oX5_curtains_37 (by decide) ?_
    refine rr_icmp_ge (tgt := 135) oX5_curtains_40 (by decide) (fun c => ?_) (fun c => ?_)
    rotate_left
    · exact absurd c (by rw [show (256 : Int32) = nI 256 from rfl, nI_le_iff (by omega) (by omega)]; omega)
    refine ra_0 oX5_curtains_135 ?_
    refine ri_2 oX5_curtains_136 ?_
    refine rr_cVm (c_X5_draws l W hJ (p := b_dr (z_B S)) (fun i hi hn => by rw [hdr i hi hn]; cases z : b_dr (z_B S) i with | false => rfl | true => exact absurd (hI.1.2.2.2.1 i z).1 (Nat.not_lt.mpr hn)) rfl) oX5_curtains_137 (cv_X5_238 rfl) (by decide) kk_46 (by decide) hcn_5 (wd_lt W rfl) rfl rfl (Nat.le_of_ble_eq_true rfl) (fun J2 hJ2 => ?_)
    obtain ⟨e1, e2⟩ := hJ2
    refine ri_1 oX5_curtains_140 ?_
    refine rk_2 oX5_curtains_141 ?_
    refine rr_irem oX5_curtains_142 (by decide) ?_
    refine rr_if_ne (tgt := 151) oX5_curtains_143 (by decide) (fun c3 => ?_) (fun c3 => ?_)
    · refine ri_5 oX5_curtains_151 ?_
      exact rr_ireturn oX5_curtains_153 rfl rfl (by
          have hfin : mg_T J2 (z_B S) := mg_mq2 (B := z_B S) e1 (by rw [e2 46 (by omega), h46]; exact hM.1.2.2.2.1) (by rw [e2 46 (by omega), h46]; exact hM.1.2.2.2.2)
          exact q_M_gr hM (B := z_B S) hfin (fun f q => by rw [e2 46 (by omega), h46]) (fun a q0 q1 q2 q3 q4 => by rw [e2 a (by omega)]; exact hfr a q0 (by omega)) (show f_curtains S w = (_, w_B S (z_B S)) from by rw [f_curtains, if_neg hw, if_neg (fun q => c3 ((w4_par hw).mpr q))]; rfl) (by rw [hk]; rfl))
    · refine ri_4 oX5_curtains_146 ?_
      refine rr_goto (tgt := 153) oX5_curtains_148 (by decide) ?_
      exact rr_ireturn oX5_curtains_153 rfl rfl (by
          have hfin : mg_T J2 (z_B S) := mg_mq2 (B := z_B S) e1 (by rw [e2 46 (by omega), h46]; exact hM.1.2.2.2.1) (by rw [e2 46 (by omega), h46]; exact hM.1.2.2.2.2)
          exact q_M_gr hM (B := z_B S) hfin (fun f q => by rw [e2 46 (by omega), h46]) (fun a q0 q1 q2 q3 q4 => by rw [e2 a (by omega)]; exact hfr a q0 (by omega)) (show f_curtains S w = (_, w_B S (z_B S)) from by rw [f_curtains, if_neg hw, if_pos ((w4_par hw).mp c3)]; rfl) (by rw [hk]; rfl))
  | succ m ih =>
    intro J t b dr w7 ht hb hb1 ht1 hJ hdr h46 hfr hk
    have hQ : mq_T I (z_G S) (b_dr (z_B S)) (b_sh (z_B S)) := mg_mq hM.1 hI.1
    have hG := hQ.1
    have h8 : g_n (z_G S) ≤ 8 := hI.1.1
    have hr : hr_T (z_G S) := hI.1.2.1
    have ht16 := k_tot_16 S w t
    have hb16 := k_tot_16 S w b
    have hcb : cn_8 (tb_N b) ≤ 8 := cn_le _ 8
    have hct : cn_8 (tb_N t) ≤ 8 := cn_le _ 8
    refine ri_6 oX5_curtains_35 ?_
    refine rr_sipush (v := 256) oX5_curtains_37 (by decide) ?_
    refine rr_icmp_ge (tgt := 135) oX5_curtains_40 (by decide) (fun c => ?_) (fun c => ?_)
    · (rw [show (256 : Int32) = nI 256 from rfl, nI_le_iff (by omega) (by omega)] at c; omega)
    refine ri_6 oX5_curtains_43 ?_
    refine ri_3 oX5_curtains_45 ?_
    refine rk_m1 oX5_curtains_46 ?_
    refine rr_ixor oX5_curtains_47 ?_
    refine rr_iand oX5_curtains_48 ?_
    refine rr_if_eq (tgt := 55) oX5_curtains_49 (by decide) (fun c1 => ?_) (fun c1 => ?_)
    · have hok : s_ok (z_G S) t = true := (ok_iff (by omega)).mpr c1
      refine ra_0 oX5_curtains_55 ?_
      refine ri_6 oX5_curtains_56 ?_
      refine rr_cVm (c_X5_draws l W hJ (p := tb_N t) (fun i hi hn => by rw [ok_n hok hi hn, hdr i hi hn]) (st_tb t (by omega))) oX5_curtains_58 (cv_X5_238 rfl) (by decide) kk_46 (by decide) hcn_5 (wd_lt W rfl) rfl rfl (Nat.le_of_ble_eq_true rfl) (fun Jd hJd => ?_)
      obtain ⟨hJ1, hfr0⟩ := hJd
      have h461 : ∀ f, Jd 46 f = I 46 f := fun f => (congrFun (hfr0 46 (by omega)) f).trans (h46 f)
      have hfr1 : ∀ a, a ≠ 46 → a ≠ 53 → Jd a = I a := fun a q1 q2 => (hfr0 a q2).trans (hfr a q1 q2)
      refine ri_1 oX5_curtains_61 ?_
      refine rk_2 oX5_curtains_62 ?_
      refine rr_icmp_ge (tgt := 77) oX5_curtains_63 (by decide) (fun c2 => ?_) (fun c2 => ?_)
      · refine ra_0 oX5_curtains_77 ?_
        refine rr_cVn (c_X5_rightInBoth l W hJ1) oX5_curtains_78 (cv_X5_242 rfl) (by decide) kk_46 (by decide) hcn_5 (wd_lt W rfl) rfl rfl (Nat.le_of_ble_eq_true rfl) (fun vr Jr hJr => ?_)
        obtain ⟨rfl, r46, rfr⟩ := hJr
        rw [← tot_2 (fun q => Int32.not_lt.mpr c2 q) hok]
        replace hJ1 := mq_ce hJ1 (fun f _ => r46 f) (fun a q1 q2 => rfr a (by omega))
        replace h461 : ∀ f, Jr 46 f = I 46 f := fun f => by rw [r46]; exact h461 f
        replace hfr1 : ∀ a, a ≠ 46 → a ≠ 53 → Jr a = I a := fun a q1 q2 => by rw [rfr a q1]; exact hfr1 a q1 q2
        refine si_7 oX5_curtains_81 rfl rfl ?_
        refine ri_4 oX5_curtains_83 ?_
        refine rk_m1 oX5_curtains_85 ?_
        refine rr_icmp_eq (tgt := 121) oX5_curtains_86 (by decide) (fun cx => ?_) (fun cx => ?_)
        · exact absurd cx (nI_nm1 (by omega))
        refine ri_7 oX5_curtains_89 ?_
        refine ri_5 oX5_curtains_91 ?_
        refine rr_icmp_lt (tgt := 129) oX5_curtains_93 (by decide) (fun c3 => ?_) (fun c3 => ?_)
        · refine rn_6 oX5_curtains_129 rfl rfl ?_
          refine rr_goto (tgt := 35) oX5_curtains_132 (by decide) ?_
          refine ih _ (t + 1) b (tb_N t) _ (by omega) (by omega) hb1 (by omega) hJ1 (fun i hi hn => ok_n hok hi hn) h461 hfr1 ?_
          rw [hk]
          simp only [bw_N]
          rw [if_neg (fun q => by obtain ⟨-, q⟩ := q; rw [nI_lt_iff (by omega) (by omega)] at c3; omega)]
        · refine ri_7 oX5_curtains_96 ?_
          refine ri_5 oX5_curtains_98 ?_
          refine rr_icmp_ne (tgt := 121) oX5_curtains_100 (by decide) (fun c4 => ?_) (fun c4 => ?_)
          · refine ri_6 oX5_curtains_121 ?_
            refine si_4 oX5_curtains_123 rfl rfl ?_
            refine ri_7 oX5_curtains_125 ?_
            refine si_5 oX5_curtains_127 rfl rfl ?_
            refine rn_6 oX5_curtains_129 rfl rfl ?_
            refine rr_goto (tgt := 35) oX5_curtains_132 (by decide) ?_
            refine ih _ (t + 1) t (tb_N t) _ (by omega) (by omega) hok (by omega) hJ1 (fun i hi hn => ok_n hok hi hn) h461 hfr1 ?_
            rw [hk]
            simp only [bw_N]
            rw [if_pos ⟨hok, (by rw [nI_lt_iff (by omega) (by omega)] at c3; rw [nI_inj (by omega) (by omega)] at c4; omega)⟩]
          · refine ra_0 oX5_curtains_103 ?_
            refine ri_6 oX5_curtains_104 ?_
            refine rr_cVi (c_X5_manyN l (by omega)) oX5_curtains_106 (cv_X5_107 rfl) (by decide) kk_46 (by decide) hcn_5 (wd_lt W rfl) rfl rfl (Nat.le_of_ble_eq_true rfl) ?_
            refine ra_0 oX5_curtains_109 ?_
            refine ri_4 oX5_curtains_110 ?_
            refine rr_cVi (c_X5_manyN l (by omega)) oX5_curtains_112 (cv_X5_107 rfl) (by decide) kk_46 (by decide) hcn_5 (wd_lt W rfl) rfl rfl (Nat.le_of_ble_eq_true rfl) ?_
            refine rr_icmp_lt (tgt := 121) oX5_curtains_115 (by decide) (fun c5 => ?_) (fun c5 => ?_)
            · refine ri_6 oX5_curtains_121 ?_
              refine si_4 oX5_curtains_123 rfl rfl ?_
              refine ri_7 oX5_curtains_125 ?_
              refine si_5 oX5_curtains_127 rfl rfl ?_
              refine rn_6 oX5_curtains_129 rfl rfl ?_
              refine rr_goto (tgt := 35) oX5_curtains_132 (by decide) ?_
              refine ih _ (t + 1) t (tb_N t) _ (by omega) (by omega) hok (by omega) hJ1 (fun i hi hn => ok_n hok hi hn) h461 hfr1 ?_
              rw [hk]
              simp only [bw_N]
              rw [if_pos ⟨hok, (by rw [nI_inj (by omega) (by omega)] at c4; rw [nI_lt_iff (by omega) (by omega)] at c5; omega)⟩]
            · refine rr_goto (tgt := 129) oX5_curtains_118 (by decide) ?_
              refine rn_6 oX5_curtains_129 rfl rfl ?_
              refine rr_goto (tgt := 35) oX5_curtains_132 (by decide) ?_
              refine ih _ (t + 1) b (tb_N t) _ (by omega) (by omega) hb1 (by omega) hJ1 (fun i hi hn => ok_n hok hi hn) h461 hfr1 ?_
              rw [hk]
              simp only [bw_N]
              rw [if_neg (fun q => by obtain ⟨-, q⟩ := q; rw [nI_inj (by omega) (by omega)] at c4; rw [nI_lt_iff (by omega) (by omega)] at c5; omega)]
      · refine ra_0 oX5_curtains_66 ?_
        refine ra_0 oX5_curtains_67 ?_
        refine rr_cVi (c_X5_allRight l W hJ1) oX5_curtains_68 (cv_X5_210 rfl) (by decide) kk_46 (by decide) hcn_5 (wd_lt W rfl) rfl rfl (Nat.le_of_ble_eq_true rfl) ?_
        refine rr_cVi (c_X5_many l) oX5_curtains_71 (cv_X5_107 rfl) (by decide) kk_46 (by decide) hcn_5 (wd_lt W rfl) rfl rfl (Nat.le_of_ble_eq_true rfl) ?_
        rw [← tot_1 (Int32.not_le.mp c2) hok]
        refine rr_goto (tgt := 81) oX5_curtains_74 (by decide) ?_
        refine si_7 oX5_curtains_81 rfl rfl ?_
        refine ri_4 oX5_curtains_83 ?_
        refine rk_m1 oX5_curtains_85 ?_
        refine rr_icmp_eq (tgt := 121) oX5_curtains_86 (by decide) (fun cx => ?_) (fun cx => ?_)
        · exact absurd cx (nI_nm1 (by omega))
        refine ri_7 oX5_curtains_89 ?_
        refine ri_5 oX5_curtains_91 ?_
        refine rr_icmp_lt (tgt := 129) oX5_curtains_93 (by decide) (fun c3 => ?_) (fun c3 => ?_)
        · refine rn_6 oX5_curtains_129 rfl rfl ?_
          refine rr_goto (tgt := 35) oX5_curtains_132 (by decide) ?_
          refine ih _ (t + 1) b (tb_N t) _ (by omega) (by omega) hb1 (by omega) hJ1 (fun i hi hn => ok_n hok hi hn) h461 hfr1 ?_
          rw [hk]
          simp only [bw_N]
          rw [if_neg (fun q => by obtain ⟨-, q⟩ := q; rw [nI_lt_iff (by omega) (by omega)] at c3; omega)]
        · refine ri_7 oX5_curtains_96 ?_
          refine ri_5 oX5_curtains_98 ?_
          refine rr_icmp_ne (tgt := 121) oX5_curtains_100 (by decide) (fun c4 => ?_) (fun c4 => ?_)
          · refine ri_6 oX5_curtains_121 ?_
            refine si_4 oX5_curtains_123 rfl rfl ?_
            refine ri_7 oX5_curtains_125 ?_
            refine si_5 oX5_curtains_127 rfl rfl ?_
            refine rn_6 oX5_curtains_129 rfl rfl ?_
            refine rr_goto (tgt := 35) oX5_curtains_132 (by decide) ?_
            refine ih _ (t + 1) t (tb_N t) _ (by omega) (by omega) hok (by omega) hJ1 (fun i hi hn => ok_n hok hi hn) h461 hfr1 ?_
            rw [hk]
            simp only [bw_N]
            rw [if_pos ⟨hok, (by rw [nI_lt_iff (by omega) (by omega)] at c3; rw [nI_inj (by omega) (by omega)] at c4; omega)⟩]
          · refine ra_0 oX5_curtains_103 ?_
            refine ri_6 oX5_curtains_104 ?_
            refine rr_cVi (c_X5_manyN l (by omega)) oX5_curtains_106 (cv_X5_107 rfl) (by decide) kk_46 (by decide) hcn_5 (wd_lt W rfl) rfl rfl (Nat.le_of_ble_eq_true rfl) ?_
            refine ra_0 oX5_curtains_109 ?_
            refine ri_4 oX5_curtains_110 ?_
            refine rr_cVi (c_X5_manyN l (by omega)) oX5_curtains_112 (cv_X5_107 rfl) (by decide) kk_46 (by decide) hcn_5 (wd_lt W rfl) rfl rfl (Nat.le_of_ble_eq_true rfl) ?_
            refine rr_icmp_lt (tgt := 121) oX5_curtains_115 (by decide) (fun c5 => ?_) (fun c5 => ?_)
            · refine ri_6 oX5_curtains_121 ?_
              refine si_4 oX5_curtains_123 rfl rfl ?_
              refine ri_7 oX5_curtains_125 ?_
              refine si_5 oX5_curtains_127 rfl rfl ?_
              refine rn_6 oX5_curtains_129 rfl rfl ?_
              refine rr_goto (tgt := 35) oX5_curtains_132 (by decide) ?_
              refine ih _ (t + 1) t (tb_N t) _ (by omega) (by omega) hok (by omega) hJ1 (fun i hi hn => ok_n hok hi hn) h461 hfr1 ?_
              rw [hk]
              simp only [bw_N]
              rw [if_pos ⟨hok, (by rw [nI_inj (by omega) (by omega)] at c4; rw [nI_lt_iff (by omega) (by omega)] at c5; omega)⟩]
            · refine rr_goto (tgt := 129) oX5_curtains_118 (by decide) ?_
              refine rn_6 oX5_curtains_129 rfl rfl ?_
              refine rr_goto (tgt := 35) oX5_curtains_132 (by decide) ?_
              refine ih _ (t + 1) b (tb_N t) _ (by omega) (by omega) hb1 (by omega) hJ1 (fun i hi hn => ok_n hok hi hn) h461 hfr1 ?_
              rw [hk]
              simp only [bw_N]
              rw [if_neg (fun q => by obtain ⟨-, q⟩ := q; rw [nI_inj (by omega) (by omega)] at c4; rw [nI_lt_iff (by omega) (by omega)] at c5; omega)]
    · refine rr_goto (tgt := 129) oX5_curtains_52 (by decide) ?_
      refine rn_6 oX5_curtains_129 rfl rfl ?_
      refine rr_goto (tgt := 35) oX5_curtains_132 (by decide) ?_
      refine ih J (t + 1) b dr _ (by omega) (by omega) hb1 (by omega) hJ hdr h46 hfr ?_
      rw [hk]
      simp only [bw_N]
      rw [if_neg (fun q => c1 ((ok_iff (by omega)).mp q.1))]
theorem c_X5_curtains (l : Launch) {I : Nat → Nat → Int32} {L : Nat → Nat → Int64} {Rf : Nat → Nat → Option Nat} {n : Nat} {S : sg_T} (W : wd_T Rf n) (hM : MR_T I L S) (hI : IV_T S) {w : Int32} : wm_C l mX5_curtains 20 0 0 [vv_A (some 46), vv_I w] (I, L, Rf, n) (q_M (f_curtains S w).1 (f_curtains S w).2 I L Rf n) := by
  refine wm_of (by decide) (Nat.le_of_ble_eq_true rfl) rfl ?_
  have hQ : mq_T I (z_G S) (b_dr (z_B S)) (b_sh (z_B S)) := mg_mq hM.1 hI.1
  have hG := hQ.1
  have h8 : g_n (z_G S) ≤ 8 := hI.1.1
  have hr : hr_T (z_G S) := hI.1.2.1
  refine ri_1 oX5_curtains_0 ?_
  refine rr_if_lt (tgt := 9) oX5_curtains_1 (by decide) (fun c => ?_) (fun c => ?_)
  · refine ra_0 oX5_curtains_9 ?_
    refine rr_bipush (v := (-5)) oX5_curtains_10 (by decide) ?_
    refine rr_cVi (c_X5_no l W (c := 5) (by decide) (by decide)) oX5_curtains_12 (cv_X5_97 rfl) (by decide) kk_46 (by decide) hcn_5 (wd_lt W rfl) rfl rfl (Nat.le_of_ble_eq_true rfl) ?_
    exact rr_ireturn oX5_curtains_15 rfl rfl (q_M_noc hM me_rf (show _ = f_no S (-5) from by rw [f_curtains, if_pos (Or.inl c)]) (by decide) (by decide))
  · refine ri_1 oX5_curtains_4 ?_
    refine rk_3 oX5_curtains_5 ?_
    refine rr_icmp_le (tgt := 16) oX5_curtains_6 (by decide) (fun cw3 => ?_) (fun cw3 => ?_)
    · have hw : ¬ (w < 0 ∨ 3 < w) := by rintro (q | q); exact c q; exact Int32.not_lt.mpr cw3 q
      refine ra_0 oX5_curtains_16 ?_
      refine rr_cVi (c_X5_drawnOnes l W hQ (fun t q => (hI.1.2.2.2.1 t q).1)) oX5_curtains_17 (cv_X5_232 rfl) (by decide) kk_46 (by decide) hcn_5 (wd_lt W rfl) rfl rfl (Nat.le_of_ble_eq_true rfl) ?_
      refine si_2 oX5_curtains_20 rfl rfl ?_
      refine ra_0 oX5_curtains_21 ?_
      refine rr_cVi (c_X5_houses l W hQ) oX5_curtains_22 (cv_X5_235 rfl) (by decide) kk_46 (by decide) hcn_5 (wd_lt W rfl) rfl rfl (Nat.le_of_ble_eq_true rfl) ?_
      refine si_3 oX5_curtains_25 rfl rfl ?_
      refine rk_m1 oX5_curtains_26 ?_
      refine si_4 oX5_curtains_27 rfl rfl ?_
      refine rk_0 oX5_curtains_29 ?_
      refine si_5 oX5_curtains_30 rfl rfl ?_
      refine rk_0 oX5_curtains_32 ?_
      refine si_6 oX5_curtains_33 rfl rfl ?_
      refine ri_6 oX5_curtains_35 ?_
      refine rr_sipush (v := 256) oX5_curtains_37 (by decide) ?_
      refine rr_icmp_ge (tgt := 135) oX5_curtains_40 (by decide) (fun q => absurd q (by decide)) (fun _ => ?_)
      refine ri_6 oX5_curtains_43 ?_
      refine ri_3 oX5_curtains_45 ?_
      refine rk_m1 oX5_curtains_46 ?_
      refine rr_ixor oX5_curtains_47 ?_
      refine rr_iand oX5_curtains_48 ?_
      refine rr_if_eq (tgt := 55) oX5_curtains_49 (by decide) (fun c1 => ?_) (fun c1 => ?_)
      rotate_left
      · exact absurd (Int32.zero_and) c1
      have hok : s_ok (z_G S) 0 = true := ok_0
      have hJ := hQ
      have h46 : ∀ f, I 46 f = I 46 f := fun _ => rfl
      have hfr : ∀ a, a ≠ 46 → a ≠ 53 → I a = I a := fun _ _ _ => rfl
      refine ra_0 oX5_curtains_55 ?_
      refine ri_6 oX5_curtains_56 ?_
      refine rr_cVm (c_X5_draws l W hJ (p := tb_N 0) (fun i hi hn => by rw [ok_n hok hi hn]; cases z : b_dr (z_B S) i with | false => rfl | true => exact absurd (hI.1.2.2.2.1 i z).1 (Nat.not_lt.mpr hn)) (st_tb 0 (by omega))) oX5_curtains_58 (cv_X5_238 rfl) (by decide) kk_46 (by decide) hcn_5 (wd_lt W rfl) rfl rfl (Nat.le_of_ble_eq_true rfl) (fun Jd hJd => ?_)
      obtain ⟨hJ1, hfr0⟩ := hJd
      have h461 : ∀ f, Jd 46 f = I 46 f := fun f => (congrFun (hfr0 46 (by omega)) f).trans (h46 f)
      have hfr1 : ∀ a, a ≠ 46 → a ≠ 53 → Jd a = I a := fun a q1 q2 => (hfr0 a q2).trans (hfr a q1 q2)
      refine ri_1 oX5_curtains_61 ?_
      refine rk_2 oX5_curtains_62 ?_
      refine rr_icmp_ge (tgt := 77) oX5_curtains_63 (by decide) (fun c2 => ?_) (fun c2 => ?_)
      · refine ra_0 oX5_curtains_77 ?_
        refine rr_cVn (c_X5_rightInBoth l W hJ1) oX5_curtains_78 (cv_X5_242 rfl) (by decide) kk_46 (by decide) hcn_5 (wd_lt W rfl) rfl rfl (Nat.le_of_ble_eq_true rfl) (fun vr Jr hJr => ?_)
        obtain ⟨rfl, r46, rfr⟩ := hJr
        rw [← tot_2 (fun q => Int32.not_lt.mpr c2 q) hok]
        replace hJ1 := mq_ce hJ1 (fun f _ => r46 f) (fun a q1 q2 => rfr a (by omega))
        replace h461 : ∀ f, Jr 46 f = I 46 f := fun f => by rw [r46]; exact h461 f
        replace hfr1 : ∀ a, a ≠ 46 → a ≠ 53 → Jr a = I a := fun a q1 q2 => by rw [rfr a q1]; exact hfr1 a q1 q2
        refine si_7 oX5_curtains_81 rfl rfl ?_
        refine ri_4 oX5_curtains_83 ?_
        refine rk_m1 oX5_curtains_85 ?_
        refine rr_icmp_eq (tgt := 121) oX5_curtains_86 (by decide) (fun _ => ?_) (fun q => absurd q (by decide))
        refine ri_6 oX5_curtains_121 ?_
        refine si_4 oX5_curtains_123 rfl rfl ?_
        refine ri_7 oX5_curtains_125 ?_
        refine si_5 oX5_curtains_127 rfl rfl ?_
        refine rc_6 oX5_curtains_129 rfl rfl rfl ?_
        refine rr_goto (tgt := 35) oX5_curtains_132 (by decide) ?_
        refine lp_X5_curtains l W hM hI hw 255 _ 1 0 (tb_N 0) _ rfl (by omega) ok_0 (by omega) hJ1 (fun i hi hn => ok_n ok_0 hi hn) h461 hfr1 rfl
      · refine ra_0 oX5_curtains_66 ?_
        refine ra_0 oX5_curtains_67 ?_
        refine rr_cVi (c_X5_allRight l W hJ1) oX5_curtains_68 (cv_X5_210 rfl) (by decide) kk_46 (by decide) hcn_5 (wd_lt W rfl) rfl rfl (Nat.le_of_ble_eq_true rfl) ?_
        refine rr_cVi (c_X5_many l) oX5_curtains_71 (cv_X5_107 rfl) (by decide) kk_46 (by decide) hcn_5 (wd_lt W rfl) rfl rfl (Nat.le_of_ble_eq_true rfl) ?_
        rw [← tot_1 (Int32.not_le.mp c2) hok]
        refine rr_goto (tgt := 81) oX5_curtains_74 (by decide) ?_
        refine si_7 oX5_curtains_81 rfl rfl ?_
        refine ri_4 oX5_curtains_83 ?_
        refine rk_m1 oX5_curtains_85 ?_
        refine rr_icmp_eq (tgt := 121) oX5_curtains_86 (by decide) (fun _ => ?_) (fun q => absurd q (by decide))
        refine ri_6 oX5_curtains_121 ?_
        refine si_4 oX5_curtains_123 rfl rfl ?_
        refine ri_7 oX5_curtains_125 ?_
        refine si_5 oX5_curtains_127 rfl rfl ?_
        refine rc_6 oX5_curtains_129 rfl rfl rfl ?_
        refine rr_goto (tgt := 35) oX5_curtains_132 (by decide) ?_
        refine lp_X5_curtains l W hM hI hw 255 _ 1 0 (tb_N 0) _ rfl (by omega) ok_0 (by omega) hJ1 (fun i hi hn => ok_n ok_0 hi hn) h461 hfr1 rfl
    · refine ra_0 oX5_curtains_9 ?_
      refine rr_bipush (v := (-5)) oX5_curtains_10 (by decide) ?_
      refine rr_cVi (c_X5_no l W (c := 5) (by decide) (by decide)) oX5_curtains_12 (cv_X5_97 rfl) (by decide) kk_46 (by decide) hcn_5 (wd_lt W rfl) rfl rfl (Nat.le_of_ble_eq_true rfl) ?_
      exact rr_ireturn oX5_curtains_15 rfl rfl (q_M_noc hM me_rf (show _ = f_no S (-5) from by rw [f_curtains, if_pos (Or.inr (Int32.not_le.mp cw3))]) (by decide) (by decide))
