/-! SeenByOne: sights, costs, what would come of it (by program: wip/whole/c19.py) -/
theorem c_X1_hasG (l : Launch) {I : Nat → Nat → Int32} {L : Nat → Nat → Int64} {Rf : Nat → Nat → Option Nat} {n : Nat} {g : Nat} (W : wd_T Rf n) (hg : gd_T g) {G : gr_T} (hG : gv_T I g G) {s : Int32} : wm_C l mX1_has 1 0 0 [vv_A (some g), vv_I s] (I, L, Rf, n) (q_i (bI (0 ≤ s ∧ s < nI (g_n G))) (I, L, Rf, n)) := by
  have h := c_X1_has l (L := L) W hg (I := I) (s := s)
  simp only [gv_c hG] at h
  exact h
abbrev rn_T (S : sg_T) (x : Int32) : Prop := 0 ≤ x ∧ x < nI (g_n (z_G S))
abbrev hs_T (S : sg_T) (x : Int32) : Prop := is_H (g_k (z_G S) (ix_N x))
/-- what bars two houses; a sight; a storey -/
def s_lh (S : sg_T) (i j : Int32) : Int32 := if ¬ (rn_T S i ∧ rn_T S j) then -1 else if hs_T S i ∧ hs_T S j then 0 else -2
def s_ls (S : sg_T) (i j : Int32) : Int32 := if s_lh S i j = 0 ∧ i = j then -6 else s_lh S i j
def s_lst (S : sg_T) (t : Int32) : Int32 := if s_lh S t t = 0 ∧ 20 ≤ g_h (z_G S) (ix_N t) then -6 else s_lh S t t
theorem s_lh_n {S : sg_T} {i j : Int32} : s_lh S i j = 0 ∨ s_lh S i j = -1 ∨ s_lh S i j = -2 := by
  unfold s_lh
  split
  · simp
  · split <;> simp
theorem s_lh_0 {S : sg_T} (h8 : g_n (z_G S) ≤ 8) {i j : Int32} (h : s_lh S i j = 0) : ∃ a b, (a < g_n (z_G S) ∧ i = nI a ∧ is_H (g_k (z_G S) a)) ∧ (b < g_n (z_G S) ∧ j = nI b ∧ is_H (g_k (z_G S) b)) := by
  unfold s_lh at h
  split at h
  · exact absurd h (by decide)
  · next q =>
    split at h
    · next q2 =>
      rw [Classical.not_not] at q
      obtain ⟨a, ha, rfl⟩ := ix_of q.1.1 q.1.2 (by omega)
      obtain ⟨b, hb, rfl⟩ := ix_of q.2.1 q.2.2 (by omega)
      have e1 : ix_N (nI a) = a := nI_clamp (by omega)
      have e2 : ix_N (nI b) = b := nI_clamp (by omega)
      simp only [hs_T] at q2
      rw [e1, e2] at q2
      exact ⟨a, b, ⟨ha, rfl, q2.1⟩, ⟨hb, rfl, q2.2⟩⟩
    · exact absurd h (by decide)
theorem s_ls_0 {S : sg_T} {i j : Int32} (h : s_ls S i j = 0) : s_lh S i j = 0 ∧ ¬ i = j := by
  unfold s_ls at h
  split at h
  · exact absurd h (by decide)
  · next q => exact ⟨h, fun e => q ⟨h, e⟩⟩
theorem s_lst_0 {S : sg_T} {t : Int32} (h : s_lst S t = 0) : s_lh S t t = 0 ∧ ¬ 20 ≤ g_h (z_G S) (ix_N t) := by
  unfold s_lst at h
  split at h
  · exact absurd h (by decide)
  · next q => exact ⟨h, fun e => q ⟨h, e⟩⟩
theorem no_lh {S : sg_T} {i j : Int32} (h : ¬ s_lh S i j = 0) : no_c (s_lh S i j) < 8 ∧ -(s_lh S i j) = nI (no_c (s_lh S i j)) := by
  rcases s_lh_n (S := S) (i := i) (j := j) with q | q | q
  · exact absurd q h
  · rw [q]; decide
  · rw [q]; decide
theorem no_ls {S : sg_T} {i j : Int32} (h : ¬ s_ls S i j = 0) : no_c (s_ls S i j) < 8 ∧ -(s_ls S i j) = nI (no_c (s_ls S i j)) := by
  unfold s_ls at h ⊢
  split
  · decide
  · next q => rw [if_neg q] at h; exact no_lh h
theorem no_lst {S : sg_T} {t : Int32} (h : ¬ s_lst S t = 0) : no_c (s_lst S t) < 8 ∧ -(s_lst S t) = nI (no_c (s_lst S t)) := by
  unfold s_lst at h ⊢
  split
  · decide
  · next q => rw [if_neg q] at h; exact no_lh h
/-- a refusal told further below -/
theorem q_C_nod {S : sg_T} {I J : Nat → Nat → Int32} {L : Nat → Nat → Int64} {Rf : Nat → Nat → Option Nat} {n : Nat} {r w : Int32} {a : an_T} (hC : CR_T I L S) (he : ce_T I J) (ha : a = (w, w_no S (no_c r))) (hn : no_c r < 8) : q_C a.1 a.2 I L Rf n (some (vv_I w)) (rf_I J (no_c r), L, Rf, n) := by
  rw [ha]
  exact q_C_no hC hn he rfl
theorem c_X4_lacksHouses (l : Launch) {I : Nat → Nat → Int32} {L : Nat → Nat → Int64} {Rf : Nat → Nat → Option Nat} {n : Nat} {S : sg_T} (W : wd_T Rf n) (hC : CR_T I L S) (hI : IV_T S) {i j : Int32} : wm_C l mX4_lacksHouses 3 0 0 [vv_A (some 0), vv_I i, vv_I j] (I, L, Rf, n) (q_i (s_lh S i j) (I, L, Rf, n)) := by
  refine wm_of (by decide) (Nat.le_of_ble_eq_true rfl) rfl ?_
  have hG : gv_T I 2 (z_G S) := hC.1.1.1
  have h8 : g_n (z_G S) ≤ 8 := hI.1.1
  have hr : hr_T (z_G S) := hI.1.2.1
  refine ra_0 oX4_lacksHouses_0 ?_
  refine rr_gr (v := 2) oX4_lacksHouses_1 (ff_X4_18 rfl) kk_0 (wd_lt W rfl) ⟨by decide, rfl⟩ (wd_r W rfl rfl) ?_
  refine ri_1 oX4_lacksHouses_4 ?_
  refine rr_cVi (c_X1_hasG l W gd_2 hG) oX4_lacksHouses_5 (cv_X4_91 rfl) (by decide) (gd_k gd_2) (by decide) hcn_1 (gd_lt (j := 0) W gd_2 rfl) rfl rfl (Nat.le_of_ble_eq_true rfl) ?_
  refine rr_ifb_eq (tgt := 22) oX4_lacksHouses_8 (by decide) (fun c => ?_) (fun c => ?_)
  · refine rk_m1 oX4_lacksHouses_22 ?_
    exact rr_ireturn oX4_lacksHouses_23 rfl rfl (q_is (by rw [s_lh, if_pos (fun q => c q.1)]))
  · refine ra_0 oX4_lacksHouses_11 ?_
    refine rr_gr (v := 2) oX4_lacksHouses_12 (ff_X4_18 rfl) kk_0 (wd_lt W rfl) ⟨by decide, rfl⟩ (wd_r W rfl rfl) ?_
    refine ri_2 oX4_lacksHouses_15 ?_
    refine rr_cVi (c_X1_hasG l W gd_2 hG) oX4_lacksHouses_16 (cv_X4_91 rfl) (by decide) (gd_k gd_2) (by decide) hcn_1 (gd_lt (j := 0) W gd_2 rfl) rfl rfl (Nat.le_of_ble_eq_true rfl) ?_
    refine rr_ifb_ne (tgt := 24) oX4_lacksHouses_19 (by decide) (fun c1 => ?_) (fun c1 => ?_)
    · refine ra_0 oX4_lacksHouses_24 ?_
      refine rr_gr (v := 2) oX4_lacksHouses_25 (ff_X4_18 rfl) kk_0 (wd_lt W rfl) ⟨by decide, rfl⟩ (wd_r W rfl rfl) ?_
      refine ri_1 oX4_lacksHouses_28 ?_
      refine rr_cVi (c_X1_isHouse l W gd_2 hG) oX4_lacksHouses_29 (cv_X4_268 rfl) (by decide) (gd_k gd_2) (by decide) hcn_1 (gd_lt (j := 0) W gd_2 rfl) rfl rfl (Nat.le_of_ble_eq_true rfl) ?_
      refine rr_ifb_eq (tgt := 50) oX4_lacksHouses_32 (by decide) (fun c2 => ?_) (fun c2 => ?_)
      · refine rr_bipush (v := (-2)) oX4_lacksHouses_50 (by decide) ?_
        exact rr_ireturn oX4_lacksHouses_52 rfl rfl (q_is (by rw [s_lh, if_neg (fun q => q ⟨c, c1⟩), if_neg (fun q => c2 ⟨c, q.1⟩)]))
      · refine ra_0 oX4_lacksHouses_35 ?_
        refine rr_gr (v := 2) oX4_lacksHouses_36 (ff_X4_18 rfl) kk_0 (wd_lt W rfl) ⟨by decide, rfl⟩ (wd_r W rfl rfl) ?_
        refine ri_2 oX4_lacksHouses_39 ?_
        refine rr_cVi (c_X1_isHouse l W gd_2 hG) oX4_lacksHouses_40 (cv_X4_268 rfl) (by decide) (gd_k gd_2) (by decide) hcn_1 (gd_lt (j := 0) W gd_2 rfl) rfl rfl (Nat.le_of_ble_eq_true rfl) ?_
        refine rr_ifb_eq (tgt := 50) oX4_lacksHouses_43 (by decide) (fun c3 => ?_) (fun c3 => ?_)
        · refine rr_bipush (v := (-2)) oX4_lacksHouses_50 (by decide) ?_
          exact rr_ireturn oX4_lacksHouses_52 rfl rfl (q_is (by rw [s_lh, if_neg (fun q => q ⟨c, c1⟩), if_neg (fun q => c3 ⟨c1, q.2⟩)]))
        · refine rk_0 oX4_lacksHouses_46 ?_
          refine rr_goto (tgt := 52) oX4_lacksHouses_47 (by decide) ?_
          exact rr_ireturn oX4_lacksHouses_52 rfl rfl (q_is (by rw [s_lh, if_neg (fun q => q ⟨c, c1⟩), if_pos ⟨c2.2, c3.2⟩]))
    · refine rk_m1 oX4_lacksHouses_22 ?_
      exact rr_ireturn oX4_lacksHouses_23 rfl rfl (q_is (by rw [s_lh, if_pos (fun q => c1 q.2)]))
theorem c_X4_lacksHouse (l : Launch) {I : Nat → Nat → Int32} {L : Nat → Nat → Int64} {Rf : Nat → Nat → Option Nat} {n : Nat} {S : sg_T} (W : wd_T Rf n) (hC : CR_T I L S) (hI : IV_T S) {i : Int32} : wm_C l mX4_lacksHouse 4 0 0 [vv_A (some 0), vv_I i] (I, L, Rf, n) (q_i (s_lh S i i) (I, L, Rf, n)) := by
  refine wm_of (by decide) (Nat.le_of_ble_eq_true rfl) rfl ?_
  have hG : gv_T I 2 (z_G S) := hC.1.1.1
  have h8 : g_n (z_G S) ≤ 8 := hI.1.1
  have hr : hr_T (z_G S) := hI.1.2.1
  refine ra_0 oX4_lacksHouse_0 ?_
  refine ri_1 oX4_lacksHouse_1 ?_
  refine ri_1 oX4_lacksHouse_2 ?_
  refine rr_cVi (c_X4_lacksHouses l W hC hI) oX4_lacksHouse_3 (cv_X4_212 rfl) (by decide) kk_0 (by decide) hcn_4 (wd_lt W rfl) rfl rfl (Nat.le_of_ble_eq_true rfl) ?_
  exact rr_ireturn oX4_lacksHouse_6 rfl rfl ⟨rfl, rfl⟩
theorem c_X4_lacksSight (l : Launch) {I : Nat → Nat → Int32} {L : Nat → Nat → Int64} {Rf : Nat → Nat → Option Nat} {n : Nat} {S : sg_T} (W : wd_T Rf n) (hC : CR_T I L S) (hI : IV_T S) {i j : Int32} : wm_C l mX4_lacksSight 4 0 0 [vv_A (some 0), vv_I i, vv_I j] (I, L, Rf, n) (q_i (s_ls S i j) (I, L, Rf, n)) := by
  refine wm_of (by decide) (Nat.le_of_ble_eq_true rfl) rfl ?_
  have hG : gv_T I 2 (z_G S) := hC.1.1.1
  have h8 : g_n (z_G S) ≤ 8 := hI.1.1
  have hr : hr_T (z_G S) := hI.1.2.1
  refine ra_0 oX4_lacksSight_0 ?_
  refine ri_1 oX4_lacksSight_1 ?_
  refine ri_2 oX4_lacksSight_2 ?_
  refine rr_cVi (c_X4_lacksHouses l W hC hI) oX4_lacksSight_3 (cv_X4_212 rfl) (by decide) kk_0 (by decide) hcn_4 (wd_lt W rfl) rfl rfl (Nat.le_of_ble_eq_true rfl) ?_
  refine si_3 oX4_lacksSight_6 rfl rfl ?_
  refine ri_3 oX4_lacksSight_7 ?_
  refine rr_if_ne (tgt := 21) oX4_lacksSight_8 (by decide) (fun c => ?_) (fun c => ?_)
  · refine ri_3 oX4_lacksSight_21 ?_
    exact rr_ireturn oX4_lacksSight_22 rfl rfl (q_is (by rw [s_ls, if_neg (fun q => c q.1)]))
  · refine ri_1 oX4_lacksSight_11 ?_
    refine ri_2 oX4_lacksSight_12 ?_
    refine rr_icmp_ne (tgt := 21) oX4_lacksSight_13 (by decide) (fun c1 => ?_) (fun c1 => ?_)
    · refine ri_3 oX4_lacksSight_21 ?_
      exact rr_ireturn oX4_lacksSight_22 rfl rfl (q_is (by rw [s_ls, if_neg (fun q => c1 q.2)]))
    · refine rr_bipush (v := (-6)) oX4_lacksSight_16 (by decide) ?_
      refine rr_goto (tgt := 22) oX4_lacksSight_18 (by decide) ?_
      exact rr_ireturn oX4_lacksSight_22 rfl rfl (q_is (by rw [s_ls, if_pos ⟨c, c1⟩]))
theorem c_X4_lacksStorey (l : Launch) {I : Nat → Nat → Int32} {L : Nat → Nat → Int64} {Rf : Nat → Nat → Option Nat} {n : Nat} {S : sg_T} (W : wd_T Rf n) (hC : CR_T I L S) (hI : IV_T S) {t : Int32} : wm_C l mX4_lacksStorey 5 0 0 [vv_A (some 0), vv_I t] (I, L, Rf, n) (q_i (s_lst S t) (I, L, Rf, n)) := by
  refine wm_of (by decide) (Nat.le_of_ble_eq_true rfl) rfl ?_
  have hG : gv_T I 2 (z_G S) := hC.1.1.1
  have h8 : g_n (z_G S) ≤ 8 := hI.1.1
  have hr : hr_T (z_G S) := hI.1.2.1
  refine ra_0 oX4_lacksStorey_0 ?_
  refine ri_1 oX4_lacksStorey_1 ?_
  refine rr_cVi (c_X4_lacksHouse l W hC hI) oX4_lacksStorey_2 (cv_X4_194 rfl) (by decide) kk_0 (by decide) hcn_4 (wd_lt W rfl) rfl rfl (Nat.le_of_ble_eq_true rfl) ?_
  refine si_2 oX4_lacksStorey_5 rfl rfl ?_
  refine ri_2 oX4_lacksStorey_6 ?_
  refine rr_if_ne (tgt := 27) oX4_lacksStorey_7 (by decide) (fun c => ?_) (fun c => ?_)
  · refine ri_2 oX4_lacksStorey_27 ?_
    exact rr_ireturn oX4_lacksStorey_28 rfl rfl (q_is (by rw [s_lst, if_neg (fun q => c q.1)]))
  · obtain ⟨a, b, ⟨ha, e1, ha2⟩, -⟩ := s_lh_0 h8 c
    have ex : ix_N t = a := by rw [e1]; exact nI_clamp (by omega)
    refine ra_0 oX4_lacksStorey_10 ?_
    refine rr_gr (v := 2) oX4_lacksStorey_11 (ff_X4_18 rfl) kk_0 (wd_lt W rfl) ⟨by decide, rfl⟩ (wd_r W rfl rfl) ?_
    refine rr_gr oX4_lacksStorey_14 (ff_X4_127 rfl) (gd_k gd_2) (gd_lt (j := 0) W gd_2 rfl) ⟨by decide, rfl⟩ (gd_r W gd_2 9 4 rfl) ?_
    refine ri_1 oX4_lacksStorey_17 ?_
    refine rr_iv (t := a) oX4_lacksStorey_18 (gd_a gd_2 4 rfl) (gd_lt (j := 4) W gd_2 rfl) e1 (by omega) (by decide) (gv_h hG (by omega)) ?_
    refine rr_bipush (v := 20) oX4_lacksStorey_19 (by decide) ?_
    refine rr_icmp_lt (tgt := 27) oX4_lacksStorey_21 (by decide) (fun c1 => ?_) (fun c1 => ?_)
    · refine ri_2 oX4_lacksStorey_27 ?_
      exact rr_ireturn oX4_lacksStorey_28 rfl rfl (q_is (by rw [s_lst, if_neg (fun q => Int32.not_lt.mpr (ex ▸ q.2) c1)]))
    · refine rr_bipush (v := (-6)) oX4_lacksStorey_24 (by decide) ?_
      exact rr_ireturn oX4_lacksStorey_26 rfl rfl (q_is (by rw [s_lst, if_pos ⟨c, by rw [ex]; exact Int32.not_lt.mp c1⟩]))
theorem lp_X4_lowestOf (l : Launch) {X : mx_T} {p : Nat → Bool} : ∀ m t, t + m = 8 → wm_W l mX4_lowestOf 3 0 0 2 [vv_I (st_S p), vv_I (nI t)] [] X (q_i (oI (fo_N p m t)) X) := by
  intro m
  induction m with
  | zero =>
    intro t ht
    refine ri_1 oX4_lowestOf_2 ?_
    refine rr_bipush (v := 8) oX4_lowestOf_3 (by decide) ?_
    refine rr_icmp_ge (tgt := 24) oX4_lowestOf_5 (by decide) (fun c => ?_) (fun c => ?_)
    rotate_left
    · exact absurd c (by rw [show (8 : Int32) = nI 8 from rfl, nI_le_iff (by omega) (by omega)]; omega)
    refine rk_m1 oX4_lowestOf_24 ?_
    exact rr_ireturn oX4_lowestOf_25 rfl rfl ⟨rfl, rfl⟩
  | succ m ih =>
    intro t ht
    refine ri_1 oX4_lowestOf_2 ?_
    refine rr_bipush (v := 8) oX4_lowestOf_3 (by decide) ?_
    refine rr_icmp_ge (tgt := 24) oX4_lowestOf_5 (by decide) (fun c => ?_) (fun c => ?_)
    · (rw [show (8 : Int32) = nI 8 from rfl, nI_le_iff (by omega) (by omega)] at c; omega)
    refine ri_0 oX4_lowestOf_8 ?_
    refine ri_1 oX4_lowestOf_9 ?_
    refine rr_cSi (c_X4_isIn l) oX4_lowestOf_10 (cs_X4_142 rfl) (by decide) rfl rfl (Nat.le_of_ble_eq_true rfl) ?_
    refine rr_ifb_eq (tgt := 18) oX4_lowestOf_13 (by decide) (fun c1 => ?_) (fun c1 => ?_)
    · rw [st_in (by omega)] at c1
      refine rn_1 oX4_lowestOf_18 rfl rfl ?_
      refine rr_goto (tgt := 2) oX4_lowestOf_21 (by decide) ?_
      have h3 := ih (t + 1) (by omega)
      simp only [fo_N]
      rw [if_neg c1]
      exact h3
    · rw [st_in (by omega)] at c1
      refine ri_1 oX4_lowestOf_16 ?_
      exact rr_ireturn oX4_lowestOf_17 rfl rfl (q_is (by simp only [fo_N]; rw [if_pos c1]; rfl))
theorem c_X4_lowestOf (l : Launch) {X : mx_T} {p : Nat → Bool} : wm_C l mX4_lowestOf 3 0 0 [vv_I (st_S p)] X (q_i (oI (fo_N p 8 0)) X) := by
  refine wm_of (by decide) (Nat.le_of_ble_eq_true rfl) rfl ?_
  refine rk_0 oX4_lowestOf_0 ?_
  refine si_1 oX4_lowestOf_1 rfl rfl ?_
  exact lp_X4_lowestOf l 8 0 rfl
abbrev q_sr (S : sg_T) : Nat → Nat → Bool := p_sr (z_G S) (b_dr (z_B S)) (b_sh (z_B S))
abbrev q_se (S : sg_T) : Nat → Nat → Bool := p_se (z_G S) (b_dr (z_B S)) (b_sh (z_B S))
abbrev q_ri (S : sg_T) : Nat → Bool := p_ri (z_G S) (b_dr (z_B S)) (b_sh (z_B S))
def f_seers (S : sg_T) (t : Int32) : an_T := if ¬ s_lh S t t = 0 then f_no S (s_lh S t t) else (st_S (q_sr S (ix_N t)), S)
def f_right (S : sg_T) : an_T := (st_S (q_ri S), S)
def f_first (S : sg_T) : an_T := (oI (fo_N (fun i => p_h (z_G S) i && !q_ri S i) 8 0), S)
def f_cost (S : sg_T) (i j : Int32) : an_T := if ¬ s_ls S i j = 0 then f_no S (s_ls S i j) else (s_cost (z_G S) (ix_N i) (ix_N j), S)
def f_bars (S : sg_T) (i j : Int32) : an_T := if ¬ s_ls S i j = 0 then (s_ls S i j - 10, w_no S (no_c (s_ls S i j))) else (s_bar (z_G S) (ix_N i) (ix_N j), S)
def f_keeps (S : sg_T) (t : Int32) : an_T := if ¬ s_lh S t t = 0 then (s_lh S t t - 10, w_no S (no_c (s_lh S t t))) else (oI (s_kept (z_G S) (b_dr (z_B S)) (b_sh (z_B S)) (ix_N t)), S)
def s_ccost (S : sg_T) : Int32 := s2_N (fun j i => if p_tm (z_G S) (b_dr (z_B S)) (b_sh (z_B S)) j i = true then s_cost (z_G S) i j else 0) (g_n (z_G S)) (g_n (z_G S)) 0 0
def s_chop (S : sg_T) : Int32 := st_S (fun j => decide (j < g_n (z_G S)) && p_hop (z_G S) (b_dr (z_B S)) (b_sh (z_B S)) j)
def s_cmany (S : sg_T) : Int32 := sm_N (fun j => nI (cn_8 (p_tm (z_G S) (b_dr (z_B S)) (b_sh (z_B S)) j))) (g_n (z_G S)) 0 0
def f_cheapest (S : sg_T) (w : Int32) : an_T := if w = 0 then (s_ccost S, S) else if w = 1 then (s_chop S, S) else if w = 2 then (s_cmany S, S) else f_no S (-5)
def f_sees (S : sg_T) (i j w : Int32) : an_T := if ¬ s_lh S i j = 0 then f_no S (s_lh S i j) else if ¬ w = 0 ∧ ¬ w = 1 then f_no S (-5) else if i = j then f_no S (-6)
  else (if w = 0 then bI (p_lk (z_G S) (ix_N j) (ix_N i) = true) else bI (q_se S (ix_N j) (ix_N i) = true), S)
theorem c_X4_seers (l : Launch) {I : Nat → Nat → Int32} {L : Nat → Nat → Int64} {Rf : Nat → Nat → Option Nat} {n : Nat} {S : sg_T} (W : wd_T Rf n) (hC : CR_T I L S) (hI : IV_T S) {t : Int32} : wm_C l mX4_seers 7 0 0 [vv_A (some 0), vv_I t] (I, L, Rf, n) (q_C (f_seers S t).1 (f_seers S t).2 I L Rf n) := by
  refine wm_of (by decide) (Nat.le_of_ble_eq_true rfl) rfl ?_
  have hG : gv_T I 2 (z_G S) := hC.1.1.1
  have h8 : g_n (z_G S) ≤ 8 := hI.1.1
  have hr : hr_T (z_G S) := hI.1.2.1
  refine ra_0 oX4_seers_0 ?_
  refine ri_1 oX4_seers_1 ?_
  refine rr_cVi (c_X4_lacksHouse l W hC hI) oX4_seers_2 (cv_X4_194 rfl) (by decide) kk_0 (by decide) hcn_4 (wd_lt W rfl) rfl rfl (Nat.le_of_ble_eq_true rfl) ?_
  refine si_2 oX4_seers_5 rfl rfl ?_
  refine ri_2 oX4_seers_6 ?_
  refine rr_if_eq (tgt := 16) oX4_seers_7 (by decide) (fun c => ?_) (fun c => ?_)
  · obtain ⟨a, b, ⟨ha, rfl, ha2⟩, ⟨hb, e2, hb2⟩⟩ := s_lh_0 h8 c
    have exa : ix_N (nI a) = a := nI_clamp (by omega)
    have exb : ix_N (nI b) = b := nI_clamp (by omega)
    refine ra_0 oX4_seers_16 ?_
    refine rr_gr (v := 2) oX4_seers_17 (ff_X4_18 rfl) kk_0 (wd_lt W rfl) ⟨by decide, rfl⟩ (wd_r W rfl rfl) ?_
    refine rr_cVm (c_X1_lookAround l W gd_2 hG (hr_xy hr)) oX4_seers_20 (cv_X4_113 rfl) (by decide) (gd_k gd_2) (by decide) hcn_1 (gd_lt (j := 0) W gd_2 rfl) rfl rfl (Nat.le_of_ble_eq_true rfl) (fun J hJ => ?_)
    have hA : gl_T J 2 (z_G S) (b_dr (z_B S)) (b_sh (z_B S)) := la_gl hJ hC.1.1
    have he : ce_T I J := ce_la hJ
    have hG := hA.1.1
    refine ra_0 oX4_seers_23 ?_
    refine rr_gr (v := 2) oX4_seers_24 (ff_X4_18 rfl) kk_0 (wd_lt W rfl) ⟨by decide, rfl⟩ (wd_r W rfl rfl) ?_
    refine ri_1 oX4_seers_27 ?_
    refine rr_cVi (c_X1_seersOf l W gd_2 hA (j := a) (by omega)) oX4_seers_28 (cv_X4_119 rfl) (by decide) (gd_k gd_2) (by decide) hcn_1 (gd_lt (j := 0) W gd_2 rfl) rfl rfl (Nat.le_of_ble_eq_true rfl) ?_
    exact rr_ireturn oX4_seers_31 rfl rfl (q_C_an hC he (by rw [f_seers, if_neg (fun q => q c), exa]) rfl)
  · have hno := no_lh c
    refine ra_0 oX4_seers_10 ?_
    refine ri_2 oX4_seers_11 ?_
    refine rr_cVi (c_X4_refuse l W hno.1 hno.2) oX4_seers_12 (cv_X4_55 rfl) (by decide) kk_0 (by decide) hcn_4 (wd_lt W rfl) rfl rfl (Nat.le_of_ble_eq_true rfl) ?_
    exact rr_ireturn oX4_seers_15 rfl rfl (q_C_nov hC ce_rf (by rw [f_seers, if_pos c]) hno.1)
theorem c_X4_right (l : Launch) {I : Nat → Nat → Int32} {L : Nat → Nat → Int64} {Rf : Nat → Nat → Option Nat} {n : Nat} {S : sg_T} (W : wd_T Rf n) (hC : CR_T I L S) (hI : IV_T S) : wm_C l mX4_right 7 0 0 [vv_A (some 0)] (I, L, Rf, n) (q_C (f_right S).1 (f_right S).2 I L Rf n) := by
  refine wm_of (by decide) (Nat.le_of_ble_eq_true rfl) rfl ?_
  have hG : gv_T I 2 (z_G S) := hC.1.1.1
  have h8 : g_n (z_G S) ≤ 8 := hI.1.1
  have hr : hr_T (z_G S) := hI.1.2.1
  refine ra_0 oX4_right_0 ?_
  refine rr_gr (v := 2) oX4_right_1 (ff_X4_18 rfl) kk_0 (wd_lt W rfl) ⟨by decide, rfl⟩ (wd_r W rfl rfl) ?_
  refine rr_cVm (c_X1_lookAround l W gd_2 hG (hr_xy hr)) oX4_right_4 (cv_X4_113 rfl) (by decide) (gd_k gd_2) (by decide) hcn_1 (gd_lt (j := 0) W gd_2 rfl) rfl rfl (Nat.le_of_ble_eq_true rfl) (fun J hJ => ?_)
  have hA : gl_T J 2 (z_G S) (b_dr (z_B S)) (b_sh (z_B S)) := la_gl hJ hC.1.1
  have he : ce_T I J := ce_la hJ
  have hG := hA.1.1
  refine ra_0 oX4_right_7 ?_
  refine rr_gr (v := 2) oX4_right_8 (ff_X4_18 rfl) kk_0 (wd_lt W rfl) ⟨by decide, rfl⟩ (wd_r W rfl rfl) ?_
  refine rr_cVi (c_X1_rightHouses l W gd_2 hA) oX4_right_11 (cv_X4_138 rfl) (by decide) (gd_k gd_2) (by decide) hcn_1 (gd_lt (j := 0) W gd_2 rfl) rfl rfl (Nat.le_of_ble_eq_true rfl) ?_
  exact rr_ireturn oX4_right_14 rfl rfl (q_C_an hC he rfl rfl)
theorem c_X4_first (l : Launch) {I : Nat → Nat → Int32} {L : Nat → Nat → Int64} {Rf : Nat → Nat → Option Nat} {n : Nat} {S : sg_T} (W : wd_T Rf n) (hC : CR_T I L S) (hI : IV_T S) : wm_C l mX4_first 7 0 0 [vv_A (some 0)] (I, L, Rf, n) (q_C (f_first S).1 (f_first S).2 I L Rf n) := by
  refine wm_of (by decide) (Nat.le_of_ble_eq_true rfl) rfl ?_
  have hG : gv_T I 2 (z_G S) := hC.1.1.1
  have h8 : g_n (z_G S) ≤ 8 := hI.1.1
  have hr : hr_T (z_G S) := hI.1.2.1
  refine ra_0 oX4_first_0 ?_
  refine rr_gr (v := 2) oX4_first_1 (ff_X4_18 rfl) kk_0 (wd_lt W rfl) ⟨by decide, rfl⟩ (wd_r W rfl rfl) ?_
  refine rr_cVm (c_X1_lookAround l W gd_2 hG (hr_xy hr)) oX4_first_4 (cv_X4_113 rfl) (by decide) (gd_k gd_2) (by decide) hcn_1 (gd_lt (j := 0) W gd_2 rfl) rfl rfl (Nat.le_of_ble_eq_true rfl) (fun J hJ => ?_)
  have hA : gl_T J 2 (z_G S) (b_dr (z_B S)) (b_sh (z_B S)) := la_gl hJ hC.1.1
  have he : ce_T I J := ce_la hJ
  have hG := hA.1.1
  refine ra_0 oX4_first_7 ?_
  refine rr_gr (v := 2) oX4_first_8 (ff_X4_18 rfl) kk_0 (wd_lt W rfl) ⟨by decide, rfl⟩ (wd_r W rfl rfl) ?_
  refine rr_cVi (c_X1_houses l W gd_2 hG) oX4_first_11 (cv_X4_224 rfl) (by decide) (gd_k gd_2) (by decide) hcn_1 (gd_lt (j := 0) W gd_2 rfl) rfl rfl (Nat.le_of_ble_eq_true rfl) ?_
  refine ra_0 oX4_first_14 ?_
  refine rr_gr (v := 2) oX4_first_15 (ff_X4_18 rfl) kk_0 (wd_lt W rfl) ⟨by decide, rfl⟩ (wd_r W rfl rfl) ?_
  refine rr_cVi (c_X1_rightHouses l W gd_2 hA) oX4_first_18 (cv_X4_138 rfl) (by decide) (gd_k gd_2) (by decide) hcn_1 (gd_lt (j := 0) W gd_2 rfl) rfl rfl (Nat.le_of_ble_eq_true rfl) ?_
  refine rk_m1 oX4_first_21 ?_
  refine rr_ixor oX4_first_22 ?_
  refine rr_iand oX4_first_23 ?_
  rw [st_not]
  refine rr_cSi (c_X4_lowestOf l) oX4_first_24 (cs_X4_227 rfl) (by decide) rfl rfl (Nat.le_of_ble_eq_true rfl) ?_
  exact rr_ireturn oX4_first_27 rfl rfl (q_C_an hC he rfl rfl)
theorem c_X4_cost (l : Launch) {I : Nat → Nat → Int32} {L : Nat → Nat → Int64} {Rf : Nat → Nat → Option Nat} {n : Nat} {S : sg_T} (W : wd_T Rf n) (hC : CR_T I L S) (hI : IV_T S) {i j : Int32} : wm_C l mX4_cost 5 0 0 [vv_A (some 0), vv_I i, vv_I j] (I, L, Rf, n) (q_C (f_cost S i j).1 (f_cost S i j).2 I L Rf n) := by
  refine wm_of (by decide) (Nat.le_of_ble_eq_true rfl) rfl ?_
  have hG : gv_T I 2 (z_G S) := hC.1.1.1
  have h8 : g_n (z_G S) ≤ 8 := hI.1.1
  have hr : hr_T (z_G S) := hI.1.2.1
  refine ra_0 oX4_cost_0 ?_
  refine ri_1 oX4_cost_1 ?_
  refine ri_2 oX4_cost_2 ?_
  refine rr_cVi (c_X4_lacksSight l W hC hI) oX4_cost_3 (cv_X4_185 rfl) (by decide) kk_0 (by decide) hcn_4 (wd_lt W rfl) rfl rfl (Nat.le_of_ble_eq_true rfl) ?_
  refine si_3 oX4_cost_6 rfl rfl ?_
  refine ri_3 oX4_cost_7 ?_
  refine rr_if_eq (tgt := 17) oX4_cost_8 (by decide) (fun c => ?_) (fun c => ?_)
  · obtain ⟨a, b, ⟨ha, rfl, ha2⟩, ⟨hb, rfl, hb2⟩⟩ := s_lh_0 h8 (s_ls_0 c).1
    have exa : ix_N (nI a) = a := nI_clamp (by omega)
    have exb : ix_N (nI b) = b := nI_clamp (by omega)
    refine ra_0 oX4_cost_17 ?_
    refine rr_gr (v := 2) oX4_cost_18 (ff_X4_18 rfl) kk_0 (wd_lt W rfl) ⟨by decide, rfl⟩ (wd_r W rfl rfl) ?_
    refine ri_1 oX4_cost_21 ?_
    refine ri_2 oX4_cost_22 ?_
    refine rr_cVi (c_X1_costOf l W gd_2 hG ha hb) oX4_cost_23 (cv_X4_230 rfl) (by decide) (gd_k gd_2) (by decide) hcn_1 (gd_lt (j := 0) W gd_2 rfl) rfl rfl (Nat.le_of_ble_eq_true rfl) ?_
    exact rr_ireturn oX4_cost_26 rfl rfl (q_C_an hC ce_rf (by rw [f_cost, if_neg (fun q => q c), exa, exb]) rfl)
  · have hno := no_ls c
    refine ra_0 oX4_cost_11 ?_
    refine ri_3 oX4_cost_12 ?_
    refine rr_cVi (c_X4_refuse l W hno.1 hno.2) oX4_cost_13 (cv_X4_55 rfl) (by decide) kk_0 (by decide) hcn_4 (wd_lt W rfl) rfl rfl (Nat.le_of_ble_eq_true rfl) ?_
    exact rr_ireturn oX4_cost_16 rfl rfl (q_C_nov hC ce_rf (by rw [f_cost, if_pos c]) hno.1)
theorem c_X4_bars (l : Launch) {I : Nat → Nat → Int32} {L : Nat → Nat → Int64} {Rf : Nat → Nat → Option Nat} {n : Nat} {S : sg_T} (W : wd_T Rf n) (hC : CR_T I L S) (hI : IV_T S) {i j : Int32} : wm_C l mX4_bars 5 0 0 [vv_A (some 0), vv_I i, vv_I j] (I, L, Rf, n) (q_C (f_bars S i j).1 (f_bars S i j).2 I L Rf n) := by
  refine wm_of (by decide) (Nat.le_of_ble_eq_true rfl) rfl ?_
  have hG : gv_T I 2 (z_G S) := hC.1.1.1
  have h8 : g_n (z_G S) ≤ 8 := hI.1.1
  have hr : hr_T (z_G S) := hI.1.2.1
  refine ra_0 oX4_bars_0 ?_
  refine ri_1 oX4_bars_1 ?_
  refine ri_2 oX4_bars_2 ?_
  refine rr_cVi (c_X4_lacksSight l W hC hI) oX4_bars_3 (cv_X4_185 rfl) (by decide) kk_0 (by decide) hcn_4 (wd_lt W rfl) rfl rfl (Nat.le_of_ble_eq_true rfl) ?_
  refine si_3 oX4_bars_6 rfl rfl ?_
  refine ri_3 oX4_bars_7 ?_
  refine rr_if_eq (tgt := 20) oX4_bars_8 (by decide) (fun c => ?_) (fun c => ?_)
  · obtain ⟨a, b, ⟨ha, rfl, ha2⟩, ⟨hb, rfl, hb2⟩⟩ := s_lh_0 h8 (s_ls_0 c).1
    have exa : ix_N (nI a) = a := nI_clamp (by omega)
    have exb : ix_N (nI b) = b := nI_clamp (by omega)
    refine ra_0 oX4_bars_20 ?_
    refine rr_gr (v := 2) oX4_bars_21 (ff_X4_18 rfl) kk_0 (wd_lt W rfl) ⟨by decide, rfl⟩ (wd_r W rfl rfl) ?_
    refine ri_1 oX4_bars_24 ?_
    refine ri_2 oX4_bars_25 ?_
    refine rr_cVi (c_X1_firstBar l W gd_2 hG ha hb (hr_xy hr a ha ha2) (hr_xy hr b hb hb2)) oX4_bars_26 (cv_X4_221 rfl) (by decide) (gd_k gd_2) (by decide) hcn_1 (gd_lt (j := 0) W gd_2 rfl) rfl rfl (Nat.le_of_ble_eq_true rfl) ?_
    exact rr_ireturn oX4_bars_29 rfl rfl (q_C_an hC ce_rf (by rw [f_bars, if_neg (fun q => q c), exa, exb]) rfl)
  · have hno := no_ls c
    refine ra_0 oX4_bars_11 ?_
    refine ri_3 oX4_bars_12 ?_
    refine rr_cVi (c_X4_refuse l W hno.1 hno.2) oX4_bars_13 (cv_X4_55 rfl) (by decide) kk_0 (by decide) hcn_4 (wd_lt W rfl) rfl rfl (Nat.le_of_ble_eq_true rfl) ?_
    refine rr_bipush (v := 10) oX4_bars_16 (by decide) ?_
    refine rr_isub oX4_bars_18 ?_
    exact rr_ireturn oX4_bars_19 rfl rfl (q_C_nod hC ce_rf (by rw [f_bars, if_pos c]) hno.1)
theorem c_X4_keeps (l : Launch) {I : Nat → Nat → Int32} {L : Nat → Nat → Int64} {Rf : Nat → Nat → Option Nat} {n : Nat} {S : sg_T} (W : wd_T Rf n) (hC : CR_T I L S) (hI : IV_T S) {t : Int32} : wm_C l mX4_keeps 7 0 0 [vv_A (some 0), vv_I t] (I, L, Rf, n) (q_C (f_keeps S t).1 (f_keeps S t).2 I L Rf n) := by
  refine wm_of (by decide) (Nat.le_of_ble_eq_true rfl) rfl ?_
  have hG : gv_T I 2 (z_G S) := hC.1.1.1
  have h8 : g_n (z_G S) ≤ 8 := hI.1.1
  have hr : hr_T (z_G S) := hI.1.2.1
  refine ra_0 oX4_keeps_0 ?_
  refine ri_1 oX4_keeps_1 ?_
  refine rr_cVi (c_X4_lacksHouse l W hC hI) oX4_keeps_2 (cv_X4_194 rfl) (by decide) kk_0 (by decide) hcn_4 (wd_lt W rfl) rfl rfl (Nat.le_of_ble_eq_true rfl) ?_
  refine si_2 oX4_keeps_5 rfl rfl ?_
  refine ri_2 oX4_keeps_6 ?_
  refine rr_if_eq (tgt := 19) oX4_keeps_7 (by decide) (fun c => ?_) (fun c => ?_)
  · obtain ⟨a, b, ⟨ha, rfl, ha2⟩, ⟨hb, e2, hb2⟩⟩ := s_lh_0 h8 c
    have exa : ix_N (nI a) = a := nI_clamp (by omega)
    have exb : ix_N (nI b) = b := nI_clamp (by omega)
    refine ra_0 oX4_keeps_19 ?_
    refine rr_gr (v := 2) oX4_keeps_20 (ff_X4_18 rfl) kk_0 (wd_lt W rfl) ⟨by decide, rfl⟩ (wd_r W rfl rfl) ?_
    refine rr_cVm (c_X1_lookAround l W gd_2 hG (hr_xy hr)) oX4_keeps_23 (cv_X4_113 rfl) (by decide) (gd_k gd_2) (by decide) hcn_1 (gd_lt (j := 0) W gd_2 rfl) rfl rfl (Nat.le_of_ble_eq_true rfl) (fun J hJ => ?_)
    have hA : gl_T J 2 (z_G S) (b_dr (z_B S)) (b_sh (z_B S)) := la_gl hJ hC.1.1
    have he : ce_T I J := ce_la hJ
    have hG := hA.1.1
    refine ra_0 oX4_keeps_26 ?_
    refine rr_gr (v := 2) oX4_keeps_27 (ff_X4_18 rfl) kk_0 (wd_lt W rfl) ⟨by decide, rfl⟩ (wd_r W rfl rfl) ?_
    refine ri_1 oX4_keeps_30 ?_
    refine rr_cVi (c_X1_keptSeer l W gd_2 hA hr (j := a) (by omega)) oX4_keeps_31 (cv_X4_242 rfl) (by decide) (gd_k gd_2) (by decide) hcn_1 (gd_lt (j := 0) W gd_2 rfl) rfl rfl (Nat.le_of_ble_eq_true rfl) ?_
    exact rr_ireturn oX4_keeps_34 rfl rfl (q_C_an hC he (by rw [f_keeps, if_neg (fun q => q c), exa]) rfl)
  · have hno := no_lh c
    refine ra_0 oX4_keeps_10 ?_
    refine ri_2 oX4_keeps_11 ?_
    refine rr_cVi (c_X4_refuse l W hno.1 hno.2) oX4_keeps_12 (cv_X4_55 rfl) (by decide) kk_0 (by decide) hcn_4 (wd_lt W rfl) rfl rfl (Nat.le_of_ble_eq_true rfl) ?_
    refine rr_bipush (v := 10) oX4_keeps_15 (by decide) ?_
    refine rr_isub oX4_keeps_17 ?_
    exact rr_ireturn oX4_keeps_18 rfl rfl (q_C_nod hC ce_rf (by rw [f_keeps, if_pos c]) hno.1)
theorem c_X4_cheapest (l : Launch) {I : Nat → Nat → Int32} {L : Nat → Nat → Int64} {Rf : Nat → Nat → Option Nat} {n : Nat} {S : sg_T} (W : wd_T Rf n) (hC : CR_T I L S) (hI : IV_T S) {w : Int32} : wm_C l mX4_cheapest 7 0 0 [vv_A (some 0), vv_I w] (I, L, Rf, n) (q_C (f_cheapest S w).1 (f_cheapest S w).2 I L Rf n) := by
  refine wm_of (by decide) (Nat.le_of_ble_eq_true rfl) rfl ?_
  have hG : gv_T I 2 (z_G S) := hC.1.1.1
  have h8 : g_n (z_G S) ≤ 8 := hI.1.1
  have hr : hr_T (z_G S) := hI.1.2.1
  refine ra_0 oX4_cheapest_0 ?_
  refine rr_gr (v := 2) oX4_cheapest_1 (ff_X4_18 rfl) kk_0 (wd_lt W rfl) ⟨by decide, rfl⟩ (wd_r W rfl rfl) ?_
  refine rr_cVm (c_X1_lookAround l W gd_2 hG (hr_xy hr)) oX4_cheapest_4 (cv_X4_113 rfl) (by decide) (gd_k gd_2) (by decide) hcn_1 (gd_lt (j := 0) W gd_2 rfl) rfl rfl (Nat.le_of_ble_eq_true rfl) (fun J hJ => ?_)
  have hA : gl_T J 2 (z_G S) (b_dr (z_B S)) (b_sh (z_B S)) := la_gl hJ hC.1.1
  have he : ce_T I J := ce_la hJ
  have hG := hA.1.1
  refine ri_1 oX4_cheapest_7 ?_
  by_cases c8_0 : w = 0
  · refine rr_tabIn (off := 28) (tgt := 36) oX4_cheapest_8 (by rw [c8_0]; decide) (by rw [c8_0]; decide) (by rw [c8_0]; rfl) (by decide) ?_
    refine ra_0 oX4_cheapest_36 ?_
    refine rr_gr (v := 2) oX4_cheapest_37 (ff_X4_18 rfl) kk_0 (wd_lt W rfl) ⟨by decide, rfl⟩ (wd_r W rfl rfl) ?_
    refine rr_cVi (c_X1_cheapestCost l W gd_2 hA hr) oX4_cheapest_40 (cv_X4_233 rfl) (by decide) (gd_k gd_2) (by decide) hcn_1 (gd_lt (j := 0) W gd_2 rfl) rfl rfl (Nat.le_of_ble_eq_true rfl) ?_
    exact rr_ireturn oX4_cheapest_43 rfl rfl (q_C_an hC he (by rw [f_cheapest, if_pos c8_0]; rfl) rfl)
  by_cases c8_1 : w = 1
  · refine rr_tabIn (off := 36) (tgt := 44) oX4_cheapest_8 (by rw [c8_1]; decide) (by rw [c8_1]; decide) (by rw [c8_1]; rfl) (by decide) ?_
    refine ra_0 oX4_cheapest_44 ?_
    refine rr_gr (v := 2) oX4_cheapest_45 (ff_X4_18 rfl) kk_0 (wd_lt W rfl) ⟨by decide, rfl⟩ (wd_r W rfl rfl) ?_
    refine rr_cVi (c_X1_hopelessHouses l W gd_2 hA) oX4_cheapest_48 (cv_X4_236 rfl) (by decide) (gd_k gd_2) (by decide) hcn_1 (gd_lt (j := 0) W gd_2 rfl) rfl rfl (Nat.le_of_ble_eq_true rfl) ?_
    exact rr_ireturn oX4_cheapest_51 rfl rfl (q_C_an hC he (by rw [f_cheapest, if_neg c8_0, if_pos c8_1]; rfl) rfl)
  by_cases c8_2 : w = 2
  · refine rr_tabIn (off := 44) (tgt := 52) oX4_cheapest_8 (by rw [c8_2]; decide) (by rw [c8_2]; decide) (by rw [c8_2]; rfl) (by decide) ?_
    refine ra_0 oX4_cheapest_52 ?_
    refine rr_gr (v := 2) oX4_cheapest_53 (ff_X4_18 rfl) kk_0 (wd_lt W rfl) ⟨by decide, rfl⟩ (wd_r W rfl rfl) ?_
    refine rr_cVi (c_X1_cheapestShutters l W gd_2 hA hr) oX4_cheapest_56 (cv_X4_239 rfl) (by decide) (gd_k gd_2) (by decide) hcn_1 (gd_lt (j := 0) W gd_2 rfl) rfl rfl (Nat.le_of_ble_eq_true rfl) ?_
    exact rr_ireturn oX4_cheapest_59 rfl rfl (q_C_an hC he (by rw [f_cheapest, if_neg c8_0, if_neg c8_1, if_pos c8_2]; rfl) rfl)
  refine rr_tabOut (tgt := 60) oX4_cheapest_8 (tab_out_0_2 c8_0 c8_1 c8_2) (by decide) ?_
  refine ra_0 oX4_cheapest_60 ?_
  refine rr_bipush (v := (-5)) oX4_cheapest_61 (by decide) ?_
  refine rr_cVi (c_X4_refuse l W (c := 5) (by decide) (by decide)) oX4_cheapest_63 (cv_X4_55 rfl) (by decide) kk_0 (by decide) hcn_4 (wd_lt W rfl) rfl rfl (Nat.le_of_ble_eq_true rfl) ?_
  exact rr_ireturn oX4_cheapest_66 rfl rfl (q_C_noc hC he (by rw [f_cheapest, if_neg c8_0, if_neg c8_1, if_neg c8_2]) (by decide) (by decide))
theorem c_X4_fault (l : Launch) {I : Nat → Nat → Int32} {L : Nat → Nat → Int64} {Rf : Nat → Nat → Option Nat} {n : Nat} {S : sg_T} (W : wd_T Rf n) (hC : CR_T I L S) (hI : IV_T S) : wm_C l mX4_fault 1 0 0 [vv_A (some 0)] (I, L, Rf, n) (q_i (z_fl S) (I, L, Rf, n)) := by
  refine wm_of (by decide) (Nat.le_of_ble_eq_true rfl) rfl ?_
  have hG : gv_T I 2 (z_G S) := hC.1.1.1
  have h8 : g_n (z_G S) ≤ 8 := hI.1.1
  have hr : hr_T (z_G S) := hI.1.2.1
  refine ra_0 oX4_fault_0 ?_
  refine rr_giv oX4_fault_1 (ff_X4_46 rfl) kk_0 (wd_lt W rfl) ⟨by decide, rfl⟩ hC.2.2.2.2.1 ?_
  exact rr_ireturn oX4_fault_4 rfl rfl ⟨rfl, rfl⟩
