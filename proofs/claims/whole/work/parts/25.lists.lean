/-! SeenByOne: told lists, curtains, a new house (by program: wip/whole/c25.py) -/
def s_unl (G : gr_T) (dr : Nat → Bool) (sh : Nat → Nat → Bool) (e : Nat → Int64) (j : Nat) : Int32 := ((e j).toInt32 ^^^ st_S (p_se G dr sh j)) &&& ((1 : Int32) <<< (nI (g_n G) &&& 31) - 1)
theorem mk_N : ∀ n, n < 9 → (1 : Int32) <<< (nI n &&& 31) - 1 = st_S (fun i => decide (i < n)) := by decide +kernel
theorem mk_st (x : Int32) {n : Nat} (hn : n ≤ 8) : x &&& ((1 : Int32) <<< (nI n &&& 31) - 1) = st_S (fun i => decide (i < n) && bt_B x i) := by
  rw [mk_N n (by omega)]
  refine bt_ext fun i hi => ?_
  rw [bt_and, bt_st, bt_st]
  cases bt_B x i <;> simp
theorem gs_su {I : Nat → Nat → Int32} {g : Nat} {G : gr_T} {dr : Nat → Bool} {sh : Nat → Nat → Bool} {v : Int32} (h : gs_T I g G dr sh) : gs_T (up_I I g 1 v) g (g_ws G v) dr sh := by
  obtain ⟨⟨g1, g2, g3, g4, g5⟩, g6, g7⟩ := h
  have ne : ∀ a, a ≠ g → up_I I g 1 v a = I a := fun a ha => up_I_ne ha
  refine ⟨⟨g1, by rw [up_I_at_ne (by omega)]; exact g2, up_I_at, by rw [up_I_at_ne (by omega)]; exact g4, fun u hu => ?_⟩, by rw [up_I_at_ne (by omega)]; exact g6, fun j hj => by rw [ne _ (by omega)]; exact g7 j hj⟩
  rw [ne (g + 1) (by omega), ne (g + 2) (by omega), ne (g + 3) (by omega), ne (g + 4) (by omega), ne (g + 5) (by omega)]
  exact g5 u hu
theorem gl_dr {I : Nat → Nat → Int32} {g : Nat} {G : gr_T} {dr d2 : Nat → Bool} {sh : Nat → Nat → Bool} {v : Int32} (h : gl_T I g G dr sh) (hv : v = st_S d2) : gl_T (up_I I g 3 v) g G d2 sh :=
  ⟨⟨gv_keep h.1.1 (up_I_at_ne (by omega)) (up_I_at_ne (by omega)) (up_I_at_ne (by omega)) (fun j q1 q2 => up_I_ne (by omega)), by rw [up_I_at]; exact hv, fun j hj => by rw [up_I_ne (by omega)]; exact h.1.2.2 j hj⟩, fun j hj => by rw [up_I_ne (by omega)]; exact h.2 j hj⟩
def s_fit (S : sg_T) (e : Nat → Int64) (su : Int32) : Int32 := if fo_N (fun j => !(s_unl (g_ws (z_G S) su) (b_dr (z_B S)) (b_sh (z_B S)) e j == 0)) (g_n (z_G S)) 0 = none then 1 else 0
def s_li (S : sg_T) (s w : Int32) : Int32 := if ¬ s_lr S s = 0 then s_lr S s else if z_sz S (ix_N s) < nI (g_n (z_G S)) ∨ w < 0 ∨ 2 < w then -5 else 0
abbrev q_un (S : sg_T) (e : Nat → Int64) (j : Nat) : Int32 := s_unl (z_G S) (b_dr (z_B S)) (b_sh (z_B S)) e j
def f_list (S : sg_T) (s w : Int32) : an_T := if ¬ s_li S s w = 0 then (s_li S s w - 10, w_no S (no_c (s_li S s w))) else
  (if w = 0 then oI (fo_N (fun j => !(q_un S (z_el S (ix_N s)) j == 0)) (g_n (z_G S)) 0) else if w = 1 then sm_N (fun j => bc_I (q_un S (z_el S (ix_N s)) j)) (g_n (z_G S)) 0 0 else s_fit S (z_el S (ix_N s)) 1 + 2 * s_fit S (z_el S (ix_N s)) 0, S)
theorem unl_c {G : gr_T} {dr : Nat → Bool} {sh : Nat → Nat → Bool} {e e2 : Nat → Int64} {j : Nat} (h : e j = e2 j) : s_unl G dr sh e j = s_unl G dr sh e2 j := by unfold s_unl; rw [h]
theorem fo_c {p q : Nat → Bool} : ∀ m t, (∀ i, t ≤ i → i < t + m → p i = q i) → fo_N p m t = fo_N q m t := by
  intro m
  induction m with
  | zero => intro t h; rfl
  | succ m ih =>
    intro t h
    unfold fo_N
    rw [h t (Nat.le_refl t) (by omega), ih (t + 1) (fun i h1 h2 => h i (by omega) (by omega))]
theorem c_X4_unlikeBits (l : Launch) {I : Nat → Nat → Int32} {L : Nat → Nat → Int64} {Rf : Nat → Nat → Option Nat} {n : Nat} {g : Nat} (W : wd_T Rf n) (hg : gd_T g) {G : gr_T} {dr : Nat → Bool} {sh : Nat → Nat → Bool} (hA : gl_T I g G dr sh) {a : Nat} (hs : sh_T a) (hz : nI (g_n G) ≤ I a 1 ∧ g_n G ≤ 8) {j : Nat} (hj : j < g_n G) : wm_C l mX4_unlikeBits 3 0 0 [vv_A (some g), vv_A (some a), vv_I (nI j)] (I, L, Rf, n) (q_i (s_unl G dr sh (L (a + 1)) j) (I, L, Rf, n)) := by
  refine wm_of (by decide) (Nat.le_of_ble_eq_true rfl) rfl ?_
  have hG := hA.1.1
  have h8 := gv_8 hG
  refine ra_0 oX4_unlikeBits_0 ?_
  refine rr_giv oX4_unlikeBits_1 (ff_X4_280 rfl) (gd_k hg) (gd_lt (j := 0) W hg rfl) ⟨by decide, rfl⟩ (gv_c hG) ?_
  refine rr_cSi (c_X4_bit l) oX4_unlikeBits_4 (cs_X4_191 rfl) (by decide) rfl rfl (Nat.le_of_ble_eq_true rfl) ?_
  refine rk_1 oX4_unlikeBits_7 ?_
  refine rr_isub oX4_unlikeBits_8 ?_
  refine si_3 oX4_unlikeBits_9 rfl rfl ?_
  refine ra_1 oX4_unlikeBits_10 ?_
  refine ri_2 oX4_unlikeBits_11 ?_
  refine rr_cVi (c_X3_intAt l W hs (t := j) (by omega) ⟨nI_pos' (by omega), Int32.lt_of_lt_of_le ((nI_lt_iff (by omega) (by omega)).mpr hj) hz.1⟩) oX4_unlikeBits_12 (cv_X4_298 rfl) (by decide) (sh_k hs) (by decide) hcn_3 (sh_lt (j := 0) W hs rfl) rfl rfl (Nat.le_of_ble_eq_true rfl) ?_
  refine ra_0 oX4_unlikeBits_15 ?_
  refine ri_2 oX4_unlikeBits_16 ?_
  refine rr_cVi (c_X1_lookersSeeing l W hg hA (j := j) (by omega)) oX4_unlikeBits_17 (cv_X4_218 rfl) (by decide) (gd_k hg) (by decide) hcn_1 (gd_lt (j := 0) W hg rfl) rfl rfl (Nat.le_of_ble_eq_true rfl) ?_
  refine rr_ixor oX4_unlikeBits_20 ?_
  refine ri_3 oX4_unlikeBits_21 ?_
  refine rr_iand oX4_unlikeBits_22 ?_
  exact rr_ireturn oX4_unlikeBits_23 rfl rfl ⟨rfl, rfl⟩
theorem lp_X4_firstWrong (l : Launch) {I : Nat → Nat → Int32} {L : Nat → Nat → Int64} {Rf : Nat → Nat → Option Nat} {n : Nat} {g : Nat} (W : wd_T Rf n) (hg : gd_T g) {G : gr_T} {dr : Nat → Bool} {sh : Nat → Nat → Bool} (hA : gl_T I g G dr sh) {a : Nat} (hs : sh_T a) (hz : nI (g_n G) ≤ I a 1 ∧ g_n G ≤ 8) : ∀ m t, t + m = g_n G → wm_W l mX4_firstWrong 4 0 0 2 [vv_A (some g), vv_A (some a), vv_I (nI t)] [] (I, L, Rf, n) (q_i (oI (fo_N (fun j => !(s_unl G dr sh (L (a + 1)) j == 0)) m t)) (I, L, Rf, n)) := by
  intro m
  induction m with
  | zero =>
    intro t ht
    have hG := hA.1.1
    have h8 := gv_8 hG
    refine ri_2 oX4_firstWrong_2 ?_
    refine ra_0 oX4_firstWrong_3 ?_
    refine rr_giv oX4_firstWrong_4 (ff_X4_280 rfl) (gd_k hg) (gd_lt (j := 0) W hg rfl) ⟨by decide, rfl⟩ (gv_c hG) ?_
    refine rr_icmp_ge (tgt := 27) oX4_firstWrong_7 (by decide) (fun c => ?_) (fun c => ?_)
    rotate_left
    · exact absurd c (by rw [nI_le_iff (by omega) (by omega)]; omega)
    refine rk_m1 oX4_firstWrong_27 ?_
    exact rr_ireturn oX4_firstWrong_28 rfl rfl ⟨rfl, rfl⟩
  | succ m ih =>
    intro t ht
    have hG := hA.1.1
    have h8 := gv_8 hG
    refine ri_2 oX4_firstWrong_2 ?_
    refine ra_0 oX4_firstWrong_3 ?_
    refine rr_giv oX4_firstWrong_4 (ff_X4_280 rfl) (gd_k hg) (gd_lt (j := 0) W hg rfl) ⟨by decide, rfl⟩ (gv_c hG) ?_
    refine rr_icmp_ge (tgt := 27) oX4_firstWrong_7 (by decide) (fun c => ?_) (fun c => ?_)
    · (rw [nI_le_iff (by omega) (by omega)] at c; omega)
    refine ra_0 oX4_firstWrong_10 ?_
    refine ra_1 oX4_firstWrong_11 ?_
    refine ri_2 oX4_firstWrong_12 ?_
    refine rr_cSi (c_X4_unlikeBits l W hg hA hs hz (j := t) (by omega)) oX4_firstWrong_13 (cs_X4_294 rfl) (by decide) rfl rfl (Nat.le_of_ble_eq_true rfl) ?_
    refine rr_if_eq (tgt := 21) oX4_firstWrong_16 (by decide) (fun c1 => ?_) (fun c1 => ?_)
    · refine rn_2 oX4_firstWrong_21 rfl rfl ?_
      refine rr_goto (tgt := 2) oX4_firstWrong_24 (by decide) ?_
      have h3 := ih (t + 1) (by omega)
      simp only [fo_N]
      rw [if_neg (by simp [c1])]
      exact h3
    · refine ri_2 oX4_firstWrong_19 ?_
      exact rr_ireturn oX4_firstWrong_20 rfl rfl (q_is (by simp only [fo_N]; rw [if_pos (by simp [c1])]; rfl))
theorem c_X4_firstWrong (l : Launch) {I : Nat → Nat → Int32} {L : Nat → Nat → Int64} {Rf : Nat → Nat → Option Nat} {n : Nat} {g : Nat} (W : wd_T Rf n) (hg : gd_T g) {G : gr_T} {dr : Nat → Bool} {sh : Nat → Nat → Bool} (hA : gl_T I g G dr sh) {a : Nat} (hs : sh_T a) (hz : nI (g_n G) ≤ I a 1 ∧ g_n G ≤ 8) : wm_C l mX4_firstWrong 4 0 0 [vv_A (some g), vv_A (some a)] (I, L, Rf, n) (q_i (oI (fo_N (fun j => !(s_unl G dr sh (L (a + 1)) j == 0)) (g_n G) 0)) (I, L, Rf, n)) := by
  refine wm_of (by decide) (Nat.le_of_ble_eq_true rfl) rfl ?_
  have hG := hA.1.1
  have h8 := gv_8 hG
  refine rk_0 oX4_firstWrong_0 ?_
  refine si_2 oX4_firstWrong_1 rfl rfl ?_
  exact lp_X4_firstWrong l W hg hA hs hz (g_n G) 0 (Nat.zero_add _)
theorem lp_X4_countUnlike (l : Launch) {I : Nat → Nat → Int32} {L : Nat → Nat → Int64} {Rf : Nat → Nat → Option Nat} {n : Nat} {g : Nat} (W : wd_T Rf n) (hg : gd_T g) {G : gr_T} {dr : Nat → Bool} {sh : Nat → Nat → Bool} (hA : gl_T I g G dr sh) {a : Nat} (hs : sh_T a) (hz : nI (g_n G) ≤ I a 1 ∧ g_n G ≤ 8) : ∀ m t acc, t + m = g_n G → wm_W l mX4_countUnlike 4 0 0 4 [vv_A (some g), vv_A (some a), vv_I acc, vv_I (nI t)] [] (I, L, Rf, n) (q_i (sm_N (fun j => bc_I (s_unl G dr sh (L (a + 1)) j)) m t acc) (I, L, Rf, n)) := by
  intro m
  induction m with
  | zero =>
    intro t acc ht
    have hG := hA.1.1
    have h8 := gv_8 hG
    refine ri_3 oX4_countUnlike_4 ?_
    refine ra_0 oX4_countUnlike_5 ?_
    refine rr_giv oX4_countUnlike_6 (ff_X4_280 rfl) (gd_k hg) (gd_lt (j := 0) W hg rfl) ⟨by decide, rfl⟩ (gv_c hG) ?_
    refine rr_icmp_ge (tgt := 30) oX4_countUnlike_9 (by decide) (fun c => ?_) (fun c => ?_)
    rotate_left
    · exact absurd c (by rw [nI_le_iff (by omega) (by omega)]; omega)
    refine ri_2 oX4_countUnlike_30 ?_
    exact rr_ireturn oX4_countUnlike_31 rfl rfl ⟨rfl, rfl⟩
  | succ m ih =>
    intro t acc ht
    have hG := hA.1.1
    have h8 := gv_8 hG
    refine ri_3 oX4_countUnlike_4 ?_
    refine ra_0 oX4_countUnlike_5 ?_
    refine rr_giv oX4_countUnlike_6 (ff_X4_280 rfl) (gd_k hg) (gd_lt (j := 0) W hg rfl) ⟨by decide, rfl⟩ (gv_c hG) ?_
    refine rr_icmp_ge (tgt := 30) oX4_countUnlike_9 (by decide) (fun c => ?_) (fun c => ?_)
    · (rw [nI_le_iff (by omega) (by omega)] at c; omega)
    refine ri_2 oX4_countUnlike_12 ?_
    refine ra_0 oX4_countUnlike_13 ?_
    refine ra_1 oX4_countUnlike_14 ?_
    refine ri_3 oX4_countUnlike_15 ?_
    refine rr_cSi (c_X4_unlikeBits l W hg hA hs hz (j := t) (by omega)) oX4_countUnlike_16 (cs_X4_294 rfl) (by decide) rfl rfl (Nat.le_of_ble_eq_true rfl) ?_
    refine rr_cSi (c_J6_bitCount_0f7a4 l) oX4_countUnlike_19 (cs_X4_122 rfl) (by decide) rfl rfl (Nat.le_of_ble_eq_true rfl) ?_
    refine rr_iadd oX4_countUnlike_22 ?_
    refine si_2 oX4_countUnlike_23 rfl rfl ?_
    refine rn_3 oX4_countUnlike_24 rfl rfl ?_
    refine rr_goto (tgt := 4) oX4_countUnlike_27 (by decide) ?_
    exact ih (t + 1) _ (by omega)
theorem c_X4_countUnlike (l : Launch) {I : Nat → Nat → Int32} {L : Nat → Nat → Int64} {Rf : Nat → Nat → Option Nat} {n : Nat} {g : Nat} (W : wd_T Rf n) (hg : gd_T g) {G : gr_T} {dr : Nat → Bool} {sh : Nat → Nat → Bool} (hA : gl_T I g G dr sh) {a : Nat} (hs : sh_T a) (hz : nI (g_n G) ≤ I a 1 ∧ g_n G ≤ 8) : wm_C l mX4_countUnlike 4 0 0 [vv_A (some g), vv_A (some a)] (I, L, Rf, n) (q_i (sm_N (fun j => bc_I (s_unl G dr sh (L (a + 1)) j)) (g_n G) 0 0) (I, L, Rf, n)) := by
  refine wm_of (by decide) (Nat.le_of_ble_eq_true rfl) rfl ?_
  have hG := hA.1.1
  have h8 := gv_8 hG
  refine rk_0 oX4_countUnlike_0 ?_
  refine si_2 oX4_countUnlike_1 rfl rfl ?_
  refine rk_0 oX4_countUnlike_2 ?_
  refine si_3 oX4_countUnlike_3 rfl rfl ?_
  exact lp_X4_countUnlike l W hg hA hs hz (g_n G) 0 0 (Nat.zero_add _)
theorem c_X4_fitsIn (l : Launch) {I : Nat → Nat → Int32} {L : Nat → Nat → Int64} {Rf : Nat → Nat → Option Nat} {n : Nat} {S : sg_T} (W : wd_T Rf n) (hC : CR_T I L S) (hI : IV_T S) {a : Nat} (hs : sh_T a) (hz : nI (g_n (z_G S)) ≤ I a 1) {su : Int32} : wm_C l mX4_fitsIn 7 0 0 [vv_A (some 0), vv_A (some a), vv_I su] (I, L, Rf, n) (q_n (fun v J => v = s_fit S (L (a + 1)) su ∧ ce_T I J) L Rf n) := by
  refine wm_of (by decide) (Nat.le_of_ble_eq_true rfl) rfl ?_
  have hG : gv_T I 2 (z_G S) := hC.1.1.1
  have h8 : g_n (z_G S) ≤ 8 := hI.1.1
  have hr : hr_T (z_G S) := hI.1.2.1
  refine ra_0 oX4_fitsIn_0 ?_
  refine rr_gr (v := 18) oX4_fitsIn_1 (ff_X4_25 rfl) kk_0 (wd_lt W rfl) ⟨by decide, rfl⟩ (wd_r W rfl rfl) ?_
  refine ra_0 oX4_fitsIn_4 ?_
  refine rr_gr (v := 2) oX4_fitsIn_5 (ff_X4_18 rfl) kk_0 (wd_lt W rfl) ⟨by decide, rfl⟩ (wd_r W rfl rfl) ?_
  refine rr_cVm (c_X1_copyFrom l W gd_18 gd_2 (by omega)) oX4_fitsIn_8 (cv_X4_197 rfl) (by decide) (gd_k gd_18) (by decide) hcn_1 (gd_lt (j := 0) W gd_18 rfl) rfl rfl (Nat.le_of_ble_eq_true rfl) (fun K hK => ?_)
  have hT := cf_gs hK hC.1.1
  refine ra_0 oX4_fitsIn_11 ?_
  refine rr_gr (v := 18) oX4_fitsIn_12 (ff_X4_25 rfl) kk_0 (wd_lt W rfl) ⟨by decide, rfl⟩ (wd_r W rfl rfl) ?_
  refine ri_2 oX4_fitsIn_15 ?_
  refine rr_pi oX4_fitsIn_16 (ff_X4_176 rfl) (gd_k gd_18) (gd_lt (j := 0) W gd_18 rfl) ⟨by decide, rfl, by decide⟩ pf_1_1 ⟨rfl, rfl⟩ ?_
  have hT2 := gs_su (v := su) hT
  refine ra_0 oX4_fitsIn_19 ?_
  refine rr_gr (v := 18) oX4_fitsIn_20 (ff_X4_25 rfl) kk_0 (wd_lt W rfl) ⟨by decide, rfl⟩ (wd_r W rfl rfl) ?_
  refine rr_cVm (c_X1_lookAround l W gd_18 hT2.1 (hr_xy hr)) oX4_fitsIn_23 (cv_X4_113 rfl) (by decide) (gd_k gd_18) (by decide) hcn_1 (gd_lt (j := 0) W gd_18 rfl) rfl rfl (Nat.le_of_ble_eq_true rfl) (fun M hM => ?_)
  have hB := la_gl hM hT2
  have he : ce_T I M := ce_tr (ce_tr (ce_cf hK) (fun a _ q2 _ => up_I_ne (by omega))) (ce_la18 hM)
  refine ra_0 oX4_fitsIn_26 ?_
  refine rr_gr (v := 18) oX4_fitsIn_27 (ff_X4_25 rfl) kk_0 (wd_lt W rfl) ⟨by decide, rfl⟩ (wd_r W rfl rfl) ?_
  refine ra_1 oX4_fitsIn_30 ?_
  have hz2 : nI (g_n (g_ws (z_G S) su)) ≤ M a 1 ∧ g_n (g_ws (z_G S) su) ≤ 8 := ⟨by obtain ⟨s, h1, rfl⟩ := hs; rw [he (30 + 2 * s) (by omega) (by omega) (by omega)]; exact hz, h8⟩
  refine rr_cSi (c_X4_firstWrong l W gd_18 hB hs hz2) oX4_fitsIn_31 (cs_X4_283 rfl) (by decide) rfl rfl (Nat.le_of_ble_eq_true rfl) ?_
  generalize hst : fo_N (fun j => !(s_unl (g_ws (z_G S) su) (b_dr (z_B S)) (b_sh (z_B S)) (L (a + 1)) j == 0)) (g_n (g_ws (z_G S) su)) 0 = ke
  rcases ke with _ | b
  · refine rk_m1 oX4_fitsIn_34 ?_
    refine rr_icmp_ne (tgt := 42) oX4_fitsIn_35 (by decide) (fun c => ?_) (fun c => ?_)
    · exact absurd rfl c
    refine rk_1 oX4_fitsIn_38 ?_
    refine rr_goto (tgt := 43) oX4_fitsIn_39 (by decide) ?_
    exact rr_ireturn oX4_fitsIn_43 rfl rfl (q_n_of ⟨by rw [s_fit]; exact (if_pos hst).symm, he⟩)
  · have hb := fo_lt _ _ _ hst
    have hb2 : b < g_n (z_G S) := by have := hb.2.1; rw [Nat.zero_add] at this; exact this
    simp only [oI]
    refine rk_m1 oX4_fitsIn_34 ?_
    refine rr_icmp_ne (tgt := 42) oX4_fitsIn_35 (by decide) (fun c => ?_) (fun c => ?_)
    rotate_left
    · exact absurd c (nI_nm1 (by omega))
    refine rk_0 oX4_fitsIn_42 ?_
    exact rr_ireturn oX4_fitsIn_43 rfl rfl (q_n_of ⟨by rw [s_fit]; exact (if_neg (by intro q; have := hst.symm.trans q; cases this)).symm, he⟩)
theorem c_X4_list (l : Launch) {I : Nat → Nat → Int32} {L : Nat → Nat → Int64} {Rf : Nat → Nat → Option Nat} {n : Nat} {S : sg_T} (W : wd_T Rf n) (hC : CR_T I L S) (hI : IV_T S) {s w : Int32} : wm_C l mX4_list 8 0 0 [vv_A (some 0), vv_I s, vv_I w] (I, L, Rf, n) (q_C (f_list S s w).1 (f_list S s w).2 I L Rf n) := by
  refine wm_of (by decide) (Nat.le_of_ble_eq_true rfl) rfl ?_
  have hG : gv_T I 2 (z_G S) := hC.1.1.1
  have h8 : g_n (z_G S) ≤ 8 := hI.1.1
  have hr : hr_T (z_G S) := hI.1.2.1
  refine ra_0 oX4_list_0 ?_
  refine ri_1 oX4_list_1 ?_
  refine rr_cVi (c_X4_lacksRow l W hC hI) oX4_list_2 (cv_X4_63 rfl) (by decide) kk_0 (by decide) hcn_4 (wd_lt W rfl) rfl rfl (Nat.le_of_ble_eq_true rfl) ?_
  refine si_3 oX4_list_5 rfl rfl ?_
  refine ri_3 oX4_list_6 ?_
  refine rr_if_ne (tgt := 41) oX4_list_7 (by decide) (fun c => ?_) (fun c => ?_)
  · have hli : s_li S s w = s_lr S s := by rw [s_li, if_pos c]
    have hno := no_lr s_lr_n c
    refine ri_3 oX4_list_41 ?_
    refine rr_if_eq (tgt := 54) oX4_list_42 (by decide) (fun c9 => ?_) (fun c9 => ?_)
    · exact absurd c9 c
    refine ra_0 oX4_list_45 ?_
    refine ri_3 oX4_list_46 ?_
    refine rr_cVi (c_X4_refuse l W hno.1 hno.2) oX4_list_47 (cv_X4_55 rfl) (by decide) kk_0 (by decide) hcn_4 (wd_lt W rfl) rfl rfl (Nat.le_of_ble_eq_true rfl) ?_
    refine rr_bipush (v := 10) oX4_list_50 (by decide) ?_
    refine rr_isub oX4_list_52 ?_
    exact rr_ireturn oX4_list_53 rfl rfl (q_C_nod hC ce_rf (by rw [f_list, if_pos (by rw [hli]; exact c), hli]) hno.1)
  · obtain ⟨t, ht, rfl, c3, c4⟩ := s_lr_0 c
    obtain ⟨o, ho, ho2, k, hk, hk2⟩ := IV_row hI ht c3
    have ex : ix_N (nI t) = t := nI_clamp (by omega)
    have esz : I (30 + 2 * t) 1 = z_sz S t := CR_sz hC ht
    refine ra_0 oX4_list_10 ?_
    refine rr_gr (v := 1) oX4_list_11 (ff_X4_11 rfl) kk_0 (wd_lt W rfl) ⟨by decide, rfl⟩ (wd_r W rfl rfl) ?_
    refine ri_1 oX4_list_14 ?_
    refine rr_ald (t := t) (v := 30 + 2 * t) oX4_list_15 kk_1 (wd_lt W rfl) rfl (by omega) (by decide) (sh_q W ht) ?_
    refine rr_giv oX4_list_16 (ff_X4_277 rfl) (sh_k (sh_of ht)) (sh_lt (j := 0) W (sh_of ht) rfl) ⟨by decide, rfl⟩ esz ?_
    refine ra_0 oX4_list_19 ?_
    refine rr_gr (v := 2) oX4_list_20 (ff_X4_18 rfl) kk_0 (wd_lt W rfl) ⟨by decide, rfl⟩ (wd_r W rfl rfl) ?_
    refine rr_giv oX4_list_23 (ff_X4_280 rfl) (gd_k gd_2) (gd_lt (j := 0) W gd_2 rfl) ⟨by decide, rfl⟩ (gv_c hG) ?_
    refine rr_icmp_lt (tgt := 38) oX4_list_26 (by decide) (fun c5 => ?_) (fun c5 => ?_)
    · have hli : s_li S (nI t) w = -5 := by rw [s_li, if_neg (fun q => q c), ex, if_pos (Or.inl c5)]
      refine rr_bipush (v := (-5)) oX4_list_38 (by decide) ?_
      refine si_3 oX4_list_40 rfl rfl ?_
      refine ri_3 oX4_list_41 ?_
      refine rr_if_eq (tgt := 54) oX4_list_42 (by decide) (fun q => absurd q (by decide)) (fun _ => ?_)
      refine ra_0 oX4_list_45 ?_
      refine ri_3 oX4_list_46 ?_
      refine rr_cVi (c_X4_refuse l W (c := 5) (by decide) (by decide)) oX4_list_47 (cv_X4_55 rfl) (by decide) kk_0 (by decide) hcn_4 (wd_lt W rfl) rfl rfl (Nat.le_of_ble_eq_true rfl) ?_
      refine rr_bipush (v := 10) oX4_list_50 (by decide) ?_
      refine rr_isub oX4_list_52 ?_
      exact rr_ireturn oX4_list_53 rfl rfl (q_C_nod (r := -5) hC ce_rf (by rw [f_list, hli, if_pos (by decide)]) (by decide))
    · refine ri_2 oX4_list_29 ?_
      refine rr_if_lt (tgt := 38) oX4_list_30 (by decide) (fun c6 => ?_) (fun c6 => ?_)
      · have hli : s_li S (nI t) w = -5 := by rw [s_li, if_neg (fun q => q c), ex, if_pos (Or.inr (Or.inl c6))]
        refine rr_bipush (v := (-5)) oX4_list_38 (by decide) ?_
        refine si_3 oX4_list_40 rfl rfl ?_
        refine ri_3 oX4_list_41 ?_
        refine rr_if_eq (tgt := 54) oX4_list_42 (by decide) (fun q => absurd q (by decide)) (fun _ => ?_)
        refine ra_0 oX4_list_45 ?_
        refine ri_3 oX4_list_46 ?_
        refine rr_cVi (c_X4_refuse l W (c := 5) (by decide) (by decide)) oX4_list_47 (cv_X4_55 rfl) (by decide) kk_0 (by decide) hcn_4 (wd_lt W rfl) rfl rfl (Nat.le_of_ble_eq_true rfl) ?_
        refine rr_bipush (v := 10) oX4_list_50 (by decide) ?_
        refine rr_isub oX4_list_52 ?_
        exact rr_ireturn oX4_list_53 rfl rfl (q_C_nod (r := -5) hC ce_rf (by rw [f_list, hli, if_pos (by decide)]) (by decide))
      · refine ri_2 oX4_list_33 ?_
        refine rk_2 oX4_list_34 ?_
        refine rr_icmp_le (tgt := 41) oX4_list_35 (by decide) (fun c7 => ?_) (fun c7 => ?_)
        · have hli : s_li S (nI t) w = 0 := by rw [s_li, if_neg (fun q => q c), ex, if_neg (by rintro (q | q | q); exact c5 q; exact c6 q; exact Int32.not_lt.mpr c7 q)]
          refine ri_3 oX4_list_41 ?_
          refine rr_if_eq (tgt := 54) oX4_list_42 (by decide) (fun c9 => ?_) (fun c9 => ?_)
          rotate_left
          · exact absurd c c9
          refine ra_0 oX4_list_54 ?_
          refine rr_gr (v := 2) oX4_list_55 (ff_X4_18 rfl) kk_0 (wd_lt W rfl) ⟨by decide, rfl⟩ (wd_r W rfl rfl) ?_
          refine rr_cVm (c_X1_lookAround l W gd_2 hG (hr_xy hr)) oX4_list_58 (cv_X4_113 rfl) (by decide) (gd_k gd_2) (by decide) hcn_1 (gd_lt (j := 0) W gd_2 rfl) rfl rfl (Nat.le_of_ble_eq_true rfl) (fun J hJ => ?_)
          have hA : gl_T J 2 (z_G S) (b_dr (z_B S)) (b_sh (z_B S)) := la_gl hJ hC.1.1
          have he : ce_T I J := ce_la hJ
          have hG := hA.1.1
          have eb : ∀ j, j < g_n (z_G S) → L (30 + 2 * t + 1) j = z_el S t j := fun j hj => CR_el hC ht (by omega)
          have hz : nI (g_n (z_G S)) ≤ J (30 + 2 * t) 1 := by rw [he (30 + 2 * t) (by omega) (by omega) (by omega), esz]; exact Int32.not_lt.mp c5
          have hs := sh_of ht
          refine ri_2 oX4_list_61 ?_
          by_cases c62_0 : w = 0
          · refine rr_lookup (off := 26) (tgt := 88) oX4_list_62 (by decide) (by rw [c62_0]; rfl) (by decide) ?_
            refine ra_0 oX4_list_88 ?_
            refine rr_gr (v := 2) oX4_list_89 (ff_X4_18 rfl) kk_0 (wd_lt W rfl) ⟨by decide, rfl⟩ (wd_r W rfl rfl) ?_
            refine ra_0 oX4_list_92 ?_
            refine rr_gr (v := 1) oX4_list_93 (ff_X4_11 rfl) kk_0 (wd_lt W rfl) ⟨by decide, rfl⟩ (wd_r W rfl rfl) ?_
            refine ri_1 oX4_list_96 ?_
            refine rr_ald (t := t) (v := 30 + 2 * t) oX4_list_97 kk_1 (wd_lt W rfl) rfl (by omega) (by decide) (sh_q W ht) ?_
            refine rr_cSi (c_X4_firstWrong l W gd_2 hA hs ⟨hz, h8⟩) oX4_list_98 (cs_X4_283 rfl) (by decide) rfl rfl (Nat.le_of_ble_eq_true rfl) ?_
            exact rr_ireturn oX4_list_101 rfl rfl (q_C_an hC he (by rw [f_list, if_neg (fun q => q hli), ex, if_pos c62_0]) (congrArg oI (fo_c _ _ (fun i _ h2 => by rw [q_un, unl_c (eb i (by omega))]))))
          by_cases c62_1 : w = 1
          · refine rr_lookup (off := 40) (tgt := 102) oX4_list_62 (by decide) (by rw [c62_1]; rfl) (by decide) ?_
            refine ra_0 oX4_list_102 ?_
            refine rr_gr (v := 2) oX4_list_103 (ff_X4_18 rfl) kk_0 (wd_lt W rfl) ⟨by decide, rfl⟩ (wd_r W rfl rfl) ?_
            refine ra_0 oX4_list_106 ?_
            refine rr_gr (v := 1) oX4_list_107 (ff_X4_11 rfl) kk_0 (wd_lt W rfl) ⟨by decide, rfl⟩ (wd_r W rfl rfl) ?_
            refine ri_1 oX4_list_110 ?_
            refine rr_ald (t := t) (v := 30 + 2 * t) oX4_list_111 kk_1 (wd_lt W rfl) rfl (by omega) (by decide) (sh_q W ht) ?_
            refine rr_cSi (c_X4_countUnlike l W gd_2 hA hs ⟨hz, h8⟩) oX4_list_112 (cs_X4_287 rfl) (by decide) rfl rfl (Nat.le_of_ble_eq_true rfl) ?_
            exact rr_ireturn oX4_list_115 rfl rfl (q_C_an hC he (by rw [f_list, if_neg (fun q => q hli), ex, if_neg c62_0, if_pos c62_1]) (sm_c _ _ _ (fun i _ h2 => by rw [q_un, unl_c (eb i (by omega))])))
          refine rr_lookup (off := 54) (tgt := 116) oX4_list_62 (by decide) (lk_out c62_0 c62_1) (by decide) ?_
          refine ra_0 oX4_list_116 ?_
          refine ra_0 oX4_list_117 ?_
          refine rr_gr (v := 1) oX4_list_118 (ff_X4_11 rfl) kk_0 (wd_lt W rfl) ⟨by decide, rfl⟩ (wd_r W rfl rfl) ?_
          refine ri_1 oX4_list_121 ?_
          refine rr_ald (t := t) (v := 30 + 2 * t) oX4_list_122 kk_1 (wd_lt W rfl) rfl (by omega) (by decide) (sh_q W ht) ?_
          refine rk_1 oX4_list_123 ?_
          refine rr_cVn (c_X4_fitsIn l W (CR_ce hC he) hI hs hz) oX4_list_124 (cv_X4_290 rfl) (by decide) kk_0 (by decide) hcn_4 (wd_lt W rfl) rfl rfl (Nat.le_of_ble_eq_true rfl) (fun v1 K hK1 => ?_)
          obtain ⟨rfl, hK⟩ := hK1
          have hz2 : nI (g_n (z_G S)) ≤ K (30 + 2 * t) 1 := by rw [hK (30 + 2 * t) (by omega) (by omega) (by omega)]; exact hz
          refine rk_2 oX4_list_127 ?_
          refine ra_0 oX4_list_128 ?_
          refine ra_0 oX4_list_129 ?_
          refine rr_gr (v := 1) oX4_list_130 (ff_X4_11 rfl) kk_0 (wd_lt W rfl) ⟨by decide, rfl⟩ (wd_r W rfl rfl) ?_
          refine ri_1 oX4_list_133 ?_
          refine rr_ald (t := t) (v := 30 + 2 * t) oX4_list_134 kk_1 (wd_lt W rfl) rfl (by omega) (by decide) (sh_q W ht) ?_
          refine rk_0 oX4_list_135 ?_
          refine rr_cVn (c_X4_fitsIn l W (CR_ce hC (ce_tr he hK)) hI hs hz2) oX4_list_136 (cv_X4_290 rfl) (by decide) kk_0 (by decide) hcn_4 (wd_lt W rfl) rfl rfl (Nat.le_of_ble_eq_true rfl) (fun v2 M hM1 => ?_)
          obtain ⟨rfl, hM⟩ := hM1
          have ef : ∀ su, s_fit S (L (30 + 2 * t + 1)) su = s_fit S (z_el S t) su := fun su => by rw [s_fit, s_fit, fo_c (q := fun j => !(s_unl (g_ws (z_G S) su) (b_dr (z_B S)) (b_sh (z_B S)) (z_el S t) j == 0)) _ _ (fun i _ h2 => by rw [unl_c (eb i (by omega))])]
          refine rr_imul oX4_list_139 ?_
          refine rr_iadd oX4_list_140 ?_
          exact rr_ireturn oX4_list_141 rfl rfl (q_C_an hC (ce_tr he (ce_tr hK hM)) (by rw [f_list, if_neg (fun q => q hli), ex, if_neg c62_0, if_neg c62_1]) (by rw [ef, ef]))
        · have hli : s_li S (nI t) w = -5 := by rw [s_li, if_neg (fun q => q c), ex, if_pos (Or.inr (Or.inr (Int32.not_le.mp c7)))]
          refine rr_bipush (v := (-5)) oX4_list_38 (by decide) ?_
          refine si_3 oX4_list_40 rfl rfl ?_
          refine ri_3 oX4_list_41 ?_
          refine rr_if_eq (tgt := 54) oX4_list_42 (by decide) (fun q => absurd q (by decide)) (fun _ => ?_)
          refine ra_0 oX4_list_45 ?_
          refine ri_3 oX4_list_46 ?_
          refine rr_cVi (c_X4_refuse l W (c := 5) (by decide) (by decide)) oX4_list_47 (cv_X4_55 rfl) (by decide) kk_0 (by decide) hcn_4 (wd_lt W rfl) rfl rfl (Nat.le_of_ble_eq_true rfl) ?_
          refine rr_bipush (v := 10) oX4_list_50 (by decide) ?_
          refine rr_isub oX4_list_52 ?_
          exact rr_ireturn oX4_list_53 rfl rfl (q_C_nod (r := -5) hC ce_rf (by rw [f_list, hli, if_pos (by decide)]) (by decide))
