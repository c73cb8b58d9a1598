/-! SeenByOne: curtains (by program: wip/whole/c26.py) -/
abbrev tb_N (s i : Nat) : Bool := s.testBit i
theorem st_tb : ∀ s, s < 256 → nI s = st_S (tb_N s) := by decide +kernel
def s_ok (G : gr_T) (s : Nat) : Bool := st_S (fun i => tb_N s i && !p_h G i) == 0
theorem ok_iff {G : gr_T} {s : Nat} (hs : s < 256) : s_ok G s = true ↔ nI s &&& (st_S (p_h G) ^^^ (-1)) = 0 := by
  rw [st_tb s hs, st_not, s_ok, beq_iff_eq]
def k_ad (S : sg_T) (su : Int32) (s : Nat) : Nat := if s_ok (z_G S) s = true then cn_8 (p_ri (g_ws (z_G S) su) (tb_N s) (b_sh (z_B S))) else 0
def k_tot (S : sg_T) (w : Int32) (s : Nat) : Nat := if w < 2 then k_ad S (g_s (z_G S)) s else k_ad S 0 s + k_ad S 1 s
def bw_N (ok : Nat → Bool) (T c : Nat → Nat) : Nat → Nat → Nat → Nat
  | 0, _, b => b
  | m + 1, t, b => bw_N ok T c m (t + 1) (if ok t = true ∧ (T b < T t ∨ (T t = T b ∧ c t < c b)) then t else b)
theorem bw_lt (ok : Nat → Bool) (T c : Nat → Nat) {z : Nat} : ∀ m t b, t + m ≤ z → b < z → bw_N ok T c m t b < z := by
  intro m
  induction m with
  | zero => intro t b _ h; exact h
  | succ m ih =>
    intro t b h1 h2
    unfold bw_N
    refine ih (t + 1) _ (by omega) ?_
    split <;> omega
def k_best (S : sg_T) (w : Int32) : Nat := bw_N (s_ok (z_G S)) (k_tot S w) (fun s => cn_8 (tb_N s)) 255 1 0
def f_curtains (S : sg_T) (w : Int32) : an_T := if w < 0 ∨ 3 < w then f_no S (-5) else (if w = 0 ∨ w = 2 then nI (k_best S w) else nI (k_tot S w (k_best S w)), S)
theorem k_ad_8 (S : sg_T) (su : Int32) (s : Nat) : k_ad S su s ≤ 8 := by
  unfold k_ad
  split
  · exact cn_le _ 8
  · omega
theorem k_tot_16 (S : sg_T) (w : Int32) (s : Nat) : k_tot S w s ≤ 16 := by
  have h1 := k_ad_8 S 0 s
  have h2 := k_ad_8 S 1 s
  have h3 := k_ad_8 S (g_s (z_G S)) s
  unfold k_tot
  split <;> omega
theorem mo_N : ∀ a, a < 17 → ∀ b, b < 17 → ((0 < nI a - nI b ↔ b < a) ∧ (nI a - nI b = 0 ↔ a = b)) := by decide +kernel
theorem lp_X4_addRightWhenDrawn (l : Launch) {I : Nat → Nat → Int32} {L : Nat → Nat → Int64} {Rf : Nat → Nat → Option Nat} {n : Nat} {S : sg_T} (W : wd_T Rf n) (hC : CR_T I L S) {su : Int32} {A : Nat → Nat} : ∀ m (J : Nat → Nat → Int32) t dr, t + m = 256 → gl_T J 18 (g_ws (z_G S) su) dr (b_sh (z_B S)) → ce_T I J → (∀ s, s < 256 → J 29 s = nI (A s + if s < t then k_ad S su s else 0)) → wm_W l mX4_addRightWhenDrawn 7 0 0 36 [vv_A (some 0), vv_I su, vv_I (st_S (p_h (z_G S))), vv_I (nI t)] [] (J, L, Rf, n) (q_m (fun J => ce_T I J ∧ ∀ s, s < 256 → J 29 s = nI (A s + k_ad S su s)) L Rf n) := by
  intro m
  induction m with
  | zero =>
    intro J t dr ht hB he hA
    refine ri_3 oX4_addRightWhenDrawn_36 ?_
    refine ra_0 oX4_addRightWhenDrawn_37 ?_
    refine rr_gr (v := 29) oX4_addRightWhenDrawn_38 (ff_X4_39 rfl) kk_0 (wd_lt W rfl) ⟨by decide, rfl⟩ (wd_r W rfl rfl) ?_
    refine rr_alen (v := 256) oX4_addRightWhenDrawn_41 ⟨Or.inl kk_29.1, kk_29.2⟩ (wd_lt W rfl) (by decide) ?_
    refine rr_icmp_ge (tgt := 83) oX4_addRightWhenDrawn_42 (by decide) (fun c => ?_) (fun c => ?_)
    rotate_left
    · exact absurd c (by rw [show (256 : Int32) = nI 256 from rfl, nI_le_iff (by omega) (by omega)]; omega)
    exact rr_return oX4_addRightWhenDrawn_83 rfl (q_m_of ⟨he, fun s hs => by have := hA s hs; rw [if_pos (by omega)] at this; exact this⟩)
  | succ m ih =>
    intro J t dr ht hB he hA
    refine ri_3 oX4_addRightWhenDrawn_36 ?_
    refine ra_0 oX4_addRightWhenDrawn_37 ?_
    refine rr_gr (v := 29) oX4_addRightWhenDrawn_38 (ff_X4_39 rfl) kk_0 (wd_lt W rfl) ⟨by decide, rfl⟩ (wd_r W rfl rfl) ?_
    refine rr_alen (v := 256) oX4_addRightWhenDrawn_41 ⟨Or.inl kk_29.1, kk_29.2⟩ (wd_lt W rfl) (by decide) ?_
    refine rr_icmp_ge (tgt := 83) oX4_addRightWhenDrawn_42 (by decide) (fun c => ?_) (fun c => ?_)
    · (rw [show (256 : Int32) = nI 256 from rfl, nI_le_iff (by omega) (by omega)] at c; omega)
    refine ri_3 oX4_addRightWhenDrawn_45 ?_
    refine ri_2 oX4_addRightWhenDrawn_46 ?_
    refine rk_m1 oX4_addRightWhenDrawn_47 ?_
    refine rr_ixor oX4_addRightWhenDrawn_48 ?_
    refine rr_iand oX4_addRightWhenDrawn_49 ?_
    refine rr_if_ne (tgt := 77) oX4_addRightWhenDrawn_50 (by decide) (fun c1 => ?_) (fun c1 => ?_)
    · have ek : k_ad S su t = 0 := if_neg (fun q => c1 ((ok_iff (by omega)).mp q))
      refine rn_3 oX4_addRightWhenDrawn_77 rfl rfl ?_
      refine rr_goto (tgt := 36) oX4_addRightWhenDrawn_80 (by decide) ?_
      refine ih J (t + 1) dr (by omega) hB he (fun s hs => ?_)
      rw [hA s hs]
      congr 2
      by_cases q : s = t
      · subst q; rw [if_neg (by omega), if_pos (by omega), ek]
      · by_cases q2 : s < t
        · rw [if_pos q2, if_pos (by omega)]
        · rw [if_neg q2, if_neg (by omega)]
    · have ek : k_ad S su t = cn_8 (p_ri (g_ws (z_G S) su) (tb_N t) (b_sh (z_B S))) := if_pos ((ok_iff (by omega)).mpr (by simpa using c1))
      refine ra_0 oX4_addRightWhenDrawn_53 ?_
      refine rr_gr (v := 18) oX4_addRightWhenDrawn_54 (ff_X4_25 rfl) kk_0 (wd_lt W rfl) ⟨by decide, rfl⟩ (wd_r W rfl rfl) ?_
      refine ri_3 oX4_addRightWhenDrawn_57 ?_
      refine rr_pi oX4_addRightWhenDrawn_58 (ff_X4_170 rfl) (gd_k gd_18) (gd_lt (j := 0) W gd_18 rfl) ⟨by decide, rfl, by decide⟩ pf_1_3 ⟨rfl, rfl⟩ ?_
      have hB2 := gl_dr (v := nI t) hB (st_tb t (by omega))
      have e29 : (up_I J 18 3 (nI t)) 29 = J 29 := up_I_ne (by omega)
      refine ra_0 oX4_addRightWhenDrawn_61 ?_
      refine rr_gr (v := 29) oX4_addRightWhenDrawn_62 (ff_X4_39 rfl) kk_0 (wd_lt W rfl) ⟨by decide, rfl⟩ (wd_r W rfl rfl) ?_
      refine ri_3 oX4_addRightWhenDrawn_65 ?_
      refine rr_dup2 oX4_addRightWhenDrawn_66 rfl rfl ?_
      refine rr_iv oX4_addRightWhenDrawn_67 kk_29 (wd_lt W rfl) rfl (by omega) (by decide) (show _ = nI (A t) from by rw [e29, hA t (by omega), if_neg (by omega), Nat.add_zero]) ?_
      refine ra_0 oX4_addRightWhenDrawn_68 ?_
      refine rr_gr (v := 18) oX4_addRightWhenDrawn_69 (ff_X4_25 rfl) kk_0 (wd_lt W rfl) ⟨by decide, rfl⟩ (wd_r W rfl rfl) ?_
      refine rr_cVi (c_X1_countRight l W gd_18 hB2) oX4_addRightWhenDrawn_72 (cv_X4_252 rfl) (by decide) (gd_k gd_18) (by decide) hcn_1 (gd_lt (j := 0) W gd_18 rfl) rfl rfl (Nat.le_of_ble_eq_true rfl) ?_
      refine rr_iadd oX4_addRightWhenDrawn_75 ?_
      rw [nI_add]
      refine rr_ist oX4_addRightWhenDrawn_76 kk_29 (wd_lt W rfl) rfl (by omega) (by decide) ?_
      refine rn_3 oX4_addRightWhenDrawn_77 rfl rfl ?_
      refine rr_goto (tgt := 36) oX4_addRightWhenDrawn_80 (by decide) ?_
      refine ih _ (t + 1) _ (by omega) (gl_ce hB2 (fun j hj => up_I_ne (by omega))) (fun a q1 q2 q3 => by rw [up_I_ne q3, up_I_ne (by omega)]; exact he a q1 q2 q3) (fun s hs => ?_)
      by_cases q : s = t
      · subst q; rw [up_I_at, if_pos (by omega), ek]
      · rw [up_I_at_ne q, e29, hA s hs]
        congr 2
        by_cases q2 : s < t
        · rw [if_pos q2, if_pos (by omega)]
        · rw [if_neg q2, if_neg (by omega)]
theorem c_X4_addRightWhenDrawn (l : Launch) {I : Nat → Nat → Int32} {L : Nat → Nat → Int64} {Rf : Nat → Nat → Option Nat} {n : Nat} {S : sg_T} (W : wd_T Rf n) (hC : CR_T I L S) (hI : IV_T S) {su : Int32} {A : Nat → Nat} (hA : ∀ s, s < 256 → I 29 s = nI (A s)) : wm_C l mX4_addRightWhenDrawn 7 0 0 [vv_A (some 0), vv_I su] (I, L, Rf, n) (q_m (fun J => ce_T I J ∧ ∀ s, s < 256 → J 29 s = nI (A s + k_ad S su s)) L Rf n) := by
  refine wm_of (by decide) (Nat.le_of_ble_eq_true rfl) rfl ?_
  have hG : gv_T I 2 (z_G S) := hC.1.1.1
  have h8 : g_n (z_G S) ≤ 8 := hI.1.1
  have hr : hr_T (z_G S) := hI.1.2.1
  refine ra_0 oX4_addRightWhenDrawn_0 ?_
  refine rr_gr (v := 18) oX4_addRightWhenDrawn_1 (ff_X4_25 rfl) kk_0 (wd_lt W rfl) ⟨by decide, rfl⟩ (wd_r W rfl rfl) ?_
  refine ra_0 oX4_addRightWhenDrawn_4 ?_
  refine rr_gr (v := 2) oX4_addRightWhenDrawn_5 (ff_X4_18 rfl) kk_0 (wd_lt W rfl) ⟨by decide, rfl⟩ (wd_r W rfl rfl) ?_
  refine rr_cVm (c_X1_copyFrom l W gd_18 gd_2 (by omega)) oX4_addRightWhenDrawn_8 (cv_X4_197 rfl) (by decide) (gd_k gd_18) (by decide) hcn_1 (gd_lt (j := 0) W gd_18 rfl) rfl rfl (Nat.le_of_ble_eq_true rfl) (fun K hK => ?_)
  have hT := cf_gs hK hC.1.1
  refine ra_0 oX4_addRightWhenDrawn_11 ?_
  refine rr_gr (v := 18) oX4_addRightWhenDrawn_12 (ff_X4_25 rfl) kk_0 (wd_lt W rfl) ⟨by decide, rfl⟩ (wd_r W rfl rfl) ?_
  refine ri_1 oX4_addRightWhenDrawn_15 ?_
  refine rr_pi oX4_addRightWhenDrawn_16 (ff_X4_176 rfl) (gd_k gd_18) (gd_lt (j := 0) W gd_18 rfl) ⟨by decide, rfl, by decide⟩ pf_1_1 ⟨rfl, rfl⟩ ?_
  have hT2 := gs_su (v := su) hT
  refine ra_0 oX4_addRightWhenDrawn_19 ?_
  refine rr_gr (v := 18) oX4_addRightWhenDrawn_20 (ff_X4_25 rfl) kk_0 (wd_lt W rfl) ⟨by decide, rfl⟩ (wd_r W rfl rfl) ?_
  refine rr_cVm (c_X1_lookAround l W gd_18 hT2.1 (hr_xy hr)) oX4_addRightWhenDrawn_23 (cv_X4_113 rfl) (by decide) (gd_k gd_18) (by decide) hcn_1 (gd_lt (j := 0) W gd_18 rfl) rfl rfl (Nat.le_of_ble_eq_true rfl) (fun M hM => ?_)
  have hB := la_gl hM hT2
  have he : ce_T I M := ce_tr (ce_tr (ce_cf hK) (fun a _ q2 _ => up_I_ne (by omega))) (ce_la18 hM)
  have e29 : M 29 = I 29 := by rw [hM.2 29 (by omega), up_I_ne (by omega)]; exact hK.2.2.2 29 (by omega)
  refine ra_0 oX4_addRightWhenDrawn_26 ?_
  refine rr_gr (v := 18) oX4_addRightWhenDrawn_27 (ff_X4_25 rfl) kk_0 (wd_lt W rfl) ⟨by decide, rfl⟩ (wd_r W rfl rfl) ?_
  refine rr_cVi (c_X1_houses l W gd_18 hB.1.1) oX4_addRightWhenDrawn_30 (cv_X4_224 rfl) (by decide) (gd_k gd_18) (by decide) hcn_1 (gd_lt (j := 0) W gd_18 rfl) rfl rfl (Nat.le_of_ble_eq_true rfl) ?_
  refine si_2 oX4_addRightWhenDrawn_33 rfl rfl ?_
  refine rk_0 oX4_addRightWhenDrawn_34 ?_
  refine si_3 oX4_addRightWhenDrawn_35 rfl rfl ?_
  exact lp_X4_addRightWhenDrawn l W hC 256 M 0 _ rfl hB he (fun s hs => by rw [e29, hA s hs, if_neg (by omega), Nat.add_zero])
theorem lp_X4_bestDrawnSet (l : Launch) {I : Nat → Nat → Int32} {L : Nat → Nat → Int64} {Rf : Nat → Nat → Option Nat} {n : Nat} {S : sg_T} (W : wd_T Rf n) {T : Nat → Nat} (hT : ∀ s, s < 256 → I 29 s = nI (T s) ∧ T s ≤ 16) : ∀ m t b w4 w5, t + m = 256 → b < 256 → wm_W l mX4_bestDrawnSet 3 0 0 12 [vv_A (some 0), vv_I (st_S (p_h (z_G S))), vv_I (nI b), vv_I (nI t), w4, w5] [] (I, L, Rf, n) (q_i (nI (bw_N (s_ok (z_G S)) T (fun s => cn_8 (tb_N s)) m t b)) (I, L, Rf, n)) := by
  intro m
  induction m with
  | zero =>
    intro t b w4 w5 ht hb
    refine ri_3 oX4_bestDrawnSet_12 ?_
    refine ra_0 oX4_bestDrawnSet_13 ?_
    refine rr_gr (v := 29) oX4_bestDrawnSet_14 (ff_X4_39 rfl) kk_0 (wd_lt W rfl) ⟨by decide, rfl⟩ (wd_r W rfl rfl) ?_
    refine rr_alen (v := 256) oX4_bestDrawnSet_17 ⟨Or.inl kk_29.1, kk_29.2⟩ (wd_lt W rfl) (by decide) ?_
    refine rr_icmp_ge (tgt := 85) oX4_bestDrawnSet_18 (by decide) (fun c => ?_) (fun c => ?_)
    rotate_left
    · exact absurd c (by rw [show (256 : Int32) = nI 256 from rfl, nI_le_iff (by omega) (by omega)]; omega)
    refine ri_2 oX4_bestDrawnSet_85 ?_
    exact rr_ireturn oX4_bestDrawnSet_86 rfl rfl ⟨rfl, rfl⟩
  | succ m ih =>
    intro t b w4 w5 ht hb
    refine ri_3 oX4_bestDrawnSet_12 ?_
    refine ra_0 oX4_bestDrawnSet_13 ?_
    refine rr_gr (v := 29) oX4_bestDrawnSet_14 (ff_X4_39 rfl) kk_0 (wd_lt W rfl) ⟨by decide, rfl⟩ (wd_r W rfl rfl) ?_
    refine rr_alen (v := 256) oX4_bestDrawnSet_17 ⟨Or.inl kk_29.1, kk_29.2⟩ (wd_lt W rfl) (by decide) ?_
    refine rr_icmp_ge (tgt := 85) oX4_bestDrawnSet_18 (by decide) (fun c => ?_) (fun c => ?_)
    · (rw [show (256 : Int32) = nI 256 from rfl, nI_le_iff (by omega) (by omega)] at c; omega)
    refine ra_0 oX4_bestDrawnSet_21 ?_
    refine rr_gr (v := 29) oX4_bestDrawnSet_22 (ff_X4_39 rfl) kk_0 (wd_lt W rfl) ⟨by decide, rfl⟩ (wd_r W rfl rfl) ?_
    refine ri_3 oX4_bestDrawnSet_25 ?_
    refine rr_iv oX4_bestDrawnSet_26 kk_29 (wd_lt W rfl) rfl (by omega) (by decide) (hT t (by omega)).1 ?_
    refine ra_0 oX4_bestDrawnSet_27 ?_
    refine rr_gr (v := 29) oX4_bestDrawnSet_28 (ff_X4_39 rfl) kk_0 (wd_lt W rfl) ⟨by decide, rfl⟩ (wd_r W rfl rfl) ?_
    refine ri_2 oX4_bestDrawnSet_31 ?_
    have hT1 := (hT t (by omega)).2
    have hT2 := (hT b (by omega)).2
    refine rr_iv oX4_bestDrawnSet_32 kk_29 (wd_lt W rfl) rfl (by omega) (by decide) (hT b (by omega)).1 ?_
    refine rr_isub oX4_bestDrawnSet_33 ?_
    refine si_4 oX4_bestDrawnSet_34 rfl rfl ?_
    refine ri_3 oX4_bestDrawnSet_36 ?_
    have eb1 : bc_I (nI t) = nI (cn_8 (tb_N t)) := by rw [st_tb t (by omega), bc_st]
    have eb2 : bc_I (nI b) = nI (cn_8 (tb_N b)) := by rw [st_tb b (by omega), bc_st]
    have hl1 : cn_8 (tb_N t) ≤ 8 := cn_le _ 8
    have hl2 : cn_8 (tb_N b) ≤ 8 := cn_le _ 8
    refine rr_cSi (c_J6_bitCount_0f7a4 l) oX4_bestDrawnSet_37 (cs_X4_122 rfl) (by decide) rfl rfl (Nat.le_of_ble_eq_true rfl) ?_
    rw [eb1]
    refine ri_2 oX4_bestDrawnSet_40 ?_
    refine rr_cSi (c_J6_bitCount_0f7a4 l) oX4_bestDrawnSet_41 (cs_X4_122 rfl) (by decide) rfl rfl (Nat.le_of_ble_eq_true rfl) ?_
    rw [eb2]
    refine rr_icmp_ge (tgt := 51) oX4_bestDrawnSet_44 (by decide) (fun c2 => ?_) (fun c2 => ?_)
    · rw [nI_le_iff (by omega) (by omega)] at c2
      refine rk_0 oX4_bestDrawnSet_51 ?_
      refine si_5 oX4_bestDrawnSet_52 rfl rfl ?_
      refine ri_3 oX4_bestDrawnSet_54 ?_
      refine ri_1 oX4_bestDrawnSet_55 ?_
      refine rk_m1 oX4_bestDrawnSet_56 ?_
      refine rr_ixor oX4_bestDrawnSet_57 ?_
      refine rr_iand oX4_bestDrawnSet_58 ?_
      refine rr_if_ne (tgt := 79) oX4_bestDrawnSet_59 (by decide) (fun c1 => ?_) (fun c1 => ?_)
      · rw [← ok_iff (by omega)] at c1
        refine rn_3 oX4_bestDrawnSet_79 rfl rfl ?_
        refine rr_goto (tgt := 12) oX4_bestDrawnSet_82 (by decide) ?_
        simp only [bw_N]
        rw [if_neg (fun q => c1 q.1)]
        exact ih (t + 1) b _ _ (by omega) (by omega)
      · rw [← ok_iff (by omega)] at c1
        refine ri_4 oX4_bestDrawnSet_62 ?_
        refine rr_if_gt (tgt := 77) oX4_bestDrawnSet_64 (by decide) (fun c3 => ?_) (fun c3 => ?_)
        · rw [(mo_N _ (by omega) _ (by omega)).1] at c3
          refine ri_3 oX4_bestDrawnSet_77 ?_
          refine si_2 oX4_bestDrawnSet_78 rfl rfl ?_
          refine rn_3 oX4_bestDrawnSet_79 rfl rfl ?_
          refine rr_goto (tgt := 12) oX4_bestDrawnSet_82 (by decide) ?_
          simp only [bw_N]
          rw [if_pos ⟨c1, Or.inl c3⟩]
          exact ih (t + 1) t _ _ (by omega) (by omega)
        · have c3 : ¬ T b < T t := fun q => absurd ((mo_N _ (by omega) _ (by omega)).1.mpr q) (by first | exact c3 | exact Int32.not_lt.mpr c3)
          refine ri_4 oX4_bestDrawnSet_67 ?_
          refine rr_if_ne (tgt := 79) oX4_bestDrawnSet_69 (by decide) (fun c4 => ?_) (fun c4 => ?_)
          · have c4 : ¬ T t = T b := fun q => c4 ((mo_N _ (by omega) _ (by omega)).2.mpr q)
            refine rn_3 oX4_bestDrawnSet_79 rfl rfl ?_
            refine rr_goto (tgt := 12) oX4_bestDrawnSet_82 (by decide) ?_
            simp only [bw_N]
            rw [if_neg (by rintro ⟨_, q | q⟩; exact c3 q; exact c4 q.1)]
            exact ih (t + 1) b _ _ (by omega) (by omega)
          · have c4 : T t = T b := (mo_N _ (by omega) _ (by omega)).2.mp (by simpa using c4)
            refine ri_5 oX4_bestDrawnSet_72 ?_
            refine rr_if_eq (tgt := 79) oX4_bestDrawnSet_74 (by decide) (fun _ => ?_) (fun q => absurd q (by decide))
            refine rn_3 oX4_bestDrawnSet_79 rfl rfl ?_
            refine rr_goto (tgt := 12) oX4_bestDrawnSet_82 (by decide) ?_
            simp only [bw_N]
            rw [if_neg (by rintro ⟨_, q | q⟩; exact c3 q; omega)]
            exact ih (t + 1) b _ _ (by omega) (by omega)
    · rw [nI_le_iff (by omega) (by omega)] at c2
      refine rk_1 oX4_bestDrawnSet_47 ?_
      refine rr_goto (tgt := 52) oX4_bestDrawnSet_48 (by decide) ?_
      refine si_5 oX4_bestDrawnSet_52 rfl rfl ?_
      refine ri_3 oX4_bestDrawnSet_54 ?_
      refine ri_1 oX4_bestDrawnSet_55 ?_
      refine rk_m1 oX4_bestDrawnSet_56 ?_
      refine rr_ixor oX4_bestDrawnSet_57 ?_
      refine rr_iand oX4_bestDrawnSet_58 ?_
      refine rr_if_ne (tgt := 79) oX4_bestDrawnSet_59 (by decide) (fun c1 => ?_) (fun c1 => ?_)
      · rw [← ok_iff (by omega)] at c1
        refine rn_3 oX4_bestDrawnSet_79 rfl rfl ?_
        refine rr_goto (tgt := 12) oX4_bestDrawnSet_82 (by decide) ?_
        simp only [bw_N]
        rw [if_neg (fun q => c1 q.1)]
        exact ih (t + 1) b _ _ (by omega) (by omega)
      · rw [← ok_iff (by omega)] at c1
        refine ri_4 oX4_bestDrawnSet_62 ?_
        refine rr_if_gt (tgt := 77) oX4_bestDrawnSet_64 (by decide) (fun c3 => ?_) (fun c3 => ?_)
        · rw [(mo_N _ (by omega) _ (by omega)).1] at c3
          refine ri_3 oX4_bestDrawnSet_77 ?_
          refine si_2 oX4_bestDrawnSet_78 rfl rfl ?_
          refine rn_3 oX4_bestDrawnSet_79 rfl rfl ?_
          refine rr_goto (tgt := 12) oX4_bestDrawnSet_82 (by decide) ?_
          simp only [bw_N]
          rw [if_pos ⟨c1, Or.inl c3⟩]
          exact ih (t + 1) t _ _ (by omega) (by omega)
        · have c3 : ¬ T b < T t := fun q => absurd ((mo_N _ (by omega) _ (by omega)).1.mpr q) (by first | exact c3 | exact Int32.not_lt.mpr c3)
          refine ri_4 oX4_bestDrawnSet_67 ?_
          refine rr_if_ne (tgt := 79) oX4_bestDrawnSet_69 (by decide) (fun c4 => ?_) (fun c4 => ?_)
          · have c4 : ¬ T t = T b := fun q => c4 ((mo_N _ (by omega) _ (by omega)).2.mpr q)
            refine rn_3 oX4_bestDrawnSet_79 rfl rfl ?_
            refine rr_goto (tgt := 12) oX4_bestDrawnSet_82 (by decide) ?_
            simp only [bw_N]
            rw [if_neg (by rintro ⟨_, q | q⟩; exact c3 q; exact c4 q.1)]
            exact ih (t + 1) b _ _ (by omega) (by omega)
          · have c4 : T t = T b := (mo_N _ (by omega) _ (by omega)).2.mp (by simpa using c4)
            refine ri_5 oX4_bestDrawnSet_72 ?_
            refine rr_if_eq (tgt := 79) oX4_bestDrawnSet_74 (by decide) (fun q => absurd q (by decide)) (fun _ => ?_)
            refine ri_3 oX4_bestDrawnSet_77 ?_
            refine si_2 oX4_bestDrawnSet_78 rfl rfl ?_
            refine rn_3 oX4_bestDrawnSet_79 rfl rfl ?_
            refine rr_goto (tgt := 12) oX4_bestDrawnSet_82 (by decide) ?_
            simp only [bw_N]
            rw [if_pos ⟨c1, Or.inr ⟨c4, by omega⟩⟩]
            exact ih (t + 1) t _ _ (by omega) (by omega)
theorem c_X4_bestDrawnSet (l : Launch) {I : Nat → Nat → Int32} {L : Nat → Nat → Int64} {Rf : Nat → Nat → Option Nat} {n : Nat} {S : sg_T} (W : wd_T Rf n) (hC : CR_T I L S) (hI : IV_T S) {T : Nat → Nat} (hT : ∀ s, s < 256 → I 29 s = nI (T s) ∧ T s ≤ 16) : wm_C l mX4_bestDrawnSet 3 0 0 [vv_A (some 0)] (I, L, Rf, n) (q_i (nI (bw_N (s_ok (z_G S)) T (fun s => cn_8 (tb_N s)) 255 1 0)) (I, L, Rf, n)) := by
  refine wm_of (by decide) (Nat.le_of_ble_eq_true rfl) rfl ?_
  have hG : gv_T I 2 (z_G S) := hC.1.1.1
  have h8 : g_n (z_G S) ≤ 8 := hI.1.1
  have hr : hr_T (z_G S) := hI.1.2.1
  refine ra_0 oX4_bestDrawnSet_0 ?_
  refine rr_gr (v := 2) oX4_bestDrawnSet_1 (ff_X4_18 rfl) kk_0 (wd_lt W rfl) ⟨by decide, rfl⟩ (wd_r W rfl rfl) ?_
  refine rr_cVi (c_X1_houses l W gd_2 hG) oX4_bestDrawnSet_4 (cv_X4_224 rfl) (by decide) (gd_k gd_2) (by decide) hcn_1 (gd_lt (j := 0) W gd_2 rfl) rfl rfl (Nat.le_of_ble_eq_true rfl) ?_
  refine si_1 oX4_bestDrawnSet_7 rfl rfl ?_
  refine rk_0 oX4_bestDrawnSet_8 ?_
  refine si_2 oX4_bestDrawnSet_9 rfl rfl ?_
  refine rk_1 oX4_bestDrawnSet_10 ?_
  refine si_3 oX4_bestDrawnSet_11 rfl rfl ?_
  exact lp_X4_bestDrawnSet l W (T := T) hT 255 1 0 _ _ rfl (by omega)
theorem ls_X4_curtains (l : Launch) {I J : Nat → Nat → Int32} {L : Nat → Nat → Int64} {Rf : Nat → Nat → Option Nat} {n : Nat} {S : sg_T} (W : wd_T Rf n) (hC : CR_T I L S) (hI : IV_T S) {w w2 : Int32} (he : ce_T I J) (h0 : ∀ s, s < 256 → J 29 s = nI 0) (hw : ¬ (w < 0 ∨ 3 < w)) : wm_W l mX4_curtains 8 0 0 40 [vv_A (some 0), vv_I w, vv_I w2] [] (J, L, Rf, n) (q_C (f_curtains S w).1 (f_curtains S w).2 I L Rf n) := by
  refine ri_1 oX4_curtains_40 ?_
  refine rk_2 oX4_curtains_41 ?_
  refine rr_icmp_ge (tgt := 59) oX4_curtains_42 (by decide) (fun c1 => ?_) (fun c1 => ?_)
  · refine ra_0 oX4_curtains_59 ?_
    refine rk_0 oX4_curtains_60 ?_
    refine rr_cVm (c_X4_addRightWhenDrawn l W (CR_ce hC he) hI (A := fun _ => 0) h0) oX4_curtains_61 (cv_X4_245 rfl) (by decide) kk_0 (by decide) hcn_4 (wd_lt W rfl) rfl rfl (Nat.le_of_ble_eq_true rfl) (fun K1 hK1 => ?_)
    have he1 : ce_T I K1 := ce_tr he hK1.1
    refine ra_0 oX4_curtains_64 ?_
    refine rk_1 oX4_curtains_65 ?_
    refine rr_cVm (c_X4_addRightWhenDrawn l W (CR_ce hC he1) hI (A := fun s => 0 + k_ad S 0 s) hK1.2) oX4_curtains_66 (cv_X4_245 rfl) (by decide) kk_0 (by decide) hcn_4 (wd_lt W rfl) rfl rfl (Nat.le_of_ble_eq_true rfl) (fun K hK => ?_)
    have he2 : ce_T I K := ce_tr he1 hK.1
    have hC2 := CR_ce hC he2
    have hT : ∀ s, s < 256 → K 29 s = nI (k_tot S w s) ∧ k_tot S w s ≤ 16 := fun s hs => ⟨by rw [hK.2 s hs, Nat.zero_add, k_tot, if_neg (Int32.not_lt.mpr c1)], k_tot_16 S w s⟩
    refine ra_0 oX4_curtains_69 ?_
    refine rr_cVi (c_X4_bestDrawnSet l W hC2 hI (T := k_tot S w) hT) oX4_curtains_70 (cv_X4_249 rfl) (by decide) kk_0 (by decide) hcn_4 (wd_lt W rfl) rfl rfl (Nat.le_of_ble_eq_true rfl) ?_
    have hbl : k_best S w < 256 := bw_lt _ _ _ _ _ _ (by omega) (by omega)
    refine si_2 oX4_curtains_73 rfl rfl ?_
    refine ri_1 oX4_curtains_74 ?_
    refine rr_if_eq (tgt := 83) oX4_curtains_75 (by decide) (fun c2 => ?_) (fun c2 => ?_)
    · refine ri_2 oX4_curtains_83 ?_
      refine rr_goto (tgt := 93) oX4_curtains_84 (by decide) ?_
      exact rr_ireturn oX4_curtains_93 rfl rfl (q_C_an hC he2 (by rw [f_curtains, if_neg hw, if_pos (Or.inl c2)]; rfl) rfl)
    · refine ri_1 oX4_curtains_78 ?_
      refine rk_2 oX4_curtains_79 ?_
      refine rr_icmp_ne (tgt := 87) oX4_curtains_80 (by decide) (fun c3 => ?_) (fun c3 => ?_)
      · refine ra_0 oX4_curtains_87 ?_
        refine rr_gr (v := 29) oX4_curtains_88 (ff_X4_39 rfl) kk_0 (wd_lt W rfl) ⟨by decide, rfl⟩ (wd_r W rfl rfl) ?_
        refine ri_2 oX4_curtains_91 ?_
        refine rr_iv (t := k_best S w) oX4_curtains_92 kk_29 (wd_lt W rfl) rfl (by omega) (by decide) (hT (k_best S w) hbl).1 ?_
        exact rr_ireturn oX4_curtains_93 rfl rfl (q_C_an hC he2 (by rw [f_curtains, if_neg hw, if_neg (by rintro (q | q); exact c2 q; exact c3 q)]) rfl)
      · refine ri_2 oX4_curtains_83 ?_
        refine rr_goto (tgt := 93) oX4_curtains_84 (by decide) ?_
        exact rr_ireturn oX4_curtains_93 rfl rfl (q_C_an hC he2 (by rw [f_curtains, if_neg hw, if_pos (Or.inr (by simpa using c3))]; rfl) rfl)
  · refine ra_0 oX4_curtains_45 ?_
    refine ra_0 oX4_curtains_46 ?_
    refine rr_gr (v := 2) oX4_curtains_47 (ff_X4_18 rfl) kk_0 (wd_lt W rfl) ⟨by decide, rfl⟩ (wd_r W rfl rfl) ?_
    refine rr_giv oX4_curtains_50 (ff_X4_176 rfl) (gd_k gd_2) (gd_lt (j := 0) W gd_2 rfl) ⟨by decide, rfl⟩ (show _ = g_s (z_G S) from by rw [he 2 (by omega) (by omega) (by omega)]; exact hC.1.1.1.2.2.1) ?_
    refine rr_cVm (c_X4_addRightWhenDrawn l W (CR_ce hC he) hI (A := fun _ => 0) h0) oX4_curtains_53 (cv_X4_245 rfl) (by decide) kk_0 (by decide) hcn_4 (wd_lt W rfl) rfl rfl (Nat.le_of_ble_eq_true rfl) (fun K hK => ?_)
    have he2 : ce_T I K := ce_tr he hK.1
    have hC2 := CR_ce hC he2
    have hT : ∀ s, s < 256 → K 29 s = nI (k_tot S w s) ∧ k_tot S w s ≤ 16 := fun s hs => ⟨by rw [hK.2 s hs, Nat.zero_add, k_tot, if_pos (Int32.not_le.mp c1)], k_tot_16 S w s⟩
    refine rr_goto (tgt := 69) oX4_curtains_56 (by decide) ?_
    refine ra_0 oX4_curtains_69 ?_
    refine rr_cVi (c_X4_bestDrawnSet l W hC2 hI (T := k_tot S w) hT) oX4_curtains_70 (cv_X4_249 rfl) (by decide) kk_0 (by decide) hcn_4 (wd_lt W rfl) rfl rfl (Nat.le_of_ble_eq_true rfl) ?_
    have hbl : k_best S w < 256 := bw_lt _ _ _ _ _ _ (by omega) (by omega)
    refine si_2 oX4_curtains_73 rfl rfl ?_
    refine ri_1 oX4_curtains_74 ?_
    refine rr_if_eq (tgt := 83) oX4_curtains_75 (by decide) (fun c2 => ?_) (fun c2 => ?_)
    · refine ri_2 oX4_curtains_83 ?_
      refine rr_goto (tgt := 93) oX4_curtains_84 (by decide) ?_
      exact rr_ireturn oX4_curtains_93 rfl rfl (q_C_an hC he2 (by rw [f_curtains, if_neg hw, if_pos (Or.inl c2)]; rfl) rfl)
    · refine ri_1 oX4_curtains_78 ?_
      refine rk_2 oX4_curtains_79 ?_
      refine rr_icmp_ne (tgt := 87) oX4_curtains_80 (by decide) (fun c3 => ?_) (fun c3 => ?_)
      · refine ra_0 oX4_curtains_87 ?_
        refine rr_gr (v := 29) oX4_curtains_88 (ff_X4_39 rfl) kk_0 (wd_lt W rfl) ⟨by decide, rfl⟩ (wd_r W rfl rfl) ?_
        refine ri_2 oX4_curtains_91 ?_
        refine rr_iv (t := k_best S w) oX4_curtains_92 kk_29 (wd_lt W rfl) rfl (by omega) (by decide) (hT (k_best S w) hbl).1 ?_
        exact rr_ireturn oX4_curtains_93 rfl rfl (q_C_an hC he2 (by rw [f_curtains, if_neg hw, if_neg (by rintro (q | q); exact c2 q; exact c3 q)]) rfl)
      · refine ri_2 oX4_curtains_83 ?_
        refine rr_goto (tgt := 93) oX4_curtains_84 (by decide) ?_
        exact rr_ireturn oX4_curtains_93 rfl rfl (q_C_an hC he2 (by rw [f_curtains, if_neg hw, if_pos (Or.inr (by simpa using c3))]; rfl) rfl)
theorem lp_X4_curtains (l : Launch) {I0 : Nat → Nat → Int32} {L : Nat → Nat → Int64} {Rf : Nat → Nat → Option Nat} {n : Nat} (W : wd_T Rf n) {w : Int32} {Q : Option vv_T → mx_T → Prop} (kk : ∀ J : Nat → Nat → Int32, (∀ j, j < 256 → J 29 j = nI 0) → (∀ a, a ≠ 29 → J a = I0 a) → wm_W l mX4_curtains 8 0 0 40 [vv_A (some 0), vv_I w, vv_I (nI 256)] [] (J, L, Rf, n) Q) : ∀ m (I : Nat → Nat → Int32) t, t + m = 256 → (∀ j, j < t → I 29 j = nI 0) → (∀ a, a ≠ 29 → I a = I0 a) → wm_W l mX4_curtains 8 0 0 18 [vv_A (some 0), vv_I w, vv_I (nI t)] [] (I, L, Rf, n) Q := by
  intro m
  induction m with
  | zero =>
    intro I t ht h1 h2
    refine ri_2 oX4_curtains_18 ?_
    refine ra_0 oX4_curtains_19 ?_
    refine rr_gr (v := 29) oX4_curtains_20 (ff_X4_39 rfl) kk_0 (wd_lt W rfl) ⟨by decide, rfl⟩ (wd_r W rfl rfl) ?_
    refine rr_alen (v := 256) oX4_curtains_23 ⟨Or.inl kk_29.1, kk_29.2⟩ (wd_lt W rfl) (by decide) ?_
    refine rr_icmp_ge (tgt := 40) oX4_curtains_24 (by decide) (fun c => ?_) (fun c => ?_)
    rotate_left
    · exact absurd c (by rw [show (256 : Int32) = nI 256 from rfl, nI_le_iff (by omega) (by omega)]; omega)
    rw [show t = 256 by omega]
    exact kk I (fun j hj => h1 j (by omega)) h2
  | succ m ih =>
    intro I t ht h1 h2
    refine ri_2 oX4_curtains_18 ?_
    refine ra_0 oX4_curtains_19 ?_
    refine rr_gr (v := 29) oX4_curtains_20 (ff_X4_39 rfl) kk_0 (wd_lt W rfl) ⟨by decide, rfl⟩ (wd_r W rfl rfl) ?_
    refine rr_alen (v := 256) oX4_curtains_23 ⟨Or.inl kk_29.1, kk_29.2⟩ (wd_lt W rfl) (by decide) ?_
    refine rr_icmp_ge (tgt := 40) oX4_curtains_24 (by decide) (fun c => ?_) (fun c => ?_)
    · (rw [show (256 : Int32) = nI 256 from rfl, nI_le_iff (by omega) (by omega)] at c; omega)
    refine ra_0 oX4_curtains_27 ?_
    refine rr_gr (v := 29) oX4_curtains_28 (ff_X4_39 rfl) kk_0 (wd_lt W rfl) ⟨by decide, rfl⟩ (wd_r W rfl rfl) ?_
    refine ri_2 oX4_curtains_31 ?_
    refine rk_0 oX4_curtains_32 ?_
    refine rr_ist oX4_curtains_33 kk_29 (wd_lt W rfl) rfl (by omega) (by decide) ?_
    refine rn_2 oX4_curtains_34 rfl rfl ?_
    refine rr_goto (tgt := 18) oX4_curtains_37 (by decide) ?_
    refine ih _ (t + 1) (by omega) (fun j hj => ?_) (fun a ha => ?_)
    · rw [up_I_eq]
      by_cases q : j = t
      · exact if_pos q
      · exact (if_neg q).trans (h1 j (by omega))
    · rw [up_I_ne ha]; exact h2 a ha
theorem c_X4_curtains (l : Launch) {I : Nat → Nat → Int32} {L : Nat → Nat → Int64} {Rf : Nat → Nat → Option Nat} {n : Nat} {S : sg_T} (W : wd_T Rf n) (hC : CR_T I L S) (hI : IV_T S) {w : Int32} : wm_C l mX4_curtains 8 0 0 [vv_A (some 0), vv_I w] (I, L, Rf, n) (q_C (f_curtains S w).1 (f_curtains S w).2 I L Rf n) := by
  refine wm_of (by decide) (Nat.le_of_ble_eq_true rfl) rfl ?_
  have hG : gv_T I 2 (z_G S) := hC.1.1.1
  have h8 : g_n (z_G S) ≤ 8 := hI.1.1
  have hr : hr_T (z_G S) := hI.1.2.1
  refine ri_1 oX4_curtains_0 ?_
  refine rr_if_lt (tgt := 9) oX4_curtains_1 (by decide) (fun c => ?_) (fun c => ?_)
  · refine ra_0 oX4_curtains_9 ?_
    refine rr_bipush (v := (-5)) oX4_curtains_10 (by decide) ?_
    refine rr_cVi (c_X4_refuse l W (c := 5) (by decide) (by decide)) oX4_curtains_12 (cv_X4_55 rfl) (by decide) kk_0 (by decide) hcn_4 (wd_lt W rfl) rfl rfl (Nat.le_of_ble_eq_true rfl) ?_
    exact rr_ireturn oX4_curtains_15 rfl rfl (q_C_noc hC ce_rf (by rw [f_curtains, if_pos (Or.inl c)]) (by decide) (by decide))
  · refine ri_1 oX4_curtains_4 ?_
    refine rk_3 oX4_curtains_5 ?_
    refine rr_icmp_le (tgt := 16) oX4_curtains_6 (by decide) (fun c1 => ?_) (fun c1 => ?_)
    · refine rk_0 oX4_curtains_16 ?_
      refine si_2 oX4_curtains_17 rfl rfl ?_
      exact lp_X4_curtains l W (I0 := I) (fun J h0 h1 => ls_X4_curtains l W hC hI (fun a _ _ q3 => h1 a q3) h0 (by rintro (q | q); exact c q; exact Int32.not_lt.mpr c1 q)) 256 I 0 rfl (fun j hj => absurd hj (by omega)) (fun _ _ => rfl)
    · refine ra_0 oX4_curtains_9 ?_
      refine rr_bipush (v := (-5)) oX4_curtains_10 (by decide) ?_
      refine rr_cVi (c_X4_refuse l W (c := 5) (by decide) (by decide)) oX4_curtains_12 (cv_X4_55 rfl) (by decide) kk_0 (by decide) hcn_4 (wd_lt W rfl) rfl rfl (Nat.le_of_ble_eq_true rfl) ?_
      exact rr_ireturn oX4_curtains_15 rfl rfl (q_C_noc hC ce_rf (by rw [f_curtains, if_pos (Or.inr (Int32.not_le.mp c1))]) (by decide) (by decide))
