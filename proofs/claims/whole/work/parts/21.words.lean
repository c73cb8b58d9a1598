/-! SeenByOne: words, status, bodies, opens, pairs, back, most (by program: wip/whole/c21.py) -/
def ok_K (is k : Int32) : Prop := if k = 0 then True else if k = 1 then is_H is else if k = 2 then is_Tr is else is = k
def s_word (S : sg_T) (t : Nat) (k : Int32) : Int32 := if k = 0 then s_tall (z_G S) t else if k = 1 then nI (cn_8 (q_sr S t)) else if k = 2 then s_max 0 (s_tall (z_G S) t - g_h (z_G S) t) else if k = 3 then s_eye (z_G S) t else if k = 4 then bI (q_ri S t = true) else if k = 6 then g_a (z_G S) t else 0
theorem ok_dec (is k : Int32) : (ok_K is k) ↔ (k = 0 ∨ (k = 1 ∧ is_H is) ∨ (k = 2 ∧ is_Tr is) ∨ (¬ k = 0 ∧ ¬ k = 1 ∧ ¬ k = 2 ∧ is = k)) := by
  unfold ok_K
  by_cases h0 : k = 0
  · simp [h0]
  · by_cases h1 : k = 1
    · simp [h1]
    · by_cases h2 : k = 2
      · simp [h2]
      · simp [h0, h1, h2]
abbrev ok_P (is k : Int32) : Prop := k = 0 ∨ (k = 1 ∧ is_H is) ∨ (k = 2 ∧ is_Tr is) ∨ (¬ k = 0 ∧ ¬ k = 1 ∧ ¬ k = 2 ∧ is = k)
def f_says (S : sg_T) (s k : Int32) : an_T := if ¬ (0 ≤ s ∧ s < 8) ∨ ¬ (0 ≤ k ∧ k ≤ 6) then f_no S (-1) else if 100 ≤ z_hd S (ix_N s) then f_no S (-2) else if ¬ rn_T S (z_hd S (ix_N s)) then f_no S (-3) else if ¬ ok_P (g_k (z_G S) (ix_N (z_hd S (ix_N s)))) k then f_no S (-2) else (s_word S (ix_N (z_hd S (ix_N s))) k, S)
def f_status (S : sg_T) (w : Int32) : Int32 := if 10 < w ∧ w ≤ 17 then z_rf S (ix_N (w - 10)) else if w = 0 then nI (g_n (z_G S)) else if w = 1 then st_S (p_h (z_G S)) else if w = 2 then g_s (z_G S) else if w = 3 then g_f (z_G S) else if w = 4 then sm_N (fun j => nI (cn_8 (b_sh (z_B S) j))) 8 0 0 else if w = 5 then nI (cn_8 (b_dr (z_B S))) else if w = 6 then b_fi (z_B S) else if w = 7 then b_sd (z_B S) else if w = 8 then z_ra S else -1
theorem st_ix {w : Int32} (h : 10 < w ∧ w ≤ 17) : ∃ t, t < 8 ∧ w - 10 = nI t := by
  obtain ⟨h1, h2⟩ := h
  rw [Int32.lt_iff_toInt_lt, show (10 : Int32).toInt = 10 by decide] at h1
  rw [Int32.le_iff_toInt_le, show (17 : Int32).toInt = 17 by decide] at h2
  obtain ⟨u, hu⟩ : ∃ u : Nat, w.toInt = (u : Int) := ⟨w.toInt.toNat, by omega⟩
  have e : w = nI u := Int32.toInt_inj.mp (by rw [nI_toInt (by omega)]; exact hu)
  refine ⟨u - 10, by omega, ?_⟩
  have e2 : w = nI (u - 10) + 10 := by rw [e, show (10 : Int32) = nI 10 from rfl, nI_add]; congr 1; omega
  rw [e2, Int32.add_sub_cancel]
/-- a signed sum over pairs -/
def s3_N (f : Nat → Nat → Int32) : Nat → Nat → Int32 → Int32
  | 0, _, acc => acc
  | m + 1, t, acc => s3_N f m (t + 1) (sm_N (f t) t 0 acc)
def f_pairs (S : sg_T) : an_T := (s3_N (fun j i => if q_se S j i = true ∧ q_se S i j = true then 1 else 0) 8 0 0, S)
def bk_N (f : Nat → Option Nat) (h : Nat) : Nat → Nat → Nat → Int32
  | 0, _, _ => -1
  | m + 1, k, a => match f a with
    | none => -1
    | some b => if b = h then nI k else bk_N f h m (k + 1) b
def f_back (S : sg_T) (t : Int32) : an_T := if ¬ s_lh S t t = 0 then (s_lh S t t - 10, w_no S (no_c (s_lh S t t))) else (bk_N (fun a => fo_N (q_sr S a) 8 0) (ix_N t) 8 1 (ix_N t), S)
def s_seen (S : sg_T) (i : Nat) : Int32 := sm_N (fun j => if q_se S j i = true then 1 else 0) (g_n (z_G S)) 0 0
def f_most (S : sg_T) : an_T := if st_S (p_h (z_G S)) = 0 then f_no S (-5) else (oI (kp_N (p_h (z_G S)) (s_seen S) 8 0 none), S)
theorem s_seen_0 (S : sg_T) (i : Nat) (h8 : g_n (z_G S) ≤ 8) : (-1 : Int32) < s_seen S i := by
  unfold s_seen
  rw [sm_cn (fun j => q_se S j i)]
  have h := cn_le (fun j => q_se S j i) (0 + g_n (z_G S))
  have e : ∀ c, c ≤ 8 → (-1 : Int32) < 0 + nI c - nI 0 := by decide +kernel
  exact e _ (by omega)
def f_opens (S : sg_T) : an_T := (sm_N (fun j => nI (cn_8 (b_sh (z_B S) j))) 8 0 0 + nI (cn_8 (b_dr (z_B S))), w_B S (z_G S, fun _ => false, fun _ _ => false, b_fi (z_B S), b_sd (z_B S)))
theorem f_sees_1 {S : sg_T} {i j w : Int32} (h : ¬ s_lh S i j = 0) : f_sees S i j w = f_no S (s_lh S i j) := by rw [f_sees, if_pos h]
theorem c_X4_isOfKind (l : Launch) {X : mx_T} {s k : Int32}  : wm_C l mX4_isOfKind 2 0 0 [vv_I s, vv_I k] X (q_i (bI (ok_P s k)) X) := by
  refine wm_of (by decide) (Nat.le_of_ble_eq_true rfl) rfl ?_
  refine ri_1 oX4_isOfKind_0 ?_
  by_cases c1_0 : k = 0
  · refine rr_tabIn (off := 27) (tgt := 28) oX4_isOfKind_1 (by rw [c1_0]; decide) (by rw [c1_0]; decide) (by rw [c1_0]; rfl) (by decide) ?_
    refine rk_1 oX4_isOfKind_28 ?_
    exact rr_ireturn oX4_isOfKind_29 rfl rfl (q_t (Or.inl c1_0))
  by_cases c1_1 : k = 1
  · refine rr_tabIn (off := 29) (tgt := 30) oX4_isOfKind_1 (by rw [c1_1]; decide) (by rw [c1_1]; decide) (by rw [c1_1]; rfl) (by decide) ?_
    refine ri_0 oX4_isOfKind_30 ?_
    refine rr_cSi (c_X4_isHouseKind l) oX4_isOfKind_31 (cs_X4_341 rfl) (by decide) rfl rfl (Nat.le_of_ble_eq_true rfl) ?_
    exact rr_ireturn oX4_isOfKind_34 rfl nar_b (q_is (bI_c (by simp [ok_P, c1_1])))
  by_cases c1_2 : k = 2
  · refine rr_tabIn (off := 34) (tgt := 35) oX4_isOfKind_1 (by rw [c1_2]; decide) (by rw [c1_2]; decide) (by rw [c1_2]; rfl) (by decide) ?_
    refine ri_0 oX4_isOfKind_35 ?_
    refine rr_cSi (c_X4_isTreeKind l) oX4_isOfKind_36 (cs_X4_344 rfl) (by decide) rfl rfl (Nat.le_of_ble_eq_true rfl) ?_
    exact rr_ireturn oX4_isOfKind_39 rfl nar_b (q_is (bI_c (by simp [ok_P, c1_2])))
  refine rr_tabOut (tgt := 40) oX4_isOfKind_1 (tab_out_0_2 c1_0 c1_1 c1_2) (by decide) ?_
  refine ri_0 oX4_isOfKind_40 ?_
  refine ri_1 oX4_isOfKind_41 ?_
  refine rr_icmp_ne (tgt := 49) oX4_isOfKind_42 (by decide) (fun c2 => ?_) (fun c2 => ?_)
  · refine rk_0 oX4_isOfKind_49 ?_
    exact rr_ireturn oX4_isOfKind_50 rfl rfl (q_f (by grind))
  · refine rk_1 oX4_isOfKind_45 ?_
    refine rr_goto (tgt := 50) oX4_isOfKind_46 (by decide) ?_
    exact rr_ireturn oX4_isOfKind_50 rfl rfl (q_t (by grind))
def q_K (v : Int32) (I : Nat → Nat → Int32) (L : Nat → Nat → Int64) (Rf : Nat → Nat → Option Nat) (n : Nat) : Option vv_T → mx_T → Prop := q_n (fun w J => w = v ∧ ce_T I J) L Rf n
theorem q_K_of {v w : Int32} {I J : Nat → Nat → Int32} {L : Nat → Nat → Int64} {Rf : Nat → Nat → Option Nat} {n : Nat} (h : w = v) (he : ce_T I J) : q_K v I L Rf n (some (vv_I w)) (J, L, Rf, n) := q_n_of ⟨h, he⟩
theorem c_X4_wordOf (l : Launch) {I : Nat → Nat → Int32} {L : Nat → Nat → Int64} {Rf : Nat → Nat → Option Nat} {n : Nat} {S : sg_T} (W : wd_T Rf n) (hC : CR_T I L S) (hI : IV_T S) {t : Nat} (ht : t < g_n (z_G S)) {k : Int32} : wm_C l mX4_wordOf 7 0 0 [vv_A (some 0), vv_I (nI t), vv_I k] (I, L, Rf, n) (q_K (s_word S t k) I L Rf n) := by
  refine wm_of (by decide) (Nat.le_of_ble_eq_true rfl) rfl ?_
  have hG : gv_T I 2 (z_G S) := hC.1.1.1
  have h8 : g_n (z_G S) ≤ 8 := hI.1.1
  have hr : hr_T (z_G S) := hI.1.2.1
  refine ra_0 oX4_wordOf_0 ?_
  refine rr_gr (v := 2) oX4_wordOf_1 (ff_X4_18 rfl) kk_0 (wd_lt W rfl) ⟨by decide, rfl⟩ (wd_r W rfl rfl) ?_
  refine rr_cVm (c_X1_lookAround l W gd_2 hG (hr_xy hr)) oX4_wordOf_4 (cv_X4_113 rfl) (by decide) (gd_k gd_2) (by decide) hcn_1 (gd_lt (j := 0) W gd_2 rfl) rfl rfl (Nat.le_of_ble_eq_true rfl) (fun J hJ => ?_)
  have hA : gl_T J 2 (z_G S) (b_dr (z_B S)) (b_sh (z_B S)) := la_gl hJ hC.1.1
  have he : ce_T I J := ce_la hJ
  have hG := hA.1.1
  refine ri_2 oX4_wordOf_7 ?_
  by_cases c8_0 : k = 0
  · refine rr_tabIn (off := 44) (tgt := 52) oX4_wordOf_8 (by rw [c8_0]; decide) (by rw [c8_0]; decide) (by rw [c8_0]; rfl) (by decide) ?_
    refine ra_0 oX4_wordOf_52 ?_
    refine rr_gr (v := 2) oX4_wordOf_53 (ff_X4_18 rfl) kk_0 (wd_lt W rfl) ⟨by decide, rfl⟩ (wd_r W rfl rfl) ?_
    refine ri_1 oX4_wordOf_56 ?_
    refine rr_cVi (c_X1_tallOf l W gd_2 hG ht) oX4_wordOf_57 (cv_X4_116 rfl) (by decide) (gd_k gd_2) (by decide) hcn_1 (gd_lt (j := 0) W gd_2 rfl) rfl rfl (Nat.le_of_ble_eq_true rfl) ?_
    exact rr_ireturn oX4_wordOf_60 rfl rfl (q_K_of (by rw [s_word, if_pos c8_0]) he)
  by_cases c8_1 : k = 1
  · refine rr_tabIn (off := 53) (tgt := 61) oX4_wordOf_8 (by rw [c8_1]; decide) (by rw [c8_1]; decide) (by rw [c8_1]; rfl) (by decide) ?_
    refine ra_0 oX4_wordOf_61 ?_
    refine rr_gr (v := 2) oX4_wordOf_62 (ff_X4_18 rfl) kk_0 (wd_lt W rfl) ⟨by decide, rfl⟩ (wd_r W rfl rfl) ?_
    refine ri_1 oX4_wordOf_65 ?_
    refine rr_cVi (c_X1_seersOf l W gd_2 hA (j := t) (by omega)) oX4_wordOf_66 (cv_X4_119 rfl) (by decide) (gd_k gd_2) (by decide) hcn_1 (gd_lt (j := 0) W gd_2 rfl) rfl rfl (Nat.le_of_ble_eq_true rfl) ?_
    refine rr_cSi (c_J6_bitCount_0f7a4 l) oX4_wordOf_69 (cs_X4_122 rfl) (by decide) rfl rfl (Nat.le_of_ble_eq_true rfl) ?_
    rw [bc_st]
    exact rr_ireturn oX4_wordOf_72 rfl rfl (q_K_of (by rw [s_word, if_neg c8_0, if_pos c8_1]) he)
  by_cases c8_2 : k = 2
  · refine rr_tabIn (off := 65) (tgt := 73) oX4_wordOf_8 (by rw [c8_2]; decide) (by rw [c8_2]; decide) (by rw [c8_2]; rfl) (by decide) ?_
    refine rk_0 oX4_wordOf_73 ?_
    refine ra_0 oX4_wordOf_74 ?_
    refine rr_gr (v := 2) oX4_wordOf_75 (ff_X4_18 rfl) kk_0 (wd_lt W rfl) ⟨by decide, rfl⟩ (wd_r W rfl rfl) ?_
    refine ri_1 oX4_wordOf_78 ?_
    refine rr_cVi (c_X1_tallOf l W gd_2 hG ht) oX4_wordOf_79 (cv_X4_116 rfl) (by decide) (gd_k gd_2) (by decide) hcn_1 (gd_lt (j := 0) W gd_2 rfl) rfl rfl (Nat.le_of_ble_eq_true rfl) ?_
    refine ra_0 oX4_wordOf_82 ?_
    refine rr_gr (v := 2) oX4_wordOf_83 (ff_X4_18 rfl) kk_0 (wd_lt W rfl) ⟨by decide, rfl⟩ (wd_r W rfl rfl) ?_
    refine rr_gr oX4_wordOf_86 (ff_X4_127 rfl) (gd_k gd_2) (gd_lt (j := 0) W gd_2 rfl) ⟨by decide, rfl⟩ (gd_r W gd_2 9 4 rfl) ?_
    refine ri_1 oX4_wordOf_89 ?_
    refine rr_iv oX4_wordOf_90 (gd_a gd_2 4 rfl) (gd_lt (j := 4) W gd_2 rfl) rfl (by omega) (by decide) (gv_h hG (by omega)) ?_
    refine rr_isub oX4_wordOf_91 ?_
    refine rr_max oX4_wordOf_92 gm_X4_130 (by decide) (Nat.le_of_ble_eq_true rfl) ?_
    exact rr_ireturn oX4_wordOf_95 rfl rfl (q_K_of (by rw [s_word, if_neg c8_0, if_neg c8_1, if_pos c8_2]) he)
  by_cases c8_3 : k = 3
  · refine rr_tabIn (off := 88) (tgt := 96) oX4_wordOf_8 (by rw [c8_3]; decide) (by rw [c8_3]; decide) (by rw [c8_3]; rfl) (by decide) ?_
    refine ra_0 oX4_wordOf_96 ?_
    refine rr_gr (v := 2) oX4_wordOf_97 (ff_X4_18 rfl) kk_0 (wd_lt W rfl) ⟨by decide, rfl⟩ (wd_r W rfl rfl) ?_
    refine ri_1 oX4_wordOf_100 ?_
    refine rr_cVi (c_X1_eyesOf l W gd_2 hG ht) oX4_wordOf_101 (cv_X4_135 rfl) (by decide) (gd_k gd_2) (by decide) hcn_1 (gd_lt (j := 0) W gd_2 rfl) rfl rfl (Nat.le_of_ble_eq_true rfl) ?_
    exact rr_ireturn oX4_wordOf_104 rfl rfl (q_K_of (by rw [s_word, if_neg c8_0, if_neg c8_1, if_neg c8_2, if_pos c8_3]) he)
  by_cases c8_4 : k = 4
  · refine rr_tabIn (off := 97) (tgt := 105) oX4_wordOf_8 (by rw [c8_4]; decide) (by rw [c8_4]; decide) (by rw [c8_4]; rfl) (by decide) ?_
    refine ra_0 oX4_wordOf_105 ?_
    refine rr_gr (v := 2) oX4_wordOf_106 (ff_X4_18 rfl) kk_0 (wd_lt W rfl) ⟨by decide, rfl⟩ (wd_r W rfl rfl) ?_
    refine rr_cVi (c_X1_rightHouses l W gd_2 hA) oX4_wordOf_109 (cv_X4_138 rfl) (by decide) (gd_k gd_2) (by decide) hcn_1 (gd_lt (j := 0) W gd_2 rfl) rfl rfl (Nat.le_of_ble_eq_true rfl) ?_
    refine ri_1 oX4_wordOf_112 ?_
    refine rr_cSi (c_X4_isIn l) oX4_wordOf_113 (cs_X4_142 rfl) (by decide) rfl rfl (Nat.le_of_ble_eq_true rfl) ?_
    refine rr_ifb_eq (tgt := 123) oX4_wordOf_116 (by decide) (fun c1 => ?_) (fun c1 => ?_)
    · rw [st_in (by omega)] at c1
      refine rk_0 oX4_wordOf_123 ?_
      exact rr_ireturn oX4_wordOf_124 rfl rfl (q_K_of (by rw [s_word, if_neg c8_0, if_neg c8_1, if_neg c8_2, if_neg c8_3, if_pos c8_4, bI_f c1]) he)
    · rw [st_in (by omega)] at c1
      refine rk_1 oX4_wordOf_119 ?_
      refine rr_goto (tgt := 124) oX4_wordOf_120 (by decide) ?_
      exact rr_ireturn oX4_wordOf_124 rfl rfl (q_K_of (by rw [s_word, if_neg c8_0, if_neg c8_1, if_neg c8_2, if_neg c8_3, if_pos c8_4, bI_t c1]) he)
  by_cases c8_5 : k = 5
  · refine rr_tabIn (off := 127) (tgt := 135) oX4_wordOf_8 (by rw [c8_5]; decide) (by rw [c8_5]; decide) (by rw [c8_5]; rfl) (by decide) ?_
    refine rk_0 oX4_wordOf_135 ?_
    exact rr_ireturn oX4_wordOf_136 rfl rfl (q_K_of (by rw [s_word, if_neg (by rw [c8_5]; decide), if_neg (by rw [c8_5]; decide), if_neg (by rw [c8_5]; decide), if_neg (by rw [c8_5]; decide), if_neg (by rw [c8_5]; decide), if_neg (by rw [c8_5]; decide)]) he)
  by_cases c8_6 : k = 6
  · refine rr_tabIn (off := 117) (tgt := 125) oX4_wordOf_8 (by rw [c8_6]; decide) (by rw [c8_6]; decide) (by rw [c8_6]; rfl) (by decide) ?_
    refine ra_0 oX4_wordOf_125 ?_
    refine rr_gr (v := 2) oX4_wordOf_126 (ff_X4_18 rfl) kk_0 (wd_lt W rfl) ⟨by decide, rfl⟩ (wd_r W rfl rfl) ?_
    refine rr_gr oX4_wordOf_129 (ff_X4_145 rfl) (gd_k gd_2) (gd_lt (j := 0) W gd_2 rfl) ⟨by decide, rfl⟩ (gd_r W gd_2 10 5 rfl) ?_
    refine ri_1 oX4_wordOf_132 ?_
    refine rr_iv oX4_wordOf_133 (gd_a gd_2 5 rfl) (gd_lt (j := 5) W gd_2 rfl) rfl (by omega) (by decide) (gv_a hG (by omega)) ?_
    exact rr_ireturn oX4_wordOf_134 rfl rfl (q_K_of (by rw [s_word, if_neg c8_0, if_neg c8_1, if_neg c8_2, if_neg c8_3, if_neg c8_4, if_pos c8_6]) he)
  refine rr_tabOut (tgt := 135) oX4_wordOf_8 (tab_out_0_6 c8_0 c8_1 c8_2 c8_3 c8_4 c8_5 c8_6) (by decide) ?_
  refine rk_0 oX4_wordOf_135 ?_
  exact rr_ireturn oX4_wordOf_136 rfl rfl (q_K_of (by rw [s_word, if_neg c8_0, if_neg c8_1, if_neg c8_2, if_neg c8_3, if_neg c8_4, if_neg c8_6]) he)
theorem c_X4_says (l : Launch) {I : Nat → Nat → Int32} {L : Nat → Nat → Int64} {Rf : Nat → Nat → Option Nat} {n : Nat} {S : sg_T} (W : wd_T Rf n) (hC : CR_T I L S) (hI : IV_T S) {s k : Int32} : wm_C l mX4_says 8 0 0 [vv_A (some 0), vv_I s, vv_I k] (I, L, Rf, n) (q_C (f_says S s k).1 (f_says S s k).2 I L Rf n) := by
  refine wm_of (by decide) (Nat.le_of_ble_eq_true rfl) rfl ?_
  have hG : gv_T I 2 (z_G S) := hC.1.1.1
  have h8 : g_n (z_G S) ≤ 8 := hI.1.1
  have hr : hr_T (z_G S) := hI.1.2.1
  refine ri_1 oX4_says_0 ?_
  refine rr_cSi (c_X4_isShelf l) oX4_says_1 (cs_X4_51 rfl) (by decide) rfl rfl (Nat.le_of_ble_eq_true rfl) ?_
  refine rr_ifb_eq (tgt := 14) oX4_says_4 (by decide) (fun c => ?_) (fun c => ?_)
  · refine ra_0 oX4_says_14 ?_
    refine rk_m1 oX4_says_15 ?_
    refine rr_cVi (c_X4_refuse l W (c := 1) (by decide) (by decide)) oX4_says_16 (cv_X4_55 rfl) (by decide) kk_0 (by decide) hcn_4 (wd_lt W rfl) rfl rfl (Nat.le_of_ble_eq_true rfl) ?_
    exact rr_ireturn oX4_says_19 rfl rfl (q_C_noc hC ce_rf (by rw [f_says, if_pos (Or.inl c)]) (by decide) (by decide))
  · have c0 := c
    refine ri_2 oX4_says_7 ?_
    refine rr_cSi (c_X4_isKind l) oX4_says_8 (cs_X4_97 rfl) (by decide) rfl rfl (Nat.le_of_ble_eq_true rfl) ?_
    refine rr_ifb_ne (tgt := 20) oX4_says_11 (by decide) (fun c1 => ?_) (fun c1 => ?_)
    · obtain ⟨t, ht, rfl⟩ := ix_of c.1 (show s < nI 8 from c.2) (by omega)
      have exs : ix_N (nI t) = t := nI_clamp (by omega)
      refine ra_0 oX4_says_20 ?_
      refine rr_gr (v := 1) oX4_says_21 (ff_X4_11 rfl) kk_0 (wd_lt W rfl) ⟨by decide, rfl⟩ (wd_r W rfl rfl) ?_
      refine ri_1 oX4_says_24 ?_
      refine rr_ald (t := t) (v := 30 + 2 * t) oX4_says_25 kk_1 (wd_lt W rfl) rfl (by omega) (by decide) (sh_q W ht) ?_
      refine rr_cVi (c_X3_holdsRow l W (sh_of ht)) oX4_says_26 (cv_X4_100 rfl) (by decide) (sh_k (sh_of ht)) (by decide) hcn_3 (sh_lt (j := 0) W (sh_of ht) rfl) rfl rfl (Nat.le_of_ble_eq_true rfl) ?_
      refine rr_ifb_eq (tgt := 39) oX4_says_29 (by decide) (fun c2 => ?_) (fun c2 => ?_)
      · rw [CR_hd hC ht] at c2
        refine ra_0 oX4_says_39 ?_
        refine rr_gr (v := 1) oX4_says_40 (ff_X4_11 rfl) kk_0 (wd_lt W rfl) ⟨by decide, rfl⟩ (wd_r W rfl rfl) ?_
        refine ri_1 oX4_says_43 ?_
        refine rr_ald (t := t) (v := 30 + 2 * t) oX4_says_44 kk_1 (wd_lt W rfl) rfl (by omega) (by decide) (sh_q W ht) ?_
        refine rr_giv oX4_says_45 (ff_X4_94 rfl) (sh_k (sh_of ht)) (sh_lt (j := 0) W (sh_of ht) rfl) ⟨by decide, rfl⟩ (CR_hd hC ht) ?_
        refine si_3 oX4_says_48 rfl rfl ?_
        refine ra_0 oX4_says_49 ?_
        refine rr_gr (v := 2) oX4_says_50 (ff_X4_18 rfl) kk_0 (wd_lt W rfl) ⟨by decide, rfl⟩ (wd_r W rfl rfl) ?_
        refine ri_3 oX4_says_53 ?_
        refine rr_cVi (c_X1_hasG l W gd_2 hG) oX4_says_54 (cv_X4_91 rfl) (by decide) (gd_k gd_2) (by decide) hcn_1 (gd_lt (j := 0) W gd_2 rfl) rfl rfl (Nat.le_of_ble_eq_true rfl) ?_
        refine rr_ifb_ne (tgt := 67) oX4_says_57 (by decide) (fun c3 => ?_) (fun c3 => ?_)
        · obtain ⟨u, hu, eu⟩ := ix_of c3.1 c3.2 (by omega)
          rw [eu]
          have exu : ix_N (nI u) = u := nI_clamp (by omega)
          refine ra_0 oX4_says_67 ?_
          refine rr_gr (v := 2) oX4_says_68 (ff_X4_18 rfl) kk_0 (wd_lt W rfl) ⟨by decide, rfl⟩ (wd_r W rfl rfl) ?_
          refine rr_gr oX4_says_71 (ff_X4_104 rfl) (gd_k gd_2) (gd_lt (j := 0) W gd_2 rfl) ⟨by decide, rfl⟩ (gd_r W gd_2 6 1 rfl) ?_
          refine ri_3 oX4_says_74 ?_
          refine rr_iv (t := u) oX4_says_75 (gd_a gd_2 1 rfl) (gd_lt (j := 1) W gd_2 rfl) rfl (by omega) (by decide) (gv_k hG (by omega)) ?_
          refine ri_2 oX4_says_76 ?_
          refine rr_cSi (c_X4_isOfKind l) oX4_says_77 (cs_X4_107 rfl) (by decide) rfl rfl (Nat.le_of_ble_eq_true rfl) ?_
          refine rr_ifb_ne (tgt := 90) oX4_says_80 (by decide) (fun c4 => ?_) (fun c4 => ?_)
          · refine ra_0 oX4_says_90 ?_
            refine ri_3 oX4_says_91 ?_
            refine ri_2 oX4_says_92 ?_
            refine rr_cVn (c_X4_wordOf l W hC hI hu) oX4_says_93 (cv_X4_110 rfl) (by decide) kk_0 (by decide) hcn_4 (wd_lt W rfl) rfl rfl (Nat.le_of_ble_eq_true rfl) (fun v J hJ => ?_)
            obtain ⟨rfl, he⟩ := hJ
            exact rr_ireturn oX4_says_96 rfl rfl (q_C_an hC he (by rw [f_says, if_neg (by rintro (q | q); exact q c0; exact q c1), exs, if_neg c2, if_neg (fun q => q c3), eu, exu, if_neg (fun q => q c4)]) rfl)
          · refine ra_0 oX4_says_83 ?_
            refine rr_bipush (v := (-2)) oX4_says_84 (by decide) ?_
            refine rr_cVi (c_X4_refuse l W (c := 2) (by decide) (by decide)) oX4_says_86 (cv_X4_55 rfl) (by decide) kk_0 (by decide) hcn_4 (wd_lt W rfl) rfl rfl (Nat.le_of_ble_eq_true rfl) ?_
            exact rr_ireturn oX4_says_89 rfl rfl (q_C_noc hC ce_rf (by rw [f_says, if_neg (by rintro (q | q); exact q c0; exact q c1), exs, if_neg c2, if_neg (fun q => q c3), eu, exu, if_pos c4]) (by decide) (by decide))
        · refine ra_0 oX4_says_60 ?_
          refine rr_bipush (v := (-3)) oX4_says_61 (by decide) ?_
          refine rr_cVi (c_X4_refuse l W (c := 3) (by decide) (by decide)) oX4_says_63 (cv_X4_55 rfl) (by decide) kk_0 (by decide) hcn_4 (wd_lt W rfl) rfl rfl (Nat.le_of_ble_eq_true rfl) ?_
          exact rr_ireturn oX4_says_66 rfl rfl (q_C_noc hC ce_rf (by rw [f_says, if_neg (by rintro (q | q); exact q c0; exact q c1), exs, if_neg c2, if_pos c3]) (by decide) (by decide))
      · rw [CR_hd hC ht] at c2
        refine ra_0 oX4_says_32 ?_
        refine rr_bipush (v := (-2)) oX4_says_33 (by decide) ?_
        refine rr_cVi (c_X4_refuse l W (c := 2) (by decide) (by decide)) oX4_says_35 (cv_X4_55 rfl) (by decide) kk_0 (by decide) hcn_4 (wd_lt W rfl) rfl rfl (Nat.le_of_ble_eq_true rfl) ?_
        exact rr_ireturn oX4_says_38 rfl rfl (q_C_noc hC ce_rf (by rw [f_says, if_neg (by rintro (q | q); exact q c0; exact q c1), exs, if_pos c2]) (by decide) (by decide))
    · refine ra_0 oX4_says_14 ?_
      refine rk_m1 oX4_says_15 ?_
      refine rr_cVi (c_X4_refuse l W (c := 1) (by decide) (by decide)) oX4_says_16 (cv_X4_55 rfl) (by decide) kk_0 (by decide) hcn_4 (wd_lt W rfl) rfl rfl (Nat.le_of_ble_eq_true rfl) ?_
      exact rr_ireturn oX4_says_19 rfl rfl (q_C_noc hC ce_rf (by rw [f_says, if_pos (Or.inr c1)]) (by decide) (by decide))

theorem c_X4_status (l : Launch) {I : Nat → Nat → Int32} {L : Nat → Nat → Int64} {Rf : Nat → Nat → Option Nat} {n : Nat} {S : sg_T} (W : wd_T Rf n) (hC : CR_T I L S) (hI : IV_T S) {w : Int32} : wm_C l mX4_status 3 0 0 [vv_A (some 0), vv_I w] (I, L, Rf, n) (q_i (f_status S w) (I, L, Rf, n)) := by
  refine wm_of (by decide) (Nat.le_of_ble_eq_true rfl) rfl ?_
  have hG : gv_T I 2 (z_G S) := hC.1.1.1
  have h8 : g_n (z_G S) ≤ 8 := hI.1.1
  have hr : hr_T (z_G S) := hI.1.2.1
  refine ri_1 oX4_status_0 ?_
  refine rr_bipush (v := 10) oX4_status_1 (by decide) ?_
  refine rr_icmp_le (tgt := 22) oX4_status_3 (by decide) (fun c => ?_) (fun c => ?_)
  · refine ri_1 oX4_status_22 ?_
    by_cases c23_0 : w = 0
    · refine rr_tabIn (off := 49) (tgt := 72) oX4_status_23 (by rw [c23_0]; decide) (by rw [c23_0]; decide) (by rw [c23_0]; rfl) (by decide) ?_
      refine ra_0 oX4_status_72 ?_
      refine rr_gr (v := 2) oX4_status_73 (ff_X4_18 rfl) kk_0 (wd_lt W rfl) ⟨by decide, rfl⟩ (wd_r W rfl rfl) ?_
      refine rr_giv oX4_status_76 (ff_X4_280 rfl) (gd_k gd_2) (gd_lt (j := 0) W gd_2 rfl) ⟨by decide, rfl⟩ (gv_c hG) ?_
      exact rr_ireturn oX4_status_79 rfl rfl (q_is (by rw [f_status, if_neg (by grind), if_pos c23_0]))
    by_cases c23_1 : w = 1
    · refine rr_tabIn (off := 57) (tgt := 80) oX4_status_23 (by rw [c23_1]; decide) (by rw [c23_1]; decide) (by rw [c23_1]; rfl) (by decide) ?_
      refine ra_0 oX4_status_80 ?_
      refine rr_gr (v := 2) oX4_status_81 (ff_X4_18 rfl) kk_0 (wd_lt W rfl) ⟨by decide, rfl⟩ (wd_r W rfl rfl) ?_
      refine rr_cVi (c_X1_houses l W gd_2 hG) oX4_status_84 (cv_X4_224 rfl) (by decide) (gd_k gd_2) (by decide) hcn_1 (gd_lt (j := 0) W gd_2 rfl) rfl rfl (Nat.le_of_ble_eq_true rfl) ?_
      exact rr_ireturn oX4_status_87 rfl rfl (q_is (by rw [f_status, if_neg (by grind), if_neg c23_0, if_pos c23_1]))
    by_cases c23_2 : w = 2
    · refine rr_tabIn (off := 65) (tgt := 88) oX4_status_23 (by rw [c23_2]; decide) (by rw [c23_2]; decide) (by rw [c23_2]; rfl) (by decide) ?_
      refine ra_0 oX4_status_88 ?_
      refine rr_gr (v := 2) oX4_status_89 (ff_X4_18 rfl) kk_0 (wd_lt W rfl) ⟨by decide, rfl⟩ (wd_r W rfl rfl) ?_
      refine rr_giv oX4_status_92 (ff_X4_176 rfl) (gd_k gd_2) (gd_lt (j := 0) W gd_2 rfl) ⟨by decide, rfl⟩ (gv_s hG) ?_
      exact rr_ireturn oX4_status_95 rfl rfl (q_is (by rw [f_status, if_neg (by grind), if_neg c23_0, if_neg c23_1, if_pos c23_2]))
    by_cases c23_3 : w = 3
    · refine rr_tabIn (off := 73) (tgt := 96) oX4_status_23 (by rw [c23_3]; decide) (by rw [c23_3]; decide) (by rw [c23_3]; rfl) (by decide) ?_
      refine ra_0 oX4_status_96 ?_
      refine rr_gr (v := 2) oX4_status_97 (ff_X4_18 rfl) kk_0 (wd_lt W rfl) ⟨by decide, rfl⟩ (wd_r W rfl rfl) ?_
      refine rr_giv oX4_status_100 (ff_X4_182 rfl) (gd_k gd_2) (gd_lt (j := 0) W gd_2 rfl) ⟨by decide, rfl⟩ (gv_f hG) ?_
      exact rr_ireturn oX4_status_103 rfl rfl (q_is (by rw [f_status, if_neg (by grind), if_neg c23_0, if_neg c23_1, if_neg c23_2, if_pos c23_3]))
    by_cases c23_4 : w = 4
    · refine rr_tabIn (off := 81) (tgt := 104) oX4_status_23 (by rw [c23_4]; decide) (by rw [c23_4]; decide) (by rw [c23_4]; rfl) (by decide) ?_
      refine ra_0 oX4_status_104 ?_
      refine rr_gr (v := 2) oX4_status_105 (ff_X4_18 rfl) kk_0 (wd_lt W rfl) ⟨by decide, rfl⟩ (wd_r W rfl rfl) ?_
      refine rr_cVi (c_X1_countShutters l W gd_2 hC.1.1.2.2) oX4_status_108 (cv_X4_304 rfl) (by decide) (gd_k gd_2) (by decide) hcn_1 (gd_lt (j := 0) W gd_2 rfl) rfl rfl (Nat.le_of_ble_eq_true rfl) ?_
      exact rr_ireturn oX4_status_111 rfl rfl (q_is (by rw [f_status, if_neg (by grind), if_neg c23_0, if_neg c23_1, if_neg c23_2, if_neg c23_3, if_pos c23_4]))
    by_cases c23_5 : w = 5
    · refine rr_tabIn (off := 89) (tgt := 112) oX4_status_23 (by rw [c23_5]; decide) (by rw [c23_5]; decide) (by rw [c23_5]; rfl) (by decide) ?_
      refine ra_0 oX4_status_112 ?_
      refine rr_gr (v := 2) oX4_status_113 (ff_X4_18 rfl) kk_0 (wd_lt W rfl) ⟨by decide, rfl⟩ (wd_r W rfl rfl) ?_
      refine rr_giv oX4_status_116 (ff_X4_170 rfl) (gd_k gd_2) (gd_lt (j := 0) W gd_2 rfl) ⟨by decide, rfl⟩ hC.1.1.2.1 ?_
      refine rr_cSi (c_J6_bitCount_0f7a4 l) oX4_status_119 (cs_X4_122 rfl) (by decide) rfl rfl (Nat.le_of_ble_eq_true rfl) ?_
      rw [bc_st]
      exact rr_ireturn oX4_status_122 rfl rfl (q_is (by rw [f_status, if_neg (by grind), if_neg c23_0, if_neg c23_1, if_neg c23_2, if_neg c23_3, if_neg c23_4, if_pos c23_5]))
    by_cases c23_6 : w = 6
    · refine rr_tabIn (off := 100) (tgt := 123) oX4_status_23 (by rw [c23_6]; decide) (by rw [c23_6]; decide) (by rw [c23_6]; rfl) (by decide) ?_
      refine ra_0 oX4_status_123 ?_
      refine rr_gr (v := 2) oX4_status_124 (ff_X4_18 rfl) kk_0 (wd_lt W rfl) ⟨by decide, rfl⟩ (wd_r W rfl rfl) ?_
      refine rr_giv oX4_status_127 (ff_X4_307 rfl) (gd_k gd_2) (gd_lt (j := 0) W gd_2 rfl) ⟨by decide, rfl⟩ hC.1.2.1 ?_
      exact rr_ireturn oX4_status_130 rfl rfl (q_is (by rw [f_status, if_neg (by grind), if_neg c23_0, if_neg c23_1, if_neg c23_2, if_neg c23_3, if_neg c23_4, if_neg c23_5, if_pos c23_6]))
    by_cases c23_7 : w = 7
    · refine rr_tabIn (off := 108) (tgt := 131) oX4_status_23 (by rw [c23_7]; decide) (by rw [c23_7]; decide) (by rw [c23_7]; rfl) (by decide) ?_
      refine ra_0 oX4_status_131 ?_
      refine rr_gr (v := 2) oX4_status_132 (ff_X4_18 rfl) kk_0 (wd_lt W rfl) ⟨by decide, rfl⟩ (wd_r W rfl rfl) ?_
      refine rr_giv oX4_status_135 (ff_X4_313 rfl) (gd_k gd_2) (gd_lt (j := 0) W gd_2 rfl) ⟨by decide, rfl⟩ hC.1.2.2 ?_
      exact rr_ireturn oX4_status_138 rfl rfl (q_is (by rw [f_status, if_neg (by grind), if_neg c23_0, if_neg c23_1, if_neg c23_2, if_neg c23_3, if_neg c23_4, if_neg c23_5, if_neg c23_6, if_pos c23_7]))
    by_cases c23_8 : w = 8
    · refine rr_tabIn (off := 116) (tgt := 139) oX4_status_23 (by rw [c23_8]; decide) (by rw [c23_8]; decide) (by rw [c23_8]; rfl) (by decide) ?_
      refine ra_0 oX4_status_139 ?_
      refine rr_gr (v := 26) oX4_status_140 (ff_X4_31 rfl) kk_0 (wd_lt W rfl) ⟨by decide, rfl⟩ (wd_r W rfl rfl) ?_
      refine rr_giv oX4_status_143 (ff_X4_338 rfl) kk_26 (wd_lt W rfl) ⟨by decide, rfl⟩ hC.2.2.2.2.2.2.2 ?_
      exact rr_ireturn oX4_status_146 rfl rfl (q_is (by rw [f_status, if_neg (by grind), if_neg c23_0, if_neg c23_1, if_neg c23_2, if_neg c23_3, if_neg c23_4, if_neg c23_5, if_neg c23_6, if_neg c23_7, if_pos c23_8]))
    refine rr_tabOut (tgt := 147) oX4_status_23 (tab_out_0_8 c23_0 c23_1 c23_2 c23_3 c23_4 c23_5 c23_6 c23_7 c23_8) (by decide) ?_
    refine rk_m1 oX4_status_147 ?_
    exact rr_ireturn oX4_status_148 rfl rfl (q_is (by rw [f_status, if_neg (by grind), if_neg c23_0, if_neg c23_1, if_neg c23_2, if_neg c23_3, if_neg c23_4, if_neg c23_5, if_neg c23_6, if_neg c23_7, if_neg c23_8]))
  · refine ri_1 oX4_status_6 ?_
    refine rr_bipush (v := 17) oX4_status_7 (by decide) ?_
    refine rr_icmp_gt (tgt := 22) oX4_status_9 (by decide) (fun c1 => ?_) (fun c1 => ?_)
    · refine ri_1 oX4_status_22 ?_
      by_cases c23_0 : w = 0
      · refine rr_tabIn (off := 49) (tgt := 72) oX4_status_23 (by rw [c23_0]; decide) (by rw [c23_0]; decide) (by rw [c23_0]; rfl) (by decide) ?_
        refine ra_0 oX4_status_72 ?_
        refine rr_gr (v := 2) oX4_status_73 (ff_X4_18 rfl) kk_0 (wd_lt W rfl) ⟨by decide, rfl⟩ (wd_r W rfl rfl) ?_
        refine rr_giv oX4_status_76 (ff_X4_280 rfl) (gd_k gd_2) (gd_lt (j := 0) W gd_2 rfl) ⟨by decide, rfl⟩ (gv_c hG) ?_
        exact rr_ireturn oX4_status_79 rfl rfl (q_is (by rw [f_status, if_neg (by grind), if_pos c23_0]))
      by_cases c23_1 : w = 1
      · refine rr_tabIn (off := 57) (tgt := 80) oX4_status_23 (by rw [c23_1]; decide) (by rw [c23_1]; decide) (by rw [c23_1]; rfl) (by decide) ?_
        refine ra_0 oX4_status_80 ?_
        refine rr_gr (v := 2) oX4_status_81 (ff_X4_18 rfl) kk_0 (wd_lt W rfl) ⟨by decide, rfl⟩ (wd_r W rfl rfl) ?_
        refine rr_cVi (c_X1_houses l W gd_2 hG) oX4_status_84 (cv_X4_224 rfl) (by decide) (gd_k gd_2) (by decide) hcn_1 (gd_lt (j := 0) W gd_2 rfl) rfl rfl (Nat.le_of_ble_eq_true rfl) ?_
        exact rr_ireturn oX4_status_87 rfl rfl (q_is (by rw [f_status, if_neg (by grind), if_neg c23_0, if_pos c23_1]))
      by_cases c23_2 : w = 2
      · refine rr_tabIn (off := 65) (tgt := 88) oX4_status_23 (by rw [c23_2]; decide) (by rw [c23_2]; decide) (by rw [c23_2]; rfl) (by decide) ?_
        refine ra_0 oX4_status_88 ?_
        refine rr_gr (v := 2) oX4_status_89 (ff_X4_18 rfl) kk_0 (wd_lt W rfl) ⟨by decide, rfl⟩ (wd_r W rfl rfl) ?_
        refine rr_giv oX4_status_92 (ff_X4_176 rfl) (gd_k gd_2) (gd_lt (j := 0) W gd_2 rfl) ⟨by decide, rfl⟩ (gv_s hG) ?_
        exact rr_ireturn oX4_status_95 rfl rfl (q_is (by rw [f_status, if_neg (by grind), if_neg c23_0, if_neg c23_1, if_pos c23_2]))
      by_cases c23_3 : w = 3
      · refine rr_tabIn (off := 73) (tgt := 96) oX4_status_23 (by rw [c23_3]; decide) (by rw [c23_3]; decide) (by rw [c23_3]; rfl) (by decide) ?_
        refine ra_0 oX4_status_96 ?_
        refine rr_gr (v := 2) oX4_status_97 (ff_X4_18 rfl) kk_0 (wd_lt W rfl) ⟨by decide, rfl⟩ (wd_r W rfl rfl) ?_
        refine rr_giv oX4_status_100 (ff_X4_182 rfl) (gd_k gd_2) (gd_lt (j := 0) W gd_2 rfl) ⟨by decide, rfl⟩ (gv_f hG) ?_
        exact rr_ireturn oX4_status_103 rfl rfl (q_is (by rw [f_status, if_neg (by grind), if_neg c23_0, if_neg c23_1, if_neg c23_2, if_pos c23_3]))
      by_cases c23_4 : w = 4
      · refine rr_tabIn (off := 81) (tgt := 104) oX4_status_23 (by rw [c23_4]; decide) (by rw [c23_4]; decide) (by rw [c23_4]; rfl) (by decide) ?_
        refine ra_0 oX4_status_104 ?_
        refine rr_gr (v := 2) oX4_status_105 (ff_X4_18 rfl) kk_0 (wd_lt W rfl) ⟨by decide, rfl⟩ (wd_r W rfl rfl) ?_
        refine rr_cVi (c_X1_countShutters l W gd_2 hC.1.1.2.2) oX4_status_108 (cv_X4_304 rfl) (by decide) (gd_k gd_2) (by decide) hcn_1 (gd_lt (j := 0) W gd_2 rfl) rfl rfl (Nat.le_of_ble_eq_true rfl) ?_
        exact rr_ireturn oX4_status_111 rfl rfl (q_is (by rw [f_status, if_neg (by grind), if_neg c23_0, if_neg c23_1, if_neg c23_2, if_neg c23_3, if_pos c23_4]))
      by_cases c23_5 : w = 5
      · refine rr_tabIn (off := 89) (tgt := 112) oX4_status_23 (by rw [c23_5]; decide) (by rw [c23_5]; decide) (by rw [c23_5]; rfl) (by decide) ?_
        refine ra_0 oX4_status_112 ?_
        refine rr_gr (v := 2) oX4_status_113 (ff_X4_18 rfl) kk_0 (wd_lt W rfl) ⟨by decide, rfl⟩ (wd_r W rfl rfl) ?_
        refine rr_giv oX4_status_116 (ff_X4_170 rfl) (gd_k gd_2) (gd_lt (j := 0) W gd_2 rfl) ⟨by decide, rfl⟩ hC.1.1.2.1 ?_
        refine rr_cSi (c_J6_bitCount_0f7a4 l) oX4_status_119 (cs_X4_122 rfl) (by decide) rfl rfl (Nat.le_of_ble_eq_true rfl) ?_
        rw [bc_st]
        exact rr_ireturn oX4_status_122 rfl rfl (q_is (by rw [f_status, if_neg (by grind), if_neg c23_0, if_neg c23_1, if_neg c23_2, if_neg c23_3, if_neg c23_4, if_pos c23_5]))
      by_cases c23_6 : w = 6
      · refine rr_tabIn (off := 100) (tgt := 123) oX4_status_23 (by rw [c23_6]; decide) (by rw [c23_6]; decide) (by rw [c23_6]; rfl) (by decide) ?_
        refine ra_0 oX4_status_123 ?_
        refine rr_gr (v := 2) oX4_status_124 (ff_X4_18 rfl) kk_0 (wd_lt W rfl) ⟨by decide, rfl⟩ (wd_r W rfl rfl) ?_
        refine rr_giv oX4_status_127 (ff_X4_307 rfl) (gd_k gd_2) (gd_lt (j := 0) W gd_2 rfl) ⟨by decide, rfl⟩ hC.1.2.1 ?_
        exact rr_ireturn oX4_status_130 rfl rfl (q_is (by rw [f_status, if_neg (by grind), if_neg c23_0, if_neg c23_1, if_neg c23_2, if_neg c23_3, if_neg c23_4, if_neg c23_5, if_pos c23_6]))
      by_cases c23_7 : w = 7
      · refine rr_tabIn (off := 108) (tgt := 131) oX4_status_23 (by rw [c23_7]; decide) (by rw [c23_7]; decide) (by rw [c23_7]; rfl) (by decide) ?_
        refine ra_0 oX4_status_131 ?_
        refine rr_gr (v := 2) oX4_status_132 (ff_X4_18 rfl) kk_0 (wd_lt W rfl) ⟨by decide, rfl⟩ (wd_r W rfl rfl) ?_
        refine rr_giv oX4_status_135 (ff_X4_313 rfl) (gd_k gd_2) (gd_lt (j := 0) W gd_2 rfl) ⟨by decide, rfl⟩ hC.1.2.2 ?_
        exact rr_ireturn oX4_status_138 rfl rfl (q_is (by rw [f_status, if_neg (by grind), if_neg c23_0, if_neg c23_1, if_neg c23_2, if_neg c23_3, if_neg c23_4, if_neg c23_5, if_neg c23_6, if_pos c23_7]))
      by_cases c23_8 : w = 8
      · refine rr_tabIn (off := 116) (tgt := 139) oX4_status_23 (by rw [c23_8]; decide) (by rw [c23_8]; decide) (by rw [c23_8]; rfl) (by decide) ?_
        refine ra_0 oX4_status_139 ?_
        refine rr_gr (v := 26) oX4_status_140 (ff_X4_31 rfl) kk_0 (wd_lt W rfl) ⟨by decide, rfl⟩ (wd_r W rfl rfl) ?_
        refine rr_giv oX4_status_143 (ff_X4_338 rfl) kk_26 (wd_lt W rfl) ⟨by decide, rfl⟩ hC.2.2.2.2.2.2.2 ?_
        exact rr_ireturn oX4_status_146 rfl rfl (q_is (by rw [f_status, if_neg (by grind), if_neg c23_0, if_neg c23_1, if_neg c23_2, if_neg c23_3, if_neg c23_4, if_neg c23_5, if_neg c23_6, if_neg c23_7, if_pos c23_8]))
      refine rr_tabOut (tgt := 147) oX4_status_23 (tab_out_0_8 c23_0 c23_1 c23_2 c23_3 c23_4 c23_5 c23_6 c23_7 c23_8) (by decide) ?_
      refine rk_m1 oX4_status_147 ?_
      exact rr_ireturn oX4_status_148 rfl rfl (q_is (by rw [f_status, if_neg (by grind), if_neg c23_0, if_neg c23_1, if_neg c23_2, if_neg c23_3, if_neg c23_4, if_neg c23_5, if_neg c23_6, if_neg c23_7, if_neg c23_8]))
    · obtain ⟨t, ht, et⟩ := st_ix ⟨Int32.not_le.mp c, Int32.not_lt.mp c1⟩
      have ext : ix_N (w - 10) = t := by rw [et]; exact nI_clamp (by omega)
      refine ra_0 oX4_status_12 ?_
      refine rr_gr (v := 28) oX4_status_13 (ff_X4_35 rfl) kk_0 (wd_lt W rfl) ⟨by decide, rfl⟩ (wd_r W rfl rfl) ?_
      refine ri_1 oX4_status_16 ?_
      refine rr_bipush (v := 10) oX4_status_17 (by decide) ?_
      refine rr_isub oX4_status_19 ?_
      refine rr_iv (t := t) oX4_status_20 kk_28 (wd_lt W rfl) et (by omega) (by decide) (hC.2.2.2.1 t ht) ?_
      exact rr_ireturn oX4_status_21 rfl rfl (q_is (by rw [f_status, if_pos ⟨Int32.not_le.mp c, Int32.not_lt.mp c1⟩, ext]))
theorem c_X4_sees (l : Launch) {I : Nat → Nat → Int32} {L : Nat → Nat → Int64} {Rf : Nat → Nat → Option Nat} {n : Nat} {S : sg_T} (W : wd_T Rf n) (hC : CR_T I L S) (hI : IV_T S) {i j w : Int32} : wm_C l mX4_sees 7 0 0 [vv_A (some 0), vv_I i, vv_I j, vv_I w] (I, L, Rf, n) (q_C (f_sees S i j w).1 (f_sees S i j w).2 I L Rf n) := by
  refine wm_of (by decide) (Nat.le_of_ble_eq_true rfl) rfl ?_
  have hG : gv_T I 2 (z_G S) := hC.1.1.1
  have h8 : g_n (z_G S) ≤ 8 := hI.1.1
  have hr : hr_T (z_G S) := hI.1.2.1
  refine ra_0 oX4_sees_0 ?_
  refine ri_1 oX4_sees_1 ?_
  refine ri_2 oX4_sees_2 ?_
  refine rr_cVi (c_X4_lacksHouses l W hC hI) oX4_sees_3 (cv_X4_212 rfl) (by decide) kk_0 (by decide) hcn_4 (wd_lt W rfl) rfl rfl (Nat.le_of_ble_eq_true rfl) ?_
  refine si_4 oX4_sees_6 rfl rfl ?_
  refine ri_4 oX4_sees_8 ?_
  refine rr_if_ne (tgt := 26) oX4_sees_10 (by decide) (fun c => ?_) (fun c => ?_)
  · have hno := no_lh c
    refine ri_4 oX4_sees_26 ?_
    refine rr_if_ne (tgt := 39) oX4_sees_28 (by decide) (fun c9 => ?_) (fun c9 => ?_)
    rotate_left
    · exact absurd c9 c
    refine ri_4 oX4_sees_39 ?_
    refine rr_if_eq (tgt := 51) oX4_sees_41 (by decide) (fun c9 => ?_) (fun c9 => ?_)
    · exact absurd c9 c
    refine ra_0 oX4_sees_44 ?_
    refine ri_4 oX4_sees_45 ?_
    refine rr_cVi (c_X4_refuse l W hno.1 hno.2) oX4_sees_47 (cv_X4_55 rfl) (by decide) kk_0 (by decide) hcn_4 (wd_lt W rfl) rfl rfl (Nat.le_of_ble_eq_true rfl) ?_
    exact rr_ireturn oX4_sees_50 rfl rfl (q_C_nov hC ce_rf (f_sees_1 c) hno.1)
  · have c0 := c
    obtain ⟨a, b, ⟨ha, rfl, ha2⟩, ⟨hb, rfl, hb2⟩⟩ := s_lh_0 h8 c
    have exa : ix_N (nI a) = a := nI_clamp (by omega)
    have exb : ix_N (nI b) = b := nI_clamp (by omega)
    refine ri_3 oX4_sees_13 ?_
    refine rr_if_eq (tgt := 26) oX4_sees_14 (by decide) (fun c1 => ?_) (fun c1 => ?_)
    · have cw : w = 0 ∨ w = 1 := Or.inl c1
      refine ri_4 oX4_sees_26 ?_
      refine rr_if_ne (tgt := 39) oX4_sees_28 (by decide) (fun c9 => ?_) (fun c9 => ?_)
      · exact absurd c0 c9
      refine ra_0 oX4_sees_31 ?_
      refine ri_1 oX4_sees_32 ?_
      refine ri_2 oX4_sees_33 ?_
      refine rr_cVi (c_X4_lacksSight l W hC hI) oX4_sees_34 (cv_X4_185 rfl) (by decide) kk_0 (by decide) hcn_4 (wd_lt W rfl) rfl rfl (Nat.le_of_ble_eq_true rfl) ?_
      generalize els : s_ls S (nI a) (nI b) = ls6
      refine si_4 oX4_sees_37 rfl rfl ?_
      refine ri_4 oX4_sees_39 ?_
      refine rr_if_eq (tgt := 51) oX4_sees_41 (by decide) (fun c5 => ?_) (fun c5 => ?_)
      · have c4 : ¬ nI a = nI b := (s_ls_0 (els.trans c5)).2
        refine ra_0 oX4_sees_51 ?_
        refine rr_gr (v := 2) oX4_sees_52 (ff_X4_18 rfl) kk_0 (wd_lt W rfl) ⟨by decide, rfl⟩ (wd_r W rfl rfl) ?_
        refine rr_cVm (c_X1_lookAround l W gd_2 hG (hr_xy hr)) oX4_sees_55 (cv_X4_113 rfl) (by decide) (gd_k gd_2) (by decide) hcn_1 (gd_lt (j := 0) W gd_2 rfl) rfl rfl (Nat.le_of_ble_eq_true rfl) (fun J hJ => ?_)
        have hA : gl_T J 2 (z_G S) (b_dr (z_B S)) (b_sh (z_B S)) := la_gl hJ hC.1.1
        have he : ce_T I J := ce_la hJ
        have hG := hA.1.1
        refine ri_3 oX4_sees_58 ?_
        refine rr_if_ne (tgt := 74) oX4_sees_59 (by decide) (fun c6 => ?_) (fun c6 => ?_)
        · refine ra_0 oX4_sees_74 ?_
          refine rr_gr (v := 2) oX4_sees_75 (ff_X4_18 rfl) kk_0 (wd_lt W rfl) ⟨by decide, rfl⟩ (wd_r W rfl rfl) ?_
          refine ri_2 oX4_sees_78 ?_
          refine rr_cVi (c_X1_lookersSeeing l W gd_2 hA (j := b) (by omega)) oX4_sees_79 (cv_X4_218 rfl) (by decide) (gd_k gd_2) (by decide) hcn_1 (gd_lt (j := 0) W gd_2 rfl) rfl rfl (Nat.le_of_ble_eq_true rfl) ?_
          refine si_5 oX4_sees_82 rfl rfl ?_
          refine ri_5 oX4_sees_84 ?_
          refine ri_1 oX4_sees_86 ?_
          refine rr_cSi (c_X4_isIn l) oX4_sees_87 (cs_X4_142 rfl) (by decide) rfl rfl (Nat.le_of_ble_eq_true rfl) ?_
          refine rr_ifb_eq (tgt := 97) oX4_sees_90 (by decide) (fun c7 => ?_) (fun c7 => ?_)
          · rw [st_in (by omega)] at c7
            refine rk_0 oX4_sees_97 ?_
            exact rr_ireturn oX4_sees_98 rfl rfl (q_C_an hC he (by rw [f_sees, if_neg (fun q => q c), if_neg (by grind), if_neg c4, exa, exb, if_neg c6, bI_f c7]) rfl)
          · rw [st_in (by omega)] at c7
            refine rk_1 oX4_sees_93 ?_
            refine rr_goto (tgt := 98) oX4_sees_94 (by decide) ?_
            exact rr_ireturn oX4_sees_98 rfl rfl (q_C_an hC he (by rw [f_sees, if_neg (fun q => q c), if_neg (by grind), if_neg c4, exa, exb, if_neg c6, bI_t c7]) rfl)
        · refine ra_0 oX4_sees_62 ?_
          refine rr_gr (v := 2) oX4_sees_63 (ff_X4_18 rfl) kk_0 (wd_lt W rfl) ⟨by decide, rfl⟩ (wd_r W rfl rfl) ?_
          refine rr_gr oX4_sees_66 (ff_X4_215 rfl) (gd_k gd_2) (gd_lt (j := 0) W gd_2 rfl) ⟨by decide, rfl⟩ (gd_r W gd_2 12 7 rfl) ?_
          refine ri_2 oX4_sees_69 ?_
          refine rr_iv oX4_sees_70 (gd_a gd_2 7 rfl) (gd_lt (j := 7) W gd_2 rfl) rfl (by omega) (by decide) (gl_lk hA (by omega)) ?_
          refine rr_goto (tgt := 82) oX4_sees_71 (by decide) ?_
          refine si_5 oX4_sees_82 rfl rfl ?_
          refine ri_5 oX4_sees_84 ?_
          refine ri_1 oX4_sees_86 ?_
          refine rr_cSi (c_X4_isIn l) oX4_sees_87 (cs_X4_142 rfl) (by decide) rfl rfl (Nat.le_of_ble_eq_true rfl) ?_
          refine rr_ifb_eq (tgt := 97) oX4_sees_90 (by decide) (fun c7 => ?_) (fun c7 => ?_)
          · rw [st_in (by omega)] at c7
            refine rk_0 oX4_sees_97 ?_
            exact rr_ireturn oX4_sees_98 rfl rfl (q_C_an hC he (by rw [f_sees, if_neg (fun q => q c), if_neg (by grind), if_neg c4, exa, exb, if_pos c6, bI_f c7]) rfl)
          · rw [st_in (by omega)] at c7
            refine rk_1 oX4_sees_93 ?_
            refine rr_goto (tgt := 98) oX4_sees_94 (by decide) ?_
            exact rr_ireturn oX4_sees_98 rfl rfl (q_C_an hC he (by rw [f_sees, if_neg (fun q => q c), if_neg (by grind), if_neg c4, exa, exb, if_pos c6, bI_t c7]) rfl)
      · have c4 : nI a = nI b := by
          refine Classical.byContradiction fun q => c5 ?_
          rw [← els, s_ls, if_neg (fun z => q z.2)]
          exact c
        have e6 : ls6 = -6 := by rw [← els, s_ls, if_pos ⟨c, c4⟩]
        subst e6
        have hno : no_c (-6) < 8 ∧ -(-6 : Int32) = nI (no_c (-6)) := by decide
        refine ra_0 oX4_sees_44 ?_
        refine ri_4 oX4_sees_45 ?_
        refine rr_cVi (c_X4_refuse l W hno.1 hno.2) oX4_sees_47 (cv_X4_55 rfl) (by decide) kk_0 (by decide) hcn_4 (wd_lt W rfl) rfl rfl (Nat.le_of_ble_eq_true rfl) ?_
        exact rr_ireturn oX4_sees_50 rfl rfl (q_C_nov hC ce_rf (by rw [f_sees, if_neg (fun q => q c), if_neg (by grind), if_pos c4]) hno.1)
    · refine ri_3 oX4_sees_17 ?_
      refine rk_1 oX4_sees_18 ?_
      refine rr_icmp_eq (tgt := 26) oX4_sees_19 (by decide) (fun c2 => ?_) (fun c2 => ?_)
      · have cw : w = 0 ∨ w = 1 := Or.inr c2
        refine ri_4 oX4_sees_26 ?_
        refine rr_if_ne (tgt := 39) oX4_sees_28 (by decide) (fun c9 => ?_) (fun c9 => ?_)
        · exact absurd c0 c9
        refine ra_0 oX4_sees_31 ?_
        refine ri_1 oX4_sees_32 ?_
        refine ri_2 oX4_sees_33 ?_
        refine rr_cVi (c_X4_lacksSight l W hC hI) oX4_sees_34 (cv_X4_185 rfl) (by decide) kk_0 (by decide) hcn_4 (wd_lt W rfl) rfl rfl (Nat.le_of_ble_eq_true rfl) ?_
        generalize els : s_ls S (nI a) (nI b) = ls6
        refine si_4 oX4_sees_37 rfl rfl ?_
        refine ri_4 oX4_sees_39 ?_
        refine rr_if_eq (tgt := 51) oX4_sees_41 (by decide) (fun c5 => ?_) (fun c5 => ?_)
        · have c4 : ¬ nI a = nI b := (s_ls_0 (els.trans c5)).2
          refine ra_0 oX4_sees_51 ?_
          refine rr_gr (v := 2) oX4_sees_52 (ff_X4_18 rfl) kk_0 (wd_lt W rfl) ⟨by decide, rfl⟩ (wd_r W rfl rfl) ?_
          refine rr_cVm (c_X1_lookAround l W gd_2 hG (hr_xy hr)) oX4_sees_55 (cv_X4_113 rfl) (by decide) (gd_k gd_2) (by decide) hcn_1 (gd_lt (j := 0) W gd_2 rfl) rfl rfl (Nat.le_of_ble_eq_true rfl) (fun J hJ => ?_)
          have hA : gl_T J 2 (z_G S) (b_dr (z_B S)) (b_sh (z_B S)) := la_gl hJ hC.1.1
          have he : ce_T I J := ce_la hJ
          have hG := hA.1.1
          refine ri_3 oX4_sees_58 ?_
          refine rr_if_ne (tgt := 74) oX4_sees_59 (by decide) (fun c6 => ?_) (fun c6 => ?_)
          · refine ra_0 oX4_sees_74 ?_
            refine rr_gr (v := 2) oX4_sees_75 (ff_X4_18 rfl) kk_0 (wd_lt W rfl) ⟨by decide, rfl⟩ (wd_r W rfl rfl) ?_
            refine ri_2 oX4_sees_78 ?_
            refine rr_cVi (c_X1_lookersSeeing l W gd_2 hA (j := b) (by omega)) oX4_sees_79 (cv_X4_218 rfl) (by decide) (gd_k gd_2) (by decide) hcn_1 (gd_lt (j := 0) W gd_2 rfl) rfl rfl (Nat.le_of_ble_eq_true rfl) ?_
            refine si_5 oX4_sees_82 rfl rfl ?_
            refine ri_5 oX4_sees_84 ?_
            refine ri_1 oX4_sees_86 ?_
            refine rr_cSi (c_X4_isIn l) oX4_sees_87 (cs_X4_142 rfl) (by decide) rfl rfl (Nat.le_of_ble_eq_true rfl) ?_
            refine rr_ifb_eq (tgt := 97) oX4_sees_90 (by decide) (fun c7 => ?_) (fun c7 => ?_)
            · rw [st_in (by omega)] at c7
              refine rk_0 oX4_sees_97 ?_
              exact rr_ireturn oX4_sees_98 rfl rfl (q_C_an hC he (by rw [f_sees, if_neg (fun q => q c), if_neg (by grind), if_neg c4, exa, exb, if_neg c6, bI_f c7]) rfl)
            · rw [st_in (by omega)] at c7
              refine rk_1 oX4_sees_93 ?_
              refine rr_goto (tgt := 98) oX4_sees_94 (by decide) ?_
              exact rr_ireturn oX4_sees_98 rfl rfl (q_C_an hC he (by rw [f_sees, if_neg (fun q => q c), if_neg (by grind), if_neg c4, exa, exb, if_neg c6, bI_t c7]) rfl)
          · refine ra_0 oX4_sees_62 ?_
            refine rr_gr (v := 2) oX4_sees_63 (ff_X4_18 rfl) kk_0 (wd_lt W rfl) ⟨by decide, rfl⟩ (wd_r W rfl rfl) ?_
            refine rr_gr oX4_sees_66 (ff_X4_215 rfl) (gd_k gd_2) (gd_lt (j := 0) W gd_2 rfl) ⟨by decide, rfl⟩ (gd_r W gd_2 12 7 rfl) ?_
            refine ri_2 oX4_sees_69 ?_
            refine rr_iv oX4_sees_70 (gd_a gd_2 7 rfl) (gd_lt (j := 7) W gd_2 rfl) rfl (by omega) (by decide) (gl_lk hA (by omega)) ?_
            refine rr_goto (tgt := 82) oX4_sees_71 (by decide) ?_
            refine si_5 oX4_sees_82 rfl rfl ?_
            refine ri_5 oX4_sees_84 ?_
            refine ri_1 oX4_sees_86 ?_
            refine rr_cSi (c_X4_isIn l) oX4_sees_87 (cs_X4_142 rfl) (by decide) rfl rfl (Nat.le_of_ble_eq_true rfl) ?_
            refine rr_ifb_eq (tgt := 97) oX4_sees_90 (by decide) (fun c7 => ?_) (fun c7 => ?_)
            · rw [st_in (by omega)] at c7
              refine rk_0 oX4_sees_97 ?_
              exact rr_ireturn oX4_sees_98 rfl rfl (q_C_an hC he (by rw [f_sees, if_neg (fun q => q c), if_neg (by grind), if_neg c4, exa, exb, if_pos c6, bI_f c7]) rfl)
            · rw [st_in (by omega)] at c7
              refine rk_1 oX4_sees_93 ?_
              refine rr_goto (tgt := 98) oX4_sees_94 (by decide) ?_
              exact rr_ireturn oX4_sees_98 rfl rfl (q_C_an hC he (by rw [f_sees, if_neg (fun q => q c), if_neg (by grind), if_neg c4, exa, exb, if_pos c6, bI_t c7]) rfl)
        · have c4 : nI a = nI b := by
            refine Classical.byContradiction fun q => c5 ?_
            rw [← els, s_ls, if_neg (fun z => q z.2)]
            exact c
          have e6 : ls6 = -6 := by rw [← els, s_ls, if_pos ⟨c, c4⟩]
          subst e6
          have hno : no_c (-6) < 8 ∧ -(-6 : Int32) = nI (no_c (-6)) := by decide
          refine ra_0 oX4_sees_44 ?_
          refine ri_4 oX4_sees_45 ?_
          refine rr_cVi (c_X4_refuse l W hno.1 hno.2) oX4_sees_47 (cv_X4_55 rfl) (by decide) kk_0 (by decide) hcn_4 (wd_lt W rfl) rfl rfl (Nat.le_of_ble_eq_true rfl) ?_
          exact rr_ireturn oX4_sees_50 rfl rfl (q_C_nov hC ce_rf (by rw [f_sees, if_neg (fun q => q c), if_neg (by grind), if_pos c4]) hno.1)
      · refine rr_bipush (v := (-5)) oX4_sees_22 (by decide) ?_
        refine si_4 oX4_sees_24 rfl rfl ?_
        refine ri_4 oX4_sees_26 ?_
        refine rr_if_ne (tgt := 39) oX4_sees_28 (by decide) (fun _ => ?_) (fun q => absurd q (by decide))
        refine ri_4 oX4_sees_39 ?_
        refine rr_if_eq (tgt := 51) oX4_sees_41 (by decide) (fun q => absurd q (by decide)) (fun _ => ?_)
        refine ra_0 oX4_sees_44 ?_
        refine ri_4 oX4_sees_45 ?_
        refine rr_cVi (c_X4_refuse l W (c := 5) (by decide) (by decide)) oX4_sees_47 (cv_X4_55 rfl) (by decide) kk_0 (by decide) hcn_4 (wd_lt W rfl) rfl rfl (Nat.le_of_ble_eq_true rfl) ?_
        exact rr_ireturn oX4_sees_50 rfl rfl (q_C_noc hC ce_rf (by rw [f_sees, if_neg (fun q => q c), if_pos ⟨c1, c2⟩]) (by decide) (by decide))
