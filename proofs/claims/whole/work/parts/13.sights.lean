/-! sights on the class's ground (by program: wip/whole/c13.py) -/
theorem c_X1_isHouse (l : Launch) {I : Nat → Nat → Int32} {L : Nat → Nat → Int64} {Rf : Nat → Nat → Option Nat} {n : Nat} {g : Nat} (W : wd_T Rf n) (hg : gd_T g) {G : gr_T} (hG : gv_T I g G) {x : Int32}  : wm_C l mX1_isHouse 2 0 0 [vv_A (some g), vv_I x] (I, L, Rf, n) (q_i (bI ((0 ≤ x ∧ x < nI (g_n G)) ∧ is_H (g_k G x.toNatClampNeg))) (I, L, Rf, n)) := by
  refine wm_of (by decide) (Nat.le_of_ble_eq_true rfl) rfl ?_
  have h8 := gv_8 hG
  refine ra_0 oX1_isHouse_0 ?_
  refine ri_1 oX1_isHouse_1 ?_
  refine rr_cVi (c_X1_has l W hg) oX1_isHouse_2 (cv_X1_58 rfl) (by decide) (gd_k hg) (by decide) hcn_1 (gd_lt (j := 0) W hg rfl) rfl rfl (Nat.le_of_ble_eq_true rfl) ?_
  refine rr_ifb_eq (tgt := 24) oX1_isHouse_5 (by decide) (fun c => ?_) (fun c => ?_)
  · rw [gv_c hG] at c
    refine rk_0 oX1_isHouse_24 ?_
    exact rr_ireturn oX1_isHouse_25 rfl rfl (q_f (by grind))
  · rw [gv_c hG] at c
    obtain ⟨t, ht, rfl⟩ := ix_of c.1 c.2 (by omega)
    rw [nI_clamp (by omega)]
    refine ra_0 oX1_isHouse_8 ?_
    refine rr_gr oX1_isHouse_9 (ff_X1_30 rfl) (gd_k hg) (gd_lt (j := 0) W hg rfl) ⟨by decide, rfl⟩ (gd_r W hg 6 1 rfl) ?_
    refine ri_1 oX1_isHouse_12 ?_
    refine rr_iv oX1_isHouse_13 (gd_a hg 1 rfl) (gd_lt (j := 1) W hg rfl) rfl (by omega) (by decide) (gv_k hG (by omega)) ?_
    refine rr_cSNi (c_X4_isHouseKind l) oX1_isHouse_14 (cn_X1_62 rfl) (by decide) rfl rfl (Nat.le_of_ble_eq_true rfl) ?_
    refine rr_ifb_eq (tgt := 24) oX1_isHouse_17 (by decide) (fun c17 => ?_) (fun c17 => ?_)
    · refine rk_0 oX1_isHouse_24 ?_
      exact rr_ireturn oX1_isHouse_25 rfl rfl (q_f (by grind))
    · refine rk_1 oX1_isHouse_20 ?_
      refine rr_goto (tgt := 25) oX1_isHouse_21 (by decide) ?_
      exact rr_ireturn oX1_isHouse_25 rfl rfl (q_t (by grind))
theorem lp_X1_thingAt (l : Launch) {I : Nat → Nat → Int32} {L : Nat → Nat → Int64} {Rf : Nat → Nat → Option Nat} {n : Nat} {g : Nat} (W : wd_T Rf n) (hg : gd_T g) {G : gr_T} (hG : gv_T I g G) {x y : Int32} : ∀ m t, t + m = g_n G → wm_W l mX1_thingAt 2 0 0 2 [vv_A (some g), vv_I x, vv_I y, vv_I (nI t)] [] (I, L, Rf, n) (q_i (oI (fo_N (fun t => g_x G t == x && g_y G t == y) m t)) (I, L, Rf, n)) := by
  intro m
  induction m with
  | zero =>
    intro t ht
    have h8 := gv_8 hG
    refine ri_3 oX1_thingAt_2 ?_
    refine ra_0 oX1_thingAt_3 ?_
    refine rr_giv oX1_thingAt_4 (ff_X1_9 rfl) (gd_k hg) (gd_lt (j := 0) W hg rfl) ⟨by decide, rfl⟩ (gv_c hG) ?_
    refine rr_icmp_ge (tgt := 38) oX1_thingAt_7 (by decide) (fun c => ?_) (fun c => ?_)
    rotate_left
    · exact absurd c (by rw [nI_le_iff (by omega) (by omega)]; omega)
    refine rk_m1 oX1_thingAt_38 ?_
    exact rr_ireturn oX1_thingAt_39 rfl rfl ⟨rfl, rfl⟩
  | succ m ih =>
    intro t ht
    have h8 := gv_8 hG
    refine ri_3 oX1_thingAt_2 ?_
    refine ra_0 oX1_thingAt_3 ?_
    refine rr_giv oX1_thingAt_4 (ff_X1_9 rfl) (gd_k hg) (gd_lt (j := 0) W hg rfl) ⟨by decide, rfl⟩ (gv_c hG) ?_
    refine rr_icmp_ge (tgt := 38) oX1_thingAt_7 (by decide) (fun c => ?_) (fun c => ?_)
    · (rw [nI_le_iff (by omega) (by omega)] at c; omega)
    refine ra_0 oX1_thingAt_10 ?_
    refine rr_gr oX1_thingAt_11 (ff_X1_34 rfl) (gd_k hg) (gd_lt (j := 0) W hg rfl) ⟨by decide, rfl⟩ (gd_r W hg 7 2 rfl) ?_
    refine ri_3 oX1_thingAt_14 ?_
    refine rr_iv oX1_thingAt_15 (gd_a hg 2 rfl) (gd_lt (j := 2) W hg rfl) rfl (by omega) (by decide) (gv_x hG (by omega)) ?_
    refine ri_1 oX1_thingAt_16 ?_
    refine rr_icmp_ne (tgt := 32) oX1_thingAt_17 (by decide) (fun c1 => ?_) (fun c1 => ?_)
    · refine rn_3 oX1_thingAt_32 rfl rfl ?_
      refine rr_goto (tgt := 2) oX1_thingAt_35 (by decide) ?_
      have h3 := ih (t + 1) (by omega)
      simp only [fo_N]
      rw [if_neg (by simp only [beq_iff_eq, Bool.and_eq_true]; grind)]
      exact h3
    · refine ra_0 oX1_thingAt_20 ?_
      refine rr_gr oX1_thingAt_21 (ff_X1_37 rfl) (gd_k hg) (gd_lt (j := 0) W hg rfl) ⟨by decide, rfl⟩ (gd_r W hg 8 3 rfl) ?_
      refine ri_3 oX1_thingAt_24 ?_
      refine rr_iv oX1_thingAt_25 (gd_a hg 3 rfl) (gd_lt (j := 3) W hg rfl) rfl (by omega) (by decide) (gv_y hG (by omega)) ?_
      refine ri_2 oX1_thingAt_26 ?_
      refine rr_icmp_ne (tgt := 32) oX1_thingAt_27 (by decide) (fun c2 => ?_) (fun c2 => ?_)
      · refine rn_3 oX1_thingAt_32 rfl rfl ?_
        refine rr_goto (tgt := 2) oX1_thingAt_35 (by decide) ?_
        have h3 := ih (t + 1) (by omega)
        simp only [fo_N]
        rw [if_neg (by simp only [beq_iff_eq, Bool.and_eq_true]; grind)]
        exact h3
      · refine ri_3 oX1_thingAt_30 ?_
        exact rr_ireturn oX1_thingAt_31 rfl rfl (q_is (by simp only [fo_N]; rw [if_pos (by simp only [beq_iff_eq, Bool.and_eq_true]; grind)]; rfl))
theorem c_X1_thingAt (l : Launch) {I : Nat → Nat → Int32} {L : Nat → Nat → Int64} {Rf : Nat → Nat → Option Nat} {n : Nat} {g : Nat} (W : wd_T Rf n) (hg : gd_T g) {G : gr_T} (hG : gv_T I g G) {x y : Int32}  : wm_C l mX1_thingAt 2 0 0 [vv_A (some g), vv_I x, vv_I y] (I, L, Rf, n) (q_i (oI (s_at G x y)) (I, L, Rf, n)) := by
  refine wm_of (by decide) (Nat.le_of_ble_eq_true rfl) rfl ?_
  have h8 := gv_8 hG
  refine rk_0 oX1_thingAt_0 ?_
  refine si_3 oX1_thingAt_1 rfl rfl ?_
  exact lp_X1_thingAt l W hg hG (g_n G) 0 (Nat.zero_add _)
theorem c_X1_tallOf (l : Launch) {I : Nat → Nat → Int32} {L : Nat → Nat → Int64} {Rf : Nat → Nat → Option Nat} {n : Nat} {g : Nat} (W : wd_T Rf n) (hg : gd_T g) {G : gr_T} (hG : gv_T I g G) {t : Nat} (ht : t < g_n G)  : wm_C l mX1_tallOf 1 0 0 [vv_A (some g), vv_I (nI t)] (I, L, Rf, n) (q_i (s_tall G t) (I, L, Rf, n)) := by
  refine wm_of (by decide) (Nat.le_of_ble_eq_true rfl) rfl ?_
  have h8 := gv_8 hG
  refine ra_0 oX1_tallOf_0 ?_
  refine rr_gr oX1_tallOf_1 (ff_X1_30 rfl) (gd_k hg) (gd_lt (j := 0) W hg rfl) ⟨by decide, rfl⟩ (gd_r W hg 6 1 rfl) ?_
  refine ri_1 oX1_tallOf_4 ?_
  refine rr_iv oX1_tallOf_5 (gd_a hg 1 rfl) (gd_lt (j := 1) W hg rfl) rfl (by omega) (by decide) (gv_k hG (by omega)) ?_
  by_cases c6_2 : g_k G t = 2
  · refine rr_lookup (off := 26) (tgt := 32) oX1_tallOf_6 (by decide) (by rw [c6_2]; rfl) (by decide) ?_
    refine ra_0 oX1_tallOf_32 ?_
    refine rr_giv oX1_tallOf_33 (ff_X1_15 rfl) (gd_k hg) (gd_lt (j := 0) W hg rfl) ⟨by decide, rfl⟩ (gv_s hG) ?_
    refine rk_1 oX1_tallOf_36 ?_
    refine rr_icmp_ne (tgt := 56) oX1_tallOf_37 (by decide) (fun c => ?_) (fun c => ?_)
    · refine rk_0 oX1_tallOf_56 ?_
      exact rr_ireturn oX1_tallOf_57 rfl rfl (q_is (by grind [s_tall]))
    · refine ra_0 oX1_tallOf_40 ?_
      refine rr_gr oX1_tallOf_41 (ff_X1_40 rfl) (gd_k hg) (gd_lt (j := 0) W hg rfl) ⟨by decide, rfl⟩ (gd_r W hg 9 4 rfl) ?_
      refine ri_1 oX1_tallOf_44 ?_
      refine rr_iv oX1_tallOf_45 (gd_a hg 4 rfl) (gd_lt (j := 4) W hg rfl) rfl (by omega) (by decide) (gv_h hG (by omega)) ?_
      refine ra_0 oX1_tallOf_46 ?_
      refine rr_gr oX1_tallOf_47 (ff_X1_43 rfl) (gd_k hg) (gd_lt (j := 0) W hg rfl) ⟨by decide, rfl⟩ (gd_r W hg 10 5 rfl) ?_
      refine ri_1 oX1_tallOf_50 ?_
      refine rr_iv oX1_tallOf_51 (gd_a hg 5 rfl) (gd_lt (j := 5) W hg rfl) rfl (by omega) (by decide) (gv_a hG (by omega)) ?_
      refine rr_iadd oX1_tallOf_52 ?_
      refine rr_goto (tgt := 57) oX1_tallOf_53 (by decide) ?_
      exact rr_ireturn oX1_tallOf_57 rfl rfl (q_is (by grind [s_tall]))
  by_cases c6_6 : g_k G t = 6
  · refine rr_lookup (off := 52) (tgt := 58) oX1_tallOf_6 (by decide) (by rw [c6_6]; rfl) (by decide) ?_
    refine ra_0 oX1_tallOf_58 ?_
    refine rr_gr oX1_tallOf_59 (ff_X1_40 rfl) (gd_k hg) (gd_lt (j := 0) W hg rfl) ⟨by decide, rfl⟩ (gd_r W hg 9 4 rfl) ?_
    refine ri_1 oX1_tallOf_62 ?_
    refine rr_iv oX1_tallOf_63 (gd_a hg 4 rfl) (gd_lt (j := 4) W hg rfl) rfl (by omega) (by decide) (gv_h hG (by omega)) ?_
    refine ra_0 oX1_tallOf_64 ?_
    refine rr_gr oX1_tallOf_65 (ff_X1_43 rfl) (gd_k hg) (gd_lt (j := 0) W hg rfl) ⟨by decide, rfl⟩ (gd_r W hg 10 5 rfl) ?_
    refine ri_1 oX1_tallOf_68 ?_
    refine rr_iv oX1_tallOf_69 (gd_a hg 5 rfl) (gd_lt (j := 5) W hg rfl) rfl (by omega) (by decide) (gv_a hG (by omega)) ?_
    refine rr_iadd oX1_tallOf_70 ?_
    exact rr_ireturn oX1_tallOf_71 rfl rfl (q_is (by grind [s_tall]))
  refine rr_lookup (off := 66) (tgt := 72) oX1_tallOf_6 (by decide) (lk_out c6_2 c6_6) (by decide) ?_
  refine ra_0 oX1_tallOf_72 ?_
  refine rr_gr oX1_tallOf_73 (ff_X1_40 rfl) (gd_k hg) (gd_lt (j := 0) W hg rfl) ⟨by decide, rfl⟩ (gd_r W hg 9 4 rfl) ?_
  refine ri_1 oX1_tallOf_76 ?_
  refine rr_iv oX1_tallOf_77 (gd_a hg 4 rfl) (gd_lt (j := 4) W hg rfl) rfl (by omega) (by decide) (gv_h hG (by omega)) ?_
  exact rr_ireturn oX1_tallOf_78 rfl rfl (q_is (by grind [s_tall]))
theorem c_X1_eyesOf (l : Launch) {I : Nat → Nat → Int32} {L : Nat → Nat → Int64} {Rf : Nat → Nat → Option Nat} {n : Nat} {g : Nat} (W : wd_T Rf n) (hg : gd_T g) {G : gr_T} (hG : gv_T I g G) {t : Nat} (ht : t < g_n G)  : wm_C l mX1_eyesOf 1 0 0 [vv_A (some g), vv_I (nI t)] (I, L, Rf, n) (q_i (s_eye G t) (I, L, Rf, n)) := by
  refine wm_of (by decide) (Nat.le_of_ble_eq_true rfl) rfl ?_
  have h8 := gv_8 hG
  refine ra_0 oX1_eyesOf_0 ?_
  refine rr_gr oX1_eyesOf_1 (ff_X1_30 rfl) (gd_k hg) (gd_lt (j := 0) W hg rfl) ⟨by decide, rfl⟩ (gd_r W hg 6 1 rfl) ?_
  refine ri_1 oX1_eyesOf_4 ?_
  refine rr_iv oX1_eyesOf_5 (gd_a hg 1 rfl) (gd_lt (j := 1) W hg rfl) rfl (by omega) (by decide) (gv_k hG (by omega)) ?_
  refine rk_3 oX1_eyesOf_6 ?_
  refine rr_icmp_ne (tgt := 26) oX1_eyesOf_7 (by decide) (fun c => ?_) (fun c => ?_)
  · refine ra_0 oX1_eyesOf_26 ?_
    refine rr_gr oX1_eyesOf_27 (ff_X1_40 rfl) (gd_k hg) (gd_lt (j := 0) W hg rfl) ⟨by decide, rfl⟩ (gd_r W hg 9 4 rfl) ?_
    refine ri_1 oX1_eyesOf_30 ?_
    refine rr_iv oX1_eyesOf_31 (gd_a hg 4 rfl) (gd_lt (j := 4) W hg rfl) rfl (by omega) (by decide) (gv_h hG (by omega)) ?_
    exact rr_ireturn oX1_eyesOf_32 rfl rfl (q_is (by grind [s_eye]))
  · refine ra_0 oX1_eyesOf_10 ?_
    refine rr_gr oX1_eyesOf_11 (ff_X1_40 rfl) (gd_k hg) (gd_lt (j := 0) W hg rfl) ⟨by decide, rfl⟩ (gd_r W hg 9 4 rfl) ?_
    refine ri_1 oX1_eyesOf_14 ?_
    refine rr_iv oX1_eyesOf_15 (gd_a hg 4 rfl) (gd_lt (j := 4) W hg rfl) rfl (by omega) (by decide) (gv_h hG (by omega)) ?_
    refine ra_0 oX1_eyesOf_16 ?_
    refine rr_gr oX1_eyesOf_17 (ff_X1_43 rfl) (gd_k hg) (gd_lt (j := 0) W hg rfl) ⟨by decide, rfl⟩ (gd_r W hg 10 5 rfl) ?_
    refine ri_1 oX1_eyesOf_20 ?_
    refine rr_iv oX1_eyesOf_21 (gd_a hg 5 rfl) (gd_lt (j := 5) W hg rfl) rfl (by omega) (by decide) (gv_a hG (by omega)) ?_
    refine rr_iadd oX1_eyesOf_22 ?_
    refine rr_goto (tgt := 32) oX1_eyesOf_23 (by decide) ?_
    exact rr_ireturn oX1_eyesOf_32 rfl rfl (q_is (by grind [s_eye]))
theorem c_X1_distanceOf (l : Launch) {I : Nat → Nat → Int32} {L : Nat → Nat → Int64} {Rf : Nat → Nat → Option Nat} {n : Nat} {g : Nat} (W : wd_T Rf n) (hg : gd_T g) {G : gr_T} (hG : gv_T I g G) {i j : Nat} (hi : i < g_n G) (hj : j < g_n G)  : wm_C l mX1_distanceOf 2 0 0 [vv_A (some g), vv_I (nI i), vv_I (nI j)] (I, L, Rf, n) (q_i (s_dist G i j) (I, L, Rf, n)) := by
  refine wm_of (by decide) (Nat.le_of_ble_eq_true rfl) rfl ?_
  have h8 := gv_8 hG
  refine ra_0 oX1_distanceOf_0 ?_
  refine rr_gr oX1_distanceOf_1 (ff_X1_34 rfl) (gd_k hg) (gd_lt (j := 0) W hg rfl) ⟨by decide, rfl⟩ (gd_r W hg 7 2 rfl) ?_
  refine ri_1 oX1_distanceOf_4 ?_
  refine rr_iv oX1_distanceOf_5 (gd_a hg 2 rfl) (gd_lt (j := 2) W hg rfl) rfl (by omega) (by decide) (gv_x hG (by omega)) ?_
  refine ra_0 oX1_distanceOf_6 ?_
  refine rr_gr oX1_distanceOf_7 (ff_X1_34 rfl) (gd_k hg) (gd_lt (j := 0) W hg rfl) ⟨by decide, rfl⟩ (gd_r W hg 7 2 rfl) ?_
  refine ri_2 oX1_distanceOf_10 ?_
  refine rr_iv oX1_distanceOf_11 (gd_a hg 2 rfl) (gd_lt (j := 2) W hg rfl) rfl (by omega) (by decide) (gv_x hG (by omega)) ?_
  refine rr_isub oX1_distanceOf_12 ?_
  refine rr_abs oX1_distanceOf_13 gm_X1_69 (by decide) (Nat.le_of_ble_eq_true rfl) ?_
  refine ra_0 oX1_distanceOf_16 ?_
  refine rr_gr oX1_distanceOf_17 (ff_X1_37 rfl) (gd_k hg) (gd_lt (j := 0) W hg rfl) ⟨by decide, rfl⟩ (gd_r W hg 8 3 rfl) ?_
  refine ri_1 oX1_distanceOf_20 ?_
  refine rr_iv oX1_distanceOf_21 (gd_a hg 3 rfl) (gd_lt (j := 3) W hg rfl) rfl (by omega) (by decide) (gv_y hG (by omega)) ?_
  refine ra_0 oX1_distanceOf_22 ?_
  refine rr_gr oX1_distanceOf_23 (ff_X1_37 rfl) (gd_k hg) (gd_lt (j := 0) W hg rfl) ⟨by decide, rfl⟩ (gd_r W hg 8 3 rfl) ?_
  refine ri_2 oX1_distanceOf_26 ?_
  refine rr_iv oX1_distanceOf_27 (gd_a hg 3 rfl) (gd_lt (j := 3) W hg rfl) rfl (by omega) (by decide) (gv_y hG (by omega)) ?_
  refine rr_isub oX1_distanceOf_28 ?_
  refine rr_abs oX1_distanceOf_29 gm_X1_69 (by decide) (Nat.le_of_ble_eq_true rfl) ?_
  refine rr_max oX1_distanceOf_32 gm_X1_74 (by decide) (Nat.le_of_ble_eq_true rfl) ?_
  exact rr_ireturn oX1_distanceOf_35 rfl rfl ⟨rfl, rfl⟩
theorem lp_X1_greatestDivisor (l : Launch) {X : mx_T} {a b : Nat} (ha : a < 10) (hb : b < 10) : ∀ m, m < 10 → wm_W l mX1_greatestDivisor 2 0 0 6 [vv_I (nI a), vv_I (nI b), vv_I (nI m)] [] X (q_i (nI (gl_N a b m)) X) := by
  intro m
  induction m with
  | zero =>
    intro hm
    refine ri_2 oX1_greatestDivisor_6 ?_
    refine rk_1 oX1_greatestDivisor_7 ?_
    refine rr_icmp_le (tgt := 31) oX1_greatestDivisor_8 (by decide) (fun c => ?_) (fun c => ?_)
    rotate_left
    · exact absurd (by decide) c
    refine rk_1 oX1_greatestDivisor_31 ?_
    exact rr_ireturn oX1_greatestDivisor_32 rfl rfl (q_is rfl)
  | succ m ih =>
    intro hm
    refine ri_2 oX1_greatestDivisor_6 ?_
    refine rk_1 oX1_greatestDivisor_7 ?_
    refine rr_icmp_le (tgt := 31) oX1_greatestDivisor_8 (by decide) (fun c => ?_) (fun c => ?_)
    · rw [show (1 : Int32) = nI 1 from rfl, nI_le_iff (by omega) (by omega)] at c
      have e : m = 0 := by omega
      subst e
      refine rk_1 oX1_greatestDivisor_31 ?_
      exact rr_ireturn oX1_greatestDivisor_32 rfl rfl (q_is rfl)
    · rw [show (1 : Int32) = nI 1 from rfl, nI_le_iff (by omega) (by omega)] at c
      refine ri_0 oX1_greatestDivisor_11 ?_
      refine ri_2 oX1_greatestDivisor_12 ?_
      refine rr_irem oX1_greatestDivisor_13 (fun q => by rw [show (0 : Int32) = nI 0 from rfl, nI_inj (by omega) (by omega)] at q; omega) ?_
      rw [rm_N a ha m (by omega)]
      refine rr_if_ne (tgt := 25) oX1_greatestDivisor_14 (by decide) (fun c1 => ?_) (fun c1 => ?_)
      · refine rc_2 (v := nI m) oX1_greatestDivisor_25 rfl (nI_dec m) rfl ?_
        refine rr_goto (tgt := 6) oX1_greatestDivisor_28 (by decide) ?_
        have h3 := ih (by omega)
        have e : gl_N a b (m + 1) = gl_N a b m := by
          have ha2 := Nat.mod_lt a (show 0 < m + 1 by omega)
          have hb2 := Nat.mod_lt b (show 0 < m + 1 by omega)
          simp only [gl_N]
          rw [if_neg (by omega), if_neg]
          rintro ⟨g1, g2⟩
          first
            | exact c1 (by rw [g1]; rfl)
            | exact c2 (by rw [g2]; rfl)
        rw [e]
        exact h3
      · refine ri_1 oX1_greatestDivisor_17 ?_
        refine ri_2 oX1_greatestDivisor_18 ?_
        refine rr_irem oX1_greatestDivisor_19 (fun q => by rw [show (0 : Int32) = nI 0 from rfl, nI_inj (by omega) (by omega)] at q; omega) ?_
        rw [rm_N b hb m (by omega)]
        refine rr_if_ne (tgt := 25) oX1_greatestDivisor_20 (by decide) (fun c2 => ?_) (fun c2 => ?_)
        · refine rc_2 (v := nI m) oX1_greatestDivisor_25 rfl (nI_dec m) rfl ?_
          refine rr_goto (tgt := 6) oX1_greatestDivisor_28 (by decide) ?_
          have h3 := ih (by omega)
          have e : gl_N a b (m + 1) = gl_N a b m := by
            have ha2 := Nat.mod_lt a (show 0 < m + 1 by omega)
            have hb2 := Nat.mod_lt b (show 0 < m + 1 by omega)
            simp only [gl_N]
            rw [if_neg (by omega), if_neg]
            rintro ⟨g1, g2⟩
            first
              | exact c1 (by rw [g1]; rfl)
              | exact c2 (by rw [g2]; rfl)
          rw [e]
          exact h3
        · refine ri_2 oX1_greatestDivisor_23 ?_
          exact rr_ireturn oX1_greatestDivisor_24 rfl rfl (q_is (by rw [show (0 : Int32) = nI 0 from rfl] at c1 c2; simp only [nI_inj (show a % (m + 1) < 2 ^ 31 by have := Nat.mod_lt a (show 0 < m + 1 by omega); omega) (show 0 < 2 ^ 31 by omega), nI_inj (show b % (m + 1) < 2 ^ 31 by have := Nat.mod_lt b (show 0 < m + 1 by omega); omega) (show 0 < 2 ^ 31 by omega)] at c1 c2; simp only [gl_N]; rw [if_neg (by omega), if_pos (by omega)]))
theorem c_X1_greatestDivisor (l : Launch) {X : mx_T} {a b : Nat} (ha : a < 10) (hb : b < 10) : wm_C l mX1_greatestDivisor 2 0 0 [vv_I (nI a), vv_I (nI b)] X (q_i (nI (s_gcd a b)) X) := by
  refine wm_of (by decide) (Nat.le_of_ble_eq_true rfl) rfl ?_
  refine ri_0 oX1_greatestDivisor_0 ?_
  refine ri_1 oX1_greatestDivisor_1 ?_
  refine rr_max oX1_greatestDivisor_2 gm_X1_74 (by decide) (Nat.le_of_ble_eq_true rfl) ?_
  have e : s_max (nI a) (nI b) = nI (if a < b then b else a) := by
    simp only [s_max, nI_lt_iff (show a < 2 ^ 31 by omega) (show b < 2 ^ 31 by omega)]
    split <;> rfl
  rw [e]
  refine si_2 oX1_greatestDivisor_5 rfl rfl ?_
  rw [← gl_gcd a ha b hb]
  exact lp_X1_greatestDivisor l ha hb _ (by split <;> omega)
theorem lp_X1_firstBar (l : Launch) {I : Nat → Nat → Int32} {L : Nat → Nat → Int64} {Rf : Nat → Nat → Option Nat} {n : Nat} {g : Nat} (W : wd_T Rf n) (hg : gd_T g) {G : gr_T} (hG : gv_T I g G) {i j P : Nat} (hi : i < g_n G) (hj : j < g_n G) (hP : 1 ≤ P ∧ P < 10) : ∀ m k acc w8 w9 w10, k + m = P → 1 ≤ k → wm_W l mX1_firstBar 3 0 0 50 [vv_A (some g), vv_I (nI i), vv_I (nI j), vv_I acc, vv_I (g_x G j - g_x G i), vv_I (g_y G j - g_y G i), vv_I (nI P), vv_I (nI k), w8, w9, w10] [] (I, L, Rf, n) (q_i (s_bl G i j P m k acc) (I, L, Rf, n)) := by
  intro m
  induction m with
  | zero =>
    intro k acc w8 w9 w10 hk h1
    have h8 := gv_8 hG
    refine ri_7 oX1_firstBar_50 ?_
    refine ri_6 oX1_firstBar_52 ?_
    refine rr_icmp_ge (tgt := 168) oX1_firstBar_54 (by decide) (fun c => ?_) (fun c => ?_)
    rotate_left
    · exact absurd c (by rw [nI_le_iff (by omega) (by omega)]; omega)
    refine ri_3 oX1_firstBar_168 ?_
    exact rr_ireturn oX1_firstBar_169 rfl rfl ⟨rfl, rfl⟩
  | succ m ih =>
    intro k acc w8 w9 w10 hk h1
    have h8 := gv_8 hG
    refine ri_7 oX1_firstBar_50 ?_
    refine ri_6 oX1_firstBar_52 ?_
    refine rr_icmp_ge (tgt := 168) oX1_firstBar_54 (by decide) (fun c => ?_) (fun c => ?_)
    · (rw [nI_le_iff (by omega) (by omega)] at c; omega)
    refine ra_0 oX1_firstBar_57 ?_
    refine ra_0 oX1_firstBar_58 ?_
    refine rr_gr oX1_firstBar_59 (ff_X1_34 rfl) (gd_k hg) (gd_lt (j := 0) W hg rfl) ⟨by decide, rfl⟩ (gd_r W hg 7 2 rfl) ?_
    refine ri_1 oX1_firstBar_62 ?_
    refine rr_iv oX1_firstBar_63 (gd_a hg 2 rfl) (gd_lt (j := 2) W hg rfl) rfl (by omega) (by decide) (gv_x hG (by omega)) ?_
    refine ri_4 oX1_firstBar_64 ?_
    refine ri_6 oX1_firstBar_66 ?_
    refine rr_idiv oX1_firstBar_68 (nI_n0 (by omega) (by omega)) ?_
    refine ri_7 oX1_firstBar_69 ?_
    refine rr_imul oX1_firstBar_71 ?_
    refine rr_iadd oX1_firstBar_72 ?_
    refine ra_0 oX1_firstBar_73 ?_
    refine rr_gr oX1_firstBar_74 (ff_X1_37 rfl) (gd_k hg) (gd_lt (j := 0) W hg rfl) ⟨by decide, rfl⟩ (gd_r W hg 8 3 rfl) ?_
    refine ri_1 oX1_firstBar_77 ?_
    refine rr_iv oX1_firstBar_78 (gd_a hg 3 rfl) (gd_lt (j := 3) W hg rfl) rfl (by omega) (by decide) (gv_y hG (by omega)) ?_
    refine ri_5 oX1_firstBar_79 ?_
    refine ri_6 oX1_firstBar_81 ?_
    refine rr_idiv oX1_firstBar_83 (nI_n0 (by omega) (by omega)) ?_
    refine ri_7 oX1_firstBar_84 ?_
    refine rr_imul oX1_firstBar_86 ?_
    refine rr_iadd oX1_firstBar_87 ?_
    refine rr_cVi (c_X1_thingAt l W hg hG) oX1_firstBar_88 (cv_X1_97 rfl) (by decide) (gd_k hg) (by decide) hcn_1 (gd_lt (j := 0) W hg rfl) rfl rfl (Nat.le_of_ble_eq_true rfl) ?_
    generalize hst : s_at G (g_x G i + (g_x G j - g_x G i) / nI P * nI k) (g_y G i + (g_y G j - g_y G i) / nI P * nI k) = bb
    have hst2 : s_st G i j P k = bb := hst
    rcases bb with _ | t
    · refine si_8 oX1_firstBar_91 rfl rfl ?_
      refine ra_0 oX1_firstBar_93 ?_
      refine ri_1 oX1_firstBar_94 ?_
      refine rr_cVi (c_X1_eyesOf l W hg hG (by omega)) oX1_firstBar_95 (cv_X1_100 rfl) (by decide) (gd_k hg) (by decide) hcn_1 (gd_lt (j := 0) W hg rfl) rfl rfl (Nat.le_of_ble_eq_true rfl) ?_
      refine ri_6 oX1_firstBar_98 ?_
      refine ri_7 oX1_firstBar_100 ?_
      refine rr_isub oX1_firstBar_102 ?_
      refine rr_imul oX1_firstBar_103 ?_
      refine ra_0 oX1_firstBar_104 ?_
      refine rr_gr oX1_firstBar_105 (ff_X1_40 rfl) (gd_k hg) (gd_lt (j := 0) W hg rfl) ⟨by decide, rfl⟩ (gd_r W hg 9 4 rfl) ?_
      refine ri_2 oX1_firstBar_108 ?_
      refine rr_iv oX1_firstBar_109 (gd_a hg 4 rfl) (gd_lt (j := 4) W hg rfl) rfl (by omega) (by decide) (gv_h hG (by omega)) ?_
      refine ri_7 oX1_firstBar_110 ?_
      refine rr_imul oX1_firstBar_112 ?_
      refine rr_iadd oX1_firstBar_113 ?_
      refine si_9 oX1_firstBar_114 rfl rfl ?_
      refine ri_8 oX1_firstBar_116 ?_
      refine rk_m1 oX1_firstBar_118 ?_
      refine rr_icmp_eq (tgt := 140) oX1_firstBar_119 (by decide) (fun c1 => ?_) (fun c1 => ?_)
      rotate_left
      · exact absurd rfl c1
      refine rk_0 oX1_firstBar_140 ?_
      refine si_10 oX1_firstBar_141 rfl rfl ?_
      refine ri_10 oX1_firstBar_143 ?_
      refine rr_if_eq (tgt := 162) oX1_firstBar_145 (by decide) (fun _ => ?_) (fun q => absurd q (by decide))
      refine rn_7 oX1_firstBar_162 rfl rfl ?_
      refine rr_goto (tgt := 50) oX1_firstBar_165 (by decide) ?_
      simp only [s_bl, hst2]
      exact ih (k + 1) _ _ _ _ (by omega) (by omega)
    · refine si_8 oX1_firstBar_91 rfl rfl ?_
      have htn := s_at_lt hst
      simp only [oI]
      refine ra_0 oX1_firstBar_93 ?_
      refine ri_1 oX1_firstBar_94 ?_
      refine rr_cVi (c_X1_eyesOf l W hg hG (by omega)) oX1_firstBar_95 (cv_X1_100 rfl) (by decide) (gd_k hg) (by decide) hcn_1 (gd_lt (j := 0) W hg rfl) rfl rfl (Nat.le_of_ble_eq_true rfl) ?_
      refine ri_6 oX1_firstBar_98 ?_
      refine ri_7 oX1_firstBar_100 ?_
      refine rr_isub oX1_firstBar_102 ?_
      refine rr_imul oX1_firstBar_103 ?_
      refine ra_0 oX1_firstBar_104 ?_
      refine rr_gr oX1_firstBar_105 (ff_X1_40 rfl) (gd_k hg) (gd_lt (j := 0) W hg rfl) ⟨by decide, rfl⟩ (gd_r W hg 9 4 rfl) ?_
      refine ri_2 oX1_firstBar_108 ?_
      refine rr_iv oX1_firstBar_109 (gd_a hg 4 rfl) (gd_lt (j := 4) W hg rfl) rfl (by omega) (by decide) (gv_h hG (by omega)) ?_
      refine ri_7 oX1_firstBar_110 ?_
      refine rr_imul oX1_firstBar_112 ?_
      refine rr_iadd oX1_firstBar_113 ?_
      refine si_9 oX1_firstBar_114 rfl rfl ?_
      refine ri_8 oX1_firstBar_116 ?_
      refine rk_m1 oX1_firstBar_118 ?_
      refine rr_icmp_eq (tgt := 140) oX1_firstBar_119 (by decide) (fun c1 => ?_) (fun c1 => ?_)
      · exact absurd c1 (nI_nm1 (by omega))
      refine ra_0 oX1_firstBar_122 ?_
      refine ri_8 oX1_firstBar_123 ?_
      refine rr_cVi (c_X1_tallOf l W hg hG (by omega)) oX1_firstBar_125 (cv_X1_103 rfl) (by decide) (gd_k hg) (by decide) hcn_1 (gd_lt (j := 0) W hg rfl) rfl rfl (Nat.le_of_ble_eq_true rfl) ?_
      refine ri_6 oX1_firstBar_128 ?_
      refine rr_imul oX1_firstBar_130 ?_
      refine ri_9 oX1_firstBar_131 ?_
      refine rr_icmp_le (tgt := 140) oX1_firstBar_133 (by decide) (fun c3 => ?_) (fun c3 => ?_)
      · refine rk_0 oX1_firstBar_140 ?_
        refine si_10 oX1_firstBar_141 rfl rfl ?_
        refine ri_10 oX1_firstBar_143 ?_
        refine rr_if_eq (tgt := 162) oX1_firstBar_145 (by decide) (fun _ => ?_) (fun q => absurd q (by decide))
        refine rn_7 oX1_firstBar_162 rfl rfl ?_
        refine rr_goto (tgt := 50) oX1_firstBar_165 (by decide) ?_
        simp only [s_bl, hst2]
        rw [if_neg (fun q => Int32.not_le.mpr q c3)]
        exact ih (k + 1) _ _ _ _ (by omega) (by omega)
      · refine rk_1 oX1_firstBar_136 ?_
        refine rr_goto (tgt := 141) oX1_firstBar_137 (by decide) ?_
        refine si_10 oX1_firstBar_141 rfl rfl ?_
        refine ri_10 oX1_firstBar_143 ?_
        refine rr_if_eq (tgt := 162) oX1_firstBar_145 (by decide) (fun q => absurd q (by decide)) (fun _ => ?_)
        refine ri_3 oX1_firstBar_148 ?_
        refine rk_m1 oX1_firstBar_149 ?_
        refine rr_icmp_eq (tgt := 159) oX1_firstBar_150 (by decide) (fun c4 => ?_) (fun c4 => ?_)
        · refine ri_8 oX1_firstBar_159 ?_
          refine si_3 oX1_firstBar_161 rfl rfl ?_
          refine rn_7 oX1_firstBar_162 rfl rfl ?_
          refine rr_goto (tgt := 50) oX1_firstBar_165 (by decide) ?_
          simp only [s_bl, hst2]
          rw [if_pos (Int32.not_le.mp c3), s_nx, if_pos (Or.inl c4)]
          exact ih (k + 1) _ _ _ _ (by omega) (by omega)
        · refine ri_8 oX1_firstBar_153 ?_
          refine ri_3 oX1_firstBar_155 ?_
          refine rr_icmp_ge (tgt := 162) oX1_firstBar_156 (by decide) (fun c5 => ?_) (fun c5 => ?_)
          · refine rn_7 oX1_firstBar_162 rfl rfl ?_
            refine rr_goto (tgt := 50) oX1_firstBar_165 (by decide) ?_
            simp only [s_bl, hst2]
            rw [if_pos (Int32.not_le.mp c3), s_nx, if_neg (fun q => q.elim c4 (fun z => Int32.not_le.mpr z c5))]
            exact ih (k + 1) _ _ _ _ (by omega) (by omega)
          · refine ri_8 oX1_firstBar_159 ?_
            refine si_3 oX1_firstBar_161 rfl rfl ?_
            refine rn_7 oX1_firstBar_162 rfl rfl ?_
            refine rr_goto (tgt := 50) oX1_firstBar_165 (by decide) ?_
            simp only [s_bl, hst2]
            rw [if_pos (Int32.not_le.mp c3), s_nx, if_pos (Or.inr (Int32.not_le.mp c5))]
            exact ih (k + 1) _ _ _ _ (by omega) (by omega)
theorem c_X1_firstBar (l : Launch) {I : Nat → Nat → Int32} {L : Nat → Nat → Int64} {Rf : Nat → Nat → Option Nat} {n : Nat} {g : Nat} (W : wd_T Rf n) (hg : gd_T g) {G : gr_T} (hG : gv_T I g G) {i j : Nat} (hi : i < g_n G) (hj : j < g_n G) (hxi : xy_T G i) (hxj : xy_T G j)  : wm_C l mX1_firstBar 3 0 0 [vv_A (some g), vv_I (nI i), vv_I (nI j)] (I, L, Rf, n) (q_i (s_bar G i j) (I, L, Rf, n)) := by
  refine wm_of (by decide) (Nat.le_of_ble_eq_true rfl) rfl ?_
  have h8 := gv_8 hG
  obtain ⟨u, v, hu, hv, e1, e2⟩ := hxi
  obtain ⟨u2, v2, hu2, hv2, e3, e4⟩ := hxj
  obtain ⟨a, ea⟩ : ∃ a, a = (if u2 < u then u - u2 else u2 - u) := ⟨_, rfl⟩
  obtain ⟨b, eb⟩ : ∃ b, b = (if v2 < v then v - v2 else v2 - v) := ⟨_, rfl⟩
  have fa : s_abs (g_x G j - g_x G i) = nI a := by rw [e3, e1, ea]; exact ab_N u2 hu2 u hu
  have fb : s_abs (g_y G j - g_y G i) = nI b := by rw [e4, e2, eb]; exact ab_N v2 hv2 v hv
  have ha : a < 10 := by rw [ea]; split <;> omega
  have hb : b < 10 := by rw [eb]; split <;> omega
  have eP : s_gcd a b = s_P G i j := by rw [s_P, fa, fb, nI_clamp (by omega), nI_clamp (by omega)]
  have hP1 := s_gcd_1 a b
  have hP9 := s_gcd_9 a ha b hb
  rw [eP] at hP1 hP9
  refine rk_m1 oX1_firstBar_0 ?_
  refine si_3 oX1_firstBar_1 rfl rfl ?_
  refine ra_0 oX1_firstBar_2 ?_
  refine rr_gr oX1_firstBar_3 (ff_X1_34 rfl) (gd_k hg) (gd_lt (j := 0) W hg rfl) ⟨by decide, rfl⟩ (gd_r W hg 7 2 rfl) ?_
  refine ri_2 oX1_firstBar_6 ?_
  refine rr_iv oX1_firstBar_7 (gd_a hg 2 rfl) (gd_lt (j := 2) W hg rfl) rfl (by omega) (by decide) (gv_x hG (by omega)) ?_
  refine ra_0 oX1_firstBar_8 ?_
  refine rr_gr oX1_firstBar_9 (ff_X1_34 rfl) (gd_k hg) (gd_lt (j := 0) W hg rfl) ⟨by decide, rfl⟩ (gd_r W hg 7 2 rfl) ?_
  refine ri_1 oX1_firstBar_12 ?_
  refine rr_iv oX1_firstBar_13 (gd_a hg 2 rfl) (gd_lt (j := 2) W hg rfl) rfl (by omega) (by decide) (gv_x hG (by omega)) ?_
  refine rr_isub oX1_firstBar_14 ?_
  refine si_4 oX1_firstBar_15 rfl rfl ?_
  refine ra_0 oX1_firstBar_17 ?_
  refine rr_gr oX1_firstBar_18 (ff_X1_37 rfl) (gd_k hg) (gd_lt (j := 0) W hg rfl) ⟨by decide, rfl⟩ (gd_r W hg 8 3 rfl) ?_
  refine ri_2 oX1_firstBar_21 ?_
  refine rr_iv oX1_firstBar_22 (gd_a hg 3 rfl) (gd_lt (j := 3) W hg rfl) rfl (by omega) (by decide) (gv_y hG (by omega)) ?_
  refine ra_0 oX1_firstBar_23 ?_
  refine rr_gr oX1_firstBar_24 (ff_X1_37 rfl) (gd_k hg) (gd_lt (j := 0) W hg rfl) ⟨by decide, rfl⟩ (gd_r W hg 8 3 rfl) ?_
  refine ri_1 oX1_firstBar_27 ?_
  refine rr_iv oX1_firstBar_28 (gd_a hg 3 rfl) (gd_lt (j := 3) W hg rfl) rfl (by omega) (by decide) (gv_y hG (by omega)) ?_
  refine rr_isub oX1_firstBar_29 ?_
  refine si_5 oX1_firstBar_30 rfl rfl ?_
  refine ri_4 oX1_firstBar_32 ?_
  refine rr_abs oX1_firstBar_34 gm_X1_69 (by decide) (Nat.le_of_ble_eq_true rfl) ?_
  rw [fa]
  refine ri_5 oX1_firstBar_37 ?_
  refine rr_abs oX1_firstBar_39 gm_X1_69 (by decide) (Nat.le_of_ble_eq_true rfl) ?_
  rw [fb]
  refine rr_cSi (c_X1_greatestDivisor l ha hb) oX1_firstBar_42 (cs_X1_94 rfl) (by decide) rfl rfl (Nat.le_of_ble_eq_true rfl) ?_
  rw [eP]
  refine si_6 oX1_firstBar_45 rfl rfl ?_
  refine rk_1 oX1_firstBar_47 ?_
  refine si_7 oX1_firstBar_48 rfl rfl ?_
  exact lp_X1_firstBar l W hg hG hi hj ⟨hP1, hP9⟩ (s_P G i j - 1) 1 (-1) _ _ _ (by omega) (by omega)
theorem c_X1_looksInto (l : Launch) {I : Nat → Nat → Int32} {L : Nat → Nat → Int64} {Rf : Nat → Nat → Option Nat} {n : Nat} {g : Nat} (W : wd_T Rf n) (hg : gd_T g) {G : gr_T} (hG : gv_T I g G) {i j : Nat} (hi : i < g_n G) (hj : j < g_n G) (hxi : is_H (g_k G i) → xy_T G i) (hxj : xy_T G j)  : wm_C l mX1_looksInto 4 0 0 [vv_A (some g), vv_I (nI i), vv_I (nI j)] (I, L, Rf, n) (q_i (bI (is_H (g_k G i) ∧ b_look G i j = true)) (I, L, Rf, n)) := by
  refine wm_of (by decide) (Nat.le_of_ble_eq_true rfl) rfl ?_
  have h8 := gv_8 hG
  refine ra_0 oX1_looksInto_0 ?_
  refine rr_gr oX1_looksInto_1 (ff_X1_30 rfl) (gd_k hg) (gd_lt (j := 0) W hg rfl) ⟨by decide, rfl⟩ (gd_r W hg 6 1 rfl) ?_
  refine ri_1 oX1_looksInto_4 ?_
  refine rr_iv oX1_looksInto_5 (gd_a hg 1 rfl) (gd_lt (j := 1) W hg rfl) rfl (by omega) (by decide) (gv_k hG (by omega)) ?_
  refine rr_cSNi (c_X4_isHouseKind l) oX1_looksInto_6 (cn_X1_62 rfl) (by decide) rfl rfl (Nat.le_of_ble_eq_true rfl) ?_
  refine rr_ifb_eq (tgt := 26) oX1_looksInto_9 (by decide) (fun c => ?_) (fun c => ?_)
  · refine rk_0 oX1_looksInto_26 ?_
    refine si_3 oX1_looksInto_27 rfl rfl ?_
    refine ri_3 oX1_looksInto_28 ?_
    refine rr_if_eq (tgt := 59) oX1_looksInto_29 (by decide) (fun _ => ?_) (fun q => absurd q (by decide))
    refine rk_0 oX1_looksInto_59 ?_
    exact rr_ireturn oX1_looksInto_60 rfl rfl (q_f (by simp only [b_look_iff, s_look]; grind))
  · refine ra_0 oX1_looksInto_12 ?_
    refine rr_gr oX1_looksInto_13 (ff_X1_30 rfl) (gd_k hg) (gd_lt (j := 0) W hg rfl) ⟨by decide, rfl⟩ (gd_r W hg 6 1 rfl) ?_
    refine ri_1 oX1_looksInto_16 ?_
    refine rr_iv oX1_looksInto_17 (gd_a hg 1 rfl) (gd_lt (j := 1) W hg rfl) rfl (by omega) (by decide) (gv_k hG (by omega)) ?_
    refine rk_5 oX1_looksInto_18 ?_
    refine rr_icmp_eq (tgt := 26) oX1_looksInto_19 (by decide) (fun c1 => ?_) (fun c1 => ?_)
    · refine rk_0 oX1_looksInto_26 ?_
      refine si_3 oX1_looksInto_27 rfl rfl ?_
      refine ri_3 oX1_looksInto_28 ?_
      refine rr_if_eq (tgt := 59) oX1_looksInto_29 (by decide) (fun _ => ?_) (fun q => absurd q (by decide))
      refine rk_0 oX1_looksInto_59 ?_
      exact rr_ireturn oX1_looksInto_60 rfl rfl (q_f (by simp only [b_look_iff, s_look]; grind))
    · refine rk_1 oX1_looksInto_22 ?_
      refine rr_goto (tgt := 27) oX1_looksInto_23 (by decide) ?_
      refine si_3 oX1_looksInto_27 rfl rfl ?_
      refine ri_3 oX1_looksInto_28 ?_
      refine rr_if_eq (tgt := 59) oX1_looksInto_29 (by decide) (fun q => absurd q (by decide)) (fun _ => ?_)
      refine ra_0 oX1_looksInto_32 ?_
      refine ri_1 oX1_looksInto_33 ?_
      refine ri_2 oX1_looksInto_34 ?_
      refine rr_cVi (c_X1_distanceOf l W hg hG (by omega) (by omega)) oX1_looksInto_35 (cv_X1_88 rfl) (by decide) (gd_k hg) (by decide) hcn_1 (gd_lt (j := 0) W hg rfl) rfl rfl (Nat.le_of_ble_eq_true rfl) ?_
      refine ra_0 oX1_looksInto_38 ?_
      refine rr_giv oX1_looksInto_39 (ff_X1_18 rfl) (gd_k hg) (gd_lt (j := 0) W hg rfl) ⟨by decide, rfl⟩ (gv_f hG) ?_
      refine rr_icmp_gt (tgt := 59) oX1_looksInto_42 (by decide) (fun c2 => ?_) (fun c2 => ?_)
      · refine rk_0 oX1_looksInto_59 ?_
        exact rr_ireturn oX1_looksInto_60 rfl rfl (q_f (by simp only [b_look_iff, s_look]; grind))
      · refine ra_0 oX1_looksInto_45 ?_
        refine ri_1 oX1_looksInto_46 ?_
        refine ri_2 oX1_looksInto_47 ?_
        refine rr_cVi (c_X1_firstBar l W hg hG hi hj (hxi c) hxj) oX1_looksInto_48 (cv_X1_91 rfl) (by decide) (gd_k hg) (by decide) hcn_1 (gd_lt (j := 0) W hg rfl) rfl rfl (Nat.le_of_ble_eq_true rfl) ?_
        refine rk_m1 oX1_looksInto_51 ?_
        refine rr_icmp_ne (tgt := 59) oX1_looksInto_52 (by decide) (fun c3 => ?_) (fun c3 => ?_)
        · refine rk_0 oX1_looksInto_59 ?_
          exact rr_ireturn oX1_looksInto_60 rfl rfl (q_f (by simp only [b_look_iff, s_look]; grind))
        · refine rk_1 oX1_looksInto_55 ?_
          refine rr_goto (tgt := 60) oX1_looksInto_56 (by decide) ?_
          exact rr_ireturn oX1_looksInto_60 rfl rfl (q_t (by simp only [b_look_iff, s_look]; grind))
theorem lp_X1_lookersInto (l : Launch) {I : Nat → Nat → Int32} {L : Nat → Nat → Int64} {Rf : Nat → Nat → Option Nat} {n : Nat} {g : Nat} (W : wd_T Rf n) (hg : gd_T g) {G : gr_T} (hG : gv_T I g G) {j : Nat} (hj : j < g_n G) (hx : hxy_T G) (hjh : is_H (g_k G j)) : ∀ m t acc, t + m = g_n G → wm_W l mX1_lookersInto 5 0 0 4 [vv_A (some g), vv_I (nI j), vv_I acc, vv_I (nI t)] [] (I, L, Rf, n) (q_i (bs_N (fun i => !(i == j) && decide (is_H (g_k G i)) && b_look G i j) m t acc) (I, L, Rf, n)) := by
  intro m
  induction m with
  | zero =>
    intro t acc ht
    have h8 := gv_8 hG
    refine ri_3 oX1_lookersInto_4 ?_
    refine ra_0 oX1_lookersInto_5 ?_
    refine rr_giv oX1_lookersInto_6 (ff_X1_9 rfl) (gd_k hg) (gd_lt (j := 0) W hg rfl) ⟨by decide, rfl⟩ (gv_c hG) ?_
    refine rr_icmp_ge (tgt := 39) oX1_lookersInto_9 (by decide) (fun c => ?_) (fun c => ?_)
    rotate_left
    · exact absurd c (by rw [nI_le_iff (by omega) (by omega)]; omega)
    refine ri_2 oX1_lookersInto_39 ?_
    exact rr_ireturn oX1_lookersInto_40 rfl rfl ⟨rfl, rfl⟩
  | succ m ih =>
    intro t acc ht
    have h8 := gv_8 hG
    refine ri_3 oX1_lookersInto_4 ?_
    refine ra_0 oX1_lookersInto_5 ?_
    refine rr_giv oX1_lookersInto_6 (ff_X1_9 rfl) (gd_k hg) (gd_lt (j := 0) W hg rfl) ⟨by decide, rfl⟩ (gv_c hG) ?_
    refine rr_icmp_ge (tgt := 39) oX1_lookersInto_9 (by decide) (fun c => ?_) (fun c => ?_)
    · (rw [nI_le_iff (by omega) (by omega)] at c; omega)
    refine ri_3 oX1_lookersInto_12 ?_
    refine ri_1 oX1_lookersInto_13 ?_
    refine rr_icmp_eq (tgt := 33) oX1_lookersInto_14 (by decide) (fun c1 => ?_) (fun c1 => ?_)
    · refine rn_3 oX1_lookersInto_33 rfl rfl ?_
      refine rr_goto (tgt := 4) oX1_lookersInto_36 (by decide) ?_
      have h3 := ih (t + 1) acc (by omega)
      simp only [bs_N]
      rw [if_neg (by rw [nI_inj (by omega) (by omega)] at c1; simp [c1])]
      exact h3
    · refine ra_0 oX1_lookersInto_17 ?_
      refine ri_3 oX1_lookersInto_18 ?_
      refine ri_1 oX1_lookersInto_19 ?_
      refine rr_cVi (c_X1_looksInto l W hg hG (by omega) hj (hx t (by omega)) (hx j hj hjh)) oX1_lookersInto_20 (cv_X1_84 rfl) (by decide) (gd_k hg) (by decide) hcn_1 (gd_lt (j := 0) W hg rfl) rfl rfl (Nat.le_of_ble_eq_true rfl) ?_
      refine rr_ifb_eq (tgt := 33) oX1_lookersInto_23 (by decide) (fun c2 => ?_) (fun c2 => ?_)
      · refine rn_3 oX1_lookersInto_33 rfl rfl ?_
        refine rr_goto (tgt := 4) oX1_lookersInto_36 (by decide) ?_
        have h3 := ih (t + 1) acc (by omega)
        simp only [bs_N]
        rw [if_neg (by simp only [Bool.and_eq_true, decide_eq_true_eq]; grind)]
        exact h3
      · refine ri_2 oX1_lookersInto_26 ?_
        refine ri_3 oX1_lookersInto_27 ?_
        refine rr_cSNi (c_X4_bit l) oX1_lookersInto_28 (cn_X1_65 rfl) (by decide) rfl rfl (Nat.le_of_ble_eq_true rfl) ?_
        refine rr_ior oX1_lookersInto_31 ?_
        refine si_2 oX1_lookersInto_32 rfl rfl ?_
        refine rn_3 oX1_lookersInto_33 rfl rfl ?_
        refine rr_goto (tgt := 4) oX1_lookersInto_36 (by decide) ?_
        have h3 := ih (t + 1) (acc ||| ((1 : Int32) <<< (nI t &&& 31))) (by omega)
        simp only [bs_N]
        rw [if_pos (by rw [nI_inj (by omega) (by omega)] at c1; simp only [Bool.and_eq_true, decide_eq_true_eq, Bool.not_eq_true', beq_eq_false_iff_ne]; exact ⟨⟨c1, c2.1⟩, c2.2⟩)]
        exact h3
theorem c_X1_lookersInto (l : Launch) {I : Nat → Nat → Int32} {L : Nat → Nat → Int64} {Rf : Nat → Nat → Option Nat} {n : Nat} {g : Nat} (W : wd_T Rf n) (hg : gd_T g) {G : gr_T} (hG : gv_T I g G) {j : Nat} (hj : j < g_n G) (hx : hxy_T G) (hjh : is_H (g_k G j))  : wm_C l mX1_lookersInto 5 0 0 [vv_A (some g), vv_I (nI j)] (I, L, Rf, n) (q_i (s_lks G j) (I, L, Rf, n)) := by
  refine wm_of (by decide) (Nat.le_of_ble_eq_true rfl) rfl ?_
  have h8 := gv_8 hG
  refine rk_0 oX1_lookersInto_0 ?_
  refine si_2 oX1_lookersInto_1 rfl rfl ?_
  refine rk_0 oX1_lookersInto_2 ?_
  refine si_3 oX1_lookersInto_3 rfl rfl ?_
  exact lp_X1_lookersInto l W hg hG hj hx hjh (g_n G) 0 0 (Nat.zero_add _)
/-- behind lookAround: those who look into each, and all else as it was -/
def la_T (I J : Nat → Nat → Int32) (g : Nat) (G : gr_T) : Prop := (∀ j, j < 8 → J (g + 7) j = s_lk G j) ∧ ∀ a, a ≠ g + 7 → J a = I a
theorem la_gv {I J : Nat → Nat → Int32} {g : Nat} {G : gr_T} (h : la_T I J g G) (hG : gv_T I g G) : gv_T J g G := gv_keep hG (by rw [h.2 g (by omega)]) (by rw [h.2 g (by omega)]) (by rw [h.2 g (by omega)]) (fun j h1 h2 => h.2 _ (by omega))
theorem lp_X1_lookAround (l : Launch) {I0 : Nat → Nat → Int32} {L : Nat → Nat → Int64} {Rf : Nat → Nat → Option Nat} {n : Nat} {g : Nat} (W : wd_T Rf n) (hg : gd_T g) {G : gr_T} (hx : hxy_T G) : ∀ m (I : Nat → Nat → Int32) t, t + m = 8 → gv_T I g G → (∀ j, j < t → I (g + 7) j = s_lk G j) → (∀ a, a ≠ g + 7 → I a = I0 a) → wm_W l mX1_lookAround 6 0 0 2 [vv_A (some g), vv_I (nI t)] [] (I, L, Rf, n) (q_m (fun J => la_T I0 J g G) L Rf n) := by
  intro m
  induction m with
  | zero =>
    intro I t ht hG h1 h2
    have h8 := gv_8 hG
    refine ri_1 oX1_lookAround_2 ?_
    refine rr_bipush (v := 8) oX1_lookAround_3 (by decide) ?_
    refine rr_icmp_ge (tgt := 37) oX1_lookAround_5 (by decide) (fun c => ?_) (fun c => ?_)
    rotate_left
    · exact absurd c (by rw [show (8 : Int32) = nI 8 from rfl, nI_le_iff (by omega) (by omega)]; omega)
    exact rr_return oX1_lookAround_37 rfl (q_m_of ⟨fun j hj => h1 j (by omega), h2⟩)
  | succ m ih =>
    intro I t ht hG h1 h2
    have h8 := gv_8 hG
    refine ri_1 oX1_lookAround_2 ?_
    refine rr_bipush (v := 8) oX1_lookAround_3 (by decide) ?_
    refine rr_icmp_ge (tgt := 37) oX1_lookAround_5 (by decide) (fun c => ?_) (fun c => ?_)
    · (rw [show (8 : Int32) = nI 8 from rfl, nI_le_iff (by omega) (by omega)] at c; omega)
    refine ra_0 oX1_lookAround_8 ?_
    refine rr_gr oX1_lookAround_9 (ff_X1_49 rfl) (gd_k hg) (gd_lt (j := 0) W hg rfl) ⟨by decide, rfl⟩ (gd_r W hg 12 7 rfl) ?_
    refine ri_1 oX1_lookAround_12 ?_
    refine ra_0 oX1_lookAround_13 ?_
    refine ri_1 oX1_lookAround_14 ?_
    refine rr_cVi (c_X1_isHouse l W hg hG) oX1_lookAround_15 (cv_X1_78 rfl) (by decide) (gd_k hg) (by decide) hcn_1 (gd_lt (j := 0) W hg rfl) rfl rfl (Nat.le_of_ble_eq_true rfl) ?_
    refine rr_ifb_eq (tgt := 29) oX1_lookAround_18 (by decide) (fun c1 => ?_) (fun c1 => ?_)
    · have e : s_lk G t = 0 := by
        rw [s_lk, if_neg]
        rintro ⟨q1, q2⟩
        exact c1 ⟨⟨by rw [show (0 : Int32) = nI 0 from rfl, nI_le_iff (by omega) (by omega)]; omega, by rw [nI_lt_iff (by omega) (by omega)]; exact q1⟩, by rw [nI_clamp (by omega)]; exact q2⟩
      refine rk_0 oX1_lookAround_29 ?_
      rw [← e]
      refine rr_ist oX1_lookAround_30 (gd_a hg 7 rfl) (gd_lt (j := 7) W hg rfl) rfl (by omega) (by decide) ?_
      refine rn_1 oX1_lookAround_31 rfl rfl ?_
      refine rr_goto (tgt := 2) oX1_lookAround_34 (by decide) ?_
      refine ih _ (t + 1) (by omega) (gv_keep hG ?_ ?_ ?_ ?_) ?_ ?_
      · rw [up_I_ne (by omega)]
      · rw [up_I_ne (by omega)]
      · rw [up_I_ne (by omega)]
      · intro j g1 g2; exact up_I_ne (by omega)
      · intro j hj
        rw [up_I_eq]
        by_cases q : j = t
        · subst q; exact if_pos rfl
        · exact (if_neg q).trans (h1 j (by omega))
      · intro a ha; rw [up_I_ne ha]; exact h2 a ha
    · obtain ⟨⟨c2, c3⟩, c4⟩ := c1
      rw [nI_lt_iff (by omega) (by omega)] at c3
      rw [nI_clamp (by omega)] at c4
      have e : s_lk G t = s_lks G t := by rw [s_lk, if_pos ⟨c3, c4⟩]
      refine ra_0 oX1_lookAround_21 ?_
      refine ri_1 oX1_lookAround_22 ?_
      refine rr_cVi (c_X1_lookersInto l W hg hG c3 hx c4) oX1_lookAround_23 (cv_X1_81 rfl) (by decide) (gd_k hg) (by decide) hcn_1 (gd_lt (j := 0) W hg rfl) rfl rfl (Nat.le_of_ble_eq_true rfl) ?_
      refine rr_goto (tgt := 30) oX1_lookAround_26 (by decide) ?_
      rw [← e]
      refine rr_ist oX1_lookAround_30 (gd_a hg 7 rfl) (gd_lt (j := 7) W hg rfl) rfl (by omega) (by decide) ?_
      refine rn_1 oX1_lookAround_31 rfl rfl ?_
      refine rr_goto (tgt := 2) oX1_lookAround_34 (by decide) ?_
      refine ih _ (t + 1) (by omega) (gv_keep hG ?_ ?_ ?_ ?_) ?_ ?_
      · rw [up_I_ne (by omega)]
      · rw [up_I_ne (by omega)]
      · rw [up_I_ne (by omega)]
      · intro j g1 g2; exact up_I_ne (by omega)
      · intro j hj
        rw [up_I_eq]
        by_cases q : j = t
        · subst q; exact if_pos rfl
        · exact (if_neg q).trans (h1 j (by omega))
      · intro a ha; rw [up_I_ne ha]; exact h2 a ha
theorem c_X1_lookAround (l : Launch) {I : Nat → Nat → Int32} {L : Nat → Nat → Int64} {Rf : Nat → Nat → Option Nat} {n : Nat} {g : Nat} (W : wd_T Rf n) (hg : gd_T g) {G : gr_T} (hG : gv_T I g G) (hx : hxy_T G)  : wm_C l mX1_lookAround 6 0 0 [vv_A (some g)] (I, L, Rf, n) (q_m (fun J => la_T I J g G) L Rf n) := by
  refine wm_of (by decide) (Nat.le_of_ble_eq_true rfl) rfl ?_
  have h8 := gv_8 hG
  refine rk_0 oX1_lookAround_0 ?_
  refine si_1 oX1_lookAround_1 rfl rfl ?_
  exact lp_X1_lookAround l W hg hx 8 I 0 (by omega) hG (fun j hj => absurd hj (by omega)) (fun _ _ => rfl)
