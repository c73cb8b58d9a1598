/-! the model: who sees whom (by program: wip/whole/c36.py) -/
def mk_T (G : gr_T) : Prop := ∀ t, t < g_n G → 0 ≤ g_k G t ∧ g_k G t ≤ 6
def mq_T (I : Nat → Nat → Int32) (G : gr_T) (dr : Nat → Bool) (sh : Nat → Nat → Bool) : Prop := mv_T I G ∧ (∀ t, t < 8 → I 53 t = if dr t = true then 1 else 0) ∧ (∀ i, i < 8 → I 54 i = st_S (fun j => sh j i)) ∧ mk_T G ∧ hr_T G
theorem kd_H {k : Int32} (h : 0 ≤ k ∧ k ≤ 6) : is_H k ↔ ¬ k = 0 ∧ ¬ k = 2 ∧ ¬ k = 6 := by
  have h1 := Int32.le_iff_toInt_le.mp h.1
  have h2 := Int32.le_iff_toInt_le.mp h.2
  rw [show (0 : Int32).toInt = 0 by decide] at h1
  rw [show (6 : Int32).toInt = 6 by decide] at h2
  obtain ⟨n, hn, rfl⟩ : ∃ n, n < 7 ∧ k = nI n := ⟨k.toInt.toNat, by omega, Int32.toInt_inj.mp (by rw [nI_toInt (by omega)]; omega)⟩
  have e : ∀ n, n < 7 → (is_H (nI n) ↔ ¬ nI n = 0 ∧ ¬ nI n = 2 ∧ ¬ nI n = 6) := by decide +kernel
  exact e n hn
theorem mv_k6 {G : gr_T} (h : mk_T G) {t : Nat} (ht : t < g_n G) : is_H (g_k G t) ↔ ¬ g_k G t = 0 ∧ ¬ g_k G t = 2 ∧ ¬ g_k G t = 6 := kd_H (h t ht)
theorem ab_neg {x : Int32} (h : ¬ 0 ≤ x) : -x = s_abs x := by rw [s_abs, if_neg h, Int32.zero_sub]
theorem mxg_1 {x y : Int32} (h : x ≤ y) : y = s_max x y := by
  rw [s_max]
  split
  · rfl
  · next q => exact Int32.le_antisymm (Int32.not_lt.mp q) h
theorem mxg_2 {x y : Int32} (h : ¬ x ≤ y) : x = s_max x y := by
  rw [s_max, if_neg (fun q => h (Int32.le_of_lt q))]
theorem gcd_st {a b : Nat} (h : 0 < b) : Nat.gcd b (a % b) = Nat.gcd a b := by rw [Nat.gcd_comm a b, Nat.gcd_rec b a, Nat.gcd_comm]
theorem c_X5_isThing (l : Launch) {I : Nat → Nat → Int32} {L : Nat → Nat → Int64} {Rf : Nat → Nat → Option Nat} {n : Nat} {G : gr_T} {dr : Nat → Bool} {sh : Nat → Nat → Bool} (W : wd_T Rf n) (hQ : mq_T I G dr sh) {x : Int32} : wm_C l mX5_isThing 1 0 0 [vv_A (some 46), vv_I x] (I, L, Rf, n) (q_i (bI (0 ≤ x ∧ x < nI (g_n G))) (I, L, Rf, n)) := by
  refine wm_of (by decide) (Nat.le_of_ble_eq_true rfl) rfl ?_
  have hG := hQ.1
  have h8 := mv_8 hG
  have hk := hQ.2.2.2.1
  have hr := hQ.2.2.2.2
  refine ri_1 oX5_isThing_0 ?_
  refine rr_if_lt (tgt := 16) oX5_isThing_1 (by decide) (fun c1 => ?_) (fun c1 => ?_)
  · refine rk_0 oX5_isThing_16 ?_
    exact rr_ireturn oX5_isThing_17 rfl rfl (q_f (by grind))
  · refine ri_1 oX5_isThing_4 ?_
    refine ra_0 oX5_isThing_5 ?_
    refine rr_giv oX5_isThing_6 (ff_X5_84 rfl) kk_46 (wd_lt W rfl) ⟨by decide, rfl⟩ (mv_c hG) ?_
    refine rr_icmp_ge (tgt := 16) oX5_isThing_9 (by decide) (fun c9 => ?_) (fun c9 => ?_)
    · refine rk_0 oX5_isThing_16 ?_
      exact rr_ireturn oX5_isThing_17 rfl rfl (q_f (by grind))
    · refine rk_1 oX5_isThing_12 ?_
      refine rr_goto (tgt := 17) oX5_isThing_13 (by decide) ?_
      exact rr_ireturn oX5_isThing_17 rfl rfl (q_t (by grind))
theorem c_X5_isHouse (l : Launch) {I : Nat → Nat → Int32} {L : Nat → Nat → Int64} {Rf : Nat → Nat → Option Nat} {n : Nat} {G : gr_T} {dr : Nat → Bool} {sh : Nat → Nat → Bool} (W : wd_T Rf n) (hQ : mq_T I G dr sh) {t : Nat} (ht : t < g_n G) : wm_C l mX5_isHouse 1 0 0 [vv_A (some 46), vv_I (nI t)] (I, L, Rf, n) (q_i (bI (is_H (g_k G t))) (I, L, Rf, n)) := by
  refine wm_of (by decide) (Nat.le_of_ble_eq_true rfl) rfl ?_
  have hG := hQ.1
  have h8 := mv_8 hG
  have hk := hQ.2.2.2.1
  have hr := hQ.2.2.2.2
  rw [bI_c (mv_k6 hk ht)]
  refine ra_0 oX5_isHouse_0 ?_
  refine rr_gr (v := 48) oX5_isHouse_1 (ff_X5_26 rfl) kk_46 (wd_lt W rfl) ⟨by decide, rfl⟩ (wd_r W rfl rfl) ?_
  refine ri_1 oX5_isHouse_4 ?_
  refine rr_iv oX5_isHouse_5 kk_48 (wd_lt W rfl) rfl (by omega) (by decide) (mv_k hG (by omega)) ?_
  refine rr_if_eq (tgt := 34) oX5_isHouse_6 (by decide) (fun c6 => ?_) (fun c6 => ?_)
  · refine rk_0 oX5_isHouse_34 ?_
    exact rr_ireturn oX5_isHouse_35 rfl rfl (q_f (by grind))
  · refine ra_0 oX5_isHouse_9 ?_
    refine rr_gr (v := 48) oX5_isHouse_10 (ff_X5_26 rfl) kk_46 (wd_lt W rfl) ⟨by decide, rfl⟩ (wd_r W rfl rfl) ?_
    refine ri_1 oX5_isHouse_13 ?_
    refine rr_iv oX5_isHouse_14 kk_48 (wd_lt W rfl) rfl (by omega) (by decide) (mv_k hG (by omega)) ?_
    refine rk_2 oX5_isHouse_15 ?_
    refine rr_icmp_eq (tgt := 34) oX5_isHouse_16 (by decide) (fun c16 => ?_) (fun c16 => ?_)
    · refine rk_0 oX5_isHouse_34 ?_
      exact rr_ireturn oX5_isHouse_35 rfl rfl (q_f (by grind))
    · refine ra_0 oX5_isHouse_19 ?_
      refine rr_gr (v := 48) oX5_isHouse_20 (ff_X5_26 rfl) kk_46 (wd_lt W rfl) ⟨by decide, rfl⟩ (wd_r W rfl rfl) ?_
      refine ri_1 oX5_isHouse_23 ?_
      refine rr_iv oX5_isHouse_24 kk_48 (wd_lt W rfl) rfl (by omega) (by decide) (mv_k hG (by omega)) ?_
      refine rr_bipush (v := 6) oX5_isHouse_25 (by decide) ?_
      refine rr_icmp_eq (tgt := 34) oX5_isHouse_27 (by decide) (fun c27 => ?_) (fun c27 => ?_)
      · refine rk_0 oX5_isHouse_34 ?_
        exact rr_ireturn oX5_isHouse_35 rfl rfl (q_f (by grind))
      · refine rk_1 oX5_isHouse_30 ?_
        refine rr_goto (tgt := 35) oX5_isHouse_31 (by decide) ?_
        exact rr_ireturn oX5_isHouse_35 rfl rfl (q_t (by grind))
theorem c_X5_isShelf (l : Launch) {I : Nat → Nat → Int32} {L : Nat → Nat → Int64} {Rf : Nat → Nat → Option Nat} {n : Nat} {G : gr_T} {dr : Nat → Bool} {sh : Nat → Nat → Bool} (W : wd_T Rf n) (hQ : mq_T I G dr sh) {x : Int32} : wm_C l mX5_isShelf 1 0 0 [vv_A (some 46), vv_I x] (I, L, Rf, n) (q_i (bI (0 ≤ x ∧ x < 8)) (I, L, Rf, n)) := by
  refine wm_of (by decide) (Nat.le_of_ble_eq_true rfl) rfl ?_
  have hG := hQ.1
  have h8 := mv_8 hG
  have hk := hQ.2.2.2.1
  have hr := hQ.2.2.2.2
  refine ri_1 oX5_isShelf_0 ?_
  refine rr_if_lt (tgt := 14) oX5_isShelf_1 (by decide) (fun c1 => ?_) (fun c1 => ?_)
  · refine rk_0 oX5_isShelf_14 ?_
    exact rr_ireturn oX5_isShelf_15 rfl rfl (q_f (by grind))
  · refine ri_1 oX5_isShelf_4 ?_
    refine rr_bipush (v := 8) oX5_isShelf_5 (by decide) ?_
    refine rr_icmp_ge (tgt := 14) oX5_isShelf_7 (by decide) (fun c7 => ?_) (fun c7 => ?_)
    · refine rk_0 oX5_isShelf_14 ?_
      exact rr_ireturn oX5_isShelf_15 rfl rfl (q_f (by grind))
    · refine rk_1 oX5_isShelf_10 ?_
      refine rr_goto (tgt := 15) oX5_isShelf_11 (by decide) ?_
      exact rr_ireturn oX5_isShelf_15 rfl rfl (q_t (by grind))
theorem lp_X5_at (l : Launch) {I : Nat → Nat → Int32} {L : Nat → Nat → Int64} {Rf : Nat → Nat → Option Nat} {n : Nat} {G : gr_T} {dr : Nat → Bool} {sh : Nat → Nat → Bool} (W : wd_T Rf n) (hQ : mq_T I G dr sh) {x y : Int32} : ∀ m t, t + m = g_n G → wm_W l mX5_at 2 0 0 2 [vv_A (some 46), vv_I x, vv_I y, vv_I (nI t)] [] (I, L, Rf, n) (q_i (oI (fo_N (fun t => g_x G t == x && g_y G t == y) m t)) (I, L, Rf, n)) := by
  intro m
  induction m with
  | zero =>
    intro t ht
    have hG := hQ.1
    have h8 := mv_8 hG
    have hk := hQ.2.2.2.1
    have hr := hQ.2.2.2.2
    refine ri_3 oX5_at_2 ?_
    refine ra_0 oX5_at_3 ?_
    refine rr_giv oX5_at_4 (ff_X5_84 rfl) kk_46 (wd_lt W rfl) ⟨by decide, rfl⟩ (mv_c hG) ?_
    refine rr_icmp_ge (tgt := 38) oX5_at_7 (by decide) (fun c => ?_) (fun c => ?_)
    rotate_left
    · exact absurd c (by rw [nI_le_iff (by omega) (by omega)]; omega)
    refine rk_m1 oX5_at_38 ?_
    exact rr_ireturn oX5_at_39 rfl rfl ⟨rfl, rfl⟩
  | succ m ih =>
    intro t ht
    have hG := hQ.1
    have h8 := mv_8 hG
    have hk := hQ.2.2.2.1
    have hr := hQ.2.2.2.2
    refine ri_3 oX5_at_2 ?_
    refine ra_0 oX5_at_3 ?_
    refine rr_giv oX5_at_4 (ff_X5_84 rfl) kk_46 (wd_lt W rfl) ⟨by decide, rfl⟩ (mv_c hG) ?_
    refine rr_icmp_ge (tgt := 38) oX5_at_7 (by decide) (fun c => ?_) (fun c => ?_)
    · (rw [nI_le_iff (by omega) (by omega)] at c; omega)
    refine ra_0 oX5_at_10 ?_
    refine rr_gr (v := 49) oX5_at_11 (ff_X5_29 rfl) kk_46 (wd_lt W rfl) ⟨by decide, rfl⟩ (wd_r W rfl rfl) ?_
    refine ri_3 oX5_at_14 ?_
    refine rr_iv oX5_at_15 kk_49 (wd_lt W rfl) rfl (by omega) (by decide) (mv_x hG (by omega)) ?_
    refine ri_1 oX5_at_16 ?_
    refine rr_icmp_ne (tgt := 32) oX5_at_17 (by decide) (fun c1 => ?_) (fun c1 => ?_)
    · refine rn_3 oX5_at_32 rfl rfl ?_
      refine rr_goto (tgt := 2) oX5_at_35 (by decide) ?_
      have h3 := ih (t + 1) (by omega)
      simp only [fo_N]
      rw [if_neg (by simp only [beq_iff_eq, Bool.and_eq_true]; grind)]
      exact h3
    · refine ra_0 oX5_at_20 ?_
      refine rr_gr (v := 50) oX5_at_21 (ff_X5_32 rfl) kk_46 (wd_lt W rfl) ⟨by decide, rfl⟩ (wd_r W rfl rfl) ?_
      refine ri_3 oX5_at_24 ?_
      refine rr_iv oX5_at_25 kk_50 (wd_lt W rfl) rfl (by omega) (by decide) (mv_y hG (by omega)) ?_
      refine ri_2 oX5_at_26 ?_
      refine rr_icmp_ne (tgt := 32) oX5_at_27 (by decide) (fun c2 => ?_) (fun c2 => ?_)
      · refine rn_3 oX5_at_32 rfl rfl ?_
        refine rr_goto (tgt := 2) oX5_at_35 (by decide) ?_
        have h3 := ih (t + 1) (by omega)
        simp only [fo_N]
        rw [if_neg (by simp only [beq_iff_eq, Bool.and_eq_true]; grind)]
        exact h3
      · refine ri_3 oX5_at_30 ?_
        exact rr_ireturn oX5_at_31 rfl rfl (q_is (by simp only [fo_N]; rw [if_pos (by simp only [beq_iff_eq, Bool.and_eq_true]; grind)]; rfl))
theorem c_X5_at (l : Launch) {I : Nat → Nat → Int32} {L : Nat → Nat → Int64} {Rf : Nat → Nat → Option Nat} {n : Nat} {G : gr_T} {dr : Nat → Bool} {sh : Nat → Nat → Bool} (W : wd_T Rf n) (hQ : mq_T I G dr sh) {x y : Int32} : wm_C l mX5_at 2 0 0 [vv_A (some 46), vv_I x, vv_I y] (I, L, Rf, n) (q_i (oI (s_at G x y)) (I, L, Rf, n)) := by
  refine wm_of (by decide) (Nat.le_of_ble_eq_true rfl) rfl ?_
  have hG := hQ.1
  have h8 := mv_8 hG
  have hk := hQ.2.2.2.1
  have hr := hQ.2.2.2.2
  refine rk_0 oX5_at_0 ?_
  refine si_3 oX5_at_1 rfl rfl ?_
  exact lp_X5_at l W hQ (g_n G) 0 (Nat.zero_add _)
theorem c_X5_tall (l : Launch) {I : Nat → Nat → Int32} {L : Nat → Nat → Int64} {Rf : Nat → Nat → Option Nat} {n : Nat} {G : gr_T} {dr : Nat → Bool} {sh : Nat → Nat → Bool} (W : wd_T Rf n) (hQ : mq_T I G dr sh) {t : Nat} (ht : t < g_n G) : wm_C l mX5_tall 1 0 0 [vv_A (some 46), vv_I (nI t)] (I, L, Rf, n) (q_i (s_tall G t) (I, L, Rf, n)) := by
  refine wm_of (by decide) (Nat.le_of_ble_eq_true rfl) rfl ?_
  have hG := hQ.1
  have h8 := mv_8 hG
  have hk := hQ.2.2.2.1
  have hr := hQ.2.2.2.2
  refine ra_0 oX5_tall_0 ?_
  refine rr_gr (v := 48) oX5_tall_1 (ff_X5_26 rfl) kk_46 (wd_lt W rfl) ⟨by decide, rfl⟩ (wd_r W rfl rfl) ?_
  refine ri_1 oX5_tall_4 ?_
  refine rr_iv oX5_tall_5 kk_48 (wd_lt W rfl) rfl (by omega) (by decide) (mv_k hG (by omega)) ?_
  refine rr_bipush (v := 6) oX5_tall_6 (by decide) ?_
  refine rr_icmp_eq (tgt := 29) oX5_tall_8 (by decide) (fun c => ?_) (fun c => ?_)
  · refine ra_0 oX5_tall_29 ?_
    refine rr_gr (v := 51) oX5_tall_30 (ff_X5_35 rfl) kk_46 (wd_lt W rfl) ⟨by decide, rfl⟩ (wd_r W rfl rfl) ?_
    refine ri_1 oX5_tall_33 ?_
    refine rr_iv oX5_tall_34 kk_51 (wd_lt W rfl) rfl (by omega) (by decide) (mv_h hG (by omega)) ?_
    refine ra_0 oX5_tall_35 ?_
    refine rr_gr (v := 52) oX5_tall_36 (ff_X5_38 rfl) kk_46 (wd_lt W rfl) ⟨by decide, rfl⟩ (wd_r W rfl rfl) ?_
    refine ri_1 oX5_tall_39 ?_
    refine rr_iv oX5_tall_40 kk_52 (wd_lt W rfl) rfl (by omega) (by decide) (mv_a hG (by omega)) ?_
    refine rr_iadd oX5_tall_41 ?_
    exact rr_ireturn oX5_tall_42 rfl rfl (q_is (by grind [s_tall]))
  · refine ra_0 oX5_tall_11 ?_
    refine rr_gr (v := 48) oX5_tall_12 (ff_X5_26 rfl) kk_46 (wd_lt W rfl) ⟨by decide, rfl⟩ (wd_r W rfl rfl) ?_
    refine ri_1 oX5_tall_15 ?_
    refine rr_iv oX5_tall_16 kk_48 (wd_lt W rfl) rfl (by omega) (by decide) (mv_k hG (by omega)) ?_
    refine rk_2 oX5_tall_17 ?_
    refine rr_icmp_ne (tgt := 43) oX5_tall_18 (by decide) (fun c1 => ?_) (fun c1 => ?_)
    · refine ra_0 oX5_tall_43 ?_
      refine rr_gr (v := 48) oX5_tall_44 (ff_X5_26 rfl) kk_46 (wd_lt W rfl) ⟨by decide, rfl⟩ (wd_r W rfl rfl) ?_
      refine ri_1 oX5_tall_47 ?_
      refine rr_iv oX5_tall_48 kk_48 (wd_lt W rfl) rfl (by omega) (by decide) (mv_k hG (by omega)) ?_
      refine rk_2 oX5_tall_49 ?_
      refine rr_icmp_ne (tgt := 57) oX5_tall_50 (by decide) (fun c3 => ?_) (fun c3 => ?_)
      · refine ra_0 oX5_tall_57 ?_
        refine rr_gr (v := 51) oX5_tall_58 (ff_X5_35 rfl) kk_46 (wd_lt W rfl) ⟨by decide, rfl⟩ (wd_r W rfl rfl) ?_
        refine ri_1 oX5_tall_61 ?_
        refine rr_iv oX5_tall_62 kk_51 (wd_lt W rfl) rfl (by omega) (by decide) (mv_h hG (by omega)) ?_
        exact rr_ireturn oX5_tall_63 rfl rfl (q_is (by grind [s_tall]))
      · refine rk_0 oX5_tall_53 ?_
        refine rr_goto (tgt := 63) oX5_tall_54 (by decide) ?_
        exact rr_ireturn oX5_tall_63 rfl rfl (q_is (by grind [s_tall]))
    · refine ra_0 oX5_tall_21 ?_
      refine rr_giv oX5_tall_22 (ff_X5_7 rfl) kk_46 (wd_lt W rfl) ⟨by decide, rfl⟩ (mv_s hG) ?_
      refine rk_1 oX5_tall_25 ?_
      refine rr_icmp_ne (tgt := 43) oX5_tall_26 (by decide) (fun c2 => ?_) (fun c2 => ?_)
      · refine ra_0 oX5_tall_43 ?_
        refine rr_gr (v := 48) oX5_tall_44 (ff_X5_26 rfl) kk_46 (wd_lt W rfl) ⟨by decide, rfl⟩ (wd_r W rfl rfl) ?_
        refine ri_1 oX5_tall_47 ?_
        refine rr_iv oX5_tall_48 kk_48 (wd_lt W rfl) rfl (by omega) (by decide) (mv_k hG (by omega)) ?_
        refine rk_2 oX5_tall_49 ?_
        refine rr_icmp_ne (tgt := 57) oX5_tall_50 (by decide) (fun c3 => ?_) (fun c3 => ?_)
        · refine ra_0 oX5_tall_57 ?_
          refine rr_gr (v := 51) oX5_tall_58 (ff_X5_35 rfl) kk_46 (wd_lt W rfl) ⟨by decide, rfl⟩ (wd_r W rfl rfl) ?_
          refine ri_1 oX5_tall_61 ?_
          refine rr_iv oX5_tall_62 kk_51 (wd_lt W rfl) rfl (by omega) (by decide) (mv_h hG (by omega)) ?_
          exact rr_ireturn oX5_tall_63 rfl rfl (q_is (by grind [s_tall]))
        · refine rk_0 oX5_tall_53 ?_
          refine rr_goto (tgt := 63) oX5_tall_54 (by decide) ?_
          exact rr_ireturn oX5_tall_63 rfl rfl (q_is (by grind [s_tall]))
      · refine ra_0 oX5_tall_29 ?_
        refine rr_gr (v := 51) oX5_tall_30 (ff_X5_35 rfl) kk_46 (wd_lt W rfl) ⟨by decide, rfl⟩ (wd_r W rfl rfl) ?_
        refine ri_1 oX5_tall_33 ?_
        refine rr_iv oX5_tall_34 kk_51 (wd_lt W rfl) rfl (by omega) (by decide) (mv_h hG (by omega)) ?_
        refine ra_0 oX5_tall_35 ?_
        refine rr_gr (v := 52) oX5_tall_36 (ff_X5_38 rfl) kk_46 (wd_lt W rfl) ⟨by decide, rfl⟩ (wd_r W rfl rfl) ?_
        refine ri_1 oX5_tall_39 ?_
        refine rr_iv oX5_tall_40 kk_52 (wd_lt W rfl) rfl (by omega) (by decide) (mv_a hG (by omega)) ?_
        refine rr_iadd oX5_tall_41 ?_
        exact rr_ireturn oX5_tall_42 rfl rfl (q_is (by grind [s_tall]))
theorem c_X5_eyes (l : Launch) {I : Nat → Nat → Int32} {L : Nat → Nat → Int64} {Rf : Nat → Nat → Option Nat} {n : Nat} {G : gr_T} {dr : Nat → Bool} {sh : Nat → Nat → Bool} (W : wd_T Rf n) (hQ : mq_T I G dr sh) {t : Nat} (ht : t < g_n G) : wm_C l mX5_eyes 1 0 0 [vv_A (some 46), vv_I (nI t)] (I, L, Rf, n) (q_i (s_eye G t) (I, L, Rf, n)) := by
  refine wm_of (by decide) (Nat.le_of_ble_eq_true rfl) rfl ?_
  have hG := hQ.1
  have h8 := mv_8 hG
  have hk := hQ.2.2.2.1
  have hr := hQ.2.2.2.2
  refine ra_0 oX5_eyes_0 ?_
  refine rr_gr (v := 48) oX5_eyes_1 (ff_X5_26 rfl) kk_46 (wd_lt W rfl) ⟨by decide, rfl⟩ (wd_r W rfl rfl) ?_
  refine ri_1 oX5_eyes_4 ?_
  refine rr_iv oX5_eyes_5 kk_48 (wd_lt W rfl) rfl (by omega) (by decide) (mv_k hG (by omega)) ?_
  refine rk_3 oX5_eyes_6 ?_
  refine rr_icmp_ne (tgt := 26) oX5_eyes_7 (by decide) (fun c => ?_) (fun c => ?_)
  · refine ra_0 oX5_eyes_26 ?_
    refine rr_gr (v := 51) oX5_eyes_27 (ff_X5_35 rfl) kk_46 (wd_lt W rfl) ⟨by decide, rfl⟩ (wd_r W rfl rfl) ?_
    refine ri_1 oX5_eyes_30 ?_
    refine rr_iv oX5_eyes_31 kk_51 (wd_lt W rfl) rfl (by omega) (by decide) (mv_h hG (by omega)) ?_
    exact rr_ireturn oX5_eyes_32 rfl rfl (q_is (by grind [s_eye]))
  · refine ra_0 oX5_eyes_10 ?_
    refine rr_gr (v := 51) oX5_eyes_11 (ff_X5_35 rfl) kk_46 (wd_lt W rfl) ⟨by decide, rfl⟩ (wd_r W rfl rfl) ?_
    refine ri_1 oX5_eyes_14 ?_
    refine rr_iv oX5_eyes_15 kk_51 (wd_lt W rfl) rfl (by omega) (by decide) (mv_h hG (by omega)) ?_
    refine ra_0 oX5_eyes_16 ?_
    refine rr_gr (v := 52) oX5_eyes_17 (ff_X5_38 rfl) kk_46 (wd_lt W rfl) ⟨by decide, rfl⟩ (wd_r W rfl rfl) ?_
    refine ri_1 oX5_eyes_20 ?_
    refine rr_iv oX5_eyes_21 kk_52 (wd_lt W rfl) rfl (by omega) (by decide) (mv_a hG (by omega)) ?_
    refine rr_iadd oX5_eyes_22 ?_
    refine rr_goto (tgt := 32) oX5_eyes_23 (by decide) ?_
    exact rr_ireturn oX5_eyes_32 rfl rfl (q_is (by grind [s_eye]))
theorem c_X5_sizeOf (l : Launch) {I : Nat → Nat → Int32} {L : Nat → Nat → Int64} {Rf : Nat → Nat → Option Nat} {n : Nat} {G : gr_T} {dr : Nat → Bool} {sh : Nat → Nat → Bool} (W : wd_T Rf n) (hQ : mq_T I G dr sh) {x : Int32} : wm_C l mX5_sizeOf 1 0 0 [vv_A (some 46), vv_I x] (I, L, Rf, n) (q_i (s_abs x) (I, L, Rf, n)) := by
  refine wm_of (by decide) (Nat.le_of_ble_eq_true rfl) rfl ?_
  have hG := hQ.1
  have h8 := mv_8 hG
  have hk := hQ.2.2.2.1
  have hr := hQ.2.2.2.2
  refine ri_1 oX5_sizeOf_0 ?_
  refine rr_if_ge (tgt := 9) oX5_sizeOf_1 (by decide) (fun c => ?_) (fun c => ?_)
  · refine ri_1 oX5_sizeOf_9 ?_
    exact rr_ireturn oX5_sizeOf_10 rfl rfl (q_is (if_pos c).symm)
  · refine ri_1 oX5_sizeOf_4 ?_
    refine rr_ineg oX5_sizeOf_5 ?_
    refine rr_goto (tgt := 10) oX5_sizeOf_6 (by decide) ?_
    exact rr_ireturn oX5_sizeOf_10 rfl rfl (q_is (ab_neg c))
theorem c_X5_distance (l : Launch) {I : Nat → Nat → Int32} {L : Nat → Nat → Int64} {Rf : Nat → Nat → Option Nat} {n : Nat} {G : gr_T} {dr : Nat → Bool} {sh : Nat → Nat → Bool} (W : wd_T Rf n) (hQ : mq_T I G dr sh) {i j : Nat} (hi : i < g_n G) (hj : j < g_n G) : wm_C l mX5_distance 2 0 0 [vv_A (some 46), vv_I (nI i), vv_I (nI j)] (I, L, Rf, n) (q_i (s_dist G i j) (I, L, Rf, n)) := by
  refine wm_of (by decide) (Nat.le_of_ble_eq_true rfl) rfl ?_
  have hG := hQ.1
  have h8 := mv_8 hG
  have hk := hQ.2.2.2.1
  have hr := hQ.2.2.2.2
  refine ra_0 oX5_distance_0 ?_
  refine ra_0 oX5_distance_1 ?_
  refine rr_gr (v := 49) oX5_distance_2 (ff_X5_29 rfl) kk_46 (wd_lt W rfl) ⟨by decide, rfl⟩ (wd_r W rfl rfl) ?_
  refine ri_1 oX5_distance_5 ?_
  refine rr_iv oX5_distance_6 kk_49 (wd_lt W rfl) rfl (by omega) (by decide) (mv_x hG (by omega)) ?_
  refine ra_0 oX5_distance_7 ?_
  refine rr_gr (v := 49) oX5_distance_8 (ff_X5_29 rfl) kk_46 (wd_lt W rfl) ⟨by decide, rfl⟩ (wd_r W rfl rfl) ?_
  refine ri_2 oX5_distance_11 ?_
  refine rr_iv oX5_distance_12 kk_49 (wd_lt W rfl) rfl (by omega) (by decide) (mv_x hG (by omega)) ?_
  refine rr_isub oX5_distance_13 ?_
  refine rr_cVi (c_X5_sizeOf l W hQ) oX5_distance_14 (cv_X5_186 rfl) (by decide) kk_46 (by decide) hcn_5 (wd_lt W rfl) rfl rfl (Nat.le_of_ble_eq_true rfl) ?_
  refine si_3 oX5_distance_17 rfl rfl ?_
  refine ra_0 oX5_distance_18 ?_
  refine ra_0 oX5_distance_19 ?_
  refine rr_gr (v := 50) oX5_distance_20 (ff_X5_32 rfl) kk_46 (wd_lt W rfl) ⟨by decide, rfl⟩ (wd_r W rfl rfl) ?_
  refine ri_1 oX5_distance_23 ?_
  refine rr_iv oX5_distance_24 kk_50 (wd_lt W rfl) rfl (by omega) (by decide) (mv_y hG (by omega)) ?_
  refine ra_0 oX5_distance_25 ?_
  refine rr_gr (v := 50) oX5_distance_26 (ff_X5_32 rfl) kk_46 (wd_lt W rfl) ⟨by decide, rfl⟩ (wd_r W rfl rfl) ?_
  refine ri_2 oX5_distance_29 ?_
  refine rr_iv oX5_distance_30 kk_50 (wd_lt W rfl) rfl (by omega) (by decide) (mv_y hG (by omega)) ?_
  refine rr_isub oX5_distance_31 ?_
  refine rr_cVi (c_X5_sizeOf l W hQ) oX5_distance_32 (cv_X5_186 rfl) (by decide) kk_46 (by decide) hcn_5 (wd_lt W rfl) rfl rfl (Nat.le_of_ble_eq_true rfl) ?_
  refine si_4 oX5_distance_35 rfl rfl ?_
  refine ri_3 oX5_distance_37 ?_
  refine ri_4 oX5_distance_38 ?_
  refine rr_icmp_le (tgt := 47) oX5_distance_40 (by decide) (fun c => ?_) (fun c => ?_)
  · refine ri_4 oX5_distance_47 ?_
    exact rr_ireturn oX5_distance_49 rfl rfl (q_is (mxg_1 c))
  · refine ri_3 oX5_distance_43 ?_
    refine rr_goto (tgt := 49) oX5_distance_44 (by decide) ?_
    exact rr_ireturn oX5_distance_49 rfl rfl (q_is (mxg_2 c))
theorem c_X5_divides (l : Launch) {I : Nat → Nat → Int32} {L : Nat → Nat → Int64} {Rf : Nat → Nat → Option Nat} {n : Nat} (W : wd_T Rf n) : ∀ f b a, b < f → a < 10 → b < 10 → wm_C l mX5_divides (b + 1) 0 0 [vv_A (some 46), vv_I (nI a), vv_I (nI b)] (I, L, Rf, n) (q_i (nI (Nat.gcd a b)) (I, L, Rf, n)) := by
  intro f
  induction f with
  | zero => intro b a h; omega
  | succ f ih =>
    intro b a hf ha hb
    refine wm_of (by decide) (Nat.le_of_ble_eq_true rfl) rfl ?_
    refine ri_2 oX5_divides_0 ?_
    refine rr_if_ne (tgt := 8) oX5_divides_1 (by decide) (fun c => ?_) (fun c => ?_)
    · have hb0 : 0 < b := by
        rcases Nat.eq_zero_or_pos b with q | q
        · subst q; exact absurd rfl c
        · exact q
      have hm := Nat.mod_lt a hb0
      refine ra_0 oX5_divides_8 ?_
      refine ri_2 oX5_divides_9 ?_
      refine ri_1 oX5_divides_10 ?_
      refine ri_2 oX5_divides_11 ?_
      refine rr_irem oX5_divides_12 (nI_n0 (by omega) hb0) ?_
      rw [show nI a - nI a / nI b * nI b = nI (a % b) from by have := rm_N a ha (b - 1) (by omega); rwa [show b - 1 + 1 = b by omega] at this]
      refine rr_cVi (ih (a % b) b (by omega) hb (by omega)) oX5_divides_13 (cv_X5_189 rfl) (by omega) kk_46 (by decide) hcn_5 (wd_lt W rfl) rfl rfl (Nat.le_of_ble_eq_true rfl) ?_
      exact rr_ireturn oX5_divides_16 rfl rfl (q_is (by rw [gcd_st hb0]))
    · have hb0 : b = 0 := by
        rw [show (0 : Int32) = nI 0 from rfl] at c
        first
          | exact (nI_inj (by omega) (by omega)).mp c
          | exact (nI_inj (by omega) (by omega)).mp (Classical.not_not.mp c)
      subst hb0
      refine ri_1 oX5_divides_4 ?_
      refine rr_goto (tgt := 16) oX5_divides_5 (by decide) ?_
      exact rr_ireturn oX5_divides_16 rfl rfl (q_is (by rw [Nat.gcd_zero_right]))
theorem lp_X5_inWay (l : Launch) {I : Nat → Nat → Int32} {L : Nat → Nat → Int64} {Rf : Nat → Nat → Option Nat} {n : Nat} {G : gr_T} {dr : Nat → Bool} {sh : Nat → Nat → Bool} (W : wd_T Rf n) (hQ : mq_T I G dr sh) {i j P : Nat} (hi : i < g_n G) (hj : j < g_n G) (hP : 1 ≤ P ∧ P < 10) : ∀ m k acc w8, k + m = P → 1 ≤ k → wm_W l mX5_inWay 12 0 0 52 [vv_A (some 46), vv_I (nI i), vv_I (nI j), vv_I (g_x G j - g_x G i), vv_I (g_y G j - g_y G i), vv_I (nI P), vv_I acc, vv_I (nI k), w8] [] (I, L, Rf, n) (q_i (s_bl G i j P m k acc) (I, L, Rf, n)) := by
  intro m
  induction m with
  | zero =>
    intro k acc w8 hk h1
    have hG := hQ.1
    have h8 := mv_8 hG
    refine ri_7 oX5_inWay_52 ?_
    refine ri_5 oX5_inWay_54 ?_
    refine rr_icmp_ge (tgt := 159) oX5_inWay_56 (by decide) (fun c => ?_) (fun c => ?_)
    rotate_left
    · exact absurd c (by rw [nI_le_iff (by omega) (by omega)]; omega)
    refine ri_6 oX5_inWay_159 ?_
    exact rr_ireturn oX5_inWay_161 rfl rfl ⟨rfl, rfl⟩
  | succ m ih =>
    intro k acc w8 hk h1
    have hG := hQ.1
    have h8 := mv_8 hG
    refine ri_7 oX5_inWay_52 ?_
    refine ri_5 oX5_inWay_54 ?_
    refine rr_icmp_ge (tgt := 159) oX5_inWay_56 (by decide) (fun c => ?_) (fun c => ?_)
    · (rw [nI_le_iff (by omega) (by omega)] at c; omega)
    refine ra_0 oX5_inWay_59 ?_
    refine ra_0 oX5_inWay_60 ?_
    refine rr_gr (v := 49) oX5_inWay_61 (ff_X5_29 rfl) kk_46 (wd_lt W rfl) ⟨by decide, rfl⟩ (wd_r W rfl rfl) ?_
    refine ri_1 oX5_inWay_64 ?_
    refine rr_iv oX5_inWay_65 kk_49 (wd_lt W rfl) rfl (by omega) (by decide) (mv_x hG (by omega)) ?_
    refine ri_3 oX5_inWay_66 ?_
    refine ri_5 oX5_inWay_67 ?_
    refine rr_idiv oX5_inWay_69 (nI_n0 (by omega) (by omega)) ?_
    refine ri_7 oX5_inWay_70 ?_
    refine rr_imul oX5_inWay_72 ?_
    refine rr_iadd oX5_inWay_73 ?_
    refine ra_0 oX5_inWay_74 ?_
    refine rr_gr (v := 50) oX5_inWay_75 (ff_X5_32 rfl) kk_46 (wd_lt W rfl) ⟨by decide, rfl⟩ (wd_r W rfl rfl) ?_
    refine ri_1 oX5_inWay_78 ?_
    refine rr_iv oX5_inWay_79 kk_50 (wd_lt W rfl) rfl (by omega) (by decide) (mv_y hG (by omega)) ?_
    refine ri_4 oX5_inWay_80 ?_
    refine ri_5 oX5_inWay_82 ?_
    refine rr_idiv oX5_inWay_84 (nI_n0 (by omega) (by omega)) ?_
    refine ri_7 oX5_inWay_85 ?_
    refine rr_imul oX5_inWay_87 ?_
    refine rr_iadd oX5_inWay_88 ?_
    refine rr_cVi (c_X5_at l W hQ) oX5_inWay_89 (cv_X5_116 rfl) (by decide) kk_46 (by decide) hcn_5 (wd_lt W rfl) rfl rfl (Nat.le_of_ble_eq_true rfl) ?_
    generalize hst : s_at G (g_x G i + (g_x G j - g_x G i) / nI P * nI k) (g_y G i + (g_y G j - g_y G i) / nI P * nI k) = bb
    have hst2 : s_st G i j P k = bb := hst
    rcases bb with _ | t
    · refine si_8 oX5_inWay_92 rfl rfl ?_
      refine ri_8 oX5_inWay_94 ?_
      refine rk_m1 oX5_inWay_96 ?_
      refine rr_icmp_eq (tgt := 153) oX5_inWay_97 (by decide) (fun c1 => ?_) (fun c1 => ?_)
      rotate_left
      · exact absurd rfl c1
      refine rn_7 oX5_inWay_153 rfl rfl ?_
      refine rr_goto (tgt := 52) oX5_inWay_156 (by decide) ?_
      simp only [s_bl, hst2]
      exact ih (k + 1) _ _ (by omega) (by omega)
    · have htn := s_at_lt hst
      simp only [oI]
      refine si_8 oX5_inWay_92 rfl rfl ?_
      refine ri_8 oX5_inWay_94 ?_
      refine rk_m1 oX5_inWay_96 ?_
      refine rr_icmp_eq (tgt := 153) oX5_inWay_97 (by decide) (fun c1 => ?_) (fun c1 => ?_)
      · exact absurd c1 (nI_nm1 (by omega))
      refine ra_0 oX5_inWay_100 ?_
      refine ri_8 oX5_inWay_101 ?_
      refine rr_cVi (c_X5_tall l W hQ (by omega)) oX5_inWay_103 (cv_X5_101 rfl) (by decide) kk_46 (by decide) hcn_5 (wd_lt W rfl) rfl rfl (Nat.le_of_ble_eq_true rfl) ?_
      refine ri_5 oX5_inWay_106 ?_
      refine rr_imul oX5_inWay_108 ?_
      refine ra_0 oX5_inWay_109 ?_
      refine ri_1 oX5_inWay_110 ?_
      refine rr_cVi (c_X5_eyes l W hQ (by omega)) oX5_inWay_111 (cv_X5_110 rfl) (by decide) kk_46 (by decide) hcn_5 (wd_lt W rfl) rfl rfl (Nat.le_of_ble_eq_true rfl) ?_
      refine ri_5 oX5_inWay_114 ?_
      refine ri_7 oX5_inWay_116 ?_
      refine rr_isub oX5_inWay_118 ?_
      refine rr_imul oX5_inWay_119 ?_
      refine ra_0 oX5_inWay_120 ?_
      refine rr_gr (v := 51) oX5_inWay_121 (ff_X5_35 rfl) kk_46 (wd_lt W rfl) ⟨by decide, rfl⟩ (wd_r W rfl rfl) ?_
      refine ri_2 oX5_inWay_124 ?_
      refine rr_iv oX5_inWay_125 kk_51 (wd_lt W rfl) rfl (by omega) (by decide) (mv_h hG (by omega)) ?_
      refine ri_7 oX5_inWay_126 ?_
      refine rr_imul oX5_inWay_128 ?_
      refine rr_iadd oX5_inWay_129 ?_
      refine rr_icmp_gt (tgt := 136) oX5_inWay_130 (by decide) (fun c3 => ?_) (fun c3 => ?_)
      · refine ri_6 oX5_inWay_136 ?_
        refine rk_m1 oX5_inWay_138 ?_
        refine rr_icmp_eq (tgt := 149) oX5_inWay_139 (by decide) (fun c4 => ?_) (fun c4 => ?_)
        · refine ri_8 oX5_inWay_149 ?_
          refine si_6 oX5_inWay_151 rfl rfl ?_
          refine rn_7 oX5_inWay_153 rfl rfl ?_
          refine rr_goto (tgt := 52) oX5_inWay_156 (by decide) ?_
          simp only [s_bl, hst2]
          rw [if_pos (show s_up G i j P k t from c3), s_nx, if_pos (Or.inl c4)]
          exact ih (k + 1) _ _ (by omega) (by omega)
        · refine ri_8 oX5_inWay_142 ?_
          refine ri_6 oX5_inWay_144 ?_
          refine rr_icmp_ge (tgt := 153) oX5_inWay_146 (by decide) (fun c5 => ?_) (fun c5 => ?_)
          · refine rn_7 oX5_inWay_153 rfl rfl ?_
            refine rr_goto (tgt := 52) oX5_inWay_156 (by decide) ?_
            simp only [s_bl, hst2]
            rw [if_pos (show s_up G i j P k t from c3), s_nx, if_neg (fun q => q.elim c4 (fun z => Int32.not_lt.mpr c5 z))]
            exact ih (k + 1) _ _ (by omega) (by omega)
          · refine ri_8 oX5_inWay_149 ?_
            refine si_6 oX5_inWay_151 rfl rfl ?_
            refine rn_7 oX5_inWay_153 rfl rfl ?_
            refine rr_goto (tgt := 52) oX5_inWay_156 (by decide) ?_
            simp only [s_bl, hst2]
            rw [if_pos (show s_up G i j P k t from c3), s_nx, if_pos (Or.inr (Int32.not_le.mp c5))]
            exact ih (k + 1) _ _ (by omega) (by omega)
      · refine rr_goto (tgt := 153) oX5_inWay_133 (by decide) ?_
        refine rn_7 oX5_inWay_153 rfl rfl ?_
        refine rr_goto (tgt := 52) oX5_inWay_156 (by decide) ?_
        simp only [s_bl, hst2]
        rw [if_neg (show ¬ s_up G i j P k t from c3)]
        exact ih (k + 1) _ _ (by omega) (by omega)
theorem c_X5_inWay (l : Launch) {I : Nat → Nat → Int32} {L : Nat → Nat → Int64} {Rf : Nat → Nat → Option Nat} {n : Nat} {G : gr_T} {dr : Nat → Bool} {sh : Nat → Nat → Bool} (W : wd_T Rf n) (hQ : mq_T I G dr sh) {i j : Nat} (hi : i < g_n G) (hj : j < g_n G) (hxi : xy_T G i) (hxj : xy_T G j) : wm_C l mX5_inWay 12 0 0 [vv_A (some 46), vv_I (nI i), vv_I (nI j)] (I, L, Rf, n) (q_i (s_bar G i j) (I, L, Rf, n)) := by
  refine wm_of (by decide) (Nat.le_of_ble_eq_true rfl) rfl ?_
  have hG := hQ.1
  have h8 := mv_8 hG
  have hk := hQ.2.2.2.1
  have hr := hQ.2.2.2.2
  obtain ⟨u, v, hu, hv, e1, e2⟩ := hxi
  obtain ⟨u2, v2, hu2, hv2, e3, e4⟩ := hxj
  obtain ⟨a, ea⟩ : ∃ a, a = (if u2 < u then u - u2 else u2 - u) := ⟨_, rfl⟩
  obtain ⟨b, eb⟩ : ∃ b, b = (if v2 < v then v - v2 else v2 - v) := ⟨_, rfl⟩
  have fa : s_abs (g_x G j - g_x G i) = nI a := by rw [e3, e1, ea]; exact ab_N u2 hu2 u hu
  have fb : s_abs (g_y G j - g_y G i) = nI b := by rw [e4, e2, eb]; exact ab_N v2 hv2 v hv
  have ha : a < 10 := by rw [ea]; split <;> omega
  have hb : b < 10 := by rw [eb]; split <;> omega
  have eP : s_gcd a b = s_P G i j := by rw [s_P, fa, fb, nI_clamp (by omega), nI_clamp (by omega)]
  have hP1 := s_gcd_1 a b
  have hP9 := s_gcd_9 a ha b hb
  rw [eP] at hP1 hP9
  refine ra_0 oX5_inWay_0 ?_
  refine rr_gr (v := 49) oX5_inWay_1 (ff_X5_29 rfl) kk_46 (wd_lt W rfl) ⟨by decide, rfl⟩ (wd_r W rfl rfl) ?_
  refine ri_2 oX5_inWay_4 ?_
  refine rr_iv oX5_inWay_5 kk_49 (wd_lt W rfl) rfl (by omega) (by decide) (mv_x hG (by omega)) ?_
  refine ra_0 oX5_inWay_6 ?_
  refine rr_gr (v := 49) oX5_inWay_7 (ff_X5_29 rfl) kk_46 (wd_lt W rfl) ⟨by decide, rfl⟩ (wd_r W rfl rfl) ?_
  refine ri_1 oX5_inWay_10 ?_
  refine rr_iv oX5_inWay_11 kk_49 (wd_lt W rfl) rfl (by omega) (by decide) (mv_x hG (by omega)) ?_
  refine rr_isub oX5_inWay_12 ?_
  refine si_3 oX5_inWay_13 rfl rfl ?_
  refine ra_0 oX5_inWay_14 ?_
  refine rr_gr (v := 50) oX5_inWay_15 (ff_X5_32 rfl) kk_46 (wd_lt W rfl) ⟨by decide, rfl⟩ (wd_r W rfl rfl) ?_
  refine ri_2 oX5_inWay_18 ?_
  refine rr_iv oX5_inWay_19 kk_50 (wd_lt W rfl) rfl (by omega) (by decide) (mv_y hG (by omega)) ?_
  refine ra_0 oX5_inWay_20 ?_
  refine rr_gr (v := 50) oX5_inWay_21 (ff_X5_32 rfl) kk_46 (wd_lt W rfl) ⟨by decide, rfl⟩ (wd_r W rfl rfl) ?_
  refine ri_1 oX5_inWay_24 ?_
  refine rr_iv oX5_inWay_25 kk_50 (wd_lt W rfl) rfl (by omega) (by decide) (mv_y hG (by omega)) ?_
  refine rr_isub oX5_inWay_26 ?_
  refine si_4 oX5_inWay_27 rfl rfl ?_
  refine ra_0 oX5_inWay_29 ?_
  refine ra_0 oX5_inWay_30 ?_
  refine ri_3 oX5_inWay_31 ?_
  refine rr_cVi (c_X5_sizeOf l W hQ) oX5_inWay_32 (cv_X5_186 rfl) (by decide) kk_46 (by decide) hcn_5 (wd_lt W rfl) rfl rfl (Nat.le_of_ble_eq_true rfl) ?_
  rw [fa]
  refine ra_0 oX5_inWay_35 ?_
  refine ri_4 oX5_inWay_36 ?_
  refine rr_cVi (c_X5_sizeOf l W hQ) oX5_inWay_38 (cv_X5_186 rfl) (by decide) kk_46 (by decide) hcn_5 (wd_lt W rfl) rfl rfl (Nat.le_of_ble_eq_true rfl) ?_
  rw [fb]
  refine rr_cVi (c_X5_divides l W 10 b a hb ha hb) oX5_inWay_41 (cv_X5_189 rfl) (by omega) kk_46 (by decide) hcn_5 (wd_lt W rfl) rfl rfl (Nat.le_of_ble_eq_true rfl) ?_
  refine si_5 oX5_inWay_44 rfl rfl ?_
  refine rk_m1 oX5_inWay_46 ?_
  refine si_6 oX5_inWay_47 rfl rfl ?_
  refine rk_1 oX5_inWay_49 ?_
  refine si_7 oX5_inWay_50 rfl rfl ?_
  by_cases hg : Nat.gcd a b = 0
  · have e1 : s_P G i j = 1 := by rw [← eP, s_gcd, if_pos hg]
    rw [hg, s_bar, e1]
    refine ri_7 oX5_inWay_52 ?_
    refine ri_5 oX5_inWay_54 ?_
    refine rr_icmp_ge (tgt := 159) oX5_inWay_56 (by decide) (fun _ => ?_) (fun c => absurd (by decide) c)
    refine ri_6 oX5_inWay_159 ?_
    exact rr_ireturn oX5_inWay_161 rfl rfl (q_is rfl)
  · have e1 : Nat.gcd a b = s_P G i j := by rw [← eP, s_gcd, if_neg hg]
    rw [e1]
    exact lp_X5_inWay l W hQ hi hj ⟨hP1, hP9⟩ (s_P G i j - 1) 1 (-1) _ (by omega) (by omega)
theorem c_X5_looks (l : Launch) {I : Nat → Nat → Int32} {L : Nat → Nat → Int64} {Rf : Nat → Nat → Option Nat} {n : Nat} {G : gr_T} {dr : Nat → Bool} {sh : Nat → Nat → Bool} (W : wd_T Rf n) (hQ : mq_T I G dr sh) {i j : Nat} (hi : i < g_n G) (hj : j < g_n G) (hxi : xy_T G i) (hxj : xy_T G j) : wm_C l mX5_looks 13 0 0 [vv_A (some 46), vv_I (nI i), vv_I (nI j)] (I, L, Rf, n) (q_i (bI (b_look G i j = true)) (I, L, Rf, n)) := by
  refine wm_of (by decide) (Nat.le_of_ble_eq_true rfl) rfl ?_
  have hG := hQ.1
  have h8 := mv_8 hG
  have hk := hQ.2.2.2.1
  have hr := hQ.2.2.2.2
  refine ra_0 oX5_looks_0 ?_
  refine rr_gr (v := 48) oX5_looks_1 (ff_X5_26 rfl) kk_46 (wd_lt W rfl) ⟨by decide, rfl⟩ (wd_r W rfl rfl) ?_
  refine ri_1 oX5_looks_4 ?_
  refine rr_iv oX5_looks_5 kk_48 (wd_lt W rfl) rfl (by omega) (by decide) (mv_k hG (by omega)) ?_
  refine rk_5 oX5_looks_6 ?_
  refine rr_icmp_eq (tgt := 37) oX5_looks_7 (by decide) (fun c => ?_) (fun c => ?_)
  · refine rk_0 oX5_looks_37 ?_
    exact rr_ireturn oX5_looks_38 rfl rfl (q_f (by simp only [b_look_iff, s_look]; grind))
  · refine ra_0 oX5_looks_10 ?_
    refine ri_1 oX5_looks_11 ?_
    refine ri_2 oX5_looks_12 ?_
    refine rr_cVi (c_X5_distance l W hQ (by omega) (by omega)) oX5_looks_13 (cv_X5_192 rfl) (by decide) kk_46 (by decide) hcn_5 (wd_lt W rfl) rfl rfl (Nat.le_of_ble_eq_true rfl) ?_
    refine ra_0 oX5_looks_16 ?_
    refine rr_giv oX5_looks_17 (ff_X5_13 rfl) kk_46 (wd_lt W rfl) ⟨by decide, rfl⟩ (mv_f hG) ?_
    refine rr_icmp_gt (tgt := 37) oX5_looks_20 (by decide) (fun c1 => ?_) (fun c1 => ?_)
    · refine rk_0 oX5_looks_37 ?_
      exact rr_ireturn oX5_looks_38 rfl rfl (q_f (by simp only [b_look_iff, s_look]; grind))
    · refine ra_0 oX5_looks_23 ?_
      refine ri_1 oX5_looks_24 ?_
      refine ri_2 oX5_looks_25 ?_
      refine rr_cVi (c_X5_inWay l W hQ (by omega) (by omega) hxi hxj) oX5_looks_26 (cv_X5_195 rfl) (by decide) kk_46 (by decide) hcn_5 (wd_lt W rfl) rfl rfl (Nat.le_of_ble_eq_true rfl) ?_
      refine rk_m1 oX5_looks_29 ?_
      refine rr_icmp_ne (tgt := 37) oX5_looks_30 (by decide) (fun c2 => ?_) (fun c2 => ?_)
      · refine rk_0 oX5_looks_37 ?_
        exact rr_ireturn oX5_looks_38 rfl rfl (q_f (by simp only [b_look_iff, s_look]; grind))
      · refine rk_1 oX5_looks_33 ?_
        refine rr_goto (tgt := 38) oX5_looks_34 (by decide) ?_
        exact rr_ireturn oX5_looks_38 rfl rfl (q_t (by simp only [b_look_iff, s_look]; grind))
theorem c_X5_isSeen (l : Launch) {I : Nat → Nat → Int32} {L : Nat → Nat → Int64} {Rf : Nat → Nat → Option Nat} {n : Nat} {G : gr_T} {dr : Nat → Bool} {sh : Nat → Nat → Bool} (W : wd_T Rf n) (hQ : mq_T I G dr sh) {i j : Nat} (hi : i < g_n G) (hj : j < g_n G) (hxi : xy_T G i) (hxj : xy_T G j) : wm_C l mX5_isSeen 14 0 0 [vv_A (some 46), vv_I (nI i), vv_I (nI j)] (I, L, Rf, n) (q_i (bI (b_look G i j = true ∧ dr i = false ∧ sh j i = false)) (I, L, Rf, n)) := by
  refine wm_of (by decide) (Nat.le_of_ble_eq_true rfl) rfl ?_
  have hG := hQ.1
  have h8 := mv_8 hG
  have hk := hQ.2.2.2.1
  have hr := hQ.2.2.2.2
  refine ra_0 oX5_isSeen_0 ?_
  refine rr_gr (v := 53) oX5_isSeen_1 (ff_X5_41 rfl) kk_46 (wd_lt W rfl) ⟨by decide, rfl⟩ (wd_r W rfl rfl) ?_
  refine ri_1 oX5_isSeen_4 ?_
  refine rr_iv oX5_isSeen_5 kk_53 (wd_lt W rfl) rfl (by omega) (by decide) (hQ.2.1 i (by omega)) ?_
  by_cases hd : dr i = true
  · rw [if_pos hd]
    refine rr_if_ne (tgt := 35) oX5_isSeen_6 (by decide) (fun c => ?_) (fun c => ?_)
    rotate_left
    · exact absurd c (by decide)
    refine rk_0 oX5_isSeen_35 ?_
    exact rr_ireturn oX5_isSeen_36 rfl rfl (q_f (by simp [hd]))
  · rw [if_neg hd]
    refine rr_if_ne (tgt := 35) oX5_isSeen_6 (by decide) (fun c => ?_) (fun c => ?_)
    · exact absurd rfl c
    refine ra_0 oX5_isSeen_9 ?_
    refine rr_gr (v := 54) oX5_isSeen_10 (ff_X5_44 rfl) kk_46 (wd_lt W rfl) ⟨by decide, rfl⟩ (wd_r W rfl rfl) ?_
    refine ri_1 oX5_isSeen_13 ?_
    refine rr_iv oX5_isSeen_14 kk_54 (wd_lt W rfl) rfl (by omega) (by decide) (hQ.2.2.1 i (by omega)) ?_
    refine ri_2 oX5_isSeen_15 ?_
    refine rr_ishr oX5_isSeen_16 ?_
    refine rk_1 oX5_isSeen_17 ?_
    refine rr_iand oX5_isSeen_18 ?_
    rw [st_sh (by omega)]
    by_cases hs : sh j i = true
    · rw [if_pos hs]
      refine rr_if_ne (tgt := 35) oX5_isSeen_19 (by decide) (fun c1 => ?_) (fun c1 => ?_)
      rotate_left
      · exact absurd c1 (by decide)
      refine rk_0 oX5_isSeen_35 ?_
      exact rr_ireturn oX5_isSeen_36 rfl rfl (q_f (by simp [hs]))
    · rw [if_neg hs]
      refine rr_if_ne (tgt := 35) oX5_isSeen_19 (by decide) (fun c1 => ?_) (fun c1 => ?_)
      · exact absurd rfl c1
      refine ra_0 oX5_isSeen_22 ?_
      refine ri_1 oX5_isSeen_23 ?_
      refine ri_2 oX5_isSeen_24 ?_
      refine rr_cVi (c_X5_looks l W hQ (by omega) (by omega) hxi hxj) oX5_isSeen_25 (cv_X5_198 rfl) (by decide) kk_46 (by decide) hcn_5 (wd_lt W rfl) rfl rfl (Nat.le_of_ble_eq_true rfl) ?_
      refine rr_ifb_eq (tgt := 35) oX5_isSeen_28 (by decide) (fun c2 => ?_) (fun c2 => ?_)
      · refine rk_0 oX5_isSeen_35 ?_
        exact rr_ireturn oX5_isSeen_36 rfl rfl (q_f (fun q => c2 q.1))
      · refine rk_1 oX5_isSeen_31 ?_
        refine rr_goto (tgt := 36) oX5_isSeen_32 (by decide) ?_
        exact rr_ireturn oX5_isSeen_36 rfl rfl (q_t ⟨c2, by simpa using hd, by simpa using hs⟩)
theorem lp_X5_seesInto (l : Launch) {I : Nat → Nat → Int32} {L : Nat → Nat → Int64} {Rf : Nat → Nat → Option Nat} {n : Nat} {G : gr_T} {dr : Nat → Bool} {sh : Nat → Nat → Bool} (W : wd_T Rf n) (hQ : mq_T I G dr sh) {j : Nat} (hj : j < g_n G) (hjh : is_H (g_k G j)) : ∀ m t acc, t + m = g_n G → wm_W l mX5_seesInto 15 0 0 4 [vv_A (some 46), vv_I (nI j), vv_I acc, vv_I (nI t)] [] (I, L, Rf, n) (q_i (bs_N (fun i => !(i == j) && decide (is_H (g_k G i)) && (b_look G i j && !dr i && !sh j i)) m t acc) (I, L, Rf, n)) := by
  intro m
  induction m with
  | zero =>
    intro t acc ht
    have hG := hQ.1
    have h8 := mv_8 hG
    have hk := hQ.2.2.2.1
    have hr := hQ.2.2.2.2
    refine ri_3 oX5_seesInto_4 ?_
    refine ra_0 oX5_seesInto_5 ?_
    refine rr_giv oX5_seesInto_6 (ff_X5_84 rfl) kk_46 (wd_lt W rfl) ⟨by decide, rfl⟩ (mv_c hG) ?_
    refine rr_icmp_ge (tgt := 46) oX5_seesInto_9 (by decide) (fun c => ?_) (fun c => ?_)
    rotate_left
    · exact absurd c (by rw [nI_le_iff (by omega) (by omega)]; omega)
    refine ri_2 oX5_seesInto_46 ?_
    exact rr_ireturn oX5_seesInto_47 rfl rfl ⟨rfl, rfl⟩
  | succ m ih =>
    intro t acc ht
    have hG := hQ.1
    have h8 := mv_8 hG
    have hk := hQ.2.2.2.1
    have hr := hQ.2.2.2.2
    refine ri_3 oX5_seesInto_4 ?_
    refine ra_0 oX5_seesInto_5 ?_
    refine rr_giv oX5_seesInto_6 (ff_X5_84 rfl) kk_46 (wd_lt W rfl) ⟨by decide, rfl⟩ (mv_c hG) ?_
    refine rr_icmp_ge (tgt := 46) oX5_seesInto_9 (by decide) (fun c => ?_) (fun c => ?_)
    · (rw [nI_le_iff (by omega) (by omega)] at c; omega)
    refine ri_3 oX5_seesInto_12 ?_
    refine ri_1 oX5_seesInto_13 ?_
    refine rr_icmp_eq (tgt := 40) oX5_seesInto_14 (by decide) (fun c1 => ?_) (fun c1 => ?_)
    · rw [nI_inj (by omega) (by omega)] at c1
      refine rn_3 oX5_seesInto_40 rfl rfl ?_
      refine rr_goto (tgt := 4) oX5_seesInto_43 (by decide) ?_
      simp only [bs_N]
      rw [if_neg (by simp [c1])]
      exact ih (t + 1) acc (by omega)
    · rw [nI_inj (by omega) (by omega)] at c1
      refine ra_0 oX5_seesInto_17 ?_
      refine ri_3 oX5_seesInto_18 ?_
      refine rr_cVi (c_X5_isHouse l W hQ (by omega)) oX5_seesInto_19 (cv_X5_91 rfl) (by decide) kk_46 (by decide) hcn_5 (wd_lt W rfl) rfl rfl (Nat.le_of_ble_eq_true rfl) ?_
      refine rr_ifb_eq (tgt := 40) oX5_seesInto_22 (by decide) (fun c2 => ?_) (fun c2 => ?_)
      · refine rn_3 oX5_seesInto_40 rfl rfl ?_
        refine rr_goto (tgt := 4) oX5_seesInto_43 (by decide) ?_
        simp only [bs_N]
        rw [if_neg (by simp [c2])]
        exact ih (t + 1) acc (by omega)
      · refine ra_0 oX5_seesInto_25 ?_
        refine ri_3 oX5_seesInto_26 ?_
        refine ri_1 oX5_seesInto_27 ?_
        refine rr_cVi (c_X5_isSeen l W hQ (by omega) hj (hr t (by omega) c2).1 (hr j hj hjh).1) oX5_seesInto_28 (cv_X5_201 rfl) (by decide) kk_46 (by decide) hcn_5 (wd_lt W rfl) rfl rfl (Nat.le_of_ble_eq_true rfl) ?_
        refine rr_ifb_eq (tgt := 40) oX5_seesInto_31 (by decide) (fun c3 => ?_) (fun c3 => ?_)
        · refine rn_3 oX5_seesInto_40 rfl rfl ?_
          refine rr_goto (tgt := 4) oX5_seesInto_43 (by decide) ?_
          simp only [bs_N]
          rw [if_neg (fun q => c3 (by simp only [Bool.and_eq_true, Bool.not_eq_true'] at q; exact ⟨q.2.1.1, q.2.1.2, q.2.2⟩))]
          exact ih (t + 1) acc (by omega)
        · refine ri_2 oX5_seesInto_34 ?_
          refine rk_1 oX5_seesInto_35 ?_
          refine ri_3 oX5_seesInto_36 ?_
          refine rr_ishl oX5_seesInto_37 ?_
          refine rr_ior oX5_seesInto_38 ?_
          refine si_2 oX5_seesInto_39 rfl rfl ?_
          refine rn_3 oX5_seesInto_40 rfl rfl ?_
          refine rr_goto (tgt := 4) oX5_seesInto_43 (by decide) ?_
          simp only [bs_N]
          rw [if_pos (by simp [c1, c2, c3])]
          exact ih (t + 1) _ (by omega)
theorem c_X5_seesInto (l : Launch) {I : Nat → Nat → Int32} {L : Nat → Nat → Int64} {Rf : Nat → Nat → Option Nat} {n : Nat} {G : gr_T} {dr : Nat → Bool} {sh : Nat → Nat → Bool} (W : wd_T Rf n) (hQ : mq_T I G dr sh) {j : Nat} (hj : j < g_n G) (hjh : is_H (g_k G j)) : wm_C l mX5_seesInto 15 0 0 [vv_A (some 46), vv_I (nI j)] (I, L, Rf, n) (q_i (st_S (p_se G dr sh j)) (I, L, Rf, n)) := by
  refine wm_of (by decide) (Nat.le_of_ble_eq_true rfl) rfl ?_
  have hG := hQ.1
  have h8 := mv_8 hG
  have hk := hQ.2.2.2.1
  have hr := hQ.2.2.2.2
  refine rk_0 oX5_seesInto_0 ?_
  refine si_2 oX5_seesInto_1 rfl rfl ?_
  refine rk_0 oX5_seesInto_2 ?_
  refine si_3 oX5_seesInto_3 rfl rfl ?_
  have e : st_S (p_se G dr sh j) = bs_N (fun i => !(i == j) && decide (is_H (g_k G i)) && (b_look G i j && !dr i && !sh j i)) (g_n G) 0 0 := by
    rw [bs_st _ h8]
    exact st_c (fun i _ => by simp only [p_se, p_lk, hj, hjh, decide_true, Bool.true_and]; cases decide (i < g_n G) <;> cases b_look G i j <;> cases dr i <;> cases sh j i <;> simp)
  rw [e]
  exact lp_X5_seesInto l W hQ hj hjh (g_n G) 0 0 (Nat.zero_add _)
theorem lp_X5_seersOf (l : Launch) {I : Nat → Nat → Int32} {L : Nat → Nat → Int64} {Rf : Nat → Nat → Option Nat} {n : Nat} {G : gr_T} {dr : Nat → Bool} {sh : Nat → Nat → Bool} (W : wd_T Rf n) (hQ : mq_T I G dr sh) {j : Nat} : ∀ m t, t + m = g_n G → wm_W l mX5_seersOf 16 0 0 8 [vv_A (some 46), vv_I (nI j), vv_I (st_S (fun i => p_se G dr sh j i && !(decide (i < t) && p_t G i))), vv_I (nI t)] [] (I, L, Rf, n) (q_i (st_S (p_sr G dr sh j)) (I, L, Rf, n)) := by
  intro m
  induction m with
  | zero =>
    intro t ht
    have hG := hQ.1
    have h8 := mv_8 hG
    have hk := hQ.2.2.2.1
    have hr := hQ.2.2.2.2
    refine ri_3 oX5_seersOf_8 ?_
    refine ra_0 oX5_seersOf_9 ?_
    refine rr_giv oX5_seersOf_10 (ff_X5_84 rfl) kk_46 (wd_lt W rfl) ⟨by decide, rfl⟩ (mv_c hG) ?_
    refine rr_icmp_ge (tgt := 40) oX5_seersOf_13 (by decide) (fun c => ?_) (fun c => ?_)
    rotate_left
    · exact absurd c (by rw [nI_le_iff (by omega) (by omega)]; omega)
    refine ri_2 oX5_seersOf_40 ?_
    exact rr_ireturn oX5_seersOf_41 rfl rfl (q_is (st_c fun i _ => by rw [show t = g_n G by omega]; simp only [p_sr, p_t]; cases decide (i < g_n G) <;> simp))
  | succ m ih =>
    intro t ht
    have hG := hQ.1
    have h8 := mv_8 hG
    have hk := hQ.2.2.2.1
    have hr := hQ.2.2.2.2
    refine ri_3 oX5_seersOf_8 ?_
    refine ra_0 oX5_seersOf_9 ?_
    refine rr_giv oX5_seersOf_10 (ff_X5_84 rfl) kk_46 (wd_lt W rfl) ⟨by decide, rfl⟩ (mv_c hG) ?_
    refine rr_icmp_ge (tgt := 40) oX5_seersOf_13 (by decide) (fun c => ?_) (fun c => ?_)
    · (rw [nI_le_iff (by omega) (by omega)] at c; omega)
    refine ra_0 oX5_seersOf_16 ?_
    refine rr_gr (v := 48) oX5_seersOf_17 (ff_X5_26 rfl) kk_46 (wd_lt W rfl) ⟨by decide, rfl⟩ (wd_r W rfl rfl) ?_
    refine ri_3 oX5_seersOf_20 ?_
    refine rr_iv oX5_seersOf_21 kk_48 (wd_lt W rfl) rfl (by omega) (by decide) (mv_k hG (by omega)) ?_
    refine rk_3 oX5_seersOf_22 ?_
    refine rr_icmp_ne (tgt := 34) oX5_seersOf_23 (by decide) (fun c1 => ?_) (fun c1 => ?_)
    · refine rn_3 oX5_seersOf_34 rfl rfl ?_
      refine rr_goto (tgt := 8) oX5_seersOf_37 (by decide) ?_
      rw [st_c (q := fun i => p_se G dr sh j i && !(decide (i < t + 1) && p_t G i)) (fun i _ => by
          by_cases q : i = t
          · subst q; simp [p_t, c1]
          · rw [show decide (i < t + 1) = decide (i < t) from decide_eq_decide.mpr (by omega)])]
      exact ih (t + 1) (by omega)
    · refine ri_2 oX5_seersOf_26 ?_
      refine rk_1 oX5_seersOf_27 ?_
      refine ri_3 oX5_seersOf_28 ?_
      refine rr_ishl oX5_seersOf_29 ?_
      refine rk_m1 oX5_seersOf_30 ?_
      refine rr_ixor oX5_seersOf_31 ?_
      rw [st_one t (by omega)]
      refine rr_iand oX5_seersOf_32 ?_
      rw [st_not]
      refine si_2 oX5_seersOf_33 rfl rfl ?_
      refine rn_3 oX5_seersOf_34 rfl rfl ?_
      refine rr_goto (tgt := 8) oX5_seersOf_37 (by decide) ?_
      rw [st_c (q := fun i => p_se G dr sh j i && !(decide (i < t + 1) && p_t G i)) (fun i _ => by
          by_cases q : i = t
          · subst q; have h0 : i < g_n G := by omega
            simp [p_t, c1, h0]
          · rw [show decide (i < t + 1) = decide (i < t) from decide_eq_decide.mpr (by omega)]; simp [q])]
      exact ih (t + 1) (by omega)
theorem c_X5_seersOf (l : Launch) {I : Nat → Nat → Int32} {L : Nat → Nat → Int64} {Rf : Nat → Nat → Option Nat} {n : Nat} {G : gr_T} {dr : Nat → Bool} {sh : Nat → Nat → Bool} (W : wd_T Rf n) (hQ : mq_T I G dr sh) {j : Nat} (hj : j < g_n G) (hjh : is_H (g_k G j)) : wm_C l mX5_seersOf 16 0 0 [vv_A (some 46), vv_I (nI j)] (I, L, Rf, n) (q_i (st_S (p_sr G dr sh j)) (I, L, Rf, n)) := by
  refine wm_of (by decide) (Nat.le_of_ble_eq_true rfl) rfl ?_
  have hG := hQ.1
  have h8 := mv_8 hG
  have hk := hQ.2.2.2.1
  have hr := hQ.2.2.2.2
  refine ra_0 oX5_seersOf_0 ?_
  refine ri_1 oX5_seersOf_1 ?_
  refine rr_cVi (c_X5_seesInto l W hQ hj hjh) oX5_seersOf_2 (cv_X5_204 rfl) (by decide) kk_46 (by decide) hcn_5 (wd_lt W rfl) rfl rfl (Nat.le_of_ble_eq_true rfl) ?_
  refine si_2 oX5_seersOf_5 rfl rfl ?_
  refine rk_0 oX5_seersOf_6 ?_
  refine si_3 oX5_seersOf_7 rfl rfl ?_
  rw [st_c (q := fun i => p_se G dr sh j i && !(decide (i < 0) && p_t G i)) (fun i _ => by simp)]
  exact lp_X5_seersOf l W hQ (g_n G) 0 (Nat.zero_add _)
theorem lp_X5_many (l : Launch) {I : Nat → Nat → Int32} {L : Nat → Nat → Int64} {Rf : Nat → Nat → Option Nat} {n : Nat} {p : Nat → Bool} : ∀ m t acc, t + m = 8 → wm_W l mX5_many 1 0 0 4 [vv_A (some 46), vv_I (st_S p), vv_I acc, vv_I (nI t)] [] (I, L, Rf, n) (q_i (sm_N (fun i => if p i = true then 1 else 0) m t acc) (I, L, Rf, n)) := by
  intro m
  induction m with
  | zero =>
    intro t acc ht
    refine ri_3 oX5_many_4 ?_
    refine rr_bipush (v := 8) oX5_many_5 (by decide) ?_
    refine rr_icmp_ge (tgt := 24) oX5_many_7 (by decide) (fun c => ?_) (fun c => ?_)
    rotate_left
    · exact absurd c (by rw [show (8 : Int32) = nI 8 from rfl, nI_le_iff (by omega) (by omega)]; omega)
    refine ri_2 oX5_many_24 ?_
    exact rr_ireturn oX5_many_25 rfl rfl ⟨rfl, rfl⟩
  | succ m ih =>
    intro t acc ht
    refine ri_3 oX5_many_4 ?_
    refine rr_bipush (v := 8) oX5_many_5 (by decide) ?_
    refine rr_icmp_ge (tgt := 24) oX5_many_7 (by decide) (fun c => ?_) (fun c => ?_)
    · (rw [show (8 : Int32) = nI 8 from rfl, nI_le_iff (by omega) (by omega)] at c; omega)
    refine ri_2 oX5_many_10 ?_
    refine ri_1 oX5_many_11 ?_
    refine ri_3 oX5_many_12 ?_
    refine rr_ishr oX5_many_13 ?_
    refine rk_1 oX5_many_14 ?_
    refine rr_iand oX5_many_15 ?_
    rw [st_sh (by omega)]
    refine rr_iadd oX5_many_16 ?_
    refine si_2 oX5_many_17 rfl rfl ?_
    refine rn_3 oX5_many_18 rfl rfl ?_
    refine rr_goto (tgt := 4) oX5_many_21 (by decide) ?_
    exact ih (t + 1) _ (by omega)
theorem c_X5_many (l : Launch) {I : Nat → Nat → Int32} {L : Nat → Nat → Int64} {Rf : Nat → Nat → Option Nat} {n : Nat} {p : Nat → Bool} : wm_C l mX5_many 1 0 0 [vv_A (some 46), vv_I (st_S p)] (I, L, Rf, n) (q_i (nI (cn_8 p)) (I, L, Rf, n)) := by
  refine wm_of (by decide) (Nat.le_of_ble_eq_true rfl) rfl ?_
  refine rk_0 oX5_many_0 ?_
  refine si_2 oX5_many_1 rfl rfl ?_
  refine rk_0 oX5_many_2 ?_
  refine si_3 oX5_many_3 rfl rfl ?_
  have e := sm_cn p 8 0 0
  rw [Int32.zero_add] at e
  have e2 : nI (cn_8 p) = sm_N (fun i => if p i = true then 1 else 0) 8 0 0 := by rw [e]; exact (Int32.sub_zero _).symm
  rw [e2]
  exact lp_X5_many l 8 0 0 rfl
theorem c_X5_isRight (l : Launch) {I : Nat → Nat → Int32} {L : Nat → Nat → Int64} {Rf : Nat → Nat → Option Nat} {n : Nat} {G : gr_T} {dr : Nat → Bool} {sh : Nat → Nat → Bool} (W : wd_T Rf n) (hQ : mq_T I G dr sh) {j : Nat} (hj : j < g_n G) (hjh : is_H (g_k G j)) : wm_C l mX5_isRight 17 0 0 [vv_A (some 46), vv_I (nI j)] (I, L, Rf, n) (q_i (bI (cn_8 (p_sr G dr sh j) = if g_k G j = 4 then 0 else 1)) (I, L, Rf, n)) := by
  refine wm_of (by decide) (Nat.le_of_ble_eq_true rfl) rfl ?_
  have hG := hQ.1
  have h8 := mv_8 hG
  have hk := hQ.2.2.2.1
  have hr := hQ.2.2.2.2
  have hc8 : cn_8 (p_sr G dr sh j) ≤ 8 := cn_le _ 8
  refine ra_0 oX5_isRight_0 ?_
  refine ra_0 oX5_isRight_1 ?_
  refine ri_1 oX5_isRight_2 ?_
  refine rr_cVi (c_X5_seersOf l W hQ hj hjh) oX5_isRight_3 (cv_X5_104 rfl) (by decide) kk_46 (by decide) hcn_5 (wd_lt W rfl) rfl rfl (Nat.le_of_ble_eq_true rfl) ?_
  refine rr_cVi (c_X5_many l) oX5_isRight_6 (cv_X5_107 rfl) (by decide) kk_46 (by decide) hcn_5 (wd_lt W rfl) rfl rfl (Nat.le_of_ble_eq_true rfl) ?_
  refine ra_0 oX5_isRight_9 ?_
  refine rr_gr (v := 48) oX5_isRight_10 (ff_X5_26 rfl) kk_46 (wd_lt W rfl) ⟨by decide, rfl⟩ (wd_r W rfl rfl) ?_
  refine ri_1 oX5_isRight_13 ?_
  refine rr_iv oX5_isRight_14 kk_48 (wd_lt W rfl) rfl (by omega) (by decide) (mv_k hG (by omega)) ?_
  refine rk_4 oX5_isRight_15 ?_
  refine rr_icmp_ne (tgt := 23) oX5_isRight_16 (by decide) (fun c => ?_) (fun c => ?_)
  · refine rk_1 oX5_isRight_23 ?_
    refine rr_icmp_ne (tgt := 31) oX5_isRight_24 (by decide) (fun c1 => ?_) (fun c1 => ?_)
    · refine rk_0 oX5_isRight_31 ?_
      exact rr_ireturn oX5_isRight_32 rfl rfl (q_f (by rw [if_neg c]; exact fun q => c1 (by rw [q]; rfl)))
    · refine rk_1 oX5_isRight_27 ?_
      refine rr_goto (tgt := 32) oX5_isRight_28 (by decide) ?_
      exact rr_ireturn oX5_isRight_32 rfl rfl (q_t (by rw [if_neg c]; exact (nI_inj (by omega) (by omega)).mp c1))
  · refine rk_0 oX5_isRight_19 ?_
    refine rr_goto (tgt := 24) oX5_isRight_20 (by decide) ?_
    refine rr_icmp_ne (tgt := 31) oX5_isRight_24 (by decide) (fun c1 => ?_) (fun c1 => ?_)
    · refine rk_0 oX5_isRight_31 ?_
      exact rr_ireturn oX5_isRight_32 rfl rfl (q_f (by rw [if_pos c]; exact fun q => c1 (by rw [q]; rfl)))
    · refine rk_1 oX5_isRight_27 ?_
      refine rr_goto (tgt := 32) oX5_isRight_28 (by decide) ?_
      exact rr_ireturn oX5_isRight_32 rfl rfl (q_t (by rw [if_pos c]; exact (nI_inj (by omega) (by omega)).mp c1))
theorem lp_X5_allRight (l : Launch) {I : Nat → Nat → Int32} {L : Nat → Nat → Int64} {Rf : Nat → Nat → Option Nat} {n : Nat} {G : gr_T} {dr : Nat → Bool} {sh : Nat → Nat → Bool} (W : wd_T Rf n) (hQ : mq_T I G dr sh) : ∀ m t acc, t + m = g_n G → wm_W l mX5_allRight 18 0 0 4 [vv_A (some 46), vv_I acc, vv_I (nI t)] [] (I, L, Rf, n) (q_i (bs_N (fun j => decide (is_H (g_k G j)) && (cn_8 (p_sr G dr sh j) == if g_k G j = 4 then 0 else 1)) m t acc) (I, L, Rf, n)) := by
  intro m
  induction m with
  | zero =>
    intro t acc ht
    have hG := hQ.1
    have h8 := mv_8 hG
    have hk := hQ.2.2.2.1
    have hr := hQ.2.2.2.2
    refine ri_2 oX5_allRight_4 ?_
    refine ra_0 oX5_allRight_5 ?_
    refine rr_giv oX5_allRight_6 (ff_X5_84 rfl) kk_46 (wd_lt W rfl) ⟨by decide, rfl⟩ (mv_c hG) ?_
    refine rr_icmp_ge (tgt := 40) oX5_allRight_9 (by decide) (fun c => ?_) (fun c => ?_)
    rotate_left
    · exact absurd c (by rw [nI_le_iff (by omega) (by omega)]; omega)
    refine ri_1 oX5_allRight_40 ?_
    exact rr_ireturn oX5_allRight_41 rfl rfl ⟨rfl, rfl⟩
  | succ m ih =>
    intro t acc ht
    have hG := hQ.1
    have h8 := mv_8 hG
    have hk := hQ.2.2.2.1
    have hr := hQ.2.2.2.2
    refine ri_2 oX5_allRight_4 ?_
    refine ra_0 oX5_allRight_5 ?_
    refine rr_giv oX5_allRight_6 (ff_X5_84 rfl) kk_46 (wd_lt W rfl) ⟨by decide, rfl⟩ (mv_c hG) ?_
    refine rr_icmp_ge (tgt := 40) oX5_allRight_9 (by decide) (fun c => ?_) (fun c => ?_)
    · (rw [nI_le_iff (by omega) (by omega)] at c; omega)
    refine ra_0 oX5_allRight_12 ?_
    refine ri_2 oX5_allRight_13 ?_
    refine rr_cVi (c_X5_isHouse l W hQ (by omega)) oX5_allRight_14 (cv_X5_91 rfl) (by decide) kk_46 (by decide) hcn_5 (wd_lt W rfl) rfl rfl (Nat.le_of_ble_eq_true rfl) ?_
    refine rr_ifb_eq (tgt := 34) oX5_allRight_17 (by decide) (fun c1 => ?_) (fun c1 => ?_)
    · refine rn_2 oX5_allRight_34 rfl rfl ?_
      refine rr_goto (tgt := 4) oX5_allRight_37 (by decide) ?_
      simp only [bs_N]
      rw [if_neg (by simp [c1])]
      exact ih (t + 1) acc (by omega)
    · refine ra_0 oX5_allRight_20 ?_
      refine ri_2 oX5_allRight_21 ?_
      refine rr_cVi (c_X5_isRight l W hQ (by omega) c1) oX5_allRight_22 (cv_X5_113 rfl) (by decide) kk_46 (by decide) hcn_5 (wd_lt W rfl) rfl rfl (Nat.le_of_ble_eq_true rfl) ?_
      refine rr_ifb_eq (tgt := 34) oX5_allRight_25 (by decide) (fun c2 => ?_) (fun c2 => ?_)
      · refine rn_2 oX5_allRight_34 rfl rfl ?_
        refine rr_goto (tgt := 4) oX5_allRight_37 (by decide) ?_
        simp only [bs_N]
        rw [if_neg (by simp [c2])]
        exact ih (t + 1) acc (by omega)
      · refine ri_1 oX5_allRight_28 ?_
        refine rk_1 oX5_allRight_29 ?_
        refine ri_2 oX5_allRight_30 ?_
        refine rr_ishl oX5_allRight_31 ?_
        refine rr_ior oX5_allRight_32 ?_
        refine si_1 oX5_allRight_33 rfl rfl ?_
        refine rn_2 oX5_allRight_34 rfl rfl ?_
        refine rr_goto (tgt := 4) oX5_allRight_37 (by decide) ?_
        simp only [bs_N]
        rw [if_pos (by simp [c1, c2])]
        exact ih (t + 1) _ (by omega)
theorem c_X5_allRight (l : Launch) {I : Nat → Nat → Int32} {L : Nat → Nat → Int64} {Rf : Nat → Nat → Option Nat} {n : Nat} {G : gr_T} {dr : Nat → Bool} {sh : Nat → Nat → Bool} (W : wd_T Rf n) (hQ : mq_T I G dr sh) : wm_C l mX5_allRight 18 0 0 [vv_A (some 46)] (I, L, Rf, n) (q_i (st_S (p_ri G dr sh)) (I, L, Rf, n)) := by
  refine wm_of (by decide) (Nat.le_of_ble_eq_true rfl) rfl ?_
  have hG := hQ.1
  have h8 := mv_8 hG
  have hk := hQ.2.2.2.1
  have hr := hQ.2.2.2.2
  refine rk_0 oX5_allRight_0 ?_
  refine si_1 oX5_allRight_1 rfl rfl ?_
  refine rk_0 oX5_allRight_2 ?_
  refine si_2 oX5_allRight_3 rfl rfl ?_
  have e := bs_st (fun j => decide (is_H (g_k G j)) && (cn_8 (p_sr G dr sh j) == if g_k G j = 4 then 0 else 1)) h8
  refine (show st_S (p_ri G dr sh) = _ from e.symm) ▸ lp_X5_allRight l W hQ (g_n G) 0 0 (Nat.zero_add _)
theorem lp_X5_firstOf (l : Launch) {I : Nat → Nat → Int32} {L : Nat → Nat → Int64} {Rf : Nat → Nat → Option Nat} {n : Nat} {p : Nat → Bool} : ∀ m t, t + m = 8 → wm_W l mX5_firstOf 1 0 0 2 [vv_A (some 46), vv_I (st_S p), vv_I (nI t)] [] (I, L, Rf, n) (q_i (oI (fo_N p m t)) (I, L, Rf, n)) := by
  intro m
  induction m with
  | zero =>
    intro t ht
    refine ri_2 oX5_firstOf_2 ?_
    refine rr_bipush (v := 8) oX5_firstOf_3 (by decide) ?_
    refine rr_icmp_ge (tgt := 25) oX5_firstOf_5 (by decide) (fun c => ?_) (fun c => ?_)
    rotate_left
    · exact absurd c (by rw [show (8 : Int32) = nI 8 from rfl, nI_le_iff (by omega) (by omega)]; omega)
    refine rk_m1 oX5_firstOf_25 ?_
    exact rr_ireturn oX5_firstOf_26 rfl rfl ⟨rfl, rfl⟩
  | succ m ih =>
    intro t ht
    refine ri_2 oX5_firstOf_2 ?_
    refine rr_bipush (v := 8) oX5_firstOf_3 (by decide) ?_
    refine rr_icmp_ge (tgt := 25) oX5_firstOf_5 (by decide) (fun c => ?_) (fun c => ?_)
    · (rw [show (8 : Int32) = nI 8 from rfl, nI_le_iff (by omega) (by omega)] at c; omega)
    refine ri_1 oX5_firstOf_8 ?_
    refine ri_2 oX5_firstOf_9 ?_
    refine rr_ishr oX5_firstOf_10 ?_
    refine rk_1 oX5_firstOf_11 ?_
    refine rr_iand oX5_firstOf_12 ?_
    rw [st_sh (by omega)]
    by_cases hp : p t = true
    · rw [if_pos hp]
      refine rk_1 oX5_firstOf_13 ?_
      refine rr_icmp_ne (tgt := 19) oX5_firstOf_14 (by decide) (fun c1 => ?_) (fun c1 => ?_)
      · exact absurd rfl c1
      refine ri_2 oX5_firstOf_17 ?_
      exact rr_ireturn oX5_firstOf_18 rfl rfl (q_is (by simp only [fo_N]; rw [if_pos hp]; rfl))
    · rw [if_neg hp]
      refine rk_1 oX5_firstOf_13 ?_
      refine rr_icmp_ne (tgt := 19) oX5_firstOf_14 (by decide) (fun c1 => ?_) (fun c1 => ?_)
      rotate_left
      · exact absurd c1 (by decide)
      refine rn_2 oX5_firstOf_19 rfl rfl ?_
      refine rr_goto (tgt := 2) oX5_firstOf_22 (by decide) ?_
      simp only [fo_N]
      rw [if_neg hp]
      exact ih (t + 1) (by omega)
theorem c_X5_firstOf (l : Launch) {I : Nat → Nat → Int32} {L : Nat → Nat → Int64} {Rf : Nat → Nat → Option Nat} {n : Nat} {p : Nat → Bool} : wm_C l mX5_firstOf 1 0 0 [vv_A (some 46), vv_I (st_S p)] (I, L, Rf, n) (q_i (oI (fo_N p 8 0)) (I, L, Rf, n)) := by
  refine wm_of (by decide) (Nat.le_of_ble_eq_true rfl) rfl ?_
  refine rk_0 oX5_firstOf_0 ?_
  refine si_2 oX5_firstOf_1 rfl rfl ?_
  exact lp_X5_firstOf l 8 0 rfl
theorem c_X5_costOf (l : Launch) {I : Nat → Nat → Int32} {L : Nat → Nat → Int64} {Rf : Nat → Nat → Option Nat} {n : Nat} {G : gr_T} {dr : Nat → Bool} {sh : Nat → Nat → Bool} (W : wd_T Rf n) (hQ : mq_T I G dr sh) {i j : Nat} (hi : i < g_n G) (hj : j < g_n G) : wm_C l mX5_costOf 3 0 0 [vv_A (some 46), vv_I (nI i), vv_I (nI j)] (I, L, Rf, n) (q_i (s_cost G i j) (I, L, Rf, n)) := by
  refine wm_of (by decide) (Nat.le_of_ble_eq_true rfl) rfl ?_
  have hG := hQ.1
  have h8 := mv_8 hG
  have hk := hQ.2.2.2.1
  have hr := hQ.2.2.2.2
  refine ra_0 oX5_costOf_0 ?_
  refine ri_1 oX5_costOf_1 ?_
  refine ri_2 oX5_costOf_2 ?_
  refine rr_cVi (c_X5_distance l W hQ (by omega) (by omega)) oX5_costOf_3 (cv_X5_192 rfl) (by decide) kk_46 (by decide) hcn_5 (wd_lt W rfl) rfl rfl (Nat.le_of_ble_eq_true rfl) ?_
  refine ra_0 oX5_costOf_6 ?_
  refine rr_gr (v := 52) oX5_costOf_7 (ff_X5_38 rfl) kk_46 (wd_lt W rfl) ⟨by decide, rfl⟩ (wd_r W rfl rfl) ?_
  refine ri_2 oX5_costOf_10 ?_
  refine rr_iv oX5_costOf_11 kk_52 (wd_lt W rfl) rfl (by omega) (by decide) (mv_a hG (by omega)) ?_
  refine rr_iadd oX5_costOf_12 ?_
  exact rr_ireturn oX5_costOf_13 rfl rfl ⟨rfl, rfl⟩
theorem lp_X5_houses (l : Launch) {I : Nat → Nat → Int32} {L : Nat → Nat → Int64} {Rf : Nat → Nat → Option Nat} {n : Nat} {G : gr_T} {dr : Nat → Bool} {sh : Nat → Nat → Bool} (W : wd_T Rf n) (hQ : mq_T I G dr sh) : ∀ m t acc, t + m = g_n G → wm_W l mX5_houses 2 0 0 4 [vv_A (some 46), vv_I acc, vv_I (nI t)] [] (I, L, Rf, n) (q_i (bs_N (fun i => decide (is_H (g_k G i))) m t acc) (I, L, Rf, n)) := by
  intro m
  induction m with
  | zero =>
    intro t acc ht
    have hG := hQ.1
    have h8 := mv_8 hG
    have hk := hQ.2.2.2.1
    have hr := hQ.2.2.2.2
    refine ri_2 oX5_houses_4 ?_
    refine ra_0 oX5_houses_5 ?_
    refine rr_giv oX5_houses_6 (ff_X5_84 rfl) kk_46 (wd_lt W rfl) ⟨by decide, rfl⟩ (mv_c hG) ?_
    refine rr_icmp_ge (tgt := 32) oX5_houses_9 (by decide) (fun c => ?_) (fun c => ?_)
    rotate_left
    · exact absurd c (by rw [nI_le_iff (by omega) (by omega)]; omega)
    refine ri_1 oX5_houses_32 ?_
    exact rr_ireturn oX5_houses_33 rfl rfl ⟨rfl, rfl⟩
  | succ m ih =>
    intro t acc ht
    have hG := hQ.1
    have h8 := mv_8 hG
    have hk := hQ.2.2.2.1
    have hr := hQ.2.2.2.2
    refine ri_2 oX5_houses_4 ?_
    refine ra_0 oX5_houses_5 ?_
    refine rr_giv oX5_houses_6 (ff_X5_84 rfl) kk_46 (wd_lt W rfl) ⟨by decide, rfl⟩ (mv_c hG) ?_
    refine rr_icmp_ge (tgt := 32) oX5_houses_9 (by decide) (fun c => ?_) (fun c => ?_)
    · (rw [nI_le_iff (by omega) (by omega)] at c; omega)
    refine ra_0 oX5_houses_12 ?_
    refine ri_2 oX5_houses_13 ?_
    refine rr_cVi (c_X5_isHouse l W hQ (by omega)) oX5_houses_14 (cv_X5_91 rfl) (by decide) kk_46 (by decide) hcn_5 (wd_lt W rfl) rfl rfl (Nat.le_of_ble_eq_true rfl) ?_
    refine rr_ifb_eq (tgt := 26) oX5_houses_17 (by decide) (fun c1 => ?_) (fun c1 => ?_)
    · refine rn_2 oX5_houses_26 rfl rfl ?_
      refine rr_goto (tgt := 4) oX5_houses_29 (by decide) ?_
      simp only [bs_N]
      rw [if_neg (by simpa using c1)]
      exact ih (t + 1) acc (by omega)
    · refine ri_1 oX5_houses_20 ?_
      refine rk_1 oX5_houses_21 ?_
      refine ri_2 oX5_houses_22 ?_
      refine rr_ishl oX5_houses_23 ?_
      refine rr_ior oX5_houses_24 ?_
      refine si_1 oX5_houses_25 rfl rfl ?_
      refine rn_2 oX5_houses_26 rfl rfl ?_
      refine rr_goto (tgt := 4) oX5_houses_29 (by decide) ?_
      simp only [bs_N]
      rw [if_pos (by simpa using c1)]
      exact ih (t + 1) _ (by omega)
theorem c_X5_houses (l : Launch) {I : Nat → Nat → Int32} {L : Nat → Nat → Int64} {Rf : Nat → Nat → Option Nat} {n : Nat} {G : gr_T} {dr : Nat → Bool} {sh : Nat → Nat → Bool} (W : wd_T Rf n) (hQ : mq_T I G dr sh) : wm_C l mX5_houses 2 0 0 [vv_A (some 46)] (I, L, Rf, n) (q_i (st_S (p_h G)) (I, L, Rf, n)) := by
  refine wm_of (by decide) (Nat.le_of_ble_eq_true rfl) rfl ?_
  have hG := hQ.1
  have h8 := mv_8 hG
  have hk := hQ.2.2.2.1
  have hr := hQ.2.2.2.2
  refine rk_0 oX5_houses_0 ?_
  refine si_1 oX5_houses_1 rfl rfl ?_
  refine rk_0 oX5_houses_2 ?_
  refine si_2 oX5_houses_3 rfl rfl ?_
  have e := bs_st (fun i => decide (is_H (g_k G i))) h8
  refine (show st_S (p_h G) = _ from e.symm) ▸ lp_X5_houses l W hQ (g_n G) 0 0 (Nat.zero_add _)
theorem z_sh : ∀ t, t < 8 → (0 : Int32) <<< (nI t &&& 31) = 0 := by decide +kernel
theorem lp_X5_drawnOnes (l : Launch) {I : Nat → Nat → Int32} {L : Nat → Nat → Int64} {Rf : Nat → Nat → Option Nat} {n : Nat} {G : gr_T} {dr : Nat → Bool} {sh : Nat → Nat → Bool} (W : wd_T Rf n) (hQ : mq_T I G dr sh) : ∀ m t acc, t + m = g_n G → wm_W l mX5_drawnOnes 1 0 0 4 [vv_A (some 46), vv_I acc, vv_I (nI t)] [] (I, L, Rf, n) (q_i (bs_N dr m t acc) (I, L, Rf, n)) := by
  intro m
  induction m with
  | zero =>
    intro t acc ht
    have hG := hQ.1
    have h8 := mv_8 hG
    have hk := hQ.2.2.2.1
    have hr := hQ.2.2.2.2
    refine ri_2 oX5_drawnOnes_4 ?_
    refine ra_0 oX5_drawnOnes_5 ?_
    refine rr_giv oX5_drawnOnes_6 (ff_X5_84 rfl) kk_46 (wd_lt W rfl) ⟨by decide, rfl⟩ (mv_c hG) ?_
    refine rr_icmp_ge (tgt := 29) oX5_drawnOnes_9 (by decide) (fun c => ?_) (fun c => ?_)
    rotate_left
    · exact absurd c (by rw [nI_le_iff (by omega) (by omega)]; omega)
    refine ri_1 oX5_drawnOnes_29 ?_
    exact rr_ireturn oX5_drawnOnes_30 rfl rfl ⟨rfl, rfl⟩
  | succ m ih =>
    intro t acc ht
    have hG := hQ.1
    have h8 := mv_8 hG
    have hk := hQ.2.2.2.1
    have hr := hQ.2.2.2.2
    refine ri_2 oX5_drawnOnes_4 ?_
    refine ra_0 oX5_drawnOnes_5 ?_
    refine rr_giv oX5_drawnOnes_6 (ff_X5_84 rfl) kk_46 (wd_lt W rfl) ⟨by decide, rfl⟩ (mv_c hG) ?_
    refine rr_icmp_ge (tgt := 29) oX5_drawnOnes_9 (by decide) (fun c => ?_) (fun c => ?_)
    · (rw [nI_le_iff (by omega) (by omega)] at c; omega)
    refine ri_1 oX5_drawnOnes_12 ?_
    refine ra_0 oX5_drawnOnes_13 ?_
    refine rr_gr (v := 53) oX5_drawnOnes_14 (ff_X5_41 rfl) kk_46 (wd_lt W rfl) ⟨by decide, rfl⟩ (wd_r W rfl rfl) ?_
    refine ri_2 oX5_drawnOnes_17 ?_
    refine rr_iv oX5_drawnOnes_18 kk_53 (wd_lt W rfl) rfl (by omega) (by decide) (hQ.2.1 t (by omega)) ?_
    refine ri_2 oX5_drawnOnes_19 ?_
    refine rr_ishl oX5_drawnOnes_20 ?_
    refine rr_ior oX5_drawnOnes_21 ?_
    by_cases hd : dr t = true
    · rw [if_pos hd]
      refine si_1 oX5_drawnOnes_22 rfl rfl ?_
      refine rn_2 oX5_drawnOnes_23 rfl rfl ?_
      refine rr_goto (tgt := 4) oX5_drawnOnes_26 (by decide) ?_
      simp only [bs_N]
      rw [if_pos hd]
      exact ih (t + 1) _ (by omega)
    · rw [if_neg hd, show (0 : Int32) <<< (nI t &&& 31) = 0 from z_sh t (by omega), Int32.or_zero]
      refine si_1 oX5_drawnOnes_22 rfl rfl ?_
      refine rn_2 oX5_drawnOnes_23 rfl rfl ?_
      refine rr_goto (tgt := 4) oX5_drawnOnes_26 (by decide) ?_
      simp only [bs_N]
      rw [if_neg hd]
      exact ih (t + 1) acc (by omega)
theorem c_X5_drawnOnes (l : Launch) {I : Nat → Nat → Int32} {L : Nat → Nat → Int64} {Rf : Nat → Nat → Option Nat} {n : Nat} {G : gr_T} {dr : Nat → Bool} {sh : Nat → Nat → Bool} (W : wd_T Rf n) (hQ : mq_T I G dr sh) (hd : ∀ t, dr t = true → t < g_n G) : wm_C l mX5_drawnOnes 1 0 0 [vv_A (some 46)] (I, L, Rf, n) (q_i (st_S dr) (I, L, Rf, n)) := by
  refine wm_of (by decide) (Nat.le_of_ble_eq_true rfl) rfl ?_
  have hG := hQ.1
  have h8 := mv_8 hG
  have hk := hQ.2.2.2.1
  have hr := hQ.2.2.2.2
  refine rk_0 oX5_drawnOnes_0 ?_
  refine si_1 oX5_drawnOnes_1 rfl rfl ?_
  refine rk_0 oX5_drawnOnes_2 ?_
  refine si_2 oX5_drawnOnes_3 rfl rfl ?_
  have e : st_S dr = bs_N dr (g_n G) 0 0 := by
    rw [bs_st _ h8]
    exact st_c (fun i _ => by
      cases q : dr i with
      | false => simp
      | true => simp [hd i q])
  rw [e]
  exact lp_X5_drawnOnes l W hQ (g_n G) 0 0 (Nat.zero_add _)
theorem lp_X5_shutMany (l : Launch) {I : Nat → Nat → Int32} {L : Nat → Nat → Int64} {Rf : Nat → Nat → Option Nat} {n : Nat} {G : gr_T} {dr : Nat → Bool} {sh : Nat → Nat → Bool} (W : wd_T Rf n) (hQ : mq_T I G dr sh) : ∀ m t acc, t + m = g_n G → wm_W l mX5_shutMany 2 0 0 4 [vv_A (some 46), vv_I acc, vv_I (nI t)] [] (I, L, Rf, n) (q_i (sm_N (fun i => nI (cn_8 (fun j => sh j i))) m t acc) (I, L, Rf, n)) := by
  intro m
  induction m with
  | zero =>
    intro t acc ht
    have hG := hQ.1
    have h8 := mv_8 hG
    have hk := hQ.2.2.2.1
    have hr := hQ.2.2.2.2
    refine ri_2 oX5_shutMany_4 ?_
    refine ra_0 oX5_shutMany_5 ?_
    refine rr_giv oX5_shutMany_6 (ff_X5_84 rfl) kk_46 (wd_lt W rfl) ⟨by decide, rfl⟩ (mv_c hG) ?_
    refine rr_icmp_ge (tgt := 31) oX5_shutMany_9 (by decide) (fun c => ?_) (fun c => ?_)
    rotate_left
    · exact absurd c (by rw [nI_le_iff (by omega) (by omega)]; omega)
    refine ri_1 oX5_shutMany_31 ?_
    exact rr_ireturn oX5_shutMany_32 rfl rfl ⟨rfl, rfl⟩
  | succ m ih =>
    intro t acc ht
    have hG := hQ.1
    have h8 := mv_8 hG
    have hk := hQ.2.2.2.1
    have hr := hQ.2.2.2.2
    refine ri_2 oX5_shutMany_4 ?_
    refine ra_0 oX5_shutMany_5 ?_
    refine rr_giv oX5_shutMany_6 (ff_X5_84 rfl) kk_46 (wd_lt W rfl) ⟨by decide, rfl⟩ (mv_c hG) ?_
    refine rr_icmp_ge (tgt := 31) oX5_shutMany_9 (by decide) (fun c => ?_) (fun c => ?_)
    · (rw [nI_le_iff (by omega) (by omega)] at c; omega)
    refine ri_1 oX5_shutMany_12 ?_
    refine ra_0 oX5_shutMany_13 ?_
    refine ra_0 oX5_shutMany_14 ?_
    refine rr_gr (v := 54) oX5_shutMany_15 (ff_X5_44 rfl) kk_46 (wd_lt W rfl) ⟨by decide, rfl⟩ (wd_r W rfl rfl) ?_
    refine ri_2 oX5_shutMany_18 ?_
    refine rr_iv oX5_shutMany_19 kk_54 (wd_lt W rfl) rfl (by omega) (by decide) (hQ.2.2.1 t (by omega)) ?_
    refine rr_cVi (c_X5_many l) oX5_shutMany_20 (cv_X5_107 rfl) (by decide) kk_46 (by decide) hcn_5 (wd_lt W rfl) rfl rfl (Nat.le_of_ble_eq_true rfl) ?_
    refine rr_iadd oX5_shutMany_23 ?_
    refine si_1 oX5_shutMany_24 rfl rfl ?_
    refine rn_2 oX5_shutMany_25 rfl rfl ?_
    refine rr_goto (tgt := 4) oX5_shutMany_28 (by decide) ?_
    exact ih (t + 1) _ (by omega)
theorem c_X5_shutMany (l : Launch) {I : Nat → Nat → Int32} {L : Nat → Nat → Int64} {Rf : Nat → Nat → Option Nat} {n : Nat} {G : gr_T} {dr : Nat → Bool} {sh : Nat → Nat → Bool} (W : wd_T Rf n) (hQ : mq_T I G dr sh) : wm_C l mX5_shutMany 2 0 0 [vv_A (some 46)] (I, L, Rf, n) (q_i (sm_N (fun i => nI (cn_8 (fun j => sh j i))) (g_n G) 0 0) (I, L, Rf, n)) := by
  refine wm_of (by decide) (Nat.le_of_ble_eq_true rfl) rfl ?_
  have hG := hQ.1
  have h8 := mv_8 hG
  have hk := hQ.2.2.2.1
  have hr := hQ.2.2.2.2
  refine rk_0 oX5_shutMany_0 ?_
  refine si_1 oX5_shutMany_1 rfl rfl ?_
  refine rk_0 oX5_shutMany_2 ?_
  refine si_2 oX5_shutMany_3 rfl rfl ?_
  exact lp_X5_shutMany l W hQ (g_n G) 0 0 (Nat.zero_add _)
theorem lp_X5_keptOf (l : Launch) {I : Nat → Nat → Int32} {L : Nat → Nat → Int64} {Rf : Nat → Nat → Option Nat} {n : Nat} {G : gr_T} {dr : Nat → Bool} {sh : Nat → Nat → Bool} (W : wd_T Rf n) (hQ : mq_T I G dr sh) {j : Nat} (hj : j < g_n G) (hn4 : ¬ g_k G j = 4) : ∀ m t b, t + m = g_n G → (∀ u, b = some u → u < g_n G) → wm_W l mX5_keptOf 17 0 0 23 [vv_A (some 46), vv_I (nI j), vv_I (st_S (p_sr G dr sh j)), vv_I (oI b), vv_I (nI t)] [] (I, L, Rf, n) (q_i (oI (kp_N (p_kp G dr sh j) (fun i => s_cost G i j) m t b)) (I, L, Rf, n)) := by
  intro m
  induction m with
  | zero =>
    intro t b ht hb
    have hG := hQ.1
    have h8 := mv_8 hG
    have hk := hQ.2.2.2.1
    have hr := hQ.2.2.2.2
    refine ri_4 oX5_keptOf_23 ?_
    refine ra_0 oX5_keptOf_25 ?_
    refine rr_giv oX5_keptOf_26 (ff_X5_84 rfl) kk_46 (wd_lt W rfl) ⟨by decide, rfl⟩ (mv_c hG) ?_
    refine rr_icmp_ge (tgt := 72) oX5_keptOf_29 (by decide) (fun c => ?_) (fun c => ?_)
    rotate_left
    · exact absurd c (by rw [nI_le_iff (by omega) (by omega)]; omega)
    refine ri_3 oX5_keptOf_72 ?_
    exact rr_ireturn oX5_keptOf_73 rfl rfl ⟨rfl, rfl⟩
  | succ m ih =>
    intro t b ht hb
    have hG := hQ.1
    have h8 := mv_8 hG
    have hk := hQ.2.2.2.1
    have hr := hQ.2.2.2.2
    refine ri_4 oX5_keptOf_23 ?_
    refine ra_0 oX5_keptOf_25 ?_
    refine rr_giv oX5_keptOf_26 (ff_X5_84 rfl) kk_46 (wd_lt W rfl) ⟨by decide, rfl⟩ (mv_c hG) ?_
    refine rr_icmp_ge (tgt := 72) oX5_keptOf_29 (by decide) (fun c => ?_) (fun c => ?_)
    · (rw [nI_le_iff (by omega) (by omega)] at c; omega)
    refine ri_2 oX5_keptOf_32 ?_
    refine ri_4 oX5_keptOf_33 ?_
    refine rr_ishr oX5_keptOf_35 ?_
    refine rk_1 oX5_keptOf_36 ?_
    refine rr_iand oX5_keptOf_37 ?_
    rw [st_sh (by omega)]
    by_cases hp : p_sr G dr sh j t = true
    · rw [if_pos hp]
      have hp2 : p_kp G dr sh j t = true := by simp [p_kp, hn4, hp]
      refine rk_1 oX5_keptOf_38 ?_
      refine rr_icmp_ne (tgt := 66) oX5_keptOf_39 (by decide) (fun c1 => ?_) (fun c1 => ?_)
      · exact absurd rfl c1
      rcases b with _ | u
      · refine ri_3 oX5_keptOf_42 ?_
        refine rk_m1 oX5_keptOf_43 ?_
        refine rr_icmp_eq (tgt := 63) oX5_keptOf_44 (by decide) (fun c2 => ?_) (fun c2 => ?_)
        rotate_left
        · exact absurd rfl c2
        refine ri_4 oX5_keptOf_63 ?_
        refine si_3 oX5_keptOf_65 rfl rfl ?_
        refine rn_4 oX5_keptOf_66 rfl rfl ?_
        refine rr_goto (tgt := 23) oX5_keptOf_69 (by decide) ?_
        simp only [kp_N]
        rw [if_pos hp2]
        exact ih (t + 1) (some t) (by omega) (by intro u h; cases h; omega)
      · have hu := hb u rfl
        refine ri_3 oX5_keptOf_42 ?_
        refine rk_m1 oX5_keptOf_43 ?_
        refine rr_icmp_eq (tgt := 63) oX5_keptOf_44 (by decide) (fun c2 => ?_) (fun c2 => ?_)
        · exact absurd c2 (nI_nm1 (by omega))
        refine ra_0 oX5_keptOf_47 ?_
        refine ri_4 oX5_keptOf_48 ?_
        refine ri_1 oX5_keptOf_50 ?_
        refine rr_cVi (c_X5_costOf l W hQ (by omega) (by omega)) oX5_keptOf_51 (cv_X5_213 rfl) (by decide) kk_46 (by decide) hcn_5 (wd_lt W rfl) rfl rfl (Nat.le_of_ble_eq_true rfl) ?_
        refine ra_0 oX5_keptOf_54 ?_
        refine ri_3 oX5_keptOf_55 ?_
        refine ri_1 oX5_keptOf_56 ?_
        refine rr_cVi (c_X5_costOf l W hQ (i := u) (j := j) hu hj) oX5_keptOf_57 (cv_X5_213 rfl) (by decide) kk_46 (by decide) hcn_5 (wd_lt W rfl) rfl rfl (Nat.le_of_ble_eq_true rfl) ?_
        refine rr_icmp_le (tgt := 66) oX5_keptOf_60 (by decide) (fun c3 => ?_) (fun c3 => ?_)
        · refine rn_4 oX5_keptOf_66 rfl rfl ?_
          refine rr_goto (tgt := 23) oX5_keptOf_69 (by decide) ?_
          simp only [kp_N]
          rw [if_pos hp2]
          try simp only []
          rw [if_neg (Int32.not_lt.mpr c3)]
          exact ih (t + 1) (some u) (by omega) hb
        · refine ri_4 oX5_keptOf_63 ?_
          refine si_3 oX5_keptOf_65 rfl rfl ?_
          refine rn_4 oX5_keptOf_66 rfl rfl ?_
          refine rr_goto (tgt := 23) oX5_keptOf_69 (by decide) ?_
          simp only [kp_N]
          rw [if_pos hp2]
          try simp only []
          rw [if_pos (Int32.not_le.mp c3)]
          exact ih (t + 1) (some t) (by omega) (by intro u h; cases h; omega)
    · rw [if_neg hp]
      have hp2 : ¬ p_kp G dr sh j t = true := by simp [p_kp, hp]
      refine rk_1 oX5_keptOf_38 ?_
      refine rr_icmp_ne (tgt := 66) oX5_keptOf_39 (by decide) (fun c1 => ?_) (fun c1 => ?_)
      rotate_left
      · exact absurd c1 (by decide)
      refine rn_4 oX5_keptOf_66 rfl rfl ?_
      refine rr_goto (tgt := 23) oX5_keptOf_69 (by decide) ?_
      simp only [kp_N]
      rw [if_neg hp2]
      exact ih (t + 1) b (by omega) hb
theorem kp_0 {c : Nat → Int32} {p : Nat → Bool} (h : ∀ i, p i = false) : ∀ m t b, kp_N p c m t b = b := by
  intro m
  induction m with
  | zero => intro t b; rfl
  | succ m ih => intro t b; simp only [kp_N]; rw [if_neg (by rw [h t]; decide)]; exact ih (t + 1) b
theorem c_X5_keptOf (l : Launch) {I : Nat → Nat → Int32} {L : Nat → Nat → Int64} {Rf : Nat → Nat → Option Nat} {n : Nat} {G : gr_T} {dr : Nat → Bool} {sh : Nat → Nat → Bool} (W : wd_T Rf n) (hQ : mq_T I G dr sh) {j : Nat} (hj : j < g_n G) (hjh : is_H (g_k G j)) : wm_C l mX5_keptOf 17 0 0 [vv_A (some 46), vv_I (nI j)] (I, L, Rf, n) (q_i (oI (s_kept G dr sh j)) (I, L, Rf, n)) := by
  refine wm_of (by decide) (Nat.le_of_ble_eq_true rfl) rfl ?_
  have hG := hQ.1
  have h8 := mv_8 hG
  have hk := hQ.2.2.2.1
  have hr := hQ.2.2.2.2
  refine ra_0 oX5_keptOf_0 ?_
  refine ri_1 oX5_keptOf_1 ?_
  refine rr_cVi (c_X5_seersOf l W hQ hj hjh) oX5_keptOf_2 (cv_X5_104 rfl) (by decide) kk_46 (by decide) hcn_5 (wd_lt W rfl) rfl rfl (Nat.le_of_ble_eq_true rfl) ?_
  refine si_2 oX5_keptOf_5 rfl rfl ?_
  refine rk_m1 oX5_keptOf_6 ?_
  refine si_3 oX5_keptOf_7 rfl rfl ?_
  refine ra_0 oX5_keptOf_8 ?_
  refine rr_gr (v := 48) oX5_keptOf_9 (ff_X5_26 rfl) kk_46 (wd_lt W rfl) ⟨by decide, rfl⟩ (wd_r W rfl rfl) ?_
  refine ri_1 oX5_keptOf_12 ?_
  refine rr_iv oX5_keptOf_13 kk_48 (wd_lt W rfl) rfl (by omega) (by decide) (mv_k hG (by omega)) ?_
  refine rk_4 oX5_keptOf_14 ?_
  refine rr_icmp_ne (tgt := 20) oX5_keptOf_15 (by decide) (fun c => ?_) (fun c => ?_)
  · refine rk_0 oX5_keptOf_20 ?_
    refine si_4 oX5_keptOf_21 rfl rfl ?_
    exact lp_X5_keptOf l W hQ hj c (g_n G) 0 none (Nat.zero_add _) (by intro u h; cases h)
  · refine rk_m1 oX5_keptOf_18 ?_
    exact rr_ireturn oX5_keptOf_19 rfl rfl (q_is (by rw [s_kept, kp_0 (fun i => by simp [p_kp, c])]; rfl))
