/-! the model: image, restore (by program: wip/whole/c44.py) -/
theorem lp_X5_carriesB (l : Launch) {I : Nat → Nat → Int32} {L : Nat → Nat → Int64} {Rf : Nat → Nat → Option Nat} {n : Nat} (W : wd_T Rf n) {p q f : Nat} (hp : kO p = 6 ∧ zO p = 8) (hp2 : p < n) (hq : kO q = 6 ∧ zO q = 70) (hq2 : q < n) (hpq : p ≠ q) (hf : f + 8 ≤ 70) : ∀ m (J : Nat → Nat → Int32) t, t + m = 8 → (∀ i, i < 8 → J p i = if i < t then I q (f + i) else I p i) → (∀ a, a ≠ p → J a = I a) → wm_W l mX5_carries 1 0 0 3 [vv_A (some 46), vv_A (some p), vv_A (some q), vv_I (nI f), vv_I 1, vv_I (nI t)] [] (J, L, Rf, n) (q_n (fun v J => v = nI (f + 8) ∧ (∀ i, i < 8 → J p i = I q (f + i)) ∧ ∀ a, a ≠ p → J a = I a) L Rf n) := by
  intro m
  induction m with
  | zero =>
    intro J t ht h1 h2
    refine ri_5 oX5_carries_3 ?_
    refine rr_bipush (v := 8) oX5_carries_5 (by decide) ?_
    refine rr_icmp_ge (tgt := 44) oX5_carries_7 (by decide) (fun c => ?_) (fun c => ?_)
    rotate_left
    · exact absurd c (fun z => by rw [show (8 : Int32) = nI 8 from rfl, nI_le_iff (by omega) (by omega)] at z; omega)
    refine ri_3 oX5_carries_44 ?_
    refine rr_bipush (v := 8) oX5_carries_45 (by decide) ?_
    refine rr_iadd oX5_carries_47 ?_
    exact rr_ireturn oX5_carries_48 rfl rfl (q_n_of ⟨nI_add f 8, fun i hi => by rw [h1 i hi, if_pos (by omega)], h2⟩)
  | succ m ih =>
    intro J t ht h1 h2
    refine ri_5 oX5_carries_3 ?_
    refine rr_bipush (v := 8) oX5_carries_5 (by decide) ?_
    refine rr_icmp_ge (tgt := 44) oX5_carries_7 (by decide) (fun c => ?_) (fun c => ?_)
    · (rw [show (8 : Int32) = nI 8 from rfl, nI_le_iff (by omega) (by omega)] at c; omega)
    refine ri_4 oX5_carries_10 ?_
    refine rr_if_eq (tgt := 28) oX5_carries_12 (by decide) (fun q => absurd q (by decide)) (fun _ => ?_)
    refine ra_1 oX5_carries_15 ?_
    refine ri_5 oX5_carries_16 ?_
    refine ra_2 oX5_carries_18 ?_
    refine ri_3 oX5_carries_19 ?_
    refine ri_5 oX5_carries_20 ?_
    refine rr_iadd oX5_carries_22 ?_
    refine rr_ild (t := f + t) oX5_carries_23 hq hq2 (nI_add f t) (by omega) (by decide) ?_
    refine rr_ist oX5_carries_24 hp hp2 rfl (by omega) (by decide) ?_
    refine rr_goto (tgt := 38) oX5_carries_25 (by decide) ?_
    refine rn_5 oX5_carries_38 rfl rfl ?_
    refine rr_goto (tgt := 3) oX5_carries_41 (by decide) ?_
    refine ih _ (t + 1) (by omega) (fun i hi => ?_) (fun a ha => by rw [up_I_ne ha]; exact h2 a ha)
    rw [up_I_eq]
    by_cases z : i = t
    · subst z
      simp only [upd, if_true]
      rw [if_pos (by omega), h2 q (fun e => hpq e.symm)]
    · simp only [upd, if_neg z]
      rw [h1 i hi]
      by_cases y : i < t
      · rw [if_pos y, if_pos (by omega)]
      · rw [if_neg y, if_neg (by omega)]
theorem c_X5_carriesB (l : Launch) {I : Nat → Nat → Int32} {L : Nat → Nat → Int64} {Rf : Nat → Nat → Option Nat} {n : Nat} (W : wd_T Rf n) {p q f : Nat} (hp : kO p = 6 ∧ zO p = 8) (hp2 : p < n) (hq : kO q = 6 ∧ zO q = 70) (hq2 : q < n) (hpq : p ≠ q) (hf : f + 8 ≤ 70) : wm_C l mX5_carries 1 0 0 [vv_A (some 46), vv_A (some p), vv_A (some q), vv_I (nI f), vv_I 1] (I, L, Rf, n) (q_n (fun v J => v = nI (f + 8) ∧ (∀ i, i < 8 → J p i = I q (f + i)) ∧ ∀ a, a ≠ p → J a = I a) L Rf n) := by
  refine wm_of (by decide) (Nat.le_of_ble_eq_true rfl) rfl ?_
  refine rk_0 oX5_carries_0 ?_
  refine si_5 oX5_carries_1 rfl rfl ?_
  exact lp_X5_carriesB l W hp hp2 hq hq2 hpq hf 8 I 0 rfl (fun i _ => by rw [if_neg (by omega)]) (fun _ _ => rfl)
theorem lp_X5_carriesF (l : Launch) {I : Nat → Nat → Int32} {L : Nat → Nat → Int64} {Rf : Nat → Nat → Option Nat} {n : Nat} (W : wd_T Rf n) {p q f : Nat} (hp : kO p = 6 ∧ zO p = 8) (hp2 : p < n) (hq : kO q = 6 ∧ zO q = 70) (hq2 : q < n) (hpq : p ≠ q) (hf : f + 8 ≤ 70) : ∀ m (J : Nat → Nat → Int32) t, t + m = 8 → (∀ k, J q k = if f ≤ k ∧ k < f + t then I p (k - f) else I q k) → (∀ a, a ≠ q → J a = I a) → wm_W l mX5_carries 1 0 0 3 [vv_A (some 46), vv_A (some p), vv_A (some q), vv_I (nI f), vv_I 0, vv_I (nI t)] [] (J, L, Rf, n) (q_n (fun v J => v = nI (f + 8) ∧ (∀ k, J q k = if f ≤ k ∧ k < f + 8 then I p (k - f) else I q k) ∧ ∀ a, a ≠ q → J a = I a) L Rf n) := by
  intro m
  induction m with
  | zero =>
    intro J t ht h1 h2
    refine ri_5 oX5_carries_3 ?_
    refine rr_bipush (v := 8) oX5_carries_5 (by decide) ?_
    refine rr_icmp_ge (tgt := 44) oX5_carries_7 (by decide) (fun c => ?_) (fun c => ?_)
    rotate_left
    · exact absurd c (fun z => by rw [show (8 : Int32) = nI 8 from rfl, nI_le_iff (by omega) (by omega)] at z; omega)
    refine ri_3 oX5_carries_44 ?_
    refine rr_bipush (v := 8) oX5_carries_45 (by decide) ?_
    refine rr_iadd oX5_carries_47 ?_
    exact rr_ireturn oX5_carries_48 rfl rfl (q_n_of ⟨nI_add f 8, fun k => by rw [h1 k, show t = 8 by omega], h2⟩)
  | succ m ih =>
    intro J t ht h1 h2
    refine ri_5 oX5_carries_3 ?_
    refine rr_bipush (v := 8) oX5_carries_5 (by decide) ?_
    refine rr_icmp_ge (tgt := 44) oX5_carries_7 (by decide) (fun c => ?_) (fun c => ?_)
    · (rw [show (8 : Int32) = nI 8 from rfl, nI_le_iff (by omega) (by omega)] at c; omega)
    refine ri_4 oX5_carries_10 ?_
    refine rr_if_eq (tgt := 28) oX5_carries_12 (by decide) (fun _ => ?_) (fun q => absurd q (by decide))
    refine ra_2 oX5_carries_28 ?_
    refine ri_3 oX5_carries_29 ?_
    refine ri_5 oX5_carries_30 ?_
    refine rr_iadd oX5_carries_32 ?_
    refine ra_1 oX5_carries_33 ?_
    refine ri_5 oX5_carries_34 ?_
    refine rr_ild oX5_carries_36 hp hp2 rfl (by omega) (by decide) ?_
    refine rr_ist (t := f + t) oX5_carries_37 hq hq2 (nI_add f t) (by omega) (by decide) ?_
    refine rn_5 oX5_carries_38 rfl rfl ?_
    refine rr_goto (tgt := 3) oX5_carries_41 (by decide) ?_
    refine ih _ (t + 1) (by omega) (fun k => ?_) (fun a ha => by rw [up_I_ne ha]; exact h2 a ha)
    rw [up_I_eq]
    by_cases z : k = f + t
    · subst z
      simp only [upd, if_true]
      rw [if_pos (by omega), h2 p hpq, show f + t - f = t by omega]
    · simp only [upd, if_neg z]
      rw [h1 k]
      by_cases y : f ≤ k ∧ k < f + t
      · rw [if_pos y, if_pos (by omega)]
      · rw [if_neg y, if_neg (by omega)]
theorem c_X5_carriesF (l : Launch) {I : Nat → Nat → Int32} {L : Nat → Nat → Int64} {Rf : Nat → Nat → Option Nat} {n : Nat} (W : wd_T Rf n) {p q f : Nat} (hp : kO p = 6 ∧ zO p = 8) (hp2 : p < n) (hq : kO q = 6 ∧ zO q = 70) (hq2 : q < n) (hpq : p ≠ q) (hf : f + 8 ≤ 70) : wm_C l mX5_carries 1 0 0 [vv_A (some 46), vv_A (some p), vv_A (some q), vv_I (nI f), vv_I 0] (I, L, Rf, n) (q_n (fun v J => v = nI (f + 8) ∧ (∀ k, J q k = if f ≤ k ∧ k < f + 8 then I p (k - f) else I q k) ∧ ∀ a, a ≠ q → J a = I a) L Rf n) := by
  refine wm_of (by decide) (Nat.le_of_ble_eq_true rfl) rfl ?_
  refine rk_0 oX5_carries_0 ?_
  refine si_5 oX5_carries_1 rfl rfl ?_
  exact lp_X5_carriesF l W hp hp2 hq hq2 hpq hf 8 I 0 rfl (fun k => by rw [if_neg (by omega)]) (fun _ _ => rfl)
theorem c_X5_allF (l : Launch) {I : Nat → Nat → Int32} {L : Nat → Nat → Int64} {Rf : Nat → Nat → Option Nat} {n : Nat} {q : Nat} (W : wd_T Rf n) (hq : kO q = 6 ∧ zO q = 70) (hq2 : q < n) (hq3 : 63 ≤ q ∧ q ≤ 64) {B : gb_T} (hB : mg_T I B) : wm_C l mX5_all 2 0 0 [vv_A (some 46), vv_A (some q), vv_I 0] (I, L, Rf, n) (q_m (fun J => ka_T J q B ∧ ∀ a, a ≠ q → J a = I a) L Rf n) := by
  refine wm_of (by decide) (Nat.le_of_ble_eq_true rfl) rfl ?_
  refine ra_0 oX5_all_0 ?_
  refine ra_0 oX5_all_1 ?_
  refine rr_gr (v := 48) oX5_all_2 (ff_X5_26 rfl) kk_46 (wd_lt W rfl) ⟨by decide, rfl⟩ (wd_r W rfl rfl) ?_
  refine ra_1 oX5_all_5 ?_
  refine rk_0 oX5_all_6 ?_
  refine ri_2 oX5_all_7 ?_
  refine rr_cVn (c_X5_carriesF l W (f := 0) kk_48 (wd_lt W rfl) hq hq2 (by omega) (by omega)) oX5_all_8 (cv_X5_169 rfl) (by decide) kk_46 (by decide) hcn_5 (wd_lt W rfl) rfl rfl (Nat.le_of_ble_eq_true rfl) (fun v1 J1 h1 => ?_)
  obtain ⟨rfl, b1, a1⟩ := h1
  refine si_3 oX5_all_11 rfl rfl ?_
  refine ra_0 oX5_all_12 ?_
  refine ra_0 oX5_all_13 ?_
  refine rr_gr (v := 49) oX5_all_14 (ff_X5_29 rfl) kk_46 (wd_lt W rfl) ⟨by decide, rfl⟩ (wd_r W rfl rfl) ?_
  refine ra_1 oX5_all_17 ?_
  refine ri_3 oX5_all_18 ?_
  refine ri_2 oX5_all_19 ?_
  refine rr_cVn (c_X5_carriesF l W (f := 8) kk_49 (wd_lt W rfl) hq hq2 (by omega) (by omega)) oX5_all_20 (cv_X5_169 rfl) (by decide) kk_46 (by decide) hcn_5 (wd_lt W rfl) rfl rfl (Nat.le_of_ble_eq_true rfl) (fun v2 J2 h2 => ?_)
  obtain ⟨rfl, b2, a2⟩ := h2
  refine si_3 oX5_all_23 rfl rfl ?_
  refine ra_0 oX5_all_24 ?_
  refine ra_0 oX5_all_25 ?_
  refine rr_gr (v := 50) oX5_all_26 (ff_X5_32 rfl) kk_46 (wd_lt W rfl) ⟨by decide, rfl⟩ (wd_r W rfl rfl) ?_
  refine ra_1 oX5_all_29 ?_
  refine ri_3 oX5_all_30 ?_
  refine ri_2 oX5_all_31 ?_
  refine rr_cVn (c_X5_carriesF l W (f := 16) kk_50 (wd_lt W rfl) hq hq2 (by omega) (by omega)) oX5_all_32 (cv_X5_169 rfl) (by decide) kk_46 (by decide) hcn_5 (wd_lt W rfl) rfl rfl (Nat.le_of_ble_eq_true rfl) (fun v3 J3 h3 => ?_)
  obtain ⟨rfl, b3, a3⟩ := h3
  refine si_3 oX5_all_35 rfl rfl ?_
  refine ra_0 oX5_all_36 ?_
  refine ra_0 oX5_all_37 ?_
  refine rr_gr (v := 51) oX5_all_38 (ff_X5_35 rfl) kk_46 (wd_lt W rfl) ⟨by decide, rfl⟩ (wd_r W rfl rfl) ?_
  refine ra_1 oX5_all_41 ?_
  refine ri_3 oX5_all_42 ?_
  refine ri_2 oX5_all_43 ?_
  refine rr_cVn (c_X5_carriesF l W (f := 24) kk_51 (wd_lt W rfl) hq hq2 (by omega) (by omega)) oX5_all_44 (cv_X5_169 rfl) (by decide) kk_46 (by decide) hcn_5 (wd_lt W rfl) rfl rfl (Nat.le_of_ble_eq_true rfl) (fun v4 J4 h4 => ?_)
  obtain ⟨rfl, b4, a4⟩ := h4
  refine si_3 oX5_all_47 rfl rfl ?_
  refine ra_0 oX5_all_48 ?_
  refine ra_0 oX5_all_49 ?_
  refine rr_gr (v := 52) oX5_all_50 (ff_X5_38 rfl) kk_46 (wd_lt W rfl) ⟨by decide, rfl⟩ (wd_r W rfl rfl) ?_
  refine ra_1 oX5_all_53 ?_
  refine ri_3 oX5_all_54 ?_
  refine ri_2 oX5_all_55 ?_
  refine rr_cVn (c_X5_carriesF l W (f := 32) kk_52 (wd_lt W rfl) hq hq2 (by omega) (by omega)) oX5_all_56 (cv_X5_169 rfl) (by decide) kk_46 (by decide) hcn_5 (wd_lt W rfl) rfl rfl (Nat.le_of_ble_eq_true rfl) (fun v5 J5 h5 => ?_)
  obtain ⟨rfl, b5, a5⟩ := h5
  refine si_3 oX5_all_59 rfl rfl ?_
  refine ra_0 oX5_all_60 ?_
  refine ra_0 oX5_all_61 ?_
  refine rr_gr (v := 53) oX5_all_62 (ff_X5_41 rfl) kk_46 (wd_lt W rfl) ⟨by decide, rfl⟩ (wd_r W rfl rfl) ?_
  refine ra_1 oX5_all_65 ?_
  refine ri_3 oX5_all_66 ?_
  refine ri_2 oX5_all_67 ?_
  refine rr_cVn (c_X5_carriesF l W (f := 40) kk_53 (wd_lt W rfl) hq hq2 (by omega) (by omega)) oX5_all_68 (cv_X5_169 rfl) (by decide) kk_46 (by decide) hcn_5 (wd_lt W rfl) rfl rfl (Nat.le_of_ble_eq_true rfl) (fun v6 J6 h6 => ?_)
  obtain ⟨rfl, b6, a6⟩ := h6
  refine si_3 oX5_all_71 rfl rfl ?_
  refine ra_0 oX5_all_72 ?_
  refine ra_0 oX5_all_73 ?_
  refine rr_gr (v := 54) oX5_all_74 (ff_X5_44 rfl) kk_46 (wd_lt W rfl) ⟨by decide, rfl⟩ (wd_r W rfl rfl) ?_
  refine ra_1 oX5_all_77 ?_
  refine ri_3 oX5_all_78 ?_
  refine ri_2 oX5_all_79 ?_
  refine rr_cVn (c_X5_carriesF l W (f := 48) kk_54 (wd_lt W rfl) hq hq2 (by omega) (by omega)) oX5_all_80 (cv_X5_169 rfl) (by decide) kk_46 (by decide) hcn_5 (wd_lt W rfl) rfl rfl (Nat.le_of_ble_eq_true rfl) (fun v7 J7 h7 => ?_)
  obtain ⟨rfl, b7, a7⟩ := h7
  refine si_3 oX5_all_83 rfl rfl ?_
  have x0 : ∀ t, t < 8 → J7 q (0 + t) = I 48 t := fun t ht => by rw [b7, if_neg (by omega), b6, if_neg (by omega), b5, if_neg (by omega), b4, if_neg (by omega), b3, if_neg (by omega), b2, if_neg (by omega), b1, if_pos (by omega), show 0 + t - 0 = t by omega]
  have x1 : ∀ t, t < 8 → J7 q (8 + t) = I 49 t := fun t ht => by rw [b7, if_neg (by omega), b6, if_neg (by omega), b5, if_neg (by omega), b4, if_neg (by omega), b3, if_neg (by omega), b2, if_pos (by omega), show 8 + t - 8 = t by omega, a1 49 (by omega)]
  have x2 : ∀ t, t < 8 → J7 q (16 + t) = I 50 t := fun t ht => by rw [b7, if_neg (by omega), b6, if_neg (by omega), b5, if_neg (by omega), b4, if_neg (by omega), b3, if_pos (by omega), show 16 + t - 16 = t by omega, a2 50 (by omega), a1 50 (by omega)]
  have x3 : ∀ t, t < 8 → J7 q (24 + t) = I 51 t := fun t ht => by rw [b7, if_neg (by omega), b6, if_neg (by omega), b5, if_neg (by omega), b4, if_pos (by omega), show 24 + t - 24 = t by omega, a3 51 (by omega), a2 51 (by omega), a1 51 (by omega)]
  have x4 : ∀ t, t < 8 → J7 q (32 + t) = I 52 t := fun t ht => by rw [b7, if_neg (by omega), b6, if_neg (by omega), b5, if_pos (by omega), show 32 + t - 32 = t by omega, a4 52 (by omega), a3 52 (by omega), a2 52 (by omega), a1 52 (by omega)]
  have x5 : ∀ t, t < 8 → J7 q (40 + t) = I 53 t := fun t ht => by rw [b7, if_neg (by omega), b6, if_pos (by omega), show 40 + t - 40 = t by omega, a5 53 (by omega), a4 53 (by omega), a3 53 (by omega), a2 53 (by omega), a1 53 (by omega)]
  have x6 : ∀ t, t < 8 → J7 q (48 + t) = I 54 t := fun t ht => by rw [b7, if_pos (by omega), show 48 + t - 48 = t by omega, a6 54 (by omega), a5 54 (by omega), a4 54 (by omega), a3 54 (by omega), a2 54 (by omega), a1 54 (by omega)]
  have xx : ∀ k, k < 56 → ∀ v0 v1 v2 v3 v4, up_I (up_I (up_I (up_I (up_I J7 q 56 v0) q 57 v1) q 58 v2) q 59 v3) q 60 v4 q k = J7 q k := fun k hk v0 v1 v2 v3 v4 => by rw [up_I_at_ne (by omega), up_I_at_ne (by omega), up_I_at_ne (by omega), up_I_at_ne (by omega), up_I_at_ne (by omega)]
  refine ri_2 oX5_all_84 ?_
  refine rr_if_eq (tgt := 134) oX5_all_85 (by decide) (fun _ => ?_) (fun q => absurd q (by decide))
  refine ra_1 oX5_all_134 ?_
  refine ri_3 oX5_all_135 ?_
  refine ra_0 oX5_all_136 ?_
  refine rr_giv oX5_all_137 (ff_X5_84 rfl) kk_46 (wd_lt W rfl) ⟨by decide, rfl⟩ (show _ = nI (g_n (b_G B)) from by (repeat rw [up_I_ne (by omega)]); rw [a7 46 (by omega), a6 46 (by omega), a5 46 (by omega), a4 46 (by omega), a3 46 (by omega), a2 46 (by omega), a1 46 (by omega)]; exact hB.1.2.1) ?_
  refine rr_ist (t := 56) oX5_all_140 hq hq2 rfl (by omega) (by decide) ?_
  refine ra_1 oX5_all_141 ?_
  refine ri_3 oX5_all_142 ?_
  refine rk_1 oX5_all_143 ?_
  refine rr_iadd oX5_all_144 ?_
  refine ra_0 oX5_all_145 ?_
  refine rr_giv oX5_all_146 (ff_X5_7 rfl) kk_46 (wd_lt W rfl) ⟨by decide, rfl⟩ (show _ = g_s (b_G B) from by (repeat rw [up_I_ne (by omega)]); rw [a7 46 (by omega), a6 46 (by omega), a5 46 (by omega), a4 46 (by omega), a3 46 (by omega), a2 46 (by omega), a1 46 (by omega)]; exact hB.1.2.2.1) ?_
  refine rr_ist (t := 57) oX5_all_149 hq hq2 (nI_add 56 1) (by omega) (by decide) ?_
  refine ra_1 oX5_all_150 ?_
  refine ri_3 oX5_all_151 ?_
  refine rk_2 oX5_all_152 ?_
  refine rr_iadd oX5_all_153 ?_
  refine ra_0 oX5_all_154 ?_
  refine rr_giv oX5_all_155 (ff_X5_13 rfl) kk_46 (wd_lt W rfl) ⟨by decide, rfl⟩ (show _ = g_f (b_G B) from by (repeat rw [up_I_ne (by omega)]); rw [a7 46 (by omega), a6 46 (by omega), a5 46 (by omega), a4 46 (by omega), a3 46 (by omega), a2 46 (by omega), a1 46 (by omega)]; exact hB.1.2.2.2.1) ?_
  refine rr_ist (t := 58) oX5_all_158 hq hq2 (nI_add 56 2) (by omega) (by decide) ?_
  refine ra_1 oX5_all_159 ?_
  refine ri_3 oX5_all_160 ?_
  refine rk_3 oX5_all_161 ?_
  refine rr_iadd oX5_all_162 ?_
  refine ra_0 oX5_all_163 ?_
  refine rr_giv oX5_all_164 (ff_X5_173 rfl) kk_46 (wd_lt W rfl) ⟨by decide, rfl⟩ (show _ = b_fi B from by (repeat rw [up_I_ne (by omega)]); rw [a7 46 (by omega), a6 46 (by omega), a5 46 (by omega), a4 46 (by omega), a3 46 (by omega), a2 46 (by omega), a1 46 (by omega)]; exact hB.2.2.2.1) ?_
  refine rr_ist (t := 59) oX5_all_167 hq hq2 (nI_add 56 3) (by omega) (by decide) ?_
  refine ra_1 oX5_all_168 ?_
  refine ri_3 oX5_all_169 ?_
  refine rk_4 oX5_all_170 ?_
  refine rr_iadd oX5_all_171 ?_
  refine ra_0 oX5_all_172 ?_
  refine rr_giv oX5_all_173 (ff_X5_16 rfl) kk_46 (wd_lt W rfl) ⟨by decide, rfl⟩ (show _ = b_sd B from by (repeat rw [up_I_ne (by omega)]); rw [a7 46 (by omega), a6 46 (by omega), a5 46 (by omega), a4 46 (by omega), a3 46 (by omega), a2 46 (by omega), a1 46 (by omega)]; exact hB.2.2.2.2) ?_
  refine rr_ist (t := 60) oX5_all_176 hq hq2 (nI_add 56 4) (by omega) (by decide) ?_
  exact rr_return oX5_all_177 rfl (q_m_of ⟨⟨⟨hB.1.1, fun t ht => by
      have h8 : g_n (b_G B) ≤ 8 := hB.1.1
      have y0 := x0 t (by omega)
      rw [Nat.zero_add] at y0
      have e := hB.1.2.2.2.2 t ht
      refine ⟨?_, ?_, ?_, ?_, ?_⟩
      · rw [xx _ (by omega), y0]; exact e.1
      · rw [xx _ (by omega), x1 t (by omega)]; exact e.2.1
      · rw [xx _ (by omega), x2 t (by omega)]; exact e.2.2.1
      · rw [xx _ (by omega), x3 t (by omega)]; exact e.2.2.2.1
      · rw [xx _ (by omega), x4 t (by omega)]; exact e.2.2.2.2⟩, fun t ht => by rw [xx _ (by omega), x5 t (by omega)]; exact hB.2.1 t ht, fun t ht => by rw [xx _ (by omega), x6 t (by omega)]; exact hB.2.2.1 t ht,
      by rw [up_I_at_ne (by omega), up_I_at_ne (by omega), up_I_at_ne (by omega), up_I_at_ne (by omega), up_I_at], by rw [up_I_at_ne (by omega), up_I_at_ne (by omega), up_I_at_ne (by omega), up_I_at], by rw [up_I_at_ne (by omega), up_I_at_ne (by omega), up_I_at], by rw [up_I_at_ne (by omega), up_I_at], up_I_at⟩,
      fun a ha => by rw [up_I_ne ha, up_I_ne ha, up_I_ne ha, up_I_ne ha, up_I_ne ha, a7 a ha, a6 a ha, a5 a ha, a4 a ha, a3 a ha, a2 a ha, a1 a ha]⟩)
theorem c_X5_allB (l : Launch) {I : Nat → Nat → Int32} {L : Nat → Nat → Int64} {Rf : Nat → Nat → Option Nat} {n : Nat} {q : Nat} (W : wd_T Rf n) (hq : kO q = 6 ∧ zO q = 70) (hq2 : q < n) (hq3 : 63 ≤ q ∧ q ≤ 64) {B : gb_T} (hB : ka_T I q B) : wm_C l mX5_all 2 0 0 [vv_A (some 46), vv_A (some q), vv_I 1] (I, L, Rf, n) (q_m (fun J => mg_T J B ∧ (∀ a, (a < 46 ∨ a = 47 ∨ 54 < a) → J a = I a) ∧ ∀ f, 4 < f → J 46 f = I 46 f) L Rf n) := by
  refine wm_of (by decide) (Nat.le_of_ble_eq_true rfl) rfl ?_
  refine ra_0 oX5_all_0 ?_
  refine ra_0 oX5_all_1 ?_
  refine rr_gr (v := 48) oX5_all_2 (ff_X5_26 rfl) kk_46 (wd_lt W rfl) ⟨by decide, rfl⟩ (wd_r W rfl rfl) ?_
  refine ra_1 oX5_all_5 ?_
  refine rk_0 oX5_all_6 ?_
  refine ri_2 oX5_all_7 ?_
  refine rr_cVn (c_X5_carriesB l W (f := 0) kk_48 (wd_lt W rfl) hq hq2 (by omega) (by omega)) oX5_all_8 (cv_X5_169 rfl) (by decide) kk_46 (by decide) hcn_5 (wd_lt W rfl) rfl rfl (Nat.le_of_ble_eq_true rfl) (fun v1 J1 h1 => ?_)
  obtain ⟨rfl, b1, a1⟩ := h1
  refine si_3 oX5_all_11 rfl rfl ?_
  refine ra_0 oX5_all_12 ?_
  refine ra_0 oX5_all_13 ?_
  refine rr_gr (v := 49) oX5_all_14 (ff_X5_29 rfl) kk_46 (wd_lt W rfl) ⟨by decide, rfl⟩ (wd_r W rfl rfl) ?_
  refine ra_1 oX5_all_17 ?_
  refine ri_3 oX5_all_18 ?_
  refine ri_2 oX5_all_19 ?_
  refine rr_cVn (c_X5_carriesB l W (f := 8) kk_49 (wd_lt W rfl) hq hq2 (by omega) (by omega)) oX5_all_20 (cv_X5_169 rfl) (by decide) kk_46 (by decide) hcn_5 (wd_lt W rfl) rfl rfl (Nat.le_of_ble_eq_true rfl) (fun v2 J2 h2 => ?_)
  obtain ⟨rfl, b2, a2⟩ := h2
  refine si_3 oX5_all_23 rfl rfl ?_
  refine ra_0 oX5_all_24 ?_
  refine ra_0 oX5_all_25 ?_
  refine rr_gr (v := 50) oX5_all_26 (ff_X5_32 rfl) kk_46 (wd_lt W rfl) ⟨by decide, rfl⟩ (wd_r W rfl rfl) ?_
  refine ra_1 oX5_all_29 ?_
  refine ri_3 oX5_all_30 ?_
  refine ri_2 oX5_all_31 ?_
  refine rr_cVn (c_X5_carriesB l W (f := 16) kk_50 (wd_lt W rfl) hq hq2 (by omega) (by omega)) oX5_all_32 (cv_X5_169 rfl) (by decide) kk_46 (by decide) hcn_5 (wd_lt W rfl) rfl rfl (Nat.le_of_ble_eq_true rfl) (fun v3 J3 h3 => ?_)
  obtain ⟨rfl, b3, a3⟩ := h3
  refine si_3 oX5_all_35 rfl rfl ?_
  refine ra_0 oX5_all_36 ?_
  refine ra_0 oX5_all_37 ?_
  refine rr_gr (v := 51) oX5_all_38 (ff_X5_35 rfl) kk_46 (wd_lt W rfl) ⟨by decide, rfl⟩ (wd_r W rfl rfl) ?_
  refine ra_1 oX5_all_41 ?_
  refine ri_3 oX5_all_42 ?_
  refine ri_2 oX5_all_43 ?_
  refine rr_cVn (c_X5_carriesB l W (f := 24) kk_51 (wd_lt W rfl) hq hq2 (by omega) (by omega)) oX5_all_44 (cv_X5_169 rfl) (by decide) kk_46 (by decide) hcn_5 (wd_lt W rfl) rfl rfl (Nat.le_of_ble_eq_true rfl) (fun v4 J4 h4 => ?_)
  obtain ⟨rfl, b4, a4⟩ := h4
  refine si_3 oX5_all_47 rfl rfl ?_
  refine ra_0 oX5_all_48 ?_
  refine ra_0 oX5_all_49 ?_
  refine rr_gr (v := 52) oX5_all_50 (ff_X5_38 rfl) kk_46 (wd_lt W rfl) ⟨by decide, rfl⟩ (wd_r W rfl rfl) ?_
  refine ra_1 oX5_all_53 ?_
  refine ri_3 oX5_all_54 ?_
  refine ri_2 oX5_all_55 ?_
  refine rr_cVn (c_X5_carriesB l W (f := 32) kk_52 (wd_lt W rfl) hq hq2 (by omega) (by omega)) oX5_all_56 (cv_X5_169 rfl) (by decide) kk_46 (by decide) hcn_5 (wd_lt W rfl) rfl rfl (Nat.le_of_ble_eq_true rfl) (fun v5 J5 h5 => ?_)
  obtain ⟨rfl, b5, a5⟩ := h5
  refine si_3 oX5_all_59 rfl rfl ?_
  refine ra_0 oX5_all_60 ?_
  refine ra_0 oX5_all_61 ?_
  refine rr_gr (v := 53) oX5_all_62 (ff_X5_41 rfl) kk_46 (wd_lt W rfl) ⟨by decide, rfl⟩ (wd_r W rfl rfl) ?_
  refine ra_1 oX5_all_65 ?_
  refine ri_3 oX5_all_66 ?_
  refine ri_2 oX5_all_67 ?_
  refine rr_cVn (c_X5_carriesB l W (f := 40) kk_53 (wd_lt W rfl) hq hq2 (by omega) (by omega)) oX5_all_68 (cv_X5_169 rfl) (by decide) kk_46 (by decide) hcn_5 (wd_lt W rfl) rfl rfl (Nat.le_of_ble_eq_true rfl) (fun v6 J6 h6 => ?_)
  obtain ⟨rfl, b6, a6⟩ := h6
  refine si_3 oX5_all_71 rfl rfl ?_
  refine ra_0 oX5_all_72 ?_
  refine ra_0 oX5_all_73 ?_
  refine rr_gr (v := 54) oX5_all_74 (ff_X5_44 rfl) kk_46 (wd_lt W rfl) ⟨by decide, rfl⟩ (wd_r W rfl rfl) ?_
  refine ra_1 oX5_all_77 ?_
  refine ri_3 oX5_all_78 ?_
  refine ri_2 oX5_all_79 ?_
  refine rr_cVn (c_X5_carriesB l W (f := 48) kk_54 (wd_lt W rfl) hq hq2 (by omega) (by omega)) oX5_all_80 (cv_X5_169 rfl) (by decide) kk_46 (by decide) hcn_5 (wd_lt W rfl) rfl rfl (Nat.le_of_ble_eq_true rfl) (fun v7 J7 h7 => ?_)
  obtain ⟨rfl, b7, a7⟩ := h7
  refine si_3 oX5_all_83 rfl rfl ?_
  have q7 : J7 q = I q := by rw [a7 q (by omega), a6 q (by omega), a5 q (by omega), a4 q (by omega), a3 q (by omega), a2 q (by omega), a1 q (by omega)]
  have x0 : ∀ t, t < 8 → J7 48 t = I q (0 + t) := fun t ht => by rw [a7 48 (by omega), a6 48 (by omega), a5 48 (by omega), a4 48 (by omega), a3 48 (by omega), a2 48 (by omega), b1 t ht]
  have x1 : ∀ t, t < 8 → J7 49 t = I q (8 + t) := fun t ht => by rw [a7 49 (by omega), a6 49 (by omega), a5 49 (by omega), a4 49 (by omega), a3 49 (by omega), b2 t ht, a1 q (by omega)]
  have x2 : ∀ t, t < 8 → J7 50 t = I q (16 + t) := fun t ht => by rw [a7 50 (by omega), a6 50 (by omega), a5 50 (by omega), a4 50 (by omega), b3 t ht, a2 q (by omega), a1 q (by omega)]
  have x3 : ∀ t, t < 8 → J7 51 t = I q (24 + t) := fun t ht => by rw [a7 51 (by omega), a6 51 (by omega), a5 51 (by omega), b4 t ht, a3 q (by omega), a2 q (by omega), a1 q (by omega)]
  have x4 : ∀ t, t < 8 → J7 52 t = I q (32 + t) := fun t ht => by rw [a7 52 (by omega), a6 52 (by omega), b5 t ht, a4 q (by omega), a3 q (by omega), a2 q (by omega), a1 q (by omega)]
  have x5 : ∀ t, t < 8 → J7 53 t = I q (40 + t) := fun t ht => by rw [a7 53 (by omega), b6 t ht, a5 q (by omega), a4 q (by omega), a3 q (by omega), a2 q (by omega), a1 q (by omega)]
  have x6 : ∀ t, t < 8 → J7 54 t = I q (48 + t) := fun t ht => by rw [b7 t ht, a6 q (by omega), a5 q (by omega), a4 q (by omega), a3 q (by omega), a2 q (by omega), a1 q (by omega)]
  have e46 : J7 46 = I 46 := by rw [a7 46 (by omega), a6 46 (by omega), a5 46 (by omega), a4 46 (by omega), a3 46 (by omega), a2 46 (by omega), a1 46 (by omega)]
  have ne : ∀ a, a ≠ 46 → ∀ v0 v1 v2 v3 v4, up_I (up_I (up_I (up_I (up_I J7 46 0 v0) 46 1 v1) 46 2 v2) 46 3 v3) 46 4 v4 a = J7 a := fun a ha v0 v1 v2 v3 v4 => by rw [up_I_ne ha, up_I_ne ha, up_I_ne ha, up_I_ne ha, up_I_ne ha]
  refine ri_2 oX5_all_84 ?_
  refine rr_if_eq (tgt := 134) oX5_all_85 (by decide) (fun q => absurd q (by decide)) (fun _ => ?_)
  refine ra_0 oX5_all_88 ?_
  refine ra_1 oX5_all_89 ?_
  refine ri_3 oX5_all_90 ?_
  refine rr_iv (t := 56) oX5_all_91 hq hq2 rfl (by omega) (by decide) (show _ = nI (g_n (b_G B)) from by (repeat rw [up_I_ne (by omega)]); rw [q7]; exact hB.2.2.2.1) ?_
  refine rr_pi oX5_all_92 (ff_X5_84 rfl) kk_46 (wd_lt W rfl) ⟨by decide, rfl, by decide⟩ pf_5_0 ⟨rfl, rfl⟩ ?_
  refine ra_0 oX5_all_95 ?_
  refine ra_1 oX5_all_96 ?_
  refine ri_3 oX5_all_97 ?_
  refine rk_1 oX5_all_98 ?_
  refine rr_iadd oX5_all_99 ?_
  refine rr_iv (t := 57) oX5_all_100 hq hq2 (nI_add 56 1) (by omega) (by decide) (show _ = g_s (b_G B) from by (repeat rw [up_I_ne (by omega)]); rw [q7]; exact hB.2.2.2.2.1) ?_
  refine rr_pi oX5_all_101 (ff_X5_7 rfl) kk_46 (wd_lt W rfl) ⟨by decide, rfl, by decide⟩ pf_5_1 ⟨rfl, rfl⟩ ?_
  refine ra_0 oX5_all_104 ?_
  refine ra_1 oX5_all_105 ?_
  refine ri_3 oX5_all_106 ?_
  refine rk_2 oX5_all_107 ?_
  refine rr_iadd oX5_all_108 ?_
  refine rr_iv (t := 58) oX5_all_109 hq hq2 (nI_add 56 2) (by omega) (by decide) (show _ = g_f (b_G B) from by (repeat rw [up_I_ne (by omega)]); rw [q7]; exact hB.2.2.2.2.2.1) ?_
  refine rr_pi oX5_all_110 (ff_X5_13 rfl) kk_46 (wd_lt W rfl) ⟨by decide, rfl, by decide⟩ pf_5_2 ⟨rfl, rfl⟩ ?_
  refine ra_0 oX5_all_113 ?_
  refine ra_1 oX5_all_114 ?_
  refine ri_3 oX5_all_115 ?_
  refine rk_3 oX5_all_116 ?_
  refine rr_iadd oX5_all_117 ?_
  refine rr_iv (t := 59) oX5_all_118 hq hq2 (nI_add 56 3) (by omega) (by decide) (show _ = b_fi B from by (repeat rw [up_I_ne (by omega)]); rw [q7]; exact hB.2.2.2.2.2.2.1) ?_
  refine rr_pi oX5_all_119 (ff_X5_173 rfl) kk_46 (wd_lt W rfl) ⟨by decide, rfl, by decide⟩ pf_5_3 ⟨rfl, rfl⟩ ?_
  refine ra_0 oX5_all_122 ?_
  refine ra_1 oX5_all_123 ?_
  refine ri_3 oX5_all_124 ?_
  refine rk_4 oX5_all_125 ?_
  refine rr_iadd oX5_all_126 ?_
  refine rr_iv (t := 60) oX5_all_127 hq hq2 (nI_add 56 4) (by omega) (by decide) (show _ = b_sd B from by (repeat rw [up_I_ne (by omega)]); rw [q7]; exact hB.2.2.2.2.2.2.2) ?_
  refine rr_pi oX5_all_128 (ff_X5_16 rfl) kk_46 (wd_lt W rfl) ⟨by decide, rfl, by decide⟩ pf_5_4 ⟨rfl, rfl⟩ ?_
  refine rr_goto (tgt := 177) oX5_all_131 (by decide) ?_
  exact rr_return oX5_all_177 rfl (q_m_of ⟨⟨⟨hB.1.1, by rw [up_I_at_ne (by omega), up_I_at_ne (by omega), up_I_at_ne (by omega), up_I_at_ne (by omega), up_I_at], by rw [up_I_at_ne (by omega), up_I_at_ne (by omega), up_I_at_ne (by omega), up_I_at], by rw [up_I_at_ne (by omega), up_I_at_ne (by omega), up_I_at], fun t ht => by
      have h8 : g_n (b_G B) ≤ 8 := hB.1.1
      have y0 := x0 t (by omega)
      rw [Nat.zero_add] at y0
      have e := hB.1.2 t ht
      rw [ne 48 (by omega), ne 49 (by omega), ne 50 (by omega), ne 51 (by omega), ne 52 (by omega), y0, x1 t (by omega), x2 t (by omega), x3 t (by omega), x4 t (by omega)]
      exact e⟩, fun t ht => by rw [ne 53 (by omega), x5 t (by omega)]; exact hB.2.1 t ht, fun t ht => by rw [ne 54 (by omega), x6 t (by omega)]; exact hB.2.2.1 t ht, by rw [up_I_at_ne (by omega), up_I_at], up_I_at⟩,
      fun a ha => by rw [ne a (by omega), a7 a (by omega), a6 a (by omega), a5 a (by omega), a4 a (by omega), a3 a (by omega), a2 a (by omega), a1 a (by omega)],
      fun f hf => by rw [up_I_at_ne (by omega), up_I_at_ne (by omega), up_I_at_ne (by omega), up_I_at_ne (by omega), up_I_at_ne (by omega), e46]⟩)
theorem MR_image {I J : Nat → Nat → Int32} {L : Nat → Nat → Int64} {S : sg_T} (h : MR_T I L S) (hk : ka_T J 64 (z_B S)) (h0 : J 46 37 = 1) (h1 : ∀ f, f ≠ 37 → J 46 f = I 46 f) (h2 : ∀ a, a ≠ 46 → a ≠ 64 → J a = I a) : MR_T J L (w_im S (true, z_B S)) := by
  obtain ⟨g1, g2, g3, g4, g5, g6, g7, g8, g9⟩ := h
  refine ⟨mg_ce g1 (fun f hf => h1 f (by omega)) (fun a q1 q2 => h2 a (by omega) (by omega)), by rw [h0]; rfl, fun _ => hk, fun k hk => by rw [h2 47 (by omega) (by omega)]; exact g4 k hk, by rw [h1 5 (by omega)]; exact g5, fun s hs => ?_, fun k hk => by rw [h2 66 (by omega) (by omega)]; exact g7 k hk, by rw [h1 36 (by omega)]; exact g8, fun k hk => by rw [h2 61 (by omega) (by omega)]; exact g9 k hk⟩
  have := g6 s hs
  unfold mh_T
  rw [h2 55 (by omega) (by omega), h2 56 (by omega) (by omega), h2 57 (by omega) (by omega), h2 58 (by omega) (by omega)]
  exact this
theorem c_X5_image (l : Launch) {I : Nat → Nat → Int32} {L : Nat → Nat → Int64} {Rf : Nat → Nat → Option Nat} {n : Nat} {S : sg_T} (W : wd_T Rf n) (hM : MR_T I L S) (hI : IV_T S) : wm_C l mX5_image 3 0 0 [vv_A (some 46)] (I, L, Rf, n) (q_M (f_image S).1 (f_image S).2 I L Rf n) := by
  refine wm_of (by decide) (Nat.le_of_ble_eq_true rfl) rfl ?_
  have hQ : mq_T I (z_G S) (b_dr (z_B S)) (b_sh (z_B S)) := mg_mq hM.1 hI.1
  have hG := hQ.1
  have h8 : g_n (z_G S) ≤ 8 := hI.1.1
  have hr : hr_T (z_G S) := hI.1.2.1
  refine ra_0 oX5_image_0 ?_
  refine rk_1 oX5_image_1 ?_
  refine rr_pi oX5_image_2 (ff_X5_285 rfl) kk_46 (wd_lt W rfl) ⟨by decide, rfl, by decide⟩ pf_5_37 ⟨rfl, rfl⟩ ?_
  refine ra_0 oX5_image_5 ?_
  refine ra_0 oX5_image_6 ?_
  refine rr_gr (v := 64) oX5_image_7 (ff_X5_75 rfl) kk_46 (wd_lt W rfl) ⟨by decide, rfl⟩ (wd_r W rfl rfl) ?_
  refine rk_0 oX5_image_10 ?_
  refine rr_cVm (c_X5_allF l W kk_64 (wd_lt W rfl) (by omega) (mg_ce hM.1 (fun f _ => up_I_at_ne (by omega)) (fun a q1 q2 => up_I_ne (by omega)))) oX5_image_11 (cv_X5_179 rfl) (by decide) kk_46 (by decide) hcn_5 (wd_lt W rfl) rfl rfl (Nat.le_of_ble_eq_true rfl) (fun J hJ => ?_)
  obtain ⟨hk2, hf⟩ := hJ
  refine ra_0 oX5_image_14 ?_
  refine rr_giv oX5_image_15 (ff_X5_84 rfl) kk_46 (wd_lt W rfl) ⟨by decide, rfl⟩ (show _ = nI (g_n (z_G S)) from by rw [hf 46 (by omega), up_I_at_ne (by omega)]; exact hM.1.1.2.1) ?_
  exact rr_ireturn oX5_image_18 rfl rfl (q_M_ok (S2 := w_im S (true, z_B S)) (v := nI (g_n (z_G S))) rfl rfl (MR_image hM hk2 (by rw [hf 46 (by omega), up_I_at]) (fun f q => by rw [hf 46 (by omega), up_I_at_ne q]) (fun a q1 q2 => by rw [hf a q2, up_I_ne q1])) (fun a ha => ⟨by rw [hf a (by omega), up_I_ne (by omega)], rfl⟩))
def rs_I (I : Nat → Nat → Int32) (m : Int32) (s : Nat) : Int32 := if I 55 s = 2 ∧ ¬ I 58 s < m then 0 else I 55 s
theorem MR_rs {I J K : Nat → Nat → Int32} {L : Nat → Nat → Int64} {S : sg_T} (h : MR_T I L S) (hB : mg_T J (z_im S).2) (hf : ∀ a, (a < 46 ∨ a = 47 ∨ 54 < a) → J a = I a) (h46 : ∀ f, 4 < f → J 46 f = I 46 f) (h1 : ∀ s, s < 8 → K 55 s = rs_I J (nI (g_n (b_G (z_im S).2))) s) (h2 : ∀ a, a ≠ 55 → K a = J a) : MR_T K L (w_hd (w_B S (z_im S).2) (fun s => rs_hd (g_n (b_G (z_im S).2)) (z_hd S s))) := by
  have hm := MR_B h hB (fun f q => h46 f (by omega)) (fun a q => hf a (by omega))
  have h8 : g_n (b_G (z_im S).2) ≤ 8 := hB.1.1
  refine MR_sh hm (fun a ha => h2 a (by omega)) ⟨rfl, rfl, rfl, rfl, rfl, rfl⟩ (fun s hs => ?_)
  have g := hm.2.2.2.2.2.1 s hs
  have k1 := h1 s hs
  have e0 : ∀ S2 : sg_T, z_hd (w_hd S2 (fun s => rs_hd (g_n (b_G (z_im S).2)) (z_hd S s))) s = rs_hd (g_n (b_G (z_im S).2)) (z_hd S s) := fun _ => rfl
  unfold mh_T
  rw [e0, k1, h2 56 (by omega), h2 57 (by omega), h2 58 (by omega)]
  have kk : ∀ m, m < 9 → ∀ u, u < 8 → (rs_hd m (nI u) = if nI u < nI m then nI u else -1) := by decide +kernel
  have kq : ∀ m, m < 9 → ∀ q, q < 4 → rs_hd m (nI (100 + q)) = nI (100 + q) := by decide +kernel
  have kn : ∀ m, m < 9 → rs_hd m (-1) = -1 := by decide +kernel
  rcases g with ⟨e1, e2⟩ | ⟨u, hu, e1, e2, e3⟩ | ⟨q, hq, e1, e2, e3, e4, e5⟩
  · have e1 : z_hd S s = -1 := e1
    refine Or.inl ⟨by rw [e1]; exact kn _ (by omega), ?_⟩
    rw [rs_I, e2, if_neg (fun z => absurd z.1 (by decide))]
  · have e1 : z_hd S s = nI u := e1
    rw [e1, kk _ (by omega) u hu, rs_I, e2, e3]
    by_cases z : nI u < nI (g_n (b_G (z_im S).2))
    · exact Or.inr (Or.inl ⟨u, hu, if_pos z, if_neg (fun y => y.2 z), rfl⟩)
    · exact Or.inl ⟨if_neg z, if_pos ⟨rfl, z⟩⟩
  · have e1 : z_hd S s = nI (100 + q) := e1
    rw [e1, kq _ (by omega) q hq, rs_I, e2, if_neg (fun z => absurd z.1 (by decide))]
    exact Or.inr (Or.inr ⟨q, hq, rfl, rfl, e3, e4, e5⟩)
theorem lp_X5_restore (l : Launch) {I J : Nat → Nat → Int32} {L : Nat → Nat → Int64} {Rf : Nat → Nat → Option Nat} {n : Nat} (W : wd_T Rf n) {nn : Nat} (hn : J 46 0 = nI nn) {Q : Option vv_T → mx_T → Prop} (hP : ∀ K : Nat → Nat → Int32, (∀ s, s < 8 → K 55 s = rs_I J (nI nn) s) → (∀ a, a ≠ 55 → K a = J a) → Q (some (vv_I (nI nn))) (K, L, Rf, n)) : ∀ m (K : Nat → Nat → Int32) t, t + m = 8 → (∀ s, s < 8 → K 55 s = if s < t then rs_I J (nI nn) s else J 55 s) → (∀ a, a ≠ 55 → K a = J a) → wm_W l mX5_restore 3 0 0 25 [vv_A (some 46), vv_I (nI t)] [] (K, L, Rf, n) Q := by
  intro m
  induction m with
  | zero =>
    intro K t ht h1 h2
    refine ri_1 oX5_restore_25 ?_
    refine rr_bipush (v := 8) oX5_restore_26 (by decide) ?_
    refine rr_icmp_ge (tgt := 67) oX5_restore_28 (by decide) (fun c => ?_) (fun c => ?_)
    rotate_left
    · exact absurd c (fun z => by rw [show (8 : Int32) = nI 8 from rfl, nI_le_iff (by omega) (by omega)] at z; omega)
    refine ra_0 oX5_restore_67 ?_
    refine rr_giv oX5_restore_68 (ff_X5_84 rfl) kk_46 (wd_lt W rfl) ⟨by decide, rfl⟩ (show _ = nI nn from by rw [h2 46 (by omega)]; exact hn) ?_
    exact rr_ireturn oX5_restore_71 rfl rfl (hP K (fun s hs => by rw [h1 s hs, if_pos (by omega)]) h2)
  | succ m ih =>
    intro K t ht h1 h2
    refine ri_1 oX5_restore_25 ?_
    refine rr_bipush (v := 8) oX5_restore_26 (by decide) ?_
    refine rr_icmp_ge (tgt := 67) oX5_restore_28 (by decide) (fun c => ?_) (fun c => ?_)
    · (rw [show (8 : Int32) = nI 8 from rfl, nI_le_iff (by omega) (by omega)] at c; omega)
    have et : K 55 t = J 55 t := by rw [h1 t (by omega), if_neg (by omega)]
    refine ra_0 oX5_restore_31 ?_
    refine rr_gr (v := 55) oX5_restore_32 (ff_X5_47 rfl) kk_46 (wd_lt W rfl) ⟨by decide, rfl⟩ (wd_r W rfl rfl) ?_
    refine ri_1 oX5_restore_35 ?_
    refine rr_ild oX5_restore_36 kk_55 (wd_lt W rfl) rfl (by omega) (by decide) ?_
    refine rk_2 oX5_restore_37 ?_
    refine rr_icmp_ne (tgt := 61) oX5_restore_38 (by decide) (fun c38 => ?_) (fun c38 => ?_)
    · refine rn_1 oX5_restore_61 rfl rfl ?_
      refine rr_goto (tgt := 25) oX5_restore_64 (by decide) ?_
      refine ih _ (t + 1) (by omega) (fun s hs => ?_) h2
      rw [h1 s hs]
      by_cases z : s = t
      · subst z
        rw [if_neg (by omega), if_pos (by omega), rs_I, if_neg (fun y => c38 (by rw [et]; exact y.1))]
      · by_cases y : s < t
        · rw [if_pos y, if_pos (by omega)]
        · rw [if_neg y, if_neg (by omega)]
    · refine ra_0 oX5_restore_41 ?_
      refine rr_gr (v := 58) oX5_restore_42 (ff_X5_56 rfl) kk_46 (wd_lt W rfl) ⟨by decide, rfl⟩ (wd_r W rfl rfl) ?_
      refine ri_1 oX5_restore_45 ?_
      refine rr_iv oX5_restore_46 kk_58 (wd_lt W rfl) rfl (by omega) (by decide) (show _ = J 58 t from by rw [h2 58 (by omega)]) ?_
      refine ra_0 oX5_restore_47 ?_
      refine rr_giv oX5_restore_48 (ff_X5_84 rfl) kk_46 (wd_lt W rfl) ⟨by decide, rfl⟩ (show _ = nI nn from by rw [h2 46 (by omega)]; exact hn) ?_
      refine rr_icmp_lt (tgt := 61) oX5_restore_51 (by decide) (fun c51 => ?_) (fun c51 => ?_)
      · refine rn_1 oX5_restore_61 rfl rfl ?_
        refine rr_goto (tgt := 25) oX5_restore_64 (by decide) ?_
        refine ih _ (t + 1) (by omega) (fun s hs => ?_) h2
        rw [h1 s hs]
        by_cases z : s = t
        · subst z
          rw [if_neg (by omega), if_pos (by omega), rs_I, if_neg (fun y => y.2 c51)]
        · by_cases y : s < t
          · rw [if_pos y, if_pos (by omega)]
          · rw [if_neg y, if_neg (by omega)]
      · refine ra_0 oX5_restore_54 ?_
        refine rr_gr (v := 55) oX5_restore_55 (ff_X5_47 rfl) kk_46 (wd_lt W rfl) ⟨by decide, rfl⟩ (wd_r W rfl rfl) ?_
        refine ri_1 oX5_restore_58 ?_
        refine rk_0 oX5_restore_59 ?_
        refine rr_ist oX5_restore_60 kk_55 (wd_lt W rfl) rfl (by omega) (by decide) ?_
        refine rn_1 oX5_restore_61 rfl rfl ?_
        refine rr_goto (tgt := 25) oX5_restore_64 (by decide) ?_
        refine ih _ (t + 1) (by omega) (fun s hs => ?_) (fun a ha => by rw [up_I_ne ha]; exact h2 a ha)
        rw [up_I_eq]
        by_cases z : s = t
        · subst z
          simp only [upd, if_true]
          rw [if_pos (by omega), rs_I, if_pos ⟨by rw [← et]; exact c38, c51⟩]
        · simp only [upd, if_neg z]
          rw [h1 s hs]
          by_cases y : s < t
          · rw [if_pos y, if_pos (by omega)]
          · rw [if_neg y, if_neg (by omega)]
theorem c_X5_restore (l : Launch) {I : Nat → Nat → Int32} {L : Nat → Nat → Int64} {Rf : Nat → Nat → Option Nat} {n : Nat} {S : sg_T} (W : wd_T Rf n) (hM : MR_T I L S) (hI : IV_T S) : wm_C l mX5_restore 3 0 0 [vv_A (some 46)] (I, L, Rf, n) (q_M (f_restore S).1 (f_restore S).2 I L Rf n) := by
  refine wm_of (by decide) (Nat.le_of_ble_eq_true rfl) rfl ?_
  have hQ : mq_T I (z_G S) (b_dr (z_B S)) (b_sh (z_B S)) := mg_mq hM.1 hI.1
  have hG := hQ.1
  have h8 : g_n (z_G S) ≤ 8 := hI.1.1
  have hr : hr_T (z_G S) := hI.1.2.1
  refine ra_0 oX5_restore_0 ?_
  refine rr_giv oX5_restore_1 (ff_X5_285 rfl) kk_46 (wd_lt W rfl) ⟨by decide, rfl⟩ hM.2.1 ?_
  by_cases hk : (z_im S).1 = true
  · rw [if_pos hk]
    refine rr_if_ne (tgt := 14) oX5_restore_4 (by decide) (fun c => ?_) (fun c => ?_)
    rotate_left
    · exact absurd c (by decide)
    refine ra_0 oX5_restore_14 ?_
    refine ra_0 oX5_restore_15 ?_
    refine rr_gr (v := 64) oX5_restore_16 (ff_X5_75 rfl) kk_46 (wd_lt W rfl) ⟨by decide, rfl⟩ (wd_r W rfl rfl) ?_
    refine rk_1 oX5_restore_19 ?_
    refine rr_cVm (c_X5_allB l W kk_64 (wd_lt W rfl) (by omega) (hM.2.2.1 hk)) oX5_restore_20 (cv_X5_179 rfl) (by decide) kk_46 (by decide) hcn_5 (wd_lt W rfl) rfl rfl (Nat.le_of_ble_eq_true rfl) (fun J hJ => ?_)
    obtain ⟨hB, hf, h46⟩ := hJ
    refine rk_0 oX5_restore_23 ?_
    refine si_1 oX5_restore_24 rfl rfl ?_
    refine lp_X5_restore l (I := I) W (nn := g_n (b_G (z_im S).2)) hB.1.2.1 (fun K h1 h2 => ?_) 8 J 0 rfl (fun s hs => by rw [if_neg (by omega)]) (fun _ _ => rfl)
    exact q_M_ok (by rw [f_restore, if_neg (fun q => q hk)]) rfl (MR_rs hM hB hf h46 h1 h2) (fun a ha => ⟨by rw [h2 a (by omega), hf a (by omega)], rfl⟩)
  · rw [if_neg hk]
    refine rr_if_ne (tgt := 14) oX5_restore_4 (by decide) (fun c => ?_) (fun c => ?_)
    · exact absurd rfl c
    refine ra_0 oX5_restore_7 ?_
    refine rr_bipush (v := (-6)) oX5_restore_8 (by decide) ?_
    refine rr_cVi (c_X5_no l W (c := 6) (by decide) (by decide)) oX5_restore_10 (cv_X5_97 rfl) (by decide) kk_46 (by decide) hcn_5 (wd_lt W rfl) rfl rfl (Nat.le_of_ble_eq_true rfl) ?_
    exact rr_ireturn oX5_restore_13 rfl rfl (q_M_noc hM me_rf (show f_restore S = f_no S (-6) from by rw [f_restore, if_pos hk]) (by decide) (by decide))
