/-! the model: years (by program: wip/whole/c51.py) -/
theorem up_up {I : Nat → Nat → Int32} {p q : Nat} {x y : Int32} : up_I (up_I I p q x) p q y = up_I I p q y := by
  funext a
  by_cases e : a = p
  · subst e
    funext i
    by_cases f : i = q
    · subst f; rw [up_I_at, up_I_at]
    · rw [up_I_at_ne f, up_I_at_ne f, up_I_at_ne f]
  · rw [up_I_ne e, up_I_ne e, up_I_ne e]
theorem mq_wh {I : Nat → Nat → Int32} {G : gr_T} {dr : Nat → Bool} {sh : Nat → Nat → Bool} {t : Nat} {v : Int32} (h : mq_T I G dr sh) : mq_T (up_I I 51 t v) (g_wh G (upd (g_h G) t v)) dr sh := by
  have := mg_wh (t := t) (v := v) (B := (G, dr, sh, I 46 3, I 46 4)) ⟨h.1, h.2.1, h.2.2.1, rfl, rfl⟩
  exact ⟨this.1, this.2.1, this.2.2.1, h.2.2.2.1, h.2.2.2.2⟩
theorem cn_sub {p q : Nat → Bool} (h : ∀ i, q i = true → p i = true) : ∀ m, cn_N p m = cn_N q m + cn_N (fun i => p i && !q i) m := by
  intro m
  induction m with
  | zero => rfl
  | succ m ih =>
    simp only [cn_N]
    rw [ih]
    have : (p m).toNat = (q m).toNat + (p m && !q m).toNat := by
      cases z : q m with
      | false => simp
      | true => rw [h m z]; rfl
    omega
theorem fi_8 {p q : Nat → Bool} (h : ∀ i, q i = true → p i = true) : nI (cn_8 p) - nI (cn_8 q) = nI (cn_8 (fun i => p i && !q i)) := by
  have := cn_sub h 8
  show nI (cn_N p 8) - nI (cn_N q 8) = nI (cn_N _ 8)
  rw [this, ← nI_add, Int32.add_comm, Int32.add_sub_cancel]
theorem ri_h {G : gr_T} {dr : Nat → Bool} {sh : Nat → Nat → Bool} (i : Nat) (h : p_ri G dr sh i = true) : p_h G i = true := by
  simp only [p_ri, Bool.and_eq_true] at h
  simp only [p_h, h.1, h.2.1, Bool.and_self]
theorem gr_20 {x : Int32} (h : x ≤ 20) : x = s_min 20 x := by
  unfold s_min
  split
  · rfl
  · next q => exact Int32.le_antisymm h (Int32.not_lt.mp q)
theorem gr_21 {x : Int32} (h : ¬ x ≤ 20) : (20 : Int32) = s_min 20 x := by
  unfold s_min
  split
  · next q => exact absurd (Int32.le_of_lt q) h
  · rfl
theorem c_X5_draws3 (l : Launch) {I : Nat → Nat → Int32} {L : Nat → Nat → Int64} {Rf : Nat → Nat → Option Nat} {n : Nat} (W : wd_T Rf n) {sd : Int32} (hsd : I 46 4 = sd) : wm_C l mX5_draws3 1 0 0 [vv_A (some 46)] (I, L, Rf, n) (q_i (s_gr (s_sd sd)) (up_I I 46 4 (s_sd sd), L, Rf, n)) := by
  refine wm_of (by decide) (Nat.le_of_ble_eq_true rfl) rfl ?_
  refine ra_0 oX5_draws3_0 ?_
  refine ra_0 oX5_draws3_1 ?_
  refine rr_giv oX5_draws3_2 (ff_X5_16 rfl) kk_46 (wd_lt W rfl) ⟨by decide, rfl⟩ hsd ?_
  refine rr_ldcw (v := 1103515245) oX5_draws3_5 (gw_in (i := 1319) (by decide +kernel) (by decide +kernel)) ?_
  refine rr_imul oX5_draws3_8 ?_
  refine rr_sipush (v := 12345) oX5_draws3_9 (by decide) ?_
  refine rr_iadd oX5_draws3_12 ?_
  refine rr_pi oX5_draws3_13 (ff_X5_16 rfl) kk_46 (wd_lt W rfl) ⟨by decide, rfl, by decide⟩ pf_5_4 ⟨rfl, rfl⟩ ?_
  refine ra_0 oX5_draws3_16 ?_
  refine rr_giv oX5_draws3_17 (ff_X5_16 rfl) kk_46 (wd_lt W rfl) ⟨by decide, rfl⟩ (show _ = s_sd sd from up_I_at) ?_
  refine rr_bipush (v := 16) oX5_draws3_20 (by decide) ?_
  refine rr_iushr oX5_draws3_22 ?_
  refine rk_3 oX5_draws3_23 ?_
  refine rr_irem oX5_draws3_24 (by decide) ?_
  exact rr_ireturn oX5_draws3_25 rfl rfl ⟨rfl, rfl⟩
theorem li_X5_years (l : Launch) {I : Nat → Nat → Int32} {L : Nat → Nat → Int64} {Rf : Nat → Nat → Option Nat} {n : Nat} (W : wd_T Rf n) {G : gr_T} {dr : Nat → Bool} {sh : Nat → Nat → Bool} {w w2 sd0 : Int32} {k : Nat} {Q : Option vv_T → mx_T → Prop} (hP : ∀ J : Nat → Nat → Int32, mq_T J (g_wh G (yr_N (g_k G) (g_n G) 0 (g_h G) sd0).1) dr sh → J 46 4 = (yr_N (g_k G) (g_n G) 0 (g_h G) sd0).2 → (∀ f, f ≠ 4 → J 46 f = I 46 f) → (∀ a, a ≠ 46 → a ≠ 51 → J a = I a) → wm_W l mX5_years 19 0 0 109 [vv_A (some 46), vv_I w, vv_I w2, vv_I (nI k), vv_I (nI (g_n G))] [] (J, L, Rf, n) Q) : ∀ m (J : Nat → Nat → Int32) t hs sd, t + m = g_n G → mq_T J (g_wh G hs) dr sh → J 46 4 = sd → (∀ f, f ≠ 4 → J 46 f = I 46 f) → (∀ a, a ≠ 46 → a ≠ 51 → J a = I a) → yr_N (g_k G) (g_n G) 0 (g_h G) sd0 = yr_N (g_k G) m t hs sd → wm_W l mX5_years 19 0 0 33 [vv_A (some 46), vv_I w, vv_I w2, vv_I (nI k), vv_I (nI t)] [] (J, L, Rf, n) Q := by
  intro m
  induction m with
  | zero =>
    intro J t hs sd ht h1 h2 h3 h4 hy
    have h8 : g_n G ≤ 8 := h1.1.1
    refine ri_4 oX5_years_33 ?_
    refine ra_0 oX5_years_35 ?_
    refine rr_giv oX5_years_36 (ff_X5_84 rfl) kk_46 (wd_lt W rfl) ⟨by decide, rfl⟩ (show _ = nI (g_n G) from h1.1.2.1) ?_
    refine rr_icmp_ge (tgt := 109) oX5_years_39 (by decide) (fun c => ?_) (fun c => ?_)
    rotate_left
    · exact absurd c (by rw [nI_le_iff (by omega) (by omega)]; omega)
    have e : t = g_n G := by omega
    subst e
    have e1 : yr_N (g_k G) (g_n G) 0 (g_h G) sd0 = (hs, sd) := hy
    exact hP J (by rw [e1]; exact h1) (by rw [e1]; exact h2) h3 h4
  | succ m ih =>
    intro J t hs sd ht h1 h2 h3 h4 hy
    have h8 : g_n G ≤ 8 := h1.1.1
    refine ri_4 oX5_years_33 ?_
    refine ra_0 oX5_years_35 ?_
    refine rr_giv oX5_years_36 (ff_X5_84 rfl) kk_46 (wd_lt W rfl) ⟨by decide, rfl⟩ (show _ = nI (g_n G) from h1.1.2.1) ?_
    refine rr_icmp_ge (tgt := 109) oX5_years_39 (by decide) (fun c => ?_) (fun c => ?_)
    · (rw [nI_le_iff (by omega) (by omega)] at c; omega)
    refine ra_0 oX5_years_42 ?_
    refine rr_gr (v := 48) oX5_years_43 (ff_X5_26 rfl) kk_46 (wd_lt W rfl) ⟨by decide, rfl⟩ (wd_r W rfl rfl) ?_
    refine ri_4 oX5_years_46 ?_
    refine rr_iv oX5_years_48 kk_48 (wd_lt W rfl) rfl (by omega) (by decide) (show _ = g_k G t from mv_k (G := g_wh G hs) h1.1 (show t < g_n (g_wh G hs) from by show t < g_n G; omega)) ?_
    refine rk_2 oX5_years_49 ?_
    refine rr_icmp_eq (tgt := 68) oX5_years_50 (by decide) (fun c1 => ?_) (fun c1 => ?_)
    · have htr : is_Tr (g_k G t) := Or.inl c1
      refine ra_0 oX5_years_68 ?_
      refine rr_gr (v := 51) oX5_years_69 (ff_X5_35 rfl) kk_46 (wd_lt W rfl) ⟨by decide, rfl⟩ (wd_r W rfl rfl) ?_
      refine ri_4 oX5_years_72 ?_
      refine rr_dup2 oX5_years_74 rfl rfl ?_
      refine rr_iv oX5_years_75 kk_51 (wd_lt W rfl) rfl (by omega) (by decide) (show _ = hs t from mv_h (G := g_wh G hs) h1.1 (show t < g_n (g_wh G hs) from by show t < g_n G; omega)) ?_
      refine ra_0 oX5_years_76 ?_
      refine rr_cVi (c_X5_draws3 l W h2) oX5_years_77 (cv_X5_267 rfl) (by decide) kk_46 (by decide) hcn_5 (wd_lt W rfl) rfl rfl (Nat.le_of_ble_eq_true rfl) ?_
      refine rr_iadd oX5_years_80 ?_
      refine rr_ist oX5_years_81 kk_51 (wd_lt W rfl) rfl (by omega) (by decide) ?_
      refine ra_0 oX5_years_82 ?_
      refine rr_gr (v := 51) oX5_years_83 (ff_X5_35 rfl) kk_46 (wd_lt W rfl) ⟨by decide, rfl⟩ (wd_r W rfl rfl) ?_
      refine ri_4 oX5_years_86 ?_
      refine rr_iv oX5_years_88 kk_51 (wd_lt W rfl) rfl (by omega) (by decide) (show _ = hs t + s_gr (s_sd sd) from up_I_at) ?_
      refine rr_bipush (v := 20) oX5_years_89 (by decide) ?_
      refine rr_icmp_le (tgt := 103) oX5_years_91 (by decide) (fun c4 => ?_) (fun c4 => ?_)
      · refine rn_4 oX5_years_103 rfl rfl ?_
        refine rr_goto (tgt := 33) oX5_years_106 (by decide) ?_
        have hv20 := gr_20 c4
        refine ih _ (t + 1) _ _ (by omega) (mq_wh (G := g_wh G hs) (t := t) (mq_ce (J := up_I J 46 4 (s_sd sd)) h1 (fun f hf => up_I_at_ne (by omega)) (fun a q1 q2 => up_I_ne (by omega)))) (by rw [up_I_ne (by omega), up_I_at]) (fun f hf => by rw [up_I_ne (by omega), up_I_at_ne hf]; exact h3 f hf) (fun a q1 q2 => by rw [up_I_ne q2, up_I_ne q1]; exact h4 a q1 q2) ?_
        rw [hy]
        simp only [yr_N]
        rw [if_pos htr]
        rw [← hv20]
        rfl
      · refine ra_0 oX5_years_94 ?_
        refine rr_gr (v := 51) oX5_years_95 (ff_X5_35 rfl) kk_46 (wd_lt W rfl) ⟨by decide, rfl⟩ (wd_r W rfl rfl) ?_
        refine ri_4 oX5_years_98 ?_
        refine rr_bipush (v := 20) oX5_years_100 (by decide) ?_
        refine rr_ist oX5_years_102 kk_51 (wd_lt W rfl) rfl (by omega) (by decide) ?_
        refine rn_4 oX5_years_103 rfl rfl ?_
        refine rr_goto (tgt := 33) oX5_years_106 (by decide) ?_
        have hv20 := gr_21 c4
        rw [up_up]
        refine ih _ (t + 1) _ _ (by omega) (mq_wh (G := g_wh G hs) (t := t) (mq_ce (J := up_I J 46 4 (s_sd sd)) h1 (fun f hf => up_I_at_ne (by omega)) (fun a q1 q2 => up_I_ne (by omega)))) (by rw [up_I_ne (by omega), up_I_at]) (fun f hf => by rw [up_I_ne (by omega), up_I_at_ne hf]; exact h3 f hf) (fun a q1 q2 => by rw [up_I_ne q2, up_I_ne q1]; exact h4 a q1 q2) ?_
        rw [hy]
        simp only [yr_N]
        rw [if_pos htr]
        rw [← hv20]
        rfl
    · refine ra_0 oX5_years_53 ?_
      refine rr_gr (v := 48) oX5_years_54 (ff_X5_26 rfl) kk_46 (wd_lt W rfl) ⟨by decide, rfl⟩ (wd_r W rfl rfl) ?_
      refine ri_4 oX5_years_57 ?_
      refine rr_iv oX5_years_59 kk_48 (wd_lt W rfl) rfl (by omega) (by decide) (show _ = g_k G t from mv_k (G := g_wh G hs) h1.1 (show t < g_n (g_wh G hs) from by show t < g_n G; omega)) ?_
      refine rr_bipush (v := 6) oX5_years_60 (by decide) ?_
      refine rr_icmp_eq (tgt := 68) oX5_years_62 (by decide) (fun c2 => ?_) (fun c2 => ?_)
      · have htr : is_Tr (g_k G t) := Or.inr c2
        refine ra_0 oX5_years_68 ?_
        refine rr_gr (v := 51) oX5_years_69 (ff_X5_35 rfl) kk_46 (wd_lt W rfl) ⟨by decide, rfl⟩ (wd_r W rfl rfl) ?_
        refine ri_4 oX5_years_72 ?_
        refine rr_dup2 oX5_years_74 rfl rfl ?_
        refine rr_iv oX5_years_75 kk_51 (wd_lt W rfl) rfl (by omega) (by decide) (show _ = hs t from mv_h (G := g_wh G hs) h1.1 (show t < g_n (g_wh G hs) from by show t < g_n G; omega)) ?_
        refine ra_0 oX5_years_76 ?_
        refine rr_cVi (c_X5_draws3 l W h2) oX5_years_77 (cv_X5_267 rfl) (by decide) kk_46 (by decide) hcn_5 (wd_lt W rfl) rfl rfl (Nat.le_of_ble_eq_true rfl) ?_
        refine rr_iadd oX5_years_80 ?_
        refine rr_ist oX5_years_81 kk_51 (wd_lt W rfl) rfl (by omega) (by decide) ?_
        refine ra_0 oX5_years_82 ?_
        refine rr_gr (v := 51) oX5_years_83 (ff_X5_35 rfl) kk_46 (wd_lt W rfl) ⟨by decide, rfl⟩ (wd_r W rfl rfl) ?_
        refine ri_4 oX5_years_86 ?_
        refine rr_iv oX5_years_88 kk_51 (wd_lt W rfl) rfl (by omega) (by decide) (show _ = hs t + s_gr (s_sd sd) from up_I_at) ?_
        refine rr_bipush (v := 20) oX5_years_89 (by decide) ?_
        refine rr_icmp_le (tgt := 103) oX5_years_91 (by decide) (fun c4 => ?_) (fun c4 => ?_)
        · refine rn_4 oX5_years_103 rfl rfl ?_
          refine rr_goto (tgt := 33) oX5_years_106 (by decide) ?_
          have hv20 := gr_20 c4
          refine ih _ (t + 1) _ _ (by omega) (mq_wh (G := g_wh G hs) (t := t) (mq_ce (J := up_I J 46 4 (s_sd sd)) h1 (fun f hf => up_I_at_ne (by omega)) (fun a q1 q2 => up_I_ne (by omega)))) (by rw [up_I_ne (by omega), up_I_at]) (fun f hf => by rw [up_I_ne (by omega), up_I_at_ne hf]; exact h3 f hf) (fun a q1 q2 => by rw [up_I_ne q2, up_I_ne q1]; exact h4 a q1 q2) ?_
          rw [hy]
          simp only [yr_N]
          rw [if_pos htr]
          rw [← hv20]
          rfl
        · refine ra_0 oX5_years_94 ?_
          refine rr_gr (v := 51) oX5_years_95 (ff_X5_35 rfl) kk_46 (wd_lt W rfl) ⟨by decide, rfl⟩ (wd_r W rfl rfl) ?_
          refine ri_4 oX5_years_98 ?_
          refine rr_bipush (v := 20) oX5_years_100 (by decide) ?_
          refine rr_ist oX5_years_102 kk_51 (wd_lt W rfl) rfl (by omega) (by decide) ?_
          refine rn_4 oX5_years_103 rfl rfl ?_
          refine rr_goto (tgt := 33) oX5_years_106 (by decide) ?_
          have hv20 := gr_21 c4
          rw [up_up]
          refine ih _ (t + 1) _ _ (by omega) (mq_wh (G := g_wh G hs) (t := t) (mq_ce (J := up_I J 46 4 (s_sd sd)) h1 (fun f hf => up_I_at_ne (by omega)) (fun a q1 q2 => up_I_ne (by omega)))) (by rw [up_I_ne (by omega), up_I_at]) (fun f hf => by rw [up_I_ne (by omega), up_I_at_ne hf]; exact h3 f hf) (fun a q1 q2 => by rw [up_I_ne q2, up_I_ne q1]; exact h4 a q1 q2) ?_
          rw [hy]
          simp only [yr_N]
          rw [if_pos htr]
          rw [← hv20]
          rfl
      · have htr : ¬ is_Tr (g_k G t) := fun q => q.elim c1 c2
        refine rr_goto (tgt := 103) oX5_years_65 (by decide) ?_
        refine rn_4 oX5_years_103 rfl rfl ?_
        refine rr_goto (tgt := 33) oX5_years_106 (by decide) ?_
        refine ih J (t + 1) _ _ (by omega) h1 h2 h3 h4 ?_
        rw [hy]
        simp only [yr_N]
        rw [if_neg htr]
theorem ly_X5_years (l : Launch) {I : Nat → Nat → Int32} {L : Nat → Nat → Int64} {Rf : Nat → Nat → Option Nat} {n : Nat} {S : sg_T} (W : wd_T Rf n) (hM : MR_T I L S) (hI : IV_T S) {J K : Nat → Nat → Int32} {B : gb_T} {w : Int32} {t : Nat} {w2 : Int32} {Q : Option vv_T → mx_T → Prop} (h1 : mq_T J (b_G B) (b_dr B) (b_sh B)) (h2 : J 46 3 = b_fi B) (h3 : J 46 4 = b_sd B) (k1 : mq_T K (g_wh (b_G B) (yr_N (g_k (b_G B)) (g_n (b_G B)) 0 (g_h (b_G B)) (b_sd B)).1) (b_dr B) (b_sh B)) (k2 : K 46 4 = (yr_N (g_k (b_G B)) (g_n (b_G B)) 0 (g_h (b_G B)) (b_sd B)).2) (k3 : ∀ f, f ≠ 4 → K 46 f = J 46 f) (k4 : ∀ a, a ≠ 46 → a ≠ 51 → K a = J a) (hQ2 : ∀ M : Nat → Nat → Int32, mq_T M (b_G (s_year B)) (b_dr (s_year B)) (b_sh (s_year B)) → M 46 3 = b_fi (s_year B) → M 46 4 = b_sd (s_year B) → (∀ f, 4 < f → M 46 f = J 46 f) → (∀ a, a ≠ 46 → a ≠ 51 → M a = J a) → wm_W l mX5_years 19 0 0 25 [vv_A (some 46), vv_I w, vv_I w2, vv_I (nI (t + 1)), vv_I (nI (g_n (b_G B)))] [] (M, L, Rf, n) Q) : wm_W l mX5_years 19 0 0 109 [vv_A (some 46), vv_I w, vv_I w2, vv_I (nI t), vv_I (nI (g_n (b_G B)))] [] (K, L, Rf, n) Q := by
  refine ra_0 oX5_years_109 ?_
  refine rk_1 oX5_years_110 ?_
  refine ra_0 oX5_years_111 ?_
  refine rr_giv oX5_years_112 (ff_X5_7 rfl) kk_46 (wd_lt W rfl) ⟨by decide, rfl⟩ (show _ = g_s (b_G B) from k1.1.2.2.1) ?_
  refine rr_isub oX5_years_115 ?_
  refine rr_pi oX5_years_116 (ff_X5_7 rfl) kk_46 (wd_lt W rfl) ⟨by decide, rfl, by decide⟩ pf_5_1 ⟨rfl, rfl⟩ ?_
  refine ra_0 oX5_years_119 ?_
  refine rr_dup oX5_years_120 rfl ?_
  refine rr_giv oX5_years_121 (ff_X5_173 rfl) kk_46 (wd_lt W rfl) ⟨by decide, rfl⟩ (show _ = b_fi B from by rw [up_I_at_ne (by omega), k3 3 (by omega)]; exact h2) ?_
  have hK : mq_T (up_I K 46 1 (1 - g_s (b_G B))) (g_ws (g_wh (b_G B) (yr_N (g_k (b_G B)) (g_n (b_G B)) 0 (g_h (b_G B)) (b_sd B)).1) (1 - g_s (b_G B))) (b_dr B) (b_sh B) := mq_ws (G := (g_wh (b_G B) (yr_N (g_k (b_G B)) (g_n (b_G B)) 0 (g_h (b_G B)) (b_sd B)).1)) k1 up_I_at (fun f _ q => up_I_at_ne q) (fun a q1 q2 => up_I_ne (by omega))
  refine ra_0 oX5_years_124 ?_
  refine ra_0 oX5_years_125 ?_
  refine rr_cVi (c_X5_houses l W hK) oX5_years_126 (cv_X5_235 rfl) (by decide) kk_46 (by decide) hcn_5 (wd_lt W rfl) rfl rfl (Nat.le_of_ble_eq_true rfl) ?_
  refine rr_cVi (c_X5_many l) oX5_years_129 (cv_X5_107 rfl) (by decide) kk_46 (by decide) hcn_5 (wd_lt W rfl) rfl rfl (Nat.le_of_ble_eq_true rfl) ?_
  refine ra_0 oX5_years_132 ?_
  refine ra_0 oX5_years_133 ?_
  refine rr_cVi (c_X5_allRight l W hK) oX5_years_134 (cv_X5_210 rfl) (by decide) kk_46 (by decide) hcn_5 (wd_lt W rfl) rfl rfl (Nat.le_of_ble_eq_true rfl) ?_
  refine rr_cVi (c_X5_many l) oX5_years_137 (cv_X5_107 rfl) (by decide) kk_46 (by decide) hcn_5 (wd_lt W rfl) rfl rfl (Nat.le_of_ble_eq_true rfl) ?_
  refine rr_isub oX5_years_140 ?_
  refine rr_iadd oX5_years_141 ?_
  rw [fi_8 (fun i q => ri_h i q)]
  refine rr_pi oX5_years_142 (ff_X5_173 rfl) kk_46 (wd_lt W rfl) ⟨by decide, rfl, by decide⟩ pf_5_3 ⟨rfl, rfl⟩ ?_
  refine rn_3 oX5_years_145 rfl rfl ?_
  refine rr_goto (tgt := 25) oX5_years_148 (by decide) ?_
  refine hQ2 _ ?_ ?_ ?_ (fun f hf => ?_) (fun a q1 q2 => ?_)
  · exact mq_ce hK (fun f hf => up_I_at_ne (by omega)) (fun a q1 q2 => up_I_ne (by omega))
  · rw [up_I_at]; rfl
  · rw [up_I_at_ne (by omega), up_I_at_ne (by omega)]; exact k2
  · rw [up_I_at_ne (by omega), up_I_at_ne (by omega)]; exact k3 f (by omega)
  · rw [up_I_ne q1, up_I_ne q1]; exact k4 a q1 q2
theorem lp_X5_years (l : Launch) {I : Nat → Nat → Int32} {L : Nat → Nat → Int64} {Rf : Nat → Nat → Option Nat} {n : Nat} {S : sg_T} (W : wd_T Rf n) (hM : MR_T I L S) (hI : IV_T S) {u : Nat} (hu : u ≤ 30) : ∀ m (J : Nat → Nat → Int32) t (B : gb_T) (w4 : vv_T), t + m = u → mq_T J (b_G B) (b_dr B) (b_sh B) → J 46 3 = b_fi B → J 46 4 = b_sd B → (∀ f, 4 < f → J 46 f = I 46 f) → (∀ a, a ≠ 46 → a ≠ 51 → J a = I a) → it_Y m B = it_Y u (z_B S) → wm_W l mX5_years 19 0 0 25 [vv_A (some 46), vv_I (nI u), vv_I (b_fi (z_B S)), vv_I (nI t), w4] [] (J, L, Rf, n) (q_M (b_fi (it_Y u (z_B S)) - b_fi (z_B S)) (w_B S (it_Y u (z_B S))) I L Rf n) := by
  intro m
  induction m with
  | zero =>
    intro J t B w4 ht h1 h2 h3 h4 h5 hit
    refine ri_3 oX5_years_25 ?_
    refine ri_1 oX5_years_26 ?_
    refine rr_icmp_ge (tgt := 151) oX5_years_27 (by decide) (fun c => ?_) (fun c => ?_)
    rotate_left
    · exact absurd c (fun z => by rw [nI_le_iff (by omega) (by omega)] at z; omega)
    refine ra_0 oX5_years_151 ?_
    refine rr_giv oX5_years_152 (ff_X5_173 rfl) kk_46 (wd_lt W rfl) ⟨by decide, rfl⟩ h2 ?_
    refine ri_2 oX5_years_155 ?_
    refine rr_isub oX5_years_156 ?_
    exact rr_ireturn oX5_years_157 rfl rfl (by
        have e : B = it_Y u (z_B S) := hit
        rw [e] at h1 h2 h3 ⊢
        exact q_M_of rfl (MR_B hM ⟨h1.1, h1.2.1, h1.2.2.1, h2, h3⟩ (fun f q => h4 f (by omega)) (fun a q => h5 a (by omega) (by omega))) (fun a ha => ⟨h5 a (by omega) (by omega), rfl⟩))
  | succ m ih =>
    intro J t B w4 ht h1 h2 h3 h4 h5 hit
    refine ri_3 oX5_years_25 ?_
    refine ri_1 oX5_years_26 ?_
    refine rr_icmp_ge (tgt := 151) oX5_years_27 (by decide) (fun c => ?_) (fun c => ?_)
    · (rw [nI_le_iff (by omega) (by omega)] at c; omega)
    refine rk_0 oX5_years_30 ?_
    refine si_4 oX5_years_31 rfl rfl ?_
    refine li_X5_years l W (G := b_G B) (dr := b_dr B) (sh := b_sh B) (I := J) (sd0 := b_sd B) (fun K k1 k2 k3 k4 => ?_) (g_n (b_G B)) J 0 (g_h (b_G B)) (b_sd B) (Nat.zero_add _) h1 h3 (fun _ _ => rfl) (fun _ _ _ => rfl) rfl
    exact ly_X5_years l W hM hI (B := B) (J := J) (t := t) h1 h2 h3 k1 k2 k3 k4 (fun M m1 m2 m3 m4 m5 => ih M (t + 1) (s_year B) _ (by omega) m1 m2 m3 (fun f hf => by rw [m4 f hf]; exact h4 f hf) (fun a q1 q2 => by rw [m5 a q1 q2]; exact h5 a q1 q2) hit)
theorem yr_in {w : Int32} (h : ¬ (w < 1 ∨ 30 < w)) : ∃ u, u ≤ 30 ∧ w = nI u := by
  have g1 := Int32.le_iff_toInt_le.mp (Int32.not_lt.mp (fun q => h (Or.inl q)))
  have g2 := Int32.le_iff_toInt_le.mp (Int32.not_lt.mp (fun q => h (Or.inr q)))
  rw [show (1 : Int32).toInt = 1 by decide] at g1
  rw [show (30 : Int32).toInt = 30 by decide] at g2
  exact ⟨w.toInt.toNat, by omega, Int32.toInt_inj.mp (by rw [nI_toInt (by omega)]; omega)⟩
theorem c_X5_years (l : Launch) {I : Nat → Nat → Int32} {L : Nat → Nat → Int64} {Rf : Nat → Nat → Option Nat} {n : Nat} {S : sg_T} (W : wd_T Rf n) (hM : MR_T I L S) (hI : IV_T S) {w : Int32} : wm_C l mX5_years 19 0 0 [vv_A (some 46), vv_I w] (I, L, Rf, n) (q_M (f_years S w).1 (f_years S w).2 I L Rf n) := by
  refine wm_of (by decide) (Nat.le_of_ble_eq_true rfl) rfl ?_
  have hQ : mq_T I (z_G S) (b_dr (z_B S)) (b_sh (z_B S)) := mg_mq hM.1 hI.1
  have hG := hQ.1
  have h8 : g_n (z_G S) ≤ 8 := hI.1.1
  have hr : hr_T (z_G S) := hI.1.2.1
  refine ri_1 oX5_years_0 ?_
  refine rk_1 oX5_years_1 ?_
  refine rr_icmp_lt (tgt := 11) oX5_years_2 (by decide) (fun c => ?_) (fun c => ?_)
  · refine ra_0 oX5_years_11 ?_
    refine rr_bipush (v := (-6)) oX5_years_12 (by decide) ?_
    refine rr_cVi (c_X5_no l W (c := 6) (by decide) (by decide)) oX5_years_14 (cv_X5_97 rfl) (by decide) kk_46 (by decide) hcn_5 (wd_lt W rfl) rfl rfl (Nat.le_of_ble_eq_true rfl) ?_
    exact rr_ireturn oX5_years_17 rfl rfl (q_M_noc hM me_rf (show _ = f_no S (-6) from by rw [f_years, if_pos (Or.inl c)]) (by decide) (by decide))
  · refine ri_1 oX5_years_5 ?_
    refine rr_bipush (v := 30) oX5_years_6 (by decide) ?_
    refine rr_icmp_le (tgt := 18) oX5_years_8 (by decide) (fun c1 => ?_) (fun c1 => ?_)
    · refine ra_0 oX5_years_18 ?_
      refine rr_giv oX5_years_19 (ff_X5_173 rfl) kk_46 (wd_lt W rfl) ⟨by decide, rfl⟩ hM.1.2.2.2.1 ?_
      refine si_2 oX5_years_22 rfl rfl ?_
      refine rk_0 oX5_years_23 ?_
      refine si_3 oX5_years_24 rfl rfl ?_
      have hw : ¬ (w < 1 ∨ 30 < w) := by rintro (q | q); exact c q; exact Int32.not_lt.mpr c1 q
      obtain ⟨u, hu, rfl⟩ := yr_in hw
      have ef : f_years S (nI u) = (b_fi (it_Y u (z_B S)) - b_fi (z_B S), w_B S (it_Y u (z_B S))) := by rw [f_years, if_neg hw, ix_N, nI_clamp (by omega)]
      rw [ef]
      exact lp_X5_years l W hM hI hu u I 0 (z_B S) _ (Nat.zero_add _) hQ hM.1.2.2.2.1 hM.1.2.2.2.2 (fun _ _ => rfl) (fun _ _ _ => rfl) rfl
    · refine ra_0 oX5_years_11 ?_
      refine rr_bipush (v := (-6)) oX5_years_12 (by decide) ?_
      refine rr_cVi (c_X5_no l W (c := 6) (by decide) (by decide)) oX5_years_14 (cv_X5_97 rfl) (by decide) kk_46 (by decide) hcn_5 (wd_lt W rfl) rfl rfl (Nat.le_of_ble_eq_true rfl) ?_
      exact rr_ireturn oX5_years_17 rfl rfl (q_M_noc hM me_rf (show _ = f_no S (-6) from by rw [f_years, if_pos (Or.inr (Int32.not_le.mp c1))]) (by decide) (by decide))
