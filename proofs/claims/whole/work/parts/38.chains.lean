/-! the model: pairs, chains, who sees most; shelves (by program: wip/whole/c38.py) -/
theorem sm_0 {f : Nat → Int32} : ∀ m t acc, (∀ i, t ≤ i → i < t + m → f i = 0) → sm_N f m t acc = acc := by
  intro m
  induction m with
  | zero => intro t acc _; rfl
  | succ m ih =>
    intro t acc h
    unfold sm_N
    rw [h t (by omega) (by omega), Int32.add_zero]
    exact ih (t + 1) acc (fun i h1 h2 => h i (by omega) (by omega))
theorem s3_ext {f : Nat → Nat → Int32} : ∀ m k t acc, (∀ j i, t + m ≤ j → j < t + m + k → f j i = 0) → s3_N f (m + k) t acc = s3_N f m t acc := by
  intro m
  induction m with
  | zero =>
    intro k
    induction k with
    | zero => intro t acc _; rfl
    | succ k ih =>
      intro t acc h
      show s3_N f (0 + k + 1) t acc = acc
      unfold s3_N
      rw [sm_0 _ _ _ (fun i _ _ => h t i (by omega) (by omega))]
      exact ih (t + 1) acc (fun j i h1 h2 => h j i (by omega) (by omega))
  | succ m ih =>
    intro k t acc h
    rw [show m + 1 + k = (m + k) + 1 by omega]
    unfold s3_N
    exact ih k (t + 1) _ (fun j i h1 h2 => h j i (by omega) (by omega))
theorem se_in {G : gr_T} {dr : Nat → Bool} {sh : Nat → Nat → Bool} {j i : Nat} (h : p_se G dr sh j i = true) : (i < g_n G ∧ is_H (g_k G i)) ∧ (j < g_n G ∧ is_H (g_k G j)) ∧ ¬ i = j := by
  simp only [p_se, p_lk, Bool.and_eq_true, decide_eq_true_eq, Bool.not_eq_true', beq_eq_false_iff_ne] at h
  grind
theorem kp_ext {p : Nat → Bool} {c : Nat → Int32} : ∀ m k t b, (∀ i, t + m ≤ i → i < t + m + k → p i = false) → kp_N p c (m + k) t b = kp_N p c m t b := by
  intro m
  induction m with
  | zero =>
    intro k
    induction k with
    | zero => intro t b _; rfl
    | succ k ih =>
      intro t b h
      show kp_N p c (0 + k + 1) t b = b
      unfold kp_N
      rw [if_neg (by rw [h t (by omega) (by omega)]; decide)]
      exact ih (t + 1) b (fun i h1 h2 => h i (by omega) (by omega))
  | succ m ih =>
    intro k t b h
    rw [show m + 1 + k = (m + k) + 1 by omega]
    unfold kp_N
    exact ih k (t + 1) _ (fun i h1 h2 => h i (by omega) (by omega))
theorem kp_8 {p : Nat → Bool} {c : Nat → Int32} {n : Nat} (h8 : n ≤ 8) (h : ∀ i, n ≤ i → p i = false) (b : Option Nat) : kp_N p c 8 0 b = kp_N p c n 0 b := by
  have := kp_ext (p := p) (c := c) n (8 - n) 0 b (fun i h1 _ => h i (by omega))
  rw [show n + (8 - n) = 8 by omega] at this
  exact this
theorem kp_s {p : Nat → Bool} {c : Nat → Int32} : ∀ m t b, b.isSome = true → (kp_N p c m t b).isSome = true := by
  intro m
  induction m with
  | zero => intro t b h; exact h
  | succ m ih =>
    intro t b h
    unfold kp_N
    refine ih (t + 1) _ ?_
    split
    · cases b with
      | none => rfl
      | some u => simp only []; split <;> rfl
    · exact h
theorem kp_none {p : Nat → Bool} {c : Nat → Int32} : ∀ m t, kp_N p c m t none = none ↔ ∀ i, t ≤ i → i < t + m → p i = false := by
  intro m
  induction m with
  | zero => intro t; exact ⟨fun _ i h1 h2 => by omega, fun _ => rfl⟩
  | succ m ih =>
    intro t
    unfold kp_N
    by_cases hp : p t = true
    · rw [if_pos hp]
      refine ⟨fun q => ?_, fun q => ?_⟩
      · have := kp_s (p := p) (c := c) m (t + 1) (some t) rfl
        rw [q] at this
        cases this
      · rw [q t (by omega) (by omega)] at hp
        cases hp
    · rw [if_neg hp, ih (t + 1)]
      refine ⟨fun q i h1 h2 => ?_, fun q i h1 h2 => q i (by omega) (by omega)⟩
      by_cases e : i = t
      · subst e; simpa using hp
      · exact q i (by omega) (by omega)
theorem li_X5_pairs (l : Launch) {I : Nat → Nat → Int32} {L : Nat → Nat → Int64} {Rf : Nat → Nat → Option Nat} {n : Nat} {S : sg_T} (W : wd_T Rf n) (hM : MR_T I L S) (hI : IV_T S) {j : Nat} (hj : j < g_n (z_G S)) {Q : Option vv_T → mx_T → Prop} : ∀ m t acc, t + m = j → wm_W l mX5_pairs 15 0 0 62 [vv_A (some 46), vv_I (sm_N ((fun j i => if q_se S j i = true ∧ q_se S i j = true then 1 else 0) j) m t acc), vv_I (nI j), vv_I (nI j)] [] (I, L, Rf, n) Q → wm_W l mX5_pairs 15 0 0 14 [vv_A (some 46), vv_I acc, vv_I (nI j), vv_I (nI t)] [] (I, L, Rf, n) Q := by
  intro m
  induction m with
  | zero =>
    intro t acc ht hK
    have hQ : mq_T I (z_G S) (b_dr (z_B S)) (b_sh (z_B S)) := mg_mq hM.1 hI.1
    have hG := hQ.1
    have h8 : g_n (z_G S) ≤ 8 := hI.1.1
    have hr : hr_T (z_G S) := hI.1.2.1
    refine ri_3 oX5_pairs_14 ?_
    refine ri_2 oX5_pairs_15 ?_
    refine rr_icmp_ge (tgt := 62) oX5_pairs_16 (by decide) (fun c => ?_) (fun c => ?_)
    rotate_left
    · exact absurd c (by rw [nI_le_iff (by omega) (by omega)]; omega)
    rw [show t = j by omega]
    exact hK
  | succ m ih =>
    intro t acc ht hK
    have hQ : mq_T I (z_G S) (b_dr (z_B S)) (b_sh (z_B S)) := mg_mq hM.1 hI.1
    have hG := hQ.1
    have h8 : g_n (z_G S) ≤ 8 := hI.1.1
    have hr : hr_T (z_G S) := hI.1.2.1
    refine ri_3 oX5_pairs_14 ?_
    refine ri_2 oX5_pairs_15 ?_
    refine rr_icmp_ge (tgt := 62) oX5_pairs_16 (by decide) (fun c => ?_) (fun c => ?_)
    · (rw [nI_le_iff (by omega) (by omega)] at c; omega)
    refine ra_0 oX5_pairs_19 ?_
    refine ri_2 oX5_pairs_20 ?_
    refine rr_cVi (c_X5_isHouse l W hQ (by omega)) oX5_pairs_21 (cv_X5_91 rfl) (by decide) kk_46 (by decide) hcn_5 (wd_lt W rfl) rfl rfl (Nat.le_of_ble_eq_true rfl) ?_
    refine rr_ifb_eq (tgt := 56) oX5_pairs_24 (by decide) (fun c1 => ?_) (fun c1 => ?_)
    · refine rn_3 oX5_pairs_56 rfl rfl ?_
      refine rr_goto (tgt := 14) oX5_pairs_59 (by decide) ?_
      refine ih (t + 1) acc (by omega) ?_
      simp only [sm_N] at hK
      rw [if_neg (fun q => c1 (se_in q.1).2.1.2), Int32.add_zero] at hK
      exact hK
    · refine ra_0 oX5_pairs_27 ?_
      refine ri_3 oX5_pairs_28 ?_
      refine rr_cVi (c_X5_isHouse l W hQ (by omega)) oX5_pairs_29 (cv_X5_91 rfl) (by decide) kk_46 (by decide) hcn_5 (wd_lt W rfl) rfl rfl (Nat.le_of_ble_eq_true rfl) ?_
      refine rr_ifb_eq (tgt := 56) oX5_pairs_32 (by decide) (fun c2 => ?_) (fun c2 => ?_)
      · refine rn_3 oX5_pairs_56 rfl rfl ?_
        refine rr_goto (tgt := 14) oX5_pairs_59 (by decide) ?_
        refine ih (t + 1) acc (by omega) ?_
        simp only [sm_N] at hK
        rw [if_neg (fun q => c2 (se_in q.1).1.2), Int32.add_zero] at hK
        exact hK
      · refine ra_0 oX5_pairs_35 ?_
        refine ri_2 oX5_pairs_36 ?_
        refine ri_3 oX5_pairs_37 ?_
        refine rr_cVi (c_X5_isSeen l W hQ (i := j) (j := t) (by omega) (by omega) (hr j (by omega) c1).1 (hr t (by omega) c2).1) oX5_pairs_38 (cv_X5_201 rfl) (by decide) kk_46 (by decide) hcn_5 (wd_lt W rfl) rfl rfl (Nat.le_of_ble_eq_true rfl) ?_
        refine rr_ifb_eq (tgt := 56) oX5_pairs_41 (by decide) (fun c3 => ?_) (fun c3 => ?_)
        · refine rn_3 oX5_pairs_56 rfl rfl ?_
          refine rr_goto (tgt := 14) oX5_pairs_59 (by decide) ?_
          refine ih (t + 1) acc (by omega) ?_
          simp only [sm_N] at hK
          rw [if_neg (fun q => c3 ((se_of (by omega) c1 (by omega) c2 (by omega)).mp q.2)), Int32.add_zero] at hK
          exact hK
        · refine ra_0 oX5_pairs_44 ?_
          refine ri_3 oX5_pairs_45 ?_
          refine ri_2 oX5_pairs_46 ?_
          refine rr_cVi (c_X5_isSeen l W hQ (i := t) (j := j) (by omega) (by omega) (hr t (by omega) c2).1 (hr j (by omega) c1).1) oX5_pairs_47 (cv_X5_201 rfl) (by decide) kk_46 (by decide) hcn_5 (wd_lt W rfl) rfl rfl (Nat.le_of_ble_eq_true rfl) ?_
          refine rr_ifb_eq (tgt := 56) oX5_pairs_50 (by decide) (fun c4 => ?_) (fun c4 => ?_)
          · refine rn_3 oX5_pairs_56 rfl rfl ?_
            refine rr_goto (tgt := 14) oX5_pairs_59 (by decide) ?_
            refine ih (t + 1) acc (by omega) ?_
            simp only [sm_N] at hK
            rw [if_neg (fun q => c4 ((se_of (by omega) c2 (by omega) c1 (by omega)).mp q.1)), Int32.add_zero] at hK
            exact hK
          · refine rc_1 (v := acc + 1) oX5_pairs_53 rfl rfl rfl ?_
            refine rn_3 oX5_pairs_56 rfl rfl ?_
            refine rr_goto (tgt := 14) oX5_pairs_59 (by decide) ?_
            refine ih (t + 1) (acc + 1) (by omega) ?_
            simp only [sm_N] at hK
            rw [if_pos ⟨(se_of (by omega) c2 (by omega) c1 (by omega)).mpr c4, (se_of (by omega) c1 (by omega) c2 (by omega)).mpr c3⟩] at hK
            exact hK
theorem lp_X5_pairs (l : Launch) {I : Nat → Nat → Int32} {L : Nat → Nat → Int64} {Rf : Nat → Nat → Option Nat} {n : Nat} {S : sg_T} (W : wd_T Rf n) (hM : MR_T I L S) (hI : IV_T S) : ∀ m t acc w3, t + m = g_n (z_G S) → wm_W l mX5_pairs 15 0 0 4 [vv_A (some 46), vv_I acc, vv_I (nI t), w3] [] (I, L, Rf, n) (q_M (s3_N (fun j i => if q_se S j i = true ∧ q_se S i j = true then 1 else 0) m t acc) S I L Rf n) := by
  intro m
  induction m with
  | zero =>
    intro t acc w3 ht
    have hQ : mq_T I (z_G S) (b_dr (z_B S)) (b_sh (z_B S)) := mg_mq hM.1 hI.1
    have hG := hQ.1
    have h8 : g_n (z_G S) ≤ 8 := hI.1.1
    have hr : hr_T (z_G S) := hI.1.2.1
    refine ri_2 oX5_pairs_4 ?_
    refine ra_0 oX5_pairs_5 ?_
    refine rr_giv oX5_pairs_6 (ff_X5_84 rfl) kk_46 (wd_lt W rfl) ⟨by decide, rfl⟩ (mv_c hG) ?_
    refine rr_icmp_ge (tgt := 68) oX5_pairs_9 (by decide) (fun c => ?_) (fun c => ?_)
    rotate_left
    · exact absurd c (by rw [nI_le_iff (by omega) (by omega)]; omega)
    refine ri_1 oX5_pairs_68 ?_
    exact rr_ireturn oX5_pairs_69 rfl rfl (q_M_rf hM rfl)
  | succ m ih =>
    intro t acc w3 ht
    have hQ : mq_T I (z_G S) (b_dr (z_B S)) (b_sh (z_B S)) := mg_mq hM.1 hI.1
    have hG := hQ.1
    have h8 : g_n (z_G S) ≤ 8 := hI.1.1
    have hr : hr_T (z_G S) := hI.1.2.1
    refine ri_2 oX5_pairs_4 ?_
    refine ra_0 oX5_pairs_5 ?_
    refine rr_giv oX5_pairs_6 (ff_X5_84 rfl) kk_46 (wd_lt W rfl) ⟨by decide, rfl⟩ (mv_c hG) ?_
    refine rr_icmp_ge (tgt := 68) oX5_pairs_9 (by decide) (fun c => ?_) (fun c => ?_)
    · (rw [nI_le_iff (by omega) (by omega)] at c; omega)
    refine rk_0 oX5_pairs_12 ?_
    refine si_3 oX5_pairs_13 rfl rfl ?_
    refine li_X5_pairs l W hM hI (j := t) (by omega) t 0 acc (Nat.zero_add _) ?_
    refine rn_2 oX5_pairs_62 rfl rfl ?_
    refine rr_goto (tgt := 4) oX5_pairs_65 (by decide) ?_
    exact ih (t + 1) _ _ (by omega)
theorem c_X5_pairs (l : Launch) {I : Nat → Nat → Int32} {L : Nat → Nat → Int64} {Rf : Nat → Nat → Option Nat} {n : Nat} {S : sg_T} (W : wd_T Rf n) (hM : MR_T I L S) (hI : IV_T S) : wm_C l mX5_pairs 15 0 0 [vv_A (some 46)] (I, L, Rf, n) (q_M (f_pairs S).1 (f_pairs S).2 I L Rf n) := by
  refine wm_of (by decide) (Nat.le_of_ble_eq_true rfl) rfl ?_
  have hQ : mq_T I (z_G S) (b_dr (z_B S)) (b_sh (z_B S)) := mg_mq hM.1 hI.1
  have hG := hQ.1
  have h8 : g_n (z_G S) ≤ 8 := hI.1.1
  have hr : hr_T (z_G S) := hI.1.2.1
  refine rk_0 oX5_pairs_0 ?_
  refine si_1 oX5_pairs_1 rfl rfl ?_
  refine rk_0 oX5_pairs_2 ?_
  refine si_2 oX5_pairs_3 rfl rfl ?_
  have e := s3_ext (f := fun j i => if q_se S j i = true ∧ q_se S i j = true then 1 else 0) (g_n (z_G S)) (8 - g_n (z_G S)) 0 0 (fun j i h1 _ => if_neg (fun q => by have := (se_in q.1).2.1.1; omega))
  rw [show g_n (z_G S) + (8 - g_n (z_G S)) = 8 by omega] at e
  rw [f_pairs, e]
  exact lp_X5_pairs l W hM hI (g_n (z_G S)) 0 0 _ (Nat.zero_add _)
theorem lp_X5_back (l : Launch) {I : Nat → Nat → Int32} {L : Nat → Nat → Int64} {Rf : Nat → Nat → Option Nat} {n : Nat} {S : sg_T} (W : wd_T Rf n) (hM : MR_T I L S) (hI : IV_T S) {h : Nat} (hh : h < 8) {w2 : Int32} : ∀ m k a, k + m = 9 → a < g_n (z_G S) → is_H (g_k (z_G S) a) → wm_W l mX5_back 17 0 0 21 [vv_A (some 46), vv_I (nI h), vv_I w2, vv_I (nI a), vv_I (nI k)] [] (I, L, Rf, n) (q_M (bk_N (fun a => fo_N (q_sr S a) 8 0) h m k a) S I L Rf n) := by
  intro m
  induction m with
  | zero =>
    intro k a hk ha hah
    have hQ : mq_T I (z_G S) (b_dr (z_B S)) (b_sh (z_B S)) := mg_mq hM.1 hI.1
    have hG := hQ.1
    have h8 : g_n (z_G S) ≤ 8 := hI.1.1
    have hr : hr_T (z_G S) := hI.1.2.1
    refine ri_4 oX5_back_21 ?_
    refine rr_bipush (v := 8) oX5_back_23 (by decide) ?_
    refine rr_icmp_gt (tgt := 59) oX5_back_25 (by decide) (fun c => ?_) (fun c => ?_)
    rotate_left
    · exact absurd (show (8 : Int32) < nI k from by rw [show (8 : Int32) = nI 8 from rfl, nI_lt_iff (by omega) (by omega)]; omega) c
    refine rk_m1 oX5_back_59 ?_
    exact rr_ireturn oX5_back_60 rfl rfl (q_M_rf hM rfl)
  | succ m ih =>
    intro k a hk ha hah
    have hQ : mq_T I (z_G S) (b_dr (z_B S)) (b_sh (z_B S)) := mg_mq hM.1 hI.1
    have hG := hQ.1
    have h8 : g_n (z_G S) ≤ 8 := hI.1.1
    have hr : hr_T (z_G S) := hI.1.2.1
    refine ri_4 oX5_back_21 ?_
    refine rr_bipush (v := 8) oX5_back_23 (by decide) ?_
    refine rr_icmp_gt (tgt := 59) oX5_back_25 (by decide) (fun c => ?_) (fun c => ?_)
    · (rw [show (8 : Int32) = nI 8 from rfl, nI_lt_iff (by omega) (by omega)] at c; omega)
    refine ra_0 oX5_back_28 ?_
    refine ra_0 oX5_back_29 ?_
    refine ri_3 oX5_back_30 ?_
    refine rr_cVi (c_X5_seersOf l W hQ ha hah) oX5_back_31 (cv_X5_104 rfl) (by decide) kk_46 (by decide) hcn_5 (wd_lt W rfl) rfl rfl (Nat.le_of_ble_eq_true rfl) ?_
    refine rr_cVi (c_X5_firstOf l) oX5_back_34 (cv_X5_248 rfl) (by decide) kk_46 (by decide) hcn_5 (wd_lt W rfl) rfl rfl (Nat.le_of_ble_eq_true rfl) ?_
    generalize hst : fo_N (p_sr (z_G S) (b_dr (z_B S)) (b_sh (z_B S)) a) 8 0 = ke
    have hst2 : fo_N (q_sr S a) 8 0 = ke := hst
    rcases ke with _ | b
    · refine si_3 oX5_back_37 rfl rfl ?_
      refine ri_3 oX5_back_38 ?_
      refine rk_m1 oX5_back_39 ?_
      refine rr_icmp_ne (tgt := 45) oX5_back_40 (by decide) (fun c1 => ?_) (fun c1 => ?_)
      · exact absurd rfl c1
      refine rk_m1 oX5_back_43 ?_
      exact rr_ireturn oX5_back_44 rfl rfl (q_M_rf hM (by simp only [bk_N, hst2]))
    · have hb := fo_lt _ _ _ hst
      have hb2 := (p_sr_in hb.2.2).1
      simp only [oI]
      refine si_3 oX5_back_37 rfl rfl ?_
      refine ri_3 oX5_back_38 ?_
      refine rk_m1 oX5_back_39 ?_
      refine rr_icmp_ne (tgt := 45) oX5_back_40 (by decide) (fun c1 => ?_) (fun c1 => ?_)
      rotate_left
      · exact absurd c1 (nI_nm1 (by omega))
      refine ri_3 oX5_back_45 ?_
      refine ri_1 oX5_back_46 ?_
      refine rr_icmp_ne (tgt := 53) oX5_back_47 (by decide) (fun c2 => ?_) (fun c2 => ?_)
      · refine rn_4 oX5_back_53 rfl rfl ?_
        refine rr_goto (tgt := 21) oX5_back_56 (by decide) ?_
        have h3 := ih (k + 1) b (by omega) hb2.1 hb2.2
        simp only [bk_N, hst2]
        rw [if_neg (fun q => c2 (by rw [q]))]
        exact h3
      · refine ri_4 oX5_back_50 ?_
        exact rr_ireturn oX5_back_52 rfl rfl (q_M_rf hM (by simp only [bk_N, hst2]; rw [if_pos ((nI_inj (by omega) (by omega)).mp c2)]))
theorem c_X5_back (l : Launch) {I : Nat → Nat → Int32} {L : Nat → Nat → Int64} {Rf : Nat → Nat → Option Nat} {n : Nat} {S : sg_T} (W : wd_T Rf n) (hM : MR_T I L S) (hI : IV_T S) {t : Int32} : wm_C l mX5_back 17 0 0 [vv_A (some 46), vv_I t] (I, L, Rf, n) (q_M (f_back S t).1 (f_back S t).2 I L Rf n) := by
  refine wm_of (by decide) (Nat.le_of_ble_eq_true rfl) rfl ?_
  have hQ : mq_T I (z_G S) (b_dr (z_B S)) (b_sh (z_B S)) := mg_mq hM.1 hI.1
  have hG := hQ.1
  have h8 : g_n (z_G S) ≤ 8 := hI.1.1
  have hr : hr_T (z_G S) := hI.1.2.1
  refine ra_0 oX5_back_0 ?_
  refine ri_1 oX5_back_1 ?_
  refine rr_cVi (c_X5_barred l W hM hI) oX5_back_2 (cv_X5_127 rfl) (by decide) kk_46 (by decide) hcn_5 (wd_lt W rfl) rfl rfl (Nat.le_of_ble_eq_true rfl) ?_
  refine si_2 oX5_back_5 rfl rfl ?_
  refine ri_2 oX5_back_6 ?_
  refine rr_if_eq (tgt := 16) oX5_back_7 (by decide) (fun c => ?_) (fun c => ?_)
  · obtain ⟨a, b, ⟨ha, rfl, ha2⟩, ⟨hb, e2, hb2⟩⟩ := s_lh_0 h8 c
    have exa : ix_N (nI a) = a := nI_clamp (by omega)
    refine ri_1 oX5_back_16 ?_
    refine si_3 oX5_back_17 rfl rfl ?_
    refine rk_1 oX5_back_18 ?_
    refine si_4 oX5_back_19 rfl rfl ?_
    rw [f_back, if_neg (fun q => q c), exa]
    exact lp_X5_back l W hM hI (h := a) (by omega) 8 1 a (by omega) ha ha2
  · have hno := no_lh c
    refine ra_0 oX5_back_10 ?_
    refine ri_2 oX5_back_11 ?_
    refine rr_cVi (c_X5_noTen l W hno.1 hno.2) oX5_back_12 (cv_X5_207 rfl) (by decide) kk_46 (by decide) hcn_5 (wd_lt W rfl) rfl rfl (Nat.le_of_ble_eq_true rfl) ?_
    exact rr_ireturn oX5_back_15 rfl rfl (q_M_nod hM me_rf (by rw [f_back, if_pos c]) hno.1)
def dr_0 (c : Nat → Int32) : Option Nat → Int32
  | none => 0
  | some u => c u
theorem li_X5_most (l : Launch) {I : Nat → Nat → Int32} {L : Nat → Nat → Int64} {Rf : Nat → Nat → Option Nat} {n : Nat} {S : sg_T} (W : wd_T Rf n) (hM : MR_T I L S) (hI : IV_T S) {t : Nat} (htn : t < g_n (z_G S)) (hth : is_H (g_k (z_G S) t)) {x1 x2 : Int32} {Q : Option vv_T → mx_T → Prop} : ∀ m u acc, u + m = g_n (z_G S) → wm_W l mX5_most 15 0 0 74 [vv_A (some 46), vv_I x1, vv_I x2, vv_I (nI t), vv_I (sm_N (fun j => if q_se S j t = true then 1 else 0) m u acc), vv_I (nI (g_n (z_G S)))] [] (I, L, Rf, n) Q → wm_W l mX5_most 15 0 0 31 [vv_A (some 46), vv_I x1, vv_I x2, vv_I (nI t), vv_I acc, vv_I (nI u)] [] (I, L, Rf, n) Q := by
  intro m
  induction m with
  | zero =>
    intro u acc hu hK
    have hQ : mq_T I (z_G S) (b_dr (z_B S)) (b_sh (z_B S)) := mg_mq hM.1 hI.1
    have hG := hQ.1
    have h8 : g_n (z_G S) ≤ 8 := hI.1.1
    have hr : hr_T (z_G S) := hI.1.2.1
    refine ri_5 oX5_most_31 ?_
    refine ra_0 oX5_most_33 ?_
    refine rr_giv oX5_most_34 (ff_X5_84 rfl) kk_46 (wd_lt W rfl) ⟨by decide, rfl⟩ (mv_c hG) ?_
    refine rr_icmp_ge (tgt := 74) oX5_most_37 (by decide) (fun c => ?_) (fun c => ?_)
    rotate_left
    · exact absurd c (by rw [nI_le_iff (by omega) (by omega)]; omega)
    rw [show u = g_n (z_G S) by omega]
    exact hK
  | succ m ih =>
    intro u acc hu hK
    have hQ : mq_T I (z_G S) (b_dr (z_B S)) (b_sh (z_B S)) := mg_mq hM.1 hI.1
    have hG := hQ.1
    have h8 : g_n (z_G S) ≤ 8 := hI.1.1
    have hr : hr_T (z_G S) := hI.1.2.1
    refine ri_5 oX5_most_31 ?_
    refine ra_0 oX5_most_33 ?_
    refine rr_giv oX5_most_34 (ff_X5_84 rfl) kk_46 (wd_lt W rfl) ⟨by decide, rfl⟩ (mv_c hG) ?_
    refine rr_icmp_ge (tgt := 74) oX5_most_37 (by decide) (fun c => ?_) (fun c => ?_)
    · (rw [nI_le_iff (by omega) (by omega)] at c; omega)
    refine ri_5 oX5_most_40 ?_
    refine ri_3 oX5_most_42 ?_
    refine rr_icmp_eq (tgt := 68) oX5_most_43 (by decide) (fun c1 => ?_) (fun c1 => ?_)
    · rw [nI_inj (by omega) (by omega)] at c1
      refine rn_5 oX5_most_68 rfl rfl ?_
      refine rr_goto (tgt := 31) oX5_most_71 (by decide) ?_
      refine ih (u + 1) acc (by omega) ?_
      simp only [sm_N] at hK
      rw [if_neg (fun q => (se_in q).2.2 c1.symm), Int32.add_zero] at hK
      exact hK
    · rw [nI_inj (by omega) (by omega)] at c1
      refine ra_0 oX5_most_46 ?_
      refine ri_5 oX5_most_47 ?_
      refine rr_cVi (c_X5_isHouse l W hQ (by omega)) oX5_most_49 (cv_X5_91 rfl) (by decide) kk_46 (by decide) hcn_5 (wd_lt W rfl) rfl rfl (Nat.le_of_ble_eq_true rfl) ?_
      refine rr_ifb_eq (tgt := 68) oX5_most_52 (by decide) (fun c2 => ?_) (fun c2 => ?_)
      · refine rn_5 oX5_most_68 rfl rfl ?_
        refine rr_goto (tgt := 31) oX5_most_71 (by decide) ?_
        refine ih (u + 1) acc (by omega) ?_
        simp only [sm_N] at hK
        rw [if_neg (fun q => c2 (se_in q).2.1.2), Int32.add_zero] at hK
        exact hK
      · refine ra_0 oX5_most_55 ?_
        refine ri_3 oX5_most_56 ?_
        refine ri_5 oX5_most_57 ?_
        refine rr_cVi (c_X5_isSeen l W hQ (i := t) (j := u) (by omega) (by omega) (hr t (by omega) hth).1 (hr u (by omega) c2).1) oX5_most_59 (cv_X5_201 rfl) (by decide) kk_46 (by decide) hcn_5 (wd_lt W rfl) rfl rfl (Nat.le_of_ble_eq_true rfl) ?_
        refine rr_ifb_eq (tgt := 68) oX5_most_62 (by decide) (fun c3 => ?_) (fun c3 => ?_)
        · refine rn_5 oX5_most_68 rfl rfl ?_
          refine rr_goto (tgt := 31) oX5_most_71 (by decide) ?_
          refine ih (u + 1) acc (by omega) ?_
          simp only [sm_N] at hK
          rw [if_neg (fun q => c3 ((se_of (by omega) hth (by omega) c2 (fun z => c1 z.symm)).mp q)), Int32.add_zero] at hK
          exact hK
        · refine rc_4 (v := acc + 1) oX5_most_65 rfl rfl rfl ?_
          refine rn_5 oX5_most_68 rfl rfl ?_
          refine rr_goto (tgt := 31) oX5_most_71 (by decide) ?_
          refine ih (u + 1) (acc + 1) (by omega) ?_
          simp only [sm_N] at hK
          rw [if_pos ((se_of (by omega) hth (by omega) c2 (fun z => c1 z.symm)).mpr c3)] at hK
          exact hK
theorem lb_X5_most (l : Launch) {I : Nat → Nat → Int32} {L : Nat → Nat → Int64} {Rf : Nat → Nat → Option Nat} {n : Nat} {S : sg_T} (W : wd_T Rf n) (hM : MR_T I L S) (hI : IV_T S) {t : Nat} (htn : t < g_n (z_G S)) (hp : p_h (z_G S) t = true) {b : Option Nat} (hb : ∀ u, b = some u → u < 8) {Q : Option vv_T → mx_T → Prop} (hK : ∀ b2 w4 w5, (∀ u, b2 = some u → u < 8) → (∀ m, kp_N (p_h (z_G S)) (s_seen S) (m + 1) t b = kp_N (p_h (z_G S)) (s_seen S) m (t + 1) b2) → wm_W l mX5_most 15 0 0 6 [vv_A (some 46), vv_I (oI b2), vv_I (dr_0 (s_seen S) b2), vv_I (nI (t + 1)), w4, w5] [] (I, L, Rf, n) Q) {w5 : vv_T} : wm_W l mX5_most 15 0 0 74 [vv_A (some 46), vv_I (oI b), vv_I (dr_0 (s_seen S) b), vv_I (nI t), vv_I (s_seen S t), w5] [] (I, L, Rf, n) Q := by
  have hQ : mq_T I (z_G S) (b_dr (z_B S)) (b_sh (z_B S)) := mg_mq hM.1 hI.1
  have hG := hQ.1
  have h8 : g_n (z_G S) ≤ 8 := hI.1.1
  have hr : hr_T (z_G S) := hI.1.2.1
  rcases b with _ | u
  · refine ri_1 oX5_most_74 ?_
    refine rk_m1 oX5_most_75 ?_
    refine rr_icmp_eq (tgt := 88) oX5_most_76 (by decide) (fun c1 => ?_) (fun c1 => ?_)
    rotate_left
    · exact absurd rfl c1
    refine ri_3 oX5_most_88 ?_
    refine si_1 oX5_most_89 rfl rfl ?_
    refine ri_4 oX5_most_90 ?_
    refine si_2 oX5_most_92 rfl rfl ?_
    refine rn_3 oX5_most_93 rfl rfl ?_
    refine rr_goto (tgt := 6) oX5_most_96 (by decide) ?_
    exact hK (some t) _ _ (by intro u h; cases h; omega) (fun m => by simp only [kp_N]; rw [if_pos hp])
  · have hu := hb u rfl
    refine ri_1 oX5_most_74 ?_
    refine rk_m1 oX5_most_75 ?_
    refine rr_icmp_eq (tgt := 88) oX5_most_76 (by decide) (fun c1 => ?_) (fun c1 => ?_)
    · exact absurd c1 (nI_nm1 (by omega))
    refine ri_4 oX5_most_79 ?_
    refine ri_2 oX5_most_81 ?_
    refine rr_icmp_gt (tgt := 88) oX5_most_82 (by decide) (fun c2 => ?_) (fun c2 => ?_)
    · refine ri_3 oX5_most_88 ?_
      refine si_1 oX5_most_89 rfl rfl ?_
      refine ri_4 oX5_most_90 ?_
      refine si_2 oX5_most_92 rfl rfl ?_
      refine rn_3 oX5_most_93 rfl rfl ?_
      refine rr_goto (tgt := 6) oX5_most_96 (by decide) ?_
      exact hK (some t) _ _ (by intro u h; cases h; omega) (fun m => by simp only [kp_N]; rw [if_pos hp, if_pos (show s_seen S u < s_seen S t from c2)])
    · refine rr_goto (tgt := 93) oX5_most_85 (by decide) ?_
      refine rn_3 oX5_most_93 rfl rfl ?_
      refine rr_goto (tgt := 6) oX5_most_96 (by decide) ?_
      exact hK (some u) _ _ hb (fun m => by simp only [kp_N]; rw [if_pos hp, if_neg (show ¬ s_seen S u < s_seen S t from c2)])
theorem lp_X5_most (l : Launch) {I : Nat → Nat → Int32} {L : Nat → Nat → Int64} {Rf : Nat → Nat → Option Nat} {n : Nat} {S : sg_T} (W : wd_T Rf n) (hM : MR_T I L S) (hI : IV_T S) {Q : Option vv_T → mx_T → Prop} : ∀ m t b w4 w5, t + m = g_n (z_G S) → (∀ u, b = some u → u < 8) → (∀ b2 w4 w5, b2 = kp_N (p_h (z_G S)) (s_seen S) m t b → (∀ u, b2 = some u → u < 8) → wm_W l mX5_most 15 0 0 99 [vv_A (some 46), vv_I (oI b2), vv_I (dr_0 (s_seen S) b2), vv_I (nI (g_n (z_G S))), w4, w5] [] (I, L, Rf, n) Q) → wm_W l mX5_most 15 0 0 6 [vv_A (some 46), vv_I (oI b), vv_I (dr_0 (s_seen S) b), vv_I (nI t), w4, w5] [] (I, L, Rf, n) Q := by
  intro m
  induction m with
  | zero =>
    intro t b w4 w5 ht hb hK
    have hQ : mq_T I (z_G S) (b_dr (z_B S)) (b_sh (z_B S)) := mg_mq hM.1 hI.1
    have hG := hQ.1
    have h8 : g_n (z_G S) ≤ 8 := hI.1.1
    have hr : hr_T (z_G S) := hI.1.2.1
    refine ri_3 oX5_most_6 ?_
    refine ra_0 oX5_most_7 ?_
    refine rr_giv oX5_most_8 (ff_X5_84 rfl) kk_46 (wd_lt W rfl) ⟨by decide, rfl⟩ (mv_c hG) ?_
    refine rr_icmp_ge (tgt := 99) oX5_most_11 (by decide) (fun c => ?_) (fun c => ?_)
    rotate_left
    · exact absurd c (by rw [nI_le_iff (by omega) (by omega)]; omega)
    rw [show t = g_n (z_G S) by omega]
    exact hK b w4 w5 rfl hb
  | succ m ih =>
    intro t b w4 w5 ht hb hK
    have hQ : mq_T I (z_G S) (b_dr (z_B S)) (b_sh (z_B S)) := mg_mq hM.1 hI.1
    have hG := hQ.1
    have h8 : g_n (z_G S) ≤ 8 := hI.1.1
    have hr : hr_T (z_G S) := hI.1.2.1
    refine ri_3 oX5_most_6 ?_
    refine ra_0 oX5_most_7 ?_
    refine rr_giv oX5_most_8 (ff_X5_84 rfl) kk_46 (wd_lt W rfl) ⟨by decide, rfl⟩ (mv_c hG) ?_
    refine rr_icmp_ge (tgt := 99) oX5_most_11 (by decide) (fun c => ?_) (fun c => ?_)
    · (rw [nI_le_iff (by omega) (by omega)] at c; omega)
    refine ra_0 oX5_most_14 ?_
    refine ri_3 oX5_most_15 ?_
    refine rr_cVi (c_X5_isHouse l W hQ (by omega)) oX5_most_16 (cv_X5_91 rfl) (by decide) kk_46 (by decide) hcn_5 (wd_lt W rfl) rfl rfl (Nat.le_of_ble_eq_true rfl) ?_
    refine rr_ifb_ne (tgt := 25) oX5_most_19 (by decide) (fun c1 => ?_) (fun c1 => ?_)
    · refine rk_0 oX5_most_25 ?_
      refine si_4 oX5_most_26 rfl rfl ?_
      refine rk_0 oX5_most_28 ?_
      refine si_5 oX5_most_29 rfl rfl ?_
      refine li_X5_most l W hM hI (t := t) (by omega) c1 (g_n (z_G S)) 0 0 (Nat.zero_add _) ?_
      have e2 : p_h (z_G S) t = true := by simp only [p_h, show t < g_n (z_G S) by omega, c1, decide_true, Bool.true_and]
      rw [show sm_N (fun j => if q_se S j t = true then 1 else 0) (g_n (z_G S)) 0 0 = s_seen S t from rfl]
      exact lb_X5_most l W hM hI (t := t) (by omega) e2 hb (fun b2 w4 w5 hb2 hK2 => ih (t + 1) b2 w4 w5 (by omega) hb2 (fun b3 w4 w5 e3 hb3 => hK b3 w4 w5 (by rw [e3, hK2]) hb3))
    · refine rr_goto (tgt := 93) oX5_most_22 (by decide) ?_
      refine rn_3 oX5_most_93 rfl rfl ?_
      refine rr_goto (tgt := 6) oX5_most_96 (by decide) ?_
      refine ih (t + 1) b _ _ (by omega) hb (fun b3 w4 w5 e3 hb3 => hK b3 w4 w5 (by rw [e3]; simp only [kp_N]; rw [if_neg (by simp [p_h, c1])]) hb3)
theorem ls_X5_most (l : Launch) {I : Nat → Nat → Int32} {L : Nat → Nat → Int64} {Rf : Nat → Nat → Option Nat} {n : Nat} {S : sg_T} (W : wd_T Rf n) (hM : MR_T I L S) (hI : IV_T S) {b : Option Nat} (e : kp_N (p_h (z_G S)) (s_seen S) 8 0 none = b) (hb : ∀ u, b = some u → u < 8) {x2 : Int32} {w4 w5 : vv_T} : wm_W l mX5_most 15 0 0 99 [vv_A (some 46), vv_I (oI b), vv_I x2, vv_I (nI (g_n (z_G S))), w4, w5] [] (I, L, Rf, n) (q_M (f_most S).1 (f_most S).2 I L Rf n) := by
  have hQ : mq_T I (z_G S) (b_dr (z_B S)) (b_sh (z_B S)) := mg_mq hM.1 hI.1
  have hG := hQ.1
  have h8 : g_n (z_G S) ≤ 8 := hI.1.1
  have hr : hr_T (z_G S) := hI.1.2.1
  rcases b with _ | u
  · refine ri_1 oX5_most_99 ?_
    refine rk_m1 oX5_most_100 ?_
    refine rr_icmp_ne (tgt := 113) oX5_most_101 (by decide) (fun c1 => ?_) (fun c1 => ?_)
    · exact absurd rfl c1
    refine ra_0 oX5_most_104 ?_
    refine rr_bipush (v := (-5)) oX5_most_105 (by decide) ?_
    refine rr_cVi (c_X5_no l W (c := 5) (by decide) (by decide)) oX5_most_107 (cv_X5_97 rfl) (by decide) kk_46 (by decide) hcn_5 (wd_lt W rfl) rfl rfl (Nat.le_of_ble_eq_true rfl) ?_
    refine rr_goto (tgt := 114) oX5_most_110 (by decide) ?_
    exact rr_ireturn oX5_most_114 rfl rfl (q_M_noc hM me_rf (by rw [f_most, if_pos (st_e0.mpr (fun i hi => (kp_none 8 0).mp e i (by omega) (by omega)))]) (by decide) (by decide))
  · have hu := hb u rfl
    refine ri_1 oX5_most_99 ?_
    refine rk_m1 oX5_most_100 ?_
    refine rr_icmp_ne (tgt := 113) oX5_most_101 (by decide) (fun c1 => ?_) (fun c1 => ?_)
    rotate_left
    · exact absurd c1 (nI_nm1 (by omega))
    refine ri_1 oX5_most_113 ?_
    exact rr_ireturn oX5_most_114 rfl rfl (q_M_an hM me_rf (by rw [f_most, if_neg (fun q => by rw [(kp_none 8 0).mpr (fun i _ h2 => st_e0.mp q i (by omega))] at e; cases e), e]) rfl)
theorem c_X5_most (l : Launch) {I : Nat → Nat → Int32} {L : Nat → Nat → Int64} {Rf : Nat → Nat → Option Nat} {n : Nat} {S : sg_T} (W : wd_T Rf n) (hM : MR_T I L S) (hI : IV_T S) : wm_C l mX5_most 15 0 0 [vv_A (some 46)] (I, L, Rf, n) (q_M (f_most S).1 (f_most S).2 I L Rf n) := by
  refine wm_of (by decide) (Nat.le_of_ble_eq_true rfl) rfl ?_
  have hQ : mq_T I (z_G S) (b_dr (z_B S)) (b_sh (z_B S)) := mg_mq hM.1 hI.1
  have hG := hQ.1
  have h8 : g_n (z_G S) ≤ 8 := hI.1.1
  have hr : hr_T (z_G S) := hI.1.2.1
  refine rk_m1 oX5_most_0 ?_
  refine si_1 oX5_most_1 rfl rfl ?_
  refine rk_0 oX5_most_2 ?_
  refine si_2 oX5_most_3 rfl rfl ?_
  refine rk_0 oX5_most_4 ?_
  refine si_3 oX5_most_5 rfl rfl ?_
  refine lp_X5_most l W hM hI (g_n (z_G S)) 0 none _ _ (Nat.zero_add _) (by intro u h; cases h) (fun b2 w4 w5 e hb2 => ?_)
  have e8 : kp_N (p_h (z_G S)) (s_seen S) 8 0 none = b2 := (kp_8 h8 (fun i hi => by simp [p_h, show ¬ i < g_n (z_G S) by omega]) none).trans e.symm
  exact ls_X5_most l W hM hI e8 hb2
