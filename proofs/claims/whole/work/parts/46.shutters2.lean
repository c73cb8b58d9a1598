/-! the model: shutters by price (by program: wip/whole/c46.py) -/
def shT (G : gr_T) (dr : Nat → Bool) (sh : Nat → Nat → Bool) (b : Bool) (t : Nat) : Nat → Nat → Bool := fun j i => sh j i || (b && (decide (j < t) && p_tm G dr sh j i))
def shI (G : gr_T) (dr : Nat → Bool) (sh : Nat → Nat → Bool) (b : Bool) (j t : Nat) : Nat → Nat → Bool := fun q i => sh q i || (b && ((decide (q < j) || (decide (q = j) && decide (i < t))) && p_tm G dr sh q i))
theorem tm_in {G : gr_T} {dr : Nat → Bool} {sh : Nat → Nat → Bool} {j i : Nat} (h : p_tm G dr sh j i = true) : (i < g_n G ∧ is_H (g_k G i)) ∧ (j < g_n G ∧ is_H (g_k G j)) ∧ ¬ i = j := by
  simp only [p_tm, p_sr, Bool.and_eq_true] at h
  exact se_in h.1.1
theorem shT_0 {G : gr_T} {dr : Nat → Bool} {sh : Nat → Nat → Bool} {b : Bool} : shT G dr sh b 0 = sh := by
  funext j i
  simp [shT]
theorem shT_f {G : gr_T} {dr : Nat → Bool} {sh : Nat → Nat → Bool} {t : Nat} : shT G dr sh false t = sh := by
  funext j i
  simp [shT]
theorem shT_n {G : gr_T} {dr : Nat → Bool} {sh : Nat → Nat → Bool} (h8 : g_n G ≤ 8) : shT G dr sh true (g_n G) = fun j i => sh j i || (decide (j < 8) && p_tm G dr sh j i) := by
  funext j i
  simp only [shT, Bool.true_and]
  cases z : p_tm G dr sh j i with
  | false => simp
  | true => have := (tm_in z).2.1.1; rw [show decide (j < g_n G) = true from decide_eq_true this, show decide (j < 8) = true from decide_eq_true (by omega)]
theorem shT_row {G : gr_T} {dr : Nat → Bool} {sh : Nat → Nat → Bool} {b : Bool} {t : Nat} : shT G dr sh b t t = sh t := by
  funext i
  simp [shT]
theorem sr_row {G : gr_T} {dr : Nat → Bool} {s1 s2 : Nat → Nat → Bool} {j : Nat} (h : s1 j = s2 j) : p_sr G dr s1 j = p_sr G dr s2 j := by funext i; simp only [p_sr, p_se, h]
theorem kp_row {G : gr_T} {dr : Nat → Bool} {s1 s2 : Nat → Nat → Bool} {j : Nat} (h : s1 j = s2 j) : s_kept G dr s1 j = s_kept G dr s2 j := by
  have e2 : p_kp G dr s1 j = p_kp G dr s2 j := by funext i; simp only [p_kp, sr_row h]
  simp only [s_kept, e2]
theorem shI_0 {G : gr_T} {dr : Nat → Bool} {sh : Nat → Nat → Bool} {b : Bool} {j : Nat} : shI G dr sh b j 0 = shT G dr sh b j := by
  funext q i
  simp [shI, shT]
theorem shI_n {G : gr_T} {dr : Nat → Bool} {sh : Nat → Nat → Bool} {b : Bool} {j : Nat} : shI G dr sh b j (g_n G) = shT G dr sh b (j + 1) := by
  funext q i
  simp only [shI, shT]
  cases z : p_tm G dr sh q i with
  | false => simp
  | true =>
    have := (tm_in z).1.1
    rw [show decide (i < g_n G) = true from decide_eq_true this]
    simp only [Bool.and_true]
    rw [show (decide (q < j) || decide (q = j)) = decide (q < j + 1) from by rw [← Bool.decide_or]; exact decide_eq_decide.mpr (by omega)]
theorem shT_no {G : gr_T} {dr : Nat → Bool} {sh : Nat → Nat → Bool} {b : Bool} {j : Nat} (h : ¬ is_H (g_k G j)) : shT G dr sh b (j + 1) = shT G dr sh b j := by
  funext q i
  simp only [shT]
  cases z : p_tm G dr sh q i with
  | false => simp
  | true =>
    have := (tm_in z).2.1.2
    rw [show decide (q < j + 1) = decide (q < j) from decide_eq_decide.mpr (by
      have : q ≠ j := fun e => h (e ▸ this)
      omega)]
theorem shI_no {G : gr_T} {dr : Nat → Bool} {sh : Nat → Nat → Bool} {b : Bool} {j t : Nat} (h : b = true → p_tm G dr sh j t = true → False) : shI G dr sh b j (t + 1) = shI G dr sh b j t := by
  funext q i
  simp only [shI]
  cases hb : b with
  | false => simp
  | true =>
    cases z : p_tm G dr sh q i with
    | false => simp
    | true =>
      have : ¬ (q = j ∧ i = t) := fun e => h hb (by rw [← e.1, ← e.2]; exact z)
      rw [show (decide (q = j) && decide (i < t + 1)) = (decide (q = j) && decide (i < t)) from by rw [← Bool.decide_and, ← Bool.decide_and]; exact decide_eq_decide.mpr (by omega)]
theorem shI_col {G : gr_T} {dr : Nat → Bool} {sh : Nat → Nat → Bool} {j t i : Nat} (h : ¬ i = t) (q : Nat) : shI G dr sh true j (t + 1) q i = shI G dr sh true j t q i := by
  simp only [shI]
  rw [show decide (i < t + 1) = decide (i < t) from decide_eq_decide.mpr (by omega)]
theorem shI_up {G : gr_T} {dr : Nat → Bool} {sh : Nat → Nat → Bool} {j t : Nat} (h : p_tm G dr sh j t = true) (q : Nat) : shI G dr sh true j (t + 1) q t = up_1 (fun q => shI G dr sh true j t q t) j true q := by
  simp only [shI, up_1]
  by_cases e : q = j
  · subst e
    simp [h]
  · simp [e]
theorem oI_eq {s : Option Nat} {t : Nat} (ho : ∀ u, s = some u → u < 8) (ht : t < 8) : nI t = oI s ↔ some t = s := by
  cases s with
  | none => exact ⟨fun h => absurd h (nI_nm1 (by omega)), fun h => by cases h⟩
  | some u =>
    have := ho u rfl
    rw [oI, nI_inj (by omega) (by omega)]
    exact ⟨fun h => by rw [h], fun h => by cases h; rfl⟩
theorem kp_nn {p : Nat → Bool} {c : Nat → Int32} : ∀ m t, kp_N p c m t none = none ↔ ∀ i, t ≤ i → i < t + m → p i = false := by
  intro m
  induction m with
  | zero => intro t; exact ⟨fun _ i h1 h2 => by omega, fun _ => rfl⟩
  | succ m ih =>
    intro t
    unfold kp_N
    by_cases q : p t = true
    · rw [if_pos q]
      constructor
      · intro h
        have := kp_s (p := p) (c := c) m (t + 1) (some t) rfl
        rw [h] at this
        cases this
      · intro h
        rw [h t (by omega) (by omega)] at q
        cases q
    · rw [if_neg q, ih (t + 1)]
      have q2 : p t = false := by simpa using q
      exact ⟨fun h i h1 h2 => by
        by_cases e : i = t
        · rw [e]; exact q2
        · exact h i (by omega) (by omega), fun h i h1 h2 => h i (by omega) (by omega)⟩
theorem hop_kp {G : gr_T} {dr : Nat → Bool} {sh : Nat → Nat → Bool} {j : Nat} (h8 : g_n G ≤ 8) (hh : is_H (g_k G j)) (h4 : ¬ g_k G j = 4) : (s_kept G dr sh j = none) ↔ p_hop G dr sh j = true := by
  unfold s_kept
  rw [kp_nn]
  have e4 : (g_k G j == 4) = false := by simp [h4]
  simp only [p_hop, p_kp, e4, hh, decide_true, Bool.true_and, Bool.not_false, beq_iff_eq]
  rw [st_e0]
  constructor
  · intro h i hi
    by_cases q : i < g_n G
    · exact h i (by omega) (by omega)
    · cases z : p_sr G dr sh j i with
      | false => rfl
      | true =>
        simp only [p_sr, Bool.and_eq_true] at z
        have := (se_in z.1).1.1
        omega
  · intro h i _ hi
    exact h i (by omega)
theorem tm_sum {G : gr_T} {dr : Nat → Bool} {sh : Nat → Nat → Bool} {j : Nat} (h8 : g_n G ≤ 8) (acc : Int32) : sm_N (fun i => if p_tm G dr sh j i = true then 1 else 0) (g_n G) 0 acc = acc + nI (cn_8 (p_tm G dr sh j)) := by
  rw [sm_cn, Nat.zero_add]
  have e : cn_N (p_tm G dr sh j) (g_n G) = cn_8 (p_tm G dr sh j) := by
    show _ = cn_N _ 8
    rw [cn_sN, cn_sN]
    have := sN_ext (f := fun i => (p_tm G dr sh j i).toNat) (8 - g_n G) (g_n G) (fun i h1 _ => by
      cases z : p_tm G dr sh j i with
      | false => rfl
      | true => have := (tm_in z).1.1; omega)
    rw [show g_n G + (8 - g_n G) = 8 by omega] at this
    exact this.symm
  rw [e]
  exact Int32.sub_zero _
theorem mq_sh {I J : Nat → Nat → Int32} {G : gr_T} {dr : Nat → Bool} {sh s2 : Nat → Nat → Bool} (h : mq_T I G dr sh) (h0 : ∀ f, f < 3 → J 46 f = I 46 f) (ha : ∀ a, 48 ≤ a → a ≤ 53 → J a = I a) (hs : ∀ i, i < 8 → J 54 i = st_S (fun j => s2 j i)) : mq_T J G dr s2 := by
  obtain ⟨⟨g1, g2, g3, g4, g5⟩, h2, h3, h4, h5⟩ := h
  exact ⟨⟨g1, by rw [h0 0 (by omega)]; exact g2, by rw [h0 1 (by omega)]; exact g3, by rw [h0 2 (by omega)]; exact g4, fun t ht => by rw [ha 48 (by omega) (by omega), ha 49 (by omega) (by omega), ha 50 (by omega) (by omega), ha 51 (by omega) (by omega), ha 52 (by omega) (by omega)]; exact g5 t ht⟩, fun t ht => by rw [ha 53 (by omega) (by omega)]; exact h2 t ht, hs, h4, h5⟩
theorem mg_mq2 {J : Nat → Nat → Int32} {B : gb_T} {sh : Nat → Nat → Bool} (h : mq_T J (b_G B) (b_dr B) sh) (h3 : J 46 3 = b_fi B) (h4 : J 46 4 = b_sd B) : mg_T J (b_ws B sh) := ⟨h.1, h.2.1, h.2.2.1, h3, h4⟩
theorem li_X5_shutters (l : Launch) {I : Nat → Nat → Int32} {L : Nat → Nat → Int64} {Rf : Nat → Nat → Option Nat} {n : Nat} (W : wd_T Rf n) {G : gr_T} {dr : Nat → Bool} {sh : Nat → Nat → Bool} (b : Bool) {j : Nat} (hj : j < g_n G) {C K : Int32} {Q : Option vv_T → mx_T → Prop} (hP : ∀ J : Nat → Nat → Int32, mq_T J G dr (shI G dr sh b j (g_n G)) → J 46 29 = C → J 46 31 = K → (∀ f, f ≠ 29 → f ≠ 31 → J 46 f = I 46 f) → (∀ a, a ≠ 46 → a ≠ 54 → J a = I a) → wm_W l mX5_shutters 18 0 0 157 [vv_A (some 46), vv_I (bI (b = true)), vv_I (nI j), vv_I (st_S (p_sr G dr sh j)), vv_I (oI (s_kept G dr sh j)), vv_I (nI (g_n G))] [] (J, L, Rf, n) Q) : ∀ m (J : Nat → Nat → Int32) t, t + m = g_n G → mq_T J G dr (shI G dr sh b j t) → C = sm_N ((fun j i => if p_tm G dr sh j i = true then s_cost G i j else 0) j) m t (J 46 29) → K = sm_N (fun i => if p_tm G dr sh j i = true then (1 : Int32) else 0) m t (J 46 31) → (∀ f, f ≠ 29 → f ≠ 31 → J 46 f = I 46 f) → (∀ a, a ≠ 46 → a ≠ 54 → J a = I a) → wm_W l mX5_shutters 18 0 0 80 [vv_A (some 46), vv_I (bI (b = true)), vv_I (nI j), vv_I (st_S (p_sr G dr sh j)), vv_I (oI (s_kept G dr sh j)), vv_I (nI t)] [] (J, L, Rf, n) Q := by
  intro m
  induction m with
  | zero =>
    intro J t ht hQ h1 h2 h3 h4
    have hG := hQ.1
    have h8 := mv_8 hG
    have hkl : ∀ u, s_kept G dr sh j = some u → u < 8 := fun u e => by have := s_kept_lt e; omega
    refine ri_5 oX5_shutters_80 ?_
    refine ra_0 oX5_shutters_82 ?_
    refine rr_giv oX5_shutters_83 (ff_X5_84 rfl) kk_46 (wd_lt W rfl) ⟨by decide, rfl⟩ (mv_c hG) ?_
    refine rr_icmp_ge (tgt := 157) oX5_shutters_86 (by decide) (fun c => ?_) (fun c => ?_)
    rotate_left
    · exact absurd c (by rw [nI_le_iff (by omega) (by omega)]; omega)
    have e : t = g_n G := by omega
    subst e
    exact hP J hQ h1.symm h2.symm h3 h4
  | succ m ih =>
    intro J t ht hQ h1 h2 h3 h4
    have hG := hQ.1
    have h8 := mv_8 hG
    have hkl : ∀ u, s_kept G dr sh j = some u → u < 8 := fun u e => by have := s_kept_lt e; omega
    refine ri_5 oX5_shutters_80 ?_
    refine ra_0 oX5_shutters_82 ?_
    refine rr_giv oX5_shutters_83 (ff_X5_84 rfl) kk_46 (wd_lt W rfl) ⟨by decide, rfl⟩ (mv_c hG) ?_
    refine rr_icmp_ge (tgt := 157) oX5_shutters_86 (by decide) (fun c => ?_) (fun c => ?_)
    · (rw [nI_le_iff (by omega) (by omega)] at c; omega)
    refine ri_3 oX5_shutters_89 ?_
    refine ri_5 oX5_shutters_90 ?_
    refine rr_ishr oX5_shutters_92 ?_
    refine rk_1 oX5_shutters_93 ?_
    refine rr_iand oX5_shutters_94 ?_
    rw [st_sh (by omega)]
    by_cases hp : p_sr G dr sh j t = true
    · rw [if_pos hp]
      refine rr_if_eq (tgt := 151) oX5_shutters_95 (by decide) (fun c1 => ?_) (fun c1 => ?_)
      · exact absurd c1 (by decide)
      refine ri_5 oX5_shutters_98 ?_
      refine ri_4 oX5_shutters_100 ?_
      refine rr_icmp_ne (tgt := 108) oX5_shutters_102 (by decide) (fun c2 => ?_) (fun c2 => ?_)
      · have htm : p_tm G dr sh j t = true := by simp only [p_tm, hp, Bool.true_and, Bool.not_eq_true', beq_eq_false_iff_ne]; exact fun e => c2 ((oI_eq hkl (by omega)).mpr e)
        refine ra_0 oX5_shutters_108 ?_
        refine rr_dup oX5_shutters_109 rfl ?_
        refine rr_gi oX5_shutters_110 (ff_X5_219 rfl) kk_46 (wd_lt W rfl) ⟨by decide, rfl⟩ ?_
        refine ra_0 oX5_shutters_113 ?_
        refine ri_5 oX5_shutters_114 ?_
        refine ri_2 oX5_shutters_116 ?_
        refine rr_cVi (c_X5_costOf l W hQ (by omega) hj) oX5_shutters_117 (cv_X5_213 rfl) (by decide) kk_46 (by decide) hcn_5 (wd_lt W rfl) rfl rfl (Nat.le_of_ble_eq_true rfl) ?_
        refine rr_iadd oX5_shutters_120 ?_
        refine rr_pi oX5_shutters_121 (ff_X5_219 rfl) kk_46 (wd_lt W rfl) ⟨by decide, rfl, by decide⟩ pf_5_29 ⟨rfl, rfl⟩ ?_
        refine ra_0 oX5_shutters_124 ?_
        refine rr_dup oX5_shutters_125 rfl ?_
        refine rr_giv oX5_shutters_126 (ff_X5_225 rfl) kk_46 (wd_lt W rfl) ⟨by decide, rfl⟩ (show _ = J 46 31 from up_I_at_ne (by omega)) ?_
        refine rk_1 oX5_shutters_129 ?_
        refine rr_iadd oX5_shutters_130 ?_
        refine rr_pi oX5_shutters_131 (ff_X5_225 rfl) kk_46 (wd_lt W rfl) ⟨by decide, rfl, by decide⟩ pf_5_31 ⟨rfl, rfl⟩ ?_
        refine ri_1 oX5_shutters_134 ?_
        refine rr_ifb_eq (tgt := 151) oX5_shutters_135 (by decide) (fun cb => ?_) (fun cb => ?_)
        · refine rn_5 oX5_shutters_151 rfl rfl ?_
          refine rr_goto (tgt := 80) oX5_shutters_154 (by decide) ?_
          have e1 : C = sm_N ((fun j i => if p_tm G dr sh j i = true then s_cost G i j else 0) j) m (t + 1) (J 46 29 + s_cost G t j) := h1.trans (by simp only [sm_N]; rw [if_pos htm])
          have e2 : K = sm_N (fun i => if p_tm G dr sh j i = true then (1 : Int32) else 0) m (t + 1) (J 46 31 + 1) := h2.trans (by simp only [sm_N]; rw [if_pos htm])
          refine ih _ (t + 1) (by omega) ?_ (by rw [up_I_at_ne (by omega), up_I_at]; exact e1) (by rw [up_I_at]; exact e2) (fun f q1 q2 => by rw [up_I_at_ne q2, up_I_at_ne q1]; exact h3 f q1 q2) (fun a q1 q2 => by rw [up_I_ne q1, up_I_ne q1]; exact h4 a q1 q2)
          rw [shI_no (fun z _ => cb z)]
          exact mq_ce hQ (fun f hf => by rw [up_I_at_ne (by omega), up_I_at_ne (by omega)]) (fun a q1 q2 => by rw [up_I_ne (by omega), up_I_ne (by omega)])
        · refine ra_0 oX5_shutters_138 ?_
          refine rr_gr (v := 54) oX5_shutters_139 (ff_X5_44 rfl) kk_46 (wd_lt W rfl) ⟨by decide, rfl⟩ (wd_r W rfl rfl) ?_
          refine ri_5 oX5_shutters_142 ?_
          refine rr_dup2 oX5_shutters_144 rfl rfl ?_
          refine rr_iv oX5_shutters_145 kk_54 (wd_lt W rfl) rfl (by omega) (by decide) (show _ = st_S (fun q => shI G dr sh b j t q t) from by rw [up_I_ne (by omega), up_I_ne (by omega)]; exact hQ.2.2.1 t (by omega)) ?_
          refine rk_1 oX5_shutters_146 ?_
          refine ri_2 oX5_shutters_147 ?_
          refine rr_ishl oX5_shutters_148 ?_
          refine rr_ior oX5_shutters_149 ?_
          rw [st_on1 (by omega)]
          refine rr_ist oX5_shutters_150 kk_54 (wd_lt W rfl) rfl (by omega) (by decide) ?_
          refine rn_5 oX5_shutters_151 rfl rfl ?_
          refine rr_goto (tgt := 80) oX5_shutters_154 (by decide) ?_
          have e1 : C = sm_N ((fun j i => if p_tm G dr sh j i = true then s_cost G i j else 0) j) m (t + 1) (J 46 29 + s_cost G t j) := h1.trans (by simp only [sm_N]; rw [if_pos htm])
          have e2 : K = sm_N (fun i => if p_tm G dr sh j i = true then (1 : Int32) else 0) m (t + 1) (J 46 31 + 1) := h2.trans (by simp only [sm_N]; rw [if_pos htm])
          refine ih _ (t + 1) (by omega) ?_ (by rw [up_I_ne (by omega), up_I_at_ne (by omega), up_I_at]; exact e1) (by rw [up_I_ne (by omega), up_I_at]; exact e2) (fun f q1 q2 => by rw [up_I_ne (by omega), up_I_at_ne q2, up_I_at_ne q1]; exact h3 f q1 q2) (fun a q1 q2 => by rw [up_I_ne q2, up_I_ne q1, up_I_ne q1]; exact h4 a q1 q2)
          refine mq_sh hQ (fun f hf => by rw [up_I_ne (by omega), up_I_at_ne (by omega), up_I_at_ne (by omega)]) (fun a q1 q2 => by rw [up_I_ne (by omega), up_I_ne (by omega), up_I_ne (by omega)]) (fun i hi => ?_)
          subst cb
          by_cases e : i = t
          · subst e
            rw [up_I_at]
            exact st_c (fun q _ => (shI_up htm q).symm)
          · rw [up_I_at_ne e, up_I_ne (by omega), up_I_ne (by omega), hQ.2.2.1 i hi]
            exact st_c (fun q _ => (shI_col e q).symm)
      · have htm : ¬ p_tm G dr sh j t = true := by simp only [p_tm, hp, Bool.true_and, Bool.not_eq_true', beq_eq_false_iff_ne]; exact fun z => z ((oI_eq hkl (by omega)).mp c2)
        refine rr_goto (tgt := 151) oX5_shutters_105 (by decide) ?_
        refine rn_5 oX5_shutters_151 rfl rfl ?_
        refine rr_goto (tgt := 80) oX5_shutters_154 (by decide) ?_
        have e1 : C = sm_N ((fun j i => if p_tm G dr sh j i = true then s_cost G i j else 0) j) m (t + 1) (J 46 29) := h1.trans (by simp only [sm_N]; rw [if_neg htm, Int32.add_zero])
        have e2 : K = sm_N (fun i => if p_tm G dr sh j i = true then (1 : Int32) else 0) m (t + 1) (J 46 31) := h2.trans (by simp only [sm_N]; rw [if_neg htm, Int32.add_zero])
        refine ih J (t + 1) (by omega) ?_ e1 e2 h3 h4
        rw [shI_no (fun _ z => htm z)]
        exact hQ
    · rw [if_neg hp]
      refine rr_if_eq (tgt := 151) oX5_shutters_95 (by decide) (fun c1 => ?_) (fun c1 => ?_)
      rotate_left
      · exact absurd rfl c1
      refine rn_5 oX5_shutters_151 rfl rfl ?_
      refine rr_goto (tgt := 80) oX5_shutters_154 (by decide) ?_
      have htm : ¬ p_tm G dr sh j t = true := fun z => hp (by simp only [p_tm, Bool.and_eq_true] at z; exact z.1)
      have e1 : C = sm_N ((fun j i => if p_tm G dr sh j i = true then s_cost G i j else 0) j) m (t + 1) (J 46 29) := h1.trans (by simp only [sm_N]; rw [if_neg htm, Int32.add_zero])
      have e2 : K = sm_N (fun i => if p_tm G dr sh j i = true then (1 : Int32) else 0) m (t + 1) (J 46 31) := h2.trans (by simp only [sm_N]; rw [if_neg htm, Int32.add_zero])
      refine ih J (t + 1) (by omega) ?_ e1 e2 h3 h4
      rw [shI_no (fun _ z => htm z)]
      exact hQ
theorem lp_X5_shutters (l : Launch) {I : Nat → Nat → Int32} {L : Nat → Nat → Int64} {Rf : Nat → Nat → Option Nat} {n : Nat} (W : wd_T Rf n) {G : gr_T} {dr : Nat → Bool} {sh : Nat → Nat → Bool} (b : Bool) {C VV K : Int32} {Q : Option vv_T → mx_T → Prop} (hP : ∀ J : Nat → Nat → Int32, mq_T J G dr (shT G dr sh b (g_n G)) → J 46 29 = C → J 46 30 = VV → J 46 31 = K → (∀ f, f ≠ 29 → f ≠ 30 → f ≠ 31 → J 46 f = I 46 f) → (∀ a, a ≠ 46 → a ≠ 54 → J a = I a) → Q none (J, L, Rf, n)) : ∀ m (J : Nat → Nat → Int32) t w3 w4 w5, t + m = g_n G → mq_T J G dr (shT G dr sh b t) → C = s2_N (fun j i => if p_tm G dr sh j i = true then s_cost G i j else 0) (g_n G) m t (J 46 29) → VV = bs_N (p_hop G dr sh) m t (J 46 30) → K = sm_N (fun j => nI (cn_8 (p_tm G dr sh j))) m t (J 46 31) → (∀ f, f ≠ 29 → f ≠ 30 → f ≠ 31 → J 46 f = I 46 f) → (∀ a, a ≠ 46 → a ≠ 54 → J a = I a) → wm_W l mX5_shutters 18 0 0 17 [vv_A (some 46), vv_I (bI (b = true)), vv_I (nI t), w3, w4, w5] [] (J, L, Rf, n) Q := by
  intro m
  induction m with
  | zero =>
    intro J t w3 w4 w5 ht hQ h1 h2 h3 h4 h5
    have hG := hQ.1
    have h8 := mv_8 hG
    refine ri_2 oX5_shutters_17 ?_
    refine ra_0 oX5_shutters_18 ?_
    refine rr_giv oX5_shutters_19 (ff_X5_84 rfl) kk_46 (wd_lt W rfl) ⟨by decide, rfl⟩ (mv_c hG) ?_
    refine rr_icmp_ge (tgt := 163) oX5_shutters_22 (by decide) (fun c => ?_) (fun c => ?_)
    rotate_left
    · exact absurd c (by rw [nI_le_iff (by omega) (by omega)]; omega)
    exact rr_return oX5_shutters_163 rfl (by
        have e : t = g_n G := by omega
        subst e
        exact hP J hQ h1.symm h2.symm h3.symm h4 h5)
  | succ m ih =>
    intro J t w3 w4 w5 ht hQ h1 h2 h3 h4 h5
    have hG := hQ.1
    have h8 := mv_8 hG
    refine ri_2 oX5_shutters_17 ?_
    refine ra_0 oX5_shutters_18 ?_
    refine rr_giv oX5_shutters_19 (ff_X5_84 rfl) kk_46 (wd_lt W rfl) ⟨by decide, rfl⟩ (mv_c hG) ?_
    refine rr_icmp_ge (tgt := 163) oX5_shutters_22 (by decide) (fun c => ?_) (fun c => ?_)
    · (rw [nI_le_iff (by omega) (by omega)] at c; omega)
    have htn : t < g_n G := by omega
    refine ra_0 oX5_shutters_25 ?_
    refine ri_2 oX5_shutters_26 ?_
    refine rr_cVi (c_X5_isHouse l W hQ (by omega)) oX5_shutters_27 (cv_X5_91 rfl) (by decide) kk_46 (by decide) hcn_5 (wd_lt W rfl) rfl rfl (Nat.le_of_ble_eq_true rfl) ?_
    refine rr_ifb_ne (tgt := 36) oX5_shutters_30 (by decide) (fun c1 => ?_) (fun c1 => ?_)
    · refine ra_0 oX5_shutters_36 ?_
      refine ri_2 oX5_shutters_37 ?_
      refine rr_cVi (c_X5_seersOf l W hQ htn c1) oX5_shutters_38 (cv_X5_104 rfl) (by decide) kk_46 (by decide) hcn_5 (wd_lt W rfl) rfl rfl (Nat.le_of_ble_eq_true rfl) ?_
      rw [sr_row shT_row]
      refine si_3 oX5_shutters_41 rfl rfl ?_
      refine ra_0 oX5_shutters_42 ?_
      refine ri_2 oX5_shutters_43 ?_
      refine rr_cVi (c_X5_keptOf l W hQ htn c1) oX5_shutters_44 (cv_X5_216 rfl) (by decide) kk_46 (by decide) hcn_5 (wd_lt W rfl) rfl rfl (Nat.le_of_ble_eq_true rfl) ?_
      rw [kp_row shT_row]
      refine si_4 oX5_shutters_47 rfl rfl ?_
      refine ra_0 oX5_shutters_49 ?_
      refine rr_gr (v := 48) oX5_shutters_50 (ff_X5_26 rfl) kk_46 (wd_lt W rfl) ⟨by decide, rfl⟩ (wd_r W rfl rfl) ?_
      refine ri_2 oX5_shutters_53 ?_
      refine rr_iv oX5_shutters_54 kk_48 (wd_lt W rfl) rfl (by omega) (by decide) (mv_k hG (by omega)) ?_
      refine rk_4 oX5_shutters_55 ?_
      refine rr_icmp_eq (tgt := 77) oX5_shutters_56 (by decide) (fun c3 => ?_) (fun c3 => ?_)
      · have hhop : ¬ p_hop G dr sh t = true := by simp [p_hop, c3]
        refine rk_0 oX5_shutters_77 ?_
        refine si_5 oX5_shutters_78 rfl rfl ?_
        refine li_X5_shutters l W b htn (fun J2 q1 q2 q3 q4 q5 => ?_) (g_n G) _ 0 (Nat.zero_add _) (by rw [shI_0]; exact hQ) rfl rfl (fun _ _ _ => rfl) (fun _ _ _ => rfl)
        refine rn_2 oX5_shutters_157 rfl rfl ?_
        refine rr_goto (tgt := 17) oX5_shutters_160 (by decide) ?_
        refine ih J2 (t + 1) _ _ _ (by omega) (by rw [← shI_n]; exact q1) ?_ ?_ ?_ (fun f r1 r2 r3 => by rw [q4 f r1 r3]; exact h4 f r1 r2 r3) (fun a r1 r2 => by rw [q5 a r1 r2]; exact h5 a r1 r2)
        · rw [q2, h1]; simp only [s2_N]
        · rw [q4 30 (by omega) (by omega), h2]; simp only [bs_N]; rw [if_neg hhop]
        · rw [q3, h3, tm_sum h8]; simp only [sm_N]
      · refine ri_4 oX5_shutters_59 ?_
        refine rk_m1 oX5_shutters_61 ?_
        refine rr_icmp_ne (tgt := 77) oX5_shutters_62 (by decide) (fun c4 => ?_) (fun c4 => ?_)
        · have hhop : ¬ p_hop G dr sh t = true := fun z => c4 (by rw [(hop_kp h8 c1 c3).mpr z]; rfl)
          refine rk_0 oX5_shutters_77 ?_
          refine si_5 oX5_shutters_78 rfl rfl ?_
          refine li_X5_shutters l W b htn (fun J2 q1 q2 q3 q4 q5 => ?_) (g_n G) _ 0 (Nat.zero_add _) (by rw [shI_0]; exact hQ) rfl rfl (fun _ _ _ => rfl) (fun _ _ _ => rfl)
          refine rn_2 oX5_shutters_157 rfl rfl ?_
          refine rr_goto (tgt := 17) oX5_shutters_160 (by decide) ?_
          refine ih J2 (t + 1) _ _ _ (by omega) (by rw [← shI_n]; exact q1) ?_ ?_ ?_ (fun f r1 r2 r3 => by rw [q4 f r1 r3]; exact h4 f r1 r2 r3) (fun a r1 r2 => by rw [q5 a r1 r2]; exact h5 a r1 r2)
          · rw [q2, h1]; simp only [s2_N]
          · rw [q4 30 (by omega) (by omega), h2]; simp only [bs_N]; rw [if_neg hhop]
          · rw [q3, h3, tm_sum h8]; simp only [sm_N]
        · have hkn : s_kept G dr sh t = none := by cases z : s_kept G dr sh t with | none => rfl | some u => rw [z] at c4; exact absurd c4 (nI_nm1 (by have := s_kept_lt z; omega))
          have hhop : p_hop G dr sh t = true := (hop_kp h8 c1 c3).mp hkn
          refine ra_0 oX5_shutters_65 ?_
          refine rr_dup oX5_shutters_66 rfl ?_
          refine rr_gi oX5_shutters_67 (ff_X5_222 rfl) kk_46 (wd_lt W rfl) ⟨by decide, rfl⟩ ?_
          refine rk_1 oX5_shutters_70 ?_
          refine ri_2 oX5_shutters_71 ?_
          refine rr_ishl oX5_shutters_72 ?_
          refine rr_ior oX5_shutters_73 ?_
          refine rr_pi oX5_shutters_74 (ff_X5_222 rfl) kk_46 (wd_lt W rfl) ⟨by decide, rfl, by decide⟩ pf_5_30 ⟨rfl, rfl⟩ ?_
          refine rk_0 oX5_shutters_77 ?_
          refine si_5 oX5_shutters_78 rfl rfl ?_
          refine li_X5_shutters l W b htn (fun J2 q1 q2 q3 q4 q5 => ?_) (g_n G) _ 0 (Nat.zero_add _) (by rw [shI_0]; exact mq_ce hQ (fun f hf => up_I_at_ne (by omega)) (fun a q1 q2 => up_I_ne (by omega))) rfl rfl (fun _ _ _ => rfl) (fun _ _ _ => rfl)
          refine rn_2 oX5_shutters_157 rfl rfl ?_
          refine rr_goto (tgt := 17) oX5_shutters_160 (by decide) ?_
          refine ih J2 (t + 1) _ _ _ (by omega) (by rw [← shI_n]; exact q1) ?_ ?_ ?_ (fun f r1 r2 r3 => by rw [q4 f r1 r3]; rw [up_I_at_ne r2]; exact h4 f r1 r2 r3) (fun a r1 r2 => by rw [q5 a r1 r2]; rw [up_I_ne r1]; exact h5 a r1 r2)
          · rw [q2, h1]; simp only [s2_N]; rw [up_I_at_ne (by omega)]
          · rw [q4 30 (by omega) (by omega), h2]; simp only [bs_N]; rw [if_pos hhop, up_I_at]
          · rw [q3, h3, tm_sum h8]; simp only [sm_N]; rw [up_I_at_ne (by omega)]
    · refine rr_goto (tgt := 157) oX5_shutters_33 (by decide) ?_
      refine rn_2 oX5_shutters_157 rfl rfl ?_
      refine rr_goto (tgt := 17) oX5_shutters_160 (by decide) ?_
      refine ih J (t + 1) _ _ _ (by omega) (by rw [shT_no c1]; exact hQ) ?_ ?_ ?_ h4 h5
      · rw [h1]; simp only [s2_N]; rw [sm_0 _ _ _ (fun i _ _ => if_neg (fun z => c1 (tm_in z).2.1.2))]
      · rw [h2]; simp only [bs_N]; rw [if_neg (by simp [p_hop, c1])]
      · rw [h3]; simp only [sm_N]; rw [show cn_8 (p_tm G dr sh t) = 0 from by rw [show cn_8 (p_tm G dr sh t) = cn_8 (fun _ => false) from congrArg cn_8 (funext fun i => by cases z : p_tm G dr sh t i with | false => rfl | true => exact absurd (tm_in z).2.1.2 c1)]; rfl]; exact Int32.add_zero _ ▸ rfl
theorem c_X5_shutters (l : Launch) {I : Nat → Nat → Int32} {L : Nat → Nat → Int64} {Rf : Nat → Nat → Option Nat} {n : Nat} (W : wd_T Rf n) {G : gr_T} {dr : Nat → Bool} {sh : Nat → Nat → Bool} (hQ : mq_T I G dr sh) (b : Bool) : wm_C l mX5_shutters 18 0 0 [vv_A (some 46), vv_I (bI (b = true))] (I, L, Rf, n) (q_m (fun J => mq_T J G dr (shT G dr sh b (g_n G)) ∧ J 46 29 = s2_N (fun j i => if p_tm G dr sh j i = true then s_cost G i j else 0) (g_n G) (g_n G) 0 0 ∧ J 46 30 = bs_N (p_hop G dr sh) (g_n G) 0 0 ∧ J 46 31 = sm_N (fun j => nI (cn_8 (p_tm G dr sh j))) (g_n G) 0 0 ∧ (∀ f, f ≠ 29 → f ≠ 30 → f ≠ 31 → J 46 f = I 46 f) ∧ ∀ a, a ≠ 46 → a ≠ 54 → J a = I a) L Rf n) := by
  refine wm_of (by decide) (Nat.le_of_ble_eq_true rfl) rfl ?_
  refine ra_0 oX5_shutters_0 ?_
  refine rk_0 oX5_shutters_1 ?_
  refine rr_pi oX5_shutters_2 (ff_X5_219 rfl) kk_46 (wd_lt W rfl) ⟨by decide, rfl, by decide⟩ pf_5_29 ⟨rfl, rfl⟩ ?_
  refine ra_0 oX5_shutters_5 ?_
  refine rk_0 oX5_shutters_6 ?_
  refine rr_pi oX5_shutters_7 (ff_X5_222 rfl) kk_46 (wd_lt W rfl) ⟨by decide, rfl, by decide⟩ pf_5_30 ⟨rfl, rfl⟩ ?_
  refine ra_0 oX5_shutters_10 ?_
  refine rk_0 oX5_shutters_11 ?_
  refine rr_pi oX5_shutters_12 (ff_X5_225 rfl) kk_46 (wd_lt W rfl) ⟨by decide, rfl, by decide⟩ pf_5_31 ⟨rfl, rfl⟩ ?_
  refine rk_0 oX5_shutters_15 ?_
  refine si_2 oX5_shutters_16 rfl rfl ?_
  refine lp_X5_shutters l W (I := I) (G := G) (dr := dr) (sh := sh) b (fun J g1 g2 g3 g4 g5 g6 => q_m_of ⟨g1, g2, g3, g4, g5, g6⟩) (g_n G) _ 0 _ _ _ (Nat.zero_add _) ?_ ?_ ?_ ?_ (fun f r1 r2 r3 => by rw [up_I_at_ne r3, up_I_at_ne r2, up_I_at_ne r1]) (fun a r1 r2 => by rw [up_I_ne r1, up_I_ne r1, up_I_ne r1])
  · rw [shT_0]
    exact mq_ce hQ (fun f hf => by rw [up_I_at_ne (by omega), up_I_at_ne (by omega), up_I_at_ne (by omega)]) (fun a q1 q2 => by rw [up_I_ne (by omega), up_I_ne (by omega), up_I_ne (by omega)])
  · rw [up_I_at_ne (by omega), up_I_at_ne (by omega), up_I_at]
  · rw [up_I_at_ne (by omega), up_I_at]
  · rw [up_I_at]
theorem ch_no {S : sg_T} {w : Int32} (h : ¬ (0 ≤ w ∧ w ≤ 2)) : f_cheapest S w = f_no S (-5) := by
  have e : ∀ v : Int32, 0 ≤ v ∧ v ≤ 2 → ¬ w = v := fun v hv q => h (by rw [q]; exact hv)
  rw [f_cheapest, if_neg (e 0 (by decide)), if_neg (e 1 (by decide)), if_neg (e 2 (by decide))]
theorem c_X5_cheapest (l : Launch) {I : Nat → Nat → Int32} {L : Nat → Nat → Int64} {Rf : Nat → Nat → Option Nat} {n : Nat} {S : sg_T} (W : wd_T Rf n) (hM : MR_T I L S) (hI : IV_T S) {w : Int32} : wm_C l mX5_cheapest 19 0 0 [vv_A (some 46), vv_I w] (I, L, Rf, n) (q_M (f_cheapest S w).1 (f_cheapest S w).2 I L Rf n) := by
  refine wm_of (by decide) (Nat.le_of_ble_eq_true rfl) rfl ?_
  have hQ : mq_T I (z_G S) (b_dr (z_B S)) (b_sh (z_B S)) := mg_mq hM.1 hI.1
  have hG := hQ.1
  have h8 : g_n (z_G S) ≤ 8 := hI.1.1
  have hr : hr_T (z_G S) := hI.1.2.1
  refine ri_1 oX5_cheapest_0 ?_
  refine rr_if_lt (tgt := 9) oX5_cheapest_1 (by decide) (fun c => ?_) (fun c => ?_)
  · refine ra_0 oX5_cheapest_9 ?_
    refine rr_bipush (v := (-5)) oX5_cheapest_10 (by decide) ?_
    refine rr_cVi (c_X5_no l W (c := 5) (by decide) (by decide)) oX5_cheapest_12 (cv_X5_97 rfl) (by decide) kk_46 (by decide) hcn_5 (wd_lt W rfl) rfl rfl (Nat.le_of_ble_eq_true rfl) ?_
    exact rr_ireturn oX5_cheapest_15 rfl rfl (q_M_noc hM me_rf (ch_no (fun q => Int32.not_le.mpr c q.1)) (by decide) (by decide))
  · refine ri_1 oX5_cheapest_4 ?_
    refine rk_2 oX5_cheapest_5 ?_
    refine rr_icmp_le (tgt := 16) oX5_cheapest_6 (by decide) (fun c1 => ?_) (fun c1 => ?_)
    · refine ra_0 oX5_cheapest_16 ?_
      refine rk_0 oX5_cheapest_17 ?_
      refine rr_cVm (c_X5_shutters l W hQ false) oX5_cheapest_18 (cv_X5_228 rfl) (by decide) kk_46 (by decide) hcn_5 (wd_lt W rfl) rfl rfl (Nat.le_of_ble_eq_true rfl) (fun J hJ => ?_)
      obtain ⟨g1, g2, g3, g4, g5, g6⟩ := hJ
      refine ri_1 oX5_cheapest_21 ?_
      refine rr_if_ne (tgt := 32) oX5_cheapest_22 (by decide) (fun c2 => ?_) (fun c2 => ?_)
      · refine ri_1 oX5_cheapest_32 ?_
        refine rk_1 oX5_cheapest_33 ?_
        refine rr_icmp_ne (tgt := 44) oX5_cheapest_34 (by decide) (fun c3 => ?_) (fun c3 => ?_)
        · refine ra_0 oX5_cheapest_44 ?_
          refine rr_giv oX5_cheapest_45 (ff_X5_225 rfl) kk_46 (wd_lt W rfl) ⟨by decide, rfl⟩ g4 ?_
          exact rr_ireturn oX5_cheapest_48 rfl rfl (q_M_gr hM (B := z_B S) (by have := mg_mq2 (B := z_B S) g1 (by rw [g5 3 (by omega) (by omega) (by omega)]; exact hM.1.2.2.2.1) (by rw [g5 4 (by omega) (by omega) (by omega)]; exact hM.1.2.2.2.2); rw [shT_f] at this; exact this) (fun f q => g5 f (by omega) (by omega) (by omega)) (fun a q0 q1 q2 q3 q4 => g6 a q0 (by omega)) (show f_cheapest S w = (_, w_B S (z_B S)) from by rw [f_cheapest, if_neg c2, if_neg c3, if_pos (k_2 (Int32.not_lt.mp c) c1 c2 c3)]; rfl) rfl)
        · refine ra_0 oX5_cheapest_37 ?_
          refine rr_giv oX5_cheapest_38 (ff_X5_222 rfl) kk_46 (wd_lt W rfl) ⟨by decide, rfl⟩ g3 ?_
          refine rr_goto (tgt := 48) oX5_cheapest_41 (by decide) ?_
          exact rr_ireturn oX5_cheapest_48 rfl rfl (q_M_gr hM (B := z_B S) (by have := mg_mq2 (B := z_B S) g1 (by rw [g5 3 (by omega) (by omega) (by omega)]; exact hM.1.2.2.2.1) (by rw [g5 4 (by omega) (by omega) (by omega)]; exact hM.1.2.2.2.2); rw [shT_f] at this; exact this) (fun f q => g5 f (by omega) (by omega) (by omega)) (fun a q0 q1 q2 q3 q4 => g6 a q0 (by omega)) (show f_cheapest S w = (_, w_B S (z_B S)) from by rw [f_cheapest, if_neg c2, if_pos c3]; rfl) (bs_st _ h8))
      · refine ra_0 oX5_cheapest_25 ?_
        refine rr_giv oX5_cheapest_26 (ff_X5_219 rfl) kk_46 (wd_lt W rfl) ⟨by decide, rfl⟩ g2 ?_
        refine rr_goto (tgt := 48) oX5_cheapest_29 (by decide) ?_
        exact rr_ireturn oX5_cheapest_48 rfl rfl (q_M_gr hM (B := z_B S) (by have := mg_mq2 (B := z_B S) g1 (by rw [g5 3 (by omega) (by omega) (by omega)]; exact hM.1.2.2.2.1) (by rw [g5 4 (by omega) (by omega) (by omega)]; exact hM.1.2.2.2.2); rw [shT_f] at this; exact this) (fun f q => g5 f (by omega) (by omega) (by omega)) (fun a q0 q1 q2 q3 q4 => g6 a q0 (by omega)) (show f_cheapest S w = (_, w_B S (z_B S)) from by rw [f_cheapest, if_pos c2]; rfl) rfl)
    · refine ra_0 oX5_cheapest_9 ?_
      refine rr_bipush (v := (-5)) oX5_cheapest_10 (by decide) ?_
      refine rr_cVi (c_X5_no l W (c := 5) (by decide) (by decide)) oX5_cheapest_12 (cv_X5_97 rfl) (by decide) kk_46 (by decide) hcn_5 (wd_lt W rfl) rfl rfl (Nat.le_of_ble_eq_true rfl) ?_
      exact rr_ireturn oX5_cheapest_15 rfl rfl (q_M_noc hM me_rf (ch_no (fun q => c1 q.2)) (by decide) (by decide))
theorem c_X5_shuts (l : Launch) {I : Nat → Nat → Int32} {L : Nat → Nat → Int64} {Rf : Nat → Nat → Option Nat} {n : Nat} {S : sg_T} (W : wd_T Rf n) (hM : MR_T I L S) (hI : IV_T S) : wm_C l mX5_shuts 19 0 0 [vv_A (some 46)] (I, L, Rf, n) (q_M (f_shuts S).1 (f_shuts S).2 I L Rf n) := by
  refine wm_of (by decide) (Nat.le_of_ble_eq_true rfl) rfl ?_
  have hQ : mq_T I (z_G S) (b_dr (z_B S)) (b_sh (z_B S)) := mg_mq hM.1 hI.1
  have hG := hQ.1
  have h8 : g_n (z_G S) ≤ 8 := hI.1.1
  have hr : hr_T (z_G S) := hI.1.2.1
  refine ra_0 oX5_shuts_0 ?_
  refine rk_0 oX5_shuts_1 ?_
  refine rr_cVm (c_X5_shutters l W hQ false) oX5_shuts_2 (cv_X5_228 rfl) (by decide) kk_46 (by decide) hcn_5 (wd_lt W rfl) rfl rfl (Nat.le_of_ble_eq_true rfl) (fun J hJ => ?_)
  obtain ⟨g1, g2, g3, g4, g5, g6⟩ := hJ
  rw [shT_f] at g1
  have ech : s_chop S = bs_N (p_hop (z_G S) (b_dr (z_B S)) (b_sh (z_B S))) (g_n (z_G S)) 0 0 := (bs_st _ h8).symm
  have hM2 : MR_T J L S := MR_B (B := z_B S) hM (mg_mq2 (B := z_B S) g1 (by rw [g5 3 (by omega) (by omega) (by omega)]; exact hM.1.2.2.2.1) (by rw [g5 4 (by omega) (by omega) (by omega)]; exact hM.1.2.2.2.2)) (fun f q => g5 f (by omega) (by omega) (by omega)) (fun a q => g6 a (by omega) (by omega))
  refine ra_0 oX5_shuts_5 ?_
  refine rr_giv oX5_shuts_6 (ff_X5_222 rfl) kk_46 (wd_lt W rfl) ⟨by decide, rfl⟩ (g3.trans ech.symm) ?_
  refine rr_if_eq (tgt := 19) oX5_shuts_9 (by decide) (fun c => ?_) (fun c => ?_)
  · refine ra_0 oX5_shuts_19 ?_
    refine rk_1 oX5_shuts_20 ?_
    refine rr_cVm (c_X5_shutters l W g1 true) oX5_shuts_21 (cv_X5_228 rfl) (by decide) kk_46 (by decide) hcn_5 (wd_lt W rfl) rfl rfl (Nat.le_of_ble_eq_true rfl) (fun J2 hJ2 => ?_)
    obtain ⟨k1, k2, k3, k4, k5, k6⟩ := hJ2
    refine ra_0 oX5_shuts_24 ?_
    refine rr_giv oX5_shuts_25 (ff_X5_219 rfl) kk_46 (wd_lt W rfl) ⟨by decide, rfl⟩ k2 ?_
    exact rr_ireturn oX5_shuts_28 rfl rfl (q_M_gr hM (by have := mg_mq2 (B := z_B S) k1 (by rw [k5 3 (by omega) (by omega) (by omega), g5 3 (by omega) (by omega) (by omega)]; exact hM.1.2.2.2.1) (by rw [k5 4 (by omega) (by omega) (by omega), g5 4 (by omega) (by omega) (by omega)]; exact hM.1.2.2.2.2); rw [shT_n h8] at this; exact this) (fun f q => by rw [k5 f (by omega) (by omega) (by omega)]; exact g5 f (by omega) (by omega) (by omega)) (fun a q0 q1 q2 q3 q4 => by rw [k6 a q0 (by omega)]; exact g6 a q0 (by omega)) (show f_shuts S = (s_ccost S, _) from by rw [f_shuts, if_neg (fun q => q c)]) rfl)
  · refine ra_0 oX5_shuts_12 ?_
    refine rr_bipush (v := (-6)) oX5_shuts_13 (by decide) ?_
    refine rr_cVi (c_X5_no l W (c := 6) (by decide) (by decide)) oX5_shuts_15 (cv_X5_97 rfl) (by decide) kk_46 (by decide) hcn_5 (wd_lt W rfl) rfl rfl (Nat.le_of_ble_eq_true rfl) ?_
    exact rr_ireturn oX5_shuts_18 rfl rfl (by
        rw [show f_shuts S = f_no S (-6) from by rw [f_shuts, if_pos c]]
        exact q_M_of rfl (MR_no hM2 (c := 6) (by decide)) (fun a ha => ⟨by rw [show mf_I J 6 a = J a from up_I_ne (by omega)]; exact g6 a (by omega) (by omega), rfl⟩))
