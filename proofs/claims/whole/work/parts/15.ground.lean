/-! the class's ground: who is right, shutters, costs, years (by program: wip/whole/c15.py) -/
def p_h (G : gr_T) (i : Nat) : Bool := decide (i < g_n G) && decide (is_H (g_k G i))
def p_t (G : gr_T) (i : Nat) : Bool := decide (i < g_n G) && (g_k G i == 3)
def p_lk (G : gr_T) (j i : Nat) : Bool := decide (j < g_n G) && decide (is_H (g_k G j)) && (decide (i < g_n G) && (!(i == j) && decide (is_H (g_k G i)) && b_look G i j))
theorem s_lk_st {G : gr_T} (h8 : g_n G ≤ 8) (j : Nat) : s_lk G j = st_S (p_lk G j) := by
  unfold s_lk s_lks
  rw [bs_st _ h8]
  by_cases q : j < g_n G ∧ is_H (g_k G j)
  · rw [if_pos q]
    exact st_c (fun i _ => by simp [p_lk, q.1, q.2])
  · rw [if_neg q]
    refine (st_e0.mpr fun i _ => ?_).symm
    simp only [p_lk]
    by_cases q1 : j < g_n G
    · have : ¬ is_H (g_k G j) := fun z => q ⟨q1, z⟩
      simp [this]
    · simp [q1]
def p_se (G : gr_T) (dr : Nat → Bool) (sh : Nat → Nat → Bool) (j i : Nat) : Bool := p_lk G j i && !dr i && !sh j i
def p_sr (G : gr_T) (dr : Nat → Bool) (sh : Nat → Nat → Bool) (j i : Nat) : Bool := p_se G dr sh j i && !p_t G i
def p_ri (G : gr_T) (dr : Nat → Bool) (sh : Nat → Nat → Bool) (j : Nat) : Bool := decide (j < g_n G) && (decide (is_H (g_k G j)) && (cn_8 (p_sr G dr sh j) == if g_k G j = 4 then 0 else 1))
def s_cost (G : gr_T) (i j : Nat) : Int32 := s_dist G i j + g_a G j
/-- the class's ground with its curtains and shutters; and with the lookers as they are -/
def gs_T (I : Nat → Nat → Int32) (g : Nat) (G : gr_T) (dr : Nat → Bool) (sh : Nat → Nat → Bool) : Prop := gv_T I g G ∧ I g 3 = st_S dr ∧ ∀ j, j < 8 → I (g + 6) j = st_S (sh j)
def gl_T (I : Nat → Nat → Int32) (g : Nat) (G : gr_T) (dr : Nat → Bool) (sh : Nat → Nat → Bool) : Prop := gs_T I g G dr sh ∧ ∀ j, j < 8 → I (g + 7) j = s_lk G j
theorem gl_lk {I : Nat → Nat → Int32} {g : Nat} {G : gr_T} {dr : Nat → Bool} {sh : Nat → Nat → Bool} (h : gl_T I g G dr sh) {j : Nat} (hj : j < 8) : I (g + 7) j = st_S (p_lk G j) := by rw [h.2 j hj, s_lk_st h.1.1.1]
theorem la_gl {I J : Nat → Nat → Int32} {g : Nat} {G : gr_T} {dr : Nat → Bool} {sh : Nat → Nat → Bool} (h : la_T I J g G) (hs : gs_T I g G dr sh) : gl_T J g G dr sh :=
  ⟨⟨la_gv h hs.1, by rw [h.2 g (by omega)]; exact hs.2.1, fun j hj => by rw [h.2 (g + 6) (by omega)]; exact hs.2.2 j hj⟩, h.1⟩
/-- what the numbers are: places, A's -/
def hr_T (G : gr_T) : Prop := ∀ t, t < g_n G → is_H (g_k G t) → xy_T G t ∧ ∃ a, a < 10 ∧ g_a G t = nI a
theorem hr_xy {G : gr_T} (h : hr_T G) : hxy_T G := fun t ht hh => (h t ht hh).1
theorem s_dist_9 {G : gr_T} {i j : Nat} (hi : xy_T G i) (hj : xy_T G j) : ∃ c, c < 10 ∧ s_dist G i j = nI c := by
  obtain ⟨u, v, hu, hv, e1, e2⟩ := hi
  obtain ⟨u2, v2, hu2, hv2, e3, e4⟩ := hj
  have k1 : ∀ a, a < 10 → ∀ b, b < 10 → s_max (nI a) (nI b) = nI (max a b) := by decide +kernel
  unfold s_dist
  rw [e1, e2, e3, e4, ab_N u hu u2 hu2, ab_N v hv v2 hv2, k1 _ (by split <;> omega) _ (by split <;> omega)]
  exact ⟨_, by split <;> split <;> omega, rfl⟩
theorem s_cost_19 {G : gr_T} (hr : hr_T G) {i j : Nat} (hi : i < g_n G) (hih : is_H (g_k G i)) (hj : j < g_n G) (hjh : is_H (g_k G j)) : ∃ c, c < 20 ∧ s_cost G i j = nI c := by
  obtain ⟨c, hc, e⟩ := s_dist_9 (hr i hi hih).1 (hr j hj hjh).1
  obtain ⟨a, ha, e2⟩ := (hr j hj hjh).2
  exact ⟨c + a, by omega, by rw [s_cost, e, e2, nI_add]⟩
/-- of those in p the dearest, the first of several -/
def kp_N (p : Nat → Bool) (c : Nat → Int32) : Nat → Nat → Option Nat → Option Nat
  | 0, _, b => b
  | m + 1, t, b => kp_N p c m (t + 1) (if p t then (match b with | none => some t | some u => if c u < c t then some t else some u) else b)
def p_kp (G : gr_T) (dr : Nat → Bool) (sh : Nat → Nat → Bool) (j i : Nat) : Bool := !(g_k G j == 4) && p_sr G dr sh j i
def s_kept (G : gr_T) (dr : Nat → Bool) (sh : Nat → Nat → Bool) (j : Nat) : Option Nat := kp_N (p_kp G dr sh j) (fun i => s_cost G i j) (g_n G) 0 none
def p_tm (G : gr_T) (dr : Nat → Bool) (sh : Nat → Nat → Bool) (j i : Nat) : Bool := p_sr G dr sh j i && !(some i == s_kept G dr sh j)
theorem kp_lt (p : Nat → Bool) (c : Nat → Int32) : ∀ m t b, (∀ u, b = some u → p u = true ∧ u < t) → ∀ u, kp_N p c m t b = some u → p u = true ∧ u < t + m := by
  intro m
  induction m with
  | zero => intro t b h u hu; exact h u hu
  | succ m ih =>
    intro t b h u hu
    unfold kp_N at hu
    have h2 := ih (t + 1) _ (by
      intro w hw
      split at hw
      · next hp =>
        split at hw
        · cases hw; exact ⟨hp, by omega⟩
        · next z =>
          split at hw
          · cases hw; exact ⟨hp, by omega⟩
          · cases hw; have := h w rfl; exact ⟨this.1, by omega⟩
      · have := h w hw; exact ⟨this.1, by omega⟩) u hu
    exact ⟨h2.1, by omega⟩
theorem p_sr_in {G : gr_T} {dr : Nat → Bool} {sh : Nat → Nat → Bool} {j i : Nat} (h : p_sr G dr sh j i = true) : (i < g_n G ∧ is_H (g_k G i)) ∧ j < g_n G ∧ is_H (g_k G j) ∧ i ≠ j := by
  simp only [p_sr, p_se, p_lk, Bool.and_eq_true, decide_eq_true_eq, Bool.not_eq_true', beq_eq_false_iff_ne] at h
  grind
theorem s_kept_lt {G : gr_T} {dr : Nat → Bool} {sh : Nat → Nat → Bool} {j u : Nat} (h : s_kept G dr sh j = some u) : u < g_n G := by
  have := kp_lt _ _ _ _ _ (by intro u h; cases h) u h
  omega
def p_hop (G : gr_T) (dr : Nat → Bool) (sh : Nat → Nat → Bool) (j : Nat) : Bool := decide (is_H (g_k G j)) && (!(g_k G j == 4) && (st_S (p_sr G dr sh j) == 0))
def s2_N (f : Nat → Nat → Int32) (n : Nat) : Nat → Nat → Int32 → Int32
  | 0, _, acc => acc
  | m + 1, t, acc => s2_N f n m (t + 1) (sm_N (f t) n 0 acc)

theorem c_J6_bitCount_0f7a4 (l : Launch) {X : mx_T} {x : Int32}  : wm_C l mJ6_bitCount_0f7a4 1 0 0 [vv_I x] X (q_i (bc_I x) X) := by
  refine wm_of (by decide) (Nat.le_of_ble_eq_true rfl) rfl ?_
  refine ri_0 oJ6_bitCount_0f7a4_0 ?_
  refine ri_0 oJ6_bitCount_0f7a4_1 ?_
  refine rk_1 oJ6_bitCount_0f7a4_2 ?_
  refine rr_iushr oJ6_bitCount_0f7a4_3 ?_
  refine rr_ldcw (v := 1431655765) oJ6_bitCount_0f7a4_4 (gw_in (i := 395) (by decide +kernel) (by decide +kernel)) ?_
  refine rr_iand oJ6_bitCount_0f7a4_7 ?_
  refine rr_isub oJ6_bitCount_0f7a4_8 ?_
  refine si_0 oJ6_bitCount_0f7a4_9 rfl rfl ?_
  refine ri_0 oJ6_bitCount_0f7a4_10 ?_
  refine rr_ldcw (v := 858993459) oJ6_bitCount_0f7a4_11 (gw_in (i := 396) (by decide +kernel) (by decide +kernel)) ?_
  refine rr_iand oJ6_bitCount_0f7a4_14 ?_
  refine ri_0 oJ6_bitCount_0f7a4_15 ?_
  refine rk_2 oJ6_bitCount_0f7a4_16 ?_
  refine rr_iushr oJ6_bitCount_0f7a4_17 ?_
  refine rr_ldcw (v := 858993459) oJ6_bitCount_0f7a4_18 (gw_in (i := 396) (by decide +kernel) (by decide +kernel)) ?_
  refine rr_iand oJ6_bitCount_0f7a4_21 ?_
  refine rr_iadd oJ6_bitCount_0f7a4_22 ?_
  refine si_0 oJ6_bitCount_0f7a4_23 rfl rfl ?_
  refine ri_0 oJ6_bitCount_0f7a4_24 ?_
  refine ri_0 oJ6_bitCount_0f7a4_25 ?_
  refine rk_4 oJ6_bitCount_0f7a4_26 ?_
  refine rr_iushr oJ6_bitCount_0f7a4_27 ?_
  refine rr_iadd oJ6_bitCount_0f7a4_28 ?_
  refine rr_ldcw (v := 252645135) oJ6_bitCount_0f7a4_29 (gw_in (i := 397) (by decide +kernel) (by decide +kernel)) ?_
  refine rr_iand oJ6_bitCount_0f7a4_32 ?_
  refine si_0 oJ6_bitCount_0f7a4_33 rfl rfl ?_
  refine ri_0 oJ6_bitCount_0f7a4_34 ?_
  refine ri_0 oJ6_bitCount_0f7a4_35 ?_
  refine rr_bipush (v := 8) oJ6_bitCount_0f7a4_36 (by decide) ?_
  refine rr_iushr oJ6_bitCount_0f7a4_38 ?_
  refine rr_iadd oJ6_bitCount_0f7a4_39 ?_
  refine si_0 oJ6_bitCount_0f7a4_40 rfl rfl ?_
  refine ri_0 oJ6_bitCount_0f7a4_41 ?_
  refine ri_0 oJ6_bitCount_0f7a4_42 ?_
  refine rr_bipush (v := 16) oJ6_bitCount_0f7a4_43 (by decide) ?_
  refine rr_iushr oJ6_bitCount_0f7a4_45 ?_
  refine rr_iadd oJ6_bitCount_0f7a4_46 ?_
  refine si_0 oJ6_bitCount_0f7a4_47 rfl rfl ?_
  refine ri_0 oJ6_bitCount_0f7a4_48 ?_
  refine rr_bipush (v := 63) oJ6_bitCount_0f7a4_49 (by decide) ?_
  refine rr_iand oJ6_bitCount_0f7a4_51 ?_
  exact rr_ireturn oJ6_bitCount_0f7a4_52 rfl rfl (q_is rfl)
theorem lp_X1_houses (l : Launch) {I : Nat → Nat → Int32} {L : Nat → Nat → Int64} {Rf : Nat → Nat → Option Nat} {n : Nat} {g : Nat} (W : wd_T Rf n) (hg : gd_T g) {G : gr_T} (hG : gv_T I g G) : ∀ m t acc, t + m = g_n G → wm_W l mX1_houses 2 0 0 4 [vv_A (some g), vv_I acc, vv_I (nI t)] [] (I, L, Rf, n) (q_i (bs_N (fun i => decide (is_H (g_k G i))) m t acc) (I, L, Rf, n)) := by
  intro m
  induction m with
  | zero =>
    intro t acc ht
    have h8 := gv_8 hG
    refine ri_2 oX1_houses_4 ?_
    refine ra_0 oX1_houses_5 ?_
    refine rr_giv oX1_houses_6 (ff_X1_9 rfl) (gd_k hg) (gd_lt (j := 0) W hg rfl) ⟨by decide, rfl⟩ (gv_c hG) ?_
    refine rr_icmp_ge (tgt := 37) oX1_houses_9 (by decide) (fun c => ?_) (fun c => ?_)
    rotate_left
    · exact absurd c (by rw [nI_le_iff (by omega) (by omega)]; omega)
    refine ri_1 oX1_houses_37 ?_
    exact rr_ireturn oX1_houses_38 rfl rfl ⟨rfl, rfl⟩
  | succ m ih =>
    intro t acc ht
    have h8 := gv_8 hG
    refine ri_2 oX1_houses_4 ?_
    refine ra_0 oX1_houses_5 ?_
    refine rr_giv oX1_houses_6 (ff_X1_9 rfl) (gd_k hg) (gd_lt (j := 0) W hg rfl) ⟨by decide, rfl⟩ (gv_c hG) ?_
    refine rr_icmp_ge (tgt := 37) oX1_houses_9 (by decide) (fun c => ?_) (fun c => ?_)
    · (rw [nI_le_iff (by omega) (by omega)] at c; omega)
    refine ra_0 oX1_houses_12 ?_
    refine rr_gr oX1_houses_13 (ff_X1_30 rfl) (gd_k hg) (gd_lt (j := 0) W hg rfl) ⟨by decide, rfl⟩ (gd_r W hg 6 1 rfl) ?_
    refine ri_2 oX1_houses_16 ?_
    refine rr_iv oX1_houses_17 (gd_a hg 1 rfl) (gd_lt (j := 1) W hg rfl) rfl (by omega) (by decide) (gv_k hG (by omega)) ?_
    refine rr_cSNi (c_X4_isHouseKind l) oX1_houses_18 (cn_X1_62 rfl) (by decide) rfl rfl (Nat.le_of_ble_eq_true rfl) ?_
    refine rr_ifb_eq (tgt := 31) oX1_houses_21 (by decide) (fun c1 => ?_) (fun c1 => ?_)
    · refine rn_2 oX1_houses_31 rfl rfl ?_
      refine rr_goto (tgt := 4) oX1_houses_34 (by decide) ?_
      have h3 := ih (t + 1) acc (by omega)
      simp only [bs_N]
      rw [if_neg (by simpa using c1)]
      exact h3
    · refine ri_1 oX1_houses_24 ?_
      refine ri_2 oX1_houses_25 ?_
      refine rr_cSNi (c_X4_bit l) oX1_houses_26 (cn_X1_65 rfl) (by decide) rfl rfl (Nat.le_of_ble_eq_true rfl) ?_
      refine rr_ior oX1_houses_29 ?_
      refine si_1 oX1_houses_30 rfl rfl ?_
      refine rn_2 oX1_houses_31 rfl rfl ?_
      refine rr_goto (tgt := 4) oX1_houses_34 (by decide) ?_
      have h3 := ih (t + 1) (acc ||| ((1 : Int32) <<< (nI t &&& 31))) (by omega)
      simp only [bs_N]
      rw [if_pos (by simpa using c1)]
      exact h3
theorem c_X1_houses (l : Launch) {I : Nat → Nat → Int32} {L : Nat → Nat → Int64} {Rf : Nat → Nat → Option Nat} {n : Nat} {g : Nat} (W : wd_T Rf n) (hg : gd_T g) {G : gr_T} (hG : gv_T I g G)  : wm_C l mX1_houses 2 0 0 [vv_A (some g)] (I, L, Rf, n) (q_i (st_S (p_h G)) (I, L, Rf, n)) := by
  refine wm_of (by decide) (Nat.le_of_ble_eq_true rfl) rfl ?_
  have h8 := gv_8 hG
  refine rk_0 oX1_houses_0 ?_
  refine si_1 oX1_houses_1 rfl rfl ?_
  refine rk_0 oX1_houses_2 ?_
  refine si_2 oX1_houses_3 rfl rfl ?_
  have e := bs_st (fun i => decide (is_H (g_k G i))) h8
  refine (show st_S (p_h G) = _ from e.symm) ▸ lp_X1_houses l W hg hG (g_n G) 0 0 (Nat.zero_add _)
theorem lp_X1_towers (l : Launch) {I : Nat → Nat → Int32} {L : Nat → Nat → Int64} {Rf : Nat → Nat → Option Nat} {n : Nat} {g : Nat} (W : wd_T Rf n) (hg : gd_T g) {G : gr_T} (hG : gv_T I g G) : ∀ m t acc, t + m = g_n G → wm_W l mX1_towers 2 0 0 4 [vv_A (some g), vv_I acc, vv_I (nI t)] [] (I, L, Rf, n) (q_i (bs_N (fun i => g_k G i == 3) m t acc) (I, L, Rf, n)) := by
  intro m
  induction m with
  | zero =>
    intro t acc ht
    have h8 := gv_8 hG
    refine ri_2 oX1_towers_4 ?_
    refine ra_0 oX1_towers_5 ?_
    refine rr_giv oX1_towers_6 (ff_X1_9 rfl) (gd_k hg) (gd_lt (j := 0) W hg rfl) ⟨by decide, rfl⟩ (gv_c hG) ?_
    refine rr_icmp_ge (tgt := 35) oX1_towers_9 (by decide) (fun c => ?_) (fun c => ?_)
    rotate_left
    · exact absurd c (by rw [nI_le_iff (by omega) (by omega)]; omega)
    refine ri_1 oX1_towers_35 ?_
    exact rr_ireturn oX1_towers_36 rfl rfl ⟨rfl, rfl⟩
  | succ m ih =>
    intro t acc ht
    have h8 := gv_8 hG
    refine ri_2 oX1_towers_4 ?_
    refine ra_0 oX1_towers_5 ?_
    refine rr_giv oX1_towers_6 (ff_X1_9 rfl) (gd_k hg) (gd_lt (j := 0) W hg rfl) ⟨by decide, rfl⟩ (gv_c hG) ?_
    refine rr_icmp_ge (tgt := 35) oX1_towers_9 (by decide) (fun c => ?_) (fun c => ?_)
    · (rw [nI_le_iff (by omega) (by omega)] at c; omega)
    refine ra_0 oX1_towers_12 ?_
    refine rr_gr oX1_towers_13 (ff_X1_30 rfl) (gd_k hg) (gd_lt (j := 0) W hg rfl) ⟨by decide, rfl⟩ (gd_r W hg 6 1 rfl) ?_
    refine ri_2 oX1_towers_16 ?_
    refine rr_iv oX1_towers_17 (gd_a hg 1 rfl) (gd_lt (j := 1) W hg rfl) rfl (by omega) (by decide) (gv_k hG (by omega)) ?_
    refine rk_3 oX1_towers_18 ?_
    refine rr_icmp_ne (tgt := 29) oX1_towers_19 (by decide) (fun c1 => ?_) (fun c1 => ?_)
    · refine rn_2 oX1_towers_29 rfl rfl ?_
      refine rr_goto (tgt := 4) oX1_towers_32 (by decide) ?_
      have h3 := ih (t + 1) acc (by omega)
      simp only [bs_N]
      rw [if_neg (by simpa using c1)]
      exact h3
    · refine ri_1 oX1_towers_22 ?_
      refine ri_2 oX1_towers_23 ?_
      refine rr_cSNi (c_X4_bit l) oX1_towers_24 (cn_X1_65 rfl) (by decide) rfl rfl (Nat.le_of_ble_eq_true rfl) ?_
      refine rr_ior oX1_towers_27 ?_
      refine si_1 oX1_towers_28 rfl rfl ?_
      refine rn_2 oX1_towers_29 rfl rfl ?_
      refine rr_goto (tgt := 4) oX1_towers_32 (by decide) ?_
      have h3 := ih (t + 1) (acc ||| ((1 : Int32) <<< (nI t &&& 31))) (by omega)
      simp only [bs_N]
      rw [if_pos (by simpa using c1)]
      exact h3
theorem c_X1_towers (l : Launch) {I : Nat → Nat → Int32} {L : Nat → Nat → Int64} {Rf : Nat → Nat → Option Nat} {n : Nat} {g : Nat} (W : wd_T Rf n) (hg : gd_T g) {G : gr_T} (hG : gv_T I g G)  : wm_C l mX1_towers 2 0 0 [vv_A (some g)] (I, L, Rf, n) (q_i (st_S (p_t G)) (I, L, Rf, n)) := by
  refine wm_of (by decide) (Nat.le_of_ble_eq_true rfl) rfl ?_
  have h8 := gv_8 hG
  refine rk_0 oX1_towers_0 ?_
  refine si_1 oX1_towers_1 rfl rfl ?_
  refine rk_0 oX1_towers_2 ?_
  refine si_2 oX1_towers_3 rfl rfl ?_
  have e := bs_st (fun i => g_k G i == 3) h8
  refine (show st_S (p_t G) = _ from e.symm) ▸ lp_X1_towers l W hg hG (g_n G) 0 0 (Nat.zero_add _)
theorem c_X1_lookersSeeing (l : Launch) {I : Nat → Nat → Int32} {L : Nat → Nat → Int64} {Rf : Nat → Nat → Option Nat} {n : Nat} {g : Nat} (W : wd_T Rf n) (hg : gd_T g) {G : gr_T} {dr : Nat → Bool} {sh : Nat → Nat → Bool} (hA : gl_T I g G dr sh) {j : Nat} (hj : j < 8)  : wm_C l mX1_lookersSeeing 1 0 0 [vv_A (some g), vv_I (nI j)] (I, L, Rf, n) (q_i (st_S (p_se G dr sh j)) (I, L, Rf, n)) := by
  refine wm_of (by decide) (Nat.le_of_ble_eq_true rfl) rfl ?_
  have hG := hA.1.1
  have h8 := gv_8 hG
  refine ra_0 oX1_lookersSeeing_0 ?_
  refine rr_gr oX1_lookersSeeing_1 (ff_X1_49 rfl) (gd_k hg) (gd_lt (j := 0) W hg rfl) ⟨by decide, rfl⟩ (gd_r W hg 12 7 rfl) ?_
  refine ri_1 oX1_lookersSeeing_4 ?_
  refine rr_iv oX1_lookersSeeing_5 (gd_a hg 7 rfl) (gd_lt (j := 7) W hg rfl) rfl (by omega) (by decide) (gl_lk hA (by omega)) ?_
  refine ra_0 oX1_lookersSeeing_6 ?_
  refine rr_giv oX1_lookersSeeing_7 (ff_X1_21 rfl) (gd_k hg) (gd_lt (j := 0) W hg rfl) ⟨by decide, rfl⟩ hA.1.2.1 ?_
  refine rk_m1 oX1_lookersSeeing_10 ?_
  refine rr_ixor oX1_lookersSeeing_11 ?_
  refine rr_iand oX1_lookersSeeing_12 ?_
  refine ra_0 oX1_lookersSeeing_13 ?_
  refine rr_gr oX1_lookersSeeing_14 (ff_X1_46 rfl) (gd_k hg) (gd_lt (j := 0) W hg rfl) ⟨by decide, rfl⟩ (gd_r W hg 11 6 rfl) ?_
  refine ri_1 oX1_lookersSeeing_17 ?_
  refine rr_iv oX1_lookersSeeing_18 (gd_a hg 6 rfl) (gd_lt (j := 6) W hg rfl) rfl (by omega) (by decide) (hA.1.2.2 j hj) ?_
  refine rk_m1 oX1_lookersSeeing_19 ?_
  refine rr_ixor oX1_lookersSeeing_20 ?_
  refine rr_iand oX1_lookersSeeing_21 ?_
  exact rr_ireturn oX1_lookersSeeing_22 rfl rfl (q_is (by rw [st_not, st_not]; rfl))
theorem c_X1_seersOf (l : Launch) {I : Nat → Nat → Int32} {L : Nat → Nat → Int64} {Rf : Nat → Nat → Option Nat} {n : Nat} {g : Nat} (W : wd_T Rf n) (hg : gd_T g) {G : gr_T} {dr : Nat → Bool} {sh : Nat → Nat → Bool} (hA : gl_T I g G dr sh) {j : Nat} (hj : j < 8)  : wm_C l mX1_seersOf 3 0 0 [vv_A (some g), vv_I (nI j)] (I, L, Rf, n) (q_i (st_S (p_sr G dr sh j)) (I, L, Rf, n)) := by
  refine wm_of (by decide) (Nat.le_of_ble_eq_true rfl) rfl ?_
  have hG := hA.1.1
  have h8 := gv_8 hG
  refine ra_0 oX1_seersOf_0 ?_
  refine ri_1 oX1_seersOf_1 ?_
  refine rr_cVi (c_X1_lookersSeeing l W hg hA (by omega)) oX1_seersOf_2 (cv_X1_106 rfl) (by decide) (gd_k hg) (by decide) hcn_1 (gd_lt (j := 0) W hg rfl) rfl rfl (Nat.le_of_ble_eq_true rfl) ?_
  refine ra_0 oX1_seersOf_5 ?_
  refine rr_cVi (c_X1_towers l W hg hG) oX1_seersOf_6 (cv_X1_109 rfl) (by decide) (gd_k hg) (by decide) hcn_1 (gd_lt (j := 0) W hg rfl) rfl rfl (Nat.le_of_ble_eq_true rfl) ?_
  refine rk_m1 oX1_seersOf_9 ?_
  refine rr_ixor oX1_seersOf_10 ?_
  refine rr_iand oX1_seersOf_11 ?_
  exact rr_ireturn oX1_seersOf_12 rfl rfl (q_is (by rw [st_not]; rfl))
theorem lp_X1_countSeenBy (l : Launch) {I : Nat → Nat → Int32} {L : Nat → Nat → Int64} {Rf : Nat → Nat → Option Nat} {n : Nat} {g : Nat} (W : wd_T Rf n) (hg : gd_T g) {G : gr_T} {dr : Nat → Bool} {sh : Nat → Nat → Bool} (hA : gl_T I g G dr sh) {i : Nat} (hi : i < 8) : ∀ m t acc, t + m = g_n G → wm_W l mX1_countSeenBy 3 0 0 4 [vv_A (some g), vv_I (nI i), vv_I acc, vv_I (nI t)] [] (I, L, Rf, n) (q_i (sm_N (fun j => if p_se G dr sh j i = true then 1 else 0) m t acc) (I, L, Rf, n)) := by
  intro m
  induction m with
  | zero =>
    intro t acc ht
    have hG := hA.1.1
    have h8 := gv_8 hG
    refine ri_3 oX1_countSeenBy_4 ?_
    refine ra_0 oX1_countSeenBy_5 ?_
    refine rr_giv oX1_countSeenBy_6 (ff_X1_9 rfl) (gd_k hg) (gd_lt (j := 0) W hg rfl) ⟨by decide, rfl⟩ (gv_c hG) ?_
    refine rr_icmp_ge (tgt := 33) oX1_countSeenBy_9 (by decide) (fun c => ?_) (fun c => ?_)
    rotate_left
    · exact absurd c (by rw [nI_le_iff (by omega) (by omega)]; omega)
    refine ri_2 oX1_countSeenBy_33 ?_
    exact rr_ireturn oX1_countSeenBy_34 rfl rfl ⟨rfl, rfl⟩
  | succ m ih =>
    intro t acc ht
    have hG := hA.1.1
    have h8 := gv_8 hG
    refine ri_3 oX1_countSeenBy_4 ?_
    refine ra_0 oX1_countSeenBy_5 ?_
    refine rr_giv oX1_countSeenBy_6 (ff_X1_9 rfl) (gd_k hg) (gd_lt (j := 0) W hg rfl) ⟨by decide, rfl⟩ (gv_c hG) ?_
    refine rr_icmp_ge (tgt := 33) oX1_countSeenBy_9 (by decide) (fun c => ?_) (fun c => ?_)
    · (rw [nI_le_iff (by omega) (by omega)] at c; omega)
    refine ra_0 oX1_countSeenBy_12 ?_
    refine ri_3 oX1_countSeenBy_13 ?_
    refine rr_cVi (c_X1_lookersSeeing l W hg hA (by omega)) oX1_countSeenBy_14 (cv_X1_106 rfl) (by decide) (gd_k hg) (by decide) hcn_1 (gd_lt (j := 0) W hg rfl) rfl rfl (Nat.le_of_ble_eq_true rfl) ?_
    refine ri_1 oX1_countSeenBy_17 ?_
    refine rr_cSNi (c_X4_isIn l) oX1_countSeenBy_18 (cn_X1_113 rfl) (by decide) rfl rfl (Nat.le_of_ble_eq_true rfl) ?_
    refine rr_ifb_eq (tgt := 27) oX1_countSeenBy_21 (by decide) (fun c1 => ?_) (fun c1 => ?_)
    · rw [st_in hi] at c1
      refine rn_3 oX1_countSeenBy_27 rfl rfl ?_
      refine rr_goto (tgt := 4) oX1_countSeenBy_30 (by decide) ?_
      have h3 := ih (t + 1) acc (by omega)
      simp only [sm_N]
      rw [if_neg c1, Int32.add_zero]
      exact h3
    · rw [st_in hi] at c1
      refine rc_2 (v := acc + 1) oX1_countSeenBy_24 rfl rfl rfl ?_
      refine rn_3 oX1_countSeenBy_27 rfl rfl ?_
      refine rr_goto (tgt := 4) oX1_countSeenBy_30 (by decide) ?_
      have h3 := ih (t + 1) (acc + 1) (by omega)
      simp only [sm_N]
      rw [if_pos c1]
      exact h3
theorem c_X1_countSeenBy (l : Launch) {I : Nat → Nat → Int32} {L : Nat → Nat → Int64} {Rf : Nat → Nat → Option Nat} {n : Nat} {g : Nat} (W : wd_T Rf n) (hg : gd_T g) {G : gr_T} {dr : Nat → Bool} {sh : Nat → Nat → Bool} (hA : gl_T I g G dr sh) {i : Nat} (hi : i < 8)  : wm_C l mX1_countSeenBy 3 0 0 [vv_A (some g), vv_I (nI i)] (I, L, Rf, n) (q_i (sm_N (fun j => if p_se G dr sh j i = true then 1 else 0) (g_n G) 0 0) (I, L, Rf, n)) := by
  refine wm_of (by decide) (Nat.le_of_ble_eq_true rfl) rfl ?_
  have hG := hA.1.1
  have h8 := gv_8 hG
  refine rk_0 oX1_countSeenBy_0 ?_
  refine si_2 oX1_countSeenBy_1 rfl rfl ?_
  refine rk_0 oX1_countSeenBy_2 ?_
  refine si_3 oX1_countSeenBy_3 rfl rfl ?_
  exact lp_X1_countSeenBy l W hg hA hi (g_n G) 0 0 (Nat.zero_add _)
theorem lp_X1_rightHouses (l : Launch) {I : Nat → Nat → Int32} {L : Nat → Nat → Int64} {Rf : Nat → Nat → Option Nat} {n : Nat} {g : Nat} (W : wd_T Rf n) (hg : gd_T g) {G : gr_T} {dr : Nat → Bool} {sh : Nat → Nat → Bool} (hA : gl_T I g G dr sh) : ∀ m t acc w4 w5, t + m = g_n G → wm_W l mX1_rightHouses 3 0 0 18 [vv_A (some g), vv_I ((st_S dr ^^^ (-1)) &&& (st_S (p_t G) ^^^ (-1))), vv_I acc, vv_I (nI t), w4, w5] [] (I, L, Rf, n) (q_i (bs_N (fun j => decide (is_H (g_k G j)) && (cn_8 (p_sr G dr sh j) == if g_k G j = 4 then 0 else 1)) m t acc) (I, L, Rf, n)) := by
  intro m
  induction m with
  | zero =>
    intro t acc w4 w5 ht
    have hG := hA.1.1
    have h8 := gv_8 hG
    refine ri_3 oX1_rightHouses_18 ?_
    refine ra_0 oX1_rightHouses_19 ?_
    refine rr_giv oX1_rightHouses_20 (ff_X1_9 rfl) (gd_k hg) (gd_lt (j := 0) W hg rfl) ⟨by decide, rfl⟩ (gv_c hG) ?_
    refine rr_icmp_ge (tgt := 97) oX1_rightHouses_23 (by decide) (fun c => ?_) (fun c => ?_)
    rotate_left
    · exact absurd c (by rw [nI_le_iff (by omega) (by omega)]; omega)
    refine ri_2 oX1_rightHouses_97 ?_
    exact rr_ireturn oX1_rightHouses_98 rfl rfl ⟨rfl, rfl⟩
  | succ m ih =>
    intro t acc w4 w5 ht
    have hG := hA.1.1
    have h8 := gv_8 hG
    refine ri_3 oX1_rightHouses_18 ?_
    refine ra_0 oX1_rightHouses_19 ?_
    refine rr_giv oX1_rightHouses_20 (ff_X1_9 rfl) (gd_k hg) (gd_lt (j := 0) W hg rfl) ⟨by decide, rfl⟩ (gv_c hG) ?_
    refine rr_icmp_ge (tgt := 97) oX1_rightHouses_23 (by decide) (fun c => ?_) (fun c => ?_)
    · (rw [nI_le_iff (by omega) (by omega)] at c; omega)
    refine ra_0 oX1_rightHouses_26 ?_
    refine rr_gr oX1_rightHouses_27 (ff_X1_49 rfl) (gd_k hg) (gd_lt (j := 0) W hg rfl) ⟨by decide, rfl⟩ (gd_r W hg 12 7 rfl) ?_
    refine ri_3 oX1_rightHouses_30 ?_
    refine rr_iv oX1_rightHouses_31 (gd_a hg 7 rfl) (gd_lt (j := 7) W hg rfl) rfl (by omega) (by decide) (gl_lk hA (by omega)) ?_
    refine ra_0 oX1_rightHouses_32 ?_
    refine rr_gr oX1_rightHouses_33 (ff_X1_46 rfl) (gd_k hg) (gd_lt (j := 0) W hg rfl) ⟨by decide, rfl⟩ (gd_r W hg 11 6 rfl) ?_
    refine ri_3 oX1_rightHouses_36 ?_
    refine rr_iv oX1_rightHouses_37 (gd_a hg 6 rfl) (gd_lt (j := 6) W hg rfl) rfl (by omega) (by decide) (hA.1.2.2 t (by omega)) ?_
    refine rk_m1 oX1_rightHouses_38 ?_
    refine rr_ixor oX1_rightHouses_39 ?_
    refine rr_iand oX1_rightHouses_40 ?_
    refine ri_1 oX1_rightHouses_41 ?_
    refine rr_iand oX1_rightHouses_42 ?_
    refine rr_cSi (c_J6_bitCount_0f7a4 l) oX1_rightHouses_43 (cs_X1_116 rfl) (by decide) rfl rfl (Nat.le_of_ble_eq_true rfl) ?_
    have e : bc_I (((st_S (p_lk G t)) &&& (st_S (sh t) ^^^ (-1))) &&& ((st_S dr ^^^ (-1)) &&& (st_S (p_t G) ^^^ (-1)))) = nI (cn_8 (p_sr G dr sh t)) := by
      rw [st_not, st_not2, ← bc_st]
      exact congrArg bc_I (st_c fun i _ => by simp only [p_sr, p_se]; cases p_lk G t i <;> cases dr i <;> cases sh t i <;> rfl)
    rw [e]
    have hcn : cn_8 (p_sr G dr sh t) ≤ 8 := cn_le (p_sr G dr sh t) 8
    refine si_4 oX1_rightHouses_46 rfl rfl ?_
    refine ra_0 oX1_rightHouses_48 ?_
    refine rr_gr oX1_rightHouses_49 (ff_X1_30 rfl) (gd_k hg) (gd_lt (j := 0) W hg rfl) ⟨by decide, rfl⟩ (gd_r W hg 6 1 rfl) ?_
    refine ri_3 oX1_rightHouses_52 ?_
    refine rr_iv oX1_rightHouses_53 (gd_a hg 1 rfl) (gd_lt (j := 1) W hg rfl) rfl (by omega) (by decide) (gv_k hG (by omega)) ?_
    refine rk_4 oX1_rightHouses_54 ?_
    refine rr_icmp_ne (tgt := 62) oX1_rightHouses_55 (by decide) (fun c1 => ?_) (fun c1 => ?_)
    · refine rk_1 oX1_rightHouses_62 ?_
      refine si_5 oX1_rightHouses_63 rfl rfl ?_
      refine ra_0 oX1_rightHouses_65 ?_
      refine rr_gr oX1_rightHouses_66 (ff_X1_30 rfl) (gd_k hg) (gd_lt (j := 0) W hg rfl) ⟨by decide, rfl⟩ (gd_r W hg 6 1 rfl) ?_
      refine ri_3 oX1_rightHouses_69 ?_
      refine rr_iv oX1_rightHouses_70 (gd_a hg 1 rfl) (gd_lt (j := 1) W hg rfl) rfl (by omega) (by decide) (gv_k hG (by omega)) ?_
      refine rr_cSNi (c_X4_isHouseKind l) oX1_rightHouses_71 (cn_X1_62 rfl) (by decide) rfl rfl (Nat.le_of_ble_eq_true rfl) ?_
      refine rr_ifb_eq (tgt := 91) oX1_rightHouses_74 (by decide) (fun c2 => ?_) (fun c2 => ?_)
      · refine rn_3 oX1_rightHouses_91 rfl rfl ?_
        refine rr_goto (tgt := 18) oX1_rightHouses_94 (by decide) ?_
        refine (show bs_N (fun j => decide (is_H (g_k G j)) && (cn_8 (p_sr G dr sh j) == if g_k G j = 4 then 0 else 1)) (m + 1) t acc = bs_N (fun j => decide (is_H (g_k G j)) && (cn_8 (p_sr G dr sh j) == if g_k G j = 4 then 0 else 1)) m (t + 1) acc from ?_) ▸ ih (t + 1) acc _ _ (by omega)
        simp only [bs_N]
        rw [if_neg (by simp [c2])]
      · refine ri_4 oX1_rightHouses_77 ?_
        refine ri_5 oX1_rightHouses_79 ?_
        refine rr_icmp_ne (tgt := 91) oX1_rightHouses_81 (by decide) (fun c3 => ?_) (fun c3 => ?_)
        · refine rn_3 oX1_rightHouses_91 rfl rfl ?_
          refine rr_goto (tgt := 18) oX1_rightHouses_94 (by decide) ?_
          refine (show bs_N (fun j => decide (is_H (g_k G j)) && (cn_8 (p_sr G dr sh j) == if g_k G j = 4 then 0 else 1)) (m + 1) t acc = bs_N (fun j => decide (is_H (g_k G j)) && (cn_8 (p_sr G dr sh j) == if g_k G j = 4 then 0 else 1)) m (t + 1) acc from ?_) ▸ ih (t + 1) acc _ _ (by omega)
          simp only [bs_N]
          rw [if_neg (by rw [show (1 : Int32) = nI 1 from rfl, nI_inj (by omega) (by omega)] at c3; simp [c1, c3])]
        · refine ri_2 oX1_rightHouses_84 ?_
          refine ri_3 oX1_rightHouses_85 ?_
          refine rr_cSNi (c_X4_bit l) oX1_rightHouses_86 (cn_X1_65 rfl) (by decide) rfl rfl (Nat.le_of_ble_eq_true rfl) ?_
          refine rr_ior oX1_rightHouses_89 ?_
          refine si_2 oX1_rightHouses_90 rfl rfl ?_
          refine rn_3 oX1_rightHouses_91 rfl rfl ?_
          refine rr_goto (tgt := 18) oX1_rightHouses_94 (by decide) ?_
          refine (show bs_N (fun j => decide (is_H (g_k G j)) && (cn_8 (p_sr G dr sh j) == if g_k G j = 4 then 0 else 1)) (m + 1) t acc = bs_N (fun j => decide (is_H (g_k G j)) && (cn_8 (p_sr G dr sh j) == if g_k G j = 4 then 0 else 1)) m (t + 1) (acc ||| ((1 : Int32) <<< (nI t &&& 31))) from ?_) ▸ ih (t + 1) (acc ||| ((1 : Int32) <<< (nI t &&& 31))) _ _ (by omega)
          simp only [bs_N]
          rw [if_pos (by rw [show (1 : Int32) = nI 1 from rfl, nI_inj (by omega) (by omega)] at c3; simp [c1, c2, c3])]
    · refine rk_0 oX1_rightHouses_58 ?_
      refine rr_goto (tgt := 63) oX1_rightHouses_59 (by decide) ?_
      refine si_5 oX1_rightHouses_63 rfl rfl ?_
      refine ra_0 oX1_rightHouses_65 ?_
      refine rr_gr oX1_rightHouses_66 (ff_X1_30 rfl) (gd_k hg) (gd_lt (j := 0) W hg rfl) ⟨by decide, rfl⟩ (gd_r W hg 6 1 rfl) ?_
      refine ri_3 oX1_rightHouses_69 ?_
      refine rr_iv oX1_rightHouses_70 (gd_a hg 1 rfl) (gd_lt (j := 1) W hg rfl) rfl (by omega) (by decide) (gv_k hG (by omega)) ?_
      refine rr_cSNi (c_X4_isHouseKind l) oX1_rightHouses_71 (cn_X1_62 rfl) (by decide) rfl rfl (Nat.le_of_ble_eq_true rfl) ?_
      refine rr_ifb_eq (tgt := 91) oX1_rightHouses_74 (by decide) (fun c2 => ?_) (fun c2 => ?_)
      · refine rn_3 oX1_rightHouses_91 rfl rfl ?_
        refine rr_goto (tgt := 18) oX1_rightHouses_94 (by decide) ?_
        refine (show bs_N (fun j => decide (is_H (g_k G j)) && (cn_8 (p_sr G dr sh j) == if g_k G j = 4 then 0 else 1)) (m + 1) t acc = bs_N (fun j => decide (is_H (g_k G j)) && (cn_8 (p_sr G dr sh j) == if g_k G j = 4 then 0 else 1)) m (t + 1) acc from ?_) ▸ ih (t + 1) acc _ _ (by omega)
        simp only [bs_N]
        rw [if_neg (by simp [c2])]
      · refine ri_4 oX1_rightHouses_77 ?_
        refine ri_5 oX1_rightHouses_79 ?_
        refine rr_icmp_ne (tgt := 91) oX1_rightHouses_81 (by decide) (fun c3 => ?_) (fun c3 => ?_)
        · refine rn_3 oX1_rightHouses_91 rfl rfl ?_
          refine rr_goto (tgt := 18) oX1_rightHouses_94 (by decide) ?_
          refine (show bs_N (fun j => decide (is_H (g_k G j)) && (cn_8 (p_sr G dr sh j) == if g_k G j = 4 then 0 else 1)) (m + 1) t acc = bs_N (fun j => decide (is_H (g_k G j)) && (cn_8 (p_sr G dr sh j) == if g_k G j = 4 then 0 else 1)) m (t + 1) acc from ?_) ▸ ih (t + 1) acc _ _ (by omega)
          simp only [bs_N]
          rw [if_neg (by rw [show (0 : Int32) = nI 0 from rfl, nI_inj (by omega) (by omega)] at c3; simp [c1, c3])]
        · refine ri_2 oX1_rightHouses_84 ?_
          refine ri_3 oX1_rightHouses_85 ?_
          refine rr_cSNi (c_X4_bit l) oX1_rightHouses_86 (cn_X1_65 rfl) (by decide) rfl rfl (Nat.le_of_ble_eq_true rfl) ?_
          refine rr_ior oX1_rightHouses_89 ?_
          refine si_2 oX1_rightHouses_90 rfl rfl ?_
          refine rn_3 oX1_rightHouses_91 rfl rfl ?_
          refine rr_goto (tgt := 18) oX1_rightHouses_94 (by decide) ?_
          refine (show bs_N (fun j => decide (is_H (g_k G j)) && (cn_8 (p_sr G dr sh j) == if g_k G j = 4 then 0 else 1)) (m + 1) t acc = bs_N (fun j => decide (is_H (g_k G j)) && (cn_8 (p_sr G dr sh j) == if g_k G j = 4 then 0 else 1)) m (t + 1) (acc ||| ((1 : Int32) <<< (nI t &&& 31))) from ?_) ▸ ih (t + 1) (acc ||| ((1 : Int32) <<< (nI t &&& 31))) _ _ (by omega)
          simp only [bs_N]
          rw [if_pos (by rw [show (0 : Int32) = nI 0 from rfl, nI_inj (by omega) (by omega)] at c3; simp [c1, c2, c3])]
theorem c_X1_rightHouses (l : Launch) {I : Nat → Nat → Int32} {L : Nat → Nat → Int64} {Rf : Nat → Nat → Option Nat} {n : Nat} {g : Nat} (W : wd_T Rf n) (hg : gd_T g) {G : gr_T} {dr : Nat → Bool} {sh : Nat → Nat → Bool} (hA : gl_T I g G dr sh)  : wm_C l mX1_rightHouses 3 0 0 [vv_A (some g)] (I, L, Rf, n) (q_i (st_S (p_ri G dr sh)) (I, L, Rf, n)) := by
  refine wm_of (by decide) (Nat.le_of_ble_eq_true rfl) rfl ?_
  have hG := hA.1.1
  have h8 := gv_8 hG
  refine ra_0 oX1_rightHouses_0 ?_
  refine rr_giv oX1_rightHouses_1 (ff_X1_21 rfl) (gd_k hg) (gd_lt (j := 0) W hg rfl) ⟨by decide, rfl⟩ hA.1.2.1 ?_
  refine rk_m1 oX1_rightHouses_4 ?_
  refine rr_ixor oX1_rightHouses_5 ?_
  refine ra_0 oX1_rightHouses_6 ?_
  refine rr_cVi (c_X1_towers l W hg hG) oX1_rightHouses_7 (cv_X1_109 rfl) (by decide) (gd_k hg) (by decide) hcn_1 (gd_lt (j := 0) W hg rfl) rfl rfl (Nat.le_of_ble_eq_true rfl) ?_
  refine rk_m1 oX1_rightHouses_10 ?_
  refine rr_ixor oX1_rightHouses_11 ?_
  refine rr_iand oX1_rightHouses_12 ?_
  refine si_1 oX1_rightHouses_13 rfl rfl ?_
  refine rk_0 oX1_rightHouses_14 ?_
  refine si_2 oX1_rightHouses_15 rfl rfl ?_
  refine rk_0 oX1_rightHouses_16 ?_
  refine si_3 oX1_rightHouses_17 rfl rfl ?_
  have e := bs_st (fun j => decide (is_H (g_k G j)) && (cn_8 (p_sr G dr sh j) == if g_k G j = 4 then 0 else 1)) h8
  refine (show st_S (p_ri G dr sh) = _ from e.symm) ▸ lp_X1_rightHouses l W hg hA (g_n G) 0 0 _ _ (Nat.zero_add _)
theorem c_X1_countRight (l : Launch) {I : Nat → Nat → Int32} {L : Nat → Nat → Int64} {Rf : Nat → Nat → Option Nat} {n : Nat} {g : Nat} (W : wd_T Rf n) (hg : gd_T g) {G : gr_T} {dr : Nat → Bool} {sh : Nat → Nat → Bool} (hA : gl_T I g G dr sh)  : wm_C l mX1_countRight 4 0 0 [vv_A (some g)] (I, L, Rf, n) (q_i (nI (cn_8 (p_ri G dr sh))) (I, L, Rf, n)) := by
  refine wm_of (by decide) (Nat.le_of_ble_eq_true rfl) rfl ?_
  have hG := hA.1.1
  have h8 := gv_8 hG
  refine ra_0 oX1_countRight_0 ?_
  refine rr_cVi (c_X1_rightHouses l W hg hA) oX1_countRight_1 (cv_X1_121 rfl) (by decide) (gd_k hg) (by decide) hcn_1 (gd_lt (j := 0) W hg rfl) rfl rfl (Nat.le_of_ble_eq_true rfl) ?_
  refine rr_cSi (c_J6_bitCount_0f7a4 l) oX1_countRight_4 (cs_X1_116 rfl) (by decide) rfl rfl (Nat.le_of_ble_eq_true rfl) ?_
  exact rr_ireturn oX1_countRight_7 rfl rfl (q_is (bc_st _))
theorem lp_X1_countShutters (l : Launch) {I : Nat → Nat → Int32} {L : Nat → Nat → Int64} {Rf : Nat → Nat → Option Nat} {n : Nat} {g : Nat} (W : wd_T Rf n) (hg : gd_T g) {sh : Nat → Nat → Bool} (hS : ∀ j, j < 8 → I (g + 6) j = st_S (sh j))  : ∀ m t acc, t + m = 8 → wm_W l mX1_countShutters 2 0 0 4 [vv_A (some g), vv_I acc, vv_I (nI t)] [] (I, L, Rf, n) (q_i (sm_N (fun j => nI (cn_8 (sh j))) m t acc) (I, L, Rf, n)) := by
  intro m
  induction m with
  | zero =>
    intro t acc ht
    refine ri_2 oX1_countShutters_4 ?_
    refine rr_bipush (v := 8) oX1_countShutters_5 (by decide) ?_
    refine rr_icmp_ge (tgt := 28) oX1_countShutters_7 (by decide) (fun c => ?_) (fun c => ?_)
    rotate_left
    · exact absurd c (by rw [show (8 : Int32) = nI 8 from rfl, nI_le_iff (by omega) (by omega)]; omega)
    refine ri_1 oX1_countShutters_28 ?_
    exact rr_ireturn oX1_countShutters_29 rfl rfl ⟨rfl, rfl⟩
  | succ m ih =>
    intro t acc ht
    refine ri_2 oX1_countShutters_4 ?_
    refine rr_bipush (v := 8) oX1_countShutters_5 (by decide) ?_
    refine rr_icmp_ge (tgt := 28) oX1_countShutters_7 (by decide) (fun c => ?_) (fun c => ?_)
    · (rw [show (8 : Int32) = nI 8 from rfl, nI_le_iff (by omega) (by omega)] at c; omega)
    refine ri_1 oX1_countShutters_10 ?_
    refine ra_0 oX1_countShutters_11 ?_
    refine rr_gr oX1_countShutters_12 (ff_X1_46 rfl) (gd_k hg) (gd_lt (j := 0) W hg rfl) ⟨by decide, rfl⟩ (gd_r W hg 11 6 rfl) ?_
    refine ri_2 oX1_countShutters_15 ?_
    refine rr_iv oX1_countShutters_16 (gd_a hg 6 rfl) (gd_lt (j := 6) W hg rfl) rfl (by omega) (by decide) (hS t (by omega)) ?_
    refine rr_cSi (c_J6_bitCount_0f7a4 l) oX1_countShutters_17 (cs_X1_116 rfl) (by decide) rfl rfl (Nat.le_of_ble_eq_true rfl) ?_
    rw [bc_st]
    refine rr_iadd oX1_countShutters_20 ?_
    refine si_1 oX1_countShutters_21 rfl rfl ?_
    refine rn_2 oX1_countShutters_22 rfl rfl ?_
    refine rr_goto (tgt := 4) oX1_countShutters_25 (by decide) ?_
    exact ih (t + 1) _ (by omega)
theorem c_X1_countShutters (l : Launch) {I : Nat → Nat → Int32} {L : Nat → Nat → Int64} {Rf : Nat → Nat → Option Nat} {n : Nat} {g : Nat} (W : wd_T Rf n) (hg : gd_T g) {sh : Nat → Nat → Bool} (hS : ∀ j, j < 8 → I (g + 6) j = st_S (sh j))  : wm_C l mX1_countShutters 2 0 0 [vv_A (some g)] (I, L, Rf, n) (q_i (sm_N (fun j => nI (cn_8 (sh j))) 8 0 0) (I, L, Rf, n)) := by
  refine wm_of (by decide) (Nat.le_of_ble_eq_true rfl) rfl ?_
  refine rk_0 oX1_countShutters_0 ?_
  refine si_1 oX1_countShutters_1 rfl rfl ?_
  refine rk_0 oX1_countShutters_2 ?_
  refine si_2 oX1_countShutters_3 rfl rfl ?_
  exact lp_X1_countShutters l W hg hS 8 0 0 rfl
theorem c_X1_costOf (l : Launch) {I : Nat → Nat → Int32} {L : Nat → Nat → Int64} {Rf : Nat → Nat → Option Nat} {n : Nat} {g : Nat} (W : wd_T Rf n) (hg : gd_T g) {G : gr_T} (hG : gv_T I g G) {i j : Nat} (hi : i < g_n G) (hj : j < g_n G)  : wm_C l mX1_costOf 3 0 0 [vv_A (some g), vv_I (nI i), vv_I (nI j)] (I, L, Rf, n) (q_i (s_cost G i j) (I, L, Rf, n)) := by
  refine wm_of (by decide) (Nat.le_of_ble_eq_true rfl) rfl ?_
  have h8 := gv_8 hG
  refine ra_0 oX1_costOf_0 ?_
  refine ri_1 oX1_costOf_1 ?_
  refine ri_2 oX1_costOf_2 ?_
  refine rr_cVi (c_X1_distanceOf l W hg hG (by omega) (by omega)) oX1_costOf_3 (cv_X1_88 rfl) (by decide) (gd_k hg) (by decide) hcn_1 (gd_lt (j := 0) W hg rfl) rfl rfl (Nat.le_of_ble_eq_true rfl) ?_
  refine ra_0 oX1_costOf_6 ?_
  refine rr_gr oX1_costOf_7 (ff_X1_43 rfl) (gd_k hg) (gd_lt (j := 0) W hg rfl) ⟨by decide, rfl⟩ (gd_r W hg 10 5 rfl) ?_
  refine ri_2 oX1_costOf_10 ?_
  refine rr_iv oX1_costOf_11 (gd_a hg 5 rfl) (gd_lt (j := 5) W hg rfl) rfl (by omega) (by decide) (gv_a hG (by omega)) ?_
  refine rr_iadd oX1_costOf_12 ?_
  exact rr_ireturn oX1_costOf_13 rfl rfl ⟨rfl, rfl⟩
def dr_N (c : Nat → Int32) : Option Nat → Int32
  | none => -1
  | some u => c u
theorem oI_in {u : Nat} : oI (some u) = nI u := rfl
theorem lp_X1_keptSeer (l : Launch) {I : Nat → Nat → Int32} {L : Nat → Nat → Int64} {Rf : Nat → Nat → Option Nat} {n : Nat} {g : Nat} (W : wd_T Rf n) (hg : gd_T g) {G : gr_T} {dr : Nat → Bool} {sh : Nat → Nat → Bool} (hA : gl_T I g G dr sh) {j : Nat} (hj : j < 8) {p : Nat → Bool} (hp : ∀ i, p i = true → i < g_n G ∧ j < g_n G ∧ (-1 : Int32) < s_cost G i j) : ∀ m t b, t + m = g_n G → wm_W l mX1_keptSeer 4 0 0 28 [vv_A (some g), vv_I (nI j), vv_I (st_S p), vv_I (oI b), vv_I (dr_N (fun i => s_cost G i j) b), vv_I (nI t)] [] (I, L, Rf, n) (q_i (oI (kp_N p (fun i => s_cost G i j) m t b)) (I, L, Rf, n)) := by
  intro m
  induction m with
  | zero =>
    intro t b ht
    have hG := hA.1.1
    have h8 := gv_8 hG
    refine ri_5 oX1_keptSeer_28 ?_
    refine ra_0 oX1_keptSeer_30 ?_
    refine rr_giv oX1_keptSeer_31 (ff_X1_9 rfl) (gd_k hg) (gd_lt (j := 0) W hg rfl) ⟨by decide, rfl⟩ (gv_c hG) ?_
    refine rr_icmp_ge (tgt := 76) oX1_keptSeer_34 (by decide) (fun c => ?_) (fun c => ?_)
    rotate_left
    · exact absurd c (by rw [nI_le_iff (by omega) (by omega)]; omega)
    refine ri_3 oX1_keptSeer_76 ?_
    exact rr_ireturn oX1_keptSeer_77 rfl rfl ⟨rfl, rfl⟩
  | succ m ih =>
    intro t b ht
    have hG := hA.1.1
    have h8 := gv_8 hG
    refine ri_5 oX1_keptSeer_28 ?_
    refine ra_0 oX1_keptSeer_30 ?_
    refine rr_giv oX1_keptSeer_31 (ff_X1_9 rfl) (gd_k hg) (gd_lt (j := 0) W hg rfl) ⟨by decide, rfl⟩ (gv_c hG) ?_
    refine rr_icmp_ge (tgt := 76) oX1_keptSeer_34 (by decide) (fun c => ?_) (fun c => ?_)
    · (rw [nI_le_iff (by omega) (by omega)] at c; omega)
    refine ri_2 oX1_keptSeer_37 ?_
    refine ri_5 oX1_keptSeer_38 ?_
    refine rr_cSNi (c_X4_isIn l) oX1_keptSeer_40 (cn_X1_113 rfl) (by decide) rfl rfl (Nat.le_of_ble_eq_true rfl) ?_
    refine rr_ifb_eq (tgt := 70) oX1_keptSeer_43 (by decide) (fun c1 => ?_) (fun c1 => ?_)
    · rw [st_in (by omega)] at c1
      refine rn_5 oX1_keptSeer_70 rfl rfl ?_
      refine rr_goto (tgt := 28) oX1_keptSeer_73 (by decide) ?_
      have h3 := ih (t + 1) b (by omega)
      simp only [kp_N]
      rw [if_neg c1]
      exact h3
    · rw [st_in (by omega)] at c1
      obtain ⟨hp1, hp2, hp3⟩ := hp t c1
      refine ra_0 oX1_keptSeer_46 ?_
      refine ri_5 oX1_keptSeer_47 ?_
      refine ri_1 oX1_keptSeer_49 ?_
      refine rr_cVi (c_X1_costOf l W hg hG (by omega) (by omega)) oX1_keptSeer_50 (cv_X1_127 rfl) (by decide) (gd_k hg) (by decide) hcn_1 (gd_lt (j := 0) W hg rfl) rfl rfl (Nat.le_of_ble_eq_true rfl) ?_
      refine ri_4 oX1_keptSeer_53 ?_
      refine rr_icmp_le (tgt := 70) oX1_keptSeer_55 (by decide) (fun c2 => ?_) (fun c2 => ?_)
      · refine rn_5 oX1_keptSeer_70 rfl rfl ?_
        refine rr_goto (tgt := 28) oX1_keptSeer_73 (by decide) ?_
        have h3 := ih (t + 1) b (by omega)
        simp only [kp_N]
        rw [if_pos c1]
        cases b with
        | none => exact absurd hp3 (Int32.not_lt.mpr c2)
        | some u =>
          simp only []
          rw [if_neg (Int32.not_lt.mpr (show s_cost G t j ≤ s_cost G u j from c2))]
          exact h3
      · refine ri_5 oX1_keptSeer_58 ?_
        refine si_3 oX1_keptSeer_60 rfl rfl ?_
        refine ra_0 oX1_keptSeer_61 ?_
        refine ri_5 oX1_keptSeer_62 ?_
        refine ri_1 oX1_keptSeer_64 ?_
        refine rr_cVi (c_X1_costOf l W hg hG (by omega) (by omega)) oX1_keptSeer_65 (cv_X1_127 rfl) (by decide) (gd_k hg) (by decide) hcn_1 (gd_lt (j := 0) W hg rfl) rfl rfl (Nat.le_of_ble_eq_true rfl) ?_
        refine si_4 oX1_keptSeer_68 rfl rfl ?_
        refine rn_5 oX1_keptSeer_70 rfl rfl ?_
        refine rr_goto (tgt := 28) oX1_keptSeer_73 (by decide) ?_
        have h3 := ih (t + 1) (some t) (by omega)
        simp only [kp_N]
        rw [if_pos c1]
        cases b with
        | none => exact h3
        | some u =>
          simp only []
          rw [if_pos (Int32.not_le.mp (show ¬ s_cost G t j ≤ s_cost G u j from c2))]
          exact h3
theorem c_X1_keptSeer (l : Launch) {I : Nat → Nat → Int32} {L : Nat → Nat → Int64} {Rf : Nat → Nat → Option Nat} {n : Nat} {g : Nat} (W : wd_T Rf n) (hg : gd_T g) {G : gr_T} {dr : Nat → Bool} {sh : Nat → Nat → Bool} (hA : gl_T I g G dr sh) (hr : hr_T G) {j : Nat} (hj : j < 8)  : wm_C l mX1_keptSeer 4 0 0 [vv_A (some g), vv_I (nI j)] (I, L, Rf, n) (q_i (oI (s_kept G dr sh j)) (I, L, Rf, n)) := by
  refine wm_of (by decide) (Nat.le_of_ble_eq_true rfl) rfl ?_
  have hG := hA.1.1
  have h8 := gv_8 hG
  have hpp : ∀ i, p_kp G dr sh j i = true → i < g_n G ∧ j < g_n G ∧ (-1 : Int32) < s_cost G i j := by
    intro i hi
    simp only [p_kp, Bool.and_eq_true] at hi
    obtain ⟨h1, h2, h3, -⟩ := p_sr_in hi.2
    obtain ⟨c, hc, e⟩ := s_cost_19 hr h1.1 h1.2 h2 h3
    refine ⟨h1.1, h2, ?_⟩
    rw [e, Int32.lt_iff_toInt_lt, nI_toInt (by omega), show (-1 : Int32).toInt = -1 by decide]
    omega
  have hk4 : ∀ x, I (g + 1) j = x → st_S (p_kp G dr sh j) = if x = 4 then 0 else st_S (p_sr G dr sh j) := by
    intro x hx
    by_cases q : j < g_n G
    · rw [gv_k hG q] at hx
      by_cases q2 : x = 4
      · rw [if_pos q2]
        exact st_e0.mpr (fun i _ => by simp [p_kp, hx, q2])
      · rw [if_neg q2]
        exact st_c (fun i _ => by simp [p_kp, hx, q2])
    · have z : ∀ i, p_sr G dr sh j i = false := by
        intro i
        simp [p_sr, p_se, p_lk, q]
      rw [show st_S (p_kp G dr sh j) = 0 from st_e0.mpr (fun i _ => by simp [p_kp, z]), show st_S (p_sr G dr sh j) = 0 from st_e0.mpr (fun i _ => z i)]
      split <;> rfl
  refine ra_0 oX1_keptSeer_0 ?_
  refine rr_gr oX1_keptSeer_1 (ff_X1_30 rfl) (gd_k hg) (gd_lt (j := 0) W hg rfl) ⟨by decide, rfl⟩ (gd_r W hg 6 1 rfl) ?_
  refine ri_1 oX1_keptSeer_4 ?_
  refine rr_ild oX1_keptSeer_5 (gd_a hg 1 rfl) (gd_lt (j := 1) W hg rfl) rfl (by omega) (by decide) ?_
  refine rk_4 oX1_keptSeer_6 ?_
  refine rr_icmp_ne (tgt := 14) oX1_keptSeer_7 (by decide) (fun c => ?_) (fun c => ?_)
  · refine ra_0 oX1_keptSeer_14 ?_
    refine ri_1 oX1_keptSeer_15 ?_
    refine rr_cVi (c_X1_seersOf l W hg hA (by omega)) oX1_keptSeer_16 (cv_X1_124 rfl) (by decide) (gd_k hg) (by decide) hcn_1 (gd_lt (j := 0) W hg rfl) rfl rfl (Nat.le_of_ble_eq_true rfl) ?_
    refine si_2 oX1_keptSeer_19 rfl rfl ?_
    refine rk_m1 oX1_keptSeer_20 ?_
    refine si_3 oX1_keptSeer_21 rfl rfl ?_
    refine rk_m1 oX1_keptSeer_22 ?_
    refine si_4 oX1_keptSeer_23 rfl rfl ?_
    refine rk_0 oX1_keptSeer_25 ?_
    refine si_5 oX1_keptSeer_26 rfl rfl ?_
    have e4 := hk4 _ rfl
    rw [if_neg c] at e4
    have e5 := lp_X1_keptSeer l (L := L) W hg hA hj (p := p_kp G dr sh j) hpp (g_n G) 0 none (Nat.zero_add _)
    rw [e4] at e5
    exact e5
  · refine rk_0 oX1_keptSeer_10 ?_
    refine rr_goto (tgt := 19) oX1_keptSeer_11 (by decide) ?_
    refine si_2 oX1_keptSeer_19 rfl rfl ?_
    refine rk_m1 oX1_keptSeer_20 ?_
    refine si_3 oX1_keptSeer_21 rfl rfl ?_
    refine rk_m1 oX1_keptSeer_22 ?_
    refine si_4 oX1_keptSeer_23 rfl rfl ?_
    refine rk_0 oX1_keptSeer_25 ?_
    refine si_5 oX1_keptSeer_26 rfl rfl ?_
    have e4 := hk4 _ rfl
    rw [if_pos (Classical.not_not.mp (fun q => q c))] at e4
    have e5 := lp_X1_keptSeer l (L := L) W hg hA hj (p := p_kp G dr sh j) hpp (g_n G) 0 none (Nat.zero_add _)
    rw [e4] at e5
    exact e5
theorem c_X1_seersTooMany (l : Launch) {I : Nat → Nat → Int32} {L : Nat → Nat → Int64} {Rf : Nat → Nat → Option Nat} {n : Nat} {g : Nat} (W : wd_T Rf n) (hg : gd_T g) {G : gr_T} {dr : Nat → Bool} {sh : Nat → Nat → Bool} (hA : gl_T I g G dr sh) (hr : hr_T G) {j : Nat} (hj : j < 8)  : wm_C l mX1_seersTooMany 5 0 0 [vv_A (some g), vv_I (nI j)] (I, L, Rf, n) (q_i (st_S (p_tm G dr sh j)) (I, L, Rf, n)) := by
  refine wm_of (by decide) (Nat.le_of_ble_eq_true rfl) rfl ?_
  have hG := hA.1.1
  have h8 := gv_8 hG
  refine ra_0 oX1_seersTooMany_0 ?_
  refine ri_1 oX1_seersTooMany_1 ?_
  refine rr_cVi (c_X1_keptSeer l W hg hA hr (by omega)) oX1_seersTooMany_2 (cv_X1_130 rfl) (by decide) (gd_k hg) (by decide) hcn_1 (gd_lt (j := 0) W hg rfl) rfl rfl (Nat.le_of_ble_eq_true rfl) ?_
  generalize hke : s_kept G dr sh j = ke
  refine si_2 oX1_seersTooMany_5 rfl rfl ?_
  rcases ke with _ | u
  · refine ri_2 oX1_seersTooMany_6 ?_
    refine rk_m1 oX1_seersTooMany_7 ?_
    refine rr_icmp_ne (tgt := 19) oX1_seersTooMany_8 (by decide) (fun c => ?_) (fun c => ?_)
    · exact absurd rfl c
    refine ra_0 oX1_seersTooMany_11 ?_
    refine ri_1 oX1_seersTooMany_12 ?_
    refine rr_cVi (c_X1_seersOf l W hg hA (by omega)) oX1_seersTooMany_13 (cv_X1_124 rfl) (by decide) (gd_k hg) (by decide) hcn_1 (gd_lt (j := 0) W hg rfl) rfl rfl (Nat.le_of_ble_eq_true rfl) ?_
    refine rr_goto (tgt := 31) oX1_seersTooMany_16 (by decide) ?_
    exact rr_ireturn oX1_seersTooMany_31 rfl rfl (q_is (st_c fun i _ => by simp [p_tm, hke]))
  · have hu := s_kept_lt hke
    simp only [oI]
    refine ri_2 oX1_seersTooMany_6 ?_
    refine rk_m1 oX1_seersTooMany_7 ?_
    refine rr_icmp_ne (tgt := 19) oX1_seersTooMany_8 (by decide) (fun c => ?_) (fun c => ?_)
    rotate_left
    · exact absurd c (nI_nm1 (by omega))
    refine ra_0 oX1_seersTooMany_19 ?_
    refine ri_1 oX1_seersTooMany_20 ?_
    refine rr_cVi (c_X1_seersOf l W hg hA (by omega)) oX1_seersTooMany_21 (cv_X1_124 rfl) (by decide) (gd_k hg) (by decide) hcn_1 (gd_lt (j := 0) W hg rfl) rfl rfl (Nat.le_of_ble_eq_true rfl) ?_
    refine ri_2 oX1_seersTooMany_24 ?_
    refine rr_cSNi (c_X4_bit l) oX1_seersTooMany_25 (cn_X1_65 rfl) (by decide) rfl rfl (Nat.le_of_ble_eq_true rfl) ?_
    refine rk_m1 oX1_seersTooMany_28 ?_
    refine rr_ixor oX1_seersTooMany_29 ?_
    refine rr_iand oX1_seersTooMany_30 ?_
    exact rr_ireturn oX1_seersTooMany_31 rfl rfl (q_is (by rw [st_one u (by omega), st_not]; exact st_c fun i _ => by simp only [p_tm, hke]; by_cases q : i = u <;> simp [q]))
theorem lp_X1_hopelessHouses (l : Launch) {I : Nat → Nat → Int32} {L : Nat → Nat → Int64} {Rf : Nat → Nat → Option Nat} {n : Nat} {g : Nat} (W : wd_T Rf n) (hg : gd_T g) {G : gr_T} {dr : Nat → Bool} {sh : Nat → Nat → Bool} (hA : gl_T I g G dr sh) : ∀ m t acc, t + m = g_n G → wm_W l mX1_hopelessHouses 4 0 0 4 [vv_A (some g), vv_I acc, vv_I (nI t)] [] (I, L, Rf, n) (q_i (bs_N (p_hop G dr sh) m t acc) (I, L, Rf, n)) := by
  intro m
  induction m with
  | zero =>
    intro t acc ht
    have hG := hA.1.1
    have h8 := gv_8 hG
    refine ri_2 oX1_hopelessHouses_4 ?_
    refine ra_0 oX1_hopelessHouses_5 ?_
    refine rr_giv oX1_hopelessHouses_6 (ff_X1_9 rfl) (gd_k hg) (gd_lt (j := 0) W hg rfl) ⟨by decide, rfl⟩ (gv_c hG) ?_
    refine rr_icmp_ge (tgt := 55) oX1_hopelessHouses_9 (by decide) (fun c => ?_) (fun c => ?_)
    rotate_left
    · exact absurd c (by rw [nI_le_iff (by omega) (by omega)]; omega)
    refine ri_1 oX1_hopelessHouses_55 ?_
    exact rr_ireturn oX1_hopelessHouses_56 rfl rfl ⟨rfl, rfl⟩
  | succ m ih =>
    intro t acc ht
    have hG := hA.1.1
    have h8 := gv_8 hG
    refine ri_2 oX1_hopelessHouses_4 ?_
    refine ra_0 oX1_hopelessHouses_5 ?_
    refine rr_giv oX1_hopelessHouses_6 (ff_X1_9 rfl) (gd_k hg) (gd_lt (j := 0) W hg rfl) ⟨by decide, rfl⟩ (gv_c hG) ?_
    refine rr_icmp_ge (tgt := 55) oX1_hopelessHouses_9 (by decide) (fun c => ?_) (fun c => ?_)
    · (rw [nI_le_iff (by omega) (by omega)] at c; omega)
    refine ra_0 oX1_hopelessHouses_12 ?_
    refine rr_gr oX1_hopelessHouses_13 (ff_X1_30 rfl) (gd_k hg) (gd_lt (j := 0) W hg rfl) ⟨by decide, rfl⟩ (gd_r W hg 6 1 rfl) ?_
    refine ri_2 oX1_hopelessHouses_16 ?_
    refine rr_iv oX1_hopelessHouses_17 (gd_a hg 1 rfl) (gd_lt (j := 1) W hg rfl) rfl (by omega) (by decide) (gv_k hG (by omega)) ?_
    refine rr_cSNi (c_X4_isHouseKind l) oX1_hopelessHouses_18 (cn_X1_62 rfl) (by decide) rfl rfl (Nat.le_of_ble_eq_true rfl) ?_
    refine rr_ifb_eq (tgt := 49) oX1_hopelessHouses_21 (by decide) (fun c1 => ?_) (fun c1 => ?_)
    · refine rn_2 oX1_hopelessHouses_49 rfl rfl ?_
      refine rr_goto (tgt := 4) oX1_hopelessHouses_52 (by decide) ?_
      have h3 := ih (t + 1) acc (by omega)
      simp only [bs_N]
      rw [if_neg (by simp [p_hop, c1])]
      exact h3
    · refine ra_0 oX1_hopelessHouses_24 ?_
      refine rr_gr oX1_hopelessHouses_25 (ff_X1_30 rfl) (gd_k hg) (gd_lt (j := 0) W hg rfl) ⟨by decide, rfl⟩ (gd_r W hg 6 1 rfl) ?_
      refine ri_2 oX1_hopelessHouses_28 ?_
      refine rr_iv oX1_hopelessHouses_29 (gd_a hg 1 rfl) (gd_lt (j := 1) W hg rfl) rfl (by omega) (by decide) (gv_k hG (by omega)) ?_
      refine rk_4 oX1_hopelessHouses_30 ?_
      refine rr_icmp_eq (tgt := 49) oX1_hopelessHouses_31 (by decide) (fun c2 => ?_) (fun c2 => ?_)
      · refine rn_2 oX1_hopelessHouses_49 rfl rfl ?_
        refine rr_goto (tgt := 4) oX1_hopelessHouses_52 (by decide) ?_
        have h3 := ih (t + 1) acc (by omega)
        simp only [bs_N]
        rw [if_neg (by simp [p_hop, c2])]
        exact h3
      · refine ra_0 oX1_hopelessHouses_34 ?_
        refine ri_2 oX1_hopelessHouses_35 ?_
        refine rr_cVi (c_X1_seersOf l W hg hA (by omega)) oX1_hopelessHouses_36 (cv_X1_124 rfl) (by decide) (gd_k hg) (by decide) hcn_1 (gd_lt (j := 0) W hg rfl) rfl rfl (Nat.le_of_ble_eq_true rfl) ?_
        refine rr_if_ne (tgt := 49) oX1_hopelessHouses_39 (by decide) (fun c3 => ?_) (fun c3 => ?_)
        · refine rn_2 oX1_hopelessHouses_49 rfl rfl ?_
          refine rr_goto (tgt := 4) oX1_hopelessHouses_52 (by decide) ?_
          have h3 := ih (t + 1) acc (by omega)
          simp only [bs_N]
          rw [if_neg (by simp [p_hop, c3])]
          exact h3
        · refine ri_1 oX1_hopelessHouses_42 ?_
          refine ri_2 oX1_hopelessHouses_43 ?_
          refine rr_cSNi (c_X4_bit l) oX1_hopelessHouses_44 (cn_X1_65 rfl) (by decide) rfl rfl (Nat.le_of_ble_eq_true rfl) ?_
          refine rr_ior oX1_hopelessHouses_47 ?_
          refine si_1 oX1_hopelessHouses_48 rfl rfl ?_
          refine rn_2 oX1_hopelessHouses_49 rfl rfl ?_
          refine rr_goto (tgt := 4) oX1_hopelessHouses_52 (by decide) ?_
          have h3 := ih (t + 1) (acc ||| ((1 : Int32) <<< (nI t &&& 31))) (by omega)
          simp only [bs_N]
          rw [if_pos (by simp [p_hop, c1, c2, c3])]
          exact h3
theorem c_X1_hopelessHouses (l : Launch) {I : Nat → Nat → Int32} {L : Nat → Nat → Int64} {Rf : Nat → Nat → Option Nat} {n : Nat} {g : Nat} (W : wd_T Rf n) (hg : gd_T g) {G : gr_T} {dr : Nat → Bool} {sh : Nat → Nat → Bool} (hA : gl_T I g G dr sh)  : wm_C l mX1_hopelessHouses 4 0 0 [vv_A (some g)] (I, L, Rf, n) (q_i (st_S (fun j => decide (j < g_n G) && p_hop G dr sh j)) (I, L, Rf, n)) := by
  refine wm_of (by decide) (Nat.le_of_ble_eq_true rfl) rfl ?_
  have hG := hA.1.1
  have h8 := gv_8 hG
  refine rk_0 oX1_hopelessHouses_0 ?_
  refine si_1 oX1_hopelessHouses_1 rfl rfl ?_
  refine rk_0 oX1_hopelessHouses_2 ?_
  refine si_2 oX1_hopelessHouses_3 rfl rfl ?_
  have e := bs_st (p_hop G dr sh) h8
  refine e ▸ lp_X1_hopelessHouses l W hg hA (g_n G) 0 0 (Nat.zero_add _)
theorem lp_X1_cheapestShutters (l : Launch) {I : Nat → Nat → Int32} {L : Nat → Nat → Int64} {Rf : Nat → Nat → Option Nat} {n : Nat} {g : Nat} (W : wd_T Rf n) (hg : gd_T g) {G : gr_T} {dr : Nat → Bool} {sh : Nat → Nat → Bool} (hA : gl_T I g G dr sh) (hr : hr_T G) : ∀ m t acc, t + m = g_n G → wm_W l mX1_cheapestShutters 6 0 0 4 [vv_A (some g), vv_I acc, vv_I (nI t)] [] (I, L, Rf, n) (q_i (sm_N (fun j => nI (cn_8 (p_tm G dr sh j))) m t acc) (I, L, Rf, n)) := by
  intro m
  induction m with
  | zero =>
    intro t acc ht
    have hG := hA.1.1
    have h8 := gv_8 hG
    refine ri_2 oX1_cheapestShutters_4 ?_
    refine ra_0 oX1_cheapestShutters_5 ?_
    refine rr_giv oX1_cheapestShutters_6 (ff_X1_9 rfl) (gd_k hg) (gd_lt (j := 0) W hg rfl) ⟨by decide, rfl⟩ (gv_c hG) ?_
    refine rr_icmp_ge (tgt := 29) oX1_cheapestShutters_9 (by decide) (fun c => ?_) (fun c => ?_)
    rotate_left
    · exact absurd c (by rw [nI_le_iff (by omega) (by omega)]; omega)
    refine ri_1 oX1_cheapestShutters_29 ?_
    exact rr_ireturn oX1_cheapestShutters_30 rfl rfl ⟨rfl, rfl⟩
  | succ m ih =>
    intro t acc ht
    have hG := hA.1.1
    have h8 := gv_8 hG
    refine ri_2 oX1_cheapestShutters_4 ?_
    refine ra_0 oX1_cheapestShutters_5 ?_
    refine rr_giv oX1_cheapestShutters_6 (ff_X1_9 rfl) (gd_k hg) (gd_lt (j := 0) W hg rfl) ⟨by decide, rfl⟩ (gv_c hG) ?_
    refine rr_icmp_ge (tgt := 29) oX1_cheapestShutters_9 (by decide) (fun c => ?_) (fun c => ?_)
    · (rw [nI_le_iff (by omega) (by omega)] at c; omega)
    refine ri_1 oX1_cheapestShutters_12 ?_
    refine ra_0 oX1_cheapestShutters_13 ?_
    refine ri_2 oX1_cheapestShutters_14 ?_
    refine rr_cVi (c_X1_seersTooMany l W hg hA hr (by omega)) oX1_cheapestShutters_15 (cv_X1_133 rfl) (by decide) (gd_k hg) (by decide) hcn_1 (gd_lt (j := 0) W hg rfl) rfl rfl (Nat.le_of_ble_eq_true rfl) ?_
    refine rr_cSi (c_J6_bitCount_0f7a4 l) oX1_cheapestShutters_18 (cs_X1_116 rfl) (by decide) rfl rfl (Nat.le_of_ble_eq_true rfl) ?_
    rw [bc_st]
    refine rr_iadd oX1_cheapestShutters_21 ?_
    refine si_1 oX1_cheapestShutters_22 rfl rfl ?_
    refine rn_2 oX1_cheapestShutters_23 rfl rfl ?_
    refine rr_goto (tgt := 4) oX1_cheapestShutters_26 (by decide) ?_
    exact ih (t + 1) _ (by omega)
theorem c_X1_cheapestShutters (l : Launch) {I : Nat → Nat → Int32} {L : Nat → Nat → Int64} {Rf : Nat → Nat → Option Nat} {n : Nat} {g : Nat} (W : wd_T Rf n) (hg : gd_T g) {G : gr_T} {dr : Nat → Bool} {sh : Nat → Nat → Bool} (hA : gl_T I g G dr sh) (hr : hr_T G)  : wm_C l mX1_cheapestShutters 6 0 0 [vv_A (some g)] (I, L, Rf, n) (q_i (sm_N (fun j => nI (cn_8 (p_tm G dr sh j))) (g_n G) 0 0) (I, L, Rf, n)) := by
  refine wm_of (by decide) (Nat.le_of_ble_eq_true rfl) rfl ?_
  have hG := hA.1.1
  have h8 := gv_8 hG
  refine rk_0 oX1_cheapestShutters_0 ?_
  refine si_1 oX1_cheapestShutters_1 rfl rfl ?_
  refine rk_0 oX1_cheapestShutters_2 ?_
  refine si_2 oX1_cheapestShutters_3 rfl rfl ?_
  exact lp_X1_cheapestShutters l W hg hA hr (g_n G) 0 0 (Nat.zero_add _)
theorem li_X1_cheapestCost (l : Launch) {I : Nat → Nat → Int32} {L : Nat → Nat → Int64} {Rf : Nat → Nat → Option Nat} {n : Nat} {g : Nat} (W : wd_T Rf n) (hg : gd_T g) {G : gr_T} {dr : Nat → Bool} {sh : Nat → Nat → Bool} (hA : gl_T I g G dr sh) (hr : hr_T G) {j : Nat} (hj : j < g_n G) {Q : Option vv_T → mx_T → Prop} : ∀ m t acc, t + m = g_n G → wm_W l mX1_cheapestCost 6 0 0 55 [vv_A (some g), vv_I (sm_N ((fun j i => if p_tm G dr sh j i = true then s_cost G i j else 0) j) m t acc), vv_I (nI j), vv_I (st_S (p_tm G dr sh j)), vv_I (nI (g_n G))] [] (I, L, Rf, n) Q → wm_W l mX1_cheapestCost 6 0 0 21 [vv_A (some g), vv_I acc, vv_I (nI j), vv_I (st_S (p_tm G dr sh j)), vv_I (nI t)] [] (I, L, Rf, n) Q := by
  intro m
  induction m with
  | zero =>
    intro t acc ht hQ
    have hG := hA.1.1
    have h8 := gv_8 hG
    refine ri_4 oX1_cheapestCost_21 ?_
    refine ra_0 oX1_cheapestCost_23 ?_
    refine rr_giv oX1_cheapestCost_24 (ff_X1_9 rfl) (gd_k hg) (gd_lt (j := 0) W hg rfl) ⟨by decide, rfl⟩ (gv_c hG) ?_
    refine rr_icmp_ge (tgt := 55) oX1_cheapestCost_27 (by decide) (fun c => ?_) (fun c => ?_)
    rotate_left
    · exact absurd c (by rw [nI_le_iff (by omega) (by omega)]; omega)
    rw [show t = g_n G by omega]
    exact hQ
  | succ m ih =>
    intro t acc ht hQ
    have hG := hA.1.1
    have h8 := gv_8 hG
    refine ri_4 oX1_cheapestCost_21 ?_
    refine ra_0 oX1_cheapestCost_23 ?_
    refine rr_giv oX1_cheapestCost_24 (ff_X1_9 rfl) (gd_k hg) (gd_lt (j := 0) W hg rfl) ⟨by decide, rfl⟩ (gv_c hG) ?_
    refine rr_icmp_ge (tgt := 55) oX1_cheapestCost_27 (by decide) (fun c => ?_) (fun c => ?_)
    · (rw [nI_le_iff (by omega) (by omega)] at c; omega)
    refine ri_3 oX1_cheapestCost_30 ?_
    refine ri_4 oX1_cheapestCost_31 ?_
    refine rr_cSNi (c_X4_isIn l) oX1_cheapestCost_33 (cn_X1_113 rfl) (by decide) rfl rfl (Nat.le_of_ble_eq_true rfl) ?_
    refine rr_ifb_eq (tgt := 49) oX1_cheapestCost_36 (by decide) (fun c1 => ?_) (fun c1 => ?_)
    · rw [st_in (by omega)] at c1
      refine rn_4 oX1_cheapestCost_49 rfl rfl ?_
      refine rr_goto (tgt := 21) oX1_cheapestCost_52 (by decide) ?_
      refine ih (t + 1) acc (by omega) ?_
      simp only [sm_N] at hQ
      rw [if_neg c1, Int32.add_zero] at hQ
      exact hQ
    · rw [st_in (by omega)] at c1
      refine ri_1 oX1_cheapestCost_39 ?_
      refine ra_0 oX1_cheapestCost_40 ?_
      refine ri_4 oX1_cheapestCost_41 ?_
      refine ri_2 oX1_cheapestCost_43 ?_
      refine rr_cVi (c_X1_costOf l W hg hG (i := t) (by omega) hj) oX1_cheapestCost_44 (cv_X1_127 rfl) (by decide) (gd_k hg) (by decide) hcn_1 (gd_lt (j := 0) W hg rfl) rfl rfl (Nat.le_of_ble_eq_true rfl) ?_
      refine rr_iadd oX1_cheapestCost_47 ?_
      refine si_1 oX1_cheapestCost_48 rfl rfl ?_
      refine rn_4 oX1_cheapestCost_49 rfl rfl ?_
      refine rr_goto (tgt := 21) oX1_cheapestCost_52 (by decide) ?_
      refine ih (t + 1) _ (by omega) ?_
      simp only [sm_N] at hQ
      rw [if_pos c1] at hQ
      exact hQ
theorem lp_X1_cheapestCost (l : Launch) {I : Nat → Nat → Int32} {L : Nat → Nat → Int64} {Rf : Nat → Nat → Option Nat} {n : Nat} {g : Nat} (W : wd_T Rf n) (hg : gd_T g) {G : gr_T} {dr : Nat → Bool} {sh : Nat → Nat → Bool} (hA : gl_T I g G dr sh) (hr : hr_T G) : ∀ m t acc w3 w4, t + m = g_n G → wm_W l mX1_cheapestCost 6 0 0 4 [vv_A (some g), vv_I acc, vv_I (nI t), w3, w4] [] (I, L, Rf, n) (q_i (s2_N (fun j i => if p_tm G dr sh j i = true then s_cost G i j else 0) (g_n G) m t acc) (I, L, Rf, n)) := by
  intro m
  induction m with
  | zero =>
    intro t acc w3 w4 ht
    have hG := hA.1.1
    have h8 := gv_8 hG
    refine ri_2 oX1_cheapestCost_4 ?_
    refine ra_0 oX1_cheapestCost_5 ?_
    refine rr_giv oX1_cheapestCost_6 (ff_X1_9 rfl) (gd_k hg) (gd_lt (j := 0) W hg rfl) ⟨by decide, rfl⟩ (gv_c hG) ?_
    refine rr_icmp_ge (tgt := 61) oX1_cheapestCost_9 (by decide) (fun c => ?_) (fun c => ?_)
    rotate_left
    · exact absurd c (by rw [nI_le_iff (by omega) (by omega)]; omega)
    refine ri_1 oX1_cheapestCost_61 ?_
    exact rr_ireturn oX1_cheapestCost_62 rfl rfl ⟨rfl, rfl⟩
  | succ m ih =>
    intro t acc w3 w4 ht
    have hG := hA.1.1
    have h8 := gv_8 hG
    refine ri_2 oX1_cheapestCost_4 ?_
    refine ra_0 oX1_cheapestCost_5 ?_
    refine rr_giv oX1_cheapestCost_6 (ff_X1_9 rfl) (gd_k hg) (gd_lt (j := 0) W hg rfl) ⟨by decide, rfl⟩ (gv_c hG) ?_
    refine rr_icmp_ge (tgt := 61) oX1_cheapestCost_9 (by decide) (fun c => ?_) (fun c => ?_)
    · (rw [nI_le_iff (by omega) (by omega)] at c; omega)
    refine ra_0 oX1_cheapestCost_12 ?_
    refine ri_2 oX1_cheapestCost_13 ?_
    refine rr_cVi (c_X1_seersTooMany l W hg hA hr (by omega)) oX1_cheapestCost_14 (cv_X1_133 rfl) (by decide) (gd_k hg) (by decide) hcn_1 (gd_lt (j := 0) W hg rfl) rfl rfl (Nat.le_of_ble_eq_true rfl) ?_
    refine si_3 oX1_cheapestCost_17 rfl rfl ?_
    refine rk_0 oX1_cheapestCost_18 ?_
    refine si_4 oX1_cheapestCost_19 rfl rfl ?_
    refine li_X1_cheapestCost l W hg hA hr (j := t) (by omega) (g_n G) 0 acc (Nat.zero_add _) ?_
    refine rn_2 oX1_cheapestCost_55 rfl rfl ?_
    refine rr_goto (tgt := 4) oX1_cheapestCost_58 (by decide) ?_
    exact ih (t + 1) _ _ _ (by omega)
theorem c_X1_cheapestCost (l : Launch) {I : Nat → Nat → Int32} {L : Nat → Nat → Int64} {Rf : Nat → Nat → Option Nat} {n : Nat} {g : Nat} (W : wd_T Rf n) (hg : gd_T g) {G : gr_T} {dr : Nat → Bool} {sh : Nat → Nat → Bool} (hA : gl_T I g G dr sh) (hr : hr_T G)  : wm_C l mX1_cheapestCost 6 0 0 [vv_A (some g)] (I, L, Rf, n) (q_i (s2_N (fun j i => if p_tm G dr sh j i = true then s_cost G i j else 0) (g_n G) (g_n G) 0 0) (I, L, Rf, n)) := by
  refine wm_of (by decide) (Nat.le_of_ble_eq_true rfl) rfl ?_
  have hG := hA.1.1
  have h8 := gv_8 hG
  refine rk_0 oX1_cheapestCost_0 ?_
  refine si_1 oX1_cheapestCost_1 rfl rfl ?_
  refine rk_0 oX1_cheapestCost_2 ?_
  refine si_2 oX1_cheapestCost_3 rfl rfl ?_
  exact lp_X1_cheapestCost l W hg hA hr (g_n G) 0 0 _ _ (Nat.zero_add _)
