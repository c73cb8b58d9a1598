/-! the model: things, heights, seasons, shutters, curtains, status (by program: wip/whole/c41.py) -/
/-- double sums -/
def sN (g : Nat → Nat) : Nat → Nat
  | 0 => 0
  | a + 1 => sN g a + g a
theorem sN_c {f g : Nat → Nat} : ∀ m, (∀ i, i < m → f i = g i) → sN f m = sN g m := by
  intro m
  induction m with
  | zero => intro _; rfl
  | succ m ih => intro h; simp only [sN]; rw [ih (fun i hi => h i (by omega)), h m (by omega)]
theorem sN_add (f g : Nat → Nat) : ∀ m, sN (fun i => f i + g i) m = sN f m + sN g m := by
  intro m
  induction m with
  | zero => rfl
  | succ m ih => simp only [sN]; rw [ih]; omega
theorem sN_0 : ∀ m, sN (fun _ => 0) m = 0 := by
  intro m
  induction m with
  | zero => rfl
  | succ m ih => simp only [sN]; rw [ih]
theorem sN_swap (g : Nat → Nat → Nat) (b : Nat) : ∀ a, sN (fun i => sN (g i) b) a = sN (fun j => sN (fun i => g i j) a) b := by
  intro a
  induction a with
  | zero => simp only [sN]; rw [sN_0]
  | succ a ih => simp only [sN]; rw [ih, ← sN_add]
theorem sm_sN (f : Nat → Nat) : ∀ m t acc, sm_N (fun i => nI (f i)) m t (acc + nI (sN f t)) = acc + nI (sN f (t + m)) := by
  intro m
  induction m with
  | zero => intro t acc; rfl
  | succ m ih =>
    intro t acc
    unfold sm_N
    rw [Int32.add_assoc, nI_add]
    have := ih (t + 1) acc
    rw [show t + 1 + m = t + (m + 1) by omega] at this
    exact this
theorem sm_s0 (f : Nat → Nat) (m : Nat) : sm_N (fun i => nI (f i)) m 0 0 = nI (sN f m) := by
  have := sm_sN f m 0 0
  rw [Nat.zero_add, show (0 : Int32) + nI (sN f 0) = 0 from rfl, Int32.zero_add] at this
  exact this
theorem cn_sN (p : Nat → Bool) : ∀ m, cn_N p m = sN (fun i => (p i).toNat) m := by
  intro m
  induction m with
  | zero => rfl
  | succ m ih => simp only [sN, ← ih]; rfl
theorem sN_ext {f : Nat → Nat} : ∀ k m, (∀ i, m ≤ i → i < m + k → f i = 0) → sN f (m + k) = sN f m := by
  intro k
  induction k with
  | zero => intro m _; rfl
  | succ k ih => intro m h; rw [show m + (k + 1) = (m + k) + 1 by omega]; simp only [sN]; rw [ih m (fun i h1 h2 => h i h1 (by omega)), h (m + k) (by omega) (by omega), Nat.add_zero]
/-- shutters counted by those who look, or by those looked at -/
theorem sh_dc {sh : Nat → Nat → Bool} {n : Nat} (h8 : n ≤ 8) (h : ∀ j i, sh j i = true → i < n) : sm_N (fun i => nI (cn_8 (fun j => sh j i))) n 0 0 = sm_N (fun j => nI (cn_8 (sh j))) 8 0 0 := by
  rw [sm_s0, sm_s0]
  congr 1
  have e1 : sN (fun i => cn_8 (fun j => sh j i)) n = sN (fun i => sN (fun j => (sh j i).toNat) 8) n := sN_c n (fun i _ => cn_sN _ 8)
  have e2 : sN (fun j => cn_8 (sh j)) 8 = sN (fun j => sN (fun i => (sh j i).toNat) 8) 8 := sN_c 8 (fun j _ => cn_sN _ 8)
  rw [e1, e2, sN_swap]
  refine sN_c 8 (fun j _ => ?_)
  have := sN_ext (f := fun i => (sh j i).toNat) (8 - n) n (fun i h1 _ => by
    cases q : sh j i with
    | false => rfl
    | true => have := h j i q; omega)
  rw [show n + (8 - n) = 8 by omega] at this
  exact this.symm
theorem mg_add {I J : Nat → Nat → Int32} {B : gb_T} {k x y h a : Int32} (hB : mg_T I B) (h7 : g_n (b_G B) < 8) (hd : ∀ t, b_dr B t = true → t < g_n (b_G B)) (hs : ∀ j i, b_sh B j i = true → j < g_n (b_G B) ∧ i < g_n (b_G B)) (h0 : J 46 0 = nI (g_n (b_G B) + 1)) (hf : ∀ f, f ≠ 0 → J 46 f = I 46 f)
    (e : J 48 = upd (I 48) (g_n (b_G B)) k ∧ J 49 = upd (I 49) (g_n (b_G B)) x ∧ J 50 = upd (I 50) (g_n (b_G B)) y ∧ J 51 = upd (I 51) (g_n (b_G B)) h ∧ J 52 = upd (I 52) (g_n (b_G B)) a ∧ J 53 = upd (I 53) (g_n (b_G B)) 0) (h4 : ∀ i, i < 8 → J 54 i = st_S (fun j => b_sh B j i)) : mg_T J (b_wG B (g_add (b_G B) k x y h a)) := by
  obtain ⟨⟨g1, g2, g3, g4, g5⟩, g6, g7, g8, g9⟩ := hB
  obtain ⟨e1, e2, e3, e4, e5, e6⟩ := e
  refine ⟨⟨h7, h0, by rw [hf 1 (by omega)]; exact g3, by rw [hf 2 (by omega)]; exact g4, fun t ht => ?_⟩, fun t ht => ?_, h4, by rw [hf 3 (by omega)]; exact g8, by rw [hf 4 (by omega)]; exact g9⟩
  · rw [e1, e2, e3, e4, e5]
    have ht2 : t < g_n (b_G B) + 1 := ht
    by_cases q : t = g_n (b_G B)
    · subst q
      simp [upd, b_wG, g_add, g_k, g_x, g_y, g_h, g_a]
    · have := g5 t (by omega)
      simpa [upd, b_wG, g_add, g_k, g_x, g_y, g_h, g_a, q] using this
  · rw [e6]
    by_cases q : t = g_n (b_G B)
    · subst q
      have : b_dr B (g_n (b_G B)) = false := by
        cases z : b_dr B (g_n (b_G B)) with
        | false => rfl
        | true => have := hd _ z; omega
      show upd (I 53) _ 0 _ = if b_dr B (g_n (b_G B)) = true then 1 else 0
      rw [this]; simp [upd]
    · simp only [upd, if_neg q]
      exact g6 t ht
theorem lp_X5_adds (l : Launch) {I : Nat → Nat → Int32} {L : Nat → Nat → Int64} {Rf : Nat → Nat → Option Nat} {n : Nat} {B : gb_T} (W : wd_T Rf n) (hB : mg_T I B) (h7 : g_n (b_G B) < 8) (hd : ∀ t, b_dr B t = true → t < g_n (b_G B)) (hs : ∀ j i, b_sh B j i = true → j < g_n (b_G B) ∧ i < g_n (b_G B)) {k x y h a : Int32} {J0 : Nat → Nat → Int32} (e0 : J0 46 0 = nI (g_n (b_G B))) {Q : Option vv_T → mx_T → Prop} (hK : ∀ J : Nat → Nat → Int32, (∀ i, i < 8 → J 54 i = st_S (fun j => b_sh B j i)) → (∀ a, a ≠ 54 → J a = J0 a) → wm_W l mX5_adds 1 0 0 108 [vv_A (some 46), vv_I k, vv_I x, vv_I y, vv_I h, vv_I a, vv_I (nI (g_n (b_G B)))] [] (J, L, Rf, n) Q) : ∀ m (J : Nat → Nat → Int32) t, t + m = g_n (b_G B) → (∀ i, i < 8 → J 54 i = st_S (fun j => b_sh B j i)) → (∀ a, a ≠ 54 → J a = J0 a) → wm_W l mX5_adds 1 0 0 75 [vv_A (some 46), vv_I k, vv_I x, vv_I y, vv_I h, vv_I a, vv_I (nI t)] [] (J, L, Rf, n) Q := by
  intro m
  induction m with
  | zero =>
    intro J t ht h1 h2
    refine ri_6 oX5_adds_75 ?_
    refine ra_0 oX5_adds_77 ?_
    refine rr_giv oX5_adds_78 (ff_X5_84 rfl) kk_46 (wd_lt W rfl) ⟨by decide, rfl⟩ (show _ = nI (g_n (b_G B)) from by rw [h2 46 (by omega)]; exact e0) ?_
    refine rr_icmp_ge (tgt := 108) oX5_adds_81 (by decide) (fun c => ?_) (fun c => ?_)
    rotate_left
    · exact absurd c (by rw [nI_le_iff (by omega) (by omega)]; omega)
    rw [show t = g_n (b_G B) by omega]
    exact hK J h1 h2
  | succ m ih =>
    intro J t ht h1 h2
    refine ri_6 oX5_adds_75 ?_
    refine ra_0 oX5_adds_77 ?_
    refine rr_giv oX5_adds_78 (ff_X5_84 rfl) kk_46 (wd_lt W rfl) ⟨by decide, rfl⟩ (show _ = nI (g_n (b_G B)) from by rw [h2 46 (by omega)]; exact e0) ?_
    refine rr_icmp_ge (tgt := 108) oX5_adds_81 (by decide) (fun c => ?_) (fun c => ?_)
    · (rw [nI_le_iff (by omega) (by omega)] at c; omega)
    refine ra_0 oX5_adds_84 ?_
    refine rr_gr (v := 54) oX5_adds_85 (ff_X5_44 rfl) kk_46 (wd_lt W rfl) ⟨by decide, rfl⟩ (wd_r W rfl rfl) ?_
    refine ri_6 oX5_adds_88 ?_
    refine rr_dup2 oX5_adds_90 rfl rfl ?_
    refine rr_iv oX5_adds_91 kk_54 (wd_lt W rfl) rfl (by omega) (by decide) (h1 t (by omega)) ?_
    refine rk_1 oX5_adds_92 ?_
    refine ra_0 oX5_adds_93 ?_
    refine rr_giv oX5_adds_94 (ff_X5_84 rfl) kk_46 (wd_lt W rfl) ⟨by decide, rfl⟩ (show _ = nI (g_n (b_G B)) from by rw [h2 46 (by omega)]; exact e0) ?_
    refine rr_ishl oX5_adds_97 ?_
    refine rk_m1 oX5_adds_98 ?_
    refine rr_ixor oX5_adds_99 ?_
    refine rr_iand oX5_adds_100 ?_
    rw [st_one (g_n (b_G B)) (by omega), st_not]
    refine rr_ist oX5_adds_101 kk_54 (wd_lt W rfl) rfl (by omega) (by decide) ?_
    refine rn_6 oX5_adds_102 rfl rfl ?_
    refine rr_goto (tgt := 75) oX5_adds_105 (by decide) ?_
    refine ih _ (t + 1) (by omega) (fun i hi => ?_) (fun b hb => by rw [up_I_ne hb]; exact h2 b hb)
    by_cases q : i = t
    · subst q
      rw [up_I_at]
      exact st_c (fun j _ => by
        cases z : b_sh B j i with
        | false => simp
        | true => have := (hs j i z).1; simp; omega)
    · rw [up_I_at_ne q]; exact h1 i hi
theorem c_X5_adds (l : Launch) {I : Nat → Nat → Int32} {L : Nat → Nat → Int64} {Rf : Nat → Nat → Option Nat} {n : Nat} {B : gb_T} (W : wd_T Rf n) (hB : mg_T I B) (h7 : g_n (b_G B) < 8) (hd : ∀ t, b_dr B t = true → t < g_n (b_G B)) (hs : ∀ j i, b_sh B j i = true → j < g_n (b_G B) ∧ i < g_n (b_G B)) {k x y h a : Int32} : wm_C l mX5_adds 1 0 0 [vv_A (some 46), vv_I k, vv_I x, vv_I y, vv_I h, vv_I a] (I, L, Rf, n) (q_n (fun v J => v = nI (g_n (b_G B)) ∧ mg_T J (b_wG B (g_add (b_G B) k x y h a)) ∧ (∀ b, (b < 46 ∨ b = 47 ∨ 54 < b) → J b = I b) ∧ ∀ f, f ≠ 0 → J 46 f = I 46 f) L Rf n) := by
  refine wm_of (by decide) (Nat.le_of_ble_eq_true rfl) rfl ?_
  refine ra_0 oX5_adds_0 ?_
  refine rr_gr (v := 48) oX5_adds_1 (ff_X5_26 rfl) kk_46 (wd_lt W rfl) ⟨by decide, rfl⟩ (wd_r W rfl rfl) ?_
  refine ra_0 oX5_adds_4 ?_
  refine rr_giv oX5_adds_5 (ff_X5_84 rfl) kk_46 (wd_lt W rfl) ⟨by decide, rfl⟩ (show _ = nI (g_n (b_G B)) from by (repeat rw [up_I_ne (by omega)]); exact hB.1.2.1) ?_
  refine ri_1 oX5_adds_8 ?_
  refine rr_ist oX5_adds_9 kk_48 (wd_lt W rfl) rfl (by omega) (by decide) ?_
  refine ra_0 oX5_adds_10 ?_
  refine rr_gr (v := 49) oX5_adds_11 (ff_X5_29 rfl) kk_46 (wd_lt W rfl) ⟨by decide, rfl⟩ (wd_r W rfl rfl) ?_
  refine ra_0 oX5_adds_14 ?_
  refine rr_giv oX5_adds_15 (ff_X5_84 rfl) kk_46 (wd_lt W rfl) ⟨by decide, rfl⟩ (show _ = nI (g_n (b_G B)) from by (repeat rw [up_I_ne (by omega)]); exact hB.1.2.1) ?_
  refine ri_2 oX5_adds_18 ?_
  refine rr_ist oX5_adds_19 kk_49 (wd_lt W rfl) rfl (by omega) (by decide) ?_
  refine ra_0 oX5_adds_20 ?_
  refine rr_gr (v := 50) oX5_adds_21 (ff_X5_32 rfl) kk_46 (wd_lt W rfl) ⟨by decide, rfl⟩ (wd_r W rfl rfl) ?_
  refine ra_0 oX5_adds_24 ?_
  refine rr_giv oX5_adds_25 (ff_X5_84 rfl) kk_46 (wd_lt W rfl) ⟨by decide, rfl⟩ (show _ = nI (g_n (b_G B)) from by (repeat rw [up_I_ne (by omega)]); exact hB.1.2.1) ?_
  refine ri_3 oX5_adds_28 ?_
  refine rr_ist oX5_adds_29 kk_50 (wd_lt W rfl) rfl (by omega) (by decide) ?_
  refine ra_0 oX5_adds_30 ?_
  refine rr_gr (v := 51) oX5_adds_31 (ff_X5_35 rfl) kk_46 (wd_lt W rfl) ⟨by decide, rfl⟩ (wd_r W rfl rfl) ?_
  refine ra_0 oX5_adds_34 ?_
  refine rr_giv oX5_adds_35 (ff_X5_84 rfl) kk_46 (wd_lt W rfl) ⟨by decide, rfl⟩ (show _ = nI (g_n (b_G B)) from by (repeat rw [up_I_ne (by omega)]); exact hB.1.2.1) ?_
  refine ri_4 oX5_adds_38 ?_
  refine rr_ist oX5_adds_40 kk_51 (wd_lt W rfl) rfl (by omega) (by decide) ?_
  refine ra_0 oX5_adds_41 ?_
  refine rr_gr (v := 52) oX5_adds_42 (ff_X5_38 rfl) kk_46 (wd_lt W rfl) ⟨by decide, rfl⟩ (wd_r W rfl rfl) ?_
  refine ra_0 oX5_adds_45 ?_
  refine rr_giv oX5_adds_46 (ff_X5_84 rfl) kk_46 (wd_lt W rfl) ⟨by decide, rfl⟩ (show _ = nI (g_n (b_G B)) from by (repeat rw [up_I_ne (by omega)]); exact hB.1.2.1) ?_
  refine ri_5 oX5_adds_49 ?_
  refine rr_ist oX5_adds_51 kk_52 (wd_lt W rfl) rfl (by omega) (by decide) ?_
  refine ra_0 oX5_adds_52 ?_
  refine rr_gr (v := 53) oX5_adds_53 (ff_X5_41 rfl) kk_46 (wd_lt W rfl) ⟨by decide, rfl⟩ (wd_r W rfl rfl) ?_
  refine ra_0 oX5_adds_56 ?_
  refine rr_giv oX5_adds_57 (ff_X5_84 rfl) kk_46 (wd_lt W rfl) ⟨by decide, rfl⟩ (show _ = nI (g_n (b_G B)) from by (repeat rw [up_I_ne (by omega)]); exact hB.1.2.1) ?_
  refine rk_0 oX5_adds_60 ?_
  refine rr_ist oX5_adds_61 kk_53 (wd_lt W rfl) rfl (by omega) (by decide) ?_
  refine ra_0 oX5_adds_62 ?_
  refine rr_gr (v := 54) oX5_adds_63 (ff_X5_44 rfl) kk_46 (wd_lt W rfl) ⟨by decide, rfl⟩ (wd_r W rfl rfl) ?_
  refine ra_0 oX5_adds_66 ?_
  refine rr_giv oX5_adds_67 (ff_X5_84 rfl) kk_46 (wd_lt W rfl) ⟨by decide, rfl⟩ (show _ = nI (g_n (b_G B)) from by (repeat rw [up_I_ne (by omega)]); exact hB.1.2.1) ?_
  refine rk_0 oX5_adds_70 ?_
  refine rr_ist oX5_adds_71 kk_54 (wd_lt W rfl) rfl (by omega) (by decide) ?_
  refine rk_0 oX5_adds_72 ?_
  refine si_6 oX5_adds_73 rfl rfl ?_
  have e0 : (up_I (up_I (up_I (up_I (up_I (up_I (up_I I 48 (g_n (b_G B)) k) 49 (g_n (b_G B)) x) 50 (g_n (b_G B)) y) 51 (g_n (b_G B)) h) 52 (g_n (b_G B)) a) 53 (g_n (b_G B)) 0) 54 (g_n (b_G B)) 0) 46 0 = nI (g_n (b_G B)) := (show _ = nI (g_n (b_G B)) from by (repeat rw [up_I_ne (by omega)]); exact hB.1.2.1)
  refine lp_X5_adds l W hB h7 hd hs e0 (fun J h1 h2 => ?_) (g_n (b_G B)) _ 0 (Nat.zero_add _) (fun i hi => ?_) (fun _ _ => rfl)
  rotate_left
  · by_cases q : i = g_n (b_G B)
    · subst q
      rw [up_I_at]
      refine (st_e0.mpr (fun j _ => ?_)).symm
      cases z : b_sh B j (g_n (b_G B)) with
      | false => rfl
      | true => have := (hs _ _ z).2; omega
    · rw [up_I_at_ne q, up_I_ne (by omega), up_I_ne (by omega), up_I_ne (by omega), up_I_ne (by omega), up_I_ne (by omega), up_I_ne (by omega)]
      exact hB.2.2.1 i hi
  have e1 : J 46 0 = nI (g_n (b_G B)) := by rw [h2 46 (by omega)]; exact e0
  refine ra_0 oX5_adds_108 ?_
  refine rr_dup oX5_adds_109 rfl ?_
  refine rr_giv oX5_adds_110 (ff_X5_84 rfl) kk_46 (wd_lt W rfl) ⟨by decide, rfl⟩ e1 ?_
  refine rr_dup_x1 oX5_adds_113 rfl rfl ?_
  refine rk_1 oX5_adds_114 ?_
  refine rr_iadd oX5_adds_115 ?_
  rw [← nI_succ]
  refine rr_pi oX5_adds_116 (ff_X5_84 rfl) kk_46 (wd_lt W rfl) ⟨by decide, rfl, by decide⟩ pf_5_0 ⟨rfl, rfl⟩ ?_
  have ne : ∀ b, b ≠ 46 → b ≠ 48 → b ≠ 49 → b ≠ 50 → b ≠ 51 → b ≠ 52 → b ≠ 53 → b ≠ 54 → up_I J 46 0 (nI (g_n (b_G B) + 1)) b = I b := fun b q0 q1 q2 q3 q4 q5 q6 q7 => by rw [up_I_ne q0, h2 b q7, up_I_ne q7, up_I_ne q6, up_I_ne q5, up_I_ne q4, up_I_ne q3, up_I_ne q2, up_I_ne q1]
  exact rr_ireturn oX5_adds_119 rfl rfl (q_n_of ⟨rfl, mg_add hB h7 hd hs up_I_at (fun f hf => by rw [up_I_at_ne hf, h2 46 (by omega)]; (repeat rw [up_I_ne (by omega)])) ⟨by rw [up_I_ne (by omega), h2 48 (by omega)]; (repeat rw [up_I_ne (by omega)]); exact up_I_eq, by rw [up_I_ne (by omega), h2 49 (by omega)]; (repeat rw [up_I_ne (by omega)]); rw [up_I_eq, up_I_ne (by omega)], by rw [up_I_ne (by omega), h2 50 (by omega)]; (repeat rw [up_I_ne (by omega)]); rw [up_I_eq]; (repeat rw [up_I_ne (by omega)]), by rw [up_I_ne (by omega), h2 51 (by omega)]; (repeat rw [up_I_ne (by omega)]); rw [up_I_eq]; (repeat rw [up_I_ne (by omega)]), by rw [up_I_ne (by omega), h2 52 (by omega)]; (repeat rw [up_I_ne (by omega)]); rw [up_I_eq]; (repeat rw [up_I_ne (by omega)]), by rw [up_I_ne (by omega), h2 53 (by omega)]; (repeat rw [up_I_ne (by omega)]); rw [up_I_eq]; (repeat rw [up_I_ne (by omega)])⟩ (fun i hi => by rw [up_I_ne (by omega)]; exact h1 i hi), fun b hb => ne b (by omega) (by omega) (by omega) (by omega) (by omega) (by omega) (by omega) (by omega), fun f hf => by rw [up_I_at_ne hf, h2 46 (by omega)]; (repeat rw [up_I_ne (by omega)])⟩)
