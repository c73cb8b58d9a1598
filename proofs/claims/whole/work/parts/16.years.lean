/-! grounds copied, things added and taken away, years (by program: wip/whole/c16.py) -/
def cf_T (I J : Nat → Nat → Int32) (d s : Nat) : Prop := (∀ k, k < 6 → J d k = I s k) ∧ (∀ j, 1 ≤ j → j ≤ 6 → J (d + j) = I (s + j)) ∧ J (d + 7) = I (d + 7) ∧ ∀ a, (a < d ∨ d + 7 < a) → J a = I a
theorem cf_gs {I J : Nat → Nat → Int32} {d s : Nat} {G : gr_T} {dr : Nat → Bool} {sh : Nat → Nat → Bool} (h : cf_T I J d s) (hs : gs_T I s G dr sh) : gs_T J d G dr sh := by
  obtain ⟨h1, h2, h3, h4⟩ := h
  obtain ⟨⟨g1, g2, g3, g4, g5⟩, g6, g7⟩ := hs
  refine ⟨⟨g1, by rw [h1 0 (by omega)]; exact g2, by rw [h1 1 (by omega)]; exact g3, by rw [h1 2 (by omega)]; exact g4, fun t ht => ?_⟩, by rw [h1 3 (by omega)]; exact g6, fun j hj => by rw [h2 6 (by omega) (by omega)]; exact g7 j hj⟩
  rw [h2 1 (by omega) (by omega), h2 2 (by omega) (by omega), h2 3 (by omega) (by omega), h2 4 (by omega) (by omega), h2 5 (by omega) (by omega)]
  exact g5 t ht
theorem gd_ap {d s : Nat} (hd : gd_T d) (hs : gd_T s) (hne : d ≠ s) : d + 7 < s ∨ s + 7 < d := by
  rcases hd with rfl | rfl | rfl <;> rcases hs with rfl | rfl | rfl <;> omega
theorem up_I_at {I : Nat → Nat → Int32} {a k : Nat} {v : Int32} : up_I I a k v a k = v := by rw [up_I_eq]; exact if_pos rfl
theorem up_I_at_ne {I : Nat → Nat → Int32} {a k j : Nat} {v : Int32} (h : j ≠ k) : up_I I a k v a j = I a j := by rw [up_I_eq]; exact if_neg h
def ad_T (I J : Nat → Nat → Int32) (g m : Nat) (k x y h a : Int32) : Prop := J g 0 = nI (m + 1) ∧ (∀ q, q ≠ 0 → J g q = I g q) ∧ (J (g + 1) = upd (I (g + 1)) m k ∧ J (g + 2) = upd (I (g + 2)) m x ∧ J (g + 3) = upd (I (g + 3)) m y ∧ J (g + 4) = upd (I (g + 4)) m h ∧ J (g + 5) = upd (I (g + 5)) m a) ∧ ∀ b, (b < g ∨ g + 5 < b) → J b = I b
def g_add (G : gr_T) (k x y h a : Int32) : gr_T := (g_n G + 1, upd (g_k G) (g_n G) k, upd (g_x G) (g_n G) x, upd (g_y G) (g_n G) y, upd (g_h G) (g_n G) h, upd (g_a G) (g_n G) a, g_s G, g_f G)
def g_wh (G : gr_T) (hs : Nat → Int32) : gr_T := (g_n G, g_k G, g_x G, g_y G, hs, g_a G, g_s G, g_f G)
def g_ws (G : gr_T) (su : Int32) : gr_T := (g_n G, g_k G, g_x G, g_y G, g_h G, g_a G, su, g_f G)
theorem ad_gs {I J : Nat → Nat → Int32} {g : Nat} {G : gr_T} {dr : Nat → Bool} {sh : Nat → Nat → Bool} {k x y h a : Int32} (h8 : g_n G < 8) (H : ad_T I J g (g_n G) k x y h a) (hs : gs_T I g G dr sh) : gs_T J g (g_add G k x y h a) dr sh := by
  obtain ⟨h1, h2, ⟨h3, h4, h5, h6, h7⟩, h9⟩ := H
  obtain ⟨⟨g1, g2, g3, g4, g5⟩, g6, g7⟩ := hs
  refine ⟨⟨h8, h1, by rw [h2 1 (by omega)]; exact g3, by rw [h2 2 (by omega)]; exact g4, fun t ht => ?_⟩, by rw [h2 3 (by omega)]; exact g6, fun j hj => by rw [h9 (g + 6) (by omega)]; exact g7 j hj⟩
  rw [h3, h4, h5, h6, h7]
  have ht2 : t < g_n G + 1 := ht
  by_cases q : t = g_n G
  · subst q
    simp [upd, g_add, g_k, g_x, g_y, g_h, g_a]
  · have := g5 t (by omega)
    simpa [upd, g_add, g_k, g_x, g_y, g_h, g_a, q] using this
/-- the draws -/
def s_sd (s : Int32) : Int32 := s * 1103515245 + 12345
def s_u16 (s : Int32) : Int32 := (s.toUInt32 >>> ((16 : Int32).toUInt32 &&& Int32.toUInt32 31)).toInt32
def s_gr (s : Int32) : Int32 := s_u16 s - s_u16 s / 3 * 3
def yr_N (kd : Nat → Int32) : Nat → Nat → (Nat → Int32) → Int32 → (Nat → Int32) × Int32
  | 0, _, hs, sd => (hs, sd)
  | m + 1, t, hs, sd => if is_Tr (kd t) then yr_N kd m (t + 1) (upd hs t (s_min 20 (hs t + s_gr (s_sd sd)))) (s_sd sd) else yr_N kd m (t + 1) hs sd

theorem cf_of {I : Nat → Nat → Int32} {d s : Nat} (hd : gd_T d) (hs : gd_T s) (hne : d ≠ s) : cf_T I (cp_I (cp_I (cp_I (cp_I (cp_I (cp_I (up_I (up_I (up_I (up_I (up_I (up_I I d 0 (I s 0)) d 1 (I s 1)) d 2 (I s 2)) d 3 (I s 3)) d 4 (I s 4)) d 5 (I s 5)) (d + 1) (s + 1)) (d + 2) (s + 2)) (d + 3) (s + 3)) (d + 4) (s + 4)) (d + 5) (s + 5)) (d + 6) (s + 6)) d s := by
  have hap := gd_ap hd hs hne
  refine ⟨fun k hk => ?_, fun j h1 h2 => ?_, ?_, fun a ha => ?_⟩
  · rw [cp_I_ne (by omega), cp_I_ne (by omega), cp_I_ne (by omega), cp_I_ne (by omega), cp_I_ne (by omega), cp_I_ne (by omega)]
    rcases (show k = 0 ∨ k = 1 ∨ k = 2 ∨ k = 3 ∨ k = 4 ∨ k = 5 by omega) with rfl | rfl | rfl | rfl | rfl | rfl
    · rw [up_I_at_ne (by omega), up_I_at_ne (by omega), up_I_at_ne (by omega), up_I_at_ne (by omega), up_I_at_ne (by omega), up_I_at]
    · rw [up_I_at_ne (by omega), up_I_at_ne (by omega), up_I_at_ne (by omega), up_I_at_ne (by omega), up_I_at]
    · rw [up_I_at_ne (by omega), up_I_at_ne (by omega), up_I_at_ne (by omega), up_I_at]
    · rw [up_I_at_ne (by omega), up_I_at_ne (by omega), up_I_at]
    · rw [up_I_at_ne (by omega), up_I_at]
    · rw [up_I_at]
  · have base : ∀ q, q ≠ d → up_I (up_I (up_I (up_I (up_I (up_I I d 0 (I s 0)) d 1 (I s 1)) d 2 (I s 2)) d 3 (I s 3)) d 4 (I s 4)) d 5 (I s 5) q = I q := by
      intro q hq
      rw [up_I_ne hq, up_I_ne hq, up_I_ne hq, up_I_ne hq, up_I_ne hq, up_I_ne hq]
    rcases (show j = 1 ∨ j = 2 ∨ j = 3 ∨ j = 4 ∨ j = 5 ∨ j = 6 by omega) with rfl | rfl | rfl | rfl | rfl | rfl
    · rw [cp_I_ne (by omega), cp_I_ne (by omega), cp_I_ne (by omega), cp_I_ne (by omega), cp_I_ne (by omega), cp_I_eq, base _ (by omega)]
    · rw [cp_I_ne (by omega), cp_I_ne (by omega), cp_I_ne (by omega), cp_I_ne (by omega), cp_I_eq, cp_I_ne (by omega), base _ (by omega)]
    · rw [cp_I_ne (by omega), cp_I_ne (by omega), cp_I_ne (by omega), cp_I_eq, cp_I_ne (by omega), cp_I_ne (by omega), base _ (by omega)]
    · rw [cp_I_ne (by omega), cp_I_ne (by omega), cp_I_eq, cp_I_ne (by omega), cp_I_ne (by omega), cp_I_ne (by omega), base _ (by omega)]
    · rw [cp_I_ne (by omega), cp_I_eq, cp_I_ne (by omega), cp_I_ne (by omega), cp_I_ne (by omega), cp_I_ne (by omega), base _ (by omega)]
    · rw [cp_I_eq, cp_I_ne (by omega), cp_I_ne (by omega), cp_I_ne (by omega), cp_I_ne (by omega), cp_I_ne (by omega), base _ (by omega)]
  · rw [cp_I_ne (by omega), cp_I_ne (by omega), cp_I_ne (by omega), cp_I_ne (by omega), cp_I_ne (by omega), cp_I_ne (by omega), up_I_ne (by omega), up_I_ne (by omega), up_I_ne (by omega), up_I_ne (by omega), up_I_ne (by omega), up_I_ne (by omega)]
  · rw [cp_I_ne (by omega), cp_I_ne (by omega), cp_I_ne (by omega), cp_I_ne (by omega), cp_I_ne (by omega), cp_I_ne (by omega), up_I_ne (by omega), up_I_ne (by omega), up_I_ne (by omega), up_I_ne (by omega), up_I_ne (by omega), up_I_ne (by omega)]
theorem c_X1_copyFrom (l : Launch) {I : Nat → Nat → Int32} {L : Nat → Nat → Int64} {Rf : Nat → Nat → Option Nat} {n : Nat} {d : Nat} (W : wd_T Rf n) (hg : gd_T d) {s : Nat} (hs : gd_T s) (hne : d ≠ s) : wm_C l mX1_copyFrom 2 0 0 [vv_A (some d), vv_A (some s)] (I, L, Rf, n) (q_m (fun J => cf_T I J d s) L Rf n) := by
  refine wm_of (by decide) (Nat.le_of_ble_eq_true rfl) rfl ?_
  refine ra_0 oX1_copyFrom_0 ?_
  refine ra_1 oX1_copyFrom_1 ?_
  refine rr_giv oX1_copyFrom_2 (ff_X1_9 rfl) (gd_k hs) (gd_lt (j := 0) W hs rfl) ⟨by decide, rfl⟩ rfl ?_
  refine rr_pi oX1_copyFrom_5 (ff_X1_9 rfl) (gd_k hg) (gd_lt (j := 0) W hg rfl) ⟨by decide, rfl, by decide⟩ pf_1_0 ⟨rfl, rfl⟩ ?_
  refine ra_0 oX1_copyFrom_8 ?_
  refine ra_1 oX1_copyFrom_9 ?_
  refine rr_giv oX1_copyFrom_10 (ff_X1_15 rfl) (gd_k hs) (gd_lt (j := 0) W hs rfl) ⟨by decide, rfl⟩ (show _ = I s 1 from by simp only [up_I_ne (Ne.symm hne)]) ?_
  refine rr_pi oX1_copyFrom_13 (ff_X1_15 rfl) (gd_k hg) (gd_lt (j := 0) W hg rfl) ⟨by decide, rfl, by decide⟩ pf_1_1 ⟨rfl, rfl⟩ ?_
  refine ra_0 oX1_copyFrom_16 ?_
  refine ra_1 oX1_copyFrom_17 ?_
  refine rr_giv oX1_copyFrom_18 (ff_X1_18 rfl) (gd_k hs) (gd_lt (j := 0) W hs rfl) ⟨by decide, rfl⟩ (show _ = I s 2 from by simp only [up_I_ne (Ne.symm hne)]) ?_
  refine rr_pi oX1_copyFrom_21 (ff_X1_18 rfl) (gd_k hg) (gd_lt (j := 0) W hg rfl) ⟨by decide, rfl, by decide⟩ pf_1_2 ⟨rfl, rfl⟩ ?_
  refine ra_0 oX1_copyFrom_24 ?_
  refine ra_1 oX1_copyFrom_25 ?_
  refine rr_giv oX1_copyFrom_26 (ff_X1_21 rfl) (gd_k hs) (gd_lt (j := 0) W hs rfl) ⟨by decide, rfl⟩ (show _ = I s 3 from by simp only [up_I_ne (Ne.symm hne)]) ?_
  refine rr_pi oX1_copyFrom_29 (ff_X1_21 rfl) (gd_k hg) (gd_lt (j := 0) W hg rfl) ⟨by decide, rfl, by decide⟩ pf_1_3 ⟨rfl, rfl⟩ ?_
  refine ra_0 oX1_copyFrom_32 ?_
  refine ra_1 oX1_copyFrom_33 ?_
  refine rr_giv oX1_copyFrom_34 (ff_X1_24 rfl) (gd_k hs) (gd_lt (j := 0) W hs rfl) ⟨by decide, rfl⟩ (show _ = I s 4 from by simp only [up_I_ne (Ne.symm hne)]) ?_
  refine rr_pi oX1_copyFrom_37 (ff_X1_24 rfl) (gd_k hg) (gd_lt (j := 0) W hg rfl) ⟨by decide, rfl, by decide⟩ pf_1_4 ⟨rfl, rfl⟩ ?_
  refine ra_0 oX1_copyFrom_40 ?_
  refine ra_1 oX1_copyFrom_41 ?_
  refine rr_giv oX1_copyFrom_42 (ff_X1_27 rfl) (gd_k hs) (gd_lt (j := 0) W hs rfl) ⟨by decide, rfl⟩ (show _ = I s 5 from by simp only [up_I_ne (Ne.symm hne)]) ?_
  refine rr_pi oX1_copyFrom_45 (ff_X1_27 rfl) (gd_k hg) (gd_lt (j := 0) W hg rfl) ⟨by decide, rfl, by decide⟩ pf_1_5 ⟨rfl, rfl⟩ ?_
  refine ra_1 oX1_copyFrom_48 ?_
  refine rr_gr oX1_copyFrom_49 (ff_X1_30 rfl) (gd_k hs) (gd_lt (j := 0) W hs rfl) ⟨by decide, rfl⟩ (gd_r W hs 6 1 rfl) ?_
  refine rk_0 oX1_copyFrom_52 ?_
  refine ra_0 oX1_copyFrom_53 ?_
  refine rr_gr oX1_copyFrom_54 (ff_X1_30 rfl) (gd_k hg) (gd_lt (j := 0) W hg rfl) ⟨by decide, rfl⟩ (gd_r W hg 6 1 rfl) ?_
  refine rk_0 oX1_copyFrom_57 ?_
  refine rr_bipush (v := 8) oX1_copyFrom_58 (by decide) ?_
  refine rr_copyI oX1_copyFrom_60 gw_copy_X1_52 (gd_a hg 1 rfl) (gd_a hs 1 rfl) (gd_lt (j := 1) W hg rfl) (gd_lt (j := 1) W hs rfl) rfl rfl rfl (by decide) (by decide) (by decide) ?_
  refine ra_1 oX1_copyFrom_63 ?_
  refine rr_gr oX1_copyFrom_64 (ff_X1_34 rfl) (gd_k hs) (gd_lt (j := 0) W hs rfl) ⟨by decide, rfl⟩ (gd_r W hs 7 2 rfl) ?_
  refine rk_0 oX1_copyFrom_67 ?_
  refine ra_0 oX1_copyFrom_68 ?_
  refine rr_gr oX1_copyFrom_69 (ff_X1_34 rfl) (gd_k hg) (gd_lt (j := 0) W hg rfl) ⟨by decide, rfl⟩ (gd_r W hg 7 2 rfl) ?_
  refine rk_0 oX1_copyFrom_72 ?_
  refine rr_bipush (v := 8) oX1_copyFrom_73 (by decide) ?_
  refine rr_copyI oX1_copyFrom_75 gw_copy_X1_52 (gd_a hg 2 rfl) (gd_a hs 2 rfl) (gd_lt (j := 2) W hg rfl) (gd_lt (j := 2) W hs rfl) rfl rfl rfl (by decide) (by decide) (by decide) ?_
  refine ra_1 oX1_copyFrom_78 ?_
  refine rr_gr oX1_copyFrom_79 (ff_X1_37 rfl) (gd_k hs) (gd_lt (j := 0) W hs rfl) ⟨by decide, rfl⟩ (gd_r W hs 8 3 rfl) ?_
  refine rk_0 oX1_copyFrom_82 ?_
  refine ra_0 oX1_copyFrom_83 ?_
  refine rr_gr oX1_copyFrom_84 (ff_X1_37 rfl) (gd_k hg) (gd_lt (j := 0) W hg rfl) ⟨by decide, rfl⟩ (gd_r W hg 8 3 rfl) ?_
  refine rk_0 oX1_copyFrom_87 ?_
  refine rr_bipush (v := 8) oX1_copyFrom_88 (by decide) ?_
  refine rr_copyI oX1_copyFrom_90 gw_copy_X1_52 (gd_a hg 3 rfl) (gd_a hs 3 rfl) (gd_lt (j := 3) W hg rfl) (gd_lt (j := 3) W hs rfl) rfl rfl rfl (by decide) (by decide) (by decide) ?_
  refine ra_1 oX1_copyFrom_93 ?_
  refine rr_gr oX1_copyFrom_94 (ff_X1_40 rfl) (gd_k hs) (gd_lt (j := 0) W hs rfl) ⟨by decide, rfl⟩ (gd_r W hs 9 4 rfl) ?_
  refine rk_0 oX1_copyFrom_97 ?_
  refine ra_0 oX1_copyFrom_98 ?_
  refine rr_gr oX1_copyFrom_99 (ff_X1_40 rfl) (gd_k hg) (gd_lt (j := 0) W hg rfl) ⟨by decide, rfl⟩ (gd_r W hg 9 4 rfl) ?_
  refine rk_0 oX1_copyFrom_102 ?_
  refine rr_bipush (v := 8) oX1_copyFrom_103 (by decide) ?_
  refine rr_copyI oX1_copyFrom_105 gw_copy_X1_52 (gd_a hg 4 rfl) (gd_a hs 4 rfl) (gd_lt (j := 4) W hg rfl) (gd_lt (j := 4) W hs rfl) rfl rfl rfl (by decide) (by decide) (by decide) ?_
  refine ra_1 oX1_copyFrom_108 ?_
  refine rr_gr oX1_copyFrom_109 (ff_X1_43 rfl) (gd_k hs) (gd_lt (j := 0) W hs rfl) ⟨by decide, rfl⟩ (gd_r W hs 10 5 rfl) ?_
  refine rk_0 oX1_copyFrom_112 ?_
  refine ra_0 oX1_copyFrom_113 ?_
  refine rr_gr oX1_copyFrom_114 (ff_X1_43 rfl) (gd_k hg) (gd_lt (j := 0) W hg rfl) ⟨by decide, rfl⟩ (gd_r W hg 10 5 rfl) ?_
  refine rk_0 oX1_copyFrom_117 ?_
  refine rr_bipush (v := 8) oX1_copyFrom_118 (by decide) ?_
  refine rr_copyI oX1_copyFrom_120 gw_copy_X1_52 (gd_a hg 5 rfl) (gd_a hs 5 rfl) (gd_lt (j := 5) W hg rfl) (gd_lt (j := 5) W hs rfl) rfl rfl rfl (by decide) (by decide) (by decide) ?_
  refine ra_1 oX1_copyFrom_123 ?_
  refine rr_gr oX1_copyFrom_124 (ff_X1_46 rfl) (gd_k hs) (gd_lt (j := 0) W hs rfl) ⟨by decide, rfl⟩ (gd_r W hs 11 6 rfl) ?_
  refine rk_0 oX1_copyFrom_127 ?_
  refine ra_0 oX1_copyFrom_128 ?_
  refine rr_gr oX1_copyFrom_129 (ff_X1_46 rfl) (gd_k hg) (gd_lt (j := 0) W hg rfl) ⟨by decide, rfl⟩ (gd_r W hg 11 6 rfl) ?_
  refine rk_0 oX1_copyFrom_132 ?_
  refine rr_bipush (v := 8) oX1_copyFrom_133 (by decide) ?_
  refine rr_copyI oX1_copyFrom_135 gw_copy_X1_52 (gd_a hg 6 rfl) (gd_a hs 6 rfl) (gd_lt (j := 6) W hg rfl) (gd_lt (j := 6) W hs rfl) rfl rfl rfl (by decide) (by decide) (by decide) ?_
  exact rr_return oX1_copyFrom_138 rfl (q_m_of (cf_of hg hs hne))
theorem ad_of {I : Nat → Nat → Int32} {g m : Nat} {k x y h a : Int32} : ad_T I (up_I (up_I (up_I (up_I (up_I (up_I I (g + 1) m k) (g + 2) m x) (g + 3) m y) (g + 4) m h) (g + 5) m a) g 0 (nI (m + 1))) g m k x y h a := by
  refine ⟨up_I_at, fun q hq => ?_, ⟨?_, ?_, ?_, ?_, ?_⟩, fun b hb => ?_⟩
  · rw [up_I_at_ne hq, up_I_ne (by omega), up_I_ne (by omega), up_I_ne (by omega), up_I_ne (by omega), up_I_ne (by omega)]
  · rw [up_I_ne (by omega), up_I_ne (by omega), up_I_ne (by omega), up_I_ne (by omega), up_I_ne (by omega), up_I_eq]
  · rw [up_I_ne (by omega), up_I_ne (by omega), up_I_ne (by omega), up_I_ne (by omega), up_I_eq, up_I_ne (by omega)]
  · rw [up_I_ne (by omega), up_I_ne (by omega), up_I_ne (by omega), up_I_eq, up_I_ne (by omega), up_I_ne (by omega)]
  · rw [up_I_ne (by omega), up_I_ne (by omega), up_I_eq, up_I_ne (by omega), up_I_ne (by omega), up_I_ne (by omega)]
  · rw [up_I_ne (by omega), up_I_eq, up_I_ne (by omega), up_I_ne (by omega), up_I_ne (by omega), up_I_ne (by omega)]
  · rw [up_I_ne (by omega), up_I_ne (by omega), up_I_ne (by omega), up_I_ne (by omega), up_I_ne (by omega), up_I_ne (by omega)]
theorem up5_0 {I : Nat → Nat → Int32} {g m : Nat} {k x y h a : Int32} {v : Int32} (hc : I g 0 = v) : up_I (up_I (up_I (up_I (up_I I (g + 1) m k) (g + 2) m x) (g + 3) m y) (g + 4) m h) (g + 5) m a g 0 = v := by
  rw [up_I_ne (by omega), up_I_ne (by omega), up_I_ne (by omega), up_I_ne (by omega), up_I_ne (by omega)]; exact hc
theorem c_X1_add (l : Launch) {I : Nat → Nat → Int32} {L : Nat → Nat → Int64} {Rf : Nat → Nat → Option Nat} {n : Nat} {g : Nat} (W : wd_T Rf n) (hg : gd_T g) {m : Nat} {k x y h a : Int32} (hm : m < 8) (hc : I g 0 = nI m) : wm_C l mX1_add 1 0 0 [vv_A (some g), vv_I k, vv_I x, vv_I y, vv_I h, vv_I a] (I, L, Rf, n) (q_n (fun v J => v = nI m ∧ ad_T I J g m k x y h a) L Rf n) := by
  refine wm_of (by decide) (Nat.le_of_ble_eq_true rfl) rfl ?_
  refine ra_0 oX1_add_0 ?_
  refine rr_gr oX1_add_1 (ff_X1_30 rfl) (gd_k hg) (gd_lt (j := 0) W hg rfl) ⟨by decide, rfl⟩ (gd_r W hg 6 1 rfl) ?_
  refine ra_0 oX1_add_4 ?_
  refine rr_giv oX1_add_5 (ff_X1_9 rfl) (gd_k hg) (gd_lt (j := 0) W hg rfl) ⟨by decide, rfl⟩ (show _ = nI m from by exact hc) ?_
  refine ri_1 oX1_add_8 ?_
  refine rr_ist oX1_add_9 (gd_a hg 1 rfl) (gd_lt (j := 1) W hg rfl) rfl (by omega) (by decide) ?_
  refine ra_0 oX1_add_10 ?_
  refine rr_gr oX1_add_11 (ff_X1_34 rfl) (gd_k hg) (gd_lt (j := 0) W hg rfl) ⟨by decide, rfl⟩ (gd_r W hg 7 2 rfl) ?_
  refine ra_0 oX1_add_14 ?_
  refine rr_giv oX1_add_15 (ff_X1_9 rfl) (gd_k hg) (gd_lt (j := 0) W hg rfl) ⟨by decide, rfl⟩ (show _ = nI m from by rw [up_I_ne (by omega)]; exact hc) ?_
  refine ri_2 oX1_add_18 ?_
  refine rr_ist oX1_add_19 (gd_a hg 2 rfl) (gd_lt (j := 2) W hg rfl) rfl (by omega) (by decide) ?_
  refine ra_0 oX1_add_20 ?_
  refine rr_gr oX1_add_21 (ff_X1_37 rfl) (gd_k hg) (gd_lt (j := 0) W hg rfl) ⟨by decide, rfl⟩ (gd_r W hg 8 3 rfl) ?_
  refine ra_0 oX1_add_24 ?_
  refine rr_giv oX1_add_25 (ff_X1_9 rfl) (gd_k hg) (gd_lt (j := 0) W hg rfl) ⟨by decide, rfl⟩ (show _ = nI m from by rw [up_I_ne (by omega), up_I_ne (by omega)]; exact hc) ?_
  refine ri_3 oX1_add_28 ?_
  refine rr_ist oX1_add_29 (gd_a hg 3 rfl) (gd_lt (j := 3) W hg rfl) rfl (by omega) (by decide) ?_
  refine ra_0 oX1_add_30 ?_
  refine rr_gr oX1_add_31 (ff_X1_40 rfl) (gd_k hg) (gd_lt (j := 0) W hg rfl) ⟨by decide, rfl⟩ (gd_r W hg 9 4 rfl) ?_
  refine ra_0 oX1_add_34 ?_
  refine rr_giv oX1_add_35 (ff_X1_9 rfl) (gd_k hg) (gd_lt (j := 0) W hg rfl) ⟨by decide, rfl⟩ (show _ = nI m from by rw [up_I_ne (by omega), up_I_ne (by omega), up_I_ne (by omega)]; exact hc) ?_
  refine ri_4 oX1_add_38 ?_
  refine rr_ist oX1_add_40 (gd_a hg 4 rfl) (gd_lt (j := 4) W hg rfl) rfl (by omega) (by decide) ?_
  refine ra_0 oX1_add_41 ?_
  refine rr_gr oX1_add_42 (ff_X1_43 rfl) (gd_k hg) (gd_lt (j := 0) W hg rfl) ⟨by decide, rfl⟩ (gd_r W hg 10 5 rfl) ?_
  refine ra_0 oX1_add_45 ?_
  refine rr_giv oX1_add_46 (ff_X1_9 rfl) (gd_k hg) (gd_lt (j := 0) W hg rfl) ⟨by decide, rfl⟩ (show _ = nI m from by rw [up_I_ne (by omega), up_I_ne (by omega), up_I_ne (by omega), up_I_ne (by omega)]; exact hc) ?_
  refine ri_5 oX1_add_49 ?_
  refine rr_ist oX1_add_51 (gd_a hg 5 rfl) (gd_lt (j := 5) W hg rfl) rfl (by omega) (by decide) ?_
  refine ra_0 oX1_add_52 ?_
  refine rr_dup oX1_add_53 rfl ?_
  refine rr_giv oX1_add_54 (ff_X1_9 rfl) (gd_k hg) (gd_lt (j := 0) W hg rfl) ⟨by decide, rfl⟩ (up5_0 hc) ?_
  refine rk_1 oX1_add_57 ?_
  refine rr_iadd oX1_add_58 ?_
  rw [nI_1]
  refine rr_pi oX1_add_59 (ff_X1_9 rfl) (gd_k hg) (gd_lt (j := 0) W hg rfl) ⟨by decide, rfl, by decide⟩ pf_1_0 ⟨rfl, rfl⟩ ?_
  refine ra_0 oX1_add_62 ?_
  refine rr_giv oX1_add_63 (ff_X1_9 rfl) (gd_k hg) (gd_lt (j := 0) W hg rfl) ⟨by decide, rfl⟩ up_I_at ?_
  refine rk_1 oX1_add_66 ?_
  refine rr_isub oX1_add_67 ?_
  exact rr_ireturn oX1_add_68 rfl rfl ⟨nI m, by rw [← nI_pred m], _, rfl, rfl, ad_of⟩
theorem c_X1_dropLatest (l : Launch) {I : Nat → Nat → Int32} {L : Nat → Nat → Int64} {Rf : Nat → Nat → Option Nat} {n : Nat} {g : Nat} (W : wd_T Rf n) (hg : gd_T g) {m : Nat} (hm : m < 8) (hc : I g 0 = nI (m + 1)) : wm_C l mX1_dropLatest 1 0 0 [vv_A (some g)] (I, L, Rf, n) (q_v (up_I I g 0 (nI m), L, Rf, n)) := by
  refine wm_of (by decide) (Nat.le_of_ble_eq_true rfl) rfl ?_
  refine ra_0 oX1_dropLatest_0 ?_
  refine rr_giv oX1_dropLatest_1 (ff_X1_9 rfl) (gd_k hg) (gd_lt (j := 0) W hg rfl) ⟨by decide, rfl⟩ hc ?_
  refine rr_if_le (tgt := 17) oX1_dropLatest_4 (by decide) (fun c => ?_) (fun c => ?_)
  · (rw [show (0 : Int32) = nI 0 from rfl, nI_le_iff (by omega) (by omega)] at c; omega)
  refine ra_0 oX1_dropLatest_7 ?_
  refine rr_dup oX1_dropLatest_8 rfl ?_
  refine rr_giv oX1_dropLatest_9 (ff_X1_9 rfl) (gd_k hg) (gd_lt (j := 0) W hg rfl) ⟨by decide, rfl⟩ hc ?_
  refine rk_1 oX1_dropLatest_12 ?_
  refine rr_isub oX1_dropLatest_13 ?_
  rw [nI_pred]
  refine rr_pi oX1_dropLatest_14 (ff_X1_9 rfl) (gd_k hg) (gd_lt (j := 0) W hg rfl) ⟨by decide, rfl, by decide⟩ pf_1_0 ⟨rfl, rfl⟩ ?_
  exact rr_return oX1_dropLatest_17 rfl ⟨rfl, rfl⟩
theorem c_X1_takeAway (l : Launch) {I : Nat → Nat → Int32} {L : Nat → Nat → Int64} {Rf : Nat → Nat → Option Nat} {n : Nat} {g : Nat} (W : wd_T Rf n) (hg : gd_T g) {t : Nat} (ht : t < 8) : wm_C l mX1_takeAway 1 0 0 [vv_A (some g), vv_I (nI t)] (I, L, Rf, n) (q_v (up_I (up_I I (g + 2) t (-1)) (g + 3) t (-1), L, Rf, n)) := by
  refine wm_of (by decide) (Nat.le_of_ble_eq_true rfl) rfl ?_
  refine ra_0 oX1_takeAway_0 ?_
  refine rr_gr oX1_takeAway_1 (ff_X1_34 rfl) (gd_k hg) (gd_lt (j := 0) W hg rfl) ⟨by decide, rfl⟩ (gd_r W hg 7 2 rfl) ?_
  refine ri_1 oX1_takeAway_4 ?_
  refine rk_m1 oX1_takeAway_5 ?_
  refine rr_ist oX1_takeAway_6 (gd_a hg 2 rfl) (gd_lt (j := 2) W hg rfl) rfl (by omega) (by decide) ?_
  refine ra_0 oX1_takeAway_7 ?_
  refine rr_gr oX1_takeAway_8 (ff_X1_37 rfl) (gd_k hg) (gd_lt (j := 0) W hg rfl) ⟨by decide, rfl⟩ (gd_r W hg 8 3 rfl) ?_
  refine ri_1 oX1_takeAway_11 ?_
  refine rk_m1 oX1_takeAway_12 ?_
  refine rr_ist oX1_takeAway_13 (gd_a hg 3 rfl) (gd_lt (j := 3) W hg rfl) rfl (by omega) (by decide) ?_
  exact rr_return oX1_takeAway_14 rfl ⟨rfl, rfl⟩
theorem c_X1_drawGrowth (l : Launch) {I : Nat → Nat → Int32} {L : Nat → Nat → Int64} {Rf : Nat → Nat → Option Nat} {n : Nat} {g : Nat} (W : wd_T Rf n) (hg : gd_T g) {sd : Int32} (hsd : I g 5 = sd) : wm_C l mX1_drawGrowth 1 0 0 [vv_A (some g)] (I, L, Rf, n) (q_i (s_gr (s_sd sd)) (up_I I g 5 (s_sd sd), L, Rf, n)) := by
  refine wm_of (by decide) (Nat.le_of_ble_eq_true rfl) rfl ?_
  refine ra_0 oX1_drawGrowth_0 ?_
  refine ra_0 oX1_drawGrowth_1 ?_
  refine rr_giv oX1_drawGrowth_2 (ff_X1_27 rfl) (gd_k hg) (gd_lt (j := 0) W hg rfl) ⟨by decide, rfl⟩ hsd ?_
  refine rr_ldc (v := 1103515245) oX1_drawGrowth_5 (gw_in (i := 808) (by decide +kernel) (by decide +kernel)) ?_
  refine rr_imul oX1_drawGrowth_7 ?_
  refine rr_sipush (v := 12345) oX1_drawGrowth_8 (by decide) ?_
  refine rr_iadd oX1_drawGrowth_11 ?_
  refine rr_pi oX1_drawGrowth_12 (ff_X1_27 rfl) (gd_k hg) (gd_lt (j := 0) W hg rfl) ⟨by decide, rfl, by decide⟩ pf_1_5 ⟨rfl, rfl⟩ ?_
  refine ra_0 oX1_drawGrowth_15 ?_
  refine rr_giv oX1_drawGrowth_16 (ff_X1_27 rfl) (gd_k hg) (gd_lt (j := 0) W hg rfl) ⟨by decide, rfl⟩ (show _ = s_sd sd from up_I_at) ?_
  refine rr_bipush (v := 16) oX1_drawGrowth_19 (by decide) ?_
  refine rr_iushr oX1_drawGrowth_21 ?_
  refine rk_3 oX1_drawGrowth_22 ?_
  refine rr_irem oX1_drawGrowth_23 (by decide) ?_
  exact rr_ireturn oX1_drawGrowth_24 rfl rfl ⟨rfl, rfl⟩
def vy_T (I : Nat → Nat → Int32) (g : Nat) (G : gr_T) (hs : Nat → Int32) (sd : Int32) : Prop := gv_T I g (g_wh G hs) ∧ I g 5 = sd
theorem vy_up {I : Nat → Nat → Int32} {g : Nat} {G : gr_T} {hs : Nat → Int32} {sd s2 v : Int32} {t : Nat} (ht : t < g_n G) (h : vy_T I g G hs sd) : vy_T (up_I (up_I I g 5 s2) (g + 4) t v) g G (upd hs t v) s2 := by
  obtain ⟨⟨g1, g2, g3, g4, g5⟩, h2⟩ := h
  refine ⟨⟨g1, ?_, ?_, ?_, fun u hu => ?_⟩, ?_⟩
  · rw [up_I_ne (by omega), up_I_at_ne (by omega)]; exact g2
  · rw [up_I_ne (by omega), up_I_at_ne (by omega)]; exact g3
  · rw [up_I_ne (by omega), up_I_at_ne (by omega)]; exact g4
  · have e := g5 u hu
    rw [up_I_ne (show g + 1 ≠ g + 4 by omega), up_I_ne (show g + 2 ≠ g + 4 by omega), up_I_ne (show g + 3 ≠ g + 4 by omega), up_I_ne (show g + 5 ≠ g + 4 by omega), up_I_eq, up_I_ne (show g + 1 ≠ g by omega), up_I_ne (show g + 2 ≠ g by omega), up_I_ne (show g + 3 ≠ g by omega), up_I_ne (show g + 4 ≠ g by omega), up_I_ne (show g + 5 ≠ g by omega)]
    refine ⟨e.1, e.2.1, e.2.2.1, ?_, e.2.2.2.2⟩
    show upd (I (g + 4)) t v u = upd hs t v u
    by_cases q : u = t
    · simp [upd, q]
    · simp only [upd, if_neg q]; exact e.2.2.2.1
  · rw [up_I_ne (by omega), up_I_at]
theorem lp_X1_passYear (l : Launch) {I0 : Nat → Nat → Int32} {L : Nat → Nat → Int64} {Rf : Nat → Nat → Option Nat} {n : Nat} {g : Nat} (W : wd_T Rf n) (hg : gd_T g) {G : gr_T} {dr : Nat → Bool} {sh : Nat → Nat → Bool} {Q : Option vv_T → mx_T → Prop} : ∀ m (I : Nat → Nat → Int32) t hs sd, t + m = g_n G → vy_T I g G hs sd → gs_T I g (g_wh G hs) dr sh → (∀ a, a ≠ g → a ≠ g + 4 → I a = I0 a) → (I g 3 = I0 g 3 ∧ I g 4 = I0 g 4) → (∀ (J : Nat → Nat → Int32) (t2 : Nat), vy_T J g G (yr_N (g_k G) m t hs sd).1 (yr_N (g_k G) m t hs sd).2 → gs_T J g (g_wh G (yr_N (g_k G) m t hs sd).1) dr sh → (∀ a, a ≠ g → a ≠ g + 4 → J a = I0 a) → (J g 3 = I0 g 3 ∧ J g 4 = I0 g 4) → wm_W l mX1_passYear 7 0 0 50 [vv_A (some g), vv_I (nI t2)] [] (J, L, Rf, n) Q) → wm_W l mX1_passYear 7 0 0 2 [vv_A (some g), vv_I (nI t)] [] (I, L, Rf, n) Q := by
  intro m
  induction m with
  | zero =>
    intro I t hs sd ht hy hgs h1 h2 kk
    have hG := hy.1
    have h8 : g_n G ≤ 8 := hG.1
    have hnn : g_n (g_wh G hs) = g_n G := rfl
    refine ri_1 oX1_passYear_2 ?_
    refine ra_0 oX1_passYear_3 ?_
    refine rr_giv oX1_passYear_4 (ff_X1_9 rfl) (gd_k hg) (gd_lt (j := 0) W hg rfl) ⟨by decide, rfl⟩ (gv_c hG) ?_
    refine rr_icmp_ge (tgt := 50) oX1_passYear_7 (by decide) (fun c => ?_) (fun c => ?_)
    rotate_left
    · exact absurd c (by rw [nI_le_iff (by omega) (by omega)]; omega)
    exact kk I t hy hgs h1 h2
  | succ m ih =>
    intro I t hs sd ht hy hgs h1 h2 kk
    have hG := hy.1
    have h8 : g_n G ≤ 8 := hG.1
    have hnn : g_n (g_wh G hs) = g_n G := rfl
    refine ri_1 oX1_passYear_2 ?_
    refine ra_0 oX1_passYear_3 ?_
    refine rr_giv oX1_passYear_4 (ff_X1_9 rfl) (gd_k hg) (gd_lt (j := 0) W hg rfl) ⟨by decide, rfl⟩ (gv_c hG) ?_
    refine rr_icmp_ge (tgt := 50) oX1_passYear_7 (by decide) (fun c => ?_) (fun c => ?_)
    · (rw [nI_le_iff (by omega) (by omega)] at c; omega)
    refine ra_0 oX1_passYear_10 ?_
    refine rr_gr oX1_passYear_11 (ff_X1_30 rfl) (gd_k hg) (gd_lt (j := 0) W hg rfl) ⟨by decide, rfl⟩ (gd_r W hg 6 1 rfl) ?_
    refine ri_1 oX1_passYear_14 ?_
    refine rr_iv oX1_passYear_15 (gd_a hg 1 rfl) (gd_lt (j := 1) W hg rfl) rfl (by omega) (by decide) (gv_k hG (by omega)) ?_
    refine rr_cSNi (c_X4_isTreeKind l) oX1_passYear_16 (cn_X1_136 rfl) (by decide) rfl rfl (Nat.le_of_ble_eq_true rfl) ?_
    refine rr_ifb_eq (tgt := 44) oX1_passYear_19 (by decide) (fun c1 => ?_) (fun c1 => ?_)
    · refine rn_1 oX1_passYear_44 rfl rfl ?_
      refine rr_goto (tgt := 2) oX1_passYear_47 (by decide) ?_
      refine ih I (t + 1) hs sd (by omega) hy hgs h1 h2 ?_
      simp only [yr_N] at kk
      rw [if_neg (show ¬ is_Tr (g_k G t) from c1)] at kk
      exact kk
    · refine ra_0 oX1_passYear_22 ?_
      refine rr_gr oX1_passYear_23 (ff_X1_40 rfl) (gd_k hg) (gd_lt (j := 0) W hg rfl) ⟨by decide, rfl⟩ (gd_r W hg 9 4 rfl) ?_
      refine ri_1 oX1_passYear_26 ?_
      refine rr_bipush (v := 20) oX1_passYear_27 (by decide) ?_
      refine ra_0 oX1_passYear_29 ?_
      refine rr_gr oX1_passYear_30 (ff_X1_40 rfl) (gd_k hg) (gd_lt (j := 0) W hg rfl) ⟨by decide, rfl⟩ (gd_r W hg 9 4 rfl) ?_
      refine ri_1 oX1_passYear_33 ?_
      refine rr_iv oX1_passYear_34 (gd_a hg 4 rfl) (gd_lt (j := 4) W hg rfl) rfl (by omega) (by decide) (gv_h hG (by omega)) ?_
      refine ra_0 oX1_passYear_35 ?_
      refine rr_cVi (c_X1_drawGrowth l W hg hy.2) oX1_passYear_36 (cv_X1_139 rfl) (by decide) (gd_k hg) (by decide) hcn_1 (gd_lt (j := 0) W hg rfl) rfl rfl (Nat.le_of_ble_eq_true rfl) ?_
      refine rr_iadd oX1_passYear_39 ?_
      refine rr_min oX1_passYear_40 gm_X1_142 (by decide) (Nat.le_of_ble_eq_true rfl) ?_
      refine rr_ist oX1_passYear_43 (gd_a hg 4 rfl) (gd_lt (j := 4) W hg rfl) rfl (by omega) (by decide) ?_
      refine rn_1 oX1_passYear_44 rfl rfl ?_
      refine rr_goto (tgt := 2) oX1_passYear_47 (by decide) ?_
      have hy2 := vy_up (G := G) (v := s_min 20 (hs t + s_gr (s_sd sd))) (s2 := s_sd sd) (show t < g_n G by omega) hy
      refine ih _ (t + 1) _ _ (by omega) hy2 ⟨hy2.1, ?_, fun j hj => ?_⟩ (fun a q1 q2 => ?_) ⟨?_, ?_⟩ ?_
      · rw [up_I_ne (by omega), up_I_at_ne (by omega)]; exact hgs.2.1
      · rw [up_I_ne (by omega), up_I_ne (by omega)]; exact hgs.2.2 j hj
      · rw [up_I_ne q2, up_I_ne q1]; exact h1 a q1 q2
      · rw [up_I_ne (by omega), up_I_at_ne (by omega)]; exact h2.1
      · rw [up_I_ne (by omega), up_I_at_ne (by omega)]; exact h2.2
      · simp only [yr_N] at kk
        rw [if_pos (show is_Tr (g_k G t) from c1)] at kk
        exact kk
/-- a year: what stands behind it -/
def py_T (I J : Nat → Nat → Int32) (g : Nat) (G : gr_T) (dr : Nat → Bool) (sh : Nat → Nat → Bool) (hs : Nat → Int32) (sd : Int32) : Prop :=
  gl_T J g (g_ws (g_wh G hs) (1 - g_s G)) dr sh ∧ J g 5 = sd ∧ J g 4 = I g 4 + nI (cn_8 (fun i => p_h G i && !p_ri (g_ws (g_wh G hs) (1 - g_s G)) dr sh i)) ∧ ∀ a, (a < g ∨ g + 7 < a) → J a = I a
theorem py_tail (l : Launch) {I : Nat → Nat → Int32} {L : Nat → Nat → Int64} {Rf : Nat → Nat → Option Nat} {n : Nat} {g : Nat} (W : wd_T Rf n) (hg : gd_T g) {G : gr_T} {dr : Nat → Bool} {sh : Nat → Nat → Bool} (hr : hr_T G) {J : Nat → Nat → Int32} {hs : Nat → Int32} {sd : Int32} (hy : vy_T J g G hs sd) (hgs2 : gs_T J g (g_wh G hs) dr sh) (h1 : ∀ a, a ≠ g → a ≠ g + 4 → J a = I a) (h2 : J g 3 = I g 3 ∧ J g 4 = I g 4) (t2 : Nat) : wm_W l mX1_passYear 7 0 0 50 [vv_A (some g), vv_I (nI t2)] [] (J, L, Rf, n) (q_m (fun K => py_T I K g G dr sh hs sd) L Rf n) := by
  refine ra_0 oX1_passYear_50 ?_
  refine rk_1 oX1_passYear_51 ?_
  refine ra_0 oX1_passYear_52 ?_
  refine rr_giv oX1_passYear_53 (ff_X1_15 rfl) (gd_k hg) (gd_lt (j := 0) W hg rfl) ⟨by decide, rfl⟩ hgs2.1.2.2.1 ?_
  refine rr_isub oX1_passYear_56 ?_
  refine rr_pi oX1_passYear_57 (ff_X1_15 rfl) (gd_k hg) (gd_lt (j := 0) W hg rfl) ⟨by decide, rfl, by decide⟩ pf_1_1 ⟨rfl, rfl⟩ ?_
  have hgs3 : gs_T (up_I J g 1 (1 - g_s G)) g (g_ws (g_wh G hs) (1 - g_s G)) dr sh := by
    obtain ⟨⟨g1, g2, g3, g4, g5⟩, g6, g7⟩ := hgs2
    refine ⟨⟨g1, by rw [up_I_at_ne (by omega)]; exact g2, up_I_at, by rw [up_I_at_ne (by omega)]; exact g4, fun t ht => ?_⟩, by rw [up_I_at_ne (by omega)]; exact g6, fun j hj => by rw [up_I_ne (by omega)]; exact g7 j hj⟩
    rw [up_I_ne (by omega), up_I_ne (by omega), up_I_ne (by omega), up_I_ne (by omega), up_I_ne (by omega)]
    exact g5 t ht
  refine ra_0 oX1_passYear_60 ?_
  refine rr_cVm (c_X1_lookAround l W hg hgs3.1 (hr_xy hr)) oX1_passYear_61 (cv_X1_145 rfl) (by decide) (gd_k hg) (by decide) hcn_1 (gd_lt (j := 0) W hg rfl) rfl rfl (Nat.le_of_ble_eq_true rfl) (fun K hK => ?_)
  have hA := la_gl hK hgs3
  have hG := hA.1.1
  refine ra_0 oX1_passYear_64 ?_
  refine rr_dup oX1_passYear_65 rfl ?_
  refine rr_giv oX1_passYear_66 (ff_X1_24 rfl) (gd_k hg) (gd_lt (j := 0) W hg rfl) ⟨by decide, rfl⟩ (show _ = J g 4 from by rw [hK.2 g (by omega), up_I_at_ne (by omega)]) ?_
  refine ra_0 oX1_passYear_69 ?_
  refine rr_cVi (c_X1_houses l W hg hG) oX1_passYear_70 (cv_X1_148 rfl) (by decide) (gd_k hg) (by decide) hcn_1 (gd_lt (j := 0) W hg rfl) rfl rfl (Nat.le_of_ble_eq_true rfl) ?_
  refine ra_0 oX1_passYear_73 ?_
  refine rr_cVi (c_X1_rightHouses l W hg hA) oX1_passYear_74 (cv_X1_121 rfl) (by decide) (gd_k hg) (by decide) hcn_1 (gd_lt (j := 0) W hg rfl) rfl rfl (Nat.le_of_ble_eq_true rfl) ?_
  refine rk_m1 oX1_passYear_77 ?_
  refine rr_ixor oX1_passYear_78 ?_
  refine rr_iand oX1_passYear_79 ?_
  refine rr_cSi (c_J6_bitCount_0f7a4 l) oX1_passYear_80 (cs_X1_116 rfl) (by decide) rfl rfl (Nat.le_of_ble_eq_true rfl) ?_
  rw [st_not, bc_st]
  refine rr_iadd oX1_passYear_83 ?_
  refine rr_pi oX1_passYear_84 (ff_X1_24 rfl) (gd_k hg) (gd_lt (j := 0) W hg rfl) ⟨by decide, rfl, by decide⟩ pf_1_4 ⟨rfl, rfl⟩ ?_
  exact rr_return oX1_passYear_87 rfl (q_m_of ⟨⟨⟨gv_keep hG (by rw [up_I_at_ne (by omega)]) (by rw [up_I_at_ne (by omega)]) (by rw [up_I_at_ne (by omega)]) (fun j q1 q2 => up_I_ne (by omega)), by rw [up_I_at_ne (by omega)]; exact hA.1.2.1, fun j hj => by rw [up_I_ne (by omega)]; exact hA.1.2.2 j hj⟩, fun j hj => by rw [up_I_ne (by omega)]; exact hA.2 j hj⟩, by rw [up_I_at_ne (by omega), hK.2 g (by omega), up_I_at_ne (by omega)]; exact hy.2, by rw [up_I_at, h2.2]; rfl, fun a ha => by rw [up_I_ne (by omega), hK.2 a (by omega), up_I_ne (by omega)]; exact h1 a (by omega) (by omega)⟩)
theorem c_X1_passYear (l : Launch) {I : Nat → Nat → Int32} {L : Nat → Nat → Int64} {Rf : Nat → Nat → Option Nat} {n : Nat} {g : Nat} (W : wd_T Rf n) (hg : gd_T g) {G : gr_T} {dr : Nat → Bool} {sh : Nat → Nat → Bool} (hgs : gs_T I g G dr sh) (hr : hr_T G) : wm_C l mX1_passYear 7 0 0 [vv_A (some g)] (I, L, Rf, n) (q_m (fun J => py_T I J g G dr sh (yr_N (g_k G) (g_n G) 0 (g_h G) (I g 5)).1 (yr_N (g_k G) (g_n G) 0 (g_h G) (I g 5)).2) L Rf n) := by
  refine wm_of (by decide) (Nat.le_of_ble_eq_true rfl) rfl ?_
  refine rk_0 oX1_passYear_0 ?_
  refine si_1 oX1_passYear_1 rfl rfl ?_
  refine lp_X1_passYear l W hg (G := G) (dr := dr) (sh := sh) (I0 := I) (g_n G) I 0 (g_h G) (I g 5) (Nat.zero_add _) ⟨hgs.1, rfl⟩ hgs (fun _ _ _ => rfl) ⟨rfl, rfl⟩ (fun J t2 hy hgs2 h1 h2 => ?_)
  obtain ⟨hs, ehs⟩ : ∃ hs, hs = (yr_N (g_k G) (g_n G) 0 (g_h G) (I g 5)).1 := ⟨_, rfl⟩
  obtain ⟨sd, esd⟩ : ∃ sd, sd = (yr_N (g_k G) (g_n G) 0 (g_h G) (I g 5)).2 := ⟨_, rfl⟩
  rw [← ehs, ← esd] at hy ⊢
  rw [← ehs] at hgs2
  exact py_tail l W hg hr hy hgs2 h1 h2 t2
