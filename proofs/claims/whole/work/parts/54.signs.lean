/-! the model: signs, digits, numbers, words (by program: wip/whole/c54.py) -/
def rp_M (I : Nat → Nat → Int32) (s z p : Nat) : Prop := I 46 22 = nI (160 * s) ∧ I 46 24 = nI z ∧ I 46 23 = nI p
abbrev sg_M (L : Nat → Nat → Int64) (s z : Nat) : Nat → Int32 := s_sg z (fun k => L 59 (160 * s + k))
theorem sg_at {L : Nat → Nat → Int64} {s z p : Nat} (h : p < z) : sg_M L s z p = (L 59 (160 * s + p)).toInt32 := if_pos h
theorem sg_no {L : Nat → Nat → Int64} {s z p : Nat} (h : z ≤ p) : sg_M L s z p = -1 := if_neg (by omega)
theorem dg_i {sg : Nat → Int32} {p : Nat} : (s_dg sg p).isSome = true ↔ 48 ≤ sg p ∧ sg p ≤ 57 := by
  unfold s_dg
  split
  · next h => exact ⟨fun _ => h, fun _ => rfl⟩
  · next h => exact ⟨fun q => (by cases q), fun q => absurd q h⟩
def nu_ok (sg : Nat → Int32) (p : Nat) : Option (Nat × Nat) := match s_dg sg p with
  | none => none
  | some a => match s_dg sg (p + 1) with
    | none => some (a, p + 1)
    | some b => some (a * 10 + b, p + 2)
theorem dg_1 : ∀ a, a < 10 → nI (48 + a) - 48 = nI a := by decide +kernel
theorem dg_2 : ∀ a, a < 10 → ∀ b, b < 10 → (10 : Int32) * nI a + nI (48 + b) - 48 = nI (a * 10 + b) := by decide +kernel
def off_N (w : Nat) : Nat := [0, 7, 15, 20, 26].getD w 32
theorem of_t : ∀ w, w < 5 → off_N w + ln_N w + 1 < 32 ∧ wd_W (off_N w + ln_N w) = 32 ∧ wd_W (off_N w + ln_N w + 1) = 0 ∧ 3 ≤ ln_N w ∧ ln_N w < 8 ∧ (w < 4 → off_N (w + 1) = off_N w + ln_N w + 2) := by decide +kernel
theorem of_c : ∀ w, w < 5 → ∀ i, i < ln_N w → wd_W (off_N w + i) = s_ch w i ∧ 32 < s_ch w i ∧ ¬ s_ch w i = 0 ∧ ¬ s_ch w i = -1 := by decide +kernel
theorem of_d : ∀ w, w < 5 → ∀ u, u < 5 → ¬ w = u → ¬ s_ch w 0 = s_ch u 0 ∨ ¬ s_ch w 1 = s_ch u 1 := by decide +kernel
def zc_N (c : Nat) : Nat := cn_N (fun k => wd_W k == 0) c
theorem zc_t : ∀ w, w < 5 → zc_N (off_N w) = w ∧ ∀ c, c < off_N w → zc_N c < w := by decide +kernel
theorem sl_eq {sg : Nat → Int32} {w p : Nat} : ∀ m j i, j ≤ i → j + m = ln_N w → i ≤ ln_N w → (∀ k, k < i → sg (p + k) = s_ch w k) → (i = ln_N w ∨ ¬ sg (p + i) = s_ch w i) → sl_N sg w p m j = i := by
  intro m
  induction m with
  | zero => intro j i h1 h2 h3 _ _; show j = i; omega
  | succ m ih =>
    intro j i h1 h2 h3 h4 h5
    unfold sl_N
    by_cases q : j = i
    · subst q
      rcases h5 with h5 | h5
      · omega
      · rw [if_neg h5]
    · rw [if_pos (h4 j (by omega))]
      exact ih (j + 1) i (by omega) (by omega) h3 h4 h5
theorem sl_ch {sg : Nat → Int32} {w p : Nat} : ∀ m j, j + m = ln_N w → ∀ k, j ≤ k → k < sl_N sg w p m j → sg (p + k) = s_ch w k := by
  intro m
  induction m with
  | zero => intro j _ k h1 h2; have h2 : k < j := h2; omega
  | succ m ih =>
    intro j hj k h1 h2
    unfold sl_N at h2
    split at h2
    · next q =>
      by_cases e : k = j
      · rw [e]; exact q
      · exact ih (j + 1) (by omega) k (by omega) h2
    · omega
/-- one word there: no other has more than a letter of it -/
theorem sl_1 {sg : Nat → Int32} {w u p : Nat} (hw : w < 5) (hu : u < 5) (hne : ¬ w = u) (hf : ∀ k, k < ln_N w → sg (p + k) = s_ch w k) : s_sl sg u p ≤ 1 := by
  apply Classical.byContradiction
  intro h
  have h0 := sl_ch (sg := sg) (w := u) (p := p) (ln_N u) 0 (Nat.zero_add _) 0 (Nat.le_refl _) (by show 0 < s_sl sg u p; omega)
  have h1 := sl_ch (sg := sg) (w := u) (p := p) (ln_N u) 0 (Nat.zero_add _) 1 (Nat.zero_le _) (by show 1 < s_sl sg u p; omega)
  have g := of_t w hw
  rw [hf 0 (by omega)] at h0
  rw [hf 1 (by omega)] at h1
  rcases of_d w hw u hu hne with d | d
  · exact d h0
  · exact d h1
theorem c_X5_isDigit (l : Launch) {I : Nat → Nat → Int32} {L : Nat → Nat → Int64} {Rf : Nat → Nat → Option Nat} {n : Nat} {s z p : Nat} (W : wd_T Rf n) (hs : s < 8) (hz : z ≤ 160) (hp : p ≤ z) (hR : rp_M I s z p) : wm_C l mX5_isDigit 1 0 0 [vv_A (some 46)] (I, L, Rf, n) (q_i (bI ((s_dg (sg_M L s z) p).isSome = true)) (I, L, Rf, n)) := by
  refine wm_of (by decide) (Nat.le_of_ble_eq_true rfl) rfl ?_
  refine ra_0 oX5_isDigit_0 ?_
  refine rr_giv oX5_isDigit_1 (ff_X5_133 rfl) kk_46 (wd_lt W rfl) ⟨by decide, rfl⟩ hR.2.2 ?_
  refine ra_0 oX5_isDigit_4 ?_
  refine rr_giv oX5_isDigit_5 (ff_X5_136 rfl) kk_46 (wd_lt W rfl) ⟨by decide, rfl⟩ hR.2.1 ?_
  refine rr_icmp_ge (tgt := 55) oX5_isDigit_8 (by decide) (fun c => ?_) (fun c => ?_)
  · rw [nI_le_iff (by omega) (by omega)] at c
    refine rk_0 oX5_isDigit_55 ?_
    exact rr_ireturn oX5_isDigit_56 rfl rfl (q_f (fun q => by have q := (dg_i.mp q).1; rw [sg_no (by omega)] at q; exact absurd q (by decide)))
  · rw [nI_le_iff (by omega) (by omega)] at c
    have e := sg_at (L := L) (s := s) (show p < z by omega)
    refine ra_0 oX5_isDigit_11 ?_
    refine rr_gr (v := 59) oX5_isDigit_12 (ff_X5_59 rfl) kk_46 (wd_lt W rfl) ⟨by decide, rfl⟩ (wd_r W rfl rfl) ?_
    refine ra_0 oX5_isDigit_15 ?_
    refine rr_giv oX5_isDigit_16 (ff_X5_139 rfl) kk_46 (wd_lt W rfl) ⟨by decide, rfl⟩ hR.1 ?_
    refine ra_0 oX5_isDigit_19 ?_
    refine rr_giv oX5_isDigit_20 (ff_X5_133 rfl) kk_46 (wd_lt W rfl) ⟨by decide, rfl⟩ hR.2.2 ?_
    refine rr_iadd oX5_isDigit_23 ?_
    refine rr_lld (t := 160 * s + p) oX5_isDigit_24 kk_59 (wd_lt W rfl) (nI_add _ _) (by omega) (by decide) ?_
    refine rr_l2i oX5_isDigit_25 ?_
    refine rr_bipush (v := 48) oX5_isDigit_26 (by decide) ?_
    refine rr_icmp_lt (tgt := 55) oX5_isDigit_28 (by decide) (fun c1 => ?_) (fun c1 => ?_)
    · refine rk_0 oX5_isDigit_55 ?_
      exact rr_ireturn oX5_isDigit_56 rfl rfl (q_f (fun q => by have q := (dg_i.mp q).1; rw [e] at q; exact Int32.not_lt.mpr q c1))
    · refine ra_0 oX5_isDigit_31 ?_
      refine rr_gr (v := 59) oX5_isDigit_32 (ff_X5_59 rfl) kk_46 (wd_lt W rfl) ⟨by decide, rfl⟩ (wd_r W rfl rfl) ?_
      refine ra_0 oX5_isDigit_35 ?_
      refine rr_giv oX5_isDigit_36 (ff_X5_139 rfl) kk_46 (wd_lt W rfl) ⟨by decide, rfl⟩ hR.1 ?_
      refine ra_0 oX5_isDigit_39 ?_
      refine rr_giv oX5_isDigit_40 (ff_X5_133 rfl) kk_46 (wd_lt W rfl) ⟨by decide, rfl⟩ hR.2.2 ?_
      refine rr_iadd oX5_isDigit_43 ?_
      refine rr_lld (t := 160 * s + p) oX5_isDigit_44 kk_59 (wd_lt W rfl) (nI_add _ _) (by omega) (by decide) ?_
      refine rr_l2i oX5_isDigit_45 ?_
      refine rr_bipush (v := 57) oX5_isDigit_46 (by decide) ?_
      refine rr_icmp_gt (tgt := 55) oX5_isDigit_48 (by decide) (fun c2 => ?_) (fun c2 => ?_)
      · refine rk_0 oX5_isDigit_55 ?_
        exact rr_ireturn oX5_isDigit_56 rfl rfl (q_f (fun q => by have q := (dg_i.mp q).2; rw [e] at q; exact Int32.not_lt.mpr q c2))
      · refine rk_1 oX5_isDigit_51 ?_
        refine rr_goto (tgt := 56) oX5_isDigit_52 (by decide) ?_
        exact rr_ireturn oX5_isDigit_56 rfl rfl (q_t (dg_i.mpr (by rw [e]; exact ⟨Int32.not_lt.mp c1, Int32.not_lt.mp c2⟩)))
theorem c_X5_wrong (l : Launch) {I : Nat → Nat → Int32} {L : Nat → Nat → Int64} {Rf : Nat → Nat → Option Nat} {n : Nat} (W : wd_T Rf n) {x : Int32} : wm_C l mX5_wrong 1 0 0 [vv_A (some 46), vv_I x] (I, L, Rf, n) (q_i 0 (up_I I 46 26 x, L, Rf, n)) := by
  refine wm_of (by decide) (Nat.le_of_ble_eq_true rfl) rfl ?_
  refine ra_0 oX5_wrong_0 ?_
  refine ri_1 oX5_wrong_1 ?_
  refine rr_pi oX5_wrong_2 (ff_X5_130 rfl) kk_46 (wd_lt W rfl) ⟨by decide, rfl, by decide⟩ pf_5_26 ⟨rfl, rfl⟩ ?_
  refine rk_0 oX5_wrong_5 ?_
  exact rr_ireturn oX5_wrong_6 rfl rfl ⟨rfl, rfl⟩
theorem c_X5_number (l : Launch) {I : Nat → Nat → Int32} {L : Nat → Nat → Int64} {Rf : Nat → Nat → Option Nat} {n : Nat} {s z p : Nat} (W : wd_T Rf n) (hs : s < 8) (hz : z ≤ 160) (hp : p ≤ z) (hR : rp_M I s z p) : wm_C l mX5_number 2 0 0 [vv_A (some 46)] (I, L, Rf, n) (q_n (fun v J => ((s_dg (sg_M L s z) p = none ∧ v = 0 ∧ J 46 26 = nI p) ∨ ∃ u q, nu_ok (sg_M L s z) p = some (u, q) ∧ v = 1 ∧ J 46 25 = nI u ∧ J 46 23 = nI q) ∧ (∀ f, f ≠ 23 → f ≠ 25 → f ≠ 26 → J 46 f = I 46 f) ∧ ∀ a, a ≠ 46 → J a = I a) L Rf n) := by
  refine wm_of (by decide) (Nat.le_of_ble_eq_true rfl) rfl ?_
  refine ra_0 oX5_number_0 ?_
  refine rk_0 oX5_number_1 ?_
  refine rr_pi oX5_number_2 (ff_X5_142 rfl) kk_46 (wd_lt W rfl) ⟨by decide, rfl, by decide⟩ pf_5_25 ⟨rfl, rfl⟩ ?_
  have hR1 : rp_M (up_I I 46 25 0) s z p := ⟨by rw [up_I_at_ne (by omega)]; exact hR.1, by rw [up_I_at_ne (by omega)]; exact hR.2.1, by rw [up_I_at_ne (by omega)]; exact hR.2.2⟩
  refine ra_0 oX5_number_5 ?_
  refine rr_cVi (c_X5_isDigit l W hs hz hp hR1) oX5_number_6 (cv_X5_145 rfl) (by decide) kk_46 (by decide) hcn_5 (wd_lt W rfl) rfl rfl (Nat.le_of_ble_eq_true rfl) ?_
  refine rr_ifb_ne (tgt := 21) oX5_number_9 (by decide) (fun c => ?_) (fun c => ?_)
  · obtain ⟨a, ha⟩ := Option.isSome_iff_exists.mp c
    have hdl := dg_lt (sg_z z _) ha
    obtain ⟨ha1, ha2⟩ := dg_e ha
    rw [sg_at hdl] at ha2
    refine ra_0 oX5_number_21 ?_
    refine ra_0 oX5_number_22 ?_
    refine rr_gr (v := 59) oX5_number_23 (ff_X5_59 rfl) kk_46 (wd_lt W rfl) ⟨by decide, rfl⟩ (wd_r W rfl rfl) ?_
    refine ra_0 oX5_number_26 ?_
    refine rr_giv oX5_number_27 (ff_X5_139 rfl) kk_46 (wd_lt W rfl) ⟨by decide, rfl⟩ hR1.1 ?_
    refine ra_0 oX5_number_30 ?_
    refine rr_giv oX5_number_31 (ff_X5_133 rfl) kk_46 (wd_lt W rfl) ⟨by decide, rfl⟩ hR1.2.2 ?_
    refine rr_iadd oX5_number_34 ?_
    refine rr_lld (t := 160 * s + p) oX5_number_35 kk_59 (wd_lt W rfl) (nI_add _ _) (by omega) (by decide) ?_
    refine rr_l2i oX5_number_36 ?_
    refine rr_bipush (v := 48) oX5_number_37 (by decide) ?_
    rw [ha2]
    refine rr_isub oX5_number_39 ?_
    rw [dg_1 a ha1]
    refine rr_pi oX5_number_40 (ff_X5_142 rfl) kk_46 (wd_lt W rfl) ⟨by decide, rfl, by decide⟩ pf_5_25 ⟨rfl, rfl⟩ ?_
    refine ra_0 oX5_number_43 ?_
    refine rr_dup oX5_number_44 rfl ?_
    refine rr_giv oX5_number_45 (ff_X5_133 rfl) kk_46 (wd_lt W rfl) ⟨by decide, rfl⟩ (show _ = nI p from by rw [up_I_at_ne (by omega)]; exact hR1.2.2) ?_
    refine rk_1 oX5_number_48 ?_
    refine rr_iadd oX5_number_49 ?_
    rw [nI_1]
    refine rr_pi oX5_number_50 (ff_X5_133 rfl) kk_46 (wd_lt W rfl) ⟨by decide, rfl, by decide⟩ pf_5_23 ⟨rfl, rfl⟩ ?_
    have hR2 : rp_M (up_I (up_I (up_I I 46 25 0) 46 25 (nI a)) 46 23 (nI (p + 1))) s z (p + 1) := ⟨by rw [up_I_at_ne (by omega), up_I_at_ne (by omega)]; exact hR1.1, by rw [up_I_at_ne (by omega), up_I_at_ne (by omega)]; exact hR1.2.1, up_I_at⟩
    refine ra_0 oX5_number_53 ?_
    refine rr_cVi (c_X5_isDigit l W hs hz (show p + 1 ≤ z by omega) hR2) oX5_number_54 (cv_X5_145 rfl) (by decide) kk_46 (by decide) hcn_5 (wd_lt W rfl) rfl rfl (Nat.le_of_ble_eq_true rfl) ?_
    refine rr_ifb_eq (tgt := 100) oX5_number_57 (by decide) (fun c1 => ?_) (fun c1 => ?_)
    · have hd2 : s_dg (sg_M L s z) (p + 1) = none := by cases z : s_dg (sg_M L s z) (p + 1) with | none => rfl | some a => rw [z] at c1; exact absurd rfl c1
      have hnu : nu_ok (sg_M L s z) p = some (a, p + 1) := by unfold nu_ok; rw [ha]; simp only []; rw [hd2]
      refine rk_1 oX5_number_100 ?_
      exact rr_ireturn oX5_number_101 rfl rfl (q_n_of ⟨Or.inr ⟨a, p + 1, hnu, rfl, by rw [up_I_at_ne (by omega), up_I_at], up_I_at⟩, fun f q1 q2 q3 => by rw [up_I_at_ne q1, up_I_at_ne q2, up_I_at_ne q2], fun a q => by rw [up_I_ne q, up_I_ne q, up_I_ne q]⟩)
    · obtain ⟨b, hb⟩ := Option.isSome_iff_exists.mp c1
      have hbl := dg_lt (sg_z z _) hb
      obtain ⟨hb1, hb2⟩ := dg_e hb
      rw [sg_at hbl] at hb2
      have hnu : nu_ok (sg_M L s z) p = some (a * 10 + b, p + 2) := by unfold nu_ok; rw [ha]; simp only []; rw [hb]
      refine ra_0 oX5_number_60 ?_
      refine rr_bipush (v := 10) oX5_number_61 (by decide) ?_
      refine ra_0 oX5_number_63 ?_
      refine rr_giv oX5_number_64 (ff_X5_142 rfl) kk_46 (wd_lt W rfl) ⟨by decide, rfl⟩ (show _ = nI a from by rw [up_I_at_ne (by omega), up_I_at]) ?_
      refine rr_imul oX5_number_67 ?_
      refine ra_0 oX5_number_68 ?_
      refine rr_gr (v := 59) oX5_number_69 (ff_X5_59 rfl) kk_46 (wd_lt W rfl) ⟨by decide, rfl⟩ (wd_r W rfl rfl) ?_
      refine ra_0 oX5_number_72 ?_
      refine rr_giv oX5_number_73 (ff_X5_139 rfl) kk_46 (wd_lt W rfl) ⟨by decide, rfl⟩ hR2.1 ?_
      refine ra_0 oX5_number_76 ?_
      refine rr_giv oX5_number_77 (ff_X5_133 rfl) kk_46 (wd_lt W rfl) ⟨by decide, rfl⟩ hR2.2.2 ?_
      refine rr_iadd oX5_number_80 ?_
      refine rr_lld (t := 160 * s + (p + 1)) oX5_number_81 kk_59 (wd_lt W rfl) (nI_add _ _) (by omega) (by decide) ?_
      refine rr_l2i oX5_number_82 ?_
      rw [hb2]
      refine rr_iadd oX5_number_83 ?_
      refine rr_bipush (v := 48) oX5_number_84 (by decide) ?_
      refine rr_isub oX5_number_86 ?_
      rw [dg_2 a ha1 b hb1]
      refine rr_pi oX5_number_87 (ff_X5_142 rfl) kk_46 (wd_lt W rfl) ⟨by decide, rfl, by decide⟩ pf_5_25 ⟨rfl, rfl⟩ ?_
      refine ra_0 oX5_number_90 ?_
      refine rr_dup oX5_number_91 rfl ?_
      refine rr_giv oX5_number_92 (ff_X5_133 rfl) kk_46 (wd_lt W rfl) ⟨by decide, rfl⟩ (show _ = nI (p + 1) from by rw [up_I_at_ne (by omega)]; exact hR2.2.2) ?_
      refine rk_1 oX5_number_95 ?_
      refine rr_iadd oX5_number_96 ?_
      rw [nI_1]
      refine rr_pi oX5_number_97 (ff_X5_133 rfl) kk_46 (wd_lt W rfl) ⟨by decide, rfl, by decide⟩ pf_5_23 ⟨rfl, rfl⟩ ?_
      refine rk_1 oX5_number_100 ?_
      exact rr_ireturn oX5_number_101 rfl rfl (q_n_of ⟨Or.inr ⟨a * 10 + b, p + 2, hnu, rfl, by rw [up_I_at_ne (by omega), up_I_at], up_I_at⟩, fun f q1 q2 q3 => by rw [up_I_at_ne q1, up_I_at_ne q2, up_I_at_ne q1, up_I_at_ne q2, up_I_at_ne q2], fun a q => by rw [up_I_ne q, up_I_ne q, up_I_ne q, up_I_ne q, up_I_ne q]⟩)
  · have hd : s_dg (sg_M L s z) p = none := by cases z : s_dg (sg_M L s z) p with | none => rfl | some a => rw [z] at c; exact absurd rfl c
    refine ra_0 oX5_number_12 ?_
    refine ra_0 oX5_number_13 ?_
    refine rr_giv oX5_number_14 (ff_X5_133 rfl) kk_46 (wd_lt W rfl) ⟨by decide, rfl⟩ hR1.2.2 ?_
    refine rr_cVi (c_X5_wrong l W) oX5_number_17 (cv_X5_149 rfl) (by decide) kk_46 (by decide) hcn_5 (wd_lt W rfl) rfl rfl (Nat.le_of_ble_eq_true rfl) ?_
    exact rr_ireturn oX5_number_20 rfl rfl (q_n_of ⟨Or.inl ⟨hd, rfl, up_I_at⟩, fun f q1 q2 q3 => by rw [up_I_at_ne q3, up_I_at_ne q2], fun a q => by rw [up_I_ne q, up_I_ne q]⟩)
theorem c_X5_isFull (l : Launch) {I : Nat → Nat → Int32} {L : Nat → Nat → Int64} {Rf : Nat → Nat → Option Nat} {n : Nat} (W : wd_T Rf n) {G : gr_T} (hG : mv_T I G) {w : Nat} (hw : w < 5) : wm_C l mX5_isFull 1 0 0 [vv_A (some 46), vv_I (nI w)] (I, L, Rf, n) (q_i (bI (w = 0 ∧ g_n G = 8)) (I, L, Rf, n)) := by
  refine wm_of (by decide) (Nat.le_of_ble_eq_true rfl) rfl ?_
  have h8 := mv_8 hG
  refine ri_1 oX5_isFull_0 ?_
  refine rr_if_ne (tgt := 17) oX5_isFull_1 (by decide) (fun c => ?_) (fun c => ?_)
  · rw [show (0 : Int32) = nI 0 from rfl, nI_inj (by omega) (by omega)] at c
    refine rk_0 oX5_isFull_17 ?_
    exact rr_ireturn oX5_isFull_18 rfl rfl (q_f (fun q => c q.1))
  · rw [show (0 : Int32) = nI 0 from rfl, nI_inj (by omega) (by omega)] at c
    refine ra_0 oX5_isFull_4 ?_
    refine rr_giv oX5_isFull_5 (ff_X5_84 rfl) kk_46 (wd_lt W rfl) ⟨by decide, rfl⟩ (mv_c hG) ?_
    refine rr_bipush (v := 8) oX5_isFull_8 (by decide) ?_
    refine rr_icmp_ne (tgt := 17) oX5_isFull_10 (by decide) (fun c1 => ?_) (fun c1 => ?_)
    · rw [show (8 : Int32) = nI 8 from rfl, nI_inj (by omega) (by omega)] at c1
      refine rk_0 oX5_isFull_17 ?_
      exact rr_ireturn oX5_isFull_18 rfl rfl (q_f (fun q => c1 q.2))
    · rw [show (8 : Int32) = nI 8 from rfl, nI_inj (by omega) (by omega)] at c1
      refine rk_1 oX5_isFull_13 ?_
      refine rr_goto (tgt := 18) oX5_isFull_14 (by decide) ?_
      exact rr_ireturn oX5_isFull_18 rfl rfl (q_t ⟨c, c1⟩)
theorem lp_X5_isWordAt (l : Launch) {I : Nat → Nat → Int32} {L : Nat → Nat → Int64} {Rf : Nat → Nat → Option Nat} {n : Nat} (W : wd_T Rf n) (hw61 : ∀ k, k < 32 → I 61 k = wd_W k) {w : Nat} (hw : w < 5) {Q : Option vv_T → mx_T → Prop} (hP : wm_W l mX5_isWordAt 1 0 0 32 [vv_A (some 46), vv_I (nI w), vv_I (nI (off_N w)), vv_I (nI w)] [] (I, L, Rf, n) Q) : ∀ m c, c + m = off_N w → wm_W l mX5_isWordAt 1 0 0 4 [vv_A (some 46), vv_I (nI w), vv_I (nI c), vv_I (nI (zc_N c))] [] (I, L, Rf, n) Q := by
  intro m
  induction m with
  | zero =>
    intro c hc
    have ht := of_t w hw
    have e : c = off_N w := by omega
    refine ri_3 oX5_isWordAt_4 ?_
    refine ri_1 oX5_isWordAt_5 ?_
    refine rr_icmp_ge (tgt := 32) oX5_isWordAt_6 (by decide) (fun c1 => ?_) (fun c1 => ?_)
    rotate_left
    · exact absurd c1 (fun q => q (by rw [e, (zc_t w hw).1]; exact Int32.le_refl _))
    rw [e, (zc_t w hw).1]
    exact hP
  | succ m ih =>
    intro c hc
    have ht := of_t w hw
    refine ri_3 oX5_isWordAt_4 ?_
    refine ri_1 oX5_isWordAt_5 ?_
    refine rr_icmp_ge (tgt := 32) oX5_isWordAt_6 (by decide) (fun c1 => ?_) (fun c1 => ?_)
    · (have := (zc_t w hw).2 c (by omega); rw [nI_le_iff (by omega) (by omega)] at c1; omega)
    refine ri_3 oX5_isWordAt_9 ?_
    refine ra_0 oX5_isWordAt_10 ?_
    refine rr_gr (v := 61) oX5_isWordAt_11 (ff_X5_66 rfl) kk_46 (wd_lt W rfl) ⟨by decide, rfl⟩ (wd_r W rfl rfl) ?_
    refine ri_2 oX5_isWordAt_14 ?_
    refine rr_iv oX5_isWordAt_15 kk_61 (wd_lt W rfl) rfl (by omega) (by decide) (hw61 c (by omega)) ?_
    refine rr_if_ne (tgt := 23) oX5_isWordAt_16 (by decide) (fun c2 => ?_) (fun c2 => ?_)
    · refine rk_0 oX5_isWordAt_23 ?_
      refine rr_iadd oX5_isWordAt_24 ?_
      refine si_3 oX5_isWordAt_25 rfl rfl ?_
      refine rn_2 oX5_isWordAt_26 rfl rfl ?_
      refine rr_goto (tgt := 4) oX5_isWordAt_29 (by decide) ?_
      have ez : zc_N (c + 1) = zc_N c := by
        show zc_N c + (wd_W c == 0).toNat = _
        rw [show (wd_W c == 0) = false from by simp [c2]]; rfl
      have h := ih (c + 1) (by omega)
      rw [ez] at h
      rw [Int32.add_zero]
      exact h
    · refine rk_1 oX5_isWordAt_19 ?_
      refine rr_goto (tgt := 24) oX5_isWordAt_20 (by decide) ?_
      refine rr_iadd oX5_isWordAt_24 ?_
      refine si_3 oX5_isWordAt_25 rfl rfl ?_
      refine rn_2 oX5_isWordAt_26 rfl rfl ?_
      refine rr_goto (tgt := 4) oX5_isWordAt_29 (by decide) ?_
      have ez : zc_N (c + 1) = zc_N c + 1 := by
        show zc_N c + (wd_W c == 0).toNat = _
        rw [show (wd_W c == 0) = true from by simp [c2]]; rfl
      have h := ih (c + 1) (by omega)
      rw [ez] at h
      rw [nI_1]
      exact h
theorem lq_X5_isWordAt (l : Launch) {I : Nat → Nat → Int32} {L : Nat → Nat → Int64} {Rf : Nat → Nat → Option Nat} {n : Nat} {s z p : Nat} (W : wd_T Rf n) (hs : s < 8) (hz : z ≤ 160) (hp : p ≤ z) (hR : rp_M I s z p) (hw61 : ∀ k, k < 32 → I 61 k = wd_W k) {w : Nat} (hw : w < 5) : ∀ m i, i + m = ln_N w → (∀ k, k < i → (sg_M L s z) (p + k) = s_ch w k) → wm_W l mX5_isWordAt 1 0 0 37 [vv_A (some 46), vv_I (nI w), vv_I (nI (off_N w + i)), vv_I (nI (p + i))] [] (I, L, Rf, n) (q_i (bI (s_sl (sg_M L s z) w p = ln_N w)) (I, L, Rf, n)) := by
  intro m
  induction m with
  | zero =>
    intro i hi hm
    have ht := of_t w hw
    have e : i = ln_N w := by omega
    refine ra_0 oX5_isWordAt_37 ?_
    refine rr_gr (v := 61) oX5_isWordAt_38 (ff_X5_66 rfl) kk_46 (wd_lt W rfl) ⟨by decide, rfl⟩ (wd_r W rfl rfl) ?_
    refine ri_2 oX5_isWordAt_41 ?_
    refine rr_iv oX5_isWordAt_42 kk_61 (wd_lt W rfl) rfl (by omega) (by decide) (show _ = (32 : Int32) from (hw61 _ (by omega)).trans (by rw [e]; exact ht.2.1)) ?_
    refine rr_bipush (v := 32) oX5_isWordAt_43 (by decide) ?_
    refine rr_icmp_le (tgt := 86) oX5_isWordAt_45 (by decide) (fun _ => ?_) (fun q => absurd q (by decide))
    refine ra_0 oX5_isWordAt_86 ?_
    refine rr_gr (v := 61) oX5_isWordAt_87 (ff_X5_66 rfl) kk_46 (wd_lt W rfl) ⟨by decide, rfl⟩ (wd_r W rfl rfl) ?_
    refine ri_2 oX5_isWordAt_90 ?_
    refine rr_iv oX5_isWordAt_91 kk_61 (wd_lt W rfl) rfl (by omega) (by decide) (show _ = (32 : Int32) from (hw61 _ (by omega)).trans (by rw [e]; exact ht.2.1)) ?_
    refine rr_bipush (v := 32) oX5_isWordAt_92 (by decide) ?_
    refine rr_icmp_gt (tgt := 101) oX5_isWordAt_94 (by decide) (fun q => absurd q (by decide)) (fun _ => ?_)
    refine rk_1 oX5_isWordAt_97 ?_
    refine rr_goto (tgt := 102) oX5_isWordAt_98 (by decide) ?_
    exact rr_ireturn oX5_isWordAt_102 rfl rfl (q_t (by have := sl_eq (sg := (sg_M L s z)) (w := w) (p := p) (ln_N w) 0 i (Nat.zero_le _) (Nat.zero_add _) (by omega) hm (Or.inl e); rw [← e]; exact this))
  | succ m ih =>
    intro i hi hm
    have ht := of_t w hw
    have hch := of_c w hw i (by omega)
    refine ra_0 oX5_isWordAt_37 ?_
    refine rr_gr (v := 61) oX5_isWordAt_38 (ff_X5_66 rfl) kk_46 (wd_lt W rfl) ⟨by decide, rfl⟩ (wd_r W rfl rfl) ?_
    refine ri_2 oX5_isWordAt_41 ?_
    refine rr_iv oX5_isWordAt_42 kk_61 (wd_lt W rfl) rfl (by omega) (by decide) ((hw61 _ (by omega)).trans hch.1) ?_
    refine rr_bipush (v := 32) oX5_isWordAt_43 (by decide) ?_
    refine rr_icmp_le (tgt := 86) oX5_isWordAt_45 (by decide) (fun c1 => ?_) (fun c1 => ?_)
    · exact absurd hch.2.1 (Int32.not_lt.mpr c1)
    refine ri_3 oX5_isWordAt_48 ?_
    refine ra_0 oX5_isWordAt_49 ?_
    refine rr_giv oX5_isWordAt_50 (ff_X5_136 rfl) kk_46 (wd_lt W rfl) ⟨by decide, rfl⟩ hR.2.1 ?_
    refine rr_icmp_ge (tgt := 86) oX5_isWordAt_53 (by decide) (fun c2 => ?_) (fun c2 => ?_)
    · rw [nI_le_iff (by omega) (by omega)] at c2
      have hx : ¬ (sg_M L s z) (p + i) = s_ch w i := by rw [sg_no (by omega)]; exact fun q => hch.2.2.2 q.symm
      refine ra_0 oX5_isWordAt_86 ?_
      refine rr_gr (v := 61) oX5_isWordAt_87 (ff_X5_66 rfl) kk_46 (wd_lt W rfl) ⟨by decide, rfl⟩ (wd_r W rfl rfl) ?_
      refine ri_2 oX5_isWordAt_90 ?_
      refine rr_iv oX5_isWordAt_91 kk_61 (wd_lt W rfl) rfl (by omega) (by decide) ((hw61 _ (by omega)).trans hch.1) ?_
      refine rr_bipush (v := 32) oX5_isWordAt_92 (by decide) ?_
      refine rr_icmp_gt (tgt := 101) oX5_isWordAt_94 (by decide) (fun c4 => ?_) (fun c4 => ?_)
      rotate_left
      · exact absurd hch.2.1 c4
      refine rk_0 oX5_isWordAt_101 ?_
      exact rr_ireturn oX5_isWordAt_102 rfl rfl (q_f (fun q => by have := sl_eq (sg := (sg_M L s z)) (w := w) (p := p) (ln_N w) 0 i (Nat.zero_le _) (Nat.zero_add _) (by omega) hm (Or.inr hx); have q2 : sl_N (sg_M L s z) w p (ln_N w) 0 = ln_N w := q; omega))
    · rw [nI_le_iff (by omega) (by omega)] at c2
      have e := sg_at (L := L) (s := s) (show p + i < z by omega)
      refine ra_0 oX5_isWordAt_56 ?_
      refine rr_gr (v := 59) oX5_isWordAt_57 (ff_X5_59 rfl) kk_46 (wd_lt W rfl) ⟨by decide, rfl⟩ (wd_r W rfl rfl) ?_
      refine ra_0 oX5_isWordAt_60 ?_
      refine rr_giv oX5_isWordAt_61 (ff_X5_139 rfl) kk_46 (wd_lt W rfl) ⟨by decide, rfl⟩ hR.1 ?_
      refine ri_3 oX5_isWordAt_64 ?_
      refine rr_iadd oX5_isWordAt_65 ?_
      refine rr_lld (t := 160 * s + (p + i)) oX5_isWordAt_66 kk_59 (wd_lt W rfl) (nI_add _ _) (by omega) (by decide) ?_
      refine rr_l2i oX5_isWordAt_67 ?_
      refine ra_0 oX5_isWordAt_68 ?_
      refine rr_gr (v := 61) oX5_isWordAt_69 (ff_X5_66 rfl) kk_46 (wd_lt W rfl) ⟨by decide, rfl⟩ (wd_r W rfl rfl) ?_
      refine ri_2 oX5_isWordAt_72 ?_
      refine rr_iv oX5_isWordAt_73 kk_61 (wd_lt W rfl) rfl (by omega) (by decide) ((hw61 _ (by omega)).trans hch.1) ?_
      refine rr_icmp_ne (tgt := 86) oX5_isWordAt_74 (by decide) (fun c3 => ?_) (fun c3 => ?_)
      · have hx : ¬ (sg_M L s z) (p + i) = s_ch w i := by rw [e]; exact c3
        refine ra_0 oX5_isWordAt_86 ?_
        refine rr_gr (v := 61) oX5_isWordAt_87 (ff_X5_66 rfl) kk_46 (wd_lt W rfl) ⟨by decide, rfl⟩ (wd_r W rfl rfl) ?_
        refine ri_2 oX5_isWordAt_90 ?_
        refine rr_iv oX5_isWordAt_91 kk_61 (wd_lt W rfl) rfl (by omega) (by decide) ((hw61 _ (by omega)).trans hch.1) ?_
        refine rr_bipush (v := 32) oX5_isWordAt_92 (by decide) ?_
        refine rr_icmp_gt (tgt := 101) oX5_isWordAt_94 (by decide) (fun c4 => ?_) (fun c4 => ?_)
        rotate_left
        · exact absurd hch.2.1 c4
        refine rk_0 oX5_isWordAt_101 ?_
        exact rr_ireturn oX5_isWordAt_102 rfl rfl (q_f (fun q => by have := sl_eq (sg := (sg_M L s z)) (w := w) (p := p) (ln_N w) 0 i (Nat.zero_le _) (Nat.zero_add _) (by omega) hm (Or.inr hx); have q2 : sl_N (sg_M L s z) w p (ln_N w) 0 = ln_N w := q; omega))
      · refine rn_3 oX5_isWordAt_77 rfl rfl ?_
        refine rn_2 oX5_isWordAt_80 rfl rfl ?_
        refine rr_goto (tgt := 37) oX5_isWordAt_83 (by decide) ?_
        exact ih (i + 1) (by omega) (fun k hk => by
          by_cases q : k = i
          · rw [q, e]; exact c3
          · exact hm k (by omega))
theorem c_X5_isWordAt (l : Launch) {I : Nat → Nat → Int32} {L : Nat → Nat → Int64} {Rf : Nat → Nat → Option Nat} {n : Nat} {s z p : Nat} (W : wd_T Rf n) (hs : s < 8) (hz : z ≤ 160) (hp : p ≤ z) (hR : rp_M I s z p) (hw61 : ∀ k, k < 32 → I 61 k = wd_W k) {w : Nat} (hw : w < 5) : wm_C l mX5_isWordAt 1 0 0 [vv_A (some 46), vv_I (nI w)] (I, L, Rf, n) (q_i (bI (s_sl (sg_M L s z) w p = ln_N w)) (I, L, Rf, n)) := by
  refine wm_of (by decide) (Nat.le_of_ble_eq_true rfl) rfl ?_
  refine rk_0 oX5_isWordAt_0 ?_
  refine si_2 oX5_isWordAt_1 rfl rfl ?_
  refine rk_0 oX5_isWordAt_2 ?_
  refine si_3 oX5_isWordAt_3 rfl rfl ?_
  refine lp_X5_isWordAt l W hw61 hw ?_ (off_N w) 0 (Nat.zero_add _)
  refine ra_0 oX5_isWordAt_32 ?_
  refine rr_giv oX5_isWordAt_33 (ff_X5_133 rfl) kk_46 (wd_lt W rfl) ⟨by decide, rfl⟩ hR.2.2 ?_
  refine si_3 oX5_isWordAt_36 rfl rfl ?_
  exact lq_X5_isWordAt l W hs hz hp hR hw61 hw (ln_N w) 0 (Nat.zero_add _) (fun k hk => absurd hk (by omega))
