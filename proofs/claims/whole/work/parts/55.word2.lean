/-! the model: which word stands there (by program: wip/whole/c55.py) -/
theorem of_w : ∀ w, w < 5 → ∀ i, i < ln_N w + 1 → ¬ wd_W (off_N w + i) = 0 ∧ ¬ wd_W (off_N w + i) = -1 := by decide +kernel
theorem of_n : ∀ w, w < 5 → off_N (w + 1) = off_N w + ln_N w + 1 + 1 := by decide +kernel
theorem sl_min {sg : Nat → Int32} {w p i : Nat} (hw : w < 5) (hi : i ≤ ln_N w + 1) (hm : ∀ k, k < i → sg (p + k) = wd_W (off_N w + k)) (hx : i = ln_N w + 1 ∨ ¬ sg (p + i) = wd_W (off_N w + i)) : s_sl sg w p = min i (ln_N w) := by
  refine sl_eq (ln_N w) 0 _ (Nat.zero_le _) (Nat.zero_add _) (Nat.min_le_right _ _) (fun k hk => ?_) ?_
  · rw [hm k (by omega), (of_c w hw k (by omega)).1]
  · rcases hx with hx | hx
    · exact Or.inl (by omega)
    · by_cases q : i < ln_N w
      · rw [Nat.min_eq_left (by omega), ← (of_c w hw i q).1]
        exact Or.inr hx
      · exact Or.inl (by omega)
theorem sl_let {sg : Nat → Int32} {w p i : Nat} (hw : w < 5) (hi : ln_N w ≤ i) (hm : ∀ k, k < i → sg (p + k) = wd_W (off_N w + k)) : ∀ k, k < ln_N w → sg (p + k) = s_ch w k := fun k hk => by rw [hm k (by omega), (of_c w hw k hk).1]
theorem li_X5_word (l : Launch) {I : Nat → Nat → Int32} {L : Nat → Nat → Int64} {Rf : Nat → Nat → Option Nat} {n : Nat} {s z p : Nat} (W : wd_T Rf n) (hs : s < 8) (hz : z ≤ 160) (hp : p ≤ z) (hR : rp_M I s z p) (hw61 : ∀ k, k < 32 → I 61 k = wd_W k) {w : Nat} (hw : w < 5) {far : Int32} {Q : Option vv_T → mx_T → Prop} (hP : ∀ i, i ≤ ln_N w + 1 → (∀ k, k < i → (sg_M L s z) (p + k) = wd_W (off_N w + k)) → (i = ln_N w + 1 ∨ ¬ (sg_M L s z) (p + i) = wd_W (off_N w + i)) → wm_W l mX5_word 1 0 0 74 [vv_A (some 46), vv_I (nI (off_N w)), vv_I far, vv_I (nI w), vv_I (nI (p + i)), vv_I (nI (off_N w + i))] [] (I, L, Rf, n) Q) : ∀ m i, i + m = ln_N w + 1 → (∀ k, k < i → (sg_M L s z) (p + k) = wd_W (off_N w + k)) → wm_W l mX5_word 1 0 0 23 [vv_A (some 46), vv_I (nI (off_N w)), vv_I far, vv_I (nI w), vv_I (nI (p + i)), vv_I (nI (off_N w + i))] [] (I, L, Rf, n) Q := by
  intro m
  induction m with
  | zero =>
    intro i hi hm
    have ht := of_t w hw
    have e : i = ln_N w + 1 := by omega
    refine ra_0 oX5_word_23 ?_
    refine rr_gr (v := 61) oX5_word_24 (ff_X5_66 rfl) kk_46 (wd_lt W rfl) ⟨by decide, rfl⟩ (wd_r W rfl rfl) ?_
    refine ri_5 oX5_word_27 ?_
    refine rr_iv oX5_word_29 kk_61 (wd_lt W rfl) rfl (by omega) (by decide) (show _ = (0 : Int32) from (hw61 _ (by omega)).trans (by rw [e]; exact ht.2.2.1)) ?_
    refine rr_if_eq (tgt := 74) oX5_word_30 (by decide) (fun _ => ?_) (fun q => absurd q (by decide))
    exact hP i (by omega) hm (Or.inl e)
  | succ m ih =>
    intro i hi hm
    have ht := of_t w hw
    have hch := of_w w hw i (by omega)
    refine ra_0 oX5_word_23 ?_
    refine rr_gr (v := 61) oX5_word_24 (ff_X5_66 rfl) kk_46 (wd_lt W rfl) ⟨by decide, rfl⟩ (wd_r W rfl rfl) ?_
    refine ri_5 oX5_word_27 ?_
    refine rr_iv oX5_word_29 kk_61 (wd_lt W rfl) rfl (by omega) (by decide) (hw61 _ (by omega)) ?_
    refine rr_if_eq (tgt := 74) oX5_word_30 (by decide) (fun c1 => ?_) (fun c1 => ?_)
    · exact absurd c1 hch.1
    refine ri_4 oX5_word_33 ?_
    refine ra_0 oX5_word_35 ?_
    refine rr_giv oX5_word_36 (ff_X5_136 rfl) kk_46 (wd_lt W rfl) ⟨by decide, rfl⟩ hR.2.1 ?_
    refine rr_icmp_ge (tgt := 74) oX5_word_39 (by decide) (fun c2 => ?_) (fun c2 => ?_)
    · rw [nI_le_iff (by omega) (by omega)] at c2
      have hx : ¬ (sg_M L s z) (p + i) = wd_W (off_N w + i) := by rw [sg_no (by omega)]; exact fun q => hch.2 q.symm
      exact hP i (by omega) hm (Or.inr hx)
    · rw [nI_le_iff (by omega) (by omega)] at c2
      have e := sg_at (L := L) (s := s) (show p + i < z by omega)
      refine ra_0 oX5_word_42 ?_
      refine rr_gr (v := 59) oX5_word_43 (ff_X5_59 rfl) kk_46 (wd_lt W rfl) ⟨by decide, rfl⟩ (wd_r W rfl rfl) ?_
      refine ra_0 oX5_word_46 ?_
      refine rr_giv oX5_word_47 (ff_X5_139 rfl) kk_46 (wd_lt W rfl) ⟨by decide, rfl⟩ hR.1 ?_
      refine ri_4 oX5_word_50 ?_
      refine rr_iadd oX5_word_52 ?_
      refine rr_lld (t := 160 * s + (p + i)) oX5_word_53 kk_59 (wd_lt W rfl) (nI_add _ _) (by omega) (by decide) ?_
      refine rr_l2i oX5_word_54 ?_
      refine ra_0 oX5_word_55 ?_
      refine rr_gr (v := 61) oX5_word_56 (ff_X5_66 rfl) kk_46 (wd_lt W rfl) ⟨by decide, rfl⟩ (wd_r W rfl rfl) ?_
      refine ri_5 oX5_word_59 ?_
      refine rr_iv oX5_word_61 kk_61 (wd_lt W rfl) rfl (by omega) (by decide) (hw61 _ (by omega)) ?_
      refine rr_icmp_ne (tgt := 74) oX5_word_62 (by decide) (fun c3 => ?_) (fun c3 => ?_)
      · have hx : ¬ (sg_M L s z) (p + i) = wd_W (off_N w + i) := by rw [e]; exact c3
        exact hP i (by omega) hm (Or.inr hx)
      · refine rn_4 oX5_word_65 rfl rfl ?_
        refine rn_5 oX5_word_68 rfl rfl ?_
        refine rr_goto (tgt := 23) oX5_word_71 (by decide) ?_
        exact ih (i + 1) (by omega) (fun k hk => by
          by_cases q : k = i
          · rw [q, e]; exact c3
          · exact hm k (by omega))
theorem lk_X5_word (l : Launch) {I : Nat → Nat → Int32} {L : Nat → Nat → Int64} {Rf : Nat → Nat → Option Nat} {n : Nat} (W : wd_T Rf n) (hw61 : ∀ k, k < 32 → I 61 k = wd_W k) {w : Nat} (hw : w < 5) {far x4 x5 : Int32} {Q : Option vv_T → mx_T → Prop} (hP : wm_W l mX5_word 1 0 0 120 [vv_A (some 46), vv_I (nI (off_N w + ln_N w + 1)), vv_I far, vv_I (nI w), vv_I x4, vv_I x5] [] (I, L, Rf, n) Q) : ∀ m i, i + m = ln_N w + 1 → wm_W l mX5_word 1 0 0 105 [vv_A (some 46), vv_I (nI (off_N w + i)), vv_I far, vv_I (nI w), vv_I x4, vv_I x5] [] (I, L, Rf, n) Q := by
  intro m
  induction m with
  | zero =>
    intro i hi
    have ht := of_t w hw
    have e : i = ln_N w + 1 := by omega
    refine ra_0 oX5_word_105 ?_
    refine rr_gr (v := 61) oX5_word_106 (ff_X5_66 rfl) kk_46 (wd_lt W rfl) ⟨by decide, rfl⟩ (wd_r W rfl rfl) ?_
    refine ri_1 oX5_word_109 ?_
    refine rr_iv oX5_word_110 kk_61 (wd_lt W rfl) rfl (by omega) (by decide) (show _ = (0 : Int32) from (hw61 _ (by omega)).trans (by rw [e]; exact ht.2.2.1)) ?_
    refine rr_if_eq (tgt := 120) oX5_word_111 (by decide) (fun _ => ?_) (fun q => absurd q (by decide))
    rw [e]
    exact hP
  | succ m ih =>
    intro i hi
    have ht := of_t w hw
    have hch := of_w w hw i (by omega)
    refine ra_0 oX5_word_105 ?_
    refine rr_gr (v := 61) oX5_word_106 (ff_X5_66 rfl) kk_46 (wd_lt W rfl) ⟨by decide, rfl⟩ (wd_r W rfl rfl) ?_
    refine ri_1 oX5_word_109 ?_
    refine rr_iv oX5_word_110 kk_61 (wd_lt W rfl) rfl (by omega) (by decide) (hw61 _ (by omega)) ?_
    refine rr_if_eq (tgt := 120) oX5_word_111 (by decide) (fun c1 => ?_) (fun c1 => ?_)
    · exact absurd c1 hch.1
    refine rn_1 oX5_word_114 rfl rfl ?_
    refine rr_goto (tgt := 105) oX5_word_117 (by decide) ?_
    exact ih (i + 1) (by omega)
theorem lb_X5_word (l : Launch) {I : Nat → Nat → Int32} {L : Nat → Nat → Int64} {Rf : Nat → Nat → Option Nat} {n : Nat} {s z p : Nat} (W : wd_T Rf n) (hs : s < 8) (hz : z ≤ 160) (hp : p ≤ z) (hR : rp_M I s z p) (hw61 : ∀ k, k < 32 → I 61 k = wd_W k) {w0 : Nat} (hw0 : w0 < 5) (hf0 : ∀ k, k < ln_N w0 → (sg_M L s z) (p + k) = s_ch w0 k) {Q : Option vv_T → mx_T → Prop} (hP : Q (some (vv_I (-1))) (up_I I 46 26 (nI (p + ln_N w0)), L, Rf, n)) : ∀ m w (x4 x5 : vv_T), w + m = 5 → w0 < w → wm_W l mX5_word 1 0 0 9 [vv_A (some 46), vv_I (nI (off_N w)), vv_I (nI (p + ln_N w0)), vv_I (nI w), x4, x5] [] (I, L, Rf, n) Q := by
  intro m
  induction m with
  | zero =>
    intro w x4 x5 hwm hlt
    have ht0 := of_t w0 hw0
    refine ri_3 oX5_word_9 ?_
    refine rk_5 oX5_word_10 ?_
    refine rr_icmp_ge (tgt := 129) oX5_word_11 (by decide) (fun c => ?_) (fun c => ?_)
    rotate_left
    · exact absurd c (fun q => by rw [show (5 : Int32) = nI 5 from rfl, nI_le_iff (by omega) (by omega)] at q; omega)
    refine ra_0 oX5_word_129 ?_
    refine ri_2 oX5_word_130 ?_
    refine rr_pi oX5_word_131 (ff_X5_130 rfl) kk_46 (wd_lt W rfl) ⟨by decide, rfl, by decide⟩ pf_5_26 ⟨rfl, rfl⟩ ?_
    refine rk_m1 oX5_word_134 ?_
    exact rr_ireturn oX5_word_135 rfl rfl hP
  | succ m ih =>
    intro w x4 x5 hwm hlt
    have ht0 := of_t w0 hw0
    refine ri_3 oX5_word_9 ?_
    refine rk_5 oX5_word_10 ?_
    refine rr_icmp_ge (tgt := 129) oX5_word_11 (by decide) (fun c => ?_) (fun c => ?_)
    · rw [show (5 : Int32) = nI 5 from rfl, nI_le_iff (by omega) (by omega)] at c; omega
    have hwl : w < 5 := by omega
    have ht := of_t w hwl
    refine ra_0 oX5_word_14 ?_
    refine rr_giv oX5_word_15 (ff_X5_133 rfl) kk_46 (wd_lt W rfl) ⟨by decide, rfl⟩ hR.2.2 ?_
    refine si_4 oX5_word_18 rfl rfl ?_
    refine ri_1 oX5_word_20 ?_
    refine si_5 oX5_word_21 rfl rfl ?_
    refine li_X5_word l W hs hz hp hR hw61 hwl (fun i hi hm hx => ?_) (ln_N w + 1) 0 (Nat.zero_add _) (fun k hk => absurd hk (by omega))
    have hsl := sl_min hwl hi hm hx
    have h1 := sl_1 hw0 hwl (by omega) hf0
    have hi1 : i ≤ 1 := by omega
    refine ra_0 oX5_word_74 ?_
    refine rr_gr (v := 61) oX5_word_75 (ff_X5_66 rfl) kk_46 (wd_lt W rfl) ⟨by decide, rfl⟩ (wd_r W rfl rfl) ?_
    refine ri_5 oX5_word_78 ?_
    refine rr_iv oX5_word_80 kk_61 (wd_lt W rfl) rfl (by omega) (by decide) (hw61 _ (by omega)) ?_
    refine rr_if_ne (tgt := 92) oX5_word_81 (by decide) (fun c1 => ?_) (fun c1 => ?_)
    rotate_left
    · exact absurd c1 (of_w w hwl i (by omega)).1
    refine ri_4 oX5_word_92 ?_
    refine ri_2 oX5_word_94 ?_
    refine rr_icmp_le (tgt := 103) oX5_word_95 (by decide) (fun c2 => ?_) (fun c2 => ?_)
    rotate_left
    · exact absurd ((nI_le_iff (by omega) (by omega)).mpr (by omega)) c2
    refine ri_2 oX5_word_103 ?_
    refine si_2 oX5_word_104 rfl rfl ?_
    refine lk_X5_word l W hw61 hwl ?_ (ln_N w + 1) 0 (Nat.zero_add _)
    refine rn_1 oX5_word_120 rfl rfl ?_
    refine rn_3 oX5_word_123 rfl rfl ?_
    refine rr_goto (tgt := 9) oX5_word_126 (by decide) ?_
    rw [← of_n w hwl]
    exact ih (w + 1) _ _ (by omega) (by omega)
theorem la_X5_word (l : Launch) {I : Nat → Nat → Int32} {L : Nat → Nat → Int64} {Rf : Nat → Nat → Option Nat} {n : Nat} {s z p : Nat} (W : wd_T Rf n) (hs : s < 8) (hz : z ≤ 160) (hp : p ≤ z) (hR : rp_M I s z p) (hw61 : ∀ k, k < 32 → I 61 k = wd_W k) {Q : Option vv_T → mx_T → Prop} (hP1 : ∀ w q, wo_N (sg_M L s z) p 5 0 0 = (some w, q) → w < 5 → (sg_M L s z) q = 32 → Q (some (vv_I (nI w))) (up_I I 46 23 (nI (q + 1)), L, Rf, n)) (hP2 : ∀ o q, wo_N (sg_M L s z) p 5 0 0 = (o, q) → (∀ w, o = some w → ¬ (sg_M L s z) q = 32) → Q (some (vv_I (-1))) (up_I I 46 26 (nI q), L, Rf, n)) : ∀ m w mo (x4 x5 : vv_T), w + m = 5 → mo ≤ 8 → (mo = 0 ∨ ∃ u, u < w ∧ mo = s_sl (sg_M L s z) u p) → wo_N (sg_M L s z) p 5 0 0 = wo_N (sg_M L s z) p m w mo → wm_W l mX5_word 1 0 0 9 [vv_A (some 46), vv_I (nI (off_N w)), vv_I (nI (p + mo)), vv_I (nI w), x4, x5] [] (I, L, Rf, n) Q := by
  intro m
  induction m with
  | zero =>
    intro w mo x4 x5 hwm hmo8 hmo hk
    refine ri_3 oX5_word_9 ?_
    refine rk_5 oX5_word_10 ?_
    refine rr_icmp_ge (tgt := 129) oX5_word_11 (by decide) (fun c => ?_) (fun c => ?_)
    rotate_left
    · exact absurd c (fun q => by rw [show (5 : Int32) = nI 5 from rfl, nI_le_iff (by omega) (by omega)] at q; omega)
    refine ra_0 oX5_word_129 ?_
    refine ri_2 oX5_word_130 ?_
    refine rr_pi oX5_word_131 (ff_X5_130 rfl) kk_46 (wd_lt W rfl) ⟨by decide, rfl, by decide⟩ pf_5_26 ⟨rfl, rfl⟩ ?_
    refine rk_m1 oX5_word_134 ?_
    exact rr_ireturn oX5_word_135 rfl rfl (hP2 none (p + mo) hk (fun w e => by cases e))
  | succ m ih =>
    intro w mo x4 x5 hwm hmo8 hmo hk
    refine ri_3 oX5_word_9 ?_
    refine rk_5 oX5_word_10 ?_
    refine rr_icmp_ge (tgt := 129) oX5_word_11 (by decide) (fun c => ?_) (fun c => ?_)
    · rw [show (5 : Int32) = nI 5 from rfl, nI_le_iff (by omega) (by omega)] at c; omega
    have hwl : w < 5 := by omega
    have ht := of_t w hwl
    refine ra_0 oX5_word_14 ?_
    refine rr_giv oX5_word_15 (ff_X5_133 rfl) kk_46 (wd_lt W rfl) ⟨by decide, rfl⟩ hR.2.2 ?_
    refine si_4 oX5_word_18 rfl rfl ?_
    refine ri_1 oX5_word_20 ?_
    refine si_5 oX5_word_21 rfl rfl ?_
    refine li_X5_word l W hs hz hp hR hw61 hwl (fun i hi hm hx => ?_) (ln_N w + 1) 0 (Nat.zero_add _) (fun k hk => absurd hk (by omega))
    have hsl := sl_min hwl hi hm hx
    by_cases hfull : i = ln_N w + 1
    · refine ra_0 oX5_word_74 ?_
      refine rr_gr (v := 61) oX5_word_75 (ff_X5_66 rfl) kk_46 (wd_lt W rfl) ⟨by decide, rfl⟩ (wd_r W rfl rfl) ?_
      refine ri_5 oX5_word_78 ?_
      refine rr_iv oX5_word_80 kk_61 (wd_lt W rfl) rfl (by omega) (by decide) (show _ = (0 : Int32) from (hw61 _ (by omega)).trans (by rw [hfull]; exact ht.2.2.1)) ?_
      refine rr_if_ne (tgt := 92) oX5_word_81 (by decide) (fun q => absurd q (by decide)) (fun _ => ?_)
      refine ra_0 oX5_word_84 ?_
      refine ri_4 oX5_word_85 ?_
      refine rr_pi oX5_word_87 (ff_X5_133 rfl) kk_46 (wd_lt W rfl) ⟨by decide, rfl, by decide⟩ pf_5_23 ⟨rfl, rfl⟩ ?_
      refine ri_3 oX5_word_90 ?_
      exact rr_ireturn oX5_word_91 rfl rfl (by rw [show p + i = p + ln_N w + 1 by omega]; exact hP1 w (p + ln_N w) (by rw [hk]; show (if s_sl (sg_M L s z) w p = ln_N w then (some w, p + s_sl (sg_M L s z) w p) else _) = _; rw [if_pos (by omega), show s_sl (sg_M L s z) w p = ln_N w by omega]) hwl (by rw [hm (ln_N w) (by omega)]; exact ht.2.1))
    · refine ra_0 oX5_word_74 ?_
      refine rr_gr (v := 61) oX5_word_75 (ff_X5_66 rfl) kk_46 (wd_lt W rfl) ⟨by decide, rfl⟩ (wd_r W rfl rfl) ?_
      refine ri_5 oX5_word_78 ?_
      refine rr_iv oX5_word_80 kk_61 (wd_lt W rfl) rfl (by omega) (by decide) (hw61 _ (by omega)) ?_
      refine rr_if_ne (tgt := 92) oX5_word_81 (by decide) (fun c1 => ?_) (fun c1 => ?_)
      rotate_left
      · exact absurd c1 (of_w w hwl i (by omega)).1
      refine ri_4 oX5_word_92 ?_
      refine ri_2 oX5_word_94 ?_
      refine rr_icmp_le (tgt := 103) oX5_word_95 (by decide) (fun c2 => ?_) (fun c2 => ?_)
      · refine ri_2 oX5_word_103 ?_
        refine si_2 oX5_word_104 rfl rfl ?_
        refine lk_X5_word l W hw61 hwl ?_ (ln_N w + 1) 0 (Nat.zero_add _)
        refine rn_1 oX5_word_120 rfl rfl ?_
        refine rn_3 oX5_word_123 rfl rfl ?_
        refine rr_goto (tgt := 9) oX5_word_126 (by decide) ?_
        rw [← of_n w hwl]
        by_cases hl : i = ln_N w
        · have hfw := sl_let hwl (by omega) hm
          have hmo1 : mo ≤ 1 := by
            rcases hmo with q | ⟨u, hu, q⟩
            · omega
            · have := sl_1 hwl (show u < 5 by omega) (by omega) hfw
              omega
          exact absurd ((nI_le_iff (by omega) (by omega)).mp c2) (by omega)
        · have hsli : s_sl (sg_M L s z) w p = i := by omega
          refine ih (w + 1) mo _ _ (by omega) (by omega) ?_ ?_
          · exact hmo.elim Or.inl (fun ⟨u, hu, q⟩ => Or.inr ⟨u, by omega, q⟩)
          · rw [hk]
            show (if s_sl (sg_M L s z) w p = ln_N w then _ else wo_N (sg_M L s z) p m (w + 1) (max mo (s_sl (sg_M L s z) w p))) = _
            rw [if_neg (by omega), hsli, Nat.max_eq_left (by rw [nI_le_iff (by omega) (by omega)] at c2; omega)]
      · refine ri_4 oX5_word_98 ?_
        refine rr_goto (tgt := 104) oX5_word_100 (by decide) ?_
        refine si_2 oX5_word_104 rfl rfl ?_
        refine lk_X5_word l W hw61 hwl ?_ (ln_N w + 1) 0 (Nat.zero_add _)
        refine rn_1 oX5_word_120 rfl rfl ?_
        refine rn_3 oX5_word_123 rfl rfl ?_
        refine rr_goto (tgt := 9) oX5_word_126 (by decide) ?_
        rw [← of_n w hwl]
        by_cases hl : i = ln_N w
        · have hfw := sl_let hwl (by omega) hm
          have hmo1 : mo ≤ 1 := by
            rcases hmo with q | ⟨u, hu, q⟩
            · omega
            · have := sl_1 hwl (show u < 5 by omega) (by omega) hfw
              omega
          rw [hl]
          refine lb_X5_word l W hs hz hp hR hw61 hwl hfw (hP2 (some w) (p + ln_N w) ?_ (fun u e => by cases e; rcases hx with q | q; exact absurd q hfull; rw [hl] at q; rw [ht.2.1] at q; exact q)) m (w + 1) _ _ (by omega) (by omega)
          rw [hk]
          show (if s_sl (sg_M L s z) w p = ln_N w then (some w, p + s_sl (sg_M L s z) w p) else _) = _
          rw [if_pos (by omega), show s_sl (sg_M L s z) w p = ln_N w by omega]
        · have hsli : s_sl (sg_M L s z) w p = i := by omega
          refine ih (w + 1) i _ _ (by omega) (by omega) ?_ ?_
          · exact Or.inr ⟨w, by omega, hsli.symm⟩
          · rw [hk]
            show (if s_sl (sg_M L s z) w p = ln_N w then _ else wo_N (sg_M L s z) p m (w + 1) (max mo (s_sl (sg_M L s z) w p))) = _
            rw [if_neg (by omega), hsli, Nat.max_eq_right (by rw [nI_le_iff (by omega) (by omega)] at c2; omega)]
theorem c_X5_word (l : Launch) {I : Nat → Nat → Int32} {L : Nat → Nat → Int64} {Rf : Nat → Nat → Option Nat} {n : Nat} {s z p : Nat} (W : wd_T Rf n) (hs : s < 8) (hz : z ≤ 160) (hp : p ≤ z) (hR : rp_M I s z p) (hw61 : ∀ k, k < 32 → I 61 k = wd_W k) : wm_C l mX5_word 1 0 0 [vv_A (some 46)] (I, L, Rf, n) (q_n (fun v J => (∃ w q, wo_N (sg_M L s z) p 5 0 0 = (some w, q) ∧ w < 5 ∧ (sg_M L s z) q = 32 ∧ v = nI w ∧ J = up_I I 46 23 (nI (q + 1))) ∨ (∃ o q, wo_N (sg_M L s z) p 5 0 0 = (o, q) ∧ (∀ w, o = some w → ¬ (sg_M L s z) q = 32) ∧ v = -1 ∧ J = up_I I 46 26 (nI q))) L Rf n) := by
  refine wm_of (by decide) (Nat.le_of_ble_eq_true rfl) rfl ?_
  refine rk_0 oX5_word_0 ?_
  refine si_1 oX5_word_1 rfl rfl ?_
  refine ra_0 oX5_word_2 ?_
  refine rr_giv oX5_word_3 (ff_X5_133 rfl) kk_46 (wd_lt W rfl) ⟨by decide, rfl⟩ hR.2.2 ?_
  refine si_2 oX5_word_6 rfl rfl ?_
  refine rk_0 oX5_word_7 ?_
  refine si_3 oX5_word_8 rfl rfl ?_
  exact la_X5_word l W hs hz hp hR hw61 (fun w q e h1 h2 => q_n_of (Or.inl ⟨w, q, e, h1, h2, rfl, rfl⟩)) (fun o q e h => q_n_of (Or.inr ⟨o, q, e, h, rfl, rfl⟩)) 5 0 0 _ _ rfl (Nat.zero_le _) (Or.inl rfl) rfl
