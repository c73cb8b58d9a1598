/-! the class's Reader: things, items (by program: wip/whole/c34.py) -/
theorem wo_lt (sg : Nat → Int32) (p : Nat) : ∀ m w mo u q, wo_N sg p m w mo = (some u, q) → w ≤ u ∧ u < w + m ∧ q = p + ln_N u ∧ s_sl sg u p = ln_N u := by
  intro m
  induction m with
  | zero => intro w mo u q h; cases h
  | succ m ih =>
    intro w mo u q h
    unfold wo_N at h
    split at h
    · next e => cases h; exact ⟨Nat.le_refl _, by omega, by rw [e], e⟩
    · have := ih _ _ _ _ h; exact ⟨by omega, by omega, this.2.2⟩
theorem wo_no (sg : Nat → Int32) (p : Nat) : ∀ m w mo q, w + m ≤ 5 → mo ≤ 8 → wo_N sg p m w mo = (none, q) → q ≤ p + 8 := by
  intro m
  induction m with
  | zero => intro w mo q _ h h2; cases h2; omega
  | succ m ih =>
    intro w mo q h0 h h2
    unfold wo_N at h2
    split at h2
    · cases h2
    · exact ih _ _ _ (by omega) (by have := sl_8 (sg := sg) p (show w < 5 by omega); omega) h2
theorem sl_in {z : Nat} {sg : Nat → Int32} (hs : sg_T2 z sg) (w p : Nat) (hw : w < 5) (hp : p ≤ z) : ∀ m i, i + m = ln_N w → p + i ≤ z → p + sl_N sg w p m i ≤ z := by
  intro m
  induction m with
  | zero => intro i _ h; exact h
  | succ m ih =>
    intro i hi h
    unfold sl_N
    split
    · next q =>
      have e2 : ∀ w, w < 5 → ∀ t, t < ln_N w → ¬ s_ch w t = -1 := by decide +kernel
      exact ih (i + 1) (by omega) (sg_lt hs q (e2 w hw i (by omega)))
    · exact h
theorem wst_b {z : Nat} {sg : Nat → Int32} (hs : sg_T2 z sg) {st : rs_T} (h : rb_T z st) : rb_T z (m_wst st (wo_N sg st.1 5 0 0)) := by
  generalize e : wo_N sg st.1 5 0 0 = o
  obtain ⟨ow, q⟩ := o
  cases ow with
  | none => exact ⟨h.1, h.2.1, or_b h.2.2 (by have := wo_no sg st.1 5 0 0 q (by omega) (by omega) e; have := h.1; omega)⟩
  | some u =>
    obtain ⟨h1, h2, h3, h4⟩ := wo_lt sg st.1 5 0 0 u q e
    have h5 := sl_in hs u st.1 (by omega) h.1 (ln_N u) 0 (by omega) (by have := h.1; omega)
    have h6 : sl_N sg u st.1 (ln_N u) 0 = ln_N u := h4
    rw [h6] at h5
    exact ⟨by rw [h3]; exact h5, h.2.1, h.2.2⟩
theorem th5_b {z : Nat} {sg : Nat → Int32} (hs : sg_T2 z sg) {B : gb_T} {st : rs_T} (h : rb_T z st) : rb_T z (m_th5 sg B st).2 := by
  unfold m_th5
  simp only []
  refine (num_b hs (num_b hs ?_).1).1
  have hy := (num_b (lo := 0) (hi := 9) hs (num_b (lo := 0) (hi := 9) hs (num_b (lo := 0) (hi := 6) hs h).1).1).1
  split
  · exact hy
  · exact ⟨hy.1, hy.2.1, or_b hy.2.2 (by have := hy.2.1; omega)⟩
theorem ite_b {z : Nat} {sg : Nat → Int32} (hs : sg_T2 z sg) {B : gb_T} {st : rs_T} (h : rb_T z st) : rb_T z (m_ite sg B st).2 := by
  have hw := wst_b hs h
  unfold m_ite
  generalize e : wo_N sg st.1 5 0 0 = o at hw
  obtain ⟨ow, q⟩ := o
  cases ow with
  | none => exact hw
  | some u =>
    have hw : rb_T z (q, st.2.1, st.2.2) := hw
    show rb_T z (m_it2 sg B st.1 u (q, st.2.1, st.2.2)).2
    unfold m_it2
    split
    · unfold m_thi
      split
      · exact ⟨hw.1, hw.2.1, or_b hw.2.2 (by have := h.1; omega)⟩
      · exact th5_b hs hw
    · exact (num_b hs hw).1
    · exact (num_b hs hw).1
    · exact (hou_b hs (hou_b hs hw).1).1
    · exact (hou_b hs hw).1
theorem ls_X2_readThing (l : Launch) {I : Nat → Nat → Int32} {L : Nat → Nat → Int64} {Rf : Nat → Nat → Option Nat} {n : Nat} {M : Nat → Nat → Int32} {r s z : Nat} (W : wd_T Rf n) (hR : rd_H Rf n r s) (hz : M (30 + 2 * s) 1 = nI z ∧ z ≤ 160) {st : rs_T} (hS : rd_S M r st) (hb : rb_T z st) {B : gb_T} (hB : cg_T M 18 B) (h7 : g_n (b_G B) < 8) (hM : ∀ a, a ≠ r → M a = I a) {x k u v : Int32} {w5 w6 : vv_T} : wm_W l mX2_readThing 4 0 0 63 [vv_A (some r), vv_I x, vv_I k, vv_I u, vv_I v, w5, w6] [] (M, L, Rf, n) (q_m (fun J => tb_T I J r (m_num (s_sg z (L (30 + 2 * s + 1))) 0 9 (m_num (s_sg z (L (30 + 2 * s + 1))) 0 20 st).2).2 (if (m_num (s_sg z (L (30 + 2 * s + 1))) 0 9 (m_num (s_sg z (L (30 + 2 * s + 1))) 0 20 st).2).2.2.2 = none then b_wG B (g_add (b_G B) k u v (oI (m_num (s_sg z (L (30 + 2 * s + 1))) 0 20 st).1) (oI (m_num (s_sg z (L (30 + 2 * s + 1))) 0 9 (m_num (s_sg z (L (30 + 2 * s + 1))) 0 20 st).2).1)) else B)) L Rf n) := by
  have h67 := hR.1
  have hs8 := hR.2.2.1
  have h160 := hz.2
  refine ra_0 oX2_readThing_63 ?_
  refine rk_0 oX2_readThing_64 ?_
  refine rr_bipush (v := 20) oX2_readThing_65 (by decide) ?_
  refine rr_cVn (c_X2_readNumber l W hR hz hS hb (lo := 0) (hi := 20) (by omega) (by omega)) oX2_readThing_67 (cv_X2_49 rfl) (by decide) (rd_k hR) (by decide) hcn_2 (rd_lt hR) rfl rfl (Nat.le_of_ble_eq_true rfl) (fun v1 J hJ1 => ?_)
  obtain ⟨rfl, hJ, hJ2⟩ := hJ1
  have hbJ := (num_b (lo := 0) (hi := 20) (sg_z z (L (30 + 2 * s + 1))) hb).1
  have hzJ : J (30 + 2 * s) 1 = nI z ∧ z ≤ 160 := ⟨by rw [hJ2 _ (by omega)]; exact hz.1, hz.2⟩
  generalize m_num (s_sg z (L (30 + 2 * s + 1))) 0 20 st = mh at hJ hbJ
  refine si_5 oX2_readThing_70 rfl rfl ?_
  refine ra_0 oX2_readThing_72 ?_
  refine rk_0 oX2_readThing_73 ?_
  refine rr_bipush (v := 9) oX2_readThing_74 (by decide) ?_
  refine rr_cVn (c_X2_readNumber l W hR hzJ hJ hbJ (lo := 0) (hi := 9) (by omega) (by omega)) oX2_readThing_76 (cv_X2_49 rfl) (by decide) (rd_k hR) (by decide) hcn_2 (rd_lt hR) rfl rfl (Nat.le_of_ble_eq_true rfl) (fun v2 K hK1 => ?_)
  obtain ⟨rfl, hK, hK2⟩ := hK1
  have hbK := (num_b (lo := 0) (hi := 9) (sg_z z (L (30 + 2 * s + 1))) hbJ).1
  generalize m_num (s_sg z (L (30 + 2 * s + 1))) 0 9 mh.2 = ma at hK hbK
  have hBK : cg_T K 18 B := cg_ce hB (fun j hj => by rw [hK2 _ (by omega), hJ2 _ (by omega)])
  refine si_6 oX2_readThing_79 rfl rfl ?_
  refine ra_0 oX2_readThing_81 ?_
  refine rr_giv oX2_readThing_82 (ff_X2_18 rfl) (rd_k hR) (rd_lt hR) ⟨by decide, rfl⟩ hK.2.2 ?_
  obtain ⟨va, pa, fda, fa⟩ := ma
  rcases fa with _ | y
  · refine rk_m1 oX2_readThing_85 ?_
    refine rr_icmp_ne (tgt := 105) oX2_readThing_86 (by decide) (fun c => ?_) (fun c => ?_)
    · exact absurd rfl c
    refine ra_0 oX2_readThing_89 ?_
    refine rr_gr (v := 18) oX2_readThing_90 (ff_X2_25 rfl) (rd_k hR) (rd_lt hR) ⟨by decide, rfl⟩ (rd_1 hR) ?_
    refine ri_2 oX2_readThing_93 ?_
    refine ri_3 oX2_readThing_94 ?_
    refine ri_4 oX2_readThing_95 ?_
    refine ri_5 oX2_readThing_97 ?_
    refine ri_6 oX2_readThing_99 ?_
    refine rr_cVn (c_X1_add l W gd_18 h7 (gv_c hBK.1.1)) oX2_readThing_101 (cv_X2_82 rfl) (by decide) (gd_k gd_18) (by decide) hcn_1 (gd_lt (j := 0) W gd_18 rfl) rfl rfl (Nat.le_of_ble_eq_true rfl) (fun v3 A hA1 => ?_)
    obtain ⟨rfl, hA⟩ := hA1
    refine rr_pop oX2_readThing_104 rfl ?_
    exact rr_return oX2_readThing_105 rfl (q_m_of ⟨rd_ne hK (hA.2.2.2 r (by omega)), ⟨ad_gs h7 hA hBK.1, by rw [hA.2.1 4 (by omega)]; exact hBK.2.1, by rw [hA.2.1 5 (by omega)]; exact hBK.2.2⟩, fun a q1 q2 => by rw [hA.2.2.2 a (by omega), hK2 a q1, hJ2 a q1, hM a q1]⟩)
  · have hy : y ≤ z + 8 := hbK.2.2 y rfl
    refine rk_m1 oX2_readThing_85 ?_
    refine rr_icmp_ne (tgt := 105) oX2_readThing_86 (by decide) (fun c => ?_) (fun c => ?_)
    rotate_left
    · exact absurd c (nI_nm1 (by omega))
    exact rr_return oX2_readThing_105 rfl (q_m_of ⟨hK, hBK, fun a q1 q2 => by rw [hK2 a q1, hJ2 a q1, hM a q1]⟩)
theorem c_X2_readThing (l : Launch) {I : Nat → Nat → Int32} {L : Nat → Nat → Int64} {Rf : Nat → Nat → Option Nat} {n : Nat} {r s z : Nat} (W : wd_T Rf n) (hR : rd_H Rf n r s) (hz : I (30 + 2 * s) 1 = nI z ∧ z ≤ 160)  {st : rs_T} (hS : rd_S I r st) (hb : rb_T z st) {wp : Nat} (hwp : wp ≤ z) {B : gb_T} (hB : cg_T I 18 B) : wm_C l mX2_readThing 4 0 0 [vv_A (some r), vv_I (nI wp)] (I, L, Rf, n) (q_m (fun J => tb_T I J r (m_thi (s_sg z (L (30 + 2 * s + 1))) B wp st).2 (m_thi (s_sg z (L (30 + 2 * s + 1))) B wp st).1) L Rf n) := by
  refine wm_of (by decide) (Nat.le_of_ble_eq_true rfl) rfl ?_
  have h67 := hR.1
  have hs8 := hR.2.2.1
  have h160 := hz.2
  obtain ⟨hb0, hb00, hb000⟩ := id hb
  have h8 : g_n (b_G B) ≤ 8 := gv_8 hB.1.1
  refine ra_0 oX2_readThing_0 ?_
  refine rr_gr (v := 18) oX2_readThing_1 (ff_X2_25 rfl) (rd_k hR) (rd_lt hR) ⟨by decide, rfl⟩ (rd_1 hR) ?_
  refine rr_cVi (c_X1_isFull l W gd_18) oX2_readThing_4 (cv_X2_72 rfl) (by decide) (gd_k gd_18) (by decide) hcn_1 (gd_lt (j := 0) W gd_18 rfl) rfl rfl (Nat.le_of_ble_eq_true rfl) ?_
  refine rr_ifb_eq (tgt := 16) oX2_readThing_7 (by decide) (fun c => ?_) (fun c => ?_)
  · rw [gv_c hB.1.1, show (8 : Int32) = nI 8 from rfl, nI_le_iff (by omega) (by omega)] at c
    rw [m_thi, if_neg c]
    refine ra_0 oX2_readThing_16 ?_
    refine rk_0 oX2_readThing_17 ?_
    refine rr_bipush (v := 6) oX2_readThing_18 (by decide) ?_
    refine rr_cVn (c_X2_readNumber l W hR hz hS hb (lo := 0) (hi := 6) (by omega) (by omega)) oX2_readThing_20 (cv_X2_49 rfl) (by decide) (rd_k hR) (by decide) hcn_2 (rd_lt hR) rfl rfl (Nat.le_of_ble_eq_true rfl) (fun vJ J hJ1 => ?_)
    obtain ⟨rfl, hJ, hJ2⟩ := hJ1
    have hbJ := (num_b (lo := 0) (hi := 6) (sg_z z (L (30 + 2 * s + 1))) hb).1
    have hzJ : J (30 + 2 * s) 1 = nI z ∧ z ≤ 160 := ⟨by rw [hJ2 _ (by omega)]; exact hz.1, hz.2⟩
    generalize eJ : m_num (s_sg z (L (30 + 2 * s + 1))) 0 6 st = mk at hJ hbJ
    refine si_2 oX2_readThing_23 rfl rfl ?_
    refine ra_0 oX2_readThing_24 ?_
    refine rk_0 oX2_readThing_25 ?_
    refine rr_bipush (v := 9) oX2_readThing_26 (by decide) ?_
    refine rr_cVn (c_X2_readNumber l W hR hzJ hJ hbJ (lo := 0) (hi := 9) (by omega) (by omega)) oX2_readThing_28 (cv_X2_49 rfl) (by decide) (rd_k hR) (by decide) hcn_2 (rd_lt hR) rfl rfl (Nat.le_of_ble_eq_true rfl) (fun vK K hK1 => ?_)
    obtain ⟨rfl, hK, hK2⟩ := hK1
    have hbK := (num_b (lo := 0) (hi := 9) (sg_z z (L (30 + 2 * s + 1))) hbJ).1
    have hzK : K (30 + 2 * s) 1 = nI z ∧ z ≤ 160 := ⟨by rw [hK2 _ (by omega)]; exact hzJ.1, hz.2⟩
    generalize eK : m_num (s_sg z (L (30 + 2 * s + 1))) 0 9 mk.2 = mx at hK hbK
    refine si_3 oX2_readThing_31 rfl rfl ?_
    refine ra_0 oX2_readThing_32 ?_
    refine rk_0 oX2_readThing_33 ?_
    refine rr_bipush (v := 9) oX2_readThing_34 (by decide) ?_
    refine rr_cVn (c_X2_readNumber l W hR hzK hK hbK (lo := 0) (hi := 9) (by omega) (by omega)) oX2_readThing_36 (cv_X2_49 rfl) (by decide) (rd_k hR) (by decide) hcn_2 (rd_lt hR) rfl rfl (Nat.le_of_ble_eq_true rfl) (fun vT T hT1 => ?_)
    obtain ⟨rfl, hT, hT2⟩ := hT1
    have hbT := (num_b (lo := 0) (hi := 9) (sg_z z (L (30 + 2 * s + 1))) hbK).1
    have hzT : T (30 + 2 * s) 1 = nI z ∧ z ≤ 160 := ⟨by rw [hT2 _ (by omega)]; exact hzK.1, hz.2⟩
    generalize eT : m_num (s_sg z (L (30 + 2 * s + 1))) 0 9 mx.2 = my at hT hbT
    refine si_4 oX2_readThing_39 rfl rfl ?_
    have hBT : cg_T T 18 B := cg_ce hB (fun j hj => by rw [hT2 _ (by omega), hK2 _ (by omega), hJ2 _ (by omega)])
    refine ra_0 oX2_readThing_41 ?_
    refine rr_gr (v := 18) oX2_readThing_42 (ff_X2_25 rfl) (rd_k hR) (rd_lt hR) ⟨by decide, rfl⟩ (rd_1 hR) ?_
    refine ri_3 oX2_readThing_45 ?_
    refine ri_4 oX2_readThing_46 ?_
    refine rr_cVi (c_X1_thingAt l W gd_18 hBT.1.1) oX2_readThing_48 (cv_X2_79 rfl) (by decide) (gd_k gd_18) (by decide) hcn_1 (gd_lt (j := 0) W gd_18 rfl) rfl rfl (Nat.le_of_ble_eq_true rfl) ?_
    refine rk_m1 oX2_readThing_51 ?_
    refine rr_icmp_eq (tgt := 63) oX2_readThing_52 (by decide) (fun c1 => ?_) (fun c1 => ?_)
    · rw [at_m1 h8] at c1
      have es : (if s_at (b_G B) (oI mx.1) (oI my.1) = none then my.2 else (my.2.1, my.2.2.1, or_F my.2.2.2 my.2.2.1)) = my.2 := if_pos c1
      have e5 : m_th5 (s_sg z (L (30 + 2 * s + 1))) B st = (if (m_num (s_sg z (L (30 + 2 * s + 1))) 0 9 (m_num (s_sg z (L (30 + 2 * s + 1))) 0 20 my.2).2).2.2.2 = none then b_wG B (g_add (b_G B) (oI mk.1) (oI mx.1) (oI my.1) (oI (m_num (s_sg z (L (30 + 2 * s + 1))) 0 20 my.2).1) (oI (m_num (s_sg z (L (30 + 2 * s + 1))) 0 9 (m_num (s_sg z (L (30 + 2 * s + 1))) 0 20 my.2).2).1)) else B, (m_num (s_sg z (L (30 + 2 * s + 1))) 0 9 (m_num (s_sg z (L (30 + 2 * s + 1))) 0 20 my.2).2).2) := by
        unfold m_th5
        simp only [eJ, eK, eT, es]
      rw [e5]
      exact ls_X2_readThing l W hR hzT hT hbT hBT (by omega) (fun a ha => by rw [hT2 a ha, hK2 a ha, hJ2 a ha])
    · rw [at_m1 h8] at c1
      have es : (if s_at (b_G B) (oI mx.1) (oI my.1) = none then my.2 else (my.2.1, my.2.2.1, or_F my.2.2.2 my.2.2.1)) = (my.2.1, my.2.2.1, or_F my.2.2.2 my.2.2.1) := if_neg c1
      refine ra_0 oX2_readThing_55 ?_
      refine ra_0 oX2_readThing_56 ?_
      refine rr_giv oX2_readThing_57 (ff_X2_15 rfl) (rd_k hR) (rd_lt hR) ⟨by decide, rfl⟩ hT.2.1 ?_
      refine rr_cVm (c_X2_faultAt l W hR hzT hT hbT (x := my.2.2.1)) oX2_readThing_60 (cv_X2_76 rfl) (by decide) (rd_k hR) (by decide) hcn_2 (rd_lt hR) rfl rfl (Nat.le_of_ble_eq_true rfl) (fun U hU => ?_)
      have e5 : m_th5 (s_sg z (L (30 + 2 * s + 1))) B st = (if (m_num (s_sg z (L (30 + 2 * s + 1))) 0 9 (m_num (s_sg z (L (30 + 2 * s + 1))) 0 20 (my.2.1, my.2.2.1, or_F my.2.2.2 my.2.2.1)).2).2.2.2 = none then b_wG B (g_add (b_G B) (oI mk.1) (oI mx.1) (oI my.1) (oI (m_num (s_sg z (L (30 + 2 * s + 1))) 0 20 (my.2.1, my.2.2.1, or_F my.2.2.2 my.2.2.1)).1) (oI (m_num (s_sg z (L (30 + 2 * s + 1))) 0 9 (m_num (s_sg z (L (30 + 2 * s + 1))) 0 20 (my.2.1, my.2.2.1, or_F my.2.2.2 my.2.2.1)).2).1)) else B, (m_num (s_sg z (L (30 + 2 * s + 1))) 0 9 (m_num (s_sg z (L (30 + 2 * s + 1))) 0 20 (my.2.1, my.2.2.1, or_F my.2.2.2 my.2.2.1)).2).2) := by
        unfold m_th5
        simp only [eJ, eK, eT, es]
      rw [e5]
      exact ls_X2_readThing l W hR ⟨by rw [hU.2 _ (by omega)]; exact hzT.1, hz.2⟩ hU.1 ⟨hbT.1, hbT.2.1, or_b hbT.2.2 (by have := hbT.2.1; omega)⟩ (cg_ce hBT (fun j hj => hU.2 _ (by omega))) (by omega) (fun a ha => by rw [hU.2 a ha, hT2 a ha, hK2 a ha, hJ2 a ha])
  · rw [gv_c hB.1.1, show (8 : Int32) = nI 8 from rfl, nI_le_iff (by omega) (by omega)] at c
    refine ra_0 oX2_readThing_10 ?_
    refine ri_1 oX2_readThing_11 ?_
    refine rr_cVm (c_X2_faultAt l W hR hz hS hb (x := wp)) oX2_readThing_12 (cv_X2_76 rfl) (by decide) (rd_k hR) (by decide) hcn_2 (rd_lt hR) rfl rfl (Nat.le_of_ble_eq_true rfl) (fun K hK => ?_)
    exact rr_return oX2_readThing_15 rfl (q_m_of (by rw [m_thi, if_pos c]; exact rk_tb h67 hB hK))
theorem c_X2_readItem (l : Launch) {I : Nat → Nat → Int32} {L : Nat → Nat → Int64} {Rf : Nat → Nat → Option Nat} {n : Nat} {r s z : Nat} (W : wd_T Rf n) (hR : rd_H Rf n r s) (hz : I (30 + 2 * s) 1 = nI z ∧ z ≤ 160)  {st : rs_T} (hS : rd_S I r st) (hb : rb_T z st) {B : gb_T} (hB : cg_T I 18 B) : wm_C l mX2_readItem 7 0 0 [vv_A (some r)] (I, L, Rf, n) (q_m (fun J => tb_T I J r (m_ite (s_sg z (L (30 + 2 * s + 1))) B st).2 (m_ite (s_sg z (L (30 + 2 * s + 1))) B st).1) L Rf n) := by
  refine wm_of (by decide) (Nat.le_of_ble_eq_true rfl) rfl ?_
  have h67 := hR.1
  have hs8 := hR.2.2.1
  have h160 := hz.2
  obtain ⟨hb0, hb00, hb000⟩ := id hb
  refine ra_0 oX2_readItem_0 ?_
  refine rr_giv oX2_readItem_1 (ff_X2_9 rfl) (rd_k hR) (rd_lt hR) ⟨by decide, rfl⟩ hS.1 ?_
  refine si_1 oX2_readItem_4 rfl rfl ?_
  refine ra_0 oX2_readItem_5 ?_
  refine rr_cVn (c_X2_readWord l W hR hz hS hb) oX2_readItem_6 (cv_X2_41 rfl) (by decide) (rd_k hR) (by decide) hcn_2 (rd_lt hR) rfl rfl (Nat.le_of_ble_eq_true rfl) (fun v1 J hJ1 => ?_)
  obtain ⟨rfl, hJ, hJ2⟩ := hJ1
  have hbJ := wst_b (sg_z z (L (30 + 2 * s + 1))) hb
  have hlt := wo_lt (s_sg z (L (30 + 2 * s + 1))) st.1 5 0 0
  have hzJ : J (30 + 2 * s) 1 = nI z ∧ z ≤ 160 := ⟨by rw [hJ2 _ (by omega)]; exact hz.1, hz.2⟩
  have hBJ : cg_T J 18 B := cg_ce hB (fun j hj => hJ2 _ (by omega))
  generalize eo : wo_N (s_sg z (L (30 + 2 * s + 1))) st.1 5 0 0 = ow at hJ hbJ hlt
  obtain ⟨ow, q⟩ := ow
  rcases ow with _ | u
  rotate_left
  · have hu := (hlt u q rfl).2.1
    have e : u = 0 ∨ u = 1 ∨ u = 2 ∨ u = 3 ∨ u = 4 := by omega
    replace hJ : rd_S J r (q, st.2.1, st.2.2) := hJ
    replace hbJ : rb_T z (q, st.2.1, st.2.2) := hbJ
    rcases e with rfl | rfl | rfl | rfl | rfl
    · change wm_W l mX2_readItem 7 0 0 9 _ [vv_I 0] (J, L, Rf, n) _
      refine rr_tabIn (off := 35) (tgt := 44) oX2_readItem_9 (by decide) (by decide) (by decide) (by decide) ?_
      refine ra_0 oX2_readItem_44 ?_
      refine ri_1 oX2_readItem_45 ?_
      refine rr_cVm (c_X2_readThing l W hR hzJ hJ hbJ (wp := st.1) (by omega) hBJ) oX2_readItem_46 (cv_X2_45 rfl) (by decide) (rd_k hR) (by decide) hcn_2 (rd_lt hR) rfl rfl (Nat.le_of_ble_eq_true rfl) (fun K hK => ?_)
      refine rr_goto (tgt := 116) oX2_readItem_49 (by decide) ?_
      exact rr_return oX2_readItem_116 rfl (q_m_of (by
          have ei : m_ite (s_sg z (L (30 + 2 * s + 1))) B st = m_it2 (s_sg z (L (30 + 2 * s + 1))) B st.1 0 (q, st.2.1, st.2.2) := by unfold m_ite; rw [eo]
          rw [ei]
          exact tb_tr (fun a q1 _ => hJ2 a q1) hK))
    · change wm_W l mX2_readItem 7 0 0 9 _ [vv_I 1] (J, L, Rf, n) _
      refine rr_tabIn (off := 43) (tgt := 52) oX2_readItem_9 (by decide) (by decide) (by decide) (by decide) ?_
      refine ra_0 oX2_readItem_52 ?_
      refine rr_gr (v := 18) oX2_readItem_53 (ff_X2_25 rfl) (rd_k hR) (rd_lt hR) ⟨by decide, rfl⟩ (rd_1 hR) ?_
      refine ra_0 oX2_readItem_56 ?_
      refine rk_0 oX2_readItem_57 ?_
      refine rk_1 oX2_readItem_58 ?_
      refine rr_cVn (c_X2_readNumber l W hR hzJ hJ hbJ (lo := 0) (hi := 1) (by omega) (by omega)) oX2_readItem_59 (cv_X2_49 rfl) (by decide) (rd_k hR) (by decide) hcn_2 (rd_lt hR) rfl rfl (Nat.le_of_ble_eq_true rfl) (fun vK K hK1 => ?_)
      obtain ⟨rfl, hK, hK2⟩ := hK1
      have hbK := (num_b (lo := 0) (hi := 1) (sg_z z (L (30 + 2 * s + 1))) hbJ).1
      have hzK : K (30 + 2 * s) 1 = nI z ∧ z ≤ 160 := ⟨by rw [hK2 _ (by omega)]; exact hzJ.1, hz.2⟩
      generalize eK : m_num (s_sg z (L (30 + 2 * s + 1))) 0 1 (q, st.2.1, st.2.2) = mv at hK hbK
      refine rr_pi oX2_readItem_62 (ff_X2_53 rfl) (gd_k gd_18) (gd_lt (j := 0) W gd_18 rfl) ⟨by decide, rfl, by decide⟩ pf_1_1 ⟨rfl, rfl⟩ ?_
      refine rr_goto (tgt := 116) oX2_readItem_65 (by decide) ?_
      exact rr_return oX2_readItem_116 rfl (q_m_of (by
          have ei : m_ite (s_sg z (L (30 + 2 * s + 1))) B st = m_it2 (s_sg z (L (30 + 2 * s + 1))) B st.1 1 (q, st.2.1, st.2.2) := by unfold m_ite; rw [eo]
          rw [ei]
          rw [show m_it2 (s_sg z (L (30 + 2 * s + 1))) B st.1 1 (q, st.2.1, st.2.2) = (b_wG B (g_ws (b_G B) (oI mv.1)), mv.2) from by unfold m_it2; simp only [eK]]
          exact ⟨rd_ne hK (up_I_ne (by omega)), cg_su (cg_ce hBJ (fun j hj => hK2 _ (by omega))), fun a q1 q2 => by rw [up_I_ne (by omega), hK2 a q1, hJ2 a q1]⟩))
    · change wm_W l mX2_readItem 7 0 0 9 _ [vv_I 2] (J, L, Rf, n) _
      refine rr_tabIn (off := 59) (tgt := 68) oX2_readItem_9 (by decide) (by decide) (by decide) (by decide) ?_
      refine ra_0 oX2_readItem_68 ?_
      refine rr_gr (v := 18) oX2_readItem_69 (ff_X2_25 rfl) (rd_k hR) (rd_lt hR) ⟨by decide, rfl⟩ (rd_1 hR) ?_
      refine ra_0 oX2_readItem_72 ?_
      refine rk_1 oX2_readItem_73 ?_
      refine rr_bipush (v := 9) oX2_readItem_74 (by decide) ?_
      refine rr_cVn (c_X2_readNumber l W hR hzJ hJ hbJ (lo := 1) (hi := 9) (by omega) (by omega)) oX2_readItem_76 (cv_X2_49 rfl) (by decide) (rd_k hR) (by decide) hcn_2 (rd_lt hR) rfl rfl (Nat.le_of_ble_eq_true rfl) (fun vK K hK1 => ?_)
      obtain ⟨rfl, hK, hK2⟩ := hK1
      have hbK := (num_b (lo := 1) (hi := 9) (sg_z z (L (30 + 2 * s + 1))) hbJ).1
      have hzK : K (30 + 2 * s) 1 = nI z ∧ z ≤ 160 := ⟨by rw [hK2 _ (by omega)]; exact hzJ.1, hz.2⟩
      generalize eK : m_num (s_sg z (L (30 + 2 * s + 1))) 1 9 (q, st.2.1, st.2.2) = mv at hK hbK
      refine rr_pi oX2_readItem_79 (ff_X2_58 rfl) (gd_k gd_18) (gd_lt (j := 0) W gd_18 rfl) ⟨by decide, rfl, by decide⟩ pf_1_2 ⟨rfl, rfl⟩ ?_
      refine rr_goto (tgt := 116) oX2_readItem_82 (by decide) ?_
      exact rr_return oX2_readItem_116 rfl (q_m_of (by
          have ei : m_ite (s_sg z (L (30 + 2 * s + 1))) B st = m_it2 (s_sg z (L (30 + 2 * s + 1))) B st.1 2 (q, st.2.1, st.2.2) := by unfold m_ite; rw [eo]
          rw [ei]
          rw [show m_it2 (s_sg z (L (30 + 2 * s + 1))) B st.1 2 (q, st.2.1, st.2.2) = (b_wG B (g_wf (b_G B) (oI mv.1)), mv.2) from by unfold m_it2; simp only [eK]]
          exact ⟨rd_ne hK (up_I_ne (by omega)), cg_fa (cg_ce hBJ (fun j hj => hK2 _ (by omega))), fun a q1 q2 => by rw [up_I_ne (by omega), hK2 a q1, hJ2 a q1]⟩))
    · change wm_W l mX2_readItem 7 0 0 9 _ [vv_I 3] (J, L, Rf, n) _
      refine rr_tabIn (off := 76) (tgt := 85) oX2_readItem_9 (by decide) (by decide) (by decide) (by decide) ?_
      refine ra_0 oX2_readItem_85 ?_
      refine rk_m1 oX2_readItem_86 ?_
      refine rr_cVn (c_X2_readHouse l W hR hzJ hJ hbJ (un := none) (fun x h => by cases h) hBJ.1.1) oX2_readItem_87 (cv_X2_61 rfl) (by decide) (rd_k hR) (by decide) hcn_2 (rd_lt hR) rfl rfl (Nat.le_of_ble_eq_true rfl) (fun vK K hK1 => ?_)
      obtain ⟨rfl, hK, hK2⟩ := hK1
      obtain ⟨hbK, hvK, hfK⟩ := hou_b (B := B) (un := none) (sg_z z (L (30 + 2 * s + 1))) hbJ
      have hzK : K (30 + 2 * s) 1 = nI z ∧ z ≤ 160 := ⟨by rw [hK2 _ (by omega)]; exact hzJ.1, hz.2⟩
      have hBK : cg_T K 18 B := cg_ce hBJ (fun j hj => hK2 _ (by omega))
      generalize eK : m_hou (s_sg z (L (30 + 2 * s + 1))) B none (q, st.2.1, st.2.2) = mi at hK hbK hvK hfK
      refine si_2 oX2_readItem_90 rfl rfl ?_
      refine ra_0 oX2_readItem_91 ?_
      refine ri_2 oX2_readItem_92 ?_
      refine ra_0 oX2_readItem_93 ?_
      refine ri_2 oX2_readItem_94 ?_
      refine rr_cVn (c_X2_readHouse l W hR hzK hK hbK (un := mi.1) hvK hBK.1.1) oX2_readItem_95 (cv_X2_61 rfl) (by decide) (rd_k hR) (by decide) hcn_2 (rd_lt hR) rfl rfl (Nat.le_of_ble_eq_true rfl) (fun vT T hT1 => ?_)
      obtain ⟨rfl, hT, hT2⟩ := hT1
      obtain ⟨hbT, hvT, hfT⟩ := hou_b (B := B) (un := mi.1) (sg_z z (L (30 + 2 * s + 1))) hbK
      have hzT : T (30 + 2 * s) 1 = nI z ∧ z ≤ 160 := ⟨by rw [hT2 _ (by omega)]; exact hzK.1, hz.2⟩
      have hBT : cg_T T 18 B := cg_ce hBK (fun j hj => hT2 _ (by omega))
      generalize eT : m_hou (s_sg z (L (30 + 2 * s + 1))) B mi.1 mi.2 = mj at hT hbT hvT hfT
      refine rr_cVm (c_X2_tellShut l W hR hzT hT hbT hBT (i := mi.1) (j := mj.1) (fun h => by
          obtain ⟨e1, b1, e2, e3, -⟩ := hfT h
          obtain ⟨-, a1, e4, e5, -⟩ := hfK e1
          exact ⟨a1, b1, e4, e2, by omega, by omega⟩)) oX2_readItem_98 (cv_X2_65 rfl) (by decide) (rd_k hR) (by decide) hcn_2 (rd_lt hR) rfl rfl (Nat.le_of_ble_eq_true rfl) (fun U hU => ?_)
      refine rr_goto (tgt := 116) oX2_readItem_101 (by decide) ?_
      exact rr_return oX2_readItem_116 rfl (q_m_of (by
          have ei : m_ite (s_sg z (L (30 + 2 * s + 1))) B st = m_it2 (s_sg z (L (30 + 2 * s + 1))) B st.1 3 (q, st.2.1, st.2.2) := by unfold m_ite; rw [eo]
          rw [ei]
          rw [show m_it2 (s_sg z (L (30 + 2 * s + 1))) B st.1 3 (q, st.2.1, st.2.2) = (if mj.2.2.2 = none then b_shu B mi.1 mj.1 else B, mj.2) from by unfold m_it2; simp only [eK, eT]]
          exact tb_tr (fun a q1 _ => by rw [hT2 a q1, hK2 a q1, hJ2 a q1]) hU))
    · change wm_W l mX2_readItem 7 0 0 9 _ [vv_I 4] (J, L, Rf, n) _
      refine rr_tabIn (off := 95) (tgt := 104) oX2_readItem_9 (by decide) (by decide) (by decide) (by decide) ?_
      refine ra_0 oX2_readItem_104 ?_
      refine ra_0 oX2_readItem_105 ?_
      refine rk_m1 oX2_readItem_106 ?_
      refine rr_cVn (c_X2_readHouse l W hR hzJ hJ hbJ (un := none) (fun x h => by cases h) hBJ.1.1) oX2_readItem_107 (cv_X2_61 rfl) (by decide) (rd_k hR) (by decide) hcn_2 (rd_lt hR) rfl rfl (Nat.le_of_ble_eq_true rfl) (fun vK K hK1 => ?_)
      obtain ⟨rfl, hK, hK2⟩ := hK1
      obtain ⟨hbK, hvK, hfK⟩ := hou_b (B := B) (un := none) (sg_z z (L (30 + 2 * s + 1))) hbJ
      have hzK : K (30 + 2 * s) 1 = nI z ∧ z ≤ 160 := ⟨by rw [hK2 _ (by omega)]; exact hzJ.1, hz.2⟩
      have hBK : cg_T K 18 B := cg_ce hBJ (fun j hj => hK2 _ (by omega))
      generalize eK : m_hou (s_sg z (L (30 + 2 * s + 1))) B none (q, st.2.1, st.2.2) = mi at hK hbK hvK hfK
      refine rr_cVm (c_X2_tellDrawn l W hR hzK hK hbK hBK (i := mi.1) (fun h => by
          obtain ⟨-, a1, e4, e5, -⟩ := hfK h
          exact ⟨a1, e4, by omega⟩)) oX2_readItem_110 (cv_X2_69 rfl) (by decide) (rd_k hR) (by decide) hcn_2 (rd_lt hR) rfl rfl (Nat.le_of_ble_eq_true rfl) (fun U hU => ?_)
      refine rr_goto (tgt := 116) oX2_readItem_113 (by decide) ?_
      exact rr_return oX2_readItem_116 rfl (q_m_of (by
          have ei : m_ite (s_sg z (L (30 + 2 * s + 1))) B st = m_it2 (s_sg z (L (30 + 2 * s + 1))) B st.1 4 (q, st.2.1, st.2.2) := by unfold m_ite; rw [eo]
          rw [ei]
          rw [show m_it2 (s_sg z (L (30 + 2 * s + 1))) B st.1 4 (q, st.2.1, st.2.2) = (if mi.2.2.2 = none then b_drw B mi.1 else B, mi.2) from by unfold m_it2; simp only [eK]]
          exact tb_tr (fun a q1 _ => by rw [hK2 a q1, hJ2 a q1]) hU))
  · change wm_W l mX2_readItem 7 0 0 9 _ [vv_I (-1)] (J, L, Rf, n) _
    refine rr_tabOut (tgt := 116) oX2_readItem_9 (by decide) (by decide) ?_
    exact rr_return oX2_readItem_116 rfl (q_m_of (by
        have ei : m_ite (s_sg z (L (30 + 2 * s + 1))) B st = (B, (st.1, st.2.1, or_F st.2.2 q)) := by unfold m_ite; rw [eo]
        rw [ei]
        exact ⟨hJ, hBJ, fun a q1 _ => hJ2 a q1⟩))
theorem lp_X2_readItems (l : Launch) {I0 : Nat → Nat → Int32} {L : Nat → Nat → Int64} {Rf : Nat → Nat → Option Nat} {n : Nat} {r s z : Nat} (W : wd_T Rf n) (hR : rd_H Rf n r s) : ∀ m it (I : Nat → Nat → Int32) (B : gb_T) (st : rs_T), it + m = 161 → (I (30 + 2 * s) 1 = nI z ∧ z ≤ 160) → rd_S I r st → rb_T z st → cg_T I 18 B → (∀ a, a ≠ r → (a < 18 ∨ 24 < a) → I a = I0 a) → wm_W l mX2_readItems 8 0 0 2 [vv_A (some r), vv_I (nI it)] [] (I, L, Rf, n) (q_n (fun v J => v = oI (m_its z (s_sg z (L (30 + 2 * s + 1))) m it B st).1 ∧ tb_T I0 J r (m_its z (s_sg z (L (30 + 2 * s + 1))) m it B st).2.2 (m_its z (s_sg z (L (30 + 2 * s + 1))) m it B st).2.1) L Rf n) := by
  intro m
  induction m with
  | zero =>
    intro it I B st hit hz hS hb hB hI
    have h67 := hR.1
    have hs8 := hR.2.2.1
    have h160 := hz.2
    obtain ⟨hb0, hb00, hb000⟩ := id hb
    refine ri_1 oX2_readItems_2 ?_
    refine rr_sipush (v := 160) oX2_readItems_3 (by decide) ?_
    refine rr_icmp_gt (tgt := 59) oX2_readItems_6 (by decide) (fun c => ?_) (fun c => ?_)
    rotate_left
    · exact absurd (show (160 : Int32) < nI it from by rw [show (160 : Int32) = nI 160 from rfl, nI_lt_iff (by omega) (by omega)]; omega) c
    refine rk_m1 oX2_readItems_59 ?_
    exact rr_ireturn oX2_readItems_60 rfl rfl (q_n_of ⟨rfl, hS, hB, hI⟩)
  | succ m ih =>
    intro it I B st hit hz hS hb hB hI
    have h67 := hR.1
    have hs8 := hR.2.2.1
    have h160 := hz.2
    obtain ⟨hb0, hb00, hb000⟩ := id hb
    refine ri_1 oX2_readItems_2 ?_
    refine rr_sipush (v := 160) oX2_readItems_3 (by decide) ?_
    refine rr_icmp_gt (tgt := 59) oX2_readItems_6 (by decide) (fun c => ?_) (fun c => ?_)
    · (rw [show (160 : Int32) = nI 160 from rfl, nI_lt_iff (by omega) (by omega)] at c; omega)
    refine ra_0 oX2_readItems_9 ?_
    refine rr_cVm (c_X2_readItem l W hR hz hS hb hB) oX2_readItems_10 (cv_X2_29 rfl) (by decide) (rd_k hR) (by decide) hcn_2 (rd_lt hR) rfl rfl (Nat.le_of_ble_eq_true rfl) (fun J hJ => ?_)
    obtain ⟨hJ, hBJ, hJ2⟩ := hJ
    have hbJ := ite_b (B := B) (sg_z z (L (30 + 2 * s + 1))) hb
    have hzJ : J (30 + 2 * s) 1 = nI z ∧ z ≤ 160 := ⟨by rw [hJ2 _ (by omega) (by omega)]; exact hz.1, hz.2⟩
    have eit : m_its z (s_sg z (L (30 + 2 * s + 1))) (m + 1) it B st = if (m_ite (s_sg z (L (30 + 2 * s + 1))) B st).2.2.2 = none ∧ z ≤ (m_ite (s_sg z (L (30 + 2 * s + 1))) B st).2.1 then (some it, m_ite (s_sg z (L (30 + 2 * s + 1))) B st) else if (m_sgn (s_sg z (L (30 + 2 * s + 1))) 59 (m_ite (s_sg z (L (30 + 2 * s + 1))) B st).2).2.2 = none then m_its z (s_sg z (L (30 + 2 * s + 1))) m (it + 1) (m_ite (s_sg z (L (30 + 2 * s + 1))) B st).1 (m_sgn (s_sg z (L (30 + 2 * s + 1))) 59 (m_ite (s_sg z (L (30 + 2 * s + 1))) B st).2) else (none, (m_ite (s_sg z (L (30 + 2 * s + 1))) B st).1, m_sgn (s_sg z (L (30 + 2 * s + 1))) 59 (m_ite (s_sg z (L (30 + 2 * s + 1))) B st).2) := rfl
    rw [eit]
    generalize m_ite (s_sg z (L (30 + 2 * s + 1))) B st = o at hJ hBJ hbJ
    obtain ⟨B2, p2, fd2, f2⟩ := o
    replace hJ : rd_S J r (p2, fd2, f2) := hJ
    replace hbJ : rb_T z (p2, fd2, f2) := hbJ
    replace hBJ : cg_T J 18 B2 := hBJ
    have hp2 : p2 ≤ z := hbJ.1
    refine ra_0 oX2_readItems_13 ?_
    refine rr_giv oX2_readItems_14 (ff_X2_18 rfl) (rd_k hR) (rd_lt hR) ⟨by decide, rfl⟩ hJ.2.2 ?_
    rcases f2 with _ | y
    · refine rk_m1 oX2_readItems_17 ?_
      refine rr_icmp_ne (tgt := 37) oX2_readItems_18 (by decide) (fun c1 => ?_) (fun c1 => ?_)
      · exact absurd rfl c1
      refine ra_0 oX2_readItems_21 ?_
      refine rr_giv oX2_readItems_22 (ff_X2_9 rfl) (rd_k hR) (rd_lt hR) ⟨by decide, rfl⟩ hJ.1 ?_
      refine ra_0 oX2_readItems_25 ?_
      refine rr_gr oX2_readItems_26 (ff_X2_21 rfl) (rd_k hR) (rd_lt hR) ⟨by decide, rfl⟩ (rd_0 hR) ?_
      refine rr_giv oX2_readItems_29 (ff_X2_32 rfl) (sh_k (sh_of hR.2.2.1)) (sh_lt (j := 0) W (sh_of hR.2.2.1) rfl) ⟨by decide, rfl⟩ hzJ.1 ?_
      refine rr_icmp_lt (tgt := 37) oX2_readItems_32 (by decide) (fun c2 => ?_) (fun c2 => ?_)
      · rw [nI_lt_iff (by omega) (by omega)] at c2
        replace c2 : p2 < z := c2
        refine ra_0 oX2_readItems_37 ?_
        refine rr_bipush (v := 59) oX2_readItems_38 (by decide) ?_
        refine rr_cVm (c_X2_readSign l W hR hzJ hJ hbJ (c := 59)) oX2_readItems_40 (cv_X2_37 rfl) (by decide) (rd_k hR) (by decide) hcn_2 (rd_lt hR) rfl rfl (Nat.le_of_ble_eq_true rfl) (fun K hK => ?_)
        have hbK := sgn_b (sg_z z (L (30 + 2 * s + 1))) (c := 59) (by decide) hbJ
        rw [if_neg (show ¬ ((none : Option Nat) = none ∧ z ≤ p2) from fun q => by omega)]
        obtain ⟨hK, hK2⟩ := hK
        generalize es : m_sgn (s_sg z (L (30 + 2 * s + 1))) 59 (p2, fd2, none) = s2 at hK hbK
        obtain ⟨p3, fd3, f3⟩ := s2
        have hBK : cg_T K 18 B2 := cg_ce hBJ (fun j hj => hK2 _ (by omega))
        have hIK : ∀ a, a ≠ r → (a < 18 ∨ 24 < a) → K a = I0 a := fun a q1 q2 => by rw [hK2 a q1, hJ2 a q1 q2, hI a q1 q2]
        refine ra_0 oX2_readItems_43 ?_
        refine rr_giv oX2_readItems_44 (ff_X2_18 rfl) (rd_k hR) (rd_lt hR) ⟨by decide, rfl⟩ hK.2.2 ?_
        rcases f3 with _ | y
        · refine rk_m1 oX2_readItems_47 ?_
          refine rr_icmp_eq (tgt := 53) oX2_readItems_48 (by decide) (fun c3 => ?_) (fun c3 => ?_)
          rotate_left
          · exact absurd rfl c3
          refine rn_1 oX2_readItems_53 rfl rfl ?_
          refine rr_goto (tgt := 2) oX2_readItems_56 (by decide) ?_
          rw [if_pos rfl]
          exact ih (it + 1) K B2 _ (by omega) ⟨by rw [hK2 _ (by omega)]; exact hzJ.1, hz.2⟩ hK hbK hBK hIK
        · have hy : y ≤ z + 8 := hbK.2.2 y rfl
          refine rk_m1 oX2_readItems_47 ?_
          refine rr_icmp_eq (tgt := 53) oX2_readItems_48 (by decide) (fun c3 => ?_) (fun c3 => ?_)
          · exact absurd c3 (nI_nm1 (by omega))
          refine rk_m1 oX2_readItems_51 ?_
          exact rr_ireturn oX2_readItems_52 rfl rfl (q_n_of (by rw [if_neg (by intro q; cases q)]; exact ⟨rfl, hK, hBK, hIK⟩))
      · rw [nI_lt_iff (by omega) (by omega)] at c2
        replace c2 : ¬ p2 < z := c2
        refine ri_1 oX2_readItems_35 ?_
        exact rr_ireturn oX2_readItems_36 rfl rfl (q_n_of (by rw [if_pos ⟨rfl, show z ≤ p2 by omega⟩]; exact ⟨rfl, hJ, hBJ, fun a q1 q2 => by rw [hJ2 a q1 q2, hI a q1 q2]⟩))
    · have hy : y ≤ z + 8 := hbJ.2.2 y rfl
      refine rk_m1 oX2_readItems_17 ?_
      refine rr_icmp_ne (tgt := 37) oX2_readItems_18 (by decide) (fun c1 => ?_) (fun c1 => ?_)
      rotate_left
      · exact absurd c1 (nI_nm1 (by omega))
      refine ra_0 oX2_readItems_37 ?_
      refine rr_bipush (v := 59) oX2_readItems_38 (by decide) ?_
      refine rr_cVm (c_X2_readSign l W hR hzJ hJ hbJ (c := 59)) oX2_readItems_40 (cv_X2_37 rfl) (by decide) (rd_k hR) (by decide) hcn_2 (rd_lt hR) rfl rfl (Nat.le_of_ble_eq_true rfl) (fun K hK => ?_)
      rw [if_neg (show ¬ (some y = none ∧ z ≤ p2) from fun q => by cases q.1)]
      obtain ⟨hK, hK2⟩ := hK
      have ef : (m_sgn (s_sg z (L (30 + 2 * s + 1))) 59 (p2, fd2, some y)).2.2 = some y := by unfold m_sgn; split <;> rfl
      have hBK : cg_T K 18 B2 := cg_ce hBJ (fun j hj => hK2 _ (by omega))
      have hIK : ∀ a, a ≠ r → (a < 18 ∨ 24 < a) → K a = I0 a := fun a q1 q2 => by rw [hK2 a q1, hJ2 a q1 q2, hI a q1 q2]
      refine ra_0 oX2_readItems_43 ?_
      refine rr_giv oX2_readItems_44 (ff_X2_18 rfl) (rd_k hR) (rd_lt hR) ⟨by decide, rfl⟩ (show _ = oI (some y) from by rw [← ef]; exact hK.2.2) ?_
      refine rk_m1 oX2_readItems_47 ?_
      refine rr_icmp_eq (tgt := 53) oX2_readItems_48 (by decide) (fun c3 => ?_) (fun c3 => ?_)
      · exact absurd c3 (nI_nm1 (by omega))
      refine rk_m1 oX2_readItems_51 ?_
      exact rr_ireturn oX2_readItems_52 rfl rfl (q_n_of (by rw [if_neg (show ¬ (m_sgn (s_sg z (L (30 + 2 * s + 1))) 59 (p2, fd2, some y)).2.2 = none from by rw [ef]; intro q; cases q)]; exact ⟨rfl, hK, hBK, hIK⟩))
