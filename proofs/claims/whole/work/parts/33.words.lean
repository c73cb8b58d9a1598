/-! the class's Reader: words, houses, items (by program: wip/whole/c33.py) -/
theorem c_X2_lettersOf {b : Nat} {D : md_T} (l : Launch) {X : mx_T} {w : Nat} (hw : w < 5) : wf_C b D l mX2_lettersOf 1 0 0 [vv_I (nI w)] X (q_e (sK_N D w) X) := by
  have e : w = 0 ∨ w = 1 ∨ w = 2 ∨ w = 3 ∨ w = 4 := by omega
  refine wf_of (by decide) (Nat.le_of_ble_eq_true rfl) rfl ?_
  refine ri_0F oX2_lettersOf_0 ?_
  rcases e with rfl | rfl | rfl | rfl | rfl
  · refine rr_tabInF (off := 31) (tgt := 32) oX2_lettersOf_1 (by decide) (by decide) (by decide) (by decide) ?_
    refine rr_ldcSF (i := 0) oX2_lettersOf_32 rfl rfl ?_
    exact rr_areturnEF oX2_lettersOf_34 rfl (Or.inl ⟨_, rfl⟩) ⟨rfl, rfl⟩
  · refine rr_tabInF (off := 34) (tgt := 35) oX2_lettersOf_1 (by decide) (by decide) (by decide) (by decide) ?_
    refine rr_ldcSF (i := 1) oX2_lettersOf_35 rfl rfl ?_
    exact rr_areturnEF oX2_lettersOf_37 rfl (Or.inl ⟨_, rfl⟩) ⟨rfl, rfl⟩
  · refine rr_tabInF (off := 37) (tgt := 38) oX2_lettersOf_1 (by decide) (by decide) (by decide) (by decide) ?_
    refine rr_ldcSF (i := 2) oX2_lettersOf_38 rfl rfl ?_
    exact rr_areturnEF oX2_lettersOf_40 rfl (Or.inl ⟨_, rfl⟩) ⟨rfl, rfl⟩
  · refine rr_tabInF (off := 40) (tgt := 41) oX2_lettersOf_1 (by decide) (by decide) (by decide) (by decide) ?_
    refine rr_ldcSF (i := 3) oX2_lettersOf_41 rfl rfl ?_
    exact rr_areturnEF oX2_lettersOf_43 rfl (Or.inl ⟨_, rfl⟩) ⟨rfl, rfl⟩
  · refine rr_tabOutF (tgt := 44) oX2_lettersOf_1 (by decide) (by decide) ?_
    refine rr_ldcSF (i := 4) oX2_lettersOf_44 rfl rfl ?_
    exact rr_areturnEF oX2_lettersOf_46 rfl (Or.inl ⟨_, rfl⟩) ⟨rfl, rfl⟩
theorem lp_X2_sameLetters {b : Nat} {D : md_T} (l : Launch) {I : Nat → Nat → Int32} {L : Nat → Nat → Int64} {Rf : Nat → Nat → Option Nat} {n : Nat} {r s z : Nat} (W : wd_T Rf n) (hR : rd_H Rf n r s) (hz : I (30 + 2 * s) 1 = nI z ∧ z ≤ 160) {w p : Nat} (hw : w < 5) (hp : I r 2 = nI p ∧ p ≤ z) : ∀ m i, i + m = ln_N w → wf_W b D l mX2_sameLetters 5 0 0 2 [vv_A (some r), vv_E (sK_N D w), vv_I (nI i)] [] (I, L, Rf, n) (q_i (nI (sl_N (s_sg z (L (30 + 2 * s + 1))) w p m i)) (I, L, Rf, n)) := by
  intro m
  induction m with
  | zero =>
    intro i hi
    have h9 := ln_9 w hw
    have h67 := hR.1
    have hs8 := hR.2.2.1
    have h160 := hz.2
    refine ri_2F oX2_sameLetters_2 ?_
    refine re_1F oX2_sameLetters_3 ?_
    refine rr_cVEiF (c_J0_length l hw) oX2_sameLetters_4 (cv_X2_108 rfl) (by decide) hw rfl rfl rfl (Nat.le_of_ble_eq_true rfl) ?_
    refine rr_icmp_geF (tgt := 36) oX2_sameLetters_7 (by decide) (fun c => ?_) (fun c => ?_)
    rotate_left
    · exact absurd c (by rw [nI_le_iff (by omega) (by omega)]; omega)
    refine re_1F oX2_sameLetters_36 ?_
    refine rr_cVEiF (c_J0_length l hw) oX2_sameLetters_37 (cv_X2_108 rfl) (by decide) hw rfl rfl rfl (Nat.le_of_ble_eq_true rfl) ?_
    exact rr_ireturnF oX2_sameLetters_40 rfl rfl (q_is (by rw [show i = ln_N w by omega]; rfl))
  | succ m ih =>
    intro i hi
    have h9 := ln_9 w hw
    have h67 := hR.1
    have hs8 := hR.2.2.1
    have h160 := hz.2
    refine ri_2F oX2_sameLetters_2 ?_
    refine re_1F oX2_sameLetters_3 ?_
    refine rr_cVEiF (c_J0_length l hw) oX2_sameLetters_4 (cv_X2_108 rfl) (by decide) hw rfl rfl rfl (Nat.le_of_ble_eq_true rfl) ?_
    refine rr_icmp_geF (tgt := 36) oX2_sameLetters_7 (by decide) (fun c => ?_) (fun c => ?_)
    · (rw [nI_le_iff (by omega) (by omega)] at c; omega)
    refine ra_0F oX2_sameLetters_10 ?_
    refine ra_0F oX2_sameLetters_11 ?_
    refine rr_givF oX2_sameLetters_12 (ff_X2_9 rfl) (rd_k hR) (rd_lt hR) ⟨by decide, rfl⟩ hp.1 ?_
    refine ri_2F oX2_sameLetters_15 ?_
    refine rr_iaddF oX2_sameLetters_16 ?_
    rw [nI_add]
    refine rr_cViF (inF (c_X2_signAt l W hR hz (p := p + i) (by omega))) oX2_sameLetters_17 (cv_X2_126 rfl) (by decide) (rd_k hR) (by decide) hcn_2 (rd_lt hR) rfl rfl (Nat.le_of_ble_eq_true rfl) ?_
    refine re_1F oX2_sameLetters_20 ?_
    refine ri_2F oX2_sameLetters_21 ?_
    refine rr_cVEiF (c_J0_charAt l hw (t := i) (by omega)) oX2_sameLetters_22 (cv_X2_129 rfl) (by decide) hw rfl rfl rfl (Nat.le_of_ble_eq_true rfl) ?_
    refine rr_icmp_eqF (tgt := 30) oX2_sameLetters_25 (by decide) (fun c1 => ?_) (fun c1 => ?_)
    · refine rn_2F oX2_sameLetters_30 rfl rfl ?_
      refine rr_gotoF (tgt := 2) oX2_sameLetters_33 (by decide) ?_
      have h3 := ih (i + 1) (by omega)
      simp only [sl_N]
      rw [if_pos c1]
      exact h3
    · refine ri_2F oX2_sameLetters_28 ?_
      exact rr_ireturnF oX2_sameLetters_29 rfl rfl (q_is (by simp only [sl_N]; rw [if_neg c1]))
theorem c_X2_sameLetters {b : Nat} {D : md_T} (l : Launch) {I : Nat → Nat → Int32} {L : Nat → Nat → Int64} {Rf : Nat → Nat → Option Nat} {n : Nat} {r s z : Nat} (W : wd_T Rf n) (hR : rd_H Rf n r s) (hz : I (30 + 2 * s) 1 = nI z ∧ z ≤ 160) {w p : Nat} (hw : w < 5) (hp : I r 2 = nI p ∧ p ≤ z) : wf_C b D l mX2_sameLetters 5 0 0 [vv_A (some r), vv_E (sK_N D w)] (I, L, Rf, n) (q_i (nI (s_sl (s_sg z (L (30 + 2 * s + 1))) w p)) (I, L, Rf, n)) := by
  refine wf_of (by decide) (Nat.le_of_ble_eq_true rfl) rfl ?_
  refine rk_0F oX2_sameLetters_0 ?_
  refine si_2F oX2_sameLetters_1 rfl rfl ?_
  exact lp_X2_sameLetters l W hR hz hw hp (ln_N w) 0 (Nat.zero_add _)
def m_wst (st : rs_T) (o : Option Nat × Nat) : rs_T := match o.1 with
  | some _ => (o.2, st.2.1, st.2.2)
  | none => (st.1, st.2.1, or_F st.2.2 o.2)
theorem sl_le (sg : Nat → Int32) (w p : Nat) : ∀ m i, sl_N sg w p m i ≤ i + m ∧ i ≤ sl_N sg w p m i := by
  intro m
  induction m with
  | zero => intro i; exact ⟨Nat.le_refl _, Nat.le_refl _⟩
  | succ m ih =>
    intro i
    unfold sl_N
    split
    · have := ih (i + 1); omega
    · omega
theorem sl_8 {sg : Nat → Int32} {w : Nat} (p : Nat) (hw : w < 5) : s_sl sg w p ≤ 8 := by
  have h1 := sl_le sg w p (ln_N w) 0
  have h2 := ln_9 w hw
  show sl_N sg w p (ln_N w) 0 ≤ 8
  omega
theorem lp_X2_readWord {b : Nat} {D : md_T} (l : Launch) {I : Nat → Nat → Int32} {L : Nat → Nat → Int64} {Rf : Nat → Nat → Option Nat} {n : Nat} {r s z : Nat} (W : wd_T Rf n) (hR : rd_H Rf n r s) (hz : I (30 + 2 * s) 1 = nI z ∧ z ≤ 160) {st : rs_T} (hS : rd_S I r st) (hb : rb_T z st) : ∀ m w mo w3 w4, w + m = 5 → mo ≤ 8 → wf_W b D l mX2_readWord 6 0 0 4 [vv_A (some r), vv_I (nI mo), vv_I (nI w), w3, w4] [] (I, L, Rf, n) (q_n (fun v J => v = oI (wo_N (s_sg z (L (30 + 2 * s + 1))) st.1 m w mo).1 ∧ rk_T I J r (m_wst st (wo_N (s_sg z (L (30 + 2 * s + 1))) st.1 m w mo))) L Rf n) := by
  intro m
  induction m with
  | zero =>
    intro w mo w3 w4 hwm hmo
    have h67 := hR.1
    have hs8 := hR.2.2.1
    have h160 := hz.2
    obtain ⟨hb0, hb00, hb000⟩ := id hb
    refine ri_2F oX2_readWord_4 ?_
    refine rk_5F oX2_readWord_5 ?_
    refine rr_icmp_geF (tgt := 56) oX2_readWord_6 (by decide) (fun c => ?_) (fun c => ?_)
    rotate_left
    · exact absurd c (by rw [show (5 : Int32) = nI 5 from rfl, nI_le_iff (by omega) (by omega)]; omega)
    refine ra_0F oX2_readWord_56 ?_
    refine ra_0F oX2_readWord_57 ?_
    refine rr_givF oX2_readWord_58 (ff_X2_9 rfl) (rd_k hR) (rd_lt hR) ⟨by decide, rfl⟩ hS.1 ?_
    refine ri_1F oX2_readWord_61 ?_
    refine rr_iaddF oX2_readWord_62 ?_
    rw [nI_add]
    refine rr_cVmF (inF (c_X2_faultAt l W hR hz hS hb (x := st.1 + mo))) oX2_readWord_63 (cv_X2_76 rfl) (by decide) (rd_k hR) (by decide) hcn_2 (rd_lt hR) rfl rfl (Nat.le_of_ble_eq_true rfl) (fun J hJ => ?_)
    refine rk_m1F oX2_readWord_66 ?_
    exact rr_ireturnF oX2_readWord_67 rfl rfl (q_n_of ⟨rfl, hJ⟩)
  | succ m ih =>
    intro w mo w3 w4 hwm hmo
    have h67 := hR.1
    have hs8 := hR.2.2.1
    have h160 := hz.2
    obtain ⟨hb0, hb00, hb000⟩ := id hb
    refine ri_2F oX2_readWord_4 ?_
    refine rk_5F oX2_readWord_5 ?_
    refine rr_icmp_geF (tgt := 56) oX2_readWord_6 (by decide) (fun c => ?_) (fun c => ?_)
    · (rw [show (5 : Int32) = nI 5 from rfl, nI_le_iff (by omega) (by omega)] at c; omega)
    refine ri_2F oX2_readWord_9 ?_
    have hw : w < 5 := by omega
    have hs8w := sl_8 (sg := (s_sg z (L (30 + 2 * s + 1)))) st.1 hw
    have h9 := ln_9 w hw
    refine rr_cSeF (c_X2_lettersOf l hw) oX2_readWord_10 (cs_X2_100 rfl) (by decide) rfl rfl (Nat.le_of_ble_eq_true rfl) ?_
    refine se_3F oX2_readWord_13 rfl rfl ?_
    refine ra_0F oX2_readWord_14 ?_
    refine re_3F oX2_readWord_15 ?_
    refine rr_cViF (c_X2_sameLetters l W hR hz hw ⟨hS.1, hb.1⟩) oX2_readWord_16 (cv_X2_104 rfl) (by decide) (rd_k hR) (by decide) hcn_2 (rd_lt hR) rfl rfl (Nat.le_of_ble_eq_true rfl) ?_
    refine si_4F oX2_readWord_19 rfl rfl ?_
    refine ri_4F oX2_readWord_21 ?_
    refine re_3F oX2_readWord_23 ?_
    refine rr_cVEiF (c_J0_length l hw) oX2_readWord_24 (cv_X2_108 rfl) (by decide) hw rfl rfl rfl (Nat.le_of_ble_eq_true rfl) ?_
    refine rr_icmp_neF (tgt := 43) oX2_readWord_27 (by decide) (fun c1 => ?_) (fun c1 => ?_)
    · rw [nI_inj (by omega) (by omega)] at c1
      refine ri_1F oX2_readWord_43 ?_
      refine ri_4F oX2_readWord_44 ?_
      refine rr_maxF oX2_readWord_46 gm_X2_113 (by decide) (Nat.le_of_ble_eq_true rfl) ?_
      rw [mx_N9 mo (by omega) _ (by omega)]
      refine si_1F oX2_readWord_49 rfl rfl ?_
      refine rn_2F oX2_readWord_50 rfl rfl ?_
      refine rr_gotoF (tgt := 4) oX2_readWord_53 (by decide) ?_
      simp only [wo_N]
      rw [if_neg c1]
      exact ih (w + 1) (max mo (s_sl (s_sg z (L (30 + 2 * s + 1))) w st.1)) _ _ (by omega) (by omega)
    · rw [nI_inj (by omega) (by omega)] at c1
      refine ra_0F oX2_readWord_30 ?_
      refine rr_dupF oX2_readWord_31 rfl ?_
      refine rr_givF oX2_readWord_32 (ff_X2_9 rfl) (rd_k hR) (rd_lt hR) ⟨by decide, rfl⟩ hS.1 ?_
      refine ri_4F oX2_readWord_35 ?_
      refine rr_iaddF oX2_readWord_37 ?_
      rw [nI_add]
      refine rr_piF oX2_readWord_38 (ff_X2_9 rfl) (rd_k hR) (rd_lt hR) ⟨by decide, rfl, by decide⟩ pf_2_2 ⟨rfl, rfl⟩ ?_
      refine ri_2F oX2_readWord_41 ?_
      exact rr_ireturnF oX2_readWord_42 rfl rfl (q_n_of (by simp only [wo_N]; rw [if_pos c1]; exact ⟨rfl, rd_p hS, fun a ha => up_I_ne ha⟩))
theorem cf_X2_readWord {b : Nat} {D : md_T} (l : Launch) {I : Nat → Nat → Int32} {L : Nat → Nat → Int64} {Rf : Nat → Nat → Option Nat} {n : Nat} {r s z : Nat} (W : wd_T Rf n) (hR : rd_H Rf n r s) (hz : I (30 + 2 * s) 1 = nI z ∧ z ≤ 160) {st : rs_T} (hS : rd_S I r st) (hb : rb_T z st) : wf_C b D l mX2_readWord 6 0 0 [vv_A (some r)] (I, L, Rf, n) (q_n (fun v J => v = oI (wo_N (s_sg z (L (30 + 2 * s + 1))) st.1 5 0 0).1 ∧ rk_T I J r (m_wst st (wo_N (s_sg z (L (30 + 2 * s + 1))) st.1 5 0 0))) L Rf n) := by
  refine wf_of (by decide) (Nat.le_of_ble_eq_true rfl) rfl ?_
  refine rk_0F oX2_readWord_0 ?_
  refine si_1F oX2_readWord_1 rfl rfl ?_
  refine rk_0F oX2_readWord_2 ?_
  refine si_2F oX2_readWord_3 rfl rfl ?_
  exact lp_X2_readWord l W hR hz hS hb 5 0 0 _ _ rfl (by omega)
theorem c_X2_readWord (l : Launch) {I : Nat → Nat → Int32} {L : Nat → Nat → Int64} {Rf : Nat → Nat → Option Nat} {n : Nat} {r s z : Nat} (W : wd_T Rf n) (hR : rd_H Rf n r s) (hz : I (30 + 2 * s) 1 = nI z ∧ z ≤ 160) {st : rs_T} (hS : rd_S I r st) (hb : rb_T z st) : wm_C l mX2_readWord 6 0 0 [vv_A (some r)] (I, L, Rf, n) (q_n (fun v J => v = oI (wo_N (s_sg z (L (30 + 2 * s + 1))) st.1 5 0 0).1 ∧ rk_T I J r (m_wst st (wo_N (s_sg z (L (30 + 2 * s + 1))) st.1 5 0 0))) L Rf n) := ouF (fun _ _ => cf_X2_readWord l W hR hz hS hb)
theorem c_X2_readHouse (l : Launch) {I : Nat → Nat → Int32} {L : Nat → Nat → Int64} {Rf : Nat → Nat → Option Nat} {n : Nat} {r s z : Nat} (W : wd_T Rf n) (hR : rd_H Rf n r s) (hz : I (30 + 2 * s) 1 = nI z ∧ z ≤ 160)  {st : rs_T} (hS : rd_S I r st) (hb : rb_T z st) {un : Option Nat} (hu : ∀ x, un = some x → x ≤ 99) {B : gb_T} (hG : gv_T I 18 (b_G B)) : wm_C l mX2_readHouse 4 0 0 [vv_A (some r), vv_I (oI un)] (I, L, Rf, n) (q_n (fun v J => v = oI (m_hou (s_sg z (L (30 + 2 * s + 1))) B un st).1 ∧ rk_T I J r (m_hou (s_sg z (L (30 + 2 * s + 1))) B un st).2) L Rf n) := by
  refine wm_of (by decide) (Nat.le_of_ble_eq_true rfl) rfl ?_
  have h67 := hR.1
  have hs8 := hR.2.2.1
  have h160 := hz.2
  obtain ⟨hb0, hb00, hb000⟩ := id hb
  refine ra_0 oX2_readHouse_0 ?_
  refine rk_0 oX2_readHouse_1 ?_
  refine rr_bipush (v := 7) oX2_readHouse_2 (by decide) ?_
  refine rr_cVn (c_X2_readNumber l W hR hz hS hb (lo := 0) (hi := 7) (by omega) (by omega)) oX2_readHouse_4 (cv_X2_49 rfl) (by decide) (rd_k hR) (by decide) hcn_2 (rd_lt hR) rfl rfl (Nat.le_of_ble_eq_true rfl) (fun v1 J hJ1 => ?_)
  obtain ⟨rfl, hJ, hJ2⟩ := hJ1
  obtain ⟨hb1, hb2, -⟩ := num_b (lo := 0) (hi := 7) (sg_z z (L (30 + 2 * s + 1))) hb
  have hz1 : J (30 + 2 * s) 1 = nI z ∧ z ≤ 160 := ⟨by rw [hJ2 _ (by omega)]; exact hz.1, hz.2⟩
  generalize en : m_num (s_sg z (L (30 + 2 * s + 1))) 0 7 st = m1 at hJ hb1 hb2
  have h8 := gv_8 hG
  have hG1 : gv_T J 18 (b_G B) := gv_keep hG (by rw [hJ2 18 (by omega)]) (by rw [hJ2 18 (by omega)]) (by rw [hJ2 18 (by omega)]) (fun j q1 q2 => hJ2 _ (by omega))
  obtain ⟨v, p1, fd1, f1⟩ := m1
  refine si_2 oX2_readHouse_7 rfl rfl ?_
  refine ra_0 oX2_readHouse_8 ?_
  refine rr_gr (v := 18) oX2_readHouse_9 (ff_X2_25 rfl) (rd_k hR) (rd_lt hR) ⟨by decide, rfl⟩ (rd_1 hR) ?_
  refine ri_2 oX2_readHouse_12 ?_
  refine rr_cVi (c_X1_isHouse l W gd_18 hG1) oX2_readHouse_13 (cv_X2_96 rfl) (by decide) (gd_k gd_18) (by decide) hcn_1 (gd_lt (j := 0) W gd_18 rfl) rfl rfl (Nat.le_of_ble_eq_true rfl) ?_
  refine rr_ifb_eq (tgt := 24) oX2_readHouse_16 (by decide) (fun c1 => ?_) (fun c1 => ?_)
  · rw [hs_iff h8 hb2] at c1
    refine ra_0 oX2_readHouse_24 ?_
    refine ra_0 oX2_readHouse_25 ?_
    refine rr_giv oX2_readHouse_26 (ff_X2_15 rfl) (rd_k hR) (rd_lt hR) ⟨by decide, rfl⟩ hJ.2.1 ?_
    refine rr_cVm (c_X2_faultAt l W hR hz1 hJ hb1 (x := fd1)) oX2_readHouse_29 (cv_X2_76 rfl) (by decide) (rd_k hR) (by decide) hcn_2 (rd_lt hR) rfl rfl (Nat.le_of_ble_eq_true rfl) (fun K hK => ?_)
    refine ri_2 oX2_readHouse_32 ?_
    exact rr_ireturn oX2_readHouse_33 rfl rfl (q_n_of (by rw [m_hou, en, if_neg (fun q => c1 q.1)]; exact ⟨rfl, rk_tr hJ2 hK⟩))
  · rw [hs_iff h8 hb2] at c1
    refine ri_2 oX2_readHouse_19 ?_
    refine ri_1 oX2_readHouse_20 ?_
    refine rr_icmp_ne (tgt := 32) oX2_readHouse_21 (by decide) (fun c2 => ?_) (fun c2 => ?_)
    · rw [oI_inj hb2 hu] at c2
      refine ri_2 oX2_readHouse_32 ?_
      exact rr_ireturn oX2_readHouse_33 rfl rfl (q_n_of (by rw [m_hou, en, if_pos ⟨c1, c2⟩]; exact ⟨rfl, hJ, hJ2⟩))
    · rw [oI_inj hb2 hu] at c2
      refine ra_0 oX2_readHouse_24 ?_
      refine ra_0 oX2_readHouse_25 ?_
      refine rr_giv oX2_readHouse_26 (ff_X2_15 rfl) (rd_k hR) (rd_lt hR) ⟨by decide, rfl⟩ hJ.2.1 ?_
      refine rr_cVm (c_X2_faultAt l W hR hz1 hJ hb1 (x := fd1)) oX2_readHouse_29 (cv_X2_76 rfl) (by decide) (rd_k hR) (by decide) hcn_2 (rd_lt hR) rfl rfl (Nat.le_of_ble_eq_true rfl) (fun K hK => ?_)
      refine ri_2 oX2_readHouse_32 ?_
      exact rr_ireturn oX2_readHouse_33 rfl rfl (q_n_of (by rw [m_hou, en, if_neg (fun q => q.2 c2)]; exact ⟨rfl, rk_tr hJ2 hK⟩))
def tb_T (I J : Nat → Nat → Int32) (r : Nat) (st : rs_T) (B : gb_T) : Prop := rd_S J r st ∧ cg_T J 18 B ∧ ∀ a, a ≠ r → (a < 18 ∨ 24 < a) → J a = I a
theorem tb_tr {I J K : Nat → Nat → Int32} {r : Nat} {st : rs_T} {B : gb_T} (h1 : ∀ a, a ≠ r → (a < 18 ∨ 24 < a) → J a = I a) (h : tb_T J K r st B) : tb_T I K r st B := ⟨h.1, h.2.1, fun a q1 q2 => (h.2.2 a q1 q2).trans (h1 a q1 q2)⟩
theorem rk_tb {I J : Nat → Nat → Int32} {r : Nat} {st : rs_T} {B : gb_T} (hr : 67 ≤ r) (hB : cg_T I 18 B) (h : rk_T I J r st) : tb_T I J r st B := ⟨h.1, cg_ce hB (fun j hj => h.2 _ (by omega)), fun a q1 _ => h.2 a q1⟩
theorem rd_ne {I J : Nat → Nat → Int32} {r : Nat} {st : rs_T} (h : rd_S I r st) (hJ : J r = I r) : rd_S J r st := by
  unfold rd_S
  rw [hJ]
  exact h
theorem cg_shu {I : Nat → Nat → Int32} {g : Nat} {B : gb_T} (h : cg_T I g B) {a b : Nat} (ha : a < 8) (hb : b < 8) : cg_T (up_I I (g + 6) b (I (g + 6) b ||| (1 : Int32) <<< (nI a &&& 31))) g (b_shu B (some a) (some b)) := by
  obtain ⟨⟨h1, h2, h3⟩, h4, h5⟩ := h
  have e0 : up_I I (g + 6) b (I (g + 6) b ||| (1 : Int32) <<< (nI a &&& 31)) g = I g := up_I_ne (by omega)
  refine ⟨⟨gv_keep h1 (by rw [e0]) (by rw [e0]) (by rw [e0]) (fun j q1 q2 => up_I_ne (by omega)), by rw [e0]; exact h2, fun j hj => ?_⟩, by rw [e0]; exact h4, by rw [e0]; exact h5⟩
  rw [up_I_eq, h3 b hb, st_one a ha, st_or]
  by_cases q : j = b
  · subst q
    simp only [upd, if_true]
    exact st_c (fun i _ => by
      by_cases q : i = a
      · subst q; simp [b_shu, b_ws, b_sh]
      · simp [b_shu, b_ws, b_sh, q])
  · simp only [upd, if_neg q]
    rw [h3 j hj]
    exact st_c (fun i _ => by simp [b_shu, b_ws, b_sh, q])
theorem cg_drw {I : Nat → Nat → Int32} {g : Nat} {B : gb_T} (h : cg_T I g B) {a : Nat} (ha : a < 8) : cg_T (up_I I g 3 (I g 3 ||| (1 : Int32) <<< (nI a &&& 31))) g (b_drw B (some a)) := by
  obtain ⟨⟨h1, h2, h3⟩, h4, h5⟩ := h
  refine ⟨⟨gv_keep h1 (up_I_at_ne (by omega)) (up_I_at_ne (by omega)) (up_I_at_ne (by omega)) (fun j q1 q2 => up_I_ne (by omega)), ?_, fun j hj => by rw [up_I_ne (by omega)]; exact h3 j hj⟩, by rw [up_I_at_ne (by omega)]; exact h4, by rw [up_I_at_ne (by omega)]; exact h5⟩
  rw [up_I_at, h2, st_one a ha, st_or]
  exact st_c (fun i _ => by
    by_cases q : i = a
    · subst q; simp [b_drw, b_wd, b_dr]
    · simp [b_drw, b_wd, b_dr, q])
theorem c_X2_tellShut (l : Launch) {I : Nat → Nat → Int32} {L : Nat → Nat → Int64} {Rf : Nat → Nat → Option Nat} {n : Nat} {r s z : Nat} (W : wd_T Rf n) (hR : rd_H Rf n r s) (hz : I (30 + 2 * s) 1 = nI z ∧ z ≤ 160)  {st : rs_T} (hS : rd_S I r st) (hb : rb_T z st) {B : gb_T} (hB : cg_T I 18 B) {i j : Option Nat} (hij : st.2.2 = none → ∃ a b, i = some a ∧ j = some b ∧ a < 8 ∧ b < 8) : wm_C l mX2_tellShut 2 0 0 [vv_A (some r), vv_I (oI i), vv_I (oI j)] (I, L, Rf, n) (q_m (fun J => tb_T I J r st (if st.2.2 = none then b_shu B i j else B)) L Rf n) := by
  refine wm_of (by decide) (Nat.le_of_ble_eq_true rfl) rfl ?_
  have h67 := hR.1
  have hs8 := hR.2.2.1
  have h160 := hz.2
  obtain ⟨hb0, hb00, hb000⟩ := id hb
  refine ra_0 oX2_tellShut_0 ?_
  refine rr_giv oX2_tellShut_1 (ff_X2_18 rfl) (rd_k hR) (rd_lt hR) ⟨by decide, rfl⟩ hS.2.2 ?_
  obtain ⟨p, fd, f⟩ := st
  rcases f with _ | y
  · obtain ⟨a, b, rfl, rfl, ha, hbb⟩ := hij rfl
    refine rk_m1 oX2_tellShut_4 ?_
    refine rr_icmp_ne (tgt := 24) oX2_tellShut_5 (by decide) (fun c => ?_) (fun c => ?_)
    · exact absurd rfl c
    refine ra_0 oX2_tellShut_8 ?_
    refine rr_gr (v := 18) oX2_tellShut_9 (ff_X2_25 rfl) (rd_k hR) (rd_lt hR) ⟨by decide, rfl⟩ (rd_1 hR) ?_
    refine rr_gr oX2_tellShut_12 (ff_X2_86 rfl) (gd_k gd_18) (gd_lt (j := 0) W gd_18 rfl) ⟨by decide, rfl⟩ (gd_r W gd_18 11 6 rfl) ?_
    refine ri_2 oX2_tellShut_15 ?_
    refine rr_dup2 oX2_tellShut_16 rfl rfl ?_
    refine rr_ild (t := b) oX2_tellShut_17 (gd_a gd_18 6 rfl) (gd_lt (j := 6) W gd_18 rfl) rfl (by omega) (by decide) ?_
    refine ri_1 oX2_tellShut_18 ?_
    refine rr_cSNi (c_X4_bit l) oX2_tellShut_19 (cn_X2_90 rfl) (by decide) rfl rfl (Nat.le_of_ble_eq_true rfl) ?_
    refine rr_ior oX2_tellShut_22 ?_
    refine rr_ist (t := b) oX2_tellShut_23 (gd_a gd_18 6 rfl) (gd_lt (j := 6) W gd_18 rfl) rfl (by omega) (by decide) ?_
    exact rr_return oX2_tellShut_24 rfl (q_m_of ⟨rd_ne hS (up_I_ne (by omega)), cg_shu hB ha hbb, fun a q1 q2 => up_I_ne (by omega)⟩)
  · have hy : y ≤ z + 8 := hb000 y rfl
    refine rk_m1 oX2_tellShut_4 ?_
    refine rr_icmp_ne (tgt := 24) oX2_tellShut_5 (by decide) (fun c => ?_) (fun c => ?_)
    rotate_left
    · exact absurd c (nI_nm1 (by omega))
    exact rr_return oX2_tellShut_24 rfl (q_m_of ⟨hS, hB, fun _ _ _ => rfl⟩)
theorem c_X2_tellDrawn (l : Launch) {I : Nat → Nat → Int32} {L : Nat → Nat → Int64} {Rf : Nat → Nat → Option Nat} {n : Nat} {r s z : Nat} (W : wd_T Rf n) (hR : rd_H Rf n r s) (hz : I (30 + 2 * s) 1 = nI z ∧ z ≤ 160)  {st : rs_T} (hS : rd_S I r st) (hb : rb_T z st) {B : gb_T} (hB : cg_T I 18 B) {i : Option Nat} (hi : st.2.2 = none → ∃ a, i = some a ∧ a < 8) : wm_C l mX2_tellDrawn 2 0 0 [vv_A (some r), vv_I (oI i)] (I, L, Rf, n) (q_m (fun J => tb_T I J r st (if st.2.2 = none then b_drw B i else B)) L Rf n) := by
  refine wm_of (by decide) (Nat.le_of_ble_eq_true rfl) rfl ?_
  have h67 := hR.1
  have hs8 := hR.2.2.1
  have h160 := hz.2
  obtain ⟨hb0, hb00, hb000⟩ := id hb
  refine ra_0 oX2_tellDrawn_0 ?_
  refine rr_giv oX2_tellDrawn_1 (ff_X2_18 rfl) (rd_k hR) (rd_lt hR) ⟨by decide, rfl⟩ hS.2.2 ?_
  obtain ⟨p, fd, f⟩ := st
  rcases f with _ | y
  · obtain ⟨a, rfl, ha⟩ := hi rfl
    refine rk_m1 oX2_tellDrawn_4 ?_
    refine rr_icmp_ne (tgt := 24) oX2_tellDrawn_5 (by decide) (fun c => ?_) (fun c => ?_)
    · exact absurd rfl c
    refine ra_0 oX2_tellDrawn_8 ?_
    refine rr_gr (v := 18) oX2_tellDrawn_9 (ff_X2_25 rfl) (rd_k hR) (rd_lt hR) ⟨by decide, rfl⟩ (rd_1 hR) ?_
    refine rr_dup oX2_tellDrawn_12 rfl ?_
    refine rr_gi oX2_tellDrawn_13 (ff_X2_93 rfl) (gd_k gd_18) (gd_lt (j := 0) W gd_18 rfl) ⟨by decide, rfl⟩ ?_
    refine ri_1 oX2_tellDrawn_16 ?_
    refine rr_cSNi (c_X4_bit l) oX2_tellDrawn_17 (cn_X2_90 rfl) (by decide) rfl rfl (Nat.le_of_ble_eq_true rfl) ?_
    refine rr_ior oX2_tellDrawn_20 ?_
    refine rr_pi oX2_tellDrawn_21 (ff_X2_93 rfl) (gd_k gd_18) (gd_lt (j := 0) W gd_18 rfl) ⟨by decide, rfl, by decide⟩ pf_1_3 ⟨rfl, rfl⟩ ?_
    exact rr_return oX2_tellDrawn_24 rfl (q_m_of ⟨rd_ne hS (up_I_ne (by omega)), cg_drw hB ha, fun a q1 q2 => up_I_ne (by omega)⟩)
  · have hy : y ≤ z + 8 := hb000 y rfl
    refine rk_m1 oX2_tellDrawn_4 ?_
    refine rr_icmp_ne (tgt := 24) oX2_tellDrawn_5 (by decide) (fun c => ?_) (fun c => ?_)
    rotate_left
    · exact absurd c (nI_nm1 (by omega))
    exact rr_return oX2_tellDrawn_24 rfl (q_m_of ⟨hS, hB, fun _ _ _ => rfl⟩)
