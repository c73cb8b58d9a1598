/-! the model: shutters, curtains, seed, trace, status (by program: wip/whole/c43.py) -/
theorem dq0 {p : Bool} : ((if p = true then (1 : Int32) else 0) = 0) ↔ (p = true ↔ false = true) := by cases p <;> decide
theorem dq1 {p : Bool} : ((if p = true then (1 : Int32) else 0) = 1) ↔ (p = true ↔ true = true) := by cases p <;> decide
theorem mg_dr1 {I : Nat → Nat → Int32} {B : gb_T} {a : Nat} {w : Bool} {v : Int32} (h : mg_T I B) (hv : v = if w = true then 1 else 0) : mg_T (up_I I 53 a v) (b_wd B (up_1 (b_dr B) a w)) := by
  refine mg_dr h (fun t ht => ?_) (fun b hb => up_I_ne hb)
  rw [up_I_eq]
  show upd (I 53) a v t = if up_1 (b_dr B) a w t = true then 1 else 0
  unfold up_1
  by_cases q : t = a
  · simp only [upd, if_pos q]; exact hv
  · simp only [upd, if_neg q]; exact h.2.1 t ht
theorem mg_dr0 {I : Nat → Nat → Int32} {B : gb_T} {a : Nat} {w : Bool} {v : Int32} (h : mg_T I B) (hv : v = if w = true then 1 else 0) (hw : b_dr B a = true ↔ w = true) : mg_T (up_I I 53 a v) B := by
  refine mg_dr (dr := b_dr B) h (fun t ht => ?_) (fun b hb => up_I_ne hb)
  rw [up_I_eq]
  show upd (I 53) a v t = if b_dr B t = true then 1 else 0
  by_cases q : t = a
  · subst q
    simp only [upd, if_true]
    rw [hv]
    cases z : b_dr B t <;> cases w <;> simp_all
  · simp only [upd, if_neg q]; exact h.2.1 t ht
theorem st_eq1 {p : Nat → Bool} {b : Nat} {w : Bool} (hb : b < 8) : st_S p = st_S (up_1 p b w) ↔ (p b = true ↔ w = true) := by
  constructor
  · intro h
    have := st_inj h b hb
    rw [this]
    simp [up_1]
  · intro h
    refine st_c (fun i _ => ?_)
    unfold up_1
    by_cases q : i = b
    · subst q
      rw [if_pos rfl]
      cases z : p i <;> cases w <;> simp_all
    · rw [if_neg q]
theorem st_on1 {p : Nat → Bool} {b : Nat} (hb : b < 8) : st_S p ||| (1 : Int32) <<< (nI b &&& 31) = st_S (up_1 p b true) := by
  rw [st_one b hb, st_or]
  refine st_c (fun i _ => ?_)
  unfold up_1
  by_cases q : i = b <;> simp [q]
theorem st_of1 {p : Nat → Bool} {b : Nat} (hb : b < 8) : st_S p &&& ((1 : Int32) <<< (nI b &&& 31) ^^^ (-1)) = st_S (up_1 p b false) := by
  rw [st_one b hb, st_not]
  refine st_c (fun i _ => ?_)
  unfold up_1
  by_cases q : i = b <;> simp [q]
theorem mg_sh1 {I : Nat → Nat → Int32} {B : gb_T} {a b : Nat} {w : Bool} (h : mg_T I B) : mg_T (up_I I 54 a (st_S (up_1 (fun j => b_sh B j a) b w))) (b_ws B (up_2 (b_sh B) b a w)) := by
  refine mg_sh h (fun t ht => ?_) (fun b hb => up_I_ne hb)
  rw [up_I_eq]
  show upd (I 54) a _ t = _
  by_cases q : t = a
  · subst q
    simp only [upd, if_true]
    exact st_c (fun j _ => by simp [up_1, up_2])
  · simp only [upd, if_neg q]
    rw [h.2.2.1 t ht]
    exact st_c (fun j _ => by simp [up_2, q])
theorem mg_sh0 {I : Nat → Nat → Int32} {B : gb_T} {a : Nat} {v : Int32} (h : mg_T I B) (hv : v = st_S (fun j => b_sh B j a)) : mg_T (up_I I 54 a v) B := by
  refine mg_sh (sh := b_sh B) h (fun t ht => ?_) (fun b hb => up_I_ne hb)
  rw [up_I_eq]
  show upd (I 54) a _ t = _
  by_cases q : t = a
  · subst q
    simp only [upd, if_true]
    exact hv
  · simp only [upd, if_neg q]
    exact h.2.2.1 t ht
theorem c_X5_shut (l : Launch) {I : Nat → Nat → Int32} {L : Nat → Nat → Int64} {Rf : Nat → Nat → Option Nat} {n : Nat} {S : sg_T} (W : wd_T Rf n) (hM : MR_T I L S) (hI : IV_T S) {i j : Int32} {w : Bool} : wm_C l mX5_shut 3 0 0 [vv_A (some 46), vv_I i, vv_I j, vv_I (bI (w = true))] (I, L, Rf, n) (q_M (f_shut S i j w).1 (f_shut S i j w).2 I L Rf n) := by
  refine wm_of (by decide) (Nat.le_of_ble_eq_true rfl) rfl ?_
  have hQ : mq_T I (z_G S) (b_dr (z_B S)) (b_sh (z_B S)) := mg_mq hM.1 hI.1
  have hG := hQ.1
  have h8 : g_n (z_G S) ≤ 8 := hI.1.1
  have hr : hr_T (z_G S) := hI.1.2.1
  refine ra_0 oX5_shut_0 ?_
  refine ri_1 oX5_shut_1 ?_
  refine ri_2 oX5_shut_2 ?_
  refine rr_cVi (c_X5_barredTwo l W hM hI) oX5_shut_3 (cv_X5_124 rfl) (by decide) kk_46 (by decide) hcn_5 (wd_lt W rfl) rfl rfl (Nat.le_of_ble_eq_true rfl) ?_
  refine si_4 oX5_shut_6 rfl rfl ?_
  refine ri_4 oX5_shut_8 ?_
  refine rr_if_eq (tgt := 20) oX5_shut_10 (by decide) (fun c => ?_) (fun c => ?_)
  · refine ri_1 oX5_shut_20 ?_
    refine ri_2 oX5_shut_21 ?_
    refine rr_icmp_ne (tgt := 32) oX5_shut_22 (by decide) (fun c1 => ?_) (fun c1 => ?_)
    · have els : s_ls S i j = 0 := by rw [s_ls, if_neg (fun q => c1 q.2)]; exact c
      obtain ⟨a, b, ⟨ha, rfl, ha2⟩, ⟨hb, rfl, hb2⟩⟩ := s_lh_0 h8 c
      have exa : ix_N (nI a) = a := nI_clamp (by omega)
      have exb : ix_N (nI b) = b := nI_clamp (by omega)
      refine ra_0 oX5_shut_32 ?_
      refine rr_gr (v := 54) oX5_shut_33 (ff_X5_44 rfl) kk_46 (wd_lt W rfl) ⟨by decide, rfl⟩ (wd_r W rfl rfl) ?_
      refine ri_1 oX5_shut_36 ?_
      refine rr_iv oX5_shut_37 kk_54 (wd_lt W rfl) rfl (by omega) (by decide) (hM.1.2.2.1 a (by omega)) ?_
      refine si_5 oX5_shut_38 rfl rfl ?_
      refine ra_0 oX5_shut_40 ?_
      refine rr_gr (v := 54) oX5_shut_41 (ff_X5_44 rfl) kk_46 (wd_lt W rfl) ⟨by decide, rfl⟩ (wd_r W rfl rfl) ?_
      refine ri_1 oX5_shut_44 ?_
      refine ri_3 oX5_shut_45 ?_
      refine rr_ifb_eq (tgt := 58) oX5_shut_46 (by decide) (fun cw => ?_) (fun cw => ?_)
      · have hw : w = false := by simpa using cw
        subst hw
        refine ri_5 oX5_shut_58 ?_
        refine rk_1 oX5_shut_60 ?_
        refine ri_2 oX5_shut_61 ?_
        refine rr_ishl oX5_shut_62 ?_
        refine rk_m1 oX5_shut_63 ?_
        refine rr_ixor oX5_shut_64 ?_
        refine rr_iand oX5_shut_65 ?_
        rw [st_of1 (by omega)]
        refine rr_ist oX5_shut_66 kk_54 (wd_lt W rfl) rfl (by omega) (by decide) ?_
        refine ri_5 oX5_shut_67 ?_
        refine ra_0 oX5_shut_69 ?_
        refine rr_gr (v := 54) oX5_shut_70 (ff_X5_44 rfl) kk_46 (wd_lt W rfl) ⟨by decide, rfl⟩ (wd_r W rfl rfl) ?_
        refine ri_1 oX5_shut_73 ?_
        refine rr_iv oX5_shut_74 kk_54 (wd_lt W rfl) rfl (by omega) (by decide) (show up_I I 54 a _ 54 a = _ from up_I_at) ?_
        refine rr_icmp_ne (tgt := 82) oX5_shut_75 (by decide) (fun c75 => ?_) (fun c75 => ?_)
        · refine rk_1 oX5_shut_82 ?_
          exact rr_ireturn oX5_shut_83 rfl rfl (q_M_gr hM (mg_sh1 hM.1) (fun f q => rfl) (fun a q0 q1 q2 q3 q4 => up_I_ne (by omega)) (show f_shut S (nI a) (nI b) false = (1, w_B S (b_ws (z_B S) (up_2 (b_sh (z_B S)) b a false))) from by rw [f_shut, els, if_neg (fun q => q rfl), exa, exb, if_neg (fun q => c75 ((st_eq1 (by omega)).mpr q))]) rfl)
        · refine rk_0 oX5_shut_78 ?_
          refine rr_goto (tgt := 83) oX5_shut_79 (by decide) ?_
          exact rr_ireturn oX5_shut_83 rfl rfl (q_M_gr hM (B := z_B S) (mg_sh0 hM.1 c75.symm) (fun f q => rfl) (fun a q0 q1 q2 q3 q4 => up_I_ne (by omega)) (show f_shut S (nI a) (nI b) false = (0, w_B S (z_B S)) from by rw [f_shut, els, if_neg (fun q => q rfl), exa, exb, if_pos ((st_eq1 (by omega)).mp c75)]; rfl) rfl)
      · subst cw
        refine ri_5 oX5_shut_49 ?_
        refine rk_1 oX5_shut_51 ?_
        refine ri_2 oX5_shut_52 ?_
        refine rr_ishl oX5_shut_53 ?_
        refine rr_ior oX5_shut_54 ?_
        refine rr_goto (tgt := 66) oX5_shut_55 (by decide) ?_
        rw [st_on1 (by omega)]
        refine rr_ist oX5_shut_66 kk_54 (wd_lt W rfl) rfl (by omega) (by decide) ?_
        refine ri_5 oX5_shut_67 ?_
        refine ra_0 oX5_shut_69 ?_
        refine rr_gr (v := 54) oX5_shut_70 (ff_X5_44 rfl) kk_46 (wd_lt W rfl) ⟨by decide, rfl⟩ (wd_r W rfl rfl) ?_
        refine ri_1 oX5_shut_73 ?_
        refine rr_iv oX5_shut_74 kk_54 (wd_lt W rfl) rfl (by omega) (by decide) (show up_I I 54 a _ 54 a = _ from up_I_at) ?_
        refine rr_icmp_ne (tgt := 82) oX5_shut_75 (by decide) (fun c75 => ?_) (fun c75 => ?_)
        · refine rk_1 oX5_shut_82 ?_
          exact rr_ireturn oX5_shut_83 rfl rfl (q_M_gr hM (mg_sh1 hM.1) (fun f q => rfl) (fun a q0 q1 q2 q3 q4 => up_I_ne (by omega)) (show f_shut S (nI a) (nI b) true = (1, w_B S (b_ws (z_B S) (up_2 (b_sh (z_B S)) b a true))) from by rw [f_shut, els, if_neg (fun q => q rfl), exa, exb, if_neg (fun q => c75 ((st_eq1 (by omega)).mpr q))]) rfl)
        · refine rk_0 oX5_shut_78 ?_
          refine rr_goto (tgt := 83) oX5_shut_79 (by decide) ?_
          exact rr_ireturn oX5_shut_83 rfl rfl (q_M_gr hM (B := z_B S) (mg_sh0 hM.1 c75.symm) (fun f q => rfl) (fun a q0 q1 q2 q3 q4 => up_I_ne (by omega)) (show f_shut S (nI a) (nI b) true = (0, w_B S (z_B S)) from by rw [f_shut, els, if_neg (fun q => q rfl), exa, exb, if_pos ((st_eq1 (by omega)).mp c75)]; rfl) rfl)
    · refine ra_0 oX5_shut_25 ?_
      refine rr_bipush (v := (-6)) oX5_shut_26 (by decide) ?_
      refine rr_cVi (c_X5_no l W (c := 6) (by decide) (by decide)) oX5_shut_28 (cv_X5_97 rfl) (by decide) kk_46 (by decide) hcn_5 (wd_lt W rfl) rfl rfl (Nat.le_of_ble_eq_true rfl) ?_
      exact rr_ireturn oX5_shut_31 rfl rfl (q_M_noc hM me_rf (show _ = f_no S (-6) from by rw [f_shut, show s_ls S i j = -6 from by rw [s_ls, if_pos ⟨c, c1⟩], if_pos (by decide)]) (by decide) (by decide))
  · have hno := no_lh c
    refine ra_0 oX5_shut_13 ?_
    refine ri_4 oX5_shut_14 ?_
    refine rr_cVi (c_X5_no l W hno.1 hno.2) oX5_shut_16 (cv_X5_97 rfl) (by decide) kk_46 (by decide) hcn_5 (wd_lt W rfl) rfl rfl (Nat.le_of_ble_eq_true rfl) ?_
    exact rr_ireturn oX5_shut_19 rfl rfl (q_M_nov hM me_rf (by rw [f_shut, show s_ls S i j = s_lh S i j from by rw [s_ls, if_neg (fun q => c q.1)], if_pos c]) hno.1)
theorem c_X5_draw (l : Launch) {I : Nat → Nat → Int32} {L : Nat → Nat → Int64} {Rf : Nat → Nat → Option Nat} {n : Nat} {S : sg_T} (W : wd_T Rf n) (hM : MR_T I L S) (hI : IV_T S) {t : Int32} {w : Bool} : wm_C l mX5_draw 3 0 0 [vv_A (some 46), vv_I t, vv_I (bI (w = true))] (I, L, Rf, n) (q_M (f_draw S t w).1 (f_draw S t w).2 I L Rf n) := by
  refine wm_of (by decide) (Nat.le_of_ble_eq_true rfl) rfl ?_
  have hQ : mq_T I (z_G S) (b_dr (z_B S)) (b_sh (z_B S)) := mg_mq hM.1 hI.1
  have hG := hQ.1
  have h8 : g_n (z_G S) ≤ 8 := hI.1.1
  have hr : hr_T (z_G S) := hI.1.2.1
  refine ra_0 oX5_draw_0 ?_
  refine ri_1 oX5_draw_1 ?_
  refine rr_cVi (c_X5_barred l W hM hI) oX5_draw_2 (cv_X5_127 rfl) (by decide) kk_46 (by decide) hcn_5 (wd_lt W rfl) rfl rfl (Nat.le_of_ble_eq_true rfl) ?_
  refine si_3 oX5_draw_5 rfl rfl ?_
  refine ri_3 oX5_draw_6 ?_
  refine rr_if_eq (tgt := 16) oX5_draw_7 (by decide) (fun c => ?_) (fun c => ?_)
  · obtain ⟨a, b, ⟨ha, rfl, ha2⟩, ⟨hb, e2, hb2⟩⟩ := s_lh_0 h8 c
    have exa : ix_N (nI a) = a := nI_clamp (by omega)
    refine ra_0 oX5_draw_16 ?_
    refine rr_gr (v := 53) oX5_draw_17 (ff_X5_41 rfl) kk_46 (wd_lt W rfl) ⟨by decide, rfl⟩ (wd_r W rfl rfl) ?_
    refine ri_1 oX5_draw_20 ?_
    refine rr_iv oX5_draw_21 kk_53 (wd_lt W rfl) rfl (by omega) (by decide) (hM.1.2.1 a (by omega)) ?_
    refine si_4 oX5_draw_22 rfl rfl ?_
    refine ra_0 oX5_draw_24 ?_
    refine rr_gr (v := 53) oX5_draw_25 (ff_X5_41 rfl) kk_46 (wd_lt W rfl) ⟨by decide, rfl⟩ (wd_r W rfl rfl) ?_
    refine ri_1 oX5_draw_28 ?_
    refine ri_2 oX5_draw_29 ?_
    refine rr_ifb_eq (tgt := 37) oX5_draw_30 (by decide) (fun cw => ?_) (fun cw => ?_)
    · have hw : w = false := by simpa using cw
      subst hw
      refine rk_0 oX5_draw_37 ?_
      refine rr_ist oX5_draw_38 kk_53 (wd_lt W rfl) rfl (by omega) (by decide) ?_
      refine ri_4 oX5_draw_39 ?_
      refine ra_0 oX5_draw_41 ?_
      refine rr_gr (v := 53) oX5_draw_42 (ff_X5_41 rfl) kk_46 (wd_lt W rfl) ⟨by decide, rfl⟩ (wd_r W rfl rfl) ?_
      refine ri_1 oX5_draw_45 ?_
      refine rr_iv oX5_draw_46 kk_53 (wd_lt W rfl) rfl (by omega) (by decide) (show up_I I 53 a _ 53 a = _ from up_I_at) ?_
      refine rr_icmp_ne (tgt := 54) oX5_draw_47 (by decide) (fun c47 => ?_) (fun c47 => ?_)
      · refine rk_1 oX5_draw_54 ?_
        exact rr_ireturn oX5_draw_55 rfl rfl (q_M_gr hM (mg_dr1 (w := false) hM.1 rfl) (fun f q => rfl) (fun a q0 q1 q2 q3 q4 => up_I_ne (by omega)) (show f_draw S (nI a) false = (1, w_B S (b_wd (z_B S) (up_1 (b_dr (z_B S)) a false))) from by rw [f_draw, if_neg (fun q => q c), exa, if_neg (fun q => c47 (dq0.mpr q))]) rfl)
      · refine rk_0 oX5_draw_50 ?_
        refine rr_goto (tgt := 55) oX5_draw_51 (by decide) ?_
        exact rr_ireturn oX5_draw_55 rfl rfl (q_M_gr hM (B := z_B S) (mg_dr0 (w := false) hM.1 rfl (dq0.mp c47)) (fun f q => rfl) (fun a q0 q1 q2 q3 q4 => up_I_ne (by omega)) (show f_draw S (nI a) false = (0, w_B S (z_B S)) from by rw [f_draw, if_neg (fun q => q c), exa, if_pos (dq0.mp c47)]; rfl) rfl)
    · subst cw
      refine rk_1 oX5_draw_33 ?_
      refine rr_goto (tgt := 38) oX5_draw_34 (by decide) ?_
      refine rr_ist oX5_draw_38 kk_53 (wd_lt W rfl) rfl (by omega) (by decide) ?_
      refine ri_4 oX5_draw_39 ?_
      refine ra_0 oX5_draw_41 ?_
      refine rr_gr (v := 53) oX5_draw_42 (ff_X5_41 rfl) kk_46 (wd_lt W rfl) ⟨by decide, rfl⟩ (wd_r W rfl rfl) ?_
      refine ri_1 oX5_draw_45 ?_
      refine rr_iv oX5_draw_46 kk_53 (wd_lt W rfl) rfl (by omega) (by decide) (show up_I I 53 a _ 53 a = _ from up_I_at) ?_
      refine rr_icmp_ne (tgt := 54) oX5_draw_47 (by decide) (fun c47 => ?_) (fun c47 => ?_)
      · refine rk_1 oX5_draw_54 ?_
        exact rr_ireturn oX5_draw_55 rfl rfl (q_M_gr hM (mg_dr1 (w := true) hM.1 rfl) (fun f q => rfl) (fun a q0 q1 q2 q3 q4 => up_I_ne (by omega)) (show f_draw S (nI a) true = (1, w_B S (b_wd (z_B S) (up_1 (b_dr (z_B S)) a true))) from by rw [f_draw, if_neg (fun q => q c), exa, if_neg (fun q => c47 (dq1.mpr q))]) rfl)
      · refine rk_0 oX5_draw_50 ?_
        refine rr_goto (tgt := 55) oX5_draw_51 (by decide) ?_
        exact rr_ireturn oX5_draw_55 rfl rfl (q_M_gr hM (B := z_B S) (mg_dr0 (w := true) hM.1 rfl (dq1.mp c47)) (fun f q => rfl) (fun a q0 q1 q2 q3 q4 => up_I_ne (by omega)) (show f_draw S (nI a) true = (0, w_B S (z_B S)) from by rw [f_draw, if_neg (fun q => q c), exa, if_pos (dq1.mp c47)]; rfl) rfl)
  · have hno := no_lh c
    refine ra_0 oX5_draw_10 ?_
    refine ri_3 oX5_draw_11 ?_
    refine rr_cVi (c_X5_no l W hno.1 hno.2) oX5_draw_12 (cv_X5_97 rfl) (by decide) kk_46 (by decide) hcn_5 (wd_lt W rfl) rfl rfl (Nat.le_of_ble_eq_true rfl) ?_
    exact rr_ireturn oX5_draw_15 rfl rfl (q_M_nov hM me_rf (by rw [f_draw, if_pos c]) hno.1)
theorem c_X5_seed (l : Launch) {I : Nat → Nat → Int32} {L : Nat → Nat → Int64} {Rf : Nat → Nat → Option Nat} {n : Nat} {S : sg_T} (W : wd_T Rf n) (hM : MR_T I L S) (hI : IV_T S) {v : Int32} : wm_C l mX5_seed 1 0 0 [vv_A (some 46), vv_I v] (I, L, Rf, n) (q_M (f_seed S v).1 (f_seed S v).2 I L Rf n) := by
  refine wm_of (by decide) (Nat.le_of_ble_eq_true rfl) rfl ?_
  have hQ : mq_T I (z_G S) (b_dr (z_B S)) (b_sh (z_B S)) := mg_mq hM.1 hI.1
  have hG := hQ.1
  have h8 : g_n (z_G S) ≤ 8 := hI.1.1
  have hr : hr_T (z_G S) := hI.1.2.1
  refine ra_0 oX5_seed_0 ?_
  refine rr_giv oX5_seed_1 (ff_X5_16 rfl) kk_46 (wd_lt W rfl) ⟨by decide, rfl⟩ hM.1.2.2.2.2 ?_
  refine si_2 oX5_seed_4 rfl rfl ?_
  refine ra_0 oX5_seed_5 ?_
  refine ri_1 oX5_seed_6 ?_
  refine rr_pi oX5_seed_7 (ff_X5_16 rfl) kk_46 (wd_lt W rfl) ⟨by decide, rfl, by decide⟩ pf_5_4 ⟨rfl, rfl⟩ ?_
  refine ri_2 oX5_seed_10 ?_
  exact rr_ireturn oX5_seed_11 rfl rfl (q_M_gr hM (mg_sd hM.1) (fun f q => up_I_at_ne (by omega)) (fun a q0 q1 q2 q3 q4 => up_I_ne (by omega)) rfl rfl)
theorem c_X5_trace (l : Launch) {I : Nat → Nat → Int32} {L : Nat → Nat → Int64} {Rf : Nat → Nat → Option Nat} {n : Nat} {S : sg_T} (W : wd_T Rf n) (hM : MR_T I L S) (hI : IV_T S) {i : Int32} : wm_C l mX5_trace 1 0 0 [vv_A (some 46), vv_I i] (I, L, Rf, n) (q_i (f_trace S i) (I, L, Rf, n)) := by
  refine wm_of (by decide) (Nat.le_of_ble_eq_true rfl) rfl ?_
  have hQ : mq_T I (z_G S) (b_dr (z_B S)) (b_sh (z_B S)) := mg_mq hM.1 hI.1
  have hG := hQ.1
  have h8 : g_n (z_G S) ≤ 8 := hI.1.1
  have hr : hr_T (z_G S) := hI.1.2.1
  refine ri_1 oX5_trace_0 ?_
  refine rr_if_lt (tgt := 27) oX5_trace_1 (by decide) (fun c => ?_) (fun c => ?_)
  · refine rk_m1 oX5_trace_27 ?_
    exact rr_ireturn oX5_trace_28 rfl rfl (q_is (by rw [f_trace, if_neg (fun q => Int32.not_le.mpr c q.1)]))
  · refine ri_1 oX5_trace_4 ?_
    refine rr_bipush (v := 20) oX5_trace_5 (by decide) ?_
    refine rr_icmp_ge (tgt := 27) oX5_trace_7 (by decide) (fun c1 => ?_) (fun c1 => ?_)
    · refine rk_m1 oX5_trace_27 ?_
      exact rr_ireturn oX5_trace_28 rfl rfl (q_is (by rw [f_trace, if_neg (fun q => Int32.not_le.mpr q.2.2 c1)]))
    · refine ri_1 oX5_trace_10 ?_
      refine ra_0 oX5_trace_11 ?_
      refine rr_giv oX5_trace_12 (ff_X5_270 rfl) kk_46 (wd_lt W rfl) ⟨by decide, rfl⟩ hM.2.2.2.2.2.2.2.1 ?_
      refine rr_icmp_ge (tgt := 27) oX5_trace_15 (by decide) (fun c2 => ?_) (fun c2 => ?_)
      · refine rk_m1 oX5_trace_27 ?_
        exact rr_ireturn oX5_trace_28 rfl rfl (q_is (by rw [f_trace, if_neg (fun q => Int32.not_le.mpr q.2.1 c2)]))
      · obtain ⟨t, ht, rfl⟩ := ix_of (Int32.not_lt.mp c) (show i < nI 20 from Int32.not_le.mp c1) (by omega)
        have ex : ix_N (nI t) = t := nI_clamp (by omega)
        refine ra_0 oX5_trace_18 ?_
        refine rr_gr (v := 66) oX5_trace_19 (ff_X5_81 rfl) kk_46 (wd_lt W rfl) ⟨by decide, rfl⟩ (wd_r W rfl rfl) ?_
        refine ri_1 oX5_trace_22 ?_
        refine rr_iv oX5_trace_23 kk_66 (wd_lt W rfl) rfl (by omega) (by decide) (hM.2.2.2.2.2.2.1 t ht) ?_
        refine rr_goto (tgt := 28) oX5_trace_24 (by decide) ?_
        exact rr_ireturn oX5_trace_28 rfl rfl (q_is (by rw [f_trace, if_pos ⟨Int32.not_lt.mp c, Int32.not_le.mp c2, Int32.not_le.mp c1⟩, ex]))
theorem st_w {w : Int32} (h : 11 ≤ w) (h2 : w ≤ 17) : 10 < w ∧ w ≤ 17 := ⟨Int32.lt_of_lt_of_le (by decide) h, h2⟩
theorem st_w2 {w : Int32} (h : ¬ (11 ≤ w ∧ w ≤ 17)) : ¬ (10 < w ∧ w ≤ 17) := by
  rintro ⟨a, b⟩
  have g1 := Int32.lt_iff_toInt_lt.mp a
  have g2 := Int32.le_iff_toInt_le.mp b
  rw [show (10 : Int32).toInt = 10 by decide] at g1
  exact h ⟨Int32.le_iff_toInt_le.mpr (by rw [show (11 : Int32).toInt = 11 by decide]; omega), b⟩
theorem st_n {S : sg_T} {w : Int32} (h : ¬ (11 ≤ w ∧ w ≤ 17)) : f_status S w = if w = 0 then nI (g_n (z_G S)) else if w = 1 then st_S (p_h (z_G S)) else if w = 2 then g_s (z_G S) else if w = 3 then g_f (z_G S) else if w = 4 then sm_N (fun j => nI (cn_8 (b_sh (z_B S) j))) 8 0 0 else if w = 5 then nI (cn_8 (b_dr (z_B S))) else if w = 6 then b_fi (z_B S) else if w = 7 then b_sd (z_B S) else if w = 8 then z_ra S else -1 := by
  rw [f_status, if_neg (st_w2 h)]
theorem st_d8 {S : sg_T} (hI : IV_T S) : sm_N (fun i => nI (cn_8 (fun j => b_sh (z_B S) j i))) (g_n (z_G S)) 0 0 = sm_N (fun j => nI (cn_8 (b_sh (z_B S) j))) 8 0 0 :=
  sh_dc hI.1.1 (fun j i q => (hI.1.2.2.2.2.1 j i q).2.1)
theorem c_X5_status (l : Launch) {I : Nat → Nat → Int32} {L : Nat → Nat → Int64} {Rf : Nat → Nat → Option Nat} {n : Nat} {S : sg_T} (W : wd_T Rf n) (hM : MR_T I L S) (hI : IV_T S) {w : Int32} : wm_C l mX5_status 3 0 0 [vv_A (some 46), vv_I w] (I, L, Rf, n) (q_i (f_status S w) (I, L, Rf, n)) := by
  refine wm_of (by decide) (Nat.le_of_ble_eq_true rfl) rfl ?_
  have hQ : mq_T I (z_G S) (b_dr (z_B S)) (b_sh (z_B S)) := mg_mq hM.1 hI.1
  have hG := hQ.1
  have h8 : g_n (z_G S) ≤ 8 := hI.1.1
  have hr : hr_T (z_G S) := hI.1.2.1
  refine ri_1 oX5_status_0 ?_
  refine rr_bipush (v := 11) oX5_status_1 (by decide) ?_
  refine rr_icmp_lt (tgt := 22) oX5_status_3 (by decide) (fun c => ?_) (fun c => ?_)
  · have cs : ¬ (11 ≤ w ∧ w ≤ 17) := fun q => Int32.not_le.mpr c q.1
    refine ri_1 oX5_status_22 ?_
    by_cases c23_0 : w = 0
    · refine rr_tabIn (off := 49) (tgt := 72) oX5_status_23 (by rw [c23_0]; decide) (by rw [c23_0]; decide) (by rw [c23_0]; rfl) (by decide) ?_
      refine ra_0 oX5_status_72 ?_
      refine rr_giv oX5_status_73 (ff_X5_84 rfl) kk_46 (wd_lt W rfl) ⟨by decide, rfl⟩ (mv_c hG) ?_
      exact rr_ireturn oX5_status_76 rfl rfl (q_is (by rw [st_n cs, if_pos c23_0]))
    by_cases c23_1 : w = 1
    · refine rr_tabIn (off := 54) (tgt := 77) oX5_status_23 (by rw [c23_1]; decide) (by rw [c23_1]; decide) (by rw [c23_1]; rfl) (by decide) ?_
      refine ra_0 oX5_status_77 ?_
      refine rr_cVi (c_X5_houses l W hQ) oX5_status_78 (cv_X5_235 rfl) (by decide) kk_46 (by decide) hcn_5 (wd_lt W rfl) rfl rfl (Nat.le_of_ble_eq_true rfl) ?_
      exact rr_ireturn oX5_status_81 rfl rfl (q_is (by rw [st_n cs, if_neg c23_0, if_pos c23_1]))
    by_cases c23_2 : w = 2
    · refine rr_tabIn (off := 59) (tgt := 82) oX5_status_23 (by rw [c23_2]; decide) (by rw [c23_2]; decide) (by rw [c23_2]; rfl) (by decide) ?_
      refine ra_0 oX5_status_82 ?_
      refine rr_giv oX5_status_83 (ff_X5_7 rfl) kk_46 (wd_lt W rfl) ⟨by decide, rfl⟩ (mv_s hG) ?_
      exact rr_ireturn oX5_status_86 rfl rfl (q_is (by rw [st_n cs, if_neg c23_0, if_neg c23_1, if_pos c23_2]))
    by_cases c23_3 : w = 3
    · refine rr_tabIn (off := 64) (tgt := 87) oX5_status_23 (by rw [c23_3]; decide) (by rw [c23_3]; decide) (by rw [c23_3]; rfl) (by decide) ?_
      refine ra_0 oX5_status_87 ?_
      refine rr_giv oX5_status_88 (ff_X5_13 rfl) kk_46 (wd_lt W rfl) ⟨by decide, rfl⟩ (mv_f hG) ?_
      exact rr_ireturn oX5_status_91 rfl rfl (q_is (by rw [st_n cs, if_neg c23_0, if_neg c23_1, if_neg c23_2, if_pos c23_3]))
    by_cases c23_4 : w = 4
    · refine rr_tabIn (off := 69) (tgt := 92) oX5_status_23 (by rw [c23_4]; decide) (by rw [c23_4]; decide) (by rw [c23_4]; rfl) (by decide) ?_
      refine ra_0 oX5_status_92 ?_
      refine rr_cVi (c_X5_shutMany l W hQ) oX5_status_93 (cv_X5_263 rfl) (by decide) kk_46 (by decide) hcn_5 (wd_lt W rfl) rfl rfl (Nat.le_of_ble_eq_true rfl) ?_
      exact rr_ireturn oX5_status_96 rfl rfl (q_is (by rw [st_n cs, if_neg c23_0, if_neg c23_1, if_neg c23_2, if_neg c23_3, if_pos c23_4]; exact st_d8 hI))
    by_cases c23_5 : w = 5
    · refine rr_tabIn (off := 74) (tgt := 97) oX5_status_23 (by rw [c23_5]; decide) (by rw [c23_5]; decide) (by rw [c23_5]; rfl) (by decide) ?_
      refine ra_0 oX5_status_97 ?_
      refine ra_0 oX5_status_98 ?_
      refine rr_cVi (c_X5_drawnOnes l W hQ (fun t q => (hI.1.2.2.2.1 t q).1)) oX5_status_99 (cv_X5_232 rfl) (by decide) kk_46 (by decide) hcn_5 (wd_lt W rfl) rfl rfl (Nat.le_of_ble_eq_true rfl) ?_
      refine rr_cVi (c_X5_many l) oX5_status_102 (cv_X5_107 rfl) (by decide) kk_46 (by decide) hcn_5 (wd_lt W rfl) rfl rfl (Nat.le_of_ble_eq_true rfl) ?_
      exact rr_ireturn oX5_status_105 rfl rfl (q_is (by rw [st_n cs, if_neg c23_0, if_neg c23_1, if_neg c23_2, if_neg c23_3, if_neg c23_4, if_pos c23_5]))
    by_cases c23_6 : w = 6
    · refine rr_tabIn (off := 83) (tgt := 106) oX5_status_23 (by rw [c23_6]; decide) (by rw [c23_6]; decide) (by rw [c23_6]; rfl) (by decide) ?_
      refine ra_0 oX5_status_106 ?_
      refine rr_giv oX5_status_107 (ff_X5_173 rfl) kk_46 (wd_lt W rfl) ⟨by decide, rfl⟩ hM.1.2.2.2.1 ?_
      exact rr_ireturn oX5_status_110 rfl rfl (q_is (by rw [st_n cs, if_neg c23_0, if_neg c23_1, if_neg c23_2, if_neg c23_3, if_neg c23_4, if_neg c23_5, if_pos c23_6]))
    by_cases c23_7 : w = 7
    · refine rr_tabIn (off := 88) (tgt := 111) oX5_status_23 (by rw [c23_7]; decide) (by rw [c23_7]; decide) (by rw [c23_7]; rfl) (by decide) ?_
      refine ra_0 oX5_status_111 ?_
      refine rr_giv oX5_status_112 (ff_X5_16 rfl) kk_46 (wd_lt W rfl) ⟨by decide, rfl⟩ hM.1.2.2.2.2 ?_
      exact rr_ireturn oX5_status_115 rfl rfl (q_is (by rw [st_n cs, if_neg c23_0, if_neg c23_1, if_neg c23_2, if_neg c23_3, if_neg c23_4, if_neg c23_5, if_neg c23_6, if_pos c23_7]))
    by_cases c23_8 : w = 8
    · refine rr_tabIn (off := 93) (tgt := 116) oX5_status_23 (by rw [c23_8]; decide) (by rw [c23_8]; decide) (by rw [c23_8]; rfl) (by decide) ?_
      refine ra_0 oX5_status_116 ?_
      refine rr_giv oX5_status_117 (ff_X5_270 rfl) kk_46 (wd_lt W rfl) ⟨by decide, rfl⟩ hM.2.2.2.2.2.2.2.1 ?_
      exact rr_ireturn oX5_status_120 rfl rfl (q_is (by rw [st_n cs, if_neg c23_0, if_neg c23_1, if_neg c23_2, if_neg c23_3, if_neg c23_4, if_neg c23_5, if_neg c23_6, if_neg c23_7, if_pos c23_8]))
    refine rr_tabOut (tgt := 121) oX5_status_23 (tab_out_0_8 c23_0 c23_1 c23_2 c23_3 c23_4 c23_5 c23_6 c23_7 c23_8) (by decide) ?_
    refine rk_m1 oX5_status_121 ?_
    exact rr_ireturn oX5_status_122 rfl rfl (q_is (by rw [st_n cs, if_neg c23_0, if_neg c23_1, if_neg c23_2, if_neg c23_3, if_neg c23_4, if_neg c23_5, if_neg c23_6, if_neg c23_7, if_neg c23_8]))
  · refine ri_1 oX5_status_6 ?_
    refine rr_bipush (v := 17) oX5_status_7 (by decide) ?_
    refine rr_icmp_gt (tgt := 22) oX5_status_9 (by decide) (fun c1 => ?_) (fun c1 => ?_)
    · have cs : ¬ (11 ≤ w ∧ w ≤ 17) := fun q => Int32.not_le.mpr c1 q.2
      refine ri_1 oX5_status_22 ?_
      by_cases c23_0 : w = 0
      · refine rr_tabIn (off := 49) (tgt := 72) oX5_status_23 (by rw [c23_0]; decide) (by rw [c23_0]; decide) (by rw [c23_0]; rfl) (by decide) ?_
        refine ra_0 oX5_status_72 ?_
        refine rr_giv oX5_status_73 (ff_X5_84 rfl) kk_46 (wd_lt W rfl) ⟨by decide, rfl⟩ (mv_c hG) ?_
        exact rr_ireturn oX5_status_76 rfl rfl (q_is (by rw [st_n cs, if_pos c23_0]))
      by_cases c23_1 : w = 1
      · refine rr_tabIn (off := 54) (tgt := 77) oX5_status_23 (by rw [c23_1]; decide) (by rw [c23_1]; decide) (by rw [c23_1]; rfl) (by decide) ?_
        refine ra_0 oX5_status_77 ?_
        refine rr_cVi (c_X5_houses l W hQ) oX5_status_78 (cv_X5_235 rfl) (by decide) kk_46 (by decide) hcn_5 (wd_lt W rfl) rfl rfl (Nat.le_of_ble_eq_true rfl) ?_
        exact rr_ireturn oX5_status_81 rfl rfl (q_is (by rw [st_n cs, if_neg c23_0, if_pos c23_1]))
      by_cases c23_2 : w = 2
      · refine rr_tabIn (off := 59) (tgt := 82) oX5_status_23 (by rw [c23_2]; decide) (by rw [c23_2]; decide) (by rw [c23_2]; rfl) (by decide) ?_
        refine ra_0 oX5_status_82 ?_
        refine rr_giv oX5_status_83 (ff_X5_7 rfl) kk_46 (wd_lt W rfl) ⟨by decide, rfl⟩ (mv_s hG) ?_
        exact rr_ireturn oX5_status_86 rfl rfl (q_is (by rw [st_n cs, if_neg c23_0, if_neg c23_1, if_pos c23_2]))
      by_cases c23_3 : w = 3
      · refine rr_tabIn (off := 64) (tgt := 87) oX5_status_23 (by rw [c23_3]; decide) (by rw [c23_3]; decide) (by rw [c23_3]; rfl) (by decide) ?_
        refine ra_0 oX5_status_87 ?_
        refine rr_giv oX5_status_88 (ff_X5_13 rfl) kk_46 (wd_lt W rfl) ⟨by decide, rfl⟩ (mv_f hG) ?_
        exact rr_ireturn oX5_status_91 rfl rfl (q_is (by rw [st_n cs, if_neg c23_0, if_neg c23_1, if_neg c23_2, if_pos c23_3]))
      by_cases c23_4 : w = 4
      · refine rr_tabIn (off := 69) (tgt := 92) oX5_status_23 (by rw [c23_4]; decide) (by rw [c23_4]; decide) (by rw [c23_4]; rfl) (by decide) ?_
        refine ra_0 oX5_status_92 ?_
        refine rr_cVi (c_X5_shutMany l W hQ) oX5_status_93 (cv_X5_263 rfl) (by decide) kk_46 (by decide) hcn_5 (wd_lt W rfl) rfl rfl (Nat.le_of_ble_eq_true rfl) ?_
        exact rr_ireturn oX5_status_96 rfl rfl (q_is (by rw [st_n cs, if_neg c23_0, if_neg c23_1, if_neg c23_2, if_neg c23_3, if_pos c23_4]; exact st_d8 hI))
      by_cases c23_5 : w = 5
      · refine rr_tabIn (off := 74) (tgt := 97) oX5_status_23 (by rw [c23_5]; decide) (by rw [c23_5]; decide) (by rw [c23_5]; rfl) (by decide) ?_
        refine ra_0 oX5_status_97 ?_
        refine ra_0 oX5_status_98 ?_
        refine rr_cVi (c_X5_drawnOnes l W hQ (fun t q => (hI.1.2.2.2.1 t q).1)) oX5_status_99 (cv_X5_232 rfl) (by decide) kk_46 (by decide) hcn_5 (wd_lt W rfl) rfl rfl (Nat.le_of_ble_eq_true rfl) ?_
        refine rr_cVi (c_X5_many l) oX5_status_102 (cv_X5_107 rfl) (by decide) kk_46 (by decide) hcn_5 (wd_lt W rfl) rfl rfl (Nat.le_of_ble_eq_true rfl) ?_
        exact rr_ireturn oX5_status_105 rfl rfl (q_is (by rw [st_n cs, if_neg c23_0, if_neg c23_1, if_neg c23_2, if_neg c23_3, if_neg c23_4, if_pos c23_5]))
      by_cases c23_6 : w = 6
      · refine rr_tabIn (off := 83) (tgt := 106) oX5_status_23 (by rw [c23_6]; decide) (by rw [c23_6]; decide) (by rw [c23_6]; rfl) (by decide) ?_
        refine ra_0 oX5_status_106 ?_
        refine rr_giv oX5_status_107 (ff_X5_173 rfl) kk_46 (wd_lt W rfl) ⟨by decide, rfl⟩ hM.1.2.2.2.1 ?_
        exact rr_ireturn oX5_status_110 rfl rfl (q_is (by rw [st_n cs, if_neg c23_0, if_neg c23_1, if_neg c23_2, if_neg c23_3, if_neg c23_4, if_neg c23_5, if_pos c23_6]))
      by_cases c23_7 : w = 7
      · refine rr_tabIn (off := 88) (tgt := 111) oX5_status_23 (by rw [c23_7]; decide) (by rw [c23_7]; decide) (by rw [c23_7]; rfl) (by decide) ?_
        refine ra_0 oX5_status_111 ?_
        refine rr_giv oX5_status_112 (ff_X5_16 rfl) kk_46 (wd_lt W rfl) ⟨by decide, rfl⟩ hM.1.2.2.2.2 ?_
        exact rr_ireturn oX5_status_115 rfl rfl (q_is (by rw [st_n cs, if_neg c23_0, if_neg c23_1, if_neg c23_2, if_neg c23_3, if_neg c23_4, if_neg c23_5, if_neg c23_6, if_pos c23_7]))
      by_cases c23_8 : w = 8
      · refine rr_tabIn (off := 93) (tgt := 116) oX5_status_23 (by rw [c23_8]; decide) (by rw [c23_8]; decide) (by rw [c23_8]; rfl) (by decide) ?_
        refine ra_0 oX5_status_116 ?_
        refine rr_giv oX5_status_117 (ff_X5_270 rfl) kk_46 (wd_lt W rfl) ⟨by decide, rfl⟩ hM.2.2.2.2.2.2.2.1 ?_
        exact rr_ireturn oX5_status_120 rfl rfl (q_is (by rw [st_n cs, if_neg c23_0, if_neg c23_1, if_neg c23_2, if_neg c23_3, if_neg c23_4, if_neg c23_5, if_neg c23_6, if_neg c23_7, if_pos c23_8]))
      refine rr_tabOut (tgt := 121) oX5_status_23 (tab_out_0_8 c23_0 c23_1 c23_2 c23_3 c23_4 c23_5 c23_6 c23_7 c23_8) (by decide) ?_
      refine rk_m1 oX5_status_121 ?_
      exact rr_ireturn oX5_status_122 rfl rfl (q_is (by rw [st_n cs, if_neg c23_0, if_neg c23_1, if_neg c23_2, if_neg c23_3, if_neg c23_4, if_neg c23_5, if_neg c23_6, if_neg c23_7, if_neg c23_8]))
    · have hb := st_w (Int32.not_lt.mp c) (Int32.not_lt.mp c1)
      obtain ⟨t, ht, et⟩ := st_ix hb
      refine ra_0 oX5_status_12 ?_
      refine rr_gr (v := 47) oX5_status_13 (ff_X5_22 rfl) kk_46 (wd_lt W rfl) ⟨by decide, rfl⟩ (wd_r W rfl rfl) ?_
      refine ri_1 oX5_status_16 ?_
      refine rr_bipush (v := 10) oX5_status_17 (by decide) ?_
      refine rr_isub oX5_status_19 ?_
      rw [et]
      refine rr_iv oX5_status_20 kk_47 (wd_lt W rfl) rfl (by omega) (by decide) (hM.2.2.2.1 t ht) ?_
      exact rr_ireturn oX5_status_21 rfl rfl (q_is (by rw [f_status, if_pos hb, et, ix_N, nI_clamp (by omega)]))
theorem zt_N {f g : Nat → Int32} {t i : Nat} (h : f i = if i < t then 0 else g i) : upd f t 0 i = if i < t + 1 then 0 else g i := by
  by_cases q : i = t
  · subst q; simp [upd]
  · simp only [upd, if_neg q]
    rw [h]
    by_cases r : i < t
    · rw [if_pos r, if_pos (by omega)]
    · rw [if_neg r, if_neg (by omega)]
theorem mg_0 {I J : Nat → Nat → Int32} {B : gb_T} (h : mg_T I B) (hd : ∀ t, b_dr B t = true → t < g_n (b_G B)) (hs : ∀ j i, b_sh B j i = true → i < g_n (b_G B)) (h1 : ∀ i, J 54 i = if i < g_n (b_G B) then 0 else I 54 i) (h2 : ∀ i, J 53 i = if i < g_n (b_G B) then 0 else I 53 i) (h3 : ∀ a, a ≠ 53 → a ≠ 54 → J a = I a) : mg_T J (b_G B, fun _ => false, fun _ _ => false, b_fi B, b_sd B) := by
  obtain ⟨⟨g1, g2, g3, g4, g5⟩, g6, g7, g8, g9⟩ := h
  have e46 := h3 46 (by omega) (by omega)
  refine ⟨⟨g1, by rw [e46]; exact g2, by rw [e46]; exact g3, by rw [e46]; exact g4, fun u hu => ?_⟩, fun u hu => ?_, fun u hu => ?_, by rw [e46]; exact g8, by rw [e46]; exact g9⟩
  · rw [h3 48 (by omega) (by omega), h3 49 (by omega) (by omega), h3 50 (by omega) (by omega), h3 51 (by omega) (by omega), h3 52 (by omega) (by omega)]
    exact g5 u hu
  · rw [h2]
    by_cases q : u < g_n (b_G B)
    · rw [if_pos q]; rfl
    · rw [if_neg q, g6 u hu]
      cases z : b_dr B u with
      | false => rfl
      | true => exact absurd (hd u z) q
  · rw [h1]
    show _ = st_S (fun _ => false)
    rw [st_0]
    by_cases q : u < g_n (b_G B)
    · rw [if_pos q]
    · rw [if_neg q, g7 u hu]
      refine st_e0.mpr (fun j _ => ?_)
      cases z : b_sh B j u with
      | false => rfl
      | true => exact absurd (hs j u z) q
theorem lp_X5_opens (l : Launch) {I : Nat → Nat → Int32} {L : Nat → Nat → Int64} {Rf : Nat → Nat → Option Nat} {n : Nat}{S : sg_T} (W : wd_T Rf n) (hM : MR_T I L S) (hI : IV_T S) {x : Int32} {Q : Option vv_T → mx_T → Prop} (hP : ∀ J : Nat → Nat → Int32, (∀ i, J 54 i = if i < g_n (z_G S) then 0 else I 54 i) → (∀ i, J 53 i = if i < g_n (z_G S) then 0 else I 53 i) → (∀ a, a ≠ 53 → a ≠ 54 → J a = I a) → Q (some (vv_I x)) (J, L, Rf, n)) : ∀ m (J : Nat → Nat → Int32) t, t + m = g_n (z_G S) → (∀ i, J 54 i = if i < t then 0 else I 54 i) → (∀ i, J 53 i = if i < t then 0 else I 53 i) → (∀ a, a ≠ 53 → a ≠ 54 → J a = I a) → wm_W l mX5_opens 3 0 0 16 [vv_A (some 46), vv_I x, vv_I (nI t)] [] (J, L, Rf, n) Q := by
  intro m
  induction m with
  | zero =>
    intro J t ht h1 h2 h3
    have h8 : g_n (z_G S) ≤ 8 := hI.1.1
    refine ri_2 oX5_opens_16 ?_
    refine ra_0 oX5_opens_17 ?_
    refine rr_giv oX5_opens_18 (ff_X5_84 rfl) kk_46 (wd_lt W rfl) ⟨by decide, rfl⟩ (show _ = nI (g_n (z_G S)) from by rw [h3 46 (by omega) (by omega)]; exact hM.1.1.2.1) ?_
    refine rr_icmp_ge (tgt := 44) oX5_opens_21 (by decide) (fun c => ?_) (fun c => ?_)
    rotate_left
    · exact absurd c (by rw [nI_le_iff (by omega) (by omega)]; omega)
    refine ri_1 oX5_opens_44 ?_
    exact rr_ireturn oX5_opens_45 rfl rfl (hP J (by rw [show g_n (z_G S) = t by omega]; exact h1) (by rw [show g_n (z_G S) = t by omega]; exact h2) h3)
  | succ m ih =>
    intro J t ht h1 h2 h3
    have h8 : g_n (z_G S) ≤ 8 := hI.1.1
    refine ri_2 oX5_opens_16 ?_
    refine ra_0 oX5_opens_17 ?_
    refine rr_giv oX5_opens_18 (ff_X5_84 rfl) kk_46 (wd_lt W rfl) ⟨by decide, rfl⟩ (show _ = nI (g_n (z_G S)) from by rw [h3 46 (by omega) (by omega)]; exact hM.1.1.2.1) ?_
    refine rr_icmp_ge (tgt := 44) oX5_opens_21 (by decide) (fun c => ?_) (fun c => ?_)
    · (rw [nI_le_iff (by omega) (by omega)] at c; omega)
    refine ra_0 oX5_opens_24 ?_
    refine rr_gr (v := 54) oX5_opens_25 (ff_X5_44 rfl) kk_46 (wd_lt W rfl) ⟨by decide, rfl⟩ (wd_r W rfl rfl) ?_
    refine ri_2 oX5_opens_28 ?_
    refine rk_0 oX5_opens_29 ?_
    refine rr_ist oX5_opens_30 kk_54 (wd_lt W rfl) rfl (by omega) (by decide) ?_
    refine ra_0 oX5_opens_31 ?_
    refine rr_gr (v := 53) oX5_opens_32 (ff_X5_41 rfl) kk_46 (wd_lt W rfl) ⟨by decide, rfl⟩ (wd_r W rfl rfl) ?_
    refine ri_2 oX5_opens_35 ?_
    refine rk_0 oX5_opens_36 ?_
    refine rr_ist oX5_opens_37 kk_53 (wd_lt W rfl) rfl (by omega) (by decide) ?_
    refine rn_2 oX5_opens_38 rfl rfl ?_
    refine rr_goto (tgt := 16) oX5_opens_41 (by decide) ?_
    refine ih _ (t + 1) (by omega) (fun i => ?_) (fun i => ?_) (fun b q1 q2 => by rw [up_I_ne q1, up_I_ne q2]; exact h3 b q1 q2)
    · rw [up_I_ne (by omega), up_I_eq]
      exact zt_N (h1 i)
    · rw [up_I_eq, up_I_ne (by omega)]
      exact zt_N (h2 i)
theorem c_X5_opens (l : Launch) {I : Nat → Nat → Int32} {L : Nat → Nat → Int64} {Rf : Nat → Nat → Option Nat} {n : Nat} {S : sg_T} (W : wd_T Rf n) (hM : MR_T I L S) (hI : IV_T S) : wm_C l mX5_opens 3 0 0 [vv_A (some 46)] (I, L, Rf, n) (q_M (f_opens S).1 (f_opens S).2 I L Rf n) := by
  refine wm_of (by decide) (Nat.le_of_ble_eq_true rfl) rfl ?_
  have hQ : mq_T I (z_G S) (b_dr (z_B S)) (b_sh (z_B S)) := mg_mq hM.1 hI.1
  have hG := hQ.1
  have h8 : g_n (z_G S) ≤ 8 := hI.1.1
  have hr : hr_T (z_G S) := hI.1.2.1
  refine ra_0 oX5_opens_0 ?_
  refine rr_cVi (c_X5_shutMany l W hQ) oX5_opens_1 (cv_X5_263 rfl) (by decide) kk_46 (by decide) hcn_5 (wd_lt W rfl) rfl rfl (Nat.le_of_ble_eq_true rfl) ?_
  rw [st_d8 hI]
  refine ra_0 oX5_opens_4 ?_
  refine ra_0 oX5_opens_5 ?_
  refine rr_cVi (c_X5_drawnOnes l W hQ (fun t q => (hI.1.2.2.2.1 t q).1)) oX5_opens_6 (cv_X5_232 rfl) (by decide) kk_46 (by decide) hcn_5 (wd_lt W rfl) rfl rfl (Nat.le_of_ble_eq_true rfl) ?_
  refine rr_cVi (c_X5_many l) oX5_opens_9 (cv_X5_107 rfl) (by decide) kk_46 (by decide) hcn_5 (wd_lt W rfl) rfl rfl (Nat.le_of_ble_eq_true rfl) ?_
  refine rr_iadd oX5_opens_12 ?_
  refine si_1 oX5_opens_13 rfl rfl ?_
  refine rk_0 oX5_opens_14 ?_
  refine si_2 oX5_opens_15 rfl rfl ?_
  refine lp_X5_opens l W hM hI (fun J h1 h2 h3 => ?_) (g_n (z_G S)) I 0 (Nat.zero_add _) (fun i => by rw [if_neg (by omega)]) (fun i => by rw [if_neg (by omega)]) (fun _ _ _ => rfl)
  exact q_M_gr hM (mg_0 hM.1 (fun t q => (hI.1.2.2.2.1 t q).1) (fun j i q => (hI.1.2.2.2.2.1 j i q).2.1) h1 h2 h3) (fun f q => by rw [h3 46 (by omega) (by omega)]) (fun a q0 q1 q2 q3 q4 => h3 a (by omega) (by omega)) (show f_opens S = (_, _) from rfl) rfl
