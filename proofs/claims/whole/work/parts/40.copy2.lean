/-! the model: copy, says (by program: wip/whole/c40.py) -/
theorem kA_h : ¬ th_T (-1) ∧ ¬ (100 : Int32) ≤ -1 := by decide
theorem kB_h {u : Nat} (hu : u < 8) : th_T (nI u) := by
  have k : ∀ u, u < 8 → (0 ≤ nI u ∧ nI u < 8) := by decide +kernel
  exact k u hu
theorem kC_h {q : Nat} (hq : q < 4) : ¬ th_T (nI (100 + q)) ∧ (100 : Int32) ≤ nI (100 + q) := by
  have k : ∀ q, q < 4 → ¬ (0 ≤ nI (100 + q) ∧ nI (100 + q) < 8) ∧ 100 ≤ nI (100 + q) := by decide +kernel
  exact k q hq
theorem f_cp_no {S : sg_T} {p q i j m r : Int32} (h : s_cp S p q i j m = r) (hr : ¬ r = 0) : f_copy S p q i j m = f_no S r := by rw [f_copy, h, if_pos hr]
theorem cp_lrs {S : sg_T} {p q i j m r : Int32} (h : s_lrs S p q = r) (hr : ¬ r = 0) : s_cp S p q i j m = r := by rw [s_cp, h, if_pos hr]
theorem l1_X5_copy (l : Launch) {I : Nat → Nat → Int32} {L0 : Nat → Nat → Int64} {Rf : Nat → Nat → Option Nat} {n : Nat} (W : wd_T Rf n) {t t2 i j M : Nat} (ht : t < 8) (ht2 : t2 < 8) (hi : i + M ≤ 160) (hj : j + M ≤ 160) {Q : Option vv_T → mx_T → Prop}  : ∀ m (L : Nat → Nat → Int64) k, k + m = M → (∀ x, x < k → L 60 x = L0 59 (160 * t + i + x)) → (∀ a, a ≠ 60 → L a = L0 a) → (∀ (L : Nat → Nat → Int64) w, (∀ x, x < M → L 60 x = L0 59 (160 * t + i + x)) → (∀ a, a ≠ 60 → L a = L0 a) → wm_W l mX5_copy 2 0 0 202 [vv_A (some 46), vv_I (nI t), vv_I (nI t2), vv_I (nI i), vv_I (nI j), vv_I (nI M), w] [] (I, L, Rf, n) Q) → wm_W l mX5_copy 2 0 0 167 [vv_A (some 46), vv_I (nI t), vv_I (nI t2), vv_I (nI i), vv_I (nI j), vv_I (nI M), vv_I (nI k)] [] (I, L, Rf, n) Q := by
  intro m
  induction m with
  | zero =>
    intro L k hk h1 h2 hK
    refine ri_6 oX5_copy_167 ?_
    refine ri_5 oX5_copy_169 ?_
    refine rr_icmp_ge (tgt := 202) oX5_copy_171 (by decide) (fun c => ?_) (fun c => ?_)
    rotate_left
    · exact absurd c (by rw [nI_le_iff (by omega) (by omega)]; omega)
    exact hK L _ (fun x hx => h1 x (by omega)) h2
  | succ m ih =>
    intro L k hk h1 h2 hK
    refine ri_6 oX5_copy_167 ?_
    refine ri_5 oX5_copy_169 ?_
    refine rr_icmp_ge (tgt := 202) oX5_copy_171 (by decide) (fun c => ?_) (fun c => ?_)
    · (rw [nI_le_iff (by omega) (by omega)] at c; omega)
    refine ra_0 oX5_copy_174 ?_
    refine rr_gr (v := 60) oX5_copy_175 (ff_X5_63 rfl) kk_46 (wd_lt W rfl) ⟨by decide, rfl⟩ (wd_r W rfl rfl) ?_
    refine ri_6 oX5_copy_178 ?_
    refine ra_0 oX5_copy_180 ?_
    refine rr_gr (v := 59) oX5_copy_181 (ff_X5_59 rfl) kk_46 (wd_lt W rfl) ⟨by decide, rfl⟩ (wd_r W rfl rfl) ?_
    refine rr_sipush (v := 160) oX5_copy_184 (by decide) ?_
    refine ri_1 oX5_copy_187 ?_
    refine rr_imul oX5_copy_188 ?_
    refine ri_3 oX5_copy_189 ?_
    refine rr_iadd oX5_copy_190 ?_
    refine ri_6 oX5_copy_191 ?_
    refine rr_iadd oX5_copy_193 ?_
    refine rr_lld (t := 160 * t + i + k) oX5_copy_194 kk_59 (wd_lt W rfl) (by rw [cl_160 t ht i (by omega), nI_add]) (by omega) (by decide) ?_
    refine rr_lst (t := k) oX5_copy_195 kk_60 (wd_lt W rfl) rfl (by omega) (by decide) ?_
    refine rn_6 oX5_copy_196 rfl rfl ?_
    refine rr_goto (tgt := 167) oX5_copy_199 (by decide) ?_
    refine ih _ (k + 1) (by omega) (fun x hx => ?_) (fun a ha => ?_) hK
    · rw [up_L_eq, h2 59 (by omega)]
      by_cases q : x = k
      · subst q; exact if_pos rfl
      · exact (if_neg q).trans (h1 x (by omega))
    · rw [up_L_ne ha]; exact h2 a ha
theorem l2_X5_copy (l : Launch) {I : Nat → Nat → Int32} {L0 : Nat → Nat → Int64} {Rf : Nat → Nat → Option Nat} {n : Nat} (W : wd_T Rf n) {t t2 i j M : Nat} (ht : t < 8) (ht2 : t2 < 8) (hi : i + M ≤ 160) (hj : j + M ≤ 160) {Q : Option vv_T → mx_T → Prop}  (hK : ∀ L : Nat → Nat → Int64, (∀ x, x < M → L 59 (160 * t2 + j + x) = L0 59 (160 * t + i + x)) → (∀ y, (y < 160 * t2 + j ∨ 160 * t2 + j + M ≤ y) → L 59 y = L0 59 y) → (∀ a, a ≠ 59 → a ≠ 60 → L a = L0 a) → Q (some (vv_I 1)) (I, L, Rf, n)) : ∀ m (L : Nat → Nat → Int64) k, k + m = M → (∀ x, x < M → L 60 x = L0 59 (160 * t + i + x)) → (∀ x, x < k → L 59 (160 * t2 + j + x) = L0 59 (160 * t + i + x)) → (∀ y, (y < 160 * t2 + j ∨ 160 * t2 + j + k ≤ y) → L 59 y = L0 59 y) → (∀ a, a ≠ 59 → a ≠ 60 → L a = L0 a) → wm_W l mX5_copy 2 0 0 205 [vv_A (some 46), vv_I (nI t), vv_I (nI t2), vv_I (nI i), vv_I (nI j), vv_I (nI M), vv_I (nI k)] [] (I, L, Rf, n) Q := by
  intro m
  induction m with
  | zero =>
    intro L k hk h1 h2 h3 h4
    refine ri_6 oX5_copy_205 ?_
    refine ri_5 oX5_copy_207 ?_
    refine rr_icmp_ge (tgt := 241) oX5_copy_209 (by decide) (fun c => ?_) (fun c => ?_)
    rotate_left
    · exact absurd c (by rw [nI_le_iff (by omega) (by omega)]; omega)
    refine rk_1 oX5_copy_241 ?_
    exact rr_ireturn oX5_copy_242 rfl rfl (hK L (fun x hx => h2 x (by omega)) (fun y hy => h3 y (by omega)) h4)
  | succ m ih =>
    intro L k hk h1 h2 h3 h4
    refine ri_6 oX5_copy_205 ?_
    refine ri_5 oX5_copy_207 ?_
    refine rr_icmp_ge (tgt := 241) oX5_copy_209 (by decide) (fun c => ?_) (fun c => ?_)
    · (rw [nI_le_iff (by omega) (by omega)] at c; omega)
    refine ra_0 oX5_copy_212 ?_
    refine rr_gr (v := 59) oX5_copy_213 (ff_X5_59 rfl) kk_46 (wd_lt W rfl) ⟨by decide, rfl⟩ (wd_r W rfl rfl) ?_
    refine rr_sipush (v := 160) oX5_copy_216 (by decide) ?_
    refine ri_2 oX5_copy_219 ?_
    refine rr_imul oX5_copy_220 ?_
    refine ri_4 oX5_copy_221 ?_
    refine rr_iadd oX5_copy_223 ?_
    refine ri_6 oX5_copy_224 ?_
    refine rr_iadd oX5_copy_226 ?_
    refine ra_0 oX5_copy_227 ?_
    refine rr_gr (v := 60) oX5_copy_228 (ff_X5_63 rfl) kk_46 (wd_lt W rfl) ⟨by decide, rfl⟩ (wd_r W rfl rfl) ?_
    refine ri_6 oX5_copy_231 ?_
    refine rr_lld (t := k) oX5_copy_233 kk_60 (wd_lt W rfl) rfl (by omega) (by decide) ?_
    refine rr_lst (t := 160 * t2 + j + k) oX5_copy_234 kk_59 (wd_lt W rfl) (by rw [cl_160 t2 ht2 j (by omega), nI_add]) (by omega) (by decide) ?_
    refine rn_6 oX5_copy_235 rfl rfl ?_
    refine rr_goto (tgt := 205) oX5_copy_238 (by decide) ?_
    refine ih _ (k + 1) (by omega) (fun x hx => ?_) (fun x hx => ?_) (fun y hy => ?_) (fun a ha hb => ?_)
    · rw [up_L_ne (by omega)]; exact h1 x hx
    · rw [up_L_eq]
      by_cases q : x = k
      · subst q; exact (if_pos rfl).trans (h1 x (by omega))
      · exact (if_neg (by omega)).trans (h2 x (by omega))
    · rw [up_L_eq]; exact (if_neg (by omega)).trans (h3 y (by omega))
    · rw [up_L_ne ha]; exact h4 a ha hb
theorem copy_MR {I : Nat → Nat → Int32} {L M : Nat → Nat → Int64} {S : sg_T} {t t2 i j m q2 : Nat} (hM : MR_T I L S) (ht : t < 8) (ht2 : t2 < 8) (hi : i + m ≤ 160) (hj : j + m ≤ 160) (hq2 : q2 < 4) (e5 : ∀ k, k < 160 → L 59 (160 * t + k) = z_el S t k) (f : z_hd S t2 = nI (100 + q2) ∧ I 55 t2 = 1 ∧ I 56 t2 = nI q2 ∧ I 57 t2 = z_sz S t2 ∧ ∀ k, k < 160 → L 59 (160 * t2 + k) = z_el S t2 k)
    (h2 : ∀ x, x < m → M 59 (160 * t2 + j + x) = L 59 (160 * t + i + x)) (h3 : ∀ y, (y < 160 * t2 + j ∨ 160 * t2 + j + m ≤ y) → M 59 y = L 59 y) : MR_T I M (w_el S (fun s => if s = t2 then va_cpy (z_el S t) (z_el S t2) i j m else z_el S s)) := by
  obtain ⟨f1, f2, f3, f4, f5⟩ := f
  refine MR_sh hM (fun _ _ => rfl) ⟨rfl, rfl, rfl, rfl, rfl, rfl⟩ (fun s hs => ?_)
  by_cases e : s = t2
  · subst e
    refine Or.inr (Or.inr ⟨q2, hq2, f1, f2, f3, f4, fun k hk => ?_⟩)
    show _ = (if s = s then va_cpy (z_el S t) (z_el S s) i j m else z_el S s) k
    rw [if_pos rfl]
    unfold va_cpy
    by_cases z : j ≤ k ∧ k < j + m
    · rw [if_pos z]
      have h := h2 (k - j) (by omega)
      rw [show 160 * s + j + (k - j) = 160 * s + k by omega, show 160 * t + i + (k - j) = 160 * t + (i + (k - j)) by omega, e5 _ (by omega)] at h
      exact h
    · rw [if_neg z, h3 _ (by omega)]
      exact f5 k hk
  · refine mh_o (hM.2.2.2.2.2.1 s hs) ⟨rfl, rfl, rfl, rfl⟩ ⟨rfl, rfl, fun k _ => congrFun (if_neg e) k⟩ (fun k hk => h3 _ (by omega))
theorem c_X5_copy (l : Launch) {I : Nat → Nat → Int32} {L : Nat → Nat → Int64} {Rf : Nat → Nat → Option Nat} {n : Nat} {S : sg_T} (W : wd_T Rf n) (hM : MR_T I L S) (hI : IV_T S) {p q i j m : Int32} : wm_C l mX5_copy 2 0 0 [vv_A (some 46), vv_I p, vv_I q, vv_I i, vv_I j, vv_I m] (I, L, Rf, n) (q_M (f_copy S p q i j m).1 (f_copy S p q i j m).2 I L Rf n) := by
  refine wm_of (by decide) (Nat.le_of_ble_eq_true rfl) rfl ?_
  have hQ : mq_T I (z_G S) (b_dr (z_B S)) (b_sh (z_B S)) := mg_mq hM.1 hI.1
  have hG := hQ.1
  have h8 : g_n (z_G S) ≤ 8 := hI.1.1
  have hr : hr_T (z_G S) := hI.1.2.1
  refine ra_0 oX5_copy_0 ?_
  refine ri_1 oX5_copy_1 ?_
  refine rr_cVi (c_X5_isShelf l W hQ) oX5_copy_2 (cv_X5_94 rfl) (by decide) kk_46 (by decide) hcn_5 (wd_lt W rfl) rfl rfl (Nat.le_of_ble_eq_true rfl) ?_
  refine rr_ifb_eq (tgt := 16) oX5_copy_5 (by decide) (fun c => ?_) (fun c => ?_)
  · refine ra_0 oX5_copy_16 ?_
    refine rk_m1 oX5_copy_17 ?_
    refine rr_cVi (c_X5_no l W (c := 1) (by decide) (by decide)) oX5_copy_18 (cv_X5_97 rfl) (by decide) kk_46 (by decide) hcn_5 (wd_lt W rfl) rfl rfl (Nat.le_of_ble_eq_true rfl) ?_
    exact rr_ireturn oX5_copy_21 rfl rfl (q_M_noc hM me_rf (f_cp_no (cp_lrs (r := -1) (by rw [s_lrs, if_pos (fun z => c z.1)]) (by decide)) (by decide)) (by decide) (by decide))
  · refine ra_0 oX5_copy_8 ?_
    refine ri_2 oX5_copy_9 ?_
    refine rr_cVi (c_X5_isShelf l W hQ) oX5_copy_10 (cv_X5_94 rfl) (by decide) kk_46 (by decide) hcn_5 (wd_lt W rfl) rfl rfl (Nat.le_of_ble_eq_true rfl) ?_
    refine rr_ifb_ne (tgt := 22) oX5_copy_13 (by decide) (fun c1 => ?_) (fun c1 => ?_)
    · obtain ⟨t, ht, rfl⟩ := ix_of c.1 (show p < nI 8 from c.2) (by omega)
      obtain ⟨t2, ht2, rfl⟩ := ix_of c1.1 (show q < nI 8 from c1.2) (by omega)
      have ext : ix_N (nI t) = t := nI_clamp (by omega)
      have ext2 : ix_N (nI t2) = t2 := nI_clamp (by omega)
      have hh := hM.2.2.2.2.2.1 t ht
      rcases hh with ⟨e1, e2⟩ | ⟨u, hu, e1, e2, e3⟩ | ⟨q, hq, e1, e2, e3, e4, e5⟩
      · refine ra_0 oX5_copy_22 ?_
        have hh := hM.2.2.2.2.2.1 t2 ht2
        rcases hh with ⟨f1, f2⟩ | ⟨w, hw, f1, f2, f3⟩ | ⟨q2, hq2, f1, f2, f3, f4, f5⟩
        · refine rr_gr (v := 55) oX5_copy_23 (ff_X5_47 rfl) kk_46 (wd_lt W rfl) ⟨by decide, rfl⟩ (wd_r W rfl rfl) ?_
          refine ri_1 oX5_copy_26 ?_
          refine rr_iv oX5_copy_27 kk_55 (wd_lt W rfl) rfl (by omega) (by decide) e2 ?_
          refine rk_2 oX5_copy_28 ?_
          refine rr_icmp_eq (tgt := 77) oX5_copy_29 (by decide) (fun q => absurd q (by decide)) (fun _ => ?_)
          refine ra_0 oX5_copy_32 ?_
          refine rr_gr (v := 55) oX5_copy_33 (ff_X5_47 rfl) kk_46 (wd_lt W rfl) ⟨by decide, rfl⟩ (wd_r W rfl rfl) ?_
          refine ri_2 oX5_copy_36 ?_
          refine rr_iv oX5_copy_37 kk_55 (wd_lt W rfl) rfl (by omega) (by decide) f2 ?_
          refine rk_2 oX5_copy_38 ?_
          refine rr_icmp_eq (tgt := 77) oX5_copy_39 (by decide) (fun q => absurd q (by decide)) (fun _ => ?_)
          refine ra_0 oX5_copy_42 ?_
          refine rr_gr (v := 55) oX5_copy_43 (ff_X5_47 rfl) kk_46 (wd_lt W rfl) ⟨by decide, rfl⟩ (wd_r W rfl rfl) ?_
          refine ri_1 oX5_copy_46 ?_
          refine rr_iv oX5_copy_47 kk_55 (wd_lt W rfl) rfl (by omega) (by decide) e2 ?_
          refine rk_1 oX5_copy_48 ?_
          refine rr_icmp_ne (tgt := 84) oX5_copy_49 (by decide) (fun _ => ?_) (fun q => absurd q (by decide))
          refine ra_0 oX5_copy_84 ?_
          refine rr_gr (v := 55) oX5_copy_85 (ff_X5_47 rfl) kk_46 (wd_lt W rfl) ⟨by decide, rfl⟩ (wd_r W rfl rfl) ?_
          refine ri_1 oX5_copy_88 ?_
          refine rr_iv oX5_copy_89 kk_55 (wd_lt W rfl) rfl (by omega) (by decide) e2 ?_
          refine rr_if_eq (tgt := 102) oX5_copy_90 (by decide) (fun _ => ?_) (fun q => absurd q (by decide))
          refine ra_0 oX5_copy_102 ?_
          refine rr_bipush (v := (-3)) oX5_copy_103 (by decide) ?_
          refine rr_cVi (c_X5_no l W (c := 3) (by decide) (by decide)) oX5_copy_105 (cv_X5_97 rfl) (by decide) kk_46 (by decide) hcn_5 (wd_lt W rfl) rfl rfl (Nat.le_of_ble_eq_true rfl) ?_
          exact rr_ireturn oX5_copy_108 rfl rfl (q_M_noc hM me_rf (f_cp_no (cp_lrs (r := -3) (by rw [s_lrs_N ht ht2, e1, f1, if_neg (by rintro (z | z); exact kA_h.1 z; exact kA_h.1 z), if_pos (fun z => kA_h.2 z.1)]) (by decide)) (by decide)) (by decide) (by decide))
        · refine rr_gr (v := 55) oX5_copy_23 (ff_X5_47 rfl) kk_46 (wd_lt W rfl) ⟨by decide, rfl⟩ (wd_r W rfl rfl) ?_
          refine ri_1 oX5_copy_26 ?_
          refine rr_iv oX5_copy_27 kk_55 (wd_lt W rfl) rfl (by omega) (by decide) e2 ?_
          refine rk_2 oX5_copy_28 ?_
          refine rr_icmp_eq (tgt := 77) oX5_copy_29 (by decide) (fun q => absurd q (by decide)) (fun _ => ?_)
          refine ra_0 oX5_copy_32 ?_
          refine rr_gr (v := 55) oX5_copy_33 (ff_X5_47 rfl) kk_46 (wd_lt W rfl) ⟨by decide, rfl⟩ (wd_r W rfl rfl) ?_
          refine ri_2 oX5_copy_36 ?_
          refine rr_iv oX5_copy_37 kk_55 (wd_lt W rfl) rfl (by omega) (by decide) f2 ?_
          refine rk_2 oX5_copy_38 ?_
          refine rr_icmp_eq (tgt := 77) oX5_copy_39 (by decide) (fun _ => ?_) (fun q => absurd q (by decide))
          refine ra_0 oX5_copy_77 ?_
          refine rr_bipush (v := (-2)) oX5_copy_78 (by decide) ?_
          refine rr_cVi (c_X5_no l W (c := 2) (by decide) (by decide)) oX5_copy_80 (cv_X5_97 rfl) (by decide) kk_46 (by decide) hcn_5 (wd_lt W rfl) rfl rfl (Nat.le_of_ble_eq_true rfl) ?_
          exact rr_ireturn oX5_copy_83 rfl rfl (q_M_noc hM me_rf (f_cp_no (cp_lrs (r := -2) (by rw [s_lrs_N ht ht2, e1, f1, if_pos (Or.inr (kB_h hw))]) (by decide)) (by decide)) (by decide) (by decide))
        · refine rr_gr (v := 55) oX5_copy_23 (ff_X5_47 rfl) kk_46 (wd_lt W rfl) ⟨by decide, rfl⟩ (wd_r W rfl rfl) ?_
          refine ri_1 oX5_copy_26 ?_
          refine rr_iv oX5_copy_27 kk_55 (wd_lt W rfl) rfl (by omega) (by decide) e2 ?_
          refine rk_2 oX5_copy_28 ?_
          refine rr_icmp_eq (tgt := 77) oX5_copy_29 (by decide) (fun q => absurd q (by decide)) (fun _ => ?_)
          refine ra_0 oX5_copy_32 ?_
          refine rr_gr (v := 55) oX5_copy_33 (ff_X5_47 rfl) kk_46 (wd_lt W rfl) ⟨by decide, rfl⟩ (wd_r W rfl rfl) ?_
          refine ri_2 oX5_copy_36 ?_
          refine rr_iv oX5_copy_37 kk_55 (wd_lt W rfl) rfl (by omega) (by decide) f2 ?_
          refine rk_2 oX5_copy_38 ?_
          refine rr_icmp_eq (tgt := 77) oX5_copy_39 (by decide) (fun q => absurd q (by decide)) (fun _ => ?_)
          refine ra_0 oX5_copy_42 ?_
          refine rr_gr (v := 55) oX5_copy_43 (ff_X5_47 rfl) kk_46 (wd_lt W rfl) ⟨by decide, rfl⟩ (wd_r W rfl rfl) ?_
          refine ri_1 oX5_copy_46 ?_
          refine rr_iv oX5_copy_47 kk_55 (wd_lt W rfl) rfl (by omega) (by decide) e2 ?_
          refine rk_1 oX5_copy_48 ?_
          refine rr_icmp_ne (tgt := 84) oX5_copy_49 (by decide) (fun _ => ?_) (fun q => absurd q (by decide))
          refine ra_0 oX5_copy_84 ?_
          refine rr_gr (v := 55) oX5_copy_85 (ff_X5_47 rfl) kk_46 (wd_lt W rfl) ⟨by decide, rfl⟩ (wd_r W rfl rfl) ?_
          refine ri_1 oX5_copy_88 ?_
          refine rr_iv oX5_copy_89 kk_55 (wd_lt W rfl) rfl (by omega) (by decide) e2 ?_
          refine rr_if_eq (tgt := 102) oX5_copy_90 (by decide) (fun _ => ?_) (fun q => absurd q (by decide))
          refine ra_0 oX5_copy_102 ?_
          refine rr_bipush (v := (-3)) oX5_copy_103 (by decide) ?_
          refine rr_cVi (c_X5_no l W (c := 3) (by decide) (by decide)) oX5_copy_105 (cv_X5_97 rfl) (by decide) kk_46 (by decide) hcn_5 (wd_lt W rfl) rfl rfl (Nat.le_of_ble_eq_true rfl) ?_
          exact rr_ireturn oX5_copy_108 rfl rfl (q_M_noc hM me_rf (f_cp_no (cp_lrs (r := -3) (by rw [s_lrs_N ht ht2, e1, f1, if_neg (by rintro (z | z); exact kA_h.1 z; exact (kC_h hq2).1 z), if_pos (fun z => kA_h.2 z.1)]) (by decide)) (by decide)) (by decide) (by decide))
      · refine ra_0 oX5_copy_22 ?_
        refine rr_gr (v := 55) oX5_copy_23 (ff_X5_47 rfl) kk_46 (wd_lt W rfl) ⟨by decide, rfl⟩ (wd_r W rfl rfl) ?_
        refine ri_1 oX5_copy_26 ?_
        refine rr_iv oX5_copy_27 kk_55 (wd_lt W rfl) rfl (by omega) (by decide) e2 ?_
        refine rk_2 oX5_copy_28 ?_
        refine rr_icmp_eq (tgt := 77) oX5_copy_29 (by decide) (fun _ => ?_) (fun q => absurd q (by decide))
        refine ra_0 oX5_copy_77 ?_
        refine rr_bipush (v := (-2)) oX5_copy_78 (by decide) ?_
        refine rr_cVi (c_X5_no l W (c := 2) (by decide) (by decide)) oX5_copy_80 (cv_X5_97 rfl) (by decide) kk_46 (by decide) hcn_5 (wd_lt W rfl) rfl rfl (Nat.le_of_ble_eq_true rfl) ?_
        exact rr_ireturn oX5_copy_83 rfl rfl (q_M_noc hM me_rf (f_cp_no (cp_lrs (r := -2) (by rw [s_lrs_N ht ht2, e1, if_pos (Or.inl (kB_h hu))]) (by decide)) (by decide)) (by decide) (by decide))
      · refine ra_0 oX5_copy_22 ?_
        have hh := hM.2.2.2.2.2.1 t2 ht2
        rcases hh with ⟨f1, f2⟩ | ⟨w, hw, f1, f2, f3⟩ | ⟨q2, hq2, f1, f2, f3, f4, f5⟩
        · refine rr_gr (v := 55) oX5_copy_23 (ff_X5_47 rfl) kk_46 (wd_lt W rfl) ⟨by decide, rfl⟩ (wd_r W rfl rfl) ?_
          refine ri_1 oX5_copy_26 ?_
          refine rr_iv oX5_copy_27 kk_55 (wd_lt W rfl) rfl (by omega) (by decide) e2 ?_
          refine rk_2 oX5_copy_28 ?_
          refine rr_icmp_eq (tgt := 77) oX5_copy_29 (by decide) (fun q => absurd q (by decide)) (fun _ => ?_)
          refine ra_0 oX5_copy_32 ?_
          refine rr_gr (v := 55) oX5_copy_33 (ff_X5_47 rfl) kk_46 (wd_lt W rfl) ⟨by decide, rfl⟩ (wd_r W rfl rfl) ?_
          refine ri_2 oX5_copy_36 ?_
          refine rr_iv oX5_copy_37 kk_55 (wd_lt W rfl) rfl (by omega) (by decide) f2 ?_
          refine rk_2 oX5_copy_38 ?_
          refine rr_icmp_eq (tgt := 77) oX5_copy_39 (by decide) (fun q => absurd q (by decide)) (fun _ => ?_)
          refine ra_0 oX5_copy_42 ?_
          refine rr_gr (v := 55) oX5_copy_43 (ff_X5_47 rfl) kk_46 (wd_lt W rfl) ⟨by decide, rfl⟩ (wd_r W rfl rfl) ?_
          refine ri_1 oX5_copy_46 ?_
          refine rr_iv oX5_copy_47 kk_55 (wd_lt W rfl) rfl (by omega) (by decide) e2 ?_
          refine rk_1 oX5_copy_48 ?_
          refine rr_icmp_ne (tgt := 84) oX5_copy_49 (by decide) (fun q => absurd q (by decide)) (fun _ => ?_)
          refine ra_0 oX5_copy_52 ?_
          refine rr_gr (v := 55) oX5_copy_53 (ff_X5_47 rfl) kk_46 (wd_lt W rfl) ⟨by decide, rfl⟩ (wd_r W rfl rfl) ?_
          refine ri_2 oX5_copy_56 ?_
          refine rr_iv oX5_copy_57 kk_55 (wd_lt W rfl) rfl (by omega) (by decide) f2 ?_
          refine rk_1 oX5_copy_58 ?_
          refine rr_icmp_ne (tgt := 84) oX5_copy_59 (by decide) (fun _ => ?_) (fun q => absurd q (by decide))
          refine ra_0 oX5_copy_84 ?_
          refine rr_gr (v := 55) oX5_copy_85 (ff_X5_47 rfl) kk_46 (wd_lt W rfl) ⟨by decide, rfl⟩ (wd_r W rfl rfl) ?_
          refine ri_1 oX5_copy_88 ?_
          refine rr_iv oX5_copy_89 kk_55 (wd_lt W rfl) rfl (by omega) (by decide) e2 ?_
          refine rr_if_eq (tgt := 102) oX5_copy_90 (by decide) (fun q => absurd q (by decide)) (fun _ => ?_)
          refine ra_0 oX5_copy_93 ?_
          refine rr_gr (v := 55) oX5_copy_94 (ff_X5_47 rfl) kk_46 (wd_lt W rfl) ⟨by decide, rfl⟩ (wd_r W rfl rfl) ?_
          refine ri_2 oX5_copy_97 ?_
          refine rr_iv oX5_copy_98 kk_55 (wd_lt W rfl) rfl (by omega) (by decide) f2 ?_
          refine rr_if_ne (tgt := 109) oX5_copy_99 (by decide) (fun q => absurd q (by decide)) (fun _ => ?_)
          refine ra_0 oX5_copy_102 ?_
          refine rr_bipush (v := (-3)) oX5_copy_103 (by decide) ?_
          refine rr_cVi (c_X5_no l W (c := 3) (by decide) (by decide)) oX5_copy_105 (cv_X5_97 rfl) (by decide) kk_46 (by decide) hcn_5 (wd_lt W rfl) rfl rfl (Nat.le_of_ble_eq_true rfl) ?_
          exact rr_ireturn oX5_copy_108 rfl rfl (q_M_noc hM me_rf (f_cp_no (cp_lrs (r := -3) (by rw [s_lrs_N ht ht2, e1, f1, if_neg (by rintro (z | z); exact (kC_h hq).1 z; exact kA_h.1 z), if_pos (fun z => kA_h.2 z.2)]) (by decide)) (by decide)) (by decide) (by decide))
        · refine rr_gr (v := 55) oX5_copy_23 (ff_X5_47 rfl) kk_46 (wd_lt W rfl) ⟨by decide, rfl⟩ (wd_r W rfl rfl) ?_
          refine ri_1 oX5_copy_26 ?_
          refine rr_iv oX5_copy_27 kk_55 (wd_lt W rfl) rfl (by omega) (by decide) e2 ?_
          refine rk_2 oX5_copy_28 ?_
          refine rr_icmp_eq (tgt := 77) oX5_copy_29 (by decide) (fun q => absurd q (by decide)) (fun _ => ?_)
          refine ra_0 oX5_copy_32 ?_
          refine rr_gr (v := 55) oX5_copy_33 (ff_X5_47 rfl) kk_46 (wd_lt W rfl) ⟨by decide, rfl⟩ (wd_r W rfl rfl) ?_
          refine ri_2 oX5_copy_36 ?_
          refine rr_iv oX5_copy_37 kk_55 (wd_lt W rfl) rfl (by omega) (by decide) f2 ?_
          refine rk_2 oX5_copy_38 ?_
          refine rr_icmp_eq (tgt := 77) oX5_copy_39 (by decide) (fun _ => ?_) (fun q => absurd q (by decide))
          refine ra_0 oX5_copy_77 ?_
          refine rr_bipush (v := (-2)) oX5_copy_78 (by decide) ?_
          refine rr_cVi (c_X5_no l W (c := 2) (by decide) (by decide)) oX5_copy_80 (cv_X5_97 rfl) (by decide) kk_46 (by decide) hcn_5 (wd_lt W rfl) rfl rfl (Nat.le_of_ble_eq_true rfl) ?_
          exact rr_ireturn oX5_copy_83 rfl rfl (q_M_noc hM me_rf (f_cp_no (cp_lrs (r := -2) (by rw [s_lrs_N ht ht2, e1, f1, if_pos (Or.inr (kB_h hw))]) (by decide)) (by decide)) (by decide) (by decide))
        · refine rr_gr (v := 55) oX5_copy_23 (ff_X5_47 rfl) kk_46 (wd_lt W rfl) ⟨by decide, rfl⟩ (wd_r W rfl rfl) ?_
          refine ri_1 oX5_copy_26 ?_
          refine rr_iv oX5_copy_27 kk_55 (wd_lt W rfl) rfl (by omega) (by decide) e2 ?_
          refine rk_2 oX5_copy_28 ?_
          refine rr_icmp_eq (tgt := 77) oX5_copy_29 (by decide) (fun q => absurd q (by decide)) (fun _ => ?_)
          refine ra_0 oX5_copy_32 ?_
          refine rr_gr (v := 55) oX5_copy_33 (ff_X5_47 rfl) kk_46 (wd_lt W rfl) ⟨by decide, rfl⟩ (wd_r W rfl rfl) ?_
          refine ri_2 oX5_copy_36 ?_
          refine rr_iv oX5_copy_37 kk_55 (wd_lt W rfl) rfl (by omega) (by decide) f2 ?_
          refine rk_2 oX5_copy_38 ?_
          refine rr_icmp_eq (tgt := 77) oX5_copy_39 (by decide) (fun q => absurd q (by decide)) (fun _ => ?_)
          refine ra_0 oX5_copy_42 ?_
          refine rr_gr (v := 55) oX5_copy_43 (ff_X5_47 rfl) kk_46 (wd_lt W rfl) ⟨by decide, rfl⟩ (wd_r W rfl rfl) ?_
          refine ri_1 oX5_copy_46 ?_
          refine rr_iv oX5_copy_47 kk_55 (wd_lt W rfl) rfl (by omega) (by decide) e2 ?_
          refine rk_1 oX5_copy_48 ?_
          refine rr_icmp_ne (tgt := 84) oX5_copy_49 (by decide) (fun q => absurd q (by decide)) (fun _ => ?_)
          refine ra_0 oX5_copy_52 ?_
          refine rr_gr (v := 55) oX5_copy_53 (ff_X5_47 rfl) kk_46 (wd_lt W rfl) ⟨by decide, rfl⟩ (wd_r W rfl rfl) ?_
          refine ri_2 oX5_copy_56 ?_
          refine rr_iv oX5_copy_57 kk_55 (wd_lt W rfl) rfl (by omega) (by decide) f2 ?_
          refine rk_1 oX5_copy_58 ?_
          refine rr_icmp_ne (tgt := 84) oX5_copy_59 (by decide) (fun q => absurd q (by decide)) (fun _ => ?_)
          refine ra_0 oX5_copy_62 ?_
          refine rr_gr (v := 56) oX5_copy_63 (ff_X5_50 rfl) kk_46 (wd_lt W rfl) ⟨by decide, rfl⟩ (wd_r W rfl rfl) ?_
          refine ri_1 oX5_copy_66 ?_
          refine rr_iv oX5_copy_67 kk_56 (wd_lt W rfl) rfl (by omega) (by decide) e3 ?_
          refine ra_0 oX5_copy_68 ?_
          refine rr_gr (v := 56) oX5_copy_69 (ff_X5_50 rfl) kk_46 (wd_lt W rfl) ⟨by decide, rfl⟩ (wd_r W rfl rfl) ?_
          refine ri_2 oX5_copy_72 ?_
          refine rr_iv oX5_copy_73 kk_56 (wd_lt W rfl) rfl (by omega) (by decide) f3 ?_
          refine rr_icmp_eq (tgt := 84) oX5_copy_74 (by decide) (fun c5 => ?_) (fun c5 => ?_)
          · rw [nI_inj (by omega) (by omega)] at c5
            have elr : s_lrs S (nI t) (nI t2) = 0 := by rw [s_lrs_N ht ht2, e1, f1, if_neg (by rintro (z | z); exact (kC_h hq).1 z; exact (kC_h hq2).1 z), if_neg (fun z => z ⟨(kC_h hq).2, (kC_h hq2).2⟩), if_pos (by rw [c5])]
            refine ra_0 oX5_copy_84 ?_
            refine rr_gr (v := 55) oX5_copy_85 (ff_X5_47 rfl) kk_46 (wd_lt W rfl) ⟨by decide, rfl⟩ (wd_r W rfl rfl) ?_
            refine ri_1 oX5_copy_88 ?_
            refine rr_iv oX5_copy_89 kk_55 (wd_lt W rfl) rfl (by omega) (by decide) e2 ?_
            refine rr_if_eq (tgt := 102) oX5_copy_90 (by decide) (fun q => absurd q (by decide)) (fun _ => ?_)
            refine ra_0 oX5_copy_93 ?_
            refine rr_gr (v := 55) oX5_copy_94 (ff_X5_47 rfl) kk_46 (wd_lt W rfl) ⟨by decide, rfl⟩ (wd_r W rfl rfl) ?_
            refine ri_2 oX5_copy_97 ?_
            refine rr_iv oX5_copy_98 kk_55 (wd_lt W rfl) rfl (by omega) (by decide) f2 ?_
            refine rr_if_ne (tgt := 109) oX5_copy_99 (by decide) (fun _ => ?_) (fun q => absurd q (by decide))
            refine ri_5 oX5_copy_109 ?_
            refine rr_if_ge (tgt := 121) oX5_copy_111 (by decide) (fun c6 => ?_) (fun c6 => ?_)
            · refine ri_3 oX5_copy_121 ?_
              refine rr_if_lt (tgt := 157) oX5_copy_122 (by decide) (fun c7 => ?_) (fun c7 => ?_)
              · refine ra_0 oX5_copy_157 ?_
                refine rr_bipush (v := (-5)) oX5_copy_158 (by decide) ?_
                refine rr_cVi (c_X5_no l W (c := 5) (by decide) (by decide)) oX5_copy_160 (cv_X5_97 rfl) (by decide) kk_46 (by decide) hcn_5 (wd_lt W rfl) rfl rfl (Nat.le_of_ble_eq_true rfl) ?_
                exact rr_ireturn oX5_copy_163 rfl rfl (q_M_noc hM me_rf (f_cp_no (r := -5) (by rw [s_cp, if_neg (fun z => z elr), if_neg (Int32.not_lt.mpr c6), ext, ext2, if_pos (fun z => Int32.not_le.mpr c7 z.1.1)]) (by decide)) (by decide) (by decide))
              · refine ri_4 oX5_copy_125 ?_
                refine rr_if_lt (tgt := 157) oX5_copy_127 (by decide) (fun c8 => ?_) (fun c8 => ?_)
                · refine ra_0 oX5_copy_157 ?_
                  refine rr_bipush (v := (-5)) oX5_copy_158 (by decide) ?_
                  refine rr_cVi (c_X5_no l W (c := 5) (by decide) (by decide)) oX5_copy_160 (cv_X5_97 rfl) (by decide) kk_46 (by decide) hcn_5 (wd_lt W rfl) rfl rfl (Nat.le_of_ble_eq_true rfl) ?_
                  exact rr_ireturn oX5_copy_163 rfl rfl (q_M_noc hM me_rf (f_cp_no (r := -5) (by rw [s_cp, if_neg (fun z => z elr), if_neg (Int32.not_lt.mpr c6), ext, ext2, if_pos (fun z => Int32.not_le.mpr c8 z.2.1)]) (by decide)) (by decide) (by decide))
                · refine ri_3 oX5_copy_130 ?_
                  refine ra_0 oX5_copy_131 ?_
                  refine rr_gr (v := 57) oX5_copy_132 (ff_X5_53 rfl) kk_46 (wd_lt W rfl) ⟨by decide, rfl⟩ (wd_r W rfl rfl) ?_
                  refine ri_1 oX5_copy_135 ?_
                  refine rr_iv oX5_copy_136 kk_57 (wd_lt W rfl) rfl (by omega) (by decide) e4 ?_
                  refine ri_5 oX5_copy_137 ?_
                  refine rr_isub oX5_copy_139 ?_
                  refine rr_icmp_gt (tgt := 157) oX5_copy_140 (by decide) (fun c9 => ?_) (fun c9 => ?_)
                  · refine ra_0 oX5_copy_157 ?_
                    refine rr_bipush (v := (-5)) oX5_copy_158 (by decide) ?_
                    refine rr_cVi (c_X5_no l W (c := 5) (by decide) (by decide)) oX5_copy_160 (cv_X5_97 rfl) (by decide) kk_46 (by decide) hcn_5 (wd_lt W rfl) rfl rfl (Nat.le_of_ble_eq_true rfl) ?_
                    exact rr_ireturn oX5_copy_163 rfl rfl (q_M_noc hM me_rf (f_cp_no (r := -5) (by rw [s_cp, if_neg (fun z => z elr), if_neg (Int32.not_lt.mpr c6), ext, ext2, if_pos (fun z => Int32.not_le.mpr c9 z.1.2.2)]) (by decide)) (by decide) (by decide))
                  · refine ri_4 oX5_copy_143 ?_
                    refine ra_0 oX5_copy_145 ?_
                    refine rr_gr (v := 57) oX5_copy_146 (ff_X5_53 rfl) kk_46 (wd_lt W rfl) ⟨by decide, rfl⟩ (wd_r W rfl rfl) ?_
                    refine ri_2 oX5_copy_149 ?_
                    refine rr_iv oX5_copy_150 kk_57 (wd_lt W rfl) rfl (by omega) (by decide) f4 ?_
                    refine ri_5 oX5_copy_151 ?_
                    refine rr_isub oX5_copy_153 ?_
                    refine rr_icmp_le (tgt := 164) oX5_copy_154 (by decide) (fun c10 => ?_) (fun c10 => ?_)
                    · obtain ⟨o1, ho1, ho2, k1, hk1, hk2⟩ := IV_row hI ht (hd_C hq e1)
                      obtain ⟨o3, ho3, ho4, k3, hk3, hk4⟩ := IV_row hI ht2 (hd_C hq2 f1)
                      have r1 : rg_T i m (z_sz S t) := ⟨Int32.not_lt.mp c7, c6, Int32.not_lt.mp c9⟩
                      have r2 : rg_T j m (z_sz S t2) := ⟨Int32.not_lt.mp c8, c6, c10⟩
                      have r3 := rg_N hk1 (hk2 ▸ r1)
                      have r4 := rg_N hk3 (hk4 ▸ r2)
                      obtain ⟨i, hib, rfl⟩ : ∃ i2 : Nat, i2 ≤ 160 ∧ i = nI i2 := ⟨i.toNatClampNeg, by have := r3.2; omega, Int32.toInt_inj.mp (by have := r3.2; rw [nI_toInt (by omega)]; exact nn_I r3.1.1)⟩
                      obtain ⟨j, hjb, rfl⟩ : ∃ j2 : Nat, j2 ≤ 160 ∧ j = nI j2 := ⟨j.toNatClampNeg, by have := r4.2; omega, Int32.toInt_inj.mp (by have := r4.2; rw [nI_toInt (by omega)]; exact nn_I r4.1.1)⟩
                      obtain ⟨m, hmb, rfl⟩ : ∃ m2 : Nat, m2 ≤ 160 ∧ m = nI m2 := ⟨m.toNatClampNeg, by have := r3.2; omega, Int32.toInt_inj.mp (by have := r3.2; rw [nI_toInt (by omega)]; exact nn_I r3.1.2)⟩
                      have eci : (nI i).toNatClampNeg = i := nI_clamp (by omega)
                      have ecj : (nI j).toNatClampNeg = j := nI_clamp (by omega)
                      have ecm : (nI m).toNatClampNeg = m := nI_clamp (by omega)
                      rw [eci, ecm] at r3
                      rw [ecj, ecm] at r4
                      have r32 := r3.2
                      have r42 := r4.2
                      refine rk_0 oX5_copy_164 ?_
                      refine si_6 oX5_copy_165 rfl rfl ?_
                      have ef : f_copy S (nI t) (nI t2) (nI i) (nI j) (nI m) = (1, w_el S (fun s => if s = t2 then va_cpy (z_el S t) (z_el S t2) i j m else z_el S s)) := by
                        rw [f_copy, show s_cp S (nI t) (nI t2) (nI i) (nI j) (nI m) = 0 from by rw [s_cp, if_neg (fun z => z elr), if_neg (Int32.not_lt.mpr c6), ext, ext2, if_neg (fun z => z ⟨r1, r2⟩)], if_neg (by decide), ext, ext2]
                        simp only [ix_N, eci, ecj, ecm]
                      rw [ef]
                      refine l1_X5_copy l W (L0 := L) ht ht2 (i := i) (j := j) (M := m) (by omega) (by omega) m L 0 (Nat.zero_add _) (fun x hx => absurd hx (by omega)) (fun _ _ => rfl) (fun L1 w g1 g2 => ?_)
                      refine rk_0 oX5_copy_202 ?_
                      refine si_6 oX5_copy_203 rfl rfl ?_
                      refine l2_X5_copy l W (L0 := L) ht ht2 (i := i) (j := j) (M := m) (by omega) (by omega) (fun L2 k1 k2 k3 => ?_) m L1 0 (Nat.zero_add _) g1 (fun x hx => absurd hx (by omega)) (fun y _ => by rw [g2 59 (by omega)]) (fun a ha hb => g2 a hb)
                      exact q_M_of rfl (copy_MR hM ht ht2 (by omega) (by omega) hq2 e5 ⟨f1, f2, f3, f4, f5⟩ k1 k2) (fun a ha => ⟨rfl, k3 a (by omega) (by omega)⟩)
                    · refine ra_0 oX5_copy_157 ?_
                      refine rr_bipush (v := (-5)) oX5_copy_158 (by decide) ?_
                      refine rr_cVi (c_X5_no l W (c := 5) (by decide) (by decide)) oX5_copy_160 (cv_X5_97 rfl) (by decide) kk_46 (by decide) hcn_5 (wd_lt W rfl) rfl rfl (Nat.le_of_ble_eq_true rfl) ?_
                      exact rr_ireturn oX5_copy_163 rfl rfl (q_M_noc hM me_rf (f_cp_no (r := -5) (by rw [s_cp, if_neg (fun z => z elr), if_neg (Int32.not_lt.mpr c6), ext, ext2, if_pos (fun z => c10 z.2.2.2)]) (by decide)) (by decide) (by decide))
            · refine ra_0 oX5_copy_114 ?_
              refine rr_bipush (v := (-4)) oX5_copy_115 (by decide) ?_
              refine rr_cVi (c_X5_no l W (c := 4) (by decide) (by decide)) oX5_copy_117 (cv_X5_97 rfl) (by decide) kk_46 (by decide) hcn_5 (wd_lt W rfl) rfl rfl (Nat.le_of_ble_eq_true rfl) ?_
              exact rr_ireturn oX5_copy_120 rfl rfl (q_M_noc hM me_rf (f_cp_no (r := -4) (by rw [s_cp, if_neg (fun z => z elr), if_pos (Int32.not_le.mp c6)]) (by decide)) (by decide) (by decide))
          · rw [nI_inj (by omega) (by omega)] at c5
            refine ra_0 oX5_copy_77 ?_
            refine rr_bipush (v := (-2)) oX5_copy_78 (by decide) ?_
            refine rr_cVi (c_X5_no l W (c := 2) (by decide) (by decide)) oX5_copy_80 (cv_X5_97 rfl) (by decide) kk_46 (by decide) hcn_5 (wd_lt W rfl) rfl rfl (Nat.le_of_ble_eq_true rfl) ?_
            exact rr_ireturn oX5_copy_83 rfl rfl (q_M_noc hM me_rf (f_cp_no (cp_lrs (r := -2) (by rw [s_lrs_N ht ht2, e1, f1, if_neg (by rintro (z | z); exact (kC_h hq).1 z; exact (kC_h hq2).1 z), if_neg (fun z => z ⟨(kC_h hq).2, (kC_h hq2).2⟩), if_neg (fun z => c5 (by have := (nI_inj (by omega) (by omega)).mp z; omega))]) (by decide)) (by decide)) (by decide) (by decide))
    · refine ra_0 oX5_copy_16 ?_
      refine rk_m1 oX5_copy_17 ?_
      refine rr_cVi (c_X5_no l W (c := 1) (by decide) (by decide)) oX5_copy_18 (cv_X5_97 rfl) (by decide) kk_46 (by decide) hcn_5 (wd_lt W rfl) rfl rfl (Nat.le_of_ble_eq_true rfl) ?_
      exact rr_ireturn oX5_copy_21 rfl rfl (q_M_noc hM me_rf (f_cp_no (cp_lrs (r := -1) (by rw [s_lrs, if_pos (fun z => c1 z.2)]) (by decide)) (by decide)) (by decide) (by decide))
theorem ta_N : ∀ h, h < 21 → ∀ a, a < 10 → (s_max 0 (nI h + nI a - nI h) = if nI h < nI h + nI a then nI h + nI a - nI h else 0) ∧ (s_max 0 (0 - nI h) = if nI h < 0 then 0 - nI h else 0) ∧ (s_max 0 (nI h - nI h) = if nI h < nI h then nI h - nI h else 0) := by decide +kernel
theorem ta_of {G : gr_T} {t : Nat} (h : ha_T G t) : s_max 0 (s_tall G t - g_h G t) = if g_h G t < s_tall G t then s_tall G t - g_h G t else 0 := by
  obtain ⟨x, a, u, v, h1, h2, -, -, h3, h4, -, -⟩ := h
  obtain ⟨k1, k2, k3⟩ := ta_N x (by omega) a h2
  unfold s_tall
  rw [h3, h4]
  split
  · split
    · exact k1
    · exact k2
  · split
    · exact k1
    · exact k3
theorem hd_B {S : sg_T} (hI : IV_T S) {t u : Nat} (ht : t < 8) (hu : u < 8) (e : z_hd S t = nI u) : u < g_n (z_G S) := by
  have h8 : g_n (z_G S) ≤ 8 := hI.1.1
  rcases hI.2.2 t ht with q | ⟨w, hw, q⟩ | ⟨o, ho, q, -⟩
  · rw [e] at q; exact absurd q (nI_nm1 (by omega))
  · rw [e, nI_inj (by omega) (by omega)] at q; omega
  · rw [e, nI_inj (by omega) (by omega)] at q; omega
theorem k_6 {k : Int32} (h : 0 ≤ k ∧ k ≤ 6) (h0 : ¬ k = 0) (h1 : ¬ k = 1) (h2 : ¬ k = 2) (h3 : ¬ k = 3) (h4 : ¬ k = 4) (h5 : ¬ k = 5) : k = 6 := by
  have g1 := Int32.le_iff_toInt_le.mp h.1
  have g2 := Int32.le_iff_toInt_le.mp h.2
  rw [show (0 : Int32).toInt = 0 by decide] at g1
  rw [show (6 : Int32).toInt = 6 by decide] at g2
  obtain ⟨n, hn, rfl⟩ : ∃ n, n < 7 ∧ k = nI n := ⟨k.toInt.toNat, by omega, Int32.toInt_inj.mp (by rw [nI_toInt (by omega)]; omega)⟩
  have e : ∀ n, n < 7 → (nI n = 0 ∨ nI n = 1 ∨ nI n = 2 ∨ nI n = 3 ∨ nI n = 4 ∨ nI n = 5 ∨ nI n = 6) := by decide +kernel
  rcases e n hn with q | q | q | q | q | q | q
  · exact absurd q h0
  · exact absurd q h1
  · exact absurd q h2
  · exact absurd q h3
  · exact absurd q h4
  · exact absurd q h5
  · exact q
theorem ls_X5_says (l : Launch) {I : Nat → Nat → Int32} {L : Nat → Nat → Int64} {Rf : Nat → Nat → Option Nat} {n : Nat} {S : sg_T} (W : wd_T Rf n) (hM : MR_T I L S) (hI : IV_T S) {t u : Nat} (hu : u < g_n (z_G S)) {k : Int32} (hk : 0 ≤ k ∧ k ≤ 6) (hok : ok_P (g_k (z_G S) u) k) {x4 : vv_T} (ef : f_says S (nI t) k = (s_word S u k, S)) : wm_W l mX5_says 18 0 0 114 [vv_A (some 46), vv_I (nI t), vv_I k, vv_I (nI u), x4] [] (I, L, Rf, n) (q_M (f_says S (nI t) k).1 (f_says S (nI t) k).2 I L Rf n) := by
  have hQ : mq_T I (z_G S) (b_dr (z_B S)) (b_sh (z_B S)) := mg_mq hM.1 hI.1
  have hG := hQ.1
  have h8 : g_n (z_G S) ≤ 8 := hI.1.1
  have hr : hr_T (z_G S) := hI.1.2.1
  refine ri_2 oX5_says_114 ?_
  by_cases c115_0 : k = 0
  · refine rr_tabIn (off := 37) (tgt := 152) oX5_says_115 (by rw [c115_0]; decide) (by rw [c115_0]; decide) (by rw [c115_0]; rfl) (by decide) ?_
    refine ra_0 oX5_says_152 ?_
    refine ri_3 oX5_says_153 ?_
    refine rr_cVi (c_X5_tall l W hQ (by omega)) oX5_says_154 (cv_X5_101 rfl) (by decide) kk_46 (by decide) hcn_5 (wd_lt W rfl) rfl rfl (Nat.le_of_ble_eq_true rfl) ?_
    exact rr_ireturn oX5_says_157 rfl rfl (q_M_an hM me_rf (by rw [ef]) (by rw [s_word, if_pos c115_0]))
  by_cases c115_1 : k = 1
  · refine rr_tabIn (off := 43) (tgt := 158) oX5_says_115 (by rw [c115_1]; decide) (by rw [c115_1]; decide) (by rw [c115_1]; rfl) (by decide) ?_
    refine ra_0 oX5_says_158 ?_
    refine ra_0 oX5_says_159 ?_
    refine ri_3 oX5_says_160 ?_
    have huh : is_H (g_k (z_G S) u) := by rw [c115_1] at hok; rcases hok with q | q | q | q; exact absurd q (by decide); exact q.2; exact absurd q.1 (by decide); exact absurd rfl q.2.1
    refine rr_cVi (c_X5_seersOf l W hQ hu huh) oX5_says_161 (cv_X5_104 rfl) (by decide) kk_46 (by decide) hcn_5 (wd_lt W rfl) rfl rfl (Nat.le_of_ble_eq_true rfl) ?_
    refine rr_cVi (c_X5_many l) oX5_says_164 (cv_X5_107 rfl) (by decide) kk_46 (by decide) hcn_5 (wd_lt W rfl) rfl rfl (Nat.le_of_ble_eq_true rfl) ?_
    exact rr_ireturn oX5_says_167 rfl rfl (q_M_an hM me_rf (by rw [ef]) (by rw [s_word, if_neg c115_0, if_pos c115_1]))
  by_cases c115_2 : k = 2
  · refine rr_tabIn (off := 53) (tgt := 168) oX5_says_115 (by rw [c115_2]; decide) (by rw [c115_2]; decide) (by rw [c115_2]; rfl) (by decide) ?_
    refine ra_0 oX5_says_168 ?_
    refine ri_3 oX5_says_169 ?_
    refine rr_cVi (c_X5_tall l W hQ (by omega)) oX5_says_170 (cv_X5_101 rfl) (by decide) kk_46 (by decide) hcn_5 (wd_lt W rfl) rfl rfl (Nat.le_of_ble_eq_true rfl) ?_
    refine ra_0 oX5_says_173 ?_
    refine rr_gr (v := 51) oX5_says_174 (ff_X5_35 rfl) kk_46 (wd_lt W rfl) ⟨by decide, rfl⟩ (wd_r W rfl rfl) ?_
    refine ri_3 oX5_says_177 ?_
    refine rr_iv oX5_says_178 kk_51 (wd_lt W rfl) rfl (by omega) (by decide) (mv_h hG (by omega)) ?_
    refine rr_icmp_le (tgt := 197) oX5_says_179 (by decide) (fun c => ?_) (fun c => ?_)
    · refine rk_0 oX5_says_197 ?_
      exact rr_ireturn oX5_says_198 rfl rfl (q_M_an hM me_rf (by rw [ef]) (by rw [s_word, if_neg c115_0, if_neg c115_1, if_pos c115_2, ta_of (hI.1.2.2.2.2.2.2.2 u hu), if_neg (Int32.not_lt.mpr c)]))
    · refine ra_0 oX5_says_182 ?_
      refine ri_3 oX5_says_183 ?_
      refine rr_cVi (c_X5_tall l W hQ (by omega)) oX5_says_184 (cv_X5_101 rfl) (by decide) kk_46 (by decide) hcn_5 (wd_lt W rfl) rfl rfl (Nat.le_of_ble_eq_true rfl) ?_
      refine ra_0 oX5_says_187 ?_
      refine rr_gr (v := 51) oX5_says_188 (ff_X5_35 rfl) kk_46 (wd_lt W rfl) ⟨by decide, rfl⟩ (wd_r W rfl rfl) ?_
      refine ri_3 oX5_says_191 ?_
      refine rr_iv oX5_says_192 kk_51 (wd_lt W rfl) rfl (by omega) (by decide) (mv_h hG (by omega)) ?_
      refine rr_isub oX5_says_193 ?_
      refine rr_goto (tgt := 198) oX5_says_194 (by decide) ?_
      exact rr_ireturn oX5_says_198 rfl rfl (q_M_an hM me_rf (by rw [ef]) (by rw [s_word, if_neg c115_0, if_neg c115_1, if_pos c115_2, ta_of (hI.1.2.2.2.2.2.2.2 u hu), if_pos (Int32.not_le.mp c)]))
  by_cases c115_3 : k = 3
  · refine rr_tabIn (off := 84) (tgt := 199) oX5_says_115 (by rw [c115_3]; decide) (by rw [c115_3]; decide) (by rw [c115_3]; rfl) (by decide) ?_
    refine ra_0 oX5_says_199 ?_
    refine ri_3 oX5_says_200 ?_
    refine rr_cVi (c_X5_eyes l W hQ (by omega)) oX5_says_201 (cv_X5_110 rfl) (by decide) kk_46 (by decide) hcn_5 (wd_lt W rfl) rfl rfl (Nat.le_of_ble_eq_true rfl) ?_
    exact rr_ireturn oX5_says_204 rfl rfl (q_M_an hM me_rf (by rw [ef]) (by rw [s_word, if_neg c115_0, if_neg c115_1, if_neg c115_2, if_pos c115_3]))
  by_cases c115_4 : k = 4
  · refine rr_tabIn (off := 90) (tgt := 205) oX5_says_115 (by rw [c115_4]; decide) (by rw [c115_4]; decide) (by rw [c115_4]; rfl) (by decide) ?_
    refine ra_0 oX5_says_205 ?_
    refine ri_3 oX5_says_206 ?_
    have huk : g_k (z_G S) u = 4 := by rw [c115_4] at hok; rcases hok with q | q | q | q; exact absurd q (by decide); exact absurd q.1 (by decide); exact absurd q.1 (by decide); exact q.2.2.2
    have huh : is_H (g_k (z_G S) u) := by rw [huk]; decide
    have ew : s_word S u k = bI (q_ri S u = true) := by rw [s_word, if_neg c115_0, if_neg c115_1, if_neg c115_2, if_neg c115_3, if_pos c115_4]
    have er : q_ri S u = true ↔ cn_8 (p_sr (z_G S) (b_dr (z_B S)) (b_sh (z_B S)) u) = if g_k (z_G S) u = 4 then 0 else 1 := by simp only [q_ri, p_ri, hu, huh, decide_true, Bool.true_and, beq_iff_eq]
    refine rr_cVi (c_X5_isRight l W hQ hu huh) oX5_says_207 (cv_X5_113 rfl) (by decide) kk_46 (by decide) hcn_5 (wd_lt W rfl) rfl rfl (Nat.le_of_ble_eq_true rfl) ?_
    refine rr_ifb_eq (tgt := 217) oX5_says_210 (by decide) (fun c => ?_) (fun c => ?_)
    · refine rk_0 oX5_says_217 ?_
      exact rr_ireturn oX5_says_218 rfl rfl (q_M_an hM me_rf (by rw [ef]) (by rw [ew]; exact (bI_f (fun q => c (er.mp q))).symm))
    · refine rk_1 oX5_says_213 ?_
      refine rr_goto (tgt := 218) oX5_says_214 (by decide) ?_
      exact rr_ireturn oX5_says_218 rfl rfl (q_M_an hM me_rf (by rw [ef]) (by rw [ew]; exact (bI_t (er.mpr c)).symm))
  by_cases c115_5 : k = 5
  · refine rr_tabIn (off := 104) (tgt := 219) oX5_says_115 (by rw [c115_5]; decide) (by rw [c115_5]; decide) (by rw [c115_5]; rfl) (by decide) ?_
    refine rk_0 oX5_says_219 ?_
    exact rr_ireturn oX5_says_220 rfl rfl (q_M_an hM me_rf (by rw [ef]) (by rw [s_word, if_neg c115_0, if_neg c115_1, if_neg c115_2, if_neg c115_3, if_neg (by rw [c115_5]; decide), if_neg (by rw [c115_5]; decide)]))
  refine rr_tabOut (tgt := 221) oX5_says_115 (tab_out_0_5 c115_0 c115_1 c115_2 c115_3 c115_4 c115_5) (by decide) ?_
  refine ra_0 oX5_says_221 ?_
  refine rr_gr (v := 52) oX5_says_222 (ff_X5_38 rfl) kk_46 (wd_lt W rfl) ⟨by decide, rfl⟩ (wd_r W rfl rfl) ?_
  refine ri_3 oX5_says_225 ?_
  refine rr_iv oX5_says_226 kk_52 (wd_lt W rfl) rfl (by omega) (by decide) (mv_a hG (by omega)) ?_
  exact rr_ireturn oX5_says_227 rfl rfl (q_M_an hM me_rf (by rw [ef]) (by rw [s_word, if_neg c115_0, if_neg c115_1, if_neg c115_2, if_neg c115_3, if_neg c115_4, if_pos (k_6 hk c115_0 c115_1 c115_2 c115_3 c115_4 c115_5)]))
theorem c_X5_says (l : Launch) {I : Nat → Nat → Int32} {L : Nat → Nat → Int64} {Rf : Nat → Nat → Option Nat} {n : Nat} {S : sg_T} (W : wd_T Rf n) (hM : MR_T I L S) (hI : IV_T S) {s k : Int32} : wm_C l mX5_says 18 0 0 [vv_A (some 46), vv_I s, vv_I k] (I, L, Rf, n) (q_M (f_says S s k).1 (f_says S s k).2 I L Rf n) := by
  refine wm_of (by decide) (Nat.le_of_ble_eq_true rfl) rfl ?_
  have hQ : mq_T I (z_G S) (b_dr (z_B S)) (b_sh (z_B S)) := mg_mq hM.1 hI.1
  have hG := hQ.1
  have h8 : g_n (z_G S) ≤ 8 := hI.1.1
  have hr : hr_T (z_G S) := hI.1.2.1
  refine ra_0 oX5_says_0 ?_
  refine ri_1 oX5_says_1 ?_
  refine rr_cVi (c_X5_isShelf l W hQ) oX5_says_2 (cv_X5_94 rfl) (by decide) kk_46 (by decide) hcn_5 (wd_lt W rfl) rfl rfl (Nat.le_of_ble_eq_true rfl) ?_
  refine rr_ifb_eq (tgt := 18) oX5_says_5 (by decide) (fun c => ?_) (fun c => ?_)
  · refine ra_0 oX5_says_18 ?_
    refine rk_m1 oX5_says_19 ?_
    refine rr_cVi (c_X5_no l W (c := 1) (by decide) (by decide)) oX5_says_20 (cv_X5_97 rfl) (by decide) kk_46 (by decide) hcn_5 (wd_lt W rfl) rfl rfl (Nat.le_of_ble_eq_true rfl) ?_
    exact rr_ireturn oX5_says_23 rfl rfl (q_M_noc hM me_rf (by rw [f_says, if_pos (Or.inl c)]) (by decide) (by decide))
  · refine ri_2 oX5_says_8 ?_
    refine rr_if_lt (tgt := 18) oX5_says_9 (by decide) (fun c1 => ?_) (fun c1 => ?_)
    · refine ra_0 oX5_says_18 ?_
      refine rk_m1 oX5_says_19 ?_
      refine rr_cVi (c_X5_no l W (c := 1) (by decide) (by decide)) oX5_says_20 (cv_X5_97 rfl) (by decide) kk_46 (by decide) hcn_5 (wd_lt W rfl) rfl rfl (Nat.le_of_ble_eq_true rfl) ?_
      exact rr_ireturn oX5_says_23 rfl rfl (q_M_noc hM me_rf (by rw [f_says, if_pos (Or.inr (fun z => Int32.not_le.mpr c1 z.1))]) (by decide) (by decide))
    · refine ri_2 oX5_says_12 ?_
      refine rr_bipush (v := 6) oX5_says_13 (by decide) ?_
      refine rr_icmp_le (tgt := 24) oX5_says_15 (by decide) (fun c2 => ?_) (fun c2 => ?_)
      · obtain ⟨t, ht, rfl⟩ := ix_of c.1 (show s < nI 8 from c.2) (by omega)
        have ex : ix_N (nI t) = t := nI_clamp (by omega)
        have hsk : ¬ (¬ (0 ≤ nI t ∧ nI t < 8) ∨ ¬ (0 ≤ k ∧ k ≤ 6)) := by rintro (z | z); exact z c; exact z ⟨Int32.not_lt.mp c1, c2⟩
        have hh := hM.2.2.2.2.2.1 t ht
        rcases hh with ⟨e1, e2⟩ | ⟨u, hu, e1, e2, e3⟩ | ⟨q, hq, e1, e2, e3, e4, e5⟩
        · refine ra_0 oX5_says_24 ?_
          refine rr_gr (v := 55) oX5_says_25 (ff_X5_47 rfl) kk_46 (wd_lt W rfl) ⟨by decide, rfl⟩ (wd_r W rfl rfl) ?_
          refine ri_1 oX5_says_28 ?_
          refine rr_iv oX5_says_29 kk_55 (wd_lt W rfl) rfl (by omega) (by decide) e2 ?_
          refine rk_1 oX5_says_30 ?_
          refine rr_icmp_ne (tgt := 41) oX5_says_31 (by decide) (fun _ => ?_) (fun q => absurd q (by decide))
          refine ra_0 oX5_says_41 ?_
          refine rr_gr (v := 55) oX5_says_42 (ff_X5_47 rfl) kk_46 (wd_lt W rfl) ⟨by decide, rfl⟩ (wd_r W rfl rfl) ?_
          refine ri_1 oX5_says_45 ?_
          refine rr_iv oX5_says_46 kk_55 (wd_lt W rfl) rfl (by omega) (by decide) e2 ?_
          refine rr_if_ne (tgt := 57) oX5_says_47 (by decide) (fun q => absurd q (by decide)) (fun _ => ?_)
          refine ra_0 oX5_says_50 ?_
          refine rr_bipush (v := (-3)) oX5_says_51 (by decide) ?_
          refine rr_cVi (c_X5_no l W (c := 3) (by decide) (by decide)) oX5_says_53 (cv_X5_97 rfl) (by decide) kk_46 (by decide) hcn_5 (wd_lt W rfl) rfl rfl (Nat.le_of_ble_eq_true rfl) ?_
          exact rr_ireturn oX5_says_56 rfl rfl (q_M_noc hM me_rf (by rw [f_says, if_neg hsk, ex, e1, if_neg (by decide), if_pos (fun z => absurd z.1 (by decide))]) (by decide) (by decide))
        · refine ra_0 oX5_says_24 ?_
          refine rr_gr (v := 55) oX5_says_25 (ff_X5_47 rfl) kk_46 (wd_lt W rfl) ⟨by decide, rfl⟩ (wd_r W rfl rfl) ?_
          refine ri_1 oX5_says_28 ?_
          refine rr_iv oX5_says_29 kk_55 (wd_lt W rfl) rfl (by omega) (by decide) e2 ?_
          refine rk_1 oX5_says_30 ?_
          refine rr_icmp_ne (tgt := 41) oX5_says_31 (by decide) (fun _ => ?_) (fun q => absurd q (by decide))
          refine ra_0 oX5_says_41 ?_
          refine rr_gr (v := 55) oX5_says_42 (ff_X5_47 rfl) kk_46 (wd_lt W rfl) ⟨by decide, rfl⟩ (wd_r W rfl rfl) ?_
          refine ri_1 oX5_says_45 ?_
          refine rr_iv oX5_says_46 kk_55 (wd_lt W rfl) rfl (by omega) (by decide) e2 ?_
          refine rr_if_ne (tgt := 57) oX5_says_47 (by decide) (fun _ => ?_) (fun q => absurd q (by decide))
          refine ra_0 oX5_says_57 ?_
          refine rr_gr (v := 58) oX5_says_58 (ff_X5_56 rfl) kk_46 (wd_lt W rfl) ⟨by decide, rfl⟩ (wd_r W rfl rfl) ?_
          refine ri_1 oX5_says_61 ?_
          refine rr_iv oX5_says_62 kk_58 (wd_lt W rfl) rfl (by omega) (by decide) e3 ?_
          have hug := hd_B hI ht hu e1
          have exu : ix_N (nI u) = u := nI_clamp (by omega)
          have hkk : 0 ≤ k ∧ k ≤ 6 := ⟨Int32.not_lt.mp c1, c2⟩
          have hrn : rn_T S (nI u) := ⟨nI_pos' (by omega), (nI_lt_iff (by omega) (by omega)).mpr hug⟩
          have h100 : ¬ (100 : Int32) ≤ nI u := fun z => by have := (kB_h hu).2; exact absurd (Int32.lt_of_le_of_lt z this) (by decide)
          have efn : ∀ hok : ok_P (g_k (z_G S) u) k, f_says S (nI t) k = (s_word S u k, S) := fun hok => by rw [f_says, if_neg (by rintro (z | z); exact z c; exact z hkk), ex, e1, if_neg h100, if_neg (fun z => z hrn), exu, if_neg (fun z => z hok)]
          refine si_3 oX5_says_63 rfl rfl ?_
          refine ra_0 oX5_says_64 ?_
          refine rr_gr (v := 48) oX5_says_65 (ff_X5_26 rfl) kk_46 (wd_lt W rfl) ⟨by decide, rfl⟩ (wd_r W rfl rfl) ?_
          refine ri_3 oX5_says_68 ?_
          refine rr_iv oX5_says_69 kk_48 (wd_lt W rfl) rfl (by omega) (by decide) (mv_k hG (by omega)) ?_
          refine si_4 oX5_says_70 rfl rfl ?_
          refine ri_2 oX5_says_72 ?_
          refine rr_if_eq (tgt := 114) oX5_says_73 (by decide) (fun c3 => ?_) (fun c3 => ?_)
          · have ef := efn (Or.inl c3)
            exact ls_X5_says l W hM hI (t := t) hug hkk (by exact Or.inl c3) ef
          · refine ri_2 oX5_says_76 ?_
            refine ri_4 oX5_says_77 ?_
            refine rr_icmp_eq (tgt := 114) oX5_says_79 (by decide) (fun c4 => ?_) (fun c4 => ?_)
            · have hok : ok_P (g_k (z_G S) u) k := by clear efn; grind
              have ef := efn hok
              exact ls_X5_says l W hM hI (t := t) hug hkk (by exact hok) ef
            · refine ri_2 oX5_says_82 ?_
              refine rk_1 oX5_says_83 ?_
              refine rr_icmp_ne (tgt := 95) oX5_says_84 (by decide) (fun c5 => ?_) (fun c5 => ?_)
              · refine ri_2 oX5_says_95 ?_
                refine rk_2 oX5_says_96 ?_
                refine rr_icmp_ne (tgt := 107) oX5_says_97 (by decide) (fun c7 => ?_) (fun c7 => ?_)
                · refine ra_0 oX5_says_107 ?_
                  refine rr_bipush (v := (-2)) oX5_says_108 (by decide) ?_
                  refine rr_cVi (c_X5_no l W (c := 2) (by decide) (by decide)) oX5_says_110 (cv_X5_97 rfl) (by decide) kk_46 (by decide) hcn_5 (wd_lt W rfl) rfl rfl (Nat.le_of_ble_eq_true rfl) ?_
                  exact rr_ireturn oX5_says_113 rfl rfl (q_M_noc hM me_rf (by rw [f_says, if_neg hsk, ex, e1, if_neg h100, if_neg (fun z => z hrn), exu, if_pos (by clear efn; grind)]) (by decide) (by decide))
                · refine ri_4 oX5_says_100 ?_
                  refine rr_bipush (v := 6) oX5_says_102 (by decide) ?_
                  refine rr_icmp_eq (tgt := 114) oX5_says_104 (by decide) (fun c8 => ?_) (fun c8 => ?_)
                  · have hok : ok_P (g_k (z_G S) u) k := Or.inr (Or.inr (Or.inl ⟨c7, Or.inr c8⟩))
                    have ef := efn hok
                    exact ls_X5_says l W hM hI (t := t) hug hkk (by exact hok) ef
                  · refine ra_0 oX5_says_107 ?_
                    refine rr_bipush (v := (-2)) oX5_says_108 (by decide) ?_
                    refine rr_cVi (c_X5_no l W (c := 2) (by decide) (by decide)) oX5_says_110 (cv_X5_97 rfl) (by decide) kk_46 (by decide) hcn_5 (wd_lt W rfl) rfl rfl (Nat.le_of_ble_eq_true rfl) ?_
                    exact rr_ireturn oX5_says_113 rfl rfl (q_M_noc hM me_rf (by rw [f_says, if_neg hsk, ex, e1, if_neg h100, if_neg (fun z => z hrn), exu, if_pos (by clear efn; grind)]) (by decide) (by decide))
              · refine ra_0 oX5_says_87 ?_
                refine ri_3 oX5_says_88 ?_
                refine rr_cVi (c_X5_isHouse l W hQ hug) oX5_says_89 (cv_X5_91 rfl) (by decide) kk_46 (by decide) hcn_5 (wd_lt W rfl) rfl rfl (Nat.le_of_ble_eq_true rfl) ?_
                refine rr_ifb_ne (tgt := 114) oX5_says_92 (by decide) (fun c6 => ?_) (fun c6 => ?_)
                · have hok : ok_P (g_k (z_G S) u) k := Or.inr (Or.inl ⟨c5, c6⟩)
                  have ef := efn hok
                  exact ls_X5_says l W hM hI (t := t) hug hkk (by exact hok) ef
                · refine ri_2 oX5_says_95 ?_
                  refine rk_2 oX5_says_96 ?_
                  refine rr_icmp_ne (tgt := 107) oX5_says_97 (by decide) (fun c7 => ?_) (fun c7 => ?_)
                  · refine ra_0 oX5_says_107 ?_
                    refine rr_bipush (v := (-2)) oX5_says_108 (by decide) ?_
                    refine rr_cVi (c_X5_no l W (c := 2) (by decide) (by decide)) oX5_says_110 (cv_X5_97 rfl) (by decide) kk_46 (by decide) hcn_5 (wd_lt W rfl) rfl rfl (Nat.le_of_ble_eq_true rfl) ?_
                    exact rr_ireturn oX5_says_113 rfl rfl (q_M_noc hM me_rf (by rw [f_says, if_neg hsk, ex, e1, if_neg h100, if_neg (fun z => z hrn), exu, if_pos (by clear efn; grind)]) (by decide) (by decide))
                  · refine ri_4 oX5_says_100 ?_
                    refine rr_bipush (v := 6) oX5_says_102 (by decide) ?_
                    refine rr_icmp_eq (tgt := 114) oX5_says_104 (by decide) (fun c8 => ?_) (fun c8 => ?_)
                    · have hok : ok_P (g_k (z_G S) u) k := Or.inr (Or.inr (Or.inl ⟨c7, Or.inr c8⟩))
                      have ef := efn hok
                      exact ls_X5_says l W hM hI (t := t) hug hkk (by exact hok) ef
                    · refine ra_0 oX5_says_107 ?_
                      refine rr_bipush (v := (-2)) oX5_says_108 (by decide) ?_
                      refine rr_cVi (c_X5_no l W (c := 2) (by decide) (by decide)) oX5_says_110 (cv_X5_97 rfl) (by decide) kk_46 (by decide) hcn_5 (wd_lt W rfl) rfl rfl (Nat.le_of_ble_eq_true rfl) ?_
                      exact rr_ireturn oX5_says_113 rfl rfl (q_M_noc hM me_rf (by rw [f_says, if_neg hsk, ex, e1, if_neg h100, if_neg (fun z => z hrn), exu, if_pos (by clear efn; grind)]) (by decide) (by decide))
        · refine ra_0 oX5_says_24 ?_
          refine rr_gr (v := 55) oX5_says_25 (ff_X5_47 rfl) kk_46 (wd_lt W rfl) ⟨by decide, rfl⟩ (wd_r W rfl rfl) ?_
          refine ri_1 oX5_says_28 ?_
          refine rr_iv oX5_says_29 kk_55 (wd_lt W rfl) rfl (by omega) (by decide) e2 ?_
          refine rk_1 oX5_says_30 ?_
          refine rr_icmp_ne (tgt := 41) oX5_says_31 (by decide) (fun q => absurd q (by decide)) (fun _ => ?_)
          refine ra_0 oX5_says_34 ?_
          refine rr_bipush (v := (-2)) oX5_says_35 (by decide) ?_
          refine rr_cVi (c_X5_no l W (c := 2) (by decide) (by decide)) oX5_says_37 (cv_X5_97 rfl) (by decide) kk_46 (by decide) hcn_5 (wd_lt W rfl) rfl rfl (Nat.le_of_ble_eq_true rfl) ?_
          exact rr_ireturn oX5_says_40 rfl rfl (q_M_noc hM me_rf (by rw [f_says, if_neg hsk, ex, e1, if_pos (kC_h hq).2]) (by decide) (by decide))
      · refine ra_0 oX5_says_18 ?_
        refine rk_m1 oX5_says_19 ?_
        refine rr_cVi (c_X5_no l W (c := 1) (by decide) (by decide)) oX5_says_20 (cv_X5_97 rfl) (by decide) kk_46 (by decide) hcn_5 (wd_lt W rfl) rfl rfl (Nat.le_of_ble_eq_true rfl) ?_
        exact rr_ireturn oX5_says_23 rfl rfl (q_M_noc hM me_rf (by rw [f_says, if_pos (Or.inr (fun z => c2 z.2))]) (by decide) (by decide))
