/-! the model: shelves (by program: wip/whole/c39.py) -/
theorem lrA {S : sg_T} {t : Nat} (ht : t < 8) (e : z_hd S t = -1) : s_lr S (nI t) = -3 := by rw [s_lr_N ht, e]; decide
theorem lrB {S : sg_T} {t u : Nat} (ht : t < 8) (hu : u < 8) (e : z_hd S t = nI u) : s_lr S (nI t) = -2 := by
  have k : ∀ u, u < 8 → (0 ≤ nI u ∧ nI u < 8) := by decide +kernel
  rw [s_lr_N ht, e, if_pos (k u hu)]
theorem lrC {S : sg_T} {t q : Nat} (ht : t < 8) (hq : q < 4) (e : z_hd S t = nI (100 + q)) : s_lr S (nI t) = 0 := by
  have k : ∀ q, q < 4 → ¬ (0 ≤ nI (100 + q) ∧ nI (100 + q) < 8) ∧ 100 ≤ nI (100 + q) := by decide +kernel
  rw [s_lr_N ht, e, if_neg (k q hq).1, if_pos (k q hq).2]
theorem hd_C {S : sg_T} {t q : Nat} (hq : q < 4) (e : z_hd S t = nI (100 + q)) : 100 ≤ z_hd S t := by
  have k : ∀ q, q < 4 → 100 ≤ nI (100 + q) := by decide +kernel
  rw [e]; exact k q hq
theorem cl_160 : ∀ t, t < 8 → ∀ i, i < 160 → (160 : Int32) * nI t + nI i = nI (160 * t + i) := by decide +kernel
theorem MR_sh {I J : Nat → Nat → Int32} {L M : Nat → Nat → Int64} {S S2 : sg_T} (h : MR_T I L S) (hJ : ∀ a, (a < 55 ∨ 58 < a) → J a = I a) (e : z_B S2 = z_B S ∧ z_im S2 = z_im S ∧ z_rf S2 = z_rf S ∧ z_fl S2 = z_fl S ∧ z_tr S2 = z_tr S ∧ z_ra S2 = z_ra S) (hs : ∀ s, s < 8 → mh_T J M S2 s) : MR_T J M S2 := by
  obtain ⟨h1, h2, h3, h4, h5, h6, h7, h8, h9⟩ := h
  obtain ⟨e1, e2, e3, e4, e5, e6⟩ := e
  refine ⟨by rw [e1]; exact mg_ce h1 (fun f _ => by rw [hJ 46 (by omega)]) (fun a q1 q2 => hJ _ (by omega)), by rw [e2, hJ 46 (by omega)]; exact h2, fun q => ?_, fun k hk => by rw [e3, hJ 47 (by omega)]; exact h4 k hk, by rw [e4, hJ 46 (by omega)]; exact h5, hs, fun k hk => by rw [e5, hJ 66 (by omega)]; exact h7 k hk, by rw [e6, hJ 46 (by omega)]; exact h8, fun k hk => by rw [hJ 61 (by omega)]; exact h9 k hk⟩
  rw [e2] at q ⊢
  have := h3 q
  unfold ka_T
  rw [hJ 64 (by omega)]
  exact this
theorem mh_o {I J : Nat → Nat → Int32} {L M : Nat → Nat → Int64} {S S2 : sg_T} {s : Nat} (h : mh_T I L S s) (h1 : J 55 s = I 55 s ∧ J 56 s = I 56 s ∧ J 57 s = I 57 s ∧ J 58 s = I 58 s) (h2 : z_hd S2 s = z_hd S s ∧ z_sz S2 s = z_sz S s ∧ ∀ k, k < 160 → z_el S2 s k = z_el S s k) (h3 : ∀ k, k < 160 → M 59 (160 * s + k) = L 59 (160 * s + k)) : mh_T J M S2 s := by
  obtain ⟨a1, a2, a3, a4⟩ := h1
  obtain ⟨b1, b2, b3⟩ := h2
  unfold mh_T
  rw [a1, a2, a3, a4, b1, b2]
  rcases h with h | h | ⟨q, g1, g2, g3, g4, g5, g6⟩
  · exact Or.inl h
  · exact Or.inr (Or.inl h)
  · exact Or.inr (Or.inr ⟨q, g1, g2, g3, g4, g5, fun k hk => by rw [h3 k hk, b3 k hk]; exact g6 k hk⟩)
theorem c_X5_wants (l : Launch) {I : Nat → Nat → Int32} {L : Nat → Nat → Int64} {Rf : Nat → Nat → Option Nat} {n : Nat} {S : sg_T} (W : wd_T Rf n) (hM : MR_T I L S) (hI : IV_T S) {s : Int32} : wm_C l mX5_wants 2 0 0 [vv_A (some 46), vv_I s] (I, L, Rf, n) (q_i (s_lr S s) (I, L, Rf, n)) := by
  refine wm_of (by decide) (Nat.le_of_ble_eq_true rfl) rfl ?_
  have hQ : mq_T I (z_G S) (b_dr (z_B S)) (b_sh (z_B S)) := mg_mq hM.1 hI.1
  have hG := hQ.1
  have h8 : g_n (z_G S) ≤ 8 := hI.1.1
  have hr : hr_T (z_G S) := hI.1.2.1
  refine ra_0 oX5_wants_0 ?_
  refine ri_1 oX5_wants_1 ?_
  refine rr_cVi (c_X5_isShelf l W hQ) oX5_wants_2 (cv_X5_94 rfl) (by decide) kk_46 (by decide) hcn_5 (wd_lt W rfl) rfl rfl (Nat.le_of_ble_eq_true rfl) ?_
  refine rr_ifb_ne (tgt := 12) oX5_wants_5 (by decide) (fun c => ?_) (fun c => ?_)
  · obtain ⟨t, ht, rfl⟩ := ix_of c.1 (show s < nI 8 from c.2) (by omega)
    have hh := hM.2.2.2.2.2.1 t ht
    rcases hh with ⟨e1, e2⟩ | ⟨u, hu, e1, e2, e3⟩ | ⟨q, hq, e1, e2, e3, e4, e5⟩
    · refine ra_0 oX5_wants_12 ?_
      refine rr_gr (v := 55) oX5_wants_13 (ff_X5_47 rfl) kk_46 (wd_lt W rfl) ⟨by decide, rfl⟩ (wd_r W rfl rfl) ?_
      refine ri_1 oX5_wants_16 ?_
      refine rr_iv oX5_wants_17 kk_55 (wd_lt W rfl) rfl (by omega) (by decide) e2 ?_
      refine rk_2 oX5_wants_18 ?_
      refine rr_icmp_ne (tgt := 27) oX5_wants_19 (by decide) (fun _ => ?_) (fun q => absurd q (by decide))
      refine ra_0 oX5_wants_27 ?_
      refine rr_gr (v := 55) oX5_wants_28 (ff_X5_47 rfl) kk_46 (wd_lt W rfl) ⟨by decide, rfl⟩ (wd_r W rfl rfl) ?_
      refine ri_1 oX5_wants_31 ?_
      refine rr_iv oX5_wants_32 kk_55 (wd_lt W rfl) rfl (by omega) (by decide) e2 ?_
      refine rr_if_ne (tgt := 41) oX5_wants_33 (by decide) (fun q => absurd q (by decide)) (fun _ => ?_)
      refine rr_bipush (v := (-3)) oX5_wants_36 (by decide) ?_
      refine rr_goto (tgt := 42) oX5_wants_38 (by decide) ?_
      exact rr_ireturn oX5_wants_42 rfl rfl (q_is (lrA ht e1).symm)
    · refine ra_0 oX5_wants_12 ?_
      refine rr_gr (v := 55) oX5_wants_13 (ff_X5_47 rfl) kk_46 (wd_lt W rfl) ⟨by decide, rfl⟩ (wd_r W rfl rfl) ?_
      refine ri_1 oX5_wants_16 ?_
      refine rr_iv oX5_wants_17 kk_55 (wd_lt W rfl) rfl (by omega) (by decide) e2 ?_
      refine rk_2 oX5_wants_18 ?_
      refine rr_icmp_ne (tgt := 27) oX5_wants_19 (by decide) (fun q => absurd q (by decide)) (fun _ => ?_)
      refine rr_bipush (v := (-2)) oX5_wants_22 (by decide) ?_
      refine rr_goto (tgt := 42) oX5_wants_24 (by decide) ?_
      exact rr_ireturn oX5_wants_42 rfl rfl (q_is (lrB ht hu e1).symm)
    · refine ra_0 oX5_wants_12 ?_
      refine rr_gr (v := 55) oX5_wants_13 (ff_X5_47 rfl) kk_46 (wd_lt W rfl) ⟨by decide, rfl⟩ (wd_r W rfl rfl) ?_
      refine ri_1 oX5_wants_16 ?_
      refine rr_iv oX5_wants_17 kk_55 (wd_lt W rfl) rfl (by omega) (by decide) e2 ?_
      refine rk_2 oX5_wants_18 ?_
      refine rr_icmp_ne (tgt := 27) oX5_wants_19 (by decide) (fun _ => ?_) (fun q => absurd q (by decide))
      refine ra_0 oX5_wants_27 ?_
      refine rr_gr (v := 55) oX5_wants_28 (ff_X5_47 rfl) kk_46 (wd_lt W rfl) ⟨by decide, rfl⟩ (wd_r W rfl rfl) ?_
      refine ri_1 oX5_wants_31 ?_
      refine rr_iv oX5_wants_32 kk_55 (wd_lt W rfl) rfl (by omega) (by decide) e2 ?_
      refine rr_if_ne (tgt := 41) oX5_wants_33 (by decide) (fun _ => ?_) (fun q => absurd q (by decide))
      refine rk_0 oX5_wants_41 ?_
      exact rr_ireturn oX5_wants_42 rfl rfl (q_is (lrC ht hq e1).symm)
  · refine rk_m1 oX5_wants_8 ?_
    refine rr_goto (tgt := 42) oX5_wants_9 (by decide) ?_
    exact rr_ireturn oX5_wants_42 rfl rfl (q_is (by rw [s_lr, if_neg c]))
theorem lp_X5_row (l : Launch) {I : Nat → Nat → Int32} {L0 : Nat → Nat → Int64} {Rf : Nat → Nat → Option Nat} {n : Nat} (W : wd_T Rf n) {t : Nat} (ht : t < 8) {x y : Int32} {Q : Option vv_T → mx_T → Prop} (hP : ∀ M : Nat → Nat → Int64, (∀ k, k < 160 → M 59 (160 * t + k) = 0) → (∀ a, a ≠ 59 → M a = L0 a) → (∀ k, (k < 160 * t ∨ 160 * t + 160 ≤ k) → M 59 k = L0 59 k) → Q (some (vv_I 1)) (I, M, Rf, n)) : ∀ m (L : Nat → Nat → Int64) i, i + m = 160 → (∀ k, k < i → L 59 (160 * t + k) = 0) → (∀ a, a ≠ 59 → L a = L0 a) → (∀ k, (k < 160 * t ∨ 160 * t + 160 ≤ k) → L 59 k = L0 59 k) → wm_W l mX5_row 2 0 0 79 [vv_A (some 46), vv_I (nI t), vv_I x, vv_I y, vv_I (nI i)] [] (I, L, Rf, n) Q := by
  intro m
  induction m with
  | zero =>
    intro L i hi h1 h2 h3
    refine ri_4 oX5_row_79 ?_
    refine rr_sipush (v := 160) oX5_row_81 (by decide) ?_
    refine rr_icmp_ge (tgt := 107) oX5_row_84 (by decide) (fun c => ?_) (fun c => ?_)
    rotate_left
    · exact absurd c (by rw [show (160 : Int32) = nI 160 from rfl, nI_le_iff (by omega) (by omega)]; omega)
    refine rk_1 oX5_row_107 ?_
    exact rr_ireturn oX5_row_108 rfl rfl (hP L (fun k hk => h1 k (by omega)) h2 h3)
  | succ m ih =>
    intro L i hi h1 h2 h3
    refine ri_4 oX5_row_79 ?_
    refine rr_sipush (v := 160) oX5_row_81 (by decide) ?_
    refine rr_icmp_ge (tgt := 107) oX5_row_84 (by decide) (fun c => ?_) (fun c => ?_)
    · (rw [show (160 : Int32) = nI 160 from rfl, nI_le_iff (by omega) (by omega)] at c; omega)
    refine ra_0 oX5_row_87 ?_
    refine rr_gr (v := 59) oX5_row_88 (ff_X5_59 rfl) kk_46 (wd_lt W rfl) ⟨by decide, rfl⟩ (wd_r W rfl rfl) ?_
    refine rr_sipush (v := 160) oX5_row_91 (by decide) ?_
    refine ri_1 oX5_row_94 ?_
    refine rr_imul oX5_row_95 ?_
    refine ri_4 oX5_row_96 ?_
    refine rr_iadd oX5_row_98 ?_
    refine rr_lconst (v := 0) oX5_row_99 (by decide) ?_
    refine rr_lst (t := 160 * t + i) oX5_row_100 kk_59 (wd_lt W rfl) (cl_160 t ht i (by omega)) (by omega) (by decide) ?_
    refine rn_4 oX5_row_101 rfl rfl ?_
    refine rr_goto (tgt := 79) oX5_row_104 (by decide) ?_
    refine ih _ (i + 1) (by omega) (fun k hk => ?_) (fun b hb => ?_) (fun k hk => ?_)
    · rw [up_L_eq]
      by_cases q : k = i
      · subst q; exact if_pos rfl
      · exact (if_neg (by omega)).trans (h1 k (by omega))
    · rw [up_L_ne hb]; exact h2 b hb
    · rw [up_L_eq]; exact (if_neg (by omega)).trans (h3 k hk)
theorem c_X5_row (l : Launch) {I : Nat → Nat → Int32} {L : Nat → Nat → Int64} {Rf : Nat → Nat → Option Nat} {n : Nat} {S : sg_T} (W : wd_T Rf n) (hM : MR_T I L S) (hI : IV_T S) {s o m : Int32} : wm_C l mX5_row 2 0 0 [vv_A (some 46), vv_I s, vv_I o, vv_I m] (I, L, Rf, n) (q_M (f_row S s o m).1 (f_row S s o m).2 I L Rf n) := by
  refine wm_of (by decide) (Nat.le_of_ble_eq_true rfl) rfl ?_
  have hQ : mq_T I (z_G S) (b_dr (z_B S)) (b_sh (z_B S)) := mg_mq hM.1 hI.1
  have hG := hQ.1
  have h8 : g_n (z_G S) ≤ 8 := hI.1.1
  have hr : hr_T (z_G S) := hI.1.2.1
  refine ra_0 oX5_row_0 ?_
  refine ri_1 oX5_row_1 ?_
  refine rr_cVi (c_X5_isShelf l W hQ) oX5_row_2 (cv_X5_94 rfl) (by decide) kk_46 (by decide) hcn_5 (wd_lt W rfl) rfl rfl (Nat.le_of_ble_eq_true rfl) ?_
  refine rr_ifb_ne (tgt := 14) oX5_row_5 (by decide) (fun c => ?_) (fun c => ?_)
  · refine ri_3 oX5_row_14 ?_
    refine rr_if_ge (tgt := 25) oX5_row_15 (by decide) (fun c1 => ?_) (fun c1 => ?_)
    · refine ri_2 oX5_row_25 ?_
      refine rr_if_lt (tgt := 34) oX5_row_26 (by decide) (fun c2 => ?_) (fun c2 => ?_)
      · refine ra_0 oX5_row_34 ?_
        refine rr_bipush (v := (-6)) oX5_row_35 (by decide) ?_
        refine rr_cVi (c_X5_no l W (c := 6) (by decide) (by decide)) oX5_row_37 (cv_X5_97 rfl) (by decide) kk_46 (by decide) hcn_5 (wd_lt W rfl) rfl rfl (Nat.le_of_ble_eq_true rfl) ?_
        exact rr_ireturn oX5_row_40 rfl rfl (q_M_noc hM me_rf (show f_row S s o m = f_no S (-6) from by rw [f_row, if_neg (fun q => q c), if_neg (Int32.not_lt.mpr c1), if_pos (Or.inl c2)]) (by decide) (by decide))
      · refine ri_2 oX5_row_29 ?_
        refine rk_3 oX5_row_30 ?_
        refine rr_icmp_le (tgt := 41) oX5_row_31 (by decide) (fun c3 => ?_) (fun c3 => ?_)
        · refine ri_3 oX5_row_41 ?_
          refine rr_sipush (v := 160) oX5_row_42 (by decide) ?_
          refine rr_icmp_le (tgt := 55) oX5_row_45 (by decide) (fun c4 => ?_) (fun c4 => ?_)
          · have ef : f_row S s o m = (1, w_el (w_sz (w_hd S (upd (z_hd S) (ix_N s) (100 + o))) (upd (z_sz S) (ix_N s) m)) (fun q => if q = ix_N s then (fun _ => 0) else z_el S q)) := by rw [f_row, if_neg (fun q => q c), if_neg (Int32.not_lt.mpr c1), if_neg (fun q => q.elim c2 (fun z => Int32.not_lt.mpr c3 z)), if_neg (Int32.not_lt.mpr c4)]
            rw [ef]
            obtain ⟨t, ht, rfl⟩ := ix_of c.1 (show s < nI 8 from c.2) (by omega)
            have ex : ix_N (nI t) = t := nI_clamp (by omega)
            rw [ex]
            obtain ⟨q, hq, rfl⟩ := ix_of (Int32.not_lt.mp c2) (show o < nI 4 from Int32.lt_of_le_of_lt c3 (by decide)) (by omega)
            refine ra_0 oX5_row_55 ?_
            refine rr_gr (v := 55) oX5_row_56 (ff_X5_47 rfl) kk_46 (wd_lt W rfl) ⟨by decide, rfl⟩ (wd_r W rfl rfl) ?_
            refine ri_1 oX5_row_59 ?_
            refine rk_1 oX5_row_60 ?_
            refine rr_ist oX5_row_61 kk_55 (wd_lt W rfl) rfl (by omega) (by decide) ?_
            refine ra_0 oX5_row_62 ?_
            refine rr_gr (v := 56) oX5_row_63 (ff_X5_50 rfl) kk_46 (wd_lt W rfl) ⟨by decide, rfl⟩ (wd_r W rfl rfl) ?_
            refine ri_1 oX5_row_66 ?_
            refine ri_2 oX5_row_67 ?_
            refine rr_ist oX5_row_68 kk_56 (wd_lt W rfl) rfl (by omega) (by decide) ?_
            refine ra_0 oX5_row_69 ?_
            refine rr_gr (v := 57) oX5_row_70 (ff_X5_53 rfl) kk_46 (wd_lt W rfl) ⟨by decide, rfl⟩ (wd_r W rfl rfl) ?_
            refine ri_1 oX5_row_73 ?_
            refine ri_3 oX5_row_74 ?_
            refine rr_ist oX5_row_75 kk_57 (wd_lt W rfl) rfl (by omega) (by decide) ?_
            refine rk_0 oX5_row_76 ?_
            refine si_4 oX5_row_77 rfl rfl ?_
            refine lp_X5_row l W ht (fun M m1 m2 m3 => ?_) 160 L 0 rfl (fun k hk => absurd hk (by omega)) (fun _ _ => rfl) (fun _ _ => rfl)
            have ne : ∀ a, a ≠ 55 → a ≠ 56 → a ≠ 57 → up_I (up_I (up_I I 55 t 1) 56 t (nI q)) 57 t m a = I a := fun a q1 q2 q3 => by rw [up_I_ne q3, up_I_ne q2, up_I_ne q1]
            refine q_M_of rfl (MR_sh hM (fun a ha => ne a (by omega) (by omega) (by omega)) ⟨rfl, rfl, rfl, rfl, rfl, rfl⟩ (fun s hs => ?_)) (fun a ha => ⟨ne a (by omega) (by omega) (by omega), m2 a (by omega)⟩)
            by_cases e : s = t
            · subst e
              refine Or.inr (Or.inr ⟨q, hq, ?_, ?_, ?_, ?_, fun k hk => ?_⟩)
              · show (if s = s then (100 : Int32) + nI q else z_hd S s) = _
                rw [if_pos rfl, show (100 : Int32) = nI 100 from rfl, nI_add]
              · rw [up_I_ne (by omega), up_I_ne (by omega), up_I_at]
              · rw [up_I_ne (by omega), up_I_at]
              · rw [up_I_at]; exact (if_pos rfl).symm
              · rw [m1 k hk]
                show (0 : Int64) = (if s = s then (fun _ => 0) else z_el S s) k
                rw [if_pos rfl]
            · refine mh_o (hM.2.2.2.2.2.1 s hs) ⟨?_, ?_, ?_, ?_⟩ ⟨if_neg e, if_neg e, fun k _ => congrFun (if_neg e) k⟩ (fun k hk => m3 _ (by omega))
              · rw [up_I_ne (by omega), up_I_ne (by omega), up_I_at_ne e]
              · rw [up_I_ne (by omega), up_I_at_ne e, up_I_ne (by omega)]
              · rw [up_I_at_ne e, up_I_ne (by omega), up_I_ne (by omega)]
              · rw [ne 58 (by omega) (by omega) (by omega)]
          · refine ra_0 oX5_row_48 ?_
            refine rr_bipush (v := (-7)) oX5_row_49 (by decide) ?_
            refine rr_cVi (c_X5_no l W (c := 7) (by decide) (by decide)) oX5_row_51 (cv_X5_97 rfl) (by decide) kk_46 (by decide) hcn_5 (wd_lt W rfl) rfl rfl (Nat.le_of_ble_eq_true rfl) ?_
            exact rr_ireturn oX5_row_54 rfl rfl (q_M_noc hM me_rf (show f_row S s o m = f_no S (-7) from by rw [f_row, if_neg (fun q => q c), if_neg (Int32.not_lt.mpr c1), if_neg (fun q => q.elim c2 (fun z => Int32.not_lt.mpr c3 z)), if_pos (Int32.not_le.mp c4)]) (by decide) (by decide))
        · refine ra_0 oX5_row_34 ?_
          refine rr_bipush (v := (-6)) oX5_row_35 (by decide) ?_
          refine rr_cVi (c_X5_no l W (c := 6) (by decide) (by decide)) oX5_row_37 (cv_X5_97 rfl) (by decide) kk_46 (by decide) hcn_5 (wd_lt W rfl) rfl rfl (Nat.le_of_ble_eq_true rfl) ?_
          exact rr_ireturn oX5_row_40 rfl rfl (q_M_noc hM me_rf (show f_row S s o m = f_no S (-6) from by rw [f_row, if_neg (fun q => q c), if_neg (Int32.not_lt.mpr c1), if_pos (Or.inr (Int32.not_le.mp c3))]) (by decide) (by decide))
    · refine ra_0 oX5_row_18 ?_
      refine rr_bipush (v := (-4)) oX5_row_19 (by decide) ?_
      refine rr_cVi (c_X5_no l W (c := 4) (by decide) (by decide)) oX5_row_21 (cv_X5_97 rfl) (by decide) kk_46 (by decide) hcn_5 (wd_lt W rfl) rfl rfl (Nat.le_of_ble_eq_true rfl) ?_
      exact rr_ireturn oX5_row_24 rfl rfl (q_M_noc hM me_rf (show f_row S s o m = f_no S (-4) from by rw [f_row, if_neg (fun q => q c), if_pos (Int32.not_le.mp c1)]) (by decide) (by decide))
  · refine ra_0 oX5_row_8 ?_
    refine rk_m1 oX5_row_9 ?_
    refine rr_cVi (c_X5_no l W (c := 1) (by decide) (by decide)) oX5_row_10 (cv_X5_97 rfl) (by decide) kk_46 (by decide) hcn_5 (wd_lt W rfl) rfl rfl (Nat.le_of_ble_eq_true rfl) ?_
    exact rr_ireturn oX5_row_13 rfl rfl (q_M_noc hM me_rf (show f_row S s o m = f_no S (-1) from by rw [f_row, if_pos c]) (by decide) (by decide))
theorem set_MR {I : Nat → Nat → Int32} {L : Nat → Nat → Int64} {S : sg_T} {t w q : Nat} {v x : Int64} (hM : MR_T I L S) (ht : t < 8) (hw : w < 160) (hq : q < 4) (e : z_hd S t = nI (100 + q) ∧ I 55 t = 1 ∧ I 56 t = nI q ∧ I 57 t = z_sz S t ∧ ∀ k, k < 160 → L 59 (160 * t + k) = z_el S t k) (hx : x = s_val (z_hd S t) v) : MR_T I (up_L L 59 (160 * t + w) x) (w_el S (up_L (z_el S) t w (s_val (z_hd S t) v))) := by
  obtain ⟨e1, e2, e3, e4, e5⟩ := e
  refine MR_sh hM (fun _ _ => rfl) ⟨rfl, rfl, rfl, rfl, rfl, rfl⟩ (fun s hs => ?_)
  by_cases e : s = t
  · subst e
    refine Or.inr (Or.inr ⟨q, hq, e1, e2, e3, e4, fun k hk => ?_⟩)
    rw [up_L_eq]
    show _ = up_L (z_el S) s w (s_val (z_hd S s) v) s k
    rw [up_L_eq]
    by_cases z : k = w
    · subst z; simp only [vp_updL, if_true]; exact hx
    · simp only [vp_updL, if_neg z]
      rw [if_neg (by omega)]
      exact e5 k hk
  · refine mh_o (hM.2.2.2.2.2.1 s hs) ⟨rfl, rfl, rfl, rfl⟩ ⟨rfl, rfl, fun k _ => ?_⟩ (fun k hk => ?_)
    · show up_L (z_el S) t w _ s k = _
      rw [up_L_ne e]
    · rw [up_L_eq]
      exact if_neg (by omega)
theorem c_X5_set (l : Launch) {I : Nat → Nat → Int32} {L : Nat → Nat → Int64} {Rf : Nat → Nat → Option Nat} {n : Nat} {S : sg_T} (W : wd_T Rf n) (hM : MR_T I L S) (hI : IV_T S) {s i : Int32} {v : Int64} : wm_C l mX5_set 2 0 0 [vv_A (some 46), vv_I s, vv_I i, vv_L v] (I, L, Rf, n) (q_M (f_set S s i v).1 (f_set S s i v).2 I L Rf n) := by
  refine wm_of (by decide) (Nat.le_of_ble_eq_true rfl) rfl ?_
  have hQ : mq_T I (z_G S) (b_dr (z_B S)) (b_sh (z_B S)) := mg_mq hM.1 hI.1
  have hG := hQ.1
  have h8 : g_n (z_G S) ≤ 8 := hI.1.1
  have hr : hr_T (z_G S) := hI.1.2.1
  refine ra_0 oX5_set_0 ?_
  refine ri_1 oX5_set_1 ?_
  refine rr_cVi (c_X5_isShelf l W hQ) oX5_set_2 (cv_X5_94 rfl) (by decide) kk_46 (by decide) hcn_5 (wd_lt W rfl) rfl rfl (Nat.le_of_ble_eq_true rfl) ?_
  refine rr_ifb_ne (tgt := 14) oX5_set_5 (by decide) (fun c => ?_) (fun c => ?_)
  · obtain ⟨t, ht, rfl⟩ := ix_of c.1 (show s < nI 8 from c.2) (by omega)
    have ex : ix_N (nI t) = t := nI_clamp (by omega)
    have hh := hM.2.2.2.2.2.1 t ht
    rcases hh with ⟨e1, e2⟩ | ⟨u, hu, e1, e2, e3⟩ | ⟨q, hq, e1, e2, e3, e4, e5⟩
    · refine ra_0 oX5_set_14 ?_
      refine rr_gr (v := 55) oX5_set_15 (ff_X5_47 rfl) kk_46 (wd_lt W rfl) ⟨by decide, rfl⟩ (wd_r W rfl rfl) ?_
      refine ri_1 oX5_set_18 ?_
      refine rr_iv oX5_set_19 kk_55 (wd_lt W rfl) rfl (by omega) (by decide) e2 ?_
      refine rk_2 oX5_set_20 ?_
      refine rr_icmp_ne (tgt := 31) oX5_set_21 (by decide) (fun _ => ?_) (fun q => absurd q (by decide))
      refine ra_0 oX5_set_31 ?_
      refine rr_gr (v := 55) oX5_set_32 (ff_X5_47 rfl) kk_46 (wd_lt W rfl) ⟨by decide, rfl⟩ (wd_r W rfl rfl) ?_
      refine ri_1 oX5_set_35 ?_
      refine rr_iv oX5_set_36 kk_55 (wd_lt W rfl) rfl (by omega) (by decide) e2 ?_
      refine rr_if_ne (tgt := 47) oX5_set_37 (by decide) (fun q => absurd q (by decide)) (fun _ => ?_)
      refine ra_0 oX5_set_40 ?_
      refine rr_bipush (v := (-3)) oX5_set_41 (by decide) ?_
      refine rr_cVi (c_X5_no l W (c := 3) (by decide) (by decide)) oX5_set_43 (cv_X5_97 rfl) (by decide) kk_46 (by decide) hcn_5 (wd_lt W rfl) rfl rfl (Nat.le_of_ble_eq_true rfl) ?_
      exact rr_ireturn oX5_set_46 rfl rfl (q_M_noc hM me_rf ((f_set_r (by rw [lrA ht e1]; decide)).trans (by rw [lrA ht e1])) (by decide) (by decide))
    · refine ra_0 oX5_set_14 ?_
      refine rr_gr (v := 55) oX5_set_15 (ff_X5_47 rfl) kk_46 (wd_lt W rfl) ⟨by decide, rfl⟩ (wd_r W rfl rfl) ?_
      refine ri_1 oX5_set_18 ?_
      refine rr_iv oX5_set_19 kk_55 (wd_lt W rfl) rfl (by omega) (by decide) e2 ?_
      refine rk_2 oX5_set_20 ?_
      refine rr_icmp_ne (tgt := 31) oX5_set_21 (by decide) (fun q => absurd q (by decide)) (fun _ => ?_)
      refine ra_0 oX5_set_24 ?_
      refine rr_bipush (v := (-2)) oX5_set_25 (by decide) ?_
      refine rr_cVi (c_X5_no l W (c := 2) (by decide) (by decide)) oX5_set_27 (cv_X5_97 rfl) (by decide) kk_46 (by decide) hcn_5 (wd_lt W rfl) rfl rfl (Nat.le_of_ble_eq_true rfl) ?_
      exact rr_ireturn oX5_set_30 rfl rfl (q_M_noc hM me_rf ((f_set_r (by rw [lrB ht hu e1]; decide)).trans (by rw [lrB ht hu e1])) (by decide) (by decide))
    · refine ra_0 oX5_set_14 ?_
      refine rr_gr (v := 55) oX5_set_15 (ff_X5_47 rfl) kk_46 (wd_lt W rfl) ⟨by decide, rfl⟩ (wd_r W rfl rfl) ?_
      refine ri_1 oX5_set_18 ?_
      refine rr_iv oX5_set_19 kk_55 (wd_lt W rfl) rfl (by omega) (by decide) e2 ?_
      refine rk_2 oX5_set_20 ?_
      refine rr_icmp_ne (tgt := 31) oX5_set_21 (by decide) (fun _ => ?_) (fun q => absurd q (by decide))
      refine ra_0 oX5_set_31 ?_
      refine rr_gr (v := 55) oX5_set_32 (ff_X5_47 rfl) kk_46 (wd_lt W rfl) ⟨by decide, rfl⟩ (wd_r W rfl rfl) ?_
      refine ri_1 oX5_set_35 ?_
      refine rr_iv oX5_set_36 kk_55 (wd_lt W rfl) rfl (by omega) (by decide) e2 ?_
      refine rr_if_ne (tgt := 47) oX5_set_37 (by decide) (fun _ => ?_) (fun q => absurd q (by decide))
      refine ri_2 oX5_set_47 ?_
      refine rr_if_lt (tgt := 61) oX5_set_48 (by decide) (fun c1 => ?_) (fun c1 => ?_)
      · refine ra_0 oX5_set_61 ?_
        refine rr_bipush (v := (-5)) oX5_set_62 (by decide) ?_
        refine rr_cVi (c_X5_no l W (c := 5) (by decide) (by decide)) oX5_set_64 (cv_X5_97 rfl) (by decide) kk_46 (by decide) hcn_5 (wd_lt W rfl) rfl rfl (Nat.le_of_ble_eq_true rfl) ?_
        exact rr_ireturn oX5_set_67 rfl rfl (q_M_noc hM me_rf (show f_set S (nI t) i v = f_no S (-5) from by rw [f_set, if_neg (fun z => z (lrC ht hq e1)), if_pos (fun z => Int32.not_le.mpr c1 z.1)]) (by decide) (by decide))
      · refine ri_2 oX5_set_51 ?_
        refine ra_0 oX5_set_52 ?_
        refine rr_gr (v := 57) oX5_set_53 (ff_X5_53 rfl) kk_46 (wd_lt W rfl) ⟨by decide, rfl⟩ (wd_r W rfl rfl) ?_
        refine ri_1 oX5_set_56 ?_
        refine rr_iv oX5_set_57 kk_57 (wd_lt W rfl) rfl (by omega) (by decide) e4 ?_
        refine rr_icmp_lt (tgt := 68) oX5_set_58 (by decide) (fun c2 => ?_) (fun c2 => ?_)
        · obtain ⟨o, ho, ho2, k, hk, hk2⟩ := IV_row hI ht (hd_C hq e1)
          obtain ⟨w, hw, rfl, hw2⟩ := ix_in (m := z_sz S t) ⟨Int32.not_lt.mp c1, c2⟩ hk2 hk
          have eq : q = 0 ∨ q = 1 ∨ q = 2 ∨ q = 3 := by omega
          rcases eq with rfl | rfl | rfl | rfl
          · refine ra_0 oX5_set_68 ?_
            refine rr_gr (v := 59) oX5_set_69 (ff_X5_59 rfl) kk_46 (wd_lt W rfl) ⟨by decide, rfl⟩ (wd_r W rfl rfl) ?_
            refine rr_sipush (v := 160) oX5_set_72 (by decide) ?_
            refine ri_1 oX5_set_75 ?_
            refine rr_imul oX5_set_76 ?_
            refine ri_2 oX5_set_77 ?_
            refine rr_iadd oX5_set_78 ?_
            refine ra_0 oX5_set_79 ?_
            refine rr_gr (v := 56) oX5_set_80 (ff_X5_50 rfl) kk_46 (wd_lt W rfl) ⟨by decide, rfl⟩ (wd_r W rfl rfl) ?_
            refine ri_1 oX5_set_83 ?_
            refine rr_iv oX5_set_84 kk_56 (wd_lt W rfl) rfl (by omega) (by decide) e3 ?_
            refine rr_if_ne (tgt := 95) oX5_set_85 (by decide) (fun q => absurd q (by decide)) (fun _ => ?_)
            refine rl_3 oX5_set_88 ?_
            refine rr_l2i oX5_set_89 ?_
            refine rr_i2b oX5_set_90 ?_
            refine rr_i2l oX5_set_91 ?_
            refine rr_goto (tgt := 129) oX5_set_92 (by decide) ?_
            refine rr_lst (t := 160 * t + w) oX5_set_129 kk_59 (wd_lt W rfl) (cl_160 t ht w hw) (by omega) (by decide) ?_
            refine rk_1 oX5_set_130 ?_
            exact rr_ireturn oX5_set_131 rfl rfl (q_M_ok (S2 := w_el S (up_L (z_el S) t w (s_val (z_hd S t) v))) (by rw [f_set, if_neg (fun z => z (lrC ht hq e1)), if_neg (by rw [ex]; exact fun z => z ⟨Int32.not_lt.mp c1, c2⟩), ex]; simp only [ix_N, nI_clamp (show w < 2 ^ 31 by omega)]) rfl (set_MR hM ht hw hq ⟨e1, e2, e3, e4, e5⟩ (by rw [e1]; exact (show _ = s_val (nI (100 + 0)) v from by rw [s_val, if_pos (by decide)]))) (fun a ha => ⟨rfl, up_L_ne (by omega)⟩))
          · refine ra_0 oX5_set_68 ?_
            refine rr_gr (v := 59) oX5_set_69 (ff_X5_59 rfl) kk_46 (wd_lt W rfl) ⟨by decide, rfl⟩ (wd_r W rfl rfl) ?_
            refine rr_sipush (v := 160) oX5_set_72 (by decide) ?_
            refine ri_1 oX5_set_75 ?_
            refine rr_imul oX5_set_76 ?_
            refine ri_2 oX5_set_77 ?_
            refine rr_iadd oX5_set_78 ?_
            refine ra_0 oX5_set_79 ?_
            refine rr_gr (v := 56) oX5_set_80 (ff_X5_50 rfl) kk_46 (wd_lt W rfl) ⟨by decide, rfl⟩ (wd_r W rfl rfl) ?_
            refine ri_1 oX5_set_83 ?_
            refine rr_iv oX5_set_84 kk_56 (wd_lt W rfl) rfl (by omega) (by decide) e3 ?_
            refine rr_if_ne (tgt := 95) oX5_set_85 (by decide) (fun _ => ?_) (fun q => absurd q (by decide))
            refine ra_0 oX5_set_95 ?_
            refine rr_gr (v := 56) oX5_set_96 (ff_X5_50 rfl) kk_46 (wd_lt W rfl) ⟨by decide, rfl⟩ (wd_r W rfl rfl) ?_
            refine ri_1 oX5_set_99 ?_
            refine rr_iv oX5_set_100 kk_56 (wd_lt W rfl) rfl (by omega) (by decide) e3 ?_
            refine rk_1 oX5_set_101 ?_
            refine rr_icmp_ne (tgt := 112) oX5_set_102 (by decide) (fun q => absurd q (by decide)) (fun _ => ?_)
            refine rl_3 oX5_set_105 ?_
            refine rr_l2i oX5_set_106 ?_
            refine rr_i2s oX5_set_107 ?_
            refine rr_i2l oX5_set_108 ?_
            refine rr_goto (tgt := 129) oX5_set_109 (by decide) ?_
            refine rr_lst (t := 160 * t + w) oX5_set_129 kk_59 (wd_lt W rfl) (cl_160 t ht w hw) (by omega) (by decide) ?_
            refine rk_1 oX5_set_130 ?_
            exact rr_ireturn oX5_set_131 rfl rfl (q_M_ok (S2 := w_el S (up_L (z_el S) t w (s_val (z_hd S t) v))) (by rw [f_set, if_neg (fun z => z (lrC ht hq e1)), if_neg (by rw [ex]; exact fun z => z ⟨Int32.not_lt.mp c1, c2⟩), ex]; simp only [ix_N, nI_clamp (show w < 2 ^ 31 by omega)]) rfl (set_MR hM ht hw hq ⟨e1, e2, e3, e4, e5⟩ (by rw [e1]; exact (show _ = s_val (nI (100 + 1)) v from by rw [s_val, if_neg (by decide), if_pos (by decide)]))) (fun a ha => ⟨rfl, up_L_ne (by omega)⟩))
          · refine ra_0 oX5_set_68 ?_
            refine rr_gr (v := 59) oX5_set_69 (ff_X5_59 rfl) kk_46 (wd_lt W rfl) ⟨by decide, rfl⟩ (wd_r W rfl rfl) ?_
            refine rr_sipush (v := 160) oX5_set_72 (by decide) ?_
            refine ri_1 oX5_set_75 ?_
            refine rr_imul oX5_set_76 ?_
            refine ri_2 oX5_set_77 ?_
            refine rr_iadd oX5_set_78 ?_
            refine ra_0 oX5_set_79 ?_
            refine rr_gr (v := 56) oX5_set_80 (ff_X5_50 rfl) kk_46 (wd_lt W rfl) ⟨by decide, rfl⟩ (wd_r W rfl rfl) ?_
            refine ri_1 oX5_set_83 ?_
            refine rr_iv oX5_set_84 kk_56 (wd_lt W rfl) rfl (by omega) (by decide) e3 ?_
            refine rr_if_ne (tgt := 95) oX5_set_85 (by decide) (fun _ => ?_) (fun q => absurd q (by decide))
            refine ra_0 oX5_set_95 ?_
            refine rr_gr (v := 56) oX5_set_96 (ff_X5_50 rfl) kk_46 (wd_lt W rfl) ⟨by decide, rfl⟩ (wd_r W rfl rfl) ?_
            refine ri_1 oX5_set_99 ?_
            refine rr_iv oX5_set_100 kk_56 (wd_lt W rfl) rfl (by omega) (by decide) e3 ?_
            refine rk_1 oX5_set_101 ?_
            refine rr_icmp_ne (tgt := 112) oX5_set_102 (by decide) (fun _ => ?_) (fun q => absurd q (by decide))
            refine ra_0 oX5_set_112 ?_
            refine rr_gr (v := 56) oX5_set_113 (ff_X5_50 rfl) kk_46 (wd_lt W rfl) ⟨by decide, rfl⟩ (wd_r W rfl rfl) ?_
            refine ri_1 oX5_set_116 ?_
            refine rr_iv oX5_set_117 kk_56 (wd_lt W rfl) rfl (by omega) (by decide) e3 ?_
            refine rk_2 oX5_set_118 ?_
            refine rr_icmp_ne (tgt := 128) oX5_set_119 (by decide) (fun q => absurd q (by decide)) (fun _ => ?_)
            refine rl_3 oX5_set_122 ?_
            refine rr_l2i oX5_set_123 ?_
            refine rr_i2l oX5_set_124 ?_
            refine rr_goto (tgt := 129) oX5_set_125 (by decide) ?_
            refine rr_lst (t := 160 * t + w) oX5_set_129 kk_59 (wd_lt W rfl) (cl_160 t ht w hw) (by omega) (by decide) ?_
            refine rk_1 oX5_set_130 ?_
            exact rr_ireturn oX5_set_131 rfl rfl (q_M_ok (S2 := w_el S (up_L (z_el S) t w (s_val (z_hd S t) v))) (by rw [f_set, if_neg (fun z => z (lrC ht hq e1)), if_neg (by rw [ex]; exact fun z => z ⟨Int32.not_lt.mp c1, c2⟩), ex]; simp only [ix_N, nI_clamp (show w < 2 ^ 31 by omega)]) rfl (set_MR hM ht hw hq ⟨e1, e2, e3, e4, e5⟩ (by rw [e1]; exact (show _ = s_val (nI (100 + 2)) v from by rw [s_val, if_neg (by decide), if_neg (by decide), if_pos (by decide)]))) (fun a ha => ⟨rfl, up_L_ne (by omega)⟩))
          · refine ra_0 oX5_set_68 ?_
            refine rr_gr (v := 59) oX5_set_69 (ff_X5_59 rfl) kk_46 (wd_lt W rfl) ⟨by decide, rfl⟩ (wd_r W rfl rfl) ?_
            refine rr_sipush (v := 160) oX5_set_72 (by decide) ?_
            refine ri_1 oX5_set_75 ?_
            refine rr_imul oX5_set_76 ?_
            refine ri_2 oX5_set_77 ?_
            refine rr_iadd oX5_set_78 ?_
            refine ra_0 oX5_set_79 ?_
            refine rr_gr (v := 56) oX5_set_80 (ff_X5_50 rfl) kk_46 (wd_lt W rfl) ⟨by decide, rfl⟩ (wd_r W rfl rfl) ?_
            refine ri_1 oX5_set_83 ?_
            refine rr_iv oX5_set_84 kk_56 (wd_lt W rfl) rfl (by omega) (by decide) e3 ?_
            refine rr_if_ne (tgt := 95) oX5_set_85 (by decide) (fun _ => ?_) (fun q => absurd q (by decide))
            refine ra_0 oX5_set_95 ?_
            refine rr_gr (v := 56) oX5_set_96 (ff_X5_50 rfl) kk_46 (wd_lt W rfl) ⟨by decide, rfl⟩ (wd_r W rfl rfl) ?_
            refine ri_1 oX5_set_99 ?_
            refine rr_iv oX5_set_100 kk_56 (wd_lt W rfl) rfl (by omega) (by decide) e3 ?_
            refine rk_1 oX5_set_101 ?_
            refine rr_icmp_ne (tgt := 112) oX5_set_102 (by decide) (fun _ => ?_) (fun q => absurd q (by decide))
            refine ra_0 oX5_set_112 ?_
            refine rr_gr (v := 56) oX5_set_113 (ff_X5_50 rfl) kk_46 (wd_lt W rfl) ⟨by decide, rfl⟩ (wd_r W rfl rfl) ?_
            refine ri_1 oX5_set_116 ?_
            refine rr_iv oX5_set_117 kk_56 (wd_lt W rfl) rfl (by omega) (by decide) e3 ?_
            refine rk_2 oX5_set_118 ?_
            refine rr_icmp_ne (tgt := 128) oX5_set_119 (by decide) (fun _ => ?_) (fun q => absurd q (by decide))
            refine rl_3 oX5_set_128 ?_
            refine rr_lst (t := 160 * t + w) oX5_set_129 kk_59 (wd_lt W rfl) (cl_160 t ht w hw) (by omega) (by decide) ?_
            refine rk_1 oX5_set_130 ?_
            exact rr_ireturn oX5_set_131 rfl rfl (q_M_ok (S2 := w_el S (up_L (z_el S) t w (s_val (z_hd S t) v))) (by rw [f_set, if_neg (fun z => z (lrC ht hq e1)), if_neg (by rw [ex]; exact fun z => z ⟨Int32.not_lt.mp c1, c2⟩), ex]; simp only [ix_N, nI_clamp (show w < 2 ^ 31 by omega)]) rfl (set_MR hM ht hw hq ⟨e1, e2, e3, e4, e5⟩ (by rw [e1]; exact (show _ = s_val (nI (100 + 3)) v from by rw [s_val, if_neg (by decide), if_neg (by decide), if_neg (by decide)]))) (fun a ha => ⟨rfl, up_L_ne (by omega)⟩))
        · refine ra_0 oX5_set_61 ?_
          refine rr_bipush (v := (-5)) oX5_set_62 (by decide) ?_
          refine rr_cVi (c_X5_no l W (c := 5) (by decide) (by decide)) oX5_set_64 (cv_X5_97 rfl) (by decide) kk_46 (by decide) hcn_5 (wd_lt W rfl) rfl rfl (Nat.le_of_ble_eq_true rfl) ?_
          exact rr_ireturn oX5_set_67 rfl rfl (q_M_noc hM me_rf (show f_set S (nI t) i v = f_no S (-5) from by rw [f_set, if_neg (fun z => z (lrC ht hq e1)), ex, if_pos (fun z => c2 z.2)]) (by decide) (by decide))
  · refine ra_0 oX5_set_8 ?_
    refine rk_m1 oX5_set_9 ?_
    refine rr_cVi (c_X5_no l W (c := 1) (by decide) (by decide)) oX5_set_10 (cv_X5_97 rfl) (by decide) kk_46 (by decide) hcn_5 (wd_lt W rfl) rfl rfl (Nat.le_of_ble_eq_true rfl) ?_
    exact rr_ireturn oX5_set_13 rfl rfl (q_M_noc hM me_rf (f_set_r (S := S) (by rw [s_lr, if_neg c]; decide) |>.trans (by rw [s_lr, if_neg c])) (by decide) (by decide))
theorem el_0 {S : sg_T} {t i : Int32} (h : ¬ s_lr S t = 0) : f_element S t i = 0 := by rw [f_element, if_neg (fun q => h q.1)]
theorem c_X5_element (l : Launch) {I : Nat → Nat → Int32} {L : Nat → Nat → Int64} {Rf : Nat → Nat → Option Nat} {n : Nat} {S : sg_T} (W : wd_T Rf n) (hM : MR_T I L S) (hI : IV_T S) {s i : Int32} : wm_C l mX5_element 2 0 0 [vv_A (some 46), vv_I s, vv_I i] (I, L, Rf, n) (q_l (f_element S s i) (I, L, Rf, n)) := by
  refine wm_of (by decide) (Nat.le_of_ble_eq_true rfl) rfl ?_
  have hQ : mq_T I (z_G S) (b_dr (z_B S)) (b_sh (z_B S)) := mg_mq hM.1 hI.1
  have hG := hQ.1
  have h8 : g_n (z_G S) ≤ 8 := hI.1.1
  have hr : hr_T (z_G S) := hI.1.2.1
  refine ra_0 oX5_element_0 ?_
  refine ri_1 oX5_element_1 ?_
  refine rr_cVi (c_X5_isShelf l W hQ) oX5_element_2 (cv_X5_94 rfl) (by decide) kk_46 (by decide) hcn_5 (wd_lt W rfl) rfl rfl (Nat.le_of_ble_eq_true rfl) ?_
  refine rr_ifb_eq (tgt := 47) oX5_element_5 (by decide) (fun c => ?_) (fun c => ?_)
  · refine rr_lconst (v := 0) oX5_element_47 (by decide) ?_
    exact rr_lreturn oX5_element_48 rfl ⟨by rw [el_0 (by rw [s_lr, if_neg c]; decide)], rfl⟩
  · obtain ⟨t, ht, rfl⟩ := ix_of c.1 (show s < nI 8 from c.2) (by omega)
    have ex : ix_N (nI t) = t := nI_clamp (by omega)
    have hh := hM.2.2.2.2.2.1 t ht
    rcases hh with ⟨e1, e2⟩ | ⟨u, hu, e1, e2, e3⟩ | ⟨q, hq, e1, e2, e3, e4, e5⟩
    · refine ra_0 oX5_element_8 ?_
      refine rr_gr (v := 55) oX5_element_9 (ff_X5_47 rfl) kk_46 (wd_lt W rfl) ⟨by decide, rfl⟩ (wd_r W rfl rfl) ?_
      refine ri_1 oX5_element_12 ?_
      refine rr_iv oX5_element_13 kk_55 (wd_lt W rfl) rfl (by omega) (by decide) e2 ?_
      refine rk_1 oX5_element_14 ?_
      refine rr_icmp_ne (tgt := 47) oX5_element_15 (by decide) (fun _ => ?_) (fun q => absurd q (by decide))
      refine rr_lconst (v := 0) oX5_element_47 (by decide) ?_
      exact rr_lreturn oX5_element_48 rfl ⟨by rw [el_0 (by rw [lrA ht e1]; decide)], rfl⟩
    · refine ra_0 oX5_element_8 ?_
      refine rr_gr (v := 55) oX5_element_9 (ff_X5_47 rfl) kk_46 (wd_lt W rfl) ⟨by decide, rfl⟩ (wd_r W rfl rfl) ?_
      refine ri_1 oX5_element_12 ?_
      refine rr_iv oX5_element_13 kk_55 (wd_lt W rfl) rfl (by omega) (by decide) e2 ?_
      refine rk_1 oX5_element_14 ?_
      refine rr_icmp_ne (tgt := 47) oX5_element_15 (by decide) (fun _ => ?_) (fun q => absurd q (by decide))
      refine rr_lconst (v := 0) oX5_element_47 (by decide) ?_
      exact rr_lreturn oX5_element_48 rfl ⟨by rw [el_0 (by rw [lrB ht hu e1]; decide)], rfl⟩
    · refine ra_0 oX5_element_8 ?_
      refine rr_gr (v := 55) oX5_element_9 (ff_X5_47 rfl) kk_46 (wd_lt W rfl) ⟨by decide, rfl⟩ (wd_r W rfl rfl) ?_
      refine ri_1 oX5_element_12 ?_
      refine rr_iv oX5_element_13 kk_55 (wd_lt W rfl) rfl (by omega) (by decide) e2 ?_
      refine rk_1 oX5_element_14 ?_
      refine rr_icmp_ne (tgt := 47) oX5_element_15 (by decide) (fun q => absurd q (by decide)) (fun _ => ?_)
      refine ri_2 oX5_element_18 ?_
      refine rr_if_lt (tgt := 47) oX5_element_19 (by decide) (fun c1 => ?_) (fun c1 => ?_)
      · refine rr_lconst (v := 0) oX5_element_47 (by decide) ?_
        exact rr_lreturn oX5_element_48 rfl ⟨by rw [f_element, if_neg (fun z => Int32.not_le.mpr c1 z.2.1)], rfl⟩
      · refine ri_2 oX5_element_22 ?_
        refine ra_0 oX5_element_23 ?_
        refine rr_gr (v := 57) oX5_element_24 (ff_X5_53 rfl) kk_46 (wd_lt W rfl) ⟨by decide, rfl⟩ (wd_r W rfl rfl) ?_
        refine ri_1 oX5_element_27 ?_
        refine rr_iv oX5_element_28 kk_57 (wd_lt W rfl) rfl (by omega) (by decide) e4 ?_
        refine rr_icmp_ge (tgt := 47) oX5_element_29 (by decide) (fun c2 => ?_) (fun c2 => ?_)
        · refine rr_lconst (v := 0) oX5_element_47 (by decide) ?_
          exact rr_lreturn oX5_element_48 rfl ⟨by rw [f_element, if_neg (fun z => Int32.not_lt.mpr c2 (by have := z.2.2; rw [ex] at this; exact this))], rfl⟩
        · obtain ⟨o, ho, ho2, k, hk, hk2⟩ := IV_row hI ht (hd_C hq e1)
          obtain ⟨w, hw, rfl, hw2⟩ := ix_in (m := z_sz S t) ⟨Int32.not_lt.mp c1, Int32.not_le.mp c2⟩ hk2 hk
          refine ra_0 oX5_element_32 ?_
          refine rr_gr (v := 59) oX5_element_33 (ff_X5_59 rfl) kk_46 (wd_lt W rfl) ⟨by decide, rfl⟩ (wd_r W rfl rfl) ?_
          refine rr_sipush (v := 160) oX5_element_36 (by decide) ?_
          refine ri_1 oX5_element_39 ?_
          refine rr_imul oX5_element_40 ?_
          refine ri_2 oX5_element_41 ?_
          refine rr_iadd oX5_element_42 ?_
          refine rr_lld (t := 160 * t + w) oX5_element_43 kk_59 (wd_lt W rfl) (cl_160 t ht w hw) (by omega) (by decide) ?_
          refine rr_goto (tgt := 48) oX5_element_44 (by decide) ?_
          exact rr_lreturn oX5_element_48 rfl ⟨by rw [f_element, if_pos ⟨lrC ht hq e1, Int32.not_lt.mp c1, by rw [ex]; exact Int32.not_le.mp c2⟩, ex]; simp only [ix_N, nI_clamp (show w < 2 ^ 31 by omega)]; rw [e5 w hw], rfl⟩
theorem c_X5_holds (l : Launch) {I : Nat → Nat → Int32} {L : Nat → Nat → Int64} {Rf : Nat → Nat → Option Nat} {n : Nat} {S : sg_T} (W : wd_T Rf n) (hM : MR_T I L S) (hI : IV_T S) {s : Int32} : wm_C l mX5_holds 2 0 0 [vv_A (some 46), vv_I s] (I, L, Rf, n) (q_i (f_holds S s) (I, L, Rf, n)) := by
  refine wm_of (by decide) (Nat.le_of_ble_eq_true rfl) rfl ?_
  have hQ : mq_T I (z_G S) (b_dr (z_B S)) (b_sh (z_B S)) := mg_mq hM.1 hI.1
  have hG := hQ.1
  have h8 : g_n (z_G S) ≤ 8 := hI.1.1
  have hr : hr_T (z_G S) := hI.1.2.1
  refine ra_0 oX5_holds_0 ?_
  refine ri_1 oX5_holds_1 ?_
  refine rr_cVi (c_X5_isShelf l W hQ) oX5_holds_2 (cv_X5_94 rfl) (by decide) kk_46 (by decide) hcn_5 (wd_lt W rfl) rfl rfl (Nat.le_of_ble_eq_true rfl) ?_
  refine rr_ifb_eq (tgt := 17) oX5_holds_5 (by decide) (fun c => ?_) (fun c => ?_)
  · refine rk_m1 oX5_holds_17 ?_
    exact rr_ireturn oX5_holds_18 rfl rfl (q_is (by rw [f_holds, if_neg c]))
  · have c0 := c
    obtain ⟨t, ht, rfl⟩ := ix_of c.1 (show s < nI 8 from c.2) (by omega)
    have ex : ix_N (nI t) = t := nI_clamp (by omega)
    have hh := hM.2.2.2.2.2.1 t ht
    rcases hh with ⟨e1, e2⟩ | ⟨u, hu, e1, e2, e3⟩ | ⟨q, hq, e1, e2, e3, e4, e5⟩
    · refine ra_0 oX5_holds_8 ?_
      refine rr_gr (v := 55) oX5_holds_9 (ff_X5_47 rfl) kk_46 (wd_lt W rfl) ⟨by decide, rfl⟩ (wd_r W rfl rfl) ?_
      refine ri_1 oX5_holds_12 ?_
      refine rr_iv oX5_holds_13 kk_55 (wd_lt W rfl) rfl (by omega) (by decide) e2 ?_
      refine rr_if_ne (tgt := 19) oX5_holds_14 (by decide) (fun q => absurd q (by decide)) (fun _ => ?_)
      refine rk_m1 oX5_holds_17 ?_
      exact rr_ireturn oX5_holds_18 rfl rfl (q_is (by rw [f_holds, if_pos c0, ex, e1]))
    · refine ra_0 oX5_holds_8 ?_
      refine rr_gr (v := 55) oX5_holds_9 (ff_X5_47 rfl) kk_46 (wd_lt W rfl) ⟨by decide, rfl⟩ (wd_r W rfl rfl) ?_
      refine ri_1 oX5_holds_12 ?_
      refine rr_iv oX5_holds_13 kk_55 (wd_lt W rfl) rfl (by omega) (by decide) e2 ?_
      refine rr_if_ne (tgt := 19) oX5_holds_14 (by decide) (fun _ => ?_) (fun q => absurd q (by decide))
      refine ra_0 oX5_holds_19 ?_
      refine rr_gr (v := 55) oX5_holds_20 (ff_X5_47 rfl) kk_46 (wd_lt W rfl) ⟨by decide, rfl⟩ (wd_r W rfl rfl) ?_
      refine ri_1 oX5_holds_23 ?_
      refine rr_iv oX5_holds_24 kk_55 (wd_lt W rfl) rfl (by omega) (by decide) e2 ?_
      refine rk_1 oX5_holds_25 ?_
      refine rr_icmp_ne (tgt := 41) oX5_holds_26 (by decide) (fun _ => ?_) (fun q => absurd q (by decide))
      refine ra_0 oX5_holds_41 ?_
      refine rr_gr (v := 58) oX5_holds_42 (ff_X5_56 rfl) kk_46 (wd_lt W rfl) ⟨by decide, rfl⟩ (wd_r W rfl rfl) ?_
      refine ri_1 oX5_holds_45 ?_
      refine rr_iv oX5_holds_46 kk_58 (wd_lt W rfl) rfl (by omega) (by decide) e3 ?_
      exact rr_ireturn oX5_holds_47 rfl rfl (q_is (by rw [f_holds, if_pos c0, ex, e1]))
    · refine ra_0 oX5_holds_8 ?_
      refine rr_gr (v := 55) oX5_holds_9 (ff_X5_47 rfl) kk_46 (wd_lt W rfl) ⟨by decide, rfl⟩ (wd_r W rfl rfl) ?_
      refine ri_1 oX5_holds_12 ?_
      refine rr_iv oX5_holds_13 kk_55 (wd_lt W rfl) rfl (by omega) (by decide) e2 ?_
      refine rr_if_ne (tgt := 19) oX5_holds_14 (by decide) (fun _ => ?_) (fun q => absurd q (by decide))
      refine ra_0 oX5_holds_19 ?_
      refine rr_gr (v := 55) oX5_holds_20 (ff_X5_47 rfl) kk_46 (wd_lt W rfl) ⟨by decide, rfl⟩ (wd_r W rfl rfl) ?_
      refine ri_1 oX5_holds_23 ?_
      refine rr_iv oX5_holds_24 kk_55 (wd_lt W rfl) rfl (by omega) (by decide) e2 ?_
      refine rk_1 oX5_holds_25 ?_
      refine rr_icmp_ne (tgt := 41) oX5_holds_26 (by decide) (fun q => absurd q (by decide)) (fun _ => ?_)
      refine rr_bipush (v := 100) oX5_holds_29 (by decide) ?_
      refine ra_0 oX5_holds_31 ?_
      refine rr_gr (v := 56) oX5_holds_32 (ff_X5_50 rfl) kk_46 (wd_lt W rfl) ⟨by decide, rfl⟩ (wd_r W rfl rfl) ?_
      refine ri_1 oX5_holds_35 ?_
      refine rr_iv oX5_holds_36 kk_56 (wd_lt W rfl) rfl (by omega) (by decide) e3 ?_
      refine rr_iadd oX5_holds_37 ?_
      refine rr_goto (tgt := 47) oX5_holds_38 (by decide) ?_
      exact rr_ireturn oX5_holds_47 rfl rfl (q_is (by rw [f_holds, if_pos c0, ex, e1, ← nI_add]; rfl))
theorem show_MR {I : Nat → Nat → Int32} {L : Nat → Nat → Int64} {S : sg_T} {t : Nat} {u x : Int32} (hM : MR_T I L S) (ht : t < 8) (hx : (u = -1 ∧ x = 0) ∨ ∃ w, w < 8 ∧ u = nI w ∧ x = 2) : MR_T (up_I (up_I I 55 t x) 58 t u) L (w_hd S (upd (z_hd S) t u)) := by
  refine MR_sh hM (fun a ha => by rw [up_I_ne (by omega), up_I_ne (by omega)]) ⟨rfl, rfl, rfl, rfl, rfl, rfl⟩ (fun s hs => ?_)
  by_cases e : s = t
  · subst e
    rcases hx with ⟨rfl, rfl⟩ | ⟨w, hw, rfl, rfl⟩
    · exact Or.inl ⟨if_pos rfl, by rw [up_I_ne (by omega), up_I_at]⟩
    · exact Or.inr (Or.inl ⟨w, hw, if_pos rfl, by rw [up_I_ne (by omega), up_I_at], up_I_at⟩)
  · refine mh_o (hM.2.2.2.2.2.1 s hs) ⟨?_, ?_, ?_, ?_⟩ ⟨if_neg e, rfl, fun _ _ => rfl⟩ (fun _ _ => rfl)
    · rw [up_I_ne (by omega), up_I_at_ne e]
    · rw [up_I_ne (by omega), up_I_ne (by omega)]
    · rw [up_I_ne (by omega), up_I_ne (by omega)]
    · rw [up_I_at_ne e, up_I_ne (by omega)]
theorem c_X5_show (l : Launch) {I : Nat → Nat → Int32} {L : Nat → Nat → Int64} {Rf : Nat → Nat → Option Nat} {n : Nat} {S : sg_T} (W : wd_T Rf n) (hM : MR_T I L S) (hI : IV_T S) {s u : Int32} : wm_C l mX5_show 2 0 0 [vv_A (some 46), vv_I s, vv_I u] (I, L, Rf, n) (q_M (f_show S s u).1 (f_show S s u).2 I L Rf n) := by
  refine wm_of (by decide) (Nat.le_of_ble_eq_true rfl) rfl ?_
  have hQ : mq_T I (z_G S) (b_dr (z_B S)) (b_sh (z_B S)) := mg_mq hM.1 hI.1
  have hG := hQ.1
  have h8 : g_n (z_G S) ≤ 8 := hI.1.1
  have hr : hr_T (z_G S) := hI.1.2.1
  refine ra_0 oX5_show_0 ?_
  refine ri_1 oX5_show_1 ?_
  refine rr_cVi (c_X5_isShelf l W hQ) oX5_show_2 (cv_X5_94 rfl) (by decide) kk_46 (by decide) hcn_5 (wd_lt W rfl) rfl rfl (Nat.le_of_ble_eq_true rfl) ?_
  refine rr_ifb_eq (tgt := 21) oX5_show_5 (by decide) (fun c => ?_) (fun c => ?_)
  · refine ra_0 oX5_show_21 ?_
    refine rk_m1 oX5_show_22 ?_
    refine rr_cVi (c_X5_no l W (c := 1) (by decide) (by decide)) oX5_show_23 (cv_X5_97 rfl) (by decide) kk_46 (by decide) hcn_5 (wd_lt W rfl) rfl rfl (Nat.le_of_ble_eq_true rfl) ?_
    exact rr_ireturn oX5_show_26 rfl rfl (q_M_noc hM me_rf (by rw [f_show, if_pos (Or.inl c)]) (by decide) (by decide))
  · refine ri_2 oX5_show_8 ?_
    refine rk_m1 oX5_show_9 ?_
    refine rr_icmp_eq (tgt := 27) oX5_show_10 (by decide) (fun c1 => ?_) (fun c1 => ?_)
    · obtain ⟨t, ht, rfl⟩ := ix_of c.1 (show s < nI 8 from c.2) (by omega)
      have ex : ix_N (nI t) = t := nI_clamp (by omega)
      refine ra_0 oX5_show_27 ?_
      refine rr_gr (v := 55) oX5_show_28 (ff_X5_47 rfl) kk_46 (wd_lt W rfl) ⟨by decide, rfl⟩ (wd_r W rfl rfl) ?_
      refine ri_1 oX5_show_31 ?_
      refine ri_2 oX5_show_32 ?_
      refine rk_m1 oX5_show_33 ?_
      refine rr_icmp_ne (tgt := 41) oX5_show_34 (by decide) (fun c3 => ?_) (fun c3 => ?_)
      · exact absurd c1 c3
      refine rk_0 oX5_show_37 ?_
      refine rr_goto (tgt := 42) oX5_show_38 (by decide) ?_
      refine rr_ist oX5_show_42 kk_55 (wd_lt W rfl) rfl (by omega) (by decide) ?_
      refine ra_0 oX5_show_43 ?_
      refine rr_gr (v := 58) oX5_show_44 (ff_X5_56 rfl) kk_46 (wd_lt W rfl) ⟨by decide, rfl⟩ (wd_r W rfl rfl) ?_
      refine ri_1 oX5_show_47 ?_
      refine ri_2 oX5_show_48 ?_
      refine rr_ist oX5_show_49 kk_58 (wd_lt W rfl) rfl (by omega) (by decide) ?_
      refine ri_2 oX5_show_50 ?_
      refine rk_m1 oX5_show_51 ?_
      refine rr_icmp_ne (tgt := 59) oX5_show_52 (by decide) (fun c4 => ?_) (fun c4 => ?_)
      · exact absurd c1 c4
      refine rk_0 oX5_show_55 ?_
      refine rr_goto (tgt := 60) oX5_show_56 (by decide) ?_
      exact rr_ireturn oX5_show_60 rfl rfl (q_M_ok (S2 := w_hd S (upd (z_hd S) t u)) (by rw [f_show, if_neg (by rintro (z | z); exact z c; exact z.1 c1), ex, if_pos c1]) rfl (show_MR hM ht (Or.inl ⟨c1, rfl⟩)) (fun a ha => ⟨by rw [up_I_ne (by omega), up_I_ne (by omega)], rfl⟩))
    · refine ra_0 oX5_show_13 ?_
      refine ri_2 oX5_show_14 ?_
      refine rr_cVi (c_X5_isThing l W hQ) oX5_show_15 (cv_X5_87 rfl) (by decide) kk_46 (by decide) hcn_5 (wd_lt W rfl) rfl rfl (Nat.le_of_ble_eq_true rfl) ?_
      refine rr_ifb_ne (tgt := 27) oX5_show_18 (by decide) (fun c2 => ?_) (fun c2 => ?_)
      · obtain ⟨t, ht, rfl⟩ := ix_of c.1 (show s < nI 8 from c.2) (by omega)
        have ex : ix_N (nI t) = t := nI_clamp (by omega)
        refine ra_0 oX5_show_27 ?_
        refine rr_gr (v := 55) oX5_show_28 (ff_X5_47 rfl) kk_46 (wd_lt W rfl) ⟨by decide, rfl⟩ (wd_r W rfl rfl) ?_
        refine ri_1 oX5_show_31 ?_
        refine ri_2 oX5_show_32 ?_
        refine rk_m1 oX5_show_33 ?_
        refine rr_icmp_ne (tgt := 41) oX5_show_34 (by decide) (fun c3 => ?_) (fun c3 => ?_)
        rotate_left
        · exact absurd c3 c1
        refine rk_2 oX5_show_41 ?_
        refine rr_ist oX5_show_42 kk_55 (wd_lt W rfl) rfl (by omega) (by decide) ?_
        refine ra_0 oX5_show_43 ?_
        refine rr_gr (v := 58) oX5_show_44 (ff_X5_56 rfl) kk_46 (wd_lt W rfl) ⟨by decide, rfl⟩ (wd_r W rfl rfl) ?_
        refine ri_1 oX5_show_47 ?_
        refine ri_2 oX5_show_48 ?_
        refine rr_ist oX5_show_49 kk_58 (wd_lt W rfl) rfl (by omega) (by decide) ?_
        refine ri_2 oX5_show_50 ?_
        refine rk_m1 oX5_show_51 ?_
        refine rr_icmp_ne (tgt := 59) oX5_show_52 (by decide) (fun c4 => ?_) (fun c4 => ?_)
        rotate_left
        · exact absurd c4 c1
        refine rk_1 oX5_show_59 ?_
        exact rr_ireturn oX5_show_60 rfl rfl (q_M_ok (S2 := w_hd S (upd (z_hd S) t u)) (by rw [f_show, if_neg (by rintro (z | z); exact z c; exact z.2 c2), ex, if_neg c1]) rfl (show_MR hM ht (Or.inr (by obtain ⟨w, hw, e⟩ := ix_of c2.1 c2.2 (by omega); exact ⟨w, by omega, e, rfl⟩))) (fun a ha => ⟨by rw [up_I_ne (by omega), up_I_ne (by omega)], rfl⟩))
      · refine ra_0 oX5_show_21 ?_
        refine rk_m1 oX5_show_22 ?_
        refine rr_cVi (c_X5_no l W (c := 1) (by decide) (by decide)) oX5_show_23 (cv_X5_97 rfl) (by decide) kk_46 (by decide) hcn_5 (wd_lt W rfl) rfl rfl (Nat.le_of_ble_eq_true rfl) ?_
        exact rr_ireturn oX5_show_26 rfl rfl (q_M_noc hM me_rf (by rw [f_show, if_pos (Or.inr ⟨c1, c2⟩)]) (by decide) (by decide))
