/-! the model: things, status (by program: wip/whole/c42.py) -/
/-- an answer v, the ground now B -/
theorem q_M_gr {S : sg_T} {I J : Nat → Nat → Int32} {L : Nat → Nat → Int64} {Rf : Nat → Nat → Option Nat} {n : Nat} {v w : Int32} {a : an_T} {B : gb_T} (hM : MR_T I L S) (hB : mg_T J B) (h0 : ∀ f, (f = 5 ∨ f = 36 ∨ f = 37) → J 46 f = I 46 f) (ho : ∀ a, a ≠ 46 → (a < 48 ∨ 54 < a) → a ≠ 62 → a ≠ 63 → a ≠ 65 → J a = I a) (ha : a = (v, w_B S B)) (hv : w = v) : q_M a.1 a.2 I L Rf n (some (vv_I w)) (J, L, Rf, n) := by
  rw [ha]
  exact q_M_of hv (MR_B hM hB h0 (fun a q => ho a (by omega) (by omega) (by omega) (by omega) (by omega))) (fun a q => ⟨ho a (by omega) (by omega) (by omega) (by omega) (by omega), rfl⟩)
theorem mg_wh {I : Nat → Nat → Int32} {t : Nat} {B : gb_T} {v : Int32} (h : mg_T I B) : mg_T (up_I I 51 t v) (b_wG B (g_wh (b_G B) (upd (g_h (b_G B)) t v))) := by
  obtain ⟨⟨g1, g2, g3, g4, g5⟩, g6, g7, g8, g9⟩ := h
  have ne : ∀ a, a ≠ 51 → up_I I 51 t v a = I a := fun a ha => up_I_ne ha
  refine ⟨⟨g1, by rw [ne 46 (by omega)]; exact g2, by rw [ne 46 (by omega)]; exact g3, by rw [ne 46 (by omega)]; exact g4, fun u hu => ?_⟩, fun u hu => by rw [ne 53 (by omega)]; exact g6 u hu, fun u hu => by rw [ne 54 (by omega)]; exact g7 u hu, by rw [ne 46 (by omega)]; exact g8, by rw [ne 46 (by omega)]; exact g9⟩
  have e := g5 u hu
  rw [ne 48 (by omega), ne 49 (by omega), ne 50 (by omega), ne 52 (by omega), up_I_eq]
  refine ⟨e.1, e.2.1, e.2.2.1, ?_, e.2.2.2.2⟩
  show upd (I 51) t v u = upd (g_h (b_G B)) t v u
  by_cases q : u = t
  · simp [upd, q]
  · simp only [upd, if_neg q]; exact e.2.2.2.1
theorem mg_46 {I : Nat → Nat → Int32} {f : Nat} {B B2 : gb_T} {v : Int32} (h : mg_T I B) (hn : g_n (b_G B2) = g_n (b_G B)) (ht : ∀ t, t < g_n (b_G B) → g_k (b_G B2) t = g_k (b_G B) t ∧ g_x (b_G B2) t = g_x (b_G B) t ∧ g_y (b_G B2) t = g_y (b_G B) t ∧ g_h (b_G B2) t = g_h (b_G B) t ∧ g_a (b_G B2) t = g_a (b_G B) t) (hd : b_dr B2 = b_dr B) (hs : b_sh B2 = b_sh B) (h0 : f ≠ 0) (h1 : (if 1 = f then v else g_s (b_G B)) = g_s (b_G B2)) (h2 : (if 2 = f then v else g_f (b_G B)) = g_f (b_G B2)) (h3 : (if 3 = f then v else b_fi B) = b_fi B2) (h4 : (if 4 = f then v else b_sd B) = b_sd B2) : mg_T (up_I I 46 f v) B2 := by
  obtain ⟨⟨g1, g2, g3, g4, g5⟩, g6, g7, g8, g9⟩ := h
  have ne : ∀ a, a ≠ 46 → up_I I 46 f v a = I a := fun a ha => up_I_ne ha
  have e : ∀ i, up_I I 46 f v 46 i = if i = f then v else I 46 i := fun i => by rw [up_I_eq]; rfl
  refine ⟨⟨by rw [hn]; exact g1, by rw [e, if_neg (fun q => h0 q.symm), hn]; exact g2, by rw [e, g3]; exact h1, by rw [e, g4]; exact h2, fun u hu => ?_⟩, fun u hu => by rw [ne 53 (by omega), hd]; exact g6 u hu, fun u hu => by rw [ne 54 (by omega), hs]; exact g7 u hu, by rw [e, g8]; exact h3, by rw [e, g9]; exact h4⟩
  rw [hn] at hu
  obtain ⟨k1, k2, k3, k4, k5⟩ := ht u hu
  rw [ne 48 (by omega), ne 49 (by omega), ne 50 (by omega), ne 51 (by omega), ne 52 (by omega), k1, k2, k3, k4, k5]
  exact g5 u hu
theorem mg_su {I : Nat → Nat → Int32} {B : gb_T} {v : Int32} (h : mg_T I B) : mg_T (up_I I 46 1 v) (b_wG B (g_ws (b_G B) v)) := mg_46 h rfl (fun _ _ => ⟨rfl, rfl, rfl, rfl, rfl⟩) rfl rfl (by decide) rfl rfl rfl rfl
theorem mg_fa {I : Nat → Nat → Int32} {B : gb_T} {v : Int32} (h : mg_T I B) : mg_T (up_I I 46 2 v) (b_wG B (g_wf (b_G B) v)) := mg_46 h rfl (fun _ _ => ⟨rfl, rfl, rfl, rfl, rfl⟩) rfl rfl (by decide) rfl rfl rfl rfl
theorem mg_sd {I : Nat → Nat → Int32} {B : gb_T} {v : Int32} (h : mg_T I B) : mg_T (up_I I 46 4 v) (b_G B, b_dr B, b_sh B, b_fi B, v) := mg_46 h rfl (fun _ _ => ⟨rfl, rfl, rfl, rfl, rfl⟩) rfl rfl (by decide) rfl rfl rfl rfl
theorem mg_fi {I : Nat → Nat → Int32} {B : gb_T} {v : Int32} (h : mg_T I B) : mg_T (up_I I 46 3 v) (b_G B, b_dr B, b_sh B, v, b_sd B) := mg_46 h rfl (fun _ _ => ⟨rfl, rfl, rfl, rfl, rfl⟩) rfl rfl (by decide) rfl rfl rfl rfl
theorem mg_dr {I J : Nat → Nat → Int32} {B : gb_T} {dr : Nat → Bool} (h : mg_T I B) (hd : ∀ t, t < 8 → J 53 t = if dr t = true then 1 else 0) (hJ : ∀ a, a ≠ 53 → J a = I a) : mg_T J (b_wd B dr) := by
  obtain ⟨⟨g1, g2, g3, g4, g5⟩, g6, g7, g8, g9⟩ := h
  refine ⟨⟨g1, by rw [hJ 46 (by omega)]; exact g2, by rw [hJ 46 (by omega)]; exact g3, by rw [hJ 46 (by omega)]; exact g4, fun u hu => ?_⟩, hd, fun u hu => by rw [hJ 54 (by omega)]; exact g7 u hu, by rw [hJ 46 (by omega)]; exact g8, by rw [hJ 46 (by omega)]; exact g9⟩
  rw [hJ 48 (by omega), hJ 49 (by omega), hJ 50 (by omega), hJ 51 (by omega), hJ 52 (by omega)]
  exact g5 u hu
theorem mg_sh {I J : Nat → Nat → Int32} {B : gb_T} {sh : Nat → Nat → Bool} (h : mg_T I B) (hd : ∀ i, i < 8 → J 54 i = st_S (fun j => sh j i)) (hJ : ∀ a, a ≠ 54 → J a = I a) : mg_T J (b_ws B sh) := by
  obtain ⟨⟨g1, g2, g3, g4, g5⟩, g6, g7, g8, g9⟩ := h
  refine ⟨⟨g1, by rw [hJ 46 (by omega)]; exact g2, by rw [hJ 46 (by omega)]; exact g3, by rw [hJ 46 (by omega)]; exact g4, fun u hu => ?_⟩, fun u hu => by rw [hJ 53 (by omega)]; exact g6 u hu, hd, by rw [hJ 46 (by omega)]; exact g8, by rw [hJ 46 (by omega)]; exact g9⟩
  rw [hJ 48 (by omega), hJ 49 (by omega), hJ 50 (by omega), hJ 51 (by omega), hJ 52 (by omega)]
  exact g5 u hu
theorem c_X5_thing (l : Launch) {I : Nat → Nat → Int32} {L : Nat → Nat → Int64} {Rf : Nat → Nat → Option Nat} {n : Nat} {S : sg_T} (W : wd_T Rf n) (hM : MR_T I L S) (hI : IV_T S) {k x y h a : Int32} : wm_C l mX5_thing 3 0 0 [vv_A (some 46), vv_I k, vv_I x, vv_I y, vv_I h, vv_I a] (I, L, Rf, n) (q_M (f_thing S k x y h a).1 (f_thing S k x y h a).2 I L Rf n) := by
  refine wm_of (by decide) (Nat.le_of_ble_eq_true rfl) rfl ?_
  have hQ : mq_T I (z_G S) (b_dr (z_B S)) (b_sh (z_B S)) := mg_mq hM.1 hI.1
  have hG := hQ.1
  have h8 : g_n (z_G S) ≤ 8 := hI.1.1
  have hr : hr_T (z_G S) := hI.1.2.1
  refine ri_1 oX5_thing_0 ?_
  refine rr_if_lt (tgt := 10) oX5_thing_1 (by decide) (fun c1 => ?_) (fun c1 => ?_)
  · refine ra_0 oX5_thing_10 ?_
    refine rk_m1 oX5_thing_11 ?_
    refine rr_cVi (c_X5_no l W (c := 1) (by decide) (by decide)) oX5_thing_12 (cv_X5_97 rfl) (by decide) kk_46 (by decide) hcn_5 (wd_lt W rfl) rfl rfl (Nat.le_of_ble_eq_true rfl) ?_
    exact rr_ireturn oX5_thing_15 rfl rfl (q_M_noc hM me_rf (show f_thing S k x y h a = f_no S (-1) from by rw [f_thing, if_pos (fun q => Int32.not_le.mpr c1 q.1)]) (by decide) (by decide))
  · refine ri_1 oX5_thing_4 ?_
    refine rr_bipush (v := 6) oX5_thing_5 (by decide) ?_
    refine rr_icmp_le (tgt := 16) oX5_thing_7 (by decide) (fun c4 => ?_) (fun c4 => ?_)
    · refine ri_2 oX5_thing_16 ?_
      refine rr_if_lt (tgt := 70) oX5_thing_17 (by decide) (fun c17 => ?_) (fun c17 => ?_)
      · refine ra_0 oX5_thing_70 ?_
        refine rr_bipush (v := (-6)) oX5_thing_71 (by decide) ?_
        refine rr_cVi (c_X5_no l W (c := 6) (by decide) (by decide)) oX5_thing_73 (cv_X5_97 rfl) (by decide) kk_46 (by decide) hcn_5 (wd_lt W rfl) rfl rfl (Nat.le_of_ble_eq_true rfl) ?_
        exact rr_ireturn oX5_thing_76 rfl rfl (q_M_noc hM me_rf (show f_thing S k x y h a = f_no S (-6) from by rw [f_thing, if_neg (fun q => q ⟨Int32.not_lt.mp c1, c4⟩), if_pos (Or.inl (fun q => Int32.not_le.mpr c17 q.1.1.1))]) (by decide) (by decide))
      · refine ri_2 oX5_thing_20 ?_
        refine rr_bipush (v := 9) oX5_thing_21 (by decide) ?_
        refine rr_icmp_gt (tgt := 70) oX5_thing_23 (by decide) (fun c23 => ?_) (fun c23 => ?_)
        · refine ra_0 oX5_thing_70 ?_
          refine rr_bipush (v := (-6)) oX5_thing_71 (by decide) ?_
          refine rr_cVi (c_X5_no l W (c := 6) (by decide) (by decide)) oX5_thing_73 (cv_X5_97 rfl) (by decide) kk_46 (by decide) hcn_5 (wd_lt W rfl) rfl rfl (Nat.le_of_ble_eq_true rfl) ?_
          exact rr_ireturn oX5_thing_76 rfl rfl (q_M_noc hM me_rf (show f_thing S k x y h a = f_no S (-6) from by rw [f_thing, if_neg (fun q => q ⟨Int32.not_lt.mp c1, c4⟩), if_pos (Or.inl (fun q => Int32.not_lt.mpr q.1.1.2 c23))]) (by decide) (by decide))
        · refine ri_3 oX5_thing_26 ?_
          refine rr_if_lt (tgt := 70) oX5_thing_27 (by decide) (fun c27 => ?_) (fun c27 => ?_)
          · refine ra_0 oX5_thing_70 ?_
            refine rr_bipush (v := (-6)) oX5_thing_71 (by decide) ?_
            refine rr_cVi (c_X5_no l W (c := 6) (by decide) (by decide)) oX5_thing_73 (cv_X5_97 rfl) (by decide) kk_46 (by decide) hcn_5 (wd_lt W rfl) rfl rfl (Nat.le_of_ble_eq_true rfl) ?_
            exact rr_ireturn oX5_thing_76 rfl rfl (q_M_noc hM me_rf (show f_thing S k x y h a = f_no S (-6) from by rw [f_thing, if_neg (fun q => q ⟨Int32.not_lt.mp c1, c4⟩), if_pos (Or.inl (fun q => Int32.not_le.mpr c27 q.1.2.1))]) (by decide) (by decide))
          · refine ri_3 oX5_thing_30 ?_
            refine rr_bipush (v := 9) oX5_thing_31 (by decide) ?_
            refine rr_icmp_gt (tgt := 70) oX5_thing_33 (by decide) (fun c33 => ?_) (fun c33 => ?_)
            · refine ra_0 oX5_thing_70 ?_
              refine rr_bipush (v := (-6)) oX5_thing_71 (by decide) ?_
              refine rr_cVi (c_X5_no l W (c := 6) (by decide) (by decide)) oX5_thing_73 (cv_X5_97 rfl) (by decide) kk_46 (by decide) hcn_5 (wd_lt W rfl) rfl rfl (Nat.le_of_ble_eq_true rfl) ?_
              exact rr_ireturn oX5_thing_76 rfl rfl (q_M_noc hM me_rf (show f_thing S k x y h a = f_no S (-6) from by rw [f_thing, if_neg (fun q => q ⟨Int32.not_lt.mp c1, c4⟩), if_pos (Or.inl (fun q => Int32.not_lt.mpr q.1.2.2 c33))]) (by decide) (by decide))
            · refine ri_4 oX5_thing_36 ?_
              refine rr_if_lt (tgt := 70) oX5_thing_38 (by decide) (fun c38 => ?_) (fun c38 => ?_)
              · refine ra_0 oX5_thing_70 ?_
                refine rr_bipush (v := (-6)) oX5_thing_71 (by decide) ?_
                refine rr_cVi (c_X5_no l W (c := 6) (by decide) (by decide)) oX5_thing_73 (cv_X5_97 rfl) (by decide) kk_46 (by decide) hcn_5 (wd_lt W rfl) rfl rfl (Nat.le_of_ble_eq_true rfl) ?_
                exact rr_ireturn oX5_thing_76 rfl rfl (q_M_noc hM me_rf (show f_thing S k x y h a = f_no S (-6) from by rw [f_thing, if_neg (fun q => q ⟨Int32.not_lt.mp c1, c4⟩), if_pos (Or.inl (fun q => Int32.not_le.mpr c38 q.2.1.1))]) (by decide) (by decide))
              · refine ri_4 oX5_thing_41 ?_
                refine rr_bipush (v := 20) oX5_thing_43 (by decide) ?_
                refine rr_icmp_gt (tgt := 70) oX5_thing_45 (by decide) (fun c45 => ?_) (fun c45 => ?_)
                · refine ra_0 oX5_thing_70 ?_
                  refine rr_bipush (v := (-6)) oX5_thing_71 (by decide) ?_
                  refine rr_cVi (c_X5_no l W (c := 6) (by decide) (by decide)) oX5_thing_73 (cv_X5_97 rfl) (by decide) kk_46 (by decide) hcn_5 (wd_lt W rfl) rfl rfl (Nat.le_of_ble_eq_true rfl) ?_
                  exact rr_ireturn oX5_thing_76 rfl rfl (q_M_noc hM me_rf (show f_thing S k x y h a = f_no S (-6) from by rw [f_thing, if_neg (fun q => q ⟨Int32.not_lt.mp c1, c4⟩), if_pos (Or.inl (fun q => Int32.not_lt.mpr q.2.1.2 c45))]) (by decide) (by decide))
                · refine ri_5 oX5_thing_48 ?_
                  refine rr_if_lt (tgt := 70) oX5_thing_50 (by decide) (fun c50 => ?_) (fun c50 => ?_)
                  · refine ra_0 oX5_thing_70 ?_
                    refine rr_bipush (v := (-6)) oX5_thing_71 (by decide) ?_
                    refine rr_cVi (c_X5_no l W (c := 6) (by decide) (by decide)) oX5_thing_73 (cv_X5_97 rfl) (by decide) kk_46 (by decide) hcn_5 (wd_lt W rfl) rfl rfl (Nat.le_of_ble_eq_true rfl) ?_
                    exact rr_ireturn oX5_thing_76 rfl rfl (q_M_noc hM me_rf (show f_thing S k x y h a = f_no S (-6) from by rw [f_thing, if_neg (fun q => q ⟨Int32.not_lt.mp c1, c4⟩), if_pos (Or.inl (fun q => Int32.not_le.mpr c50 q.2.2.1))]) (by decide) (by decide))
                  · refine ri_5 oX5_thing_53 ?_
                    refine rr_bipush (v := 9) oX5_thing_55 (by decide) ?_
                    refine rr_icmp_gt (tgt := 70) oX5_thing_57 (by decide) (fun c57 => ?_) (fun c57 => ?_)
                    · refine ra_0 oX5_thing_70 ?_
                      refine rr_bipush (v := (-6)) oX5_thing_71 (by decide) ?_
                      refine rr_cVi (c_X5_no l W (c := 6) (by decide) (by decide)) oX5_thing_73 (cv_X5_97 rfl) (by decide) kk_46 (by decide) hcn_5 (wd_lt W rfl) rfl rfl (Nat.le_of_ble_eq_true rfl) ?_
                      exact rr_ireturn oX5_thing_76 rfl rfl (q_M_noc hM me_rf (show f_thing S k x y h a = f_no S (-6) from by rw [f_thing, if_neg (fun q => q ⟨Int32.not_lt.mp c1, c4⟩), if_pos (Or.inl (fun q => Int32.not_lt.mpr q.2.2.2 c57))]) (by decide) (by decide))
                    · refine ra_0 oX5_thing_60 ?_
                      refine ri_2 oX5_thing_61 ?_
                      refine ri_3 oX5_thing_62 ?_
                      refine rr_cVi (c_X5_at l W hQ) oX5_thing_63 (cv_X5_116 rfl) (by decide) kk_46 (by decide) hcn_5 (wd_lt W rfl) rfl rfl (Nat.le_of_ble_eq_true rfl) ?_
                      generalize hst : s_at (z_G S) x y = bb
                      rcases bb with _ | t
                      · refine rk_m1 oX5_thing_66 ?_
                        refine rr_icmp_eq (tgt := 77) oX5_thing_67 (by decide) (fun c67 => ?_) (fun c67 => ?_)
                        rotate_left
                        · exact absurd rfl c67
                        refine ra_0 oX5_thing_77 ?_
                        refine rr_giv oX5_thing_78 (ff_X5_84 rfl) kk_46 (wd_lt W rfl) ⟨by decide, rfl⟩ (mv_c hG) ?_
                        refine rr_bipush (v := 8) oX5_thing_81 (by decide) ?_
                        refine rr_icmp_ne (tgt := 95) oX5_thing_83 (by decide) (fun c83 => ?_) (fun c83 => ?_)
                        · refine ra_0 oX5_thing_95 ?_
                          refine ri_1 oX5_thing_96 ?_
                          refine ri_2 oX5_thing_97 ?_
                          refine ri_3 oX5_thing_98 ?_
                          refine ri_4 oX5_thing_99 ?_
                          refine ri_5 oX5_thing_101 ?_
                          have hdd : ∀ t, b_dr (z_B S) t = true → t < g_n (z_G S) := fun t ht => (hI.1.2.2.2.1 t ht).1
                          have hss : ∀ j i, b_sh (z_B S) j i = true → j < g_n (z_G S) ∧ i < g_n (z_G S) := fun j i q => ⟨(hI.1.2.2.2.2.1 j i q).1.1, (hI.1.2.2.2.2.1 j i q).2.1⟩
                          have h7 : ¬ 8 ≤ g_n (z_G S) := fun q => c83 (by rw [show g_n (z_G S) = 8 by omega]; rfl)
                          refine rr_cVn (c_X5_adds l W hM.1 (show g_n (b_G (z_B S)) < 8 from by have : g_n (b_G (z_B S)) = g_n (z_G S) := rfl; omega) hdd hss) oX5_thing_103 (cv_X5_120 rfl) (by decide) kk_46 (by decide) hcn_5 (wd_lt W rfl) rfl rfl (Nat.le_of_ble_eq_true rfl) (fun nv J hJ => ?_)
                          obtain ⟨hv, hB2, hfr, hf⟩ := hJ
                          exact rr_ireturn oX5_thing_106 rfl rfl (q_M_gr hM hB2 (fun f q => hf f (by omega)) (fun a q0 q1 q2 q3 q4 => hfr a (by omega)) (show f_thing S k x y h a = (nI (g_n (z_G S)), w_B S (b_wG (z_B S) (g_add (z_G S) k x y h a))) from by rw [f_thing, if_neg (fun q => q ⟨Int32.not_lt.mp c1, c4⟩), if_neg (by rintro (z | z); exact z ⟨⟨⟨Int32.not_lt.mp c17, Int32.not_lt.mp c23⟩, Int32.not_lt.mp c27, Int32.not_lt.mp c33⟩, ⟨Int32.not_lt.mp c38, Int32.not_lt.mp c45⟩, Int32.not_lt.mp c50, Int32.not_lt.mp c57⟩; exact z hst), if_neg h7]) hv)
                        · refine ra_0 oX5_thing_86 ?_
                          refine rr_bipush (v := (-7)) oX5_thing_87 (by decide) ?_
                          refine rr_cVi (c_X5_no l W (c := 7) (by decide) (by decide)) oX5_thing_89 (cv_X5_97 rfl) (by decide) kk_46 (by decide) hcn_5 (wd_lt W rfl) rfl rfl (Nat.le_of_ble_eq_true rfl) ?_
                          refine rr_goto (tgt := 106) oX5_thing_92 (by decide) ?_
                          exact rr_ireturn oX5_thing_106 rfl rfl (q_M_noc hM me_rf (show f_thing S k x y h a = f_no S (-7) from by rw [f_thing, if_neg (fun q => q ⟨Int32.not_lt.mp c1, c4⟩), if_neg (by rintro (z | z); exact z ⟨⟨⟨Int32.not_lt.mp c17, Int32.not_lt.mp c23⟩, Int32.not_lt.mp c27, Int32.not_lt.mp c33⟩, ⟨Int32.not_lt.mp c38, Int32.not_lt.mp c45⟩, Int32.not_lt.mp c50, Int32.not_lt.mp c57⟩; exact z hst), if_pos (by have := (nI_inj (show g_n (z_G S) < 2 ^ 31 by omega) (show 8 < 2 ^ 31 by omega)).mp c83; omega)]) (by decide) (by decide))
                      · have htn := s_at_lt hst
                        simp only [oI]
                        refine rk_m1 oX5_thing_66 ?_
                        refine rr_icmp_eq (tgt := 77) oX5_thing_67 (by decide) (fun c67 => ?_) (fun c67 => ?_)
                        · exact absurd c67 (nI_nm1 (by omega))
                        refine ra_0 oX5_thing_70 ?_
                        refine rr_bipush (v := (-6)) oX5_thing_71 (by decide) ?_
                        refine rr_cVi (c_X5_no l W (c := 6) (by decide) (by decide)) oX5_thing_73 (cv_X5_97 rfl) (by decide) kk_46 (by decide) hcn_5 (wd_lt W rfl) rfl rfl (Nat.le_of_ble_eq_true rfl) ?_
                        exact rr_ireturn oX5_thing_76 rfl rfl (q_M_noc hM me_rf (show f_thing S k x y h a = f_no S (-6) from by rw [f_thing, if_neg (fun q => q ⟨Int32.not_lt.mp c1, c4⟩), if_pos (Or.inr (by rw [hst]; exact fun q => by cases q))]) (by decide) (by decide))
    · refine ra_0 oX5_thing_10 ?_
      refine rk_m1 oX5_thing_11 ?_
      refine rr_cVi (c_X5_no l W (c := 1) (by decide) (by decide)) oX5_thing_12 (cv_X5_97 rfl) (by decide) kk_46 (by decide) hcn_5 (wd_lt W rfl) rfl rfl (Nat.le_of_ble_eq_true rfl) ?_
      exact rr_ireturn oX5_thing_15 rfl rfl (q_M_noc hM me_rf (show f_thing S k x y h a = f_no S (-1) from by rw [f_thing, if_pos (fun q => c4 q.2)]) (by decide) (by decide))
theorem th_o {S : sg_T} {t w : Int32} (h : rn_T S t) (hw : ¬ (0 ≤ w ∧ w ≤ 6)) : f_thingOf S t w = f_no S (-5) := by
  have e : ∀ v : Int32, 0 ≤ v ∧ v ≤ 6 → ¬ w = v := fun v hv q => hw (by rw [q]; exact hv)
  rw [f_thingOf, if_neg (fun q => q h), if_neg (e 0 (by decide)), if_neg (e 1 (by decide)), if_neg (e 2 (by decide)), if_neg (e 3 (by decide)), if_neg (e 4 (by decide)), if_neg (e 5 (by decide)), if_neg (e 6 (by decide))]
theorem c_X5_thingOf (l : Launch) {I : Nat → Nat → Int32} {L : Nat → Nat → Int64} {Rf : Nat → Nat → Option Nat} {n : Nat} {S : sg_T} (W : wd_T Rf n) (hM : MR_T I L S) (hI : IV_T S) {t w : Int32} : wm_C l mX5_thingOf 2 0 0 [vv_A (some 46), vv_I t, vv_I w] (I, L, Rf, n) (q_M (f_thingOf S t w).1 (f_thingOf S t w).2 I L Rf n) := by
  refine wm_of (by decide) (Nat.le_of_ble_eq_true rfl) rfl ?_
  have hQ : mq_T I (z_G S) (b_dr (z_B S)) (b_sh (z_B S)) := mg_mq hM.1 hI.1
  have hG := hQ.1
  have h8 : g_n (z_G S) ≤ 8 := hI.1.1
  have hr : hr_T (z_G S) := hI.1.2.1
  refine ra_0 oX5_thingOf_0 ?_
  refine ri_1 oX5_thingOf_1 ?_
  refine rr_cVi (c_X5_isThing l W hQ) oX5_thingOf_2 (cv_X5_87 rfl) (by decide) kk_46 (by decide) hcn_5 (wd_lt W rfl) rfl rfl (Nat.le_of_ble_eq_true rfl) ?_
  refine rr_ifb_eq (tgt := 18) oX5_thingOf_5 (by decide) (fun c => ?_) (fun c => ?_)
  · refine ra_0 oX5_thingOf_18 ?_
    refine rr_bipush (v := (-5)) oX5_thingOf_19 (by decide) ?_
    refine rr_cVi (c_X5_no l W (c := 5) (by decide) (by decide)) oX5_thingOf_21 (cv_X5_97 rfl) (by decide) kk_46 (by decide) hcn_5 (wd_lt W rfl) rfl rfl (Nat.le_of_ble_eq_true rfl) ?_
    exact rr_ireturn oX5_thingOf_24 rfl rfl (q_M_noc hM me_rf (show f_thingOf S t w = f_no S (-5) from by rw [f_thingOf, if_pos c]) (by decide) (by decide))
  · obtain ⟨a, ha, rfl⟩ := ix_of c.1 c.2 (by omega)
    have exa : ix_N (nI a) = a := nI_clamp (by omega)
    refine ri_2 oX5_thingOf_8 ?_
    refine rr_if_lt (tgt := 18) oX5_thingOf_9 (by decide) (fun c9 => ?_) (fun c9 => ?_)
    · refine ra_0 oX5_thingOf_18 ?_
      refine rr_bipush (v := (-5)) oX5_thingOf_19 (by decide) ?_
      refine rr_cVi (c_X5_no l W (c := 5) (by decide) (by decide)) oX5_thingOf_21 (cv_X5_97 rfl) (by decide) kk_46 (by decide) hcn_5 (wd_lt W rfl) rfl rfl (Nat.le_of_ble_eq_true rfl) ?_
      exact rr_ireturn oX5_thingOf_24 rfl rfl (q_M_noc hM me_rf (th_o c (fun z => Int32.not_le.mpr c9 z.1)) (by decide) (by decide))
    · refine ri_2 oX5_thingOf_12 ?_
      refine rr_bipush (v := 6) oX5_thingOf_13 (by decide) ?_
      refine rr_icmp_le (tgt := 25) oX5_thingOf_15 (by decide) (fun c15 => ?_) (fun c15 => ?_)
      · refine ri_2 oX5_thingOf_25 ?_
        by_cases c26_0 : w = 0
        · refine rr_tabIn (off := 38) (tgt := 64) oX5_thingOf_26 (by rw [c26_0]; decide) (by rw [c26_0]; decide) (by rw [c26_0]; rfl) (by decide) ?_
          refine ra_0 oX5_thingOf_64 ?_
          refine rr_gr (v := 48) oX5_thingOf_65 (ff_X5_26 rfl) kk_46 (wd_lt W rfl) ⟨by decide, rfl⟩ (wd_r W rfl rfl) ?_
          refine ri_1 oX5_thingOf_68 ?_
          refine rr_iv oX5_thingOf_69 kk_48 (wd_lt W rfl) rfl (by omega) (by decide) (mv_k hG (by omega)) ?_
          exact rr_ireturn oX5_thingOf_70 rfl rfl (q_M_an hM me_rf (show f_thingOf S (nI a) w = (g_k (z_G S) a, S) from by rw [f_thingOf, if_neg (fun q => q c), if_pos c26_0, exa]) rfl)
        by_cases c26_1 : w = 1
        · refine rr_tabIn (off := 45) (tgt := 71) oX5_thingOf_26 (by rw [c26_1]; decide) (by rw [c26_1]; decide) (by rw [c26_1]; rfl) (by decide) ?_
          refine ra_0 oX5_thingOf_71 ?_
          refine rr_gr (v := 49) oX5_thingOf_72 (ff_X5_29 rfl) kk_46 (wd_lt W rfl) ⟨by decide, rfl⟩ (wd_r W rfl rfl) ?_
          refine ri_1 oX5_thingOf_75 ?_
          refine rr_iv oX5_thingOf_76 kk_49 (wd_lt W rfl) rfl (by omega) (by decide) (mv_x hG (by omega)) ?_
          exact rr_ireturn oX5_thingOf_77 rfl rfl (q_M_an hM me_rf (show f_thingOf S (nI a) w = (g_x (z_G S) a, S) from by rw [f_thingOf, if_neg (fun q => q c), if_neg c26_0, if_pos c26_1, exa]) rfl)
        by_cases c26_2 : w = 2
        · refine rr_tabIn (off := 52) (tgt := 78) oX5_thingOf_26 (by rw [c26_2]; decide) (by rw [c26_2]; decide) (by rw [c26_2]; rfl) (by decide) ?_
          refine ra_0 oX5_thingOf_78 ?_
          refine rr_gr (v := 50) oX5_thingOf_79 (ff_X5_32 rfl) kk_46 (wd_lt W rfl) ⟨by decide, rfl⟩ (wd_r W rfl rfl) ?_
          refine ri_1 oX5_thingOf_82 ?_
          refine rr_iv oX5_thingOf_83 kk_50 (wd_lt W rfl) rfl (by omega) (by decide) (mv_y hG (by omega)) ?_
          exact rr_ireturn oX5_thingOf_84 rfl rfl (q_M_an hM me_rf (show f_thingOf S (nI a) w = (g_y (z_G S) a, S) from by rw [f_thingOf, if_neg (fun q => q c), if_neg c26_0, if_neg c26_1, if_pos c26_2, exa]) rfl)
        by_cases c26_3 : w = 3
        · refine rr_tabIn (off := 59) (tgt := 85) oX5_thingOf_26 (by rw [c26_3]; decide) (by rw [c26_3]; decide) (by rw [c26_3]; rfl) (by decide) ?_
          refine ra_0 oX5_thingOf_85 ?_
          refine rr_gr (v := 51) oX5_thingOf_86 (ff_X5_35 rfl) kk_46 (wd_lt W rfl) ⟨by decide, rfl⟩ (wd_r W rfl rfl) ?_
          refine ri_1 oX5_thingOf_89 ?_
          refine rr_iv oX5_thingOf_90 kk_51 (wd_lt W rfl) rfl (by omega) (by decide) (mv_h hG (by omega)) ?_
          exact rr_ireturn oX5_thingOf_91 rfl rfl (q_M_an hM me_rf (show f_thingOf S (nI a) w = (g_h (z_G S) a, S) from by rw [f_thingOf, if_neg (fun q => q c), if_neg c26_0, if_neg c26_1, if_neg c26_2, if_pos c26_3, exa]) rfl)
        by_cases c26_4 : w = 4
        · refine rr_tabIn (off := 66) (tgt := 92) oX5_thingOf_26 (by rw [c26_4]; decide) (by rw [c26_4]; decide) (by rw [c26_4]; rfl) (by decide) ?_
          refine ra_0 oX5_thingOf_92 ?_
          refine rr_gr (v := 52) oX5_thingOf_93 (ff_X5_38 rfl) kk_46 (wd_lt W rfl) ⟨by decide, rfl⟩ (wd_r W rfl rfl) ?_
          refine ri_1 oX5_thingOf_96 ?_
          refine rr_iv oX5_thingOf_97 kk_52 (wd_lt W rfl) rfl (by omega) (by decide) (mv_a hG (by omega)) ?_
          exact rr_ireturn oX5_thingOf_98 rfl rfl (q_M_an hM me_rf (show f_thingOf S (nI a) w = (g_a (z_G S) a, S) from by rw [f_thingOf, if_neg (fun q => q c), if_neg c26_0, if_neg c26_1, if_neg c26_2, if_neg c26_3, if_pos c26_4, exa]) rfl)
        by_cases c26_5 : w = 5
        · refine rr_tabIn (off := 73) (tgt := 99) oX5_thingOf_26 (by rw [c26_5]; decide) (by rw [c26_5]; decide) (by rw [c26_5]; rfl) (by decide) ?_
          refine ra_0 oX5_thingOf_99 ?_
          refine ri_1 oX5_thingOf_100 ?_
          refine rr_cVi (c_X5_tall l W hQ ha) oX5_thingOf_101 (cv_X5_101 rfl) (by decide) kk_46 (by decide) hcn_5 (wd_lt W rfl) rfl rfl (Nat.le_of_ble_eq_true rfl) ?_
          exact rr_ireturn oX5_thingOf_104 rfl rfl (q_M_an hM me_rf (show f_thingOf S (nI a) w = (s_tall (z_G S) a, S) from by rw [f_thingOf, if_neg (fun q => q c), if_neg c26_0, if_neg c26_1, if_neg c26_2, if_neg c26_3, if_neg c26_4, if_pos c26_5, exa]) rfl)
        refine rr_tabOut (tgt := 105) oX5_thingOf_26 (tab_out_0_5 c26_0 c26_1 c26_2 c26_3 c26_4 c26_5) (by decide) ?_
        refine ra_0 oX5_thingOf_105 ?_
        refine rr_gr (v := 53) oX5_thingOf_106 (ff_X5_41 rfl) kk_46 (wd_lt W rfl) ⟨by decide, rfl⟩ (wd_r W rfl rfl) ?_
        refine ri_1 oX5_thingOf_109 ?_
        refine rr_iv oX5_thingOf_110 kk_53 (wd_lt W rfl) rfl (by omega) (by decide) (hM.1.2.1 a (by omega)) ?_
        exact rr_ireturn oX5_thingOf_111 rfl rfl (q_M_an hM me_rf (show f_thingOf S (nI a) w = (bI (b_dr (z_B S) a = true), S) from by rw [f_thingOf, if_neg (fun q => q c), if_neg c26_0, if_neg c26_1, if_neg c26_2, if_neg c26_3, if_neg c26_4, if_neg (fun z => c26_5 z), if_pos (k_6 ⟨Int32.not_lt.mp c9, c15⟩ c26_0 c26_1 c26_2 c26_3 c26_4 c26_5), exa]) rfl)
      · refine ra_0 oX5_thingOf_18 ?_
        refine rr_bipush (v := (-5)) oX5_thingOf_19 (by decide) ?_
        refine rr_cVi (c_X5_no l W (c := 5) (by decide) (by decide)) oX5_thingOf_21 (cv_X5_97 rfl) (by decide) kk_46 (by decide) hcn_5 (wd_lt W rfl) rfl rfl (Nat.le_of_ble_eq_true rfl) ?_
        exact rr_ireturn oX5_thingOf_24 rfl rfl (q_M_noc hM me_rf (th_o c (fun z => c15 z.2)) (by decide) (by decide))
theorem c_X5_height (l : Launch) {I : Nat → Nat → Int32} {L : Nat → Nat → Int64} {Rf : Nat → Nat → Option Nat} {n : Nat} {S : sg_T} (W : wd_T Rf n) (hM : MR_T I L S) (hI : IV_T S) {t v : Int32} : wm_C l mX5_height 2 0 0 [vv_A (some 46), vv_I t, vv_I v] (I, L, Rf, n) (q_M (f_height S t v).1 (f_height S t v).2 I L Rf n) := by
  refine wm_of (by decide) (Nat.le_of_ble_eq_true rfl) rfl ?_
  have hQ : mq_T I (z_G S) (b_dr (z_B S)) (b_sh (z_B S)) := mg_mq hM.1 hI.1
  have hG := hQ.1
  have h8 : g_n (z_G S) ≤ 8 := hI.1.1
  have hr : hr_T (z_G S) := hI.1.2.1
  refine ra_0 oX5_height_0 ?_
  refine ri_1 oX5_height_1 ?_
  refine rr_cVi (c_X5_isThing l W hQ) oX5_height_2 (cv_X5_87 rfl) (by decide) kk_46 (by decide) hcn_5 (wd_lt W rfl) rfl rfl (Nat.le_of_ble_eq_true rfl) ?_
  refine rr_ifb_ne (tgt := 14) oX5_height_5 (by decide) (fun c => ?_) (fun c => ?_)
  · obtain ⟨a, ha, rfl⟩ := ix_of c.1 c.2 (by omega)
    have exa : ix_N (nI a) = a := nI_clamp (by omega)
    refine ri_2 oX5_height_14 ?_
    refine rr_if_lt (tgt := 24) oX5_height_15 (by decide) (fun c1 => ?_) (fun c1 => ?_)
    · refine ra_0 oX5_height_24 ?_
      refine rr_bipush (v := (-6)) oX5_height_25 (by decide) ?_
      refine rr_cVi (c_X5_no l W (c := 6) (by decide) (by decide)) oX5_height_27 (cv_X5_97 rfl) (by decide) kk_46 (by decide) hcn_5 (wd_lt W rfl) rfl rfl (Nat.le_of_ble_eq_true rfl) ?_
      exact rr_ireturn oX5_height_30 rfl rfl (q_M_noc hM me_rf (show _ = f_no S (-6) from by rw [f_height, if_neg (fun q => q c), if_pos (fun q => Int32.not_le.mpr c1 q.1)]) (by decide) (by decide))
    · refine ri_2 oX5_height_18 ?_
      refine rr_bipush (v := 20) oX5_height_19 (by decide) ?_
      refine rr_icmp_le (tgt := 31) oX5_height_21 (by decide) (fun c2 => ?_) (fun c2 => ?_)
      · refine ra_0 oX5_height_31 ?_
        refine rr_gr (v := 51) oX5_height_32 (ff_X5_35 rfl) kk_46 (wd_lt W rfl) ⟨by decide, rfl⟩ (wd_r W rfl rfl) ?_
        refine ri_1 oX5_height_35 ?_
        refine rr_iv oX5_height_36 kk_51 (wd_lt W rfl) rfl (by omega) (by decide) (mv_h hG (by omega)) ?_
        refine si_3 oX5_height_37 rfl rfl ?_
        refine ra_0 oX5_height_38 ?_
        refine rr_gr (v := 51) oX5_height_39 (ff_X5_35 rfl) kk_46 (wd_lt W rfl) ⟨by decide, rfl⟩ (wd_r W rfl rfl) ?_
        refine ri_1 oX5_height_42 ?_
        refine ri_2 oX5_height_43 ?_
        refine rr_ist oX5_height_44 kk_51 (wd_lt W rfl) rfl (by omega) (by decide) ?_
        refine ri_3 oX5_height_45 ?_
        exact rr_ireturn oX5_height_46 rfl rfl (q_M_gr hM (mg_wh hM.1) (fun f q => rfl) (fun a q0 q1 q2 q3 q4 => up_I_ne (by omega)) (show f_height S (nI a) v = (g_h (z_G S) a, _) from by rw [f_height, if_neg (fun q => q c), if_neg (fun q => q ⟨Int32.not_lt.mp c1, c2⟩), exa]) rfl)
      · refine ra_0 oX5_height_24 ?_
        refine rr_bipush (v := (-6)) oX5_height_25 (by decide) ?_
        refine rr_cVi (c_X5_no l W (c := 6) (by decide) (by decide)) oX5_height_27 (cv_X5_97 rfl) (by decide) kk_46 (by decide) hcn_5 (wd_lt W rfl) rfl rfl (Nat.le_of_ble_eq_true rfl) ?_
        exact rr_ireturn oX5_height_30 rfl rfl (q_M_noc hM me_rf (show _ = f_no S (-6) from by rw [f_height, if_neg (fun q => q c), if_pos (fun q => c2 q.2)]) (by decide) (by decide))
  · refine ra_0 oX5_height_8 ?_
    refine rk_m1 oX5_height_9 ?_
    refine rr_cVi (c_X5_no l W (c := 1) (by decide) (by decide)) oX5_height_10 (cv_X5_97 rfl) (by decide) kk_46 (by decide) hcn_5 (wd_lt W rfl) rfl rfl (Nat.le_of_ble_eq_true rfl) ?_
    exact rr_ireturn oX5_height_13 rfl rfl (q_M_noc hM me_rf (show f_height S t v = f_no S (-1) from by rw [f_height, if_pos c]) (by decide) (by decide))
theorem in_1 {v : Int32} (h0 : 0 ≤ v) (h1 : v ≤ 1) : v = 0 ∨ v = 1 := by
  have := in_01 h0 h1
  by_cases q : v = 0
  · exact Or.inl q
  · by_cases r : v = 1
    · exact Or.inr r
    · exact absurd ⟨q, r⟩ this
theorem ask_no {S : sg_T} {w v : Int32} (h0 : w = 0 → ¬ (0 ≤ v ∧ v ≤ 1)) (h1 : w = 1 → ¬ (1 ≤ v ∧ v ≤ 9)) : f_ask S w v = f_no S (-6) := by
  rw [f_ask, if_neg (by rintro ⟨q, r⟩; exact h0 q (by rcases r with rfl | rfl <;> decide)), if_neg (fun q => h1 q.1 q.2)]
theorem c_X5_ask (l : Launch) {I : Nat → Nat → Int32} {L : Nat → Nat → Int64} {Rf : Nat → Nat → Option Nat} {n : Nat} {S : sg_T} (W : wd_T Rf n) (hM : MR_T I L S) (hI : IV_T S) {w v : Int32} : wm_C l mX5_ask 2 0 0 [vv_A (some 46), vv_I w, vv_I v] (I, L, Rf, n) (q_M (f_ask S w v).1 (f_ask S w v).2 I L Rf n) := by
  refine wm_of (by decide) (Nat.le_of_ble_eq_true rfl) rfl ?_
  have hQ : mq_T I (z_G S) (b_dr (z_B S)) (b_sh (z_B S)) := mg_mq hM.1 hI.1
  have hG := hQ.1
  have h8 : g_n (z_G S) ≤ 8 := hI.1.1
  have hr : hr_T (z_G S) := hI.1.2.1
  refine ri_1 oX5_ask_0 ?_
  refine rr_if_ne (tgt := 26) oX5_ask_1 (by decide) (fun c0 => ?_) (fun c0 => ?_)
  · refine ri_1 oX5_ask_26 ?_
    refine rk_1 oX5_ask_27 ?_
    refine rr_icmp_ne (tgt := 55) oX5_ask_28 (by decide) (fun c3 => ?_) (fun c3 => ?_)
    · refine ra_0 oX5_ask_55 ?_
      refine rr_bipush (v := (-6)) oX5_ask_56 (by decide) ?_
      refine rr_cVi (c_X5_no l W (c := 6) (by decide) (by decide)) oX5_ask_58 (cv_X5_97 rfl) (by decide) kk_46 (by decide) hcn_5 (wd_lt W rfl) rfl rfl (Nat.le_of_ble_eq_true rfl) ?_
      exact rr_ireturn oX5_ask_61 rfl rfl (q_M_noc hM me_rf (ask_no (fun z => absurd z c0) (fun z => absurd z c3)) (by decide) (by decide))
    · refine ri_2 oX5_ask_31 ?_
      refine rk_1 oX5_ask_32 ?_
      refine rr_icmp_lt (tgt := 55) oX5_ask_33 (by decide) (fun c4 => ?_) (fun c4 => ?_)
      · refine ra_0 oX5_ask_55 ?_
        refine rr_bipush (v := (-6)) oX5_ask_56 (by decide) ?_
        refine rr_cVi (c_X5_no l W (c := 6) (by decide) (by decide)) oX5_ask_58 (cv_X5_97 rfl) (by decide) kk_46 (by decide) hcn_5 (wd_lt W rfl) rfl rfl (Nat.le_of_ble_eq_true rfl) ?_
        exact rr_ireturn oX5_ask_61 rfl rfl (q_M_noc hM me_rf (ask_no (fun z => absurd z c0) (fun _ z => Int32.not_lt.mpr z.1 c4)) (by decide) (by decide))
      · refine ri_2 oX5_ask_36 ?_
        refine rr_bipush (v := 9) oX5_ask_37 (by decide) ?_
        refine rr_icmp_gt (tgt := 55) oX5_ask_39 (by decide) (fun c5 => ?_) (fun c5 => ?_)
        · refine ra_0 oX5_ask_55 ?_
          refine rr_bipush (v := (-6)) oX5_ask_56 (by decide) ?_
          refine rr_cVi (c_X5_no l W (c := 6) (by decide) (by decide)) oX5_ask_58 (cv_X5_97 rfl) (by decide) kk_46 (by decide) hcn_5 (wd_lt W rfl) rfl rfl (Nat.le_of_ble_eq_true rfl) ?_
          exact rr_ireturn oX5_ask_61 rfl rfl (q_M_noc hM me_rf (ask_no (fun z => absurd z c0) (fun _ z => Int32.not_lt.mpr z.2 c5)) (by decide) (by decide))
        · refine ra_0 oX5_ask_42 ?_
          refine rr_giv oX5_ask_43 (ff_X5_13 rfl) kk_46 (wd_lt W rfl) ⟨by decide, rfl⟩ (mv_f hG) ?_
          refine si_3 oX5_ask_46 rfl rfl ?_
          refine ra_0 oX5_ask_47 ?_
          refine ri_2 oX5_ask_48 ?_
          refine rr_pi oX5_ask_49 (ff_X5_13 rfl) kk_46 (wd_lt W rfl) ⟨by decide, rfl, by decide⟩ pf_5_2 ⟨rfl, rfl⟩ ?_
          refine rr_goto (tgt := 62) oX5_ask_52 (by decide) ?_
          refine ri_3 oX5_ask_62 ?_
          exact rr_ireturn oX5_ask_63 rfl rfl (q_M_gr hM (mg_fa hM.1) (fun f q => up_I_at_ne (by omega)) (fun a q0 q1 q2 q3 q4 => up_I_ne (by omega)) (show f_ask S w v = (g_f (z_G S), _) from by rw [f_ask, if_neg (fun z => c0 z.1), if_pos ⟨c3, Int32.not_lt.mp c4, Int32.not_lt.mp c5⟩]) rfl)
  · refine ri_2 oX5_ask_4 ?_
    refine rr_if_lt (tgt := 26) oX5_ask_5 (by decide) (fun c1 => ?_) (fun c1 => ?_)
    · refine ri_1 oX5_ask_26 ?_
      refine rk_1 oX5_ask_27 ?_
      refine rr_icmp_ne (tgt := 55) oX5_ask_28 (by decide) (fun c3 => ?_) (fun c3 => ?_)
      rotate_left
      · exact absurd (c0.symm.trans c3) (by decide)
      refine ra_0 oX5_ask_55 ?_
      refine rr_bipush (v := (-6)) oX5_ask_56 (by decide) ?_
      refine rr_cVi (c_X5_no l W (c := 6) (by decide) (by decide)) oX5_ask_58 (cv_X5_97 rfl) (by decide) kk_46 (by decide) hcn_5 (wd_lt W rfl) rfl rfl (Nat.le_of_ble_eq_true rfl) ?_
      exact rr_ireturn oX5_ask_61 rfl rfl (q_M_noc hM me_rf (ask_no (fun _ z => Int32.not_lt.mpr z.1 c1) (fun z => absurd (c0.symm.trans z) (by decide))) (by decide) (by decide))
    · refine ri_2 oX5_ask_8 ?_
      refine rk_1 oX5_ask_9 ?_
      refine rr_icmp_gt (tgt := 26) oX5_ask_10 (by decide) (fun c2 => ?_) (fun c2 => ?_)
      · refine ri_1 oX5_ask_26 ?_
        refine rk_1 oX5_ask_27 ?_
        refine rr_icmp_ne (tgt := 55) oX5_ask_28 (by decide) (fun c3 => ?_) (fun c3 => ?_)
        rotate_left
        · exact absurd (c0.symm.trans c3) (by decide)
        refine ra_0 oX5_ask_55 ?_
        refine rr_bipush (v := (-6)) oX5_ask_56 (by decide) ?_
        refine rr_cVi (c_X5_no l W (c := 6) (by decide) (by decide)) oX5_ask_58 (cv_X5_97 rfl) (by decide) kk_46 (by decide) hcn_5 (wd_lt W rfl) rfl rfl (Nat.le_of_ble_eq_true rfl) ?_
        exact rr_ireturn oX5_ask_61 rfl rfl (q_M_noc hM me_rf (ask_no (fun _ z => Int32.not_lt.mpr z.2 c2) (fun z => absurd (c0.symm.trans z) (by decide))) (by decide) (by decide))
      · refine ra_0 oX5_ask_13 ?_
        refine rr_giv oX5_ask_14 (ff_X5_7 rfl) kk_46 (wd_lt W rfl) ⟨by decide, rfl⟩ (mv_s hG) ?_
        refine si_3 oX5_ask_17 rfl rfl ?_
        refine ra_0 oX5_ask_18 ?_
        refine ri_2 oX5_ask_19 ?_
        refine rr_pi oX5_ask_20 (ff_X5_7 rfl) kk_46 (wd_lt W rfl) ⟨by decide, rfl, by decide⟩ pf_5_1 ⟨rfl, rfl⟩ ?_
        refine rr_goto (tgt := 62) oX5_ask_23 (by decide) ?_
        refine ri_3 oX5_ask_62 ?_
        exact rr_ireturn oX5_ask_63 rfl rfl (q_M_gr hM (mg_su hM.1) (fun f q => up_I_at_ne (by omega)) (fun a q0 q1 q2 q3 q4 => up_I_ne (by omega)) (show f_ask S w v = (g_s (z_G S), _) from by rw [f_ask, if_pos ⟨c0, in_1 (Int32.not_lt.mp c1) (Int32.not_lt.mp c2)⟩]) rfl)
