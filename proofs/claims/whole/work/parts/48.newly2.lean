/-! the model: a new house, a storey, blinded, felled, night (by program: wip/whole/c48.py) -/
theorem up_bk {I : Nat → Nat → Int32} {p q : Nat} {x y : Int32} (h : y = I p q) : up_I (up_I I p q x) p q y = I := by
  funext a
  by_cases e : a = p
  · subst e
    funext i
    by_cases f : i = q
    · subst f; rw [up_I_at, h]
    · rw [up_I_at_ne f, up_I_at_ne f]
  · rw [up_I_ne e, up_I_ne e]
theorem sN_le {f g : Nat → Nat} : ∀ m, (∀ i, i < m → f i ≤ g i) → sN f m ≤ sN g m := by
  intro m
  induction m with
  | zero => intro _; exact Nat.le_refl 0
  | succ m ih => intro h; simp only [sN]; have := ih (fun i hi => h i (by omega)); have := h m (by omega); omega
theorem sN_1 : ∀ m, sN (fun _ => 1) m = m := by
  intro m
  induction m with
  | zero => rfl
  | succ m ih => simp only [sN]; rw [ih]
theorem sN_pos {f : Nat → Nat} : ∀ m t, t < m → 1 ≤ f t → 1 ≤ sN f m := by
  intro m
  induction m with
  | zero => intro t h; omega
  | succ m ih =>
    intro t h h1
    simp only [sN]
    by_cases e : t = m
    · subst e; omega
    · have := ih t (by omega) h1; omega
theorem one_x (x : Int32) : sN (fun i => (x == nI i).toNat) 9 ≤ 1 := by
  by_cases h : ∃ k, k < 9 ∧ x = nI k
  · obtain ⟨k, hk, rfl⟩ := h
    have e : ∀ k, k < 9 → sN (fun i => (nI k == nI i).toNat) 9 ≤ 1 := by decide +kernel
    exact e k hk
  · have : sN (fun i => (x == nI i).toNat) 9 = sN (fun _ => 0) 9 := sN_c 9 (fun i hi => by
      have : (x == nI i) = false := by
        rw [beq_eq_false_iff_ne]
        exact fun e => h ⟨i, hi, e⟩
      rw [this]; rfl)
    rw [this, sN_0]
    omega
/-- eight things cannot stand on all places -/
theorem free_ex {S : sg_T} (h8 : g_n (z_G S) ≤ 8) : ∃ i, i < 9 ∧ s_fr S i = true := by
  apply Classical.byContradiction
  intro hn
  have hall : ∀ i, i < 9 → 1 ≤ sN (fun t => (g_x (z_G S) t == nI i).toNat) (g_n (z_G S)) := by
    intro i hi
    cases z : s_at (z_G S) (nI (i % 10)) (nI (i / 10)) with
    | none => exact absurd ⟨i, hi, by rw [s_fr, z]; rfl⟩ hn
    | some t =>
      have := fo_lt _ _ _ z
      refine sN_pos _ t (by omega) ?_
      have e : (g_x (z_G S) t == nI i) = true := by
        have h3 := this.2.2
        simp only [Bool.and_eq_true] at h3
        rw [← show i % 10 = i by omega]
        exact h3.1
      rw [e]
      exact Nat.le_refl 1
  have h1 : sN (fun _ => 1) 9 ≤ sN (fun i => sN (fun t => (g_x (z_G S) t == nI i).toNat) (g_n (z_G S))) 9 := sN_le 9 hall
  rw [sN_swap, sN_1] at h1
  have h2 : sN (fun t => sN (fun i => (g_x (z_G S) t == nI i).toNat) 9) (g_n (z_G S)) ≤ sN (fun _ => 1) (g_n (z_G S)) := sN_le _ (fun t _ => one_x _)
  rw [sN_1] at h2
  omega
theorem newly_s {S : sg_T} {h : Int32} (h8 : g_n (z_G S) ≤ 8) : ∃ p, kp_N (s_fr S) (s_nc S h) 100 0 none = some p := by
  obtain ⟨i, hi, hf⟩ := free_ex h8
  cases z : kp_N (s_fr S) (s_nc S h) 100 0 none with
  | some p => exact ⟨p, rfl⟩
  | none => have := (kp_none 100 0).mp z i (by omega) (by omega); rw [hf] at this; cases this
theorem mk_add {G : gr_T} (h : mk_T G) {k x y hh a : Int32} (hk : 0 ≤ k ∧ k ≤ 6) : mk_T (g_add G k x y hh a) := by
  intro t ht
  have ht2 : t < g_n G + 1 := ht
  show 0 ≤ upd (g_k G) (g_n G) k t ∧ upd (g_k G) (g_n G) k t ≤ 6
  by_cases q : t = g_n G
  · simp only [upd, if_pos q]; exact hk
  · simp only [upd, if_neg q]; exact h t (by omega)
theorem mg_drop {I : Nat → Nat → Int32} {B : gb_T} {k x y h a : Int32} (hM : mg_T I (b_wG B (g_add (b_G B) k x y h a))) : mg_T (up_I I 46 0 (nI (g_n (b_G B)))) B := by
  obtain ⟨⟨g1, g2, g3, g4, g5⟩, g6, g7, g8, g9⟩ := hM
  have g1' : g_n (b_G B) + 1 ≤ 8 := g1
  refine ⟨⟨by omega, up_I_at, by rw [up_I_at_ne (by omega)]; exact g3, by rw [up_I_at_ne (by omega)]; exact g4, fun t ht => ?_⟩, fun t ht => by rw [up_I_ne (by omega)]; exact g6 t ht, fun t ht => by rw [up_I_ne (by omega)]; exact g7 t ht, by rw [up_I_at_ne (by omega)]; exact g8, by rw [up_I_at_ne (by omega)]; exact g9⟩
  have e := g5 t (show t < g_n (b_G B) + 1 by omega)
  have ne : ∀ (f : Nat → Int32) v, upd f (g_n (b_G B)) v t = f t := fun f v => by simp only [upd]; exact if_neg (by omega)
  rw [up_I_ne (by omega), up_I_ne (by omega), up_I_ne (by omega), up_I_ne (by omega), up_I_ne (by omega), e.1, e.2.1, e.2.2.1, e.2.2.2.1, e.2.2.2.2]
  exact ⟨ne _ _, ne _ _, ne _ _, ne _ _, ne _ _⟩
theorem rm10 : ∀ p, p < 100 → nI p - nI p / 10 * 10 = nI (p % 10) := by decide +kernel
theorem dv10 : ∀ p, p < 100 → nI p / 10 = nI (p / 10) := by decide +kernel
def mz_S (c : Nat → Int32) : Option Nat → Int32
  | none => 0
  | some u => c u
theorem lp_X5_newly (l : Launch) {I : Nat → Nat → Int32} {L : Nat → Nat → Int64} {Rf : Nat → Nat → Option Nat} {n : Nat} {S : sg_T} (W : wd_T Rf n) (hM : MR_T I L S) (hI : IV_T S) {h : Int32} (hh : 0 ≤ h ∧ h ≤ 20) (h7 : g_n (b_G (z_B S)) < 8) : ∀ m (J : Nat → Nat → Int32) t o (w5 : vv_T), t + m = 100 → mg_T J (z_B S) → (∀ b, (b < 46 ∨ b = 47 ∨ 54 < b) → J b = I b) → (∀ f, f ≠ 0 → J 46 f = I 46 f) → (∀ u, o = some u → u < 100) → kp_N (s_fr S) (s_nc S h) 100 0 none = kp_N (s_fr S) (s_nc S h) m t o → wm_W l mX5_newly 19 0 0 40 [vv_A (some 46), vv_I h, vv_I (oI o), vv_I (mz_S (s_nc S h) o), vv_I (nI t), w5] [] (J, L, Rf, n) (q_M (f_newly S h).1 (f_newly S h).2 I L Rf n) := by
  intro m
  induction m with
  | zero =>
    intro J t o w5 ht h1 h2 h3 ho hk
    have hQ : mq_T I (z_G S) (b_dr (z_B S)) (b_sh (z_B S)) := mg_mq hM.1 hI.1
    have hG := hQ.1
    have h8 : g_n (z_G S) ≤ 8 := hI.1.1
    have hr : hr_T (z_G S) := hI.1.2.1
    have hdd : ∀ t, b_dr (z_B S) t = true → t < g_n (b_G (z_B S)) := fun t ht => (hI.1.2.2.2.1 t ht).1
    have hss : ∀ j i, b_sh (z_B S) j i = true → j < g_n (b_G (z_B S)) ∧ i < g_n (b_G (z_B S)) := fun j i q => ⟨(hI.1.2.2.2.2.1 j i q).1.1, (hI.1.2.2.2.2.1 j i q).2.1⟩
    refine ri_4 oX5_newly_40 ?_
    refine rr_bipush (v := 100) oX5_newly_42 (by decide) ?_
    refine rr_icmp_ge (tgt := 132) oX5_newly_44 (by decide) (fun c => ?_) (fun c => ?_)
    rotate_left
    · exact absurd c (by rw [show (100 : Int32) = nI 100 from rfl, nI_le_iff (by omega) (by omega)]; omega)
    refine ri_2 oX5_newly_132 ?_
    exact rr_ireturn oX5_newly_133 rfl rfl (by
        obtain ⟨p, hp⟩ := newly_s (S := S) (h := h) hI.1.1
        have e : o = some p := by rw [hk] at hp; exact hp
        have ef : f_newly S h = (nI p, w_B S (z_B S)) := by
          rw [f_newly, if_neg (fun q => q hh), if_neg (Nat.not_le.mpr h7), hp]
          rfl
        exact q_M_gr hM h1 (fun f q => h3 f (by omega)) (fun a q0 q1 q2 q3 q4 => h2 a (by omega)) ef (by rw [e]; rfl))
  | succ m ih =>
    intro J t o w5 ht h1 h2 h3 ho hk
    have hQ : mq_T I (z_G S) (b_dr (z_B S)) (b_sh (z_B S)) := mg_mq hM.1 hI.1
    have hG := hQ.1
    have h8 : g_n (z_G S) ≤ 8 := hI.1.1
    have hr : hr_T (z_G S) := hI.1.2.1
    have hdd : ∀ t, b_dr (z_B S) t = true → t < g_n (b_G (z_B S)) := fun t ht => (hI.1.2.2.2.1 t ht).1
    have hss : ∀ j i, b_sh (z_B S) j i = true → j < g_n (b_G (z_B S)) ∧ i < g_n (b_G (z_B S)) := fun j i q => ⟨(hI.1.2.2.2.2.1 j i q).1.1, (hI.1.2.2.2.2.1 j i q).2.1⟩
    refine ri_4 oX5_newly_40 ?_
    refine rr_bipush (v := 100) oX5_newly_42 (by decide) ?_
    refine rr_icmp_ge (tgt := 132) oX5_newly_44 (by decide) (fun c => ?_) (fun c => ?_)
    · (rw [show (100 : Int32) = nI 100 from rfl, nI_le_iff (by omega) (by omega)] at c; omega)
    refine ra_0 oX5_newly_47 ?_
    refine ri_4 oX5_newly_48 ?_
    refine rr_bipush (v := 10) oX5_newly_50 (by decide) ?_
    refine rr_irem oX5_newly_52 (by decide) ?_
    refine ri_4 oX5_newly_53 ?_
    refine rr_bipush (v := 10) oX5_newly_55 (by decide) ?_
    refine rr_idiv oX5_newly_57 (by decide) ?_
    rw [rm10 t (by omega), dv10 t (by omega)]
    refine rr_cVi (c_X5_at l W (mg_mq h1 hI.1)) oX5_newly_58 (cv_X5_116 rfl) (by decide) kk_46 (by decide) hcn_5 (wd_lt W rfl) rfl rfl (Nat.le_of_ble_eq_true rfl) ?_
    generalize hst : s_at (b_G (z_B S)) (nI (t % 10)) (nI (t / 10)) = bb
    rcases bb with _ | q
    · refine rk_m1 oX5_newly_61 ?_
      refine rr_icmp_eq (tgt := 68) oX5_newly_62 (by decide) (fun c62 => ?_) (fun c62 => ?_)
      rotate_left
      · exact absurd rfl c62
      have hfree : s_fr S t = true := by rw [s_fr, show s_at (z_G S) (nI (t % 10)) (nI (t / 10)) = none from hst]; rfl
      refine ra_0 oX5_newly_68 ?_
      refine rk_1 oX5_newly_69 ?_
      refine ri_4 oX5_newly_70 ?_
      refine rr_bipush (v := 10) oX5_newly_72 (by decide) ?_
      refine rr_irem oX5_newly_74 (by decide) ?_
      refine ri_4 oX5_newly_75 ?_
      refine rr_bipush (v := 10) oX5_newly_77 (by decide) ?_
      refine rr_idiv oX5_newly_79 (by decide) ?_
      refine ri_1 oX5_newly_80 ?_
      refine rk_0 oX5_newly_81 ?_
      rw [rm10 t (by omega), dv10 t (by omega)]
      refine rr_cVn (c_X5_adds l W h1 h7 hdd hss) oX5_newly_82 (cv_X5_120 rfl) (by decide) kk_46 (by decide) hcn_5 (wd_lt W rfl) rfl rfl (Nat.le_of_ble_eq_true rfl) (fun v J1 hJ => ?_)
      obtain ⟨hv, hB1, hfr1, hf1⟩ := hJ
      have hQ1 : mq_T J1 (g_add (b_G (z_B S)) 1 (nI (t % 10)) (nI (t / 10)) h 0) (b_dr (z_B S)) (b_sh (z_B S)) := ⟨hB1.1, hB1.2.1, hB1.2.2.1, mk_add (mg_mq h1 hI.1).2.2.2.1 (by decide), hr_add (a := 0) hI.1.2.1 (by omega) (by omega) (by omega)⟩
      refine rr_pop oX5_newly_85 rfl ?_
      refine ra_0 oX5_newly_86 ?_
      refine ra_0 oX5_newly_87 ?_
      refine rr_cVi (c_X5_allRight l W hQ1) oX5_newly_88 (cv_X5_210 rfl) (by decide) kk_46 (by decide) hcn_5 (wd_lt W rfl) rfl rfl (Nat.le_of_ble_eq_true rfl) ?_
      refine rr_cVi (c_X5_many l) oX5_newly_91 (cv_X5_107 rfl) (by decide) kk_46 (by decide) hcn_5 (wd_lt W rfl) rfl rfl (Nat.le_of_ble_eq_true rfl) ?_
      refine si_5 oX5_newly_94 rfl rfl ?_
      refine ra_0 oX5_newly_96 ?_
      refine rr_dup oX5_newly_97 rfl ?_
      refine rr_giv oX5_newly_98 (ff_X5_84 rfl) kk_46 (wd_lt W rfl) ⟨by decide, rfl⟩ (show _ = nI (g_n (b_G (z_B S)) + 1) from hB1.1.2.1) ?_
      refine rk_1 oX5_newly_101 ?_
      refine rr_isub oX5_newly_102 ?_
      rw [show nI (g_n (b_G (z_B S)) + 1) - 1 = nI (g_n (b_G (z_B S))) from by rw [← nI_1, Int32.add_sub_cancel]]
      refine rr_pi oX5_newly_103 (ff_X5_84 rfl) kk_46 (wd_lt W rfl) ⟨by decide, rfl, by decide⟩ pf_5_0 ⟨rfl, rfl⟩ ?_
      rcases o with _ | u
      · refine ri_2 oX5_newly_106 ?_
        refine rk_m1 oX5_newly_107 ?_
        refine rr_icmp_eq (tgt := 120) oX5_newly_108 (by decide) (fun c108 => ?_) (fun c108 => ?_)
        rotate_left
        · exact absurd rfl c108
        refine ri_4 oX5_newly_120 ?_
        refine si_2 oX5_newly_122 rfl rfl ?_
        refine ri_5 oX5_newly_123 ?_
        refine si_3 oX5_newly_125 rfl rfl ?_
        refine rn_4 oX5_newly_126 rfl rfl ?_
        refine rr_goto (tgt := 40) oX5_newly_129 (by decide) ?_
        refine ih _ (t + 1) (some t) _ (by omega) (mg_drop hB1) (fun b hb => by rw [up_I_ne (by omega), hfr1 b hb]; exact h2 b hb) (fun f hf => by rw [up_I_at_ne hf, hf1 f hf]; exact h3 f hf) (fun u e => by cases e; omega) ?_
        rw [hk]
        simp only [kp_N]
        rw [if_pos hfree]
      · have hu := ho u rfl
        refine ri_2 oX5_newly_106 ?_
        refine rk_m1 oX5_newly_107 ?_
        refine rr_icmp_eq (tgt := 120) oX5_newly_108 (by decide) (fun c108 => ?_) (fun c108 => ?_)
        · exact absurd c108 (nI_nm1 (by omega))
        refine ri_5 oX5_newly_111 ?_
        refine ri_3 oX5_newly_113 ?_
        refine rr_icmp_gt (tgt := 120) oX5_newly_114 (by decide) (fun c114 => ?_) (fun c114 => ?_)
        · refine ri_4 oX5_newly_120 ?_
          refine si_2 oX5_newly_122 rfl rfl ?_
          refine ri_5 oX5_newly_123 ?_
          refine si_3 oX5_newly_125 rfl rfl ?_
          refine rn_4 oX5_newly_126 rfl rfl ?_
          refine rr_goto (tgt := 40) oX5_newly_129 (by decide) ?_
          refine ih _ (t + 1) (some t) _ (by omega) (mg_drop hB1) (fun b hb => by rw [up_I_ne (by omega), hfr1 b hb]; exact h2 b hb) (fun f hf => by rw [up_I_at_ne hf, hf1 f hf]; exact h3 f hf) (fun u e => by cases e; omega) ?_
          rw [hk]
          simp only [kp_N]
          rw [if_pos hfree]
          show kp_N (s_fr S) (s_nc S h) m (t + 1) (if s_nc S h u < s_nc S h t then some t else some u) = _
          rw [if_pos (show s_nc S h u < s_nc S h t from c114)]
        · refine rr_goto (tgt := 126) oX5_newly_117 (by decide) ?_
          refine rn_4 oX5_newly_126 rfl rfl ?_
          refine rr_goto (tgt := 40) oX5_newly_129 (by decide) ?_
          refine ih _ (t + 1) (some u) _ (by omega) (mg_drop hB1) (fun b hb => by rw [up_I_ne (by omega), hfr1 b hb]; exact h2 b hb) (fun f hf => by rw [up_I_at_ne hf, hf1 f hf]; exact h3 f hf) ho ?_
          rw [hk]
          simp only [kp_N]
          rw [if_pos hfree]
          show kp_N (s_fr S) (s_nc S h) m (t + 1) (if s_nc S h u < s_nc S h t then some t else some u) = _
          rw [if_neg (show ¬ s_nc S h u < s_nc S h t from c114)]
    · have htn := s_at_lt hst
      simp only [oI]
      refine rk_m1 oX5_newly_61 ?_
      refine rr_icmp_eq (tgt := 68) oX5_newly_62 (by decide) (fun c62 => ?_) (fun c62 => ?_)
      · exact absurd c62 (nI_nm1 (by omega))
      refine rr_goto (tgt := 126) oX5_newly_65 (by decide) ?_
      refine rn_4 oX5_newly_126 rfl rfl ?_
      refine rr_goto (tgt := 40) oX5_newly_129 (by decide) ?_
      have hfree : ¬ s_fr S t = true := by rw [s_fr, show s_at (z_G S) (nI (t % 10)) (nI (t / 10)) = some q from hst]; simp
      refine ih J (t + 1) o _ (by omega) h1 h2 h3 ho ?_
      rw [hk]
      simp only [kp_N]
      rw [if_neg hfree]
theorem c_X5_newly (l : Launch) {I : Nat → Nat → Int32} {L : Nat → Nat → Int64} {Rf : Nat → Nat → Option Nat} {n : Nat} {S : sg_T} (W : wd_T Rf n) (hM : MR_T I L S) (hI : IV_T S) {h : Int32} : wm_C l mX5_newly 19 0 0 [vv_A (some 46), vv_I h] (I, L, Rf, n) (q_M (f_newly S h).1 (f_newly S h).2 I L Rf n) := by
  refine wm_of (by decide) (Nat.le_of_ble_eq_true rfl) rfl ?_
  have hQ : mq_T I (z_G S) (b_dr (z_B S)) (b_sh (z_B S)) := mg_mq hM.1 hI.1
  have hG := hQ.1
  have h8 : g_n (z_G S) ≤ 8 := hI.1.1
  have hr : hr_T (z_G S) := hI.1.2.1
  refine ri_1 oX5_newly_0 ?_
  refine rr_if_lt (tgt := 10) oX5_newly_1 (by decide) (fun c => ?_) (fun c => ?_)
  · refine ra_0 oX5_newly_10 ?_
    refine rr_bipush (v := (-6)) oX5_newly_11 (by decide) ?_
    refine rr_cVi (c_X5_no l W (c := 6) (by decide) (by decide)) oX5_newly_13 (cv_X5_97 rfl) (by decide) kk_46 (by decide) hcn_5 (wd_lt W rfl) rfl rfl (Nat.le_of_ble_eq_true rfl) ?_
    exact rr_ireturn oX5_newly_16 rfl rfl (q_M_noc hM me_rf (show f_newly S h = f_no S (-6) from by rw [f_newly, if_pos (fun q => Int32.not_le.mpr c q.1)]) (by decide) (by decide))
  · refine ri_1 oX5_newly_4 ?_
    refine rr_bipush (v := 20) oX5_newly_5 (by decide) ?_
    refine rr_icmp_le (tgt := 17) oX5_newly_7 (by decide) (fun c1 => ?_) (fun c1 => ?_)
    · refine ra_0 oX5_newly_17 ?_
      refine rr_giv oX5_newly_18 (ff_X5_84 rfl) kk_46 (wd_lt W rfl) ⟨by decide, rfl⟩ (mv_c hG) ?_
      refine rr_bipush (v := 8) oX5_newly_21 (by decide) ?_
      refine rr_icmp_ne (tgt := 33) oX5_newly_23 (by decide) (fun c2 => ?_) (fun c2 => ?_)
      · have h7 : g_n (b_G (z_B S)) < 8 := by
          have : ¬ g_n (b_G (z_B S)) = 8 := fun q => c2 (by rw [show g_n (z_G S) = 8 from q]; rfl)
          have : g_n (b_G (z_B S)) ≤ 8 := h8
          omega
        refine rk_m1 oX5_newly_33 ?_
        refine si_2 oX5_newly_34 rfl rfl ?_
        refine rk_0 oX5_newly_35 ?_
        refine si_3 oX5_newly_36 rfl rfl ?_
        refine rk_0 oX5_newly_37 ?_
        refine si_4 oX5_newly_38 rfl rfl ?_
        exact lp_X5_newly l W hM hI ⟨Int32.not_lt.mp c, c1⟩ h7 100 I 0 none _ rfl hM.1 (fun _ _ => rfl) (fun _ _ => rfl) (fun u e => by cases e) rfl
      · refine ra_0 oX5_newly_26 ?_
        refine rr_bipush (v := (-7)) oX5_newly_27 (by decide) ?_
        refine rr_cVi (c_X5_no l W (c := 7) (by decide) (by decide)) oX5_newly_29 (cv_X5_97 rfl) (by decide) kk_46 (by decide) hcn_5 (wd_lt W rfl) rfl rfl (Nat.le_of_ble_eq_true rfl) ?_
        exact rr_ireturn oX5_newly_32 rfl rfl (q_M_noc hM me_rf (show f_newly S h = f_no S (-7) from by rw [f_newly, if_neg (fun q => q ⟨Int32.not_lt.mp c, c1⟩), if_pos (by have := (nI_inj (show g_n (z_G S) < 2 ^ 31 by omega) (show 8 < 2 ^ 31 by omega)).mp c2; omega)]) (by decide) (by decide))
    · refine ra_0 oX5_newly_10 ?_
      refine rr_bipush (v := (-6)) oX5_newly_11 (by decide) ?_
      refine rr_cVi (c_X5_no l W (c := 6) (by decide) (by decide)) oX5_newly_13 (cv_X5_97 rfl) (by decide) kk_46 (by decide) hcn_5 (wd_lt W rfl) rfl rfl (Nat.le_of_ble_eq_true rfl) ?_
      exact rr_ireturn oX5_newly_16 rfl rfl (q_M_noc hM me_rf (show f_newly S h = f_no S (-6) from by rw [f_newly, if_pos (fun q => c1 q.2)]) (by decide) (by decide))
