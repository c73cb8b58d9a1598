/-! the model: told lists (by program: wip/whole/c52.py) -/
theorem mh_row {I : Nat → Nat → Int32} {L : Nat → Nat → Int64} {S : sg_T} {t : Nat} (h : mh_T I L S t) (h1 : 100 ≤ z_hd S t) : I 57 t = z_sz S t ∧ ∀ k, k < 160 → L 59 (160 * t + k) = z_el S t k := by
  have k8 : ∀ u, u < 8 → ¬ (100 : Int32) ≤ nI u := by decide +kernel
  rcases h with ⟨e1, e2⟩ | ⟨u, hu, e1, e2, e3⟩ | ⟨q, hq, e1, e2, e3, e4, e5⟩
  · rw [e1] at h1; exact absurd h1 (by decide)
  · rw [e1] at h1; exact absurd h1 (k8 u hu)
  · exact ⟨e4, e5⟩
theorem un_bc {G : gr_T} {dr : Nat → Bool} {sh : Nat → Nat → Bool} {e : Nat → Int64} {j : Nat} (h8 : g_n G ≤ 8) : ∃ c, c ≤ 8 ∧ bc_I (s_unl G dr sh e j) = nI c ∧ (c = 0 ↔ s_unl G dr sh e j = 0) := by
  unfold s_unl
  rw [mk_st _ h8, bc_st]
  refine ⟨_, cn_le _ 8, rfl, ?_⟩
  rw [st_e0]
  constructor
  · intro h i hi
    cases z : (decide (i < g_n G) && bt_B ((e j).toInt32 ^^^ st_S (p_se G dr sh j)) i) with
    | false => rfl
    | true =>
      have h : cn_N (fun i => decide (i < g_n G) && bt_B ((e j).toInt32 ^^^ st_S (p_se G dr sh j)) i) 8 = 0 := h
      rw [cn_sN] at h
      have := sN_pos (f := fun i => (decide (i < g_n G) && bt_B ((e j).toInt32 ^^^ st_S (p_se G dr sh j)) i).toNat) 8 i hi (by show 1 ≤ (decide (i < g_n G) && bt_B ((e j).toInt32 ^^^ st_S (p_se G dr sh j)) i).toNat; rw [z]; exact Nat.le_refl 1)
      omega
  · intro h
    show cn_N _ 8 = 0
    rw [cn_c (q := fun _ => false) 8 h]
    rfl
theorem off_0 {G : gr_T} {dr : Nat → Bool} {sh : Nat → Nat → Bool} {e : Nat → Int64} (h8 : g_n G ≤ 8) : sm_N (fun j => bc_I (s_unl G dr sh e j)) (g_n G) 0 0 = 0 ↔ fo_N (fun j => !(s_unl G dr sh e j == 0)) (g_n G) 0 = none := by
  have hc : ∀ j, ∃ c, c ≤ 8 ∧ bc_I (s_unl G dr sh e j) = nI c ∧ (c = 0 ↔ s_unl G dr sh e j = 0) := fun j => un_bc h8
  obtain ⟨g, hf⟩ : ∃ g : Nat → Nat, ∀ j, g j ≤ 8 ∧ bc_I (s_unl G dr sh e j) = nI (g j) ∧ (g j = 0 ↔ s_unl G dr sh e j = 0) := ⟨fun j => Classical.choose (hc j), fun j => Classical.choose_spec (hc j)⟩
  have e1 : (fun j => bc_I (s_unl G dr sh e j)) = fun j => nI (g j) := funext fun j => (hf j).2.1
  rw [e1, sm_s0]
  have hle : sN g (g_n G) ≤ sN (fun _ => 8) (g_n G) := sN_le _ (fun j _ => (hf j).1)
  have h64 : ∀ m, sN (fun _ => 8) m = 8 * m := by
    intro m
    induction m with
    | zero => rfl
    | succ m ih => simp only [sN]; rw [ih]; omega
  rw [h64] at hle
  have z0 : nI (sN g (g_n G)) = 0 ↔ sN g (g_n G) = 0 := nI_inj (b := 0) (by omega) (by omega)
  rw [z0]
  constructor
  · intro h
    cases z : fo_N (fun j => !(s_unl G dr sh e j == 0)) (g_n G) 0 with
    | none => rfl
    | some j =>
      have := fo_lt _ _ _ z
      have h1 : 1 ≤ g j := by
        have h2 : ¬ s_unl G dr sh e j = 0 := by simpa using this.2.2
        have := (hf j).2.2
        have : ¬ g j = 0 := fun q => h2 (this.mp q)
        omega
      have := sN_pos (f := g) (g_n G) j (by omega) h1
      omega
  · intro h
    have : sN g (g_n G) = sN (fun _ => 0) (g_n G) := sN_c _ (fun j hj => by
      refine (hf j).2.2.mpr ?_
      apply Classical.byContradiction
      intro q
      have fn : ∀ m t, fo_N (fun j => !(s_unl G dr sh e j == 0)) m t = none → ∀ i, t ≤ i → i < t + m → s_unl G dr sh e i = 0 := by
        intro m
        induction m with
        | zero => intro t _ i h1 h2; omega
        | succ m ih =>
          intro t hn i h1 h2
          unfold fo_N at hn
          split at hn
          · cases hn
          · next r =>
            by_cases e2 : i = t
            · subst e2; simpa using r
            · exact ih (t + 1) hn i (by omega) (by omega)
      exact q (fn _ _ h j (by omega) (by omega)))
    rw [this, sN_0]
theorem c_X5_intAt (l : Launch) {I : Nat → Nat → Int32} {L : Nat → Nat → Int64} {Rf : Nat → Nat → Option Nat} {n : Nat} (W : wd_T Rf n) {t i : Nat} (ht : t < 8) (hi : i < 160) : wm_C l mX5_intAt 1 0 0 [vv_A (some 46), vv_I (nI t), vv_I (nI i)] (I, L, Rf, n) (q_i ((L 59 (160 * t + i)).toInt32) (I, L, Rf, n)) := by
  refine wm_of (by decide) (Nat.le_of_ble_eq_true rfl) rfl ?_
  refine ra_0 oX5_intAt_0 ?_
  refine rr_gr (v := 59) oX5_intAt_1 (ff_X5_59 rfl) kk_46 (wd_lt W rfl) ⟨by decide, rfl⟩ (wd_r W rfl rfl) ?_
  refine rr_sipush (v := 160) oX5_intAt_4 (by decide) ?_
  refine ri_1 oX5_intAt_7 ?_
  refine rr_imul oX5_intAt_8 ?_
  refine ri_2 oX5_intAt_9 ?_
  refine rr_iadd oX5_intAt_10 ?_
  refine rr_lld (t := 160 * t + i) oX5_intAt_11 kk_59 (wd_lt W rfl) (cl_160 t ht i hi) (by omega) (by decide) ?_
  refine rr_l2i oX5_intAt_12 ?_
  exact rr_ireturn oX5_intAt_13 rfl rfl ⟨rfl, rfl⟩
theorem c_X5_manyU (l : Launch) {I : Nat → Nat → Int32} {L : Nat → Nat → Int64} {Rf : Nat → Nat → Option Nat} {n : Nat} {x : Int32} {m : Nat} (hm : m ≤ 8) : wm_C l mX5_many 1 0 0 [vv_A (some 46), vv_I (x &&& ((1 : Int32) <<< (nI m &&& 31) - 1))] (I, L, Rf, n) (q_i (bc_I (x &&& ((1 : Int32) <<< (nI m &&& 31) - 1))) (I, L, Rf, n)) := by
  rw [mk_st x hm, bc_st]
  exact c_X5_many l
theorem lp_X5_lists (l : Launch) {I : Nat → Nat → Int32} {L : Nat → Nat → Int64} {Rf : Nat → Nat → Option Nat} {n : Nat} {G : gr_T} {dr : Nat → Bool} {sh : Nat → Nat → Bool} (W : wd_T Rf n) {s : Nat} (hs : s < 8) {e : Nat → Int64} (he : ∀ k, k < 160 → L 59 (160 * s + k) = e k) {A O : Int32} {Q : Option vv_T → mx_T → Prop} (hP : ∀ J : Nat → Nat → Int32, mq_T J G dr sh → J 46 33 = A → J 46 34 = O → (∀ f, f ≠ 33 → f ≠ 34 → J 46 f = I 46 f) → (∀ a, a ≠ 46 → J a = I a) → Q none (J, L, Rf, n)) : ∀ m (J : Nat → Nat → Int32) t (w3 : vv_T), t + m = g_n G → mq_T J G dr sh → (∀ f, f ≠ 33 → f ≠ 34 → J 46 f = I 46 f) → (∀ a, a ≠ 46 → J a = I a) → (A = if J 46 33 = -1 then oI (fo_N (fun j => !(s_unl G dr sh e j == 0)) m t) else J 46 33) → O = sm_N (fun j => bc_I (s_unl G dr sh e j)) m t (J 46 34) → wm_W l mX5_lists 16 0 0 12 [vv_A (some 46), vv_I (nI s), vv_I (nI t), w3] [] (J, L, Rf, n) Q := by
  intro m
  induction m with
  | zero =>
    intro J t w3 ht hQ h3 h4 hA hO
    have hG := hQ.1
    have h8 := mv_8 hG
    refine ri_2 oX5_lists_12 ?_
    refine ra_0 oX5_lists_13 ?_
    refine rr_giv oX5_lists_14 (ff_X5_84 rfl) kk_46 (wd_lt W rfl) ⟨by decide, rfl⟩ (mv_c hG) ?_
    refine rr_icmp_ge (tgt := 91) oX5_lists_17 (by decide) (fun c => ?_) (fun c => ?_)
    rotate_left
    · exact absurd c (by rw [nI_le_iff (by omega) (by omega)]; omega)
    exact rr_return oX5_lists_91 rfl (hP J hQ (by rw [hA]; split; exact (by assumption); rfl) hO.symm h3 h4)
  | succ m ih =>
    intro J t w3 ht hQ h3 h4 hA hO
    have hG := hQ.1
    have h8 := mv_8 hG
    refine ri_2 oX5_lists_12 ?_
    refine ra_0 oX5_lists_13 ?_
    refine rr_giv oX5_lists_14 (ff_X5_84 rfl) kk_46 (wd_lt W rfl) ⟨by decide, rfl⟩ (mv_c hG) ?_
    refine rr_icmp_ge (tgt := 91) oX5_lists_17 (by decide) (fun c => ?_) (fun c => ?_)
    · (rw [nI_le_iff (by omega) (by omega)] at c; omega)
    have htn : t < g_n G := by omega
    refine ra_0 oX5_lists_20 ?_
    refine ra_0 oX5_lists_21 ?_
    refine ri_1 oX5_lists_22 ?_
    refine ri_2 oX5_lists_23 ?_
    refine rr_cVi (c_X5_intAt l W hs (by omega)) oX5_lists_24 (cv_X5_257 rfl) (by decide) kk_46 (by decide) hcn_5 (wd_lt W rfl) rfl rfl (Nat.le_of_ble_eq_true rfl) ?_
    rw [he t (by omega)]
    refine ra_0 oX5_lists_27 ?_
    refine ri_2 oX5_lists_28 ?_
    refine rr_cVi (c_X5_isHouse l W hQ htn) oX5_lists_29 (cv_X5_91 rfl) (by decide) kk_46 (by decide) hcn_5 (wd_lt W rfl) rfl rfl (Nat.le_of_ble_eq_true rfl) ?_
    refine rr_ifb_eq (tgt := 43) oX5_lists_32 (by decide) (fun c0 => ?_) (fun c0 => ?_)
    · refine rk_0 oX5_lists_43 ?_
      rw [show (0 : Int32) = st_S (p_se G dr sh t) from (st_e0.mpr (fun i _ => by
        cases z : p_se G dr sh t i with
        | false => rfl
        | true => exact absurd (se_in z).2.1.2 c0)).symm]
      refine rr_ixor oX5_lists_44 ?_
      refine rk_1 oX5_lists_45 ?_
      refine ra_0 oX5_lists_46 ?_
      refine rr_giv oX5_lists_47 (ff_X5_84 rfl) kk_46 (wd_lt W rfl) ⟨by decide, rfl⟩ (mv_c hG) ?_
      refine rr_ishl oX5_lists_50 ?_
      refine rk_1 oX5_lists_51 ?_
      refine rr_isub oX5_lists_52 ?_
      refine rr_iand oX5_lists_53 ?_
      refine rr_cVi (c_X5_manyU l h8) oX5_lists_54 (cv_X5_107 rfl) (by decide) kk_46 (by decide) hcn_5 (wd_lt W rfl) rfl rfl (Nat.le_of_ble_eq_true rfl) ?_
      refine si_3 oX5_lists_57 rfl rfl ?_
      refine ri_3 oX5_lists_58 ?_
      refine rr_if_le (tgt := 75) oX5_lists_59 (by decide) (fun c1 => ?_) (fun c1 => ?_)
      · refine ra_0 oX5_lists_75 ?_
        refine rr_dup oX5_lists_76 rfl ?_
        refine rr_giv oX5_lists_77 (ff_X5_254 rfl) kk_46 (wd_lt W rfl) ⟨by decide, rfl⟩ (show _ = J 46 34 from by first | rfl | exact up_I_at_ne (by omega)) ?_
        refine ri_3 oX5_lists_80 ?_
        refine rr_iadd oX5_lists_81 ?_
        refine rr_pi oX5_lists_82 (ff_X5_254 rfl) kk_46 (wd_lt W rfl) ⟨by decide, rfl, by decide⟩ pf_5_34 ⟨rfl, rfl⟩ ?_
        refine rn_2 oX5_lists_85 rfl rfl ?_
        refine rr_goto (tgt := 12) oX5_lists_88 (by decide) ?_
        obtain ⟨c_, hc8, ebc, ez⟩ := un_bc (G := G) (dr := dr) (sh := sh) (e := e) (j := t) h8
        have hz : s_unl G dr sh e t = 0 := by
          have c1 : bc_I (s_unl G dr sh e t) ≤ 0 := c1
          rw [ebc, show (0 : Int32) = nI 0 from rfl, nI_le_iff (by omega) (by omega)] at c1
          exact ez.mp (by omega)
        refine ih _ (t + 1) _ (by omega) (mq_ce hQ (fun f hf => up_I_at_ne (by omega)) (fun a q1 q2 => up_I_ne (by omega))) (fun f q1 q2 => by rw [up_I_at_ne q2]; exact h3 f q1 q2) (fun a q1 => by rw [up_I_ne q1]; exact h4 a q1) ?_ ?_
        · rw [hA, up_I_at_ne (by omega)]; simp only [fo_N]; rw [if_neg (c := (!(s_unl G dr sh e t == 0)) = true) (by rw [hz]; decide)]
        · rw [hO]; simp only [sm_N]; rw [up_I_at]; rfl
      · refine ra_0 oX5_lists_62 ?_
        refine rr_gi oX5_lists_63 (ff_X5_251 rfl) kk_46 (wd_lt W rfl) ⟨by decide, rfl⟩ ?_
        refine rk_m1 oX5_lists_66 ?_
        refine rr_icmp_ne (tgt := 75) oX5_lists_67 (by decide) (fun c2 => ?_) (fun c2 => ?_)
        · refine ra_0 oX5_lists_75 ?_
          refine rr_dup oX5_lists_76 rfl ?_
          refine rr_giv oX5_lists_77 (ff_X5_254 rfl) kk_46 (wd_lt W rfl) ⟨by decide, rfl⟩ (show _ = J 46 34 from by first | rfl | exact up_I_at_ne (by omega)) ?_
          refine ri_3 oX5_lists_80 ?_
          refine rr_iadd oX5_lists_81 ?_
          refine rr_pi oX5_lists_82 (ff_X5_254 rfl) kk_46 (wd_lt W rfl) ⟨by decide, rfl, by decide⟩ pf_5_34 ⟨rfl, rfl⟩ ?_
          refine rn_2 oX5_lists_85 rfl rfl ?_
          refine rr_goto (tgt := 12) oX5_lists_88 (by decide) ?_
          refine ih _ (t + 1) _ (by omega) (mq_ce hQ (fun f hf => up_I_at_ne (by omega)) (fun a q1 q2 => up_I_ne (by omega))) (fun f q1 q2 => by rw [up_I_at_ne q2]; exact h3 f q1 q2) (fun a q1 => by rw [up_I_ne q1]; exact h4 a q1) ?_ ?_
          · rw [hA, up_I_at_ne (by omega), if_neg c2, if_neg c2]
          · rw [hO]; simp only [sm_N]; rw [up_I_at]; rfl
        · refine ra_0 oX5_lists_70 ?_
          refine ri_2 oX5_lists_71 ?_
          refine rr_pi oX5_lists_72 (ff_X5_251 rfl) kk_46 (wd_lt W rfl) ⟨by decide, rfl, by decide⟩ pf_5_33 ⟨rfl, rfl⟩ ?_
          refine ra_0 oX5_lists_75 ?_
          refine rr_dup oX5_lists_76 rfl ?_
          refine rr_giv oX5_lists_77 (ff_X5_254 rfl) kk_46 (wd_lt W rfl) ⟨by decide, rfl⟩ (show _ = J 46 34 from by first | rfl | exact up_I_at_ne (by omega)) ?_
          refine ri_3 oX5_lists_80 ?_
          refine rr_iadd oX5_lists_81 ?_
          refine rr_pi oX5_lists_82 (ff_X5_254 rfl) kk_46 (wd_lt W rfl) ⟨by decide, rfl, by decide⟩ pf_5_34 ⟨rfl, rfl⟩ ?_
          refine rn_2 oX5_lists_85 rfl rfl ?_
          refine rr_goto (tgt := 12) oX5_lists_88 (by decide) ?_
          obtain ⟨c_, hc8, ebc, ez⟩ := un_bc (G := G) (dr := dr) (sh := sh) (e := e) (j := t) h8
          have hz : ¬ s_unl G dr sh e t = 0 := by
            have c1 : ¬ bc_I (s_unl G dr sh e t) ≤ 0 := c1
            rw [ebc, show (0 : Int32) = nI 0 from rfl, nI_le_iff (by omega) (by omega)] at c1
            exact fun q => by have := ez.mpr q; omega
          refine ih _ (t + 1) _ (by omega) (mq_ce hQ (fun f hf => by rw [up_I_at_ne (by omega), up_I_at_ne (by omega)]) (fun a q1 q2 => by rw [up_I_ne (by omega), up_I_ne (by omega)])) (fun f q1 q2 => by rw [up_I_at_ne q2, up_I_at_ne q1]; exact h3 f q1 q2) (fun a q1 => by rw [up_I_ne q1, up_I_ne q1]; exact h4 a q1) ?_ ?_
          · rw [hA, if_pos c2, up_I_at_ne (by omega), up_I_at, if_neg (nI_nm1 (by omega))]; simp only [fo_N]; rw [if_pos (c := (!(s_unl G dr sh e t == 0)) = true) (by simp [hz])]; rfl
          · rw [hO]; simp only [sm_N]; rw [up_I_at]; rfl
    · refine ra_0 oX5_lists_35 ?_
      refine ri_2 oX5_lists_36 ?_
      refine rr_cVi (c_X5_seesInto l W hQ htn c0) oX5_lists_37 (cv_X5_204 rfl) (by decide) kk_46 (by decide) hcn_5 (wd_lt W rfl) rfl rfl (Nat.le_of_ble_eq_true rfl) ?_
      refine rr_goto (tgt := 44) oX5_lists_40 (by decide) ?_
      refine rr_ixor oX5_lists_44 ?_
      refine rk_1 oX5_lists_45 ?_
      refine ra_0 oX5_lists_46 ?_
      refine rr_giv oX5_lists_47 (ff_X5_84 rfl) kk_46 (wd_lt W rfl) ⟨by decide, rfl⟩ (mv_c hG) ?_
      refine rr_ishl oX5_lists_50 ?_
      refine rk_1 oX5_lists_51 ?_
      refine rr_isub oX5_lists_52 ?_
      refine rr_iand oX5_lists_53 ?_
      refine rr_cVi (c_X5_manyU l h8) oX5_lists_54 (cv_X5_107 rfl) (by decide) kk_46 (by decide) hcn_5 (wd_lt W rfl) rfl rfl (Nat.le_of_ble_eq_true rfl) ?_
      refine si_3 oX5_lists_57 rfl rfl ?_
      refine ri_3 oX5_lists_58 ?_
      refine rr_if_le (tgt := 75) oX5_lists_59 (by decide) (fun c1 => ?_) (fun c1 => ?_)
      · refine ra_0 oX5_lists_75 ?_
        refine rr_dup oX5_lists_76 rfl ?_
        refine rr_giv oX5_lists_77 (ff_X5_254 rfl) kk_46 (wd_lt W rfl) ⟨by decide, rfl⟩ (show _ = J 46 34 from by first | rfl | exact up_I_at_ne (by omega)) ?_
        refine ri_3 oX5_lists_80 ?_
        refine rr_iadd oX5_lists_81 ?_
        refine rr_pi oX5_lists_82 (ff_X5_254 rfl) kk_46 (wd_lt W rfl) ⟨by decide, rfl, by decide⟩ pf_5_34 ⟨rfl, rfl⟩ ?_
        refine rn_2 oX5_lists_85 rfl rfl ?_
        refine rr_goto (tgt := 12) oX5_lists_88 (by decide) ?_
        obtain ⟨c_, hc8, ebc, ez⟩ := un_bc (G := G) (dr := dr) (sh := sh) (e := e) (j := t) h8
        have hz : s_unl G dr sh e t = 0 := by
          have c1 : bc_I (s_unl G dr sh e t) ≤ 0 := c1
          rw [ebc, show (0 : Int32) = nI 0 from rfl, nI_le_iff (by omega) (by omega)] at c1
          exact ez.mp (by omega)
        refine ih _ (t + 1) _ (by omega) (mq_ce hQ (fun f hf => up_I_at_ne (by omega)) (fun a q1 q2 => up_I_ne (by omega))) (fun f q1 q2 => by rw [up_I_at_ne q2]; exact h3 f q1 q2) (fun a q1 => by rw [up_I_ne q1]; exact h4 a q1) ?_ ?_
        · rw [hA, up_I_at_ne (by omega)]; simp only [fo_N]; rw [if_neg (c := (!(s_unl G dr sh e t == 0)) = true) (by rw [hz]; decide)]
        · rw [hO]; simp only [sm_N]; rw [up_I_at]; rfl
      · refine ra_0 oX5_lists_62 ?_
        refine rr_gi oX5_lists_63 (ff_X5_251 rfl) kk_46 (wd_lt W rfl) ⟨by decide, rfl⟩ ?_
        refine rk_m1 oX5_lists_66 ?_
        refine rr_icmp_ne (tgt := 75) oX5_lists_67 (by decide) (fun c2 => ?_) (fun c2 => ?_)
        · refine ra_0 oX5_lists_75 ?_
          refine rr_dup oX5_lists_76 rfl ?_
          refine rr_giv oX5_lists_77 (ff_X5_254 rfl) kk_46 (wd_lt W rfl) ⟨by decide, rfl⟩ (show _ = J 46 34 from by first | rfl | exact up_I_at_ne (by omega)) ?_
          refine ri_3 oX5_lists_80 ?_
          refine rr_iadd oX5_lists_81 ?_
          refine rr_pi oX5_lists_82 (ff_X5_254 rfl) kk_46 (wd_lt W rfl) ⟨by decide, rfl, by decide⟩ pf_5_34 ⟨rfl, rfl⟩ ?_
          refine rn_2 oX5_lists_85 rfl rfl ?_
          refine rr_goto (tgt := 12) oX5_lists_88 (by decide) ?_
          refine ih _ (t + 1) _ (by omega) (mq_ce hQ (fun f hf => up_I_at_ne (by omega)) (fun a q1 q2 => up_I_ne (by omega))) (fun f q1 q2 => by rw [up_I_at_ne q2]; exact h3 f q1 q2) (fun a q1 => by rw [up_I_ne q1]; exact h4 a q1) ?_ ?_
          · rw [hA, up_I_at_ne (by omega), if_neg c2, if_neg c2]
          · rw [hO]; simp only [sm_N]; rw [up_I_at]; rfl
        · refine ra_0 oX5_lists_70 ?_
          refine ri_2 oX5_lists_71 ?_
          refine rr_pi oX5_lists_72 (ff_X5_251 rfl) kk_46 (wd_lt W rfl) ⟨by decide, rfl, by decide⟩ pf_5_33 ⟨rfl, rfl⟩ ?_
          refine ra_0 oX5_lists_75 ?_
          refine rr_dup oX5_lists_76 rfl ?_
          refine rr_giv oX5_lists_77 (ff_X5_254 rfl) kk_46 (wd_lt W rfl) ⟨by decide, rfl⟩ (show _ = J 46 34 from by first | rfl | exact up_I_at_ne (by omega)) ?_
          refine ri_3 oX5_lists_80 ?_
          refine rr_iadd oX5_lists_81 ?_
          refine rr_pi oX5_lists_82 (ff_X5_254 rfl) kk_46 (wd_lt W rfl) ⟨by decide, rfl, by decide⟩ pf_5_34 ⟨rfl, rfl⟩ ?_
          refine rn_2 oX5_lists_85 rfl rfl ?_
          refine rr_goto (tgt := 12) oX5_lists_88 (by decide) ?_
          obtain ⟨c_, hc8, ebc, ez⟩ := un_bc (G := G) (dr := dr) (sh := sh) (e := e) (j := t) h8
          have hz : ¬ s_unl G dr sh e t = 0 := by
            have c1 : ¬ bc_I (s_unl G dr sh e t) ≤ 0 := c1
            rw [ebc, show (0 : Int32) = nI 0 from rfl, nI_le_iff (by omega) (by omega)] at c1
            exact fun q => by have := ez.mpr q; omega
          refine ih _ (t + 1) _ (by omega) (mq_ce hQ (fun f hf => by rw [up_I_at_ne (by omega), up_I_at_ne (by omega)]) (fun a q1 q2 => by rw [up_I_ne (by omega), up_I_ne (by omega)])) (fun f q1 q2 => by rw [up_I_at_ne q2, up_I_at_ne q1]; exact h3 f q1 q2) (fun a q1 => by rw [up_I_ne q1, up_I_ne q1]; exact h4 a q1) ?_ ?_
          · rw [hA, if_pos c2, up_I_at_ne (by omega), up_I_at, if_neg (nI_nm1 (by omega))]; simp only [fo_N]; rw [if_pos (c := (!(s_unl G dr sh e t == 0)) = true) (by simp [hz])]; rfl
          · rw [hO]; simp only [sm_N]; rw [up_I_at]; rfl
theorem c_X5_lists (l : Launch) {I : Nat → Nat → Int32} {L : Nat → Nat → Int64} {Rf : Nat → Nat → Option Nat} {n : Nat} {G : gr_T} {dr : Nat → Bool} {sh : Nat → Nat → Bool} (W : wd_T Rf n) {s : Nat} (hs : s < 8) {e : Nat → Int64} (he : ∀ k, k < 160 → L 59 (160 * s + k) = e k) (hQ : mq_T I G dr sh) : wm_C l mX5_lists 16 0 0 [vv_A (some 46), vv_I (nI s)] (I, L, Rf, n) (q_m (fun J => J 46 33 = oI (fo_N (fun j => !(s_unl G dr sh e j == 0)) (g_n G) 0) ∧ J 46 34 = sm_N (fun j => bc_I (s_unl G dr sh e j)) (g_n G) 0 0 ∧ (∀ f, f ≠ 33 → f ≠ 34 → J 46 f = I 46 f) ∧ ∀ a, a ≠ 46 → J a = I a) L Rf n) := by
  refine wm_of (by decide) (Nat.le_of_ble_eq_true rfl) rfl ?_
  refine ra_0 oX5_lists_0 ?_
  refine rk_m1 oX5_lists_1 ?_
  refine rr_pi oX5_lists_2 (ff_X5_251 rfl) kk_46 (wd_lt W rfl) ⟨by decide, rfl, by decide⟩ pf_5_33 ⟨rfl, rfl⟩ ?_
  refine ra_0 oX5_lists_5 ?_
  refine rk_0 oX5_lists_6 ?_
  refine rr_pi oX5_lists_7 (ff_X5_254 rfl) kk_46 (wd_lt W rfl) ⟨by decide, rfl, by decide⟩ pf_5_34 ⟨rfl, rfl⟩ ?_
  refine rk_0 oX5_lists_10 ?_
  refine si_2 oX5_lists_11 rfl rfl ?_
  refine lp_X5_lists l W hs he (I := I) (G := G) (dr := dr) (sh := sh) (fun J g0 g1 g2 g3 g4 => q_m_of ⟨g1, g2, g3, g4⟩) (g_n G) _ 0 _ (Nat.zero_add _) (mq_ce hQ (fun f hf => by rw [up_I_at_ne (by omega), up_I_at_ne (by omega)]) (fun a q1 q2 => by rw [up_I_ne (by omega), up_I_ne (by omega)])) (fun f q1 q2 => by rw [up_I_at_ne q2, up_I_at_ne q1]) (fun a q1 => by rw [up_I_ne q1, up_I_ne q1]) ?_ ?_
  · rw [up_I_at_ne (by omega), up_I_at, if_pos rfl]
  · rw [up_I_at]
