/-! the model: a ground read (by program: wip/whole/c59.py) -/
theorem MR_gd {I J : Nat → Nat → Int32} {L : Nat → Nat → Int64} {S : sg_T} {B : gb_T} {v : Int32} (h : MR_T I L S) (hB : mg_T J B) (h5 : J 46 5 = v) (h0 : ∀ f, (f = 36 ∨ f = 37) → J 46 f = I 46 f) (ha : ∀ a, (a = 47 ∨ (55 ≤ a ∧ a ≤ 58) ∨ a = 61 ∨ a = 64 ∨ a = 66) → J a = I a) : MR_T J L (w_B (w_fl S v) B) := by
  obtain ⟨h1, h2, h3, h4, _, h6, h7, h8, h9⟩ := h
  refine ⟨hB, by rw [h0 37 (by omega)]; exact h2, fun q => ?_, fun k hk => by rw [ha 47 (by omega)]; exact h4 k hk, h5, fun s hs => ?_, fun k hk => by rw [ha 66 (by omega)]; exact h7 k hk, by rw [h0 36 (by omega)]; exact h8, fun k hk => by rw [ha 61 (by omega)]; exact h9 k hk⟩
  · have := h3 q
    unfold ka_T
    rw [ha 64 (by omega)]
    exact this
  · have := h6 s hs
    unfold mh_T
    rw [ha 55 (by omega), ha 56 (by omega), ha 57 (by omega), ha 58 (by omega)]
    exact this
theorem FRI_tr {I J K : Nat → Nat → Int32} (h1 : FRI I J) (h2 : FRI J K) : FRI I K := ⟨fun f q0 q1 q2 q3 => (h2.1 f q0 q1 q2 q3).trans (h1.1 f q0 q1 q2 q3), fun a q => (h2.2 a q).trans (h1.2 a q)⟩
theorem FRI_rf {I : Nat → Nat → Int32} : FRI I I := ⟨fun _ _ _ _ _ => rfl, fun _ _ => rfl⟩
theorem FRI_46 {I : Nat → Nat → Int32} {f : Nat} {v : Int32} (h : f = 23 ∨ f = 26) : FRI I (up_I I 46 f v) := ⟨fun g _ q1 _ q3 => up_I_at_ne (by omega), fun a q => up_I_ne (by omega)⟩
theorem its_1 {z : Nat} {sg : Nat → Int32} {m it : Nat} {B : gb_T} {s : rs_T} (h1 : (m_ite sg B s).2.2.2 = none) (h2 : z ≤ (m_ite sg B s).2.1) : m_its z sg (m + 1) it B s = (some it, m_ite sg B s) := by
  unfold m_its
  rw [if_pos ⟨h1, h2⟩]
theorem its_2 {z : Nat} {sg : Nat → Int32} {m it : Nat} {B : gb_T} {s : rs_T} (h1 : (m_ite sg B s).2.2.2 = none) (h2 : ¬ z ≤ (m_ite sg B s).2.1) (h3 : sg (m_ite sg B s).2.1 = 59) : m_its z sg (m + 1) it B s = m_its z sg m (it + 1) (m_ite sg B s).1 ((m_ite sg B s).2.1 + 1, (m_ite sg B s).2.2.1, none) := by
  have e : m_sgn sg 59 (m_ite sg B s).2 = ((m_ite sg B s).2.1 + 1, (m_ite sg B s).2.2.1, none) := by
    unfold m_sgn
    rw [if_pos h3, h1]
  simp only [m_its]
  rw [if_neg (fun q => h2 q.2), e, if_pos rfl]
theorem its_3 {z : Nat} {sg : Nat → Int32} {m it : Nat} {B : gb_T} {s : rs_T} (h1 : (m_ite sg B s).2.2.2 = none) (h2 : ¬ z ≤ (m_ite sg B s).2.1) (h3 : ¬ sg (m_ite sg B s).2.1 = 59) : (m_its z sg (m + 1) it B s).2.2.2.2 = some (m_ite sg B s).2.1 := by
  have e : (m_sgn sg 59 (m_ite sg B s).2).2.2 = some (m_ite sg B s).2.1 := by
    unfold m_sgn
    rw [if_neg h3, h1]
    rfl
  unfold m_its
  rw [if_neg (fun q => h2 q.2), if_neg (by rw [e]; exact fun q => by cases q)]
  exact e
theorem its_4 {z : Nat} {sg : Nat → Int32} {m it : Nat} {B : gb_T} {s : rs_T} {y : Nat} (h1 : (m_ite sg B s).2.2.2 = some y) : (m_its z sg (m + 1) it B s).2.2.2.2 = some y := by
  have e : (m_sgn sg 59 (m_ite sg B s).2).2.2 = some y := sgn_k h1
  unfold m_its
  rw [if_neg (fun q => by rw [h1] at q; cases q.1), if_neg (by rw [e]; exact fun q => by cases q)]
  exact e
theorem lg_X5_ground (l : Launch) {I : Nat → Nat → Int32} {L : Nat → Nat → Int64} {Rf : Nat → Nat → Option Nat} {n : Nat} {s z : Nat} (W : wd_T Rf n) (hs : s < 8) (hz : z ≤ 160) (hR : I 46 22 = nI (160 * s) ∧ I 46 24 = nI z) (hw61 : ∀ k, k < 32 → I 61 k = wd_W k) {B0 : gb_T} {x1 : vv_T} {x2 : Int32} {Q : Option vv_T → mx_T → Prop} (hS : ∀ (J : Nat → Nat → Int32) it, FRI I J → (m_its z (sg_M L s z) 160 1 B0 (0, 0, none)).2.2.2.2 = none → (m_its z (sg_M L s z) 160 1 B0 (0, 0, none)).1 = some it → mg_T J (m_its z (sg_M L s z) 160 1 B0 (0, 0, none)).2.1 → gI_T (m_its z (sg_M L s z) 160 1 B0 (0, 0, none)).2.1 → Q (some (vv_I (nI it))) (J, L, Rf, n)) (hF : ∀ (J : Nat → Nat → Int32) y it, FRI I J → (m_its z (sg_M L s z) 160 1 B0 (0, 0, none)).2.2.2.2 = some y → J 46 26 = nI y → wm_W l mX5_ground 5 0 0 140 [vv_A (some 46), x1, vv_I x2, vv_I (nI it), vv_I 0] [] (J, L, Rf, n) Q) : ∀ m it (B : gb_T) (p fd : Nat) (K J : Nat → Nat → Int32) (v : Int32), z + 1 ≤ p + 2 * (m + 1) → FRI I K → IT (sg_M L s z) z B p fd K v J → m_its z (sg_M L s z) 160 1 B0 (0, 0, none) = m_its z (sg_M L s z) (m + 1) it B (p, fd, none) → wm_W l mX5_ground 5 0 0 62 [vv_A (some 46), x1, vv_I x2, vv_I (nI it), vv_I v] [] (J, L, Rf, n) Q := by
  intro m
  induction m with
  | zero =>
    intro it B p fd K J v hzp hIK hit hrt
    rcases hit with ⟨hfr, ⟨rfl, hok, hpl, hpz, hBn, hgn⟩ | ⟨rfl, y, hy, h26⟩⟩
    · refine ri_4 oX5_ground_62 ?_
      refine rr_if_eq (tgt := 133) oX5_ground_64 (by decide) (fun q => absurd q (by decide)) (fun _ => ?_)
      have hIJ := FRI_tr hIK hfr
      refine ra_0 oX5_ground_67 ?_
      refine rr_giv oX5_ground_68 (ff_X5_133 rfl) kk_46 (wd_lt W rfl) ⟨by decide, rfl⟩ hpl ?_
      refine ra_0 oX5_ground_71 ?_
      refine rr_giv oX5_ground_72 (ff_X5_136 rfl) kk_46 (wd_lt W rfl) ⟨by decide, rfl⟩ (show _ = nI z from (hIJ.1 24 (by omega) (by omega) (by omega) (by omega)).trans hR.2) ?_
      refine rr_icmp_ge (tgt := 133) oX5_ground_75 (by decide) (fun c => ?_) (fun c => ?_)
      · rw [nI_le_iff (by omega) (by omega)] at c
        refine ri_4 oX5_ground_133 ?_
        refine rr_if_eq (tgt := 140) oX5_ground_135 (by decide) (fun q => absurd q (by decide)) (fun _ => ?_)
        refine ri_3 oX5_ground_138 ?_
        exact rr_ireturn oX5_ground_139 rfl rfl (hS J it hIJ (by rw [hrt, its_1 hok c]; exact hok) (by rw [hrt, its_1 hok c]) (by rw [hrt, its_1 hok c]; exact hBn) (by rw [hrt, its_1 hok c]; exact hgn))
      · rw [nI_le_iff (by omega) (by omega)] at c
        obtain ⟨q, hq⟩ : ∃ q, q = (m_ite (sg_M L s z) B (p, fd, none)).2.1 := ⟨_, rfl⟩
        rw [← hq] at c hpl hpz
        have e := sg_at (L := L) (s := s) (show q < z by omega)
        refine ra_0 oX5_ground_78 ?_
        refine rr_gr (v := 59) oX5_ground_79 (ff_X5_59 rfl) kk_46 (wd_lt W rfl) ⟨by decide, rfl⟩ (wd_r W rfl rfl) ?_
        refine ra_0 oX5_ground_82 ?_
        refine rr_giv oX5_ground_83 (ff_X5_139 rfl) kk_46 (wd_lt W rfl) ⟨by decide, rfl⟩ (show _ = nI (160 * s) from (hIJ.1 22 (by omega) (by omega) (by omega) (by omega)).trans hR.1) ?_
        refine ra_0 oX5_ground_86 ?_
        refine rr_giv oX5_ground_87 (ff_X5_133 rfl) kk_46 (wd_lt W rfl) ⟨by decide, rfl⟩ hpl ?_
        refine rr_iadd oX5_ground_90 ?_
        refine rr_lld (t := 160 * s + q) oX5_ground_91 kk_59 (wd_lt W rfl) (nI_add _ _) (by omega) (by decide) ?_
        refine rr_l2i oX5_ground_92 ?_
        refine rr_bipush (v := 59) oX5_ground_93 (by decide) ?_
        refine rr_icmp_eq (tgt := 111) oX5_ground_95 (by decide) (fun c2 => ?_) (fun c2 => ?_)
        · refine ra_0 oX5_ground_111 ?_
          refine rr_dup oX5_ground_112 rfl ?_
          refine rr_giv oX5_ground_113 (ff_X5_133 rfl) kk_46 (wd_lt W rfl) ⟨by decide, rfl⟩ hpl ?_
          refine rk_1 oX5_ground_116 ?_
          refine rr_iadd oX5_ground_117 ?_
          rw [nI_1]
          refine rr_pi oX5_ground_118 (ff_X5_133 rfl) kk_46 (wd_lt W rfl) ⟨by decide, rfl, by decide⟩ pf_5_23 ⟨rfl, rfl⟩ ?_
          refine rn_3 oX5_ground_121 rfl rfl ?_
          refine ra_0 oX5_ground_124 ?_
          have hIK2 : FRI I (up_I J 46 23 (nI (q + 1))) := FRI_tr hIJ (FRI_46 (Or.inl rfl))
          have hR2 : rp_M (up_I J 46 23 (nI (q + 1))) s z (q + 1) := ⟨(hIK2.1 22 (by omega) (by omega) (by omega) (by omega)).trans hR.1, (hIK2.1 24 (by omega) (by omega) (by omega) (by omega)).trans hR.2, up_I_at⟩
          have hBK2 : mg_T (up_I J 46 23 (nI (q + 1))) (m_ite (sg_M L s z) B (p, fd, none)).1 := mg_ce hBn (fun f hf => up_I_at_ne (by omega)) (fun a q1 q2 => up_I_ne (by omega))
          refine rr_cVn (c_X5_item (fd := (m_ite (sg_M L s z) B (p, fd, none)).2.2.1) l W hs hz (show q + 1 ≤ z by omega) hR2 (fun k hk => by rw [hIK2.2 61 (by omega)]; exact hw61 k hk) hBK2 hgn) oX5_ground_125 (cv_X5_183 rfl) (by decide) kk_46 (by decide) hcn_5 (wd_lt W rfl) rfl rfl (Nat.le_of_ble_eq_true rfl) (fun v2 J2 hit2 => ?_)
          refine si_4 oX5_ground_128 rfl rfl ?_
          refine rr_goto (tgt := 62) oX5_ground_130 (by decide) ?_
          exfalso
          omega
        · refine ra_0 oX5_ground_98 ?_
          refine ra_0 oX5_ground_99 ?_
          refine rr_giv oX5_ground_100 (ff_X5_133 rfl) kk_46 (wd_lt W rfl) ⟨by decide, rfl⟩ hpl ?_
          refine rr_cVi (c_X5_wrong l W) oX5_ground_103 (cv_X5_149 rfl) (by decide) kk_46 (by decide) hcn_5 (wd_lt W rfl) rfl rfl (Nat.le_of_ble_eq_true rfl) ?_
          refine si_4 oX5_ground_106 rfl rfl ?_
          refine rr_goto (tgt := 62) oX5_ground_108 (by decide) ?_
          refine ri_4 oX5_ground_62 ?_
          refine rr_if_eq (tgt := 133) oX5_ground_64 (by decide) (fun _ => ?_) (fun q => absurd q (by decide))
          refine ri_4 oX5_ground_133 ?_
          refine rr_if_eq (tgt := 140) oX5_ground_135 (by decide) (fun _ => ?_) (fun q => absurd q (by decide))
          exact hF _ q it (FRI_tr hIJ (FRI_46 (Or.inr rfl))) (by rw [hrt, its_3 hok (by rw [← hq]; exact c) (by rw [← hq, e]; exact c2), hq]) up_I_at
    · refine ri_4 oX5_ground_62 ?_
      refine rr_if_eq (tgt := 133) oX5_ground_64 (by decide) (fun _ => ?_) (fun q => absurd q (by decide))
      refine ri_4 oX5_ground_133 ?_
      refine rr_if_eq (tgt := 140) oX5_ground_135 (by decide) (fun _ => ?_) (fun q => absurd q (by decide))
      exact hF J y it (FRI_tr hIK hfr) (by rw [hrt]; exact its_4 hy) h26
  | succ m ih =>
    intro it B p fd K J v hzp hIK hit hrt
    rcases hit with ⟨hfr, ⟨rfl, hok, hpl, hpz, hBn, hgn⟩ | ⟨rfl, y, hy, h26⟩⟩
    · refine ri_4 oX5_ground_62 ?_
      refine rr_if_eq (tgt := 133) oX5_ground_64 (by decide) (fun q => absurd q (by decide)) (fun _ => ?_)
      have hIJ := FRI_tr hIK hfr
      refine ra_0 oX5_ground_67 ?_
      refine rr_giv oX5_ground_68 (ff_X5_133 rfl) kk_46 (wd_lt W rfl) ⟨by decide, rfl⟩ hpl ?_
      refine ra_0 oX5_ground_71 ?_
      refine rr_giv oX5_ground_72 (ff_X5_136 rfl) kk_46 (wd_lt W rfl) ⟨by decide, rfl⟩ (show _ = nI z from (hIJ.1 24 (by omega) (by omega) (by omega) (by omega)).trans hR.2) ?_
      refine rr_icmp_ge (tgt := 133) oX5_ground_75 (by decide) (fun c => ?_) (fun c => ?_)
      · rw [nI_le_iff (by omega) (by omega)] at c
        refine ri_4 oX5_ground_133 ?_
        refine rr_if_eq (tgt := 140) oX5_ground_135 (by decide) (fun q => absurd q (by decide)) (fun _ => ?_)
        refine ri_3 oX5_ground_138 ?_
        exact rr_ireturn oX5_ground_139 rfl rfl (hS J it hIJ (by rw [hrt, its_1 hok c]; exact hok) (by rw [hrt, its_1 hok c]) (by rw [hrt, its_1 hok c]; exact hBn) (by rw [hrt, its_1 hok c]; exact hgn))
      · rw [nI_le_iff (by omega) (by omega)] at c
        obtain ⟨q, hq⟩ : ∃ q, q = (m_ite (sg_M L s z) B (p, fd, none)).2.1 := ⟨_, rfl⟩
        rw [← hq] at c hpl hpz
        have e := sg_at (L := L) (s := s) (show q < z by omega)
        refine ra_0 oX5_ground_78 ?_
        refine rr_gr (v := 59) oX5_ground_79 (ff_X5_59 rfl) kk_46 (wd_lt W rfl) ⟨by decide, rfl⟩ (wd_r W rfl rfl) ?_
        refine ra_0 oX5_ground_82 ?_
        refine rr_giv oX5_ground_83 (ff_X5_139 rfl) kk_46 (wd_lt W rfl) ⟨by decide, rfl⟩ (show _ = nI (160 * s) from (hIJ.1 22 (by omega) (by omega) (by omega) (by omega)).trans hR.1) ?_
        refine ra_0 oX5_ground_86 ?_
        refine rr_giv oX5_ground_87 (ff_X5_133 rfl) kk_46 (wd_lt W rfl) ⟨by decide, rfl⟩ hpl ?_
        refine rr_iadd oX5_ground_90 ?_
        refine rr_lld (t := 160 * s + q) oX5_ground_91 kk_59 (wd_lt W rfl) (nI_add _ _) (by omega) (by decide) ?_
        refine rr_l2i oX5_ground_92 ?_
        refine rr_bipush (v := 59) oX5_ground_93 (by decide) ?_
        refine rr_icmp_eq (tgt := 111) oX5_ground_95 (by decide) (fun c2 => ?_) (fun c2 => ?_)
        · refine ra_0 oX5_ground_111 ?_
          refine rr_dup oX5_ground_112 rfl ?_
          refine rr_giv oX5_ground_113 (ff_X5_133 rfl) kk_46 (wd_lt W rfl) ⟨by decide, rfl⟩ hpl ?_
          refine rk_1 oX5_ground_116 ?_
          refine rr_iadd oX5_ground_117 ?_
          rw [nI_1]
          refine rr_pi oX5_ground_118 (ff_X5_133 rfl) kk_46 (wd_lt W rfl) ⟨by decide, rfl, by decide⟩ pf_5_23 ⟨rfl, rfl⟩ ?_
          refine rn_3 oX5_ground_121 rfl rfl ?_
          refine ra_0 oX5_ground_124 ?_
          have hIK2 : FRI I (up_I J 46 23 (nI (q + 1))) := FRI_tr hIJ (FRI_46 (Or.inl rfl))
          have hR2 : rp_M (up_I J 46 23 (nI (q + 1))) s z (q + 1) := ⟨(hIK2.1 22 (by omega) (by omega) (by omega) (by omega)).trans hR.1, (hIK2.1 24 (by omega) (by omega) (by omega) (by omega)).trans hR.2, up_I_at⟩
          have hBK2 : mg_T (up_I J 46 23 (nI (q + 1))) (m_ite (sg_M L s z) B (p, fd, none)).1 := mg_ce hBn (fun f hf => up_I_at_ne (by omega)) (fun a q1 q2 => up_I_ne (by omega))
          refine rr_cVn (c_X5_item (fd := (m_ite (sg_M L s z) B (p, fd, none)).2.2.1) l W hs hz (show q + 1 ≤ z by omega) hR2 (fun k hk => by rw [hIK2.2 61 (by omega)]; exact hw61 k hk) hBK2 hgn) oX5_ground_125 (cv_X5_183 rfl) (by decide) kk_46 (by decide) hcn_5 (wd_lt W rfl) rfl rfl (Nat.le_of_ble_eq_true rfl) (fun v2 J2 hit2 => ?_)
          refine si_4 oX5_ground_128 rfl rfl ?_
          refine rr_goto (tgt := 62) oX5_ground_130 (by decide) ?_
          exact ih (it + 1) _ (q + 1) _ _ J2 v2 (by omega) hIK2 hit2 (by rw [hrt, its_2 hok (by rw [← hq]; exact c) (by rw [← hq, e]; exact c2), ← hq])
        · refine ra_0 oX5_ground_98 ?_
          refine ra_0 oX5_ground_99 ?_
          refine rr_giv oX5_ground_100 (ff_X5_133 rfl) kk_46 (wd_lt W rfl) ⟨by decide, rfl⟩ hpl ?_
          refine rr_cVi (c_X5_wrong l W) oX5_ground_103 (cv_X5_149 rfl) (by decide) kk_46 (by decide) hcn_5 (wd_lt W rfl) rfl rfl (Nat.le_of_ble_eq_true rfl) ?_
          refine si_4 oX5_ground_106 rfl rfl ?_
          refine rr_goto (tgt := 62) oX5_ground_108 (by decide) ?_
          refine ri_4 oX5_ground_62 ?_
          refine rr_if_eq (tgt := 133) oX5_ground_64 (by decide) (fun _ => ?_) (fun q => absurd q (by decide))
          refine ri_4 oX5_ground_133 ?_
          refine rr_if_eq (tgt := 140) oX5_ground_135 (by decide) (fun _ => ?_) (fun q => absurd q (by decide))
          exact hF _ q it (FRI_tr hIJ (FRI_46 (Or.inr rfl))) (by rw [hrt, its_3 hok (by rw [← hq]; exact c) (by rw [← hq, e]; exact c2), hq]) up_I_at
    · refine ri_4 oX5_ground_62 ?_
      refine rr_if_eq (tgt := 133) oX5_ground_64 (by decide) (fun _ => ?_) (fun q => absurd q (by decide))
      refine ri_4 oX5_ground_133 ?_
      refine rr_if_eq (tgt := 140) oX5_ground_135 (by decide) (fun _ => ?_) (fun q => absurd q (by decide))
      exact hF J y it (FRI_tr hIK hfr) (by rw [hrt]; exact its_4 hy) h26
theorem lz_X5_ground (l : Launch) {I : Nat → Nat → Int32} {L : Nat → Nat → Int64} {Rf : Nat → Nat → Option Nat} {n : Nat} {S : sg_T} (W : wd_T Rf n) (hM : MR_T I L S) (hI : IV_T S) {s : Int32} {K J : Nat → Nat → Int32} {y it : Nat} {x1 : vv_T} {x2 : Int32} (k63 : ka_T K 63 (z_B S)) (fK : ∀ f, f ≠ 22 → f ≠ 23 → f ≠ 24 → f ≠ 5 → K 46 f = I 46 f) (gK : ∀ a, a ≠ 46 → a ≠ 63 → K a = I a) (hfr : FRI K J) (h26 : J 46 26 = nI y) (ef : f_ground S s = f_no (w_fl S (nI y)) (-6)) : wm_W l mX5_ground 5 0 0 140 [vv_A (some 46), x1, vv_I x2, vv_I (nI it), vv_I 0] [] (J, L, Rf, n) (fun r Y => q_M (f_ground S s).1 (f_ground S s).2 I L Rf n r Y ∧ gI_T (z_B (f_ground S s).2)) := by
  have kJ : ka_T J 63 (z_B S) := by unfold ka_T; rw [hfr.2 63 (by omega)]; exact k63
  refine ra_0 oX5_ground_140 ?_
  refine ra_0 oX5_ground_141 ?_
  refine rr_gr (v := 63) oX5_ground_142 (ff_X5_72 rfl) kk_46 (wd_lt W rfl) ⟨by decide, rfl⟩ (wd_r W rfl rfl) ?_
  refine rk_1 oX5_ground_145 ?_
  refine rr_cVm (c_X5_allB l W kk_63 (wd_lt W rfl) (by omega) kJ) oX5_ground_146 (cv_X5_179 rfl) (by decide) kk_46 (by decide) hcn_5 (wd_lt W rfl) rfl rfl (Nat.le_of_ble_eq_true rfl) (fun M hJM => ?_)
  obtain ⟨hB, hfM, h46M⟩ := hJM
  refine ra_0 oX5_ground_149 ?_
  refine ra_0 oX5_ground_150 ?_
  refine rr_giv oX5_ground_151 (ff_X5_130 rfl) kk_46 (wd_lt W rfl) ⟨by decide, rfl⟩ (show _ = nI y from (h46M 26 (by omega)).trans h26) ?_
  refine rr_pi oX5_ground_154 (ff_X5_19 rfl) kk_46 (wd_lt W rfl) ⟨by decide, rfl, by decide⟩ pf_5_5 ⟨rfl, rfl⟩ ?_
  have hMM : MR_T (up_I M 46 5 (nI y)) L (w_fl S (nI y)) := MR_gd (B := z_B S) hM (mg_ce hB (fun f hf => up_I_at_ne (by omega)) (fun a q1 q2 => up_I_ne (by omega)) ) up_I_at (fun f hf => by rw [up_I_at_ne (by omega), h46M f (by omega), hfr.1 f (by omega) (by omega) (by omega) (by omega)]; exact fK f (by omega) (by omega) (by omega) (by omega)) (fun a ha => by rw [up_I_ne (by omega), hfM a (by omega), hfr.2 a (by omega)]; exact gK a (by omega) (by omega))
  refine ra_0 oX5_ground_157 ?_
  refine rr_bipush (v := (-6)) oX5_ground_158 (by decide) ?_
  refine rr_cVi (c_X5_no l W (c := 6) (by decide) (by decide)) oX5_ground_160 (cv_X5_97 rfl) (by decide) kk_46 (by decide) hcn_5 (wd_lt W rfl) rfl rfl (Nat.le_of_ble_eq_true rfl) ?_
  exact rr_ireturn oX5_ground_163 rfl rfl (by
      refine ⟨?_, by rw [ef]; exact hI.1⟩
      rw [ef]
      exact q_M_of rfl (MR_no hMM (c := 6) (by decide)) (fun a ha => ⟨by rw [show mf_I (up_I M 46 5 (nI y)) 6 a = up_I M 46 5 (nI y) a from up_I_ne (by omega), up_I_ne (by omega), hfM a (by omega), hfr.2 a (by omega)]; exact gK a (by omega) (by omega), rfl⟩))
theorem c_X5_ground (l : Launch) {I : Nat → Nat → Int32} {L : Nat → Nat → Int64} {Rf : Nat → Nat → Option Nat} {n : Nat} {S : sg_T} (W : wd_T Rf n) (hM : MR_T I L S) (hI : IV_T S) {s : Int32} : wm_C l mX5_ground 5 0 0 [vv_A (some 46), vv_I s] (I, L, Rf, n) (fun r Y => q_M (f_ground S s).1 (f_ground S s).2 I L Rf n r Y ∧ gI_T (z_B (f_ground S s).2)) := by
  refine wm_of (by decide) (Nat.le_of_ble_eq_true rfl) rfl ?_
  refine ra_0 oX5_ground_0 ?_
  refine ri_1 oX5_ground_1 ?_
  refine rr_cVi (c_X5_wants l W hM hI) oX5_ground_2 (cv_X5_176 rfl) (by decide) kk_46 (by decide) hcn_5 (wd_lt W rfl) rfl rfl (Nat.le_of_ble_eq_true rfl) ?_
  refine si_2 oX5_ground_5 rfl rfl ?_
  refine ri_2 oX5_ground_6 ?_
  refine rr_if_eq (tgt := 16) oX5_ground_7 (by decide) (fun c => ?_) (fun c => ?_)
  · obtain ⟨t, ht, rfl, c3, c4⟩ := s_lr_0 c
    obtain ⟨o, ho, ho2, z, hz, hk2⟩ := IV_row hI ht c3
    have ex : ix_N (nI t) = t := nI_clamp (by omega)
    obtain ⟨esz, hel⟩ := mh_row (hM.2.2.2.2.2.1 t ht) c3
    have hcl : (nI z).toNatClampNeg = z := nI_clamp (by omega)
    have esg : s_sg z (z_el S t) = sg_M L t z := sg_c (fun p hp => (hel p (by omega)).symm)
    obtain ⟨R, hR0⟩ : ∃ R, R = m_its z (sg_M L t z) 160 1 (z_B S) (0, 0, none) := ⟨_, rfl⟩
    have ef : f_ground S (nI t) = match R.2.2.2.2 with | none => (oI R.1, w_B (w_fl S (-1)) R.2.1) | some y => f_no (w_fl S (nI y)) (-6) := by rw [f_ground, if_neg (fun q => q c), ex, hk2, hcl, esg, hR0]; rfl
    refine ra_0 oX5_ground_16 ?_
    refine ra_0 oX5_ground_17 ?_
    refine rr_gr (v := 63) oX5_ground_18 (ff_X5_72 rfl) kk_46 (wd_lt W rfl) ⟨by decide, rfl⟩ (wd_r W rfl rfl) ?_
    refine rk_0 oX5_ground_21 ?_
    refine rr_cVm (c_X5_allF l W kk_63 (wd_lt W rfl) (by omega) hM.1) oX5_ground_22 (cv_X5_179 rfl) (by decide) kk_46 (by decide) hcn_5 (wd_lt W rfl) rfl rfl (Nat.le_of_ble_eq_true rfl) (fun J1 hJ1 => ?_)
    obtain ⟨hk63, hf63⟩ := hJ1
    refine ra_0 oX5_ground_25 ?_
    refine rr_sipush (v := 160) oX5_ground_26 (by decide) ?_
    refine ri_1 oX5_ground_29 ?_
    refine rr_imul oX5_ground_30 ?_
    refine rr_pi oX5_ground_31 (ff_X5_139 rfl) kk_46 (wd_lt W rfl) ⟨by decide, rfl, by decide⟩ pf_5_22 ⟨rfl, rfl⟩ ?_
    refine ra_0 oX5_ground_34 ?_
    refine rk_0 oX5_ground_35 ?_
    refine rr_pi oX5_ground_36 (ff_X5_133 rfl) kk_46 (wd_lt W rfl) ⟨by decide, rfl, by decide⟩ pf_5_23 ⟨rfl, rfl⟩ ?_
    refine ra_0 oX5_ground_39 ?_
    refine ra_0 oX5_ground_40 ?_
    refine rr_gr (v := 57) oX5_ground_41 (ff_X5_53 rfl) kk_46 (wd_lt W rfl) ⟨by decide, rfl⟩ (wd_r W rfl rfl) ?_
    refine ri_1 oX5_ground_44 ?_
    refine rr_iv oX5_ground_45 kk_57 (wd_lt W rfl) rfl (by omega) (by decide) (show _ = z_sz S t from by rw [up_I_ne (by omega), up_I_ne (by omega), hf63 57 (by omega)]; exact esz) ?_
    refine rr_pi oX5_ground_46 (ff_X5_136 rfl) kk_46 (wd_lt W rfl) ⟨by decide, rfl, by decide⟩ pf_5_24 ⟨rfl, rfl⟩ ?_
    refine ra_0 oX5_ground_49 ?_
    refine rk_m1 oX5_ground_50 ?_
    refine rr_pi oX5_ground_51 (ff_X5_19 rfl) kk_46 (wd_lt W rfl) ⟨by decide, rfl, by decide⟩ pf_5_5 ⟨rfl, rfl⟩ ?_
    refine rk_1 oX5_ground_54 ?_
    refine si_3 oX5_ground_55 rfl rfl ?_
    have fK : ∀ f, f ≠ 22 → f ≠ 23 → f ≠ 24 → f ≠ 5 → (up_I (up_I (up_I (up_I J1 46 22 (160 * nI t)) 46 23 0) 46 24 (z_sz S t)) 46 5 (-1)) 46 f = I 46 f := fun f q1 q2 q3 q4 => by rw [up_I_at_ne q4, up_I_at_ne q3, up_I_at_ne q2, up_I_at_ne q1, hf63 46 (by omega)]
    have gK : ∀ a, a ≠ 46 → a ≠ 63 → (up_I (up_I (up_I (up_I J1 46 22 (160 * nI t)) 46 23 0) 46 24 (z_sz S t)) 46 5 (-1)) a = I a := fun a q1 q2 => by rw [up_I_ne q1, up_I_ne q1, up_I_ne q1, up_I_ne q1, hf63 a q2]
    have k22 : (up_I (up_I (up_I (up_I J1 46 22 (160 * nI t)) 46 23 0) 46 24 (z_sz S t)) 46 5 (-1)) 46 22 = nI (160 * t) := by rw [up_I_at_ne (by omega), up_I_at_ne (by omega), up_I_at_ne (by omega), up_I_at]; have := cl_160 t ht 0 (by omega); rw [show nI 0 = 0 from rfl, Int32.add_zero] at this; exact this
    have k24 : (up_I (up_I (up_I (up_I J1 46 22 (160 * nI t)) 46 23 0) 46 24 (z_sz S t)) 46 5 (-1)) 46 24 = nI z := by rw [up_I_at_ne (by omega), up_I_at, hk2]
    have k23 : (up_I (up_I (up_I (up_I J1 46 22 (160 * nI t)) 46 23 0) 46 24 (z_sz S t)) 46 5 (-1)) 46 23 = nI 0 := by rw [up_I_at_ne (by omega), up_I_at_ne (by omega), up_I_at]; rfl
    have k5 : (up_I (up_I (up_I (up_I J1 46 22 (160 * nI t)) 46 23 0) 46 24 (z_sz S t)) 46 5 (-1)) 46 5 = -1 := up_I_at
    have k63 : ka_T (up_I (up_I (up_I (up_I J1 46 22 (160 * nI t)) 46 23 0) 46 24 (z_sz S t)) 46 5 (-1)) 63 (z_B S) := by unfold ka_T; rw [up_I_ne (by omega), up_I_ne (by omega), up_I_ne (by omega), up_I_ne (by omega)]; exact hk63
    generalize (up_I (up_I (up_I (up_I J1 46 22 (160 * nI t)) 46 23 0) 46 24 (z_sz S t)) 46 5 (-1)) = K at fK gK k22 k23 k24 k5 k63 ⊢
    have hBK : mg_T K (z_B S) := mg_ce hM.1 (fun f hf => fK f (by omega) (by omega) (by omega) (by omega)) (fun a q1 q2 => gK a (by omega) (by omega))
    have hw61 : ∀ k, k < 32 → K 61 k = wd_W k := fun k hk => by rw [gK 61 (by omega) (by omega)]; exact hM.2.2.2.2.2.2.2.2 k hk
    refine ra_0 oX5_ground_56 ?_
    refine rr_cVn (c_X5_item (fd := 0) (p := 0) l W ht hz (Nat.zero_le _) ⟨k22, k24, k23⟩ hw61 hBK hI.1) oX5_ground_57 (cv_X5_183 rfl) (by decide) kk_46 (by decide) hcn_5 (wd_lt W rfl) rfl rfl (Nat.le_of_ble_eq_true rfl) (fun v J2 hit => ?_)
    refine si_4 oX5_ground_60 rfl rfl ?_
    refine lg_X5_ground l W ht hz ⟨k22, k24⟩ hw61 (I := K) (B0 := z_B S) (fun J it hfr h1 h2 hB hg => ?_) (fun J y it hfr h1 h26 => ?_) 159 1 (z_B S) 0 0 K J2 v (by omega) FRI_rf hit rfl
    · rw [← hR0] at h1 h2 hB hg
      have ef2 : f_ground S (nI t) = (oI R.1, w_B (w_fl S (-1)) R.2.1) := by rw [ef, h1]
      refine ⟨q_M_ok ef2 (by rw [h2]; rfl) (MR_gd hM hB ((hfr.1 5 (by omega) (by omega) (by omega) (by omega)).trans k5) (fun f hf => (hfr.1 f (by omega) (by omega) (by omega) (by omega)).trans (fK f (by omega) (by omega) (by omega) (by omega))) (fun a ha => (hfr.2 a (by omega)).trans (gK a (by omega) (by omega)))) (fun a ha => ⟨(hfr.2 a (by omega)).trans (gK a (by omega) (by omega)), rfl⟩), ?_⟩
      rw [ef2]
      exact hg
    · rw [← hR0] at h1
      have ef2 : f_ground S (nI t) = f_no (w_fl S (nI y)) (-6) := by rw [ef, h1]
      exact lz_X5_ground l W hM hI k63 fK gK hfr h26 ef2
  · have hno := no_lr s_lr_n c
    refine ra_0 oX5_ground_10 ?_
    refine ri_2 oX5_ground_11 ?_
    refine rr_cVi (c_X5_no l W hno.1 hno.2) oX5_ground_12 (cv_X5_97 rfl) (by decide) kk_46 (by decide) hcn_5 (wd_lt W rfl) rfl rfl (Nat.le_of_ble_eq_true rfl) ?_
    exact rr_ireturn oX5_ground_15 rfl rfl ⟨q_M_nov hM me_rf (show f_ground S s = f_no S (s_lr S s) from by rw [f_ground, if_pos c]) hno.1, by rw [f_ground, if_pos c]; exact hI.1⟩
