/-! the model: one number of an item (by program: wip/whole/c56.py) -/
abbrev So_0 (G : gr_T) (x1 : Int32) (i u : Nat) : Prop := (i = 0 → u ≤ 6) ∧ (i = 3 → u ≤ 20) ∧ (¬ i = 0 → ¬ i = 3 → u ≤ 9) ∧ (i = 2 → s_at G x1 (nI u) = none)
abbrev So_3 (G : gr_T) (x0 : Int32) (i u : Nat) : Prop := (u < g_n G ∧ is_H (g_k G u)) ∧ (i = 0 ∨ ¬ nI u = x0)
def ar_N (sg : Nat → Int32) (i p : Nat) : Option Nat := if i = 0 then some p else if sg p = 32 then some (p + 1) else none
theorem nu_b {z : Nat} {sg : Nat → Int32} (hs : sg_T2 z sg) {p u q : Nat} (h : nu_ok sg p = some (u, q)) : u ≤ 99 ∧ q ≤ z ∧ p < q := by
  unfold nu_ok at h
  cases d1 : s_dg sg p with
  | none => rw [d1] at h; cases h
  | some a =>
    rw [d1] at h
    simp only [] at h
    have a1 := (dg_e d1).1
    have a2 := dg_lt hs d1
    cases d2 : s_dg sg (p + 1) with
    | none => rw [d2] at h; simp only [Option.some.injEq, Prod.mk.injEq] at h; omega
    | some b =>
      rw [d2] at h
      have b1 := (dg_e d2).1
      have b2 := dg_lt hs d2
      simp only [Option.some.injEq, Prod.mk.injEq] at h
      omega
theorem c0_X5_isSo (l : Launch) {I : Nat → Nat → Int32} {L : Nat → Nat → Int64} {Rf : Nat → Nat → Option Nat} {n : Nat} {G : gr_T} {dr : Nat → Bool} {sh : Nat → Nat → Bool} (W : wd_T Rf n) (hQ : mq_T I G dr sh) {u : Nat} (hu : u ≤ 99) (h25 : I 46 25 = nI u) {i : Nat} (hi : i < 5) : wm_C l mX5_isSo 3 0 0 [vv_A (some 46), vv_I 0, vv_I (nI i)] (I, L, Rf, n) (q_i (bI (So_0 G (I 62 1) i u)) (I, L, Rf, n)) := by
  refine wm_of (by decide) (Nat.le_of_ble_eq_true rfl) rfl ?_
  refine ri_1 oX5_isSo_0 ?_
  refine rr_tabIn (off := 27) (tgt := 28) oX5_isSo_1 (by decide) (by decide) (by decide) (by decide) ?_
  refine ri_2 oX5_isSo_28 ?_
  refine rr_if_ne (tgt := 49) oX5_isSo_29 (by decide) (fun c0 => ?_) (fun c0 => ?_)
  · rw [show (0 : Int32) = nI 0 from rfl, nI_inj (by omega) (by omega)] at c0
    refine ri_2 oX5_isSo_49 ?_
    refine rk_3 oX5_isSo_50 ?_
    refine rr_icmp_ne (tgt := 71) oX5_isSo_51 (by decide) (fun c3 => ?_) (fun c3 => ?_)
    · rw [show (3 : Int32) = nI 3 from rfl, nI_inj (by omega) (by omega)] at c3
      refine ra_0 oX5_isSo_71 ?_
      refine rr_giv oX5_isSo_72 (ff_X5_142 rfl) kk_46 (wd_lt W rfl) ⟨by decide, rfl⟩ h25 ?_
      refine rr_bipush (v := 9) oX5_isSo_75 (by decide) ?_
      refine rr_icmp_gt (tgt := 107) oX5_isSo_77 (by decide) (fun c9 => ?_) (fun c9 => ?_)
      · rw [show (9 : Int32) = nI 9 from rfl, nI_lt_iff (by omega) (by omega)] at c9
        refine rk_0 oX5_isSo_107 ?_
        exact rr_ireturn oX5_isSo_108 rfl rfl (q_f (fun e => by have := e.2.2.1 c0 c3; omega))
      · rw [show (9 : Int32) = nI 9 from rfl, nI_lt_iff (by omega) (by omega)] at c9
        refine ri_2 oX5_isSo_80 ?_
        refine rk_2 oX5_isSo_81 ?_
        refine rr_icmp_ne (tgt := 103) oX5_isSo_82 (by decide) (fun c2 => ?_) (fun c2 => ?_)
        · rw [show (2 : Int32) = nI 2 from rfl, nI_inj (by omega) (by omega)] at c2
          refine rk_1 oX5_isSo_103 ?_
          refine rr_goto (tgt := 108) oX5_isSo_104 (by decide) ?_
          exact rr_ireturn oX5_isSo_108 rfl rfl (q_t ⟨fun e => absurd e c0, fun e => absurd e c3, fun _ _ => by omega, fun e => absurd e c2⟩)
        · rw [show (2 : Int32) = nI 2 from rfl, nI_inj (by omega) (by omega)] at c2
          refine ra_0 oX5_isSo_85 ?_
          refine ra_0 oX5_isSo_86 ?_
          refine rr_gr (v := 62) oX5_isSo_87 (ff_X5_69 rfl) kk_46 (wd_lt W rfl) ⟨by decide, rfl⟩ (wd_r W rfl rfl) ?_
          refine rk_1 oX5_isSo_90 ?_
          refine rr_ild (t := 1) oX5_isSo_91 kk_62 (wd_lt W rfl) rfl (by omega) (by decide) ?_
          refine ra_0 oX5_isSo_92 ?_
          refine rr_giv oX5_isSo_93 (ff_X5_142 rfl) kk_46 (wd_lt W rfl) ⟨by decide, rfl⟩ h25 ?_
          refine rr_cVi (c_X5_at l W hQ) oX5_isSo_96 (cv_X5_116 rfl) (by decide) kk_46 (by decide) hcn_5 (wd_lt W rfl) rfl rfl (Nat.le_of_ble_eq_true rfl) ?_
          obtain ⟨bb, hst⟩ : ∃ bb, s_at G (I 62 1) (nI u) = bb := ⟨_, rfl⟩
          rw [show oI (s_at G (I 62 1) (nI u)) = oI bb from congrArg oI hst]
          rcases bb with _ | q
          · refine rk_m1 oX5_isSo_99 ?_
            refine rr_icmp_ne (tgt := 107) oX5_isSo_100 (by decide) (fun c10 => ?_) (fun c10 => ?_)
            · exact absurd rfl c10
            refine rk_1 oX5_isSo_103 ?_
            refine rr_goto (tgt := 108) oX5_isSo_104 (by decide) ?_
            exact rr_ireturn oX5_isSo_108 rfl rfl (q_t ⟨fun e => absurd e c0, fun e => absurd e c3, fun _ _ => by omega, fun _ => hst⟩)
          · have htn := s_at_lt hst
            have h8 := mv_8 hQ.1
            refine rk_m1 oX5_isSo_99 ?_
            refine rr_icmp_ne (tgt := 107) oX5_isSo_100 (by decide) (fun c10 => ?_) (fun c10 => ?_)
            rotate_left
            · exact absurd c10 (nI_nm1 (by omega))
            refine rk_0 oX5_isSo_107 ?_
            exact rr_ireturn oX5_isSo_108 rfl rfl (q_f (fun e => by have := e.2.2.2 c2; rw [hst] at this; cases this))
    · rw [show (3 : Int32) = nI 3 from rfl, nI_inj (by omega) (by omega)] at c3
      refine ra_0 oX5_isSo_54 ?_
      refine rr_giv oX5_isSo_55 (ff_X5_142 rfl) kk_46 (wd_lt W rfl) ⟨by decide, rfl⟩ h25 ?_
      refine rr_bipush (v := 20) oX5_isSo_58 (by decide) ?_
      refine rr_icmp_gt (tgt := 67) oX5_isSo_60 (by decide) (fun c20 => ?_) (fun c20 => ?_)
      · rw [show (20 : Int32) = nI 20 from rfl, nI_lt_iff (by omega) (by omega)] at c20
        refine rk_0 oX5_isSo_67 ?_
        refine rr_goto (tgt := 108) oX5_isSo_68 (by decide) ?_
        exact rr_ireturn oX5_isSo_108 rfl rfl (q_f (fun e => by have := e.2.1 c3; omega))
      · rw [show (20 : Int32) = nI 20 from rfl, nI_lt_iff (by omega) (by omega)] at c20
        refine rk_1 oX5_isSo_63 ?_
        refine rr_goto (tgt := 108) oX5_isSo_64 (by decide) ?_
        exact rr_ireturn oX5_isSo_108 rfl rfl (q_t ⟨fun e => absurd e c0, fun _ => by omega, fun _ e => absurd c3 e, fun e => by omega⟩)
  · rw [show (0 : Int32) = nI 0 from rfl, nI_inj (by omega) (by omega)] at c0
    refine ra_0 oX5_isSo_32 ?_
    refine rr_giv oX5_isSo_33 (ff_X5_142 rfl) kk_46 (wd_lt W rfl) ⟨by decide, rfl⟩ h25 ?_
    refine rr_bipush (v := 6) oX5_isSo_36 (by decide) ?_
    refine rr_icmp_gt (tgt := 45) oX5_isSo_38 (by decide) (fun c6 => ?_) (fun c6 => ?_)
    · rw [show (6 : Int32) = nI 6 from rfl, nI_lt_iff (by omega) (by omega)] at c6
      refine rk_0 oX5_isSo_45 ?_
      refine rr_goto (tgt := 108) oX5_isSo_46 (by decide) ?_
      exact rr_ireturn oX5_isSo_108 rfl rfl (q_f (fun e => by have := e.1 c0; omega))
    · rw [show (6 : Int32) = nI 6 from rfl, nI_lt_iff (by omega) (by omega)] at c6
      refine rk_1 oX5_isSo_41 ?_
      refine rr_goto (tgt := 108) oX5_isSo_42 (by decide) ?_
      exact rr_ireturn oX5_isSo_108 rfl rfl (q_t ⟨fun _ => by omega, fun e => by omega, fun e _ => absurd c0 e, fun e => by omega⟩)
theorem c1_X5_isSo (l : Launch) {I : Nat → Nat → Int32} {L : Nat → Nat → Int64} {Rf : Nat → Nat → Option Nat} {n : Nat} {G : gr_T} {dr : Nat → Bool} {sh : Nat → Nat → Bool} (W : wd_T Rf n) (hQ : mq_T I G dr sh) {u : Nat} (hu : u ≤ 99) (h25 : I 46 25 = nI u) {i : Nat} (hi : i < 5) : wm_C l mX5_isSo 3 0 0 [vv_A (some 46), vv_I 1, vv_I (nI i)] (I, L, Rf, n) (q_i (bI (u ≤ 1)) (I, L, Rf, n)) := by
  refine wm_of (by decide) (Nat.le_of_ble_eq_true rfl) rfl ?_
  refine ri_1 oX5_isSo_0 ?_
  refine rr_tabIn (off := 108) (tgt := 109) oX5_isSo_1 (by decide) (by decide) (by decide) (by decide) ?_
  refine ra_0 oX5_isSo_109 ?_
  refine rr_giv oX5_isSo_110 (ff_X5_142 rfl) kk_46 (wd_lt W rfl) ⟨by decide, rfl⟩ h25 ?_
  refine rk_1 oX5_isSo_113 ?_
  refine rr_icmp_gt (tgt := 121) oX5_isSo_114 (by decide) (fun c1 => ?_) (fun c1 => ?_)
  · rw [show (1 : Int32) = nI 1 from rfl, nI_lt_iff (by omega) (by omega)] at c1
    refine rk_0 oX5_isSo_121 ?_
    exact rr_ireturn oX5_isSo_122 rfl rfl (q_f (by omega))
  · rw [show (1 : Int32) = nI 1 from rfl, nI_lt_iff (by omega) (by omega)] at c1
    refine rk_1 oX5_isSo_117 ?_
    refine rr_goto (tgt := 122) oX5_isSo_118 (by decide) ?_
    exact rr_ireturn oX5_isSo_122 rfl rfl (q_t (by omega))
theorem c2_X5_isSo (l : Launch) {I : Nat → Nat → Int32} {L : Nat → Nat → Int64} {Rf : Nat → Nat → Option Nat} {n : Nat} {G : gr_T} {dr : Nat → Bool} {sh : Nat → Nat → Bool} (W : wd_T Rf n) (hQ : mq_T I G dr sh) {u : Nat} (hu : u ≤ 99) (h25 : I 46 25 = nI u) {i : Nat} (hi : i < 5) : wm_C l mX5_isSo 3 0 0 [vv_A (some 46), vv_I 2, vv_I (nI i)] (I, L, Rf, n) (q_i (bI (1 ≤ u ∧ u ≤ 9)) (I, L, Rf, n)) := by
  refine wm_of (by decide) (Nat.le_of_ble_eq_true rfl) rfl ?_
  refine ri_1 oX5_isSo_0 ?_
  refine rr_tabIn (off := 122) (tgt := 123) oX5_isSo_1 (by decide) (by decide) (by decide) (by decide) ?_
  refine ra_0 oX5_isSo_123 ?_
  refine rr_giv oX5_isSo_124 (ff_X5_142 rfl) kk_46 (wd_lt W rfl) ⟨by decide, rfl⟩ h25 ?_
  refine rk_1 oX5_isSo_127 ?_
  refine rr_icmp_lt (tgt := 144) oX5_isSo_128 (by decide) (fun c1 => ?_) (fun c1 => ?_)
  · rw [show (1 : Int32) = nI 1 from rfl, nI_lt_iff (by omega) (by omega)] at c1
    refine rk_0 oX5_isSo_144 ?_
    exact rr_ireturn oX5_isSo_145 rfl rfl (q_f (by omega))
  · rw [show (1 : Int32) = nI 1 from rfl, nI_lt_iff (by omega) (by omega)] at c1
    refine ra_0 oX5_isSo_131 ?_
    refine rr_giv oX5_isSo_132 (ff_X5_142 rfl) kk_46 (wd_lt W rfl) ⟨by decide, rfl⟩ h25 ?_
    refine rr_bipush (v := 9) oX5_isSo_135 (by decide) ?_
    refine rr_icmp_gt (tgt := 144) oX5_isSo_137 (by decide) (fun c9 => ?_) (fun c9 => ?_)
    · rw [show (9 : Int32) = nI 9 from rfl, nI_lt_iff (by omega) (by omega)] at c9
      refine rk_0 oX5_isSo_144 ?_
      exact rr_ireturn oX5_isSo_145 rfl rfl (q_f (by omega))
    · rw [show (9 : Int32) = nI 9 from rfl, nI_lt_iff (by omega) (by omega)] at c9
      refine rk_1 oX5_isSo_140 ?_
      refine rr_goto (tgt := 145) oX5_isSo_141 (by decide) ?_
      exact rr_ireturn oX5_isSo_145 rfl rfl (q_t (by omega))
theorem c3_X5_isSo (l : Launch) {I : Nat → Nat → Int32} {L : Nat → Nat → Int64} {Rf : Nat → Nat → Option Nat} {n : Nat} {G : gr_T} {dr : Nat → Bool} {sh : Nat → Nat → Bool} (W : wd_T Rf n) (hQ : mq_T I G dr sh) {u : Nat} (hu : u ≤ 99) (h25 : I 46 25 = nI u) {i : Nat} (hi : i < 5) : wm_C l mX5_isSo 3 0 0 [vv_A (some 46), vv_I 3, vv_I (nI i)] (I, L, Rf, n) (q_i (bI (So_3 G (I 62 0) i u)) (I, L, Rf, n)) := by
  refine wm_of (by decide) (Nat.le_of_ble_eq_true rfl) rfl ?_
  refine ri_1 oX5_isSo_0 ?_
  refine rr_tabOut (tgt := 146) oX5_isSo_1 (by decide) (by decide) ?_
  refine ra_0 oX5_isSo_146 ?_
  refine ra_0 oX5_isSo_147 ?_
  refine rr_giv oX5_isSo_148 (ff_X5_142 rfl) kk_46 (wd_lt W rfl) ⟨by decide, rfl⟩ h25 ?_
  refine rr_cVi (c_X5_isThing l W hQ) oX5_isSo_151 (cv_X5_87 rfl) (by decide) kk_46 (by decide) hcn_5 (wd_lt W rfl) rfl rfl (Nat.le_of_ble_eq_true rfl) ?_
  refine rr_ifb_eq (tgt := 189) oX5_isSo_154 (by decide) (fun c => ?_) (fun c => ?_)
  · refine rk_0 oX5_isSo_189 ?_
    exact rr_ireturn oX5_isSo_190 rfl rfl (q_f (fun e => c ⟨nI_pos' (by omega), (nI_lt_iff (by omega) (by have := mv_8 hQ.1; omega)).mpr e.1.1⟩))
  · have h8 := mv_8 hQ.1
    have hun : u < g_n G := (nI_lt_iff (by omega) (by omega)).mp c.2
    refine ra_0 oX5_isSo_157 ?_
    refine ra_0 oX5_isSo_158 ?_
    refine rr_giv oX5_isSo_159 (ff_X5_142 rfl) kk_46 (wd_lt W rfl) ⟨by decide, rfl⟩ h25 ?_
    refine rr_cVi (c_X5_isHouse l W hQ hun) oX5_isSo_162 (cv_X5_91 rfl) (by decide) kk_46 (by decide) hcn_5 (wd_lt W rfl) rfl rfl (Nat.le_of_ble_eq_true rfl) ?_
    refine rr_ifb_eq (tgt := 189) oX5_isSo_165 (by decide) (fun c1 => ?_) (fun c1 => ?_)
    · refine rk_0 oX5_isSo_189 ?_
      exact rr_ireturn oX5_isSo_190 rfl rfl (q_f (fun e => c1 e.1.2))
    · refine ri_2 oX5_isSo_168 ?_
      refine rr_if_eq (tgt := 185) oX5_isSo_169 (by decide) (fun c2 => ?_) (fun c2 => ?_)
      · rw [show (0 : Int32) = nI 0 from rfl, nI_inj (by omega) (by omega)] at c2
        refine rk_1 oX5_isSo_185 ?_
        refine rr_goto (tgt := 190) oX5_isSo_186 (by decide) ?_
        exact rr_ireturn oX5_isSo_190 rfl rfl (q_t ⟨⟨hun, c1⟩, Or.inl c2⟩)
      · rw [show (0 : Int32) = nI 0 from rfl, nI_inj (by omega) (by omega)] at c2
        refine ra_0 oX5_isSo_172 ?_
        refine rr_giv oX5_isSo_173 (ff_X5_142 rfl) kk_46 (wd_lt W rfl) ⟨by decide, rfl⟩ h25 ?_
        refine ra_0 oX5_isSo_176 ?_
        refine rr_gr (v := 62) oX5_isSo_177 (ff_X5_69 rfl) kk_46 (wd_lt W rfl) ⟨by decide, rfl⟩ (wd_r W rfl rfl) ?_
        refine rk_0 oX5_isSo_180 ?_
        refine rr_ild (t := 0) oX5_isSo_181 kk_62 (wd_lt W rfl) rfl (by omega) (by decide) ?_
        refine rr_icmp_eq (tgt := 189) oX5_isSo_182 (by decide) (fun c3 => ?_) (fun c3 => ?_)
        · refine rk_0 oX5_isSo_189 ?_
          exact rr_ireturn oX5_isSo_190 rfl rfl (q_f (fun e => e.2.elim c2 (fun z => z c3)))
        · refine rk_1 oX5_isSo_185 ?_
          refine rr_goto (tgt := 190) oX5_isSo_186 (by decide) ?_
          exact rr_ireturn oX5_isSo_190 rfl rfl (q_t ⟨⟨hun, c1⟩, Or.inr c3⟩)
theorem c4_X5_isSo (l : Launch) {I : Nat → Nat → Int32} {L : Nat → Nat → Int64} {Rf : Nat → Nat → Option Nat} {n : Nat} {G : gr_T} {dr : Nat → Bool} {sh : Nat → Nat → Bool} (W : wd_T Rf n) (hQ : mq_T I G dr sh) {u : Nat} (hu : u ≤ 99) (h25 : I 46 25 = nI u) {i : Nat} (hi : i < 5) : wm_C l mX5_isSo 3 0 0 [vv_A (some 46), vv_I 4, vv_I (nI i)] (I, L, Rf, n) (q_i (bI (So_3 G (I 62 0) i u)) (I, L, Rf, n)) := by
  refine wm_of (by decide) (Nat.le_of_ble_eq_true rfl) rfl ?_
  refine ri_1 oX5_isSo_0 ?_
  refine rr_tabOut (tgt := 146) oX5_isSo_1 (by decide) (by decide) ?_
  refine ra_0 oX5_isSo_146 ?_
  refine ra_0 oX5_isSo_147 ?_
  refine rr_giv oX5_isSo_148 (ff_X5_142 rfl) kk_46 (wd_lt W rfl) ⟨by decide, rfl⟩ h25 ?_
  refine rr_cVi (c_X5_isThing l W hQ) oX5_isSo_151 (cv_X5_87 rfl) (by decide) kk_46 (by decide) hcn_5 (wd_lt W rfl) rfl rfl (Nat.le_of_ble_eq_true rfl) ?_
  refine rr_ifb_eq (tgt := 189) oX5_isSo_154 (by decide) (fun c => ?_) (fun c => ?_)
  · refine rk_0 oX5_isSo_189 ?_
    exact rr_ireturn oX5_isSo_190 rfl rfl (q_f (fun e => c ⟨nI_pos' (by omega), (nI_lt_iff (by omega) (by have := mv_8 hQ.1; omega)).mpr e.1.1⟩))
  · have h8 := mv_8 hQ.1
    have hun : u < g_n G := (nI_lt_iff (by omega) (by omega)).mp c.2
    refine ra_0 oX5_isSo_157 ?_
    refine ra_0 oX5_isSo_158 ?_
    refine rr_giv oX5_isSo_159 (ff_X5_142 rfl) kk_46 (wd_lt W rfl) ⟨by decide, rfl⟩ h25 ?_
    refine rr_cVi (c_X5_isHouse l W hQ hun) oX5_isSo_162 (cv_X5_91 rfl) (by decide) kk_46 (by decide) hcn_5 (wd_lt W rfl) rfl rfl (Nat.le_of_ble_eq_true rfl) ?_
    refine rr_ifb_eq (tgt := 189) oX5_isSo_165 (by decide) (fun c1 => ?_) (fun c1 => ?_)
    · refine rk_0 oX5_isSo_189 ?_
      exact rr_ireturn oX5_isSo_190 rfl rfl (q_f (fun e => c1 e.1.2))
    · refine ri_2 oX5_isSo_168 ?_
      refine rr_if_eq (tgt := 185) oX5_isSo_169 (by decide) (fun c2 => ?_) (fun c2 => ?_)
      · rw [show (0 : Int32) = nI 0 from rfl, nI_inj (by omega) (by omega)] at c2
        refine rk_1 oX5_isSo_185 ?_
        refine rr_goto (tgt := 190) oX5_isSo_186 (by decide) ?_
        exact rr_ireturn oX5_isSo_190 rfl rfl (q_t ⟨⟨hun, c1⟩, Or.inl c2⟩)
      · rw [show (0 : Int32) = nI 0 from rfl, nI_inj (by omega) (by omega)] at c2
        refine ra_0 oX5_isSo_172 ?_
        refine rr_giv oX5_isSo_173 (ff_X5_142 rfl) kk_46 (wd_lt W rfl) ⟨by decide, rfl⟩ h25 ?_
        refine ra_0 oX5_isSo_176 ?_
        refine rr_gr (v := 62) oX5_isSo_177 (ff_X5_69 rfl) kk_46 (wd_lt W rfl) ⟨by decide, rfl⟩ (wd_r W rfl rfl) ?_
        refine rk_0 oX5_isSo_180 ?_
        refine rr_ild (t := 0) oX5_isSo_181 kk_62 (wd_lt W rfl) rfl (by omega) (by decide) ?_
        refine rr_icmp_eq (tgt := 189) oX5_isSo_182 (by decide) (fun c3 => ?_) (fun c3 => ?_)
        · refine rk_0 oX5_isSo_189 ?_
          exact rr_ireturn oX5_isSo_190 rfl rfl (q_f (fun e => e.2.elim c2 (fun z => z c3)))
        · refine rk_1 oX5_isSo_185 ?_
          refine rr_goto (tgt := 190) oX5_isSo_186 (by decide) ?_
          exact rr_ireturn oX5_isSo_190 rfl rfl (q_t ⟨⟨hun, c1⟩, Or.inr c3⟩)
theorem lb_X5_item (l : Launch) {I : Nat → Nat → Int32} {L : Nat → Nat → Int64} {Rf : Nat → Nat → Option Nat} {n : Nat} {s z p : Nat} (W : wd_T Rf n) (hs : s < 8) (hz : z ≤ 160) (hp : p ≤ z) (hR : rp_M I s z p) {x1 : Nat} {k nn : Int32} {i : Nat} (hi5 : i < 5) {So : Nat → Prop} {dSo : ∀ u, Decidable (So u)} (hso : ∀ (J : Nat → Nat → Int32) u, u ≤ 99 → J 46 25 = nI u → (∀ f, f ≠ 23 → f ≠ 25 → f ≠ 26 → J 46 f = I 46 f) → (∀ a, a ≠ 46 → J a = I a) → wm_C l mX5_isSo 3 0 0 [vv_A (some 46), vv_I k, vv_I (nI i)] (J, L, Rf, n) (q_i (bI (So u)) (J, L, Rf, n))) {Q : Option vv_T → mx_T → Prop} (hF : (∀ (J : Nat → Nat → Int32) y, (y = p ∧ (nu_ok (sg_M L s z) p = none ∨ ∃ u q, nu_ok (sg_M L s z) p = some (u, q) ∧ ¬ So u)) → J 46 26 = nI y → (∀ f, f ≠ 23 → f ≠ 25 → f ≠ 26 → J 46 f = I 46 f) → (∀ a, a ≠ 46 → J a = I a) → Q (some (vv_I 0)) (J, L, Rf, n))) (hS : (∀ (J : Nat → Nat → Int32) p1 u q, p1 = p → nu_ok (sg_M L s z) p1 = some (u, q) → So u → J 46 23 = nI q → J 62 i = nI u → (∀ j, j ≠ i → J 62 j = I 62 j) → (∀ f, f ≠ 23 → f ≠ 25 → f ≠ 26 → J 46 f = I 46 f) → (∀ a, a ≠ 46 → a ≠ 62 → J a = I a) → wm_W l mX5_item 4 0 0 96 [vv_A (some 46), vv_I (nI x1), vv_I k, vv_I nn, vv_I (nI (i + 1)), vv_I (nI p1)] [] (J, L, Rf, n) Q)) {x5 : vv_T} : wm_W l mX5_item 4 0 0 157 [vv_A (some 46), vv_I (nI x1), vv_I k, vv_I nn, vv_I (nI i), x5] [] (I, L, Rf, n) Q := by
  refine ra_0 oX5_item_157 ?_
  refine rr_giv oX5_item_158 (ff_X5_133 rfl) kk_46 (wd_lt W rfl) ⟨by decide, rfl⟩ hR.2.2 ?_
  refine si_5 oX5_item_161 rfl rfl ?_
  refine ra_0 oX5_item_163 ?_
  refine rr_cVn (c_X5_number l W hs hz hp hR) oX5_item_164 (cv_X5_162 rfl) (by decide) kk_46 (by decide) hcn_5 (wd_lt W rfl) rfl rfl (Nat.le_of_ble_eq_true rfl) (fun v J hJ => ?_)
  obtain ⟨hJ, hfr, hfa⟩ := hJ
  rcases hJ with ⟨h1, rfl, h3⟩ | ⟨u, q, h1, rfl, h3, h4⟩
  · refine rr_if_ne (tgt := 172) oX5_item_167 (by decide) (fun c => ?_) (fun c => ?_)
    · exact absurd rfl c
    refine rk_0 oX5_item_170 ?_
    exact rr_ireturn oX5_item_171 rfl rfl (hF J p ⟨rfl, Or.inl (by unfold nu_ok; rw [h1])⟩ h3 hfr hfa)
  · refine rr_if_ne (tgt := 172) oX5_item_167 (by decide) (fun c => ?_) (fun c => ?_)
    rotate_left
    · exact absurd c (by decide)
    have hub := nu_b (sg_z z _) h1
    refine ra_0 oX5_item_172 ?_
    refine ri_2 oX5_item_173 ?_
    refine ri_4 oX5_item_174 ?_
    refine rr_cVi (hso J u hub.1 h3 hfr hfa) oX5_item_176 (cv_X5_165 rfl) (by decide) kk_46 (by decide) hcn_5 (wd_lt W rfl) rfl rfl (Nat.le_of_ble_eq_true rfl) ?_
    refine rr_ifb_ne (tgt := 189) oX5_item_179 (by decide) (fun c5 => ?_) (fun c5 => ?_)
    · refine ra_0 oX5_item_189 ?_
      refine rr_gr (v := 62) oX5_item_190 (ff_X5_69 rfl) kk_46 (wd_lt W rfl) ⟨by decide, rfl⟩ (wd_r W rfl rfl) ?_
      refine ri_4 oX5_item_193 ?_
      refine ra_0 oX5_item_195 ?_
      refine rr_giv oX5_item_196 (ff_X5_142 rfl) kk_46 (wd_lt W rfl) ⟨by decide, rfl⟩ h3 ?_
      refine rr_ist oX5_item_199 kk_62 (wd_lt W rfl) rfl (by omega) (by decide) ?_
      refine rn_4 oX5_item_200 rfl rfl ?_
      refine rr_goto (tgt := 96) oX5_item_203 (by decide) ?_
      exact hS _ p u q rfl h1 c5 (by rw [up_I_ne (by omega)]; exact h4) up_I_at (fun j hj => by rw [up_I_at_ne hj, hfa 62 (by omega)]) (fun f q1 q2 q3 => by rw [up_I_ne (by omega)]; exact hfr f q1 q2 q3) (fun a q1 q2 => by rw [up_I_ne q2]; exact hfa a q1)
    · refine ra_0 oX5_item_182 ?_
      refine ri_5 oX5_item_183 ?_
      refine rr_cVi (c_X5_wrong l W) oX5_item_185 (cv_X5_149 rfl) (by decide) kk_46 (by decide) hcn_5 (wd_lt W rfl) rfl rfl (Nat.le_of_ble_eq_true rfl) ?_
      exact rr_ireturn oX5_item_188 rfl rfl (hF _ p ⟨rfl, Or.inr ⟨u, q, h1, c5⟩⟩ up_I_at (fun f q1 q2 q3 => by rw [up_I_at_ne q3]; exact hfr f q1 q2 q3) (fun a q1 => by rw [up_I_ne q1]; exact hfa a q1))
theorem la_X5_item (l : Launch) {I : Nat → Nat → Int32} {L : Nat → Nat → Int64} {Rf : Nat → Nat → Option Nat} {n : Nat} {s z p : Nat} (W : wd_T Rf n) (hs : s < 8) (hz : z ≤ 160) (hp : p ≤ z) (hR : rp_M I s z p) {x1 : Nat} {k nn : Int32} {i : Nat} (hi5 : i < 5) {So : Nat → Prop} {dSo : ∀ u, Decidable (So u)} (hso : ∀ (J : Nat → Nat → Int32) u, u ≤ 99 → J 46 25 = nI u → (∀ f, f ≠ 23 → f ≠ 25 → f ≠ 26 → J 46 f = I 46 f) → (∀ a, a ≠ 46 → J a = I a) → wm_C l mX5_isSo 3 0 0 [vv_A (some 46), vv_I k, vv_I (nI i)] (J, L, Rf, n) (q_i (bI (So u)) (J, L, Rf, n))) (hin : ¬ nn ≤ nI i) {Q : Option vv_T → mx_T → Prop} (hF : (∀ (J : Nat → Nat → Int32) y, ((ar_N (sg_M L s z) i p = none ∧ y = p) ∨ ∃ p1, ar_N (sg_M L s z) i p = some p1 ∧ y = p1 ∧ (nu_ok (sg_M L s z) p1 = none ∨ ∃ u q, nu_ok (sg_M L s z) p1 = some (u, q) ∧ ¬ So u)) → J 46 26 = nI y → (∀ f, f ≠ 23 → f ≠ 25 → f ≠ 26 → J 46 f = I 46 f) → (∀ a, a ≠ 46 → J a = I a) → Q (some (vv_I 0)) (J, L, Rf, n))) (hS : (∀ (J : Nat → Nat → Int32) p1 u q, ar_N (sg_M L s z) i p = some p1 → nu_ok (sg_M L s z) p1 = some (u, q) → So u → J 46 23 = nI q → J 62 i = nI u → (∀ j, j ≠ i → J 62 j = I 62 j) → (∀ f, f ≠ 23 → f ≠ 25 → f ≠ 26 → J 46 f = I 46 f) → (∀ a, a ≠ 46 → a ≠ 62 → J a = I a) → wm_W l mX5_item 4 0 0 96 [vv_A (some 46), vv_I (nI x1), vv_I k, vv_I nn, vv_I (nI (i + 1)), vv_I (nI p1)] [] (J, L, Rf, n) Q)) {x5 : vv_T} : wm_W l mX5_item 4 0 0 96 [vv_A (some 46), vv_I (nI x1), vv_I k, vv_I nn, vv_I (nI i), x5] [] (I, L, Rf, n) Q := by
  refine ri_4 oX5_item_96 ?_
  refine ri_3 oX5_item_98 ?_
  refine rr_icmp_ge (tgt := 206) oX5_item_99 (by decide) (fun c => ?_) (fun c => ?_)
  · exact absurd c hin
  refine ri_4 oX5_item_102 ?_
  refine rr_if_le (tgt := 157) oX5_item_104 (by decide) (fun c0 => ?_) (fun c0 => ?_)
  · rw [show (0 : Int32) = nI 0 from rfl, nI_le_iff (by omega) (by omega)] at c0
    have har : ar_N (sg_M L s z) i p = some p := if_pos (by omega)
    exact lb_X5_item (dSo := dSo) l W hs hz hp hR hi5 hso (fun J y hy h26 hf ha => hF J y (Or.inr ⟨p, har, hy⟩) h26 hf ha) (fun J p1 u q e => by subst e; exact hS J p1 u q har)
  · rw [show (0 : Int32) = nI 0 from rfl, nI_le_iff (by omega) (by omega)] at c0
    refine ra_0 oX5_item_107 ?_
    refine rr_giv oX5_item_108 (ff_X5_133 rfl) kk_46 (wd_lt W rfl) ⟨by decide, rfl⟩ hR.2.2 ?_
    refine ra_0 oX5_item_111 ?_
    refine rr_giv oX5_item_112 (ff_X5_136 rfl) kk_46 (wd_lt W rfl) ⟨by decide, rfl⟩ hR.2.1 ?_
    refine rr_icmp_ge (tgt := 138) oX5_item_115 (by decide) (fun c2 => ?_) (fun c2 => ?_)
    · rw [nI_le_iff (by omega) (by omega)] at c2
      have har : ar_N (sg_M L s z) i p = none := by unfold ar_N; rw [if_neg (by omega), if_neg (by rw [sg_no c2]; decide)]
      refine ra_0 oX5_item_138 ?_
      refine ra_0 oX5_item_139 ?_
      refine rr_giv oX5_item_140 (ff_X5_133 rfl) kk_46 (wd_lt W rfl) ⟨by decide, rfl⟩ hR.2.2 ?_
      refine rr_cVi (c_X5_wrong l W) oX5_item_143 (cv_X5_149 rfl) (by decide) kk_46 (by decide) hcn_5 (wd_lt W rfl) rfl rfl (Nat.le_of_ble_eq_true rfl) ?_
      exact rr_ireturn oX5_item_146 rfl rfl (hF _ p (Or.inl ⟨har, rfl⟩) up_I_at (fun f q1 q2 q3 => up_I_at_ne q3) (fun a q => up_I_ne q))
    · rw [nI_le_iff (by omega) (by omega)] at c2
      have e := sg_at (L := L) (s := s) (show p < z by omega)
      refine ra_0 oX5_item_118 ?_
      refine rr_gr (v := 59) oX5_item_119 (ff_X5_59 rfl) kk_46 (wd_lt W rfl) ⟨by decide, rfl⟩ (wd_r W rfl rfl) ?_
      refine ra_0 oX5_item_122 ?_
      refine rr_giv oX5_item_123 (ff_X5_139 rfl) kk_46 (wd_lt W rfl) ⟨by decide, rfl⟩ hR.1 ?_
      refine ra_0 oX5_item_126 ?_
      refine rr_giv oX5_item_127 (ff_X5_133 rfl) kk_46 (wd_lt W rfl) ⟨by decide, rfl⟩ hR.2.2 ?_
      refine rr_iadd oX5_item_130 ?_
      refine rr_lld (t := 160 * s + p) oX5_item_131 kk_59 (wd_lt W rfl) (nI_add _ _) (by omega) (by decide) ?_
      refine rr_l2i oX5_item_132 ?_
      refine rr_bipush (v := 32) oX5_item_133 (by decide) ?_
      refine rr_icmp_eq (tgt := 147) oX5_item_135 (by decide) (fun c3 => ?_) (fun c3 => ?_)
      · have har : ar_N (sg_M L s z) i p = some (p + 1) := by unfold ar_N; rw [if_neg (by omega), if_pos (by rw [e]; exact c3)]
        refine ra_0 oX5_item_147 ?_
        refine rr_dup oX5_item_148 rfl ?_
        refine rr_giv oX5_item_149 (ff_X5_133 rfl) kk_46 (wd_lt W rfl) ⟨by decide, rfl⟩ hR.2.2 ?_
        refine rk_1 oX5_item_152 ?_
        refine rr_iadd oX5_item_153 ?_
        rw [nI_1]
        refine rr_pi oX5_item_154 (ff_X5_133 rfl) kk_46 (wd_lt W rfl) ⟨by decide, rfl, by decide⟩ pf_5_23 ⟨rfl, rfl⟩ ?_
        have hR1 : rp_M (up_I I 46 23 (nI (p + 1))) s z (p + 1) := ⟨by rw [up_I_at_ne (by omega)]; exact hR.1, by rw [up_I_at_ne (by omega)]; exact hR.2.1, up_I_at⟩
        exact lb_X5_item (dSo := dSo) l W hs hz (show p + 1 ≤ z by omega) hR1 hi5 (fun J u hu h25 hf ha => hso J u hu h25 (fun f q1 q2 q3 => by rw [hf f q1 q2 q3, up_I_at_ne q1]) (fun a q => by rw [ha a q, up_I_ne q])) (fun J y hy h26 hf ha => hF J y (Or.inr ⟨p + 1, har, hy⟩) h26 (fun f q1 q2 q3 => by rw [hf f q1 q2 q3, up_I_at_ne q1]) (fun a q => by rw [ha a q, up_I_ne q])) (fun J p1 u q e h1 h2 h3 h4 h5 hf ha => by subst e; exact hS J _ u q har h1 h2 h3 h4 (fun j hj => by rw [h5 j hj, up_I_ne (by omega)]) (fun f q1 q2 q3 => by rw [hf f q1 q2 q3, up_I_at_ne q1]) (fun a q1 q2 => by rw [ha a q1 q2, up_I_ne q1]))
      · have har : ar_N (sg_M L s z) i p = none := by unfold ar_N; rw [if_neg (by omega), if_neg (by rw [e]; exact c3)]
        refine ra_0 oX5_item_138 ?_
        refine ra_0 oX5_item_139 ?_
        refine rr_giv oX5_item_140 (ff_X5_133 rfl) kk_46 (wd_lt W rfl) ⟨by decide, rfl⟩ hR.2.2 ?_
        refine rr_cVi (c_X5_wrong l W) oX5_item_143 (cv_X5_149 rfl) (by decide) kk_46 (by decide) hcn_5 (wd_lt W rfl) rfl rfl (Nat.le_of_ble_eq_true rfl) ?_
        exact rr_ireturn oX5_item_146 rfl rfl (hF _ p (Or.inl ⟨har, rfl⟩) up_I_at (fun f q1 q2 q3 => up_I_at_ne q3) (fun a q => up_I_ne q))
