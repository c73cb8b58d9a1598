/-! SeenByOne: bodies, opens, image, years, pairs, back, most (by program: wip/whole/c22.py) -/
/-- bodies: what is kept, how many ran -/
def bd_N (A : (Nat → Int32) × Nat) (b : Int32) : (Nat → Int32) × Nat := (if A.2 < 20 then upd A.1 A.2 b else A.1, A.2 + 1)
def ac_T (I : Nat → Nat → Int32) (A : (Nat → Int32) × Nat) (k m a : Int32) : Prop := I 26 1 = k ∧ I 26 2 = m ∧ I 26 3 = a ∧ I 26 4 = nI A.2 ∧ A.2 < 1000 ∧ ∀ i, i < 20 → I 27 i = A.1 i
def ao_T (I J : Nat → Nat → Int32) : Prop := ∀ q, q ≠ 26 → q ≠ 27 → J q = I q
theorem ao_tr {I J K : Nat → Nat → Int32} (h1 : ao_T I J) (h2 : ao_T J K) : ao_T I K := fun q a b => (h2 q a b).trans (h1 q a b)
theorem ao_rf {I : Nat → Nat → Int32} : ao_T I I := fun _ _ _ => rfl
def s_stA (k : Int32) (A : (Nat → Int32) × Nat) : (Nat → Int32) × Nat :=
  bd_N (if is_H k then bd_N (if k = 6 then bd_N (if k = 4 then bd_N A 51 else A) 70 else (if k = 4 then bd_N A 51 else A)) 20 else (if k = 6 then bd_N (if k = 4 then bd_N A 51 else A) 70 else (if k = 4 then bd_N A 51 else A))) 10
def s_stv (k m a x : Int32) : Int32 := if k = 6 then (if k = 4 then (if is_H k then x + m + a else x + m) - m else (if is_H k then x + m + a else x + m)) * 2 else (if k = 4 then (if is_H k then x + m + a else x + m) - m else (if is_H k then x + m + a else x + m))
def s_lox (k a x : Int32) : Int32 := if k = 6 then x - a else if k = 3 then x + 1 else x
def s_loA (k : Int32) (A : (Nat → Int32) × Nat) : (Nat → Int32) × Nat :=
  bd_N (if is_Tr k then bd_N (if k = 6 then bd_N (if k = 3 then bd_N A 40 else A) 71 else (if k = 3 then bd_N A 40 else A)) 30 else (if k = 6 then bd_N (if k = 3 then bd_N A 40 else A) 71 else (if k = 3 then bd_N A 40 else A))) 11
def s_lov (k m a x : Int32) : Int32 := if is_Tr k then s_stv k m a (s_lox k a x) * 2 * 3 else s_stv k m a (s_lox k a x) * 2
def s_hiA (k : Int32) (A : (Nat → Int32) × Nat) : (Nat → Int32) × Nat := bd_N (if k = 5 then bd_N (if k = 4 then bd_N A 50 else A) 60 else (if k = 4 then bd_N A 50 else A)) 12
def s_hiv (k m a x : Int32) : Int32 := if k = 4 then -(s_lov k m a x ^^^ s_stv k m a (x - a)) else if k = 5 then (s_lov k m a x ^^^ s_stv k m a (x - a)) ^^^ 5 else s_lov k m a x ^^^ s_stv k m a (x - a)
theorem bd_2 {A : (Nat → Int32) × Nat} {b : Int32} : (bd_N A b).2 = A.2 + 1 := rfl
theorem c_X0_begins (l : Launch) {I : Nat → Nat → Int32} {L : Nat → Nat → Int64} {Rf : Nat → Nat → Option Nat} {n : Nat} (W : wd_T Rf n) {A : (Nat → Int32) × Nat} {k m a : Int32} (hac : ac_T I A k m a) {b : Int32} (hA : A.2 < 900) : wm_C l mX0_begins 1 0 0 [vv_A (some 26), vv_I b] (I, L, Rf, n) (q_m (fun J => ac_T J (bd_N A b) k m a ∧ ao_T I J) L Rf n) := by
  refine wm_of (by decide) (Nat.le_of_ble_eq_true rfl) rfl ?_
  refine ra_0 oX0_begins_0 ?_
  refine rr_giv oX0_begins_1 (ff_X0_25 rfl) kk_26 (wd_lt W rfl) ⟨by decide, rfl⟩ hac.2.2.2.1 ?_
  refine rr_bipush (v := 20) oX0_begins_4 (by decide) ?_
  refine rr_icmp_ge (tgt := 19) oX0_begins_6 (by decide) (fun c => ?_) (fun c => ?_)
  · rw [show (20 : Int32) = nI 20 from rfl, nI_le_iff (by omega) (by omega)] at c
    refine ra_0 oX0_begins_19 ?_
    refine rr_dup oX0_begins_20 rfl ?_
    refine rr_giv oX0_begins_21 (ff_X0_25 rfl) kk_26 (wd_lt W rfl) ⟨by decide, rfl⟩ hac.2.2.2.1 ?_
    refine rk_1 oX0_begins_24 ?_
    refine rr_iadd oX0_begins_25 ?_
    rw [nI_1]
    refine rr_pi oX0_begins_26 (ff_X0_25 rfl) kk_26 (wd_lt W rfl) ⟨by decide, rfl, by decide⟩ pf_0_4 ⟨rfl, rfl⟩ ?_
    exact rr_return oX0_begins_29 rfl (q_m_of ⟨⟨by rw [up_I_at_ne (by omega)]; exact hac.1, by rw [up_I_at_ne (by omega)]; exact hac.2.1, by rw [up_I_at_ne (by omega)]; exact hac.2.2.1, up_I_at, by rw [bd_2]; omega, fun i hi => by rw [up_I_ne (by omega)]; simp only [bd_N, if_neg (show ¬ A.2 < 20 by omega)]; exact hac.2.2.2.2.2 i hi⟩, fun q q1 _ => up_I_ne q1⟩)
  · rw [show (20 : Int32) = nI 20 from rfl, nI_le_iff (by omega) (by omega)] at c
    refine ra_0 oX0_begins_9 ?_
    refine rr_gr (v := 27) oX0_begins_10 (ff_X0_11 rfl) kk_26 (wd_lt W rfl) ⟨by decide, rfl⟩ (wd_r W rfl rfl) ?_
    refine ra_0 oX0_begins_13 ?_
    refine rr_giv oX0_begins_14 (ff_X0_25 rfl) kk_26 (wd_lt W rfl) ⟨by decide, rfl⟩ hac.2.2.2.1 ?_
    refine ri_1 oX0_begins_17 ?_
    refine rr_ist oX0_begins_18 kk_27 (wd_lt W rfl) rfl (by omega) (by decide) ?_
    refine ra_0 oX0_begins_19 ?_
    refine rr_dup oX0_begins_20 rfl ?_
    refine rr_giv oX0_begins_21 (ff_X0_25 rfl) kk_26 (wd_lt W rfl) ⟨by decide, rfl⟩ (show _ = nI A.2 from by rw [up_I_ne (by omega)]; exact hac.2.2.2.1) ?_
    refine rk_1 oX0_begins_24 ?_
    refine rr_iadd oX0_begins_25 ?_
    rw [nI_1]
    refine rr_pi oX0_begins_26 (ff_X0_25 rfl) kk_26 (wd_lt W rfl) ⟨by decide, rfl, by decide⟩ pf_0_4 ⟨rfl, rfl⟩ ?_
    exact rr_return oX0_begins_29 rfl (q_m_of ⟨⟨by rw [up_I_at_ne (by omega), up_I_ne (by omega)]; exact hac.1, by rw [up_I_at_ne (by omega), up_I_ne (by omega)]; exact hac.2.1, by rw [up_I_at_ne (by omega), up_I_ne (by omega)]; exact hac.2.2.1, up_I_at, by rw [bd_2]; omega, fun i hi => by rw [up_I_ne (by omega), up_I_eq]; simp only [bd_N, if_pos (show A.2 < 20 by omega)]; by_cases q : i = A.2 <;> simp only [upd, q, if_true, if_false]; exact hac.2.2.2.2.2 i hi⟩, fun q q1 q2 => by rw [up_I_ne q1, up_I_ne q2]⟩)
theorem kd_7 {k : Int32} (h : 0 ≤ k ∧ k ≤ 6) : k = 0 ∨ k = 1 ∨ k = 2 ∨ k = 3 ∨ k = 4 ∨ k = 5 ∨ k = 6 := by
  obtain ⟨h1, h2⟩ := h
  rw [Int32.le_iff_toInt_le, show (0 : Int32).toInt = 0 by decide] at h1
  rw [Int32.le_iff_toInt_le, show (6 : Int32).toInt = 6 by decide] at h2
  have e : ∀ v : Int32, k.toInt = v.toInt → k = v := fun v hv => Int32.toInt_inj.mp hv
  rcases (show k.toInt = 0 ∨ k.toInt = 1 ∨ k.toInt = 2 ∨ k.toInt = 3 ∨ k.toInt = 4 ∨ k.toInt = 5 ∨ k.toInt = 6 by omega) with q | q | q | q | q | q | q
  · exact Or.inl (e 0 q)
  · exact Or.inr (Or.inl (e 1 q))
  · exact Or.inr (Or.inr (Or.inl (e 2 q)))
  · exact Or.inr (Or.inr (Or.inr (Or.inl (e 3 q))))
  · exact Or.inr (Or.inr (Or.inr (Or.inr (Or.inl (e 4 q)))))
  · exact Or.inr (Or.inr (Or.inr (Or.inr (Or.inr (Or.inl (e 5 q))))))
  · exact Or.inr (Or.inr (Or.inr (Or.inr (Or.inr (Or.inr (e 6 q))))))
theorem c0_X0_stands (l : Launch) {I : Nat → Nat → Int32} {L : Nat → Nat → Int64} {Rf : Nat → Nat → Option Nat} {n : Nat} (W : wd_T Rf n) {A : (Nat → Int32) × Nat} {m a : Int32} (hac : ac_T I A 0 m a) {x : Int32} (hA : A.2 < 890) : wm_C l mX0_stands 2 0 0 [vv_A (some 26), vv_I x] (I, L, Rf, n) (q_n (fun v J => v = s_stv 0 m a x ∧ ac_T J (s_stA 0 A) 0 m a ∧ ao_T I J) L Rf n) := by
  refine wm_of (by decide) (Nat.le_of_ble_eq_true rfl) rfl ?_
  have hao : ao_T I I := ao_rf
  refine ra_0 oX0_stands_0 ?_
  refine rr_giv oX0_stands_1 (ff_X0_15 rfl) kk_26 (wd_lt W rfl) ⟨by decide, rfl⟩ hac.1 ?_
  refine rk_4 oX0_stands_4 ?_
  refine rr_icmp_ne (tgt := 14) oX0_stands_5 (by decide) (fun _ => ?_) (fun q => absurd q (by decide))
  refine ra_0 oX0_stands_14 ?_
  refine rr_giv oX0_stands_15 (ff_X0_15 rfl) kk_26 (wd_lt W rfl) ⟨by decide, rfl⟩ hac.1 ?_
  refine rr_bipush (v := 6) oX0_stands_18 (by decide) ?_
  refine rr_icmp_ne (tgt := 29) oX0_stands_20 (by decide) (fun _ => ?_) (fun q => absurd q (by decide))
  refine ra_0 oX0_stands_29 ?_
  refine rr_giv oX0_stands_30 (ff_X0_15 rfl) kk_26 (wd_lt W rfl) ⟨by decide, rfl⟩ hac.1 ?_
  refine rr_cSNi (c_X4_isHouseKind l) oX0_stands_33 (cn_X0_32 rfl) (by decide) rfl rfl (Nat.le_of_ble_eq_true rfl) ?_
  refine rr_ifb_eq (tgt := 45) oX0_stands_36 (by decide) (fun c36 => ?_) (fun c36 => ?_)
  rotate_left
  · exact absurd c36 (by decide)
  refine ra_0 oX0_stands_45 ?_
  refine rr_bipush (v := 10) oX0_stands_46 (by decide) ?_
  refine rr_cVm (c_X0_begins l W hac (by first | omega | (simp only [bd_2]; omega))) oX0_stands_48 (cv_X0_28 rfl) (by decide) kk_26 (by decide) hcn_0 (wd_lt W rfl) rfl rfl (Nat.le_of_ble_eq_true rfl) (fun J hJ => ?_)
  obtain ⟨hac, hao2⟩ := hJ
  replace hao := ao_tr hao hao2
  refine ri_1 oX0_stands_51 ?_
  refine ra_0 oX0_stands_52 ?_
  refine rr_giv oX0_stands_53 (ff_X0_19 rfl) kk_26 (wd_lt W rfl) ⟨by decide, rfl⟩ hac.2.1 ?_
  refine rr_iadd oX0_stands_56 ?_
  refine si_2 oX0_stands_57 rfl rfl ?_
  refine ra_0 oX0_stands_58 ?_
  refine rr_giv oX0_stands_59 (ff_X0_15 rfl) kk_26 (wd_lt W rfl) ⟨by decide, rfl⟩ hac.1 ?_
  refine rr_cSNi (c_X4_isHouseKind l) oX0_stands_62 (cn_X0_32 rfl) (by decide) rfl rfl (Nat.le_of_ble_eq_true rfl) ?_
  refine rr_ifb_eq (tgt := 75) oX0_stands_65 (by decide) (fun c65 => ?_) (fun c65 => ?_)
  rotate_left
  · exact absurd c65 (by decide)
  refine ra_0 oX0_stands_75 ?_
  refine rr_giv oX0_stands_76 (ff_X0_15 rfl) kk_26 (wd_lt W rfl) ⟨by decide, rfl⟩ hac.1 ?_
  refine rk_4 oX0_stands_79 ?_
  refine rr_icmp_ne (tgt := 90) oX0_stands_80 (by decide) (fun _ => ?_) (fun q => absurd q (by decide))
  refine ra_0 oX0_stands_90 ?_
  refine rr_giv oX0_stands_91 (ff_X0_15 rfl) kk_26 (wd_lt W rfl) ⟨by decide, rfl⟩ hac.1 ?_
  refine rr_bipush (v := 6) oX0_stands_94 (by decide) ?_
  refine rr_icmp_ne (tgt := 105) oX0_stands_96 (by decide) (fun _ => ?_) (fun q => absurd q (by decide))
  refine ri_2 oX0_stands_105 ?_
  exact rr_ireturn oX0_stands_106 rfl rfl (q_n_of ⟨rfl, hac, hao⟩)
theorem c1_X0_stands (l : Launch) {I : Nat → Nat → Int32} {L : Nat → Nat → Int64} {Rf : Nat → Nat → Option Nat} {n : Nat} (W : wd_T Rf n) {A : (Nat → Int32) × Nat} {m a : Int32} (hac : ac_T I A 1 m a) {x : Int32} (hA : A.2 < 890) : wm_C l mX0_stands 2 0 0 [vv_A (some 26), vv_I x] (I, L, Rf, n) (q_n (fun v J => v = s_stv 1 m a x ∧ ac_T J (s_stA 1 A) 1 m a ∧ ao_T I J) L Rf n) := by
  refine wm_of (by decide) (Nat.le_of_ble_eq_true rfl) rfl ?_
  have hao : ao_T I I := ao_rf
  refine ra_0 oX0_stands_0 ?_
  refine rr_giv oX0_stands_1 (ff_X0_15 rfl) kk_26 (wd_lt W rfl) ⟨by decide, rfl⟩ hac.1 ?_
  refine rk_4 oX0_stands_4 ?_
  refine rr_icmp_ne (tgt := 14) oX0_stands_5 (by decide) (fun _ => ?_) (fun q => absurd q (by decide))
  refine ra_0 oX0_stands_14 ?_
  refine rr_giv oX0_stands_15 (ff_X0_15 rfl) kk_26 (wd_lt W rfl) ⟨by decide, rfl⟩ hac.1 ?_
  refine rr_bipush (v := 6) oX0_stands_18 (by decide) ?_
  refine rr_icmp_ne (tgt := 29) oX0_stands_20 (by decide) (fun _ => ?_) (fun q => absurd q (by decide))
  refine ra_0 oX0_stands_29 ?_
  refine rr_giv oX0_stands_30 (ff_X0_15 rfl) kk_26 (wd_lt W rfl) ⟨by decide, rfl⟩ hac.1 ?_
  refine rr_cSNi (c_X4_isHouseKind l) oX0_stands_33 (cn_X0_32 rfl) (by decide) rfl rfl (Nat.le_of_ble_eq_true rfl) ?_
  refine rr_ifb_eq (tgt := 45) oX0_stands_36 (by decide) (fun c36 => ?_) (fun c36 => ?_)
  · exact absurd c36 (by decide)
  refine ra_0 oX0_stands_39 ?_
  refine rr_bipush (v := 20) oX0_stands_40 (by decide) ?_
  refine rr_cVm (c_X0_begins l W hac (by first | omega | (simp only [bd_2]; omega))) oX0_stands_42 (cv_X0_28 rfl) (by decide) kk_26 (by decide) hcn_0 (wd_lt W rfl) rfl rfl (Nat.le_of_ble_eq_true rfl) (fun J hJ => ?_)
  obtain ⟨hac, hao2⟩ := hJ
  replace hao := ao_tr hao hao2
  refine ra_0 oX0_stands_45 ?_
  refine rr_bipush (v := 10) oX0_stands_46 (by decide) ?_
  refine rr_cVm (c_X0_begins l W hac (by first | omega | (simp only [bd_2]; omega))) oX0_stands_48 (cv_X0_28 rfl) (by decide) kk_26 (by decide) hcn_0 (wd_lt W rfl) rfl rfl (Nat.le_of_ble_eq_true rfl) (fun J hJ => ?_)
  obtain ⟨hac, hao2⟩ := hJ
  replace hao := ao_tr hao hao2
  refine ri_1 oX0_stands_51 ?_
  refine ra_0 oX0_stands_52 ?_
  refine rr_giv oX0_stands_53 (ff_X0_19 rfl) kk_26 (wd_lt W rfl) ⟨by decide, rfl⟩ hac.2.1 ?_
  refine rr_iadd oX0_stands_56 ?_
  refine si_2 oX0_stands_57 rfl rfl ?_
  refine ra_0 oX0_stands_58 ?_
  refine rr_giv oX0_stands_59 (ff_X0_15 rfl) kk_26 (wd_lt W rfl) ⟨by decide, rfl⟩ hac.1 ?_
  refine rr_cSNi (c_X4_isHouseKind l) oX0_stands_62 (cn_X0_32 rfl) (by decide) rfl rfl (Nat.le_of_ble_eq_true rfl) ?_
  refine rr_ifb_eq (tgt := 75) oX0_stands_65 (by decide) (fun c65 => ?_) (fun c65 => ?_)
  · exact absurd c65 (by decide)
  refine ri_2 oX0_stands_68 ?_
  refine ra_0 oX0_stands_69 ?_
  refine rr_giv oX0_stands_70 (ff_X0_22 rfl) kk_26 (wd_lt W rfl) ⟨by decide, rfl⟩ hac.2.2.1 ?_
  refine rr_iadd oX0_stands_73 ?_
  refine si_2 oX0_stands_74 rfl rfl ?_
  refine ra_0 oX0_stands_75 ?_
  refine rr_giv oX0_stands_76 (ff_X0_15 rfl) kk_26 (wd_lt W rfl) ⟨by decide, rfl⟩ hac.1 ?_
  refine rk_4 oX0_stands_79 ?_
  refine rr_icmp_ne (tgt := 90) oX0_stands_80 (by decide) (fun _ => ?_) (fun q => absurd q (by decide))
  refine ra_0 oX0_stands_90 ?_
  refine rr_giv oX0_stands_91 (ff_X0_15 rfl) kk_26 (wd_lt W rfl) ⟨by decide, rfl⟩ hac.1 ?_
  refine rr_bipush (v := 6) oX0_stands_94 (by decide) ?_
  refine rr_icmp_ne (tgt := 105) oX0_stands_96 (by decide) (fun _ => ?_) (fun q => absurd q (by decide))
  refine ri_2 oX0_stands_105 ?_
  exact rr_ireturn oX0_stands_106 rfl rfl (q_n_of ⟨rfl, hac, hao⟩)
theorem c2_X0_stands (l : Launch) {I : Nat → Nat → Int32} {L : Nat → Nat → Int64} {Rf : Nat → Nat → Option Nat} {n : Nat} (W : wd_T Rf n) {A : (Nat → Int32) × Nat} {m a : Int32} (hac : ac_T I A 2 m a) {x : Int32} (hA : A.2 < 890) : wm_C l mX0_stands 2 0 0 [vv_A (some 26), vv_I x] (I, L, Rf, n) (q_n (fun v J => v = s_stv 2 m a x ∧ ac_T J (s_stA 2 A) 2 m a ∧ ao_T I J) L Rf n) := by
  refine wm_of (by decide) (Nat.le_of_ble_eq_true rfl) rfl ?_
  have hao : ao_T I I := ao_rf
  refine ra_0 oX0_stands_0 ?_
  refine rr_giv oX0_stands_1 (ff_X0_15 rfl) kk_26 (wd_lt W rfl) ⟨by decide, rfl⟩ hac.1 ?_
  refine rk_4 oX0_stands_4 ?_
  refine rr_icmp_ne (tgt := 14) oX0_stands_5 (by decide) (fun _ => ?_) (fun q => absurd q (by decide))
  refine ra_0 oX0_stands_14 ?_
  refine rr_giv oX0_stands_15 (ff_X0_15 rfl) kk_26 (wd_lt W rfl) ⟨by decide, rfl⟩ hac.1 ?_
  refine rr_bipush (v := 6) oX0_stands_18 (by decide) ?_
  refine rr_icmp_ne (tgt := 29) oX0_stands_20 (by decide) (fun _ => ?_) (fun q => absurd q (by decide))
  refine ra_0 oX0_stands_29 ?_
  refine rr_giv oX0_stands_30 (ff_X0_15 rfl) kk_26 (wd_lt W rfl) ⟨by decide, rfl⟩ hac.1 ?_
  refine rr_cSNi (c_X4_isHouseKind l) oX0_stands_33 (cn_X0_32 rfl) (by decide) rfl rfl (Nat.le_of_ble_eq_true rfl) ?_
  refine rr_ifb_eq (tgt := 45) oX0_stands_36 (by decide) (fun c36 => ?_) (fun c36 => ?_)
  rotate_left
  · exact absurd c36 (by decide)
  refine ra_0 oX0_stands_45 ?_
  refine rr_bipush (v := 10) oX0_stands_46 (by decide) ?_
  refine rr_cVm (c_X0_begins l W hac (by first | omega | (simp only [bd_2]; omega))) oX0_stands_48 (cv_X0_28 rfl) (by decide) kk_26 (by decide) hcn_0 (wd_lt W rfl) rfl rfl (Nat.le_of_ble_eq_true rfl) (fun J hJ => ?_)
  obtain ⟨hac, hao2⟩ := hJ
  replace hao := ao_tr hao hao2
  refine ri_1 oX0_stands_51 ?_
  refine ra_0 oX0_stands_52 ?_
  refine rr_giv oX0_stands_53 (ff_X0_19 rfl) kk_26 (wd_lt W rfl) ⟨by decide, rfl⟩ hac.2.1 ?_
  refine rr_iadd oX0_stands_56 ?_
  refine si_2 oX0_stands_57 rfl rfl ?_
  refine ra_0 oX0_stands_58 ?_
  refine rr_giv oX0_stands_59 (ff_X0_15 rfl) kk_26 (wd_lt W rfl) ⟨by decide, rfl⟩ hac.1 ?_
  refine rr_cSNi (c_X4_isHouseKind l) oX0_stands_62 (cn_X0_32 rfl) (by decide) rfl rfl (Nat.le_of_ble_eq_true rfl) ?_
  refine rr_ifb_eq (tgt := 75) oX0_stands_65 (by decide) (fun c65 => ?_) (fun c65 => ?_)
  rotate_left
  · exact absurd c65 (by decide)
  refine ra_0 oX0_stands_75 ?_
  refine rr_giv oX0_stands_76 (ff_X0_15 rfl) kk_26 (wd_lt W rfl) ⟨by decide, rfl⟩ hac.1 ?_
  refine rk_4 oX0_stands_79 ?_
  refine rr_icmp_ne (tgt := 90) oX0_stands_80 (by decide) (fun _ => ?_) (fun q => absurd q (by decide))
  refine ra_0 oX0_stands_90 ?_
  refine rr_giv oX0_stands_91 (ff_X0_15 rfl) kk_26 (wd_lt W rfl) ⟨by decide, rfl⟩ hac.1 ?_
  refine rr_bipush (v := 6) oX0_stands_94 (by decide) ?_
  refine rr_icmp_ne (tgt := 105) oX0_stands_96 (by decide) (fun _ => ?_) (fun q => absurd q (by decide))
  refine ri_2 oX0_stands_105 ?_
  exact rr_ireturn oX0_stands_106 rfl rfl (q_n_of ⟨rfl, hac, hao⟩)
theorem c3_X0_stands (l : Launch) {I : Nat → Nat → Int32} {L : Nat → Nat → Int64} {Rf : Nat → Nat → Option Nat} {n : Nat} (W : wd_T Rf n) {A : (Nat → Int32) × Nat} {m a : Int32} (hac : ac_T I A 3 m a) {x : Int32} (hA : A.2 < 890) : wm_C l mX0_stands 2 0 0 [vv_A (some 26), vv_I x] (I, L, Rf, n) (q_n (fun v J => v = s_stv 3 m a x ∧ ac_T J (s_stA 3 A) 3 m a ∧ ao_T I J) L Rf n) := by
  refine wm_of (by decide) (Nat.le_of_ble_eq_true rfl) rfl ?_
  have hao : ao_T I I := ao_rf
  refine ra_0 oX0_stands_0 ?_
  refine rr_giv oX0_stands_1 (ff_X0_15 rfl) kk_26 (wd_lt W rfl) ⟨by decide, rfl⟩ hac.1 ?_
  refine rk_4 oX0_stands_4 ?_
  refine rr_icmp_ne (tgt := 14) oX0_stands_5 (by decide) (fun _ => ?_) (fun q => absurd q (by decide))
  refine ra_0 oX0_stands_14 ?_
  refine rr_giv oX0_stands_15 (ff_X0_15 rfl) kk_26 (wd_lt W rfl) ⟨by decide, rfl⟩ hac.1 ?_
  refine rr_bipush (v := 6) oX0_stands_18 (by decide) ?_
  refine rr_icmp_ne (tgt := 29) oX0_stands_20 (by decide) (fun _ => ?_) (fun q => absurd q (by decide))
  refine ra_0 oX0_stands_29 ?_
  refine rr_giv oX0_stands_30 (ff_X0_15 rfl) kk_26 (wd_lt W rfl) ⟨by decide, rfl⟩ hac.1 ?_
  refine rr_cSNi (c_X4_isHouseKind l) oX0_stands_33 (cn_X0_32 rfl) (by decide) rfl rfl (Nat.le_of_ble_eq_true rfl) ?_
  refine rr_ifb_eq (tgt := 45) oX0_stands_36 (by decide) (fun c36 => ?_) (fun c36 => ?_)
  · exact absurd c36 (by decide)
  refine ra_0 oX0_stands_39 ?_
  refine rr_bipush (v := 20) oX0_stands_40 (by decide) ?_
  refine rr_cVm (c_X0_begins l W hac (by first | omega | (simp only [bd_2]; omega))) oX0_stands_42 (cv_X0_28 rfl) (by decide) kk_26 (by decide) hcn_0 (wd_lt W rfl) rfl rfl (Nat.le_of_ble_eq_true rfl) (fun J hJ => ?_)
  obtain ⟨hac, hao2⟩ := hJ
  replace hao := ao_tr hao hao2
  refine ra_0 oX0_stands_45 ?_
  refine rr_bipush (v := 10) oX0_stands_46 (by decide) ?_
  refine rr_cVm (c_X0_begins l W hac (by first | omega | (simp only [bd_2]; omega))) oX0_stands_48 (cv_X0_28 rfl) (by decide) kk_26 (by decide) hcn_0 (wd_lt W rfl) rfl rfl (Nat.le_of_ble_eq_true rfl) (fun J hJ => ?_)
  obtain ⟨hac, hao2⟩ := hJ
  replace hao := ao_tr hao hao2
  refine ri_1 oX0_stands_51 ?_
  refine ra_0 oX0_stands_52 ?_
  refine rr_giv oX0_stands_53 (ff_X0_19 rfl) kk_26 (wd_lt W rfl) ⟨by decide, rfl⟩ hac.2.1 ?_
  refine rr_iadd oX0_stands_56 ?_
  refine si_2 oX0_stands_57 rfl rfl ?_
  refine ra_0 oX0_stands_58 ?_
  refine rr_giv oX0_stands_59 (ff_X0_15 rfl) kk_26 (wd_lt W rfl) ⟨by decide, rfl⟩ hac.1 ?_
  refine rr_cSNi (c_X4_isHouseKind l) oX0_stands_62 (cn_X0_32 rfl) (by decide) rfl rfl (Nat.le_of_ble_eq_true rfl) ?_
  refine rr_ifb_eq (tgt := 75) oX0_stands_65 (by decide) (fun c65 => ?_) (fun c65 => ?_)
  · exact absurd c65 (by decide)
  refine ri_2 oX0_stands_68 ?_
  refine ra_0 oX0_stands_69 ?_
  refine rr_giv oX0_stands_70 (ff_X0_22 rfl) kk_26 (wd_lt W rfl) ⟨by decide, rfl⟩ hac.2.2.1 ?_
  refine rr_iadd oX0_stands_73 ?_
  refine si_2 oX0_stands_74 rfl rfl ?_
  refine ra_0 oX0_stands_75 ?_
  refine rr_giv oX0_stands_76 (ff_X0_15 rfl) kk_26 (wd_lt W rfl) ⟨by decide, rfl⟩ hac.1 ?_
  refine rk_4 oX0_stands_79 ?_
  refine rr_icmp_ne (tgt := 90) oX0_stands_80 (by decide) (fun _ => ?_) (fun q => absurd q (by decide))
  refine ra_0 oX0_stands_90 ?_
  refine rr_giv oX0_stands_91 (ff_X0_15 rfl) kk_26 (wd_lt W rfl) ⟨by decide, rfl⟩ hac.1 ?_
  refine rr_bipush (v := 6) oX0_stands_94 (by decide) ?_
  refine rr_icmp_ne (tgt := 105) oX0_stands_96 (by decide) (fun _ => ?_) (fun q => absurd q (by decide))
  refine ri_2 oX0_stands_105 ?_
  exact rr_ireturn oX0_stands_106 rfl rfl (q_n_of ⟨rfl, hac, hao⟩)
theorem c4_X0_stands (l : Launch) {I : Nat → Nat → Int32} {L : Nat → Nat → Int64} {Rf : Nat → Nat → Option Nat} {n : Nat} (W : wd_T Rf n) {A : (Nat → Int32) × Nat} {m a : Int32} (hac : ac_T I A 4 m a) {x : Int32} (hA : A.2 < 890) : wm_C l mX0_stands 2 0 0 [vv_A (some 26), vv_I x] (I, L, Rf, n) (q_n (fun v J => v = s_stv 4 m a x ∧ ac_T J (s_stA 4 A) 4 m a ∧ ao_T I J) L Rf n) := by
  refine wm_of (by decide) (Nat.le_of_ble_eq_true rfl) rfl ?_
  have hao : ao_T I I := ao_rf
  refine ra_0 oX0_stands_0 ?_
  refine rr_giv oX0_stands_1 (ff_X0_15 rfl) kk_26 (wd_lt W rfl) ⟨by decide, rfl⟩ hac.1 ?_
  refine rk_4 oX0_stands_4 ?_
  refine rr_icmp_ne (tgt := 14) oX0_stands_5 (by decide) (fun q => absurd q (by decide)) (fun _ => ?_)
  refine ra_0 oX0_stands_8 ?_
  refine rr_bipush (v := 51) oX0_stands_9 (by decide) ?_
  refine rr_cVm (c_X0_begins l W hac (by first | omega | (simp only [bd_2]; omega))) oX0_stands_11 (cv_X0_28 rfl) (by decide) kk_26 (by decide) hcn_0 (wd_lt W rfl) rfl rfl (Nat.le_of_ble_eq_true rfl) (fun J hJ => ?_)
  obtain ⟨hac, hao2⟩ := hJ
  replace hao := ao_tr hao hao2
  refine ra_0 oX0_stands_14 ?_
  refine rr_giv oX0_stands_15 (ff_X0_15 rfl) kk_26 (wd_lt W rfl) ⟨by decide, rfl⟩ hac.1 ?_
  refine rr_bipush (v := 6) oX0_stands_18 (by decide) ?_
  refine rr_icmp_ne (tgt := 29) oX0_stands_20 (by decide) (fun _ => ?_) (fun q => absurd q (by decide))
  refine ra_0 oX0_stands_29 ?_
  refine rr_giv oX0_stands_30 (ff_X0_15 rfl) kk_26 (wd_lt W rfl) ⟨by decide, rfl⟩ hac.1 ?_
  refine rr_cSNi (c_X4_isHouseKind l) oX0_stands_33 (cn_X0_32 rfl) (by decide) rfl rfl (Nat.le_of_ble_eq_true rfl) ?_
  refine rr_ifb_eq (tgt := 45) oX0_stands_36 (by decide) (fun c36 => ?_) (fun c36 => ?_)
  · exact absurd c36 (by decide)
  refine ra_0 oX0_stands_39 ?_
  refine rr_bipush (v := 20) oX0_stands_40 (by decide) ?_
  refine rr_cVm (c_X0_begins l W hac (by first | omega | (simp only [bd_2]; omega))) oX0_stands_42 (cv_X0_28 rfl) (by decide) kk_26 (by decide) hcn_0 (wd_lt W rfl) rfl rfl (Nat.le_of_ble_eq_true rfl) (fun J hJ => ?_)
  obtain ⟨hac, hao2⟩ := hJ
  replace hao := ao_tr hao hao2
  refine ra_0 oX0_stands_45 ?_
  refine rr_bipush (v := 10) oX0_stands_46 (by decide) ?_
  refine rr_cVm (c_X0_begins l W hac (by first | omega | (simp only [bd_2]; omega))) oX0_stands_48 (cv_X0_28 rfl) (by decide) kk_26 (by decide) hcn_0 (wd_lt W rfl) rfl rfl (Nat.le_of_ble_eq_true rfl) (fun J hJ => ?_)
  obtain ⟨hac, hao2⟩ := hJ
  replace hao := ao_tr hao hao2
  refine ri_1 oX0_stands_51 ?_
  refine ra_0 oX0_stands_52 ?_
  refine rr_giv oX0_stands_53 (ff_X0_19 rfl) kk_26 (wd_lt W rfl) ⟨by decide, rfl⟩ hac.2.1 ?_
  refine rr_iadd oX0_stands_56 ?_
  refine si_2 oX0_stands_57 rfl rfl ?_
  refine ra_0 oX0_stands_58 ?_
  refine rr_giv oX0_stands_59 (ff_X0_15 rfl) kk_26 (wd_lt W rfl) ⟨by decide, rfl⟩ hac.1 ?_
  refine rr_cSNi (c_X4_isHouseKind l) oX0_stands_62 (cn_X0_32 rfl) (by decide) rfl rfl (Nat.le_of_ble_eq_true rfl) ?_
  refine rr_ifb_eq (tgt := 75) oX0_stands_65 (by decide) (fun c65 => ?_) (fun c65 => ?_)
  · exact absurd c65 (by decide)
  refine ri_2 oX0_stands_68 ?_
  refine ra_0 oX0_stands_69 ?_
  refine rr_giv oX0_stands_70 (ff_X0_22 rfl) kk_26 (wd_lt W rfl) ⟨by decide, rfl⟩ hac.2.2.1 ?_
  refine rr_iadd oX0_stands_73 ?_
  refine si_2 oX0_stands_74 rfl rfl ?_
  refine ra_0 oX0_stands_75 ?_
  refine rr_giv oX0_stands_76 (ff_X0_15 rfl) kk_26 (wd_lt W rfl) ⟨by decide, rfl⟩ hac.1 ?_
  refine rk_4 oX0_stands_79 ?_
  refine rr_icmp_ne (tgt := 90) oX0_stands_80 (by decide) (fun q => absurd q (by decide)) (fun _ => ?_)
  refine ri_2 oX0_stands_83 ?_
  refine ra_0 oX0_stands_84 ?_
  refine rr_giv oX0_stands_85 (ff_X0_19 rfl) kk_26 (wd_lt W rfl) ⟨by decide, rfl⟩ hac.2.1 ?_
  refine rr_isub oX0_stands_88 ?_
  refine si_2 oX0_stands_89 rfl rfl ?_
  refine ra_0 oX0_stands_90 ?_
  refine rr_giv oX0_stands_91 (ff_X0_15 rfl) kk_26 (wd_lt W rfl) ⟨by decide, rfl⟩ hac.1 ?_
  refine rr_bipush (v := 6) oX0_stands_94 (by decide) ?_
  refine rr_icmp_ne (tgt := 105) oX0_stands_96 (by decide) (fun _ => ?_) (fun q => absurd q (by decide))
  refine ri_2 oX0_stands_105 ?_
  exact rr_ireturn oX0_stands_106 rfl rfl (q_n_of ⟨rfl, hac, hao⟩)
theorem c5_X0_stands (l : Launch) {I : Nat → Nat → Int32} {L : Nat → Nat → Int64} {Rf : Nat → Nat → Option Nat} {n : Nat} (W : wd_T Rf n) {A : (Nat → Int32) × Nat} {m a : Int32} (hac : ac_T I A 5 m a) {x : Int32} (hA : A.2 < 890) : wm_C l mX0_stands 2 0 0 [vv_A (some 26), vv_I x] (I, L, Rf, n) (q_n (fun v J => v = s_stv 5 m a x ∧ ac_T J (s_stA 5 A) 5 m a ∧ ao_T I J) L Rf n) := by
  refine wm_of (by decide) (Nat.le_of_ble_eq_true rfl) rfl ?_
  have hao : ao_T I I := ao_rf
  refine ra_0 oX0_stands_0 ?_
  refine rr_giv oX0_stands_1 (ff_X0_15 rfl) kk_26 (wd_lt W rfl) ⟨by decide, rfl⟩ hac.1 ?_
  refine rk_4 oX0_stands_4 ?_
  refine rr_icmp_ne (tgt := 14) oX0_stands_5 (by decide) (fun _ => ?_) (fun q => absurd q (by decide))
  refine ra_0 oX0_stands_14 ?_
  refine rr_giv oX0_stands_15 (ff_X0_15 rfl) kk_26 (wd_lt W rfl) ⟨by decide, rfl⟩ hac.1 ?_
  refine rr_bipush (v := 6) oX0_stands_18 (by decide) ?_
  refine rr_icmp_ne (tgt := 29) oX0_stands_20 (by decide) (fun _ => ?_) (fun q => absurd q (by decide))
  refine ra_0 oX0_stands_29 ?_
  refine rr_giv oX0_stands_30 (ff_X0_15 rfl) kk_26 (wd_lt W rfl) ⟨by decide, rfl⟩ hac.1 ?_
  refine rr_cSNi (c_X4_isHouseKind l) oX0_stands_33 (cn_X0_32 rfl) (by decide) rfl rfl (Nat.le_of_ble_eq_true rfl) ?_
  refine rr_ifb_eq (tgt := 45) oX0_stands_36 (by decide) (fun c36 => ?_) (fun c36 => ?_)
  · exact absurd c36 (by decide)
  refine ra_0 oX0_stands_39 ?_
  refine rr_bipush (v := 20) oX0_stands_40 (by decide) ?_
  refine rr_cVm (c_X0_begins l W hac (by first | omega | (simp only [bd_2]; omega))) oX0_stands_42 (cv_X0_28 rfl) (by decide) kk_26 (by decide) hcn_0 (wd_lt W rfl) rfl rfl (Nat.le_of_ble_eq_true rfl) (fun J hJ => ?_)
  obtain ⟨hac, hao2⟩ := hJ
  replace hao := ao_tr hao hao2
  refine ra_0 oX0_stands_45 ?_
  refine rr_bipush (v := 10) oX0_stands_46 (by decide) ?_
  refine rr_cVm (c_X0_begins l W hac (by first | omega | (simp only [bd_2]; omega))) oX0_stands_48 (cv_X0_28 rfl) (by decide) kk_26 (by decide) hcn_0 (wd_lt W rfl) rfl rfl (Nat.le_of_ble_eq_true rfl) (fun J hJ => ?_)
  obtain ⟨hac, hao2⟩ := hJ
  replace hao := ao_tr hao hao2
  refine ri_1 oX0_stands_51 ?_
  refine ra_0 oX0_stands_52 ?_
  refine rr_giv oX0_stands_53 (ff_X0_19 rfl) kk_26 (wd_lt W rfl) ⟨by decide, rfl⟩ hac.2.1 ?_
  refine rr_iadd oX0_stands_56 ?_
  refine si_2 oX0_stands_57 rfl rfl ?_
  refine ra_0 oX0_stands_58 ?_
  refine rr_giv oX0_stands_59 (ff_X0_15 rfl) kk_26 (wd_lt W rfl) ⟨by decide, rfl⟩ hac.1 ?_
  refine rr_cSNi (c_X4_isHouseKind l) oX0_stands_62 (cn_X0_32 rfl) (by decide) rfl rfl (Nat.le_of_ble_eq_true rfl) ?_
  refine rr_ifb_eq (tgt := 75) oX0_stands_65 (by decide) (fun c65 => ?_) (fun c65 => ?_)
  · exact absurd c65 (by decide)
  refine ri_2 oX0_stands_68 ?_
  refine ra_0 oX0_stands_69 ?_
  refine rr_giv oX0_stands_70 (ff_X0_22 rfl) kk_26 (wd_lt W rfl) ⟨by decide, rfl⟩ hac.2.2.1 ?_
  refine rr_iadd oX0_stands_73 ?_
  refine si_2 oX0_stands_74 rfl rfl ?_
  refine ra_0 oX0_stands_75 ?_
  refine rr_giv oX0_stands_76 (ff_X0_15 rfl) kk_26 (wd_lt W rfl) ⟨by decide, rfl⟩ hac.1 ?_
  refine rk_4 oX0_stands_79 ?_
  refine rr_icmp_ne (tgt := 90) oX0_stands_80 (by decide) (fun _ => ?_) (fun q => absurd q (by decide))
  refine ra_0 oX0_stands_90 ?_
  refine rr_giv oX0_stands_91 (ff_X0_15 rfl) kk_26 (wd_lt W rfl) ⟨by decide, rfl⟩ hac.1 ?_
  refine rr_bipush (v := 6) oX0_stands_94 (by decide) ?_
  refine rr_icmp_ne (tgt := 105) oX0_stands_96 (by decide) (fun _ => ?_) (fun q => absurd q (by decide))
  refine ri_2 oX0_stands_105 ?_
  exact rr_ireturn oX0_stands_106 rfl rfl (q_n_of ⟨rfl, hac, hao⟩)
theorem c6_X0_stands (l : Launch) {I : Nat → Nat → Int32} {L : Nat → Nat → Int64} {Rf : Nat → Nat → Option Nat} {n : Nat} (W : wd_T Rf n) {A : (Nat → Int32) × Nat} {m a : Int32} (hac : ac_T I A 6 m a) {x : Int32} (hA : A.2 < 890) : wm_C l mX0_stands 2 0 0 [vv_A (some 26), vv_I x] (I, L, Rf, n) (q_n (fun v J => v = s_stv 6 m a x ∧ ac_T J (s_stA 6 A) 6 m a ∧ ao_T I J) L Rf n) := by
  refine wm_of (by decide) (Nat.le_of_ble_eq_true rfl) rfl ?_
  have hao : ao_T I I := ao_rf
  refine ra_0 oX0_stands_0 ?_
  refine rr_giv oX0_stands_1 (ff_X0_15 rfl) kk_26 (wd_lt W rfl) ⟨by decide, rfl⟩ hac.1 ?_
  refine rk_4 oX0_stands_4 ?_
  refine rr_icmp_ne (tgt := 14) oX0_stands_5 (by decide) (fun _ => ?_) (fun q => absurd q (by decide))
  refine ra_0 oX0_stands_14 ?_
  refine rr_giv oX0_stands_15 (ff_X0_15 rfl) kk_26 (wd_lt W rfl) ⟨by decide, rfl⟩ hac.1 ?_
  refine rr_bipush (v := 6) oX0_stands_18 (by decide) ?_
  refine rr_icmp_ne (tgt := 29) oX0_stands_20 (by decide) (fun q => absurd q (by decide)) (fun _ => ?_)
  refine ra_0 oX0_stands_23 ?_
  refine rr_bipush (v := 70) oX0_stands_24 (by decide) ?_
  refine rr_cVm (c_X0_begins l W hac (by first | omega | (simp only [bd_2]; omega))) oX0_stands_26 (cv_X0_28 rfl) (by decide) kk_26 (by decide) hcn_0 (wd_lt W rfl) rfl rfl (Nat.le_of_ble_eq_true rfl) (fun J hJ => ?_)
  obtain ⟨hac, hao2⟩ := hJ
  replace hao := ao_tr hao hao2
  refine ra_0 oX0_stands_29 ?_
  refine rr_giv oX0_stands_30 (ff_X0_15 rfl) kk_26 (wd_lt W rfl) ⟨by decide, rfl⟩ hac.1 ?_
  refine rr_cSNi (c_X4_isHouseKind l) oX0_stands_33 (cn_X0_32 rfl) (by decide) rfl rfl (Nat.le_of_ble_eq_true rfl) ?_
  refine rr_ifb_eq (tgt := 45) oX0_stands_36 (by decide) (fun c36 => ?_) (fun c36 => ?_)
  rotate_left
  · exact absurd c36 (by decide)
  refine ra_0 oX0_stands_45 ?_
  refine rr_bipush (v := 10) oX0_stands_46 (by decide) ?_
  refine rr_cVm (c_X0_begins l W hac (by first | omega | (simp only [bd_2]; omega))) oX0_stands_48 (cv_X0_28 rfl) (by decide) kk_26 (by decide) hcn_0 (wd_lt W rfl) rfl rfl (Nat.le_of_ble_eq_true rfl) (fun J hJ => ?_)
  obtain ⟨hac, hao2⟩ := hJ
  replace hao := ao_tr hao hao2
  refine ri_1 oX0_stands_51 ?_
  refine ra_0 oX0_stands_52 ?_
  refine rr_giv oX0_stands_53 (ff_X0_19 rfl) kk_26 (wd_lt W rfl) ⟨by decide, rfl⟩ hac.2.1 ?_
  refine rr_iadd oX0_stands_56 ?_
  refine si_2 oX0_stands_57 rfl rfl ?_
  refine ra_0 oX0_stands_58 ?_
  refine rr_giv oX0_stands_59 (ff_X0_15 rfl) kk_26 (wd_lt W rfl) ⟨by decide, rfl⟩ hac.1 ?_
  refine rr_cSNi (c_X4_isHouseKind l) oX0_stands_62 (cn_X0_32 rfl) (by decide) rfl rfl (Nat.le_of_ble_eq_true rfl) ?_
  refine rr_ifb_eq (tgt := 75) oX0_stands_65 (by decide) (fun c65 => ?_) (fun c65 => ?_)
  rotate_left
  · exact absurd c65 (by decide)
  refine ra_0 oX0_stands_75 ?_
  refine rr_giv oX0_stands_76 (ff_X0_15 rfl) kk_26 (wd_lt W rfl) ⟨by decide, rfl⟩ hac.1 ?_
  refine rk_4 oX0_stands_79 ?_
  refine rr_icmp_ne (tgt := 90) oX0_stands_80 (by decide) (fun _ => ?_) (fun q => absurd q (by decide))
  refine ra_0 oX0_stands_90 ?_
  refine rr_giv oX0_stands_91 (ff_X0_15 rfl) kk_26 (wd_lt W rfl) ⟨by decide, rfl⟩ hac.1 ?_
  refine rr_bipush (v := 6) oX0_stands_94 (by decide) ?_
  refine rr_icmp_ne (tgt := 105) oX0_stands_96 (by decide) (fun q => absurd q (by decide)) (fun _ => ?_)
  refine ri_2 oX0_stands_99 ?_
  refine rk_2 oX0_stands_100 ?_
  refine rr_imul oX0_stands_101 ?_
  refine rr_goto (tgt := 106) oX0_stands_102 (by decide) ?_
  exact rr_ireturn oX0_stands_106 rfl rfl (q_n_of ⟨rfl, hac, hao⟩)
theorem c_X0_stands (l : Launch) {I : Nat → Nat → Int32} {L : Nat → Nat → Int64} {Rf : Nat → Nat → Option Nat} {n : Nat} (W : wd_T Rf n) {A : (Nat → Int32) × Nat} {k m a : Int32} (hac : ac_T I A k m a) (hk : 0 ≤ k ∧ k ≤ 6) {x : Int32} (hA : A.2 < 890) : wm_C l mX0_stands 2 0 0 [vv_A (some 26), vv_I x] (I, L, Rf, n) (q_n (fun v J => v = s_stv k m a x ∧ ac_T J (s_stA k A) k m a ∧ ao_T I J) L Rf n) := by
  rcases kd_7 hk with rfl | rfl | rfl | rfl | rfl | rfl | rfl
  · exact c0_X0_stands l W hac hA
  · exact c1_X0_stands l W hac hA
  · exact c2_X0_stands l W hac hA
  · exact c3_X0_stands l W hac hA
  · exact c4_X0_stands l W hac hA
  · exact c5_X0_stands l W hac hA
  · exact c6_X0_stands l W hac hA
