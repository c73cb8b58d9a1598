/-! SeenByOne: bodies, opens, image, years, pairs, back, most (by program: wip/whole/c22.py) -/
/-- bodies: what is kept, how many ran -/
def bd_N (A : (Nat → Int32) × Nat) (b : Int32) : (Nat → Int32) × Nat := (if A.2 < 20 then upd A.1 A.2 b else A.1, A.2 + 1)
def ac_T (I : Nat → Nat → Int32) (A : (Nat → Int32) × Nat) (k m a : Int32) : Prop := I 26 1 = k ∧ I 26 2 = m ∧ I 26 3 = a ∧ I 26 4 = nI A.2 ∧ A.2 < 1000 ∧ ∀ i, i < 20 → I 27 i = A.1 i
def ao_T (I J : Nat → Nat → Int32) : Prop := ∀ q, q ≠ 26 → q ≠ 27 → J q = I q
theorem ao_tr {I J K : Nat → Nat → Int32} (h1 : ao_T I J) (h2 : ao_T J K) : ao_T I K := fun q a b => (h2 q a b).trans (h1 q a b)
theorem ao_rf {I : Nat → Nat → Int32} : ao_T I I := fun _ _ _ => rfl
def s_stA (k : Int32) (A : (Nat → Int32) × Nat) : (Nat → Int32) × Nat :=
  bd_N (if is_H k then bd_N (if k = 6 then bd_N (if k = 4 then bd_N A 51 else A) 70 else (if k = 4 then bd_N A 51 else A)) 20 else (if k = 6 then bd_N (if k = 4 then bd_N A 51 else A) 70 else (if k = 4 then bd_N A 51 else A))) 10
def s_stv (k m a x : Int32) : Int32 := if k = 6 then (if k = 4 then (if is_H k then x + m + a else x + m) - m else (if is_H k then x + m + a else x + m)) * 2 else (if k = 4 then (if is_H k then x + m + a else x + m) - m else (if is_H k then x + m + a else x + m))
def s_lox (k a x : Int32) : Int32 := if k = 6 then x - a else if k = 3 then x + 1 else x
def s_loA (k : Int32) (A : (Nat → Int32) × Nat) : (Nat → Int32) × Nat :=
  bd_N (if is_Tr k then bd_N (if k = 6 then bd_N (if k = 3 then bd_N A 40 else A) 71 else (if k = 3 then bd_N A 40 else A)) 30 else (if k = 6 then bd_N (if k = 3 then bd_N A 40 else A) 71 else (if k = 3 then bd_N A 40 else A))) 11
def s_lov (k m a x : Int32) : Int32 := if is_Tr k then s_stv k m a (s_lox k a x) * 2 * 3 else s_stv k m a (s_lox k a x) * 2
def s_hiA (k : Int32) (A : (Nat → Int32) × Nat) : (Nat → Int32) × Nat := bd_N (if k = 5 then bd_N (if k = 4 then bd_N A 50 else A) 60 else (if k = 4 then bd_N A 50 else A)) 12
def s_hiv (k m a x : Int32) : Int32 := if k = 4 then -(s_lov k m a x ^^^ s_stv k m a (x - a)) else if k = 5 then (s_lov k m a x ^^^ s_stv k m a (x - a)) ^^^ 5 else s_lov k m a x ^^^ s_stv k m a (x - a)
theorem bd_2 {A : (Nat → Int32) × Nat} {b : Int32} : (bd_N A b).2 = A.2 + 1 := rfl
theorem c_X0_begins (l : Launch) {I : Nat → Nat → Int32} {L : Nat → Nat → Int64} {Rf : Nat → Nat → Option Nat} {n : Nat} (W : wd_T Rf n) {A : (Nat → Int32) × Nat} {k m a : Int32} (hac : ac_T I A k m a) {b : Int32} (hA : A.2 < 900) : wm_C l mX0_begins 1 0 0 [vv_A (some 26), vv_I b] (I, L, Rf, n) (q_m (fun J => ac_T J (bd_N A b) k m a ∧ ao_T I J) L Rf n) := by
  refine wm_of (by decide) (Nat.le_of_ble_eq_true rfl) rfl ?_
  refine ra_0 oX0_begins_0 ?_
  refine rr_giv oX0_begins_1 (ff_X0_25 rfl) kk_26 (wd_lt W rfl) ⟨by decide, rfl⟩ hac.2.2.2.1 ?_
  refine rr_bipush (v := 20) oX0_begins_4 (by decide) ?_
  refine rr_icmp_ge (tgt := 19) oX0_begins_6 (by decide) (fun c => ?_) (fun c => ?_)
  · rw [show (20 : Int32) = nI 20 from rfl, nI_le_iff (by omega) (by omega)] at c
    refine ra_0 oX0_begins_19 ?_
    refine rr_dup oX0_begins_20 rfl ?_
    refine rr_giv oX0_begins_21 (ff_X0_25 rfl) kk_26 (wd_lt W rfl) ⟨by decide, rfl⟩ hac.2.2.2.1 ?_
    refine rk_1 oX0_begins_24 ?_
    refine rr_iadd oX0_begins_25 ?_
    rw [nI_1]
    refine rr_pi oX0_begins_26 (ff_X0_25 rfl) kk_26 (wd_lt W rfl) ⟨by decide, rfl, by decide⟩ pf_0_4 ⟨rfl, rfl⟩ ?_
    exact rr_return oX0_begins_29 rfl (q_m_of ⟨⟨by rw [up_I_at_ne (by omega)]; exact hac.1, by rw [up_I_at_ne (by omega)]; exact hac.2.1, by rw [up_I_at_ne (by omega)]; exact hac.2.2.1, up_I_at, by rw [bd_2]; omega, fun i hi => by rw [up_I_ne (by omega)]; simp only [bd_N, if_neg (show ¬ A.2 < 20 by omega)]; exact hac.2.2.2.2.2 i hi⟩, fun q q1 _ => up_I_ne q1⟩)
  · rw [show (20 : Int32) = nI 20 from rfl, nI_le_iff (by omega) (by omega)] at c
    refine ra_0 oX0_begins_9 ?_
    refine rr_gr (v := 27) oX0_begins_10 (ff_X0_11 rfl) kk_26 (wd_lt W rfl) ⟨by decide, rfl⟩ (wd_r W rfl rfl) ?_
    refine ra_0 oX0_begins_13 ?_
    refine rr_giv oX0_begins_14 (ff_X0_25 rfl) kk_26 (wd_lt W rfl) ⟨by decide, rfl⟩ hac.2.2.2.1 ?_
    refine ri_1 oX0_begins_17 ?_
    refine rr_ist oX0_begins_18 kk_27 (wd_lt W rfl) rfl (by omega) (by decide) ?_
    refine ra_0 oX0_begins_19 ?_
    refine rr_dup oX0_begins_20 rfl ?_
    refine rr_giv oX0_begins_21 (ff_X0_25 rfl) kk_26 (wd_lt W rfl) ⟨by decide, rfl⟩ (show _ = nI A.2 from by rw [up_I_ne (by omega)]; exact hac.2.2.2.1) ?_
    refine rk_1 oX0_begins_24 ?_
    refine rr_iadd oX0_begins_25 ?_
    rw [nI_1]
    refine rr_pi oX0_begins_26 (ff_X0_25 rfl) kk_26 (wd_lt W rfl) ⟨by decide, rfl, by decide⟩ pf_0_4 ⟨rfl, rfl⟩ ?_
    exact rr_return oX0_begins_29 rfl (q_m_of ⟨⟨by rw [up_I_at_ne (by omega), up_I_ne (by omega)]; exact hac.1, by rw [up_I_at_ne (by omega), up_I_ne (by omega)]; exact hac.2.1, by rw [up_I_at_ne (by omega), up_I_ne (by omega)]; exact hac.2.2.1, up_I_at, by rw [bd_2]; omega, fun i hi => by rw [up_I_ne (by omega), up_I_eq]; simp only [bd_N, if_pos (show A.2 < 20 by omega)]; by_cases q : i = A.2 <;> simp only [upd, q, if_true, if_false]; exact hac.2.2.2.2.2 i hi⟩, fun q q1 q2 => by rw [up_I_ne q1, up_I_ne q2]⟩)
theorem kd_7 {k : Int32} (h : 0 ≤ k ∧ k ≤ 6) : k = 0 ∨ k = 1 ∨ k = 2 ∨ k = 3 ∨ k = 4 ∨ k = 5 ∨ k = 6 := by
  obtain ⟨h1, h2⟩ := h
  rw [Int32.le_iff_toInt_le, show (0 : Int32).toInt = 0 by decide] at h1
  rw [Int32.le_iff_toInt_le, show (6 : Int32).toInt = 6 by decide] at h2
  have e : ∀ v : Int32, k.toInt = v.toInt → k = v := fun v hv => Int32.toInt_inj.mp hv
  rcases (show k.toInt = 0 ∨ k.toInt = 1 ∨ k.toInt = 2 ∨ k.toInt = 3 ∨ k.toInt = 4 ∨ k.toInt = 5 ∨ k.toInt = 6 by omega) with q | q | q | q | q | q | q
  · exact Or.inl (e 0 q)
  · exact Or.inr (Or.inl (e 1 q))
  · exact Or.inr (Or.inr (Or.inl (e 2 q)))
  · exact Or.inr (Or.inr (Or.inr (Or.inl (e 3 q))))
  · exact Or.inr (Or.inr (Or.inr (Or.inr (Or.inl (e 4 q)))))
  · exact Or.inr (Or.inr (Or.inr (Or.inr (Or.inr (Or.inl (e 5 q))))))
  · exact Or.inr (Or.inr (Or.inr (Or.inr (Or.inr (Or.inr (e 6 q))))))
theorem c0_X0_stands (l : Launch) {I : Nat → Nat → Int32} {L : Nat → Nat → Int64} {Rf : Nat → Nat → Option Nat} {n : Nat} (W : wd_T Rf n) {A : (Nat → Int32) × Nat} {m a : Int32} (hac : ac_T I A 0 m a) {x : Int32} (hA : A.2 < 890) : wm_C l mX0_stands 2 0 0 [vv_A (some 26), vv_I x] (I, L, Rf, n) (q_n (fun v J => v = s_stv 0 m a x ∧ ac_T J (s_stA 0 A) 0 m a ∧ ao_T I J) L Rf n) := by
  refine wm_of (by decide) (Nat.le_of_ble_eq_true rfl) rfl ?_
  have hao : ao_T I I := ao_rf
  refine ra_0 oX0_stands_0 ?_
  refine rr_giv oX0_stands_1 (ff_X0_15 rfl) kk_26 (wd_lt W rfl) ⟨by decide, rfl⟩ hac.1 ?_
  refine rk_4 oX0_stands_4 ?_
  refine rr_icmp_ne (tgt := 14) oX0_stands_5 (by decide) (fun _ => ?_) (fun q => absurd q (by decide))
  refine ra_0 oX0_stands_14 ?_
  refine rr_giv oX0_stands_15 (ff_X0_15 rfl) kk_26 (wd_lt W rfl) ⟨by decide, rfl⟩ hac.1 ?_
  refine rr_bipush (v := 6) oX0_stands_18 (by decide) ?_
  refine rr_icmp_ne (tgt := 29) oX0_stands_20 (by decide) (fun _ => ?_) (fun q => absurd q (by decide))
  refine ra_0 oX0_stands_29 ?_
  refine rr_giv oX0_stands_30 (ff_X0_15 rfl) kk_26 (wd_lt W rfl) ⟨by decide, rfl⟩ hac.1 ?_
  refine rr_cSNi (c_X4_isHouseKind l) oX0_stands_33 (cn_X0_32 rfl) (by decide) rfl rfl (Nat.le_of_ble_eq_true rfl) ?_
  refine rr_ifb_eq (tgt := 45) oX0_stands_36 (by decide) (fun c36 => ?_) (fun c36 => ?_)
  rotate_left
  · exact absurd c36 (by decide)
  refine ra_0 oX0_stands_45 ?_
  refine rr_bipush (v := 10) oX0_stands_46 (by decide) ?_
  refine rr_cVm (c_X0_begins l W hac (by first | omega | (simp only [bd_2]; omega))) oX0_stands_48 (cv_X0_28 rfl) (by decide) kk_26 (by decide) hcn_0 (wd_lt W rfl) rfl rfl (Nat.le_of_ble_eq_true rfl) (fun J hJ => ?_)
  obtain ⟨hac, hao2⟩ := hJ
  replace hao := ao_tr hao hao2
  refine ri_1 oX0_stands_51 ?_
  refine ra_0 oX0_stands_52 ?_
  refine rr_giv oX0_stands_53 (ff_X0_19 rfl) kk_26 (wd_lt W rfl) ⟨by decide, rfl⟩ hac.2.1 ?_
  refine rr_iadd oX0_stands_56 ?_
  refine si_2 oX0_stands_57 rfl rfl ?_
  refine ra_0 oX0_stands_58 ?_
  refine rr_giv oX0_stands_59 (ff_X0_15 rfl) kk_26 (wd_lt W rfl) ⟨by decide, rfl⟩ hac.1 ?_
  refine rr_cSNi (c_X4_isHouseKind l) oX0_stands_62 (cn_X0_32 rfl) (by decide) rfl rfl (Nat.le_of_ble_eq_true rfl) ?_
  refine rr_ifb_eq (tgt := 75) oX0_stands_65 (by decide) (fun c65 => ?_) (fun c65 => ?_)
  rotate_left
  · exact absurd c65 (by decide)
  refine ra_0 oX0_stands_75 ?_
  refine rr_giv oX0_stands_76 (ff_X0_15 rfl) kk_26 (wd_lt W rfl) ⟨by decide, rfl⟩ hac.1 ?_
  refine rk_4 oX0_stands_79 ?_
  refine rr_icmp_ne (tgt := 90) oX0_stands_80 (by decide) (fun _ => ?_) (fun q => absurd q (by decide))
  refine ra_0 oX0_stands_90 ?_
  refine rr_giv oX0_stands_91 (ff_X0_15 rfl) kk_26 (wd_lt W rfl) ⟨by decide, rfl⟩ hac.1 ?_
  refine rr_bipush (v := 6) oX0_stands_94 (by decide) ?_
  refine rr_icmp_ne (tgt := 105) oX0_stands_96 (by decide) (fun _ => ?_) (fun q => absurd q (by decide))
  refine ri_2 oX0_stands_105 ?_
  exact rr_ireturn oX0_stands_106 rfl rfl (q_n_of ⟨rfl, hac, hao⟩)
theorem c1_X0_stands (l : Launch) {I : Nat → Nat → Int32} {L : Nat → Nat → Int64} {Rf : Nat → Nat → Option Nat} {n : Nat} (W : wd_T Rf n) {A : (Nat → Int32) × Nat} {m a : Int32} (hac : ac_T I A 1 m a) {x : Int32} (hA : A.2 < 890) : wm_C l mX0_stands 2 0 0 [vv_A (some 26), vv_I x] (I, L, Rf, n) (q_n (fun v J => v = s_stv 1 m a x ∧ ac_T J (s_stA 1 A) 1 m a ∧ ao_T I J) L Rf n) := by
  refine wm_of (by decide) (Nat.le_of_ble_eq_true rfl) rfl ?_
  have hao : ao_T I I := ao_rf
  refine ra_0 oX0_stands_0 ?_
  refine rr_giv oX0_stands_1 (ff_X0_15 rfl) kk_26 (wd_lt W rfl) ⟨by decide, rfl⟩ hac.1 ?_
  refine rk_4 oX0_stands_4 ?_
  refine rr_icmp_ne (tgt := 14) oX0_stands_5 (by decide) (fun _ => ?_) (fun q => absurd q (by decide))
  refine ra_0 oX0_stands_14 ?_
  refine rr_giv oX0_stands_15 (ff_X0_15 rfl) kk_26 (wd_lt W rfl) ⟨by decide, rfl⟩ hac.1 ?_
  refine rr_bipush (v := 6) oX0_stands_18 (by decide) ?_
  refine rr_icmp_ne (tgt := 29) oX0_stands_20 (by decide) (fun _ => ?_) (fun q => absurd q (by decide))
  refine ra_0 oX0_stands_29 ?_
  refine rr_giv oX0_stands_30 (ff_X0_15 rfl) kk_26 (wd_lt W rfl) ⟨by decide, rfl⟩ hac.1 ?_
  refine rr_cSNi (c_X4_isHouseKind l) oX0_stands_33 (cn_X0_32 rfl) (by decide) rfl rfl (Nat.le_of_ble_eq_true rfl) ?_
  refine rr_ifb_eq (tgt := 45) oX0_stands_36 (by decide) (fun c36 => ?_) (fun c36 => ?_)
  · exact absurd c36 (by decide)
  refine ra_0 oX0_stands_39 ?_
  refine rr_bipush (v := 20) oX0_stands_40 (by decide) ?_
  refine rr_cVm (c_X0_begins l W hac (by first | omega | (simp only [bd_2]; omega))) oX0_stands_42 (cv_X0_28 rfl) (by decide) kk_26 (by decide) hcn_0 (wd_lt W rfl) rfl rfl (Nat.le_of_ble_eq_true rfl) (fun J hJ => ?_)
  obtain ⟨hac, hao2⟩ := hJ
  replace hao := ao_tr hao hao2
  refine ra_0 oX0_stands_45 ?_
  refine rr_bipush (v := 10) oX0_stands_46 (by decide) ?_
  refine rr_cVm (c_X0_begins l W hac (by first | omega | (simp only [bd_2]; omega))) oX0_stands_48 (cv_X0_28 rfl) (by decide) kk_26 (by decide) hcn_0 (wd_lt W rfl) rfl rfl (Nat.le_of_ble_eq_true rfl) (fun J hJ => ?_)
  obtain ⟨hac, hao2⟩ := hJ
  replace hao := ao_tr hao hao2
  refine ri_1 oX0_stands_51 ?_
  refine ra_0 oX0_stands_52 ?_
  refine rr_giv oX0_stands_53 (ff_X0_19 rfl) kk_26 (wd_lt W rfl) ⟨by decide, rfl⟩ hac.2.1 ?_
  refine rr_iadd oX0_stands_56 ?_
  refine si_2 oX0_stands_57 rfl rfl ?_
  refine ra_0 oX0_stands_58 ?_
  refine rr_giv oX0_stands_59 (ff_X0_15 rfl) kk_26 (wd_lt W rfl) ⟨by decide, rfl⟩ hac.1 ?_
  refine rr_cSNi (c_X4_isHouseKind l) oX0_stands_62 (cn_X0_32 rfl) (by decide) rfl rfl (Nat.le_of_ble_eq_true rfl) ?_
  refine rr_ifb_eq (tgt := 75) oX0_stands_65 (by decide) (fun c65 => ?_) (fun c65 => ?_)
  · exact absurd c65 (by decide)
  refine ri_2 oX0_stands_68 ?_
  refine ra_0 oX0_stands_69 ?_
  refine rr_giv oX0_stands_70 (ff_X0_22 rfl) kk_26 (wd_lt W rfl) ⟨by decide, rfl⟩ hac.2.2.1 ?_
  refine rr_iadd oX0_stands_73 ?_
  refine si_2 oX0_stands_74 rfl rfl ?_
  refine ra_0 oX0_stands_75 ?_
  refine rr_giv oX0_stands_76 (ff_X0_15 rfl) kk_26 (wd_lt W rfl) ⟨by decide, rfl⟩ hac.1 ?_
  refine rk_4 oX0_stands_79 ?_
  refine rr_icmp_ne (tgt := 90) oX0_stands_80 (by decide) (fun _ => ?_) (fun q => absurd q (by decide))
  refine ra_0 oX0_stands_90 ?_
  refine rr_giv oX0_stands_91 (ff_X0_15 rfl) kk_26 (wd_lt W rfl) ⟨by decide, rfl⟩ hac.1 ?_
  refine rr_bipush (v := 6) oX0_stands_94 (by decide) ?_
  refine rr_icmp_ne (tgt := 105) oX0_stands_96 (by decide) (fun _ => ?_) (fun q => absurd q (by decide))
  refine ri_2 oX0_stands_105 ?_
  exact rr_ireturn oX0_stands_106 rfl rfl (q_n_of ⟨rfl, hac, hao⟩)
theorem c2_X0_stands (l : Launch) {I : Nat → Nat → Int32} {L : Nat → Nat → Int64} {Rf : Nat → Nat → Option Nat} {n : Nat} (W : wd_T Rf n) {A : (Nat → Int32) × Nat} {m a : Int32} (hac : ac_T I A 2 m a) {x : Int32} (hA : A.2 < 890) : wm_C l mX0_stands 2 0 0 [vv_A (some 26), vv_I x] (I, L, Rf, n) (q_n (fun v J => v = s_stv 2 m a x ∧ ac_T J (s_stA 2 A) 2 m a ∧ ao_T I J) L Rf n) := by
  refine wm_of (by decide) (Nat.le_of_ble_eq_true rfl) rfl ?_
  have hao : ao_T I I := ao_rf
  refine ra_0 oX0_stands_0 ?_
  refine rr_giv oX0_stands_1 (ff_X0_15 rfl) kk_26 (wd_lt W rfl) ⟨by decide, rfl⟩ hac.1 ?_
  refine rk_4 oX0_stands_4 ?_
  refine rr_icmp_ne (tgt := 14) oX0_stands_5 (by decide) (fun _ => ?_) (fun q => absurd q (by decide))
  refine ra_0 oX0_stands_14 ?_
  refine rr_giv oX0_stands_15 (ff_X0_15 rfl) kk_26 (wd_lt W rfl) ⟨by decide, rfl⟩ hac.1 ?_
  refine rr_bipush (v := 6) oX0_stands_18 (by decide) ?_
  refine rr_icmp_ne (tgt := 29) oX0_stands_20 (by decide) (fun _ => ?_) (fun q => absurd q (by decide))
  refine ra_0 oX0_stands_29 ?_
  refine rr_giv oX0_stands_30 (ff_X0_15 rfl) kk_26 (wd_lt W rfl) ⟨by decide, rfl⟩ hac.1 ?_
  refine rr_cSNi (c_X4_isHouseKind l) oX0_stands_33 (cn_X0_32 rfl) (by decide) rfl rfl (Nat.le_of_ble_eq_true rfl) ?_
  refine rr_ifb_eq (tgt := 45) oX0_stands_36 (by decide) (fun c36 => ?_) (fun c36 => ?_)
  rotate_left
  · exact absurd c36 (by decide)
  refine ra_0 oX0_stands_45 ?_
  refine rr_bipush (v := 10) oX0_stands_46 (by decide) ?_
  refine rr_cVm (c_X0_begins l W hac (by first | omega | (simp only [bd_2]; omega))) oX0_stands_48 (cv_X0_28 rfl) (by decide) kk_26 (by decide) hcn_0 (wd_lt W rfl) rfl rfl (Nat.le_of_ble_eq_true rfl) (fun J hJ => ?_)
  obtain ⟨hac, hao2⟩ := hJ
  replace hao := ao_tr hao hao2
  refine ri_1 oX0_stands_51 ?_
  refine ra_0 oX0_stands_52 ?_
  refine rr_giv oX0_stands_53 (ff_X0_19 rfl) kk_26 (wd_lt W rfl) ⟨by decide, rfl⟩ hac.2.1 ?_
  refine rr_iadd oX0_stands_56 ?_
  refine si_2 oX0_stands_57 rfl rfl ?_
  refine ra_0 oX0_stands_58 ?_
  refine rr_giv oX0_stands_59 (ff_X0_15 rfl) kk_26 (wd_lt W rfl) ⟨by decide, rfl⟩ hac.1 ?_
  refine rr_cSNi (c_X4_isHouseKind l) oX0_stands_62 (cn_X0_32 rfl) (by decide) rfl rfl (Nat.le_of_ble_eq_true rfl) ?_
  refine rr_ifb_eq (tgt := 75) oX0_stands_65 (by decide) (fun c65 => ?_) (fun c65 => ?_)
  rotate_left
  · exact absurd c65 (by decide)
  refine ra_0 oX0_stands_75 ?_
  refine rr_giv oX0_stands_76 (ff_X0_15 rfl) kk_26 (wd_lt W rfl) ⟨by decide, rfl⟩ hac.1 ?_
  refine rk_4 oX0_stands_79 ?_
  refine rr_icmp_ne (tgt := 90) oX0_stands_80 (by decide) (fun _ => ?_) (fun q => absurd q (by decide))
  refine ra_0 oX0_stands_90 ?_
  refine rr_giv oX0_stands_91 (ff_X0_15 rfl) kk_26 (wd_lt W rfl) ⟨by decide, rfl⟩ hac.1 ?_
  refine rr_bipush (v := 6) oX0_stands_94 (by decide) ?_
  refine rr_icmp_ne (tgt := 105) oX0_stands_96 (by decide) (fun _ => ?_) (fun q => absurd q (by decide))
  refine ri_2 oX0_stands_105 ?_
  exact rr_ireturn oX0_stands_106 rfl rfl (q_n_of ⟨rfl, hac, hao⟩)
theorem c3_X0_stands (l : Launch) {I : Nat → Nat → Int32} {L : Nat → Nat → Int64} {Rf : Nat → Nat → Option Nat} {n : Nat} (W : wd_T Rf n) {A : (Nat → Int32) × Nat} {m a : Int32} (hac : ac_T I A 3 m a) {x : Int32} (hA : A.2 < 890) : wm_C l mX0_stands 2 0 0 [vv_A (some 26), vv_I x] (I, L, Rf, n) (q_n (fun v J => v = s_stv 3 m a x ∧ ac_T J (s_stA 3 A) 3 m a ∧ ao_T I J) L Rf n) := by
  refine wm_of (by decide) (Nat.le_of_ble_eq_true rfl) rfl ?_
  have hao : ao_T I I := ao_rf
  refine ra_0 oX0_stands_0 ?_
  refine rr_giv oX0_stands_1 (ff_X0_15 rfl) kk_26 (wd_lt W rfl) ⟨by decide, rfl⟩ hac.1 ?_
  refine rk_4 oX0_stands_4 ?_
  refine rr_icmp_ne (tgt := 14) oX0_stands_5 (by decide) (fun _ => ?_) (fun q => absurd q (by decide))
  refine ra_0 oX0_stands_14 ?_
  refine rr_giv oX0_stands_15 (ff_X0_15 rfl) kk_26 (wd_lt W rfl) ⟨by decide, rfl⟩ hac.1 ?_
  refine rr_bipush (v := 6) oX0_stands_18 (by decide) ?_
  refine rr_icmp_ne (tgt := 29) oX0_stands_20 (by decide) (fun _ => ?_) (fun q => absurd q (by decide))
  refine ra_0 oX0_stands_29 ?_
  refine rr_giv oX0_stands_30 (ff_X0_15 rfl) kk_26 (wd_lt W rfl) ⟨by decide, rfl⟩ hac.1 ?_
  refine rr_cSNi (c_X4_isHouseKind l) oX0_stands_33 (cn_X0_32 rfl) (by decide) rfl rfl (Nat.le_of_ble_eq_true rfl) ?_
  refine rr_ifb_eq (tgt := 45) oX0_stands_36 (by decide) (fun c36 => ?_) (fun c36 => ?_)
  · exact absurd c36 (by decide)
  refine ra_0 oX0_stands_39 ?_
  refine rr_bipush (v := 20) oX0_stands_40 (by decide) ?_
  refine rr_cVm (c_X0_begins l W hac (by first | omega | (simp only [bd_2]; omega))) oX0_stands_42 (cv_X0_28 rfl) (by decide) kk_26 (by decide) hcn_0 (wd_lt W rfl) rfl rfl (Nat.le_of_ble_eq_true rfl) (fun J hJ => ?_)
  obtain ⟨hac, hao2⟩ := hJ
  replace hao := ao_tr hao hao2
  refine ra_0 oX0_stands_45 ?_
  refine rr_bipush (v := 10) oX0_stands_46 (by decide) ?_
  refine rr_cVm (c_X0_begins l W hac (by first | omega | (simp only [bd_2]; omega))) oX0_stands_48 (cv_X0_28 rfl) (by decide) kk_26 (by decide) hcn_0 (wd_lt W rfl) rfl rfl (Nat.le_of_ble_eq_true rfl) (fun J hJ => ?_)
  obtain ⟨hac, hao2⟩ := hJ
  replace hao := ao_tr hao hao2
  refine ri_1 oX0_stands_51 ?_
  refine ra_0 oX0_stands_52 ?_
  refine rr_giv oX0_stands_53 (ff_X0_19 rfl) kk_26 (wd_lt W rfl) ⟨by decide, rfl⟩ hac.2.1 ?_
  refine rr_iadd oX0_stands_56 ?_
  refine si_2 oX0_stands_57 rfl rfl ?_
  refine ra_0 oX0_stands_58 ?_
  refine rr_giv oX0_stands_59 (ff_X0_15 rfl) kk_26 (wd_lt W rfl) ⟨by decide, rfl⟩ hac.1 ?_
  refine rr_cSNi (c_X4_isHouseKind l) oX0_stands_62 (cn_X0_32 rfl) (by decide) rfl rfl (Nat.le_of_ble_eq_true rfl) ?_
  refine rr_ifb_eq (tgt := 75) oX0_stands_65 (by decide) (fun c65 => ?_) (fun c65 => ?_)
  · exact absurd c65 (by decide)
  refine ri_2 oX0_stands_68 ?_
  refine ra_0 oX0_stands_69 ?_
  refine rr_giv oX0_stands_70 (ff_X0_22 rfl) kk_26 (wd_lt W rfl) ⟨by decide, rfl⟩ hac.2.2.1 ?_
  refine rr_iadd oX0_stands_73 ?_
  refine si_2 oX0_stands_74 rfl rfl ?_
  refine ra_0 oX0_stands_75 ?_
  refine rr_giv oX0_stands_76 (ff_X0_15 rfl) kk_26 (wd_lt W rfl) ⟨by decide, rfl⟩ hac.1 ?_
  refine rk_4 oX0_stands_79 ?_
  refine rr_icmp_ne (tgt := 90) oX0_stands_80 (by decide) (fun _ => ?_) (fun q => absurd q (by decide))
  refine ra_0 oX0_stands_90 ?_
  refine rr_giv oX0_stands_91 (ff_X0_15 rfl) kk_26 (wd_lt W rfl) ⟨by decide, rfl⟩ hac.1 ?_
  refine rr_bipush (v := 6) oX0_stands_94 (by decide) ?_
  refine rr_icmp_ne (tgt := 105) oX0_stands_96 (by decide) (fun _ => ?_) (fun q => absurd q (by decide))
  refine ri_2 oX0_stands_105 ?_
  exact rr_ireturn oX0_stands_106 rfl rfl (q_n_of ⟨rfl, hac, hao⟩)
theorem c4_X0_stands (l : Launch) {I : Nat → Nat → Int32} {L : Nat → Nat → Int64} {Rf : Nat → Nat → Option Nat} {n : Nat} (W : wd_T Rf n) {A : (Nat → Int32) × Nat} {m a : Int32} (hac : ac_T I A 4 m a) {x : Int32} (hA : A.2 < 890) : wm_C l mX0_stands 2 0 0 [vv_A (some 26), vv_I x] (I, L, Rf, n) (q_n (fun v J => v = s_stv 4 m a x ∧ ac_T J (s_stA 4 A) 4 m a ∧ ao_T I J) L Rf n) := by
  refine wm_of (by decide) (Nat.le_of_ble_eq_true rfl) rfl ?_
  have hao : ao_T I I := ao_rf
  refine ra_0 oX0_stands_0 ?_
  refine rr_giv oX0_stands_1 (ff_X0_15 rfl) kk_26 (wd_lt W rfl) ⟨by decide, rfl⟩ hac.1 ?_
  refine rk_4 oX0_stands_4 ?_
  refine rr_icmp_ne (tgt := 14) oX0_stands_5 (by decide) (fun q => absurd q (by decide)) (fun _ => ?_)
  refine ra_0 oX0_stands_8 ?_
  refine rr_bipush (v := 51) oX0_stands_9 (by decide) ?_
  refine rr_cVm (c_X0_begins l W hac (by first | omega | (simp only [bd_2]; omega))) oX0_stands_11 (cv_X0_28 rfl) (by decide) kk_26 (by decide) hcn_0 (wd_lt W rfl) rfl rfl (Nat.le_of_ble_eq_true rfl) (fun J hJ => ?_)
  obtain ⟨hac, hao2⟩ := hJ
  replace hao := ao_tr hao hao2
  refine ra_0 oX0_stands_14 ?_
  refine rr_giv oX0_stands_15 (ff_X0_15 rfl) kk_26 (wd_lt W rfl) ⟨by decide, rfl⟩ hac.1 ?_
  refine rr_bipush (v := 6) oX0_stands_18 (by decide) ?_
  refine rr_icmp_ne (tgt := 29) oX0_stands_20 (by decide) (fun _ => ?_) (fun q => absurd q (by decide))
  refine ra_0 oX0_stands_29 ?_
  refine rr_giv oX0_stands_30 (ff_X0_15 rfl) kk_26 (wd_lt W rfl) ⟨by decide, rfl⟩ hac.1 ?_
  refine rr_cSNi (c_X4_isHouseKind l) oX0_stands_33 (cn_X0_32 rfl) (by decide) rfl rfl (Nat.le_of_ble_eq_true rfl) ?_
  refine rr_ifb_eq (tgt := 45) oX0_stands_36 (by decide) (fun c36 => ?_) (fun c36 => ?_)
  · exact absurd c36 (by decide)
  refine ra_0 oX0_stands_39 ?_
  refine rr_bipush (v := 20) oX0_stands_40 (by decide) ?_
  refine rr_cVm (c_X0_begins l W hac (by first | omega | (simp only [bd_2]; omega))) oX0_stands_42 (cv_X0_28 rfl) (by decide) kk_26 (by decide) hcn_0 (wd_lt W rfl) rfl rfl (Nat.le_of_ble_eq_true rfl) (fun J hJ => ?_)
  obtain ⟨hac, hao2⟩ := hJ
  replace hao := ao_tr hao hao2
  refine ra_0 oX0_stands_45 ?_
  refine rr_bipush (v := 10) oX0_stands_46 (by decide) ?_
  refine rr_cVm (c_X0_begins l W hac (by first | omega | (simp only [bd_2]; omega))) oX0_stands_48 (cv_X0_28 rfl) (by decide) kk_26 (by decide) hcn_0 (wd_lt W rfl) rfl rfl (Nat.le_of_ble_eq_true rfl) (fun J hJ => ?_)
  obtain ⟨hac, hao2⟩ := hJ
  replace hao := ao_tr hao hao2
  refine ri_1 oX0_stands_51 ?_
  refine ra_0 oX0_stands_52 ?_
  refine rr_giv oX0_stands_53 (ff_X0_19 rfl) kk_26 (wd_lt W rfl) ⟨by decide, rfl⟩ hac.2.1 ?_
  refine rr_iadd oX0_stands_56 ?_
  refine si_2 oX0_stands_57 rfl rfl ?_
  refine ra_0 oX0_stands_58 ?_
  refine rr_giv oX0_stands_59 (ff_X0_15 rfl) kk_26 (wd_lt W rfl) ⟨by decide, rfl⟩ hac.1 ?_
  refine rr_cSNi (c_X4_isHouseKind l) oX0_stands_62 (cn_X0_32 rfl) (by decide) rfl rfl (Nat.le_of_ble_eq_true rfl) ?_
  refine rr_ifb_eq (tgt := 75) oX0_stands_65 (by decide) (fun c65 => ?_) (fun c65 => ?_)
  · exact absurd c65 (by decide)
  refine ri_2 oX0_stands_68 ?_
  refine ra_0 oX0_stands_69 ?_
  refine rr_giv oX0_stands_70 (ff_X0_22 rfl) kk_26 (wd_lt W rfl) ⟨by decide, rfl⟩ hac.2.2.1 ?_
  refine rr_iadd oX0_stands_73 ?_
  refine si_2 oX0_stands_74 rfl rfl ?_
  refine ra_0 oX0_stands_75 ?_
  refine rr_giv oX0_stands_76 (ff_X0_15 rfl) kk_26 (wd_lt W rfl) ⟨by decide, rfl⟩ hac.1 ?_
  refine rk_4 oX0_stands_79 ?_
  refine rr_icmp_ne (tgt := 90) oX0_stands_80 (by decide) (fun q => absurd q (by decide)) (fun _ => ?_)
  refine ri_2 oX0_stands_83 ?_
  refine ra_0 oX0_stands_84 ?_
  refine rr_giv oX0_stands_85 (ff_X0_19 rfl) kk_26 (wd_lt W rfl) ⟨by decide, rfl⟩ hac.2.1 ?_
  refine rr_isub oX0_stands_88 ?_
  refine si_2 oX0_stands_89 rfl rfl ?_
  refine ra_0 oX0_stands_90 ?_
  refine rr_giv oX0_stands_91 (ff_X0_15 rfl) kk_26 (wd_lt W rfl) ⟨by decide, rfl⟩ hac.1 ?_
  refine rr_bipush (v := 6) oX0_stands_94 (by decide) ?_
  refine rr_icmp_ne (tgt := 105) oX0_stands_96 (by decide) (fun _ => ?_) (fun q => absurd q (by decide))
  refine ri_2 oX0_stands_105 ?_
  exact rr_ireturn oX0_stands_106 rfl rfl (q_n_of ⟨rfl, hac, hao⟩)
theorem c5_X0_stands (l : Launch) {I : Nat → Nat → Int32} {L : Nat → Nat → Int64} {Rf : Nat → Nat → Option Nat} {n : Nat} (W : wd_T Rf n) {A : (Nat → Int32) × Nat} {m a : Int32} (hac : ac_T I A 5 m a) {x : Int32} (hA : A.2 < 890) : wm_C l mX0_stands 2 0 0 [vv_A (some 26), vv_I x] (I, L, Rf, n) (q_n (fun v J => v = s_stv 5 m a x ∧ ac_T J (s_stA 5 A) 5 m a ∧ ao_T I J) L Rf n) := by
  refine wm_of (by decide) (Nat.le_of_ble_eq_true rfl) rfl ?_
  have hao : ao_T I I := ao_rf
  refine ra_0 oX0_stands_0 ?_
  refine rr_giv oX0_stands_1 (ff_X0_15 rfl) kk_26 (wd_lt W rfl) ⟨by decide, rfl⟩ hac.1 ?_
  refine rk_4 oX0_stands_4 ?_
  refine rr_icmp_ne (tgt := 14) oX0_stands_5 (by decide) (fun _ => ?_) (fun q => absurd q (by decide))
  refine ra_0 oX0_stands_14 ?_
  refine rr_giv oX0_stands_15 (ff_X0_15 rfl) kk_26 (wd_lt W rfl) ⟨by decide, rfl⟩ hac.1 ?_
  refine rr_bipush (v := 6) oX0_stands_18 (by decide) ?_
  refine rr_icmp_ne (tgt := 29) oX0_stands_20 (by decide) (fun _ => ?_) (fun q => absurd q (by decide))
  refine ra_0 oX0_stands_29 ?_
  refine rr_giv oX0_stands_30 (ff_X0_15 rfl) kk_26 (wd_lt W rfl) ⟨by decide, rfl⟩ hac.1 ?_
  refine rr_cSNi (c_X4_isHouseKind l) oX0_stands_33 (cn_X0_32 rfl) (by decide) rfl rfl (Nat.le_of_ble_eq_true rfl) ?_
  refine rr_ifb_eq (tgt := 45) oX0_stands_36 (by decide) (fun c36 => ?_) (fun c36 => ?_)
  · exact absurd c36 (by decide)
  refine ra_0 oX0_stands_39 ?_
  refine rr_bipush (v := 20) oX0_stands_40 (by decide) ?_
  refine rr_cVm (c_X0_begins l W hac (by first | omega | (simp only [bd_2]; omega))) oX0_stands_42 (cv_X0_28 rfl) (by decide) kk_26 (by decide) hcn_0 (wd_lt W rfl) rfl rfl (Nat.le_of_ble_eq_true rfl) (fun J hJ => ?_)
  obtain ⟨hac, hao2⟩ := hJ
  replace hao := ao_tr hao hao2
  refine ra_0 oX0_stands_45 ?_
  refine rr_bipush (v := 10) oX0_stands_46 (by decide) ?_
  refine rr_cVm (c_X0_begins l W hac (by first | omega | (simp only [bd_2]; omega))) oX0_stands_48 (cv_X0_28 rfl) (by decide) kk_26 (by decide) hcn_0 (wd_lt W rfl) rfl rfl (Nat.le_of_ble_eq_true rfl) (fun J hJ => ?_)
  obtain ⟨hac, hao2⟩ := hJ
  replace hao := ao_tr hao hao2
  refine ri_1 oX0_stands_51 ?_
  refine ra_0 oX0_stands_52 ?_
  refine rr_giv oX0_stands_53 (ff_X0_19 rfl) kk_26 (wd_lt W rfl) ⟨by decide, rfl⟩ hac.2.1 ?_
  refine rr_iadd oX0_stands_56 ?_
  refine si_2 oX0_stands_57 rfl rfl ?_
  refine ra_0 oX0_stands_58 ?_
  refine rr_giv oX0_stands_59 (ff_X0_15 rfl) kk_26 (wd_lt W rfl) ⟨by decide, rfl⟩ hac.1 ?_
  refine rr_cSNi (c_X4_isHouseKind l) oX0_stands_62 (cn_X0_32 rfl) (by decide) rfl rfl (Nat.le_of_ble_eq_true rfl) ?_
  refine rr_ifb_eq (tgt := 75) oX0_stands_65 (by decide) (fun c65 => ?_) (fun c65 => ?_)
  · exact absurd c65 (by decide)
  refine ri_2 oX0_stands_68 ?_
  refine ra_0 oX0_stands_69 ?_
  refine rr_giv oX0_stands_70 (ff_X0_22 rfl) kk_26 (wd_lt W rfl) ⟨by decide, rfl⟩ hac.2.2.1 ?_
  refine rr_iadd oX0_stands_73 ?_
  refine si_2 oX0_stands_74 rfl rfl ?_
  refine ra_0 oX0_stands_75 ?_
  refine rr_giv oX0_stands_76 (ff_X0_15 rfl) kk_26 (wd_lt W rfl) ⟨by decide, rfl⟩ hac.1 ?_
  refine rk_4 oX0_stands_79 ?_
  refine rr_icmp_ne (tgt := 90) oX0_stands_80 (by decide) (fun _ => ?_) (fun q => absurd q (by decide))
  refine ra_0 oX0_stands_90 ?_
  refine rr_giv oX0_stands_91 (ff_X0_15 rfl) kk_26 (wd_lt W rfl) ⟨by decide, rfl⟩ hac.1 ?_
  refine rr_bipush (v := 6) oX0_stands_94 (by decide) ?_
  refine rr_icmp_ne (tgt := 105) oX0_stands_96 (by decide) (fun _ => ?_) (fun q => absurd q (by decide))
  refine ri_2 oX0_stands_105 ?_
  exact rr_ireturn oX0_stands_106 rfl rfl (q_n_of ⟨rfl, hac, hao⟩)
theorem c6_X0_stands (l : Launch) {I : Nat → Nat → Int32} {L : Nat → Nat → Int64} {Rf : Nat → Nat → Option Nat} {n : Nat} (W : wd_T Rf n) {A : (Nat → Int32) × Nat} {m a : Int32} (hac : ac_T I A 6 m a) {x : Int32} (hA : A.2 < 890) : wm_C l mX0_stands 2 0 0 [vv_A (some 26), vv_I x] (I, L, Rf, n) (q_n (fun v J => v = s_stv 6 m a x ∧ ac_T J (s_stA 6 A) 6 m a ∧ ao_T I J) L Rf n) := by
  refine wm_of (by decide) (Nat.le_of_ble_eq_true rfl) rfl ?_
  have hao : ao_T I I := ao_rf
  refine ra_0 oX0_stands_0 ?_
  refine rr_giv oX0_stands_1 (ff_X0_15 rfl) kk_26 (wd_lt W rfl) ⟨by decide, rfl⟩ hac.1 ?_
  refine rk_4 oX0_stands_4 ?_
  refine rr_icmp_ne (tgt := 14) oX0_stands_5 (by decide) (fun _ => ?_) (fun q => absurd q (by decide))
  refine ra_0 oX0_stands_14 ?_
  refine rr_giv oX0_stands_15 (ff_X0_15 rfl) kk_26 (wd_lt W rfl) ⟨by decide, rfl⟩ hac.1 ?_
  refine rr_bipush (v := 6) oX0_stands_18 (by decide) ?_
  refine rr_icmp_ne (tgt := 29) oX0_stands_20 (by decide) (fun q => absurd q (by decide)) (fun _ => ?_)
  refine ra_0 oX0_stands_23 ?_
  refine rr_bipush (v := 70) oX0_stands_24 (by decide) ?_
  refine rr_cVm (c_X0_begins l W hac (by first | omega | (simp only [bd_2]; omega))) oX0_stands_26 (cv_X0_28 rfl) (by decide) kk_26 (by decide) hcn_0 (wd_lt W rfl) rfl rfl (Nat.le_of_ble_eq_true rfl) (fun J hJ => ?_)
  obtain ⟨hac, hao2⟩ := hJ
  replace hao := ao_tr hao hao2
  refine ra_0 oX0_stands_29 ?_
  refine rr_giv oX0_stands_30 (ff_X0_15 rfl) kk_26 (wd_lt W rfl) ⟨by decide, rfl⟩ hac.1 ?_
  refine rr_cSNi (c_X4_isHouseKind l) oX0_stands_33 (cn_X0_32 rfl) (by decide) rfl rfl (Nat.le_of_ble_eq_true rfl) ?_
  refine rr_ifb_eq (tgt := 45) oX0_stands_36 (by decide) (fun c36 => ?_) (fun c36 => ?_)
  rotate_left
  · exact absurd c36 (by decide)
  refine ra_0 oX0_stands_45 ?_
  refine rr_bipush (v := 10) oX0_stands_46 (by decide) ?_
  refine rr_cVm (c_X0_begins l W hac (by first | omega | (simp only [bd_2]; omega))) oX0_stands_48 (cv_X0_28 rfl) (by decide) kk_26 (by decide) hcn_0 (wd_lt W rfl) rfl rfl (Nat.le_of_ble_eq_true rfl) (fun J hJ => ?_)
  obtain ⟨hac, hao2⟩ := hJ
  replace hao := ao_tr hao hao2
  refine ri_1 oX0_stands_51 ?_
  refine ra_0 oX0_stands_52 ?_
  refine rr_giv oX0_stands_53 (ff_X0_19 rfl) kk_26 (wd_lt W rfl) ⟨by decide, rfl⟩ hac.2.1 ?_
  refine rr_iadd oX0_stands_56 ?_
  refine si_2 oX0_stands_57 rfl rfl ?_
  refine ra_0 oX0_stands_58 ?_
  refine rr_giv oX0_stands_59 (ff_X0_15 rfl) kk_26 (wd_lt W rfl) ⟨by decide, rfl⟩ hac.1 ?_
  refine rr_cSNi (c_X4_isHouseKind l) oX0_stands_62 (cn_X0_32 rfl) (by decide) rfl rfl (Nat.le_of_ble_eq_true rfl) ?_
  refine rr_ifb_eq (tgt := 75) oX0_stands_65 (by decide) (fun c65 => ?_) (fun c65 => ?_)
  rotate_left
  · exact absurd c65 (by decide)
  refine ra_0 oX0_stands_75 ?_
  refine rr_giv oX0_stands_76 (ff_X0_15 rfl) kk_26 (wd_lt W rfl) ⟨by decide, rfl⟩ hac.1 ?_
  refine rk_4 oX0_stands_79 ?_
  refine rr_icmp_ne (tgt := 90) oX0_stands_80 (by decide) (fun _ => ?_) (fun q => absurd q (by decide))
  refine ra_0 oX0_stands_90 ?_
  refine rr_giv oX0_stands_91 (ff_X0_15 rfl) kk_26 (wd_lt W rfl) ⟨by decide, rfl⟩ hac.1 ?_
  refine rr_bipush (v := 6) oX0_stands_94 (by decide) ?_
  refine rr_icmp_ne (tgt := 105) oX0_stands_96 (by decide) (fun q => absurd q (by decide)) (fun _ => ?_)
  refine ri_2 oX0_stands_99 ?_
  refine rk_2 oX0_stands_100 ?_
  refine rr_imul oX0_stands_101 ?_
  refine rr_goto (tgt := 106) oX0_stands_102 (by decide) ?_
  exact rr_ireturn oX0_stands_106 rfl rfl (q_n_of ⟨rfl, hac, hao⟩)
theorem c_X0_stands (l : Launch) {I : Nat → Nat → Int32} {L : Nat → Nat → Int64} {Rf : Nat → Nat → Option Nat} {n : Nat} (W : wd_T Rf n) {A : (Nat → Int32) × Nat} {k m a : Int32} (hac : ac_T I A k m a) (hk : 0 ≤ k ∧ k ≤ 6) {x : Int32} (hA : A.2 < 890) : wm_C l mX0_stands 2 0 0 [vv_A (some 26), vv_I x] (I, L, Rf, n) (q_n (fun v J => v = s_stv k m a x ∧ ac_T J (s_stA k A) k m a ∧ ao_T I J) L Rf n) := by
  rcases kd_7 hk with rfl | rfl | rfl | rfl | rfl | rfl | rfl
  · exact c0_X0_stands l W hac hA
  · exact c1_X0_stands l W hac hA
  · exact c2_X0_stands l W hac hA
  · exact c3_X0_stands l W hac hA
  · exact c4_X0_stands l W hac hA
  · exact c5_X0_stands l W hac hA
  · exact c6_X0_stands l W hac hA
theorem c0_X0_looks (l : Launch) {I : Nat → Nat → Int32} {L : Nat → Nat → Int64} {Rf : Nat → Nat → Option Nat} {n : Nat} (W : wd_T Rf n) {A : (Nat → Int32) × Nat} {m a : Int32} (hac : ac_T I A 0 m a) {x : Int32} (hA : A.2 < 880) : wm_C l mX0_looks 3 0 0 [vv_A (some 26), vv_I x] (I, L, Rf, n) (q_n (fun v J => v = s_lov 0 m a x ∧ ac_T J (s_stA 0 (s_loA 0 A)) 0 m a ∧ ao_T I J) L Rf n) := by
  refine wm_of (by decide) (Nat.le_of_ble_eq_true rfl) rfl ?_
  have hao : ao_T I I := ao_rf
  refine ri_1 oX0_looks_0 ?_
  refine si_2 oX0_looks_1 rfl rfl ?_
  refine ra_0 oX0_looks_2 ?_
  refine rr_giv oX0_looks_3 (ff_X0_15 rfl) kk_26 (wd_lt W rfl) ⟨by decide, rfl⟩ hac.1 ?_
  refine rk_3 oX0_looks_6 ?_
  refine rr_icmp_ne (tgt := 20) oX0_looks_7 (by decide) (fun _ => ?_) (fun q => absurd q (by decide))
  refine ra_0 oX0_looks_20 ?_
  refine rr_giv oX0_looks_21 (ff_X0_15 rfl) kk_26 (wd_lt W rfl) ⟨by decide, rfl⟩ hac.1 ?_
  refine rr_bipush (v := 6) oX0_looks_24 (by decide) ?_
  refine rr_icmp_ne (tgt := 42) oX0_looks_26 (by decide) (fun _ => ?_) (fun q => absurd q (by decide))
  refine ra_0 oX0_looks_42 ?_
  refine rr_giv oX0_looks_43 (ff_X0_15 rfl) kk_26 (wd_lt W rfl) ⟨by decide, rfl⟩ hac.1 ?_
  refine rr_cSNi (c_X4_isTreeKind l) oX0_looks_46 (cn_X0_36 rfl) (by decide) rfl rfl (Nat.le_of_ble_eq_true rfl) ?_
  refine rr_ifb_eq (tgt := 58) oX0_looks_49 (by decide) (fun c49 => ?_) (fun c49 => ?_)
  rotate_left
  · exact absurd c49 (by decide)
  refine ra_0 oX0_looks_58 ?_
  refine rr_bipush (v := 11) oX0_looks_59 (by decide) ?_
  refine rr_cVm (c_X0_begins l W hac (by first | omega | (simp only [bd_2]; omega))) oX0_looks_61 (cv_X0_28 rfl) (by decide) kk_26 (by decide) hcn_0 (wd_lt W rfl) rfl rfl (Nat.le_of_ble_eq_true rfl) (fun J hJ => ?_)
  obtain ⟨hac, hao2⟩ := hJ
  replace hao := ao_tr hao hao2
  refine ra_0 oX0_looks_64 ?_
  refine ri_2 oX0_looks_65 ?_
  refine rr_cVn (c_X0_stands l W hac (by decide) (by first | omega | (simp only [bd_2]; omega))) oX0_looks_66 (cv_X0_39 rfl) (by decide) kk_26 (by decide) hcn_0 (wd_lt W rfl) rfl rfl (Nat.le_of_ble_eq_true rfl) (fun v J hJ => ?_)
  obtain ⟨hv, hac, hao2⟩ := hJ
  replace hao := ao_tr hao hao2
  refine rk_2 oX0_looks_69 ?_
  refine rr_imul oX0_looks_70 ?_
  refine si_3 oX0_looks_71 rfl rfl ?_
  refine ra_0 oX0_looks_72 ?_
  refine rr_giv oX0_looks_73 (ff_X0_15 rfl) kk_26 (wd_lt W rfl) ⟨by decide, rfl⟩ hac.1 ?_
  refine rr_cSNi (c_X4_isTreeKind l) oX0_looks_76 (cn_X0_36 rfl) (by decide) rfl rfl (Nat.le_of_ble_eq_true rfl) ?_
  refine rr_ifb_eq (tgt := 88) oX0_looks_79 (by decide) (fun c79 => ?_) (fun c79 => ?_)
  rotate_left
  · exact absurd c79 (by decide)
  refine ri_3 oX0_looks_88 ?_
  exact rr_ireturn oX0_looks_89 rfl rfl (q_n_of ⟨by rw [hv]; rfl, hac, hao⟩)
theorem c1_X0_looks (l : Launch) {I : Nat → Nat → Int32} {L : Nat → Nat → Int64} {Rf : Nat → Nat → Option Nat} {n : Nat} (W : wd_T Rf n) {A : (Nat → Int32) × Nat} {m a : Int32} (hac : ac_T I A 1 m a) {x : Int32} (hA : A.2 < 880) : wm_C l mX0_looks 3 0 0 [vv_A (some 26), vv_I x] (I, L, Rf, n) (q_n (fun v J => v = s_lov 1 m a x ∧ ac_T J (s_stA 1 (s_loA 1 A)) 1 m a ∧ ao_T I J) L Rf n) := by
  refine wm_of (by decide) (Nat.le_of_ble_eq_true rfl) rfl ?_
  have hao : ao_T I I := ao_rf
  refine ri_1 oX0_looks_0 ?_
  refine si_2 oX0_looks_1 rfl rfl ?_
  refine ra_0 oX0_looks_2 ?_
  refine rr_giv oX0_looks_3 (ff_X0_15 rfl) kk_26 (wd_lt W rfl) ⟨by decide, rfl⟩ hac.1 ?_
  refine rk_3 oX0_looks_6 ?_
  refine rr_icmp_ne (tgt := 20) oX0_looks_7 (by decide) (fun _ => ?_) (fun q => absurd q (by decide))
  refine ra_0 oX0_looks_20 ?_
  refine rr_giv oX0_looks_21 (ff_X0_15 rfl) kk_26 (wd_lt W rfl) ⟨by decide, rfl⟩ hac.1 ?_
  refine rr_bipush (v := 6) oX0_looks_24 (by decide) ?_
  refine rr_icmp_ne (tgt := 42) oX0_looks_26 (by decide) (fun _ => ?_) (fun q => absurd q (by decide))
  refine ra_0 oX0_looks_42 ?_
  refine rr_giv oX0_looks_43 (ff_X0_15 rfl) kk_26 (wd_lt W rfl) ⟨by decide, rfl⟩ hac.1 ?_
  refine rr_cSNi (c_X4_isTreeKind l) oX0_looks_46 (cn_X0_36 rfl) (by decide) rfl rfl (Nat.le_of_ble_eq_true rfl) ?_
  refine rr_ifb_eq (tgt := 58) oX0_looks_49 (by decide) (fun c49 => ?_) (fun c49 => ?_)
  rotate_left
  · exact absurd c49 (by decide)
  refine ra_0 oX0_looks_58 ?_
  refine rr_bipush (v := 11) oX0_looks_59 (by decide) ?_
  refine rr_cVm (c_X0_begins l W hac (by first | omega | (simp only [bd_2]; omega))) oX0_looks_61 (cv_X0_28 rfl) (by decide) kk_26 (by decide) hcn_0 (wd_lt W rfl) rfl rfl (Nat.le_of_ble_eq_true rfl) (fun J hJ => ?_)
  obtain ⟨hac, hao2⟩ := hJ
  replace hao := ao_tr hao hao2
  refine ra_0 oX0_looks_64 ?_
  refine ri_2 oX0_looks_65 ?_
  refine rr_cVn (c_X0_stands l W hac (by decide) (by first | omega | (simp only [bd_2]; omega))) oX0_looks_66 (cv_X0_39 rfl) (by decide) kk_26 (by decide) hcn_0 (wd_lt W rfl) rfl rfl (Nat.le_of_ble_eq_true rfl) (fun v J hJ => ?_)
  obtain ⟨hv, hac, hao2⟩ := hJ
  replace hao := ao_tr hao hao2
  refine rk_2 oX0_looks_69 ?_
  refine rr_imul oX0_looks_70 ?_
  refine si_3 oX0_looks_71 rfl rfl ?_
  refine ra_0 oX0_looks_72 ?_
  refine rr_giv oX0_looks_73 (ff_X0_15 rfl) kk_26 (wd_lt W rfl) ⟨by decide, rfl⟩ hac.1 ?_
  refine rr_cSNi (c_X4_isTreeKind l) oX0_looks_76 (cn_X0_36 rfl) (by decide) rfl rfl (Nat.le_of_ble_eq_true rfl) ?_
  refine rr_ifb_eq (tgt := 88) oX0_looks_79 (by decide) (fun c79 => ?_) (fun c79 => ?_)
  rotate_left
  · exact absurd c79 (by decide)
  refine ri_3 oX0_looks_88 ?_
  exact rr_ireturn oX0_looks_89 rfl rfl (q_n_of ⟨by rw [hv]; rfl, hac, hao⟩)
theorem c2_X0_looks (l : Launch) {I : Nat → Nat → Int32} {L : Nat → Nat → Int64} {Rf : Nat → Nat → Option Nat} {n : Nat} (W : wd_T Rf n) {A : (Nat → Int32) × Nat} {m a : Int32} (hac : ac_T I A 2 m a) {x : Int32} (hA : A.2 < 880) : wm_C l mX0_looks 3 0 0 [vv_A (some 26), vv_I x] (I, L, Rf, n) (q_n (fun v J => v = s_lov 2 m a x ∧ ac_T J (s_stA 2 (s_loA 2 A)) 2 m a ∧ ao_T I J) L Rf n) := by
  refine wm_of (by decide) (Nat.le_of_ble_eq_true rfl) rfl ?_
  have hao : ao_T I I := ao_rf
  refine ri_1 oX0_looks_0 ?_
  refine si_2 oX0_looks_1 rfl rfl ?_
  refine ra_0 oX0_looks_2 ?_
  refine rr_giv oX0_looks_3 (ff_X0_15 rfl) kk_26 (wd_lt W rfl) ⟨by decide, rfl⟩ hac.1 ?_
  refine rk_3 oX0_looks_6 ?_
  refine rr_icmp_ne (tgt := 20) oX0_looks_7 (by decide) (fun _ => ?_) (fun q => absurd q (by decide))
  refine ra_0 oX0_looks_20 ?_
  refine rr_giv oX0_looks_21 (ff_X0_15 rfl) kk_26 (wd_lt W rfl) ⟨by decide, rfl⟩ hac.1 ?_
  refine rr_bipush (v := 6) oX0_looks_24 (by decide) ?_
  refine rr_icmp_ne (tgt := 42) oX0_looks_26 (by decide) (fun _ => ?_) (fun q => absurd q (by decide))
  refine ra_0 oX0_looks_42 ?_
  refine rr_giv oX0_looks_43 (ff_X0_15 rfl) kk_26 (wd_lt W rfl) ⟨by decide, rfl⟩ hac.1 ?_
  refine rr_cSNi (c_X4_isTreeKind l) oX0_looks_46 (cn_X0_36 rfl) (by decide) rfl rfl (Nat.le_of_ble_eq_true rfl) ?_
  refine rr_ifb_eq (tgt := 58) oX0_looks_49 (by decide) (fun c49 => ?_) (fun c49 => ?_)
  · exact absurd c49 (by decide)
  refine ra_0 oX0_looks_52 ?_
  refine rr_bipush (v := 30) oX0_looks_53 (by decide) ?_
  refine rr_cVm (c_X0_begins l W hac (by first | omega | (simp only [bd_2]; omega))) oX0_looks_55 (cv_X0_28 rfl) (by decide) kk_26 (by decide) hcn_0 (wd_lt W rfl) rfl rfl (Nat.le_of_ble_eq_true rfl) (fun J hJ => ?_)
  obtain ⟨hac, hao2⟩ := hJ
  replace hao := ao_tr hao hao2
  refine ra_0 oX0_looks_58 ?_
  refine rr_bipush (v := 11) oX0_looks_59 (by decide) ?_
  refine rr_cVm (c_X0_begins l W hac (by first | omega | (simp only [bd_2]; omega))) oX0_looks_61 (cv_X0_28 rfl) (by decide) kk_26 (by decide) hcn_0 (wd_lt W rfl) rfl rfl (Nat.le_of_ble_eq_true rfl) (fun J hJ => ?_)
  obtain ⟨hac, hao2⟩ := hJ
  replace hao := ao_tr hao hao2
  refine ra_0 oX0_looks_64 ?_
  refine ri_2 oX0_looks_65 ?_
  refine rr_cVn (c_X0_stands l W hac (by decide) (by first | omega | (simp only [bd_2]; omega))) oX0_looks_66 (cv_X0_39 rfl) (by decide) kk_26 (by decide) hcn_0 (wd_lt W rfl) rfl rfl (Nat.le_of_ble_eq_true rfl) (fun v J hJ => ?_)
  obtain ⟨hv, hac, hao2⟩ := hJ
  replace hao := ao_tr hao hao2
  refine rk_2 oX0_looks_69 ?_
  refine rr_imul oX0_looks_70 ?_
  refine si_3 oX0_looks_71 rfl rfl ?_
  refine ra_0 oX0_looks_72 ?_
  refine rr_giv oX0_looks_73 (ff_X0_15 rfl) kk_26 (wd_lt W rfl) ⟨by decide, rfl⟩ hac.1 ?_
  refine rr_cSNi (c_X4_isTreeKind l) oX0_looks_76 (cn_X0_36 rfl) (by decide) rfl rfl (Nat.le_of_ble_eq_true rfl) ?_
  refine rr_ifb_eq (tgt := 88) oX0_looks_79 (by decide) (fun c79 => ?_) (fun c79 => ?_)
  · exact absurd c79 (by decide)
  refine ri_3 oX0_looks_82 ?_
  refine rk_3 oX0_looks_83 ?_
  refine rr_imul oX0_looks_84 ?_
  refine rr_goto (tgt := 89) oX0_looks_85 (by decide) ?_
  exact rr_ireturn oX0_looks_89 rfl rfl (q_n_of ⟨by rw [hv]; rfl, hac, hao⟩)
theorem c3_X0_looks (l : Launch) {I : Nat → Nat → Int32} {L : Nat → Nat → Int64} {Rf : Nat → Nat → Option Nat} {n : Nat} (W : wd_T Rf n) {A : (Nat → Int32) × Nat} {m a : Int32} (hac : ac_T I A 3 m a) {x : Int32} (hA : A.2 < 880) : wm_C l mX0_looks 3 0 0 [vv_A (some 26), vv_I x] (I, L, Rf, n) (q_n (fun v J => v = s_lov 3 m a x ∧ ac_T J (s_stA 3 (s_loA 3 A)) 3 m a ∧ ao_T I J) L Rf n) := by
  refine wm_of (by decide) (Nat.le_of_ble_eq_true rfl) rfl ?_
  have hao : ao_T I I := ao_rf
  refine ri_1 oX0_looks_0 ?_
  refine si_2 oX0_looks_1 rfl rfl ?_
  refine ra_0 oX0_looks_2 ?_
  refine rr_giv oX0_looks_3 (ff_X0_15 rfl) kk_26 (wd_lt W rfl) ⟨by decide, rfl⟩ hac.1 ?_
  refine rk_3 oX0_looks_6 ?_
  refine rr_icmp_ne (tgt := 20) oX0_looks_7 (by decide) (fun q => absurd q (by decide)) (fun _ => ?_)
  refine ra_0 oX0_looks_10 ?_
  refine rr_bipush (v := 40) oX0_looks_11 (by decide) ?_
  refine rr_cVm (c_X0_begins l W hac (by first | omega | (simp only [bd_2]; omega))) oX0_looks_13 (cv_X0_28 rfl) (by decide) kk_26 (by decide) hcn_0 (wd_lt W rfl) rfl rfl (Nat.le_of_ble_eq_true rfl) (fun J hJ => ?_)
  obtain ⟨hac, hao2⟩ := hJ
  replace hao := ao_tr hao hao2
  refine ri_1 oX0_looks_16 ?_
  refine rk_1 oX0_looks_17 ?_
  refine rr_iadd oX0_looks_18 ?_
  refine si_2 oX0_looks_19 rfl rfl ?_
  refine ra_0 oX0_looks_20 ?_
  refine rr_giv oX0_looks_21 (ff_X0_15 rfl) kk_26 (wd_lt W rfl) ⟨by decide, rfl⟩ hac.1 ?_
  refine rr_bipush (v := 6) oX0_looks_24 (by decide) ?_
  refine rr_icmp_ne (tgt := 42) oX0_looks_26 (by decide) (fun _ => ?_) (fun q => absurd q (by decide))
  refine ra_0 oX0_looks_42 ?_
  refine rr_giv oX0_looks_43 (ff_X0_15 rfl) kk_26 (wd_lt W rfl) ⟨by decide, rfl⟩ hac.1 ?_
  refine rr_cSNi (c_X4_isTreeKind l) oX0_looks_46 (cn_X0_36 rfl) (by decide) rfl rfl (Nat.le_of_ble_eq_true rfl) ?_
  refine rr_ifb_eq (tgt := 58) oX0_looks_49 (by decide) (fun c49 => ?_) (fun c49 => ?_)
  rotate_left
  · exact absurd c49 (by decide)
  refine ra_0 oX0_looks_58 ?_
  refine rr_bipush (v := 11) oX0_looks_59 (by decide) ?_
  refine rr_cVm (c_X0_begins l W hac (by first | omega | (simp only [bd_2]; omega))) oX0_looks_61 (cv_X0_28 rfl) (by decide) kk_26 (by decide) hcn_0 (wd_lt W rfl) rfl rfl (Nat.le_of_ble_eq_true rfl) (fun J hJ => ?_)
  obtain ⟨hac, hao2⟩ := hJ
  replace hao := ao_tr hao hao2
  refine ra_0 oX0_looks_64 ?_
  refine ri_2 oX0_looks_65 ?_
  refine rr_cVn (c_X0_stands l W hac (by decide) (by first | omega | (simp only [bd_2]; omega))) oX0_looks_66 (cv_X0_39 rfl) (by decide) kk_26 (by decide) hcn_0 (wd_lt W rfl) rfl rfl (Nat.le_of_ble_eq_true rfl) (fun v J hJ => ?_)
  obtain ⟨hv, hac, hao2⟩ := hJ
  replace hao := ao_tr hao hao2
  refine rk_2 oX0_looks_69 ?_
  refine rr_imul oX0_looks_70 ?_
  refine si_3 oX0_looks_71 rfl rfl ?_
  refine ra_0 oX0_looks_72 ?_
  refine rr_giv oX0_looks_73 (ff_X0_15 rfl) kk_26 (wd_lt W rfl) ⟨by decide, rfl⟩ hac.1 ?_
  refine rr_cSNi (c_X4_isTreeKind l) oX0_looks_76 (cn_X0_36 rfl) (by decide) rfl rfl (Nat.le_of_ble_eq_true rfl) ?_
  refine rr_ifb_eq (tgt := 88) oX0_looks_79 (by decide) (fun c79 => ?_) (fun c79 => ?_)
  rotate_left
  · exact absurd c79 (by decide)
  refine ri_3 oX0_looks_88 ?_
  exact rr_ireturn oX0_looks_89 rfl rfl (q_n_of ⟨by rw [hv]; rfl, hac, hao⟩)
theorem c4_X0_looks (l : Launch) {I : Nat → Nat → Int32} {L : Nat → Nat → Int64} {Rf : Nat → Nat → Option Nat} {n : Nat} (W : wd_T Rf n) {A : (Nat → Int32) × Nat} {m a : Int32} (hac : ac_T I A 4 m a) {x : Int32} (hA : A.2 < 880) : wm_C l mX0_looks 3 0 0 [vv_A (some 26), vv_I x] (I, L, Rf, n) (q_n (fun v J => v = s_lov 4 m a x ∧ ac_T J (s_stA 4 (s_loA 4 A)) 4 m a ∧ ao_T I J) L Rf n) := by
  refine wm_of (by decide) (Nat.le_of_ble_eq_true rfl) rfl ?_
  have hao : ao_T I I := ao_rf
  refine ri_1 oX0_looks_0 ?_
  refine si_2 oX0_looks_1 rfl rfl ?_
  refine ra_0 oX0_looks_2 ?_
  refine rr_giv oX0_looks_3 (ff_X0_15 rfl) kk_26 (wd_lt W rfl) ⟨by decide, rfl⟩ hac.1 ?_
  refine rk_3 oX0_looks_6 ?_
  refine rr_icmp_ne (tgt := 20) oX0_looks_7 (by decide) (fun _ => ?_) (fun q => absurd q (by decide))
  refine ra_0 oX0_looks_20 ?_
  refine rr_giv oX0_looks_21 (ff_X0_15 rfl) kk_26 (wd_lt W rfl) ⟨by decide, rfl⟩ hac.1 ?_
  refine rr_bipush (v := 6) oX0_looks_24 (by decide) ?_
  refine rr_icmp_ne (tgt := 42) oX0_looks_26 (by decide) (fun _ => ?_) (fun q => absurd q (by decide))
  refine ra_0 oX0_looks_42 ?_
  refine rr_giv oX0_looks_43 (ff_X0_15 rfl) kk_26 (wd_lt W rfl) ⟨by decide, rfl⟩ hac.1 ?_
  refine rr_cSNi (c_X4_isTreeKind l) oX0_looks_46 (cn_X0_36 rfl) (by decide) rfl rfl (Nat.le_of_ble_eq_true rfl) ?_
  refine rr_ifb_eq (tgt := 58) oX0_looks_49 (by decide) (fun c49 => ?_) (fun c49 => ?_)
  rotate_left
  · exact absurd c49 (by decide)
  refine ra_0 oX0_looks_58 ?_
  refine rr_bipush (v := 11) oX0_looks_59 (by decide) ?_
  refine rr_cVm (c_X0_begins l W hac (by first | omega | (simp only [bd_2]; omega))) oX0_looks_61 (cv_X0_28 rfl) (by decide) kk_26 (by decide) hcn_0 (wd_lt W rfl) rfl rfl (Nat.le_of_ble_eq_true rfl) (fun J hJ => ?_)
  obtain ⟨hac, hao2⟩ := hJ
  replace hao := ao_tr hao hao2
  refine ra_0 oX0_looks_64 ?_
  refine ri_2 oX0_looks_65 ?_
  refine rr_cVn (c_X0_stands l W hac (by decide) (by first | omega | (simp only [bd_2]; omega))) oX0_looks_66 (cv_X0_39 rfl) (by decide) kk_26 (by decide) hcn_0 (wd_lt W rfl) rfl rfl (Nat.le_of_ble_eq_true rfl) (fun v J hJ => ?_)
  obtain ⟨hv, hac, hao2⟩ := hJ
  replace hao := ao_tr hao hao2
  refine rk_2 oX0_looks_69 ?_
  refine rr_imul oX0_looks_70 ?_
  refine si_3 oX0_looks_71 rfl rfl ?_
  refine ra_0 oX0_looks_72 ?_
  refine rr_giv oX0_looks_73 (ff_X0_15 rfl) kk_26 (wd_lt W rfl) ⟨by decide, rfl⟩ hac.1 ?_
  refine rr_cSNi (c_X4_isTreeKind l) oX0_looks_76 (cn_X0_36 rfl) (by decide) rfl rfl (Nat.le_of_ble_eq_true rfl) ?_
  refine rr_ifb_eq (tgt := 88) oX0_looks_79 (by decide) (fun c79 => ?_) (fun c79 => ?_)
  rotate_left
  · exact absurd c79 (by decide)
  refine ri_3 oX0_looks_88 ?_
  exact rr_ireturn oX0_looks_89 rfl rfl (q_n_of ⟨by rw [hv]; rfl, hac, hao⟩)
theorem c5_X0_looks (l : Launch) {I : Nat → Nat → Int32} {L : Nat → Nat → Int64} {Rf : Nat → Nat → Option Nat} {n : Nat} (W : wd_T Rf n) {A : (Nat → Int32) × Nat} {m a : Int32} (hac : ac_T I A 5 m a) {x : Int32} (hA : A.2 < 880) : wm_C l mX0_looks 3 0 0 [vv_A (some 26), vv_I x] (I, L, Rf, n) (q_n (fun v J => v = s_lov 5 m a x ∧ ac_T J (s_stA 5 (s_loA 5 A)) 5 m a ∧ ao_T I J) L Rf n) := by
  refine wm_of (by decide) (Nat.le_of_ble_eq_true rfl) rfl ?_
  have hao : ao_T I I := ao_rf
  refine ri_1 oX0_looks_0 ?_
  refine si_2 oX0_looks_1 rfl rfl ?_
  refine ra_0 oX0_looks_2 ?_
  refine rr_giv oX0_looks_3 (ff_X0_15 rfl) kk_26 (wd_lt W rfl) ⟨by decide, rfl⟩ hac.1 ?_
  refine rk_3 oX0_looks_6 ?_
  refine rr_icmp_ne (tgt := 20) oX0_looks_7 (by decide) (fun _ => ?_) (fun q => absurd q (by decide))
  refine ra_0 oX0_looks_20 ?_
  refine rr_giv oX0_looks_21 (ff_X0_15 rfl) kk_26 (wd_lt W rfl) ⟨by decide, rfl⟩ hac.1 ?_
  refine rr_bipush (v := 6) oX0_looks_24 (by decide) ?_
  refine rr_icmp_ne (tgt := 42) oX0_looks_26 (by decide) (fun _ => ?_) (fun q => absurd q (by decide))
  refine ra_0 oX0_looks_42 ?_
  refine rr_giv oX0_looks_43 (ff_X0_15 rfl) kk_26 (wd_lt W rfl) ⟨by decide, rfl⟩ hac.1 ?_
  refine rr_cSNi (c_X4_isTreeKind l) oX0_looks_46 (cn_X0_36 rfl) (by decide) rfl rfl (Nat.le_of_ble_eq_true rfl) ?_
  refine rr_ifb_eq (tgt := 58) oX0_looks_49 (by decide) (fun c49 => ?_) (fun c49 => ?_)
  rotate_left
  · exact absurd c49 (by decide)
  refine ra_0 oX0_looks_58 ?_
  refine rr_bipush (v := 11) oX0_looks_59 (by decide) ?_
  refine rr_cVm (c_X0_begins l W hac (by first | omega | (simp only [bd_2]; omega))) oX0_looks_61 (cv_X0_28 rfl) (by decide) kk_26 (by decide) hcn_0 (wd_lt W rfl) rfl rfl (Nat.le_of_ble_eq_true rfl) (fun J hJ => ?_)
  obtain ⟨hac, hao2⟩ := hJ
  replace hao := ao_tr hao hao2
  refine ra_0 oX0_looks_64 ?_
  refine ri_2 oX0_looks_65 ?_
  refine rr_cVn (c_X0_stands l W hac (by decide) (by first | omega | (simp only [bd_2]; omega))) oX0_looks_66 (cv_X0_39 rfl) (by decide) kk_26 (by decide) hcn_0 (wd_lt W rfl) rfl rfl (Nat.le_of_ble_eq_true rfl) (fun v J hJ => ?_)
  obtain ⟨hv, hac, hao2⟩ := hJ
  replace hao := ao_tr hao hao2
  refine rk_2 oX0_looks_69 ?_
  refine rr_imul oX0_looks_70 ?_
  refine si_3 oX0_looks_71 rfl rfl ?_
  refine ra_0 oX0_looks_72 ?_
  refine rr_giv oX0_looks_73 (ff_X0_15 rfl) kk_26 (wd_lt W rfl) ⟨by decide, rfl⟩ hac.1 ?_
  refine rr_cSNi (c_X4_isTreeKind l) oX0_looks_76 (cn_X0_36 rfl) (by decide) rfl rfl (Nat.le_of_ble_eq_true rfl) ?_
  refine rr_ifb_eq (tgt := 88) oX0_looks_79 (by decide) (fun c79 => ?_) (fun c79 => ?_)
  rotate_left
  · exact absurd c79 (by decide)
  refine ri_3 oX0_looks_88 ?_
  exact rr_ireturn oX0_looks_89 rfl rfl (q_n_of ⟨by rw [hv]; rfl, hac, hao⟩)
theorem c6_X0_looks (l : Launch) {I : Nat → Nat → Int32} {L : Nat → Nat → Int64} {Rf : Nat → Nat → Option Nat} {n : Nat} (W : wd_T Rf n) {A : (Nat → Int32) × Nat} {m a : Int32} (hac : ac_T I A 6 m a) {x : Int32} (hA : A.2 < 880) : wm_C l mX0_looks 3 0 0 [vv_A (some 26), vv_I x] (I, L, Rf, n) (q_n (fun v J => v = s_lov 6 m a x ∧ ac_T J (s_stA 6 (s_loA 6 A)) 6 m a ∧ ao_T I J) L Rf n) := by
  refine wm_of (by decide) (Nat.le_of_ble_eq_true rfl) rfl ?_
  have hao : ao_T I I := ao_rf
  refine ri_1 oX0_looks_0 ?_
  refine si_2 oX0_looks_1 rfl rfl ?_
  refine ra_0 oX0_looks_2 ?_
  refine rr_giv oX0_looks_3 (ff_X0_15 rfl) kk_26 (wd_lt W rfl) ⟨by decide, rfl⟩ hac.1 ?_
  refine rk_3 oX0_looks_6 ?_
  refine rr_icmp_ne (tgt := 20) oX0_looks_7 (by decide) (fun _ => ?_) (fun q => absurd q (by decide))
  refine ra_0 oX0_looks_20 ?_
  refine rr_giv oX0_looks_21 (ff_X0_15 rfl) kk_26 (wd_lt W rfl) ⟨by decide, rfl⟩ hac.1 ?_
  refine rr_bipush (v := 6) oX0_looks_24 (by decide) ?_
  refine rr_icmp_ne (tgt := 42) oX0_looks_26 (by decide) (fun q => absurd q (by decide)) (fun _ => ?_)
  refine ra_0 oX0_looks_29 ?_
  refine rr_bipush (v := 71) oX0_looks_30 (by decide) ?_
  refine rr_cVm (c_X0_begins l W hac (by first | omega | (simp only [bd_2]; omega))) oX0_looks_32 (cv_X0_28 rfl) (by decide) kk_26 (by decide) hcn_0 (wd_lt W rfl) rfl rfl (Nat.le_of_ble_eq_true rfl) (fun J hJ => ?_)
  obtain ⟨hac, hao2⟩ := hJ
  replace hao := ao_tr hao hao2
  refine ri_1 oX0_looks_35 ?_
  refine ra_0 oX0_looks_36 ?_
  refine rr_giv oX0_looks_37 (ff_X0_22 rfl) kk_26 (wd_lt W rfl) ⟨by decide, rfl⟩ hac.2.2.1 ?_
  refine rr_isub oX0_looks_40 ?_
  refine si_2 oX0_looks_41 rfl rfl ?_
  refine ra_0 oX0_looks_42 ?_
  refine rr_giv oX0_looks_43 (ff_X0_15 rfl) kk_26 (wd_lt W rfl) ⟨by decide, rfl⟩ hac.1 ?_
  refine rr_cSNi (c_X4_isTreeKind l) oX0_looks_46 (cn_X0_36 rfl) (by decide) rfl rfl (Nat.le_of_ble_eq_true rfl) ?_
  refine rr_ifb_eq (tgt := 58) oX0_looks_49 (by decide) (fun c49 => ?_) (fun c49 => ?_)
  · exact absurd c49 (by decide)
  refine ra_0 oX0_looks_52 ?_
  refine rr_bipush (v := 30) oX0_looks_53 (by decide) ?_
  refine rr_cVm (c_X0_begins l W hac (by first | omega | (simp only [bd_2]; omega))) oX0_looks_55 (cv_X0_28 rfl) (by decide) kk_26 (by decide) hcn_0 (wd_lt W rfl) rfl rfl (Nat.le_of_ble_eq_true rfl) (fun J hJ => ?_)
  obtain ⟨hac, hao2⟩ := hJ
  replace hao := ao_tr hao hao2
  refine ra_0 oX0_looks_58 ?_
  refine rr_bipush (v := 11) oX0_looks_59 (by decide) ?_
  refine rr_cVm (c_X0_begins l W hac (by first | omega | (simp only [bd_2]; omega))) oX0_looks_61 (cv_X0_28 rfl) (by decide) kk_26 (by decide) hcn_0 (wd_lt W rfl) rfl rfl (Nat.le_of_ble_eq_true rfl) (fun J hJ => ?_)
  obtain ⟨hac, hao2⟩ := hJ
  replace hao := ao_tr hao hao2
  refine ra_0 oX0_looks_64 ?_
  refine ri_2 oX0_looks_65 ?_
  refine rr_cVn (c_X0_stands l W hac (by decide) (by first | omega | (simp only [bd_2]; omega))) oX0_looks_66 (cv_X0_39 rfl) (by decide) kk_26 (by decide) hcn_0 (wd_lt W rfl) rfl rfl (Nat.le_of_ble_eq_true rfl) (fun v J hJ => ?_)
  obtain ⟨hv, hac, hao2⟩ := hJ
  replace hao := ao_tr hao hao2
  refine rk_2 oX0_looks_69 ?_
  refine rr_imul oX0_looks_70 ?_
  refine si_3 oX0_looks_71 rfl rfl ?_
  refine ra_0 oX0_looks_72 ?_
  refine rr_giv oX0_looks_73 (ff_X0_15 rfl) kk_26 (wd_lt W rfl) ⟨by decide, rfl⟩ hac.1 ?_
  refine rr_cSNi (c_X4_isTreeKind l) oX0_looks_76 (cn_X0_36 rfl) (by decide) rfl rfl (Nat.le_of_ble_eq_true rfl) ?_
  refine rr_ifb_eq (tgt := 88) oX0_looks_79 (by decide) (fun c79 => ?_) (fun c79 => ?_)
  · exact absurd c79 (by decide)
  refine ri_3 oX0_looks_82 ?_
  refine rk_3 oX0_looks_83 ?_
  refine rr_imul oX0_looks_84 ?_
  refine rr_goto (tgt := 89) oX0_looks_85 (by decide) ?_
  exact rr_ireturn oX0_looks_89 rfl rfl (q_n_of ⟨by rw [hv]; rfl, hac, hao⟩)
theorem c_X0_looks (l : Launch) {I : Nat → Nat → Int32} {L : Nat → Nat → Int64} {Rf : Nat → Nat → Option Nat} {n : Nat} (W : wd_T Rf n) {A : (Nat → Int32) × Nat} {k m a : Int32} (hac : ac_T I A k m a) (hk : 0 ≤ k ∧ k ≤ 6) {x : Int32} (hA : A.2 < 880) : wm_C l mX0_looks 3 0 0 [vv_A (some 26), vv_I x] (I, L, Rf, n) (q_n (fun v J => v = s_lov k m a x ∧ ac_T J (s_stA k (s_loA k A)) k m a ∧ ao_T I J) L Rf n) := by
  rcases kd_7 hk with rfl | rfl | rfl | rfl | rfl | rfl | rfl
  · exact c0_X0_looks l W hac hA
  · exact c1_X0_looks l W hac hA
  · exact c2_X0_looks l W hac hA
  · exact c3_X0_looks l W hac hA
  · exact c4_X0_looks l W hac hA
  · exact c5_X0_looks l W hac hA
  · exact c6_X0_looks l W hac hA
theorem st_le (k : Int32) (A : (Nat → Int32) × Nat) : (s_stA k A).2 ≤ A.2 + 4 := by
  unfold s_stA
  split <;> split <;> split <;> simp only [bd_2] <;> omega
theorem hi_le (k : Int32) (A : (Nat → Int32) × Nat) : (s_hiA k A).2 ≤ A.2 + 3 := by
  unfold s_hiA
  split <;> split <;> simp only [bd_2] <;> omega
theorem lo_le (k : Int32) (A : (Nat → Int32) × Nat) : (s_loA k A).2 ≤ A.2 + 4 := by
  unfold s_loA
  split <;> split <;> split <;> simp only [bd_2] <;> omega
theorem c0_X0_hides (l : Launch) {I : Nat → Nat → Int32} {L : Nat → Nat → Int64} {Rf : Nat → Nat → Option Nat} {n : Nat} (W : wd_T Rf n) {A : (Nat → Int32) × Nat} {m a : Int32} (hac : ac_T I A 0 m a) {x : Int32} (hA : A.2 < 800) : wm_C l mX0_hides 4 0 0 [vv_A (some 26), vv_I x] (I, L, Rf, n) (q_n (fun v J => v = s_hiv 0 m a x ∧ ac_T J (s_stA 0 (s_stA 0 (s_loA 0 (s_hiA 0 A)))) 0 m a ∧ ao_T I J) L Rf n) := by
  refine wm_of (by decide) (Nat.le_of_ble_eq_true rfl) rfl ?_
  have hao : ao_T I I := ao_rf
  refine ra_0 oX0_hides_0 ?_
  refine rr_giv oX0_hides_1 (ff_X0_15 rfl) kk_26 (wd_lt W rfl) ⟨by decide, rfl⟩ hac.1 ?_
  refine rk_4 oX0_hides_4 ?_
  refine rr_icmp_ne (tgt := 14) oX0_hides_5 (by decide) (fun _ => ?_) (fun q => absurd q (by decide))
  refine ra_0 oX0_hides_14 ?_
  refine rr_giv oX0_hides_15 (ff_X0_15 rfl) kk_26 (wd_lt W rfl) ⟨by decide, rfl⟩ hac.1 ?_
  refine rk_5 oX0_hides_18 ?_
  refine rr_icmp_ne (tgt := 28) oX0_hides_19 (by decide) (fun _ => ?_) (fun q => absurd q (by decide))
  refine ra_0 oX0_hides_28 ?_
  refine rr_bipush (v := 12) oX0_hides_29 (by decide) ?_
  refine rr_cVm (c_X0_begins l W hac (by first | omega | (simp only [bd_2]; omega))) oX0_hides_31 (cv_X0_28 rfl) (by decide) kk_26 (by decide) hcn_0 (wd_lt W rfl) rfl rfl (Nat.le_of_ble_eq_true rfl) (fun J hJ => ?_)
  obtain ⟨hac, hao2⟩ := hJ
  replace hao := ao_tr hao hao2
  refine ra_0 oX0_hides_34 ?_
  refine ri_1 oX0_hides_35 ?_
  refine rr_cVn (c_X0_looks l W hac (by decide) (by first | omega | (simp only [bd_2]; omega))) oX0_hides_36 (cv_X0_43 rfl) (by decide) kk_26 (by decide) hcn_0 (wd_lt W rfl) rfl rfl (Nat.le_of_ble_eq_true rfl) (fun v1 J hJ => ?_)
  obtain ⟨hv1, hac, hao2⟩ := hJ
  replace hao := ao_tr hao hao2
  refine ra_0 oX0_hides_39 ?_
  refine ri_1 oX0_hides_40 ?_
  refine ra_0 oX0_hides_41 ?_
  refine rr_giv oX0_hides_42 (ff_X0_22 rfl) kk_26 (wd_lt W rfl) ⟨by decide, rfl⟩ hac.2.2.1 ?_
  refine rr_isub oX0_hides_45 ?_
  have hle := st_le 0 (s_loA 0 (s_hiA 0 A))
  have hle2 := lo_le 0 (s_hiA 0 A)
  have hle3 := hi_le 0 A
  refine rr_cVn (c_X0_stands l W hac (by decide) (show (s_stA 0 (s_loA 0 (s_hiA 0 A))).2 < 890 by omega)) oX0_hides_46 (cv_X0_39 rfl) (by decide) kk_26 (by decide) hcn_0 (wd_lt W rfl) rfl rfl (Nat.le_of_ble_eq_true rfl) (fun v J hJ => ?_)
  obtain ⟨hv, hac, hao2⟩ := hJ
  replace hao := ao_tr hao hao2
  refine rr_ixor oX0_hides_49 ?_
  refine si_2 oX0_hides_50 rfl rfl ?_
  refine ra_0 oX0_hides_51 ?_
  refine rr_giv oX0_hides_52 (ff_X0_15 rfl) kk_26 (wd_lt W rfl) ⟨by decide, rfl⟩ hac.1 ?_
  refine rk_4 oX0_hides_55 ?_
  refine rr_icmp_ne (tgt := 62) oX0_hides_56 (by decide) (fun _ => ?_) (fun q => absurd q (by decide))
  refine ra_0 oX0_hides_62 ?_
  refine rr_giv oX0_hides_63 (ff_X0_15 rfl) kk_26 (wd_lt W rfl) ⟨by decide, rfl⟩ hac.1 ?_
  refine rk_5 oX0_hides_66 ?_
  refine rr_icmp_ne (tgt := 76) oX0_hides_67 (by decide) (fun _ => ?_) (fun q => absurd q (by decide))
  refine ri_2 oX0_hides_76 ?_
  exact rr_ireturn oX0_hides_77 rfl rfl (q_n_of ⟨by rw [hv, hv1]; rfl, hac, hao⟩)
theorem c1_X0_hides (l : Launch) {I : Nat → Nat → Int32} {L : Nat → Nat → Int64} {Rf : Nat → Nat → Option Nat} {n : Nat} (W : wd_T Rf n) {A : (Nat → Int32) × Nat} {m a : Int32} (hac : ac_T I A 1 m a) {x : Int32} (hA : A.2 < 800) : wm_C l mX0_hides 4 0 0 [vv_A (some 26), vv_I x] (I, L, Rf, n) (q_n (fun v J => v = s_hiv 1 m a x ∧ ac_T J (s_stA 1 (s_stA 1 (s_loA 1 (s_hiA 1 A)))) 1 m a ∧ ao_T I J) L Rf n) := by
  refine wm_of (by decide) (Nat.le_of_ble_eq_true rfl) rfl ?_
  have hao : ao_T I I := ao_rf
  refine ra_0 oX0_hides_0 ?_
  refine rr_giv oX0_hides_1 (ff_X0_15 rfl) kk_26 (wd_lt W rfl) ⟨by decide, rfl⟩ hac.1 ?_
  refine rk_4 oX0_hides_4 ?_
  refine rr_icmp_ne (tgt := 14) oX0_hides_5 (by decide) (fun _ => ?_) (fun q => absurd q (by decide))
  refine ra_0 oX0_hides_14 ?_
  refine rr_giv oX0_hides_15 (ff_X0_15 rfl) kk_26 (wd_lt W rfl) ⟨by decide, rfl⟩ hac.1 ?_
  refine rk_5 oX0_hides_18 ?_
  refine rr_icmp_ne (tgt := 28) oX0_hides_19 (by decide) (fun _ => ?_) (fun q => absurd q (by decide))
  refine ra_0 oX0_hides_28 ?_
  refine rr_bipush (v := 12) oX0_hides_29 (by decide) ?_
  refine rr_cVm (c_X0_begins l W hac (by first | omega | (simp only [bd_2]; omega))) oX0_hides_31 (cv_X0_28 rfl) (by decide) kk_26 (by decide) hcn_0 (wd_lt W rfl) rfl rfl (Nat.le_of_ble_eq_true rfl) (fun J hJ => ?_)
  obtain ⟨hac, hao2⟩ := hJ
  replace hao := ao_tr hao hao2
  refine ra_0 oX0_hides_34 ?_
  refine ri_1 oX0_hides_35 ?_
  refine rr_cVn (c_X0_looks l W hac (by decide) (by first | omega | (simp only [bd_2]; omega))) oX0_hides_36 (cv_X0_43 rfl) (by decide) kk_26 (by decide) hcn_0 (wd_lt W rfl) rfl rfl (Nat.le_of_ble_eq_true rfl) (fun v1 J hJ => ?_)
  obtain ⟨hv1, hac, hao2⟩ := hJ
  replace hao := ao_tr hao hao2
  refine ra_0 oX0_hides_39 ?_
  refine ri_1 oX0_hides_40 ?_
  refine ra_0 oX0_hides_41 ?_
  refine rr_giv oX0_hides_42 (ff_X0_22 rfl) kk_26 (wd_lt W rfl) ⟨by decide, rfl⟩ hac.2.2.1 ?_
  refine rr_isub oX0_hides_45 ?_
  have hle := st_le 1 (s_loA 1 (s_hiA 1 A))
  have hle2 := lo_le 1 (s_hiA 1 A)
  have hle3 := hi_le 1 A
  refine rr_cVn (c_X0_stands l W hac (by decide) (show (s_stA 1 (s_loA 1 (s_hiA 1 A))).2 < 890 by omega)) oX0_hides_46 (cv_X0_39 rfl) (by decide) kk_26 (by decide) hcn_0 (wd_lt W rfl) rfl rfl (Nat.le_of_ble_eq_true rfl) (fun v J hJ => ?_)
  obtain ⟨hv, hac, hao2⟩ := hJ
  replace hao := ao_tr hao hao2
  refine rr_ixor oX0_hides_49 ?_
  refine si_2 oX0_hides_50 rfl rfl ?_
  refine ra_0 oX0_hides_51 ?_
  refine rr_giv oX0_hides_52 (ff_X0_15 rfl) kk_26 (wd_lt W rfl) ⟨by decide, rfl⟩ hac.1 ?_
  refine rk_4 oX0_hides_55 ?_
  refine rr_icmp_ne (tgt := 62) oX0_hides_56 (by decide) (fun _ => ?_) (fun q => absurd q (by decide))
  refine ra_0 oX0_hides_62 ?_
  refine rr_giv oX0_hides_63 (ff_X0_15 rfl) kk_26 (wd_lt W rfl) ⟨by decide, rfl⟩ hac.1 ?_
  refine rk_5 oX0_hides_66 ?_
  refine rr_icmp_ne (tgt := 76) oX0_hides_67 (by decide) (fun _ => ?_) (fun q => absurd q (by decide))
  refine ri_2 oX0_hides_76 ?_
  exact rr_ireturn oX0_hides_77 rfl rfl (q_n_of ⟨by rw [hv, hv1]; rfl, hac, hao⟩)
theorem c2_X0_hides (l : Launch) {I : Nat → Nat → Int32} {L : Nat → Nat → Int64} {Rf : Nat → Nat → Option Nat} {n : Nat} (W : wd_T Rf n) {A : (Nat → Int32) × Nat} {m a : Int32} (hac : ac_T I A 2 m a) {x : Int32} (hA : A.2 < 800) : wm_C l mX0_hides 4 0 0 [vv_A (some 26), vv_I x] (I, L, Rf, n) (q_n (fun v J => v = s_hiv 2 m a x ∧ ac_T J (s_stA 2 (s_stA 2 (s_loA 2 (s_hiA 2 A)))) 2 m a ∧ ao_T I J) L Rf n) := by
  refine wm_of (by decide) (Nat.le_of_ble_eq_true rfl) rfl ?_
  have hao : ao_T I I := ao_rf
  refine ra_0 oX0_hides_0 ?_
  refine rr_giv oX0_hides_1 (ff_X0_15 rfl) kk_26 (wd_lt W rfl) ⟨by decide, rfl⟩ hac.1 ?_
  refine rk_4 oX0_hides_4 ?_
  refine rr_icmp_ne (tgt := 14) oX0_hides_5 (by decide) (fun _ => ?_) (fun q => absurd q (by decide))
  refine ra_0 oX0_hides_14 ?_
  refine rr_giv oX0_hides_15 (ff_X0_15 rfl) kk_26 (wd_lt W rfl) ⟨by decide, rfl⟩ hac.1 ?_
  refine rk_5 oX0_hides_18 ?_
  refine rr_icmp_ne (tgt := 28) oX0_hides_19 (by decide) (fun _ => ?_) (fun q => absurd q (by decide))
  refine ra_0 oX0_hides_28 ?_
  refine rr_bipush (v := 12) oX0_hides_29 (by decide) ?_
  refine rr_cVm (c_X0_begins l W hac (by first | omega | (simp only [bd_2]; omega))) oX0_hides_31 (cv_X0_28 rfl) (by decide) kk_26 (by decide) hcn_0 (wd_lt W rfl) rfl rfl (Nat.le_of_ble_eq_true rfl) (fun J hJ => ?_)
  obtain ⟨hac, hao2⟩ := hJ
  replace hao := ao_tr hao hao2
  refine ra_0 oX0_hides_34 ?_
  refine ri_1 oX0_hides_35 ?_
  refine rr_cVn (c_X0_looks l W hac (by decide) (by first | omega | (simp only [bd_2]; omega))) oX0_hides_36 (cv_X0_43 rfl) (by decide) kk_26 (by decide) hcn_0 (wd_lt W rfl) rfl rfl (Nat.le_of_ble_eq_true rfl) (fun v1 J hJ => ?_)
  obtain ⟨hv1, hac, hao2⟩ := hJ
  replace hao := ao_tr hao hao2
  refine ra_0 oX0_hides_39 ?_
  refine ri_1 oX0_hides_40 ?_
  refine ra_0 oX0_hides_41 ?_
  refine rr_giv oX0_hides_42 (ff_X0_22 rfl) kk_26 (wd_lt W rfl) ⟨by decide, rfl⟩ hac.2.2.1 ?_
  refine rr_isub oX0_hides_45 ?_
  have hle := st_le 2 (s_loA 2 (s_hiA 2 A))
  have hle2 := lo_le 2 (s_hiA 2 A)
  have hle3 := hi_le 2 A
  refine rr_cVn (c_X0_stands l W hac (by decide) (show (s_stA 2 (s_loA 2 (s_hiA 2 A))).2 < 890 by omega)) oX0_hides_46 (cv_X0_39 rfl) (by decide) kk_26 (by decide) hcn_0 (wd_lt W rfl) rfl rfl (Nat.le_of_ble_eq_true rfl) (fun v J hJ => ?_)
  obtain ⟨hv, hac, hao2⟩ := hJ
  replace hao := ao_tr hao hao2
  refine rr_ixor oX0_hides_49 ?_
  refine si_2 oX0_hides_50 rfl rfl ?_
  refine ra_0 oX0_hides_51 ?_
  refine rr_giv oX0_hides_52 (ff_X0_15 rfl) kk_26 (wd_lt W rfl) ⟨by decide, rfl⟩ hac.1 ?_
  refine rk_4 oX0_hides_55 ?_
  refine rr_icmp_ne (tgt := 62) oX0_hides_56 (by decide) (fun _ => ?_) (fun q => absurd q (by decide))
  refine ra_0 oX0_hides_62 ?_
  refine rr_giv oX0_hides_63 (ff_X0_15 rfl) kk_26 (wd_lt W rfl) ⟨by decide, rfl⟩ hac.1 ?_
  refine rk_5 oX0_hides_66 ?_
  refine rr_icmp_ne (tgt := 76) oX0_hides_67 (by decide) (fun _ => ?_) (fun q => absurd q (by decide))
  refine ri_2 oX0_hides_76 ?_
  exact rr_ireturn oX0_hides_77 rfl rfl (q_n_of ⟨by rw [hv, hv1]; rfl, hac, hao⟩)
theorem c3_X0_hides (l : Launch) {I : Nat → Nat → Int32} {L : Nat → Nat → Int64} {Rf : Nat → Nat → Option Nat} {n : Nat} (W : wd_T Rf n) {A : (Nat → Int32) × Nat} {m a : Int32} (hac : ac_T I A 3 m a) {x : Int32} (hA : A.2 < 800) : wm_C l mX0_hides 4 0 0 [vv_A (some 26), vv_I x] (I, L, Rf, n) (q_n (fun v J => v = s_hiv 3 m a x ∧ ac_T J (s_stA 3 (s_stA 3 (s_loA 3 (s_hiA 3 A)))) 3 m a ∧ ao_T I J) L Rf n) := by
  refine wm_of (by decide) (Nat.le_of_ble_eq_true rfl) rfl ?_
  have hao : ao_T I I := ao_rf
  refine ra_0 oX0_hides_0 ?_
  refine rr_giv oX0_hides_1 (ff_X0_15 rfl) kk_26 (wd_lt W rfl) ⟨by decide, rfl⟩ hac.1 ?_
  refine rk_4 oX0_hides_4 ?_
  refine rr_icmp_ne (tgt := 14) oX0_hides_5 (by decide) (fun _ => ?_) (fun q => absurd q (by decide))
  refine ra_0 oX0_hides_14 ?_
  refine rr_giv oX0_hides_15 (ff_X0_15 rfl) kk_26 (wd_lt W rfl) ⟨by decide, rfl⟩ hac.1 ?_
  refine rk_5 oX0_hides_18 ?_
  refine rr_icmp_ne (tgt := 28) oX0_hides_19 (by decide) (fun _ => ?_) (fun q => absurd q (by decide))
  refine ra_0 oX0_hides_28 ?_
  refine rr_bipush (v := 12) oX0_hides_29 (by decide) ?_
  refine rr_cVm (c_X0_begins l W hac (by first | omega | (simp only [bd_2]; omega))) oX0_hides_31 (cv_X0_28 rfl) (by decide) kk_26 (by decide) hcn_0 (wd_lt W rfl) rfl rfl (Nat.le_of_ble_eq_true rfl) (fun J hJ => ?_)
  obtain ⟨hac, hao2⟩ := hJ
  replace hao := ao_tr hao hao2
  refine ra_0 oX0_hides_34 ?_
  refine ri_1 oX0_hides_35 ?_
  refine rr_cVn (c_X0_looks l W hac (by decide) (by first | omega | (simp only [bd_2]; omega))) oX0_hides_36 (cv_X0_43 rfl) (by decide) kk_26 (by decide) hcn_0 (wd_lt W rfl) rfl rfl (Nat.le_of_ble_eq_true rfl) (fun v1 J hJ => ?_)
  obtain ⟨hv1, hac, hao2⟩ := hJ
  replace hao := ao_tr hao hao2
  refine ra_0 oX0_hides_39 ?_
  refine ri_1 oX0_hides_40 ?_
  refine ra_0 oX0_hides_41 ?_
  refine rr_giv oX0_hides_42 (ff_X0_22 rfl) kk_26 (wd_lt W rfl) ⟨by decide, rfl⟩ hac.2.2.1 ?_
  refine rr_isub oX0_hides_45 ?_
  have hle := st_le 3 (s_loA 3 (s_hiA 3 A))
  have hle2 := lo_le 3 (s_hiA 3 A)
  have hle3 := hi_le 3 A
  refine rr_cVn (c_X0_stands l W hac (by decide) (show (s_stA 3 (s_loA 3 (s_hiA 3 A))).2 < 890 by omega)) oX0_hides_46 (cv_X0_39 rfl) (by decide) kk_26 (by decide) hcn_0 (wd_lt W rfl) rfl rfl (Nat.le_of_ble_eq_true rfl) (fun v J hJ => ?_)
  obtain ⟨hv, hac, hao2⟩ := hJ
  replace hao := ao_tr hao hao2
  refine rr_ixor oX0_hides_49 ?_
  refine si_2 oX0_hides_50 rfl rfl ?_
  refine ra_0 oX0_hides_51 ?_
  refine rr_giv oX0_hides_52 (ff_X0_15 rfl) kk_26 (wd_lt W rfl) ⟨by decide, rfl⟩ hac.1 ?_
  refine rk_4 oX0_hides_55 ?_
  refine rr_icmp_ne (tgt := 62) oX0_hides_56 (by decide) (fun _ => ?_) (fun q => absurd q (by decide))
  refine ra_0 oX0_hides_62 ?_
  refine rr_giv oX0_hides_63 (ff_X0_15 rfl) kk_26 (wd_lt W rfl) ⟨by decide, rfl⟩ hac.1 ?_
  refine rk_5 oX0_hides_66 ?_
  refine rr_icmp_ne (tgt := 76) oX0_hides_67 (by decide) (fun _ => ?_) (fun q => absurd q (by decide))
  refine ri_2 oX0_hides_76 ?_
  exact rr_ireturn oX0_hides_77 rfl rfl (q_n_of ⟨by rw [hv, hv1]; rfl, hac, hao⟩)
theorem c4_X0_hides (l : Launch) {I : Nat → Nat → Int32} {L : Nat → Nat → Int64} {Rf : Nat → Nat → Option Nat} {n : Nat} (W : wd_T Rf n) {A : (Nat → Int32) × Nat} {m a : Int32} (hac : ac_T I A 4 m a) {x : Int32} (hA : A.2 < 800) : wm_C l mX0_hides 4 0 0 [vv_A (some 26), vv_I x] (I, L, Rf, n) (q_n (fun v J => v = s_hiv 4 m a x ∧ ac_T J (s_stA 4 (s_stA 4 (s_loA 4 (s_hiA 4 A)))) 4 m a ∧ ao_T I J) L Rf n) := by
  refine wm_of (by decide) (Nat.le_of_ble_eq_true rfl) rfl ?_
  have hao : ao_T I I := ao_rf
  refine ra_0 oX0_hides_0 ?_
  refine rr_giv oX0_hides_1 (ff_X0_15 rfl) kk_26 (wd_lt W rfl) ⟨by decide, rfl⟩ hac.1 ?_
  refine rk_4 oX0_hides_4 ?_
  refine rr_icmp_ne (tgt := 14) oX0_hides_5 (by decide) (fun q => absurd q (by decide)) (fun _ => ?_)
  refine ra_0 oX0_hides_8 ?_
  refine rr_bipush (v := 50) oX0_hides_9 (by decide) ?_
  refine rr_cVm (c_X0_begins l W hac (by first | omega | (simp only [bd_2]; omega))) oX0_hides_11 (cv_X0_28 rfl) (by decide) kk_26 (by decide) hcn_0 (wd_lt W rfl) rfl rfl (Nat.le_of_ble_eq_true rfl) (fun J hJ => ?_)
  obtain ⟨hac, hao2⟩ := hJ
  replace hao := ao_tr hao hao2
  refine ra_0 oX0_hides_14 ?_
  refine rr_giv oX0_hides_15 (ff_X0_15 rfl) kk_26 (wd_lt W rfl) ⟨by decide, rfl⟩ hac.1 ?_
  refine rk_5 oX0_hides_18 ?_
  refine rr_icmp_ne (tgt := 28) oX0_hides_19 (by decide) (fun _ => ?_) (fun q => absurd q (by decide))
  refine ra_0 oX0_hides_28 ?_
  refine rr_bipush (v := 12) oX0_hides_29 (by decide) ?_
  refine rr_cVm (c_X0_begins l W hac (by first | omega | (simp only [bd_2]; omega))) oX0_hides_31 (cv_X0_28 rfl) (by decide) kk_26 (by decide) hcn_0 (wd_lt W rfl) rfl rfl (Nat.le_of_ble_eq_true rfl) (fun J hJ => ?_)
  obtain ⟨hac, hao2⟩ := hJ
  replace hao := ao_tr hao hao2
  refine ra_0 oX0_hides_34 ?_
  refine ri_1 oX0_hides_35 ?_
  refine rr_cVn (c_X0_looks l W hac (by decide) (by first | omega | (simp only [bd_2]; omega))) oX0_hides_36 (cv_X0_43 rfl) (by decide) kk_26 (by decide) hcn_0 (wd_lt W rfl) rfl rfl (Nat.le_of_ble_eq_true rfl) (fun v1 J hJ => ?_)
  obtain ⟨hv1, hac, hao2⟩ := hJ
  replace hao := ao_tr hao hao2
  refine ra_0 oX0_hides_39 ?_
  refine ri_1 oX0_hides_40 ?_
  refine ra_0 oX0_hides_41 ?_
  refine rr_giv oX0_hides_42 (ff_X0_22 rfl) kk_26 (wd_lt W rfl) ⟨by decide, rfl⟩ hac.2.2.1 ?_
  refine rr_isub oX0_hides_45 ?_
  have hle := st_le 4 (s_loA 4 (s_hiA 4 A))
  have hle2 := lo_le 4 (s_hiA 4 A)
  have hle3 := hi_le 4 A
  refine rr_cVn (c_X0_stands l W hac (by decide) (show (s_stA 4 (s_loA 4 (s_hiA 4 A))).2 < 890 by omega)) oX0_hides_46 (cv_X0_39 rfl) (by decide) kk_26 (by decide) hcn_0 (wd_lt W rfl) rfl rfl (Nat.le_of_ble_eq_true rfl) (fun v J hJ => ?_)
  obtain ⟨hv, hac, hao2⟩ := hJ
  replace hao := ao_tr hao hao2
  refine rr_ixor oX0_hides_49 ?_
  refine si_2 oX0_hides_50 rfl rfl ?_
  refine ra_0 oX0_hides_51 ?_
  refine rr_giv oX0_hides_52 (ff_X0_15 rfl) kk_26 (wd_lt W rfl) ⟨by decide, rfl⟩ hac.1 ?_
  refine rk_4 oX0_hides_55 ?_
  refine rr_icmp_ne (tgt := 62) oX0_hides_56 (by decide) (fun q => absurd q (by decide)) (fun _ => ?_)
  refine ri_2 oX0_hides_59 ?_
  refine rr_ineg oX0_hides_60 ?_
  exact rr_ireturn oX0_hides_61 rfl rfl (q_n_of ⟨by rw [hv, hv1]; rfl, hac, hao⟩)
theorem c5_X0_hides (l : Launch) {I : Nat → Nat → Int32} {L : Nat → Nat → Int64} {Rf : Nat → Nat → Option Nat} {n : Nat} (W : wd_T Rf n) {A : (Nat → Int32) × Nat} {m a : Int32} (hac : ac_T I A 5 m a) {x : Int32} (hA : A.2 < 800) : wm_C l mX0_hides 4 0 0 [vv_A (some 26), vv_I x] (I, L, Rf, n) (q_n (fun v J => v = s_hiv 5 m a x ∧ ac_T J (s_stA 5 (s_stA 5 (s_loA 5 (s_hiA 5 A)))) 5 m a ∧ ao_T I J) L Rf n) := by
  refine wm_of (by decide) (Nat.le_of_ble_eq_true rfl) rfl ?_
  have hao : ao_T I I := ao_rf
  refine ra_0 oX0_hides_0 ?_
  refine rr_giv oX0_hides_1 (ff_X0_15 rfl) kk_26 (wd_lt W rfl) ⟨by decide, rfl⟩ hac.1 ?_
  refine rk_4 oX0_hides_4 ?_
  refine rr_icmp_ne (tgt := 14) oX0_hides_5 (by decide) (fun _ => ?_) (fun q => absurd q (by decide))
  refine ra_0 oX0_hides_14 ?_
  refine rr_giv oX0_hides_15 (ff_X0_15 rfl) kk_26 (wd_lt W rfl) ⟨by decide, rfl⟩ hac.1 ?_
  refine rk_5 oX0_hides_18 ?_
  refine rr_icmp_ne (tgt := 28) oX0_hides_19 (by decide) (fun q => absurd q (by decide)) (fun _ => ?_)
  refine ra_0 oX0_hides_22 ?_
  refine rr_bipush (v := 60) oX0_hides_23 (by decide) ?_
  refine rr_cVm (c_X0_begins l W hac (by first | omega | (simp only [bd_2]; omega))) oX0_hides_25 (cv_X0_28 rfl) (by decide) kk_26 (by decide) hcn_0 (wd_lt W rfl) rfl rfl (Nat.le_of_ble_eq_true rfl) (fun J hJ => ?_)
  obtain ⟨hac, hao2⟩ := hJ
  replace hao := ao_tr hao hao2
  refine ra_0 oX0_hides_28 ?_
  refine rr_bipush (v := 12) oX0_hides_29 (by decide) ?_
  refine rr_cVm (c_X0_begins l W hac (by first | omega | (simp only [bd_2]; omega))) oX0_hides_31 (cv_X0_28 rfl) (by decide) kk_26 (by decide) hcn_0 (wd_lt W rfl) rfl rfl (Nat.le_of_ble_eq_true rfl) (fun J hJ => ?_)
  obtain ⟨hac, hao2⟩ := hJ
  replace hao := ao_tr hao hao2
  refine ra_0 oX0_hides_34 ?_
  refine ri_1 oX0_hides_35 ?_
  refine rr_cVn (c_X0_looks l W hac (by decide) (by first | omega | (simp only [bd_2]; omega))) oX0_hides_36 (cv_X0_43 rfl) (by decide) kk_26 (by decide) hcn_0 (wd_lt W rfl) rfl rfl (Nat.le_of_ble_eq_true rfl) (fun v1 J hJ => ?_)
  obtain ⟨hv1, hac, hao2⟩ := hJ
  replace hao := ao_tr hao hao2
  refine ra_0 oX0_hides_39 ?_
  refine ri_1 oX0_hides_40 ?_
  refine ra_0 oX0_hides_41 ?_
  refine rr_giv oX0_hides_42 (ff_X0_22 rfl) kk_26 (wd_lt W rfl) ⟨by decide, rfl⟩ hac.2.2.1 ?_
  refine rr_isub oX0_hides_45 ?_
  have hle := st_le 5 (s_loA 5 (s_hiA 5 A))
  have hle2 := lo_le 5 (s_hiA 5 A)
  have hle3 := hi_le 5 A
  refine rr_cVn (c_X0_stands l W hac (by decide) (show (s_stA 5 (s_loA 5 (s_hiA 5 A))).2 < 890 by omega)) oX0_hides_46 (cv_X0_39 rfl) (by decide) kk_26 (by decide) hcn_0 (wd_lt W rfl) rfl rfl (Nat.le_of_ble_eq_true rfl) (fun v J hJ => ?_)
  obtain ⟨hv, hac, hao2⟩ := hJ
  replace hao := ao_tr hao hao2
  refine rr_ixor oX0_hides_49 ?_
  refine si_2 oX0_hides_50 rfl rfl ?_
  refine ra_0 oX0_hides_51 ?_
  refine rr_giv oX0_hides_52 (ff_X0_15 rfl) kk_26 (wd_lt W rfl) ⟨by decide, rfl⟩ hac.1 ?_
  refine rk_4 oX0_hides_55 ?_
  refine rr_icmp_ne (tgt := 62) oX0_hides_56 (by decide) (fun _ => ?_) (fun q => absurd q (by decide))
  refine ra_0 oX0_hides_62 ?_
  refine rr_giv oX0_hides_63 (ff_X0_15 rfl) kk_26 (wd_lt W rfl) ⟨by decide, rfl⟩ hac.1 ?_
  refine rk_5 oX0_hides_66 ?_
  refine rr_icmp_ne (tgt := 76) oX0_hides_67 (by decide) (fun q => absurd q (by decide)) (fun _ => ?_)
  refine ri_2 oX0_hides_70 ?_
  refine rk_5 oX0_hides_71 ?_
  refine rr_ixor oX0_hides_72 ?_
  refine rr_goto (tgt := 77) oX0_hides_73 (by decide) ?_
  exact rr_ireturn oX0_hides_77 rfl rfl (q_n_of ⟨by rw [hv, hv1]; rfl, hac, hao⟩)
theorem c6_X0_hides (l : Launch) {I : Nat → Nat → Int32} {L : Nat → Nat → Int64} {Rf : Nat → Nat → Option Nat} {n : Nat} (W : wd_T Rf n) {A : (Nat → Int32) × Nat} {m a : Int32} (hac : ac_T I A 6 m a) {x : Int32} (hA : A.2 < 800) : wm_C l mX0_hides 4 0 0 [vv_A (some 26), vv_I x] (I, L, Rf, n) (q_n (fun v J => v = s_hiv 6 m a x ∧ ac_T J (s_stA 6 (s_stA 6 (s_loA 6 (s_hiA 6 A)))) 6 m a ∧ ao_T I J) L Rf n) := by
  refine wm_of (by decide) (Nat.le_of_ble_eq_true rfl) rfl ?_
  have hao : ao_T I I := ao_rf
  refine ra_0 oX0_hides_0 ?_
  refine rr_giv oX0_hides_1 (ff_X0_15 rfl) kk_26 (wd_lt W rfl) ⟨by decide, rfl⟩ hac.1 ?_
  refine rk_4 oX0_hides_4 ?_
  refine rr_icmp_ne (tgt := 14) oX0_hides_5 (by decide) (fun _ => ?_) (fun q => absurd q (by decide))
  refine ra_0 oX0_hides_14 ?_
  refine rr_giv oX0_hides_15 (ff_X0_15 rfl) kk_26 (wd_lt W rfl) ⟨by decide, rfl⟩ hac.1 ?_
  refine rk_5 oX0_hides_18 ?_
  refine rr_icmp_ne (tgt := 28) oX0_hides_19 (by decide) (fun _ => ?_) (fun q => absurd q (by decide))
  refine ra_0 oX0_hides_28 ?_
  refine rr_bipush (v := 12) oX0_hides_29 (by decide) ?_
  refine rr_cVm (c_X0_begins l W hac (by first | omega | (simp only [bd_2]; omega))) oX0_hides_31 (cv_X0_28 rfl) (by decide) kk_26 (by decide) hcn_0 (wd_lt W rfl) rfl rfl (Nat.le_of_ble_eq_true rfl) (fun J hJ => ?_)
  obtain ⟨hac, hao2⟩ := hJ
  replace hao := ao_tr hao hao2
  refine ra_0 oX0_hides_34 ?_
  refine ri_1 oX0_hides_35 ?_
  refine rr_cVn (c_X0_looks l W hac (by decide) (by first | omega | (simp only [bd_2]; omega))) oX0_hides_36 (cv_X0_43 rfl) (by decide) kk_26 (by decide) hcn_0 (wd_lt W rfl) rfl rfl (Nat.le_of_ble_eq_true rfl) (fun v1 J hJ => ?_)
  obtain ⟨hv1, hac, hao2⟩ := hJ
  replace hao := ao_tr hao hao2
  refine ra_0 oX0_hides_39 ?_
  refine ri_1 oX0_hides_40 ?_
  refine ra_0 oX0_hides_41 ?_
  refine rr_giv oX0_hides_42 (ff_X0_22 rfl) kk_26 (wd_lt W rfl) ⟨by decide, rfl⟩ hac.2.2.1 ?_
  refine rr_isub oX0_hides_45 ?_
  have hle := st_le 6 (s_loA 6 (s_hiA 6 A))
  have hle2 := lo_le 6 (s_hiA 6 A)
  have hle3 := hi_le 6 A
  refine rr_cVn (c_X0_stands l W hac (by decide) (show (s_stA 6 (s_loA 6 (s_hiA 6 A))).2 < 890 by omega)) oX0_hides_46 (cv_X0_39 rfl) (by decide) kk_26 (by decide) hcn_0 (wd_lt W rfl) rfl rfl (Nat.le_of_ble_eq_true rfl) (fun v J hJ => ?_)
  obtain ⟨hv, hac, hao2⟩ := hJ
  replace hao := ao_tr hao hao2
  refine rr_ixor oX0_hides_49 ?_
  refine si_2 oX0_hides_50 rfl rfl ?_
  refine ra_0 oX0_hides_51 ?_
  refine rr_giv oX0_hides_52 (ff_X0_15 rfl) kk_26 (wd_lt W rfl) ⟨by decide, rfl⟩ hac.1 ?_
  refine rk_4 oX0_hides_55 ?_
  refine rr_icmp_ne (tgt := 62) oX0_hides_56 (by decide) (fun _ => ?_) (fun q => absurd q (by decide))
  refine ra_0 oX0_hides_62 ?_
  refine rr_giv oX0_hides_63 (ff_X0_15 rfl) kk_26 (wd_lt W rfl) ⟨by decide, rfl⟩ hac.1 ?_
  refine rk_5 oX0_hides_66 ?_
  refine rr_icmp_ne (tgt := 76) oX0_hides_67 (by decide) (fun _ => ?_) (fun q => absurd q (by decide))
  refine ri_2 oX0_hides_76 ?_
  exact rr_ireturn oX0_hides_77 rfl rfl (q_n_of ⟨by rw [hv, hv1]; rfl, hac, hao⟩)
theorem c_X0_hides (l : Launch) {I : Nat → Nat → Int32} {L : Nat → Nat → Int64} {Rf : Nat → Nat → Option Nat} {n : Nat} (W : wd_T Rf n) {A : (Nat → Int32) × Nat} {k m a : Int32} (hac : ac_T I A k m a) (hk : 0 ≤ k ∧ k ≤ 6) {x : Int32} (hA : A.2 < 800) : wm_C l mX0_hides 4 0 0 [vv_A (some 26), vv_I x] (I, L, Rf, n) (q_n (fun v J => v = s_hiv k m a x ∧ ac_T J (s_stA k (s_stA k (s_loA k (s_hiA k A)))) k m a ∧ ao_T I J) L Rf n) := by
  rcases kd_7 hk with rfl | rfl | rfl | rfl | rfl | rfl | rfl
  · exact c0_X0_hides l W hac hA
  · exact c1_X0_hides l W hac hA
  · exact c2_X0_hides l W hac hA
  · exact c3_X0_hides l W hac hA
  · exact c4_X0_hides l W hac hA
  · exact c5_X0_hides l W hac hA
  · exact c6_X0_hides l W hac hA
def f_act (S : sg_T) (t a x : Int32) : an_T :=
  if ¬ rn_T S t then (0, w_tr S (z_tr S) 0) else
  let k := g_k (z_G S) (ix_N t); let q := g_a (z_G S) (ix_N t)
  if a = 0 then (s_stv k t q x, w_tr S (s_stA k (z_tr S, 0)).1 (nI (s_stA k (z_tr S, 0)).2))
  else if a = 1 then (s_lov k t q x, w_tr S (s_stA k (s_loA k (z_tr S, 0))).1 (nI (s_stA k (s_loA k (z_tr S, 0))).2))
  else if a = 2 then (s_hiv k t q x, w_tr S (s_stA k (s_stA k (s_loA k (s_hiA k (z_tr S, 0))))).1 (nI (s_stA k (s_stA k (s_loA k (s_hiA k (z_tr S, 0))))).2))
  else (0, w_tr S (z_tr S) 0)
def f_trace (S : sg_T) (i : Int32) : Int32 := if 0 ≤ i ∧ i < z_ra S ∧ i < 20 then z_tr S (ix_N i) else -1
theorem CR_tr {I J : Nat → Nat → Int32} {L : Nat → Nat → Int64} {S : sg_T} (h : CR_T I L S) (ho : ao_T I J) {f : Nat → Int32} {r : Int32} (hf : ∀ k, k < 20 → J 27 k = f k) (hr : J 26 4 = r) : CR_T J L (w_tr S f r) := by
  obtain ⟨h1, h2, h3, h4, h5, h6, h7, h8⟩ := h
  refine ⟨cg_ce h1 (fun j hj => ho _ (by omega) (by omega)), ?_, fun q => cg_ce (h3 q) (fun j hj => ho _ (by omega) (by omega)), fun k hk => ?_, ?_, fun s hs => ?_, hf, hr⟩
  · rw [ho 0 (by omega) (by omega)]; exact h2
  · rw [ho 28 (by omega) (by omega)]; exact h4 k hk
  · rw [ho 0 (by omega) (by omega)]; exact h5
  · rw [ho (30 + 2 * s) (by omega) (by omega)]; exact h6 s hs
theorem q_C_tr {S : sg_T} {I J : Nat → Nat → Int32} {L : Nat → Nat → Int64} {Rf : Nat → Nat → Option Nat} {n : Nat} {v w : Int32} {a : an_T} {A : (Nat → Int32) × Nat} {k m q : Int32} (hC : CR_T I L S) (hac : ac_T J A k m q) (ho : ao_T I J) (ha : a = (v, w_tr S A.1 (nI A.2))) (hv : w = v) : q_C a.1 a.2 I L Rf n (some (vv_I w)) (J, L, Rf, n) := by
  rw [ha]
  exact q_C_of hv (CR_tr hC ho hac.2.2.2.2.2 hac.2.2.2.1) (fun b hb => ⟨ho b (by omega) (by omega), rfl⟩)
theorem c_X0_forget (l : Launch) {I : Nat → Nat → Int32} {L : Nat → Nat → Int64} {Rf : Nat → Nat → Option Nat} {n : Nat} (W : wd_T Rf n) : wm_C l mX0_forget 1 0 0 [vv_A (some 26)] (I, L, Rf, n) (q_v (up_I I 26 4 0, L, Rf, n)) := by
  refine wm_of (by decide) (Nat.le_of_ble_eq_true rfl) rfl ?_
  refine ra_0 oX0_forget_0 ?_
  refine rk_0 oX0_forget_1 ?_
  refine rr_pi oX0_forget_2 (ff_X0_25 rfl) kk_26 (wd_lt W rfl) ⟨by decide, rfl, by decide⟩ pf_0_4 ⟨rfl, rfl⟩ ?_
  exact rr_return oX0_forget_5 rfl ⟨rfl, rfl⟩
theorem c_X0_actor (l : Launch) {I : Nat → Nat → Int32} {L : Nat → Nat → Int64} {Rf : Nat → Nat → Option Nat} {n : Nat} (W : wd_T Rf n) {x y z : Int32} : wm_C l mX0_actor 1 0 0 [vv_A (some 26), vv_I x, vv_I y, vv_I z] (I, L, Rf, n) (q_v (up_I (up_I (up_I I 26 1 x) 26 2 y) 26 3 z, L, Rf, n)) := by
  refine wm_of (by decide) (Nat.le_of_ble_eq_true rfl) rfl ?_
  refine ra_0 oX0_actor_0 ?_
  refine ri_1 oX0_actor_1 ?_
  refine rr_pi oX0_actor_2 (ff_X0_15 rfl) kk_26 (wd_lt W rfl) ⟨by decide, rfl, by decide⟩ pf_0_1 ⟨rfl, rfl⟩ ?_
  refine ra_0 oX0_actor_5 ?_
  refine ri_2 oX0_actor_6 ?_
  refine rr_pi oX0_actor_7 (ff_X0_19 rfl) kk_26 (wd_lt W rfl) ⟨by decide, rfl, by decide⟩ pf_0_2 ⟨rfl, rfl⟩ ?_
  refine ra_0 oX0_actor_10 ?_
  refine ri_3 oX0_actor_11 ?_
  refine rr_pi oX0_actor_12 (ff_X0_22 rfl) kk_26 (wd_lt W rfl) ⟨by decide, rfl, by decide⟩ pf_0_3 ⟨rfl, rfl⟩ ?_
  exact rr_return oX0_actor_15 rfl ⟨rfl, rfl⟩
theorem c_X0_bodyAt (l : Launch) {I : Nat → Nat → Int32} {L : Nat → Nat → Int64} {Rf : Nat → Nat → Option Nat} {n : Nat} {S : sg_T} (W : wd_T Rf n) (hC : CR_T I L S) {i : Int32} : wm_C l mX0_bodyAt 1 0 0 [vv_A (some 26), vv_I i] (I, L, Rf, n) (q_i (f_trace S i) (I, L, Rf, n)) := by
  refine wm_of (by decide) (Nat.le_of_ble_eq_true rfl) rfl ?_
  refine ri_1 oX0_bodyAt_0 ?_
  refine rr_if_lt (tgt := 27) oX0_bodyAt_1 (by decide) (fun c => ?_) (fun c => ?_)
  · refine rk_m1 oX0_bodyAt_27 ?_
    exact rr_ireturn oX0_bodyAt_28 rfl rfl (q_is (by rw [f_trace, if_neg (fun q => Int32.not_lt.mpr q.1 c)]))
  · refine ri_1 oX0_bodyAt_4 ?_
    refine ra_0 oX0_bodyAt_5 ?_
    refine rr_giv oX0_bodyAt_6 (ff_X0_25 rfl) kk_26 (wd_lt W rfl) ⟨by decide, rfl⟩ hC.2.2.2.2.2.2.2 ?_
    refine rr_icmp_ge (tgt := 27) oX0_bodyAt_9 (by decide) (fun c1 => ?_) (fun c1 => ?_)
    · refine rk_m1 oX0_bodyAt_27 ?_
      exact rr_ireturn oX0_bodyAt_28 rfl rfl (q_is (by rw [f_trace, if_neg (fun q => Int32.not_lt.mpr c1 q.2.1)]))
    · refine ri_1 oX0_bodyAt_12 ?_
      refine rr_bipush (v := 20) oX0_bodyAt_13 (by decide) ?_
      refine rr_icmp_ge (tgt := 27) oX0_bodyAt_15 (by decide) (fun c2 => ?_) (fun c2 => ?_)
      · refine rk_m1 oX0_bodyAt_27 ?_
        exact rr_ireturn oX0_bodyAt_28 rfl rfl (q_is (by rw [f_trace, if_neg (fun q => Int32.not_lt.mpr c2 q.2.2)]))
      · obtain ⟨t, ht, rfl⟩ := ix_of (Int32.not_lt.mp c) (show i < nI 20 from Int32.not_le.mp c2) (by omega)
        refine ra_0 oX0_bodyAt_18 ?_
        refine rr_gr (v := 27) oX0_bodyAt_19 (ff_X0_11 rfl) kk_26 (wd_lt W rfl) ⟨by decide, rfl⟩ (wd_r W rfl rfl) ?_
        refine ri_1 oX0_bodyAt_22 ?_
        refine rr_iv oX0_bodyAt_23 kk_27 (wd_lt W rfl) rfl (by omega) (by decide) (hC.2.2.2.2.2.2.1 t ht) ?_
        refine rr_goto (tgt := 28) oX0_bodyAt_24 (by decide) ?_
        exact rr_ireturn oX0_bodyAt_28 rfl rfl (q_is (by rw [f_trace, if_pos ⟨Int32.not_lt.mp c, Int32.not_le.mp c1, Int32.not_le.mp c2⟩]; exact congrArg (z_tr S) (nI_clamp (by omega)).symm))
theorem c_X4_trace (l : Launch) {I : Nat → Nat → Int32} {L : Nat → Nat → Int64} {Rf : Nat → Nat → Option Nat} {n : Nat} {S : sg_T} (W : wd_T Rf n) (hC : CR_T I L S) (hI : IV_T S) {i : Int32} : wm_C l mX4_trace 2 0 0 [vv_A (some 0), vv_I i] (I, L, Rf, n) (q_i (f_trace S i) (I, L, Rf, n)) := by
  refine wm_of (by decide) (Nat.le_of_ble_eq_true rfl) rfl ?_
  have hG : gv_T I 2 (z_G S) := hC.1.1.1
  have h8 : g_n (z_G S) ≤ 8 := hI.1.1
  have hr : hr_T (z_G S) := hI.1.2.1
  refine ra_0 oX4_trace_0 ?_
  refine rr_gr (v := 26) oX4_trace_1 (ff_X4_31 rfl) kk_0 (wd_lt W rfl) ⟨by decide, rfl⟩ (wd_r W rfl rfl) ?_
  refine ri_1 oX4_trace_4 ?_
  refine rr_cVi (c_X0_bodyAt l W hC) oX4_trace_5 (cv_X4_332 rfl) (by decide) kk_26 (by decide) hcn_0 (wd_lt W rfl) rfl rfl (Nat.le_of_ble_eq_true rfl) ?_
  exact rr_ireturn oX4_trace_8 rfl rfl ⟨rfl, rfl⟩
theorem c_X4_act (l : Launch) {I : Nat → Nat → Int32} {L : Nat → Nat → Int64} {Rf : Nat → Nat → Option Nat} {n : Nat} {S : sg_T} (W : wd_T Rf n) (hC : CR_T I L S) (hI : IV_T S) {t a x : Int32} : wm_C l mX4_act 5 0 0 [vv_A (some 0), vv_I t, vv_I a, vv_I x] (I, L, Rf, n) (q_C (f_act S t a x).1 (f_act S t a x).2 I L Rf n) := by
  refine wm_of (by decide) (Nat.le_of_ble_eq_true rfl) rfl ?_
  have hG : gv_T I 2 (z_G S) := hC.1.1.1
  have h8 : g_n (z_G S) ≤ 8 := hI.1.1
  have hr : hr_T (z_G S) := hI.1.2.1
  refine ra_0 oX4_act_0 ?_
  refine rr_gr (v := 26) oX4_act_1 (ff_X4_31 rfl) kk_0 (wd_lt W rfl) ⟨by decide, rfl⟩ (wd_r W rfl rfl) ?_
  refine rr_cVv (c_X0_forget l W) oX4_act_4 (cv_X4_316 rfl) (by decide) kk_26 (by decide) hcn_0 (wd_lt W rfl) rfl rfl (Nat.le_of_ble_eq_true rfl) ?_
  have hG0 := hG
  replace hG : gv_T (up_I I 26 4 0) 2 (z_G S) := gv_keep hG (by rw [up_I_ne (by omega)]) (by rw [up_I_ne (by omega)]) (by rw [up_I_ne (by omega)]) (fun j q1 q2 => up_I_ne (by omega))
  skip
  refine ra_0 oX4_act_7 ?_
  refine rr_gr (v := 2) oX4_act_8 (ff_X4_18 rfl) kk_0 (wd_lt W rfl) ⟨by decide, rfl⟩ (wd_r W rfl rfl) ?_
  refine ri_1 oX4_act_11 ?_
  refine rr_cVi (c_X1_hasG l W gd_2 hG) oX4_act_12 (cv_X4_91 rfl) (by decide) (gd_k gd_2) (by decide) hcn_1 (gd_lt (j := 0) W gd_2 rfl) rfl rfl (Nat.le_of_ble_eq_true rfl) ?_
  refine rr_ifb_ne (tgt := 20) oX4_act_15 (by decide) (fun c => ?_) (fun c => ?_)
  · obtain ⟨b, hb, rfl⟩ := ix_of c.1 c.2 (by omega)
    have exb : ix_N (nI b) = b := nI_clamp (by omega)
    refine ra_0 oX4_act_20 ?_
    refine rr_gr (v := 26) oX4_act_21 (ff_X4_31 rfl) kk_0 (wd_lt W rfl) ⟨by decide, rfl⟩ (wd_r W rfl rfl) ?_
    refine ra_0 oX4_act_24 ?_
    refine rr_gr (v := 2) oX4_act_25 (ff_X4_18 rfl) kk_0 (wd_lt W rfl) ⟨by decide, rfl⟩ (wd_r W rfl rfl) ?_
    refine rr_gr oX4_act_28 (ff_X4_104 rfl) (gd_k gd_2) (gd_lt (j := 0) W gd_2 rfl) ⟨by decide, rfl⟩ (gd_r W gd_2 6 1 rfl) ?_
    refine ri_1 oX4_act_31 ?_
    refine rr_iv oX4_act_32 (gd_a gd_2 1 rfl) (gd_lt (j := 1) W gd_2 rfl) rfl (by omega) (by decide) (gv_k hG (by omega)) ?_
    refine ri_1 oX4_act_33 ?_
    refine ra_0 oX4_act_34 ?_
    refine rr_gr (v := 2) oX4_act_35 (ff_X4_18 rfl) kk_0 (wd_lt W rfl) ⟨by decide, rfl⟩ (wd_r W rfl rfl) ?_
    refine rr_gr oX4_act_38 (ff_X4_145 rfl) (gd_k gd_2) (gd_lt (j := 0) W gd_2 rfl) ⟨by decide, rfl⟩ (gd_r W gd_2 10 5 rfl) ?_
    refine ri_1 oX4_act_41 ?_
    refine rr_iv oX4_act_42 (gd_a gd_2 5 rfl) (gd_lt (j := 5) W gd_2 rfl) rfl (by omega) (by decide) (gv_a hG (by omega)) ?_
    refine rr_cVv (c_X0_actor l W) oX4_act_43 (cv_X4_319 rfl) (by decide) kk_26 (by decide) hcn_0 (wd_lt W rfl) rfl rfl (Nat.le_of_ble_eq_true rfl) ?_
    have hac : ac_T (up_I (up_I (up_I (up_I I 26 4 0) 26 1 (g_k (z_G S) b)) 26 2 (nI b)) 26 3 (g_a (z_G S) b)) (z_tr S, 0) (g_k (z_G S) b) (nI b) (g_a (z_G S) b) := ⟨by rw [up_I_at_ne (by omega), up_I_at_ne (by omega), up_I_at], by rw [up_I_at_ne (by omega), up_I_at], up_I_at, by rw [up_I_at_ne (by omega), up_I_at_ne (by omega), up_I_at_ne (by omega), up_I_at]; rfl, by show (0 : Nat) < 1000; omega, fun i hi => by rw [up_I_ne (by omega), up_I_ne (by omega), up_I_ne (by omega), up_I_ne (by omega)]; exact hC.2.2.2.2.2.2.1 i hi⟩
    have hao : ao_T I (up_I (up_I (up_I (up_I I 26 4 0) 26 1 (g_k (z_G S) b)) 26 2 (nI b)) 26 3 (g_a (z_G S) b)) := fun q q1 _ => by rw [up_I_ne q1, up_I_ne q1, up_I_ne q1, up_I_ne q1]
    refine ri_2 oX4_act_46 ?_
    by_cases c47_0 : a = 0
    · refine rr_tabIn (off := 25) (tgt := 72) oX4_act_47 (by rw [c47_0]; decide) (by rw [c47_0]; decide) (by rw [c47_0]; rfl) (by decide) ?_
      refine ra_0 oX4_act_72 ?_
      refine rr_gr (v := 26) oX4_act_73 (ff_X4_31 rfl) kk_0 (wd_lt W rfl) ⟨by decide, rfl⟩ (wd_r W rfl rfl) ?_
      refine ri_3 oX4_act_76 ?_
      refine rr_cVn (c_X0_stands l W hac (hI.1.2.2.2.2.2.1 b hb) (by show (0 : Nat) < 890; omega)) oX4_act_77 (cv_X4_323 rfl) (by decide) kk_26 (by decide) hcn_0 (wd_lt W rfl) rfl rfl (Nat.le_of_ble_eq_true rfl) (fun v J hJ => ?_)
      obtain ⟨hv, hac, hao2⟩ := hJ
      replace hao := ao_tr hao hao2
      exact rr_ireturn oX4_act_80 rfl rfl (q_C_tr hC hac hao (by rw [f_act, if_neg (fun q => q c)]; simp only [exb, c47_0, if_true]) hv)
    by_cases c47_1 : a = 1
    · refine rr_tabIn (off := 34) (tgt := 81) oX4_act_47 (by rw [c47_1]; decide) (by rw [c47_1]; decide) (by rw [c47_1]; rfl) (by decide) ?_
      refine ra_0 oX4_act_81 ?_
      refine rr_gr (v := 26) oX4_act_82 (ff_X4_31 rfl) kk_0 (wd_lt W rfl) ⟨by decide, rfl⟩ (wd_r W rfl rfl) ?_
      refine ri_3 oX4_act_85 ?_
      refine rr_cVn (c_X0_looks l W hac (hI.1.2.2.2.2.2.1 b hb) (by show (0 : Nat) < 880; omega)) oX4_act_86 (cv_X4_326 rfl) (by decide) kk_26 (by decide) hcn_0 (wd_lt W rfl) rfl rfl (Nat.le_of_ble_eq_true rfl) (fun v J hJ => ?_)
      obtain ⟨hv, hac, hao2⟩ := hJ
      replace hao := ao_tr hao hao2
      exact rr_ireturn oX4_act_89 rfl rfl (q_C_tr hC hac hao (by rw [f_act, if_neg (fun q => q c)]; simp only [exb]; rw [if_neg c47_0, if_pos c47_1]) hv)
    by_cases c47_2 : a = 2
    · refine rr_tabIn (off := 43) (tgt := 90) oX4_act_47 (by rw [c47_2]; decide) (by rw [c47_2]; decide) (by rw [c47_2]; rfl) (by decide) ?_
      refine ra_0 oX4_act_90 ?_
      refine rr_gr (v := 26) oX4_act_91 (ff_X4_31 rfl) kk_0 (wd_lt W rfl) ⟨by decide, rfl⟩ (wd_r W rfl rfl) ?_
      refine ri_3 oX4_act_94 ?_
      refine rr_cVn (c_X0_hides l W hac (hI.1.2.2.2.2.2.1 b hb) (by show (0 : Nat) < 800; omega)) oX4_act_95 (cv_X4_329 rfl) (by decide) kk_26 (by decide) hcn_0 (wd_lt W rfl) rfl rfl (Nat.le_of_ble_eq_true rfl) (fun v J hJ => ?_)
      obtain ⟨hv, hac, hao2⟩ := hJ
      replace hao := ao_tr hao hao2
      exact rr_ireturn oX4_act_98 rfl rfl (q_C_tr hC hac hao (by rw [f_act, if_neg (fun q => q c)]; simp only [exb]; rw [if_neg c47_0, if_neg c47_1, if_pos c47_2]) hv)
    refine rr_tabOut (tgt := 99) oX4_act_47 (tab_out_0_2 c47_0 c47_1 c47_2) (by decide) ?_
    refine rk_0 oX4_act_99 ?_
    exact rr_ireturn oX4_act_100 rfl rfl (q_C_tr hC hac hao (by rw [f_act, if_neg (fun q => q c)]; simp only [exb]; rw [if_neg c47_0, if_neg c47_1, if_neg c47_2]; rfl) rfl)
  · refine rk_0 oX4_act_18 ?_
    rw [show f_act S t a x = (0, w_tr S (z_tr S) 0) from by rw [f_act, if_pos c]]
    exact rr_ireturn oX4_act_19 rfl rfl (q_C_of rfl (CR_tr hC (J := up_I I 26 4 0) (fun q q1 _ => up_I_ne q1) (fun k hk => by rw [up_I_ne (by omega)]; exact hC.2.2.2.2.2.2.1 k hk) up_I_at) (fun b hb => ⟨up_I_ne (by omega), rfl⟩))
