/-! the class's Reader: signs, digits, numbers, words (by program: wip/whole/c32.py) -/
def rd_H (Rf : Nat → Nat → Option Nat) (n r s : Nat) : Prop := 67 ≤ r ∧ r < n ∧ s < 8 ∧ Rf r 0 = some (30 + 2 * s) ∧ Rf r 1 = some 18
theorem kO_ge {r : Nat} (h : 67 ≤ r) : kO r = 2 := by
  unfold kO
  rw [List.getD_eq_getElem?_getD, List.getElem?_eq_none (by show 67 ≤ r; exact h)]
  rfl
theorem rd_k {Rf : Nat → Nat → Option Nat} {n r s : Nat} (h : rd_H Rf n r s) : kO r = 2 := kO_ge h.1
theorem rd_lt {Rf : Nat → Nat → Option Nat} {n r s : Nat} (h : rd_H Rf n r s) : r < n := h.2.1
theorem rd_0 {Rf : Nat → Nat → Option Nat} {n r s : Nat} (h : rd_H Rf n r s) : Rf r 0 = some (30 + 2 * s) := h.2.2.2.1
theorem rd_1 {Rf : Nat → Nat → Option Nat} {n r s : Nat} (h : rd_H Rf n r s) : Rf r 1 = some 18 := h.2.2.2.2
def rd_S (I : Nat → Nat → Int32) (r : Nat) (s : rs_T) : Prop := I r 2 = nI s.1 ∧ I r 3 = nI s.2.1 ∧ I r 4 = oI s.2.2
def rk_T (I J : Nat → Nat → Int32) (r : Nat) (s : rs_T) : Prop := rd_S J r s ∧ ∀ a, a ≠ r → J a = I a
theorem rk_tr {I J K : Nat → Nat → Int32} {r : Nat} {s : rs_T} (h1 : ∀ a, a ≠ r → J a = I a) (h : rk_T J K r s) : rk_T I K r s := ⟨h.1, fun a ha => (h.2 a ha).trans (h1 a ha)⟩
theorem rd_p {I : Nat → Nat → Int32} {r p q fd : Nat} {f : Option Nat} (h : rd_S I r (p, fd, f)) : rd_S (up_I I r 2 (nI q)) r (q, fd, f) := ⟨up_I_at, by rw [up_I_at_ne (by omega)]; exact h.2.1, by rw [up_I_at_ne (by omega)]; exact h.2.2⟩
theorem rd_f {I : Nat → Nat → Int32} {r p q fd : Nat} {f : Option Nat} (h : rd_S I r (p, fd, f)) : rd_S (up_I I r 3 (nI q)) r (p, q, f) := ⟨by rw [up_I_at_ne (by omega)]; exact h.1, up_I_at, by rw [up_I_at_ne (by omega)]; exact h.2.2⟩
theorem dg_v {sg : Nat → Int32} {p : Nat} (h : 48 ≤ sg p ∧ sg p ≤ 57) : sg p - 48 = oI (s_dg sg p) := by
  have hd : s_dg sg p = some (sg p - 48).toNatClampNeg := if_pos h
  obtain ⟨a1, a2⟩ := dg_e hd
  rw [hd]
  have e2 : ∀ n, n < 10 → nI (48 + n) - 48 = nI n := by decide +kernel
  show sg p - 48 = nI (sg p - 48).toNatClampNeg
  generalize (sg p - 48).toNatClampNeg = a at a1 a2 ⊢
  rw [a2]
  exact e2 a a1
theorem dm_N : ∀ a, a < 10 → ∀ b, b < 10 → nI a * 10 + nI b = nI (a * 10 + b) := by decide +kernel
theorem mx_N9 : ∀ a, a < 9 → ∀ b, b < 9 → s_max (nI a) (nI b) = nI (max a b) := by decide +kernel
theorem oI_inj {u v : Option Nat} (hu : ∀ x, u = some x → x ≤ 99) (hv : ∀ x, v = some x → x ≤ 99) : oI u = oI v ↔ u = v := by
  cases u with
  | none =>
    cases v with
    | none => simp
    | some y => exact ⟨fun q => absurd q.symm (nI_nm1 (by have := hv y rfl; omega)), fun q => by cases q⟩
  | some x =>
    cases v with
    | none => exact ⟨fun q => absurd q (nI_nm1 (by have := hu x rfl; omega)), fun q => by cases q⟩
    | some y =>
      have h1 := hu x rfl
      have h2 := hv y rfl
      show nI x = nI y ↔ _
      rw [nI_inj (by omega) (by omega)]
      simp
theorem hs_iff {B : gb_T} (h8 : g_n (b_G B) ≤ 8) {v : Option Nat} (hv : ∀ x, v = some x → x ≤ 99) : ((0 ≤ oI v ∧ oI v < nI (g_n (b_G B))) ∧ is_H (g_k (b_G B) (oI v).toNatClampNeg)) ↔ hs_B B v = true := by
  cases v with
  | none => exact ⟨fun q => absurd q.1.1 (by decide), fun q => by cases q⟩
  | some t =>
    have ht := hv t rfl
    show ((0 ≤ nI t ∧ nI t < nI (g_n (b_G B))) ∧ is_H (g_k (b_G B) (nI t).toNatClampNeg)) ↔ _
    rw [nI_lt_iff (by omega) (by omega), nI_clamp (by omega)]
    simp only [hs_B, Bool.and_eq_true, decide_eq_true_eq]
    exact ⟨fun q => ⟨q.1.2, q.2⟩, fun q => ⟨⟨nI_pos' (by omega), q.1⟩, q.2⟩⟩
theorem c_X2_signAt (l : Launch) {I : Nat → Nat → Int32} {L : Nat → Nat → Int64} {Rf : Nat → Nat → Option Nat} {n : Nat} {r s z : Nat} (W : wd_T Rf n) (hR : rd_H Rf n r s) (hz : I (30 + 2 * s) 1 = nI z ∧ z ≤ 160)  {p : Nat} (hp : p ≤ 400) : wm_C l mX2_signAt 1 0 0 [vv_A (some r), vv_I (nI p)] (I, L, Rf, n) (q_i ((s_sg z (L (30 + 2 * s + 1))) p) (I, L, Rf, n)) := by
  refine wm_of (by decide) (Nat.le_of_ble_eq_true rfl) rfl ?_
  have h67 := hR.1
  have hs8 := hR.2.2.1
  have h160 := hz.2
  refine ri_1 oX2_signAt_0 ?_
  refine rr_if_lt (tgt := 28) oX2_signAt_1 (by decide) (fun c => ?_) (fun c => ?_)
  · exact absurd c (nI_pos (by omega))
  refine ri_1 oX2_signAt_4 ?_
  refine ra_0 oX2_signAt_5 ?_
  refine rr_gr oX2_signAt_6 (ff_X2_21 rfl) (rd_k hR) (rd_lt hR) ⟨by decide, rfl⟩ (rd_0 hR) ?_
  refine rr_giv oX2_signAt_9 (ff_X2_32 rfl) (sh_k (sh_of hR.2.2.1)) (sh_lt (j := 0) W (sh_of hR.2.2.1) rfl) ⟨by decide, rfl⟩ hz.1 ?_
  refine rr_icmp_ge (tgt := 28) oX2_signAt_12 (by decide) (fun c1 => ?_) (fun c1 => ?_)
  · rw [nI_le_iff (by omega) (by omega)] at c1
    refine rk_m1 oX2_signAt_28 ?_
    exact rr_ireturn oX2_signAt_29 rfl rfl (q_is (show (-1 : Int32) = (s_sg z (L (30 + 2 * s + 1))) p from (if_neg (by omega)).symm))
  · rw [nI_le_iff (by omega) (by omega)] at c1
    refine ra_0 oX2_signAt_15 ?_
    refine rr_gr oX2_signAt_16 (ff_X2_21 rfl) (rd_k hR) (rd_lt hR) ⟨by decide, rfl⟩ (rd_0 hR) ?_
    refine rr_gr oX2_signAt_19 (ff_X2_136 rfl) (sh_k (sh_of hR.2.2.1)) (sh_lt (j := 0) W (sh_of hR.2.2.1) rfl) ⟨by decide, rfl⟩ (sh_r W (sh_of hR.2.2.1)) ?_
    refine ri_1 oX2_signAt_22 ?_
    refine rr_lld oX2_signAt_23 (sh_a (sh_of hR.2.2.1)) (sh_lt (j := 1) W (sh_of hR.2.2.1) rfl) rfl (by omega) (by decide) ?_
    refine rr_l2i oX2_signAt_24 ?_
    refine rr_goto (tgt := 29) oX2_signAt_25 (by decide) ?_
    exact rr_ireturn oX2_signAt_29 rfl rfl (q_is (show _ = (s_sg z (L (30 + 2 * s + 1))) p from (if_pos (by omega)).symm))
theorem c_X2_digitAt (l : Launch) {I : Nat → Nat → Int32} {L : Nat → Nat → Int64} {Rf : Nat → Nat → Option Nat} {n : Nat} {r s z : Nat} (W : wd_T Rf n) (hR : rd_H Rf n r s) (hz : I (30 + 2 * s) 1 = nI z ∧ z ≤ 160)  {p : Nat} (hp : p ≤ 400) : wm_C l mX2_digitAt 2 0 0 [vv_A (some r), vv_I (nI p)] (I, L, Rf, n) (q_i (oI (s_dg (s_sg z (L (30 + 2 * s + 1))) p)) (I, L, Rf, n)) := by
  refine wm_of (by decide) (Nat.le_of_ble_eq_true rfl) rfl ?_
  have h67 := hR.1
  have hs8 := hR.2.2.1
  have h160 := hz.2
  refine ra_0 oX2_digitAt_0 ?_
  refine ri_1 oX2_digitAt_1 ?_
  refine rr_cVi (c_X2_signAt l W hR hz hp) oX2_digitAt_2 (cv_X2_126 rfl) (by decide) (rd_k hR) (by decide) hcn_2 (rd_lt hR) rfl rfl (Nat.le_of_ble_eq_true rfl) ?_
  refine si_2 oX2_digitAt_5 rfl rfl ?_
  refine ri_2 oX2_digitAt_6 ?_
  refine rr_bipush (v := 48) oX2_digitAt_7 (by decide) ?_
  refine rr_icmp_lt (tgt := 25) oX2_digitAt_9 (by decide) (fun c => ?_) (fun c => ?_)
  · refine rk_m1 oX2_digitAt_25 ?_
    exact rr_ireturn oX2_digitAt_26 rfl rfl (q_is (by rw [s_dg, if_neg (fun q => Int32.not_lt.mpr q.1 c)]; rfl))
  · refine ri_2 oX2_digitAt_12 ?_
    refine rr_bipush (v := 57) oX2_digitAt_13 (by decide) ?_
    refine rr_icmp_gt (tgt := 25) oX2_digitAt_15 (by decide) (fun c1 => ?_) (fun c1 => ?_)
    · refine rk_m1 oX2_digitAt_25 ?_
      exact rr_ireturn oX2_digitAt_26 rfl rfl (q_is (by rw [s_dg, if_neg (fun q => Int32.not_lt.mpr q.2 c1)]; rfl))
    · refine ri_2 oX2_digitAt_18 ?_
      refine rr_bipush (v := 48) oX2_digitAt_19 (by decide) ?_
      refine rr_isub oX2_digitAt_21 ?_
      refine rr_goto (tgt := 26) oX2_digitAt_22 (by decide) ?_
      exact rr_ireturn oX2_digitAt_26 rfl rfl (q_is (dg_v (sg := (s_sg z (L (30 + 2 * s + 1)))) ⟨Int32.not_lt.mp c, Int32.not_lt.mp c1⟩))
theorem c_X2_faultAt (l : Launch) {I : Nat → Nat → Int32} {L : Nat → Nat → Int64} {Rf : Nat → Nat → Option Nat} {n : Nat} {r s z : Nat} (W : wd_T Rf n) (hR : rd_H Rf n r s) (hz : I (30 + 2 * s) 1 = nI z ∧ z ≤ 160)  {st : rs_T} (hS : rd_S I r st) (hb : rb_T z st) {x : Nat} : wm_C l mX2_faultAt 1 0 0 [vv_A (some r), vv_I (nI x)] (I, L, Rf, n) (q_m (fun J => rk_T I J r (st.1, st.2.1, or_F st.2.2 x)) L Rf n) := by
  refine wm_of (by decide) (Nat.le_of_ble_eq_true rfl) rfl ?_
  have h67 := hR.1
  have hs8 := hR.2.2.1
  have h160 := hz.2
  obtain ⟨hb0, hb00, hb000⟩ := id hb
  refine ra_0 oX2_faultAt_0 ?_
  refine rr_giv oX2_faultAt_1 (ff_X2_18 rfl) (rd_k hR) (rd_lt hR) ⟨by decide, rfl⟩ hS.2.2 ?_
  obtain ⟨p, fd, f⟩ := st
  rcases f with _ | y
  · refine rk_m1 oX2_faultAt_4 ?_
    refine rr_icmp_ne (tgt := 13) oX2_faultAt_5 (by decide) (fun c => ?_) (fun c => ?_)
    · exact absurd rfl c
    refine ra_0 oX2_faultAt_8 ?_
    refine ri_1 oX2_faultAt_9 ?_
    refine rr_pi oX2_faultAt_10 (ff_X2_18 rfl) (rd_k hR) (rd_lt hR) ⟨by decide, rfl, by decide⟩ pf_2_4 ⟨rfl, rfl⟩ ?_
    exact rr_return oX2_faultAt_13 rfl (q_m_of ⟨⟨by rw [up_I_at_ne (by omega)]; exact hS.1, by rw [up_I_at_ne (by omega)]; exact hS.2.1, up_I_at⟩, fun a ha => up_I_ne ha⟩)
  · have hy : y ≤ z + 8 := hb000 y rfl
    refine rk_m1 oX2_faultAt_4 ?_
    refine rr_icmp_ne (tgt := 13) oX2_faultAt_5 (by decide) (fun c => ?_) (fun c => ?_)
    rotate_left
    · exact absurd c (nI_nm1 (by omega))
    exact rr_return oX2_faultAt_13 rfl (q_m_of ⟨hS, fun _ _ => rfl⟩)
theorem c_X2_readSign (l : Launch) {I : Nat → Nat → Int32} {L : Nat → Nat → Int64} {Rf : Nat → Nat → Option Nat} {n : Nat} {r s z : Nat} (W : wd_T Rf n) (hR : rd_H Rf n r s) (hz : I (30 + 2 * s) 1 = nI z ∧ z ≤ 160)  {st : rs_T} (hS : rd_S I r st) (hb : rb_T z st) {c : Int32} : wm_C l mX2_readSign 2 0 0 [vv_A (some r), vv_I c] (I, L, Rf, n) (q_m (fun J => rk_T I J r (m_sgn (s_sg z (L (30 + 2 * s + 1))) c st)) L Rf n) := by
  refine wm_of (by decide) (Nat.le_of_ble_eq_true rfl) rfl ?_
  have h67 := hR.1
  have hs8 := hR.2.2.1
  have h160 := hz.2
  obtain ⟨hb0, hb00, hb000⟩ := id hb
  refine ra_0 oX2_readSign_0 ?_
  refine ra_0 oX2_readSign_1 ?_
  refine rr_giv oX2_readSign_2 (ff_X2_9 rfl) (rd_k hR) (rd_lt hR) ⟨by decide, rfl⟩ hS.1 ?_
  refine rr_cVi (c_X2_signAt l W hR hz (p := st.1) (by omega)) oX2_readSign_5 (cv_X2_126 rfl) (by decide) (rd_k hR) (by decide) hcn_2 (rd_lt hR) rfl rfl (Nat.le_of_ble_eq_true rfl) ?_
  refine ri_1 oX2_readSign_8 ?_
  refine rr_icmp_ne (tgt := 25) oX2_readSign_9 (by decide) (fun c1 => ?_) (fun c1 => ?_)
  · refine ra_0 oX2_readSign_25 ?_
    refine ra_0 oX2_readSign_26 ?_
    refine rr_giv oX2_readSign_27 (ff_X2_9 rfl) (rd_k hR) (rd_lt hR) ⟨by decide, rfl⟩ hS.1 ?_
    refine rr_cVm (c_X2_faultAt l W hR hz hS hb (x := st.1)) oX2_readSign_30 (cv_X2_76 rfl) (by decide) (rd_k hR) (by decide) hcn_2 (rd_lt hR) rfl rfl (Nat.le_of_ble_eq_true rfl) (fun J hJ => ?_)
    exact rr_return oX2_readSign_33 rfl (q_m_of (by rw [m_sgn, if_neg c1]; exact hJ))
  · refine ra_0 oX2_readSign_12 ?_
    refine rr_dup oX2_readSign_13 rfl ?_
    refine rr_giv oX2_readSign_14 (ff_X2_9 rfl) (rd_k hR) (rd_lt hR) ⟨by decide, rfl⟩ hS.1 ?_
    refine rk_1 oX2_readSign_17 ?_
    refine rr_iadd oX2_readSign_18 ?_
    rw [← nI_succ]
    refine rr_pi oX2_readSign_19 (ff_X2_9 rfl) (rd_k hR) (rd_lt hR) ⟨by decide, rfl, by decide⟩ pf_2_2 ⟨rfl, rfl⟩ ?_
    refine rr_goto (tgt := 33) oX2_readSign_22 (by decide) ?_
    exact rr_return oX2_readSign_33 rfl (q_m_of (by rw [m_sgn, if_pos (by simpa using c1)]; exact ⟨rd_p (p := st.1) hS, fun a ha => up_I_ne ha⟩))
theorem ls_X2_readNumber (l : Launch) {I : Nat → Nat → Int32} {L : Nat → Nat → Int64} {Rf : Nat → Nat → Option Nat} {n : Nat} {M : Nat → Nat → Int32} {r s z : Nat} (W : wd_T Rf n) (hR : rd_H Rf n r s) (hz : M (30 + 2 * s) 1 = nI z ∧ z ≤ 160) {p3 fd : Nat} {f : Option Nat} (hS : rd_S M r (p3, fd, f)) (hb : rb_T z (p3, fd, f)) (hM : ∀ a, a ≠ r → M a = I a) {nn lo hi : Nat} (hn : nn ≤ 99) (hl : lo ≤ 99) (hh : hi ≤ 99) {w4 : vv_T} : wm_W l mX2_readNumber 3 0 0 82 [vv_A (some r), vv_I (nI lo), vv_I (nI hi), vv_I (nI nn), w4] [] (M, L, Rf, n) (q_n (fun v J => v = nI nn ∧ rk_T I J r (p3, fd, if nn < lo ∨ hi < nn then or_F f fd else f)) L Rf n) := by
  refine ri_3 oX2_readNumber_82 ?_
  refine ri_1 oX2_readNumber_83 ?_
  refine rr_icmp_lt (tgt := 92) oX2_readNumber_84 (by decide) (fun c1 => ?_) (fun c1 => ?_)
  · rw [nI_lt_iff (by omega) (by omega)] at c1
    refine ra_0 oX2_readNumber_92 ?_
    refine ra_0 oX2_readNumber_93 ?_
    refine rr_giv oX2_readNumber_94 (ff_X2_15 rfl) (rd_k hR) (rd_lt hR) ⟨by decide, rfl⟩ hS.2.1 ?_
    refine rr_cVm (c_X2_faultAt l W hR hz hS hb (x := fd)) oX2_readNumber_97 (cv_X2_76 rfl) (by decide) (rd_k hR) (by decide) hcn_2 (rd_lt hR) rfl rfl (Nat.le_of_ble_eq_true rfl) (fun K hK => ?_)
    refine ri_3 oX2_readNumber_100 ?_
    exact rr_ireturn oX2_readNumber_101 rfl rfl (q_n_of ⟨rfl, by rw [if_pos (Or.inl c1)]; exact rk_tr hM hK⟩)
  · rw [nI_lt_iff (by omega) (by omega)] at c1
    refine ri_3 oX2_readNumber_87 ?_
    refine ri_2 oX2_readNumber_88 ?_
    refine rr_icmp_le (tgt := 100) oX2_readNumber_89 (by decide) (fun c2 => ?_) (fun c2 => ?_)
    · rw [nI_le_iff (by omega) (by omega)] at c2
      refine ri_3 oX2_readNumber_100 ?_
      exact rr_ireturn oX2_readNumber_101 rfl rfl (q_n_of ⟨rfl, by rw [if_neg (by omega)]; exact ⟨hS, hM⟩⟩)
    · rw [nI_le_iff (by omega) (by omega)] at c2
      refine ra_0 oX2_readNumber_92 ?_
      refine ra_0 oX2_readNumber_93 ?_
      refine rr_giv oX2_readNumber_94 (ff_X2_15 rfl) (rd_k hR) (rd_lt hR) ⟨by decide, rfl⟩ hS.2.1 ?_
      refine rr_cVm (c_X2_faultAt l W hR hz hS hb (x := fd)) oX2_readNumber_97 (cv_X2_76 rfl) (by decide) (rd_k hR) (by decide) hcn_2 (rd_lt hR) rfl rfl (Nat.le_of_ble_eq_true rfl) (fun K hK => ?_)
      refine ri_3 oX2_readNumber_100 ?_
      exact rr_ireturn oX2_readNumber_101 rfl rfl (q_n_of ⟨rfl, by rw [if_pos (Or.inr (by omega))]; exact rk_tr hM hK⟩)
theorem c_X2_readNumber (l : Launch) {I : Nat → Nat → Int32} {L : Nat → Nat → Int64} {Rf : Nat → Nat → Option Nat} {n : Nat} {r s z : Nat} (W : wd_T Rf n) (hR : rd_H Rf n r s) (hz : I (30 + 2 * s) 1 = nI z ∧ z ≤ 160)  {st : rs_T} (hS : rd_S I r st) (hb : rb_T z st) {lo hi : Nat} (hl : lo ≤ 99) (hh : hi ≤ 99) : wm_C l mX2_readNumber 3 0 0 [vv_A (some r), vv_I (nI lo), vv_I (nI hi)] (I, L, Rf, n) (q_n (fun v J => v = oI (m_num (s_sg z (L (30 + 2 * s + 1))) lo hi st).1 ∧ rk_T I J r (m_num (s_sg z (L (30 + 2 * s + 1))) lo hi st).2) L Rf n) := by
  refine wm_of (by decide) (Nat.le_of_ble_eq_true rfl) rfl ?_
  have h67 := hR.1
  have hs8 := hR.2.2.1
  have h160 := hz.2
  obtain ⟨hb0, hb00, hb000⟩ := id hb
  refine ra_0 oX2_readNumber_0 ?_
  refine rr_bipush (v := 32) oX2_readNumber_1 (by decide) ?_
  refine rr_cVm (c_X2_readSign l W hR hz hS hb (c := 32)) oX2_readNumber_3 (cv_X2_37 rfl) (by decide) (rd_k hR) (by decide) hcn_2 (rd_lt hR) rfl rfl (Nat.le_of_ble_eq_true rfl) (fun J hJ => ?_)
  have hz1 : J (30 + 2 * s) 1 = nI z ∧ z ≤ 160 := ⟨by rw [hJ.2 _ (by omega)]; exact hz.1, hz.2⟩
  have hb1 := sgn_b (sg_z z (L (30 + 2 * s + 1))) (c := 32) (by decide) hb
  have enum : m_num (s_sg z (L (30 + 2 * s + 1))) lo hi st = m_nu2 (s_sg z (L (30 + 2 * s + 1))) lo hi (m_sgn (s_sg z (L (30 + 2 * s + 1))) 32 st) := rfl
  generalize em : m_sgn (s_sg z (L (30 + 2 * s + 1))) 32 st = s1 at hJ hb1 enum
  obtain ⟨p1, fd1, f1⟩ := s1
  obtain ⟨hJ1, hJ2⟩ := hJ
  have hp1 : p1 ≤ z := hb1.1
  refine ra_0 oX2_readNumber_6 ?_
  refine ra_0 oX2_readNumber_7 ?_
  refine rr_giv oX2_readNumber_8 (ff_X2_9 rfl) (rd_k hR) (rd_lt hR) ⟨by decide, rfl⟩ hJ1.1 ?_
  refine rr_pi oX2_readNumber_11 (ff_X2_15 rfl) (rd_k hR) (rd_lt hR) ⟨by decide, rfl, by decide⟩ pf_2_3 ⟨rfl, rfl⟩ ?_
  have hA := rd_f (q := p1) hJ1
  have hzA : (up_I J r 3 (nI p1)) (30 + 2 * s) 1 = nI z ∧ z ≤ 160 := ⟨by rw [up_I_ne (by omega)]; exact hz1.1, hz.2⟩
  have hbA : rb_T z (p1, p1, f1) := ⟨hp1, hp1, hb1.2.2⟩
  refine ra_0 oX2_readNumber_14 ?_
  refine ra_0 oX2_readNumber_15 ?_
  refine rr_giv oX2_readNumber_16 (ff_X2_9 rfl) (rd_k hR) (rd_lt hR) ⟨by decide, rfl⟩ hA.1 ?_
  refine rr_cVi (c_X2_digitAt l W hR hzA (p := p1) (by omega)) oX2_readNumber_19 (cv_X2_133 rfl) (by decide) (rd_k hR) (by decide) hcn_2 (rd_lt hR) rfl rfl (Nat.le_of_ble_eq_true rfl) ?_
  generalize ed : s_dg (s_sg z (L (30 + 2 * s + 1))) p1 = d1
  refine si_3 oX2_readNumber_22 rfl rfl ?_
  rcases d1 with _ | a
  · refine ri_3 oX2_readNumber_23 ?_
    refine rk_m1 oX2_readNumber_24 ?_
    refine rr_icmp_ne (tgt := 38) oX2_readNumber_25 (by decide) (fun c => ?_) (fun c => ?_)
    · exact absurd rfl c
    refine ra_0 oX2_readNumber_28 ?_
    refine ra_0 oX2_readNumber_29 ?_
    refine rr_giv oX2_readNumber_30 (ff_X2_9 rfl) (rd_k hR) (rd_lt hR) ⟨by decide, rfl⟩ hA.1 ?_
    refine rr_cVm (c_X2_faultAt l W hR hzA hA hbA (x := p1)) oX2_readNumber_33 (cv_X2_76 rfl) (by decide) (rd_k hR) (by decide) hcn_2 (rd_lt hR) rfl rfl (Nat.le_of_ble_eq_true rfl) (fun K hK => ?_)
    refine rk_m1 oX2_readNumber_36 ?_
    exact rr_ireturn oX2_readNumber_37 rfl rfl (q_n_of (by
        have en : m_nu2 (s_sg z (L (30 + 2 * s + 1))) lo hi (p1, fd1, f1) = (none, (p1, p1, or_F f1 p1)) := by simp only [m_nu2, ed]
        rw [enum, en]
        exact ⟨rfl, rk_tr (fun a ha => by rw [up_I_ne ha]; exact hJ2 a ha) hK⟩))
  · have ha := (dg_e ed).1
    have hp2 := dg_lt (sg_z z _) ed
    refine ri_3 oX2_readNumber_23 ?_
    refine rk_m1 oX2_readNumber_24 ?_
    refine rr_icmp_ne (tgt := 38) oX2_readNumber_25 (by decide) (fun c => ?_) (fun c => ?_)
    rotate_left
    · exact absurd c (nI_nm1 (by omega))
    refine ra_0 oX2_readNumber_38 ?_
    refine rr_dup oX2_readNumber_39 rfl ?_
    refine rr_giv oX2_readNumber_40 (ff_X2_9 rfl) (rd_k hR) (rd_lt hR) ⟨by decide, rfl⟩ hA.1 ?_
    refine rk_1 oX2_readNumber_43 ?_
    refine rr_iadd oX2_readNumber_44 ?_
    rw [← nI_succ]
    refine rr_pi oX2_readNumber_45 (ff_X2_9 rfl) (rd_k hR) (rd_lt hR) ⟨by decide, rfl, by decide⟩ pf_2_2 ⟨rfl, rfl⟩ ?_
    have hB := rd_p (q := p1 + 1) hA
    have hzB : (up_I (up_I J r 3 (nI p1)) r 2 (nI (p1 + 1))) (30 + 2 * s) 1 = nI z ∧ z ≤ 160 := ⟨by rw [up_I_ne (by omega)]; exact hzA.1, hz.2⟩
    refine ra_0 oX2_readNumber_48 ?_
    refine ra_0 oX2_readNumber_49 ?_
    refine rr_giv oX2_readNumber_50 (ff_X2_9 rfl) (rd_k hR) (rd_lt hR) ⟨by decide, rfl⟩ hB.1 ?_
    refine rr_cVi (c_X2_digitAt l W hR hzB (p := p1 + 1) (by omega)) oX2_readNumber_53 (cv_X2_133 rfl) (by decide) (rd_k hR) (by decide) hcn_2 (rd_lt hR) rfl rfl (Nat.le_of_ble_eq_true rfl) ?_
    generalize ed2 : s_dg (s_sg z (L (30 + 2 * s + 1))) (p1 + 1) = d2
    refine si_4 oX2_readNumber_56 rfl rfl ?_
    rcases d2 with _ | b
    · refine ri_4 oX2_readNumber_58 ?_
      refine rk_m1 oX2_readNumber_60 ?_
      refine rr_icmp_eq (tgt := 82) oX2_readNumber_61 (by decide) (fun c2 => ?_) (fun c2 => ?_)
      rotate_left
      · exact absurd rfl c2
      have en : m_nu2 (s_sg z (L (30 + 2 * s + 1))) lo hi (p1, fd1, f1) = (some a, (p1 + 1, p1, if a < lo ∨ hi < a then or_F f1 p1 else f1)) := by simp only [m_nu2, ed, ed2]
      rw [enum, en]
      exact ls_X2_readNumber l W hR hzB hB ⟨hp2, hp1, hb1.2.2⟩ (fun a ha => by simp only [up_I_ne ha]; exact hJ2 a ha) (by omega) hl hh
    · have hbb := (dg_e ed2).1
      have hp3 := dg_lt (sg_z z _) ed2
      refine ri_4 oX2_readNumber_58 ?_
      refine rk_m1 oX2_readNumber_60 ?_
      refine rr_icmp_eq (tgt := 82) oX2_readNumber_61 (by decide) (fun c2 => ?_) (fun c2 => ?_)
      · exact absurd c2 (nI_nm1 (by omega))
      refine ri_3 oX2_readNumber_64 ?_
      refine rr_bipush (v := 10) oX2_readNumber_65 (by decide) ?_
      refine rr_imul oX2_readNumber_67 ?_
      refine ri_4 oX2_readNumber_68 ?_
      refine rr_iadd oX2_readNumber_70 ?_
      rw [show oI (some a) * 10 + oI (some b) = nI (a * 10 + b) from dm_N a ha b hbb]
      refine si_3 oX2_readNumber_71 rfl rfl ?_
      refine ra_0 oX2_readNumber_72 ?_
      refine rr_dup oX2_readNumber_73 rfl ?_
      refine rr_giv oX2_readNumber_74 (ff_X2_9 rfl) (rd_k hR) (rd_lt hR) ⟨by decide, rfl⟩ hB.1 ?_
      refine rk_1 oX2_readNumber_77 ?_
      refine rr_iadd oX2_readNumber_78 ?_
      rw [← nI_succ]
      refine rr_pi oX2_readNumber_79 (ff_X2_9 rfl) (rd_k hR) (rd_lt hR) ⟨by decide, rfl, by decide⟩ pf_2_2 ⟨rfl, rfl⟩ ?_
      have hC := rd_p (q := p1 + 1 + 1) hB
      have hzC : (up_I (up_I (up_I J r 3 (nI p1)) r 2 (nI (p1 + 1))) r 2 (nI (p1 + 1 + 1))) (30 + 2 * s) 1 = nI z ∧ z ≤ 160 := ⟨by rw [up_I_ne (by omega)]; exact hzB.1, hz.2⟩
      have en : m_nu2 (s_sg z (L (30 + 2 * s + 1))) lo hi (p1, fd1, f1) = (some (a * 10 + b), (p1 + 1 + 1, p1, if a * 10 + b < lo ∨ hi < a * 10 + b then or_F f1 p1 else f1)) := by simp only [m_nu2, ed, ed2]
      rw [enum, en]
      exact ls_X2_readNumber l W hR hzC hC ⟨hp3, hp1, hb1.2.2⟩ (fun a ha => by simp only [up_I_ne ha]; exact hJ2 a ha) (by omega) hl hh
