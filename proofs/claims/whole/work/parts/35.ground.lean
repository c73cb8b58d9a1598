/-! SeenByOne: ground; objects made (by program: wip/whole/c35.py) -/
theorem dv_0 : ∀ j, j < mx_N 0 → defaultValue (tyX0 j) = if mx_isR 0 j = true then .null else .int 0 := by
  have e : ∀ j : Fin 5, defaultValue (tyX0 j) = if mx_isR 0 j = true then .null else .int 0 := by
    intro j
    match j with
    | ⟨0, _⟩ => rfl
    | ⟨1, _⟩ => rfl
    | ⟨2, _⟩ => rfl
    | ⟨3, _⟩ => rfl
    | ⟨4, _⟩ => rfl
  intro j hj
  exact e ⟨j, hj⟩
theorem dv_1 : ∀ j, j < mx_N 1 → defaultValue (tyX1 j) = if mx_isR 1 j = true then .null else .int 0 := by
  have e : ∀ j : Fin 13, defaultValue (tyX1 j) = if mx_isR 1 j = true then .null else .int 0 := by
    intro j
    match j with
    | ⟨0, _⟩ => rfl
    | ⟨1, _⟩ => rfl
    | ⟨2, _⟩ => rfl
    | ⟨3, _⟩ => rfl
    | ⟨4, _⟩ => rfl
    | ⟨5, _⟩ => rfl
    | ⟨6, _⟩ => rfl
    | ⟨7, _⟩ => rfl
    | ⟨8, _⟩ => rfl
    | ⟨9, _⟩ => rfl
    | ⟨10, _⟩ => rfl
    | ⟨11, _⟩ => rfl
    | ⟨12, _⟩ => rfl
  intro j hj
  exact e ⟨j, hj⟩
theorem dv_2 : ∀ j, j < mx_N 2 → defaultValue (tyX2 j) = if mx_isR 2 j = true then .null else .int 0 := by
  have e : ∀ j : Fin 5, defaultValue (tyX2 j) = if mx_isR 2 j = true then .null else .int 0 := by
    intro j
    match j with
    | ⟨0, _⟩ => rfl
    | ⟨1, _⟩ => rfl
    | ⟨2, _⟩ => rfl
    | ⟨3, _⟩ => rfl
    | ⟨4, _⟩ => rfl
  intro j hj
  exact e ⟨j, hj⟩
theorem dv_3 : ∀ j, j < mx_N 3 → defaultValue (tyX3 j) = if mx_isR 3 j = true then .null else .int 0 := by
  have e : ∀ j : Fin 3, defaultValue (tyX3 j) = if mx_isR 3 j = true then .null else .int 0 := by
    intro j
    match j with
    | ⟨0, _⟩ => rfl
    | ⟨1, _⟩ => rfl
    | ⟨2, _⟩ => rfl
  intro j hj
  exact e ⟨j, hj⟩
theorem dv_4 : ∀ j, j < mx_N 4 → defaultValue (tyX4 j) = if mx_isR 4 j = true then .null else .int 0 := by
  have e : ∀ j : Fin 9, defaultValue (tyX4 j) = if mx_isR 4 j = true then .null else .int 0 := by
    intro j
    match j with
    | ⟨0, _⟩ => rfl
    | ⟨1, _⟩ => rfl
    | ⟨2, _⟩ => rfl
    | ⟨3, _⟩ => rfl
    | ⟨4, _⟩ => rfl
    | ⟨5, _⟩ => rfl
    | ⟨6, _⟩ => rfl
    | ⟨7, _⟩ => rfl
    | ⟨8, _⟩ => rfl
  intro j hj
  exact e ⟨j, hj⟩
theorem dv_5 : ∀ j, j < mx_N 5 → defaultValue (tyX5 j) = if mx_isR 5 j = true then .null else .int 0 := by
  have e : ∀ j : Fin 38, defaultValue (tyX5 j) = if mx_isR 5 j = true then .null else .int 0 := by
    intro j
    match j with
    | ⟨0, _⟩ => rfl
    | ⟨1, _⟩ => rfl
    | ⟨2, _⟩ => rfl
    | ⟨3, _⟩ => rfl
    | ⟨4, _⟩ => rfl
    | ⟨5, _⟩ => rfl
    | ⟨6, _⟩ => rfl
    | ⟨7, _⟩ => rfl
    | ⟨8, _⟩ => rfl
    | ⟨9, _⟩ => rfl
    | ⟨10, _⟩ => rfl
    | ⟨11, _⟩ => rfl
    | ⟨12, _⟩ => rfl
    | ⟨13, _⟩ => rfl
    | ⟨14, _⟩ => rfl
    | ⟨15, _⟩ => rfl
    | ⟨16, _⟩ => rfl
    | ⟨17, _⟩ => rfl
    | ⟨18, _⟩ => rfl
    | ⟨19, _⟩ => rfl
    | ⟨20, _⟩ => rfl
    | ⟨21, _⟩ => rfl
    | ⟨22, _⟩ => rfl
    | ⟨23, _⟩ => rfl
    | ⟨24, _⟩ => rfl
    | ⟨25, _⟩ => rfl
    | ⟨26, _⟩ => rfl
    | ⟨27, _⟩ => rfl
    | ⟨28, _⟩ => rfl
    | ⟨29, _⟩ => rfl
    | ⟨30, _⟩ => rfl
    | ⟨31, _⟩ => rfl
    | ⟨32, _⟩ => rfl
    | ⟨33, _⟩ => rfl
    | ⟨34, _⟩ => rfl
    | ⟨35, _⟩ => rfl
    | ⟨36, _⟩ => rfl
    | ⟨37, _⟩ => rfl
    | ⟨j + 38, h⟩ => exact absurd h (by omega)
  intro j hj
  exact e ⟨j, hj⟩
theorem nw_X4_9 {k : mm_T} (h : k.1.cls = RX4) : nw_T k 9 3 := ⟨RX3, TX3, tyX3, rfl, inG3, tyX3_ok, dv_3, by rw [h]; exact gw_in (i := 101) (by decide +kernel) (by decide +kernel), gw_in (i := 190) (by decide +kernel) (by decide +kernel), gw_in (i := 83) (by decide +kernel) (by decide +kernel)⟩
theorem nw_X4_15 {k : mm_T} (h : k.1.cls = RX4) : nw_T k 15 1 := ⟨RX1, TX1, tyX1, rfl, inG1, tyX1_ok, dv_1, by rw [h]; exact gw_in (i := 103) (by decide +kernel) (by decide +kernel), gw_in (i := 104) (by decide +kernel) (by decide +kernel), gw_in (i := 81) (by decide +kernel) (by decide +kernel)⟩
theorem nw_X4_28 {k : mm_T} (h : k.1.cls = RX4) : nw_T k 28 0 := ⟨RX0, TX0, tyX0, rfl, inG0, tyX0_ok, dv_0, by rw [h]; exact gw_in (i := 167) (by decide +kernel) (by decide +kernel), gw_in (i := 168) (by decide +kernel) (by decide +kernel), gw_in (i := 82) (by decide +kernel) (by decide +kernel)⟩
theorem nw_X4_201 {k : mm_T} (h : k.1.cls = RX4) : nw_T k 201 2 := ⟨RX2, TX2, tyX2, rfl, inG2, tyX2_ok, dv_2, by rw [h]; exact gw_in (i := 476) (by decide +kernel) (by decide +kernel), gw_in (i := 477) (by decide +kernel) (by decide +kernel), gw_in (i := 88) (by decide +kernel) (by decide +kernel)⟩
theorem rr_cIv {l : Launch} {k : mm_T} {d mc ms pc np : Nat} {ls : List vv_T} {X : mx_T} {Q : Option vv_T → mx_T → Prop} {k2 : mm_T} {i m d2 a : Nat} {As st0 rest : List vv_T} {Y : mx_T} (hM : wm_C l k2 d2 0 0 (vv_A (some a) :: As) X (q_v Y)) (hd : op_at k pc (.invokespecial i) 3 np) (hc : cl_B k k2 i m ∧ Cond.instanceMethod k2.1 ∈ GW ∧ k2.1.name = "<init>" ∧ k2.2.2.2 = none) (hdd : d2 + 1 ≤ d)
    (hn : As.length = m) (hst : As.reverse ++ vv_A (some a) :: rest = st0) (hW : (rest.map vv_c).sum ≤ 8) (kk : wm_W l k d mc ms np ls rest Y Q) : wm_W l k d mc ms pc ls st0 X Q :=
  rr_callI hd hc hM hdd hn hst hW rfl rfl (fun r Z h => by obtain ⟨rfl, rfl⟩ := h; exact kk)
theorem CR_cut {I J : Nat → Nat → Int32} {L M : Nat → Nat → Int64} {S : sg_T} (h : CR_T I L S) (hJ : ∀ a, a < 46 → J a = I a) (hM : ∀ a, a < 46 → M a = L a) : CR_T J M S := by
  obtain ⟨h1, h2, h3, h4, h5, h6, h7, h8⟩ := h
  refine ⟨cg_ce h1 (fun j hj => hJ _ (by omega)), ?_, fun q => cg_ce (h3 q) (fun j hj => hJ _ (by omega)), fun k hk => ?_, ?_, fun s hs => ?_, fun k hk => ?_, ?_⟩
  · rw [hJ 0 (by omega)]; exact h2
  · rw [hJ 28 (by omega)]; exact h4 k hk
  · rw [hJ 0 (by omega)]; exact h5
  · rw [hJ (30 + 2 * s) (by omega), hM (30 + 2 * s + 1) (by omega)]; exact h6 s hs
  · rw [hJ 27 (by omega)]; exact h7 k hk
  · rw [hJ 26 (by omega)]; exact h8
theorem CR_lo {I J : Nat → Nat → Int32} {L : Nat → Nat → Int64} {S : sg_T} (h : CR_T I L S) (he : ∀ a, a < 46 → a ≠ 9 → (a < 18 ∨ 26 ≤ a) → a ≠ 29 → J a = I a) : CR_T J L S := by
  have e : ce_T I (fun a => if a < 46 then J a else I a) := fun a q1 q2 q3 => by
    by_cases q : a < 46
    · simp only [if_pos q]; exact he a q q1 q2 q3
    · simp only [if_neg q]
  exact CR_cut (CR_ce h e) (fun a ha => by simp only [if_pos ha]) (fun _ _ => rfl)
theorem CR_fl {I : Nat → Nat → Int32} {L : Nat → Nat → Int64} {S : sg_T} {v : Int32} (h : CR_T I L S) : CR_T (up_I I 0 8 v) L (w_fl S v) := by
  obtain ⟨h1, h2, h3, h4, h5, h6, h7, h8⟩ := h
  have ne : ∀ a, a ≠ 0 → up_I I 0 8 v a = I a := fun a ha => up_I_ne ha
  refine ⟨cg_ce h1 (fun j hj => ne _ (by omega)), by rw [up_I_at_ne (by omega)]; exact h2, fun q => cg_ce (h3 q) (fun j hj => ne _ (by omega)), fun k hk => ?_, up_I_at, fun s hs => ?_, fun k hk => ?_, ?_⟩
  · rw [ne 28 (by omega)]; exact h4 k hk
  · rw [ne (30 + 2 * s) (by omega)]; exact h6 s hs
  · rw [ne 27 (by omega)]; exact h7 k hk
  · rw [ne 26 (by omega)]; exact h8
def f_ground (S : sg_T) (s : Int32) : an_T := if ¬ s_lr S s = 0 then f_no S (s_lr S s) else
  let r := m_its (z_sz S (ix_N s)).toNatClampNeg (s_sg (z_sz S (ix_N s)).toNatClampNeg (z_el S (ix_N s))) 160 1 (z_B S) (0, 0, none)
  match r.2.2.2.2 with
  | none => (oI r.1, w_B (w_fl S (-1)) r.2.1)
  | some y => f_no (w_fl S (nI y)) (-6)
/-- an answer v, the class holding S behind it, perhaps one object more -/
def q_G (v : Int32) (S : sg_T) (I : Nat → Nat → Int32) (L : Nat → Nat → Int64) (n : Nat) : Option vv_T → mx_T → Prop := fun r Y => r = some (vv_I v) ∧ ∃ J M Rf2 n2, Y = (J, M, Rf2, n2) ∧ (n ≤ n2 ∧ n2 ≤ n + 1) ∧ wd_T Rf2 n2 ∧ CR_T J M S ∧ ∀ a, 46 ≤ a → a < n → J a = I a ∧ M a = L a
theorem q_G_of {v w : Int32} {S : sg_T} {I J : Nat → Nat → Int32} {L M : Nat → Nat → Int64} {Rf2 : Nat → Nat → Option Nat} {n n2 : Nat} (hv : w = v) (hn : n ≤ n2 ∧ n2 ≤ n + 1) (hW : wd_T Rf2 n2) (h : CR_T J M S) (hf : ∀ a, 46 ≤ a → a < n → J a = I a ∧ M a = L a) : q_G v S I L n (some (vv_I w)) (J, M, Rf2, n2) := ⟨by rw [hv], J, M, Rf2, n2, rfl, hn, hW, h, hf⟩
theorem its_b {z : Nat} {sg : Nat → Int32} (hs : sg_T2 z sg) : ∀ m it (B : gb_T) (st : rs_T), rb_T z st → rb_T z (m_its z sg m it B st).2.2 := by
  intro m
  induction m with
  | zero => intro it B st h; exact h
  | succ m ih =>
    intro it B st h
    have h1 := ite_b (B := B) hs h
    unfold m_its
    split
    · exact h1
    · split
      · exact ih _ _ _ (sgn_b hs (by decide) h1)
      · exact sgn_b hs (by decide) h1
theorem c_X2_readItems (l : Launch) {I : Nat → Nat → Int32} {L : Nat → Nat → Int64} {Rf : Nat → Nat → Option Nat} {n : Nat} {r s z : Nat} (W : wd_T Rf n) (hR : rd_H Rf n r s) (hz : I (30 + 2 * s) 1 = nI z ∧ z ≤ 160)  {st : rs_T} (hS : rd_S I r st) (hb : rb_T z st) {B : gb_T} (hB : cg_T I 18 B) : wm_C l mX2_readItems 8 0 0 [vv_A (some r)] (I, L, Rf, n) (q_n (fun v J => v = oI (m_its z (s_sg z (L (30 + 2 * s + 1))) 160 1 B st).1 ∧ tb_T I J r (m_its z (s_sg z (L (30 + 2 * s + 1))) 160 1 B st).2.2 (m_its z (s_sg z (L (30 + 2 * s + 1))) 160 1 B st).2.1) L Rf n) := by
  refine wm_of (by decide) (Nat.le_of_ble_eq_true rfl) rfl ?_
  have h67 := hR.1
  have hs8 := hR.2.2.1
  have h160 := hz.2
  obtain ⟨hb0, hb00, hb000⟩ := id hb
  refine rk_1 oX2_readItems_0 ?_
  refine si_1 oX2_readItems_1 rfl rfl ?_
  exact lp_X2_readItems l W hR 160 1 I B st rfl hz hS hb hB (fun _ _ _ => rfl)
theorem pr_2_0 : ∀ q : vw_C, mCl[2]? = some q → (q.2.1 0).2.2.2 = true ∧ mX2_init.1.name = "<init>" ∧ (q.2.1 0).1 = mX2_init.1.cls ∧ parseFieldDescriptor (q.2.1 0).2.2.1 = some (tyX2 0) := fun q hq => by cases hq; exact ⟨rfl, rfl, rfl, by decide +kernel⟩
theorem pr_2_1 : ∀ q : vw_C, mCl[2]? = some q → (q.2.1 1).2.2.2 = true ∧ mX2_init.1.name = "<init>" ∧ (q.2.1 1).1 = mX2_init.1.cls ∧ parseFieldDescriptor (q.2.1 1).2.2.1 = some (tyX2 1) := fun q hq => by cases hq; exact ⟨rfl, rfl, rfl, by decide +kernel⟩
theorem c_X2_init (l : Launch) {I : Nat → Nat → Int32} {L : Nat → Nat → Int64} {Rf : Nat → Nat → Option Nat} {n : Nat} {r a : Nat} (hk : kO r = 2) (hl : r < n) : wm_C l mX2_init 2 0 0 [vv_A (some r), vv_A (some a), vv_A (some 18)] (I, L, Rf, n) (q_v (up_I (up_I (up_I I r 2 0) r 3 0) r 4 (-1), L, up_R (up_R Rf r 0 (some a)) r 1 (some 18), n)) := by
  refine wm_of (by decide) (Nat.le_of_ble_eq_true rfl) rfl ?_
  refine ra_0 oX2_init_0 ?_
  refine rr_objI oX2_init_1 ⟨gw_in (i := 481) (by decide +kernel) (by decide +kernel), gw_in (i := 99) (by decide +kernel) (by decide +kernel), gw_in (i := 100) (by decide +kernel) (by decide +kernel)⟩ (by decide) (Nat.le_of_ble_eq_true rfl) ?_
  refine ra_0 oX2_init_4 ?_
  refine rk_0 oX2_init_5 ?_
  refine rr_pi oX2_init_6 (ff_X2_9 rfl) hk hl ⟨by decide, rfl, by decide⟩ pf_2_2 ⟨rfl, rfl⟩ ?_
  refine ra_0 oX2_init_9 ?_
  refine rk_0 oX2_init_10 ?_
  refine rr_pi oX2_init_11 (ff_X2_15 rfl) hk hl ⟨by decide, rfl, by decide⟩ pf_2_3 ⟨rfl, rfl⟩ ?_
  refine ra_0 oX2_init_14 ?_
  refine rk_m1 oX2_init_15 ?_
  refine rr_pi oX2_init_16 (ff_X2_18 rfl) hk hl ⟨by decide, rfl, by decide⟩ pf_2_4 ⟨rfl, rfl⟩ ?_
  refine ra_0 oX2_init_19 ?_
  refine ra_1 oX2_init_20 ?_
  refine rr_putr oX2_init_21 (ff_X2_21 rfl) hk hl ⟨by decide, rfl⟩ pr_2_0 (fun _ => rfl) (fun _ => rfl) (by decide) ?_
  refine ra_0 oX2_init_24 ?_
  refine ra_2 oX2_init_25 ?_
  refine rr_putr oX2_init_26 (ff_X2_25 rfl) hk hl ⟨by decide, rfl⟩ pr_2_1 (fun _ => rfl) (fun _ => rfl) (by decide) ?_
  exact rr_return oX2_init_29 rfl ⟨rfl, rfl⟩
theorem c_X4_ground (l : Launch) {I : Nat → Nat → Int32} {L : Nat → Nat → Int64} {Rf : Nat → Nat → Option Nat} {n : Nat} {S : sg_T} (W : wd_T Rf n) (hC : CR_T I L S) (hI : IV_T S) {s : Int32} : wm_C l mX4_ground 9 1 5 [vv_A (some 0), vv_I s] (I, L, Rf, n) (q_G (f_ground S s).1 (f_ground S s).2 I L n) := by
  refine wm_of (by decide) (Nat.le_of_ble_eq_true rfl) rfl ?_
  refine ra_0 oX4_ground_0 ?_
  refine ri_1 oX4_ground_1 ?_
  refine rr_cVi (c_X4_lacksRow l W hC hI) oX4_ground_2 (cv_X4_63 rfl) (by decide) kk_0 (by decide) hcn_4 (wd_lt W rfl) rfl rfl (Nat.le_of_ble_eq_true rfl) ?_
  refine si_2 oX4_ground_5 rfl rfl ?_
  refine ri_2 oX4_ground_6 ?_
  refine rr_if_eq (tgt := 16) oX4_ground_7 (by decide) (fun c => ?_) (fun c => ?_)
  · obtain ⟨t, ht, rfl, c3, c4⟩ := s_lr_0 c
    obtain ⟨o, ho, ho2, k, hk, hk2⟩ := IV_row hI ht c3
    have ex : ix_N (nI t) = t := nI_clamp (by omega)
    have esz : I (30 + 2 * t) 1 = nI k := (CR_sz hC ht).trans hk2
    have hn := W.1
    refine ra_0 oX4_ground_16 ?_
    refine rr_gr (v := 18) oX4_ground_17 (ff_X4_25 rfl) kk_0 (wd_lt W rfl) ⟨by decide, rfl⟩ (wd_r W rfl rfl) ?_
    refine ra_0 oX4_ground_20 ?_
    refine rr_gr (v := 2) oX4_ground_21 (ff_X4_18 rfl) kk_0 (wd_lt W rfl) ⟨by decide, rfl⟩ (wd_r W rfl rfl) ?_
    refine rr_cVm (c_X1_copyFrom l W gd_18 gd_2 (by omega)) oX4_ground_24 (cv_X4_197 rfl) (by decide) (gd_k gd_18) (by decide) hcn_1 (gd_lt (j := 0) W gd_18 rfl) rfl rfl (Nat.le_of_ble_eq_true rfl) (fun J hJ => ?_)
    have hT : cg_T J 18 (z_B S) := cf_cg hJ hC.1
    refine rr_new (ci := 2) oX4_ground_27 (nw_X4_201 rfl) (kO_ge W.1) (by decide) rfl rfl ?_
    have W : wd_T (zr_R Rf n) (n + 1) := ⟨by omega, fun a ha => by rw [← W.2 a ha]; exact if_neg (by omega)⟩
    refine rr_dup oX4_ground_30 rfl ?_
    refine ra_0 oX4_ground_31 ?_
    refine rr_gr (v := 1) oX4_ground_32 (ff_X4_11 rfl) kk_0 (wd_lt W rfl) ⟨by decide, rfl⟩ (wd_r W rfl rfl) ?_
    refine ri_1 oX4_ground_35 ?_
    refine rr_ald (t := t) (v := 30 + 2 * t) oX4_ground_36 kk_1 (wd_lt W rfl) rfl (by omega) (by decide) (sh_q W ht) ?_
    refine ra_0 oX4_ground_37 ?_
    refine rr_gr (v := 18) oX4_ground_38 (ff_X4_25 rfl) kk_0 (wd_lt W rfl) ⟨by decide, rfl⟩ (wd_r W rfl rfl) ?_
    refine rr_cIv (c_X2_init l (kO_ge hn) (Nat.lt_succ_self n)) oX4_ground_41 (ci_X4_203 rfl) (by decide) rfl rfl (Nat.le_of_ble_eq_true rfl) ?_
    have W : wd_T (up_R (up_R (zr_R Rf n) n 0 (some (30 + 2 * t))) n 1 (some 18)) (n + 1) := ⟨W.1, fun a ha => by rw [up_R_ne (by omega), up_R_ne (by omega)]; exact W.2 a ha⟩
    have hR : rd_H (up_R (up_R (zr_R Rf n) n 0 (some (30 + 2 * t))) n 1 (some 18)) (n + 1) n t := ⟨hn, Nat.lt_succ_self n, ht, by rw [up_R_eq]; show va_up (up_R (zr_R Rf n) n 0 (some (30 + 2 * t)) n) 1 (some 18) 0 = _; rw [up_R_eq]; rfl, by rw [up_R_eq]; rfl⟩
    have hKe : ∀ a, a ≠ n → (up_I (up_I (up_I (zr_I J n) n 2 0) n 3 0) n 4 (-1)) a = J a := fun a ha => by rw [up_I_ne ha, up_I_ne ha, up_I_ne ha]; exact if_neg ha
    have hS : rd_S (up_I (up_I (up_I (zr_I J n) n 2 0) n 3 0) n 4 (-1)) n (0, 0, none) := ⟨by rw [up_I_at_ne (by omega), up_I_at_ne (by omega), up_I_at]; rfl, by rw [up_I_at_ne (by omega), up_I_at]; rfl, up_I_at⟩
    have hz : (up_I (up_I (up_I (zr_I J n) n 2 0) n 3 0) n 4 (-1)) (30 + 2 * t) 1 = nI k ∧ k ≤ 160 := ⟨by rw [hKe _ (by omega), hJ.2.2.2 _ (by omega)]; exact esz, hk⟩
    have hB : cg_T (up_I (up_I (up_I (zr_I J n) n 2 0) n 3 0) n 4 (-1)) 18 (z_B S) := cg_ce hT (fun j hj => hKe _ (by omega))
    generalize (up_I (up_I (up_I (zr_I J n) n 2 0) n 3 0) n 4 (-1)) = K at hKe hS hz hB ⊢
    generalize (up_R (up_R (zr_R Rf n) n 0 (some (30 + 2 * t))) n 1 (some 18)) = Rf2 at W hR ⊢
    refine sa_3 oX4_ground_44 rfl rfl ?_
    refine ra_3 oX4_ground_45 ?_
    refine rr_cVn (c_X2_readItems l W hR hz hS ⟨Nat.zero_le _, Nat.zero_le _, (by intro x h; cases h)⟩ hB) oX4_ground_46 (cv_X4_206 rfl) (by decide) (kO_ge hn) (by decide) hcn_2 (Nat.lt_succ_self n) rfl rfl (Nat.le_of_ble_eq_true rfl) (fun v T hT1 => ?_)
    obtain ⟨rfl, hT1, hT2, hT3⟩ := hT1
    have esg : s_sg k (L (30 + 2 * t + 1)) = s_sg k (z_el S t) := sg_c (fun p hp => CR_el hC ht (by omega))
    have efg : f_ground S (nI t) = match (m_its k (s_sg k (L (30 + 2 * t + 1))) 160 1 (z_B S) (0, 0, none)).2.2.2.2 with | none => (oI (m_its k (s_sg k (L (30 + 2 * t + 1))) 160 1 (z_B S) (0, 0, none)).1, w_B (w_fl S (-1)) (m_its k (s_sg k (L (30 + 2 * t + 1))) 160 1 (z_B S) (0, 0, none)).2.1) | some y => f_no (w_fl S (nI y)) (-6) := by rw [f_ground, if_neg (fun q => q c), ex, hk2, nI_clamp (by omega), esg]
    have hlo : ∀ a, a < 46 → (a < 18 ∨ 26 ≤ a) → T a = I a := fun a q1 q2 => by rw [hT3 a (by omega) (by omega), hKe a (by omega)]; exact hJ.2.2.2 a (by omega)
    have hCT : CR_T T L S := CR_lo hC (fun a q1 _ q2 _ => hlo a q1 q2)
    have hhi : ∀ a, 46 ≤ a → a < n → T a = I a := fun a q1 q2 => by rw [hT3 a (by omega) (by omega), hKe a (by omega)]; exact hJ.2.2.2 a (by omega)
    have hbb : rb_T k (m_its k (s_sg k (L (30 + 2 * t + 1))) 160 1 (z_B S) (0, 0, none)).2.2 := its_b (sg_z k _) 160 1 (z_B S) (0, 0, none) ⟨Nat.zero_le _, Nat.zero_le _, (by intro x h; cases h)⟩
    rw [efg]
    generalize (m_its k (s_sg k (L (30 + 2 * t + 1))) 160 1 (z_B S) (0, 0, none)) = rr at hT1 hT2 hbb ⊢
    obtain ⟨v0, B2, p2, fd2, f2⟩ := rr
    replace hT1 : rd_S T n (p2, fd2, f2) := hT1
    replace hT2 : cg_T T 18 B2 := hT2
    have hCF := CR_fl (v := oI f2) hCT
    refine si_4 oX4_ground_49 rfl rfl ?_
    refine ra_0 oX4_ground_51 ?_
    refine ra_3 oX4_ground_52 ?_
    refine rr_giv oX4_ground_53 (ff_X4_209 rfl) (kO_ge hn) (Nat.lt_succ_self n) ⟨by decide, rfl⟩ hT1.2.2 ?_
    refine rr_pi oX4_ground_56 (ff_X4_46 rfl) kk_0 (wd_lt W rfl) ⟨by decide, rfl, by decide⟩ pf_4_8 ⟨rfl, rfl⟩ ?_
    refine ra_0 oX4_ground_59 ?_
    refine rr_giv oX4_ground_60 (ff_X4_46 rfl) kk_0 (wd_lt W rfl) ⟨by decide, rfl⟩ up_I_at ?_
    rcases f2 with _ | y
    · refine rk_m1 oX4_ground_63 ?_
      refine rr_icmp_eq (tgt := 74) oX4_ground_64 (by decide) (fun c1 => ?_) (fun c1 => ?_)
      rotate_left
      · exact absurd rfl c1
      refine ra_0 oX4_ground_74 ?_
      refine rr_gr (v := 2) oX4_ground_75 (ff_X4_18 rfl) kk_0 (wd_lt W rfl) ⟨by decide, rfl⟩ (wd_r W rfl rfl) ?_
      refine ra_0 oX4_ground_78 ?_
      refine rr_gr (v := 18) oX4_ground_79 (ff_X4_25 rfl) kk_0 (wd_lt W rfl) ⟨by decide, rfl⟩ (wd_r W rfl rfl) ?_
      refine rr_cVm (c_X1_copyFrom l W gd_2 gd_18 (by omega)) oX4_ground_82 (cv_X4_197 rfl) (by decide) (gd_k gd_2) (by decide) hcn_1 (gd_lt (j := 0) W gd_2 rfl) rfl rfl (Nat.le_of_ble_eq_true rfl) (fun V hV => ?_)
      refine ri_4 oX4_ground_85 ?_
      exact rr_ireturn oX4_ground_87 rfl rfl (q_G_of rfl ⟨by omega, by omega⟩ W (by
          have hB2 : cg_T (up_I T 0 8 (oI none)) 18 B2 := cg_ce hT2 (fun j hj => up_I_ne (by omega))
          have e : ∀ a, a < 46 → (a < 2 ∨ 9 < a) → V a = up_I T 0 8 (oI none) a := fun a _ q => hV.2.2.2 a (by omega)
          exact CR_cut (CR_gr (J := fun a => if a < 46 then V a else up_I T 0 8 (oI none) a) hCF (B := B2) (cg_ce (cf_cg hV hB2) (fun j hj => by simp only [if_pos (show 2 + j < 46 by omega)])) (fun a q1 q2 q3 q4 => by
            by_cases q : a < 46
            · simp only [if_pos q]; exact hV.2.2.2 a (by omega)
            · simp only [if_neg q])) (fun a ha => by simp only [if_pos ha]) (fun _ _ => rfl)) (fun a q1 q2 => ⟨by rw [hV.2.2.2 a (by omega), up_I_ne (by omega)]; exact hhi a q1 q2, rfl⟩))
    · have hy0 : y ≤ k + 8 := hbb.2.2 y rfl
      have hy : ¬ nI y = -1 := nI_nm1 (by omega)
      refine rk_m1 oX4_ground_63 ?_
      refine rr_icmp_eq (tgt := 74) oX4_ground_64 (by decide) (fun c1 => ?_) (fun c1 => ?_)
      · exact absurd c1 hy
      refine ra_0 oX4_ground_67 ?_
      refine rr_bipush (v := (-6)) oX4_ground_68 (by decide) ?_
      refine rr_cVi (c_X4_refuse l W (c := 6) (by decide) (by decide)) oX4_ground_70 (cv_X4_55 rfl) (by decide) kk_0 (by decide) hcn_4 (wd_lt W rfl) rfl rfl (Nat.le_of_ble_eq_true rfl) ?_
      exact rr_ireturn oX4_ground_73 rfl rfl (q_G_of rfl ⟨by omega, by omega⟩ W (CR_no hCF (by decide)) (fun a q1 q2 => ⟨(up_I_ne (by omega)).trans ((up_I_ne (by omega)).trans (hhi a q1 q2)), rfl⟩))
  · have hno := no_lr s_lr_n c
    refine ra_0 oX4_ground_10 ?_
    refine ri_2 oX4_ground_11 ?_
    refine rr_cVi (c_X4_refuse l W hno.1 hno.2) oX4_ground_12 (cv_X4_55 rfl) (by decide) kk_0 (by decide) hcn_4 (wd_lt W rfl) rfl rfl (Nat.le_of_ble_eq_true rfl) ?_
    exact rr_ireturn oX4_ground_15 rfl rfl (q_G_of (by rw [f_ground, if_pos c]; rfl) ⟨Nat.le_refl _, by omega⟩ W (by rw [f_ground, if_pos c]; exact CR_no hC hno.1) (fun a ha _ => ⟨up_I_ne (by omega), rfl⟩))
