/-! SeenByOne: helpers, shelves (by program: wip/whole/c18.py) -/
def q_w (P : (Nat → Nat → Int32) → (Nat → Nat → Int64) → Prop) (Rf : Nat → Nat → Option Nat) (n : Nat) : Option vv_T → mx_T → Prop := fun r Y => r = none ∧ ∃ I L, Y = (I, L, Rf, n) ∧ P I L
theorem q_w_of {P : (Nat → Nat → Int32) → (Nat → Nat → Int64) → Prop} {I : Nat → Nat → Int32} {L : Nat → Nat → Int64} {Rf : Nat → Nat → Option Nat} {n : Nat} (h : P I L) : q_w P Rf n none (I, L, Rf, n) := ⟨rfl, I, L, rfl, h⟩
theorem rr_cVw {l : Launch} {k : mm_T} {d mc ms pc np : Nat} {ls : List vv_T} {Q : Option vv_T → mx_T → Prop} {R1 : Nat → Nat → Option Nat} {n1 : Nat} {X : mx_T} {k2 : mm_T} {i m d2 a ci : Nat} {As st0 rest : List vv_T} {P : (Nat → Nat → Int32) → (Nat → Nat → Int64) → Prop} (hM : wm_C l k2 d2 0 0 (vv_A (some a) :: As) X (q_w P R1 n1)) (hd : op_at k pc (.invokevirtual i) 3 np) (hc : cl_V k k2 i m) (hdd : d2 + 1 ≤ d) (hk : kO a = ci) (hci : ci < 6) (hcn : ∀ q, mCl[ci]? = some q → q.1 = k2.1.cls) (ha : a < X.2.2.2)
    (hn : As.length = m) (hst : As.reverse ++ vv_A (some a) :: rest = st0) (hW : (rest.map vv_c).sum ≤ 8) (kk : ∀ (I2 : Nat → Nat → Int32) (L2 : Nat → Nat → Int64), P I2 L2 → wm_W l k d mc ms np ls rest (I2, L2, R1, n1) Q) : wm_W l k d mc ms pc ls st0 X Q :=
  rr_callV hd hc hM hdd hk hci hcn ha hn hst hW rfl rfl (fun r Z h => by obtain ⟨rfl, I2, L2, rfl, h2⟩ := h; exact kk I2 L2 h2)
theorem CR_hd {I : Nat → Nat → Int32} {L : Nat → Nat → Int64} {S : sg_T} (h : CR_T I L S) {s : Nat} (hs : s < 8) : I (30 + 2 * s) 0 = z_hd S s := (h.2.2.2.2.2.1 s hs).1
theorem CR_sz {I : Nat → Nat → Int32} {L : Nat → Nat → Int64} {S : sg_T} (h : CR_T I L S) {s : Nat} (hs : s < 8) : I (30 + 2 * s) 1 = z_sz S s := (h.2.2.2.2.2.1 s hs).2.1
theorem CR_el {I : Nat → Nat → Int32} {L : Nat → Nat → Int64} {S : sg_T} (h : CR_T I L S) {s : Nat} (hs : s < 8) {k : Nat} (hk : k < 160) : L (30 + 2 * s + 1) k = z_el S s k := (h.2.2.2.2.2.1 s hs).2.2 k hk
theorem s_lr_N {S : sg_T} {t : Nat} (ht : t < 8) : s_lr S (nI t) = if 0 ≤ z_hd S t ∧ z_hd S t < 8 then -2 else if 100 ≤ z_hd S t then 0 else -3 := by
  unfold s_lr ix_N
  rw [nI_clamp (by omega), if_pos]
  exact ⟨by rw [show (0 : Int32) = nI 0 from rfl, nI_le_iff (by omega) (by omega)]; omega, by rw [show (8 : Int32) = nI 8 from rfl, nI_lt_iff (by omega) (by omega)]; omega⟩
/-- a row on a shelf: which, and how long -/
theorem s_lr_0 {S : sg_T} {s : Int32} (h : s_lr S s = 0) : ∃ t, t < 8 ∧ s = nI t ∧ 100 ≤ z_hd S t ∧ ¬ (0 ≤ z_hd S t ∧ z_hd S t < 8) := by
  by_cases q : 0 ≤ s ∧ s < 8
  · obtain ⟨t, ht, rfl⟩ := ix_of q.1 (show s < nI 8 from q.2) (by omega)
    rw [s_lr_N ht] at h
    refine ⟨t, ht, rfl, ?_⟩
    split at h
    · exact absurd h (by decide)
    · next z =>
      split at h
      · next z2 => exact ⟨z2, z⟩
      · exact absurd h (by decide)
  · unfold s_lr at h
    rw [if_neg q] at h
    exact absurd h (by decide)
theorem s_lr_n {S : sg_T} {s : Int32} : s_lr S s = 0 ∨ s_lr S s = -1 ∨ s_lr S s = -2 ∨ s_lr S s = -3 := by
  unfold s_lr
  split
  · split
    · simp
    · split <;> simp
  · simp
theorem IV_row {S : sg_T} (h : IV_T S) {t : Nat} (ht : t < 8) (h1 : 100 ≤ z_hd S t) : ∃ o, o < 4 ∧ z_hd S t = nI (100 + o) ∧ ∃ m, m ≤ 160 ∧ z_sz S t = nI m := by
  have h8 : g_n (z_G S) ≤ 8 := h.1.1
  rcases h.2.2 t ht with q | ⟨u, hu, q⟩ | q
  · rw [q] at h1; exact absurd h1 (by decide)
  · rw [q, show (100 : Int32) = nI 100 from rfl, nI_le_iff (by omega) (by omega)] at h1
    omega
  · exact q
theorem no_lr {r : Int32} (h : r = 0 ∨ r = -1 ∨ r = -2 ∨ r = -3) (h0 : ¬ r = 0) : no_c r < 8 ∧ -r = nI (no_c r) := by
  rcases h with h | rfl | rfl | rfl
  · exact absurd h h0
  · decide
  · decide
  · decide
theorem no_any {r : Int32} {c : Nat} (h : r = -nI c) (hc : c < 8) : no_c r < 8 ∧ -r = nI (no_c r) := by
  obtain ⟨h1, h2⟩ := no_c_of h hc
  rw [h1]
  exact ⟨hc, h2⟩
theorem c_X4_refuse (l : Launch) {I : Nat → Nat → Int32} {L : Nat → Nat → Int64} {Rf : Nat → Nat → Option Nat} {n : Nat} (W : wd_T Rf n) {r : Int32} {c : Nat} (hc : c < 8) (hr : -r = nI c) : wm_C l mX4_refuse 1 0 0 [vv_A (some 0), vv_I r] (I, L, Rf, n) (q_i r (rf_I I c, L, Rf, n)) := by
  refine wm_of (by decide) (Nat.le_of_ble_eq_true rfl) rfl ?_
  refine ra_0 oX4_refuse_0 ?_
  refine rr_gr (v := 28) oX4_refuse_1 (ff_X4_35 rfl) kk_0 (wd_lt W rfl) ⟨by decide, rfl⟩ (wd_r W rfl rfl) ?_
  refine ri_1 oX4_refuse_4 ?_
  refine rr_ineg oX4_refuse_5 ?_
  refine rr_dup2 oX4_refuse_6 rfl rfl ?_
  refine rr_ild (t := c) oX4_refuse_7 kk_28 (wd_lt W rfl) hr (by omega) (by decide) ?_
  refine rk_1 oX4_refuse_8 ?_
  refine rr_iadd oX4_refuse_9 ?_
  refine rr_ist (t := c) oX4_refuse_10 kk_28 (wd_lt W rfl) hr (by omega) (by decide) ?_
  refine ri_1 oX4_refuse_11 ?_
  exact rr_ireturn oX4_refuse_12 rfl rfl ⟨rfl, rfl⟩
theorem c_X4_lacksRow (l : Launch) {I : Nat → Nat → Int32} {L : Nat → Nat → Int64} {Rf : Nat → Nat → Option Nat} {n : Nat} {S : sg_T} (W : wd_T Rf n) (hC : CR_T I L S) (hI : IV_T S) {s : Int32} : wm_C l mX4_lacksRow 2 0 0 [vv_A (some 0), vv_I s] (I, L, Rf, n) (q_i (s_lr S s) (I, L, Rf, n)) := by
  refine wm_of (by decide) (Nat.le_of_ble_eq_true rfl) rfl ?_
  refine ri_1 oX4_lacksRow_0 ?_
  refine rr_cSi (c_X4_isShelf l) oX4_lacksRow_1 (cs_X4_51 rfl) (by decide) rfl rfl (Nat.le_of_ble_eq_true rfl) ?_
  refine rr_ifb_ne (tgt := 9) oX4_lacksRow_4 (by decide) (fun c => ?_) (fun c => ?_)
  · obtain ⟨t, ht, rfl⟩ := ix_of c.1 (show s < nI 8 from c.2) (by omega)
    refine ra_0 oX4_lacksRow_9 ?_
    refine rr_gr (v := 1) oX4_lacksRow_10 (ff_X4_11 rfl) kk_0 (wd_lt W rfl) ⟨by decide, rfl⟩ (wd_r W rfl rfl) ?_
    refine ri_1 oX4_lacksRow_13 ?_
    refine rr_ald (t := t) (v := 30 + 2 * t) oX4_lacksRow_14 kk_1 (wd_lt W rfl) rfl (by omega) (by decide) (sh_q W ht) ?_
    refine rr_cVi (c_X3_holdsThing l W (sh_of ht)) oX4_lacksRow_15 (cv_X4_335 rfl) (by decide) (sh_k (sh_of ht)) (by decide) hcn_3 (sh_lt (j := 0) W (sh_of ht) rfl) rfl rfl (Nat.le_of_ble_eq_true rfl) ?_
    refine rr_ifb_eq (tgt := 24) oX4_lacksRow_18 (by decide) (fun c1 => ?_) (fun c1 => ?_)
    · refine ra_0 oX4_lacksRow_24 ?_
      refine rr_gr (v := 1) oX4_lacksRow_25 (ff_X4_11 rfl) kk_0 (wd_lt W rfl) ⟨by decide, rfl⟩ (wd_r W rfl rfl) ?_
      refine ri_1 oX4_lacksRow_28 ?_
      refine rr_ald (t := t) (v := 30 + 2 * t) oX4_lacksRow_29 kk_1 (wd_lt W rfl) rfl (by omega) (by decide) (sh_q W ht) ?_
      refine rr_cVi (c_X3_holdsRow l W (sh_of ht)) oX4_lacksRow_30 (cv_X4_100 rfl) (by decide) (sh_k (sh_of ht)) (by decide) hcn_3 (sh_lt (j := 0) W (sh_of ht) rfl) rfl rfl (Nat.le_of_ble_eq_true rfl) ?_
      refine rr_ifb_eq (tgt := 40) oX4_lacksRow_33 (by decide) (fun c2 => ?_) (fun c2 => ?_)
      · refine rr_bipush (v := (-3)) oX4_lacksRow_40 (by decide) ?_
        exact rr_ireturn oX4_lacksRow_42 rfl rfl (q_is (by rw [CR_hd hC ht] at c1 c2; rw [s_lr_N ht, if_neg c1, if_neg c2]))
      · refine rk_0 oX4_lacksRow_36 ?_
        refine rr_goto (tgt := 42) oX4_lacksRow_37 (by decide) ?_
        exact rr_ireturn oX4_lacksRow_42 rfl rfl (q_is (by rw [CR_hd hC ht] at c1 c2; rw [s_lr_N ht, if_neg c1, if_pos c2]))
    · refine rr_bipush (v := (-2)) oX4_lacksRow_21 (by decide) ?_
      exact rr_ireturn oX4_lacksRow_23 rfl rfl (q_is (by rw [CR_hd hC ht] at c1; rw [s_lr_N ht, if_pos c1]))
  · refine rk_m1 oX4_lacksRow_7 ?_
    exact rr_ireturn oX4_lacksRow_8 rfl rfl (q_is (by rw [s_lr, if_neg c]))
theorem lp_X3_becomeRow (l : Launch) {I : Nat → Nat → Int32} {L0 : Nat → Nat → Int64} {Rf : Nat → Nat → Option Nat} {n : Nat} {a : Nat} (W : wd_T Rf n) (hs : sh_T a) {x y : Int32} {P : (Nat → Nat → Int32) → (Nat → Nat → Int64) → Prop} (hP : ∀ M : Nat → Nat → Int64, (∀ k, k < 160 → M (a + 1) k = 0) → (∀ b, b ≠ a + 1 → M b = L0 b) → P I M) : ∀ m (L : Nat → Nat → Int64) t, t + m = 160 → (∀ k, k < t → L (a + 1) k = 0) → (∀ b, b ≠ a + 1 → L b = L0 b) → wm_W l mX3_becomeRow 1 0 0 15 [vv_A (some a), vv_I x, vv_I y, vv_I (nI t)] [] (I, L, Rf, n) (q_w P Rf n) := by
  intro m
  induction m with
  | zero =>
    intro L t ht h1 h2
    refine ri_3 oX3_becomeRow_15 ?_
    refine rr_sipush (v := 160) oX3_becomeRow_16 (by decide) ?_
    refine rr_icmp_ge (tgt := 35) oX3_becomeRow_19 (by decide) (fun c => ?_) (fun c => ?_)
    rotate_left
    · exact absurd c (by rw [show (160 : Int32) = nI 160 from rfl, nI_le_iff (by omega) (by omega)]; omega)
    exact rr_return oX3_becomeRow_35 rfl (q_w_of (hP L (fun k hk => h1 k (by omega)) h2))
  | succ m ih =>
    intro L t ht h1 h2
    refine ri_3 oX3_becomeRow_15 ?_
    refine rr_sipush (v := 160) oX3_becomeRow_16 (by decide) ?_
    refine rr_icmp_ge (tgt := 35) oX3_becomeRow_19 (by decide) (fun c => ?_) (fun c => ?_)
    · (rw [show (160 : Int32) = nI 160 from rfl, nI_le_iff (by omega) (by omega)] at c; omega)
    refine ra_0 oX3_becomeRow_22 ?_
    refine rr_gr oX3_becomeRow_23 (ff_X3_18 rfl) (sh_k hs) (sh_lt (j := 0) W hs rfl) ⟨by decide, rfl⟩ (sh_r W hs) ?_
    refine ri_3 oX3_becomeRow_26 ?_
    refine rr_lconst (v := 0) oX3_becomeRow_27 (by decide) ?_
    refine rr_lst oX3_becomeRow_28 (sh_a hs) (sh_lt (j := 1) W hs rfl) rfl (by omega) (by decide) ?_
    refine rn_3 oX3_becomeRow_29 rfl rfl ?_
    refine rr_goto (tgt := 15) oX3_becomeRow_32 (by decide) ?_
    refine ih _ (t + 1) (by omega) (fun k hk => ?_) (fun b hb => ?_)
    · rw [up_L_eq]
      by_cases q : k = t
      · exact if_pos q
      · exact (if_neg q).trans (h1 k (by omega))
    · rw [up_L_ne hb]; exact h2 b hb
theorem c_X3_becomeRow (l : Launch) {I : Nat → Nat → Int32} {L : Nat → Nat → Int64} {Rf : Nat → Nat → Option Nat} {n : Nat} {a : Nat} (W : wd_T Rf n) (hs : sh_T a) {x y : Int32}  : wm_C l mX3_becomeRow 1 0 0 [vv_A (some a), vv_I x, vv_I y] (I, L, Rf, n) (q_w (fun J M => J = up_I (up_I I a 0 (100 + x)) a 1 y ∧ (∀ k, k < 160 → M (a + 1) k = 0) ∧ ∀ b, b ≠ a + 1 → M b = L b) Rf n) := by
  refine wm_of (by decide) (Nat.le_of_ble_eq_true rfl) rfl ?_
  refine ra_0 oX3_becomeRow_0 ?_
  refine rr_bipush (v := 100) oX3_becomeRow_1 (by decide) ?_
  refine ri_1 oX3_becomeRow_3 ?_
  refine rr_iadd oX3_becomeRow_4 ?_
  refine rr_pi oX3_becomeRow_5 (ff_X3_9 rfl) (sh_k hs) (sh_lt (j := 0) W hs rfl) ⟨by decide, rfl, by decide⟩ pf_3_0 ⟨rfl, rfl⟩ ?_
  refine ra_0 oX3_becomeRow_8 ?_
  refine ri_2 oX3_becomeRow_9 ?_
  refine rr_pi oX3_becomeRow_10 (ff_X3_15 rfl) (sh_k hs) (sh_lt (j := 0) W hs rfl) ⟨by decide, rfl, by decide⟩ pf_3_1 ⟨rfl, rfl⟩ ?_
  refine rk_0 oX3_becomeRow_13 ?_
  refine si_3 oX3_becomeRow_14 rfl rfl ?_
  exact lp_X3_becomeRow l W hs (fun M g1 g2 => ⟨rfl, g1, g2⟩) 160 L 0 (by omega) (fun k hk => absurd hk (by omega)) (fun _ _ => rfl)
theorem s_val_0 {h : Int32} {v : Int64} (q : h - 100 = 0) : s_val h v = v.toInt32.toInt8.toInt32.toInt64 := by
  have e : h = 100 := by rw [← Int32.sub_add_cancel h 100, q]; rfl
  rw [s_val, if_pos e]
theorem s_val_1 {h : Int32} {v : Int64} (q : h - 100 = 1) : s_val h v = v.toInt32.toInt16.toInt32.toInt64 := by
  have e : h = 101 := by rw [← Int32.sub_add_cancel h 100, q]; rfl
  rw [s_val, if_neg (by rw [e]; decide), if_pos e]
theorem s_val_2 {h : Int32} {v : Int64} (q : h - 100 = 2) : s_val h v = v.toInt32.toInt64 := by
  have e : h = 102 := by rw [← Int32.sub_add_cancel h 100, q]; rfl
  rw [s_val, if_neg (by rw [e]; decide), if_neg (by rw [e]; decide), if_pos e]
theorem s_val_3 {h : Int32} {v : Int64} (q0 : ¬ h - 100 = 0) (q1 : ¬ h - 100 = 1) (q2 : ¬ h - 100 = 2) : s_val h v = v := by
  rw [s_val, if_neg (fun e => q0 (by rw [e]; decide)), if_neg (fun e => q1 (by rw [e]; decide)), if_neg (fun e => q2 (by rw [e]; decide))]
theorem c_X3_put (l : Launch) {I : Nat → Nat → Int32} {L : Nat → Nat → Int64} {Rf : Nat → Nat → Option Nat} {n : Nat} {a : Nat} (W : wd_T Rf n) (hs : sh_T a) {t : Nat} (ht : t < 160) {v : Int64}  : wm_C l mX3_put 1 0 0 [vv_A (some a), vv_I (nI t), vv_L v] (I, L, Rf, n) (q_v (I, up_L L (a + 1) t (s_val (I a 0) v), Rf, n)) := by
  refine wm_of (by decide) (Nat.le_of_ble_eq_true rfl) rfl ?_
  refine ra_0 oX3_put_0 ?_
  refine rr_gi oX3_put_1 (ff_X3_9 rfl) (sh_k hs) (sh_lt (j := 0) W hs rfl) ⟨by decide, rfl⟩ ?_
  refine rr_bipush (v := 100) oX3_put_4 (by decide) ?_
  refine rr_isub oX3_put_6 ?_
  by_cases c7_0 : I a 0 - 100 = 0
  · refine rr_tabIn (off := 25) (tgt := 32) oX3_put_7 (by rw [c7_0]; decide) (by rw [c7_0]; decide) (by rw [c7_0]; rfl) (by decide) ?_
    refine ra_0 oX3_put_32 ?_
    refine rr_gr oX3_put_33 (ff_X3_18 rfl) (sh_k hs) (sh_lt (j := 0) W hs rfl) ⟨by decide, rfl⟩ (sh_r W hs) ?_
    refine ri_1 oX3_put_36 ?_
    refine rl_2 oX3_put_37 ?_
    refine rr_l2i oX3_put_38 ?_
    refine rr_i2b oX3_put_39 ?_
    refine rr_i2l oX3_put_40 ?_
    refine rr_lst oX3_put_41 (sh_a hs) (sh_lt (j := 1) W hs rfl) rfl (by omega) (by decide) ?_
    refine rr_goto (tgt := 77) oX3_put_42 (by decide) ?_
    exact rr_return oX3_put_77 rfl ⟨rfl, by rw [s_val_0 c7_0]⟩
  by_cases c7_1 : I a 0 - 100 = 1
  · refine rr_tabIn (off := 38) (tgt := 45) oX3_put_7 (by rw [c7_1]; decide) (by rw [c7_1]; decide) (by rw [c7_1]; rfl) (by decide) ?_
    refine ra_0 oX3_put_45 ?_
    refine rr_gr oX3_put_46 (ff_X3_18 rfl) (sh_k hs) (sh_lt (j := 0) W hs rfl) ⟨by decide, rfl⟩ (sh_r W hs) ?_
    refine ri_1 oX3_put_49 ?_
    refine rl_2 oX3_put_50 ?_
    refine rr_l2i oX3_put_51 ?_
    refine rr_i2s oX3_put_52 ?_
    refine rr_i2l oX3_put_53 ?_
    refine rr_lst oX3_put_54 (sh_a hs) (sh_lt (j := 1) W hs rfl) rfl (by omega) (by decide) ?_
    refine rr_goto (tgt := 77) oX3_put_55 (by decide) ?_
    exact rr_return oX3_put_77 rfl ⟨rfl, by rw [s_val_1 c7_1]⟩
  by_cases c7_2 : I a 0 - 100 = 2
  · refine rr_tabIn (off := 51) (tgt := 58) oX3_put_7 (by rw [c7_2]; decide) (by rw [c7_2]; decide) (by rw [c7_2]; rfl) (by decide) ?_
    refine ra_0 oX3_put_58 ?_
    refine rr_gr oX3_put_59 (ff_X3_18 rfl) (sh_k hs) (sh_lt (j := 0) W hs rfl) ⟨by decide, rfl⟩ (sh_r W hs) ?_
    refine ri_1 oX3_put_62 ?_
    refine rl_2 oX3_put_63 ?_
    refine rr_l2i oX3_put_64 ?_
    refine rr_i2l oX3_put_65 ?_
    refine rr_lst oX3_put_66 (sh_a hs) (sh_lt (j := 1) W hs rfl) rfl (by omega) (by decide) ?_
    refine rr_goto (tgt := 77) oX3_put_67 (by decide) ?_
    exact rr_return oX3_put_77 rfl ⟨rfl, by rw [s_val_2 c7_2]⟩
  refine rr_tabOut (tgt := 70) oX3_put_7 (tab_out_0_2 c7_0 c7_1 c7_2) (by decide) ?_
  refine ra_0 oX3_put_70 ?_
  refine rr_gr oX3_put_71 (ff_X3_18 rfl) (sh_k hs) (sh_lt (j := 0) W hs rfl) ⟨by decide, rfl⟩ (sh_r W hs) ?_
  refine ri_1 oX3_put_74 ?_
  refine rl_2 oX3_put_75 ?_
  refine rr_lst oX3_put_76 (sh_a hs) (sh_lt (j := 1) W hs rfl) rfl (by omega) (by decide) ?_
  exact rr_return oX3_put_77 rfl ⟨rfl, by rw [s_val_3 c7_0 c7_1 c7_2]⟩
theorem c_X3_intAt (l : Launch) {I : Nat → Nat → Int32} {L : Nat → Nat → Int64} {Rf : Nat → Nat → Option Nat} {n : Nat} {a : Nat} (W : wd_T Rf n) (hs : sh_T a) {t : Nat} (ht : t < 160) (hz : 0 ≤ nI t ∧ nI t < I a 1)  : wm_C l mX3_intAt 2 0 0 [vv_A (some a), vv_I (nI t)] (I, L, Rf, n) (q_i ((L (a + 1) t).toInt32) (I, L, Rf, n)) := by
  refine wm_of (by decide) (Nat.le_of_ble_eq_true rfl) rfl ?_
  refine ra_0 oX3_intAt_0 ?_
  refine ri_1 oX3_intAt_1 ?_
  refine rr_cVi (c_X3_hasElement l W hs) oX3_intAt_2 (cv_X3_22 rfl) (by decide) (sh_k hs) (by decide) hcn_3 (sh_lt (j := 0) W hs rfl) rfl rfl (Nat.le_of_ble_eq_true rfl) ?_
  refine rr_ifb_eq (tgt := 18) oX3_intAt_5 (by decide) (fun c => ?_) (fun c => ?_)
  · exact absurd hz c
  refine ra_0 oX3_intAt_8 ?_
  refine rr_gr oX3_intAt_9 (ff_X3_18 rfl) (sh_k hs) (sh_lt (j := 0) W hs rfl) ⟨by decide, rfl⟩ (sh_r W hs) ?_
  refine ri_1 oX3_intAt_12 ?_
  refine rr_lld oX3_intAt_13 (sh_a hs) (sh_lt (j := 1) W hs rfl) rfl (by omega) (by decide) ?_
  refine rr_l2i oX3_intAt_14 ?_
  refine rr_goto (tgt := 19) oX3_intAt_15 (by decide) ?_
  exact rr_ireturn oX3_intAt_19 rfl rfl ⟨rfl, rfl⟩
theorem CR_shelf {I J : Nat → Nat → Int32} {L M : Nat → Nat → Int64} {S S2 : sg_T} {t : Nat} (ht : t < 8) (h : CR_T I L S) (hJ : ∀ a, a ≠ 30 + 2 * t → J a = I a) (hM : ∀ a, a ≠ 30 + 2 * t + 1 → M a = L a)
    (e : z_B S2 = z_B S ∧ z_im S2 = z_im S ∧ z_rf S2 = z_rf S ∧ z_fl S2 = z_fl S ∧ z_tr S2 = z_tr S ∧ z_ra S2 = z_ra S) (ho : ∀ s, s ≠ t → z_hd S2 s = z_hd S s ∧ z_sz S2 s = z_sz S s ∧ ∀ k, k < 160 → z_el S2 s k = z_el S s k)
    (ht2 : J (30 + 2 * t) 0 = z_hd S2 t ∧ J (30 + 2 * t) 1 = z_sz S2 t ∧ ∀ k, k < 160 → M (30 + 2 * t + 1) k = z_el S2 t k) : CR_T J M S2 := by
  obtain ⟨h1, h2, h3, h4, h5, h6, h7, h8⟩ := h
  obtain ⟨e1, e2, e3, e4, e5, e6⟩ := e
  refine ⟨by rw [e1]; exact cg_ce h1 (fun j hj => hJ _ (by omega)), ?_, fun q => ?_, fun k hk => ?_, ?_, fun s hs => ?_, fun k hk => ?_, ?_⟩
  · rw [hJ 0 (by omega), e2]; exact h2
  · rw [e2] at q ⊢; exact cg_ce (h3 q) (fun j hj => hJ _ (by omega))
  · rw [hJ 28 (by omega), e3]; exact h4 k hk
  · rw [hJ 0 (by omega), e4]; exact h5
  · by_cases q : s = t
    · subst q; exact ht2
    · obtain ⟨g1, g2, g3⟩ := h6 s hs
      obtain ⟨o1, o2, o3⟩ := ho s q
      rw [hJ (30 + 2 * s) (by omega), hM (30 + 2 * s + 1) (by omega), o1, o2]
      exact ⟨g1, g2, fun k hk => by rw [o3 k hk]; exact g3 k hk⟩
  · rw [hJ 27 (by omega), e5]; exact h7 k hk
  · rw [hJ 26 (by omega), e6]; exact h8
theorem c_X4_row (l : Launch) {I : Nat → Nat → Int32} {L : Nat → Nat → Int64} {Rf : Nat → Nat → Option Nat} {n : Nat} {S : sg_T} (W : wd_T Rf n) (hC : CR_T I L S) (hI : IV_T S) {s o m : Int32} : wm_C l mX4_row 2 0 0 [vv_A (some 0), vv_I s, vv_I o, vv_I m] (I, L, Rf, n) (q_C (f_row S s o m).1 (f_row S s o m).2 I L Rf n) := by
  refine wm_of (by decide) (Nat.le_of_ble_eq_true rfl) rfl ?_
  refine ri_1 oX4_row_0 ?_
  refine rr_cSi (c_X4_isShelf l) oX4_row_1 (cs_X4_51 rfl) (by decide) rfl rfl (Nat.le_of_ble_eq_true rfl) ?_
  refine rr_ifb_ne (tgt := 13) oX4_row_4 (by decide) (fun c => ?_) (fun c => ?_)
  · refine ri_3 oX4_row_13 ?_
    refine rr_if_ge (tgt := 24) oX4_row_14 (by decide) (fun c1 => ?_) (fun c1 => ?_)
    · refine ri_2 oX4_row_24 ?_
      refine rr_if_lt (tgt := 33) oX4_row_25 (by decide) (fun c2 => ?_) (fun c2 => ?_)
      · refine ra_0 oX4_row_33 ?_
        refine rr_bipush (v := (-6)) oX4_row_34 (by decide) ?_
        refine rr_cVi (c_X4_refuse l W (c := 6) (by decide) (by decide)) oX4_row_36 (cv_X4_55 rfl) (by decide) kk_0 (by decide) hcn_4 (wd_lt W rfl) rfl rfl (Nat.le_of_ble_eq_true rfl) ?_
        exact rr_ireturn oX4_row_39 rfl rfl (by rw [show f_row S s o m = f_no S (-6) from by rw [f_row, if_neg (fun q => q c), if_neg (Int32.not_lt.mpr c1), if_pos (Or.inl c2)]]; exact q_C_no (c := 6) hC (by decide) ce_rf rfl)
      · refine ri_2 oX4_row_28 ?_
        refine rk_3 oX4_row_29 ?_
        refine rr_icmp_le (tgt := 40) oX4_row_30 (by decide) (fun c3 => ?_) (fun c3 => ?_)
        · refine ri_3 oX4_row_40 ?_
          refine rr_sipush (v := 160) oX4_row_41 (by decide) ?_
          refine rr_icmp_le (tgt := 54) oX4_row_44 (by decide) (fun c4 => ?_) (fun c4 => ?_)
          · have ef : f_row S s o m = (1, w_el (w_sz (w_hd S (upd (z_hd S) (ix_N s) (100 + o))) (upd (z_sz S) (ix_N s) m)) (fun q => if q = ix_N s then (fun _ => 0) else z_el S q)) := by rw [f_row, if_neg (fun q => q c), if_neg (Int32.not_lt.mpr c1), if_neg (fun q => q.elim c2 (fun z => Int32.not_lt.mpr c3 z)), if_neg (Int32.not_lt.mpr c4)]
            rw [ef]
            obtain ⟨t, ht, rfl⟩ := ix_of c.1 (show s < nI 8 from c.2) (by omega)
            simp only [ix_N, nI_clamp (show t < 2 ^ 31 by omega)]
            refine ra_0 oX4_row_54 ?_
            refine rr_gr (v := 1) oX4_row_55 (ff_X4_11 rfl) kk_0 (wd_lt W rfl) ⟨by decide, rfl⟩ (wd_r W rfl rfl) ?_
            refine ri_1 oX4_row_58 ?_
            refine rr_ald (t := t) (v := 30 + 2 * t) oX4_row_59 kk_1 (wd_lt W rfl) rfl (by omega) (by decide) (sh_q W ht) ?_
            refine ri_2 oX4_row_60 ?_
            refine ri_3 oX4_row_61 ?_
            refine rr_cVw (c_X3_becomeRow l W (sh_of ht)) oX4_row_62 (cv_X4_59 rfl) (by decide) (sh_k (sh_of ht)) (by decide) hcn_3 (sh_lt (j := 0) W (sh_of ht) rfl) rfl rfl (Nat.le_of_ble_eq_true rfl) (fun J M hJ => ?_)
            refine rk_1 oX4_row_65 ?_
            exact rr_ireturn oX4_row_66 rfl rfl (by obtain ⟨rfl, hM1, hM2⟩ := hJ; exact q_C_of rfl (CR_shelf ht hC (fun a ha => by rw [up_I_ne ha, up_I_ne ha]) hM2 ⟨rfl, rfl, rfl, rfl, rfl, rfl⟩ (fun s hs => ⟨if_neg hs, if_neg hs, fun k _ => congrFun (if_neg hs) k⟩) ⟨by rw [up_I_at_ne (by omega), up_I_at]; exact (if_pos rfl).symm, by rw [up_I_at]; exact (if_pos rfl).symm, fun k hk => by rw [hM1 k hk]; show (0 : Int64) = (if t = t then (fun _ => 0) else z_el S t) k; rw [if_pos rfl]⟩) (fun a ha => ⟨by rw [up_I_ne (by omega), up_I_ne (by omega)], hM2 a (by omega)⟩))
          · refine ra_0 oX4_row_47 ?_
            refine rr_bipush (v := (-7)) oX4_row_48 (by decide) ?_
            refine rr_cVi (c_X4_refuse l W (c := 7) (by decide) (by decide)) oX4_row_50 (cv_X4_55 rfl) (by decide) kk_0 (by decide) hcn_4 (wd_lt W rfl) rfl rfl (Nat.le_of_ble_eq_true rfl) ?_
            exact rr_ireturn oX4_row_53 rfl rfl (by rw [show f_row S s o m = f_no S (-7) from by rw [f_row, if_neg (fun q => q c), if_neg (Int32.not_lt.mpr c1), if_neg (fun q => q.elim c2 (fun z => Int32.not_lt.mpr c3 z)), if_pos (Int32.not_le.mp c4)]]; exact q_C_no (c := 7) hC (by decide) ce_rf rfl)
        · refine ra_0 oX4_row_33 ?_
          refine rr_bipush (v := (-6)) oX4_row_34 (by decide) ?_
          refine rr_cVi (c_X4_refuse l W (c := 6) (by decide) (by decide)) oX4_row_36 (cv_X4_55 rfl) (by decide) kk_0 (by decide) hcn_4 (wd_lt W rfl) rfl rfl (Nat.le_of_ble_eq_true rfl) ?_
          exact rr_ireturn oX4_row_39 rfl rfl (by rw [show f_row S s o m = f_no S (-6) from by rw [f_row, if_neg (fun q => q c), if_neg (Int32.not_lt.mpr c1), if_pos (Or.inr (Int32.not_le.mp c3))]]; exact q_C_no (c := 6) hC (by decide) ce_rf rfl)
    · refine ra_0 oX4_row_17 ?_
      refine rr_bipush (v := (-4)) oX4_row_18 (by decide) ?_
      refine rr_cVi (c_X4_refuse l W (c := 4) (by decide) (by decide)) oX4_row_20 (cv_X4_55 rfl) (by decide) kk_0 (by decide) hcn_4 (wd_lt W rfl) rfl rfl (Nat.le_of_ble_eq_true rfl) ?_
      exact rr_ireturn oX4_row_23 rfl rfl (by rw [show f_row S s o m = f_no S (-4) from by rw [f_row, if_neg (fun q => q c), if_pos (Int32.not_le.mp c1)]]; exact q_C_no (c := 4) hC (by decide) ce_rf rfl)
  · refine ra_0 oX4_row_7 ?_
    refine rk_m1 oX4_row_8 ?_
    refine rr_cVi (c_X4_refuse l W (c := 1) (by decide) (by decide)) oX4_row_9 (cv_X4_55 rfl) (by decide) kk_0 (by decide) hcn_4 (wd_lt W rfl) rfl rfl (Nat.le_of_ble_eq_true rfl) ?_
    exact rr_ireturn oX4_row_12 rfl rfl (by rw [show f_row S s o m = f_no S (-1) from by rw [f_row, if_pos c]]; exact q_C_no (c := 1) hC (by decide) ce_rf rfl)
theorem f_set_r {S : sg_T} {s i : Int32} {v : Int64} (h : ¬ s_lr S s = 0) : f_set S s i v = f_no S (s_lr S s) := by rw [f_set, if_pos h]
theorem ix_in {i m : Int32} (h : 0 ≤ i ∧ i < m) {k : Nat} (hm : m = nI k) (hk : k ≤ 160) : ∃ t, t < 160 ∧ i = nI t ∧ t < k := by
  subst hm
  obtain ⟨t, ht, rfl⟩ := ix_of h.1 h.2 (by omega)
  exact ⟨t, by omega, rfl, ht⟩
theorem q_C_nov {S : sg_T} {I J : Nat → Nat → Int32} {L : Nat → Nat → Int64} {Rf : Nat → Nat → Option Nat} {n : Nat} {r : Int32} {a : an_T} (hC : CR_T I L S) (he : ce_T I J) (ha : a = f_no S r) (hn : no_c r < 8) : q_C a.1 a.2 I L Rf n (some (vv_I r)) (rf_I J (no_c r), L, Rf, n) := by
  rw [ha]
  exact q_C_no hC hn he rfl
theorem q_C_noc {S : sg_T} {I J : Nat → Nat → Int32} {L : Nat → Nat → Int64} {Rf : Nat → Nat → Option Nat} {n c : Nat} {r : Int32} {a : an_T} (hC : CR_T I L S) (he : ce_T I J) (ha : a = f_no S r) (hc : no_c r = c) (h8 : c < 8) : q_C a.1 a.2 I L Rf n (some (vv_I r)) (rf_I J c, L, Rf, n) := by
  subst hc
  exact q_C_nov hC he ha h8
theorem q_C_ok {S2 : sg_T} {I J : Nat → Nat → Int32} {L M : Nat → Nat → Int64} {Rf : Nat → Nat → Option Nat} {n : Nat} {v w : Int32} {a : an_T} (ha : a = (v, S2)) (hv : w = v) (h : CR_T J M S2) (hf : ∀ a, 46 ≤ a → J a = I a ∧ M a = L a) : q_C a.1 a.2 I L Rf n (some (vv_I w)) (J, M, Rf, n) := by
  rw [ha]
  exact q_C_of hv h hf
theorem q_C_an {S : sg_T} {I J : Nat → Nat → Int32} {L : Nat → Nat → Int64} {Rf : Nat → Nat → Option Nat} {n : Nat} {v w : Int32} {a : an_T} (hC : CR_T I L S) (he : ce_T I J) (ha : a = (v, S)) (hv : w = v) : q_C a.1 a.2 I L Rf n (some (vv_I w)) (J, L, Rf, n) := by
  rw [ha]
  exact q_C_ce hC he hv
theorem ce_up9 : True := trivial
theorem c_X4_set (l : Launch) {I : Nat → Nat → Int32} {L : Nat → Nat → Int64} {Rf : Nat → Nat → Option Nat} {n : Nat} {S : sg_T} (W : wd_T Rf n) (hC : CR_T I L S) (hI : IV_T S) {s i : Int32} {v : Int64} : wm_C l mX4_set 3 0 0 [vv_A (some 0), vv_I s, vv_I i, vv_L v] (I, L, Rf, n) (q_C (f_set S s i v).1 (f_set S s i v).2 I L Rf n) := by
  refine wm_of (by decide) (Nat.le_of_ble_eq_true rfl) rfl ?_
  refine ra_0 oX4_set_0 ?_
  refine ri_1 oX4_set_1 ?_
  refine rr_cVi (c_X4_lacksRow l W hC hI) oX4_set_2 (cv_X4_63 rfl) (by decide) kk_0 (by decide) hcn_4 (wd_lt W rfl) rfl rfl (Nat.le_of_ble_eq_true rfl) ?_
  refine si_5 oX4_set_5 rfl rfl ?_
  refine ri_5 oX4_set_7 ?_
  refine rr_if_ne (tgt := 29) oX4_set_9 (by decide) (fun c => ?_) (fun c => ?_)
  · have hno := no_lr s_lr_n c
    refine ri_5 oX4_set_29 ?_
    refine rr_if_eq (tgt := 41) oX4_set_31 (by decide) (fun c5 => ?_) (fun c5 => ?_)
    · exact absurd c5 c
    refine ra_0 oX4_set_34 ?_
    refine ri_5 oX4_set_35 ?_
    refine rr_cVi (c_X4_refuse l W hno.1 hno.2) oX4_set_37 (cv_X4_55 rfl) (by decide) kk_0 (by decide) hcn_4 (wd_lt W rfl) rfl rfl (Nat.le_of_ble_eq_true rfl) ?_
    exact rr_ireturn oX4_set_40 rfl rfl (q_C_nov hC ce_rf (f_set_r c) hno.1)
  · obtain ⟨t, ht, rfl, c3, c4⟩ := s_lr_0 c
    obtain ⟨o, ho, ho2, k, hk, hk2⟩ := IV_row hI ht c3
    refine ra_0 oX4_set_12 ?_
    refine rr_gr (v := 1) oX4_set_13 (ff_X4_11 rfl) kk_0 (wd_lt W rfl) ⟨by decide, rfl⟩ (wd_r W rfl rfl) ?_
    refine ri_1 oX4_set_16 ?_
    refine rr_ald (t := t) (v := 30 + 2 * t) oX4_set_17 kk_1 (wd_lt W rfl) rfl (by omega) (by decide) (sh_q W ht) ?_
    refine ri_2 oX4_set_18 ?_
    refine rr_cVi (c_X3_hasElement l W (sh_of ht)) oX4_set_19 (cv_X4_66 rfl) (by decide) (sh_k (sh_of ht)) (by decide) hcn_3 (sh_lt (j := 0) W (sh_of ht) rfl) rfl rfl (Nat.le_of_ble_eq_true rfl) ?_
    refine rr_ifb_ne (tgt := 29) oX4_set_22 (by decide) (fun c1 => ?_) (fun c1 => ?_)
    · refine ri_5 oX4_set_29 ?_
      refine rr_if_eq (tgt := 41) oX4_set_31 (by decide) (fun c5 => ?_) (fun c5 => ?_)
      rotate_left
      · exact absurd c c5
      refine ra_0 oX4_set_41 ?_
      refine rr_gr (v := 1) oX4_set_42 (ff_X4_11 rfl) kk_0 (wd_lt W rfl) ⟨by decide, rfl⟩ (wd_r W rfl rfl) ?_
      refine ri_1 oX4_set_45 ?_
      refine rr_ald (t := t) (v := 30 + 2 * t) oX4_set_46 kk_1 (wd_lt W rfl) rfl (by omega) (by decide) (sh_q W ht) ?_
      obtain ⟨u, hu, rfl, hu2⟩ := ix_in (CR_sz hC ht ▸ c1) hk2 hk
      refine ri_2 oX4_set_47 ?_
      refine rl_3 oX4_set_48 ?_
      refine rr_cVv (c_X3_put l W (sh_of ht) hu) oX4_set_49 (cv_X4_69 rfl) (by decide) (sh_k (sh_of ht)) (by decide) hcn_3 (sh_lt (j := 0) W (sh_of ht) rfl) rfl rfl (Nat.le_of_ble_eq_true rfl) ?_
      refine rk_1 oX4_set_52 ?_
      exact rr_ireturn oX4_set_53 rfl rfl (q_C_ok (S2 := w_el S (up_L (z_el S) t u (s_val (z_hd S t) v))) (by rw [f_set, if_neg (fun q => q c), if_neg (by rw [Classical.not_not]; simp only [ix_N, nI_clamp (show t < 2 ^ 31 by omega)]; rw [← CR_sz hC ht]; exact c1)]; simp only [ix_N, nI_clamp (show t < 2 ^ 31 by omega), nI_clamp (show u < 2 ^ 31 by omega)]) rfl (CR_shelf ht hC (fun _ _ => rfl) (fun a ha => up_L_ne ha) ⟨rfl, rfl, rfl, rfl, rfl, rfl⟩ (fun s hs => ⟨rfl, rfl, fun k _ => congrFun (up_L_ne hs) k⟩) ⟨CR_hd hC ht, CR_sz hC ht, fun k hk => by rw [up_L_eq, CR_hd hC ht]; show _ = up_L (z_el S) t u _ t k; rw [up_L_eq]; by_cases q : k = u <;> simp only [vp_updL, q, if_true, if_false]; exact CR_el hC ht hk⟩) (fun a ha => ⟨rfl, up_L_ne (by omega)⟩))
    · refine rr_bipush (v := (-5)) oX4_set_25 (by decide) ?_
      refine si_5 oX4_set_27 rfl rfl ?_
      refine ri_5 oX4_set_29 ?_
      refine rr_if_eq (tgt := 41) oX4_set_31 (by decide) (fun q => absurd q (by decide)) (fun _ => ?_)
      refine ra_0 oX4_set_34 ?_
      refine ri_5 oX4_set_35 ?_
      refine rr_cVi (c_X4_refuse l W (c := 5) (by decide) (by decide)) oX4_set_37 (cv_X4_55 rfl) (by decide) kk_0 (by decide) hcn_4 (wd_lt W rfl) rfl rfl (Nat.le_of_ble_eq_true rfl) ?_
      exact rr_ireturn oX4_set_40 rfl rfl (q_C_noc hC ce_rf (by rw [f_set, if_neg (fun q => q c), if_pos (by simp only [ix_N, nI_clamp (show t < 2 ^ 31 by omega)]; rw [← CR_sz hC ht]; exact c1)]) (by decide) (by decide))
def f_element (S : sg_T) (s i : Int32) : Int64 := if s_lr S s = 0 ∧ 0 ≤ i ∧ i < z_sz S (ix_N s) then z_el S (ix_N s) (ix_N i) else 0
theorem c_X4_element (l : Launch) {I : Nat → Nat → Int32} {L : Nat → Nat → Int64} {Rf : Nat → Nat → Option Nat} {n : Nat} {S : sg_T} (W : wd_T Rf n) (hC : CR_T I L S) (hI : IV_T S) {s i : Int32} : wm_C l mX4_element 3 0 0 [vv_A (some 0), vv_I s, vv_I i] (I, L, Rf, n) (q_l (f_element S s i) (I, L, Rf, n)) := by
  refine wm_of (by decide) (Nat.le_of_ble_eq_true rfl) rfl ?_
  refine ra_0 oX4_element_0 ?_
  refine ri_1 oX4_element_1 ?_
  refine rr_cVi (c_X4_lacksRow l W hC hI) oX4_element_2 (cv_X4_63 rfl) (by decide) kk_0 (by decide) hcn_4 (wd_lt W rfl) rfl rfl (Nat.le_of_ble_eq_true rfl) ?_
  refine rr_if_ne (tgt := 21) oX4_element_5 (by decide) (fun c => ?_) (fun c => ?_)
  · refine rr_lconst (v := 0) oX4_element_21 (by decide) ?_
    exact rr_lreturn oX4_element_22 rfl ⟨by rw [f_element, if_neg (fun q => c q.1)], rfl⟩
  · obtain ⟨t, ht, rfl, c3, c4⟩ := s_lr_0 c
    obtain ⟨o, ho, ho2, k, hk, hk2⟩ := IV_row hI ht c3
    have ex : ix_N (nI t) = t := nI_clamp (by omega)
    refine ra_0 oX4_element_8 ?_
    refine rr_gr (v := 1) oX4_element_9 (ff_X4_11 rfl) kk_0 (wd_lt W rfl) ⟨by decide, rfl⟩ (wd_r W rfl rfl) ?_
    refine ri_1 oX4_element_12 ?_
    refine rr_ald (t := t) (v := 30 + 2 * t) oX4_element_13 kk_1 (wd_lt W rfl) rfl (by omega) (by decide) (sh_q W ht) ?_
    refine ri_2 oX4_element_14 ?_
    refine rr_cVi (c_X3_hasElement l W (sh_of ht)) oX4_element_15 (cv_X4_66 rfl) (by decide) (sh_k (sh_of ht)) (by decide) hcn_3 (sh_lt (j := 0) W (sh_of ht) rfl) rfl rfl (Nat.le_of_ble_eq_true rfl) ?_
    refine rr_ifb_ne (tgt := 23) oX4_element_18 (by decide) (fun c1 => ?_) (fun c1 => ?_)
    · refine ra_0 oX4_element_23 ?_
      refine rr_gr (v := 1) oX4_element_24 (ff_X4_11 rfl) kk_0 (wd_lt W rfl) ⟨by decide, rfl⟩ (wd_r W rfl rfl) ?_
      refine ri_1 oX4_element_27 ?_
      refine rr_ald (t := t) (v := 30 + 2 * t) oX4_element_28 kk_1 (wd_lt W rfl) rfl (by omega) (by decide) (sh_q W ht) ?_
      obtain ⟨u, hu, rfl, hu2⟩ := ix_in (CR_sz hC ht ▸ c1) hk2 hk
      have ex2 : ix_N (nI u) = u := nI_clamp (by omega)
      refine rr_gr oX4_element_29 (ff_X4_81 rfl) (sh_k (sh_of ht)) (sh_lt (j := 0) W (sh_of ht) rfl) ⟨by decide, rfl⟩ (sh_r W (sh_of ht)) ?_
      refine ri_2 oX4_element_32 ?_
      refine rr_lld oX4_element_33 (sh_a (sh_of ht)) (sh_lt (j := 1) W (sh_of ht) rfl) rfl (by omega) (by decide) ?_
      exact rr_lreturn oX4_element_34 rfl ⟨by rw [f_element, if_pos ⟨c, by rw [ex, ← CR_sz hC ht]; exact c1⟩, ex, ex2, CR_el hC ht hu], rfl⟩
    · refine rr_lconst (v := 0) oX4_element_21 (by decide) ?_
      exact rr_lreturn oX4_element_22 rfl ⟨by rw [f_element, if_neg (fun q => c1 (by rw [ex] at q; rw [CR_sz hC ht]; exact q.2))], rfl⟩
def f_show (S : sg_T) (s t : Int32) : an_T := if ¬ (0 ≤ s ∧ s < 8) ∨ (¬ t = -1 ∧ ¬ (0 ≤ t ∧ t < nI (g_n (z_G S)))) then f_no S (-1) else (if t = -1 then 0 else 1, w_hd S (upd (z_hd S) (ix_N s) t))
def f_holds (S : sg_T) (s : Int32) : Int32 := if 0 ≤ s ∧ s < 8 then z_hd S (ix_N s) else -1
theorem CR_n {I : Nat → Nat → Int32} {L : Nat → Nat → Int64} {S : sg_T} (h : CR_T I L S) : I 2 0 = nI (g_n (z_G S)) := h.1.1.1.2.1
theorem c_X4_show (l : Launch) {I : Nat → Nat → Int32} {L : Nat → Nat → Int64} {Rf : Nat → Nat → Option Nat} {n : Nat} {S : sg_T} (W : wd_T Rf n) (hC : CR_T I L S) (hI : IV_T S) {s u : Int32} : wm_C l mX4_show 2 0 0 [vv_A (some 0), vv_I s, vv_I u] (I, L, Rf, n) (q_C (f_show S s u).1 (f_show S s u).2 I L Rf n) := by
  refine wm_of (by decide) (Nat.le_of_ble_eq_true rfl) rfl ?_
  refine ri_1 oX4_show_0 ?_
  refine rr_cSi (c_X4_isShelf l) oX4_show_1 (cs_X4_51 rfl) (by decide) rfl rfl (Nat.le_of_ble_eq_true rfl) ?_
  refine rr_ifb_eq (tgt := 23) oX4_show_4 (by decide) (fun c => ?_) (fun c => ?_)
  · refine ra_0 oX4_show_23 ?_
    refine rk_m1 oX4_show_24 ?_
    refine rr_cVi (c_X4_refuse l W (c := 1) (by decide) (by decide)) oX4_show_25 (cv_X4_55 rfl) (by decide) kk_0 (by decide) hcn_4 (wd_lt W rfl) rfl rfl (Nat.le_of_ble_eq_true rfl) ?_
    exact rr_ireturn oX4_show_28 rfl rfl (q_C_noc hC ce_rf (by rw [f_show, if_pos (Or.inl c)]) (by decide) (by decide))
  · have hG := hC.1.1.1
    refine ri_2 oX4_show_7 ?_
    refine rk_m1 oX4_show_8 ?_
    refine rr_icmp_eq (tgt := 29) oX4_show_9 (by decide) (fun c1 => ?_) (fun c1 => ?_)
    · obtain ⟨t, ht, rfl⟩ := ix_of c.1 (show s < nI 8 from c.2) (by omega)
      refine ra_0 oX4_show_29 ?_
      refine rr_gr (v := 1) oX4_show_30 (ff_X4_11 rfl) kk_0 (wd_lt W rfl) ⟨by decide, rfl⟩ (wd_r W rfl rfl) ?_
      refine ri_1 oX4_show_33 ?_
      refine rr_ald (t := t) (v := 30 + 2 * t) oX4_show_34 kk_1 (wd_lt W rfl) rfl (by omega) (by decide) (sh_q W ht) ?_
      refine ri_2 oX4_show_35 ?_
      refine rr_pi oX4_show_36 (ff_X4_94 rfl) (sh_k (sh_of ht)) (sh_lt (j := 0) W (sh_of ht) rfl) ⟨by decide, rfl, by decide⟩ pf_3_0 ⟨rfl, rfl⟩ ?_
      refine ri_2 oX4_show_39 ?_
      refine rk_m1 oX4_show_40 ?_
      refine rr_icmp_ne (tgt := 48) oX4_show_41 (by decide) (fun c3 => ?_) (fun c3 => ?_)
      · exact absurd c1 c3
      refine rk_0 oX4_show_44 ?_
      refine rr_goto (tgt := 49) oX4_show_45 (by decide) ?_
      exact rr_ireturn oX4_show_49 rfl rfl (q_C_ok (S2 := w_hd S (upd (z_hd S) t u)) (by rw [f_show, if_neg (by rintro (q | q); exact q c; exact q.1 c1)]; simp only [ix_N, nI_clamp (show t < 2 ^ 31 by omega)]; rw [if_pos c1]) rfl (CR_shelf ht hC (fun a ha => up_I_ne ha) (fun _ _ => rfl) ⟨rfl, rfl, rfl, rfl, rfl, rfl⟩ (fun s hs => ⟨if_neg hs, rfl, fun _ _ => rfl⟩) ⟨by rw [up_I_at]; exact (if_pos rfl).symm, by rw [up_I_at_ne (by omega)]; exact CR_sz hC ht, fun k hk => CR_el hC ht hk⟩) (fun a ha => ⟨up_I_ne (by omega), rfl⟩))
    · refine ra_0 oX4_show_12 ?_
      refine rr_gr (v := 2) oX4_show_13 (ff_X4_18 rfl) kk_0 (wd_lt W rfl) ⟨by decide, rfl⟩ (wd_r W rfl rfl) ?_
      refine ri_2 oX4_show_16 ?_
      refine rr_cVi (c_X1_has l W gd_2) oX4_show_17 (cv_X4_91 rfl) (by decide) (gd_k gd_2) (by decide) hcn_1 (gd_lt (j := 0) W gd_2 rfl) rfl rfl (Nat.le_of_ble_eq_true rfl) ?_
      refine rr_ifb_ne (tgt := 29) oX4_show_20 (by decide) (fun c2 => ?_) (fun c2 => ?_)
      · obtain ⟨t, ht, rfl⟩ := ix_of c.1 (show s < nI 8 from c.2) (by omega)
        refine ra_0 oX4_show_29 ?_
        refine rr_gr (v := 1) oX4_show_30 (ff_X4_11 rfl) kk_0 (wd_lt W rfl) ⟨by decide, rfl⟩ (wd_r W rfl rfl) ?_
        refine ri_1 oX4_show_33 ?_
        refine rr_ald (t := t) (v := 30 + 2 * t) oX4_show_34 kk_1 (wd_lt W rfl) rfl (by omega) (by decide) (sh_q W ht) ?_
        refine ri_2 oX4_show_35 ?_
        refine rr_pi oX4_show_36 (ff_X4_94 rfl) (sh_k (sh_of ht)) (sh_lt (j := 0) W (sh_of ht) rfl) ⟨by decide, rfl, by decide⟩ pf_3_0 ⟨rfl, rfl⟩ ?_
        refine ri_2 oX4_show_39 ?_
        refine rk_m1 oX4_show_40 ?_
        refine rr_icmp_ne (tgt := 48) oX4_show_41 (by decide) (fun c3 => ?_) (fun c3 => ?_)
        rotate_left
        · exact absurd c3 c1
        refine rk_1 oX4_show_48 ?_
        exact rr_ireturn oX4_show_49 rfl rfl (q_C_ok (S2 := w_hd S (upd (z_hd S) t u)) (by rw [f_show, if_neg (by rintro (q | q); exact q c; exact q.2 (by rw [← CR_n hC]; exact c2))]; simp only [ix_N, nI_clamp (show t < 2 ^ 31 by omega)]; rw [if_neg c1]) rfl (CR_shelf ht hC (fun a ha => up_I_ne ha) (fun _ _ => rfl) ⟨rfl, rfl, rfl, rfl, rfl, rfl⟩ (fun s hs => ⟨if_neg hs, rfl, fun _ _ => rfl⟩) ⟨by rw [up_I_at]; exact (if_pos rfl).symm, by rw [up_I_at_ne (by omega)]; exact CR_sz hC ht, fun k hk => CR_el hC ht hk⟩) (fun a ha => ⟨up_I_ne (by omega), rfl⟩))
      · refine ra_0 oX4_show_23 ?_
        refine rk_m1 oX4_show_24 ?_
        refine rr_cVi (c_X4_refuse l W (c := 1) (by decide) (by decide)) oX4_show_25 (cv_X4_55 rfl) (by decide) kk_0 (by decide) hcn_4 (wd_lt W rfl) rfl rfl (Nat.le_of_ble_eq_true rfl) ?_
        exact rr_ireturn oX4_show_28 rfl rfl (q_C_noc hC ce_rf (by rw [f_show, if_pos (Or.inr ⟨c1, by rw [← CR_n hC]; exact c2⟩)]) (by decide) (by decide))
theorem c_X4_holds (l : Launch) {I : Nat → Nat → Int32} {L : Nat → Nat → Int64} {Rf : Nat → Nat → Option Nat} {n : Nat} {S : sg_T} (W : wd_T Rf n) (hC : CR_T I L S) (hI : IV_T S) {s : Int32} : wm_C l mX4_holds 2 0 0 [vv_A (some 0), vv_I s] (I, L, Rf, n) (q_i (f_holds S s) (I, L, Rf, n)) := by
  refine wm_of (by decide) (Nat.le_of_ble_eq_true rfl) rfl ?_
  refine ri_1 oX4_holds_0 ?_
  refine rr_cSi (c_X4_isShelf l) oX4_holds_1 (cs_X4_51 rfl) (by decide) rfl rfl (Nat.le_of_ble_eq_true rfl) ?_
  refine rr_ifb_eq (tgt := 19) oX4_holds_4 (by decide) (fun c => ?_) (fun c => ?_)
  · refine rk_m1 oX4_holds_19 ?_
    exact rr_ireturn oX4_holds_20 rfl rfl (q_is (by rw [f_holds, if_neg c]))
  · have c0 := c
    obtain ⟨t, ht, rfl⟩ := ix_of c.1 (show s < nI 8 from c.2) (by omega)
    refine ra_0 oX4_holds_7 ?_
    refine rr_gr (v := 1) oX4_holds_8 (ff_X4_11 rfl) kk_0 (wd_lt W rfl) ⟨by decide, rfl⟩ (wd_r W rfl rfl) ?_
    refine ri_1 oX4_holds_11 ?_
    refine rr_ald (t := t) (v := 30 + 2 * t) oX4_holds_12 kk_1 (wd_lt W rfl) rfl (by omega) (by decide) (sh_q W ht) ?_
    refine rr_gi oX4_holds_13 (ff_X4_94 rfl) (sh_k (sh_of ht)) (sh_lt (j := 0) W (sh_of ht) rfl) ⟨by decide, rfl⟩ ?_
    refine rr_goto (tgt := 20) oX4_holds_16 (by decide) ?_
    exact rr_ireturn oX4_holds_20 rfl rfl (q_is (by rw [f_holds, if_pos c0, CR_hd hC ht]; simp only [ix_N, nI_clamp (show t < 2 ^ 31 by omega)]))
