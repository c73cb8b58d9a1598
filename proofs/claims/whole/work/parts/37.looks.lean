/-! the model holds a state; calls that only look (by program: wip/whole/c37.py) -/
def mg_T (I : Nat → Nat → Int32) (B : gb_T) : Prop := mv_T I (b_G B) ∧ (∀ t, t < 8 → I 53 t = if b_dr B t = true then 1 else 0) ∧ (∀ i, i < 8 → I 54 i = st_S (fun j => b_sh B j i)) ∧ I 46 3 = b_fi B ∧ I 46 4 = b_sd B
/-- what array a keeps of a ground -/
def ka_T (I : Nat → Nat → Int32) (a : Nat) (B : gb_T) : Prop := (g_n (b_G B) ≤ 8 ∧ ∀ t, t < g_n (b_G B) → I a t = g_k (b_G B) t ∧ I a (8 + t) = g_x (b_G B) t ∧ I a (16 + t) = g_y (b_G B) t ∧ I a (24 + t) = g_h (b_G B) t ∧ I a (32 + t) = g_a (b_G B) t) ∧
  (∀ t, t < 8 → I a (40 + t) = if b_dr B t = true then 1 else 0) ∧ (∀ i, i < 8 → I a (48 + i) = st_S (fun j => b_sh B j i)) ∧ (I a 56 = nI (g_n (b_G B)) ∧ I a 57 = g_s (b_G B) ∧ I a 58 = g_f (b_G B) ∧ I a 59 = b_fi B ∧ I a 60 = b_sd B)
def mh_T (I : Nat → Nat → Int32) (L : Nat → Nat → Int64) (S : sg_T) (s : Nat) : Prop :=
  (z_hd S s = -1 ∧ I 55 s = 0) ∨ (∃ t, t < 8 ∧ z_hd S s = nI t ∧ I 55 s = 2 ∧ I 58 s = nI t) ∨
  (∃ q, q < 4 ∧ z_hd S s = nI (100 + q) ∧ I 55 s = 1 ∧ I 56 s = nI q ∧ I 57 s = z_sz S s ∧ ∀ k, k < 160 → L 59 (160 * s + k) = z_el S s k)
def wd_l : List Int32 := [116, 104, 105, 110, 103, 32, 0, 115, 117, 109, 109, 101, 114, 32, 0, 102, 97, 114, 32, 0, 115, 104, 117, 116, 32, 0, 100, 114, 97, 119, 32, 0]
def wd_W (k : Nat) : Int32 := wd_l.getD k 0
def MR_T (I : Nat → Nat → Int32) (L : Nat → Nat → Int64) (S : sg_T) : Prop :=
  mg_T I (z_B S) ∧ (I 46 37 = if (z_im S).1 = true then 1 else 0) ∧ ((z_im S).1 = true → ka_T I 64 (z_im S).2) ∧ (∀ k, k < 8 → I 47 k = z_rf S k) ∧ I 46 5 = z_fl S ∧ (∀ s, s < 8 → mh_T I L S s) ∧ (∀ k, k < 20 → I 66 k = z_tr S k) ∧ I 46 36 = z_ra S ∧ (∀ k, k < 32 → I 61 k = wd_W k)
theorem mg_mq {I : Nat → Nat → Int32} {B : gb_T} (h : mg_T I B) (hI : gI_T B) : mq_T I (b_G B) (b_dr B) (b_sh B) := ⟨h.1, h.2.1, h.2.2.1, hI.2.2.2.2.2.1, hI.2.1⟩
theorem mg_ce {I J : Nat → Nat → Int32} {B : gb_T} (h : mg_T I B) (h0 : ∀ f, f < 5 → J 46 f = I 46 f) (ha : ∀ a, 48 ≤ a → a ≤ 54 → J a = I a) : mg_T J B := by
  obtain ⟨⟨g1, g2, g3, g4, g5⟩, h2, h3, h4, h5⟩ := h
  exact ⟨⟨g1, by rw [h0 0 (by omega)]; exact g2, by rw [h0 1 (by omega)]; exact g3, by rw [h0 2 (by omega)]; exact g4, fun t ht => by rw [ha 48 (by omega) (by omega), ha 49 (by omega) (by omega), ha 50 (by omega) (by omega), ha 51 (by omega) (by omega), ha 52 (by omega) (by omega)]; exact g5 t ht⟩, fun t ht => by rw [ha 53 (by omega) (by omega)]; exact h2 t ht, fun t ht => by rw [ha 54 (by omega) (by omega)]; exact h3 t ht, by rw [h0 3 (by omega)]; exact h4, by rw [h0 4 (by omega)]; exact h5⟩
/-- another ground, all else of the state as it was -/
theorem MR_B {I J : Nat → Nat → Int32} {L : Nat → Nat → Int64} {S : sg_T} {B : gb_T} (h : MR_T I L S) (hB : mg_T J B) (h0 : ∀ f, (f = 5 ∨ f = 36 ∨ f = 37) → J 46 f = I 46 f) (ha : ∀ a, (a = 47 ∨ (55 ≤ a ∧ a ≤ 58) ∨ a = 61 ∨ a = 64 ∨ a = 66) → J a = I a) : MR_T J L (w_B S B) := by
  obtain ⟨h1, h2, h3, h4, h5, h6, h7, h8, h9⟩ := h
  refine ⟨hB, by rw [h0 37 (by omega)]; exact h2, fun q => ?_, fun k hk => by rw [ha 47 (by omega)]; exact h4 k hk, by rw [h0 5 (by omega)]; exact h5, fun s hs => ?_, fun k hk => by rw [ha 66 (by omega)]; exact h7 k hk, by rw [h0 36 (by omega)]; exact h8, fun k hk => by rw [ha 61 (by omega)]; exact h9 k hk⟩
  · have := h3 q
    unfold ka_T
    rw [ha 64 (by omega)]
    exact this
  · have := h6 s hs
    unfold mh_T
    rw [ha 55 (by omega), ha 56 (by omega), ha 57 (by omega), ha 58 (by omega)]
    exact this
/-- scratch alone has changed -/
def me_T (I J : Nat → Nat → Int32) : Prop := (∀ f, (f < 6 ∨ f = 36 ∨ f = 37) → J 46 f = I 46 f) ∧ ∀ a, a ≠ 46 → a ≠ 62 → a ≠ 63 → a ≠ 65 → J a = I a
theorem me_rf {I : Nat → Nat → Int32} : me_T I I := ⟨fun _ _ => rfl, fun _ _ _ _ _ => rfl⟩
theorem me_tr {I J K : Nat → Nat → Int32} (h1 : me_T I J) (h2 : me_T J K) : me_T I K := ⟨fun f q => (h2.1 f q).trans (h1.1 f q), fun a q1 q2 q3 q4 => (h2.2 a q1 q2 q3 q4).trans (h1.2 a q1 q2 q3 q4)⟩
theorem mg_me {I J : Nat → Nat → Int32} {B : gb_T} (h : mg_T I B) (he : me_T I J) : mg_T J B := mg_ce h (fun f q => he.1 f (by omega)) (fun a q1 q2 => he.2 a (by omega) (by omega) (by omega) (by omega))
theorem MR_me {I J : Nat → Nat → Int32} {L : Nat → Nat → Int64} {S : sg_T} (h : MR_T I L S) (he : me_T I J) : MR_T J L S :=
  MR_B (B := z_B S) h (mg_me h.1 he) (fun f q => he.1 f (by omega)) (fun a q => he.2 a (by omega) (by omega) (by omega) (by omega))
/-- an answer v, the model holding S behind it, the other side untouched -/
def q_M (v : Int32) (S : sg_T) (I : Nat → Nat → Int32) (L : Nat → Nat → Int64) (Rf : Nat → Nat → Option Nat) (n : Nat) : Option vv_T → mx_T → Prop := fun r Y => r = some (vv_I v) ∧ ∃ J M, Y = (J, M, Rf, n) ∧ MR_T J M S ∧ ∀ a, a < 46 → J a = I a ∧ M a = L a
theorem q_M_of {v w : Int32} {S : sg_T} {I J : Nat → Nat → Int32} {L M : Nat → Nat → Int64} {Rf : Nat → Nat → Option Nat} {n : Nat} (hv : w = v) (h : MR_T J M S) (hf : ∀ a, a < 46 → J a = I a ∧ M a = L a) : q_M v S I L Rf n (some (vv_I w)) (J, M, Rf, n) := ⟨by rw [hv], J, M, rfl, h, hf⟩
def mf_I (I : Nat → Nat → Int32) (c : Nat) : Nat → Nat → Int32 := up_I I 47 c (I 47 c + 1)
theorem MR_no {I : Nat → Nat → Int32} {L : Nat → Nat → Int64} {S : sg_T} (h : MR_T I L S) {c : Nat} (hc : c < 8) : MR_T (mf_I I c) L (w_no S c) := by
  obtain ⟨h1, h2, h3, h4, h5, h6, h7, h8, h9⟩ := h
  have ne : ∀ a, a ≠ 47 → mf_I I c a = I a := fun a ha => up_I_ne ha
  refine ⟨mg_ce h1 (fun f _ => by rw [ne 46 (by omega)]) (fun a q1 q2 => ne _ (by omega)), by rw [ne 46 (by omega)]; exact h2, fun q => ?_, fun k hk => ?_, by rw [ne 46 (by omega)]; exact h5, fun s hs => ?_, fun k hk => by rw [ne 66 (by omega)]; exact h7 k hk, by rw [ne 46 (by omega)]; exact h8, fun k hk => by rw [ne 61 (by omega)]; exact h9 k hk⟩
  · have := h3 q
    unfold ka_T
    rw [ne 64 (by omega)]
    exact this
  · show up_I I 47 c (I 47 c + 1) 47 k = upd (z_rf S) c (z_rf S c + 1) k
    rw [up_I_eq]
    by_cases q : k = c
    · subst q; simp only [upd, if_true]; rw [h4 k hk]
    · simp only [upd, if_neg q]; exact h4 k hk
  · have := h6 s hs
    unfold mh_T
    rw [ne 55 (by omega), ne 56 (by omega), ne 57 (by omega), ne 58 (by omega)]
    exact this
theorem me_lt {I J : Nat → Nat → Int32} (h : me_T I J) {a : Nat} (ha : a < 46) : J a = I a := h.2 a (by omega) (by omega) (by omega) (by omega)
theorem q_M_nov {S : sg_T} {I J : Nat → Nat → Int32} {L : Nat → Nat → Int64} {Rf : Nat → Nat → Option Nat} {n : Nat} {r : Int32} {a : an_T} (hM : MR_T I L S) (he : me_T I J) (ha : a = f_no S r) (hn : no_c r < 8) : q_M a.1 a.2 I L Rf n (some (vv_I r)) (mf_I J (no_c r), L, Rf, n) := by
  rw [ha]
  exact q_M_of rfl (MR_no (MR_me hM he) hn) (fun b hb => ⟨(up_I_ne (by omega)).trans (me_lt he hb), rfl⟩)
theorem q_M_noc {S : sg_T} {I J : Nat → Nat → Int32} {L : Nat → Nat → Int64} {Rf : Nat → Nat → Option Nat} {n c : Nat} {r : Int32} {a : an_T} (hM : MR_T I L S) (he : me_T I J) (ha : a = f_no S r) (hc : no_c r = c) (h8 : c < 8) : q_M a.1 a.2 I L Rf n (some (vv_I r)) (mf_I J c, L, Rf, n) := by
  subst hc
  exact q_M_nov hM he ha h8
theorem q_M_nod {S : sg_T} {I J : Nat → Nat → Int32} {L : Nat → Nat → Int64} {Rf : Nat → Nat → Option Nat} {n : Nat} {r w : Int32} {a : an_T} (hM : MR_T I L S) (he : me_T I J) (ha : a = (w, w_no S (no_c r))) (hn : no_c r < 8) : q_M a.1 a.2 I L Rf n (some (vv_I w)) (mf_I J (no_c r), L, Rf, n) := by
  rw [ha]
  exact q_M_of rfl (MR_no (MR_me hM he) hn) (fun b hb => ⟨(up_I_ne (by omega)).trans (me_lt he hb), rfl⟩)
theorem q_M_an {S : sg_T} {I J : Nat → Nat → Int32} {L : Nat → Nat → Int64} {Rf : Nat → Nat → Option Nat} {n : Nat} {v w : Int32} {a : an_T} (hM : MR_T I L S) (he : me_T I J) (ha : a = (v, S)) (hv : w = v) : q_M a.1 a.2 I L Rf n (some (vv_I w)) (J, L, Rf, n) := by
  rw [ha]
  exact q_M_of hv (MR_me hM he) (fun b hb => ⟨me_lt he hb, rfl⟩)
theorem q_M_ok {S2 : sg_T} {I J : Nat → Nat → Int32} {L M : Nat → Nat → Int64} {Rf : Nat → Nat → Option Nat} {n : Nat} {v w : Int32} {a : an_T} (ha : a = (v, S2)) (hv : w = v) (h : MR_T J M S2) (hf : ∀ a, a < 46 → J a = I a ∧ M a = L a) : q_M a.1 a.2 I L Rf n (some (vv_I w)) (J, M, Rf, n) := by
  rw [ha]
  exact q_M_of hv h hf
theorem c_X5_no (l : Launch) {I : Nat → Nat → Int32} {L : Nat → Nat → Int64} {Rf : Nat → Nat → Option Nat} {n : Nat} (W : wd_T Rf n) {r : Int32} {c : Nat} (hc : c < 8) (hr : -r = nI c) : wm_C l mX5_no 1 0 0 [vv_A (some 46), vv_I r] (I, L, Rf, n) (q_i (r) (mf_I I c, L, Rf, n)) := by
  refine wm_of (by decide) (Nat.le_of_ble_eq_true rfl) rfl ?_
  refine ra_0 oX5_no_0 ?_
  refine rr_gr (v := 47) oX5_no_1 (ff_X5_22 rfl) kk_46 (wd_lt W rfl) ⟨by decide, rfl⟩ (wd_r W rfl rfl) ?_
  refine ri_1 oX5_no_4 ?_
  refine rr_ineg oX5_no_5 ?_
  refine rr_dup2 oX5_no_6 rfl rfl ?_
  refine rr_ild (t := c) oX5_no_7 kk_47 (wd_lt W rfl) hr (by omega) (by decide) ?_
  refine rk_1 oX5_no_8 ?_
  refine rr_iadd oX5_no_9 ?_
  refine rr_ist (t := c) oX5_no_10 kk_47 (wd_lt W rfl) hr (by omega) (by decide) ?_
  refine ri_1 oX5_no_11 ?_
  exact rr_ireturn oX5_no_12 rfl rfl ⟨rfl, rfl⟩
theorem c_X5_noTen (l : Launch) {I : Nat → Nat → Int32} {L : Nat → Nat → Int64} {Rf : Nat → Nat → Option Nat} {n : Nat} (W : wd_T Rf n) {r : Int32} {c : Nat} (hc : c < 8) (hr : -r = nI c) : wm_C l mX5_noTen 1 0 0 [vv_A (some 46), vv_I r] (I, L, Rf, n) (q_i (r - 10) (mf_I I c, L, Rf, n)) := by
  refine wm_of (by decide) (Nat.le_of_ble_eq_true rfl) rfl ?_
  refine ra_0 oX5_noTen_0 ?_
  refine rr_gr (v := 47) oX5_noTen_1 (ff_X5_22 rfl) kk_46 (wd_lt W rfl) ⟨by decide, rfl⟩ (wd_r W rfl rfl) ?_
  refine ri_1 oX5_noTen_4 ?_
  refine rr_ineg oX5_noTen_5 ?_
  refine rr_dup2 oX5_noTen_6 rfl rfl ?_
  refine rr_ild (t := c) oX5_noTen_7 kk_47 (wd_lt W rfl) hr (by omega) (by decide) ?_
  refine rk_1 oX5_noTen_8 ?_
  refine rr_iadd oX5_noTen_9 ?_
  refine rr_ist (t := c) oX5_noTen_10 kk_47 (wd_lt W rfl) hr (by omega) (by decide) ?_
  refine ri_1 oX5_noTen_11 ?_
  refine rr_bipush (v := 10) oX5_noTen_12 (by decide) ?_
  refine rr_isub oX5_noTen_14 ?_
  exact rr_ireturn oX5_noTen_15 rfl rfl ⟨rfl, rfl⟩
theorem c_X5_noMuch (l : Launch) {I : Nat → Nat → Int32} {L : Nat → Nat → Int64} {Rf : Nat → Nat → Option Nat} {n : Nat} (W : wd_T Rf n) {r : Int32} {c : Nat} (hc : c < 8) (hr : -r = nI c) : wm_C l mX5_noMuch 1 0 0 [vv_A (some 46), vv_I r] (I, L, Rf, n) (q_i (r - 1000) (mf_I I c, L, Rf, n)) := by
  refine wm_of (by decide) (Nat.le_of_ble_eq_true rfl) rfl ?_
  refine ra_0 oX5_noMuch_0 ?_
  refine rr_gr (v := 47) oX5_noMuch_1 (ff_X5_22 rfl) kk_46 (wd_lt W rfl) ⟨by decide, rfl⟩ (wd_r W rfl rfl) ?_
  refine ri_1 oX5_noMuch_4 ?_
  refine rr_ineg oX5_noMuch_5 ?_
  refine rr_dup2 oX5_noMuch_6 rfl rfl ?_
  refine rr_ild (t := c) oX5_noMuch_7 kk_47 (wd_lt W rfl) hr (by omega) (by decide) ?_
  refine rk_1 oX5_noMuch_8 ?_
  refine rr_iadd oX5_noMuch_9 ?_
  refine rr_ist (t := c) oX5_noMuch_10 kk_47 (wd_lt W rfl) hr (by omega) (by decide) ?_
  refine ri_1 oX5_noMuch_11 ?_
  refine rr_sipush (v := 1000) oX5_noMuch_12 (by decide) ?_
  refine rr_isub oX5_noMuch_15 ?_
  exact rr_ireturn oX5_noMuch_16 rfl rfl ⟨rfl, rfl⟩
theorem c_X5_barred (l : Launch) {I : Nat → Nat → Int32} {L : Nat → Nat → Int64} {Rf : Nat → Nat → Option Nat} {n : Nat} {S : sg_T} (W : wd_T Rf n) (hM : MR_T I L S) (hI : IV_T S) {t : Int32} : wm_C l mX5_barred 2 0 0 [vv_A (some 46), vv_I t] (I, L, Rf, n) (q_i (s_lh S t t) (I, L, Rf, n)) := by
  refine wm_of (by decide) (Nat.le_of_ble_eq_true rfl) rfl ?_
  have hQ : mq_T I (z_G S) (b_dr (z_B S)) (b_sh (z_B S)) := mg_mq hM.1 hI.1
  have hG := hQ.1
  have h8 : g_n (z_G S) ≤ 8 := hI.1.1
  have hr : hr_T (z_G S) := hI.1.2.1
  refine ra_0 oX5_barred_0 ?_
  refine ri_1 oX5_barred_1 ?_
  refine rr_cVi (c_X5_isThing l W hQ) oX5_barred_2 (cv_X5_87 rfl) (by decide) kk_46 (by decide) hcn_5 (wd_lt W rfl) rfl rfl (Nat.le_of_ble_eq_true rfl) ?_
  refine rr_ifb_ne (tgt := 12) oX5_barred_5 (by decide) (fun c => ?_) (fun c => ?_)
  · obtain ⟨a, ha, rfl⟩ := ix_of c.1 c.2 (by omega)
    have exa : ix_N (nI a) = a := nI_clamp (by omega)
    refine ra_0 oX5_barred_12 ?_
    refine ri_1 oX5_barred_13 ?_
    refine rr_cVi (c_X5_isHouse l W hQ ha) oX5_barred_14 (cv_X5_91 rfl) (by decide) kk_46 (by decide) hcn_5 (wd_lt W rfl) rfl rfl (Nat.le_of_ble_eq_true rfl) ?_
    refine rr_ifb_eq (tgt := 24) oX5_barred_17 (by decide) (fun c1 => ?_) (fun c1 => ?_)
    · refine rr_bipush (v := (-2)) oX5_barred_24 (by decide) ?_
      exact rr_ireturn oX5_barred_26 rfl rfl (q_is (by rw [s_lh, if_neg (fun q => q ⟨c, c⟩), if_neg (fun q => c1 (by have := q.1; rw [hs_T, exa] at this; exact this))]))
    · refine rk_0 oX5_barred_20 ?_
      refine rr_goto (tgt := 26) oX5_barred_21 (by decide) ?_
      exact rr_ireturn oX5_barred_26 rfl rfl (q_is (by rw [s_lh, if_neg (fun q => q ⟨c, c⟩), if_pos ⟨by rw [hs_T, exa]; exact c1, by rw [hs_T, exa]; exact c1⟩]))
  · refine rk_m1 oX5_barred_8 ?_
    refine rr_goto (tgt := 26) oX5_barred_9 (by decide) ?_
    exact rr_ireturn oX5_barred_26 rfl rfl (q_is (by rw [s_lh, if_pos (fun q => c q.1)]))
theorem c_X5_barredTwo (l : Launch) {I : Nat → Nat → Int32} {L : Nat → Nat → Int64} {Rf : Nat → Nat → Option Nat} {n : Nat} {S : sg_T} (W : wd_T Rf n) (hM : MR_T I L S) (hI : IV_T S) {i j : Int32} : wm_C l mX5_barredTwo 2 0 0 [vv_A (some 46), vv_I i, vv_I j] (I, L, Rf, n) (q_i (s_lh S i j) (I, L, Rf, n)) := by
  refine wm_of (by decide) (Nat.le_of_ble_eq_true rfl) rfl ?_
  have hQ : mq_T I (z_G S) (b_dr (z_B S)) (b_sh (z_B S)) := mg_mq hM.1 hI.1
  have hG := hQ.1
  have h8 : g_n (z_G S) ≤ 8 := hI.1.1
  have hr : hr_T (z_G S) := hI.1.2.1
  refine ra_0 oX5_barredTwo_0 ?_
  refine ri_1 oX5_barredTwo_1 ?_
  refine rr_cVi (c_X5_isThing l W hQ) oX5_barredTwo_2 (cv_X5_87 rfl) (by decide) kk_46 (by decide) hcn_5 (wd_lt W rfl) rfl rfl (Nat.le_of_ble_eq_true rfl) ?_
  refine rr_ifb_eq (tgt := 16) oX5_barredTwo_5 (by decide) (fun c => ?_) (fun c => ?_)
  · refine rk_m1 oX5_barredTwo_16 ?_
    exact rr_ireturn oX5_barredTwo_17 rfl rfl (q_is (by rw [s_lh, if_pos (fun q => c q.1)]))
  · obtain ⟨a, ha, rfl⟩ := ix_of c.1 c.2 (by omega)
    have exa : ix_N (nI a) = a := nI_clamp (by omega)
    refine ra_0 oX5_barredTwo_8 ?_
    refine ri_2 oX5_barredTwo_9 ?_
    refine rr_cVi (c_X5_isThing l W hQ) oX5_barredTwo_10 (cv_X5_87 rfl) (by decide) kk_46 (by decide) hcn_5 (wd_lt W rfl) rfl rfl (Nat.le_of_ble_eq_true rfl) ?_
    refine rr_ifb_ne (tgt := 18) oX5_barredTwo_13 (by decide) (fun c1 => ?_) (fun c1 => ?_)
    · obtain ⟨b, hb, rfl⟩ := ix_of c1.1 c1.2 (by omega)
      have exb : ix_N (nI b) = b := nI_clamp (by omega)
      refine ra_0 oX5_barredTwo_18 ?_
      refine ri_1 oX5_barredTwo_19 ?_
      refine rr_cVi (c_X5_isHouse l W hQ ha) oX5_barredTwo_20 (cv_X5_91 rfl) (by decide) kk_46 (by decide) hcn_5 (wd_lt W rfl) rfl rfl (Nat.le_of_ble_eq_true rfl) ?_
      refine rr_ifb_eq (tgt := 38) oX5_barredTwo_23 (by decide) (fun c2 => ?_) (fun c2 => ?_)
      · refine rr_bipush (v := (-2)) oX5_barredTwo_38 (by decide) ?_
        exact rr_ireturn oX5_barredTwo_40 rfl rfl (q_is (by rw [s_lh, if_neg (fun q => q ⟨c, c1⟩), if_neg (fun q => c2 (by have := q.1; rw [hs_T, exa] at this; exact this))]))
      · refine ra_0 oX5_barredTwo_26 ?_
        refine ri_2 oX5_barredTwo_27 ?_
        refine rr_cVi (c_X5_isHouse l W hQ hb) oX5_barredTwo_28 (cv_X5_91 rfl) (by decide) kk_46 (by decide) hcn_5 (wd_lt W rfl) rfl rfl (Nat.le_of_ble_eq_true rfl) ?_
        refine rr_ifb_eq (tgt := 38) oX5_barredTwo_31 (by decide) (fun c3 => ?_) (fun c3 => ?_)
        · refine rr_bipush (v := (-2)) oX5_barredTwo_38 (by decide) ?_
          exact rr_ireturn oX5_barredTwo_40 rfl rfl (q_is (by rw [s_lh, if_neg (fun q => q ⟨c, c1⟩), if_neg (fun q => c3 (by have := q.2; rw [hs_T, exb] at this; exact this))]))
        · refine rk_0 oX5_barredTwo_34 ?_
          refine rr_goto (tgt := 40) oX5_barredTwo_35 (by decide) ?_
          exact rr_ireturn oX5_barredTwo_40 rfl rfl (q_is (by rw [s_lh, if_neg (fun q => q ⟨c, c1⟩), if_pos ⟨by rw [hs_T, exa]; exact c2, by rw [hs_T, exb]; exact c3⟩]))
    · refine rk_m1 oX5_barredTwo_16 ?_
      exact rr_ireturn oX5_barredTwo_17 rfl rfl (q_is (by rw [s_lh, if_pos (fun q => c1 q.2)]))
theorem c_X5_fault (l : Launch) {I : Nat → Nat → Int32} {L : Nat → Nat → Int64} {Rf : Nat → Nat → Option Nat} {n : Nat} {S : sg_T} (W : wd_T Rf n) (hM : MR_T I L S) (hI : IV_T S) : wm_C l mX5_fault 1 0 0 [vv_A (some 46)] (I, L, Rf, n) (q_i (z_fl S) (I, L, Rf, n)) := by
  refine wm_of (by decide) (Nat.le_of_ble_eq_true rfl) rfl ?_
  have hQ : mq_T I (z_G S) (b_dr (z_B S)) (b_sh (z_B S)) := mg_mq hM.1 hI.1
  have hG := hQ.1
  have h8 : g_n (z_G S) ≤ 8 := hI.1.1
  have hr : hr_T (z_G S) := hI.1.2.1
  refine ra_0 oX5_fault_0 ?_
  refine rr_giv oX5_fault_1 (ff_X5_19 rfl) kk_46 (wd_lt W rfl) ⟨by decide, rfl⟩ hM.2.2.2.2.1 ?_
  exact rr_ireturn oX5_fault_4 rfl rfl ⟨rfl, rfl⟩
theorem lk_of {G : gr_T} {a b : Nat} (ha : a < g_n G) (ha2 : is_H (g_k G a)) (hb : b < g_n G) (hb2 : is_H (g_k G b)) (h : ¬ a = b) : p_lk G b a = b_look G a b := by
  simp only [p_lk, ha, ha2, hb, hb2, decide_true, Bool.true_and]
  rw [show (a == b) = false from by simp [h]]
  simp
theorem se_of {G : gr_T} {dr : Nat → Bool} {sh : Nat → Nat → Bool} {a b : Nat} (ha : a < g_n G) (ha2 : is_H (g_k G a)) (hb : b < g_n G) (hb2 : is_H (g_k G b)) (h : ¬ a = b) : p_se G dr sh b a = true ↔ (b_look G a b = true ∧ dr a = false ∧ sh b a = false) := by
  rw [p_se, lk_of ha ha2 hb hb2 h]
  cases b_look G a b <;> cases dr a <;> cases sh b a <;> simp
theorem no_lh2 {S : sg_T} {i j : Int32} (h : ¬ s_lh S i j = 0) : no_c (s_lh S i j) < 8 ∧ -(s_lh S i j) = nI (no_c (s_lh S i j)) := no_lh h
theorem in_01 {w : Int32} (h0 : 0 ≤ w) (h1 : w ≤ 1) : ¬ (¬ w = 0 ∧ ¬ w = 1) := by
  have g0 := Int32.le_iff_toInt_le.mp h0
  have g1 := Int32.le_iff_toInt_le.mp h1
  rw [show (0 : Int32).toInt = 0 by decide] at g0
  rw [show (1 : Int32).toInt = 1 by decide] at g1
  rintro ⟨a, b⟩
  have : w.toInt = 0 ∨ w.toInt = 1 := by omega
  rcases this with q | q
  · exact a (Int32.toInt_inj.mp (by rw [q]; decide))
  · exact b (Int32.toInt_inj.mp (by rw [q]; decide))
theorem c_X5_sees (l : Launch) {I : Nat → Nat → Int32} {L : Nat → Nat → Int64} {Rf : Nat → Nat → Option Nat} {n : Nat} {S : sg_T} (W : wd_T Rf n) (hM : MR_T I L S) (hI : IV_T S) {i j w : Int32} : wm_C l mX5_sees 15 0 0 [vv_A (some 46), vv_I i, vv_I j, vv_I w] (I, L, Rf, n) (q_M (f_sees S i j w).1 (f_sees S i j w).2 I L Rf n) := by
  refine wm_of (by decide) (Nat.le_of_ble_eq_true rfl) rfl ?_
  have hQ : mq_T I (z_G S) (b_dr (z_B S)) (b_sh (z_B S)) := mg_mq hM.1 hI.1
  have hG := hQ.1
  have h8 : g_n (z_G S) ≤ 8 := hI.1.1
  have hr : hr_T (z_G S) := hI.1.2.1
  refine ra_0 oX5_sees_0 ?_
  refine ri_1 oX5_sees_1 ?_
  refine ri_2 oX5_sees_2 ?_
  refine rr_cVi (c_X5_barredTwo l W hM hI) oX5_sees_3 (cv_X5_124 rfl) (by decide) kk_46 (by decide) hcn_5 (wd_lt W rfl) rfl rfl (Nat.le_of_ble_eq_true rfl) ?_
  refine si_4 oX5_sees_6 rfl rfl ?_
  refine ri_4 oX5_sees_8 ?_
  refine rr_if_ne (tgt := 26) oX5_sees_10 (by decide) (fun c => ?_) (fun c => ?_)
  · have hno := no_lh c
    refine ri_4 oX5_sees_26 ?_
    refine rr_if_ne (tgt := 40) oX5_sees_28 (by decide) (fun c9 => ?_) (fun c9 => ?_)
    rotate_left
    · exact absurd c9 c
    refine ri_4 oX5_sees_40 ?_
    refine rr_if_eq (tgt := 52) oX5_sees_42 (by decide) (fun c9 => ?_) (fun c9 => ?_)
    · exact absurd c9 c
    refine ra_0 oX5_sees_45 ?_
    refine ri_4 oX5_sees_46 ?_
    refine rr_cVi (c_X5_no l W hno.1 hno.2) oX5_sees_48 (cv_X5_97 rfl) (by decide) kk_46 (by decide) hcn_5 (wd_lt W rfl) rfl rfl (Nat.le_of_ble_eq_true rfl) ?_
    exact rr_ireturn oX5_sees_51 rfl rfl (q_M_nov hM me_rf (by rw [f_sees, if_pos c]) hno.1)
  · refine ri_3 oX5_sees_13 ?_
    refine rr_if_lt (tgt := 22) oX5_sees_14 (by decide) (fun c1 => ?_) (fun c1 => ?_)
    · have hw : ¬ w = 0 ∧ ¬ w = 1 := ⟨fun e => by rw [e] at c1; exact absurd c1 (by decide), fun e => by rw [e] at c1; exact absurd c1 (by decide)⟩
      refine rr_bipush (v := (-5)) oX5_sees_22 (by decide) ?_
      refine si_4 oX5_sees_24 rfl rfl ?_
      refine ri_4 oX5_sees_26 ?_
      refine rr_if_ne (tgt := 40) oX5_sees_28 (by decide) (fun _ => ?_) (fun q => absurd q (by decide))
      refine ri_4 oX5_sees_40 ?_
      refine rr_if_eq (tgt := 52) oX5_sees_42 (by decide) (fun q => absurd q (by decide)) (fun _ => ?_)
      refine ra_0 oX5_sees_45 ?_
      refine ri_4 oX5_sees_46 ?_
      refine rr_cVi (c_X5_no l W (c := 5) (by decide) (by decide)) oX5_sees_48 (cv_X5_97 rfl) (by decide) kk_46 (by decide) hcn_5 (wd_lt W rfl) rfl rfl (Nat.le_of_ble_eq_true rfl) ?_
      exact rr_ireturn oX5_sees_51 rfl rfl (q_M_noc hM me_rf (by rw [f_sees, if_neg (fun q => q c), if_pos hw]) (by decide) (by decide))
    · refine ri_3 oX5_sees_17 ?_
      refine rk_1 oX5_sees_18 ?_
      refine rr_icmp_le (tgt := 26) oX5_sees_19 (by decide) (fun c2 => ?_) (fun c2 => ?_)
      · have hw : ¬ (¬ w = 0 ∧ ¬ w = 1) := in_01 (Int32.not_lt.mp c1) c2
        refine ri_4 oX5_sees_26 ?_
        refine rr_if_ne (tgt := 40) oX5_sees_28 (by decide) (fun c9 => ?_) (fun c9 => ?_)
        · exact absurd c c9
        refine ri_1 oX5_sees_31 ?_
        refine ri_2 oX5_sees_32 ?_
        refine rr_icmp_ne (tgt := 40) oX5_sees_33 (by decide) (fun c3 => ?_) (fun c3 => ?_)
        · obtain ⟨a, b, ⟨ha, rfl, ha2⟩, ⟨hb, rfl, hb2⟩⟩ := s_lh_0 h8 c
          have exa : ix_N (nI a) = a := nI_clamp (by omega)
          have exb : ix_N (nI b) = b := nI_clamp (by omega)
          have hab : ¬ a = b := fun e => c3 (by rw [e])
          refine ri_4 oX5_sees_40 ?_
          refine rr_if_eq (tgt := 52) oX5_sees_42 (by decide) (fun c9 => ?_) (fun c9 => ?_)
          rotate_left
          · exact absurd c c9
          refine ri_3 oX5_sees_52 ?_
          refine rr_if_ne (tgt := 68) oX5_sees_53 (by decide) (fun c4 => ?_) (fun c4 => ?_)
          · refine ra_0 oX5_sees_68 ?_
            refine ri_1 oX5_sees_69 ?_
            refine ri_2 oX5_sees_70 ?_
            refine rr_cVi (c_X5_isSeen l W hQ ha hb (hr a ha ha2).1 (hr b hb hb2).1) oX5_sees_71 (cv_X5_201 rfl) (by decide) kk_46 (by decide) hcn_5 (wd_lt W rfl) rfl rfl (Nat.le_of_ble_eq_true rfl) ?_
            refine rr_ifb_eq (tgt := 81) oX5_sees_74 (by decide) (fun c6 => ?_) (fun c6 => ?_)
            · refine rk_0 oX5_sees_81 ?_
              exact rr_ireturn oX5_sees_82 rfl rfl (q_M_an hM me_rf (by rw [f_sees, if_neg (fun q => q c), if_neg hw, if_neg c3, if_neg c4, exa, exb]) (bI_f (by rw [se_of ha ha2 hb hb2 hab]; exact c6)).symm)
            · refine rk_1 oX5_sees_77 ?_
              refine rr_goto (tgt := 82) oX5_sees_78 (by decide) ?_
              exact rr_ireturn oX5_sees_82 rfl rfl (q_M_an hM me_rf (by rw [f_sees, if_neg (fun q => q c), if_neg hw, if_neg c3, if_neg c4, exa, exb]) (bI_t (by rw [se_of ha ha2 hb hb2 hab]; exact c6)).symm)
          · refine ra_0 oX5_sees_56 ?_
            refine ri_1 oX5_sees_57 ?_
            refine ri_2 oX5_sees_58 ?_
            refine rr_cVi (c_X5_looks l W hQ ha hb (hr a ha ha2).1 (hr b hb hb2).1) oX5_sees_59 (cv_X5_198 rfl) (by decide) kk_46 (by decide) hcn_5 (wd_lt W rfl) rfl rfl (Nat.le_of_ble_eq_true rfl) ?_
            refine rr_ifb_eq (tgt := 81) oX5_sees_62 (by decide) (fun c5 => ?_) (fun c5 => ?_)
            · refine rk_0 oX5_sees_81 ?_
              exact rr_ireturn oX5_sees_82 rfl rfl (q_M_an hM me_rf (by rw [f_sees, if_neg (fun q => q c), if_neg hw, if_neg c3, if_pos c4, exa, exb]) (bI_f (by rw [lk_of ha ha2 hb hb2 hab]; exact c5)).symm)
            · refine rr_goto (tgt := 77) oX5_sees_65 (by decide) ?_
              refine rk_1 oX5_sees_77 ?_
              refine rr_goto (tgt := 82) oX5_sees_78 (by decide) ?_
              exact rr_ireturn oX5_sees_82 rfl rfl (q_M_an hM me_rf (by rw [f_sees, if_neg (fun q => q c), if_neg hw, if_neg c3, if_pos c4, exa, exb]) (bI_t (by rw [lk_of ha ha2 hb hb2 hab]; exact c5)).symm)
        · refine rr_bipush (v := (-6)) oX5_sees_36 (by decide) ?_
          refine si_4 oX5_sees_38 rfl rfl ?_
          refine ri_4 oX5_sees_40 ?_
          refine rr_if_eq (tgt := 52) oX5_sees_42 (by decide) (fun q => absurd q (by decide)) (fun _ => ?_)
          refine ra_0 oX5_sees_45 ?_
          refine ri_4 oX5_sees_46 ?_
          refine rr_cVi (c_X5_no l W (c := 6) (by decide) (by decide)) oX5_sees_48 (cv_X5_97 rfl) (by decide) kk_46 (by decide) hcn_5 (wd_lt W rfl) rfl rfl (Nat.le_of_ble_eq_true rfl) ?_
          exact rr_ireturn oX5_sees_51 rfl rfl (q_M_noc hM me_rf (by rw [f_sees, if_neg (fun q => q c), if_neg hw, if_pos c3]) (by decide) (by decide))
      · have hw : ¬ w = 0 ∧ ¬ w = 1 := ⟨fun e => by rw [e] at c2; exact c2 (by decide), fun e => by rw [e] at c2; exact c2 (by decide)⟩
        refine rr_bipush (v := (-5)) oX5_sees_22 (by decide) ?_
        refine si_4 oX5_sees_24 rfl rfl ?_
        refine ri_4 oX5_sees_26 ?_
        refine rr_if_ne (tgt := 40) oX5_sees_28 (by decide) (fun _ => ?_) (fun q => absurd q (by decide))
        refine ri_4 oX5_sees_40 ?_
        refine rr_if_eq (tgt := 52) oX5_sees_42 (by decide) (fun q => absurd q (by decide)) (fun _ => ?_)
        refine ra_0 oX5_sees_45 ?_
        refine ri_4 oX5_sees_46 ?_
        refine rr_cVi (c_X5_no l W (c := 5) (by decide) (by decide)) oX5_sees_48 (cv_X5_97 rfl) (by decide) kk_46 (by decide) hcn_5 (wd_lt W rfl) rfl rfl (Nat.le_of_ble_eq_true rfl) ?_
        exact rr_ireturn oX5_sees_51 rfl rfl (q_M_noc hM me_rf (by rw [f_sees, if_neg (fun q => q c), if_pos hw]) (by decide) (by decide))
theorem c_X5_bars (l : Launch) {I : Nat → Nat → Int32} {L : Nat → Nat → Int64} {Rf : Nat → Nat → Option Nat} {n : Nat} {S : sg_T} (W : wd_T Rf n) (hM : MR_T I L S) (hI : IV_T S) {i j : Int32} : wm_C l mX5_bars 13 0 0 [vv_A (some 46), vv_I i, vv_I j] (I, L, Rf, n) (q_M (f_bars S i j).1 (f_bars S i j).2 I L Rf n) := by
  refine wm_of (by decide) (Nat.le_of_ble_eq_true rfl) rfl ?_
  have hQ : mq_T I (z_G S) (b_dr (z_B S)) (b_sh (z_B S)) := mg_mq hM.1 hI.1
  have hG := hQ.1
  have h8 : g_n (z_G S) ≤ 8 := hI.1.1
  have hr : hr_T (z_G S) := hI.1.2.1
  refine ra_0 oX5_bars_0 ?_
  refine ri_1 oX5_bars_1 ?_
  refine ri_2 oX5_bars_2 ?_
  refine rr_cVi (c_X5_barredTwo l W hM hI) oX5_bars_3 (cv_X5_124 rfl) (by decide) kk_46 (by decide) hcn_5 (wd_lt W rfl) rfl rfl (Nat.le_of_ble_eq_true rfl) ?_
  refine si_3 oX5_bars_6 rfl rfl ?_
  refine ri_3 oX5_bars_7 ?_
  refine rr_if_ne (tgt := 19) oX5_bars_8 (by decide) (fun c => ?_) (fun c => ?_)
  · have hno := no_lh c
    have els : s_ls S i j = s_lh S i j := by rw [s_ls, if_neg (fun q => c q.1)]
    refine ri_3 oX5_bars_19 ?_
    refine rr_if_eq (tgt := 31) oX5_bars_20 (by decide) (fun c9 => ?_) (fun c9 => ?_)
    · exact absurd c9 c
    refine ra_0 oX5_bars_23 ?_
    refine ri_3 oX5_bars_24 ?_
    refine rr_cVi (c_X5_noTen l W hno.1 hno.2) oX5_bars_25 (cv_X5_207 rfl) (by decide) kk_46 (by decide) hcn_5 (wd_lt W rfl) rfl rfl (Nat.le_of_ble_eq_true rfl) ?_
    refine rr_goto (tgt := 37) oX5_bars_28 (by decide) ?_
    exact rr_ireturn oX5_bars_37 rfl rfl (q_M_nod (r := s_lh S i j) hM me_rf (by rw [f_bars, els, if_pos c]) hno.1)
  · refine ri_1 oX5_bars_11 ?_
    refine ri_2 oX5_bars_12 ?_
    refine rr_icmp_ne (tgt := 19) oX5_bars_13 (by decide) (fun c1 => ?_) (fun c1 => ?_)
    · have els : s_ls S i j = 0 := by rw [s_ls, if_neg (fun q => c1 q.2)]; exact c
      obtain ⟨a, b, ⟨ha, rfl, ha2⟩, ⟨hb, rfl, hb2⟩⟩ := s_lh_0 h8 c
      have exa : ix_N (nI a) = a := nI_clamp (by omega)
      have exb : ix_N (nI b) = b := nI_clamp (by omega)
      refine ri_3 oX5_bars_19 ?_
      refine rr_if_eq (tgt := 31) oX5_bars_20 (by decide) (fun c9 => ?_) (fun c9 => ?_)
      rotate_left
      · exact absurd c c9
      refine ra_0 oX5_bars_31 ?_
      refine ri_1 oX5_bars_32 ?_
      refine ri_2 oX5_bars_33 ?_
      refine rr_cVi (c_X5_inWay l W hQ ha hb (hr a ha ha2).1 (hr b hb hb2).1) oX5_bars_34 (cv_X5_195 rfl) (by decide) kk_46 (by decide) hcn_5 (wd_lt W rfl) rfl rfl (Nat.le_of_ble_eq_true rfl) ?_
      exact rr_ireturn oX5_bars_37 rfl rfl (q_M_an hM me_rf (by rw [f_bars, els, if_neg (by decide), exa, exb]) rfl)
    · have els : s_ls S i j = -6 := by rw [s_ls, if_pos ⟨c, c1⟩]
      refine rr_bipush (v := (-6)) oX5_bars_16 (by decide) ?_
      refine si_3 oX5_bars_18 rfl rfl ?_
      refine ri_3 oX5_bars_19 ?_
      refine rr_if_eq (tgt := 31) oX5_bars_20 (by decide) (fun q => absurd q (by decide)) (fun _ => ?_)
      refine ra_0 oX5_bars_23 ?_
      refine ri_3 oX5_bars_24 ?_
      refine rr_cVi (c_X5_noTen l W (c := 6) (by decide) (by decide)) oX5_bars_25 (cv_X5_207 rfl) (by decide) kk_46 (by decide) hcn_5 (wd_lt W rfl) rfl rfl (Nat.le_of_ble_eq_true rfl) ?_
      refine rr_goto (tgt := 37) oX5_bars_28 (by decide) ?_
      exact rr_ireturn oX5_bars_37 rfl rfl (q_M_nod (r := -6) hM me_rf (by rw [f_bars, els, if_pos (by decide)]) (by decide))
theorem c_X5_cost (l : Launch) {I : Nat → Nat → Int32} {L : Nat → Nat → Int64} {Rf : Nat → Nat → Option Nat} {n : Nat} {S : sg_T} (W : wd_T Rf n) (hM : MR_T I L S) (hI : IV_T S) {i j : Int32} : wm_C l mX5_cost 4 0 0 [vv_A (some 46), vv_I i, vv_I j] (I, L, Rf, n) (q_M (f_cost S i j).1 (f_cost S i j).2 I L Rf n) := by
  refine wm_of (by decide) (Nat.le_of_ble_eq_true rfl) rfl ?_
  have hQ : mq_T I (z_G S) (b_dr (z_B S)) (b_sh (z_B S)) := mg_mq hM.1 hI.1
  have hG := hQ.1
  have h8 : g_n (z_G S) ≤ 8 := hI.1.1
  have hr : hr_T (z_G S) := hI.1.2.1
  refine ra_0 oX5_cost_0 ?_
  refine ri_1 oX5_cost_1 ?_
  refine ri_2 oX5_cost_2 ?_
  refine rr_cVi (c_X5_barredTwo l W hM hI) oX5_cost_3 (cv_X5_124 rfl) (by decide) kk_46 (by decide) hcn_5 (wd_lt W rfl) rfl rfl (Nat.le_of_ble_eq_true rfl) ?_
  refine si_3 oX5_cost_6 rfl rfl ?_
  refine ri_3 oX5_cost_7 ?_
  refine rr_if_ne (tgt := 19) oX5_cost_8 (by decide) (fun c => ?_) (fun c => ?_)
  · have hno := no_lh c
    have els : s_ls S i j = s_lh S i j := by rw [s_ls, if_neg (fun q => c q.1)]
    refine ri_3 oX5_cost_19 ?_
    refine rr_if_eq (tgt := 31) oX5_cost_20 (by decide) (fun c9 => ?_) (fun c9 => ?_)
    · exact absurd c9 c
    refine ra_0 oX5_cost_23 ?_
    refine ri_3 oX5_cost_24 ?_
    refine rr_cVi (c_X5_no l W hno.1 hno.2) oX5_cost_25 (cv_X5_97 rfl) (by decide) kk_46 (by decide) hcn_5 (wd_lt W rfl) rfl rfl (Nat.le_of_ble_eq_true rfl) ?_
    refine rr_goto (tgt := 37) oX5_cost_28 (by decide) ?_
    exact rr_ireturn oX5_cost_37 rfl rfl (q_M_nov hM me_rf (by rw [f_cost, els, if_pos c]) hno.1)
  · refine ri_1 oX5_cost_11 ?_
    refine ri_2 oX5_cost_12 ?_
    refine rr_icmp_ne (tgt := 19) oX5_cost_13 (by decide) (fun c1 => ?_) (fun c1 => ?_)
    · have els : s_ls S i j = 0 := by rw [s_ls, if_neg (fun q => c1 q.2)]; exact c
      obtain ⟨a, b, ⟨ha, rfl, ha2⟩, ⟨hb, rfl, hb2⟩⟩ := s_lh_0 h8 c
      have exa : ix_N (nI a) = a := nI_clamp (by omega)
      have exb : ix_N (nI b) = b := nI_clamp (by omega)
      refine ri_3 oX5_cost_19 ?_
      refine rr_if_eq (tgt := 31) oX5_cost_20 (by decide) (fun c9 => ?_) (fun c9 => ?_)
      rotate_left
      · exact absurd c c9
      refine ra_0 oX5_cost_31 ?_
      refine ri_1 oX5_cost_32 ?_
      refine ri_2 oX5_cost_33 ?_
      refine rr_cVi (c_X5_costOf l W hQ ha hb) oX5_cost_34 (cv_X5_213 rfl) (by decide) kk_46 (by decide) hcn_5 (wd_lt W rfl) rfl rfl (Nat.le_of_ble_eq_true rfl) ?_
      exact rr_ireturn oX5_cost_37 rfl rfl (q_M_an hM me_rf (by rw [f_cost, els, if_neg (by decide), exa, exb]) rfl)
    · have els : s_ls S i j = -6 := by rw [s_ls, if_pos ⟨c, c1⟩]
      refine rr_bipush (v := (-6)) oX5_cost_16 (by decide) ?_
      refine si_3 oX5_cost_18 rfl rfl ?_
      refine ri_3 oX5_cost_19 ?_
      refine rr_if_eq (tgt := 31) oX5_cost_20 (by decide) (fun q => absurd q (by decide)) (fun _ => ?_)
      refine ra_0 oX5_cost_23 ?_
      refine ri_3 oX5_cost_24 ?_
      refine rr_cVi (c_X5_no l W (c := 6) (by decide) (by decide)) oX5_cost_25 (cv_X5_97 rfl) (by decide) kk_46 (by decide) hcn_5 (wd_lt W rfl) rfl rfl (Nat.le_of_ble_eq_true rfl) ?_
      refine rr_goto (tgt := 37) oX5_cost_28 (by decide) ?_
      exact rr_ireturn oX5_cost_37 rfl rfl (q_M_noc hM me_rf (by rw [f_cost, els, if_pos (by decide)]) (by decide) (by decide))
theorem c_X5_seers (l : Launch) {I : Nat → Nat → Int32} {L : Nat → Nat → Int64} {Rf : Nat → Nat → Option Nat} {n : Nat} {S : sg_T} (W : wd_T Rf n) (hM : MR_T I L S) (hI : IV_T S) {t : Int32} : wm_C l mX5_seers 17 0 0 [vv_A (some 46), vv_I t] (I, L, Rf, n) (q_M (f_seers S t).1 (f_seers S t).2 I L Rf n) := by
  refine wm_of (by decide) (Nat.le_of_ble_eq_true rfl) rfl ?_
  have hQ : mq_T I (z_G S) (b_dr (z_B S)) (b_sh (z_B S)) := mg_mq hM.1 hI.1
  have hG := hQ.1
  have h8 : g_n (z_G S) ≤ 8 := hI.1.1
  have hr : hr_T (z_G S) := hI.1.2.1
  refine ra_0 oX5_seers_0 ?_
  refine ri_1 oX5_seers_1 ?_
  refine rr_cVi (c_X5_barred l W hM hI) oX5_seers_2 (cv_X5_127 rfl) (by decide) kk_46 (by decide) hcn_5 (wd_lt W rfl) rfl rfl (Nat.le_of_ble_eq_true rfl) ?_
  refine si_2 oX5_seers_5 rfl rfl ?_
  refine ri_2 oX5_seers_6 ?_
  refine rr_if_eq (tgt := 18) oX5_seers_7 (by decide) (fun c => ?_) (fun c => ?_)
  · obtain ⟨a, b, ⟨ha, rfl, ha2⟩, ⟨hb, e2, hb2⟩⟩ := s_lh_0 h8 c
    have exa : ix_N (nI a) = a := nI_clamp (by omega)
    refine ra_0 oX5_seers_18 ?_
    refine ri_1 oX5_seers_19 ?_
    refine rr_cVi (c_X5_seersOf l W hQ ha ha2) oX5_seers_20 (cv_X5_104 rfl) (by decide) kk_46 (by decide) hcn_5 (wd_lt W rfl) rfl rfl (Nat.le_of_ble_eq_true rfl) ?_
    exact rr_ireturn oX5_seers_23 rfl rfl (q_M_an hM me_rf (by rw [f_seers, if_neg (fun q => q c), exa]) rfl)
  · have hno := no_lh c
    refine ra_0 oX5_seers_10 ?_
    refine ri_2 oX5_seers_11 ?_
    refine rr_cVi (c_X5_no l W hno.1 hno.2) oX5_seers_12 (cv_X5_97 rfl) (by decide) kk_46 (by decide) hcn_5 (wd_lt W rfl) rfl rfl (Nat.le_of_ble_eq_true rfl) ?_
    refine rr_goto (tgt := 23) oX5_seers_15 (by decide) ?_
    exact rr_ireturn oX5_seers_23 rfl rfl (q_M_nov hM me_rf (by rw [f_seers, if_pos c]) hno.1)
theorem c_X5_keeps (l : Launch) {I : Nat → Nat → Int32} {L : Nat → Nat → Int64} {Rf : Nat → Nat → Option Nat} {n : Nat} {S : sg_T} (W : wd_T Rf n) (hM : MR_T I L S) (hI : IV_T S) {t : Int32} : wm_C l mX5_keeps 18 0 0 [vv_A (some 46), vv_I t] (I, L, Rf, n) (q_M (f_keeps S t).1 (f_keeps S t).2 I L Rf n) := by
  refine wm_of (by decide) (Nat.le_of_ble_eq_true rfl) rfl ?_
  have hQ : mq_T I (z_G S) (b_dr (z_B S)) (b_sh (z_B S)) := mg_mq hM.1 hI.1
  have hG := hQ.1
  have h8 : g_n (z_G S) ≤ 8 := hI.1.1
  have hr : hr_T (z_G S) := hI.1.2.1
  refine ra_0 oX5_keeps_0 ?_
  refine ri_1 oX5_keeps_1 ?_
  refine rr_cVi (c_X5_barred l W hM hI) oX5_keeps_2 (cv_X5_127 rfl) (by decide) kk_46 (by decide) hcn_5 (wd_lt W rfl) rfl rfl (Nat.le_of_ble_eq_true rfl) ?_
  refine si_2 oX5_keeps_5 rfl rfl ?_
  refine ri_2 oX5_keeps_6 ?_
  refine rr_if_eq (tgt := 18) oX5_keeps_7 (by decide) (fun c => ?_) (fun c => ?_)
  · obtain ⟨a, b, ⟨ha, rfl, ha2⟩, ⟨hb, e2, hb2⟩⟩ := s_lh_0 h8 c
    have exa : ix_N (nI a) = a := nI_clamp (by omega)
    refine ra_0 oX5_keeps_18 ?_
    refine ri_1 oX5_keeps_19 ?_
    refine rr_cVi (c_X5_keptOf l W hQ ha ha2) oX5_keeps_20 (cv_X5_216 rfl) (by decide) kk_46 (by decide) hcn_5 (wd_lt W rfl) rfl rfl (Nat.le_of_ble_eq_true rfl) ?_
    exact rr_ireturn oX5_keeps_23 rfl rfl (q_M_an hM me_rf (by rw [f_keeps, if_neg (fun q => q c), exa]) rfl)
  · have hno := no_lh c
    refine ra_0 oX5_keeps_10 ?_
    refine ri_2 oX5_keeps_11 ?_
    refine rr_cVi (c_X5_noTen l W hno.1 hno.2) oX5_keeps_12 (cv_X5_207 rfl) (by decide) kk_46 (by decide) hcn_5 (wd_lt W rfl) rfl rfl (Nat.le_of_ble_eq_true rfl) ?_
    refine rr_goto (tgt := 23) oX5_keeps_15 (by decide) ?_
    exact rr_ireturn oX5_keeps_23 rfl rfl (q_M_nod hM me_rf (by rw [f_keeps, if_pos c]) hno.1)
theorem c_X5_right (l : Launch) {I : Nat → Nat → Int32} {L : Nat → Nat → Int64} {Rf : Nat → Nat → Option Nat} {n : Nat} {S : sg_T} (W : wd_T Rf n) (hM : MR_T I L S) (hI : IV_T S) : wm_C l mX5_right 19 0 0 [vv_A (some 46)] (I, L, Rf, n) (q_M (f_right S).1 (f_right S).2 I L Rf n) := by
  refine wm_of (by decide) (Nat.le_of_ble_eq_true rfl) rfl ?_
  have hQ : mq_T I (z_G S) (b_dr (z_B S)) (b_sh (z_B S)) := mg_mq hM.1 hI.1
  have hG := hQ.1
  have h8 : g_n (z_G S) ≤ 8 := hI.1.1
  have hr : hr_T (z_G S) := hI.1.2.1
  refine ra_0 oX5_right_0 ?_
  refine rr_cVi (c_X5_allRight l W hQ) oX5_right_1 (cv_X5_210 rfl) (by decide) kk_46 (by decide) hcn_5 (wd_lt W rfl) rfl rfl (Nat.le_of_ble_eq_true rfl) ?_
  exact rr_ireturn oX5_right_4 rfl rfl (q_M_an hM me_rf rfl rfl)
theorem q_M_rf {v w : Int32} {S : sg_T} {I : Nat → Nat → Int32} {L : Nat → Nat → Int64} {Rf : Nat → Nat → Option Nat} {n : Nat} (hM : MR_T I L S) (hv : w = v) : q_M v S I L Rf n (some (vv_I w)) (I, L, Rf, n) := q_M_of hv hM (fun _ _ => ⟨rfl, rfl⟩)
theorem fo_ext {p : Nat → Bool} : ∀ m k t, (∀ i, t + m ≤ i → i < t + m + k → p i = false) → fo_N p (m + k) t = fo_N p m t := by
  intro m
  induction m with
  | zero =>
    intro k
    induction k with
    | zero => intro t _; rfl
    | succ k ih =>
      intro t h
      show fo_N p (0 + k + 1) t = none
      unfold fo_N
      rw [if_neg (by rw [h t (by omega) (by omega)]; decide)]
      exact ih (t + 1) (fun i h1 h2 => h i (by omega) (by omega))
  | succ m ih =>
    intro k t h
    rw [show m + 1 + k = (m + k) + 1 by omega]
    unfold fo_N
    rw [ih k (t + 1) (fun i h1 h2 => h i (by omega) (by omega))]
theorem fo_8 {p : Nat → Bool} {n : Nat} (h8 : n ≤ 8) (h : ∀ i, n ≤ i → p i = false) : fo_N p 8 0 = fo_N p n 0 := by
  have := fo_ext (p := p) n (8 - n) 0 (fun i h1 _ => h i (by omega))
  rw [show n + (8 - n) = 8 by omega] at this
  exact this
theorem lp_X5_first (l : Launch) {I : Nat → Nat → Int32} {L : Nat → Nat → Int64} {Rf : Nat → Nat → Option Nat} {n : Nat} {S : sg_T} (W : wd_T Rf n) (hM : MR_T I L S) (hI : IV_T S) : ∀ m t, t + m = g_n (z_G S) → wm_W l mX5_first 19 0 0 7 [vv_A (some 46), vv_I (st_S (q_ri S)), vv_I (nI t)] [] (I, L, Rf, n) (q_M (oI (fo_N (fun i => p_h (z_G S) i && !q_ri S i) m t)) S I L Rf n) := by
  intro m
  induction m with
  | zero =>
    intro t ht
    have hQ : mq_T I (z_G S) (b_dr (z_B S)) (b_sh (z_B S)) := mg_mq hM.1 hI.1
    have hG := hQ.1
    have h8 : g_n (z_G S) ≤ 8 := hI.1.1
    have hr : hr_T (z_G S) := hI.1.2.1
    refine ri_2 oX5_first_7 ?_
    refine ra_0 oX5_first_8 ?_
    refine rr_giv oX5_first_9 (ff_X5_84 rfl) kk_46 (wd_lt W rfl) ⟨by decide, rfl⟩ (mv_c hG) ?_
    refine rr_icmp_ge (tgt := 39) oX5_first_12 (by decide) (fun c => ?_) (fun c => ?_)
    rotate_left
    · exact absurd c (by rw [nI_le_iff (by omega) (by omega)]; omega)
    refine rk_m1 oX5_first_39 ?_
    exact rr_ireturn oX5_first_40 rfl rfl (q_M_rf hM rfl)
  | succ m ih =>
    intro t ht
    have hQ : mq_T I (z_G S) (b_dr (z_B S)) (b_sh (z_B S)) := mg_mq hM.1 hI.1
    have hG := hQ.1
    have h8 : g_n (z_G S) ≤ 8 := hI.1.1
    have hr : hr_T (z_G S) := hI.1.2.1
    refine ri_2 oX5_first_7 ?_
    refine ra_0 oX5_first_8 ?_
    refine rr_giv oX5_first_9 (ff_X5_84 rfl) kk_46 (wd_lt W rfl) ⟨by decide, rfl⟩ (mv_c hG) ?_
    refine rr_icmp_ge (tgt := 39) oX5_first_12 (by decide) (fun c => ?_) (fun c => ?_)
    · (rw [nI_le_iff (by omega) (by omega)] at c; omega)
    refine ra_0 oX5_first_15 ?_
    refine ri_2 oX5_first_16 ?_
    refine rr_cVi (c_X5_isHouse l W hQ (by omega)) oX5_first_17 (cv_X5_91 rfl) (by decide) kk_46 (by decide) hcn_5 (wd_lt W rfl) rfl rfl (Nat.le_of_ble_eq_true rfl) ?_
    refine rr_ifb_eq (tgt := 33) oX5_first_20 (by decide) (fun c1 => ?_) (fun c1 => ?_)
    · refine rn_2 oX5_first_33 rfl rfl ?_
      refine rr_goto (tgt := 7) oX5_first_36 (by decide) ?_
      simp only [fo_N]
      rw [if_neg (by simp [p_h, c1])]
      exact ih (t + 1) (by omega)
    · refine ri_1 oX5_first_23 ?_
      refine ri_2 oX5_first_24 ?_
      refine rr_ishr oX5_first_25 ?_
      refine rk_1 oX5_first_26 ?_
      refine rr_iand oX5_first_27 ?_
      rw [st_sh (by omega)]
      by_cases hp : q_ri S t = true
      · rw [if_pos hp]
        refine rr_if_ne (tgt := 33) oX5_first_28 (by decide) (fun c2 => ?_) (fun c2 => ?_)
        rotate_left
        · exact absurd c2 (by decide)
        refine rn_2 oX5_first_33 rfl rfl ?_
        refine rr_goto (tgt := 7) oX5_first_36 (by decide) ?_
        simp only [fo_N]
        rw [if_neg (by simp [hp])]
        exact ih (t + 1) (by omega)
      · rw [if_neg hp]
        refine rr_if_ne (tgt := 33) oX5_first_28 (by decide) (fun c2 => ?_) (fun c2 => ?_)
        · exact absurd rfl c2
        refine ri_2 oX5_first_31 ?_
        exact rr_ireturn oX5_first_32 rfl rfl (q_M_rf hM (by simp only [fo_N]; rw [if_pos (by simp only [p_h, show t < g_n (z_G S) by omega, c1, decide_true, Bool.true_and, Bool.not_eq_true']; simpa using hp)]; rfl))
theorem c_X5_first (l : Launch) {I : Nat → Nat → Int32} {L : Nat → Nat → Int64} {Rf : Nat → Nat → Option Nat} {n : Nat} {S : sg_T} (W : wd_T Rf n) (hM : MR_T I L S) (hI : IV_T S) : wm_C l mX5_first 19 0 0 [vv_A (some 46)] (I, L, Rf, n) (q_M (f_first S).1 (f_first S).2 I L Rf n) := by
  refine wm_of (by decide) (Nat.le_of_ble_eq_true rfl) rfl ?_
  have hQ : mq_T I (z_G S) (b_dr (z_B S)) (b_sh (z_B S)) := mg_mq hM.1 hI.1
  have hG := hQ.1
  have h8 : g_n (z_G S) ≤ 8 := hI.1.1
  have hr : hr_T (z_G S) := hI.1.2.1
  refine ra_0 oX5_first_0 ?_
  refine rr_cVi (c_X5_allRight l W hQ) oX5_first_1 (cv_X5_210 rfl) (by decide) kk_46 (by decide) hcn_5 (wd_lt W rfl) rfl rfl (Nat.le_of_ble_eq_true rfl) ?_
  refine si_1 oX5_first_4 rfl rfl ?_
  refine rk_0 oX5_first_5 ?_
  refine si_2 oX5_first_6 rfl rfl ?_
  have e : fo_N (fun i => p_h (z_G S) i && !q_ri S i) 8 0 = fo_N (fun i => p_h (z_G S) i && !q_ri S i) (g_n (z_G S)) 0 := fo_8 h8 (fun i hi => by simp [p_h, show ¬ i < g_n (z_G S) by omega])
  rw [f_first, e]
  exact lp_X5_first l W hM hI (g_n (z_G S)) 0 (Nat.zero_add _)
