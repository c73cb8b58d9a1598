/-! what the class makes (by program: wip/whole/c60.py) -/
theorem rr_cINq {l : Launch} {k : mm_T} {d mc ms pc np : Nat} {ls : List vv_T} {X : mx_T} {Q : Option vv_T → mx_T → Prop} {k2 : mm_T} {i m j d2 a mc2 ms2 mc1 ms1 : Nat} {As st0 rest : List vv_T} {Y : mx_T} (hM : wm_C l k2 d2 mc2 ms2 (vv_A (some a) :: As) X (q_v Y)) (hd : op_at k pc (.invokespecial i) 3 np) (hc : cl_N k k2 i m j ∧ Cond.instanceMethod k2.1 ∈ GW ∧ k2.1.name = "<init>" ∧ k2.2.2.2 = none) (hdd : d2 + 1 ≤ d)
    (hn : As.length = m) (hst : As.reverse ++ vv_A (some a) :: rest = st0) (hW : (rest.map vv_c).sum ≤ 8) (h1 : mc1 + mc2 = mc) (h2 : ms1 + ms2 = ms) (kk : wm_W l k d mc1 ms1 np ls rest Y Q) : wm_W l k d mc ms pc ls st0 X Q :=
  rr_callIN hd hc hM hdd hn hst hW h1 h2 (fun r Z h => by obtain ⟨rfl, rfl⟩ := h; exact kk)
theorem rr_cIq {l : Launch} {k : mm_T} {d mc ms pc np : Nat} {ls : List vv_T} {X : mx_T} {Q : Option vv_T → mx_T → Prop} {k2 : mm_T} {i m d2 a mc2 ms2 mc1 ms1 : Nat} {As st0 rest : List vv_T} {P : mx_T → Prop} (hM : wm_C l k2 d2 mc2 ms2 (vv_A (some a) :: As) X (q_V P)) (hd : op_at k pc (.invokespecial i) 3 np) (hc : cl_B k k2 i m ∧ Cond.instanceMethod k2.1 ∈ GW ∧ k2.1.name = "<init>" ∧ k2.2.2.2 = none) (hdd : d2 + 1 ≤ d)
    (hn : As.length = m) (hst : As.reverse ++ vv_A (some a) :: rest = st0) (hW : (rest.map vv_c).sum ≤ 8) (h1 : mc1 + mc2 = mc) (h2 : ms1 + ms2 = ms) (kk : ∀ Y, P Y → wm_W l k d mc1 ms1 np ls rest Y Q) : wm_W l k d mc ms pc ls st0 X Q :=
  rr_callI hd hc hM hdd hn hst hW h1 h2 (fun r Z h => by obtain ⟨rfl, h⟩ := h; exact kk Z h)
theorem pr_0_0 : ∀ q : vw_C, mCl[0]? = some q → (q.2.1 0).2.2.2 = true ∧ mX0_init.1.name = "<init>" ∧ (q.2.1 0).1 = mX0_init.1.cls ∧ parseFieldDescriptor (q.2.1 0).2.2.1 = some (tyX0 0) := fun q hq => by cases hq; exact ⟨rfl, rfl, rfl, by decide +kernel⟩
theorem pr_1_6 : ∀ q : vw_C, mCl[1]? = some q → (q.2.1 6).2.2.2 = true ∧ mX1_init.1.name = "<init>" ∧ (q.2.1 6).1 = mX1_init.1.cls ∧ parseFieldDescriptor (q.2.1 6).2.2.1 = some (tyX1 6) := fun q hq => by cases hq; exact ⟨rfl, rfl, rfl, by decide +kernel⟩
theorem pr_1_7 : ∀ q : vw_C, mCl[1]? = some q → (q.2.1 7).2.2.2 = true ∧ mX1_init.1.name = "<init>" ∧ (q.2.1 7).1 = mX1_init.1.cls ∧ parseFieldDescriptor (q.2.1 7).2.2.1 = some (tyX1 7) := fun q hq => by cases hq; exact ⟨rfl, rfl, rfl, by decide +kernel⟩
theorem pr_1_8 : ∀ q : vw_C, mCl[1]? = some q → (q.2.1 8).2.2.2 = true ∧ mX1_init.1.name = "<init>" ∧ (q.2.1 8).1 = mX1_init.1.cls ∧ parseFieldDescriptor (q.2.1 8).2.2.1 = some (tyX1 8) := fun q hq => by cases hq; exact ⟨rfl, rfl, rfl, by decide +kernel⟩
theorem pr_1_9 : ∀ q : vw_C, mCl[1]? = some q → (q.2.1 9).2.2.2 = true ∧ mX1_init.1.name = "<init>" ∧ (q.2.1 9).1 = mX1_init.1.cls ∧ parseFieldDescriptor (q.2.1 9).2.2.1 = some (tyX1 9) := fun q hq => by cases hq; exact ⟨rfl, rfl, rfl, by decide +kernel⟩
theorem pr_1_10 : ∀ q : vw_C, mCl[1]? = some q → (q.2.1 10).2.2.2 = true ∧ mX1_init.1.name = "<init>" ∧ (q.2.1 10).1 = mX1_init.1.cls ∧ parseFieldDescriptor (q.2.1 10).2.2.1 = some (tyX1 10) := fun q hq => by cases hq; exact ⟨rfl, rfl, rfl, by decide +kernel⟩
theorem pr_1_11 : ∀ q : vw_C, mCl[1]? = some q → (q.2.1 11).2.2.2 = true ∧ mX1_init.1.name = "<init>" ∧ (q.2.1 11).1 = mX1_init.1.cls ∧ parseFieldDescriptor (q.2.1 11).2.2.1 = some (tyX1 11) := fun q hq => by cases hq; exact ⟨rfl, rfl, rfl, by decide +kernel⟩
theorem pr_1_12 : ∀ q : vw_C, mCl[1]? = some q → (q.2.1 12).2.2.2 = true ∧ mX1_init.1.name = "<init>" ∧ (q.2.1 12).1 = mX1_init.1.cls ∧ parseFieldDescriptor (q.2.1 12).2.2.1 = some (tyX1 12) := fun q hq => by cases hq; exact ⟨rfl, rfl, rfl, by decide +kernel⟩
theorem pr_3_2 : ∀ q : vw_C, mCl[3]? = some q → (q.2.1 2).2.2.2 = true ∧ mX3_init.1.name = "<init>" ∧ (q.2.1 2).1 = mX3_init.1.cls ∧ parseFieldDescriptor (q.2.1 2).2.2.1 = some (tyX3 2) := fun q hq => by cases hq; exact ⟨rfl, rfl, rfl, by decide +kernel⟩
theorem pr_4_0 : ∀ q : vw_C, mCl[4]? = some q → (q.2.1 0).2.2.2 = true ∧ mX4_init.1.name = "<init>" ∧ (q.2.1 0).1 = mX4_init.1.cls ∧ parseFieldDescriptor (q.2.1 0).2.2.1 = some (tyX4 0) := fun q hq => by cases hq; exact ⟨rfl, rfl, rfl, by decide +kernel⟩
theorem pr_4_1 : ∀ q : vw_C, mCl[4]? = some q → (q.2.1 1).2.2.2 = true ∧ mX4_init.1.name = "<init>" ∧ (q.2.1 1).1 = mX4_init.1.cls ∧ parseFieldDescriptor (q.2.1 1).2.2.1 = some (tyX4 1) := fun q hq => by cases hq; exact ⟨rfl, rfl, rfl, by decide +kernel⟩
theorem pr_4_2 : ∀ q : vw_C, mCl[4]? = some q → (q.2.1 2).2.2.2 = true ∧ mX4_init.1.name = "<init>" ∧ (q.2.1 2).1 = mX4_init.1.cls ∧ parseFieldDescriptor (q.2.1 2).2.2.1 = some (tyX4 2) := fun q hq => by cases hq; exact ⟨rfl, rfl, rfl, by decide +kernel⟩
theorem pr_4_3 : ∀ q : vw_C, mCl[4]? = some q → (q.2.1 3).2.2.2 = true ∧ mX4_init.1.name = "<init>" ∧ (q.2.1 3).1 = mX4_init.1.cls ∧ parseFieldDescriptor (q.2.1 3).2.2.1 = some (tyX4 3) := fun q hq => by cases hq; exact ⟨rfl, rfl, rfl, by decide +kernel⟩
theorem pr_4_4 : ∀ q : vw_C, mCl[4]? = some q → (q.2.1 4).2.2.2 = true ∧ mX4_init.1.name = "<init>" ∧ (q.2.1 4).1 = mX4_init.1.cls ∧ parseFieldDescriptor (q.2.1 4).2.2.1 = some (tyX4 4) := fun q hq => by cases hq; exact ⟨rfl, rfl, rfl, by decide +kernel⟩
theorem pr_4_5 : ∀ q : vw_C, mCl[4]? = some q → (q.2.1 5).2.2.2 = true ∧ mX4_init.1.name = "<init>" ∧ (q.2.1 5).1 = mX4_init.1.cls ∧ parseFieldDescriptor (q.2.1 5).2.2.1 = some (tyX4 5) := fun q hq => by cases hq; exact ⟨rfl, rfl, rfl, by decide +kernel⟩
theorem pr_4_6 : ∀ q : vw_C, mCl[4]? = some q → (q.2.1 6).2.2.2 = true ∧ mX4_init.1.name = "<init>" ∧ (q.2.1 6).1 = mX4_init.1.cls ∧ parseFieldDescriptor (q.2.1 6).2.2.1 = some (tyX4 6) := fun q hq => by cases hq; exact ⟨rfl, rfl, rfl, by decide +kernel⟩
theorem pr_5_6 : ∀ q : vw_C, mCl[5]? = some q → (q.2.1 6).2.2.2 = true ∧ mX5_init.1.name = "<init>" ∧ (q.2.1 6).1 = mX5_init.1.cls ∧ parseFieldDescriptor (q.2.1 6).2.2.1 = some (tyX5 6) := fun q hq => by cases hq; exact ⟨rfl, rfl, rfl, by decide +kernel⟩
theorem pr_5_7 : ∀ q : vw_C, mCl[5]? = some q → (q.2.1 7).2.2.2 = true ∧ mX5_init.1.name = "<init>" ∧ (q.2.1 7).1 = mX5_init.1.cls ∧ parseFieldDescriptor (q.2.1 7).2.2.1 = some (tyX5 7) := fun q hq => by cases hq; exact ⟨rfl, rfl, rfl, by decide +kernel⟩
theorem pr_5_8 : ∀ q : vw_C, mCl[5]? = some q → (q.2.1 8).2.2.2 = true ∧ mX5_init.1.name = "<init>" ∧ (q.2.1 8).1 = mX5_init.1.cls ∧ parseFieldDescriptor (q.2.1 8).2.2.1 = some (tyX5 8) := fun q hq => by cases hq; exact ⟨rfl, rfl, rfl, by decide +kernel⟩
theorem pr_5_9 : ∀ q : vw_C, mCl[5]? = some q → (q.2.1 9).2.2.2 = true ∧ mX5_init.1.name = "<init>" ∧ (q.2.1 9).1 = mX5_init.1.cls ∧ parseFieldDescriptor (q.2.1 9).2.2.1 = some (tyX5 9) := fun q hq => by cases hq; exact ⟨rfl, rfl, rfl, by decide +kernel⟩
theorem pr_5_10 : ∀ q : vw_C, mCl[5]? = some q → (q.2.1 10).2.2.2 = true ∧ mX5_init.1.name = "<init>" ∧ (q.2.1 10).1 = mX5_init.1.cls ∧ parseFieldDescriptor (q.2.1 10).2.2.1 = some (tyX5 10) := fun q hq => by cases hq; exact ⟨rfl, rfl, rfl, by decide +kernel⟩
theorem pr_5_11 : ∀ q : vw_C, mCl[5]? = some q → (q.2.1 11).2.2.2 = true ∧ mX5_init.1.name = "<init>" ∧ (q.2.1 11).1 = mX5_init.1.cls ∧ parseFieldDescriptor (q.2.1 11).2.2.1 = some (tyX5 11) := fun q hq => by cases hq; exact ⟨rfl, rfl, rfl, by decide +kernel⟩
theorem pr_5_12 : ∀ q : vw_C, mCl[5]? = some q → (q.2.1 12).2.2.2 = true ∧ mX5_init.1.name = "<init>" ∧ (q.2.1 12).1 = mX5_init.1.cls ∧ parseFieldDescriptor (q.2.1 12).2.2.1 = some (tyX5 12) := fun q hq => by cases hq; exact ⟨rfl, rfl, rfl, by decide +kernel⟩
theorem pr_5_13 : ∀ q : vw_C, mCl[5]? = some q → (q.2.1 13).2.2.2 = true ∧ mX5_init.1.name = "<init>" ∧ (q.2.1 13).1 = mX5_init.1.cls ∧ parseFieldDescriptor (q.2.1 13).2.2.1 = some (tyX5 13) := fun q hq => by cases hq; exact ⟨rfl, rfl, rfl, by decide +kernel⟩
theorem pr_5_14 : ∀ q : vw_C, mCl[5]? = some q → (q.2.1 14).2.2.2 = true ∧ mX5_init.1.name = "<init>" ∧ (q.2.1 14).1 = mX5_init.1.cls ∧ parseFieldDescriptor (q.2.1 14).2.2.1 = some (tyX5 14) := fun q hq => by cases hq; exact ⟨rfl, rfl, rfl, by decide +kernel⟩
theorem pr_5_15 : ∀ q : vw_C, mCl[5]? = some q → (q.2.1 15).2.2.2 = true ∧ mX5_init.1.name = "<init>" ∧ (q.2.1 15).1 = mX5_init.1.cls ∧ parseFieldDescriptor (q.2.1 15).2.2.1 = some (tyX5 15) := fun q hq => by cases hq; exact ⟨rfl, rfl, rfl, by decide +kernel⟩
theorem pr_5_16 : ∀ q : vw_C, mCl[5]? = some q → (q.2.1 16).2.2.2 = true ∧ mX5_init.1.name = "<init>" ∧ (q.2.1 16).1 = mX5_init.1.cls ∧ parseFieldDescriptor (q.2.1 16).2.2.1 = some (tyX5 16) := fun q hq => by cases hq; exact ⟨rfl, rfl, rfl, by decide +kernel⟩
theorem pr_5_17 : ∀ q : vw_C, mCl[5]? = some q → (q.2.1 17).2.2.2 = true ∧ mX5_init.1.name = "<init>" ∧ (q.2.1 17).1 = mX5_init.1.cls ∧ parseFieldDescriptor (q.2.1 17).2.2.1 = some (tyX5 17) := fun q hq => by cases hq; exact ⟨rfl, rfl, rfl, by decide +kernel⟩
theorem pr_5_18 : ∀ q : vw_C, mCl[5]? = some q → (q.2.1 18).2.2.2 = true ∧ mX5_init.1.name = "<init>" ∧ (q.2.1 18).1 = mX5_init.1.cls ∧ parseFieldDescriptor (q.2.1 18).2.2.1 = some (tyX5 18) := fun q hq => by cases hq; exact ⟨rfl, rfl, rfl, by decide +kernel⟩
theorem pr_5_19 : ∀ q : vw_C, mCl[5]? = some q → (q.2.1 19).2.2.2 = true ∧ mX5_init.1.name = "<init>" ∧ (q.2.1 19).1 = mX5_init.1.cls ∧ parseFieldDescriptor (q.2.1 19).2.2.1 = some (tyX5 19) := fun q hq => by cases hq; exact ⟨rfl, rfl, rfl, by decide +kernel⟩
theorem pr_5_20 : ∀ q : vw_C, mCl[5]? = some q → (q.2.1 20).2.2.2 = true ∧ mX5_init.1.name = "<init>" ∧ (q.2.1 20).1 = mX5_init.1.cls ∧ parseFieldDescriptor (q.2.1 20).2.2.1 = some (tyX5 20) := fun q hq => by cases hq; exact ⟨rfl, rfl, rfl, by decide +kernel⟩
theorem pr_5_21 : ∀ q : vw_C, mCl[5]? = some q → (q.2.1 21).2.2.2 = true ∧ mX5_init.1.name = "<init>" ∧ (q.2.1 21).1 = mX5_init.1.cls ∧ parseFieldDescriptor (q.2.1 21).2.2.1 = some (tyX5 21) := fun q hq => by cases hq; exact ⟨rfl, rfl, rfl, by decide +kernel⟩
theorem pr_5_27 : ∀ q : vw_C, mCl[5]? = some q → (q.2.1 27).2.2.2 = true ∧ mX5_init.1.name = "<init>" ∧ (q.2.1 27).1 = mX5_init.1.cls ∧ parseFieldDescriptor (q.2.1 27).2.2.1 = some (tyX5 27) := fun q hq => by cases hq; exact ⟨rfl, rfl, rfl, by decide +kernel⟩
theorem pr_5_28 : ∀ q : vw_C, mCl[5]? = some q → (q.2.1 28).2.2.2 = true ∧ mX5_init.1.name = "<init>" ∧ (q.2.1 28).1 = mX5_init.1.cls ∧ parseFieldDescriptor (q.2.1 28).2.2.1 = some (tyX5 28) := fun q hq => by cases hq; exact ⟨rfl, rfl, rfl, by decide +kernel⟩
theorem pr_5_32 : ∀ q : vw_C, mCl[5]? = some q → (q.2.1 32).2.2.2 = true ∧ mX5_init.1.name = "<init>" ∧ (q.2.1 32).1 = mX5_init.1.cls ∧ parseFieldDescriptor (q.2.1 32).2.2.1 = some (tyX5 32) := fun q hq => by cases hq; exact ⟨rfl, rfl, rfl, by decide +kernel⟩
theorem pr_5_35 : ∀ q : vw_C, mCl[5]? = some q → (q.2.1 35).2.2.2 = true ∧ mX5_init.1.name = "<init>" ∧ (q.2.1 35).1 = mX5_init.1.cls ∧ parseFieldDescriptor (q.2.1 35).2.2.1 = some (tyX5 35) := fun q hq => by cases hq; exact ⟨rfl, rfl, rfl, by decide +kernel⟩
/-- a ground as made: itself number r, its arrays behind it -/
def gz_I (I : Nat → Nat → Int32) (r : Nat) : Nat → Nat → Int32 := zr_I (zr_I (zr_I (zr_I (zr_I (zr_I (zr_I (up_I (up_I (up_I (up_I (up_I (up_I I r 0 0) r 1 1) r 2 9) r 3 0) r 4 0) r 5 1) (r + 1)) (r + 2)) (r + 3)) (r + 4)) (r + 5)) (r + 6)) (r + 7)
def gz_R (R : Nat → Nat → Option Nat) (r : Nat) : Nat → Nat → Option Nat := up_R (up_R (up_R (up_R (up_R (up_R (up_R R r 6 (some (r + 1))) r 7 (some (r + 2))) r 8 (some (r + 3))) r 9 (some (r + 4))) r 10 (some (r + 5))) r 11 (some (r + 6))) r 12 (some (r + 7))
theorem c_X1_init (l : Launch) {I : Nat → Nat → Int32} {L : Nat → Nat → Int64} {Rf : Nat → Nat → Option Nat}  {r : Nat} (hg : gd_T r) : wm_C l mX1_init 2 7 56 [vv_A (some r)] (I, L, Rf, r + 1) (q_v (gz_I I r, L, gz_R Rf r, r + 8)) := by
  refine wm_of (by decide) (Nat.le_of_ble_eq_true rfl) rfl ?_
  refine ra_0 oX1_init_0 ?_
  refine rr_objI oX1_init_1 ⟨gw_in (i := 108) (by decide +kernel) (by decide +kernel), gw_in (i := 99) (by decide +kernel) (by decide +kernel), gw_in (i := 100) (by decide +kernel) (by decide +kernel)⟩ (by decide) (Nat.le_of_ble_eq_true rfl) ?_
  refine ra_0 oX1_init_4 ?_
  refine rk_0 oX1_init_5 ?_
  refine rr_pi oX1_init_6 (ff_X1_9 rfl) (gd_k hg) (by omega) ⟨by decide, rfl, by decide⟩ pf_1_0 ⟨rfl, rfl⟩ ?_
  refine ra_0 oX1_init_9 ?_
  refine rk_1 oX1_init_10 ?_
  refine rr_pi oX1_init_11 (ff_X1_15 rfl) (gd_k hg) (by omega) ⟨by decide, rfl, by decide⟩ pf_1_1 ⟨rfl, rfl⟩ ?_
  refine ra_0 oX1_init_14 ?_
  refine rr_bipush (v := 9) oX1_init_15 (by decide) ?_
  refine rr_pi oX1_init_17 (ff_X1_18 rfl) (gd_k hg) (by omega) ⟨by decide, rfl, by decide⟩ pf_1_2 ⟨rfl, rfl⟩ ?_
  refine ra_0 oX1_init_20 ?_
  refine rk_0 oX1_init_21 ?_
  refine rr_pi oX1_init_22 (ff_X1_21 rfl) (gd_k hg) (by omega) ⟨by decide, rfl, by decide⟩ pf_1_3 ⟨rfl, rfl⟩ ?_
  refine ra_0 oX1_init_25 ?_
  refine rk_0 oX1_init_26 ?_
  refine rr_pi oX1_init_27 (ff_X1_24 rfl) (gd_k hg) (by omega) ⟨by decide, rfl, by decide⟩ pf_1_4 ⟨rfl, rfl⟩ ?_
  refine ra_0 oX1_init_30 ?_
  refine rk_1 oX1_init_31 ?_
  refine rr_pi oX1_init_32 (ff_X1_27 rfl) (gd_k hg) (by omega) ⟨by decide, rfl, by decide⟩ pf_1_5 ⟨rfl, rfl⟩ ?_
  refine ra_0 oX1_init_35 ?_
  refine rr_bipush (v := 8) oX1_init_36 (by decide) ?_
  refine rr_newI (z := 8) oX1_init_38 (gw_in (i := 166) (by decide +kernel) (by decide +kernel)) (gd_a hg 1 rfl) (by decide) (by decide) rfl rfl ?_
  refine rr_putr oX1_init_40 (ff_X1_30 rfl) (gd_k hg) (by omega) ⟨by decide, rfl⟩ pr_1_6 (fun _ => rfl) (fun _ => rfl) (by decide) ?_
  refine ra_0 oX1_init_43 ?_
  refine rr_bipush (v := 8) oX1_init_44 (by decide) ?_
  refine rr_newI (z := 8) oX1_init_46 (gw_in (i := 166) (by decide +kernel) (by decide +kernel)) (gd_a hg 2 rfl) (by decide) (by decide) rfl rfl ?_
  refine rr_putr oX1_init_48 (ff_X1_34 rfl) (gd_k hg) (by omega) ⟨by decide, rfl⟩ pr_1_7 (fun _ => rfl) (fun _ => rfl) (by decide) ?_
  refine ra_0 oX1_init_51 ?_
  refine rr_bipush (v := 8) oX1_init_52 (by decide) ?_
  refine rr_newI (z := 8) oX1_init_54 (gw_in (i := 166) (by decide +kernel) (by decide +kernel)) (gd_a hg 3 rfl) (by decide) (by decide) rfl rfl ?_
  refine rr_putr oX1_init_56 (ff_X1_37 rfl) (gd_k hg) (by omega) ⟨by decide, rfl⟩ pr_1_8 (fun _ => rfl) (fun _ => rfl) (by decide) ?_
  refine ra_0 oX1_init_59 ?_
  refine rr_bipush (v := 8) oX1_init_60 (by decide) ?_
  refine rr_newI (z := 8) oX1_init_62 (gw_in (i := 166) (by decide +kernel) (by decide +kernel)) (gd_a hg 4 rfl) (by decide) (by decide) rfl rfl ?_
  refine rr_putr oX1_init_64 (ff_X1_40 rfl) (gd_k hg) (by omega) ⟨by decide, rfl⟩ pr_1_9 (fun _ => rfl) (fun _ => rfl) (by decide) ?_
  refine ra_0 oX1_init_67 ?_
  refine rr_bipush (v := 8) oX1_init_68 (by decide) ?_
  refine rr_newI (z := 8) oX1_init_70 (gw_in (i := 166) (by decide +kernel) (by decide +kernel)) (gd_a hg 5 rfl) (by decide) (by decide) rfl rfl ?_
  refine rr_putr oX1_init_72 (ff_X1_43 rfl) (gd_k hg) (by omega) ⟨by decide, rfl⟩ pr_1_10 (fun _ => rfl) (fun _ => rfl) (by decide) ?_
  refine ra_0 oX1_init_75 ?_
  refine rr_bipush (v := 8) oX1_init_76 (by decide) ?_
  refine rr_newI (z := 8) oX1_init_78 (gw_in (i := 166) (by decide +kernel) (by decide +kernel)) (gd_a hg 6 rfl) (by decide) (by decide) rfl rfl ?_
  refine rr_putr oX1_init_80 (ff_X1_46 rfl) (gd_k hg) (by omega) ⟨by decide, rfl⟩ pr_1_11 (fun _ => rfl) (fun _ => rfl) (by decide) ?_
  refine ra_0 oX1_init_83 ?_
  refine rr_bipush (v := 8) oX1_init_84 (by decide) ?_
  refine rr_newI (z := 8) oX1_init_86 (gw_in (i := 166) (by decide +kernel) (by decide +kernel)) (gd_a hg 7 rfl) (by decide) (by decide) rfl rfl ?_
  refine rr_putr oX1_init_88 (ff_X1_49 rfl) (gd_k hg) (by omega) ⟨by decide, rfl⟩ pr_1_12 (fun _ => rfl) (fun _ => rfl) (by decide) ?_
  exact rr_return oX1_init_91 rfl ⟨rfl, rfl⟩
theorem c_X0_init (l : Launch) {I : Nat → Nat → Int32} {L : Nat → Nat → Int64} {Rf : Nat → Nat → Option Nat} : wm_C l mX0_init 2 1 20 [vv_A (some 26)] (I, L, Rf, 27) (q_v (up_I (up_I (up_I (up_I (zr_I I 27) 26 1 0) 26 2 0) 26 3 0) 26 4 0, L, up_R Rf 26 0 (some 27), 28)) := by
  refine wm_of (by decide) (Nat.le_of_ble_eq_true rfl) rfl ?_
  refine ra_0 oX0_init_0 ?_
  refine rr_objI oX0_init_1 ⟨gw_in (i := 172) (by decide +kernel) (by decide +kernel), gw_in (i := 99) (by decide +kernel) (by decide +kernel), gw_in (i := 100) (by decide +kernel) (by decide +kernel)⟩ (by decide) (Nat.le_of_ble_eq_true rfl) ?_
  refine ra_0 oX0_init_4 ?_
  refine rr_bipush (v := 20) oX0_init_5 (by decide) ?_
  refine rr_newI (z := 20) oX0_init_7 (gw_in (i := 166) (by decide +kernel) (by decide +kernel)) (by decide) (by decide) (by decide) rfl rfl ?_
  refine rr_putr oX0_init_9 (ff_X0_11 rfl) (by decide) (by decide) ⟨by decide, rfl⟩ pr_0_0 (fun _ => rfl) (fun _ => rfl) (by decide) ?_
  refine ra_0 oX0_init_12 ?_
  refine rk_0 oX0_init_13 ?_
  refine rr_pi oX0_init_14 (ff_X0_15 rfl) (by decide) (by decide) ⟨by decide, rfl, by decide⟩ pf_0_1 ⟨rfl, rfl⟩ ?_
  refine ra_0 oX0_init_17 ?_
  refine rk_0 oX0_init_18 ?_
  refine rr_pi oX0_init_19 (ff_X0_19 rfl) (by decide) (by decide) ⟨by decide, rfl, by decide⟩ pf_0_2 ⟨rfl, rfl⟩ ?_
  refine ra_0 oX0_init_22 ?_
  refine rk_0 oX0_init_23 ?_
  refine rr_pi oX0_init_24 (ff_X0_22 rfl) (by decide) (by decide) ⟨by decide, rfl, by decide⟩ pf_0_3 ⟨rfl, rfl⟩ ?_
  refine ra_0 oX0_init_27 ?_
  refine rk_0 oX0_init_28 ?_
  refine rr_pi oX0_init_29 (ff_X0_25 rfl) (by decide) (by decide) ⟨by decide, rfl, by decide⟩ pf_0_4 ⟨rfl, rfl⟩ ?_
  exact rr_return oX0_init_32 rfl ⟨rfl, rfl⟩
theorem c_X3_init (l : Launch) {I : Nat → Nat → Int32} {L : Nat → Nat → Int64} {Rf : Nat → Nat → Option Nat}  {r : Nat} (hr : sh_T r) : wm_C l mX3_init 2 1 160 [vv_A (some r)] (I, L, Rf, r + 1) (q_v (up_I (up_I I r 0 (-1)) r 1 0, zr_L L (r + 1), up_R Rf r 2 (some (r + 1)), r + 2)) := by
  refine wm_of (by decide) (Nat.le_of_ble_eq_true rfl) rfl ?_
  refine ra_0 oX3_init_0 ?_
  refine rr_objI oX3_init_1 ⟨gw_in (i := 194) (by decide +kernel) (by decide +kernel), gw_in (i := 99) (by decide +kernel) (by decide +kernel), gw_in (i := 100) (by decide +kernel) (by decide +kernel)⟩ (by decide) (Nat.le_of_ble_eq_true rfl) ?_
  refine ra_0 oX3_init_4 ?_
  refine rk_m1 oX3_init_5 ?_
  refine rr_pi oX3_init_6 (ff_X3_9 rfl) (sh_k hr) (by omega) ⟨by decide, rfl, by decide⟩ pf_3_0 ⟨rfl, rfl⟩ ?_
  refine ra_0 oX3_init_9 ?_
  refine rk_0 oX3_init_10 ?_
  refine rr_pi oX3_init_11 (ff_X3_15 rfl) (sh_k hr) (by omega) ⟨by decide, rfl, by decide⟩ pf_3_1 ⟨rfl, rfl⟩ ?_
  refine ra_0 oX3_init_14 ?_
  refine rr_sipush (v := 160) oX3_init_15 (by decide) ?_
  refine rr_newL (z := 160) oX3_init_18 (gw_in (i := 210) (by decide +kernel) (by decide +kernel)) (sh_a hr) (by decide) (by decide) rfl rfl ?_
  refine rr_putr oX3_init_20 (ff_X3_18 rfl) (sh_k hr) (by omega) ⟨by decide, rfl⟩ pr_3_2 (fun _ => rfl) (fun _ => rfl) (by decide) ?_
  exact rr_return oX3_init_23 rfl ⟨rfl, rfl⟩
