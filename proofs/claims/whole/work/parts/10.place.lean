/-! rows by place; facts by the number of an object (by program: wip/whole/gen10.py) -/
section RP
variable {l : Launch} {k : mm_T} {d mc ms pc np : Nat} {st : List vv_T} {X : mx_T} {Q : Option vv_T → mx_T → Prop}
theorem ri_0 {t : List vv_T} {y : Int32} (hd : op_at k pc (.iload_n 0) 1 np) (kk : wm_W l k d mc ms np (vv_I y :: t) (vv_I y :: st) X Q) : wm_W l k d mc ms pc (vv_I y :: t) st X Q := rr_iload_n hd rfl rfl kk
theorem ri_1 {x0 : vv_T} {t : List vv_T} {y : Int32} (hd : op_at k pc (.iload_n 1) 1 np) (kk : wm_W l k d mc ms np (x0 :: vv_I y :: t) (vv_I y :: st) X Q) : wm_W l k d mc ms pc (x0 :: vv_I y :: t) st X Q := rr_iload_n hd rfl rfl kk
theorem ri_2 {x0 x1 : vv_T} {t : List vv_T} {y : Int32} (hd : op_at k pc (.iload_n 2) 1 np) (kk : wm_W l k d mc ms np (x0 :: x1 :: vv_I y :: t) (vv_I y :: st) X Q) : wm_W l k d mc ms pc (x0 :: x1 :: vv_I y :: t) st X Q := rr_iload_n hd rfl rfl kk
theorem ri_3 {x0 x1 x2 : vv_T} {t : List vv_T} {y : Int32} (hd : op_at k pc (.iload_n 3) 1 np) (kk : wm_W l k d mc ms np (x0 :: x1 :: x2 :: vv_I y :: t) (vv_I y :: st) X Q) : wm_W l k d mc ms pc (x0 :: x1 :: x2 :: vv_I y :: t) st X Q := rr_iload_n hd rfl rfl kk
theorem ri_4 {x0 x1 x2 x3 : vv_T} {t : List vv_T} {y : Int32} (hd : op_at k pc (.iload 4) 2 np) (kk : wm_W l k d mc ms np (x0 :: x1 :: x2 :: x3 :: vv_I y :: t) (vv_I y :: st) X Q) : wm_W l k d mc ms pc (x0 :: x1 :: x2 :: x3 :: vv_I y :: t) st X Q := rr_iload hd rfl kk
theorem ri_5 {x0 x1 x2 x3 x4 : vv_T} {t : List vv_T} {y : Int32} (hd : op_at k pc (.iload 5) 2 np) (kk : wm_W l k d mc ms np (x0 :: x1 :: x2 :: x3 :: x4 :: vv_I y :: t) (vv_I y :: st) X Q) : wm_W l k d mc ms pc (x0 :: x1 :: x2 :: x3 :: x4 :: vv_I y :: t) st X Q := rr_iload hd rfl kk
theorem ri_6 {x0 x1 x2 x3 x4 x5 : vv_T} {t : List vv_T} {y : Int32} (hd : op_at k pc (.iload 6) 2 np) (kk : wm_W l k d mc ms np (x0 :: x1 :: x2 :: x3 :: x4 :: x5 :: vv_I y :: t) (vv_I y :: st) X Q) : wm_W l k d mc ms pc (x0 :: x1 :: x2 :: x3 :: x4 :: x5 :: vv_I y :: t) st X Q := rr_iload hd rfl kk
theorem ri_7 {x0 x1 x2 x3 x4 x5 x6 : vv_T} {t : List vv_T} {y : Int32} (hd : op_at k pc (.iload 7) 2 np) (kk : wm_W l k d mc ms np (x0 :: x1 :: x2 :: x3 :: x4 :: x5 :: x6 :: vv_I y :: t) (vv_I y :: st) X Q) : wm_W l k d mc ms pc (x0 :: x1 :: x2 :: x3 :: x4 :: x5 :: x6 :: vv_I y :: t) st X Q := rr_iload hd rfl kk
theorem ri_8 {x0 x1 x2 x3 x4 x5 x6 x7 : vv_T} {t : List vv_T} {y : Int32} (hd : op_at k pc (.iload 8) 2 np) (kk : wm_W l k d mc ms np (x0 :: x1 :: x2 :: x3 :: x4 :: x5 :: x6 :: x7 :: vv_I y :: t) (vv_I y :: st) X Q) : wm_W l k d mc ms pc (x0 :: x1 :: x2 :: x3 :: x4 :: x5 :: x6 :: x7 :: vv_I y :: t) st X Q := rr_iload hd rfl kk
theorem ri_9 {x0 x1 x2 x3 x4 x5 x6 x7 x8 : vv_T} {t : List vv_T} {y : Int32} (hd : op_at k pc (.iload 9) 2 np) (kk : wm_W l k d mc ms np (x0 :: x1 :: x2 :: x3 :: x4 :: x5 :: x6 :: x7 :: x8 :: vv_I y :: t) (vv_I y :: st) X Q) : wm_W l k d mc ms pc (x0 :: x1 :: x2 :: x3 :: x4 :: x5 :: x6 :: x7 :: x8 :: vv_I y :: t) st X Q := rr_iload hd rfl kk
theorem ri_10 {x0 x1 x2 x3 x4 x5 x6 x7 x8 x9 : vv_T} {t : List vv_T} {y : Int32} (hd : op_at k pc (.iload 10) 2 np) (kk : wm_W l k d mc ms np (x0 :: x1 :: x2 :: x3 :: x4 :: x5 :: x6 :: x7 :: x8 :: x9 :: vv_I y :: t) (vv_I y :: st) X Q) : wm_W l k d mc ms pc (x0 :: x1 :: x2 :: x3 :: x4 :: x5 :: x6 :: x7 :: x8 :: x9 :: vv_I y :: t) st X Q := rr_iload hd rfl kk
theorem ra_0 {t : List vv_T} {y : Nat} (hd : op_at k pc (.aload_n 0) 1 np) (kk : wm_W l k d mc ms np (vv_A (some y) :: t) (vv_A (some y) :: st) X Q) : wm_W l k d mc ms pc (vv_A (some y) :: t) st X Q := rr_aload_n hd rfl rfl kk
theorem re_0 {t : List vv_T} {y : Nat} (hd : op_at k pc (.aload_n 0) 1 np) (kk : wm_W l k d mc ms np (vv_E y :: t) (vv_E y :: st) X Q) : wm_W l k d mc ms pc (vv_E y :: t) st X Q := rr_aload_nE hd rfl rfl kk
theorem ra_1 {x0 : vv_T} {t : List vv_T} {y : Nat} (hd : op_at k pc (.aload_n 1) 1 np) (kk : wm_W l k d mc ms np (x0 :: vv_A (some y) :: t) (vv_A (some y) :: st) X Q) : wm_W l k d mc ms pc (x0 :: vv_A (some y) :: t) st X Q := rr_aload_n hd rfl rfl kk
theorem re_1 {x0 : vv_T} {t : List vv_T} {y : Nat} (hd : op_at k pc (.aload_n 1) 1 np) (kk : wm_W l k d mc ms np (x0 :: vv_E y :: t) (vv_E y :: st) X Q) : wm_W l k d mc ms pc (x0 :: vv_E y :: t) st X Q := rr_aload_nE hd rfl rfl kk
theorem ra_2 {x0 x1 : vv_T} {t : List vv_T} {y : Nat} (hd : op_at k pc (.aload_n 2) 1 np) (kk : wm_W l k d mc ms np (x0 :: x1 :: vv_A (some y) :: t) (vv_A (some y) :: st) X Q) : wm_W l k d mc ms pc (x0 :: x1 :: vv_A (some y) :: t) st X Q := rr_aload_n hd rfl rfl kk
theorem re_2 {x0 x1 : vv_T} {t : List vv_T} {y : Nat} (hd : op_at k pc (.aload_n 2) 1 np) (kk : wm_W l k d mc ms np (x0 :: x1 :: vv_E y :: t) (vv_E y :: st) X Q) : wm_W l k d mc ms pc (x0 :: x1 :: vv_E y :: t) st X Q := rr_aload_nE hd rfl rfl kk
theorem ra_3 {x0 x1 x2 : vv_T} {t : List vv_T} {y : Nat} (hd : op_at k pc (.aload_n 3) 1 np) (kk : wm_W l k d mc ms np (x0 :: x1 :: x2 :: vv_A (some y) :: t) (vv_A (some y) :: st) X Q) : wm_W l k d mc ms pc (x0 :: x1 :: x2 :: vv_A (some y) :: t) st X Q := rr_aload_n hd rfl rfl kk
theorem re_3 {x0 x1 x2 : vv_T} {t : List vv_T} {y : Nat} (hd : op_at k pc (.aload_n 3) 1 np) (kk : wm_W l k d mc ms np (x0 :: x1 :: x2 :: vv_E y :: t) (vv_E y :: st) X Q) : wm_W l k d mc ms pc (x0 :: x1 :: x2 :: vv_E y :: t) st X Q := rr_aload_nE hd rfl rfl kk
theorem rl_2 {x0 x1 : vv_T} {t : List vv_T} {y : Int64} (hd : op_at k pc (.lload_n 2) 1 np) (kk : wm_W l k d mc ms np (x0 :: x1 :: vv_L y :: t) (vv_L y :: st) X Q) : wm_W l k d mc ms pc (x0 :: x1 :: vv_L y :: t) st X Q := rr_lload_n hd rfl rfl kk
theorem rl_3 {x0 x1 x2 : vv_T} {t : List vv_T} {y : Int64} (hd : op_at k pc (.lload_n 3) 1 np) (kk : wm_W l k d mc ms np (x0 :: x1 :: x2 :: vv_L y :: t) (vv_L y :: st) X Q) : wm_W l k d mc ms pc (x0 :: x1 :: x2 :: vv_L y :: t) st X Q := rr_lload_n hd rfl rfl kk
theorem si_0 {t : List vv_T} {w : vv_T} {y : Int32} (hd : op_at k pc (.istore_n 0) 1 np) (hn : Nat.blt 0 k.2.2.1 = true) (ho : ls_ok (w :: t) 0 = true) (kk : wm_W l k d mc ms np (vv_I y :: t) st X Q) : wm_W l k d mc ms pc (w :: t) (vv_I y :: st) X Q := rr_istore_n hd rfl (by simp only [List.length_cons]; omega) (Nat.le_of_ble_eq_true hn) ho rfl kk
theorem si_1 {x0 : vv_T} {t : List vv_T} {w : vv_T} {y : Int32} (hd : op_at k pc (.istore_n 1) 1 np) (hn : Nat.blt 1 k.2.2.1 = true) (ho : ls_ok (x0 :: w :: t) 1 = true) (kk : wm_W l k d mc ms np (x0 :: vv_I y :: t) st X Q) : wm_W l k d mc ms pc (x0 :: w :: t) (vv_I y :: st) X Q := rr_istore_n hd rfl (by simp only [List.length_cons]; omega) (Nat.le_of_ble_eq_true hn) ho rfl kk
theorem si_2 {x0 x1 : vv_T} {t : List vv_T} {w : vv_T} {y : Int32} (hd : op_at k pc (.istore_n 2) 1 np) (hn : Nat.blt 2 k.2.2.1 = true) (ho : ls_ok (x0 :: x1 :: w :: t) 2 = true) (kk : wm_W l k d mc ms np (x0 :: x1 :: vv_I y :: t) st X Q) : wm_W l k d mc ms pc (x0 :: x1 :: w :: t) (vv_I y :: st) X Q := rr_istore_n hd rfl (by simp only [List.length_cons]; omega) (Nat.le_of_ble_eq_true hn) ho rfl kk
theorem si_3 {x0 x1 x2 : vv_T} {t : List vv_T} {w : vv_T} {y : Int32} (hd : op_at k pc (.istore_n 3) 1 np) (hn : Nat.blt 3 k.2.2.1 = true) (ho : ls_ok (x0 :: x1 :: x2 :: w :: t) 3 = true) (kk : wm_W l k d mc ms np (x0 :: x1 :: x2 :: vv_I y :: t) st X Q) : wm_W l k d mc ms pc (x0 :: x1 :: x2 :: w :: t) (vv_I y :: st) X Q := rr_istore_n hd rfl (by simp only [List.length_cons]; omega) (Nat.le_of_ble_eq_true hn) ho rfl kk
theorem si_4 {x0 x1 x2 x3 : vv_T} {t : List vv_T} {w : vv_T} {y : Int32} (hd : op_at k pc (.istore 4) 2 np) (hn : Nat.blt 4 k.2.2.1 = true) (ho : ls_ok (x0 :: x1 :: x2 :: x3 :: w :: t) 4 = true) (kk : wm_W l k d mc ms np (x0 :: x1 :: x2 :: x3 :: vv_I y :: t) st X Q) : wm_W l k d mc ms pc (x0 :: x1 :: x2 :: x3 :: w :: t) (vv_I y :: st) X Q := rr_istore hd (by simp only [List.length_cons]; omega) (Nat.le_of_ble_eq_true hn) ho rfl kk
theorem si_5 {x0 x1 x2 x3 x4 : vv_T} {t : List vv_T} {w : vv_T} {y : Int32} (hd : op_at k pc (.istore 5) 2 np) (hn : Nat.blt 5 k.2.2.1 = true) (ho : ls_ok (x0 :: x1 :: x2 :: x3 :: x4 :: w :: t) 5 = true) (kk : wm_W l k d mc ms np (x0 :: x1 :: x2 :: x3 :: x4 :: vv_I y :: t) st X Q) : wm_W l k d mc ms pc (x0 :: x1 :: x2 :: x3 :: x4 :: w :: t) (vv_I y :: st) X Q := rr_istore hd (by simp only [List.length_cons]; omega) (Nat.le_of_ble_eq_true hn) ho rfl kk
theorem si_6 {x0 x1 x2 x3 x4 x5 : vv_T} {t : List vv_T} {w : vv_T} {y : Int32} (hd : op_at k pc (.istore 6) 2 np) (hn : Nat.blt 6 k.2.2.1 = true) (ho : ls_ok (x0 :: x1 :: x2 :: x3 :: x4 :: x5 :: w :: t) 6 = true) (kk : wm_W l k d mc ms np (x0 :: x1 :: x2 :: x3 :: x4 :: x5 :: vv_I y :: t) st X Q) : wm_W l k d mc ms pc (x0 :: x1 :: x2 :: x3 :: x4 :: x5 :: w :: t) (vv_I y :: st) X Q := rr_istore hd (by simp only [List.length_cons]; omega) (Nat.le_of_ble_eq_true hn) ho rfl kk
theorem si_7 {x0 x1 x2 x3 x4 x5 x6 : vv_T} {t : List vv_T} {w : vv_T} {y : Int32} (hd : op_at k pc (.istore 7) 2 np) (hn : Nat.blt 7 k.2.2.1 = true) (ho : ls_ok (x0 :: x1 :: x2 :: x3 :: x4 :: x5 :: x6 :: w :: t) 7 = true) (kk : wm_W l k d mc ms np (x0 :: x1 :: x2 :: x3 :: x4 :: x5 :: x6 :: vv_I y :: t) st X Q) : wm_W l k d mc ms pc (x0 :: x1 :: x2 :: x3 :: x4 :: x5 :: x6 :: w :: t) (vv_I y :: st) X Q := rr_istore hd (by simp only [List.length_cons]; omega) (Nat.le_of_ble_eq_true hn) ho rfl kk
theorem si_8 {x0 x1 x2 x3 x4 x5 x6 x7 : vv_T} {t : List vv_T} {w : vv_T} {y : Int32} (hd : op_at k pc (.istore 8) 2 np) (hn : Nat.blt 8 k.2.2.1 = true) (ho : ls_ok (x0 :: x1 :: x2 :: x3 :: x4 :: x5 :: x6 :: x7 :: w :: t) 8 = true) (kk : wm_W l k d mc ms np (x0 :: x1 :: x2 :: x3 :: x4 :: x5 :: x6 :: x7 :: vv_I y :: t) st X Q) : wm_W l k d mc ms pc (x0 :: x1 :: x2 :: x3 :: x4 :: x5 :: x6 :: x7 :: w :: t) (vv_I y :: st) X Q := rr_istore hd (by simp only [List.length_cons]; omega) (Nat.le_of_ble_eq_true hn) ho rfl kk
theorem si_9 {x0 x1 x2 x3 x4 x5 x6 x7 x8 : vv_T} {t : List vv_T} {w : vv_T} {y : Int32} (hd : op_at k pc (.istore 9) 2 np) (hn : Nat.blt 9 k.2.2.1 = true) (ho : ls_ok (x0 :: x1 :: x2 :: x3 :: x4 :: x5 :: x6 :: x7 :: x8 :: w :: t) 9 = true) (kk : wm_W l k d mc ms np (x0 :: x1 :: x2 :: x3 :: x4 :: x5 :: x6 :: x7 :: x8 :: vv_I y :: t) st X Q) : wm_W l k d mc ms pc (x0 :: x1 :: x2 :: x3 :: x4 :: x5 :: x6 :: x7 :: x8 :: w :: t) (vv_I y :: st) X Q := rr_istore hd (by simp only [List.length_cons]; omega) (Nat.le_of_ble_eq_true hn) ho rfl kk
theorem si_10 {x0 x1 x2 x3 x4 x5 x6 x7 x8 x9 : vv_T} {t : List vv_T} {w : vv_T} {y : Int32} (hd : op_at k pc (.istore 10) 2 np) (hn : Nat.blt 10 k.2.2.1 = true) (ho : ls_ok (x0 :: x1 :: x2 :: x3 :: x4 :: x5 :: x6 :: x7 :: x8 :: x9 :: w :: t) 10 = true) (kk : wm_W l k d mc ms np (x0 :: x1 :: x2 :: x3 :: x4 :: x5 :: x6 :: x7 :: x8 :: x9 :: vv_I y :: t) st X Q) : wm_W l k d mc ms pc (x0 :: x1 :: x2 :: x3 :: x4 :: x5 :: x6 :: x7 :: x8 :: x9 :: w :: t) (vv_I y :: st) X Q := rr_istore hd (by simp only [List.length_cons]; omega) (Nat.le_of_ble_eq_true hn) ho rfl kk
theorem sa_1 {x0 : vv_T} {t : List vv_T} {w : vv_T} {y : Nat} (hd : op_at k pc (.astore_n 1) 1 np) (hn : Nat.blt 1 k.2.2.1 = true) (ho : ls_ok (x0 :: w :: t) 1 = true) (kk : wm_W l k d mc ms np (x0 :: vv_A (some y) :: t) st X Q) : wm_W l k d mc ms pc (x0 :: w :: t) (vv_A (some y) :: st) X Q := rr_astore_n hd rfl (by simp only [List.length_cons]; omega) (Nat.le_of_ble_eq_true hn) ho rfl kk
theorem se_1 {x0 : vv_T} {t : List vv_T} {w : vv_T} {y : Nat} (hd : op_at k pc (.astore_n 1) 1 np) (hn : Nat.blt 1 k.2.2.1 = true) (ho : ls_ok (x0 :: w :: t) 1 = true) (kk : wm_W l k d mc ms np (x0 :: vv_E y :: t) st X Q) : wm_W l k d mc ms pc (x0 :: w :: t) (vv_E y :: st) X Q := rr_astore_nE hd rfl (by simp only [List.length_cons]; omega) (Nat.le_of_ble_eq_true hn) ho rfl kk
theorem sa_2 {x0 x1 : vv_T} {t : List vv_T} {w : vv_T} {y : Nat} (hd : op_at k pc (.astore_n 2) 1 np) (hn : Nat.blt 2 k.2.2.1 = true) (ho : ls_ok (x0 :: x1 :: w :: t) 2 = true) (kk : wm_W l k d mc ms np (x0 :: x1 :: vv_A (some y) :: t) st X Q) : wm_W l k d mc ms pc (x0 :: x1 :: w :: t) (vv_A (some y) :: st) X Q := rr_astore_n hd rfl (by simp only [List.length_cons]; omega) (Nat.le_of_ble_eq_true hn) ho rfl kk
theorem se_2 {x0 x1 : vv_T} {t : List vv_T} {w : vv_T} {y : Nat} (hd : op_at k pc (.astore_n 2) 1 np) (hn : Nat.blt 2 k.2.2.1 = true) (ho : ls_ok (x0 :: x1 :: w :: t) 2 = true) (kk : wm_W l k d mc ms np (x0 :: x1 :: vv_E y :: t) st X Q) : wm_W l k d mc ms pc (x0 :: x1 :: w :: t) (vv_E y :: st) X Q := rr_astore_nE hd rfl (by simp only [List.length_cons]; omega) (Nat.le_of_ble_eq_true hn) ho rfl kk
theorem sa_3 {x0 x1 x2 : vv_T} {t : List vv_T} {w : vv_T} {y : Nat} (hd : op_at k pc (.astore_n 3) 1 np) (hn : Nat.blt 3 k.2.2.1 = true) (ho : ls_ok (x0 :: x1 :: x2 :: w :: t) 3 = true) (kk : wm_W l k d mc ms np (x0 :: x1 :: x2 :: vv_A (some y) :: t) st X Q) : wm_W l k d mc ms pc (x0 :: x1 :: x2 :: w :: t) (vv_A (some y) :: st) X Q := rr_astore_n hd rfl (by simp only [List.length_cons]; omega) (Nat.le_of_ble_eq_true hn) ho rfl kk
theorem se_3 {x0 x1 x2 : vv_T} {t : List vv_T} {w : vv_T} {y : Nat} (hd : op_at k pc (.astore_n 3) 1 np) (hn : Nat.blt 3 k.2.2.1 = true) (ho : ls_ok (x0 :: x1 :: x2 :: w :: t) 3 = true) (kk : wm_W l k d mc ms np (x0 :: x1 :: x2 :: vv_E y :: t) st X Q) : wm_W l k d mc ms pc (x0 :: x1 :: x2 :: w :: t) (vv_E y :: st) X Q := rr_astore_nE hd rfl (by simp only [List.length_cons]; omega) (Nat.le_of_ble_eq_true hn) ho rfl kk
theorem rc_1 {x0 : vv_T} {t : List vv_T} {y v : Int32} {c : Int} (hd : op_at k pc (.iinc 1 c) 3 np) (hn : Nat.blt 1 k.2.2.1 = true) (hv : y + Int32.ofInt c = v) (ho : ls_ok (x0 :: vv_I y :: t) 1 = true) (kk : wm_W l k d mc ms np (x0 :: vv_I v :: t) st X Q) : wm_W l k d mc ms pc (x0 :: vv_I y :: t) st X Q := rr_iinc hd rfl hv (Nat.le_of_ble_eq_true hn) ho rfl kk
theorem rn_1 {x0 : vv_T} {t : List vv_T} {y : Nat} (hd : op_at k pc (.iinc 1 1) 3 np) (hn : Nat.blt 1 k.2.2.1 = true) (ho : ls_ok (x0 :: vv_I (nI y) :: t) 1 = true) (kk : wm_W l k d mc ms np (x0 :: vv_I (nI (y + 1)) :: t) st X Q) : wm_W l k d mc ms pc (x0 :: vv_I (nI y) :: t) st X Q := rc_1 hd hn (by rw [← nI_1]; rfl) ho kk
theorem rc_2 {x0 x1 : vv_T} {t : List vv_T} {y v : Int32} {c : Int} (hd : op_at k pc (.iinc 2 c) 3 np) (hn : Nat.blt 2 k.2.2.1 = true) (hv : y + Int32.ofInt c = v) (ho : ls_ok (x0 :: x1 :: vv_I y :: t) 2 = true) (kk : wm_W l k d mc ms np (x0 :: x1 :: vv_I v :: t) st X Q) : wm_W l k d mc ms pc (x0 :: x1 :: vv_I y :: t) st X Q := rr_iinc hd rfl hv (Nat.le_of_ble_eq_true hn) ho rfl kk
theorem rn_2 {x0 x1 : vv_T} {t : List vv_T} {y : Nat} (hd : op_at k pc (.iinc 2 1) 3 np) (hn : Nat.blt 2 k.2.2.1 = true) (ho : ls_ok (x0 :: x1 :: vv_I (nI y) :: t) 2 = true) (kk : wm_W l k d mc ms np (x0 :: x1 :: vv_I (nI (y + 1)) :: t) st X Q) : wm_W l k d mc ms pc (x0 :: x1 :: vv_I (nI y) :: t) st X Q := rc_2 hd hn (by rw [← nI_1]; rfl) ho kk
theorem rc_3 {x0 x1 x2 : vv_T} {t : List vv_T} {y v : Int32} {c : Int} (hd : op_at k pc (.iinc 3 c) 3 np) (hn : Nat.blt 3 k.2.2.1 = true) (hv : y + Int32.ofInt c = v) (ho : ls_ok (x0 :: x1 :: x2 :: vv_I y :: t) 3 = true) (kk : wm_W l k d mc ms np (x0 :: x1 :: x2 :: vv_I v :: t) st X Q) : wm_W l k d mc ms pc (x0 :: x1 :: x2 :: vv_I y :: t) st X Q := rr_iinc hd rfl hv (Nat.le_of_ble_eq_true hn) ho rfl kk
theorem rn_3 {x0 x1 x2 : vv_T} {t : List vv_T} {y : Nat} (hd : op_at k pc (.iinc 3 1) 3 np) (hn : Nat.blt 3 k.2.2.1 = true) (ho : ls_ok (x0 :: x1 :: x2 :: vv_I (nI y) :: t) 3 = true) (kk : wm_W l k d mc ms np (x0 :: x1 :: x2 :: vv_I (nI (y + 1)) :: t) st X Q) : wm_W l k d mc ms pc (x0 :: x1 :: x2 :: vv_I (nI y) :: t) st X Q := rc_3 hd hn (by rw [← nI_1]; rfl) ho kk
theorem rc_4 {x0 x1 x2 x3 : vv_T} {t : List vv_T} {y v : Int32} {c : Int} (hd : op_at k pc (.iinc 4 c) 3 np) (hn : Nat.blt 4 k.2.2.1 = true) (hv : y + Int32.ofInt c = v) (ho : ls_ok (x0 :: x1 :: x2 :: x3 :: vv_I y :: t) 4 = true) (kk : wm_W l k d mc ms np (x0 :: x1 :: x2 :: x3 :: vv_I v :: t) st X Q) : wm_W l k d mc ms pc (x0 :: x1 :: x2 :: x3 :: vv_I y :: t) st X Q := rr_iinc hd rfl hv (Nat.le_of_ble_eq_true hn) ho rfl kk
theorem rn_4 {x0 x1 x2 x3 : vv_T} {t : List vv_T} {y : Nat} (hd : op_at k pc (.iinc 4 1) 3 np) (hn : Nat.blt 4 k.2.2.1 = true) (ho : ls_ok (x0 :: x1 :: x2 :: x3 :: vv_I (nI y) :: t) 4 = true) (kk : wm_W l k d mc ms np (x0 :: x1 :: x2 :: x3 :: vv_I (nI (y + 1)) :: t) st X Q) : wm_W l k d mc ms pc (x0 :: x1 :: x2 :: x3 :: vv_I (nI y) :: t) st X Q := rc_4 hd hn (by rw [← nI_1]; rfl) ho kk
theorem rc_5 {x0 x1 x2 x3 x4 : vv_T} {t : List vv_T} {y v : Int32} {c : Int} (hd : op_at k pc (.iinc 5 c) 3 np) (hn : Nat.blt 5 k.2.2.1 = true) (hv : y + Int32.ofInt c = v) (ho : ls_ok (x0 :: x1 :: x2 :: x3 :: x4 :: vv_I y :: t) 5 = true) (kk : wm_W l k d mc ms np (x0 :: x1 :: x2 :: x3 :: x4 :: vv_I v :: t) st X Q) : wm_W l k d mc ms pc (x0 :: x1 :: x2 :: x3 :: x4 :: vv_I y :: t) st X Q := rr_iinc hd rfl hv (Nat.le_of_ble_eq_true hn) ho rfl kk
theorem rn_5 {x0 x1 x2 x3 x4 : vv_T} {t : List vv_T} {y : Nat} (hd : op_at k pc (.iinc 5 1) 3 np) (hn : Nat.blt 5 k.2.2.1 = true) (ho : ls_ok (x0 :: x1 :: x2 :: x3 :: x4 :: vv_I (nI y) :: t) 5 = true) (kk : wm_W l k d mc ms np (x0 :: x1 :: x2 :: x3 :: x4 :: vv_I (nI (y + 1)) :: t) st X Q) : wm_W l k d mc ms pc (x0 :: x1 :: x2 :: x3 :: x4 :: vv_I (nI y) :: t) st X Q := rc_5 hd hn (by rw [← nI_1]; rfl) ho kk
theorem rc_6 {x0 x1 x2 x3 x4 x5 : vv_T} {t : List vv_T} {y v : Int32} {c : Int} (hd : op_at k pc (.iinc 6 c) 3 np) (hn : Nat.blt 6 k.2.2.1 = true) (hv : y + Int32.ofInt c = v) (ho : ls_ok (x0 :: x1 :: x2 :: x3 :: x4 :: x5 :: vv_I y :: t) 6 = true) (kk : wm_W l k d mc ms np (x0 :: x1 :: x2 :: x3 :: x4 :: x5 :: vv_I v :: t) st X Q) : wm_W l k d mc ms pc (x0 :: x1 :: x2 :: x3 :: x4 :: x5 :: vv_I y :: t) st X Q := rr_iinc hd rfl hv (Nat.le_of_ble_eq_true hn) ho rfl kk
theorem rn_6 {x0 x1 x2 x3 x4 x5 : vv_T} {t : List vv_T} {y : Nat} (hd : op_at k pc (.iinc 6 1) 3 np) (hn : Nat.blt 6 k.2.2.1 = true) (ho : ls_ok (x0 :: x1 :: x2 :: x3 :: x4 :: x5 :: vv_I (nI y) :: t) 6 = true) (kk : wm_W l k d mc ms np (x0 :: x1 :: x2 :: x3 :: x4 :: x5 :: vv_I (nI (y + 1)) :: t) st X Q) : wm_W l k d mc ms pc (x0 :: x1 :: x2 :: x3 :: x4 :: x5 :: vv_I (nI y) :: t) st X Q := rc_6 hd hn (by rw [← nI_1]; rfl) ho kk
theorem rc_7 {x0 x1 x2 x3 x4 x5 x6 : vv_T} {t : List vv_T} {y v : Int32} {c : Int} (hd : op_at k pc (.iinc 7 c) 3 np) (hn : Nat.blt 7 k.2.2.1 = true) (hv : y + Int32.ofInt c = v) (ho : ls_ok (x0 :: x1 :: x2 :: x3 :: x4 :: x5 :: x6 :: vv_I y :: t) 7 = true) (kk : wm_W l k d mc ms np (x0 :: x1 :: x2 :: x3 :: x4 :: x5 :: x6 :: vv_I v :: t) st X Q) : wm_W l k d mc ms pc (x0 :: x1 :: x2 :: x3 :: x4 :: x5 :: x6 :: vv_I y :: t) st X Q := rr_iinc hd rfl hv (Nat.le_of_ble_eq_true hn) ho rfl kk
theorem rn_7 {x0 x1 x2 x3 x4 x5 x6 : vv_T} {t : List vv_T} {y : Nat} (hd : op_at k pc (.iinc 7 1) 3 np) (hn : Nat.blt 7 k.2.2.1 = true) (ho : ls_ok (x0 :: x1 :: x2 :: x3 :: x4 :: x5 :: x6 :: vv_I (nI y) :: t) 7 = true) (kk : wm_W l k d mc ms np (x0 :: x1 :: x2 :: x3 :: x4 :: x5 :: x6 :: vv_I (nI (y + 1)) :: t) st X Q) : wm_W l k d mc ms pc (x0 :: x1 :: x2 :: x3 :: x4 :: x5 :: x6 :: vv_I (nI y) :: t) st X Q := rc_7 hd hn (by rw [← nI_1]; rfl) ho kk
theorem rk_m1 {ls : List vv_T} (hd : op_at k pc (.iconst (-1)) 1 np) (kk : wm_W l k d mc ms np ls (vv_I (-1) :: st) X Q) : wm_W l k d mc ms pc ls st X Q := rr_iconst hd (by decide) kk
theorem rk_0 {ls : List vv_T} (hd : op_at k pc (.iconst 0) 1 np) (kk : wm_W l k d mc ms np ls (vv_I (0) :: st) X Q) : wm_W l k d mc ms pc ls st X Q := rr_iconst hd (by decide) kk
theorem rk_1 {ls : List vv_T} (hd : op_at k pc (.iconst 1) 1 np) (kk : wm_W l k d mc ms np ls (vv_I (1) :: st) X Q) : wm_W l k d mc ms pc ls st X Q := rr_iconst hd (by decide) kk
theorem rk_2 {ls : List vv_T} (hd : op_at k pc (.iconst 2) 1 np) (kk : wm_W l k d mc ms np ls (vv_I (2) :: st) X Q) : wm_W l k d mc ms pc ls st X Q := rr_iconst hd (by decide) kk
theorem rk_3 {ls : List vv_T} (hd : op_at k pc (.iconst 3) 1 np) (kk : wm_W l k d mc ms np ls (vv_I (3) :: st) X Q) : wm_W l k d mc ms pc ls st X Q := rr_iconst hd (by decide) kk
theorem rk_4 {ls : List vv_T} (hd : op_at k pc (.iconst 4) 1 np) (kk : wm_W l k d mc ms np ls (vv_I (4) :: st) X Q) : wm_W l k d mc ms pc ls st X Q := rr_iconst hd (by decide) kk
theorem rk_5 {ls : List vv_T} (hd : op_at k pc (.iconst 5) 1 np) (kk : wm_W l k d mc ms np ls (vv_I (5) :: st) X Q) : wm_W l k d mc ms pc ls st X Q := rr_iconst hd (by decide) kk
end RP
theorem kk_0 : kO 0 = 4 := by decide
theorem kk_1 : kO 1 = 8 ∧ zO 1 = 8 := by decide
theorem kk_2 : kO 2 = 1 := by decide
theorem kk_3 : kO 3 = 6 ∧ zO 3 = 8 := by decide
theorem kk_4 : kO 4 = 6 ∧ zO 4 = 8 := by decide
theorem kk_5 : kO 5 = 6 ∧ zO 5 = 8 := by decide
theorem kk_6 : kO 6 = 6 ∧ zO 6 = 8 := by decide
theorem kk_7 : kO 7 = 6 ∧ zO 7 = 8 := by decide
theorem kk_8 : kO 8 = 6 ∧ zO 8 = 8 := by decide
theorem kk_9 : kO 9 = 6 ∧ zO 9 = 8 := by decide
theorem kk_10 : kO 10 = 1 := by decide
theorem kk_11 : kO 11 = 6 ∧ zO 11 = 8 := by decide
theorem kk_12 : kO 12 = 6 ∧ zO 12 = 8 := by decide
theorem kk_13 : kO 13 = 6 ∧ zO 13 = 8 := by decide
theorem kk_14 : kO 14 = 6 ∧ zO 14 = 8 := by decide
theorem kk_15 : kO 15 = 6 ∧ zO 15 = 8 := by decide
theorem kk_16 : kO 16 = 6 ∧ zO 16 = 8 := by decide
theorem kk_17 : kO 17 = 6 ∧ zO 17 = 8 := by decide
theorem kk_18 : kO 18 = 1 := by decide
theorem kk_19 : kO 19 = 6 ∧ zO 19 = 8 := by decide
theorem kk_20 : kO 20 = 6 ∧ zO 20 = 8 := by decide
theorem kk_21 : kO 21 = 6 ∧ zO 21 = 8 := by decide
theorem kk_22 : kO 22 = 6 ∧ zO 22 = 8 := by decide
theorem kk_23 : kO 23 = 6 ∧ zO 23 = 8 := by decide
theorem kk_24 : kO 24 = 6 ∧ zO 24 = 8 := by decide
theorem kk_25 : kO 25 = 6 ∧ zO 25 = 8 := by decide
theorem kk_26 : kO 26 = 0 := by decide
theorem kk_27 : kO 27 = 6 ∧ zO 27 = 20 := by decide
theorem kk_28 : kO 28 = 6 ∧ zO 28 = 8 := by decide
theorem kk_29 : kO 29 = 6 ∧ zO 29 = 256 := by decide
theorem kk_30 : kO 30 = 3 := by decide
theorem kk_31 : kO 31 = 7 ∧ zO 31 = 160 := by decide
theorem kk_32 : kO 32 = 3 := by decide
theorem kk_33 : kO 33 = 7 ∧ zO 33 = 160 := by decide
theorem kk_34 : kO 34 = 3 := by decide
theorem kk_35 : kO 35 = 7 ∧ zO 35 = 160 := by decide
theorem kk_36 : kO 36 = 3 := by decide
theorem kk_37 : kO 37 = 7 ∧ zO 37 = 160 := by decide
theorem kk_38 : kO 38 = 3 := by decide
theorem kk_39 : kO 39 = 7 ∧ zO 39 = 160 := by decide
theorem kk_40 : kO 40 = 3 := by decide
theorem kk_41 : kO 41 = 7 ∧ zO 41 = 160 := by decide
theorem kk_42 : kO 42 = 3 := by decide
theorem kk_43 : kO 43 = 7 ∧ zO 43 = 160 := by decide
theorem kk_44 : kO 44 = 3 := by decide
theorem kk_45 : kO 45 = 7 ∧ zO 45 = 160 := by decide
theorem kk_46 : kO 46 = 5 := by decide
theorem kk_47 : kO 47 = 6 ∧ zO 47 = 8 := by decide
theorem kk_48 : kO 48 = 6 ∧ zO 48 = 8 := by decide
theorem kk_49 : kO 49 = 6 ∧ zO 49 = 8 := by decide
theorem kk_50 : kO 50 = 6 ∧ zO 50 = 8 := by decide
theorem kk_51 : kO 51 = 6 ∧ zO 51 = 8 := by decide
theorem kk_52 : kO 52 = 6 ∧ zO 52 = 8 := by decide
theorem kk_53 : kO 53 = 6 ∧ zO 53 = 8 := by decide
theorem kk_54 : kO 54 = 6 ∧ zO 54 = 8 := by decide
theorem kk_55 : kO 55 = 6 ∧ zO 55 = 8 := by decide
theorem kk_56 : kO 56 = 6 ∧ zO 56 = 8 := by decide
theorem kk_57 : kO 57 = 6 ∧ zO 57 = 8 := by decide
theorem kk_58 : kO 58 = 6 ∧ zO 58 = 8 := by decide
theorem kk_59 : kO 59 = 7 ∧ zO 59 = 1280 := by decide
theorem kk_60 : kO 60 = 7 ∧ zO 60 = 160 := by decide
theorem kk_61 : kO 61 = 6 ∧ zO 61 = 32 := by decide
theorem kk_62 : kO 62 = 6 ∧ zO 62 = 5 := by decide
theorem kk_63 : kO 63 = 6 ∧ zO 63 = 70 := by decide
theorem kk_64 : kO 64 = 6 ∧ zO 64 = 70 := by decide
theorem kk_65 : kO 65 = 6 ∧ zO 65 = 8 := by decide
theorem kk_66 : kO 66 = 6 ∧ zO 66 = 20 := by decide
theorem gd_2 : gd_T 2 := by unfold gd_T; omega
theorem gd_10 : gd_T 10 := by unfold gd_T; omega
theorem gd_18 : gd_T 18 := by unfold gd_T; omega
theorem hcn_0 : ∀ q : vw_C, mCl[0]? = some q → q.1 = RX0 := fun q hq => by cases hq; rfl
theorem hcn_1 : ∀ q : vw_C, mCl[1]? = some q → q.1 = RX1 := fun q hq => by cases hq; rfl
theorem hcn_2 : ∀ q : vw_C, mCl[2]? = some q → q.1 = RX2 := fun q hq => by cases hq; rfl
theorem hcn_3 : ∀ q : vw_C, mCl[3]? = some q → q.1 = RX3 := fun q hq => by cases hq; rfl
theorem hcn_4 : ∀ q : vw_C, mCl[4]? = some q → q.1 = RX4 := fun q hq => by cases hq; rfl
theorem hcn_5 : ∀ q : vw_C, mCl[5]? = some q → q.1 = RX5 := fun q hq => by cases hq; rfl
theorem pf_4_7 : ∀ q : vw_C, mCl[4]? = some q → (q.2.1 7).2.2.2 = false ∧ parseFieldDescriptor (q.2.1 7).2.2.1 = some .boolean := fun q hq => by cases hq; exact ⟨rfl, by decide +kernel⟩
theorem pf_4_8 : ∀ q : vw_C, mCl[4]? = some q → (q.2.1 8).2.2.2 = false ∧ parseFieldDescriptor (q.2.1 8).2.2.1 = some .int := fun q hq => by cases hq; exact ⟨rfl, by decide +kernel⟩
theorem pf_0_3 : ∀ q : vw_C, mCl[0]? = some q → (q.2.1 3).2.2.2 = false ∧ parseFieldDescriptor (q.2.1 3).2.2.1 = some .int := fun q hq => by cases hq; exact ⟨rfl, by decide +kernel⟩
theorem pf_0_1 : ∀ q : vw_C, mCl[0]? = some q → (q.2.1 1).2.2.2 = false ∧ parseFieldDescriptor (q.2.1 1).2.2.1 = some .int := fun q hq => by cases hq; exact ⟨rfl, by decide +kernel⟩
theorem pf_0_2 : ∀ q : vw_C, mCl[0]? = some q → (q.2.1 2).2.2.2 = false ∧ parseFieldDescriptor (q.2.1 2).2.2.1 = some .int := fun q hq => by cases hq; exact ⟨rfl, by decide +kernel⟩
theorem pf_0_4 : ∀ q : vw_C, mCl[0]? = some q → (q.2.1 4).2.2.2 = false ∧ parseFieldDescriptor (q.2.1 4).2.2.1 = some .int := fun q hq => by cases hq; exact ⟨rfl, by decide +kernel⟩
theorem pf_1_0 : ∀ q : vw_C, mCl[1]? = some q → (q.2.1 0).2.2.2 = false ∧ parseFieldDescriptor (q.2.1 0).2.2.1 = some .int := fun q hq => by cases hq; exact ⟨rfl, by decide +kernel⟩
theorem pf_1_3 : ∀ q : vw_C, mCl[1]? = some q → (q.2.1 3).2.2.2 = false ∧ parseFieldDescriptor (q.2.1 3).2.2.1 = some .int := fun q hq => by cases hq; exact ⟨rfl, by decide +kernel⟩
theorem pf_1_2 : ∀ q : vw_C, mCl[1]? = some q → (q.2.1 2).2.2.2 = false ∧ parseFieldDescriptor (q.2.1 2).2.2.1 = some .int := fun q hq => by cases hq; exact ⟨rfl, by decide +kernel⟩
theorem pf_1_4 : ∀ q : vw_C, mCl[1]? = some q → (q.2.1 4).2.2.2 = false ∧ parseFieldDescriptor (q.2.1 4).2.2.1 = some .int := fun q hq => by cases hq; exact ⟨rfl, by decide +kernel⟩
theorem pf_1_5 : ∀ q : vw_C, mCl[1]? = some q → (q.2.1 5).2.2.2 = false ∧ parseFieldDescriptor (q.2.1 5).2.2.1 = some .int := fun q hq => by cases hq; exact ⟨rfl, by decide +kernel⟩
theorem pf_1_1 : ∀ q : vw_C, mCl[1]? = some q → (q.2.1 1).2.2.2 = false ∧ parseFieldDescriptor (q.2.1 1).2.2.1 = some .int := fun q hq => by cases hq; exact ⟨rfl, by decide +kernel⟩
theorem pf_2_4 : ∀ q : vw_C, mCl[2]? = some q → (q.2.1 4).2.2.2 = false ∧ parseFieldDescriptor (q.2.1 4).2.2.1 = some .int := fun q hq => by cases hq; exact ⟨rfl, by decide +kernel⟩
theorem pf_2_3 : ∀ q : vw_C, mCl[2]? = some q → (q.2.1 3).2.2.2 = false ∧ parseFieldDescriptor (q.2.1 3).2.2.1 = some .int := fun q hq => by cases hq; exact ⟨rfl, by decide +kernel⟩
theorem pf_2_2 : ∀ q : vw_C, mCl[2]? = some q → (q.2.1 2).2.2.2 = false ∧ parseFieldDescriptor (q.2.1 2).2.2.1 = some .int := fun q hq => by cases hq; exact ⟨rfl, by decide +kernel⟩
theorem pf_3_0 : ∀ q : vw_C, mCl[3]? = some q → (q.2.1 0).2.2.2 = false ∧ parseFieldDescriptor (q.2.1 0).2.2.1 = some .int := fun q hq => by cases hq; exact ⟨rfl, by decide +kernel⟩
theorem pf_3_1 : ∀ q : vw_C, mCl[3]? = some q → (q.2.1 1).2.2.2 = false ∧ parseFieldDescriptor (q.2.1 1).2.2.1 = some .int := fun q hq => by cases hq; exact ⟨rfl, by decide +kernel⟩
theorem pf_5_22 : ∀ q : vw_C, mCl[5]? = some q → (q.2.1 22).2.2.2 = false ∧ parseFieldDescriptor (q.2.1 22).2.2.1 = some .int := fun q hq => by cases hq; exact ⟨rfl, by decide +kernel⟩
theorem pf_5_29 : ∀ q : vw_C, mCl[5]? = some q → (q.2.1 29).2.2.2 = false ∧ parseFieldDescriptor (q.2.1 29).2.2.1 = some .int := fun q hq => by cases hq; exact ⟨rfl, by decide +kernel⟩
theorem pf_5_31 : ∀ q : vw_C, mCl[5]? = some q → (q.2.1 31).2.2.2 = false ∧ parseFieldDescriptor (q.2.1 31).2.2.1 = some .int := fun q hq => by cases hq; exact ⟨rfl, by decide +kernel⟩
theorem pf_5_30 : ∀ q : vw_C, mCl[5]? = some q → (q.2.1 30).2.2.2 = false ∧ parseFieldDescriptor (q.2.1 30).2.2.1 = some .int := fun q hq => by cases hq; exact ⟨rfl, by decide +kernel⟩
theorem pf_5_24 : ∀ q : vw_C, mCl[5]? = some q → (q.2.1 24).2.2.2 = false ∧ parseFieldDescriptor (q.2.1 24).2.2.1 = some .int := fun q hq => by cases hq; exact ⟨rfl, by decide +kernel⟩
theorem pf_5_2 : ∀ q : vw_C, mCl[5]? = some q → (q.2.1 2).2.2.2 = false ∧ parseFieldDescriptor (q.2.1 2).2.2.1 = some .int := fun q hq => by cases hq; exact ⟨rfl, by decide +kernel⟩
theorem pf_5_5 : ∀ q : vw_C, mCl[5]? = some q → (q.2.1 5).2.2.2 = false ∧ parseFieldDescriptor (q.2.1 5).2.2.1 = some .int := fun q hq => by cases hq; exact ⟨rfl, by decide +kernel⟩
theorem pf_5_3 : ∀ q : vw_C, mCl[5]? = some q → (q.2.1 3).2.2.2 = false ∧ parseFieldDescriptor (q.2.1 3).2.2.1 = some .int := fun q hq => by cases hq; exact ⟨rfl, by decide +kernel⟩
theorem pf_5_37 : ∀ q : vw_C, mCl[5]? = some q → (q.2.1 37).2.2.2 = false ∧ parseFieldDescriptor (q.2.1 37).2.2.1 = some .boolean := fun q hq => by cases hq; exact ⟨rfl, by decide +kernel⟩
theorem pf_5_23 : ∀ q : vw_C, mCl[5]? = some q → (q.2.1 23).2.2.2 = false ∧ parseFieldDescriptor (q.2.1 23).2.2.1 = some .int := fun q hq => by cases hq; exact ⟨rfl, by decide +kernel⟩
theorem pf_5_36 : ∀ q : vw_C, mCl[5]? = some q → (q.2.1 36).2.2.2 = false ∧ parseFieldDescriptor (q.2.1 36).2.2.1 = some .int := fun q hq => by cases hq; exact ⟨rfl, by decide +kernel⟩
theorem pf_5_4 : ∀ q : vw_C, mCl[5]? = some q → (q.2.1 4).2.2.2 = false ∧ parseFieldDescriptor (q.2.1 4).2.2.1 = some .int := fun q hq => by cases hq; exact ⟨rfl, by decide +kernel⟩
theorem pf_5_1 : ∀ q : vw_C, mCl[5]? = some q → (q.2.1 1).2.2.2 = false ∧ parseFieldDescriptor (q.2.1 1).2.2.1 = some .int := fun q hq => by cases hq; exact ⟨rfl, by decide +kernel⟩
theorem pf_5_0 : ∀ q : vw_C, mCl[5]? = some q → (q.2.1 0).2.2.2 = false ∧ parseFieldDescriptor (q.2.1 0).2.2.1 = some .int := fun q hq => by cases hq; exact ⟨rfl, by decide +kernel⟩
theorem pf_5_25 : ∀ q : vw_C, mCl[5]? = some q → (q.2.1 25).2.2.2 = false ∧ parseFieldDescriptor (q.2.1 25).2.2.1 = some .int := fun q hq => by cases hq; exact ⟨rfl, by decide +kernel⟩
theorem pf_5_33 : ∀ q : vw_C, mCl[5]? = some q → (q.2.1 33).2.2.2 = false ∧ parseFieldDescriptor (q.2.1 33).2.2.1 = some .int := fun q hq => by cases hq; exact ⟨rfl, by decide +kernel⟩
theorem pf_5_34 : ∀ q : vw_C, mCl[5]? = some q → (q.2.1 34).2.2.2 = false ∧ parseFieldDescriptor (q.2.1 34).2.2.1 = some .int := fun q hq => by cases hq; exact ⟨rfl, by decide +kernel⟩
theorem pf_5_26 : ∀ q : vw_C, mCl[5]? = some q → (q.2.1 26).2.2.2 = false ∧ parseFieldDescriptor (q.2.1 26).2.2.1 = some .int := fun q hq => by cases hq; exact ⟨rfl, by decide +kernel⟩
/-- a shelf: the object 30 + 2 s, its row the one behind it -/
def sh_T (a : Nat) : Prop := ∃ s, s < 8 ∧ a = 30 + 2 * s
theorem sh_of {s : Nat} (h : s < 8) : sh_T (30 + 2 * s) := ⟨s, h, rfl⟩
theorem sh_8 {a : Nat} (h : sh_T a) : a = 30 ∨ a = 32 ∨ a = 34 ∨ a = 36 ∨ a = 38 ∨ a = 40 ∨ a = 42 ∨ a = 44 := by obtain ⟨s, h1, h2⟩ := h; omega
theorem sh_k {a : Nat} (h : sh_T a) : kO a = 3 := by rcases sh_8 h with rfl | rfl | rfl | rfl | rfl | rfl | rfl | rfl <;> decide
theorem sh_a {a : Nat} (h : sh_T a) : kO (a + 1) = 7 ∧ zO (a + 1) = 160 := by rcases sh_8 h with rfl | rfl | rfl | rfl | rfl | rfl | rfl | rfl <;> decide
theorem sh_lt {Rf : Nat → Nat → Option Nat} {n a j : Nat} (W : wd_T Rf n) (h : sh_T a) (hj : Nat.blt j 2 = true) : a + j < n := by
  have hj' : j < 2 := by simpa [Nat.blt_eq] using hj
  have := W.1
  obtain ⟨s, h1, h2⟩ := h
  omega
theorem sh_r {Rf : Nat → Nat → Option Nat} {n a : Nat} (W : wd_T Rf n) (h : sh_T a) : Rf a 2 = some (a + 1) := by
  rcases sh_8 h with rfl | rfl | rfl | rfl | rfl | rfl | rfl | rfl <;> (rw [W.2 _ (by omega)]; decide)
theorem sh_q {Rf : Nat → Nat → Option Nat} {n s : Nat} (W : wd_T Rf n) (h : s < 8) : Rf 1 s = some (30 + 2 * s) := by
  rw [W.2 1 (by omega)]
  rcases (show s = 0 ∨ s = 1 ∨ s = 2 ∨ s = 3 ∨ s = 4 ∨ s = 5 ∨ s = 6 ∨ s = 7 by omega) with rfl | rfl | rfl | rfl | rfl | rfl | rfl | rfl <;> decide
theorem q_t {P : Prop} [Decidable P] {X : mx_T} (h : P) : q_i (bI P) X (some (vv_I 1)) X := ⟨by rw [bI_t h], rfl⟩
theorem q_f {P : Prop} [Decidable P] {X : mx_T} (h : ¬ P) : q_i (bI P) X (some (vv_I 0)) X := ⟨by rw [bI_f h], rfl⟩
theorem q_is {v w : Int32} {X : mx_T} (h : v = w) : q_i w X (some (vv_I v)) X := ⟨by rw [h], rfl⟩
theorem nI_lt_iff {a b : Nat} (ha : a < 2 ^ 31) (hb : b < 2 ^ 31) : nI a < nI b ↔ a < b := by rw [Int32.lt_iff_toInt_lt, nI_toInt ha, nI_toInt hb]; omega
theorem nI_le_iff {a b : Nat} (ha : a < 2 ^ 31) (hb : b < 2 ^ 31) : nI a ≤ nI b ↔ a ≤ b := by rw [Int32.le_iff_toInt_le, nI_toInt ha, nI_toInt hb]; omega
theorem nI_inj {a b : Nat} (ha : a < 2 ^ 31) (hb : b < 2 ^ 31) : nI a = nI b ↔ a = b := by
  constructor
  · intro h
    have h2 := congrArg Int32.toInt h
    rw [nI_toInt ha, nI_toInt hb] at h2
    omega
  · rintro rfl; rfl
/-- an index within is a number -/
theorem ix_of {x : Int32} {n : Nat} (h0 : 0 ≤ x) (h1 : x < nI n) (hn : n < 2 ^ 31) : ∃ t, t < n ∧ x = nI t := by
  rw [Int32.le_iff_toInt_le, Int32.toInt_zero] at h0
  rw [Int32.lt_iff_toInt_lt, nI_toInt hn] at h1
  refine ⟨x.toInt.toNat, by omega, ?_⟩
  apply Int32.toInt_inj.mp
  rw [nI_toInt (by omega)]
  omega
