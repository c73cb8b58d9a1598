/-! the small methods (by program: wip/whole/c12.py) -/
theorem c_X4_isShelf (l : Launch) {X : mx_T} {s : Int32}  : wm_C l mX4_isShelf 1 0 0 [vv_I s] X (q_i (bI (0 ≤ s ∧ s < 8)) X) := by
  refine wm_of (by decide) (Nat.le_of_ble_eq_true rfl) rfl ?_
  refine ri_0 oX4_isShelf_0 ?_
  refine rr_if_lt (tgt := 14) oX4_isShelf_1 (by decide) (fun c1 => ?_) (fun c1 => ?_)
  · refine rk_0 oX4_isShelf_14 ?_
    exact rr_ireturn oX4_isShelf_15 rfl rfl (q_f (by grind))
  · refine ri_0 oX4_isShelf_4 ?_
    refine rr_bipush (v := 8) oX4_isShelf_5 (by decide) ?_
    refine rr_icmp_ge (tgt := 14) oX4_isShelf_7 (by decide) (fun c7 => ?_) (fun c7 => ?_)
    · refine rk_0 oX4_isShelf_14 ?_
      exact rr_ireturn oX4_isShelf_15 rfl rfl (q_f (by grind))
    · refine rk_1 oX4_isShelf_10 ?_
      refine rr_goto (tgt := 15) oX4_isShelf_11 (by decide) ?_
      exact rr_ireturn oX4_isShelf_15 rfl rfl (q_t (by grind))
theorem c_X4_isKind (l : Launch) {X : mx_T} {s : Int32}  : wm_C l mX4_isKind 1 0 0 [vv_I s] X (q_i (bI (0 ≤ s ∧ s ≤ 6)) X) := by
  refine wm_of (by decide) (Nat.le_of_ble_eq_true rfl) rfl ?_
  refine ri_0 oX4_isKind_0 ?_
  refine rr_if_lt (tgt := 14) oX4_isKind_1 (by decide) (fun c1 => ?_) (fun c1 => ?_)
  · refine rk_0 oX4_isKind_14 ?_
    exact rr_ireturn oX4_isKind_15 rfl rfl (q_f (by grind))
  · refine ri_0 oX4_isKind_4 ?_
    refine rr_bipush (v := 6) oX4_isKind_5 (by decide) ?_
    refine rr_icmp_gt (tgt := 14) oX4_isKind_7 (by decide) (fun c7 => ?_) (fun c7 => ?_)
    · refine rk_0 oX4_isKind_14 ?_
      exact rr_ireturn oX4_isKind_15 rfl rfl (q_f (by grind))
    · refine rk_1 oX4_isKind_10 ?_
      refine rr_goto (tgt := 15) oX4_isKind_11 (by decide) ?_
      exact rr_ireturn oX4_isKind_15 rfl rfl (q_t (by grind))
theorem c_X4_isHouseKind (l : Launch) {X : mx_T} {s : Int32}  : wm_C l mX4_isHouseKind 1 0 0 [vv_I s] X (q_i (bI (is_H s)) X) := by
  refine wm_of (by decide) (Nat.le_of_ble_eq_true rfl) rfl ?_
  refine ri_0 oX4_isHouseKind_0 ?_
  refine rk_1 oX4_isHouseKind_1 ?_
  refine rr_icmp_eq (tgt := 20) oX4_isHouseKind_2 (by decide) (fun c2 => ?_) (fun c2 => ?_)
  · refine rk_1 oX4_isHouseKind_20 ?_
    refine rr_goto (tgt := 25) oX4_isHouseKind_21 (by decide) ?_
    exact rr_ireturn oX4_isHouseKind_25 rfl rfl (q_t (by grind))
  · refine ri_0 oX4_isHouseKind_5 ?_
    refine rk_3 oX4_isHouseKind_6 ?_
    refine rr_icmp_eq (tgt := 20) oX4_isHouseKind_7 (by decide) (fun c7 => ?_) (fun c7 => ?_)
    · refine rk_1 oX4_isHouseKind_20 ?_
      refine rr_goto (tgt := 25) oX4_isHouseKind_21 (by decide) ?_
      exact rr_ireturn oX4_isHouseKind_25 rfl rfl (q_t (by grind))
    · refine ri_0 oX4_isHouseKind_10 ?_
      refine rk_4 oX4_isHouseKind_11 ?_
      refine rr_icmp_eq (tgt := 20) oX4_isHouseKind_12 (by decide) (fun c12 => ?_) (fun c12 => ?_)
      · refine rk_1 oX4_isHouseKind_20 ?_
        refine rr_goto (tgt := 25) oX4_isHouseKind_21 (by decide) ?_
        exact rr_ireturn oX4_isHouseKind_25 rfl rfl (q_t (by grind))
      · refine ri_0 oX4_isHouseKind_15 ?_
        refine rk_5 oX4_isHouseKind_16 ?_
        refine rr_icmp_ne (tgt := 24) oX4_isHouseKind_17 (by decide) (fun c17 => ?_) (fun c17 => ?_)
        · refine rk_0 oX4_isHouseKind_24 ?_
          exact rr_ireturn oX4_isHouseKind_25 rfl rfl (q_f (by grind))
        · refine rk_1 oX4_isHouseKind_20 ?_
          refine rr_goto (tgt := 25) oX4_isHouseKind_21 (by decide) ?_
          exact rr_ireturn oX4_isHouseKind_25 rfl rfl (q_t (by grind))
theorem c_X4_isTreeKind (l : Launch) {X : mx_T} {s : Int32}  : wm_C l mX4_isTreeKind 1 0 0 [vv_I s] X (q_i (bI (is_Tr s)) X) := by
  refine wm_of (by decide) (Nat.le_of_ble_eq_true rfl) rfl ?_
  refine ri_0 oX4_isTreeKind_0 ?_
  refine rk_2 oX4_isTreeKind_1 ?_
  refine rr_icmp_eq (tgt := 11) oX4_isTreeKind_2 (by decide) (fun c2 => ?_) (fun c2 => ?_)
  · refine rk_1 oX4_isTreeKind_11 ?_
    refine rr_goto (tgt := 16) oX4_isTreeKind_12 (by decide) ?_
    exact rr_ireturn oX4_isTreeKind_16 rfl rfl (q_t (by grind))
  · refine ri_0 oX4_isTreeKind_5 ?_
    refine rr_bipush (v := 6) oX4_isTreeKind_6 (by decide) ?_
    refine rr_icmp_ne (tgt := 15) oX4_isTreeKind_8 (by decide) (fun c8 => ?_) (fun c8 => ?_)
    · refine rk_0 oX4_isTreeKind_15 ?_
      exact rr_ireturn oX4_isTreeKind_16 rfl rfl (q_f (by grind))
    · refine rk_1 oX4_isTreeKind_11 ?_
      refine rr_goto (tgt := 16) oX4_isTreeKind_12 (by decide) ?_
      exact rr_ireturn oX4_isTreeKind_16 rfl rfl (q_t (by grind))
theorem c_X4_isPlace (l : Launch) {X : mx_T} {x y : Int32}  : wm_C l mX4_isPlace 1 0 0 [vv_I x, vv_I y] X (q_i (bI ((0 ≤ x ∧ x ≤ 9) ∧ 0 ≤ y ∧ y ≤ 9)) X) := by
  refine wm_of (by decide) (Nat.le_of_ble_eq_true rfl) rfl ?_
  refine ri_0 oX4_isPlace_0 ?_
  refine rr_if_lt (tgt := 24) oX4_isPlace_1 (by decide) (fun c1 => ?_) (fun c1 => ?_)
  · refine rk_0 oX4_isPlace_24 ?_
    exact rr_ireturn oX4_isPlace_25 rfl rfl (q_f (by grind))
  · refine ri_0 oX4_isPlace_4 ?_
    refine rr_bipush (v := 9) oX4_isPlace_5 (by decide) ?_
    refine rr_icmp_gt (tgt := 24) oX4_isPlace_7 (by decide) (fun c7 => ?_) (fun c7 => ?_)
    · refine rk_0 oX4_isPlace_24 ?_
      exact rr_ireturn oX4_isPlace_25 rfl rfl (q_f (by grind))
    · refine ri_1 oX4_isPlace_10 ?_
      refine rr_if_lt (tgt := 24) oX4_isPlace_11 (by decide) (fun c11 => ?_) (fun c11 => ?_)
      · refine rk_0 oX4_isPlace_24 ?_
        exact rr_ireturn oX4_isPlace_25 rfl rfl (q_f (by grind))
      · refine ri_1 oX4_isPlace_14 ?_
        refine rr_bipush (v := 9) oX4_isPlace_15 (by decide) ?_
        refine rr_icmp_gt (tgt := 24) oX4_isPlace_17 (by decide) (fun c17 => ?_) (fun c17 => ?_)
        · refine rk_0 oX4_isPlace_24 ?_
          exact rr_ireturn oX4_isPlace_25 rfl rfl (q_f (by grind))
        · refine rk_1 oX4_isPlace_20 ?_
          refine rr_goto (tgt := 25) oX4_isPlace_21 (by decide) ?_
          exact rr_ireturn oX4_isPlace_25 rfl rfl (q_t (by grind))
theorem c_X4_isHeight (l : Launch) {X : mx_T} {s : Int32}  : wm_C l mX4_isHeight 1 0 0 [vv_I s] X (q_i (bI (0 ≤ s ∧ s ≤ 20)) X) := by
  refine wm_of (by decide) (Nat.le_of_ble_eq_true rfl) rfl ?_
  refine ri_0 oX4_isHeight_0 ?_
  refine rr_if_lt (tgt := 14) oX4_isHeight_1 (by decide) (fun c1 => ?_) (fun c1 => ?_)
  · refine rk_0 oX4_isHeight_14 ?_
    exact rr_ireturn oX4_isHeight_15 rfl rfl (q_f (by grind))
  · refine ri_0 oX4_isHeight_4 ?_
    refine rr_bipush (v := 20) oX4_isHeight_5 (by decide) ?_
    refine rr_icmp_gt (tgt := 14) oX4_isHeight_7 (by decide) (fun c7 => ?_) (fun c7 => ?_)
    · refine rk_0 oX4_isHeight_14 ?_
      exact rr_ireturn oX4_isHeight_15 rfl rfl (q_f (by grind))
    · refine rk_1 oX4_isHeight_10 ?_
      refine rr_goto (tgt := 15) oX4_isHeight_11 (by decide) ?_
      exact rr_ireturn oX4_isHeight_15 rfl rfl (q_t (by grind))
theorem c_X4_isSummer (l : Launch) {X : mx_T} {s : Int32}  : wm_C l mX4_isSummer 1 0 0 [vv_I s] X (q_i (bI (s = 0 ∨ s = 1)) X) := by
  refine wm_of (by decide) (Nat.le_of_ble_eq_true rfl) rfl ?_
  refine ri_0 oX4_isSummer_0 ?_
  refine rr_if_eq (tgt := 9) oX4_isSummer_1 (by decide) (fun c1 => ?_) (fun c1 => ?_)
  · refine rk_1 oX4_isSummer_9 ?_
    refine rr_goto (tgt := 14) oX4_isSummer_10 (by decide) ?_
    exact rr_ireturn oX4_isSummer_14 rfl rfl (q_t (by grind))
  · refine ri_0 oX4_isSummer_4 ?_
    refine rk_1 oX4_isSummer_5 ?_
    refine rr_icmp_ne (tgt := 13) oX4_isSummer_6 (by decide) (fun c6 => ?_) (fun c6 => ?_)
    · refine rk_0 oX4_isSummer_13 ?_
      exact rr_ireturn oX4_isSummer_14 rfl rfl (q_f (by grind))
    · refine rk_1 oX4_isSummer_9 ?_
      refine rr_goto (tgt := 14) oX4_isSummer_10 (by decide) ?_
      exact rr_ireturn oX4_isSummer_14 rfl rfl (q_t (by grind))
theorem c_X4_isFar (l : Launch) {X : mx_T} {s : Int32}  : wm_C l mX4_isFar 1 0 0 [vv_I s] X (q_i (bI (1 ≤ s ∧ s ≤ 9)) X) := by
  refine wm_of (by decide) (Nat.le_of_ble_eq_true rfl) rfl ?_
  refine ri_0 oX4_isFar_0 ?_
  refine rk_1 oX4_isFar_1 ?_
  refine rr_icmp_lt (tgt := 15) oX4_isFar_2 (by decide) (fun c2 => ?_) (fun c2 => ?_)
  · refine rk_0 oX4_isFar_15 ?_
    exact rr_ireturn oX4_isFar_16 rfl rfl (q_f (by grind))
  · refine ri_0 oX4_isFar_5 ?_
    refine rr_bipush (v := 9) oX4_isFar_6 (by decide) ?_
    refine rr_icmp_gt (tgt := 15) oX4_isFar_8 (by decide) (fun c8 => ?_) (fun c8 => ?_)
    · refine rk_0 oX4_isFar_15 ?_
      exact rr_ireturn oX4_isFar_16 rfl rfl (q_f (by grind))
    · refine rk_1 oX4_isFar_11 ?_
      refine rr_goto (tgt := 16) oX4_isFar_12 (by decide) ?_
      exact rr_ireturn oX4_isFar_16 rfl rfl (q_t (by grind))
theorem c_X4_bit (l : Launch) {X : mx_T} {s : Int32}  : wm_C l mX4_bit 1 0 0 [vv_I s] X (q_i ((1 : Int32) <<< (s &&& 31)) X) := by
  refine wm_of (by decide) (Nat.le_of_ble_eq_true rfl) rfl ?_
  refine rk_1 oX4_bit_0 ?_
  refine ri_0 oX4_bit_1 ?_
  refine rr_ishl oX4_bit_2 ?_
  exact rr_ireturn oX4_bit_3 rfl rfl ⟨rfl, rfl⟩
theorem c_X4_isIn (l : Launch) {X : mx_T} {s t : Int32}  : wm_C l mX4_isIn 2 0 0 [vv_I s, vv_I t] X (q_i (bI (¬ s &&& (1 : Int32) <<< (t &&& 31) = 0)) X) := by
  refine wm_of (by decide) (Nat.le_of_ble_eq_true rfl) rfl ?_
  refine ri_0 oX4_isIn_0 ?_
  refine ri_1 oX4_isIn_1 ?_
  refine rr_cSi (c_X4_bit l) oX4_isIn_2 (cs_X4_191 rfl) (by decide) rfl rfl (Nat.le_of_ble_eq_true rfl) ?_
  refine rr_iand oX4_isIn_5 ?_
  refine rr_if_eq (tgt := 13) oX4_isIn_6 (by decide) (fun c6 => ?_) (fun c6 => ?_)
  · refine rk_0 oX4_isIn_13 ?_
    exact rr_ireturn oX4_isIn_14 rfl rfl (q_f (by grind))
  · refine rk_1 oX4_isIn_9 ?_
    refine rr_goto (tgt := 14) oX4_isIn_10 (by decide) ?_
    exact rr_ireturn oX4_isIn_14 rfl rfl (q_t (by grind))
theorem c_X3_holdsRow (l : Launch) {I : Nat → Nat → Int32} {L : Nat → Nat → Int64} {Rf : Nat → Nat → Option Nat} {n : Nat} {a : Nat} (W : wd_T Rf n) (hs : sh_T a)  : wm_C l mX3_holdsRow 1 0 0 [vv_A (some a)] (I, L, Rf, n) (q_i (bI (100 ≤ I a 0)) (I, L, Rf, n)) := by
  refine wm_of (by decide) (Nat.le_of_ble_eq_true rfl) rfl ?_
  refine ra_0 oX3_holdsRow_0 ?_
  refine rr_gi oX3_holdsRow_1 (ff_X3_9 rfl) (sh_k hs) (sh_lt (j := 0) W hs rfl) ⟨by decide, rfl⟩ ?_
  refine rr_bipush (v := 100) oX3_holdsRow_4 (by decide) ?_
  refine rr_icmp_lt (tgt := 13) oX3_holdsRow_6 (by decide) (fun c6 => ?_) (fun c6 => ?_)
  · refine rk_0 oX3_holdsRow_13 ?_
    exact rr_ireturn oX3_holdsRow_14 rfl rfl (q_f (by grind))
  · refine rk_1 oX3_holdsRow_9 ?_
    refine rr_goto (tgt := 14) oX3_holdsRow_10 (by decide) ?_
    exact rr_ireturn oX3_holdsRow_14 rfl rfl (q_t (by grind))
theorem c_X3_holdsThing (l : Launch) {I : Nat → Nat → Int32} {L : Nat → Nat → Int64} {Rf : Nat → Nat → Option Nat} {n : Nat} {a : Nat} (W : wd_T Rf n) (hs : sh_T a)  : wm_C l mX3_holdsThing 1 0 0 [vv_A (some a)] (I, L, Rf, n) (q_i (bI (0 ≤ I a 0 ∧ I a 0 < 8)) (I, L, Rf, n)) := by
  refine wm_of (by decide) (Nat.le_of_ble_eq_true rfl) rfl ?_
  refine ra_0 oX3_holdsThing_0 ?_
  refine rr_gi oX3_holdsThing_1 (ff_X3_9 rfl) (sh_k hs) (sh_lt (j := 0) W hs rfl) ⟨by decide, rfl⟩ ?_
  refine rr_if_lt (tgt := 20) oX3_holdsThing_4 (by decide) (fun c4 => ?_) (fun c4 => ?_)
  · refine rk_0 oX3_holdsThing_20 ?_
    exact rr_ireturn oX3_holdsThing_21 rfl rfl (q_f (by grind))
  · refine ra_0 oX3_holdsThing_7 ?_
    refine rr_gi oX3_holdsThing_8 (ff_X3_9 rfl) (sh_k hs) (sh_lt (j := 0) W hs rfl) ⟨by decide, rfl⟩ ?_
    refine rr_bipush (v := 8) oX3_holdsThing_11 (by decide) ?_
    refine rr_icmp_ge (tgt := 20) oX3_holdsThing_13 (by decide) (fun c13 => ?_) (fun c13 => ?_)
    · refine rk_0 oX3_holdsThing_20 ?_
      exact rr_ireturn oX3_holdsThing_21 rfl rfl (q_f (by grind))
    · refine rk_1 oX3_holdsThing_16 ?_
      refine rr_goto (tgt := 21) oX3_holdsThing_17 (by decide) ?_
      exact rr_ireturn oX3_holdsThing_21 rfl rfl (q_t (by grind))
theorem c_X3_hasElement (l : Launch) {I : Nat → Nat → Int32} {L : Nat → Nat → Int64} {Rf : Nat → Nat → Option Nat} {n : Nat} {a : Nat} (W : wd_T Rf n) (hs : sh_T a) {s : Int32}  : wm_C l mX3_hasElement 1 0 0 [vv_A (some a), vv_I s] (I, L, Rf, n) (q_i (bI (0 ≤ s ∧ s < I a 1)) (I, L, Rf, n)) := by
  refine wm_of (by decide) (Nat.le_of_ble_eq_true rfl) rfl ?_
  refine ri_1 oX3_hasElement_0 ?_
  refine rr_if_lt (tgt := 16) oX3_hasElement_1 (by decide) (fun c1 => ?_) (fun c1 => ?_)
  · refine rk_0 oX3_hasElement_16 ?_
    exact rr_ireturn oX3_hasElement_17 rfl rfl (q_f (by grind))
  · refine ri_1 oX3_hasElement_4 ?_
    refine ra_0 oX3_hasElement_5 ?_
    refine rr_gi oX3_hasElement_6 (ff_X3_15 rfl) (sh_k hs) (sh_lt (j := 0) W hs rfl) ⟨by decide, rfl⟩ ?_
    refine rr_icmp_ge (tgt := 16) oX3_hasElement_9 (by decide) (fun c9 => ?_) (fun c9 => ?_)
    · refine rk_0 oX3_hasElement_16 ?_
      exact rr_ireturn oX3_hasElement_17 rfl rfl (q_f (by grind))
    · refine rk_1 oX3_hasElement_12 ?_
      refine rr_goto (tgt := 17) oX3_hasElement_13 (by decide) ?_
      exact rr_ireturn oX3_hasElement_17 rfl rfl (q_t (by grind))
theorem c_X3_hasElements (l : Launch) {I : Nat → Nat → Int32} {L : Nat → Nat → Int64} {Rf : Nat → Nat → Option Nat} {n : Nat} {a : Nat} (W : wd_T Rf n) (hs : sh_T a) {s t : Int32}  : wm_C l mX3_hasElements 1 0 0 [vv_A (some a), vv_I s, vv_I t] (I, L, Rf, n) (q_i (bI (0 ≤ s ∧ 0 ≤ t ∧ s ≤ I a 1 - t)) (I, L, Rf, n)) := by
  refine wm_of (by decide) (Nat.le_of_ble_eq_true rfl) rfl ?_
  refine ri_1 oX3_hasElements_0 ?_
  refine rr_if_lt (tgt := 22) oX3_hasElements_1 (by decide) (fun c1 => ?_) (fun c1 => ?_)
  · refine rk_0 oX3_hasElements_22 ?_
    exact rr_ireturn oX3_hasElements_23 rfl rfl (q_f (by grind))
  · refine ri_2 oX3_hasElements_4 ?_
    refine rr_if_lt (tgt := 22) oX3_hasElements_5 (by decide) (fun c5 => ?_) (fun c5 => ?_)
    · refine rk_0 oX3_hasElements_22 ?_
      exact rr_ireturn oX3_hasElements_23 rfl rfl (q_f (by grind))
    · refine ri_1 oX3_hasElements_8 ?_
      refine ra_0 oX3_hasElements_9 ?_
      refine rr_gi oX3_hasElements_10 (ff_X3_15 rfl) (sh_k hs) (sh_lt (j := 0) W hs rfl) ⟨by decide, rfl⟩ ?_
      refine ri_2 oX3_hasElements_13 ?_
      refine rr_isub oX3_hasElements_14 ?_
      refine rr_icmp_gt (tgt := 22) oX3_hasElements_15 (by decide) (fun c15 => ?_) (fun c15 => ?_)
      · refine rk_0 oX3_hasElements_22 ?_
        exact rr_ireturn oX3_hasElements_23 rfl rfl (q_f (by grind))
      · refine rk_1 oX3_hasElements_18 ?_
        refine rr_goto (tgt := 23) oX3_hasElements_19 (by decide) ?_
        exact rr_ireturn oX3_hasElements_23 rfl rfl (q_t (by grind))
theorem c_X1_has (l : Launch) {I : Nat → Nat → Int32} {L : Nat → Nat → Int64} {Rf : Nat → Nat → Option Nat} {n : Nat} {g : Nat} (W : wd_T Rf n) (hg : gd_T g) {s : Int32}  : wm_C l mX1_has 1 0 0 [vv_A (some g), vv_I s] (I, L, Rf, n) (q_i (bI (0 ≤ s ∧ s < I g 0)) (I, L, Rf, n)) := by
  refine wm_of (by decide) (Nat.le_of_ble_eq_true rfl) rfl ?_
  refine ri_1 oX1_has_0 ?_
  refine rr_if_lt (tgt := 16) oX1_has_1 (by decide) (fun c1 => ?_) (fun c1 => ?_)
  · refine rk_0 oX1_has_16 ?_
    exact rr_ireturn oX1_has_17 rfl rfl (q_f (by grind))
  · refine ri_1 oX1_has_4 ?_
    refine ra_0 oX1_has_5 ?_
    refine rr_gi oX1_has_6 (ff_X1_9 rfl) (gd_k hg) (gd_lt (j := 0) W hg rfl) ⟨by decide, rfl⟩ ?_
    refine rr_icmp_ge (tgt := 16) oX1_has_9 (by decide) (fun c9 => ?_) (fun c9 => ?_)
    · refine rk_0 oX1_has_16 ?_
      exact rr_ireturn oX1_has_17 rfl rfl (q_f (by grind))
    · refine rk_1 oX1_has_12 ?_
      refine rr_goto (tgt := 17) oX1_has_13 (by decide) ?_
      exact rr_ireturn oX1_has_17 rfl rfl (q_t (by grind))
theorem c_X1_isFull (l : Launch) {I : Nat → Nat → Int32} {L : Nat → Nat → Int64} {Rf : Nat → Nat → Option Nat} {n : Nat} {g : Nat} (W : wd_T Rf n) (hg : gd_T g)  : wm_C l mX1_isFull 1 0 0 [vv_A (some g)] (I, L, Rf, n) (q_i (bI (8 ≤ I g 0)) (I, L, Rf, n)) := by
  refine wm_of (by decide) (Nat.le_of_ble_eq_true rfl) rfl ?_
  refine ra_0 oX1_isFull_0 ?_
  refine rr_gi oX1_isFull_1 (ff_X1_9 rfl) (gd_k hg) (gd_lt (j := 0) W hg rfl) ⟨by decide, rfl⟩ ?_
  refine rr_bipush (v := 8) oX1_isFull_4 (by decide) ?_
  refine rr_icmp_lt (tgt := 13) oX1_isFull_6 (by decide) (fun c6 => ?_) (fun c6 => ?_)
  · refine rk_0 oX1_isFull_13 ?_
    exact rr_ireturn oX1_isFull_14 rfl rfl (q_f (by grind))
  · refine rk_1 oX1_isFull_9 ?_
    refine rr_goto (tgt := 14) oX1_isFull_10 (by decide) ?_
    exact rr_ireturn oX1_isFull_14 rfl rfl (q_t (by grind))
