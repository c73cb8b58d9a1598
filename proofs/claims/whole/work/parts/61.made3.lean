/-! both sides as made (by program: wip/whole/c61.py) -/
theorem ro_0 : (va_up (va_up (va_up (va_up (va_up (va_up (va_up (fun _ => none) 0 (some 1)) 1 (some 2)) 2 (some 10)) 3 (some 18)) 4 (some 26)) 5 (some 28)) 6 (some 29)) = rO 0 := by
  funext k
  by_cases h : k < 7
  · have e : ∀ k, k < 7 → (va_up (va_up (va_up (va_up (va_up (va_up (va_up (fun _ => none) 0 (some 1)) 1 (some 2)) 2 (some 10)) 3 (some 18)) 4 (some 26)) 5 (some 28)) 6 (some 29)) k = rO 0 k := by decide +kernel
    exact e k h
  · simp only [va_up]
    rw [if_neg (show ¬ k = 6 by omega), if_neg (show ¬ k = 5 by omega), if_neg (show ¬ k = 4 by omega), if_neg (show ¬ k = 3 by omega), if_neg (show ¬ k = 2 by omega), if_neg (show ¬ k = 1 by omega), if_neg (show ¬ k = 0 by omega)]
    obtain ⟨j, rfl⟩ : ∃ j, k = j + 7 := ⟨k - 7, by omega⟩
    rfl
theorem ro_1 : (va_up (va_up (va_up (va_up (va_up (va_up (va_up (va_up (fun _ => none) 0 (some 30)) 1 (some 32)) 2 (some 34)) 3 (some 36)) 4 (some 38)) 5 (some 40)) 6 (some 42)) 7 (some 44)) = rO 1 := by
  funext k
  by_cases h : k < 8
  · have e : ∀ k, k < 8 → (va_up (va_up (va_up (va_up (va_up (va_up (va_up (va_up (fun _ => none) 0 (some 30)) 1 (some 32)) 2 (some 34)) 3 (some 36)) 4 (some 38)) 5 (some 40)) 6 (some 42)) 7 (some 44)) k = rO 1 k := by decide +kernel
    exact e k h
  · simp only [va_up]
    rw [if_neg (show ¬ k = 7 by omega), if_neg (show ¬ k = 6 by omega), if_neg (show ¬ k = 5 by omega), if_neg (show ¬ k = 4 by omega), if_neg (show ¬ k = 3 by omega), if_neg (show ¬ k = 2 by omega), if_neg (show ¬ k = 1 by omega), if_neg (show ¬ k = 0 by omega)]
    obtain ⟨j, rfl⟩ : ∃ j, k = j + 8 := ⟨k - 8, by omega⟩
    rfl
theorem ro_2 : (va_up (va_up (va_up (va_up (va_up (va_up (va_up (fun _ => none) 6 (some 3)) 7 (some 4)) 8 (some 5)) 9 (some 6)) 10 (some 7)) 11 (some 8)) 12 (some 9)) = rO 2 := by
  funext k
  by_cases h : k < 13
  · have e : ∀ k, k < 13 → (va_up (va_up (va_up (va_up (va_up (va_up (va_up (fun _ => none) 6 (some 3)) 7 (some 4)) 8 (some 5)) 9 (some 6)) 10 (some 7)) 11 (some 8)) 12 (some 9)) k = rO 2 k := by decide +kernel
    exact e k h
  · simp only [va_up]
    rw [if_neg (show ¬ k = 12 by omega), if_neg (show ¬ k = 11 by omega), if_neg (show ¬ k = 10 by omega), if_neg (show ¬ k = 9 by omega), if_neg (show ¬ k = 8 by omega), if_neg (show ¬ k = 7 by omega), if_neg (show ¬ k = 6 by omega)]
    unfold rO
    rw [if_neg (by omega), if_pos (by omega), if_neg (by omega)]
theorem ro_10 : (va_up (va_up (va_up (va_up (va_up (va_up (va_up (fun _ => none) 6 (some 11)) 7 (some 12)) 8 (some 13)) 9 (some 14)) 10 (some 15)) 11 (some 16)) 12 (some 17)) = rO 10 := by
  funext k
  by_cases h : k < 13
  · have e : ∀ k, k < 13 → (va_up (va_up (va_up (va_up (va_up (va_up (va_up (fun _ => none) 6 (some 11)) 7 (some 12)) 8 (some 13)) 9 (some 14)) 10 (some 15)) 11 (some 16)) 12 (some 17)) k = rO 10 k := by decide +kernel
    exact e k h
  · simp only [va_up]
    rw [if_neg (show ¬ k = 12 by omega), if_neg (show ¬ k = 11 by omega), if_neg (show ¬ k = 10 by omega), if_neg (show ¬ k = 9 by omega), if_neg (show ¬ k = 8 by omega), if_neg (show ¬ k = 7 by omega), if_neg (show ¬ k = 6 by omega)]
    unfold rO
    rw [if_neg (by omega), if_pos (by omega), if_neg (by omega)]
theorem ro_18 : (va_up (va_up (va_up (va_up (va_up (va_up (va_up (fun _ => none) 6 (some 19)) 7 (some 20)) 8 (some 21)) 9 (some 22)) 10 (some 23)) 11 (some 24)) 12 (some 25)) = rO 18 := by
  funext k
  by_cases h : k < 13
  · have e : ∀ k, k < 13 → (va_up (va_up (va_up (va_up (va_up (va_up (va_up (fun _ => none) 6 (some 19)) 7 (some 20)) 8 (some 21)) 9 (some 22)) 10 (some 23)) 11 (some 24)) 12 (some 25)) k = rO 18 k := by decide +kernel
    exact e k h
  · simp only [va_up]
    rw [if_neg (show ¬ k = 12 by omega), if_neg (show ¬ k = 11 by omega), if_neg (show ¬ k = 10 by omega), if_neg (show ¬ k = 9 by omega), if_neg (show ¬ k = 8 by omega), if_neg (show ¬ k = 7 by omega), if_neg (show ¬ k = 6 by omega)]
    unfold rO
    rw [if_neg (by omega), if_pos (by omega), if_neg (by omega)]
theorem ro_46 : (va_up (va_up (va_up (va_up (va_up (va_up (va_up (va_up (va_up (va_up (va_up (va_up (va_up (va_up (va_up (va_up (va_up (va_up (va_up (va_up (fun _ => none) 6 (some 47)) 7 (some 48)) 8 (some 49)) 9 (some 50)) 10 (some 51)) 11 (some 52)) 12 (some 53)) 13 (some 54)) 14 (some 55)) 15 (some 56)) 16 (some 57)) 17 (some 58)) 18 (some 59)) 19 (some 60)) 20 (some 61)) 21 (some 62)) 27 (some 63)) 28 (some 64)) 32 (some 65)) 35 (some 66)) = rO 46 := by
  funext k
  by_cases h : k < 38
  · have e : ∀ k, k < 38 → (va_up (va_up (va_up (va_up (va_up (va_up (va_up (va_up (va_up (va_up (va_up (va_up (va_up (va_up (va_up (va_up (va_up (va_up (va_up (va_up (fun _ => none) 6 (some 47)) 7 (some 48)) 8 (some 49)) 9 (some 50)) 10 (some 51)) 11 (some 52)) 12 (some 53)) 13 (some 54)) 14 (some 55)) 15 (some 56)) 16 (some 57)) 17 (some 58)) 18 (some 59)) 19 (some 60)) 20 (some 61)) 21 (some 62)) 27 (some 63)) 28 (some 64)) 32 (some 65)) 35 (some 66)) k = rO 46 k := by decide +kernel
    exact e k h
  · simp only [va_up]
    rw [if_neg (show ¬ k = 35 by omega), if_neg (show ¬ k = 32 by omega), if_neg (show ¬ k = 28 by omega), if_neg (show ¬ k = 27 by omega), if_neg (show ¬ k = 21 by omega), if_neg (show ¬ k = 20 by omega), if_neg (show ¬ k = 19 by omega), if_neg (show ¬ k = 18 by omega), if_neg (show ¬ k = 17 by omega), if_neg (show ¬ k = 16 by omega), if_neg (show ¬ k = 15 by omega), if_neg (show ¬ k = 14 by omega), if_neg (show ¬ k = 13 by omega), if_neg (show ¬ k = 12 by omega), if_neg (show ¬ k = 11 by omega), if_neg (show ¬ k = 10 by omega), if_neg (show ¬ k = 9 by omega), if_neg (show ¬ k = 8 by omega), if_neg (show ¬ k = 7 by omega), if_neg (show ¬ k = 6 by omega)]
    unfold rO
    rw [if_neg (by omega), if_neg (by omega), if_neg (by omega), if_neg (by omega), if_pos rfl, if_neg (by omega), if_neg (by omega), if_neg (by omega), if_neg (by omega), if_neg (by omega)]
theorem ro_26 : (va_up (fun _ => none) 0 (some 27)) = rO 26 := by
  funext k
  by_cases h : k < 1
  · have e : ∀ k, k < 1 → (va_up (fun _ => none) 0 (some 27)) k = rO 26 k := by decide +kernel
    exact e k h
  · simp only [va_up]
    rw [if_neg (show ¬ k = 0 by omega)]
    unfold rO
    rw [if_neg (by omega), if_neg (by omega), if_pos rfl, if_neg (by omega)]
theorem ro_30 : (va_up (fun _ => none) 2 (some 31)) = rO 30 := by
  funext k
  by_cases h : k < 3
  · have e : ∀ k, k < 3 → (va_up (fun _ => none) 2 (some 31)) k = rO 30 k := by decide +kernel
    exact e k h
  · simp only [va_up]
    rw [if_neg (show ¬ k = 2 by omega)]
    unfold rO
    rw [if_neg (by omega), if_neg (by omega), if_neg (by omega), if_pos (by omega), if_neg (by omega)]
theorem ro_32 : (va_up (fun _ => none) 2 (some 33)) = rO 32 := by
  funext k
  by_cases h : k < 3
  · have e : ∀ k, k < 3 → (va_up (fun _ => none) 2 (some 33)) k = rO 32 k := by decide +kernel
    exact e k h
  · simp only [va_up]
    rw [if_neg (show ¬ k = 2 by omega)]
    unfold rO
    rw [if_neg (by omega), if_neg (by omega), if_neg (by omega), if_pos (by omega), if_neg (by omega)]
theorem ro_34 : (va_up (fun _ => none) 2 (some 35)) = rO 34 := by
  funext k
  by_cases h : k < 3
  · have e : ∀ k, k < 3 → (va_up (fun _ => none) 2 (some 35)) k = rO 34 k := by decide +kernel
    exact e k h
  · simp only [va_up]
    rw [if_neg (show ¬ k = 2 by omega)]
    unfold rO
    rw [if_neg (by omega), if_neg (by omega), if_neg (by omega), if_pos (by omega), if_neg (by omega)]
theorem ro_36 : (va_up (fun _ => none) 2 (some 37)) = rO 36 := by
  funext k
  by_cases h : k < 3
  · have e : ∀ k, k < 3 → (va_up (fun _ => none) 2 (some 37)) k = rO 36 k := by decide +kernel
    exact e k h
  · simp only [va_up]
    rw [if_neg (show ¬ k = 2 by omega)]
    unfold rO
    rw [if_neg (by omega), if_neg (by omega), if_neg (by omega), if_pos (by omega), if_neg (by omega)]
theorem ro_38 : (va_up (fun _ => none) 2 (some 39)) = rO 38 := by
  funext k
  by_cases h : k < 3
  · have e : ∀ k, k < 3 → (va_up (fun _ => none) 2 (some 39)) k = rO 38 k := by decide +kernel
    exact e k h
  · simp only [va_up]
    rw [if_neg (show ¬ k = 2 by omega)]
    unfold rO
    rw [if_neg (by omega), if_neg (by omega), if_neg (by omega), if_pos (by omega), if_neg (by omega)]
theorem ro_40 : (va_up (fun _ => none) 2 (some 41)) = rO 40 := by
  funext k
  by_cases h : k < 3
  · have e : ∀ k, k < 3 → (va_up (fun _ => none) 2 (some 41)) k = rO 40 k := by decide +kernel
    exact e k h
  · simp only [va_up]
    rw [if_neg (show ¬ k = 2 by omega)]
    unfold rO
    rw [if_neg (by omega), if_neg (by omega), if_neg (by omega), if_pos (by omega), if_neg (by omega)]
theorem ro_42 : (va_up (fun _ => none) 2 (some 43)) = rO 42 := by
  funext k
  by_cases h : k < 3
  · have e : ∀ k, k < 3 → (va_up (fun _ => none) 2 (some 43)) k = rO 42 k := by decide +kernel
    exact e k h
  · simp only [va_up]
    rw [if_neg (show ¬ k = 2 by omega)]
    unfold rO
    rw [if_neg (by omega), if_neg (by omega), if_neg (by omega), if_pos (by omega), if_neg (by omega)]
theorem ro_44 : (va_up (fun _ => none) 2 (some 45)) = rO 44 := by
  funext k
  by_cases h : k < 3
  · have e : ∀ k, k < 3 → (va_up (fun _ => none) 2 (some 45)) k = rO 44 k := by decide +kernel
    exact e k h
  · simp only [va_up]
    rw [if_neg (show ¬ k = 2 by omega)]
    unfold rO
    rw [if_neg (by omega), if_neg (by omega), if_neg (by omega), if_pos (by omega), if_neg (by omega)]
theorem ro_no {a : Nat} (h : a = 3 ∨ a = 4 ∨ a = 5 ∨ a = 6 ∨ a = 7 ∨ a = 8 ∨ a = 9 ∨ a = 11 ∨ a = 12 ∨ a = 13 ∨ a = 14 ∨ a = 15 ∨ a = 16 ∨ a = 17 ∨ a = 19 ∨ a = 20 ∨ a = 21 ∨ a = 22 ∨ a = 23 ∨ a = 24 ∨ a = 25 ∨ a = 27 ∨ a = 28 ∨ a = 29 ∨ a = 31 ∨ a = 33 ∨ a = 35 ∨ a = 37 ∨ a = 39 ∨ a = 41 ∨ a = 43 ∨ a = 45 ∨ a = 47 ∨ a = 48 ∨ a = 49 ∨ a = 50 ∨ a = 51 ∨ a = 52 ∨ a = 53 ∨ a = 54 ∨ a = 55 ∨ a = 56 ∨ a = 57 ∨ a = 58 ∨ a = 59 ∨ a = 60 ∨ a = 61 ∨ a = 62 ∨ a = 63 ∨ a = 64 ∨ a = 65 ∨ a = 66) : (fun _ => none) = rO a := by
  rcases h with rfl | rfl | rfl | rfl | rfl | rfl | rfl | rfl | rfl | rfl | rfl | rfl | rfl | rfl | rfl | rfl | rfl | rfl | rfl | rfl | rfl | rfl | rfl | rfl | rfl | rfl | rfl | rfl | rfl | rfl | rfl | rfl | rfl | rfl | rfl | rfl | rfl | rfl | rfl | rfl | rfl | rfl | rfl | rfl | rfl | rfl | rfl | rfl | rfl | rfl | rfl | rfl <;> (funext k; rfl)
def G_0 : gr_T := (0, fun _ => 0, fun _ => 0, fun _ => 0, fun _ => 0, fun _ => 0, 1, 9)
def B_0 : gb_T := (G_0, fun _ => false, fun _ _ => false, 0, 1)
/-- the state at the start -/
def S_0 : sg_T := (B_0, (false, B_0), fun _ => 0, -1, fun _ => -1, fun _ => 0, fun _ _ => 0, fun _ => 0, 0)
theorem gI_0 : gI_T B_0 := ⟨Nat.zero_le _, fun t h => absurd h (Nat.not_lt_zero t), fun t h => absurd h (Nat.not_lt_zero t), fun t h => (by cases h), fun j i h => (by cases h), fun t h => absurd h (Nat.not_lt_zero t), Or.inr rfl, fun t h => absurd h (Nat.not_lt_zero t)⟩
theorem IV_0 : IV_T S_0 := ⟨gI_0, fun h => (by cases h), fun s _ => Or.inl rfl⟩
theorem zr_ne {I : Nat → Nat → Int32} {n a : Nat} (h : a ≠ n) : zr_I I n a = I a := if_neg h
theorem zr_Rne {I : Nat → Nat → Option Nat} {n a : Nat} (h : a ≠ n) : zr_R I n a = I a := if_neg h
theorem zr_Lne {I : Nat → Nat → Int64} {n a : Nat} (h : a ≠ n) : zr_L I n a = I a := if_neg h
theorem c_X4_init (l : Launch) {I : Nat → Nat → Int32} {L : Nat → Nat → Int64} : wm_C l mX4_init 3 45 1808 [vv_A (some 0)] (zr_I I 0, L, zr_R (fun _ _ => none) 0, 1) (q_V (fun Y => ∃ J M R2, Y = (J, M, R2, 46) ∧ CR_T J M S_0 ∧ (∀ a, a < 46 → R2 a = rO a) ∧ ∀ a, 46 ≤ a → R2 a = fun _ => none)) := by
  refine wm_of (by decide) (Nat.le_of_ble_eq_true rfl) rfl ?_
  refine ra_0 oX4_init_0 ?_
  refine rr_objI oX4_init_1 ⟨gw_in (i := 98) (by decide +kernel) (by decide +kernel), gw_in (i := 99) (by decide +kernel) (by decide +kernel), gw_in (i := 100) (by decide +kernel) (by decide +kernel)⟩ (by decide) (Nat.le_of_ble_eq_true rfl) ?_
  refine ra_0 oX4_init_4 ?_
  refine rr_bipush (v := 8) oX4_init_5 (by decide) ?_
  refine rr_newQ (z := 8) oX4_init_7 (gw_in (i := 101) (by decide +kernel) (by decide +kernel)) (by decide) (by decide) (by decide) rfl rfl ?_
  refine rr_putr oX4_init_10 (ff_X4_11 rfl) (by decide) (by decide) ⟨by decide, rfl⟩ pr_4_0 (fun _ => rfl) (fun _ => rfl) (by decide) ?_
  refine ra_0 oX4_init_13 ?_
  refine rr_new (ci := 1) oX4_init_14 (nw_X4_15 rfl) (by decide) (by decide) rfl rfl ?_
  refine rr_dup oX4_init_17 rfl ?_
  refine rr_cINq (c_X1_init l gd_2) oX4_init_18 (cn_X4_17 rfl) (by decide) rfl rfl (Nat.le_of_ble_eq_true rfl) rfl rfl ?_
  refine rr_putr oX4_init_21 (ff_X4_18 rfl) (by decide) (by decide) ⟨by decide, rfl⟩ pr_4_1 (fun _ => rfl) (fun _ => rfl) (by decide) ?_
  refine ra_0 oX4_init_24 ?_
  refine rr_new (ci := 1) oX4_init_25 (nw_X4_15 rfl) (by decide) (by decide) rfl rfl ?_
  refine rr_dup oX4_init_28 rfl ?_
  refine rr_cINq (c_X1_init l gd_10) oX4_init_29 (cn_X4_17 rfl) (by decide) rfl rfl (Nat.le_of_ble_eq_true rfl) rfl rfl ?_
  refine rr_putr oX4_init_32 (ff_X4_22 rfl) (by decide) (by decide) ⟨by decide, rfl⟩ pr_4_2 (fun _ => rfl) (fun _ => rfl) (by decide) ?_
  refine ra_0 oX4_init_35 ?_
  refine rr_new (ci := 1) oX4_init_36 (nw_X4_15 rfl) (by decide) (by decide) rfl rfl ?_
  refine rr_dup oX4_init_39 rfl ?_
  refine rr_cINq (c_X1_init l gd_18) oX4_init_40 (cn_X4_17 rfl) (by decide) rfl rfl (Nat.le_of_ble_eq_true rfl) rfl rfl ?_
  refine rr_putr oX4_init_43 (ff_X4_25 rfl) (by decide) (by decide) ⟨by decide, rfl⟩ pr_4_3 (fun _ => rfl) (fun _ => rfl) (by decide) ?_
  refine ra_0 oX4_init_46 ?_
  refine rr_new (ci := 0) oX4_init_47 (nw_X4_28 rfl) (by decide) (by decide) rfl rfl ?_
  refine rr_dup oX4_init_50 rfl ?_
  refine rr_cINq (c_X0_init l) oX4_init_51 (cn_X4_30 rfl) (by decide) rfl rfl (Nat.le_of_ble_eq_true rfl) rfl rfl ?_
  refine rr_putr oX4_init_54 (ff_X4_31 rfl) (by decide) (by decide) ⟨by decide, rfl⟩ pr_4_4 (fun _ => rfl) (fun _ => rfl) (by decide) ?_
  refine ra_0 oX4_init_57 ?_
  refine rr_bipush (v := 8) oX4_init_58 (by decide) ?_
  refine rr_newI (z := 8) oX4_init_60 (gw_in (i := 166) (by decide +kernel) (by decide +kernel)) (by decide) (by decide) (by decide) rfl rfl ?_
  refine rr_putr oX4_init_62 (ff_X4_35 rfl) (by decide) (by decide) ⟨by decide, rfl⟩ pr_4_5 (fun _ => rfl) (fun _ => rfl) (by decide) ?_
  refine ra_0 oX4_init_65 ?_
  refine rr_sipush (v := 256) oX4_init_66 (by decide) ?_
  refine rr_newI (z := 256) oX4_init_69 (gw_in (i := 166) (by decide +kernel) (by decide +kernel)) (by decide) (by decide) (by decide) rfl rfl ?_
  refine rr_putr oX4_init_71 (ff_X4_39 rfl) (by decide) (by decide) ⟨by decide, rfl⟩ pr_4_6 (fun _ => rfl) (fun _ => rfl) (by decide) ?_
  refine ra_0 oX4_init_74 ?_
  refine rk_0 oX4_init_75 ?_
  refine rr_pi oX4_init_76 (ff_X4_42 rfl) (by decide) (by decide) ⟨by decide, rfl, by decide⟩ pf_4_7 ⟨rfl, rfl⟩ ?_
  refine ra_0 oX4_init_79 ?_
  refine rk_m1 oX4_init_80 ?_
  refine rr_pi oX4_init_81 (ff_X4_46 rfl) (by decide) (by decide) ⟨by decide, rfl, by decide⟩ pf_4_8 ⟨rfl, rfl⟩ ?_
  refine rk_0 oX4_init_84 ?_
  refine si_1 oX4_init_85 rfl rfl ?_
  refine ri_1 oX4_init_86 ?_
  refine rr_bipush (v := 8) oX4_init_87 (by decide) ?_
  refine rr_icmp_ge (tgt := 111) oX4_init_89 (by decide) (fun q => absurd q (by decide)) (fun _ => ?_)
  refine ra_0 oX4_init_92 ?_
  refine rr_gr (v := 1) oX4_init_93 (ff_X4_11 rfl) (by decide) (by decide) ⟨by decide, rfl⟩ rfl ?_
  refine ri_1 oX4_init_96 ?_
  refine rr_new (ci := 3) oX4_init_97 (nw_X4_9 rfl) (by decide) (by decide) rfl rfl ?_
  refine rr_dup oX4_init_100 rfl ?_
  refine rr_cINq (c_X3_init l (r := 30) (sh_of (s := 0) (by decide))) oX4_init_101 (cn_X4_50 rfl) (by decide) rfl rfl (Nat.le_of_ble_eq_true rfl) rfl rfl ?_
  refine rr_aast oX4_init_104 (show kO 1 = 8 ∧ zO 1 = 8 from by decide) (by decide) (by decide) (by decide) (show ¬ (_ ∨ _) from by decide) ?_
  refine rc_1 (v := 1) oX4_init_105 rfl (by decide) rfl ?_
  refine rr_goto (tgt := 86) oX4_init_108 (by decide) ?_
  refine ri_1 oX4_init_86 ?_
  refine rr_bipush (v := 8) oX4_init_87 (by decide) ?_
  refine rr_icmp_ge (tgt := 111) oX4_init_89 (by decide) (fun q => absurd q (by decide)) (fun _ => ?_)
  refine ra_0 oX4_init_92 ?_
  refine rr_gr (v := 1) oX4_init_93 (ff_X4_11 rfl) (by decide) (by decide) ⟨by decide, rfl⟩ rfl ?_
  refine ri_1 oX4_init_96 ?_
  refine rr_new (ci := 3) oX4_init_97 (nw_X4_9 rfl) (by decide) (by decide) rfl rfl ?_
  refine rr_dup oX4_init_100 rfl ?_
  refine rr_cINq (c_X3_init l (r := 32) (sh_of (s := 1) (by decide))) oX4_init_101 (cn_X4_50 rfl) (by decide) rfl rfl (Nat.le_of_ble_eq_true rfl) rfl rfl ?_
  refine rr_aast oX4_init_104 (show kO 1 = 8 ∧ zO 1 = 8 from by decide) (by decide) (by decide) (by decide) (show ¬ (_ ∨ _) from by decide) ?_
  refine rc_1 (v := 2) oX4_init_105 rfl (by decide) rfl ?_
  refine rr_goto (tgt := 86) oX4_init_108 (by decide) ?_
  refine ri_1 oX4_init_86 ?_
  refine rr_bipush (v := 8) oX4_init_87 (by decide) ?_
  refine rr_icmp_ge (tgt := 111) oX4_init_89 (by decide) (fun q => absurd q (by decide)) (fun _ => ?_)
  refine ra_0 oX4_init_92 ?_
  refine rr_gr (v := 1) oX4_init_93 (ff_X4_11 rfl) (by decide) (by decide) ⟨by decide, rfl⟩ rfl ?_
  refine ri_1 oX4_init_96 ?_
  refine rr_new (ci := 3) oX4_init_97 (nw_X4_9 rfl) (by decide) (by decide) rfl rfl ?_
  refine rr_dup oX4_init_100 rfl ?_
  refine rr_cINq (c_X3_init l (r := 34) (sh_of (s := 2) (by decide))) oX4_init_101 (cn_X4_50 rfl) (by decide) rfl rfl (Nat.le_of_ble_eq_true rfl) rfl rfl ?_
  refine rr_aast oX4_init_104 (show kO 1 = 8 ∧ zO 1 = 8 from by decide) (by decide) (by decide) (by decide) (show ¬ (_ ∨ _) from by decide) ?_
  refine rc_1 (v := 3) oX4_init_105 rfl (by decide) rfl ?_
  refine rr_goto (tgt := 86) oX4_init_108 (by decide) ?_
  refine ri_1 oX4_init_86 ?_
  refine rr_bipush (v := 8) oX4_init_87 (by decide) ?_
  refine rr_icmp_ge (tgt := 111) oX4_init_89 (by decide) (fun q => absurd q (by decide)) (fun _ => ?_)
  refine ra_0 oX4_init_92 ?_
  refine rr_gr (v := 1) oX4_init_93 (ff_X4_11 rfl) (by decide) (by decide) ⟨by decide, rfl⟩ rfl ?_
  refine ri_1 oX4_init_96 ?_
  refine rr_new (ci := 3) oX4_init_97 (nw_X4_9 rfl) (by decide) (by decide) rfl rfl ?_
  refine rr_dup oX4_init_100 rfl ?_
  refine rr_cINq (c_X3_init l (r := 36) (sh_of (s := 3) (by decide))) oX4_init_101 (cn_X4_50 rfl) (by decide) rfl rfl (Nat.le_of_ble_eq_true rfl) rfl rfl ?_
  refine rr_aast oX4_init_104 (show kO 1 = 8 ∧ zO 1 = 8 from by decide) (by decide) (by decide) (by decide) (show ¬ (_ ∨ _) from by decide) ?_
  refine rc_1 (v := 4) oX4_init_105 rfl (by decide) rfl ?_
  refine rr_goto (tgt := 86) oX4_init_108 (by decide) ?_
  refine ri_1 oX4_init_86 ?_
  refine rr_bipush (v := 8) oX4_init_87 (by decide) ?_
  refine rr_icmp_ge (tgt := 111) oX4_init_89 (by decide) (fun q => absurd q (by decide)) (fun _ => ?_)
  refine ra_0 oX4_init_92 ?_
  refine rr_gr (v := 1) oX4_init_93 (ff_X4_11 rfl) (by decide) (by decide) ⟨by decide, rfl⟩ rfl ?_
  refine ri_1 oX4_init_96 ?_
  refine rr_new (ci := 3) oX4_init_97 (nw_X4_9 rfl) (by decide) (by decide) rfl rfl ?_
  refine rr_dup oX4_init_100 rfl ?_
  refine rr_cINq (c_X3_init l (r := 38) (sh_of (s := 4) (by decide))) oX4_init_101 (cn_X4_50 rfl) (by decide) rfl rfl (Nat.le_of_ble_eq_true rfl) rfl rfl ?_
  refine rr_aast oX4_init_104 (show kO 1 = 8 ∧ zO 1 = 8 from by decide) (by decide) (by decide) (by decide) (show ¬ (_ ∨ _) from by decide) ?_
  refine rc_1 (v := 5) oX4_init_105 rfl (by decide) rfl ?_
  refine rr_goto (tgt := 86) oX4_init_108 (by decide) ?_
  refine ri_1 oX4_init_86 ?_
  refine rr_bipush (v := 8) oX4_init_87 (by decide) ?_
  refine rr_icmp_ge (tgt := 111) oX4_init_89 (by decide) (fun q => absurd q (by decide)) (fun _ => ?_)
  refine ra_0 oX4_init_92 ?_
  refine rr_gr (v := 1) oX4_init_93 (ff_X4_11 rfl) (by decide) (by decide) ⟨by decide, rfl⟩ rfl ?_
  refine ri_1 oX4_init_96 ?_
  refine rr_new (ci := 3) oX4_init_97 (nw_X4_9 rfl) (by decide) (by decide) rfl rfl ?_
  refine rr_dup oX4_init_100 rfl ?_
  refine rr_cINq (c_X3_init l (r := 40) (sh_of (s := 5) (by decide))) oX4_init_101 (cn_X4_50 rfl) (by decide) rfl rfl (Nat.le_of_ble_eq_true rfl) rfl rfl ?_
  refine rr_aast oX4_init_104 (show kO 1 = 8 ∧ zO 1 = 8 from by decide) (by decide) (by decide) (by decide) (show ¬ (_ ∨ _) from by decide) ?_
  refine rc_1 (v := 6) oX4_init_105 rfl (by decide) rfl ?_
  refine rr_goto (tgt := 86) oX4_init_108 (by decide) ?_
  refine ri_1 oX4_init_86 ?_
  refine rr_bipush (v := 8) oX4_init_87 (by decide) ?_
  refine rr_icmp_ge (tgt := 111) oX4_init_89 (by decide) (fun q => absurd q (by decide)) (fun _ => ?_)
  refine ra_0 oX4_init_92 ?_
  refine rr_gr (v := 1) oX4_init_93 (ff_X4_11 rfl) (by decide) (by decide) ⟨by decide, rfl⟩ rfl ?_
  refine ri_1 oX4_init_96 ?_
  refine rr_new (ci := 3) oX4_init_97 (nw_X4_9 rfl) (by decide) (by decide) rfl rfl ?_
  refine rr_dup oX4_init_100 rfl ?_
  refine rr_cINq (c_X3_init l (r := 42) (sh_of (s := 6) (by decide))) oX4_init_101 (cn_X4_50 rfl) (by decide) rfl rfl (Nat.le_of_ble_eq_true rfl) rfl rfl ?_
  refine rr_aast oX4_init_104 (show kO 1 = 8 ∧ zO 1 = 8 from by decide) (by decide) (by decide) (by decide) (show ¬ (_ ∨ _) from by decide) ?_
  refine rc_1 (v := 7) oX4_init_105 rfl (by decide) rfl ?_
  refine rr_goto (tgt := 86) oX4_init_108 (by decide) ?_
  refine ri_1 oX4_init_86 ?_
  refine rr_bipush (v := 8) oX4_init_87 (by decide) ?_
  refine rr_icmp_ge (tgt := 111) oX4_init_89 (by decide) (fun q => absurd q (by decide)) (fun _ => ?_)
  refine ra_0 oX4_init_92 ?_
  refine rr_gr (v := 1) oX4_init_93 (ff_X4_11 rfl) (by decide) (by decide) ⟨by decide, rfl⟩ rfl ?_
  refine ri_1 oX4_init_96 ?_
  refine rr_new (ci := 3) oX4_init_97 (nw_X4_9 rfl) (by decide) (by decide) rfl rfl ?_
  refine rr_dup oX4_init_100 rfl ?_
  refine rr_cINq (c_X3_init l (r := 44) (sh_of (s := 7) (by decide))) oX4_init_101 (cn_X4_50 rfl) (by decide) rfl rfl (Nat.le_of_ble_eq_true rfl) rfl rfl ?_
  refine rr_aast oX4_init_104 (show kO 1 = 8 ∧ zO 1 = 8 from by decide) (by decide) (by decide) (by decide) (show ¬ (_ ∨ _) from by decide) ?_
  refine rc_1 (v := 8) oX4_init_105 rfl (by decide) rfl ?_
  refine rr_goto (tgt := 86) oX4_init_108 (by decide) ?_
  refine ri_1 oX4_init_86 ?_
  refine rr_bipush (v := 8) oX4_init_87 (by decide) ?_
  refine rr_icmp_ge (tgt := 111) oX4_init_89 (by decide) (fun _ => ?_) (fun q => absurd q (by decide))
  exact rr_return oX4_init_111 rfl (by
    refine ⟨rfl, _, _, _, rfl, ?_, fun a ha => ?_, fun a ha => ?_⟩
    · refine ⟨⟨⟨⟨Nat.zero_le _, rfl, rfl, rfl, fun t h => absurd h (Nat.not_lt_zero t)⟩, st_0.symm, fun j _ => st_0.symm⟩, rfl, rfl⟩, rfl, (fun h => by cases h), fun k _ => rfl, rfl, fun s hs => ?_, fun k _ => rfl, rfl⟩
      rcases (show s = 0 ∨ s = 1 ∨ s = 2 ∨ s = 3 ∨ s = 4 ∨ s = 5 ∨ s = 6 ∨ s = 7 by omega) with rfl | rfl | rfl | rfl | rfl | rfl | rfl | rfl
      · exact ⟨rfl, rfl, fun k _ => rfl⟩
      · exact ⟨rfl, rfl, fun k _ => rfl⟩
      · exact ⟨rfl, rfl, fun k _ => rfl⟩
      · exact ⟨rfl, rfl, fun k _ => rfl⟩
      · exact ⟨rfl, rfl, fun k _ => rfl⟩
      · exact ⟨rfl, rfl, fun k _ => rfl⟩
      · exact ⟨rfl, rfl, fun k _ => rfl⟩
      · exact ⟨rfl, rfl, fun k _ => rfl⟩
    · by_cases h0 : a = 0
      · subst h0; exact ro_0
      by_cases h1 : a = 1
      · subst h1; exact ro_1
      by_cases h2 : a = 2
      · subst h2; exact ro_2
      by_cases h3 : a = 10
      · subst h3; exact ro_10
      by_cases h4 : a = 18
      · subst h4; exact ro_18
      by_cases h5 : a = 26
      · subst h5; exact ro_26
      by_cases k30 : a = 30
      · subst k30; exact ro_30
      by_cases k32 : a = 32
      · subst k32; exact ro_32
      by_cases k34 : a = 34
      · subst k34; exact ro_34
      by_cases k36 : a = 36
      · subst k36; exact ro_36
      by_cases k38 : a = 38
      · subst k38; exact ro_38
      by_cases k40 : a = 40
      · subst k40; exact ro_40
      by_cases k42 : a = 42
      · subst k42; exact ro_42
      by_cases k44 : a = 44
      · subst k44; exact ro_44
      refine Eq.trans ?_ (ro_no (a := a) (by omega))
      unfold gz_R
      repeat (first | rw [up_R_ne (by omega)] | rw [zr_Rne (by omega)])
    · unfold gz_R
      repeat (first | rw [up_R_ne (by omega)] | rw [zr_Rne (by omega)]))
theorem wd_61 : ∀ k, k < 32 → (upd (upd (upd (upd (upd (upd (upd (upd (upd (upd (upd (upd (upd (upd (upd (upd (upd (upd (upd (upd (upd (upd (upd (upd (upd (upd (upd (upd (upd (upd (upd (upd (fun _ => 0) 0 116) 1 104) 2 105) 3 110) 4 103) 5 32) 6 0) 7 115) 8 117) 9 109) 10 109) 11 101) 12 114) 13 32) 14 0) 15 102) 16 97) 17 114) 18 32) 19 0) 20 115) 21 104) 22 117) 23 116) 24 32) 25 0) 26 100) 27 114) 28 97) 29 119) 30 32) 31 0) k = wd_W k := by decide +kernel
theorem c_X5_init (l : Launch) {J : Nat → Nat → Int32} {L : Nat → Nat → Int64} {R : Nat → Nat → Option Nat} (hR : ∀ a, a < 46 → R a = rO a) (hR2 : ∀ a, 46 ≤ a → R a = fun _ => none) : wm_C l mX5_init 2 20 1741 [vv_A (some 46)] (zr_I J 46, L, zr_R R 46, 47) (q_V (fun Y => ∃ J2 M R2, Y = (J2, M, R2, 67) ∧ MR_T J2 M S_0 ∧ (∀ a, a < 46 → J2 a = J a ∧ M a = L a) ∧ wd_T R2 67)) := by
  refine wm_of (by decide) (Nat.le_of_ble_eq_true rfl) rfl ?_
  refine ra_0 oX5_init_0 ?_
  refine rr_objI oX5_init_1 ⟨gw_in (i := 875) (by decide +kernel) (by decide +kernel), gw_in (i := 99) (by decide +kernel) (by decide +kernel), gw_in (i := 100) (by decide +kernel) (by decide +kernel)⟩ (by decide) (Nat.le_of_ble_eq_true rfl) ?_
  refine ra_0 oX5_init_4 ?_
  refine rk_1 oX5_init_5 ?_
  refine rr_pi oX5_init_6 (ff_X5_7 rfl) (by decide) (by decide) ⟨by decide, rfl, by decide⟩ pf_5_1 ⟨rfl, rfl⟩ ?_
  refine ra_0 oX5_init_9 ?_
  refine rr_bipush (v := 9) oX5_init_10 (by decide) ?_
  refine rr_pi oX5_init_12 (ff_X5_13 rfl) (by decide) (by decide) ⟨by decide, rfl, by decide⟩ pf_5_2 ⟨rfl, rfl⟩ ?_
  refine ra_0 oX5_init_15 ?_
  refine rk_1 oX5_init_16 ?_
  refine rr_pi oX5_init_17 (ff_X5_16 rfl) (by decide) (by decide) ⟨by decide, rfl, by decide⟩ pf_5_4 ⟨rfl, rfl⟩ ?_
  refine ra_0 oX5_init_20 ?_
  refine rk_m1 oX5_init_21 ?_
  refine rr_pi oX5_init_22 (ff_X5_19 rfl) (by decide) (by decide) ⟨by decide, rfl, by decide⟩ pf_5_5 ⟨rfl, rfl⟩ ?_
  refine ra_0 oX5_init_25 ?_
  refine rr_bipush (v := 8) oX5_init_26 (by decide) ?_
  refine rr_newI (z := 8) oX5_init_28 (gw_in (i := 166) (by decide +kernel) (by decide +kernel)) (by decide) (by decide) (by decide) rfl rfl ?_
  refine rr_putr oX5_init_30 (ff_X5_22 rfl) (by decide) (by decide) ⟨by decide, rfl⟩ pr_5_6 (fun _ => rfl) (fun _ => rfl) (by decide) ?_
  refine ra_0 oX5_init_33 ?_
  refine rr_bipush (v := 8) oX5_init_34 (by decide) ?_
  refine rr_newI (z := 8) oX5_init_36 (gw_in (i := 166) (by decide +kernel) (by decide +kernel)) (by decide) (by decide) (by decide) rfl rfl ?_
  refine rr_putr oX5_init_38 (ff_X5_26 rfl) (by decide) (by decide) ⟨by decide, rfl⟩ pr_5_7 (fun _ => rfl) (fun _ => rfl) (by decide) ?_
  refine ra_0 oX5_init_41 ?_
  refine rr_bipush (v := 8) oX5_init_42 (by decide) ?_
  refine rr_newI (z := 8) oX5_init_44 (gw_in (i := 166) (by decide +kernel) (by decide +kernel)) (by decide) (by decide) (by decide) rfl rfl ?_
  refine rr_putr oX5_init_46 (ff_X5_29 rfl) (by decide) (by decide) ⟨by decide, rfl⟩ pr_5_8 (fun _ => rfl) (fun _ => rfl) (by decide) ?_
  refine ra_0 oX5_init_49 ?_
  refine rr_bipush (v := 8) oX5_init_50 (by decide) ?_
  refine rr_newI (z := 8) oX5_init_52 (gw_in (i := 166) (by decide +kernel) (by decide +kernel)) (by decide) (by decide) (by decide) rfl rfl ?_
  refine rr_putr oX5_init_54 (ff_X5_32 rfl) (by decide) (by decide) ⟨by decide, rfl⟩ pr_5_9 (fun _ => rfl) (fun _ => rfl) (by decide) ?_
  refine ra_0 oX5_init_57 ?_
  refine rr_bipush (v := 8) oX5_init_58 (by decide) ?_
  refine rr_newI (z := 8) oX5_init_60 (gw_in (i := 166) (by decide +kernel) (by decide +kernel)) (by decide) (by decide) (by decide) rfl rfl ?_
  refine rr_putr oX5_init_62 (ff_X5_35 rfl) (by decide) (by decide) ⟨by decide, rfl⟩ pr_5_10 (fun _ => rfl) (fun _ => rfl) (by decide) ?_
  refine ra_0 oX5_init_65 ?_
  refine rr_bipush (v := 8) oX5_init_66 (by decide) ?_
  refine rr_newI (z := 8) oX5_init_68 (gw_in (i := 166) (by decide +kernel) (by decide +kernel)) (by decide) (by decide) (by decide) rfl rfl ?_
  refine rr_putr oX5_init_70 (ff_X5_38 rfl) (by decide) (by decide) ⟨by decide, rfl⟩ pr_5_11 (fun _ => rfl) (fun _ => rfl) (by decide) ?_
  refine ra_0 oX5_init_73 ?_
  refine rr_bipush (v := 8) oX5_init_74 (by decide) ?_
  refine rr_newI (z := 8) oX5_init_76 (gw_in (i := 166) (by decide +kernel) (by decide +kernel)) (by decide) (by decide) (by decide) rfl rfl ?_
  refine rr_putr oX5_init_78 (ff_X5_41 rfl) (by decide) (by decide) ⟨by decide, rfl⟩ pr_5_12 (fun _ => rfl) (fun _ => rfl) (by decide) ?_
  refine ra_0 oX5_init_81 ?_
  refine rr_bipush (v := 8) oX5_init_82 (by decide) ?_
  refine rr_newI (z := 8) oX5_init_84 (gw_in (i := 166) (by decide +kernel) (by decide +kernel)) (by decide) (by decide) (by decide) rfl rfl ?_
  refine rr_putr oX5_init_86 (ff_X5_44 rfl) (by decide) (by decide) ⟨by decide, rfl⟩ pr_5_13 (fun _ => rfl) (fun _ => rfl) (by decide) ?_
  refine ra_0 oX5_init_89 ?_
  refine rr_bipush (v := 8) oX5_init_90 (by decide) ?_
  refine rr_newI (z := 8) oX5_init_92 (gw_in (i := 166) (by decide +kernel) (by decide +kernel)) (by decide) (by decide) (by decide) rfl rfl ?_
  refine rr_putr oX5_init_94 (ff_X5_47 rfl) (by decide) (by decide) ⟨by decide, rfl⟩ pr_5_14 (fun _ => rfl) (fun _ => rfl) (by decide) ?_
  refine ra_0 oX5_init_97 ?_
  refine rr_bipush (v := 8) oX5_init_98 (by decide) ?_
  refine rr_newI (z := 8) oX5_init_100 (gw_in (i := 166) (by decide +kernel) (by decide +kernel)) (by decide) (by decide) (by decide) rfl rfl ?_
  refine rr_putr oX5_init_102 (ff_X5_50 rfl) (by decide) (by decide) ⟨by decide, rfl⟩ pr_5_15 (fun _ => rfl) (fun _ => rfl) (by decide) ?_
  refine ra_0 oX5_init_105 ?_
  refine rr_bipush (v := 8) oX5_init_106 (by decide) ?_
  refine rr_newI (z := 8) oX5_init_108 (gw_in (i := 166) (by decide +kernel) (by decide +kernel)) (by decide) (by decide) (by decide) rfl rfl ?_
  refine rr_putr oX5_init_110 (ff_X5_53 rfl) (by decide) (by decide) ⟨by decide, rfl⟩ pr_5_16 (fun _ => rfl) (fun _ => rfl) (by decide) ?_
  refine ra_0 oX5_init_113 ?_
  refine rr_bipush (v := 8) oX5_init_114 (by decide) ?_
  refine rr_newI (z := 8) oX5_init_116 (gw_in (i := 166) (by decide +kernel) (by decide +kernel)) (by decide) (by decide) (by decide) rfl rfl ?_
  refine rr_putr oX5_init_118 (ff_X5_56 rfl) (by decide) (by decide) ⟨by decide, rfl⟩ pr_5_17 (fun _ => rfl) (fun _ => rfl) (by decide) ?_
  refine ra_0 oX5_init_121 ?_
  refine rr_sipush (v := 1280) oX5_init_122 (by decide) ?_
  refine rr_newL (z := 1280) oX5_init_125 (gw_in (i := 210) (by decide +kernel) (by decide +kernel)) (by decide) (by decide) (by decide) rfl rfl ?_
  refine rr_putr oX5_init_127 (ff_X5_59 rfl) (by decide) (by decide) ⟨by decide, rfl⟩ pr_5_18 (fun _ => rfl) (fun _ => rfl) (by decide) ?_
  refine ra_0 oX5_init_130 ?_
  refine rr_sipush (v := 160) oX5_init_131 (by decide) ?_
  refine rr_newL (z := 160) oX5_init_134 (gw_in (i := 210) (by decide +kernel) (by decide +kernel)) (by decide) (by decide) (by decide) rfl rfl ?_
  refine rr_putr oX5_init_136 (ff_X5_63 rfl) (by decide) (by decide) ⟨by decide, rfl⟩ pr_5_19 (fun _ => rfl) (fun _ => rfl) (by decide) ?_
  refine ra_0 oX5_init_139 ?_
  refine rr_bipush (v := 32) oX5_init_140 (by decide) ?_
  refine rr_newI (z := 32) oX5_init_142 (gw_in (i := 166) (by decide +kernel) (by decide +kernel)) (by decide) (by decide) (by decide) rfl rfl ?_
  refine rr_dup oX5_init_144 rfl ?_
  refine rk_0 oX5_init_145 ?_
  refine rr_bipush (v := 116) oX5_init_146 (by decide) ?_
  refine rr_ist (t := 0) oX5_init_148 (show kO 61 = 6 ∧ zO 61 = 32 from by decide) (by decide) rfl (by omega) (by decide) ?_
  refine rr_dup oX5_init_149 rfl ?_
  refine rk_1 oX5_init_150 ?_
  refine rr_bipush (v := 104) oX5_init_151 (by decide) ?_
  refine rr_ist (t := 1) oX5_init_153 (show kO 61 = 6 ∧ zO 61 = 32 from by decide) (by decide) rfl (by omega) (by decide) ?_
  refine rr_dup oX5_init_154 rfl ?_
  refine rk_2 oX5_init_155 ?_
  refine rr_bipush (v := 105) oX5_init_156 (by decide) ?_
  refine rr_ist (t := 2) oX5_init_158 (show kO 61 = 6 ∧ zO 61 = 32 from by decide) (by decide) rfl (by omega) (by decide) ?_
  refine rr_dup oX5_init_159 rfl ?_
  refine rk_3 oX5_init_160 ?_
  refine rr_bipush (v := 110) oX5_init_161 (by decide) ?_
  refine rr_ist (t := 3) oX5_init_163 (show kO 61 = 6 ∧ zO 61 = 32 from by decide) (by decide) rfl (by omega) (by decide) ?_
  refine rr_dup oX5_init_164 rfl ?_
  refine rk_4 oX5_init_165 ?_
  refine rr_bipush (v := 103) oX5_init_166 (by decide) ?_
  refine rr_ist (t := 4) oX5_init_168 (show kO 61 = 6 ∧ zO 61 = 32 from by decide) (by decide) rfl (by omega) (by decide) ?_
  refine rr_dup oX5_init_169 rfl ?_
  refine rk_5 oX5_init_170 ?_
  refine rr_bipush (v := 32) oX5_init_171 (by decide) ?_
  refine rr_ist (t := 5) oX5_init_173 (show kO 61 = 6 ∧ zO 61 = 32 from by decide) (by decide) rfl (by omega) (by decide) ?_
  refine rr_dup oX5_init_174 rfl ?_
  refine rr_bipush (v := 6) oX5_init_175 (by decide) ?_
  refine rk_0 oX5_init_177 ?_
  refine rr_ist (t := 6) oX5_init_178 (show kO 61 = 6 ∧ zO 61 = 32 from by decide) (by decide) rfl (by omega) (by decide) ?_
  refine rr_dup oX5_init_179 rfl ?_
  refine rr_bipush (v := 7) oX5_init_180 (by decide) ?_
  refine rr_bipush (v := 115) oX5_init_182 (by decide) ?_
  refine rr_ist (t := 7) oX5_init_184 (show kO 61 = 6 ∧ zO 61 = 32 from by decide) (by decide) rfl (by omega) (by decide) ?_
  refine rr_dup oX5_init_185 rfl ?_
  refine rr_bipush (v := 8) oX5_init_186 (by decide) ?_
  refine rr_bipush (v := 117) oX5_init_188 (by decide) ?_
  refine rr_ist (t := 8) oX5_init_190 (show kO 61 = 6 ∧ zO 61 = 32 from by decide) (by decide) rfl (by omega) (by decide) ?_
  refine rr_dup oX5_init_191 rfl ?_
  refine rr_bipush (v := 9) oX5_init_192 (by decide) ?_
  refine rr_bipush (v := 109) oX5_init_194 (by decide) ?_
  refine rr_ist (t := 9) oX5_init_196 (show kO 61 = 6 ∧ zO 61 = 32 from by decide) (by decide) rfl (by omega) (by decide) ?_
  refine rr_dup oX5_init_197 rfl ?_
  refine rr_bipush (v := 10) oX5_init_198 (by decide) ?_
  refine rr_bipush (v := 109) oX5_init_200 (by decide) ?_
  refine rr_ist (t := 10) oX5_init_202 (show kO 61 = 6 ∧ zO 61 = 32 from by decide) (by decide) rfl (by omega) (by decide) ?_
  refine rr_dup oX5_init_203 rfl ?_
  refine rr_bipush (v := 11) oX5_init_204 (by decide) ?_
  refine rr_bipush (v := 101) oX5_init_206 (by decide) ?_
  refine rr_ist (t := 11) oX5_init_208 (show kO 61 = 6 ∧ zO 61 = 32 from by decide) (by decide) rfl (by omega) (by decide) ?_
  refine rr_dup oX5_init_209 rfl ?_
  refine rr_bipush (v := 12) oX5_init_210 (by decide) ?_
  refine rr_bipush (v := 114) oX5_init_212 (by decide) ?_
  refine rr_ist (t := 12) oX5_init_214 (show kO 61 = 6 ∧ zO 61 = 32 from by decide) (by decide) rfl (by omega) (by decide) ?_
  refine rr_dup oX5_init_215 rfl ?_
  refine rr_bipush (v := 13) oX5_init_216 (by decide) ?_
  refine rr_bipush (v := 32) oX5_init_218 (by decide) ?_
  refine rr_ist (t := 13) oX5_init_220 (show kO 61 = 6 ∧ zO 61 = 32 from by decide) (by decide) rfl (by omega) (by decide) ?_
  refine rr_dup oX5_init_221 rfl ?_
  refine rr_bipush (v := 14) oX5_init_222 (by decide) ?_
  refine rk_0 oX5_init_224 ?_
  refine rr_ist (t := 14) oX5_init_225 (show kO 61 = 6 ∧ zO 61 = 32 from by decide) (by decide) rfl (by omega) (by decide) ?_
  refine rr_dup oX5_init_226 rfl ?_
  refine rr_bipush (v := 15) oX5_init_227 (by decide) ?_
  refine rr_bipush (v := 102) oX5_init_229 (by decide) ?_
  refine rr_ist (t := 15) oX5_init_231 (show kO 61 = 6 ∧ zO 61 = 32 from by decide) (by decide) rfl (by omega) (by decide) ?_
  refine rr_dup oX5_init_232 rfl ?_
  refine rr_bipush (v := 16) oX5_init_233 (by decide) ?_
  refine rr_bipush (v := 97) oX5_init_235 (by decide) ?_
  refine rr_ist (t := 16) oX5_init_237 (show kO 61 = 6 ∧ zO 61 = 32 from by decide) (by decide) rfl (by omega) (by decide) ?_
  refine rr_dup oX5_init_238 rfl ?_
  refine rr_bipush (v := 17) oX5_init_239 (by decide) ?_
  refine rr_bipush (v := 114) oX5_init_241 (by decide) ?_
  refine rr_ist (t := 17) oX5_init_243 (show kO 61 = 6 ∧ zO 61 = 32 from by decide) (by decide) rfl (by omega) (by decide) ?_
  refine rr_dup oX5_init_244 rfl ?_
  refine rr_bipush (v := 18) oX5_init_245 (by decide) ?_
  refine rr_bipush (v := 32) oX5_init_247 (by decide) ?_
  refine rr_ist (t := 18) oX5_init_249 (show kO 61 = 6 ∧ zO 61 = 32 from by decide) (by decide) rfl (by omega) (by decide) ?_
  refine rr_dup oX5_init_250 rfl ?_
  refine rr_bipush (v := 19) oX5_init_251 (by decide) ?_
  refine rk_0 oX5_init_253 ?_
  refine rr_ist (t := 19) oX5_init_254 (show kO 61 = 6 ∧ zO 61 = 32 from by decide) (by decide) rfl (by omega) (by decide) ?_
  refine rr_dup oX5_init_255 rfl ?_
  refine rr_bipush (v := 20) oX5_init_256 (by decide) ?_
  refine rr_bipush (v := 115) oX5_init_258 (by decide) ?_
  refine rr_ist (t := 20) oX5_init_260 (show kO 61 = 6 ∧ zO 61 = 32 from by decide) (by decide) rfl (by omega) (by decide) ?_
  refine rr_dup oX5_init_261 rfl ?_
  refine rr_bipush (v := 21) oX5_init_262 (by decide) ?_
  refine rr_bipush (v := 104) oX5_init_264 (by decide) ?_
  refine rr_ist (t := 21) oX5_init_266 (show kO 61 = 6 ∧ zO 61 = 32 from by decide) (by decide) rfl (by omega) (by decide) ?_
  refine rr_dup oX5_init_267 rfl ?_
  refine rr_bipush (v := 22) oX5_init_268 (by decide) ?_
  refine rr_bipush (v := 117) oX5_init_270 (by decide) ?_
  refine rr_ist (t := 22) oX5_init_272 (show kO 61 = 6 ∧ zO 61 = 32 from by decide) (by decide) rfl (by omega) (by decide) ?_
  refine rr_dup oX5_init_273 rfl ?_
  refine rr_bipush (v := 23) oX5_init_274 (by decide) ?_
  refine rr_bipush (v := 116) oX5_init_276 (by decide) ?_
  refine rr_ist (t := 23) oX5_init_278 (show kO 61 = 6 ∧ zO 61 = 32 from by decide) (by decide) rfl (by omega) (by decide) ?_
  refine rr_dup oX5_init_279 rfl ?_
  refine rr_bipush (v := 24) oX5_init_280 (by decide) ?_
  refine rr_bipush (v := 32) oX5_init_282 (by decide) ?_
  refine rr_ist (t := 24) oX5_init_284 (show kO 61 = 6 ∧ zO 61 = 32 from by decide) (by decide) rfl (by omega) (by decide) ?_
  refine rr_dup oX5_init_285 rfl ?_
  refine rr_bipush (v := 25) oX5_init_286 (by decide) ?_
  refine rk_0 oX5_init_288 ?_
  refine rr_ist (t := 25) oX5_init_289 (show kO 61 = 6 ∧ zO 61 = 32 from by decide) (by decide) rfl (by omega) (by decide) ?_
  refine rr_dup oX5_init_290 rfl ?_
  refine rr_bipush (v := 26) oX5_init_291 (by decide) ?_
  refine rr_bipush (v := 100) oX5_init_293 (by decide) ?_
  refine rr_ist (t := 26) oX5_init_295 (show kO 61 = 6 ∧ zO 61 = 32 from by decide) (by decide) rfl (by omega) (by decide) ?_
  refine rr_dup oX5_init_296 rfl ?_
  refine rr_bipush (v := 27) oX5_init_297 (by decide) ?_
  refine rr_bipush (v := 114) oX5_init_299 (by decide) ?_
  refine rr_ist (t := 27) oX5_init_301 (show kO 61 = 6 ∧ zO 61 = 32 from by decide) (by decide) rfl (by omega) (by decide) ?_
  refine rr_dup oX5_init_302 rfl ?_
  refine rr_bipush (v := 28) oX5_init_303 (by decide) ?_
  refine rr_bipush (v := 97) oX5_init_305 (by decide) ?_
  refine rr_ist (t := 28) oX5_init_307 (show kO 61 = 6 ∧ zO 61 = 32 from by decide) (by decide) rfl (by omega) (by decide) ?_
  refine rr_dup oX5_init_308 rfl ?_
  refine rr_bipush (v := 29) oX5_init_309 (by decide) ?_
  refine rr_bipush (v := 119) oX5_init_311 (by decide) ?_
  refine rr_ist (t := 29) oX5_init_313 (show kO 61 = 6 ∧ zO 61 = 32 from by decide) (by decide) rfl (by omega) (by decide) ?_
  refine rr_dup oX5_init_314 rfl ?_
  refine rr_bipush (v := 30) oX5_init_315 (by decide) ?_
  refine rr_bipush (v := 32) oX5_init_317 (by decide) ?_
  refine rr_ist (t := 30) oX5_init_319 (show kO 61 = 6 ∧ zO 61 = 32 from by decide) (by decide) rfl (by omega) (by decide) ?_
  refine rr_dup oX5_init_320 rfl ?_
  refine rr_bipush (v := 31) oX5_init_321 (by decide) ?_
  refine rk_0 oX5_init_323 ?_
  refine rr_ist (t := 31) oX5_init_324 (show kO 61 = 6 ∧ zO 61 = 32 from by decide) (by decide) rfl (by omega) (by decide) ?_
  refine rr_putr oX5_init_325 (ff_X5_66 rfl) (by decide) (by decide) ⟨by decide, rfl⟩ pr_5_20 (fun _ => rfl) (fun _ => rfl) (by decide) ?_
  refine ra_0 oX5_init_328 ?_
  refine rk_5 oX5_init_329 ?_
  refine rr_newI (z := 5) oX5_init_330 (gw_in (i := 166) (by decide +kernel) (by decide +kernel)) (by decide) (by decide) (by decide) rfl rfl ?_
  refine rr_putr oX5_init_332 (ff_X5_69 rfl) (by decide) (by decide) ⟨by decide, rfl⟩ pr_5_21 (fun _ => rfl) (fun _ => rfl) (by decide) ?_
  refine ra_0 oX5_init_335 ?_
  refine rr_bipush (v := 70) oX5_init_336 (by decide) ?_
  refine rr_newI (z := 70) oX5_init_338 (gw_in (i := 166) (by decide +kernel) (by decide +kernel)) (by decide) (by decide) (by decide) rfl rfl ?_
  refine rr_putr oX5_init_340 (ff_X5_72 rfl) (by decide) (by decide) ⟨by decide, rfl⟩ pr_5_27 (fun _ => rfl) (fun _ => rfl) (by decide) ?_
  refine ra_0 oX5_init_343 ?_
  refine rr_bipush (v := 70) oX5_init_344 (by decide) ?_
  refine rr_newI (z := 70) oX5_init_346 (gw_in (i := 166) (by decide +kernel) (by decide +kernel)) (by decide) (by decide) (by decide) rfl rfl ?_
  refine rr_putr oX5_init_348 (ff_X5_75 rfl) (by decide) (by decide) ⟨by decide, rfl⟩ pr_5_28 (fun _ => rfl) (fun _ => rfl) (by decide) ?_
  refine ra_0 oX5_init_351 ?_
  refine rr_bipush (v := 8) oX5_init_352 (by decide) ?_
  refine rr_newI (z := 8) oX5_init_354 (gw_in (i := 166) (by decide +kernel) (by decide +kernel)) (by decide) (by decide) (by decide) rfl rfl ?_
  refine rr_putr oX5_init_356 (ff_X5_78 rfl) (by decide) (by decide) ⟨by decide, rfl⟩ pr_5_32 (fun _ => rfl) (fun _ => rfl) (by decide) ?_
  refine ra_0 oX5_init_359 ?_
  refine rr_bipush (v := 20) oX5_init_360 (by decide) ?_
  refine rr_newI (z := 20) oX5_init_362 (gw_in (i := 166) (by decide +kernel) (by decide +kernel)) (by decide) (by decide) (by decide) rfl rfl ?_
  refine rr_putr oX5_init_364 (ff_X5_81 rfl) (by decide) (by decide) ⟨by decide, rfl⟩ pr_5_35 (fun _ => rfl) (fun _ => rfl) (by decide) ?_
  exact rr_return oX5_init_367 rfl (by
    refine ⟨rfl, _, _, _, rfl, ?_, fun a ha => ⟨?_, ?_⟩, Nat.le_refl _, fun a ha => ?_⟩
    · refine ⟨⟨⟨Nat.zero_le _, rfl, rfl, rfl, fun t h => absurd h (Nat.not_lt_zero t)⟩, fun t _ => rfl, fun i _ => st_0.symm, rfl, rfl⟩, rfl, (fun h => by cases h), fun k _ => rfl, rfl, fun s _ => Or.inl ⟨rfl, rfl⟩, fun k _ => rfl, rfl, fun k hk => wd_61 k hk⟩
    · repeat (first | rw [up_I_ne (by omega)] | rw [zr_ne (by omega)])
    · rw [zr_Lne (by omega), zr_Lne (by omega)]
    · by_cases h46 : a = 46
      · subst h46; exact ro_46
      · refine Eq.trans (b := R a) ?_ ?_
        · repeat (first | rw [up_R_ne (by omega)] | rw [zr_Rne (by omega)])
        · by_cases h : a < 46
          · exact hR a h
          · rw [hR2 a (by omega)]; exact ro_no (by omega))
