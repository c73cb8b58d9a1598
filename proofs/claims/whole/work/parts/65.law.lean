/-! the law: its loop, its walk, its start (by program: wip/whole/c65.py) -/
theorem law_len {L t : Nat} (hL : L ≤ 3072) (ht : t ≤ L) : (nI L - 6 < nI t) ↔ L < t + 6 := by
  have e : (nI L - 6).toInt = (L : Int) - 6 := by
    rw [Int32.toInt_sub, nI_toInt (by omega), show (6 : Int32).toInt = 6 from rfl]
    rw [Int.bmod_eq_of_le] <;> omega
  rw [Int32.lt_iff_toInt_lt, e, nI_toInt (by omega)]
  omega
theorem law_loop (l : Launch) {a0 L b : Nat} {xs : Nat → Int32} {D : md_T} (hL : L ≤ 3072) : ∀ (m t : Nat), L ≤ t + 6 * m → t ≤ L → ∀ {I : Nat → Nat → Int32} {M : Nat → Nat → Int64} {Rf : Nat → Nat → Option Nat} {n : Nat} {S : sg_T}, wd_T Rf n → CR_T I M S → MR_T I M S → IV_T S → WL a0 L xs b D l m (5 * m) 18 [vv_E a0, vv_A (some 0), vv_A (some 46), vv_I (nI t)] [] (I, M, Rf, n) := by
  intro m
  induction m with
  | zero =>
    intro t h1 h2 I M Rf n S W hC hM hI
    refine ri_3Y oL_law_18 ?_
    refine re_0Y oL_law_19 ?_
    refine rr_elen oL_law_20 ?_
    refine rr_bipushY (v := 6) oL_law_21 (by decide) ?_
    refine rr_isubY oL_law_23 ?_
    refine rr_icmp_gtY (tgt := 1441) oL_law_24 (by decide) (fun _ => ?_) (fun c => absurd ((law_len hL h2).2 (by omega)) c)
    refine rk_1Y oL_law_1441 ?_
    exact rr_endE oL_law_1442
  | succ m ih =>
    intro t h1 h2 I M Rf n S W hC hM hI
    refine ri_3Y oL_law_18 ?_
    refine re_0Y oL_law_19 ?_
    refine rr_elen oL_law_20 ?_
    refine rr_bipushY (v := 6) oL_law_21 (by decide) ?_
    refine rr_isubY oL_law_23 ?_
    refine rr_icmp_gtY (tgt := 1441) oL_law_24 (by decide) (fun _ => ?_) (fun c => ?_)
    · refine rk_1Y oL_law_1441 ?_
      exact rr_endE oL_law_1442
    have ht : t + 6 ≤ L := Nat.le_of_not_lt (fun q => c ((law_len hL h2).2 q))
    refine re_0Y oL_law_27 ?_
    refine ri_3Y oL_law_28 ?_
    refine rr_eild (t := t) oL_law_29 rfl (by omega) hL ?_
    refine rr_bipushY (v := 63) oL_law_30 (by decide) ?_
    refine rr_iandY oL_law_32 ?_
    have hP : ∀ (J : Nat → Nat → Int32) (N : Nat → Nat → Int64) (R2 : Nat → Nat → Option Nat) (n2 : Nat) (S2 : sg_T), wd_T R2 n2 → CR_T J N S2 → MR_T J N S2 → IV_T S2 → WL a0 L xs b D l m (5 * m) 1435 [vv_E a0, vv_A (some 0), vv_A (some 46), vv_I (nI t)] [] (J, N, R2, n2) := fun J N R2 n2 S2 W2 hC2 hM2 hI2 => by
      refine rc_3Y (v := nI (t + 6)) oL_law_1435 rfl (nI_add t 6) rfl ?_
      refine rr_gotoY (tgt := 18) oL_law_1438 (by decide) ?_
      exact ih (t + 6) (by omega) ht W2 hC2 hM2 hI2
    by_cases c0 : xs t &&& 63 = 0
    · refine rr_tabInY (off := 183) (tgt := 216) oL_law_33 (by rw [c0]; decide) (by rw [c0]; decide) (by rw [c0]; rfl) (by decide) ?_
      exact wl_mono (mc2 := m) (ms2 := 5 * m) (by omega) (by omega) (lc_0 l hL W hC hM hI ht hP)
    by_cases c1 : xs t &&& 63 = 1
    · refine rr_tabInY (off := 226) (tgt := 259) oL_law_33 (by rw [c1]; decide) (by rw [c1]; decide) (by rw [c1]; rfl) (by decide) ?_
      exact wl_mono (mc2 := m) (ms2 := 5 * m) (by omega) (by omega) (lc_1 l hL W hC hM hI ht hP)
    by_cases c2 : xs t &&& 63 = 2
    · refine rr_tabInY (off := 299) (tgt := 332) oL_law_33 (by rw [c2]; decide) (by rw [c2]; decide) (by rw [c2]; rfl) (by decide) ?_
      exact wl_mono (mc2 := m) (ms2 := 5 * m) (by omega) (by omega) (lc_2 l hL W hC hM hI ht hP)
    by_cases c3 : xs t &&& 63 = 3
    · refine rr_tabInY (off := 362) (tgt := 395) oL_law_33 (by rw [c3]; decide) (by rw [c3]; decide) (by rw [c3]; rfl) (by decide) ?_
      exact wl_mono (mc2 := m) (ms2 := 5 * m) (by omega) (by omega) (lc_3 l hL W hC hM hI ht hP)
    by_cases c4 : xs t &&& 63 = 4
    · refine rr_tabInY (off := 396) (tgt := 429) oL_law_33 (by rw [c4]; decide) (by rw [c4]; decide) (by rw [c4]; rfl) (by decide) ?_
      exact wl_mono (mc2 := m) (ms2 := 5 * m) (by omega) (by omega) (lc_4 l hL W hC hM hI ht hP)
    by_cases c5 : xs t &&& 63 = 5
    · refine rr_tabInY (off := 429) (tgt := 462) oL_law_33 (by rw [c5]; decide) (by rw [c5]; decide) (by rw [c5]; rfl) (by decide) ?_
      exact wl_mono (mc2 := m) (ms2 := 5 * m) (by omega) (by omega) (lc_5 l hL W hC hM hI ht hP)
    by_cases c6 : xs t &&& 63 = 6
    · refine rr_tabInY (off := 452) (tgt := 485) oL_law_33 (by rw [c6]; decide) (by rw [c6]; decide) (by rw [c6]; rfl) (by decide) ?_
      exact wl_mono (mc2 := m) (ms2 := 5 * m) (by omega) (by omega) (lc_6 l hL W hC hM hI ht hP)
    by_cases c7 : xs t &&& 63 = 7
    · refine rr_tabInY (off := 485) (tgt := 518) oL_law_33 (by rw [c7]; decide) (by rw [c7]; decide) (by rw [c7]; rfl) (by decide) ?_
      exact wl_mono (mc2 := m) (ms2 := 5 * m) (by omega) (by omega) (lc_7 l hL W hC hM hI ht hP)
    by_cases c8 : xs t &&& 63 = 8
    · refine rr_tabInY (off := 548) (tgt := 581) oL_law_33 (by rw [c8]; decide) (by rw [c8]; decide) (by rw [c8]; rfl) (by decide) ?_
      exact wl_mono (mc2 := m) (ms2 := 5 * m) (by omega) (by omega) (lc_8 l hL W hC hM hI ht hP)
    by_cases c9 : xs t &&& 63 = 9
    · refine rr_tabInY (off := 581) (tgt := 614) oL_law_33 (by rw [c9]; decide) (by rw [c9]; decide) (by rw [c9]; rfl) (by decide) ?_
      exact wl_mono (mc2 := m) (ms2 := 5 * m) (by omega) (by omega) (lc_9 l hL W hC hM hI ht hP)
    by_cases c10 : xs t &&& 63 = 10
    · refine rr_tabInY (off := 614) (tgt := 647) oL_law_33 (by rw [c10]; decide) (by rw [c10]; decide) (by rw [c10]; rfl) (by decide) ?_
      exact wl_mono (mc2 := m) (ms2 := 5 * m) (by omega) (by omega) (lc_10 l hL W hC hM hI ht hP)
    by_cases c11 : xs t &&& 63 = 11
    · refine rr_tabInY (off := 647) (tgt := 680) oL_law_33 (by rw [c11]; decide) (by rw [c11]; decide) (by rw [c11]; rfl) (by decide) ?_
      exact wl_mono (mc2 := m) (ms2 := 5 * m) (by omega) (by omega) (lc_11 l hL W hC hM hI ht hP)
    by_cases c12 : xs t &&& 63 = 12
    · refine rr_tabInY (off := 706) (tgt := 739) oL_law_33 (by rw [c12]; decide) (by rw [c12]; decide) (by rw [c12]; rfl) (by decide) ?_
      exact wl_mono (mc2 := m) (ms2 := 5 * m) (by omega) (by omega) (lc_12 l hL W hC hM hI ht hP)
    by_cases c13 : xs t &&& 63 = 13
    · refine rr_tabInY (off := 755) (tgt := 788) oL_law_33 (by rw [c13]; decide) (by rw [c13]; decide) (by rw [c13]; rfl) (by decide) ?_
      exact lc_13 l hL W hC hM hI ht (mc := m) (ms := 5 * m) hP
    by_cases c14 : xs t &&& 63 = 14
    · refine rr_tabInY (off := 778) (tgt := 811) oL_law_33 (by rw [c14]; decide) (by rw [c14]; decide) (by rw [c14]; rfl) (by decide) ?_
      exact wl_mono (mc2 := m) (ms2 := 5 * m) (by omega) (by omega) (lc_14 l hL W hC hM hI ht hP)
    by_cases c15 : xs t &&& 63 = 15
    · refine rr_tabInY (off := 791) (tgt := 824) oL_law_33 (by rw [c15]; decide) (by rw [c15]; decide) (by rw [c15]; rfl) (by decide) ?_
      exact wl_mono (mc2 := m) (ms2 := 5 * m) (by omega) (by omega) (lc_15 l hL W hC hM hI ht hP)
    by_cases c16 : xs t &&& 63 = 16
    · refine rr_tabInY (off := 834) (tgt := 867) oL_law_33 (by rw [c16]; decide) (by rw [c16]; decide) (by rw [c16]; rfl) (by decide) ?_
      exact wl_mono (mc2 := m) (ms2 := 5 * m) (by omega) (by omega) (lc_16 l hL W hC hM hI ht hP)
    by_cases c17 : xs t &&& 63 = 17
    · refine rr_tabInY (off := 867) (tgt := 900) oL_law_33 (by rw [c17]; decide) (by rw [c17]; decide) (by rw [c17]; rfl) (by decide) ?_
      exact wl_mono (mc2 := m) (ms2 := 5 * m) (by omega) (by omega) (lc_17 l hL W hC hM hI ht hP)
    by_cases c18 : xs t &&& 63 = 18
    · refine rr_tabInY (off := 890) (tgt := 923) oL_law_33 (by rw [c18]; decide) (by rw [c18]; decide) (by rw [c18]; rfl) (by decide) ?_
      exact wl_mono (mc2 := m) (ms2 := 5 * m) (by omega) (by omega) (lc_18 l hL W hC hM hI ht hP)
    by_cases c19 : xs t &&& 63 = 19
    · refine rr_tabInY (off := 903) (tgt := 936) oL_law_33 (by rw [c19]; decide) (by rw [c19]; decide) (by rw [c19]; rfl) (by decide) ?_
      exact wl_mono (mc2 := m) (ms2 := 5 * m) (by omega) (by omega) (lc_19 l hL W hC hM hI ht hP)
    by_cases c20 : xs t &&& 63 = 20
    · refine rr_tabInY (off := 916) (tgt := 949) oL_law_33 (by rw [c20]; decide) (by rw [c20]; decide) (by rw [c20]; rfl) (by decide) ?_
      exact wl_mono (mc2 := m) (ms2 := 5 * m) (by omega) (by omega) (lc_20 l hL W hC hM hI ht hP)
    by_cases c21 : xs t &&& 63 = 21
    · refine rr_tabInY (off := 949) (tgt := 982) oL_law_33 (by rw [c21]; decide) (by rw [c21]; decide) (by rw [c21]; rfl) (by decide) ?_
      exact wl_mono (mc2 := m) (ms2 := 5 * m) (by omega) (by omega) (lc_21 l hL W hC hM hI ht hP)
    by_cases c22 : xs t &&& 63 = 22
    · refine rr_tabInY (off := 972) (tgt := 1005) oL_law_33 (by rw [c22]; decide) (by rw [c22]; decide) (by rw [c22]; rfl) (by decide) ?_
      exact wl_mono (mc2 := m) (ms2 := 5 * m) (by omega) (by omega) (lc_22 l hL W hC hM hI ht hP)
    by_cases c23 : xs t &&& 63 = 23
    · refine rr_tabInY (off := 995) (tgt := 1028) oL_law_33 (by rw [c23]; decide) (by rw [c23]; decide) (by rw [c23]; rfl) (by decide) ?_
      exact wl_mono (mc2 := m) (ms2 := 5 * m) (by omega) (by omega) (lc_23 l hL W hC hM hI ht hP)
    by_cases c24 : xs t &&& 63 = 24
    · refine rr_tabInY (off := 1018) (tgt := 1051) oL_law_33 (by rw [c24]; decide) (by rw [c24]; decide) (by rw [c24]; rfl) (by decide) ?_
      exact wl_mono (mc2 := m) (ms2 := 5 * m) (by omega) (by omega) (lc_24 l hL W hC hM hI ht hP)
    by_cases c25 : xs t &&& 63 = 25
    · refine rr_tabInY (off := 1041) (tgt := 1074) oL_law_33 (by rw [c25]; decide) (by rw [c25]; decide) (by rw [c25]; rfl) (by decide) ?_
      exact wl_mono (mc2 := m) (ms2 := 5 * m) (by omega) (by omega) (lc_25 l hL W hC hM hI ht hP)
    by_cases c26 : xs t &&& 63 = 26
    · refine rr_tabInY (off := 1064) (tgt := 1097) oL_law_33 (by rw [c26]; decide) (by rw [c26]; decide) (by rw [c26]; rfl) (by decide) ?_
      exact wl_mono (mc2 := m) (ms2 := 5 * m) (by omega) (by omega) (lc_26 l hL W hC hM hI ht hP)
    by_cases c27 : xs t &&& 63 = 27
    · refine rr_tabInY (off := 1087) (tgt := 1120) oL_law_33 (by rw [c27]; decide) (by rw [c27]; decide) (by rw [c27]; rfl) (by decide) ?_
      exact wl_mono (mc2 := m) (ms2 := 5 * m) (by omega) (by omega) (lc_27 l hL W hC hM hI ht hP)
    by_cases c28 : xs t &&& 63 = 28
    · refine rr_tabInY (off := 1110) (tgt := 1143) oL_law_33 (by rw [c28]; decide) (by rw [c28]; decide) (by rw [c28]; rfl) (by decide) ?_
      exact wl_mono (mc2 := m) (ms2 := 5 * m) (by omega) (by omega) (lc_28 l hL W hC hM hI ht hP)
    by_cases c29 : xs t &&& 63 = 29
    · refine rr_tabInY (off := 1123) (tgt := 1156) oL_law_33 (by rw [c29]; decide) (by rw [c29]; decide) (by rw [c29]; rfl) (by decide) ?_
      exact wl_mono (mc2 := m) (ms2 := 5 * m) (by omega) (by omega) (lc_29 l hL W hC hM hI ht hP)
    by_cases c30 : xs t &&& 63 = 30
    · refine rr_tabInY (off := 1146) (tgt := 1179) oL_law_33 (by rw [c30]; decide) (by rw [c30]; decide) (by rw [c30]; rfl) (by decide) ?_
      exact wl_mono (mc2 := m) (ms2 := 5 * m) (by omega) (by omega) (lc_30 l hL W hC hM hI ht hP)
    by_cases c31 : xs t &&& 63 = 31
    · refine rr_tabInY (off := 1159) (tgt := 1192) oL_law_33 (by rw [c31]; decide) (by rw [c31]; decide) (by rw [c31]; rfl) (by decide) ?_
      exact wl_mono (mc2 := m) (ms2 := 5 * m) (by omega) (by omega) (lc_31 l hL W hC hM hI ht hP)
    by_cases c32 : xs t &&& 63 = 32
    · refine rr_tabInY (off := 1192) (tgt := 1225) oL_law_33 (by rw [c32]; decide) (by rw [c32]; decide) (by rw [c32]; rfl) (by decide) ?_
      exact wl_mono (mc2 := m) (ms2 := 5 * m) (by omega) (by omega) (lc_32 l hL W hC hM hI ht hP)
    by_cases c33 : xs t &&& 63 = 33
    · refine rr_tabInY (off := 1215) (tgt := 1248) oL_law_33 (by rw [c33]; decide) (by rw [c33]; decide) (by rw [c33]; rfl) (by decide) ?_
      exact wl_mono (mc2 := m) (ms2 := 5 * m) (by omega) (by omega) (lc_33 l hL W hC hM hI ht hP)
    by_cases c34 : xs t &&& 63 = 34
    · refine rr_tabInY (off := 1228) (tgt := 1261) oL_law_33 (by rw [c34]; decide) (by rw [c34]; decide) (by rw [c34]; rfl) (by decide) ?_
      exact wl_mono (mc2 := m) (ms2 := 5 * m) (by omega) (by omega) (lc_34 l hL W hC hM hI ht hP)
    by_cases c35 : xs t &&& 63 = 35
    · refine rr_tabInY (off := 1241) (tgt := 1274) oL_law_33 (by rw [c35]; decide) (by rw [c35]; decide) (by rw [c35]; rfl) (by decide) ?_
      exact wl_mono (mc2 := m) (ms2 := 5 * m) (by omega) (by omega) (lc_35 l hL W hC hM hI ht hP)
    by_cases c36 : xs t &&& 63 = 36
    · refine rr_tabInY (off := 1264) (tgt := 1297) oL_law_33 (by rw [c36]; decide) (by rw [c36]; decide) (by rw [c36]; rfl) (by decide) ?_
      exact wl_mono (mc2 := m) (ms2 := 5 * m) (by omega) (by omega) (lc_36 l hL W hC hM hI ht hP)
    by_cases c37 : xs t &&& 63 = 37
    · refine rr_tabInY (off := 1287) (tgt := 1320) oL_law_33 (by rw [c37]; decide) (by rw [c37]; decide) (by rw [c37]; rfl) (by decide) ?_
      exact wl_mono (mc2 := m) (ms2 := 5 * m) (by omega) (by omega) (lc_37 l hL W hC hM hI ht hP)
    by_cases c38 : xs t &&& 63 = 38
    · refine rr_tabInY (off := 1330) (tgt := 1363) oL_law_33 (by rw [c38]; decide) (by rw [c38]; decide) (by rw [c38]; rfl) (by decide) ?_
      exact wl_mono (mc2 := m) (ms2 := 5 * m) (by omega) (by omega) (lc_38 l hL W hC hM hI ht hP)
    by_cases c39 : xs t &&& 63 = 39
    · refine rr_tabInY (off := 1353) (tgt := 1386) oL_law_33 (by rw [c39]; decide) (by rw [c39]; decide) (by rw [c39]; rfl) (by decide) ?_
      exact wl_mono (mc2 := m) (ms2 := 5 * m) (by omega) (by omega) (lc_39 l hL W hC hM hI ht hP)
    by_cases c40 : xs t &&& 63 = 40
    · refine rr_tabInY (off := 1366) (tgt := 1399) oL_law_33 (by rw [c40]; decide) (by rw [c40]; decide) (by rw [c40]; rfl) (by decide) ?_
      exact wl_mono (mc2 := m) (ms2 := 5 * m) (by omega) (by omega) (lc_40 l hL W hC hM hI ht hP)
    by_cases c41 : xs t &&& 63 = 41
    · refine rr_tabInY (off := 1379) (tgt := 1412) oL_law_33 (by rw [c41]; decide) (by rw [c41]; decide) (by rw [c41]; rfl) (by decide) ?_
      exact wl_mono (mc2 := m) (ms2 := 5 * m) (by omega) (by omega) (lc_41 l hL W hC hM hI ht hP)
    refine rr_tabOutY (tgt := 1435) oL_law_33 (tab_out_0_41 c0 c1 c2 c3 c4 c5 c6 c7 c8 c9 c10 c11 c12 c13 c14 c15 c16 c17 c18 c19 c20 c21 c22 c23 c24 c25 c26 c27 c28 c29 c30 c31 c32 c33 c34 c35 c36 c37 c38 c39 c40 c41) (by decide) ?_
    exact wl_mono (mc2 := m) (ms2 := 5 * m) (by omega) (by omega) (hP I M Rf n S W hC hM hI)
theorem law_walk (l : Launch) {a0 L b : Nat} {xs : Nat → Int32} {D : md_T} (hL : L ≤ 3072) : WL a0 L xs b D l (67 + 512) (3596 + 5 * 512) 0 [vv_E a0, vv_U, vv_U, vv_U] [] (fun _ _ => 0, fun _ _ => 0, fun _ _ => none, 0) := by
  refine rr_newY (ci := 4) (mc2 := 66 + 512) (ms2 := 3596 + 5 * 512 - mx_N 4) oL_law_0 (nw_L_7 rfl) rfl (by decide) rfl (by decide) ?_
  refine rr_dupY oL_law_3 rfl ?_
  refine rr_callIY (mc1 := 21 + 512) (ms1 := 1741 + mx_N 5 + 5 * 512) oL_law_4 (ci_L_9 rfl) (c_X4_init l) (by decide) rfl rfl (Nat.le_of_ble_eq_true rfl) (by decide) (by decide) ?_
  rintro r Y ⟨rfl, J, M, R2, rfl, hC, hR, hR2⟩
  refine sa_1Y oL_law_7 rfl rfl ?_
  refine rr_newY (ci := 5) (mc2 := 20 + 512) (ms2 := 1741 + 5 * 512) oL_law_8 (nw_L_10 rfl) rfl (by decide) rfl (by decide) ?_
  refine rr_dupY oL_law_11 rfl ?_
  refine rr_callIY (mc1 := 512) (ms1 := 5 * 512) oL_law_12 (ci_L_12 rfl) (c_X5_init l hR hR2) (by decide) rfl rfl (Nat.le_of_ble_eq_true rfl) (by decide) (by decide) ?_
  rintro r Y ⟨rfl, J2, M2, R3, rfl, hM, hf, W⟩
  refine sa_2Y oL_law_15 rfl rfl ?_
  refine rk_0Y oL_law_16 ?_
  refine si_3Y oL_law_17 rfl rfl ?_
  exact law_loop l hL 512 0 (by omega) (Nat.zero_le _) W (CR_cut hC (fun a ha => (hf a ha).1) (fun a ha => (hf a ha).2)) hM IV_0
abbrev lw_k (i : Nat) : Nat := [118, 120, 121, 122, 124].getD i 0
abbrev lw_t (i : Nat) : Term := .string "SeenByOne$Reader" (lw_k i)
/-- what the tables and the strings say, at the law's entry -/
theorem law_K {p : Program} {s : State} {m : MethodId} {meth : Method} {c : Code} {a0 L : Nat} {xs : Nat → Int32} (C0 : lw_At p s m meth c a0 L xs) : ∃ D : md_T, wm_K s.heap.size D s := by
  obtain ⟨hx, hb, hr, hml, hown, hts, hX, hbl, hlocks, hgv⟩ := C0
  have hs := flat_of_before _ hgv
  have hA : ∀ a : Nat, a < s.heap.size → ¬ (fun q : Nat => s.heap.size ≤ q) a := fun a h q => Nat.not_le.mpr h q
  have hGW : ∀ w ∈ GW, w.before #[Value.ref a0] s = true := fun w hw => hts w (gw_tbl hw)
  obtain ⟨c0, iS0, hK0⟩ := u_known (C := RX0) (T := TX0) (N := 5) (n := 5) hGW inG0 (hts (.instantiable "SeenByOne$Acts" 5) (List.mem_of_getElem? (i := 168) (by decide +kernel)))
  obtain ⟨c1, iS1, hK1⟩ := u_known (C := RX1) (T := TX1) (N := 13) (n := 13) hGW inG1 (hts (.instantiable "SeenByOne$Ground" 13) (List.mem_of_getElem? (i := 104) (by decide +kernel)))
  obtain ⟨c2, iS2, hK2⟩ := u_known (C := RX2) (T := TX2) (N := 5) (n := 5) hGW inG2 (hts (.instantiable "SeenByOne$Reader" 5) (List.mem_of_getElem? (i := 477) (by decide +kernel)))
  obtain ⟨c3, iS3, hK3⟩ := u_known (C := RX3) (T := TX3) (N := 3) (n := 3) hGW inG3 (hts (.instantiable "SeenByOne$Shelf" 3) (List.mem_of_getElem? (i := 190) (by decide +kernel)))
  obtain ⟨c4, iS4, hK4⟩ := u_known (C := RX4) (T := TX4) (N := 9) (n := 9) hGW inG4 (hts (.instantiable "SeenByOne" 9) (List.mem_of_getElem? (i := 94) (by decide +kernel)))
  obtain ⟨c5, iS5, hK5⟩ := u_known (C := RX5) (T := TX5) (N := 38) (n := 38) hGW inG5 (hts (.instantiable "SeenByOneModel" 38) (List.mem_of_getElem? (i := 871) (by decide +kernel)))
  obtain ⟨dC, dI, hKc⟩ : ∃ (dC : Nat → ClassId) (dI : Nat → Nat → Nat), ∀ (k : Nat) (q : vw_C), mCl[k]? = some q → u_Kn s q.1 q.2.1 q.2.2 (dC k) (dI k) := by
    refine ⟨fun k => if k = 0 then c0 else if k = 1 then c1 else if k = 2 then c2 else if k = 3 then c3 else if k = 4 then c4 else c5, fun k => if k = 0 then iS0 else if k = 1 then iS1 else if k = 2 then iS2 else if k = 3 then iS3 else if k = 4 then iS4 else iS5, ?_⟩
    intro k q hq
    match k, hq with
    | 0, hq => cases hq; exact hK0
    | 1, hq => cases hq; exact hK1
    | 2, hq => cases hq; exact hK2
    | 3, hq => cases hq; exact hK3
    | 4, hq => cases hq; exact hK4
    | 5, hq => cases hq; exact hK5
    | k + 6, hq => simp [mCl] at hq
  obtain ⟨tI, kI, pI, qI1, qI2, qI3⟩ := Cond.arrayClass_spec (hts (.arrayClass .int) (List.mem_of_getElem? (i := 166) (by decide +kernel)))
  obtain ⟨tL, kL, pL, qL1, qL2, qL3⟩ := Cond.arrayClass_spec (hts (.arrayClass .long) (List.mem_of_getElem? (i := 210) (by decide +kernel)))
  have hao := hts (.arrayOver (.object "SeenByOne$Shelf")) (List.mem_of_getElem? (i := 102) (by decide +kernel))
  obtain ⟨pS, tS, kS, qS0, -, qS2, qS3, qS4⟩ := Cond.arrayOver_spec hao
  have e1 : ∀ i : Fin 5, Cond.exactly (lw_t i) "java/lang/String" ∈ flatC (Jvm.Cond.and given_1 narrow_1) := by decide +kernel
  have e2 : ∀ i : Fin 5, Cond.eq (.field (lw_t i) "java/lang/String" "coder" "B") (.int 0) ∈ flatC (Jvm.Cond.and given_1 narrow_1) := by decide +kernel
  have e3 : ∀ i : Fin 5, Cond.arrayOf (.field (lw_t i) "java/lang/String" "value" "[B") .byte ∈ flatC (Jvm.Cond.and given_1 narrow_1) := by decide +kernel
  have e4 : ∀ i : Fin 5, Cond.eq (.length (.field (lw_t i) "java/lang/String" "value" "[B")) (.int (Int32.ofNat (ms_len.getD i 0))) ∈ flatC (Jvm.Cond.and given_1 narrow_1) := by decide +kernel
  have e5 : ∀ (i : Fin 5) (j : Fin 6), (j : Nat) < ms_len.getD i 0 → Cond.eq (.elem (.field (lw_t i) "java/lang/String" "value" "[B") (.int (Int32.ofNat j))) (.int ((ms_byt.getD i []).getD j 0)) ∈ flatC (Jvm.Cond.and given_1 narrow_1) := by decide +kernel
  have e6 : ∀ i j : Fin 5, i ≠ j → Cond.not (Cond.eq (lw_t i) (lw_t j)) ∈ flatC (Jvm.Cond.and given_1 narrow_1) ∨ Cond.not (Cond.eq (lw_t j) (lw_t i)) ∈ flatC (Jvm.Cond.and given_1 narrow_1) := by decide +kernel
  have l6 : ∀ i : Fin 5, ms_len.getD i 0 ≤ 6 := by decide
  obtain ⟨adK, adV, hS1, hS2⟩ := vk_Sof (args := #[Value.ref a0]) (s := s) (N := 5) (tm := lw_t) (len := ms_len) (byt := ms_byt) (A := fun q => s.heap.size ≤ q)
    (fun i hi => Nat.lt_of_le_of_lt (l6 ⟨i, hi⟩) (by decide)) (fun i hi => hs _ (e1 ⟨i, hi⟩)) (fun i hi => hs _ (e2 ⟨i, hi⟩)) (fun i hi => hs _ (e3 ⟨i, hi⟩)) (fun i hi => hs _ (e4 ⟨i, hi⟩))
    (fun i hi j hj => hs _ (e5 ⟨i, hi⟩ ⟨j, Nat.lt_of_lt_of_le hj (l6 ⟨i, hi⟩)⟩ hj))
    (fun i j hi hj hij => (e6 ⟨i, hi⟩ ⟨j, hj⟩ (fun q => hij (congrArg Fin.val q))).imp (fun h => hs _ h) (fun h => hs _ h)) hA
  refine ⟨((dC, dI), tI, tL, tS, adK, adV), ⟨hKc, ?_⟩, ?_, va_AO.of hao, hS1, ?_, ?_, ?_⟩
  · intro k q hq
    match k, hq with
    | 0, hq => cases hq; exact ⟨fun n z => ⟨fun k h => (by cases h), kI, qI2, pI, qI3⟩, qI1⟩
    | 1, hq => cases hq; exact ⟨fun n z => ⟨fun k h => (by cases h), kL, qL2, pL, qL3⟩, qL1⟩
    | 2, hq => cases hq; exact ⟨fun n z => ⟨fun k h => (by cases h), kS, qS2, pS, qS3⟩, kS, pS, qS2, qS3, qS0, qS4⟩
    | k + 3, hq => simp [mTys] at hq
  · intro k q hq
    match k, hq with
    | 0, hq => cases hq; exact va_Nw.of rfl (hts _ (List.mem_of_getElem? (i := 105) (by decide +kernel)))
    | 1, hq => cases hq; exact va_Nw.of rfl (hts _ (List.mem_of_getElem? (i := 169) (by decide +kernel)))
    | 2, hq => cases hq; exact va_Nw.of rfl (hts _ (List.mem_of_getElem? (i := 191) (by decide +kernel)))
    | 3, hq => cases hq; exact va_Nw.of rfl (hts _ (List.mem_of_getElem? (i := 338) (by decide +kernel)))
    | 4, hq => cases hq; exact va_Nw.of rfl (hts _ (List.mem_of_getElem? (i := 376) (by decide +kernel)))
    | 5, hq => cases hq; exact va_Nw.of rfl (hts _ (List.mem_of_getElem? (i := 608) (by decide +kernel)))
    | 6, hq => cases hq; exact va_Nw.of rfl (hts _ (List.mem_of_getElem? (i := 672) (by decide +kernel)))
    | 7, hq => cases hq; exact va_Nw.of rfl (hts _ (List.mem_of_getElem? (i := 803) (by decide +kernel)))
    | 8, hq => cases hq; exact va_Nw.of rfl (hts _ (List.mem_of_getElem? (i := 838) (by decide +kernel)))
    | 9, hq => cases hq; exact va_Nw.of rfl (hts _ (List.mem_of_getElem? (i := 843) (by decide +kernel)))
    | k + 10, hq => simp [mn_T] at hq
  · intro k q hq
    match k, hq with
    | 0, hq => cases hq; exact vk_R.of (hts _ (List.mem_of_getElem? (i := 514) (by decide +kernel))) (hS2 0 (by decide))
    | 1, hq => cases hq; exact vk_R.of (hts _ (List.mem_of_getElem? (i := 515) (by decide +kernel))) (hS2 1 (by decide))
    | 2, hq => cases hq; exact vk_R.of (hts _ (List.mem_of_getElem? (i := 516) (by decide +kernel))) (hS2 2 (by decide))
    | 3, hq => cases hq; exact vk_R.of (hts _ (List.mem_of_getElem? (i := 517) (by decide +kernel))) (hS2 3 (by decide))
    | 4, hq => cases hq; exact vk_R.of (hts _ (List.mem_of_getElem? (i := 518) (by decide +kernel))) (hS2 4 (by decide))
    | k + 5, hq => simp [ms_tx] at hq
  · exact va_Zof (hts _ (List.mem_of_getElem? (i := 532) (by decide +kernel))) (hts _ (List.mem_of_getElem? (i := 89) (by decide +kernel))) (va_eqt (hs _ (by decide +kernel))) hA
  · exact va_Zqof (hts _ (List.mem_of_getElem? (i := 552) (by decide +kernel))) (hts _ (List.mem_of_getElem? (i := 91) (by decide +kernel))) (hs _ (by decide +kernel)) hA
theorem whole_start {p : Program} {e : Env} {s : State} {m : MethodId} {below : List Frame} {meth : Method} {c : Code} (l : Launch) (hflags : l.flags = flags0) {b L : Nat} {xs : Nat → Int32} (hL : L ≤ 3072) (C0 : lw_At p s m meth c b L xs) : W p l e room_1 s m #[Value.ref b] below meth c s.heap [] 0 0 (lw_Z below #[Value.ref b] s) (entryFrame m ([Value.ref b] : List Value).toArray 4) := by
  obtain ⟨D, hK⟩ := law_K C0
  obtain ⟨hx, hb, hr, hml, hown, hts, hX, hbl, hlocks, hgv⟩ := id C0
  have hGW : ∀ w ∈ GW, w.before #[Value.ref b] s = true := fun w hw => hts w (gw_tbl hw)
  have hl0 := lv_entry ([Value.ref b]) (n := 4) (Nat.le_of_ble_eq_true rfl)
  rw [lg_entry_eq]
  generalize (lg_sl ([Value.ref b]) ++ List.replicate (4 - (lg_sl ([Value.ref b])).length) Slot.unset).toArray = arr at hl0 ⊢
  refine law_walk (a0 := b) (xs := xs) (b := s.heap.size) (D := D) l hL p e room_1 s m #[Value.ref b] below meth c s.heap [] 0 0 600000 7302250 arr ⟨hx, hb, hml, hr, hown, hGW, hlocks, ⟨rfl, rfl, rfl, hX, hbl, rfl, rfl⟩, hK, Nat.le_refl _⟩ ⟨by decide, by decide, by decide, by decide⟩ (by decide) (by decide) va_S.rf ⟨rfl, fun a h => absurd h (Nat.not_lt_zero a)⟩ ⟨hl0.1, hl0.2.1, fun j v hj hv => ?_⟩
  match j, hj with
  | 0, hj => cases hj; exact hl0.2.2 (0, .ref b) List.mem_cons_self
  | 1, hj => cases hj; exact absurd rfl hv
  | 2, hj => cases hj; exact absurd rfl hv
  | 3, hj => cases hj; exact absurd rfl hv
  | j + 4, hj => simp at hj
