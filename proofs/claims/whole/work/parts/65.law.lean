/-! the law: its loop, its walk, its start (by program: wip/whole/c65.py) -/
theorem law_len {L t : Nat} (hL : L ≤ 3072) (ht : t ≤ L) : (nI L - 6 < nI t) ↔ L < t + 6 := by
  have e : (nI L - 6).toInt = (L : Int) - 6 := by
    rw [Int32.toInt_sub, nI_toInt (by omega), show (6 : Int32).toInt = 6 from rfl]
    rw [Int.bmod_eq_of_le] <;> omega
  rw [Int32.lt_iff_toInt_lt, e, nI_toInt (by omega)]
  omega
theorem law_loop (l : Launch) {a0 L b : Nat} {xs : Nat → Int32} {D : md_T} (hL : L ≤ 3072) : ∀ (m t : Nat), L ≤ t + 6 * m → t ≤ L → ∀ {I : Nat → Nat → Int32} {M : Nat → Nat → Int64} {Rf : Nat → Nat → Option Nat} {n : Nat} {S : sg_T}, wd_T Rf n → CR_T I M S → MR_T I M S → IV_T S → WL a0 L xs b D l m (5 * m) 18 [vv_E a0, vv_A (some 0), vv_A (some 46), vv_I (nI t)] [] (I, M, Rf, n) := by
  intro m
  induction m with
  | zero =>
    intro t h1 h2 I M Rf n S W hC hM hI
    refine ri_3Y oL_law_18 ?_
    refine re_0Y oL_law_19 ?_
    refine rr_elen oL_law_20 ?_
    refine rr_bipushY (v := 6) oL_law_21 (by decide) ?_
    refine rr_isubY oL_law_23 ?_
    refine rr_icmp_gtY (tgt := 1441) oL_law_24 (by decide) (fun _ => ?_) (fun c => absurd ((law_len hL h2).2 (by omega)) c)
    refine rk_1Y oL_law_1441 ?_
    exact rr_endE oL_law_1442
  | succ m ih =>
    intro t h1 h2 I M Rf n S W hC hM hI
    refine ri_3Y oL_law_18 ?_
    refine re_0Y oL_law_19 ?_
    refine rr_elen oL_law_20 ?_
    refine rr_bipushY (v := 6) oL_law_21 (by decide) ?_
    refine rr_isubY oL_law_23 ?_
    refine rr_icmp_gtY (tgt := 1441) oL_law_24 (by decide) (fun _ => ?_) (fun c => ?_)
    · refine rk_1Y oL_law_1441 ?_
      exact rr_endE oL_law_1442
    have ht : t + 6 ≤ L := Nat.le_of_not_lt (fun q => c ((law_len hL h2).2 q))
    refine re_0Y oL_law_27 ?_
    refine ri_3Y oL_law_28 ?_
    refine rr_eild (t := t) oL_law_29 rfl (by omega) hL ?_
    refine rr_bipushY (v := 63) oL_law_30 (by decide) ?_
    refine rr_iandY oL_law_32 ?_
    have hP : ∀ (J : Nat → Nat → Int32) (N : Nat → Nat → Int64) (R2 : Nat → Nat → Option Nat) (n2 : Nat) (S2 : sg_T), wd_T R2 n2 → CR_T J N S2 → MR_T J N S2 → IV_T S2 → WL a0 L xs b D l m (5 * m) 1435 [vv_E a0, vv_A (some 0), vv_A (some 46), vv_I (nI t)] [] (J, N, R2, n2) := fun J N R2 n2 S2 W2 hC2 hM2 hI2 => by
      refine rc_3Y (v := nI (t + 6)) oL_law_1435 rfl (nI_add t 6) rfl ?_
      refine rr_gotoY (tgt := 18) oL_law_1438 (by decide) ?_
      exact ih (t + 6) (by omega) ht W2 hC2 hM2 hI2
    by_cases c0 : xs t &&& 63 = 0
    · refine rr_tabInY (off := 183) (tgt := 216) oL_law_33 (by rw [c0]; decide) (by rw [c0]; decide) (by rw [c0]; rfl) (by decide) ?_
      exact wl_mono (mc2 := m) (ms2 := 5 * m) (by omega) (by omega) (lc_0 l hL W hC hM hI ht hP)
    by_cases c1 : xs t &&& 63 = 1
    · refine rr_tabInY (off := 226) (tgt := 259) oL_law_33 (by rw [c1]; decide) (by rw [c1]; decide) (by rw [c1]; rfl) (by decide) ?_
      exact wl_mono (mc2 := m) (ms2 := 5 * m) (by omega) (by omega) (lc_1 l hL W hC hM hI ht hP)
    by_cases c2 : xs t &&& 63 = 2
    · refine rr_tabInY (off := 299) (tgt := 332) oL_law_33 (by rw [c2]; decide) (by rw [c2]; decide) (by rw [c2]; rfl) (by decide) ?_
      exact wl_mono (mc2 := m) (ms2 := 5 * m) (by omega) (by omega) (lc_2 l hL W hC hM hI ht hP)
    by_cases c3 : xs t &&& 63 = 3
    · refine rr_tabInY (off := 362) (tgt := 395) oL_law_33 (by rw [c3]; decide) (by rw [c3]; decide) (by rw [c3]; rfl) (by decide) ?_
      exact wl_mono (mc2 := m) (ms2 := 5 * m) (by omega) (by omega) (lc_3 l hL W hC hM hI ht hP)
    by_cases c4 : xs t &&& 63 = 4
    · refine rr_tabInY (off := 396) (tgt := 429) oL_law_33 (by rw [c4]; decide) (by rw [c4]; decide) (by rw [c4]; rfl) (by decide) ?_
      exact wl_mono (mc2 := m) (ms2 := 5 * m) (by omega) (by omega) (lc_4 l hL W hC hM hI ht hP)
    by_cases c5 : xs t &&& 63 = 5
    · refine rr_tabInY (off := 429) (tgt := 462) oL_law_33 (by rw [c5]; decide) (by rw [c5]; decide) (by rw [c5]; rfl) (by decide) ?_
      exact wl_mono (mc2 := m) (ms2 := 5 * m) (by omega) (by omega) (lc_5 l hL W hC hM hI ht hP)
    by_cases c6 : xs t &&& 63 = 6
    · refine rr_tabInY (off := 452) (tgt := 485) oL_law_33 (by rw [c6]; decide) (by rw [c6]; decide) (by rw [c6]; rfl) (by decide) ?_
      exact wl_mono (mc2 := m) (ms2 := 5 * m) (by omega) (by omega) (lc_6 l hL W hC hM hI ht hP)
    by_cases c7 : xs t &&& 63 = 7
    · refine rr_tabInY (off := 485) (tgt := 518) oL_law_33 (by rw [c7]; decide) (by rw [c7]; decide) (by rw [c7]; rfl) (by decide) ?_
      exact wl_mono (mc2 := m) (ms2 := 5 * m) (by omega) (by omega) (lc_7 l hL W hC hM hI ht hP)
    by_cases c8 : xs t &&& 63 = 8
    · refine rr_tabInY (off := 548) (tgt := 581) oL_law_33 (by rw [c8]; decide) (by rw [c8]; decide) (by rw [c8]; rfl) (by decide) ?_
      exact wl_mono (mc2 := m) (ms2 := 5 * m) (by omega) (by omega) (lc_8 l hL W hC hM hI ht hP)
    by_cases c9 : xs t &&& 63 = 9
    · refine rr_tabInY (off := 581) (tgt := 614) oL_law_33 (by rw [c9]; decide) (by rw [c9]; decide) (by rw [c9]; rfl) (by decide) ?_
      exact wl_mono (mc2 := m) (ms2 := 5 * m) (by omega) (by omega) (lc_9 l hL W hC hM hI ht hP)
    by_cases c10 : xs t &&& 63 = 10
    · refine rr_tabInY (off := 614) (tgt := 647) oL_law_33 (by rw [c10]; decide) (by rw [c10]; decide) (by rw [c10]; rfl) (by decide) ?_
      exact wl_mono (mc2 := m) (ms2 := 5 * m) (by omega) (by omega) (lc_10 l hL W hC hM hI ht hP)
    by_cases c11 : xs t &&& 63 = 11
    · refine rr_tabInY (off := 647) (tgt := 680) oL_law_33 (by rw [c11]; decide) (by rw [c11]; decide) (by rw [c11]; rfl) (by decide) ?_
      exact wl_mono (mc2 := m) (ms2 := 5 * m) (by omega) (by omega) (lc_11 l hL W hC hM hI ht hP)
    by_cases c12 : xs t &&& 63 = 12
    · refine rr_tabInY (off := 706) (tgt := 739) oL_law_33 (by rw [c12]; decide) (by rw [c12]; decide) (by rw [c12]; rfl) (by decide) ?_
      exact wl_mono (mc2 := m) (ms2 := 5 * m) (by omega) (by omega) (lc_12 l hL W hC hM hI ht hP)
    by_cases c13 : xs t &&& 63 = 13
    · refine rr_tabInY (off := 755) (tgt := 788) oL_law_33 (by rw [c13]; decide) (by rw [c13]; decide) (by rw [c13]; rfl) (by decide) ?_
      exact lc_13 l hL W hC hM hI ht (mc := m) (ms := 5 * m) hP
    by_cases c14 : xs t &&& 63 = 14
    · refine rr_tabInY (off := 778) (tgt := 811) oL_law_33 (by rw [c14]; decide) (by rw [c14]; decide) (by rw [c14]; rfl) (by decide) ?_
      exact wl_mono (mc2 := m) (ms2 := 5 * m) (by omega) (by omega) (lc_14 l hL W hC hM hI ht hP)
    by_cases c15 : xs t &&& 63 = 15
    · refine rr_tabInY (off := 791) (tgt := 824) oL_law_33 (by rw [c15]; decide) (by rw [c15]; decide) (by rw [c15]; rfl) (by decide) ?_
      exact wl_mono (mc2 := m) (ms2 := 5 * m) (by omega) (by omega) (lc_15 l hL W hC hM hI ht hP)
    by_cases c16 : xs t &&& 63 = 16
    · refine rr_tabInY (off := 834) (tgt := 867) oL_law_33 (by rw [c16]; decide) (by rw [c16]; decide) (by rw [c16]; rfl) (by decide) ?_
      exact wl_mono (mc2 := m) (ms2 := 5 * m) (by omega) (by omega) (lc_16 l hL W hC hM hI ht hP)
    by_cases c17 : xs t &&& 63 = 17
    · refine rr_tabInY (off := 867) (tgt := 900) oL_law_33 (by rw [c17]; decide) (by rw [c17]; decide) (by rw [c17]; rfl) (by decide) ?_
      exact wl_mono (mc2 := m) (ms2 := 5 * m) (by omega) (by omega) (lc_17 l hL W hC hM hI ht hP)
    by_cases c18 : xs t &&& 63 = 18
    · refine rr_tabInY (off := 890) (tgt := 923) oL_law_33 (by rw [c18]; decide) (by rw [c18]; decide) (by rw [c18]; rfl) (by decide) ?_
      exact wl_mono (mc2 := m) (ms2 := 5 * m) (by omega) (by omega) (lc_18 l hL W hC hM hI ht hP)
    by_cases c19 : xs t &&& 63 = 19
    · refine rr_tabInY (off := 903) (tgt := 936) oL_law_33 (by rw [c19]; decide) (by rw [c19]; decide) (by rw [c19]; rfl) (by decide) ?_
      exact wl_mono (mc2 := m) (ms2 := 5 * m) (by omega) (by omega) (lc_19 l hL W hC hM hI ht hP)
    by_cases c20 : xs t &&& 63 = 20
    · refine rr_tabInY (off := 916) (tgt := 949) oL_law_33 (by rw [c20]; decide) (by rw [c20]; decide) (by rw [c20]; rfl) (by decide) ?_
      exact wl_mono (mc2 := m) (ms2 := 5 * m) (by omega) (by omega) (lc_20 l hL W hC hM hI ht hP)
    by_cases c21 : xs t &&& 63 = 21
    · refine rr_tabInY (off := 949) (tgt := 982) oL_law_33 (by rw [c21]; decide) (by rw [c21]; decide) (by rw [c21]; rfl) (by decide) ?_
      exact wl_mono (mc2 := m) (ms2 := 5 * m) (by omega) (by omega) (lc_21 l hL W hC hM hI ht hP)
    by_cases c22 : xs t &&& 63 = 22
    · refine rr_tabInY (off := 972) (tgt := 1005) oL_law_33 (by rw [c22]; decide) (by rw [c22]; decide) (by rw [c22]; rfl) (by decide) ?_
      exact wl_mono (mc2 := m) (ms2 := 5 * m) (by omega) (by omega) (lc_22 l hL W hC hM hI ht hP)
    by_cases c23 : xs t &&& 63 = 23
    · refine rr_tabInY (off := 995) (tgt := 1028) oL_law_33 (by rw [c23]; decide) (by rw [c23]; decide) (by rw [c23]; rfl) (by decide) ?_
      exact wl_mono (mc2 := m) (ms2 := 5 * m) (by omega) (by omega) (lc_23 l hL W hC hM hI ht hP)
    by_cases c24 : xs t &&& 63 = 24
    · refine rr_tabInY (off := 1018) (tgt := 1051) oL_law_33 (by rw [c24]; decide) (by rw [c24]; decide) (by rw [c24]; rfl) (by decide) ?_
      exact wl_mono (mc2 := m) (ms2 := 5 * m) (by omega) (by omega) (lc_24 l hL W hC hM hI ht hP)
    by_cases c25 : xs t &&& 63 = 25
    · refine rr_tabInY (off := 1041) (tgt := 1074) oL_law_33 (by rw [c25]; decide) (by rw [c25]; decide) (by rw [c25]; rfl) (by decide) ?_
      exact wl_mono (mc2 := m) (ms2 := 5 * m) (by omega) (by omega) (lc_25 l hL W hC hM hI ht hP)
    by_cases c26 : xs t &&& 63 = 26
    · refine rr_tabInY (off := 1064) (tgt := 1097) oL_law_33 (by rw [c26]; decide) (by rw [c26]; decide) (by rw [c26]; rfl) (by decide) ?_
      exact wl_mono (mc2 := m) (ms2 := 5 * m) (by omega) (by omega) (lc_26 l hL W hC hM hI ht hP)
    by_cases c27 : xs t &&& 63 = 27
    · refine rr_tabInY (off := 1087) (tgt := 1120) oL_law_33 (by rw [c27]; decide) (by rw [c27]; decide) (by rw [c27]; rfl) (by decide) ?_
      exact wl_mono (mc2 := m) (ms2 := 5 * m) (by omega) (by omega) (lc_27 l hL W hC hM hI ht hP)
    by_cases c28 : xs t &&& 63 = 28
    · refine rr_tabInY (off := 1110) (tgt := 1143) oL_law_33 (by rw [c28]; decide) (by rw [c28]; decide) (by rw [c28]; rfl) (by decide) ?_
      exact wl_mono (mc2 := m) (ms2 := 5 * m) (by omega) (by omega) (lc_28 l hL W hC hM hI ht hP)
    by_cases c29 : xs t &&& 63 = 29
    · refine rr_tabInY (off := 1123) (tgt := 1156) oL_law_33 (by rw [c29]; decide) (by rw [c29]; decide) (by rw [c29]; rfl) (by decide) ?_
      exact wl_mono (mc2 := m) (ms2 := 5 * m) (by omega) (by omega) (lc_29 l hL W hC hM hI ht hP)
    by_cases c30 : xs t &&& 63 = 30
    · refine rr_tabInY (off := 1146) (tgt := 1179) oL_law_33 (by rw [c30]; decide) (by rw [c30]; decide) (by rw [c30]; rfl) (by decide) ?_
      exact wl_mono (mc2 := m) (ms2 := 5 * m) (by omega) (by omega) (lc_30 l hL W hC hM hI ht hP)
    by_cases c31 : xs t &&& 63 = 31
    · refine rr_tabInY (off := 1159) (tgt := 1192) oL_law_33 (by rw [c31]; decide) (by rw [c31]; decide) (by rw [c31]; rfl) (by decide) ?_
      exact wl_mono (mc2 := m) (ms2 := 5 * m) (by omega) (by omega) (lc_31 l hL W hC hM hI ht hP)
    by_cases c32 : xs t &&& 63 = 32
    · refine rr_tabInY (off := 1192) (tgt := 1225) oL_law_33 (by rw [c32]; decide) (by rw [c32]; decide) (by rw [c32]; rfl) (by decide) ?_
      exact wl_mono (mc2 := m) (ms2 := 5 * m) (by omega) (by omega) (lc_32 l hL W hC hM hI ht hP)
    by_cases c33 : xs t &&& 63 = 33
    · refine rr_tabInY (off := 1215) (tgt := 1248) oL_law_33 (by rw [c33]; decide) (by rw [c33]; decide) (by rw [c33]; rfl) (by decide) ?_
      exact wl_mono (mc2 := m) (ms2 := 5 * m) (by omega) (by omega) (lc_33 l hL W hC hM hI ht hP)
    by_cases c34 : xs t &&& 63 = 34
    · refine rr_tabInY (off := 1228) (tgt := 1261) oL_law_33 (by rw [c34]; decide) (by rw [c34]; decide) (by rw [c34]; rfl) (by decide) ?_
      exact wl_mono (mc2 := m) (ms2 := 5 * m) (by omega) (by omega) (lc_34 l hL W hC hM hI ht hP)
    by_cases c35 : xs t &&& 63 = 35
    · refine rr_tabInY (off := 1241) (tgt := 1274) oL_law_33 (by rw [c35]; decide) (by rw [c35]; decide) (by rw [c35]; rfl) (by decide) ?_
      exact wl_mono (mc2 := m) (ms2 := 5 * m) (by omega) (by omega) (lc_35 l hL W hC hM hI ht hP)
    by_cases c36 : xs t &&& 63 = 36
    · refine rr_tabInY (off := 1264) (tgt := 1297) oL_law_33 (by rw [c36]; decide) (by rw [c36]; decide) (by rw [c36]; rfl) (by decide) ?_
      exact wl_mono (mc2 := m) (ms2 := 5 * m) (by omega) (by omega) (lc_36 l hL W hC hM hI ht hP)
    by_cases c37 : xs t &&& 63 = 37
    · refine rr_tabInY (off := 1287) (tgt := 1320) oL_law_33 (by rw [c37]; decide) (by rw [c37]; decide) (by rw [c37]; rfl) (by decide) ?_
      exact wl_mono (mc2 := m) (ms2 := 5 * m) (by omega) (by omega) (lc_37 l hL W hC hM hI ht hP)
    by_cases c38 : xs t &&& 63 = 38
    · refine rr_tabInY (off := 1330) (tgt := 1363) oL_law_33 (by rw [c38]; decide) (by rw [c38]; decide) (by rw [c38]; rfl) (by decide) ?_
      exact wl_mono (mc2 := m) (ms2 := 5 * m) (by omega) (by omega) (lc_38 l hL W hC hM hI ht hP)
    by_cases c39 : xs t &&& 63 = 39
    · refine rr_tabInY (off := 1353) (tgt := 1386) oL_law_33 (by rw [c39]; decide) (by rw [c39]; decide) (by rw [c39]; rfl) (by decide) ?_
      exact wl_mono (mc2 := m) (ms2 := 5 * m) (by omega) (by omega) (lc_39 l hL W hC hM hI ht hP)
    by_cases c40 : xs t &&& 63 = 40
    · refine rr_tabInY (off := 1366) (tgt := 1399) oL_law_33 (by rw [c40]; decide) (by rw [c40]; decide) (by rw [c40]; rfl) (by decide) ?_
      exact wl_mono (mc2 := m) (ms2 := 5 * m) (by omega) (by omega) (lc_40 l hL W hC hM hI ht hP)
    by_cases c41 : xs t &&& 63 = 41
    · refine rr_tabInY (off := 1379) (tgt := 1412) oL_law_33 (by rw [c41]; decide) (by rw [c41]; decide) (by rw [c41]; rfl) (by decide) ?_
      exact wl_mono (mc2 := m) (ms2 := 5 * m) (by omega) (by omega) (lc_41 l hL W hC hM hI ht hP)
    refine rr_tabOutY (tgt := 1435) oL_law_33 (tab_out_0_41 c0 c1 c2 c3 c4 c5 c6 c7 c8 c9 c10 c11 c12 c13 c14 c15 c16 c17 c18 c19 c20 c21 c22 c23 c24 c25 c26 c27 c28 c29 c30 c31 c32 c33 c34 c35 c36 c37 c38 c39 c40 c41) (by decide) ?_
    exact wl_mono (mc2 := m) (ms2 := 5 * m) (by omega) (by omega) (hP I M Rf n S W hC hM hI)
theorem law_walk (l : Launch) {a0 L b : Nat} {xs : Nat → Int32} {D : md_T} (hL : L ≤ 3072) : WL a0 L xs b D l (67 + 512) (3596 + 5 * 512) 0 [vv_E a0, vv_U, vv_U, vv_U] [] (fun _ _ => 0, fun _ _ => 0, fun _ _ => none, 0) := by
  refine rr_newY (ci := 4) (mc2 := 66 + 512) (ms2 := 3596 + 5 * 512 - mx_N 4) oL_law_0 (nw_L_7 rfl) rfl (by decide) rfl (by decide) ?_
  refine rr_dupY oL_law_3 rfl ?_
  refine rr_callIY (mc1 := 21 + 512) (ms1 := 1741 + mx_N 5 + 5 * 512) oL_law_4 (ci_L_9 rfl) (c_X4_init l) (by decide) rfl rfl (Nat.le_of_ble_eq_true rfl) (by decide) (by decide) ?_
  rintro r Y ⟨rfl, J, M, R2, rfl, hC, hR, hR2⟩
  refine sa_1Y oL_law_7 rfl rfl ?_
  refine rr_newY (ci := 5) (mc2 := 20 + 512) (ms2 := 1741 + 5 * 512) oL_law_8 (nw_L_10 rfl) rfl (by decide) rfl (by decide) ?_
  refine rr_dupY oL_law_11 rfl ?_
  refine rr_callIY (mc1 := 512) (ms1 := 5 * 512) oL_law_12 (ci_L_12 rfl) (c_X5_init l hR hR2) (by decide) rfl rfl (Nat.le_of_ble_eq_true rfl) (by decide) (by decide) ?_
  rintro r Y ⟨rfl, J2, M2, R3, rfl, hM, hf, W⟩
  refine sa_2Y oL_law_15 rfl rfl ?_
  refine rk_0Y oL_law_16 ?_
  refine si_3Y oL_law_17 rfl rfl ?_
  exact law_loop l hL 512 0 (by omega) (Nat.zero_le _) W (CR_cut hC (fun a ha => (hf a ha).1) (fun a ha => (hf a ha).2)) hM IV_0
