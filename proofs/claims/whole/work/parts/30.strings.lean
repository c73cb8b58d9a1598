/-! strings; the reader's words (by program: wip/whole/c30.py) -/
abbrev sK_N (D : md_T) (i : Nat) : Nat := D.2.2.2.2.1 i
abbrev sV_N (D : md_T) (i : Nat) : Nat := D.2.2.2.2.2 i
abbrev ln_N (w : Nat) : Nat := ms_len.getD w 0
def s_ch (w t : Nat) : Int32 := (ms_byt.getD w []).getD t 0
theorem rr_ldcSF {b : Nat} {D : md_T} {l : Launch} {k : mm_T} {d mc ms pc np : Nat} {ls st : List vv_T} {X : mx_T} {Q : Option vv_T → mx_T → Prop} {i j : Nat} {tx : String} (hd : op_at k pc (.ldc j) 2 np) (ht : ms_tx[i]? = some (j, tx)) (hc : k.1.cls = RX2) (kk : wf_W b D l k d mc ms np ls (vv_E (sK_N D i) :: st) X Q) : wf_W b D l k d mc ms pc ls (st) X Q := by
  intro p e R s m args below meth c H locs cells slots MC MS arr hS hR hc hs hV hX hL
  obtain ⟨hd, rfl⟩ := hd
  have hK := hS.2.2.2.2.2.2.2.2.1.2.2.2
  have hts := hS.2.2.2.2.2.1
  exact va_ldcS hS.1 hS.2.1 hS.2.2.2.2.1 (by rw [‹k.1.cls = RX2›]; exact hK.2.1 i _ ht) hd (kk p e R s m args below meth c H locs cells slots MC MS arr hS hR hc hs hV hX hL)
theorem rr_gvEF {b : Nat} {D : md_T} {l : Launch} {k : mm_T} {d mc ms pc np : Nat} {ls st : List vv_T} {X : mx_T} {Q : Option vv_T → mx_T → Prop} {i : Nat} (hi : i < 5) (hd : op_at k pc (.getfield 9) 3 np) (hw : Cond.fieldLink k.1.cls 9 "java/lang/String" "value" "[B" ∈ GW) (kk : wf_W b D l k d mc ms np ls (vv_E (sV_N D i) :: st) X Q) : wf_W b D l k d mc ms pc ls (vv_E (sK_N D i) :: st) X Q := by
  intro p e R s m args below meth c H locs cells slots MC MS arr hS hR hc hs hV hX hL
  obtain ⟨hd, rfl⟩ := hd
  have hK := hS.2.2.2.2.2.2.2.2.1.2.2.2
  have hts := hS.2.2.2.2.2.1
  exact vk_getf hS.1 hS.2.1 (hK.1.1 i hi).2.2.1 hV hS.2.2.2.2.1 (hts _ hw) (fun _ h => h) hd (kk p e R s m args below meth c H locs cells slots MC MS arr hS hR hc hs hV hX hL)
theorem rr_gcEF {b : Nat} {D : md_T} {l : Launch} {k : mm_T} {d mc ms pc np : Nat} {ls st : List vv_T} {X : mx_T} {Q : Option vv_T → mx_T → Prop} {i : Nat} (hi : i < 5) (hd : op_at k pc (.getfield 15) 3 np) (hw : Cond.fieldLink k.1.cls 15 "java/lang/String" "coder" "B" ∈ GW) (kk : wf_W b D l k d mc ms np ls (vv_I 0 :: st) X Q) : wf_W b D l k d mc ms pc ls (vv_E (sK_N D i) :: st) X Q := by
  intro p e R s m args below meth c H locs cells slots MC MS arr hS hR hc hs hV hX hL
  obtain ⟨hd, rfl⟩ := hd
  have hK := hS.2.2.2.2.2.2.2.2.1.2.2.2
  have hts := hS.2.2.2.2.2.1
  exact vk_getf hS.1 hS.2.1 (hK.1.1 i hi).2.1 hV hS.2.2.2.2.1 (hts _ hw) (fun _ h => h) hd (kk p e R s m args below meth c H locs cells slots MC MS arr hS hR hc hs hV hX hL)
theorem rr_gsCF {b : Nat} {D : md_T} {l : Launch} {k : mm_T} {d mc ms pc np : Nat} {ls st : List vv_T} {X : mx_T} {Q : Option vv_T → mx_T → Prop} {i : Nat} (hd : op_at k pc (.getstatic i) 3 np) (hw : Cond.fieldLink k.1.cls i "java/lang/String" "COMPACT_STRINGS" "Z" ∈ GW) (kk : wf_W b D l k d mc ms np ls (vv_I 1 :: st) X Q) : wf_W b D l k d mc ms pc ls (st) X Q := by
  intro p e R s m args below meth c H locs cells slots MC MS arr hS hR hc hs hV hX hL
  obtain ⟨hd, rfl⟩ := hd
  have hK := hS.2.2.2.2.2.2.2.2.1.2.2.2
  have hts := hS.2.2.2.2.2.1
  exact va_gets hS.1 hS.2.1 hK.2.2.1 hV hS.2.2.2.2.1 (hts _ hw) (fun _ h => h) hd (kk p e R s m args below meth c H locs cells slots MC MS arr hS hR hc hs hV hX hL)
theorem rr_gsQF {b : Nat} {D : md_T} {l : Launch} {k : mm_T} {d mc ms pc np : Nat} {ls st : List vv_T} {X : mx_T} {Q : Option vv_T → mx_T → Prop} {i : Nat} (hd : op_at k pc (.getstatic i) 3 np) (hw : Cond.fieldLink k.1.cls i "jdk/internal/util/Preconditions" "SIOOBE_FORMATTER" "Ljava/util/function/BiFunction;" ∈ GW) (kk : ∀ w : vv_T, (w = vv_A none ∨ ∃ q, w = vv_E q) → wf_W b D l k d mc ms np ls (w :: st) X Q) : wf_W b D l k d mc ms pc ls st X Q := by
  intro p e R s m args below meth c H locs cells slots MC MS arr hS hR hc hs hV hX hL
  obtain ⟨hd, rfl⟩ := hd
  have hK := hS.2.2.2.2.2.2.2.2.1.2.2.2
  have hts := hS.2.2.2.2.2.1
  rcases hK.2.2.2 with h | ⟨t, h⟩
  · exact va_gets hS.1 hS.2.1 h hV hS.2.2.2.2.1 (hts _ hw) (fun _ h => h) hd (kk (vv_A none) (Or.inl rfl) p e R s m args below meth c H locs cells slots MC MS arr hS hR hc hs hV hX hL)
  · exact va_gets hS.1 hS.2.1 h hV hS.2.2.2.2.1 (hts _ hw) (fun _ h => h) hd (kk (vv_E t) (Or.inr ⟨t, rfl⟩) p e R s m args below meth c H locs cells slots MC MS arr hS hR hc hs hV hX hL)
theorem rr_alEF {b : Nat} {D : md_T} {l : Launch} {k : mm_T} {d mc ms pc np : Nat} {ls st : List vv_T} {X : mx_T} {Q : Option vv_T → mx_T → Prop} {i : Nat} (hi : i < 5) (hd : op_at k pc .arraylength 1 np) (kk : wf_W b D l k d mc ms np ls (vv_I (nI (ln_N i)) :: st) X Q) : wf_W b D l k d mc ms pc ls (vv_E (sV_N D i) :: st) X Q := by
  intro p e R s m args below meth c H locs cells slots MC MS arr hS hR hc hs hV hX hL
  obtain ⟨hd, rfl⟩ := hd
  have hK := hS.2.2.2.2.2.2.2.2.1.2.2.2
  have hts := hS.2.2.2.2.2.1
  exact va_tlen hS.1 hS.2.1 (hK.1.1 i hi).2.2.2 hV rfl hd (kk p e R s m args below meth c H locs cells slots MC MS arr hS hR hc hs hV hX hL)
theorem ln_9 : ∀ i, i < 5 → ln_N i < 9 := by decide
theorem rr_baEF {b : Nat} {D : md_T} {l : Launch} {k : mm_T} {d mc ms pc np : Nat} {ls st : List vv_T} {X : mx_T} {Q : Option vv_T → mx_T → Prop} {i t : Nat} (hi : i < 5) (ht : t < ln_N i) (hd : op_at k pc .baload 1 np) (kk : wf_W b D l k d mc ms np ls (vv_I (s_ch i t) :: st) X Q) : wf_W b D l k d mc ms pc ls (vv_I (nI t) :: vv_E (sV_N D i) :: st) X Q := by
  intro p e R s m args below meth c H locs cells slots MC MS arr hS hR hc hs hV hX hL
  obtain ⟨hd, rfl⟩ := hd
  have hK := hS.2.2.2.2.2.2.2.2.1.2.2.2
  have hts := hS.2.2.2.2.2.1
  have h9 : ms_len.getD i 0 < 9 := ln_9 i hi
  have ht : t < ms_len.getD i 0 := ht
  exact va_tb hS.1 hS.2.1 (hK.1.1 i hi).2.2.2 hV (vp_in_nI ht (by omega)) (v := .int (s_ch i t)) (by show Value.int ((ms_byt.getD i []).getD (nI t).toNatClampNeg 0) = _; rw [nI_clamp (by omega)]; rfl) hd (kk p e R s m args below meth c H locs cells slots MC MS arr hS hR hc hs hV hX hL)
theorem rr_callVEF {b : Nat} {D : md_T} {l : Launch} {k : mm_T} {d mc ms pc np : Nat} {ls : List vv_T} {X : mx_T} {Q : Option vv_T → mx_T → Prop} {k2 : mm_T} {i n d2 w mc2 ms2 mc1 ms1 : Nat} {As st0 rest : List vv_T} {Q2 : Option vv_T → mx_T → Prop} (hd : op_at k pc (.invokevirtual i) 3 np) (hc : cl_V k k2 i n) (hM : wf_C b D l k2 d2 mc2 ms2 (vv_E (sK_N D w) :: As) X Q2) (hdd : d2 + 1 ≤ d) (hw : w < 5) (hcl2 : k2.1.cls = RJ0)
    (hn : As.length = n) (hst : As.reverse ++ vv_E (sK_N D w) :: rest = st0) (hW : (rest.map vv_c).sum ≤ 8) (h1 : mc1 + mc2 = mc) (h2 : ms1 + ms2 = ms) (kk : ∀ (r : Option vv_T) (Y : mx_T), Q2 r Y → wf_W b D l k d mc1 ms1 np ls (r.toList ++ rest) Y Q) : wf_W b D l k d mc ms pc ls st0 X Q := by
  subst hst
  intro p e R s m args below meth c H locs cells slots MC MS arr hS hR hcl hs hV hX hL
  obtain ⟨hd, rfl⟩ := hd
  obtain ⟨⟨c1, c2, c3, c4, c5⟩, c6, c7⟩ := hc
  have hts := hS.2.2.2.2.2.1
  have hK := hS.2.2.2.2.2.2.2.2.1.2.2.2
  have hrec : ∃ cellB : Cell, H[sK_N D w]? = some cellB ∧ cellB.vm.isStatics = false ∧ s.vm.findClass k2.1.cls = some cellB.cls := by rw [hcl2]; exact vk_recv hK.1 hw hV
  refine wm_callF (As := vv_E (sK_N D w) :: As) (rest := rest) (d := d) (k := k) (va_runV (As := As.map (to_V b)) (rest := rest.map (to_V b)) (C := k2.1.cls) ⟨hS.1, hS.2.1, hS.2.2.1, hS.2.2.2.2.1, hts⟩ hM ⟨callB_of n hts (gw_goodIn (k := k) c2) rfl rfl rfl (hts _ c3) (hts _ c1) c4 ⟨by show d2 + 1 ≤ _; omega, by show 8 + (k2.2.2.1 + 11) + 40 * d2 ≤ _; omega⟩, hts _ c6, hts _ c7⟩ ⟨wm_blind, hrec, wm_pre hS hV hX⟩ rfl (by rw [List.length_map]; exact hn) hL.1 ?_ (lv_room (by rw [sum_c]; exact hW)) hd ⟨by omega, by omega⟩) hS hR hcl hs hV hL h1 h2 kk
  show List.map (to_V b) (As.reverse ++ vv_E (sK_N D w) :: rest) = (As.map (to_V b)).reverse ++ _
  rw [List.map_append, List.map_reverse]
  rfl
theorem rr_cVEiF {b : Nat} {D : md_T} {l : Launch} {k : mm_T} {d mc ms pc np : Nat} {ls : List vv_T} {X : mx_T} {Q : Option vv_T → mx_T → Prop} {k2 : mm_T} {i m d2 w : Nat} {As st0 rest : List vv_T} {v : Int32} {Y : mx_T} (hM : wf_C b D l k2 d2 0 0 (vv_E (sK_N D w) :: As) X (q_i v Y)) (hd : op_at k pc (.invokevirtual i) 3 np) (hc : cl_V k k2 i m) (hdd : d2 + 1 ≤ d) (hw : w < 5) (hcl2 : k2.1.cls = RJ0)
    (hn : As.length = m) (hst : As.reverse ++ vv_E (sK_N D w) :: rest = st0) (hW : (rest.map vv_c).sum ≤ 8) (kk : wf_W b D l k d mc ms np ls (vv_I v :: rest) Y Q) : wf_W b D l k d mc ms pc ls st0 X Q :=
  rr_callVEF hd hc hM hdd hw hcl2 hn hst hW rfl rfl (fun r Z h => by obtain ⟨rfl, rfl⟩ := h; exact kk)
theorem rr_cSvF {b : Nat} {D : md_T} {l : Launch} {k : mm_T} {d mc ms pc np : Nat} {ls : List vv_T} {X : mx_T} {Q : Option vv_T → mx_T → Prop} {k2 : mm_T} {i m d2 : Nat} {As st0 rest : List vv_T} {Y : mx_T} (hM : wf_C b D l k2 d2 0 0 As X (q_v Y)) (hd : op_at k pc (.invokestatic i) 3 np) (hc : cl_S k k2 i m) (hdd : d2 + 1 ≤ d)
    (hn : As.length = m) (hst : As.reverse ++ rest = st0) (hW : (rest.map vv_c).sum ≤ 8) (kk : wf_W b D l k d mc ms np ls rest Y Q) : wf_W b D l k d mc ms pc ls st0 X Q :=
  rr_callSF hd hc hM hdd hn hst hW rfl rfl (fun r Z h => by obtain ⟨rfl, rfl⟩ := h; exact kk)
theorem c_J3_checkIndex {b : Nat} {D : md_T} (l : Launch) {X : mx_T} {i n : Int32} (h : 0 ≤ i ∧ i < n) {w : vv_T} (hw : w = vv_A none ∨ ∃ q, w = vv_E q) : wf_C b D l mJ3_checkIndex_8e157 1 0 0 [vv_I i, vv_I n, w] X (q_i i X) := by
  rcases hw with rfl | ⟨q, rfl⟩
  all_goals
    refine wf_of (by decide) (Nat.le_of_ble_eq_true rfl) rfl ?_
    refine ri_0F oJ3_checkIndex_8e157_0 ?_
    refine rr_if_ltF (tgt := 9) oJ3_checkIndex_8e157_1 (by decide) (fun c => absurd c (Int32.not_lt.mpr h.1)) (fun c => ?_)
    refine ri_0F oJ3_checkIndex_8e157_4 ?_
    refine ri_1F oJ3_checkIndex_8e157_5 ?_
    refine rr_icmp_ltF (tgt := 16) oJ3_checkIndex_8e157_6 (by decide) (fun c2 => ?_) (fun c2 => absurd h.2 c2)
    refine ri_0F oJ3_checkIndex_8e157_16 ?_
    exact rr_ireturnF oJ3_checkIndex_8e157_17 rfl rfl ⟨rfl, rfl⟩
theorem c_J0_checkIndex {b : Nat} {D : md_T} (l : Launch) {X : mx_T} {i n : Int32} (h : 0 ≤ i ∧ i < n) : wf_C b D l mJ0_checkIndex_df160 2 0 0 [vv_I i, vv_I n] X (q_v X) := by
  refine wf_of (by decide) (Nat.le_of_ble_eq_true rfl) rfl ?_
  refine ri_0F oJ0_checkIndex_df160_0 ?_
  refine ri_1F oJ0_checkIndex_df160_1 ?_
  refine rr_gsQF oJ0_checkIndex_df160_2 (gw_in (i := 551) (by decide +kernel) (by decide +kernel)) (fun w hw => ?_)
  refine rr_cSiF (c_J3_checkIndex l h hw) oJ0_checkIndex_df160_5 (cs_J0_1059 rfl) (by decide) rfl rfl (Nat.le_of_ble_eq_true rfl) ?_
  refine rr_popF oJ0_checkIndex_df160_8 rfl ?_
  exact rr_returnF oJ0_checkIndex_df160_9 rfl ⟨rfl, rfl⟩
theorem ch_N : ∀ w, w < 5 → ∀ t, t < ln_N w → ((s_ch w t &&& 255).toUInt32 % 65536).toInt32 = s_ch w t ∧ narrow .char (.int (s_ch w t)) = .int (s_ch w t) := by decide +kernel
theorem c_J1_charAt {b : Nat} {D : md_T} (l : Launch) {X : mx_T} {w t : Nat} (hw : w < 5) (ht : t < ln_N w) : wf_C b D l mJ1_charAt_3b067 3 0 0 [vv_E (sV_N D w), vv_I (nI t)] X (q_i (s_ch w t) X) := by
  have h9 := ln_9 w hw
  refine wf_of (by decide) (Nat.le_of_ble_eq_true rfl) rfl ?_
  refine ri_1F oJ1_charAt_3b067_0 ?_
  refine re_0F oJ1_charAt_3b067_1 ?_
  refine rr_alEF hw oJ1_charAt_3b067_2 ?_
  refine rr_cSvF (c_J0_checkIndex l ⟨nI_pos' (by omega), (nI_lt_iff (by omega) (by omega)).mpr ht⟩) oJ1_charAt_3b067_3 (cs_J1_9 rfl) (by decide) rfl rfl (Nat.le_of_ble_eq_true rfl) ?_
  refine re_0F oJ1_charAt_3b067_6 ?_
  refine ri_1F oJ1_charAt_3b067_7 ?_
  refine rr_baEF hw ht oJ1_charAt_3b067_8 ?_
  refine rr_sipushF (v := 255) oJ1_charAt_3b067_9 (by decide) ?_
  refine rr_iandF oJ1_charAt_3b067_12 ?_
  refine rr_i2cF oJ1_charAt_3b067_13 ?_
  rw [(ch_N w hw t ht).1]
  exact rr_ireturnF oJ1_charAt_3b067_14 rfl (ch_N w hw t ht).2 ⟨rfl, rfl⟩
theorem c_J0_isLatin1 {b : Nat} {D : md_T} (l : Launch) {X : mx_T} {w : Nat} (hw : w < 5) : wf_C b D l mJ0_isLatin1_aae02 1 0 0 [vv_E (sK_N D w)] X (q_i 1 X) := by
  refine wf_of (by decide) (Nat.le_of_ble_eq_true rfl) rfl ?_
  refine rr_gsCF oJ0_isLatin1_aae02_0 (gw_in (i := 531) (by decide +kernel) (by decide +kernel)) ?_
  refine rr_if_eqF (tgt := 17) oJ0_isLatin1_aae02_3 (by decide) (fun q => absurd q (by decide)) (fun _ => ?_)
  refine re_0F oJ0_isLatin1_aae02_6 ?_
  refine rr_gcEF hw oJ0_isLatin1_aae02_7 (gw_in (i := 1362) (by decide +kernel) (by decide +kernel)) ?_
  refine rr_if_neF (tgt := 17) oJ0_isLatin1_aae02_10 (by decide) (fun q => absurd rfl q) (fun _ => ?_)
  refine rk_1F oJ0_isLatin1_aae02_13 ?_
  refine rr_gotoF (tgt := 18) oJ0_isLatin1_aae02_14 (by decide) ?_
  exact rr_ireturnF oJ0_isLatin1_aae02_18 rfl rfl ⟨rfl, rfl⟩
theorem c_J0_coder {b : Nat} {D : md_T} (l : Launch) {X : mx_T} {w : Nat} (hw : w < 5) : wf_C b D l mJ0_coder_7d493 1 0 0 [vv_E (sK_N D w)] X (q_i 0 X) := by
  refine wf_of (by decide) (Nat.le_of_ble_eq_true rfl) rfl ?_
  refine rr_gsCF oJ0_coder_7d493_0 (gw_in (i := 531) (by decide +kernel) (by decide +kernel)) ?_
  refine rr_if_eqF (tgt := 13) oJ0_coder_7d493_3 (by decide) (fun q => absurd q (by decide)) (fun _ => ?_)
  refine re_0F oJ0_coder_7d493_6 ?_
  refine rr_gcEF hw oJ0_coder_7d493_7 (gw_in (i := 1362) (by decide +kernel) (by decide +kernel)) ?_
  refine rr_gotoF (tgt := 14) oJ0_coder_7d493_10 (by decide) ?_
  exact rr_ireturnF oJ0_coder_7d493_14 rfl rfl ⟨rfl, rfl⟩
theorem ln_sh : ∀ w, w < 5 → nI (ln_N w) >>> ((0 : Int32) &&& 31) = nI (ln_N w) := by decide +kernel
theorem c_J0_length {b : Nat} {D : md_T} (l : Launch) {X : mx_T} {w : Nat} (hw : w < 5) : wf_C b D l mJ0_length_8abf5 2 0 0 [vv_E (sK_N D w)] X (q_i (nI (ln_N w)) X) := by
  refine wf_of (by decide) (Nat.le_of_ble_eq_true rfl) rfl ?_
  refine re_0F oJ0_length_8abf5_0 ?_
  refine rr_gvEF hw oJ0_length_8abf5_1 (gw_in (i := 1361) (by decide +kernel) (by decide +kernel)) ?_
  refine rr_alEF hw oJ0_length_8abf5_4 ?_
  refine re_0F oJ0_length_8abf5_5 ?_
  refine rr_cVEiF (c_J0_coder l hw) oJ0_length_8abf5_6 (cv_J0_335 rfl) (by decide) hw rfl rfl rfl (Nat.le_of_ble_eq_true rfl) ?_
  refine rr_ishrF oJ0_length_8abf5_9 ?_
  exact rr_ireturnF oJ0_length_8abf5_10 rfl rfl (q_is (ln_sh w hw))
theorem c_J0_charAt {b : Nat} {D : md_T} (l : Launch) {X : mx_T} {w t : Nat} (hw : w < 5) (ht : t < ln_N w) : wf_C b D l mJ0_charAt_5068e 4 0 0 [vv_E (sK_N D w), vv_I (nI t)] X (q_i (s_ch w t) X) := by
  refine wf_of (by decide) (Nat.le_of_ble_eq_true rfl) rfl ?_
  refine re_0F oJ0_charAt_5068e_0 ?_
  refine rr_cVEiF (c_J0_isLatin1 l hw) oJ0_charAt_5068e_1 (cv_J0_492 rfl) (by decide) hw rfl rfl rfl (Nat.le_of_ble_eq_true rfl) ?_
  refine rr_if_eqF (tgt := 16) oJ0_charAt_5068e_4 (by decide) (fun q => absurd q (by decide)) (fun _ => ?_)
  refine re_0F oJ0_charAt_5068e_7 ?_
  refine rr_gvEF hw oJ0_charAt_5068e_8 (gw_in (i := 1361) (by decide +kernel) (by decide +kernel)) ?_
  refine ri_1F oJ0_charAt_5068e_11 ?_
  refine rr_cSiF (c_J1_charAt l hw ht) oJ0_charAt_5068e_12 (cs_J0_495 rfl) (by decide) rfl rfl (Nat.le_of_ble_eq_true rfl) ?_
  exact rr_ireturnF oJ0_charAt_5068e_15 rfl (ch_N w hw t ht).2 ⟨rfl, rfl⟩
