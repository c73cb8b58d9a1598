/-! SeenByOne: copy (by program: wip/whole/c28.py) -/
def cp_L (L : Nat → Nat → Int64) (a a0 sp dp n : Nat) : Nat → Nat → Int64 := fun q => if q = a then va_cpy (L a0) (L a) sp dp n else L q
theorem cp_L_ne {L : Nat → Nat → Int64} {a a0 sp dp n q : Nat} (h : q ≠ a) : cp_L L a a0 sp dp n q = L q := if_neg h
theorem cp_L_eq {L : Nat → Nat → Int64} {a a0 sp dp n : Nat} : cp_L L a a0 sp dp n a = va_cpy (L a0) (L a) sp dp n := if_pos rfl
theorem nn_I {z : Int32} (hz : ¬ z < 0) : z.toInt = (z.toNatClampNeg : Int) := by
  have hz0 : (0 : Int) ≤ z.toInt := by
    have := Int32.not_lt.mp hz
    simpa using Int32.le_iff_toInt_le.mp this
  show z.toInt = ((z.toInt.toNat : Nat) : Int)
  omega
/-- System.arraycopy of a part of a long[] -/
theorem rr_copyL {l : Launch} {k : mm_T} {d mc ms pc np : Nat} {ls st : List vv_T} {Q : Option vv_T → mx_T → Prop} {I : Nat → Nat → Int32} {L : Nat → Nat → Int64} {Rf : Nat → Nat → Option Nat} {n : Nat} {i a a0 z z0 : Nat} {sp dp v : Int32} (hd : op_at k pc (.invokestatic i) 3 np) (hw : Cond.methodLink k.1.cls i arraycopyName ∈ GW ∧ Cond.native arraycopyName ∈ GW ∧ Cond.static arraycopyName ∈ GW ∧ Cond.initialized "java/lang/System" ∈ GW) (hk : kO a = 7 ∧ zO a = z) (hk0 : kO a0 = 7 ∧ zO a0 = z0) (ha : a < n) (ha0 : a0 < n) (h1 : ¬ sp < 0) (h2 : ¬ dp < 0) (h3 : ¬ v < 0) (h4 : sp.toNatClampNeg + v.toNatClampNeg ≤ z0) (h5 : dp.toNatClampNeg + v.toNatClampNeg ≤ z) (hdd : 1 ≤ d) (hW : (st.map vv_c).sum ≤ 8)
    (kk : wm_W l k d mc ms np ls st (I, cp_L L a a0 sp.toNatClampNeg dp.toNatClampNeg v.toNatClampNeg, Rf, n) Q) : wm_W l k d mc ms pc ls (vv_I v :: vv_I dp :: vv_A (some a) :: vv_I sp :: vv_A (some a0) :: st) (I, L, Rf, n) Q := by
  intro b D p e R s m args below meth c H locs cells slots MC MS arr hS hR hcl hs hV hX hL
  obtain ⟨hd, rfl⟩ := hd
  obtain ⟨hk, hz1⟩ := hk
  obtain ⟨hk0, hz0⟩ := hk0
  have hts := hS.2.2.2.2.2.1
  have hK := hS.2.2.2.2.2.2.2.2.1.1
  have hc0 : H[b + a0]? = some (vp_cell D.2.2.1 (z0, .inr (.inl (L a0)))) := by
    have h := hX.2 a0 ha0
    rw [mx_ct7 hk0, hz0] at h
    exact h
  have hc1 : H[b + a]? = some (vp_cell D.2.2.1 (z, .inr (.inl (L a)))) := by
    have h := hX.2 a ha
    rw [mx_ct7 hk, hz1] at h
    exact h
  intro T hT X
  obtain ⟨-, k0, hk0', cm0, hkk0⟩ := (hK.2 1 (D.2.2.1, .long) rfl).1 z0 (fun j => .long (L a0 j))
  obtain ⟨-, k1, hk1', cm1, hkk1⟩ := (hK.2 1 (D.2.2.1, .long) rfl).1 z (fun j => .long (L a j))
  obtain ⟨vm', X', step⟩ := X.arraycopy hS.1 hS.2.2.2.2.1 (hts _ hw.1) (hts _ hw.2.1) (hts _ hw.2.2.1) (hts _ hw.2.2.2) (src := b + a0) (dst := b + a) (cs := vp_cell D.2.2.1 (z0, .inr (.inl (L a0)))) (cd := vp_cell D.2.2.1 (z, .inr (.inl (L a)))) (srcPos := sp) (destPos := dp) (n := v) (by rw [hT]; exact hc0) (by rw [hT]; exact hc1)
    (fun _ h => by cases h) (fun _ h => by cases h) (fun h => by cases h) (fun h => by cases h) hk0' hk1' hkk0 hkk1 (by simp [refKind]) h1 h2 h3
    (by rw [nn_I h1, nn_I h3]; show ¬ _ > ((arrV _ z0 (fun j => .long (L a0 j))).slots.size : Int); rw [arrV_size]; omega)
    (by rw [nn_I h2, nn_I h3]; show ¬ _ > ((arrV _ z (fun j => .long (L a j))).slots.size : Int); rw [arrV_size]; omega)
    (fun vm₁ _ i hi => by
      have e : (vp_cell D.2.2.1 (z0, .inr (.inl (L a0)))).slots.getD (sp.toNatClampNeg + i) .null = .long (L a0 (sp.toNatClampNeg + i)) := by
        show (arrV _ _ (fun j => .long (L a0 j))).slots.getD _ _ = _
        rw [Array.getD_eq_getD_getElem?, arrV_read _ _ (by omega)]
        rfl
      refine ⟨?_, ?_⟩
      · rw [e]; rfl
      · rw [e]; exact trivial)
    (g := F0 m pc arr (.int v :: .int dp :: .ref (b + a) :: .int sp :: .ref (b + a0) :: st.map (to_V b))) rfl (by rw [hS.2.2.1]; exact hL.1) (rest := st.map (to_V b)) rfl (by rw [hS.2.1]; exact hd) (by omega) (by
      have e7 : nativeFrameWords "java/lang/System" "arraycopy" 5 = 7 := by decide +kernel
      have := sum_c b st
      rw [e7]
      show 2 * 0 + _ + _ ≤ _
      rw [this]
      omega)
  have e1 : copied (vp_cell D.2.2.1 (z0, .inr (.inl (L a0)))) (vp_cell D.2.2.1 (z, .inr (.inl (L a)))) sp dp v = vp_cell D.2.2.1 (z, .inr (.inl (va_cpy (L a0) (L a) sp.toNatClampNeg dp.toNatClampNeg v.toNatClampNeg))) := va_copied (fun z => .long z) _ _ _ _ h4
  rw [e1] at X' step
  have hl : b + a < H.size := (Array.getElem?_eq_some_iff.mp hc1).1
  have hheap : ((T.setVm vm').setCell (b + a) (vp_cell D.2.2.1 (z, .inr (.inl (va_cpy (L a0) (L a) sp.toNatClampNeg dp.toNatClampNeg v.toNatClampNeg))))).heap = H.setIfInBounds (b + a) (vp_cell D.2.2.1 (z, .inr (.inl (va_cpy (L a0) (L a) sp.toNatClampNeg dp.toNatClampNeg v.toNatClampNeg)))) := by rw [← hT]; rfl
  have oq : ∀ q : Nat, q ≠ b + a → (H.setIfInBounds (b + a) (vp_cell D.2.2.1 (z, .inr (.inl (va_cpy (L a0) (L a) sp.toNatClampNeg dp.toNatClampNeg v.toNatClampNeg)))))[q]? = H[q]? := fun q hq => by simp [Array.getElem?_setIfInBounds, Ne.symm hq]
  obtain ⟨t, a1, b1⟩ := kk b D p e R s m args below meth c _ _ cells slots MC MS arr hS hR hcl hs ⟨by simp; exact hV.1, fun q g1 g2 => by
      rw [oq q (fun e => g2 (by rw [e]; exact Nat.le_add_right b a))]
      exact hV.2.1 q g1 g2, fun q hq => by
      rcases List.mem_append.mp hq with h | h
      · exact hV.2.2 q h
      · obtain ⟨z, -, hz⟩ := List.mem_map.mp h
        rw [← hz]
        exact Nat.le_add_right b a⟩ (mx_set (Y := (I, cp_L L a a0 sp.toNatClampNeg dp.toNatClampNeg v.toNatClampNeg, Rf, n)) (H1 := H.setIfInBounds (b + a) (vp_cell D.2.2.1 (z, .inr (.inl (va_cpy (L a0) (L a) sp.toNatClampNeg dp.toNatClampNeg v.toNatClampNeg))))) hX rfl (by simp) oq (by
      rw [mx_ct7 hk]
      show (H.setIfInBounds (b + a) _)[b + a]? = some (vp_cell _ (zO a, .inr (.inl (cp_L L a a0 sp.toNatClampNeg dp.toNatClampNeg v.toNatClampNeg a))))
      rw [cp_L_eq, hz1]
      simp [Array.getElem?_setIfInBounds, hl]) (fun a' h => mx_ct_eq rfl (cp_L_ne h) rfl)) hL _ hheap X'
  exact ⟨t, step t a1, b1⟩
abbrev th_T (h : Int32) : Prop := 0 ≤ h ∧ h < 8
def s_lrs (S : sg_T) (p q : Int32) : Int32 := if ¬ ((0 ≤ p ∧ p < 8) ∧ (0 ≤ q ∧ q < 8)) then -1 else if th_T (z_hd S (ix_N p)) ∨ th_T (z_hd S (ix_N q)) then -2 else if ¬ (100 ≤ z_hd S (ix_N p) ∧ 100 ≤ z_hd S (ix_N q)) then -3 else if z_hd S (ix_N p) = z_hd S (ix_N q) then 0 else -2
theorem s_lrs_N {S : sg_T} {t u : Nat} (ht : t < 8) (hu : u < 8) : s_lrs S (nI t) (nI u) = if th_T (z_hd S t) ∨ th_T (z_hd S u) then -2 else if ¬ (100 ≤ z_hd S t ∧ 100 ≤ z_hd S u) then -3 else if z_hd S t = z_hd S u then 0 else -2 := by
  have e : ∀ t, t < 8 → 0 ≤ nI t ∧ nI t < 8 := by decide +kernel
  unfold s_lrs ix_N
  rw [nI_clamp (by omega), nI_clamp (by omega), if_neg (fun q => q ⟨e t ht, e u hu⟩)]
theorem s_lrs_0 {S : sg_T} {p q : Int32} (h : s_lrs S p q = 0) : ∃ t u, t < 8 ∧ u < 8 ∧ p = nI t ∧ q = nI u ∧ 100 ≤ z_hd S t ∧ 100 ≤ z_hd S u := by
  by_cases c : (0 ≤ p ∧ p < 8) ∧ (0 ≤ q ∧ q < 8)
  · obtain ⟨t, ht, rfl⟩ := ix_of c.1.1 (show p < nI 8 from c.1.2) (by omega)
    obtain ⟨u, hu, rfl⟩ := ix_of c.2.1 (show q < nI 8 from c.2.2) (by omega)
    rw [s_lrs_N ht hu] at h
    split at h
    · exact absurd h (by decide)
    · split at h
      · exact absurd h (by decide)
      · next z =>
        rw [Classical.not_not] at z
        exact ⟨t, u, ht, hu, rfl, rfl, z.1, z.2⟩
  · unfold s_lrs at h
    rw [if_pos c] at h
    exact absurd h (by decide)
theorem s_lrs_n {S : sg_T} {p q : Int32} : s_lrs S p q = 0 ∨ s_lrs S p q = -1 ∨ s_lrs S p q = -2 ∨ s_lrs S p q = -3 := by
  unfold s_lrs
  split
  · simp
  · split
    · simp
    · split
      · simp
      · split <;> simp
abbrev rg_T (i m z : Int32) : Prop := 0 ≤ i ∧ 0 ≤ m ∧ i ≤ z - m
def s_cp (S : sg_T) (p q i j m : Int32) : Int32 := if ¬ s_lrs S p q = 0 then s_lrs S p q else if m < 0 then -4 else if ¬ (rg_T i m (z_sz S (ix_N p)) ∧ rg_T j m (z_sz S (ix_N q))) then -5 else 0
def f_copy (S : sg_T) (p q i j m : Int32) : an_T := if ¬ s_cp S p q i j m = 0 then f_no S (s_cp S p q i j m) else
  (1, w_el S (fun s => if s = ix_N q then va_cpy (z_el S (ix_N p)) (z_el S (ix_N q)) (ix_N i) (ix_N j) (ix_N m) else z_el S s))
theorem rg_N {i m : Int32} {k : Nat} (hk : k ≤ 160) (h : rg_T i m (nI k)) : (¬ i < 0 ∧ ¬ m < 0) ∧ i.toNatClampNeg + m.toNatClampNeg ≤ k := by
  obtain ⟨h1, h2, h3⟩ := h
  have a1 := nn_I (Int32.not_lt.mpr h1)
  have a2 := nn_I (Int32.not_lt.mpr h2)
  refine ⟨⟨Int32.not_lt.mpr h1, Int32.not_lt.mpr h2⟩, ?_⟩
  rw [Int32.le_iff_toInt_le, Int32.toInt_sub, nI_toInt (by omega)] at h3
  have b2 := Int32.toInt_lt m
  rw [Int.bmod_eq_of_le (by omega) (by omega)] at h3
  omega
theorem c_X4_lacksRows (l : Launch) {I : Nat → Nat → Int32} {L : Nat → Nat → Int64} {Rf : Nat → Nat → Option Nat} {n : Nat} {S : sg_T} (W : wd_T Rf n) (hC : CR_T I L S) (hI : IV_T S) {p q : Int32} : wm_C l mX4_lacksRows 2 0 0 [vv_A (some 0), vv_I p, vv_I q] (I, L, Rf, n) (q_i (s_lrs S p q) (I, L, Rf, n)) := by
  refine wm_of (by decide) (Nat.le_of_ble_eq_true rfl) rfl ?_
  refine ri_1 oX4_lacksRows_0 ?_
  refine rr_cSi (c_X4_isShelf l) oX4_lacksRows_1 (cs_X4_51 rfl) (by decide) rfl rfl (Nat.le_of_ble_eq_true rfl) ?_
  refine rr_ifb_eq (tgt := 14) oX4_lacksRows_4 (by decide) (fun c => ?_) (fun c => ?_)
  · refine rk_m1 oX4_lacksRows_14 ?_
    exact rr_ireturn oX4_lacksRows_15 rfl rfl (q_is (by rw [s_lrs, if_pos (fun z => c z.1)]))
  · refine ri_2 oX4_lacksRows_7 ?_
    refine rr_cSi (c_X4_isShelf l) oX4_lacksRows_8 (cs_X4_51 rfl) (by decide) rfl rfl (Nat.le_of_ble_eq_true rfl) ?_
    refine rr_ifb_ne (tgt := 16) oX4_lacksRows_11 (by decide) (fun c1 => ?_) (fun c1 => ?_)
    · obtain ⟨t, ht, rfl⟩ := ix_of c.1 (show p < nI 8 from c.2) (by omega)
      obtain ⟨u, hu, rfl⟩ := ix_of c1.1 (show q < nI 8 from c1.2) (by omega)
      rw [s_lrs_N ht hu]
      have e1 : I (30 + 2 * t) 0 = z_hd S t := CR_hd hC ht
      have e2 : I (30 + 2 * u) 0 = z_hd S u := CR_hd hC hu
      refine ra_0 oX4_lacksRows_16 ?_
      refine rr_gr (v := 1) oX4_lacksRows_17 (ff_X4_11 rfl) kk_0 (wd_lt W rfl) ⟨by decide, rfl⟩ (wd_r W rfl rfl) ?_
      refine ri_1 oX4_lacksRows_20 ?_
      refine rr_ald (t := t) (v := 30 + 2 * t) oX4_lacksRows_21 kk_1 (wd_lt W rfl) rfl (by omega) (by decide) (sh_q W ht) ?_
      refine rr_cVi (c_X3_holdsThing l W (sh_of ht)) oX4_lacksRows_22 (cv_X4_335 rfl) (by decide) (sh_k (sh_of ht)) (by decide) hcn_3 (sh_lt (j := 0) W (sh_of ht) rfl) rfl rfl (Nat.le_of_ble_eq_true rfl) ?_
      refine rr_ifb_ne (tgt := 40) oX4_lacksRows_25 (by decide) (fun c2 => ?_) (fun c2 => ?_)
      · rw [e1] at c2
        refine rr_bipush (v := (-2)) oX4_lacksRows_40 (by decide) ?_
        exact rr_ireturn oX4_lacksRows_42 rfl rfl (q_is (by rw [if_pos (Or.inl c2)]))
      · rw [e1] at c2
        refine ra_0 oX4_lacksRows_28 ?_
        refine rr_gr (v := 1) oX4_lacksRows_29 (ff_X4_11 rfl) kk_0 (wd_lt W rfl) ⟨by decide, rfl⟩ (wd_r W rfl rfl) ?_
        refine ri_2 oX4_lacksRows_32 ?_
        refine rr_ald (t := u) (v := 30 + 2 * u) oX4_lacksRows_33 kk_1 (wd_lt W rfl) rfl (by omega) (by decide) (sh_q W hu) ?_
        refine rr_cVi (c_X3_holdsThing l W (sh_of hu)) oX4_lacksRows_34 (cv_X4_335 rfl) (by decide) (sh_k (sh_of hu)) (by decide) hcn_3 (sh_lt (j := 0) W (sh_of hu) rfl) rfl rfl (Nat.le_of_ble_eq_true rfl) ?_
        refine rr_ifb_eq (tgt := 43) oX4_lacksRows_37 (by decide) (fun c3 => ?_) (fun c3 => ?_)
        · rw [e2] at c3
          refine ra_0 oX4_lacksRows_43 ?_
          refine rr_gr (v := 1) oX4_lacksRows_44 (ff_X4_11 rfl) kk_0 (wd_lt W rfl) ⟨by decide, rfl⟩ (wd_r W rfl rfl) ?_
          refine ri_1 oX4_lacksRows_47 ?_
          refine rr_ald (t := t) (v := 30 + 2 * t) oX4_lacksRows_48 kk_1 (wd_lt W rfl) rfl (by omega) (by decide) (sh_q W ht) ?_
          refine rr_cVi (c_X3_holdsRow l W (sh_of ht)) oX4_lacksRows_49 (cv_X4_100 rfl) (by decide) (sh_k (sh_of ht)) (by decide) hcn_3 (sh_lt (j := 0) W (sh_of ht) rfl) rfl rfl (Nat.le_of_ble_eq_true rfl) ?_
          refine rr_ifb_eq (tgt := 67) oX4_lacksRows_52 (by decide) (fun c4 => ?_) (fun c4 => ?_)
          · rw [e1] at c4
            rw [if_neg (by rintro (z | z); exact c2 z; exact c3 z)]
            refine rr_bipush (v := (-3)) oX4_lacksRows_67 (by decide) ?_
            exact rr_ireturn oX4_lacksRows_69 rfl rfl (q_is (by rw [if_pos (fun z => c4 z.1)]))
          · rw [e1] at c4
            rw [if_neg (by rintro (z | z); exact c2 z; exact c3 z)]
            refine ra_0 oX4_lacksRows_55 ?_
            refine rr_gr (v := 1) oX4_lacksRows_56 (ff_X4_11 rfl) kk_0 (wd_lt W rfl) ⟨by decide, rfl⟩ (wd_r W rfl rfl) ?_
            refine ri_2 oX4_lacksRows_59 ?_
            refine rr_ald (t := u) (v := 30 + 2 * u) oX4_lacksRows_60 kk_1 (wd_lt W rfl) rfl (by omega) (by decide) (sh_q W hu) ?_
            refine rr_cVi (c_X3_holdsRow l W (sh_of hu)) oX4_lacksRows_61 (cv_X4_100 rfl) (by decide) (sh_k (sh_of hu)) (by decide) hcn_3 (sh_lt (j := 0) W (sh_of hu) rfl) rfl rfl (Nat.le_of_ble_eq_true rfl) ?_
            refine rr_ifb_ne (tgt := 70) oX4_lacksRows_64 (by decide) (fun c5 => ?_) (fun c5 => ?_)
            · rw [e2] at c5
              refine ra_0 oX4_lacksRows_70 ?_
              refine rr_gr (v := 1) oX4_lacksRows_71 (ff_X4_11 rfl) kk_0 (wd_lt W rfl) ⟨by decide, rfl⟩ (wd_r W rfl rfl) ?_
              refine ri_1 oX4_lacksRows_74 ?_
              refine rr_ald (t := t) (v := 30 + 2 * t) oX4_lacksRows_75 kk_1 (wd_lt W rfl) rfl (by omega) (by decide) (sh_q W ht) ?_
              refine rr_giv oX4_lacksRows_76 (ff_X4_94 rfl) (sh_k (sh_of ht)) (sh_lt (j := 0) W (sh_of ht) rfl) ⟨by decide, rfl⟩ e1 ?_
              refine ra_0 oX4_lacksRows_79 ?_
              refine rr_gr (v := 1) oX4_lacksRows_80 (ff_X4_11 rfl) kk_0 (wd_lt W rfl) ⟨by decide, rfl⟩ (wd_r W rfl rfl) ?_
              refine ri_2 oX4_lacksRows_83 ?_
              refine rr_ald (t := u) (v := 30 + 2 * u) oX4_lacksRows_84 kk_1 (wd_lt W rfl) rfl (by omega) (by decide) (sh_q W hu) ?_
              refine rr_giv oX4_lacksRows_85 (ff_X4_94 rfl) (sh_k (sh_of hu)) (sh_lt (j := 0) W (sh_of hu) rfl) ⟨by decide, rfl⟩ e2 ?_
              refine rr_icmp_ne (tgt := 95) oX4_lacksRows_88 (by decide) (fun c6 => ?_) (fun c6 => ?_)
              · refine rr_bipush (v := (-2)) oX4_lacksRows_95 (by decide) ?_
                exact rr_ireturn oX4_lacksRows_97 rfl rfl (q_is (by rw [if_neg (fun z => z ⟨c4, c5⟩), if_neg c6]))
              · refine rk_0 oX4_lacksRows_91 ?_
                refine rr_goto (tgt := 97) oX4_lacksRows_92 (by decide) ?_
                exact rr_ireturn oX4_lacksRows_97 rfl rfl (q_is (by rw [if_neg (fun z => z ⟨c4, c5⟩), if_pos (by simpa using c6)]))
            · rw [e2] at c5
              refine rr_bipush (v := (-3)) oX4_lacksRows_67 (by decide) ?_
              exact rr_ireturn oX4_lacksRows_69 rfl rfl (q_is (by rw [if_pos (fun z => c5 z.2)]))
        · rw [e2] at c3
          refine rr_bipush (v := (-2)) oX4_lacksRows_40 (by decide) ?_
          exact rr_ireturn oX4_lacksRows_42 rfl rfl (q_is (by rw [if_pos (Or.inr c3)]))
    · refine rk_m1 oX4_lacksRows_14 ?_
      exact rr_ireturn oX4_lacksRows_15 rfl rfl (q_is (by rw [s_lrs, if_pos (fun z => c1 z.2)]))
theorem c_X4_copy (l : Launch) {I : Nat → Nat → Int32} {L : Nat → Nat → Int64} {Rf : Nat → Nat → Option Nat} {n : Nat} {S : sg_T} (W : wd_T Rf n) (hC : CR_T I L S) (hI : IV_T S) {p q i j m : Int32} : wm_C l mX4_copy 3 0 0 [vv_A (some 0), vv_I p, vv_I q, vv_I i, vv_I j, vv_I m] (I, L, Rf, n) (q_C (f_copy S p q i j m).1 (f_copy S p q i j m).2 I L Rf n) := by
  refine wm_of (by decide) (Nat.le_of_ble_eq_true rfl) rfl ?_
  refine ra_0 oX4_copy_0 ?_
  refine ri_1 oX4_copy_1 ?_
  refine ri_2 oX4_copy_2 ?_
  refine rr_cVi (c_X4_lacksRows l W hC hI) oX4_copy_3 (cv_X4_73 rfl) (by decide) kk_0 (by decide) hcn_4 (wd_lt W rfl) rfl rfl (Nat.le_of_ble_eq_true rfl) ?_
  refine si_6 oX4_copy_6 rfl rfl ?_
  refine ri_6 oX4_copy_8 ?_
  refine rr_if_ne (tgt := 22) oX4_copy_10 (by decide) (fun c => ?_) (fun c => ?_)
  · have hno := no_lr s_lrs_n c
    have ecp : s_cp S p q i j m = s_lrs S p q := by rw [s_cp, if_pos c]
    refine ri_6 oX4_copy_22 ?_
    refine rr_if_ne (tgt := 62) oX4_copy_24 (by decide) (fun c9 => ?_) (fun c9 => ?_)
    rotate_left
    · exact absurd c9 c
    refine ri_6 oX4_copy_62 ?_
    refine rr_if_eq (tgt := 74) oX4_copy_64 (by decide) (fun c9 => ?_) (fun c9 => ?_)
    · exact absurd c9 c
    refine ra_0 oX4_copy_67 ?_
    refine ri_6 oX4_copy_68 ?_
    refine rr_cVi (c_X4_refuse l W hno.1 hno.2) oX4_copy_70 (cv_X4_55 rfl) (by decide) kk_0 (by decide) hcn_4 (wd_lt W rfl) rfl rfl (Nat.le_of_ble_eq_true rfl) ?_
    exact rr_ireturn oX4_copy_73 rfl rfl (q_C_nov hC ce_rf (by rw [f_copy, ecp, if_pos c]) hno.1)
  · obtain ⟨t, u, ht, hu, rfl, rfl, ht2, hu2⟩ := s_lrs_0 c
    obtain ⟨o1, ho1, ho2, k1, hk1, hk2⟩ := IV_row hI ht ht2
    obtain ⟨o3, ho3, ho4, k3, hk3, hk4⟩ := IV_row hI hu hu2
    have ext : ix_N (nI t) = t := nI_clamp (by omega)
    have exu : ix_N (nI u) = u := nI_clamp (by omega)
    have es1 : I (30 + 2 * t) 1 = z_sz S t := CR_sz hC ht
    have es2 : I (30 + 2 * u) 1 = z_sz S u := CR_sz hC hu
    refine ri_5 oX4_copy_13 ?_
    refine rr_if_ge (tgt := 22) oX4_copy_15 (by decide) (fun c1 => ?_) (fun c1 => ?_)
    · refine ri_6 oX4_copy_22 ?_
      refine rr_if_ne (tgt := 62) oX4_copy_24 (by decide) (fun c9 => ?_) (fun c9 => ?_)
      · exact absurd c c9
      refine ra_0 oX4_copy_27 ?_
      refine rr_gr (v := 1) oX4_copy_28 (ff_X4_11 rfl) kk_0 (wd_lt W rfl) ⟨by decide, rfl⟩ (wd_r W rfl rfl) ?_
      refine ri_1 oX4_copy_31 ?_
      refine rr_ald (t := t) (v := 30 + 2 * t) oX4_copy_32 kk_1 (wd_lt W rfl) rfl (by omega) (by decide) (sh_q W ht) ?_
      refine ri_3 oX4_copy_33 ?_
      refine ri_5 oX4_copy_34 ?_
      refine rr_cVi (c_X3_hasElements l W (sh_of ht)) oX4_copy_36 (cv_X4_77 rfl) (by decide) (sh_k (sh_of ht)) (by decide) hcn_3 (sh_lt (j := 0) W (sh_of ht) rfl) rfl rfl (Nat.le_of_ble_eq_true rfl) ?_
      refine rr_ifb_eq (tgt := 58) oX4_copy_39 (by decide) (fun c2 => ?_) (fun c2 => ?_)
      · rw [es1] at c2
        refine rr_bipush (v := (-5)) oX4_copy_58 (by decide) ?_
        refine si_6 oX4_copy_60 rfl rfl ?_
        refine ri_6 oX4_copy_62 ?_
        refine rr_if_eq (tgt := 74) oX4_copy_64 (by decide) (fun q => absurd q (by decide)) (fun _ => ?_)
        refine ra_0 oX4_copy_67 ?_
        refine ri_6 oX4_copy_68 ?_
        refine rr_cVi (c_X4_refuse l W (c := 5) (by decide) (by decide)) oX4_copy_70 (cv_X4_55 rfl) (by decide) kk_0 (by decide) hcn_4 (wd_lt W rfl) rfl rfl (Nat.le_of_ble_eq_true rfl) ?_
        exact rr_ireturn oX4_copy_73 rfl rfl (q_C_noc hC ce_rf (by rw [f_copy, show s_cp S (nI t) (nI u) i j m = -5 from by rw [s_cp, if_neg (fun z => z c), if_neg (Int32.not_lt.mpr c1), ext, if_pos (fun z => c2 z.1)], if_pos (by decide)]) (by decide) (by decide))
      · rw [es1] at c2
        refine ra_0 oX4_copy_42 ?_
        refine rr_gr (v := 1) oX4_copy_43 (ff_X4_11 rfl) kk_0 (wd_lt W rfl) ⟨by decide, rfl⟩ (wd_r W rfl rfl) ?_
        refine ri_2 oX4_copy_46 ?_
        refine rr_ald (t := u) (v := 30 + 2 * u) oX4_copy_47 kk_1 (wd_lt W rfl) rfl (by omega) (by decide) (sh_q W hu) ?_
        refine ri_4 oX4_copy_48 ?_
        refine ri_5 oX4_copy_50 ?_
        refine rr_cVi (c_X3_hasElements l W (sh_of hu)) oX4_copy_52 (cv_X4_77 rfl) (by decide) (sh_k (sh_of hu)) (by decide) hcn_3 (sh_lt (j := 0) W (sh_of hu) rfl) rfl rfl (Nat.le_of_ble_eq_true rfl) ?_
        refine rr_ifb_ne (tgt := 62) oX4_copy_55 (by decide) (fun c3 => ?_) (fun c3 => ?_)
        · rw [es2] at c3
          refine ri_6 oX4_copy_62 ?_
          refine rr_if_eq (tgt := 74) oX4_copy_64 (by decide) (fun c8 => ?_) (fun c8 => ?_)
          rotate_left
          · exact absurd c c8
          refine ra_0 oX4_copy_74 ?_
          refine rr_gr (v := 1) oX4_copy_75 (ff_X4_11 rfl) kk_0 (wd_lt W rfl) ⟨by decide, rfl⟩ (wd_r W rfl rfl) ?_
          refine ri_1 oX4_copy_78 ?_
          refine rr_ald (t := t) (v := 30 + 2 * t) oX4_copy_79 kk_1 (wd_lt W rfl) rfl (by omega) (by decide) (sh_q W ht) ?_
          refine rr_gr oX4_copy_80 (ff_X4_81 rfl) (sh_k (sh_of ht)) (sh_lt (j := 0) W (sh_of ht) rfl) ⟨by decide, rfl⟩ (sh_r W (sh_of ht)) ?_
          refine ri_3 oX4_copy_83 ?_
          refine ra_0 oX4_copy_84 ?_
          refine rr_gr (v := 1) oX4_copy_85 (ff_X4_11 rfl) kk_0 (wd_lt W rfl) ⟨by decide, rfl⟩ (wd_r W rfl rfl) ?_
          refine ri_2 oX4_copy_88 ?_
          refine rr_ald (t := u) (v := 30 + 2 * u) oX4_copy_89 kk_1 (wd_lt W rfl) rfl (by omega) (by decide) (sh_q W hu) ?_
          refine rr_gr oX4_copy_90 (ff_X4_81 rfl) (sh_k (sh_of hu)) (sh_lt (j := 0) W (sh_of hu) rfl) ⟨by decide, rfl⟩ (sh_r W (sh_of hu)) ?_
          refine ri_4 oX4_copy_93 ?_
          refine ri_5 oX4_copy_95 ?_
          obtain ⟨⟨r1, r2⟩, r3⟩ := rg_N hk1 (hk2 ▸ c2)
          obtain ⟨⟨r4, -⟩, r5⟩ := rg_N hk3 (hk4 ▸ c3)
          refine rr_copyL oX4_copy_97 gw_copy_X4_85 (sh_a (sh_of hu)) (sh_a (sh_of ht)) (sh_lt (j := 1) W (sh_of hu) rfl) (sh_lt (j := 1) W (sh_of ht) rfl) r1 r4 r2 (by omega) (by omega) (by decide) (by decide) ?_
          refine rk_1 oX4_copy_100 ?_
          refine rr_ireturn oX4_copy_101 rfl rfl (q_C_ok (S2 := w_el S (fun s => if s = u then va_cpy (z_el S t) (z_el S u) (ix_N i) (ix_N j) (ix_N m) else z_el S s)) (by rw [f_copy, show s_cp S (nI t) (nI u) i j m = 0 from by rw [s_cp, if_neg (fun z => z c), if_neg (Int32.not_lt.mpr c1), ext, exu, if_neg (fun z => z ⟨c2, c3⟩)], if_neg (by decide), ext, exu]) rfl (CR_shelf hu hC (fun _ _ => rfl) (fun a ha => cp_L_ne ha) ⟨rfl, rfl, rfl, rfl, rfl, rfl⟩ (fun s hs => ⟨rfl, rfl, fun k _ => congrFun (if_neg hs) k⟩) ⟨CR_hd hC hu, CR_sz hC hu, fun k hk => ?_⟩) (fun a ha => ⟨rfl, cp_L_ne (by omega)⟩))
          (rw [cp_L_eq]
           show va_cpy _ _ _ _ _ k = (if u = u then va_cpy (z_el S t) (z_el S u) (ix_N i) (ix_N j) (ix_N m) else z_el S u) k
           rw [if_pos rfl]
           unfold va_cpy
           split
           · next z => exact CR_el hC ht (by simp only [ix_N] at *; omega)
           · exact CR_el hC hu hk)
        · rw [es2] at c3
          refine rr_bipush (v := (-5)) oX4_copy_58 (by decide) ?_
          refine si_6 oX4_copy_60 rfl rfl ?_
          refine ri_6 oX4_copy_62 ?_
          refine rr_if_eq (tgt := 74) oX4_copy_64 (by decide) (fun q => absurd q (by decide)) (fun _ => ?_)
          refine ra_0 oX4_copy_67 ?_
          refine ri_6 oX4_copy_68 ?_
          refine rr_cVi (c_X4_refuse l W (c := 5) (by decide) (by decide)) oX4_copy_70 (cv_X4_55 rfl) (by decide) kk_0 (by decide) hcn_4 (wd_lt W rfl) rfl rfl (Nat.le_of_ble_eq_true rfl) ?_
          exact rr_ireturn oX4_copy_73 rfl rfl (q_C_noc hC ce_rf (by rw [f_copy, show s_cp S (nI t) (nI u) i j m = -5 from by rw [s_cp, if_neg (fun z => z c), if_neg (Int32.not_lt.mpr c1), exu, if_pos (fun z => c3 z.2)], if_pos (by decide)]) (by decide) (by decide))
    · have ecp : s_cp S (nI t) (nI u) i j m = -4 := by rw [s_cp, if_neg (fun z => z c), if_pos (Int32.not_le.mp c1)]
      refine rr_bipush (v := (-4)) oX4_copy_18 (by decide) ?_
      refine si_6 oX4_copy_20 rfl rfl ?_
      refine ri_6 oX4_copy_22 ?_
      refine rr_if_ne (tgt := 62) oX4_copy_24 (by decide) (fun _ => ?_) (fun q => absurd q (by decide))
      refine ri_6 oX4_copy_62 ?_
      refine rr_if_eq (tgt := 74) oX4_copy_64 (by decide) (fun q => absurd q (by decide)) (fun _ => ?_)
      refine ra_0 oX4_copy_67 ?_
      refine ri_6 oX4_copy_68 ?_
      refine rr_cVi (c_X4_refuse l W (c := 4) (by decide) (by decide)) oX4_copy_70 (cv_X4_55 rfl) (by decide) kk_0 (by decide) hcn_4 (wd_lt W rfl) rfl rfl (Nat.le_of_ble_eq_true rfl) ?_
      exact rr_ireturn oX4_copy_73 rfl rfl (q_C_noc hC ce_rf (by rw [f_copy, ecp, if_pos (by decide)]) (by decide) (by decide))
