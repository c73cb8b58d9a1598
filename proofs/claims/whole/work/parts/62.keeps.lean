/-! what every call keeps (by program: wip/whole/c62.py) -/
theorem in_N {v : Int32} {m : Nat} (h0 : 0 ≤ v) (h1 : v ≤ nI m) (hm : m < 1000) : ∃ u, u ≤ m ∧ v = nI u := by
  have g0 := Int32.le_iff_toInt_le.mp h0
  have g1 := Int32.le_iff_toInt_le.mp h1
  rw [show (0 : Int32).toInt = 0 by decide] at g0
  rw [nI_toInt (by omega)] at g1
  exact ⟨v.toInt.toNat, by omega, Int32.toInt_inj.mp (by rw [nI_toInt (by omega)]; omega)⟩
theorem IV_B {S : sg_T} (hI : IV_T S) {B : gb_T} (hg : gI_T B) (hn : g_n (z_G S) ≤ g_n (b_G B)) : IV_T (w_B S B) := by
  refine ⟨hg, hI.2.1, fun s hs => ?_⟩
  rcases hI.2.2 s hs with h | ⟨t, h1, h2⟩ | h
  · exact Or.inl h
  · exact Or.inr (Or.inl ⟨t, Nat.lt_of_lt_of_le h1 hn, h2⟩)
  · exact Or.inr (Or.inr h)
theorem IV_no {S : sg_T} (hI : IV_T S) (r : Int32) : IV_T (f_no S r).2 := hI
theorem iv_row {S : sg_T} (hI : IV_T S) (s o n : Int32) : IV_T (f_row S s o n).2 := by
  unfold f_row
  split
  · exact hI
  split
  · exact hI
  split
  · exact hI
  split
  · exact hI
  next h1 h2 h3 h4 =>
  have h1 : 0 ≤ s ∧ s < 8 := Classical.not_not.mp h1
  have ho : 0 ≤ o ∧ o ≤ 3 := ⟨Int32.not_lt.mp (fun q => h3 (Or.inl q)), Int32.not_lt.mp (fun q => h3 (Or.inr q))⟩
  obtain ⟨q, hq, rfl⟩ := in_N (m := 3) ho.1 ho.2 (by omega)
  obtain ⟨m, hm, rfl⟩ := in_N (m := 160) (Int32.not_lt.mp h2) (Int32.not_lt.mp h4) (by omega)
  refine ⟨hI.1, hI.2.1, fun t ht => ?_⟩
  show (upd (z_hd S) (ix_N s) (100 + nI q) t = -1) ∨ (∃ u, u < g_n (z_G S) ∧ upd (z_hd S) (ix_N s) (100 + nI q) t = nI u) ∨ (∃ o, o < 4 ∧ upd (z_hd S) (ix_N s) (100 + nI q) t = nI (100 + o) ∧ ∃ m2, m2 ≤ 160 ∧ upd (z_sz S) (ix_N s) (nI m) t = nI m2)
  by_cases e : t = ix_N s
  · simp only [upd, if_pos e]
    exact Or.inr (Or.inr ⟨q, by omega, by rw [show (100 : Int32) = nI 100 from rfl, nI_add], m, hm, rfl⟩)
  · simp only [upd, if_neg e]
    exact hI.2.2 t ht
theorem iv_set {S : sg_T} (hI : IV_T S) (s i : Int32) (v : Int64) : IV_T (f_set S s i v).2 := by
  unfold f_set
  split
  · exact hI
  split
  · exact hI
  · exact hI
theorem iv_copy {S : sg_T} (hI : IV_T S) (p q i j m : Int32) : IV_T (f_copy S p q i j m).2 := by
  unfold f_copy
  split
  · exact hI
  · exact hI
theorem iv_show {S : sg_T} (hI : IV_T S) (s t : Int32) : IV_T (f_show S s t).2 := by
  unfold f_show
  split
  · exact hI
  next h1 =>
  have hw : ∀ u : Int32, (u = -1 ∨ ∃ w, w < g_n (z_G S) ∧ u = nI w) → IV_T (w_hd S (upd (z_hd S) (ix_N s) u)) := by
    intro u hu
    refine ⟨hI.1, hI.2.1, fun t ht => ?_⟩
    show (upd (z_hd S) (ix_N s) u t = -1) ∨ (∃ w, w < g_n (z_G S) ∧ upd (z_hd S) (ix_N s) u t = nI w) ∨ (∃ o, o < 4 ∧ upd (z_hd S) (ix_N s) u t = nI (100 + o) ∧ ∃ m2, m2 ≤ 160 ∧ z_sz S t = nI m2)
    by_cases e : t = ix_N s
    · simp only [upd, if_pos e]
      exact hu.elim Or.inl (fun h => Or.inr (Or.inl h))
    · simp only [upd, if_neg e]
      exact hI.2.2 t ht
  by_cases q : t = -1
  · have := hw t (Or.inl q)
    grind
  · have h2 : 0 ≤ t ∧ t < nI (g_n (z_G S)) := Classical.byContradiction (fun z => h1 (Or.inr ⟨q, z⟩))
    obtain ⟨w, hw1, e⟩ := ix_of h2.1 h2.2 (by have : g_n (z_G S) ≤ 8 := hI.1.1; omega)
    have := hw t (Or.inr ⟨w, hw1, e⟩)
    grind
theorem iv_thing {S : sg_T} (hI : IV_T S) (k x y h a : Int32) : IV_T (f_thing S k x y h a).2 := by
  unfold f_thing
  split
  · exact hI
  split
  · exact hI
  split
  · exact hI
  next h1 h2 h3 =>
  have h1 : 0 ≤ k ∧ k ≤ 6 := Classical.not_not.mp h1
  have h4 : ((0 ≤ x ∧ x ≤ 9) ∧ 0 ≤ y ∧ y ≤ 9) ∧ (0 ≤ h ∧ h ≤ 20) ∧ 0 ≤ a ∧ a ≤ 9 := Classical.not_not.mp (fun q => h2 (Or.inl q))
  obtain ⟨u0, b0, rfl⟩ := in_N (m := 6) h1.1 h1.2 (by omega)
  obtain ⟨u1, b1, rfl⟩ := in_N (m := 9) h4.1.1.1 h4.1.1.2 (by omega)
  obtain ⟨u2, b2, rfl⟩ := in_N (m := 9) h4.1.2.1 h4.1.2.2 (by omega)
  obtain ⟨u3, b3, rfl⟩ := in_N (m := 20) h4.2.1.1 h4.2.1.2 (by omega)
  obtain ⟨u4, b4, rfl⟩ := in_N (m := 9) h4.2.2.1 h4.2.2.2 (by omega)
  exact IV_B hI (gI_add hI.1 (Nat.not_le.mp h3) b0 b1 b2 b3 b4) (Nat.le_succ _)
theorem gI_hs {B : gb_T} (h : gI_T B) {hs : Nat → Int32} (hh : ∀ t, t < g_n (b_G B) → ∃ x, x ≤ 20 ∧ hs t = nI x) : gI_T (b_wG B (g_wh (b_G B) hs)) := by
  obtain ⟨g1, g2, g3, g4, g5, g6, g7, g8⟩ := h
  refine ⟨g1, g2, fun t ht _ => hh t ht, g4, g5, g6, g7, fun t ht => ?_⟩
  obtain ⟨x, a, u, v, x1, x2, x3, x4, x5, x6, x7, x8⟩ := g8 t ht
  obtain ⟨x', y1, y2⟩ := hh t ht
  exact ⟨x', a, u, v, y1, x2, x3, x4, y2, x6, x7, x8⟩
theorem gI_hh {B : gb_T} (h : gI_T B) {t : Nat} (ht : t < g_n (b_G B)) : ∃ x, x ≤ 20 ∧ g_h (b_G B) t = nI x := by
  obtain ⟨x, a, u, v, x1, x2, x3, x4, x5, x6, x7, x8⟩ := h.2.2.2.2.2.2.2 t ht
  exact ⟨x, x1, x5⟩
theorem iv_height {S : sg_T} (hI : IV_T S) (t v : Int32) : IV_T (f_height S t v).2 := by
  unfold f_height
  split
  · exact hI
  split
  · exact hI
  next h1 h2 =>
  have h2 : 0 ≤ v ∧ v ≤ 20 := Classical.not_not.mp h2
  obtain ⟨u, b, rfl⟩ := in_N (m := 20) h2.1 h2.2 (by omega)
  refine IV_B hI (gI_hs hI.1 (fun i hi => ?_)) (Nat.le_refl _)
  by_cases e : i = ix_N t
  · exact ⟨u, b, by simp only [upd]; exact if_pos e⟩
  · obtain ⟨x, x1, x2⟩ := gI_hh hI.1 hi
    exact ⟨x, x1, by simp only [upd]; rw [if_neg e]; exact x2⟩
theorem iv_ask {S : sg_T} (hI : IV_T S) (w v : Int32) : IV_T (f_ask S w v).2 := by
  unfold f_ask
  split
  · next h => exact IV_B hI (gI_ws hI.1 h.2) (Nat.le_refl _)
  split
  · exact IV_B hI (gI_wf hI.1) (Nat.le_refl _)
  · exact hI
theorem iv_shut {S : sg_T} (hI : IV_T S) (i j : Int32) (w : Bool) : IV_T (f_shut S i j w).2 := by
  unfold f_shut
  split
  · exact hI
  split
  · exact hI
  next h1 h2 =>
  have h1 : s_ls S i j = 0 := Classical.not_not.mp h1
  have h0 : s_lh S i j = 0 := by
    unfold s_ls at h1
    split at h1
    · exact absurd h1 (by decide)
    · exact h1
  obtain ⟨a, b, ⟨ha, rfl, ha2⟩, ⟨hb, rfl, hb2⟩⟩ := s_lh_0 hI.1.1 h0
  have h8 := hI.1.1
  have exa : ix_N (nI a) = a := nI_clamp (by have : g_n (z_G S) ≤ 8 := h8; omega)
  have exb : ix_N (nI b) = b := nI_clamp (by have : g_n (z_G S) ≤ 8 := h8; omega)
  refine IV_B hI (gI_sh hI.1 (fun q r hq => ?_)) (Nat.le_refl _)
  unfold up_2 at hq
  split at hq
  · next e => rw [e.1, e.2, exa, exb]; exact ⟨⟨hb, hb2⟩, ha, ha2⟩
  · exact hI.1.2.2.2.2.1 q r hq
theorem iv_draw {S : sg_T} (hI : IV_T S) (i : Int32) (w : Bool) : IV_T (f_draw S i w).2 := by
  unfold f_draw
  split
  · exact hI
  split
  · exact hI
  next h1 h2 =>
  have h1 : s_lh S i i = 0 := Classical.not_not.mp h1
  obtain ⟨a, b, ⟨ha, rfl, ha2⟩, -⟩ := s_lh_0 hI.1.1 h1
  have h8 := hI.1.1
  have exa : ix_N (nI a) = a := nI_clamp (by have : g_n (z_G S) ≤ 8 := h8; omega)
  refine IV_B hI (gI_dr hI.1 (fun q hq => ?_)) (Nat.le_refl _)
  unfold up_1 at hq
  split at hq
  · next e => rw [e, exa]; exact ⟨ha, ha2⟩
  · exact hI.1.2.2.2.1 q hq
theorem iv_seed {S : sg_T} (hI : IV_T S) (v : Int32) : IV_T (f_seed S v).2 := IV_B hI (B := (b_G (z_B S), b_dr (z_B S), b_sh (z_B S), b_fi (z_B S), v)) hI.1 (Nat.le_refl _)
theorem iv_opens {S : sg_T} (hI : IV_T S) : IV_T (f_opens S).2 :=
  IV_B hI (B := (z_G S, fun _ => false, fun _ _ => false, b_fi (z_B S), b_sd (z_B S))) (gI_sh (B := b_wd (z_B S) (fun _ => false)) (gI_dr hI.1 (fun t h => (by cases h))) (fun j i h => (by cases h))) (Nat.le_refl _)
theorem iv_shuts {S : sg_T} (hI : IV_T S) : IV_T (f_shuts S).2 := by
  unfold f_shuts
  split
  · exact hI
  · refine IV_B hI (gI_sh hI.1 (fun j i h => ?_)) (Nat.le_refl _)
    simp only [Bool.or_eq_true, Bool.and_eq_true] at h
    rcases h with h | h
    · exact hI.1.2.2.2.2.1 j i h
    · have := tm_in h.2
      exact ⟨this.2.1, this.1⟩
theorem iv_image {S : sg_T} (hI : IV_T S) : IV_T (f_image S).2 := ⟨hI.1, fun _ => hI.1, hI.2.2⟩
theorem iv_restore {S : sg_T} (hI : IV_T S) : IV_T (f_restore S).2 := by
  unfold f_restore
  split
  · exact hI
  next h1 =>
  have h1 : (z_im S).1 = true := Classical.not_not.mp h1
  have hg := hI.2.1 h1
  refine ⟨hg, hI.2.1, fun s hs => ?_⟩
  show (rs_hd (g_n (b_G (z_im S).2)) (z_hd S s) = -1) ∨ (∃ u, u < g_n (b_G (z_im S).2) ∧ rs_hd (g_n (b_G (z_im S).2)) (z_hd S s) = nI u) ∨ (∃ o, o < 4 ∧ rs_hd (g_n (b_G (z_im S).2)) (z_hd S s) = nI (100 + o) ∧ ∃ m2, m2 ≤ 160 ∧ z_sz S s = nI m2)
  have h8 : g_n (b_G (z_im S).2) ≤ 8 := hg.1
  have h80 : g_n (z_G S) ≤ 8 := hI.1.1
  have kk : ∀ m, m < 9 → ∀ u, u < 8 → (rs_hd m (nI u) = if nI u < nI m then nI u else -1) := by decide +kernel
  have kq : ∀ m, m < 9 → ∀ q, q < 4 → rs_hd m (nI (100 + q)) = nI (100 + q) := by decide +kernel
  have kn : ∀ m, m < 9 → rs_hd m (-1) = -1 := by decide +kernel
  rcases hI.2.2 s hs with h | ⟨t, ht, h⟩ | ⟨q, hq, h, hm⟩
  · rw [h, kn _ (by omega)]; exact Or.inl rfl
  · rw [h, kk _ (by omega) t (by omega)]
    by_cases z : nI t < nI (g_n (b_G (z_im S).2))
    · rw [if_pos z]
      exact Or.inr (Or.inl ⟨t, (nI_lt_iff (by omega) (by omega)).mp z, rfl⟩)
    · rw [if_neg z]; exact Or.inl rfl
  · rw [h, kq _ (by omega) q hq]
    exact Or.inr (Or.inr ⟨q, hq, rfl, hm⟩)
theorem dv_k3 (k : Nat) (hk : k < 65536) : nI k / 3 = nI (k / 3) := by
  apply Int32.toInt_inj.mp
  rw [Int32.toInt_div_of_ne_right _ _ (by decide), nI_toInt (by omega), nI_toInt (by omega), show (3 : Int32).toInt = 3 by decide, Int.tdiv_eq_ediv_of_nonneg (by omega)]
  omega
theorem gr_N (k : Nat) (hk : k < 65536) : nI k - nI k / 3 * 3 = nI (k % 3) := by
  rw [dv_k3 k hk]
  have e1 : nI (k / 3) * 3 = nI (k / 3 * 3) := (Int32.ofNat_mul (k / 3) 3).symm
  have e2 : nI k = nI (k % 3) + nI (k / 3 * 3) := by rw [nI_add]; congr 1; omega
  rw [e1, e2, Int32.add_sub_cancel]
theorem gr_2 (s : Int32) : ∃ g, g ≤ 2 ∧ s_gr s = nI g := by
  have hu : ∃ k, k < 65536 ∧ s_u16 s = nI k := by
    unfold s_u16
    generalize s.toUInt32 = u
    have e16 : ((16 : Int32).toUInt32 &&& Int32.toUInt32 31) = 16 := by decide
    rw [e16]
    refine ⟨(u >>> 16).toNat, ?_, ?_⟩
    · rw [UInt32.toNat_shiftRight]
      have := u.toNat_lt
      show u.toNat >>> 16 < 65536
      rw [Nat.shiftRight_eq_div_pow]
      omega
    · apply Int32.toBitVec_inj.mp
      apply BitVec.eq_of_toNat_eq
      show (u >>> 16).toBitVec.toNat = (BitVec.ofNat 32 (u >>> 16).toNat).toNat
      rw [BitVec.toNat_ofNat]
      have := (u >>> 16).toNat_lt
      exact (Nat.mod_eq_of_lt this).symm
  obtain ⟨k, hk, e⟩ := hu
  have := gr_N k hk
  exact ⟨k % 3, by omega, by rw [s_gr, e]; exact this⟩
theorem mn_20 : ∀ h, h < 21 → ∀ g, g < 3 → ∃ x, x ≤ 20 ∧ s_min 20 (nI h + nI g) = nI x := by
  have e : ∀ h, h < 21 → ∀ g, g < 3 → (s_min 20 (nI h + nI g)).toNatClampNeg ≤ 20 ∧ s_min 20 (nI h + nI g) = nI (s_min 20 (nI h + nI g)).toNatClampNeg := by decide +kernel
  exact fun h hh g hg => ⟨_, (e h hh g hg).1, (e h hh g hg).2⟩
theorem yr_ha {kd : Nat → Int32} {n : Nat} : ∀ m t (hs : Nat → Int32) (sd : Int32), t + m ≤ n → (∀ i, i < n → ∃ x, x ≤ 20 ∧ hs i = nI x) → ∀ i, i < n → ∃ x, x ≤ 20 ∧ (yr_N kd m t hs sd).1 i = nI x := by
  intro m
  induction m with
  | zero => intro t hs sd _ h i hi; exact h i hi
  | succ m ih =>
    intro t hs sd hm h i hi
    unfold yr_N
    split
    · refine ih (t + 1) _ _ (by omega) (fun j hj => ?_) i hi
      by_cases e : j = t
      · subst e
        obtain ⟨x, x1, x2⟩ := h j hj
        obtain ⟨g, g1, g2⟩ := gr_2 (s_sd sd)
        obtain ⟨y, y1, y2⟩ := mn_20 x (by omega) g (by omega)
        exact ⟨y, y1, by simp only [upd, if_true]; rw [x2, g2]; exact y2⟩
      · obtain ⟨x, x1, x2⟩ := h j hj
        exact ⟨x, x1, by simp only [upd, if_neg e]; exact x2⟩
    · exact ih (t + 1) hs sd (by omega) h i hi
theorem gI_year {B : gb_T} (h : gI_T B) : gI_T (s_year B) := by
  have h1 := gI_hs h (hs := (yr_N (g_k (b_G B)) (g_n (b_G B)) 0 (g_h (b_G B)) (b_sd B)).1) (yr_ha _ _ _ _ (by omega) (fun i hi => gI_hh h hi))
  have h2 := gI_ws h1 (v := 1 - g_s (b_G B)) (by
    rcases h.2.2.2.2.2.2.1 with e | e
    · rw [e]; exact Or.inr (by decide)
    · rw [e]; exact Or.inl (by decide))
  exact h2
theorem itY_n : ∀ m (B : gb_T), gI_T B → gI_T (it_Y m B) ∧ g_n (b_G (it_Y m B)) = g_n (b_G B) := by
  intro m
  induction m with
  | zero => intro B h; exact ⟨h, rfl⟩
  | succ m ih =>
    intro B h
    have := ih (s_year B) (gI_year h)
    exact ⟨this.1, this.2⟩
theorem iv_years {S : sg_T} (hI : IV_T S) (w : Int32) : IV_T (f_years S w).2 := by
  unfold f_years
  split
  · exact hI
  · have := itY_n (ix_N w) (z_B S) hI.1
    exact IV_B hI this.1 (by rw [this.2]; exact Nat.le_refl _)
theorem iv_act {S : sg_T} (hI : IV_T S) (t a x : Int32) : IV_T (f_act S t a x).2 := by
  unfold f_act
  split
  · exact hI
  simp only []
  split
  · exact hI
  split
  · exact hI
  split
  · exact hI
  · exact hI
theorem iv_ground {S : sg_T} (hI : IV_T S) (s : Int32) (hg : gI_T (z_B (f_ground S s).2)) (hn : g_n (z_G S) ≤ g_n (b_G (z_B (f_ground S s).2)) ∨ True) : True := trivial
theorem iv_says {S : sg_T} (hI : IV_T S) (s k : Int32) : IV_T (f_says S s k).2 := by
  unfold f_says
  first
    | exact hI
    | (repeat' (first | exact hI | split))
theorem iv_thingOf {S : sg_T} (hI : IV_T S) (t w : Int32) : IV_T (f_thingOf S t w).2 := by
  unfold f_thingOf
  first
    | exact hI
    | (repeat' (first | exact hI | split))
theorem iv_sees {S : sg_T} (hI : IV_T S) (i j w : Int32) : IV_T (f_sees S i j w).2 := by
  unfold f_sees
  first
    | exact hI
    | (repeat' (first | exact hI | split))
theorem iv_bars {S : sg_T} (hI : IV_T S) (i j : Int32) : IV_T (f_bars S i j).2 := by
  unfold f_bars
  first
    | exact hI
    | (repeat' (first | exact hI | split))
theorem iv_seers {S : sg_T} (hI : IV_T S) (t : Int32) : IV_T (f_seers S t).2 := by
  unfold f_seers
  first
    | exact hI
    | (repeat' (first | exact hI | split))
theorem iv_right {S : sg_T} (hI : IV_T S) : IV_T (f_right S).2 := by
  unfold f_right
  first
    | exact hI
    | (repeat' (first | exact hI | split))
theorem iv_first {S : sg_T} (hI : IV_T S) : IV_T (f_first S).2 := by
  unfold f_first
  first
    | exact hI
    | (repeat' (first | exact hI | split))
theorem iv_cost {S : sg_T} (hI : IV_T S) (i j : Int32) : IV_T (f_cost S i j).2 := by
  unfold f_cost
  first
    | exact hI
    | (repeat' (first | exact hI | split))
theorem iv_cheapest {S : sg_T} (hI : IV_T S) (w : Int32) : IV_T (f_cheapest S w).2 := by
  unfold f_cheapest
  first
    | exact hI
    | (repeat' (first | exact hI | split))
theorem iv_keeps {S : sg_T} (hI : IV_T S) (t : Int32) : IV_T (f_keeps S t).2 := by
  unfold f_keeps
  first
    | exact hI
    | (repeat' (first | exact hI | split))
theorem iv_curtains {S : sg_T} (hI : IV_T S) (w : Int32) : IV_T (f_curtains S w).2 := by
  unfold f_curtains
  first
    | exact hI
    | (repeat' (first | exact hI | split))
theorem iv_newly {S : sg_T} (hI : IV_T S) (h : Int32) : IV_T (f_newly S h).2 := by
  unfold f_newly
  first
    | exact hI
    | (repeat' (first | exact hI | split))
theorem iv_storey {S : sg_T} (hI : IV_T S) (t : Int32) : IV_T (f_storey S t).2 := by
  unfold f_storey
  first
    | exact hI
    | (repeat' (first | exact hI | split))
theorem iv_blinded {S : sg_T} (hI : IV_T S) (t : Int32) : IV_T (f_blinded S t).2 := by
  unfold f_blinded
  first
    | exact hI
    | (repeat' (first | exact hI | split))
theorem iv_felled {S : sg_T} (hI : IV_T S) (t : Int32) : IV_T (f_felled S t).2 := by
  unfold f_felled
  first
    | exact hI
    | (repeat' (first | exact hI | split))
theorem iv_pairs {S : sg_T} (hI : IV_T S) : IV_T (f_pairs S).2 := by
  unfold f_pairs
  first
    | exact hI
    | (repeat' (first | exact hI | split))
theorem iv_back {S : sg_T} (hI : IV_T S) (t : Int32) : IV_T (f_back S t).2 := by
  unfold f_back
  first
    | exact hI
    | (repeat' (first | exact hI | split))
theorem iv_most {S : sg_T} (hI : IV_T S) : IV_T (f_most S).2 := by
  unfold f_most
  first
    | exact hI
    | (repeat' (first | exact hI | split))
theorem iv_list {S : sg_T} (hI : IV_T S) (s w : Int32) : IV_T (f_list S s w).2 := by
  unfold f_list
  first
    | exact hI
    | (repeat' (first | exact hI | split))
theorem iv_night {S : sg_T} (hI : IV_T S) (r : Int32) : IV_T (f_night S r).2 := by
  unfold f_night
  first
    | exact hI
    | (repeat' (first | exact hI | split))
