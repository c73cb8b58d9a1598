/-! SeenByOne: things, curtains, shutters, words, status (by program: wip/whole/c20.py) -/
theorem bI_eq {P R : Prop} [Decidable P] [Decidable R] : bI P = bI R ↔ (P ↔ R) := by
  by_cases p : P <;> by_cases r : R <;> simp [bI, p, r]
theorem CR_gr {I J : Nat → Nat → Int32} {L : Nat → Nat → Int64} {S : sg_T} (h : CR_T I L S) {B : gb_T} (hB : cg_T J 2 B) (ho : ∀ a, a ≠ 9 → (a < 2 ∨ 8 < a) → (a < 18 ∨ 26 ≤ a) → a ≠ 29 → J a = I a) : CR_T J L (w_B S B) := by
  obtain ⟨h1, h2, h3, h4, h5, h6, h7, h8⟩ := h
  refine ⟨hB, ?_, fun q => cg_ce (h3 q) (fun j hj => ho _ (by omega) (by omega) (by omega) (by omega)), fun k hk => ?_, ?_, fun s hs => ?_, fun k hk => ?_, ?_⟩
  · rw [ho 0 (by omega) (by omega) (by omega) (by omega)]; exact h2
  · rw [ho 28 (by omega) (by omega) (by omega) (by omega)]; exact h4 k hk
  · rw [ho 0 (by omega) (by omega) (by omega) (by omega)]; exact h5
  · rw [ho (30 + 2 * s) (by omega) (by omega) (by omega) (by omega)]; exact h6 s hs
  · rw [ho 27 (by omega) (by omega) (by omega) (by omega)]; exact h7 k hk
  · rw [ho 26 (by omega) (by omega) (by omega) (by omega)]; exact h8
def g_wf (G : gr_T) (fa : Int32) : gr_T := (g_n G, g_k G, g_x G, g_y G, g_h G, g_a G, g_s G, fa)
def b_wG (B : gb_T) (G : gr_T) : gb_T := (G, b_dr B, b_sh B, b_fi B, b_sd B)
def b_wd (B : gb_T) (dr : Nat → Bool) : gb_T := (b_G B, dr, b_sh B, b_fi B, b_sd B)
def b_ws (B : gb_T) (sh : Nat → Nat → Bool) : gb_T := (b_G B, b_dr B, sh, b_fi B, b_sd B)
theorem cg_wh {I : Nat → Nat → Int32} {g t : Nat} {B : gb_T} {v : Int32} (h : cg_T I g B) : cg_T (up_I I (g + 4) t v) g (b_wG B (g_wh (b_G B) (upd (g_h (b_G B)) t v))) := by
  obtain ⟨⟨⟨g1, g2, g3, g4, g5⟩, g6, g7⟩, g8, g9⟩ := h
  have ne : ∀ a, a ≠ g + 4 → up_I I (g + 4) t v a = I a := fun a ha => up_I_ne ha
  refine ⟨⟨⟨g1, by rw [ne g (by omega)]; exact g2, by rw [ne g (by omega)]; exact g3, by rw [ne g (by omega)]; exact g4, fun u hu => ?_⟩, by rw [ne g (by omega)]; exact g6, fun j hj => by rw [ne _ (by omega)]; exact g7 j hj⟩, by rw [ne g (by omega)]; exact g8, by rw [ne g (by omega)]; exact g9⟩
  have e := g5 u hu
  rw [ne (g + 1) (by omega), ne (g + 2) (by omega), ne (g + 3) (by omega), ne (g + 5) (by omega), up_I_eq]
  refine ⟨e.1, e.2.1, e.2.2.1, ?_, e.2.2.2.2⟩
  show upd (I (g + 4)) t v u = upd (g_h (b_G B)) t v u
  by_cases q : u = t
  · simp [upd, q]
  · simp only [upd, if_neg q]; exact e.2.2.2.1
theorem cg_su {I : Nat → Nat → Int32} {g : Nat} {B : gb_T} {v : Int32} (h : cg_T I g B) : cg_T (up_I I g 1 v) g (b_wG B (g_ws (b_G B) v)) := by
  obtain ⟨⟨⟨g1, g2, g3, g4, g5⟩, g6, g7⟩, g8, g9⟩ := h
  have ne : ∀ a, a ≠ g → up_I I g 1 v a = I a := fun a ha => up_I_ne ha
  refine ⟨⟨⟨g1, by rw [up_I_at_ne (by omega)]; exact g2, up_I_at, by rw [up_I_at_ne (by omega)]; exact g4, fun u hu => ?_⟩, by rw [up_I_at_ne (by omega)]; exact g6, fun j hj => by rw [ne _ (by omega)]; exact g7 j hj⟩, by rw [up_I_at_ne (by omega)]; exact g8, by rw [up_I_at_ne (by omega)]; exact g9⟩
  rw [ne (g + 1) (by omega), ne (g + 2) (by omega), ne (g + 3) (by omega), ne (g + 4) (by omega), ne (g + 5) (by omega)]
  exact g5 u hu
theorem cg_fa {I : Nat → Nat → Int32} {g : Nat} {B : gb_T} {v : Int32} (h : cg_T I g B) : cg_T (up_I I g 2 v) g (b_wG B (g_wf (b_G B) v)) := by
  obtain ⟨⟨⟨g1, g2, g3, g4, g5⟩, g6, g7⟩, g8, g9⟩ := h
  have ne : ∀ a, a ≠ g → up_I I g 2 v a = I a := fun a ha => up_I_ne ha
  refine ⟨⟨⟨g1, by rw [up_I_at_ne (by omega)]; exact g2, by rw [up_I_at_ne (by omega)]; exact g3, up_I_at, fun u hu => ?_⟩, by rw [up_I_at_ne (by omega)]; exact g6, fun j hj => by rw [ne _ (by omega)]; exact g7 j hj⟩, by rw [up_I_at_ne (by omega)]; exact g8, by rw [up_I_at_ne (by omega)]; exact g9⟩
  rw [ne (g + 1) (by omega), ne (g + 2) (by omega), ne (g + 3) (by omega), ne (g + 4) (by omega), ne (g + 5) (by omega)]
  exact g5 u hu
theorem cg_dr {I : Nat → Nat → Int32} {g : Nat} {B : gb_T} {v : Int32} {dr : Nat → Bool} (h : cg_T I g B) (hv : v = st_S dr) : cg_T (up_I I g 3 v) g (b_wd B dr) := by
  obtain ⟨⟨⟨g1, g2, g3, g4, g5⟩, g6, g7⟩, g8, g9⟩ := h
  have ne : ∀ a, a ≠ g → up_I I g 3 v a = I a := fun a ha => up_I_ne ha
  refine ⟨⟨⟨g1, by rw [up_I_at_ne (by omega)]; exact g2, by rw [up_I_at_ne (by omega)]; exact g3, by rw [up_I_at_ne (by omega)]; exact g4, fun u hu => ?_⟩, by rw [up_I_at]; exact hv, fun j hj => by rw [ne _ (by omega)]; exact g7 j hj⟩, by rw [up_I_at_ne (by omega)]; exact g8, by rw [up_I_at_ne (by omega)]; exact g9⟩
  rw [ne (g + 1) (by omega), ne (g + 2) (by omega), ne (g + 3) (by omega), ne (g + 4) (by omega), ne (g + 5) (by omega)]
  exact g5 u hu
theorem cg_sd {I : Nat → Nat → Int32} {g : Nat} {B : gb_T} {v : Int32} (h : cg_T I g B) : cg_T (up_I I g 5 v) g (b_G B, b_dr B, b_sh B, b_fi B, v) := by
  obtain ⟨⟨⟨g1, g2, g3, g4, g5⟩, g6, g7⟩, g8, g9⟩ := h
  have ne : ∀ a, a ≠ g → up_I I g 5 v a = I a := fun a ha => up_I_ne ha
  refine ⟨⟨⟨g1, by rw [up_I_at_ne (by omega)]; exact g2, by rw [up_I_at_ne (by omega)]; exact g3, by rw [up_I_at_ne (by omega)]; exact g4, fun u hu => ?_⟩, by rw [up_I_at_ne (by omega)]; exact g6, fun j hj => by rw [ne _ (by omega)]; exact g7 j hj⟩, by rw [up_I_at_ne (by omega)]; exact g8, up_I_at⟩
  rw [ne (g + 1) (by omega), ne (g + 2) (by omega), ne (g + 3) (by omega), ne (g + 4) (by omega), ne (g + 5) (by omega)]
  exact g5 u hu
theorem cg_sh {I : Nat → Nat → Int32} {g t : Nat} {B : gb_T} {v : Int32} {sh : Nat → Nat → Bool} (h : cg_T I g B) (hv : v = st_S (sh t)) (ho : ∀ j, j < 8 → j ≠ t → st_S (sh j) = st_S (b_sh B j)) : cg_T (up_I I (g + 6) t v) g (b_ws B sh) := by
  obtain ⟨⟨⟨g1, g2, g3, g4, g5⟩, g6, g7⟩, g8, g9⟩ := h
  have ne : ∀ a, a ≠ g + 6 → up_I I (g + 6) t v a = I a := fun a ha => up_I_ne ha
  refine ⟨⟨⟨g1, by rw [ne g (by omega)]; exact g2, by rw [ne g (by omega)]; exact g3, by rw [ne g (by omega)]; exact g4, fun u hu => ?_⟩, by rw [ne g (by omega)]; exact g6, fun j hj => ?_⟩, by rw [ne g (by omega)]; exact g8, by rw [ne g (by omega)]; exact g9⟩
  · rw [ne (g + 1) (by omega), ne (g + 2) (by omega), ne (g + 3) (by omega), ne (g + 4) (by omega), ne (g + 5) (by omega)]
    exact g5 u hu
  · rw [up_I_eq]
    by_cases q : j = t
    · subst q; simp only [upd, if_true]; exact hv
    · simp only [upd, if_neg q]
      show I (g + 6) j = st_S (sh j)
      rw [ho j hj q]; exact g7 j hj
/-- an answer v, the ground now B -/
theorem q_C_gr {S : sg_T} {I J : Nat → Nat → Int32} {L : Nat → Nat → Int64} {Rf : Nat → Nat → Option Nat} {n : Nat} {v w : Int32} {a : an_T} {B : gb_T} (hC : CR_T I L S) (hB : cg_T J 2 B) (ho : ∀ a, a ≠ 9 → (a < 2 ∨ 8 < a) → (a < 18 ∨ 26 ≤ a) → a ≠ 29 → J a = I a) (ha : a = (v, w_B S B)) (hv : w = v) : q_C a.1 a.2 I L Rf n (some (vv_I w)) (J, L, Rf, n) := by
  rw [ha]
  exact q_C_of hv (CR_gr hC hB ho) (fun a ha => ⟨ho a (by omega) (by omega) (by omega) (by omega), rfl⟩)
def f_thing (S : sg_T) (k x y h a : Int32) : an_T :=
  if ¬ (0 ≤ k ∧ k ≤ 6) then f_no S (-1) else if ¬ (((0 ≤ x ∧ x ≤ 9) ∧ 0 ≤ y ∧ y ≤ 9) ∧ (0 ≤ h ∧ h ≤ 20) ∧ 0 ≤ a ∧ a ≤ 9) ∨ ¬ s_at (z_G S) x y = none then f_no S (-6) else if 8 ≤ g_n (z_G S) then f_no S (-7)
  else (nI (g_n (z_G S)), w_B S (b_wG (z_B S) (g_add (z_G S) k x y h a)))
def f_thingOf (S : sg_T) (t w : Int32) : an_T :=
  if ¬ rn_T S t then f_no S (-5) else if w = 0 then (g_k (z_G S) (ix_N t), S) else if w = 1 then (g_x (z_G S) (ix_N t), S) else if w = 2 then (g_y (z_G S) (ix_N t), S) else if w = 3 then (g_h (z_G S) (ix_N t), S) else if w = 4 then (g_a (z_G S) (ix_N t), S)
  else if w = 5 then (s_tall (z_G S) (ix_N t), S) else if w = 6 then (bI (b_dr (z_B S) (ix_N t) = true), S) else f_no S (-5)
def f_height (S : sg_T) (t v : Int32) : an_T := if ¬ rn_T S t then f_no S (-1) else if ¬ (0 ≤ v ∧ v ≤ 20) then f_no S (-6) else (g_h (z_G S) (ix_N t), w_B S (b_wG (z_B S) (g_wh (z_G S) (upd (g_h (z_G S)) (ix_N t) v))))
def f_ask (S : sg_T) (w v : Int32) : an_T := if w = 0 ∧ (v = 0 ∨ v = 1) then (g_s (z_G S), w_B S (b_wG (z_B S) (g_ws (z_G S) v))) else if w = 1 ∧ (1 ≤ v ∧ v ≤ 9) then (g_f (z_G S), w_B S (b_wG (z_B S) (g_wf (z_G S) v))) else f_no S (-6)
def up_2 (sh : Nat → Nat → Bool) (j i : Nat) (w : Bool) : Nat → Nat → Bool := fun q r => if q = j ∧ r = i then w else sh q r
def up_1 (p : Nat → Bool) (i : Nat) (w : Bool) : Nat → Bool := fun r => if r = i then w else p r
def f_shut (S : sg_T) (i j : Int32) (w : Bool) : an_T := if ¬ s_ls S i j = 0 then f_no S (s_ls S i j) else if (b_sh (z_B S) (ix_N j) (ix_N i) = true ↔ w = true) then (0, S) else (1, w_B S (b_ws (z_B S) (up_2 (b_sh (z_B S)) (ix_N j) (ix_N i) w)))
def f_draw (S : sg_T) (i : Int32) (w : Bool) : an_T := if ¬ s_lh S i i = 0 then f_no S (s_lh S i i) else if (b_dr (z_B S) (ix_N i) = true ↔ w = true) then (0, S) else (1, w_B S (b_wd (z_B S) (up_1 (b_dr (z_B S)) (ix_N i) w)))
theorem st_tog {p : Nat → Bool} {i : Nat} {w : Bool} (hi : i < 8) (h : ¬ (p i = true ↔ w = true)) : st_S p ^^^ (1 : Int32) <<< (nI i &&& 31) = st_S (up_1 p i w) := by
  rw [st_one i hi, st_xor]
  refine st_c fun j _ => ?_
  unfold up_1
  by_cases q : j = i
  · subst q
    cases hp : p j <;> cases w <;> simp_all
  · simp [q]
def f_seed (S : sg_T) (v : Int32) : an_T := (b_sd (z_B S), w_B S (b_G (z_B S), b_dr (z_B S), b_sh (z_B S), b_fi (z_B S), v))
theorem c_X4_thing (l : Launch) {I : Nat → Nat → Int32} {L : Nat → Nat → Int64} {Rf : Nat → Nat → Option Nat} {n : Nat} {S : sg_T} (W : wd_T Rf n) (hC : CR_T I L S) (hI : IV_T S) {k x y h a : Int32} : wm_C l mX4_thing 4 0 0 [vv_A (some 0), vv_I k, vv_I x, vv_I y, vv_I h, vv_I a] (I, L, Rf, n) (q_C (f_thing S k x y h a).1 (f_thing S k x y h a).2 I L Rf n) := by
  refine wm_of (by decide) (Nat.le_of_ble_eq_true rfl) rfl ?_
  have hG : gv_T I 2 (z_G S) := hC.1.1.1
  have h8 : g_n (z_G S) ≤ 8 := hI.1.1
  have hr : hr_T (z_G S) := hI.1.2.1
  refine ri_1 oX4_thing_0 ?_
  refine rr_cSi (c_X4_isKind l) oX4_thing_1 (cs_X4_97 rfl) (by decide) rfl rfl (Nat.le_of_ble_eq_true rfl) ?_
  refine rr_ifb_ne (tgt := 13) oX4_thing_4 (by decide) (fun c => ?_) (fun c => ?_)
  · refine ri_2 oX4_thing_13 ?_
    refine ri_3 oX4_thing_14 ?_
    refine rr_cSi (c_X4_isPlace l) oX4_thing_15 (cs_X4_148 rfl) (by decide) rfl rfl (Nat.le_of_ble_eq_true rfl) ?_
    refine rr_ifb_eq (tgt := 45) oX4_thing_18 (by decide) (fun c1 => ?_) (fun c1 => ?_)
    · refine rk_0 oX4_thing_45 ?_
      refine si_6 oX4_thing_46 rfl rfl ?_
      refine ri_6 oX4_thing_48 ?_
      refine rr_if_eq (tgt := 66) oX4_thing_50 (by decide) (fun _ => ?_) (fun q => absurd q (by decide))
      refine ra_0 oX4_thing_66 ?_
      refine rr_bipush (v := (-6)) oX4_thing_67 (by decide) ?_
      refine rr_cVi (c_X4_refuse l W (c := 6) (by decide) (by decide)) oX4_thing_69 (cv_X4_55 rfl) (by decide) kk_0 (by decide) hcn_4 (wd_lt W rfl) rfl rfl (Nat.le_of_ble_eq_true rfl) ?_
      exact rr_ireturn oX4_thing_72 rfl rfl (q_C_noc hC ce_rf (by rw [f_thing, if_neg (fun q => q c), if_pos (Or.inl (fun q => c1 q.1))]) (by decide) (by decide))
    · refine ri_4 oX4_thing_21 ?_
      refine rr_cSi (c_X4_isHeight l) oX4_thing_23 (cs_X4_151 rfl) (by decide) rfl rfl (Nat.le_of_ble_eq_true rfl) ?_
      refine rr_ifb_eq (tgt := 45) oX4_thing_26 (by decide) (fun c2 => ?_) (fun c2 => ?_)
      · refine rk_0 oX4_thing_45 ?_
        refine si_6 oX4_thing_46 rfl rfl ?_
        refine ri_6 oX4_thing_48 ?_
        refine rr_if_eq (tgt := 66) oX4_thing_50 (by decide) (fun _ => ?_) (fun q => absurd q (by decide))
        refine ra_0 oX4_thing_66 ?_
        refine rr_bipush (v := (-6)) oX4_thing_67 (by decide) ?_
        refine rr_cVi (c_X4_refuse l W (c := 6) (by decide) (by decide)) oX4_thing_69 (cv_X4_55 rfl) (by decide) kk_0 (by decide) hcn_4 (wd_lt W rfl) rfl rfl (Nat.le_of_ble_eq_true rfl) ?_
        exact rr_ireturn oX4_thing_72 rfl rfl (q_C_noc hC ce_rf (by rw [f_thing, if_neg (fun q => q c), if_pos (Or.inl (fun q => c2 q.2.1))]) (by decide) (by decide))
      · refine ri_5 oX4_thing_29 ?_
        refine rr_if_lt (tgt := 45) oX4_thing_31 (by decide) (fun c3 => ?_) (fun c3 => ?_)
        · refine rk_0 oX4_thing_45 ?_
          refine si_6 oX4_thing_46 rfl rfl ?_
          refine ri_6 oX4_thing_48 ?_
          refine rr_if_eq (tgt := 66) oX4_thing_50 (by decide) (fun _ => ?_) (fun q => absurd q (by decide))
          refine ra_0 oX4_thing_66 ?_
          refine rr_bipush (v := (-6)) oX4_thing_67 (by decide) ?_
          refine rr_cVi (c_X4_refuse l W (c := 6) (by decide) (by decide)) oX4_thing_69 (cv_X4_55 rfl) (by decide) kk_0 (by decide) hcn_4 (wd_lt W rfl) rfl rfl (Nat.le_of_ble_eq_true rfl) ?_
          exact rr_ireturn oX4_thing_72 rfl rfl (q_C_noc hC ce_rf (by rw [f_thing, if_neg (fun q => q c), if_pos (Or.inl (fun q => Int32.not_le.mpr c3 q.2.2.1))]) (by decide) (by decide))
        · refine ri_5 oX4_thing_34 ?_
          refine rr_bipush (v := 9) oX4_thing_36 (by decide) ?_
          refine rr_icmp_gt (tgt := 45) oX4_thing_38 (by decide) (fun c4 => ?_) (fun c4 => ?_)
          · refine rk_0 oX4_thing_45 ?_
            refine si_6 oX4_thing_46 rfl rfl ?_
            refine ri_6 oX4_thing_48 ?_
            refine rr_if_eq (tgt := 66) oX4_thing_50 (by decide) (fun _ => ?_) (fun q => absurd q (by decide))
            refine ra_0 oX4_thing_66 ?_
            refine rr_bipush (v := (-6)) oX4_thing_67 (by decide) ?_
            refine rr_cVi (c_X4_refuse l W (c := 6) (by decide) (by decide)) oX4_thing_69 (cv_X4_55 rfl) (by decide) kk_0 (by decide) hcn_4 (wd_lt W rfl) rfl rfl (Nat.le_of_ble_eq_true rfl) ?_
            exact rr_ireturn oX4_thing_72 rfl rfl (q_C_noc hC ce_rf (by rw [f_thing, if_neg (fun q => q c), if_pos (Or.inl (fun q => Int32.not_le.mpr c4 q.2.2.2))]) (by decide) (by decide))
          · refine rk_1 oX4_thing_41 ?_
            refine rr_goto (tgt := 46) oX4_thing_42 (by decide) ?_
            refine si_6 oX4_thing_46 rfl rfl ?_
            refine ri_6 oX4_thing_48 ?_
            refine rr_if_eq (tgt := 66) oX4_thing_50 (by decide) (fun q => absurd q (by decide)) (fun _ => ?_)
            refine ra_0 oX4_thing_53 ?_
            refine rr_gr (v := 2) oX4_thing_54 (ff_X4_18 rfl) kk_0 (wd_lt W rfl) ⟨by decide, rfl⟩ (wd_r W rfl rfl) ?_
            refine ri_2 oX4_thing_57 ?_
            refine ri_3 oX4_thing_58 ?_
            refine rr_cVi (c_X1_thingAt l W gd_2 hG) oX4_thing_59 (cv_X4_154 rfl) (by decide) (gd_k gd_2) (by decide) hcn_1 (gd_lt (j := 0) W gd_2 rfl) rfl rfl (Nat.le_of_ble_eq_true rfl) ?_
            generalize hst : s_at (z_G S) x y = ke
            rcases ke with _ | u
            · refine rk_m1 oX4_thing_62 ?_
              refine rr_icmp_eq (tgt := 73) oX4_thing_63 (by decide) (fun c5 => ?_) (fun c5 => ?_)
              rotate_left
              · exact absurd rfl c5
              refine ra_0 oX4_thing_73 ?_
              refine rr_gr (v := 2) oX4_thing_74 (ff_X4_18 rfl) kk_0 (wd_lt W rfl) ⟨by decide, rfl⟩ (wd_r W rfl rfl) ?_
              refine rr_cVi (c_X1_isFull l W gd_2) oX4_thing_77 (cv_X4_157 rfl) (by decide) (gd_k gd_2) (by decide) hcn_1 (gd_lt (j := 0) W gd_2 rfl) rfl rfl (Nat.le_of_ble_eq_true rfl) ?_
              refine rr_ifb_eq (tgt := 90) oX4_thing_80 (by decide) (fun c6 => ?_) (fun c6 => ?_)
              · have c7 : ¬ 8 ≤ g_n (z_G S) := fun q => c6 (by rw [CR_n hC, show (8 : Int32) = nI 8 from rfl, nI_le_iff (by omega) (by omega)]; exact q)
                refine ra_0 oX4_thing_90 ?_
                refine rr_gr (v := 2) oX4_thing_91 (ff_X4_18 rfl) kk_0 (wd_lt W rfl) ⟨by decide, rfl⟩ (wd_r W rfl rfl) ?_
                refine ri_1 oX4_thing_94 ?_
                refine ri_2 oX4_thing_95 ?_
                refine ri_3 oX4_thing_96 ?_
                refine ri_4 oX4_thing_97 ?_
                refine ri_5 oX4_thing_99 ?_
                refine rr_cVn (c_X1_add l W gd_2 (m := g_n (z_G S)) (by omega) (CR_n hC)) oX4_thing_101 (cv_X4_160 rfl) (by decide) (gd_k gd_2) (by decide) hcn_1 (gd_lt (j := 0) W gd_2 rfl) rfl rfl (Nat.le_of_ble_eq_true rfl) (fun v J hJ => ?_)
                obtain ⟨rfl, hJ⟩ := hJ
                exact rr_ireturn oX4_thing_104 rfl rfl (q_C_gr hC (B := b_wG (z_B S) (g_add (z_G S) k x y h a)) ⟨ad_gs (by omega) hJ hC.1.1, by rw [hJ.2.1 4 (by omega)]; exact hC.1.2.1, by rw [hJ.2.1 5 (by omega)]; exact hC.1.2.2⟩ (fun b _ q2 _ _ => hJ.2.2.2 b (by omega)) (by rw [f_thing, if_neg (fun q => q c), if_neg (by rintro (q | q); exact q ⟨c1, c2, Int32.not_lt.mp c3, Int32.not_lt.mp c4⟩; exact q hst), if_neg c7]) rfl)
              · rw [CR_n hC, show (8 : Int32) = nI 8 from rfl, nI_le_iff (by omega) (by omega)] at c6
                refine ra_0 oX4_thing_83 ?_
                refine rr_bipush (v := (-7)) oX4_thing_84 (by decide) ?_
                refine rr_cVi (c_X4_refuse l W (c := 7) (by decide) (by decide)) oX4_thing_86 (cv_X4_55 rfl) (by decide) kk_0 (by decide) hcn_4 (wd_lt W rfl) rfl rfl (Nat.le_of_ble_eq_true rfl) ?_
                exact rr_ireturn oX4_thing_89 rfl rfl (q_C_noc hC ce_rf (by rw [f_thing, if_neg (fun q => q c), if_neg (by rintro (q | q); exact q ⟨c1, c2, Int32.not_lt.mp c3, Int32.not_lt.mp c4⟩; exact q hst), if_pos c6]) (by decide) (by decide))
            · have hu := s_at_lt hst
              simp only [oI]
              refine rk_m1 oX4_thing_62 ?_
              refine rr_icmp_eq (tgt := 73) oX4_thing_63 (by decide) (fun c5 => ?_) (fun c5 => ?_)
              · exact absurd c5 (nI_nm1 (by omega))
              refine ra_0 oX4_thing_66 ?_
              refine rr_bipush (v := (-6)) oX4_thing_67 (by decide) ?_
              refine rr_cVi (c_X4_refuse l W (c := 6) (by decide) (by decide)) oX4_thing_69 (cv_X4_55 rfl) (by decide) kk_0 (by decide) hcn_4 (wd_lt W rfl) rfl rfl (Nat.le_of_ble_eq_true rfl) ?_
              exact rr_ireturn oX4_thing_72 rfl rfl (q_C_noc hC ce_rf (by rw [f_thing, if_neg (fun q => q c), if_pos (Or.inr (by rw [hst]; simp))]) (by decide) (by decide))
  · refine ra_0 oX4_thing_7 ?_
    refine rk_m1 oX4_thing_8 ?_
    refine rr_cVi (c_X4_refuse l W (c := 1) (by decide) (by decide)) oX4_thing_9 (cv_X4_55 rfl) (by decide) kk_0 (by decide) hcn_4 (wd_lt W rfl) rfl rfl (Nat.le_of_ble_eq_true rfl) ?_
    exact rr_ireturn oX4_thing_12 rfl rfl (q_C_noc hC ce_rf (by rw [f_thing, if_pos c]) (by decide) (by decide))
theorem c_X4_thingOf (l : Launch) {I : Nat → Nat → Int32} {L : Nat → Nat → Int64} {Rf : Nat → Nat → Option Nat} {n : Nat} {S : sg_T} (W : wd_T Rf n) (hC : CR_T I L S) (hI : IV_T S) {t w : Int32} : wm_C l mX4_thingOf 3 0 0 [vv_A (some 0), vv_I t, vv_I w] (I, L, Rf, n) (q_C (f_thingOf S t w).1 (f_thingOf S t w).2 I L Rf n) := by
  refine wm_of (by decide) (Nat.le_of_ble_eq_true rfl) rfl ?_
  have hG : gv_T I 2 (z_G S) := hC.1.1.1
  have h8 : g_n (z_G S) ≤ 8 := hI.1.1
  have hr : hr_T (z_G S) := hI.1.2.1
  refine ra_0 oX4_thingOf_0 ?_
  refine rr_gr (v := 2) oX4_thingOf_1 (ff_X4_18 rfl) kk_0 (wd_lt W rfl) ⟨by decide, rfl⟩ (wd_r W rfl rfl) ?_
  refine ri_1 oX4_thingOf_4 ?_
  refine rr_cVi (c_X1_hasG l W gd_2 hG) oX4_thingOf_5 (cv_X4_91 rfl) (by decide) (gd_k gd_2) (by decide) hcn_1 (gd_lt (j := 0) W gd_2 rfl) rfl rfl (Nat.le_of_ble_eq_true rfl) ?_
  refine rr_ifb_ne (tgt := 18) oX4_thingOf_8 (by decide) (fun c => ?_) (fun c => ?_)
  · obtain ⟨a, ha, rfl⟩ := ix_of c.1 c.2 (by omega)
    have exa : ix_N (nI a) = a := nI_clamp (by omega)
    refine ri_2 oX4_thingOf_18 ?_
    by_cases c19_0 : w = 0
    · refine rr_tabIn (off := 41) (tgt := 60) oX4_thingOf_19 (by rw [c19_0]; decide) (by rw [c19_0]; decide) (by rw [c19_0]; rfl) (by decide) ?_
      refine ra_0 oX4_thingOf_60 ?_
      refine rr_gr (v := 2) oX4_thingOf_61 (ff_X4_18 rfl) kk_0 (wd_lt W rfl) ⟨by decide, rfl⟩ (wd_r W rfl rfl) ?_
      refine rr_gr oX4_thingOf_64 (ff_X4_104 rfl) (gd_k gd_2) (gd_lt (j := 0) W gd_2 rfl) ⟨by decide, rfl⟩ (gd_r W gd_2 6 1 rfl) ?_
      refine ri_1 oX4_thingOf_67 ?_
      refine rr_iv oX4_thingOf_68 (gd_a gd_2 1 rfl) (gd_lt (j := 1) W gd_2 rfl) rfl (by omega) (by decide) (gv_k hG (by omega)) ?_
      exact rr_ireturn oX4_thingOf_69 rfl rfl (q_C_an hC ce_rf (by rw [f_thingOf, if_neg (fun q => q c), if_pos c19_0, exa]) rfl)
    by_cases c19_1 : w = 1
    · refine rr_tabIn (off := 51) (tgt := 70) oX4_thingOf_19 (by rw [c19_1]; decide) (by rw [c19_1]; decide) (by rw [c19_1]; rfl) (by decide) ?_
      refine ra_0 oX4_thingOf_70 ?_
      refine rr_gr (v := 2) oX4_thingOf_71 (ff_X4_18 rfl) kk_0 (wd_lt W rfl) ⟨by decide, rfl⟩ (wd_r W rfl rfl) ?_
      refine rr_gr oX4_thingOf_74 (ff_X4_164 rfl) (gd_k gd_2) (gd_lt (j := 0) W gd_2 rfl) ⟨by decide, rfl⟩ (gd_r W gd_2 7 2 rfl) ?_
      refine ri_1 oX4_thingOf_77 ?_
      refine rr_iv oX4_thingOf_78 (gd_a gd_2 2 rfl) (gd_lt (j := 2) W gd_2 rfl) rfl (by omega) (by decide) (gv_x hG (by omega)) ?_
      exact rr_ireturn oX4_thingOf_79 rfl rfl (q_C_an hC ce_rf (by rw [f_thingOf, if_neg (fun q => q c), if_neg c19_0, if_pos c19_1, exa]) rfl)
    by_cases c19_2 : w = 2
    · refine rr_tabIn (off := 61) (tgt := 80) oX4_thingOf_19 (by rw [c19_2]; decide) (by rw [c19_2]; decide) (by rw [c19_2]; rfl) (by decide) ?_
      refine ra_0 oX4_thingOf_80 ?_
      refine rr_gr (v := 2) oX4_thingOf_81 (ff_X4_18 rfl) kk_0 (wd_lt W rfl) ⟨by decide, rfl⟩ (wd_r W rfl rfl) ?_
      refine rr_gr oX4_thingOf_84 (ff_X4_167 rfl) (gd_k gd_2) (gd_lt (j := 0) W gd_2 rfl) ⟨by decide, rfl⟩ (gd_r W gd_2 8 3 rfl) ?_
      refine ri_1 oX4_thingOf_87 ?_
      refine rr_iv oX4_thingOf_88 (gd_a gd_2 3 rfl) (gd_lt (j := 3) W gd_2 rfl) rfl (by omega) (by decide) (gv_y hG (by omega)) ?_
      exact rr_ireturn oX4_thingOf_89 rfl rfl (q_C_an hC ce_rf (by rw [f_thingOf, if_neg (fun q => q c), if_neg c19_0, if_neg c19_1, if_pos c19_2, exa]) rfl)
    by_cases c19_3 : w = 3
    · refine rr_tabIn (off := 71) (tgt := 90) oX4_thingOf_19 (by rw [c19_3]; decide) (by rw [c19_3]; decide) (by rw [c19_3]; rfl) (by decide) ?_
      refine ra_0 oX4_thingOf_90 ?_
      refine rr_gr (v := 2) oX4_thingOf_91 (ff_X4_18 rfl) kk_0 (wd_lt W rfl) ⟨by decide, rfl⟩ (wd_r W rfl rfl) ?_
      refine rr_gr oX4_thingOf_94 (ff_X4_127 rfl) (gd_k gd_2) (gd_lt (j := 0) W gd_2 rfl) ⟨by decide, rfl⟩ (gd_r W gd_2 9 4 rfl) ?_
      refine ri_1 oX4_thingOf_97 ?_
      refine rr_iv oX4_thingOf_98 (gd_a gd_2 4 rfl) (gd_lt (j := 4) W gd_2 rfl) rfl (by omega) (by decide) (gv_h hG (by omega)) ?_
      exact rr_ireturn oX4_thingOf_99 rfl rfl (q_C_an hC ce_rf (by rw [f_thingOf, if_neg (fun q => q c), if_neg c19_0, if_neg c19_1, if_neg c19_2, if_pos c19_3, exa]) rfl)
    by_cases c19_4 : w = 4
    · refine rr_tabIn (off := 81) (tgt := 100) oX4_thingOf_19 (by rw [c19_4]; decide) (by rw [c19_4]; decide) (by rw [c19_4]; rfl) (by decide) ?_
      refine ra_0 oX4_thingOf_100 ?_
      refine rr_gr (v := 2) oX4_thingOf_101 (ff_X4_18 rfl) kk_0 (wd_lt W rfl) ⟨by decide, rfl⟩ (wd_r W rfl rfl) ?_
      refine rr_gr oX4_thingOf_104 (ff_X4_145 rfl) (gd_k gd_2) (gd_lt (j := 0) W gd_2 rfl) ⟨by decide, rfl⟩ (gd_r W gd_2 10 5 rfl) ?_
      refine ri_1 oX4_thingOf_107 ?_
      refine rr_iv oX4_thingOf_108 (gd_a gd_2 5 rfl) (gd_lt (j := 5) W gd_2 rfl) rfl (by omega) (by decide) (gv_a hG (by omega)) ?_
      exact rr_ireturn oX4_thingOf_109 rfl rfl (q_C_an hC ce_rf (by rw [f_thingOf, if_neg (fun q => q c), if_neg c19_0, if_neg c19_1, if_neg c19_2, if_neg c19_3, if_pos c19_4, exa]) rfl)
    by_cases c19_5 : w = 5
    · refine rr_tabIn (off := 91) (tgt := 110) oX4_thingOf_19 (by rw [c19_5]; decide) (by rw [c19_5]; decide) (by rw [c19_5]; rfl) (by decide) ?_
      refine ra_0 oX4_thingOf_110 ?_
      refine rr_gr (v := 2) oX4_thingOf_111 (ff_X4_18 rfl) kk_0 (wd_lt W rfl) ⟨by decide, rfl⟩ (wd_r W rfl rfl) ?_
      refine ri_1 oX4_thingOf_114 ?_
      refine rr_cVi (c_X1_tallOf l W gd_2 hG ha) oX4_thingOf_115 (cv_X4_116 rfl) (by decide) (gd_k gd_2) (by decide) hcn_1 (gd_lt (j := 0) W gd_2 rfl) rfl rfl (Nat.le_of_ble_eq_true rfl) ?_
      exact rr_ireturn oX4_thingOf_118 rfl rfl (q_C_an hC ce_rf (by rw [f_thingOf, if_neg (fun q => q c), if_neg c19_0, if_neg c19_1, if_neg c19_2, if_neg c19_3, if_neg c19_4, if_pos c19_5, exa]) rfl)
    by_cases c19_6 : w = 6
    · refine rr_tabIn (off := 100) (tgt := 119) oX4_thingOf_19 (by rw [c19_6]; decide) (by rw [c19_6]; decide) (by rw [c19_6]; rfl) (by decide) ?_
      refine ra_0 oX4_thingOf_119 ?_
      refine rr_gr (v := 2) oX4_thingOf_120 (ff_X4_18 rfl) kk_0 (wd_lt W rfl) ⟨by decide, rfl⟩ (wd_r W rfl rfl) ?_
      refine rr_giv oX4_thingOf_123 (ff_X4_170 rfl) (gd_k gd_2) (gd_lt (j := 0) W gd_2 rfl) ⟨by decide, rfl⟩ hC.1.1.2.1 ?_
      refine ri_1 oX4_thingOf_126 ?_
      refine rr_cSi (c_X4_isIn l) oX4_thingOf_127 (cs_X4_142 rfl) (by decide) rfl rfl (Nat.le_of_ble_eq_true rfl) ?_
      refine rr_ifb_eq (tgt := 137) oX4_thingOf_130 (by decide) (fun c1 => ?_) (fun c1 => ?_)
      · rw [st_in (by omega)] at c1
        refine rk_0 oX4_thingOf_137 ?_
        exact rr_ireturn oX4_thingOf_138 rfl rfl (q_C_an hC ce_rf (by rw [f_thingOf, if_neg (fun q => q c), if_neg c19_0, if_neg c19_1, if_neg c19_2, if_neg c19_3, if_neg c19_4, if_neg c19_5, if_pos c19_6, exa, bI_f c1]) rfl)
      · rw [st_in (by omega)] at c1
        refine rk_1 oX4_thingOf_133 ?_
        refine rr_goto (tgt := 138) oX4_thingOf_134 (by decide) ?_
        exact rr_ireturn oX4_thingOf_138 rfl rfl (q_C_an hC ce_rf (by rw [f_thingOf, if_neg (fun q => q c), if_neg c19_0, if_neg c19_1, if_neg c19_2, if_neg c19_3, if_neg c19_4, if_neg c19_5, if_pos c19_6, exa, bI_t c1]) rfl)
    refine rr_tabOut (tgt := 139) oX4_thingOf_19 (tab_out_0_6 c19_0 c19_1 c19_2 c19_3 c19_4 c19_5 c19_6) (by decide) ?_
    refine ra_0 oX4_thingOf_139 ?_
    refine rr_bipush (v := (-5)) oX4_thingOf_140 (by decide) ?_
    refine rr_cVi (c_X4_refuse l W (c := 5) (by decide) (by decide)) oX4_thingOf_142 (cv_X4_55 rfl) (by decide) kk_0 (by decide) hcn_4 (wd_lt W rfl) rfl rfl (Nat.le_of_ble_eq_true rfl) ?_
    exact rr_ireturn oX4_thingOf_145 rfl rfl (q_C_noc hC ce_rf (by rw [f_thingOf, if_neg (fun q => q c), if_neg c19_0, if_neg c19_1, if_neg c19_2, if_neg c19_3, if_neg c19_4, if_neg c19_5, if_neg c19_6]) (by decide) (by decide))
  · refine ra_0 oX4_thingOf_11 ?_
    refine rr_bipush (v := (-5)) oX4_thingOf_12 (by decide) ?_
    refine rr_cVi (c_X4_refuse l W (c := 5) (by decide) (by decide)) oX4_thingOf_14 (cv_X4_55 rfl) (by decide) kk_0 (by decide) hcn_4 (wd_lt W rfl) rfl rfl (Nat.le_of_ble_eq_true rfl) ?_
    exact rr_ireturn oX4_thingOf_17 rfl rfl (q_C_noc hC ce_rf (by rw [f_thingOf, if_pos c]) (by decide) (by decide))
theorem c_X4_height (l : Launch) {I : Nat → Nat → Int32} {L : Nat → Nat → Int64} {Rf : Nat → Nat → Option Nat} {n : Nat} {S : sg_T} (W : wd_T Rf n) (hC : CR_T I L S) (hI : IV_T S) {t v : Int32} : wm_C l mX4_height 2 0 0 [vv_A (some 0), vv_I t, vv_I v] (I, L, Rf, n) (q_C (f_height S t v).1 (f_height S t v).2 I L Rf n) := by
  refine wm_of (by decide) (Nat.le_of_ble_eq_true rfl) rfl ?_
  have hG : gv_T I 2 (z_G S) := hC.1.1.1
  have h8 : g_n (z_G S) ≤ 8 := hI.1.1
  have hr : hr_T (z_G S) := hI.1.2.1
  refine ra_0 oX4_height_0 ?_
  refine rr_gr (v := 2) oX4_height_1 (ff_X4_18 rfl) kk_0 (wd_lt W rfl) ⟨by decide, rfl⟩ (wd_r W rfl rfl) ?_
  refine ri_1 oX4_height_4 ?_
  refine rr_cVi (c_X1_hasG l W gd_2 hG) oX4_height_5 (cv_X4_91 rfl) (by decide) (gd_k gd_2) (by decide) hcn_1 (gd_lt (j := 0) W gd_2 rfl) rfl rfl (Nat.le_of_ble_eq_true rfl) ?_
  refine rr_ifb_ne (tgt := 17) oX4_height_8 (by decide) (fun c => ?_) (fun c => ?_)
  · obtain ⟨a, ha, rfl⟩ := ix_of c.1 c.2 (by omega)
    have exa : ix_N (nI a) = a := nI_clamp (by omega)
    refine ri_2 oX4_height_17 ?_
    refine rr_cSi (c_X4_isHeight l) oX4_height_18 (cs_X4_151 rfl) (by decide) rfl rfl (Nat.le_of_ble_eq_true rfl) ?_
    refine rr_ifb_ne (tgt := 31) oX4_height_21 (by decide) (fun c1 => ?_) (fun c1 => ?_)
    · refine ra_0 oX4_height_31 ?_
      refine rr_gr (v := 2) oX4_height_32 (ff_X4_18 rfl) kk_0 (wd_lt W rfl) ⟨by decide, rfl⟩ (wd_r W rfl rfl) ?_
      refine rr_gr oX4_height_35 (ff_X4_127 rfl) (gd_k gd_2) (gd_lt (j := 0) W gd_2 rfl) ⟨by decide, rfl⟩ (gd_r W gd_2 9 4 rfl) ?_
      refine ri_1 oX4_height_38 ?_
      refine rr_iv oX4_height_39 (gd_a gd_2 4 rfl) (gd_lt (j := 4) W gd_2 rfl) rfl (by omega) (by decide) (gv_h hG (by omega)) ?_
      refine si_3 oX4_height_40 rfl rfl ?_
      refine ra_0 oX4_height_41 ?_
      refine rr_gr (v := 2) oX4_height_42 (ff_X4_18 rfl) kk_0 (wd_lt W rfl) ⟨by decide, rfl⟩ (wd_r W rfl rfl) ?_
      refine rr_gr oX4_height_45 (ff_X4_127 rfl) (gd_k gd_2) (gd_lt (j := 0) W gd_2 rfl) ⟨by decide, rfl⟩ (gd_r W gd_2 9 4 rfl) ?_
      refine ri_1 oX4_height_48 ?_
      refine ri_2 oX4_height_49 ?_
      refine rr_ist oX4_height_50 (gd_a gd_2 4 rfl) (gd_lt (j := 4) W gd_2 rfl) rfl (by omega) (by decide) ?_
      refine ri_3 oX4_height_51 ?_
      exact rr_ireturn oX4_height_52 rfl rfl (q_C_gr hC (cg_wh (t := a) (v := v) hC.1) (fun b _ q2 _ _ => up_I_ne (by omega)) (by rw [f_height, if_neg (fun q => q c), if_neg (fun q => q c1), exa]) rfl)
    · refine ra_0 oX4_height_24 ?_
      refine rr_bipush (v := (-6)) oX4_height_25 (by decide) ?_
      refine rr_cVi (c_X4_refuse l W (c := 6) (by decide) (by decide)) oX4_height_27 (cv_X4_55 rfl) (by decide) kk_0 (by decide) hcn_4 (wd_lt W rfl) rfl rfl (Nat.le_of_ble_eq_true rfl) ?_
      exact rr_ireturn oX4_height_30 rfl rfl (q_C_noc hC ce_rf (by rw [f_height, if_neg (fun q => q c), if_pos c1]) (by decide) (by decide))
  · refine ra_0 oX4_height_11 ?_
    refine rk_m1 oX4_height_12 ?_
    refine rr_cVi (c_X4_refuse l W (c := 1) (by decide) (by decide)) oX4_height_13 (cv_X4_55 rfl) (by decide) kk_0 (by decide) hcn_4 (wd_lt W rfl) rfl rfl (Nat.le_of_ble_eq_true rfl) ?_
    exact rr_ireturn oX4_height_16 rfl rfl (q_C_noc hC ce_rf (by rw [f_height, if_pos c]) (by decide) (by decide))
theorem c_X4_ask (l : Launch) {I : Nat → Nat → Int32} {L : Nat → Nat → Int64} {Rf : Nat → Nat → Option Nat} {n : Nat} {S : sg_T} (W : wd_T Rf n) (hC : CR_T I L S) (hI : IV_T S) {w v : Int32} : wm_C l mX4_ask 2 0 0 [vv_A (some 0), vv_I w, vv_I v] (I, L, Rf, n) (q_C (f_ask S w v).1 (f_ask S w v).2 I L Rf n) := by
  refine wm_of (by decide) (Nat.le_of_ble_eq_true rfl) rfl ?_
  have hG : gv_T I 2 (z_G S) := hC.1.1.1
  have h8 : g_n (z_G S) ≤ 8 := hI.1.1
  have hr : hr_T (z_G S) := hI.1.2.1
  refine ri_1 oX4_ask_0 ?_
  refine rr_if_ne (tgt := 29) oX4_ask_1 (by decide) (fun c => ?_) (fun c => ?_)
  · refine ri_1 oX4_ask_29 ?_
    refine rk_1 oX4_ask_30 ?_
    refine rr_icmp_ne (tgt := 59) oX4_ask_31 (by decide) (fun c2 => ?_) (fun c2 => ?_)
    · refine ra_0 oX4_ask_59 ?_
      refine rr_bipush (v := (-6)) oX4_ask_60 (by decide) ?_
      refine rr_cVi (c_X4_refuse l W (c := 6) (by decide) (by decide)) oX4_ask_62 (cv_X4_55 rfl) (by decide) kk_0 (by decide) hcn_4 (wd_lt W rfl) rfl rfl (Nat.le_of_ble_eq_true rfl) ?_
      exact rr_ireturn oX4_ask_65 rfl rfl (q_C_noc hC ce_rf (by rw [f_ask, if_neg (by grind), if_neg (by grind)]) (by decide) (by decide))
    · refine ri_2 oX4_ask_34 ?_
      refine rr_cSi (c_X4_isFar l) oX4_ask_35 (cs_X4_179 rfl) (by decide) rfl rfl (Nat.le_of_ble_eq_true rfl) ?_
      refine rr_ifb_eq (tgt := 59) oX4_ask_38 (by decide) (fun c3 => ?_) (fun c3 => ?_)
      · refine ra_0 oX4_ask_59 ?_
        refine rr_bipush (v := (-6)) oX4_ask_60 (by decide) ?_
        refine rr_cVi (c_X4_refuse l W (c := 6) (by decide) (by decide)) oX4_ask_62 (cv_X4_55 rfl) (by decide) kk_0 (by decide) hcn_4 (wd_lt W rfl) rfl rfl (Nat.le_of_ble_eq_true rfl) ?_
        exact rr_ireturn oX4_ask_65 rfl rfl (q_C_noc hC ce_rf (by rw [f_ask, if_neg (by grind), if_neg (by grind)]) (by decide) (by decide))
      · refine ra_0 oX4_ask_41 ?_
        refine rr_gr (v := 2) oX4_ask_42 (ff_X4_18 rfl) kk_0 (wd_lt W rfl) ⟨by decide, rfl⟩ (wd_r W rfl rfl) ?_
        refine rr_giv oX4_ask_45 (ff_X4_182 rfl) (gd_k gd_2) (gd_lt (j := 0) W gd_2 rfl) ⟨by decide, rfl⟩ (gv_f hG) ?_
        refine si_3 oX4_ask_48 rfl rfl ?_
        refine ra_0 oX4_ask_49 ?_
        refine rr_gr (v := 2) oX4_ask_50 (ff_X4_18 rfl) kk_0 (wd_lt W rfl) ⟨by decide, rfl⟩ (wd_r W rfl rfl) ?_
        refine ri_2 oX4_ask_53 ?_
        refine rr_pi oX4_ask_54 (ff_X4_182 rfl) (gd_k gd_2) (gd_lt (j := 0) W gd_2 rfl) ⟨by decide, rfl, by decide⟩ pf_1_2 ⟨rfl, rfl⟩ ?_
        refine ri_3 oX4_ask_57 ?_
        exact rr_ireturn oX4_ask_58 rfl rfl (q_C_gr hC (cg_fa (v := v) hC.1) (fun b _ q2 _ _ => up_I_ne (by omega)) (by rw [f_ask, if_neg (by grind), if_pos ⟨c2, c3⟩]) rfl)
  · refine ri_2 oX4_ask_4 ?_
    refine rr_cSi (c_X4_isSummer l) oX4_ask_5 (cs_X4_173 rfl) (by decide) rfl rfl (Nat.le_of_ble_eq_true rfl) ?_
    refine rr_ifb_eq (tgt := 29) oX4_ask_8 (by decide) (fun c1 => ?_) (fun c1 => ?_)
    · refine ri_1 oX4_ask_29 ?_
      refine rk_1 oX4_ask_30 ?_
      refine rr_icmp_ne (tgt := 59) oX4_ask_31 (by decide) (fun c2 => ?_) (fun c2 => ?_)
      · refine ra_0 oX4_ask_59 ?_
        refine rr_bipush (v := (-6)) oX4_ask_60 (by decide) ?_
        refine rr_cVi (c_X4_refuse l W (c := 6) (by decide) (by decide)) oX4_ask_62 (cv_X4_55 rfl) (by decide) kk_0 (by decide) hcn_4 (wd_lt W rfl) rfl rfl (Nat.le_of_ble_eq_true rfl) ?_
        exact rr_ireturn oX4_ask_65 rfl rfl (q_C_noc hC ce_rf (by rw [f_ask, if_neg (by grind), if_neg (by grind)]) (by decide) (by decide))
      · refine ri_2 oX4_ask_34 ?_
        refine rr_cSi (c_X4_isFar l) oX4_ask_35 (cs_X4_179 rfl) (by decide) rfl rfl (Nat.le_of_ble_eq_true rfl) ?_
        refine rr_ifb_eq (tgt := 59) oX4_ask_38 (by decide) (fun c3 => ?_) (fun c3 => ?_)
        · refine ra_0 oX4_ask_59 ?_
          refine rr_bipush (v := (-6)) oX4_ask_60 (by decide) ?_
          refine rr_cVi (c_X4_refuse l W (c := 6) (by decide) (by decide)) oX4_ask_62 (cv_X4_55 rfl) (by decide) kk_0 (by decide) hcn_4 (wd_lt W rfl) rfl rfl (Nat.le_of_ble_eq_true rfl) ?_
          exact rr_ireturn oX4_ask_65 rfl rfl (q_C_noc hC ce_rf (by rw [f_ask, if_neg (by grind), if_neg (by grind)]) (by decide) (by decide))
        · refine ra_0 oX4_ask_41 ?_
          refine rr_gr (v := 2) oX4_ask_42 (ff_X4_18 rfl) kk_0 (wd_lt W rfl) ⟨by decide, rfl⟩ (wd_r W rfl rfl) ?_
          refine rr_giv oX4_ask_45 (ff_X4_182 rfl) (gd_k gd_2) (gd_lt (j := 0) W gd_2 rfl) ⟨by decide, rfl⟩ (gv_f hG) ?_
          refine si_3 oX4_ask_48 rfl rfl ?_
          refine ra_0 oX4_ask_49 ?_
          refine rr_gr (v := 2) oX4_ask_50 (ff_X4_18 rfl) kk_0 (wd_lt W rfl) ⟨by decide, rfl⟩ (wd_r W rfl rfl) ?_
          refine ri_2 oX4_ask_53 ?_
          refine rr_pi oX4_ask_54 (ff_X4_182 rfl) (gd_k gd_2) (gd_lt (j := 0) W gd_2 rfl) ⟨by decide, rfl, by decide⟩ pf_1_2 ⟨rfl, rfl⟩ ?_
          refine ri_3 oX4_ask_57 ?_
          exact rr_ireturn oX4_ask_58 rfl rfl (q_C_gr hC (cg_fa (v := v) hC.1) (fun b _ q2 _ _ => up_I_ne (by omega)) (by rw [f_ask, if_neg (by grind), if_pos ⟨c2, c3⟩]) rfl)
    · refine ra_0 oX4_ask_11 ?_
      refine rr_gr (v := 2) oX4_ask_12 (ff_X4_18 rfl) kk_0 (wd_lt W rfl) ⟨by decide, rfl⟩ (wd_r W rfl rfl) ?_
      refine rr_giv oX4_ask_15 (ff_X4_176 rfl) (gd_k gd_2) (gd_lt (j := 0) W gd_2 rfl) ⟨by decide, rfl⟩ (gv_s hG) ?_
      refine si_3 oX4_ask_18 rfl rfl ?_
      refine ra_0 oX4_ask_19 ?_
      refine rr_gr (v := 2) oX4_ask_20 (ff_X4_18 rfl) kk_0 (wd_lt W rfl) ⟨by decide, rfl⟩ (wd_r W rfl rfl) ?_
      refine ri_2 oX4_ask_23 ?_
      refine rr_pi oX4_ask_24 (ff_X4_176 rfl) (gd_k gd_2) (gd_lt (j := 0) W gd_2 rfl) ⟨by decide, rfl, by decide⟩ pf_1_1 ⟨rfl, rfl⟩ ?_
      refine ri_3 oX4_ask_27 ?_
      exact rr_ireturn oX4_ask_28 rfl rfl (q_C_gr hC (cg_su (v := v) hC.1) (fun b _ q2 _ _ => up_I_ne (by omega)) (by rw [f_ask, if_pos ⟨c, c1⟩]) rfl)
theorem c_X4_shut (l : Launch) {I : Nat → Nat → Int32} {L : Nat → Nat → Int64} {Rf : Nat → Nat → Option Nat} {n : Nat} {S : sg_T} (W : wd_T Rf n) (hC : CR_T I L S) (hI : IV_T S) {i j : Int32} {w : Bool} : wm_C l mX4_shut 5 0 0 [vv_A (some 0), vv_I i, vv_I j, vv_I (bI (w = true))] (I, L, Rf, n) (q_C (f_shut S i j w).1 (f_shut S i j w).2 I L Rf n) := by
  refine wm_of (by decide) (Nat.le_of_ble_eq_true rfl) rfl ?_
  have hG : gv_T I 2 (z_G S) := hC.1.1.1
  have h8 : g_n (z_G S) ≤ 8 := hI.1.1
  have hr : hr_T (z_G S) := hI.1.2.1
  refine ra_0 oX4_shut_0 ?_
  refine ri_1 oX4_shut_1 ?_
  refine ri_2 oX4_shut_2 ?_
  refine rr_cVi (c_X4_lacksSight l W hC hI) oX4_shut_3 (cv_X4_185 rfl) (by decide) kk_0 (by decide) hcn_4 (wd_lt W rfl) rfl rfl (Nat.le_of_ble_eq_true rfl) ?_
  refine si_4 oX4_shut_6 rfl rfl ?_
  refine ri_4 oX4_shut_8 ?_
  refine rr_if_eq (tgt := 20) oX4_shut_10 (by decide) (fun c => ?_) (fun c => ?_)
  · obtain ⟨a, b, ⟨ha, rfl, ha2⟩, ⟨hb, rfl, hb2⟩⟩ := s_lh_0 h8 (s_ls_0 c).1
    have exa : ix_N (nI a) = a := nI_clamp (by omega)
    have exb : ix_N (nI b) = b := nI_clamp (by omega)
    refine ra_0 oX4_shut_20 ?_
    refine rr_gr (v := 2) oX4_shut_21 (ff_X4_18 rfl) kk_0 (wd_lt W rfl) ⟨by decide, rfl⟩ (wd_r W rfl rfl) ?_
    refine rr_gr oX4_shut_24 (ff_X4_188 rfl) (gd_k gd_2) (gd_lt (j := 0) W gd_2 rfl) ⟨by decide, rfl⟩ (gd_r W gd_2 11 6 rfl) ?_
    refine ri_2 oX4_shut_27 ?_
    refine rr_iv oX4_shut_28 (gd_a gd_2 6 rfl) (gd_lt (j := 6) W gd_2 rfl) rfl (by omega) (by decide) (hC.1.1.2.2 b (by omega)) ?_
    refine ri_1 oX4_shut_29 ?_
    refine rr_cSi (c_X4_isIn l) oX4_shut_30 (cs_X4_142 rfl) (by decide) rfl rfl (Nat.le_of_ble_eq_true rfl) ?_
    refine ri_3 oX4_shut_33 ?_
    refine rr_icmp_ne (tgt := 39) oX4_shut_34 (by decide) (fun c1 => ?_) (fun c1 => ?_)
    · rw [bI_eq, st_in (by omega)] at c1
      refine ra_0 oX4_shut_39 ?_
      refine rr_gr (v := 2) oX4_shut_40 (ff_X4_18 rfl) kk_0 (wd_lt W rfl) ⟨by decide, rfl⟩ (wd_r W rfl rfl) ?_
      refine rr_gr oX4_shut_43 (ff_X4_188 rfl) (gd_k gd_2) (gd_lt (j := 0) W gd_2 rfl) ⟨by decide, rfl⟩ (gd_r W gd_2 11 6 rfl) ?_
      refine ri_2 oX4_shut_46 ?_
      refine rr_dup2 oX4_shut_47 rfl rfl ?_
      refine rr_iv oX4_shut_48 (gd_a gd_2 6 rfl) (gd_lt (j := 6) W gd_2 rfl) rfl (by omega) (by decide) (hC.1.1.2.2 b (by omega)) ?_
      refine ri_1 oX4_shut_49 ?_
      refine rr_cSi (c_X4_bit l) oX4_shut_50 (cs_X4_191 rfl) (by decide) rfl rfl (Nat.le_of_ble_eq_true rfl) ?_
      refine rr_ixor oX4_shut_53 ?_
      refine rr_ist oX4_shut_54 (gd_a gd_2 6 rfl) (gd_lt (j := 6) W gd_2 rfl) rfl (by omega) (by decide) ?_
      refine rk_1 oX4_shut_55 ?_
      exact rr_ireturn oX4_shut_56 rfl rfl (q_C_gr hC (cg_sh (t := b) (sh := up_2 (b_sh (z_B S)) b a w) hC.1 (by rw [st_tog (by omega) c1]; exact st_c fun r _ => by simp [up_1, up_2]) (fun q _ hq => st_c fun r _ => by simp [up_2, hq])) (fun q _ q2 _ _ => up_I_ne (by omega)) (by rw [f_shut, if_neg (fun q => q c), exa, exb, if_neg c1]) rfl)
    · rw [bI_eq, st_in (by omega)] at c1
      refine rk_0 oX4_shut_37 ?_
      exact rr_ireturn oX4_shut_38 rfl rfl (q_C_an hC ce_rf (by rw [f_shut, if_neg (fun q => q c), exa, exb, if_pos c1]) rfl)
  · have hno := no_ls c
    refine ra_0 oX4_shut_13 ?_
    refine ri_4 oX4_shut_14 ?_
    refine rr_cVi (c_X4_refuse l W hno.1 hno.2) oX4_shut_16 (cv_X4_55 rfl) (by decide) kk_0 (by decide) hcn_4 (wd_lt W rfl) rfl rfl (Nat.le_of_ble_eq_true rfl) ?_
    exact rr_ireturn oX4_shut_19 rfl rfl (q_C_nov hC ce_rf (by rw [f_shut, if_pos c]) hno.1)
theorem c_X4_draw (l : Launch) {I : Nat → Nat → Int32} {L : Nat → Nat → Int64} {Rf : Nat → Nat → Option Nat} {n : Nat} {S : sg_T} (W : wd_T Rf n) (hC : CR_T I L S) (hI : IV_T S) {i : Int32} {w : Bool} : wm_C l mX4_draw 5 0 0 [vv_A (some 0), vv_I i, vv_I (bI (w = true))] (I, L, Rf, n) (q_C (f_draw S i w).1 (f_draw S i w).2 I L Rf n) := by
  refine wm_of (by decide) (Nat.le_of_ble_eq_true rfl) rfl ?_
  have hG : gv_T I 2 (z_G S) := hC.1.1.1
  have h8 : g_n (z_G S) ≤ 8 := hI.1.1
  have hr : hr_T (z_G S) := hI.1.2.1
  refine ra_0 oX4_draw_0 ?_
  refine ri_1 oX4_draw_1 ?_
  refine rr_cVi (c_X4_lacksHouse l W hC hI) oX4_draw_2 (cv_X4_194 rfl) (by decide) kk_0 (by decide) hcn_4 (wd_lt W rfl) rfl rfl (Nat.le_of_ble_eq_true rfl) ?_
  refine si_3 oX4_draw_5 rfl rfl ?_
  refine ri_3 oX4_draw_6 ?_
  refine rr_if_eq (tgt := 16) oX4_draw_7 (by decide) (fun c => ?_) (fun c => ?_)
  · obtain ⟨a, b, ⟨ha, rfl, ha2⟩, ⟨hb, e2, hb2⟩⟩ := s_lh_0 h8 c
    have exa : ix_N (nI a) = a := nI_clamp (by omega)
    have exb : ix_N (nI b) = b := nI_clamp (by omega)
    refine ra_0 oX4_draw_16 ?_
    refine rr_gr (v := 2) oX4_draw_17 (ff_X4_18 rfl) kk_0 (wd_lt W rfl) ⟨by decide, rfl⟩ (wd_r W rfl rfl) ?_
    refine rr_giv oX4_draw_20 (ff_X4_170 rfl) (gd_k gd_2) (gd_lt (j := 0) W gd_2 rfl) ⟨by decide, rfl⟩ hC.1.1.2.1 ?_
    refine ri_1 oX4_draw_23 ?_
    refine rr_cSi (c_X4_isIn l) oX4_draw_24 (cs_X4_142 rfl) (by decide) rfl rfl (Nat.le_of_ble_eq_true rfl) ?_
    refine ri_2 oX4_draw_27 ?_
    refine rr_icmp_ne (tgt := 33) oX4_draw_28 (by decide) (fun c1 => ?_) (fun c1 => ?_)
    · rw [bI_eq, st_in (by omega)] at c1
      refine ra_0 oX4_draw_33 ?_
      refine rr_gr (v := 2) oX4_draw_34 (ff_X4_18 rfl) kk_0 (wd_lt W rfl) ⟨by decide, rfl⟩ (wd_r W rfl rfl) ?_
      refine rr_dup oX4_draw_37 rfl ?_
      refine rr_giv oX4_draw_38 (ff_X4_170 rfl) (gd_k gd_2) (gd_lt (j := 0) W gd_2 rfl) ⟨by decide, rfl⟩ hC.1.1.2.1 ?_
      refine ri_1 oX4_draw_41 ?_
      refine rr_cSi (c_X4_bit l) oX4_draw_42 (cs_X4_191 rfl) (by decide) rfl rfl (Nat.le_of_ble_eq_true rfl) ?_
      refine rr_ixor oX4_draw_45 ?_
      refine rr_pi oX4_draw_46 (ff_X4_170 rfl) (gd_k gd_2) (gd_lt (j := 0) W gd_2 rfl) ⟨by decide, rfl, by decide⟩ pf_1_3 ⟨rfl, rfl⟩ ?_
      refine rk_1 oX4_draw_49 ?_
      exact rr_ireturn oX4_draw_50 rfl rfl (q_C_gr hC (cg_dr (dr := up_1 (b_dr (z_B S)) a w) hC.1 (st_tog (by omega) c1)) (fun q _ q2 _ _ => up_I_ne (by omega)) (by rw [f_draw, if_neg (fun q => q c), exa, if_neg c1]) rfl)
    · rw [bI_eq, st_in (by omega)] at c1
      refine rk_0 oX4_draw_31 ?_
      exact rr_ireturn oX4_draw_32 rfl rfl (q_C_an hC ce_rf (by rw [f_draw, if_neg (fun q => q c), exa, if_pos c1]) rfl)
  · have hno := no_lh c
    refine ra_0 oX4_draw_10 ?_
    refine ri_3 oX4_draw_11 ?_
    refine rr_cVi (c_X4_refuse l W hno.1 hno.2) oX4_draw_12 (cv_X4_55 rfl) (by decide) kk_0 (by decide) hcn_4 (wd_lt W rfl) rfl rfl (Nat.le_of_ble_eq_true rfl) ?_
    exact rr_ireturn oX4_draw_15 rfl rfl (q_C_nov hC ce_rf (by rw [f_draw, if_pos c]) hno.1)
theorem c_X4_seed (l : Launch) {I : Nat → Nat → Int32} {L : Nat → Nat → Int64} {Rf : Nat → Nat → Option Nat} {n : Nat} {S : sg_T} (W : wd_T Rf n) (hC : CR_T I L S) (hI : IV_T S) {v : Int32} : wm_C l mX4_seed 1 0 0 [vv_A (some 0), vv_I v] (I, L, Rf, n) (q_C (f_seed S v).1 (f_seed S v).2 I L Rf n) := by
  refine wm_of (by decide) (Nat.le_of_ble_eq_true rfl) rfl ?_
  have hG : gv_T I 2 (z_G S) := hC.1.1.1
  have h8 : g_n (z_G S) ≤ 8 := hI.1.1
  have hr : hr_T (z_G S) := hI.1.2.1
  refine ra_0 oX4_seed_0 ?_
  refine rr_gr (v := 2) oX4_seed_1 (ff_X4_18 rfl) kk_0 (wd_lt W rfl) ⟨by decide, rfl⟩ (wd_r W rfl rfl) ?_
  refine rr_giv oX4_seed_4 (ff_X4_313 rfl) (gd_k gd_2) (gd_lt (j := 0) W gd_2 rfl) ⟨by decide, rfl⟩ hC.1.2.2 ?_
  refine si_2 oX4_seed_7 rfl rfl ?_
  refine ra_0 oX4_seed_8 ?_
  refine rr_gr (v := 2) oX4_seed_9 (ff_X4_18 rfl) kk_0 (wd_lt W rfl) ⟨by decide, rfl⟩ (wd_r W rfl rfl) ?_
  refine ri_1 oX4_seed_12 ?_
  refine rr_pi oX4_seed_13 (ff_X4_313 rfl) (gd_k gd_2) (gd_lt (j := 0) W gd_2 rfl) ⟨by decide, rfl, by decide⟩ pf_1_5 ⟨rfl, rfl⟩ ?_
  refine ri_2 oX4_seed_16 ?_
  exact rr_ireturn oX4_seed_17 rfl rfl (q_C_gr hC (cg_sd (v := v) hC.1) (fun q _ q2 _ _ => up_I_ne (by omega)) rfl rfl)
