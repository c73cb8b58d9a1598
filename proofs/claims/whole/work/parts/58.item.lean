/-! the model: an item (by program: wip/whole/c58.py) -/
def FRI (I J : Nat → Nat → Int32) : Prop := (∀ f, 2 < f → f ≠ 23 → f ≠ 25 → f ≠ 26 → J 46 f = I 46 f) ∧ ∀ a, (a < 46 ∨ a = 47 ∨ (54 < a ∧ a ≠ 62)) → J a = I a
def IT (sg : Nat → Int32) (z : Nat) (B : gb_T) (p fd : Nat) (I : Nat → Nat → Int32) (v : Int32) (J : Nat → Nat → Int32) : Prop := FRI I J ∧
  ((v = 1 ∧ (m_ite sg B (p, fd, none)).2.2.2 = none ∧ J 46 23 = nI (m_ite sg B (p, fd, none)).2.1 ∧ (p < (m_ite sg B (p, fd, none)).2.1 ∧ (m_ite sg B (p, fd, none)).2.1 ≤ z) ∧ mg_T J (m_ite sg B (p, fd, none)).1 ∧ gI_T (m_ite sg B (p, fd, none)).1) ∨
   (v = 0 ∧ ∃ y, (m_ite sg B (p, fd, none)).2.2.2 = some y ∧ J 46 26 = nI y))
theorem it_f {sg : Nat → Int32} {z p fd y : Nat} {B : gb_T} {I J : Nat → Nat → Int32} (h1 : ∀ f, 2 < f → f ≠ 23 → f ≠ 25 → f ≠ 26 → J 46 f = I 46 f) (h2 : ∀ a, (a < 46 ∨ a = 47 ∨ (54 < a ∧ a ≠ 62)) → J a = I a) (hy : (m_ite sg B (p, fd, none)).2.2.2 = some y) (h26 : J 46 26 = nI y) : IT sg z B p fd I 0 J := ⟨⟨h1, h2⟩, Or.inr ⟨rfl, y, hy, h26⟩⟩
theorem it_s {sg : Nat → Int32} {z p fd q fd2 : Nat} {B B2 : gb_T} {I J : Nat → Nat → Int32} (h1 : ∀ f, 2 < f → f ≠ 23 → f ≠ 25 → f ≠ 26 → J 46 f = I 46 f) (h2 : ∀ a, (a < 46 ∨ a = 47 ∨ (54 < a ∧ a ≠ 62)) → J a = I a) (hm : m_ite sg B (p, fd, none) = (B2, (q, fd2, none))) (h23 : J 46 23 = nI q) (hq : p < q ∧ q ≤ z) (hB : mg_T J B2) (hg : gI_T B2) : IT sg z B p fd I 1 J := by
  refine ⟨⟨h1, h2⟩, Or.inl ⟨rfl, ?_⟩⟩
  rw [hm]
  exact ⟨rfl, h23, hq, hB, hg⟩
theorem shu_e {B : gb_T} {u0 u1 : Nat} : b_ws B (up_2 (b_sh B) u1 u0 true) = b_shu B (some u0) (some u1) := by
  unfold b_shu
  congr 1
  funext u w
  unfold up_2
  by_cases h : u = u1 ∧ w = u0
  · rw [if_pos h, h.1, h.2]; simp
  · rw [if_neg h]
    have : (some u == some u1 && some w == some u0) = false := by
      simp only [Bool.and_eq_false_iff, beq_eq_false_iff_ne, ne_eq, Option.some.injEq]
      by_cases q : u = u1
      · exact Or.inr (fun z => h ⟨q, z⟩)
      · exact Or.inl q
    rw [this, Bool.or_false]
theorem drw_e {B : gb_T} {u0 : Nat} : b_wd B (up_1 (b_dr B) u0 true) = b_drw B (some u0) := by
  unfold b_drw
  congr 1
  funext w
  unfold up_1
  by_cases h : w = u0
  · rw [if_pos h, h]; simp
  · rw [if_neg h]
    have : (some w == some u0) = false := by
      simp only [beq_eq_false_iff_ne, ne_eq, Option.some.injEq]
      exact h
    rw [this, Bool.or_false]
theorem lf_X5_item (l : Launch) {I : Nat → Nat → Int32} {L : Nat → Nat → Int64} {Rf : Nat → Nat → Option Nat} {n : Nat} {s z p : Nat} (W : wd_T Rf n) (hs : s < 8) (hz : z ≤ 160) (hp : p ≤ z) (hR : rp_M I s z p) (hw61 : ∀ k, k < 32 → I 61 k = wd_W k) {B : gb_T} (hB : mg_T I B) (hg : gI_T B) {x2 x3 x4 x5 : vv_T} {Q : Option vv_T → mx_T → Prop} (hP : ¬ (s_sl (sg_M L s z) 0 p = ln_N 0 ∧ g_n (b_G B) = 8) → wm_W l mX5_item 4 0 0 38 [vv_A (some 46), vv_I (nI 5), x2, x3, x4, x5] [] (I, L, Rf, n) Q) (hF : (s_sl (sg_M L s z) 0 p = ln_N 0 ∧ g_n (b_G B) = 8) → Q (some (vv_I 0)) (up_I I 46 26 (nI p), L, Rf, n)) : ∀ m f, f + m = 5 → (0 < f → ¬ (s_sl (sg_M L s z) 0 p = ln_N 0 ∧ g_n (b_G B) = 8)) → wm_W l mX5_item 4 0 0 2 [vv_A (some 46), vv_I (nI f), x2, x3, x4, x5] [] (I, L, Rf, n) Q := by
  intro m
  induction m with
  | zero =>
    intro f hf h0
    refine ri_1 oX5_item_2 ?_
    refine rk_5 oX5_item_3 ?_
    refine rr_icmp_ge (tgt := 38) oX5_item_4 (by decide) (fun c => ?_) (fun c => ?_)
    rotate_left
    · exact absurd c (fun q => by rw [show (5 : Int32) = nI 5 from rfl, nI_le_iff (by omega) (by omega)] at q; omega)
    have e : f = 5 := by omega
    subst e
    exact hP (h0 (by omega))
  | succ m ih =>
    intro f hf h0
    refine ri_1 oX5_item_2 ?_
    refine rk_5 oX5_item_3 ?_
    refine rr_icmp_ge (tgt := 38) oX5_item_4 (by decide) (fun c => ?_) (fun c => ?_)
    · rw [show (5 : Int32) = nI 5 from rfl, nI_le_iff (by omega) (by omega)] at c; omega
    have hf5 : f < 5 := by omega
    refine ra_0 oX5_item_7 ?_
    refine ri_1 oX5_item_8 ?_
    refine rr_cVi (c_X5_isWordAt l W hs hz hp hR hw61 hf5) oX5_item_9 (cv_X5_152 rfl) (by decide) kk_46 (by decide) hcn_5 (wd_lt W rfl) rfl rfl (Nat.le_of_ble_eq_true rfl) ?_
    refine rr_ifb_eq (tgt := 32) oX5_item_12 (by decide) (fun c1 => ?_) (fun c1 => ?_)
    · refine rn_1 oX5_item_32 rfl rfl ?_
      refine rr_goto (tgt := 2) oX5_item_35 (by decide) ?_
      exact ih (f + 1) (by omega) (fun _ => by
        by_cases q : f = 0
        · subst q; exact fun e => c1 e.1
        · exact h0 (by omega))
    · refine ra_0 oX5_item_15 ?_
      refine ri_1 oX5_item_16 ?_
      refine rr_cVi (c_X5_isFull l W hB.1 hf5) oX5_item_17 (cv_X5_155 rfl) (by decide) kk_46 (by decide) hcn_5 (wd_lt W rfl) rfl rfl (Nat.le_of_ble_eq_true rfl) ?_
      refine rr_ifb_eq (tgt := 32) oX5_item_20 (by decide) (fun c2 => ?_) (fun c2 => ?_)
      · refine rn_1 oX5_item_32 rfl rfl ?_
        refine rr_goto (tgt := 2) oX5_item_35 (by decide) ?_
        exact ih (f + 1) (by omega) (fun _ => by
          by_cases q : f = 0
          · subst q; exact fun e => c2 ⟨rfl, e.2⟩
          · exact h0 (by omega))
      · refine ra_0 oX5_item_23 ?_
        refine ra_0 oX5_item_24 ?_
        refine rr_giv oX5_item_25 (ff_X5_133 rfl) kk_46 (wd_lt W rfl) ⟨by decide, rfl⟩ hR.2.2 ?_
        refine rr_cVi (c_X5_wrong l W) oX5_item_28 (cv_X5_149 rfl) (by decide) kk_46 (by decide) hcn_5 (wd_lt W rfl) rfl rfl (Nat.le_of_ble_eq_true rfl) ?_
        exact rr_ireturn oX5_item_31 rfl rfl (hF ⟨by have := c1; rw [c2.1] at this; exact this, c2.2⟩)
theorem c_X5_item (l : Launch) {I : Nat → Nat → Int32} {L : Nat → Nat → Int64} {Rf : Nat → Nat → Option Nat} {n : Nat} {s z p : Nat} (W : wd_T Rf n) (hs : s < 8) (hz : z ≤ 160) (hp : p ≤ z) (hR : rp_M I s z p) (hw61 : ∀ k, k < 32 → I 61 k = wd_W k) {B : gb_T} (hB : mg_T I B) (hg : gI_T B) {fd : Nat} : wm_C l mX5_item 4 0 0 [vv_A (some 46)] (I, L, Rf, n) (q_n (IT (sg_M L s z) z B p fd I) L Rf n) := by
  refine wm_of (by decide) (Nat.le_of_ble_eq_true rfl) rfl ?_
  refine rk_0 oX5_item_0 ?_
  refine si_1 oX5_item_1 rfl rfl ?_
  refine lf_X5_item l W hs hz hp hR hw61 hB hg (fun hnf => ?_) (fun hf => ?_) 5 0 rfl (fun h => absurd h (by omega))
  rotate_left
  · exact q_n_of (it_f (fun f q0 q1 q2 q3 => up_I_at_ne q3) (fun a hh => up_I_ne (by omega)) (ite_full hf.1 (by omega)) up_I_at)
  have hQ : mq_T I (b_G B) (b_dr B) (b_sh B) := mg_mq hB hg
  refine ra_0 oX5_item_38 ?_
  refine rr_giv oX5_item_39 (ff_X5_133 rfl) kk_46 (wd_lt W rfl) ⟨by decide, rfl⟩ hR.2.2 ?_
  refine si_1 oX5_item_42 rfl rfl ?_
  refine ra_0 oX5_item_43 ?_
  refine rr_cVn (c_X5_word l W hs hz hp hR hw61) oX5_item_44 (cv_X5_158 rfl) (by decide) kk_46 (by decide) hcn_5 (wd_lt W rfl) rfl rfl (Nat.le_of_ble_eq_true rfl) (fun v J0 hJ => ?_)
  refine si_2 oX5_item_47 rfl rfl ?_
  rcases hJ with ⟨w, q, e, hw, h32, hv, hJ0⟩ | ⟨oo, q, e, ho, hv, hJ0⟩
  · refine ri_2 oX5_item_48 ?_
    rcases (show w = 0 ∨ w = 1 ∨ w = 2 ∨ w = 3 ∨ w = 4 by omega) with rfl | rfl | rfl | rfl | rfl
    · obtain rfl : v = 0 := hv
      refine rk_m1 oX5_item_49 ?_
      refine rr_icmp_ne (tgt := 55) oX5_item_50 (by decide) (fun _ => ?_) (fun q => absurd q (by decide))
      refine ri_2 oX5_item_55 ?_
      refine rr_if_ne (tgt := 74) oX5_item_56 (by decide) (fun q => absurd q (by decide)) (fun _ => ?_)
      refine ra_0 oX5_item_59 ?_
      refine rr_giv oX5_item_60 (ff_X5_84 rfl) kk_46 (wd_lt W rfl) ⟨by decide, rfl⟩ (show _ = nI (g_n (b_G B)) from by rw [hJ0, up_I_at_ne (by omega)]; exact hB.1.2.1) ?_
      refine rr_bipush (v := 8) oX5_item_63 (by decide) ?_
      refine rr_icmp_ne (tgt := 74) oX5_item_65 (by decide) (fun c65 => ?_) (fun c65 => ?_)
      rotate_left
      · exact absurd ⟨(wo_lt _ _ _ _ _ _ _ e).2.2.2, (nI_inj (by have := hg.1; omega) (by omega)).mp c65⟩ hnf
      refine ri_2 oX5_item_74 ?_
      refine rr_if_ne (tgt := 82) oX5_item_75 (by decide) (fun q => absurd q (by decide)) (fun _ => ?_)
      refine rk_5 oX5_item_78 ?_
      refine rr_goto (tgt := 92) oX5_item_79 (by decide) ?_
      refine si_3 oX5_item_92 rfl rfl ?_
      refine rk_0 oX5_item_93 ?_
      refine si_4 oX5_item_94 rfl rfl ?_
      have f0 : ∀ f, f ≠ 23 → J0 46 f = I 46 f := fun f hf => by rw [hJ0, up_I_at_ne hf]
      have F0 : ∀ f, f ≠ 23 → f ≠ 25 → f ≠ 26 → J0 46 f = I 46 f := fun f q1 _ _ => f0 f q1
      have G0 : ∀ a, a ≠ 46 → a ≠ 62 → J0 a = I a := fun a ha _ => by rw [hJ0, up_I_ne ha]
      have hR0 : rp_M J0 s z (q + 1) := ⟨(f0 22 (by omega)).trans hR.1, (f0 24 (by omega)).trans hR.2.1, by rw [hJ0, up_I_at]⟩
      have hqz : q < z := sg_lt (sg_z z _) h32 (by decide)
      have hpq := wo_lt _ _ _ _ _ _ _ e
      have h8 : g_n (b_G B) ≤ 8 := hg.1
      have hn8 : ¬ 8 ≤ g_n (b_G B) := fun z8 => hnf ⟨hpq.2.2.2, by omega⟩
      have ei := ite_w (B := B) (fd := fd) e
      refine la_X5_item (L := L) (dSo := fun u => inferInstance) (So := So_0 (b_G B) (J0 62 1) 0) l W hs hz (show (q + 1) ≤ z by omega) hR0 (k := 0) (nn := 5) (i := 0) (by decide) (fun J u hu h25 hf ha => by have h := c0_X5_isSo (L := L) (i := 0) l W (mq_ce hQ (fun f hf2 => (hf f (by omega) (by omega) (by omega)).trans (F0 f (by omega) (by omega) (by omega))) (fun a q1 q2 => (ha a (by omega)).trans (G0 a (by omega) (by omega)))) hu h25 (by decide); rw [ha 62 (by omega)] at h; exact h) (by decide) (fun J y hy h26 hf ha => ?_) (fun J1 p1 u0 t1 har hnu hso h23 h62 h62o hf ha => ?_)
      · refine q_n_of (it_f (fun f q0 q1 q2 q3 => (hf f q1 q2 q3).trans (F0 f q1 q2 q3)) (fun a q => (ha a (by omega)).trans (G0 a (by omega) (by omega))) ?_ h26)
        rw [ei]
        show (m_thi (sg_M L s z) B p (q, fd, none)).2.2.2 = some y
        rw [m_thi, if_neg hn8]
        exact th5_f0  (num_f (fc_mo (fc_0 h32 hy) (fun u hu => ⟨fun _ => hu.2, fun e => absurd e (by decide), fun e => absurd rfl e, fun e => absurd e (by decide)⟩)))
      have sc0 : SC (sg_M L s z) q u0 t1 := sc_0 h32 har hnu
      have nb0 := nu_b (sg_z z _) sc0.2
      have F1 : ∀ f, f ≠ 23 → f ≠ 25 → f ≠ 26 → J1 46 f = I 46 f := fun f q1 q2 q3 => (hf f q1 q2 q3).trans (F0 f q1 q2 q3)
      have G1 : ∀ a, a ≠ 46 → a ≠ 62 → J1 a = I a := fun a q1 q2 => (ha a q1 q2).trans (G0 a q1 q2)
      have hR1 : rp_M J1 s z t1 := ⟨(F1 22 (by omega) (by omega) (by omega)).trans hR.1, (F1 24 (by omega) (by omega) (by omega)).trans hR.2.1, h23⟩
      have T1_0 : J1 62 0 = nI u0 := h62
      have bd0 : 0 ≤ u0 ∧ u0 ≤ 6 := ⟨Nat.zero_le _, hso.1 rfl⟩
      have n0 : m_num (sg_M L s z) 0 6 (q, fd, none) = (some u0, (t1, q + 1, none)) := num_s sc0 bd0
      refine la_X5_item (L := L) (dSo := fun u => inferInstance) (So := So_0 (b_G B) (J1 62 1) 1) l W hs hz (show t1 ≤ z by omega) hR1 (k := 0) (nn := 5) (i := 1) (by decide) (fun J u hu h25 hf ha => by have h := c0_X5_isSo (L := L) (i := 1) l W (mq_ce hQ (fun f hf2 => (hf f (by omega) (by omega) (by omega)).trans (F1 f (by omega) (by omega) (by omega))) (fun a q1 q2 => (ha a (by omega)).trans (G1 a (by omega) (by omega)))) hu h25 (by decide); rw [ha 62 (by omega)] at h; exact h) (by decide) (fun J y hy h26 hf ha => ?_) (fun J2 p1 u1 t2 har hnu hso h23 h62 h62o hf ha => ?_)
      · refine q_n_of (it_f (fun f q0 q1 q2 q3 => (hf f q1 q2 q3).trans (F1 f q1 q2 q3)) (fun a q => (ha a (by omega)).trans (G1 a (by omega) (by omega))) ?_ h26)
        rw [ei]
        show (m_thi (sg_M L s z) B p (q, fd, none)).2.2.2 = some y
        rw [m_thi, if_neg hn8]
        exact th5_f1 n0 (num_f (fc_mo (fc_1 (by decide) hy) (fun u hu => ⟨fun e => absurd e (by decide), fun e => absurd e (by decide), fun _ _ => hu.2, fun e => absurd e (by decide)⟩)))
      have sc1 : SC (sg_M L s z) t1 u1 t2 := sc_1 (by decide) har hnu
      have nb1 := nu_b (sg_z z _) sc1.2
      have F2 : ∀ f, f ≠ 23 → f ≠ 25 → f ≠ 26 → J2 46 f = I 46 f := fun f q1 q2 q3 => (hf f q1 q2 q3).trans (F1 f q1 q2 q3)
      have G2 : ∀ a, a ≠ 46 → a ≠ 62 → J2 a = I a := fun a q1 q2 => (ha a q1 q2).trans (G1 a q1 q2)
      have hR2 : rp_M J2 s z t2 := ⟨(F2 22 (by omega) (by omega) (by omega)).trans hR.1, (F2 24 (by omega) (by omega) (by omega)).trans hR.2.1, h23⟩
      have T2_0 : J2 62 0 = nI u0 := (h62o 0 (by decide)).trans T1_0
      have T2_1 : J2 62 1 = nI u1 := h62
      have bd1 : 0 ≤ u1 ∧ u1 ≤ 9 := ⟨Nat.zero_le _, hso.2.2.1 (by decide) (by decide)⟩
      have n1 : m_num (sg_M L s z) 0 9 (t1, q + 1, none) = (some u1, (t2, t1 + 1, none)) := num_s sc1 bd1
      refine la_X5_item (L := L) (dSo := fun u => inferInstance) (So := So_0 (b_G B) (J2 62 1) 2) l W hs hz (show t2 ≤ z by omega) hR2 (k := 0) (nn := 5) (i := 2) (by decide) (fun J u hu h25 hf ha => by have h := c0_X5_isSo (L := L) (i := 2) l W (mq_ce hQ (fun f hf2 => (hf f (by omega) (by omega) (by omega)).trans (F2 f (by omega) (by omega) (by omega))) (fun a q1 q2 => (ha a (by omega)).trans (G2 a (by omega) (by omega)))) hu h25 (by decide); rw [ha 62 (by omega)] at h; exact h) (by decide) (fun J y hy h26 hf ha => ?_) (fun J3 p1 u2 t3 har hnu hso h23 h62 h62o hf ha => ?_)
      · refine q_n_of (it_f (fun f q0 q1 q2 q3 => (hf f q1 q2 q3).trans (F2 f q1 q2 q3)) (fun a q => (ha a (by omega)).trans (G2 a (by omega) (by omega))) ?_ h26)
        rw [ei]
        show (m_thi (sg_M L s z) B p (q, fd, none)).2.2.2 = some y
        rw [m_thi, if_neg hn8]
        have hfc := fc_1 (by decide) hy
        by_cases h9 : FC (sg_M L s z) t2 y (fun u => 0 ≤ u ∧ u ≤ 9)
        · exact th5_f2 n0 n1 (num_f h9)
        · rcases hfc with hx | ⟨hx1, hx2, hx | ⟨u, q2, hx3, hx4⟩⟩
          · exact absurd (Or.inl hx) h9
          · exact absurd (Or.inr ⟨hx1, hx2, Or.inl hx⟩) h9
          · have hu9 : u ≤ 9 := by
              apply Classical.byContradiction
              intro hu
              exact h9 (Or.inr ⟨hx1, hx2, Or.inr ⟨u, q2, hx3, fun z => hu z.2⟩⟩)
            rw [hx2]
            exact th5_fa n0 n1 (num_s ⟨hx1, hx3⟩ ⟨Nat.zero_le _, hu9⟩) (fun z => hx4 ⟨fun e => absurd e (by decide), fun e => absurd e (by decide), fun _ _ => hu9, fun _ => by rw [T2_1]; exact z⟩)
      have sc2 : SC (sg_M L s z) t2 u2 t3 := sc_1 (by decide) har hnu
      have nb2 := nu_b (sg_z z _) sc2.2
      have F3 : ∀ f, f ≠ 23 → f ≠ 25 → f ≠ 26 → J3 46 f = I 46 f := fun f q1 q2 q3 => (hf f q1 q2 q3).trans (F2 f q1 q2 q3)
      have G3 : ∀ a, a ≠ 46 → a ≠ 62 → J3 a = I a := fun a q1 q2 => (ha a q1 q2).trans (G2 a q1 q2)
      have hR3 : rp_M J3 s z t3 := ⟨(F3 22 (by omega) (by omega) (by omega)).trans hR.1, (F3 24 (by omega) (by omega) (by omega)).trans hR.2.1, h23⟩
      have T3_0 : J3 62 0 = nI u0 := (h62o 0 (by decide)).trans T2_0
      have T3_1 : J3 62 1 = nI u1 := (h62o 1 (by decide)).trans T2_1
      have T3_2 : J3 62 2 = nI u2 := h62
      have bd2 : 0 ≤ u2 ∧ u2 ≤ 9 := ⟨Nat.zero_le _, hso.2.2.1 (by decide) (by decide)⟩
      have n2 : m_num (sg_M L s z) 0 9 (t2, t1 + 1, none) = (some u2, (t3, t2 + 1, none)) := num_s sc2 bd2
      have hat : s_at (b_G B) (nI u1) (nI u2) = none := by have h := hso.2.2.2 rfl; rw [T2_1] at h; exact h
      refine la_X5_item (L := L) (dSo := fun u => inferInstance) (So := So_0 (b_G B) (J3 62 1) 3) l W hs hz (show t3 ≤ z by omega) hR3 (k := 0) (nn := 5) (i := 3) (by decide) (fun J u hu h25 hf ha => by have h := c0_X5_isSo (L := L) (i := 3) l W (mq_ce hQ (fun f hf2 => (hf f (by omega) (by omega) (by omega)).trans (F3 f (by omega) (by omega) (by omega))) (fun a q1 q2 => (ha a (by omega)).trans (G3 a (by omega) (by omega)))) hu h25 (by decide); rw [ha 62 (by omega)] at h; exact h) (by decide) (fun J y hy h26 hf ha => ?_) (fun J4 p1 u3 t4 har hnu hso h23 h62 h62o hf ha => ?_)
      · refine q_n_of (it_f (fun f q0 q1 q2 q3 => (hf f q1 q2 q3).trans (F3 f q1 q2 q3)) (fun a q => (ha a (by omega)).trans (G3 a (by omega) (by omega))) ?_ h26)
        rw [ei]
        show (m_thi (sg_M L s z) B p (q, fd, none)).2.2.2 = some y
        rw [m_thi, if_neg hn8]
        exact th5_f3 n0 n1 n2 hat (num_f (fc_mo (fc_1 (by decide) hy) (fun u hu => ⟨fun e => absurd e (by decide), fun _ => hu.2, fun _ e => absurd rfl e, fun e => absurd e (by decide)⟩)))
      have sc3 : SC (sg_M L s z) t3 u3 t4 := sc_1 (by decide) har hnu
      have nb3 := nu_b (sg_z z _) sc3.2
      have F4 : ∀ f, f ≠ 23 → f ≠ 25 → f ≠ 26 → J4 46 f = I 46 f := fun f q1 q2 q3 => (hf f q1 q2 q3).trans (F3 f q1 q2 q3)
      have G4 : ∀ a, a ≠ 46 → a ≠ 62 → J4 a = I a := fun a q1 q2 => (ha a q1 q2).trans (G3 a q1 q2)
      have hR4 : rp_M J4 s z t4 := ⟨(F4 22 (by omega) (by omega) (by omega)).trans hR.1, (F4 24 (by omega) (by omega) (by omega)).trans hR.2.1, h23⟩
      have T4_0 : J4 62 0 = nI u0 := (h62o 0 (by decide)).trans T3_0
      have T4_1 : J4 62 1 = nI u1 := (h62o 1 (by decide)).trans T3_1
      have T4_2 : J4 62 2 = nI u2 := (h62o 2 (by decide)).trans T3_2
      have T4_3 : J4 62 3 = nI u3 := h62
      have bd3 : 0 ≤ u3 ∧ u3 ≤ 20 := ⟨Nat.zero_le _, hso.2.1 rfl⟩
      have n3 : m_num (sg_M L s z) 0 20 (t3, t2 + 1, none) = (some u3, (t4, t3 + 1, none)) := num_s sc3 bd3
      refine la_X5_item (L := L) (dSo := fun u => inferInstance) (So := So_0 (b_G B) (J4 62 1) 4) l W hs hz (show t4 ≤ z by omega) hR4 (k := 0) (nn := 5) (i := 4) (by decide) (fun J u hu h25 hf ha => by have h := c0_X5_isSo (L := L) (i := 4) l W (mq_ce hQ (fun f hf2 => (hf f (by omega) (by omega) (by omega)).trans (F4 f (by omega) (by omega) (by omega))) (fun a q1 q2 => (ha a (by omega)).trans (G4 a (by omega) (by omega)))) hu h25 (by decide); rw [ha 62 (by omega)] at h; exact h) (by decide) (fun J y hy h26 hf ha => ?_) (fun J5 p1 u4 t5 har hnu hso h23 h62 h62o hf ha => ?_)
      · refine q_n_of (it_f (fun f q0 q1 q2 q3 => (hf f q1 q2 q3).trans (F4 f q1 q2 q3)) (fun a q => (ha a (by omega)).trans (G4 a (by omega) (by omega))) ?_ h26)
        rw [ei]
        show (m_thi (sg_M L s z) B p (q, fd, none)).2.2.2 = some y
        rw [m_thi, if_neg hn8]
        exact th5_f4 n0 n1 n2 hat n3 (num_f (fc_mo (fc_1 (by decide) hy) (fun u hu => ⟨fun e => absurd e (by decide), fun e => absurd e (by decide), fun _ _ => hu.2, fun e => absurd e (by decide)⟩)))
      have sc4 : SC (sg_M L s z) t4 u4 t5 := sc_1 (by decide) har hnu
      have nb4 := nu_b (sg_z z _) sc4.2
      have F5 : ∀ f, f ≠ 23 → f ≠ 25 → f ≠ 26 → J5 46 f = I 46 f := fun f q1 q2 q3 => (hf f q1 q2 q3).trans (F4 f q1 q2 q3)
      have G5 : ∀ a, a ≠ 46 → a ≠ 62 → J5 a = I a := fun a q1 q2 => (ha a q1 q2).trans (G4 a q1 q2)
      have hR5 : rp_M J5 s z t5 := ⟨(F5 22 (by omega) (by omega) (by omega)).trans hR.1, (F5 24 (by omega) (by omega) (by omega)).trans hR.2.1, h23⟩
      have T5_0 : J5 62 0 = nI u0 := (h62o 0 (by decide)).trans T4_0
      have T5_1 : J5 62 1 = nI u1 := (h62o 1 (by decide)).trans T4_1
      have T5_2 : J5 62 2 = nI u2 := (h62o 2 (by decide)).trans T4_2
      have T5_3 : J5 62 3 = nI u3 := (h62o 3 (by decide)).trans T4_3
      have T5_4 : J5 62 4 = nI u4 := h62
      have bd4 : 0 ≤ u4 ∧ u4 ≤ 9 := ⟨Nat.zero_le _, hso.2.2.1 (by decide) (by decide)⟩
      have n4 : m_num (sg_M L s z) 0 9 (t4, t3 + 1, none) = (some u4, (t5, t4 + 1, none)) := num_s sc4 bd4
      have hBn : mg_T J5 B := mg_ce hB (fun f hf => F5 f (by omega) (by omega) (by omega)) (fun a q1 q2 => G5 a (by omega) (by omega))
      refine ri_4 oX5_item_96 ?_
      refine ri_3 oX5_item_98 ?_
      refine rr_icmp_ge (tgt := 206) oX5_item_99 (by decide) (fun _ => ?_) (fun q => absurd q (by decide))
      refine ri_2 oX5_item_206 ?_
      refine rr_tabIn (off := 29) (tgt := 236) oX5_item_207 (by decide) (by decide) (by decide) (by decide) ?_
      refine ra_0 oX5_item_236 ?_
      refine ra_0 oX5_item_237 ?_
      refine rr_gr (v := 62) oX5_item_238 (ff_X5_69 rfl) kk_46 (wd_lt W rfl) ⟨by decide, rfl⟩ (wd_r W rfl rfl) ?_
      refine rk_0 oX5_item_241 ?_
      refine rr_iv (t := 0) oX5_item_242 kk_62 (wd_lt W rfl) rfl (by omega) (by decide) T5_0 ?_
      refine ra_0 oX5_item_243 ?_
      refine rr_gr (v := 62) oX5_item_244 (ff_X5_69 rfl) kk_46 (wd_lt W rfl) ⟨by decide, rfl⟩ (wd_r W rfl rfl) ?_
      refine rk_1 oX5_item_247 ?_
      refine rr_iv (t := 1) oX5_item_248 kk_62 (wd_lt W rfl) rfl (by omega) (by decide) T5_1 ?_
      refine ra_0 oX5_item_249 ?_
      refine rr_gr (v := 62) oX5_item_250 (ff_X5_69 rfl) kk_46 (wd_lt W rfl) ⟨by decide, rfl⟩ (wd_r W rfl rfl) ?_
      refine rk_2 oX5_item_253 ?_
      refine rr_iv (t := 2) oX5_item_254 kk_62 (wd_lt W rfl) rfl (by omega) (by decide) T5_2 ?_
      refine ra_0 oX5_item_255 ?_
      refine rr_gr (v := 62) oX5_item_256 (ff_X5_69 rfl) kk_46 (wd_lt W rfl) ⟨by decide, rfl⟩ (wd_r W rfl rfl) ?_
      refine rk_3 oX5_item_259 ?_
      refine rr_iv (t := 3) oX5_item_260 kk_62 (wd_lt W rfl) rfl (by omega) (by decide) T5_3 ?_
      refine ra_0 oX5_item_261 ?_
      refine rr_gr (v := 62) oX5_item_262 (ff_X5_69 rfl) kk_46 (wd_lt W rfl) ⟨by decide, rfl⟩ (wd_r W rfl rfl) ?_
      refine rk_4 oX5_item_265 ?_
      refine rr_iv (t := 4) oX5_item_266 kk_62 (wd_lt W rfl) rfl (by omega) (by decide) T5_4 ?_
      have h7 : g_n (b_G B) < 8 := by omega
      have hdd : ∀ t, b_dr B t = true → t < g_n (b_G B) := fun t ht => (hg.2.2.2.1 t ht).1
      have hss : ∀ j i, b_sh B j i = true → j < g_n (b_G B) ∧ i < g_n (b_G B) := fun j i q => ⟨(hg.2.2.2.2.1 j i q).1.1, (hg.2.2.2.2.1 j i q).2.1⟩
      refine rr_cVn (c_X5_adds l W hBn h7 hdd hss) oX5_item_267 (cv_X5_120 rfl) (by decide) kk_46 (by decide) hcn_5 (wd_lt W rfl) rfl rfl (Nat.le_of_ble_eq_true rfl) (fun v6 J6 hJ6 => ?_)
      obtain ⟨hv6, hB6, hfr6, hf6⟩ := hJ6
      refine rr_pop oX5_item_270 rfl ?_
      refine rr_goto (tgt := 337) oX5_item_271 (by decide) ?_
      refine rk_1 oX5_item_337 ?_
      exact rr_ireturn oX5_item_338 rfl rfl (q_n_of (it_s (fun f q0 q1 q2 q3 => (hf6 f (by omega)).trans (F5 f q1 q2 q3)) (fun a q => (hfr6 a (by omega)).trans (G5 a (by omega) (by omega))) (ei.trans (by show m_thi (sg_M L s z) B p (q, fd, none) = _; rw [m_thi, if_neg hn8]; exact th5_ok n0 n1 n2 hat n3 n4)) ((hf6 23 (by omega)).trans hR5.2.2) (by omega) hB6 (gI_add hg h7 bd0.2 bd1.2 bd2.2 bd3.2 bd4.2)))
    · obtain rfl : v = 1 := hv
      refine rk_m1 oX5_item_49 ?_
      refine rr_icmp_ne (tgt := 55) oX5_item_50 (by decide) (fun _ => ?_) (fun q => absurd q (by decide))
      refine ri_2 oX5_item_55 ?_
      refine rr_if_ne (tgt := 74) oX5_item_56 (by decide) (fun _ => ?_) (fun q => absurd q (by decide))
      refine ri_2 oX5_item_74 ?_
      refine rr_if_ne (tgt := 82) oX5_item_75 (by decide) (fun _ => ?_) (fun q => absurd q (by decide))
      refine ri_2 oX5_item_82 ?_
      refine rk_3 oX5_item_83 ?_
      refine rr_icmp_ne (tgt := 91) oX5_item_84 (by decide) (fun _ => ?_) (fun q => absurd q (by decide))
      refine rk_1 oX5_item_91 ?_
      refine si_3 oX5_item_92 rfl rfl ?_
      refine rk_0 oX5_item_93 ?_
      refine si_4 oX5_item_94 rfl rfl ?_
      have f0 : ∀ f, f ≠ 23 → J0 46 f = I 46 f := fun f hf => by rw [hJ0, up_I_at_ne hf]
      have F0 : ∀ f, f ≠ 23 → f ≠ 25 → f ≠ 26 → J0 46 f = I 46 f := fun f q1 _ _ => f0 f q1
      have G0 : ∀ a, a ≠ 46 → a ≠ 62 → J0 a = I a := fun a ha _ => by rw [hJ0, up_I_ne ha]
      have hR0 : rp_M J0 s z (q + 1) := ⟨(f0 22 (by omega)).trans hR.1, (f0 24 (by omega)).trans hR.2.1, by rw [hJ0, up_I_at]⟩
      have hqz : q < z := sg_lt (sg_z z _) h32 (by decide)
      have hpq := wo_lt _ _ _ _ _ _ _ e
      have h8 : g_n (b_G B) ≤ 8 := hg.1
      have ei := ite_w (B := B) (fd := fd) e
      refine la_X5_item (L := L) (dSo := fun u => inferInstance) (So := fun u => u ≤ 1) l W hs hz (show (q + 1) ≤ z by omega) hR0 (k := 1) (nn := 1) (i := 0) (by decide) (fun J u hu h25 hf ha => by have h := c1_X5_isSo (L := L) (i := 0) l W (mq_ce hQ (fun f hf2 => (hf f (by omega) (by omega) (by omega)).trans (F0 f (by omega) (by omega) (by omega))) (fun a q1 q2 => (ha a (by omega)).trans (G0 a (by omega) (by omega)))) hu h25 (by decide); exact h) (by decide) (fun J y hy h26 hf ha => ?_) (fun J1 p1 u0 t1 har hnu hso h23 h62 h62o hf ha => ?_)
      · refine q_n_of (it_f (fun f q0 q1 q2 q3 => (hf f q1 q2 q3).trans (F0 f q1 q2 q3)) (fun a q => (ha a (by omega)).trans (G0 a (by omega) (by omega))) ?_ h26)
        rw [ei]
        exact num_f (fc_mo (fc_0 h32 hy) (fun u hu => hu.2))
      have sc0 : SC (sg_M L s z) q u0 t1 := sc_0 h32 har hnu
      have nb0 := nu_b (sg_z z _) sc0.2
      have F1 : ∀ f, f ≠ 23 → f ≠ 25 → f ≠ 26 → J1 46 f = I 46 f := fun f q1 q2 q3 => (hf f q1 q2 q3).trans (F0 f q1 q2 q3)
      have G1 : ∀ a, a ≠ 46 → a ≠ 62 → J1 a = I a := fun a q1 q2 => (ha a q1 q2).trans (G0 a q1 q2)
      have hR1 : rp_M J1 s z t1 := ⟨(F1 22 (by omega) (by omega) (by omega)).trans hR.1, (F1 24 (by omega) (by omega) (by omega)).trans hR.2.1, h23⟩
      have T1_0 : J1 62 0 = nI u0 := h62
      have bd0 : 0 ≤ u0 ∧ u0 ≤ 1 := ⟨Nat.zero_le _, hso⟩
      have n0 : m_num (sg_M L s z) 0 1 (q, fd, none) = (some u0, (t1, q + 1, none)) := num_s sc0 bd0
      have hBn : mg_T J1 B := mg_ce hB (fun f hf => F1 f (by omega) (by omega) (by omega)) (fun a q1 q2 => G1 a (by omega) (by omega))
      refine ri_4 oX5_item_96 ?_
      refine ri_3 oX5_item_98 ?_
      refine rr_icmp_ge (tgt := 206) oX5_item_99 (by decide) (fun _ => ?_) (fun q => absurd q (by decide))
      refine ri_2 oX5_item_206 ?_
      refine rr_tabIn (off := 67) (tgt := 274) oX5_item_207 (by decide) (by decide) (by decide) (by decide) ?_
      refine ra_0 oX5_item_274 ?_
      refine ra_0 oX5_item_275 ?_
      refine rr_gr (v := 62) oX5_item_276 (ff_X5_69 rfl) kk_46 (wd_lt W rfl) ⟨by decide, rfl⟩ (wd_r W rfl rfl) ?_
      refine rk_0 oX5_item_279 ?_
      refine rr_iv (t := 0) oX5_item_280 kk_62 (wd_lt W rfl) rfl (by omega) (by decide) T1_0 ?_
      refine rr_pi oX5_item_281 (ff_X5_7 rfl) kk_46 (wd_lt W rfl) ⟨by decide, rfl, by decide⟩ pf_5_1 ⟨rfl, rfl⟩ ?_
      refine rr_goto (tgt := 337) oX5_item_284 (by decide) ?_
      refine rk_1 oX5_item_337 ?_
      exact rr_ireturn oX5_item_338 rfl rfl (q_n_of (it_s (fun f q0 q1 q2 q3 => (up_I_at_ne (by omega)).trans (F1 f q1 q2 q3)) (fun a q => (up_I_ne (by omega)).trans (G1 a (by omega) (by omega))) (ei.trans (by show (b_wG B (g_ws (b_G B) (oI (m_num (sg_M L s z) 0 1 (q, fd, none)).1)), (m_num (sg_M L s z) 0 1 (q, fd, none)).2) = _; rw [n0]; rfl)) ((up_I_at_ne (by omega)).trans hR1.2.2) (by omega) (mg_su hBn) (gI_ws hg ((show u0 = 0 ∨ u0 = 1 by omega).elim (fun h => Or.inl (by rw [h]; rfl)) (fun h => Or.inr (by rw [h]; rfl))))))
    · obtain rfl : v = 2 := hv
      refine rk_m1 oX5_item_49 ?_
      refine rr_icmp_ne (tgt := 55) oX5_item_50 (by decide) (fun _ => ?_) (fun q => absurd q (by decide))
      refine ri_2 oX5_item_55 ?_
      refine rr_if_ne (tgt := 74) oX5_item_56 (by decide) (fun _ => ?_) (fun q => absurd q (by decide))
      refine ri_2 oX5_item_74 ?_
      refine rr_if_ne (tgt := 82) oX5_item_75 (by decide) (fun _ => ?_) (fun q => absurd q (by decide))
      refine ri_2 oX5_item_82 ?_
      refine rk_3 oX5_item_83 ?_
      refine rr_icmp_ne (tgt := 91) oX5_item_84 (by decide) (fun _ => ?_) (fun q => absurd q (by decide))
      refine rk_1 oX5_item_91 ?_
      refine si_3 oX5_item_92 rfl rfl ?_
      refine rk_0 oX5_item_93 ?_
      refine si_4 oX5_item_94 rfl rfl ?_
      have f0 : ∀ f, f ≠ 23 → J0 46 f = I 46 f := fun f hf => by rw [hJ0, up_I_at_ne hf]
      have F0 : ∀ f, f ≠ 23 → f ≠ 25 → f ≠ 26 → J0 46 f = I 46 f := fun f q1 _ _ => f0 f q1
      have G0 : ∀ a, a ≠ 46 → a ≠ 62 → J0 a = I a := fun a ha _ => by rw [hJ0, up_I_ne ha]
      have hR0 : rp_M J0 s z (q + 1) := ⟨(f0 22 (by omega)).trans hR.1, (f0 24 (by omega)).trans hR.2.1, by rw [hJ0, up_I_at]⟩
      have hqz : q < z := sg_lt (sg_z z _) h32 (by decide)
      have hpq := wo_lt _ _ _ _ _ _ _ e
      have h8 : g_n (b_G B) ≤ 8 := hg.1
      have ei := ite_w (B := B) (fd := fd) e
      refine la_X5_item (L := L) (dSo := fun u => inferInstance) (So := fun u => 1 ≤ u ∧ u ≤ 9) l W hs hz (show (q + 1) ≤ z by omega) hR0 (k := 2) (nn := 1) (i := 0) (by decide) (fun J u hu h25 hf ha => by have h := c2_X5_isSo (L := L) (i := 0) l W (mq_ce hQ (fun f hf2 => (hf f (by omega) (by omega) (by omega)).trans (F0 f (by omega) (by omega) (by omega))) (fun a q1 q2 => (ha a (by omega)).trans (G0 a (by omega) (by omega)))) hu h25 (by decide); exact h) (by decide) (fun J y hy h26 hf ha => ?_) (fun J1 p1 u0 t1 har hnu hso h23 h62 h62o hf ha => ?_)
      · refine q_n_of (it_f (fun f q0 q1 q2 q3 => (hf f q1 q2 q3).trans (F0 f q1 q2 q3)) (fun a q => (ha a (by omega)).trans (G0 a (by omega) (by omega))) ?_ h26)
        rw [ei]
        exact num_f (fc_mo (fc_0 h32 hy) (fun u hu => hu))
      have sc0 : SC (sg_M L s z) q u0 t1 := sc_0 h32 har hnu
      have nb0 := nu_b (sg_z z _) sc0.2
      have F1 : ∀ f, f ≠ 23 → f ≠ 25 → f ≠ 26 → J1 46 f = I 46 f := fun f q1 q2 q3 => (hf f q1 q2 q3).trans (F0 f q1 q2 q3)
      have G1 : ∀ a, a ≠ 46 → a ≠ 62 → J1 a = I a := fun a q1 q2 => (ha a q1 q2).trans (G0 a q1 q2)
      have hR1 : rp_M J1 s z t1 := ⟨(F1 22 (by omega) (by omega) (by omega)).trans hR.1, (F1 24 (by omega) (by omega) (by omega)).trans hR.2.1, h23⟩
      have T1_0 : J1 62 0 = nI u0 := h62
      have bd0 : 1 ≤ u0 ∧ u0 ≤ 9 := hso
      have n0 : m_num (sg_M L s z) 1 9 (q, fd, none) = (some u0, (t1, q + 1, none)) := num_s sc0 bd0
      have hBn : mg_T J1 B := mg_ce hB (fun f hf => F1 f (by omega) (by omega) (by omega)) (fun a q1 q2 => G1 a (by omega) (by omega))
      refine ri_4 oX5_item_96 ?_
      refine ri_3 oX5_item_98 ?_
      refine rr_icmp_ge (tgt := 206) oX5_item_99 (by decide) (fun _ => ?_) (fun q => absurd q (by decide))
      refine ri_2 oX5_item_206 ?_
      refine rr_tabIn (off := 80) (tgt := 287) oX5_item_207 (by decide) (by decide) (by decide) (by decide) ?_
      refine ra_0 oX5_item_287 ?_
      refine ra_0 oX5_item_288 ?_
      refine rr_gr (v := 62) oX5_item_289 (ff_X5_69 rfl) kk_46 (wd_lt W rfl) ⟨by decide, rfl⟩ (wd_r W rfl rfl) ?_
      refine rk_0 oX5_item_292 ?_
      refine rr_iv (t := 0) oX5_item_293 kk_62 (wd_lt W rfl) rfl (by omega) (by decide) T1_0 ?_
      refine rr_pi oX5_item_294 (ff_X5_13 rfl) kk_46 (wd_lt W rfl) ⟨by decide, rfl, by decide⟩ pf_5_2 ⟨rfl, rfl⟩ ?_
      refine rr_goto (tgt := 337) oX5_item_297 (by decide) ?_
      refine rk_1 oX5_item_337 ?_
      exact rr_ireturn oX5_item_338 rfl rfl (q_n_of (it_s (fun f q0 q1 q2 q3 => (up_I_at_ne (by omega)).trans (F1 f q1 q2 q3)) (fun a q => (up_I_ne (by omega)).trans (G1 a (by omega) (by omega))) (ei.trans (by show (b_wG B (g_wf (b_G B) (oI (m_num (sg_M L s z) 1 9 (q, fd, none)).1)), (m_num (sg_M L s z) 1 9 (q, fd, none)).2) = _; rw [n0]; rfl)) ((up_I_at_ne (by omega)).trans hR1.2.2) (by omega) (mg_fa hBn) (gI_wf hg)))
    · obtain rfl : v = 3 := hv
      refine rk_m1 oX5_item_49 ?_
      refine rr_icmp_ne (tgt := 55) oX5_item_50 (by decide) (fun _ => ?_) (fun q => absurd q (by decide))
      refine ri_2 oX5_item_55 ?_
      refine rr_if_ne (tgt := 74) oX5_item_56 (by decide) (fun _ => ?_) (fun q => absurd q (by decide))
      refine ri_2 oX5_item_74 ?_
      refine rr_if_ne (tgt := 82) oX5_item_75 (by decide) (fun _ => ?_) (fun q => absurd q (by decide))
      refine ri_2 oX5_item_82 ?_
      refine rk_3 oX5_item_83 ?_
      refine rr_icmp_ne (tgt := 91) oX5_item_84 (by decide) (fun q => absurd q (by decide)) (fun _ => ?_)
      refine rk_2 oX5_item_87 ?_
      refine rr_goto (tgt := 92) oX5_item_88 (by decide) ?_
      refine si_3 oX5_item_92 rfl rfl ?_
      refine rk_0 oX5_item_93 ?_
      refine si_4 oX5_item_94 rfl rfl ?_
      have f0 : ∀ f, f ≠ 23 → J0 46 f = I 46 f := fun f hf => by rw [hJ0, up_I_at_ne hf]
      have F0 : ∀ f, f ≠ 23 → f ≠ 25 → f ≠ 26 → J0 46 f = I 46 f := fun f q1 _ _ => f0 f q1
      have G0 : ∀ a, a ≠ 46 → a ≠ 62 → J0 a = I a := fun a ha _ => by rw [hJ0, up_I_ne ha]
      have hR0 : rp_M J0 s z (q + 1) := ⟨(f0 22 (by omega)).trans hR.1, (f0 24 (by omega)).trans hR.2.1, by rw [hJ0, up_I_at]⟩
      have hqz : q < z := sg_lt (sg_z z _) h32 (by decide)
      have hpq := wo_lt _ _ _ _ _ _ _ e
      have h8 : g_n (b_G B) ≤ 8 := hg.1
      have ei := ite_w (B := B) (fd := fd) e
      refine la_X5_item (L := L) (dSo := fun u => inferInstance) (So := So_3 (b_G B) (J0 62 0) 0) l W hs hz (show (q + 1) ≤ z by omega) hR0 (k := 3) (nn := 2) (i := 0) (by decide) (fun J u hu h25 hf ha => by have h := c3_X5_isSo (L := L) (i := 0) l W (mq_ce hQ (fun f hf2 => (hf f (by omega) (by omega) (by omega)).trans (F0 f (by omega) (by omega) (by omega))) (fun a q1 q2 => (ha a (by omega)).trans (G0 a (by omega) (by omega)))) hu h25 (by decide); rw [ha 62 (by omega)] at h; exact h) (by decide) (fun J y hy h26 hf ha => ?_) (fun J1 p1 u0 t1 har hnu hso h23 h62 h62o hf ha => ?_)
      · refine q_n_of (it_f (fun f q0 q1 q2 q3 => (hf f q1 q2 q3).trans (F0 f q1 q2 q3)) (fun a q => (ha a (by omega)).trans (G0 a (by omega) (by omega))) ?_ h26)
        rw [ei]
        show (m_hou (sg_M L s z) B (m_hou (sg_M L s z) B none (q, fd, none)).1 (m_hou (sg_M L s z) B none (q, fd, none)).2).2.2.2 = some y
        exact hou_k (hou_f h8 (fc_mo (fc_0 h32 hy) (fun u hu => ⟨hu.1, Or.inl rfl⟩)))
      have sc0 : SC (sg_M L s z) q u0 t1 := sc_0 h32 har hnu
      have nb0 := nu_b (sg_z z _) sc0.2
      have F1 : ∀ f, f ≠ 23 → f ≠ 25 → f ≠ 26 → J1 46 f = I 46 f := fun f q1 q2 q3 => (hf f q1 q2 q3).trans (F0 f q1 q2 q3)
      have G1 : ∀ a, a ≠ 46 → a ≠ 62 → J1 a = I a := fun a q1 q2 => (ha a q1 q2).trans (G0 a q1 q2)
      have hR1 : rp_M J1 s z t1 := ⟨(F1 22 (by omega) (by omega) (by omega)).trans hR.1, (F1 24 (by omega) (by omega) (by omega)).trans hR.2.1, h23⟩
      have T1_0 : J1 62 0 = nI u0 := h62
      have n0 : m_hou (sg_M L s z) B none (q, fd, none) = (some u0, (t1, q + 1, none)) := hou_s sc0 hso.1 h8 (by simp)
      have hs0 := hso.1
      refine la_X5_item (L := L) (dSo := fun u => inferInstance) (So := So_3 (b_G B) (J1 62 0) 1) l W hs hz (show t1 ≤ z by omega) hR1 (k := 3) (nn := 2) (i := 1) (by decide) (fun J u hu h25 hf ha => by have h := c3_X5_isSo (L := L) (i := 1) l W (mq_ce hQ (fun f hf2 => (hf f (by omega) (by omega) (by omega)).trans (F1 f (by omega) (by omega) (by omega))) (fun a q1 q2 => (ha a (by omega)).trans (G1 a (by omega) (by omega)))) hu h25 (by decide); rw [ha 62 (by omega)] at h; exact h) (by decide) (fun J y hy h26 hf ha => ?_) (fun J2 p1 u1 t2 har hnu hso h23 h62 h62o hf ha => ?_)
      · refine q_n_of (it_f (fun f q0 q1 q2 q3 => (hf f q1 q2 q3).trans (F1 f q1 q2 q3)) (fun a q => (ha a (by omega)).trans (G1 a (by omega) (by omega))) ?_ h26)
        rw [ei]
        show (m_hou (sg_M L s z) B (m_hou (sg_M L s z) B none (q, fd, none)).1 (m_hou (sg_M L s z) B none (q, fd, none)).2).2.2.2 = some y
        rw [n0]
        exact hou_f h8 (fc_mo (fc_1 (by decide) hy) (fun u hu => ⟨hu.1, Or.inr (fun z => hu.2 (by rw [T1_0] at z; rw [(nI_inj (by omega) (by omega)).mp z]))⟩))
      have sc1 : SC (sg_M L s z) t1 u1 t2 := sc_1 (by decide) har hnu
      have nb1 := nu_b (sg_z z _) sc1.2
      have F2 : ∀ f, f ≠ 23 → f ≠ 25 → f ≠ 26 → J2 46 f = I 46 f := fun f q1 q2 q3 => (hf f q1 q2 q3).trans (F1 f q1 q2 q3)
      have G2 : ∀ a, a ≠ 46 → a ≠ 62 → J2 a = I a := fun a q1 q2 => (ha a q1 q2).trans (G1 a q1 q2)
      have hR2 : rp_M J2 s z t2 := ⟨(F2 22 (by omega) (by omega) (by omega)).trans hR.1, (F2 24 (by omega) (by omega) (by omega)).trans hR.2.1, h23⟩
      have T2_0 : J2 62 0 = nI u0 := (h62o 0 (by decide)).trans T1_0
      have T2_1 : J2 62 1 = nI u1 := h62
      have hne : ¬ u1 = u0 := fun z => hso.2.elim (by decide) (fun y => y (by rw [T1_0, z]))
      have n1 : m_hou (sg_M L s z) B (some u0) (t1, q + 1, none) = (some u1, (t2, t1 + 1, none)) := hou_s sc1 hso.1 h8 (by simp [hne])
      have hs1 := hso.1
      have hBn : mg_T J2 B := mg_ce hB (fun f hf => F2 f (by omega) (by omega) (by omega)) (fun a q1 q2 => G2 a (by omega) (by omega))
      refine ri_4 oX5_item_96 ?_
      refine ri_3 oX5_item_98 ?_
      refine rr_icmp_ge (tgt := 206) oX5_item_99 (by decide) (fun _ => ?_) (fun q => absurd q (by decide))
      refine ri_2 oX5_item_206 ?_
      refine rr_tabIn (off := 93) (tgt := 300) oX5_item_207 (by decide) (by decide) (by decide) (by decide) ?_
      refine ra_0 oX5_item_300 ?_
      refine rr_gr (v := 54) oX5_item_301 (ff_X5_44 rfl) kk_46 (wd_lt W rfl) ⟨by decide, rfl⟩ (wd_r W rfl rfl) ?_
      refine ra_0 oX5_item_304 ?_
      refine rr_gr (v := 62) oX5_item_305 (ff_X5_69 rfl) kk_46 (wd_lt W rfl) ⟨by decide, rfl⟩ (wd_r W rfl rfl) ?_
      refine rk_0 oX5_item_308 ?_
      refine rr_iv (t := 0) oX5_item_309 kk_62 (wd_lt W rfl) rfl (by omega) (by decide) T2_0 ?_
      refine rr_dup2 oX5_item_310 rfl rfl ?_
      refine rr_iv (t := u0) oX5_item_311 kk_54 (wd_lt W rfl) rfl (by omega) (by decide) (hBn.2.2.1 u0 (by omega)) ?_
      refine rk_1 oX5_item_312 ?_
      refine ra_0 oX5_item_313 ?_
      refine rr_gr (v := 62) oX5_item_314 (ff_X5_69 rfl) kk_46 (wd_lt W rfl) ⟨by decide, rfl⟩ (wd_r W rfl rfl) ?_
      refine rk_1 oX5_item_317 ?_
      refine rr_iv (t := 1) oX5_item_318 kk_62 (wd_lt W rfl) rfl (by omega) (by decide) T2_1 ?_
      refine rr_ishl oX5_item_319 ?_
      refine rr_ior oX5_item_320 ?_
      rw [st_on1 (show u1 < 8 by omega)]
      refine rr_ist (t := u0) oX5_item_321 kk_54 (wd_lt W rfl) rfl (by omega) (by decide) ?_
      refine rr_goto (tgt := 337) oX5_item_322 (by decide) ?_
      refine rk_1 oX5_item_337 ?_
      exact rr_ireturn oX5_item_338 rfl rfl (q_n_of (it_s (fun f q0 q1 q2 q3 => by rw [up_I_ne (by omega)]; exact F2 f q1 q2 q3) (fun a q => (up_I_ne (by omega)).trans (G2 a (by omega) (by omega))) (ei.trans (by show (if (m_hou (sg_M L s z) B (m_hou (sg_M L s z) B none (q, fd, none)).1 (m_hou (sg_M L s z) B none (q, fd, none)).2).2.2.2 = none then b_shu B (m_hou (sg_M L s z) B none (q, fd, none)).1 (m_hou (sg_M L s z) B (m_hou (sg_M L s z) B none (q, fd, none)).1 (m_hou (sg_M L s z) B none (q, fd, none)).2).1 else B, (m_hou (sg_M L s z) B (m_hou (sg_M L s z) B none (q, fd, none)).1 (m_hou (sg_M L s z) B none (q, fd, none)).2).2) = _; rw [n0]; simp only []; rw [n1, if_pos rfl, ← shu_e])) (by rw [up_I_ne (by omega)]; exact hR2.2.2) (by omega) (mg_sh1 hBn) (gI_sh hg (fun j i hj => by
          unfold up_2 at hj
          split at hj
          · next h => rw [h.1, h.2]; exact ⟨hs1, hs0⟩
          · exact hg.2.2.2.2.1 j i hj))))
    · obtain rfl : v = 4 := hv
      refine rk_m1 oX5_item_49 ?_
      refine rr_icmp_ne (tgt := 55) oX5_item_50 (by decide) (fun _ => ?_) (fun q => absurd q (by decide))
      refine ri_2 oX5_item_55 ?_
      refine rr_if_ne (tgt := 74) oX5_item_56 (by decide) (fun _ => ?_) (fun q => absurd q (by decide))
      refine ri_2 oX5_item_74 ?_
      refine rr_if_ne (tgt := 82) oX5_item_75 (by decide) (fun _ => ?_) (fun q => absurd q (by decide))
      refine ri_2 oX5_item_82 ?_
      refine rk_3 oX5_item_83 ?_
      refine rr_icmp_ne (tgt := 91) oX5_item_84 (by decide) (fun _ => ?_) (fun q => absurd q (by decide))
      refine rk_1 oX5_item_91 ?_
      refine si_3 oX5_item_92 rfl rfl ?_
      refine rk_0 oX5_item_93 ?_
      refine si_4 oX5_item_94 rfl rfl ?_
      have f0 : ∀ f, f ≠ 23 → J0 46 f = I 46 f := fun f hf => by rw [hJ0, up_I_at_ne hf]
      have F0 : ∀ f, f ≠ 23 → f ≠ 25 → f ≠ 26 → J0 46 f = I 46 f := fun f q1 _ _ => f0 f q1
      have G0 : ∀ a, a ≠ 46 → a ≠ 62 → J0 a = I a := fun a ha _ => by rw [hJ0, up_I_ne ha]
      have hR0 : rp_M J0 s z (q + 1) := ⟨(f0 22 (by omega)).trans hR.1, (f0 24 (by omega)).trans hR.2.1, by rw [hJ0, up_I_at]⟩
      have hqz : q < z := sg_lt (sg_z z _) h32 (by decide)
      have hpq := wo_lt _ _ _ _ _ _ _ e
      have h8 : g_n (b_G B) ≤ 8 := hg.1
      have ei := ite_w (B := B) (fd := fd) e
      refine la_X5_item (L := L) (dSo := fun u => inferInstance) (So := So_3 (b_G B) (J0 62 0) 0) l W hs hz (show (q + 1) ≤ z by omega) hR0 (k := 4) (nn := 1) (i := 0) (by decide) (fun J u hu h25 hf ha => by have h := c4_X5_isSo (L := L) (i := 0) l W (mq_ce hQ (fun f hf2 => (hf f (by omega) (by omega) (by omega)).trans (F0 f (by omega) (by omega) (by omega))) (fun a q1 q2 => (ha a (by omega)).trans (G0 a (by omega) (by omega)))) hu h25 (by decide); rw [ha 62 (by omega)] at h; exact h) (by decide) (fun J y hy h26 hf ha => ?_) (fun J1 p1 u0 t1 har hnu hso h23 h62 h62o hf ha => ?_)
      · refine q_n_of (it_f (fun f q0 q1 q2 q3 => (hf f q1 q2 q3).trans (F0 f q1 q2 q3)) (fun a q => (ha a (by omega)).trans (G0 a (by omega) (by omega))) ?_ h26)
        rw [ei]
        show (m_hou (sg_M L s z) B none (q, fd, none)).2.2.2 = some y
        exact hou_f h8 (fc_mo (fc_0 h32 hy) (fun u hu => ⟨hu.1, Or.inl rfl⟩))
      have sc0 : SC (sg_M L s z) q u0 t1 := sc_0 h32 har hnu
      have nb0 := nu_b (sg_z z _) sc0.2
      have F1 : ∀ f, f ≠ 23 → f ≠ 25 → f ≠ 26 → J1 46 f = I 46 f := fun f q1 q2 q3 => (hf f q1 q2 q3).trans (F0 f q1 q2 q3)
      have G1 : ∀ a, a ≠ 46 → a ≠ 62 → J1 a = I a := fun a q1 q2 => (ha a q1 q2).trans (G0 a q1 q2)
      have hR1 : rp_M J1 s z t1 := ⟨(F1 22 (by omega) (by omega) (by omega)).trans hR.1, (F1 24 (by omega) (by omega) (by omega)).trans hR.2.1, h23⟩
      have T1_0 : J1 62 0 = nI u0 := h62
      have n0 : m_hou (sg_M L s z) B none (q, fd, none) = (some u0, (t1, q + 1, none)) := hou_s sc0 hso.1 h8 (by simp)
      have hs0 := hso.1
      have hBn : mg_T J1 B := mg_ce hB (fun f hf => F1 f (by omega) (by omega) (by omega)) (fun a q1 q2 => G1 a (by omega) (by omega))
      refine ri_4 oX5_item_96 ?_
      refine ri_3 oX5_item_98 ?_
      refine rr_icmp_ge (tgt := 206) oX5_item_99 (by decide) (fun _ => ?_) (fun q => absurd q (by decide))
      refine ri_2 oX5_item_206 ?_
      refine rr_tabOut (tgt := 325) oX5_item_207 (by decide) (by decide) ?_
      refine ra_0 oX5_item_325 ?_
      refine rr_gr (v := 53) oX5_item_326 (ff_X5_41 rfl) kk_46 (wd_lt W rfl) ⟨by decide, rfl⟩ (wd_r W rfl rfl) ?_
      refine ra_0 oX5_item_329 ?_
      refine rr_gr (v := 62) oX5_item_330 (ff_X5_69 rfl) kk_46 (wd_lt W rfl) ⟨by decide, rfl⟩ (wd_r W rfl rfl) ?_
      refine rk_0 oX5_item_333 ?_
      refine rr_iv (t := 0) oX5_item_334 kk_62 (wd_lt W rfl) rfl (by omega) (by decide) T1_0 ?_
      refine rk_1 oX5_item_335 ?_
      refine rr_ist (t := u0) oX5_item_336 kk_53 (wd_lt W rfl) rfl (by omega) (by decide) ?_
      refine rk_1 oX5_item_337 ?_
      exact rr_ireturn oX5_item_338 rfl rfl (q_n_of (it_s (fun f q0 q1 q2 q3 => by rw [up_I_ne (by omega)]; exact F1 f q1 q2 q3) (fun a q => (up_I_ne (by omega)).trans (G1 a (by omega) (by omega))) (ei.trans (by show (if (m_hou (sg_M L s z) B none (q, fd, none)).2.2.2 = none then b_drw B (m_hou (sg_M L s z) B none (q, fd, none)).1 else B, (m_hou (sg_M L s z) B none (q, fd, none)).2) = _; rw [n0, if_pos rfl, ← drw_e])) (by rw [up_I_ne (by omega)]; exact hR1.2.2) (by omega) (mg_dr1 (w := true) hBn rfl) (gI_dr hg (fun t ht => by
          unfold up_1 at ht
          split at ht
          · next h => rw [h]; exact hs0
          · exact hg.2.2.2.1 t ht))))
  · obtain rfl : v = -1 := hv
    refine ri_2 oX5_item_48 ?_
    refine rk_m1 oX5_item_49 ?_
    refine rr_icmp_ne (tgt := 55) oX5_item_50 (by decide) (fun c50 => ?_) (fun c50 => ?_)
    · exact absurd rfl c50
    refine rk_0 oX5_item_53 ?_
    exact rr_ireturn oX5_item_54 rfl rfl (q_n_of (it_f (fun f q0 q1 q2 q3 => by rw [hJ0, up_I_at_ne q3]) (fun a hh => by rw [hJ0, up_I_ne (by omega)]) (by
          cases oo with
          | none => exact ite_n e
          | some w =>
            have hw := wo_lt _ _ _ _ _ _ _ e
            exact ite_sp (by omega) (fun z => hnf ⟨by rw [← z.1]; exact hw.2.2.2, by have := hg.1; omega⟩) e (ho w rfl)) (by rw [hJ0, up_I_at])))
