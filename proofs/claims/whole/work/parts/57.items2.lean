/-! items as functions; what an item keeps (by program: wip/whole/c57.py) -/
def FC (sg : Nat → Int32) (pp y : Nat) (So : Nat → Prop) : Prop := (¬ sg pp = 32 ∧ y = pp) ∨ (sg pp = 32 ∧ y = pp + 1 ∧ (nu_ok sg (pp + 1) = none ∨ ∃ u q, nu_ok sg (pp + 1) = some (u, q) ∧ ¬ So u))
theorem fc_0 {sg : Nat → Int32} {q y : Nat} {So : Nat → Prop} (h32 : sg q = 32) (h : (ar_N sg 0 (q + 1) = none ∧ y = q + 1) ∨ ∃ p1, ar_N sg 0 (q + 1) = some p1 ∧ y = p1 ∧ (nu_ok sg p1 = none ∨ ∃ u q, nu_ok sg p1 = some (u, q) ∧ ¬ So u)) : FC sg q y So := by
  rcases h with ⟨h, _⟩ | ⟨p1, h1, h2, h3⟩
  · rw [ar_N, if_pos rfl] at h; cases h
  · rw [ar_N, if_pos rfl] at h1; cases h1
    exact Or.inr ⟨h32, h2, h3⟩
theorem fc_1 {sg : Nat → Int32} {i p y : Nat} {So : Nat → Prop} (hi : ¬ i = 0) (h : (ar_N sg i p = none ∧ y = p) ∨ ∃ p1, ar_N sg i p = some p1 ∧ y = p1 ∧ (nu_ok sg p1 = none ∨ ∃ u q, nu_ok sg p1 = some (u, q) ∧ ¬ So u)) : FC sg p y So := by
  rcases h with ⟨h, e⟩ | ⟨p1, h1, h2, h3⟩
  · rw [ar_N, if_neg hi] at h
    split at h
    · cases h
    · next q => exact Or.inl ⟨q, e⟩
  · rw [ar_N, if_neg hi] at h1
    split at h1
    · next q => cases h1; exact Or.inr ⟨q, h2, h3⟩
    · cases h1
theorem fc_mo {sg : Nat → Int32} {pp y : Nat} {So S2 : Nat → Prop} (h : FC sg pp y So) (hm : ∀ u, S2 u → So u) : FC sg pp y S2 := by
  rcases h with h | ⟨h1, h2, h3⟩
  · exact Or.inl h
  · exact Or.inr ⟨h1, h2, h3.elim Or.inl (fun ⟨u, q, h4, h5⟩ => Or.inr ⟨u, q, h4, fun z => h5 (hm u z)⟩)⟩
def SC (sg : Nat → Int32) (pp u q : Nat) : Prop := sg pp = 32 ∧ nu_ok sg (pp + 1) = some (u, q)
theorem sc_0 {sg : Nat → Int32} {q p1 u q2 : Nat} (h32 : sg q = 32) (h : ar_N sg 0 (q + 1) = some p1) (hn : nu_ok sg p1 = some (u, q2)) : SC sg q u q2 := by
  rw [ar_N, if_pos rfl] at h; cases h
  exact ⟨h32, hn⟩
theorem sc_1 {sg : Nat → Int32} {i p p1 u q2 : Nat} (hi : ¬ i = 0) (h : ar_N sg i p = some p1) (hn : nu_ok sg p1 = some (u, q2)) : SC sg p u q2 := by
  rw [ar_N, if_neg hi] at h
  split at h
  · next q => cases h; exact ⟨q, hn⟩
  · cases h
theorem num_s {sg : Nat → Int32} {lo hi pp fd u q : Nat} (h : SC sg pp u q) (hb : lo ≤ u ∧ u ≤ hi) : m_num sg lo hi (pp, fd, none) = (some u, (q, pp + 1, none)) := by
  obtain ⟨h32, hn⟩ := h
  unfold m_num m_sgn
  simp only []
  rw [if_pos h32]
  unfold m_nu2
  simp only []
  unfold nu_ok at hn
  cases d1 : s_dg sg (pp + 1) with
  | none => rw [d1] at hn; cases hn
  | some a =>
    rw [d1] at hn
    simp only [] at hn ⊢
    cases d2 : s_dg sg (pp + 1 + 1) with
    | none =>
      rw [d2] at hn
      simp only [Option.some.injEq, Prod.mk.injEq] at hn
      obtain ⟨rfl, rfl⟩ := hn
      simp only []
      rw [if_neg (by omega)]
    | some b =>
      rw [d2] at hn
      simp only [Option.some.injEq, Prod.mk.injEq] at hn
      obtain ⟨rfl, rfl⟩ := hn
      simp only []
      rw [if_neg (by omega)]
theorem sgn_k {sg : Nat → Int32} {c : Int32} {s : rs_T} {y : Nat} (h : s.2.2 = some y) : (m_sgn sg c s).2.2 = some y := by
  unfold m_sgn
  split
  · exact h
  · show or_F s.2.2 s.1 = some y
    rw [h]; rfl
theorem nu2_k {sg : Nat → Int32} {lo hi : Nat} {s : rs_T} {y : Nat} (h : s.2.2 = some y) : (m_nu2 sg lo hi s).2.2.2 = some y := by
  have ho : ∀ x, or_F s.2.2 x = some y := fun x => by rw [h]; rfl
  unfold m_nu2
  cases d1 : s_dg sg s.1 with
  | none => exact ho _
  | some a =>
    simp only []
    cases d2 : s_dg sg (s.1 + 1) with
    | none => simp only []; split; exact ho _; exact h
    | some b => simp only []; split; exact ho _; exact h
theorem num_k {sg : Nat → Int32} {lo hi : Nat} {s : rs_T} {y : Nat} (h : s.2.2 = some y) : (m_num sg lo hi s).2.2.2 = some y := nu2_k (sgn_k h)
theorem num_f {sg : Nat → Int32} {lo hi pp fd y : Nat} (h : FC sg pp y (fun u => lo ≤ u ∧ u ≤ hi)) : (m_num sg lo hi (pp, fd, none)).2.2.2 = some y := by
  rcases h with ⟨h, rfl⟩ | ⟨h32, rfl, h⟩
  · refine nu2_k ?_
    unfold m_sgn
    rw [if_neg h]
    rfl
  · unfold m_num m_sgn
    simp only []
    rw [if_pos h32]
    unfold m_nu2
    simp only []
    unfold nu_ok at h
    cases d1 : s_dg sg (pp + 1) with
    | none => rfl
    | some a =>
      rw [d1] at h
      simp only [] at h ⊢
      cases d2 : s_dg sg (pp + 1 + 1) with
      | none =>
        rw [d2] at h
        rcases h with h | ⟨u, q, h1, h2⟩
        · cases h
        · simp only [Option.some.injEq, Prod.mk.injEq] at h1 ⊢
          rw [if_pos (by omega)]
          rfl
      | some b =>
        rw [d2] at h
        rcases h with h | ⟨u, q, h1, h2⟩
        · cases h
        · simp only [Option.some.injEq, Prod.mk.injEq] at h1 ⊢
          rw [if_pos (by omega)]
          rfl
theorem s3_k {c : Prop} [Decidable c] {s : rs_T} {y : Nat} (h : s.2.2 = some y) : (if c then s else (s.1, s.2.1, or_F s.2.2 s.2.1)).2.2 = some y := by
  split
  · exact h
  · show or_F s.2.2 s.2.1 = some y
    rw [h]; rfl
section
variable {sg : Nat → Int32} {B : gb_T} {s s1 s2 s3 s4 : rs_T} {u0 u1 u2 u3 u4 y : Nat}
theorem th5_f0 (h : (m_num sg 0 6 s).2.2.2 = some y) : (m_th5 sg B s).2.2.2 = some y := by
  simp only [m_th5]
  exact num_k (num_k (s3_k (num_k (num_k h))))
theorem th5_f1 (hk : m_num sg 0 6 s = (some u0, s1)) (h : (m_num sg 0 9 s1).2.2.2 = some y) : (m_th5 sg B s).2.2.2 = some y := by
  simp only [m_th5, hk]
  exact num_k (num_k (s3_k (num_k h)))
theorem th5_f2 (hk : m_num sg 0 6 s = (some u0, s1)) (hx : m_num sg 0 9 s1 = (some u1, s2)) (h : (m_num sg 0 9 s2).2.2.2 = some y) : (m_th5 sg B s).2.2.2 = some y := by
  simp only [m_th5, hk, hx]
  exact num_k (num_k (s3_k h))
theorem th5_fa (hk : m_num sg 0 6 s = (some u0, s1)) (hx : m_num sg 0 9 s1 = (some u1, s2)) {q : Nat} (hy : m_num sg 0 9 s2 = (some u2, (q, y, none))) (hat : ¬ s_at (b_G B) (nI u1) (nI u2) = none) : (m_th5 sg B s).2.2.2 = some y := by
  simp only [m_th5, hk, hx, hy]
  rw [if_neg (show ¬ s_at (b_G B) (oI (some u1)) (oI (some u2)) = none from hat)]
  exact num_k (num_k rfl)
theorem th5_f3 (hk : m_num sg 0 6 s = (some u0, s1)) (hx : m_num sg 0 9 s1 = (some u1, s2)) (hy : m_num sg 0 9 s2 = (some u2, s3)) (hat : s_at (b_G B) (nI u1) (nI u2) = none) (h : (m_num sg 0 20 s3).2.2.2 = some y) : (m_th5 sg B s).2.2.2 = some y := by
  simp only [m_th5, hk, hx, hy]
  rw [if_pos (show s_at (b_G B) (oI (some u1)) (oI (some u2)) = none from hat)]
  exact num_k h
theorem th5_f4 (hk : m_num sg 0 6 s = (some u0, s1)) (hx : m_num sg 0 9 s1 = (some u1, s2)) (hy : m_num sg 0 9 s2 = (some u2, s3)) (hat : s_at (b_G B) (nI u1) (nI u2) = none) (hh : m_num sg 0 20 s3 = (some u3, s4)) (h : (m_num sg 0 9 s4).2.2.2 = some y) : (m_th5 sg B s).2.2.2 = some y := by
  simp only [m_th5, hk, hx, hy]
  rw [if_pos (show s_at (b_G B) (oI (some u1)) (oI (some u2)) = none from hat), hh]
  exact h
theorem th5_ok (hk : m_num sg 0 6 s = (some u0, s1)) (hx : m_num sg 0 9 s1 = (some u1, s2)) (hy : m_num sg 0 9 s2 = (some u2, s3)) (hat : s_at (b_G B) (nI u1) (nI u2) = none) (hh : m_num sg 0 20 s3 = (some u3, s4)) {q fd : Nat} (h : m_num sg 0 9 s4 = (some u4, (q, fd, none))) : m_th5 sg B s = (b_wG B (g_add (b_G B) (nI u0) (nI u1) (nI u2) (nI u3) (nI u4)), (q, fd, none)) := by
  simp only [m_th5, hk, hx, hy]
  rw [if_pos (show s_at (b_G B) (oI (some u1)) (oI (some u2)) = none from hat), hh]
  simp only [h]
  rfl
theorem hou_k {un : Option Nat} (h : s.2.2 = some y) : (m_hou sg B un s).2.2.2 = some y := by
  unfold m_hou
  split
  · exact num_k h
  · show or_F (m_num sg 0 7 s).2.2.2 _ = some y
    rw [num_k h]; rfl
theorem hou_s {un : Option Nat} {pp fd u q : Nat} (h : SC sg pp u q) (hn : u < g_n (b_G B) ∧ is_H (g_k (b_G B) u)) (h8 : g_n (b_G B) ≤ 8) (hun : ¬ some u = un) : m_hou sg B un (pp, fd, none) = (some u, (q, pp + 1, none)) := by
  have e := num_s (lo := 0) (hi := 7) (fd := fd) h ⟨Nat.zero_le _, by omega⟩
  unfold m_hou
  rw [e, if_pos ⟨by simp only [hs_B, hn.1, hn.2, decide_true, Bool.and_self], hun⟩]
theorem hou_f {un : Option Nat} {pp fd : Nat} (h8 : g_n (b_G B) ≤ 8) (h : FC sg pp y (fun u => (u < g_n (b_G B) ∧ is_H (g_k (b_G B) u)) ∧ ¬ some u = un)) : (m_hou sg B un (pp, fd, none)).2.2.2 = some y := by
  by_cases h7 : FC sg pp y (fun u => 0 ≤ u ∧ u ≤ 7)
  · have := num_f (fd := fd) h7
    unfold m_hou
    split
    · exact this
    · show or_F (m_num sg 0 7 (pp, fd, none)).2.2.2 _ = some y
      rw [this]; rfl
  · rcases h with h | ⟨h32, rfl, h⟩
    · exact absurd (Or.inl h) h7
    · rcases h with h | ⟨u, q, h1, h2⟩
      · exact absurd (Or.inr ⟨h32, rfl, Or.inl h⟩) h7
      · have hu : u ≤ 7 := by
          apply Classical.byContradiction
          intro hu
          exact h7 (Or.inr ⟨h32, rfl, Or.inr ⟨u, q, h1, fun z => hu z.2⟩⟩)
        have e := num_s (lo := 0) (hi := 7) (fd := fd) (show SC sg pp u q from ⟨h32, h1⟩) ⟨Nat.zero_le _, hu⟩
        unfold m_hou
        rw [e, if_neg (fun z => h2 ⟨by
          have z1 := z.1
          simp only [hs_B, Bool.and_eq_true, decide_eq_true_eq] at z1
          exact z1, z.2⟩)]
        rfl
end
theorem ite_w {sg : Nat → Int32} {B : gb_T} {p fd w q : Nat} (e : wo_N sg p 5 0 0 = (some w, q)) : m_ite sg B (p, fd, none) = m_it2 sg B p w (q, fd, none) := by
  unfold m_ite
  simp only [e]
theorem ite_n {sg : Nat → Int32} {B : gb_T} {p fd q : Nat} (e : wo_N sg p 5 0 0 = (none, q)) : (m_ite sg B (p, fd, none)).2.2.2 = some q := by
  unfold m_ite
  simp only [e]
  rfl
/-- a word without its space -/
theorem ite_sp {sg : Nat → Int32} {B : gb_T} {p fd w q : Nat} (hw : w < 5) (h8 : ¬ (w = 0 ∧ 8 ≤ g_n (b_G B))) (e : wo_N sg p 5 0 0 = (some w, q)) (hs : ¬ sg q = 32) : (m_ite sg B (p, fd, none)).2.2.2 = some q := by
  rw [ite_w e]
  have hf : ∀ So, FC sg q q So := fun So => Or.inl ⟨hs, rfl⟩
  rcases (show w = 0 ∨ w = 1 ∨ w = 2 ∨ w = 3 ∨ w = 4 by omega) with rfl | rfl | rfl | rfl | rfl
  · show (m_thi sg B p (q, fd, none)).2.2.2 = some q
    rw [m_thi, if_neg (by omega)]
    exact th5_f0 (num_f (hf _))
  · exact num_f (hf _)
  · exact num_f (hf _)
  · show (m_hou sg B (m_hou sg B none (q, fd, none)).1 (m_hou sg B none (q, fd, none)).2).2.2.2 = some q
    refine hou_k ?_
    have e1 : (m_num sg 0 7 (q, fd, none)).2.2.2 = some q := num_f (hf _)
    unfold m_hou
    split
    · exact e1
    · show or_F (m_num sg 0 7 (q, fd, none)).2.2.2 _ = some q
      rw [e1]; rfl
  · show (m_hou sg B none (q, fd, none)).2.2.2 = some q
    have e1 : (m_num sg 0 7 (q, fd, none)).2.2.2 = some q := num_f (hf _)
    unfold m_hou
    split
    · exact e1
    · show or_F (m_num sg 0 7 (q, fd, none)).2.2.2 _ = some q
      rw [e1]; rfl
theorem ite_full {sg : Nat → Int32} {B : gb_T} {p fd : Nat} (h : s_sl sg 0 p = ln_N 0) (h8 : 8 ≤ g_n (b_G B)) : (m_ite sg B (p, fd, none)).2.2.2 = some p := by
  have e : wo_N sg p 5 0 0 = (some 0, p + s_sl sg 0 p) := by
    show (if s_sl sg 0 p = ln_N 0 then (some 0, p + s_sl sg 0 p) else _) = _
    rw [if_pos h]
  rw [ite_w e]
  show (m_thi sg B p (p + s_sl sg 0 p, fd, none)).2.2.2 = some p
  rw [m_thi, if_pos h8]
  rfl
/-! what must hold of a ground is kept -/
theorem gI_add {B : gb_T} (h : gI_T B) (h7 : g_n (b_G B) < 8) {u0 u1 u2 u3 u4 : Nat} (b0 : u0 ≤ 6) (b1 : u1 ≤ 9) (b2 : u2 ≤ 9) (b3 : u3 ≤ 20) (b4 : u4 ≤ 9) : gI_T (b_wG B (g_add (b_G B) (nI u0) (nI u1) (nI u2) (nI u3) (nI u4))) := by
  obtain ⟨g1, g2, g3, g4, g5, g6, g7, g8⟩ := h
  have ek : ∀ t, t < g_n (b_G B) → g_k (g_add (b_G B) (nI u0) (nI u1) (nI u2) (nI u3) (nI u4)) t = g_k (b_G B) t := fun t ht => by show upd _ _ _ t = _; simp only [upd]; exact if_neg (by omega)
  refine ⟨h7, hr_add g2 (by omega) (by omega) (by omega), fun t ht hh => ?_, fun t ht => ?_, fun j i hj => ?_, fun t ht => ?_, g7, fun t ht => ?_⟩
  · have ht2 : t < g_n (b_G B) + 1 := ht
    by_cases q : t = g_n (b_G B)
    · exact ⟨u3, b3, by show upd _ _ _ t = _; simp only [upd]; exact if_pos q⟩
    · obtain ⟨x, x1, x2⟩ := g3 t (by omega) (by rw [← ek t (by omega)]; exact hh)
      exact ⟨x, x1, by show upd _ _ _ t = _; simp only [upd]; rw [if_neg q]; exact x2⟩
  · have := g4 t ht
    exact ⟨Nat.lt_succ_of_lt this.1, by show is_H (g_k (g_add _ _ _ _ _ _) t); rw [ek t this.1]; exact this.2⟩
  · have := g5 j i hj
    exact ⟨⟨Nat.lt_succ_of_lt this.1.1, by show is_H (g_k (g_add _ _ _ _ _ _) j); rw [ek j this.1.1]; exact this.1.2⟩, Nat.lt_succ_of_lt this.2.1, by show is_H (g_k (g_add _ _ _ _ _ _) i); rw [ek i this.2.1]; exact this.2.2⟩
  · have ht2 : t < g_n (b_G B) + 1 := ht
    have kk : ∀ u, u ≤ 6 → 0 ≤ nI u ∧ nI u ≤ 6 := by
      have : ∀ u, u < 7 → 0 ≤ nI u ∧ nI u ≤ 6 := by decide +kernel
      exact fun u hu => this u (by omega)
    by_cases q : t = g_n (b_G B)
    · show 0 ≤ upd (g_k (b_G B)) (g_n (b_G B)) (nI u0) t ∧ upd (g_k (b_G B)) (g_n (b_G B)) (nI u0) t ≤ 6
      simp only [upd, if_pos q]
      exact kk u0 b0
    · show 0 ≤ g_k (g_add (b_G B) (nI u0) (nI u1) (nI u2) (nI u3) (nI u4)) t ∧ g_k (g_add (b_G B) (nI u0) (nI u1) (nI u2) (nI u3) (nI u4)) t ≤ 6
      rw [ek t (by omega)]
      exact g6 t (by omega)
  · have ht2 : t < g_n (b_G B) + 1 := ht
    by_cases q : t = g_n (b_G B)
    · exact ⟨u3, u4, u1, u2, b3, by omega, by omega, by omega, by show upd _ _ _ t = _; simp only [upd]; exact if_pos q, by show upd _ _ _ t = _; simp only [upd]; exact if_pos q, by show upd _ _ _ t = _; simp only [upd]; exact if_pos q, by show upd _ _ _ t = _; simp only [upd]; exact if_pos q⟩
    · obtain ⟨x, a, u, v, x1, x2, x3, x4, x5, x6, x7, x8⟩ := g8 t (by omega)
      have hh : ∀ (f : Nat → Int32) w, upd f (g_n (b_G B)) w t = f t := fun f w => by simp only [upd]; exact if_neg q
      exact ⟨x, a, u, v, x1, x2, x3, x4, (hh _ _).trans x5, (hh _ _).trans x6, (hh _ _).trans x7, (hh _ _).trans x8⟩
theorem gI_ws {B : gb_T} (h : gI_T B) {v : Int32} (hv : v = 0 ∨ v = 1) : gI_T (b_wG B (g_ws (b_G B) v)) := by
  obtain ⟨g1, g2, g3, g4, g5, g6, g7, g8⟩ := h
  exact ⟨g1, g2, g3, g4, g5, g6, hv, g8⟩
theorem gI_wf {B : gb_T} (h : gI_T B) {v : Int32} : gI_T (b_wG B (g_wf (b_G B) v)) := by
  obtain ⟨g1, g2, g3, g4, g5, g6, g7, g8⟩ := h
  exact ⟨g1, g2, g3, g4, g5, g6, g7, g8⟩
theorem gI_dr {B : gb_T} (h : gI_T B) {dr : Nat → Bool} (hd : ∀ t, dr t = true → t < g_n (b_G B) ∧ is_H (g_k (b_G B) t)) : gI_T (b_wd B dr) := by
  obtain ⟨g1, g2, g3, g4, g5, g6, g7, g8⟩ := h
  exact ⟨g1, g2, g3, hd, g5, g6, g7, g8⟩
theorem gI_sh {B : gb_T} (h : gI_T B) {sh : Nat → Nat → Bool} (hd : ∀ j i, sh j i = true → (j < g_n (b_G B) ∧ is_H (g_k (b_G B) j)) ∧ (i < g_n (b_G B) ∧ is_H (g_k (b_G B) i))) : gI_T (b_ws B sh) := by
  obtain ⟨g1, g2, g3, g4, g5, g6, g7, g8⟩ := h
  exact ⟨g1, g2, g3, g4, hd, g6, g7, g8⟩
