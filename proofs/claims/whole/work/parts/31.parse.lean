/-! what the reader does, as a function: place, first digit, fault; the ground told so far -/
abbrev rs_T : Type := Nat × Nat × Option Nat
def s_sg (z : Nat) (e : Nat → Int64) (p : Nat) : Int32 := if p < z then (e p).toInt32 else -1
theorem sg_c {z : Nat} {e e2 : Nat → Int64} (h : ∀ p, p < z → e p = e2 p) : s_sg z e = s_sg z e2 := by
  funext p
  unfold s_sg
  split
  · rw [h p ‹_›]
  · rfl
theorem sg_z (z : Nat) (e : Nat → Int64) : ∀ p, z ≤ p → s_sg z e p = -1 := fun p h => if_neg (by omega)
def or_F : Option Nat → Nat → Option Nat
  | some y, _ => some y
  | none, x => some x
theorem or_none {f : Option Nat} {x : Nat} (h : or_F f x = none) : False := by
  cases f <;> cases h
def sl_N (sg : Nat → Int32) (w p : Nat) : Nat → Nat → Nat
  | 0, i => i
  | m + 1, i => if sg (p + i) = s_ch w i then sl_N sg w p m (i + 1) else i
abbrev s_sl (sg : Nat → Int32) (w p : Nat) : Nat := sl_N sg w p (ln_N w) 0
def wo_N (sg : Nat → Int32) (p : Nat) : Nat → Nat → Nat → Option Nat × Nat
  | 0, _, mo => (none, p + mo)
  | m + 1, w, mo => if s_sl sg w p = ln_N w then (some w, p + s_sl sg w p) else wo_N sg p m (w + 1) (max mo (s_sl sg w p))
def s_dg (sg : Nat → Int32) (p : Nat) : Option Nat := if 48 ≤ sg p ∧ sg p ≤ 57 then some (sg p - 48).toNatClampNeg else none
def m_sgn (sg : Nat → Int32) (c : Int32) (s : rs_T) : rs_T := if sg s.1 = c then (s.1 + 1, s.2.1, s.2.2) else (s.1, s.2.1, or_F s.2.2 s.1)
def m_nu2 (sg : Nat → Int32) (lo hi : Nat) (s : rs_T) : Option Nat × rs_T :=
  match s_dg sg s.1 with
  | none => (none, (s.1, s.1, or_F s.2.2 s.1))
  | some a => match s_dg sg (s.1 + 1) with
    | none => (some a, (s.1 + 1, s.1, if a < lo ∨ hi < a then or_F s.2.2 s.1 else s.2.2))
    | some b => (some (a * 10 + b), (s.1 + 2, s.1, if a * 10 + b < lo ∨ hi < a * 10 + b then or_F s.2.2 s.1 else s.2.2))
def m_num (sg : Nat → Int32) (lo hi : Nat) (s : rs_T) : Option Nat × rs_T := m_nu2 sg lo hi (m_sgn sg 32 s)
def hs_B (B : gb_T) (v : Option Nat) : Bool := match v with
  | none => false
  | some t => decide (t < g_n (b_G B)) && decide (is_H (g_k (b_G B) t))
def m_hou (sg : Nat → Int32) (B : gb_T) (un : Option Nat) (s : rs_T) : Option Nat × rs_T :=
  if hs_B B (m_num sg 0 7 s).1 = true ∧ ¬ (m_num sg 0 7 s).1 = un then m_num sg 0 7 s else ((m_num sg 0 7 s).1, ((m_num sg 0 7 s).2.1, (m_num sg 0 7 s).2.2.1, or_F (m_num sg 0 7 s).2.2.2 (m_num sg 0 7 s).2.2.1))
def g_wf2 (G : gr_T) (v : Int32) : gr_T := g_wf G v
def m_th5 (sg : Nat → Int32) (B : gb_T) (s : rs_T) : gb_T × rs_T :=
  let k := m_num sg 0 6 s
  let x := m_num sg 0 9 k.2
  let y := m_num sg 0 9 x.2
  let s3 : rs_T := if s_at (b_G B) (oI x.1) (oI y.1) = none then y.2 else (y.2.1, y.2.2.1, or_F y.2.2.2 y.2.2.1)
  let h := m_num sg 0 20 s3
  let a := m_num sg 0 9 h.2
  (if a.2.2.2 = none then b_wG B (g_add (b_G B) (oI k.1) (oI x.1) (oI y.1) (oI h.1) (oI a.1)) else B, a.2)
def m_thi (sg : Nat → Int32) (B : gb_T) (wp : Nat) (s : rs_T) : gb_T × rs_T := if 8 ≤ g_n (b_G B) then (B, (s.1, s.2.1, or_F s.2.2 wp)) else m_th5 sg B s
def b_shu (B : gb_T) (i j : Option Nat) : gb_T := b_ws B (fun u w => b_sh B u w || (some u == j && some w == i))
def b_drw (B : gb_T) (i : Option Nat) : gb_T := b_wd B (fun w => b_dr B w || some w == i)
def m_it2 (sg : Nat → Int32) (B : gb_T) (wp : Nat) (w : Nat) (s : rs_T) : gb_T × rs_T :=
  match w with
  | 0 => m_thi sg B wp s
  | 1 => (b_wG B (g_ws (b_G B) (oI (m_num sg 0 1 s).1)), (m_num sg 0 1 s).2)
  | 2 => (b_wG B (g_wf (b_G B) (oI (m_num sg 1 9 s).1)), (m_num sg 1 9 s).2)
  | 3 => (if (m_hou sg B (m_hou sg B none s).1 (m_hou sg B none s).2).2.2.2 = none then b_shu B (m_hou sg B none s).1 (m_hou sg B (m_hou sg B none s).1 (m_hou sg B none s).2).1 else B, (m_hou sg B (m_hou sg B none s).1 (m_hou sg B none s).2).2)
  | _ => (if (m_hou sg B none s).2.2.2 = none then b_drw B (m_hou sg B none s).1 else B, (m_hou sg B none s).2)
def m_ite (sg : Nat → Int32) (B : gb_T) (s : rs_T) : gb_T × rs_T :=
  match wo_N sg s.1 5 0 0 with
  | (none, q) => (B, (s.1, s.2.1, or_F s.2.2 q))
  | (some w, p) => m_it2 sg B s.1 w (p, s.2.1, s.2.2)
def m_its (z : Nat) (sg : Nat → Int32) : Nat → Nat → gb_T → rs_T → Option Nat × gb_T × rs_T
  | 0, _, B, s => (none, B, s)
  | m + 1, it, B, s => if (m_ite sg B s).2.2.2 = none ∧ z ≤ (m_ite sg B s).2.1 then (some it, m_ite sg B s)
    else if (m_sgn sg 59 (m_ite sg B s).2).2.2 = none then m_its z sg m (it + 1) (m_ite sg B s).1 (m_sgn sg 59 (m_ite sg B s).2)
    else (none, (m_ite sg B s).1, m_sgn sg 59 (m_ite sg B s).2)
/-! bounds -/
def rb_T (z : Nat) (s : rs_T) : Prop := s.1 ≤ z ∧ s.2.1 ≤ z ∧ ∀ x, s.2.2 = some x → x ≤ z + 8
def sg_T2 (z : Nat) (sg : Nat → Int32) : Prop := ∀ p, z ≤ p → sg p = -1
theorem sg_lt {z : Nat} {sg : Nat → Int32} (hs : sg_T2 z sg) {p : Nat} {c : Int32} (h : sg p = c) (hc : ¬ c = -1) : p < z := by
  by_cases q : p < z
  · exact q
  · exact absurd (h.symm.trans (hs p (by omega))) hc
theorem or_b {z x : Nat} {f : Option Nat} (h : ∀ x, f = some x → x ≤ z + 8) (hx : x ≤ z + 8) : ∀ y, or_F f x = some y → y ≤ z + 8 := by
  intro y hy
  cases f with
  | none => cases hy; exact hx
  | some w => cases hy; exact h _ rfl
theorem sgn_b {z : Nat} {sg : Nat → Int32} (hs : sg_T2 z sg) {c : Int32} (hc : ¬ c = -1) {s : rs_T} (h : rb_T z s) : rb_T z (m_sgn sg c s) := by
  unfold m_sgn
  split
  · next q => exact ⟨sg_lt hs q hc, h.2.1, h.2.2⟩
  · exact ⟨h.1, h.2.1, or_b h.2.2 (by have := h.1; omega)⟩
theorem dg_e {sg : Nat → Int32} {p a : Nat} (h : s_dg sg p = some a) : a < 10 ∧ sg p = nI (48 + a) := by
  unfold s_dg at h
  split at h
  · next q =>
    have h1 := Int32.le_iff_toInt_le.mp q.1
    have h2 := Int32.le_iff_toInt_le.mp q.2
    rw [show (48 : Int32).toInt = 48 by decide] at h1
    rw [show (57 : Int32).toInt = 57 by decide] at h2
    obtain ⟨n, hn, e⟩ : ∃ n, n < 10 ∧ sg p = nI (48 + n) := ⟨(sg p).toInt.toNat - 48, by omega, Int32.toInt_inj.mp (by rw [nI_toInt (by omega)]; omega)⟩
    have e2 : ∀ n, n < 10 → (nI (48 + n) - 48).toNatClampNeg = n := by decide +kernel
    rw [e, e2 n hn] at h
    cases h
    exact ⟨hn, e⟩
  · cases h
theorem dg_lt {z : Nat} {sg : Nat → Int32} (hs : sg_T2 z sg) {p a : Nat} (h : s_dg sg p = some a) : p < z := by
  obtain ⟨h1, h2⟩ := dg_e h
  have e2 : ∀ n, n < 10 → ¬ nI (48 + n) = -1 := by decide +kernel
  exact sg_lt hs h2 (e2 a h1)
theorem nu2_b {z : Nat} {sg : Nat → Int32} (hs : sg_T2 z sg) {lo hi : Nat} {s : rs_T} (h : rb_T z s) : rb_T z (m_nu2 sg lo hi s).2 ∧ (∀ n, (m_nu2 sg lo hi s).1 = some n → n ≤ 99) ∧ ((m_nu2 sg lo hi s).2.2.2 = none → s.2.2 = none ∧ ∃ n, (m_nu2 sg lo hi s).1 = some n ∧ lo ≤ n ∧ n ≤ hi) := by
  obtain ⟨p, fd, f⟩ := s
  obtain ⟨h1, h2, h3⟩ := h
  have h1 : p ≤ z := h1
  unfold m_nu2
  simp only []
  cases d1 : s_dg sg p with
  | none => exact ⟨⟨h1, h1, or_b h3 (by omega)⟩, (by intro n q; cases q), fun q => (or_none q).elim⟩
  | some a =>
    have a1 := dg_e d1
    have a2 := dg_lt hs d1
    simp only []
    cases d2 : s_dg sg (p + 1) with
    | none =>
      refine ⟨⟨a2, h1, ?_⟩, (by intro n q; cases q; omega), ?_⟩
      · simp only []
        split
        · exact or_b h3 (by omega)
        · exact h3
      · simp only []
        split
        · exact fun q => (or_none q).elim
        · next c => exact fun q => ⟨q, a, rfl, by omega, by omega⟩
    | some b =>
      have b1 := dg_e d2
      have b2 := dg_lt hs d2
      refine ⟨⟨b2, h1, ?_⟩, (by intro n q; cases q; omega), ?_⟩
      · simp only []
        split
        · exact or_b h3 (by omega)
        · exact h3
      · simp only []
        split
        · exact fun q => (or_none q).elim
        · next c => exact fun q => ⟨q, a * 10 + b, rfl, by omega, by omega⟩
theorem num_b {z : Nat} {sg : Nat → Int32} (hs : sg_T2 z sg) {lo hi : Nat} {s : rs_T} (h : rb_T z s) : rb_T z (m_num sg lo hi s).2 ∧ (∀ n, (m_num sg lo hi s).1 = some n → n ≤ 99) ∧ ((m_num sg lo hi s).2.2.2 = none → s.2.2 = none ∧ ∃ n, (m_num sg lo hi s).1 = some n ∧ lo ≤ n ∧ n ≤ hi) := by
  obtain ⟨a, b, c⟩ := nu2_b (lo := lo) (hi := hi) hs (sgn_b hs (c := 32) (by decide) h)
  refine ⟨a, b, fun q => ?_⟩
  obtain ⟨d, e⟩ := c q
  refine ⟨?_, e⟩
  unfold m_sgn at d
  split at d
  · exact d
  · exact (or_none d).elim
theorem hou_b {z : Nat} {sg : Nat → Int32} (hs : sg_T2 z sg) {B : gb_T} {un : Option Nat} {s : rs_T} (h : rb_T z s) : rb_T z (m_hou sg B un s).2 ∧ (∀ n, (m_hou sg B un s).1 = some n → n ≤ 99) ∧ ((m_hou sg B un s).2.2.2 = none → s.2.2 = none ∧ ∃ n, (m_hou sg B un s).1 = some n ∧ n ≤ 7 ∧ n < g_n (b_G B) ∧ is_H (g_k (b_G B) n) ∧ ¬ some n = un) := by
  obtain ⟨a, b, c⟩ := num_b (lo := 0) (hi := 7) hs h
  unfold m_hou
  split
  · next q =>
    refine ⟨a, b, fun z => ?_⟩
    obtain ⟨d, n, e1, e2, e3⟩ := c z
    refine ⟨d, n, e1, e3, ?_⟩
    rw [e1] at q
    simp only [hs_B, Bool.and_eq_true, decide_eq_true_eq] at q
    exact ⟨q.1.1, q.1.2, q.2⟩
  · exact ⟨⟨a.1, a.2.1, or_b a.2.2 (by have := a.2.1; omega)⟩, b, fun q => (or_none q).elim⟩
