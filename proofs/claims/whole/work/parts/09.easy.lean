/-! rows for a memory given by its parts (I, L, Rf, n); the graph of objects behind the constructors -/
def q_i (v : Int32) (X : mx_T) : Option vv_T → mx_T → Prop := fun r Y => r = some (vv_I v) ∧ Y = X
def q_l (v : Int64) (X : mx_T) : Option vv_T → mx_T → Prop := fun r Y => r = some (vv_L v) ∧ Y = X
def q_e (a : Nat) (X : mx_T) : Option vv_T → mx_T → Prop := fun r Y => r = some (vv_E a) ∧ Y = X
def q_v (X : mx_T) : Option vv_T → mx_T → Prop := fun r Y => r = none ∧ Y = X
/-- an int answer, and a memory that has P -/
def q_I (P : Int32 → mx_T → Prop) : Option vv_T → mx_T → Prop := fun r Y => ∃ v, r = some (vv_I v) ∧ P v Y
def q_V (P : mx_T → Prop) : Option vv_T → mx_T → Prop := fun r Y => r = none ∧ P Y
def bI (P : Prop) [Decidable P] : Int32 := if P then 1 else 0
theorem bI_t {P : Prop} [Decidable P] (h : P) : bI P = 1 := if_pos h
theorem bI_f {P : Prop} [Decidable P] (h : ¬ P) : bI P = 0 := if_neg h
theorem bI_0 {P : Prop} [Decidable P] : bI P = 0 ↔ ¬ P := by unfold bI; split <;> simp_all
theorem bI_1 {P : Prop} [Decidable P] : bI P = 1 ↔ P := by unfold bI; split <;> simp_all
theorem bI_c {P R : Prop} [Decidable P] [Decidable R] (h : P ↔ R) : bI P = bI R := by
  by_cases q : P
  · rw [bI_t q, bI_t (h.mp q)]
  · rw [bI_f q, bI_f (fun z => q (h.mpr z))]
theorem nar_b {P : Prop} [Decidable P] : narrow .boolean (.int (bI P)) = .int (bI P) := by
  unfold bI
  split <;> rfl
section RE
variable {l : Launch} {k : mm_T} {d mc ms pc np : Nat} {ls st : List vv_T} {Q : Option vv_T → mx_T → Prop} {I : Nat → Nat → Int32} {L : Nat → Nat → Int64} {Rf : Nat → Nat → Option Nat} {n : Nat} {X : mx_T}
theorem rr_gi {i ci f a : Nat} (hd : op_at k pc (.getfield i) 3 np) (hF : fl_T k i ci f) (hk : kO a = ci) (ha : a < n) (hc : ci < 6 ∧ mx_isR ci f = false) (kk : wm_W l k d mc ms np ls (vv_I (I a f) :: st) (I, L, Rf, n) Q) : wm_W l k d mc ms pc ls (vv_A (some a) :: st) (I, L, Rf, n) Q := rr_geti hd hF hk ha hc kk
theorem rr_gr {i ci f a v : Nat} (hd : op_at k pc (.getfield i) 3 np) (hF : fl_T k i ci f) (hk : kO a = ci) (ha : a < n) (hc : ci < 6 ∧ mx_isR ci f = true) (hr : Rf a f = some v) (kk : wm_W l k d mc ms np ls (vv_A (some v) :: st) (I, L, Rf, n) Q) : wm_W l k d mc ms pc ls (vv_A (some a) :: st) (I, L, Rf, n) Q := rr_getr hd hF hk ha hc hr kk
theorem rr_pi {i ci f a : Nat} {v : Int32} {ty : FieldType} (hd : op_at k pc (.putfield i) 3 np) (hF : fl_T k i ci f) (hk : kO a = ci) (ha : a < n) (hc : ci < 6 ∧ mx_isR ci f = false ∧ f < mx_N ci)
    (hfin : ∀ q : vw_C, mCl[ci]? = some q → (q.2.1 f).2.2.2 = false ∧ parseFieldDescriptor (q.2.1 f).2.2.1 = some ty) (hn : narrow ty (.int v) = .int v ∧ fits ty (.int v) = true) (kk : wm_W l k d mc ms np ls st (up_I I a f v, L, Rf, n) Q) : wm_W l k d mc ms pc ls (vv_I v :: vv_A (some a) :: st) (I, L, Rf, n) Q :=
  rr_puti hd hF hk ha ⟨hc.1, hc.2.1⟩ hfin hn.1 hn.2 hc.2.2 kk
theorem rr_ild {a z t : Nat} {j : Int32} (hd : op_at k pc .iaload 1 np) (hk : kO a = 6 ∧ zO a = z) (ha : a < n) (hj : j = nI t) (ht : t < z) (hz : z ≤ 65536) (kk : wm_W l k d mc ms np ls (vv_I (I a t) :: st) (I, L, Rf, n) Q) : wm_W l k d mc ms pc ls (vv_I j :: vv_A (some a) :: st) (I, L, Rf, n) Q := by
  subst hj
  refine rr_iald hd hk ha (vp_in_nI ht (by omega)) ?_
  rw [nI_clamp (by omega)]
  exact kk
theorem rr_lld {a z t : Nat} {j : Int32} (hd : op_at k pc .laload 1 np) (hk : kO a = 7 ∧ zO a = z) (ha : a < n) (hj : j = nI t) (ht : t < z) (hz : z ≤ 65536) (kk : wm_W l k d mc ms np ls (vv_L (L a t) :: st) (I, L, Rf, n) Q) : wm_W l k d mc ms pc ls (vv_I j :: vv_A (some a) :: st) (I, L, Rf, n) Q := by
  subst hj
  refine rr_lald hd hk ha (vp_in_nI ht (by omega)) ?_
  rw [nI_clamp (by omega)]
  exact kk
theorem rr_ald {a z t v : Nat} {j : Int32} (hd : op_at k pc .aaload 1 np) (hk : kO a = 8 ∧ zO a = z) (ha : a < n) (hj : j = nI t) (ht : t < z) (hz : z ≤ 65536) (hw : Rf a t = some v) (kk : wm_W l k d mc ms np ls (vv_A (some v) :: st) (I, L, Rf, n) Q) : wm_W l k d mc ms pc ls (vv_I j :: vv_A (some a) :: st) (I, L, Rf, n) Q := by
  subst hj
  exact rr_aald (w := some v) hd hk ha (vp_in_nI ht (by omega)) (by rw [nI_clamp (by omega)]; exact hw) kk
theorem rr_ist {a z t : Nat} {j v : Int32} (hd : op_at k pc .iastore 1 np) (hk : kO a = 6 ∧ zO a = z) (ha : a < n) (hj : j = nI t) (ht : t < z) (hz : z ≤ 65536) (kk : wm_W l k d mc ms np ls st (up_I I a t v, L, Rf, n) Q) : wm_W l k d mc ms pc ls (vv_I v :: vv_I j :: vv_A (some a) :: st) (I, L, Rf, n) Q := by
  subst hj
  refine rr_iast hd hk ha (vp_in_nI ht (by omega)) ?_
  rw [nI_clamp (by omega)]
  exact kk
theorem rr_lst {a z t : Nat} {j : Int32} {v : Int64} (hd : op_at k pc .lastore 1 np) (hk : kO a = 7 ∧ zO a = z) (ha : a < n) (hj : j = nI t) (ht : t < z) (hz : z ≤ 65536) (kk : wm_W l k d mc ms np ls st (I, up_L L a t v, Rf, n) Q) : wm_W l k d mc ms pc ls (vv_L v :: vv_I j :: vv_A (some a) :: st) (I, L, Rf, n) Q := by
  subst hj
  refine rr_last hd hk ha (vp_in_nI ht (by omega)) ?_
  rw [nI_clamp (by omega)]
  exact kk
/-! branches on a told truth -/
theorem rr_ifb_eq {P : Prop} [Decidable P] {off : Int} {tgt : Nat} (hd : op_at k pc (.ifCond .eq off) 3 np) (ht : (pc : Int) + off = (tgt : Int)) (kt : ¬ P → wm_W l k d mc ms tgt ls st X Q) (kf : P → wm_W l k d mc ms np ls st X Q) : wm_W l k d mc ms pc ls (vv_I (bI P) :: st) X Q :=
  rr_if_eq hd ht (fun h => kt (bI_0.mp h)) (fun h => kf (Classical.byContradiction fun q => h (bI_0.mpr q)))
theorem rr_ifb_ne {P : Prop} [Decidable P] {off : Int} {tgt : Nat} (hd : op_at k pc (.ifCond .ne off) 3 np) (ht : (pc : Int) + off = (tgt : Int)) (kt : P → wm_W l k d mc ms tgt ls st X Q) (kf : ¬ P → wm_W l k d mc ms np ls st X Q) : wm_W l k d mc ms pc ls (vv_I (bI P) :: st) X Q :=
  rr_if_ne hd ht (fun h => kt (Classical.byContradiction fun q => h (bI_0.mpr q))) (fun h => kf (bI_0.mp h))
/-! calls with a plain answer -/
theorem rr_cVi {k2 : mm_T} {i m d2 a ci : Nat} {As st0 rest : List vv_T} {v : Int32} {Y : mx_T} (hM : wm_C l k2 d2 0 0 (vv_A (some a) :: As) X (q_i v Y)) (hd : op_at k pc (.invokevirtual i) 3 np) (hc : cl_V k k2 i m) (hdd : d2 + 1 ≤ d) (hk : kO a = ci) (hci : ci < 6) (hcn : ∀ q, mCl[ci]? = some q → q.1 = k2.1.cls) (ha : a < X.2.2.2)
    (hn : As.length = m) (hst : As.reverse ++ vv_A (some a) :: rest = st0) (hW : (rest.map vv_c).sum ≤ 8) (kk : wm_W l k d mc ms np ls (vv_I v :: rest) Y Q) : wm_W l k d mc ms pc ls st0 X Q :=
  rr_callV hd hc hM hdd hk hci hcn ha hn hst hW rfl rfl (fun r Z h => by obtain ⟨rfl, rfl⟩ := h; exact kk)
theorem rr_cVl {k2 : mm_T} {i m d2 a ci : Nat} {As st0 rest : List vv_T} {v : Int64} {Y : mx_T} (hM : wm_C l k2 d2 0 0 (vv_A (some a) :: As) X (q_l v Y)) (hd : op_at k pc (.invokevirtual i) 3 np) (hc : cl_V k k2 i m) (hdd : d2 + 1 ≤ d) (hk : kO a = ci) (hci : ci < 6) (hcn : ∀ q, mCl[ci]? = some q → q.1 = k2.1.cls) (ha : a < X.2.2.2)
    (hn : As.length = m) (hst : As.reverse ++ vv_A (some a) :: rest = st0) (hW : (rest.map vv_c).sum ≤ 8) (kk : wm_W l k d mc ms np ls (vv_L v :: rest) Y Q) : wm_W l k d mc ms pc ls st0 X Q :=
  rr_callV hd hc hM hdd hk hci hcn ha hn hst hW rfl rfl (fun r Z h => by obtain ⟨rfl, rfl⟩ := h; exact kk)
theorem rr_cVv {k2 : mm_T} {i m d2 a ci : Nat} {As st0 rest : List vv_T} {Y : mx_T} (hM : wm_C l k2 d2 0 0 (vv_A (some a) :: As) X (q_v Y)) (hd : op_at k pc (.invokevirtual i) 3 np) (hc : cl_V k k2 i m) (hdd : d2 + 1 ≤ d) (hk : kO a = ci) (hci : ci < 6) (hcn : ∀ q, mCl[ci]? = some q → q.1 = k2.1.cls) (ha : a < X.2.2.2)
    (hn : As.length = m) (hst : As.reverse ++ vv_A (some a) :: rest = st0) (hW : (rest.map vv_c).sum ≤ 8) (kk : wm_W l k d mc ms np ls rest Y Q) : wm_W l k d mc ms pc ls st0 X Q :=
  rr_callV hd hc hM hdd hk hci hcn ha hn hst hW rfl rfl (fun r Z h => by obtain ⟨rfl, rfl⟩ := h; exact kk)
theorem rr_cVI {k2 : mm_T} {i m d2 a ci : Nat} {As st0 rest : List vv_T} {P : Int32 → mx_T → Prop} (hM : wm_C l k2 d2 0 0 (vv_A (some a) :: As) X (q_I P)) (hd : op_at k pc (.invokevirtual i) 3 np) (hc : cl_V k k2 i m) (hdd : d2 + 1 ≤ d) (hk : kO a = ci) (hci : ci < 6) (hcn : ∀ q, mCl[ci]? = some q → q.1 = k2.1.cls) (ha : a < X.2.2.2)
    (hn : As.length = m) (hst : As.reverse ++ vv_A (some a) :: rest = st0) (hW : (rest.map vv_c).sum ≤ 8) (kk : ∀ (v : Int32) (I2 : Nat → Nat → Int32) (L2 : Nat → Nat → Int64) (R2 : Nat → Nat → Option Nat) (n2 : Nat), P v (I2, L2, R2, n2) → wm_W l k d mc ms np ls (vv_I v :: rest) (I2, L2, R2, n2) Q) : wm_W l k d mc ms pc ls st0 X Q :=
  rr_callV hd hc hM hdd hk hci hcn ha hn hst hW rfl rfl (fun r Z h => by obtain ⟨v, rfl, h2⟩ := h; exact kk v Z.1 Z.2.1 Z.2.2.1 Z.2.2.2 h2)
theorem rr_cVV {k2 : mm_T} {i m d2 a ci : Nat} {As st0 rest : List vv_T} {P : mx_T → Prop} (hM : wm_C l k2 d2 0 0 (vv_A (some a) :: As) X (q_V P)) (hd : op_at k pc (.invokevirtual i) 3 np) (hc : cl_V k k2 i m) (hdd : d2 + 1 ≤ d) (hk : kO a = ci) (hci : ci < 6) (hcn : ∀ q, mCl[ci]? = some q → q.1 = k2.1.cls) (ha : a < X.2.2.2)
    (hn : As.length = m) (hst : As.reverse ++ vv_A (some a) :: rest = st0) (hW : (rest.map vv_c).sum ≤ 8) (kk : ∀ (I2 : Nat → Nat → Int32) (L2 : Nat → Nat → Int64) (R2 : Nat → Nat → Option Nat) (n2 : Nat), P (I2, L2, R2, n2) → wm_W l k d mc ms np ls rest (I2, L2, R2, n2) Q) : wm_W l k d mc ms pc ls st0 X Q :=
  rr_callV hd hc hM hdd hk hci hcn ha hn hst hW rfl rfl (fun r Z h => by obtain ⟨rfl, h2⟩ := h; exact kk Z.1 Z.2.1 Z.2.2.1 Z.2.2.2 h2)
theorem rr_cSi {k2 : mm_T} {i m d2 : Nat} {As st0 rest : List vv_T} {v : Int32} {Y : mx_T} (hM : wm_C l k2 d2 0 0 As X (q_i v Y)) (hd : op_at k pc (.invokestatic i) 3 np) (hc : cl_S k k2 i m) (hdd : d2 + 1 ≤ d)
    (hn : As.length = m) (hst : As.reverse ++ rest = st0) (hW : (rest.map vv_c).sum ≤ 8) (kk : wm_W l k d mc ms np ls (vv_I v :: rest) Y Q) : wm_W l k d mc ms pc ls st0 X Q :=
  rr_callS hd hc hM hdd hn hst hW rfl rfl (fun r Z h => by obtain ⟨rfl, rfl⟩ := h; exact kk)
theorem rr_cSe {k2 : mm_T} {i m d2 : Nat} {As st0 rest : List vv_T} {v : Nat} {Y : mx_T} (hM : wm_C l k2 d2 0 0 As X (q_e v Y)) (hd : op_at k pc (.invokestatic i) 3 np) (hc : cl_S k k2 i m) (hdd : d2 + 1 ≤ d)
    (hn : As.length = m) (hst : As.reverse ++ rest = st0) (hW : (rest.map vv_c).sum ≤ 8) (kk : wm_W l k d mc ms np ls (vv_E v :: rest) Y Q) : wm_W l k d mc ms pc ls st0 X Q :=
  rr_callS hd hc hM hdd hn hst hW rfl rfl (fun r Z h => by obtain ⟨rfl, rfl⟩ := h; exact kk)
theorem rr_cSNi {k2 : mm_T} {i m j d2 : Nat} {As st0 rest : List vv_T} {v : Int32} {Y : mx_T} (hM : wm_C l k2 d2 0 0 As X (q_i v Y)) (hd : op_at k pc (.invokestatic i) 3 np) (hc : cl_N k k2 i m j ∧ Cond.static k2.1 ∈ GW) (hdd : d2 + 1 ≤ d)
    (hn : As.length = m) (hst : As.reverse ++ rest = st0) (hW : (rest.map vv_c).sum ≤ 8) (kk : wm_W l k d mc ms np ls (vv_I v :: rest) Y Q) : wm_W l k d mc ms pc ls st0 X Q :=
  rr_callSN hd hc hM hdd hn hst hW rfl rfl (fun r Z h => by obtain ⟨rfl, rfl⟩ := h; exact kk)
end RE
/-! the graph of objects -/
def rO_l : List (List (Option Nat)) := [[some 1, some 2, some 10, some 18, some 26, some 28, some 29], [some 30, some 32, some 34, some 36, some 38, some 40, some 42, some 44]]
def rO (a k : Nat) : Option Nat := if a < 2 then (rO_l.getD a []).getD k none
  else if a = 2 ∨ a = 10 ∨ a = 18 then (if 6 ≤ k ∧ k < 13 then some (a + (k - 5)) else none)
  else if a = 26 then (if k = 0 then some 27 else none)
  else if 30 ≤ a ∧ a < 46 then (if a % 2 = 0 ∧ k = 2 then some (a + 1) else none)
  else if a = 46 then (if 6 ≤ k ∧ k < 22 then some (k + 41) else if k = 27 then some 63 else if k = 28 then some 64 else if k = 32 then some 65 else if k = 35 then some 66 else none)
  else none
/-- behind the constructors: 67 objects stand and refer to each other as written -/
def wd_T (Rf : Nat → Nat → Option Nat) (n : Nat) : Prop := 67 ≤ n ∧ ∀ a, a < 67 → Rf a = rO a
theorem wd_lt {Rf : Nat → Nat → Option Nat} {n a : Nat} (h : wd_T Rf n) (ha : Nat.blt a 67 = true) : a < n := Nat.lt_of_lt_of_le (by simpa [Nat.blt_eq] using ha) h.1
theorem wd_r {Rf : Nat → Nat → Option Nat} {n a k : Nat} {v : Option Nat} (h : wd_T Rf n) (ha : Nat.blt a 67 = true) (hv : rO a k = v) : Rf a k = v := by rw [h.2 a (by simpa [Nat.blt_eq] using ha)]; exact hv
/-- one of the three grounds -/
def gd_T (g : Nat) : Prop := g = 2 ∨ g = 10 ∨ g = 18
theorem gd_k {g : Nat} (h : gd_T g) : kO g = 1 := by rcases h with rfl | rfl | rfl <;> decide
theorem gd_lt {Rf : Nat → Nat → Option Nat} {n g j : Nat} (W : wd_T Rf n) (h : gd_T g) (hj : Nat.blt j 8 = true) : g + j < n := by
  have hj' : j < 8 := by simpa [Nat.blt_eq] using hj
  have := W.1
  rcases h with rfl | rfl | rfl <;> omega
theorem gd_a {g : Nat} (h : gd_T g) (j : Nat) (hj : (Nat.blt 0 j && Nat.blt j 8) = true) : kO (g + j) = 6 ∧ zO (g + j) = 8 := by
  have hj' : 0 < j ∧ j < 8 := by simpa [Nat.blt_eq] using hj
  obtain ⟨h1, h2⟩ := hj'
  rcases h with rfl | rfl | rfl <;> (rcases (show j = 1 ∨ j = 2 ∨ j = 3 ∨ j = 4 ∨ j = 5 ∨ j = 6 ∨ j = 7 by omega) with rfl | rfl | rfl | rfl | rfl | rfl | rfl <;> decide)
theorem gd_r {Rf : Nat → Nat → Option Nat} {n g : Nat} (W : wd_T Rf n) (h : gd_T g) (k j : Nat) (hk : (Nat.blt 5 k && Nat.blt k 13 && Nat.beq (j + 5) k) = true) : Rf g k = some (g + j) := by
  have hk' : (5 < k ∧ k < 13) ∧ j + 5 = k := by simpa [Nat.blt_eq] using hk
  obtain ⟨⟨h1, h2⟩, h3⟩ := hk'
  have hg : g < 67 := by rcases h with rfl | rfl | rfl <;> omega
  rw [W.2 g hg]
  have e : k - 5 = j := by omega
  have hg2 : ¬ g < 2 := by rcases h with rfl | rfl | rfl <;> omega
  unfold rO
  have hgd : g = 2 ∨ g = 10 ∨ g = 18 := h
  rw [if_neg hg2, if_pos hgd, if_pos ⟨by omega, h2⟩, e]
