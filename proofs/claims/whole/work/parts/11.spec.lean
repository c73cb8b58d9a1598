/-! more rows: a call that leaves another int memory; switches; arraycopy's words -/
def q_m (P : (Nat → Nat → Int32) → Prop) (L : Nat → Nat → Int64) (Rf : Nat → Nat → Option Nat) (n : Nat) : Option vv_T → mx_T → Prop := fun r Y => r = none ∧ ∃ I, Y = (I, L, Rf, n) ∧ P I
def q_n (P : Int32 → (Nat → Nat → Int32) → Prop) (L : Nat → Nat → Int64) (Rf : Nat → Nat → Option Nat) (n : Nat) : Option vv_T → mx_T → Prop := fun r Y => ∃ v, r = some (vv_I v) ∧ ∃ I, Y = (I, L, Rf, n) ∧ P v I
theorem q_m_of {P : (Nat → Nat → Int32) → Prop} {I : Nat → Nat → Int32} {L : Nat → Nat → Int64} {Rf : Nat → Nat → Option Nat} {n : Nat} (h : P I) : q_m P L Rf n none (I, L, Rf, n) := ⟨rfl, I, rfl, h⟩
theorem q_n_of {P : Int32 → (Nat → Nat → Int32) → Prop} {v : Int32} {I : Nat → Nat → Int32} {L : Nat → Nat → Int64} {Rf : Nat → Nat → Option Nat} {n : Nat} (h : P v I) : q_n P L Rf n (some (vv_I v)) (I, L, Rf, n) := ⟨v, rfl, I, rfl, h⟩
def s_abs (x : Int32) : Int32 := if 0 ≤ x then x else 0 - x
def s_max (x y : Int32) : Int32 := if x < y then y else x
def s_min (x y : Int32) : Int32 := if y < x then y else x
section RG
variable {l : Launch} {k : mm_T} {d mc ms pc np : Nat} {ls st : List vv_T} {Q : Option vv_T → mx_T → Prop} {I : Nat → Nat → Int32} {L L1 : Nat → Nat → Int64} {Rf R1 : Nat → Nat → Option Nat} {n n1 : Nat} {X : mx_T}
theorem rr_cVm {k2 : mm_T} {i m d2 a ci : Nat} {As st0 rest : List vv_T} {P : (Nat → Nat → Int32) → Prop} (hM : wm_C l k2 d2 0 0 (vv_A (some a) :: As) X (q_m P L1 R1 n1)) (hd : op_at k pc (.invokevirtual i) 3 np) (hc : cl_V k k2 i m) (hdd : d2 + 1 ≤ d) (hk : kO a = ci) (hci : ci < 6) (hcn : ∀ q, mCl[ci]? = some q → q.1 = k2.1.cls) (ha : a < X.2.2.2)
    (hn : As.length = m) (hst : As.reverse ++ vv_A (some a) :: rest = st0) (hW : (rest.map vv_c).sum ≤ 8) (kk : ∀ I2 : Nat → Nat → Int32, P I2 → wm_W l k d mc ms np ls rest (I2, L1, R1, n1) Q) : wm_W l k d mc ms pc ls st0 X Q :=
  rr_callV hd hc hM hdd hk hci hcn ha hn hst hW rfl rfl (fun r Z h => by obtain ⟨rfl, I2, rfl, h2⟩ := h; exact kk I2 h2)
theorem rr_cVn {k2 : mm_T} {i m d2 a ci : Nat} {As st0 rest : List vv_T} {P : Int32 → (Nat → Nat → Int32) → Prop} (hM : wm_C l k2 d2 0 0 (vv_A (some a) :: As) X (q_n P L1 R1 n1)) (hd : op_at k pc (.invokevirtual i) 3 np) (hc : cl_V k k2 i m) (hdd : d2 + 1 ≤ d) (hk : kO a = ci) (hci : ci < 6) (hcn : ∀ q, mCl[ci]? = some q → q.1 = k2.1.cls) (ha : a < X.2.2.2)
    (hn : As.length = m) (hst : As.reverse ++ vv_A (some a) :: rest = st0) (hW : (rest.map vv_c).sum ≤ 8) (kk : ∀ (v : Int32) (I2 : Nat → Nat → Int32), P v I2 → wm_W l k d mc ms np ls (vv_I v :: rest) (I2, L1, R1, n1) Q) : wm_W l k d mc ms pc ls st0 X Q :=
  rr_callV hd hc hM hdd hk hci hcn ha hn hst hW rfl rfl (fun r Z h => by obtain ⟨v, rfl, I2, rfl, h2⟩ := h; exact kk v I2 h2)
theorem nI_dec (m : Nat) : nI (m + 1) + Int32.ofInt (-1) = nI m := by
  rw [← nI_pred m, Int32.sub_eq_add_neg]
  rfl
theorem rr_max {i : Nat} {x y : Int32} (hd : op_at k pc (.invokestatic i) 3 np) (hw : Cond.methodLink k.1.cls i Lib.Math.max.name ∈ GW ∧ Cond.static Lib.Math.max.name ∈ GW ∧ Cond.initialized "java/lang/Math" ∈ GW ∧ Cond.code Lib.Math.max.name Lib.Math.max.code 2 (some .int) ∈ GW) (hdd : 1 ≤ d) (hW : (st.map vv_c).sum ≤ 8) (kk : wm_W l k d mc ms np ls (vv_I (s_max x y) :: st) X Q) : wm_W l k d mc ms pc ls (vv_I y :: vv_I x :: st) X Q := by
  intro b D p e R s m args below meth c H locs cells slots MC MS arr hS hR hcl hs hV hX hL
  obtain ⟨hd, rfl⟩ := hd
  have hts := hS.2.2.2.2.2.1
  have := sum_c b st
  exact va_mmax hS.1 hS.2.1 (hS.2.2.1.trans hL.1.symm) hS.2.2.2.2.1 (hts _ hw.1) (hts _ hw.2.1) (hts _ hw.2.2.1) (hts _ hw.2.2.2) (by omega) (by rw [this]; omega) (by omega) (by omega) hd (kk b D p e R s m args below meth c H locs cells slots MC MS arr hS hR hcl hs hV hX hL)
theorem rr_min {i : Nat} {x y : Int32} (hd : op_at k pc (.invokestatic i) 3 np) (hw : Cond.methodLink k.1.cls i Lib.Math.min.name ∈ GW ∧ Cond.static Lib.Math.min.name ∈ GW ∧ Cond.initialized "java/lang/Math" ∈ GW ∧ Cond.code Lib.Math.min.name Lib.Math.min.code 2 (some .int) ∈ GW) (hdd : 1 ≤ d) (hW : (st.map vv_c).sum ≤ 8) (kk : wm_W l k d mc ms np ls (vv_I (s_min x y) :: st) X Q) : wm_W l k d mc ms pc ls (vv_I y :: vv_I x :: st) X Q := by
  intro b D p e R s m args below meth c H locs cells slots MC MS arr hS hR hcl hs hV hX hL
  obtain ⟨hd, rfl⟩ := hd
  have hts := hS.2.2.2.2.2.1
  have := sum_c b st
  exact va_mmin hS.1 hS.2.1 (hS.2.2.1.trans hL.1.symm) hS.2.2.2.2.1 (hts _ hw.1) (hts _ hw.2.1) (hts _ hw.2.2.1) (hts _ hw.2.2.2) (by omega) (by rw [this]; omega) (by omega) (by omega) hd (kk b D p e R s m args below meth c H locs cells slots MC MS arr hS hR hcl hs hV hX hL)
theorem rr_abs {i : Nat} {x : Int32} (hd : op_at k pc (.invokestatic i) 3 np) (hw : Cond.methodLink k.1.cls i Lib.Math.abs.name ∈ GW ∧ Cond.static Lib.Math.abs.name ∈ GW ∧ Cond.initialized "java/lang/Math" ∈ GW ∧ Cond.code Lib.Math.abs.name Lib.Math.abs.code 1 (some .int) ∈ GW) (hdd : 1 ≤ d) (hW : (st.map vv_c).sum ≤ 8) (kk : wm_W l k d mc ms np ls (vv_I (s_abs x) :: st) X Q) : wm_W l k d mc ms pc ls (vv_I x :: st) X Q := by
  intro b D p e R s m args below meth c H locs cells slots MC MS arr hS hR hcl hs hV hX hL
  obtain ⟨hd, rfl⟩ := hd
  have hts := hS.2.2.2.2.2.1
  have := sum_c b st
  exact va_mabs hS.1 hS.2.1 (hS.2.2.1.trans hL.1.symm) hS.2.2.2.2.1 (hts _ hw.1) (hts _ hw.2.1) (hts _ hw.2.2.1) (hts _ hw.2.2.2) (by omega) (by rw [this]; omega) (by omega) (by omega) hd (kk b D p e R s m args below meth c H locs cells slots MC MS arr hS hR hcl hs hV hX hL)
theorem rr_iv {a z t : Nat} {j v : Int32} (hd : op_at k pc .iaload 1 np) (hk : kO a = 6 ∧ zO a = z) (ha : a < n) (hj : j = nI t) (ht : t < z) (hz : z ≤ 65536) (hv : I a t = v) (kk : wm_W l k d mc ms np ls (vv_I v :: st) (I, L, Rf, n) Q) : wm_W l k d mc ms pc ls (vv_I j :: vv_A (some a) :: st) (I, L, Rf, n) Q := rr_ild hd hk ha hj ht hz (by rw [hv]; exact kk)
theorem rr_giv {i ci f a : Nat} {v : Int32} (hd : op_at k pc (.getfield i) 3 np) (hF : fl_T k i ci f) (hk : kO a = ci) (ha : a < n) (hc : ci < 6 ∧ mx_isR ci f = false) (hv : I a f = v) (kk : wm_W l k d mc ms np ls (vv_I v :: st) (I, L, Rf, n) Q) : wm_W l k d mc ms pc ls (vv_A (some a) :: st) (I, L, Rf, n) Q := rr_gi hd hF hk ha hc (by rw [hv]; exact kk)
end RG
theorem gw_copy_X1_52 : Cond.methodLink RX1 52 arraycopyName ∈ GW ∧ Cond.native arraycopyName ∈ GW ∧ Cond.static arraycopyName ∈ GW ∧ Cond.initialized "java/lang/System" ∈ GW := ⟨gw_in (i := 475) (by decide +kernel) (by decide +kernel), gw_in (i := 292) (by decide +kernel) (by decide +kernel), gw_in (i := 291) (by decide +kernel) (by decide +kernel), gw_in (i := 85) (by decide +kernel) (by decide +kernel)⟩
theorem gw_copy_X4_85 : Cond.methodLink RX4 85 arraycopyName ∈ GW ∧ Cond.native arraycopyName ∈ GW ∧ Cond.static arraycopyName ∈ GW ∧ Cond.initialized "java/lang/System" ∈ GW := ⟨gw_in (i := 290) (by decide +kernel) (by decide +kernel), gw_in (i := 292) (by decide +kernel) (by decide +kernel), gw_in (i := 291) (by decide +kernel) (by decide +kernel), gw_in (i := 85) (by decide +kernel) (by decide +kernel)⟩
theorem gm_X4_130 : Cond.methodLink RX4 130 Lib.Math.max.name ∈ GW ∧ Cond.static Lib.Math.max.name ∈ GW ∧ Cond.initialized "java/lang/Math" ∈ GW ∧ Cond.code Lib.Math.max.name Lib.Math.max.code 2 (some .int) ∈ GW := ⟨gw_in (i := 398) (by decide +kernel) (by decide +kernel), gw_in (i := 355) (by decide +kernel) (by decide +kernel), gw_in (i := 86) (by decide +kernel) (by decide +kernel), gw_in (i := 356) (by decide +kernel) (by decide +kernel)⟩
theorem gm_X1_69 : Cond.methodLink RX1 69 Lib.Math.abs.name ∈ GW ∧ Cond.static Lib.Math.abs.name ∈ GW ∧ Cond.initialized "java/lang/Math" ∈ GW ∧ Cond.code Lib.Math.abs.name Lib.Math.abs.code 1 (some .int) ∈ GW := ⟨gw_in (i := 351) (by decide +kernel) (by decide +kernel), gw_in (i := 352) (by decide +kernel) (by decide +kernel), gw_in (i := 86) (by decide +kernel) (by decide +kernel), gw_in (i := 353) (by decide +kernel) (by decide +kernel)⟩
theorem gm_X1_74 : Cond.methodLink RX1 74 Lib.Math.max.name ∈ GW ∧ Cond.static Lib.Math.max.name ∈ GW ∧ Cond.initialized "java/lang/Math" ∈ GW ∧ Cond.code Lib.Math.max.name Lib.Math.max.code 2 (some .int) ∈ GW := ⟨gw_in (i := 354) (by decide +kernel) (by decide +kernel), gw_in (i := 355) (by decide +kernel) (by decide +kernel), gw_in (i := 86) (by decide +kernel) (by decide +kernel), gw_in (i := 356) (by decide +kernel) (by decide +kernel)⟩
theorem gm_X1_142 : Cond.methodLink RX1 142 Lib.Math.min.name ∈ GW ∧ Cond.static Lib.Math.min.name ∈ GW ∧ Cond.initialized "java/lang/Math" ∈ GW ∧ Cond.code Lib.Math.min.name Lib.Math.min.code 2 (some .int) ∈ GW := ⟨gw_in (i := 809) (by decide +kernel) (by decide +kernel), gw_in (i := 810) (by decide +kernel) (by decide +kernel), gw_in (i := 86) (by decide +kernel) (by decide +kernel), gw_in (i := 811) (by decide +kernel) (by decide +kernel)⟩
theorem gm_X2_113 : Cond.methodLink RX2 113 Lib.Math.max.name ∈ GW ∧ Cond.static Lib.Math.max.name ∈ GW ∧ Cond.initialized "java/lang/Math" ∈ GW ∧ Cond.code Lib.Math.max.name Lib.Math.max.code 2 (some .int) ∈ GW := ⟨gw_in (i := 575) (by decide +kernel) (by decide +kernel), gw_in (i := 355) (by decide +kernel) (by decide +kernel), gw_in (i := 86) (by decide +kernel) (by decide +kernel), gw_in (i := 356) (by decide +kernel) (by decide +kernel)⟩
theorem tab_out_0_2 {x : Int32} (h0 : ¬ x = 0) (h1 : ¬ x = 1) (h2 : ¬ x = 2) : x.toInt < 0 ∨ 2 < x.toInt := by
  refine Classical.byContradiction fun q => ?_
  have e : ∀ v : Nat, v < 100 → x.toInt = (v : Int) → x = nI v := fun v hv h => Int32.toInt_inj.mp (by rw [nI_toInt (by omega)]; exact h)
  rcases (show x.toInt = 0 ∨ x.toInt = 1 ∨ x.toInt = 2 by omega) with h | h | h
  · exact h0 (e 0 (by decide) h)
  · exact h1 (e 1 (by decide) h)
  · exact h2 (e 2 (by decide) h)
theorem tab_out_0_3 {x : Int32} (h0 : ¬ x = 0) (h1 : ¬ x = 1) (h2 : ¬ x = 2) (h3 : ¬ x = 3) : x.toInt < 0 ∨ 3 < x.toInt := by
  refine Classical.byContradiction fun q => ?_
  have e : ∀ v : Nat, v < 100 → x.toInt = (v : Int) → x = nI v := fun v hv h => Int32.toInt_inj.mp (by rw [nI_toInt (by omega)]; exact h)
  rcases (show x.toInt = 0 ∨ x.toInt = 1 ∨ x.toInt = 2 ∨ x.toInt = 3 by omega) with h | h | h | h
  · exact h0 (e 0 (by decide) h)
  · exact h1 (e 1 (by decide) h)
  · exact h2 (e 2 (by decide) h)
  · exact h3 (e 3 (by decide) h)
theorem tab_out_0_4 {x : Int32} (h0 : ¬ x = 0) (h1 : ¬ x = 1) (h2 : ¬ x = 2) (h3 : ¬ x = 3) (h4 : ¬ x = 4) : x.toInt < 0 ∨ 4 < x.toInt := by
  refine Classical.byContradiction fun q => ?_
  have e : ∀ v : Nat, v < 100 → x.toInt = (v : Int) → x = nI v := fun v hv h => Int32.toInt_inj.mp (by rw [nI_toInt (by omega)]; exact h)
  rcases (show x.toInt = 0 ∨ x.toInt = 1 ∨ x.toInt = 2 ∨ x.toInt = 3 ∨ x.toInt = 4 by omega) with h | h | h | h | h
  · exact h0 (e 0 (by decide) h)
  · exact h1 (e 1 (by decide) h)
  · exact h2 (e 2 (by decide) h)
  · exact h3 (e 3 (by decide) h)
  · exact h4 (e 4 (by decide) h)
theorem tab_out_0_5 {x : Int32} (h0 : ¬ x = 0) (h1 : ¬ x = 1) (h2 : ¬ x = 2) (h3 : ¬ x = 3) (h4 : ¬ x = 4) (h5 : ¬ x = 5) : x.toInt < 0 ∨ 5 < x.toInt := by
  refine Classical.byContradiction fun q => ?_
  have e : ∀ v : Nat, v < 100 → x.toInt = (v : Int) → x = nI v := fun v hv h => Int32.toInt_inj.mp (by rw [nI_toInt (by omega)]; exact h)
  rcases (show x.toInt = 0 ∨ x.toInt = 1 ∨ x.toInt = 2 ∨ x.toInt = 3 ∨ x.toInt = 4 ∨ x.toInt = 5 by omega) with h | h | h | h | h | h
  · exact h0 (e 0 (by decide) h)
  · exact h1 (e 1 (by decide) h)
  · exact h2 (e 2 (by decide) h)
  · exact h3 (e 3 (by decide) h)
  · exact h4 (e 4 (by decide) h)
  · exact h5 (e 5 (by decide) h)
theorem tab_out_0_6 {x : Int32} (h0 : ¬ x = 0) (h1 : ¬ x = 1) (h2 : ¬ x = 2) (h3 : ¬ x = 3) (h4 : ¬ x = 4) (h5 : ¬ x = 5) (h6 : ¬ x = 6) : x.toInt < 0 ∨ 6 < x.toInt := by
  refine Classical.byContradiction fun q => ?_
  have e : ∀ v : Nat, v < 100 → x.toInt = (v : Int) → x = nI v := fun v hv h => Int32.toInt_inj.mp (by rw [nI_toInt (by omega)]; exact h)
  rcases (show x.toInt = 0 ∨ x.toInt = 1 ∨ x.toInt = 2 ∨ x.toInt = 3 ∨ x.toInt = 4 ∨ x.toInt = 5 ∨ x.toInt = 6 by omega) with h | h | h | h | h | h | h
  · exact h0 (e 0 (by decide) h)
  · exact h1 (e 1 (by decide) h)
  · exact h2 (e 2 (by decide) h)
  · exact h3 (e 3 (by decide) h)
  · exact h4 (e 4 (by decide) h)
  · exact h5 (e 5 (by decide) h)
  · exact h6 (e 6 (by decide) h)
theorem tab_out_0_8 {x : Int32} (h0 : ¬ x = 0) (h1 : ¬ x = 1) (h2 : ¬ x = 2) (h3 : ¬ x = 3) (h4 : ¬ x = 4) (h5 : ¬ x = 5) (h6 : ¬ x = 6) (h7 : ¬ x = 7) (h8 : ¬ x = 8) : x.toInt < 0 ∨ 8 < x.toInt := by
  refine Classical.byContradiction fun q => ?_
  have e : ∀ v : Nat, v < 100 → x.toInt = (v : Int) → x = nI v := fun v hv h => Int32.toInt_inj.mp (by rw [nI_toInt (by omega)]; exact h)
  rcases (show x.toInt = 0 ∨ x.toInt = 1 ∨ x.toInt = 2 ∨ x.toInt = 3 ∨ x.toInt = 4 ∨ x.toInt = 5 ∨ x.toInt = 6 ∨ x.toInt = 7 ∨ x.toInt = 8 by omega) with h | h | h | h | h | h | h | h | h
  · exact h0 (e 0 (by decide) h)
  · exact h1 (e 1 (by decide) h)
  · exact h2 (e 2 (by decide) h)
  · exact h3 (e 3 (by decide) h)
  · exact h4 (e 4 (by decide) h)
  · exact h5 (e 5 (by decide) h)
  · exact h6 (e 6 (by decide) h)
  · exact h7 (e 7 (by decide) h)
  · exact h8 (e 8 (by decide) h)
theorem tab_out_0_41 {x : Int32} (h0 : ¬ x = 0) (h1 : ¬ x = 1) (h2 : ¬ x = 2) (h3 : ¬ x = 3) (h4 : ¬ x = 4) (h5 : ¬ x = 5) (h6 : ¬ x = 6) (h7 : ¬ x = 7) (h8 : ¬ x = 8) (h9 : ¬ x = 9) (h10 : ¬ x = 10) (h11 : ¬ x = 11) (h12 : ¬ x = 12) (h13 : ¬ x = 13) (h14 : ¬ x = 14) (h15 : ¬ x = 15) (h16 : ¬ x = 16) (h17 : ¬ x = 17) (h18 : ¬ x = 18) (h19 : ¬ x = 19) (h20 : ¬ x = 20) (h21 : ¬ x = 21) (h22 : ¬ x = 22) (h23 : ¬ x = 23) (h24 : ¬ x = 24) (h25 : ¬ x = 25) (h26 : ¬ x = 26) (h27 : ¬ x = 27) (h28 : ¬ x = 28) (h29 : ¬ x = 29) (h30 : ¬ x = 30) (h31 : ¬ x = 31) (h32 : ¬ x = 32) (h33 : ¬ x = 33) (h34 : ¬ x = 34) (h35 : ¬ x = 35) (h36 : ¬ x = 36) (h37 : ¬ x = 37) (h38 : ¬ x = 38) (h39 : ¬ x = 39) (h40 : ¬ x = 40) (h41 : ¬ x = 41) : x.toInt < 0 ∨ 41 < x.toInt := by
  refine Classical.byContradiction fun q => ?_
  have e : ∀ v : Nat, v < 100 → x.toInt = (v : Int) → x = nI v := fun v hv h => Int32.toInt_inj.mp (by rw [nI_toInt (by omega)]; exact h)
  rcases (show x.toInt = 0 ∨ x.toInt = 1 ∨ x.toInt = 2 ∨ x.toInt = 3 ∨ x.toInt = 4 ∨ x.toInt = 5 ∨ x.toInt = 6 ∨ x.toInt = 7 ∨ x.toInt = 8 ∨ x.toInt = 9 ∨ x.toInt = 10 ∨ x.toInt = 11 ∨ x.toInt = 12 ∨ x.toInt = 13 ∨ x.toInt = 14 ∨ x.toInt = 15 ∨ x.toInt = 16 ∨ x.toInt = 17 ∨ x.toInt = 18 ∨ x.toInt = 19 ∨ x.toInt = 20 ∨ x.toInt = 21 ∨ x.toInt = 22 ∨ x.toInt = 23 ∨ x.toInt = 24 ∨ x.toInt = 25 ∨ x.toInt = 26 ∨ x.toInt = 27 ∨ x.toInt = 28 ∨ x.toInt = 29 ∨ x.toInt = 30 ∨ x.toInt = 31 ∨ x.toInt = 32 ∨ x.toInt = 33 ∨ x.toInt = 34 ∨ x.toInt = 35 ∨ x.toInt = 36 ∨ x.toInt = 37 ∨ x.toInt = 38 ∨ x.toInt = 39 ∨ x.toInt = 40 ∨ x.toInt = 41 by omega) with h | h | h | h | h | h | h | h | h | h | h | h | h | h | h | h | h | h | h | h | h | h | h | h | h | h | h | h | h | h | h | h | h | h | h | h | h | h | h | h | h | h
  · exact h0 (e 0 (by decide) h)
  · exact h1 (e 1 (by decide) h)
  · exact h2 (e 2 (by decide) h)
  · exact h3 (e 3 (by decide) h)
  · exact h4 (e 4 (by decide) h)
  · exact h5 (e 5 (by decide) h)
  · exact h6 (e 6 (by decide) h)
  · exact h7 (e 7 (by decide) h)
  · exact h8 (e 8 (by decide) h)
  · exact h9 (e 9 (by decide) h)
  · exact h10 (e 10 (by decide) h)
  · exact h11 (e 11 (by decide) h)
  · exact h12 (e 12 (by decide) h)
  · exact h13 (e 13 (by decide) h)
  · exact h14 (e 14 (by decide) h)
  · exact h15 (e 15 (by decide) h)
  · exact h16 (e 16 (by decide) h)
  · exact h17 (e 17 (by decide) h)
  · exact h18 (e 18 (by decide) h)
  · exact h19 (e 19 (by decide) h)
  · exact h20 (e 20 (by decide) h)
  · exact h21 (e 21 (by decide) h)
  · exact h22 (e 22 (by decide) h)
  · exact h23 (e 23 (by decide) h)
  · exact h24 (e 24 (by decide) h)
  · exact h25 (e 25 (by decide) h)
  · exact h26 (e 26 (by decide) h)
  · exact h27 (e 27 (by decide) h)
  · exact h28 (e 28 (by decide) h)
  · exact h29 (e 29 (by decide) h)
  · exact h30 (e 30 (by decide) h)
  · exact h31 (e 31 (by decide) h)
  · exact h32 (e 32 (by decide) h)
  · exact h33 (e 33 (by decide) h)
  · exact h34 (e 34 (by decide) h)
  · exact h35 (e 35 (by decide) h)
  · exact h36 (e 36 (by decide) h)
  · exact h37 (e 37 (by decide) h)
  · exact h38 (e 38 (by decide) h)
  · exact h39 (e 39 (by decide) h)
  · exact h40 (e 40 (by decide) h)
  · exact h41 (e 41 (by decide) h)
theorem tab_out_1_6 {x : Int32} (h1 : ¬ x = 1) (h2 : ¬ x = 2) (h3 : ¬ x = 3) (h4 : ¬ x = 4) (h5 : ¬ x = 5) (h6 : ¬ x = 6) : x.toInt < 1 ∨ 6 < x.toInt := by
  refine Classical.byContradiction fun q => ?_
  have e : ∀ v : Nat, v < 100 → x.toInt = (v : Int) → x = nI v := fun v hv h => Int32.toInt_inj.mp (by rw [nI_toInt (by omega)]; exact h)
  rcases (show x.toInt = 1 ∨ x.toInt = 2 ∨ x.toInt = 3 ∨ x.toInt = 4 ∨ x.toInt = 5 ∨ x.toInt = 6 by omega) with h | h | h | h | h | h
  · exact h1 (e 1 (by decide) h)
  · exact h2 (e 2 (by decide) h)
  · exact h3 (e 3 (by decide) h)
  · exact h4 (e 4 (by decide) h)
  · exact h5 (e 5 (by decide) h)
  · exact h6 (e 6 (by decide) h)
theorem tab_out_1_3 {x : Int32} (h1 : ¬ x = 1) (h2 : ¬ x = 2) (h3 : ¬ x = 3) : x.toInt < 1 ∨ 3 < x.toInt := by
  refine Classical.byContradiction fun q => ?_
  have e : ∀ v : Nat, v < 100 → x.toInt = (v : Int) → x = nI v := fun v hv h => Int32.toInt_inj.mp (by rw [nI_toInt (by omega)]; exact h)
  rcases (show x.toInt = 1 ∨ x.toInt = 2 ∨ x.toInt = 3 by omega) with h | h | h
  · exact h1 (e 1 (by decide) h)
  · exact h2 (e 2 (by decide) h)
  · exact h3 (e 3 (by decide) h)
theorem lk_out {x : Int32} {a b : Int32} (ha : ¬ x = a) (hb : ¬ x = b) {dflt o2 o6 : Int} : Op.lookupswitch.offset [(a.toInt, o2), (b.toInt, o6)] dflt x.toInt = dflt := by
  have e2 : ¬ x.toInt = a.toInt := fun q => ha (Int32.toInt_inj.mp q)
  have e6 : ¬ x.toInt = b.toInt := fun q => hb (Int32.toInt_inj.mp q)
  simp [Op.lookupswitch.offset, e2, e6, Ne.symm e2, Ne.symm e6]
/-! ===== what the two sides are held against ===== -/
/-- the first number from t on, of m, with p -/
def fo_N (p : Nat → Bool) : Nat → Nat → Option Nat
  | 0, _ => none
  | m + 1, t => if p t then some t else fo_N p m (t + 1)
def oI : Option Nat → Int32
  | none => -1
  | some t => nI t
/-- a set, built up by numbers -/
def bs_N (p : Nat → Bool) : Nat → Nat → Int32 → Int32
  | 0, _, acc => acc
  | m + 1, t, acc => bs_N p m (t + 1) (if p t then acc ||| ((1 : Int32) <<< (nI t &&& 31)) else acc)
/-- a sum -/
def sm_N (f : Nat → Int32) : Nat → Nat → Int32 → Int32
  | 0, _, acc => acc
  | m + 1, t, acc => sm_N f m (t + 1) (acc + f t)
/-- the things on a ground: how many, kinds, places, heights, A's, the season, how far -/
abbrev gr_T : Type := Nat × (Nat → Int32) × (Nat → Int32) × (Nat → Int32) × (Nat → Int32) × (Nat → Int32) × Int32 × Int32
abbrev g_n (G : gr_T) : Nat := G.1
abbrev g_k (G : gr_T) : Nat → Int32 := G.2.1
abbrev g_x (G : gr_T) : Nat → Int32 := G.2.2.1
abbrev g_y (G : gr_T) : Nat → Int32 := G.2.2.2.1
abbrev g_h (G : gr_T) : Nat → Int32 := G.2.2.2.2.1
abbrev g_a (G : gr_T) : Nat → Int32 := G.2.2.2.2.2.1
abbrev g_s (G : gr_T) : Int32 := G.2.2.2.2.2.2.1
abbrev g_f (G : gr_T) : Int32 := G.2.2.2.2.2.2.2
abbrev is_H (k : Int32) : Prop := k = 1 ∨ k = 3 ∨ k = 4 ∨ k = 5
abbrev is_Tr (k : Int32) : Prop := k = 2 ∨ k = 6
/-- the class's ground: the object g holds G -/
def gv_T (I : Nat → Nat → Int32) (g : Nat) (G : gr_T) : Prop := g_n G ≤ 8 ∧ I g 0 = nI (g_n G) ∧ I g 1 = g_s G ∧ I g 2 = g_f G ∧ ∀ t, t < g_n G → I (g + 1) t = g_k G t ∧ I (g + 2) t = g_x G t ∧ I (g + 3) t = g_y G t ∧ I (g + 4) t = g_h G t ∧ I (g + 5) t = g_a G t
/-- the reference's -/
def mv_T (I : Nat → Nat → Int32) (G : gr_T) : Prop := g_n G ≤ 8 ∧ I 46 0 = nI (g_n G) ∧ I 46 1 = g_s G ∧ I 46 2 = g_f G ∧ ∀ t, t < g_n G → I 48 t = g_k G t ∧ I 49 t = g_x G t ∧ I 50 t = g_y G t ∧ I 51 t = g_h G t ∧ I 52 t = g_a G t
theorem gv_8 {I : Nat → Nat → Int32} {g : Nat} {G : gr_T} (h : gv_T I g G) : g_n G ≤ 8 := h.1
theorem gv_c {I : Nat → Nat → Int32} {g : Nat} {G : gr_T} (h : gv_T I g G) : I g 0 = nI (g_n G) := h.2.1
theorem gv_s {I : Nat → Nat → Int32} {g : Nat} {G : gr_T} (h : gv_T I g G) : I g 1 = g_s G := h.2.2.1
theorem gv_f {I : Nat → Nat → Int32} {g : Nat} {G : gr_T} (h : gv_T I g G) : I g 2 = g_f G := h.2.2.2.1
theorem gv_k {I : Nat → Nat → Int32} {g t : Nat} {G : gr_T} (h : gv_T I g G) (ht : t < g_n G) : I (g + 1) t = g_k G t := (h.2.2.2.2 t ht).1
theorem gv_x {I : Nat → Nat → Int32} {g t : Nat} {G : gr_T} (h : gv_T I g G) (ht : t < g_n G) : I (g + 2) t = g_x G t := (h.2.2.2.2 t ht).2.1
theorem gv_y {I : Nat → Nat → Int32} {g t : Nat} {G : gr_T} (h : gv_T I g G) (ht : t < g_n G) : I (g + 3) t = g_y G t := (h.2.2.2.2 t ht).2.2.1
theorem gv_h {I : Nat → Nat → Int32} {g t : Nat} {G : gr_T} (h : gv_T I g G) (ht : t < g_n G) : I (g + 4) t = g_h G t := (h.2.2.2.2 t ht).2.2.2.1
theorem gv_a {I : Nat → Nat → Int32} {g t : Nat} {G : gr_T} (h : gv_T I g G) (ht : t < g_n G) : I (g + 5) t = g_a G t := (h.2.2.2.2 t ht).2.2.2.2
theorem mv_8 {I : Nat → Nat → Int32} {G : gr_T} (h : mv_T I G) : g_n G ≤ 8 := h.1
theorem mv_c {I : Nat → Nat → Int32} {G : gr_T} (h : mv_T I G) : I 46 0 = nI (g_n G) := h.2.1
theorem mv_s {I : Nat → Nat → Int32} {G : gr_T} (h : mv_T I G) : I 46 1 = g_s G := h.2.2.1
theorem mv_f {I : Nat → Nat → Int32} {G : gr_T} (h : mv_T I G) : I 46 2 = g_f G := h.2.2.2.1
theorem mv_k {I : Nat → Nat → Int32} {t : Nat} {G : gr_T} (h : mv_T I G) (ht : t < g_n G) : I 48 t = g_k G t := (h.2.2.2.2 t ht).1
theorem mv_x {I : Nat → Nat → Int32} {t : Nat} {G : gr_T} (h : mv_T I G) (ht : t < g_n G) : I 49 t = g_x G t := (h.2.2.2.2 t ht).2.1
theorem mv_y {I : Nat → Nat → Int32} {t : Nat} {G : gr_T} (h : mv_T I G) (ht : t < g_n G) : I 50 t = g_y G t := (h.2.2.2.2 t ht).2.2.1
theorem mv_h {I : Nat → Nat → Int32} {t : Nat} {G : gr_T} (h : mv_T I G) (ht : t < g_n G) : I 51 t = g_h G t := (h.2.2.2.2 t ht).2.2.2.1
theorem mv_a {I : Nat → Nat → Int32} {t : Nat} {G : gr_T} (h : mv_T I G) (ht : t < g_n G) : I 52 t = g_a G t := (h.2.2.2.2 t ht).2.2.2.2
theorem gv_keep {I J : Nat → Nat → Int32} {g : Nat} {G : gr_T} (h : gv_T I g G) (h0 : J g 0 = I g 0) (h1 : J g 1 = I g 1) (h2 : J g 2 = I g 2) (ha : ∀ j, 1 ≤ j → j ≤ 5 → J (g + j) = I (g + j)) : gv_T J g G := by
  refine ⟨h.1, h0.trans h.2.1, h1.trans h.2.2.1, h2.trans h.2.2.2.1, fun t ht => ?_⟩
  rw [ha 1 (by omega) (by omega), ha 2 (by omega) (by omega), ha 3 (by omega) (by omega), ha 4 (by omega) (by omega), ha 5 (by omega) (by omega)]
  exact h.2.2.2.2 t ht
def s_at (G : gr_T) (x y : Int32) : Option Nat := fo_N (fun t => g_x G t == x && g_y G t == y) (g_n G) 0
def s_tall (G : gr_T) (t : Nat) : Int32 := if g_k G t = 2 then (if g_s G = 1 then g_h G t + g_a G t else 0) else if g_k G t = 6 then g_h G t + g_a G t else g_h G t
def s_eye (G : gr_T) (t : Nat) : Int32 := if g_k G t = 3 then g_h G t + g_a G t else g_h G t
def s_dist (G : gr_T) (i j : Nat) : Int32 := s_max (s_abs (g_x G i - g_x G j)) (s_abs (g_y G i - g_y G j))
def s_gcd (a b : Nat) : Nat := if Nat.gcd a b = 0 then 1 else Nat.gcd a b
def gl_N (a b : Nat) : Nat → Nat
  | 0 => 1
  | d + 1 => if d = 0 then 1 else if a % (d + 1) = 0 ∧ b % (d + 1) = 0 then d + 1 else gl_N a b d
theorem gl_gcd : ∀ a, a < 10 → ∀ b, b < 10 → gl_N a b (if a < b then b else a) = s_gcd a b := by decide +kernel
theorem rm_N : ∀ a, a < 10 → ∀ d, d < 9 → nI a - nI a / nI (d + 1) * nI (d + 1) = nI (a % (d + 1)) := by decide +kernel
theorem ab_N : ∀ a, a < 10 → ∀ b, b < 10 → s_abs (nI a - nI b) = nI (if a < b then b - a else a - b) := by decide +kernel
/-- where a thing stands: within the ground -/
def xy_T (G : gr_T) (t : Nat) : Prop := ∃ u v, u < 10 ∧ v < 10 ∧ g_x G t = nI u ∧ g_y G t = nI v
def s_P (G : gr_T) (i j : Nat) : Nat := s_gcd (s_abs (g_x G j - g_x G i)).toNatClampNeg (s_abs (g_y G j - g_y G i)).toNatClampNeg
def s_st (G : gr_T) (i j P k : Nat) : Option Nat := s_at G (g_x G i + (g_x G j - g_x G i) / nI P * nI k) (g_y G i + (g_y G j - g_y G i) / nI P * nI k)
abbrev s_up (G : gr_T) (i j P k t : Nat) : Prop := s_eye G i * (nI P - nI k) + g_h G j * nI k < s_tall G t * nI P
def s_nx (acc : Int32) (t : Nat) : Int32 := if acc = -1 ∨ nI t < acc then nI t else acc
def s_bl (G : gr_T) (i j P : Nat) : Nat → Nat → Int32 → Int32
  | 0, _, acc => acc
  | m + 1, k, acc => s_bl G i j P m (k + 1) (match s_st G i j P k with
    | none => acc
    | some t => if s_up G i j P k t then s_nx acc t else acc)
def s_bar (G : gr_T) (i j : Nat) : Int32 := s_bl G i j (s_P G i j) (s_P G i j - 1) 1 (-1)
theorem s_gcd_1 (a b : Nat) : 1 ≤ s_gcd a b := by unfold s_gcd; split <;> omega
theorem s_gcd_9 : ∀ a, a < 10 → ∀ b, b < 10 → s_gcd a b < 10 := by decide +kernel
theorem fo_lt {p : Nat → Bool} : ∀ m t0 t, fo_N p m t0 = some t → t0 ≤ t ∧ t < t0 + m ∧ p t = true := by
  intro m
  induction m with
  | zero => intro t0 t h; cases h
  | succ m ih =>
    intro t0 t h
    unfold fo_N at h
    split at h
    · next hp => cases h; exact ⟨Nat.le_refl _, by omega, hp⟩
    · obtain ⟨a, b, c⟩ := ih (t0 + 1) t h
      exact ⟨by omega, by omega, c⟩
theorem s_at_lt {G : gr_T} {x y : Int32} {t : Nat} (h : s_at G x y = some t) : t < g_n G := by
  have := fo_lt _ _ _ h
  omega
theorem nI_nm1 {t : Nat} (h : t < 2 ^ 31) : ¬ nI t = -1 := by
  intro q
  have h2 := congrArg Int32.toInt q
  rw [nI_toInt h] at h2
  have e : Int32.toInt (-1) = -1 := by decide
  omega
theorem nI_n0 {t : Nat} (h : t < 2 ^ 31) (h0 : 0 < t) : ¬ nI t = 0 := by
  rw [show (0 : Int32) = nI 0 from rfl, nI_inj h (by omega)]
  omega
/-- who looks into whom, walls and trees between -/
def s_look (G : gr_T) (i j : Nat) : Prop := ¬ g_k G i = 5 ∧ s_dist G i j ≤ g_f G ∧ s_bar G i j = -1
abbrev s_lookD (G : gr_T) (i j : Nat) : Decidable (s_look G i j) := inferInstanceAs (Decidable (¬ g_k G i = 5 ∧ s_dist G i j ≤ g_f G ∧ s_bar G i j = -1))
def b_look (G : gr_T) (i j : Nat) : Bool := !(g_k G i == 5) && decide (s_dist G i j ≤ g_f G) && (s_bar G i j == -1)
theorem b_look_iff {G : gr_T} {i j : Nat} : b_look G i j = true ↔ s_look G i j := by simp [b_look, s_look, and_assoc]
/-- those who look into j, as a set -/
def s_lks (G : gr_T) (j : Nat) : Int32 := bs_N (fun i => !(i == j) && decide (is_H (g_k G i)) && b_look G i j) (g_n G) 0 0
def s_lk (G : gr_T) (j : Nat) : Int32 := if j < g_n G ∧ is_H (g_k G j) then s_lks G j else 0
def hxy_T (G : gr_T) : Prop := ∀ t, t < g_n G → is_H (g_k G t) → xy_T G t
theorem is_H_dec (k : Int32) : is_H k ↔ (k == 1 || k == 3 || k == 4 || k == 5) = true := by simp [is_H, or_assoc]

