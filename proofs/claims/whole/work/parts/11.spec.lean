/-! more rows: a call that leaves another int memory; switches; arraycopy's words -/
def q_m (P : (Nat → Nat → Int32) → Prop) (L : Nat → Nat → Int64) (Rf : Nat → Nat → Option Nat) (n : Nat) : Option vv_T → mx_T → Prop := fun r Y => r = none ∧ ∃ I, Y = (I, L, Rf, n) ∧ P I
def q_n (P : Int32 → (Nat → Nat → Int32) → Prop) (L : Nat → Nat → Int64) (Rf : Nat → Nat → Option Nat) (n : Nat) : Option vv_T → mx_T → Prop := fun r Y => ∃ v, r = some (vv_I v) ∧ ∃ I, Y = (I, L, Rf, n) ∧ P v I
theorem q_m_of {P : (Nat → Nat → Int32) → Prop} {I : Nat → Nat → Int32} {L : Nat → Nat → Int64} {Rf : Nat → Nat → Option Nat} {n : Nat} (h : P I) : q_m P L Rf n none (I, L, Rf, n) := ⟨rfl, I, rfl, h⟩
theorem q_n_of {P : Int32 → (Nat → Nat → Int32) → Prop} {v : Int32} {I : Nat → Nat → Int32} {L : Nat → Nat → Int64} {Rf : Nat → Nat → Option Nat} {n : Nat} (h : P v I) : q_n P L Rf n (some (vv_I v)) (I, L, Rf, n) := ⟨v, rfl, I, rfl, h⟩
section RG
variable {l : Launch} {k : mm_T} {d mc ms pc np : Nat} {ls st : List vv_T} {Q : Option vv_T → mx_T → Prop} {I : Nat → Nat → Int32} {L L1 : Nat → Nat → Int64} {Rf R1 : Nat → Nat → Option Nat} {n n1 : Nat} {X : mx_T}
theorem rr_cVm {k2 : mm_T} {i m d2 a ci : Nat} {As st0 rest : List vv_T} {P : (Nat → Nat → Int32) → Prop} (hM : wm_C l k2 d2 0 0 (vv_A (some a) :: As) X (q_m P L1 R1 n1)) (hd : op_at k pc (.invokevirtual i) 3 np) (hc : cl_V k k2 i m) (hdd : d2 + 1 ≤ d) (hk : kO a = ci) (hci : ci < 6) (hcn : ∀ q, mCl[ci]? = some q → q.1 = k2.1.cls) (ha : a < X.2.2.2)
    (hn : As.length = m) (hst : As.reverse ++ vv_A (some a) :: rest = st0) (hW : (rest.map vv_c).sum ≤ 8) (kk : ∀ I2 : Nat → Nat → Int32, P I2 → wm_W l k d mc ms np ls rest (I2, L1, R1, n1) Q) : wm_W l k d mc ms pc ls st0 X Q :=
  rr_callV hd hc hM hdd hk hci hcn ha hn hst hW rfl rfl (fun r Z h => by obtain ⟨rfl, I2, rfl, h2⟩ := h; exact kk I2 h2)
theorem rr_cVn {k2 : mm_T} {i m d2 a ci : Nat} {As st0 rest : List vv_T} {P : Int32 → (Nat → Nat → Int32) → Prop} (hM : wm_C l k2 d2 0 0 (vv_A (some a) :: As) X (q_n P L1 R1 n1)) (hd : op_at k pc (.invokevirtual i) 3 np) (hc : cl_V k k2 i m) (hdd : d2 + 1 ≤ d) (hk : kO a = ci) (hci : ci < 6) (hcn : ∀ q, mCl[ci]? = some q → q.1 = k2.1.cls) (ha : a < X.2.2.2)
    (hn : As.length = m) (hst : As.reverse ++ vv_A (some a) :: rest = st0) (hW : (rest.map vv_c).sum ≤ 8) (kk : ∀ (v : Int32) (I2 : Nat → Nat → Int32), P v I2 → wm_W l k d mc ms np ls (vv_I v :: rest) (I2, L1, R1, n1) Q) : wm_W l k d mc ms pc ls st0 X Q :=
  rr_callV hd hc hM hdd hk hci hcn ha hn hst hW rfl rfl (fun r Z h => by obtain ⟨v, rfl, I2, rfl, h2⟩ := h; exact kk v I2 h2)
end RG
theorem gw_copy_X1_52 : Cond.methodLink RX1 52 arraycopyName ∈ GW ∧ Cond.native arraycopyName ∈ GW ∧ Cond.static arraycopyName ∈ GW ∧ Cond.initialized "java/lang/System" ∈ GW := ⟨gw_in (i := 475) (by decide +kernel) (by decide +kernel), gw_in (i := 292) (by decide +kernel) (by decide +kernel), gw_in (i := 291) (by decide +kernel) (by decide +kernel), gw_in (i := 85) (by decide +kernel) (by decide +kernel)⟩
theorem gw_copy_X4_85 : Cond.methodLink RX4 85 arraycopyName ∈ GW ∧ Cond.native arraycopyName ∈ GW ∧ Cond.static arraycopyName ∈ GW ∧ Cond.initialized "java/lang/System" ∈ GW := ⟨gw_in (i := 290) (by decide +kernel) (by decide +kernel), gw_in (i := 292) (by decide +kernel) (by decide +kernel), gw_in (i := 291) (by decide +kernel) (by decide +kernel), gw_in (i := 85) (by decide +kernel) (by decide +kernel)⟩
theorem tab_out_0_2 {x : Int32} (h0 : ¬ x = 0) (h1 : ¬ x = 1) (h2 : ¬ x = 2) : x.toInt < 0 ∨ 2 < x.toInt := by
  refine Classical.byContradiction fun q => ?_
  have e : ∀ v : Nat, v < 100 → x.toInt = (v : Int) → x = nI v := fun v hv h => Int32.toInt_inj.mp (by rw [nI_toInt (by omega)]; exact h)
  rcases (show x.toInt = 0 ∨ x.toInt = 1 ∨ x.toInt = 2 by omega) with h | h | h
  · exact h0 (e 0 (by decide) h)
  · exact h1 (e 1 (by decide) h)
  · exact h2 (e 2 (by decide) h)
theorem tab_out_0_3 {x : Int32} (h0 : ¬ x = 0) (h1 : ¬ x = 1) (h2 : ¬ x = 2) (h3 : ¬ x = 3) : x.toInt < 0 ∨ 3 < x.toInt := by
  refine Classical.byContradiction fun q => ?_
  have e : ∀ v : Nat, v < 100 → x.toInt = (v : Int) → x = nI v := fun v hv h => Int32.toInt_inj.mp (by rw [nI_toInt (by omega)]; exact h)
  rcases (show x.toInt = 0 ∨ x.toInt = 1 ∨ x.toInt = 2 ∨ x.toInt = 3 by omega) with h | h | h | h
  · exact h0 (e 0 (by decide) h)
  · exact h1 (e 1 (by decide) h)
  · exact h2 (e 2 (by decide) h)
  · exact h3 (e 3 (by decide) h)
theorem tab_out_0_4 {x : Int32} (h0 : ¬ x = 0) (h1 : ¬ x = 1) (h2 : ¬ x = 2) (h3 : ¬ x = 3) (h4 : ¬ x = 4) : x.toInt < 0 ∨ 4 < x.toInt := by
  refine Classical.byContradiction fun q => ?_
  have e : ∀ v : Nat, v < 100 → x.toInt = (v : Int) → x = nI v := fun v hv h => Int32.toInt_inj.mp (by rw [nI_toInt (by omega)]; exact h)
  rcases (show x.toInt = 0 ∨ x.toInt = 1 ∨ x.toInt = 2 ∨ x.toInt = 3 ∨ x.toInt = 4 by omega) with h | h | h | h | h
  · exact h0 (e 0 (by decide) h)
  · exact h1 (e 1 (by decide) h)
  · exact h2 (e 2 (by decide) h)
  · exact h3 (e 3 (by decide) h)
  · exact h4 (e 4 (by decide) h)
theorem tab_out_0_5 {x : Int32} (h0 : ¬ x = 0) (h1 : ¬ x = 1) (h2 : ¬ x = 2) (h3 : ¬ x = 3) (h4 : ¬ x = 4) (h5 : ¬ x = 5) : x.toInt < 0 ∨ 5 < x.toInt := by
  refine Classical.byContradiction fun q => ?_
  have e : ∀ v : Nat, v < 100 → x.toInt = (v : Int) → x = nI v := fun v hv h => Int32.toInt_inj.mp (by rw [nI_toInt (by omega)]; exact h)
  rcases (show x.toInt = 0 ∨ x.toInt = 1 ∨ x.toInt = 2 ∨ x.toInt = 3 ∨ x.toInt = 4 ∨ x.toInt = 5 by omega) with h | h | h | h | h | h
  · exact h0 (e 0 (by decide) h)
  · exact h1 (e 1 (by decide) h)
  · exact h2 (e 2 (by decide) h)
  · exact h3 (e 3 (by decide) h)
  · exact h4 (e 4 (by decide) h)
  · exact h5 (e 5 (by decide) h)
theorem tab_out_0_6 {x : Int32} (h0 : ¬ x = 0) (h1 : ¬ x = 1) (h2 : ¬ x = 2) (h3 : ¬ x = 3) (h4 : ¬ x = 4) (h5 : ¬ x = 5) (h6 : ¬ x = 6) : x.toInt < 0 ∨ 6 < x.toInt := by
  refine Classical.byContradiction fun q => ?_
  have e : ∀ v : Nat, v < 100 → x.toInt = (v : Int) → x = nI v := fun v hv h => Int32.toInt_inj.mp (by rw [nI_toInt (by omega)]; exact h)
  rcases (show x.toInt = 0 ∨ x.toInt = 1 ∨ x.toInt = 2 ∨ x.toInt = 3 ∨ x.toInt = 4 ∨ x.toInt = 5 ∨ x.toInt = 6 by omega) with h | h | h | h | h | h | h
  · exact h0 (e 0 (by decide) h)
  · exact h1 (e 1 (by decide) h)
  · exact h2 (e 2 (by decide) h)
  · exact h3 (e 3 (by decide) h)
  · exact h4 (e 4 (by decide) h)
  · exact h5 (e 5 (by decide) h)
  · exact h6 (e 6 (by decide) h)
theorem tab_out_0_8 {x : Int32} (h0 : ¬ x = 0) (h1 : ¬ x = 1) (h2 : ¬ x = 2) (h3 : ¬ x = 3) (h4 : ¬ x = 4) (h5 : ¬ x = 5) (h6 : ¬ x = 6) (h7 : ¬ x = 7) (h8 : ¬ x = 8) : x.toInt < 0 ∨ 8 < x.toInt := by
  refine Classical.byContradiction fun q => ?_
  have e : ∀ v : Nat, v < 100 → x.toInt = (v : Int) → x = nI v := fun v hv h => Int32.toInt_inj.mp (by rw [nI_toInt (by omega)]; exact h)
  rcases (show x.toInt = 0 ∨ x.toInt = 1 ∨ x.toInt = 2 ∨ x.toInt = 3 ∨ x.toInt = 4 ∨ x.toInt = 5 ∨ x.toInt = 6 ∨ x.toInt = 7 ∨ x.toInt = 8 by omega) with h | h | h | h | h | h | h | h | h
  · exact h0 (e 0 (by decide) h)
  · exact h1 (e 1 (by decide) h)
  · exact h2 (e 2 (by decide) h)
  · exact h3 (e 3 (by decide) h)
  · exact h4 (e 4 (by decide) h)
  · exact h5 (e 5 (by decide) h)
  · exact h6 (e 6 (by decide) h)
  · exact h7 (e 7 (by decide) h)
  · exact h8 (e 8 (by decide) h)
theorem tab_out_0_41 {x : Int32} (h0 : ¬ x = 0) (h1 : ¬ x = 1) (h2 : ¬ x = 2) (h3 : ¬ x = 3) (h4 : ¬ x = 4) (h5 : ¬ x = 5) (h6 : ¬ x = 6) (h7 : ¬ x = 7) (h8 : ¬ x = 8) (h9 : ¬ x = 9) (h10 : ¬ x = 10) (h11 : ¬ x = 11) (h12 : ¬ x = 12) (h13 : ¬ x = 13) (h14 : ¬ x = 14) (h15 : ¬ x = 15) (h16 : ¬ x = 16) (h17 : ¬ x = 17) (h18 : ¬ x = 18) (h19 : ¬ x = 19) (h20 : ¬ x = 20) (h21 : ¬ x = 21) (h22 : ¬ x = 22) (h23 : ¬ x = 23) (h24 : ¬ x = 24) (h25 : ¬ x = 25) (h26 : ¬ x = 26) (h27 : ¬ x = 27) (h28 : ¬ x = 28) (h29 : ¬ x = 29) (h30 : ¬ x = 30) (h31 : ¬ x = 31) (h32 : ¬ x = 32) (h33 : ¬ x = 33) (h34 : ¬ x = 34) (h35 : ¬ x = 35) (h36 : ¬ x = 36) (h37 : ¬ x = 37) (h38 : ¬ x = 38) (h39 : ¬ x = 39) (h40 : ¬ x = 40) (h41 : ¬ x = 41) : x.toInt < 0 ∨ 41 < x.toInt := by
  refine Classical.byContradiction fun q => ?_
  have e : ∀ v : Nat, v < 100 → x.toInt = (v : Int) → x = nI v := fun v hv h => Int32.toInt_inj.mp (by rw [nI_toInt (by omega)]; exact h)
  rcases (show x.toInt = 0 ∨ x.toInt = 1 ∨ x.toInt = 2 ∨ x.toInt = 3 ∨ x.toInt = 4 ∨ x.toInt = 5 ∨ x.toInt = 6 ∨ x.toInt = 7 ∨ x.toInt = 8 ∨ x.toInt = 9 ∨ x.toInt = 10 ∨ x.toInt = 11 ∨ x.toInt = 12 ∨ x.toInt = 13 ∨ x.toInt = 14 ∨ x.toInt = 15 ∨ x.toInt = 16 ∨ x.toInt = 17 ∨ x.toInt = 18 ∨ x.toInt = 19 ∨ x.toInt = 20 ∨ x.toInt = 21 ∨ x.toInt = 22 ∨ x.toInt = 23 ∨ x.toInt = 24 ∨ x.toInt = 25 ∨ x.toInt = 26 ∨ x.toInt = 27 ∨ x.toInt = 28 ∨ x.toInt = 29 ∨ x.toInt = 30 ∨ x.toInt = 31 ∨ x.toInt = 32 ∨ x.toInt = 33 ∨ x.toInt = 34 ∨ x.toInt = 35 ∨ x.toInt = 36 ∨ x.toInt = 37 ∨ x.toInt = 38 ∨ x.toInt = 39 ∨ x.toInt = 40 ∨ x.toInt = 41 by omega) with h | h | h | h | h | h | h | h | h | h | h | h | h | h | h | h | h | h | h | h | h | h | h | h | h | h | h | h | h | h | h | h | h | h | h | h | h | h | h | h | h | h
  · exact h0 (e 0 (by decide) h)
  · exact h1 (e 1 (by decide) h)
  · exact h2 (e 2 (by decide) h)
  · exact h3 (e 3 (by decide) h)
  · exact h4 (e 4 (by decide) h)
  · exact h5 (e 5 (by decide) h)
  · exact h6 (e 6 (by decide) h)
  · exact h7 (e 7 (by decide) h)
  · exact h8 (e 8 (by decide) h)
  · exact h9 (e 9 (by decide) h)
  · exact h10 (e 10 (by decide) h)
  · exact h11 (e 11 (by decide) h)
  · exact h12 (e 12 (by decide) h)
  · exact h13 (e 13 (by decide) h)
  · exact h14 (e 14 (by decide) h)
  · exact h15 (e 15 (by decide) h)
  · exact h16 (e 16 (by decide) h)
  · exact h17 (e 17 (by decide) h)
  · exact h18 (e 18 (by decide) h)
  · exact h19 (e 19 (by decide) h)
  · exact h20 (e 20 (by decide) h)
  · exact h21 (e 21 (by decide) h)
  · exact h22 (e 22 (by decide) h)
  · exact h23 (e 23 (by decide) h)
  · exact h24 (e 24 (by decide) h)
  · exact h25 (e 25 (by decide) h)
  · exact h26 (e 26 (by decide) h)
  · exact h27 (e 27 (by decide) h)
  · exact h28 (e 28 (by decide) h)
  · exact h29 (e 29 (by decide) h)
  · exact h30 (e 30 (by decide) h)
  · exact h31 (e 31 (by decide) h)
  · exact h32 (e 32 (by decide) h)
  · exact h33 (e 33 (by decide) h)
  · exact h34 (e 34 (by decide) h)
  · exact h35 (e 35 (by decide) h)
  · exact h36 (e 36 (by decide) h)
  · exact h37 (e 37 (by decide) h)
  · exact h38 (e 38 (by decide) h)
  · exact h39 (e 39 (by decide) h)
  · exact h40 (e 40 (by decide) h)
  · exact h41 (e 41 (by decide) h)
theorem tab_out_1_6 {x : Int32} (h1 : ¬ x = 1) (h2 : ¬ x = 2) (h3 : ¬ x = 3) (h4 : ¬ x = 4) (h5 : ¬ x = 5) (h6 : ¬ x = 6) : x.toInt < 1 ∨ 6 < x.toInt := by
  refine Classical.byContradiction fun q => ?_
  have e : ∀ v : Nat, v < 100 → x.toInt = (v : Int) → x = nI v := fun v hv h => Int32.toInt_inj.mp (by rw [nI_toInt (by omega)]; exact h)
  rcases (show x.toInt = 1 ∨ x.toInt = 2 ∨ x.toInt = 3 ∨ x.toInt = 4 ∨ x.toInt = 5 ∨ x.toInt = 6 by omega) with h | h | h | h | h | h
  · exact h1 (e 1 (by decide) h)
  · exact h2 (e 2 (by decide) h)
  · exact h3 (e 3 (by decide) h)
  · exact h4 (e 4 (by decide) h)
  · exact h5 (e 5 (by decide) h)
  · exact h6 (e 6 (by decide) h)
theorem tab_out_1_3 {x : Int32} (h1 : ¬ x = 1) (h2 : ¬ x = 2) (h3 : ¬ x = 3) : x.toInt < 1 ∨ 3 < x.toInt := by
  refine Classical.byContradiction fun q => ?_
  have e : ∀ v : Nat, v < 100 → x.toInt = (v : Int) → x = nI v := fun v hv h => Int32.toInt_inj.mp (by rw [nI_toInt (by omega)]; exact h)
  rcases (show x.toInt = 1 ∨ x.toInt = 2 ∨ x.toInt = 3 by omega) with h | h | h
  · exact h1 (e 1 (by decide) h)
  · exact h2 (e 2 (by decide) h)
  · exact h3 (e 3 (by decide) h)
theorem lk_out {x : Int32} {a b : Int32} (ha : ¬ x = a) (hb : ¬ x = b) {dflt o2 o6 : Int} : Op.lookupswitch.offset [(a.toInt, o2), (b.toInt, o6)] dflt x.toInt = dflt := by
  have e2 : ¬ x.toInt = a.toInt := fun q => ha (Int32.toInt_inj.mp q)
  have e6 : ¬ x.toInt = b.toInt := fun q => hb (Int32.toInt_inj.mp q)
  simp [Op.lookupswitch.offset, e2, e6, Ne.symm e2, Ne.symm e6]
/-! ===== what the two sides are held against ===== -/
/-- the first number from t on, of m, with p -/
def fo_N (p : Nat → Bool) : Nat → Nat → Option Nat
  | 0, _ => none
  | m + 1, t => if p t then some t else fo_N p m (t + 1)
def oI : Option Nat → Int32
  | none => -1
  | some t => nI t
/-- a set, built up by numbers -/
def bs_N (p : Nat → Bool) : Nat → Nat → Int32 → Int32
  | 0, _, acc => acc
  | m + 1, t, acc => bs_N p m (t + 1) (if p t then acc ||| ((1 : Int32) <<< (nI t &&& 31)) else acc)
/-- a sum -/
def sm_N (f : Nat → Int32) : Nat → Nat → Int32 → Int32
  | 0, _, acc => acc
  | m + 1, t, acc => sm_N f m (t + 1) (acc + f t)
/-- the things on a ground: how many, kinds, places, heights, A's, the season, how far -/
abbrev gr_T : Type := Nat × (Nat → Int32) × (Nat → Int32) × (Nat → Int32) × (Nat → Int32) × (Nat → Int32) × Int32 × Int32
abbrev g_n (G : gr_T) : Nat := G.1
abbrev g_k (G : gr_T) : Nat → Int32 := G.2.1
abbrev g_x (G : gr_T) : Nat → Int32 := G.2.2.1
abbrev g_y (G : gr_T) : Nat → Int32 := G.2.2.2.1
abbrev g_h (G : gr_T) : Nat → Int32 := G.2.2.2.2.1
abbrev g_a (G : gr_T) : Nat → Int32 := G.2.2.2.2.2.1
abbrev g_s (G : gr_T) : Int32 := G.2.2.2.2.2.2.1
abbrev g_f (G : gr_T) : Int32 := G.2.2.2.2.2.2.2
abbrev is_H (k : Int32) : Prop := k = 1 ∨ k = 3 ∨ k = 4 ∨ k = 5
abbrev is_Tr (k : Int32) : Prop := k = 2 ∨ k = 6
/-- the class's ground: the object g holds G -/
def gv_T (I : Nat → Nat → Int32) (g : Nat) (G : gr_T) : Prop := g_n G ≤ 8 ∧ I g 0 = nI (g_n G) ∧ I g 1 = g_s G ∧ I g 2 = g_f G ∧ ∀ t, t < g_n G → I (g + 1) t = g_k G t ∧ I (g + 2) t = g_x G t ∧ I (g + 3) t = g_y G t ∧ I (g + 4) t = g_h G t ∧ I (g + 5) t = g_a G t
/-- the reference's -/
def mv_T (I : Nat → Nat → Int32) (G : gr_T) : Prop := g_n G ≤ 8 ∧ I 46 0 = nI (g_n G) ∧ I 46 1 = g_s G ∧ I 46 2 = g_f G ∧ ∀ t, t < g_n G → I 48 t = g_k G t ∧ I 49 t = g_x G t ∧ I 50 t = g_y G t ∧ I 51 t = g_h G t ∧ I 52 t = g_a G t
def s_at (G : gr_T) (x y : Int32) : Option Nat := fo_N (fun t => g_x G t == x && g_y G t == y) (g_n G) 0
def s_tall (G : gr_T) (t : Nat) : Int32 := if g_k G t = 2 then (if g_s G = 1 then g_h G t + g_a G t else 0) else if g_k G t = 6 then g_h G t + g_a G t else g_h G t
def s_eye (G : gr_T) (t : Nat) : Int32 := if g_k G t = 3 then g_h G t + g_a G t else g_h G t
def s_abs (x : Int32) : Int32 := if x < 0 then -x else x
def s_max (x y : Int32) : Int32 := if x < y then y else x
def s_dist (G : gr_T) (i j : Nat) : Int32 := s_max (s_abs (g_x G i - g_x G j)) (s_abs (g_y G i - g_y G j))
theorem is_H_dec (k : Int32) : is_H k ↔ (k == 1 || k == 3 || k == 4 || k == 5) = true := by simp [is_H, or_assoc]

