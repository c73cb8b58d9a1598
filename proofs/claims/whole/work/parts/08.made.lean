/-! objects made, arrays copied; shorter rows for a memory given by its parts -/
def zr_I (I : Nat → Nat → Int32) (n : Nat) : Nat → Nat → Int32 := fun a => if a = n then (fun _ => 0) else I a
def zr_L (I : Nat → Nat → Int64) (n : Nat) : Nat → Nat → Int64 := fun a => if a = n then (fun _ => 0) else I a
def zr_R (I : Nat → Nat → Option Nat) (n : Nat) : Nat → Nat → Option Nat := fun a => if a = n then (fun _ => none) else I a
def cp_I (I : Nat → Nat → Int32) (a a0 : Nat) : Nat → Nat → Int32 := fun q => if q = a then I a0 else I q
theorem cp_I_ne {I : Nat → Nat → Int32} {a a0 q : Nat} (h : q ≠ a) : cp_I I a a0 q = I q := if_neg h
theorem cp_I_eq {I : Nat → Nat → Int32} {a a0 : Nat} : cp_I I a a0 a = I a0 := if_pos rfl
theorem mx_grow {b n : Nat} {D : md_T} {I I2 : Nat → Nat → Int32} {L L2 : Nat → Nat → Int64} {Rf Rf2 : Nat → Nat → Option Nat} {H H1 : Heap} (h : mx_R b D (I, L, Rf, n) H) (z1 : H1.size = b + n + 1) (o1 : ∀ q, q < b + n → H1[q]? = H[q]?)
    (hn : va_at D.1 mCl (b + n, mx_ct b D (I2, L2, Rf2, n + 1) n) H1) (h1 : ∀ a, a < n → I2 a = I a ∧ L2 a = L a ∧ Rf2 a = Rf a) : mx_R b D (I2, L2, Rf2, n + 1) H1 := by
  refine ⟨by rw [z1]; rfl, fun a ha => ?_⟩
  by_cases e : a = n
  · subst e; exact hn
  · have hlt : a < n := by
      have : a < n + 1 := ha
      omega
    rw [mx_ct_eq (X := (I, L, Rf, n)) (h1 a hlt).1 (h1 a hlt).2.1 (h1 a hlt).2.2]
    exact (h.2 a hlt).kept (o1 _ (by show b + a < b + n; omega))
theorem wm_vN {b : Nat} {n : Nat} {H0 H H1 : Heap} {locs : List Loc} (hV : va_S (fun q => b ≤ q) H0 H locs) (hz : H.size = b + n) (z1 : H1.size = b + n + 1) (o1 : ∀ q, q < b + n → H1[q]? = H[q]?) : va_S (fun q => b ≤ q) H0 H1 locs :=
  ⟨Nat.le_trans hV.1 (by omega), fun q g1 g2 => (o1 q (by have := hV.1; omega)).trans (hV.2.1 q g1 g2), hV.2.2⟩
/-- a class to be made: its words, and what its fields hold at first -/
abbrev nw_T (k : mm_T) (i ci : Nat) : Prop := ∃ (C : String) (T : u_T) (ty : Nat → FieldType), mCl[ci]? = some (C, T, mx_N ci) ∧ (∀ w ∈ u_ws C T (mx_N ci), w ∈ GW) ∧ (∀ j, j < mx_N ci → parseFieldDescriptor (T j).2.2.1 = some (ty j)) ∧ (∀ j, j < mx_N ci → defaultValue (ty j) = if mx_isR ci j = true then .null else .int 0) ∧
  Cond.classLink k.1.cls i C ∈ GW ∧ Cond.instantiable C (mx_N ci) ∈ GW ∧ Cond.initialized C ∈ GW
theorem arrV_same {cI : ClassId} {N : Nat} {f g : Nat → Value} (h : ∀ j, j < N → f j = g j) : arrV cI N f = arrV cI N g := by
  unfold arrV
  congr 1
  apply Array.ext_getElem?
  intro j
  by_cases hj : j < N
  · simp [hj, h j hj]
  · simp [hj]
section RM
variable {l : Launch} {k : mm_T} {d mc ms pc np : Nat} {ls st : List vv_T} {Q : Option vv_T → mx_T → Prop} {I : Nat → Nat → Int32} {L : Nat → Nat → Int64} {Rf : Nat → Nat → Option Nat} {n : Nat}
theorem rr_new {i ci mc2 ms2 : Nat} (hd : op_at k pc (.new i) 3 np) (hc : nw_T k i ci) (hk : kO n = ci) (hci : ci < 6) (h1 : mc2 + 1 = mc) (h2 : ms2 + mx_N ci = ms) (kk : wm_W l k d mc2 ms2 np ls (vv_A (some n) :: st) (zr_I I n, L, zr_R Rf n, n + 1) Q) : wm_W l k d mc ms pc ls st (I, L, Rf, n) Q := by
  intro b D p e R s m args below meth c H locs cells slots MC MS arr hS hR hcl hs hV hX hL
  obtain ⟨hd, rfl⟩ := hd
  obtain ⟨C, T, ty, f1, f2, f3, f4, f5, f6, f7⟩ := hc
  have hts := hS.2.2.2.2.2.1
  have hK := hS.2.2.2.2.2.2.2.2.1.1
  have hKn := hK.1 ci _ f1
  have hsz : H.size = b + n := hX.1
  refine W.newcK hS.1 hS.2.1 hS.2.2.2.2.1 (hts _ f5) (hts _ f6) (hts _ f7) rfl hd (by omega) (by omega) hKn.2.1 rfl fun H1 kC hkC e1 z1 o1 => ?_
  rw [hsz] at e1 z1 o1 ⊢
  refine kk b D p e R s m args below meth c H1 locs (cells + 1) (slots + mx_N ci) MC MS arr hS hR (by omega) (by omega) (wm_vN hV hsz z1 o1) (mx_grow hX z1 o1 ?_ (fun a ha => ⟨if_neg (by omega), rfl, if_neg (by omega)⟩)) hL
  rw [mx_ctO hk hci]
  refine ⟨_, f1, (u_born ty hts f2 hKn hkC e1 f3).to fun j hj => ?_⟩
  have hj' : j < mx_N ci := hj
  rw [f4 j hj']
  simp only [vp_V, List.getD_eq_getElem?_getD, mx_fsk hj', Option.getD_some, mx_sl]
  split
  · simp [zr_R, va_rf]
  · simp [zr_I]
theorem rr_newI {z mc2 ms2 : Nat} {v : Int32} (hd : op_at k pc (.newarray .int) 2 np) (ha : Cond.arrayClass .int ∈ GW) (hk : kO n = 6 ∧ zO n = z) (hv : v = nI z) (hz : z ≤ 65536) (h1 : mc2 + 1 = mc) (h2 : ms2 + z = ms) (kk : wm_W l k d mc2 ms2 np ls (vv_A (some n) :: st) (zr_I I n, L, Rf, n + 1) Q) : wm_W l k d mc ms pc ls (vv_I v :: st) (I, L, Rf, n) Q := by
  intro b D p e R s m args below meth c H locs cells slots MC MS arr hS hR hcl hs hV hX hL
  obtain ⟨hd, rfl⟩ := hd
  obtain ⟨hk, rfl⟩ := hk
  have hts := hS.2.2.2.2.2.1
  have hK := hS.2.2.2.2.2.2.2.2.1.1
  have hsz : H.size = b + n := hX.1
  have hcI : s.vm.findClass ("[" ++ (FieldType.int).toString) = some D.2.1 := (hK.2 0 (D.2.1, .int) rfl).2
  refine va_newaK (atype := .int) (N := zO n) hS.1 hS.2.1 (hts _ ha) rfl hd rfl (by subst hv; intro q; rw [Int32.lt_iff_toInt_lt, nI_toInt (by omega), Int32.toInt_zero] at q; omega) (by subst hv; exact nI_clamp (by omega)) (by show zO n * 4 ≤ _; omega) (by omega) (by omega) rfl fun H1 cA e1 z1 o1 hAr hNm => ?_
  have hcA : cA = D.2.1 := Option.some.inj (hNm.symm.trans hcI)
  subst hcA
  rw [hsz] at e1 z1 o1 ⊢
  refine kk b D p e R s m args below meth c H1 locs (cells + 1) (slots + zO n) MC MS arr hS hR (by omega) (by omega) (wm_vN hV hsz z1 o1) (mx_grow hX z1 o1 ?_ (fun a ha => ⟨if_neg (by omega), rfl, rfl⟩)) hL
  rw [mx_ct6 hk]
  show H1[b + n]? = some (vp_cell _ _)
  rw [e1, vp_cell_i]
  simp [zr_I]
  rfl
theorem rr_newL {z mc2 ms2 : Nat} {v : Int32} (hd : op_at k pc (.newarray .long) 2 np) (ha : Cond.arrayClass .long ∈ GW) (hk : kO n = 7 ∧ zO n = z) (hv : v = nI z) (hz : z ≤ 65536) (h1 : mc2 + 1 = mc) (h2 : ms2 + z = ms) (kk : wm_W l k d mc2 ms2 np ls (vv_A (some n) :: st) (I, zr_L L n, Rf, n + 1) Q) : wm_W l k d mc ms pc ls (vv_I v :: st) (I, L, Rf, n) Q := by
  intro b D p e R s m args below meth c H locs cells slots MC MS arr hS hR hcl hs hV hX hL
  obtain ⟨hd, rfl⟩ := hd
  obtain ⟨hk, rfl⟩ := hk
  have hts := hS.2.2.2.2.2.1
  have hK := hS.2.2.2.2.2.2.2.2.1.1
  have hsz : H.size = b + n := hX.1
  have hcI : s.vm.findClass ("[" ++ (FieldType.long).toString) = some D.2.2.1 := (hK.2 1 (D.2.2.1, .long) rfl).2
  refine va_newaK (atype := .long) (N := zO n) hS.1 hS.2.1 (hts _ ha) rfl hd rfl (by subst hv; intro q; rw [Int32.lt_iff_toInt_lt, nI_toInt (by omega), Int32.toInt_zero] at q; omega) (by subst hv; exact nI_clamp (by omega)) (by show zO n * 8 ≤ _; omega) (by omega) (by omega) rfl fun H1 cA e1 z1 o1 hAr hNm => ?_
  have hcA : cA = D.2.2.1 := Option.some.inj (hNm.symm.trans hcI)
  subst hcA
  rw [hsz] at e1 z1 o1 ⊢
  refine kk b D p e R s m args below meth c H1 locs (cells + 1) (slots + zO n) MC MS arr hS hR (by omega) (by omega) (wm_vN hV hsz z1 o1) (mx_grow hX z1 o1 ?_ (fun a ha => ⟨rfl, if_neg (by omega), rfl⟩)) hL
  rw [mx_ct7 hk]
  show H1[b + n]? = some (vp_cell _ _)
  rw [e1, vp_cell_l]
  simp [zr_L]
  rfl
theorem rr_newQ {i z mc2 ms2 : Nat} {v : Int32} (hd : op_at k pc (.anewarray i) 3 np) (ha : Cond.classLink k.1.cls i RX3 ∈ GW) (hk : kO n = 8 ∧ zO n = z) (hv : v = nI z) (hz : z ≤ 65536) (h1 : mc2 + 1 = mc) (h2 : ms2 + z = ms) (kk : wm_W l k d mc2 ms2 np ls (vv_A (some n) :: st) (I, L, zr_R Rf n, n + 1) Q) : wm_W l k d mc ms pc ls (vv_I v :: st) (I, L, Rf, n) Q := by
  intro b D p e R s m args below meth c H locs cells slots MC MS arr hS hR hcl hs hV hX hL
  obtain ⟨hd, rfl⟩ := hd
  obtain ⟨hk, rfl⟩ := hk
  have hts := hS.2.2.2.2.2.1
  have hK := hS.2.2.2.2.2.2.2.2.1.1
  have hsz : H.size = b + n := hX.1
  obtain ⟨kB, compB, b1, b2, b3, hcI⟩ := (hK.2 2 (D.2.2.2.1, .object RX3) rfl).2
  have hcl2 : v.toNatClampNeg = zO n := by subst hv; exact nI_clamp (by omega)
  refine W.anew hS.1 hS.2.1 hS.2.2.2.2.1 (hts _ ha) (va_AO.use hS.2.2.2.2.2.2.2.2.1.2.2.1) rfl hd rfl (by subst hv; intro q; rw [Int32.lt_iff_toInt_lt, nI_toInt (by omega), Int32.toInt_zero] at q; omega) (by rw [hcl2]; omega) (by omega) (by rw [hcl2]; omega) fun cA kA comp h1' h2' h3' h4' => ?_
  have hcA : cA = D.2.2.2.1 := Option.some.inj (h1'.symm.trans hcI)
  subst hcA
  rw [hcl2]
  generalize hH1 : H.push ({ cls := D.2.2.2.1, slots := Array.replicate (zO n) .null, vm := .none } : Cell) = H1
  have z1 : H1.size = H.size + 1 := by rw [← hH1, Array.size_push]
  have e1 : H1[H.size]? = some (arrV D.2.2.2.1 (zO n) (fun _ => .null)) := by rw [← hH1, Array.getElem?_push_size, ← arrV_new]
  have o1 : ∀ q : Nat, q < H.size → H1[q]? = H[q]? := fun q hq => by rw [← hH1, Array.getElem?_push, if_neg (Nat.ne_of_lt hq)]
  rw [hsz] at e1 z1 o1 ⊢
  refine kk b D p e R s m args below meth c H1 locs (cells + 1) (slots + zO n) MC MS arr hS hR (by omega) (by omega) (wm_vN hV hsz z1 o1) (mx_grow hX z1 o1 ?_ (fun a ha => ⟨rfl, rfl, if_neg (by omega)⟩)) hL
  rw [mx_ct8 hk]
  show H1[b + n]? = some (vp_cell _ _)
  rw [e1, vp_cell_q]
  simp [zr_R, va_rf]
theorem rr_aast {a v z : Nat} {j : Int32} (hd : op_at k pc .aastore 1 np) (hk : kO a = 8 ∧ zO a = z) (ha : a < n) (hkv : kO v = 3) (hv : v < n) (hin : vp_in j z) (kk : wm_W l k d mc ms np ls st (I, L, up_R Rf a j.toNatClampNeg (some v), n) Q) : wm_W l k d mc ms pc ls (vv_A (some v) :: vv_I j :: vv_A (some a) :: st) (I, L, Rf, n) Q := by
  intro b D p e R s m args below meth c H locs cells slots MC MS arr hS hR hcl hs hV hX hL
  obtain ⟨hd, rfl⟩ := hd
  obtain ⟨hk, rfl⟩ := hk
  have hK := hS.2.2.2.2.2.2.2.2.1.1
  have hlt : j.toNatClampNeg < zO a := Nat.not_le.mp fun q => hin (Or.inr q)
  have h0 : ¬ j < 0 := fun q => hin (Or.inl q)
  have hc0 : H[b + a]? = some (vp_cell D.2.2.2.1 (zO a, .inr (.inr (.inr (.inr (fun j => (Rf a j).map (fun q => b + q))))))) := by
    have h := hX.2 a ha
    rw [mx_ct8 hk] at h
    exact h
  obtain ⟨r', hr', cellV, g1, g2, g3, -⟩ := mx_at hX hkv (by omega) hv
  cases hr'
  have hcls := (hK.1 3 _ rfl).2
  obtain ⟨kA, comp, k1, k2, k3, -⟩ := (hK.2 2 (D.2.2.2.1, .object RX3) rfl).2
  have hcomp : comp = D.1.1 3 := Option.some.inj (k3.symm.trans hcls.1)
  subst hcomp
  obtain ⟨kC, hkC, -⟩ := hcls.2
  refine W.aast hS.1 hS.2.1 hc0 (fun q h => by cases h) (fun h => by cases h) k1 k2 rfl hkC ⟨h0, by show _ < (arrV _ _ _).slots.size; rw [arrV_size]; exact hlt⟩ g1 (fun q h => by rw [g3] at h; cases h) (by rw [g2]; exact hkC) (by rw [g2]; exact va_assign hcls) rfl rfl hd fun H1 e1 z1 oq => ?_
  refine kk b D p e R s m args below meth c H1 _ cells slots MC MS arr hS hR hcl hs (wm_vS hV z1 oq) (mx_set (Y := (I, L, up_R Rf a j.toNatClampNeg (some v), n)) hX rfl z1 oq ?_ (fun a' h => mx_ct_eq rfl rfl (up_R_ne h))) hL
  rw [mx_ct8 hk]
  show H1[b + a]? = some (vp_cell _ _)
  rw [e1, vp_cell_q, vp_cell_q, arrV_store]
  congr 2
  funext q
  show _ = va_rf ((up_R Rf a j.toNatClampNeg (some v) a q).map _)
  rw [up_R_eq]
  by_cases hq : q = j.toNatClampNeg
  · subst hq
    simp [updV, va_up, va_rf]
  · simp [updV, va_up, hq]
theorem rr_objI {i a : Nat} (hd : op_at k pc (.invokespecial i) 3 np) (hw : Cond.methodLink k.1.cls i Lib.objectInit ∈ GW ∧ Cond.instanceMethod Lib.objectInit ∈ GW ∧ Cond.code Lib.objectInit ⟨#[0xb1]⟩ 1 none ∈ GW) (hdd : 1 ≤ d) (hW : (st.map vv_c).sum ≤ 8) (kk : wm_W l k d mc ms np ls st (I, L, Rf, n) Q) : wm_W l k d mc ms pc ls (vv_A (some a) :: st) (I, L, Rf, n) Q := by
  intro b D p e R s m args below meth c H locs cells slots MC MS arr hS hR hcl hs hV hX hL
  obtain ⟨hd, rfl⟩ := hd
  have hts := hS.2.2.2.2.2.1
  refine W.objInit hS.1 hS.2.1 hS.2.2.2.2.1 (hts _ hw.1) (hts _ hw.2.1) (hts _ hw.2.2) rfl (by rw [hS.2.2.1]; exact hL.1) rfl hd (by omega) ?_ (kk b D p e R s m args below meth c H locs cells slots MC MS arr hS hR hcl hs hV hX hL)
  have := sum_c b st
  show 2 * 0 + ((st.map (to_V b)).map fun v => v.category).sum + 12 ≤ _
  rw [this]
  omega
/-- System.arraycopy of a whole int[] -/
theorem rr_copyI {i a a0 z : Nat} {sp dp v : Int32} (hd : op_at k pc (.invokestatic i) 3 np) (hw : Cond.methodLink k.1.cls i arraycopyName ∈ GW ∧ Cond.native arraycopyName ∈ GW ∧ Cond.static arraycopyName ∈ GW ∧ Cond.initialized "java/lang/System" ∈ GW) (hk : kO a = 6 ∧ zO a = z) (hk0 : kO a0 = 6 ∧ zO a0 = z) (ha : a < n) (ha0 : a0 < n) (hsp : sp = 0) (hdp : dp = 0) (hv : v = nI z) (hz : z ≤ 65536) (hdd : 1 ≤ d) (hW : (st.map vv_c).sum ≤ 8)
    (kk : wm_W l k d mc ms np ls st (cp_I I a a0, L, Rf, n) Q) : wm_W l k d mc ms pc ls (vv_I v :: vv_I dp :: vv_A (some a) :: vv_I sp :: vv_A (some a0) :: st) (I, L, Rf, n) Q := by
  intro b D p e R s m args below meth c H locs cells slots MC MS arr hS hR hcl hs hV hX hL
  obtain ⟨hd, rfl⟩ := hd
  obtain ⟨hk, rfl⟩ := hk
  obtain ⟨hk0, hz0⟩ := hk0
  subst hsp; subst hdp
  have hts := hS.2.2.2.2.2.1
  have hK := hS.2.2.2.2.2.2.2.2.1.1
  have hcl2 : v.toNatClampNeg = zO a := by subst hv; exact nI_clamp (by omega)
  have hvi : v.toInt = (zO a : Int) := by subst hv; exact nI_toInt (by omega)
  have hc0 : H[b + a0]? = some (vp_cell D.2.1 (zO a, .inl (I a0))) := by
    have h := hX.2 a0 ha0
    rw [mx_ct6 hk0, hz0] at h
    exact h
  have hc1 : H[b + a]? = some (vp_cell D.2.1 (zO a, .inl (I a))) := by
    have h := hX.2 a ha
    rw [mx_ct6 hk] at h
    exact h
  intro T hT X
  obtain ⟨-, k0, hk0', cm0, hkk0⟩ := (hK.2 0 (D.2.1, .int) rfl).1 (zO a) (fun j => .int (I a0 j))
  obtain ⟨-, k1, hk1', cm1, hkk1⟩ := (hK.2 0 (D.2.1, .int) rfl).1 (zO a) (fun j => .int (I a j))
  obtain ⟨vm', X', step⟩ := X.arraycopy hS.1 hS.2.2.2.2.1 (hts _ hw.1) (hts _ hw.2.1) (hts _ hw.2.2.1) (hts _ hw.2.2.2) (src := b + a0) (dst := b + a) (cs := vp_cell D.2.1 (zO a, .inl (I a0))) (cd := vp_cell D.2.1 (zO a, .inl (I a))) (srcPos := 0) (destPos := 0) (n := v) (by rw [hT]; exact hc0) (by rw [hT]; exact hc1)
    (fun _ h => by cases h) (fun _ h => by cases h) (fun h => by cases h) (fun h => by cases h) hk0' hk1' hkk0 hkk1 (by simp [refKind]) (by decide) (by decide) (by rw [Int32.lt_iff_toInt_lt, hvi, Int32.toInt_zero]; omega)
    (by rw [hvi, Int32.toInt_zero]; show ¬ _ > ((arrV _ _ (fun j => .int (I a0 j))).slots.size : Int); rw [arrV_size]; omega)
    (by rw [hvi, Int32.toInt_zero]; show ¬ _ > ((arrV _ _ (fun j => .int (I a j))).slots.size : Int); rw [arrV_size]; omega)
    (fun vm₁ _ i hi => by
      have e : (vp_cell D.2.1 (zO a, .inl (I a0))).slots.getD ((0 : Int32).toNatClampNeg + i) .null = .int (I a0 i) := by
        show (arrV _ _ (fun j => .int (I a0 j))).slots.getD _ _ = _
        rw [show (0 : Int32).toNatClampNeg + i = i by rw [show (0 : Int32).toNatClampNeg = 0 from by decide]; omega]
        rw [Array.getD_eq_getD_getElem?, arrV_read _ _ (by rw [hcl2] at hi; exact hi)]
        rfl
      refine ⟨?_, ?_⟩
      · rw [e]; rfl
      · rw [e]; exact trivial)
    (g := F0 m pc arr (.int v :: .int 0 :: .ref (b + a) :: .int 0 :: .ref (b + a0) :: st.map (to_V b))) rfl (by rw [hS.2.2.1]; exact hL.1) (rest := st.map (to_V b)) rfl (by rw [hS.2.1]; exact hd) (by omega) (by
      have e7 : nativeFrameWords "java/lang/System" "arraycopy" 5 = 7 := by decide +kernel
      have := sum_c b st
      rw [e7]
      show 2 * 0 + _ + _ ≤ _
      rw [this]
      omega)
  have e1 : copied (vp_cell D.2.1 (zO a, .inl (I a0))) (vp_cell D.2.1 (zO a, .inl (I a))) 0 0 v = vp_cell D.2.1 (zO a, .inl (I a0)) := by
    have h := va_copied (sp := (0 : Int32).toNatClampNeg) (dp := (0 : Int32).toNatClampNeg) (n := v.toNatClampNeg) (n0 := zO a) (n1 := zO a) (fun z => Value.int z) D.2.1 D.2.1 (I a0) (I a) (by rw [hcl2, show (0 : Int32).toNatClampNeg = 0 from by decide]; omega)
    refine Eq.trans h ?_
    rw [hcl2, show (0 : Int32).toNatClampNeg = 0 from by decide]
    rw [vp_cell_i]
    exact arrV_same (fun j hj => by simp [va_cpy, hj])
  rw [e1] at X' step
  have hl : b + a < H.size := (Array.getElem?_eq_some_iff.mp hc1).1
  have hheap : ((T.setVm vm').setCell (b + a) (vp_cell D.2.1 (zO a, .inl (I a0)))).heap = H.setIfInBounds (b + a) (vp_cell D.2.1 (zO a, .inl (I a0))) := by rw [← hT]; rfl
  have oq : ∀ q : Nat, q ≠ b + a → (H.setIfInBounds (b + a) (vp_cell D.2.1 (zO a, .inl (I a0))))[q]? = H[q]? := fun q hq => by simp [Array.getElem?_setIfInBounds, Ne.symm hq]
  obtain ⟨t, a1, b1⟩ := kk b D p e R s m args below meth c _ _ cells slots MC MS arr hS hR hcl hs ⟨by simp; exact hV.1, fun q g1 g2 => by
      rw [oq q (fun e => g2 (by rw [e]; exact Nat.le_add_right b a))]
      exact hV.2.1 q g1 g2, fun q hq => by
      rcases List.mem_append.mp hq with h | h
      · exact hV.2.2 q h
      · obtain ⟨z, -, hz⟩ := List.mem_map.mp h
        rw [← hz]
        exact Nat.le_add_right b a⟩ (mx_set (Y := (cp_I I a a0, L, Rf, n)) (H1 := H.setIfInBounds (b + a) (vp_cell D.2.1 (zO a, .inl (I a0)))) hX rfl (by simp) oq (by
      rw [mx_ct6 hk]
      show (H.setIfInBounds (b + a) _)[b + a]? = some (vp_cell _ (zO a, .inl (cp_I I a a0 a)))
      rw [cp_I_eq]
      simp [Array.getElem?_setIfInBounds, hl]) (fun a' h => mx_ct_eq (cp_I_ne h) rfl rfl)) hL _ hheap X'
  exact ⟨t, step t a1, b1⟩
end RM
