/-! the rows for the law itself (by program: wip/whole/gen63.py) -/
abbrev PP_T : Type := Program → Env → Room → State → MethodId → Array Value → List Frame → Method → Code → Nat → Nat → Prop
abbrev ZZ_T : Type := List Frame → Array Value → State → State → Prop
def wl_S (PP : PP_T) (k : mm_T) (p : Program) (e : Env) (R : Room) (s : State) (m : MethodId) (args : Array Value) (below : List Frame) (meth : Method) (c : Code) (MC MS : Nat) (b : Nat) (D : md_T) : Prop :=
  p.tables.exec = Jvm.exec ∧ c.code = k.2.1 ∧ c.maxLocals = k.2.2.1 ∧ meth.sig.returnType = k.2.2.2 ∧ s.vm.findClass k.1.cls = some m.cls ∧ (∀ w ∈ GW, w.before args s = true) ∧ meth.locks = false ∧ PP p e R s m args below meth c MC MS ∧ wm_K b D s ∧ b ≤ s.heap.size
def wl_W (PP : PP_T) (ZZ : ZZ_T) (b : Nat) (D : md_T) (l : Launch) (k : mm_T) (d mc ms pc : Nat) (ls st : List vv_T) (X : mx_T) (_ : Option vv_T → mx_T → Prop) : Prop :=
  ∀ (p : Program) (e : Env) (R : Room) (s : State) (m : MethodId) (args : Array Value) (below : List Frame) (meth : Method) (c : Code) (H : Heap) (locs : List Loc) (cells slots MC MS : Nat) (arr : Array Slot),
    wl_S PP k p e R s m args below meth c MC MS b D → (d ≤ R.frames ∧ 40 * d ≤ R.locals ∧ MC ≤ R.cells ∧ MS ≤ R.slots) → cells + mc ≤ MC → slots + ms ≤ MS → va_S (fun q => b ≤ q) s.heap H locs → mx_R b D X H → wm_L b k.2.2.1 ls arr →
    W p l e R s m args below meth c H locs cells slots (ZZ below args s) (F0 m pc arr (st.map (to_V b)))
theorem wl_mono {PP : PP_T} {ZZ : ZZ_T} {b : Nat} {D : md_T} {l : Launch} {k : mm_T} {d mc ms pc : Nat} {ls st : List vv_T} {X : mx_T} {Q : Option vv_T → mx_T → Prop} {mc2 ms2 : Nat} (h1 : mc2 ≤ mc) (h2 : ms2 ≤ ms) (h : wl_W PP ZZ b D l k d mc2 ms2 pc ls st X Q) : wl_W PP ZZ b D l k d mc ms pc ls st X Q :=
  fun p e R s m args below meth c H locs cells slots MC MS arr hS hR hc hs hV hX hL => h p e R s m args below meth c H locs cells slots MC MS arr hS hR (by omega) (by omega) hV hX hL
theorem wl_pre {PP : PP_T} {k : mm_T} {p : Program} {e : Env} {R : Room} {s : State} {m : MethodId} {args : Array Value} {below : List Frame} {meth : Method} {c : Code} {MC MS b : Nat} {D : md_T} {X : mx_T} {H : Heap} {locs : List Loc} {av : List Value} (hS : wl_S PP k p e R s m args below meth c MC MS b D) (hV : va_S (fun q => b ≤ q) s.heap H locs) (hX : mx_R b D X H) : ∀ U : State, U.heap = H → s.WarmedH U.vm → va_Pc av (fun U => wm_K b D U ∧ mx_R b D X U.heap) av.toArray U :=
  fun U hU hW => ⟨rfl, hS.2.2.2.2.2.2.2.2.1.warm hW (fun a h1 h2 => by rw [hU]; exact hV.2.1 a h1 h2), by rw [hU]; exact hX⟩
section RR
variable {PP : PP_T} {ZZ : ZZ_T} {b : Nat} {D : md_T} {l : Launch} {k : mm_T} {d mc ms pc np : Nat} {ls st : List vv_T} {X : mx_T} {Q : Option vv_T → mx_T → Prop}
theorem rr_iconstY {n : Int} {v : Int32} (hd : op_at k pc (.iconst n) 1 np) (hv : Int32.ofInt n = v) (kk : wl_W PP ZZ b D l k d mc ms np ls (vv_I v :: st) X Q) : wl_W PP ZZ b D l k d mc ms pc ls (st) X Q := by
  intro p e R s m args below meth c H locs cells slots MC MS arr hS hR hc hs hV hX hL
  obtain ⟨hd, rfl⟩ := hd
  exact lv_iconst hS.1 hS.2.1 hd hv (kk p e R s m args below meth c H locs cells slots MC MS arr hS hR hc hs hV hX hL)
theorem rr_bipushY {n : Int} {v : Int32} (hd : op_at k pc (.bipush n) 2 np) (hv : (Int8.ofInt n).toInt32 = v) (kk : wl_W PP ZZ b D l k d mc ms np ls (vv_I v :: st) X Q) : wl_W PP ZZ b D l k d mc ms pc ls (st) X Q := by
  intro p e R s m args below meth c H locs cells slots MC MS arr hS hR hc hs hV hX hL
  obtain ⟨hd, rfl⟩ := hd
  exact lv_bipush hS.1 hS.2.1 hd hv (kk p e R s m args below meth c H locs cells slots MC MS arr hS hR hc hs hV hX hL)
theorem rr_iload_nY {i : Fin 4} {j : Nat} {x : Int32} (hd : op_at k pc (.iload_n i) 1 np) (hi : (i : Nat) = j) (hl : ls[j]? = some (vv_I x)) (kk : wl_W PP ZZ b D l k d mc ms np ls (vv_I x :: st) X Q) : wl_W PP ZZ b D l k d mc ms pc ls (st) X Q := by
  intro p e R s m args below meth c H locs cells slots MC MS arr hS hR hc hs hV hX hL
  obtain ⟨hd, rfl⟩ := hd
  exact lv_iload_n hS.1 hS.2.1 hd hi (hL.2.2 _ _ hl (fun q => by cases q)) (kk p e R s m args below meth c H locs cells slots MC MS arr hS hR hc hs hV hX hL)
theorem rr_iloadY {j : Nat} {x : Int32} (hd : op_at k pc (.iload j) 2 np) (hl : ls[j]? = some (vv_I x)) (kk : wl_W PP ZZ b D l k d mc ms np ls (vv_I x :: st) X Q) : wl_W PP ZZ b D l k d mc ms pc ls (st) X Q := by
  intro p e R s m args below meth c H locs cells slots MC MS arr hS hR hc hs hV hX hL
  obtain ⟨hd, rfl⟩ := hd
  exact lv_iload hS.1 hS.2.1 hd (hL.2.2 _ _ hl (fun q => by cases q)) (kk p e R s m args below meth c H locs cells slots MC MS arr hS hR hc hs hV hX hL)
theorem rr_aload_nY {i : Fin 4} {j x : Nat} (hd : op_at k pc (.aload_n i) 1 np) (hi : (i : Nat) = j) (hl : ls[j]? = some (vv_A (some x))) (kk : wl_W PP ZZ b D l k d mc ms np ls (vv_A (some x) :: st) X Q) : wl_W PP ZZ b D l k d mc ms pc ls (st) X Q := by
  intro p e R s m args below meth c H locs cells slots MC MS arr hS hR hc hs hV hX hL
  obtain ⟨hd, rfl⟩ := hd
  exact lv_aload_n hS.1 hS.2.1 hd hi (hL.2.2 _ _ hl (fun q => by cases q)) (kk p e R s m args below meth c H locs cells slots MC MS arr hS hR hc hs hV hX hL)
theorem rr_aloadY {j x : Nat} (hd : op_at k pc (.aload j) 2 np) (hl : ls[j]? = some (vv_A (some x))) (kk : wl_W PP ZZ b D l k d mc ms np ls (vv_A (some x) :: st) X Q) : wl_W PP ZZ b D l k d mc ms pc ls (st) X Q := by
  intro p e R s m args below meth c H locs cells slots MC MS arr hS hR hc hs hV hX hL
  obtain ⟨hd, rfl⟩ := hd
  exact lv_aload hS.1 hS.2.1 hd (hL.2.2 _ _ hl (fun q => by cases q)) (kk p e R s m args below meth c H locs cells slots MC MS arr hS hR hc hs hV hX hL)
theorem rr_aload_nEY {i : Fin 4} {j x : Nat} (hd : op_at k pc (.aload_n i) 1 np) (hi : (i : Nat) = j) (hl : ls[j]? = some (vv_E x)) (kk : wl_W PP ZZ b D l k d mc ms np ls (vv_E x :: st) X Q) : wl_W PP ZZ b D l k d mc ms pc ls (st) X Q := by
  intro p e R s m args below meth c H locs cells slots MC MS arr hS hR hc hs hV hX hL
  obtain ⟨hd, rfl⟩ := hd
  exact lv_aload_n hS.1 hS.2.1 hd hi (hL.2.2 _ _ hl (fun q => by cases q)) (kk p e R s m args below meth c H locs cells slots MC MS arr hS hR hc hs hV hX hL)
theorem rr_istore_nY {i : Fin 4} {j : Nat} {x : Int32} {ls2 : List vv_T} (hd : op_at k pc (.istore_n i) 1 np) (hi : (i : Nat) = j) (hj : j < ls.length) (hn : j < k.2.2.1) (ho : ls_ok ls j = true) (h2 : ls.set j (vv_I x) = ls2) (kk : wl_W PP ZZ b D l k d mc ms np ls2 st X Q) : wl_W PP ZZ b D l k d mc ms pc ls (vv_I x :: st) X Q := by
  subst h2
  intro p e R s m args below meth c H locs cells slots MC MS arr hS hR hc hs hV hX hL
  obtain ⟨hd, rfl⟩ := hd
  exact lv_istore_n hS.1 hS.2.1 hd hi hL.has hn rfl (fun arr2 h => kk p e R s m args below meth c H locs cells slots MC MS arr2 hS hR hc hs hV hX (wm_L.st (w := vv_I x) hj ho h))
theorem rr_istoreY  {j : Nat} {x : Int32} {ls2 : List vv_T} (hd : op_at k pc (.istore j) 2 np) (hj : j < ls.length) (hn : j < k.2.2.1) (ho : ls_ok ls j = true) (h2 : ls.set j (vv_I x) = ls2) (kk : wl_W PP ZZ b D l k d mc ms np ls2 st X Q) : wl_W PP ZZ b D l k d mc ms pc ls (vv_I x :: st) X Q := by
  subst h2
  intro p e R s m args below meth c H locs cells slots MC MS arr hS hR hc hs hV hX hL
  obtain ⟨hd, rfl⟩ := hd
  exact lv_istore hS.1 hS.2.1 hd hL.has hn rfl (fun arr2 h => kk p e R s m args below meth c H locs cells slots MC MS arr2 hS hR hc hs hV hX (wm_L.st (w := vv_I x) hj ho h))
theorem rr_astore_nY {i : Fin 4} {j : Nat} {x : Nat} {ls2 : List vv_T} (hd : op_at k pc (.astore_n i) 1 np) (hi : (i : Nat) = j) (hj : j < ls.length) (hn : j < k.2.2.1) (ho : ls_ok ls j = true) (h2 : ls.set j (vv_A (some x)) = ls2) (kk : wl_W PP ZZ b D l k d mc ms np ls2 st X Q) : wl_W PP ZZ b D l k d mc ms pc ls (vv_A (some x) :: st) X Q := by
  subst h2
  intro p e R s m args below meth c H locs cells slots MC MS arr hS hR hc hs hV hX hL
  obtain ⟨hd, rfl⟩ := hd
  exact lv_astore_n hS.1 hS.2.1 hd hi hL.has hn rfl (fun arr2 h => kk p e R s m args below meth c H locs cells slots MC MS arr2 hS hR hc hs hV hX (wm_L.st (w := vv_A (some x)) hj ho h))
theorem rr_astoreY  {j : Nat} {x : Nat} {ls2 : List vv_T} (hd : op_at k pc (.astore j) 2 np) (hj : j < ls.length) (hn : j < k.2.2.1) (ho : ls_ok ls j = true) (h2 : ls.set j (vv_A (some x)) = ls2) (kk : wl_W PP ZZ b D l k d mc ms np ls2 st X Q) : wl_W PP ZZ b D l k d mc ms pc ls (vv_A (some x) :: st) X Q := by
  subst h2
  intro p e R s m args below meth c H locs cells slots MC MS arr hS hR hc hs hV hX hL
  obtain ⟨hd, rfl⟩ := hd
  exact lv_astore hS.1 hS.2.1 hd hL.has hn rfl (fun arr2 h => kk p e R s m args below meth c H locs cells slots MC MS arr2 hS hR hc hs hV hX (wm_L.st (w := vv_A (some x)) hj ho h))
theorem rr_iincY {j : Nat} {n : Int} {x v : Int32} {ls2 : List vv_T} (hd : op_at k pc (.iinc j n) 3 np) (hl : ls[j]? = some (vv_I x)) (hv : x + Int32.ofInt n = v) (hn : j < k.2.2.1) (ho : ls_ok ls j = true) (h2 : ls.set j (vv_I v) = ls2) (kk : wl_W PP ZZ b D l k d mc ms np ls2 st X Q) : wl_W PP ZZ b D l k d mc ms pc ls st X Q := by
  subst h2
  intro p e R s m args below meth c H locs cells slots MC MS arr hS hR hc hs hV hX hL
  obtain ⟨hd, rfl⟩ := hd
  have hm := ls_V_in (b := b) ls 0 j _ hl (fun q => by cases q)
  rw [Nat.zero_add] at hm
  obtain ⟨kx, hkx⟩ := List.getElem?_of_mem hm
  exact lv_iinc hS.1 hS.2.1 hd hL.has hkx hv hn rfl (fun arr2 h => kk p e R s m args below meth c H locs cells slots MC MS arr2 hS hR hc hs hV hX (wm_L.st (w := vv_I v) (List.getElem?_eq_some_iff.mp hl).1 ho h))
theorem rr_dupY {v : vv_T} (hd : op_at k pc (.dup) 1 np) (hv : vv_c v = 1) (kk : wl_W PP ZZ b D l k d mc ms np ls (v :: v :: st) X Q) : wl_W PP ZZ b D l k d mc ms pc ls (v :: st) X Q := by
  intro p e R s m args below meth c H locs cells slots MC MS arr hS hR hc hs hV hX hL
  obtain ⟨hd, rfl⟩ := hd
  exact lv_dup hS.1 hS.2.1 hd (by rw [to_V_c]; exact hv) (kk p e R s m args below meth c H locs cells slots MC MS arr hS hR hc hs hV hX hL)
theorem rr_iaddY {x y : Int32} (hd : op_at k pc (.iadd) 1 np) (kk : wl_W PP ZZ b D l k d mc ms np ls (vv_I (x + y) :: st) X Q) : wl_W PP ZZ b D l k d mc ms pc ls (vv_I y :: vv_I x :: st) X Q := by
  intro p e R s m args below meth c H locs cells slots MC MS arr hS hR hc hs hV hX hL
  obtain ⟨hd, rfl⟩ := hd
  exact lv_iadd hS.1 hS.2.1 hd (kk p e R s m args below meth c H locs cells slots MC MS arr hS hR hc hs hV hX hL)
theorem rr_isubY {x y : Int32} (hd : op_at k pc (.isub) 1 np) (kk : wl_W PP ZZ b D l k d mc ms np ls (vv_I (x - y) :: st) X Q) : wl_W PP ZZ b D l k d mc ms pc ls (vv_I y :: vv_I x :: st) X Q := by
  intro p e R s m args below meth c H locs cells slots MC MS arr hS hR hc hs hV hX hL
  obtain ⟨hd, rfl⟩ := hd
  exact lv_isub hS.1 hS.2.1 hd (kk p e R s m args below meth c H locs cells slots MC MS arr hS hR hc hs hV hX hL)
theorem rr_iandY {x y : Int32} (hd : op_at k pc (.iand) 1 np) (kk : wl_W PP ZZ b D l k d mc ms np ls (vv_I (x &&& y) :: st) X Q) : wl_W PP ZZ b D l k d mc ms pc ls (vv_I y :: vv_I x :: st) X Q := by
  intro p e R s m args below meth c H locs cells slots MC MS arr hS hR hc hs hV hX hL
  obtain ⟨hd, rfl⟩ := hd
  exact lv_iand hS.1 hS.2.1 hd (kk p e R s m args below meth c H locs cells slots MC MS arr hS hR hc hs hV hX hL)
theorem rr_i2lY {x : Int32} (hd : op_at k pc (.i2l) 1 np) (kk : wl_W PP ZZ b D l k d mc ms np ls (vv_L x.toInt64 :: st) X Q) : wl_W PP ZZ b D l k d mc ms pc ls (vv_I x :: st) X Q := by
  intro p e R s m args below meth c H locs cells slots MC MS arr hS hR hc hs hV hX hL
  obtain ⟨hd, rfl⟩ := hd
  exact lv_i2l hS.1 hS.2.1 hd rfl (kk p e R s m args below meth c H locs cells slots MC MS arr hS hR hc hs hV hX hL)
theorem rr_landY {x y : Int64} (hd : op_at k pc (.land) 1 np) (kk : wl_W PP ZZ b D l k d mc ms np ls (vv_L (x &&& y) :: st) X Q) : wl_W PP ZZ b D l k d mc ms pc ls (vv_L y :: vv_L x :: st) X Q := by
  intro p e R s m args below meth c H locs cells slots MC MS arr hS hR hc hs hV hX hL
  obtain ⟨hd, rfl⟩ := hd
  exact lv_land hS.1 hS.2.1 hd (kk p e R s m args below meth c H locs cells slots MC MS arr hS hR hc hs hV hX hL)
theorem rr_lorY {x y : Int64} (hd : op_at k pc (.lor) 1 np) (kk : wl_W PP ZZ b D l k d mc ms np ls (vv_L (x ||| y) :: st) X Q) : wl_W PP ZZ b D l k d mc ms pc ls (vv_L y :: vv_L x :: st) X Q := by
  intro p e R s m args below meth c H locs cells slots MC MS arr hS hR hc hs hV hX hL
  obtain ⟨hd, rfl⟩ := hd
  exact lv_lor hS.1 hS.2.1 hd (kk p e R s m args below meth c H locs cells slots MC MS arr hS hR hc hs hV hX hL)
theorem rr_lshlY {x : Int64} {y : Int32} (hd : op_at k pc (.lshl) 1 np) (kk : wl_W PP ZZ b D l k d mc ms np ls (vv_L (x <<< (y.toInt64 &&& 63)) :: st) X Q) : wl_W PP ZZ b D l k d mc ms pc ls (vv_I y :: vv_L x :: st) X Q := by
  intro p e R s m args below meth c H locs cells slots MC MS arr hS hR hc hs hV hX hL
  obtain ⟨hd, rfl⟩ := hd
  exact lv_lshl hS.1 hS.2.1 hd rfl (kk p e R s m args below meth c H locs cells slots MC MS arr hS hR hc hs hV hX hL)
theorem rr_ldc2Y {i : Nat} {v : Int64} (hd : op_at k pc (.ldc2_w i) 3 np) (hw : Cond.constantLong k.1.cls i v ∈ GW) (kk : wl_W PP ZZ b D l k d mc ms np ls (vv_L v :: st) X Q) : wl_W PP ZZ b D l k d mc ms pc ls (st) X Q := by
  intro p e R s m args below meth c H locs cells slots MC MS arr hS hR hc hs hV hX hL
  obtain ⟨hd, rfl⟩ := hd
  exact lv_ldc2 hS.1 hS.2.1 hS.2.2.2.2.1 (hS.2.2.2.2.2.1 _ hw) hd (kk p e R s m args below meth c H locs cells slots MC MS arr hS hR hc hs hV hX hL)
theorem rr_if_eqY {x : Int32} {off : Int} {tgt : Nat} (hd : op_at k pc (.ifCond .eq off) 3 np) (ht : (pc : Int) + off = (tgt : Int)) (kt : x = 0 → wl_W PP ZZ b D l k d mc ms tgt ls st X Q) (kf : ¬ (x = 0) → wl_W PP ZZ b D l k d mc ms np ls st X Q) : wl_W PP ZZ b D l k d mc ms pc ls (vv_I x :: st) X Q := by
  intro p e R s m args below meth c H locs cells slots MC MS arr hS hR hc hs hV hX hL
  obtain ⟨hd, rfl⟩ := hd
  exact lv_if_eq hS.1 hS.2.1 hd ht (fun q => kt q p e R s m args below meth c H locs cells slots MC MS arr hS hR hc hs hV hX hL) (fun q => kf q p e R s m args below meth c H locs cells slots MC MS arr hS hR hc hs hV hX hL)
theorem rr_icmp_eqY {x y : Int32} {off : Int} {tgt : Nat} (hd : op_at k pc (.if_icmp .eq off) 3 np) (ht : (pc : Int) + off = (tgt : Int)) (kt : x = y → wl_W PP ZZ b D l k d mc ms tgt ls st X Q) (kf : ¬ (x = y) → wl_W PP ZZ b D l k d mc ms np ls st X Q) : wl_W PP ZZ b D l k d mc ms pc ls (vv_I y :: vv_I x :: st) X Q := by
  intro p e R s m args below meth c H locs cells slots MC MS arr hS hR hc hs hV hX hL
  obtain ⟨hd, rfl⟩ := hd
  exact lv_icmp_eq hS.1 hS.2.1 hd ht (fun q => kt q p e R s m args below meth c H locs cells slots MC MS arr hS hR hc hs hV hX hL) (fun q => kf q p e R s m args below meth c H locs cells slots MC MS arr hS hR hc hs hV hX hL)
theorem rr_icmp_gtY {x y : Int32} {off : Int} {tgt : Nat} (hd : op_at k pc (.if_icmp .gt off) 3 np) (ht : (pc : Int) + off = (tgt : Int)) (kt : y < x → wl_W PP ZZ b D l k d mc ms tgt ls st X Q) (kf : ¬ (y < x) → wl_W PP ZZ b D l k d mc ms np ls st X Q) : wl_W PP ZZ b D l k d mc ms pc ls (vv_I y :: vv_I x :: st) X Q := by
  intro p e R s m args below meth c H locs cells slots MC MS arr hS hR hc hs hV hX hL
  obtain ⟨hd, rfl⟩ := hd
  exact lv_icmp_gt hS.1 hS.2.1 hd ht (fun q => kt q p e R s m args below meth c H locs cells slots MC MS arr hS hR hc hs hV hX hL) (fun q => kf q p e R s m args below meth c H locs cells slots MC MS arr hS hR hc hs hV hX hL)
theorem rr_gotoY {off : Int} {tgt : Nat} (hd : op_at k pc (.goto off) 3 np) (ht : (pc : Int) + off = (tgt : Int)) (kk : wl_W PP ZZ b D l k d mc ms tgt ls st X Q) : wl_W PP ZZ b D l k d mc ms pc ls st X Q := by
  intro p e R s m args below meth c H locs cells slots MC MS arr hS hR hc hs hV hX hL
  obtain ⟨hd, rfl⟩ := hd
  exact lv_goto hS.1 hS.2.1 hd ht (kk p e R s m args below meth c H locs cells slots MC MS arr hS hR hc hs hV hX hL)
theorem rr_tabInY {dflt lo hi : Int} {offs : Array Int} {len : Nat} {x : Int32} {off : Int} {tgt : Nat} (hd : op_at k pc (.tableswitch dflt lo hi offs) len np) (h1 : ¬ x.toInt < lo) (h2 : ¬ hi < x.toInt) (ho : offs[(x.toInt - lo).toNat]? = some off) (ht : (pc : Int) + off = (tgt : Int)) (kk : wl_W PP ZZ b D l k d mc ms tgt ls st X Q) : wl_W PP ZZ b D l k d mc ms pc ls (vv_I x :: st) X Q := by
  intro p e R s m args below meth c H locs cells slots MC MS arr hS hR hc hs hV hX hL
  obtain ⟨hd, rfl⟩ := hd
  exact lv_tableIn hS.1 hS.2.1 hd h1 h2 ho ht (kk p e R s m args below meth c H locs cells slots MC MS arr hS hR hc hs hV hX hL)
theorem rr_tabOutY {dflt lo hi : Int} {offs : Array Int} {len : Nat} {x : Int32} {tgt : Nat} (hd : op_at k pc (.tableswitch dflt lo hi offs) len np) (h : x.toInt < lo ∨ hi < x.toInt) (ht : (pc : Int) + dflt = (tgt : Int)) (kk : wl_W PP ZZ b D l k d mc ms tgt ls st X Q) : wl_W PP ZZ b D l k d mc ms pc ls (vv_I x :: st) X Q := by
  intro p e R s m args below meth c H locs cells slots MC MS arr hS hR hc hs hV hX hL
  obtain ⟨hd, rfl⟩ := hd
  exact lv_tableOut hS.1 hS.2.1 hd h ht (kk p e R s m args below meth c H locs cells slots MC MS arr hS hR hc hs hV hX hL)
theorem wl_call {mc2 ms2 : Nat} {As st0 rest : List vv_T} {Q2 : Option vv_T → mx_T → Prop} {p : Program} {e : Env} {R : Room} {s : State} {m : MethodId} {args : Array Value} {below : List Frame} {meth : Method} {c : Code} {H : Heap} {locs : List Loc} {cells slots MC MS : Nat} {arr : Array Slot} {pc : Nat}
    (hr : va_Run p l e R s m args below meth c H locs cells slots mc2 ms2 (F0 m pc arr (st0.map (to_V b))) (rest.map (to_V b)) (wm_Q b D Q2 (As.map (to_V b)).toArray) (fun q => b ≤ q))
    (hS : wl_S PP k p e R s m args below meth c MC MS b D) (hR : d ≤ R.frames ∧ 40 * d ≤ R.locals ∧ MC ≤ R.cells ∧ MS ≤ R.slots) (hc : cells + mc ≤ MC) (hs : slots + ms ≤ MS) (hV : va_S (fun q => b ≤ q) s.heap H locs) (hL : wm_L b k.2.2.1 ls arr)
    {mc1 ms1 : Nat} (h1 : mc1 + mc2 = mc) (h2 : ms1 + ms2 = ms) (kk : ∀ (r : Option vv_T) (Y : mx_T), Q2 r Y → wl_W PP ZZ b D l k d mc1 ms1 (pc + 3) ls (r.toList ++ rest) Y Q) :
    W p l e R s m args below meth c H locs cells slots (ZZ below args s) (F0 m pc arr (st0.map (to_V b))) := by
  intro T hT Xs
  obtain ⟨v, st₀, t, T', L, h0, X', hLc, e1, e2, ⟨⟨r, Y, hv, hq, hm⟩, hz, hk⟩, st⟩ := hr T hT Xs
  cases hv
  rw [h0] at hz hk
  have K2 := kk r Y hq p e R s m args below meth c T'.heap (locs ++ L) (cells + mc2) (slots + ms2) MC MS arr hS hR (by omega) (by omega)
    ⟨Nat.le_trans hV.1 (by rw [e1]; exact hz), fun q g1 g2 => by rw [e1, hk q (Nat.lt_of_lt_of_le g1 hV.1) g2]; exact hV.2.1 q g1 g2, fun q hq => by
      rcases List.mem_append.mp hq with h | h
      · exact hV.2.2 q h
      · exact hLc q h⟩ (by rw [e1]; exact hm) hL
  rw [List.map_append, show r.toList.map (to_V b) = (r.map (to_V b)).toList by cases r <;> rfl] at K2
  obtain ⟨t2, a1, b1⟩ := K2 T' rfl X'
  exact ⟨t2, st t2 a1, b1⟩
theorem rr_callVY {k2 : mm_T} {i n d2 a ci mc2 ms2 mc1 ms1 : Nat} {As st0 rest : List vv_T} {Q2 : Option vv_T → mx_T → Prop} (hd : op_at k pc (.invokevirtual i) 3 np) (hc : cl_V k k2 i n) (hM : wm_C l k2 d2 mc2 ms2 (vv_A (some a) :: As) X Q2) (hdd : d2 + 1 ≤ d) (hk : kO a = ci) (hci : ci < 6) (hcn : ∀ q, mCl[ci]? = some q → q.1 = k2.1.cls) (ha : a < X.2.2.2)
    (hn : As.length = n) (hst : As.reverse ++ vv_A (some a) :: rest = st0) (hW : (rest.map vv_c).sum ≤ 8) (h1 : mc1 + mc2 = mc) (h2 : ms1 + ms2 = ms) (kk : ∀ (r : Option vv_T) (Y : mx_T), Q2 r Y → wl_W PP ZZ b D l k d mc1 ms1 np ls (r.toList ++ rest) Y Q) : wl_W PP ZZ b D l k d mc ms pc ls st0 X Q := by
  subst hst
  intro p e R s m args below meth c H locs cells slots MC MS arr hS hR hcl hs hV hX hL
  obtain ⟨hd, rfl⟩ := hd
  obtain ⟨⟨c1, c2, c3, c4, c5⟩, c6, c7⟩ := hc
  have hts := hS.2.2.2.2.2.1
  obtain ⟨r, g1, cell, q1, q2, q3, -⟩ := mx_at hX hk hci ha
  have hrc := hcn r g1
  have hrec : ∃ cellB : Cell, H[b + a]? = some cellB ∧ cellB.vm.isStatics = false ∧ s.vm.findClass k2.1.cls = some cellB.cls := ⟨cell, q1, by rw [q3]; rfl, by rw [q2, ← hrc]; exact (hS.2.2.2.2.2.2.2.2.1.1.1 ci r g1).2.1⟩
  refine wl_call (As := vv_A (some a) :: As) (rest := rest) (d := d) (k := k) (va_runV (As := As.map (to_V b)) (rest := rest.map (to_V b)) (C := k2.1.cls) ⟨hS.1, hS.2.1, hS.2.2.1, hS.2.2.2.2.1, hts⟩ (hM b D) ⟨callB_of n hts (gw_goodIn (k := k) c2) rfl rfl rfl (hts _ c3) (hts _ c1) c4 ⟨by show d2 + 1 ≤ _; omega, by show 8 + (k2.2.2.1 + 11) + 40 * d2 ≤ _; omega⟩, hts _ c6, hts _ c7⟩ ⟨wm_blind, hrec, wl_pre hS hV hX⟩ rfl (by rw [List.length_map]; exact hn) hL.1 ?_ (lv_room (by rw [sum_c]; exact hW)) hd ⟨by omega, by omega⟩) hS hR hcl hs hV hL h1 h2 kk
  show List.map (to_V b) (As.reverse ++ vv_A (some a) :: rest) = (As.map (to_V b)).reverse ++ _
  rw [List.map_append, List.map_reverse]
  rfl
theorem rr_callIY {k2 : mm_T} {i n d2 a mc2 ms2 mc1 ms1 : Nat} {As st0 rest : List vv_T} {Q2 : Option vv_T → mx_T → Prop} (hd : op_at k pc (.invokespecial i) 3 np) (hc : cl_B k k2 i n ∧ Cond.instanceMethod k2.1 ∈ GW ∧ k2.1.name = "<init>" ∧ k2.2.2.2 = none) (hM : wm_C l k2 d2 mc2 ms2 (vv_A (some a) :: As) X Q2) (hdd : d2 + 1 ≤ d)
    (hn : As.length = n) (hst : As.reverse ++ vv_A (some a) :: rest = st0) (hW : (rest.map vv_c).sum ≤ 8) (h1 : mc1 + mc2 = mc) (h2 : ms1 + ms2 = ms) (kk : ∀ (r : Option vv_T) (Y : mx_T), Q2 r Y → wl_W PP ZZ b D l k d mc1 ms1 np ls (r.toList ++ rest) Y Q) : wl_W PP ZZ b D l k d mc ms pc ls st0 X Q := by
  subst hst
  intro p e R s m args below meth c H locs cells slots MC MS arr hS hR hcl hs hV hX hL
  obtain ⟨hd, rfl⟩ := hd
  obtain ⟨⟨c1, c2, c3, c4, c5⟩, c6, c7, c8⟩ := hc
  have hts := hS.2.2.2.2.2.1
  refine wl_call (As := vv_A (some a) :: As) (rest := rest) (d := d) (k := k) (va_runI (As := As.map (to_V b)) (rest := rest.map (to_V b)) (b := b + a) ⟨hS.1, hS.2.1, hS.2.2.1, hS.2.2.2.2.1, hts⟩ (hM b D) ⟨callB_of (ret := none) n hts (gw_goodIn (k := k) c2) (by rw [c8]) rfl rfl (hts _ c3) (hts _ c1) c4 ⟨by show d2 + 1 ≤ _; omega, by show 8 + (k2.2.2.1 + 11) + 40 * d2 ≤ _; omega⟩, c7, hts _ c6⟩ ⟨wm_blind, wl_pre hS hV hX⟩ rfl (by rw [List.length_map]; exact hn) hL.1 ?_ (lv_room (by rw [sum_c]; exact hW)) hd ⟨by omega, by omega⟩) hS hR hcl hs hV hL h1 h2 kk
  show List.map (to_V b) (As.reverse ++ vv_A (some a) :: rest) = (As.map (to_V b)).reverse ++ _
  rw [List.map_append, List.map_reverse]
  rfl
end RR
section RM
variable {PP : PP_T} {ZZ : ZZ_T} {b : Nat} {D : md_T} {l : Launch} {k : mm_T} {d mc ms pc np : Nat} {ls st : List vv_T} {Q : Option vv_T → mx_T → Prop} {I : Nat → Nat → Int32} {L : Nat → Nat → Int64} {Rf : Nat → Nat → Option Nat} {n : Nat}
theorem rr_newY {i ci mc2 ms2 : Nat} (hd : op_at k pc (.new i) 3 np) (hc : nw_T k i ci) (hk : kO n = ci) (hci : ci < 6) (h1 : mc2 + 1 = mc) (h2 : ms2 + mx_N ci = ms) (kk : wl_W PP ZZ b D l k d mc2 ms2 np ls (vv_A (some n) :: st) (zr_I I n, L, zr_R Rf n, n + 1) Q) : wl_W PP ZZ b D l k d mc ms pc ls st (I, L, Rf, n) Q := by
  intro p e R s m args below meth c H locs cells slots MC MS arr hS hR hcl hs hV hX hL
  obtain ⟨hd, rfl⟩ := hd
  obtain ⟨C, T, ty, f1, f2, f3, f4, f5, f6, f7⟩ := hc
  have hts := hS.2.2.2.2.2.1
  have hK := hS.2.2.2.2.2.2.2.2.1.1
  have hKn := hK.1 ci _ f1
  have hsz : H.size = b + n := hX.1
  refine W.newcK hS.1 hS.2.1 hS.2.2.2.2.1 (hts _ f5) (hts _ f6) (hts _ f7) rfl hd (by omega) (by omega) hKn.2.1 rfl fun H1 kC hkC e1 z1 o1 => ?_
  rw [hsz] at e1 z1 o1 ⊢
  refine kk p e R s m args below meth c H1 locs (cells + 1) (slots + mx_N ci) MC MS arr hS hR (by omega) (by omega) (wm_vN hV hsz z1 o1) (mx_grow hX z1 o1 ?_ (fun a ha => ⟨if_neg (by omega), rfl, if_neg (by omega)⟩)) hL
  rw [mx_ctO hk hci]
  refine ⟨_, f1, (u_born ty hts f2 hKn hkC e1 f3).to fun j hj => ?_⟩
  have hj' : j < mx_N ci := hj
  rw [f4 j hj']
  simp only [vp_V, List.getD_eq_getElem?_getD, mx_fsk hj', Option.getD_some, mx_sl]
  split
  · simp [zr_R, va_rf]
  · simp [zr_I]
end RM
section RE
variable {PP : PP_T} {ZZ : ZZ_T} {b : Nat} {D : md_T} {l : Launch} {k : mm_T} {d mc ms pc np : Nat} {ls st : List vv_T} {Q : Option vv_T → mx_T → Prop} {I : Nat → Nat → Int32} {L : Nat → Nat → Int64} {Rf : Nat → Nat → Option Nat} {n : Nat} {X : mx_T}
end RE
section RP
variable {PP : PP_T} {ZZ : ZZ_T} {b : Nat} {D : md_T} {l : Launch} {k : mm_T} {d mc ms pc np : Nat} {st : List vv_T} {X : mx_T} {Q : Option vv_T → mx_T → Prop}
theorem ri_3Y {x0 x1 x2 : vv_T} {t : List vv_T} {y : Int32} (hd : op_at k pc (.iload_n 3) 1 np) (kk : wl_W PP ZZ b D l k d mc ms np (x0 :: x1 :: x2 :: vv_I y :: t) (vv_I y :: st) X Q) : wl_W PP ZZ b D l k d mc ms pc (x0 :: x1 :: x2 :: vv_I y :: t) st X Q := rr_iload_nY hd rfl rfl kk
theorem ra_0Y {t : List vv_T} {y : Nat} (hd : op_at k pc (.aload_n 0) 1 np) (kk : wl_W PP ZZ b D l k d mc ms np (vv_A (some y) :: t) (vv_A (some y) :: st) X Q) : wl_W PP ZZ b D l k d mc ms pc (vv_A (some y) :: t) st X Q := rr_aload_nY hd rfl rfl kk
theorem re_0Y {t : List vv_T} {y : Nat} (hd : op_at k pc (.aload_n 0) 1 np) (kk : wl_W PP ZZ b D l k d mc ms np (vv_E y :: t) (vv_E y :: st) X Q) : wl_W PP ZZ b D l k d mc ms pc (vv_E y :: t) st X Q := rr_aload_nEY hd rfl rfl kk
theorem ra_1Y {x0 : vv_T} {t : List vv_T} {y : Nat} (hd : op_at k pc (.aload_n 1) 1 np) (kk : wl_W PP ZZ b D l k d mc ms np (x0 :: vv_A (some y) :: t) (vv_A (some y) :: st) X Q) : wl_W PP ZZ b D l k d mc ms pc (x0 :: vv_A (some y) :: t) st X Q := rr_aload_nY hd rfl rfl kk
theorem ra_2Y {x0 x1 : vv_T} {t : List vv_T} {y : Nat} (hd : op_at k pc (.aload_n 2) 1 np) (kk : wl_W PP ZZ b D l k d mc ms np (x0 :: x1 :: vv_A (some y) :: t) (vv_A (some y) :: st) X Q) : wl_W PP ZZ b D l k d mc ms pc (x0 :: x1 :: vv_A (some y) :: t) st X Q := rr_aload_nY hd rfl rfl kk
theorem si_3Y {x0 x1 x2 : vv_T} {t : List vv_T} {w : vv_T} {y : Int32} (hd : op_at k pc (.istore_n 3) 1 np) (hn : Nat.blt 3 k.2.2.1 = true) (ho : ls_ok (x0 :: x1 :: x2 :: w :: t) 3 = true) (kk : wl_W PP ZZ b D l k d mc ms np (x0 :: x1 :: x2 :: vv_I y :: t) st X Q) : wl_W PP ZZ b D l k d mc ms pc (x0 :: x1 :: x2 :: w :: t) (vv_I y :: st) X Q := rr_istore_nY hd rfl (by simp only [List.length_cons]; omega) (Nat.le_of_ble_eq_true hn) ho rfl kk
theorem sa_1Y {x0 : vv_T} {t : List vv_T} {w : vv_T} {y : Nat} (hd : op_at k pc (.astore_n 1) 1 np) (hn : Nat.blt 1 k.2.2.1 = true) (ho : ls_ok (x0 :: w :: t) 1 = true) (kk : wl_W PP ZZ b D l k d mc ms np (x0 :: vv_A (some y) :: t) st X Q) : wl_W PP ZZ b D l k d mc ms pc (x0 :: w :: t) (vv_A (some y) :: st) X Q := rr_astore_nY hd rfl (by simp only [List.length_cons]; omega) (Nat.le_of_ble_eq_true hn) ho rfl kk
theorem sa_2Y {x0 x1 : vv_T} {t : List vv_T} {w : vv_T} {y : Nat} (hd : op_at k pc (.astore_n 2) 1 np) (hn : Nat.blt 2 k.2.2.1 = true) (ho : ls_ok (x0 :: x1 :: w :: t) 2 = true) (kk : wl_W PP ZZ b D l k d mc ms np (x0 :: x1 :: vv_A (some y) :: t) st X Q) : wl_W PP ZZ b D l k d mc ms pc (x0 :: x1 :: w :: t) (vv_A (some y) :: st) X Q := rr_astore_nY hd rfl (by simp only [List.length_cons]; omega) (Nat.le_of_ble_eq_true hn) ho rfl kk
theorem rc_3Y {x0 x1 x2 : vv_T} {t : List vv_T} {y v : Int32} {c : Int} (hd : op_at k pc (.iinc 3 c) 3 np) (hn : Nat.blt 3 k.2.2.1 = true) (hv : y + Int32.ofInt c = v) (ho : ls_ok (x0 :: x1 :: x2 :: vv_I y :: t) 3 = true) (kk : wl_W PP ZZ b D l k d mc ms np (x0 :: x1 :: x2 :: vv_I v :: t) st X Q) : wl_W PP ZZ b D l k d mc ms pc (x0 :: x1 :: x2 :: vv_I y :: t) st X Q := rr_iincY hd rfl hv (Nat.le_of_ble_eq_true hn) ho rfl kk
theorem rn_3Y {x0 x1 x2 : vv_T} {t : List vv_T} {y : Nat} (hd : op_at k pc (.iinc 3 1) 3 np) (hn : Nat.blt 3 k.2.2.1 = true) (ho : ls_ok (x0 :: x1 :: x2 :: vv_I (nI y) :: t) 3 = true) (kk : wl_W PP ZZ b D l k d mc ms np (x0 :: x1 :: x2 :: vv_I (nI (y + 1)) :: t) st X Q) : wl_W PP ZZ b D l k d mc ms pc (x0 :: x1 :: x2 :: vv_I (nI y) :: t) st X Q := rc_3Y hd hn (by rw [← nI_1]; rfl) ho kk
theorem rk_m1Y {ls : List vv_T} (hd : op_at k pc (.iconst (-1)) 1 np) (kk : wl_W PP ZZ b D l k d mc ms np ls (vv_I (-1) :: st) X Q) : wl_W PP ZZ b D l k d mc ms pc ls st X Q := rr_iconstY hd (by decide) kk
theorem rk_0Y {ls : List vv_T} (hd : op_at k pc (.iconst 0) 1 np) (kk : wl_W PP ZZ b D l k d mc ms np ls (vv_I (0) :: st) X Q) : wl_W PP ZZ b D l k d mc ms pc ls st X Q := rr_iconstY hd (by decide) kk
theorem rk_1Y {ls : List vv_T} (hd : op_at k pc (.iconst 1) 1 np) (kk : wl_W PP ZZ b D l k d mc ms np ls (vv_I (1) :: st) X Q) : wl_W PP ZZ b D l k d mc ms pc ls st X Q := rr_iconstY hd (by decide) kk
theorem rk_2Y {ls : List vv_T} (hd : op_at k pc (.iconst 2) 1 np) (kk : wl_W PP ZZ b D l k d mc ms np ls (vv_I (2) :: st) X Q) : wl_W PP ZZ b D l k d mc ms pc ls st X Q := rr_iconstY hd (by decide) kk
theorem rk_3Y {ls : List vv_T} (hd : op_at k pc (.iconst 3) 1 np) (kk : wl_W PP ZZ b D l k d mc ms np ls (vv_I (3) :: st) X Q) : wl_W PP ZZ b D l k d mc ms pc ls st X Q := rr_iconstY hd (by decide) kk
theorem rk_4Y {ls : List vv_T} (hd : op_at k pc (.iconst 4) 1 np) (kk : wl_W PP ZZ b D l k d mc ms np ls (vv_I (4) :: st) X Q) : wl_W PP ZZ b D l k d mc ms pc ls st X Q := rr_iconstY hd (by decide) kk
theorem rk_5Y {ls : List vv_T} (hd : op_at k pc (.iconst 5) 1 np) (kk : wl_W PP ZZ b D l k d mc ms np ls (vv_I (5) :: st) X Q) : wl_W PP ZZ b D l k d mc ms pc ls st X Q := rr_iconstY hd (by decide) kk
end RP
