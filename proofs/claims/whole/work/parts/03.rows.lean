/-! the rows of the light judgement: an instruction each (by program: wip/whole/gen03.py) -/
section RR
variable {l : Launch} {k : mm_T} {d mc ms pc np : Nat} {ls st : List vv_T} {X : mx_T} {Q : Option vv_T → mx_T → Prop}
theorem rr_iconst {n : Int} {v : Int32} (hd : op_at k pc (.iconst n) 1 np) (hv : Int32.ofInt n = v) (kk : wm_W l k d mc ms np ls (vv_I v :: st) X Q) : wm_W l k d mc ms pc ls (st) X Q := by
  intro b D p e R s m args below meth c H locs cells slots MC MS arr hS hR hc hs hV hX hL
  obtain ⟨hd, rfl⟩ := hd
  exact lv_iconst hS.1 hS.2.1 hd hv (kk b D p e R s m args below meth c H locs cells slots MC MS arr hS hR hc hs hV hX hL)
theorem rr_bipush {n : Int} {v : Int32} (hd : op_at k pc (.bipush n) 2 np) (hv : (Int8.ofInt n).toInt32 = v) (kk : wm_W l k d mc ms np ls (vv_I v :: st) X Q) : wm_W l k d mc ms pc ls (st) X Q := by
  intro b D p e R s m args below meth c H locs cells slots MC MS arr hS hR hc hs hV hX hL
  obtain ⟨hd, rfl⟩ := hd
  exact lv_bipush hS.1 hS.2.1 hd hv (kk b D p e R s m args below meth c H locs cells slots MC MS arr hS hR hc hs hV hX hL)
theorem rr_sipush {n : Int} {v : Int32} (hd : op_at k pc (.sipush n) 3 np) (hv : (Int16.ofInt n).toInt32 = v) (kk : wm_W l k d mc ms np ls (vv_I v :: st) X Q) : wm_W l k d mc ms pc ls (st) X Q := by
  intro b D p e R s m args below meth c H locs cells slots MC MS arr hS hR hc hs hV hX hL
  obtain ⟨hd, rfl⟩ := hd
  exact lv_sipush hS.1 hS.2.1 hd hv (kk b D p e R s m args below meth c H locs cells slots MC MS arr hS hR hc hs hV hX hL)
theorem rr_lconst {n : Fin 2} {v : Int64} (hd : op_at k pc (.lconst n) 1 np) (hv : Int64.ofNat (n : Nat) = v) (kk : wm_W l k d mc ms np ls (vv_L v :: st) X Q) : wm_W l k d mc ms pc ls (st) X Q := by
  intro b D p e R s m args below meth c H locs cells slots MC MS arr hS hR hc hs hV hX hL
  obtain ⟨hd, rfl⟩ := hd
  exact lv_lconst hS.1 hS.2.1 hd hv (kk b D p e R s m args below meth c H locs cells slots MC MS arr hS hR hc hs hV hX hL)
theorem rr_iload_n {i : Fin 4} {j : Nat} {x : Int32} (hd : op_at k pc (.iload_n i) 1 np) (hi : (i : Nat) = j) (hl : ls[j]? = some (vv_I x)) (kk : wm_W l k d mc ms np ls (vv_I x :: st) X Q) : wm_W l k d mc ms pc ls (st) X Q := by
  intro b D p e R s m args below meth c H locs cells slots MC MS arr hS hR hc hs hV hX hL
  obtain ⟨hd, rfl⟩ := hd
  exact lv_iload_n hS.1 hS.2.1 hd hi (hL.2.2 _ _ hl (fun q => by cases q)) (kk b D p e R s m args below meth c H locs cells slots MC MS arr hS hR hc hs hV hX hL)
theorem rr_iload {j : Nat} {x : Int32} (hd : op_at k pc (.iload j) 2 np) (hl : ls[j]? = some (vv_I x)) (kk : wm_W l k d mc ms np ls (vv_I x :: st) X Q) : wm_W l k d mc ms pc ls (st) X Q := by
  intro b D p e R s m args below meth c H locs cells slots MC MS arr hS hR hc hs hV hX hL
  obtain ⟨hd, rfl⟩ := hd
  exact lv_iload hS.1 hS.2.1 hd (hL.2.2 _ _ hl (fun q => by cases q)) (kk b D p e R s m args below meth c H locs cells slots MC MS arr hS hR hc hs hV hX hL)
theorem rr_lload_n {i : Fin 4} {j : Nat} {x : Int64} (hd : op_at k pc (.lload_n i) 1 np) (hi : (i : Nat) = j) (hl : ls[j]? = some (vv_L x)) (kk : wm_W l k d mc ms np ls (vv_L x :: st) X Q) : wm_W l k d mc ms pc ls (st) X Q := by
  intro b D p e R s m args below meth c H locs cells slots MC MS arr hS hR hc hs hV hX hL
  obtain ⟨hd, rfl⟩ := hd
  exact lv_lload_n hS.1 hS.2.1 hd hi (hL.2.2 _ _ hl (fun q => by cases q)) (kk b D p e R s m args below meth c H locs cells slots MC MS arr hS hR hc hs hV hX hL)
theorem rr_lload {j : Nat} {x : Int64} (hd : op_at k pc (.lload j) 2 np) (hl : ls[j]? = some (vv_L x)) (kk : wm_W l k d mc ms np ls (vv_L x :: st) X Q) : wm_W l k d mc ms pc ls (st) X Q := by
  intro b D p e R s m args below meth c H locs cells slots MC MS arr hS hR hc hs hV hX hL
  obtain ⟨hd, rfl⟩ := hd
  exact lv_lload hS.1 hS.2.1 hd (hL.2.2 _ _ hl (fun q => by cases q)) (kk b D p e R s m args below meth c H locs cells slots MC MS arr hS hR hc hs hV hX hL)
theorem rr_aload_n {i : Fin 4} {j x : Nat} (hd : op_at k pc (.aload_n i) 1 np) (hi : (i : Nat) = j) (hl : ls[j]? = some (vv_A (some x))) (kk : wm_W l k d mc ms np ls (vv_A (some x) :: st) X Q) : wm_W l k d mc ms pc ls (st) X Q := by
  intro b D p e R s m args below meth c H locs cells slots MC MS arr hS hR hc hs hV hX hL
  obtain ⟨hd, rfl⟩ := hd
  exact lv_aload_n hS.1 hS.2.1 hd hi (hL.2.2 _ _ hl (fun q => by cases q)) (kk b D p e R s m args below meth c H locs cells slots MC MS arr hS hR hc hs hV hX hL)
theorem rr_aload {j x : Nat} (hd : op_at k pc (.aload j) 2 np) (hl : ls[j]? = some (vv_A (some x))) (kk : wm_W l k d mc ms np ls (vv_A (some x) :: st) X Q) : wm_W l k d mc ms pc ls (st) X Q := by
  intro b D p e R s m args below meth c H locs cells slots MC MS arr hS hR hc hs hV hX hL
  obtain ⟨hd, rfl⟩ := hd
  exact lv_aload hS.1 hS.2.1 hd (hL.2.2 _ _ hl (fun q => by cases q)) (kk b D p e R s m args below meth c H locs cells slots MC MS arr hS hR hc hs hV hX hL)
theorem rr_aload_nE {i : Fin 4} {j x : Nat} (hd : op_at k pc (.aload_n i) 1 np) (hi : (i : Nat) = j) (hl : ls[j]? = some (vv_E x)) (kk : wm_W l k d mc ms np ls (vv_E x :: st) X Q) : wm_W l k d mc ms pc ls (st) X Q := by
  intro b D p e R s m args below meth c H locs cells slots MC MS arr hS hR hc hs hV hX hL
  obtain ⟨hd, rfl⟩ := hd
  exact lv_aload_n hS.1 hS.2.1 hd hi (hL.2.2 _ _ hl (fun q => by cases q)) (kk b D p e R s m args below meth c H locs cells slots MC MS arr hS hR hc hs hV hX hL)
theorem rr_aloadE {j x : Nat} (hd : op_at k pc (.aload j) 2 np) (hl : ls[j]? = some (vv_E x)) (kk : wm_W l k d mc ms np ls (vv_E x :: st) X Q) : wm_W l k d mc ms pc ls (st) X Q := by
  intro b D p e R s m args below meth c H locs cells slots MC MS arr hS hR hc hs hV hX hL
  obtain ⟨hd, rfl⟩ := hd
  exact lv_aload hS.1 hS.2.1 hd (hL.2.2 _ _ hl (fun q => by cases q)) (kk b D p e R s m args below meth c H locs cells slots MC MS arr hS hR hc hs hV hX hL)
theorem rr_istore_n {i : Fin 4} {j : Nat} {x : Int32} {ls2 : List vv_T} (hd : op_at k pc (.istore_n i) 1 np) (hi : (i : Nat) = j) (hj : j < ls.length) (hn : j < k.2.2.1) (ho : ls_ok ls j = true) (h2 : ls.set j (vv_I x) = ls2) (kk : wm_W l k d mc ms np ls2 st X Q) : wm_W l k d mc ms pc ls (vv_I x :: st) X Q := by
  subst h2
  intro b D p e R s m args below meth c H locs cells slots MC MS arr hS hR hc hs hV hX hL
  obtain ⟨hd, rfl⟩ := hd
  exact lv_istore_n hS.1 hS.2.1 hd hi hL.has hn rfl (fun arr2 h => kk b D p e R s m args below meth c H locs cells slots MC MS arr2 hS hR hc hs hV hX (wm_L.st (w := vv_I x) hj ho h))
theorem rr_istore  {j : Nat} {x : Int32} {ls2 : List vv_T} (hd : op_at k pc (.istore j) 2 np) (hj : j < ls.length) (hn : j < k.2.2.1) (ho : ls_ok ls j = true) (h2 : ls.set j (vv_I x) = ls2) (kk : wm_W l k d mc ms np ls2 st X Q) : wm_W l k d mc ms pc ls (vv_I x :: st) X Q := by
  subst h2
  intro b D p e R s m args below meth c H locs cells slots MC MS arr hS hR hc hs hV hX hL
  obtain ⟨hd, rfl⟩ := hd
  exact lv_istore hS.1 hS.2.1 hd hL.has hn rfl (fun arr2 h => kk b D p e R s m args below meth c H locs cells slots MC MS arr2 hS hR hc hs hV hX (wm_L.st (w := vv_I x) hj ho h))
theorem rr_astore_n {i : Fin 4} {j : Nat} {x : Nat} {ls2 : List vv_T} (hd : op_at k pc (.astore_n i) 1 np) (hi : (i : Nat) = j) (hj : j < ls.length) (hn : j < k.2.2.1) (ho : ls_ok ls j = true) (h2 : ls.set j (vv_A (some x)) = ls2) (kk : wm_W l k d mc ms np ls2 st X Q) : wm_W l k d mc ms pc ls (vv_A (some x) :: st) X Q := by
  subst h2
  intro b D p e R s m args below meth c H locs cells slots MC MS arr hS hR hc hs hV hX hL
  obtain ⟨hd, rfl⟩ := hd
  exact lv_astore_n hS.1 hS.2.1 hd hi hL.has hn rfl (fun arr2 h => kk b D p e R s m args below meth c H locs cells slots MC MS arr2 hS hR hc hs hV hX (wm_L.st (w := vv_A (some x)) hj ho h))
theorem rr_astore  {j : Nat} {x : Nat} {ls2 : List vv_T} (hd : op_at k pc (.astore j) 2 np) (hj : j < ls.length) (hn : j < k.2.2.1) (ho : ls_ok ls j = true) (h2 : ls.set j (vv_A (some x)) = ls2) (kk : wm_W l k d mc ms np ls2 st X Q) : wm_W l k d mc ms pc ls (vv_A (some x) :: st) X Q := by
  subst h2
  intro b D p e R s m args below meth c H locs cells slots MC MS arr hS hR hc hs hV hX hL
  obtain ⟨hd, rfl⟩ := hd
  exact lv_astore hS.1 hS.2.1 hd hL.has hn rfl (fun arr2 h => kk b D p e R s m args below meth c H locs cells slots MC MS arr2 hS hR hc hs hV hX (wm_L.st (w := vv_A (some x)) hj ho h))
theorem rr_astore_nE {i : Fin 4} {j : Nat} {x : Nat} {ls2 : List vv_T} (hd : op_at k pc (.astore_n i) 1 np) (hi : (i : Nat) = j) (hj : j < ls.length) (hn : j < k.2.2.1) (ho : ls_ok ls j = true) (h2 : ls.set j (vv_E x) = ls2) (kk : wm_W l k d mc ms np ls2 st X Q) : wm_W l k d mc ms pc ls (vv_E x :: st) X Q := by
  subst h2
  intro b D p e R s m args below meth c H locs cells slots MC MS arr hS hR hc hs hV hX hL
  obtain ⟨hd, rfl⟩ := hd
  exact lv_astore_n hS.1 hS.2.1 hd hi hL.has hn rfl (fun arr2 h => kk b D p e R s m args below meth c H locs cells slots MC MS arr2 hS hR hc hs hV hX (wm_L.st (w := vv_E x) hj ho h))
theorem rr_astoreE  {j : Nat} {x : Nat} {ls2 : List vv_T} (hd : op_at k pc (.astore j) 2 np) (hj : j < ls.length) (hn : j < k.2.2.1) (ho : ls_ok ls j = true) (h2 : ls.set j (vv_E x) = ls2) (kk : wm_W l k d mc ms np ls2 st X Q) : wm_W l k d mc ms pc ls (vv_E x :: st) X Q := by
  subst h2
  intro b D p e R s m args below meth c H locs cells slots MC MS arr hS hR hc hs hV hX hL
  obtain ⟨hd, rfl⟩ := hd
  exact lv_astore hS.1 hS.2.1 hd hL.has hn rfl (fun arr2 h => kk b D p e R s m args below meth c H locs cells slots MC MS arr2 hS hR hc hs hV hX (wm_L.st (w := vv_E x) hj ho h))
theorem rr_iinc {j : Nat} {n : Int} {x v : Int32} {ls2 : List vv_T} (hd : op_at k pc (.iinc j n) 3 np) (hl : ls[j]? = some (vv_I x)) (hv : x + Int32.ofInt n = v) (hn : j < k.2.2.1) (ho : ls_ok ls j = true) (h2 : ls.set j (vv_I v) = ls2) (kk : wm_W l k d mc ms np ls2 st X Q) : wm_W l k d mc ms pc ls st X Q := by
  subst h2
  intro b D p e R s m args below meth c H locs cells slots MC MS arr hS hR hc hs hV hX hL
  obtain ⟨hd, rfl⟩ := hd
  have hm := ls_V_in (b := b) ls 0 j _ hl (fun q => by cases q)
  rw [Nat.zero_add] at hm
  obtain ⟨kx, hkx⟩ := List.getElem?_of_mem hm
  exact lv_iinc hS.1 hS.2.1 hd hL.has hkx hv hn rfl (fun arr2 h => kk b D p e R s m args below meth c H locs cells slots MC MS arr2 hS hR hc hs hV hX (wm_L.st (w := vv_I v) (List.getElem?_eq_some_iff.mp hl).1 ho h))
theorem rr_dup {v : vv_T} (hd : op_at k pc (.dup) 1 np) (hv : vv_c v = 1) (kk : wm_W l k d mc ms np ls (v :: v :: st) X Q) : wm_W l k d mc ms pc ls (v :: st) X Q := by
  intro b D p e R s m args below meth c H locs cells slots MC MS arr hS hR hc hs hV hX hL
  obtain ⟨hd, rfl⟩ := hd
  exact lv_dup hS.1 hS.2.1 hd (by rw [to_V_c]; exact hv) (kk b D p e R s m args below meth c H locs cells slots MC MS arr hS hR hc hs hV hX hL)
theorem rr_dup_x1 {v w : vv_T} (hd : op_at k pc (.dup_x1) 1 np) (hv : vv_c v = 1) (hw : vv_c w = 1) (kk : wm_W l k d mc ms np ls (v :: w :: v :: st) X Q) : wm_W l k d mc ms pc ls (v :: w :: st) X Q := by
  intro b D p e R s m args below meth c H locs cells slots MC MS arr hS hR hc hs hV hX hL
  obtain ⟨hd, rfl⟩ := hd
  exact lv_dup_x1 hS.1 hS.2.1 hd (by rw [to_V_c]; exact hv) (by rw [to_V_c]; exact hw) (kk b D p e R s m args below meth c H locs cells slots MC MS arr hS hR hc hs hV hX hL)
theorem rr_dup2 {v w : vv_T} (hd : op_at k pc (.dup2) 1 np) (hv : vv_c v = 1) (hw : vv_c w = 1) (kk : wm_W l k d mc ms np ls (v :: w :: v :: w :: st) X Q) : wm_W l k d mc ms pc ls (v :: w :: st) X Q := by
  intro b D p e R s m args below meth c H locs cells slots MC MS arr hS hR hc hs hV hX hL
  obtain ⟨hd, rfl⟩ := hd
  exact lv_dup2_11 hS.1 hS.2.1 hd (by rw [to_V_c]; exact hv) (by rw [to_V_c]; exact hw) (kk b D p e R s m args below meth c H locs cells slots MC MS arr hS hR hc hs hV hX hL)
theorem rr_pop {v : vv_T} (hd : op_at k pc (.pop) 1 np) (hv : vv_c v = 1) (kk : wm_W l k d mc ms np ls (st) X Q) : wm_W l k d mc ms pc ls (v :: st) X Q := by
  intro b D p e R s m args below meth c H locs cells slots MC MS arr hS hR hc hs hV hX hL
  obtain ⟨hd, rfl⟩ := hd
  exact lv_pop hS.1 hS.2.1 hd (by rw [to_V_c]; exact hv) (kk b D p e R s m args below meth c H locs cells slots MC MS arr hS hR hc hs hV hX hL)
theorem rr_iadd {x y : Int32} (hd : op_at k pc (.iadd) 1 np) (kk : wm_W l k d mc ms np ls (vv_I (x + y) :: st) X Q) : wm_W l k d mc ms pc ls (vv_I y :: vv_I x :: st) X Q := by
  intro b D p e R s m args below meth c H locs cells slots MC MS arr hS hR hc hs hV hX hL
  obtain ⟨hd, rfl⟩ := hd
  exact lv_iadd hS.1 hS.2.1 hd (kk b D p e R s m args below meth c H locs cells slots MC MS arr hS hR hc hs hV hX hL)
theorem rr_isub {x y : Int32} (hd : op_at k pc (.isub) 1 np) (kk : wm_W l k d mc ms np ls (vv_I (x - y) :: st) X Q) : wm_W l k d mc ms pc ls (vv_I y :: vv_I x :: st) X Q := by
  intro b D p e R s m args below meth c H locs cells slots MC MS arr hS hR hc hs hV hX hL
  obtain ⟨hd, rfl⟩ := hd
  exact lv_isub hS.1 hS.2.1 hd (kk b D p e R s m args below meth c H locs cells slots MC MS arr hS hR hc hs hV hX hL)
theorem rr_imul {x y : Int32} (hd : op_at k pc (.imul) 1 np) (kk : wm_W l k d mc ms np ls (vv_I (x * y) :: st) X Q) : wm_W l k d mc ms pc ls (vv_I y :: vv_I x :: st) X Q := by
  intro b D p e R s m args below meth c H locs cells slots MC MS arr hS hR hc hs hV hX hL
  obtain ⟨hd, rfl⟩ := hd
  exact lv_imul hS.1 hS.2.1 hd (kk b D p e R s m args below meth c H locs cells slots MC MS arr hS hR hc hs hV hX hL)
theorem rr_iand {x y : Int32} (hd : op_at k pc (.iand) 1 np) (kk : wm_W l k d mc ms np ls (vv_I (x &&& y) :: st) X Q) : wm_W l k d mc ms pc ls (vv_I y :: vv_I x :: st) X Q := by
  intro b D p e R s m args below meth c H locs cells slots MC MS arr hS hR hc hs hV hX hL
  obtain ⟨hd, rfl⟩ := hd
  exact lv_iand hS.1 hS.2.1 hd (kk b D p e R s m args below meth c H locs cells slots MC MS arr hS hR hc hs hV hX hL)
theorem rr_ior {x y : Int32} (hd : op_at k pc (.ior) 1 np) (kk : wm_W l k d mc ms np ls (vv_I (x ||| y) :: st) X Q) : wm_W l k d mc ms pc ls (vv_I y :: vv_I x :: st) X Q := by
  intro b D p e R s m args below meth c H locs cells slots MC MS arr hS hR hc hs hV hX hL
  obtain ⟨hd, rfl⟩ := hd
  exact lv_ior hS.1 hS.2.1 hd (kk b D p e R s m args below meth c H locs cells slots MC MS arr hS hR hc hs hV hX hL)
theorem rr_ixor {x y : Int32} (hd : op_at k pc (.ixor) 1 np) (kk : wm_W l k d mc ms np ls (vv_I (x ^^^ y) :: st) X Q) : wm_W l k d mc ms pc ls (vv_I y :: vv_I x :: st) X Q := by
  intro b D p e R s m args below meth c H locs cells slots MC MS arr hS hR hc hs hV hX hL
  obtain ⟨hd, rfl⟩ := hd
  exact lv_ixor hS.1 hS.2.1 hd (kk b D p e R s m args below meth c H locs cells slots MC MS arr hS hR hc hs hV hX hL)
theorem rr_ishl {x y : Int32} (hd : op_at k pc (.ishl) 1 np) (kk : wm_W l k d mc ms np ls (vv_I (x <<< (y &&& 31)) :: st) X Q) : wm_W l k d mc ms pc ls (vv_I y :: vv_I x :: st) X Q := by
  intro b D p e R s m args below meth c H locs cells slots MC MS arr hS hR hc hs hV hX hL
  obtain ⟨hd, rfl⟩ := hd
  exact lv_ishl hS.1 hS.2.1 hd (kk b D p e R s m args below meth c H locs cells slots MC MS arr hS hR hc hs hV hX hL)
theorem rr_ishr {x y : Int32} (hd : op_at k pc (.ishr) 1 np) (kk : wm_W l k d mc ms np ls (vv_I (x >>> (y &&& 31)) :: st) X Q) : wm_W l k d mc ms pc ls (vv_I y :: vv_I x :: st) X Q := by
  intro b D p e R s m args below meth c H locs cells slots MC MS arr hS hR hc hs hV hX hL
  obtain ⟨hd, rfl⟩ := hd
  exact lv_ishr hS.1 hS.2.1 hd (kk b D p e R s m args below meth c H locs cells slots MC MS arr hS hR hc hs hV hX hL)
theorem rr_idiv {x y : Int32} (hd : op_at k pc (.idiv) 1 np) (hne : ¬ y = 0) (kk : wm_W l k d mc ms np ls (vv_I (x / y) :: st) X Q) : wm_W l k d mc ms pc ls (vv_I y :: vv_I x :: st) X Q := by
  intro b D p e R s m args below meth c H locs cells slots MC MS arr hS hR hc hs hV hX hL
  obtain ⟨hd, rfl⟩ := hd
  exact lv_idiv hS.1 hS.2.1 hd hne (kk b D p e R s m args below meth c H locs cells slots MC MS arr hS hR hc hs hV hX hL)
theorem rr_irem {x y : Int32} (hd : op_at k pc (.irem) 1 np) (hne : ¬ y = 0) (kk : wm_W l k d mc ms np ls (vv_I (x - x / y * y) :: st) X Q) : wm_W l k d mc ms pc ls (vv_I y :: vv_I x :: st) X Q := by
  intro b D p e R s m args below meth c H locs cells slots MC MS arr hS hR hc hs hV hX hL
  obtain ⟨hd, rfl⟩ := hd
  exact lv_irem hS.1 hS.2.1 hd hne (kk b D p e R s m args below meth c H locs cells slots MC MS arr hS hR hc hs hV hX hL)
theorem rr_ineg {x : Int32} (hd : op_at k pc (.ineg) 1 np) (kk : wm_W l k d mc ms np ls (vv_I (-x) :: st) X Q) : wm_W l k d mc ms pc ls (vv_I x :: st) X Q := by
  intro b D p e R s m args below meth c H locs cells slots MC MS arr hS hR hc hs hV hX hL
  obtain ⟨hd, rfl⟩ := hd
  exact lv_ineg hS.1 hS.2.1 hd (kk b D p e R s m args below meth c H locs cells slots MC MS arr hS hR hc hs hV hX hL)
theorem rr_iushr {x y : Int32} (hd : op_at k pc (.iushr) 1 np) (kk : wm_W l k d mc ms np ls (vv_I ((x.toUInt32 >>> (y.toUInt32 &&& Int32.toUInt32 31)).toInt32) :: st) X Q) : wm_W l k d mc ms pc ls (vv_I y :: vv_I x :: st) X Q := by
  intro b D p e R s m args below meth c H locs cells slots MC MS arr hS hR hc hs hV hX hL
  obtain ⟨hd, rfl⟩ := hd
  exact lv_iushr hS.1 hS.2.1 hd rfl (kk b D p e R s m args below meth c H locs cells slots MC MS arr hS hR hc hs hV hX hL)
theorem rr_l2i {x : Int64} (hd : op_at k pc (.l2i) 1 np) (kk : wm_W l k d mc ms np ls (vv_I x.toInt32 :: st) X Q) : wm_W l k d mc ms pc ls (vv_L x :: st) X Q := by
  intro b D p e R s m args below meth c H locs cells slots MC MS arr hS hR hc hs hV hX hL
  obtain ⟨hd, rfl⟩ := hd
  exact lv_l2i hS.1 hS.2.1 hd rfl (kk b D p e R s m args below meth c H locs cells slots MC MS arr hS hR hc hs hV hX hL)
theorem rr_i2l {x : Int32} (hd : op_at k pc (.i2l) 1 np) (kk : wm_W l k d mc ms np ls (vv_L x.toInt64 :: st) X Q) : wm_W l k d mc ms pc ls (vv_I x :: st) X Q := by
  intro b D p e R s m args below meth c H locs cells slots MC MS arr hS hR hc hs hV hX hL
  obtain ⟨hd, rfl⟩ := hd
  exact lv_i2l hS.1 hS.2.1 hd rfl (kk b D p e R s m args below meth c H locs cells slots MC MS arr hS hR hc hs hV hX hL)
theorem rr_i2b {x : Int32} (hd : op_at k pc (.i2b) 1 np) (kk : wm_W l k d mc ms np ls (vv_I x.toInt8.toInt32 :: st) X Q) : wm_W l k d mc ms pc ls (vv_I x :: st) X Q := by
  intro b D p e R s m args below meth c H locs cells slots MC MS arr hS hR hc hs hV hX hL
  obtain ⟨hd, rfl⟩ := hd
  exact lv_i2b hS.1 hS.2.1 hd rfl (kk b D p e R s m args below meth c H locs cells slots MC MS arr hS hR hc hs hV hX hL)
theorem rr_i2s {x : Int32} (hd : op_at k pc (.i2s) 1 np) (kk : wm_W l k d mc ms np ls (vv_I x.toInt16.toInt32 :: st) X Q) : wm_W l k d mc ms pc ls (vv_I x :: st) X Q := by
  intro b D p e R s m args below meth c H locs cells slots MC MS arr hS hR hc hs hV hX hL
  obtain ⟨hd, rfl⟩ := hd
  exact lv_i2s hS.1 hS.2.1 hd rfl (kk b D p e R s m args below meth c H locs cells slots MC MS arr hS hR hc hs hV hX hL)
theorem rr_i2c {x : Int32} (hd : op_at k pc (.i2c) 1 np) (kk : wm_W l k d mc ms np ls (vv_I (x.toUInt32 % 65536).toInt32 :: st) X Q) : wm_W l k d mc ms pc ls (vv_I x :: st) X Q := by
  intro b D p e R s m args below meth c H locs cells slots MC MS arr hS hR hc hs hV hX hL
  obtain ⟨hd, rfl⟩ := hd
  exact lv_i2c hS.1 hS.2.1 hd rfl (kk b D p e R s m args below meth c H locs cells slots MC MS arr hS hR hc hs hV hX hL)
theorem rr_land {x y : Int64} (hd : op_at k pc (.land) 1 np) (kk : wm_W l k d mc ms np ls (vv_L (x &&& y) :: st) X Q) : wm_W l k d mc ms pc ls (vv_L y :: vv_L x :: st) X Q := by
  intro b D p e R s m args below meth c H locs cells slots MC MS arr hS hR hc hs hV hX hL
  obtain ⟨hd, rfl⟩ := hd
  exact lv_land hS.1 hS.2.1 hd (kk b D p e R s m args below meth c H locs cells slots MC MS arr hS hR hc hs hV hX hL)
theorem rr_lor {x y : Int64} (hd : op_at k pc (.lor) 1 np) (kk : wm_W l k d mc ms np ls (vv_L (x ||| y) :: st) X Q) : wm_W l k d mc ms pc ls (vv_L y :: vv_L x :: st) X Q := by
  intro b D p e R s m args below meth c H locs cells slots MC MS arr hS hR hc hs hV hX hL
  obtain ⟨hd, rfl⟩ := hd
  exact lv_lor hS.1 hS.2.1 hd (kk b D p e R s m args below meth c H locs cells slots MC MS arr hS hR hc hs hV hX hL)
theorem rr_lshl {x : Int64} {y : Int32} (hd : op_at k pc (.lshl) 1 np) (kk : wm_W l k d mc ms np ls (vv_L (x <<< (y.toInt64 &&& 63)) :: st) X Q) : wm_W l k d mc ms pc ls (vv_I y :: vv_L x :: st) X Q := by
  intro b D p e R s m args below meth c H locs cells slots MC MS arr hS hR hc hs hV hX hL
  obtain ⟨hd, rfl⟩ := hd
  exact lv_lshl hS.1 hS.2.1 hd rfl (kk b D p e R s m args below meth c H locs cells slots MC MS arr hS hR hc hs hV hX hL)
theorem rr_ldc {i : Nat} {v : Int32} (hd : op_at k pc (.ldc i) 2 np) (hw : Cond.constant k.1.cls i v ∈ GW) (kk : wm_W l k d mc ms np ls (vv_I v :: st) X Q) : wm_W l k d mc ms pc ls (st) X Q := by
  intro b D p e R s m args below meth c H locs cells slots MC MS arr hS hR hc hs hV hX hL
  obtain ⟨hd, rfl⟩ := hd
  exact lv_ldc hS.1 hS.2.1 hS.2.2.2.2.1 (hS.2.2.2.2.2.1 _ hw) hd (kk b D p e R s m args below meth c H locs cells slots MC MS arr hS hR hc hs hV hX hL)
theorem rr_ldcw {i : Nat} {v : Int32} (hd : op_at k pc (.ldc_w i) 3 np) (hw : Cond.constant k.1.cls i v ∈ GW) (kk : wm_W l k d mc ms np ls (vv_I v :: st) X Q) : wm_W l k d mc ms pc ls (st) X Q := by
  intro b D p e R s m args below meth c H locs cells slots MC MS arr hS hR hc hs hV hX hL
  obtain ⟨hd, rfl⟩ := hd
  exact lv_ldcw hS.1 hS.2.1 hS.2.2.2.2.1 (hS.2.2.2.2.2.1 _ hw) hd (kk b D p e R s m args below meth c H locs cells slots MC MS arr hS hR hc hs hV hX hL)
theorem rr_ldc2 {i : Nat} {v : Int64} (hd : op_at k pc (.ldc2_w i) 3 np) (hw : Cond.constantLong k.1.cls i v ∈ GW) (kk : wm_W l k d mc ms np ls (vv_L v :: st) X Q) : wm_W l k d mc ms pc ls (st) X Q := by
  intro b D p e R s m args below meth c H locs cells slots MC MS arr hS hR hc hs hV hX hL
  obtain ⟨hd, rfl⟩ := hd
  exact lv_ldc2 hS.1 hS.2.1 hS.2.2.2.2.1 (hS.2.2.2.2.2.1 _ hw) hd (kk b D p e R s m args below meth c H locs cells slots MC MS arr hS hR hc hs hV hX hL)
theorem rr_if_eq {x : Int32} {off : Int} {tgt : Nat} (hd : op_at k pc (.ifCond .eq off) 3 np) (ht : (pc : Int) + off = (tgt : Int)) (kt : x = 0 → wm_W l k d mc ms tgt ls st X Q) (kf : ¬ (x = 0) → wm_W l k d mc ms np ls st X Q) : wm_W l k d mc ms pc ls (vv_I x :: st) X Q := by
  intro b D p e R s m args below meth c H locs cells slots MC MS arr hS hR hc hs hV hX hL
  obtain ⟨hd, rfl⟩ := hd
  exact lv_if_eq hS.1 hS.2.1 hd ht (fun q => kt q b D p e R s m args below meth c H locs cells slots MC MS arr hS hR hc hs hV hX hL) (fun q => kf q b D p e R s m args below meth c H locs cells slots MC MS arr hS hR hc hs hV hX hL)
theorem rr_if_ne {x : Int32} {off : Int} {tgt : Nat} (hd : op_at k pc (.ifCond .ne off) 3 np) (ht : (pc : Int) + off = (tgt : Int)) (kt : ¬ x = 0 → wm_W l k d mc ms tgt ls st X Q) (kf : x = 0 → wm_W l k d mc ms np ls st X Q) : wm_W l k d mc ms pc ls (vv_I x :: st) X Q := by
  intro b D p e R s m args below meth c H locs cells slots MC MS arr hS hR hc hs hV hX hL
  obtain ⟨hd, rfl⟩ := hd
  exact lv_if_ne hS.1 hS.2.1 hd ht (fun q => kt q b D p e R s m args below meth c H locs cells slots MC MS arr hS hR hc hs hV hX hL) (fun q => kf q b D p e R s m args below meth c H locs cells slots MC MS arr hS hR hc hs hV hX hL)
theorem rr_if_lt {x : Int32} {off : Int} {tgt : Nat} (hd : op_at k pc (.ifCond .lt off) 3 np) (ht : (pc : Int) + off = (tgt : Int)) (kt : x < 0 → wm_W l k d mc ms tgt ls st X Q) (kf : ¬ (x < 0) → wm_W l k d mc ms np ls st X Q) : wm_W l k d mc ms pc ls (vv_I x :: st) X Q := by
  intro b D p e R s m args below meth c H locs cells slots MC MS arr hS hR hc hs hV hX hL
  obtain ⟨hd, rfl⟩ := hd
  exact lv_if_lt hS.1 hS.2.1 hd ht (fun q => kt q b D p e R s m args below meth c H locs cells slots MC MS arr hS hR hc hs hV hX hL) (fun q => kf q b D p e R s m args below meth c H locs cells slots MC MS arr hS hR hc hs hV hX hL)
theorem rr_if_ge {x : Int32} {off : Int} {tgt : Nat} (hd : op_at k pc (.ifCond .ge off) 3 np) (ht : (pc : Int) + off = (tgt : Int)) (kt : 0 ≤ x → wm_W l k d mc ms tgt ls st X Q) (kf : ¬ (0 ≤ x) → wm_W l k d mc ms np ls st X Q) : wm_W l k d mc ms pc ls (vv_I x :: st) X Q := by
  intro b D p e R s m args below meth c H locs cells slots MC MS arr hS hR hc hs hV hX hL
  obtain ⟨hd, rfl⟩ := hd
  exact lv_if_ge hS.1 hS.2.1 hd ht (fun q => kt q b D p e R s m args below meth c H locs cells slots MC MS arr hS hR hc hs hV hX hL) (fun q => kf q b D p e R s m args below meth c H locs cells slots MC MS arr hS hR hc hs hV hX hL)
theorem rr_if_gt {x : Int32} {off : Int} {tgt : Nat} (hd : op_at k pc (.ifCond .gt off) 3 np) (ht : (pc : Int) + off = (tgt : Int)) (kt : 0 < x → wm_W l k d mc ms tgt ls st X Q) (kf : ¬ (0 < x) → wm_W l k d mc ms np ls st X Q) : wm_W l k d mc ms pc ls (vv_I x :: st) X Q := by
  intro b D p e R s m args below meth c H locs cells slots MC MS arr hS hR hc hs hV hX hL
  obtain ⟨hd, rfl⟩ := hd
  exact lv_if_gt hS.1 hS.2.1 hd ht (fun q => kt q b D p e R s m args below meth c H locs cells slots MC MS arr hS hR hc hs hV hX hL) (fun q => kf q b D p e R s m args below meth c H locs cells slots MC MS arr hS hR hc hs hV hX hL)
theorem rr_if_le {x : Int32} {off : Int} {tgt : Nat} (hd : op_at k pc (.ifCond .le off) 3 np) (ht : (pc : Int) + off = (tgt : Int)) (kt : x ≤ 0 → wm_W l k d mc ms tgt ls st X Q) (kf : ¬ (x ≤ 0) → wm_W l k d mc ms np ls st X Q) : wm_W l k d mc ms pc ls (vv_I x :: st) X Q := by
  intro b D p e R s m args below meth c H locs cells slots MC MS arr hS hR hc hs hV hX hL
  obtain ⟨hd, rfl⟩ := hd
  exact lv_if_le hS.1 hS.2.1 hd ht (fun q => kt q b D p e R s m args below meth c H locs cells slots MC MS arr hS hR hc hs hV hX hL) (fun q => kf q b D p e R s m args below meth c H locs cells slots MC MS arr hS hR hc hs hV hX hL)
theorem rr_icmp_eq {x y : Int32} {off : Int} {tgt : Nat} (hd : op_at k pc (.if_icmp .eq off) 3 np) (ht : (pc : Int) + off = (tgt : Int)) (kt : x = y → wm_W l k d mc ms tgt ls st X Q) (kf : ¬ (x = y) → wm_W l k d mc ms np ls st X Q) : wm_W l k d mc ms pc ls (vv_I y :: vv_I x :: st) X Q := by
  intro b D p e R s m args below meth c H locs cells slots MC MS arr hS hR hc hs hV hX hL
  obtain ⟨hd, rfl⟩ := hd
  exact lv_icmp_eq hS.1 hS.2.1 hd ht (fun q => kt q b D p e R s m args below meth c H locs cells slots MC MS arr hS hR hc hs hV hX hL) (fun q => kf q b D p e R s m args below meth c H locs cells slots MC MS arr hS hR hc hs hV hX hL)
theorem rr_icmp_ne {x y : Int32} {off : Int} {tgt : Nat} (hd : op_at k pc (.if_icmp .ne off) 3 np) (ht : (pc : Int) + off = (tgt : Int)) (kt : ¬ x = y → wm_W l k d mc ms tgt ls st X Q) (kf : x = y → wm_W l k d mc ms np ls st X Q) : wm_W l k d mc ms pc ls (vv_I y :: vv_I x :: st) X Q := by
  intro b D p e R s m args below meth c H locs cells slots MC MS arr hS hR hc hs hV hX hL
  obtain ⟨hd, rfl⟩ := hd
  exact lv_icmp_ne hS.1 hS.2.1 hd ht (fun q => kt q b D p e R s m args below meth c H locs cells slots MC MS arr hS hR hc hs hV hX hL) (fun q => kf q b D p e R s m args below meth c H locs cells slots MC MS arr hS hR hc hs hV hX hL)
theorem rr_icmp_lt {x y : Int32} {off : Int} {tgt : Nat} (hd : op_at k pc (.if_icmp .lt off) 3 np) (ht : (pc : Int) + off = (tgt : Int)) (kt : x < y → wm_W l k d mc ms tgt ls st X Q) (kf : ¬ (x < y) → wm_W l k d mc ms np ls st X Q) : wm_W l k d mc ms pc ls (vv_I y :: vv_I x :: st) X Q := by
  intro b D p e R s m args below meth c H locs cells slots MC MS arr hS hR hc hs hV hX hL
  obtain ⟨hd, rfl⟩ := hd
  exact lv_icmp_lt hS.1 hS.2.1 hd ht (fun q => kt q b D p e R s m args below meth c H locs cells slots MC MS arr hS hR hc hs hV hX hL) (fun q => kf q b D p e R s m args below meth c H locs cells slots MC MS arr hS hR hc hs hV hX hL)
theorem rr_icmp_ge {x y : Int32} {off : Int} {tgt : Nat} (hd : op_at k pc (.if_icmp .ge off) 3 np) (ht : (pc : Int) + off = (tgt : Int)) (kt : y ≤ x → wm_W l k d mc ms tgt ls st X Q) (kf : ¬ (y ≤ x) → wm_W l k d mc ms np ls st X Q) : wm_W l k d mc ms pc ls (vv_I y :: vv_I x :: st) X Q := by
  intro b D p e R s m args below meth c H locs cells slots MC MS arr hS hR hc hs hV hX hL
  obtain ⟨hd, rfl⟩ := hd
  exact lv_icmp_ge hS.1 hS.2.1 hd ht (fun q => kt q b D p e R s m args below meth c H locs cells slots MC MS arr hS hR hc hs hV hX hL) (fun q => kf q b D p e R s m args below meth c H locs cells slots MC MS arr hS hR hc hs hV hX hL)
theorem rr_icmp_gt {x y : Int32} {off : Int} {tgt : Nat} (hd : op_at k pc (.if_icmp .gt off) 3 np) (ht : (pc : Int) + off = (tgt : Int)) (kt : y < x → wm_W l k d mc ms tgt ls st X Q) (kf : ¬ (y < x) → wm_W l k d mc ms np ls st X Q) : wm_W l k d mc ms pc ls (vv_I y :: vv_I x :: st) X Q := by
  intro b D p e R s m args below meth c H locs cells slots MC MS arr hS hR hc hs hV hX hL
  obtain ⟨hd, rfl⟩ := hd
  exact lv_icmp_gt hS.1 hS.2.1 hd ht (fun q => kt q b D p e R s m args below meth c H locs cells slots MC MS arr hS hR hc hs hV hX hL) (fun q => kf q b D p e R s m args below meth c H locs cells slots MC MS arr hS hR hc hs hV hX hL)
theorem rr_icmp_le {x y : Int32} {off : Int} {tgt : Nat} (hd : op_at k pc (.if_icmp .le off) 3 np) (ht : (pc : Int) + off = (tgt : Int)) (kt : x ≤ y → wm_W l k d mc ms tgt ls st X Q) (kf : ¬ (x ≤ y) → wm_W l k d mc ms np ls st X Q) : wm_W l k d mc ms pc ls (vv_I y :: vv_I x :: st) X Q := by
  intro b D p e R s m args below meth c H locs cells slots MC MS arr hS hR hc hs hV hX hL
  obtain ⟨hd, rfl⟩ := hd
  exact lv_icmp_le hS.1 hS.2.1 hd ht (fun q => kt q b D p e R s m args below meth c H locs cells slots MC MS arr hS hR hc hs hV hX hL) (fun q => kf q b D p e R s m args below meth c H locs cells slots MC MS arr hS hR hc hs hV hX hL)
theorem rr_goto {off : Int} {tgt : Nat} (hd : op_at k pc (.goto off) 3 np) (ht : (pc : Int) + off = (tgt : Int)) (kk : wm_W l k d mc ms tgt ls st X Q) : wm_W l k d mc ms pc ls st X Q := by
  intro b D p e R s m args below meth c H locs cells slots MC MS arr hS hR hc hs hV hX hL
  obtain ⟨hd, rfl⟩ := hd
  exact lv_goto hS.1 hS.2.1 hd ht (kk b D p e R s m args below meth c H locs cells slots MC MS arr hS hR hc hs hV hX hL)
theorem rr_tabIn {dflt lo hi : Int} {offs : Array Int} {len : Nat} {x : Int32} {off : Int} {tgt : Nat} (hd : op_at k pc (.tableswitch dflt lo hi offs) len np) (h1 : ¬ x.toInt < lo) (h2 : ¬ hi < x.toInt) (ho : offs[(x.toInt - lo).toNat]? = some off) (ht : (pc : Int) + off = (tgt : Int)) (kk : wm_W l k d mc ms tgt ls st X Q) : wm_W l k d mc ms pc ls (vv_I x :: st) X Q := by
  intro b D p e R s m args below meth c H locs cells slots MC MS arr hS hR hc hs hV hX hL
  obtain ⟨hd, rfl⟩ := hd
  exact lv_tableIn hS.1 hS.2.1 hd h1 h2 ho ht (kk b D p e R s m args below meth c H locs cells slots MC MS arr hS hR hc hs hV hX hL)
theorem rr_tabOut {dflt lo hi : Int} {offs : Array Int} {len : Nat} {x : Int32} {tgt : Nat} (hd : op_at k pc (.tableswitch dflt lo hi offs) len np) (h : x.toInt < lo ∨ hi < x.toInt) (ht : (pc : Int) + dflt = (tgt : Int)) (kk : wm_W l k d mc ms tgt ls st X Q) : wm_W l k d mc ms pc ls (vv_I x :: st) X Q := by
  intro b D p e R s m args below meth c H locs cells slots MC MS arr hS hR hc hs hV hX hL
  obtain ⟨hd, rfl⟩ := hd
  exact lv_tableOut hS.1 hS.2.1 hd h ht (kk b D p e R s m args below meth c H locs cells slots MC MS arr hS hR hc hs hV hX hL)
theorem rr_lookup {dflt : Int} {ps : Array (Int × Int)} {len : Nat} {x : Int32} {off : Int} {tgt : Nat} (hd : op_at k pc (.lookupswitch dflt ps) len np) (hp : (ps.toList.zip (ps.toList.drop 1)).all (fun (a, next) => a.1 < next.1) = true) (ho : Op.lookupswitch.offset ps.toList dflt x.toInt = off) (ht : (pc : Int) + off = (tgt : Int)) (kk : wm_W l k d mc ms tgt ls st X Q) : wm_W l k d mc ms pc ls (vv_I x :: st) X Q := by
  intro b D p e R s m args below meth c H locs cells slots MC MS arr hS hR hc hs hV hX hL
  obtain ⟨hd, rfl⟩ := hd
  exact lv_lookup hS.1 hS.2.1 hd hp ho ht (kk b D p e R s m args below meth c H locs cells slots MC MS arr hS hR hc hs hV hX hL)
theorem rr_ireturn {v : Int32} {ty : FieldType} (hd : op_at k pc (.ireturn) 1 np) (hr : k.2.2.2 = some ty) (hn : narrow ty (.int v) = .int v) (hq : Q (some (vv_I v)) X) : wm_W l k d mc ms pc ls [vv_I v] X Q := by
  intro b D p e R s m args below meth c H locs cells slots MC MS arr hS hR hc hs hV hX hL
  obtain ⟨hd, rfl⟩ := hd
  exact W.widen (k := MC) (n := MS) (by omega) (by omega) (W.zret hS.1 hS.2.1 (hS.2.2.2.1.trans hr) hn (fun t ht hW => ⟨⟨some (vv_I v), X, rfl, hq, by rw [ht]; exact hX⟩, hV.F ht⟩) hV.2.2 hd hS.2.2.2.2.2.2.1)
theorem rr_lreturn {v : Int64} (hd : op_at k pc (.lreturn) 1 np) (hr : k.2.2.2 = some .long) (hq : Q (some (vv_L v)) X) : wm_W l k d mc ms pc ls [vv_L v] X Q := by
  intro b D p e R s m args below meth c H locs cells slots MC MS arr hS hR hc hs hV hX hL
  obtain ⟨hd, rfl⟩ := hd
  exact W.widen (k := MC) (n := MS) (by omega) (by omega) (W.lret hS.1 hS.2.1 (hS.2.2.2.1.trans hr) (fun t ht hW => ⟨⟨some (vv_L v), X, rfl, hq, by rw [ht]; exact hX⟩, hV.F ht⟩) hV.2.2 hd hS.2.2.2.2.2.2.1)
theorem rr_areturnE {a : Nat} {rt : FieldType} (hd : op_at k pc (.areturn) 1 np) (hr : k.2.2.2 = some rt) (hrt : (∃ n, rt = .object n) ∨ ∃ t, rt = .array t) (hq : Q (some (vv_E a)) X) : wm_W l k d mc ms pc ls [vv_E a] X Q := by
  intro b D p e R s m args below meth c H locs cells slots MC MS arr hS hR hc hs hV hX hL
  obtain ⟨hd, rfl⟩ := hd
  exact W.widen (k := MC) (n := MS) (by omega) (by omega) (W.aret hS.1 hS.2.1 (hS.2.2.2.1.trans hr) hrt (Or.inr ⟨a, rfl⟩) (fun t ht hW => ⟨⟨some (vv_E a), X, rfl, hq, by rw [ht]; exact hX⟩, hV.F ht⟩) hV.2.2 hd hS.2.2.2.2.2.2.1)
theorem rr_return  (hd : op_at k pc (.return_) 1 np) (hr : k.2.2.2 = none) (hq : Q (none) X) : wm_W l k d mc ms pc ls [] X Q := by
  intro b D p e R s m args below meth c H locs cells slots MC MS arr hS hR hc hs hV hX hL
  obtain ⟨hd, rfl⟩ := hd
  exact W.widen (k := MC) (n := MS) (by omega) (by omega) (W.vret hS.1 hS.2.1 (hS.2.2.2.1.trans hr) (fun t ht hW => ⟨⟨none, X, rfl, hq, by rw [ht]; exact hX⟩, hV.F ht⟩) hV.2.2 hd hS.2.2.2.2.2.2.1)
/-- a field of an object: class number ci, field number f; the link of the method's own class -/
abbrev fl_T (k : mm_T) (i ci f : Nat) : Prop := ∃ (C : String) (T : u_T) (N : Nat) (ty : Nat → FieldType), mCl[ci]? = some (C, T, N) ∧ f < N ∧ N = mx_N ci ∧ (∀ w ∈ u_ws C T N, w ∈ GW) ∧ (∀ j, j < N → parseFieldDescriptor (T j).2.2.1 = some (ty j)) ∧ (∀ a, a < N → ∀ b, b < N → a ≠ b → (T a).2.1 ≠ (T b).2.1) ∧ Cond.fieldLink k.1.cls i (T f).1 (T f).2.1 (T f).2.2.1 ∈ GW
theorem mx_ctO {b : Nat} {D : md_T} {X : mx_T} {a ci : Nat} (h : kO a = ci) (hc : ci < 6) : mx_ct b D X a = .inr (ci, mx_fs b X ci a) := by
  unfold mx_ct
  rw [h, if_neg (by omega), if_neg (by omega), if_neg (by omega)]
theorem mx_fsk {b : Nat} {X : mx_T} {ci a f : Nat} (hf : f < mx_N ci) : (mx_fs b X ci a)[f]? = some (mx_sl b X ci a f) := by
  unfold mx_fs
  rw [List.getElem?_map, List.getElem?_range hf]
  rfl
theorem mx_fsl {b : Nat} {X : mx_T} {ci a : Nat} : (mx_fs b X ci a).length = mx_N ci := by simp [mx_fs]
theorem rr_get {i ci f a : Nat} {w : vv_T} (hd : op_at k pc (.getfield i) 3 np) (hF : fl_T k i ci f) (hk : kO a = ci) (hci : ci < 6) (ha : a < X.2.2.2) (hw : ∀ b, mx_sl b X ci a f = to_V b w) (kk : wm_W l k d mc ms np ls (w :: st) X Q) : wm_W l k d mc ms pc ls (vv_A (some a) :: st) X Q := by
  intro b D p e R s m args below meth c H locs cells slots MC MS arr hS hR hc hs hV hX hL
  obtain ⟨hd, rfl⟩ := hd
  obtain ⟨C, T, N, ty, f1, f2, f3, f4, f5, f6, f7⟩ := hF
  subst f3
  have hP := mx_one hX ha (mx_ctO hk hci)
  refine va_get hS.1 hS.2.1 hS.2.2.2.2.2.1 f4 hS.2.2.2.2.1 hS.2.2.2.2.2.2.2.2.1.1 hP 0 rfl f1 f f2 (hS.2.2.2.2.2.1 _ f7) (fun _ h => h) (mx_fsk f2) hd ?_
  rw [hw b]
  exact (kk b D p e R s m args below meth c H locs cells slots MC MS arr hS hR hc hs hV hX hL)
theorem rr_geti {i ci f a : Nat} (hd : op_at k pc (.getfield i) 3 np) (hF : fl_T k i ci f) (hk : kO a = ci) (ha : a < X.2.2.2) (hc : ci < 6 ∧ mx_isR ci f = false) (kk : wm_W l k d mc ms np ls (vv_I (X.1 a f) :: st) X Q) : wm_W l k d mc ms pc ls (vv_A (some a) :: st) X Q :=
  rr_get hd hF hk hc.1 ha (fun b => by rw [mx_sl, if_neg (by rw [hc.2]; decide)]; rfl) kk
theorem rr_getr {i ci f a : Nat} {w : Option Nat} (hd : op_at k pc (.getfield i) 3 np) (hF : fl_T k i ci f) (hk : kO a = ci) (ha : a < X.2.2.2) (hc : ci < 6 ∧ mx_isR ci f = true) (hr : X.2.2.1 a f = w) (kk : wm_W l k d mc ms np ls (vv_A w :: st) X Q) : wm_W l k d mc ms pc ls (vv_A (some a) :: st) X Q :=
  rr_get hd hF hk hc.1 ha (fun b => by rw [mx_sl, if_pos hc.2, hr]; rfl) kk
theorem mx_put {b : Nat} {D : md_T} {Y : mx_T} {ci f a : Nat} {v : Value} {H H1 : Heap} {fs : List Value} (hX : mx_R b D X H) (hk : kO a = ci) (hc : ci < 6) (hn : Y.2.2.2 = X.2.2.2) (hz : H1.size = H.size) (oq : ∀ q : Nat, q ≠ b + a → H1[q]? = H[q]?)
    (hP : va_P D.1 mCl ([(b + a, (.inr (ci, fs) : va_E))].set 0 (b + a, .inr (ci, fs.set f v))) H1) (he : mx_fs b Y ci a = fs.set f v) (ho : ∀ a', a' ≠ a → Y.1 a' = X.1 a' ∧ Y.2.1 a' = X.2.1 a' ∧ Y.2.2.1 a' = X.2.2.1 a') : mx_R b D Y H1 :=
  mx_set hX hn hz oq (by rw [mx_ctO hk hc, he]; exact hP 0 _ rfl) (fun a' h => mx_ct_eq (ho a' h).1 (ho a' h).2.1 (ho a' h).2.2)
theorem mx_fs_upI {b : Nat} {I : Nat → Nat → Int32} {L : Nat → Nat → Int64} {Rf : Nat → Nat → Option Nat} {n ci f a : Nat} {v : Int32} (hf : f < mx_N ci) (hr : mx_isR ci f = false) : mx_fs b (up_I I a f v, L, Rf, n) ci a = (mx_fs b (I, L, Rf, n) ci a).set f (.int v) := by
  apply List.ext_getElem?
  intro j
  by_cases hj : j < mx_N ci
  · rw [mx_fsk hj]
    by_cases e : j = f
    · subst e
      rw [List.getElem?_set_self (by rw [mx_fsl]; exact hj)]
      simp [mx_sl, hr, up_I, upd]
    · rw [List.getElem?_set_ne (Ne.symm e), mx_fsk hj]
      simp [mx_sl, up_I, upd, e]
  · rw [List.getElem?_eq_none (by rw [mx_fsl]; omega), List.getElem?_eq_none (by rw [List.length_set, mx_fsl]; omega)]
theorem mx_fs_upR {b : Nat} {I : Nat → Nat → Int32} {L : Nat → Nat → Int64} {Rf : Nat → Nat → Option Nat} {n ci f a : Nat} {v : Option Nat} (hf : f < mx_N ci) (hr : mx_isR ci f = true) : mx_fs b (I, L, up_R Rf a f v, n) ci a = (mx_fs b (I, L, Rf, n) ci a).set f (va_rf (v.map (fun q => b + q))) := by
  apply List.ext_getElem?
  intro j
  by_cases hj : j < mx_N ci
  · rw [mx_fsk hj]
    by_cases e : j = f
    · subst e
      rw [List.getElem?_set_self (by rw [mx_fsl]; exact hj)]
      simp [mx_sl, hr, up_R, va_up]
    · rw [List.getElem?_set_ne (Ne.symm e), mx_fsk hj]
      simp [mx_sl, up_R, va_up, e]
  · rw [List.getElem?_eq_none (by rw [mx_fsl]; omega), List.getElem?_eq_none (by rw [List.length_set, mx_fsl]; omega)]
/-- what a write to one cell does to the frame -/
theorem mx_wr {b a : Nat} {H0 H H1 : Heap} {locs1 : List Loc} (hz : H.size = H1.size) (hV : va_S (fun q => q = b + a) H H1 locs1) {locs : List Loc} (h0 : va_S (fun q => b ≤ q) H0 H locs) : va_S (fun q => b ≤ q) H0 H1 (locs ++ locs1) := by
  refine ⟨Nat.le_trans h0.1 hV.1, fun q h1 h2 => ?_, fun q hq => ?_⟩
  · rw [hV.2.1 q (Nat.lt_of_lt_of_le h1 h0.1) (fun e => h2 (by rw [e]; exact Nat.le_add_right b a))]
    exact h0.2.1 q h1 h2
  · rcases List.mem_append.mp hq with h | h
    · exact h0.2.2 q h
    · have := hV.2.2 q h
      rw [this]
      exact Nat.le_add_right b a
theorem wm_vS {b a i : Nat} {H0 H H1 : Heap} {locs : List Loc} (hV : va_S (fun q => b ≤ q) H0 H locs) (z : H1.size = H.size) (oq : ∀ q : Nat, q ≠ b + a → H1[q]? = H[q]?) : va_S (fun q => b ≤ q) H0 H1 (locs ++ [⟨b + a, i⟩]) := hV.put z oq (Nat.le_add_right b a)
theorem mx_at {b : Nat} {D : md_T} {X : mx_T} {H : Heap} (h : mx_R b D X H) {a ci : Nat} (hk : kO a = ci) (hci : ci < 6) (ha : a < X.2.2.2) : va_at D.1 mCl (b + a, .inr (ci, mx_fs b X ci a)) H := by
  rw [← mx_ctO hk hci]
  exact h.2 a ha
theorem rr_put {i ci f a : Nat} {w : vv_T} {ty : FieldType} {Y : mx_T} (hd : op_at k pc (.putfield i) 3 np) (hF : fl_T k i ci f) (hk : kO a = ci) (ha : a < X.2.2.2) (hci : ci < 6)
    (hfin : ∀ q : vw_C, mCl[ci]? = some q → ((q.2.1 f).2.2.2 = false ∨ ((q.2.1 f).2.2.2 = true ∧ k.1.name = "<init>" ∧ (q.2.1 f).1 = k.1.cls)) ∧ parseFieldDescriptor (q.2.1 f).2.2.1 = some ty) (hn : ∀ b, narrow ty (to_V b w) = to_V b w) (hfit : ∀ b, fits ty (to_V b w) = true)
    (hY : ∀ b, mx_fs b Y ci a = (mx_fs b X ci a).set f (to_V b w)) (hYn : Y.2.2.2 = X.2.2.2) (hYo : ∀ a', a' ≠ a → Y.1 a' = X.1 a' ∧ Y.2.1 a' = X.2.1 a' ∧ Y.2.2.1 a' = X.2.2.1 a')
    (kk : wm_W l k d mc ms np ls st Y Q) : wm_W l k d mc ms pc ls (w :: vv_A (some a) :: st) X Q := by
  intro b D p e R s m args below meth c H locs cells slots MC MS arr hS hR hcl hs hV hX hL
  obtain ⟨hd, rfl⟩ := hd
  obtain ⟨C, T, N, tyF, f1, f2, f3, f4, f5, f6, f7⟩ := hF
  subst f3
  obtain ⟨g1, g2⟩ := hfin _ f1
  have hts := hS.2.2.2.2.2.1
  have hown := hS.2.2.2.2.1
  have hK := hS.2.2.2.2.2.2.2.2.1.1
  have hap := va_apart (own := k.1.cls) hts f4 tyF f5 f6 hK f1
  obtain ⟨r, h1, cell, q1, q2, q3, q4⟩ := mx_at hX hk hci ha
  have hr : r = (C, T, mx_N ci) := Option.some.inj (h1.symm.trans f1)
  subst hr
  obtain ⟨hSl, hfc, kC, hkC, hkind⟩ := hK.1 ci _ f1
  obtain ⟨cf, kf, fi, fd, hi, hsl⟩ := hSl f f2
  have hlay := hts _ (f4 _ (u_in_lay f2))
  have hst := (u_facts hfc hkC (u_lays hts f4 f2) hi).1
  have fin : ∀ H' : Heap, H'[b + a]? = some (cell.setSlot fd.slot (to_V b w)) → H'.size = H.size → (∀ q, q ≠ b + a → H'[q]? = H[q]?) → W p l e R s m args below meth c H' (locs ++ [⟨b + a, fd.slot⟩]) cells slots (MQ below (wm_Q b D Q) args s MC MS (fun q => b ≤ q)) (F0 m (pc + 3) arr (st.map (to_V b))) := by
    intro H' e1 e2 e3
    rw [hsl] at e1
    refine kk b D p e R s m args below meth c H' _ cells slots MC MS arr hS hR hcl hs (wm_vS hV e2 e3) (mx_set hX hYn e2 e3 ?_ (fun a' h => mx_ct_eq (hYo a' h).1 (hYo a' h).2.1 (hYo a' h).2.2)) hL
    rw [mx_ctO hk hci, hY b]
    exact ⟨_, f1, t_OB.to (V := updV (vp_V (mx_fs b X ci a)) f (to_V b w)) ⟨_, e1, q2, q3, t_set q4 hap f2 (to_V b w)⟩ (fun j _ => vp_updV_set (by rw [mx_fsl]; exact f2) (to_V b w) j)⟩
  rcases g1 with g1 | ⟨g1, g3, g4⟩
  · unfold u_lay at hlay
    rw [if_neg (by rw [g1]; decide)] at hlay
    have h6 := u_store hfc hkC hkind hlay hi g2 (hn b) (hfit b)
    exact W.putK hS.1 hS.2.1 (f := fd) ⟨hown, hts _ f7, ⟨_, _, _, hi⟩, hst⟩ (by rw [q2]; exact h6) q1 q3 (by rw [hsl]; exact k2_hasslot (q4 f f2)) rfl rfl hd fin
  · unfold u_lay at hlay
    rw [if_pos g1] at hlay
    have hcf : m.cls = cf := by
      obtain ⟨_, _, c', _, _, _, -, -, hf', -, -, -, hown2, -⟩ := Cond.laysFinal_spec hlay
      have e1 : c' = cf := by have := hi.symm.trans hf'; simp at this; exact this.1.symm
      have g4' : (T f).1 = k.1.cls := g4
      rw [g4'] at hown2
      rw [← e1]; exact Option.some.inj (hown.symm.trans hown2)
    have h6 := u_fits hfc hkC hkind (Or.inr hlay) hi g2 (hn b) (hfit b)
    exact W.putFinK hS.1 hS.2.1 hown (hts _ f7) hi hst hcf (hS.2.2.2.2.2.2.2.1.trans g3) (by rw [q2]; exact h6) q1 q3 (by rw [hsl]; exact k2_hasslot (q4 f f2)) rfl rfl hd fin
theorem rr_puti {i ci f a : Nat} {v : Int32} {ty : FieldType} {I : Nat → Nat → Int32} {L : Nat → Nat → Int64} {Rf : Nat → Nat → Option Nat} {n : Nat} (hd : op_at k pc (.putfield i) 3 np) (hF : fl_T k i ci f) (hk : kO a = ci) (ha : a < n) (hc : ci < 6 ∧ mx_isR ci f = false)
    (hfin : ∀ q : vw_C, mCl[ci]? = some q → (q.2.1 f).2.2.2 = false ∧ parseFieldDescriptor (q.2.1 f).2.2.1 = some ty) (hn : narrow ty (.int v) = .int v) (hfit : fits ty (.int v) = true) (hf : f < mx_N ci) (kk : wm_W l k d mc ms np ls st (up_I I a f v, L, Rf, n) Q) : wm_W l k d mc ms pc ls (vv_I v :: vv_A (some a) :: st) (I, L, Rf, n) Q :=
  rr_put (Y := (up_I I a f v, L, Rf, n)) hd hF hk ha hc.1 (fun q hq => ⟨Or.inl (hfin q hq).1, (hfin q hq).2⟩) (fun _ => hn) (fun _ => hfit) (fun b => mx_fs_upI hf hc.2) rfl (fun a' h => ⟨up_I_ne h, rfl, rfl⟩) kk
theorem rr_putr {i ci f a : Nat} {v : Nat} {ty : FieldType} {I : Nat → Nat → Int32} {L : Nat → Nat → Int64} {Rf : Nat → Nat → Option Nat} {n : Nat} (hd : op_at k pc (.putfield i) 3 np) (hF : fl_T k i ci f) (hk : kO a = ci) (ha : a < n) (hc : ci < 6 ∧ mx_isR ci f = true)
    (hfin : ∀ q : vw_C, mCl[ci]? = some q → (q.2.1 f).2.2.2 = true ∧ k.1.name = "<init>" ∧ (q.2.1 f).1 = k.1.cls ∧ parseFieldDescriptor (q.2.1 f).2.2.1 = some ty) (hn : ∀ q, narrow ty (.ref q) = .ref q) (hfit : ∀ q, fits ty (.ref q) = true) (hf : f < mx_N ci) (kk : wm_W l k d mc ms np ls st (I, L, up_R Rf a f (some v), n) Q) : wm_W l k d mc ms pc ls (vv_A (some v) :: vv_A (some a) :: st) (I, L, Rf, n) Q :=
  rr_put (Y := (I, L, up_R Rf a f (some v), n)) hd hF hk ha hc.1 (fun q hq => ⟨Or.inr ⟨(hfin q hq).1, (hfin q hq).2.1, (hfin q hq).2.2.1⟩, (hfin q hq).2.2.2⟩) (fun b => hn (b + v)) (fun b => hfit (b + v)) (fun b => mx_fs_upR hf hc.2) rfl (fun a' h => ⟨rfl, rfl, up_R_ne h⟩) kk
/-! arrays -/
theorem mx_ct6 {b : Nat} {D : md_T} {X : mx_T} {a : Nat} (h : kO a = 6) : mx_ct b D X a = .inl (D.2.1, zO a, .inl (X.1 a)) := by
  unfold mx_ct; rw [if_pos h]
theorem mx_ct7 {b : Nat} {D : md_T} {X : mx_T} {a : Nat} (h : kO a = 7) : mx_ct b D X a = .inl (D.2.2.1, zO a, .inr (.inl (X.2.1 a))) := by
  unfold mx_ct; rw [h, if_neg (by omega), if_pos rfl]
theorem mx_ct8 {b : Nat} {D : md_T} {X : mx_T} {a : Nat} (h : kO a = 8) : mx_ct b D X a = .inl (D.2.2.2.1, zO a, .inr (.inr (.inr (.inr (fun j => (X.2.2.1 a j).map (fun q => b + q)))))) := by
  unfold mx_ct; rw [h, if_neg (by omega), if_neg (by omega), if_pos rfl]
theorem rr_iald {a z : Nat} {j : Int32} (hd : op_at k pc .iaload 1 np) (hk : kO a = 6 ∧ zO a = z) (ha : a < X.2.2.2) (hin : vp_in j z) (kk : wm_W l k d mc ms np ls (vv_I (X.1 a j.toNatClampNeg) :: st) X Q) : wm_W l k d mc ms pc ls (vv_I j :: vv_A (some a) :: st) X Q := by
  intro b D p e R s m args below meth c H locs cells slots MC MS arr hS hR hcl hs hV hX hL
  obtain ⟨hd, rfl⟩ := hd
  obtain ⟨hk, rfl⟩ := hk
  exact va_iald hS.1 hS.2.1 hS.2.2.2.2.2.2.2.2.1.1 (mx_one hX ha (mx_ct6 hk)) 0 0 rfl rfl hin hd (kk b D p e R s m args below meth c H locs cells slots MC MS arr hS hR hcl hs hV hX hL)
theorem rr_lald {a z : Nat} {j : Int32} (hd : op_at k pc .laload 1 np) (hk : kO a = 7 ∧ zO a = z) (ha : a < X.2.2.2) (hin : vp_in j z) (kk : wm_W l k d mc ms np ls (vv_L (X.2.1 a j.toNatClampNeg) :: st) X Q) : wm_W l k d mc ms pc ls (vv_I j :: vv_A (some a) :: st) X Q := by
  intro b D p e R s m args below meth c H locs cells slots MC MS arr hS hR hcl hs hV hX hL
  obtain ⟨hd, rfl⟩ := hd
  obtain ⟨hk, rfl⟩ := hk
  exact va_lald hS.1 hS.2.1 hS.2.2.2.2.2.2.2.2.1.1 (mx_one hX ha (mx_ct7 hk)) 0 1 rfl rfl hin hd (kk b D p e R s m args below meth c H locs cells slots MC MS arr hS hR hcl hs hV hX hL)
theorem rr_aald {a z : Nat} {j : Int32} {w : Option Nat} (hd : op_at k pc .aaload 1 np) (hk : kO a = 8 ∧ zO a = z) (ha : a < X.2.2.2) (hin : vp_in j z) (hw : X.2.2.1 a j.toNatClampNeg = w) (kk : wm_W l k d mc ms np ls (vv_A w :: st) X Q) : wm_W l k d mc ms pc ls (vv_I j :: vv_A (some a) :: st) X Q := by
  intro b D p e R s m args below meth c H locs cells slots MC MS arr hS hR hcl hs hV hX hL
  obtain ⟨hd, rfl⟩ := hd
  obtain ⟨hk, rfl⟩ := hk
  subst hw
  exact va_aldq hS.1 hS.2.1 hS.2.2.2.2.2.2.2.2.1.1 (mx_one hX ha (mx_ct8 hk)) 0 2 rfl rfl hin hd (kk b D p e R s m args below meth c H locs cells slots MC MS arr hS hR hcl hs hV hX hL)
theorem rr_alen {a z : Nat} {v : Int32} (hd : op_at k pc .arraylength 1 np) (hk : (kO a = 6 ∨ kO a = 7 ∨ kO a = 8) ∧ zO a = z) (ha : a < X.2.2.2) (hv : Int32.ofNat z = v) (kk : wm_W l k d mc ms np ls (vv_I v :: st) X Q) : wm_W l k d mc ms pc ls (vv_A (some a) :: st) X Q := by
  intro b D p e R s m args below meth c H locs cells slots MC MS arr hS hR hcl hs hV hX hL
  obtain ⟨hd, rfl⟩ := hd
  obtain ⟨hk, rfl⟩ := hk
  have K2 := kk b D p e R s m args below meth c H locs cells slots MC MS arr hS hR hcl hs hV hX hL
  rcases hk with hk | hk | hk
  · exact va_alen hS.1 hS.2.1 hS.2.2.2.2.2.2.2.2.1.1 (mx_one hX ha (mx_ct6 hk)) 0 0 rfl rfl hv hd K2
  · exact va_alen hS.1 hS.2.1 hS.2.2.2.2.2.2.2.2.1.1 (mx_one hX ha (mx_ct7 hk)) 0 1 rfl rfl hv hd K2
  · exact va_alen hS.1 hS.2.1 hS.2.2.2.2.2.2.2.2.1.1 (mx_one hX ha (mx_ct8 hk)) 0 2 rfl rfl hv hd K2
theorem rr_iast {a z : Nat} {j v : Int32} {I : Nat → Nat → Int32} {L : Nat → Nat → Int64} {Rf : Nat → Nat → Option Nat} {n : Nat} (hd : op_at k pc .iastore 1 np) (hk : kO a = 6 ∧ zO a = z) (ha : a < n) (hin : vp_in j z) (kk : wm_W l k d mc ms np ls st (up_I I a j.toNatClampNeg v, L, Rf, n) Q) : wm_W l k d mc ms pc ls (vv_I v :: vv_I j :: vv_A (some a) :: st) (I, L, Rf, n) Q := by
  intro b D p e R s m args below meth c H locs cells slots MC MS arr hS hR hcl hs hV hX hL
  obtain ⟨hd, rfl⟩ := hd
  obtain ⟨hk, rfl⟩ := hk
  have hc0 : H[b + a]? = some (vp_cell D.2.1 (zO a, .inl (I a))) := by
    have h := hX.2 a ha
    rw [mx_ct6 hk] at h
    exact h
  refine W.iast hS.1 hS.2.1 hc0 ((hS.2.2.2.2.2.2.2.2.1.1.2 0 (D.2.1, .int) rfl).1 _ (fun j => .int (I a j))) (fun q => by cases q) (by show ¬ (j < 0 ∨ (arrV _ _ _).slots.size ≤ _); rw [arrV_size]; exact hin) rfl rfl hd fun H1 e1 z1 oq => ?_
  refine kk b D p e R s m args below meth c H1 _ cells slots MC MS arr hS hR hcl hs (wm_vS hV z1 oq) (mx_set (Y := (up_I I a j.toNatClampNeg v, L, Rf, n)) hX rfl z1 oq ?_ (fun a' h => mx_ct_eq (up_I_ne h) rfl rfl)) hL
  rw [mx_ct6 hk]
  show H1[b + a]? = some (vp_cell _ _)
  rw [e1, vp_cell_i, vp_cell_i, arrV_store]
  congr 2
  funext q
  show _ = Value.int (up_I I a j.toNatClampNeg v a q)
  rw [up_I_eq]
  by_cases hq : q = j.toNatClampNeg
  · subst hq
    simp [updV, upd]
  · simp [updV, upd, hq]
theorem rr_last {a z : Nat} {j : Int32} {v : Int64} {I : Nat → Nat → Int32} {L : Nat → Nat → Int64} {Rf : Nat → Nat → Option Nat} {n : Nat} (hd : op_at k pc .lastore 1 np) (hk : kO a = 7 ∧ zO a = z) (ha : a < n) (hin : vp_in j z) (kk : wm_W l k d mc ms np ls st (I, up_L L a j.toNatClampNeg v, Rf, n) Q) : wm_W l k d mc ms pc ls (vv_L v :: vv_I j :: vv_A (some a) :: st) (I, L, Rf, n) Q := by
  intro b D p e R s m args below meth c H locs cells slots MC MS arr hS hR hcl hs hV hX hL
  obtain ⟨hd, rfl⟩ := hd
  obtain ⟨hk, rfl⟩ := hk
  have hc0 : H[b + a]? = some (vp_cell D.2.2.1 (zO a, .inr (.inl (L a)))) := by
    have h := hX.2 a ha
    rw [mx_ct7 hk] at h
    exact h
  refine W.last hS.1 hS.2.1 hc0 ((hS.2.2.2.2.2.2.2.2.1.1.2 1 (D.2.2.1, .long) rfl).1 _ (fun j => .long (L a j))) (fun q => by cases q) (by show ¬ (j < 0 ∨ (arrV _ _ _).slots.size ≤ _); rw [arrV_size]; exact hin) rfl rfl hd fun H1 e1 z1 oq => ?_
  refine kk b D p e R s m args below meth c H1 _ cells slots MC MS arr hS hR hcl hs (wm_vS hV z1 oq) (mx_set (Y := (I, up_L L a j.toNatClampNeg v, Rf, n)) hX rfl z1 oq ?_ (fun a' h => mx_ct_eq rfl (up_L_ne h) rfl)) hL
  rw [mx_ct7 hk]
  show H1[b + a]? = some (vp_cell _ _)
  rw [e1, vp_cell_l, vp_cell_l, arrV_store]
  congr 2
  funext q
  show _ = Value.long (up_L L a j.toNatClampNeg v a q)
  rw [up_L_eq]
  by_cases hq : q = j.toNatClampNeg
  · subst hq
    simp [updV, vp_updL]
  · simp [updV, vp_updL, hq]
/-! calls -/
abbrev cl_B (k k2 : mm_T) (i n : Nat) : Prop := Cond.methodLink k.1.cls i k2.1 ∈ GW ∧ Cond.code k2.1 k2.2.1 k2.2.2.1 k2.2.2.2 ∈ GW ∧ Cond.initialized k2.1.cls ∈ GW ∧ (k2.1.cls ≠ "java/lang/invoke/MethodHandle" ∧ k2.1.cls ≠ "java/lang/invoke/VarHandle" ∧ (parseMethodDescriptor k2.1.desc).map (fun d => d.parameters.length) = some n) ∧ k2.2.2.1 ≤ 21
abbrev cl_V (k k2 : mm_T) (i n : Nat) : Prop := cl_B k k2 i n ∧ Cond.instanceMethod k2.1 ∈ GW ∧ Cond.selects k2.1.cls k2.1 k2.1 ∈ GW
abbrev cl_S (k k2 : mm_T) (i n : Nat) : Prop := cl_B k k2 i n ∧ Cond.static k2.1 ∈ GW
abbrev cl_N (k k2 : mm_T) (i n j : Nat) : Prop := (∃ q, mn_T[j]? = some q ∧ q = (k.1.cls, i, k2.1, q.2.2.2)) ∧ Cond.code k2.1 k2.2.1 k2.2.2.1 k2.2.2.2 ∈ GW ∧ Cond.initialized k2.1.cls ∈ GW ∧ (k2.1.cls ≠ "java/lang/invoke/MethodHandle" ∧ k2.1.cls ≠ "java/lang/invoke/VarHandle" ∧ (parseMethodDescriptor k2.1.desc).map (fun d => d.parameters.length) = some n) ∧ k2.2.2.1 ≤ 21
theorem gw_goodIn {k k2 : mm_T} (h : Cond.code k2.1 k2.2.1 k2.2.2.1 k2.2.2.2 ∈ GW) : GoodIn GW (.code k2.1 k2.2.1 k2.2.2.1 k2.2.2.2 :: GW) := by
  intro w hw
  have hw2 : w ∈ GW := by
    rcases List.mem_cons.mp hw with e | e
    · rw [e]; exact h
    · exact e
  exact ⟨hw2, good_of_word (gw_good hw2)⟩
theorem wm_call {mc2 ms2 : Nat} {As st0 rest : List vv_T} {Q2 : Option vv_T → mx_T → Prop} {b : Nat} {D : md_T} {p : Program} {e : Env} {R : Room} {s : State} {m : MethodId} {args : Array Value} {below : List Frame} {meth : Method} {c : Code} {H : Heap} {locs : List Loc} {cells slots MC MS : Nat} {arr : Array Slot} {pc : Nat}
    (hr : va_Run p l e R s m args below meth c H locs cells slots mc2 ms2 (F0 m pc arr (st0.map (to_V b))) (rest.map (to_V b)) (wm_Q b D Q2 (As.map (to_V b)).toArray) (fun q => b ≤ q))
    (hS : wm_S k p s m args meth c b D) (hR : d ≤ R.frames ∧ 40 * d ≤ R.locals ∧ MC ≤ R.cells ∧ MS ≤ R.slots) (hc : cells + mc ≤ MC) (hs : slots + ms ≤ MS) (hV : va_S (fun q => b ≤ q) s.heap H locs) (hL : wm_L b k.2.2.1 ls arr)
    {mc1 ms1 : Nat} (h1 : mc1 + mc2 = mc) (h2 : ms1 + ms2 = ms) (kk : ∀ (r : Option vv_T) (Y : mx_T), Q2 r Y → wm_W l k d mc1 ms1 (pc + 3) ls (r.toList ++ rest) Y Q) :
    W p l e R s m args below meth c H locs cells slots (MQ below (wm_Q b D Q) args s MC MS (fun q => b ≤ q)) (F0 m pc arr (st0.map (to_V b))) := by
  intro T hT Xs
  obtain ⟨v, st₀, t, T', L, h0, X', hLc, e1, e2, ⟨⟨r, Y, hv, hq, hm⟩, hz, hk⟩, st⟩ := hr T hT Xs
  cases hv
  rw [h0] at hz hk
  have K2 := kk r Y hq b D p e R s m args below meth c T'.heap (locs ++ L) (cells + mc2) (slots + ms2) MC MS arr hS hR (by omega) (by omega)
    ⟨Nat.le_trans hV.1 (by rw [e1]; exact hz), fun q g1 g2 => by rw [e1, hk q (Nat.lt_of_lt_of_le g1 hV.1) g2]; exact hV.2.1 q g1 g2, fun q hq => by
      rcases List.mem_append.mp hq with h | h
      · exact hV.2.2 q h
      · exact hLc q h⟩ (by rw [e1]; exact hm) hL
  rw [List.map_append, show r.toList.map (to_V b) = (r.map (to_V b)).toList by cases r <;> rfl] at K2
  obtain ⟨t2, a1, b1⟩ := K2 T' rfl X'
  exact ⟨t2, st t2 a1, b1⟩
theorem wm_blind {b : Nat} {D : md_T} {X : mx_T} {av : List Value} : FrameBlind (va_Pc av (fun U => wm_K b D U ∧ mx_R b D X U.heap)) := fun a U g mk q => ⟨q.1, q.2.1.calling g mk a, q.2.2⟩
theorem wm_pre {k : mm_T} {p : Program} {s : State} {m : MethodId} {args : Array Value} {meth : Method} {c : Code} {b : Nat} {D : md_T} {H : Heap} {locs : List Loc} {av : List Value} (hS : wm_S k p s m args meth c b D) (hV : va_S (fun q => b ≤ q) s.heap H locs) (hX : mx_R b D X H) : ∀ U : State, U.heap = H → s.WarmedH U.vm → va_Pc av (fun U => wm_K b D U ∧ mx_R b D X U.heap) av.toArray U :=
  fun U hU hW => ⟨rfl, hS.2.2.2.2.2.2.2.2.1.warm hW (fun a h1 h2 => by rw [hU]; exact hV.2.1 a h1 h2), by rw [hU]; exact hX⟩
theorem rr_callV {k2 : mm_T} {i n d2 a ci mc2 ms2 mc1 ms1 : Nat} {As st0 rest : List vv_T} {Q2 : Option vv_T → mx_T → Prop} (hd : op_at k pc (.invokevirtual i) 3 np) (hc : cl_V k k2 i n) (hM : wm_C l k2 d2 mc2 ms2 (vv_A (some a) :: As) X Q2) (hdd : d2 + 1 ≤ d) (hk : kO a = ci) (hci : ci < 6) (hcn : ∀ q, mCl[ci]? = some q → q.1 = k2.1.cls) (ha : a < X.2.2.2)
    (hn : As.length = n) (hst : As.reverse ++ vv_A (some a) :: rest = st0) (hW : (rest.map vv_c).sum ≤ 8) (h1 : mc1 + mc2 = mc) (h2 : ms1 + ms2 = ms) (kk : ∀ (r : Option vv_T) (Y : mx_T), Q2 r Y → wm_W l k d mc1 ms1 np ls (r.toList ++ rest) Y Q) : wm_W l k d mc ms pc ls st0 X Q := by
  subst hst
  intro b D p e R s m args below meth c H locs cells slots MC MS arr hS hR hcl hs hV hX hL
  obtain ⟨hd, rfl⟩ := hd
  obtain ⟨⟨c1, c2, c3, c4, c5⟩, c6, c7⟩ := hc
  have hts := hS.2.2.2.2.2.1
  obtain ⟨r, g1, cell, q1, q2, q3, -⟩ := mx_at hX hk hci ha
  have hrc := hcn r g1
  have hrec : ∃ cellB : Cell, H[b + a]? = some cellB ∧ cellB.vm.isStatics = false ∧ s.vm.findClass k2.1.cls = some cellB.cls := ⟨cell, q1, by rw [q3]; rfl, by rw [q2, ← hrc]; exact (hS.2.2.2.2.2.2.2.2.1.1.1 ci r g1).2.1⟩
  refine wm_call (As := vv_A (some a) :: As) (rest := rest) (d := d) (k := k) (va_runV (As := As.map (to_V b)) (rest := rest.map (to_V b)) (C := k2.1.cls) ⟨hS.1, hS.2.1, hS.2.2.1, hS.2.2.2.2.1, hts⟩ (hM b D) ⟨callB_of n hts (gw_goodIn (k := k) c2) rfl rfl rfl (hts _ c3) (hts _ c1) c4 ⟨by show d2 + 1 ≤ _; omega, by show 8 + (k2.2.2.1 + 11) + 40 * d2 ≤ _; omega⟩, hts _ c6, hts _ c7⟩ ⟨wm_blind, hrec, wm_pre hS hV hX⟩ rfl (by rw [List.length_map]; exact hn) hL.1 ?_ (lv_room (by rw [sum_c]; exact hW)) hd ⟨by omega, by omega⟩) hS hR hcl hs hV hL h1 h2 kk
  show List.map (to_V b) (As.reverse ++ vv_A (some a) :: rest) = (As.map (to_V b)).reverse ++ _
  rw [List.map_append, List.map_reverse]
  rfl
theorem rr_callS {k2 : mm_T} {i n d2 mc2 ms2 mc1 ms1 : Nat} {As st0 rest : List vv_T} {Q2 : Option vv_T → mx_T → Prop} (hd : op_at k pc (.invokestatic i) 3 np) (hc : cl_S k k2 i n) (hM : wm_C l k2 d2 mc2 ms2 As X Q2) (hdd : d2 + 1 ≤ d)
    (hn : As.length = n) (hst : As.reverse ++ rest = st0) (hW : (rest.map vv_c).sum ≤ 8) (h1 : mc1 + mc2 = mc) (h2 : ms1 + ms2 = ms) (kk : ∀ (r : Option vv_T) (Y : mx_T), Q2 r Y → wm_W l k d mc1 ms1 np ls (r.toList ++ rest) Y Q) : wm_W l k d mc ms pc ls st0 X Q := by
  subst hst
  intro b D p e R s m args below meth c H locs cells slots MC MS arr hS hR hcl hs hV hX hL
  obtain ⟨hd, rfl⟩ := hd
  obtain ⟨⟨c1, c2, c3, c4, c5⟩, c6⟩ := hc
  have hts := hS.2.2.2.2.2.1
  refine wm_call (As := As) (rest := rest) (d := d) (k := k) (va_runS (As := As.map (to_V b)) (rest := rest.map (to_V b)) ⟨hS.1, hS.2.1, hS.2.2.1, hS.2.2.2.2.1, hts⟩ (hM b D) ⟨callB_of n hts (gw_goodIn (k := k) c2) rfl rfl rfl (hts _ c3) (hts _ c1) c4 ⟨by show d2 + 1 ≤ _; omega, by show 8 + (k2.2.2.1 + 11) + 40 * d2 ≤ _; omega⟩, hts _ c6⟩ ⟨wm_blind, wm_pre hS hV hX⟩ rfl (by rw [List.length_map]; exact hn) hL.1 ?_ (lv_room (by rw [sum_c]; exact hW)) hd ⟨by omega, by omega⟩) hS hR hcl hs hV hL h1 h2 kk
  show List.map (to_V b) (As.reverse ++ rest) = (As.map (to_V b)).reverse ++ _
  rw [List.map_append, List.map_reverse]
theorem rr_callSN {k2 : mm_T} {i n j d2 mc2 ms2 mc1 ms1 : Nat} {As st0 rest : List vv_T} {Q2 : Option vv_T → mx_T → Prop} (hd : op_at k pc (.invokestatic i) 3 np) (hc : cl_N k k2 i n j ∧ Cond.static k2.1 ∈ GW) (hM : wm_C l k2 d2 mc2 ms2 As X Q2) (hdd : d2 + 1 ≤ d)
    (hn : As.length = n) (hst : As.reverse ++ rest = st0) (hW : (rest.map vv_c).sum ≤ 8) (h1 : mc1 + mc2 = mc) (h2 : ms1 + ms2 = ms) (kk : ∀ (r : Option vv_T) (Y : mx_T), Q2 r Y → wm_W l k d mc1 ms1 np ls (r.toList ++ rest) Y Q) : wm_W l k d mc ms pc ls st0 X Q := by
  subst hst
  intro b D p e R s m args below meth c H locs cells slots MC MS arr hS hR hcl hs hV hX hL
  obtain ⟨hd, rfl⟩ := hd
  obtain ⟨⟨⟨qn, n1, n2⟩, c2, c3, c4, c5⟩, c6⟩ := hc
  have hts := hS.2.2.2.2.2.1
  have hN := hS.2.2.2.2.2.2.2.2.1.2.1 j qn n1
  rw [n2] at hN
  refine wm_call (As := As) (rest := rest) (d := d) (k := k) (va_runSN (As := As.map (to_V b)) (rest := rest.map (to_V b)) ⟨hS.1, hS.2.1, hS.2.2.1, hS.2.2.2.2.1, hts⟩ (hM b D) ⟨va_cnB n hts (gw_goodIn (k := k) c2) rfl rfl rfl hN (hts _ c3) c4 ⟨by show d2 + 1 ≤ _; omega, by show 8 + (k2.2.2.1 + 11) + 40 * d2 ≤ _; omega⟩, hts _ c6, trivial⟩ ⟨wm_blind, wm_pre hS hV hX⟩ rfl (by rw [List.length_map]; exact hn) hL.1 ?_ (lv_room (by rw [sum_c]; exact hW)) hd ⟨by omega, by omega⟩) hS hR hcl hs hV hL h1 h2 kk
  show List.map (to_V b) (As.reverse ++ rest) = (As.map (to_V b)).reverse ++ _
  rw [List.map_append, List.map_reverse]
theorem rr_callI {k2 : mm_T} {i n d2 a mc2 ms2 mc1 ms1 : Nat} {As st0 rest : List vv_T} {Q2 : Option vv_T → mx_T → Prop} (hd : op_at k pc (.invokespecial i) 3 np) (hc : cl_B k k2 i n ∧ Cond.instanceMethod k2.1 ∈ GW ∧ k2.1.name = "<init>" ∧ k2.2.2.2 = none) (hM : wm_C l k2 d2 mc2 ms2 (vv_A (some a) :: As) X Q2) (hdd : d2 + 1 ≤ d)
    (hn : As.length = n) (hst : As.reverse ++ vv_A (some a) :: rest = st0) (hW : (rest.map vv_c).sum ≤ 8) (h1 : mc1 + mc2 = mc) (h2 : ms1 + ms2 = ms) (kk : ∀ (r : Option vv_T) (Y : mx_T), Q2 r Y → wm_W l k d mc1 ms1 np ls (r.toList ++ rest) Y Q) : wm_W l k d mc ms pc ls st0 X Q := by
  subst hst
  intro b D p e R s m args below meth c H locs cells slots MC MS arr hS hR hcl hs hV hX hL
  obtain ⟨hd, rfl⟩ := hd
  obtain ⟨⟨c1, c2, c3, c4, c5⟩, c6, c7, c8⟩ := hc
  have hts := hS.2.2.2.2.2.1
  refine wm_call (As := vv_A (some a) :: As) (rest := rest) (d := d) (k := k) (va_runI (As := As.map (to_V b)) (rest := rest.map (to_V b)) (b := b + a) ⟨hS.1, hS.2.1, hS.2.2.1, hS.2.2.2.2.1, hts⟩ (hM b D) ⟨callB_of (ret := none) n hts (gw_goodIn (k := k) c2) (by rw [c8]) rfl rfl (hts _ c3) (hts _ c1) c4 ⟨by show d2 + 1 ≤ _; omega, by show 8 + (k2.2.2.1 + 11) + 40 * d2 ≤ _; omega⟩, c7, hts _ c6⟩ ⟨wm_blind, wm_pre hS hV hX⟩ rfl (by rw [List.length_map]; exact hn) hL.1 ?_ (lv_room (by rw [sum_c]; exact hW)) hd ⟨by omega, by omega⟩) hS hR hcl hs hV hL h1 h2 kk
  show List.map (to_V b) (As.reverse ++ vv_A (some a) :: rest) = (As.map (to_V b)).reverse ++ _
  rw [List.map_append, List.map_reverse]
  rfl
theorem rr_callIN {k2 : mm_T} {i n j d2 a mc2 ms2 mc1 ms1 : Nat} {As st0 rest : List vv_T} {Q2 : Option vv_T → mx_T → Prop} (hd : op_at k pc (.invokespecial i) 3 np) (hc : cl_N k k2 i n j ∧ Cond.instanceMethod k2.1 ∈ GW ∧ k2.1.name = "<init>" ∧ k2.2.2.2 = none) (hM : wm_C l k2 d2 mc2 ms2 (vv_A (some a) :: As) X Q2) (hdd : d2 + 1 ≤ d)
    (hn : As.length = n) (hst : As.reverse ++ vv_A (some a) :: rest = st0) (hW : (rest.map vv_c).sum ≤ 8) (h1 : mc1 + mc2 = mc) (h2 : ms1 + ms2 = ms) (kk : ∀ (r : Option vv_T) (Y : mx_T), Q2 r Y → wm_W l k d mc1 ms1 np ls (r.toList ++ rest) Y Q) : wm_W l k d mc ms pc ls st0 X Q := by
  subst hst
  intro b D p e R s m args below meth c H locs cells slots MC MS arr hS hR hcl hs hV hX hL
  obtain ⟨hd, rfl⟩ := hd
  obtain ⟨⟨⟨qn, n1, n2⟩, c2, c3, c4, c5⟩, c6, c7, c8⟩ := hc
  have hts := hS.2.2.2.2.2.1
  have hN := hS.2.2.2.2.2.2.2.2.1.2.1 j qn n1
  rw [n2] at hN
  refine wm_call (As := vv_A (some a) :: As) (rest := rest) (d := d) (k := k) (va_runIN (As := As.map (to_V b)) (rest := rest.map (to_V b)) (b := b + a) ⟨hS.1, hS.2.1, hS.2.2.1, hS.2.2.2.2.1, hts⟩ (hM b D) ⟨va_cnB (ret := none) n hts (gw_goodIn (k := k) c2) (by rw [c8]) rfl rfl hN (hts _ c3) c4 ⟨by show d2 + 1 ≤ _; omega, by show 8 + (k2.2.2.1 + 11) + 40 * d2 ≤ _; omega⟩, c7, hts _ c6⟩ ⟨wm_blind, wm_pre hS hV hX⟩ rfl (by rw [List.length_map]; exact hn) hL.1 ?_ (lv_room (by rw [sum_c]; exact hW)) hd ⟨by omega, by omega⟩) hS hR hcl hs hV hL h1 h2 kk
  show List.map (to_V b) (As.reverse ++ vv_A (some a) :: rest) = (As.map (to_V b)).reverse ++ _
  rw [List.map_append, List.map_reverse]
  rfl
end RR
