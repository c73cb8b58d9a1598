/-! the rows at one base and one D: strings lie where D says (by program: wip/whole/gen29.py) -/
abbrev wo_W (l : Launch) (k : mm_T) (d mc ms pc : Nat) (ls st : List vv_T) (X : mx_T) (Q : Option vv_T → mx_T → Prop) : Prop := wm_W l k d mc ms pc ls st X Q
abbrev wo_C (l : Launch) (k : mm_T) (d mc ms : Nat) (as : List vv_T) (X : mx_T) (Q : Option vv_T → mx_T → Prop) : Prop := wm_C l k d mc ms as X Q
def wf_W (b : Nat) (D : md_T) (l : Launch) (k : mm_T) (d mc ms pc : Nat) (ls st : List vv_T) (X : mx_T) (Q : Option vv_T → mx_T → Prop) : Prop :=
  ∀ (p : Program) (e : Env) (R : Room) (s : State) (m : MethodId) (args : Array Value) (below : List Frame) (meth : Method) (c : Code) (H : Heap) (locs : List Loc) (cells slots MC MS : Nat) (arr : Array Slot),
    wm_S k p s m args meth c b D → (d ≤ R.frames ∧ 40 * d ≤ R.locals ∧ MC ≤ R.cells ∧ MS ≤ R.slots) → cells + mc ≤ MC → slots + ms ≤ MS → va_S (fun q => b ≤ q) s.heap H locs → mx_R b D X H → wm_L b k.2.2.1 ls arr →
    W p l e R s m args below meth c H locs cells slots (MQ below (wm_Q b D Q) args s MC MS (fun q => b ≤ q)) (F0 m pc arr (st.map (to_V b)))
def wf_C (b : Nat) (D : md_T) (l : Launch) (k : mm_T) (d mc ms : Nat) (as : List vv_T) (X : mx_T) (Q : Option vv_T → mx_T → Prop) : Prop :=
  Met l k.1 (.code k.1 k.2.1 k.2.2.1 k.2.2.2 :: GW) { frames := d, cells := mc, slots := ms, locals := 40 * d } (va_Pc (as.map (to_V b)) (fun U => wm_K b D U ∧ mx_R b D X U.heap)) (wm_Q b D Q) mc ms (fun q => b ≤ q)
theorem wf_of {b : Nat} {D : md_T} {l : Launch} {k : mm_T} {d mc ms : Nat} {as ls : List vv_T} {X : mx_T} {Q : Option vv_T → mx_T → Prop} (hy : plainName k.1.cls = true) (hn : (en_L as).length ≤ k.2.2.1) (hl : en_L as ++ List.replicate (k.2.2.1 - (en_L as).length) vv_U = ls)
    (h : wf_W b D l k d mc ms 0 ls [] X Q) : wf_C b D l k d mc ms as X Q := by
  refine Met.ofW (cc := k.2.1) (maxL := k.2.2.1) (ret := k.2.2.2) hy rfl ?_
  intro p e s m args below meth c s₁ B hml hv
  obtain ⟨rfl, hK, hX⟩ := hv
  have hts := atoms_spec B.pre
  have hl0 := lv_entry (as.map (to_V b)) (n := k.2.2.1) (by rw [en_len]; exact hn)
  rw [lg_entry_eq]
  generalize (lg_sl (as.map (to_V b)) ++ List.replicate (k.2.2.1 - (lg_sl (as.map (to_V b))).length) Slot.unset).toArray = arr at hl0 ⊢
  refine h p e _ s m _ below meth c s.heap [] 0 0 mc ms arr ⟨B.exec, B.bytes, hml, B.returns, findClass_of_methodNamed B.named, fun w hw => hts w (List.mem_cons_of_mem _ hw), B.notSynchronized, (name_of_methodNamed B.named B.method).1, hK, by rw [hX.1]; exact Nat.le_add_right _ _⟩ ⟨Nat.le_refl _, Nat.le_refl _, Nat.le_refl _, Nat.le_refl _⟩ (by omega) (by omega) va_S.rf hX ⟨hl0.1, hl0.2.1, fun j v hj hv => ?_⟩
  subst hl
  have hj2 : (en_L as)[j]? = some v := by
    by_cases q : j < (en_L as).length
    · rwa [List.getElem?_append_left q] at hj
    · rw [List.getElem?_append_right (by omega)] at hj
      exact absurd (List.eq_of_mem_replicate (List.mem_of_getElem? hj)) hv
  have h2 := en_mem (b := b) as 0 j v hj2 hv
  rw [Nat.zero_add] at h2
  exact hl0.2.2 _ h2

theorem inF {b : Nat} {D : md_T} {l : Launch} {k : mm_T} {d mc ms : Nat} {as : List vv_T} {X : mx_T} {Q : Option vv_T → mx_T → Prop} (h : wo_C l k d mc ms as X Q) : wf_C b D l k d mc ms as X Q := h b D
theorem ouF {l : Launch} {k : mm_T} {d mc ms : Nat} {as : List vv_T} {X : mx_T} {Q : Option vv_T → mx_T → Prop} (h : ∀ b D, wf_C b D l k d mc ms as X Q) : wo_C l k d mc ms as X Q := fun b D => h b D
section RR
variable {b : Nat} {D : md_T} {l : Launch} {k : mm_T} {d mc ms pc np : Nat} {ls st : List vv_T} {X : mx_T} {Q : Option vv_T → mx_T → Prop}
theorem rr_iconstF {n : Int} {v : Int32} (hd : op_at k pc (.iconst n) 1 np) (hv : Int32.ofInt n = v) (kk : wf_W b D l k d mc ms np ls (vv_I v :: st) X Q) : wf_W b D l k d mc ms pc ls (st) X Q := by
  intro p e R s m args below meth c H locs cells slots MC MS arr hS hR hc hs hV hX hL
  obtain ⟨hd, rfl⟩ := hd
  exact lv_iconst hS.1 hS.2.1 hd hv (kk p e R s m args below meth c H locs cells slots MC MS arr hS hR hc hs hV hX hL)
theorem rr_bipushF {n : Int} {v : Int32} (hd : op_at k pc (.bipush n) 2 np) (hv : (Int8.ofInt n).toInt32 = v) (kk : wf_W b D l k d mc ms np ls (vv_I v :: st) X Q) : wf_W b D l k d mc ms pc ls (st) X Q := by
  intro p e R s m args below meth c H locs cells slots MC MS arr hS hR hc hs hV hX hL
  obtain ⟨hd, rfl⟩ := hd
  exact lv_bipush hS.1 hS.2.1 hd hv (kk p e R s m args below meth c H locs cells slots MC MS arr hS hR hc hs hV hX hL)
theorem rr_sipushF {n : Int} {v : Int32} (hd : op_at k pc (.sipush n) 3 np) (hv : (Int16.ofInt n).toInt32 = v) (kk : wf_W b D l k d mc ms np ls (vv_I v :: st) X Q) : wf_W b D l k d mc ms pc ls (st) X Q := by
  intro p e R s m args below meth c H locs cells slots MC MS arr hS hR hc hs hV hX hL
  obtain ⟨hd, rfl⟩ := hd
  exact lv_sipush hS.1 hS.2.1 hd hv (kk p e R s m args below meth c H locs cells slots MC MS arr hS hR hc hs hV hX hL)
theorem rr_lconstF {n : Fin 2} {v : Int64} (hd : op_at k pc (.lconst n) 1 np) (hv : Int64.ofNat (n : Nat) = v) (kk : wf_W b D l k d mc ms np ls (vv_L v :: st) X Q) : wf_W b D l k d mc ms pc ls (st) X Q := by
  intro p e R s m args below meth c H locs cells slots MC MS arr hS hR hc hs hV hX hL
  obtain ⟨hd, rfl⟩ := hd
  exact lv_lconst hS.1 hS.2.1 hd hv (kk p e R s m args below meth c H locs cells slots MC MS arr hS hR hc hs hV hX hL)
theorem rr_iload_nF {i : Fin 4} {j : Nat} {x : Int32} (hd : op_at k pc (.iload_n i) 1 np) (hi : (i : Nat) = j) (hl : ls[j]? = some (vv_I x)) (kk : wf_W b D l k d mc ms np ls (vv_I x :: st) X Q) : wf_W b D l k d mc ms pc ls (st) X Q := by
  intro p e R s m args below meth c H locs cells slots MC MS arr hS hR hc hs hV hX hL
  obtain ⟨hd, rfl⟩ := hd
  exact lv_iload_n hS.1 hS.2.1 hd hi (hL.2.2 _ _ hl (fun q => by cases q)) (kk p e R s m args below meth c H locs cells slots MC MS arr hS hR hc hs hV hX hL)
theorem rr_iloadF {j : Nat} {x : Int32} (hd : op_at k pc (.iload j) 2 np) (hl : ls[j]? = some (vv_I x)) (kk : wf_W b D l k d mc ms np ls (vv_I x :: st) X Q) : wf_W b D l k d mc ms pc ls (st) X Q := by
  intro p e R s m args below meth c H locs cells slots MC MS arr hS hR hc hs hV hX hL
  obtain ⟨hd, rfl⟩ := hd
  exact lv_iload hS.1 hS.2.1 hd (hL.2.2 _ _ hl (fun q => by cases q)) (kk p e R s m args below meth c H locs cells slots MC MS arr hS hR hc hs hV hX hL)
theorem rr_lload_nF {i : Fin 4} {j : Nat} {x : Int64} (hd : op_at k pc (.lload_n i) 1 np) (hi : (i : Nat) = j) (hl : ls[j]? = some (vv_L x)) (kk : wf_W b D l k d mc ms np ls (vv_L x :: st) X Q) : wf_W b D l k d mc ms pc ls (st) X Q := by
  intro p e R s m args below meth c H locs cells slots MC MS arr hS hR hc hs hV hX hL
  obtain ⟨hd, rfl⟩ := hd
  exact lv_lload_n hS.1 hS.2.1 hd hi (hL.2.2 _ _ hl (fun q => by cases q)) (kk p e R s m args below meth c H locs cells slots MC MS arr hS hR hc hs hV hX hL)
theorem rr_lloadF {j : Nat} {x : Int64} (hd : op_at k pc (.lload j) 2 np) (hl : ls[j]? = some (vv_L x)) (kk : wf_W b D l k d mc ms np ls (vv_L x :: st) X Q) : wf_W b D l k d mc ms pc ls (st) X Q := by
  intro p e R s m args below meth c H locs cells slots MC MS arr hS hR hc hs hV hX hL
  obtain ⟨hd, rfl⟩ := hd
  exact lv_lload hS.1 hS.2.1 hd (hL.2.2 _ _ hl (fun q => by cases q)) (kk p e R s m args below meth c H locs cells slots MC MS arr hS hR hc hs hV hX hL)
theorem rr_aload_nF {i : Fin 4} {j x : Nat} (hd : op_at k pc (.aload_n i) 1 np) (hi : (i : Nat) = j) (hl : ls[j]? = some (vv_A (some x))) (kk : wf_W b D l k d mc ms np ls (vv_A (some x) :: st) X Q) : wf_W b D l k d mc ms pc ls (st) X Q := by
  intro p e R s m args below meth c H locs cells slots MC MS arr hS hR hc hs hV hX hL
  obtain ⟨hd, rfl⟩ := hd
  exact lv_aload_n hS.1 hS.2.1 hd hi (hL.2.2 _ _ hl (fun q => by cases q)) (kk p e R s m args below meth c H locs cells slots MC MS arr hS hR hc hs hV hX hL)
theorem rr_aloadF {j x : Nat} (hd : op_at k pc (.aload j) 2 np) (hl : ls[j]? = some (vv_A (some x))) (kk : wf_W b D l k d mc ms np ls (vv_A (some x) :: st) X Q) : wf_W b D l k d mc ms pc ls (st) X Q := by
  intro p e R s m args below meth c H locs cells slots MC MS arr hS hR hc hs hV hX hL
  obtain ⟨hd, rfl⟩ := hd
  exact lv_aload hS.1 hS.2.1 hd (hL.2.2 _ _ hl (fun q => by cases q)) (kk p e R s m args below meth c H locs cells slots MC MS arr hS hR hc hs hV hX hL)
theorem rr_aload_nEF {i : Fin 4} {j x : Nat} (hd : op_at k pc (.aload_n i) 1 np) (hi : (i : Nat) = j) (hl : ls[j]? = some (vv_E x)) (kk : wf_W b D l k d mc ms np ls (vv_E x :: st) X Q) : wf_W b D l k d mc ms pc ls (st) X Q := by
  intro p e R s m args below meth c H locs cells slots MC MS arr hS hR hc hs hV hX hL
  obtain ⟨hd, rfl⟩ := hd
  exact lv_aload_n hS.1 hS.2.1 hd hi (hL.2.2 _ _ hl (fun q => by cases q)) (kk p e R s m args below meth c H locs cells slots MC MS arr hS hR hc hs hV hX hL)
theorem rr_aloadEF {j x : Nat} (hd : op_at k pc (.aload j) 2 np) (hl : ls[j]? = some (vv_E x)) (kk : wf_W b D l k d mc ms np ls (vv_E x :: st) X Q) : wf_W b D l k d mc ms pc ls (st) X Q := by
  intro p e R s m args below meth c H locs cells slots MC MS arr hS hR hc hs hV hX hL
  obtain ⟨hd, rfl⟩ := hd
  exact lv_aload hS.1 hS.2.1 hd (hL.2.2 _ _ hl (fun q => by cases q)) (kk p e R s m args below meth c H locs cells slots MC MS arr hS hR hc hs hV hX hL)
theorem rr_istore_nF {i : Fin 4} {j : Nat} {x : Int32} {ls2 : List vv_T} (hd : op_at k pc (.istore_n i) 1 np) (hi : (i : Nat) = j) (hj : j < ls.length) (hn : j < k.2.2.1) (ho : ls_ok ls j = true) (h2 : ls.set j (vv_I x) = ls2) (kk : wf_W b D l k d mc ms np ls2 st X Q) : wf_W b D l k d mc ms pc ls (vv_I x :: st) X Q := by
  subst h2
  intro p e R s m args below meth c H locs cells slots MC MS arr hS hR hc hs hV hX hL
  obtain ⟨hd, rfl⟩ := hd
  exact lv_istore_n hS.1 hS.2.1 hd hi hL.has hn rfl (fun arr2 h => kk p e R s m args below meth c H locs cells slots MC MS arr2 hS hR hc hs hV hX (wm_L.st (w := vv_I x) hj ho h))
theorem rr_istoreF  {j : Nat} {x : Int32} {ls2 : List vv_T} (hd : op_at k pc (.istore j) 2 np) (hj : j < ls.length) (hn : j < k.2.2.1) (ho : ls_ok ls j = true) (h2 : ls.set j (vv_I x) = ls2) (kk : wf_W b D l k d mc ms np ls2 st X Q) : wf_W b D l k d mc ms pc ls (vv_I x :: st) X Q := by
  subst h2
  intro p e R s m args below meth c H locs cells slots MC MS arr hS hR hc hs hV hX hL
  obtain ⟨hd, rfl⟩ := hd
  exact lv_istore hS.1 hS.2.1 hd hL.has hn rfl (fun arr2 h => kk p e R s m args below meth c H locs cells slots MC MS arr2 hS hR hc hs hV hX (wm_L.st (w := vv_I x) hj ho h))
theorem rr_astore_nF {i : Fin 4} {j : Nat} {x : Nat} {ls2 : List vv_T} (hd : op_at k pc (.astore_n i) 1 np) (hi : (i : Nat) = j) (hj : j < ls.length) (hn : j < k.2.2.1) (ho : ls_ok ls j = true) (h2 : ls.set j (vv_A (some x)) = ls2) (kk : wf_W b D l k d mc ms np ls2 st X Q) : wf_W b D l k d mc ms pc ls (vv_A (some x) :: st) X Q := by
  subst h2
  intro p e R s m args below meth c H locs cells slots MC MS arr hS hR hc hs hV hX hL
  obtain ⟨hd, rfl⟩ := hd
  exact lv_astore_n hS.1 hS.2.1 hd hi hL.has hn rfl (fun arr2 h => kk p e R s m args below meth c H locs cells slots MC MS arr2 hS hR hc hs hV hX (wm_L.st (w := vv_A (some x)) hj ho h))
theorem rr_astoreF  {j : Nat} {x : Nat} {ls2 : List vv_T} (hd : op_at k pc (.astore j) 2 np) (hj : j < ls.length) (hn : j < k.2.2.1) (ho : ls_ok ls j = true) (h2 : ls.set j (vv_A (some x)) = ls2) (kk : wf_W b D l k d mc ms np ls2 st X Q) : wf_W b D l k d mc ms pc ls (vv_A (some x) :: st) X Q := by
  subst h2
  intro p e R s m args below meth c H locs cells slots MC MS arr hS hR hc hs hV hX hL
  obtain ⟨hd, rfl⟩ := hd
  exact lv_astore hS.1 hS.2.1 hd hL.has hn rfl (fun arr2 h => kk p e R s m args below meth c H locs cells slots MC MS arr2 hS hR hc hs hV hX (wm_L.st (w := vv_A (some x)) hj ho h))
theorem rr_astore_nEF {i : Fin 4} {j : Nat} {x : Nat} {ls2 : List vv_T} (hd : op_at k pc (.astore_n i) 1 np) (hi : (i : Nat) = j) (hj : j < ls.length) (hn : j < k.2.2.1) (ho : ls_ok ls j = true) (h2 : ls.set j (vv_E x) = ls2) (kk : wf_W b D l k d mc ms np ls2 st X Q) : wf_W b D l k d mc ms pc ls (vv_E x :: st) X Q := by
  subst h2
  intro p e R s m args below meth c H locs cells slots MC MS arr hS hR hc hs hV hX hL
  obtain ⟨hd, rfl⟩ := hd
  exact lv_astore_n hS.1 hS.2.1 hd hi hL.has hn rfl (fun arr2 h => kk p e R s m args below meth c H locs cells slots MC MS arr2 hS hR hc hs hV hX (wm_L.st (w := vv_E x) hj ho h))
theorem rr_astoreEF  {j : Nat} {x : Nat} {ls2 : List vv_T} (hd : op_at k pc (.astore j) 2 np) (hj : j < ls.length) (hn : j < k.2.2.1) (ho : ls_ok ls j = true) (h2 : ls.set j (vv_E x) = ls2) (kk : wf_W b D l k d mc ms np ls2 st X Q) : wf_W b D l k d mc ms pc ls (vv_E x :: st) X Q := by
  subst h2
  intro p e R s m args below meth c H locs cells slots MC MS arr hS hR hc hs hV hX hL
  obtain ⟨hd, rfl⟩ := hd
  exact lv_astore hS.1 hS.2.1 hd hL.has hn rfl (fun arr2 h => kk p e R s m args below meth c H locs cells slots MC MS arr2 hS hR hc hs hV hX (wm_L.st (w := vv_E x) hj ho h))
theorem rr_iincF {j : Nat} {n : Int} {x v : Int32} {ls2 : List vv_T} (hd : op_at k pc (.iinc j n) 3 np) (hl : ls[j]? = some (vv_I x)) (hv : x + Int32.ofInt n = v) (hn : j < k.2.2.1) (ho : ls_ok ls j = true) (h2 : ls.set j (vv_I v) = ls2) (kk : wf_W b D l k d mc ms np ls2 st X Q) : wf_W b D l k d mc ms pc ls st X Q := by
  subst h2
  intro p e R s m args below meth c H locs cells slots MC MS arr hS hR hc hs hV hX hL
  obtain ⟨hd, rfl⟩ := hd
  have hm := ls_V_in (b := b) ls 0 j _ hl (fun q => by cases q)
  rw [Nat.zero_add] at hm
  obtain ⟨kx, hkx⟩ := List.getElem?_of_mem hm
  exact lv_iinc hS.1 hS.2.1 hd hL.has hkx hv hn rfl (fun arr2 h => kk p e R s m args below meth c H locs cells slots MC MS arr2 hS hR hc hs hV hX (wm_L.st (w := vv_I v) (List.getElem?_eq_some_iff.mp hl).1 ho h))
theorem rr_dupF {v : vv_T} (hd : op_at k pc (.dup) 1 np) (hv : vv_c v = 1) (kk : wf_W b D l k d mc ms np ls (v :: v :: st) X Q) : wf_W b D l k d mc ms pc ls (v :: st) X Q := by
  intro p e R s m args below meth c H locs cells slots MC MS arr hS hR hc hs hV hX hL
  obtain ⟨hd, rfl⟩ := hd
  exact lv_dup hS.1 hS.2.1 hd (by rw [to_V_c]; exact hv) (kk p e R s m args below meth c H locs cells slots MC MS arr hS hR hc hs hV hX hL)
theorem rr_dup_x1F {v w : vv_T} (hd : op_at k pc (.dup_x1) 1 np) (hv : vv_c v = 1) (hw : vv_c w = 1) (kk : wf_W b D l k d mc ms np ls (v :: w :: v :: st) X Q) : wf_W b D l k d mc ms pc ls (v :: w :: st) X Q := by
  intro p e R s m args below meth c H locs cells slots MC MS arr hS hR hc hs hV hX hL
  obtain ⟨hd, rfl⟩ := hd
  exact lv_dup_x1 hS.1 hS.2.1 hd (by rw [to_V_c]; exact hv) (by rw [to_V_c]; exact hw) (kk p e R s m args below meth c H locs cells slots MC MS arr hS hR hc hs hV hX hL)
theorem rr_dup2F {v w : vv_T} (hd : op_at k pc (.dup2) 1 np) (hv : vv_c v = 1) (hw : vv_c w = 1) (kk : wf_W b D l k d mc ms np ls (v :: w :: v :: w :: st) X Q) : wf_W b D l k d mc ms pc ls (v :: w :: st) X Q := by
  intro p e R s m args below meth c H locs cells slots MC MS arr hS hR hc hs hV hX hL
  obtain ⟨hd, rfl⟩ := hd
  exact lv_dup2_11 hS.1 hS.2.1 hd (by rw [to_V_c]; exact hv) (by rw [to_V_c]; exact hw) (kk p e R s m args below meth c H locs cells slots MC MS arr hS hR hc hs hV hX hL)
theorem rr_popF {v : vv_T} (hd : op_at k pc (.pop) 1 np) (hv : vv_c v = 1) (kk : wf_W b D l k d mc ms np ls (st) X Q) : wf_W b D l k d mc ms pc ls (v :: st) X Q := by
  intro p e R s m args below meth c H locs cells slots MC MS arr hS hR hc hs hV hX hL
  obtain ⟨hd, rfl⟩ := hd
  exact lv_pop hS.1 hS.2.1 hd (by rw [to_V_c]; exact hv) (kk p e R s m args below meth c H locs cells slots MC MS arr hS hR hc hs hV hX hL)
theorem rr_iaddF {x y : Int32} (hd : op_at k pc (.iadd) 1 np) (kk : wf_W b D l k d mc ms np ls (vv_I (x + y) :: st) X Q) : wf_W b D l k d mc ms pc ls (vv_I y :: vv_I x :: st) X Q := by
  intro p e R s m args below meth c H locs cells slots MC MS arr hS hR hc hs hV hX hL
  obtain ⟨hd, rfl⟩ := hd
  exact lv_iadd hS.1 hS.2.1 hd (kk p e R s m args below meth c H locs cells slots MC MS arr hS hR hc hs hV hX hL)
theorem rr_isubF {x y : Int32} (hd : op_at k pc (.isub) 1 np) (kk : wf_W b D l k d mc ms np ls (vv_I (x - y) :: st) X Q) : wf_W b D l k d mc ms pc ls (vv_I y :: vv_I x :: st) X Q := by
  intro p e R s m args below meth c H locs cells slots MC MS arr hS hR hc hs hV hX hL
  obtain ⟨hd, rfl⟩ := hd
  exact lv_isub hS.1 hS.2.1 hd (kk p e R s m args below meth c H locs cells slots MC MS arr hS hR hc hs hV hX hL)
theorem rr_imulF {x y : Int32} (hd : op_at k pc (.imul) 1 np) (kk : wf_W b D l k d mc ms np ls (vv_I (x * y) :: st) X Q) : wf_W b D l k d mc ms pc ls (vv_I y :: vv_I x :: st) X Q := by
  intro p e R s m args below meth c H locs cells slots MC MS arr hS hR hc hs hV hX hL
  obtain ⟨hd, rfl⟩ := hd
  exact lv_imul hS.1 hS.2.1 hd (kk p e R s m args below meth c H locs cells slots MC MS arr hS hR hc hs hV hX hL)
theorem rr_iandF {x y : Int32} (hd : op_at k pc (.iand) 1 np) (kk : wf_W b D l k d mc ms np ls (vv_I (x &&& y) :: st) X Q) : wf_W b D l k d mc ms pc ls (vv_I y :: vv_I x :: st) X Q := by
  intro p e R s m args below meth c H locs cells slots MC MS arr hS hR hc hs hV hX hL
  obtain ⟨hd, rfl⟩ := hd
  exact lv_iand hS.1 hS.2.1 hd (kk p e R s m args below meth c H locs cells slots MC MS arr hS hR hc hs hV hX hL)
theorem rr_iorF {x y : Int32} (hd : op_at k pc (.ior) 1 np) (kk : wf_W b D l k d mc ms np ls (vv_I (x ||| y) :: st) X Q) : wf_W b D l k d mc ms pc ls (vv_I y :: vv_I x :: st) X Q := by
  intro p e R s m args below meth c H locs cells slots MC MS arr hS hR hc hs hV hX hL
  obtain ⟨hd, rfl⟩ := hd
  exact lv_ior hS.1 hS.2.1 hd (kk p e R s m args below meth c H locs cells slots MC MS arr hS hR hc hs hV hX hL)
theorem rr_ixorF {x y : Int32} (hd : op_at k pc (.ixor) 1 np) (kk : wf_W b D l k d mc ms np ls (vv_I (x ^^^ y) :: st) X Q) : wf_W b D l k d mc ms pc ls (vv_I y :: vv_I x :: st) X Q := by
  intro p e R s m args below meth c H locs cells slots MC MS arr hS hR hc hs hV hX hL
  obtain ⟨hd, rfl⟩ := hd
  exact lv_ixor hS.1 hS.2.1 hd (kk p e R s m args below meth c H locs cells slots MC MS arr hS hR hc hs hV hX hL)
theorem rr_ishlF {x y : Int32} (hd : op_at k pc (.ishl) 1 np) (kk : wf_W b D l k d mc ms np ls (vv_I (x <<< (y &&& 31)) :: st) X Q) : wf_W b D l k d mc ms pc ls (vv_I y :: vv_I x :: st) X Q := by
  intro p e R s m args below meth c H locs cells slots MC MS arr hS hR hc hs hV hX hL
  obtain ⟨hd, rfl⟩ := hd
  exact lv_ishl hS.1 hS.2.1 hd (kk p e R s m args below meth c H locs cells slots MC MS arr hS hR hc hs hV hX hL)
theorem rr_ishrF {x y : Int32} (hd : op_at k pc (.ishr) 1 np) (kk : wf_W b D l k d mc ms np ls (vv_I (x >>> (y &&& 31)) :: st) X Q) : wf_W b D l k d mc ms pc ls (vv_I y :: vv_I x :: st) X Q := by
  intro p e R s m args below meth c H locs cells slots MC MS arr hS hR hc hs hV hX hL
  obtain ⟨hd, rfl⟩ := hd
  exact lv_ishr hS.1 hS.2.1 hd (kk p e R s m args below meth c H locs cells slots MC MS arr hS hR hc hs hV hX hL)
theorem rr_idivF {x y : Int32} (hd : op_at k pc (.idiv) 1 np) (hne : ¬ y = 0) (kk : wf_W b D l k d mc ms np ls (vv_I (x / y) :: st) X Q) : wf_W b D l k d mc ms pc ls (vv_I y :: vv_I x :: st) X Q := by
  intro p e R s m args below meth c H locs cells slots MC MS arr hS hR hc hs hV hX hL
  obtain ⟨hd, rfl⟩ := hd
  exact lv_idiv hS.1 hS.2.1 hd hne (kk p e R s m args below meth c H locs cells slots MC MS arr hS hR hc hs hV hX hL)
theorem rr_iremF {x y : Int32} (hd : op_at k pc (.irem) 1 np) (hne : ¬ y = 0) (kk : wf_W b D l k d mc ms np ls (vv_I (x - x / y * y) :: st) X Q) : wf_W b D l k d mc ms pc ls (vv_I y :: vv_I x :: st) X Q := by
  intro p e R s m args below meth c H locs cells slots MC MS arr hS hR hc hs hV hX hL
  obtain ⟨hd, rfl⟩ := hd
  exact lv_irem hS.1 hS.2.1 hd hne (kk p e R s m args below meth c H locs cells slots MC MS arr hS hR hc hs hV hX hL)
theorem rr_inegF {x : Int32} (hd : op_at k pc (.ineg) 1 np) (kk : wf_W b D l k d mc ms np ls (vv_I (-x) :: st) X Q) : wf_W b D l k d mc ms pc ls (vv_I x :: st) X Q := by
  intro p e R s m args below meth c H locs cells slots MC MS arr hS hR hc hs hV hX hL
  obtain ⟨hd, rfl⟩ := hd
  exact lv_ineg hS.1 hS.2.1 hd (kk p e R s m args below meth c H locs cells slots MC MS arr hS hR hc hs hV hX hL)
theorem rr_iushrF {x y : Int32} (hd : op_at k pc (.iushr) 1 np) (kk : wf_W b D l k d mc ms np ls (vv_I ((x.toUInt32 >>> (y.toUInt32 &&& Int32.toUInt32 31)).toInt32) :: st) X Q) : wf_W b D l k d mc ms pc ls (vv_I y :: vv_I x :: st) X Q := by
  intro p e R s m args below meth c H locs cells slots MC MS arr hS hR hc hs hV hX hL
  obtain ⟨hd, rfl⟩ := hd
  exact lv_iushr hS.1 hS.2.1 hd rfl (kk p e R s m args below meth c H locs cells slots MC MS arr hS hR hc hs hV hX hL)
theorem rr_l2iF {x : Int64} (hd : op_at k pc (.l2i) 1 np) (kk : wf_W b D l k d mc ms np ls (vv_I x.toInt32 :: st) X Q) : wf_W b D l k d mc ms pc ls (vv_L x :: st) X Q := by
  intro p e R s m args below meth c H locs cells slots MC MS arr hS hR hc hs hV hX hL
  obtain ⟨hd, rfl⟩ := hd
  exact lv_l2i hS.1 hS.2.1 hd rfl (kk p e R s m args below meth c H locs cells slots MC MS arr hS hR hc hs hV hX hL)
theorem rr_i2lF {x : Int32} (hd : op_at k pc (.i2l) 1 np) (kk : wf_W b D l k d mc ms np ls (vv_L x.toInt64 :: st) X Q) : wf_W b D l k d mc ms pc ls (vv_I x :: st) X Q := by
  intro p e R s m args below meth c H locs cells slots MC MS arr hS hR hc hs hV hX hL
  obtain ⟨hd, rfl⟩ := hd
  exact lv_i2l hS.1 hS.2.1 hd rfl (kk p e R s m args below meth c H locs cells slots MC MS arr hS hR hc hs hV hX hL)
theorem rr_i2bF {x : Int32} (hd : op_at k pc (.i2b) 1 np) (kk : wf_W b D l k d mc ms np ls (vv_I x.toInt8.toInt32 :: st) X Q) : wf_W b D l k d mc ms pc ls (vv_I x :: st) X Q := by
  intro p e R s m args below meth c H locs cells slots MC MS arr hS hR hc hs hV hX hL
  obtain ⟨hd, rfl⟩ := hd
  exact lv_i2b hS.1 hS.2.1 hd rfl (kk p e R s m args below meth c H locs cells slots MC MS arr hS hR hc hs hV hX hL)
theorem rr_i2sF {x : Int32} (hd : op_at k pc (.i2s) 1 np) (kk : wf_W b D l k d mc ms np ls (vv_I x.toInt16.toInt32 :: st) X Q) : wf_W b D l k d mc ms pc ls (vv_I x :: st) X Q := by
  intro p e R s m args below meth c H locs cells slots MC MS arr hS hR hc hs hV hX hL
  obtain ⟨hd, rfl⟩ := hd
  exact lv_i2s hS.1 hS.2.1 hd rfl (kk p e R s m args below meth c H locs cells slots MC MS arr hS hR hc hs hV hX hL)
theorem rr_i2cF {x : Int32} (hd : op_at k pc (.i2c) 1 np) (kk : wf_W b D l k d mc ms np ls (vv_I (x.toUInt32 % 65536).toInt32 :: st) X Q) : wf_W b D l k d mc ms pc ls (vv_I x :: st) X Q := by
  intro p e R s m args below meth c H locs cells slots MC MS arr hS hR hc hs hV hX hL
  obtain ⟨hd, rfl⟩ := hd
  exact lv_i2c hS.1 hS.2.1 hd rfl (kk p e R s m args below meth c H locs cells slots MC MS arr hS hR hc hs hV hX hL)
theorem rr_landF {x y : Int64} (hd : op_at k pc (.land) 1 np) (kk : wf_W b D l k d mc ms np ls (vv_L (x &&& y) :: st) X Q) : wf_W b D l k d mc ms pc ls (vv_L y :: vv_L x :: st) X Q := by
  intro p e R s m args below meth c H locs cells slots MC MS arr hS hR hc hs hV hX hL
  obtain ⟨hd, rfl⟩ := hd
  exact lv_land hS.1 hS.2.1 hd (kk p e R s m args below meth c H locs cells slots MC MS arr hS hR hc hs hV hX hL)
theorem rr_lorF {x y : Int64} (hd : op_at k pc (.lor) 1 np) (kk : wf_W b D l k d mc ms np ls (vv_L (x ||| y) :: st) X Q) : wf_W b D l k d mc ms pc ls (vv_L y :: vv_L x :: st) X Q := by
  intro p e R s m args below meth c H locs cells slots MC MS arr hS hR hc hs hV hX hL
  obtain ⟨hd, rfl⟩ := hd
  exact lv_lor hS.1 hS.2.1 hd (kk p e R s m args below meth c H locs cells slots MC MS arr hS hR hc hs hV hX hL)
theorem rr_lshlF {x : Int64} {y : Int32} (hd : op_at k pc (.lshl) 1 np) (kk : wf_W b D l k d mc ms np ls (vv_L (x <<< (y.toInt64 &&& 63)) :: st) X Q) : wf_W b D l k d mc ms pc ls (vv_I y :: vv_L x :: st) X Q := by
  intro p e R s m args below meth c H locs cells slots MC MS arr hS hR hc hs hV hX hL
  obtain ⟨hd, rfl⟩ := hd
  exact lv_lshl hS.1 hS.2.1 hd rfl (kk p e R s m args below meth c H locs cells slots MC MS arr hS hR hc hs hV hX hL)
theorem rr_ldcF {i : Nat} {v : Int32} (hd : op_at k pc (.ldc i) 2 np) (hw : Cond.constant k.1.cls i v ∈ GW) (kk : wf_W b D l k d mc ms np ls (vv_I v :: st) X Q) : wf_W b D l k d mc ms pc ls (st) X Q := by
  intro p e R s m args below meth c H locs cells slots MC MS arr hS hR hc hs hV hX hL
  obtain ⟨hd, rfl⟩ := hd
  exact lv_ldc hS.1 hS.2.1 hS.2.2.2.2.1 (hS.2.2.2.2.2.1 _ hw) hd (kk p e R s m args below meth c H locs cells slots MC MS arr hS hR hc hs hV hX hL)
theorem rr_ldcwF {i : Nat} {v : Int32} (hd : op_at k pc (.ldc_w i) 3 np) (hw : Cond.constant k.1.cls i v ∈ GW) (kk : wf_W b D l k d mc ms np ls (vv_I v :: st) X Q) : wf_W b D l k d mc ms pc ls (st) X Q := by
  intro p e R s m args below meth c H locs cells slots MC MS arr hS hR hc hs hV hX hL
  obtain ⟨hd, rfl⟩ := hd
  exact lv_ldcw hS.1 hS.2.1 hS.2.2.2.2.1 (hS.2.2.2.2.2.1 _ hw) hd (kk p e R s m args below meth c H locs cells slots MC MS arr hS hR hc hs hV hX hL)
theorem rr_ldc2F {i : Nat} {v : Int64} (hd : op_at k pc (.ldc2_w i) 3 np) (hw : Cond.constantLong k.1.cls i v ∈ GW) (kk : wf_W b D l k d mc ms np ls (vv_L v :: st) X Q) : wf_W b D l k d mc ms pc ls (st) X Q := by
  intro p e R s m args below meth c H locs cells slots MC MS arr hS hR hc hs hV hX hL
  obtain ⟨hd, rfl⟩ := hd
  exact lv_ldc2 hS.1 hS.2.1 hS.2.2.2.2.1 (hS.2.2.2.2.2.1 _ hw) hd (kk p e R s m args below meth c H locs cells slots MC MS arr hS hR hc hs hV hX hL)
theorem rr_if_eqF {x : Int32} {off : Int} {tgt : Nat} (hd : op_at k pc (.ifCond .eq off) 3 np) (ht : (pc : Int) + off = (tgt : Int)) (kt : x = 0 → wf_W b D l k d mc ms tgt ls st X Q) (kf : ¬ (x = 0) → wf_W b D l k d mc ms np ls st X Q) : wf_W b D l k d mc ms pc ls (vv_I x :: st) X Q := by
  intro p e R s m args below meth c H locs cells slots MC MS arr hS hR hc hs hV hX hL
  obtain ⟨hd, rfl⟩ := hd
  exact lv_if_eq hS.1 hS.2.1 hd ht (fun q => kt q p e R s m args below meth c H locs cells slots MC MS arr hS hR hc hs hV hX hL) (fun q => kf q p e R s m args below meth c H locs cells slots MC MS arr hS hR hc hs hV hX hL)
theorem rr_if_neF {x : Int32} {off : Int} {tgt : Nat} (hd : op_at k pc (.ifCond .ne off) 3 np) (ht : (pc : Int) + off = (tgt : Int)) (kt : ¬ x = 0 → wf_W b D l k d mc ms tgt ls st X Q) (kf : x = 0 → wf_W b D l k d mc ms np ls st X Q) : wf_W b D l k d mc ms pc ls (vv_I x :: st) X Q := by
  intro p e R s m args below meth c H locs cells slots MC MS arr hS hR hc hs hV hX hL
  obtain ⟨hd, rfl⟩ := hd
  exact lv_if_ne hS.1 hS.2.1 hd ht (fun q => kt q p e R s m args below meth c H locs cells slots MC MS arr hS hR hc hs hV hX hL) (fun q => kf q p e R s m args below meth c H locs cells slots MC MS arr hS hR hc hs hV hX hL)
theorem rr_if_ltF {x : Int32} {off : Int} {tgt : Nat} (hd : op_at k pc (.ifCond .lt off) 3 np) (ht : (pc : Int) + off = (tgt : Int)) (kt : x < 0 → wf_W b D l k d mc ms tgt ls st X Q) (kf : ¬ (x < 0) → wf_W b D l k d mc ms np ls st X Q) : wf_W b D l k d mc ms pc ls (vv_I x :: st) X Q := by
  intro p e R s m args below meth c H locs cells slots MC MS arr hS hR hc hs hV hX hL
  obtain ⟨hd, rfl⟩ := hd
  exact lv_if_lt hS.1 hS.2.1 hd ht (fun q => kt q p e R s m args below meth c H locs cells slots MC MS arr hS hR hc hs hV hX hL) (fun q => kf q p e R s m args below meth c H locs cells slots MC MS arr hS hR hc hs hV hX hL)
theorem rr_if_geF {x : Int32} {off : Int} {tgt : Nat} (hd : op_at k pc (.ifCond .ge off) 3 np) (ht : (pc : Int) + off = (tgt : Int)) (kt : 0 ≤ x → wf_W b D l k d mc ms tgt ls st X Q) (kf : ¬ (0 ≤ x) → wf_W b D l k d mc ms np ls st X Q) : wf_W b D l k d mc ms pc ls (vv_I x :: st) X Q := by
  intro p e R s m args below meth c H locs cells slots MC MS arr hS hR hc hs hV hX hL
  obtain ⟨hd, rfl⟩ := hd
  exact lv_if_ge hS.1 hS.2.1 hd ht (fun q => kt q p e R s m args below meth c H locs cells slots MC MS arr hS hR hc hs hV hX hL) (fun q => kf q p e R s m args below meth c H locs cells slots MC MS arr hS hR hc hs hV hX hL)
theorem rr_if_gtF {x : Int32} {off : Int} {tgt : Nat} (hd : op_at k pc (.ifCond .gt off) 3 np) (ht : (pc : Int) + off = (tgt : Int)) (kt : 0 < x → wf_W b D l k d mc ms tgt ls st X Q) (kf : ¬ (0 < x) → wf_W b D l k d mc ms np ls st X Q) : wf_W b D l k d mc ms pc ls (vv_I x :: st) X Q := by
  intro p e R s m args below meth c H locs cells slots MC MS arr hS hR hc hs hV hX hL
  obtain ⟨hd, rfl⟩ := hd
  exact lv_if_gt hS.1 hS.2.1 hd ht (fun q => kt q p e R s m args below meth c H locs cells slots MC MS arr hS hR hc hs hV hX hL) (fun q => kf q p e R s m args below meth c H locs cells slots MC MS arr hS hR hc hs hV hX hL)
theorem rr_if_leF {x : Int32} {off : Int} {tgt : Nat} (hd : op_at k pc (.ifCond .le off) 3 np) (ht : (pc : Int) + off = (tgt : Int)) (kt : x ≤ 0 → wf_W b D l k d mc ms tgt ls st X Q) (kf : ¬ (x ≤ 0) → wf_W b D l k d mc ms np ls st X Q) : wf_W b D l k d mc ms pc ls (vv_I x :: st) X Q := by
  intro p e R s m args below meth c H locs cells slots MC MS arr hS hR hc hs hV hX hL
  obtain ⟨hd, rfl⟩ := hd
  exact lv_if_le hS.1 hS.2.1 hd ht (fun q => kt q p e R s m args below meth c H locs cells slots MC MS arr hS hR hc hs hV hX hL) (fun q => kf q p e R s m args below meth c H locs cells slots MC MS arr hS hR hc hs hV hX hL)
theorem rr_icmp_eqF {x y : Int32} {off : Int} {tgt : Nat} (hd : op_at k pc (.if_icmp .eq off) 3 np) (ht : (pc : Int) + off = (tgt : Int)) (kt : x = y → wf_W b D l k d mc ms tgt ls st X Q) (kf : ¬ (x = y) → wf_W b D l k d mc ms np ls st X Q) : wf_W b D l k d mc ms pc ls (vv_I y :: vv_I x :: st) X Q := by
  intro p e R s m args below meth c H locs cells slots MC MS arr hS hR hc hs hV hX hL
  obtain ⟨hd, rfl⟩ := hd
  exact lv_icmp_eq hS.1 hS.2.1 hd ht (fun q => kt q p e R s m args below meth c H locs cells slots MC MS arr hS hR hc hs hV hX hL) (fun q => kf q p e R s m args below meth c H locs cells slots MC MS arr hS hR hc hs hV hX hL)
theorem rr_icmp_neF {x y : Int32} {off : Int} {tgt : Nat} (hd : op_at k pc (.if_icmp .ne off) 3 np) (ht : (pc : Int) + off = (tgt : Int)) (kt : ¬ x = y → wf_W b D l k d mc ms tgt ls st X Q) (kf : x = y → wf_W b D l k d mc ms np ls st X Q) : wf_W b D l k d mc ms pc ls (vv_I y :: vv_I x :: st) X Q := by
  intro p e R s m args below meth c H locs cells slots MC MS arr hS hR hc hs hV hX hL
  obtain ⟨hd, rfl⟩ := hd
  exact lv_icmp_ne hS.1 hS.2.1 hd ht (fun q => kt q p e R s m args below meth c H locs cells slots MC MS arr hS hR hc hs hV hX hL) (fun q => kf q p e R s m args below meth c H locs cells slots MC MS arr hS hR hc hs hV hX hL)
theorem rr_icmp_ltF {x y : Int32} {off : Int} {tgt : Nat} (hd : op_at k pc (.if_icmp .lt off) 3 np) (ht : (pc : Int) + off = (tgt : Int)) (kt : x < y → wf_W b D l k d mc ms tgt ls st X Q) (kf : ¬ (x < y) → wf_W b D l k d mc ms np ls st X Q) : wf_W b D l k d mc ms pc ls (vv_I y :: vv_I x :: st) X Q := by
  intro p e R s m args below meth c H locs cells slots MC MS arr hS hR hc hs hV hX hL
  obtain ⟨hd, rfl⟩ := hd
  exact lv_icmp_lt hS.1 hS.2.1 hd ht (fun q => kt q p e R s m args below meth c H locs cells slots MC MS arr hS hR hc hs hV hX hL) (fun q => kf q p e R s m args below meth c H locs cells slots MC MS arr hS hR hc hs hV hX hL)
theorem rr_icmp_geF {x y : Int32} {off : Int} {tgt : Nat} (hd : op_at k pc (.if_icmp .ge off) 3 np) (ht : (pc : Int) + off = (tgt : Int)) (kt : y ≤ x → wf_W b D l k d mc ms tgt ls st X Q) (kf : ¬ (y ≤ x) → wf_W b D l k d mc ms np ls st X Q) : wf_W b D l k d mc ms pc ls (vv_I y :: vv_I x :: st) X Q := by
  intro p e R s m args below meth c H locs cells slots MC MS arr hS hR hc hs hV hX hL
  obtain ⟨hd, rfl⟩ := hd
  exact lv_icmp_ge hS.1 hS.2.1 hd ht (fun q => kt q p e R s m args below meth c H locs cells slots MC MS arr hS hR hc hs hV hX hL) (fun q => kf q p e R s m args below meth c H locs cells slots MC MS arr hS hR hc hs hV hX hL)
theorem rr_icmp_gtF {x y : Int32} {off : Int} {tgt : Nat} (hd : op_at k pc (.if_icmp .gt off) 3 np) (ht : (pc : Int) + off = (tgt : Int)) (kt : y < x → wf_W b D l k d mc ms tgt ls st X Q) (kf : ¬ (y < x) → wf_W b D l k d mc ms np ls st X Q) : wf_W b D l k d mc ms pc ls (vv_I y :: vv_I x :: st) X Q := by
  intro p e R s m args below meth c H locs cells slots MC MS arr hS hR hc hs hV hX hL
  obtain ⟨hd, rfl⟩ := hd
  exact lv_icmp_gt hS.1 hS.2.1 hd ht (fun q => kt q p e R s m args below meth c H locs cells slots MC MS arr hS hR hc hs hV hX hL) (fun q => kf q p e R s m args below meth c H locs cells slots MC MS arr hS hR hc hs hV hX hL)
theorem rr_icmp_leF {x y : Int32} {off : Int} {tgt : Nat} (hd : op_at k pc (.if_icmp .le off) 3 np) (ht : (pc : Int) + off = (tgt : Int)) (kt : x ≤ y → wf_W b D l k d mc ms tgt ls st X Q) (kf : ¬ (x ≤ y) → wf_W b D l k d mc ms np ls st X Q) : wf_W b D l k d mc ms pc ls (vv_I y :: vv_I x :: st) X Q := by
  intro p e R s m args below meth c H locs cells slots MC MS arr hS hR hc hs hV hX hL
  obtain ⟨hd, rfl⟩ := hd
  exact lv_icmp_le hS.1 hS.2.1 hd ht (fun q => kt q p e R s m args below meth c H locs cells slots MC MS arr hS hR hc hs hV hX hL) (fun q => kf q p e R s m args below meth c H locs cells slots MC MS arr hS hR hc hs hV hX hL)
theorem rr_gotoF {off : Int} {tgt : Nat} (hd : op_at k pc (.goto off) 3 np) (ht : (pc : Int) + off = (tgt : Int)) (kk : wf_W b D l k d mc ms tgt ls st X Q) : wf_W b D l k d mc ms pc ls st X Q := by
  intro p e R s m args below meth c H locs cells slots MC MS arr hS hR hc hs hV hX hL
  obtain ⟨hd, rfl⟩ := hd
  exact lv_goto hS.1 hS.2.1 hd ht (kk p e R s m args below meth c H locs cells slots MC MS arr hS hR hc hs hV hX hL)
theorem rr_tabInF {dflt lo hi : Int} {offs : Array Int} {len : Nat} {x : Int32} {off : Int} {tgt : Nat} (hd : op_at k pc (.tableswitch dflt lo hi offs) len np) (h1 : ¬ x.toInt < lo) (h2 : ¬ hi < x.toInt) (ho : offs[(x.toInt - lo).toNat]? = some off) (ht : (pc : Int) + off = (tgt : Int)) (kk : wf_W b D l k d mc ms tgt ls st X Q) : wf_W b D l k d mc ms pc ls (vv_I x :: st) X Q := by
  intro p e R s m args below meth c H locs cells slots MC MS arr hS hR hc hs hV hX hL
  obtain ⟨hd, rfl⟩ := hd
  exact lv_tableIn hS.1 hS.2.1 hd h1 h2 ho ht (kk p e R s m args below meth c H locs cells slots MC MS arr hS hR hc hs hV hX hL)
theorem rr_tabOutF {dflt lo hi : Int} {offs : Array Int} {len : Nat} {x : Int32} {tgt : Nat} (hd : op_at k pc (.tableswitch dflt lo hi offs) len np) (h : x.toInt < lo ∨ hi < x.toInt) (ht : (pc : Int) + dflt = (tgt : Int)) (kk : wf_W b D l k d mc ms tgt ls st X Q) : wf_W b D l k d mc ms pc ls (vv_I x :: st) X Q := by
  intro p e R s m args below meth c H locs cells slots MC MS arr hS hR hc hs hV hX hL
  obtain ⟨hd, rfl⟩ := hd
  exact lv_tableOut hS.1 hS.2.1 hd h ht (kk p e R s m args below meth c H locs cells slots MC MS arr hS hR hc hs hV hX hL)
theorem rr_lookupF {dflt : Int} {ps : Array (Int × Int)} {len : Nat} {x : Int32} {off : Int} {tgt : Nat} (hd : op_at k pc (.lookupswitch dflt ps) len np) (hp : (ps.toList.zip (ps.toList.drop 1)).all (fun (a, next) => a.1 < next.1) = true) (ho : Op.lookupswitch.offset ps.toList dflt x.toInt = off) (ht : (pc : Int) + off = (tgt : Int)) (kk : wf_W b D l k d mc ms tgt ls st X Q) : wf_W b D l k d mc ms pc ls (vv_I x :: st) X Q := by
  intro p e R s m args below meth c H locs cells slots MC MS arr hS hR hc hs hV hX hL
  obtain ⟨hd, rfl⟩ := hd
  exact lv_lookup hS.1 hS.2.1 hd hp ho ht (kk p e R s m args below meth c H locs cells slots MC MS arr hS hR hc hs hV hX hL)
theorem rr_ireturnF {v : Int32} {ty : FieldType} (hd : op_at k pc (.ireturn) 1 np) (hr : k.2.2.2 = some ty) (hn : narrow ty (.int v) = .int v) (hq : Q (some (vv_I v)) X) : wf_W b D l k d mc ms pc ls [vv_I v] X Q := by
  intro p e R s m args below meth c H locs cells slots MC MS arr hS hR hc hs hV hX hL
  obtain ⟨hd, rfl⟩ := hd
  exact W.widen (k := MC) (n := MS) (by omega) (by omega) (W.zret hS.1 hS.2.1 (hS.2.2.2.1.trans hr) hn (fun t ht hW => ⟨⟨some (vv_I v), X, rfl, hq, by rw [ht]; exact hX⟩, hV.F ht⟩) hV.2.2 hd hS.2.2.2.2.2.2.1)
theorem rr_lreturnF {v : Int64} (hd : op_at k pc (.lreturn) 1 np) (hr : k.2.2.2 = some .long) (hq : Q (some (vv_L v)) X) : wf_W b D l k d mc ms pc ls [vv_L v] X Q := by
  intro p e R s m args below meth c H locs cells slots MC MS arr hS hR hc hs hV hX hL
  obtain ⟨hd, rfl⟩ := hd
  exact W.widen (k := MC) (n := MS) (by omega) (by omega) (W.lret hS.1 hS.2.1 (hS.2.2.2.1.trans hr) (fun t ht hW => ⟨⟨some (vv_L v), X, rfl, hq, by rw [ht]; exact hX⟩, hV.F ht⟩) hV.2.2 hd hS.2.2.2.2.2.2.1)
theorem rr_areturnEF {a : Nat} {rt : FieldType} (hd : op_at k pc (.areturn) 1 np) (hr : k.2.2.2 = some rt) (hrt : (∃ n, rt = .object n) ∨ ∃ t, rt = .array t) (hq : Q (some (vv_E a)) X) : wf_W b D l k d mc ms pc ls [vv_E a] X Q := by
  intro p e R s m args below meth c H locs cells slots MC MS arr hS hR hc hs hV hX hL
  obtain ⟨hd, rfl⟩ := hd
  exact W.widen (k := MC) (n := MS) (by omega) (by omega) (W.aret hS.1 hS.2.1 (hS.2.2.2.1.trans hr) hrt (Or.inr ⟨a, rfl⟩) (fun t ht hW => ⟨⟨some (vv_E a), X, rfl, hq, by rw [ht]; exact hX⟩, hV.F ht⟩) hV.2.2 hd hS.2.2.2.2.2.2.1)
theorem rr_returnF  (hd : op_at k pc (.return_) 1 np) (hr : k.2.2.2 = none) (hq : Q (none) X) : wf_W b D l k d mc ms pc ls [] X Q := by
  intro p e R s m args below meth c H locs cells slots MC MS arr hS hR hc hs hV hX hL
  obtain ⟨hd, rfl⟩ := hd
  exact W.widen (k := MC) (n := MS) (by omega) (by omega) (W.vret hS.1 hS.2.1 (hS.2.2.2.1.trans hr) (fun t ht hW => ⟨⟨none, X, rfl, hq, by rw [ht]; exact hX⟩, hV.F ht⟩) hV.2.2 hd hS.2.2.2.2.2.2.1)
theorem rr_getF {i ci f a : Nat} {w : vv_T} (hd : op_at k pc (.getfield i) 3 np) (hF : fl_T k i ci f) (hk : kO a = ci) (hci : ci < 6) (ha : a < X.2.2.2) (hw : ∀ b, mx_sl b X ci a f = to_V b w) (kk : wf_W b D l k d mc ms np ls (w :: st) X Q) : wf_W b D l k d mc ms pc ls (vv_A (some a) :: st) X Q := by
  intro p e R s m args below meth c H locs cells slots MC MS arr hS hR hc hs hV hX hL
  obtain ⟨hd, rfl⟩ := hd
  obtain ⟨C, T, N, ty, f1, f2, f3, f4, f5, f6, f7⟩ := hF
  subst f3
  have hP := mx_one hX ha (mx_ctO hk hci)
  refine va_get hS.1 hS.2.1 hS.2.2.2.2.2.1 f4 hS.2.2.2.2.1 hS.2.2.2.2.2.2.2.2.1.1 hP 0 rfl f1 f f2 (hS.2.2.2.2.2.1 _ f7) (fun _ h => h) (mx_fsk f2) hd ?_
  rw [hw b]
  exact (kk p e R s m args below meth c H locs cells slots MC MS arr hS hR hc hs hV hX hL)
theorem rr_getiF {i ci f a : Nat} (hd : op_at k pc (.getfield i) 3 np) (hF : fl_T k i ci f) (hk : kO a = ci) (ha : a < X.2.2.2) (hc : ci < 6 ∧ mx_isR ci f = false) (kk : wf_W b D l k d mc ms np ls (vv_I (X.1 a f) :: st) X Q) : wf_W b D l k d mc ms pc ls (vv_A (some a) :: st) X Q :=
  rr_getF hd hF hk hc.1 ha (fun b => by rw [mx_sl, if_neg (by rw [hc.2]; decide)]; rfl) kk
theorem rr_getrF {i ci f a : Nat} {w : Option Nat} (hd : op_at k pc (.getfield i) 3 np) (hF : fl_T k i ci f) (hk : kO a = ci) (ha : a < X.2.2.2) (hc : ci < 6 ∧ mx_isR ci f = true) (hr : X.2.2.1 a f = w) (kk : wf_W b D l k d mc ms np ls (vv_A w :: st) X Q) : wf_W b D l k d mc ms pc ls (vv_A (some a) :: st) X Q :=
  rr_getF hd hF hk hc.1 ha (fun b => by rw [mx_sl, if_pos hc.2, hr]; rfl) kk
theorem rr_putF {i ci f a : Nat} {w : vv_T} {ty : FieldType} {Y : mx_T} (hd : op_at k pc (.putfield i) 3 np) (hF : fl_T k i ci f) (hk : kO a = ci) (ha : a < X.2.2.2) (hci : ci < 6)
    (hfin : ∀ q : vw_C, mCl[ci]? = some q → ((q.2.1 f).2.2.2 = false ∨ ((q.2.1 f).2.2.2 = true ∧ k.1.name = "<init>" ∧ (q.2.1 f).1 = k.1.cls)) ∧ parseFieldDescriptor (q.2.1 f).2.2.1 = some ty) (hn : ∀ b, narrow ty (to_V b w) = to_V b w) (hfit : ∀ b, fits ty (to_V b w) = true)
    (hY : ∀ b, mx_fs b Y ci a = (mx_fs b X ci a).set f (to_V b w)) (hYn : Y.2.2.2 = X.2.2.2) (hYo : ∀ a', a' ≠ a → Y.1 a' = X.1 a' ∧ Y.2.1 a' = X.2.1 a' ∧ Y.2.2.1 a' = X.2.2.1 a')
    (kk : wf_W b D l k d mc ms np ls st Y Q) : wf_W b D l k d mc ms pc ls (w :: vv_A (some a) :: st) X Q := by
  intro p e R s m args below meth c H locs cells slots MC MS arr hS hR hcl hs hV hX hL
  obtain ⟨hd, rfl⟩ := hd
  obtain ⟨C, T, N, tyF, f1, f2, f3, f4, f5, f6, f7⟩ := hF
  subst f3
  obtain ⟨g1, g2⟩ := hfin _ f1
  have hts := hS.2.2.2.2.2.1
  have hown := hS.2.2.2.2.1
  have hK := hS.2.2.2.2.2.2.2.2.1.1
  have hap := va_apart (own := k.1.cls) hts f4 tyF f5 f6 hK f1
  obtain ⟨r, h1, cell, q1, q2, q3, q4⟩ := mx_at hX hk hci ha
  have hr : r = (C, T, mx_N ci) := Option.some.inj (h1.symm.trans f1)
  subst hr
  obtain ⟨hSl, hfc, kC, hkC, hkind⟩ := hK.1 ci _ f1
  obtain ⟨cf, kf, fi, fd, hi, hsl⟩ := hSl f f2
  have hlay := hts _ (f4 _ (u_in_lay f2))
  have hst := (u_facts hfc hkC (u_lays hts f4 f2) hi).1
  have fin : ∀ H' : Heap, H'[b + a]? = some (cell.setSlot fd.slot (to_V b w)) → H'.size = H.size → (∀ q, q ≠ b + a → H'[q]? = H[q]?) → W p l e R s m args below meth c H' (locs ++ [⟨b + a, fd.slot⟩]) cells slots (MQ below (wm_Q b D Q) args s MC MS (fun q => b ≤ q)) (F0 m (pc + 3) arr (st.map (to_V b))) := by
    intro H' e1 e2 e3
    rw [hsl] at e1
    refine kk p e R s m args below meth c H' _ cells slots MC MS arr hS hR hcl hs (wm_vS hV e2 e3) (mx_set hX hYn e2 e3 ?_ (fun a' h => mx_ct_eq (hYo a' h).1 (hYo a' h).2.1 (hYo a' h).2.2)) hL
    rw [mx_ctO hk hci, hY b]
    exact ⟨_, f1, t_OB.to (V := updV (vp_V (mx_fs b X ci a)) f (to_V b w)) ⟨_, e1, q2, q3, t_set q4 hap f2 (to_V b w)⟩ (fun j _ => vp_updV_set (by rw [mx_fsl]; exact f2) (to_V b w) j)⟩
  rcases g1 with g1 | ⟨g1, g3, g4⟩
  · unfold u_lay at hlay
    rw [if_neg (by rw [g1]; decide)] at hlay
    have h6 := u_store hfc hkC hkind hlay hi g2 (hn b) (hfit b)
    exact W.putK hS.1 hS.2.1 (f := fd) ⟨hown, hts _ f7, ⟨_, _, _, hi⟩, hst⟩ (by rw [q2]; exact h6) q1 q3 (by rw [hsl]; exact k2_hasslot (q4 f f2)) rfl rfl hd fin
  · unfold u_lay at hlay
    rw [if_pos g1] at hlay
    have hcf : m.cls = cf := by
      obtain ⟨_, _, c', _, _, _, -, -, hf', -, -, -, hown2, -⟩ := Cond.laysFinal_spec hlay
      have e1 : c' = cf := by have := hi.symm.trans hf'; simp at this; exact this.1.symm
      have g4' : (T f).1 = k.1.cls := g4
      rw [g4'] at hown2
      rw [← e1]; exact Option.some.inj (hown.symm.trans hown2)
    have h6 := u_fits hfc hkC hkind (Or.inr hlay) hi g2 (hn b) (hfit b)
    exact W.putFinK hS.1 hS.2.1 hown (hts _ f7) hi hst hcf (hS.2.2.2.2.2.2.2.1.trans g3) (by rw [q2]; exact h6) q1 q3 (by rw [hsl]; exact k2_hasslot (q4 f f2)) rfl rfl hd fin
theorem rr_putiF {i ci f a : Nat} {v : Int32} {ty : FieldType} {I : Nat → Nat → Int32} {L : Nat → Nat → Int64} {Rf : Nat → Nat → Option Nat} {n : Nat} (hd : op_at k pc (.putfield i) 3 np) (hF : fl_T k i ci f) (hk : kO a = ci) (ha : a < n) (hc : ci < 6 ∧ mx_isR ci f = false)
    (hfin : ∀ q : vw_C, mCl[ci]? = some q → (q.2.1 f).2.2.2 = false ∧ parseFieldDescriptor (q.2.1 f).2.2.1 = some ty) (hn : narrow ty (.int v) = .int v) (hfit : fits ty (.int v) = true) (hf : f < mx_N ci) (kk : wf_W b D l k d mc ms np ls st (up_I I a f v, L, Rf, n) Q) : wf_W b D l k d mc ms pc ls (vv_I v :: vv_A (some a) :: st) (I, L, Rf, n) Q :=
  rr_putF (Y := (up_I I a f v, L, Rf, n)) hd hF hk ha hc.1 (fun q hq => ⟨Or.inl (hfin q hq).1, (hfin q hq).2⟩) (fun _ => hn) (fun _ => hfit) (fun b => mx_fs_upI hf hc.2) rfl (fun a' h => ⟨up_I_ne h, rfl, rfl⟩) kk
theorem rr_ialdF {a z : Nat} {j : Int32} (hd : op_at k pc .iaload 1 np) (hk : kO a = 6 ∧ zO a = z) (ha : a < X.2.2.2) (hin : vp_in j z) (kk : wf_W b D l k d mc ms np ls (vv_I (X.1 a j.toNatClampNeg) :: st) X Q) : wf_W b D l k d mc ms pc ls (vv_I j :: vv_A (some a) :: st) X Q := by
  intro p e R s m args below meth c H locs cells slots MC MS arr hS hR hcl hs hV hX hL
  obtain ⟨hd, rfl⟩ := hd
  obtain ⟨hk, rfl⟩ := hk
  exact va_iald hS.1 hS.2.1 hS.2.2.2.2.2.2.2.2.1.1 (mx_one hX ha (mx_ct6 hk)) 0 0 rfl rfl hin hd (kk p e R s m args below meth c H locs cells slots MC MS arr hS hR hcl hs hV hX hL)
theorem rr_laldF {a z : Nat} {j : Int32} (hd : op_at k pc .laload 1 np) (hk : kO a = 7 ∧ zO a = z) (ha : a < X.2.2.2) (hin : vp_in j z) (kk : wf_W b D l k d mc ms np ls (vv_L (X.2.1 a j.toNatClampNeg) :: st) X Q) : wf_W b D l k d mc ms pc ls (vv_I j :: vv_A (some a) :: st) X Q := by
  intro p e R s m args below meth c H locs cells slots MC MS arr hS hR hcl hs hV hX hL
  obtain ⟨hd, rfl⟩ := hd
  obtain ⟨hk, rfl⟩ := hk
  exact va_lald hS.1 hS.2.1 hS.2.2.2.2.2.2.2.2.1.1 (mx_one hX ha (mx_ct7 hk)) 0 1 rfl rfl hin hd (kk p e R s m args below meth c H locs cells slots MC MS arr hS hR hcl hs hV hX hL)
theorem rr_aaldF {a z : Nat} {j : Int32} {w : Option Nat} (hd : op_at k pc .aaload 1 np) (hk : kO a = 8 ∧ zO a = z) (ha : a < X.2.2.2) (hin : vp_in j z) (hw : X.2.2.1 a j.toNatClampNeg = w) (kk : wf_W b D l k d mc ms np ls (vv_A w :: st) X Q) : wf_W b D l k d mc ms pc ls (vv_I j :: vv_A (some a) :: st) X Q := by
  intro p e R s m args below meth c H locs cells slots MC MS arr hS hR hcl hs hV hX hL
  obtain ⟨hd, rfl⟩ := hd
  obtain ⟨hk, rfl⟩ := hk
  subst hw
  exact va_aldq hS.1 hS.2.1 hS.2.2.2.2.2.2.2.2.1.1 (mx_one hX ha (mx_ct8 hk)) 0 2 rfl rfl hin hd (kk p e R s m args below meth c H locs cells slots MC MS arr hS hR hcl hs hV hX hL)
theorem rr_alenF {a z : Nat} {v : Int32} (hd : op_at k pc .arraylength 1 np) (hk : (kO a = 6 ∨ kO a = 7 ∨ kO a = 8) ∧ zO a = z) (ha : a < X.2.2.2) (hv : Int32.ofNat z = v) (kk : wf_W b D l k d mc ms np ls (vv_I v :: st) X Q) : wf_W b D l k d mc ms pc ls (vv_A (some a) :: st) X Q := by
  intro p e R s m args below meth c H locs cells slots MC MS arr hS hR hcl hs hV hX hL
  obtain ⟨hd, rfl⟩ := hd
  obtain ⟨hk, rfl⟩ := hk
  have K2 := kk p e R s m args below meth c H locs cells slots MC MS arr hS hR hcl hs hV hX hL
  rcases hk with hk | hk | hk
  · exact va_alen hS.1 hS.2.1 hS.2.2.2.2.2.2.2.2.1.1 (mx_one hX ha (mx_ct6 hk)) 0 0 rfl rfl hv hd K2
  · exact va_alen hS.1 hS.2.1 hS.2.2.2.2.2.2.2.2.1.1 (mx_one hX ha (mx_ct7 hk)) 0 1 rfl rfl hv hd K2
  · exact va_alen hS.1 hS.2.1 hS.2.2.2.2.2.2.2.2.1.1 (mx_one hX ha (mx_ct8 hk)) 0 2 rfl rfl hv hd K2
theorem rr_iastF {a z : Nat} {j v : Int32} {I : Nat → Nat → Int32} {L : Nat → Nat → Int64} {Rf : Nat → Nat → Option Nat} {n : Nat} (hd : op_at k pc .iastore 1 np) (hk : kO a = 6 ∧ zO a = z) (ha : a < n) (hin : vp_in j z) (kk : wf_W b D l k d mc ms np ls st (up_I I a j.toNatClampNeg v, L, Rf, n) Q) : wf_W b D l k d mc ms pc ls (vv_I v :: vv_I j :: vv_A (some a) :: st) (I, L, Rf, n) Q := by
  intro p e R s m args below meth c H locs cells slots MC MS arr hS hR hcl hs hV hX hL
  obtain ⟨hd, rfl⟩ := hd
  obtain ⟨hk, rfl⟩ := hk
  have hc0 : H[b + a]? = some (vp_cell D.2.1 (zO a, .inl (I a))) := by
    have h := hX.2 a ha
    rw [mx_ct6 hk] at h
    exact h
  refine W.iast hS.1 hS.2.1 hc0 ((hS.2.2.2.2.2.2.2.2.1.1.2 0 (D.2.1, .int) rfl).1 _ (fun j => .int (I a j))) (fun q => by cases q) (by show ¬ (j < 0 ∨ (arrV _ _ _).slots.size ≤ _); rw [arrV_size]; exact hin) rfl rfl hd fun H1 e1 z1 oq => ?_
  refine kk p e R s m args below meth c H1 _ cells slots MC MS arr hS hR hcl hs (wm_vS hV z1 oq) (mx_set (Y := (up_I I a j.toNatClampNeg v, L, Rf, n)) hX rfl z1 oq ?_ (fun a' h => mx_ct_eq (up_I_ne h) rfl rfl)) hL
  rw [mx_ct6 hk]
  show H1[b + a]? = some (vp_cell _ _)
  rw [e1, vp_cell_i, vp_cell_i, arrV_store]
  congr 2
  funext q
  show _ = Value.int (up_I I a j.toNatClampNeg v a q)
  rw [up_I_eq]
  by_cases hq : q = j.toNatClampNeg
  · subst hq
    simp [updV, upd]
  · simp [updV, upd, hq]
theorem rr_lastF {a z : Nat} {j : Int32} {v : Int64} {I : Nat → Nat → Int32} {L : Nat → Nat → Int64} {Rf : Nat → Nat → Option Nat} {n : Nat} (hd : op_at k pc .lastore 1 np) (hk : kO a = 7 ∧ zO a = z) (ha : a < n) (hin : vp_in j z) (kk : wf_W b D l k d mc ms np ls st (I, up_L L a j.toNatClampNeg v, Rf, n) Q) : wf_W b D l k d mc ms pc ls (vv_L v :: vv_I j :: vv_A (some a) :: st) (I, L, Rf, n) Q := by
  intro p e R s m args below meth c H locs cells slots MC MS arr hS hR hcl hs hV hX hL
  obtain ⟨hd, rfl⟩ := hd
  obtain ⟨hk, rfl⟩ := hk
  have hc0 : H[b + a]? = some (vp_cell D.2.2.1 (zO a, .inr (.inl (L a)))) := by
    have h := hX.2 a ha
    rw [mx_ct7 hk] at h
    exact h
  refine W.last hS.1 hS.2.1 hc0 ((hS.2.2.2.2.2.2.2.2.1.1.2 1 (D.2.2.1, .long) rfl).1 _ (fun j => .long (L a j))) (fun q => by cases q) (by show ¬ (j < 0 ∨ (arrV _ _ _).slots.size ≤ _); rw [arrV_size]; exact hin) rfl rfl hd fun H1 e1 z1 oq => ?_
  refine kk p e R s m args below meth c H1 _ cells slots MC MS arr hS hR hcl hs (wm_vS hV z1 oq) (mx_set (Y := (I, up_L L a j.toNatClampNeg v, Rf, n)) hX rfl z1 oq ?_ (fun a' h => mx_ct_eq rfl (up_L_ne h) rfl)) hL
  rw [mx_ct7 hk]
  show H1[b + a]? = some (vp_cell _ _)
  rw [e1, vp_cell_l, vp_cell_l, arrV_store]
  congr 2
  funext q
  show _ = Value.long (up_L L a j.toNatClampNeg v a q)
  rw [up_L_eq]
  by_cases hq : q = j.toNatClampNeg
  · subst hq
    simp [updV, vp_updL]
  · simp [updV, vp_updL, hq]
theorem wm_callF {mc2 ms2 : Nat} {As st0 rest : List vv_T} {Q2 : Option vv_T → mx_T → Prop} {b : Nat} {D : md_T} {p : Program} {e : Env} {R : Room} {s : State} {m : MethodId} {args : Array Value} {below : List Frame} {meth : Method} {c : Code} {H : Heap} {locs : List Loc} {cells slots MC MS : Nat} {arr : Array Slot} {pc : Nat}
    (hr : va_Run p l e R s m args below meth c H locs cells slots mc2 ms2 (F0 m pc arr (st0.map (to_V b))) (rest.map (to_V b)) (wm_Q b D Q2 (As.map (to_V b)).toArray) (fun q => b ≤ q))
    (hS : wm_S k p s m args meth c b D) (hR : d ≤ R.frames ∧ 40 * d ≤ R.locals ∧ MC ≤ R.cells ∧ MS ≤ R.slots) (hc : cells + mc ≤ MC) (hs : slots + ms ≤ MS) (hV : va_S (fun q => b ≤ q) s.heap H locs) (hL : wm_L b k.2.2.1 ls arr)
    {mc1 ms1 : Nat} (h1 : mc1 + mc2 = mc) (h2 : ms1 + ms2 = ms) (kk : ∀ (r : Option vv_T) (Y : mx_T), Q2 r Y → wf_W b D l k d mc1 ms1 (pc + 3) ls (r.toList ++ rest) Y Q) :
    W p l e R s m args below meth c H locs cells slots (MQ below (wm_Q b D Q) args s MC MS (fun q => b ≤ q)) (F0 m pc arr (st0.map (to_V b))) := by
  intro T hT Xs
  obtain ⟨v, st₀, t, T', L, h0, X', hLc, e1, e2, ⟨⟨r, Y, hv, hq, hm⟩, hz, hk⟩, st⟩ := hr T hT Xs
  cases hv
  rw [h0] at hz hk
  have K2 := kk r Y hq p e R s m args below meth c T'.heap (locs ++ L) (cells + mc2) (slots + ms2) MC MS arr hS hR (by omega) (by omega)
    ⟨Nat.le_trans hV.1 (by rw [e1]; exact hz), fun q g1 g2 => by rw [e1, hk q (Nat.lt_of_lt_of_le g1 hV.1) g2]; exact hV.2.1 q g1 g2, fun q hq => by
      rcases List.mem_append.mp hq with h | h
      · exact hV.2.2 q h
      · exact hLc q h⟩ (by rw [e1]; exact hm) hL
  rw [List.map_append, show r.toList.map (to_V b) = (r.map (to_V b)).toList by cases r <;> rfl] at K2
  obtain ⟨t2, a1, b1⟩ := K2 T' rfl X'
  exact ⟨t2, st t2 a1, b1⟩
theorem rr_callVF {k2 : mm_T} {i n d2 a ci mc2 ms2 mc1 ms1 : Nat} {As st0 rest : List vv_T} {Q2 : Option vv_T → mx_T → Prop} (hd : op_at k pc (.invokevirtual i) 3 np) (hc : cl_V k k2 i n) (hM : wf_C b D l k2 d2 mc2 ms2 (vv_A (some a) :: As) X Q2) (hdd : d2 + 1 ≤ d) (hk : kO a = ci) (hci : ci < 6) (hcn : ∀ q, mCl[ci]? = some q → q.1 = k2.1.cls) (ha : a < X.2.2.2)
    (hn : As.length = n) (hst : As.reverse ++ vv_A (some a) :: rest = st0) (hW : (rest.map vv_c).sum ≤ 8) (h1 : mc1 + mc2 = mc) (h2 : ms1 + ms2 = ms) (kk : ∀ (r : Option vv_T) (Y : mx_T), Q2 r Y → wf_W b D l k d mc1 ms1 np ls (r.toList ++ rest) Y Q) : wf_W b D l k d mc ms pc ls st0 X Q := by
  subst hst
  intro p e R s m args below meth c H locs cells slots MC MS arr hS hR hcl hs hV hX hL
  obtain ⟨hd, rfl⟩ := hd
  obtain ⟨⟨c1, c2, c3, c4, c5⟩, c6, c7⟩ := hc
  have hts := hS.2.2.2.2.2.1
  obtain ⟨r, g1, cell, q1, q2, q3, -⟩ := mx_at hX hk hci ha
  have hrc := hcn r g1
  have hrec : ∃ cellB : Cell, H[b + a]? = some cellB ∧ cellB.vm.isStatics = false ∧ s.vm.findClass k2.1.cls = some cellB.cls := ⟨cell, q1, by rw [q3]; rfl, by rw [q2, ← hrc]; exact (hS.2.2.2.2.2.2.2.2.1.1.1 ci r g1).2.1⟩
  refine wm_callF (As := vv_A (some a) :: As) (rest := rest) (d := d) (k := k) (va_runV (As := As.map (to_V b)) (rest := rest.map (to_V b)) (C := k2.1.cls) ⟨hS.1, hS.2.1, hS.2.2.1, hS.2.2.2.2.1, hts⟩ (hM) ⟨callB_of n hts (gw_goodIn (k := k) c2) rfl rfl rfl (hts _ c3) (hts _ c1) c4 ⟨by show d2 + 1 ≤ _; omega, by show 8 + (k2.2.2.1 + 11) + 40 * d2 ≤ _; omega⟩, hts _ c6, hts _ c7⟩ ⟨wm_blind, hrec, wm_pre hS hV hX⟩ rfl (by rw [List.length_map]; exact hn) hL.1 ?_ (lv_room (by rw [sum_c]; exact hW)) hd ⟨by omega, by omega⟩) hS hR hcl hs hV hL h1 h2 kk
  show List.map (to_V b) (As.reverse ++ vv_A (some a) :: rest) = (As.map (to_V b)).reverse ++ _
  rw [List.map_append, List.map_reverse]
  rfl
theorem rr_callSF {k2 : mm_T} {i n d2 mc2 ms2 mc1 ms1 : Nat} {As st0 rest : List vv_T} {Q2 : Option vv_T → mx_T → Prop} (hd : op_at k pc (.invokestatic i) 3 np) (hc : cl_S k k2 i n) (hM : wf_C b D l k2 d2 mc2 ms2 As X Q2) (hdd : d2 + 1 ≤ d)
    (hn : As.length = n) (hst : As.reverse ++ rest = st0) (hW : (rest.map vv_c).sum ≤ 8) (h1 : mc1 + mc2 = mc) (h2 : ms1 + ms2 = ms) (kk : ∀ (r : Option vv_T) (Y : mx_T), Q2 r Y → wf_W b D l k d mc1 ms1 np ls (r.toList ++ rest) Y Q) : wf_W b D l k d mc ms pc ls st0 X Q := by
  subst hst
  intro p e R s m args below meth c H locs cells slots MC MS arr hS hR hcl hs hV hX hL
  obtain ⟨hd, rfl⟩ := hd
  obtain ⟨⟨c1, c2, c3, c4, c5⟩, c6⟩ := hc
  have hts := hS.2.2.2.2.2.1
  refine wm_callF (As := As) (rest := rest) (d := d) (k := k) (va_runS (As := As.map (to_V b)) (rest := rest.map (to_V b)) ⟨hS.1, hS.2.1, hS.2.2.1, hS.2.2.2.2.1, hts⟩ (hM) ⟨callB_of n hts (gw_goodIn (k := k) c2) rfl rfl rfl (hts _ c3) (hts _ c1) c4 ⟨by show d2 + 1 ≤ _; omega, by show 8 + (k2.2.2.1 + 11) + 40 * d2 ≤ _; omega⟩, hts _ c6⟩ ⟨wm_blind, wm_pre hS hV hX⟩ rfl (by rw [List.length_map]; exact hn) hL.1 ?_ (lv_room (by rw [sum_c]; exact hW)) hd ⟨by omega, by omega⟩) hS hR hcl hs hV hL h1 h2 kk
  show List.map (to_V b) (As.reverse ++ rest) = (As.map (to_V b)).reverse ++ _
  rw [List.map_append, List.map_reverse]
theorem rr_callSNF {k2 : mm_T} {i n j d2 mc2 ms2 mc1 ms1 : Nat} {As st0 rest : List vv_T} {Q2 : Option vv_T → mx_T → Prop} (hd : op_at k pc (.invokestatic i) 3 np) (hc : cl_N k k2 i n j ∧ Cond.static k2.1 ∈ GW) (hM : wf_C b D l k2 d2 mc2 ms2 As X Q2) (hdd : d2 + 1 ≤ d)
    (hn : As.length = n) (hst : As.reverse ++ rest = st0) (hW : (rest.map vv_c).sum ≤ 8) (h1 : mc1 + mc2 = mc) (h2 : ms1 + ms2 = ms) (kk : ∀ (r : Option vv_T) (Y : mx_T), Q2 r Y → wf_W b D l k d mc1 ms1 np ls (r.toList ++ rest) Y Q) : wf_W b D l k d mc ms pc ls st0 X Q := by
  subst hst
  intro p e R s m args below meth c H locs cells slots MC MS arr hS hR hcl hs hV hX hL
  obtain ⟨hd, rfl⟩ := hd
  obtain ⟨⟨⟨qn, n1, n2⟩, c2, c3, c4, c5⟩, c6⟩ := hc
  have hts := hS.2.2.2.2.2.1
  have hN := hS.2.2.2.2.2.2.2.2.1.2.1 j qn n1
  rw [n2] at hN
  refine wm_callF (As := As) (rest := rest) (d := d) (k := k) (va_runSN (As := As.map (to_V b)) (rest := rest.map (to_V b)) ⟨hS.1, hS.2.1, hS.2.2.1, hS.2.2.2.2.1, hts⟩ (hM) ⟨va_cnB n hts (gw_goodIn (k := k) c2) rfl rfl rfl hN (hts _ c3) c4 ⟨by show d2 + 1 ≤ _; omega, by show 8 + (k2.2.2.1 + 11) + 40 * d2 ≤ _; omega⟩, hts _ c6, trivial⟩ ⟨wm_blind, wm_pre hS hV hX⟩ rfl (by rw [List.length_map]; exact hn) hL.1 ?_ (lv_room (by rw [sum_c]; exact hW)) hd ⟨by omega, by omega⟩) hS hR hcl hs hV hL h1 h2 kk
  show List.map (to_V b) (As.reverse ++ rest) = (As.map (to_V b)).reverse ++ _
  rw [List.map_append, List.map_reverse]
theorem rr_callIF {k2 : mm_T} {i n d2 a mc2 ms2 mc1 ms1 : Nat} {As st0 rest : List vv_T} {Q2 : Option vv_T → mx_T → Prop} (hd : op_at k pc (.invokespecial i) 3 np) (hc : cl_B k k2 i n ∧ Cond.instanceMethod k2.1 ∈ GW ∧ k2.1.name = "<init>" ∧ k2.2.2.2 = none) (hM : wf_C b D l k2 d2 mc2 ms2 (vv_A (some a) :: As) X Q2) (hdd : d2 + 1 ≤ d)
    (hn : As.length = n) (hst : As.reverse ++ vv_A (some a) :: rest = st0) (hW : (rest.map vv_c).sum ≤ 8) (h1 : mc1 + mc2 = mc) (h2 : ms1 + ms2 = ms) (kk : ∀ (r : Option vv_T) (Y : mx_T), Q2 r Y → wf_W b D l k d mc1 ms1 np ls (r.toList ++ rest) Y Q) : wf_W b D l k d mc ms pc ls st0 X Q := by
  subst hst
  intro p e R s m args below meth c H locs cells slots MC MS arr hS hR hcl hs hV hX hL
  obtain ⟨hd, rfl⟩ := hd
  obtain ⟨⟨c1, c2, c3, c4, c5⟩, c6, c7, c8⟩ := hc
  have hts := hS.2.2.2.2.2.1
  refine wm_callF (As := vv_A (some a) :: As) (rest := rest) (d := d) (k := k) (va_runI (As := As.map (to_V b)) (rest := rest.map (to_V b)) (b := b + a) ⟨hS.1, hS.2.1, hS.2.2.1, hS.2.2.2.2.1, hts⟩ (hM) ⟨callB_of (ret := none) n hts (gw_goodIn (k := k) c2) (by rw [c8]) rfl rfl (hts _ c3) (hts _ c1) c4 ⟨by show d2 + 1 ≤ _; omega, by show 8 + (k2.2.2.1 + 11) + 40 * d2 ≤ _; omega⟩, c7, hts _ c6⟩ ⟨wm_blind, wm_pre hS hV hX⟩ rfl (by rw [List.length_map]; exact hn) hL.1 ?_ (lv_room (by rw [sum_c]; exact hW)) hd ⟨by omega, by omega⟩) hS hR hcl hs hV hL h1 h2 kk
  show List.map (to_V b) (As.reverse ++ vv_A (some a) :: rest) = (As.map (to_V b)).reverse ++ _
  rw [List.map_append, List.map_reverse]
  rfl
end RR
section RE
variable {b : Nat} {D : md_T} {l : Launch} {k : mm_T} {d mc ms pc np : Nat} {ls st : List vv_T} {Q : Option vv_T → mx_T → Prop} {I : Nat → Nat → Int32} {L : Nat → Nat → Int64} {Rf : Nat → Nat → Option Nat} {n : Nat} {X : mx_T}
theorem rr_giF {i ci f a : Nat} (hd : op_at k pc (.getfield i) 3 np) (hF : fl_T k i ci f) (hk : kO a = ci) (ha : a < n) (hc : ci < 6 ∧ mx_isR ci f = false) (kk : wf_W b D l k d mc ms np ls (vv_I (I a f) :: st) (I, L, Rf, n) Q) : wf_W b D l k d mc ms pc ls (vv_A (some a) :: st) (I, L, Rf, n) Q := rr_getiF hd hF hk ha hc kk
theorem rr_grF {i ci f a v : Nat} (hd : op_at k pc (.getfield i) 3 np) (hF : fl_T k i ci f) (hk : kO a = ci) (ha : a < n) (hc : ci < 6 ∧ mx_isR ci f = true) (hr : Rf a f = some v) (kk : wf_W b D l k d mc ms np ls (vv_A (some v) :: st) (I, L, Rf, n) Q) : wf_W b D l k d mc ms pc ls (vv_A (some a) :: st) (I, L, Rf, n) Q := rr_getrF hd hF hk ha hc hr kk
theorem rr_piF {i ci f a : Nat} {v : Int32} {ty : FieldType} (hd : op_at k pc (.putfield i) 3 np) (hF : fl_T k i ci f) (hk : kO a = ci) (ha : a < n) (hc : ci < 6 ∧ mx_isR ci f = false ∧ f < mx_N ci)
    (hfin : ∀ q : vw_C, mCl[ci]? = some q → (q.2.1 f).2.2.2 = false ∧ parseFieldDescriptor (q.2.1 f).2.2.1 = some ty) (hn : narrow ty (.int v) = .int v ∧ fits ty (.int v) = true) (kk : wf_W b D l k d mc ms np ls st (up_I I a f v, L, Rf, n) Q) : wf_W b D l k d mc ms pc ls (vv_I v :: vv_A (some a) :: st) (I, L, Rf, n) Q :=
  rr_putiF hd hF hk ha ⟨hc.1, hc.2.1⟩ hfin hn.1 hn.2 hc.2.2 kk
theorem rr_ildF {a z t : Nat} {j : Int32} (hd : op_at k pc .iaload 1 np) (hk : kO a = 6 ∧ zO a = z) (ha : a < n) (hj : j = nI t) (ht : t < z) (hz : z ≤ 65536) (kk : wf_W b D l k d mc ms np ls (vv_I (I a t) :: st) (I, L, Rf, n) Q) : wf_W b D l k d mc ms pc ls (vv_I j :: vv_A (some a) :: st) (I, L, Rf, n) Q := by
  subst hj
  refine rr_ialdF hd hk ha (vp_in_nI ht (by omega)) ?_
  rw [nI_clamp (by omega)]
  exact kk
theorem rr_lldF {a z t : Nat} {j : Int32} (hd : op_at k pc .laload 1 np) (hk : kO a = 7 ∧ zO a = z) (ha : a < n) (hj : j = nI t) (ht : t < z) (hz : z ≤ 65536) (kk : wf_W b D l k d mc ms np ls (vv_L (L a t) :: st) (I, L, Rf, n) Q) : wf_W b D l k d mc ms pc ls (vv_I j :: vv_A (some a) :: st) (I, L, Rf, n) Q := by
  subst hj
  refine rr_laldF hd hk ha (vp_in_nI ht (by omega)) ?_
  rw [nI_clamp (by omega)]
  exact kk
theorem rr_aldF {a z t v : Nat} {j : Int32} (hd : op_at k pc .aaload 1 np) (hk : kO a = 8 ∧ zO a = z) (ha : a < n) (hj : j = nI t) (ht : t < z) (hz : z ≤ 65536) (hw : Rf a t = some v) (kk : wf_W b D l k d mc ms np ls (vv_A (some v) :: st) (I, L, Rf, n) Q) : wf_W b D l k d mc ms pc ls (vv_I j :: vv_A (some a) :: st) (I, L, Rf, n) Q := by
  subst hj
  exact rr_aaldF (w := some v) hd hk ha (vp_in_nI ht (by omega)) (by rw [nI_clamp (by omega)]; exact hw) kk
theorem rr_istF {a z t : Nat} {j v : Int32} (hd : op_at k pc .iastore 1 np) (hk : kO a = 6 ∧ zO a = z) (ha : a < n) (hj : j = nI t) (ht : t < z) (hz : z ≤ 65536) (kk : wf_W b D l k d mc ms np ls st (up_I I a t v, L, Rf, n) Q) : wf_W b D l k d mc ms pc ls (vv_I v :: vv_I j :: vv_A (some a) :: st) (I, L, Rf, n) Q := by
  subst hj
  refine rr_iastF hd hk ha (vp_in_nI ht (by omega)) ?_
  rw [nI_clamp (by omega)]
  exact kk
theorem rr_lstF {a z t : Nat} {j : Int32} {v : Int64} (hd : op_at k pc .lastore 1 np) (hk : kO a = 7 ∧ zO a = z) (ha : a < n) (hj : j = nI t) (ht : t < z) (hz : z ≤ 65536) (kk : wf_W b D l k d mc ms np ls st (I, up_L L a t v, Rf, n) Q) : wf_W b D l k d mc ms pc ls (vv_L v :: vv_I j :: vv_A (some a) :: st) (I, L, Rf, n) Q := by
  subst hj
  refine rr_lastF hd hk ha (vp_in_nI ht (by omega)) ?_
  rw [nI_clamp (by omega)]
  exact kk
theorem rr_ifb_eqF {P : Prop} [Decidable P] {off : Int} {tgt : Nat} (hd : op_at k pc (.ifCond .eq off) 3 np) (ht : (pc : Int) + off = (tgt : Int)) (kt : ¬ P → wf_W b D l k d mc ms tgt ls st X Q) (kf : P → wf_W b D l k d mc ms np ls st X Q) : wf_W b D l k d mc ms pc ls (vv_I (bI P) :: st) X Q :=
  rr_if_eqF hd ht (fun h => kt (bI_0.mp h)) (fun h => kf (Classical.byContradiction fun q => h (bI_0.mpr q)))
theorem rr_ifb_neF {P : Prop} [Decidable P] {off : Int} {tgt : Nat} (hd : op_at k pc (.ifCond .ne off) 3 np) (ht : (pc : Int) + off = (tgt : Int)) (kt : P → wf_W b D l k d mc ms tgt ls st X Q) (kf : ¬ P → wf_W b D l k d mc ms np ls st X Q) : wf_W b D l k d mc ms pc ls (vv_I (bI P) :: st) X Q :=
  rr_if_neF hd ht (fun h => kt (Classical.byContradiction fun q => h (bI_0.mpr q))) (fun h => kf (bI_0.mp h))
theorem rr_cViF {k2 : mm_T} {i m d2 a ci : Nat} {As st0 rest : List vv_T} {v : Int32} {Y : mx_T} (hM : wf_C b D l k2 d2 0 0 (vv_A (some a) :: As) X (q_i v Y)) (hd : op_at k pc (.invokevirtual i) 3 np) (hc : cl_V k k2 i m) (hdd : d2 + 1 ≤ d) (hk : kO a = ci) (hci : ci < 6) (hcn : ∀ q, mCl[ci]? = some q → q.1 = k2.1.cls) (ha : a < X.2.2.2)
    (hn : As.length = m) (hst : As.reverse ++ vv_A (some a) :: rest = st0) (hW : (rest.map vv_c).sum ≤ 8) (kk : wf_W b D l k d mc ms np ls (vv_I v :: rest) Y Q) : wf_W b D l k d mc ms pc ls st0 X Q :=
  rr_callVF hd hc hM hdd hk hci hcn ha hn hst hW rfl rfl (fun r Z h => by obtain ⟨rfl, rfl⟩ := h; exact kk)
theorem rr_cVlF {k2 : mm_T} {i m d2 a ci : Nat} {As st0 rest : List vv_T} {v : Int64} {Y : mx_T} (hM : wf_C b D l k2 d2 0 0 (vv_A (some a) :: As) X (q_l v Y)) (hd : op_at k pc (.invokevirtual i) 3 np) (hc : cl_V k k2 i m) (hdd : d2 + 1 ≤ d) (hk : kO a = ci) (hci : ci < 6) (hcn : ∀ q, mCl[ci]? = some q → q.1 = k2.1.cls) (ha : a < X.2.2.2)
    (hn : As.length = m) (hst : As.reverse ++ vv_A (some a) :: rest = st0) (hW : (rest.map vv_c).sum ≤ 8) (kk : wf_W b D l k d mc ms np ls (vv_L v :: rest) Y Q) : wf_W b D l k d mc ms pc ls st0 X Q :=
  rr_callVF hd hc hM hdd hk hci hcn ha hn hst hW rfl rfl (fun r Z h => by obtain ⟨rfl, rfl⟩ := h; exact kk)
theorem rr_cVvF {k2 : mm_T} {i m d2 a ci : Nat} {As st0 rest : List vv_T} {Y : mx_T} (hM : wf_C b D l k2 d2 0 0 (vv_A (some a) :: As) X (q_v Y)) (hd : op_at k pc (.invokevirtual i) 3 np) (hc : cl_V k k2 i m) (hdd : d2 + 1 ≤ d) (hk : kO a = ci) (hci : ci < 6) (hcn : ∀ q, mCl[ci]? = some q → q.1 = k2.1.cls) (ha : a < X.2.2.2)
    (hn : As.length = m) (hst : As.reverse ++ vv_A (some a) :: rest = st0) (hW : (rest.map vv_c).sum ≤ 8) (kk : wf_W b D l k d mc ms np ls rest Y Q) : wf_W b D l k d mc ms pc ls st0 X Q :=
  rr_callVF hd hc hM hdd hk hci hcn ha hn hst hW rfl rfl (fun r Z h => by obtain ⟨rfl, rfl⟩ := h; exact kk)
theorem rr_cVIF {k2 : mm_T} {i m d2 a ci : Nat} {As st0 rest : List vv_T} {P : Int32 → mx_T → Prop} (hM : wf_C b D l k2 d2 0 0 (vv_A (some a) :: As) X (q_I P)) (hd : op_at k pc (.invokevirtual i) 3 np) (hc : cl_V k k2 i m) (hdd : d2 + 1 ≤ d) (hk : kO a = ci) (hci : ci < 6) (hcn : ∀ q, mCl[ci]? = some q → q.1 = k2.1.cls) (ha : a < X.2.2.2)
    (hn : As.length = m) (hst : As.reverse ++ vv_A (some a) :: rest = st0) (hW : (rest.map vv_c).sum ≤ 8) (kk : ∀ (v : Int32) (I2 : Nat → Nat → Int32) (L2 : Nat → Nat → Int64) (R2 : Nat → Nat → Option Nat) (n2 : Nat), P v (I2, L2, R2, n2) → wf_W b D l k d mc ms np ls (vv_I v :: rest) (I2, L2, R2, n2) Q) : wf_W b D l k d mc ms pc ls st0 X Q :=
  rr_callVF hd hc hM hdd hk hci hcn ha hn hst hW rfl rfl (fun r Z h => by obtain ⟨v, rfl, h2⟩ := h; exact kk v Z.1 Z.2.1 Z.2.2.1 Z.2.2.2 h2)
theorem rr_cVVF {k2 : mm_T} {i m d2 a ci : Nat} {As st0 rest : List vv_T} {P : mx_T → Prop} (hM : wf_C b D l k2 d2 0 0 (vv_A (some a) :: As) X (q_V P)) (hd : op_at k pc (.invokevirtual i) 3 np) (hc : cl_V k k2 i m) (hdd : d2 + 1 ≤ d) (hk : kO a = ci) (hci : ci < 6) (hcn : ∀ q, mCl[ci]? = some q → q.1 = k2.1.cls) (ha : a < X.2.2.2)
    (hn : As.length = m) (hst : As.reverse ++ vv_A (some a) :: rest = st0) (hW : (rest.map vv_c).sum ≤ 8) (kk : ∀ (I2 : Nat → Nat → Int32) (L2 : Nat → Nat → Int64) (R2 : Nat → Nat → Option Nat) (n2 : Nat), P (I2, L2, R2, n2) → wf_W b D l k d mc ms np ls rest (I2, L2, R2, n2) Q) : wf_W b D l k d mc ms pc ls st0 X Q :=
  rr_callVF hd hc hM hdd hk hci hcn ha hn hst hW rfl rfl (fun r Z h => by obtain ⟨rfl, h2⟩ := h; exact kk Z.1 Z.2.1 Z.2.2.1 Z.2.2.2 h2)
theorem rr_cSiF {k2 : mm_T} {i m d2 : Nat} {As st0 rest : List vv_T} {v : Int32} {Y : mx_T} (hM : wf_C b D l k2 d2 0 0 As X (q_i v Y)) (hd : op_at k pc (.invokestatic i) 3 np) (hc : cl_S k k2 i m) (hdd : d2 + 1 ≤ d)
    (hn : As.length = m) (hst : As.reverse ++ rest = st0) (hW : (rest.map vv_c).sum ≤ 8) (kk : wf_W b D l k d mc ms np ls (vv_I v :: rest) Y Q) : wf_W b D l k d mc ms pc ls st0 X Q :=
  rr_callSF hd hc hM hdd hn hst hW rfl rfl (fun r Z h => by obtain ⟨rfl, rfl⟩ := h; exact kk)
theorem rr_cSeF {k2 : mm_T} {i m d2 : Nat} {As st0 rest : List vv_T} {v : Nat} {Y : mx_T} (hM : wf_C b D l k2 d2 0 0 As X (q_e v Y)) (hd : op_at k pc (.invokestatic i) 3 np) (hc : cl_S k k2 i m) (hdd : d2 + 1 ≤ d)
    (hn : As.length = m) (hst : As.reverse ++ rest = st0) (hW : (rest.map vv_c).sum ≤ 8) (kk : wf_W b D l k d mc ms np ls (vv_E v :: rest) Y Q) : wf_W b D l k d mc ms pc ls st0 X Q :=
  rr_callSF hd hc hM hdd hn hst hW rfl rfl (fun r Z h => by obtain ⟨rfl, rfl⟩ := h; exact kk)
theorem rr_cSNiF {k2 : mm_T} {i m j d2 : Nat} {As st0 rest : List vv_T} {v : Int32} {Y : mx_T} (hM : wf_C b D l k2 d2 0 0 As X (q_i v Y)) (hd : op_at k pc (.invokestatic i) 3 np) (hc : cl_N k k2 i m j ∧ Cond.static k2.1 ∈ GW) (hdd : d2 + 1 ≤ d)
    (hn : As.length = m) (hst : As.reverse ++ rest = st0) (hW : (rest.map vv_c).sum ≤ 8) (kk : wf_W b D l k d mc ms np ls (vv_I v :: rest) Y Q) : wf_W b D l k d mc ms pc ls st0 X Q :=
  rr_callSNF hd hc hM hdd hn hst hW rfl rfl (fun r Z h => by obtain ⟨rfl, rfl⟩ := h; exact kk)
end RE
section RP
variable {b : Nat} {D : md_T} {l : Launch} {k : mm_T} {d mc ms pc np : Nat} {st : List vv_T} {X : mx_T} {Q : Option vv_T → mx_T → Prop}
theorem ri_0F {t : List vv_T} {y : Int32} (hd : op_at k pc (.iload_n 0) 1 np) (kk : wf_W b D l k d mc ms np (vv_I y :: t) (vv_I y :: st) X Q) : wf_W b D l k d mc ms pc (vv_I y :: t) st X Q := rr_iload_nF hd rfl rfl kk
theorem ri_1F {x0 : vv_T} {t : List vv_T} {y : Int32} (hd : op_at k pc (.iload_n 1) 1 np) (kk : wf_W b D l k d mc ms np (x0 :: vv_I y :: t) (vv_I y :: st) X Q) : wf_W b D l k d mc ms pc (x0 :: vv_I y :: t) st X Q := rr_iload_nF hd rfl rfl kk
theorem ri_2F {x0 x1 : vv_T} {t : List vv_T} {y : Int32} (hd : op_at k pc (.iload_n 2) 1 np) (kk : wf_W b D l k d mc ms np (x0 :: x1 :: vv_I y :: t) (vv_I y :: st) X Q) : wf_W b D l k d mc ms pc (x0 :: x1 :: vv_I y :: t) st X Q := rr_iload_nF hd rfl rfl kk
theorem ri_3F {x0 x1 x2 : vv_T} {t : List vv_T} {y : Int32} (hd : op_at k pc (.iload_n 3) 1 np) (kk : wf_W b D l k d mc ms np (x0 :: x1 :: x2 :: vv_I y :: t) (vv_I y :: st) X Q) : wf_W b D l k d mc ms pc (x0 :: x1 :: x2 :: vv_I y :: t) st X Q := rr_iload_nF hd rfl rfl kk
theorem ri_4F {x0 x1 x2 x3 : vv_T} {t : List vv_T} {y : Int32} (hd : op_at k pc (.iload 4) 2 np) (kk : wf_W b D l k d mc ms np (x0 :: x1 :: x2 :: x3 :: vv_I y :: t) (vv_I y :: st) X Q) : wf_W b D l k d mc ms pc (x0 :: x1 :: x2 :: x3 :: vv_I y :: t) st X Q := rr_iloadF hd rfl kk
theorem ri_5F {x0 x1 x2 x3 x4 : vv_T} {t : List vv_T} {y : Int32} (hd : op_at k pc (.iload 5) 2 np) (kk : wf_W b D l k d mc ms np (x0 :: x1 :: x2 :: x3 :: x4 :: vv_I y :: t) (vv_I y :: st) X Q) : wf_W b D l k d mc ms pc (x0 :: x1 :: x2 :: x3 :: x4 :: vv_I y :: t) st X Q := rr_iloadF hd rfl kk
theorem ri_6F {x0 x1 x2 x3 x4 x5 : vv_T} {t : List vv_T} {y : Int32} (hd : op_at k pc (.iload 6) 2 np) (kk : wf_W b D l k d mc ms np (x0 :: x1 :: x2 :: x3 :: x4 :: x5 :: vv_I y :: t) (vv_I y :: st) X Q) : wf_W b D l k d mc ms pc (x0 :: x1 :: x2 :: x3 :: x4 :: x5 :: vv_I y :: t) st X Q := rr_iloadF hd rfl kk
theorem ri_7F {x0 x1 x2 x3 x4 x5 x6 : vv_T} {t : List vv_T} {y : Int32} (hd : op_at k pc (.iload 7) 2 np) (kk : wf_W b D l k d mc ms np (x0 :: x1 :: x2 :: x3 :: x4 :: x5 :: x6 :: vv_I y :: t) (vv_I y :: st) X Q) : wf_W b D l k d mc ms pc (x0 :: x1 :: x2 :: x3 :: x4 :: x5 :: x6 :: vv_I y :: t) st X Q := rr_iloadF hd rfl kk
theorem ri_8F {x0 x1 x2 x3 x4 x5 x6 x7 : vv_T} {t : List vv_T} {y : Int32} (hd : op_at k pc (.iload 8) 2 np) (kk : wf_W b D l k d mc ms np (x0 :: x1 :: x2 :: x3 :: x4 :: x5 :: x6 :: x7 :: vv_I y :: t) (vv_I y :: st) X Q) : wf_W b D l k d mc ms pc (x0 :: x1 :: x2 :: x3 :: x4 :: x5 :: x6 :: x7 :: vv_I y :: t) st X Q := rr_iloadF hd rfl kk
theorem ri_9F {x0 x1 x2 x3 x4 x5 x6 x7 x8 : vv_T} {t : List vv_T} {y : Int32} (hd : op_at k pc (.iload 9) 2 np) (kk : wf_W b D l k d mc ms np (x0 :: x1 :: x2 :: x3 :: x4 :: x5 :: x6 :: x7 :: x8 :: vv_I y :: t) (vv_I y :: st) X Q) : wf_W b D l k d mc ms pc (x0 :: x1 :: x2 :: x3 :: x4 :: x5 :: x6 :: x7 :: x8 :: vv_I y :: t) st X Q := rr_iloadF hd rfl kk
theorem ri_10F {x0 x1 x2 x3 x4 x5 x6 x7 x8 x9 : vv_T} {t : List vv_T} {y : Int32} (hd : op_at k pc (.iload 10) 2 np) (kk : wf_W b D l k d mc ms np (x0 :: x1 :: x2 :: x3 :: x4 :: x5 :: x6 :: x7 :: x8 :: x9 :: vv_I y :: t) (vv_I y :: st) X Q) : wf_W b D l k d mc ms pc (x0 :: x1 :: x2 :: x3 :: x4 :: x5 :: x6 :: x7 :: x8 :: x9 :: vv_I y :: t) st X Q := rr_iloadF hd rfl kk
theorem ra_0F {t : List vv_T} {y : Nat} (hd : op_at k pc (.aload_n 0) 1 np) (kk : wf_W b D l k d mc ms np (vv_A (some y) :: t) (vv_A (some y) :: st) X Q) : wf_W b D l k d mc ms pc (vv_A (some y) :: t) st X Q := rr_aload_nF hd rfl rfl kk
theorem re_0F {t : List vv_T} {y : Nat} (hd : op_at k pc (.aload_n 0) 1 np) (kk : wf_W b D l k d mc ms np (vv_E y :: t) (vv_E y :: st) X Q) : wf_W b D l k d mc ms pc (vv_E y :: t) st X Q := rr_aload_nEF hd rfl rfl kk
theorem ra_1F {x0 : vv_T} {t : List vv_T} {y : Nat} (hd : op_at k pc (.aload_n 1) 1 np) (kk : wf_W b D l k d mc ms np (x0 :: vv_A (some y) :: t) (vv_A (some y) :: st) X Q) : wf_W b D l k d mc ms pc (x0 :: vv_A (some y) :: t) st X Q := rr_aload_nF hd rfl rfl kk
theorem re_1F {x0 : vv_T} {t : List vv_T} {y : Nat} (hd : op_at k pc (.aload_n 1) 1 np) (kk : wf_W b D l k d mc ms np (x0 :: vv_E y :: t) (vv_E y :: st) X Q) : wf_W b D l k d mc ms pc (x0 :: vv_E y :: t) st X Q := rr_aload_nEF hd rfl rfl kk
theorem ra_2F {x0 x1 : vv_T} {t : List vv_T} {y : Nat} (hd : op_at k pc (.aload_n 2) 1 np) (kk : wf_W b D l k d mc ms np (x0 :: x1 :: vv_A (some y) :: t) (vv_A (some y) :: st) X Q) : wf_W b D l k d mc ms pc (x0 :: x1 :: vv_A (some y) :: t) st X Q := rr_aload_nF hd rfl rfl kk
theorem re_2F {x0 x1 : vv_T} {t : List vv_T} {y : Nat} (hd : op_at k pc (.aload_n 2) 1 np) (kk : wf_W b D l k d mc ms np (x0 :: x1 :: vv_E y :: t) (vv_E y :: st) X Q) : wf_W b D l k d mc ms pc (x0 :: x1 :: vv_E y :: t) st X Q := rr_aload_nEF hd rfl rfl kk
theorem ra_3F {x0 x1 x2 : vv_T} {t : List vv_T} {y : Nat} (hd : op_at k pc (.aload_n 3) 1 np) (kk : wf_W b D l k d mc ms np (x0 :: x1 :: x2 :: vv_A (some y) :: t) (vv_A (some y) :: st) X Q) : wf_W b D l k d mc ms pc (x0 :: x1 :: x2 :: vv_A (some y) :: t) st X Q := rr_aload_nF hd rfl rfl kk
theorem re_3F {x0 x1 x2 : vv_T} {t : List vv_T} {y : Nat} (hd : op_at k pc (.aload_n 3) 1 np) (kk : wf_W b D l k d mc ms np (x0 :: x1 :: x2 :: vv_E y :: t) (vv_E y :: st) X Q) : wf_W b D l k d mc ms pc (x0 :: x1 :: x2 :: vv_E y :: t) st X Q := rr_aload_nEF hd rfl rfl kk
theorem rl_2F {x0 x1 : vv_T} {t : List vv_T} {y : Int64} (hd : op_at k pc (.lload_n 2) 1 np) (kk : wf_W b D l k d mc ms np (x0 :: x1 :: vv_L y :: t) (vv_L y :: st) X Q) : wf_W b D l k d mc ms pc (x0 :: x1 :: vv_L y :: t) st X Q := rr_lload_nF hd rfl rfl kk
theorem rl_3F {x0 x1 x2 : vv_T} {t : List vv_T} {y : Int64} (hd : op_at k pc (.lload_n 3) 1 np) (kk : wf_W b D l k d mc ms np (x0 :: x1 :: x2 :: vv_L y :: t) (vv_L y :: st) X Q) : wf_W b D l k d mc ms pc (x0 :: x1 :: x2 :: vv_L y :: t) st X Q := rr_lload_nF hd rfl rfl kk
theorem si_0F {t : List vv_T} {w : vv_T} {y : Int32} (hd : op_at k pc (.istore_n 0) 1 np) (hn : Nat.blt 0 k.2.2.1 = true) (ho : ls_ok (w :: t) 0 = true) (kk : wf_W b D l k d mc ms np (vv_I y :: t) st X Q) : wf_W b D l k d mc ms pc (w :: t) (vv_I y :: st) X Q := rr_istore_nF hd rfl (by simp only [List.length_cons]; omega) (Nat.le_of_ble_eq_true hn) ho rfl kk
theorem si_1F {x0 : vv_T} {t : List vv_T} {w : vv_T} {y : Int32} (hd : op_at k pc (.istore_n 1) 1 np) (hn : Nat.blt 1 k.2.2.1 = true) (ho : ls_ok (x0 :: w :: t) 1 = true) (kk : wf_W b D l k d mc ms np (x0 :: vv_I y :: t) st X Q) : wf_W b D l k d mc ms pc (x0 :: w :: t) (vv_I y :: st) X Q := rr_istore_nF hd rfl (by simp only [List.length_cons]; omega) (Nat.le_of_ble_eq_true hn) ho rfl kk
theorem si_2F {x0 x1 : vv_T} {t : List vv_T} {w : vv_T} {y : Int32} (hd : op_at k pc (.istore_n 2) 1 np) (hn : Nat.blt 2 k.2.2.1 = true) (ho : ls_ok (x0 :: x1 :: w :: t) 2 = true) (kk : wf_W b D l k d mc ms np (x0 :: x1 :: vv_I y :: t) st X Q) : wf_W b D l k d mc ms pc (x0 :: x1 :: w :: t) (vv_I y :: st) X Q := rr_istore_nF hd rfl (by simp only [List.length_cons]; omega) (Nat.le_of_ble_eq_true hn) ho rfl kk
theorem si_3F {x0 x1 x2 : vv_T} {t : List vv_T} {w : vv_T} {y : Int32} (hd : op_at k pc (.istore_n 3) 1 np) (hn : Nat.blt 3 k.2.2.1 = true) (ho : ls_ok (x0 :: x1 :: x2 :: w :: t) 3 = true) (kk : wf_W b D l k d mc ms np (x0 :: x1 :: x2 :: vv_I y :: t) st X Q) : wf_W b D l k d mc ms pc (x0 :: x1 :: x2 :: w :: t) (vv_I y :: st) X Q := rr_istore_nF hd rfl (by simp only [List.length_cons]; omega) (Nat.le_of_ble_eq_true hn) ho rfl kk
theorem si_4F {x0 x1 x2 x3 : vv_T} {t : List vv_T} {w : vv_T} {y : Int32} (hd : op_at k pc (.istore 4) 2 np) (hn : Nat.blt 4 k.2.2.1 = true) (ho : ls_ok (x0 :: x1 :: x2 :: x3 :: w :: t) 4 = true) (kk : wf_W b D l k d mc ms np (x0 :: x1 :: x2 :: x3 :: vv_I y :: t) st X Q) : wf_W b D l k d mc ms pc (x0 :: x1 :: x2 :: x3 :: w :: t) (vv_I y :: st) X Q := rr_istoreF hd (by simp only [List.length_cons]; omega) (Nat.le_of_ble_eq_true hn) ho rfl kk
theorem si_5F {x0 x1 x2 x3 x4 : vv_T} {t : List vv_T} {w : vv_T} {y : Int32} (hd : op_at k pc (.istore 5) 2 np) (hn : Nat.blt 5 k.2.2.1 = true) (ho : ls_ok (x0 :: x1 :: x2 :: x3 :: x4 :: w :: t) 5 = true) (kk : wf_W b D l k d mc ms np (x0 :: x1 :: x2 :: x3 :: x4 :: vv_I y :: t) st X Q) : wf_W b D l k d mc ms pc (x0 :: x1 :: x2 :: x3 :: x4 :: w :: t) (vv_I y :: st) X Q := rr_istoreF hd (by simp only [List.length_cons]; omega) (Nat.le_of_ble_eq_true hn) ho rfl kk
theorem si_6F {x0 x1 x2 x3 x4 x5 : vv_T} {t : List vv_T} {w : vv_T} {y : Int32} (hd : op_at k pc (.istore 6) 2 np) (hn : Nat.blt 6 k.2.2.1 = true) (ho : ls_ok (x0 :: x1 :: x2 :: x3 :: x4 :: x5 :: w :: t) 6 = true) (kk : wf_W b D l k d mc ms np (x0 :: x1 :: x2 :: x3 :: x4 :: x5 :: vv_I y :: t) st X Q) : wf_W b D l k d mc ms pc (x0 :: x1 :: x2 :: x3 :: x4 :: x5 :: w :: t) (vv_I y :: st) X Q := rr_istoreF hd (by simp only [List.length_cons]; omega) (Nat.le_of_ble_eq_true hn) ho rfl kk
theorem si_7F {x0 x1 x2 x3 x4 x5 x6 : vv_T} {t : List vv_T} {w : vv_T} {y : Int32} (hd : op_at k pc (.istore 7) 2 np) (hn : Nat.blt 7 k.2.2.1 = true) (ho : ls_ok (x0 :: x1 :: x2 :: x3 :: x4 :: x5 :: x6 :: w :: t) 7 = true) (kk : wf_W b D l k d mc ms np (x0 :: x1 :: x2 :: x3 :: x4 :: x5 :: x6 :: vv_I y :: t) st X Q) : wf_W b D l k d mc ms pc (x0 :: x1 :: x2 :: x3 :: x4 :: x5 :: x6 :: w :: t) (vv_I y :: st) X Q := rr_istoreF hd (by simp only [List.length_cons]; omega) (Nat.le_of_ble_eq_true hn) ho rfl kk
theorem si_8F {x0 x1 x2 x3 x4 x5 x6 x7 : vv_T} {t : List vv_T} {w : vv_T} {y : Int32} (hd : op_at k pc (.istore 8) 2 np) (hn : Nat.blt 8 k.2.2.1 = true) (ho : ls_ok (x0 :: x1 :: x2 :: x3 :: x4 :: x5 :: x6 :: x7 :: w :: t) 8 = true) (kk : wf_W b D l k d mc ms np (x0 :: x1 :: x2 :: x3 :: x4 :: x5 :: x6 :: x7 :: vv_I y :: t) st X Q) : wf_W b D l k d mc ms pc (x0 :: x1 :: x2 :: x3 :: x4 :: x5 :: x6 :: x7 :: w :: t) (vv_I y :: st) X Q := rr_istoreF hd (by simp only [List.length_cons]; omega) (Nat.le_of_ble_eq_true hn) ho rfl kk
theorem si_9F {x0 x1 x2 x3 x4 x5 x6 x7 x8 : vv_T} {t : List vv_T} {w : vv_T} {y : Int32} (hd : op_at k pc (.istore 9) 2 np) (hn : Nat.blt 9 k.2.2.1 = true) (ho : ls_ok (x0 :: x1 :: x2 :: x3 :: x4 :: x5 :: x6 :: x7 :: x8 :: w :: t) 9 = true) (kk : wf_W b D l k d mc ms np (x0 :: x1 :: x2 :: x3 :: x4 :: x5 :: x6 :: x7 :: x8 :: vv_I y :: t) st X Q) : wf_W b D l k d mc ms pc (x0 :: x1 :: x2 :: x3 :: x4 :: x5 :: x6 :: x7 :: x8 :: w :: t) (vv_I y :: st) X Q := rr_istoreF hd (by simp only [List.length_cons]; omega) (Nat.le_of_ble_eq_true hn) ho rfl kk
theorem si_10F {x0 x1 x2 x3 x4 x5 x6 x7 x8 x9 : vv_T} {t : List vv_T} {w : vv_T} {y : Int32} (hd : op_at k pc (.istore 10) 2 np) (hn : Nat.blt 10 k.2.2.1 = true) (ho : ls_ok (x0 :: x1 :: x2 :: x3 :: x4 :: x5 :: x6 :: x7 :: x8 :: x9 :: w :: t) 10 = true) (kk : wf_W b D l k d mc ms np (x0 :: x1 :: x2 :: x3 :: x4 :: x5 :: x6 :: x7 :: x8 :: x9 :: vv_I y :: t) st X Q) : wf_W b D l k d mc ms pc (x0 :: x1 :: x2 :: x3 :: x4 :: x5 :: x6 :: x7 :: x8 :: x9 :: w :: t) (vv_I y :: st) X Q := rr_istoreF hd (by simp only [List.length_cons]; omega) (Nat.le_of_ble_eq_true hn) ho rfl kk
theorem sa_1F {x0 : vv_T} {t : List vv_T} {w : vv_T} {y : Nat} (hd : op_at k pc (.astore_n 1) 1 np) (hn : Nat.blt 1 k.2.2.1 = true) (ho : ls_ok (x0 :: w :: t) 1 = true) (kk : wf_W b D l k d mc ms np (x0 :: vv_A (some y) :: t) st X Q) : wf_W b D l k d mc ms pc (x0 :: w :: t) (vv_A (some y) :: st) X Q := rr_astore_nF hd rfl (by simp only [List.length_cons]; omega) (Nat.le_of_ble_eq_true hn) ho rfl kk
theorem se_1F {x0 : vv_T} {t : List vv_T} {w : vv_T} {y : Nat} (hd : op_at k pc (.astore_n 1) 1 np) (hn : Nat.blt 1 k.2.2.1 = true) (ho : ls_ok (x0 :: w :: t) 1 = true) (kk : wf_W b D l k d mc ms np (x0 :: vv_E y :: t) st X Q) : wf_W b D l k d mc ms pc (x0 :: w :: t) (vv_E y :: st) X Q := rr_astore_nEF hd rfl (by simp only [List.length_cons]; omega) (Nat.le_of_ble_eq_true hn) ho rfl kk
theorem sa_2F {x0 x1 : vv_T} {t : List vv_T} {w : vv_T} {y : Nat} (hd : op_at k pc (.astore_n 2) 1 np) (hn : Nat.blt 2 k.2.2.1 = true) (ho : ls_ok (x0 :: x1 :: w :: t) 2 = true) (kk : wf_W b D l k d mc ms np (x0 :: x1 :: vv_A (some y) :: t) st X Q) : wf_W b D l k d mc ms pc (x0 :: x1 :: w :: t) (vv_A (some y) :: st) X Q := rr_astore_nF hd rfl (by simp only [List.length_cons]; omega) (Nat.le_of_ble_eq_true hn) ho rfl kk
theorem se_2F {x0 x1 : vv_T} {t : List vv_T} {w : vv_T} {y : Nat} (hd : op_at k pc (.astore_n 2) 1 np) (hn : Nat.blt 2 k.2.2.1 = true) (ho : ls_ok (x0 :: x1 :: w :: t) 2 = true) (kk : wf_W b D l k d mc ms np (x0 :: x1 :: vv_E y :: t) st X Q) : wf_W b D l k d mc ms pc (x0 :: x1 :: w :: t) (vv_E y :: st) X Q := rr_astore_nEF hd rfl (by simp only [List.length_cons]; omega) (Nat.le_of_ble_eq_true hn) ho rfl kk
theorem sa_3F {x0 x1 x2 : vv_T} {t : List vv_T} {w : vv_T} {y : Nat} (hd : op_at k pc (.astore_n 3) 1 np) (hn : Nat.blt 3 k.2.2.1 = true) (ho : ls_ok (x0 :: x1 :: x2 :: w :: t) 3 = true) (kk : wf_W b D l k d mc ms np (x0 :: x1 :: x2 :: vv_A (some y) :: t) st X Q) : wf_W b D l k d mc ms pc (x0 :: x1 :: x2 :: w :: t) (vv_A (some y) :: st) X Q := rr_astore_nF hd rfl (by simp only [List.length_cons]; omega) (Nat.le_of_ble_eq_true hn) ho rfl kk
theorem se_3F {x0 x1 x2 : vv_T} {t : List vv_T} {w : vv_T} {y : Nat} (hd : op_at k pc (.astore_n 3) 1 np) (hn : Nat.blt 3 k.2.2.1 = true) (ho : ls_ok (x0 :: x1 :: x2 :: w :: t) 3 = true) (kk : wf_W b D l k d mc ms np (x0 :: x1 :: x2 :: vv_E y :: t) st X Q) : wf_W b D l k d mc ms pc (x0 :: x1 :: x2 :: w :: t) (vv_E y :: st) X Q := rr_astore_nEF hd rfl (by simp only [List.length_cons]; omega) (Nat.le_of_ble_eq_true hn) ho rfl kk
theorem rc_1F {x0 : vv_T} {t : List vv_T} {y v : Int32} {c : Int} (hd : op_at k pc (.iinc 1 c) 3 np) (hn : Nat.blt 1 k.2.2.1 = true) (hv : y + Int32.ofInt c = v) (ho : ls_ok (x0 :: vv_I y :: t) 1 = true) (kk : wf_W b D l k d mc ms np (x0 :: vv_I v :: t) st X Q) : wf_W b D l k d mc ms pc (x0 :: vv_I y :: t) st X Q := rr_iincF hd rfl hv (Nat.le_of_ble_eq_true hn) ho rfl kk
theorem rn_1F {x0 : vv_T} {t : List vv_T} {y : Nat} (hd : op_at k pc (.iinc 1 1) 3 np) (hn : Nat.blt 1 k.2.2.1 = true) (ho : ls_ok (x0 :: vv_I (nI y) :: t) 1 = true) (kk : wf_W b D l k d mc ms np (x0 :: vv_I (nI (y + 1)) :: t) st X Q) : wf_W b D l k d mc ms pc (x0 :: vv_I (nI y) :: t) st X Q := rc_1F hd hn (by rw [← nI_1]; rfl) ho kk
theorem rc_2F {x0 x1 : vv_T} {t : List vv_T} {y v : Int32} {c : Int} (hd : op_at k pc (.iinc 2 c) 3 np) (hn : Nat.blt 2 k.2.2.1 = true) (hv : y + Int32.ofInt c = v) (ho : ls_ok (x0 :: x1 :: vv_I y :: t) 2 = true) (kk : wf_W b D l k d mc ms np (x0 :: x1 :: vv_I v :: t) st X Q) : wf_W b D l k d mc ms pc (x0 :: x1 :: vv_I y :: t) st X Q := rr_iincF hd rfl hv (Nat.le_of_ble_eq_true hn) ho rfl kk
theorem rn_2F {x0 x1 : vv_T} {t : List vv_T} {y : Nat} (hd : op_at k pc (.iinc 2 1) 3 np) (hn : Nat.blt 2 k.2.2.1 = true) (ho : ls_ok (x0 :: x1 :: vv_I (nI y) :: t) 2 = true) (kk : wf_W b D l k d mc ms np (x0 :: x1 :: vv_I (nI (y + 1)) :: t) st X Q) : wf_W b D l k d mc ms pc (x0 :: x1 :: vv_I (nI y) :: t) st X Q := rc_2F hd hn (by rw [← nI_1]; rfl) ho kk
theorem rc_3F {x0 x1 x2 : vv_T} {t : List vv_T} {y v : Int32} {c : Int} (hd : op_at k pc (.iinc 3 c) 3 np) (hn : Nat.blt 3 k.2.2.1 = true) (hv : y + Int32.ofInt c = v) (ho : ls_ok (x0 :: x1 :: x2 :: vv_I y :: t) 3 = true) (kk : wf_W b D l k d mc ms np (x0 :: x1 :: x2 :: vv_I v :: t) st X Q) : wf_W b D l k d mc ms pc (x0 :: x1 :: x2 :: vv_I y :: t) st X Q := rr_iincF hd rfl hv (Nat.le_of_ble_eq_true hn) ho rfl kk
theorem rn_3F {x0 x1 x2 : vv_T} {t : List vv_T} {y : Nat} (hd : op_at k pc (.iinc 3 1) 3 np) (hn : Nat.blt 3 k.2.2.1 = true) (ho : ls_ok (x0 :: x1 :: x2 :: vv_I (nI y) :: t) 3 = true) (kk : wf_W b D l k d mc ms np (x0 :: x1 :: x2 :: vv_I (nI (y + 1)) :: t) st X Q) : wf_W b D l k d mc ms pc (x0 :: x1 :: x2 :: vv_I (nI y) :: t) st X Q := rc_3F hd hn (by rw [← nI_1]; rfl) ho kk
theorem rc_4F {x0 x1 x2 x3 : vv_T} {t : List vv_T} {y v : Int32} {c : Int} (hd : op_at k pc (.iinc 4 c) 3 np) (hn : Nat.blt 4 k.2.2.1 = true) (hv : y + Int32.ofInt c = v) (ho : ls_ok (x0 :: x1 :: x2 :: x3 :: vv_I y :: t) 4 = true) (kk : wf_W b D l k d mc ms np (x0 :: x1 :: x2 :: x3 :: vv_I v :: t) st X Q) : wf_W b D l k d mc ms pc (x0 :: x1 :: x2 :: x3 :: vv_I y :: t) st X Q := rr_iincF hd rfl hv (Nat.le_of_ble_eq_true hn) ho rfl kk
theorem rn_4F {x0 x1 x2 x3 : vv_T} {t : List vv_T} {y : Nat} (hd : op_at k pc (.iinc 4 1) 3 np) (hn : Nat.blt 4 k.2.2.1 = true) (ho : ls_ok (x0 :: x1 :: x2 :: x3 :: vv_I (nI y) :: t) 4 = true) (kk : wf_W b D l k d mc ms np (x0 :: x1 :: x2 :: x3 :: vv_I (nI (y + 1)) :: t) st X Q) : wf_W b D l k d mc ms pc (x0 :: x1 :: x2 :: x3 :: vv_I (nI y) :: t) st X Q := rc_4F hd hn (by rw [← nI_1]; rfl) ho kk
theorem rc_5F {x0 x1 x2 x3 x4 : vv_T} {t : List vv_T} {y v : Int32} {c : Int} (hd : op_at k pc (.iinc 5 c) 3 np) (hn : Nat.blt 5 k.2.2.1 = true) (hv : y + Int32.ofInt c = v) (ho : ls_ok (x0 :: x1 :: x2 :: x3 :: x4 :: vv_I y :: t) 5 = true) (kk : wf_W b D l k d mc ms np (x0 :: x1 :: x2 :: x3 :: x4 :: vv_I v :: t) st X Q) : wf_W b D l k d mc ms pc (x0 :: x1 :: x2 :: x3 :: x4 :: vv_I y :: t) st X Q := rr_iincF hd rfl hv (Nat.le_of_ble_eq_true hn) ho rfl kk
theorem rn_5F {x0 x1 x2 x3 x4 : vv_T} {t : List vv_T} {y : Nat} (hd : op_at k pc (.iinc 5 1) 3 np) (hn : Nat.blt 5 k.2.2.1 = true) (ho : ls_ok (x0 :: x1 :: x2 :: x3 :: x4 :: vv_I (nI y) :: t) 5 = true) (kk : wf_W b D l k d mc ms np (x0 :: x1 :: x2 :: x3 :: x4 :: vv_I (nI (y + 1)) :: t) st X Q) : wf_W b D l k d mc ms pc (x0 :: x1 :: x2 :: x3 :: x4 :: vv_I (nI y) :: t) st X Q := rc_5F hd hn (by rw [← nI_1]; rfl) ho kk
theorem rc_6F {x0 x1 x2 x3 x4 x5 : vv_T} {t : List vv_T} {y v : Int32} {c : Int} (hd : op_at k pc (.iinc 6 c) 3 np) (hn : Nat.blt 6 k.2.2.1 = true) (hv : y + Int32.ofInt c = v) (ho : ls_ok (x0 :: x1 :: x2 :: x3 :: x4 :: x5 :: vv_I y :: t) 6 = true) (kk : wf_W b D l k d mc ms np (x0 :: x1 :: x2 :: x3 :: x4 :: x5 :: vv_I v :: t) st X Q) : wf_W b D l k d mc ms pc (x0 :: x1 :: x2 :: x3 :: x4 :: x5 :: vv_I y :: t) st X Q := rr_iincF hd rfl hv (Nat.le_of_ble_eq_true hn) ho rfl kk
theorem rn_6F {x0 x1 x2 x3 x4 x5 : vv_T} {t : List vv_T} {y : Nat} (hd : op_at k pc (.iinc 6 1) 3 np) (hn : Nat.blt 6 k.2.2.1 = true) (ho : ls_ok (x0 :: x1 :: x2 :: x3 :: x4 :: x5 :: vv_I (nI y) :: t) 6 = true) (kk : wf_W b D l k d mc ms np (x0 :: x1 :: x2 :: x3 :: x4 :: x5 :: vv_I (nI (y + 1)) :: t) st X Q) : wf_W b D l k d mc ms pc (x0 :: x1 :: x2 :: x3 :: x4 :: x5 :: vv_I (nI y) :: t) st X Q := rc_6F hd hn (by rw [← nI_1]; rfl) ho kk
theorem rc_7F {x0 x1 x2 x3 x4 x5 x6 : vv_T} {t : List vv_T} {y v : Int32} {c : Int} (hd : op_at k pc (.iinc 7 c) 3 np) (hn : Nat.blt 7 k.2.2.1 = true) (hv : y + Int32.ofInt c = v) (ho : ls_ok (x0 :: x1 :: x2 :: x3 :: x4 :: x5 :: x6 :: vv_I y :: t) 7 = true) (kk : wf_W b D l k d mc ms np (x0 :: x1 :: x2 :: x3 :: x4 :: x5 :: x6 :: vv_I v :: t) st X Q) : wf_W b D l k d mc ms pc (x0 :: x1 :: x2 :: x3 :: x4 :: x5 :: x6 :: vv_I y :: t) st X Q := rr_iincF hd rfl hv (Nat.le_of_ble_eq_true hn) ho rfl kk
theorem rn_7F {x0 x1 x2 x3 x4 x5 x6 : vv_T} {t : List vv_T} {y : Nat} (hd : op_at k pc (.iinc 7 1) 3 np) (hn : Nat.blt 7 k.2.2.1 = true) (ho : ls_ok (x0 :: x1 :: x2 :: x3 :: x4 :: x5 :: x6 :: vv_I (nI y) :: t) 7 = true) (kk : wf_W b D l k d mc ms np (x0 :: x1 :: x2 :: x3 :: x4 :: x5 :: x6 :: vv_I (nI (y + 1)) :: t) st X Q) : wf_W b D l k d mc ms pc (x0 :: x1 :: x2 :: x3 :: x4 :: x5 :: x6 :: vv_I (nI y) :: t) st X Q := rc_7F hd hn (by rw [← nI_1]; rfl) ho kk
theorem rk_m1F {ls : List vv_T} (hd : op_at k pc (.iconst (-1)) 1 np) (kk : wf_W b D l k d mc ms np ls (vv_I (-1) :: st) X Q) : wf_W b D l k d mc ms pc ls st X Q := rr_iconstF hd (by decide) kk
theorem rk_0F {ls : List vv_T} (hd : op_at k pc (.iconst 0) 1 np) (kk : wf_W b D l k d mc ms np ls (vv_I (0) :: st) X Q) : wf_W b D l k d mc ms pc ls st X Q := rr_iconstF hd (by decide) kk
theorem rk_1F {ls : List vv_T} (hd : op_at k pc (.iconst 1) 1 np) (kk : wf_W b D l k d mc ms np ls (vv_I (1) :: st) X Q) : wf_W b D l k d mc ms pc ls st X Q := rr_iconstF hd (by decide) kk
theorem rk_2F {ls : List vv_T} (hd : op_at k pc (.iconst 2) 1 np) (kk : wf_W b D l k d mc ms np ls (vv_I (2) :: st) X Q) : wf_W b D l k d mc ms pc ls st X Q := rr_iconstF hd (by decide) kk
theorem rk_3F {ls : List vv_T} (hd : op_at k pc (.iconst 3) 1 np) (kk : wf_W b D l k d mc ms np ls (vv_I (3) :: st) X Q) : wf_W b D l k d mc ms pc ls st X Q := rr_iconstF hd (by decide) kk
theorem rk_4F {ls : List vv_T} (hd : op_at k pc (.iconst 4) 1 np) (kk : wf_W b D l k d mc ms np ls (vv_I (4) :: st) X Q) : wf_W b D l k d mc ms pc ls st X Q := rr_iconstF hd (by decide) kk
theorem rk_5F {ls : List vv_T} (hd : op_at k pc (.iconst 5) 1 np) (kk : wf_W b D l k d mc ms np ls (vv_I (5) :: st) X Q) : wf_W b D l k d mc ms pc ls st X Q := rr_iconstF hd (by decide) kk
end RP
section RG
variable {b : Nat} {D : md_T} {l : Launch} {k : mm_T} {d mc ms pc np : Nat} {ls st : List vv_T} {Q : Option vv_T → mx_T → Prop} {I : Nat → Nat → Int32} {L L1 : Nat → Nat → Int64} {Rf R1 : Nat → Nat → Option Nat} {n n1 : Nat} {X : mx_T}
theorem rr_cVmF {k2 : mm_T} {i m d2 a ci : Nat} {As st0 rest : List vv_T} {P : (Nat → Nat → Int32) → Prop} (hM : wf_C b D l k2 d2 0 0 (vv_A (some a) :: As) X (q_m P L1 R1 n1)) (hd : op_at k pc (.invokevirtual i) 3 np) (hc : cl_V k k2 i m) (hdd : d2 + 1 ≤ d) (hk : kO a = ci) (hci : ci < 6) (hcn : ∀ q, mCl[ci]? = some q → q.1 = k2.1.cls) (ha : a < X.2.2.2)
    (hn : As.length = m) (hst : As.reverse ++ vv_A (some a) :: rest = st0) (hW : (rest.map vv_c).sum ≤ 8) (kk : ∀ I2 : Nat → Nat → Int32, P I2 → wf_W b D l k d mc ms np ls rest (I2, L1, R1, n1) Q) : wf_W b D l k d mc ms pc ls st0 X Q :=
  rr_callVF hd hc hM hdd hk hci hcn ha hn hst hW rfl rfl (fun r Z h => by obtain ⟨rfl, I2, rfl, h2⟩ := h; exact kk I2 h2)
theorem rr_cVnF {k2 : mm_T} {i m d2 a ci : Nat} {As st0 rest : List vv_T} {P : Int32 → (Nat → Nat → Int32) → Prop} (hM : wf_C b D l k2 d2 0 0 (vv_A (some a) :: As) X (q_n P L1 R1 n1)) (hd : op_at k pc (.invokevirtual i) 3 np) (hc : cl_V k k2 i m) (hdd : d2 + 1 ≤ d) (hk : kO a = ci) (hci : ci < 6) (hcn : ∀ q, mCl[ci]? = some q → q.1 = k2.1.cls) (ha : a < X.2.2.2)
    (hn : As.length = m) (hst : As.reverse ++ vv_A (some a) :: rest = st0) (hW : (rest.map vv_c).sum ≤ 8) (kk : ∀ (v : Int32) (I2 : Nat → Nat → Int32), P v I2 → wf_W b D l k d mc ms np ls (vv_I v :: rest) (I2, L1, R1, n1) Q) : wf_W b D l k d mc ms pc ls st0 X Q :=
  rr_callVF hd hc hM hdd hk hci hcn ha hn hst hW rfl rfl (fun r Z h => by obtain ⟨v, rfl, I2, rfl, h2⟩ := h; exact kk v I2 h2)
theorem rr_maxF {i : Nat} {x y : Int32} (hd : op_at k pc (.invokestatic i) 3 np) (hw : Cond.methodLink k.1.cls i Lib.Math.max.name ∈ GW ∧ Cond.static Lib.Math.max.name ∈ GW ∧ Cond.initialized "java/lang/Math" ∈ GW ∧ Cond.code Lib.Math.max.name Lib.Math.max.code 2 (some .int) ∈ GW) (hdd : 1 ≤ d) (hW : (st.map vv_c).sum ≤ 8) (kk : wf_W b D l k d mc ms np ls (vv_I (s_max x y) :: st) X Q) : wf_W b D l k d mc ms pc ls (vv_I y :: vv_I x :: st) X Q := by
  intro p e R s m args below meth c H locs cells slots MC MS arr hS hR hcl hs hV hX hL
  obtain ⟨hd, rfl⟩ := hd
  have hts := hS.2.2.2.2.2.1
  have := sum_c b st
  exact va_mmax hS.1 hS.2.1 (hS.2.2.1.trans hL.1.symm) hS.2.2.2.2.1 (hts _ hw.1) (hts _ hw.2.1) (hts _ hw.2.2.1) (hts _ hw.2.2.2) (by omega) (by rw [this]; omega) (by omega) (by omega) hd (kk p e R s m args below meth c H locs cells slots MC MS arr hS hR hcl hs hV hX hL)
theorem rr_minF {i : Nat} {x y : Int32} (hd : op_at k pc (.invokestatic i) 3 np) (hw : Cond.methodLink k.1.cls i Lib.Math.min.name ∈ GW ∧ Cond.static Lib.Math.min.name ∈ GW ∧ Cond.initialized "java/lang/Math" ∈ GW ∧ Cond.code Lib.Math.min.name Lib.Math.min.code 2 (some .int) ∈ GW) (hdd : 1 ≤ d) (hW : (st.map vv_c).sum ≤ 8) (kk : wf_W b D l k d mc ms np ls (vv_I (s_min x y) :: st) X Q) : wf_W b D l k d mc ms pc ls (vv_I y :: vv_I x :: st) X Q := by
  intro p e R s m args below meth c H locs cells slots MC MS arr hS hR hcl hs hV hX hL
  obtain ⟨hd, rfl⟩ := hd
  have hts := hS.2.2.2.2.2.1
  have := sum_c b st
  exact va_mmin hS.1 hS.2.1 (hS.2.2.1.trans hL.1.symm) hS.2.2.2.2.1 (hts _ hw.1) (hts _ hw.2.1) (hts _ hw.2.2.1) (hts _ hw.2.2.2) (by omega) (by rw [this]; omega) (by omega) (by omega) hd (kk p e R s m args below meth c H locs cells slots MC MS arr hS hR hcl hs hV hX hL)
theorem rr_absF {i : Nat} {x : Int32} (hd : op_at k pc (.invokestatic i) 3 np) (hw : Cond.methodLink k.1.cls i Lib.Math.abs.name ∈ GW ∧ Cond.static Lib.Math.abs.name ∈ GW ∧ Cond.initialized "java/lang/Math" ∈ GW ∧ Cond.code Lib.Math.abs.name Lib.Math.abs.code 1 (some .int) ∈ GW) (hdd : 1 ≤ d) (hW : (st.map vv_c).sum ≤ 8) (kk : wf_W b D l k d mc ms np ls (vv_I (s_abs x) :: st) X Q) : wf_W b D l k d mc ms pc ls (vv_I x :: st) X Q := by
  intro p e R s m args below meth c H locs cells slots MC MS arr hS hR hcl hs hV hX hL
  obtain ⟨hd, rfl⟩ := hd
  have hts := hS.2.2.2.2.2.1
  have := sum_c b st
  exact va_mabs hS.1 hS.2.1 (hS.2.2.1.trans hL.1.symm) hS.2.2.2.2.1 (hts _ hw.1) (hts _ hw.2.1) (hts _ hw.2.2.1) (hts _ hw.2.2.2) (by omega) (by rw [this]; omega) (by omega) (by omega) hd (kk p e R s m args below meth c H locs cells slots MC MS arr hS hR hcl hs hV hX hL)
theorem rr_ivF {a z t : Nat} {j v : Int32} (hd : op_at k pc .iaload 1 np) (hk : kO a = 6 ∧ zO a = z) (ha : a < n) (hj : j = nI t) (ht : t < z) (hz : z ≤ 65536) (hv : I a t = v) (kk : wf_W b D l k d mc ms np ls (vv_I v :: st) (I, L, Rf, n) Q) : wf_W b D l k d mc ms pc ls (vv_I j :: vv_A (some a) :: st) (I, L, Rf, n) Q := rr_ildF hd hk ha hj ht hz (by rw [hv]; exact kk)
theorem rr_givF {i ci f a : Nat} {v : Int32} (hd : op_at k pc (.getfield i) 3 np) (hF : fl_T k i ci f) (hk : kO a = ci) (ha : a < n) (hc : ci < 6 ∧ mx_isR ci f = false) (hv : I a f = v) (kk : wf_W b D l k d mc ms np ls (vv_I v :: st) (I, L, Rf, n) Q) : wf_W b D l k d mc ms pc ls (vv_A (some a) :: st) (I, L, Rf, n) Q := rr_giF hd hF hk ha hc (by rw [hv]; exact kk)
end RG
