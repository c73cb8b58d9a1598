/-! the light judgement: values, a memory of numbered objects, one predicate over the machine, a row an instruction -/
abbrev vv_T : Type := Int32 ⊕ (Int64 ⊕ (Option Nat ⊕ (Nat ⊕ Unit)))
abbrev vv_I (x : Int32) : vv_T := Sum.inl x
abbrev vv_L (x : Int64) : vv_T := Sum.inr (Sum.inl x)
abbrev vv_A (a : Option Nat) : vv_T := Sum.inr (Sum.inr (Sum.inl a))
abbrev vv_E (a : Nat) : vv_T := Sum.inr (Sum.inr (Sum.inr (Sum.inl a)))
abbrev vv_U : vv_T := Sum.inr (Sum.inr (Sum.inr (Sum.inr ())))
def to_V (b : Nat) : vv_T → Value
  | .inl x => .int x
  | .inr (.inl x) => .long x
  | .inr (.inr (.inl o)) => va_rf (o.map (fun a => b + a))
  | .inr (.inr (.inr (.inl a))) => .ref a
  | .inr (.inr (.inr (.inr _))) => .null
def vv_c : vv_T → Nat
  | .inr (.inl _) => 2
  | _ => 1
theorem to_V_c (b : Nat) (v : vv_T) : (to_V b v).category = vv_c v := by
  rcases v with x | x | (_ | a) | a | a <;> rfl
theorem sum_c (b : Nat) : ∀ st : List vv_T, ((st.map (to_V b)).map fun v => v.category).sum = (st.map vv_c).sum := by
  intro st
  induction st with
  | nil => rfl
  | cons v t ih => simp only [List.map_cons, List.sum_cons, to_V_c, ih]
/-- the memory: ints, longs, references by object and place; how many objects -/
abbrev mx_T : Type := (Nat → Nat → Int32) × (Nat → Nat → Int64) × (Nat → Nat → Option Nat) × Nat
def mx_isR (c k : Nat) : Bool := match c with
  | 0 => k == 0
  | 1 => Nat.ble 6 k
  | 2 => Nat.ble k 1
  | 3 => k == 2
  | 4 => Nat.ble k 6
  | _ => (Nat.ble 6 k && Nat.ble k 21) || k == 27 || k == 28 || k == 32 || k == 35
def mx_N : Nat → Nat
  | 0 => 5
  | 1 => 13
  | 2 => 5
  | 3 => 3
  | 4 => 9
  | _ => 38
abbrev mCl : List vw_C := [(RX0, TX0, 5), (RX1, TX1, 13), (RX2, TX2, 5), (RX3, TX3, 3), (RX4, TX4, 9), (RX5, TX5, 38)]
abbrev md_T : Type := va_G × ClassId × ClassId × ClassId × (Nat → Nat) × (Nat → Nat)
abbrev mTys (D : md_T) : List (ClassId × FieldType) := [(D.2.1, .int), (D.2.2.1, .long), (D.2.2.2.1, .object RX3)]
def mx_sl (b : Nat) (X : mx_T) (c a k : Nat) : Value := if mx_isR c k = true then va_rf ((X.2.2.1 a k).map (fun q => b + q)) else .int (X.1 a k)
def mx_fs (b : Nat) (X : mx_T) (c a : Nat) : List Value := (List.range (mx_N c)).map (mx_sl b X c a)
def mx_ct (b : Nat) (D : md_T) (X : mx_T) (a : Nat) : va_E :=
  if kO a = 6 then .inl (D.2.1, zO a, .inl (X.1 a))
  else if kO a = 7 then .inl (D.2.2.1, zO a, .inr (.inl (X.2.1 a)))
  else if kO a = 8 then .inl (D.2.2.2.1, zO a, .inr (.inr (.inr (.inr (fun j => (X.2.2.1 a j).map (fun q => b + q))))))
  else .inr (kO a, mx_fs b X (kO a) a)
def mx_R (b : Nat) (D : md_T) (X : mx_T) (H : Heap) : Prop := H.size = b + X.2.2.2 ∧ ∀ a, a < X.2.2.2 → va_at D.1 mCl (b + a, mx_ct b D X a) H
theorem mx_one {b : Nat} {D : md_T} {X : mx_T} {H : Heap} (h : mx_R b D X H) {a : Nat} (ha : a < X.2.2.2) {e : va_E} (he : mx_ct b D X a = e) : va_P D.1 mCl [(b + a, e)] H := by
  intro k q hk
  cases k with
  | zero =>
    cases hk
    rw [← he]
    exact h.2 a ha
  | succ k => simp at hk
theorem mx_oneD {b a : Nat} {e : va_E} : va_D (fun q => b ≤ q) [(b + a, e)] := by
  refine ⟨fun i j p q hi hj _ => ?_, fun k q hk => ?_⟩
  · have h1 : i < 1 := (List.getElem?_eq_some_iff.mp hi).1
    have h2 : j < 1 := (List.getElem?_eq_some_iff.mp hj).1
    omega
  · cases k with
    | zero =>
      cases hk
      exact Nat.le_add_right b a
    | succ k => simp at hk
/-- one cell rewritten -/
theorem mx_set {b : Nat} {D : md_T} {X Y : mx_T} {H H1 : Heap} (h : mx_R b D X H) {a : Nat} (hn : Y.2.2.2 = X.2.2.2) (hz : H1.size = H.size) (oq : ∀ q : Nat, q ≠ b + a → H1[q]? = H[q]?)
    (h1 : va_at D.1 mCl (b + a, mx_ct b D Y a) H1) (ho : ∀ a', a' ≠ a → mx_ct b D Y a' = mx_ct b D X a') : mx_R b D Y H1 := by
  refine ⟨by rw [hz, hn]; exact h.1, fun a' ha' => ?_⟩
  by_cases e : a' = a
  · subst e; exact h1
  · rw [ho a' e]
    exact (h.2 a' (by omega)).kept (oq _ (by omega))
def up_I (I : Nat → Nat → Int32) (a k : Nat) (v : Int32) : Nat → Nat → Int32 := fun a' => if a' = a then upd (I a) k v else I a'
def up_L (L : Nat → Nat → Int64) (a k : Nat) (v : Int64) : Nat → Nat → Int64 := fun a' => if a' = a then vp_updL (L a) k v else L a'
def up_R (R : Nat → Nat → Option Nat) (a k : Nat) (v : Option Nat) : Nat → Nat → Option Nat := fun a' => if a' = a then va_up (R a) k v else R a'
theorem up_I_ne {I : Nat → Nat → Int32} {a k : Nat} {v : Int32} {a' : Nat} (h : a' ≠ a) : up_I I a k v a' = I a' := if_neg h
theorem up_I_eq {I : Nat → Nat → Int32} {a k : Nat} {v : Int32} : up_I I a k v a = upd (I a) k v := if_pos rfl
theorem up_L_ne {I : Nat → Nat → Int64} {a k : Nat} {v : Int64} {a' : Nat} (h : a' ≠ a) : up_L I a k v a' = I a' := if_neg h
theorem up_L_eq {I : Nat → Nat → Int64} {a k : Nat} {v : Int64} : up_L I a k v a = vp_updL (I a) k v := if_pos rfl
theorem up_R_ne {I : Nat → Nat → Option Nat} {a k : Nat} {v : Option Nat} {a' : Nat} (h : a' ≠ a) : up_R I a k v a' = I a' := if_neg h
theorem up_R_eq {I : Nat → Nat → Option Nat} {a k : Nat} {v : Option Nat} : up_R I a k v a = va_up (I a) k v := if_pos rfl
theorem mx_ct_eq {b : Nat} {D : md_T} {X Y : mx_T} {a : Nat} (h1 : Y.1 a = X.1 a) (h2 : Y.2.1 a = X.2.1 a) (h3 : Y.2.2.1 a = X.2.2.1 a) : mx_ct b D Y a = mx_ct b D X a := by
  have e : ∀ c, mx_fs b Y c a = mx_fs b X c a := by
    intro c
    unfold mx_fs
    congr 1
    funext k
    unfold mx_sl
    rw [h1, h3]
  unfold mx_ct
  rw [h1, h2, h3, e]
/-- what the tables and the strings say -/
abbrev ms_N : Nat := 5
abbrev ms_tx : List (Nat × String) := [(118, "thing"), (120, "summer"), (121, "far"), (122, "shut"), (124, "draw")]
abbrev ms_len : List Nat := [5, 6, 3, 4, 4]
abbrev ms_byt : List (List Int32) := [[116, 104, 105, 110, 103], [115, 117, 109, 109, 101, 114], [102, 97, 114], [115, 104, 117, 116], [100, 114, 97, 119]]
def ms_S (b : Nat) (D : md_T) (U : State) : Prop :=
  vk_S ms_N ms_len ms_byt D.2.2.2.2.1 D.2.2.2.2.2 (fun q => b ≤ q) U U.heap ∧ (∀ (i : Nat) (q : Nat × String), ms_tx[i]? = some q → vk_R RX2 q.1 q.2 (D.2.2.2.2.1 i) U) ∧
  va_Z "java/lang/String" "COMPACT_STRINGS" "Z" (.int 1) (fun q => b ≤ q) U U.heap ∧ va_Zq "jdk/internal/util/Preconditions" "SIOOBE_FORMATTER" "Ljava/util/function/BiFunction;" (fun q => b ≤ q) U U.heap
abbrev mn_T : List (String × Nat × MethodName × String) := [(RX4, 17, yX1_init, RX4), (RX4, 30, yX0_init, RX4), (RX4, 50, yX3_init, RX4), (RX1, 62, yX4_isHouseKind, RX4), (RX1, 65, yX4_bit, RX4), (RX2, 90, yX4_bit, RX4), (RX1, 113, yX4_isIn, RX4), (RX1, 136, yX4_isTreeKind, RX4), (RX0, 32, yX4_isHouseKind, RX4), (RX0, 36, yX4_isTreeKind, RX4)]
def wm_K (b : Nat) (D : md_T) (U : State) : Prop := va_K D.1 mCl (mTys D) U ∧ (∀ (i : Nat) (q : String × Nat × MethodName × String), mn_T[i]? = some q → va_Nw (.methodLinkNest q.1 q.2.1 q.2.2.1 q.2.2.2) U) ∧ va_AO RX3 U ∧ ms_S b D U
/-- the same tables and heap: only the frames are others -/
theorem wm_K.calling {b : Nat} {D : md_T} {U : State} (h : wm_K b D U) (g : JFrame) (mk : MethodId) (a : Array Value) : wm_K b D (U.calling g mk a) := by
  obtain ⟨h1, h2, h3, h4, h5, h6, h7⟩ := h
  have hA : U.vm.Alike (U.calling g mk a).vm := Vm.Alike.refl U.vm
  refine ⟨va_K.moved (u := U) hA h1, fun i q hq => va_Nw.same rfl (u := U) rfl (h2 i q hq), va_AO.moved (u := U) hA h3, vk_S.moved (u := U) hA h4, fun i q hq => vk_R.same (u := U) rfl (h5 i q hq), va_Z.moved (u := U) hA h6, va_Zq.moved (u := U) hA h7⟩
theorem wm_K.warm {b : Nat} {D : md_T} {s U : State} (h : wm_K b D s) (hW : s.WarmedH U.vm) (hq : ∀ a : Nat, a < s.heap.size → ¬ b ≤ a → U.heap[a]? = s.heap[a]?) : wm_K b D U := by
  obtain ⟨h1, h2, h3, h4, h5, h6, h7⟩ := h
  exact ⟨va_K.moved hW.alike h1, fun i q hq => va_Nw.warmM hW (h2 i q hq), va_AO.moved hW.alike h3, (vk_S.moved hW.alike h4).kept hq, fun i q hq => vk_R.warm hW (h5 i q hq), (va_Z.moved hW.alike h6).kept hq, (va_Zq.moved hW.alike h7).kept hq⟩
/-- the locals -/
def wm_L (b nL : Nat) (ls : List vv_T) (arr : Array Slot) : Prop := arr.size = nL ∧ lv_wf arr ∧ ∀ (j : Nat) (v : vv_T), ls[j]? = some v → v ≠ vv_U → arr[j]? = some (.val (to_V b v))
def vv_isU : vv_T → Bool
  | .inr (.inr (.inr (.inr _))) => true
  | _ => false
def ls_V (b : Nat) : Nat → List vv_T → List (Nat × Value)
  | _, [] => []
  | i, v :: t => if vv_isU v = true then ls_V b (i + 1) t else (i, to_V b v) :: ls_V b (i + 1) t
theorem vv_isU_iff {v : vv_T} : vv_isU v = true ↔ v = vv_U := by
  rcases v with x | x | a | a | a <;> simp [vv_isU]
theorem ls_V_mem {b : Nat} : ∀ (ls : List vv_T) (i : Nat) (q : Nat × Value), q ∈ ls_V b i ls → ∃ (j : Nat) (v : vv_T), q = (i + j, to_V b v) ∧ ls[j]? = some v ∧ v ≠ vv_U := by
  intro ls
  induction ls with
  | nil => intro i q h; cases h
  | cons w t ih =>
    intro i q h
    unfold ls_V at h
    split at h
    · obtain ⟨j, v, h1, h2, h3⟩ := ih (i + 1) q h
      exact ⟨j + 1, v, by rw [h1]; congr 1; omega, by simpa using h2, h3⟩
    · next hw =>
      rcases List.mem_cons.mp h with h | h
      · exact ⟨0, w, h, rfl, fun e => hw (vv_isU_iff.mpr e)⟩
      · obtain ⟨j, v, h1, h2, h3⟩ := ih (i + 1) q h
        exact ⟨j + 1, v, by rw [h1]; congr 1; omega, by simpa using h2, h3⟩
theorem ls_V_in {b : Nat} : ∀ (ls : List vv_T) (i j : Nat) (v : vv_T), ls[j]? = some v → v ≠ vv_U → (i + j, to_V b v) ∈ ls_V b i ls := by
  intro ls
  induction ls with
  | nil => intro i j v h; simp at h
  | cons w t ih =>
    intro i j v h hv
    unfold ls_V
    cases j with
    | zero =>
      cases h
      rw [if_neg (fun e => hv (vv_isU_iff.mp e))]
      exact List.mem_cons_self
    | succ j =>
      have h2 := ih (i + 1) j v (by simpa using h) hv
      rw [show i + 1 + j = i + (j + 1) by omega] at h2
      split
      · exact h2
      · exact List.mem_cons_of_mem _ h2
theorem wm_L.has {b nL : Nat} {ls : List vv_T} {arr : Array Slot} (h : wm_L b nL ls arr) : lv_has arr nL (ls_V b 0 ls) := by
  refine ⟨h.1, h.2.1, fun q hq => ?_⟩
  obtain ⟨j, v, h1, h2, h3⟩ := ls_V_mem ls 0 q hq
  rw [h1]
  simpa using h.2.2 j v h2 h3
/-- a value is stored: no long begins just ahead of it -/
def ls_ok (ls : List vv_T) (i : Nat) : Bool := match i with
  | 0 => true
  | j + 1 => match ls[j]? with
    | some (.inr (.inl _)) => false
    | _ => true
theorem wm_L.st {b nL : Nat} {ls : List vv_T} {arr' : Array Slot} {i : Nat} {w : vv_T} (hi : i < ls.length) (hok : ls_ok ls i = true) (h : lv_has arr' nL ((i, to_V b w) :: (ls_V b 0 ls).filter (fun q => !(q.1 == i) && !(q.1 + 1 == i && q.2.category == 2)))) : wm_L b nL (ls.set i w) arr' := by
  refine ⟨h.1, h.2.1, fun j v hj hv => ?_⟩
  by_cases e : j = i
  · subst e
    rw [List.getElem?_set_self hi] at hj
    cases hj
    exact h.2.2 _ List.mem_cons_self
  · rw [List.getElem?_set_ne (Ne.symm e)] at hj
    have hm := ls_V_in (b := b) ls 0 j v hj hv
    rw [Nat.zero_add] at hm
    refine h.2.2 (j, to_V b v) (List.mem_cons_of_mem _ (List.mem_filter.mpr ⟨hm, ?_⟩))
    simp only [Bool.and_eq_true, Bool.not_eq_true', beq_eq_false_iff_ne, ne_eq, Bool.and_eq_false_iff]
    refine ⟨e, ?_⟩
    by_cases e2 : j + 1 = i
    · right
      subst e2
      rw [to_V_c]
      simp only [ls_ok, hj] at hok
      rcases v with x | x | a | a | a
      · simp [vv_c]
      · simp at hok
      · simp [vv_c]
      · simp [vv_c]
      · simp [vv_c]
    · exact Or.inl e2
/-- what is said of the method on top -/
def wm_S (k : mm_T) (p : Program) (s : State) (m : MethodId) (args : Array Value) (meth : Method) (c : Code) (b : Nat) (D : md_T) : Prop :=
  p.tables.exec = Jvm.exec ∧ c.code = k.2.1 ∧ c.maxLocals = k.2.2.1 ∧ meth.sig.returnType = k.2.2.2 ∧ s.vm.findClass k.1.cls = some m.cls ∧ (∀ w ∈ GW, w.before args s = true) ∧ meth.locks = false ∧ meth.name = k.1.name ∧ wm_K b D s ∧ b ≤ s.heap.size
def wm_Q (b : Nat) (D : md_T) (Q : Option vv_T → mx_T → Prop) : Array Value → State → Outcome → State → Prop := fun _ st o t => (∃ (r : Option vv_T) (Y : mx_T), o = .returned (r.map (to_V b)) ∧ Q r Y ∧ mx_R b D Y t.heap) ∧ va_F (fun q => b ≤ q) st t
/-- the machine stands in method k at pc, with these locals, stack and memory: it comes to its end, and its answer and memory have Q; d calls deep, at most mc cells of ms slots more -/
def wm_W (l : Launch) (k : mm_T) (d mc ms pc : Nat) (ls st : List vv_T) (X : mx_T) (Q : Option vv_T → mx_T → Prop) : Prop :=
  ∀ (b : Nat) (D : md_T) (p : Program) (e : Env) (R : Room) (s : State) (m : MethodId) (args : Array Value) (below : List Frame) (meth : Method) (c : Code) (H : Heap) (locs : List Loc) (cells slots MC MS : Nat) (arr : Array Slot),
    wm_S k p s m args meth c b D → (d ≤ R.frames ∧ 40 * d ≤ R.locals ∧ MC ≤ R.cells ∧ MS ≤ R.slots) → cells + mc ≤ MC → slots + ms ≤ MS → va_S (fun q => b ≤ q) s.heap H locs → mx_R b D X H → wm_L b k.2.2.1 ls arr →
    W p l e R s m args below meth c H locs cells slots (MQ below (wm_Q b D Q) args s MC MS (fun q => b ≤ q)) (F0 m pc arr (st.map (to_V b)))
def wm_C (l : Launch) (k : mm_T) (d mc ms : Nat) (as : List vv_T) (X : mx_T) (Q : Option vv_T → mx_T → Prop) : Prop :=
  ∀ (b : Nat) (D : md_T), Met l k.1 (.code k.1 k.2.1 k.2.2.1 k.2.2.2 :: GW) { frames := d, cells := mc, slots := ms, locals := 40 * d } (va_Pc (as.map (to_V b)) (fun U => wm_K b D U ∧ mx_R b D X U.heap)) (wm_Q b D Q) mc ms (fun q => b ≤ q)
/-- an instruction of the method, and where the next one stands -/
def op_at (k : mm_T) (pc : Nat) (i : Instr) (len np : Nat) : Prop := decode k.2.1 pc = .ok (i, len) ∧ pc + len = np
def en_L (as : List vv_T) : List vv_T := as.flatMap (fun v => if vv_c v = 2 then [v, vv_U] else [v])
theorem en_mem {b : Nat} : ∀ (as : List vv_T) (i j : Nat) (v : vv_T), (en_L as)[j]? = some v → v ≠ vv_U → (i + j, to_V b v) ∈ lv_args i (as.map (to_V b)) := by
  intro as
  induction as with
  | nil => intro i j v h; simp [en_L] at h
  | cons w t ih =>
    intro i j v h hv
    simp only [List.map_cons, lv_args, to_V_c]
    by_cases hc : vv_c w = 2
    · have e : en_L (w :: t) = w :: vv_U :: en_L t := by simp [en_L, hc]
      rw [e] at h
      rw [if_pos hc]
      match j, h with
      | 0, h => cases h; exact List.mem_cons_self
      | 1, h => cases h; exact absurd rfl hv
      | j + 2, h =>
        have h2 := ih (i + 2) j v (by simpa using h) hv
        rw [show i + 2 + j = i + (j + 2) by omega] at h2
        exact List.mem_cons_of_mem _ h2
    · have e : en_L (w :: t) = w :: en_L t := by simp [en_L, hc]
      rw [e] at h
      rw [if_neg hc]
      match j, h with
      | 0, h => cases h; exact List.mem_cons_self
      | j + 1, h =>
        have h2 := ih (i + 1) j v (by simpa using h) hv
        rw [show i + 1 + j = i + (j + 1) by omega] at h2
        exact List.mem_cons_of_mem _ h2
theorem en_len {b : Nat} : ∀ (as : List vv_T), (lg_sl (as.map (to_V b))).length = (en_L as).length := by
  intro as
  induction as with
  | nil => rfl
  | cons w t ih =>
    have h1 : lg_sl ((w :: t).map (to_V b)) = (if vv_c w = 2 then [Slot.val (to_V b w), Slot.second] else [Slot.val (to_V b w)]) ++ lg_sl (t.map (to_V b)) := by
      simp [lg_sl, to_V_c]
    have h2 : en_L (w :: t) = (if vv_c w = 2 then [w, vv_U] else [w]) ++ en_L t := by simp [en_L]
    rw [h1, h2, List.length_append, List.length_append, ih]
    split <;> rfl
theorem wm_of {l : Launch} {k : mm_T} {d mc ms : Nat} {as ls : List vv_T} {X : mx_T} {Q : Option vv_T → mx_T → Prop} (hy : plainName k.1.cls = true) (hn : (en_L as).length ≤ k.2.2.1) (hl : en_L as ++ List.replicate (k.2.2.1 - (en_L as).length) vv_U = ls)
    (h : wm_W l k d mc ms 0 ls [] X Q) : wm_C l k d mc ms as X Q := by
  intro b D
  refine Met.ofW (cc := k.2.1) (maxL := k.2.2.1) (ret := k.2.2.2) hy rfl ?_
  intro p e s m args below meth c s₁ B hml hv
  obtain ⟨rfl, hK, hX⟩ := hv
  have hts := atoms_spec B.pre
  have hl0 := lv_entry (as.map (to_V b)) (n := k.2.2.1) (by rw [en_len]; exact hn)
  rw [lg_entry_eq]
  generalize (lg_sl (as.map (to_V b)) ++ List.replicate (k.2.2.1 - (lg_sl (as.map (to_V b))).length) Slot.unset).toArray = arr at hl0 ⊢
  refine h b D p e _ s m _ below meth c s.heap [] 0 0 mc ms arr ⟨B.exec, B.bytes, hml, B.returns, findClass_of_methodNamed B.named, fun w hw => hts w (List.mem_cons_of_mem _ hw), B.notSynchronized, (name_of_methodNamed B.named B.method).1, hK, by rw [hX.1]; exact Nat.le_add_right _ _⟩ ⟨Nat.le_refl _, Nat.le_refl _, Nat.le_refl _, Nat.le_refl _⟩ (by omega) (by omega) va_S.rf hX ⟨hl0.1, hl0.2.1, fun j v hj hv => ?_⟩
  subst hl
  have hj2 : (en_L as)[j]? = some v := by
    by_cases q : j < (en_L as).length
    · rwa [List.getElem?_append_left q] at hj
    · rw [List.getElem?_append_right (by omega)] at hj
      exact absurd (List.eq_of_mem_replicate (List.mem_of_getElem? hj)) hv
  have h2 := en_mem (b := b) as 0 j v hj2 hv
  rw [Nat.zero_add] at h2
  exact hl0.2.2 _ h2
