/-! the law: its own frame, and each of its cases (by program: wip/whole/c64.py; the first rows are kit/laws/SKELETON.whole.lean.txt's) -/
def R_law : String := "SeenByOneLaw"
def lw_P (b : Addr) (xs : List Int32) (args : Array Value) (s : State) : Prop := args = #[.ref b] ∧ s.IntsAt b xs ∧ xs.length ≤ 3072 ∧ (Jvm.Cond.and given_1 narrow_1).before args s = true
def lw_Q (_ : Array Value) (s : State) (o : Outcome) (t : State) : Prop := o = .returned (some (.int 1)) ∧ Framed s o t [] 600000 7302250
def lw_Z (below : List Frame) (a : Array Value) (s : State) : State → Prop := fun t => ∃ o, t.status = .running ∧ Ended t below o ∧ lw_Q a s o t
/-- the law's own end, with 1 on the stack, nothing written that was there before, its room as the claim has it -/
theorem lw_ret {p : Program} {l : Launch} {e : Env} {s : State} {m : MethodId} {below : List Frame} {meth : Method} {c : Code} {b : Nat} (hx : p.tables.exec = Jvm.exec) (hb : c.code = code) (hr : meth.sig.returnType = ret) (hlocks : meth.locks = false) {pc : Nat} {H : Heap} {ls : Array Slot} (hdg : decode code pc = .ok (.ireturn, 1)) : W p l e room_1 s m #[Value.ref b] below meth c H [] 600000 7302250 (lw_Z below #[Value.ref b] s) (F0 m pc ls [.int 1]) := by
  intro T hT X
  obtain ⟨fs, hret, hrun, hended, hW, hframe⟩ := X.leave (v := some (.int 1)) (hlocks := hlocks) (fun h => by rw [hr] at h; cases h)
  have hmeth' : T.vm.method? m = some meth := X.method'
  refine ⟨T.setFrames fs, ?_, .returned (some (.int 1)), hrun, hended, rfl, ⟨_, rfl⟩, hW, hframe⟩
  jvm_step X.here [X.here.top, hx, hb, hdg, hmeth', hr, ret, narrow_b1]
  (try refine ⟨rfl, ?_⟩); (try refine ⟨rfl, ?_⟩)
  first | (intro acts; rw [hret _ acts rfl rfl rfl]) | rw [hret _ _ rfl rfl rfl]
  exact Steps.refl _
/-- what holds at the law's entry: the machine, the code, the tables' words (any of lw_tbl by 'hts w (by decide +kernel)'), the script of L ints xs at the cell b, what the Statement gives of the start (any of its parts by flat_of_before) -/
def lw_At (p : Program) (s : State) (m : MethodId) (meth : Method) (c : Code) (b L : Nat) (xs : Nat → Int32) : Prop :=
  p.tables.exec = Jvm.exec ∧ c.code = code ∧ meth.sig.returnType = ret ∧ c.maxLocals = 4 ∧ s.vm.findClass R_law = some m.cls ∧ (∀ w ∈ lw_tbl, w.before #[Value.ref b] s = true) ∧ va_X b L xs s s.heap ∧ b < s.heap.size ∧ meth.locks = false ∧ (Jvm.Cond.and given_1 narrow_1).before #[Value.ref b] s = true
theorem nw_L_7 {k : mm_T} (h : k.1.cls = "SeenByOneLaw") : nw_T k 7 4 := ⟨RX4, TX4, tyX4, rfl, inG4, tyX4_ok, dv_4, by rw [h]; exact gw_in (i := 93) (by decide +kernel) (by decide +kernel), gw_in (i := 94) (by decide +kernel) (by decide +kernel), gw_in (i := 80) (by decide +kernel) (by decide +kernel)⟩
theorem nw_L_10 {k : mm_T} (h : k.1.cls = "SeenByOneLaw") : nw_T k 10 5 := ⟨RX5, TX5, tyX5, rfl, inG5, tyX5_ok, dv_5, by rw [h]; exact gw_in (i := 870) (by decide +kernel) (by decide +kernel), gw_in (i := 871) (by decide +kernel) (by decide +kernel), gw_in (i := 84) (by decide +kernel) (by decide +kernel)⟩
def PPl (a0 L : Nat) (xs : Nat → Int32) (b : Nat) : PP_T := fun _ _ R s _ args _ _ _ MC MS => R = room_1 ∧ args = #[Value.ref a0] ∧ s.heap.size = b ∧ va_X a0 L xs s s.heap ∧ a0 < b ∧ MC = 600000 ∧ MS = 7302250
def ZZl : ZZ_T := fun below args s => lw_Z below args s
abbrev WL (a0 L : Nat) (xs : Nat → Int32) (b : Nat) (D : md_T) (l : Launch) (mc ms pc : Nat) (ls st : List vv_T) (X : mx_T) : Prop := wl_W (PPl a0 L xs b) ZZl b D l mL_law 25 mc ms pc ls st X (fun _ _ => True)
section EE
variable {a0 L : Nat} {xs : Nat → Int32} {b : Nat} {D : md_T} {l : Launch} {mc ms pc np : Nat} {ls st : List vv_T} {X : mx_T}
theorem rr_elen (hd : op_at mL_law pc .arraylength 1 np) (kk : WL a0 L xs b D l mc ms np ls (vv_I (nI L) :: st) X) : WL a0 L xs b D l mc ms pc ls (vv_E a0 :: st) X := by
  intro p e R s m args below meth c H locs cells slots MC MS arr hS hR hc hs hV hX hL
  obtain ⟨hd, rfl⟩ := hd
  obtain ⟨-, -, hsz, ⟨scr, h1, h2, h3, h4, h5⟩, hlt, -, -⟩ := hS.2.2.2.2.2.2.2.1
  have hH : H[a0]? = some scr := by rw [hV.2.1 a0 (by omega) (by show ¬ b ≤ a0; omega)]; exact h1
  exact W.alen (n := nI L) hS.1 hS.2.1 hH h2 (by rw [h4]; rfl) rfl rfl hd (kk p e R s m args below meth c H locs cells slots MC MS arr hS hR hc hs hV hX hL)
theorem rr_eild {j : Int32} {t : Nat} (hd : op_at mL_law pc .iaload 1 np) (hj : j = nI t) (ht : t < L) (hL : L ≤ 3072) (kk : WL a0 L xs b D l mc ms np ls (vv_I (xs t) :: st) X) : WL a0 L xs b D l mc ms pc ls (vv_I j :: vv_E a0 :: st) X := by
  intro p e R s m args below meth c H locs cells slots MC MS arr hS hR hc hs hV hX hLL
  obtain ⟨hd, rfl⟩ := hd
  obtain ⟨-, -, hsz, ⟨scr, h1, h2, h3, h4, h5⟩, hlt, -, -⟩ := hS.2.2.2.2.2.2.2.1
  have hH : H[a0]? = some scr := by rw [hV.2.1 a0 (by omega) (by show ¬ b ≤ a0; omega)]; exact h1
  subst hj
  have hcl : (nI t).toNatClampNeg = t := nI_clamp (by omega)
  refine W.iald (v := .int (xs t)) hS.1 hS.2.1 hH h2 h3 ?_ (by rw [hcl]; exact h5 t ht) rfl rfl hd (kk p e R s m args below meth c H locs cells slots MC MS arr hS hR hc hs hV hX hLL)
  rw [hcl, h4]
  rintro (q | q)
  · rw [show (0 : Int32) = nI 0 from rfl, nI_lt_iff (by omega) (by omega)] at q; omega
  · omega
theorem rr_lcmpE {x : Int64} (hd : op_at mL_law pc .lcmp 1 np) (kk : WL a0 L xs b D l mc ms np ls (vv_I 0 :: st) X) : WL a0 L xs b D l mc ms pc ls (vv_L x :: vv_L x :: st) X := by
  intro p e R s m args below meth c H locs cells slots MC MS arr hS hR hc hs hV hX hL
  obtain ⟨hd, rfl⟩ := hd
  refine W.lcmp hS.1 hS.2.1 hd ?_
  rw [show lg_cmp x x = 0 by simp [lg_cmp]]
  exact kk p e R s m args below meth c H locs cells slots MC MS arr hS hR hc hs hV hX hL
theorem rr_endE (hd : op_at mL_law pc .ireturn 1 np) : WL a0 L xs b D l mc ms pc ls [vv_I 1] X := by
  intro p e R s m args below meth c H locs cells slots MC MS arr hS hR hc hs hV hX hL
  obtain ⟨rfl, rfl, hsz, -, -, rfl, rfl⟩ := hS.2.2.2.2.2.2.2.1
  refine va_forget (fun q hq => by have h : b ≤ q.base := hV.2.2 q hq; omega) (W.widen (k := 600000) (n := 7302250) (by omega) (by omega) ?_)
  exact lw_ret hS.1 hS.2.1 hS.2.2.2.1 hS.2.2.2.2.2.2.1 hd.1
end EE
section CC
variable {PP : PP_T} {ZZ : ZZ_T} {b : Nat} {D : md_T} {l : Launch} {k : mm_T} {d mc ms pc np : Nat} {ls : List vv_T} {Q : Option vv_T → mx_T → Prop} {k2 : mm_T} {i m d2 : Nat} {As st0 rest : List vv_T} {I : Nat → Nat → Int32} {M : Nat → Nat → Int64} {Rf : Nat → Nat → Option Nat} {n : Nat} {S2 : sg_T} {v : Int32}
theorem rr_cVC (hM : wm_C l k2 d2 0 0 (vv_A (some 0) :: As) (I, M, Rf, n) (q_C v S2 I M Rf n)) (hd : op_at k pc (.invokevirtual i) 3 np) (hc : cl_V k k2 i m) (hdd : d2 + 1 ≤ d) (hcn : ∀ q, mCl[4]? = some q → q.1 = k2.1.cls) (ha : 0 < n) (hn : As.length = m) (hst : As.reverse ++ vv_A (some 0) :: rest = st0) (hW : (rest.map vv_c).sum ≤ 8) (kk : ∀ J N, CR_T J N S2 → (∀ a, 46 ≤ a → J a = I a ∧ N a = M a) → wl_W PP ZZ b D l k d mc ms np ls (vv_I v :: rest) (J, N, Rf, n) Q) : wl_W PP ZZ b D l k d mc ms pc ls st0 (I, M, Rf, n) Q :=
  rr_callVY hd hc hM hdd kk_0 (by decide) hcn ha hn hst hW rfl rfl (fun r Y h => by obtain ⟨rfl, J, N, rfl, h1, h2⟩ := h; exact kk J N h1 h2)
theorem rr_cVM (hM : wm_C l k2 d2 0 0 (vv_A (some 46) :: As) (I, M, Rf, n) (q_M v S2 I M Rf n)) (hd : op_at k pc (.invokevirtual i) 3 np) (hc : cl_V k k2 i m) (hdd : d2 + 1 ≤ d) (hcn : ∀ q, mCl[5]? = some q → q.1 = k2.1.cls) (ha : 46 < n) (hn : As.length = m) (hst : As.reverse ++ vv_A (some 46) :: rest = st0) (hW : (rest.map vv_c).sum ≤ 8) (kk : ∀ J N, MR_T J N S2 → (∀ a, a < 46 → J a = I a ∧ N a = M a) → wl_W PP ZZ b D l k d mc ms np ls (vv_I v :: rest) (J, N, Rf, n) Q) : wl_W PP ZZ b D l k d mc ms pc ls st0 (I, M, Rf, n) Q :=
  rr_callVY hd hc hM hdd kk_46 (by decide) hcn ha hn hst hW rfl rfl (fun r Y h => by obtain ⟨rfl, J, N, rfl, h1, h2⟩ := h; exact kk J N h1 h2)
theorem rr_cVN {G : Prop} (hM : wm_C l k2 d2 0 0 (vv_A (some 46) :: As) (I, M, Rf, n) (fun r Y => q_M v S2 I M Rf n r Y ∧ G)) (hd : op_at k pc (.invokevirtual i) 3 np) (hc : cl_V k k2 i m) (hdd : d2 + 1 ≤ d) (hcn : ∀ q, mCl[5]? = some q → q.1 = k2.1.cls) (ha : 46 < n) (hn : As.length = m) (hst : As.reverse ++ vv_A (some 46) :: rest = st0) (hW : (rest.map vv_c).sum ≤ 8) (kk : ∀ J N, G → MR_T J N S2 → (∀ a, a < 46 → J a = I a ∧ N a = M a) → wl_W PP ZZ b D l k d mc ms np ls (vv_I v :: rest) (J, N, Rf, n) Q) : wl_W PP ZZ b D l k d mc ms pc ls st0 (I, M, Rf, n) Q :=
  rr_callVY hd hc hM hdd kk_46 (by decide) hcn ha hn hst hW rfl rfl (fun r Y h => by obtain ⟨⟨rfl, J, N, rfl, h1, h2⟩, hg⟩ := h; exact kk J N hg h1 h2)
theorem rr_cVG {mc1 ms1 : Nat} (hM : wm_C l k2 d2 1 5 (vv_A (some 0) :: As) (I, M, Rf, n) (q_G v S2 I M n)) (hd : op_at k pc (.invokevirtual i) 3 np) (hc : cl_V k k2 i m) (hdd : d2 + 1 ≤ d) (hcn : ∀ q, mCl[4]? = some q → q.1 = k2.1.cls) (ha : 0 < n) (hn : As.length = m) (hst : As.reverse ++ vv_A (some 0) :: rest = st0) (hW : (rest.map vv_c).sum ≤ 8) (h1 : mc1 + 1 = mc) (h2 : ms1 + 5 = ms) (kk : ∀ J N R2 n2, wd_T R2 n2 → CR_T J N S2 → (∀ a, 46 ≤ a → a < n → J a = I a ∧ N a = M a) → wl_W PP ZZ b D l k d mc1 ms1 np ls (vv_I v :: rest) (J, N, R2, n2) Q) : wl_W PP ZZ b D l k d mc ms pc ls st0 (I, M, Rf, n) Q :=
  rr_callVY hd hc hM hdd kk_0 (by decide) hcn ha hn hst hW h1 h2 (fun r Y h => by obtain ⟨rfl, J, N, R2, n2, rfl, -, g1, g2, g3⟩ := h; exact kk J N R2 n2 g1 g2 g3)
theorem rr_cVQ {a ci : Nat} {X : mx_T} (hM : wm_C l k2 d2 0 0 (vv_A (some a) :: As) X (q_i v X)) (hd : op_at k pc (.invokevirtual i) 3 np) (hc : cl_V k k2 i m) (hdd : d2 + 1 ≤ d) (hk : kO a = ci) (hci : ci < 6) (hcn : ∀ q, mCl[ci]? = some q → q.1 = k2.1.cls) (ha : a < X.2.2.2) (hn : As.length = m) (hst : As.reverse ++ vv_A (some a) :: rest = st0) (hW : (rest.map vv_c).sum ≤ 8) (kk : wl_W PP ZZ b D l k d mc ms np ls (vv_I v :: rest) X Q) : wl_W PP ZZ b D l k d mc ms pc ls st0 X Q :=
  rr_callVY hd hc hM hdd hk hci hcn ha hn hst hW rfl rfl (fun r Y h => by obtain ⟨rfl, rfl⟩ := h; exact kk)
theorem rr_cVR {a ci : Nat} {X : mx_T} {v : Int64} (hM : wm_C l k2 d2 0 0 (vv_A (some a) :: As) X (q_l v X)) (hd : op_at k pc (.invokevirtual i) 3 np) (hc : cl_V k k2 i m) (hdd : d2 + 1 ≤ d) (hk : kO a = ci) (hci : ci < 6) (hcn : ∀ q, mCl[ci]? = some q → q.1 = k2.1.cls) (ha : a < X.2.2.2) (hn : As.length = m) (hst : As.reverse ++ vv_A (some a) :: rest = st0) (hW : (rest.map vv_c).sum ≤ 8) (kk : wl_W PP ZZ b D l k d mc ms np ls (vv_L v :: rest) X Q) : wl_W PP ZZ b D l k d mc ms pc ls st0 X Q :=
  rr_callVY hd hc hM hdd hk hci hcn ha hn hst hW rfl rfl (fun r Y h => by obtain ⟨rfl, rfl⟩ := h; exact kk)
end CC
theorem MR_cut {I J : Nat → Nat → Int32} {L M : Nat → Nat → Int64} {S : sg_T} (h : MR_T I L S) (hJ : ∀ a, 46 ≤ a → a < 67 → J a = I a ∧ M a = L a) : MR_T J M S := by
  obtain ⟨h1, h2, h3, h4, h5, h6, h7, h8, h9⟩ := h
  have e : ∀ a, 46 ≤ a → a < 67 → J a = I a := fun a q1 q2 => (hJ a q1 q2).1
  refine ⟨mg_ce h1 (fun f _ => by rw [e 46 (by omega) (by omega)]) (fun a q1 q2 => e a (by omega) (by omega)), by rw [e 46 (by omega) (by omega)]; exact h2, fun q => ?_, fun k hk => by rw [e 47 (by omega) (by omega)]; exact h4 k hk, by rw [e 46 (by omega) (by omega)]; exact h5, fun s hs => ?_, fun k hk => by rw [e 66 (by omega) (by omega)]; exact h7 k hk, by rw [e 46 (by omega) (by omega)]; exact h8, fun k hk => by rw [e 61 (by omega) (by omega)]; exact h9 k hk⟩
  · have := h3 q
    unfold ka_T
    rw [e 64 (by omega) (by omega)]
    exact this
  · have := h6 s hs
    unfold mh_T
    rw [e 55 (by omega) (by omega), e 56 (by omega) (by omega), e 57 (by omega) (by omega), e 58 (by omega) (by omega), (hJ 59 (by omega) (by omega)).2]
    exact this
theorem ite_le {sg : Nat → Int32} {B : gb_T} {s : rs_T} : g_n (b_G B) ≤ g_n (b_G (m_ite sg B s).1) := by
  have h5 : ∀ (B : gb_T) s, g_n (b_G B) ≤ g_n (b_G (m_th5 sg B s).1) := by
    intro B s
    have hif : ∀ (c : Prop) [Decidable c] (B2 : gb_T), g_n (b_G B) ≤ g_n (b_G B2) → g_n (b_G B) ≤ g_n (b_G (if c then B2 else B)) := by
      intro c _ B2 h
      split
      · exact h
      · exact Nat.le_refl _
    simp only [m_th5]
    exact hif _ _ (Nat.le_succ _)
  have h2 : ∀ (wp w : Nat) (s : rs_T), g_n (b_G B) ≤ g_n (b_G (m_it2 sg B wp w s).1) := by
    intro wp w s
    match w with
    | 0 =>
      show g_n (b_G B) ≤ g_n (b_G (m_thi sg B wp s).1)
      unfold m_thi
      split
      · exact Nat.le_refl _
      · exact h5 B s
    | 1 => exact Nat.le_refl _
    | 2 => exact Nat.le_refl _
    | 3 =>
      simp only [m_it2]
      split
      · exact Nat.le_refl _
      · exact Nat.le_refl _
    | w + 4 =>
      simp only [m_it2]
      split
      · exact Nat.le_refl _
      · exact Nat.le_refl _
  unfold m_ite
  cases wo_N sg s.1 5 0 0 with
  | mk o p =>
    cases o with
    | none => exact Nat.le_refl _
    | some w => exact h2 _ _ _
theorem its_le {z : Nat} {sg : Nat → Int32} : ∀ m it (B : gb_T) (s : rs_T), g_n (b_G B) ≤ g_n (b_G (m_its z sg m it B s).2.1) := by
  intro m
  induction m with
  | zero => intro it B s; exact Nat.le_refl _
  | succ m ih =>
    intro it B s
    simp only [m_its]
    split
    · exact ite_le
    · split
      · exact Nat.le_trans ite_le (ih _ _ _)
      · exact ite_le
theorem iv_gnd {S : sg_T} (hI : IV_T S) (s : Int32) (hg : gI_T (z_B (f_ground S s).2)) : IV_T (f_ground S s).2 := by
  unfold f_ground at hg ⊢
  split
  · exact hI
  · next h =>
    simp only [] at hg ⊢
    rw [if_neg h] at hg
    split
    · next e =>
      rw [e] at hg
      exact IV_B (S := w_fl S (-1)) hI hg (its_le _ _ _ _)
    · exact hI
theorem lc_0 (l : Launch) {a0 L b : Nat} {xs : Nat → Int32} {D : md_T} (hL : L ≤ 3072) {I : Nat → Nat → Int32} {M : Nat → Nat → Int64} {Rf : Nat → Nat → Option Nat} {n : Nat} {S : sg_T} (W : wd_T Rf n) (hC : CR_T I M S) (hM : MR_T I M S) (hI : IV_T S) {t : Nat} (ht : t + 6 ≤ L) {mc ms : Nat} (hP : ∀ (J : Nat → Nat → Int32) (N : Nat → Nat → Int64) (R2 : Nat → Nat → Option Nat) (n2 : Nat) (S2 : sg_T), wd_T R2 n2 → CR_T J N S2 → MR_T J N S2 → IV_T S2 → WL a0 L xs b D l mc ms 1435 [vv_E a0, vv_A (some 0), vv_A (some 46), vv_I (nI t)] [] (J, N, R2, n2)) : WL a0 L xs b D l mc ms 216 [vv_E a0, vv_A (some 0), vv_A (some 46), vv_I (nI t)] [] (I, M, Rf, n) := by
  have h67 : 67 ≤ n := W.1
  refine ra_1Y oL_law_216 ?_
  refine re_0Y oL_law_217 ?_
  refine ri_3Y oL_law_218 ?_
  refine rk_1Y oL_law_219 ?_
  refine rr_iaddY oL_law_220 ?_
  refine rr_eild (t := t + 1) oL_law_221 (nI_add t 1) (by omega) hL ?_
  refine re_0Y oL_law_222 ?_
  refine ri_3Y oL_law_223 ?_
  refine rk_2Y oL_law_224 ?_
  refine rr_iaddY oL_law_225 ?_
  refine rr_eild (t := t + 2) oL_law_226 (nI_add t 2) (by omega) hL ?_
  refine re_0Y oL_law_227 ?_
  refine ri_3Y oL_law_228 ?_
  refine rk_3Y oL_law_229 ?_
  refine rr_iaddY oL_law_230 ?_
  refine rr_eild (t := t + 3) oL_law_231 (nI_add t 3) (by omega) hL ?_
  refine rr_cVC (c_X4_row l W hC hI) oL_law_232 (cv_L_13 rfl) (by decide) hcn_4 (by omega) rfl rfl (Nat.le_of_ble_eq_true rfl) (fun J N hC2 hf => ?_)
  have hM2 : MR_T J N S := MR_cut hM (fun a h1 _ => hf a h1)
  refine ra_2Y oL_law_235 ?_
  refine re_0Y oL_law_236 ?_
  refine ri_3Y oL_law_237 ?_
  refine rk_1Y oL_law_238 ?_
  refine rr_iaddY oL_law_239 ?_
  refine rr_eild (t := t + 1) oL_law_240 (nI_add t 1) (by omega) hL ?_
  refine re_0Y oL_law_241 ?_
  refine ri_3Y oL_law_242 ?_
  refine rk_2Y oL_law_243 ?_
  refine rr_iaddY oL_law_244 ?_
  refine rr_eild (t := t + 2) oL_law_245 (nI_add t 2) (by omega) hL ?_
  refine re_0Y oL_law_246 ?_
  refine ri_3Y oL_law_247 ?_
  refine rk_3Y oL_law_248 ?_
  refine rr_iaddY oL_law_249 ?_
  refine rr_eild (t := t + 3) oL_law_250 (nI_add t 3) (by omega) hL ?_
  refine rr_cVM (c_X5_row l W hM2 hI) oL_law_251 (cv_L_17 rfl) (by decide) hcn_5 (by omega) rfl rfl (Nat.le_of_ble_eq_true rfl) (fun J2 N2 hM3 hf2 => ?_)
  refine rr_icmp_eqY (tgt := 1435) oL_law_254 (by decide) (fun _ => ?_) (fun c => absurd rfl c)
  exact hP J2 N2 Rf n _ W (CR_cut hC2 (fun a ha => (hf2 a ha).1) (fun a ha => (hf2 a ha).2)) hM3 (iv_row hI _ _ _)
theorem lc_1 (l : Launch) {a0 L b : Nat} {xs : Nat → Int32} {D : md_T} (hL : L ≤ 3072) {I : Nat → Nat → Int32} {M : Nat → Nat → Int64} {Rf : Nat → Nat → Option Nat} {n : Nat} {S : sg_T} (W : wd_T Rf n) (hC : CR_T I M S) (hM : MR_T I M S) (hI : IV_T S) {t : Nat} (ht : t + 6 ≤ L) {mc ms : Nat} (hP : ∀ (J : Nat → Nat → Int32) (N : Nat → Nat → Int64) (R2 : Nat → Nat → Option Nat) (n2 : Nat) (S2 : sg_T), wd_T R2 n2 → CR_T J N S2 → MR_T J N S2 → IV_T S2 → WL a0 L xs b D l mc ms 1435 [vv_E a0, vv_A (some 0), vv_A (some 46), vv_I (nI t)] [] (J, N, R2, n2)) : WL a0 L xs b D l mc ms 259 [vv_E a0, vv_A (some 0), vv_A (some 46), vv_I (nI t)] [] (I, M, Rf, n) := by
  have h67 : 67 ≤ n := W.1
  refine ra_1Y oL_law_259 ?_
  refine re_0Y oL_law_260 ?_
  refine ri_3Y oL_law_261 ?_
  refine rk_1Y oL_law_262 ?_
  refine rr_iaddY oL_law_263 ?_
  refine rr_eild (t := t + 1) oL_law_264 (nI_add t 1) (by omega) hL ?_
  refine re_0Y oL_law_265 ?_
  refine ri_3Y oL_law_266 ?_
  refine rk_2Y oL_law_267 ?_
  refine rr_iaddY oL_law_268 ?_
  refine rr_eild (t := t + 2) oL_law_269 (nI_add t 2) (by omega) hL ?_
  refine re_0Y oL_law_270 ?_
  refine ri_3Y oL_law_271 ?_
  refine rk_3Y oL_law_272 ?_
  refine rr_iaddY oL_law_273 ?_
  refine rr_eild (t := t + 3) oL_law_274 (nI_add t 3) (by omega) hL ?_
  refine rr_i2lY oL_law_275 ?_
  refine rr_bipushY (v := 32) oL_law_276 (by decide) ?_
  refine rr_lshlY oL_law_278 ?_
  refine re_0Y oL_law_279 ?_
  refine ri_3Y oL_law_280 ?_
  refine rk_4Y oL_law_281 ?_
  refine rr_iaddY oL_law_282 ?_
  refine rr_eild (t := t + 4) oL_law_283 (nI_add t 4) (by omega) hL ?_
  refine rr_i2lY oL_law_284 ?_
  refine rr_ldc2Y (v := 4294967295) oL_law_285 (gw_in (i := 1360) (by decide +kernel) (by decide +kernel)) ?_
  refine rr_landY oL_law_288 ?_
  refine rr_lorY oL_law_289 ?_
  refine rr_cVC (c_X4_set l W hC hI) oL_law_290 (cv_L_20 rfl) (by decide) hcn_4 (by omega) rfl rfl (Nat.le_of_ble_eq_true rfl) (fun J N hC2 hf => ?_)
  have hM2 : MR_T J N S := MR_cut hM (fun a h1 _ => hf a h1)
  refine ra_2Y oL_law_293 ?_
  refine re_0Y oL_law_294 ?_
  refine ri_3Y oL_law_295 ?_
  refine rk_1Y oL_law_296 ?_
  refine rr_iaddY oL_law_297 ?_
  refine rr_eild (t := t + 1) oL_law_298 (nI_add t 1) (by omega) hL ?_
  refine re_0Y oL_law_299 ?_
  refine ri_3Y oL_law_300 ?_
  refine rk_2Y oL_law_301 ?_
  refine rr_iaddY oL_law_302 ?_
  refine rr_eild (t := t + 2) oL_law_303 (nI_add t 2) (by omega) hL ?_
  refine re_0Y oL_law_304 ?_
  refine ri_3Y oL_law_305 ?_
  refine rk_3Y oL_law_306 ?_
  refine rr_iaddY oL_law_307 ?_
  refine rr_eild (t := t + 3) oL_law_308 (nI_add t 3) (by omega) hL ?_
  refine rr_i2lY oL_law_309 ?_
  refine rr_bipushY (v := 32) oL_law_310 (by decide) ?_
  refine rr_lshlY oL_law_312 ?_
  refine re_0Y oL_law_313 ?_
  refine ri_3Y oL_law_314 ?_
  refine rk_4Y oL_law_315 ?_
  refine rr_iaddY oL_law_316 ?_
  refine rr_eild (t := t + 4) oL_law_317 (nI_add t 4) (by omega) hL ?_
  refine rr_i2lY oL_law_318 ?_
  refine rr_ldc2Y (v := 4294967295) oL_law_319 (gw_in (i := 1360) (by decide +kernel) (by decide +kernel)) ?_
  refine rr_landY oL_law_322 ?_
  refine rr_lorY oL_law_323 ?_
  refine rr_cVM (c_X5_set l W hM2 hI) oL_law_324 (cv_L_24 rfl) (by decide) hcn_5 (by omega) rfl rfl (Nat.le_of_ble_eq_true rfl) (fun J2 N2 hM3 hf2 => ?_)
  refine rr_icmp_eqY (tgt := 1435) oL_law_327 (by decide) (fun _ => ?_) (fun c => absurd rfl c)
  exact hP J2 N2 Rf n _ W (CR_cut hC2 (fun a ha => (hf2 a ha).1) (fun a ha => (hf2 a ha).2)) hM3 (iv_set hI _ _ _)
theorem lc_2 (l : Launch) {a0 L b : Nat} {xs : Nat → Int32} {D : md_T} (hL : L ≤ 3072) {I : Nat → Nat → Int32} {M : Nat → Nat → Int64} {Rf : Nat → Nat → Option Nat} {n : Nat} {S : sg_T} (W : wd_T Rf n) (hC : CR_T I M S) (hM : MR_T I M S) (hI : IV_T S) {t : Nat} (ht : t + 6 ≤ L) {mc ms : Nat} (hP : ∀ (J : Nat → Nat → Int32) (N : Nat → Nat → Int64) (R2 : Nat → Nat → Option Nat) (n2 : Nat) (S2 : sg_T), wd_T R2 n2 → CR_T J N S2 → MR_T J N S2 → IV_T S2 → WL a0 L xs b D l mc ms 1435 [vv_E a0, vv_A (some 0), vv_A (some 46), vv_I (nI t)] [] (J, N, R2, n2)) : WL a0 L xs b D l mc ms 332 [vv_E a0, vv_A (some 0), vv_A (some 46), vv_I (nI t)] [] (I, M, Rf, n) := by
  have h67 : 67 ≤ n := W.1
  refine ra_1Y oL_law_332 ?_
  refine re_0Y oL_law_333 ?_
  refine ri_3Y oL_law_334 ?_
  refine rk_1Y oL_law_335 ?_
  refine rr_iaddY oL_law_336 ?_
  refine rr_eild (t := t + 1) oL_law_337 (nI_add t 1) (by omega) hL ?_
  refine re_0Y oL_law_338 ?_
  refine ri_3Y oL_law_339 ?_
  refine rk_2Y oL_law_340 ?_
  refine rr_iaddY oL_law_341 ?_
  refine rr_eild (t := t + 2) oL_law_342 (nI_add t 2) (by omega) hL ?_
  refine re_0Y oL_law_343 ?_
  refine ri_3Y oL_law_344 ?_
  refine rk_3Y oL_law_345 ?_
  refine rr_iaddY oL_law_346 ?_
  refine rr_eild (t := t + 3) oL_law_347 (nI_add t 3) (by omega) hL ?_
  refine re_0Y oL_law_348 ?_
  refine ri_3Y oL_law_349 ?_
  refine rk_4Y oL_law_350 ?_
  refine rr_iaddY oL_law_351 ?_
  refine rr_eild (t := t + 4) oL_law_352 (nI_add t 4) (by omega) hL ?_
  refine re_0Y oL_law_353 ?_
  refine ri_3Y oL_law_354 ?_
  refine rk_5Y oL_law_355 ?_
  refine rr_iaddY oL_law_356 ?_
  refine rr_eild (t := t + 5) oL_law_357 (nI_add t 5) (by omega) hL ?_
  refine rr_cVC (c_X4_copy l W hC hI) oL_law_358 (cv_L_25 rfl) (by decide) hcn_4 (by omega) rfl rfl (Nat.le_of_ble_eq_true rfl) (fun J N hC2 hf => ?_)
  have hM2 : MR_T J N S := MR_cut hM (fun a h1 _ => hf a h1)
  refine ra_2Y oL_law_361 ?_
  refine re_0Y oL_law_362 ?_
  refine ri_3Y oL_law_363 ?_
  refine rk_1Y oL_law_364 ?_
  refine rr_iaddY oL_law_365 ?_
  refine rr_eild (t := t + 1) oL_law_366 (nI_add t 1) (by omega) hL ?_
  refine re_0Y oL_law_367 ?_
  refine ri_3Y oL_law_368 ?_
  refine rk_2Y oL_law_369 ?_
  refine rr_iaddY oL_law_370 ?_
  refine rr_eild (t := t + 2) oL_law_371 (nI_add t 2) (by omega) hL ?_
  refine re_0Y oL_law_372 ?_
  refine ri_3Y oL_law_373 ?_
  refine rk_3Y oL_law_374 ?_
  refine rr_iaddY oL_law_375 ?_
  refine rr_eild (t := t + 3) oL_law_376 (nI_add t 3) (by omega) hL ?_
  refine re_0Y oL_law_377 ?_
  refine ri_3Y oL_law_378 ?_
  refine rk_4Y oL_law_379 ?_
  refine rr_iaddY oL_law_380 ?_
  refine rr_eild (t := t + 4) oL_law_381 (nI_add t 4) (by omega) hL ?_
  refine re_0Y oL_law_382 ?_
  refine ri_3Y oL_law_383 ?_
  refine rk_5Y oL_law_384 ?_
  refine rr_iaddY oL_law_385 ?_
  refine rr_eild (t := t + 5) oL_law_386 (nI_add t 5) (by omega) hL ?_
  refine rr_cVM (c_X5_copy l W hM2 hI) oL_law_387 (cv_L_29 rfl) (by decide) hcn_5 (by omega) rfl rfl (Nat.le_of_ble_eq_true rfl) (fun J2 N2 hM3 hf2 => ?_)
  refine rr_icmp_eqY (tgt := 1435) oL_law_390 (by decide) (fun _ => ?_) (fun c => absurd rfl c)
  exact hP J2 N2 Rf n _ W (CR_cut hC2 (fun a ha => (hf2 a ha).1) (fun a ha => (hf2 a ha).2)) hM3 (iv_copy hI _ _ _ _ _)
theorem lc_3 (l : Launch) {a0 L b : Nat} {xs : Nat → Int32} {D : md_T} (hL : L ≤ 3072) {I : Nat → Nat → Int32} {M : Nat → Nat → Int64} {Rf : Nat → Nat → Option Nat} {n : Nat} {S : sg_T} (W : wd_T Rf n) (hC : CR_T I M S) (hM : MR_T I M S) (hI : IV_T S) {t : Nat} (ht : t + 6 ≤ L) {mc ms : Nat} (hP : ∀ (J : Nat → Nat → Int32) (N : Nat → Nat → Int64) (R2 : Nat → Nat → Option Nat) (n2 : Nat) (S2 : sg_T), wd_T R2 n2 → CR_T J N S2 → MR_T J N S2 → IV_T S2 → WL a0 L xs b D l mc ms 1435 [vv_E a0, vv_A (some 0), vv_A (some 46), vv_I (nI t)] [] (J, N, R2, n2)) : WL a0 L xs b D l mc ms 395 [vv_E a0, vv_A (some 0), vv_A (some 46), vv_I (nI t)] [] (I, M, Rf, n) := by
  have h67 : 67 ≤ n := W.1
  refine ra_1Y oL_law_395 ?_
  refine re_0Y oL_law_396 ?_
  refine ri_3Y oL_law_397 ?_
  refine rk_1Y oL_law_398 ?_
  refine rr_iaddY oL_law_399 ?_
  refine rr_eild (t := t + 1) oL_law_400 (nI_add t 1) (by omega) hL ?_
  refine re_0Y oL_law_401 ?_
  refine ri_3Y oL_law_402 ?_
  refine rk_2Y oL_law_403 ?_
  refine rr_iaddY oL_law_404 ?_
  refine rr_eild (t := t + 2) oL_law_405 (nI_add t 2) (by omega) hL ?_
  refine rr_cVR (c_X4_element l W hC hI) oL_law_406 (cv_L_30 rfl) (by decide) kk_0 (by decide) hcn_4 (show 0 < n from by omega) rfl rfl (Nat.le_of_ble_eq_true rfl) ?_
  refine ra_2Y oL_law_409 ?_
  refine re_0Y oL_law_410 ?_
  refine ri_3Y oL_law_411 ?_
  refine rk_1Y oL_law_412 ?_
  refine rr_iaddY oL_law_413 ?_
  refine rr_eild (t := t + 1) oL_law_414 (nI_add t 1) (by omega) hL ?_
  refine re_0Y oL_law_415 ?_
  refine ri_3Y oL_law_416 ?_
  refine rk_2Y oL_law_417 ?_
  refine rr_iaddY oL_law_418 ?_
  refine rr_eild (t := t + 2) oL_law_419 (nI_add t 2) (by omega) hL ?_
  refine rr_cVR (c_X5_element l W hM hI) oL_law_420 (cv_L_34 rfl) (by decide) kk_46 (by decide) hcn_5 (show 46 < n from by omega) rfl rfl (Nat.le_of_ble_eq_true rfl) ?_
  refine rr_lcmpE oL_law_423 ?_
  refine rr_if_eqY (tgt := 1435) oL_law_424 (by decide) (fun _ => ?_) (fun c => absurd rfl c)
  exact hP I M Rf n S W hC hM hI
theorem lc_4 (l : Launch) {a0 L b : Nat} {xs : Nat → Int32} {D : md_T} (hL : L ≤ 3072) {I : Nat → Nat → Int32} {M : Nat → Nat → Int64} {Rf : Nat → Nat → Option Nat} {n : Nat} {S : sg_T} (W : wd_T Rf n) (hC : CR_T I M S) (hM : MR_T I M S) (hI : IV_T S) {t : Nat} (ht : t + 6 ≤ L) {mc ms : Nat} (hP : ∀ (J : Nat → Nat → Int32) (N : Nat → Nat → Int64) (R2 : Nat → Nat → Option Nat) (n2 : Nat) (S2 : sg_T), wd_T R2 n2 → CR_T J N S2 → MR_T J N S2 → IV_T S2 → WL a0 L xs b D l mc ms 1435 [vv_E a0, vv_A (some 0), vv_A (some 46), vv_I (nI t)] [] (J, N, R2, n2)) : WL a0 L xs b D l mc ms 429 [vv_E a0, vv_A (some 0), vv_A (some 46), vv_I (nI t)] [] (I, M, Rf, n) := by
  have h67 : 67 ≤ n := W.1
  refine ra_1Y oL_law_429 ?_
  refine re_0Y oL_law_430 ?_
  refine ri_3Y oL_law_431 ?_
  refine rk_1Y oL_law_432 ?_
  refine rr_iaddY oL_law_433 ?_
  refine rr_eild (t := t + 1) oL_law_434 (nI_add t 1) (by omega) hL ?_
  refine re_0Y oL_law_435 ?_
  refine ri_3Y oL_law_436 ?_
  refine rk_2Y oL_law_437 ?_
  refine rr_iaddY oL_law_438 ?_
  refine rr_eild (t := t + 2) oL_law_439 (nI_add t 2) (by omega) hL ?_
  refine rr_cVC (c_X4_show l W hC hI) oL_law_440 (cv_L_35 rfl) (by decide) hcn_4 (by omega) rfl rfl (Nat.le_of_ble_eq_true rfl) (fun J N hC2 hf => ?_)
  have hM2 : MR_T J N S := MR_cut hM (fun a h1 _ => hf a h1)
  refine ra_2Y oL_law_443 ?_
  refine re_0Y oL_law_444 ?_
  refine ri_3Y oL_law_445 ?_
  refine rk_1Y oL_law_446 ?_
  refine rr_iaddY oL_law_447 ?_
  refine rr_eild (t := t + 1) oL_law_448 (nI_add t 1) (by omega) hL ?_
  refine re_0Y oL_law_449 ?_
  refine ri_3Y oL_law_450 ?_
  refine rk_2Y oL_law_451 ?_
  refine rr_iaddY oL_law_452 ?_
  refine rr_eild (t := t + 2) oL_law_453 (nI_add t 2) (by omega) hL ?_
  refine rr_cVM (c_X5_show l W hM2 hI) oL_law_454 (cv_L_39 rfl) (by decide) hcn_5 (by omega) rfl rfl (Nat.le_of_ble_eq_true rfl) (fun J2 N2 hM3 hf2 => ?_)
  refine rr_icmp_eqY (tgt := 1435) oL_law_457 (by decide) (fun _ => ?_) (fun c => absurd rfl c)
  exact hP J2 N2 Rf n _ W (CR_cut hC2 (fun a ha => (hf2 a ha).1) (fun a ha => (hf2 a ha).2)) hM3 (iv_show hI _ _)
theorem lc_5 (l : Launch) {a0 L b : Nat} {xs : Nat → Int32} {D : md_T} (hL : L ≤ 3072) {I : Nat → Nat → Int32} {M : Nat → Nat → Int64} {Rf : Nat → Nat → Option Nat} {n : Nat} {S : sg_T} (W : wd_T Rf n) (hC : CR_T I M S) (hM : MR_T I M S) (hI : IV_T S) {t : Nat} (ht : t + 6 ≤ L) {mc ms : Nat} (hP : ∀ (J : Nat → Nat → Int32) (N : Nat → Nat → Int64) (R2 : Nat → Nat → Option Nat) (n2 : Nat) (S2 : sg_T), wd_T R2 n2 → CR_T J N S2 → MR_T J N S2 → IV_T S2 → WL a0 L xs b D l mc ms 1435 [vv_E a0, vv_A (some 0), vv_A (some 46), vv_I (nI t)] [] (J, N, R2, n2)) : WL a0 L xs b D l mc ms 462 [vv_E a0, vv_A (some 0), vv_A (some 46), vv_I (nI t)] [] (I, M, Rf, n) := by
  have h67 : 67 ≤ n := W.1
  refine ra_1Y oL_law_462 ?_
  refine re_0Y oL_law_463 ?_
  refine ri_3Y oL_law_464 ?_
  refine rk_1Y oL_law_465 ?_
  refine rr_iaddY oL_law_466 ?_
  refine rr_eild (t := t + 1) oL_law_467 (nI_add t 1) (by omega) hL ?_
  refine rr_cVQ (c_X4_holds l W hC hI) oL_law_468 (cv_L_40 rfl) (by decide) kk_0 (by decide) hcn_4 (show 0 < n from by omega) rfl rfl (Nat.le_of_ble_eq_true rfl) ?_
  refine ra_2Y oL_law_471 ?_
  refine re_0Y oL_law_472 ?_
  refine ri_3Y oL_law_473 ?_
  refine rk_1Y oL_law_474 ?_
  refine rr_iaddY oL_law_475 ?_
  refine rr_eild (t := t + 1) oL_law_476 (nI_add t 1) (by omega) hL ?_
  refine rr_cVQ (c_X5_holds l W hM hI) oL_law_477 (cv_L_44 rfl) (by decide) kk_46 (by decide) hcn_5 (show 46 < n from by omega) rfl rfl (Nat.le_of_ble_eq_true rfl) ?_
  refine rr_icmp_eqY (tgt := 1435) oL_law_480 (by decide) (fun _ => ?_) (fun c => absurd rfl c)
  exact hP I M Rf n S W hC hM hI
theorem lc_6 (l : Launch) {a0 L b : Nat} {xs : Nat → Int32} {D : md_T} (hL : L ≤ 3072) {I : Nat → Nat → Int32} {M : Nat → Nat → Int64} {Rf : Nat → Nat → Option Nat} {n : Nat} {S : sg_T} (W : wd_T Rf n) (hC : CR_T I M S) (hM : MR_T I M S) (hI : IV_T S) {t : Nat} (ht : t + 6 ≤ L) {mc ms : Nat} (hP : ∀ (J : Nat → Nat → Int32) (N : Nat → Nat → Int64) (R2 : Nat → Nat → Option Nat) (n2 : Nat) (S2 : sg_T), wd_T R2 n2 → CR_T J N S2 → MR_T J N S2 → IV_T S2 → WL a0 L xs b D l mc ms 1435 [vv_E a0, vv_A (some 0), vv_A (some 46), vv_I (nI t)] [] (J, N, R2, n2)) : WL a0 L xs b D l mc ms 485 [vv_E a0, vv_A (some 0), vv_A (some 46), vv_I (nI t)] [] (I, M, Rf, n) := by
  have h67 : 67 ≤ n := W.1
  refine ra_1Y oL_law_485 ?_
  refine re_0Y oL_law_486 ?_
  refine ri_3Y oL_law_487 ?_
  refine rk_1Y oL_law_488 ?_
  refine rr_iaddY oL_law_489 ?_
  refine rr_eild (t := t + 1) oL_law_490 (nI_add t 1) (by omega) hL ?_
  refine re_0Y oL_law_491 ?_
  refine ri_3Y oL_law_492 ?_
  refine rk_2Y oL_law_493 ?_
  refine rr_iaddY oL_law_494 ?_
  refine rr_eild (t := t + 2) oL_law_495 (nI_add t 2) (by omega) hL ?_
  refine rr_cVC (c_X4_says l W hC hI) oL_law_496 (cv_L_45 rfl) (by decide) hcn_4 (by omega) rfl rfl (Nat.le_of_ble_eq_true rfl) (fun J N hC2 hf => ?_)
  have hM2 : MR_T J N S := MR_cut hM (fun a h1 _ => hf a h1)
  refine ra_2Y oL_law_499 ?_
  refine re_0Y oL_law_500 ?_
  refine ri_3Y oL_law_501 ?_
  refine rk_1Y oL_law_502 ?_
  refine rr_iaddY oL_law_503 ?_
  refine rr_eild (t := t + 1) oL_law_504 (nI_add t 1) (by omega) hL ?_
  refine re_0Y oL_law_505 ?_
  refine ri_3Y oL_law_506 ?_
  refine rk_2Y oL_law_507 ?_
  refine rr_iaddY oL_law_508 ?_
  refine rr_eild (t := t + 2) oL_law_509 (nI_add t 2) (by omega) hL ?_
  refine rr_cVM (c_X5_says l W hM2 hI) oL_law_510 (cv_L_48 rfl) (by decide) hcn_5 (by omega) rfl rfl (Nat.le_of_ble_eq_true rfl) (fun J2 N2 hM3 hf2 => ?_)
  refine rr_icmp_eqY (tgt := 1435) oL_law_513 (by decide) (fun _ => ?_) (fun c => absurd rfl c)
  exact hP J2 N2 Rf n _ W (CR_cut hC2 (fun a ha => (hf2 a ha).1) (fun a ha => (hf2 a ha).2)) hM3 (iv_says hI _ _)
theorem lc_7 (l : Launch) {a0 L b : Nat} {xs : Nat → Int32} {D : md_T} (hL : L ≤ 3072) {I : Nat → Nat → Int32} {M : Nat → Nat → Int64} {Rf : Nat → Nat → Option Nat} {n : Nat} {S : sg_T} (W : wd_T Rf n) (hC : CR_T I M S) (hM : MR_T I M S) (hI : IV_T S) {t : Nat} (ht : t + 6 ≤ L) {mc ms : Nat} (hP : ∀ (J : Nat → Nat → Int32) (N : Nat → Nat → Int64) (R2 : Nat → Nat → Option Nat) (n2 : Nat) (S2 : sg_T), wd_T R2 n2 → CR_T J N S2 → MR_T J N S2 → IV_T S2 → WL a0 L xs b D l mc ms 1435 [vv_E a0, vv_A (some 0), vv_A (some 46), vv_I (nI t)] [] (J, N, R2, n2)) : WL a0 L xs b D l mc ms 518 [vv_E a0, vv_A (some 0), vv_A (some 46), vv_I (nI t)] [] (I, M, Rf, n) := by
  have h67 : 67 ≤ n := W.1
  refine ra_1Y oL_law_518 ?_
  refine re_0Y oL_law_519 ?_
  refine ri_3Y oL_law_520 ?_
  refine rk_1Y oL_law_521 ?_
  refine rr_iaddY oL_law_522 ?_
  refine rr_eild (t := t + 1) oL_law_523 (nI_add t 1) (by omega) hL ?_
  refine re_0Y oL_law_524 ?_
  refine ri_3Y oL_law_525 ?_
  refine rk_2Y oL_law_526 ?_
  refine rr_iaddY oL_law_527 ?_
  refine rr_eild (t := t + 2) oL_law_528 (nI_add t 2) (by omega) hL ?_
  refine re_0Y oL_law_529 ?_
  refine ri_3Y oL_law_530 ?_
  refine rk_3Y oL_law_531 ?_
  refine rr_iaddY oL_law_532 ?_
  refine rr_eild (t := t + 3) oL_law_533 (nI_add t 3) (by omega) hL ?_
  refine re_0Y oL_law_534 ?_
  refine ri_3Y oL_law_535 ?_
  refine rk_4Y oL_law_536 ?_
  refine rr_iaddY oL_law_537 ?_
  refine rr_eild (t := t + 4) oL_law_538 (nI_add t 4) (by omega) hL ?_
  refine re_0Y oL_law_539 ?_
  refine ri_3Y oL_law_540 ?_
  refine rk_5Y oL_law_541 ?_
  refine rr_iaddY oL_law_542 ?_
  refine rr_eild (t := t + 5) oL_law_543 (nI_add t 5) (by omega) hL ?_
  refine rr_cVC (c_X4_thing l W hC hI) oL_law_544 (cv_L_49 rfl) (by decide) hcn_4 (by omega) rfl rfl (Nat.le_of_ble_eq_true rfl) (fun J N hC2 hf => ?_)
  have hM2 : MR_T J N S := MR_cut hM (fun a h1 _ => hf a h1)
  refine ra_2Y oL_law_547 ?_
  refine re_0Y oL_law_548 ?_
  refine ri_3Y oL_law_549 ?_
  refine rk_1Y oL_law_550 ?_
  refine rr_iaddY oL_law_551 ?_
  refine rr_eild (t := t + 1) oL_law_552 (nI_add t 1) (by omega) hL ?_
  refine re_0Y oL_law_553 ?_
  refine ri_3Y oL_law_554 ?_
  refine rk_2Y oL_law_555 ?_
  refine rr_iaddY oL_law_556 ?_
  refine rr_eild (t := t + 2) oL_law_557 (nI_add t 2) (by omega) hL ?_
  refine re_0Y oL_law_558 ?_
  refine ri_3Y oL_law_559 ?_
  refine rk_3Y oL_law_560 ?_
  refine rr_iaddY oL_law_561 ?_
  refine rr_eild (t := t + 3) oL_law_562 (nI_add t 3) (by omega) hL ?_
  refine re_0Y oL_law_563 ?_
  refine ri_3Y oL_law_564 ?_
  refine rk_4Y oL_law_565 ?_
  refine rr_iaddY oL_law_566 ?_
  refine rr_eild (t := t + 4) oL_law_567 (nI_add t 4) (by omega) hL ?_
  refine re_0Y oL_law_568 ?_
  refine ri_3Y oL_law_569 ?_
  refine rk_5Y oL_law_570 ?_
  refine rr_iaddY oL_law_571 ?_
  refine rr_eild (t := t + 5) oL_law_572 (nI_add t 5) (by omega) hL ?_
  refine rr_cVM (c_X5_thing l W hM2 hI) oL_law_573 (cv_L_52 rfl) (by decide) hcn_5 (by omega) rfl rfl (Nat.le_of_ble_eq_true rfl) (fun J2 N2 hM3 hf2 => ?_)
  refine rr_icmp_eqY (tgt := 1435) oL_law_576 (by decide) (fun _ => ?_) (fun c => absurd rfl c)
  exact hP J2 N2 Rf n _ W (CR_cut hC2 (fun a ha => (hf2 a ha).1) (fun a ha => (hf2 a ha).2)) hM3 (iv_thing hI _ _ _ _ _)
theorem lc_8 (l : Launch) {a0 L b : Nat} {xs : Nat → Int32} {D : md_T} (hL : L ≤ 3072) {I : Nat → Nat → Int32} {M : Nat → Nat → Int64} {Rf : Nat → Nat → Option Nat} {n : Nat} {S : sg_T} (W : wd_T Rf n) (hC : CR_T I M S) (hM : MR_T I M S) (hI : IV_T S) {t : Nat} (ht : t + 6 ≤ L) {mc ms : Nat} (hP : ∀ (J : Nat → Nat → Int32) (N : Nat → Nat → Int64) (R2 : Nat → Nat → Option Nat) (n2 : Nat) (S2 : sg_T), wd_T R2 n2 → CR_T J N S2 → MR_T J N S2 → IV_T S2 → WL a0 L xs b D l mc ms 1435 [vv_E a0, vv_A (some 0), vv_A (some 46), vv_I (nI t)] [] (J, N, R2, n2)) : WL a0 L xs b D l mc ms 581 [vv_E a0, vv_A (some 0), vv_A (some 46), vv_I (nI t)] [] (I, M, Rf, n) := by
  have h67 : 67 ≤ n := W.1
  refine ra_1Y oL_law_581 ?_
  refine re_0Y oL_law_582 ?_
  refine ri_3Y oL_law_583 ?_
  refine rk_1Y oL_law_584 ?_
  refine rr_iaddY oL_law_585 ?_
  refine rr_eild (t := t + 1) oL_law_586 (nI_add t 1) (by omega) hL ?_
  refine re_0Y oL_law_587 ?_
  refine ri_3Y oL_law_588 ?_
  refine rk_2Y oL_law_589 ?_
  refine rr_iaddY oL_law_590 ?_
  refine rr_eild (t := t + 2) oL_law_591 (nI_add t 2) (by omega) hL ?_
  refine rr_cVC (c_X4_thingOf l W hC hI) oL_law_592 (cv_L_53 rfl) (by decide) hcn_4 (by omega) rfl rfl (Nat.le_of_ble_eq_true rfl) (fun J N hC2 hf => ?_)
  have hM2 : MR_T J N S := MR_cut hM (fun a h1 _ => hf a h1)
  refine ra_2Y oL_law_595 ?_
  refine re_0Y oL_law_596 ?_
  refine ri_3Y oL_law_597 ?_
  refine rk_1Y oL_law_598 ?_
  refine rr_iaddY oL_law_599 ?_
  refine rr_eild (t := t + 1) oL_law_600 (nI_add t 1) (by omega) hL ?_
  refine re_0Y oL_law_601 ?_
  refine ri_3Y oL_law_602 ?_
  refine rk_2Y oL_law_603 ?_
  refine rr_iaddY oL_law_604 ?_
  refine rr_eild (t := t + 2) oL_law_605 (nI_add t 2) (by omega) hL ?_
  refine rr_cVM (c_X5_thingOf l W hM2 hI) oL_law_606 (cv_L_56 rfl) (by decide) hcn_5 (by omega) rfl rfl (Nat.le_of_ble_eq_true rfl) (fun J2 N2 hM3 hf2 => ?_)
  refine rr_icmp_eqY (tgt := 1435) oL_law_609 (by decide) (fun _ => ?_) (fun c => absurd rfl c)
  exact hP J2 N2 Rf n _ W (CR_cut hC2 (fun a ha => (hf2 a ha).1) (fun a ha => (hf2 a ha).2)) hM3 (iv_thingOf hI _ _)
theorem lc_9 (l : Launch) {a0 L b : Nat} {xs : Nat → Int32} {D : md_T} (hL : L ≤ 3072) {I : Nat → Nat → Int32} {M : Nat → Nat → Int64} {Rf : Nat → Nat → Option Nat} {n : Nat} {S : sg_T} (W : wd_T Rf n) (hC : CR_T I M S) (hM : MR_T I M S) (hI : IV_T S) {t : Nat} (ht : t + 6 ≤ L) {mc ms : Nat} (hP : ∀ (J : Nat → Nat → Int32) (N : Nat → Nat → Int64) (R2 : Nat → Nat → Option Nat) (n2 : Nat) (S2 : sg_T), wd_T R2 n2 → CR_T J N S2 → MR_T J N S2 → IV_T S2 → WL a0 L xs b D l mc ms 1435 [vv_E a0, vv_A (some 0), vv_A (some 46), vv_I (nI t)] [] (J, N, R2, n2)) : WL a0 L xs b D l mc ms 614 [vv_E a0, vv_A (some 0), vv_A (some 46), vv_I (nI t)] [] (I, M, Rf, n) := by
  have h67 : 67 ≤ n := W.1
  refine ra_1Y oL_law_614 ?_
  refine re_0Y oL_law_615 ?_
  refine ri_3Y oL_law_616 ?_
  refine rk_1Y oL_law_617 ?_
  refine rr_iaddY oL_law_618 ?_
  refine rr_eild (t := t + 1) oL_law_619 (nI_add t 1) (by omega) hL ?_
  refine re_0Y oL_law_620 ?_
  refine ri_3Y oL_law_621 ?_
  refine rk_2Y oL_law_622 ?_
  refine rr_iaddY oL_law_623 ?_
  refine rr_eild (t := t + 2) oL_law_624 (nI_add t 2) (by omega) hL ?_
  refine rr_cVC (c_X4_height l W hC hI) oL_law_625 (cv_L_57 rfl) (by decide) hcn_4 (by omega) rfl rfl (Nat.le_of_ble_eq_true rfl) (fun J N hC2 hf => ?_)
  have hM2 : MR_T J N S := MR_cut hM (fun a h1 _ => hf a h1)
  refine ra_2Y oL_law_628 ?_
  refine re_0Y oL_law_629 ?_
  refine ri_3Y oL_law_630 ?_
  refine rk_1Y oL_law_631 ?_
  refine rr_iaddY oL_law_632 ?_
  refine rr_eild (t := t + 1) oL_law_633 (nI_add t 1) (by omega) hL ?_
  refine re_0Y oL_law_634 ?_
  refine ri_3Y oL_law_635 ?_
  refine rk_2Y oL_law_636 ?_
  refine rr_iaddY oL_law_637 ?_
  refine rr_eild (t := t + 2) oL_law_638 (nI_add t 2) (by omega) hL ?_
  refine rr_cVM (c_X5_height l W hM2 hI) oL_law_639 (cv_L_60 rfl) (by decide) hcn_5 (by omega) rfl rfl (Nat.le_of_ble_eq_true rfl) (fun J2 N2 hM3 hf2 => ?_)
  refine rr_icmp_eqY (tgt := 1435) oL_law_642 (by decide) (fun _ => ?_) (fun c => absurd rfl c)
  exact hP J2 N2 Rf n _ W (CR_cut hC2 (fun a ha => (hf2 a ha).1) (fun a ha => (hf2 a ha).2)) hM3 (iv_height hI _ _)
theorem lc_10 (l : Launch) {a0 L b : Nat} {xs : Nat → Int32} {D : md_T} (hL : L ≤ 3072) {I : Nat → Nat → Int32} {M : Nat → Nat → Int64} {Rf : Nat → Nat → Option Nat} {n : Nat} {S : sg_T} (W : wd_T Rf n) (hC : CR_T I M S) (hM : MR_T I M S) (hI : IV_T S) {t : Nat} (ht : t + 6 ≤ L) {mc ms : Nat} (hP : ∀ (J : Nat → Nat → Int32) (N : Nat → Nat → Int64) (R2 : Nat → Nat → Option Nat) (n2 : Nat) (S2 : sg_T), wd_T R2 n2 → CR_T J N S2 → MR_T J N S2 → IV_T S2 → WL a0 L xs b D l mc ms 1435 [vv_E a0, vv_A (some 0), vv_A (some 46), vv_I (nI t)] [] (J, N, R2, n2)) : WL a0 L xs b D l mc ms 647 [vv_E a0, vv_A (some 0), vv_A (some 46), vv_I (nI t)] [] (I, M, Rf, n) := by
  have h67 : 67 ≤ n := W.1
  refine ra_1Y oL_law_647 ?_
  refine re_0Y oL_law_648 ?_
  refine ri_3Y oL_law_649 ?_
  refine rk_1Y oL_law_650 ?_
  refine rr_iaddY oL_law_651 ?_
  refine rr_eild (t := t + 1) oL_law_652 (nI_add t 1) (by omega) hL ?_
  refine re_0Y oL_law_653 ?_
  refine ri_3Y oL_law_654 ?_
  refine rk_2Y oL_law_655 ?_
  refine rr_iaddY oL_law_656 ?_
  refine rr_eild (t := t + 2) oL_law_657 (nI_add t 2) (by omega) hL ?_
  refine rr_cVC (c_X4_ask l W hC hI) oL_law_658 (cv_L_61 rfl) (by decide) hcn_4 (by omega) rfl rfl (Nat.le_of_ble_eq_true rfl) (fun J N hC2 hf => ?_)
  have hM2 : MR_T J N S := MR_cut hM (fun a h1 _ => hf a h1)
  refine ra_2Y oL_law_661 ?_
  refine re_0Y oL_law_662 ?_
  refine ri_3Y oL_law_663 ?_
  refine rk_1Y oL_law_664 ?_
  refine rr_iaddY oL_law_665 ?_
  refine rr_eild (t := t + 1) oL_law_666 (nI_add t 1) (by omega) hL ?_
  refine re_0Y oL_law_667 ?_
  refine ri_3Y oL_law_668 ?_
  refine rk_2Y oL_law_669 ?_
  refine rr_iaddY oL_law_670 ?_
  refine rr_eild (t := t + 2) oL_law_671 (nI_add t 2) (by omega) hL ?_
  refine rr_cVM (c_X5_ask l W hM2 hI) oL_law_672 (cv_L_64 rfl) (by decide) hcn_5 (by omega) rfl rfl (Nat.le_of_ble_eq_true rfl) (fun J2 N2 hM3 hf2 => ?_)
  refine rr_icmp_eqY (tgt := 1435) oL_law_675 (by decide) (fun _ => ?_) (fun c => absurd rfl c)
  exact hP J2 N2 Rf n _ W (CR_cut hC2 (fun a ha => (hf2 a ha).1) (fun a ha => (hf2 a ha).2)) hM3 (iv_ask hI _ _)
theorem lc_11 (l : Launch) {a0 L b : Nat} {xs : Nat → Int32} {D : md_T} (hL : L ≤ 3072) {I : Nat → Nat → Int32} {M : Nat → Nat → Int64} {Rf : Nat → Nat → Option Nat} {n : Nat} {S : sg_T} (W : wd_T Rf n) (hC : CR_T I M S) (hM : MR_T I M S) (hI : IV_T S) {t : Nat} (ht : t + 6 ≤ L) {mc ms : Nat} (hP : ∀ (J : Nat → Nat → Int32) (N : Nat → Nat → Int64) (R2 : Nat → Nat → Option Nat) (n2 : Nat) (S2 : sg_T), wd_T R2 n2 → CR_T J N S2 → MR_T J N S2 → IV_T S2 → WL a0 L xs b D l mc ms 1435 [vv_E a0, vv_A (some 0), vv_A (some 46), vv_I (nI t)] [] (J, N, R2, n2)) : WL a0 L xs b D l mc ms 680 [vv_E a0, vv_A (some 0), vv_A (some 46), vv_I (nI t)] [] (I, M, Rf, n) := by
  have h67 : 67 ≤ n := W.1
  refine ra_1Y oL_law_680 ?_
  refine re_0Y oL_law_681 ?_
  refine ri_3Y oL_law_682 ?_
  refine rk_1Y oL_law_683 ?_
  refine rr_iaddY oL_law_684 ?_
  refine rr_eild (t := t + 1) oL_law_685 (nI_add t 1) (by omega) hL ?_
  refine re_0Y oL_law_686 ?_
  refine ri_3Y oL_law_687 ?_
  refine rk_2Y oL_law_688 ?_
  refine rr_iaddY oL_law_689 ?_
  refine rr_eild (t := t + 2) oL_law_690 (nI_add t 2) (by omega) hL ?_
  refine re_0Y oL_law_691 ?_
  refine ri_3Y oL_law_692 ?_
  refine rk_3Y oL_law_693 ?_
  refine rr_iaddY oL_law_694 ?_
  refine rr_eild (t := t + 3) oL_law_695 (nI_add t 3) (by omega) hL ?_
  refine rr_if_eqY (tgt := 703) oL_law_696 (by decide) (fun c1 => ?_) (fun c1 => ?_)
  · skip
    refine rk_0Y oL_law_703 ?_
    refine rr_cVC (c_X4_shut (w := false) l W hC hI) oL_law_704 (cv_L_65 rfl) (by decide) hcn_4 (by omega) rfl rfl (Nat.le_of_ble_eq_true rfl) (fun J N hC2 hf => ?_)
    have hM2 : MR_T J N S := MR_cut hM (fun a h1 _ => hf a h1)
    refine ra_2Y oL_law_707 ?_
    refine re_0Y oL_law_708 ?_
    refine ri_3Y oL_law_709 ?_
    refine rk_1Y oL_law_710 ?_
    refine rr_iaddY oL_law_711 ?_
    refine rr_eild (t := t + 1) oL_law_712 (nI_add t 1) (by omega) hL ?_
    refine re_0Y oL_law_713 ?_
    refine ri_3Y oL_law_714 ?_
    refine rk_2Y oL_law_715 ?_
    refine rr_iaddY oL_law_716 ?_
    refine rr_eild (t := t + 2) oL_law_717 (nI_add t 2) (by omega) hL ?_
    refine re_0Y oL_law_718 ?_
    refine ri_3Y oL_law_719 ?_
    refine rk_3Y oL_law_720 ?_
    refine rr_iaddY oL_law_721 ?_
    refine rr_eild (t := t + 3) oL_law_722 (nI_add t 3) (by omega) hL ?_
    refine rr_if_eqY (tgt := 730) oL_law_723 (by decide) (fun _ => ?_) (fun c => absurd c1 c)
    refine rk_0Y oL_law_730 ?_
    refine rr_cVM (c_X5_shut (w := false) l W hM2 hI) oL_law_731 (cv_L_69 rfl) (by decide) hcn_5 (by omega) rfl rfl (Nat.le_of_ble_eq_true rfl) (fun J2 N2 hM3 hf2 => ?_)
    refine rr_icmp_eqY (tgt := 1435) oL_law_734 (by decide) (fun _ => ?_) (fun c => absurd rfl c)
    exact hP J2 N2 Rf n _ W (CR_cut hC2 (fun a ha => (hf2 a ha).1) (fun a ha => (hf2 a ha).2)) hM3 (iv_shut hI _ _ _)
  · skip
    refine rk_1Y oL_law_699 ?_
    refine rr_gotoY (tgt := 704) oL_law_700 (by decide) ?_
    refine rr_cVC (c_X4_shut (w := true) l W hC hI) oL_law_704 (cv_L_65 rfl) (by decide) hcn_4 (by omega) rfl rfl (Nat.le_of_ble_eq_true rfl) (fun J N hC2 hf => ?_)
    have hM2 : MR_T J N S := MR_cut hM (fun a h1 _ => hf a h1)
    refine ra_2Y oL_law_707 ?_
    refine re_0Y oL_law_708 ?_
    refine ri_3Y oL_law_709 ?_
    refine rk_1Y oL_law_710 ?_
    refine rr_iaddY oL_law_711 ?_
    refine rr_eild (t := t + 1) oL_law_712 (nI_add t 1) (by omega) hL ?_
    refine re_0Y oL_law_713 ?_
    refine ri_3Y oL_law_714 ?_
    refine rk_2Y oL_law_715 ?_
    refine rr_iaddY oL_law_716 ?_
    refine rr_eild (t := t + 2) oL_law_717 (nI_add t 2) (by omega) hL ?_
    refine re_0Y oL_law_718 ?_
    refine ri_3Y oL_law_719 ?_
    refine rk_3Y oL_law_720 ?_
    refine rr_iaddY oL_law_721 ?_
    refine rr_eild (t := t + 3) oL_law_722 (nI_add t 3) (by omega) hL ?_
    refine rr_if_eqY (tgt := 730) oL_law_723 (by decide) (fun c => absurd c c1) (fun _ => ?_)
    refine rk_1Y oL_law_726 ?_
    refine rr_gotoY (tgt := 731) oL_law_727 (by decide) ?_
    refine rr_cVM (c_X5_shut (w := true) l W hM2 hI) oL_law_731 (cv_L_69 rfl) (by decide) hcn_5 (by omega) rfl rfl (Nat.le_of_ble_eq_true rfl) (fun J2 N2 hM3 hf2 => ?_)
    refine rr_icmp_eqY (tgt := 1435) oL_law_734 (by decide) (fun _ => ?_) (fun c => absurd rfl c)
    exact hP J2 N2 Rf n _ W (CR_cut hC2 (fun a ha => (hf2 a ha).1) (fun a ha => (hf2 a ha).2)) hM3 (iv_shut hI _ _ _)
theorem lc_12 (l : Launch) {a0 L b : Nat} {xs : Nat → Int32} {D : md_T} (hL : L ≤ 3072) {I : Nat → Nat → Int32} {M : Nat → Nat → Int64} {Rf : Nat → Nat → Option Nat} {n : Nat} {S : sg_T} (W : wd_T Rf n) (hC : CR_T I M S) (hM : MR_T I M S) (hI : IV_T S) {t : Nat} (ht : t + 6 ≤ L) {mc ms : Nat} (hP : ∀ (J : Nat → Nat → Int32) (N : Nat → Nat → Int64) (R2 : Nat → Nat → Option Nat) (n2 : Nat) (S2 : sg_T), wd_T R2 n2 → CR_T J N S2 → MR_T J N S2 → IV_T S2 → WL a0 L xs b D l mc ms 1435 [vv_E a0, vv_A (some 0), vv_A (some 46), vv_I (nI t)] [] (J, N, R2, n2)) : WL a0 L xs b D l mc ms 739 [vv_E a0, vv_A (some 0), vv_A (some 46), vv_I (nI t)] [] (I, M, Rf, n) := by
  have h67 : 67 ≤ n := W.1
  refine ra_1Y oL_law_739 ?_
  refine re_0Y oL_law_740 ?_
  refine ri_3Y oL_law_741 ?_
  refine rk_1Y oL_law_742 ?_
  refine rr_iaddY oL_law_743 ?_
  refine rr_eild (t := t + 1) oL_law_744 (nI_add t 1) (by omega) hL ?_
  refine re_0Y oL_law_745 ?_
  refine ri_3Y oL_law_746 ?_
  refine rk_2Y oL_law_747 ?_
  refine rr_iaddY oL_law_748 ?_
  refine rr_eild (t := t + 2) oL_law_749 (nI_add t 2) (by omega) hL ?_
  refine rr_if_eqY (tgt := 757) oL_law_750 (by decide) (fun c1 => ?_) (fun c1 => ?_)
  · skip
    refine rk_0Y oL_law_757 ?_
    refine rr_cVC (c_X4_draw (w := false) l W hC hI) oL_law_758 (cv_L_70 rfl) (by decide) hcn_4 (by omega) rfl rfl (Nat.le_of_ble_eq_true rfl) (fun J N hC2 hf => ?_)
    have hM2 : MR_T J N S := MR_cut hM (fun a h1 _ => hf a h1)
    refine ra_2Y oL_law_761 ?_
    refine re_0Y oL_law_762 ?_
    refine ri_3Y oL_law_763 ?_
    refine rk_1Y oL_law_764 ?_
    refine rr_iaddY oL_law_765 ?_
    refine rr_eild (t := t + 1) oL_law_766 (nI_add t 1) (by omega) hL ?_
    refine re_0Y oL_law_767 ?_
    refine ri_3Y oL_law_768 ?_
    refine rk_2Y oL_law_769 ?_
    refine rr_iaddY oL_law_770 ?_
    refine rr_eild (t := t + 2) oL_law_771 (nI_add t 2) (by omega) hL ?_
    refine rr_if_eqY (tgt := 779) oL_law_772 (by decide) (fun _ => ?_) (fun c => absurd c1 c)
    refine rk_0Y oL_law_779 ?_
    refine rr_cVM (c_X5_draw (w := false) l W hM2 hI) oL_law_780 (cv_L_74 rfl) (by decide) hcn_5 (by omega) rfl rfl (Nat.le_of_ble_eq_true rfl) (fun J2 N2 hM3 hf2 => ?_)
    refine rr_icmp_eqY (tgt := 1435) oL_law_783 (by decide) (fun _ => ?_) (fun c => absurd rfl c)
    exact hP J2 N2 Rf n _ W (CR_cut hC2 (fun a ha => (hf2 a ha).1) (fun a ha => (hf2 a ha).2)) hM3 (iv_draw hI _ _)
  · skip
    refine rk_1Y oL_law_753 ?_
    refine rr_gotoY (tgt := 758) oL_law_754 (by decide) ?_
    refine rr_cVC (c_X4_draw (w := true) l W hC hI) oL_law_758 (cv_L_70 rfl) (by decide) hcn_4 (by omega) rfl rfl (Nat.le_of_ble_eq_true rfl) (fun J N hC2 hf => ?_)
    have hM2 : MR_T J N S := MR_cut hM (fun a h1 _ => hf a h1)
    refine ra_2Y oL_law_761 ?_
    refine re_0Y oL_law_762 ?_
    refine ri_3Y oL_law_763 ?_
    refine rk_1Y oL_law_764 ?_
    refine rr_iaddY oL_law_765 ?_
    refine rr_eild (t := t + 1) oL_law_766 (nI_add t 1) (by omega) hL ?_
    refine re_0Y oL_law_767 ?_
    refine ri_3Y oL_law_768 ?_
    refine rk_2Y oL_law_769 ?_
    refine rr_iaddY oL_law_770 ?_
    refine rr_eild (t := t + 2) oL_law_771 (nI_add t 2) (by omega) hL ?_
    refine rr_if_eqY (tgt := 779) oL_law_772 (by decide) (fun c => absurd c c1) (fun _ => ?_)
    refine rk_1Y oL_law_775 ?_
    refine rr_gotoY (tgt := 780) oL_law_776 (by decide) ?_
    refine rr_cVM (c_X5_draw (w := true) l W hM2 hI) oL_law_780 (cv_L_74 rfl) (by decide) hcn_5 (by omega) rfl rfl (Nat.le_of_ble_eq_true rfl) (fun J2 N2 hM3 hf2 => ?_)
    refine rr_icmp_eqY (tgt := 1435) oL_law_783 (by decide) (fun _ => ?_) (fun c => absurd rfl c)
    exact hP J2 N2 Rf n _ W (CR_cut hC2 (fun a ha => (hf2 a ha).1) (fun a ha => (hf2 a ha).2)) hM3 (iv_draw hI _ _)
theorem lc_13 (l : Launch) {a0 L b : Nat} {xs : Nat → Int32} {D : md_T} (hL : L ≤ 3072) {I : Nat → Nat → Int32} {M : Nat → Nat → Int64} {Rf : Nat → Nat → Option Nat} {n : Nat} {S : sg_T} (W : wd_T Rf n) (hC : CR_T I M S) (hM : MR_T I M S) (hI : IV_T S) {t : Nat} (ht : t + 6 ≤ L) {mc ms : Nat} (hP : ∀ (J : Nat → Nat → Int32) (N : Nat → Nat → Int64) (R2 : Nat → Nat → Option Nat) (n2 : Nat) (S2 : sg_T), wd_T R2 n2 → CR_T J N S2 → MR_T J N S2 → IV_T S2 → WL a0 L xs b D l mc ms 1435 [vv_E a0, vv_A (some 0), vv_A (some 46), vv_I (nI t)] [] (J, N, R2, n2)) : WL a0 L xs b D l (mc + 1) (ms + 5) 788 [vv_E a0, vv_A (some 0), vv_A (some 46), vv_I (nI t)] [] (I, M, Rf, n) := by
  have h67 : 67 ≤ n := W.1
  refine ra_1Y oL_law_788 ?_
  refine re_0Y oL_law_789 ?_
  refine ri_3Y oL_law_790 ?_
  refine rk_1Y oL_law_791 ?_
  refine rr_iaddY oL_law_792 ?_
  refine rr_eild (t := t + 1) oL_law_793 (nI_add t 1) (by omega) hL ?_
  refine rr_cVG (mc1 := mc) (ms1 := ms) (c_X4_ground l W hC hI) oL_law_794 (cv_L_75 rfl) (by decide) hcn_4 (by omega) rfl rfl (Nat.le_of_ble_eq_true rfl) rfl rfl (fun J N R2 n2 W2 hC2 hf => ?_)
  have hM2 : MR_T J N S := MR_cut hM (fun a h1 h2 => hf a h1 (by omega))
  have h672 : 67 ≤ n2 := W2.1
  refine ra_2Y oL_law_797 ?_
  refine re_0Y oL_law_798 ?_
  refine ri_3Y oL_law_799 ?_
  refine rk_1Y oL_law_800 ?_
  refine rr_iaddY oL_law_801 ?_
  refine rr_eild (t := t + 1) oL_law_802 (nI_add t 1) (by omega) hL ?_
  refine rr_cVN (c_X5_ground l W2 hM2 hI) oL_law_803 (cv_L_78 rfl) (by decide) hcn_5 (by omega) rfl rfl (Nat.le_of_ble_eq_true rfl) (fun J2 N2 hg hM3 hf2 => ?_)
  refine rr_icmp_eqY (tgt := 1435) oL_law_806 (by decide) (fun _ => ?_) (fun c => absurd rfl c)
  exact hP J2 N2 R2 n2 _ W2 (CR_cut hC2 (fun a ha => (hf2 a ha).1) (fun a ha => (hf2 a ha).2)) hM3 (iv_gnd hI _ hg)
theorem lc_14 (l : Launch) {a0 L b : Nat} {xs : Nat → Int32} {D : md_T} (hL : L ≤ 3072) {I : Nat → Nat → Int32} {M : Nat → Nat → Int64} {Rf : Nat → Nat → Option Nat} {n : Nat} {S : sg_T} (W : wd_T Rf n) (hC : CR_T I M S) (hM : MR_T I M S) (hI : IV_T S) {t : Nat} (ht : t + 6 ≤ L) {mc ms : Nat} (hP : ∀ (J : Nat → Nat → Int32) (N : Nat → Nat → Int64) (R2 : Nat → Nat → Option Nat) (n2 : Nat) (S2 : sg_T), wd_T R2 n2 → CR_T J N S2 → MR_T J N S2 → IV_T S2 → WL a0 L xs b D l mc ms 1435 [vv_E a0, vv_A (some 0), vv_A (some 46), vv_I (nI t)] [] (J, N, R2, n2)) : WL a0 L xs b D l mc ms 811 [vv_E a0, vv_A (some 0), vv_A (some 46), vv_I (nI t)] [] (I, M, Rf, n) := by
  have h67 : 67 ≤ n := W.1
  refine ra_1Y oL_law_811 ?_
  refine rr_cVQ (c_X4_fault l W hC hI) oL_law_812 (cv_L_79 rfl) (by decide) kk_0 (by decide) hcn_4 (show 0 < n from by omega) rfl rfl (Nat.le_of_ble_eq_true rfl) ?_
  refine ra_2Y oL_law_815 ?_
  refine rr_cVQ (c_X5_fault l W hM hI) oL_law_816 (cv_L_83 rfl) (by decide) kk_46 (by decide) hcn_5 (show 46 < n from by omega) rfl rfl (Nat.le_of_ble_eq_true rfl) ?_
  refine rr_icmp_eqY (tgt := 1435) oL_law_819 (by decide) (fun _ => ?_) (fun c => absurd rfl c)
  exact hP I M Rf n S W hC hM hI
theorem lc_15 (l : Launch) {a0 L b : Nat} {xs : Nat → Int32} {D : md_T} (hL : L ≤ 3072) {I : Nat → Nat → Int32} {M : Nat → Nat → Int64} {Rf : Nat → Nat → Option Nat} {n : Nat} {S : sg_T} (W : wd_T Rf n) (hC : CR_T I M S) (hM : MR_T I M S) (hI : IV_T S) {t : Nat} (ht : t + 6 ≤ L) {mc ms : Nat} (hP : ∀ (J : Nat → Nat → Int32) (N : Nat → Nat → Int64) (R2 : Nat → Nat → Option Nat) (n2 : Nat) (S2 : sg_T), wd_T R2 n2 → CR_T J N S2 → MR_T J N S2 → IV_T S2 → WL a0 L xs b D l mc ms 1435 [vv_E a0, vv_A (some 0), vv_A (some 46), vv_I (nI t)] [] (J, N, R2, n2)) : WL a0 L xs b D l mc ms 824 [vv_E a0, vv_A (some 0), vv_A (some 46), vv_I (nI t)] [] (I, M, Rf, n) := by
  have h67 : 67 ≤ n := W.1
  refine ra_1Y oL_law_824 ?_
  refine re_0Y oL_law_825 ?_
  refine ri_3Y oL_law_826 ?_
  refine rk_1Y oL_law_827 ?_
  refine rr_iaddY oL_law_828 ?_
  refine rr_eild (t := t + 1) oL_law_829 (nI_add t 1) (by omega) hL ?_
  refine re_0Y oL_law_830 ?_
  refine ri_3Y oL_law_831 ?_
  refine rk_2Y oL_law_832 ?_
  refine rr_iaddY oL_law_833 ?_
  refine rr_eild (t := t + 2) oL_law_834 (nI_add t 2) (by omega) hL ?_
  refine re_0Y oL_law_835 ?_
  refine ri_3Y oL_law_836 ?_
  refine rk_3Y oL_law_837 ?_
  refine rr_iaddY oL_law_838 ?_
  refine rr_eild (t := t + 3) oL_law_839 (nI_add t 3) (by omega) hL ?_
  refine rr_cVC (c_X4_sees l W hC hI) oL_law_840 (cv_L_84 rfl) (by decide) hcn_4 (by omega) rfl rfl (Nat.le_of_ble_eq_true rfl) (fun J N hC2 hf => ?_)
  have hM2 : MR_T J N S := MR_cut hM (fun a h1 _ => hf a h1)
  refine ra_2Y oL_law_843 ?_
  refine re_0Y oL_law_844 ?_
  refine ri_3Y oL_law_845 ?_
  refine rk_1Y oL_law_846 ?_
  refine rr_iaddY oL_law_847 ?_
  refine rr_eild (t := t + 1) oL_law_848 (nI_add t 1) (by omega) hL ?_
  refine re_0Y oL_law_849 ?_
  refine ri_3Y oL_law_850 ?_
  refine rk_2Y oL_law_851 ?_
  refine rr_iaddY oL_law_852 ?_
  refine rr_eild (t := t + 2) oL_law_853 (nI_add t 2) (by omega) hL ?_
  refine re_0Y oL_law_854 ?_
  refine ri_3Y oL_law_855 ?_
  refine rk_3Y oL_law_856 ?_
  refine rr_iaddY oL_law_857 ?_
  refine rr_eild (t := t + 3) oL_law_858 (nI_add t 3) (by omega) hL ?_
  refine rr_cVM (c_X5_sees l W hM2 hI) oL_law_859 (cv_L_87 rfl) (by decide) hcn_5 (by omega) rfl rfl (Nat.le_of_ble_eq_true rfl) (fun J2 N2 hM3 hf2 => ?_)
  refine rr_icmp_eqY (tgt := 1435) oL_law_862 (by decide) (fun _ => ?_) (fun c => absurd rfl c)
  exact hP J2 N2 Rf n _ W (CR_cut hC2 (fun a ha => (hf2 a ha).1) (fun a ha => (hf2 a ha).2)) hM3 (iv_sees hI _ _ _)
theorem lc_16 (l : Launch) {a0 L b : Nat} {xs : Nat → Int32} {D : md_T} (hL : L ≤ 3072) {I : Nat → Nat → Int32} {M : Nat → Nat → Int64} {Rf : Nat → Nat → Option Nat} {n : Nat} {S : sg_T} (W : wd_T Rf n) (hC : CR_T I M S) (hM : MR_T I M S) (hI : IV_T S) {t : Nat} (ht : t + 6 ≤ L) {mc ms : Nat} (hP : ∀ (J : Nat → Nat → Int32) (N : Nat → Nat → Int64) (R2 : Nat → Nat → Option Nat) (n2 : Nat) (S2 : sg_T), wd_T R2 n2 → CR_T J N S2 → MR_T J N S2 → IV_T S2 → WL a0 L xs b D l mc ms 1435 [vv_E a0, vv_A (some 0), vv_A (some 46), vv_I (nI t)] [] (J, N, R2, n2)) : WL a0 L xs b D l mc ms 867 [vv_E a0, vv_A (some 0), vv_A (some 46), vv_I (nI t)] [] (I, M, Rf, n) := by
  have h67 : 67 ≤ n := W.1
  refine ra_1Y oL_law_867 ?_
  refine re_0Y oL_law_868 ?_
  refine ri_3Y oL_law_869 ?_
  refine rk_1Y oL_law_870 ?_
  refine rr_iaddY oL_law_871 ?_
  refine rr_eild (t := t + 1) oL_law_872 (nI_add t 1) (by omega) hL ?_
  refine re_0Y oL_law_873 ?_
  refine ri_3Y oL_law_874 ?_
  refine rk_2Y oL_law_875 ?_
  refine rr_iaddY oL_law_876 ?_
  refine rr_eild (t := t + 2) oL_law_877 (nI_add t 2) (by omega) hL ?_
  refine rr_cVC (c_X4_bars l W hC hI) oL_law_878 (cv_L_88 rfl) (by decide) hcn_4 (by omega) rfl rfl (Nat.le_of_ble_eq_true rfl) (fun J N hC2 hf => ?_)
  have hM2 : MR_T J N S := MR_cut hM (fun a h1 _ => hf a h1)
  refine ra_2Y oL_law_881 ?_
  refine re_0Y oL_law_882 ?_
  refine ri_3Y oL_law_883 ?_
  refine rk_1Y oL_law_884 ?_
  refine rr_iaddY oL_law_885 ?_
  refine rr_eild (t := t + 1) oL_law_886 (nI_add t 1) (by omega) hL ?_
  refine re_0Y oL_law_887 ?_
  refine ri_3Y oL_law_888 ?_
  refine rk_2Y oL_law_889 ?_
  refine rr_iaddY oL_law_890 ?_
  refine rr_eild (t := t + 2) oL_law_891 (nI_add t 2) (by omega) hL ?_
  refine rr_cVM (c_X5_bars l W hM2 hI) oL_law_892 (cv_L_91 rfl) (by decide) hcn_5 (by omega) rfl rfl (Nat.le_of_ble_eq_true rfl) (fun J2 N2 hM3 hf2 => ?_)
  refine rr_icmp_eqY (tgt := 1435) oL_law_895 (by decide) (fun _ => ?_) (fun c => absurd rfl c)
  exact hP J2 N2 Rf n _ W (CR_cut hC2 (fun a ha => (hf2 a ha).1) (fun a ha => (hf2 a ha).2)) hM3 (iv_bars hI _ _)
theorem lc_17 (l : Launch) {a0 L b : Nat} {xs : Nat → Int32} {D : md_T} (hL : L ≤ 3072) {I : Nat → Nat → Int32} {M : Nat → Nat → Int64} {Rf : Nat → Nat → Option Nat} {n : Nat} {S : sg_T} (W : wd_T Rf n) (hC : CR_T I M S) (hM : MR_T I M S) (hI : IV_T S) {t : Nat} (ht : t + 6 ≤ L) {mc ms : Nat} (hP : ∀ (J : Nat → Nat → Int32) (N : Nat → Nat → Int64) (R2 : Nat → Nat → Option Nat) (n2 : Nat) (S2 : sg_T), wd_T R2 n2 → CR_T J N S2 → MR_T J N S2 → IV_T S2 → WL a0 L xs b D l mc ms 1435 [vv_E a0, vv_A (some 0), vv_A (some 46), vv_I (nI t)] [] (J, N, R2, n2)) : WL a0 L xs b D l mc ms 900 [vv_E a0, vv_A (some 0), vv_A (some 46), vv_I (nI t)] [] (I, M, Rf, n) := by
  have h67 : 67 ≤ n := W.1
  refine ra_1Y oL_law_900 ?_
  refine re_0Y oL_law_901 ?_
  refine ri_3Y oL_law_902 ?_
  refine rk_1Y oL_law_903 ?_
  refine rr_iaddY oL_law_904 ?_
  refine rr_eild (t := t + 1) oL_law_905 (nI_add t 1) (by omega) hL ?_
  refine rr_cVC (c_X4_seers l W hC hI) oL_law_906 (cv_L_92 rfl) (by decide) hcn_4 (by omega) rfl rfl (Nat.le_of_ble_eq_true rfl) (fun J N hC2 hf => ?_)
  have hM2 : MR_T J N S := MR_cut hM (fun a h1 _ => hf a h1)
  refine ra_2Y oL_law_909 ?_
  refine re_0Y oL_law_910 ?_
  refine ri_3Y oL_law_911 ?_
  refine rk_1Y oL_law_912 ?_
  refine rr_iaddY oL_law_913 ?_
  refine rr_eild (t := t + 1) oL_law_914 (nI_add t 1) (by omega) hL ?_
  refine rr_cVM (c_X5_seers l W hM2 hI) oL_law_915 (cv_L_95 rfl) (by decide) hcn_5 (by omega) rfl rfl (Nat.le_of_ble_eq_true rfl) (fun J2 N2 hM3 hf2 => ?_)
  refine rr_icmp_eqY (tgt := 1435) oL_law_918 (by decide) (fun _ => ?_) (fun c => absurd rfl c)
  exact hP J2 N2 Rf n _ W (CR_cut hC2 (fun a ha => (hf2 a ha).1) (fun a ha => (hf2 a ha).2)) hM3 (iv_seers hI _)
theorem lc_18 (l : Launch) {a0 L b : Nat} {xs : Nat → Int32} {D : md_T} (hL : L ≤ 3072) {I : Nat → Nat → Int32} {M : Nat → Nat → Int64} {Rf : Nat → Nat → Option Nat} {n : Nat} {S : sg_T} (W : wd_T Rf n) (hC : CR_T I M S) (hM : MR_T I M S) (hI : IV_T S) {t : Nat} (ht : t + 6 ≤ L) {mc ms : Nat} (hP : ∀ (J : Nat → Nat → Int32) (N : Nat → Nat → Int64) (R2 : Nat → Nat → Option Nat) (n2 : Nat) (S2 : sg_T), wd_T R2 n2 → CR_T J N S2 → MR_T J N S2 → IV_T S2 → WL a0 L xs b D l mc ms 1435 [vv_E a0, vv_A (some 0), vv_A (some 46), vv_I (nI t)] [] (J, N, R2, n2)) : WL a0 L xs b D l mc ms 923 [vv_E a0, vv_A (some 0), vv_A (some 46), vv_I (nI t)] [] (I, M, Rf, n) := by
  have h67 : 67 ≤ n := W.1
  refine ra_1Y oL_law_923 ?_
  refine rr_cVC (c_X4_right l W hC hI) oL_law_924 (cv_L_96 rfl) (by decide) hcn_4 (by omega) rfl rfl (Nat.le_of_ble_eq_true rfl) (fun J N hC2 hf => ?_)
  have hM2 : MR_T J N S := MR_cut hM (fun a h1 _ => hf a h1)
  refine ra_2Y oL_law_927 ?_
  refine rr_cVM (c_X5_right l W hM2 hI) oL_law_928 (cv_L_99 rfl) (by decide) hcn_5 (by omega) rfl rfl (Nat.le_of_ble_eq_true rfl) (fun J2 N2 hM3 hf2 => ?_)
  refine rr_icmp_eqY (tgt := 1435) oL_law_931 (by decide) (fun _ => ?_) (fun c => absurd rfl c)
  exact hP J2 N2 Rf n _ W (CR_cut hC2 (fun a ha => (hf2 a ha).1) (fun a ha => (hf2 a ha).2)) hM3 (iv_right hI)
theorem lc_19 (l : Launch) {a0 L b : Nat} {xs : Nat → Int32} {D : md_T} (hL : L ≤ 3072) {I : Nat → Nat → Int32} {M : Nat → Nat → Int64} {Rf : Nat → Nat → Option Nat} {n : Nat} {S : sg_T} (W : wd_T Rf n) (hC : CR_T I M S) (hM : MR_T I M S) (hI : IV_T S) {t : Nat} (ht : t + 6 ≤ L) {mc ms : Nat} (hP : ∀ (J : Nat → Nat → Int32) (N : Nat → Nat → Int64) (R2 : Nat → Nat → Option Nat) (n2 : Nat) (S2 : sg_T), wd_T R2 n2 → CR_T J N S2 → MR_T J N S2 → IV_T S2 → WL a0 L xs b D l mc ms 1435 [vv_E a0, vv_A (some 0), vv_A (some 46), vv_I (nI t)] [] (J, N, R2, n2)) : WL a0 L xs b D l mc ms 936 [vv_E a0, vv_A (some 0), vv_A (some 46), vv_I (nI t)] [] (I, M, Rf, n) := by
  have h67 : 67 ≤ n := W.1
  refine ra_1Y oL_law_936 ?_
  refine rr_cVC (c_X4_first l W hC hI) oL_law_937 (cv_L_100 rfl) (by decide) hcn_4 (by omega) rfl rfl (Nat.le_of_ble_eq_true rfl) (fun J N hC2 hf => ?_)
  have hM2 : MR_T J N S := MR_cut hM (fun a h1 _ => hf a h1)
  refine ra_2Y oL_law_940 ?_
  refine rr_cVM (c_X5_first l W hM2 hI) oL_law_941 (cv_L_103 rfl) (by decide) hcn_5 (by omega) rfl rfl (Nat.le_of_ble_eq_true rfl) (fun J2 N2 hM3 hf2 => ?_)
  refine rr_icmp_eqY (tgt := 1435) oL_law_944 (by decide) (fun _ => ?_) (fun c => absurd rfl c)
  exact hP J2 N2 Rf n _ W (CR_cut hC2 (fun a ha => (hf2 a ha).1) (fun a ha => (hf2 a ha).2)) hM3 (iv_first hI)
theorem lc_20 (l : Launch) {a0 L b : Nat} {xs : Nat → Int32} {D : md_T} (hL : L ≤ 3072) {I : Nat → Nat → Int32} {M : Nat → Nat → Int64} {Rf : Nat → Nat → Option Nat} {n : Nat} {S : sg_T} (W : wd_T Rf n) (hC : CR_T I M S) (hM : MR_T I M S) (hI : IV_T S) {t : Nat} (ht : t + 6 ≤ L) {mc ms : Nat} (hP : ∀ (J : Nat → Nat → Int32) (N : Nat → Nat → Int64) (R2 : Nat → Nat → Option Nat) (n2 : Nat) (S2 : sg_T), wd_T R2 n2 → CR_T J N S2 → MR_T J N S2 → IV_T S2 → WL a0 L xs b D l mc ms 1435 [vv_E a0, vv_A (some 0), vv_A (some 46), vv_I (nI t)] [] (J, N, R2, n2)) : WL a0 L xs b D l mc ms 949 [vv_E a0, vv_A (some 0), vv_A (some 46), vv_I (nI t)] [] (I, M, Rf, n) := by
  have h67 : 67 ≤ n := W.1
  refine ra_1Y oL_law_949 ?_
  refine re_0Y oL_law_950 ?_
  refine ri_3Y oL_law_951 ?_
  refine rk_1Y oL_law_952 ?_
  refine rr_iaddY oL_law_953 ?_
  refine rr_eild (t := t + 1) oL_law_954 (nI_add t 1) (by omega) hL ?_
  refine re_0Y oL_law_955 ?_
  refine ri_3Y oL_law_956 ?_
  refine rk_2Y oL_law_957 ?_
  refine rr_iaddY oL_law_958 ?_
  refine rr_eild (t := t + 2) oL_law_959 (nI_add t 2) (by omega) hL ?_
  refine rr_cVC (c_X4_cost l W hC hI) oL_law_960 (cv_L_104 rfl) (by decide) hcn_4 (by omega) rfl rfl (Nat.le_of_ble_eq_true rfl) (fun J N hC2 hf => ?_)
  have hM2 : MR_T J N S := MR_cut hM (fun a h1 _ => hf a h1)
  refine ra_2Y oL_law_963 ?_
  refine re_0Y oL_law_964 ?_
  refine ri_3Y oL_law_965 ?_
  refine rk_1Y oL_law_966 ?_
  refine rr_iaddY oL_law_967 ?_
  refine rr_eild (t := t + 1) oL_law_968 (nI_add t 1) (by omega) hL ?_
  refine re_0Y oL_law_969 ?_
  refine ri_3Y oL_law_970 ?_
  refine rk_2Y oL_law_971 ?_
  refine rr_iaddY oL_law_972 ?_
  refine rr_eild (t := t + 2) oL_law_973 (nI_add t 2) (by omega) hL ?_
  refine rr_cVM (c_X5_cost l W hM2 hI) oL_law_974 (cv_L_107 rfl) (by decide) hcn_5 (by omega) rfl rfl (Nat.le_of_ble_eq_true rfl) (fun J2 N2 hM3 hf2 => ?_)
  refine rr_icmp_eqY (tgt := 1435) oL_law_977 (by decide) (fun _ => ?_) (fun c => absurd rfl c)
  exact hP J2 N2 Rf n _ W (CR_cut hC2 (fun a ha => (hf2 a ha).1) (fun a ha => (hf2 a ha).2)) hM3 (iv_cost hI _ _)
theorem lc_21 (l : Launch) {a0 L b : Nat} {xs : Nat → Int32} {D : md_T} (hL : L ≤ 3072) {I : Nat → Nat → Int32} {M : Nat → Nat → Int64} {Rf : Nat → Nat → Option Nat} {n : Nat} {S : sg_T} (W : wd_T Rf n) (hC : CR_T I M S) (hM : MR_T I M S) (hI : IV_T S) {t : Nat} (ht : t + 6 ≤ L) {mc ms : Nat} (hP : ∀ (J : Nat → Nat → Int32) (N : Nat → Nat → Int64) (R2 : Nat → Nat → Option Nat) (n2 : Nat) (S2 : sg_T), wd_T R2 n2 → CR_T J N S2 → MR_T J N S2 → IV_T S2 → WL a0 L xs b D l mc ms 1435 [vv_E a0, vv_A (some 0), vv_A (some 46), vv_I (nI t)] [] (J, N, R2, n2)) : WL a0 L xs b D l mc ms 982 [vv_E a0, vv_A (some 0), vv_A (some 46), vv_I (nI t)] [] (I, M, Rf, n) := by
  have h67 : 67 ≤ n := W.1
  refine ra_1Y oL_law_982 ?_
  refine re_0Y oL_law_983 ?_
  refine ri_3Y oL_law_984 ?_
  refine rk_1Y oL_law_985 ?_
  refine rr_iaddY oL_law_986 ?_
  refine rr_eild (t := t + 1) oL_law_987 (nI_add t 1) (by omega) hL ?_
  refine rr_cVC (c_X4_cheapest l W hC hI) oL_law_988 (cv_L_108 rfl) (by decide) hcn_4 (by omega) rfl rfl (Nat.le_of_ble_eq_true rfl) (fun J N hC2 hf => ?_)
  have hM2 : MR_T J N S := MR_cut hM (fun a h1 _ => hf a h1)
  refine ra_2Y oL_law_991 ?_
  refine re_0Y oL_law_992 ?_
  refine ri_3Y oL_law_993 ?_
  refine rk_1Y oL_law_994 ?_
  refine rr_iaddY oL_law_995 ?_
  refine rr_eild (t := t + 1) oL_law_996 (nI_add t 1) (by omega) hL ?_
  refine rr_cVM (c_X5_cheapest l W hM2 hI) oL_law_997 (cv_L_111 rfl) (by decide) hcn_5 (by omega) rfl rfl (Nat.le_of_ble_eq_true rfl) (fun J2 N2 hM3 hf2 => ?_)
  refine rr_icmp_eqY (tgt := 1435) oL_law_1000 (by decide) (fun _ => ?_) (fun c => absurd rfl c)
  exact hP J2 N2 Rf n _ W (CR_cut hC2 (fun a ha => (hf2 a ha).1) (fun a ha => (hf2 a ha).2)) hM3 (iv_cheapest hI _)
theorem lc_22 (l : Launch) {a0 L b : Nat} {xs : Nat → Int32} {D : md_T} (hL : L ≤ 3072) {I : Nat → Nat → Int32} {M : Nat → Nat → Int64} {Rf : Nat → Nat → Option Nat} {n : Nat} {S : sg_T} (W : wd_T Rf n) (hC : CR_T I M S) (hM : MR_T I M S) (hI : IV_T S) {t : Nat} (ht : t + 6 ≤ L) {mc ms : Nat} (hP : ∀ (J : Nat → Nat → Int32) (N : Nat → Nat → Int64) (R2 : Nat → Nat → Option Nat) (n2 : Nat) (S2 : sg_T), wd_T R2 n2 → CR_T J N S2 → MR_T J N S2 → IV_T S2 → WL a0 L xs b D l mc ms 1435 [vv_E a0, vv_A (some 0), vv_A (some 46), vv_I (nI t)] [] (J, N, R2, n2)) : WL a0 L xs b D l mc ms 1005 [vv_E a0, vv_A (some 0), vv_A (some 46), vv_I (nI t)] [] (I, M, Rf, n) := by
  have h67 : 67 ≤ n := W.1
  refine ra_1Y oL_law_1005 ?_
  refine re_0Y oL_law_1006 ?_
  refine ri_3Y oL_law_1007 ?_
  refine rk_1Y oL_law_1008 ?_
  refine rr_iaddY oL_law_1009 ?_
  refine rr_eild (t := t + 1) oL_law_1010 (nI_add t 1) (by omega) hL ?_
  refine rr_cVC (c_X4_keeps l W hC hI) oL_law_1011 (cv_L_112 rfl) (by decide) hcn_4 (by omega) rfl rfl (Nat.le_of_ble_eq_true rfl) (fun J N hC2 hf => ?_)
  have hM2 : MR_T J N S := MR_cut hM (fun a h1 _ => hf a h1)
  refine ra_2Y oL_law_1014 ?_
  refine re_0Y oL_law_1015 ?_
  refine ri_3Y oL_law_1016 ?_
  refine rk_1Y oL_law_1017 ?_
  refine rr_iaddY oL_law_1018 ?_
  refine rr_eild (t := t + 1) oL_law_1019 (nI_add t 1) (by omega) hL ?_
  refine rr_cVM (c_X5_keeps l W hM2 hI) oL_law_1020 (cv_L_115 rfl) (by decide) hcn_5 (by omega) rfl rfl (Nat.le_of_ble_eq_true rfl) (fun J2 N2 hM3 hf2 => ?_)
  refine rr_icmp_eqY (tgt := 1435) oL_law_1023 (by decide) (fun _ => ?_) (fun c => absurd rfl c)
  exact hP J2 N2 Rf n _ W (CR_cut hC2 (fun a ha => (hf2 a ha).1) (fun a ha => (hf2 a ha).2)) hM3 (iv_keeps hI _)
theorem lc_23 (l : Launch) {a0 L b : Nat} {xs : Nat → Int32} {D : md_T} (hL : L ≤ 3072) {I : Nat → Nat → Int32} {M : Nat → Nat → Int64} {Rf : Nat → Nat → Option Nat} {n : Nat} {S : sg_T} (W : wd_T Rf n) (hC : CR_T I M S) (hM : MR_T I M S) (hI : IV_T S) {t : Nat} (ht : t + 6 ≤ L) {mc ms : Nat} (hP : ∀ (J : Nat → Nat → Int32) (N : Nat → Nat → Int64) (R2 : Nat → Nat → Option Nat) (n2 : Nat) (S2 : sg_T), wd_T R2 n2 → CR_T J N S2 → MR_T J N S2 → IV_T S2 → WL a0 L xs b D l mc ms 1435 [vv_E a0, vv_A (some 0), vv_A (some 46), vv_I (nI t)] [] (J, N, R2, n2)) : WL a0 L xs b D l mc ms 1028 [vv_E a0, vv_A (some 0), vv_A (some 46), vv_I (nI t)] [] (I, M, Rf, n) := by
  have h67 : 67 ≤ n := W.1
  refine ra_1Y oL_law_1028 ?_
  refine re_0Y oL_law_1029 ?_
  refine ri_3Y oL_law_1030 ?_
  refine rk_1Y oL_law_1031 ?_
  refine rr_iaddY oL_law_1032 ?_
  refine rr_eild (t := t + 1) oL_law_1033 (nI_add t 1) (by omega) hL ?_
  refine rr_cVC (c_X4_curtains l W hC hI) oL_law_1034 (cv_L_116 rfl) (by decide) hcn_4 (by omega) rfl rfl (Nat.le_of_ble_eq_true rfl) (fun J N hC2 hf => ?_)
  have hM2 : MR_T J N S := MR_cut hM (fun a h1 _ => hf a h1)
  refine ra_2Y oL_law_1037 ?_
  refine re_0Y oL_law_1038 ?_
  refine ri_3Y oL_law_1039 ?_
  refine rk_1Y oL_law_1040 ?_
  refine rr_iaddY oL_law_1041 ?_
  refine rr_eild (t := t + 1) oL_law_1042 (nI_add t 1) (by omega) hL ?_
  refine rr_cVM (c_X5_curtains l W hM2 hI) oL_law_1043 (cv_L_119 rfl) (by decide) hcn_5 (by omega) rfl rfl (Nat.le_of_ble_eq_true rfl) (fun J2 N2 hM3 hf2 => ?_)
  refine rr_icmp_eqY (tgt := 1435) oL_law_1046 (by decide) (fun _ => ?_) (fun c => absurd rfl c)
  exact hP J2 N2 Rf n _ W (CR_cut hC2 (fun a ha => (hf2 a ha).1) (fun a ha => (hf2 a ha).2)) hM3 (iv_curtains hI _)
theorem lc_24 (l : Launch) {a0 L b : Nat} {xs : Nat → Int32} {D : md_T} (hL : L ≤ 3072) {I : Nat → Nat → Int32} {M : Nat → Nat → Int64} {Rf : Nat → Nat → Option Nat} {n : Nat} {S : sg_T} (W : wd_T Rf n) (hC : CR_T I M S) (hM : MR_T I M S) (hI : IV_T S) {t : Nat} (ht : t + 6 ≤ L) {mc ms : Nat} (hP : ∀ (J : Nat → Nat → Int32) (N : Nat → Nat → Int64) (R2 : Nat → Nat → Option Nat) (n2 : Nat) (S2 : sg_T), wd_T R2 n2 → CR_T J N S2 → MR_T J N S2 → IV_T S2 → WL a0 L xs b D l mc ms 1435 [vv_E a0, vv_A (some 0), vv_A (some 46), vv_I (nI t)] [] (J, N, R2, n2)) : WL a0 L xs b D l mc ms 1051 [vv_E a0, vv_A (some 0), vv_A (some 46), vv_I (nI t)] [] (I, M, Rf, n) := by
  have h67 : 67 ≤ n := W.1
  refine ra_1Y oL_law_1051 ?_
  refine re_0Y oL_law_1052 ?_
  refine ri_3Y oL_law_1053 ?_
  refine rk_1Y oL_law_1054 ?_
  refine rr_iaddY oL_law_1055 ?_
  refine rr_eild (t := t + 1) oL_law_1056 (nI_add t 1) (by omega) hL ?_
  refine rr_cVC (c_X4_newly l W hC hI) oL_law_1057 (cv_L_120 rfl) (by decide) hcn_4 (by omega) rfl rfl (Nat.le_of_ble_eq_true rfl) (fun J N hC2 hf => ?_)
  have hM2 : MR_T J N S := MR_cut hM (fun a h1 _ => hf a h1)
  refine ra_2Y oL_law_1060 ?_
  refine re_0Y oL_law_1061 ?_
  refine ri_3Y oL_law_1062 ?_
  refine rk_1Y oL_law_1063 ?_
  refine rr_iaddY oL_law_1064 ?_
  refine rr_eild (t := t + 1) oL_law_1065 (nI_add t 1) (by omega) hL ?_
  refine rr_cVM (c_X5_newly l W hM2 hI) oL_law_1066 (cv_L_123 rfl) (by decide) hcn_5 (by omega) rfl rfl (Nat.le_of_ble_eq_true rfl) (fun J2 N2 hM3 hf2 => ?_)
  refine rr_icmp_eqY (tgt := 1435) oL_law_1069 (by decide) (fun _ => ?_) (fun c => absurd rfl c)
  exact hP J2 N2 Rf n _ W (CR_cut hC2 (fun a ha => (hf2 a ha).1) (fun a ha => (hf2 a ha).2)) hM3 (iv_newly hI _)
theorem lc_25 (l : Launch) {a0 L b : Nat} {xs : Nat → Int32} {D : md_T} (hL : L ≤ 3072) {I : Nat → Nat → Int32} {M : Nat → Nat → Int64} {Rf : Nat → Nat → Option Nat} {n : Nat} {S : sg_T} (W : wd_T Rf n) (hC : CR_T I M S) (hM : MR_T I M S) (hI : IV_T S) {t : Nat} (ht : t + 6 ≤ L) {mc ms : Nat} (hP : ∀ (J : Nat → Nat → Int32) (N : Nat → Nat → Int64) (R2 : Nat → Nat → Option Nat) (n2 : Nat) (S2 : sg_T), wd_T R2 n2 → CR_T J N S2 → MR_T J N S2 → IV_T S2 → WL a0 L xs b D l mc ms 1435 [vv_E a0, vv_A (some 0), vv_A (some 46), vv_I (nI t)] [] (J, N, R2, n2)) : WL a0 L xs b D l mc ms 1074 [vv_E a0, vv_A (some 0), vv_A (some 46), vv_I (nI t)] [] (I, M, Rf, n) := by
  have h67 : 67 ≤ n := W.1
  refine ra_1Y oL_law_1074 ?_
  refine re_0Y oL_law_1075 ?_
  refine ri_3Y oL_law_1076 ?_
  refine rk_1Y oL_law_1077 ?_
  refine rr_iaddY oL_law_1078 ?_
  refine rr_eild (t := t + 1) oL_law_1079 (nI_add t 1) (by omega) hL ?_
  refine rr_cVC (c_X4_storey l W hC hI) oL_law_1080 (cv_L_124 rfl) (by decide) hcn_4 (by omega) rfl rfl (Nat.le_of_ble_eq_true rfl) (fun J N hC2 hf => ?_)
  have hM2 : MR_T J N S := MR_cut hM (fun a h1 _ => hf a h1)
  refine ra_2Y oL_law_1083 ?_
  refine re_0Y oL_law_1084 ?_
  refine ri_3Y oL_law_1085 ?_
  refine rk_1Y oL_law_1086 ?_
  refine rr_iaddY oL_law_1087 ?_
  refine rr_eild (t := t + 1) oL_law_1088 (nI_add t 1) (by omega) hL ?_
  refine rr_cVM (c_X5_storey l W hM2 hI) oL_law_1089 (cv_L_127 rfl) (by decide) hcn_5 (by omega) rfl rfl (Nat.le_of_ble_eq_true rfl) (fun J2 N2 hM3 hf2 => ?_)
  refine rr_icmp_eqY (tgt := 1435) oL_law_1092 (by decide) (fun _ => ?_) (fun c => absurd rfl c)
  exact hP J2 N2 Rf n _ W (CR_cut hC2 (fun a ha => (hf2 a ha).1) (fun a ha => (hf2 a ha).2)) hM3 (iv_storey hI _)
theorem lc_26 (l : Launch) {a0 L b : Nat} {xs : Nat → Int32} {D : md_T} (hL : L ≤ 3072) {I : Nat → Nat → Int32} {M : Nat → Nat → Int64} {Rf : Nat → Nat → Option Nat} {n : Nat} {S : sg_T} (W : wd_T Rf n) (hC : CR_T I M S) (hM : MR_T I M S) (hI : IV_T S) {t : Nat} (ht : t + 6 ≤ L) {mc ms : Nat} (hP : ∀ (J : Nat → Nat → Int32) (N : Nat → Nat → Int64) (R2 : Nat → Nat → Option Nat) (n2 : Nat) (S2 : sg_T), wd_T R2 n2 → CR_T J N S2 → MR_T J N S2 → IV_T S2 → WL a0 L xs b D l mc ms 1435 [vv_E a0, vv_A (some 0), vv_A (some 46), vv_I (nI t)] [] (J, N, R2, n2)) : WL a0 L xs b D l mc ms 1097 [vv_E a0, vv_A (some 0), vv_A (some 46), vv_I (nI t)] [] (I, M, Rf, n) := by
  have h67 : 67 ≤ n := W.1
  refine ra_1Y oL_law_1097 ?_
  refine re_0Y oL_law_1098 ?_
  refine ri_3Y oL_law_1099 ?_
  refine rk_1Y oL_law_1100 ?_
  refine rr_iaddY oL_law_1101 ?_
  refine rr_eild (t := t + 1) oL_law_1102 (nI_add t 1) (by omega) hL ?_
  refine rr_cVC (c_X4_blinded l W hC hI) oL_law_1103 (cv_L_128 rfl) (by decide) hcn_4 (by omega) rfl rfl (Nat.le_of_ble_eq_true rfl) (fun J N hC2 hf => ?_)
  have hM2 : MR_T J N S := MR_cut hM (fun a h1 _ => hf a h1)
  refine ra_2Y oL_law_1106 ?_
  refine re_0Y oL_law_1107 ?_
  refine ri_3Y oL_law_1108 ?_
  refine rk_1Y oL_law_1109 ?_
  refine rr_iaddY oL_law_1110 ?_
  refine rr_eild (t := t + 1) oL_law_1111 (nI_add t 1) (by omega) hL ?_
  refine rr_cVM (c_X5_blinded l W hM2 hI) oL_law_1112 (cv_L_131 rfl) (by decide) hcn_5 (by omega) rfl rfl (Nat.le_of_ble_eq_true rfl) (fun J2 N2 hM3 hf2 => ?_)
  refine rr_icmp_eqY (tgt := 1435) oL_law_1115 (by decide) (fun _ => ?_) (fun c => absurd rfl c)
  exact hP J2 N2 Rf n _ W (CR_cut hC2 (fun a ha => (hf2 a ha).1) (fun a ha => (hf2 a ha).2)) hM3 (iv_blinded hI _)
theorem lc_27 (l : Launch) {a0 L b : Nat} {xs : Nat → Int32} {D : md_T} (hL : L ≤ 3072) {I : Nat → Nat → Int32} {M : Nat → Nat → Int64} {Rf : Nat → Nat → Option Nat} {n : Nat} {S : sg_T} (W : wd_T Rf n) (hC : CR_T I M S) (hM : MR_T I M S) (hI : IV_T S) {t : Nat} (ht : t + 6 ≤ L) {mc ms : Nat} (hP : ∀ (J : Nat → Nat → Int32) (N : Nat → Nat → Int64) (R2 : Nat → Nat → Option Nat) (n2 : Nat) (S2 : sg_T), wd_T R2 n2 → CR_T J N S2 → MR_T J N S2 → IV_T S2 → WL a0 L xs b D l mc ms 1435 [vv_E a0, vv_A (some 0), vv_A (some 46), vv_I (nI t)] [] (J, N, R2, n2)) : WL a0 L xs b D l mc ms 1120 [vv_E a0, vv_A (some 0), vv_A (some 46), vv_I (nI t)] [] (I, M, Rf, n) := by
  have h67 : 67 ≤ n := W.1
  refine ra_1Y oL_law_1120 ?_
  refine re_0Y oL_law_1121 ?_
  refine ri_3Y oL_law_1122 ?_
  refine rk_1Y oL_law_1123 ?_
  refine rr_iaddY oL_law_1124 ?_
  refine rr_eild (t := t + 1) oL_law_1125 (nI_add t 1) (by omega) hL ?_
  refine rr_cVC (c_X4_felled l W hC hI) oL_law_1126 (cv_L_132 rfl) (by decide) hcn_4 (by omega) rfl rfl (Nat.le_of_ble_eq_true rfl) (fun J N hC2 hf => ?_)
  have hM2 : MR_T J N S := MR_cut hM (fun a h1 _ => hf a h1)
  refine ra_2Y oL_law_1129 ?_
  refine re_0Y oL_law_1130 ?_
  refine ri_3Y oL_law_1131 ?_
  refine rk_1Y oL_law_1132 ?_
  refine rr_iaddY oL_law_1133 ?_
  refine rr_eild (t := t + 1) oL_law_1134 (nI_add t 1) (by omega) hL ?_
  refine rr_cVM (c_X5_felled l W hM2 hI) oL_law_1135 (cv_L_135 rfl) (by decide) hcn_5 (by omega) rfl rfl (Nat.le_of_ble_eq_true rfl) (fun J2 N2 hM3 hf2 => ?_)
  refine rr_icmp_eqY (tgt := 1435) oL_law_1138 (by decide) (fun _ => ?_) (fun c => absurd rfl c)
  exact hP J2 N2 Rf n _ W (CR_cut hC2 (fun a ha => (hf2 a ha).1) (fun a ha => (hf2 a ha).2)) hM3 (iv_felled hI _)
theorem lc_28 (l : Launch) {a0 L b : Nat} {xs : Nat → Int32} {D : md_T} (hL : L ≤ 3072) {I : Nat → Nat → Int32} {M : Nat → Nat → Int64} {Rf : Nat → Nat → Option Nat} {n : Nat} {S : sg_T} (W : wd_T Rf n) (hC : CR_T I M S) (hM : MR_T I M S) (hI : IV_T S) {t : Nat} (ht : t + 6 ≤ L) {mc ms : Nat} (hP : ∀ (J : Nat → Nat → Int32) (N : Nat → Nat → Int64) (R2 : Nat → Nat → Option Nat) (n2 : Nat) (S2 : sg_T), wd_T R2 n2 → CR_T J N S2 → MR_T J N S2 → IV_T S2 → WL a0 L xs b D l mc ms 1435 [vv_E a0, vv_A (some 0), vv_A (some 46), vv_I (nI t)] [] (J, N, R2, n2)) : WL a0 L xs b D l mc ms 1143 [vv_E a0, vv_A (some 0), vv_A (some 46), vv_I (nI t)] [] (I, M, Rf, n) := by
  have h67 : 67 ≤ n := W.1
  refine ra_1Y oL_law_1143 ?_
  refine rr_cVC (c_X4_pairs l W hC hI) oL_law_1144 (cv_L_136 rfl) (by decide) hcn_4 (by omega) rfl rfl (Nat.le_of_ble_eq_true rfl) (fun J N hC2 hf => ?_)
  have hM2 : MR_T J N S := MR_cut hM (fun a h1 _ => hf a h1)
  refine ra_2Y oL_law_1147 ?_
  refine rr_cVM (c_X5_pairs l W hM2 hI) oL_law_1148 (cv_L_139 rfl) (by decide) hcn_5 (by omega) rfl rfl (Nat.le_of_ble_eq_true rfl) (fun J2 N2 hM3 hf2 => ?_)
  refine rr_icmp_eqY (tgt := 1435) oL_law_1151 (by decide) (fun _ => ?_) (fun c => absurd rfl c)
  exact hP J2 N2 Rf n _ W (CR_cut hC2 (fun a ha => (hf2 a ha).1) (fun a ha => (hf2 a ha).2)) hM3 (iv_pairs hI)
theorem lc_29 (l : Launch) {a0 L b : Nat} {xs : Nat → Int32} {D : md_T} (hL : L ≤ 3072) {I : Nat → Nat → Int32} {M : Nat → Nat → Int64} {Rf : Nat → Nat → Option Nat} {n : Nat} {S : sg_T} (W : wd_T Rf n) (hC : CR_T I M S) (hM : MR_T I M S) (hI : IV_T S) {t : Nat} (ht : t + 6 ≤ L) {mc ms : Nat} (hP : ∀ (J : Nat → Nat → Int32) (N : Nat → Nat → Int64) (R2 : Nat → Nat → Option Nat) (n2 : Nat) (S2 : sg_T), wd_T R2 n2 → CR_T J N S2 → MR_T J N S2 → IV_T S2 → WL a0 L xs b D l mc ms 1435 [vv_E a0, vv_A (some 0), vv_A (some 46), vv_I (nI t)] [] (J, N, R2, n2)) : WL a0 L xs b D l mc ms 1156 [vv_E a0, vv_A (some 0), vv_A (some 46), vv_I (nI t)] [] (I, M, Rf, n) := by
  have h67 : 67 ≤ n := W.1
  refine ra_1Y oL_law_1156 ?_
  refine re_0Y oL_law_1157 ?_
  refine ri_3Y oL_law_1158 ?_
  refine rk_1Y oL_law_1159 ?_
  refine rr_iaddY oL_law_1160 ?_
  refine rr_eild (t := t + 1) oL_law_1161 (nI_add t 1) (by omega) hL ?_
  refine rr_cVC (c_X4_back l W hC hI) oL_law_1162 (cv_L_140 rfl) (by decide) hcn_4 (by omega) rfl rfl (Nat.le_of_ble_eq_true rfl) (fun J N hC2 hf => ?_)
  have hM2 : MR_T J N S := MR_cut hM (fun a h1 _ => hf a h1)
  refine ra_2Y oL_law_1165 ?_
  refine re_0Y oL_law_1166 ?_
  refine ri_3Y oL_law_1167 ?_
  refine rk_1Y oL_law_1168 ?_
  refine rr_iaddY oL_law_1169 ?_
  refine rr_eild (t := t + 1) oL_law_1170 (nI_add t 1) (by omega) hL ?_
  refine rr_cVM (c_X5_back l W hM2 hI) oL_law_1171 (cv_L_143 rfl) (by decide) hcn_5 (by omega) rfl rfl (Nat.le_of_ble_eq_true rfl) (fun J2 N2 hM3 hf2 => ?_)
  refine rr_icmp_eqY (tgt := 1435) oL_law_1174 (by decide) (fun _ => ?_) (fun c => absurd rfl c)
  exact hP J2 N2 Rf n _ W (CR_cut hC2 (fun a ha => (hf2 a ha).1) (fun a ha => (hf2 a ha).2)) hM3 (iv_back hI _)
theorem lc_30 (l : Launch) {a0 L b : Nat} {xs : Nat → Int32} {D : md_T} (hL : L ≤ 3072) {I : Nat → Nat → Int32} {M : Nat → Nat → Int64} {Rf : Nat → Nat → Option Nat} {n : Nat} {S : sg_T} (W : wd_T Rf n) (hC : CR_T I M S) (hM : MR_T I M S) (hI : IV_T S) {t : Nat} (ht : t + 6 ≤ L) {mc ms : Nat} (hP : ∀ (J : Nat → Nat → Int32) (N : Nat → Nat → Int64) (R2 : Nat → Nat → Option Nat) (n2 : Nat) (S2 : sg_T), wd_T R2 n2 → CR_T J N S2 → MR_T J N S2 → IV_T S2 → WL a0 L xs b D l mc ms 1435 [vv_E a0, vv_A (some 0), vv_A (some 46), vv_I (nI t)] [] (J, N, R2, n2)) : WL a0 L xs b D l mc ms 1179 [vv_E a0, vv_A (some 0), vv_A (some 46), vv_I (nI t)] [] (I, M, Rf, n) := by
  have h67 : 67 ≤ n := W.1
  refine ra_1Y oL_law_1179 ?_
  refine rr_cVC (c_X4_most l W hC hI) oL_law_1180 (cv_L_144 rfl) (by decide) hcn_4 (by omega) rfl rfl (Nat.le_of_ble_eq_true rfl) (fun J N hC2 hf => ?_)
  have hM2 : MR_T J N S := MR_cut hM (fun a h1 _ => hf a h1)
  refine ra_2Y oL_law_1183 ?_
  refine rr_cVM (c_X5_most l W hM2 hI) oL_law_1184 (cv_L_147 rfl) (by decide) hcn_5 (by omega) rfl rfl (Nat.le_of_ble_eq_true rfl) (fun J2 N2 hM3 hf2 => ?_)
  refine rr_icmp_eqY (tgt := 1435) oL_law_1187 (by decide) (fun _ => ?_) (fun c => absurd rfl c)
  exact hP J2 N2 Rf n _ W (CR_cut hC2 (fun a ha => (hf2 a ha).1) (fun a ha => (hf2 a ha).2)) hM3 (iv_most hI)
theorem lc_31 (l : Launch) {a0 L b : Nat} {xs : Nat → Int32} {D : md_T} (hL : L ≤ 3072) {I : Nat → Nat → Int32} {M : Nat → Nat → Int64} {Rf : Nat → Nat → Option Nat} {n : Nat} {S : sg_T} (W : wd_T Rf n) (hC : CR_T I M S) (hM : MR_T I M S) (hI : IV_T S) {t : Nat} (ht : t + 6 ≤ L) {mc ms : Nat} (hP : ∀ (J : Nat → Nat → Int32) (N : Nat → Nat → Int64) (R2 : Nat → Nat → Option Nat) (n2 : Nat) (S2 : sg_T), wd_T R2 n2 → CR_T J N S2 → MR_T J N S2 → IV_T S2 → WL a0 L xs b D l mc ms 1435 [vv_E a0, vv_A (some 0), vv_A (some 46), vv_I (nI t)] [] (J, N, R2, n2)) : WL a0 L xs b D l mc ms 1192 [vv_E a0, vv_A (some 0), vv_A (some 46), vv_I (nI t)] [] (I, M, Rf, n) := by
  have h67 : 67 ≤ n := W.1
  refine ra_1Y oL_law_1192 ?_
  refine re_0Y oL_law_1193 ?_
  refine ri_3Y oL_law_1194 ?_
  refine rk_1Y oL_law_1195 ?_
  refine rr_iaddY oL_law_1196 ?_
  refine rr_eild (t := t + 1) oL_law_1197 (nI_add t 1) (by omega) hL ?_
  refine re_0Y oL_law_1198 ?_
  refine ri_3Y oL_law_1199 ?_
  refine rk_2Y oL_law_1200 ?_
  refine rr_iaddY oL_law_1201 ?_
  refine rr_eild (t := t + 2) oL_law_1202 (nI_add t 2) (by omega) hL ?_
  refine rr_cVC (c_X4_list l W hC hI) oL_law_1203 (cv_L_148 rfl) (by decide) hcn_4 (by omega) rfl rfl (Nat.le_of_ble_eq_true rfl) (fun J N hC2 hf => ?_)
  have hM2 : MR_T J N S := MR_cut hM (fun a h1 _ => hf a h1)
  refine ra_2Y oL_law_1206 ?_
  refine re_0Y oL_law_1207 ?_
  refine ri_3Y oL_law_1208 ?_
  refine rk_1Y oL_law_1209 ?_
  refine rr_iaddY oL_law_1210 ?_
  refine rr_eild (t := t + 1) oL_law_1211 (nI_add t 1) (by omega) hL ?_
  refine re_0Y oL_law_1212 ?_
  refine ri_3Y oL_law_1213 ?_
  refine rk_2Y oL_law_1214 ?_
  refine rr_iaddY oL_law_1215 ?_
  refine rr_eild (t := t + 2) oL_law_1216 (nI_add t 2) (by omega) hL ?_
  refine rr_cVM (c_X5_list l W hM2 hI) oL_law_1217 (cv_L_151 rfl) (by decide) hcn_5 (by omega) rfl rfl (Nat.le_of_ble_eq_true rfl) (fun J2 N2 hM3 hf2 => ?_)
  refine rr_icmp_eqY (tgt := 1435) oL_law_1220 (by decide) (fun _ => ?_) (fun c => absurd rfl c)
  exact hP J2 N2 Rf n _ W (CR_cut hC2 (fun a ha => (hf2 a ha).1) (fun a ha => (hf2 a ha).2)) hM3 (iv_list hI _ _)
theorem lc_32 (l : Launch) {a0 L b : Nat} {xs : Nat → Int32} {D : md_T} (hL : L ≤ 3072) {I : Nat → Nat → Int32} {M : Nat → Nat → Int64} {Rf : Nat → Nat → Option Nat} {n : Nat} {S : sg_T} (W : wd_T Rf n) (hC : CR_T I M S) (hM : MR_T I M S) (hI : IV_T S) {t : Nat} (ht : t + 6 ≤ L) {mc ms : Nat} (hP : ∀ (J : Nat → Nat → Int32) (N : Nat → Nat → Int64) (R2 : Nat → Nat → Option Nat) (n2 : Nat) (S2 : sg_T), wd_T R2 n2 → CR_T J N S2 → MR_T J N S2 → IV_T S2 → WL a0 L xs b D l mc ms 1435 [vv_E a0, vv_A (some 0), vv_A (some 46), vv_I (nI t)] [] (J, N, R2, n2)) : WL a0 L xs b D l mc ms 1225 [vv_E a0, vv_A (some 0), vv_A (some 46), vv_I (nI t)] [] (I, M, Rf, n) := by
  have h67 : 67 ≤ n := W.1
  refine ra_1Y oL_law_1225 ?_
  refine re_0Y oL_law_1226 ?_
  refine ri_3Y oL_law_1227 ?_
  refine rk_1Y oL_law_1228 ?_
  refine rr_iaddY oL_law_1229 ?_
  refine rr_eild (t := t + 1) oL_law_1230 (nI_add t 1) (by omega) hL ?_
  refine rr_cVC (c_X4_night l W hC hI) oL_law_1231 (cv_L_152 rfl) (by decide) hcn_4 (by omega) rfl rfl (Nat.le_of_ble_eq_true rfl) (fun J N hC2 hf => ?_)
  have hM2 : MR_T J N S := MR_cut hM (fun a h1 _ => hf a h1)
  refine ra_2Y oL_law_1234 ?_
  refine re_0Y oL_law_1235 ?_
  refine ri_3Y oL_law_1236 ?_
  refine rk_1Y oL_law_1237 ?_
  refine rr_iaddY oL_law_1238 ?_
  refine rr_eild (t := t + 1) oL_law_1239 (nI_add t 1) (by omega) hL ?_
  refine rr_cVM (c_X5_night l W hM2 hI) oL_law_1240 (cv_L_155 rfl) (by decide) hcn_5 (by omega) rfl rfl (Nat.le_of_ble_eq_true rfl) (fun J2 N2 hM3 hf2 => ?_)
  refine rr_icmp_eqY (tgt := 1435) oL_law_1243 (by decide) (fun _ => ?_) (fun c => absurd rfl c)
  exact hP J2 N2 Rf n _ W (CR_cut hC2 (fun a ha => (hf2 a ha).1) (fun a ha => (hf2 a ha).2)) hM3 (iv_night hI _)
theorem lc_33 (l : Launch) {a0 L b : Nat} {xs : Nat → Int32} {D : md_T} (hL : L ≤ 3072) {I : Nat → Nat → Int32} {M : Nat → Nat → Int64} {Rf : Nat → Nat → Option Nat} {n : Nat} {S : sg_T} (W : wd_T Rf n) (hC : CR_T I M S) (hM : MR_T I M S) (hI : IV_T S) {t : Nat} (ht : t + 6 ≤ L) {mc ms : Nat} (hP : ∀ (J : Nat → Nat → Int32) (N : Nat → Nat → Int64) (R2 : Nat → Nat → Option Nat) (n2 : Nat) (S2 : sg_T), wd_T R2 n2 → CR_T J N S2 → MR_T J N S2 → IV_T S2 → WL a0 L xs b D l mc ms 1435 [vv_E a0, vv_A (some 0), vv_A (some 46), vv_I (nI t)] [] (J, N, R2, n2)) : WL a0 L xs b D l mc ms 1248 [vv_E a0, vv_A (some 0), vv_A (some 46), vv_I (nI t)] [] (I, M, Rf, n) := by
  have h67 : 67 ≤ n := W.1
  refine ra_1Y oL_law_1248 ?_
  refine rr_cVC (c_X4_shuts l W hC hI) oL_law_1249 (cv_L_156 rfl) (by decide) hcn_4 (by omega) rfl rfl (Nat.le_of_ble_eq_true rfl) (fun J N hC2 hf => ?_)
  have hM2 : MR_T J N S := MR_cut hM (fun a h1 _ => hf a h1)
  refine ra_2Y oL_law_1252 ?_
  refine rr_cVM (c_X5_shuts l W hM2 hI) oL_law_1253 (cv_L_159 rfl) (by decide) hcn_5 (by omega) rfl rfl (Nat.le_of_ble_eq_true rfl) (fun J2 N2 hM3 hf2 => ?_)
  refine rr_icmp_eqY (tgt := 1435) oL_law_1256 (by decide) (fun _ => ?_) (fun c => absurd rfl c)
  exact hP J2 N2 Rf n _ W (CR_cut hC2 (fun a ha => (hf2 a ha).1) (fun a ha => (hf2 a ha).2)) hM3 (iv_shuts hI)
theorem lc_34 (l : Launch) {a0 L b : Nat} {xs : Nat → Int32} {D : md_T} (hL : L ≤ 3072) {I : Nat → Nat → Int32} {M : Nat → Nat → Int64} {Rf : Nat → Nat → Option Nat} {n : Nat} {S : sg_T} (W : wd_T Rf n) (hC : CR_T I M S) (hM : MR_T I M S) (hI : IV_T S) {t : Nat} (ht : t + 6 ≤ L) {mc ms : Nat} (hP : ∀ (J : Nat → Nat → Int32) (N : Nat → Nat → Int64) (R2 : Nat → Nat → Option Nat) (n2 : Nat) (S2 : sg_T), wd_T R2 n2 → CR_T J N S2 → MR_T J N S2 → IV_T S2 → WL a0 L xs b D l mc ms 1435 [vv_E a0, vv_A (some 0), vv_A (some 46), vv_I (nI t)] [] (J, N, R2, n2)) : WL a0 L xs b D l mc ms 1261 [vv_E a0, vv_A (some 0), vv_A (some 46), vv_I (nI t)] [] (I, M, Rf, n) := by
  have h67 : 67 ≤ n := W.1
  refine ra_1Y oL_law_1261 ?_
  refine rr_cVC (c_X4_opens l W hC hI) oL_law_1262 (cv_L_160 rfl) (by decide) hcn_4 (by omega) rfl rfl (Nat.le_of_ble_eq_true rfl) (fun J N hC2 hf => ?_)
  have hM2 : MR_T J N S := MR_cut hM (fun a h1 _ => hf a h1)
  refine ra_2Y oL_law_1265 ?_
  refine rr_cVM (c_X5_opens l W hM2 hI) oL_law_1266 (cv_L_163 rfl) (by decide) hcn_5 (by omega) rfl rfl (Nat.le_of_ble_eq_true rfl) (fun J2 N2 hM3 hf2 => ?_)
  refine rr_icmp_eqY (tgt := 1435) oL_law_1269 (by decide) (fun _ => ?_) (fun c => absurd rfl c)
  exact hP J2 N2 Rf n _ W (CR_cut hC2 (fun a ha => (hf2 a ha).1) (fun a ha => (hf2 a ha).2)) hM3 (iv_opens hI)
theorem lc_35 (l : Launch) {a0 L b : Nat} {xs : Nat → Int32} {D : md_T} (hL : L ≤ 3072) {I : Nat → Nat → Int32} {M : Nat → Nat → Int64} {Rf : Nat → Nat → Option Nat} {n : Nat} {S : sg_T} (W : wd_T Rf n) (hC : CR_T I M S) (hM : MR_T I M S) (hI : IV_T S) {t : Nat} (ht : t + 6 ≤ L) {mc ms : Nat} (hP : ∀ (J : Nat → Nat → Int32) (N : Nat → Nat → Int64) (R2 : Nat → Nat → Option Nat) (n2 : Nat) (S2 : sg_T), wd_T R2 n2 → CR_T J N S2 → MR_T J N S2 → IV_T S2 → WL a0 L xs b D l mc ms 1435 [vv_E a0, vv_A (some 0), vv_A (some 46), vv_I (nI t)] [] (J, N, R2, n2)) : WL a0 L xs b D l mc ms 1274 [vv_E a0, vv_A (some 0), vv_A (some 46), vv_I (nI t)] [] (I, M, Rf, n) := by
  have h67 : 67 ≤ n := W.1
  refine ra_1Y oL_law_1274 ?_
  refine re_0Y oL_law_1275 ?_
  refine ri_3Y oL_law_1276 ?_
  refine rk_1Y oL_law_1277 ?_
  refine rr_iaddY oL_law_1278 ?_
  refine rr_eild (t := t + 1) oL_law_1279 (nI_add t 1) (by omega) hL ?_
  refine rr_cVC (c_X4_years l W hC hI) oL_law_1280 (cv_L_164 rfl) (by decide) hcn_4 (by omega) rfl rfl (Nat.le_of_ble_eq_true rfl) (fun J N hC2 hf => ?_)
  have hM2 : MR_T J N S := MR_cut hM (fun a h1 _ => hf a h1)
  refine ra_2Y oL_law_1283 ?_
  refine re_0Y oL_law_1284 ?_
  refine ri_3Y oL_law_1285 ?_
  refine rk_1Y oL_law_1286 ?_
  refine rr_iaddY oL_law_1287 ?_
  refine rr_eild (t := t + 1) oL_law_1288 (nI_add t 1) (by omega) hL ?_
  refine rr_cVM (c_X5_years l W hM2 hI) oL_law_1289 (cv_L_167 rfl) (by decide) hcn_5 (by omega) rfl rfl (Nat.le_of_ble_eq_true rfl) (fun J2 N2 hM3 hf2 => ?_)
  refine rr_icmp_eqY (tgt := 1435) oL_law_1292 (by decide) (fun _ => ?_) (fun c => absurd rfl c)
  exact hP J2 N2 Rf n _ W (CR_cut hC2 (fun a ha => (hf2 a ha).1) (fun a ha => (hf2 a ha).2)) hM3 (iv_years hI _)
theorem lc_36 (l : Launch) {a0 L b : Nat} {xs : Nat → Int32} {D : md_T} (hL : L ≤ 3072) {I : Nat → Nat → Int32} {M : Nat → Nat → Int64} {Rf : Nat → Nat → Option Nat} {n : Nat} {S : sg_T} (W : wd_T Rf n) (hC : CR_T I M S) (hM : MR_T I M S) (hI : IV_T S) {t : Nat} (ht : t + 6 ≤ L) {mc ms : Nat} (hP : ∀ (J : Nat → Nat → Int32) (N : Nat → Nat → Int64) (R2 : Nat → Nat → Option Nat) (n2 : Nat) (S2 : sg_T), wd_T R2 n2 → CR_T J N S2 → MR_T J N S2 → IV_T S2 → WL a0 L xs b D l mc ms 1435 [vv_E a0, vv_A (some 0), vv_A (some 46), vv_I (nI t)] [] (J, N, R2, n2)) : WL a0 L xs b D l mc ms 1297 [vv_E a0, vv_A (some 0), vv_A (some 46), vv_I (nI t)] [] (I, M, Rf, n) := by
  have h67 : 67 ≤ n := W.1
  refine ra_1Y oL_law_1297 ?_
  refine re_0Y oL_law_1298 ?_
  refine ri_3Y oL_law_1299 ?_
  refine rk_1Y oL_law_1300 ?_
  refine rr_iaddY oL_law_1301 ?_
  refine rr_eild (t := t + 1) oL_law_1302 (nI_add t 1) (by omega) hL ?_
  refine rr_cVC (c_X4_seed l W hC hI) oL_law_1303 (cv_L_168 rfl) (by decide) hcn_4 (by omega) rfl rfl (Nat.le_of_ble_eq_true rfl) (fun J N hC2 hf => ?_)
  have hM2 : MR_T J N S := MR_cut hM (fun a h1 _ => hf a h1)
  refine ra_2Y oL_law_1306 ?_
  refine re_0Y oL_law_1307 ?_
  refine ri_3Y oL_law_1308 ?_
  refine rk_1Y oL_law_1309 ?_
  refine rr_iaddY oL_law_1310 ?_
  refine rr_eild (t := t + 1) oL_law_1311 (nI_add t 1) (by omega) hL ?_
  refine rr_cVM (c_X5_seed l W hM2 hI) oL_law_1312 (cv_L_171 rfl) (by decide) hcn_5 (by omega) rfl rfl (Nat.le_of_ble_eq_true rfl) (fun J2 N2 hM3 hf2 => ?_)
  refine rr_icmp_eqY (tgt := 1435) oL_law_1315 (by decide) (fun _ => ?_) (fun c => absurd rfl c)
  exact hP J2 N2 Rf n _ W (CR_cut hC2 (fun a ha => (hf2 a ha).1) (fun a ha => (hf2 a ha).2)) hM3 (iv_seed hI _)
theorem lc_37 (l : Launch) {a0 L b : Nat} {xs : Nat → Int32} {D : md_T} (hL : L ≤ 3072) {I : Nat → Nat → Int32} {M : Nat → Nat → Int64} {Rf : Nat → Nat → Option Nat} {n : Nat} {S : sg_T} (W : wd_T Rf n) (hC : CR_T I M S) (hM : MR_T I M S) (hI : IV_T S) {t : Nat} (ht : t + 6 ≤ L) {mc ms : Nat} (hP : ∀ (J : Nat → Nat → Int32) (N : Nat → Nat → Int64) (R2 : Nat → Nat → Option Nat) (n2 : Nat) (S2 : sg_T), wd_T R2 n2 → CR_T J N S2 → MR_T J N S2 → IV_T S2 → WL a0 L xs b D l mc ms 1435 [vv_E a0, vv_A (some 0), vv_A (some 46), vv_I (nI t)] [] (J, N, R2, n2)) : WL a0 L xs b D l mc ms 1320 [vv_E a0, vv_A (some 0), vv_A (some 46), vv_I (nI t)] [] (I, M, Rf, n) := by
  have h67 : 67 ≤ n := W.1
  refine ra_1Y oL_law_1320 ?_
  refine re_0Y oL_law_1321 ?_
  refine ri_3Y oL_law_1322 ?_
  refine rk_1Y oL_law_1323 ?_
  refine rr_iaddY oL_law_1324 ?_
  refine rr_eild (t := t + 1) oL_law_1325 (nI_add t 1) (by omega) hL ?_
  refine re_0Y oL_law_1326 ?_
  refine ri_3Y oL_law_1327 ?_
  refine rk_2Y oL_law_1328 ?_
  refine rr_iaddY oL_law_1329 ?_
  refine rr_eild (t := t + 2) oL_law_1330 (nI_add t 2) (by omega) hL ?_
  refine re_0Y oL_law_1331 ?_
  refine ri_3Y oL_law_1332 ?_
  refine rk_3Y oL_law_1333 ?_
  refine rr_iaddY oL_law_1334 ?_
  refine rr_eild (t := t + 3) oL_law_1335 (nI_add t 3) (by omega) hL ?_
  refine rr_cVC (c_X4_act l W hC hI) oL_law_1336 (cv_L_172 rfl) (by decide) hcn_4 (by omega) rfl rfl (Nat.le_of_ble_eq_true rfl) (fun J N hC2 hf => ?_)
  have hM2 : MR_T J N S := MR_cut hM (fun a h1 _ => hf a h1)
  refine ra_2Y oL_law_1339 ?_
  refine re_0Y oL_law_1340 ?_
  refine ri_3Y oL_law_1341 ?_
  refine rk_1Y oL_law_1342 ?_
  refine rr_iaddY oL_law_1343 ?_
  refine rr_eild (t := t + 1) oL_law_1344 (nI_add t 1) (by omega) hL ?_
  refine re_0Y oL_law_1345 ?_
  refine ri_3Y oL_law_1346 ?_
  refine rk_2Y oL_law_1347 ?_
  refine rr_iaddY oL_law_1348 ?_
  refine rr_eild (t := t + 2) oL_law_1349 (nI_add t 2) (by omega) hL ?_
  refine re_0Y oL_law_1350 ?_
  refine ri_3Y oL_law_1351 ?_
  refine rk_3Y oL_law_1352 ?_
  refine rr_iaddY oL_law_1353 ?_
  refine rr_eild (t := t + 3) oL_law_1354 (nI_add t 3) (by omega) hL ?_
  refine rr_cVM (c_X5_act l W hM2 hI) oL_law_1355 (cv_L_175 rfl) (by decide) hcn_5 (by omega) rfl rfl (Nat.le_of_ble_eq_true rfl) (fun J2 N2 hM3 hf2 => ?_)
  refine rr_icmp_eqY (tgt := 1435) oL_law_1358 (by decide) (fun _ => ?_) (fun c => absurd rfl c)
  exact hP J2 N2 Rf n _ W (CR_cut hC2 (fun a ha => (hf2 a ha).1) (fun a ha => (hf2 a ha).2)) hM3 (iv_act hI _ _ _)
theorem lc_38 (l : Launch) {a0 L b : Nat} {xs : Nat → Int32} {D : md_T} (hL : L ≤ 3072) {I : Nat → Nat → Int32} {M : Nat → Nat → Int64} {Rf : Nat → Nat → Option Nat} {n : Nat} {S : sg_T} (W : wd_T Rf n) (hC : CR_T I M S) (hM : MR_T I M S) (hI : IV_T S) {t : Nat} (ht : t + 6 ≤ L) {mc ms : Nat} (hP : ∀ (J : Nat → Nat → Int32) (N : Nat → Nat → Int64) (R2 : Nat → Nat → Option Nat) (n2 : Nat) (S2 : sg_T), wd_T R2 n2 → CR_T J N S2 → MR_T J N S2 → IV_T S2 → WL a0 L xs b D l mc ms 1435 [vv_E a0, vv_A (some 0), vv_A (some 46), vv_I (nI t)] [] (J, N, R2, n2)) : WL a0 L xs b D l mc ms 1363 [vv_E a0, vv_A (some 0), vv_A (some 46), vv_I (nI t)] [] (I, M, Rf, n) := by
  have h67 : 67 ≤ n := W.1
  refine ra_1Y oL_law_1363 ?_
  refine re_0Y oL_law_1364 ?_
  refine ri_3Y oL_law_1365 ?_
  refine rk_1Y oL_law_1366 ?_
  refine rr_iaddY oL_law_1367 ?_
  refine rr_eild (t := t + 1) oL_law_1368 (nI_add t 1) (by omega) hL ?_
  refine rr_cVQ (c_X4_trace l W hC hI) oL_law_1369 (cv_L_176 rfl) (by decide) kk_0 (by decide) hcn_4 (show 0 < n from by omega) rfl rfl (Nat.le_of_ble_eq_true rfl) ?_
  refine ra_2Y oL_law_1372 ?_
  refine re_0Y oL_law_1373 ?_
  refine ri_3Y oL_law_1374 ?_
  refine rk_1Y oL_law_1375 ?_
  refine rr_iaddY oL_law_1376 ?_
  refine rr_eild (t := t + 1) oL_law_1377 (nI_add t 1) (by omega) hL ?_
  refine rr_cVQ (c_X5_trace l W hM hI) oL_law_1378 (cv_L_179 rfl) (by decide) kk_46 (by decide) hcn_5 (show 46 < n from by omega) rfl rfl (Nat.le_of_ble_eq_true rfl) ?_
  refine rr_icmp_eqY (tgt := 1435) oL_law_1381 (by decide) (fun _ => ?_) (fun c => absurd rfl c)
  exact hP I M Rf n S W hC hM hI
theorem lc_39 (l : Launch) {a0 L b : Nat} {xs : Nat → Int32} {D : md_T} (hL : L ≤ 3072) {I : Nat → Nat → Int32} {M : Nat → Nat → Int64} {Rf : Nat → Nat → Option Nat} {n : Nat} {S : sg_T} (W : wd_T Rf n) (hC : CR_T I M S) (hM : MR_T I M S) (hI : IV_T S) {t : Nat} (ht : t + 6 ≤ L) {mc ms : Nat} (hP : ∀ (J : Nat → Nat → Int32) (N : Nat → Nat → Int64) (R2 : Nat → Nat → Option Nat) (n2 : Nat) (S2 : sg_T), wd_T R2 n2 → CR_T J N S2 → MR_T J N S2 → IV_T S2 → WL a0 L xs b D l mc ms 1435 [vv_E a0, vv_A (some 0), vv_A (some 46), vv_I (nI t)] [] (J, N, R2, n2)) : WL a0 L xs b D l mc ms 1386 [vv_E a0, vv_A (some 0), vv_A (some 46), vv_I (nI t)] [] (I, M, Rf, n) := by
  have h67 : 67 ≤ n := W.1
  refine ra_1Y oL_law_1386 ?_
  refine rr_cVC (c_X4_image l W hC hI) oL_law_1387 (cv_L_180 rfl) (by decide) hcn_4 (by omega) rfl rfl (Nat.le_of_ble_eq_true rfl) (fun J N hC2 hf => ?_)
  have hM2 : MR_T J N S := MR_cut hM (fun a h1 _ => hf a h1)
  refine ra_2Y oL_law_1390 ?_
  refine rr_cVM (c_X5_image l W hM2 hI) oL_law_1391 (cv_L_183 rfl) (by decide) hcn_5 (by omega) rfl rfl (Nat.le_of_ble_eq_true rfl) (fun J2 N2 hM3 hf2 => ?_)
  refine rr_icmp_eqY (tgt := 1435) oL_law_1394 (by decide) (fun _ => ?_) (fun c => absurd rfl c)
  exact hP J2 N2 Rf n _ W (CR_cut hC2 (fun a ha => (hf2 a ha).1) (fun a ha => (hf2 a ha).2)) hM3 (iv_image hI)
theorem lc_40 (l : Launch) {a0 L b : Nat} {xs : Nat → Int32} {D : md_T} (hL : L ≤ 3072) {I : Nat → Nat → Int32} {M : Nat → Nat → Int64} {Rf : Nat → Nat → Option Nat} {n : Nat} {S : sg_T} (W : wd_T Rf n) (hC : CR_T I M S) (hM : MR_T I M S) (hI : IV_T S) {t : Nat} (ht : t + 6 ≤ L) {mc ms : Nat} (hP : ∀ (J : Nat → Nat → Int32) (N : Nat → Nat → Int64) (R2 : Nat → Nat → Option Nat) (n2 : Nat) (S2 : sg_T), wd_T R2 n2 → CR_T J N S2 → MR_T J N S2 → IV_T S2 → WL a0 L xs b D l mc ms 1435 [vv_E a0, vv_A (some 0), vv_A (some 46), vv_I (nI t)] [] (J, N, R2, n2)) : WL a0 L xs b D l mc ms 1399 [vv_E a0, vv_A (some 0), vv_A (some 46), vv_I (nI t)] [] (I, M, Rf, n) := by
  have h67 : 67 ≤ n := W.1
  refine ra_1Y oL_law_1399 ?_
  refine rr_cVC (c_X4_restore l W hC hI) oL_law_1400 (cv_L_184 rfl) (by decide) hcn_4 (by omega) rfl rfl (Nat.le_of_ble_eq_true rfl) (fun J N hC2 hf => ?_)
  have hM2 : MR_T J N S := MR_cut hM (fun a h1 _ => hf a h1)
  refine ra_2Y oL_law_1403 ?_
  refine rr_cVM (c_X5_restore l W hM2 hI) oL_law_1404 (cv_L_187 rfl) (by decide) hcn_5 (by omega) rfl rfl (Nat.le_of_ble_eq_true rfl) (fun J2 N2 hM3 hf2 => ?_)
  refine rr_icmp_eqY (tgt := 1435) oL_law_1407 (by decide) (fun _ => ?_) (fun c => absurd rfl c)
  exact hP J2 N2 Rf n _ W (CR_cut hC2 (fun a ha => (hf2 a ha).1) (fun a ha => (hf2 a ha).2)) hM3 (iv_restore hI)
theorem lc_41 (l : Launch) {a0 L b : Nat} {xs : Nat → Int32} {D : md_T} (hL : L ≤ 3072) {I : Nat → Nat → Int32} {M : Nat → Nat → Int64} {Rf : Nat → Nat → Option Nat} {n : Nat} {S : sg_T} (W : wd_T Rf n) (hC : CR_T I M S) (hM : MR_T I M S) (hI : IV_T S) {t : Nat} (ht : t + 6 ≤ L) {mc ms : Nat} (hP : ∀ (J : Nat → Nat → Int32) (N : Nat → Nat → Int64) (R2 : Nat → Nat → Option Nat) (n2 : Nat) (S2 : sg_T), wd_T R2 n2 → CR_T J N S2 → MR_T J N S2 → IV_T S2 → WL a0 L xs b D l mc ms 1435 [vv_E a0, vv_A (some 0), vv_A (some 46), vv_I (nI t)] [] (J, N, R2, n2)) : WL a0 L xs b D l mc ms 1412 [vv_E a0, vv_A (some 0), vv_A (some 46), vv_I (nI t)] [] (I, M, Rf, n) := by
  have h67 : 67 ≤ n := W.1
  refine ra_1Y oL_law_1412 ?_
  refine re_0Y oL_law_1413 ?_
  refine ri_3Y oL_law_1414 ?_
  refine rk_1Y oL_law_1415 ?_
  refine rr_iaddY oL_law_1416 ?_
  refine rr_eild (t := t + 1) oL_law_1417 (nI_add t 1) (by omega) hL ?_
  refine rr_cVQ (c_X4_status l W hC hI) oL_law_1418 (cv_L_188 rfl) (by decide) kk_0 (by decide) hcn_4 (show 0 < n from by omega) rfl rfl (Nat.le_of_ble_eq_true rfl) ?_
  refine ra_2Y oL_law_1421 ?_
  refine re_0Y oL_law_1422 ?_
  refine ri_3Y oL_law_1423 ?_
  refine rk_1Y oL_law_1424 ?_
  refine rr_iaddY oL_law_1425 ?_
  refine rr_eild (t := t + 1) oL_law_1426 (nI_add t 1) (by omega) hL ?_
  refine rr_cVQ (c_X5_status l W hM hI) oL_law_1427 (cv_L_191 rfl) (by decide) kk_46 (by decide) hcn_5 (show 46 < n from by omega) rfl rfl (Nat.le_of_ble_eq_true rfl) ?_
  refine rr_icmp_eqY (tgt := 1435) oL_law_1430 (by decide) (fun _ => ?_) (fun c => absurd rfl c)
  exact hP I M Rf n S W hC hM hI
