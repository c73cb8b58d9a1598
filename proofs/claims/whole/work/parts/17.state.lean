/-! what both sides hold: one abstract state, and what each call does with it -/
abbrev gb_T : Type := gr_T × (Nat → Bool) × (Nat → Nat → Bool) × Int32 × Int32
abbrev b_G (B : gb_T) : gr_T := B.1
abbrev b_dr (B : gb_T) : Nat → Bool := B.2.1
abbrev b_sh (B : gb_T) : Nat → Nat → Bool := B.2.2.1
abbrev b_fi (B : gb_T) : Int32 := B.2.2.2.1
abbrev b_sd (B : gb_T) : Int32 := B.2.2.2.2
/-- ground; is there an image, and which; refusals; the latest fault; shelves: held, sizes, elements; bodies, how many ran -/
abbrev sg_T : Type := gb_T × (Bool × gb_T) × (Nat → Int32) × Int32 × (Nat → Int32) × (Nat → Int32) × (Nat → Nat → Int64) × (Nat → Int32) × Int32
abbrev z_B (S : sg_T) : gb_T := S.1
abbrev z_G (S : sg_T) : gr_T := S.1.1
abbrev z_im (S : sg_T) : Bool × gb_T := S.2.1
abbrev z_rf (S : sg_T) : Nat → Int32 := S.2.2.1
abbrev z_fl (S : sg_T) : Int32 := S.2.2.2.1
abbrev z_hd (S : sg_T) : Nat → Int32 := S.2.2.2.2.1
abbrev z_sz (S : sg_T) : Nat → Int32 := S.2.2.2.2.2.1
abbrev z_el (S : sg_T) : Nat → Nat → Int64 := S.2.2.2.2.2.2.1
abbrev z_tr (S : sg_T) : Nat → Int32 := S.2.2.2.2.2.2.2.1
abbrev z_ra (S : sg_T) : Int32 := S.2.2.2.2.2.2.2.2
def w_B (S : sg_T) (B : gb_T) : sg_T := (B, z_im S, z_rf S, z_fl S, z_hd S, z_sz S, z_el S, z_tr S, z_ra S)
def w_im (S : sg_T) (i : Bool × gb_T) : sg_T := (z_B S, i, z_rf S, z_fl S, z_hd S, z_sz S, z_el S, z_tr S, z_ra S)
def w_rf (S : sg_T) (f : Nat → Int32) : sg_T := (z_B S, z_im S, f, z_fl S, z_hd S, z_sz S, z_el S, z_tr S, z_ra S)
def w_fl (S : sg_T) (v : Int32) : sg_T := (z_B S, z_im S, z_rf S, v, z_hd S, z_sz S, z_el S, z_tr S, z_ra S)
def w_hd (S : sg_T) (f : Nat → Int32) : sg_T := (z_B S, z_im S, z_rf S, z_fl S, f, z_sz S, z_el S, z_tr S, z_ra S)
def w_el (S : sg_T) (f : Nat → Nat → Int64) : sg_T := (z_B S, z_im S, z_rf S, z_fl S, z_hd S, z_sz S, f, z_tr S, z_ra S)
def w_sz (S : sg_T) (f : Nat → Int32) : sg_T := (z_B S, z_im S, z_rf S, z_fl S, z_hd S, f, z_el S, z_tr S, z_ra S)
def w_tr (S : sg_T) (f : Nat → Int32) (r : Int32) : sg_T := (z_B S, z_im S, z_rf S, z_fl S, z_hd S, z_sz S, z_el S, f, r)
def w_no (S : sg_T) (c : Nat) : sg_T := w_rf S (upd (z_rf S) c (z_rf S c + 1))
/-- the class holds S -/
def cg_T (I : Nat → Nat → Int32) (g : Nat) (B : gb_T) : Prop := gs_T I g (b_G B) (b_dr B) (b_sh B) ∧ I g 4 = b_fi B ∧ I g 5 = b_sd B
def CR_T (I : Nat → Nat → Int32) (L : Nat → Nat → Int64) (S : sg_T) : Prop :=
  cg_T I 2 (z_B S) ∧ (I 0 7 = if (z_im S).1 = true then 1 else 0) ∧ ((z_im S).1 = true → cg_T I 10 (z_im S).2) ∧ (∀ k, k < 8 → I 28 k = z_rf S k) ∧ I 0 8 = z_fl S ∧
  (∀ s, s < 8 → I (30 + 2 * s) 0 = z_hd S s ∧ I (30 + 2 * s) 1 = z_sz S s ∧ ∀ k, k < 160 → L (30 + 2 * s + 1) k = z_el S s k) ∧ (∀ k, k < 20 → I 27 k = z_tr S k) ∧ I 26 4 = z_ra S
/-- all but what is scratch to the class: its lookers, its trial, its table of curtains -/
def ce_T (I J : Nat → Nat → Int32) : Prop := ∀ a, a ≠ 9 → (a < 18 ∨ 26 ≤ a) → a ≠ 29 → J a = I a
theorem ce_rf {I : Nat → Nat → Int32} : ce_T I I := fun _ _ _ _ => rfl
theorem ce_tr {I J K : Nat → Nat → Int32} (h1 : ce_T I J) (h2 : ce_T J K) : ce_T I K := fun a q1 q2 q3 => (h2 a q1 q2 q3).trans (h1 a q1 q2 q3)
theorem ce_la {I J : Nat → Nat → Int32} {G : gr_T} (h : la_T I J 2 G) : ce_T I J := fun a q1 _ _ => h.2 a q1
theorem ce_la18 {I J : Nat → Nat → Int32} {G : gr_T} (h : la_T I J 18 G) : ce_T I J := fun a _ q2 _ => h.2 a (by omega)
theorem ce_cf {I J : Nat → Nat → Int32} {s : Nat} (h : cf_T I J 18 s) : ce_T I J := fun a _ q2 _ => h.2.2.2 a (by omega)
theorem gs_ce {I J : Nat → Nat → Int32} {g : Nat} {G : gr_T} {dr : Nat → Bool} {sh : Nat → Nat → Bool} (h : gs_T I g G dr sh) (he : ∀ j, j ≤ 6 → J (g + j) = I (g + j)) : gs_T J g G dr sh := by
  have e0 : J g = I g := he 0 (by omega)
  exact ⟨gv_keep h.1 (by rw [e0]) (by rw [e0]) (by rw [e0]) (fun j h1 h2 => he j (by omega)), by rw [e0]; exact h.2.1, fun j hj => by rw [he 6 (by omega)]; exact h.2.2 j hj⟩
theorem cg_ce {I J : Nat → Nat → Int32} {g : Nat} {B : gb_T} (h : cg_T I g B) (he : ∀ j, j ≤ 6 → J (g + j) = I (g + j)) : cg_T J g B := by
  have e0 : J g = I g := he 0 (by omega)
  exact ⟨gs_ce h.1 he, by rw [e0]; exact h.2.1, by rw [e0]; exact h.2.2⟩
theorem CR_ce {I J : Nat → Nat → Int32} {L : Nat → Nat → Int64} {S : sg_T} (h : CR_T I L S) (he : ce_T I J) : CR_T J L S := by
  obtain ⟨h1, h2, h3, h4, h5, h6, h7, h8⟩ := h
  refine ⟨cg_ce h1 (fun j hj => he _ (by omega) (by omega) (by omega)), ?_, fun q => cg_ce (h3 q) (fun j hj => he _ (by omega) (by omega) (by omega)), fun k hk => ?_, ?_, fun s hs => ?_, fun k hk => ?_, ?_⟩
  · rw [he 0 (by omega) (by omega) (by omega)]; exact h2
  · rw [he 28 (by omega) (by omega) (by omega)]; exact h4 k hk
  · rw [he 0 (by omega) (by omega) (by omega)]; exact h5
  · rw [he (30 + 2 * s) (by omega) (by omega) (by omega)]; exact h6 s hs
  · rw [he 27 (by omega) (by omega) (by omega)]; exact h7 k hk
  · rw [he 26 (by omega) (by omega) (by omega)]; exact h8
/-- what the numbers of any thing are -/
def ha_T (G : gr_T) (t : Nat) : Prop := ∃ h a u v, h ≤ 20 ∧ a < 10 ∧ u < 10 ∧ v < 10 ∧ g_h G t = nI h ∧ g_a G t = nI a ∧ g_x G t = nI u ∧ g_y G t = nI v
/-- what must hold of the state: bounds that the calls keep -/
def gI_T (B : gb_T) : Prop := g_n (b_G B) ≤ 8 ∧ hr_T (b_G B) ∧ (∀ t, t < g_n (b_G B) → is_H (g_k (b_G B) t) → ∃ h, h ≤ 20 ∧ g_h (b_G B) t = nI h) ∧ (∀ t, b_dr B t = true → t < g_n (b_G B) ∧ is_H (g_k (b_G B) t)) ∧ (∀ j i, b_sh B j i = true → (j < g_n (b_G B) ∧ is_H (g_k (b_G B) j)) ∧ (i < g_n (b_G B) ∧ is_H (g_k (b_G B) i))) ∧ (∀ t, t < g_n (b_G B) → 0 ≤ g_k (b_G B) t ∧ g_k (b_G B) t ≤ 6) ∧ (g_s (b_G B) = 0 ∨ g_s (b_G B) = 1) ∧ (∀ t, t < g_n (b_G B) → ha_T (b_G B) t)
def IV_T (S : sg_T) : Prop := gI_T (z_B S) ∧ ((z_im S).1 = true → gI_T (z_im S).2) ∧ (∀ s, s < 8 → z_hd S s = -1 ∨ (∃ t, t < g_n (z_G S) ∧ z_hd S s = nI t) ∨ (∃ o, o < 4 ∧ z_hd S s = nI (100 + o) ∧ ∃ m, m ≤ 160 ∧ z_sz S s = nI m))
/-- an answer v, the class holding S behind it, the other side untouched -/
def q_C (v : Int32) (S : sg_T) (I : Nat → Nat → Int32) (L : Nat → Nat → Int64) (Rf : Nat → Nat → Option Nat) (n : Nat) : Option vv_T → mx_T → Prop := fun r Y => r = some (vv_I v) ∧ ∃ J M, Y = (J, M, Rf, n) ∧ CR_T J M S ∧ ∀ a, 46 ≤ a → J a = I a ∧ M a = L a
theorem q_C_of {v w : Int32} {S : sg_T} {I J : Nat → Nat → Int32} {L M : Nat → Nat → Int64} {Rf : Nat → Nat → Option Nat} {n : Nat} (hv : w = v) (h : CR_T J M S) (hf : ∀ a, 46 ≤ a → J a = I a ∧ M a = L a) : q_C v S I L Rf n (some (vv_I w)) (J, M, Rf, n) := ⟨by rw [hv], J, M, rfl, h, hf⟩
theorem q_C_ce {v w : Int32} {S : sg_T} {I J : Nat → Nat → Int32} {L : Nat → Nat → Int64} {Rf : Nat → Nat → Option Nat} {n : Nat} (hC : CR_T I L S) (he : ce_T I J) (hv : w = v) : q_C v S I L Rf n (some (vv_I w)) (J, L, Rf, n) := q_C_of hv (CR_ce hC he) (fun a ha => ⟨he a (by omega) (by omega) (by omega), rfl⟩)
theorem q_C_rf {v w : Int32} {S : sg_T} {I : Nat → Nat → Int32} {L : Nat → Nat → Int64} {Rf : Nat → Nat → Option Nat} {n : Nat} (hC : CR_T I L S) (hv : w = v) : q_C v S I L Rf n (some (vv_I w)) (I, L, Rf, n) := q_C_ce hC ce_rf hv
def rf_I (I : Nat → Nat → Int32) (c : Nat) : Nat → Nat → Int32 := up_I I 28 c (I 28 c + 1)
theorem CR_no {I : Nat → Nat → Int32} {L : Nat → Nat → Int64} {S : sg_T} (h : CR_T I L S) {c : Nat} (hc : c < 8) : CR_T (rf_I I c) L (w_no S c) := by
  obtain ⟨h1, h2, h3, h4, h5, h6, h7, h8⟩ := h
  have ne : ∀ a, a ≠ 28 → rf_I I c a = I a := fun a ha => up_I_ne ha
  refine ⟨cg_ce h1 (fun j hj => ne _ (by omega)), ?_, fun q => cg_ce (h3 q) (fun j hj => ne _ (by omega)), fun k hk => ?_, ?_, fun s hs => ?_, fun k hk => ?_, ?_⟩
  · rw [ne 0 (by omega)]; exact h2
  · show up_I I 28 c (I 28 c + 1) 28 k = upd (z_rf S) c (z_rf S c + 1) k
    rw [up_I_eq]
    by_cases q : k = c
    · subst q; simp only [upd, if_true]; rw [h4 k hk]
    · simp only [upd, if_neg q]; exact h4 k hk
  · rw [ne 0 (by omega)]; exact h5
  · rw [ne (30 + 2 * s) (by omega)]; exact h6 s hs
  · rw [ne 27 (by omega)]; exact h7 k hk
  · rw [ne 26 (by omega)]; exact h8
/-- a refusal -/
theorem q_C_no {v w : Int32} {S : sg_T} {I J : Nat → Nat → Int32} {L : Nat → Nat → Int64} {Rf : Nat → Nat → Option Nat} {n c : Nat} (hC : CR_T I L S) (hc : c < 8) (he : ce_T I J) (hv : w = v) : q_C v (w_no S c) I L Rf n (some (vv_I w)) (rf_I J c, L, Rf, n) :=
  q_C_of hv (CR_no (CR_ce hC he) hc) (fun a ha => ⟨(up_I_ne (by omega)).trans (he a (by omega) (by omega) (by omega)), rfl⟩)
/-- what an answer that refuses counts -/
def no_c (r : Int32) : Nat := (-r).toNatClampNeg
theorem no_c_of {r : Int32} {c : Nat} (h : r = -nI c) (hc : c < 8) : no_c r = c ∧ -r = nI c := by
  subst h
  have e : ∀ c, c < 8 → (-(-nI c)).toNatClampNeg = c ∧ -(-nI c) = nI c := by decide +kernel
  exact e c hc
/-! answers -/
abbrev an_T : Type := Int32 × sg_T
def f_no (S : sg_T) (r : Int32) : an_T := (r, w_no S (no_c r))
def sh_ok (s : Int32) : Prop := 0 ≤ s ∧ s < 8
abbrev ix_N (x : Int32) : Nat := x.toNatClampNeg
/-- what bars a row on shelf s -/
def s_lr (S : sg_T) (s : Int32) : Int32 := if 0 ≤ s ∧ s < 8 then (if 0 ≤ z_hd S (ix_N s) ∧ z_hd S (ix_N s) < 8 then -2 else if 100 ≤ z_hd S (ix_N s) then 0 else -3) else -1
def f_row (S : sg_T) (s o n : Int32) : an_T :=
  if ¬ (0 ≤ s ∧ s < 8) then f_no S (-1) else if n < 0 then f_no S (-4) else if o < 0 ∨ 3 < o then f_no S (-6) else if 160 < n then f_no S (-7)
  else (1, w_el (w_sz (w_hd S (upd (z_hd S) (ix_N s) (100 + o))) (upd (z_sz S) (ix_N s) n)) (fun q => if q = ix_N s then (fun _ => 0) else z_el S q))
def s_val (h : Int32) (v : Int64) : Int64 := if h = 100 then v.toInt32.toInt8.toInt32.toInt64 else if h = 101 then v.toInt32.toInt16.toInt32.toInt64 else if h = 102 then v.toInt32.toInt64 else v
def f_set (S : sg_T) (s i : Int32) (v : Int64) : an_T :=
  if ¬ s_lr S s = 0 then f_no S (s_lr S s) else if ¬ (0 ≤ i ∧ i < z_sz S (ix_N s)) then f_no S (-5)
  else (1, w_el S (up_L (z_el S) (ix_N s) (ix_N i) (s_val (z_hd S (ix_N s)) v)))
