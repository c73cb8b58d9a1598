/-! sets of numbers below 8, as bits -/
def st_S (p : Nat → Bool) : Int32 := bs_N p 8 0 0
def bt_B (x : Int32) (i : Nat) : Bool := x.toBitVec.getLsbD i
theorem bt_ext {x y : Int32} (h : ∀ i, i < 32 → bt_B x i = bt_B y i) : x = y := by
  apply Int32.toBitVec_inj.mp
  apply BitVec.eq_of_getLsbD_eq
  intro i hi
  exact h i hi
theorem bt_1 (t i : Nat) (ht : t < 32) : bt_B ((1 : Int32) <<< (nI t &&& 31)) i = decide (i = t) := by
  have e : ∀ t, t < 32 → ((1 : Int32) <<< (nI t &&& 31)).toBitVec = BitVec.twoPow 32 t := by decide +kernel
  unfold bt_B
  rw [e t ht, BitVec.getLsbD_twoPow]
  by_cases q : t = i
  · subst q; simp [ht]
  · simp [q, Ne.symm q]
theorem bt_and (x y : Int32) (i : Nat) : bt_B (x &&& y) i = (bt_B x i && bt_B y i) := by simp [bt_B]
theorem bt_or (x y : Int32) (i : Nat) : bt_B (x ||| y) i = (bt_B x i || bt_B y i) := by simp [bt_B]
theorem bt_xor (x y : Int32) (i : Nat) : bt_B (x ^^^ y) i = (bt_B x i ^^ bt_B y i) := by simp [bt_B]
theorem bt_m1 (i : Nat) (h : i < 32) : bt_B (-1) i = true := by
  have e : ∀ i, i < 32 → bt_B (-1) i = true := by decide +kernel
  exact e i h
theorem bt_0 (i : Nat) : bt_B 0 i = false := by
  unfold bt_B
  rw [show (0 : Int32).toBitVec = 0#32 from rfl]
  simp
theorem bt_big {x : Int32} {i : Nat} (h : 32 ≤ i) : bt_B x i = false := by
  unfold bt_B
  exact BitVec.getLsbD_of_ge _ _ h
theorem bt_bs (p : Nat → Bool) : ∀ m t acc i, t + m ≤ 32 → bt_B (bs_N p m t acc) i = (bt_B acc i || (decide (t ≤ i ∧ i < t + m) && p i)) := by
  intro m
  induction m with
  | zero =>
    intro t acc i h
    have : ¬ (t ≤ i ∧ i < t + 0) := by omega
    simp only [bs_N, this, decide_false, Bool.false_and, Bool.or_false]
  | succ m ih =>
    intro t acc i h
    unfold bs_N
    rw [ih (t + 1) _ i (by omega)]
    by_cases hp : p t = true
    · rw [if_pos hp, bt_or, bt_1 t i (by omega)]
      by_cases q : i = t
      · subst q
        have e1 : (i ≤ i ∧ i < i + (m + 1)) := by omega
        simp [hp, e1]
      · have e1 : (t + 1 ≤ i ∧ i < t + 1 + m) ↔ (t ≤ i ∧ i < t + (m + 1)) := by omega
        simp [q, e1]
    · rw [if_neg hp]
      by_cases q : i = t
      · subst q
        have hp' : p i = false := by simpa using hp
        simp [hp']
      · have e1 : (t + 1 ≤ i ∧ i < t + 1 + m) ↔ (t ≤ i ∧ i < t + (m + 1)) := by omega
        simp [e1]
theorem bt_st (p : Nat → Bool) (i : Nat) : bt_B (st_S p) i = (decide (i < 8) && p i) := by
  unfold st_S
  rw [bt_bs p 8 0 0 i (by omega), bt_0]
  simp
/-- sets built from the first n numbers -/
theorem bs_st (p : Nat → Bool) {n : Nat} (hn : n ≤ 8) : bs_N p n 0 0 = st_S (fun i => decide (i < n) && p i) := by
  apply bt_ext
  intro i _
  rw [bt_bs p n 0 0 i (by omega), bt_0, bt_st]
  by_cases q : i < n
  · have : i < 8 := by omega
    simp [q, this]
  · simp [q]
theorem st_c {p q : Nat → Bool} (h : ∀ i, i < 8 → p i = q i) : st_S p = st_S q := by
  apply bt_ext
  intro i _
  rw [bt_st, bt_st]
  by_cases z : i < 8
  · rw [h i z]
  · simp [z]
theorem st_inj {p q : Nat → Bool} (h : st_S p = st_S q) : ∀ i, i < 8 → p i = q i := by
  intro i hi
  have h2 := congrArg (fun x => bt_B x i) h
  simp only [bt_st, hi, decide_true, Bool.true_and] at h2
  exact h2
theorem st_and (p q : Nat → Bool) : st_S p &&& st_S q = st_S (fun i => p i && q i) := by
  apply bt_ext
  intro i _
  rw [bt_and, bt_st, bt_st, bt_st]
  cases decide (i < 8) <;> simp
theorem st_or (p q : Nat → Bool) : st_S p ||| st_S q = st_S (fun i => p i || q i) := by
  apply bt_ext
  intro i _
  rw [bt_or, bt_st, bt_st, bt_st]
  cases decide (i < 8) <;> simp
theorem st_xor (p q : Nat → Bool) : st_S p ^^^ st_S q = st_S (fun i => p i ^^ q i) := by
  apply bt_ext
  intro i _
  rw [bt_xor, bt_st, bt_st, bt_st]
  cases decide (i < 8) <;> simp
/-- p without q -/
theorem st_not (p q : Nat → Bool) : st_S p &&& (st_S q ^^^ (-1)) = st_S (fun i => p i && !q i) := by
  apply bt_ext
  intro i hi
  rw [bt_and, bt_xor, bt_st, bt_st, bt_st, bt_m1 i hi]
  cases decide (i < 8) <;> simp
/-- neither -/
theorem st_not2 (p q r : Nat → Bool) : st_S p &&& ((st_S q ^^^ (-1)) &&& (st_S r ^^^ (-1))) = st_S (fun i => p i && !q i && !r i) := by
  apply bt_ext
  intro i hi
  rw [bt_and, bt_and, bt_xor, bt_xor, bt_st, bt_st, bt_st, bt_st, bt_m1 i hi]
  cases decide (i < 8) <;> simp [Bool.and_assoc]
theorem st_one (t : Nat) (ht : t < 8) : (1 : Int32) <<< (nI t &&& 31) = st_S (fun i => decide (i = t)) := by
  apply bt_ext
  intro i _
  rw [bt_1 t i (by omega), bt_st]
  by_cases q : i = t
  · subst q; simp [ht]
  · simp [q]
theorem st_0 : st_S (fun _ => false) = 0 := by
  apply bt_ext
  intro i _
  rw [bt_st, bt_0]; simp
theorem st_e0 {p : Nat → Bool} : st_S p = 0 ↔ ∀ i, i < 8 → p i = false := by
  rw [← st_0]
  exact ⟨fun h => st_inj h, fun h => st_c h⟩
/-- what isIn tells -/
theorem st_in {p : Nat → Bool} {t : Nat} (ht : t < 8) : (¬ st_S p &&& (1 : Int32) <<< (nI t &&& 31) = 0) ↔ p t = true := by
  rw [st_one t ht, st_and, st_e0]
  constructor
  · intro h
    refine Classical.byContradiction fun q => h fun i hi => ?_
    by_cases e : i = t
    · subst e; simpa using q
    · simp [e]
  · intro h h2
    have := h2 t ht
    simp [h] at this
/-- shifted down -/
theorem st_sh {p : Nat → Bool} {t : Nat} (ht : t < 8) : st_S p >>> (nI t &&& 31) &&& 1 = if p t = true then 1 else 0 := by
  have key : ∀ a0 a1 a2 a3 a4 a5 a6 a7 : Bool, ∀ t, t < 8 → st_S (fun i => [a0, a1, a2, a3, a4, a5, a6, a7].getD i false) >>> (nI t &&& 31) &&& 1 = if [a0, a1, a2, a3, a4, a5, a6, a7].getD t false = true then 1 else 0 := by decide +kernel
  have e : ∀ i, i < 8 → p i = [p 0, p 1, p 2, p 3, p 4, p 5, p 6, p 7].getD i false := by
    intro i hi
    rcases (show i = 0 ∨ i = 1 ∨ i = 2 ∨ i = 3 ∨ i = 4 ∨ i = 5 ∨ i = 6 ∨ i = 7 by omega) with rfl | rfl | rfl | rfl | rfl | rfl | rfl | rfl <;> rfl
  rw [st_c e, e t ht]
  exact key _ _ _ _ _ _ _ _ t ht
/-- how many -/
def cn_N (p : Nat → Bool) : Nat → Nat
  | 0 => 0
  | m + 1 => cn_N p m + (p m).toNat
abbrev cn_8 (p : Nat → Bool) : Nat := cn_N p 8
theorem cn_le (p : Nat → Bool) : ∀ m, cn_N p m ≤ m := by
  intro m
  induction m with
  | zero => exact Nat.le_refl _
  | succ m ih =>
    unfold cn_N
    have : (p m).toNat ≤ 1 := by cases p m <;> decide
    omega
theorem cn_c {p q : Nat → Bool} : ∀ m, (∀ i, i < m → p i = q i) → cn_N p m = cn_N q m := by
  intro m
  induction m with
  | zero => intro _; rfl
  | succ m ih =>
    intro h
    unfold cn_N
    rw [ih (fun i hi => h i (by omega)), h m (by omega)]
def bc_1 (x : Int32) : Int32 := x - ((x.toUInt32 >>> ((1 : Int32).toUInt32 &&& Int32.toUInt32 31)).toInt32 &&& 1431655765)
def bc_2 (x : Int32) : Int32 := (x &&& 858993459) + ((x.toUInt32 >>> ((2 : Int32).toUInt32 &&& Int32.toUInt32 31)).toInt32 &&& 858993459)
def bc_3 (x : Int32) : Int32 := (x + (x.toUInt32 >>> ((4 : Int32).toUInt32 &&& Int32.toUInt32 31)).toInt32) &&& 252645135
def bc_4 (x : Int32) : Int32 := x + (x.toUInt32 >>> ((8 : Int32).toUInt32 &&& Int32.toUInt32 31)).toInt32
def bc_5 (x : Int32) : Int32 := x + (x.toUInt32 >>> ((16 : Int32).toUInt32 &&& Int32.toUInt32 31)).toInt32
/-- Integer.bitCount -/
def bc_I (x : Int32) : Int32 := bc_5 (bc_4 (bc_3 (bc_2 (bc_1 x)))) &&& 63
theorem bc_st (p : Nat → Bool) : bc_I (st_S p) = nI (cn_8 p) := by
  have key : ∀ a0 a1 a2 a3 a4 a5 a6 a7 : Bool, bc_I (st_S (fun i => [a0, a1, a2, a3, a4, a5, a6, a7].getD i false)) = nI (cn_8 (fun i => [a0, a1, a2, a3, a4, a5, a6, a7].getD i false)) := by decide +kernel
  have e : ∀ i, i < 8 → p i = [p 0, p 1, p 2, p 3, p 4, p 5, p 6, p 7].getD i false := by
    intro i hi
    rcases (show i = 0 ∨ i = 1 ∨ i = 2 ∨ i = 3 ∨ i = 4 ∨ i = 5 ∨ i = 6 ∨ i = 7 by omega) with rfl | rfl | rfl | rfl | rfl | rfl | rfl | rfl <;> rfl
  rw [st_c e, show cn_8 p = cn_8 _ from cn_c 8 e]
  exact key _ _ _ _ _ _ _ _
theorem sm_c {f g : Nat → Int32} : ∀ m t acc, (∀ i, t ≤ i → i < t + m → f i = g i) → sm_N f m t acc = sm_N g m t acc := by
  intro m
  induction m with
  | zero => intro t acc _; rfl
  | succ m ih =>
    intro t acc h
    unfold sm_N
    rw [h t (by omega) (by omega)]
    exact ih _ _ (fun i h1 h2 => h i (by omega) (by omega))
/-- the sum of a set's bits -/
theorem sm_cn (p : Nat → Bool) : ∀ m t acc, sm_N (fun i => if p i = true then 1 else 0) m t acc = acc + nI (cn_N p (t + m)) - nI (cn_N p t) := by
  intro m
  induction m with
  | zero => intro t acc; simp [sm_N, Int32.add_sub_cancel]
  | succ m ih =>
    intro t acc
    unfold sm_N
    rw [ih (t + 1) _]
    have e : cn_N p (t + 1) = cn_N p t + (p t).toNat := rfl
    rw [show t + 1 + m = t + (m + 1) by omega, e]
    cases h : p t
    · simp
    · simp only [if_true, Bool.toNat_true, ← nI_add]
      rw [show nI 1 = (1 : Int32) from rfl]
      generalize nI (cn_N p (t + (m + 1))) = a
      generalize nI (cn_N p t) = b
      rw [Int32.sub_eq_add_neg, Int32.sub_eq_add_neg, Int32.neg_add]
      rw [show acc + 1 + a + (-b - 1) = acc + 1 + a + (-b + -1) by rw [Int32.sub_eq_add_neg]]
      rw [Int32.add_assoc acc, Int32.add_comm 1 a, ← Int32.add_assoc acc, Int32.add_assoc (acc + a), Int32.add_comm 1, Int32.add_assoc (-b), show (-1 : Int32) + 1 = 0 from by decide, Int32.add_zero]
