-- the small methods of the class
abbrev rg (a : Int) : Prop := -2147483648 ≤ a ∧ a < 2147483648
theorem bZ_eq1 {p : Prop} [Decidable p] : (zI (bZ p) = zI 1) ↔ p := by
  unfold bZ
  by_cases h : p
  · simp only [if_pos h]; exact ⟨fun _ => h, fun _ => trivial⟩
  · simp only [if_neg h]; constructor
    · intro q; cases q
    · intro q; exact absurd q h
theorem nor_self {p : Prop} [Decidable p] : (¬ p ∨ p) = True := eq_true (by by_cases h : p; exact Or.inr h; exact Or.inl h)
theorem z_isBelow (d : Nat) {v b : Int} (hv : rg v) (hb : rg b) (w : rz_W) : rz_dM (d + 1) iO_isBelow [.int (zI v), .int (zI b)] w = some (some (.int (zI (bZ (0 ≤ v ∧ v < b)))), w) := by
  unfold bZ
  by_cases h1 : 0 ≤ v
  · by_cases h2 : v < b
    · simp (disch := first | omega | exact Nat.le_of_ble_eq_true rfl) only [e_O_isBelow, s_O_isBelow_0, s_O_isBelow_1, s_O_isBelow_4, s_O_isBelow_5, s_O_isBelow_6, s_O_isBelow_9, s_O_isBelow_10, s_O_isBelow_13, s_O_isBelow_14, Option.bind_some, Option.bind_none, Option.toList_some, Option.toList_none, List.cons_append, List.nil_append, if_true, if_false, rz_clr, true_or, or_true, z00, z11, bZ_eq0, bZ_eq1, nor_self, if_pos, if_neg, zI_add, zI_sub, zI_mul, zI_neg, zI_lt, zI_le, zI_eq]
    · simp (disch := first | omega | exact Nat.le_of_ble_eq_true rfl) only [e_O_isBelow, s_O_isBelow_0, s_O_isBelow_1, s_O_isBelow_4, s_O_isBelow_5, s_O_isBelow_6, s_O_isBelow_9, s_O_isBelow_10, s_O_isBelow_13, s_O_isBelow_14, Option.bind_some, Option.bind_none, Option.toList_some, Option.toList_none, List.cons_append, List.nil_append, if_true, if_false, rz_clr, true_or, or_true, z00, z11, bZ_eq0, bZ_eq1, nor_self, if_pos, if_neg, zI_add, zI_sub, zI_mul, zI_neg, zI_lt, zI_le, zI_eq]
  · simp (disch := first | omega | exact Nat.le_of_ble_eq_true rfl) only [e_O_isBelow, s_O_isBelow_0, s_O_isBelow_1, s_O_isBelow_4, s_O_isBelow_5, s_O_isBelow_6, s_O_isBelow_9, s_O_isBelow_10, s_O_isBelow_13, s_O_isBelow_14, Option.bind_some, Option.bind_none, Option.toList_some, Option.toList_none, List.cons_append, List.nil_append, if_true, if_false, rz_clr, true_or, or_true, z00, z11, bZ_eq0, bZ_eq1, nor_self, if_pos, if_neg, zI_add, zI_sub, zI_mul, zI_neg, zI_lt, zI_le, zI_eq]
/-- at, put: of any row that is there -/
theorem z_atG (d : Nat) {h n : Nat} {f : Nat → Int} {w : rz_W} {i : Int} (hl : rz_len w h = some (zI n)) (hr : ∀ j : Int, 0 ≤ j → j < n → rz_ald w h 0 (zI j) = some (zI (f j.toNat))) (hn : n < 2147483648) (hi : rg i) : rz_dM (d + 1) iO_at [.ref h, .int (zI i)] w = some (some (.int (zI (gat n f i))), w) := by
  unfold gat
  by_cases h3 : 0 ≤ i
  · by_cases h4 : i < n
    · have := hr i h3 h4
      simp (disch := first | omega | exact Nat.le_of_ble_eq_true rfl) only [e_O_at, s_O_at_0, s_O_at_1, s_O_at_4, s_O_at_5, s_O_at_6, s_O_at_7, s_O_at_10, s_O_at_11, s_O_at_12, s_O_at_13, s_O_at_16, s_O_at_17, Option.bind_some, Option.bind_none, Option.toList_some, Option.toList_none, List.cons_append, List.nil_append, if_true, if_false, rz_clr, true_or, or_true, z00, z11, bZ_eq0, bZ_eq1, nor_self, if_pos, if_neg, zI_add, zI_sub, zI_mul, zI_neg, zI_lt, zI_le, zI_eq, hl, this]
    · simp (disch := first | omega | exact Nat.le_of_ble_eq_true rfl) only [e_O_at, s_O_at_0, s_O_at_1, s_O_at_4, s_O_at_5, s_O_at_6, s_O_at_7, s_O_at_10, s_O_at_11, s_O_at_12, s_O_at_13, s_O_at_16, s_O_at_17, Option.bind_some, Option.bind_none, Option.toList_some, Option.toList_none, List.cons_append, List.nil_append, if_true, if_false, rz_clr, true_or, or_true, z00, z11, bZ_eq0, bZ_eq1, nor_self, if_pos, if_neg, zI_add, zI_sub, zI_mul, zI_neg, zI_lt, zI_le, zI_eq, hl]
  · simp (disch := first | omega | exact Nat.le_of_ble_eq_true rfl) only [e_O_at, s_O_at_0, s_O_at_1, s_O_at_4, s_O_at_5, s_O_at_6, s_O_at_7, s_O_at_10, s_O_at_11, s_O_at_12, s_O_at_13, s_O_at_16, s_O_at_17, Option.bind_some, Option.bind_none, Option.toList_some, Option.toList_none, List.cons_append, List.nil_append, if_true, if_false, rz_clr, true_or, or_true, z00, z11, bZ_eq0, bZ_eq1, nor_self, if_pos, if_neg, zI_add, zI_sub, zI_mul, zI_neg, zI_lt, zI_le, zI_eq, hl]
def pup (n : Nat) (f : Nat → Int) (i v : Int) : Nat → Int := if 0 ≤ i ∧ i < n then zup f i.toNat v else f
theorem z_putG (d : Nat) {N g k n h : Nat} {σ : zS} {i v : Int} (hl : rz_len (wOf N σ) h = some (zI n)) (hr : ∀ j : Int, 0 ≤ j → j < n → rz_ast (wOf N σ) h 0 (zI j) (zI v) = some (wOf N (sset σ g k (zup (σ g k) j.toNat v)))) (hn : n < 2147483648) (hi : rg i) : rz_dM (d + 1) iO_put [.ref h, .int (zI i), .int (zI v)] (wOf N σ) = some (none, wOf N (sset σ g k (pup n (σ g k) i v))) := by
  unfold pup
  have e : sset σ g k (σ g k) = σ := by
    funext a b
    unfold sset
    split
    · rename_i q; rw [q.1, q.2]
    · rfl
  by_cases h3 : 0 ≤ i
  · by_cases h4 : i < n
    · have := hr i h3 h4
      simp (disch := first | omega | exact Nat.le_of_ble_eq_true rfl) only [e_O_put, s_O_put_0, s_O_put_1, s_O_put_4, s_O_put_5, s_O_put_6, s_O_put_7, s_O_put_10, s_O_put_11, s_O_put_12, s_O_put_13, s_O_put_14, Option.bind_some, Option.bind_none, Option.toList_some, Option.toList_none, List.cons_append, List.nil_append, if_true, if_false, rz_clr, true_or, or_true, z00, z11, bZ_eq0, bZ_eq1, nor_self, if_pos, if_neg, zI_add, zI_sub, zI_mul, zI_neg, zI_lt, zI_le, zI_eq, hl, this]
    · simp (disch := first | omega | exact Nat.le_of_ble_eq_true rfl) only [e_O_put, s_O_put_0, s_O_put_1, s_O_put_4, s_O_put_5, s_O_put_6, s_O_put_7, s_O_put_10, s_O_put_11, s_O_put_12, s_O_put_13, s_O_put_14, Option.bind_some, Option.bind_none, Option.toList_some, Option.toList_none, List.cons_append, List.nil_append, if_true, if_false, rz_clr, true_or, or_true, z00, z11, bZ_eq0, bZ_eq1, nor_self, if_pos, if_neg, zI_add, zI_sub, zI_mul, zI_neg, zI_lt, zI_le, zI_eq, hl, e]
  · simp (disch := first | omega | exact Nat.le_of_ble_eq_true rfl) only [e_O_put, s_O_put_0, s_O_put_1, s_O_put_4, s_O_put_5, s_O_put_6, s_O_put_7, s_O_put_10, s_O_put_11, s_O_put_12, s_O_put_13, s_O_put_14, Option.bind_some, Option.bind_none, Option.toList_some, Option.toList_none, List.cons_append, List.nil_append, if_true, if_false, rz_clr, true_or, or_true, z00, z11, bZ_eq0, bZ_eq1, nor_self, if_pos, if_neg, zI_add, zI_sub, zI_mul, zI_neg, zI_lt, zI_le, zI_eq, hl, e]
-- bits
theorem zI_nI (n : Nat) : zI (n : Int) = nI n := (zI_ofNat n).symm
theorem sh_31 : ∀ i, i < 32 → ((nI i &&& 31).toBitVec.smod 32).toNat = i := by decide +kernel
theorem z_shr {b i : Nat} (hb : b < 2147483648) (hi : i < 32) : zI (b : Int) >>> (zI (i : Int) &&& 31) = zI ((b / 2 ^ i : Nat) : Int) := by
  rw [zI_nI, zI_nI, zI_nI]
  exact pk_shrN hb _ i (sh_31 i hi)
theorem z_and1 (b : Nat) (hb : b < 2147483648) : zI (b : Int) &&& zI 1 = zI ((b % 2 : Nat) : Int) := by
  rw [zI_nI, zI_nI]
  exact pk_andN (Nat.lt_of_lt_of_le hb (by decide)) 1 rfl
theorem z_shl {i : Nat} (hi : i < 32) : zI 1 <<< (zI (i : Int) &&& 31) = zI ((2 ^ i : Nat) : Int) := by
  have e1 : zI 1 = nI 1 := rfl
  rw [zI_nI, zI_nI, e1]
  have := pk_shlN (n := 1) (nI i &&& 31) i (sh_31 i hi) (by rw [Nat.one_mul]; exact Nat.pow_lt_pow_right (by decide) hi)
  rw [Nat.one_mul] at this
  exact this
theorem z_or {a b : Nat} (ha : a < 2147483648) (hb : b < 2147483648) : zI (a : Int) ||| zI (b : Int) = zI ((a ||| b : Nat) : Int) := by
  rw [zI_nI, zI_nI, zI_nI]
  apply Int32.toBitVec_inj.mp
  apply BitVec.eq_of_toNat_eq
  rw [Int32.toBitVec_or, BitVec.toNat_or]
  have hab : a ||| b < 2 ^ 31 := Nat.or_lt_two_pow ha hb
  rw [pk_tn (by omega), pk_tn (by omega), pk_tn (by omega)]
theorem z_clr {a i : Nat} (ha : a < 2147483648) (hi : i < 32) : zI (a : Int) &&& (zI ((2 ^ i : Nat) : Int) ^^^ zI (-1)) = zI ((a ^^^ (a &&& 2 ^ i) : Nat) : Int) := by
  rw [zI_nI, zI_nI, zI_nI]
  apply Int32.toBitVec_inj.mp
  have hp : 2 ^ i < 2 ^ 32 := Nat.pow_lt_pow_right (by decide) hi
  have hx : a ^^^ (a &&& 2 ^ i) < 2 ^ 31 := Nat.xor_lt_two_pow ha (Nat.lt_of_le_of_lt Nat.and_le_left ha)
  apply BitVec.eq_of_getLsbD_eq
  intro j hj
  rw [Int32.toBitVec_and, Int32.toBitVec_xor, BitVec.getLsbD_and, BitVec.getLsbD_xor]
  have h1 : (zI (-1)).toBitVec.getLsbD j = true := by
    have e1 : (zI (-1)).toBitVec = BitVec.allOnes 32 := rfl
    rw [e1, BitVec.getLsbD_allOnes]
    simpa using hj
  have t : ∀ (n : Nat), n < 2 ^ 32 → (nI n).toBitVec.getLsbD j = n.testBit j := by
    intro n hn
    have := pk_tn hn
    rw [← BitVec.testBit_toNat, this]
  rw [h1, t a (by omega), t _ hp, t _ (by omega), Nat.testBit_xor, Nat.testBit_and]
  cases a.testBit j <;> cases (2 ^ i).testBit j <;> rfl
theorem tb_div (b i : Nat) : b / 2 ^ i % 2 = if b.testBit i = true then 1 else 0 := by
  rw [Nat.testBit_eq_decide_div_mod_eq]
  by_cases h : b / 2 ^ i % 2 = 1
  · rw [if_pos (decide_eq_true h), h]
  · rw [if_neg (by simpa using h)]
    omega
def clrB (a i : Nat) : Nat := a ^^^ (a &&& 2 ^ i)
theorem clrB_tb (a i j : Nat) : (clrB a i).testBit j = (a.testBit j && !decide (i = j)) := by
  unfold clrB
  rw [Nat.testBit_xor, Nat.testBit_and, Nat.testBit_two_pow]
  cases a.testBit j <;> cases decide (i = j) <;> rfl
theorem clrB_le (a i : Nat) : clrB a i ≤ a := by
  unfold clrB
  apply Nat.le_of_testBit
  intro j
  rw [Nat.testBit_xor, Nat.testBit_and]
  cases a.testBit j <;> cases (2 ^ i).testBit j <;> decide
/-- the set of those below k that f says -/
def oS (f : Nat → Bool) : Nat → Nat
  | 0 => 0
  | k + 1 => if f k then oS f k ||| 2 ^ k else oS f k
theorem oS_lt (f : Nat → Bool) (k : Nat) : oS f k < 2 ^ k := by
  induction k with
  | zero => exact Nat.one_pos
  | succ k ih =>
    rw [oS]
    have h1 : oS f k < 2 ^ (k + 1) := Nat.lt_of_lt_of_le ih (Nat.pow_le_pow_right (by decide) (by omega))
    split
    · exact Nat.or_lt_two_pow h1 (Nat.pow_lt_pow_right (by decide) (by omega))
    · exact h1
theorem oS_tb (f : Nat → Bool) (k j : Nat) : (oS f k).testBit j = (decide (j < k) && f j) := by
  induction k with
  | zero => rw [oS]; simp
  | succ k ih =>
    rw [oS]
    by_cases h : f k = true
    · rw [if_pos h, Nat.testBit_or, ih, Nat.testBit_two_pow]
      by_cases hj : k = j
      · subst hj; simp [h]
      · have : (j < k + 1) ↔ j < k := by omega
        simp [hj, this]
    · rw [if_neg h, ih]
      by_cases hj : k = j
      · subst hj; simp [h]
      · have : (j < k + 1) ↔ j < k := by omega
        simp [this]
theorem z_hasBit (d : Nat) {b : Nat} {i : Int} (hb : b < 2147483648) (hi : rg i) (w : rz_W) : rz_dM (d + 1) iO_hasBit [.int (zI b), .int (zI i)] w = some (some (.int (zI (bZ (0 ≤ i ∧ i < 32 ∧ b.testBit i.toNat = true)))), w) := by
  unfold bZ
  by_cases h1 : 0 ≤ i
  · by_cases h2 : i < 32
    · obtain ⟨n, rfl⟩ : ∃ n : Nat, i = n := ⟨i.toNat, by omega⟩
      have hn : n < 32 := by omega
      have e1 := z_shr hb hn
      have hd : b / 2 ^ n < 2147483648 := Nat.lt_of_le_of_lt (Nat.div_le_self _ _) hb
      have e2 := z_and1 _ hd
      rw [tb_div] at e2
      rw [Int.toNat_natCast]
      by_cases h3 : b.testBit n = true
      · rw [if_pos h3] at e2
        have e3 : (0 ≤ (n : Int) ∧ (n : Int) < 32 ∧ b.testBit n = true) := ⟨h1, h2, h3⟩
        rw [if_pos e3]
        simp (disch := first | omega | exact Nat.le_of_ble_eq_true rfl) only [e_O_hasBit, s_O_hasBit_0, s_O_hasBit_1, s_O_hasBit_4, s_O_hasBit_5, s_O_hasBit_7, s_O_hasBit_10, s_O_hasBit_11, s_O_hasBit_12, s_O_hasBit_13, s_O_hasBit_14, s_O_hasBit_15, s_O_hasBit_18, s_O_hasBit_19, s_O_hasBit_22, s_O_hasBit_23, Option.bind_some, Option.bind_none, Option.toList_some, Option.toList_none, List.cons_append, List.nil_append, if_true, if_false, rz_clr, true_or, or_true, z00, z11, bZ_eq0, bZ_eq1, nor_self, if_pos, if_neg, zI_add, zI_sub, zI_mul, zI_neg, zI_lt, zI_le, zI_eq, e1, e2, Int.natCast_one]
      · rw [if_neg h3] at e2
        have e3 : ¬ (0 ≤ (n : Int) ∧ (n : Int) < 32 ∧ b.testBit n = true) := fun z => h3 z.2.2
        rw [if_neg e3]
        simp (disch := first | omega | exact Nat.le_of_ble_eq_true rfl) only [e_O_hasBit, s_O_hasBit_0, s_O_hasBit_1, s_O_hasBit_4, s_O_hasBit_5, s_O_hasBit_7, s_O_hasBit_10, s_O_hasBit_11, s_O_hasBit_12, s_O_hasBit_13, s_O_hasBit_14, s_O_hasBit_15, s_O_hasBit_18, s_O_hasBit_19, s_O_hasBit_22, s_O_hasBit_23, Option.bind_some, Option.bind_none, Option.toList_some, Option.toList_none, List.cons_append, List.nil_append, if_true, if_false, rz_clr, true_or, or_true, z00, z11, bZ_eq0, bZ_eq1, nor_self, if_pos, if_neg, zI_add, zI_sub, zI_mul, zI_neg, zI_lt, zI_le, zI_eq, e1, e2, Int.natCast_zero]
    · have e3 : ¬ (0 ≤ i ∧ i < 32 ∧ b.testBit i.toNat = true) := fun z => h2 z.2.1
      rw [if_neg e3]
      simp (disch := first | omega | exact Nat.le_of_ble_eq_true rfl) only [e_O_hasBit, s_O_hasBit_0, s_O_hasBit_1, s_O_hasBit_4, s_O_hasBit_5, s_O_hasBit_7, s_O_hasBit_10, s_O_hasBit_11, s_O_hasBit_12, s_O_hasBit_13, s_O_hasBit_14, s_O_hasBit_15, s_O_hasBit_18, s_O_hasBit_19, s_O_hasBit_22, s_O_hasBit_23, Option.bind_some, Option.bind_none, Option.toList_some, Option.toList_none, List.cons_append, List.nil_append, if_true, if_false, rz_clr, true_or, or_true, z00, z11, bZ_eq0, bZ_eq1, nor_self, if_pos, if_neg, zI_add, zI_sub, zI_mul, zI_neg, zI_lt, zI_le, zI_eq]
  · have e3 : ¬ (0 ≤ i ∧ i < 32 ∧ b.testBit i.toNat = true) := fun z => h1 z.1
    rw [if_neg e3]
    simp (disch := first | omega | exact Nat.le_of_ble_eq_true rfl) only [e_O_hasBit, s_O_hasBit_0, s_O_hasBit_1, s_O_hasBit_4, s_O_hasBit_5, s_O_hasBit_7, s_O_hasBit_10, s_O_hasBit_11, s_O_hasBit_12, s_O_hasBit_13, s_O_hasBit_14, s_O_hasBit_15, s_O_hasBit_18, s_O_hasBit_19, s_O_hasBit_22, s_O_hasBit_23, Option.bind_some, Option.bind_none, Option.toList_some, Option.toList_none, List.cons_append, List.nil_append, if_true, if_false, rz_clr, true_or, or_true, z00, z11, bZ_eq0, bZ_eq1, nor_self, if_pos, if_neg, zI_add, zI_sub, zI_mul, zI_neg, zI_lt, zI_le, zI_eq]
def woB (b : Nat) (i : Int) : Nat := if 0 ≤ i ∧ i < 32 then clrB b i.toNat else b
theorem z_withoutBit (d : Nat) {b : Nat} {i : Int} (hb : b < 2147483648) (hi : rg i) (w : rz_W) : rz_dM (d + 1) iO_withoutBit [.int (zI b), .int (zI i)] w = some (some (.int (zI (woB b i))), w) := by
  unfold woB
  by_cases h1 : 0 ≤ i
  · by_cases h2 : i < 32
    · obtain ⟨n, rfl⟩ : ∃ n : Nat, i = n := ⟨i.toNat, by omega⟩
      have hn : n < 32 := by omega
      have e1 := z_shl hn
      have e2 := z_clr hb hn
      rw [if_pos ⟨h1, h2⟩, Int.toNat_natCast]
      unfold clrB
      simp (disch := first | omega | exact Nat.le_of_ble_eq_true rfl) only [e_O_withoutBit, s_O_withoutBit_0, s_O_withoutBit_1, s_O_withoutBit_4, s_O_withoutBit_5, s_O_withoutBit_7, s_O_withoutBit_10, s_O_withoutBit_11, s_O_withoutBit_12, s_O_withoutBit_13, s_O_withoutBit_14, s_O_withoutBit_15, s_O_withoutBit_16, s_O_withoutBit_17, s_O_withoutBit_20, s_O_withoutBit_21, Option.bind_some, Option.bind_none, Option.toList_some, Option.toList_none, List.cons_append, List.nil_append, if_true, if_false, rz_clr, true_or, or_true, z00, z11, bZ_eq0, bZ_eq1, nor_self, if_pos, if_neg, zI_add, zI_sub, zI_mul, zI_neg, zI_lt, zI_le, zI_eq, e1, e2]
    · rw [if_neg (fun z => h2 z.2)]
      simp (disch := first | omega | exact Nat.le_of_ble_eq_true rfl) only [e_O_withoutBit, s_O_withoutBit_0, s_O_withoutBit_1, s_O_withoutBit_4, s_O_withoutBit_5, s_O_withoutBit_7, s_O_withoutBit_10, s_O_withoutBit_11, s_O_withoutBit_12, s_O_withoutBit_13, s_O_withoutBit_14, s_O_withoutBit_15, s_O_withoutBit_16, s_O_withoutBit_17, s_O_withoutBit_20, s_O_withoutBit_21, Option.bind_some, Option.bind_none, Option.toList_some, Option.toList_none, List.cons_append, List.nil_append, if_true, if_false, rz_clr, true_or, or_true, z00, z11, bZ_eq0, bZ_eq1, nor_self, if_pos, if_neg, zI_add, zI_sub, zI_mul, zI_neg, zI_lt, zI_le, zI_eq]
  · rw [if_neg (fun z => h1 z.1)]
    simp (disch := first | omega | exact Nat.le_of_ble_eq_true rfl) only [e_O_withoutBit, s_O_withoutBit_0, s_O_withoutBit_1, s_O_withoutBit_4, s_O_withoutBit_5, s_O_withoutBit_7, s_O_withoutBit_10, s_O_withoutBit_11, s_O_withoutBit_12, s_O_withoutBit_13, s_O_withoutBit_14, s_O_withoutBit_15, s_O_withoutBit_16, s_O_withoutBit_17, s_O_withoutBit_20, s_O_withoutBit_21, Option.bind_some, Option.bind_none, Option.toList_some, Option.toList_none, List.cons_append, List.nil_append, if_true, if_false, rz_clr, true_or, or_true, z00, z11, bZ_eq0, bZ_eq1, nor_self, if_pos, if_neg, zI_add, zI_sub, zI_mul, zI_neg, zI_lt, zI_le, zI_eq]
