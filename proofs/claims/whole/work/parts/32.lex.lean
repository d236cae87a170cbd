-- the script's tokens
def isLt (c : Int) : Bool := decide (97 ≤ c ∧ c ≤ 122)
def isDg (c : Int) : Bool := decide (48 ≤ c ∧ c ≤ 57)
def isSp (c : Int) : Bool := decide (c = 32)
/-- so many of them in a row -/
def scn (P : Int → Bool) (b : Nat → Int) : Nat → Nat → Nat
  | 0, _ => 0
  | n + 1, p => if P (b p) then scn P b n (p + 1) + 1 else 0
theorem scn_le (P : Int → Bool) (b : Nat → Int) : ∀ (n p : Nat), scn P b n p ≤ n := by
  intro n
  induction n with
  | zero => intro p; exact Nat.le_refl 0
  | succ n ih =>
    intro p
    rw [scn]
    have := ih (p + 1)
    split <;> omega
def dvl (b : Nat → Int) : Nat → Nat → Int → Int
  | 0, _, v => v
  | n + 1, p, v => dvl b n (p + 1) (min (10 * v + b p - 48) 100)
section LX
variable {N : Nat} {σ : zS}
theorem z_isLetter (d : Nat) {c : Int} (hc : rg c) (w : rz_W) : rz_dM (d + 1) iS_isLetter [.int (zI c)] w = some (some (.int (zI (bZ (isLt c = true)))), w) := by
  unfold isLt
  by_cases a : 97 ≤ c ∧ c ≤ 122
  · have c1 : ¬ c < 97 := by omega
    have c2 : c ≤ 122 := by omega
    rw [bZ_pos (by rw [decide_eq_true_eq]; exact a)]
    simp (disch := first | omega | exact Nat.le_of_ble_eq_true rfl) only [e_S_isLetter, s_S_isLetter_0, s_S_isLetter_1, s_S_isLetter_3, s_S_isLetter_6, s_S_isLetter_7, s_S_isLetter_9, s_S_isLetter_12, s_S_isLetter_13, s_S_isLetter_16, s_S_isLetter_17, Option.bind_some, Option.bind_none, Option.toList_some, Option.toList_none, List.cons_append, List.nil_append, if_true, if_false, rz_clr, true_or, or_true, z00, z11, bZ_eq0, bZ_eq1, nor_self, if_pos, if_neg, zI_add, zI_sub, zI_mul, zI_neg, zI_lt, zI_le, zI_eq, c1, c2]
  · rw [bZ_neg (by rw [decide_eq_true_eq]; exact a)]
    by_cases c1 : c < 97
    · simp (disch := first | omega | exact Nat.le_of_ble_eq_true rfl) only [e_S_isLetter, s_S_isLetter_0, s_S_isLetter_1, s_S_isLetter_3, s_S_isLetter_6, s_S_isLetter_7, s_S_isLetter_9, s_S_isLetter_12, s_S_isLetter_13, s_S_isLetter_16, s_S_isLetter_17, Option.bind_some, Option.bind_none, Option.toList_some, Option.toList_none, List.cons_append, List.nil_append, if_true, if_false, rz_clr, true_or, or_true, z00, z11, bZ_eq0, bZ_eq1, nor_self, if_pos, if_neg, zI_add, zI_sub, zI_mul, zI_neg, zI_lt, zI_le, zI_eq, c1]
    · have c2 : ¬ c ≤ 122 := by omega
      simp (disch := first | omega | exact Nat.le_of_ble_eq_true rfl) only [e_S_isLetter, s_S_isLetter_0, s_S_isLetter_1, s_S_isLetter_3, s_S_isLetter_6, s_S_isLetter_7, s_S_isLetter_9, s_S_isLetter_12, s_S_isLetter_13, s_S_isLetter_16, s_S_isLetter_17, Option.bind_some, Option.bind_none, Option.toList_some, Option.toList_none, List.cons_append, List.nil_append, if_true, if_false, rz_clr, true_or, or_true, z00, z11, bZ_eq0, bZ_eq1, nor_self, if_pos, if_neg, zI_add, zI_sub, zI_mul, zI_neg, zI_lt, zI_le, zI_eq, c1, c2]
theorem z_isDigit (d : Nat) {c : Int} (hc : rg c) (w : rz_W) : rz_dM (d + 1) iS_isDigit [.int (zI c)] w = some (some (.int (zI (bZ (isDg c = true)))), w) := by
  unfold isDg
  by_cases a : 48 ≤ c ∧ c ≤ 57
  · have c1 : ¬ c < 48 := by omega
    have c2 : c ≤ 57 := by omega
    rw [bZ_pos (by rw [decide_eq_true_eq]; exact a)]
    simp (disch := first | omega | exact Nat.le_of_ble_eq_true rfl) only [e_S_isDigit, s_S_isDigit_0, s_S_isDigit_1, s_S_isDigit_3, s_S_isDigit_6, s_S_isDigit_7, s_S_isDigit_9, s_S_isDigit_12, s_S_isDigit_13, s_S_isDigit_16, s_S_isDigit_17, Option.bind_some, Option.bind_none, Option.toList_some, Option.toList_none, List.cons_append, List.nil_append, if_true, if_false, rz_clr, true_or, or_true, z00, z11, bZ_eq0, bZ_eq1, nor_self, if_pos, if_neg, zI_add, zI_sub, zI_mul, zI_neg, zI_lt, zI_le, zI_eq, c1, c2]
  · rw [bZ_neg (by rw [decide_eq_true_eq]; exact a)]
    by_cases c1 : c < 48
    · simp (disch := first | omega | exact Nat.le_of_ble_eq_true rfl) only [e_S_isDigit, s_S_isDigit_0, s_S_isDigit_1, s_S_isDigit_3, s_S_isDigit_6, s_S_isDigit_7, s_S_isDigit_9, s_S_isDigit_12, s_S_isDigit_13, s_S_isDigit_16, s_S_isDigit_17, Option.bind_some, Option.bind_none, Option.toList_some, Option.toList_none, List.cons_append, List.nil_append, if_true, if_false, rz_clr, true_or, or_true, z00, z11, bZ_eq0, bZ_eq1, nor_self, if_pos, if_neg, zI_add, zI_sub, zI_mul, zI_neg, zI_lt, zI_le, zI_eq, c1]
    · have c2 : ¬ c ≤ 57 := by omega
      simp (disch := first | omega | exact Nat.le_of_ble_eq_true rfl) only [e_S_isDigit, s_S_isDigit_0, s_S_isDigit_1, s_S_isDigit_3, s_S_isDigit_6, s_S_isDigit_7, s_S_isDigit_9, s_S_isDigit_12, s_S_isDigit_13, s_S_isDigit_16, s_S_isDigit_17, Option.bind_some, Option.bind_none, Option.toList_some, Option.toList_none, List.cons_append, List.nil_append, if_true, if_false, rz_clr, true_or, or_true, z00, z11, bZ_eq0, bZ_eq1, nor_self, if_pos, if_neg, zI_add, zI_sub, zI_mul, zI_neg, zI_lt, zI_le, zI_eq, c1, c2]
theorem z_numbersOf (d : Nat) {c : Int} (hc : rg c) (w : rz_W) : rz_dM (d + 1) iS_numbersOf [.int (zI c)] w = some (some (.int (zI (if c = 5 ∨ c = 6 then 3 else 2))), w) := by
  by_cases c1 : c = 5
  · rw [if_pos (Or.inl c1)]
    simp (disch := first | omega | exact Nat.le_of_ble_eq_true rfl) only [e_S_numbersOf, s_S_numbersOf_0, s_S_numbersOf_1, s_S_numbersOf_2, s_S_numbersOf_5, s_S_numbersOf_6, s_S_numbersOf_8, s_S_numbersOf_11, s_S_numbersOf_12, s_S_numbersOf_15, s_S_numbersOf_16, Option.bind_some, Option.bind_none, Option.toList_some, Option.toList_none, List.cons_append, List.nil_append, if_true, if_false, rz_clr, true_or, or_true, z00, z11, bZ_eq0, bZ_eq1, nor_self, if_pos, if_neg, zI_add, zI_sub, zI_mul, zI_neg, zI_lt, zI_le, zI_eq, c1]
  · by_cases c2 : c = 6
    · rw [if_pos (Or.inr c2)]
      simp (disch := first | omega | exact Nat.le_of_ble_eq_true rfl) only [e_S_numbersOf, s_S_numbersOf_0, s_S_numbersOf_1, s_S_numbersOf_2, s_S_numbersOf_5, s_S_numbersOf_6, s_S_numbersOf_8, s_S_numbersOf_11, s_S_numbersOf_12, s_S_numbersOf_15, s_S_numbersOf_16, Option.bind_some, Option.bind_none, Option.toList_some, Option.toList_none, List.cons_append, List.nil_append, if_true, if_false, rz_clr, true_or, or_true, z00, z11, bZ_eq0, bZ_eq1, nor_self, if_pos, if_neg, zI_add, zI_sub, zI_mul, zI_neg, zI_lt, zI_le, zI_eq, c1, c2]
    · rw [if_neg (by omega)]
      simp (disch := first | omega | exact Nat.le_of_ble_eq_true rfl) only [e_S_numbersOf, s_S_numbersOf_0, s_S_numbersOf_1, s_S_numbersOf_2, s_S_numbersOf_5, s_S_numbersOf_6, s_S_numbersOf_8, s_S_numbersOf_11, s_S_numbersOf_12, s_S_numbersOf_15, s_S_numbersOf_16, Option.bind_some, Option.bind_none, Option.toList_some, Option.toList_none, List.cons_append, List.nil_append, if_true, if_false, rz_clr, true_or, or_true, z00, z11, bZ_eq0, bZ_eq1, nor_self, if_pos, if_neg, zI_add, zI_sub, zI_mul, zI_neg, zI_lt, zI_le, zI_eq, c1, c2]
/-- the script, as typing leaves it -/
def SOK (s : zP) : Prop := (0 ≤ s 2 0 ∧ s 2 0 ≤ 300) ∧ ∀ i : Nat, i < 300 → 0 ≤ s 0 i ∧ s 0 i ≤ 255
theorem z_byteAt (d : Nat) (hN : 48 ≤ N) (hs : SOK (σ 1)) {i : Int} (hi : 0 ≤ i ∧ i < 1000) : rz_dM (d + 2) iS_byteAt [.ref (bs 1), .int (zI i)] (wOf N σ) = some (some (.int (zI (if i < σ 1 2 0 then σ 1 0 i.toNat else 0))), wOf N σ) := by
  have h2 := hs.1
  by_cases c : i < σ 1 2 0
  · rw [if_pos c]
    simp (disch := first | omega | exact Nat.le_of_ble_eq_true rfl) only [e_S_byteAt, s_S_byteAt_0, s_S_byteAt_1, s_S_byteAt_2, s_S_byteAt_5, s_S_byteAt_8, s_S_byteAt_9, s_S_byteAt_12, s_S_byteAt_13, s_S_byteAt_16, s_S_byteAt_19, s_S_byteAt_20, Option.bind_some, Option.bind_none, Option.toList_some, Option.toList_none, List.cons_append, List.nil_append, if_true, if_false, rz_clr, true_or, or_true, z00, z11, bZ_eq0, bZ_eq1, nor_self, if_pos, if_neg, zI_add, zI_sub, zI_mul, zI_neg, zI_lt, zI_le, zI_eq, c_S, f_S_0, l_S_0, r_S_0, w_S_0, f_S_1, l_S_1, r_S_1, w_S_1, f_S_2, u_S_2, f_S_3, u_S_3, f_S_4, u_S_4, f_S_5, u_S_5, f_S_6, u_S_6, f_S_7, u_S_7, f_S_8, u_S_8, f_S_9, u_S_9, a_S_0, p_S_0, a_S_1, p_S_1, c, gat_of]
  · rw [if_neg c]
    simp (disch := first | omega | exact Nat.le_of_ble_eq_true rfl) only [e_S_byteAt, s_S_byteAt_0, s_S_byteAt_1, s_S_byteAt_2, s_S_byteAt_5, s_S_byteAt_8, s_S_byteAt_9, s_S_byteAt_12, s_S_byteAt_13, s_S_byteAt_16, s_S_byteAt_19, s_S_byteAt_20, Option.bind_some, Option.bind_none, Option.toList_some, Option.toList_none, List.cons_append, List.nil_append, if_true, if_false, rz_clr, true_or, or_true, z00, z11, bZ_eq0, bZ_eq1, nor_self, if_pos, if_neg, zI_add, zI_sub, zI_mul, zI_neg, zI_lt, zI_le, zI_eq, c_S, f_S_0, l_S_0, r_S_0, w_S_0, f_S_1, l_S_1, r_S_1, w_S_1, f_S_2, u_S_2, f_S_3, u_S_3, f_S_4, u_S_4, f_S_5, u_S_5, f_S_6, u_S_6, f_S_7, u_S_7, f_S_8, u_S_8, f_S_9, u_S_9, c]
end LX
