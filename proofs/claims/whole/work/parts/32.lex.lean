-- the script's tokens
def isLt (c : Int) : Bool := decide (97 ≤ c ∧ c ≤ 122)
def isDg (c : Int) : Bool := decide (48 ≤ c ∧ c ≤ 57)
def isSp (c : Int) : Bool := decide (c = 32)
/-- so many of them in a row -/
def scn (P : Int → Bool) (b : Nat → Int) : Nat → Nat → Nat
  | 0, _ => 0
  | n + 1, p => if P (b p) then scn P b n (p + 1) + 1 else 0
theorem scn_le (P : Int → Bool) (b : Nat → Int) : ∀ (n p : Nat), scn P b n p ≤ n := by
  intro n
  induction n with
  | zero => intro p; exact Nat.le_refl 0
  | succ n ih =>
    intro p
    rw [scn]
    have := ih (p + 1)
    split <;> omega
def dvl (b : Nat → Int) : Nat → Nat → Int → Int
  | 0, _, v => v
  | n + 1, p, v => dvl b n (p + 1) (min (10 * v + b p - 48) 100)
section LX
variable {N : Nat} {σ : zS}
theorem z_isLetter (d : Nat) {c : Int} (hc : rg c) (w : rz_W) : rz_dM (d + 1) iS_isLetter [.int (zI c)] w = some (some (.int (zI (bZ (isLt c = true)))), w) := by
  unfold isLt
  by_cases a : 97 ≤ c ∧ c ≤ 122
  · have c1 : ¬ c < 97 := by omega
    have c2 : c ≤ 122 := by omega
    rw [bZ_pos (by rw [decide_eq_true_eq]; exact a)]
    simp (disch := first | omega | exact Nat.le_of_ble_eq_true rfl) only [e_S_isLetter, s_S_isLetter_0, s_S_isLetter_1, s_S_isLetter_3, s_S_isLetter_6, s_S_isLetter_7, s_S_isLetter_9, s_S_isLetter_12, s_S_isLetter_13, s_S_isLetter_16, s_S_isLetter_17, Option.bind_some, Option.bind_none, Option.toList_some, Option.toList_none, List.cons_append, List.nil_append, if_true, if_false, rz_clr, true_or, or_true, z00, z11, bZ_eq0, bZ_eq1, nor_self, if_pos, if_neg, zI_add, zI_sub, zI_mul, zI_neg, zI_lt, zI_le, zI_eq, c1, c2]
  · rw [bZ_neg (by rw [decide_eq_true_eq]; exact a)]
    by_cases c1 : c < 97
    · simp (disch := first | omega | exact Nat.le_of_ble_eq_true rfl) only [e_S_isLetter, s_S_isLetter_0, s_S_isLetter_1, s_S_isLetter_3, s_S_isLetter_6, s_S_isLetter_7, s_S_isLetter_9, s_S_isLetter_12, s_S_isLetter_13, s_S_isLetter_16, s_S_isLetter_17, Option.bind_some, Option.bind_none, Option.toList_some, Option.toList_none, List.cons_append, List.nil_append, if_true, if_false, rz_clr, true_or, or_true, z00, z11, bZ_eq0, bZ_eq1, nor_self, if_pos, if_neg, zI_add, zI_sub, zI_mul, zI_neg, zI_lt, zI_le, zI_eq, c1]
    · have c2 : ¬ c ≤ 122 := by omega
      simp (disch := first | omega | exact Nat.le_of_ble_eq_true rfl) only [e_S_isLetter, s_S_isLetter_0, s_S_isLetter_1, s_S_isLetter_3, s_S_isLetter_6, s_S_isLetter_7, s_S_isLetter_9, s_S_isLetter_12, s_S_isLetter_13, s_S_isLetter_16, s_S_isLetter_17, Option.bind_some, Option.bind_none, Option.toList_some, Option.toList_none, List.cons_append, List.nil_append, if_true, if_false, rz_clr, true_or, or_true, z00, z11, bZ_eq0, bZ_eq1, nor_self, if_pos, if_neg, zI_add, zI_sub, zI_mul, zI_neg, zI_lt, zI_le, zI_eq, c1, c2]
theorem z_isDigit (d : Nat) {c : Int} (hc : rg c) (w : rz_W) : rz_dM (d + 1) iS_isDigit [.int (zI c)] w = some (some (.int (zI (bZ (isDg c = true)))), w) := by
  unfold isDg
  by_cases a : 48 ≤ c ∧ c ≤ 57
  · have c1 : ¬ c < 48 := by omega
    have c2 : c ≤ 57 := by omega
    rw [bZ_pos (by rw [decide_eq_true_eq]; exact a)]
    simp (disch := first | omega | exact Nat.le_of_ble_eq_true rfl) only [e_S_isDigit, s_S_isDigit_0, s_S_isDigit_1, s_S_isDigit_3, s_S_isDigit_6, s_S_isDigit_7, s_S_isDigit_9, s_S_isDigit_12, s_S_isDigit_13, s_S_isDigit_16, s_S_isDigit_17, Option.bind_some, Option.bind_none, Option.toList_some, Option.toList_none, List.cons_append, List.nil_append, if_true, if_false, rz_clr, true_or, or_true, z00, z11, bZ_eq0, bZ_eq1, nor_self, if_pos, if_neg, zI_add, zI_sub, zI_mul, zI_neg, zI_lt, zI_le, zI_eq, c1, c2]
  · rw [bZ_neg (by rw [decide_eq_true_eq]; exact a)]
    by_cases c1 : c < 48
    · simp (disch := first | omega | exact Nat.le_of_ble_eq_true rfl) only [e_S_isDigit, s_S_isDigit_0, s_S_isDigit_1, s_S_isDigit_3, s_S_isDigit_6, s_S_isDigit_7, s_S_isDigit_9, s_S_isDigit_12, s_S_isDigit_13, s_S_isDigit_16, s_S_isDigit_17, Option.bind_some, Option.bind_none, Option.toList_some, Option.toList_none, List.cons_append, List.nil_append, if_true, if_false, rz_clr, true_or, or_true, z00, z11, bZ_eq0, bZ_eq1, nor_self, if_pos, if_neg, zI_add, zI_sub, zI_mul, zI_neg, zI_lt, zI_le, zI_eq, c1]
    · have c2 : ¬ c ≤ 57 := by omega
      simp (disch := first | omega | exact Nat.le_of_ble_eq_true rfl) only [e_S_isDigit, s_S_isDigit_0, s_S_isDigit_1, s_S_isDigit_3, s_S_isDigit_6, s_S_isDigit_7, s_S_isDigit_9, s_S_isDigit_12, s_S_isDigit_13, s_S_isDigit_16, s_S_isDigit_17, Option.bind_some, Option.bind_none, Option.toList_some, Option.toList_none, List.cons_append, List.nil_append, if_true, if_false, rz_clr, true_or, or_true, z00, z11, bZ_eq0, bZ_eq1, nor_self, if_pos, if_neg, zI_add, zI_sub, zI_mul, zI_neg, zI_lt, zI_le, zI_eq, c1, c2]
theorem z_numbersOf (d : Nat) {c : Int} (hc : rg c) (w : rz_W) : rz_dM (d + 1) iS_numbersOf [.int (zI c)] w = some (some (.int (zI (if c = 5 ∨ c = 6 then 3 else 2))), w) := by
  by_cases c1 : c = 5
  · rw [if_pos (Or.inl c1)]
    simp (disch := first | omega | exact Nat.le_of_ble_eq_true rfl) only [e_S_numbersOf, s_S_numbersOf_0, s_S_numbersOf_1, s_S_numbersOf_2, s_S_numbersOf_5, s_S_numbersOf_6, s_S_numbersOf_8, s_S_numbersOf_11, s_S_numbersOf_12, s_S_numbersOf_15, s_S_numbersOf_16, Option.bind_some, Option.bind_none, Option.toList_some, Option.toList_none, List.cons_append, List.nil_append, if_true, if_false, rz_clr, true_or, or_true, z00, z11, bZ_eq0, bZ_eq1, nor_self, if_pos, if_neg, zI_add, zI_sub, zI_mul, zI_neg, zI_lt, zI_le, zI_eq, c1]
  · by_cases c2 : c = 6
    · rw [if_pos (Or.inr c2)]
      simp (disch := first | omega | exact Nat.le_of_ble_eq_true rfl) only [e_S_numbersOf, s_S_numbersOf_0, s_S_numbersOf_1, s_S_numbersOf_2, s_S_numbersOf_5, s_S_numbersOf_6, s_S_numbersOf_8, s_S_numbersOf_11, s_S_numbersOf_12, s_S_numbersOf_15, s_S_numbersOf_16, Option.bind_some, Option.bind_none, Option.toList_some, Option.toList_none, List.cons_append, List.nil_append, if_true, if_false, rz_clr, true_or, or_true, z00, z11, bZ_eq0, bZ_eq1, nor_self, if_pos, if_neg, zI_add, zI_sub, zI_mul, zI_neg, zI_lt, zI_le, zI_eq, c1, c2]
    · rw [if_neg (by omega)]
      simp (disch := first | omega | exact Nat.le_of_ble_eq_true rfl) only [e_S_numbersOf, s_S_numbersOf_0, s_S_numbersOf_1, s_S_numbersOf_2, s_S_numbersOf_5, s_S_numbersOf_6, s_S_numbersOf_8, s_S_numbersOf_11, s_S_numbersOf_12, s_S_numbersOf_15, s_S_numbersOf_16, Option.bind_some, Option.bind_none, Option.toList_some, Option.toList_none, List.cons_append, List.nil_append, if_true, if_false, rz_clr, true_or, or_true, z00, z11, bZ_eq0, bZ_eq1, nor_self, if_pos, if_neg, zI_add, zI_sub, zI_mul, zI_neg, zI_lt, zI_le, zI_eq, c1, c2]
/-- the script, as typing leaves it -/
def SOK (s : zP) : Prop := (0 ≤ s 2 0 ∧ s 2 0 ≤ 300) ∧ ∀ i : Nat, i < 300 → 0 ≤ s 0 i ∧ s 0 i ≤ 255
theorem z_byteAt (d : Nat) (hN : 48 ≤ N) (hs : SOK (σ 1)) {i : Int} (hi : 0 ≤ i ∧ i < 1000) : rz_dM (d + 2) iS_byteAt [.ref (bs 1), .int (zI i)] (wOf N σ) = some (some (.int (zI (if i < σ 1 2 0 then σ 1 0 i.toNat else 0))), wOf N σ) := by
  have h2 := hs.1
  by_cases c : i < σ 1 2 0
  · rw [if_pos c]
    simp (disch := first | omega | exact Nat.le_of_ble_eq_true rfl) only [e_S_byteAt, s_S_byteAt_0, s_S_byteAt_1, s_S_byteAt_2, s_S_byteAt_5, s_S_byteAt_8, s_S_byteAt_9, s_S_byteAt_12, s_S_byteAt_13, s_S_byteAt_16, s_S_byteAt_19, s_S_byteAt_20, Option.bind_some, Option.bind_none, Option.toList_some, Option.toList_none, List.cons_append, List.nil_append, if_true, if_false, rz_clr, true_or, or_true, z00, z11, bZ_eq0, bZ_eq1, nor_self, if_pos, if_neg, zI_add, zI_sub, zI_mul, zI_neg, zI_lt, zI_le, zI_eq, c_S, f_S_0, l_S_0, r_S_0, w_S_0, f_S_1, l_S_1, r_S_1, w_S_1, f_S_2, u_S_2, f_S_3, u_S_3, f_S_4, u_S_4, f_S_5, u_S_5, f_S_6, u_S_6, f_S_7, u_S_7, f_S_8, u_S_8, f_S_9, u_S_9, a_S_0, p_S_0, a_S_1, p_S_1, c, gat_of]
  · rw [if_neg c]
    simp (disch := first | omega | exact Nat.le_of_ble_eq_true rfl) only [e_S_byteAt, s_S_byteAt_0, s_S_byteAt_1, s_S_byteAt_2, s_S_byteAt_5, s_S_byteAt_8, s_S_byteAt_9, s_S_byteAt_12, s_S_byteAt_13, s_S_byteAt_16, s_S_byteAt_19, s_S_byteAt_20, Option.bind_some, Option.bind_none, Option.toList_some, Option.toList_none, List.cons_append, List.nil_append, if_true, if_false, rz_clr, true_or, or_true, z00, z11, bZ_eq0, bZ_eq1, nor_self, if_pos, if_neg, zI_add, zI_sub, zI_mul, zI_neg, zI_lt, zI_le, zI_eq, c_S, f_S_0, l_S_0, r_S_0, w_S_0, f_S_1, l_S_1, r_S_1, w_S_1, f_S_2, u_S_2, f_S_3, u_S_3, f_S_4, u_S_4, f_S_5, u_S_5, f_S_6, u_S_6, f_S_7, u_S_7, f_S_8, u_S_8, f_S_9, u_S_9, c]
theorem wOf_ext {σ σ' : zS} (N : Nat) (h : ∀ g k, σ g k = σ' g k ∨ (¬ (((lay g).getD k (9, 0, 0)).1 = 1 ∨ ((lay g).getD k (9, 0, 0)).1 = 2) ∧ σ g k 0 = σ' g k 0)) : wOf N σ = wOf N σ' := by
  have h0 : ∀ g k, σ g k 0 = σ' g k 0 := by
    intro g k
    rcases h g k with e | ⟨-, e⟩
    · rw [e]
    · exact e
  funext j
  unfold wOf
  by_cases hj : j < N
  · rw [if_pos hj, if_pos hj]
    unfold cellOf
    generalize e : hTab[j]? = q
    match q, e with
    | none, _ => rfl
    | some (g, 0), _ =>
      show gObj σ g = gObj σ' g
      have e2 : (fun k e => gVal σ g k e) = fun k e => gVal σ' g k e := by
        funext k e
        unfold gVal
        rw [h0]
      unfold gObj
      rw [e2]
    | some (g, k + 1), e =>
      show gArr σ g k _ = gArr σ' g k _
      have h60 : j < 60 := by
        rcases Nat.lt_or_ge j 60 with z | z
        · exact z
        · rw [hTab_out z] at e; cases e
      have hi := hTab_inv h60 e
      unfold hInvB at hi
      have hi' := of_decide_eq_true hi
      rcases h g k with z | ⟨z, -⟩
      · unfold gArr; rw [z]
      · exact absurd hi'.2.2.2 z
  · rw [if_neg hj, if_neg hj]
/-- a number's slot set to what it is -/
theorem wOf_self {σ : zS} (N : Nat) {g : Nat} (s : zP) {k : Nat} (hk : ¬ (((lay g).getD k (9, 0, 0)).1 = 1 ∨ ((lay g).getD k (9, 0, 0)).1 = 2)) {v : Int} (hv : v = s k 0) : wOf N (gset σ g (pset s k (fun _ => v))) = wOf N (gset σ g s) := by
  apply wOf_ext
  intro g' k'
  by_cases c : g' = g
  · subst c
    rw [gset_at, gset_at]
    by_cases c2 : k' = k
    · subst c2
      exact Or.inr ⟨hk, by rw [pset_eq]; exact hv⟩
    · exact Or.inl (pset_ne c2)
  · exact Or.inl (by rw [gset_ne c, gset_ne c])
theorem SOK_p {s : zP} (h : SOK s) (k : Nat) (h0 : k ≠ 0) (h2 : k ≠ 2) (f : Nat → Int) : SOK (pset s k f) := by
  unfold SOK
  rw [pset_ne (Ne.symm h2), pset_ne (Ne.symm h0)]
  exact h
theorem z_spaces (d : Nat) (hN : 48 ≤ N) {s : zP} (hs : SOK s) {len : Nat} (hl : s 2 0 = len) (l1 : Option Value) : ∀ (n p : Nat), n + p = len → rz_den (rz_dM (d + 2)) (rz_at tb_X2_nextToken) (some .boolean) 0 [some (.ref (bs 1)), l1] [] (wOf N (gset σ 1 (pset s 3 (fun _ => (p : Int))))) = rz_den (rz_dM (d + 2)) (rz_at tb_X2_nextToken) (some .boolean) 37 [some (.ref (bs 1)), l1] [] (wOf N (gset σ 1 (pset s 3 (fun _ => ((p + scn isSp (s 0) n p : Nat) : Int))))) := by
  have h300 := hs.1
  intro n
  induction n with
  | zero =>
    intro p hp
    have c : ¬ (p : Int) < len := by omega
    rw [s_S_nextToken_0, scn]
    simp (disch := first | omega | exact Nat.le_of_ble_eq_true rfl) only [e_S_nextToken, s_S_nextToken_1, s_S_nextToken_4, s_S_nextToken_5, s_S_nextToken_8, s_S_nextToken_11, s_S_nextToken_12, s_S_nextToken_13, s_S_nextToken_16, s_S_nextToken_19, s_S_nextToken_21, s_S_nextToken_24, s_S_nextToken_25, s_S_nextToken_26, s_S_nextToken_29, s_S_nextToken_30, s_S_nextToken_31, s_S_nextToken_34, s_S_nextToken_38, s_S_nextToken_41, s_S_nextToken_42, s_S_nextToken_45, s_S_nextToken_48, s_S_nextToken_49, s_S_nextToken_50, s_S_nextToken_51, s_S_nextToken_52, s_S_nextToken_55, s_S_nextToken_58, s_S_nextToken_59, s_S_nextToken_60, s_S_nextToken_63, s_S_nextToken_66, s_S_nextToken_67, s_S_nextToken_68, s_S_nextToken_71, s_S_nextToken_74, s_S_nextToken_75, s_S_nextToken_78, s_S_nextToken_81, s_S_nextToken_82, s_S_nextToken_85, s_S_nextToken_88, s_S_nextToken_89, s_S_nextToken_92, s_S_nextToken_95, s_S_nextToken_96, s_S_nextToken_97, s_S_nextToken_100, s_S_nextToken_101, s_S_nextToken_102, s_S_nextToken_105, s_S_nextToken_106, s_S_nextToken_107, s_S_nextToken_109, s_S_nextToken_112, s_S_nextToken_113, s_S_nextToken_116, s_S_nextToken_117, s_S_nextToken_120, s_S_nextToken_121, Option.bind_some, Option.bind_none, Option.toList_some, Option.toList_none, List.cons_append, List.nil_append, if_true, if_false, rz_clr, true_or, or_true, z00, z11, bZ_eq0, bZ_eq1, nor_self, if_pos, if_neg, zI_add, zI_sub, zI_mul, zI_neg, zI_lt, zI_le, zI_eq, c_S, f_S_0, l_S_0, r_S_0, w_S_0, f_S_1, l_S_1, r_S_1, w_S_1, f_S_2, u_S_2, f_S_3, u_S_3, f_S_4, u_S_4, f_S_5, u_S_5, f_S_6, u_S_6, f_S_7, u_S_7, f_S_8, u_S_8, f_S_9, u_S_9, sset_eq, gset_at, gset_gset, gset_ne, pset_eq, pset_ne, hl, c, Nat.add_zero]
  | succ n ih =>
    intro p hp
    have c : (p : Int) < len := by omega
    have hb := z_byteAt (N := N) (σ := gset σ 1 (pset s 3 (fun _ => (p : Int)))) d hN (by rw [gset_at]; exact SOK_p hs 3 (by decide) (by decide) _) (i := p) (by omega)
    rw [gset_at, pset_ne (by decide), pset_ne (by decide), hl, if_pos c, Int.toNat_natCast] at hb
    have hv := hs.2 p (by omega)
    rw [s_S_nextToken_0, scn]
    by_cases c2 : s 0 p = 32
    · have e : isSp (s 0 p) = true := by unfold isSp; rw [decide_eq_true_eq]; exact c2
      rw [if_pos e]
      have ih' := ih (p + 1) (by omega)
      rw [show p + 1 + scn isSp (s 0) n (p + 1) = p + (scn isSp (s 0) n (p + 1) + 1) by omega] at ih'
      simp only [Int.natCast_add, Int.natCast_one] at ih' ⊢
      simp (disch := first | omega | exact Nat.le_of_ble_eq_true rfl) only [e_S_nextToken, s_S_nextToken_1, s_S_nextToken_4, s_S_nextToken_5, s_S_nextToken_8, s_S_nextToken_11, s_S_nextToken_12, s_S_nextToken_13, s_S_nextToken_16, s_S_nextToken_19, s_S_nextToken_21, s_S_nextToken_24, s_S_nextToken_25, s_S_nextToken_26, s_S_nextToken_29, s_S_nextToken_30, s_S_nextToken_31, s_S_nextToken_34, s_S_nextToken_38, s_S_nextToken_41, s_S_nextToken_42, s_S_nextToken_45, s_S_nextToken_48, s_S_nextToken_49, s_S_nextToken_50, s_S_nextToken_51, s_S_nextToken_52, s_S_nextToken_55, s_S_nextToken_58, s_S_nextToken_59, s_S_nextToken_60, s_S_nextToken_63, s_S_nextToken_66, s_S_nextToken_67, s_S_nextToken_68, s_S_nextToken_71, s_S_nextToken_74, s_S_nextToken_75, s_S_nextToken_78, s_S_nextToken_81, s_S_nextToken_82, s_S_nextToken_85, s_S_nextToken_88, s_S_nextToken_89, s_S_nextToken_92, s_S_nextToken_95, s_S_nextToken_96, s_S_nextToken_97, s_S_nextToken_100, s_S_nextToken_101, s_S_nextToken_102, s_S_nextToken_105, s_S_nextToken_106, s_S_nextToken_107, s_S_nextToken_109, s_S_nextToken_112, s_S_nextToken_113, s_S_nextToken_116, s_S_nextToken_117, s_S_nextToken_120, s_S_nextToken_121, Option.bind_some, Option.bind_none, Option.toList_some, Option.toList_none, List.cons_append, List.nil_append, if_true, if_false, rz_clr, true_or, or_true, z00, z11, bZ_eq0, bZ_eq1, nor_self, if_pos, if_neg, zI_add, zI_sub, zI_mul, zI_neg, zI_lt, zI_le, zI_eq, c_S, f_S_0, l_S_0, r_S_0, w_S_0, f_S_1, l_S_1, r_S_1, w_S_1, f_S_2, u_S_2, f_S_3, u_S_3, f_S_4, u_S_4, f_S_5, u_S_5, f_S_6, u_S_6, f_S_7, u_S_7, f_S_8, u_S_8, f_S_9, u_S_9, sset_eq, gset_at, gset_gset, gset_ne, pset_eq, pset_ne, hl, c, hb, c2, ih', pset_pset]
    · have e : ¬ isSp (s 0 p) = true := by unfold isSp; rw [decide_eq_true_eq]; exact c2
      rw [if_neg e]
      simp (disch := first | omega | exact Nat.le_of_ble_eq_true rfl) only [e_S_nextToken, s_S_nextToken_1, s_S_nextToken_4, s_S_nextToken_5, s_S_nextToken_8, s_S_nextToken_11, s_S_nextToken_12, s_S_nextToken_13, s_S_nextToken_16, s_S_nextToken_19, s_S_nextToken_21, s_S_nextToken_24, s_S_nextToken_25, s_S_nextToken_26, s_S_nextToken_29, s_S_nextToken_30, s_S_nextToken_31, s_S_nextToken_34, s_S_nextToken_38, s_S_nextToken_41, s_S_nextToken_42, s_S_nextToken_45, s_S_nextToken_48, s_S_nextToken_49, s_S_nextToken_50, s_S_nextToken_51, s_S_nextToken_52, s_S_nextToken_55, s_S_nextToken_58, s_S_nextToken_59, s_S_nextToken_60, s_S_nextToken_63, s_S_nextToken_66, s_S_nextToken_67, s_S_nextToken_68, s_S_nextToken_71, s_S_nextToken_74, s_S_nextToken_75, s_S_nextToken_78, s_S_nextToken_81, s_S_nextToken_82, s_S_nextToken_85, s_S_nextToken_88, s_S_nextToken_89, s_S_nextToken_92, s_S_nextToken_95, s_S_nextToken_96, s_S_nextToken_97, s_S_nextToken_100, s_S_nextToken_101, s_S_nextToken_102, s_S_nextToken_105, s_S_nextToken_106, s_S_nextToken_107, s_S_nextToken_109, s_S_nextToken_112, s_S_nextToken_113, s_S_nextToken_116, s_S_nextToken_117, s_S_nextToken_120, s_S_nextToken_121, Option.bind_some, Option.bind_none, Option.toList_some, Option.toList_none, List.cons_append, List.nil_append, if_true, if_false, rz_clr, true_or, or_true, z00, z11, bZ_eq0, bZ_eq1, nor_self, if_pos, if_neg, zI_add, zI_sub, zI_mul, zI_neg, zI_lt, zI_le, zI_eq, c_S, f_S_0, l_S_0, r_S_0, w_S_0, f_S_1, l_S_1, r_S_1, w_S_1, f_S_2, u_S_2, f_S_3, u_S_3, f_S_4, u_S_4, f_S_5, u_S_5, f_S_6, u_S_6, f_S_7, u_S_7, f_S_8, u_S_8, f_S_9, u_S_9, sset_eq, gset_at, gset_gset, gset_ne, pset_eq, pset_ne, hl, c, hb, c2, Nat.add_zero]
theorem z_letters (d : Nat) (hN : 48 ≤ N) {s : zP} (hs : SOK s) {len : Nat} (hl : s 2 0 = len) : ∀ (n p : Nat), n + p = len → rz_den (rz_dM (d + 2)) (rz_at tb_X2_takeWord) none 0 [some (.ref (bs 1))] [] (wOf N (gset σ 1 (pset s 3 (fun _ => (p : Int))))) = rz_den (rz_dM (d + 2)) (rz_at tb_X2_takeWord) none 38 [some (.ref (bs 1))] [] (wOf N (gset σ 1 (pset s 3 (fun _ => ((p + scn isLt (s 0) n p : Nat) : Int))))) := by
  have h300 := hs.1
  intro n
  induction n with
  | zero =>
    intro p hp
    have c : ¬ (p : Int) < len := by omega
    rw [s_S_takeWord_0, scn]
    simp (disch := first | omega | exact Nat.le_of_ble_eq_true rfl) only [e_S_takeWord, s_S_takeWord_1, s_S_takeWord_4, s_S_takeWord_5, s_S_takeWord_8, s_S_takeWord_11, s_S_takeWord_12, s_S_takeWord_13, s_S_takeWord_16, s_S_takeWord_19, s_S_takeWord_22, s_S_takeWord_25, s_S_takeWord_26, s_S_takeWord_27, s_S_takeWord_30, s_S_takeWord_31, s_S_takeWord_32, s_S_takeWord_35, s_S_takeWord_39, s_S_takeWord_40, s_S_takeWord_43, s_S_takeWord_44, s_S_takeWord_45, s_S_takeWord_48, s_S_takeWord_51, Option.bind_some, Option.bind_none, Option.toList_some, Option.toList_none, List.cons_append, List.nil_append, if_true, if_false, rz_clr, true_or, or_true, z00, z11, bZ_eq0, bZ_eq1, nor_self, if_pos, if_neg, zI_add, zI_sub, zI_mul, zI_neg, zI_lt, zI_le, zI_eq, c_S, f_S_0, l_S_0, r_S_0, w_S_0, f_S_1, l_S_1, r_S_1, w_S_1, f_S_2, u_S_2, f_S_3, u_S_3, f_S_4, u_S_4, f_S_5, u_S_5, f_S_6, u_S_6, f_S_7, u_S_7, f_S_8, u_S_8, f_S_9, u_S_9, sset_eq, gset_at, gset_gset, gset_ne, pset_eq, pset_ne, hl, c, Nat.add_zero]
  | succ n ih =>
    intro p hp
    have c : (p : Int) < len := by omega
    have hb := z_byteAt (N := N) (σ := gset σ 1 (pset s 3 (fun _ => (p : Int)))) d hN (by rw [gset_at]; exact SOK_p hs 3 (by decide) (by decide) _) (i := p) (by omega)
    rw [gset_at, pset_ne (by decide), pset_ne (by decide), hl, if_pos c, Int.toNat_natCast] at hb
    have hv := hs.2 p (by omega)
    have hi := fun w => z_isLetter (d + 1) (c := s 0 p) (by omega) w
    rw [s_S_takeWord_0, scn]
    by_cases e : isLt (s 0 p) = true
    · rw [if_pos e]
      have ih' := ih (p + 1) (by omega)
      rw [show p + 1 + scn isLt (s 0) n (p + 1) = p + (scn isLt (s 0) n (p + 1) + 1) by omega] at ih'
      simp only [Int.natCast_add, Int.natCast_one] at ih' ⊢
      simp (disch := first | omega | exact Nat.le_of_ble_eq_true rfl) only [e_S_takeWord, s_S_takeWord_1, s_S_takeWord_4, s_S_takeWord_5, s_S_takeWord_8, s_S_takeWord_11, s_S_takeWord_12, s_S_takeWord_13, s_S_takeWord_16, s_S_takeWord_19, s_S_takeWord_22, s_S_takeWord_25, s_S_takeWord_26, s_S_takeWord_27, s_S_takeWord_30, s_S_takeWord_31, s_S_takeWord_32, s_S_takeWord_35, s_S_takeWord_39, s_S_takeWord_40, s_S_takeWord_43, s_S_takeWord_44, s_S_takeWord_45, s_S_takeWord_48, s_S_takeWord_51, Option.bind_some, Option.bind_none, Option.toList_some, Option.toList_none, List.cons_append, List.nil_append, if_true, if_false, rz_clr, true_or, or_true, z00, z11, bZ_eq0, bZ_eq1, nor_self, if_pos, if_neg, zI_add, zI_sub, zI_mul, zI_neg, zI_lt, zI_le, zI_eq, c_S, f_S_0, l_S_0, r_S_0, w_S_0, f_S_1, l_S_1, r_S_1, w_S_1, f_S_2, u_S_2, f_S_3, u_S_3, f_S_4, u_S_4, f_S_5, u_S_5, f_S_6, u_S_6, f_S_7, u_S_7, f_S_8, u_S_8, f_S_9, u_S_9, sset_eq, gset_at, gset_gset, gset_ne, pset_eq, pset_ne, hl, c, hb, hi, bZ_pos e, ih', pset_pset]
    · rw [if_neg e]
      simp (disch := first | omega | exact Nat.le_of_ble_eq_true rfl) only [e_S_takeWord, s_S_takeWord_1, s_S_takeWord_4, s_S_takeWord_5, s_S_takeWord_8, s_S_takeWord_11, s_S_takeWord_12, s_S_takeWord_13, s_S_takeWord_16, s_S_takeWord_19, s_S_takeWord_22, s_S_takeWord_25, s_S_takeWord_26, s_S_takeWord_27, s_S_takeWord_30, s_S_takeWord_31, s_S_takeWord_32, s_S_takeWord_35, s_S_takeWord_39, s_S_takeWord_40, s_S_takeWord_43, s_S_takeWord_44, s_S_takeWord_45, s_S_takeWord_48, s_S_takeWord_51, Option.bind_some, Option.bind_none, Option.toList_some, Option.toList_none, List.cons_append, List.nil_append, if_true, if_false, rz_clr, true_or, or_true, z00, z11, bZ_eq0, bZ_eq1, nor_self, if_pos, if_neg, zI_add, zI_sub, zI_mul, zI_neg, zI_lt, zI_le, zI_eq, c_S, f_S_0, l_S_0, r_S_0, w_S_0, f_S_1, l_S_1, r_S_1, w_S_1, f_S_2, u_S_2, f_S_3, u_S_3, f_S_4, u_S_4, f_S_5, u_S_5, f_S_6, u_S_6, f_S_7, u_S_7, f_S_8, u_S_8, f_S_9, u_S_9, sset_eq, gset_at, gset_gset, gset_ne, pset_eq, pset_ne, hl, c, hb, hi, bZ_neg e, Nat.add_zero]
theorem z_digits (d : Nat) (hN : 48 ≤ N) {s : zP} (hs : SOK s) {len : Nat} (hl : s 2 0 = len) (l2 : Option Value) : ∀ (n p : Nat), n + p = len → ∀ v : Int, 0 ≤ v ∧ v ≤ 100 → rz_den (rz_dM (d + 2)) (rz_at tb_X2_takeNumber) none 2 [some (.ref (bs 1)), some (.int (zI v)), l2] [] (wOf N (gset σ 1 (pset s 3 (fun _ => (p : Int))))) = rz_den (rz_dM (d + 2)) (rz_at tb_X2_takeNumber) none 62 [some (.ref (bs 1)), some (.int (zI (dvl (s 0) (scn isDg (s 0) n p) p v))), l2] [] (wOf N (gset σ 1 (pset s 3 (fun _ => ((p + scn isDg (s 0) n p : Nat) : Int))))) := by
  have h300 := hs.1
  intro n
  induction n with
  | zero =>
    intro p hp v hv
    have c : ¬ (p : Int) < len := by omega
    rw [s_S_takeNumber_2, scn, dvl]
    simp (disch := first | omega | exact Nat.le_of_ble_eq_true rfl) only [e_S_takeNumber, s_S_takeNumber_0, s_S_takeNumber_1, s_S_takeNumber_3, s_S_takeNumber_6, s_S_takeNumber_7, s_S_takeNumber_10, s_S_takeNumber_13, s_S_takeNumber_14, s_S_takeNumber_15, s_S_takeNumber_18, s_S_takeNumber_21, s_S_takeNumber_24, s_S_takeNumber_27, s_S_takeNumber_29, s_S_takeNumber_30, s_S_takeNumber_31, s_S_takeNumber_32, s_S_takeNumber_33, s_S_takeNumber_36, s_S_takeNumber_39, s_S_takeNumber_40, s_S_takeNumber_42, s_S_takeNumber_43, s_S_takeNumber_45, s_S_takeNumber_48, s_S_takeNumber_49, s_S_takeNumber_50, s_S_takeNumber_51, s_S_takeNumber_54, s_S_takeNumber_55, s_S_takeNumber_56, s_S_takeNumber_59, s_S_takeNumber_63, s_S_takeNumber_64, s_S_takeNumber_67, s_S_takeNumber_70, s_S_takeNumber_72, s_S_takeNumber_75, s_S_takeNumber_76, s_S_takeNumber_79, s_S_takeNumber_80, s_S_takeNumber_83, s_S_takeNumber_84, s_S_takeNumber_85, s_S_takeNumber_88, s_S_takeNumber_89, s_S_takeNumber_92, s_S_takeNumber_93, s_S_takeNumber_94, s_S_takeNumber_95, s_S_takeNumber_96, s_S_takeNumber_99, s_S_takeNumber_100, s_S_takeNumber_101, s_S_takeNumber_104, s_S_takeNumber_106, s_S_takeNumber_109, s_S_takeNumber_110, s_S_takeNumber_113, Option.bind_some, Option.bind_none, Option.toList_some, Option.toList_none, List.cons_append, List.nil_append, if_true, if_false, rz_clr, true_or, or_true, z00, z11, bZ_eq0, bZ_eq1, nor_self, if_pos, if_neg, zI_add, zI_sub, zI_mul, zI_neg, zI_lt, zI_le, zI_eq, c_S, f_S_0, l_S_0, r_S_0, w_S_0, f_S_1, l_S_1, r_S_1, w_S_1, f_S_2, u_S_2, f_S_3, u_S_3, f_S_4, u_S_4, f_S_5, u_S_5, f_S_6, u_S_6, f_S_7, u_S_7, f_S_8, u_S_8, f_S_9, u_S_9, sset_eq, gset_at, gset_gset, gset_ne, pset_eq, pset_ne, hl, c, Nat.add_zero]
  | succ n ih =>
    intro p hp v hv
    have c : (p : Int) < len := by omega
    have hb := z_byteAt (N := N) (σ := gset σ 1 (pset s 3 (fun _ => (p : Int)))) d hN (by rw [gset_at]; exact SOK_p hs 3 (by decide) (by decide) _) (i := p) (by omega)
    rw [gset_at, pset_ne (by decide), pset_ne (by decide), hl, if_pos c, Int.toNat_natCast] at hb
    have hv2 := hs.2 p (by omega)
    have hi := fun w => z_isDigit (d + 1) (c := s 0 p) (by omega) w
    rw [s_S_takeNumber_2, scn]
    by_cases e : isDg (s 0 p) = true
    · rw [if_pos e, dvl]
      have e' : 48 ≤ s 0 p ∧ s 0 p ≤ 57 := by unfold isDg at e; exact of_decide_eq_true e
      have hm : (if 100 < 10 * v + s 0 p - 48 then zI 100 else zI (10 * v + s 0 p - 48)) = zI (min (10 * v + s 0 p - 48) 100) := by
        by_cases z : 100 < 10 * v + s 0 p - 48
        · rw [if_pos z, Int.min_eq_right (by omega)]
        · rw [if_neg z, Int.min_eq_left (by omega)]
      have ih' := ih (p + 1) (by omega) (min (10 * v + s 0 p - 48) 100) (by omega)
      rw [show p + 1 + scn isDg (s 0) n (p + 1) = p + (scn isDg (s 0) n (p + 1) + 1) by omega] at ih'
      simp only [Int.natCast_add, Int.natCast_one] at ih' ⊢
      simp (disch := first | omega | exact Nat.le_of_ble_eq_true rfl) only [e_S_takeNumber, s_S_takeNumber_0, s_S_takeNumber_1, s_S_takeNumber_3, s_S_takeNumber_6, s_S_takeNumber_7, s_S_takeNumber_10, s_S_takeNumber_13, s_S_takeNumber_14, s_S_takeNumber_15, s_S_takeNumber_18, s_S_takeNumber_21, s_S_takeNumber_24, s_S_takeNumber_27, s_S_takeNumber_29, s_S_takeNumber_30, s_S_takeNumber_31, s_S_takeNumber_32, s_S_takeNumber_33, s_S_takeNumber_36, s_S_takeNumber_39, s_S_takeNumber_40, s_S_takeNumber_42, s_S_takeNumber_43, s_S_takeNumber_45, s_S_takeNumber_48, s_S_takeNumber_49, s_S_takeNumber_50, s_S_takeNumber_51, s_S_takeNumber_54, s_S_takeNumber_55, s_S_takeNumber_56, s_S_takeNumber_59, s_S_takeNumber_63, s_S_takeNumber_64, s_S_takeNumber_67, s_S_takeNumber_70, s_S_takeNumber_72, s_S_takeNumber_75, s_S_takeNumber_76, s_S_takeNumber_79, s_S_takeNumber_80, s_S_takeNumber_83, s_S_takeNumber_84, s_S_takeNumber_85, s_S_takeNumber_88, s_S_takeNumber_89, s_S_takeNumber_92, s_S_takeNumber_93, s_S_takeNumber_94, s_S_takeNumber_95, s_S_takeNumber_96, s_S_takeNumber_99, s_S_takeNumber_100, s_S_takeNumber_101, s_S_takeNumber_104, s_S_takeNumber_106, s_S_takeNumber_109, s_S_takeNumber_110, s_S_takeNumber_113, Option.bind_some, Option.bind_none, Option.toList_some, Option.toList_none, List.cons_append, List.nil_append, if_true, if_false, rz_clr, true_or, or_true, z00, z11, bZ_eq0, bZ_eq1, nor_self, if_pos, if_neg, zI_add, zI_sub, zI_mul, zI_lt, zI_le, zI_eq, c_S, f_S_0, l_S_0, r_S_0, w_S_0, f_S_1, l_S_1, r_S_1, w_S_1, f_S_2, u_S_2, f_S_3, u_S_3, f_S_4, u_S_4, f_S_5, u_S_5, f_S_6, u_S_6, f_S_7, u_S_7, f_S_8, u_S_8, f_S_9, u_S_9, sset_eq, gset_at, gset_gset, gset_ne, pset_eq, pset_ne, hl, c, hb, hi, bZ_pos e, hm, ih', pset_pset]
    · rw [if_neg e, dvl]
      simp (disch := first | omega | exact Nat.le_of_ble_eq_true rfl) only [e_S_takeNumber, s_S_takeNumber_0, s_S_takeNumber_1, s_S_takeNumber_3, s_S_takeNumber_6, s_S_takeNumber_7, s_S_takeNumber_10, s_S_takeNumber_13, s_S_takeNumber_14, s_S_takeNumber_15, s_S_takeNumber_18, s_S_takeNumber_21, s_S_takeNumber_24, s_S_takeNumber_27, s_S_takeNumber_29, s_S_takeNumber_30, s_S_takeNumber_31, s_S_takeNumber_32, s_S_takeNumber_33, s_S_takeNumber_36, s_S_takeNumber_39, s_S_takeNumber_40, s_S_takeNumber_42, s_S_takeNumber_43, s_S_takeNumber_45, s_S_takeNumber_48, s_S_takeNumber_49, s_S_takeNumber_50, s_S_takeNumber_51, s_S_takeNumber_54, s_S_takeNumber_55, s_S_takeNumber_56, s_S_takeNumber_59, s_S_takeNumber_63, s_S_takeNumber_64, s_S_takeNumber_67, s_S_takeNumber_70, s_S_takeNumber_72, s_S_takeNumber_75, s_S_takeNumber_76, s_S_takeNumber_79, s_S_takeNumber_80, s_S_takeNumber_83, s_S_takeNumber_84, s_S_takeNumber_85, s_S_takeNumber_88, s_S_takeNumber_89, s_S_takeNumber_92, s_S_takeNumber_93, s_S_takeNumber_94, s_S_takeNumber_95, s_S_takeNumber_96, s_S_takeNumber_99, s_S_takeNumber_100, s_S_takeNumber_101, s_S_takeNumber_104, s_S_takeNumber_106, s_S_takeNumber_109, s_S_takeNumber_110, s_S_takeNumber_113, Option.bind_some, Option.bind_none, Option.toList_some, Option.toList_none, List.cons_append, List.nil_append, if_true, if_false, rz_clr, true_or, or_true, z00, z11, bZ_eq0, bZ_eq1, nor_self, if_pos, if_neg, zI_add, zI_sub, zI_mul, zI_neg, zI_lt, zI_le, zI_eq, c_S, f_S_0, l_S_0, r_S_0, w_S_0, f_S_1, l_S_1, r_S_1, w_S_1, f_S_2, u_S_2, f_S_3, u_S_3, f_S_4, u_S_4, f_S_5, u_S_5, f_S_6, u_S_6, f_S_7, u_S_7, f_S_8, u_S_8, f_S_9, u_S_9, sset_eq, gset_at, gset_gset, gset_ne, pset_eq, pset_ne, hl, c, hb, hi, bZ_neg e, Nat.add_zero]
end LX
