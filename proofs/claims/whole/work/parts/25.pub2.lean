-- the class's public methods: what is reckoned
def itS (p : zP) (l : Int) : Nat → Nat
  | 0 => oS (solF p) (p 8 0 * p 9 0).toNat
  | k + 1 => safP p l (itS p l k)
theorem oS_16 (f : Nat → Bool) {p : zP} (hw : wfP p) : oS f (p 8 0 * p 9 0).toNat < 65536 := by
  have ha := wfP_area hw
  have := oS_lt f (p 8 0 * p 9 0).toNat
  have h2 : 2 ^ (p 8 0 * p 9 0).toNat ≤ 2 ^ 16 := Nat.pow_le_pow_right (by decide) (by omega)
  omega
theorem itS_lt {p : zP} (hw : wfP p) (l : Int) (k : Nat) : itS p l k < 65536 := by
  cases k with
  | zero => exact oS_16 _ hw
  | succ k => exact oS_16 _ hw
def lst (P : Nat → Bool) : Nat → Nat → Int → Int
  | 0, _, m => m
  | n + 1, k, m => if P k then lst P n (k + 1) k else m
theorem lst_rg (P : Nat → Bool) : ∀ (n k : Nat) (m : Int), -9 ≤ m ∧ m ≤ 9 → k + n ≤ 10 → -9 ≤ lst P n k m ∧ lst P n k m ≤ 9 := by
  intro n
  induction n with
  | zero => intro k m h _; exact h
  | succ n ih =>
    intro k m h hk
    rw [lst]
    split
    · exact ih (k + 1) k (by omega) (by omega)
    · exact h
/-- the first from k on, of n -/
def ff (P : Nat → Bool) : Nat → Nat → Int
  | 0, _ => -9
  | n + 1, k => if P k then (k : Int) else ff P n (k + 1)
section PC
variable {N gp : Nat} {σ : zS}
theorem z_safe_lp (d : Nat) (hN : 48 ≤ N) (hI : IC σ gp) {m : Int} (hm : 0 ≤ m ∧ m < 2) {n : Nat} (hn : n ≤ 9) : ∀ (j k : Nat), j + k = n → rz_den (rz_dM (d + 4)) (rz_at tb_X4_safe) (some .int) 31 [some (.ref (bs 0)), some (.int (zI m)), some (.int (zI n)), some (.int (zI (itS (σ gp) (lawP (σ gp) m) k : Nat))), some (.int (zI k))] [] (wOf N σ) = some (some (.int (zI (itS (σ gp) (lawP (σ gp) m) n : Nat))), wOf N σ) := by
  obtain ⟨i1, ⟨i2, -⟩, i3, i4, i5, i6, i7, i8⟩ := hI
  have e7 : (σ 0 7 0).toNat = gp := by omega
  have hlr := lawP_rg i3 hm
  intro j
  induction j with
  | zero =>
    intro k hk
    obtain rfl : k = n := by omega
    rw [s_O_safe_31]
    simp (disch := first | omega | exact Nat.le_of_ble_eq_true rfl) only [e_O_safe, s_O_safe_0, s_O_safe_1, s_O_safe_2, s_O_safe_5, s_O_safe_8, s_O_safe_9, s_O_safe_12, s_O_safe_13, s_O_safe_15, s_O_safe_18, s_O_safe_19, s_O_safe_20, s_O_safe_21, s_O_safe_24, s_O_safe_27, s_O_safe_28, s_O_safe_29, s_O_safe_33, s_O_safe_34, s_O_safe_37, s_O_safe_38, s_O_safe_41, s_O_safe_42, s_O_safe_45, s_O_safe_46, s_O_safe_49, s_O_safe_50, s_O_safe_53, s_O_safe_54, s_O_safe_57, s_O_safe_60, s_O_safe_61, Option.bind_some, Option.bind_none, Option.toList_some, Option.toList_none, List.cons_append, List.nil_append, if_true, if_false, rz_clr, true_or, or_true, z00, z11, bZ_eq0, bZ_eq1, nor_self, if_pos, if_neg, zI_add, zI_sub, zI_mul, zI_neg, zI_lt, zI_le, zI_eq]
  | succ j ih =>
    intro k hk
    have ih' := ih (k + 1) (by omega)
    simp only [Int.natCast_add, Int.natCast_one] at ih'
    have hc := itS_lt i3 (lawP (σ gp) m) k
    have hsw := z_safeWithin (N := N) (g := gp) (σ := σ) d (by omega) (by omega) hN i3 i4 (l := lawP (σ gp) m) (by omega) hc
    have hlo := z_lawOf (N := N) (g := gp) (σ := σ) (d + 2) (by omega) (by omega) hN i3 (m := m) (by omega)
    have e9 : itS (σ gp) (lawP (σ gp) m) (k + 1) = safP (σ gp) (lawP (σ gp) m) (itS (σ gp) (lawP (σ gp) m) k) := rfl
    rw [e9] at ih'
    rw [s_O_safe_31]
    simp (disch := first | omega | exact Nat.le_of_ble_eq_true rfl) only [e_O_safe, s_O_safe_0, s_O_safe_1, s_O_safe_2, s_O_safe_5, s_O_safe_8, s_O_safe_9, s_O_safe_12, s_O_safe_13, s_O_safe_15, s_O_safe_18, s_O_safe_19, s_O_safe_20, s_O_safe_21, s_O_safe_24, s_O_safe_27, s_O_safe_28, s_O_safe_29, s_O_safe_33, s_O_safe_34, s_O_safe_37, s_O_safe_38, s_O_safe_41, s_O_safe_42, s_O_safe_45, s_O_safe_46, s_O_safe_49, s_O_safe_50, s_O_safe_53, s_O_safe_54, s_O_safe_57, s_O_safe_60, s_O_safe_61, Option.bind_some, Option.bind_none, Option.toList_some, Option.toList_none, List.cons_append, List.nil_append, if_true, if_false, rz_clr, true_or, or_true, z00, z11, bZ_eq0, bZ_eq1, nor_self, if_pos, if_neg, zI_add, zI_sub, zI_mul, zI_neg, zI_lt, zI_le, zI_eq, c_O, f_O_0, f_O_1, f_O_2, f_O_3, f_O_4, f_O_5, f_O_6, l_O_6, r_O_6, w_O_6, f_O_7, u_O_7, f_O_8, u_O_8, f_O_9, u_O_9, f_O_10, u_O_10, c_P, f_P_0, l_P_0, r_P_0, w_P_0, f_P_1, l_P_1, r_P_1, w_P_1, f_P_2, l_P_2, r_P_2, w_P_2, f_P_3, l_P_3, r_P_3, w_P_3, f_P_4, l_P_4, r_P_4, w_P_4, f_P_5, l_P_5, r_P_5, w_P_5, f_P_6, l_P_6, r_P_6, w_P_6, f_P_7, l_P_7, r_P_7, w_P_7, f_P_8, u_P_8, f_P_9, u_P_9, f_P_10, u_P_10, e7, hlo, hsw, ih']
def safeA (p : zP) (m n : Int) : Int := if (0 ≤ m ∧ m < 2) ∧ (0 ≤ n ∧ n ≤ 9) then (itS p (lawP p m) n.toNat : Nat) else -1
theorem z_safe (d : Nat) (hN : 48 ≤ N) (hI : IC σ gp) {m n : Int} (hm : rg m) (hn : rg n) : rz_dM (d + 5) iO_safe [.ref (bs 0), .int (zI m), .int (zI n)] (wOf N σ) = some (some (.int (zI (safeA (σ gp) m n))), wOf N σ) := by
  unfold safeA
  by_cases a1 : 0 ≤ m ∧ m < 2
  · by_cases a2 : 0 ≤ n ∧ n ≤ 9
    · rw [if_pos ⟨a1, a2⟩]
      obtain ⟨n', rfl⟩ : ∃ n' : Nat, n = n' := ⟨n.toNat, by omega⟩
      have h := z_safe_lp d hN hI a1 (n := n') (by omega) n' 0 rfl
      obtain ⟨i1, ⟨i2, -⟩, i3, i4, i5, i6, i7, i8⟩ := hI
      have e7 : (σ 0 7 0).toNat = gp := by omega
      have hso := z_solidCells (N := N) (g := gp) (σ := σ) (d + 2) (by omega) (by omega) hN i3
      have e9 : itS (σ gp) (lawP (σ gp) m) 0 = oS (solF (σ gp)) (σ gp 8 0 * σ gp 9 0).toNat := rfl
      rw [e9, Int.natCast_zero] at h
      rw [Int.toNat_natCast]
      simp (disch := first | omega | exact Nat.le_of_ble_eq_true rfl) only [e_O_safe, s_O_safe_0, s_O_safe_1, s_O_safe_2, s_O_safe_5, s_O_safe_8, s_O_safe_9, s_O_safe_12, s_O_safe_13, s_O_safe_15, s_O_safe_18, s_O_safe_19, s_O_safe_20, s_O_safe_21, s_O_safe_24, s_O_safe_27, s_O_safe_28, s_O_safe_29, s_O_safe_33, s_O_safe_34, s_O_safe_37, s_O_safe_38, s_O_safe_41, s_O_safe_42, s_O_safe_45, s_O_safe_46, s_O_safe_49, s_O_safe_50, s_O_safe_53, s_O_safe_54, s_O_safe_57, s_O_safe_60, s_O_safe_61, Option.bind_some, Option.bind_none, Option.toList_some, Option.toList_none, List.cons_append, List.nil_append, if_true, if_false, rz_clr, true_or, or_true, z00, z11, bZ_eq0, bZ_eq1, nor_self, if_pos, if_neg, zI_add, zI_sub, zI_mul, zI_neg, zI_lt, zI_le, zI_eq, c_O, f_O_0, f_O_1, f_O_2, f_O_3, f_O_4, f_O_5, f_O_6, l_O_6, r_O_6, w_O_6, f_O_7, u_O_7, f_O_8, u_O_8, f_O_9, u_O_9, f_O_10, u_O_10, c_P, f_P_0, l_P_0, r_P_0, w_P_0, f_P_1, l_P_1, r_P_1, w_P_1, f_P_2, l_P_2, r_P_2, w_P_2, f_P_3, l_P_3, r_P_3, w_P_3, f_P_4, l_P_4, r_P_4, w_P_4, f_P_5, l_P_5, r_P_5, w_P_5, f_P_6, l_P_6, r_P_6, w_P_6, f_P_7, l_P_7, r_P_7, w_P_7, f_P_8, u_P_8, f_P_9, u_P_9, f_P_10, u_P_10, e7, z_isBelow, bZ_pos a1, hso, h]
    · rw [if_neg (fun z => a2 z.2)]
      by_cases a3 : 0 ≤ n
      · simp (disch := first | omega | exact Nat.le_of_ble_eq_true rfl) only [e_O_safe, s_O_safe_0, s_O_safe_1, s_O_safe_2, s_O_safe_5, s_O_safe_8, s_O_safe_9, s_O_safe_12, s_O_safe_13, s_O_safe_15, s_O_safe_18, s_O_safe_19, s_O_safe_20, s_O_safe_21, s_O_safe_24, s_O_safe_27, s_O_safe_28, s_O_safe_29, s_O_safe_33, s_O_safe_34, s_O_safe_37, s_O_safe_38, s_O_safe_41, s_O_safe_42, s_O_safe_45, s_O_safe_46, s_O_safe_49, s_O_safe_50, s_O_safe_53, s_O_safe_54, s_O_safe_57, s_O_safe_60, s_O_safe_61, Option.bind_some, Option.bind_none, Option.toList_some, Option.toList_none, List.cons_append, List.nil_append, if_true, if_false, rz_clr, true_or, or_true, z00, z11, bZ_eq0, bZ_eq1, nor_self, if_pos, if_neg, zI_add, zI_sub, zI_mul, zI_neg, zI_lt, zI_le, zI_eq, z_isBelow, bZ_pos a1]
      · simp (disch := first | omega | exact Nat.le_of_ble_eq_true rfl) only [e_O_safe, s_O_safe_0, s_O_safe_1, s_O_safe_2, s_O_safe_5, s_O_safe_8, s_O_safe_9, s_O_safe_12, s_O_safe_13, s_O_safe_15, s_O_safe_18, s_O_safe_19, s_O_safe_20, s_O_safe_21, s_O_safe_24, s_O_safe_27, s_O_safe_28, s_O_safe_29, s_O_safe_33, s_O_safe_34, s_O_safe_37, s_O_safe_38, s_O_safe_41, s_O_safe_42, s_O_safe_45, s_O_safe_46, s_O_safe_49, s_O_safe_50, s_O_safe_53, s_O_safe_54, s_O_safe_57, s_O_safe_60, s_O_safe_61, Option.bind_some, Option.bind_none, Option.toList_some, Option.toList_none, List.cons_append, List.nil_append, if_true, if_false, rz_clr, true_or, or_true, z00, z11, bZ_eq0, bZ_eq1, nor_self, if_pos, if_neg, zI_add, zI_sub, zI_mul, zI_neg, zI_lt, zI_le, zI_eq, z_isBelow, bZ_pos a1]
  · rw [if_neg (fun z => a1 z.1)]
    simp (disch := first | omega | exact Nat.le_of_ble_eq_true rfl) only [e_O_safe, s_O_safe_0, s_O_safe_1, s_O_safe_2, s_O_safe_5, s_O_safe_8, s_O_safe_9, s_O_safe_12, s_O_safe_13, s_O_safe_15, s_O_safe_18, s_O_safe_19, s_O_safe_20, s_O_safe_21, s_O_safe_24, s_O_safe_27, s_O_safe_28, s_O_safe_29, s_O_safe_33, s_O_safe_34, s_O_safe_37, s_O_safe_38, s_O_safe_41, s_O_safe_42, s_O_safe_45, s_O_safe_46, s_O_safe_49, s_O_safe_50, s_O_safe_53, s_O_safe_54, s_O_safe_57, s_O_safe_60, s_O_safe_61, Option.bind_some, Option.bind_none, Option.toList_some, Option.toList_none, List.cons_append, List.nil_append, if_true, if_false, rz_clr, true_or, or_true, z00, z11, bZ_eq0, bZ_eq1, nor_self, if_pos, if_neg, zI_add, zI_sub, zI_mul, zI_neg, zI_lt, zI_le, zI_eq, z_isBelow, bZ_neg a1]
def sfF (p : zP) (l own : Int) : Nat → Bool := fun k => (itS p l k).testBit own.toNat
theorem z_safest_lp (d : Nat) (hN : 48 ≤ N) (hI : IC σ gp) {m : Int} (hm : 0 ≤ m ∧ m < 2) {own : Int} (ho : 0 ≤ own ∧ own < 16) : ∀ (j k : Nat), j + k = 10 → ∀ (most : Int), (-9 ≤ most ∧ most ≤ 9) → rz_den (rz_dM (d + 4)) (rz_at tb_X4_safest) (some .int) 37 [some (.ref (bs 0)), some (.int (zI m)), some (.int (zI own)), some (.int (zI (itS (σ gp) (lawP (σ gp) m) k : Nat))), some (.int (zI most)), some (.int (zI k))] [] (wOf N σ) = some (some (.int (zI (lst (sfF (σ gp) (lawP (σ gp) m) own) j k most))), wOf N σ) := by
  obtain ⟨i1, ⟨i2, -⟩, i3, i4, i5, i6, i7, i8⟩ := hI
  have e7 : (σ 0 7 0).toNat = gp := by omega
  have hlr := lawP_rg i3 hm
  intro j
  induction j with
  | zero =>
    intro k hk most hmo
    obtain rfl : k = 10 := by omega
    rw [s_O_safest_37]
    simp (disch := first | omega | exact Nat.le_of_ble_eq_true rfl) only [e_O_safest, s_O_safest_0, s_O_safest_1, s_O_safest_2, s_O_safest_5, s_O_safest_8, s_O_safest_9, s_O_safest_10, s_O_safest_11, s_O_safest_14, s_O_safest_17, s_O_safest_18, s_O_safest_21, s_O_safest_22, s_O_safest_23, s_O_safest_26, s_O_safest_29, s_O_safest_30, s_O_safest_32, s_O_safest_34, s_O_safest_35, s_O_safest_39, s_O_safest_41, s_O_safest_44, s_O_safest_45, s_O_safest_46, s_O_safest_49, s_O_safest_52, s_O_safest_54, s_O_safest_56, s_O_safest_57, s_O_safest_60, s_O_safest_61, s_O_safest_64, s_O_safest_65, s_O_safest_68, s_O_safest_69, s_O_safest_72, s_O_safest_73, s_O_safest_76, s_O_safest_79, s_O_safest_81, Option.bind_some, Option.bind_none, Option.toList_some, Option.toList_none, List.cons_append, List.nil_append, if_true, if_false, rz_clr, true_or, or_true, z00, z11, bZ_eq0, bZ_eq1, nor_self, if_pos, if_neg, zI_add, zI_sub, zI_mul, zI_neg, zI_lt, zI_le, zI_eq, lst]
  | succ j ih =>
    intro k hk most hmo
    have ih' := ih (k + 1) (by omega) k (by omega)
    simp only [Int.natCast_add, Int.natCast_one] at ih'
    have hc := itS_lt i3 (lawP (σ gp) m) k
    have hbit := fun w => z_hasBit (d + 3) (b := itS (σ gp) (lawP (σ gp) m) k) (i := own) (by omega) (by omega) w
    have e9 : itS (σ gp) (lawP (σ gp) m) (k + 1) = safP (σ gp) (lawP (σ gp) m) (itS (σ gp) (lawP (σ gp) m) k) := rfl
    rw [e9] at ih'
    rw [s_O_safest_37, lst]
    by_cases a1 : (itS (σ gp) (lawP (σ gp) m) k).testBit own.toNat = true
    · have a2 : (0 ≤ own ∧ own < 32 ∧ (itS (σ gp) (lawP (σ gp) m) k).testBit own.toNat = true) := ⟨ho.1, by omega, a1⟩
      have hsw := z_safeWithin (N := N) (g := gp) (σ := σ) d (by omega) (by omega) hN i3 i4 (l := lawP (σ gp) m) (by omega) hc
      have hlo := z_lawOf (N := N) (g := gp) (σ := σ) (d + 2) (by omega) (by omega) hN i3 (m := m) (by omega)
      rw [if_pos (show sfF (σ gp) (lawP (σ gp) m) own k = true from a1)]
      simp (disch := first | omega | exact Nat.le_of_ble_eq_true rfl) only [e_O_safest, s_O_safest_0, s_O_safest_1, s_O_safest_2, s_O_safest_5, s_O_safest_8, s_O_safest_9, s_O_safest_10, s_O_safest_11, s_O_safest_14, s_O_safest_17, s_O_safest_18, s_O_safest_21, s_O_safest_22, s_O_safest_23, s_O_safest_26, s_O_safest_29, s_O_safest_30, s_O_safest_32, s_O_safest_34, s_O_safest_35, s_O_safest_39, s_O_safest_41, s_O_safest_44, s_O_safest_45, s_O_safest_46, s_O_safest_49, s_O_safest_52, s_O_safest_54, s_O_safest_56, s_O_safest_57, s_O_safest_60, s_O_safest_61, s_O_safest_64, s_O_safest_65, s_O_safest_68, s_O_safest_69, s_O_safest_72, s_O_safest_73, s_O_safest_76, s_O_safest_79, s_O_safest_81, Option.bind_some, Option.bind_none, Option.toList_some, Option.toList_none, List.cons_append, List.nil_append, if_true, if_false, rz_clr, true_or, or_true, z00, z11, bZ_eq0, bZ_eq1, nor_self, if_pos, if_neg, zI_add, zI_sub, zI_mul, zI_neg, zI_lt, zI_le, zI_eq, c_O, f_O_0, f_O_1, f_O_2, f_O_3, f_O_4, f_O_5, f_O_6, l_O_6, r_O_6, w_O_6, f_O_7, u_O_7, f_O_8, u_O_8, f_O_9, u_O_9, f_O_10, u_O_10, c_P, f_P_0, l_P_0, r_P_0, w_P_0, f_P_1, l_P_1, r_P_1, w_P_1, f_P_2, l_P_2, r_P_2, w_P_2, f_P_3, l_P_3, r_P_3, w_P_3, f_P_4, l_P_4, r_P_4, w_P_4, f_P_5, l_P_5, r_P_5, w_P_5, f_P_6, l_P_6, r_P_6, w_P_6, f_P_7, l_P_7, r_P_7, w_P_7, f_P_8, u_P_8, f_P_9, u_P_9, f_P_10, u_P_10, e7, hbit, bZ_pos a2, hlo, hsw, ih']
    · have a2 : ¬ (0 ≤ own ∧ own < 32 ∧ (itS (σ gp) (lawP (σ gp) m) k).testBit own.toNat = true) := fun z => a1 z.2.2
      rw [if_neg (show ¬ sfF (σ gp) (lawP (σ gp) m) own k = true from a1)]
      simp (disch := first | omega | exact Nat.le_of_ble_eq_true rfl) only [e_O_safest, s_O_safest_0, s_O_safest_1, s_O_safest_2, s_O_safest_5, s_O_safest_8, s_O_safest_9, s_O_safest_10, s_O_safest_11, s_O_safest_14, s_O_safest_17, s_O_safest_18, s_O_safest_21, s_O_safest_22, s_O_safest_23, s_O_safest_26, s_O_safest_29, s_O_safest_30, s_O_safest_32, s_O_safest_34, s_O_safest_35, s_O_safest_39, s_O_safest_41, s_O_safest_44, s_O_safest_45, s_O_safest_46, s_O_safest_49, s_O_safest_52, s_O_safest_54, s_O_safest_56, s_O_safest_57, s_O_safest_60, s_O_safest_61, s_O_safest_64, s_O_safest_65, s_O_safest_68, s_O_safest_69, s_O_safest_72, s_O_safest_73, s_O_safest_76, s_O_safest_79, s_O_safest_81, Option.bind_some, Option.bind_none, Option.toList_some, Option.toList_none, List.cons_append, List.nil_append, if_true, if_false, rz_clr, true_or, or_true, z00, z11, bZ_eq0, bZ_eq1, nor_self, if_pos, if_neg, zI_add, zI_sub, zI_mul, zI_neg, zI_lt, zI_le, zI_eq, c_O, f_O_0, f_O_1, f_O_2, f_O_3, f_O_4, f_O_5, f_O_6, l_O_6, r_O_6, w_O_6, f_O_7, u_O_7, f_O_8, u_O_8, f_O_9, u_O_9, f_O_10, u_O_10, c_P, f_P_0, l_P_0, r_P_0, w_P_0, f_P_1, l_P_1, r_P_1, w_P_1, f_P_2, l_P_2, r_P_2, w_P_2, f_P_3, l_P_3, r_P_3, w_P_3, f_P_4, l_P_4, r_P_4, w_P_4, f_P_5, l_P_5, r_P_5, w_P_5, f_P_6, l_P_6, r_P_6, w_P_6, f_P_7, l_P_7, r_P_7, w_P_7, f_P_8, u_P_8, f_P_9, u_P_9, f_P_10, u_P_10, hbit, bZ_neg a2]
def safestA (q p : zP) (m : Int) : Int := if 0 ≤ m ∧ m < 2 then lst (sfF p (lawP p m) (q 0 m.toNat)) 10 0 (-9) else -1
theorem z_safest (d : Nat) (hN : 48 ≤ N) (hI : IC σ gp) {m : Int} (hm : rg m) : rz_dM (d + 5) iO_safest [.ref (bs 0), .int (zI m)] (wOf N σ) = some (some (.int (zI (safestA (σ 2) (σ gp) m))), wOf N σ) := by
  unfold safestA
  by_cases a1 : 0 ≤ m ∧ m < 2
  · rw [if_pos a1]
    have hc := (hI.2.2.2.2.1.1 m.toNat (by omega)).1
    have ha := wfP_area hI.2.2.1
    have h := z_safest_lp d hN hI a1 (own := σ 2 0 m.toNat) (by omega) 10 0 rfl (-9) (by omega)
    obtain ⟨i1, ⟨i2, -⟩, i3, i4, i5, i6, i7, i8⟩ := hI
    have e7 : (σ 0 7 0).toNat = gp := by omega
    have hso := z_solidCells (N := N) (g := gp) (σ := σ) (d + 2) (by omega) (by omega) hN i3
    have e9 : itS (σ gp) (lawP (σ gp) m) 0 = oS (solF (σ gp)) (σ gp 8 0 * σ gp 9 0).toNat := rfl
    rw [e9, Int.natCast_zero] at h
    simp (disch := first | omega | exact Nat.le_of_ble_eq_true rfl) only [e_O_safest, s_O_safest_0, s_O_safest_1, s_O_safest_2, s_O_safest_5, s_O_safest_8, s_O_safest_9, s_O_safest_10, s_O_safest_11, s_O_safest_14, s_O_safest_17, s_O_safest_18, s_O_safest_21, s_O_safest_22, s_O_safest_23, s_O_safest_26, s_O_safest_29, s_O_safest_30, s_O_safest_32, s_O_safest_34, s_O_safest_35, s_O_safest_39, s_O_safest_41, s_O_safest_44, s_O_safest_45, s_O_safest_46, s_O_safest_49, s_O_safest_52, s_O_safest_54, s_O_safest_56, s_O_safest_57, s_O_safest_60, s_O_safest_61, s_O_safest_64, s_O_safest_65, s_O_safest_68, s_O_safest_69, s_O_safest_72, s_O_safest_73, s_O_safest_76, s_O_safest_79, s_O_safest_81, Option.bind_some, Option.bind_none, Option.toList_some, Option.toList_none, List.cons_append, List.nil_append, if_true, if_false, rz_clr, true_or, or_true, z00, z11, bZ_eq0, bZ_eq1, nor_self, if_pos, if_neg, zI_add, zI_sub, zI_mul, zI_neg, zI_lt, zI_le, zI_eq, c_O, f_O_0, f_O_1, f_O_2, f_O_3, f_O_4, f_O_5, f_O_6, l_O_6, r_O_6, w_O_6, f_O_7, u_O_7, f_O_8, u_O_8, f_O_9, u_O_9, f_O_10, u_O_10, c_W, f_W_0, l_W_0, r_W_0, w_W_0, f_W_1, l_W_1, r_W_1, w_W_1, f_W_2, u_W_2, f_W_3, u_W_3, f_W_4, u_W_4, f_W_5, u_W_5, f_W_6, u_W_6, a_W_0, p_W_0, a_W_1, p_W_1, c_P, f_P_0, l_P_0, r_P_0, w_P_0, f_P_1, l_P_1, r_P_1, w_P_1, f_P_2, l_P_2, r_P_2, w_P_2, f_P_3, l_P_3, r_P_3, w_P_3, f_P_4, l_P_4, r_P_4, w_P_4, f_P_5, l_P_5, r_P_5, w_P_5, f_P_6, l_P_6, r_P_6, w_P_6, f_P_7, l_P_7, r_P_7, w_P_7, f_P_8, u_P_8, f_P_9, u_P_9, f_P_10, u_P_10, gat_in, e7, z_isBelow, bZ_pos a1, hso, h]
  · rw [if_neg a1]
    simp (disch := first | omega | exact Nat.le_of_ble_eq_true rfl) only [e_O_safest, s_O_safest_0, s_O_safest_1, s_O_safest_2, s_O_safest_5, s_O_safest_8, s_O_safest_9, s_O_safest_10, s_O_safest_11, s_O_safest_14, s_O_safest_17, s_O_safest_18, s_O_safest_21, s_O_safest_22, s_O_safest_23, s_O_safest_26, s_O_safest_29, s_O_safest_30, s_O_safest_32, s_O_safest_34, s_O_safest_35, s_O_safest_39, s_O_safest_41, s_O_safest_44, s_O_safest_45, s_O_safest_46, s_O_safest_49, s_O_safest_52, s_O_safest_54, s_O_safest_56, s_O_safest_57, s_O_safest_60, s_O_safest_61, s_O_safest_64, s_O_safest_65, s_O_safest_68, s_O_safest_69, s_O_safest_72, s_O_safest_73, s_O_safest_76, s_O_safest_79, s_O_safest_81, Option.bind_some, Option.bind_none, Option.toList_some, Option.toList_none, List.cons_append, List.nil_append, if_true, if_false, rz_clr, true_or, or_true, z00, z11, bZ_eq0, bZ_eq1, nor_self, if_pos, if_neg, zI_add, zI_sub, zI_mul, zI_neg, zI_lt, zI_le, zI_eq, z_isBelow, bZ_neg a1]
def valueA (q p : zP) (n : Int) : Int := if 0 ≤ n ∧ n ≤ 5 then valQ p (laO p) (hoO p) q (kW q) n else -1000000
theorem z_value (hN : 48 ≤ N) (hI : IC σ gp) {n : Int} (hn : rg n) (E : Nat) : ∃ r, rz_dM (E + 43) iO_value [.ref (bs 0), .int (zI n)] (wOf N σ) = some (some (.int (zI (valueA (σ 2) (σ gp) n))), wOf N (gset σ 6 r)) ∧ MR r ∧ r 4 0 ≤ σ 6 4 0 + 20 := by
  unfold valueA
  by_cases a1 : 0 ≤ n ∧ n ≤ 5
  · rw [if_pos a1]
    obtain ⟨r, h1, h2, h3⟩ := z_valueAsItIs hN hI a1 E
    refine ⟨r, ?_, h2, by omega⟩
    simp (disch := first | omega | exact Nat.le_of_ble_eq_true rfl) only [e_O_value, s_O_value_0, s_O_value_1, s_O_value_4, s_O_value_5, s_O_value_6, s_O_value_9, s_O_value_11, s_O_value_12, s_O_value_13, s_O_value_14, s_O_value_17, Option.bind_some, Option.bind_none, Option.toList_some, Option.toList_none, List.cons_append, List.nil_append, if_true, if_false, rz_clr, true_or, or_true, z00, z11, bZ_eq0, bZ_eq1, nor_self, if_pos, if_neg, zI_add, zI_sub, zI_mul, zI_neg, zI_lt, zI_le, zI_eq, c_O, f_O_0, f_O_1, f_O_2, f_O_3, f_O_4, f_O_5, f_O_6, l_O_6, r_O_6, w_O_6, f_O_7, u_O_7, f_O_8, u_O_8, f_O_9, u_O_9, f_O_10, u_O_10, h1]
  · rw [if_neg a1]
    refine ⟨σ 6, ?_, hI.2.2.2.2.2.2.1, by omega⟩
    rw [gset_self]
    by_cases a2 : 0 ≤ n
    · simp (disch := first | omega | exact Nat.le_of_ble_eq_true rfl) only [e_O_value, s_O_value_0, s_O_value_1, s_O_value_4, s_O_value_5, s_O_value_6, s_O_value_9, s_O_value_11, s_O_value_12, s_O_value_13, s_O_value_14, s_O_value_17, Option.bind_some, Option.bind_none, Option.toList_some, Option.toList_none, List.cons_append, List.nil_append, if_true, if_false, rz_clr, true_or, or_true, z00, z11, bZ_eq0, bZ_eq1, nor_self, if_pos, if_neg, zI_add, zI_sub, zI_mul, zI_neg, zI_lt, zI_le, zI_eq]
    · simp (disch := first | omega | exact Nat.le_of_ble_eq_true rfl) only [e_O_value, s_O_value_0, s_O_value_1, s_O_value_4, s_O_value_5, s_O_value_6, s_O_value_9, s_O_value_11, s_O_value_12, s_O_value_13, s_O_value_14, s_O_value_17, Option.bind_some, Option.bind_none, Option.toList_some, Option.toList_none, List.cons_append, List.nil_append, if_true, if_false, rz_clr, true_or, or_true, z00, z11, bZ_eq0, bZ_eq1, nor_self, if_pos, if_neg, zI_add, zI_sub, zI_mul, zI_neg, zI_lt, zI_le, zI_eq]
def bagA (q p : zP) (i j n : Int) : Int := if ((0 ≤ i ∧ i < p 10 0) ∧ (0 ≤ j ∧ j < p 10 0)) ∧ (0 ≤ n ∧ n ≤ 4) then valQ p (r2 i j) (hoO p) q (kW q) n else -1000000
theorem z_bag (hN : 48 ≤ N) (hI : IC σ gp) {i j n : Int} (hi : rg i) (hj : rg j) (hn : rg n) (E : Nat) : ∃ r, rz_dM (E + 43) iO_bag [.ref (bs 0), .int (zI i), .int (zI j), .int (zI n)] (wOf N σ) = some (some (.int (zI (bagA (σ 2) (σ gp) i j n))), wOf N (gset σ 6 r)) ∧ MR r ∧ r 4 0 ≤ σ 6 4 0 + 20 := by
  have hMR := hI.2.2.2.2.2.2.1
  have w := hI.2.2.1.1
  have e7 : (σ 0 7 0).toNat = gp := by have := hI.2.1.1; omega
  have i1 := hI.1
  unfold bagA
  by_cases a1 : 0 ≤ i ∧ i < σ gp 10 0
  · by_cases a2 : 0 ≤ j ∧ j < σ gp 10 0
    · by_cases a3 : 0 ≤ n ∧ n ≤ 4
      · rw [if_pos ⟨⟨a1, a2⟩, a3⟩]
        obtain ⟨r, h1, h2, h3⟩ := z_valueByLaws hN hI hi hj (n := n) (by omega) E
        refine ⟨r, ?_, h2, by omega⟩
        simp (disch := first | omega | exact Nat.le_of_ble_eq_true rfl) only [e_O_bag, s_O_bag_0, s_O_bag_1, s_O_bag_2, s_O_bag_5, s_O_bag_8, s_O_bag_11, s_O_bag_14, s_O_bag_15, s_O_bag_16, s_O_bag_19, s_O_bag_22, s_O_bag_25, s_O_bag_28, s_O_bag_30, s_O_bag_31, s_O_bag_32, s_O_bag_35, s_O_bag_36, s_O_bag_37, s_O_bag_40, s_O_bag_42, s_O_bag_43, s_O_bag_44, s_O_bag_45, s_O_bag_46, s_O_bag_47, s_O_bag_50, Option.bind_some, Option.bind_none, Option.toList_some, Option.toList_none, List.cons_append, List.nil_append, if_true, if_false, rz_clr, true_or, or_true, z00, z11, bZ_eq0, bZ_eq1, nor_self, if_pos, if_neg, zI_add, zI_sub, zI_mul, zI_neg, zI_lt, zI_le, zI_eq, c_O, f_O_0, f_O_1, f_O_2, f_O_3, f_O_4, f_O_5, f_O_6, l_O_6, r_O_6, w_O_6, f_O_7, u_O_7, f_O_8, u_O_8, f_O_9, u_O_9, f_O_10, u_O_10, c_P, f_P_0, l_P_0, r_P_0, w_P_0, f_P_1, l_P_1, r_P_1, w_P_1, f_P_2, l_P_2, r_P_2, w_P_2, f_P_3, l_P_3, r_P_3, w_P_3, f_P_4, l_P_4, r_P_4, w_P_4, f_P_5, l_P_5, r_P_5, w_P_5, f_P_6, l_P_6, r_P_6, w_P_6, f_P_7, l_P_7, r_P_7, w_P_7, f_P_8, u_P_8, f_P_9, u_P_9, f_P_10, u_P_10, e7, z_isBelow, bZ_pos a1, bZ_pos a2, h1]
      · rw [if_neg (fun z => a3 z.2)]
        refine ⟨σ 6, ?_, hMR, by omega⟩
        rw [gset_self]
        by_cases a4 : 0 ≤ n
        · simp (disch := first | omega | exact Nat.le_of_ble_eq_true rfl) only [e_O_bag, s_O_bag_0, s_O_bag_1, s_O_bag_2, s_O_bag_5, s_O_bag_8, s_O_bag_11, s_O_bag_14, s_O_bag_15, s_O_bag_16, s_O_bag_19, s_O_bag_22, s_O_bag_25, s_O_bag_28, s_O_bag_30, s_O_bag_31, s_O_bag_32, s_O_bag_35, s_O_bag_36, s_O_bag_37, s_O_bag_40, s_O_bag_42, s_O_bag_43, s_O_bag_44, s_O_bag_45, s_O_bag_46, s_O_bag_47, s_O_bag_50, Option.bind_some, Option.bind_none, Option.toList_some, Option.toList_none, List.cons_append, List.nil_append, if_true, if_false, rz_clr, true_or, or_true, z00, z11, bZ_eq0, bZ_eq1, nor_self, if_pos, if_neg, zI_add, zI_sub, zI_mul, zI_neg, zI_lt, zI_le, zI_eq, c_O, f_O_0, f_O_1, f_O_2, f_O_3, f_O_4, f_O_5, f_O_6, l_O_6, r_O_6, w_O_6, f_O_7, u_O_7, f_O_8, u_O_8, f_O_9, u_O_9, f_O_10, u_O_10, c_P, f_P_0, l_P_0, r_P_0, w_P_0, f_P_1, l_P_1, r_P_1, w_P_1, f_P_2, l_P_2, r_P_2, w_P_2, f_P_3, l_P_3, r_P_3, w_P_3, f_P_4, l_P_4, r_P_4, w_P_4, f_P_5, l_P_5, r_P_5, w_P_5, f_P_6, l_P_6, r_P_6, w_P_6, f_P_7, l_P_7, r_P_7, w_P_7, f_P_8, u_P_8, f_P_9, u_P_9, f_P_10, u_P_10, e7, z_isBelow, bZ_pos a1, bZ_pos a2]
        · simp (disch := first | omega | exact Nat.le_of_ble_eq_true rfl) only [e_O_bag, s_O_bag_0, s_O_bag_1, s_O_bag_2, s_O_bag_5, s_O_bag_8, s_O_bag_11, s_O_bag_14, s_O_bag_15, s_O_bag_16, s_O_bag_19, s_O_bag_22, s_O_bag_25, s_O_bag_28, s_O_bag_30, s_O_bag_31, s_O_bag_32, s_O_bag_35, s_O_bag_36, s_O_bag_37, s_O_bag_40, s_O_bag_42, s_O_bag_43, s_O_bag_44, s_O_bag_45, s_O_bag_46, s_O_bag_47, s_O_bag_50, Option.bind_some, Option.bind_none, Option.toList_some, Option.toList_none, List.cons_append, List.nil_append, if_true, if_false, rz_clr, true_or, or_true, z00, z11, bZ_eq0, bZ_eq1, nor_self, if_pos, if_neg, zI_add, zI_sub, zI_mul, zI_neg, zI_lt, zI_le, zI_eq, c_O, f_O_0, f_O_1, f_O_2, f_O_3, f_O_4, f_O_5, f_O_6, l_O_6, r_O_6, w_O_6, f_O_7, u_O_7, f_O_8, u_O_8, f_O_9, u_O_9, f_O_10, u_O_10, c_P, f_P_0, l_P_0, r_P_0, w_P_0, f_P_1, l_P_1, r_P_1, w_P_1, f_P_2, l_P_2, r_P_2, w_P_2, f_P_3, l_P_3, r_P_3, w_P_3, f_P_4, l_P_4, r_P_4, w_P_4, f_P_5, l_P_5, r_P_5, w_P_5, f_P_6, l_P_6, r_P_6, w_P_6, f_P_7, l_P_7, r_P_7, w_P_7, f_P_8, u_P_8, f_P_9, u_P_9, f_P_10, u_P_10, e7, z_isBelow, bZ_pos a1, bZ_pos a2]
    · rw [if_neg (fun z => a2 z.1.2)]
      refine ⟨σ 6, ?_, hMR, by omega⟩
      rw [gset_self]
      simp (disch := first | omega | exact Nat.le_of_ble_eq_true rfl) only [e_O_bag, s_O_bag_0, s_O_bag_1, s_O_bag_2, s_O_bag_5, s_O_bag_8, s_O_bag_11, s_O_bag_14, s_O_bag_15, s_O_bag_16, s_O_bag_19, s_O_bag_22, s_O_bag_25, s_O_bag_28, s_O_bag_30, s_O_bag_31, s_O_bag_32, s_O_bag_35, s_O_bag_36, s_O_bag_37, s_O_bag_40, s_O_bag_42, s_O_bag_43, s_O_bag_44, s_O_bag_45, s_O_bag_46, s_O_bag_47, s_O_bag_50, Option.bind_some, Option.bind_none, Option.toList_some, Option.toList_none, List.cons_append, List.nil_append, if_true, if_false, rz_clr, true_or, or_true, z00, z11, bZ_eq0, bZ_eq1, nor_self, if_pos, if_neg, zI_add, zI_sub, zI_mul, zI_neg, zI_lt, zI_le, zI_eq, c_O, f_O_0, f_O_1, f_O_2, f_O_3, f_O_4, f_O_5, f_O_6, l_O_6, r_O_6, w_O_6, f_O_7, u_O_7, f_O_8, u_O_8, f_O_9, u_O_9, f_O_10, u_O_10, c_P, f_P_0, l_P_0, r_P_0, w_P_0, f_P_1, l_P_1, r_P_1, w_P_1, f_P_2, l_P_2, r_P_2, w_P_2, f_P_3, l_P_3, r_P_3, w_P_3, f_P_4, l_P_4, r_P_4, w_P_4, f_P_5, l_P_5, r_P_5, w_P_5, f_P_6, l_P_6, r_P_6, w_P_6, f_P_7, l_P_7, r_P_7, w_P_7, f_P_8, u_P_8, f_P_9, u_P_9, f_P_10, u_P_10, e7, z_isBelow, bZ_pos a1, bZ_neg a2]
  · rw [if_neg (fun z => a1 z.1.1)]
    refine ⟨σ 6, ?_, hMR, by omega⟩
    rw [gset_self]
    simp (disch := first | omega | exact Nat.le_of_ble_eq_true rfl) only [e_O_bag, s_O_bag_0, s_O_bag_1, s_O_bag_2, s_O_bag_5, s_O_bag_8, s_O_bag_11, s_O_bag_14, s_O_bag_15, s_O_bag_16, s_O_bag_19, s_O_bag_22, s_O_bag_25, s_O_bag_28, s_O_bag_30, s_O_bag_31, s_O_bag_32, s_O_bag_35, s_O_bag_36, s_O_bag_37, s_O_bag_40, s_O_bag_42, s_O_bag_43, s_O_bag_44, s_O_bag_45, s_O_bag_46, s_O_bag_47, s_O_bag_50, Option.bind_some, Option.bind_none, Option.toList_some, Option.toList_none, List.cons_append, List.nil_append, if_true, if_false, rz_clr, true_or, or_true, z00, z11, bZ_eq0, bZ_eq1, nor_self, if_pos, if_neg, zI_add, zI_sub, zI_mul, zI_neg, zI_lt, zI_le, zI_eq, c_O, f_O_0, f_O_1, f_O_2, f_O_3, f_O_4, f_O_5, f_O_6, l_O_6, r_O_6, w_O_6, f_O_7, u_O_7, f_O_8, u_O_8, f_O_9, u_O_9, f_O_10, u_O_10, c_P, f_P_0, l_P_0, r_P_0, w_P_0, f_P_1, l_P_1, r_P_1, w_P_1, f_P_2, l_P_2, r_P_2, w_P_2, f_P_3, l_P_3, r_P_3, w_P_3, f_P_4, l_P_4, r_P_4, w_P_4, f_P_5, l_P_5, r_P_5, w_P_5, f_P_6, l_P_6, r_P_6, w_P_6, f_P_7, l_P_7, r_P_7, w_P_7, f_P_8, u_P_8, f_P_9, u_P_9, f_P_10, u_P_10, e7, z_isBelow, bZ_neg a1]
end PC
