-- the script: what is typed, and how it is cut into tokens
section TY
variable {N : Nat} {σ : zS}
theorem z_drop (d : Nat) (hN : 48 ≤ N) : rz_dM (d + 1) iS_drop [.ref (bs 1)] (wOf N σ) = some (some (.int (zI (σ 1 2 0))), wOf N (gset σ 1 (pset (σ 1) 2 (fun _ => 0)))) := by
  simp (disch := first | omega | exact Nat.le_of_ble_eq_true rfl) only [e_S_drop, s_S_drop_0, s_S_drop_1, s_S_drop_4, s_S_drop_5, s_S_drop_6, s_S_drop_7, s_S_drop_10, s_S_drop_11, Option.bind_some, Option.bind_none, Option.toList_some, Option.toList_none, List.cons_append, List.nil_append, if_true, if_false, rz_clr, true_or, or_true, z00, z11, bZ_eq0, bZ_eq1, nor_self, if_pos, if_neg, zI_add, zI_sub, zI_mul, zI_neg, zI_lt, zI_le, zI_eq, c_S, f_S_0, l_S_0, r_S_0, w_S_0, f_S_1, l_S_1, r_S_1, w_S_1, f_S_2, u_S_2, f_S_3, u_S_3, f_S_4, u_S_4, f_S_5, u_S_5, f_S_6, u_S_6, f_S_7, u_S_7, f_S_8, u_S_8, f_S_9, u_S_9, sset_eq, gset_at, gset_gset, gset_ne, pset_eq, pset_ne]
theorem z_clear (d : Nat) (hN : 48 ≤ N) : rz_dM (d + 2) iO_clear [.ref (bs 0)] (wOf N σ) = some (some (.int (zI (σ 1 2 0))), wOf N (gset σ 1 (pset (σ 1) 2 (fun _ => 0)))) := by
  simp (disch := first | omega | exact Nat.le_of_ble_eq_true rfl) only [e_O_clear, s_O_clear_0, s_O_clear_1, s_O_clear_4, s_O_clear_7, Option.bind_some, Option.bind_none, Option.toList_some, Option.toList_none, List.cons_append, List.nil_append, if_true, if_false, rz_clr, true_or, or_true, z00, z11, bZ_eq0, bZ_eq1, nor_self, if_pos, if_neg, zI_add, zI_sub, zI_mul, zI_neg, zI_lt, zI_le, zI_eq, c_O, f_O_0, f_O_1, f_O_2, f_O_3, f_O_4, f_O_5, f_O_6, l_O_6, r_O_6, w_O_6, f_O_7, u_O_7, f_O_8, u_O_8, f_O_9, u_O_9, f_O_10, u_O_10, c_S, f_S_0, l_S_0, r_S_0, w_S_0, f_S_1, l_S_1, r_S_1, w_S_1, f_S_2, u_S_2, f_S_3, u_S_3, f_S_4, u_S_4, f_S_5, u_S_5, f_S_6, u_S_6, f_S_7, u_S_7, f_S_8, u_S_8, f_S_9, u_S_9, z_drop]
/-- a byte of a long -/
def byV (v : Int64) (i : Nat) : Int32 := ((v.toUInt64 >>> ((zI (8 * (i : Int))).toInt64.toUInt64 &&& Int64.toUInt64 63)).toInt64).toInt32 &&& zI 255
def byB (v : Int64) (i : Nat) : Int := (byV v i).toInt
theorem zI_toInt32 (x : Int32) : zI x.toInt = x := Int32.ofInt_toInt x
theorem zI_byB (v : Int64) (i : Nat) : ((v.toUInt64 >>> ((zI (8 * (i : Int))).toInt64.toUInt64 &&& Int64.toUInt64 63)).toInt64).toInt32 &&& zI 255 = zI (byB v i) := (zI_toInt32 _).symm
def apW (v : Int64) : Nat → zP → zP
  | 0, s => s
  | n + 1, s => apW v n (pset (pset s 0 (zup (s 0) (s 2 0).toNat (byB v n))) 2 (fun _ => s 2 0 + 1))
theorem z_append_lp (d : Nat) (hN : 48 ≤ N) (v : Int64) (l2 : Option Value) (c : Int32) : ∀ (n : Nat) (s : zP), 0 ≤ s 2 0 ∧ s 2 0 + n ≤ 300 → rz_den (rz_dM (d + 1)) (rz_at tb_X2_append) (some .int) 5 [some (.ref (bs 1)), some (.long v), l2, some (.int c), some (.int (zI ((n : Int) - 1)))] [] (wOf N (gset σ 1 s)) = some (some (.int (zI (apW v n s 2 0))), wOf N (gset σ 1 (apW v n s))) := by
  intro n
  induction n with
  | zero =>
    intro s hs
    have e : ((0 : Nat) : Int) - 1 = -1 := rfl
    rw [s_S_append_5, apW, e]
    simp (disch := first | omega | exact Nat.le_of_ble_eq_true rfl) only [e_S_append, s_S_append_0, s_S_append_1, s_S_append_2, s_S_append_3, s_S_append_7, s_S_append_10, s_S_append_11, s_S_append_14, s_S_append_15, s_S_append_18, s_S_append_19, s_S_append_21, s_S_append_23, s_S_append_24, s_S_append_25, s_S_append_26, s_S_append_29, s_S_append_30, s_S_append_33, s_S_append_34, s_S_append_35, s_S_append_38, s_S_append_39, s_S_append_40, s_S_append_43, s_S_append_46, s_S_append_49, s_S_append_50, s_S_append_53, Option.bind_some, Option.bind_none, Option.toList_some, Option.toList_none, List.cons_append, List.nil_append, if_true, if_false, rz_clr, true_or, or_true, z00, z11, bZ_eq0, bZ_eq1, nor_self, if_pos, if_neg, zI_add, zI_sub, zI_mul, zI_neg, zI_lt, zI_le, zI_eq, c_S, f_S_0, l_S_0, r_S_0, w_S_0, f_S_1, l_S_1, r_S_1, w_S_1, f_S_2, u_S_2, f_S_3, u_S_3, f_S_4, u_S_4, f_S_5, u_S_5, f_S_6, u_S_6, f_S_7, u_S_7, f_S_8, u_S_8, f_S_9, u_S_9, gset_at]
  | succ n ih =>
    intro s hs
    have e : ((n + 1 : Nat) : Int) - 1 = n := by omega
    have ih' := ih (pset (pset s 0 (zup (s 0) (s 2 0).toNat (byB v n))) 2 (fun _ => s 2 0 + 1)) (by rw [pset_eq]; omega)
    have e2 : (n : Int) + -1 = (n : Int) - 1 := rfl
    have c1 : ¬ (n : Int) < 0 := by omega
    have hp : pup 300 (s 0) (s 2 0) (byB v n) = zup (s 0) (s 2 0).toNat (byB v n) := by unfold pup; rw [if_pos ⟨by omega, by omega⟩]
    rw [s_S_append_5, apW, e]
    simp (disch := first | omega | exact Nat.le_of_ble_eq_true rfl) only [e_S_append, s_S_append_0, s_S_append_1, s_S_append_2, s_S_append_3, s_S_append_7, s_S_append_10, s_S_append_11, s_S_append_14, s_S_append_15, s_S_append_18, s_S_append_19, s_S_append_21, s_S_append_23, s_S_append_24, s_S_append_25, s_S_append_26, s_S_append_29, s_S_append_30, s_S_append_33, s_S_append_34, s_S_append_35, s_S_append_38, s_S_append_39, s_S_append_40, s_S_append_43, s_S_append_46, s_S_append_49, s_S_append_50, s_S_append_53, Option.bind_some, Option.bind_none, Option.toList_some, Option.toList_none, List.cons_append, List.nil_append, if_true, if_false, rz_clr, true_or, or_true, z00, z11, bZ_eq0, bZ_eq1, nor_self, if_pos, if_neg, zI_add, zI_sub, zI_mul, zI_lt, c_S, f_S_0, l_S_0, r_S_0, w_S_0, f_S_1, l_S_1, r_S_1, w_S_1, f_S_2, u_S_2, f_S_3, u_S_3, f_S_4, u_S_4, f_S_5, u_S_5, f_S_6, u_S_6, f_S_7, u_S_7, f_S_8, u_S_8, f_S_9, u_S_9, sset_eq, gset_at, gset_gset, gset_ne, pset_eq, pset_ne, c1, zI_byB, a_S_0, p_S_0, a_S_1, p_S_1, hp, e2, ih']
theorem z_append (d : Nat) (hN : 48 ≤ N) (v : Int64) {n : Nat} (hn : n ≤ 8) (h : 0 ≤ σ 1 2 0 ∧ σ 1 2 0 + n ≤ 300) : rz_dM (d + 2) iS_append [.ref (bs 1), .long v, .int (zI n)] (wOf N σ) = some (some (.int (zI (apW v n (σ 1) 2 0))), wOf N (gset σ 1 (apW v n (σ 1)))) := by
  have h1 := fun l2 c => z_append_lp (σ := σ) d hN v l2 c n (σ 1) h
  rw [show gset σ 1 (σ 1) = σ from by funext g; unfold gset; split <;> simp_all] at h1
  simp (disch := first | omega | exact Nat.le_of_ble_eq_true rfl) only [e_S_append, s_S_append_0, s_S_append_1, s_S_append_2, s_S_append_3, s_S_append_7, s_S_append_10, s_S_append_11, s_S_append_14, s_S_append_15, s_S_append_18, s_S_append_19, s_S_append_21, s_S_append_23, s_S_append_24, s_S_append_25, s_S_append_26, s_S_append_29, s_S_append_30, s_S_append_33, s_S_append_34, s_S_append_35, s_S_append_38, s_S_append_39, s_S_append_40, s_S_append_43, s_S_append_46, s_S_append_49, s_S_append_50, s_S_append_53, Option.bind_some, Option.bind_none, Option.toList_some, Option.toList_none, List.cons_append, List.nil_append, if_true, if_false, rz_clr, true_or, or_true, z00, z11, bZ_eq0, bZ_eq1, nor_self, if_pos, if_neg, zI_sub, h1]
/-- type: the answer, the script behind it -/
def typA (v : Int64) (n : Int) (s : zP) : Int × zP := if n < 1 ∨ 8 < n then (-1, s) else if 300 < s 2 0 + n then (-3, s) else (apW v n.toNat s 2 0, apW v n.toNat s)
theorem z_type (d : Nat) (hN : 48 ≤ N) (v : Int64) {n : Int} (hn : rg n) (h : 0 ≤ σ 1 2 0 ∧ σ 1 2 0 ≤ 300) : rz_dM (d + 3) iO_type [.ref (bs 0), .long v, .int (zI n)] (wOf N σ) = some (some (.int (zI (typA v n (σ 1)).1)), wOf N (gset σ 1 (typA v n (σ 1)).2)) := by
  have eS : gset σ 1 (σ 1) = σ := by funext g; unfold gset; split <;> simp_all
  unfold typA
  by_cases c : n < 1 ∨ 8 < n
  · rw [if_pos c, eS]
    by_cases c1 : n < 1
    · simp (disch := first | omega | exact Nat.le_of_ble_eq_true rfl) only [e_O_type, s_O_type_0, s_O_type_1, s_O_type_2, s_O_type_5, s_O_type_6, s_O_type_8, s_O_type_11, s_O_type_12, s_O_type_13, s_O_type_14, s_O_type_17, s_O_type_20, s_O_type_21, s_O_type_22, s_O_type_25, s_O_type_28, s_O_type_30, s_O_type_31, s_O_type_32, s_O_type_35, s_O_type_36, s_O_type_37, s_O_type_40, Option.bind_some, Option.bind_none, Option.toList_some, Option.toList_none, List.cons_append, List.nil_append, if_true, if_false, rz_clr, true_or, or_true, z00, z11, bZ_eq0, bZ_eq1, nor_self, if_pos, if_neg, zI_add, zI_sub, zI_mul, zI_neg, zI_lt, zI_le, zI_eq, c_O, f_O_0, f_O_1, f_O_2, f_O_3, f_O_4, f_O_5, f_O_6, l_O_6, r_O_6, w_O_6, f_O_7, u_O_7, f_O_8, u_O_8, f_O_9, u_O_9, f_O_10, u_O_10, c1]
    · have c2 : ¬ n ≤ 8 := by omega
      simp (disch := first | omega | exact Nat.le_of_ble_eq_true rfl) only [e_O_type, s_O_type_0, s_O_type_1, s_O_type_2, s_O_type_5, s_O_type_6, s_O_type_8, s_O_type_11, s_O_type_12, s_O_type_13, s_O_type_14, s_O_type_17, s_O_type_20, s_O_type_21, s_O_type_22, s_O_type_25, s_O_type_28, s_O_type_30, s_O_type_31, s_O_type_32, s_O_type_35, s_O_type_36, s_O_type_37, s_O_type_40, Option.bind_some, Option.bind_none, Option.toList_some, Option.toList_none, List.cons_append, List.nil_append, if_true, if_false, rz_clr, true_or, or_true, z00, z11, bZ_eq0, bZ_eq1, nor_self, if_pos, if_neg, zI_add, zI_sub, zI_mul, zI_neg, zI_lt, zI_le, zI_eq, c_O, f_O_0, f_O_1, f_O_2, f_O_3, f_O_4, f_O_5, f_O_6, l_O_6, r_O_6, w_O_6, f_O_7, u_O_7, f_O_8, u_O_8, f_O_9, u_O_9, f_O_10, u_O_10, c1, c2]
  · rw [if_neg c]
    have c1 : ¬ n < 1 := by omega
    have c2 : n ≤ 8 := by omega
    by_cases c3 : 300 < σ 1 2 0 + n
    · rw [if_pos c3, eS]
      have c4 : ¬ σ 1 2 0 + n ≤ 300 := by omega
      simp (disch := first | omega | exact Nat.le_of_ble_eq_true rfl) only [e_O_type, s_O_type_0, s_O_type_1, s_O_type_2, s_O_type_5, s_O_type_6, s_O_type_8, s_O_type_11, s_O_type_12, s_O_type_13, s_O_type_14, s_O_type_17, s_O_type_20, s_O_type_21, s_O_type_22, s_O_type_25, s_O_type_28, s_O_type_30, s_O_type_31, s_O_type_32, s_O_type_35, s_O_type_36, s_O_type_37, s_O_type_40, Option.bind_some, Option.bind_none, Option.toList_some, Option.toList_none, List.cons_append, List.nil_append, if_true, if_false, rz_clr, true_or, or_true, z00, z11, bZ_eq0, bZ_eq1, nor_self, if_pos, if_neg, zI_add, zI_sub, zI_mul, zI_neg, zI_lt, zI_le, zI_eq, c_O, f_O_0, f_O_1, f_O_2, f_O_3, f_O_4, f_O_5, f_O_6, l_O_6, r_O_6, w_O_6, f_O_7, u_O_7, f_O_8, u_O_8, f_O_9, u_O_9, f_O_10, u_O_10, c_S, f_S_0, l_S_0, r_S_0, w_S_0, f_S_1, l_S_1, r_S_1, w_S_1, f_S_2, u_S_2, f_S_3, u_S_3, f_S_4, u_S_4, f_S_5, u_S_5, f_S_6, u_S_6, f_S_7, u_S_7, f_S_8, u_S_8, f_S_9, u_S_9, c1, c2, c4]
    · rw [if_neg c3]
      have c4 : σ 1 2 0 + n ≤ 300 := by omega
      obtain ⟨m, rfl⟩ : ∃ m : Nat, n = m := ⟨n.toNat, by omega⟩
      rw [Int.toNat_natCast]
      have h1 := z_append (σ := σ) d hN v (n := m) (by omega) (by omega)
      simp (disch := first | omega | exact Nat.le_of_ble_eq_true rfl) only [e_O_type, s_O_type_0, s_O_type_1, s_O_type_2, s_O_type_5, s_O_type_6, s_O_type_8, s_O_type_11, s_O_type_12, s_O_type_13, s_O_type_14, s_O_type_17, s_O_type_20, s_O_type_21, s_O_type_22, s_O_type_25, s_O_type_28, s_O_type_30, s_O_type_31, s_O_type_32, s_O_type_35, s_O_type_36, s_O_type_37, s_O_type_40, Option.bind_some, Option.bind_none, Option.toList_some, Option.toList_none, List.cons_append, List.nil_append, if_true, if_false, rz_clr, true_or, or_true, z00, z11, bZ_eq0, bZ_eq1, nor_self, if_pos, if_neg, zI_add, zI_sub, zI_mul, zI_neg, zI_lt, zI_le, zI_eq, c_O, f_O_0, f_O_1, f_O_2, f_O_3, f_O_4, f_O_5, f_O_6, l_O_6, r_O_6, w_O_6, f_O_7, u_O_7, f_O_8, u_O_8, f_O_9, u_O_9, f_O_10, u_O_10, c_S, f_S_0, l_S_0, r_S_0, w_S_0, f_S_1, l_S_1, r_S_1, w_S_1, f_S_2, u_S_2, f_S_3, u_S_3, f_S_4, u_S_4, f_S_5, u_S_5, f_S_6, u_S_6, f_S_7, u_S_7, f_S_8, u_S_8, f_S_9, u_S_9, c1, c2, c4, h1]
end TY
