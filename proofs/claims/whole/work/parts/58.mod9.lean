-- the model: typed, cleared, the lot, traced, kept
theorem b255 : ∀ i, i < 32 → (255#64).getLsbD i = decide (i < 8) ∧ (255#32).getLsbD i = decide (i < 8) := by decide
theorem byX (x : BitVec 64) (s : Nat) (hs : s ≤ 56) : ((x.sshiftRight s) &&& 255#64).signExtend 32 = ((x >>> s).signExtend 32) &&& 255#32 := by
  apply BitVec.eq_of_getLsbD_eq
  intro i hi
  obtain ⟨h1, h2⟩ := b255 i hi
  rw [BitVec.getLsbD_and, BitVec.getLsbD_signExtend, BitVec.getLsbD_signExtend, BitVec.getLsbD_and, BitVec.getLsbD_sshiftRight, BitVec.getLsbD_ushiftRight, h1, h2]
  by_cases c : i < 8
  · have c1 : i < 64 := by omega
    have c2 : s + i < 64 := by omega
    have c3 : ¬ 64 ≤ i := by omega
    simp [c, c1, c2, c3, hi]
  · have c1 : i < 64 := by omega
    simp [c, c1]
theorem sh64 : ∀ k : Nat, k < 8 → (((zI (8 * (k : Int))).toInt64 &&& 63).toBitVec.smod 64).toNat = 8 * k ∧ (((zI (8 * (k : Int))).toInt64.toUInt64 &&& Int64.toUInt64 63).toBitVec % 64).toNat = 8 * k := by decide +kernel
theorem byM (v : Int64) (k : Nat) (hk : k < 8) : ((v >>> ((zI (8 * (k : Int))).toInt64 &&& 63)) &&& 255).toInt32 = zI (byB v k) := by
  rw [← zI_byB]
  obtain ⟨h1, h2⟩ := sh64 k hk
  apply Int32.toBitVec_inj.mp
  rw [Int64.toBitVec_toInt32, Int32.toBitVec_and, Int64.toBitVec_toInt32, Int64.toBitVec_and, Int64.toBitVec_shiftRight, UInt64.toBitVec_toInt64, UInt64.toBitVec_shiftRight, Int64.toBitVec_toUInt64]
  rw [BitVec.sshiftRight_eq', h1, BitVec.ushiftRight_eq', h2]
  exact byX v.toBitVec (8 * k) (by omega)
section MI
variable {N : Nat} {σ : zS} {p q : zP}
/-- the model's text is the class's -/
def tyR (m s : zP) : Prop := m 3 0 = s 2 0 ∧ ∀ i : Nat, (i : Int) < s 2 0 → m 2 i = s 0 i
def apM (v : Int64) : Nat → zP → zP
  | 0, m => m
  | n + 1, m => apM v n (pset (pset m 2 (zup (m 2) (m 3 0).toNat (byB v n))) 3 (fun _ => m 3 0 + 1))
theorem apM_R (v : Int64) : ∀ (n : Nat) (m s : zP), (0 ≤ s 2 0) → tyR m s → tyR (apM v n m) (apW v n s) := by
  intro n
  induction n with
  | zero => intro m s _ h; exact h
  | succ n ih =>
    intro m s h0 h
    rw [apM, apW]
    apply ih
    · rw [pset_eq]; omega
    · refine ⟨?_, fun i hi => ?_⟩
      · rw [pset_eq, pset_eq, h.1]
      · rw [pset_eq] at hi
        rw [pset_ne (by decide), pset_eq, pset_ne (by decide), pset_eq, h.1]
        by_cases c : i = (s 2 0).toNat
        · rw [c, zup_eq, zup_eq]
        · rw [zup_ne c, zup_ne c]
          exact h.2 i (by omega)
theorem apM_sm (v : Int64) : ∀ (n : Nat) (m : zP), sm [2, 3] m (apM v n m) := by
  intro n
  induction n with
  | zero => intro m; exact sm_rfl _ _
  | succ n ih =>
    intro m
    rw [apM]
    exact sm_tr (sm_pset (sm_pset (sm_rfl _ _) (by decide)) (by decide)) (ih _)
theorem apM_3 (v : Int64) : ∀ (n : Nat) (m : zP), apM v n m 3 0 = m 3 0 + n := by
  intro n
  induction n with
  | zero => intro m; rw [apM]; omega
  | succ n ih => intro m; rw [apM, ih, pset_eq]; omega
theorem z_Mtype_lp (d : Nat) (hN : 60 ≤ N) (v : Int64) (l2 : Option Value) (x3 : Int32) : ∀ (n : Nat) (m : zP), n ≤ 8 → 0 ≤ m 3 0 ∧ m 3 0 + n ≤ 300 → rz_den (rz_dM d) (rz_at tb_X5_type) (some .int) 37 [some (.ref (bs 10)), some (.long v), l2, some (.int x3), some (.int (zI ((n : Int) - 1)))] [] (wOf N (gset σ 10 m)) = some (some (.int (zI (apM v n m 3 0))), wOf N (gset σ 10 (apM v n m))) := by
  intro n
  induction n with
  | zero =>
    intro m hn hs
    have e : ((0 : Nat) : Int) - 1 = -1 := rfl
    rw [s_M_type_37, apM, e]
    simp (disch := first | omega | exact Nat.le_of_ble_eq_true rfl) only [e_M_type, s_M_type_0, s_M_type_1, s_M_type_2, s_M_type_5, s_M_type_6, s_M_type_7, s_M_type_9, s_M_type_12, s_M_type_15, s_M_type_16, s_M_type_17, s_M_type_18, s_M_type_21, s_M_type_22, s_M_type_23, s_M_type_26, s_M_type_29, s_M_type_31, s_M_type_32, s_M_type_33, s_M_type_34, s_M_type_35, s_M_type_39, s_M_type_42, s_M_type_43, s_M_type_46, s_M_type_47, s_M_type_50, s_M_type_51, s_M_type_53, s_M_type_55, s_M_type_56, s_M_type_57, s_M_type_60, s_M_type_61, s_M_type_62, s_M_type_63, s_M_type_64, s_M_type_65, s_M_type_68, s_M_type_69, s_M_type_70, s_M_type_73, s_M_type_76, s_M_type_79, s_M_type_80, s_M_type_83, Option.bind_some, Option.bind_none, Option.toList_some, Option.toList_none, List.cons_append, List.nil_append, if_true, if_false, rz_clr, true_or, or_true, z00, z11, bZ_eq0, bZ_eq1, nor_self, if_pos, if_neg, zI_add, zI_sub, zI_mul, zI_neg, zI_lt, zI_le, zI_eq, c_M, f_M_0, u_M_0, f_M_1, u_M_1, f_M_2, l_M_2, r_M_2, w_M_2, f_M_3, u_M_3, f_M_4, u_M_4, f_M_5, u_M_5, f_M_6, u_M_6, f_M_7, u_M_7, f_M_8, u_M_8, f_M_9, l_M_9, r_M_9, w_M_9, f_M_10, l_M_10, r_M_10, w_M_10, f_M_11, l_M_11, r_M_11, w_M_11, f_M_12, l_M_12, r_M_12, w_M_12, f_M_13, l_M_13, r_M_13, w_M_13, f_M_14, l_M_14, r_M_14, w_M_14, f_M_15, l_M_15, r_M_15, w_M_15, f_M_16, l_M_16, r_M_16, w_M_16, f_M_17, l_M_17, r_M_17, w_M_17, f_M_18, l_M_18, r_M_18, w_M_18, gset_at]
  | succ n ih =>
    intro m hn hs
    have e : ((n + 1 : Nat) : Int) - 1 = n := by omega
    have ih' := ih (pset (pset m 2 (zup (m 2) (m 3 0).toNat (byB v n))) 3 (fun _ => m 3 0 + 1)) (by omega) (by rw [pset_eq]; omega)
    have e2 : (n : Int) + -1 = (n : Int) - 1 := rfl
    have c1 : ¬ (n : Int) < 0 := by omega
    have hby := byM v n (by omega)
    rw [s_M_type_37, apM, e]
    simp (disch := first | omega | exact Nat.le_of_ble_eq_true rfl) only [e_M_type, s_M_type_0, s_M_type_1, s_M_type_2, s_M_type_5, s_M_type_6, s_M_type_7, s_M_type_9, s_M_type_12, s_M_type_15, s_M_type_16, s_M_type_17, s_M_type_18, s_M_type_21, s_M_type_22, s_M_type_23, s_M_type_26, s_M_type_29, s_M_type_31, s_M_type_32, s_M_type_33, s_M_type_34, s_M_type_35, s_M_type_39, s_M_type_42, s_M_type_43, s_M_type_46, s_M_type_47, s_M_type_50, s_M_type_51, s_M_type_53, s_M_type_55, s_M_type_56, s_M_type_57, s_M_type_60, s_M_type_61, s_M_type_62, s_M_type_63, s_M_type_64, s_M_type_65, s_M_type_68, s_M_type_69, s_M_type_70, s_M_type_73, s_M_type_76, s_M_type_79, s_M_type_80, s_M_type_83, Option.bind_some, Option.bind_none, Option.toList_some, Option.toList_none, List.cons_append, List.nil_append, if_true, if_false, rz_clr, true_or, or_true, z00, z11, bZ_eq0, bZ_eq1, nor_self, if_pos, if_neg, zI_add, zI_sub, zI_mul, zI_lt, c_M, f_M_0, u_M_0, f_M_1, u_M_1, f_M_2, l_M_2, r_M_2, w_M_2, f_M_3, u_M_3, f_M_4, u_M_4, f_M_5, u_M_5, f_M_6, u_M_6, f_M_7, u_M_7, f_M_8, u_M_8, f_M_9, l_M_9, r_M_9, w_M_9, f_M_10, l_M_10, r_M_10, w_M_10, f_M_11, l_M_11, r_M_11, w_M_11, f_M_12, l_M_12, r_M_12, w_M_12, f_M_13, l_M_13, r_M_13, w_M_13, f_M_14, l_M_14, r_M_14, w_M_14, f_M_15, l_M_15, r_M_15, w_M_15, f_M_16, l_M_16, r_M_16, w_M_16, f_M_17, l_M_17, r_M_17, w_M_17, f_M_18, l_M_18, r_M_18, w_M_18, sset_eq, gset_at, gset_gset, gset_ne, pset_eq, pset_ne, c1, hby, e2, ih']
theorem z_Mtype (d : Nat) (hN : 60 ≤ N) (v : Int64) {n : Int} (hn : rg n) {s : zP} (hT : tyR (σ 10) s) (h : 0 ≤ s 2 0 ∧ s 2 0 ≤ 300) : ∃ m', rz_dM (d + 2) iM_type [.ref (bs 10), .long v, .int (zI n)] (wOf N σ) = some (some (.int (zI (typA v n s).1)), wOf N (gset σ 10 m')) ∧ sm [0, 2, 3] (σ 10) m' ∧ tyR m' (typA v n s).2 := by
  have hT0 : tyR (T0 (σ 10)) s := hT
  have e3 : T0 (σ 10) 3 0 = s 2 0 := hT.1
  unfold typA
  by_cases c : n < 1 ∨ 8 < n
  · rw [if_pos c]
    have c' : ¬ (1 ≤ n ∧ n ≤ 8) := by omega
    refine ⟨T0 (σ 10), ?_, sm_mono (T0_sm _) (by decide), hT0⟩
    unfold T0
    simp (disch := first | omega | exact Nat.le_of_ble_eq_true rfl) only [e_M_type, s_M_type_0, s_M_type_1, s_M_type_2, s_M_type_5, s_M_type_6, s_M_type_7, s_M_type_9, s_M_type_12, s_M_type_15, s_M_type_16, s_M_type_17, s_M_type_18, s_M_type_21, s_M_type_22, s_M_type_23, s_M_type_26, s_M_type_29, s_M_type_31, s_M_type_32, s_M_type_33, s_M_type_34, s_M_type_35, s_M_type_39, s_M_type_42, s_M_type_43, s_M_type_46, s_M_type_47, s_M_type_50, s_M_type_51, s_M_type_53, s_M_type_55, s_M_type_56, s_M_type_57, s_M_type_60, s_M_type_61, s_M_type_62, s_M_type_63, s_M_type_64, s_M_type_65, s_M_type_68, s_M_type_69, s_M_type_70, s_M_type_73, s_M_type_76, s_M_type_79, s_M_type_80, s_M_type_83, Option.bind_some, Option.bind_none, Option.toList_some, Option.toList_none, List.cons_append, List.nil_append, if_true, if_false, rz_clr, true_or, or_true, z00, z11, bZ_eq0, bZ_eq1, nor_self, if_pos, if_neg, zI_add, zI_sub, zI_mul, zI_neg, zI_lt, zI_le, zI_eq, c_M, f_M_0, u_M_0, f_M_1, u_M_1, f_M_2, l_M_2, r_M_2, w_M_2, f_M_3, u_M_3, f_M_4, u_M_4, f_M_5, u_M_5, f_M_6, u_M_6, f_M_7, u_M_7, f_M_8, u_M_8, f_M_9, l_M_9, r_M_9, w_M_9, f_M_10, l_M_10, r_M_10, w_M_10, f_M_11, l_M_11, r_M_11, w_M_11, f_M_12, l_M_12, r_M_12, w_M_12, f_M_13, l_M_13, r_M_13, w_M_13, f_M_14, l_M_14, r_M_14, w_M_14, f_M_15, l_M_15, r_M_15, w_M_15, f_M_16, l_M_16, r_M_16, w_M_16, f_M_17, l_M_17, r_M_17, w_M_17, f_M_18, l_M_18, r_M_18, w_M_18, sset_eq, gset_at, gset_gset, gset_ne, pset_eq, pset_ne, z_Min, bZ_neg c']
  · rw [if_neg c]
    have c' : 1 ≤ n ∧ n ≤ 8 := by omega
    by_cases c3 : 300 < s 2 0 + n
    · rw [if_pos c3]
      refine ⟨T0 (σ 10), ?_, sm_mono (T0_sm _) (by decide), hT0⟩
      have c4 : ¬ s 2 0 + n ≤ 300 := by omega
      unfold T0 at *
      simp (disch := first | omega | exact Nat.le_of_ble_eq_true rfl) only [e_M_type, s_M_type_0, s_M_type_1, s_M_type_2, s_M_type_5, s_M_type_6, s_M_type_7, s_M_type_9, s_M_type_12, s_M_type_15, s_M_type_16, s_M_type_17, s_M_type_18, s_M_type_21, s_M_type_22, s_M_type_23, s_M_type_26, s_M_type_29, s_M_type_31, s_M_type_32, s_M_type_33, s_M_type_34, s_M_type_35, s_M_type_39, s_M_type_42, s_M_type_43, s_M_type_46, s_M_type_47, s_M_type_50, s_M_type_51, s_M_type_53, s_M_type_55, s_M_type_56, s_M_type_57, s_M_type_60, s_M_type_61, s_M_type_62, s_M_type_63, s_M_type_64, s_M_type_65, s_M_type_68, s_M_type_69, s_M_type_70, s_M_type_73, s_M_type_76, s_M_type_79, s_M_type_80, s_M_type_83, Option.bind_some, Option.bind_none, Option.toList_some, Option.toList_none, List.cons_append, List.nil_append, if_true, if_false, rz_clr, true_or, or_true, z00, z11, bZ_eq0, bZ_eq1, nor_self, if_pos, if_neg, zI_add, zI_sub, zI_mul, zI_neg, zI_lt, zI_le, zI_eq, c_M, f_M_0, u_M_0, f_M_1, u_M_1, f_M_2, l_M_2, r_M_2, w_M_2, f_M_3, u_M_3, f_M_4, u_M_4, f_M_5, u_M_5, f_M_6, u_M_6, f_M_7, u_M_7, f_M_8, u_M_8, f_M_9, l_M_9, r_M_9, w_M_9, f_M_10, l_M_10, r_M_10, w_M_10, f_M_11, l_M_11, r_M_11, w_M_11, f_M_12, l_M_12, r_M_12, w_M_12, f_M_13, l_M_13, r_M_13, w_M_13, f_M_14, l_M_14, r_M_14, w_M_14, f_M_15, l_M_15, r_M_15, w_M_15, f_M_16, l_M_16, r_M_16, w_M_16, f_M_17, l_M_17, r_M_17, w_M_17, f_M_18, l_M_18, r_M_18, w_M_18, sset_eq, gset_at, gset_gset, gset_ne, pset_eq, pset_ne, z_Min, bZ_pos c', e3, c4]
    · rw [if_neg c3]
      have c4 : s 2 0 + n ≤ 300 := by omega
      obtain ⟨m, rfl⟩ : ∃ m : Nat, n = m := ⟨n.toNat, by omega⟩
      rw [Int.toNat_natCast]
      have hR := apM_R v m (T0 (σ 10)) s h.1 hT0
      refine ⟨apM v m (T0 (σ 10)), ?_, sm_tr (sm_mono (T0_sm _) (by decide)) (sm_mono (apM_sm _ _ _) (by decide)), hR⟩
      have hlp := fun l2 x3 => z_Mtype_lp (N := N) (σ := σ) (d + 1) hN v l2 x3 m (T0 (σ 10)) (by omega) (by rw [e3]; omega)
      rw [hR.1] at hlp
      generalize apM v m (T0 (σ 10)) = m1 at *
      unfold T0 at *
      simp (disch := first | omega | exact Nat.le_of_ble_eq_true rfl) only [e_M_type, s_M_type_0, s_M_type_1, s_M_type_2, s_M_type_5, s_M_type_6, s_M_type_7, s_M_type_9, s_M_type_12, s_M_type_15, s_M_type_16, s_M_type_17, s_M_type_18, s_M_type_21, s_M_type_22, s_M_type_23, s_M_type_26, s_M_type_29, s_M_type_31, s_M_type_32, s_M_type_33, s_M_type_34, s_M_type_35, s_M_type_39, s_M_type_42, s_M_type_43, s_M_type_46, s_M_type_47, s_M_type_50, s_M_type_51, s_M_type_53, s_M_type_55, s_M_type_56, s_M_type_57, s_M_type_60, s_M_type_61, s_M_type_62, s_M_type_63, s_M_type_64, s_M_type_65, s_M_type_68, s_M_type_69, s_M_type_70, s_M_type_73, s_M_type_76, s_M_type_79, s_M_type_80, s_M_type_83, Option.bind_some, Option.bind_none, Option.toList_some, Option.toList_none, List.cons_append, List.nil_append, if_true, if_false, rz_clr, true_or, or_true, z00, z11, bZ_eq0, bZ_eq1, nor_self, if_pos, if_neg, zI_add, zI_sub, zI_mul, zI_neg, zI_lt, zI_le, zI_eq, c_M, f_M_0, u_M_0, f_M_1, u_M_1, f_M_2, l_M_2, r_M_2, w_M_2, f_M_3, u_M_3, f_M_4, u_M_4, f_M_5, u_M_5, f_M_6, u_M_6, f_M_7, u_M_7, f_M_8, u_M_8, f_M_9, l_M_9, r_M_9, w_M_9, f_M_10, l_M_10, r_M_10, w_M_10, f_M_11, l_M_11, r_M_11, w_M_11, f_M_12, l_M_12, r_M_12, w_M_12, f_M_13, l_M_13, r_M_13, w_M_13, f_M_14, l_M_14, r_M_14, w_M_14, f_M_15, l_M_15, r_M_15, w_M_15, f_M_16, l_M_16, r_M_16, w_M_16, f_M_17, l_M_17, r_M_17, w_M_17, f_M_18, l_M_18, r_M_18, w_M_18, sset_eq, gset_at, gset_gset, gset_ne, pset_eq, pset_ne, z_Min, bZ_pos c', e3, c4, hlp]
theorem z_Mclear (d : Nat) (hN : 60 ≤ N) {s : zP} (hT : tyR (σ 10) s) : ∃ m', rz_dM (d + 1) iM_clear [.ref (bs 10)] (wOf N σ) = some (some (.int (zI (s 2 0))), wOf N (gset σ 10 m')) ∧ sm [0, 3] (σ 10) m' ∧ tyR m' (pset s 2 (fun _ => 0)) := by
  have e3 : T0 (σ 10) 3 0 = s 2 0 := hT.1
  refine ⟨pset (T0 (σ 10)) 3 (fun _ => 0), ?_, sm_pset (sm_mono (T0_sm _) (by decide)) (by decide), ?_⟩
  · unfold T0 at *
    simp (disch := first | omega | exact Nat.le_of_ble_eq_true rfl) only [e_M_clear, s_M_clear_0, s_M_clear_1, s_M_clear_2, s_M_clear_5, s_M_clear_6, s_M_clear_9, s_M_clear_10, s_M_clear_11, s_M_clear_12, s_M_clear_15, s_M_clear_16, Option.bind_some, Option.bind_none, Option.toList_some, Option.toList_none, List.cons_append, List.nil_append, if_true, if_false, rz_clr, true_or, or_true, z00, z11, bZ_eq0, bZ_eq1, nor_self, if_pos, if_neg, zI_add, zI_sub, zI_mul, zI_neg, zI_lt, zI_le, zI_eq, c_M, f_M_0, u_M_0, f_M_1, u_M_1, f_M_2, l_M_2, r_M_2, w_M_2, f_M_3, u_M_3, f_M_4, u_M_4, f_M_5, u_M_5, f_M_6, u_M_6, f_M_7, u_M_7, f_M_8, u_M_8, f_M_9, l_M_9, r_M_9, w_M_9, f_M_10, l_M_10, r_M_10, w_M_10, f_M_11, l_M_11, r_M_11, w_M_11, f_M_12, l_M_12, r_M_12, w_M_12, f_M_13, l_M_13, r_M_13, w_M_13, f_M_14, l_M_14, r_M_14, w_M_14, f_M_15, l_M_15, r_M_15, w_M_15, f_M_16, l_M_16, r_M_16, w_M_16, f_M_17, l_M_17, r_M_17, w_M_17, f_M_18, l_M_18, r_M_18, w_M_18, sset_eq, gset_at, gset_gset, gset_ne, pset_eq, pset_ne, e3]
  · refine ⟨by rw [pset_eq, pset_eq], fun i hi => ?_⟩
    rw [pset_eq] at hi
    omega
theorem z_Mlot (d : Nat) (hN : 60 ≤ N) (hs : sR (σ 10 10) q) (v : Int) : ∃ m', rz_dM (d + 1) iM_lot [.ref (bs 10), .int (zI v)] (wOf N σ) = some (some (.int (zI (q 6 0))), wOf N (gset σ 10 m')) ∧ sm [0, 10] (σ 10) m' ∧ sR (m' 10) (pset q 6 (fun _ => v)) := by
  obtain ⟨r0, r1, r3, r4, r5, r6, r7⟩ := hs
  have e8 : T0 (σ 10) 10 (8 : Int).toNat = q 6 0 := r7
  refine ⟨pset (T0 (σ 10)) 10 (zup (T0 (σ 10) 10) (8 : Int).toNat v), ?_, sm_pset (sm_mono (T0_sm _) (by decide)) (by decide), ?_⟩
  · unfold T0 at *
    simp (disch := first | omega | exact Nat.le_of_ble_eq_true rfl) only [e_M_lot, s_M_lot_0, s_M_lot_1, s_M_lot_2, s_M_lot_5, s_M_lot_6, s_M_lot_9, s_M_lot_11, s_M_lot_12, s_M_lot_13, s_M_lot_14, s_M_lot_17, s_M_lot_19, s_M_lot_20, s_M_lot_21, s_M_lot_22, Option.bind_some, Option.bind_none, Option.toList_some, Option.toList_none, List.cons_append, List.nil_append, if_true, if_false, rz_clr, true_or, or_true, z00, z11, bZ_eq0, bZ_eq1, nor_self, if_pos, if_neg, zI_add, zI_sub, zI_mul, zI_neg, zI_lt, zI_le, zI_eq, c_M, f_M_0, u_M_0, f_M_1, u_M_1, f_M_2, l_M_2, r_M_2, w_M_2, f_M_3, u_M_3, f_M_4, u_M_4, f_M_5, u_M_5, f_M_6, u_M_6, f_M_7, u_M_7, f_M_8, u_M_8, f_M_9, l_M_9, r_M_9, w_M_9, f_M_10, l_M_10, r_M_10, w_M_10, f_M_11, l_M_11, r_M_11, w_M_11, f_M_12, l_M_12, r_M_12, w_M_12, f_M_13, l_M_13, r_M_13, w_M_13, f_M_14, l_M_14, r_M_14, w_M_14, f_M_15, l_M_15, r_M_15, w_M_15, f_M_16, l_M_16, r_M_16, w_M_16, f_M_17, l_M_17, r_M_17, w_M_17, f_M_18, l_M_18, r_M_18, w_M_18, sset_eq, gset_at, gset_gset, gset_ne, pset_eq, pset_ne, e8]
  · exact ⟨r0, r1, r3, r4, r5, r6, rfl⟩
theorem z_Mtrace (d : Nat) (hN : 60 ≤ N) : rz_dM (d + 1) iM_trace [.ref (bs 10)] (wOf N σ) = some (some (.long (Int64.ofInt (σ 10 1 0))), wOf N (gset σ 10 (T0 (σ 10)))) := by
  unfold T0
  simp (disch := first | omega | exact Nat.le_of_ble_eq_true rfl) only [e_M_trace, s_M_trace_0, s_M_trace_1, s_M_trace_2, s_M_trace_5, s_M_trace_6, s_M_trace_9, Option.bind_some, Option.bind_none, Option.toList_some, Option.toList_none, List.cons_append, List.nil_append, if_true, if_false, rz_clr, true_or, or_true, z00, z11, bZ_eq0, bZ_eq1, nor_self, if_pos, if_neg, zI_add, zI_sub, zI_mul, zI_neg, zI_lt, zI_le, zI_eq, c_M, f_M_0, u_M_0, f_M_1, u_M_1, f_M_2, l_M_2, r_M_2, w_M_2, f_M_3, u_M_3, f_M_4, u_M_4, f_M_5, u_M_5, f_M_6, u_M_6, f_M_7, u_M_7, f_M_8, u_M_8, f_M_9, l_M_9, r_M_9, w_M_9, f_M_10, l_M_10, r_M_10, w_M_10, f_M_11, l_M_11, r_M_11, w_M_11, f_M_12, l_M_12, r_M_12, w_M_12, f_M_13, l_M_13, r_M_13, w_M_13, f_M_14, l_M_14, r_M_14, w_M_14, f_M_15, l_M_15, r_M_15, w_M_15, f_M_16, l_M_16, r_M_16, w_M_16, f_M_17, l_M_17, r_M_17, w_M_17, f_M_18, l_M_18, r_M_18, w_M_18, sset_eq, gset_at, gset_gset, gset_ne, pset_eq, pset_ne]
theorem z_MisLaw (d : Nat) (hN : 60 ≤ N) (hm : tlR (σ 10 9) 0 p) (hw : wfP p) {l : Int} (hl : rg l) : rz_dM (d + 2) iM_isLaw [.ref (bs 10), .int (zI l)] (wOf N σ) = some (some (.int (zI (bZ (0 ≤ l ∧ l < p 10 0)))), wOf N σ) := by
  obtain ⟨⟨w1, w2, w3, w4, w5, w6⟩, -⟩ := id hw
  have e2 := tl_L hm
  by_cases a1 : 0 ≤ l ∧ l < p 10 0
  · have a1' : 0 ≤ l ∧ l ≤ p 10 0 - 1 := by omega
    rw [bZ_pos a1]
    simp (disch := first | omega | exact Nat.le_of_ble_eq_true rfl) only [e_M_isLaw, s_M_isLaw_0, s_M_isLaw_1, s_M_isLaw_2, s_M_isLaw_3, s_M_isLaw_6, s_M_isLaw_7, s_M_isLaw_8, s_M_isLaw_9, s_M_isLaw_10, s_M_isLaw_13, Option.bind_some, Option.bind_none, Option.toList_some, Option.toList_none, List.cons_append, List.nil_append, if_true, if_false, rz_clr, true_or, or_true, z00, z11, bZ_eq0, bZ_eq1, nor_self, if_pos, if_neg, zI_add, zI_sub, zI_mul, zI_neg, zI_lt, zI_le, zI_eq, c_M, f_M_0, u_M_0, f_M_1, u_M_1, f_M_2, l_M_2, r_M_2, w_M_2, f_M_3, u_M_3, f_M_4, u_M_4, f_M_5, u_M_5, f_M_6, u_M_6, f_M_7, u_M_7, f_M_8, u_M_8, f_M_9, l_M_9, r_M_9, w_M_9, f_M_10, l_M_10, r_M_10, w_M_10, f_M_11, l_M_11, r_M_11, w_M_11, f_M_12, l_M_12, r_M_12, w_M_12, f_M_13, l_M_13, r_M_13, w_M_13, f_M_14, l_M_14, r_M_14, w_M_14, f_M_15, l_M_15, r_M_15, w_M_15, f_M_16, l_M_16, r_M_16, w_M_16, f_M_17, l_M_17, r_M_17, w_M_17, f_M_18, l_M_18, r_M_18, w_M_18, z_Min, e2, bZ_pos a1']
  · have a1' : ¬ (0 ≤ l ∧ l ≤ p 10 0 - 1) := by omega
    rw [bZ_neg a1]
    simp (disch := first | omega | exact Nat.le_of_ble_eq_true rfl) only [e_M_isLaw, s_M_isLaw_0, s_M_isLaw_1, s_M_isLaw_2, s_M_isLaw_3, s_M_isLaw_6, s_M_isLaw_7, s_M_isLaw_8, s_M_isLaw_9, s_M_isLaw_10, s_M_isLaw_13, Option.bind_some, Option.bind_none, Option.toList_some, Option.toList_none, List.cons_append, List.nil_append, if_true, if_false, rz_clr, true_or, or_true, z00, z11, bZ_eq0, bZ_eq1, nor_self, if_pos, if_neg, zI_add, zI_sub, zI_mul, zI_neg, zI_lt, zI_le, zI_eq, c_M, f_M_0, u_M_0, f_M_1, u_M_1, f_M_2, l_M_2, r_M_2, w_M_2, f_M_3, u_M_3, f_M_4, u_M_4, f_M_5, u_M_5, f_M_6, u_M_6, f_M_7, u_M_7, f_M_8, u_M_8, f_M_9, l_M_9, r_M_9, w_M_9, f_M_10, l_M_10, r_M_10, w_M_10, f_M_11, l_M_11, r_M_11, w_M_11, f_M_12, l_M_12, r_M_12, w_M_12, f_M_13, l_M_13, r_M_13, w_M_13, f_M_14, l_M_14, r_M_14, w_M_14, f_M_15, l_M_15, r_M_15, w_M_15, f_M_16, l_M_16, r_M_16, w_M_16, f_M_17, l_M_17, r_M_17, w_M_17, f_M_18, l_M_18, r_M_18, w_M_18, z_Min, e2, bZ_neg a1']
/-- so many numbers copied, from a place to a place -/
def cpF (t : Nat → Int) (a b : Nat) : Nat → Nat → (Nat → Int) → (Nat → Int)
  | 0, _, f => f
  | n + 1, k, f => cpF t a b n (k + 1) (zup f (a + k) (t (b + k)))
theorem cpF_at (t : Nat → Int) (a b : Nat) : ∀ (n k : Nat) (f : Nat → Int) (j : Nat), cpF t a b n k f j = if a + k ≤ j ∧ j < a + k + n then t (b + (j - a)) else f j := by
  intro n
  induction n with
  | zero => intro k f j; rw [cpF, if_neg (by omega)]
  | succ n ih =>
    intro k f j
    rw [cpF, ih]
    by_cases c : a + (k + 1) ≤ j ∧ j < a + (k + 1) + n
    · rw [if_pos c, if_pos (by omega)]
    · rw [if_neg c]
      by_cases c2 : j = a + k
      · rw [c2, zup_eq, if_pos (by omega), show a + k - a = k by omega]
      · rw [zup_ne c2, if_neg (by omega)]
theorem z_Mkeep_lp (d : Nat) (hN : 60 ≤ N) {i : Nat} (hi : i < 2) : ∀ (n k : Nat), n + k = 9 → ∀ f, rz_den (rz_dM d) (rz_at tb_X5_keep) (some .int) 18 [some (.ref (bs 10)), some (.int (zI i)), some (.int (zI k))] [] (wOf N (gset σ 10 (pset (σ 10) 11 f))) = rz_den (rz_dM d) (rz_at tb_X5_keep) (some .int) 47 [some (.ref (bs 10)), some (.int (zI i)), some (.int (zI 9))] [] (wOf N (gset σ 10 (pset (σ 10) 11 (cpF (σ 10 10) (9 * i) 0 n k f)))) := by
  intro n
  induction n with
  | zero =>
    intro k hk f
    obtain rfl : k = 9 := by omega
    rw [s_M_keep_18, cpF]
    simp (disch := first | omega | exact Nat.le_of_ble_eq_true rfl) only [e_M_keep, s_M_keep_0, s_M_keep_1, s_M_keep_2, s_M_keep_5, s_M_keep_6, s_M_keep_7, s_M_keep_8, s_M_keep_11, s_M_keep_14, s_M_keep_15, s_M_keep_16, s_M_keep_17, s_M_keep_19, s_M_keep_21, s_M_keep_24, s_M_keep_25, s_M_keep_28, s_M_keep_30, s_M_keep_31, s_M_keep_32, s_M_keep_33, s_M_keep_34, s_M_keep_35, s_M_keep_38, s_M_keep_39, s_M_keep_40, s_M_keep_41, s_M_keep_44, s_M_keep_48, s_M_keep_51, s_M_keep_52, s_M_keep_53, s_M_keep_54, s_M_keep_55, s_M_keep_58, s_M_keep_59, s_M_keep_60, Option.bind_some, Option.bind_none, Option.toList_some, Option.toList_none, List.cons_append, List.nil_append, if_true, if_false, rz_clr, true_or, or_true, z00, z11, bZ_eq0, bZ_eq1, nor_self, if_pos, if_neg, zI_add, zI_sub, zI_mul, zI_neg, zI_lt, zI_le, zI_eq]
    try rfl
  | succ n ih =>
    intro k hk f
    have ih' := ih (k + 1) (by omega) (zup f (9 * i + k) (σ 10 10 (0 + k)))
    simp only [Int.natCast_add, Int.natCast_one] at ih'
    have e1 : (9 * (i : Int) + k).toNat = 9 * i + k := by omega
    have e2 : ((k : Int)).toNat = 0 + k := by omega
    rw [s_M_keep_18, cpF]
    simp (disch := first | omega | exact Nat.le_of_ble_eq_true rfl) only [e_M_keep, s_M_keep_0, s_M_keep_1, s_M_keep_2, s_M_keep_5, s_M_keep_6, s_M_keep_7, s_M_keep_8, s_M_keep_11, s_M_keep_14, s_M_keep_15, s_M_keep_16, s_M_keep_17, s_M_keep_19, s_M_keep_21, s_M_keep_24, s_M_keep_25, s_M_keep_28, s_M_keep_30, s_M_keep_31, s_M_keep_32, s_M_keep_33, s_M_keep_34, s_M_keep_35, s_M_keep_38, s_M_keep_39, s_M_keep_40, s_M_keep_41, s_M_keep_44, s_M_keep_48, s_M_keep_51, s_M_keep_52, s_M_keep_53, s_M_keep_54, s_M_keep_55, s_M_keep_58, s_M_keep_59, s_M_keep_60, Option.bind_some, Option.bind_none, Option.toList_some, Option.toList_none, List.cons_append, List.nil_append, if_true, if_false, rz_clr, true_or, or_true, z00, z11, bZ_eq0, bZ_eq1, nor_self, if_pos, if_neg, zI_add, zI_sub, zI_mul, zI_neg, zI_lt, zI_le, zI_eq, c_M, f_M_0, u_M_0, f_M_1, u_M_1, f_M_2, l_M_2, r_M_2, w_M_2, f_M_3, u_M_3, f_M_4, u_M_4, f_M_5, u_M_5, f_M_6, u_M_6, f_M_7, u_M_7, f_M_8, u_M_8, f_M_9, l_M_9, r_M_9, w_M_9, f_M_10, l_M_10, r_M_10, w_M_10, f_M_11, l_M_11, r_M_11, w_M_11, f_M_12, l_M_12, r_M_12, w_M_12, f_M_13, l_M_13, r_M_13, w_M_13, f_M_14, l_M_14, r_M_14, w_M_14, f_M_15, l_M_15, r_M_15, w_M_15, f_M_16, l_M_16, r_M_16, w_M_16, f_M_17, l_M_17, r_M_17, w_M_17, f_M_18, l_M_18, r_M_18, w_M_18, sset_eq, gset_at, gset_gset, gset_ne, pset_eq, pset_ne, pset_pset, e1, e2, ih']
theorem z_Mback_lp (d : Nat) (hN : 60 ≤ N) {i : Nat} (hi : i < 2) : ∀ (n k : Nat), n + k = 9 → ∀ f, rz_den (rz_dM d) (rz_at tb_X5_back) (some .int) 30 [some (.ref (bs 10)), some (.int (zI i)), some (.int (zI k))] [] (wOf N (gset σ 10 (pset (σ 10) 10 f))) = rz_den (rz_dM d) (rz_at tb_X5_back) (some .int) 59 [some (.ref (bs 10)), some (.int (zI i)), some (.int (zI 9))] [] (wOf N (gset σ 10 (pset (σ 10) 10 (cpF (σ 10 11) 0 (9 * i) n k f)))) := by
  intro n
  induction n with
  | zero =>
    intro k hk f
    obtain rfl : k = 9 := by omega
    rw [s_M_back_30, cpF]
    simp (disch := first | omega | exact Nat.le_of_ble_eq_true rfl) only [e_M_back, s_M_back_0, s_M_back_1, s_M_back_2, s_M_back_5, s_M_back_6, s_M_back_7, s_M_back_8, s_M_back_11, s_M_back_14, s_M_back_15, s_M_back_16, s_M_back_17, s_M_back_20, s_M_back_21, s_M_back_22, s_M_back_25, s_M_back_27, s_M_back_28, s_M_back_29, s_M_back_31, s_M_back_33, s_M_back_36, s_M_back_37, s_M_back_40, s_M_back_41, s_M_back_42, s_M_back_45, s_M_back_47, s_M_back_48, s_M_back_49, s_M_back_50, s_M_back_51, s_M_back_52, s_M_back_53, s_M_back_56, s_M_back_60, s_M_back_63, s_M_back_64, s_M_back_65, Option.bind_some, Option.bind_none, Option.toList_some, Option.toList_none, List.cons_append, List.nil_append, if_true, if_false, rz_clr, true_or, or_true, z00, z11, bZ_eq0, bZ_eq1, nor_self, if_pos, if_neg, zI_add, zI_sub, zI_mul, zI_neg, zI_lt, zI_le, zI_eq]
    try rfl
  | succ n ih =>
    intro k hk f
    have ih' := ih (k + 1) (by omega) (zup f (0 + k) (σ 10 11 (9 * i + k)))
    simp only [Int.natCast_add, Int.natCast_one] at ih'
    have e1 : (9 * (i : Int) + k).toNat = 9 * i + k := by omega
    have e2 : ((k : Int)).toNat = 0 + k := by omega
    rw [s_M_back_30, cpF]
    simp (disch := first | omega | exact Nat.le_of_ble_eq_true rfl) only [e_M_back, s_M_back_0, s_M_back_1, s_M_back_2, s_M_back_5, s_M_back_6, s_M_back_7, s_M_back_8, s_M_back_11, s_M_back_14, s_M_back_15, s_M_back_16, s_M_back_17, s_M_back_20, s_M_back_21, s_M_back_22, s_M_back_25, s_M_back_27, s_M_back_28, s_M_back_29, s_M_back_31, s_M_back_33, s_M_back_36, s_M_back_37, s_M_back_40, s_M_back_41, s_M_back_42, s_M_back_45, s_M_back_47, s_M_back_48, s_M_back_49, s_M_back_50, s_M_back_51, s_M_back_52, s_M_back_53, s_M_back_56, s_M_back_60, s_M_back_63, s_M_back_64, s_M_back_65, Option.bind_some, Option.bind_none, Option.toList_some, Option.toList_none, List.cons_append, List.nil_append, if_true, if_false, rz_clr, true_or, or_true, z00, z11, bZ_eq0, bZ_eq1, nor_self, if_pos, if_neg, zI_add, zI_sub, zI_mul, zI_neg, zI_lt, zI_le, zI_eq, c_M, f_M_0, u_M_0, f_M_1, u_M_1, f_M_2, l_M_2, r_M_2, w_M_2, f_M_3, u_M_3, f_M_4, u_M_4, f_M_5, u_M_5, f_M_6, u_M_6, f_M_7, u_M_7, f_M_8, u_M_8, f_M_9, l_M_9, r_M_9, w_M_9, f_M_10, l_M_10, r_M_10, w_M_10, f_M_11, l_M_11, r_M_11, w_M_11, f_M_12, l_M_12, r_M_12, w_M_12, f_M_13, l_M_13, r_M_13, w_M_13, f_M_14, l_M_14, r_M_14, w_M_14, f_M_15, l_M_15, r_M_15, w_M_15, f_M_16, l_M_16, r_M_16, w_M_16, f_M_17, l_M_17, r_M_17, w_M_17, f_M_18, l_M_18, r_M_18, w_M_18, sset_eq, gset_at, gset_gset, gset_ne, pset_eq, pset_ne, pset_pset, e1, e2, ih']
end MI
