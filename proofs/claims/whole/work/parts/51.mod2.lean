-- the model: the directions that may be
section MB
variable {N : Nat} {σ : zS} {p : zP}
theorem z_MmayBe_lp (d : Nat) (hN : 60 ≤ N) (hm : tlR (σ 10 9) 0 p) (hw : wfP p) (hl : lkP p) {j u own : Nat} (hj : j < 2) (hu : σ 10 16 j = u) (h3 : u < 3) (hc : (own : Int) < p 8 0 * p 9 0) {oth : Int} (ho : rg oth) : ∀ (n k : Nat), n + k = 8 → ∀ l6, rz_den (rz_dM (d + 2)) (rz_at tb_X5_mayBe) (some .int) 6 [some (.ref (bs 10)), some (.int (zI j)), some (.int (zI own)), some (.int (zI oth)), some (.int (zI (oS (mayF p u own oth) k : Nat))), some (.int (zI k)), l6] [] (wOf N σ) = some (some (.int (zI (mayP p u own oth : Nat))), wOf N σ) := by
  have ha := wfP_area hw
  have hu' : σ 10 16 ((j : Int)).toNat = u := by rw [Int.toNat_natCast]; exact hu
  intro n
  induction n with
  | zero =>
    intro k hk l6
    obtain rfl : k = 8 := by omega
    rw [s_M_mayBe_6]
    simp (disch := first | omega | exact Nat.le_of_ble_eq_true rfl) only [e_M_mayBe, s_M_mayBe_0, s_M_mayBe_1, s_M_mayBe_3, s_M_mayBe_4, s_M_mayBe_8, s_M_mayBe_10, s_M_mayBe_13, s_M_mayBe_14, s_M_mayBe_15, s_M_mayBe_18, s_M_mayBe_19, s_M_mayBe_20, s_M_mayBe_21, s_M_mayBe_23, s_M_mayBe_26, s_M_mayBe_28, s_M_mayBe_30, s_M_mayBe_32, s_M_mayBe_34, s_M_mayBe_37, s_M_mayBe_39, s_M_mayBe_40, s_M_mayBe_43, s_M_mayBe_44, s_M_mayBe_46, s_M_mayBe_47, s_M_mayBe_50, s_M_mayBe_51, s_M_mayBe_52, s_M_mayBe_54, s_M_mayBe_57, s_M_mayBe_60, s_M_mayBe_62, Option.bind_some, Option.bind_none, Option.toList_some, Option.toList_none, List.cons_append, List.nil_append, if_true, if_false, rz_clr, true_or, or_true, z00, z11, bZ_eq0, bZ_eq1, nor_self, if_pos, if_neg, zI_add, zI_sub, zI_mul, zI_neg, zI_lt, zI_le, zI_eq]
    rfl
  | succ n ih =>
    intro k hk l6
    have ih' := ih (k + 1) (by omega)
    simp only [Int.natCast_add, Int.natCast_one] at ih'
    have hr := ldP_rg hw hl (l := u) (c := own) ⟨by omega, hc⟩ (k := k) (by omega)
    have hb := oS_lt (mayF p u own oth) k
    have hb2 : 2 ^ k ≤ 2 ^ 7 := Nat.pow_le_pow_right (by decide) (by omega)
    have hld := z_Mleads (N := N) (σ := σ) d hN hm hw hl (l := u) (c := own) (k := k) h3 hc (by omega)
    have z0 : zI ((oS (mayF p u own oth) k : Nat) : Int) ||| zI 0 = zI ((oS (mayF p u own oth) k : Nat) : Int) := Int32.or_zero
    rw [s_M_mayBe_6]
    by_cases q1 : ldP p u own k = -9
    · have e : oS (mayF p u own oth) (k + 1) = oS (mayF p u own oth) k := if_neg (by simp [mayF, q1])
      rw [e] at ih'
      rw [q1] at hld
      simp (disch := first | omega | exact Nat.le_of_ble_eq_true rfl) only [e_M_mayBe, s_M_mayBe_0, s_M_mayBe_1, s_M_mayBe_3, s_M_mayBe_4, s_M_mayBe_8, s_M_mayBe_10, s_M_mayBe_13, s_M_mayBe_14, s_M_mayBe_15, s_M_mayBe_18, s_M_mayBe_19, s_M_mayBe_20, s_M_mayBe_21, s_M_mayBe_23, s_M_mayBe_26, s_M_mayBe_28, s_M_mayBe_30, s_M_mayBe_32, s_M_mayBe_34, s_M_mayBe_37, s_M_mayBe_39, s_M_mayBe_40, s_M_mayBe_43, s_M_mayBe_44, s_M_mayBe_46, s_M_mayBe_47, s_M_mayBe_50, s_M_mayBe_51, s_M_mayBe_52, s_M_mayBe_54, s_M_mayBe_57, s_M_mayBe_60, s_M_mayBe_62, Option.bind_some, Option.bind_none, Option.toList_some, Option.toList_none, List.cons_append, List.nil_append, if_true, if_false, rz_clr, true_or, or_true, z00, z11, bZ_eq0, bZ_eq1, nor_self, if_pos, if_neg, zI_add, zI_sub, zI_mul, zI_neg, zI_lt, zI_le, zI_eq, c_M, f_M_0, u_M_0, f_M_1, u_M_1, f_M_2, l_M_2, r_M_2, w_M_2, f_M_3, u_M_3, f_M_4, u_M_4, f_M_5, u_M_5, f_M_6, u_M_6, f_M_7, u_M_7, f_M_8, u_M_8, f_M_9, l_M_9, r_M_9, w_M_9, f_M_10, l_M_10, r_M_10, w_M_10, f_M_11, l_M_11, r_M_11, w_M_11, f_M_12, l_M_12, r_M_12, w_M_12, f_M_13, l_M_13, r_M_13, w_M_13, f_M_14, l_M_14, r_M_14, w_M_14, f_M_15, l_M_15, r_M_15, w_M_15, f_M_16, l_M_16, r_M_16, w_M_16, f_M_17, l_M_17, r_M_17, w_M_17, f_M_18, l_M_18, r_M_18, w_M_18, hu', hld, z0, ih']
    · by_cases q2 : ldP p u own k = oth
      · have e : oS (mayF p u own oth) (k + 1) = oS (mayF p u own oth) k := if_neg (by simp [mayF, q2])
        rw [e] at ih'
        simp (disch := first | omega | exact Nat.le_of_ble_eq_true rfl) only [e_M_mayBe, s_M_mayBe_0, s_M_mayBe_1, s_M_mayBe_3, s_M_mayBe_4, s_M_mayBe_8, s_M_mayBe_10, s_M_mayBe_13, s_M_mayBe_14, s_M_mayBe_15, s_M_mayBe_18, s_M_mayBe_19, s_M_mayBe_20, s_M_mayBe_21, s_M_mayBe_23, s_M_mayBe_26, s_M_mayBe_28, s_M_mayBe_30, s_M_mayBe_32, s_M_mayBe_34, s_M_mayBe_37, s_M_mayBe_39, s_M_mayBe_40, s_M_mayBe_43, s_M_mayBe_44, s_M_mayBe_46, s_M_mayBe_47, s_M_mayBe_50, s_M_mayBe_51, s_M_mayBe_52, s_M_mayBe_54, s_M_mayBe_57, s_M_mayBe_60, s_M_mayBe_62, Option.bind_some, Option.bind_none, Option.toList_some, Option.toList_none, List.cons_append, List.nil_append, if_true, if_false, rz_clr, true_or, or_true, z00, z11, bZ_eq0, bZ_eq1, nor_self, if_pos, if_neg, zI_add, zI_sub, zI_mul, zI_neg, zI_lt, zI_le, zI_eq, c_M, f_M_0, u_M_0, f_M_1, u_M_1, f_M_2, l_M_2, r_M_2, w_M_2, f_M_3, u_M_3, f_M_4, u_M_4, f_M_5, u_M_5, f_M_6, u_M_6, f_M_7, u_M_7, f_M_8, u_M_8, f_M_9, l_M_9, r_M_9, w_M_9, f_M_10, l_M_10, r_M_10, w_M_10, f_M_11, l_M_11, r_M_11, w_M_11, f_M_12, l_M_12, r_M_12, w_M_12, f_M_13, l_M_13, r_M_13, w_M_13, f_M_14, l_M_14, r_M_14, w_M_14, f_M_15, l_M_15, r_M_15, w_M_15, f_M_16, l_M_16, r_M_16, w_M_16, f_M_17, l_M_17, r_M_17, w_M_17, f_M_18, l_M_18, r_M_18, w_M_18, hu', hld, z0, ih']
      · have e : oS (mayF p u own oth) (k + 1) = oS (mayF p u own oth) k ||| 2 ^ k := if_pos (by simp [mayF, q1, q2])
        rw [e] at ih'
        simp (disch := first | omega | exact Nat.le_of_ble_eq_true rfl) only [e_M_mayBe, s_M_mayBe_0, s_M_mayBe_1, s_M_mayBe_3, s_M_mayBe_4, s_M_mayBe_8, s_M_mayBe_10, s_M_mayBe_13, s_M_mayBe_14, s_M_mayBe_15, s_M_mayBe_18, s_M_mayBe_19, s_M_mayBe_20, s_M_mayBe_21, s_M_mayBe_23, s_M_mayBe_26, s_M_mayBe_28, s_M_mayBe_30, s_M_mayBe_32, s_M_mayBe_34, s_M_mayBe_37, s_M_mayBe_39, s_M_mayBe_40, s_M_mayBe_43, s_M_mayBe_44, s_M_mayBe_46, s_M_mayBe_47, s_M_mayBe_50, s_M_mayBe_51, s_M_mayBe_52, s_M_mayBe_54, s_M_mayBe_57, s_M_mayBe_60, s_M_mayBe_62, Option.bind_some, Option.bind_none, Option.toList_some, Option.toList_none, List.cons_append, List.nil_append, if_true, if_false, rz_clr, true_or, or_true, z00, z11, bZ_eq0, bZ_eq1, nor_self, if_pos, if_neg, zI_add, zI_sub, zI_mul, zI_neg, zI_lt, zI_le, zI_eq, c_M, f_M_0, u_M_0, f_M_1, u_M_1, f_M_2, l_M_2, r_M_2, w_M_2, f_M_3, u_M_3, f_M_4, u_M_4, f_M_5, u_M_5, f_M_6, u_M_6, f_M_7, u_M_7, f_M_8, u_M_8, f_M_9, l_M_9, r_M_9, w_M_9, f_M_10, l_M_10, r_M_10, w_M_10, f_M_11, l_M_11, r_M_11, w_M_11, f_M_12, l_M_12, r_M_12, w_M_12, f_M_13, l_M_13, r_M_13, w_M_13, f_M_14, l_M_14, r_M_14, w_M_14, f_M_15, l_M_15, r_M_15, w_M_15, f_M_16, l_M_16, r_M_16, w_M_16, f_M_17, l_M_17, r_M_17, w_M_17, f_M_18, l_M_18, r_M_18, w_M_18, hu', hld, z_shl, z_or, ih']
theorem z_MmayBe (d : Nat) (hN : 60 ≤ N) (hm : tlR (σ 10 9) 0 p) (hw : wfP p) (hl : lkP p) {j u own : Nat} (hj : j < 2) (hu : σ 10 16 j = u) (h3 : u < 3) (hc : (own : Int) < p 8 0 * p 9 0) {oth : Int} (ho : rg oth) : rz_dM (d + 3) iM_mayBe [.ref (bs 10), .int (zI j), .int (zI own), .int (zI oth)] (wOf N σ) = some (some (.int (zI (mayP p u own oth : Nat))), wOf N σ) := by
  have h := z_MmayBe_lp (N := N) (σ := σ) d hN hm hw hl hj hu h3 hc ho 8 0 rfl
  simp only [show oS (mayF p u own oth) 0 = 0 from rfl, Int.natCast_zero] at h
  simp (disch := first | omega | exact Nat.le_of_ble_eq_true rfl) only [e_M_mayBe, s_M_mayBe_0, s_M_mayBe_1, s_M_mayBe_3, s_M_mayBe_4, s_M_mayBe_8, s_M_mayBe_10, s_M_mayBe_13, s_M_mayBe_14, s_M_mayBe_15, s_M_mayBe_18, s_M_mayBe_19, s_M_mayBe_20, s_M_mayBe_21, s_M_mayBe_23, s_M_mayBe_26, s_M_mayBe_28, s_M_mayBe_30, s_M_mayBe_32, s_M_mayBe_34, s_M_mayBe_37, s_M_mayBe_39, s_M_mayBe_40, s_M_mayBe_43, s_M_mayBe_44, s_M_mayBe_46, s_M_mayBe_47, s_M_mayBe_50, s_M_mayBe_51, s_M_mayBe_52, s_M_mayBe_54, s_M_mayBe_57, s_M_mayBe_60, s_M_mayBe_62, Option.bind_some, Option.bind_none, Option.toList_some, Option.toList_none, List.cons_append, List.nil_append, if_true, if_false, rz_clr, true_or, or_true, z00, z11, bZ_eq0, bZ_eq1, nor_self, if_pos, if_neg, zI_add, zI_sub, zI_mul, zI_neg, zI_lt, zI_le, zI_eq, h]
theorem pset_sw {q : zP} {i j : Nat} (h : i ≠ j) (a b c e : Nat → Int) : pset (pset (pset (pset q i a) j b) i c) j e = pset (pset q i c) j e := by
  funext k
  by_cases c1 : k = j
  · subst c1; rw [pset_eq, pset_eq]
  · rw [pset_ne c1, pset_ne c1]
    by_cases c2 : k = i
    · subst c2; rw [pset_eq, pset_eq]
    · rw [pset_ne c2, pset_ne c1, pset_ne c2, pset_ne c2]
/-- what is tried is as told -/
def asW (m : zP) : zP := pset (pset m 15 (zup (zup (m 15) 0 (m 9 27)) 1 (m 9 28))) 16 (zup (zup (m 16) 0 (m 9 29)) 1 (m 9 30))
theorem z_MasTold (d : Nat) (hN : 60 ≤ N) : rz_dM (d + 1) iM_asTold [.ref (bs 10)] (wOf N σ) = some (none, wOf N (gset σ 10 (asW (σ 10)))) := by
  unfold asW
  simp (disch := first | omega | exact Nat.le_of_ble_eq_true rfl) only [e_M_asTold, s_M_asTold_0, s_M_asTold_1, s_M_asTold_2, s_M_asTold_3, s_M_asTold_4, s_M_asTold_7, s_M_asTold_8, s_M_asTold_11, s_M_asTold_12, s_M_asTold_13, s_M_asTold_16, s_M_asTold_18, s_M_asTold_19, s_M_asTold_20, s_M_asTold_21, s_M_asTold_22, s_M_asTold_23, s_M_asTold_26, s_M_asTold_27, s_M_asTold_28, s_M_asTold_31, s_M_asTold_33, s_M_asTold_34, s_M_asTold_35, s_M_asTold_36, s_M_asTold_37, s_M_asTold_40, s_M_asTold_43, Option.bind_some, Option.bind_none, Option.toList_some, Option.toList_none, List.cons_append, List.nil_append, if_true, if_false, rz_clr, true_or, or_true, z00, z11, bZ_eq0, bZ_eq1, nor_self, if_pos, if_neg, zI_add, zI_sub, zI_mul, zI_neg, zI_lt, zI_le, zI_eq, c_M, f_M_0, u_M_0, f_M_1, u_M_1, f_M_2, l_M_2, r_M_2, w_M_2, f_M_3, u_M_3, f_M_4, u_M_4, f_M_5, u_M_5, f_M_6, u_M_6, f_M_7, u_M_7, f_M_8, u_M_8, f_M_9, l_M_9, r_M_9, w_M_9, f_M_10, l_M_10, r_M_10, w_M_10, f_M_11, l_M_11, r_M_11, w_M_11, f_M_12, l_M_12, r_M_12, w_M_12, f_M_13, l_M_13, r_M_13, w_M_13, f_M_14, l_M_14, r_M_14, w_M_14, f_M_15, l_M_15, r_M_15, w_M_15, f_M_16, l_M_16, r_M_16, w_M_16, f_M_17, l_M_17, r_M_17, w_M_17, f_M_18, l_M_18, r_M_18, w_M_18, sset_eq, gset_at, gset_gset, gset_ne, pset_eq, pset_ne, pset_sw (show (15 : Nat) ≠ 16 by decide)]
  rfl
end MB
