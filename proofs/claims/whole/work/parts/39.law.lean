-- the script's items: a law applied
theorem sl_or : ∀ m : Nat, m < 8 → ∀ a : Nat, a < 256 → zI (a : Int) ||| zI 1 <<< (zI (m : Int) &&& 31) = zI ((a ||| 2 ^ m : Nat) : Int) := by decide +kernel
/-- the ways told, as bits -/
def wyN (s : zP) : Nat → Nat → Nat → Nat
  | 0, _, a => a
  | n + 1, i, a => wyN s n (i + 1) (a ||| 2 ^ (s 1 i).toNat)
def lwP (s p : zP) (f : Int) (t : Nat) : zP := pset (pset (pset p 1 (zup (p 1) (p 10 0).toNat f)) 2 (zup (p 2) (p 10 0).toNat (wyN s (t - 1) 1 0 : Nat))) 10 (fun _ => p 10 0 + 1)
section LW
variable {N g : Nat} {σ : zS}
theorem z_applyLaw_lp (d : Nat) (h1 : 7 ≤ g) (h2 : g ≤ 9) (hN : 48 ≤ N) {t : Nat} (ht : σ 1 9 0 = t) (ht9 : t ≤ 9) (hs : ∀ i : Nat, 1 ≤ i → i < t → 0 ≤ σ 1 1 i ∧ σ 1 1 i < 8) (f : Int32) : ∀ (n i a : Nat), n + i = t → 1 ≤ i → a < 256 → rz_den (rz_dM (d + 1)) (rz_at tb_X2_applyLaw) none 5 [some (.ref (bs 1)), some (.ref (bs g)), some (.int f), some (.int (zI a)), some (.int (zI i))] [] (wOf N σ) = rz_den (rz_dM (d + 1)) (rz_at tb_X2_applyLaw) none 34 [some (.ref (bs 1)), some (.ref (bs g)), some (.int f), some (.int (zI (wyN (σ 1) n i a : Nat))), some (.int (zI t))] [] (wOf N σ) := by
  intro n
  induction n with
  | zero =>
    intro i a hi hi1 ha
    obtain rfl : i = t := by omega
    have c : ¬ (i : Int) < i := by omega
    rw [s_S_applyLaw_5, wyN]
    simp (disch := first | omega | exact Nat.le_of_ble_eq_true rfl) only [e_S_applyLaw, s_S_applyLaw_0, s_S_applyLaw_1, s_S_applyLaw_2, s_S_applyLaw_3, s_S_applyLaw_7, s_S_applyLaw_8, s_S_applyLaw_11, s_S_applyLaw_14, s_S_applyLaw_15, s_S_applyLaw_16, s_S_applyLaw_17, s_S_applyLaw_20, s_S_applyLaw_22, s_S_applyLaw_25, s_S_applyLaw_26, s_S_applyLaw_27, s_S_applyLaw_28, s_S_applyLaw_31, s_S_applyLaw_35, s_S_applyLaw_38, s_S_applyLaw_39, s_S_applyLaw_42, s_S_applyLaw_43, s_S_applyLaw_46, s_S_applyLaw_47, s_S_applyLaw_50, s_S_applyLaw_51, s_S_applyLaw_54, s_S_applyLaw_55, s_S_applyLaw_58, s_S_applyLaw_59, s_S_applyLaw_60, s_S_applyLaw_63, s_S_applyLaw_64, s_S_applyLaw_65, s_S_applyLaw_68, Option.bind_some, Option.bind_none, Option.toList_some, Option.toList_none, List.cons_append, List.nil_append, if_true, if_false, rz_clr, true_or, or_true, z00, z11, bZ_eq0, bZ_eq1, nor_self, if_pos, if_neg, zI_add, zI_sub, zI_mul, zI_neg, zI_lt, zI_le, zI_eq, c_S, f_S_0, l_S_0, r_S_0, w_S_0, f_S_1, l_S_1, r_S_1, w_S_1, f_S_2, u_S_2, f_S_3, u_S_3, f_S_4, u_S_4, f_S_5, u_S_5, f_S_6, u_S_6, f_S_7, u_S_7, f_S_8, u_S_8, f_S_9, u_S_9, ht, c]
  | succ n ih =>
    intro i a hi hi1 ha
    have c : (i : Int) < t := by omega
    obtain ⟨v1, v2⟩ := hs i hi1 (by omega)
    obtain ⟨m, hm⟩ : ∃ m : Nat, σ 1 1 i = m := ⟨(σ 1 1 i).toNat, by omega⟩
    have hsl := sl_or m (by omega) a ha
    have ha' : a ||| 2 ^ m < 256 := Nat.or_lt_two_pow (n := 8) ha (Nat.pow_lt_pow_right (by decide) (by omega))
    have ih' := ih (i + 1) (a ||| 2 ^ m) (by omega) (by omega) ha'
    simp only [Int.natCast_add, Int.natCast_one] at ih'
    rw [s_S_applyLaw_5, wyN, hm, Int.toNat_natCast]
    simp (disch := first | omega | exact Nat.le_of_ble_eq_true rfl) only [e_S_applyLaw, s_S_applyLaw_0, s_S_applyLaw_1, s_S_applyLaw_2, s_S_applyLaw_3, s_S_applyLaw_7, s_S_applyLaw_8, s_S_applyLaw_11, s_S_applyLaw_14, s_S_applyLaw_15, s_S_applyLaw_16, s_S_applyLaw_17, s_S_applyLaw_20, s_S_applyLaw_22, s_S_applyLaw_25, s_S_applyLaw_26, s_S_applyLaw_27, s_S_applyLaw_28, s_S_applyLaw_31, s_S_applyLaw_35, s_S_applyLaw_38, s_S_applyLaw_39, s_S_applyLaw_42, s_S_applyLaw_43, s_S_applyLaw_46, s_S_applyLaw_47, s_S_applyLaw_50, s_S_applyLaw_51, s_S_applyLaw_54, s_S_applyLaw_55, s_S_applyLaw_58, s_S_applyLaw_59, s_S_applyLaw_60, s_S_applyLaw_63, s_S_applyLaw_64, s_S_applyLaw_65, s_S_applyLaw_68, Option.bind_some, Option.bind_none, Option.toList_some, Option.toList_none, List.cons_append, List.nil_append, if_true, if_false, rz_clr, true_or, or_true, z00, z11, bZ_eq0, bZ_eq1, nor_self, if_pos, if_neg, zI_add, zI_lt, zI_le, c_S, f_S_0, l_S_0, r_S_0, w_S_0, f_S_1, l_S_1, r_S_1, w_S_1, f_S_2, u_S_2, f_S_3, u_S_3, f_S_4, u_S_4, f_S_5, u_S_5, f_S_6, u_S_6, f_S_7, u_S_7, f_S_8, u_S_8, f_S_9, u_S_9, a_S_0, p_S_0, a_S_1, p_S_1, ht, c, show ¬ (t : Int) ≤ i by omega, gat_of, Int.toNat_natCast, hm, hsl, ih']
theorem z_applyLaw (d : Nat) (h1 : 7 ≤ g) (h2 : g ≤ 9) (hN : 48 ≤ N) {t : Nat} (ht : σ 1 9 0 = t) (ht1 : 1 ≤ t) (ht9 : t ≤ 9) (hs : ∀ i : Nat, 1 ≤ i → i < t → 0 ≤ σ 1 1 i ∧ σ 1 1 i < 8) (hl : 0 ≤ σ g 10 0 ∧ σ g 10 0 < 3) (f : Int) : rz_dM (d + 2) iS_applyLaw [.ref (bs 1), .ref (bs g), .int (zI f)] (wOf N σ) = some (none, wOf N (gset σ g (lwP (σ 1) (σ g) f t))) := by
  have h := z_applyLaw_lp (N := N) (g := g) (σ := σ) d h1 h2 hN ht ht9 hs (zI f) (t - 1) 1 0 (by omega) (by omega) (by decide)
  rw [Int.natCast_one, Int.natCast_zero] at h
  unfold lwP
  generalize wyN (σ 1) (t - 1) 1 0 = W at h
  simp (disch := first | omega | exact Nat.le_of_ble_eq_true rfl) only [e_S_applyLaw, s_S_applyLaw_0, s_S_applyLaw_1, s_S_applyLaw_2, s_S_applyLaw_3, s_S_applyLaw_7, s_S_applyLaw_8, s_S_applyLaw_11, s_S_applyLaw_14, s_S_applyLaw_15, s_S_applyLaw_16, s_S_applyLaw_17, s_S_applyLaw_20, s_S_applyLaw_22, s_S_applyLaw_25, s_S_applyLaw_26, s_S_applyLaw_27, s_S_applyLaw_28, s_S_applyLaw_31, s_S_applyLaw_34, s_S_applyLaw_35, s_S_applyLaw_38, s_S_applyLaw_39, s_S_applyLaw_42, s_S_applyLaw_43, s_S_applyLaw_46, s_S_applyLaw_47, s_S_applyLaw_50, s_S_applyLaw_51, s_S_applyLaw_54, s_S_applyLaw_55, s_S_applyLaw_58, s_S_applyLaw_59, s_S_applyLaw_60, s_S_applyLaw_63, s_S_applyLaw_64, s_S_applyLaw_65, s_S_applyLaw_68, Option.bind_some, Option.bind_none, Option.toList_some, Option.toList_none, List.cons_append, List.nil_append, if_true, if_false, rz_clr, true_or, or_true, z00, z11, bZ_eq0, bZ_eq1, nor_self, if_pos, if_neg, zI_add, zI_sub, zI_mul, zI_neg, zI_lt, zI_le, zI_eq, c_S, f_S_0, l_S_0, r_S_0, w_S_0, f_S_1, l_S_1, r_S_1, w_S_1, f_S_2, u_S_2, f_S_3, u_S_3, f_S_4, u_S_4, f_S_5, u_S_5, f_S_6, u_S_6, f_S_7, u_S_7, f_S_8, u_S_8, f_S_9, u_S_9, c_P, f_P_0, l_P_0, r_P_0, w_P_0, f_P_1, l_P_1, r_P_1, w_P_1, f_P_2, l_P_2, r_P_2, w_P_2, f_P_3, l_P_3, r_P_3, w_P_3, f_P_4, l_P_4, r_P_4, w_P_4, f_P_5, l_P_5, r_P_5, w_P_5, f_P_6, l_P_6, r_P_6, w_P_6, f_P_7, l_P_7, r_P_7, w_P_7, f_P_8, u_P_8, f_P_9, u_P_9, f_P_10, u_P_10, sset_eq, gset_at, gset_gset, gset_ne, pset_eq, pset_ne, a_P_0, p_P_0, a_P_1, p_P_1, a_P_2, p_P_2, a_P_3, p_P_3, a_P_4, p_P_4, a_P_5, p_P_5, a_P_6, p_P_6, a_P_7, p_P_7, pup_in, h]
end LW
