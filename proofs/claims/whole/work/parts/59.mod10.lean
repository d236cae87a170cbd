-- the model: kept, brought back, counted, rated
theorem nw_b1 : vp_nar FieldType.boolean (zI 1) = zI 1 := by decide
theorem nw_b0 : vp_nar FieldType.boolean (zI 0) = zI 0 := by decide
theorem ah_b : (if ah 10 12 < 1000 then 1 else 2) = 1 := rfl
section MJ
variable {N : Nat} {σ : zS} {p q : zP}
/-- an image of the model's -/
def kpR (f : Nat → Int) (i : Nat) (w : zP) : Prop := sR (fun k => f (9 * i + k)) w
theorem z_Mkeep (d : Nat) (hN : 60 ≤ N) (hs : sR (σ 10 10) q) {i : Int} (hi : rg i) : ∃ m', rz_dM (d + 2) iM_keep [.ref (bs 10), .int (zI i)] (wOf N σ) = some (some (.int (zI (if 0 ≤ i ∧ i < 2 then q 4 0 else -1))), wOf N (gset σ 10 m')) ∧ sm [0, 11, 12] (σ 10) m' ∧ (0 ≤ i ∧ i < 2 → (∀ w, sR (σ 10 10) w → kpR (m' 11) i.toNat w) ∧ (∀ w, kpR (σ 10 11) (1 - i).toNat w → kpR (m' 11) (1 - i).toNat w) ∧ m' 12 = zup (σ 10 12) i.toNat 1) ∧ (¬ (0 ≤ i ∧ i < 2) → sm [0] (σ 10) m') := by
  have hs0 : sR (T0 (σ 10) 10) q := hs
  have s5 := sR_5 hs0
  by_cases a1 : 0 ≤ i ∧ i < 2
  · have a1' : 0 ≤ i ∧ i ≤ 1 := by omega
    rw [if_pos a1]
    obtain ⟨i', rfl⟩ : ∃ n : Nat, i = n := ⟨i.toNat, by omega⟩
    have hlp := z_Mkeep_lp (N := N) (σ := gset σ 10 (T0 (σ 10))) (d + 1) hN (i := i') (by omega) 9 0 rfl (T0 (σ 10) 11)
    rw [gset_at, gset_gset, gset_gset, pset_self, Int.natCast_zero] at hlp
    refine ⟨pset (pset (T0 (σ 10)) 11 (cpF (T0 (σ 10) 10) (9 * i') 0 9 0 (T0 (σ 10) 11))) 12 (zup (σ 10 12) i' 1), ?_, sm_pset (sm_pset (sm_mono (T0_sm _) (by decide)) (by decide)) (by decide), fun _ => ⟨?_, ?_, ?_⟩, fun z => absurd a1 z⟩
    · generalize cpF (T0 (σ 10) 10) (9 * i') 0 9 0 (T0 (σ 10) 11) = F at hlp
      have hT : T0 (σ 10) 12 = σ 10 12 := rfl
      unfold T0 at *
      simp (disch := first | omega | exact Nat.le_of_ble_eq_true rfl) only [e_M_keep, s_M_keep_0, s_M_keep_1, s_M_keep_2, s_M_keep_5, s_M_keep_6, s_M_keep_7, s_M_keep_8, s_M_keep_11, s_M_keep_14, s_M_keep_15, s_M_keep_16, s_M_keep_17, s_M_keep_19, s_M_keep_21, s_M_keep_24, s_M_keep_25, s_M_keep_28, s_M_keep_30, s_M_keep_31, s_M_keep_32, s_M_keep_33, s_M_keep_34, s_M_keep_35, s_M_keep_38, s_M_keep_39, s_M_keep_40, s_M_keep_41, s_M_keep_44, s_M_keep_47, s_M_keep_48, s_M_keep_51, s_M_keep_52, s_M_keep_53, s_M_keep_54, s_M_keep_55, s_M_keep_58, s_M_keep_59, s_M_keep_60, Option.bind_some, Option.bind_none, Option.toList_some, Option.toList_none, List.cons_append, List.nil_append, if_true, if_false, rz_clr, true_or, or_true, z00, z11, bZ_eq0, bZ_eq1, nor_self, if_pos, if_neg, zI_add, zI_sub, zI_mul, zI_neg, zI_lt, zI_le, zI_eq, c_M, f_M_0, u_M_0, f_M_1, u_M_1, f_M_2, l_M_2, r_M_2, w_M_2, f_M_3, u_M_3, f_M_4, u_M_4, f_M_5, u_M_5, f_M_6, u_M_6, f_M_7, u_M_7, f_M_8, u_M_8, f_M_9, l_M_9, r_M_9, w_M_9, f_M_10, l_M_10, r_M_10, w_M_10, f_M_11, l_M_11, r_M_11, w_M_11, f_M_12, l_M_12, r_M_12, w_M_12, f_M_13, l_M_13, r_M_13, w_M_13, f_M_14, l_M_14, r_M_14, w_M_14, f_M_15, l_M_15, r_M_15, w_M_15, f_M_16, l_M_16, r_M_16, w_M_16, f_M_17, l_M_17, r_M_17, w_M_17, f_M_18, l_M_18, r_M_18, w_M_18, sset_eq, gset_at, gset_gset, gset_ne, pset_eq, pset_ne, z_Min, bZ_pos a1', hlp, s5, nw_b1, Int.toNat_natCast]
    · intro w hw
      rw [Int.toNat_natCast]
      show sR (fun k => cpF (T0 (σ 10) 10) (9 * i') 0 9 0 (T0 (σ 10) 11) (9 * i' + k)) w
      have e : ∀ k, k < 9 → cpF (T0 (σ 10) 10) (9 * i') 0 9 0 (T0 (σ 10) 11) (9 * i' + k) = σ 10 10 k := by
        intro k hk
        rw [cpF_at, if_pos (by omega), show 0 + (9 * i' + k - 9 * i') = k by omega]
        rfl
      unfold sR at *
      dsimp only
      rw [e 0 (by decide), e 1 (by decide), e 2 (by decide), e 3 (by decide), e 4 (by decide), e 5 (by decide), e 6 (by decide), e 7 (by decide), e 8 (by decide)]
      exact hw
    · intro w hw
      show sR (fun k => cpF (T0 (σ 10) 10) (9 * i') 0 9 0 (T0 (σ 10) 11) (9 * (1 - (i' : Int)).toNat + k)) w
      have e : ∀ k, k < 9 → cpF (T0 (σ 10) 10) (9 * i') 0 9 0 (T0 (σ 10) 11) (9 * (1 - (i' : Int)).toNat + k) = σ 10 11 (9 * (1 - (i' : Int)).toNat + k) := by
        intro k hk
        rw [cpF_at, if_neg (by omega)]
        rfl
      unfold kpR sR at *
      dsimp only at hw ⊢
      rw [e 0 (by decide), e 1 (by decide), e 2 (by decide), e 3 (by decide), e 4 (by decide), e 5 (by decide), e 6 (by decide), e 7 (by decide), e 8 (by decide)]
      exact hw
    · rw [pset_eq, Int.toNat_natCast]
  · have a1' : ¬ (0 ≤ i ∧ i ≤ 1) := by omega
    rw [if_neg a1]
    refine ⟨T0 (σ 10), ?_, sm_mono (T0_sm _) (by decide), fun z => absurd z a1, fun _ => T0_sm _⟩
    unfold T0 at *
    simp (disch := first | omega | exact Nat.le_of_ble_eq_true rfl) only [e_M_keep, s_M_keep_0, s_M_keep_1, s_M_keep_2, s_M_keep_5, s_M_keep_6, s_M_keep_7, s_M_keep_8, s_M_keep_11, s_M_keep_14, s_M_keep_15, s_M_keep_16, s_M_keep_17, s_M_keep_19, s_M_keep_21, s_M_keep_24, s_M_keep_25, s_M_keep_28, s_M_keep_30, s_M_keep_31, s_M_keep_32, s_M_keep_33, s_M_keep_34, s_M_keep_35, s_M_keep_38, s_M_keep_39, s_M_keep_40, s_M_keep_41, s_M_keep_44, s_M_keep_47, s_M_keep_48, s_M_keep_51, s_M_keep_52, s_M_keep_53, s_M_keep_54, s_M_keep_55, s_M_keep_58, s_M_keep_59, s_M_keep_60, Option.bind_some, Option.bind_none, Option.toList_some, Option.toList_none, List.cons_append, List.nil_append, if_true, if_false, rz_clr, true_or, or_true, z00, z11, bZ_eq0, bZ_eq1, nor_self, if_pos, if_neg, zI_add, zI_sub, zI_mul, zI_neg, zI_lt, zI_le, zI_eq, c_M, f_M_0, u_M_0, f_M_1, u_M_1, f_M_2, l_M_2, r_M_2, w_M_2, f_M_3, u_M_3, f_M_4, u_M_4, f_M_5, u_M_5, f_M_6, u_M_6, f_M_7, u_M_7, f_M_8, u_M_8, f_M_9, l_M_9, r_M_9, w_M_9, f_M_10, l_M_10, r_M_10, w_M_10, f_M_11, l_M_11, r_M_11, w_M_11, f_M_12, l_M_12, r_M_12, w_M_12, f_M_13, l_M_13, r_M_13, w_M_13, f_M_14, l_M_14, r_M_14, w_M_14, f_M_15, l_M_15, r_M_15, w_M_15, f_M_16, l_M_16, r_M_16, w_M_16, f_M_17, l_M_17, r_M_17, w_M_17, f_M_18, l_M_18, r_M_18, w_M_18, sset_eq, gset_at, gset_gset, gset_ne, pset_eq, pset_ne, z_Min, bZ_neg a1']
theorem z_Mback (d : Nat) (hN : 60 ≤ N) {i : Int} (hi : rg i) {b : Nat → Bool} (hb : ∀ k : Nat, k < 2 → σ 10 12 k = bN (b k)) {w : zP} (hw : 0 ≤ i ∧ i < 2 → b i.toNat = true → kpR (σ 10 11) i.toNat w) : ∃ m', rz_dM (d + 2) iM_back [.ref (bs 10), .int (zI i)] (wOf N σ) = some (some (.int (zI (if 0 ≤ i ∧ i < 2 then (if b i.toNat = true then w 4 0 else -2) else -1))), wOf N (gset σ 10 m')) ∧ sm [0, 10] (σ 10) m' ∧ ((0 ≤ i ∧ i < 2 ∧ b i.toNat = true) → sR (m' 10) w) ∧ (¬ (0 ≤ i ∧ i < 2 ∧ b i.toNat = true) → m' 10 = σ 10 10) := by
  by_cases a1 : 0 ≤ i ∧ i < 2
  · have a1' : 0 ≤ i ∧ i ≤ 1 := by omega
    rw [if_pos a1]
    obtain ⟨i', rfl⟩ : ∃ n : Nat, i = n := ⟨i.toNat, by omega⟩
    rw [Int.toNat_natCast] at *
    have hbi : T0 (σ 10) 12 ((i' : Int)).toNat = bN (b i') := by rw [Int.toNat_natCast]; exact hb i' (by omega)
    by_cases c : b i' = true
    · rw [if_pos c]
      rw [c, show bN true = 1 from rfl] at hbi
      have hk := hw a1 c
      have hlp := z_Mback_lp (N := N) (σ := gset σ 10 (T0 (σ 10))) (d + 1) hN (i := i') (by omega) 9 0 rfl (T0 (σ 10) 10)
      rw [gset_at, gset_gset, gset_gset, pset_self, Int.natCast_zero] at hlp
      have hR : sR (cpF (T0 (σ 10) 11) 0 (9 * i') 9 0 (T0 (σ 10) 10)) w := by
        have e : ∀ k, k < 9 → cpF (T0 (σ 10) 11) 0 (9 * i') 9 0 (T0 (σ 10) 10) k = σ 10 11 (9 * i' + k) := by
          intro k hk
          rw [cpF_at, if_pos (by omega), show k - 0 = k by omega]
          rfl
        unfold kpR sR at *
        rw [e 0 (by decide), e 1 (by decide), e 2 (by decide), e 3 (by decide), e 4 (by decide), e 5 (by decide), e 6 (by decide), e 7 (by decide), e 8 (by decide)]
        exact hk
      refine ⟨pset (T0 (σ 10)) 10 (cpF (T0 (σ 10) 11) 0 (9 * i') 9 0 (T0 (σ 10) 10)), ?_, sm_pset (sm_mono (T0_sm _) (by decide)) (by decide), fun _ => by rw [pset_eq]; exact hR, fun z => absurd ⟨a1.1, a1.2, c⟩ z⟩
      have s5 := sR_5 hR
      generalize cpF (T0 (σ 10) 11) 0 (9 * i') 9 0 (T0 (σ 10) 10) = F at hlp s5
      unfold T0 at *
      simp (disch := first | omega | exact Nat.le_of_ble_eq_true rfl) only [e_M_back, s_M_back_0, s_M_back_1, s_M_back_2, s_M_back_5, s_M_back_6, s_M_back_7, s_M_back_8, s_M_back_11, s_M_back_14, s_M_back_15, s_M_back_16, s_M_back_17, s_M_back_20, s_M_back_21, s_M_back_22, s_M_back_25, s_M_back_27, s_M_back_28, s_M_back_29, s_M_back_31, s_M_back_33, s_M_back_36, s_M_back_37, s_M_back_40, s_M_back_41, s_M_back_42, s_M_back_45, s_M_back_47, s_M_back_48, s_M_back_49, s_M_back_50, s_M_back_51, s_M_back_52, s_M_back_53, s_M_back_56, s_M_back_59, s_M_back_60, s_M_back_63, s_M_back_64, s_M_back_65, Option.bind_some, Option.bind_none, Option.toList_some, Option.toList_none, List.cons_append, List.nil_append, if_true, if_false, rz_clr, true_or, or_true, z00, z11, bZ_eq0, bZ_eq1, nor_self, if_pos, if_neg, zI_add, zI_sub, zI_mul, zI_neg, zI_lt, zI_le, zI_eq, c_M, f_M_0, u_M_0, f_M_1, u_M_1, f_M_2, l_M_2, r_M_2, w_M_2, f_M_3, u_M_3, f_M_4, u_M_4, f_M_5, u_M_5, f_M_6, u_M_6, f_M_7, u_M_7, f_M_8, u_M_8, f_M_9, l_M_9, r_M_9, w_M_9, f_M_10, l_M_10, r_M_10, w_M_10, f_M_11, l_M_11, r_M_11, w_M_11, f_M_12, l_M_12, r_M_12, w_M_12, f_M_13, l_M_13, r_M_13, w_M_13, f_M_14, l_M_14, r_M_14, w_M_14, f_M_15, l_M_15, r_M_15, w_M_15, f_M_16, l_M_16, r_M_16, w_M_16, f_M_17, l_M_17, r_M_17, w_M_17, f_M_18, l_M_18, r_M_18, w_M_18, sset_eq, gset_at, gset_gset, gset_ne, pset_eq, pset_ne, z_Min, bZ_pos a1', ah_b, hbi, hlp, s5]
    · rw [if_neg c]
      rw [Bool.not_eq_true] at c
      rw [c, show bN false = 0 from rfl] at hbi
      refine ⟨T0 (σ 10), ?_, sm_mono (T0_sm _) (by decide), fun z => ?_, fun _ => rfl⟩
      · unfold T0 at *
        simp (disch := first | omega | exact Nat.le_of_ble_eq_true rfl) only [e_M_back, s_M_back_0, s_M_back_1, s_M_back_2, s_M_back_5, s_M_back_6, s_M_back_7, s_M_back_8, s_M_back_11, s_M_back_14, s_M_back_15, s_M_back_16, s_M_back_17, s_M_back_20, s_M_back_21, s_M_back_22, s_M_back_25, s_M_back_27, s_M_back_28, s_M_back_29, s_M_back_31, s_M_back_33, s_M_back_36, s_M_back_37, s_M_back_40, s_M_back_41, s_M_back_42, s_M_back_45, s_M_back_47, s_M_back_48, s_M_back_49, s_M_back_50, s_M_back_51, s_M_back_52, s_M_back_53, s_M_back_56, s_M_back_59, s_M_back_60, s_M_back_63, s_M_back_64, s_M_back_65, Option.bind_some, Option.bind_none, Option.toList_some, Option.toList_none, List.cons_append, List.nil_append, if_true, if_false, rz_clr, true_or, or_true, z00, z11, bZ_eq0, bZ_eq1, nor_self, if_pos, if_neg, zI_add, zI_sub, zI_mul, zI_neg, zI_lt, zI_le, zI_eq, c_M, f_M_0, u_M_0, f_M_1, u_M_1, f_M_2, l_M_2, r_M_2, w_M_2, f_M_3, u_M_3, f_M_4, u_M_4, f_M_5, u_M_5, f_M_6, u_M_6, f_M_7, u_M_7, f_M_8, u_M_8, f_M_9, l_M_9, r_M_9, w_M_9, f_M_10, l_M_10, r_M_10, w_M_10, f_M_11, l_M_11, r_M_11, w_M_11, f_M_12, l_M_12, r_M_12, w_M_12, f_M_13, l_M_13, r_M_13, w_M_13, f_M_14, l_M_14, r_M_14, w_M_14, f_M_15, l_M_15, r_M_15, w_M_15, f_M_16, l_M_16, r_M_16, w_M_16, f_M_17, l_M_17, r_M_17, w_M_17, f_M_18, l_M_18, r_M_18, w_M_18, sset_eq, gset_at, gset_gset, gset_ne, pset_eq, pset_ne, z_Min, bZ_pos a1', ah_b, hbi]
      · have := z.2.2
        rw [c] at this
        exact absurd this Bool.false_ne_true
  · have a1' : ¬ (0 ≤ i ∧ i ≤ 1) := by omega
    rw [if_neg a1]
    refine ⟨T0 (σ 10), ?_, sm_mono (T0_sm _) (by decide), fun z => absurd ⟨z.1, z.2.1⟩ a1, fun _ => rfl⟩
    unfold T0 at *
    simp (disch := first | omega | exact Nat.le_of_ble_eq_true rfl) only [e_M_back, s_M_back_0, s_M_back_1, s_M_back_2, s_M_back_5, s_M_back_6, s_M_back_7, s_M_back_8, s_M_back_11, s_M_back_14, s_M_back_15, s_M_back_16, s_M_back_17, s_M_back_20, s_M_back_21, s_M_back_22, s_M_back_25, s_M_back_27, s_M_back_28, s_M_back_29, s_M_back_31, s_M_back_33, s_M_back_36, s_M_back_37, s_M_back_40, s_M_back_41, s_M_back_42, s_M_back_45, s_M_back_47, s_M_back_48, s_M_back_49, s_M_back_50, s_M_back_51, s_M_back_52, s_M_back_53, s_M_back_56, s_M_back_59, s_M_back_60, s_M_back_63, s_M_back_64, s_M_back_65, Option.bind_some, Option.bind_none, Option.toList_some, Option.toList_none, List.cons_append, List.nil_append, if_true, if_false, rz_clr, true_or, or_true, z00, z11, bZ_eq0, bZ_eq1, nor_self, if_pos, if_neg, zI_add, zI_sub, zI_mul, zI_neg, zI_lt, zI_le, zI_eq, c_M, f_M_0, u_M_0, f_M_1, u_M_1, f_M_2, l_M_2, r_M_2, w_M_2, f_M_3, u_M_3, f_M_4, u_M_4, f_M_5, u_M_5, f_M_6, u_M_6, f_M_7, u_M_7, f_M_8, u_M_8, f_M_9, l_M_9, r_M_9, w_M_9, f_M_10, l_M_10, r_M_10, w_M_10, f_M_11, l_M_11, r_M_11, w_M_11, f_M_12, l_M_12, r_M_12, w_M_12, f_M_13, l_M_13, r_M_13, w_M_13, f_M_14, l_M_14, r_M_14, w_M_14, f_M_15, l_M_15, r_M_15, w_M_15, f_M_16, l_M_16, r_M_16, w_M_16, f_M_17, l_M_17, r_M_17, w_M_17, f_M_18, l_M_18, r_M_18, w_M_18, sset_eq, gset_at, gset_gset, gset_ne, pset_eq, pset_ne, z_Min, bZ_neg a1']
theorem z_Mcount_lp (d : Nat) (hN : 60 ≤ N) (hm : tlR (σ 10 9) 0 p) (hw : wfP p) {a : Nat} (hA : p 8 0 * p 9 0 = a) (x : Int32) : ∀ (n c : Nat), n + c = a → ∀ v : Int32, ∃ v' : Int32, rz_den (rz_dM (d + 1)) (rz_at tb_X5_count) (some .int) 9 [some (.ref (bs 10)), some (.int x), some (.int v), some (.int (zI c))] [] (wOf N σ) = rz_den (rz_dM (d + 1)) (rz_at tb_X5_count) (some .int) 45 [some (.ref (bs 10)), some (.int x), some (.int v'), some (.int (zI a))] [] (wOf N σ) ∧ (∀ k : Int, rg k ∧ 3 ≤ k → x = zI k → v = zI (cN (fun c => decide (p 0 c = k - 2)) c : Nat) → v' = zI (cN (fun c => decide (p 0 c = k - 2)) a : Nat)) := by
  have ha := wfP_area hw
  have hce := z_Mcells (N := N) (σ := σ) d hN hm
  rw [hA] at hce
  intro n
  induction n with
  | zero =>
    intro c hc v
    obtain rfl : c = a := by omega
    refine ⟨v, ?_, fun k _ _ h => h⟩
    rw [s_M_count_9]
    simp (disch := first | omega | exact Nat.le_of_ble_eq_true rfl) only [e_M_count, s_M_count_0, s_M_count_1, s_M_count_2, s_M_count_5, s_M_count_6, s_M_count_7, s_M_count_8, s_M_count_10, s_M_count_11, s_M_count_14, s_M_count_17, s_M_count_18, s_M_count_19, s_M_count_22, s_M_count_23, s_M_count_24, s_M_count_25, s_M_count_26, s_M_count_27, s_M_count_28, s_M_count_29, s_M_count_32, s_M_count_33, s_M_count_36, s_M_count_37, s_M_count_38, s_M_count_39, s_M_count_42, s_M_count_46, s_M_count_49, s_M_count_50, s_M_count_53, s_M_count_54, s_M_count_55, s_M_count_58, s_M_count_59, s_M_count_60, s_M_count_63, s_M_count_64, s_M_count_67, s_M_count_68, s_M_count_69, s_M_count_72, s_M_count_73, s_M_count_74, s_M_count_77, s_M_count_78, s_M_count_81, s_M_count_82, s_M_count_83, s_M_count_86, s_M_count_87, s_M_count_88, s_M_count_89, s_M_count_92, s_M_count_95, s_M_count_96, s_M_count_99, s_M_count_100, s_M_count_102, s_M_count_105, s_M_count_106, s_M_count_109, s_M_count_112, s_M_count_113, Option.bind_some, Option.bind_none, Option.toList_some, Option.toList_none, List.cons_append, List.nil_append, if_true, if_false, rz_clr, true_or, or_true, z00, z11, bZ_eq0, bZ_eq1, nor_self, if_pos, if_neg, zI_add, zI_sub, zI_mul, zI_neg, zI_lt, zI_le, zI_eq, c_M, f_M_0, u_M_0, f_M_1, u_M_1, f_M_2, l_M_2, r_M_2, w_M_2, f_M_3, u_M_3, f_M_4, u_M_4, f_M_5, u_M_5, f_M_6, u_M_6, f_M_7, u_M_7, f_M_8, u_M_8, f_M_9, l_M_9, r_M_9, w_M_9, f_M_10, l_M_10, r_M_10, w_M_10, f_M_11, l_M_11, r_M_11, w_M_11, f_M_12, l_M_12, r_M_12, w_M_12, f_M_13, l_M_13, r_M_13, w_M_13, f_M_14, l_M_14, r_M_14, w_M_14, f_M_15, l_M_15, r_M_15, w_M_15, f_M_16, l_M_16, r_M_16, w_M_16, f_M_17, l_M_17, r_M_17, w_M_17, f_M_18, l_M_18, r_M_18, w_M_18, hce]
  | succ n ih =>
    intro c hc v
    have hwc := hw.2.1 c (by omega)
    have ek := tl_cell hm (i := 3 + (c : Int)) (by omega)
    rw [show 3 + (c : Int) - 3 = c by omega, Int.toNat_natCast] at ek
    by_cases e : zI (p 0 c) = x - zI 2
    · obtain ⟨v', h1, h2⟩ := ih (c + 1) (by omega) (v + zI 1)
      simp only [Int.natCast_add, Int.natCast_one] at h1
      refine ⟨v', ?_, fun k hk hx hv => h2 k hk hx ?_⟩
      · rw [s_M_count_9]
        simp (disch := first | omega | exact Nat.le_of_ble_eq_true rfl) only [e_M_count, s_M_count_0, s_M_count_1, s_M_count_2, s_M_count_5, s_M_count_6, s_M_count_7, s_M_count_8, s_M_count_10, s_M_count_11, s_M_count_14, s_M_count_17, s_M_count_18, s_M_count_19, s_M_count_22, s_M_count_23, s_M_count_24, s_M_count_25, s_M_count_26, s_M_count_27, s_M_count_28, s_M_count_29, s_M_count_32, s_M_count_33, s_M_count_36, s_M_count_37, s_M_count_38, s_M_count_39, s_M_count_42, s_M_count_46, s_M_count_49, s_M_count_50, s_M_count_53, s_M_count_54, s_M_count_55, s_M_count_58, s_M_count_59, s_M_count_60, s_M_count_63, s_M_count_64, s_M_count_67, s_M_count_68, s_M_count_69, s_M_count_72, s_M_count_73, s_M_count_74, s_M_count_77, s_M_count_78, s_M_count_81, s_M_count_82, s_M_count_83, s_M_count_86, s_M_count_87, s_M_count_88, s_M_count_89, s_M_count_92, s_M_count_95, s_M_count_96, s_M_count_99, s_M_count_100, s_M_count_102, s_M_count_105, s_M_count_106, s_M_count_109, s_M_count_112, s_M_count_113, Option.bind_some, Option.bind_none, Option.toList_some, Option.toList_none, List.cons_append, List.nil_append, if_true, if_false, rz_clr, true_or, or_true, z00, z11, bZ_eq0, bZ_eq1, nor_self, if_pos, if_neg, zI_add, zI_lt, zI_le, c_M, f_M_0, u_M_0, f_M_1, u_M_1, f_M_2, l_M_2, r_M_2, w_M_2, f_M_3, u_M_3, f_M_4, u_M_4, f_M_5, u_M_5, f_M_6, u_M_6, f_M_7, u_M_7, f_M_8, u_M_8, f_M_9, l_M_9, r_M_9, w_M_9, f_M_10, l_M_10, r_M_10, w_M_10, f_M_11, l_M_11, r_M_11, w_M_11, f_M_12, l_M_12, r_M_12, w_M_12, f_M_13, l_M_13, r_M_13, w_M_13, f_M_14, l_M_14, r_M_14, w_M_14, f_M_15, l_M_15, r_M_15, w_M_15, f_M_16, l_M_16, r_M_16, w_M_16, f_M_17, l_M_17, r_M_17, w_M_17, f_M_18, l_M_18, r_M_18, w_M_18, hce, ek, e, h1]
      · have e' : p 0 c = k - 2 := by
          rw [hx, zI_sub, zI_eq (by omega) (by omega)] at e
          exact e
        rw [hv, zI_add, cN, if_pos (decide_eq_true e')]
        rfl
    · obtain ⟨v', h1, h2⟩ := ih (c + 1) (by omega) (v + zI 0)
      simp only [Int.natCast_add, Int.natCast_one] at h1
      refine ⟨v', ?_, fun k hk hx hv => h2 k hk hx ?_⟩
      · rw [s_M_count_9]
        simp (disch := first | omega | exact Nat.le_of_ble_eq_true rfl) only [e_M_count, s_M_count_0, s_M_count_1, s_M_count_2, s_M_count_5, s_M_count_6, s_M_count_7, s_M_count_8, s_M_count_10, s_M_count_11, s_M_count_14, s_M_count_17, s_M_count_18, s_M_count_19, s_M_count_22, s_M_count_23, s_M_count_24, s_M_count_25, s_M_count_26, s_M_count_27, s_M_count_28, s_M_count_29, s_M_count_32, s_M_count_33, s_M_count_36, s_M_count_37, s_M_count_38, s_M_count_39, s_M_count_42, s_M_count_46, s_M_count_49, s_M_count_50, s_M_count_53, s_M_count_54, s_M_count_55, s_M_count_58, s_M_count_59, s_M_count_60, s_M_count_63, s_M_count_64, s_M_count_67, s_M_count_68, s_M_count_69, s_M_count_72, s_M_count_73, s_M_count_74, s_M_count_77, s_M_count_78, s_M_count_81, s_M_count_82, s_M_count_83, s_M_count_86, s_M_count_87, s_M_count_88, s_M_count_89, s_M_count_92, s_M_count_95, s_M_count_96, s_M_count_99, s_M_count_100, s_M_count_102, s_M_count_105, s_M_count_106, s_M_count_109, s_M_count_112, s_M_count_113, Option.bind_some, Option.bind_none, Option.toList_some, Option.toList_none, List.cons_append, List.nil_append, if_true, if_false, rz_clr, true_or, or_true, z00, z11, bZ_eq0, bZ_eq1, nor_self, if_pos, if_neg, zI_add, zI_lt, zI_le, c_M, f_M_0, u_M_0, f_M_1, u_M_1, f_M_2, l_M_2, r_M_2, w_M_2, f_M_3, u_M_3, f_M_4, u_M_4, f_M_5, u_M_5, f_M_6, u_M_6, f_M_7, u_M_7, f_M_8, u_M_8, f_M_9, l_M_9, r_M_9, w_M_9, f_M_10, l_M_10, r_M_10, w_M_10, f_M_11, l_M_11, r_M_11, w_M_11, f_M_12, l_M_12, r_M_12, w_M_12, f_M_13, l_M_13, r_M_13, w_M_13, f_M_14, l_M_14, r_M_14, w_M_14, f_M_15, l_M_15, r_M_15, w_M_15, f_M_16, l_M_16, r_M_16, w_M_16, f_M_17, l_M_17, r_M_17, w_M_17, f_M_18, l_M_18, r_M_18, w_M_18, hce, ek, e, h1]
      · have e' : ¬ p 0 c = k - 2 := by
          intro z
          rw [hx, zI_sub, zI_eq (by omega) (by omega)] at e
          exact e z
        rw [hv, zI_add, cN, if_neg (by rw [decide_eq_true_eq]; exact e'), Int.add_zero]
theorem z_Mcount (d : Nat) (hN : 60 ≤ N) (hm : tlR (σ 10 9) 0 p) (hw : wfP p) {s : zP} (hT : tyR (σ 10) s) {k : Int} (hk : rg k) : rz_dM (d + 2) iM_count [.ref (bs 10), .int (zI k)] (wOf N σ) = some (some (.int (zI (countA p s k))), wOf N (gset σ 10 (T0 (σ 10)))) := by
  have ha := wfP_area hw
  obtain ⟨a, hA⟩ : ∃ a : Nat, p 8 0 * p 9 0 = a := ⟨(p 8 0 * p 9 0).toNat, by omega⟩
  have hm' : tlR (T0 (σ 10) 9) 0 p := hm
  have e0 := tl_W hm'
  have e1 := tl_H hm'
  have e2 := tl_L hm'
  have e3 : T0 (σ 10) 3 0 = s 2 0 := hT.1
  obtain ⟨v', h1, h2⟩ := z_Mcount_lp (N := N) (σ := gset σ 10 (T0 (σ 10))) (p := p) d hN (by rw [gset_at]; exact hm) hw hA (zI k) a 0 (by omega) (zI 0)
  rw [Int.natCast_zero] at h1
  have h2' := fun h3 : 3 ≤ k => h2 k ⟨hk, h3⟩ rfl rfl
  unfold countA
  rw [hA, Int.toNat_natCast]
  by_cases c0 : k = 0
  · subst c0
    rw [if_pos rfl]
    unfold T0 at *
    simp (disch := first | omega | exact Nat.le_of_ble_eq_true rfl) only [e_M_count, s_M_count_0, s_M_count_1, s_M_count_2, s_M_count_5, s_M_count_6, s_M_count_7, s_M_count_8, s_M_count_10, s_M_count_11, s_M_count_14, s_M_count_17, s_M_count_18, s_M_count_19, s_M_count_22, s_M_count_23, s_M_count_24, s_M_count_25, s_M_count_26, s_M_count_27, s_M_count_28, s_M_count_29, s_M_count_32, s_M_count_33, s_M_count_36, s_M_count_37, s_M_count_38, s_M_count_39, s_M_count_42, s_M_count_45, s_M_count_46, s_M_count_49, s_M_count_50, s_M_count_53, s_M_count_54, s_M_count_55, s_M_count_58, s_M_count_59, s_M_count_60, s_M_count_63, s_M_count_64, s_M_count_67, s_M_count_68, s_M_count_69, s_M_count_72, s_M_count_73, s_M_count_74, s_M_count_77, s_M_count_78, s_M_count_81, s_M_count_82, s_M_count_83, s_M_count_86, s_M_count_87, s_M_count_88, s_M_count_89, s_M_count_92, s_M_count_95, s_M_count_96, s_M_count_99, s_M_count_100, s_M_count_102, s_M_count_105, s_M_count_106, s_M_count_109, s_M_count_112, s_M_count_113, Option.bind_some, Option.bind_none, Option.toList_some, Option.toList_none, List.cons_append, List.nil_append, if_true, if_false, rz_clr, true_or, or_true, z00, z11, bZ_eq0, bZ_eq1, nor_self, if_pos, if_neg, zI_add, zI_sub, zI_mul, zI_neg, zI_lt, zI_le, zI_eq, c_M, f_M_0, u_M_0, f_M_1, u_M_1, f_M_2, l_M_2, r_M_2, w_M_2, f_M_3, u_M_3, f_M_4, u_M_4, f_M_5, u_M_5, f_M_6, u_M_6, f_M_7, u_M_7, f_M_8, u_M_8, f_M_9, l_M_9, r_M_9, w_M_9, f_M_10, l_M_10, r_M_10, w_M_10, f_M_11, l_M_11, r_M_11, w_M_11, f_M_12, l_M_12, r_M_12, w_M_12, f_M_13, l_M_13, r_M_13, w_M_13, f_M_14, l_M_14, r_M_14, w_M_14, f_M_15, l_M_15, r_M_15, w_M_15, f_M_16, l_M_16, r_M_16, w_M_16, f_M_17, l_M_17, r_M_17, w_M_17, f_M_18, l_M_18, r_M_18, w_M_18, sset_eq, gset_at, gset_gset, gset_ne, pset_eq, pset_ne, h1, e0]
  · rw [if_neg c0]
    by_cases c1 : k = 1
    · subst c1
      rw [if_pos rfl]
      unfold T0 at *
      simp (disch := first | omega | exact Nat.le_of_ble_eq_true rfl) only [e_M_count, s_M_count_0, s_M_count_1, s_M_count_2, s_M_count_5, s_M_count_6, s_M_count_7, s_M_count_8, s_M_count_10, s_M_count_11, s_M_count_14, s_M_count_17, s_M_count_18, s_M_count_19, s_M_count_22, s_M_count_23, s_M_count_24, s_M_count_25, s_M_count_26, s_M_count_27, s_M_count_28, s_M_count_29, s_M_count_32, s_M_count_33, s_M_count_36, s_M_count_37, s_M_count_38, s_M_count_39, s_M_count_42, s_M_count_45, s_M_count_46, s_M_count_49, s_M_count_50, s_M_count_53, s_M_count_54, s_M_count_55, s_M_count_58, s_M_count_59, s_M_count_60, s_M_count_63, s_M_count_64, s_M_count_67, s_M_count_68, s_M_count_69, s_M_count_72, s_M_count_73, s_M_count_74, s_M_count_77, s_M_count_78, s_M_count_81, s_M_count_82, s_M_count_83, s_M_count_86, s_M_count_87, s_M_count_88, s_M_count_89, s_M_count_92, s_M_count_95, s_M_count_96, s_M_count_99, s_M_count_100, s_M_count_102, s_M_count_105, s_M_count_106, s_M_count_109, s_M_count_112, s_M_count_113, Option.bind_some, Option.bind_none, Option.toList_some, Option.toList_none, List.cons_append, List.nil_append, if_true, if_false, rz_clr, true_or, or_true, z00, z11, bZ_eq0, bZ_eq1, nor_self, if_pos, if_neg, zI_add, zI_sub, zI_mul, zI_neg, zI_lt, zI_le, zI_eq, c_M, f_M_0, u_M_0, f_M_1, u_M_1, f_M_2, l_M_2, r_M_2, w_M_2, f_M_3, u_M_3, f_M_4, u_M_4, f_M_5, u_M_5, f_M_6, u_M_6, f_M_7, u_M_7, f_M_8, u_M_8, f_M_9, l_M_9, r_M_9, w_M_9, f_M_10, l_M_10, r_M_10, w_M_10, f_M_11, l_M_11, r_M_11, w_M_11, f_M_12, l_M_12, r_M_12, w_M_12, f_M_13, l_M_13, r_M_13, w_M_13, f_M_14, l_M_14, r_M_14, w_M_14, f_M_15, l_M_15, r_M_15, w_M_15, f_M_16, l_M_16, r_M_16, w_M_16, f_M_17, l_M_17, r_M_17, w_M_17, f_M_18, l_M_18, r_M_18, w_M_18, sset_eq, gset_at, gset_gset, gset_ne, pset_eq, pset_ne, h1, e1]
    · rw [if_neg c1]
      by_cases c2 : k = 2
      · subst c2
        rw [if_pos rfl]
        unfold T0 at *
        simp (disch := first | omega | exact Nat.le_of_ble_eq_true rfl) only [e_M_count, s_M_count_0, s_M_count_1, s_M_count_2, s_M_count_5, s_M_count_6, s_M_count_7, s_M_count_8, s_M_count_10, s_M_count_11, s_M_count_14, s_M_count_17, s_M_count_18, s_M_count_19, s_M_count_22, s_M_count_23, s_M_count_24, s_M_count_25, s_M_count_26, s_M_count_27, s_M_count_28, s_M_count_29, s_M_count_32, s_M_count_33, s_M_count_36, s_M_count_37, s_M_count_38, s_M_count_39, s_M_count_42, s_M_count_45, s_M_count_46, s_M_count_49, s_M_count_50, s_M_count_53, s_M_count_54, s_M_count_55, s_M_count_58, s_M_count_59, s_M_count_60, s_M_count_63, s_M_count_64, s_M_count_67, s_M_count_68, s_M_count_69, s_M_count_72, s_M_count_73, s_M_count_74, s_M_count_77, s_M_count_78, s_M_count_81, s_M_count_82, s_M_count_83, s_M_count_86, s_M_count_87, s_M_count_88, s_M_count_89, s_M_count_92, s_M_count_95, s_M_count_96, s_M_count_99, s_M_count_100, s_M_count_102, s_M_count_105, s_M_count_106, s_M_count_109, s_M_count_112, s_M_count_113, Option.bind_some, Option.bind_none, Option.toList_some, Option.toList_none, List.cons_append, List.nil_append, if_true, if_false, rz_clr, true_or, or_true, z00, z11, bZ_eq0, bZ_eq1, nor_self, if_pos, if_neg, zI_add, zI_sub, zI_mul, zI_neg, zI_lt, zI_le, zI_eq, c_M, f_M_0, u_M_0, f_M_1, u_M_1, f_M_2, l_M_2, r_M_2, w_M_2, f_M_3, u_M_3, f_M_4, u_M_4, f_M_5, u_M_5, f_M_6, u_M_6, f_M_7, u_M_7, f_M_8, u_M_8, f_M_9, l_M_9, r_M_9, w_M_9, f_M_10, l_M_10, r_M_10, w_M_10, f_M_11, l_M_11, r_M_11, w_M_11, f_M_12, l_M_12, r_M_12, w_M_12, f_M_13, l_M_13, r_M_13, w_M_13, f_M_14, l_M_14, r_M_14, w_M_14, f_M_15, l_M_15, r_M_15, w_M_15, f_M_16, l_M_16, r_M_16, w_M_16, f_M_17, l_M_17, r_M_17, w_M_17, f_M_18, l_M_18, r_M_18, w_M_18, sset_eq, gset_at, gset_gset, gset_ne, pset_eq, pset_ne, h1, e2]
      · rw [if_neg c2]
        by_cases c3 : 3 ≤ k ∧ k ≤ 5
        · rw [if_pos c3, ← h2' c3.1]
          unfold T0 at *
          simp (disch := first | omega | exact Nat.le_of_ble_eq_true rfl) only [e_M_count, s_M_count_0, s_M_count_1, s_M_count_2, s_M_count_5, s_M_count_6, s_M_count_7, s_M_count_8, s_M_count_10, s_M_count_11, s_M_count_14, s_M_count_17, s_M_count_18, s_M_count_19, s_M_count_22, s_M_count_23, s_M_count_24, s_M_count_25, s_M_count_26, s_M_count_27, s_M_count_28, s_M_count_29, s_M_count_32, s_M_count_33, s_M_count_36, s_M_count_37, s_M_count_38, s_M_count_39, s_M_count_42, s_M_count_45, s_M_count_46, s_M_count_49, s_M_count_50, s_M_count_53, s_M_count_54, s_M_count_55, s_M_count_58, s_M_count_59, s_M_count_60, s_M_count_63, s_M_count_64, s_M_count_67, s_M_count_68, s_M_count_69, s_M_count_72, s_M_count_73, s_M_count_74, s_M_count_77, s_M_count_78, s_M_count_81, s_M_count_82, s_M_count_83, s_M_count_86, s_M_count_87, s_M_count_88, s_M_count_89, s_M_count_92, s_M_count_95, s_M_count_96, s_M_count_99, s_M_count_100, s_M_count_102, s_M_count_105, s_M_count_106, s_M_count_109, s_M_count_112, s_M_count_113, Option.bind_some, Option.bind_none, Option.toList_some, Option.toList_none, List.cons_append, List.nil_append, if_true, if_false, rz_clr, true_or, or_true, z00, z11, bZ_eq0, bZ_eq1, nor_self, if_pos, if_neg, zI_add, zI_sub, zI_mul, zI_neg, zI_lt, zI_le, zI_eq, c_M, f_M_0, u_M_0, f_M_1, u_M_1, f_M_2, l_M_2, r_M_2, w_M_2, f_M_3, u_M_3, f_M_4, u_M_4, f_M_5, u_M_5, f_M_6, u_M_6, f_M_7, u_M_7, f_M_8, u_M_8, f_M_9, l_M_9, r_M_9, w_M_9, f_M_10, l_M_10, r_M_10, w_M_10, f_M_11, l_M_11, r_M_11, w_M_11, f_M_12, l_M_12, r_M_12, w_M_12, f_M_13, l_M_13, r_M_13, w_M_13, f_M_14, l_M_14, r_M_14, w_M_14, f_M_15, l_M_15, r_M_15, w_M_15, f_M_16, l_M_16, r_M_16, w_M_16, f_M_17, l_M_17, r_M_17, w_M_17, f_M_18, l_M_18, r_M_18, w_M_18, sset_eq, gset_at, gset_gset, gset_ne, pset_eq, pset_ne, h1, z_Min, bZ_pos c3]
        · rw [if_neg c3]
          by_cases c6 : k = 6
          · subst c6
            rw [if_pos rfl]
            unfold T0 at *
            simp (disch := first | omega | exact Nat.le_of_ble_eq_true rfl) only [e_M_count, s_M_count_0, s_M_count_1, s_M_count_2, s_M_count_5, s_M_count_6, s_M_count_7, s_M_count_8, s_M_count_10, s_M_count_11, s_M_count_14, s_M_count_17, s_M_count_18, s_M_count_19, s_M_count_22, s_M_count_23, s_M_count_24, s_M_count_25, s_M_count_26, s_M_count_27, s_M_count_28, s_M_count_29, s_M_count_32, s_M_count_33, s_M_count_36, s_M_count_37, s_M_count_38, s_M_count_39, s_M_count_42, s_M_count_45, s_M_count_46, s_M_count_49, s_M_count_50, s_M_count_53, s_M_count_54, s_M_count_55, s_M_count_58, s_M_count_59, s_M_count_60, s_M_count_63, s_M_count_64, s_M_count_67, s_M_count_68, s_M_count_69, s_M_count_72, s_M_count_73, s_M_count_74, s_M_count_77, s_M_count_78, s_M_count_81, s_M_count_82, s_M_count_83, s_M_count_86, s_M_count_87, s_M_count_88, s_M_count_89, s_M_count_92, s_M_count_95, s_M_count_96, s_M_count_99, s_M_count_100, s_M_count_102, s_M_count_105, s_M_count_106, s_M_count_109, s_M_count_112, s_M_count_113, Option.bind_some, Option.bind_none, Option.toList_some, Option.toList_none, List.cons_append, List.nil_append, if_true, if_false, rz_clr, true_or, or_true, z00, z11, bZ_eq0, bZ_eq1, nor_self, if_pos, if_neg, zI_add, zI_sub, zI_mul, zI_neg, zI_lt, zI_le, zI_eq, c_M, f_M_0, u_M_0, f_M_1, u_M_1, f_M_2, l_M_2, r_M_2, w_M_2, f_M_3, u_M_3, f_M_4, u_M_4, f_M_5, u_M_5, f_M_6, u_M_6, f_M_7, u_M_7, f_M_8, u_M_8, f_M_9, l_M_9, r_M_9, w_M_9, f_M_10, l_M_10, r_M_10, w_M_10, f_M_11, l_M_11, r_M_11, w_M_11, f_M_12, l_M_12, r_M_12, w_M_12, f_M_13, l_M_13, r_M_13, w_M_13, f_M_14, l_M_14, r_M_14, w_M_14, f_M_15, l_M_15, r_M_15, w_M_15, f_M_16, l_M_16, r_M_16, w_M_16, f_M_17, l_M_17, r_M_17, w_M_17, f_M_18, l_M_18, r_M_18, w_M_18, sset_eq, gset_at, gset_gset, gset_ne, pset_eq, pset_ne, h1, z_Min, bZ_neg c3, e3]
          · rw [if_neg c6]
            unfold T0 at *
            simp (disch := first | omega | exact Nat.le_of_ble_eq_true rfl) only [e_M_count, s_M_count_0, s_M_count_1, s_M_count_2, s_M_count_5, s_M_count_6, s_M_count_7, s_M_count_8, s_M_count_10, s_M_count_11, s_M_count_14, s_M_count_17, s_M_count_18, s_M_count_19, s_M_count_22, s_M_count_23, s_M_count_24, s_M_count_25, s_M_count_26, s_M_count_27, s_M_count_28, s_M_count_29, s_M_count_32, s_M_count_33, s_M_count_36, s_M_count_37, s_M_count_38, s_M_count_39, s_M_count_42, s_M_count_45, s_M_count_46, s_M_count_49, s_M_count_50, s_M_count_53, s_M_count_54, s_M_count_55, s_M_count_58, s_M_count_59, s_M_count_60, s_M_count_63, s_M_count_64, s_M_count_67, s_M_count_68, s_M_count_69, s_M_count_72, s_M_count_73, s_M_count_74, s_M_count_77, s_M_count_78, s_M_count_81, s_M_count_82, s_M_count_83, s_M_count_86, s_M_count_87, s_M_count_88, s_M_count_89, s_M_count_92, s_M_count_95, s_M_count_96, s_M_count_99, s_M_count_100, s_M_count_102, s_M_count_105, s_M_count_106, s_M_count_109, s_M_count_112, s_M_count_113, Option.bind_some, Option.bind_none, Option.toList_some, Option.toList_none, List.cons_append, List.nil_append, if_true, if_false, rz_clr, true_or, or_true, z00, z11, bZ_eq0, bZ_eq1, nor_self, if_pos, if_neg, zI_add, zI_sub, zI_mul, zI_neg, zI_lt, zI_le, zI_eq, c_M, f_M_0, u_M_0, f_M_1, u_M_1, f_M_2, l_M_2, r_M_2, w_M_2, f_M_3, u_M_3, f_M_4, u_M_4, f_M_5, u_M_5, f_M_6, u_M_6, f_M_7, u_M_7, f_M_8, u_M_8, f_M_9, l_M_9, r_M_9, w_M_9, f_M_10, l_M_10, r_M_10, w_M_10, f_M_11, l_M_11, r_M_11, w_M_11, f_M_12, l_M_12, r_M_12, w_M_12, f_M_13, l_M_13, r_M_13, w_M_13, f_M_14, l_M_14, r_M_14, w_M_14, f_M_15, l_M_15, r_M_15, w_M_15, f_M_16, l_M_16, r_M_16, w_M_16, f_M_17, l_M_17, r_M_17, w_M_17, f_M_18, l_M_18, r_M_18, w_M_18, sset_eq, gset_at, gset_gset, gset_ne, pset_eq, pset_ne, h1, z_Min, bZ_neg c3]
end MJ
