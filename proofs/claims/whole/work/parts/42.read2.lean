-- the script's reading: a token taken
section RF
variable {N g : Nat} {σ : zS}
theorem SRD_of {s p : zP} (ht : TI s) (hi : II s p) (hb : s 7 0 ≠ -9) : SRD s p := by
  obtain ⟨ht1, ht2, ht3⟩ := ht
  rcases hi with hi | ⟨hk, hi, hi4⟩
  · exact absurd hi hb
  refine ⟨ht2, ht3, fun e e2 => ?_⟩
  have b := hi 1 (by omega)
  rw [bd_5 (Or.inl e)] at b
  have := ht2 1 (by decide)
  omega
theorem bZ_dec (P : Prop) [Decidable P] : bZ P = if decide P = true then 1 else 0 := by
  unfold bZ
  by_cases c : P
  · rw [if_pos c, if_pos (decide_eq_true c)]
  · rw [if_neg c, if_neg (fun z => c (of_decide_eq_true z))]
theorem z_isAllowed (d : Nat) (h1 : 7 ≤ g) (h2 : g ≤ 9) (hN : 48 ≤ N) (hw : wfP (σ g)) (hs : SRD (σ 1) (σ g)) (hk : 0 ≤ σ 1 7 0 ∧ σ 1 7 0 ≤ 8) {n : Int} (hn : 0 ≤ n ∧ n ≤ 100) : rz_dM (d + 3) iS_isAllowed [.ref (bs 1), .ref (bs g), .int (zI n)] (wOf N σ) = some (some (.int (zI (if alB (σ 1) (σ g) n = true then 1 else 0))), wOf N σ) := by
  rcases item_cases hk with e | (e | e | e) | e | e | e | e | e
  · rw [alB_0 e, ← bZ_dec]
    exact z_isAllowed0 d h1 h2 hN hs hn e
  · rw [alB_1 (Or.inl e), ← bZ_dec]
    exact z_isAllowed1 d h1 h2 hN hw hs hn e
  · rw [alB_1 (Or.inr (Or.inl e)), ← bZ_dec]
    exact z_isAllowed2 d h1 h2 hN hw hs hn e
  · rw [alB_1 (Or.inr (Or.inr e)), ← bZ_dec]
    exact z_isAllowed3 d h1 h2 hN hw hs hn e
  · rw [alB_4 e, ← bZ_dec]
    obtain ⟨b, hb, h⟩ := z_isAllowed4 (N := N) (g := g) (σ := σ) d h1 h2 hN hs hn e
    rcases hb with ⟨rfl, hb⟩ | ⟨rfl, hb⟩
    · rw [bZ_pos hb]; exact h
    · rw [bZ_neg hb]; exact h
  · rw [alB_5 e, ← bZ_dec]
    obtain ⟨b, hb, h⟩ := z_isAllowed5 (N := N) (g := g) (σ := σ) d h1 h2 hN hw hs hn e
    rcases hb with ⟨rfl, hb⟩ | ⟨rfl, hb⟩
    · rw [bZ_pos hb]; exact h
    · rw [bZ_neg hb]; exact h
  · rw [alB_6 e, ← bZ_dec]
    exact z_isAllowed6 d h1 h2 hN hw hs hn e
  · rw [alB_7 e, ← bZ_dec]
    exact z_isAllowed7 d h1 h2 hN hw hs hn e
  · rw [alB_8 e, ← bZ_dec]
    exact z_isAllowed8 d h1 h2 hN hw hs hn e
/-- a token taken: whether it is, the script and the draft behind it -/
def isT (s p : zP) : Bool × zP × zP :=
  if s 7 0 = -9 then (if s 5 0 = 0 ∧ ¬ bgN s p then (decide (s 6 0 ≠ -9), bgW s, p) else (false, s, p))
  else if s 5 0 = 1 then (if s 9 0 < 9 ∧ alB s p (s 6 0) = true then (true, nmW s, p) else (false, s, p))
  else if s 5 0 = 2 ∧ enB s = true then (true, edW s, apP s p) else (false, s, p)
theorem z_isTaken (d : Nat) (h1 : 7 ≤ g) (h2 : g ≤ 9) (hN : 48 ≤ N) (ht : TI (σ 1)) (hK : KI (σ 1)) (h8 : 0 ≤ σ 1 8 0 ∧ σ 1 8 0 ≤ 300) (hw : wfP (σ g)) (hi : II (σ 1) (σ g)) : rz_dM (d + 5) iS_isTaken [.ref (bs 1), .ref (bs g)] (wOf N σ) = some (some (.int (zI (bZ ((isT (σ 1) (σ g)).1 = true)))), wOf N (gset (gset σ g (isT (σ 1) (σ g)).2.2) 1 (isT (σ 1) (σ g)).2.1)) := by
  obtain ⟨k1, k2, k3⟩ := hK
  have hg1 : g ≠ 1 := by omega
  have hg2 : 1 ≠ g := by omega
  unfold isT
  by_cases c : σ 1 7 0 = -9
  · rw [if_pos c]
    by_cases c5 : σ 1 5 0 = 0
    · have hv := k2 c5
      by_cases cn : bgN (σ 1) (σ g)
      · rw [if_neg (fun z => z.2 cn), bZ_neg Bool.false_ne_true]
        have hB := z_isBegunN (N := N) (g := g) (σ := σ) (d + 3) h1 h2 hN hw (by omega) h8 cn
        simp (disch := first | omega | exact Nat.le_of_ble_eq_true rfl) only [e_S_isTaken, s_S_isTaken_0, s_S_isTaken_1, s_S_isTaken_4, s_S_isTaken_6, s_S_isTaken_9, s_S_isTaken_10, s_S_isTaken_13, s_S_isTaken_16, s_S_isTaken_17, s_S_isTaken_18, s_S_isTaken_21, s_S_isTaken_24, s_S_isTaken_25, s_S_isTaken_28, s_S_isTaken_29, s_S_isTaken_30, s_S_isTaken_31, s_S_isTaken_34, s_S_isTaken_35, s_S_isTaken_38, s_S_isTaken_39, s_S_isTaken_40, s_S_isTaken_43, s_S_isTaken_44, s_S_isTaken_45, s_S_isTaken_48, s_S_isTaken_49, s_S_isTaken_52, s_S_isTaken_53, s_S_isTaken_54, s_S_isTaken_57, s_S_isTaken_60, s_S_isTaken_61, s_S_isTaken_64, s_S_isTaken_65, Option.bind_some, Option.bind_none, Option.toList_some, Option.toList_none, List.cons_append, List.nil_append, if_true, if_false, rz_clr, true_or, or_true, z00, z11, bZ_eq0, bZ_eq1, nor_self, if_pos, if_neg, zI_add, zI_sub, zI_mul, zI_neg, zI_lt, zI_le, zI_eq, c_S, f_S_0, l_S_0, r_S_0, w_S_0, f_S_1, l_S_1, r_S_1, w_S_1, f_S_2, u_S_2, f_S_3, u_S_3, f_S_4, u_S_4, f_S_5, u_S_5, f_S_6, u_S_6, f_S_7, u_S_7, f_S_8, u_S_8, f_S_9, u_S_9, c, c5, hB, gset_self]
      · rw [if_pos ⟨c5, cn⟩]
        have hB := z_isBegun (N := N) (g := g) (σ := σ) (d + 3) h1 h2 hN hw (by omega) h8 cn
        by_cases cv : σ 1 6 0 = -9
        · rw [bZ_neg (fun z => z cv)] at hB
          rw [bZ_neg (by rw [decide_eq_true_eq]; exact fun z => z cv)]
          simp (disch := first | omega | exact Nat.le_of_ble_eq_true rfl) only [e_S_isTaken, s_S_isTaken_0, s_S_isTaken_1, s_S_isTaken_4, s_S_isTaken_6, s_S_isTaken_9, s_S_isTaken_10, s_S_isTaken_13, s_S_isTaken_16, s_S_isTaken_17, s_S_isTaken_18, s_S_isTaken_21, s_S_isTaken_24, s_S_isTaken_25, s_S_isTaken_28, s_S_isTaken_29, s_S_isTaken_30, s_S_isTaken_31, s_S_isTaken_34, s_S_isTaken_35, s_S_isTaken_38, s_S_isTaken_39, s_S_isTaken_40, s_S_isTaken_43, s_S_isTaken_44, s_S_isTaken_45, s_S_isTaken_48, s_S_isTaken_49, s_S_isTaken_52, s_S_isTaken_53, s_S_isTaken_54, s_S_isTaken_57, s_S_isTaken_60, s_S_isTaken_61, s_S_isTaken_64, s_S_isTaken_65, Option.bind_some, Option.bind_none, Option.toList_some, Option.toList_none, List.cons_append, List.nil_append, if_true, if_false, rz_clr, true_or, or_true, z00, z11, bZ_eq0, bZ_eq1, nor_self, if_pos, if_neg, zI_add, zI_sub, zI_mul, zI_neg, zI_lt, zI_le, zI_eq, c_S, f_S_0, l_S_0, r_S_0, w_S_0, f_S_1, l_S_1, r_S_1, w_S_1, f_S_2, u_S_2, f_S_3, u_S_3, f_S_4, u_S_4, f_S_5, u_S_5, f_S_6, u_S_6, f_S_7, u_S_7, f_S_8, u_S_8, f_S_9, u_S_9, c, c5, hB, gset_self]
        · rw [bZ_pos cv] at hB
          rw [bZ_pos (by rw [decide_eq_true_eq]; exact cv)]
          simp (disch := first | omega | exact Nat.le_of_ble_eq_true rfl) only [e_S_isTaken, s_S_isTaken_0, s_S_isTaken_1, s_S_isTaken_4, s_S_isTaken_6, s_S_isTaken_9, s_S_isTaken_10, s_S_isTaken_13, s_S_isTaken_16, s_S_isTaken_17, s_S_isTaken_18, s_S_isTaken_21, s_S_isTaken_24, s_S_isTaken_25, s_S_isTaken_28, s_S_isTaken_29, s_S_isTaken_30, s_S_isTaken_31, s_S_isTaken_34, s_S_isTaken_35, s_S_isTaken_38, s_S_isTaken_39, s_S_isTaken_40, s_S_isTaken_43, s_S_isTaken_44, s_S_isTaken_45, s_S_isTaken_48, s_S_isTaken_49, s_S_isTaken_52, s_S_isTaken_53, s_S_isTaken_54, s_S_isTaken_57, s_S_isTaken_60, s_S_isTaken_61, s_S_isTaken_64, s_S_isTaken_65, Option.bind_some, Option.bind_none, Option.toList_some, Option.toList_none, List.cons_append, List.nil_append, if_true, if_false, rz_clr, true_or, or_true, z00, z11, bZ_eq0, bZ_eq1, nor_self, if_pos, if_neg, zI_add, zI_sub, zI_mul, zI_neg, zI_lt, zI_le, zI_eq, c_S, f_S_0, l_S_0, r_S_0, w_S_0, f_S_1, l_S_1, r_S_1, w_S_1, f_S_2, u_S_2, f_S_3, u_S_3, f_S_4, u_S_4, f_S_5, u_S_5, f_S_6, u_S_6, f_S_7, u_S_7, f_S_8, u_S_8, f_S_9, u_S_9, c, c5, hB, gset_self]
    · rw [if_neg (fun z => c5 z.1), bZ_neg Bool.false_ne_true]
      simp (disch := first | omega | exact Nat.le_of_ble_eq_true rfl) only [e_S_isTaken, s_S_isTaken_0, s_S_isTaken_1, s_S_isTaken_4, s_S_isTaken_6, s_S_isTaken_9, s_S_isTaken_10, s_S_isTaken_13, s_S_isTaken_16, s_S_isTaken_17, s_S_isTaken_18, s_S_isTaken_21, s_S_isTaken_24, s_S_isTaken_25, s_S_isTaken_28, s_S_isTaken_29, s_S_isTaken_30, s_S_isTaken_31, s_S_isTaken_34, s_S_isTaken_35, s_S_isTaken_38, s_S_isTaken_39, s_S_isTaken_40, s_S_isTaken_43, s_S_isTaken_44, s_S_isTaken_45, s_S_isTaken_48, s_S_isTaken_49, s_S_isTaken_52, s_S_isTaken_53, s_S_isTaken_54, s_S_isTaken_57, s_S_isTaken_60, s_S_isTaken_61, s_S_isTaken_64, s_S_isTaken_65, Option.bind_some, Option.bind_none, Option.toList_some, Option.toList_none, List.cons_append, List.nil_append, if_true, if_false, rz_clr, true_or, or_true, z00, z11, bZ_eq0, bZ_eq1, nor_self, if_pos, if_neg, zI_add, zI_sub, zI_mul, zI_neg, zI_lt, zI_le, zI_eq, c_S, f_S_0, l_S_0, r_S_0, w_S_0, f_S_1, l_S_1, r_S_1, w_S_1, f_S_2, u_S_2, f_S_3, u_S_3, f_S_4, u_S_4, f_S_5, u_S_5, f_S_6, u_S_6, f_S_7, u_S_7, f_S_8, u_S_8, f_S_9, u_S_9, c, c5, gset_self]
  · rw [if_neg c]
    have hk : 0 ≤ σ 1 7 0 ∧ σ 1 7 0 ≤ 8 := by
      rcases hi with hi | hi
      · exact absurd hi c
      · exact hi.1
    by_cases c5 : σ 1 5 0 = 1
    · rw [if_pos c5]
      have hn := z_numberTaken (N := N) (g := g) (σ := σ) d hN ht.2.2 (alB (σ 1) (σ g) (σ 1 6 0)) (fun _ => z_isAllowed d h1 h2 hN hw (SRD_of ht hi c) hk (k3 c5))
      by_cases ca : σ 1 9 0 < 9 ∧ alB (σ 1) (σ g) (σ 1 6 0) = true
      · rw [if_pos ca] at hn ⊢
        rw [bZ_pos rfl]
        simp (disch := first | omega | exact Nat.le_of_ble_eq_true rfl) only [e_S_isTaken, s_S_isTaken_0, s_S_isTaken_1, s_S_isTaken_4, s_S_isTaken_6, s_S_isTaken_9, s_S_isTaken_10, s_S_isTaken_13, s_S_isTaken_16, s_S_isTaken_17, s_S_isTaken_18, s_S_isTaken_21, s_S_isTaken_24, s_S_isTaken_25, s_S_isTaken_28, s_S_isTaken_29, s_S_isTaken_30, s_S_isTaken_31, s_S_isTaken_34, s_S_isTaken_35, s_S_isTaken_38, s_S_isTaken_39, s_S_isTaken_40, s_S_isTaken_43, s_S_isTaken_44, s_S_isTaken_45, s_S_isTaken_48, s_S_isTaken_49, s_S_isTaken_52, s_S_isTaken_53, s_S_isTaken_54, s_S_isTaken_57, s_S_isTaken_60, s_S_isTaken_61, s_S_isTaken_64, s_S_isTaken_65, Option.bind_some, Option.bind_none, Option.toList_some, Option.toList_none, List.cons_append, List.nil_append, if_true, if_false, rz_clr, true_or, or_true, z00, z11, bZ_eq0, bZ_eq1, nor_self, if_pos, if_neg, zI_add, zI_sub, zI_mul, zI_neg, zI_lt, zI_le, zI_eq, c_S, f_S_0, l_S_0, r_S_0, w_S_0, f_S_1, l_S_1, r_S_1, w_S_1, f_S_2, u_S_2, f_S_3, u_S_3, f_S_4, u_S_4, f_S_5, u_S_5, f_S_6, u_S_6, f_S_7, u_S_7, f_S_8, u_S_8, f_S_9, u_S_9, c, c5, hn, gset_self]
      · rw [if_neg ca] at hn ⊢
        rw [bZ_neg Bool.false_ne_true]
        simp (disch := first | omega | exact Nat.le_of_ble_eq_true rfl) only [e_S_isTaken, s_S_isTaken_0, s_S_isTaken_1, s_S_isTaken_4, s_S_isTaken_6, s_S_isTaken_9, s_S_isTaken_10, s_S_isTaken_13, s_S_isTaken_16, s_S_isTaken_17, s_S_isTaken_18, s_S_isTaken_21, s_S_isTaken_24, s_S_isTaken_25, s_S_isTaken_28, s_S_isTaken_29, s_S_isTaken_30, s_S_isTaken_31, s_S_isTaken_34, s_S_isTaken_35, s_S_isTaken_38, s_S_isTaken_39, s_S_isTaken_40, s_S_isTaken_43, s_S_isTaken_44, s_S_isTaken_45, s_S_isTaken_48, s_S_isTaken_49, s_S_isTaken_52, s_S_isTaken_53, s_S_isTaken_54, s_S_isTaken_57, s_S_isTaken_60, s_S_isTaken_61, s_S_isTaken_64, s_S_isTaken_65, Option.bind_some, Option.bind_none, Option.toList_some, Option.toList_none, List.cons_append, List.nil_append, if_true, if_false, rz_clr, true_or, or_true, z00, z11, bZ_eq0, bZ_eq1, nor_self, if_pos, if_neg, zI_add, zI_sub, zI_mul, zI_neg, zI_lt, zI_le, zI_eq, c_S, f_S_0, l_S_0, r_S_0, w_S_0, f_S_1, l_S_1, r_S_1, w_S_1, f_S_2, u_S_2, f_S_3, u_S_3, f_S_4, u_S_4, f_S_5, u_S_5, f_S_6, u_S_6, f_S_7, u_S_7, f_S_8, u_S_8, f_S_9, u_S_9, c, c5, hn, gset_self]
    · rw [if_neg c5]
      have hE := z_isEnded (N := N) (g := g) (σ := σ) d h1 h2 hN ht h8 hw hi c
      by_cases c2 : σ 1 5 0 = 2
      · by_cases ce : enB (σ 1) = true
        · rw [if_pos ce, bZ_pos ce] at hE
          rw [if_pos ⟨c2, ce⟩, bZ_pos rfl]
          simp (disch := first | omega | exact Nat.le_of_ble_eq_true rfl) only [e_S_isTaken, s_S_isTaken_0, s_S_isTaken_1, s_S_isTaken_4, s_S_isTaken_6, s_S_isTaken_9, s_S_isTaken_10, s_S_isTaken_13, s_S_isTaken_16, s_S_isTaken_17, s_S_isTaken_18, s_S_isTaken_21, s_S_isTaken_24, s_S_isTaken_25, s_S_isTaken_28, s_S_isTaken_29, s_S_isTaken_30, s_S_isTaken_31, s_S_isTaken_34, s_S_isTaken_35, s_S_isTaken_38, s_S_isTaken_39, s_S_isTaken_40, s_S_isTaken_43, s_S_isTaken_44, s_S_isTaken_45, s_S_isTaken_48, s_S_isTaken_49, s_S_isTaken_52, s_S_isTaken_53, s_S_isTaken_54, s_S_isTaken_57, s_S_isTaken_60, s_S_isTaken_61, s_S_isTaken_64, s_S_isTaken_65, Option.bind_some, Option.bind_none, Option.toList_some, Option.toList_none, List.cons_append, List.nil_append, if_true, if_false, rz_clr, true_or, or_true, z00, z11, bZ_eq0, bZ_eq1, nor_self, if_pos, if_neg, zI_add, zI_sub, zI_mul, zI_neg, zI_lt, zI_le, zI_eq, c_S, f_S_0, l_S_0, r_S_0, w_S_0, f_S_1, l_S_1, r_S_1, w_S_1, f_S_2, u_S_2, f_S_3, u_S_3, f_S_4, u_S_4, f_S_5, u_S_5, f_S_6, u_S_6, f_S_7, u_S_7, f_S_8, u_S_8, f_S_9, u_S_9, c, c2, hE, gset_self]
        · rw [if_neg ce, bZ_neg ce] at hE
          rw [if_neg (fun z => ce z.2), bZ_neg Bool.false_ne_true]
          simp (disch := first | omega | exact Nat.le_of_ble_eq_true rfl) only [e_S_isTaken, s_S_isTaken_0, s_S_isTaken_1, s_S_isTaken_4, s_S_isTaken_6, s_S_isTaken_9, s_S_isTaken_10, s_S_isTaken_13, s_S_isTaken_16, s_S_isTaken_17, s_S_isTaken_18, s_S_isTaken_21, s_S_isTaken_24, s_S_isTaken_25, s_S_isTaken_28, s_S_isTaken_29, s_S_isTaken_30, s_S_isTaken_31, s_S_isTaken_34, s_S_isTaken_35, s_S_isTaken_38, s_S_isTaken_39, s_S_isTaken_40, s_S_isTaken_43, s_S_isTaken_44, s_S_isTaken_45, s_S_isTaken_48, s_S_isTaken_49, s_S_isTaken_52, s_S_isTaken_53, s_S_isTaken_54, s_S_isTaken_57, s_S_isTaken_60, s_S_isTaken_61, s_S_isTaken_64, s_S_isTaken_65, Option.bind_some, Option.bind_none, Option.toList_some, Option.toList_none, List.cons_append, List.nil_append, if_true, if_false, rz_clr, true_or, or_true, z00, z11, bZ_eq0, bZ_eq1, nor_self, if_pos, if_neg, zI_add, zI_sub, zI_mul, zI_neg, zI_lt, zI_le, zI_eq, c_S, f_S_0, l_S_0, r_S_0, w_S_0, f_S_1, l_S_1, r_S_1, w_S_1, f_S_2, u_S_2, f_S_3, u_S_3, f_S_4, u_S_4, f_S_5, u_S_5, f_S_6, u_S_6, f_S_7, u_S_7, f_S_8, u_S_8, f_S_9, u_S_9, c, c2, hE, gset_self]
      · rw [if_neg (fun z => c2 z.1), bZ_neg Bool.false_ne_true]
        simp (disch := first | omega | exact Nat.le_of_ble_eq_true rfl) only [e_S_isTaken, s_S_isTaken_0, s_S_isTaken_1, s_S_isTaken_4, s_S_isTaken_6, s_S_isTaken_9, s_S_isTaken_10, s_S_isTaken_13, s_S_isTaken_16, s_S_isTaken_17, s_S_isTaken_18, s_S_isTaken_21, s_S_isTaken_24, s_S_isTaken_25, s_S_isTaken_28, s_S_isTaken_29, s_S_isTaken_30, s_S_isTaken_31, s_S_isTaken_34, s_S_isTaken_35, s_S_isTaken_38, s_S_isTaken_39, s_S_isTaken_40, s_S_isTaken_43, s_S_isTaken_44, s_S_isTaken_45, s_S_isTaken_48, s_S_isTaken_49, s_S_isTaken_52, s_S_isTaken_53, s_S_isTaken_54, s_S_isTaken_57, s_S_isTaken_60, s_S_isTaken_61, s_S_isTaken_64, s_S_isTaken_65, Option.bind_some, Option.bind_none, Option.toList_some, Option.toList_none, List.cons_append, List.nil_append, if_true, if_false, rz_clr, true_or, or_true, z00, z11, bZ_eq0, bZ_eq1, nor_self, if_pos, if_neg, zI_add, zI_sub, zI_mul, zI_neg, zI_lt, zI_le, zI_eq, c_S, f_S_0, l_S_0, r_S_0, w_S_0, f_S_1, l_S_1, r_S_1, w_S_1, f_S_2, u_S_2, f_S_3, u_S_3, f_S_4, u_S_4, f_S_5, u_S_5, f_S_6, u_S_6, f_S_7, u_S_7, f_S_8, u_S_8, f_S_9, u_S_9, c, c5, c2, gset_self]
end RF
section RG
/-- what the next token leaves as it is -/
theorem tkW_ne {s : zP} {len k : Nat} (hk : k ≠ 3 ∧ k ≠ 4 ∧ k ≠ 5 ∧ k ≠ 6) : tkW s len k = s k := by
  obtain ⟨k3, k4, k5, k6⟩ := hk
  unfold tkW wrdW numW tk0
  split
  · split
    · rw [pset_ne k6, pset_ne k5, pset_ne k3, pset_ne k4, pset_ne k3]
    · split
      · rw [pset_ne k6, pset_ne k5, pset_ne k3, pset_ne k4, pset_ne k3]
      · rw [pset_ne k5, pset_ne k3, pset_ne k4, pset_ne k3]
  · rw [pset_ne k3]
theorem TI_tk {s : zP} {len : Nat} (h : TI s) : TI (tkW s len) := by
  unfold TI SOK at h ⊢
  rw [tkW_ne (k := 2) (by decide), tkW_ne (k := 0) (by decide), tkW_ne (k := 1) (by decide), tkW_ne (k := 9) (by decide)]
  exact h
theorem II_tk {s p : zP} {len : Nat} (h : II s p) : II (tkW s len) p := by
  unfold II at h ⊢
  rw [tkW_ne (k := 7) (by decide), tkW_ne (k := 1) (by decide), tkW_ne (k := 9) (by decide)]
  exact h
theorem wdA_rg2 (b : Nat → Int) (t k : Nat) : wdA b t k 9 0 = -9 ∨ (0 ≤ wdA b t k 9 0 ∧ wdA b t k 9 0 ≤ 8) := by
  have h := wdA_rg b t k 9 0 (by decide)
  omega
theorem dvl_rg {b : Nat → Int} : ∀ (n p : Nat) (v : Int), (0 ≤ v ∧ v ≤ 100) → (∀ i, p ≤ i → i < p + n → 48 ≤ b i) → 0 ≤ dvl b n p v ∧ dvl b n p v ≤ 100 := by
  intro n
  induction n with
  | zero => intro p v hv _; exact hv
  | succ n ih =>
    intro p v hv hb
    rw [dvl]
    have := hb p (by omega) (by omega)
    exact ih (p + 1) _ (by omega) (fun i h1 h2 => hb i (by omega) (by omega))
theorem scn_all {P : Int → Bool} {b : Nat → Int} : ∀ (n p i : Nat), p ≤ i → i < p + scn P b n p → P (b i) = true := by
  intro n
  induction n with
  | zero => intro p i h1 h2; rw [scn] at h2; omega
  | succ n ih =>
    intro p i h1 h2
    rw [scn] at h2
    by_cases c : P (b p) = true
    · rw [if_pos c] at h2
      by_cases e : i = p
      · rw [e]; exact c
      · exact ih (p + 1) i (by omega) (by omega)
    · rw [if_neg c] at h2; omega
theorem tk_facts {s : zP} {len : Nat} (h3 : 0 ≤ s 3 0 ∧ s 3 0 ≤ len) (hq : tkP s len < len) : (s 3 0 < tkW s len 3 0 ∧ tkW s len 3 0 ≤ len) ∧ KI (tkW s len) ∧ tkW s len 4 0 = tkP s len := by
  have hpq : s 3 0 ≤ tkP s len := by unfold tkP; omega
  unfold tkW
  rw [if_pos hq]
  generalize tkP s len = q at *
  have e0 : tk0 s q 0 = s 0 := by unfold tk0; rw [pset_ne (by decide), pset_ne (by decide)]
  have e4 : tk0 s q 4 0 = q := by unfold tk0; rw [pset_eq]
  have hs1 : ∀ P : Int → Bool, P (s 0 q) = true → 1 ≤ scn P (s 0) (len - q) q ∧ scn P (s 0) (len - q) q ≤ len - q := by
    intro P hP
    refine ⟨?_, scn_le P (s 0) (len - q) q⟩
    obtain ⟨n, hn⟩ : ∃ n, len - q = n + 1 := ⟨len - q - 1, by omega⟩
    rw [hn, scn, if_pos hP]
    omega
  by_cases a : isLt (s 0 q) = true
  · rw [if_pos a]
    obtain ⟨hs, hs'⟩ := hs1 isLt a
    unfold wrdW KI
    rw [pset_ne (k' := 3) (by decide), pset_ne (k' := 3) (by decide), pset_eq, pset_eq, pset_ne (k' := 5) (by decide), pset_eq, pset_ne (k' := 4) (by decide), pset_ne (k' := 4) (by decide), pset_ne (k' := 4) (by decide), e0, e4]
    exact ⟨by omega, ⟨by decide, fun _ => wdA_rg2 _ _ _, fun z => absurd z (by decide)⟩, rfl⟩
  · rw [if_neg a]
    by_cases a2 : isDg (s 0 q) = true
    · rw [if_pos a2]
      obtain ⟨hs, hs'⟩ := hs1 isDg a2
      unfold numW KI
      rw [pset_ne (k' := 3) (by decide), pset_ne (k' := 3) (by decide), pset_eq, pset_eq, pset_ne (k' := 5) (by decide), pset_eq, pset_ne (k' := 4) (by decide), pset_ne (k' := 4) (by decide), pset_ne (k' := 4) (by decide), e0, e4]
      refine ⟨by omega, ⟨by decide, fun z => absurd z (by decide), fun _ => ?_⟩, rfl⟩
      have hd := dvl_rg (b := s 0) (scn isDg (s 0) (len - q) q) q 0 (by decide) (fun i i1 i2 => by
        have := scn_all (P := isDg) (b := s 0) (len - q) q i i1 i2
        unfold isDg at this
        rw [decide_eq_true_eq] at this
        exact this.1)
      split
      · decide
      · exact hd
    · rw [if_neg a2]
      unfold KI
      rw [pset_ne (k' := 3) (by decide), pset_eq, pset_eq, pset_ne (k' := 4) (by decide), pset_ne (k' := 4) (by decide), e4]
      refine ⟨by omega, ⟨by split <;> decide, fun z => ?_, fun z => ?_⟩, rfl⟩
      · split at z <;> exact absurd z (by decide)
      · split at z <;> exact absurd z (by decide)
end RG
