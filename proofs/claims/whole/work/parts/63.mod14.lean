-- the model: positions, what a step comes to
section MN
variable {N : Nat} {σ : zS} {p : zP} {la hm V : Nat → Int}
def posK (K : Nat) : Nat := 2 * (3 * (3 * (16 * cl K 0 + cl K 1) + lf K 0) + lf K 1) + tl K
theorem posK_lt {K : Nat} (h : vK p K) : posK K < 4608 := by
  have h0 := cl_lt K 0
  have h1 := cl_lt K 1
  have ht := tl_lt K
  obtain ⟨-, l0, l1, -, -⟩ := h
  unfold posK
  omega
theorem z_MpositionOf (d : Nat) (a b l r w : Int) (x : rz_W) : rz_dM (d + 1) iM_positionOf [.int (zI a), .int (zI b), .int (zI l), .int (zI r), .int (zI w)] x = some (some (.int (zI (2 * (3 * (3 * (16 * a + b) + l) + r) + w))), x) := by
  simp (disch := first | omega | exact Nat.le_of_ble_eq_true rfl) only [e_M_positionOf, s_M_positionOf_0, s_M_positionOf_1, s_M_positionOf_2, s_M_positionOf_3, s_M_positionOf_5, s_M_positionOf_6, s_M_positionOf_7, s_M_positionOf_8, s_M_positionOf_9, s_M_positionOf_10, s_M_positionOf_11, s_M_positionOf_12, s_M_positionOf_13, s_M_positionOf_14, s_M_positionOf_15, s_M_positionOf_16, s_M_positionOf_18, s_M_positionOf_19, Option.bind_some, Option.bind_none, Option.toList_some, Option.toList_none, List.cons_append, List.nil_append, if_true, if_false, rz_clr, true_or, or_true, z00, z11, bZ_eq0, bZ_eq1, nor_self, if_pos, if_neg, zI_add, zI_sub, zI_mul, zI_neg, zI_lt, zI_le, zI_eq]
theorem z_Mbetter (d : Nat) {a b : Int} (ha : rg a) (hb : rg b) (f : Bool) (x : rz_W) : rz_dM (d + 1) iM_better [.int (zI a), .int (zI b), .int (zI (bN f))] x = some (some (.int (zI (if f = true then max a b else min a b))), x) := by
  cases f with
  | true =>
    rw [if_pos rfl, show bN true = 1 from rfl]
    by_cases c : a ≤ b
    · rw [Int.max_eq_right c]
      simp (disch := first | omega | exact Nat.le_of_ble_eq_true rfl) only [e_M_better, s_M_better_0, s_M_better_1, s_M_better_2, s_M_better_3, s_M_better_6, s_M_better_7, s_M_better_10, s_M_better_11, s_M_better_14, s_M_better_15, s_M_better_18, s_M_better_19, Option.bind_some, Option.bind_none, Option.toList_some, Option.toList_none, List.cons_append, List.nil_append, if_true, if_false, rz_clr, true_or, or_true, z00, z11, bZ_eq0, bZ_eq1, nor_self, if_pos, if_neg, zI_add, zI_sub, zI_mul, zI_neg, zI_lt, zI_le, zI_eq]
    · rw [Int.max_eq_left (by omega)]
      simp (disch := first | omega | exact Nat.le_of_ble_eq_true rfl) only [e_M_better, s_M_better_0, s_M_better_1, s_M_better_2, s_M_better_3, s_M_better_6, s_M_better_7, s_M_better_10, s_M_better_11, s_M_better_14, s_M_better_15, s_M_better_18, s_M_better_19, Option.bind_some, Option.bind_none, Option.toList_some, Option.toList_none, List.cons_append, List.nil_append, if_true, if_false, rz_clr, true_or, or_true, z00, z11, bZ_eq0, bZ_eq1, nor_self, if_pos, if_neg, zI_add, zI_sub, zI_mul, zI_neg, zI_lt, zI_le, zI_eq]
  | false =>
    rw [if_neg Bool.false_ne_true, show bN false = 0 from rfl]
    by_cases c : a ≤ b
    · rw [Int.min_eq_left c]
      simp (disch := first | omega | exact Nat.le_of_ble_eq_true rfl) only [e_M_better, s_M_better_0, s_M_better_1, s_M_better_2, s_M_better_3, s_M_better_6, s_M_better_7, s_M_better_10, s_M_better_11, s_M_better_14, s_M_better_15, s_M_better_18, s_M_better_19, Option.bind_some, Option.bind_none, Option.toList_some, Option.toList_none, List.cons_append, List.nil_append, if_true, if_false, rz_clr, true_or, or_true, z00, z11, bZ_eq0, bZ_eq1, nor_self, if_pos, if_neg, zI_add, zI_sub, zI_mul, zI_neg, zI_lt, zI_le, zI_eq]
    · rw [Int.min_eq_right (by omega)]
      simp (disch := first | omega | exact Nat.le_of_ble_eq_true rfl) only [e_M_better, s_M_better_0, s_M_better_1, s_M_better_2, s_M_better_3, s_M_better_6, s_M_better_7, s_M_better_10, s_M_better_11, s_M_better_14, s_M_better_15, s_M_better_18, s_M_better_19, Option.bind_some, Option.bind_none, Option.toList_some, Option.toList_none, List.cons_append, List.nil_append, if_true, if_false, rz_clr, true_or, or_true, z00, z11, bZ_eq0, bZ_eq1, nor_self, if_pos, if_neg, zI_add, zI_sub, zI_mul, zI_neg, zI_lt, zI_le, zI_eq]
/-- what is known, and of which game -/
def MGQ (m p : zP) (la hm V : Nat → Int) : Prop := tlR (m 9) 0 p ∧ (∀ j : Nat, j < 2 → m 16 j = la j ∧ 0 ≤ la j ∧ la j < 3) ∧ (∀ j : Nat, j < 2 → m 15 j = hm j ∧ rg (hm j)) ∧ (∀ K, vK p K → m 14 (posK K) = V K) ∧ (∀ K, -1 ≤ V K ∧ V K ≤ 1)
theorem MGQ_sm {m m' : zP} (h : MGQ m p la hm V) (hs : sm [0, 10, 13, 17, 18] m m') : MGQ m' p la hm V := by
  unfold MGQ at h ⊢
  rw [hs 9 (by decide), hs 16 (by decide), hs 15 (by decide), hs 14 (by decide)]
  exact h
/-- what comes of a man's step to a cell -/
def dn1 (p : zP) (hm V : Nat → Int) (K t : Nat) : Int :=
  if ftP p t (hm (tm K)) = 3 then wtK K
  else if ftP p t (hm (tm K)) = 2 then -wtK K
  else if ftP p t (hm (tm K)) = 1 then V (wcK K (tm K) t)
  else V (flipT (wcK K (tm K) t))
theorem dn1_rg (hV : ∀ K, -1 ≤ V K ∧ V K ≤ 1) (K t : Nat) : -1 ≤ dn1 p hm V K t ∧ dn1 p hm V K t ≤ 1 := by
  have hw := wtK_pm K
  unfold dn1
  split
  · omega
  · split
    · omega
    · split
      · exact hV _
      · exact hV _
theorem dnK_1 {K k t : Nat} (h : leadK p la K k = t) : dnK p la hm V K k = dn1 p hm V K t := by
  unfold dnK dn1
  rw [h, if_neg (by omega), Int.toNat_natCast]
theorem tm_c {K : Nat} : (tm K = 0 ∧ tl K = 1 ∧ wtK K = -1) ∨ (tm K = 1 ∧ tl K = 0 ∧ wtK K = 1) := by
  have := tl_lt K
  unfold tm wtK
  have : tl K = 0 ∨ tl K = 1 := by omega
  rcases this with e | e <;> rw [e]
  · right; exact ⟨rfl, rfl, rfl⟩
  · left; exact ⟨rfl, rfl, rfl⟩
theorem z_Mafter (d : Nat) (hN : 60 ≤ N) (hw : wfP p) (hQ : MGQ (σ 10) p la hm V) {K t : Nat} (hK : vK p K) (ht : (t : Int) < p 8 0 * p 9 0) : rz_dM (d + 2) iM_after [.ref (bs 10), .int (zI (tm K : Nat)), .int (zI t), .int (zI (cl K (1 - tm K) : Nat)), .int (zI (lf K (tm K) : Nat)), .int (zI (lf K (1 - tm K) : Nat)), .int (zI (tl K : Nat))] (wOf N σ) = some (some (.int (zI (dn1 p hm V K t))), wOf N σ) := by
  have ha := wfP_area hw
  obtain ⟨hm9, h16, h15, h14, hV⟩ := hQ
  have htm := tm_lt K
  obtain ⟨f1, f2, f3, f4⟩ := wc_f hK.1 htm (show t < 16 by omega)
  have hv1 := vK_wc hK htm (show t < 16 by omega) ht
  have hv2 := vK_flip hv1
  obtain ⟨g1, g2, g3⟩ := flip_f hv1.1
  have p1 := posK_lt hv1
  have p2 := posK_lt hv2
  have hk := hw.2.1 t (by omega)
  have ek := tl_cell hm9 (i := 3 + (t : Int)) (by omega)
  rw [show 3 + (t : Int) - 3 = t by omega, Int.toNat_natCast] at ek
  obtain ⟨eh, hh⟩ := h15 (tm K) htm
  have e1 := h14 _ hv1
  have e2 := h14 _ hv2
  have hpo := fun a b l r w x => z_MpositionOf d a b l r w x
  unfold dn1
  rcases tm_c (K := K) with ⟨c1, c2, c3⟩ | ⟨c1, c2, c3⟩
  · have x1 : posK (wcK K (tm K) t) = (2 * (3 * (3 * (16 * (t : Int) + (cl K 1 : Nat)) + (lf K 0 : Nat)) + (lf K 1 : Nat)) + 1).toNat := by
      rw [c1] at f1 f2 f3 f4 ⊢
      simp only [Nat.sub_zero, Nat.sub_self] at f2
      unfold posK
      rw [f1, f2, f3, f3, f4, c2]
      omega
    have x2 : posK (flipT (wcK K (tm K) t)) = (2 * (3 * (3 * (16 * (t : Int) + (cl K 1 : Nat)) + (lf K 0 : Nat)) + (lf K 1 : Nat)) + (1 - 1)).toNat := by
      rw [c1] at f1 f2 f3 f4 g1 g2 g3 ⊢
      simp only [Nat.sub_zero, Nat.sub_self] at f2
      unfold posK
      rw [g1, g1, g2, g2, g3, f1, f2, f3, f3, f4, c2]
      omega
    rw [x1] at e1 p1
    rw [x2] at e2 p2
    rw [c1] at eh hh e1 e2 ⊢
    rw [c2, c3]
    rw [show (1 : Nat) - 0 = 1 from rfl] at *
    generalize lf K 0 = l0 at *
    generalize lf K 1 = l1 at *
    generalize cl K 1 = c9 at *
    by_cases a1 : p 0 t = 1
    · have hf : ftP p t (hm 0) = 3 := by unfold ftP; rw [Int.toNat_natCast, if_pos a1]
      rw [if_pos hf]
      simp (disch := first | omega | exact Nat.le_of_ble_eq_true rfl) only [e_M_after, s_M_after_0, s_M_after_1, s_M_after_4, s_M_after_5, s_M_after_6, s_M_after_7, s_M_after_8, s_M_after_10, s_M_after_12, s_M_after_13, s_M_after_16, s_M_after_17, s_M_after_20, s_M_after_21, s_M_after_24, s_M_after_25, s_M_after_26, s_M_after_27, s_M_after_28, s_M_after_31, s_M_after_32, s_M_after_33, s_M_after_36, s_M_after_37, s_M_after_40, s_M_after_41, s_M_after_44, s_M_after_45, s_M_after_46, s_M_after_48, s_M_after_49, s_M_after_52, s_M_after_54, s_M_after_57, s_M_after_58, s_M_after_60, s_M_after_61, s_M_after_63, s_M_after_64, s_M_after_67, s_M_after_68, s_M_after_71, s_M_after_72, s_M_after_73, s_M_after_75, s_M_after_77, s_M_after_79, s_M_after_82, s_M_after_85, s_M_after_86, s_M_after_87, s_M_after_89, s_M_after_91, s_M_after_93, s_M_after_96, s_M_after_97, Option.bind_some, Option.bind_none, Option.toList_some, Option.toList_none, List.cons_append, List.nil_append, if_true, if_false, rz_clr, true_or, or_true, z00, z11, bZ_eq0, bZ_eq1, nor_self, if_pos, if_neg, zI_add, zI_sub, zI_mul, zI_neg, zI_lt, zI_le, zI_eq, c_M, f_M_0, u_M_0, f_M_1, u_M_1, f_M_2, l_M_2, r_M_2, w_M_2, f_M_3, u_M_3, f_M_4, u_M_4, f_M_5, u_M_5, f_M_6, u_M_6, f_M_7, u_M_7, f_M_8, u_M_8, f_M_9, l_M_9, r_M_9, w_M_9, f_M_10, l_M_10, r_M_10, w_M_10, f_M_11, l_M_11, r_M_11, w_M_11, f_M_12, l_M_12, r_M_12, w_M_12, f_M_13, l_M_13, r_M_13, w_M_13, f_M_14, l_M_14, r_M_14, w_M_14, f_M_15, l_M_15, r_M_15, w_M_15, f_M_16, l_M_16, r_M_16, w_M_16, f_M_17, l_M_17, r_M_17, w_M_17, f_M_18, l_M_18, r_M_18, w_M_18, ek, a1, Int.natCast_zero]
    · by_cases a2 : (t : Int) = hm 0
      · have hf : ftP p t (hm 0) = 2 := by unfold ftP; rw [Int.toNat_natCast, if_neg a1, if_pos a2]
        rw [hf, if_neg (by decide), if_pos rfl]
        have eh' : σ 10 15 ((0 : Nat) : Int).toNat = hm 0 := eh
        simp (disch := first | omega | exact Nat.le_of_ble_eq_true rfl) only [e_M_after, s_M_after_0, s_M_after_1, s_M_after_4, s_M_after_5, s_M_after_6, s_M_after_7, s_M_after_8, s_M_after_10, s_M_after_12, s_M_after_13, s_M_after_16, s_M_after_17, s_M_after_20, s_M_after_21, s_M_after_24, s_M_after_25, s_M_after_26, s_M_after_27, s_M_after_28, s_M_after_31, s_M_after_32, s_M_after_33, s_M_after_36, s_M_after_37, s_M_after_40, s_M_after_41, s_M_after_44, s_M_after_45, s_M_after_46, s_M_after_48, s_M_after_49, s_M_after_52, s_M_after_54, s_M_after_57, s_M_after_58, s_M_after_60, s_M_after_61, s_M_after_63, s_M_after_64, s_M_after_67, s_M_after_68, s_M_after_71, s_M_after_72, s_M_after_73, s_M_after_75, s_M_after_77, s_M_after_79, s_M_after_82, s_M_after_85, s_M_after_86, s_M_after_87, s_M_after_89, s_M_after_91, s_M_after_93, s_M_after_96, s_M_after_97, Option.bind_some, Option.bind_none, Option.toList_some, Option.toList_none, List.cons_append, List.nil_append, if_true, if_false, rz_clr, true_or, or_true, z00, z11, bZ_eq0, bZ_eq1, nor_self, if_pos, if_neg, zI_add, zI_sub, zI_mul, zI_neg, zI_lt, zI_le, zI_eq, c_M, f_M_0, u_M_0, f_M_1, u_M_1, f_M_2, l_M_2, r_M_2, w_M_2, f_M_3, u_M_3, f_M_4, u_M_4, f_M_5, u_M_5, f_M_6, u_M_6, f_M_7, u_M_7, f_M_8, u_M_8, f_M_9, l_M_9, r_M_9, w_M_9, f_M_10, l_M_10, r_M_10, w_M_10, f_M_11, l_M_11, r_M_11, w_M_11, f_M_12, l_M_12, r_M_12, w_M_12, f_M_13, l_M_13, r_M_13, w_M_13, f_M_14, l_M_14, r_M_14, w_M_14, f_M_15, l_M_15, r_M_15, w_M_15, f_M_16, l_M_16, r_M_16, w_M_16, f_M_17, l_M_17, r_M_17, w_M_17, f_M_18, l_M_18, r_M_18, w_M_18, ek, eh']
        try rfl
      · have eh' : σ 10 15 ((0 : Nat) : Int).toNat = hm 0 := eh
        by_cases a3 : p 0 t = 2
        · have hf : ftP p t (hm 0) = 1 := by unfold ftP; rw [Int.toNat_natCast, if_neg a1, if_neg a2, if_pos a3]
          rw [hf, if_neg (by decide), if_neg (by decide), if_pos rfl, Int.natCast_one]
          simp (disch := first | omega | exact Nat.le_of_ble_eq_true rfl) only [e_M_after, s_M_after_0, s_M_after_1, s_M_after_4, s_M_after_5, s_M_after_6, s_M_after_7, s_M_after_8, s_M_after_10, s_M_after_12, s_M_after_13, s_M_after_16, s_M_after_17, s_M_after_20, s_M_after_21, s_M_after_24, s_M_after_25, s_M_after_26, s_M_after_27, s_M_after_28, s_M_after_31, s_M_after_32, s_M_after_33, s_M_after_36, s_M_after_37, s_M_after_40, s_M_after_41, s_M_after_44, s_M_after_45, s_M_after_46, s_M_after_48, s_M_after_49, s_M_after_52, s_M_after_54, s_M_after_57, s_M_after_58, s_M_after_60, s_M_after_61, s_M_after_63, s_M_after_64, s_M_after_67, s_M_after_68, s_M_after_71, s_M_after_72, s_M_after_73, s_M_after_75, s_M_after_77, s_M_after_79, s_M_after_82, s_M_after_85, s_M_after_86, s_M_after_87, s_M_after_89, s_M_after_91, s_M_after_93, s_M_after_96, s_M_after_97, Option.bind_some, Option.bind_none, Option.toList_some, Option.toList_none, List.cons_append, List.nil_append, if_true, if_false, rz_clr, true_or, or_true, z00, z11, bZ_eq0, bZ_eq1, nor_self, if_pos, if_neg, zI_add, zI_sub, zI_mul, zI_neg, zI_lt, zI_le, zI_eq, c_M, f_M_0, u_M_0, f_M_1, u_M_1, f_M_2, l_M_2, r_M_2, w_M_2, f_M_3, u_M_3, f_M_4, u_M_4, f_M_5, u_M_5, f_M_6, u_M_6, f_M_7, u_M_7, f_M_8, u_M_8, f_M_9, l_M_9, r_M_9, w_M_9, f_M_10, l_M_10, r_M_10, w_M_10, f_M_11, l_M_11, r_M_11, w_M_11, f_M_12, l_M_12, r_M_12, w_M_12, f_M_13, l_M_13, r_M_13, w_M_13, f_M_14, l_M_14, r_M_14, w_M_14, f_M_15, l_M_15, r_M_15, w_M_15, f_M_16, l_M_16, r_M_16, w_M_16, f_M_17, l_M_17, r_M_17, w_M_17, f_M_18, l_M_18, r_M_18, w_M_18, ek, eh', a3, hpo, e1]
        · have hf : ftP p t (hm 0) = 0 := by unfold ftP; rw [Int.toNat_natCast, if_neg a1, if_neg a2, if_neg a3]
          rw [hf, if_neg (by decide), if_neg (by decide), if_neg (by decide), Int.natCast_one]
          simp (disch := first | omega | exact Nat.le_of_ble_eq_true rfl) only [e_M_after, s_M_after_0, s_M_after_1, s_M_after_4, s_M_after_5, s_M_after_6, s_M_after_7, s_M_after_8, s_M_after_10, s_M_after_12, s_M_after_13, s_M_after_16, s_M_after_17, s_M_after_20, s_M_after_21, s_M_after_24, s_M_after_25, s_M_after_26, s_M_after_27, s_M_after_28, s_M_after_31, s_M_after_32, s_M_after_33, s_M_after_36, s_M_after_37, s_M_after_40, s_M_after_41, s_M_after_44, s_M_after_45, s_M_after_46, s_M_after_48, s_M_after_49, s_M_after_52, s_M_after_54, s_M_after_57, s_M_after_58, s_M_after_60, s_M_after_61, s_M_after_63, s_M_after_64, s_M_after_67, s_M_after_68, s_M_after_71, s_M_after_72, s_M_after_73, s_M_after_75, s_M_after_77, s_M_after_79, s_M_after_82, s_M_after_85, s_M_after_86, s_M_after_87, s_M_after_89, s_M_after_91, s_M_after_93, s_M_after_96, s_M_after_97, Option.bind_some, Option.bind_none, Option.toList_some, Option.toList_none, List.cons_append, List.nil_append, if_true, if_false, rz_clr, true_or, or_true, z00, z11, bZ_eq0, bZ_eq1, nor_self, if_pos, if_neg, zI_add, zI_sub, zI_mul, zI_neg, zI_lt, zI_le, zI_eq, c_M, f_M_0, u_M_0, f_M_1, u_M_1, f_M_2, l_M_2, r_M_2, w_M_2, f_M_3, u_M_3, f_M_4, u_M_4, f_M_5, u_M_5, f_M_6, u_M_6, f_M_7, u_M_7, f_M_8, u_M_8, f_M_9, l_M_9, r_M_9, w_M_9, f_M_10, l_M_10, r_M_10, w_M_10, f_M_11, l_M_11, r_M_11, w_M_11, f_M_12, l_M_12, r_M_12, w_M_12, f_M_13, l_M_13, r_M_13, w_M_13, f_M_14, l_M_14, r_M_14, w_M_14, f_M_15, l_M_15, r_M_15, w_M_15, f_M_16, l_M_16, r_M_16, w_M_16, f_M_17, l_M_17, r_M_17, w_M_17, f_M_18, l_M_18, r_M_18, w_M_18, ek, eh', hpo, e2]
  · have x1 : posK (wcK K (tm K) t) = (2 * (3 * (3 * (16 * ((cl K 0 : Nat) : Int) + t) + (lf K 0 : Nat)) + (lf K 1 : Nat)) + 0).toNat := by
      rw [c1] at f1 f2 f3 f4 ⊢
      simp only [Nat.sub_zero, Nat.sub_self] at f2
      unfold posK
      rw [f1, f2, f3, f3, f4, c2]
      omega
    have x2 : posK (flipT (wcK K (tm K) t)) = (2 * (3 * (3 * (16 * ((cl K 0 : Nat) : Int) + t) + (lf K 0 : Nat)) + (lf K 1 : Nat)) + (1 - 0)).toNat := by
      rw [c1] at f1 f2 f3 f4 g1 g2 g3 ⊢
      simp only [Nat.sub_zero, Nat.sub_self] at f2
      unfold posK
      rw [g1, g1, g2, g2, g3, f1, f2, f3, f3, f4, c2]
      omega
    rw [x1] at e1 p1
    rw [x2] at e2 p2
    rw [c1] at eh hh e1 e2 ⊢
    rw [c2, c3]
    rw [show (1 : Nat) - 1 = 0 from rfl] at *
    generalize lf K 0 = l0 at *
    generalize lf K 1 = l1 at *
    generalize cl K 0 = c9 at *
    by_cases a1 : p 0 t = 1
    · have hf : ftP p t (hm 1) = 3 := by unfold ftP; rw [Int.toNat_natCast, if_pos a1]
      rw [if_pos hf]
      simp (disch := first | omega | exact Nat.le_of_ble_eq_true rfl) only [e_M_after, s_M_after_0, s_M_after_1, s_M_after_4, s_M_after_5, s_M_after_6, s_M_after_7, s_M_after_8, s_M_after_10, s_M_after_12, s_M_after_13, s_M_after_16, s_M_after_17, s_M_after_20, s_M_after_21, s_M_after_24, s_M_after_25, s_M_after_26, s_M_after_27, s_M_after_28, s_M_after_31, s_M_after_32, s_M_after_33, s_M_after_36, s_M_after_37, s_M_after_40, s_M_after_41, s_M_after_44, s_M_after_45, s_M_after_46, s_M_after_48, s_M_after_49, s_M_after_52, s_M_after_54, s_M_after_57, s_M_after_58, s_M_after_60, s_M_after_61, s_M_after_63, s_M_after_64, s_M_after_67, s_M_after_68, s_M_after_71, s_M_after_72, s_M_after_73, s_M_after_75, s_M_after_77, s_M_after_79, s_M_after_82, s_M_after_85, s_M_after_86, s_M_after_87, s_M_after_89, s_M_after_91, s_M_after_93, s_M_after_96, s_M_after_97, Option.bind_some, Option.bind_none, Option.toList_some, Option.toList_none, List.cons_append, List.nil_append, if_true, if_false, rz_clr, true_or, or_true, z00, z11, bZ_eq0, bZ_eq1, nor_self, if_pos, if_neg, zI_add, zI_sub, zI_mul, zI_neg, zI_lt, zI_le, zI_eq, c_M, f_M_0, u_M_0, f_M_1, u_M_1, f_M_2, l_M_2, r_M_2, w_M_2, f_M_3, u_M_3, f_M_4, u_M_4, f_M_5, u_M_5, f_M_6, u_M_6, f_M_7, u_M_7, f_M_8, u_M_8, f_M_9, l_M_9, r_M_9, w_M_9, f_M_10, l_M_10, r_M_10, w_M_10, f_M_11, l_M_11, r_M_11, w_M_11, f_M_12, l_M_12, r_M_12, w_M_12, f_M_13, l_M_13, r_M_13, w_M_13, f_M_14, l_M_14, r_M_14, w_M_14, f_M_15, l_M_15, r_M_15, w_M_15, f_M_16, l_M_16, r_M_16, w_M_16, f_M_17, l_M_17, r_M_17, w_M_17, f_M_18, l_M_18, r_M_18, w_M_18, ek, a1, Int.natCast_one]
    · have eh' : σ 10 15 ((1 : Nat) : Int).toNat = hm 1 := eh
      by_cases a2 : (t : Int) = hm 1
      · have hf : ftP p t (hm 1) = 2 := by unfold ftP; rw [Int.toNat_natCast, if_neg a1, if_pos a2]
        rw [hf, if_neg (by decide), if_pos rfl]
        simp (disch := first | omega | exact Nat.le_of_ble_eq_true rfl) only [e_M_after, s_M_after_0, s_M_after_1, s_M_after_4, s_M_after_5, s_M_after_6, s_M_after_7, s_M_after_8, s_M_after_10, s_M_after_12, s_M_after_13, s_M_after_16, s_M_after_17, s_M_after_20, s_M_after_21, s_M_after_24, s_M_after_25, s_M_after_26, s_M_after_27, s_M_after_28, s_M_after_31, s_M_after_32, s_M_after_33, s_M_after_36, s_M_after_37, s_M_after_40, s_M_after_41, s_M_after_44, s_M_after_45, s_M_after_46, s_M_after_48, s_M_after_49, s_M_after_52, s_M_after_54, s_M_after_57, s_M_after_58, s_M_after_60, s_M_after_61, s_M_after_63, s_M_after_64, s_M_after_67, s_M_after_68, s_M_after_71, s_M_after_72, s_M_after_73, s_M_after_75, s_M_after_77, s_M_after_79, s_M_after_82, s_M_after_85, s_M_after_86, s_M_after_87, s_M_after_89, s_M_after_91, s_M_after_93, s_M_after_96, s_M_after_97, Option.bind_some, Option.bind_none, Option.toList_some, Option.toList_none, List.cons_append, List.nil_append, if_true, if_false, rz_clr, true_or, or_true, z00, z11, bZ_eq0, bZ_eq1, nor_self, if_pos, if_neg, zI_add, zI_sub, zI_mul, zI_neg, zI_lt, zI_le, zI_eq, c_M, f_M_0, u_M_0, f_M_1, u_M_1, f_M_2, l_M_2, r_M_2, w_M_2, f_M_3, u_M_3, f_M_4, u_M_4, f_M_5, u_M_5, f_M_6, u_M_6, f_M_7, u_M_7, f_M_8, u_M_8, f_M_9, l_M_9, r_M_9, w_M_9, f_M_10, l_M_10, r_M_10, w_M_10, f_M_11, l_M_11, r_M_11, w_M_11, f_M_12, l_M_12, r_M_12, w_M_12, f_M_13, l_M_13, r_M_13, w_M_13, f_M_14, l_M_14, r_M_14, w_M_14, f_M_15, l_M_15, r_M_15, w_M_15, f_M_16, l_M_16, r_M_16, w_M_16, f_M_17, l_M_17, r_M_17, w_M_17, f_M_18, l_M_18, r_M_18, w_M_18, ek, eh']
        try rfl
      · by_cases a3 : p 0 t = 2
        · have hf : ftP p t (hm 1) = 1 := by unfold ftP; rw [Int.toNat_natCast, if_neg a1, if_neg a2, if_pos a3]
          rw [hf, if_neg (by decide), if_neg (by decide), if_pos rfl, Int.natCast_zero]
          simp (disch := first | omega | exact Nat.le_of_ble_eq_true rfl) only [e_M_after, s_M_after_0, s_M_after_1, s_M_after_4, s_M_after_5, s_M_after_6, s_M_after_7, s_M_after_8, s_M_after_10, s_M_after_12, s_M_after_13, s_M_after_16, s_M_after_17, s_M_after_20, s_M_after_21, s_M_after_24, s_M_after_25, s_M_after_26, s_M_after_27, s_M_after_28, s_M_after_31, s_M_after_32, s_M_after_33, s_M_after_36, s_M_after_37, s_M_after_40, s_M_after_41, s_M_after_44, s_M_after_45, s_M_after_46, s_M_after_48, s_M_after_49, s_M_after_52, s_M_after_54, s_M_after_57, s_M_after_58, s_M_after_60, s_M_after_61, s_M_after_63, s_M_after_64, s_M_after_67, s_M_after_68, s_M_after_71, s_M_after_72, s_M_after_73, s_M_after_75, s_M_after_77, s_M_after_79, s_M_after_82, s_M_after_85, s_M_after_86, s_M_after_87, s_M_after_89, s_M_after_91, s_M_after_93, s_M_after_96, s_M_after_97, Option.bind_some, Option.bind_none, Option.toList_some, Option.toList_none, List.cons_append, List.nil_append, if_true, if_false, rz_clr, true_or, or_true, z00, z11, bZ_eq0, bZ_eq1, nor_self, if_pos, if_neg, zI_add, zI_sub, zI_mul, zI_neg, zI_lt, zI_le, zI_eq, c_M, f_M_0, u_M_0, f_M_1, u_M_1, f_M_2, l_M_2, r_M_2, w_M_2, f_M_3, u_M_3, f_M_4, u_M_4, f_M_5, u_M_5, f_M_6, u_M_6, f_M_7, u_M_7, f_M_8, u_M_8, f_M_9, l_M_9, r_M_9, w_M_9, f_M_10, l_M_10, r_M_10, w_M_10, f_M_11, l_M_11, r_M_11, w_M_11, f_M_12, l_M_12, r_M_12, w_M_12, f_M_13, l_M_13, r_M_13, w_M_13, f_M_14, l_M_14, r_M_14, w_M_14, f_M_15, l_M_15, r_M_15, w_M_15, f_M_16, l_M_16, r_M_16, w_M_16, f_M_17, l_M_17, r_M_17, w_M_17, f_M_18, l_M_18, r_M_18, w_M_18, ek, eh', a3, hpo, e1]
        · have hf : ftP p t (hm 1) = 0 := by unfold ftP; rw [Int.toNat_natCast, if_neg a1, if_neg a2, if_neg a3]
          rw [hf, if_neg (by decide), if_neg (by decide), if_neg (by decide), Int.natCast_zero]
          simp (disch := first | omega | exact Nat.le_of_ble_eq_true rfl) only [e_M_after, s_M_after_0, s_M_after_1, s_M_after_4, s_M_after_5, s_M_after_6, s_M_after_7, s_M_after_8, s_M_after_10, s_M_after_12, s_M_after_13, s_M_after_16, s_M_after_17, s_M_after_20, s_M_after_21, s_M_after_24, s_M_after_25, s_M_after_26, s_M_after_27, s_M_after_28, s_M_after_31, s_M_after_32, s_M_after_33, s_M_after_36, s_M_after_37, s_M_after_40, s_M_after_41, s_M_after_44, s_M_after_45, s_M_after_46, s_M_after_48, s_M_after_49, s_M_after_52, s_M_after_54, s_M_after_57, s_M_after_58, s_M_after_60, s_M_after_61, s_M_after_63, s_M_after_64, s_M_after_67, s_M_after_68, s_M_after_71, s_M_after_72, s_M_after_73, s_M_after_75, s_M_after_77, s_M_after_79, s_M_after_82, s_M_after_85, s_M_after_86, s_M_after_87, s_M_after_89, s_M_after_91, s_M_after_93, s_M_after_96, s_M_after_97, Option.bind_some, Option.bind_none, Option.toList_some, Option.toList_none, List.cons_append, List.nil_append, if_true, if_false, rz_clr, true_or, or_true, z00, z11, bZ_eq0, bZ_eq1, nor_self, if_pos, if_neg, zI_add, zI_sub, zI_mul, zI_neg, zI_lt, zI_le, zI_eq, c_M, f_M_0, u_M_0, f_M_1, u_M_1, f_M_2, l_M_2, r_M_2, w_M_2, f_M_3, u_M_3, f_M_4, u_M_4, f_M_5, u_M_5, f_M_6, u_M_6, f_M_7, u_M_7, f_M_8, u_M_8, f_M_9, l_M_9, r_M_9, w_M_9, f_M_10, l_M_10, r_M_10, w_M_10, f_M_11, l_M_11, r_M_11, w_M_11, f_M_12, l_M_12, r_M_12, w_M_12, f_M_13, l_M_13, r_M_13, w_M_13, f_M_14, l_M_14, r_M_14, w_M_14, f_M_15, l_M_15, r_M_15, w_M_15, f_M_16, l_M_16, r_M_16, w_M_16, f_M_17, l_M_17, r_M_17, w_M_17, f_M_18, l_M_18, r_M_18, w_M_18, ek, eh', hpo, e2]
end MN
