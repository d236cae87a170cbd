-- a plan drafted: at first, its steps mapped
def filA (f : Nat → Int) (v : Int) : Nat → Nat → (Nat → Int)
  | 0, _ => f
  | n + 1, i => filA (zup f i v) v n (i + 1)
theorem filA_at (v : Int) : ∀ (n i : Nat) (f : Nat → Int) (j : Nat), filA f v n i j = if i ≤ j ∧ j < i + n then v else f j := by
  intro n
  induction n with
  | zero => intro i f j; rw [filA, if_neg (by omega)]
  | succ n ih =>
    intro i f j
    rw [filA, ih]
    by_cases c : i + 1 ≤ j ∧ j < i + 1 + n
    · rw [if_pos c, if_pos (by omega)]
    · rw [if_neg c]
      unfold zup
      by_cases c2 : j = i
      · rw [if_pos c2, if_pos (by omega)]
      · rw [if_neg c2, if_neg (by omega)]
def safS (w h : Int) (p : zP) (i : Nat) : zP :=
  pset (pset (pset (pset p 4 (zup (p 4) i (if i = 0 then 0 else w * h - 1))) 5 (zup (p 5) i (if i = 0 then w * h - 1 else 0))) 6 (zup (p 6) i 0)) 7 (zup (p 7) i 1)
def saf0 (w h : Int) (p : zP) : zP := pset (pset (pset p 8 (fun _ => w)) 9 (fun _ => h)) 10 (fun _ => 0)
def fstP (w h : Int) (p : zP) : zP := safS w h (safS w h (pset (saf0 w h p) 0 (filA (p 0) 0 16 0)) 0) 1
section DR
variable {N g : Nat} {σ : zS}
theorem z_first_lp (d : Nat) (h1 : 7 ≤ g) (h2 : g ≤ 9) (hN : 48 ≤ N) (p : zP) (a b : Int32) : ∀ (n i : Nat), n + i = 16 → ∀ f, rz_den (rz_dM (d + 1)) (rz_at tb_X0_setAtFirst) none 17 [some (.ref (bs g)), some (.int a), some (.int b), some (.int (zI i))] [] (wOf N (gset σ g (pset p 0 f))) = rz_den (rz_dM (d + 1)) (rz_at tb_X0_setAtFirst) none 38 [some (.ref (bs g)), some (.int a), some (.int b), some (.int (zI 16))] [] (wOf N (gset σ g (pset p 0 (filA f 0 n i)))) := by
  intro n
  induction n with
  | zero =>
    intro i hi f
    obtain rfl : i = 16 := by omega
    rw [s_P_setAtFirst_17, filA]
    simp (disch := first | omega | exact Nat.le_of_ble_eq_true rfl) only [e_P_setAtFirst, s_P_setAtFirst_0, s_P_setAtFirst_1, s_P_setAtFirst_2, s_P_setAtFirst_5, s_P_setAtFirst_6, s_P_setAtFirst_7, s_P_setAtFirst_10, s_P_setAtFirst_11, s_P_setAtFirst_12, s_P_setAtFirst_15, s_P_setAtFirst_16, s_P_setAtFirst_18, s_P_setAtFirst_20, s_P_setAtFirst_23, s_P_setAtFirst_24, s_P_setAtFirst_27, s_P_setAtFirst_28, s_P_setAtFirst_29, s_P_setAtFirst_32, s_P_setAtFirst_35, s_P_setAtFirst_39, s_P_setAtFirst_40, s_P_setAtFirst_41, s_P_setAtFirst_42, s_P_setAtFirst_45, s_P_setAtFirst_46, s_P_setAtFirst_49, s_P_setAtFirst_50, s_P_setAtFirst_51, s_P_setAtFirst_54, s_P_setAtFirst_55, s_P_setAtFirst_58, s_P_setAtFirst_59, s_P_setAtFirst_60, s_P_setAtFirst_61, s_P_setAtFirst_62, s_P_setAtFirst_63, s_P_setAtFirst_66, s_P_setAtFirst_67, s_P_setAtFirst_70, s_P_setAtFirst_71, s_P_setAtFirst_72, s_P_setAtFirst_75, s_P_setAtFirst_76, s_P_setAtFirst_77, s_P_setAtFirst_78, s_P_setAtFirst_79, s_P_setAtFirst_80, s_P_setAtFirst_83, s_P_setAtFirst_84, s_P_setAtFirst_87, s_P_setAtFirst_88, s_P_setAtFirst_91, s_P_setAtFirst_92, s_P_setAtFirst_93, s_P_setAtFirst_96, s_P_setAtFirst_97, s_P_setAtFirst_100, s_P_setAtFirst_101, s_P_setAtFirst_102, s_P_setAtFirst_105, s_P_setAtFirst_108, s_P_setAtFirst_111, Option.bind_some, Option.bind_none, Option.toList_some, Option.toList_none, List.cons_append, List.nil_append, if_true, if_false, rz_clr, true_or, or_true, z00, z11, bZ_eq0, bZ_eq1, nor_self, if_pos, if_neg, zI_add, zI_sub, zI_mul, zI_neg, zI_lt, zI_le, zI_eq]
    try rfl
  | succ n ih =>
    intro i hi f
    have c : (i : Int) < 16 := by omega
    have ih' := ih (i + 1) (by omega) (zup f i 0)
    simp only [Int.natCast_add, Int.natCast_one] at ih'
    rw [s_P_setAtFirst_17, filA]
    simp (disch := first | omega | exact Nat.le_of_ble_eq_true rfl) only [e_P_setAtFirst, s_P_setAtFirst_0, s_P_setAtFirst_1, s_P_setAtFirst_2, s_P_setAtFirst_5, s_P_setAtFirst_6, s_P_setAtFirst_7, s_P_setAtFirst_10, s_P_setAtFirst_11, s_P_setAtFirst_12, s_P_setAtFirst_15, s_P_setAtFirst_16, s_P_setAtFirst_18, s_P_setAtFirst_20, s_P_setAtFirst_23, s_P_setAtFirst_24, s_P_setAtFirst_27, s_P_setAtFirst_28, s_P_setAtFirst_29, s_P_setAtFirst_32, s_P_setAtFirst_35, s_P_setAtFirst_39, s_P_setAtFirst_40, s_P_setAtFirst_41, s_P_setAtFirst_42, s_P_setAtFirst_45, s_P_setAtFirst_46, s_P_setAtFirst_49, s_P_setAtFirst_50, s_P_setAtFirst_51, s_P_setAtFirst_54, s_P_setAtFirst_55, s_P_setAtFirst_58, s_P_setAtFirst_59, s_P_setAtFirst_60, s_P_setAtFirst_61, s_P_setAtFirst_62, s_P_setAtFirst_63, s_P_setAtFirst_66, s_P_setAtFirst_67, s_P_setAtFirst_70, s_P_setAtFirst_71, s_P_setAtFirst_72, s_P_setAtFirst_75, s_P_setAtFirst_76, s_P_setAtFirst_77, s_P_setAtFirst_78, s_P_setAtFirst_79, s_P_setAtFirst_80, s_P_setAtFirst_83, s_P_setAtFirst_84, s_P_setAtFirst_87, s_P_setAtFirst_88, s_P_setAtFirst_91, s_P_setAtFirst_92, s_P_setAtFirst_93, s_P_setAtFirst_96, s_P_setAtFirst_97, s_P_setAtFirst_100, s_P_setAtFirst_101, s_P_setAtFirst_102, s_P_setAtFirst_105, s_P_setAtFirst_108, s_P_setAtFirst_111, Option.bind_some, Option.bind_none, Option.toList_some, Option.toList_none, List.cons_append, List.nil_append, if_true, if_false, rz_clr, true_or, or_true, z00, z11, bZ_eq0, bZ_eq1, nor_self, if_pos, if_neg, zI_add, zI_sub, zI_mul, zI_neg, zI_lt, zI_le, zI_eq, c_P, f_P_0, l_P_0, r_P_0, w_P_0, f_P_1, l_P_1, r_P_1, w_P_1, f_P_2, l_P_2, r_P_2, w_P_2, f_P_3, l_P_3, r_P_3, w_P_3, f_P_4, l_P_4, r_P_4, w_P_4, f_P_5, l_P_5, r_P_5, w_P_5, f_P_6, l_P_6, r_P_6, w_P_6, f_P_7, l_P_7, r_P_7, w_P_7, f_P_8, u_P_8, f_P_9, u_P_9, f_P_10, u_P_10, sset_eq, gset_at, gset_gset, gset_ne, pset_eq, pset_ne, a_P_0, p_P_0, a_P_1, p_P_1, a_P_2, p_P_2, a_P_3, p_P_3, a_P_4, p_P_4, a_P_5, p_P_5, a_P_6, p_P_6, a_P_7, p_P_7, c, pup_in, Int.toNat_natCast, pset_pset, ih']
theorem z_setAtFirst (d : Nat) (h1 : 7 ≤ g) (h2 : g ≤ 9) (hN : 48 ≤ N) {w h : Int} (hw : 0 ≤ w ∧ w ≤ 4) (hh : 0 ≤ h ∧ h ≤ 4) : rz_dM (d + 2) iP_setAtFirst [.ref (bs g), .int (zI w), .int (zI h)] (wOf N σ) = some (none, wOf N (gset σ g (fstP w h (σ g)))) := by
  have hl := fun p => z_first_lp (N := N) (g := g) (σ := σ) d h1 h2 hN p (zI w) (zI h) 16 0 rfl
  have hl' := hl (saf0 w h (σ g)) (σ g 0)
  have es : pset (saf0 w h (σ g)) 0 (σ g 0) = saf0 w h (σ g) := by
    unfold saf0
    funext k
    unfold pset
    by_cases e : k = 0
    · subst e; simp
    · simp [e]
  rw [es, Int.natCast_zero] at hl'
  unfold fstP safS
  generalize filA (σ g 0) 0 16 0 = F at hl'
  unfold saf0 at hl' ⊢
  simp (disch := first | omega | exact Nat.le_of_ble_eq_true rfl) only [e_P_setAtFirst, s_P_setAtFirst_0, s_P_setAtFirst_1, s_P_setAtFirst_2, s_P_setAtFirst_5, s_P_setAtFirst_6, s_P_setAtFirst_7, s_P_setAtFirst_10, s_P_setAtFirst_11, s_P_setAtFirst_12, s_P_setAtFirst_15, s_P_setAtFirst_16, s_P_setAtFirst_18, s_P_setAtFirst_20, s_P_setAtFirst_23, s_P_setAtFirst_24, s_P_setAtFirst_27, s_P_setAtFirst_28, s_P_setAtFirst_29, s_P_setAtFirst_32, s_P_setAtFirst_35, s_P_setAtFirst_38, s_P_setAtFirst_39, s_P_setAtFirst_40, s_P_setAtFirst_41, s_P_setAtFirst_42, s_P_setAtFirst_45, s_P_setAtFirst_46, s_P_setAtFirst_49, s_P_setAtFirst_50, s_P_setAtFirst_51, s_P_setAtFirst_54, s_P_setAtFirst_55, s_P_setAtFirst_58, s_P_setAtFirst_59, s_P_setAtFirst_60, s_P_setAtFirst_61, s_P_setAtFirst_62, s_P_setAtFirst_63, s_P_setAtFirst_66, s_P_setAtFirst_67, s_P_setAtFirst_70, s_P_setAtFirst_71, s_P_setAtFirst_72, s_P_setAtFirst_75, s_P_setAtFirst_76, s_P_setAtFirst_77, s_P_setAtFirst_78, s_P_setAtFirst_79, s_P_setAtFirst_80, s_P_setAtFirst_83, s_P_setAtFirst_84, s_P_setAtFirst_87, s_P_setAtFirst_88, s_P_setAtFirst_91, s_P_setAtFirst_92, s_P_setAtFirst_93, s_P_setAtFirst_96, s_P_setAtFirst_97, s_P_setAtFirst_100, s_P_setAtFirst_101, s_P_setAtFirst_102, s_P_setAtFirst_105, s_P_setAtFirst_108, s_P_setAtFirst_111, Option.bind_some, Option.bind_none, Option.toList_some, Option.toList_none, List.cons_append, List.nil_append, if_true, if_false, rz_clr, true_or, or_true, z00, z11, bZ_eq0, bZ_eq1, nor_self, if_pos, if_neg, zI_add, zI_sub, zI_mul, zI_neg, zI_lt, zI_le, zI_eq, c_P, f_P_0, l_P_0, r_P_0, w_P_0, f_P_1, l_P_1, r_P_1, w_P_1, f_P_2, l_P_2, r_P_2, w_P_2, f_P_3, l_P_3, r_P_3, w_P_3, f_P_4, l_P_4, r_P_4, w_P_4, f_P_5, l_P_5, r_P_5, w_P_5, f_P_6, l_P_6, r_P_6, w_P_6, f_P_7, l_P_7, r_P_7, w_P_7, f_P_8, u_P_8, f_P_9, u_P_9, f_P_10, u_P_10, sset_eq, gset_at, gset_gset, gset_ne, pset_eq, pset_ne, a_P_0, p_P_0, a_P_1, p_P_1, a_P_2, p_P_2, a_P_3, p_P_3, a_P_4, p_P_4, a_P_5, p_P_5, a_P_6, p_P_6, a_P_7, p_P_7, pup_in, hl']
  rfl
/-- one cell's steps mapped: the places in a row -/
def mapC (p : zP) (l : Nat) (x y : Int) : Nat → Nat → (Nat → Int) → (Nat → Int)
  | 0, _, f => f
  | n + 1, k, f => mapC p l x y n (k + 1) (zup f (((l : Int) * 16 + (p 8 0 * y + x)) * 8 + k).toNat (rch p l x y k))
theorem rch_3 (p : zP) (f : Nat → Int) (l : Nat) (x y : Int) (k : Nat) : rch (pset p 3 f) l x y k = rch p l x y k := by
  unfold rch
  simp only [pset_ne (show 8 ≠ 3 by decide), pset_ne (show 9 ≠ 3 by decide), pset_ne (show 0 ≠ 3 by decide), pset_ne (show 1 ≠ 3 by decide), pset_ne (show 2 ≠ 3 by decide)]
theorem wfP_3 {p : zP} (f : Nat → Int) (h : wfP p) : wfP (pset p 3 f) := h
theorem z_mapC_lp (d : Nat) (h1 : 7 ≤ g) (h2 : g ≤ 9) (hN : 48 ≤ N) (hN2 : N ≤ 1000) {p : zP} (hw : wfP p) {l x y : Int} (hl : 0 ≤ l ∧ l < p 10 0) (hx : 0 ≤ x ∧ x < p 8 0) (hy : 0 ≤ y ∧ y < p 9 0) : ∀ (n k : Nat), n + k = 8 → ∀ f, rz_den (rz_dM (d + 2)) (rz_at tb_X0_mapStepsFrom) none 19 [some (.ref (bs g)), some (.int (zI l)), some (.int (zI x)), some (.int (zI y)), some (.int (zI ((l * 16 + (p 8 0 * y + x)) * 8))), some (.int (zI k))] [] (wOf N (gset σ g (pset p 3 f))) = some (none, wOf N (gset σ g (pset p 3 (mapC p l.toNat x y n k f)))) := by
  have hw' := hw
  obtain ⟨⟨w1, w2, w3, w4, w5, w6⟩, -⟩ := hw'
  have hm : 0 ≤ p 8 0 * y ∧ p 8 0 * y ≤ 4 * y := ⟨Int.mul_nonneg (by omega) (by omega), Int.mul_le_mul_of_nonneg_right (by omega) (by omega)⟩
  intro n
  induction n with
  | zero =>
    intro k hk f
    have c : ¬ (k : Int) < 8 := by omega
    rw [s_P_mapStepsFrom_19, mapC]
    simp (disch := first | omega | exact Nat.le_of_ble_eq_true rfl) only [e_P_mapStepsFrom, s_P_mapStepsFrom_0, s_P_mapStepsFrom_1, s_P_mapStepsFrom_3, s_P_mapStepsFrom_4, s_P_mapStepsFrom_5, s_P_mapStepsFrom_6, s_P_mapStepsFrom_7, s_P_mapStepsFrom_10, s_P_mapStepsFrom_11, s_P_mapStepsFrom_13, s_P_mapStepsFrom_14, s_P_mapStepsFrom_16, s_P_mapStepsFrom_17, s_P_mapStepsFrom_21, s_P_mapStepsFrom_23, s_P_mapStepsFrom_26, s_P_mapStepsFrom_27, s_P_mapStepsFrom_30, s_P_mapStepsFrom_32, s_P_mapStepsFrom_34, s_P_mapStepsFrom_35, s_P_mapStepsFrom_36, s_P_mapStepsFrom_37, s_P_mapStepsFrom_38, s_P_mapStepsFrom_39, s_P_mapStepsFrom_41, s_P_mapStepsFrom_44, s_P_mapStepsFrom_47, s_P_mapStepsFrom_50, s_P_mapStepsFrom_53, Option.bind_some, Option.bind_none, Option.toList_some, Option.toList_none, List.cons_append, List.nil_append, if_true, if_false, rz_clr, true_or, or_true, z00, z11, bZ_eq0, bZ_eq1, nor_self, if_pos, if_neg, zI_add, zI_sub, zI_mul, zI_neg, zI_lt, zI_le, zI_eq, c]
  | succ n ih =>
    intro k hk f
    have c : (k : Int) < 8 := by omega
    have hr := z_reach (N := N) (g := g) (σ := gset σ g (pset p 3 f)) d h1 h2 hN hN2 (by rw [gset_at]; exact wfP_3 f hw) (l := l) (x := x) (y := y) (k := k) (by rw [gset_at]; exact hl) (by rw [gset_at]; exact hx) (by rw [gset_at]; exact hy) (by omega)
    rw [gset_at, Int.toNat_natCast, rch_3] at hr
    have ih' := ih (k + 1) (by omega) (zup f ((l * 16 + (p 8 0 * y + x)) * 8 + k).toNat (rch p l.toNat x y k))
    simp only [Int.natCast_add, Int.natCast_one] at ih'
    rw [s_P_mapStepsFrom_19, mapC, show ((l.toNat : Nat) : Int) = l by omega]
    simp (disch := first | omega | exact Nat.le_of_ble_eq_true rfl) only [e_P_mapStepsFrom, s_P_mapStepsFrom_0, s_P_mapStepsFrom_1, s_P_mapStepsFrom_3, s_P_mapStepsFrom_4, s_P_mapStepsFrom_5, s_P_mapStepsFrom_6, s_P_mapStepsFrom_7, s_P_mapStepsFrom_10, s_P_mapStepsFrom_11, s_P_mapStepsFrom_13, s_P_mapStepsFrom_14, s_P_mapStepsFrom_16, s_P_mapStepsFrom_17, s_P_mapStepsFrom_21, s_P_mapStepsFrom_23, s_P_mapStepsFrom_26, s_P_mapStepsFrom_27, s_P_mapStepsFrom_30, s_P_mapStepsFrom_32, s_P_mapStepsFrom_34, s_P_mapStepsFrom_35, s_P_mapStepsFrom_36, s_P_mapStepsFrom_37, s_P_mapStepsFrom_38, s_P_mapStepsFrom_39, s_P_mapStepsFrom_41, s_P_mapStepsFrom_44, s_P_mapStepsFrom_47, s_P_mapStepsFrom_50, s_P_mapStepsFrom_53, Option.bind_some, Option.bind_none, Option.toList_some, Option.toList_none, List.cons_append, List.nil_append, if_true, if_false, rz_clr, true_or, or_true, z00, z11, bZ_eq0, bZ_eq1, nor_self, if_pos, if_neg, zI_add, zI_sub, zI_mul, zI_neg, zI_lt, zI_le, zI_eq, c_P, f_P_0, l_P_0, r_P_0, w_P_0, f_P_1, l_P_1, r_P_1, w_P_1, f_P_2, l_P_2, r_P_2, w_P_2, f_P_3, l_P_3, r_P_3, w_P_3, f_P_4, l_P_4, r_P_4, w_P_4, f_P_5, l_P_5, r_P_5, w_P_5, f_P_6, l_P_6, r_P_6, w_P_6, f_P_7, l_P_7, r_P_7, w_P_7, f_P_8, u_P_8, f_P_9, u_P_9, f_P_10, u_P_10, sset_eq, gset_at, gset_gset, gset_ne, pset_eq, pset_ne, a_P_0, p_P_0, a_P_1, p_P_1, a_P_2, p_P_2, a_P_3, p_P_3, a_P_4, p_P_4, a_P_5, p_P_5, a_P_6, p_P_6, a_P_7, p_P_7, c, hr, pup_in, pset_pset, ih']
theorem z_mapStepsFrom (d : Nat) (h1 : 7 ≤ g) (h2 : g ≤ 9) (hN : 48 ≤ N) (hN2 : N ≤ 1000) {p : zP} (hw : wfP p) {l x y : Int} (hl : 0 ≤ l ∧ l < p 10 0) (hx : 0 ≤ x ∧ x < p 8 0) (hy : 0 ≤ y ∧ y < p 9 0) (f : Nat → Int) : rz_dM (d + 3) iP_mapStepsFrom [.ref (bs g), .int (zI l), .int (zI x), .int (zI y)] (wOf N (gset σ g (pset p 3 f))) = some (none, wOf N (gset σ g (pset p 3 (mapC p l.toNat x y 8 0 f)))) := by
  have h := z_mapC_lp (N := N) (g := g) (σ := σ) d h1 h2 hN hN2 hw hl hx hy 8 0 rfl f
  rw [Int.natCast_zero] at h
  have hn := z_numberOf (N := N) (g := g) (σ := gset σ g (pset p 3 f)) (d + 1) h1 h2 hN x y
  rw [gset_at, pset_ne (by decide)] at hn
  simp (disch := first | omega | exact Nat.le_of_ble_eq_true rfl) only [e_P_mapStepsFrom, s_P_mapStepsFrom_0, s_P_mapStepsFrom_1, s_P_mapStepsFrom_3, s_P_mapStepsFrom_4, s_P_mapStepsFrom_5, s_P_mapStepsFrom_6, s_P_mapStepsFrom_7, s_P_mapStepsFrom_10, s_P_mapStepsFrom_11, s_P_mapStepsFrom_13, s_P_mapStepsFrom_14, s_P_mapStepsFrom_16, s_P_mapStepsFrom_17, s_P_mapStepsFrom_21, s_P_mapStepsFrom_23, s_P_mapStepsFrom_26, s_P_mapStepsFrom_27, s_P_mapStepsFrom_30, s_P_mapStepsFrom_32, s_P_mapStepsFrom_34, s_P_mapStepsFrom_35, s_P_mapStepsFrom_36, s_P_mapStepsFrom_37, s_P_mapStepsFrom_38, s_P_mapStepsFrom_39, s_P_mapStepsFrom_41, s_P_mapStepsFrom_44, s_P_mapStepsFrom_47, s_P_mapStepsFrom_50, s_P_mapStepsFrom_53, Option.bind_some, Option.bind_none, Option.toList_some, Option.toList_none, List.cons_append, List.nil_append, if_true, if_false, rz_clr, true_or, or_true, z00, z11, bZ_eq0, bZ_eq1, nor_self, if_pos, if_neg, zI_add, zI_sub, zI_mul, zI_neg, zI_lt, zI_le, zI_eq, c_P, f_P_0, l_P_0, r_P_0, w_P_0, f_P_1, l_P_1, r_P_1, w_P_1, f_P_2, l_P_2, r_P_2, w_P_2, f_P_3, l_P_3, r_P_3, w_P_3, f_P_4, l_P_4, r_P_4, w_P_4, f_P_5, l_P_5, r_P_5, w_P_5, f_P_6, l_P_6, r_P_6, w_P_6, f_P_7, l_P_7, r_P_7, w_P_7, f_P_8, u_P_8, f_P_9, u_P_9, f_P_10, u_P_10, hn, h]
def mapX (p : zP) (l : Nat) (y : Int) : Nat → Nat → (Nat → Int) → (Nat → Int)
  | 0, _, f => f
  | n + 1, x, f => mapX p l y n (x + 1) (mapC p l x y 8 0 f)
def mapY (p : zP) (l : Nat) : Nat → Nat → (Nat → Int) → (Nat → Int)
  | 0, _, f => f
  | n + 1, y, f => mapY p l n (y + 1) (mapX p l y (p 8 0).toNat 0 f)
def mapL (p : zP) : Nat → Nat → (Nat → Int) → (Nat → Int)
  | 0, _, f => f
  | n + 1, l, f => mapL p n (l + 1) (mapY p l (p 9 0).toNat 0 f)
theorem z_mapX_lp (d : Nat) (h1 : 7 ≤ g) (h2 : g ≤ 9) (hN : 48 ≤ N) (hN2 : N ≤ 1000) {p : zP} (hw : wfP p) {l y : Nat} (hl : (l : Int) < p 10 0) (hy : (y : Int) < p 9 0) : ∀ (n x : Nat), (n : Int) + x = p 8 0 → ∀ f, rz_den (rz_dM (d + 3)) (rz_at tb_X0_mapSteps) none 22 [some (.ref (bs g)), some (.int (zI l)), some (.int (zI y)), some (.int (zI x))] [] (wOf N (gset σ g (pset p 3 f))) = rz_den (rz_dM (d + 3)) (rz_at tb_X0_mapSteps) none 43 [some (.ref (bs g)), some (.int (zI l)), some (.int (zI y)), some (.int (zI (p 8 0)))] [] (wOf N (gset σ g (pset p 3 (mapX p l y n x f)))) := by
  have hw' := hw
  obtain ⟨⟨w1, w2, w3, w4, w5, w6⟩, -⟩ := hw'
  intro n
  induction n with
  | zero =>
    intro x hx f
    have ex : (x : Int) = p 8 0 := by omega
    rw [ex, s_P_mapSteps_22, mapX]
    have c : ¬ p 8 0 < p 8 0 := by omega
    simp (disch := first | omega | exact Nat.le_of_ble_eq_true rfl) only [e_P_mapSteps, s_P_mapSteps_0, s_P_mapSteps_1, s_P_mapSteps_3, s_P_mapSteps_4, s_P_mapSteps_7, s_P_mapSteps_10, s_P_mapSteps_11, s_P_mapSteps_13, s_P_mapSteps_14, s_P_mapSteps_17, s_P_mapSteps_20, s_P_mapSteps_21, s_P_mapSteps_23, s_P_mapSteps_24, s_P_mapSteps_27, s_P_mapSteps_30, s_P_mapSteps_31, s_P_mapSteps_32, s_P_mapSteps_33, s_P_mapSteps_34, s_P_mapSteps_37, s_P_mapSteps_40, s_P_mapSteps_46, s_P_mapSteps_49, s_P_mapSteps_52, s_P_mapSteps_55, Option.bind_some, Option.bind_none, Option.toList_some, Option.toList_none, List.cons_append, List.nil_append, if_true, if_false, rz_clr, true_or, or_true, z00, z11, bZ_eq0, bZ_eq1, nor_self, if_pos, if_neg, zI_add, zI_sub, zI_mul, zI_neg, zI_lt, zI_le, zI_eq, c_P, f_P_0, l_P_0, r_P_0, w_P_0, f_P_1, l_P_1, r_P_1, w_P_1, f_P_2, l_P_2, r_P_2, w_P_2, f_P_3, l_P_3, r_P_3, w_P_3, f_P_4, l_P_4, r_P_4, w_P_4, f_P_5, l_P_5, r_P_5, w_P_5, f_P_6, l_P_6, r_P_6, w_P_6, f_P_7, l_P_7, r_P_7, w_P_7, f_P_8, u_P_8, f_P_9, u_P_9, f_P_10, u_P_10, sset_eq, gset_at, gset_gset, gset_ne, pset_eq, pset_ne, c]
  | succ n ih =>
    intro x hx f
    have c : (x : Int) < p 8 0 := by omega
    have c2 : ¬ p 8 0 ≤ (x : Int) := by omega
    have hm := z_mapStepsFrom (N := N) (g := g) (σ := σ) d h1 h2 hN hN2 hw (l := l) (x := x) (y := y) (by omega) (by omega) (by omega) f
    rw [Int.toNat_natCast] at hm
    have ih' := ih (x + 1) (by omega) (mapC p l x y 8 0 f)
    simp only [Int.natCast_add, Int.natCast_one] at ih'
    rw [s_P_mapSteps_22, mapX]
    simp (disch := first | omega | exact Nat.le_of_ble_eq_true rfl) only [e_P_mapSteps, s_P_mapSteps_0, s_P_mapSteps_1, s_P_mapSteps_3, s_P_mapSteps_4, s_P_mapSteps_7, s_P_mapSteps_10, s_P_mapSteps_11, s_P_mapSteps_13, s_P_mapSteps_14, s_P_mapSteps_17, s_P_mapSteps_20, s_P_mapSteps_21, s_P_mapSteps_23, s_P_mapSteps_24, s_P_mapSteps_27, s_P_mapSteps_30, s_P_mapSteps_31, s_P_mapSteps_32, s_P_mapSteps_33, s_P_mapSteps_34, s_P_mapSteps_37, s_P_mapSteps_40, s_P_mapSteps_46, s_P_mapSteps_49, s_P_mapSteps_52, s_P_mapSteps_55, Option.bind_some, Option.bind_none, Option.toList_some, Option.toList_none, List.cons_append, List.nil_append, if_true, if_false, rz_clr, true_or, or_true, z00, z11, bZ_eq0, bZ_eq1, nor_self, if_pos, if_neg, zI_add, zI_sub, zI_mul, zI_neg, zI_lt, zI_le, zI_eq, c_P, f_P_0, l_P_0, r_P_0, w_P_0, f_P_1, l_P_1, r_P_1, w_P_1, f_P_2, l_P_2, r_P_2, w_P_2, f_P_3, l_P_3, r_P_3, w_P_3, f_P_4, l_P_4, r_P_4, w_P_4, f_P_5, l_P_5, r_P_5, w_P_5, f_P_6, l_P_6, r_P_6, w_P_6, f_P_7, l_P_7, r_P_7, w_P_7, f_P_8, u_P_8, f_P_9, u_P_9, f_P_10, u_P_10, sset_eq, gset_at, gset_gset, gset_ne, pset_eq, pset_ne, c, c2, hm, ih']
theorem z_mapY_lp (d : Nat) (h1 : 7 ≤ g) (h2 : g ≤ 9) (hN : 48 ≤ N) (hN2 : N ≤ 1000) {p : zP} (hw : wfP p) {l : Nat} (hl : (l : Int) < p 10 0) : ∀ (n y : Nat), (n : Int) + y = p 9 0 → ∀ f l3, ∃ l3', rz_den (rz_dM (d + 3)) (rz_at tb_X0_mapSteps) none 12 [some (.ref (bs g)), some (.int (zI l)), some (.int (zI y)), l3] [] (wOf N (gset σ g (pset p 3 f))) = rz_den (rz_dM (d + 3)) (rz_at tb_X0_mapSteps) none 49 [some (.ref (bs g)), some (.int (zI l)), some (.int (zI (p 9 0))), l3'] [] (wOf N (gset σ g (pset p 3 (mapY p l n y f)))) := by
  have hw' := hw
  obtain ⟨⟨w1, w2, w3, w4, w5, w6⟩, -⟩ := hw'
  intro n
  induction n with
  | zero =>
    intro y hy f l3
    have ey : (y : Int) = p 9 0 := by omega
    refine ⟨l3, ?_⟩
    rw [ey, s_P_mapSteps_12, mapY]
    have c : ¬ p 9 0 < p 9 0 := by omega
    simp (disch := first | omega | exact Nat.le_of_ble_eq_true rfl) only [e_P_mapSteps, s_P_mapSteps_0, s_P_mapSteps_1, s_P_mapSteps_3, s_P_mapSteps_4, s_P_mapSteps_7, s_P_mapSteps_10, s_P_mapSteps_11, s_P_mapSteps_13, s_P_mapSteps_14, s_P_mapSteps_17, s_P_mapSteps_20, s_P_mapSteps_21, s_P_mapSteps_23, s_P_mapSteps_24, s_P_mapSteps_27, s_P_mapSteps_30, s_P_mapSteps_31, s_P_mapSteps_32, s_P_mapSteps_33, s_P_mapSteps_34, s_P_mapSteps_37, s_P_mapSteps_40, s_P_mapSteps_43, s_P_mapSteps_46, s_P_mapSteps_52, s_P_mapSteps_55, Option.bind_some, Option.bind_none, Option.toList_some, Option.toList_none, List.cons_append, List.nil_append, if_true, if_false, rz_clr, true_or, or_true, z00, z11, bZ_eq0, bZ_eq1, nor_self, if_pos, if_neg, zI_add, zI_sub, zI_mul, zI_neg, zI_lt, zI_le, zI_eq, c_P, f_P_0, l_P_0, r_P_0, w_P_0, f_P_1, l_P_1, r_P_1, w_P_1, f_P_2, l_P_2, r_P_2, w_P_2, f_P_3, l_P_3, r_P_3, w_P_3, f_P_4, l_P_4, r_P_4, w_P_4, f_P_5, l_P_5, r_P_5, w_P_5, f_P_6, l_P_6, r_P_6, w_P_6, f_P_7, l_P_7, r_P_7, w_P_7, f_P_8, u_P_8, f_P_9, u_P_9, f_P_10, u_P_10, sset_eq, gset_at, gset_gset, gset_ne, pset_eq, pset_ne, c]
  | succ n ih =>
    intro y hy f l3
    have c : (y : Int) < p 9 0 := by omega
    have hx := z_mapX_lp (N := N) (g := g) (σ := σ) d h1 h2 hN hN2 hw hl (y := y) c (p 8 0).toNat 0 (by omega) f
    rw [Int.natCast_zero] at hx
    obtain ⟨l3', ih'⟩ := ih (y + 1) (by omega) (mapX p l y (p 8 0).toNat 0 f) (some (.int (zI (p 8 0))))
    simp only [Int.natCast_add, Int.natCast_one] at ih'
    refine ⟨l3', ?_⟩
    rw [s_P_mapSteps_12, mapY]
    simp (disch := first | omega | exact Nat.le_of_ble_eq_true rfl) only [e_P_mapSteps, s_P_mapSteps_0, s_P_mapSteps_1, s_P_mapSteps_3, s_P_mapSteps_4, s_P_mapSteps_7, s_P_mapSteps_10, s_P_mapSteps_11, s_P_mapSteps_13, s_P_mapSteps_14, s_P_mapSteps_17, s_P_mapSteps_20, s_P_mapSteps_21, s_P_mapSteps_23, s_P_mapSteps_24, s_P_mapSteps_27, s_P_mapSteps_30, s_P_mapSteps_31, s_P_mapSteps_32, s_P_mapSteps_33, s_P_mapSteps_34, s_P_mapSteps_37, s_P_mapSteps_40, s_P_mapSteps_43, s_P_mapSteps_46, s_P_mapSteps_52, s_P_mapSteps_55, Option.bind_some, Option.bind_none, Option.toList_some, Option.toList_none, List.cons_append, List.nil_append, if_true, if_false, rz_clr, true_or, or_true, z00, z11, bZ_eq0, bZ_eq1, nor_self, if_pos, if_neg, zI_add, zI_sub, zI_mul, zI_neg, zI_lt, zI_le, zI_eq, c_P, f_P_0, l_P_0, r_P_0, w_P_0, f_P_1, l_P_1, r_P_1, w_P_1, f_P_2, l_P_2, r_P_2, w_P_2, f_P_3, l_P_3, r_P_3, w_P_3, f_P_4, l_P_4, r_P_4, w_P_4, f_P_5, l_P_5, r_P_5, w_P_5, f_P_6, l_P_6, r_P_6, w_P_6, f_P_7, l_P_7, r_P_7, w_P_7, f_P_8, u_P_8, f_P_9, u_P_9, f_P_10, u_P_10, sset_eq, gset_at, gset_gset, gset_ne, pset_eq, pset_ne, c, hx, ih']
theorem z_mapL_lp (d : Nat) (h1 : 7 ≤ g) (h2 : g ≤ 9) (hN : 48 ≤ N) (hN2 : N ≤ 1000) {p : zP} (hw : wfP p) : ∀ (n l : Nat), (n : Int) + l = p 10 0 → ∀ f l2 l3, rz_den (rz_dM (d + 3)) (rz_at tb_X0_mapSteps) none 2 [some (.ref (bs g)), some (.int (zI l)), l2, l3] [] (wOf N (gset σ g (pset p 3 f))) = some (none, wOf N (gset σ g (pset p 3 (mapL p n l f)))) := by
  have hw' := hw
  obtain ⟨⟨w1, w2, w3, w4, w5, w6⟩, -⟩ := hw'
  intro n
  induction n with
  | zero =>
    intro l hl f l2 l3
    have c : ¬ (l : Int) < p 10 0 := by omega
    rw [s_P_mapSteps_2, mapL]
    simp (disch := first | omega | exact Nat.le_of_ble_eq_true rfl) only [e_P_mapSteps, s_P_mapSteps_0, s_P_mapSteps_1, s_P_mapSteps_3, s_P_mapSteps_4, s_P_mapSteps_7, s_P_mapSteps_10, s_P_mapSteps_11, s_P_mapSteps_13, s_P_mapSteps_14, s_P_mapSteps_17, s_P_mapSteps_20, s_P_mapSteps_21, s_P_mapSteps_23, s_P_mapSteps_24, s_P_mapSteps_27, s_P_mapSteps_30, s_P_mapSteps_31, s_P_mapSteps_32, s_P_mapSteps_33, s_P_mapSteps_34, s_P_mapSteps_37, s_P_mapSteps_40, s_P_mapSteps_43, s_P_mapSteps_46, s_P_mapSteps_49, s_P_mapSteps_52, s_P_mapSteps_55, Option.bind_some, Option.bind_none, Option.toList_some, Option.toList_none, List.cons_append, List.nil_append, if_true, if_false, rz_clr, true_or, or_true, z00, z11, bZ_eq0, bZ_eq1, nor_self, if_pos, if_neg, zI_add, zI_sub, zI_mul, zI_neg, zI_lt, zI_le, zI_eq, c_P, f_P_0, l_P_0, r_P_0, w_P_0, f_P_1, l_P_1, r_P_1, w_P_1, f_P_2, l_P_2, r_P_2, w_P_2, f_P_3, l_P_3, r_P_3, w_P_3, f_P_4, l_P_4, r_P_4, w_P_4, f_P_5, l_P_5, r_P_5, w_P_5, f_P_6, l_P_6, r_P_6, w_P_6, f_P_7, l_P_7, r_P_7, w_P_7, f_P_8, u_P_8, f_P_9, u_P_9, f_P_10, u_P_10, sset_eq, gset_at, gset_gset, gset_ne, pset_eq, pset_ne, c]
  | succ n ih =>
    intro l hl f l2 l3
    have c : (l : Int) < p 10 0 := by omega
    obtain ⟨l3', hy⟩ := z_mapY_lp (N := N) (g := g) (σ := σ) d h1 h2 hN hN2 hw (l := l) c (p 9 0).toNat 0 (by omega) f l3
    rw [Int.natCast_zero] at hy
    have ih' := ih (l + 1) (by omega) (mapY p l (p 9 0).toNat 0 f) (some (.int (zI (p 9 0)))) l3'
    simp only [Int.natCast_add, Int.natCast_one] at ih'
    rw [s_P_mapSteps_2, mapL]
    simp (disch := first | omega | exact Nat.le_of_ble_eq_true rfl) only [e_P_mapSteps, s_P_mapSteps_0, s_P_mapSteps_1, s_P_mapSteps_3, s_P_mapSteps_4, s_P_mapSteps_7, s_P_mapSteps_10, s_P_mapSteps_11, s_P_mapSteps_13, s_P_mapSteps_14, s_P_mapSteps_17, s_P_mapSteps_20, s_P_mapSteps_21, s_P_mapSteps_23, s_P_mapSteps_24, s_P_mapSteps_27, s_P_mapSteps_30, s_P_mapSteps_31, s_P_mapSteps_32, s_P_mapSteps_33, s_P_mapSteps_34, s_P_mapSteps_37, s_P_mapSteps_40, s_P_mapSteps_43, s_P_mapSteps_46, s_P_mapSteps_49, s_P_mapSteps_52, s_P_mapSteps_55, Option.bind_some, Option.bind_none, Option.toList_some, Option.toList_none, List.cons_append, List.nil_append, if_true, if_false, rz_clr, true_or, or_true, z00, z11, bZ_eq0, bZ_eq1, nor_self, if_pos, if_neg, zI_add, zI_sub, zI_mul, zI_neg, zI_lt, zI_le, zI_eq, c_P, f_P_0, l_P_0, r_P_0, w_P_0, f_P_1, l_P_1, r_P_1, w_P_1, f_P_2, l_P_2, r_P_2, w_P_2, f_P_3, l_P_3, r_P_3, w_P_3, f_P_4, l_P_4, r_P_4, w_P_4, f_P_5, l_P_5, r_P_5, w_P_5, f_P_6, l_P_6, r_P_6, w_P_6, f_P_7, l_P_7, r_P_7, w_P_7, f_P_8, u_P_8, f_P_9, u_P_9, f_P_10, u_P_10, sset_eq, gset_at, gset_gset, gset_ne, pset_eq, pset_ne, c, hy, ih']
theorem pset_self (p : zP) (k : Nat) : pset p k (p k) = p := by
  funext k'
  unfold pset
  split
  · next h => rw [h]
  · rfl
def mapP (p : zP) : zP := pset p 3 (mapL p (p 10 0).toNat 0 (p 3))
theorem z_mapSteps (d : Nat) (h1 : 7 ≤ g) (h2 : g ≤ 9) (hN : 48 ≤ N) (hN2 : N ≤ 1000) (hw : wfP (σ g)) : rz_dM (d + 4) iP_mapSteps [.ref (bs g)] (wOf N σ) = some (none, wOf N (gset σ g (mapP (σ g)))) := by
  have hw' := hw
  obtain ⟨⟨w1, w2, w3, w4, w5, w6⟩, -⟩ := hw'
  have h := z_mapL_lp (N := N) (g := g) (σ := σ) d h1 h2 hN hN2 hw (σ g 10 0).toNat 0 (by omega) (σ g 3)
  rw [Int.natCast_zero, pset_self, gset_self] at h
  unfold mapP
  simp (disch := first | omega | exact Nat.le_of_ble_eq_true rfl) only [e_P_mapSteps, s_P_mapSteps_0, s_P_mapSteps_1, s_P_mapSteps_3, s_P_mapSteps_4, s_P_mapSteps_7, s_P_mapSteps_10, s_P_mapSteps_11, s_P_mapSteps_12, s_P_mapSteps_13, s_P_mapSteps_14, s_P_mapSteps_17, s_P_mapSteps_20, s_P_mapSteps_21, s_P_mapSteps_22, s_P_mapSteps_23, s_P_mapSteps_24, s_P_mapSteps_27, s_P_mapSteps_30, s_P_mapSteps_31, s_P_mapSteps_32, s_P_mapSteps_33, s_P_mapSteps_34, s_P_mapSteps_37, s_P_mapSteps_40, s_P_mapSteps_43, s_P_mapSteps_46, s_P_mapSteps_49, s_P_mapSteps_52, s_P_mapSteps_55, Option.bind_some, Option.bind_none, Option.toList_some, Option.toList_none, List.cons_append, List.nil_append, if_true, if_false, rz_clr, true_or, or_true, z00, z11, bZ_eq0, bZ_eq1, nor_self, if_pos, if_neg, zI_add, zI_sub, zI_mul, zI_neg, zI_lt, zI_le, zI_eq, h]
end DR
/-- a cell's eight places tell where its steps lead -/
def okC (p : zP) (f : Nat → Int) (l c : Nat) : Prop := ∀ k : Nat, k < 8 → f ((l * 16 + c) * 8 + k) = rch p l ((c : Int) % p 8 0) ((c : Int) / p 8 0) k
theorem mapC_at (p : zP) {l W x y : Nat} (hW : p 8 0 = W) : ∀ (n k : Nat) (f : Nat → Int) (j : Nat), mapC p l x y n k f j = if (l * 16 + (W * y + x)) * 8 + k ≤ j ∧ j < (l * 16 + (W * y + x)) * 8 + k + n then rch p l x y (j - (l * 16 + (W * y + x)) * 8) else f j := by
  intro n
  induction n with
  | zero => intro k f j; rw [mapC, if_neg (by omega)]
  | succ n ih =>
    intro k f j
    have e : (((l : Int) * 16 + (p 8 0 * y + x)) * 8 + k).toNat = (l * 16 + (W * y + x)) * 8 + k := by
      rw [hW, show ((l : Int) * 16 + ((W : Int) * y + x)) * 8 + k = (((l * 16 + (W * y + x)) * 8 + k : Nat) : Int) by simp]
      exact Int.toNat_natCast _
    rw [mapC, ih, e]
    generalize (l * 16 + (W * y + x)) * 8 = B
    by_cases c : B + (k + 1) ≤ j ∧ j < B + (k + 1) + n
    · rw [if_pos c, if_pos (by omega)]
    · rw [if_neg c]
      unfold zup
      by_cases c2 : j = B + k
      · rw [if_pos c2, if_pos (by omega)]
        congr 1
        omega
      · rw [if_neg c2, if_neg (by omega)]
theorem mapC_ok (p : zP) {l W x y : Nat} (hW : p 8 0 = W) (hx : x < W) (hc : W * y + x < 16) (f : Nat → Int) {l' c' : Nat} (hc' : c' < 16) (h : okC p f l' c' ∨ (l' = l ∧ c' = W * y + x)) : okC p (mapC p l x y 8 0 f) l' c' := by
  intro k hk
  rw [mapC_at p hW]
  by_cases e : l' = l ∧ c' = W * y + x
  · obtain ⟨rfl, rfl⟩ := e
    rw [if_pos (by omega), show (l' * 16 + (W * y + x)) * 8 + k - (l' * 16 + (W * y + x)) * 8 = k by omega, hW]
    have hW0 : 0 < W := by omega
    have e1 : (((W * y + x : Nat) : Int)) % (W : Int) = x := by
      rw [← Int.natCast_emod, Nat.mul_add_mod, Nat.mod_eq_of_lt hx]
    have e2 : (((W * y + x : Nat) : Int)) / (W : Int) = y := by
      rw [← Int.natCast_ediv, Nat.mul_add_div hW0, Nat.div_eq_of_lt hx, Nat.add_zero]
    rw [e1, e2]
  · rw [if_neg (by
      generalize W * y + x = c at *
      omega)]
    rcases h with h | h
    · exact h k hk
    · exact absurd h e
theorem mapX_ok (p : zP) {l W y : Nat} (hW : p 8 0 = W) (hy : W * y + W ≤ 16) {l' c' : Nat} (hc' : c' < 16) : ∀ (n x : Nat) (f : Nat → Int), n + x = W → (okC p f l' c' ∨ (l' = l ∧ W * y + x ≤ c' ∧ c' < W * y + W)) → okC p (mapX p l y n x f) l' c' := by
  intro n
  induction n with
  | zero =>
    intro x f hx h
    rw [mapX]
    rcases h with h | h
    · exact h
    · omega
  | succ n ih =>
    intro x f hx h
    rw [mapX]
    apply ih (x + 1) _ (by omega)
    by_cases e : l' = l ∧ W * y + (x + 1) ≤ c' ∧ c' < W * y + W
    · exact Or.inr e
    · left
      apply mapC_ok p hW (by omega) (by omega) f hc'
      rcases h with h | h
      · exact Or.inl h
      · right; omega
theorem mapY_ok (p : zP) {l W H : Nat} (hW : p 8 0 = W) (hA : W * H ≤ 16) {l' c' : Nat} (hc' : c' < 16) : ∀ (n y : Nat) (f : Nat → Int), n + y = H → (okC p f l' c' ∨ (l' = l ∧ W * y ≤ c' ∧ c' < W * H)) → okC p (mapY p l n y f) l' c' := by
  intro n
  induction n with
  | zero =>
    intro y f hy h
    obtain rfl : y = H := by omega
    rw [mapY]
    rcases h with h | h
    · exact h
    · omega
  | succ n ih =>
    intro y f hy h
    rw [mapY, hW, Int.toNat_natCast]
    have hm : W * (y + 1) ≤ W * H := Nat.mul_le_mul_left W (by omega)
    have hs : W * (y + 1) = W * y + W := Nat.mul_succ W y
    apply ih (y + 1) _ (by omega)
    by_cases e : l' = l ∧ W * (y + 1) ≤ c' ∧ c' < W * H
    · exact Or.inr e
    · left
      apply mapX_ok p hW (by omega) hc' W 0 f (by omega)
      rcases h with h | h
      · exact Or.inl h
      · right; omega
theorem mapL_ok (p : zP) {L W H : Nat} (hW : p 8 0 = W) (hH : p 9 0 = H) (hA : W * H ≤ 16) {l' c' : Nat} (hc' : c' < W * H) : ∀ (n l : Nat) (f : Nat → Int), n + l = L → (okC p f l' c' ∨ (l ≤ l' ∧ l' < L)) → okC p (mapL p n l f) l' c' := by
  intro n
  induction n with
  | zero =>
    intro l f hl h
    rw [mapL]
    rcases h with h | h
    · exact h
    · omega
  | succ n ih =>
    intro l f hl h
    rw [mapL, hH, Int.toNat_natCast]
    apply ih (l + 1) _ (by omega)
    by_cases e : l + 1 ≤ l' ∧ l' < L
    · exact Or.inr e
    · left
      apply mapY_ok p hW hA (by omega) H 0 f (by omega)
      rcases h with h | h
      · exact Or.inl h
      · right
        exact ⟨by omega, by omega, hc'⟩
theorem lkP_map {p : zP} (hw : wfP p) : wfP (mapP p) ∧ lkP (mapP p) := by
  have ha := wfP_area hw
  obtain ⟨⟨w1, w2, w3, w4, w5, w6⟩, -⟩ := id hw
  obtain ⟨W, hW⟩ : ∃ W : Nat, p 8 0 = W := ⟨(p 8 0).toNat, by omega⟩
  obtain ⟨H, hH⟩ : ∃ H : Nat, p 9 0 = H := ⟨(p 9 0).toNat, by omega⟩
  obtain ⟨L, hL⟩ : ∃ L : Nat, p 10 0 = L := ⟨(p 10 0).toNat, by omega⟩
  refine ⟨wfP_3 _ hw, ?_⟩
  intro l c hl0 hl1 hc0 hc1 k hk
  unfold mapP at hl1 hc1 ⊢
  rw [pset_ne (by decide)] at hl1
  rw [pset_ne (by decide), pset_ne (by decide)] at hc1
  rw [pset_eq, rch_3, pset_ne (by decide)]
  obtain ⟨l', rfl⟩ : ∃ m : Nat, l = m := ⟨l.toNat, by omega⟩
  obtain ⟨c', rfl⟩ : ∃ m : Nat, c = m := ⟨c.toNat, by omega⟩
  have hA : W * H ≤ 16 := by
    have : ((W * H : Nat) : Int) ≤ 16 := by rw [Int.natCast_mul, ← hW, ← hH]; exact ha.2
    omega
  have hcl : c' < W * H := by
    have : ((c' : Nat) : Int) < ((W * H : Nat) : Int) := by rw [Int.natCast_mul, ← hW, ← hH]; exact hc1
    omega
  have h := mapL_ok p (L := L) (l' := l') (c' := c') hW hH hA hcl (p 10 0).toNat 0 (p 3) (by omega) (Or.inr ⟨by omega, by omega⟩) k hk
  rw [show (((l' : Int) * 16 + c') * 8 + k).toNat = (l' * 16 + c') * 8 + k by omega, Int.toNat_natCast]
  exact h
