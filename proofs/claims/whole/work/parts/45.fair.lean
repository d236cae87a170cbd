-- fairest
section FA
variable {N gp : Nat} {σ : zS}
def fW (σ : zS) (r : zP) (f : Nat → Int) : zS := gset (gset σ 6 r) 0 (pset (σ 0) 6 f)
theorem fW_6 (r r' : zP) (f : Nat → Int) : gset (fW σ r f) 6 r' = fW σ r' f := by
  unfold fW
  rw [gset_comm (show (0 : Nat) ≠ 6 by decide), gset_gset]
theorem fW_0 (r : zP) (f f' : Nat → Int) : sset (fW σ r f) 0 6 f' = fW σ r f' := by
  rw [sset_eq]
  unfold fW
  rw [gset_at, gset_gset, pset_pset]
theorem fW_ne {r : zP} {f : Nat → Int} {g : Nat} (h6 : g ≠ 6) (h0 : g ≠ 0) : fW σ r f g = σ g := by
  unfold fW
  rw [gset_ne h0, gset_ne h6]
theorem fW_at6 (r : zP) (f : Nat → Int) : fW σ r f 6 = r := by
  unfold fW
  rw [gset_ne (by decide), gset_at]
theorem fW_06 (r : zP) (f : Nat → Int) : fW σ r f 0 6 = f := by
  unfold fW
  rw [gset_at, pset_eq]
theorem fW_0k {r : zP} {f : Nat → Int} {k : Nat} (h : k ≠ 6) : fW σ r f 0 k = σ 0 k := by
  unfold fW
  rw [gset_at, pset_ne h]
theorem fW_self : fW σ (σ 6) (σ 0 6) = σ := by
  unfold fW
  rw [gset_self, pset_self, gset_self]
theorem IC_fW {r : zP} {f : Nat → Int} (hI : IC σ gp) (hr : MR r) (h4 : r 4 0 ≤ 90000) : IC (fW σ r f) gp := by
  obtain ⟨i1, i2, i3, i4, i5, i6, i7, i8⟩ := hI
  have e : fW σ r f gp = σ gp := fW_ne (by omega) (by omega)
  unfold IC
  rw [e, fW_at6, fW_ne (g := 2) (by decide) (by decide), fW_0k (by decide), fW_0k (by decide), fW_0k (by decide)]
  exact ⟨i1, i2, i3, i4, i5, i6, hr, h4⟩
def frJ (V : Nat → Nat → Int) (i : Nat) : Nat → Nat → (Nat → Int) → (Nat → Int)
  | 0, _, f => f
  | n + 1, j, f => frJ V i n (j + 1) (zup f (i * 3 + j) (V i j))
def frI (V : Nat → Nat → Int) (L : Nat) : Nat → Nat → (Nat → Int) → (Nat → Int)
  | 0, _, f => f
  | n + 1, i, f => frI V L n (i + 1) (frJ V i L 0 f)
/-- the value by laws -/
def vLw (p q : zP) (n : Int) (i j : Nat) : Int := valQ p (r2 i j) (hoO p) q (kW q) n
theorem z_fairJ_lp (hN : 48 ≤ N) (hI : IC σ gp) {L : Nat} (hL : σ gp 10 0 = L) {n0 : Int} (hn : 0 ≤ n0 ∧ n0 ≤ 3) {i : Nat} (hi : i < L) (E : Nat) : ∀ (n j : Nat) (r : zP) (f : Nat → Int), n + j = L → MR r → r 4 0 + n ≤ 90000 → ∃ r', rz_den (rz_dM (E + 42)) (rz_at tb_X4_fairest) (some .int) 26 [some (.ref (bs 0)), some (.int (zI n0)), some (.int (zI i)), some (.int (zI j))] [] (wOf N (fW σ r f)) = rz_den (rz_dM (E + 42)) (rz_at tb_X4_fairest) (some .int) 62 [some (.ref (bs 0)), some (.int (zI n0)), some (.int (zI i)), some (.int (zI L))] [] (wOf N (fW σ r' (frJ (vLw (σ gp) (σ 2) n0) i n j f))) ∧ MR r' ∧ r' 4 0 = r 4 0 + n := by
  have hI' := hI
  obtain ⟨i1, ⟨i2, i2'⟩, i3, i4, i5, i6, i7, i8⟩ := hI'
  have e7 : (σ 0 7 0).toNat = gp := by omega
  have w := i3.1
  intro n
  induction n with
  | zero =>
    intro j r f hj hr h4
    obtain rfl : j = L := by omega
    refine ⟨r, ?_, hr, by omega⟩
    have c : ¬ (j : Int) < j := by omega
    have eL : fW σ r f gp 10 0 = j := by rw [fW_ne (by omega) (by omega)]; exact hL
    rw [s_O_fairest_26, frJ]
    simp (disch := first | omega | exact Nat.le_of_ble_eq_true rfl) only [e_O_fairest, s_O_fairest_0, s_O_fairest_1, s_O_fairest_4, s_O_fairest_5, s_O_fairest_6, s_O_fairest_9, s_O_fairest_10, s_O_fairest_11, s_O_fairest_12, s_O_fairest_14, s_O_fairest_15, s_O_fairest_18, s_O_fairest_21, s_O_fairest_24, s_O_fairest_25, s_O_fairest_27, s_O_fairest_28, s_O_fairest_31, s_O_fairest_34, s_O_fairest_37, s_O_fairest_38, s_O_fairest_41, s_O_fairest_42, s_O_fairest_43, s_O_fairest_44, s_O_fairest_45, s_O_fairest_46, s_O_fairest_47, s_O_fairest_48, s_O_fairest_49, s_O_fairest_50, s_O_fairest_53, s_O_fairest_56, s_O_fairest_59, s_O_fairest_65, s_O_fairest_68, s_O_fairest_69, s_O_fairest_71, s_O_fairest_72, s_O_fairest_75, s_O_fairest_78, s_O_fairest_81, s_O_fairest_82, s_O_fairest_84, s_O_fairest_85, s_O_fairest_88, s_O_fairest_91, s_O_fairest_94, s_O_fairest_95, s_O_fairest_96, s_O_fairest_97, s_O_fairest_100, s_O_fairest_103, s_O_fairest_105, s_O_fairest_106, s_O_fairest_107, s_O_fairest_108, s_O_fairest_109, s_O_fairest_110, s_O_fairest_113, s_O_fairest_116, s_O_fairest_119, s_O_fairest_122, s_O_fairest_124, Option.bind_some, Option.bind_none, Option.toList_some, Option.toList_none, List.cons_append, List.nil_append, if_true, if_false, rz_clr, true_or, or_true, z00, z11, bZ_eq0, bZ_eq1, nor_self, if_pos, if_neg, zI_add, zI_sub, zI_mul, zI_neg, zI_lt, zI_le, zI_eq, c_O, f_O_0, f_O_1, f_O_2, f_O_3, f_O_4, f_O_5, f_O_6, l_O_6, r_O_6, w_O_6, f_O_7, u_O_7, f_O_8, u_O_8, f_O_9, u_O_9, f_O_10, u_O_10, c_P, f_P_0, l_P_0, r_P_0, w_P_0, f_P_1, l_P_1, r_P_1, w_P_1, f_P_2, l_P_2, r_P_2, w_P_2, f_P_3, l_P_3, r_P_3, w_P_3, f_P_4, l_P_4, r_P_4, w_P_4, f_P_5, l_P_5, r_P_5, w_P_5, f_P_6, l_P_6, r_P_6, w_P_6, f_P_7, l_P_7, r_P_7, w_P_7, f_P_8, u_P_8, f_P_9, u_P_9, f_P_10, u_P_10, fW_0k, e7, eL, c]
  | succ n ih =>
    intro j r f hj hr h4
    have c : (j : Int) < L := by omega
    have eL : fW σ r f gp 10 0 = L := by rw [fW_ne (by omega) (by omega)]; exact hL
    obtain ⟨r1, a1, a2, a3⟩ := z_valueByLaws (N := N) (σ := fW σ r f) hN (IC_fW hI hr (by omega)) (l0 := i) (l1 := j) (by omega) (by omega) (n := n0) (by omega) E
    rw [fW_6, fW_ne (g := gp) (by omega) (by omega), fW_ne (g := 2) (by decide) (by decide), show valQ (σ gp) (r2 i j) (hoO (σ gp)) (σ 2) (kW (σ 2)) n0 = vLw (σ gp) (σ 2) n0 i j from rfl] at a1
    rw [fW_at6] at a3
    obtain ⟨r2, b1, b2, b3⟩ := ih (j + 1) r1 (zup f (i * 3 + j) (vLw (σ gp) (σ 2) n0 i j)) (by omega) a2 (by omega)
    simp only [Int.natCast_add, Int.natCast_one] at b1
    refine ⟨r2, ?_, b2, by omega⟩
    have ei : ((i : Int) * 3 + j).toNat = i * 3 + j := by omega
    rw [s_O_fairest_26, frJ]
    simp (disch := first | omega | exact Nat.le_of_ble_eq_true rfl) only [e_O_fairest, s_O_fairest_0, s_O_fairest_1, s_O_fairest_4, s_O_fairest_5, s_O_fairest_6, s_O_fairest_9, s_O_fairest_10, s_O_fairest_11, s_O_fairest_12, s_O_fairest_14, s_O_fairest_15, s_O_fairest_18, s_O_fairest_21, s_O_fairest_24, s_O_fairest_25, s_O_fairest_27, s_O_fairest_28, s_O_fairest_31, s_O_fairest_34, s_O_fairest_37, s_O_fairest_38, s_O_fairest_41, s_O_fairest_42, s_O_fairest_43, s_O_fairest_44, s_O_fairest_45, s_O_fairest_46, s_O_fairest_47, s_O_fairest_48, s_O_fairest_49, s_O_fairest_50, s_O_fairest_53, s_O_fairest_56, s_O_fairest_59, s_O_fairest_65, s_O_fairest_68, s_O_fairest_69, s_O_fairest_71, s_O_fairest_72, s_O_fairest_75, s_O_fairest_78, s_O_fairest_81, s_O_fairest_82, s_O_fairest_84, s_O_fairest_85, s_O_fairest_88, s_O_fairest_91, s_O_fairest_94, s_O_fairest_95, s_O_fairest_96, s_O_fairest_97, s_O_fairest_100, s_O_fairest_103, s_O_fairest_105, s_O_fairest_106, s_O_fairest_107, s_O_fairest_108, s_O_fairest_109, s_O_fairest_110, s_O_fairest_113, s_O_fairest_116, s_O_fairest_119, s_O_fairest_122, s_O_fairest_124, Option.bind_some, Option.bind_none, Option.toList_some, Option.toList_none, List.cons_append, List.nil_append, if_true, if_false, rz_clr, true_or, or_true, z00, z11, bZ_eq0, bZ_eq1, nor_self, if_pos, if_neg, zI_add, zI_mul, zI_lt, zI_le, zI_eq, c_O, f_O_0, f_O_1, f_O_2, f_O_3, f_O_4, f_O_5, f_O_6, l_O_6, r_O_6, w_O_6, f_O_7, u_O_7, f_O_8, u_O_8, f_O_9, u_O_9, f_O_10, u_O_10, c_P, f_P_0, l_P_0, r_P_0, w_P_0, f_P_1, l_P_1, r_P_1, w_P_1, f_P_2, l_P_2, r_P_2, w_P_2, f_P_3, l_P_3, r_P_3, w_P_3, f_P_4, l_P_4, r_P_4, w_P_4, f_P_5, l_P_5, r_P_5, w_P_5, f_P_6, l_P_6, r_P_6, w_P_6, f_P_7, l_P_7, r_P_7, w_P_7, f_P_8, u_P_8, f_P_9, u_P_9, f_P_10, u_P_10, p_O_6, pup_in, fW_0, fW_06, fW_0k, e7, eL, c, a1, ei, b1]
theorem z_fairI_lp (hN : 48 ≤ N) (hI : IC σ gp) {L : Nat} (hL : σ gp 10 0 = L) {n0 : Int} (hn : 0 ≤ n0 ∧ n0 ≤ 3) (E : Nat) : ∀ (n i : Nat) (r : zP) (f : Nat → Int) (l3 : Option Value), n + i = L → MR r → r 4 0 + n * 3 ≤ 90000 → ∃ r' l3', rz_den (rz_dM (E + 42)) (rz_at tb_X4_fairest) (some .int) 13 [some (.ref (bs 0)), some (.int (zI n0)), some (.int (zI i)), l3] [] (wOf N (fW σ r f)) = rz_den (rz_dM (E + 42)) (rz_at tb_X4_fairest) (some .int) 68 [some (.ref (bs 0)), some (.int (zI n0)), some (.int (zI L)), l3'] [] (wOf N (fW σ r' (frI (vLw (σ gp) (σ 2) n0) L n i f))) ∧ MR r' ∧ r' 4 0 ≤ r 4 0 + n * 3 := by
  have hI' := hI
  obtain ⟨i1, ⟨i2, i2'⟩, i3, i4, i5, i6, i7, i8⟩ := hI'
  have e7 : (σ 0 7 0).toNat = gp := by omega
  have w := i3.1
  intro n
  induction n with
  | zero =>
    intro i r f l3 hi hr h4
    obtain rfl : i = L := by omega
    refine ⟨r, l3, ?_, hr, by omega⟩
    have c : ¬ (i : Int) < i := by omega
    have eL : fW σ r f gp 10 0 = i := by rw [fW_ne (by omega) (by omega)]; exact hL
    rw [s_O_fairest_13, frI]
    simp (disch := first | omega | exact Nat.le_of_ble_eq_true rfl) only [e_O_fairest, s_O_fairest_0, s_O_fairest_1, s_O_fairest_4, s_O_fairest_5, s_O_fairest_6, s_O_fairest_9, s_O_fairest_10, s_O_fairest_11, s_O_fairest_12, s_O_fairest_14, s_O_fairest_15, s_O_fairest_18, s_O_fairest_21, s_O_fairest_24, s_O_fairest_25, s_O_fairest_27, s_O_fairest_28, s_O_fairest_31, s_O_fairest_34, s_O_fairest_37, s_O_fairest_38, s_O_fairest_41, s_O_fairest_42, s_O_fairest_43, s_O_fairest_44, s_O_fairest_45, s_O_fairest_46, s_O_fairest_47, s_O_fairest_48, s_O_fairest_49, s_O_fairest_50, s_O_fairest_53, s_O_fairest_56, s_O_fairest_59, s_O_fairest_62, s_O_fairest_65, s_O_fairest_69, s_O_fairest_71, s_O_fairest_72, s_O_fairest_75, s_O_fairest_78, s_O_fairest_81, s_O_fairest_82, s_O_fairest_84, s_O_fairest_85, s_O_fairest_88, s_O_fairest_91, s_O_fairest_94, s_O_fairest_95, s_O_fairest_96, s_O_fairest_97, s_O_fairest_100, s_O_fairest_103, s_O_fairest_105, s_O_fairest_106, s_O_fairest_107, s_O_fairest_108, s_O_fairest_109, s_O_fairest_110, s_O_fairest_113, s_O_fairest_116, s_O_fairest_119, s_O_fairest_122, s_O_fairest_124, Option.bind_some, Option.bind_none, Option.toList_some, Option.toList_none, List.cons_append, List.nil_append, if_true, if_false, rz_clr, true_or, or_true, z00, z11, bZ_eq0, bZ_eq1, nor_self, if_pos, if_neg, zI_add, zI_sub, zI_mul, zI_neg, zI_lt, zI_le, zI_eq, c_O, f_O_0, f_O_1, f_O_2, f_O_3, f_O_4, f_O_5, f_O_6, l_O_6, r_O_6, w_O_6, f_O_7, u_O_7, f_O_8, u_O_8, f_O_9, u_O_9, f_O_10, u_O_10, c_P, f_P_0, l_P_0, r_P_0, w_P_0, f_P_1, l_P_1, r_P_1, w_P_1, f_P_2, l_P_2, r_P_2, w_P_2, f_P_3, l_P_3, r_P_3, w_P_3, f_P_4, l_P_4, r_P_4, w_P_4, f_P_5, l_P_5, r_P_5, w_P_5, f_P_6, l_P_6, r_P_6, w_P_6, f_P_7, l_P_7, r_P_7, w_P_7, f_P_8, u_P_8, f_P_9, u_P_9, f_P_10, u_P_10, fW_0k, e7, eL, c]
  | succ n ih =>
    intro i r f l3 hi hr h4
    have c : (i : Int) < L := by omega
    have eL : fW σ r f gp 10 0 = L := by rw [fW_ne (by omega) (by omega)]; exact hL
    obtain ⟨r1, a1, a2, a3⟩ := z_fairJ_lp (N := N) hN hI hL hn (i := i) (by omega) E L 0 r f (by omega) hr (by omega)
    rw [Int.natCast_zero] at a1
    obtain ⟨r2, l3', b1, b2, b3⟩ := ih (i + 1) r1 (frJ (vLw (σ gp) (σ 2) n0) i L 0 f) (some (.int (zI L))) (by omega) a2 (by omega)
    simp only [Int.natCast_add, Int.natCast_one] at b1
    refine ⟨r2, l3', ?_, b2, by omega⟩
    rw [s_O_fairest_13, frI]
    simp (disch := first | omega | exact Nat.le_of_ble_eq_true rfl) only [e_O_fairest, s_O_fairest_0, s_O_fairest_1, s_O_fairest_4, s_O_fairest_5, s_O_fairest_6, s_O_fairest_9, s_O_fairest_10, s_O_fairest_11, s_O_fairest_12, s_O_fairest_14, s_O_fairest_15, s_O_fairest_18, s_O_fairest_21, s_O_fairest_24, s_O_fairest_25, s_O_fairest_27, s_O_fairest_28, s_O_fairest_31, s_O_fairest_34, s_O_fairest_37, s_O_fairest_38, s_O_fairest_41, s_O_fairest_42, s_O_fairest_43, s_O_fairest_44, s_O_fairest_45, s_O_fairest_46, s_O_fairest_47, s_O_fairest_48, s_O_fairest_49, s_O_fairest_50, s_O_fairest_53, s_O_fairest_56, s_O_fairest_59, s_O_fairest_62, s_O_fairest_65, s_O_fairest_68, s_O_fairest_69, s_O_fairest_71, s_O_fairest_72, s_O_fairest_75, s_O_fairest_78, s_O_fairest_81, s_O_fairest_82, s_O_fairest_84, s_O_fairest_85, s_O_fairest_88, s_O_fairest_91, s_O_fairest_94, s_O_fairest_95, s_O_fairest_96, s_O_fairest_97, s_O_fairest_100, s_O_fairest_103, s_O_fairest_105, s_O_fairest_106, s_O_fairest_107, s_O_fairest_108, s_O_fairest_109, s_O_fairest_110, s_O_fairest_113, s_O_fairest_116, s_O_fairest_119, s_O_fairest_122, s_O_fairest_124, Option.bind_some, Option.bind_none, Option.toList_some, Option.toList_none, List.cons_append, List.nil_append, if_true, if_false, rz_clr, true_or, or_true, z00, z11, bZ_eq0, bZ_eq1, nor_self, if_pos, if_neg, zI_add, zI_sub, zI_mul, zI_neg, zI_lt, zI_le, zI_eq, c_O, f_O_0, f_O_1, f_O_2, f_O_3, f_O_4, f_O_5, f_O_6, l_O_6, r_O_6, w_O_6, f_O_7, u_O_7, f_O_8, u_O_8, f_O_9, u_O_9, f_O_10, u_O_10, c_P, f_P_0, l_P_0, r_P_0, w_P_0, f_P_1, l_P_1, r_P_1, w_P_1, f_P_2, l_P_2, r_P_2, w_P_2, f_P_3, l_P_3, r_P_3, w_P_3, f_P_4, l_P_4, r_P_4, w_P_4, f_P_5, l_P_5, r_P_5, w_P_5, f_P_6, l_P_6, r_P_6, w_P_6, f_P_7, l_P_7, r_P_7, w_P_7, f_P_8, u_P_8, f_P_9, u_P_9, f_P_10, u_P_10, fW_0k, e7, eL, c, a1, b1]
theorem frJ_at {V : Nat → Nat → Int} {i : Nat} : ∀ (n j : Nat) (f : Nat → Int) (k : Nat), frJ V i n j f k = if i * 3 + j ≤ k ∧ k < i * 3 + j + n then V i (k - i * 3) else f k := by
  intro n
  induction n with
  | zero => intro j f k; rw [frJ, if_neg (by omega)]
  | succ n ih =>
    intro j f k
    rw [frJ, ih]
    by_cases c : i * 3 + (j + 1) ≤ k ∧ k < i * 3 + (j + 1) + n
    · rw [if_pos c, if_pos (by omega)]
    · rw [if_neg c]
      by_cases c2 : k = i * 3 + j
      · rw [c2, zup_eq, if_pos (by omega), show i * 3 + j - i * 3 = j by omega]
      · rw [zup_ne c2, if_neg (by omega)]
theorem frI_at {V : Nat → Nat → Int} {L : Nat} (hL : L ≤ 3) : ∀ (n i : Nat) (f : Nat → Int), n + i = L → ∀ a b : Nat, a < L → b < L → (i ≤ a ∨ f (a * 3 + b) = V a b) → frI V L n i f (a * 3 + b) = V a b := by
  intro n
  induction n with
  | zero =>
    intro i f hi a b ha hb h
    rw [frI]
    rcases h with h | h
    · omega
    · exact h
  | succ n ih =>
    intro i f hi a b ha hb h
    rw [frI]
    apply ih (i + 1) _ (by omega) a b ha hb
    by_cases c : i + 1 ≤ a
    · exact Or.inl c
    · right
      rw [frJ_at]
      by_cases c2 : a = i
      · rw [c2, if_pos (by omega), show i * 3 + b - i * 3 = b by omega]
      · rw [if_neg (by omega)]
        rcases h with h | h
        · omega
        · exact h
def fairF (V : Nat → Nat → Int) (i j : Nat) : Nat → Bool := fun l => decide (V l j ≤ 0) && decide (0 ≤ V i l)
def fairB (V : Nat → Nat → Int) (L i j : Nat) : Bool := decide (V i j = 0) && aB (fairF V i j) L 0
theorem z_isFair_lp (d : Nat) (hN : 48 ≤ N) (hI : IC σ gp) {L : Nat} (hL : σ gp 10 0 = L) {V : Nat → Nat → Int} (hV : ∀ a b : Nat, a < L → b < L → σ 0 6 (a * 3 + b) = V a b) (hr : ∀ a b, -1 ≤ V a b ∧ V a b ≤ 1) {i j : Nat} (hi : i < L) (hj : j < L) : ∀ n l : Nat, n + l = L → rz_den (rz_dM (d + 1)) (rz_at tb_X4_isFair) (some .boolean) 19 [some (.ref (bs 0)), some (.int (zI i)), some (.int (zI j)), some (.int (zI l))] [] (wOf N σ) = some (some (.int (zI (bZ (aB (fairF V i j) n l = true)))), wOf N σ) := by
  obtain ⟨i1, ⟨i2, i2'⟩, i3, i4, i5, i6, i7, i8⟩ := hI
  have e7 : (σ 0 7 0).toNat = gp := by omega
  have w := i3.1
  intro n
  induction n with
  | zero =>
    intro l hl
    obtain rfl : l = L := by omega
    have c : ¬ (l : Int) < l := by omega
    rw [s_O_isFair_19, aB, bZ_pos rfl]
    simp (disch := first | omega | exact Nat.le_of_ble_eq_true rfl) only [e_O_isFair, s_O_isFair_0, s_O_isFair_1, s_O_isFair_4, s_O_isFair_5, s_O_isFair_6, s_O_isFair_7, s_O_isFair_8, s_O_isFair_9, s_O_isFair_12, s_O_isFair_15, s_O_isFair_16, s_O_isFair_17, s_O_isFair_18, s_O_isFair_20, s_O_isFair_21, s_O_isFair_24, s_O_isFair_27, s_O_isFair_30, s_O_isFair_31, s_O_isFair_34, s_O_isFair_35, s_O_isFair_36, s_O_isFair_37, s_O_isFair_38, s_O_isFair_39, s_O_isFair_42, s_O_isFair_45, s_O_isFair_46, s_O_isFair_49, s_O_isFair_50, s_O_isFair_51, s_O_isFair_52, s_O_isFair_53, s_O_isFair_54, s_O_isFair_57, s_O_isFair_60, s_O_isFair_61, s_O_isFair_62, s_O_isFair_65, s_O_isFair_68, s_O_isFair_69, Option.bind_some, Option.bind_none, Option.toList_some, Option.toList_none, List.cons_append, List.nil_append, if_true, if_false, rz_clr, true_or, or_true, z00, z11, bZ_eq0, bZ_eq1, nor_self, if_pos, if_neg, zI_add, zI_sub, zI_mul, zI_neg, zI_lt, zI_le, zI_eq, c_O, f_O_0, f_O_1, f_O_2, f_O_3, f_O_4, f_O_5, f_O_6, l_O_6, r_O_6, w_O_6, f_O_7, u_O_7, f_O_8, u_O_8, f_O_9, u_O_9, f_O_10, u_O_10, c_P, f_P_0, l_P_0, r_P_0, w_P_0, f_P_1, l_P_1, r_P_1, w_P_1, f_P_2, l_P_2, r_P_2, w_P_2, f_P_3, l_P_3, r_P_3, w_P_3, f_P_4, l_P_4, r_P_4, w_P_4, f_P_5, l_P_5, r_P_5, w_P_5, f_P_6, l_P_6, r_P_6, w_P_6, f_P_7, l_P_7, r_P_7, w_P_7, f_P_8, u_P_8, f_P_9, u_P_9, f_P_10, u_P_10, e7, hL, c]
  | succ n ih =>
    intro l hl
    have c : (l : Int) < L := by omega
    have ih' := ih (l + 1) (by omega)
    simp only [Int.natCast_add, Int.natCast_one] at ih'
    have e1 : gat 9 (σ 0 6) ((l : Int) * 3 + j) = V l j := by
      rw [gat_of (by omega) (by omega), show ((l : Int) * 3 + j).toNat = l * 3 + j by omega]
      exact hV l j (by omega) hj
    have e2 : gat 9 (σ 0 6) ((i : Int) * 3 + l) = V i l := by
      rw [gat_of (by omega) (by omega), show ((i : Int) * 3 + l).toNat = i * 3 + l by omega]
      exact hV i l hi (by omega)
    have r1 := hr l j
    have r2 := hr i l
    rw [s_O_isFair_19, aB]
    unfold fairF at ih' ⊢
    by_cases c1 : V l j ≤ 0
    · by_cases c2 : 0 ≤ V i l
      · rw [decide_eq_true c1, decide_eq_true c2, Bool.true_and, Bool.true_and]
        simp (disch := first | omega | exact Nat.le_of_ble_eq_true rfl) only [e_O_isFair, s_O_isFair_0, s_O_isFair_1, s_O_isFair_4, s_O_isFair_5, s_O_isFair_6, s_O_isFair_7, s_O_isFair_8, s_O_isFair_9, s_O_isFair_12, s_O_isFair_15, s_O_isFair_16, s_O_isFair_17, s_O_isFair_18, s_O_isFair_20, s_O_isFair_21, s_O_isFair_24, s_O_isFair_27, s_O_isFair_30, s_O_isFair_31, s_O_isFair_34, s_O_isFair_35, s_O_isFair_36, s_O_isFair_37, s_O_isFair_38, s_O_isFair_39, s_O_isFair_42, s_O_isFair_45, s_O_isFair_46, s_O_isFair_49, s_O_isFair_50, s_O_isFair_51, s_O_isFair_52, s_O_isFair_53, s_O_isFair_54, s_O_isFair_57, s_O_isFair_60, s_O_isFair_61, s_O_isFair_62, s_O_isFair_65, s_O_isFair_68, s_O_isFair_69, Option.bind_some, Option.bind_none, Option.toList_some, Option.toList_none, List.cons_append, List.nil_append, if_true, if_false, rz_clr, true_or, or_true, z00, z11, bZ_eq0, bZ_eq1, nor_self, if_pos, if_neg, zI_add, zI_mul, zI_lt, zI_le, zI_eq, c_O, f_O_0, f_O_1, f_O_2, f_O_3, f_O_4, f_O_5, f_O_6, l_O_6, r_O_6, w_O_6, f_O_7, u_O_7, f_O_8, u_O_8, f_O_9, u_O_9, f_O_10, u_O_10, c_P, f_P_0, l_P_0, r_P_0, w_P_0, f_P_1, l_P_1, r_P_1, w_P_1, f_P_2, l_P_2, r_P_2, w_P_2, f_P_3, l_P_3, r_P_3, w_P_3, f_P_4, l_P_4, r_P_4, w_P_4, f_P_5, l_P_5, r_P_5, w_P_5, f_P_6, l_P_6, r_P_6, w_P_6, f_P_7, l_P_7, r_P_7, w_P_7, f_P_8, u_P_8, f_P_9, u_P_9, f_P_10, u_P_10, a_O_6, e7, hL, c, e1, e2, c1, c2, ih']
      · rw [decide_eq_true c1, decide_eq_false c2, Bool.true_and, Bool.false_and, bZ_neg (by decide)]
        simp (disch := first | omega | exact Nat.le_of_ble_eq_true rfl) only [e_O_isFair, s_O_isFair_0, s_O_isFair_1, s_O_isFair_4, s_O_isFair_5, s_O_isFair_6, s_O_isFair_7, s_O_isFair_8, s_O_isFair_9, s_O_isFair_12, s_O_isFair_15, s_O_isFair_16, s_O_isFair_17, s_O_isFair_18, s_O_isFair_20, s_O_isFair_21, s_O_isFair_24, s_O_isFair_27, s_O_isFair_30, s_O_isFair_31, s_O_isFair_34, s_O_isFair_35, s_O_isFair_36, s_O_isFair_37, s_O_isFair_38, s_O_isFair_39, s_O_isFair_42, s_O_isFair_45, s_O_isFair_46, s_O_isFair_49, s_O_isFair_50, s_O_isFair_51, s_O_isFair_52, s_O_isFair_53, s_O_isFair_54, s_O_isFair_57, s_O_isFair_60, s_O_isFair_61, s_O_isFair_62, s_O_isFair_65, s_O_isFair_68, s_O_isFair_69, Option.bind_some, Option.bind_none, Option.toList_some, Option.toList_none, List.cons_append, List.nil_append, if_true, if_false, rz_clr, true_or, or_true, z00, z11, bZ_eq0, bZ_eq1, nor_self, if_pos, if_neg, zI_add, zI_mul, zI_lt, zI_le, zI_eq, c_O, f_O_0, f_O_1, f_O_2, f_O_3, f_O_4, f_O_5, f_O_6, l_O_6, r_O_6, w_O_6, f_O_7, u_O_7, f_O_8, u_O_8, f_O_9, u_O_9, f_O_10, u_O_10, c_P, f_P_0, l_P_0, r_P_0, w_P_0, f_P_1, l_P_1, r_P_1, w_P_1, f_P_2, l_P_2, r_P_2, w_P_2, f_P_3, l_P_3, r_P_3, w_P_3, f_P_4, l_P_4, r_P_4, w_P_4, f_P_5, l_P_5, r_P_5, w_P_5, f_P_6, l_P_6, r_P_6, w_P_6, f_P_7, l_P_7, r_P_7, w_P_7, f_P_8, u_P_8, f_P_9, u_P_9, f_P_10, u_P_10, a_O_6, e7, hL, c, e1, e2, c1, c2]
    · rw [decide_eq_false c1, Bool.false_and, Bool.false_and, bZ_neg (by decide)]
      simp (disch := first | omega | exact Nat.le_of_ble_eq_true rfl) only [e_O_isFair, s_O_isFair_0, s_O_isFair_1, s_O_isFair_4, s_O_isFair_5, s_O_isFair_6, s_O_isFair_7, s_O_isFair_8, s_O_isFair_9, s_O_isFair_12, s_O_isFair_15, s_O_isFair_16, s_O_isFair_17, s_O_isFair_18, s_O_isFair_20, s_O_isFair_21, s_O_isFair_24, s_O_isFair_27, s_O_isFair_30, s_O_isFair_31, s_O_isFair_34, s_O_isFair_35, s_O_isFair_36, s_O_isFair_37, s_O_isFair_38, s_O_isFair_39, s_O_isFair_42, s_O_isFair_45, s_O_isFair_46, s_O_isFair_49, s_O_isFair_50, s_O_isFair_51, s_O_isFair_52, s_O_isFair_53, s_O_isFair_54, s_O_isFair_57, s_O_isFair_60, s_O_isFair_61, s_O_isFair_62, s_O_isFair_65, s_O_isFair_68, s_O_isFair_69, Option.bind_some, Option.bind_none, Option.toList_some, Option.toList_none, List.cons_append, List.nil_append, if_true, if_false, rz_clr, true_or, or_true, z00, z11, bZ_eq0, bZ_eq1, nor_self, if_pos, if_neg, zI_add, zI_mul, zI_lt, zI_le, zI_eq, c_O, f_O_0, f_O_1, f_O_2, f_O_3, f_O_4, f_O_5, f_O_6, l_O_6, r_O_6, w_O_6, f_O_7, u_O_7, f_O_8, u_O_8, f_O_9, u_O_9, f_O_10, u_O_10, c_P, f_P_0, l_P_0, r_P_0, w_P_0, f_P_1, l_P_1, r_P_1, w_P_1, f_P_2, l_P_2, r_P_2, w_P_2, f_P_3, l_P_3, r_P_3, w_P_3, f_P_4, l_P_4, r_P_4, w_P_4, f_P_5, l_P_5, r_P_5, w_P_5, f_P_6, l_P_6, r_P_6, w_P_6, f_P_7, l_P_7, r_P_7, w_P_7, f_P_8, u_P_8, f_P_9, u_P_9, f_P_10, u_P_10, a_O_6, e7, hL, c, e1, c1]
theorem z_isFair (d : Nat) (hN : 48 ≤ N) (hI : IC σ gp) {L : Nat} (hL : σ gp 10 0 = L) {V : Nat → Nat → Int} (hV : ∀ a b : Nat, a < L → b < L → σ 0 6 (a * 3 + b) = V a b) (hr : ∀ a b, -1 ≤ V a b ∧ V a b ≤ 1) {i j : Nat} (hi : i < L) (hj : j < L) : rz_dM (d + 2) iO_isFair [.ref (bs 0), .int (zI i), .int (zI j)] (wOf N σ) = some (some (.int (zI (bZ (fairB V L i j = true)))), wOf N σ) := by
  have w := hI.2.2.1.1
  have h := z_isFair_lp (N := N) d hN hI hL hV hr hi hj L 0 (by omega)
  rw [Int.natCast_zero] at h
  have e1 : gat 9 (σ 0 6) ((i : Int) * 3 + j) = V i j := by
    rw [gat_of (by omega) (by omega), show ((i : Int) * 3 + j).toNat = i * 3 + j by omega]
    exact hV i j hi hj
  have r1 := hr i j
  unfold fairB
  by_cases c : V i j = 0
  · rw [decide_eq_true c, Bool.true_and]
    simp (disch := first | omega | exact Nat.le_of_ble_eq_true rfl) only [e_O_isFair, s_O_isFair_0, s_O_isFair_1, s_O_isFair_4, s_O_isFair_5, s_O_isFair_6, s_O_isFair_7, s_O_isFair_8, s_O_isFair_9, s_O_isFair_12, s_O_isFair_15, s_O_isFair_16, s_O_isFair_17, s_O_isFair_18, s_O_isFair_20, s_O_isFair_21, s_O_isFair_24, s_O_isFair_27, s_O_isFair_30, s_O_isFair_31, s_O_isFair_34, s_O_isFair_35, s_O_isFair_36, s_O_isFair_37, s_O_isFair_38, s_O_isFair_39, s_O_isFair_42, s_O_isFair_45, s_O_isFair_46, s_O_isFair_49, s_O_isFair_50, s_O_isFair_51, s_O_isFair_52, s_O_isFair_53, s_O_isFair_54, s_O_isFair_57, s_O_isFair_60, s_O_isFair_61, s_O_isFair_62, s_O_isFair_65, s_O_isFair_68, s_O_isFair_69, Option.bind_some, Option.bind_none, Option.toList_some, Option.toList_none, List.cons_append, List.nil_append, if_true, if_false, rz_clr, true_or, or_true, z00, z11, bZ_eq0, bZ_eq1, nor_self, if_pos, if_neg, zI_add, zI_mul, zI_lt, zI_le, zI_eq, c_O, f_O_0, f_O_1, f_O_2, f_O_3, f_O_4, f_O_5, f_O_6, l_O_6, r_O_6, w_O_6, f_O_7, u_O_7, f_O_8, u_O_8, f_O_9, u_O_9, f_O_10, u_O_10, a_O_6, e1, c, h]
  · rw [decide_eq_false c, Bool.false_and, bZ_neg (by decide)]
    simp (disch := first | omega | exact Nat.le_of_ble_eq_true rfl) only [e_O_isFair, s_O_isFair_0, s_O_isFair_1, s_O_isFair_4, s_O_isFair_5, s_O_isFair_6, s_O_isFair_7, s_O_isFair_8, s_O_isFair_9, s_O_isFair_12, s_O_isFair_15, s_O_isFair_16, s_O_isFair_17, s_O_isFair_18, s_O_isFair_20, s_O_isFair_21, s_O_isFair_24, s_O_isFair_27, s_O_isFair_30, s_O_isFair_31, s_O_isFair_34, s_O_isFair_35, s_O_isFair_36, s_O_isFair_37, s_O_isFair_38, s_O_isFair_39, s_O_isFair_42, s_O_isFair_45, s_O_isFair_46, s_O_isFair_49, s_O_isFair_50, s_O_isFair_51, s_O_isFair_52, s_O_isFair_53, s_O_isFair_54, s_O_isFair_57, s_O_isFair_60, s_O_isFair_61, s_O_isFair_62, s_O_isFair_65, s_O_isFair_68, s_O_isFair_69, Option.bind_some, Option.bind_none, Option.toList_some, Option.toList_none, List.cons_append, List.nil_append, if_true, if_false, rz_clr, true_or, or_true, z00, z11, bZ_eq0, bZ_eq1, nor_self, if_pos, if_neg, zI_add, zI_mul, zI_lt, zI_le, zI_eq, c_O, f_O_0, f_O_1, f_O_2, f_O_3, f_O_4, f_O_5, f_O_6, l_O_6, r_O_6, w_O_6, f_O_7, u_O_7, f_O_8, u_O_8, f_O_9, u_O_9, f_O_10, u_O_10, a_O_6, e1, c]
def fsJ (F : Nat → Nat → Bool) (i : Nat) : Nat → Nat → Int
  | 0, _ => -9
  | n + 1, j => if F i j = true then 10 * i + j else fsJ F i n (j + 1)
def fsI (F : Nat → Nat → Bool) (L : Nat) : Nat → Nat → Int
  | 0, _ => -9
  | n + 1, i => if fsJ F i L 0 = -9 then fsI F L n (i + 1) else fsJ F i L 0
theorem z_fairS_J (E : Nat) (hN : 48 ≤ N) (hI : IC σ gp) {L : Nat} (hL : σ gp 10 0 = L) {V : Nat → Nat → Int} (hV : ∀ a b : Nat, a < L → b < L → σ 0 6 (a * 3 + b) = V a b) (hr : ∀ a b, -1 ≤ V a b ∧ V a b ≤ 1) {n0 : Int} {i : Nat} (hi : i < L) : ∀ n j : Nat, n + j = L → rz_den (rz_dM (E + 42)) (rz_at tb_X4_fairest) (some .int) 83 [some (.ref (bs 0)), some (.int (zI n0)), some (.int (zI i)), some (.int (zI j))] [] (wOf N σ) = if fsJ (fairB V L) i n j = -9 then rz_den (rz_dM (E + 42)) (rz_at tb_X4_fairest) (some .int) 116 [some (.ref (bs 0)), some (.int (zI n0)), some (.int (zI i)), some (.int (zI L))] [] (wOf N σ) else some (some (.int (zI (fsJ (fairB V L) i n j))), wOf N σ) := by
  have hI' := hI
  obtain ⟨i1, ⟨i2, i2'⟩, i3, i4, i5, i6, i7, i8⟩ := hI'
  have e7 : (σ 0 7 0).toNat = gp := by omega
  have w := i3.1
  intro n
  induction n with
  | zero =>
    intro j hj
    obtain rfl : j = L := by omega
    have c : ¬ (j : Int) < j := by omega
    rw [s_O_fairest_83, fsJ, if_pos rfl]
    simp (disch := first | omega | exact Nat.le_of_ble_eq_true rfl) only [e_O_fairest, s_O_fairest_0, s_O_fairest_1, s_O_fairest_4, s_O_fairest_5, s_O_fairest_6, s_O_fairest_9, s_O_fairest_10, s_O_fairest_11, s_O_fairest_12, s_O_fairest_13, s_O_fairest_14, s_O_fairest_15, s_O_fairest_18, s_O_fairest_21, s_O_fairest_24, s_O_fairest_25, s_O_fairest_26, s_O_fairest_27, s_O_fairest_28, s_O_fairest_31, s_O_fairest_34, s_O_fairest_37, s_O_fairest_38, s_O_fairest_41, s_O_fairest_42, s_O_fairest_43, s_O_fairest_44, s_O_fairest_45, s_O_fairest_46, s_O_fairest_47, s_O_fairest_48, s_O_fairest_49, s_O_fairest_50, s_O_fairest_53, s_O_fairest_56, s_O_fairest_59, s_O_fairest_62, s_O_fairest_65, s_O_fairest_68, s_O_fairest_69, s_O_fairest_70, s_O_fairest_71, s_O_fairest_72, s_O_fairest_75, s_O_fairest_78, s_O_fairest_81, s_O_fairest_82, s_O_fairest_84, s_O_fairest_85, s_O_fairest_88, s_O_fairest_91, s_O_fairest_94, s_O_fairest_95, s_O_fairest_96, s_O_fairest_97, s_O_fairest_100, s_O_fairest_103, s_O_fairest_105, s_O_fairest_106, s_O_fairest_107, s_O_fairest_108, s_O_fairest_109, s_O_fairest_110, s_O_fairest_113, s_O_fairest_119, s_O_fairest_122, s_O_fairest_124, Option.bind_some, Option.bind_none, Option.toList_some, Option.toList_none, List.cons_append, List.nil_append, if_true, if_false, rz_clr, true_or, or_true, z00, z11, bZ_eq0, bZ_eq1, nor_self, if_pos, if_neg, zI_add, zI_sub, zI_mul, zI_neg, zI_lt, zI_le, zI_eq, c_O, f_O_0, f_O_1, f_O_2, f_O_3, f_O_4, f_O_5, f_O_6, l_O_6, r_O_6, w_O_6, f_O_7, u_O_7, f_O_8, u_O_8, f_O_9, u_O_9, f_O_10, u_O_10, c_P, f_P_0, l_P_0, r_P_0, w_P_0, f_P_1, l_P_1, r_P_1, w_P_1, f_P_2, l_P_2, r_P_2, w_P_2, f_P_3, l_P_3, r_P_3, w_P_3, f_P_4, l_P_4, r_P_4, w_P_4, f_P_5, l_P_5, r_P_5, w_P_5, f_P_6, l_P_6, r_P_6, w_P_6, f_P_7, l_P_7, r_P_7, w_P_7, f_P_8, u_P_8, f_P_9, u_P_9, f_P_10, u_P_10, e7, hL, c]
  | succ n ih =>
    intro j hj
    have c : (j : Int) < L := by omega
    have ih' := ih (j + 1) (by omega)
    simp only [Int.natCast_add, Int.natCast_one] at ih'
    have hf := z_isFair (N := N) (E + 40) hN hI hL hV hr hi (j := j) (by omega)
    rw [s_O_fairest_83, fsJ]
    by_cases cf : fairB V L i j = true
    · rw [bZ_pos cf] at hf
      rw [if_pos cf, if_neg (by omega)]
      simp (disch := first | omega | exact Nat.le_of_ble_eq_true rfl) only [e_O_fairest, s_O_fairest_0, s_O_fairest_1, s_O_fairest_4, s_O_fairest_5, s_O_fairest_6, s_O_fairest_9, s_O_fairest_10, s_O_fairest_11, s_O_fairest_12, s_O_fairest_13, s_O_fairest_14, s_O_fairest_15, s_O_fairest_18, s_O_fairest_21, s_O_fairest_24, s_O_fairest_25, s_O_fairest_26, s_O_fairest_27, s_O_fairest_28, s_O_fairest_31, s_O_fairest_34, s_O_fairest_37, s_O_fairest_38, s_O_fairest_41, s_O_fairest_42, s_O_fairest_43, s_O_fairest_44, s_O_fairest_45, s_O_fairest_46, s_O_fairest_47, s_O_fairest_48, s_O_fairest_49, s_O_fairest_50, s_O_fairest_53, s_O_fairest_56, s_O_fairest_59, s_O_fairest_62, s_O_fairest_65, s_O_fairest_68, s_O_fairest_69, s_O_fairest_70, s_O_fairest_71, s_O_fairest_72, s_O_fairest_75, s_O_fairest_78, s_O_fairest_81, s_O_fairest_82, s_O_fairest_84, s_O_fairest_85, s_O_fairest_88, s_O_fairest_91, s_O_fairest_94, s_O_fairest_95, s_O_fairest_96, s_O_fairest_97, s_O_fairest_100, s_O_fairest_103, s_O_fairest_105, s_O_fairest_106, s_O_fairest_107, s_O_fairest_108, s_O_fairest_109, s_O_fairest_110, s_O_fairest_113, s_O_fairest_119, s_O_fairest_122, s_O_fairest_124, Option.bind_some, Option.bind_none, Option.toList_some, Option.toList_none, List.cons_append, List.nil_append, if_true, if_false, rz_clr, true_or, or_true, z00, z11, bZ_eq0, bZ_eq1, nor_self, if_pos, if_neg, zI_add, zI_mul, zI_lt, zI_le, zI_eq, c_O, f_O_0, f_O_1, f_O_2, f_O_3, f_O_4, f_O_5, f_O_6, l_O_6, r_O_6, w_O_6, f_O_7, u_O_7, f_O_8, u_O_8, f_O_9, u_O_9, f_O_10, u_O_10, c_P, f_P_0, l_P_0, r_P_0, w_P_0, f_P_1, l_P_1, r_P_1, w_P_1, f_P_2, l_P_2, r_P_2, w_P_2, f_P_3, l_P_3, r_P_3, w_P_3, f_P_4, l_P_4, r_P_4, w_P_4, f_P_5, l_P_5, r_P_5, w_P_5, f_P_6, l_P_6, r_P_6, w_P_6, f_P_7, l_P_7, r_P_7, w_P_7, f_P_8, u_P_8, f_P_9, u_P_9, f_P_10, u_P_10, e7, hL, c, hf]
    · rw [bZ_neg cf] at hf
      rw [if_neg cf]
      simp (disch := first | omega | exact Nat.le_of_ble_eq_true rfl) only [e_O_fairest, s_O_fairest_0, s_O_fairest_1, s_O_fairest_4, s_O_fairest_5, s_O_fairest_6, s_O_fairest_9, s_O_fairest_10, s_O_fairest_11, s_O_fairest_12, s_O_fairest_13, s_O_fairest_14, s_O_fairest_15, s_O_fairest_18, s_O_fairest_21, s_O_fairest_24, s_O_fairest_25, s_O_fairest_26, s_O_fairest_27, s_O_fairest_28, s_O_fairest_31, s_O_fairest_34, s_O_fairest_37, s_O_fairest_38, s_O_fairest_41, s_O_fairest_42, s_O_fairest_43, s_O_fairest_44, s_O_fairest_45, s_O_fairest_46, s_O_fairest_47, s_O_fairest_48, s_O_fairest_49, s_O_fairest_50, s_O_fairest_53, s_O_fairest_56, s_O_fairest_59, s_O_fairest_62, s_O_fairest_65, s_O_fairest_68, s_O_fairest_69, s_O_fairest_70, s_O_fairest_71, s_O_fairest_72, s_O_fairest_75, s_O_fairest_78, s_O_fairest_81, s_O_fairest_82, s_O_fairest_84, s_O_fairest_85, s_O_fairest_88, s_O_fairest_91, s_O_fairest_94, s_O_fairest_95, s_O_fairest_96, s_O_fairest_97, s_O_fairest_100, s_O_fairest_103, s_O_fairest_105, s_O_fairest_106, s_O_fairest_107, s_O_fairest_108, s_O_fairest_109, s_O_fairest_110, s_O_fairest_113, s_O_fairest_119, s_O_fairest_122, s_O_fairest_124, Option.bind_some, Option.bind_none, Option.toList_some, Option.toList_none, List.cons_append, List.nil_append, if_true, if_false, rz_clr, true_or, or_true, z00, z11, bZ_eq0, bZ_eq1, nor_self, if_pos, if_neg, zI_add, zI_mul, zI_lt, zI_le, zI_eq, c_O, f_O_0, f_O_1, f_O_2, f_O_3, f_O_4, f_O_5, f_O_6, l_O_6, r_O_6, w_O_6, f_O_7, u_O_7, f_O_8, u_O_8, f_O_9, u_O_9, f_O_10, u_O_10, c_P, f_P_0, l_P_0, r_P_0, w_P_0, f_P_1, l_P_1, r_P_1, w_P_1, f_P_2, l_P_2, r_P_2, w_P_2, f_P_3, l_P_3, r_P_3, w_P_3, f_P_4, l_P_4, r_P_4, w_P_4, f_P_5, l_P_5, r_P_5, w_P_5, f_P_6, l_P_6, r_P_6, w_P_6, f_P_7, l_P_7, r_P_7, w_P_7, f_P_8, u_P_8, f_P_9, u_P_9, f_P_10, u_P_10, e7, hL, c, hf, ih']
theorem z_fairS_I (E : Nat) (hN : 48 ≤ N) (hI : IC σ gp) {L : Nat} (hL : σ gp 10 0 = L) {V : Nat → Nat → Int} (hV : ∀ a b : Nat, a < L → b < L → σ 0 6 (a * 3 + b) = V a b) (hr : ∀ a b, -1 ≤ V a b ∧ V a b ≤ 1) {n0 : Int} : ∀ (n i : Nat) (l3 : Option Value), n + i = L → rz_den (rz_dM (E + 42)) (rz_at tb_X4_fairest) (some .int) 70 [some (.ref (bs 0)), some (.int (zI n0)), some (.int (zI i)), l3] [] (wOf N σ) = some (some (.int (zI (fsI (fairB V L) L n i))), wOf N σ) := by
  have hI' := hI
  obtain ⟨i1, ⟨i2, i2'⟩, i3, i4, i5, i6, i7, i8⟩ := hI'
  have e7 : (σ 0 7 0).toNat = gp := by omega
  have w := i3.1
  intro n
  induction n with
  | zero =>
    intro i l3 hi
    obtain rfl : i = L := by omega
    have c : ¬ (i : Int) < i := by omega
    rw [s_O_fairest_70, fsI]
    simp (disch := first | omega | exact Nat.le_of_ble_eq_true rfl) only [e_O_fairest, s_O_fairest_0, s_O_fairest_1, s_O_fairest_4, s_O_fairest_5, s_O_fairest_6, s_O_fairest_9, s_O_fairest_10, s_O_fairest_11, s_O_fairest_12, s_O_fairest_13, s_O_fairest_14, s_O_fairest_15, s_O_fairest_18, s_O_fairest_21, s_O_fairest_24, s_O_fairest_25, s_O_fairest_26, s_O_fairest_27, s_O_fairest_28, s_O_fairest_31, s_O_fairest_34, s_O_fairest_37, s_O_fairest_38, s_O_fairest_41, s_O_fairest_42, s_O_fairest_43, s_O_fairest_44, s_O_fairest_45, s_O_fairest_46, s_O_fairest_47, s_O_fairest_48, s_O_fairest_49, s_O_fairest_50, s_O_fairest_53, s_O_fairest_56, s_O_fairest_59, s_O_fairest_62, s_O_fairest_65, s_O_fairest_68, s_O_fairest_69, s_O_fairest_71, s_O_fairest_72, s_O_fairest_75, s_O_fairest_78, s_O_fairest_81, s_O_fairest_82, s_O_fairest_84, s_O_fairest_85, s_O_fairest_88, s_O_fairest_91, s_O_fairest_94, s_O_fairest_95, s_O_fairest_96, s_O_fairest_97, s_O_fairest_100, s_O_fairest_103, s_O_fairest_105, s_O_fairest_106, s_O_fairest_107, s_O_fairest_108, s_O_fairest_109, s_O_fairest_110, s_O_fairest_113, s_O_fairest_116, s_O_fairest_119, s_O_fairest_122, s_O_fairest_124, Option.bind_some, Option.bind_none, Option.toList_some, Option.toList_none, List.cons_append, List.nil_append, if_true, if_false, rz_clr, true_or, or_true, z00, z11, bZ_eq0, bZ_eq1, nor_self, if_pos, if_neg, zI_add, zI_sub, zI_mul, zI_neg, zI_lt, zI_le, zI_eq, c_O, f_O_0, f_O_1, f_O_2, f_O_3, f_O_4, f_O_5, f_O_6, l_O_6, r_O_6, w_O_6, f_O_7, u_O_7, f_O_8, u_O_8, f_O_9, u_O_9, f_O_10, u_O_10, c_P, f_P_0, l_P_0, r_P_0, w_P_0, f_P_1, l_P_1, r_P_1, w_P_1, f_P_2, l_P_2, r_P_2, w_P_2, f_P_3, l_P_3, r_P_3, w_P_3, f_P_4, l_P_4, r_P_4, w_P_4, f_P_5, l_P_5, r_P_5, w_P_5, f_P_6, l_P_6, r_P_6, w_P_6, f_P_7, l_P_7, r_P_7, w_P_7, f_P_8, u_P_8, f_P_9, u_P_9, f_P_10, u_P_10, e7, hL, c]
  | succ n ih =>
    intro i l3 hi
    have c : (i : Int) < L := by omega
    have ih' := ih (i + 1) (some (.int (zI L))) (by omega)
    simp only [Int.natCast_add, Int.natCast_one] at ih'
    have hJ := z_fairS_J (N := N) E hN hI hL hV hr (n0 := n0) (i := i) (by omega) L 0 (by omega)
    rw [Int.natCast_zero] at hJ
    rw [s_O_fairest_70, fsI]
    by_cases cf : fsJ (fairB V L) i L 0 = -9
    · rw [if_pos cf] at hJ ⊢
      simp (disch := first | omega | exact Nat.le_of_ble_eq_true rfl) only [e_O_fairest, s_O_fairest_0, s_O_fairest_1, s_O_fairest_4, s_O_fairest_5, s_O_fairest_6, s_O_fairest_9, s_O_fairest_10, s_O_fairest_11, s_O_fairest_12, s_O_fairest_13, s_O_fairest_14, s_O_fairest_15, s_O_fairest_18, s_O_fairest_21, s_O_fairest_24, s_O_fairest_25, s_O_fairest_26, s_O_fairest_27, s_O_fairest_28, s_O_fairest_31, s_O_fairest_34, s_O_fairest_37, s_O_fairest_38, s_O_fairest_41, s_O_fairest_42, s_O_fairest_43, s_O_fairest_44, s_O_fairest_45, s_O_fairest_46, s_O_fairest_47, s_O_fairest_48, s_O_fairest_49, s_O_fairest_50, s_O_fairest_53, s_O_fairest_56, s_O_fairest_59, s_O_fairest_62, s_O_fairest_65, s_O_fairest_68, s_O_fairest_69, s_O_fairest_71, s_O_fairest_72, s_O_fairest_75, s_O_fairest_78, s_O_fairest_81, s_O_fairest_82, s_O_fairest_84, s_O_fairest_85, s_O_fairest_88, s_O_fairest_91, s_O_fairest_94, s_O_fairest_95, s_O_fairest_96, s_O_fairest_97, s_O_fairest_100, s_O_fairest_103, s_O_fairest_105, s_O_fairest_106, s_O_fairest_107, s_O_fairest_108, s_O_fairest_109, s_O_fairest_110, s_O_fairest_113, s_O_fairest_116, s_O_fairest_119, s_O_fairest_122, s_O_fairest_124, Option.bind_some, Option.bind_none, Option.toList_some, Option.toList_none, List.cons_append, List.nil_append, if_true, if_false, rz_clr, true_or, or_true, z00, z11, bZ_eq0, bZ_eq1, nor_self, if_pos, if_neg, zI_add, zI_sub, zI_mul, zI_neg, zI_lt, zI_le, zI_eq, c_O, f_O_0, f_O_1, f_O_2, f_O_3, f_O_4, f_O_5, f_O_6, l_O_6, r_O_6, w_O_6, f_O_7, u_O_7, f_O_8, u_O_8, f_O_9, u_O_9, f_O_10, u_O_10, c_P, f_P_0, l_P_0, r_P_0, w_P_0, f_P_1, l_P_1, r_P_1, w_P_1, f_P_2, l_P_2, r_P_2, w_P_2, f_P_3, l_P_3, r_P_3, w_P_3, f_P_4, l_P_4, r_P_4, w_P_4, f_P_5, l_P_5, r_P_5, w_P_5, f_P_6, l_P_6, r_P_6, w_P_6, f_P_7, l_P_7, r_P_7, w_P_7, f_P_8, u_P_8, f_P_9, u_P_9, f_P_10, u_P_10, e7, hL, c, hJ, ih']
    · rw [if_neg cf] at hJ ⊢
      simp (disch := first | omega | exact Nat.le_of_ble_eq_true rfl) only [e_O_fairest, s_O_fairest_0, s_O_fairest_1, s_O_fairest_4, s_O_fairest_5, s_O_fairest_6, s_O_fairest_9, s_O_fairest_10, s_O_fairest_11, s_O_fairest_12, s_O_fairest_13, s_O_fairest_14, s_O_fairest_15, s_O_fairest_18, s_O_fairest_21, s_O_fairest_24, s_O_fairest_25, s_O_fairest_26, s_O_fairest_27, s_O_fairest_28, s_O_fairest_31, s_O_fairest_34, s_O_fairest_37, s_O_fairest_38, s_O_fairest_41, s_O_fairest_42, s_O_fairest_43, s_O_fairest_44, s_O_fairest_45, s_O_fairest_46, s_O_fairest_47, s_O_fairest_48, s_O_fairest_49, s_O_fairest_50, s_O_fairest_53, s_O_fairest_56, s_O_fairest_59, s_O_fairest_62, s_O_fairest_65, s_O_fairest_68, s_O_fairest_69, s_O_fairest_71, s_O_fairest_72, s_O_fairest_75, s_O_fairest_78, s_O_fairest_81, s_O_fairest_82, s_O_fairest_84, s_O_fairest_85, s_O_fairest_88, s_O_fairest_91, s_O_fairest_94, s_O_fairest_95, s_O_fairest_96, s_O_fairest_97, s_O_fairest_100, s_O_fairest_103, s_O_fairest_105, s_O_fairest_106, s_O_fairest_107, s_O_fairest_108, s_O_fairest_109, s_O_fairest_110, s_O_fairest_113, s_O_fairest_116, s_O_fairest_119, s_O_fairest_122, s_O_fairest_124, Option.bind_some, Option.bind_none, Option.toList_some, Option.toList_none, List.cons_append, List.nil_append, if_true, if_false, rz_clr, true_or, or_true, z00, z11, bZ_eq0, bZ_eq1, nor_self, if_pos, if_neg, zI_add, zI_sub, zI_mul, zI_neg, zI_lt, zI_le, zI_eq, c_O, f_O_0, f_O_1, f_O_2, f_O_3, f_O_4, f_O_5, f_O_6, l_O_6, r_O_6, w_O_6, f_O_7, u_O_7, f_O_8, u_O_8, f_O_9, u_O_9, f_O_10, u_O_10, c_P, f_P_0, l_P_0, r_P_0, w_P_0, f_P_1, l_P_1, r_P_1, w_P_1, f_P_2, l_P_2, r_P_2, w_P_2, f_P_3, l_P_3, r_P_3, w_P_3, f_P_4, l_P_4, r_P_4, w_P_4, f_P_5, l_P_5, r_P_5, w_P_5, f_P_6, l_P_6, r_P_6, w_P_6, f_P_7, l_P_7, r_P_7, w_P_7, f_P_8, u_P_8, f_P_9, u_P_9, f_P_10, u_P_10, e7, hL, c, hJ]
def fairA (q p : zP) (n : Int) : Int := if 0 ≤ n ∧ n ≤ 3 then fsI (fairB (vLw p q n) (p 10 0).toNat) (p 10 0).toNat (p 10 0).toNat 0 else -1
theorem vLw_rg {p q : zP} (n : Int) (i j : Nat) : -1 ≤ vLw p q n i j ∧ vLw p q n i j ≤ 1 := valQ_rg _ _ _ _ _ _
theorem z_fairest (hN : 48 ≤ N) (hI : IC σ gp) (h4 : σ 6 4 0 ≤ 89000) {n : Int} (hn : rg n) (E : Nat) : ∃ r f, rz_dM (E + 43) iO_fairest [.ref (bs 0), .int (zI n)] (wOf N σ) = some (some (.int (zI (fairA (σ 2) (σ gp) n))), wOf N (fW σ r f)) ∧ MR r ∧ r 4 0 ≤ σ 6 4 0 + 20 := by
  have hMR := hI.2.2.2.2.2.2.1
  have w := hI.2.2.1.1
  unfold fairA
  by_cases a : 0 ≤ n ∧ n ≤ 3
  · rw [if_pos a]
    obtain ⟨L, hL⟩ : ∃ L : Nat, σ gp 10 0 = L := ⟨(σ gp 10 0).toNat, by omega⟩
    rw [hL, Int.toNat_natCast]
    obtain ⟨r', l3', b1, b2, b3⟩ := z_fairI_lp (N := N) hN hI hL a E L 0 (σ 6) (σ 0 6) none (by omega) hMR (by omega)
    rw [fW_self, Int.natCast_zero] at b1
    refine ⟨r', frI (vLw (σ gp) (σ 2) n) L L 0 (σ 0 6), ?_, b2, by omega⟩
    have eg : fW σ r' (frI (vLw (σ gp) (σ 2) n) L L 0 (σ 0 6)) gp = σ gp := fW_ne (by have := hI.1; omega) (by have := hI.1; omega)
    have hS := fun l3 => z_fairS_I (N := N) (σ := fW σ r' (frI (vLw (σ gp) (σ 2) n) L L 0 (σ 0 6))) (gp := gp) E hN (IC_fW hI b2 (by omega)) (L := L) (by rw [eg]; exact hL) (V := vLw (σ gp) (σ 2) n) (fun x y hx hy => by rw [fW_06]; exact frI_at (by omega) L 0 _ (by omega) x y hx hy (Or.inl (by omega))) (vLw_rg n) (n0 := n) L 0 l3 (by omega)
    rw [Int.natCast_zero] at hS
    simp (disch := first | omega | exact Nat.le_of_ble_eq_true rfl) only [e_O_fairest, s_O_fairest_0, s_O_fairest_1, s_O_fairest_4, s_O_fairest_5, s_O_fairest_6, s_O_fairest_9, s_O_fairest_10, s_O_fairest_11, s_O_fairest_12, s_O_fairest_14, s_O_fairest_15, s_O_fairest_18, s_O_fairest_21, s_O_fairest_24, s_O_fairest_25, s_O_fairest_26, s_O_fairest_27, s_O_fairest_28, s_O_fairest_31, s_O_fairest_34, s_O_fairest_37, s_O_fairest_38, s_O_fairest_41, s_O_fairest_42, s_O_fairest_43, s_O_fairest_44, s_O_fairest_45, s_O_fairest_46, s_O_fairest_47, s_O_fairest_48, s_O_fairest_49, s_O_fairest_50, s_O_fairest_53, s_O_fairest_56, s_O_fairest_59, s_O_fairest_62, s_O_fairest_65, s_O_fairest_68, s_O_fairest_69, s_O_fairest_71, s_O_fairest_72, s_O_fairest_75, s_O_fairest_78, s_O_fairest_81, s_O_fairest_82, s_O_fairest_83, s_O_fairest_84, s_O_fairest_85, s_O_fairest_88, s_O_fairest_91, s_O_fairest_94, s_O_fairest_95, s_O_fairest_96, s_O_fairest_97, s_O_fairest_100, s_O_fairest_103, s_O_fairest_105, s_O_fairest_106, s_O_fairest_107, s_O_fairest_108, s_O_fairest_109, s_O_fairest_110, s_O_fairest_113, s_O_fairest_116, s_O_fairest_119, s_O_fairest_122, s_O_fairest_124, Option.bind_some, Option.bind_none, Option.toList_some, Option.toList_none, List.cons_append, List.nil_append, if_true, if_false, rz_clr, true_or, or_true, z00, z11, bZ_eq0, bZ_eq1, nor_self, if_pos, if_neg, zI_add, zI_sub, zI_mul, zI_neg, zI_lt, zI_le, zI_eq, a.1, a.2, b1, hS]
  · rw [if_neg a]
    refine ⟨σ 6, σ 0 6, ?_, hMR, by omega⟩
    rw [fW_self]
    by_cases a4 : 0 ≤ n
    · have a5 : ¬ n ≤ 3 := by omega
      simp (disch := first | omega | exact Nat.le_of_ble_eq_true rfl) only [e_O_fairest, s_O_fairest_0, s_O_fairest_1, s_O_fairest_4, s_O_fairest_5, s_O_fairest_6, s_O_fairest_9, s_O_fairest_10, s_O_fairest_11, s_O_fairest_12, s_O_fairest_14, s_O_fairest_15, s_O_fairest_18, s_O_fairest_21, s_O_fairest_24, s_O_fairest_25, s_O_fairest_26, s_O_fairest_27, s_O_fairest_28, s_O_fairest_31, s_O_fairest_34, s_O_fairest_37, s_O_fairest_38, s_O_fairest_41, s_O_fairest_42, s_O_fairest_43, s_O_fairest_44, s_O_fairest_45, s_O_fairest_46, s_O_fairest_47, s_O_fairest_48, s_O_fairest_49, s_O_fairest_50, s_O_fairest_53, s_O_fairest_56, s_O_fairest_59, s_O_fairest_62, s_O_fairest_65, s_O_fairest_68, s_O_fairest_69, s_O_fairest_71, s_O_fairest_72, s_O_fairest_75, s_O_fairest_78, s_O_fairest_81, s_O_fairest_82, s_O_fairest_83, s_O_fairest_84, s_O_fairest_85, s_O_fairest_88, s_O_fairest_91, s_O_fairest_94, s_O_fairest_95, s_O_fairest_96, s_O_fairest_97, s_O_fairest_100, s_O_fairest_103, s_O_fairest_105, s_O_fairest_106, s_O_fairest_107, s_O_fairest_108, s_O_fairest_109, s_O_fairest_110, s_O_fairest_113, s_O_fairest_116, s_O_fairest_119, s_O_fairest_122, s_O_fairest_124, Option.bind_some, Option.bind_none, Option.toList_some, Option.toList_none, List.cons_append, List.nil_append, if_true, if_false, rz_clr, true_or, or_true, z00, z11, bZ_eq0, bZ_eq1, nor_self, if_pos, if_neg, zI_add, zI_sub, zI_mul, zI_neg, zI_lt, zI_le, zI_eq, a4, a5]
    · simp (disch := first | omega | exact Nat.le_of_ble_eq_true rfl) only [e_O_fairest, s_O_fairest_0, s_O_fairest_1, s_O_fairest_4, s_O_fairest_5, s_O_fairest_6, s_O_fairest_9, s_O_fairest_10, s_O_fairest_11, s_O_fairest_12, s_O_fairest_14, s_O_fairest_15, s_O_fairest_18, s_O_fairest_21, s_O_fairest_24, s_O_fairest_25, s_O_fairest_26, s_O_fairest_27, s_O_fairest_28, s_O_fairest_31, s_O_fairest_34, s_O_fairest_37, s_O_fairest_38, s_O_fairest_41, s_O_fairest_42, s_O_fairest_43, s_O_fairest_44, s_O_fairest_45, s_O_fairest_46, s_O_fairest_47, s_O_fairest_48, s_O_fairest_49, s_O_fairest_50, s_O_fairest_53, s_O_fairest_56, s_O_fairest_59, s_O_fairest_62, s_O_fairest_65, s_O_fairest_68, s_O_fairest_69, s_O_fairest_71, s_O_fairest_72, s_O_fairest_75, s_O_fairest_78, s_O_fairest_81, s_O_fairest_82, s_O_fairest_83, s_O_fairest_84, s_O_fairest_85, s_O_fairest_88, s_O_fairest_91, s_O_fairest_94, s_O_fairest_95, s_O_fairest_96, s_O_fairest_97, s_O_fairest_100, s_O_fairest_103, s_O_fairest_105, s_O_fairest_106, s_O_fairest_107, s_O_fairest_108, s_O_fairest_109, s_O_fairest_110, s_O_fairest_113, s_O_fairest_116, s_O_fairest_119, s_O_fairest_122, s_O_fairest_124, Option.bind_some, Option.bind_none, Option.toList_some, Option.toList_none, List.cons_append, List.nil_append, if_true, if_false, rz_clr, true_or, or_true, z00, z11, bZ_eq0, bZ_eq1, nor_self, if_pos, if_neg, zI_add, zI_sub, zI_mul, zI_neg, zI_lt, zI_le, zI_eq, a4]
end FA
