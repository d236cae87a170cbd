-- the model: items, the board
section NH1
variable {N : Nat} {σ : zS} {s p : zP} {len : Nat}
theorem apP_tk : apP (tkW s len) p = apP s p := by
  have e1 : tkW s len 1 = s 1 := tkW_ne (by decide)
  have e7 : tkW s len 7 = s 7 := tkW_ne (by decide)
  have e9 : tkW s len 9 = s 9 := tkW_ne (by decide)
  unfold apP lwP
  rw [e7, e1, e9, wyN_cg (s := tkW s len) (s' := s) _ _ _ (fun j _ _ => by rw [e1])]
/-- a word is taken: an item begins -/
theorem ok_word (hi : s 7 0 = -9) {m : zP} (hL : LA m s len) (hR : RI len s p) : okT len s p ↔ (m 5 0 = 1 ∧ (m 7 0 ≠ 0 ∨ s 8 0 ≤ 0) ∧ (m 7 0 ≠ 4 ∨ p 10 0 < 3)) := by
  have e7 : tkW s len 7 = s 7 := tkW_ne (by decide)
  have e8 : tkW s len 8 = s 8 := tkW_ne (by decide)
  obtain ⟨-, -, hL⟩ := hL
  unfold okT isT
  rw [e7, if_pos hi]
  unfold bgN
  rw [e8]
  constructor
  · rintro ⟨a, b⟩
    by_cases c : tkW s len 5 0 = 0 ∧ ¬ ((tkW s len 6 0 = 0 ∧ 0 < s 8 0) ∨ (tkW s len 6 0 = 4 ∧ 3 ≤ p 10 0))
    · rw [if_pos c] at b
      have b' : tkW s len 6 0 ≠ -9 := of_decide_eq_true b
      omega
    · rw [if_neg c] at b
      exact absurd b Bool.false_ne_true
  · rintro ⟨a, b, c⟩
    have hq : tkP s len < len := by omega
    refine ⟨hq, ?_⟩
    have c' : tkW s len 5 0 = 0 ∧ ¬ ((tkW s len 6 0 = 0 ∧ 0 < s 8 0) ∨ (tkW s len 6 0 = 4 ∧ 3 ≤ p 10 0)) := by omega
    rw [if_pos c']
    have : tkW s len 6 0 ≠ -9 := by omega
    exact decide_eq_true this
theorem isT_word (hi : s 7 0 = -9) (h : okT len s p) : isT (tkW s len) p = (true, bgW (tkW s len), p) ∧ tkW s len 5 0 = 0 := by
  have e7 : tkW s len 7 = s 7 := tkW_ne (by decide)
  obtain ⟨-, h⟩ := h
  unfold isT at h ⊢
  rw [e7, if_pos hi] at h ⊢
  by_cases c : tkW s len 5 0 = 0 ∧ ¬ bgN (tkW s len) p
  · rw [if_pos c] at h ⊢
    have h' : decide (tkW s len 6 0 ≠ -9) = true := h
    rw [h']
    exact ⟨rfl, c.1⟩
  · rw [if_neg c] at h
    exact absurd h Bool.false_ne_true
theorem z_Mb27 (d : Nat) (hN : 60 ≤ N) {m : zP} (h8 : 0 ≤ m 8 0 ∧ m 8 0 ≤ 300) (x1 : Int32) (l2 : Option Value) : rz_den (rz_dM (d + 8)) (rz_at tb_X5_board) (some .int) 27 [some (.ref (bs 10)), some (.int x1), l2] [] (wOf N (gset σ 10 m)) = rz_den (rz_dM (d + 8)) (rz_at tb_X5_board) (some .int) 125 [some (.ref (bs 10)), some (.int x1), l2] [] (wOf N (gset σ 10 m)) := by
  have hw := z_Mwell (N := N) (σ := σ) (m := m) (d + 7) hN (by omega)
  rw [bZ_neg (by omega)] at hw
  rw [s_M_board_27]
  simp (disch := first | omega | exact Nat.le_of_ble_eq_true rfl) only [e_M_board, s_M_board_0, s_M_board_1, s_M_board_2, s_M_board_5, s_M_board_6, s_M_board_7, s_M_board_10, s_M_board_11, s_M_board_12, s_M_board_15, s_M_board_16, s_M_board_17, s_M_board_18, s_M_board_19, s_M_board_20, s_M_board_23, s_M_board_24, s_M_board_28, s_M_board_31, s_M_board_34, s_M_board_35, s_M_board_38, s_M_board_41, s_M_board_42, s_M_board_43, s_M_board_46, s_M_board_47, s_M_board_50, s_M_board_51, s_M_board_54, s_M_board_57, s_M_board_58, s_M_board_61, s_M_board_62, s_M_board_65, s_M_board_66, s_M_board_69, s_M_board_70, s_M_board_73, s_M_board_75, s_M_board_76, s_M_board_77, s_M_board_80, s_M_board_81, s_M_board_84, s_M_board_85, s_M_board_88, s_M_board_89, s_M_board_90, s_M_board_93, s_M_board_96, s_M_board_97, s_M_board_98, s_M_board_101, s_M_board_102, s_M_board_103, s_M_board_106, s_M_board_107, s_M_board_110, s_M_board_111, s_M_board_114, s_M_board_115, s_M_board_118, s_M_board_119, s_M_board_122, s_M_board_126, s_M_board_129, s_M_board_132, s_M_board_134, s_M_board_135, s_M_board_138, s_M_board_139, s_M_board_140, s_M_board_141, s_M_board_144, s_M_board_145, s_M_board_146, s_M_board_149, s_M_board_150, Option.bind_some, Option.bind_none, Option.toList_some, Option.toList_none, List.cons_append, List.nil_append, if_true, if_false, rz_clr, true_or, or_true, z00, z11, bZ_eq0, bZ_eq1, nor_self, if_pos, if_neg, c_M, f_M_0, u_M_0, f_M_1, u_M_1, f_M_2, l_M_2, r_M_2, w_M_2, f_M_3, u_M_3, f_M_4, u_M_4, f_M_5, u_M_5, f_M_6, u_M_6, f_M_7, u_M_7, f_M_8, u_M_8, f_M_9, l_M_9, r_M_9, w_M_9, f_M_10, l_M_10, r_M_10, w_M_10, f_M_11, l_M_11, r_M_11, w_M_11, f_M_12, l_M_12, r_M_12, w_M_12, f_M_13, l_M_13, r_M_13, w_M_13, f_M_14, l_M_14, r_M_14, w_M_14, f_M_15, l_M_15, r_M_15, w_M_15, f_M_16, l_M_16, r_M_16, w_M_16, f_M_17, l_M_17, r_M_17, w_M_17, f_M_18, l_M_18, r_M_18, w_M_18, hw]
theorem z_MbF (d : Nat) (hN : 60 ≤ N) {m : zP} (h8 : 0 ≤ m 8 0 ∧ m 8 0 ≤ 300) {i : Int} (l2 : Option Value) : rz_den (rz_dM (d + 8)) (rz_at tb_X5_board) (some .int) 101 [some (.ref (bs 10)), some (.int (zI i)), l2] [] (wOf N (gset σ 10 m)) = rz_den (rz_dM (d + 8)) (rz_at tb_X5_board) (some .int) 125 [some (.ref (bs 10)), some (.int (zI (i + 1))), l2] [] (wOf N (gset σ 10 m)) := by
  have ht1 := z_Mtakes_f (N := N) (σ := σ) (m := m) (d + 6) hN (by omega) true
  have ht0 := z_Mtakes_f (N := N) (σ := σ) (m := m) (d + 6) hN (by omega) false
  rw [show bN true = 1 from rfl] at ht1
  rw [show bN false = 0 from rfl] at ht0
  have h27 := fun x1 => z_Mb27 (N := N) (σ := σ) (m := m) d hN h8 x1 l2
  by_cases c : zI (m 5 0) = zI 3
  · simp (disch := first | omega | exact Nat.le_of_ble_eq_true rfl) only [e_M_board, s_M_board_0, s_M_board_1, s_M_board_2, s_M_board_5, s_M_board_6, s_M_board_7, s_M_board_10, s_M_board_11, s_M_board_12, s_M_board_15, s_M_board_16, s_M_board_17, s_M_board_18, s_M_board_19, s_M_board_20, s_M_board_23, s_M_board_24, s_M_board_28, s_M_board_31, s_M_board_34, s_M_board_35, s_M_board_38, s_M_board_41, s_M_board_42, s_M_board_43, s_M_board_46, s_M_board_47, s_M_board_50, s_M_board_51, s_M_board_54, s_M_board_57, s_M_board_58, s_M_board_61, s_M_board_62, s_M_board_65, s_M_board_66, s_M_board_69, s_M_board_70, s_M_board_73, s_M_board_75, s_M_board_76, s_M_board_77, s_M_board_80, s_M_board_81, s_M_board_84, s_M_board_85, s_M_board_88, s_M_board_89, s_M_board_90, s_M_board_93, s_M_board_96, s_M_board_97, s_M_board_98, s_M_board_101, s_M_board_102, s_M_board_103, s_M_board_106, s_M_board_107, s_M_board_110, s_M_board_111, s_M_board_114, s_M_board_115, s_M_board_118, s_M_board_119, s_M_board_122, s_M_board_126, s_M_board_129, s_M_board_132, s_M_board_134, s_M_board_135, s_M_board_138, s_M_board_139, s_M_board_140, s_M_board_141, s_M_board_144, s_M_board_145, s_M_board_146, s_M_board_149, s_M_board_150, Option.bind_some, Option.bind_none, Option.toList_some, Option.toList_none, List.cons_append, List.nil_append, if_true, if_false, rz_clr, true_or, or_true, z00, z11, bZ_eq0, bZ_eq1, nor_self, if_pos, if_neg, zI_add, c_M, f_M_0, u_M_0, f_M_1, u_M_1, f_M_2, l_M_2, r_M_2, w_M_2, f_M_3, u_M_3, f_M_4, u_M_4, f_M_5, u_M_5, f_M_6, u_M_6, f_M_7, u_M_7, f_M_8, u_M_8, f_M_9, l_M_9, r_M_9, w_M_9, f_M_10, l_M_10, r_M_10, w_M_10, f_M_11, l_M_11, r_M_11, w_M_11, f_M_12, l_M_12, r_M_12, w_M_12, f_M_13, l_M_13, r_M_13, w_M_13, f_M_14, l_M_14, r_M_14, w_M_14, f_M_15, l_M_15, r_M_15, w_M_15, f_M_16, l_M_16, r_M_16, w_M_16, f_M_17, l_M_17, r_M_17, w_M_17, f_M_18, l_M_18, r_M_18, w_M_18, gset_at, c, ht1, h27]
  · simp (disch := first | omega | exact Nat.le_of_ble_eq_true rfl) only [e_M_board, s_M_board_0, s_M_board_1, s_M_board_2, s_M_board_5, s_M_board_6, s_M_board_7, s_M_board_10, s_M_board_11, s_M_board_12, s_M_board_15, s_M_board_16, s_M_board_17, s_M_board_18, s_M_board_19, s_M_board_20, s_M_board_23, s_M_board_24, s_M_board_28, s_M_board_31, s_M_board_34, s_M_board_35, s_M_board_38, s_M_board_41, s_M_board_42, s_M_board_43, s_M_board_46, s_M_board_47, s_M_board_50, s_M_board_51, s_M_board_54, s_M_board_57, s_M_board_58, s_M_board_61, s_M_board_62, s_M_board_65, s_M_board_66, s_M_board_69, s_M_board_70, s_M_board_73, s_M_board_75, s_M_board_76, s_M_board_77, s_M_board_80, s_M_board_81, s_M_board_84, s_M_board_85, s_M_board_88, s_M_board_89, s_M_board_90, s_M_board_93, s_M_board_96, s_M_board_97, s_M_board_98, s_M_board_101, s_M_board_102, s_M_board_103, s_M_board_106, s_M_board_107, s_M_board_110, s_M_board_111, s_M_board_114, s_M_board_115, s_M_board_118, s_M_board_119, s_M_board_122, s_M_board_126, s_M_board_129, s_M_board_132, s_M_board_134, s_M_board_135, s_M_board_138, s_M_board_139, s_M_board_140, s_M_board_141, s_M_board_144, s_M_board_145, s_M_board_146, s_M_board_149, s_M_board_150, Option.bind_some, Option.bind_none, Option.toList_some, Option.toList_none, List.cons_append, List.nil_append, if_true, if_false, rz_clr, true_or, or_true, z00, z11, bZ_eq0, bZ_eq1, nor_self, if_pos, if_neg, zI_add, c_M, f_M_0, u_M_0, f_M_1, u_M_1, f_M_2, l_M_2, r_M_2, w_M_2, f_M_3, u_M_3, f_M_4, u_M_4, f_M_5, u_M_5, f_M_6, u_M_6, f_M_7, u_M_7, f_M_8, u_M_8, f_M_9, l_M_9, r_M_9, w_M_9, f_M_10, l_M_10, r_M_10, w_M_10, f_M_11, l_M_11, r_M_11, w_M_11, f_M_12, l_M_12, r_M_12, w_M_12, f_M_13, l_M_13, r_M_13, w_M_13, f_M_14, l_M_14, r_M_14, w_M_14, f_M_15, l_M_15, r_M_15, w_M_15, f_M_16, l_M_16, r_M_16, w_M_16, f_M_17, l_M_17, r_M_17, w_M_17, f_M_18, l_M_18, r_M_18, w_M_18, gset_at, c, ht0, h27]
/-- how the items end -/
def BE (len n : Nat) (s p m m' : zP) (i : Int) : Prop := MF m m' ∧ ((m' 8 0 = -1 ∧ fnR len (rdL len n s p) = -9 ∧ i = (rdL len n s p).2.1 8 0 ∧ tlR (m' 9) 33 (rdL len n s p).2.2 ∧ (rdL len n s p).1 = -9 ∧ (rdL len n s p).2.1 7 0 = -9) ∨ ((0 ≤ m' 8 0 ∧ m' 8 0 ≤ 300) ∧ m' 8 0 = fnR len (rdL len n s p)))
theorem BE_eq {n n' : Nat} {s s' p p' m m' m'' : zP} {i : Int} (h : BE len n' s' p' m' m'' i) (e : rdL len n s p = rdL len n' s' p') (hF : MF m m') : BE len n s p m m'' i := by
  unfold BE at h ⊢
  rw [e]
  exact ⟨MF_tr hF h.1, h.2⟩
theorem z_Mb_lp (d : Nat) (hN : 60 ≤ N) : ∀ (j n : Nat) (s p m : zP) (l2 : Option Value), (len : Int) ≤ j + s 3 0 → PH len n s p m → tlR (m 9) 33 p → s 7 0 = -9 → (0 ≤ s 8 0 ∧ s 8 0 + j ≤ 1000) → ∃ m' l2' i, rz_den (rz_dM (d + 8)) (rz_at tb_X5_board) (some .int) 27 [some (.ref (bs 10)), some (.int (zI (s 8 0))), l2] [] (wOf N (gset σ 10 m)) = rz_den (rz_dM (d + 8)) (rz_at tb_X5_board) (some .int) 125 [some (.ref (bs 10)), some (.int (zI i)), l2'] [] (wOf N (gset σ 10 m')) ∧ BE len n s p m m' i := by
  intro j
  induction j with
  | zero =>
    intro n s p m l2 hj hP hD h7 h8
    have hp := tkP_le hP.1.2.2.1
    have c : ¬ tkP s len < len := by omega
    obtain ⟨r1, r2, r3, r4, r5⟩ := rd_end (n := n) (p := p) h7 c
    have h5 : m 5 0 = 0 := by
      obtain ⟨-, -, hL⟩ := hP.2.2.2.1
      omega
    have hw := z_Mwell (N := N) (σ := σ) (m := m) (d + 7) hN (by rw [hP.2.2.2.2]; omega)
    rw [bZ_pos (by rw [hP.2.2.2.2]; decide)] at hw
    refine ⟨m, l2, s 8 0, ?_, ⟨⟨sm_rfl _ _, fun _ _ => rfl⟩, Or.inl ⟨hP.2.2.2.2, r1, r3.symm, by rw [r2]; exact hD, r4, r5⟩⟩⟩
    rw [s_M_board_27]
    simp (disch := first | omega | exact Nat.le_of_ble_eq_true rfl) only [e_M_board, s_M_board_0, s_M_board_1, s_M_board_2, s_M_board_5, s_M_board_6, s_M_board_7, s_M_board_10, s_M_board_11, s_M_board_12, s_M_board_15, s_M_board_16, s_M_board_17, s_M_board_18, s_M_board_19, s_M_board_20, s_M_board_23, s_M_board_24, s_M_board_28, s_M_board_31, s_M_board_34, s_M_board_35, s_M_board_38, s_M_board_41, s_M_board_42, s_M_board_43, s_M_board_46, s_M_board_47, s_M_board_50, s_M_board_51, s_M_board_54, s_M_board_57, s_M_board_58, s_M_board_61, s_M_board_62, s_M_board_65, s_M_board_66, s_M_board_69, s_M_board_70, s_M_board_73, s_M_board_75, s_M_board_76, s_M_board_77, s_M_board_80, s_M_board_81, s_M_board_84, s_M_board_85, s_M_board_88, s_M_board_89, s_M_board_90, s_M_board_93, s_M_board_96, s_M_board_97, s_M_board_98, s_M_board_101, s_M_board_102, s_M_board_103, s_M_board_106, s_M_board_107, s_M_board_110, s_M_board_111, s_M_board_114, s_M_board_115, s_M_board_118, s_M_board_119, s_M_board_122, s_M_board_126, s_M_board_129, s_M_board_132, s_M_board_134, s_M_board_135, s_M_board_138, s_M_board_139, s_M_board_140, s_M_board_141, s_M_board_144, s_M_board_145, s_M_board_146, s_M_board_149, s_M_board_150, Option.bind_some, Option.bind_none, Option.toList_some, Option.toList_none, List.cons_append, List.nil_append, if_true, if_false, rz_clr, true_or, or_true, z00, z11, bZ_eq0, bZ_eq1, nor_self, if_pos, if_neg, zI_add, zI_sub, zI_mul, zI_neg, zI_lt, zI_le, zI_eq, c_M, f_M_0, u_M_0, f_M_1, u_M_1, f_M_2, l_M_2, r_M_2, w_M_2, f_M_3, u_M_3, f_M_4, u_M_4, f_M_5, u_M_5, f_M_6, u_M_6, f_M_7, u_M_7, f_M_8, u_M_8, f_M_9, l_M_9, r_M_9, w_M_9, f_M_10, l_M_10, r_M_10, w_M_10, f_M_11, l_M_11, r_M_11, w_M_11, f_M_12, l_M_12, r_M_12, w_M_12, f_M_13, l_M_13, r_M_13, w_M_13, f_M_14, l_M_14, r_M_14, w_M_14, f_M_15, l_M_15, r_M_15, w_M_15, f_M_16, l_M_16, r_M_16, w_M_16, f_M_17, l_M_17, r_M_17, w_M_17, f_M_18, l_M_18, r_M_18, w_M_18, gset_at, hw, h5]
  | succ j ih =>
    intro n s p m l2 hj hP hD h7 h8
    have hp := tkP_le hP.1.2.2.1
    have hwp := hP.1.2.2.2.1
    have w := hwp.1
    have h300 := hP.1.1.1.1
    have hl2 := hP.1.2.1
    have hL57 : L57 m := LA_57 hP.2.2.2.1
    have hw := z_Mwell (N := N) (σ := σ) (m := m) (d + 7) hN (by rw [hP.2.2.2.2]; omega)
    rw [bZ_pos (by rw [hP.2.2.2.2]; decide)] at hw
    by_cases c : tkP s len < len
    · have hok := ok_word h7 hP.2.2.2.1 hP.1
      have h50 : ¬ m 5 0 = 0 := by
        obtain ⟨-, -, hL⟩ := hP.2.2.2.1
        omega
      have d35 := td_L hD
      have h51 := hL57.1
      have key : ∀ b : Bool, (b = true ↔ okT len s p) → rz_den (rz_dM (d + 8)) (rz_at tb_X5_board) (some .int) 27 [some (.ref (bs 10)), some (.int (zI (s 8 0))), l2] [] (wOf N (gset σ 10 m)) = rz_den (rz_dM (d + 8)) (rz_at tb_X5_board) (some .int) 85 [some (.ref (bs 10)), some (.int (zI (s 8 0))), l2] [.int (zI (bN b)), .ref (bs 10)] (wOf N (gset σ 10 m)) := by
        intro b hb
        rw [s_M_board_27]
        by_cases c1 : m 5 0 = 1
        · have h7r : m 7 0 = -9 ∨ (0 ≤ m 7 0 ∧ m 7 0 ≤ 8) := by
            obtain ⟨f1, f2, f3⟩ := tk_facts hP.1.2.2.1 c
            obtain ⟨-, -, hL⟩ := hP.2.2.2.1
            have := f2.2.1
            omega
          by_cases cz : m 7 0 = 0
          · by_cases ci : s 8 0 ≤ 0
            · have eb : b = true := hb.mpr (hok.mpr ⟨c1, Or.inr ci, Or.inl (by omega)⟩)
              subst eb
              rw [show bN true = 1 from rfl]
              simp (disch := first | omega | exact Nat.le_of_ble_eq_true rfl) only [e_M_board, s_M_board_0, s_M_board_1, s_M_board_2, s_M_board_5, s_M_board_6, s_M_board_7, s_M_board_10, s_M_board_11, s_M_board_12, s_M_board_15, s_M_board_16, s_M_board_17, s_M_board_18, s_M_board_19, s_M_board_20, s_M_board_23, s_M_board_24, s_M_board_28, s_M_board_31, s_M_board_34, s_M_board_35, s_M_board_38, s_M_board_41, s_M_board_42, s_M_board_43, s_M_board_46, s_M_board_47, s_M_board_50, s_M_board_51, s_M_board_54, s_M_board_57, s_M_board_58, s_M_board_61, s_M_board_62, s_M_board_65, s_M_board_66, s_M_board_69, s_M_board_70, s_M_board_73, s_M_board_75, s_M_board_76, s_M_board_77, s_M_board_80, s_M_board_81, s_M_board_84, s_M_board_88, s_M_board_89, s_M_board_90, s_M_board_93, s_M_board_96, s_M_board_97, s_M_board_98, s_M_board_101, s_M_board_102, s_M_board_103, s_M_board_106, s_M_board_107, s_M_board_110, s_M_board_111, s_M_board_114, s_M_board_115, s_M_board_118, s_M_board_119, s_M_board_122, s_M_board_125, s_M_board_126, s_M_board_129, s_M_board_132, s_M_board_134, s_M_board_135, s_M_board_138, s_M_board_139, s_M_board_140, s_M_board_141, s_M_board_144, s_M_board_145, s_M_board_146, s_M_board_149, s_M_board_150, Option.bind_some, Option.bind_none, Option.toList_some, Option.toList_none, List.cons_append, List.nil_append, if_true, if_false, rz_clr, true_or, or_true, z00, z11, bZ_eq0, bZ_eq1, nor_self, if_pos, if_neg, zI_add, zI_sub, zI_mul, zI_neg, zI_lt, zI_le, zI_eq, c_M, f_M_0, u_M_0, f_M_1, u_M_1, f_M_2, l_M_2, r_M_2, w_M_2, f_M_3, u_M_3, f_M_4, u_M_4, f_M_5, u_M_5, f_M_6, u_M_6, f_M_7, u_M_7, f_M_8, u_M_8, f_M_9, l_M_9, r_M_9, w_M_9, f_M_10, l_M_10, r_M_10, w_M_10, f_M_11, l_M_11, r_M_11, w_M_11, f_M_12, l_M_12, r_M_12, w_M_12, f_M_13, l_M_13, r_M_13, w_M_13, f_M_14, l_M_14, r_M_14, w_M_14, f_M_15, l_M_15, r_M_15, w_M_15, f_M_16, l_M_16, r_M_16, w_M_16, f_M_17, l_M_17, r_M_17, w_M_17, f_M_18, l_M_18, r_M_18, w_M_18, gset_at, hw, c1, cz, d35]
            · have eb : b = false := by
                rw [← Bool.not_eq_true]
                intro z
                have := hok.mp (hb.mp z)
                omega
              subst eb
              rw [show bN false = 0 from rfl]
              simp (disch := first | omega | exact Nat.le_of_ble_eq_true rfl) only [e_M_board, s_M_board_0, s_M_board_1, s_M_board_2, s_M_board_5, s_M_board_6, s_M_board_7, s_M_board_10, s_M_board_11, s_M_board_12, s_M_board_15, s_M_board_16, s_M_board_17, s_M_board_18, s_M_board_19, s_M_board_20, s_M_board_23, s_M_board_24, s_M_board_28, s_M_board_31, s_M_board_34, s_M_board_35, s_M_board_38, s_M_board_41, s_M_board_42, s_M_board_43, s_M_board_46, s_M_board_47, s_M_board_50, s_M_board_51, s_M_board_54, s_M_board_57, s_M_board_58, s_M_board_61, s_M_board_62, s_M_board_65, s_M_board_66, s_M_board_69, s_M_board_70, s_M_board_73, s_M_board_75, s_M_board_76, s_M_board_77, s_M_board_80, s_M_board_81, s_M_board_84, s_M_board_88, s_M_board_89, s_M_board_90, s_M_board_93, s_M_board_96, s_M_board_97, s_M_board_98, s_M_board_101, s_M_board_102, s_M_board_103, s_M_board_106, s_M_board_107, s_M_board_110, s_M_board_111, s_M_board_114, s_M_board_115, s_M_board_118, s_M_board_119, s_M_board_122, s_M_board_125, s_M_board_126, s_M_board_129, s_M_board_132, s_M_board_134, s_M_board_135, s_M_board_138, s_M_board_139, s_M_board_140, s_M_board_141, s_M_board_144, s_M_board_145, s_M_board_146, s_M_board_149, s_M_board_150, Option.bind_some, Option.bind_none, Option.toList_some, Option.toList_none, List.cons_append, List.nil_append, if_true, if_false, rz_clr, true_or, or_true, z00, z11, bZ_eq0, bZ_eq1, nor_self, if_pos, if_neg, zI_add, zI_sub, zI_mul, zI_neg, zI_lt, zI_le, zI_eq, c_M, f_M_0, u_M_0, f_M_1, u_M_1, f_M_2, l_M_2, r_M_2, w_M_2, f_M_3, u_M_3, f_M_4, u_M_4, f_M_5, u_M_5, f_M_6, u_M_6, f_M_7, u_M_7, f_M_8, u_M_8, f_M_9, l_M_9, r_M_9, w_M_9, f_M_10, l_M_10, r_M_10, w_M_10, f_M_11, l_M_11, r_M_11, w_M_11, f_M_12, l_M_12, r_M_12, w_M_12, f_M_13, l_M_13, r_M_13, w_M_13, f_M_14, l_M_14, r_M_14, w_M_14, f_M_15, l_M_15, r_M_15, w_M_15, f_M_16, l_M_16, r_M_16, w_M_16, f_M_17, l_M_17, r_M_17, w_M_17, f_M_18, l_M_18, r_M_18, w_M_18, gset_at, hw, c1, cz, d35]
          · by_cases c4 : m 7 0 = 4
            · by_cases cl : p 10 0 < 3
              · have eb : b = true := hb.mpr (hok.mpr ⟨c1, Or.inl cz, Or.inr cl⟩)
                subst eb
                rw [show bN true = 1 from rfl]
                simp (disch := first | omega | exact Nat.le_of_ble_eq_true rfl) only [e_M_board, s_M_board_0, s_M_board_1, s_M_board_2, s_M_board_5, s_M_board_6, s_M_board_7, s_M_board_10, s_M_board_11, s_M_board_12, s_M_board_15, s_M_board_16, s_M_board_17, s_M_board_18, s_M_board_19, s_M_board_20, s_M_board_23, s_M_board_24, s_M_board_28, s_M_board_31, s_M_board_34, s_M_board_35, s_M_board_38, s_M_board_41, s_M_board_42, s_M_board_43, s_M_board_46, s_M_board_47, s_M_board_50, s_M_board_51, s_M_board_54, s_M_board_57, s_M_board_58, s_M_board_61, s_M_board_62, s_M_board_65, s_M_board_66, s_M_board_69, s_M_board_70, s_M_board_73, s_M_board_75, s_M_board_76, s_M_board_77, s_M_board_80, s_M_board_81, s_M_board_84, s_M_board_88, s_M_board_89, s_M_board_90, s_M_board_93, s_M_board_96, s_M_board_97, s_M_board_98, s_M_board_101, s_M_board_102, s_M_board_103, s_M_board_106, s_M_board_107, s_M_board_110, s_M_board_111, s_M_board_114, s_M_board_115, s_M_board_118, s_M_board_119, s_M_board_122, s_M_board_125, s_M_board_126, s_M_board_129, s_M_board_132, s_M_board_134, s_M_board_135, s_M_board_138, s_M_board_139, s_M_board_140, s_M_board_141, s_M_board_144, s_M_board_145, s_M_board_146, s_M_board_149, s_M_board_150, Option.bind_some, Option.bind_none, Option.toList_some, Option.toList_none, List.cons_append, List.nil_append, if_true, if_false, rz_clr, true_or, or_true, z00, z11, bZ_eq0, bZ_eq1, nor_self, if_pos, if_neg, zI_add, zI_sub, zI_mul, zI_neg, zI_lt, zI_le, zI_eq, c_M, f_M_0, u_M_0, f_M_1, u_M_1, f_M_2, l_M_2, r_M_2, w_M_2, f_M_3, u_M_3, f_M_4, u_M_4, f_M_5, u_M_5, f_M_6, u_M_6, f_M_7, u_M_7, f_M_8, u_M_8, f_M_9, l_M_9, r_M_9, w_M_9, f_M_10, l_M_10, r_M_10, w_M_10, f_M_11, l_M_11, r_M_11, w_M_11, f_M_12, l_M_12, r_M_12, w_M_12, f_M_13, l_M_13, r_M_13, w_M_13, f_M_14, l_M_14, r_M_14, w_M_14, f_M_15, l_M_15, r_M_15, w_M_15, f_M_16, l_M_16, r_M_16, w_M_16, f_M_17, l_M_17, r_M_17, w_M_17, f_M_18, l_M_18, r_M_18, w_M_18, gset_at, hw, c1, c4, d35]
              · have eb : b = false := by
                  rw [← Bool.not_eq_true]
                  intro z
                  have := hok.mp (hb.mp z)
                  omega
                subst eb
                rw [show bN false = 0 from rfl]
                simp (disch := first | omega | exact Nat.le_of_ble_eq_true rfl) only [e_M_board, s_M_board_0, s_M_board_1, s_M_board_2, s_M_board_5, s_M_board_6, s_M_board_7, s_M_board_10, s_M_board_11, s_M_board_12, s_M_board_15, s_M_board_16, s_M_board_17, s_M_board_18, s_M_board_19, s_M_board_20, s_M_board_23, s_M_board_24, s_M_board_28, s_M_board_31, s_M_board_34, s_M_board_35, s_M_board_38, s_M_board_41, s_M_board_42, s_M_board_43, s_M_board_46, s_M_board_47, s_M_board_50, s_M_board_51, s_M_board_54, s_M_board_57, s_M_board_58, s_M_board_61, s_M_board_62, s_M_board_65, s_M_board_66, s_M_board_69, s_M_board_70, s_M_board_73, s_M_board_75, s_M_board_76, s_M_board_77, s_M_board_80, s_M_board_81, s_M_board_84, s_M_board_88, s_M_board_89, s_M_board_90, s_M_board_93, s_M_board_96, s_M_board_97, s_M_board_98, s_M_board_101, s_M_board_102, s_M_board_103, s_M_board_106, s_M_board_107, s_M_board_110, s_M_board_111, s_M_board_114, s_M_board_115, s_M_board_118, s_M_board_119, s_M_board_122, s_M_board_125, s_M_board_126, s_M_board_129, s_M_board_132, s_M_board_134, s_M_board_135, s_M_board_138, s_M_board_139, s_M_board_140, s_M_board_141, s_M_board_144, s_M_board_145, s_M_board_146, s_M_board_149, s_M_board_150, Option.bind_some, Option.bind_none, Option.toList_some, Option.toList_none, List.cons_append, List.nil_append, if_true, if_false, rz_clr, true_or, or_true, z00, z11, bZ_eq0, bZ_eq1, nor_self, if_pos, if_neg, zI_add, zI_sub, zI_mul, zI_neg, zI_lt, zI_le, zI_eq, c_M, f_M_0, u_M_0, f_M_1, u_M_1, f_M_2, l_M_2, r_M_2, w_M_2, f_M_3, u_M_3, f_M_4, u_M_4, f_M_5, u_M_5, f_M_6, u_M_6, f_M_7, u_M_7, f_M_8, u_M_8, f_M_9, l_M_9, r_M_9, w_M_9, f_M_10, l_M_10, r_M_10, w_M_10, f_M_11, l_M_11, r_M_11, w_M_11, f_M_12, l_M_12, r_M_12, w_M_12, f_M_13, l_M_13, r_M_13, w_M_13, f_M_14, l_M_14, r_M_14, w_M_14, f_M_15, l_M_15, r_M_15, w_M_15, f_M_16, l_M_16, r_M_16, w_M_16, f_M_17, l_M_17, r_M_17, w_M_17, f_M_18, l_M_18, r_M_18, w_M_18, gset_at, hw, c1, c4, d35]
            · have eb : b = true := hb.mpr (hok.mpr ⟨c1, Or.inl cz, Or.inl c4⟩)
              subst eb
              rw [show bN true = 1 from rfl]
              simp (disch := first | omega | exact Nat.le_of_ble_eq_true rfl) only [e_M_board, s_M_board_0, s_M_board_1, s_M_board_2, s_M_board_5, s_M_board_6, s_M_board_7, s_M_board_10, s_M_board_11, s_M_board_12, s_M_board_15, s_M_board_16, s_M_board_17, s_M_board_18, s_M_board_19, s_M_board_20, s_M_board_23, s_M_board_24, s_M_board_28, s_M_board_31, s_M_board_34, s_M_board_35, s_M_board_38, s_M_board_41, s_M_board_42, s_M_board_43, s_M_board_46, s_M_board_47, s_M_board_50, s_M_board_51, s_M_board_54, s_M_board_57, s_M_board_58, s_M_board_61, s_M_board_62, s_M_board_65, s_M_board_66, s_M_board_69, s_M_board_70, s_M_board_73, s_M_board_75, s_M_board_76, s_M_board_77, s_M_board_80, s_M_board_81, s_M_board_84, s_M_board_88, s_M_board_89, s_M_board_90, s_M_board_93, s_M_board_96, s_M_board_97, s_M_board_98, s_M_board_101, s_M_board_102, s_M_board_103, s_M_board_106, s_M_board_107, s_M_board_110, s_M_board_111, s_M_board_114, s_M_board_115, s_M_board_118, s_M_board_119, s_M_board_122, s_M_board_125, s_M_board_126, s_M_board_129, s_M_board_132, s_M_board_134, s_M_board_135, s_M_board_138, s_M_board_139, s_M_board_140, s_M_board_141, s_M_board_144, s_M_board_145, s_M_board_146, s_M_board_149, s_M_board_150, Option.bind_some, Option.bind_none, Option.toList_some, Option.toList_none, List.cons_append, List.nil_append, if_true, if_false, rz_clr, true_or, or_true, z00, z11, bZ_eq0, bZ_eq1, nor_self, if_pos, if_neg, zI_add, zI_sub, zI_mul, zI_neg, zI_lt, zI_le, zI_eq, c_M, f_M_0, u_M_0, f_M_1, u_M_1, f_M_2, l_M_2, r_M_2, w_M_2, f_M_3, u_M_3, f_M_4, u_M_4, f_M_5, u_M_5, f_M_6, u_M_6, f_M_7, u_M_7, f_M_8, u_M_8, f_M_9, l_M_9, r_M_9, w_M_9, f_M_10, l_M_10, r_M_10, w_M_10, f_M_11, l_M_11, r_M_11, w_M_11, f_M_12, l_M_12, r_M_12, w_M_12, f_M_13, l_M_13, r_M_13, w_M_13, f_M_14, l_M_14, r_M_14, w_M_14, f_M_15, l_M_15, r_M_15, w_M_15, f_M_16, l_M_16, r_M_16, w_M_16, f_M_17, l_M_17, r_M_17, w_M_17, f_M_18, l_M_18, r_M_18, w_M_18, gset_at, hw, c1, cz, c4, d35]
        · have eb : b = false := by
            rw [← Bool.not_eq_true]
            intro z
            have := hok.mp (hb.mp z)
            omega
          subst eb
          rw [show bN false = 0 from rfl]
          simp (disch := first | omega | exact Nat.le_of_ble_eq_true rfl) only [e_M_board, s_M_board_0, s_M_board_1, s_M_board_2, s_M_board_5, s_M_board_6, s_M_board_7, s_M_board_10, s_M_board_11, s_M_board_12, s_M_board_15, s_M_board_16, s_M_board_17, s_M_board_18, s_M_board_19, s_M_board_20, s_M_board_23, s_M_board_24, s_M_board_28, s_M_board_31, s_M_board_34, s_M_board_35, s_M_board_38, s_M_board_41, s_M_board_42, s_M_board_43, s_M_board_46, s_M_board_47, s_M_board_50, s_M_board_51, s_M_board_54, s_M_board_57, s_M_board_58, s_M_board_61, s_M_board_62, s_M_board_65, s_M_board_66, s_M_board_69, s_M_board_70, s_M_board_73, s_M_board_75, s_M_board_76, s_M_board_77, s_M_board_80, s_M_board_81, s_M_board_84, s_M_board_88, s_M_board_89, s_M_board_90, s_M_board_93, s_M_board_96, s_M_board_97, s_M_board_98, s_M_board_101, s_M_board_102, s_M_board_103, s_M_board_106, s_M_board_107, s_M_board_110, s_M_board_111, s_M_board_114, s_M_board_115, s_M_board_118, s_M_board_119, s_M_board_122, s_M_board_125, s_M_board_126, s_M_board_129, s_M_board_132, s_M_board_134, s_M_board_135, s_M_board_138, s_M_board_139, s_M_board_140, s_M_board_141, s_M_board_144, s_M_board_145, s_M_board_146, s_M_board_149, s_M_board_150, Option.bind_some, Option.bind_none, Option.toList_some, Option.toList_none, List.cons_append, List.nil_append, if_true, if_false, rz_clr, true_or, or_true, z00, z11, bZ_eq0, bZ_eq1, nor_self, if_pos, if_neg, zI_add, zI_sub, zI_mul, zI_neg, zI_lt, zI_le, zI_eq, c_M, f_M_0, u_M_0, f_M_1, u_M_1, f_M_2, l_M_2, r_M_2, w_M_2, f_M_3, u_M_3, f_M_4, u_M_4, f_M_5, u_M_5, f_M_6, u_M_6, f_M_7, u_M_7, f_M_8, u_M_8, f_M_9, l_M_9, r_M_9, w_M_9, f_M_10, l_M_10, r_M_10, w_M_10, f_M_11, l_M_11, r_M_11, w_M_11, f_M_12, l_M_12, r_M_12, w_M_12, f_M_13, l_M_13, r_M_13, w_M_13, f_M_14, l_M_14, r_M_14, w_M_14, f_M_15, l_M_15, r_M_15, w_M_15, f_M_16, l_M_16, r_M_16, w_M_16, f_M_17, l_M_17, r_M_17, w_M_17, f_M_18, l_M_18, r_M_18, w_M_18, gset_at, hw, c1, h50]
      by_cases cok : okT len s p
      · have hk := key true ⟨fun _ => cok, fun _ => rfl⟩
        obtain ⟨n1, e1, e2, e3⟩ := rd_step hP.1 hP.2.1 cok
        obtain ⟨iw, iw0⟩ := isT_word h7 cok
        rw [iw] at e1 e2 e3
        have g3 : bgW (tkW s len) 3 = tkW s len 3 := rfl
        have g0 : bgW (tkW s len) 0 = s 0 := tkW_ne (by decide)
        have g2 : bgW (tkW s len) 2 = s 2 := tkW_ne (by decide)
        have g8 : bgW (tkW s len) 8 = s 8 := tkW_ne (by decide)
        have g7 : bgW (tkW s len) 7 0 = tkW s len 6 0 := rfl
        have g9 : bgW (tkW s len) 9 0 = 0 := rfl
        have gT : tyR m (bgW (tkW s len)) := by have hT := hP.2.2.1; unfold tyR at hT ⊢; rw [g2, g0]; exact hT
        have h4 : m 4 0 = bgW (tkW s len) 3 0 := by rw [g3, hP.2.2.2.1.2.1, if_pos c]
        obtain ⟨f1, f2, f3⟩ := tk_facts hP.1.2.2.1 c
        have hm7 : m 7 0 = tkW s len 6 0 ∧ (0 ≤ tkW s len 6 0 ∧ tkW s len 6 0 ≤ 8) := by
          have := f2.2.1 iw0
          have h := hok.mp cok
          obtain ⟨-, -, hL⟩ := hP.2.2.2.1
          omega
        obtain ⟨m1, t1, t2, t3⟩ := z_Mtakes_y (N := N) (σ := σ) (d + 3) hN hP.2.2.2.2 gT e3.1.1 e3.2.1 e3.2.2.1 h4
        have P1 : PH len n1 (bgW (tkW s len)) p m1 := ⟨e3, e2, tyR_sm gT (sm_mono t2 (by decide)), t3, by rw [t2 8 (by decide)]; exact hP.2.2.2.2⟩
        have hD1 : tlR (m1 9) 33 p := by rw [t2 9 (by decide)]; exact hD
        have hw1 := z_Mwell (N := N) (σ := σ) (m := m1) (d + 7) hN (by rw [P1.2.2.2.2]; omega)
        rw [bZ_pos (by rw [P1.2.2.2.2]; decide)] at hw1
        obtain ⟨m2, k1, k2⟩ := z_MreadsItem (N := N) (σ := σ) d hN P1 hD1 (by rw [g7]; exact hm7.2) g9
        rw [g7, ← hm7.1] at k1
        have hMF1 : MF m m1 := MF_sm (sm_mono t2 (by decide))
        have key2 : rz_den (rz_dM (d + 8)) (rz_at tb_X5_board) (some .int) 27 [some (.ref (bs 10)), some (.int (zI (s 8 0))), l2] [] (wOf N (gset σ 10 m)) = rz_den (rz_dM (d + 8)) (rz_at tb_X5_board) (some .int) 101 [some (.ref (bs 10)), some (.int (zI (s 8 0))), some (.int (zI (m 7 0)))] [] (wOf N (gset σ 10 m2)) := by
          rw [hk]
          simp (disch := first | omega | exact Nat.le_of_ble_eq_true rfl) only [e_M_board, s_M_board_0, s_M_board_1, s_M_board_2, s_M_board_5, s_M_board_6, s_M_board_7, s_M_board_10, s_M_board_11, s_M_board_12, s_M_board_15, s_M_board_16, s_M_board_17, s_M_board_18, s_M_board_19, s_M_board_20, s_M_board_23, s_M_board_24, s_M_board_28, s_M_board_31, s_M_board_34, s_M_board_35, s_M_board_38, s_M_board_41, s_M_board_42, s_M_board_43, s_M_board_46, s_M_board_47, s_M_board_50, s_M_board_51, s_M_board_54, s_M_board_57, s_M_board_58, s_M_board_61, s_M_board_62, s_M_board_65, s_M_board_66, s_M_board_69, s_M_board_70, s_M_board_73, s_M_board_75, s_M_board_76, s_M_board_77, s_M_board_80, s_M_board_81, s_M_board_84, s_M_board_85, s_M_board_88, s_M_board_89, s_M_board_90, s_M_board_93, s_M_board_96, s_M_board_97, s_M_board_98, s_M_board_102, s_M_board_103, s_M_board_106, s_M_board_107, s_M_board_110, s_M_board_111, s_M_board_114, s_M_board_115, s_M_board_118, s_M_board_119, s_M_board_122, s_M_board_125, s_M_board_126, s_M_board_129, s_M_board_132, s_M_board_134, s_M_board_135, s_M_board_138, s_M_board_139, s_M_board_140, s_M_board_141, s_M_board_144, s_M_board_145, s_M_board_146, s_M_board_149, s_M_board_150, Option.bind_some, Option.bind_none, Option.toList_some, Option.toList_none, List.cons_append, List.nil_append, if_true, if_false, rz_clr, true_or, or_true, z00, z11, bZ_eq0, bZ_eq1, nor_self, if_pos, if_neg, zI_add, zI_sub, zI_mul, zI_neg, zI_lt, zI_le, zI_eq, c_M, f_M_0, u_M_0, f_M_1, u_M_1, f_M_2, l_M_2, r_M_2, w_M_2, f_M_3, u_M_3, f_M_4, u_M_4, f_M_5, u_M_5, f_M_6, u_M_6, f_M_7, u_M_7, f_M_8, u_M_8, f_M_9, l_M_9, r_M_9, w_M_9, f_M_10, l_M_10, r_M_10, w_M_10, f_M_11, l_M_11, r_M_11, w_M_11, f_M_12, l_M_12, r_M_12, w_M_12, f_M_13, l_M_13, r_M_13, w_M_13, f_M_14, l_M_14, r_M_14, w_M_14, f_M_15, l_M_15, r_M_15, w_M_15, f_M_16, l_M_16, r_M_16, w_M_16, f_M_17, l_M_17, r_M_17, w_M_17, f_M_18, l_M_18, r_M_18, w_M_18, t1, hw1, k1]
        rcases k2 with ⟨n2, s2, P2, e2a, e27, e28, e2n, e2al, e2t, e2f⟩ | ⟨b1, b2, b3⟩
        · have s27 : s2 7 0 = tkW s len 6 0 := by rw [e27]; exact g7
          have s28 : s2 8 0 = s 8 0 := by rw [e28]; exact congrFun g8 0
          have hne : s2 7 0 ≠ -9 := by omega
          have hL2 : L57 m2 := LA_57 P2.2.2.2.1
          have h52 := hL2.1
          have h3002 := P2.1.1.1.1
          have hl22 := P2.1.2.1
          have hp2 := tkP_le P2.1.2.2.1
          have hMF2 : MF m m2 := MF_tr hMF1 e2f
          by_cases c3 : m2 5 0 = 3
          · have hq2 : tkP s2 len < len ∧ tkW s2 len 5 0 = 2 := by
              obtain ⟨-, -, hL⟩ := P2.2.2.2.1
              omega
            have eis : isT (tkW s2 len) p = (true, edW (tkW s2 len), apP s2 p) := by
              have x7 : tkW s2 len 7 = s2 7 := tkW_ne (by decide)
              unfold isT
              rw [x7, if_neg hne, enB_tk, apP_tk, if_neg (by omega), if_pos ⟨hq2.2, e2n⟩]
            have ok2 : okT len s2 p := ⟨hq2.1, by rw [eis]⟩
            obtain ⟨n3, e31, e32, e33⟩ := rd_step P2.1 P2.2.1 ok2
            rw [eis] at e31 e32 e33
            have y3 : edW (tkW s2 len) 3 = tkW s2 len 3 := rfl
            have y0 : edW (tkW s2 len) 0 = s2 0 := tkW_ne (by decide)
            have y2 : edW (tkW s2 len) 2 = s2 2 := tkW_ne (by decide)
            have y8 : edW (tkW s2 len) 8 0 = s 8 0 + 1 := by
              have : edW (tkW s2 len) 8 0 = tkW s2 len 8 0 + 1 := rfl
              rw [this, tkW_ne (by decide), s28]
            have yT : tyR m2 (edW (tkW s2 len)) := by have hT := P2.2.2.1; unfold tyR at hT ⊢; rw [y2, y0]; exact hT
            have h42 : m2 4 0 = edW (tkW s2 len) 3 0 := by rw [y3, P2.2.2.2.1.2.1, if_pos hq2.1]
            obtain ⟨m3, u1, u2, u3⟩ := z_Mtakes_y (N := N) (σ := σ) (d + 3) hN P2.2.2.2.2 yT e33.1.1 e33.2.1 e33.2.2.1 h42
            rw [show bN true = 1 from rfl] at u1
            have P3 : PH len n3 (edW (tkW s2 len)) (apP s2 p) m3 := ⟨e33, e32, tyR_sm yT (sm_mono u2 (by decide)), u3, by rw [u2 8 (by decide)]; exact P2.2.2.2.2⟩
            have hD3 : tlR (m3 9) 33 (apP s2 p) := by rw [u2 9 (by decide)]; exact e2t
            obtain ⟨f1', f2', f3'⟩ := tk_facts P2.1.2.2.1 hq2.1
            have hs3 : s 3 0 + 1 ≤ edW (tkW s2 len) 3 0 := by
              rw [y3]
              have a1 : bgW (tkW s len) 3 0 = tkW s len 3 0 := rfl
              have a2 := e2a.2
              omega
            obtain ⟨m', l2', i, q1, q2⟩ := ih n3 (edW (tkW s2 len)) (apP s2 p) m3 (some (.int (zI (m 7 0)))) (by omega) P3 hD3 rfl (by rw [y8]; omega)
            rw [y8] at q1
            refine ⟨m', l2', i, ?_, BE_eq q2 (by rw [e1, e2a.1, e31]) (MF_tr hMF2 (MF_sm (sm_mono u2 (by decide))))⟩
            rw [key2]
            simp (disch := first | omega | exact Nat.le_of_ble_eq_true rfl) only [e_M_board, s_M_board_0, s_M_board_1, s_M_board_2, s_M_board_5, s_M_board_6, s_M_board_7, s_M_board_10, s_M_board_11, s_M_board_12, s_M_board_15, s_M_board_16, s_M_board_17, s_M_board_18, s_M_board_19, s_M_board_20, s_M_board_23, s_M_board_24, s_M_board_28, s_M_board_31, s_M_board_34, s_M_board_35, s_M_board_38, s_M_board_41, s_M_board_42, s_M_board_43, s_M_board_46, s_M_board_47, s_M_board_50, s_M_board_51, s_M_board_54, s_M_board_57, s_M_board_58, s_M_board_61, s_M_board_62, s_M_board_65, s_M_board_66, s_M_board_69, s_M_board_70, s_M_board_73, s_M_board_75, s_M_board_76, s_M_board_77, s_M_board_80, s_M_board_81, s_M_board_84, s_M_board_85, s_M_board_88, s_M_board_89, s_M_board_90, s_M_board_93, s_M_board_96, s_M_board_97, s_M_board_98, s_M_board_101, s_M_board_102, s_M_board_103, s_M_board_106, s_M_board_107, s_M_board_110, s_M_board_111, s_M_board_114, s_M_board_115, s_M_board_118, s_M_board_119, s_M_board_122, s_M_board_126, s_M_board_129, s_M_board_132, s_M_board_134, s_M_board_135, s_M_board_138, s_M_board_139, s_M_board_140, s_M_board_141, s_M_board_144, s_M_board_145, s_M_board_146, s_M_board_149, s_M_board_150, Option.bind_some, Option.bind_none, Option.toList_some, Option.toList_none, List.cons_append, List.nil_append, if_true, if_false, rz_clr, true_or, or_true, z00, z11, bZ_eq0, bZ_eq1, nor_self, if_pos, if_neg, zI_add, zI_sub, zI_mul, zI_neg, zI_lt, zI_le, zI_eq, c_M, f_M_0, u_M_0, f_M_1, u_M_1, f_M_2, l_M_2, r_M_2, w_M_2, f_M_3, u_M_3, f_M_4, u_M_4, f_M_5, u_M_5, f_M_6, u_M_6, f_M_7, u_M_7, f_M_8, u_M_8, f_M_9, l_M_9, r_M_9, w_M_9, f_M_10, l_M_10, r_M_10, w_M_10, f_M_11, l_M_11, r_M_11, w_M_11, f_M_12, l_M_12, r_M_12, w_M_12, f_M_13, l_M_13, r_M_13, w_M_13, f_M_14, l_M_14, r_M_14, w_M_14, f_M_15, l_M_15, r_M_15, w_M_15, f_M_16, l_M_16, r_M_16, w_M_16, f_M_17, l_M_17, r_M_17, w_M_17, f_M_18, l_M_18, r_M_18, w_M_18, gset_at, c3, u1, q1]
          · have hal : ∀ v, alB s2 p v = false := by
              rcases e2al with z | z
              · exact absurd z c3
              · exact z
            have nok : ¬ okT len s2 p := by
              rintro ⟨z1, z2⟩
              have x7 : tkW s2 len 7 = s2 7 := tkW_ne (by decide)
              unfold isT at z2
              rw [x7, if_neg hne, alB_tk, hal] at z2
              by_cases z3 : tkW s2 len 5 0 = 1
              · rw [if_pos z3, if_neg (fun z => absurd z.2 Bool.false_ne_true)] at z2
                exact absurd z2 Bool.false_ne_true
              · rw [if_neg z3] at z2
                by_cases z4 : tkW s2 len 5 0 = 2
                · obtain ⟨-, -, hL⟩ := P2.2.2.2.1
                  omega
                · rw [if_neg (fun z => z4 z.1)] at z2
                  exact absurd z2 Bool.false_ne_true
            have hbd := rd_bad P2.1 P2.2.1 hne nok
            have ht := z_Mtakes_n (N := N) (σ := σ) (d + 6) hN P2.2.2.2.2
            rw [show bN false = 0 from rfl] at ht
            have h6 : m2 6 0 = tkP s2 len := P2.2.2.2.1.1
            have hw3 := z_Mwell (N := N) (σ := σ) (m := pset m2 8 (fun _ => m2 6 0)) (d + 7) hN (by rw [pset_eq, h6]; omega)
            rw [bZ_neg (by rw [pset_eq, h6]; omega)] at hw3
            refine ⟨pset m2 8 (fun _ => m2 6 0), some (.int (zI (m 7 0))), s 8 0 + 1, ?_, MF_tr hMF2 (MF_sm (sm_pset (sm_rfl _ _) (by decide))), Or.inr ⟨by rw [pset_eq, h6]; omega, by rw [pset_eq, e1, e2a.1, hbd]; exact h6⟩⟩
            rw [key2]
            simp (disch := first | omega | exact Nat.le_of_ble_eq_true rfl) only [e_M_board, s_M_board_0, s_M_board_1, s_M_board_2, s_M_board_5, s_M_board_6, s_M_board_7, s_M_board_10, s_M_board_11, s_M_board_12, s_M_board_15, s_M_board_16, s_M_board_17, s_M_board_18, s_M_board_19, s_M_board_20, s_M_board_23, s_M_board_24, s_M_board_27, s_M_board_28, s_M_board_31, s_M_board_34, s_M_board_35, s_M_board_38, s_M_board_41, s_M_board_42, s_M_board_43, s_M_board_46, s_M_board_47, s_M_board_50, s_M_board_51, s_M_board_54, s_M_board_57, s_M_board_58, s_M_board_61, s_M_board_62, s_M_board_65, s_M_board_66, s_M_board_69, s_M_board_70, s_M_board_73, s_M_board_75, s_M_board_76, s_M_board_77, s_M_board_80, s_M_board_81, s_M_board_84, s_M_board_85, s_M_board_88, s_M_board_89, s_M_board_90, s_M_board_93, s_M_board_96, s_M_board_97, s_M_board_98, s_M_board_101, s_M_board_102, s_M_board_103, s_M_board_106, s_M_board_107, s_M_board_110, s_M_board_111, s_M_board_114, s_M_board_115, s_M_board_118, s_M_board_119, s_M_board_122, s_M_board_126, s_M_board_129, s_M_board_132, s_M_board_134, s_M_board_135, s_M_board_138, s_M_board_139, s_M_board_140, s_M_board_141, s_M_board_144, s_M_board_145, s_M_board_146, s_M_board_149, s_M_board_150, Option.bind_some, Option.bind_none, Option.toList_some, Option.toList_none, List.cons_append, List.nil_append, if_true, if_false, rz_clr, true_or, or_true, z00, z11, bZ_eq0, bZ_eq1, nor_self, if_pos, if_neg, zI_add, zI_sub, zI_mul, zI_neg, zI_lt, zI_le, zI_eq, c_M, f_M_0, u_M_0, f_M_1, u_M_1, f_M_2, l_M_2, r_M_2, w_M_2, f_M_3, u_M_3, f_M_4, u_M_4, f_M_5, u_M_5, f_M_6, u_M_6, f_M_7, u_M_7, f_M_8, u_M_8, f_M_9, l_M_9, r_M_9, w_M_9, f_M_10, l_M_10, r_M_10, w_M_10, f_M_11, l_M_11, r_M_11, w_M_11, f_M_12, l_M_12, r_M_12, w_M_12, f_M_13, l_M_13, r_M_13, w_M_13, f_M_14, l_M_14, r_M_14, w_M_14, f_M_15, l_M_15, r_M_15, w_M_15, f_M_16, l_M_16, r_M_16, w_M_16, f_M_17, l_M_17, r_M_17, w_M_17, f_M_18, l_M_18, r_M_18, w_M_18, gset_at, c3, ht, hw3]
        · have hF := z_MbF (N := N) (σ := σ) (m := m2) d hN b2 (i := s 8 0) (some (.int (zI (m 7 0))))
          refine ⟨m2, some (.int (zI (m 7 0))), s 8 0 + 1, ?_, MF_tr hMF1 b3, Or.inr ⟨b2, by rw [e1]; exact b1⟩⟩
          rw [key2, hF]
      · have hk := key false ⟨fun z => absurd z Bool.false_ne_true, fun z => absurd z cok⟩
        have hbd := rd_bad0 hP.1 hP.2.1 c cok
        have ht := z_Mtakes_n (N := N) (σ := σ) (d + 6) hN hP.2.2.2.2
        have h6 : m 6 0 = tkP s len := hP.2.2.2.1.1
        have h8' : 0 ≤ pset m 8 (fun _ => m 6 0) 8 0 ∧ pset m 8 (fun _ => m 6 0) 8 0 ≤ 300 := by rw [pset_eq, h6]; omega
        have hw3 := z_Mwell (N := N) (σ := σ) (m := pset m 8 (fun _ => m 6 0)) (d + 7) hN (by omega)
        rw [bZ_neg (by omega)] at hw3
        have hF := z_MbF (N := N) (σ := σ) (m := pset m 8 (fun _ => m 6 0)) d hN h8' (i := s 8 0) (some (.int (zI 0)))
        refine ⟨pset m 8 (fun _ => m 6 0), some (.int (zI 0)), s 8 0 + 1, ?_, MF_sm (sm_pset (sm_rfl _ _) (by decide)), Or.inr ⟨h8', by rw [pset_eq, hbd]; exact h6⟩⟩
        rw [hk, ← hF]
        simp (disch := first | omega | exact Nat.le_of_ble_eq_true rfl) only [e_M_board, s_M_board_0, s_M_board_1, s_M_board_2, s_M_board_5, s_M_board_6, s_M_board_7, s_M_board_10, s_M_board_11, s_M_board_12, s_M_board_15, s_M_board_16, s_M_board_17, s_M_board_18, s_M_board_19, s_M_board_20, s_M_board_23, s_M_board_24, s_M_board_28, s_M_board_31, s_M_board_34, s_M_board_35, s_M_board_38, s_M_board_41, s_M_board_42, s_M_board_43, s_M_board_46, s_M_board_47, s_M_board_50, s_M_board_51, s_M_board_54, s_M_board_57, s_M_board_58, s_M_board_61, s_M_board_62, s_M_board_65, s_M_board_66, s_M_board_69, s_M_board_70, s_M_board_73, s_M_board_75, s_M_board_76, s_M_board_77, s_M_board_80, s_M_board_81, s_M_board_84, s_M_board_85, s_M_board_88, s_M_board_89, s_M_board_90, s_M_board_93, s_M_board_96, s_M_board_97, s_M_board_98, s_M_board_102, s_M_board_103, s_M_board_106, s_M_board_107, s_M_board_110, s_M_board_111, s_M_board_114, s_M_board_115, s_M_board_118, s_M_board_119, s_M_board_122, s_M_board_125, s_M_board_126, s_M_board_129, s_M_board_132, s_M_board_134, s_M_board_135, s_M_board_138, s_M_board_139, s_M_board_140, s_M_board_141, s_M_board_144, s_M_board_145, s_M_board_146, s_M_board_149, s_M_board_150, Option.bind_some, Option.bind_none, Option.toList_some, Option.toList_none, List.cons_append, List.nil_append, if_true, if_false, rz_clr, true_or, or_true, z00, z11, bZ_eq0, bZ_eq1, nor_self, if_pos, if_neg, zI_add, zI_sub, zI_mul, zI_neg, zI_lt, zI_le, zI_eq, c_M, f_M_0, u_M_0, f_M_1, u_M_1, f_M_2, l_M_2, r_M_2, w_M_2, f_M_3, u_M_3, f_M_4, u_M_4, f_M_5, u_M_5, f_M_6, u_M_6, f_M_7, u_M_7, f_M_8, u_M_8, f_M_9, l_M_9, r_M_9, w_M_9, f_M_10, l_M_10, r_M_10, w_M_10, f_M_11, l_M_11, r_M_11, w_M_11, f_M_12, l_M_12, r_M_12, w_M_12, f_M_13, l_M_13, r_M_13, w_M_13, f_M_14, l_M_14, r_M_14, w_M_14, f_M_15, l_M_15, r_M_15, w_M_15, f_M_16, l_M_16, r_M_16, w_M_16, f_M_17, l_M_17, r_M_17, w_M_17, f_M_18, l_M_18, r_M_18, w_M_18, ht, hw3]
    · obtain ⟨r1, r2, r3, r4, r5⟩ := rd_end (n := n) (p := p) h7 c
      have h5 : m 5 0 = 0 := by
        obtain ⟨-, -, hL⟩ := hP.2.2.2.1
        omega
      refine ⟨m, l2, s 8 0, ?_, ⟨⟨sm_rfl _ _, fun _ _ => rfl⟩, Or.inl ⟨hP.2.2.2.2, r1, r3.symm, by rw [r2]; exact hD, r4, r5⟩⟩⟩
      rw [s_M_board_27]
      simp (disch := first | omega | exact Nat.le_of_ble_eq_true rfl) only [e_M_board, s_M_board_0, s_M_board_1, s_M_board_2, s_M_board_5, s_M_board_6, s_M_board_7, s_M_board_10, s_M_board_11, s_M_board_12, s_M_board_15, s_M_board_16, s_M_board_17, s_M_board_18, s_M_board_19, s_M_board_20, s_M_board_23, s_M_board_24, s_M_board_28, s_M_board_31, s_M_board_34, s_M_board_35, s_M_board_38, s_M_board_41, s_M_board_42, s_M_board_43, s_M_board_46, s_M_board_47, s_M_board_50, s_M_board_51, s_M_board_54, s_M_board_57, s_M_board_58, s_M_board_61, s_M_board_62, s_M_board_65, s_M_board_66, s_M_board_69, s_M_board_70, s_M_board_73, s_M_board_75, s_M_board_76, s_M_board_77, s_M_board_80, s_M_board_81, s_M_board_84, s_M_board_85, s_M_board_88, s_M_board_89, s_M_board_90, s_M_board_93, s_M_board_96, s_M_board_97, s_M_board_98, s_M_board_101, s_M_board_102, s_M_board_103, s_M_board_106, s_M_board_107, s_M_board_110, s_M_board_111, s_M_board_114, s_M_board_115, s_M_board_118, s_M_board_119, s_M_board_122, s_M_board_126, s_M_board_129, s_M_board_132, s_M_board_134, s_M_board_135, s_M_board_138, s_M_board_139, s_M_board_140, s_M_board_141, s_M_board_144, s_M_board_145, s_M_board_146, s_M_board_149, s_M_board_150, Option.bind_some, Option.bind_none, Option.toList_some, Option.toList_none, List.cons_append, List.nil_append, if_true, if_false, rz_clr, true_or, or_true, z00, z11, bZ_eq0, bZ_eq1, nor_self, if_pos, if_neg, zI_add, zI_sub, zI_mul, zI_neg, zI_lt, zI_le, zI_eq, c_M, f_M_0, u_M_0, f_M_1, u_M_1, f_M_2, l_M_2, r_M_2, w_M_2, f_M_3, u_M_3, f_M_4, u_M_4, f_M_5, u_M_5, f_M_6, u_M_6, f_M_7, u_M_7, f_M_8, u_M_8, f_M_9, l_M_9, r_M_9, w_M_9, f_M_10, l_M_10, r_M_10, w_M_10, f_M_11, l_M_11, r_M_11, w_M_11, f_M_12, l_M_12, r_M_12, w_M_12, f_M_13, l_M_13, r_M_13, w_M_13, f_M_14, l_M_14, r_M_14, w_M_14, f_M_15, l_M_15, r_M_15, w_M_15, f_M_16, l_M_16, r_M_16, w_M_16, f_M_17, l_M_17, r_M_17, w_M_17, f_M_18, l_M_18, r_M_18, w_M_18, gset_at, hw, h5]
end NH1
