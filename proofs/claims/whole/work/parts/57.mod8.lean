-- the model: safe, safest
section MH
variable {N : Nat} {σ : zS} {p q : zP}
theorem z_Msw_lp (d : Nat) (hN : 60 ≤ N) (hm : tlR (σ 10 9) 0 p) (hw : wfP p) (hl : lkP p) {j u cells a : Nat} (hA : p 8 0 * p 9 0 = a) (hj : j < 2) (hu : σ 10 16 j = u) (h3 : u < 3) (hcl : cells < 65536) (l2 : Option Value) (x4 : Int32) : ∀ (n c : Nat), n + c = a → ∀ l7 l8 l9, ∃ l7' l8' l9', rz_den (rz_dM (d + 2)) (rz_at tb_X5_safeIn) (some .int) 76 [some (.ref (bs 10)), some (.int (zI j)), l2, some (.int (zI cells)), some (.int x4), some (.int (zI (oS (safF p u cells) c : Nat))), some (.int (zI c)), l7, l8, l9] [] (wOf N σ) = rz_den (rz_dM (d + 2)) (rz_at tb_X5_safeIn) (some .int) 187 [some (.ref (bs 10)), some (.int (zI j)), l2, some (.int (zI cells)), some (.int x4), some (.int (zI (oS (safF p u cells) a : Nat))), some (.int (zI a)), l7', l8', l9'] [] (wOf N σ) := by
  have ha := wfP_area hw
  have hce := z_Mcells (N := N) (σ := σ) (d + 1) hN hm
  rw [hA] at hce
  intro n
  induction n with
  | zero =>
    intro c hc l7 l8 l9
    obtain rfl : c = a := by omega
    refine ⟨l7, l8, l9, ?_⟩
    rw [s_M_safeIn_76]
    simp (disch := first | omega | exact Nat.le_of_ble_eq_true rfl) only [e_M_safeIn, s_M_safeIn_0, s_M_safeIn_1, s_M_safeIn_4, s_M_safeIn_5, s_M_safeIn_6, s_M_safeIn_7, s_M_safeIn_9, s_M_safeIn_11, s_M_safeIn_12, s_M_safeIn_15, s_M_safeIn_18, s_M_safeIn_19, s_M_safeIn_20, s_M_safeIn_23, s_M_safeIn_24, s_M_safeIn_26, s_M_safeIn_27, s_M_safeIn_28, s_M_safeIn_29, s_M_safeIn_32, s_M_safeIn_33, s_M_safeIn_36, s_M_safeIn_37, s_M_safeIn_39, s_M_safeIn_40, s_M_safeIn_41, s_M_safeIn_42, s_M_safeIn_45, s_M_safeIn_46, s_M_safeIn_49, s_M_safeIn_50, s_M_safeIn_52, s_M_safeIn_53, s_M_safeIn_54, s_M_safeIn_55, s_M_safeIn_58, s_M_safeIn_61, s_M_safeIn_62, s_M_safeIn_64, s_M_safeIn_66, s_M_safeIn_67, s_M_safeIn_70, s_M_safeIn_71, s_M_safeIn_73, s_M_safeIn_74, s_M_safeIn_78, s_M_safeIn_79, s_M_safeIn_82, s_M_safeIn_85, s_M_safeIn_86, s_M_safeIn_88, s_M_safeIn_89, s_M_safeIn_90, s_M_safeIn_91, s_M_safeIn_92, s_M_safeIn_95, s_M_safeIn_96, s_M_safeIn_99, s_M_safeIn_100, s_M_safeIn_102, s_M_safeIn_103, s_M_safeIn_107, s_M_safeIn_109, s_M_safeIn_112, s_M_safeIn_113, s_M_safeIn_114, s_M_safeIn_117, s_M_safeIn_118, s_M_safeIn_119, s_M_safeIn_121, s_M_safeIn_123, s_M_safeIn_126, s_M_safeIn_128, s_M_safeIn_130, s_M_safeIn_133, s_M_safeIn_135, s_M_safeIn_137, s_M_safeIn_140, s_M_safeIn_141, s_M_safeIn_143, s_M_safeIn_144, s_M_safeIn_145, s_M_safeIn_146, s_M_safeIn_147, s_M_safeIn_150, s_M_safeIn_151, s_M_safeIn_154, s_M_safeIn_155, s_M_safeIn_157, s_M_safeIn_160, s_M_safeIn_163, s_M_safeIn_165, s_M_safeIn_167, s_M_safeIn_170, s_M_safeIn_171, s_M_safeIn_173, s_M_safeIn_174, s_M_safeIn_177, s_M_safeIn_178, s_M_safeIn_179, s_M_safeIn_181, s_M_safeIn_184, s_M_safeIn_189, s_M_safeIn_190, s_M_safeIn_193, s_M_safeIn_196, s_M_safeIn_197, Option.bind_some, Option.bind_none, Option.toList_some, Option.toList_none, List.cons_append, List.nil_append, if_true, if_false, rz_clr, true_or, or_true, z00, z11, bZ_eq0, bZ_eq1, nor_self, if_pos, if_neg, zI_add, zI_sub, zI_mul, zI_neg, zI_lt, zI_le, zI_eq, c_M, f_M_0, u_M_0, f_M_1, u_M_1, f_M_2, l_M_2, r_M_2, w_M_2, f_M_3, u_M_3, f_M_4, u_M_4, f_M_5, u_M_5, f_M_6, u_M_6, f_M_7, u_M_7, f_M_8, u_M_8, f_M_9, l_M_9, r_M_9, w_M_9, f_M_10, l_M_10, r_M_10, w_M_10, f_M_11, l_M_11, r_M_11, w_M_11, f_M_12, l_M_12, r_M_12, w_M_12, f_M_13, l_M_13, r_M_13, w_M_13, f_M_14, l_M_14, r_M_14, w_M_14, f_M_15, l_M_15, r_M_15, w_M_15, f_M_16, l_M_16, r_M_16, w_M_16, f_M_17, l_M_17, r_M_17, w_M_17, f_M_18, l_M_18, r_M_18, w_M_18, hce]
  | succ n ih =>
    intro c hc l7 l8 l9
    have hb := oS_lt (safF p u cells) c
    have hb2 : 2 ^ c ≤ 2 ^ 15 := Nat.pow_le_pow_right (by decide) (by omega)
    have hsh := z_shr (b := cells) (i := c) (by omega) (by omega)
    have hand := z_and1 (cells / 2 ^ c) (Nat.lt_of_le_of_lt (Nat.div_le_self _ _) (by omega))
    rw [tb_div] at hand
    have z0 : zI ((oS (safF p u cells) c : Nat) : Int) ||| zI 0 = zI ((oS (safF p u cells) c : Nat) : Int) := Int32.or_zero
    obtain ⟨l9', hst⟩ := z_Mstay_lp (N := N) (σ := σ) d hN hm hw hl (c := c) (cells := cells) hj hu h3 (by omega) hcl l2 (some (.int x4)) (some (.int (zI (oS (safF p u cells) c : Nat)))) 8 0 rfl (cells.testBit c) l9
    rw [Int.natCast_zero, show (cells.testBit c && aB (stayF p u c cells) 8 0) = safF p u cells c from rfl] at hst
    rw [s_M_safeIn_76]
    by_cases q1 : cells.testBit c = true
    · rw [if_pos q1, Int.natCast_one] at hand
      rw [q1, show bN true = 1 from rfl] at hst
      by_cases q2 : safF p u cells c = true
      · have e : oS (safF p u cells) (c + 1) = oS (safF p u cells) c ||| 2 ^ c := if_pos q2
        obtain ⟨l7', l8', l9'', ih'⟩ := ih (c + 1) (by omega) (some (.int (zI 1))) (some (.int (zI 8))) l9'
        simp only [Int.natCast_add, Int.natCast_one] at ih'
        rw [e] at ih'
        rw [q2, show bN true = 1 from rfl] at hst
        refine ⟨l7', l8', l9'', ?_⟩
        simp (disch := first | omega | exact Nat.le_of_ble_eq_true rfl) only [e_M_safeIn, s_M_safeIn_0, s_M_safeIn_1, s_M_safeIn_4, s_M_safeIn_5, s_M_safeIn_6, s_M_safeIn_7, s_M_safeIn_9, s_M_safeIn_11, s_M_safeIn_12, s_M_safeIn_15, s_M_safeIn_18, s_M_safeIn_19, s_M_safeIn_20, s_M_safeIn_23, s_M_safeIn_24, s_M_safeIn_26, s_M_safeIn_27, s_M_safeIn_28, s_M_safeIn_29, s_M_safeIn_32, s_M_safeIn_33, s_M_safeIn_36, s_M_safeIn_37, s_M_safeIn_39, s_M_safeIn_40, s_M_safeIn_41, s_M_safeIn_42, s_M_safeIn_45, s_M_safeIn_46, s_M_safeIn_49, s_M_safeIn_50, s_M_safeIn_52, s_M_safeIn_53, s_M_safeIn_54, s_M_safeIn_55, s_M_safeIn_58, s_M_safeIn_61, s_M_safeIn_62, s_M_safeIn_64, s_M_safeIn_66, s_M_safeIn_67, s_M_safeIn_70, s_M_safeIn_71, s_M_safeIn_73, s_M_safeIn_74, s_M_safeIn_78, s_M_safeIn_79, s_M_safeIn_82, s_M_safeIn_85, s_M_safeIn_86, s_M_safeIn_88, s_M_safeIn_89, s_M_safeIn_90, s_M_safeIn_91, s_M_safeIn_92, s_M_safeIn_95, s_M_safeIn_96, s_M_safeIn_99, s_M_safeIn_100, s_M_safeIn_102, s_M_safeIn_103, s_M_safeIn_107, s_M_safeIn_109, s_M_safeIn_112, s_M_safeIn_113, s_M_safeIn_114, s_M_safeIn_117, s_M_safeIn_118, s_M_safeIn_119, s_M_safeIn_121, s_M_safeIn_123, s_M_safeIn_126, s_M_safeIn_128, s_M_safeIn_130, s_M_safeIn_133, s_M_safeIn_135, s_M_safeIn_137, s_M_safeIn_140, s_M_safeIn_141, s_M_safeIn_143, s_M_safeIn_144, s_M_safeIn_145, s_M_safeIn_146, s_M_safeIn_147, s_M_safeIn_150, s_M_safeIn_151, s_M_safeIn_154, s_M_safeIn_155, s_M_safeIn_157, s_M_safeIn_160, s_M_safeIn_163, s_M_safeIn_165, s_M_safeIn_167, s_M_safeIn_170, s_M_safeIn_171, s_M_safeIn_173, s_M_safeIn_174, s_M_safeIn_177, s_M_safeIn_178, s_M_safeIn_179, s_M_safeIn_181, s_M_safeIn_184, s_M_safeIn_189, s_M_safeIn_190, s_M_safeIn_193, s_M_safeIn_196, s_M_safeIn_197, Option.bind_some, Option.bind_none, Option.toList_some, Option.toList_none, List.cons_append, List.nil_append, if_true, if_false, rz_clr, true_or, or_true, z00, z11, bZ_eq0, bZ_eq1, nor_self, if_pos, if_neg, zI_add, zI_sub, zI_mul, zI_neg, zI_lt, zI_le, zI_eq, c_M, f_M_0, u_M_0, f_M_1, u_M_1, f_M_2, l_M_2, r_M_2, w_M_2, f_M_3, u_M_3, f_M_4, u_M_4, f_M_5, u_M_5, f_M_6, u_M_6, f_M_7, u_M_7, f_M_8, u_M_8, f_M_9, l_M_9, r_M_9, w_M_9, f_M_10, l_M_10, r_M_10, w_M_10, f_M_11, l_M_11, r_M_11, w_M_11, f_M_12, l_M_12, r_M_12, w_M_12, f_M_13, l_M_13, r_M_13, w_M_13, f_M_14, l_M_14, r_M_14, w_M_14, f_M_15, l_M_15, r_M_15, w_M_15, f_M_16, l_M_16, r_M_16, w_M_16, f_M_17, l_M_17, r_M_17, w_M_17, f_M_18, l_M_18, r_M_18, w_M_18, hce, hsh, hand, hst, z_shl, z_or, ih']
      · have e : oS (safF p u cells) (c + 1) = oS (safF p u cells) c := if_neg q2
        obtain ⟨l7', l8', l9'', ih'⟩ := ih (c + 1) (by omega) (some (.int (zI 0))) (some (.int (zI 8))) l9'
        simp only [Int.natCast_add, Int.natCast_one] at ih'
        rw [e] at ih'
        rw [Bool.not_eq_true] at q2
        rw [q2, show bN false = 0 from rfl] at hst
        refine ⟨l7', l8', l9'', ?_⟩
        simp (disch := first | omega | exact Nat.le_of_ble_eq_true rfl) only [e_M_safeIn, s_M_safeIn_0, s_M_safeIn_1, s_M_safeIn_4, s_M_safeIn_5, s_M_safeIn_6, s_M_safeIn_7, s_M_safeIn_9, s_M_safeIn_11, s_M_safeIn_12, s_M_safeIn_15, s_M_safeIn_18, s_M_safeIn_19, s_M_safeIn_20, s_M_safeIn_23, s_M_safeIn_24, s_M_safeIn_26, s_M_safeIn_27, s_M_safeIn_28, s_M_safeIn_29, s_M_safeIn_32, s_M_safeIn_33, s_M_safeIn_36, s_M_safeIn_37, s_M_safeIn_39, s_M_safeIn_40, s_M_safeIn_41, s_M_safeIn_42, s_M_safeIn_45, s_M_safeIn_46, s_M_safeIn_49, s_M_safeIn_50, s_M_safeIn_52, s_M_safeIn_53, s_M_safeIn_54, s_M_safeIn_55, s_M_safeIn_58, s_M_safeIn_61, s_M_safeIn_62, s_M_safeIn_64, s_M_safeIn_66, s_M_safeIn_67, s_M_safeIn_70, s_M_safeIn_71, s_M_safeIn_73, s_M_safeIn_74, s_M_safeIn_78, s_M_safeIn_79, s_M_safeIn_82, s_M_safeIn_85, s_M_safeIn_86, s_M_safeIn_88, s_M_safeIn_89, s_M_safeIn_90, s_M_safeIn_91, s_M_safeIn_92, s_M_safeIn_95, s_M_safeIn_96, s_M_safeIn_99, s_M_safeIn_100, s_M_safeIn_102, s_M_safeIn_103, s_M_safeIn_107, s_M_safeIn_109, s_M_safeIn_112, s_M_safeIn_113, s_M_safeIn_114, s_M_safeIn_117, s_M_safeIn_118, s_M_safeIn_119, s_M_safeIn_121, s_M_safeIn_123, s_M_safeIn_126, s_M_safeIn_128, s_M_safeIn_130, s_M_safeIn_133, s_M_safeIn_135, s_M_safeIn_137, s_M_safeIn_140, s_M_safeIn_141, s_M_safeIn_143, s_M_safeIn_144, s_M_safeIn_145, s_M_safeIn_146, s_M_safeIn_147, s_M_safeIn_150, s_M_safeIn_151, s_M_safeIn_154, s_M_safeIn_155, s_M_safeIn_157, s_M_safeIn_160, s_M_safeIn_163, s_M_safeIn_165, s_M_safeIn_167, s_M_safeIn_170, s_M_safeIn_171, s_M_safeIn_173, s_M_safeIn_174, s_M_safeIn_177, s_M_safeIn_178, s_M_safeIn_179, s_M_safeIn_181, s_M_safeIn_184, s_M_safeIn_189, s_M_safeIn_190, s_M_safeIn_193, s_M_safeIn_196, s_M_safeIn_197, Option.bind_some, Option.bind_none, Option.toList_some, Option.toList_none, List.cons_append, List.nil_append, if_true, if_false, rz_clr, true_or, or_true, z00, z11, bZ_eq0, bZ_eq1, nor_self, if_pos, if_neg, zI_add, zI_sub, zI_mul, zI_neg, zI_lt, zI_le, zI_eq, c_M, f_M_0, u_M_0, f_M_1, u_M_1, f_M_2, l_M_2, r_M_2, w_M_2, f_M_3, u_M_3, f_M_4, u_M_4, f_M_5, u_M_5, f_M_6, u_M_6, f_M_7, u_M_7, f_M_8, u_M_8, f_M_9, l_M_9, r_M_9, w_M_9, f_M_10, l_M_10, r_M_10, w_M_10, f_M_11, l_M_11, r_M_11, w_M_11, f_M_12, l_M_12, r_M_12, w_M_12, f_M_13, l_M_13, r_M_13, w_M_13, f_M_14, l_M_14, r_M_14, w_M_14, f_M_15, l_M_15, r_M_15, w_M_15, f_M_16, l_M_16, r_M_16, w_M_16, f_M_17, l_M_17, r_M_17, w_M_17, f_M_18, l_M_18, r_M_18, w_M_18, hce, hsh, hand, hst, z0, ih']
    · rw [if_neg q1, Int.natCast_zero] at hand
      have q2 : safF p u cells c = false := by
        unfold safF
        rw [Bool.not_eq_true] at q1
        rw [q1, Bool.false_and]
      have e : oS (safF p u cells) (c + 1) = oS (safF p u cells) c := if_neg (by rw [q2]; decide)
      obtain ⟨l7', l8', l9'', ih'⟩ := ih (c + 1) (by omega) (some (.int (zI 0))) (some (.int (zI 8))) l9'
      simp only [Int.natCast_add, Int.natCast_one] at ih'
      rw [e] at ih'
      rw [Bool.not_eq_true] at q1
      rw [q1, q2, show bN false = 0 from rfl] at hst
      refine ⟨l7', l8', l9'', ?_⟩
      simp (disch := first | omega | exact Nat.le_of_ble_eq_true rfl) only [e_M_safeIn, s_M_safeIn_0, s_M_safeIn_1, s_M_safeIn_4, s_M_safeIn_5, s_M_safeIn_6, s_M_safeIn_7, s_M_safeIn_9, s_M_safeIn_11, s_M_safeIn_12, s_M_safeIn_15, s_M_safeIn_18, s_M_safeIn_19, s_M_safeIn_20, s_M_safeIn_23, s_M_safeIn_24, s_M_safeIn_26, s_M_safeIn_27, s_M_safeIn_28, s_M_safeIn_29, s_M_safeIn_32, s_M_safeIn_33, s_M_safeIn_36, s_M_safeIn_37, s_M_safeIn_39, s_M_safeIn_40, s_M_safeIn_41, s_M_safeIn_42, s_M_safeIn_45, s_M_safeIn_46, s_M_safeIn_49, s_M_safeIn_50, s_M_safeIn_52, s_M_safeIn_53, s_M_safeIn_54, s_M_safeIn_55, s_M_safeIn_58, s_M_safeIn_61, s_M_safeIn_62, s_M_safeIn_64, s_M_safeIn_66, s_M_safeIn_67, s_M_safeIn_70, s_M_safeIn_71, s_M_safeIn_73, s_M_safeIn_74, s_M_safeIn_78, s_M_safeIn_79, s_M_safeIn_82, s_M_safeIn_85, s_M_safeIn_86, s_M_safeIn_88, s_M_safeIn_89, s_M_safeIn_90, s_M_safeIn_91, s_M_safeIn_92, s_M_safeIn_95, s_M_safeIn_96, s_M_safeIn_99, s_M_safeIn_100, s_M_safeIn_102, s_M_safeIn_103, s_M_safeIn_107, s_M_safeIn_109, s_M_safeIn_112, s_M_safeIn_113, s_M_safeIn_114, s_M_safeIn_117, s_M_safeIn_118, s_M_safeIn_119, s_M_safeIn_121, s_M_safeIn_123, s_M_safeIn_126, s_M_safeIn_128, s_M_safeIn_130, s_M_safeIn_133, s_M_safeIn_135, s_M_safeIn_137, s_M_safeIn_140, s_M_safeIn_141, s_M_safeIn_143, s_M_safeIn_144, s_M_safeIn_145, s_M_safeIn_146, s_M_safeIn_147, s_M_safeIn_150, s_M_safeIn_151, s_M_safeIn_154, s_M_safeIn_155, s_M_safeIn_157, s_M_safeIn_160, s_M_safeIn_163, s_M_safeIn_165, s_M_safeIn_167, s_M_safeIn_170, s_M_safeIn_171, s_M_safeIn_173, s_M_safeIn_174, s_M_safeIn_177, s_M_safeIn_178, s_M_safeIn_179, s_M_safeIn_181, s_M_safeIn_184, s_M_safeIn_189, s_M_safeIn_190, s_M_safeIn_193, s_M_safeIn_196, s_M_safeIn_197, Option.bind_some, Option.bind_none, Option.toList_some, Option.toList_none, List.cons_append, List.nil_append, if_true, if_false, rz_clr, true_or, or_true, z00, z11, bZ_eq0, bZ_eq1, nor_self, if_pos, if_neg, zI_add, zI_sub, zI_mul, zI_neg, zI_lt, zI_le, zI_eq, c_M, f_M_0, u_M_0, f_M_1, u_M_1, f_M_2, l_M_2, r_M_2, w_M_2, f_M_3, u_M_3, f_M_4, u_M_4, f_M_5, u_M_5, f_M_6, u_M_6, f_M_7, u_M_7, f_M_8, u_M_8, f_M_9, l_M_9, r_M_9, w_M_9, f_M_10, l_M_10, r_M_10, w_M_10, f_M_11, l_M_11, r_M_11, w_M_11, f_M_12, l_M_12, r_M_12, w_M_12, f_M_13, l_M_13, r_M_13, w_M_13, f_M_14, l_M_14, r_M_14, w_M_14, f_M_15, l_M_15, r_M_15, w_M_15, f_M_16, l_M_16, r_M_16, w_M_16, f_M_17, l_M_17, r_M_17, w_M_17, f_M_18, l_M_18, r_M_18, w_M_18, hce, hsh, hand, hst, z0, ih']
theorem z_Msn_lp (d : Nat) (hN : 60 ≤ N) (hm : tlR (σ 10 9) 0 p) (hw : wfP p) (hl : lkP p) {j u k0 : Nat} (hj : j < 2) (hu : σ 10 16 j = u) (h3 : u < 3) (hk0 : k0 < 100) : ∀ (n k : Nat), n + k = k0 → ∀ l5 l6 l7 l8 l9, rz_den (rz_dM (d + 2)) (rz_at tb_X5_safeIn) (some .int) 64 [some (.ref (bs 10)), some (.int (zI j)), some (.int (zI k0)), some (.int (zI (itS p u k : Nat))), some (.int (zI k)), l5, l6, l7, l8, l9] [] (wOf N σ) = some (some (.int (zI (itS p u k0 : Nat))), wOf N σ) := by
  have ha := wfP_area hw
  obtain ⟨a, hA⟩ : ∃ a : Nat, p 8 0 * p 9 0 = a := ⟨(p 8 0 * p 9 0).toNat, by omega⟩
  intro n
  induction n with
  | zero =>
    intro k hk l5 l6 l7 l8 l9
    obtain rfl : k = k0 := by omega
    rw [s_M_safeIn_64]
    simp (disch := first | omega | exact Nat.le_of_ble_eq_true rfl) only [e_M_safeIn, s_M_safeIn_0, s_M_safeIn_1, s_M_safeIn_4, s_M_safeIn_5, s_M_safeIn_6, s_M_safeIn_7, s_M_safeIn_9, s_M_safeIn_11, s_M_safeIn_12, s_M_safeIn_15, s_M_safeIn_18, s_M_safeIn_19, s_M_safeIn_20, s_M_safeIn_23, s_M_safeIn_24, s_M_safeIn_26, s_M_safeIn_27, s_M_safeIn_28, s_M_safeIn_29, s_M_safeIn_32, s_M_safeIn_33, s_M_safeIn_36, s_M_safeIn_37, s_M_safeIn_39, s_M_safeIn_40, s_M_safeIn_41, s_M_safeIn_42, s_M_safeIn_45, s_M_safeIn_46, s_M_safeIn_49, s_M_safeIn_50, s_M_safeIn_52, s_M_safeIn_53, s_M_safeIn_54, s_M_safeIn_55, s_M_safeIn_58, s_M_safeIn_61, s_M_safeIn_62, s_M_safeIn_66, s_M_safeIn_67, s_M_safeIn_70, s_M_safeIn_71, s_M_safeIn_73, s_M_safeIn_74, s_M_safeIn_78, s_M_safeIn_79, s_M_safeIn_82, s_M_safeIn_85, s_M_safeIn_86, s_M_safeIn_88, s_M_safeIn_89, s_M_safeIn_90, s_M_safeIn_91, s_M_safeIn_92, s_M_safeIn_95, s_M_safeIn_96, s_M_safeIn_99, s_M_safeIn_100, s_M_safeIn_102, s_M_safeIn_103, s_M_safeIn_107, s_M_safeIn_109, s_M_safeIn_112, s_M_safeIn_113, s_M_safeIn_114, s_M_safeIn_117, s_M_safeIn_118, s_M_safeIn_119, s_M_safeIn_121, s_M_safeIn_123, s_M_safeIn_126, s_M_safeIn_128, s_M_safeIn_130, s_M_safeIn_133, s_M_safeIn_135, s_M_safeIn_137, s_M_safeIn_140, s_M_safeIn_141, s_M_safeIn_143, s_M_safeIn_144, s_M_safeIn_145, s_M_safeIn_146, s_M_safeIn_147, s_M_safeIn_150, s_M_safeIn_151, s_M_safeIn_154, s_M_safeIn_155, s_M_safeIn_157, s_M_safeIn_160, s_M_safeIn_163, s_M_safeIn_165, s_M_safeIn_167, s_M_safeIn_170, s_M_safeIn_171, s_M_safeIn_173, s_M_safeIn_174, s_M_safeIn_177, s_M_safeIn_178, s_M_safeIn_179, s_M_safeIn_181, s_M_safeIn_184, s_M_safeIn_187, s_M_safeIn_189, s_M_safeIn_190, s_M_safeIn_193, s_M_safeIn_196, s_M_safeIn_197, Option.bind_some, Option.bind_none, Option.toList_some, Option.toList_none, List.cons_append, List.nil_append, if_true, if_false, rz_clr, true_or, or_true, z00, z11, bZ_eq0, bZ_eq1, nor_self, if_pos, if_neg, zI_add, zI_sub, zI_mul, zI_neg, zI_lt, zI_le, zI_eq]
  | succ n ih =>
    intro k hk l5 l6 l7 l8 l9
    obtain ⟨l7', l8', l9', hs⟩ := z_Msw_lp (N := N) (σ := σ) d hN hm hw hl (cells := itS p u k) hA hj hu h3 (itS_lt hw u k) (some (.int (zI k0))) (zI k) a 0 (by omega) l7 l8 l9
    rw [Int.natCast_zero, show oS (safF p u (itS p u k)) 0 = 0 from rfl, Int.natCast_zero, show oS (safF p u (itS p u k)) a = itS p u (k + 1) from by
      show _ = oS _ _
      rw [hA, Int.toNat_natCast]] at hs
    have ih' := ih (k + 1) (by omega) (some (.int (zI (itS p u (k + 1) : Nat)))) (some (.int (zI a))) l7' l8' l9'
    simp only [Int.natCast_add, Int.natCast_one] at ih'
    rw [s_M_safeIn_64]
    simp (disch := first | omega | exact Nat.le_of_ble_eq_true rfl) only [e_M_safeIn, s_M_safeIn_0, s_M_safeIn_1, s_M_safeIn_4, s_M_safeIn_5, s_M_safeIn_6, s_M_safeIn_7, s_M_safeIn_9, s_M_safeIn_11, s_M_safeIn_12, s_M_safeIn_15, s_M_safeIn_18, s_M_safeIn_19, s_M_safeIn_20, s_M_safeIn_23, s_M_safeIn_24, s_M_safeIn_26, s_M_safeIn_27, s_M_safeIn_28, s_M_safeIn_29, s_M_safeIn_32, s_M_safeIn_33, s_M_safeIn_36, s_M_safeIn_37, s_M_safeIn_39, s_M_safeIn_40, s_M_safeIn_41, s_M_safeIn_42, s_M_safeIn_45, s_M_safeIn_46, s_M_safeIn_49, s_M_safeIn_50, s_M_safeIn_52, s_M_safeIn_53, s_M_safeIn_54, s_M_safeIn_55, s_M_safeIn_58, s_M_safeIn_61, s_M_safeIn_62, s_M_safeIn_66, s_M_safeIn_67, s_M_safeIn_70, s_M_safeIn_71, s_M_safeIn_73, s_M_safeIn_74, s_M_safeIn_78, s_M_safeIn_79, s_M_safeIn_82, s_M_safeIn_85, s_M_safeIn_86, s_M_safeIn_88, s_M_safeIn_89, s_M_safeIn_90, s_M_safeIn_91, s_M_safeIn_92, s_M_safeIn_95, s_M_safeIn_96, s_M_safeIn_99, s_M_safeIn_100, s_M_safeIn_102, s_M_safeIn_103, s_M_safeIn_107, s_M_safeIn_109, s_M_safeIn_112, s_M_safeIn_113, s_M_safeIn_114, s_M_safeIn_117, s_M_safeIn_118, s_M_safeIn_119, s_M_safeIn_121, s_M_safeIn_123, s_M_safeIn_126, s_M_safeIn_128, s_M_safeIn_130, s_M_safeIn_133, s_M_safeIn_135, s_M_safeIn_137, s_M_safeIn_140, s_M_safeIn_141, s_M_safeIn_143, s_M_safeIn_144, s_M_safeIn_145, s_M_safeIn_146, s_M_safeIn_147, s_M_safeIn_150, s_M_safeIn_151, s_M_safeIn_154, s_M_safeIn_155, s_M_safeIn_157, s_M_safeIn_160, s_M_safeIn_163, s_M_safeIn_165, s_M_safeIn_167, s_M_safeIn_170, s_M_safeIn_171, s_M_safeIn_173, s_M_safeIn_174, s_M_safeIn_177, s_M_safeIn_178, s_M_safeIn_179, s_M_safeIn_181, s_M_safeIn_184, s_M_safeIn_187, s_M_safeIn_189, s_M_safeIn_190, s_M_safeIn_193, s_M_safeIn_196, s_M_safeIn_197, Option.bind_some, Option.bind_none, Option.toList_some, Option.toList_none, List.cons_append, List.nil_append, if_true, if_false, rz_clr, true_or, or_true, z00, z11, bZ_eq0, bZ_eq1, nor_self, if_pos, if_neg, zI_add, zI_sub, zI_mul, zI_neg, zI_lt, zI_le, zI_eq, hs, ih']
theorem z_Msol_lp (d : Nat) (hN : 60 ≤ N) (hm : tlR (σ 10 9) 0 p) (hw : wfP p) {a : Nat} (hA : p 8 0 * p 9 0 = a) (l1 : Option Value) (x2 : Int32) (l5 l6 l7 l8 l9 : Option Value) : ∀ (n c : Nat), n + c = a → rz_den (rz_dM (d + 2)) (rz_at tb_X5_safeIn) (some .int) 9 [some (.ref (bs 10)), l1, some (.int x2), some (.int (zI (oS (solF p) c : Nat))), some (.int (zI c)), l5, l6, l7, l8, l9] [] (wOf N σ) = rz_den (rz_dM (d + 2)) (rz_at tb_X5_safeIn) (some .int) 61 [some (.ref (bs 10)), l1, some (.int x2), some (.int (zI (oS (solF p) a : Nat))), some (.int (zI a)), l5, l6, l7, l8, l9] [] (wOf N σ) := by
  have ha := wfP_area hw
  have hce := z_Mcells (N := N) (σ := σ) (d + 1) hN hm
  rw [hA] at hce
  intro n
  induction n with
  | zero =>
    intro c hc
    obtain rfl : c = a := by omega
    rw [s_M_safeIn_9]
    simp (disch := first | omega | exact Nat.le_of_ble_eq_true rfl) only [e_M_safeIn, s_M_safeIn_0, s_M_safeIn_1, s_M_safeIn_4, s_M_safeIn_5, s_M_safeIn_6, s_M_safeIn_7, s_M_safeIn_11, s_M_safeIn_12, s_M_safeIn_15, s_M_safeIn_18, s_M_safeIn_19, s_M_safeIn_20, s_M_safeIn_23, s_M_safeIn_24, s_M_safeIn_26, s_M_safeIn_27, s_M_safeIn_28, s_M_safeIn_29, s_M_safeIn_32, s_M_safeIn_33, s_M_safeIn_36, s_M_safeIn_37, s_M_safeIn_39, s_M_safeIn_40, s_M_safeIn_41, s_M_safeIn_42, s_M_safeIn_45, s_M_safeIn_46, s_M_safeIn_49, s_M_safeIn_50, s_M_safeIn_52, s_M_safeIn_53, s_M_safeIn_54, s_M_safeIn_55, s_M_safeIn_58, s_M_safeIn_62, s_M_safeIn_64, s_M_safeIn_66, s_M_safeIn_67, s_M_safeIn_70, s_M_safeIn_71, s_M_safeIn_73, s_M_safeIn_74, s_M_safeIn_76, s_M_safeIn_78, s_M_safeIn_79, s_M_safeIn_82, s_M_safeIn_85, s_M_safeIn_86, s_M_safeIn_88, s_M_safeIn_89, s_M_safeIn_90, s_M_safeIn_91, s_M_safeIn_92, s_M_safeIn_95, s_M_safeIn_96, s_M_safeIn_99, s_M_safeIn_100, s_M_safeIn_102, s_M_safeIn_103, s_M_safeIn_105, s_M_safeIn_107, s_M_safeIn_109, s_M_safeIn_112, s_M_safeIn_113, s_M_safeIn_114, s_M_safeIn_117, s_M_safeIn_118, s_M_safeIn_119, s_M_safeIn_121, s_M_safeIn_123, s_M_safeIn_126, s_M_safeIn_128, s_M_safeIn_130, s_M_safeIn_133, s_M_safeIn_135, s_M_safeIn_137, s_M_safeIn_140, s_M_safeIn_141, s_M_safeIn_143, s_M_safeIn_144, s_M_safeIn_145, s_M_safeIn_146, s_M_safeIn_147, s_M_safeIn_150, s_M_safeIn_151, s_M_safeIn_154, s_M_safeIn_155, s_M_safeIn_157, s_M_safeIn_160, s_M_safeIn_163, s_M_safeIn_165, s_M_safeIn_167, s_M_safeIn_170, s_M_safeIn_171, s_M_safeIn_173, s_M_safeIn_174, s_M_safeIn_177, s_M_safeIn_178, s_M_safeIn_179, s_M_safeIn_181, s_M_safeIn_184, s_M_safeIn_187, s_M_safeIn_189, s_M_safeIn_190, s_M_safeIn_193, s_M_safeIn_196, s_M_safeIn_197, Option.bind_some, Option.bind_none, Option.toList_some, Option.toList_none, List.cons_append, List.nil_append, if_true, if_false, rz_clr, true_or, or_true, z00, z11, bZ_eq0, bZ_eq1, nor_self, if_pos, if_neg, zI_add, zI_sub, zI_mul, zI_neg, zI_lt, zI_le, zI_eq, c_M, f_M_0, u_M_0, f_M_1, u_M_1, f_M_2, l_M_2, r_M_2, w_M_2, f_M_3, u_M_3, f_M_4, u_M_4, f_M_5, u_M_5, f_M_6, u_M_6, f_M_7, u_M_7, f_M_8, u_M_8, f_M_9, l_M_9, r_M_9, w_M_9, f_M_10, l_M_10, r_M_10, w_M_10, f_M_11, l_M_11, r_M_11, w_M_11, f_M_12, l_M_12, r_M_12, w_M_12, f_M_13, l_M_13, r_M_13, w_M_13, f_M_14, l_M_14, r_M_14, w_M_14, f_M_15, l_M_15, r_M_15, w_M_15, f_M_16, l_M_16, r_M_16, w_M_16, f_M_17, l_M_17, r_M_17, w_M_17, f_M_18, l_M_18, r_M_18, w_M_18, hce]
  | succ n ih =>
    intro c hc
    have ih' := ih (c + 1) (by omega)
    simp only [Int.natCast_add, Int.natCast_one] at ih'
    have hb := oS_lt (solF p) c
    have hb2 : 2 ^ c ≤ 2 ^ 15 := Nat.pow_le_pow_right (by decide) (by omega)
    have hwc := hw.2.1 c (by omega)
    have ek := tl_cell hm (i := 3 + (c : Int)) (by omega)
    rw [show 3 + (c : Int) - 3 = c by omega, Int.toNat_natCast] at ek
    have z0 : zI ((oS (solF p) c : Nat) : Int) ||| zI 0 = zI ((oS (solF p) c : Nat) : Int) := Int32.or_zero
    rw [s_M_safeIn_9]
    by_cases q1 : p 0 c = 1
    · have e : oS (solF p) (c + 1) = oS (solF p) c := if_neg (by simp [solF, q1])
      rw [e] at ih'
      simp (disch := first | omega | exact Nat.le_of_ble_eq_true rfl) only [e_M_safeIn, s_M_safeIn_0, s_M_safeIn_1, s_M_safeIn_4, s_M_safeIn_5, s_M_safeIn_6, s_M_safeIn_7, s_M_safeIn_11, s_M_safeIn_12, s_M_safeIn_15, s_M_safeIn_18, s_M_safeIn_19, s_M_safeIn_20, s_M_safeIn_23, s_M_safeIn_24, s_M_safeIn_26, s_M_safeIn_27, s_M_safeIn_28, s_M_safeIn_29, s_M_safeIn_32, s_M_safeIn_33, s_M_safeIn_36, s_M_safeIn_37, s_M_safeIn_39, s_M_safeIn_40, s_M_safeIn_41, s_M_safeIn_42, s_M_safeIn_45, s_M_safeIn_46, s_M_safeIn_49, s_M_safeIn_50, s_M_safeIn_52, s_M_safeIn_53, s_M_safeIn_54, s_M_safeIn_55, s_M_safeIn_58, s_M_safeIn_62, s_M_safeIn_64, s_M_safeIn_66, s_M_safeIn_67, s_M_safeIn_70, s_M_safeIn_71, s_M_safeIn_73, s_M_safeIn_74, s_M_safeIn_76, s_M_safeIn_78, s_M_safeIn_79, s_M_safeIn_82, s_M_safeIn_85, s_M_safeIn_86, s_M_safeIn_88, s_M_safeIn_89, s_M_safeIn_90, s_M_safeIn_91, s_M_safeIn_92, s_M_safeIn_95, s_M_safeIn_96, s_M_safeIn_99, s_M_safeIn_100, s_M_safeIn_102, s_M_safeIn_103, s_M_safeIn_105, s_M_safeIn_107, s_M_safeIn_109, s_M_safeIn_112, s_M_safeIn_113, s_M_safeIn_114, s_M_safeIn_117, s_M_safeIn_118, s_M_safeIn_119, s_M_safeIn_121, s_M_safeIn_123, s_M_safeIn_126, s_M_safeIn_128, s_M_safeIn_130, s_M_safeIn_133, s_M_safeIn_135, s_M_safeIn_137, s_M_safeIn_140, s_M_safeIn_141, s_M_safeIn_143, s_M_safeIn_144, s_M_safeIn_145, s_M_safeIn_146, s_M_safeIn_147, s_M_safeIn_150, s_M_safeIn_151, s_M_safeIn_154, s_M_safeIn_155, s_M_safeIn_157, s_M_safeIn_160, s_M_safeIn_163, s_M_safeIn_165, s_M_safeIn_167, s_M_safeIn_170, s_M_safeIn_171, s_M_safeIn_173, s_M_safeIn_174, s_M_safeIn_177, s_M_safeIn_178, s_M_safeIn_179, s_M_safeIn_181, s_M_safeIn_184, s_M_safeIn_187, s_M_safeIn_189, s_M_safeIn_190, s_M_safeIn_193, s_M_safeIn_196, s_M_safeIn_197, Option.bind_some, Option.bind_none, Option.toList_some, Option.toList_none, List.cons_append, List.nil_append, if_true, if_false, rz_clr, true_or, or_true, z00, z11, bZ_eq0, bZ_eq1, nor_self, if_pos, if_neg, zI_add, zI_sub, zI_mul, zI_neg, zI_lt, zI_le, zI_eq, c_M, f_M_0, u_M_0, f_M_1, u_M_1, f_M_2, l_M_2, r_M_2, w_M_2, f_M_3, u_M_3, f_M_4, u_M_4, f_M_5, u_M_5, f_M_6, u_M_6, f_M_7, u_M_7, f_M_8, u_M_8, f_M_9, l_M_9, r_M_9, w_M_9, f_M_10, l_M_10, r_M_10, w_M_10, f_M_11, l_M_11, r_M_11, w_M_11, f_M_12, l_M_12, r_M_12, w_M_12, f_M_13, l_M_13, r_M_13, w_M_13, f_M_14, l_M_14, r_M_14, w_M_14, f_M_15, l_M_15, r_M_15, w_M_15, f_M_16, l_M_16, r_M_16, w_M_16, f_M_17, l_M_17, r_M_17, w_M_17, f_M_18, l_M_18, r_M_18, w_M_18, hce, ek, q1, z0, ih']
    · by_cases q2 : p 0 c = 3
      · have e : oS (solF p) (c + 1) = oS (solF p) c := if_neg (by simp [solF, q2])
        rw [e] at ih'
        simp (disch := first | omega | exact Nat.le_of_ble_eq_true rfl) only [e_M_safeIn, s_M_safeIn_0, s_M_safeIn_1, s_M_safeIn_4, s_M_safeIn_5, s_M_safeIn_6, s_M_safeIn_7, s_M_safeIn_11, s_M_safeIn_12, s_M_safeIn_15, s_M_safeIn_18, s_M_safeIn_19, s_M_safeIn_20, s_M_safeIn_23, s_M_safeIn_24, s_M_safeIn_26, s_M_safeIn_27, s_M_safeIn_28, s_M_safeIn_29, s_M_safeIn_32, s_M_safeIn_33, s_M_safeIn_36, s_M_safeIn_37, s_M_safeIn_39, s_M_safeIn_40, s_M_safeIn_41, s_M_safeIn_42, s_M_safeIn_45, s_M_safeIn_46, s_M_safeIn_49, s_M_safeIn_50, s_M_safeIn_52, s_M_safeIn_53, s_M_safeIn_54, s_M_safeIn_55, s_M_safeIn_58, s_M_safeIn_62, s_M_safeIn_64, s_M_safeIn_66, s_M_safeIn_67, s_M_safeIn_70, s_M_safeIn_71, s_M_safeIn_73, s_M_safeIn_74, s_M_safeIn_76, s_M_safeIn_78, s_M_safeIn_79, s_M_safeIn_82, s_M_safeIn_85, s_M_safeIn_86, s_M_safeIn_88, s_M_safeIn_89, s_M_safeIn_90, s_M_safeIn_91, s_M_safeIn_92, s_M_safeIn_95, s_M_safeIn_96, s_M_safeIn_99, s_M_safeIn_100, s_M_safeIn_102, s_M_safeIn_103, s_M_safeIn_105, s_M_safeIn_107, s_M_safeIn_109, s_M_safeIn_112, s_M_safeIn_113, s_M_safeIn_114, s_M_safeIn_117, s_M_safeIn_118, s_M_safeIn_119, s_M_safeIn_121, s_M_safeIn_123, s_M_safeIn_126, s_M_safeIn_128, s_M_safeIn_130, s_M_safeIn_133, s_M_safeIn_135, s_M_safeIn_137, s_M_safeIn_140, s_M_safeIn_141, s_M_safeIn_143, s_M_safeIn_144, s_M_safeIn_145, s_M_safeIn_146, s_M_safeIn_147, s_M_safeIn_150, s_M_safeIn_151, s_M_safeIn_154, s_M_safeIn_155, s_M_safeIn_157, s_M_safeIn_160, s_M_safeIn_163, s_M_safeIn_165, s_M_safeIn_167, s_M_safeIn_170, s_M_safeIn_171, s_M_safeIn_173, s_M_safeIn_174, s_M_safeIn_177, s_M_safeIn_178, s_M_safeIn_179, s_M_safeIn_181, s_M_safeIn_184, s_M_safeIn_187, s_M_safeIn_189, s_M_safeIn_190, s_M_safeIn_193, s_M_safeIn_196, s_M_safeIn_197, Option.bind_some, Option.bind_none, Option.toList_some, Option.toList_none, List.cons_append, List.nil_append, if_true, if_false, rz_clr, true_or, or_true, z00, z11, bZ_eq0, bZ_eq1, nor_self, if_pos, if_neg, zI_add, zI_sub, zI_mul, zI_neg, zI_lt, zI_le, zI_eq, c_M, f_M_0, u_M_0, f_M_1, u_M_1, f_M_2, l_M_2, r_M_2, w_M_2, f_M_3, u_M_3, f_M_4, u_M_4, f_M_5, u_M_5, f_M_6, u_M_6, f_M_7, u_M_7, f_M_8, u_M_8, f_M_9, l_M_9, r_M_9, w_M_9, f_M_10, l_M_10, r_M_10, w_M_10, f_M_11, l_M_11, r_M_11, w_M_11, f_M_12, l_M_12, r_M_12, w_M_12, f_M_13, l_M_13, r_M_13, w_M_13, f_M_14, l_M_14, r_M_14, w_M_14, f_M_15, l_M_15, r_M_15, w_M_15, f_M_16, l_M_16, r_M_16, w_M_16, f_M_17, l_M_17, r_M_17, w_M_17, f_M_18, l_M_18, r_M_18, w_M_18, hce, ek, q2, z0, ih']
      · have e : oS (solF p) (c + 1) = oS (solF p) c ||| 2 ^ c := if_pos (by simp [solF, q1, q2])
        rw [e] at ih'
        simp (disch := first | omega | exact Nat.le_of_ble_eq_true rfl) only [e_M_safeIn, s_M_safeIn_0, s_M_safeIn_1, s_M_safeIn_4, s_M_safeIn_5, s_M_safeIn_6, s_M_safeIn_7, s_M_safeIn_11, s_M_safeIn_12, s_M_safeIn_15, s_M_safeIn_18, s_M_safeIn_19, s_M_safeIn_20, s_M_safeIn_23, s_M_safeIn_24, s_M_safeIn_26, s_M_safeIn_27, s_M_safeIn_28, s_M_safeIn_29, s_M_safeIn_32, s_M_safeIn_33, s_M_safeIn_36, s_M_safeIn_37, s_M_safeIn_39, s_M_safeIn_40, s_M_safeIn_41, s_M_safeIn_42, s_M_safeIn_45, s_M_safeIn_46, s_M_safeIn_49, s_M_safeIn_50, s_M_safeIn_52, s_M_safeIn_53, s_M_safeIn_54, s_M_safeIn_55, s_M_safeIn_58, s_M_safeIn_62, s_M_safeIn_64, s_M_safeIn_66, s_M_safeIn_67, s_M_safeIn_70, s_M_safeIn_71, s_M_safeIn_73, s_M_safeIn_74, s_M_safeIn_76, s_M_safeIn_78, s_M_safeIn_79, s_M_safeIn_82, s_M_safeIn_85, s_M_safeIn_86, s_M_safeIn_88, s_M_safeIn_89, s_M_safeIn_90, s_M_safeIn_91, s_M_safeIn_92, s_M_safeIn_95, s_M_safeIn_96, s_M_safeIn_99, s_M_safeIn_100, s_M_safeIn_102, s_M_safeIn_103, s_M_safeIn_105, s_M_safeIn_107, s_M_safeIn_109, s_M_safeIn_112, s_M_safeIn_113, s_M_safeIn_114, s_M_safeIn_117, s_M_safeIn_118, s_M_safeIn_119, s_M_safeIn_121, s_M_safeIn_123, s_M_safeIn_126, s_M_safeIn_128, s_M_safeIn_130, s_M_safeIn_133, s_M_safeIn_135, s_M_safeIn_137, s_M_safeIn_140, s_M_safeIn_141, s_M_safeIn_143, s_M_safeIn_144, s_M_safeIn_145, s_M_safeIn_146, s_M_safeIn_147, s_M_safeIn_150, s_M_safeIn_151, s_M_safeIn_154, s_M_safeIn_155, s_M_safeIn_157, s_M_safeIn_160, s_M_safeIn_163, s_M_safeIn_165, s_M_safeIn_167, s_M_safeIn_170, s_M_safeIn_171, s_M_safeIn_173, s_M_safeIn_174, s_M_safeIn_177, s_M_safeIn_178, s_M_safeIn_179, s_M_safeIn_181, s_M_safeIn_184, s_M_safeIn_187, s_M_safeIn_189, s_M_safeIn_190, s_M_safeIn_193, s_M_safeIn_196, s_M_safeIn_197, Option.bind_some, Option.bind_none, Option.toList_some, Option.toList_none, List.cons_append, List.nil_append, if_true, if_false, rz_clr, true_or, or_true, z00, z11, bZ_eq0, bZ_eq1, nor_self, if_pos, if_neg, zI_add, zI_sub, zI_mul, zI_neg, zI_lt, zI_le, zI_eq, c_M, f_M_0, u_M_0, f_M_1, u_M_1, f_M_2, l_M_2, r_M_2, w_M_2, f_M_3, u_M_3, f_M_4, u_M_4, f_M_5, u_M_5, f_M_6, u_M_6, f_M_7, u_M_7, f_M_8, u_M_8, f_M_9, l_M_9, r_M_9, w_M_9, f_M_10, l_M_10, r_M_10, w_M_10, f_M_11, l_M_11, r_M_11, w_M_11, f_M_12, l_M_12, r_M_12, w_M_12, f_M_13, l_M_13, r_M_13, w_M_13, f_M_14, l_M_14, r_M_14, w_M_14, f_M_15, l_M_15, r_M_15, w_M_15, f_M_16, l_M_16, r_M_16, w_M_16, f_M_17, l_M_17, r_M_17, w_M_17, f_M_18, l_M_18, r_M_18, w_M_18, hce, ek, z_shl, z_or, ih']
theorem itS_law {p : zP} (hw : wfP p) {m : Int} (hm : 0 ≤ m ∧ m < 2) : ∀ k, itS p (lawP p m) k = itS p (p 6 m.toNat) k := by
  intro k
  induction k with
  | zero => rfl
  | succ k ih =>
    rw [itS, itS, ih]
    unfold safP
    congr 1
    funext c
    unfold safF
    congr 1
    congr 1
    funext i
    unfold stayF
    rw [ldP_law hw hm]
theorem z_MsafeIn (d : Nat) (hN : 60 ≤ N) (hm : tlR (σ 10 9) 0 p) (hw : wfP p) (hl : lkP p) {j : Int} (hj : 0 ≤ j ∧ j < 2) {k : Nat} (hk : k < 100) : rz_dM (d + 3) iM_safeIn [.ref (bs 10), .int (zI j), .int (zI k)] (wOf N σ) = some (some (.int (zI (itS p (lawP p j) k : Nat))), wOf N (gset σ 10 (asW (σ 10)))) := by
  have ha := wfP_area hw
  obtain ⟨a, hA⟩ : ∃ a : Nat, p 8 0 * p 9 0 = a := ⟨(p 8 0 * p 9 0).toNat, by omega⟩
  obtain ⟨u, hu, hu3⟩ := use_nat hw hj
  rw [itS_law hw hj, hu]
  obtain ⟨j', rfl⟩ : ∃ n : Nat, j = n := ⟨j.toNat, by omega⟩
  rw [Int.toNat_natCast] at hu
  have hj2 : j' < 2 := by omega
  have hm1 : tlR ((gset σ 10 (asW (σ 10))) 10 9) 0 p := by rw [gset_at]; exact hm
  have hsol := fun l5 l6 l7 l8 l9 => z_Msol_lp (N := N) (σ := gset σ 10 (asW (σ 10))) d hN hm1 hw hA (some (.int (zI j'))) (zI k) l5 l6 l7 l8 l9 a 0 (by omega)
  have hsn := fun l5 l6 l7 l8 l9 => z_Msn_lp (N := N) (σ := gset σ 10 (asW (σ 10))) d hN hm1 hw hl (u := u) hj2 (by rw [gset_at, asW_16 hm hj2]; exact hu) hu3 hk k 0 (by omega) l5 l6 l7 l8 l9
  have e9 : itS p u 0 = oS (solF p) a := by rw [itS, hA, Int.toNat_natCast]
  rw [e9, Int.natCast_zero] at hsn
  simp only [show oS (solF p) 0 = 0 from rfl, Int.natCast_zero] at hsol
  have ha0 := z_MasTold (N := N) (σ := σ) (d + 1) hN
  simp (disch := first | omega | exact Nat.le_of_ble_eq_true rfl) only [e_M_safeIn, s_M_safeIn_0, s_M_safeIn_1, s_M_safeIn_4, s_M_safeIn_5, s_M_safeIn_6, s_M_safeIn_7, s_M_safeIn_11, s_M_safeIn_12, s_M_safeIn_15, s_M_safeIn_18, s_M_safeIn_19, s_M_safeIn_20, s_M_safeIn_23, s_M_safeIn_24, s_M_safeIn_26, s_M_safeIn_27, s_M_safeIn_28, s_M_safeIn_29, s_M_safeIn_32, s_M_safeIn_33, s_M_safeIn_36, s_M_safeIn_37, s_M_safeIn_39, s_M_safeIn_40, s_M_safeIn_41, s_M_safeIn_42, s_M_safeIn_45, s_M_safeIn_46, s_M_safeIn_49, s_M_safeIn_50, s_M_safeIn_52, s_M_safeIn_53, s_M_safeIn_54, s_M_safeIn_55, s_M_safeIn_58, s_M_safeIn_61, s_M_safeIn_62, s_M_safeIn_66, s_M_safeIn_67, s_M_safeIn_70, s_M_safeIn_71, s_M_safeIn_73, s_M_safeIn_74, s_M_safeIn_78, s_M_safeIn_79, s_M_safeIn_82, s_M_safeIn_85, s_M_safeIn_86, s_M_safeIn_88, s_M_safeIn_89, s_M_safeIn_90, s_M_safeIn_91, s_M_safeIn_92, s_M_safeIn_95, s_M_safeIn_96, s_M_safeIn_99, s_M_safeIn_100, s_M_safeIn_102, s_M_safeIn_103, s_M_safeIn_105, s_M_safeIn_107, s_M_safeIn_109, s_M_safeIn_112, s_M_safeIn_113, s_M_safeIn_114, s_M_safeIn_117, s_M_safeIn_118, s_M_safeIn_119, s_M_safeIn_121, s_M_safeIn_123, s_M_safeIn_126, s_M_safeIn_128, s_M_safeIn_130, s_M_safeIn_133, s_M_safeIn_135, s_M_safeIn_137, s_M_safeIn_140, s_M_safeIn_141, s_M_safeIn_143, s_M_safeIn_144, s_M_safeIn_145, s_M_safeIn_146, s_M_safeIn_147, s_M_safeIn_150, s_M_safeIn_151, s_M_safeIn_154, s_M_safeIn_155, s_M_safeIn_157, s_M_safeIn_160, s_M_safeIn_163, s_M_safeIn_165, s_M_safeIn_167, s_M_safeIn_170, s_M_safeIn_171, s_M_safeIn_173, s_M_safeIn_174, s_M_safeIn_177, s_M_safeIn_178, s_M_safeIn_179, s_M_safeIn_181, s_M_safeIn_184, s_M_safeIn_187, s_M_safeIn_189, s_M_safeIn_190, s_M_safeIn_193, s_M_safeIn_196, s_M_safeIn_197, Option.bind_some, Option.bind_none, Option.toList_some, Option.toList_none, List.cons_append, List.nil_append, if_true, if_false, rz_clr, true_or, or_true, z00, z11, bZ_eq0, bZ_eq1, nor_self, if_pos, if_neg, zI_add, zI_sub, zI_mul, zI_neg, zI_lt, zI_le, zI_eq, c_M, f_M_0, u_M_0, f_M_1, u_M_1, f_M_2, l_M_2, r_M_2, w_M_2, f_M_3, u_M_3, f_M_4, u_M_4, f_M_5, u_M_5, f_M_6, u_M_6, f_M_7, u_M_7, f_M_8, u_M_8, f_M_9, l_M_9, r_M_9, w_M_9, f_M_10, l_M_10, r_M_10, w_M_10, f_M_11, l_M_11, r_M_11, w_M_11, f_M_12, l_M_12, r_M_12, w_M_12, f_M_13, l_M_13, r_M_13, w_M_13, f_M_14, l_M_14, r_M_14, w_M_14, f_M_15, l_M_15, r_M_15, w_M_15, f_M_16, l_M_16, r_M_16, w_M_16, f_M_17, l_M_17, r_M_17, w_M_17, f_M_18, l_M_18, r_M_18, w_M_18, ha0, hsol, hsn]
theorem z_Msafe (d : Nat) (hN : 60 ≤ N) (hm : tlR (σ 10 9) 0 p) (hw : wfP p) (hl : lkP p) {j k : Int} (hj : rg j) (hk : rg k) : ∃ m', rz_dM (d + 4) iM_safe [.ref (bs 10), .int (zI j), .int (zI k)] (wOf N σ) = some (some (.int (zI (safeA p j k))), wOf N (gset σ 10 m')) ∧ sm [0, 15, 16] (σ 10) m' := by
  unfold safeA
  by_cases a1 : 0 ≤ j ∧ j < 2
  · have a1' : 0 ≤ j ∧ j ≤ 1 := by omega
    by_cases a2 : 0 ≤ k ∧ k ≤ 9
    · rw [if_pos ⟨a1, a2⟩]
      obtain ⟨k', rfl⟩ : ∃ n : Nat, k = n := ⟨k.toNat, by omega⟩
      have h := z_MsafeIn (N := N) (σ := gset σ 10 (T0 (σ 10))) d hN (p := p) (by rw [gset_at]; exact hm) hw hl a1 (k := k') (by omega)
      rw [gset_at, gset_gset] at h
      refine ⟨asW (T0 (σ 10)), ?_, sm_tr (sm_mono (T0_sm _) (by decide)) (sm_mono (asW_sm _) (by decide))⟩
      rw [Int.toNat_natCast]
      unfold T0 at *
      simp (disch := first | omega | exact Nat.le_of_ble_eq_true rfl) only [e_M_safe, s_M_safe_0, s_M_safe_1, s_M_safe_2, s_M_safe_5, s_M_safe_6, s_M_safe_7, s_M_safe_8, s_M_safe_11, s_M_safe_14, s_M_safe_15, s_M_safe_16, s_M_safe_18, s_M_safe_21, s_M_safe_24, s_M_safe_25, s_M_safe_26, s_M_safe_27, s_M_safe_30, s_M_safe_33, s_M_safe_34, Option.bind_some, Option.bind_none, Option.toList_some, Option.toList_none, List.cons_append, List.nil_append, if_true, if_false, rz_clr, true_or, or_true, z00, z11, bZ_eq0, bZ_eq1, nor_self, if_pos, if_neg, zI_add, zI_sub, zI_mul, zI_neg, zI_lt, zI_le, zI_eq, c_M, f_M_0, u_M_0, f_M_1, u_M_1, f_M_2, l_M_2, r_M_2, w_M_2, f_M_3, u_M_3, f_M_4, u_M_4, f_M_5, u_M_5, f_M_6, u_M_6, f_M_7, u_M_7, f_M_8, u_M_8, f_M_9, l_M_9, r_M_9, w_M_9, f_M_10, l_M_10, r_M_10, w_M_10, f_M_11, l_M_11, r_M_11, w_M_11, f_M_12, l_M_12, r_M_12, w_M_12, f_M_13, l_M_13, r_M_13, w_M_13, f_M_14, l_M_14, r_M_14, w_M_14, f_M_15, l_M_15, r_M_15, w_M_15, f_M_16, l_M_16, r_M_16, w_M_16, f_M_17, l_M_17, r_M_17, w_M_17, f_M_18, l_M_18, r_M_18, w_M_18, sset_eq, gset_at, gset_gset, gset_ne, pset_eq, pset_ne, z_Min, bZ_pos a1', bZ_pos a2, h]
    · rw [if_neg (fun z => a2 z.2)]
      refine ⟨T0 (σ 10), ?_, sm_mono (T0_sm _) (by decide)⟩
      unfold T0
      simp (disch := first | omega | exact Nat.le_of_ble_eq_true rfl) only [e_M_safe, s_M_safe_0, s_M_safe_1, s_M_safe_2, s_M_safe_5, s_M_safe_6, s_M_safe_7, s_M_safe_8, s_M_safe_11, s_M_safe_14, s_M_safe_15, s_M_safe_16, s_M_safe_18, s_M_safe_21, s_M_safe_24, s_M_safe_25, s_M_safe_26, s_M_safe_27, s_M_safe_30, s_M_safe_33, s_M_safe_34, Option.bind_some, Option.bind_none, Option.toList_some, Option.toList_none, List.cons_append, List.nil_append, if_true, if_false, rz_clr, true_or, or_true, z00, z11, bZ_eq0, bZ_eq1, nor_self, if_pos, if_neg, zI_add, zI_sub, zI_mul, zI_neg, zI_lt, zI_le, zI_eq, c_M, f_M_0, u_M_0, f_M_1, u_M_1, f_M_2, l_M_2, r_M_2, w_M_2, f_M_3, u_M_3, f_M_4, u_M_4, f_M_5, u_M_5, f_M_6, u_M_6, f_M_7, u_M_7, f_M_8, u_M_8, f_M_9, l_M_9, r_M_9, w_M_9, f_M_10, l_M_10, r_M_10, w_M_10, f_M_11, l_M_11, r_M_11, w_M_11, f_M_12, l_M_12, r_M_12, w_M_12, f_M_13, l_M_13, r_M_13, w_M_13, f_M_14, l_M_14, r_M_14, w_M_14, f_M_15, l_M_15, r_M_15, w_M_15, f_M_16, l_M_16, r_M_16, w_M_16, f_M_17, l_M_17, r_M_17, w_M_17, f_M_18, l_M_18, r_M_18, w_M_18, sset_eq, gset_at, gset_gset, gset_ne, pset_eq, pset_ne, z_Min, bZ_pos a1', bZ_neg a2]
  · have a1' : ¬ (0 ≤ j ∧ j ≤ 1) := by omega
    rw [if_neg (fun z => a1 z.1)]
    refine ⟨T0 (σ 10), ?_, sm_mono (T0_sm _) (by decide)⟩
    unfold T0
    simp (disch := first | omega | exact Nat.le_of_ble_eq_true rfl) only [e_M_safe, s_M_safe_0, s_M_safe_1, s_M_safe_2, s_M_safe_5, s_M_safe_6, s_M_safe_7, s_M_safe_8, s_M_safe_11, s_M_safe_14, s_M_safe_15, s_M_safe_16, s_M_safe_18, s_M_safe_21, s_M_safe_24, s_M_safe_25, s_M_safe_26, s_M_safe_27, s_M_safe_30, s_M_safe_33, s_M_safe_34, Option.bind_some, Option.bind_none, Option.toList_some, Option.toList_none, List.cons_append, List.nil_append, if_true, if_false, rz_clr, true_or, or_true, z00, z11, bZ_eq0, bZ_eq1, nor_self, if_pos, if_neg, zI_add, zI_sub, zI_mul, zI_neg, zI_lt, zI_le, zI_eq, c_M, f_M_0, u_M_0, f_M_1, u_M_1, f_M_2, l_M_2, r_M_2, w_M_2, f_M_3, u_M_3, f_M_4, u_M_4, f_M_5, u_M_5, f_M_6, u_M_6, f_M_7, u_M_7, f_M_8, u_M_8, f_M_9, l_M_9, r_M_9, w_M_9, f_M_10, l_M_10, r_M_10, w_M_10, f_M_11, l_M_11, r_M_11, w_M_11, f_M_12, l_M_12, r_M_12, w_M_12, f_M_13, l_M_13, r_M_13, w_M_13, f_M_14, l_M_14, r_M_14, w_M_14, f_M_15, l_M_15, r_M_15, w_M_15, f_M_16, l_M_16, r_M_16, w_M_16, f_M_17, l_M_17, r_M_17, w_M_17, f_M_18, l_M_18, r_M_18, w_M_18, sset_eq, gset_at, gset_gset, gset_ne, pset_eq, pset_ne, z_Min, bZ_neg a1']
/-- the last one of n from k on that holds -/
def lsA (P : Nat → Bool) : Nat → Nat → Int → Int
  | 0, _, b => b
  | n + 1, k, b => lsA P n (k + 1) (if P k = true then k else b)
theorem lsA_none (P : Nat → Bool) : ∀ (n k : Nat) (b : Int), (∀ i, k ≤ i → P i = false) → lsA P n k b = b := by
  intro n
  induction n with
  | zero => intro k b _; rfl
  | succ n ih =>
    intro k b h
    rw [lsA, h k (Nat.le_refl k), if_neg (by decide)]
    exact ih (k + 1) b (fun i hi => h i (by omega))
theorem lst_lsA (P : Nat → Bool) (hP : ∀ i, P i = false → P (i + 1) = false) : ∀ (n k : Nat) (b : Int), lst P n k b = lsA P n k b := by
  intro n
  induction n with
  | zero => intro k b; rfl
  | succ n ih =>
    intro k b
    rw [lst, lsA]
    by_cases c : P k = true
    · rw [if_pos c, if_pos c]; exact ih (k + 1) k
    · rw [if_neg c, if_neg c]
      rw [Bool.not_eq_true] at c
      have hall : ∀ m, P (k + m) = false := by
        intro m
        induction m with
        | zero => exact c
        | succ m ihm => exact hP _ ihm
      exact (lsA_none P n (k + 1) b (fun i hi => by
        have := hall (i - k)
        rwa [show k + (i - k) = i by omega] at this)).symm
theorem sfF_dec (p : zP) (l own : Int) (i : Nat) (h : sfF p l own i = false) : sfF p l own (i + 1) = false := by
  unfold sfF at *
  rw [itS]
  unfold safP
  rw [oS_tb]
  unfold safF
  rw [h, Bool.false_and, Bool.and_false]
theorem lsA_rg (P : Nat → Bool) : ∀ (n k : Nat) (b : Int), (-9 ≤ b ∧ b ≤ 99) → k + n ≤ 99 → -9 ≤ lsA P n k b ∧ lsA P n k b ≤ 99 := by
  intro n
  induction n with
  | zero => intro k b h _; exact h
  | succ n ih =>
    intro k b h hk
    rw [lsA]
    apply ih (k + 1) _ _ (by omega)
    split <;> omega
theorem asW_asW (m : zP) : asW (asW m) = asW m := by
  have h9 : asW m 9 = m 9 := rfl
  have h16 : asW m 16 = zup (zup (m 16) 0 (m 9 29)) 1 (m 9 30) := rfl
  have h15 : asW m 15 = zup (zup (m 15) 0 (m 9 27)) 1 (m 9 28) := rfl
  have hz : ∀ (f : Nat → Int) (a b : Int), zup (zup (zup (zup f 0 a) 1 b) 0 a) 1 b = zup (zup f 0 a) 1 b := by
    intro f a b
    funext i
    by_cases c1 : i = 1
    · rw [c1, zup_eq, zup_eq]
    · rw [zup_ne c1, zup_ne c1]
      by_cases c0 : i = 0
      · rw [c0, zup_eq, zup_eq]
      · rw [zup_ne c0, zup_ne c1, zup_ne c0]
  show pset (pset (asW m) 15 (zup (zup (asW m 15) 0 (asW m 9 27)) 1 (asW m 9 28))) 16 (zup (zup (asW m 16) 0 (asW m 9 29)) 1 (asW m 9 30)) = _
  rw [h9, h15, h16, hz, hz, ← h15, ← h16, pset_self, pset_self]
theorem z_Msafest_lp (d : Nat) (hN : 60 ≤ N) (hm : tlR (σ 10 9) 0 p) (hs : sR (σ 10 10) q) (hw : wfP p) (hl : lkP p) (hq : wfW q p) {j : Int} (hj : 0 ≤ j ∧ j < 2) (ha0 : asW (σ 10) = σ 10) : ∀ (n k : Nat), n + k = 10 → ∀ b : Int, (-9 ≤ b ∧ b ≤ 99) → rz_den (rz_dM (d + 3)) (rz_at tb_X5_safest) (some .int) 21 [some (.ref (bs 10)), some (.int (zI j)), some (.int (zI b)), some (.int (zI k))] [] (wOf N σ) = some (some (.int (zI (lsA (sfF p (lawP p j) (q 0 j.toNat)) n k b))), wOf N σ) := by
  have ha := wfP_area hw
  have hq0 := (hq.1 j.toNat (by omega)).1
  have s0 := sR_0 hs hj
  intro n
  induction n with
  | zero =>
    intro k hk b hb
    obtain rfl : k = 10 := by omega
    rw [s_M_safest_21, lsA]
    simp (disch := first | omega | exact Nat.le_of_ble_eq_true rfl) only [e_M_safest, s_M_safest_0, s_M_safest_1, s_M_safest_2, s_M_safest_5, s_M_safest_6, s_M_safest_7, s_M_safest_8, s_M_safest_11, s_M_safest_14, s_M_safest_15, s_M_safest_16, s_M_safest_18, s_M_safest_19, s_M_safest_20, s_M_safest_22, s_M_safest_24, s_M_safest_27, s_M_safest_28, s_M_safest_29, s_M_safest_30, s_M_safest_33, s_M_safest_34, s_M_safest_37, s_M_safest_38, s_M_safest_39, s_M_safest_40, s_M_safest_41, s_M_safest_42, s_M_safest_43, s_M_safest_46, s_M_safest_47, s_M_safest_50, s_M_safest_51, s_M_safest_52, s_M_safest_55, s_M_safest_58, s_M_safest_59, Option.bind_some, Option.bind_none, Option.toList_some, Option.toList_none, List.cons_append, List.nil_append, if_true, if_false, rz_clr, true_or, or_true, z00, z11, bZ_eq0, bZ_eq1, nor_self, if_pos, if_neg, zI_add, zI_sub, zI_mul, zI_neg, zI_lt, zI_le, zI_eq]
  | succ n ih =>
    intro k hk b hb
    have ih' := ih (k + 1) (by omega) (if sfF p (lawP p j) (q 0 j.toNat) k = true then k else b) (by split <;> omega)
    simp only [Int.natCast_add, Int.natCast_one] at ih'
    have h := z_MsafeIn (N := N) (σ := σ) d hN hm hw hl hj (k := k) (by omega)
    rw [ha0, gset_self] at h
    have hlt := itS_lt hw (lawP p j) k
    obtain ⟨own, ho⟩ : ∃ n : Nat, q 0 j.toNat = n := ⟨(q 0 j.toNat).toNat, by omega⟩
    rw [ho] at ih' s0 ⊢
    have hsf : sfF p (lawP p j) own k = (itS p (lawP p j) k).testBit own := rfl
    have hsh := z_shr (b := itS p (lawP p j) k) (i := own) (by omega) (by omega)
    have hand := z_and1 (itS p (lawP p j) k / 2 ^ own) (Nat.lt_of_le_of_lt (Nat.div_le_self _ _) (by omega))
    rw [tb_div] at hand
    rw [s_M_safest_21, lsA]
    rw [hsf] at ih' ⊢
    by_cases c : (itS p (lawP p j) k).testBit own = true
    · rw [if_pos c] at ih' ⊢
      rw [if_pos c, Int.natCast_one] at hand
      simp (disch := first | omega | exact Nat.le_of_ble_eq_true rfl) only [e_M_safest, s_M_safest_0, s_M_safest_1, s_M_safest_2, s_M_safest_5, s_M_safest_6, s_M_safest_7, s_M_safest_8, s_M_safest_11, s_M_safest_14, s_M_safest_15, s_M_safest_16, s_M_safest_18, s_M_safest_19, s_M_safest_20, s_M_safest_22, s_M_safest_24, s_M_safest_27, s_M_safest_28, s_M_safest_29, s_M_safest_30, s_M_safest_33, s_M_safest_34, s_M_safest_37, s_M_safest_38, s_M_safest_39, s_M_safest_40, s_M_safest_41, s_M_safest_42, s_M_safest_43, s_M_safest_46, s_M_safest_47, s_M_safest_50, s_M_safest_51, s_M_safest_52, s_M_safest_55, s_M_safest_58, s_M_safest_59, Option.bind_some, Option.bind_none, Option.toList_some, Option.toList_none, List.cons_append, List.nil_append, if_true, if_false, rz_clr, true_or, or_true, z00, z11, bZ_eq0, bZ_eq1, nor_self, if_pos, if_neg, zI_add, zI_sub, zI_mul, zI_neg, zI_lt, zI_le, zI_eq, c_M, f_M_0, u_M_0, f_M_1, u_M_1, f_M_2, l_M_2, r_M_2, w_M_2, f_M_3, u_M_3, f_M_4, u_M_4, f_M_5, u_M_5, f_M_6, u_M_6, f_M_7, u_M_7, f_M_8, u_M_8, f_M_9, l_M_9, r_M_9, w_M_9, f_M_10, l_M_10, r_M_10, w_M_10, f_M_11, l_M_11, r_M_11, w_M_11, f_M_12, l_M_12, r_M_12, w_M_12, f_M_13, l_M_13, r_M_13, w_M_13, f_M_14, l_M_14, r_M_14, w_M_14, f_M_15, l_M_15, r_M_15, w_M_15, f_M_16, l_M_16, r_M_16, w_M_16, f_M_17, l_M_17, r_M_17, w_M_17, f_M_18, l_M_18, r_M_18, w_M_18, h, s0, hsh, hand, ih']
    · rw [if_neg c] at ih' ⊢
      rw [if_neg c, Int.natCast_zero] at hand
      simp (disch := first | omega | exact Nat.le_of_ble_eq_true rfl) only [e_M_safest, s_M_safest_0, s_M_safest_1, s_M_safest_2, s_M_safest_5, s_M_safest_6, s_M_safest_7, s_M_safest_8, s_M_safest_11, s_M_safest_14, s_M_safest_15, s_M_safest_16, s_M_safest_18, s_M_safest_19, s_M_safest_20, s_M_safest_22, s_M_safest_24, s_M_safest_27, s_M_safest_28, s_M_safest_29, s_M_safest_30, s_M_safest_33, s_M_safest_34, s_M_safest_37, s_M_safest_38, s_M_safest_39, s_M_safest_40, s_M_safest_41, s_M_safest_42, s_M_safest_43, s_M_safest_46, s_M_safest_47, s_M_safest_50, s_M_safest_51, s_M_safest_52, s_M_safest_55, s_M_safest_58, s_M_safest_59, Option.bind_some, Option.bind_none, Option.toList_some, Option.toList_none, List.cons_append, List.nil_append, if_true, if_false, rz_clr, true_or, or_true, z00, z11, bZ_eq0, bZ_eq1, nor_self, if_pos, if_neg, zI_add, zI_sub, zI_mul, zI_neg, zI_lt, zI_le, zI_eq, c_M, f_M_0, u_M_0, f_M_1, u_M_1, f_M_2, l_M_2, r_M_2, w_M_2, f_M_3, u_M_3, f_M_4, u_M_4, f_M_5, u_M_5, f_M_6, u_M_6, f_M_7, u_M_7, f_M_8, u_M_8, f_M_9, l_M_9, r_M_9, w_M_9, f_M_10, l_M_10, r_M_10, w_M_10, f_M_11, l_M_11, r_M_11, w_M_11, f_M_12, l_M_12, r_M_12, w_M_12, f_M_13, l_M_13, r_M_13, w_M_13, f_M_14, l_M_14, r_M_14, w_M_14, f_M_15, l_M_15, r_M_15, w_M_15, f_M_16, l_M_16, r_M_16, w_M_16, f_M_17, l_M_17, r_M_17, w_M_17, f_M_18, l_M_18, r_M_18, w_M_18, h, s0, hsh, hand, ih']
theorem z_Msafest_0 (d : Nat) (hN : 60 ≤ N) (hm : tlR (σ 10 9) 0 p) (hs : sR (σ 10 10) q) (hw : wfP p) (hl : lkP p) (hq : wfW q p) {j : Int} (hj : 0 ≤ j ∧ j < 2) : rz_den (rz_dM (d + 3)) (rz_at tb_X5_safest) (some .int) 21 [some (.ref (bs 10)), some (.int (zI j)), some (.int (zI (-9))), some (.int (zI 0))] [] (wOf N σ) = some (some (.int (zI (lsA (sfF p (lawP p j) (q 0 j.toNat)) 10 0 (-9)))), wOf N (gset σ 10 (asW (σ 10)))) := by
  have ha := wfP_area hw
  have hq0 := (hq.1 j.toNat (by omega)).1
  have hs1 : sR (asW (σ 10) 10) q := hs
  have s0 := sR_0 hs1 hj
  obtain ⟨own, ho⟩ : ∃ n : Nat, q 0 j.toNat = n := ⟨(q 0 j.toNat).toNat, by omega⟩
  have hlp' := z_Msafest_lp (N := N) (σ := gset σ 10 (asW (σ 10))) d hN (p := p) (q := q) (by rw [gset_at]; exact hm) (by rw [gset_at]; exact hs) hw hl hq hj (by rw [gset_at, asW_asW]) 9 1 rfl (if sfF p (lawP p j) (q 0 j.toNat) 0 = true then ((0 : Nat) : Int) else -9) (by split <;> omega)
  rw [show ((1 : Nat) : Int) = 0 + 1 from rfl] at hlp'
  have h := z_MsafeIn (N := N) (σ := σ) d hN (p := p) hm hw hl hj (k := 0) (by omega)
  rw [Int.natCast_zero] at h
  have hlt := itS_lt hw (lawP p j) 0
  rw [ho] at hlp' s0 ⊢
  have hsf : sfF p (lawP p j) own 0 = (itS p (lawP p j) 0).testBit own := rfl
  have hsh := z_shr (b := itS p (lawP p j) 0) (i := own) (by omega) (by omega)
  have hand := z_and1 (itS p (lawP p j) 0 / 2 ^ own) (Nat.lt_of_le_of_lt (Nat.div_le_self _ _) (by omega))
  rw [tb_div] at hand
  rw [s_M_safest_21, lsA]
  rw [hsf] at hlp' ⊢
  generalize asW (σ 10) = m1 at *
  by_cases c : (itS p (lawP p j) 0).testBit own = true
  · rw [if_pos c] at hlp' ⊢
    rw [if_pos c, Int.natCast_one] at hand
    rw [Int.natCast_zero] at hlp' ⊢
    simp (disch := first | omega | exact Nat.le_of_ble_eq_true rfl) only [e_M_safest, s_M_safest_0, s_M_safest_1, s_M_safest_2, s_M_safest_5, s_M_safest_6, s_M_safest_7, s_M_safest_8, s_M_safest_11, s_M_safest_14, s_M_safest_15, s_M_safest_16, s_M_safest_18, s_M_safest_19, s_M_safest_20, s_M_safest_22, s_M_safest_24, s_M_safest_27, s_M_safest_28, s_M_safest_29, s_M_safest_30, s_M_safest_33, s_M_safest_34, s_M_safest_37, s_M_safest_38, s_M_safest_39, s_M_safest_40, s_M_safest_41, s_M_safest_42, s_M_safest_43, s_M_safest_46, s_M_safest_47, s_M_safest_50, s_M_safest_51, s_M_safest_52, s_M_safest_55, s_M_safest_58, s_M_safest_59, Option.bind_some, Option.bind_none, Option.toList_some, Option.toList_none, List.cons_append, List.nil_append, if_true, if_false, rz_clr, true_or, or_true, z00, z11, bZ_eq0, bZ_eq1, nor_self, if_pos, if_neg, zI_add, zI_sub, zI_mul, zI_neg, zI_lt, zI_le, zI_eq, c_M, f_M_0, u_M_0, f_M_1, u_M_1, f_M_2, l_M_2, r_M_2, w_M_2, f_M_3, u_M_3, f_M_4, u_M_4, f_M_5, u_M_5, f_M_6, u_M_6, f_M_7, u_M_7, f_M_8, u_M_8, f_M_9, l_M_9, r_M_9, w_M_9, f_M_10, l_M_10, r_M_10, w_M_10, f_M_11, l_M_11, r_M_11, w_M_11, f_M_12, l_M_12, r_M_12, w_M_12, f_M_13, l_M_13, r_M_13, w_M_13, f_M_14, l_M_14, r_M_14, w_M_14, f_M_15, l_M_15, r_M_15, w_M_15, f_M_16, l_M_16, r_M_16, w_M_16, f_M_17, l_M_17, r_M_17, w_M_17, f_M_18, l_M_18, r_M_18, w_M_18, sset_eq, gset_at, gset_gset, gset_ne, pset_eq, pset_ne, h, s0, hsh, hand, hlp']
  · rw [if_neg c] at hlp' ⊢
    rw [if_neg c, Int.natCast_zero] at hand
    simp (disch := first | omega | exact Nat.le_of_ble_eq_true rfl) only [e_M_safest, s_M_safest_0, s_M_safest_1, s_M_safest_2, s_M_safest_5, s_M_safest_6, s_M_safest_7, s_M_safest_8, s_M_safest_11, s_M_safest_14, s_M_safest_15, s_M_safest_16, s_M_safest_18, s_M_safest_19, s_M_safest_20, s_M_safest_22, s_M_safest_24, s_M_safest_27, s_M_safest_28, s_M_safest_29, s_M_safest_30, s_M_safest_33, s_M_safest_34, s_M_safest_37, s_M_safest_38, s_M_safest_39, s_M_safest_40, s_M_safest_41, s_M_safest_42, s_M_safest_43, s_M_safest_46, s_M_safest_47, s_M_safest_50, s_M_safest_51, s_M_safest_52, s_M_safest_55, s_M_safest_58, s_M_safest_59, Option.bind_some, Option.bind_none, Option.toList_some, Option.toList_none, List.cons_append, List.nil_append, if_true, if_false, rz_clr, true_or, or_true, z00, z11, bZ_eq0, bZ_eq1, nor_self, if_pos, if_neg, zI_add, zI_sub, zI_mul, zI_neg, zI_lt, zI_le, zI_eq, c_M, f_M_0, u_M_0, f_M_1, u_M_1, f_M_2, l_M_2, r_M_2, w_M_2, f_M_3, u_M_3, f_M_4, u_M_4, f_M_5, u_M_5, f_M_6, u_M_6, f_M_7, u_M_7, f_M_8, u_M_8, f_M_9, l_M_9, r_M_9, w_M_9, f_M_10, l_M_10, r_M_10, w_M_10, f_M_11, l_M_11, r_M_11, w_M_11, f_M_12, l_M_12, r_M_12, w_M_12, f_M_13, l_M_13, r_M_13, w_M_13, f_M_14, l_M_14, r_M_14, w_M_14, f_M_15, l_M_15, r_M_15, w_M_15, f_M_16, l_M_16, r_M_16, w_M_16, f_M_17, l_M_17, r_M_17, w_M_17, f_M_18, l_M_18, r_M_18, w_M_18, sset_eq, gset_at, gset_gset, gset_ne, pset_eq, pset_ne, h, s0, hsh, hand, hlp']
theorem z_Msafest (d : Nat) (hN : 60 ≤ N) (hm : tlR (σ 10 9) 0 p) (hs : sR (σ 10 10) q) (hw : wfP p) (hl : lkP p) (hq : wfW q p) {j : Int} (hj : rg j) : ∃ m', rz_dM (d + 4) iM_safest [.ref (bs 10), .int (zI j)] (wOf N σ) = some (some (.int (zI (safestA q p j))), wOf N (gset σ 10 m')) ∧ sm [0, 15, 16] (σ 10) m' := by
  unfold safestA
  by_cases a1 : 0 ≤ j ∧ j < 2
  · have a1' : 0 ≤ j ∧ j ≤ 1 := by omega
    rw [if_pos a1, lst_lsA _ (sfF_dec p _ _)]
    refine ⟨asW (T0 (σ 10)), ?_, sm_tr (sm_mono (T0_sm _) (by decide)) (sm_mono (asW_sm _) (by decide))⟩
    have h0 := z_Msafest_0 (N := N) (σ := gset σ 10 (T0 (σ 10))) d hN (p := p) (q := q) (by rw [gset_at]; exact hm) (by rw [gset_at]; exact hs) hw hl hq a1
    rw [gset_at, gset_gset] at h0
    unfold T0 at *
    simp (disch := first | omega | exact Nat.le_of_ble_eq_true rfl) only [e_M_safest, s_M_safest_0, s_M_safest_1, s_M_safest_2, s_M_safest_5, s_M_safest_6, s_M_safest_7, s_M_safest_8, s_M_safest_11, s_M_safest_14, s_M_safest_15, s_M_safest_16, s_M_safest_18, s_M_safest_19, s_M_safest_20, s_M_safest_22, s_M_safest_24, s_M_safest_27, s_M_safest_28, s_M_safest_29, s_M_safest_30, s_M_safest_33, s_M_safest_34, s_M_safest_37, s_M_safest_38, s_M_safest_39, s_M_safest_40, s_M_safest_41, s_M_safest_42, s_M_safest_43, s_M_safest_46, s_M_safest_47, s_M_safest_50, s_M_safest_51, s_M_safest_52, s_M_safest_55, s_M_safest_58, s_M_safest_59, Option.bind_some, Option.bind_none, Option.toList_some, Option.toList_none, List.cons_append, List.nil_append, if_true, if_false, rz_clr, true_or, or_true, z00, z11, bZ_eq0, bZ_eq1, nor_self, if_pos, if_neg, zI_add, zI_sub, zI_mul, zI_neg, zI_lt, zI_le, zI_eq, c_M, f_M_0, u_M_0, f_M_1, u_M_1, f_M_2, l_M_2, r_M_2, w_M_2, f_M_3, u_M_3, f_M_4, u_M_4, f_M_5, u_M_5, f_M_6, u_M_6, f_M_7, u_M_7, f_M_8, u_M_8, f_M_9, l_M_9, r_M_9, w_M_9, f_M_10, l_M_10, r_M_10, w_M_10, f_M_11, l_M_11, r_M_11, w_M_11, f_M_12, l_M_12, r_M_12, w_M_12, f_M_13, l_M_13, r_M_13, w_M_13, f_M_14, l_M_14, r_M_14, w_M_14, f_M_15, l_M_15, r_M_15, w_M_15, f_M_16, l_M_16, r_M_16, w_M_16, f_M_17, l_M_17, r_M_17, w_M_17, f_M_18, l_M_18, r_M_18, w_M_18, sset_eq, gset_at, gset_gset, gset_ne, pset_eq, pset_ne, z_Min, bZ_pos a1', h0]
  · have a1' : ¬ (0 ≤ j ∧ j ≤ 1) := by omega
    rw [if_neg a1]
    refine ⟨T0 (σ 10), ?_, sm_mono (T0_sm _) (by decide)⟩
    unfold T0
    simp (disch := first | omega | exact Nat.le_of_ble_eq_true rfl) only [e_M_safest, s_M_safest_0, s_M_safest_1, s_M_safest_2, s_M_safest_5, s_M_safest_6, s_M_safest_7, s_M_safest_8, s_M_safest_11, s_M_safest_14, s_M_safest_15, s_M_safest_16, s_M_safest_18, s_M_safest_19, s_M_safest_20, s_M_safest_22, s_M_safest_24, s_M_safest_27, s_M_safest_28, s_M_safest_29, s_M_safest_30, s_M_safest_33, s_M_safest_34, s_M_safest_37, s_M_safest_38, s_M_safest_39, s_M_safest_40, s_M_safest_41, s_M_safest_42, s_M_safest_43, s_M_safest_46, s_M_safest_47, s_M_safest_50, s_M_safest_51, s_M_safest_52, s_M_safest_55, s_M_safest_58, s_M_safest_59, Option.bind_some, Option.bind_none, Option.toList_some, Option.toList_none, List.cons_append, List.nil_append, if_true, if_false, rz_clr, true_or, or_true, z00, z11, bZ_eq0, bZ_eq1, nor_self, if_pos, if_neg, zI_add, zI_sub, zI_mul, zI_neg, zI_lt, zI_le, zI_eq, c_M, f_M_0, u_M_0, f_M_1, u_M_1, f_M_2, l_M_2, r_M_2, w_M_2, f_M_3, u_M_3, f_M_4, u_M_4, f_M_5, u_M_5, f_M_6, u_M_6, f_M_7, u_M_7, f_M_8, u_M_8, f_M_9, l_M_9, r_M_9, w_M_9, f_M_10, l_M_10, r_M_10, w_M_10, f_M_11, l_M_11, r_M_11, w_M_11, f_M_12, l_M_12, r_M_12, w_M_12, f_M_13, l_M_13, r_M_13, w_M_13, f_M_14, l_M_14, r_M_14, w_M_14, f_M_15, l_M_15, r_M_15, w_M_15, f_M_16, l_M_16, r_M_16, w_M_16, f_M_17, l_M_17, r_M_17, w_M_17, f_M_18, l_M_18, r_M_18, w_M_18, sset_eq, gset_at, gset_gset, gset_ne, pset_eq, pset_ne, z_Min, bZ_neg a1']
end MH
