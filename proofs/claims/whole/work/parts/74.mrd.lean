-- the model: words
theorem tl64 {a : Int} (h : rg a) : (zI a).toInt64 = Int64.ofInt a := by rw [← Int64.ofInt_int32ToInt, zI_toInt h.1 h.2]
theorem i64_inj {a b : Int} (ha : 0 ≤ a ∧ a < 9223372036854775808) (hb : 0 ≤ b ∧ b < 9223372036854775808) : Int64.ofInt a = Int64.ofInt b ↔ a = b := by
  constructor
  · intro h
    have := congrArg Int64.toInt h
    rwa [Int64.toInt_ofInt_of_le (by omega) (by omega), Int64.toInt_ofInt_of_le (by omega) (by omega)] at this
  · intro h; rw [h]
theorem lgc {a b : Int} (ha : 0 ≤ a ∧ a < 9223372036854775808) (hb : 0 ≤ b ∧ b < 9223372036854775808) : (lg_cmp (Int64.ofInt a) (Int64.ofInt b) = zI 0) = (a = b) := by
  apply propext
  unfold lg_cmp
  constructor
  · intro h
    split at h
    · exact absurd h (by decide)
    · split at h
      · next z => exact (i64_inj ha hb).mp z
      · exact absurd h (by decide)
  · intro h
    subst h
    rw [if_neg (by
      intro z
      exact Int64.lt_irrefl z), if_pos rfl]
    rfl
def adI (a c : Int) : Int := if c = 0 then a else 256 * a + c
section MWd
variable {N : Nat} {σ : zS}
theorem z_Madd (d : Nat) {a c : Int} (hc : rg c) (w : rz_W) : rz_dM (d + 1) iM_add [.long (Int64.ofInt a), .int (zI c)] w = some (some (.long (Int64.ofInt (adI a c))), w) := by
  unfold adI
  have e : (256 : Int64) * Int64.ofInt a + Int64.ofInt c = Int64.ofInt (256 * a + c) := by rw [Int64.ofInt_add, Int64.ofInt_mul]; rfl
  by_cases h : c = 0
  · subst h
    rw [if_pos rfl]
    simp (disch := first | omega | exact Nat.le_of_ble_eq_true rfl) only [e_M_add, s_M_add_0, s_M_add_1, s_M_add_4, s_M_add_5, s_M_add_8, s_M_add_11, s_M_add_12, s_M_add_13, s_M_add_14, s_M_add_15, s_M_add_16, Option.bind_some, Option.bind_none, Option.toList_some, Option.toList_none, List.cons_append, List.nil_append, if_true, if_false, rz_clr, true_or, or_true, z00, z11, bZ_eq0, bZ_eq1, nor_self, if_pos, if_neg, zI_add, zI_sub, zI_mul, zI_neg, zI_lt, zI_le, zI_eq]
  · rw [if_neg h]
    simp (disch := first | omega | exact Nat.le_of_ble_eq_true rfl) only [e_M_add, s_M_add_0, s_M_add_1, s_M_add_4, s_M_add_5, s_M_add_8, s_M_add_11, s_M_add_12, s_M_add_13, s_M_add_14, s_M_add_15, s_M_add_16, Option.bind_some, Option.bind_none, Option.toList_some, Option.toList_none, List.cons_append, List.nil_append, if_true, if_false, rz_clr, true_or, or_true, z00, z11, bZ_eq0, bZ_eq1, nor_self, if_pos, if_neg, zI_add, zI_sub, zI_mul, zI_neg, zI_lt, zI_le, zI_eq, tl64, e]
def nmI (a b c d e : Int) : Int := adI (adI (adI (adI (adI 0 a) b) c) d) e
theorem z_Mnamed (d : Nat) {a b c e f : Int} (ha : rg a) (hb : rg b) (hc : rg c) (he : rg e) (hf : rg f) (w : rz_W) : rz_dM (d + 2) iM_named [.int (zI a), .int (zI b), .int (zI c), .int (zI e), .int (zI f)] w = some (some (.long (Int64.ofInt (nmI a b c e f))), w) := by
  have h0 := z_Madd d (a := 0) ha w
  rw [show Int64.ofInt 0 = 0 from rfl] at h0
  have h1 := z_Madd d (a := adI 0 a) hb w
  have h2 := z_Madd d (a := adI (adI 0 a) b) hc w
  have h3 := z_Madd d (a := adI (adI (adI 0 a) b) c) he w
  have h4 := z_Madd d (a := adI (adI (adI (adI 0 a) b) c) e) hf w
  unfold nmI
  simp (disch := first | omega | exact Nat.le_of_ble_eq_true rfl) only [e_M_named, s_M_named_0, s_M_named_1, s_M_named_2, s_M_named_5, s_M_named_6, s_M_named_9, s_M_named_10, s_M_named_13, s_M_named_14, s_M_named_17, s_M_named_19, s_M_named_22, Option.bind_some, Option.bind_none, Option.toList_some, Option.toList_none, List.cons_append, List.nil_append, if_true, if_false, rz_clr, true_or, or_true, z00, z11, bZ_eq0, bZ_eq1, nor_self, if_pos, if_neg, h0, h1, h2, h3, h4]
/-- which word a name is -/
def wdR (h r : Int) : Prop := (h = 422775452260 ∧ r = 0) ∨ (h = 7367028 ∧ r = 1) ∨ (h = 1650814060 ∧ r = 2) ∨ (h = 2002873452 ∧ r = 3) ∨ (h = 7102839 ∧ r = 4) ∨ (h = 7168366 ∧ r = 5) ∨ (h = 1752132965 ∧ r = 6) ∨ (h = 1970496883 ∧ r = 7) ∨ (h = 32199638076581235 ∧ r = 8) ∨ (h ≠ 422775452260 ∧ h ≠ 7367028 ∧ h ≠ 1650814060 ∧ h ≠ 2002873452 ∧ h ≠ 7102839 ∧ h ≠ 7168366 ∧ h ≠ 1752132965 ∧ h ≠ 1970496883 ∧ h ≠ 32199638076581235 ∧ r = -9)
theorem nmc_0 : nmI 98 111 97 114 100 = 422775452260 := by decide
theorem nmc_1 : nmI 112 105 116 0 0 = 7367028 := by decide
theorem nmc_2 : nmI 98 101 108 108 0 = 1650814060 := by decide
theorem nmc_3 : nmI 119 97 108 108 0 = 2002873452 := by decide
theorem nmc_4 : nmI 108 97 119 0 0 = 7102839 := by decide
theorem nmc_5 : nmI 109 97 110 0 0 = 7168366 := by decide
theorem nmc_6 : nmI 104 111 109 101 0 = 1752132965 := by decide
theorem nmc_7 : nmI 117 115 101 115 0 = 1970496883 := by decide
theorem nmc_8 : adI (adI (nmI 114 101 102 117 115) 101) 115 = 32199638076581235 := by decide
theorem z_MwordOf (d : Nat) {h : Int} (hh : 0 ≤ h ∧ h < 72057594037927936) (w : rz_W) : ∃ r, wdR h r ∧ rz_dM (d + 3) iM_wordOf [.long (Int64.ofInt h)] w = some (some (.int (zI r)), w) := by
  have n0 := fun w => z_Mnamed d (a := 98) (b := 111) (c := 97) (e := 114) (f := 100) (by decide) (by decide) (by decide) (by decide) (by decide) w
  have n1 := fun w => z_Mnamed d (a := 112) (b := 105) (c := 116) (e := 0) (f := 0) (by decide) (by decide) (by decide) (by decide) (by decide) w
  have n2 := fun w => z_Mnamed d (a := 98) (b := 101) (c := 108) (e := 108) (f := 0) (by decide) (by decide) (by decide) (by decide) (by decide) w
  have n3 := fun w => z_Mnamed d (a := 119) (b := 97) (c := 108) (e := 108) (f := 0) (by decide) (by decide) (by decide) (by decide) (by decide) w
  have n4 := fun w => z_Mnamed d (a := 108) (b := 97) (c := 119) (e := 0) (f := 0) (by decide) (by decide) (by decide) (by decide) (by decide) w
  have n5 := fun w => z_Mnamed d (a := 109) (b := 97) (c := 110) (e := 0) (f := 0) (by decide) (by decide) (by decide) (by decide) (by decide) w
  have n6 := fun w => z_Mnamed d (a := 104) (b := 111) (c := 109) (e := 101) (f := 0) (by decide) (by decide) (by decide) (by decide) (by decide) w
  have n7 := fun w => z_Mnamed d (a := 117) (b := 115) (c := 101) (e := 115) (f := 0) (by decide) (by decide) (by decide) (by decide) (by decide) w
  have n8 := fun w => z_Mnamed d (a := 114) (b := 101) (c := 102) (e := 117) (f := 115) (by decide) (by decide) (by decide) (by decide) (by decide) w
  have a1 := fun w => z_Madd (d + 1) (a := nmI 114 101 102 117 115) (c := 101) (by decide) w
  have a2 := fun w => z_Madd (d + 1) (a := adI (nmI 114 101 102 117 115) 101) (c := 115) (by decide) w
  rw [nmc_8] at a2
  rw [nmc_0] at n0
  rw [nmc_1] at n1
  rw [nmc_2] at n2
  rw [nmc_3] at n3
  rw [nmc_4] at n4
  rw [nmc_5] at n5
  rw [nmc_6] at n6
  rw [nmc_7] at n7
  unfold wdR
  by_cases c8 : h = 32199638076581235
  · refine ⟨8, by omega, ?_⟩
    simp (disch := first | omega | exact Nat.le_of_ble_eq_true rfl) only [e_M_wordOf, s_M_wordOf_0, s_M_wordOf_1, s_M_wordOf_3, s_M_wordOf_5, s_M_wordOf_7, s_M_wordOf_9, s_M_wordOf_11, s_M_wordOf_14, s_M_wordOf_16, s_M_wordOf_19, s_M_wordOf_21, s_M_wordOf_24, s_M_wordOf_25, s_M_wordOf_28, s_M_wordOf_30, s_M_wordOf_31, s_M_wordOf_32, s_M_wordOf_34, s_M_wordOf_36, s_M_wordOf_38, s_M_wordOf_40, s_M_wordOf_42, s_M_wordOf_45, s_M_wordOf_46, s_M_wordOf_49, s_M_wordOf_50, s_M_wordOf_53, s_M_wordOf_54, s_M_wordOf_56, s_M_wordOf_58, s_M_wordOf_60, s_M_wordOf_61, s_M_wordOf_62, s_M_wordOf_65, s_M_wordOf_66, s_M_wordOf_69, s_M_wordOf_70, s_M_wordOf_73, s_M_wordOf_74, s_M_wordOf_76, s_M_wordOf_78, s_M_wordOf_80, s_M_wordOf_82, s_M_wordOf_83, s_M_wordOf_86, s_M_wordOf_87, s_M_wordOf_90, s_M_wordOf_91, s_M_wordOf_94, s_M_wordOf_95, s_M_wordOf_97, s_M_wordOf_99, s_M_wordOf_101, s_M_wordOf_103, s_M_wordOf_104, s_M_wordOf_107, s_M_wordOf_108, s_M_wordOf_111, s_M_wordOf_112, s_M_wordOf_115, s_M_wordOf_117, s_M_wordOf_118, s_M_wordOf_119, s_M_wordOf_121, s_M_wordOf_124, s_M_wordOf_125, s_M_wordOf_126, s_M_wordOf_127, s_M_wordOf_129, s_M_wordOf_131, s_M_wordOf_133, s_M_wordOf_134, s_M_wordOf_135, s_M_wordOf_138, s_M_wordOf_139, s_M_wordOf_142, s_M_wordOf_143, s_M_wordOf_146, s_M_wordOf_147, s_M_wordOf_149, s_M_wordOf_151, s_M_wordOf_153, s_M_wordOf_154, s_M_wordOf_155, s_M_wordOf_158, s_M_wordOf_159, s_M_wordOf_162, s_M_wordOf_163, s_M_wordOf_166, s_M_wordOf_167, s_M_wordOf_169, s_M_wordOf_171, s_M_wordOf_173, s_M_wordOf_175, s_M_wordOf_176, s_M_wordOf_179, s_M_wordOf_180, s_M_wordOf_183, s_M_wordOf_185, s_M_wordOf_188, s_M_wordOf_189, s_M_wordOf_191, s_M_wordOf_193, s_M_wordOf_195, s_M_wordOf_197, s_M_wordOf_198, s_M_wordOf_201, s_M_wordOf_202, s_M_wordOf_205, s_M_wordOf_207, s_M_wordOf_210, s_M_wordOf_212, Option.bind_some, Option.bind_none, Option.toList_some, Option.toList_none, List.cons_append, List.nil_append, if_true, if_false, rz_clr, true_or, or_true, z00, z11, bZ_eq0, bZ_eq1, nor_self, if_pos, if_neg, zI_lt, zI_le, zI_eq, n0, n1, n2, n3, n4, n5, n6, n7, n8, a1, a2, lgc]
  · by_cases c0 : h = 422775452260
    · refine ⟨0, by omega, ?_⟩
      simp (disch := first | omega | exact Nat.le_of_ble_eq_true rfl) only [e_M_wordOf, s_M_wordOf_0, s_M_wordOf_1, s_M_wordOf_3, s_M_wordOf_5, s_M_wordOf_7, s_M_wordOf_9, s_M_wordOf_11, s_M_wordOf_14, s_M_wordOf_16, s_M_wordOf_19, s_M_wordOf_21, s_M_wordOf_24, s_M_wordOf_25, s_M_wordOf_28, s_M_wordOf_30, s_M_wordOf_31, s_M_wordOf_32, s_M_wordOf_34, s_M_wordOf_36, s_M_wordOf_38, s_M_wordOf_40, s_M_wordOf_42, s_M_wordOf_45, s_M_wordOf_46, s_M_wordOf_49, s_M_wordOf_50, s_M_wordOf_53, s_M_wordOf_54, s_M_wordOf_56, s_M_wordOf_58, s_M_wordOf_60, s_M_wordOf_61, s_M_wordOf_62, s_M_wordOf_65, s_M_wordOf_66, s_M_wordOf_69, s_M_wordOf_70, s_M_wordOf_73, s_M_wordOf_74, s_M_wordOf_76, s_M_wordOf_78, s_M_wordOf_80, s_M_wordOf_82, s_M_wordOf_83, s_M_wordOf_86, s_M_wordOf_87, s_M_wordOf_90, s_M_wordOf_91, s_M_wordOf_94, s_M_wordOf_95, s_M_wordOf_97, s_M_wordOf_99, s_M_wordOf_101, s_M_wordOf_103, s_M_wordOf_104, s_M_wordOf_107, s_M_wordOf_108, s_M_wordOf_111, s_M_wordOf_112, s_M_wordOf_115, s_M_wordOf_117, s_M_wordOf_118, s_M_wordOf_119, s_M_wordOf_121, s_M_wordOf_124, s_M_wordOf_125, s_M_wordOf_126, s_M_wordOf_127, s_M_wordOf_129, s_M_wordOf_131, s_M_wordOf_133, s_M_wordOf_134, s_M_wordOf_135, s_M_wordOf_138, s_M_wordOf_139, s_M_wordOf_142, s_M_wordOf_143, s_M_wordOf_146, s_M_wordOf_147, s_M_wordOf_149, s_M_wordOf_151, s_M_wordOf_153, s_M_wordOf_154, s_M_wordOf_155, s_M_wordOf_158, s_M_wordOf_159, s_M_wordOf_162, s_M_wordOf_163, s_M_wordOf_166, s_M_wordOf_167, s_M_wordOf_169, s_M_wordOf_171, s_M_wordOf_173, s_M_wordOf_175, s_M_wordOf_176, s_M_wordOf_179, s_M_wordOf_180, s_M_wordOf_183, s_M_wordOf_185, s_M_wordOf_188, s_M_wordOf_189, s_M_wordOf_191, s_M_wordOf_193, s_M_wordOf_195, s_M_wordOf_197, s_M_wordOf_198, s_M_wordOf_201, s_M_wordOf_202, s_M_wordOf_205, s_M_wordOf_207, s_M_wordOf_210, s_M_wordOf_212, Option.bind_some, Option.bind_none, Option.toList_some, Option.toList_none, List.cons_append, List.nil_append, if_true, if_false, rz_clr, true_or, or_true, z00, z11, bZ_eq0, bZ_eq1, nor_self, if_pos, if_neg, zI_lt, zI_le, zI_eq, n0, n1, n2, n3, n4, n5, n6, n7, n8, a1, a2, lgc]
    · by_cases c1 : h = 7367028
      · refine ⟨1, by omega, ?_⟩
        simp (disch := first | omega | exact Nat.le_of_ble_eq_true rfl) only [e_M_wordOf, s_M_wordOf_0, s_M_wordOf_1, s_M_wordOf_3, s_M_wordOf_5, s_M_wordOf_7, s_M_wordOf_9, s_M_wordOf_11, s_M_wordOf_14, s_M_wordOf_16, s_M_wordOf_19, s_M_wordOf_21, s_M_wordOf_24, s_M_wordOf_25, s_M_wordOf_28, s_M_wordOf_30, s_M_wordOf_31, s_M_wordOf_32, s_M_wordOf_34, s_M_wordOf_36, s_M_wordOf_38, s_M_wordOf_40, s_M_wordOf_42, s_M_wordOf_45, s_M_wordOf_46, s_M_wordOf_49, s_M_wordOf_50, s_M_wordOf_53, s_M_wordOf_54, s_M_wordOf_56, s_M_wordOf_58, s_M_wordOf_60, s_M_wordOf_61, s_M_wordOf_62, s_M_wordOf_65, s_M_wordOf_66, s_M_wordOf_69, s_M_wordOf_70, s_M_wordOf_73, s_M_wordOf_74, s_M_wordOf_76, s_M_wordOf_78, s_M_wordOf_80, s_M_wordOf_82, s_M_wordOf_83, s_M_wordOf_86, s_M_wordOf_87, s_M_wordOf_90, s_M_wordOf_91, s_M_wordOf_94, s_M_wordOf_95, s_M_wordOf_97, s_M_wordOf_99, s_M_wordOf_101, s_M_wordOf_103, s_M_wordOf_104, s_M_wordOf_107, s_M_wordOf_108, s_M_wordOf_111, s_M_wordOf_112, s_M_wordOf_115, s_M_wordOf_117, s_M_wordOf_118, s_M_wordOf_119, s_M_wordOf_121, s_M_wordOf_124, s_M_wordOf_125, s_M_wordOf_126, s_M_wordOf_127, s_M_wordOf_129, s_M_wordOf_131, s_M_wordOf_133, s_M_wordOf_134, s_M_wordOf_135, s_M_wordOf_138, s_M_wordOf_139, s_M_wordOf_142, s_M_wordOf_143, s_M_wordOf_146, s_M_wordOf_147, s_M_wordOf_149, s_M_wordOf_151, s_M_wordOf_153, s_M_wordOf_154, s_M_wordOf_155, s_M_wordOf_158, s_M_wordOf_159, s_M_wordOf_162, s_M_wordOf_163, s_M_wordOf_166, s_M_wordOf_167, s_M_wordOf_169, s_M_wordOf_171, s_M_wordOf_173, s_M_wordOf_175, s_M_wordOf_176, s_M_wordOf_179, s_M_wordOf_180, s_M_wordOf_183, s_M_wordOf_185, s_M_wordOf_188, s_M_wordOf_189, s_M_wordOf_191, s_M_wordOf_193, s_M_wordOf_195, s_M_wordOf_197, s_M_wordOf_198, s_M_wordOf_201, s_M_wordOf_202, s_M_wordOf_205, s_M_wordOf_207, s_M_wordOf_210, s_M_wordOf_212, Option.bind_some, Option.bind_none, Option.toList_some, Option.toList_none, List.cons_append, List.nil_append, if_true, if_false, rz_clr, true_or, or_true, z00, z11, bZ_eq0, bZ_eq1, nor_self, if_pos, if_neg, zI_lt, zI_le, zI_eq, n0, n1, n2, n3, n4, n5, n6, n7, n8, a1, a2, lgc]
      · by_cases c2 : h = 1650814060
        · refine ⟨2, by omega, ?_⟩
          simp (disch := first | omega | exact Nat.le_of_ble_eq_true rfl) only [e_M_wordOf, s_M_wordOf_0, s_M_wordOf_1, s_M_wordOf_3, s_M_wordOf_5, s_M_wordOf_7, s_M_wordOf_9, s_M_wordOf_11, s_M_wordOf_14, s_M_wordOf_16, s_M_wordOf_19, s_M_wordOf_21, s_M_wordOf_24, s_M_wordOf_25, s_M_wordOf_28, s_M_wordOf_30, s_M_wordOf_31, s_M_wordOf_32, s_M_wordOf_34, s_M_wordOf_36, s_M_wordOf_38, s_M_wordOf_40, s_M_wordOf_42, s_M_wordOf_45, s_M_wordOf_46, s_M_wordOf_49, s_M_wordOf_50, s_M_wordOf_53, s_M_wordOf_54, s_M_wordOf_56, s_M_wordOf_58, s_M_wordOf_60, s_M_wordOf_61, s_M_wordOf_62, s_M_wordOf_65, s_M_wordOf_66, s_M_wordOf_69, s_M_wordOf_70, s_M_wordOf_73, s_M_wordOf_74, s_M_wordOf_76, s_M_wordOf_78, s_M_wordOf_80, s_M_wordOf_82, s_M_wordOf_83, s_M_wordOf_86, s_M_wordOf_87, s_M_wordOf_90, s_M_wordOf_91, s_M_wordOf_94, s_M_wordOf_95, s_M_wordOf_97, s_M_wordOf_99, s_M_wordOf_101, s_M_wordOf_103, s_M_wordOf_104, s_M_wordOf_107, s_M_wordOf_108, s_M_wordOf_111, s_M_wordOf_112, s_M_wordOf_115, s_M_wordOf_117, s_M_wordOf_118, s_M_wordOf_119, s_M_wordOf_121, s_M_wordOf_124, s_M_wordOf_125, s_M_wordOf_126, s_M_wordOf_127, s_M_wordOf_129, s_M_wordOf_131, s_M_wordOf_133, s_M_wordOf_134, s_M_wordOf_135, s_M_wordOf_138, s_M_wordOf_139, s_M_wordOf_142, s_M_wordOf_143, s_M_wordOf_146, s_M_wordOf_147, s_M_wordOf_149, s_M_wordOf_151, s_M_wordOf_153, s_M_wordOf_154, s_M_wordOf_155, s_M_wordOf_158, s_M_wordOf_159, s_M_wordOf_162, s_M_wordOf_163, s_M_wordOf_166, s_M_wordOf_167, s_M_wordOf_169, s_M_wordOf_171, s_M_wordOf_173, s_M_wordOf_175, s_M_wordOf_176, s_M_wordOf_179, s_M_wordOf_180, s_M_wordOf_183, s_M_wordOf_185, s_M_wordOf_188, s_M_wordOf_189, s_M_wordOf_191, s_M_wordOf_193, s_M_wordOf_195, s_M_wordOf_197, s_M_wordOf_198, s_M_wordOf_201, s_M_wordOf_202, s_M_wordOf_205, s_M_wordOf_207, s_M_wordOf_210, s_M_wordOf_212, Option.bind_some, Option.bind_none, Option.toList_some, Option.toList_none, List.cons_append, List.nil_append, if_true, if_false, rz_clr, true_or, or_true, z00, z11, bZ_eq0, bZ_eq1, nor_self, if_pos, if_neg, zI_lt, zI_le, zI_eq, n0, n1, n2, n3, n4, n5, n6, n7, n8, a1, a2, lgc]
        · by_cases c3 : h = 2002873452
          · refine ⟨3, by omega, ?_⟩
            simp (disch := first | omega | exact Nat.le_of_ble_eq_true rfl) only [e_M_wordOf, s_M_wordOf_0, s_M_wordOf_1, s_M_wordOf_3, s_M_wordOf_5, s_M_wordOf_7, s_M_wordOf_9, s_M_wordOf_11, s_M_wordOf_14, s_M_wordOf_16, s_M_wordOf_19, s_M_wordOf_21, s_M_wordOf_24, s_M_wordOf_25, s_M_wordOf_28, s_M_wordOf_30, s_M_wordOf_31, s_M_wordOf_32, s_M_wordOf_34, s_M_wordOf_36, s_M_wordOf_38, s_M_wordOf_40, s_M_wordOf_42, s_M_wordOf_45, s_M_wordOf_46, s_M_wordOf_49, s_M_wordOf_50, s_M_wordOf_53, s_M_wordOf_54, s_M_wordOf_56, s_M_wordOf_58, s_M_wordOf_60, s_M_wordOf_61, s_M_wordOf_62, s_M_wordOf_65, s_M_wordOf_66, s_M_wordOf_69, s_M_wordOf_70, s_M_wordOf_73, s_M_wordOf_74, s_M_wordOf_76, s_M_wordOf_78, s_M_wordOf_80, s_M_wordOf_82, s_M_wordOf_83, s_M_wordOf_86, s_M_wordOf_87, s_M_wordOf_90, s_M_wordOf_91, s_M_wordOf_94, s_M_wordOf_95, s_M_wordOf_97, s_M_wordOf_99, s_M_wordOf_101, s_M_wordOf_103, s_M_wordOf_104, s_M_wordOf_107, s_M_wordOf_108, s_M_wordOf_111, s_M_wordOf_112, s_M_wordOf_115, s_M_wordOf_117, s_M_wordOf_118, s_M_wordOf_119, s_M_wordOf_121, s_M_wordOf_124, s_M_wordOf_125, s_M_wordOf_126, s_M_wordOf_127, s_M_wordOf_129, s_M_wordOf_131, s_M_wordOf_133, s_M_wordOf_134, s_M_wordOf_135, s_M_wordOf_138, s_M_wordOf_139, s_M_wordOf_142, s_M_wordOf_143, s_M_wordOf_146, s_M_wordOf_147, s_M_wordOf_149, s_M_wordOf_151, s_M_wordOf_153, s_M_wordOf_154, s_M_wordOf_155, s_M_wordOf_158, s_M_wordOf_159, s_M_wordOf_162, s_M_wordOf_163, s_M_wordOf_166, s_M_wordOf_167, s_M_wordOf_169, s_M_wordOf_171, s_M_wordOf_173, s_M_wordOf_175, s_M_wordOf_176, s_M_wordOf_179, s_M_wordOf_180, s_M_wordOf_183, s_M_wordOf_185, s_M_wordOf_188, s_M_wordOf_189, s_M_wordOf_191, s_M_wordOf_193, s_M_wordOf_195, s_M_wordOf_197, s_M_wordOf_198, s_M_wordOf_201, s_M_wordOf_202, s_M_wordOf_205, s_M_wordOf_207, s_M_wordOf_210, s_M_wordOf_212, Option.bind_some, Option.bind_none, Option.toList_some, Option.toList_none, List.cons_append, List.nil_append, if_true, if_false, rz_clr, true_or, or_true, z00, z11, bZ_eq0, bZ_eq1, nor_self, if_pos, if_neg, zI_lt, zI_le, zI_eq, n0, n1, n2, n3, n4, n5, n6, n7, n8, a1, a2, lgc]
          · by_cases c4 : h = 7102839
            · refine ⟨4, by omega, ?_⟩
              simp (disch := first | omega | exact Nat.le_of_ble_eq_true rfl) only [e_M_wordOf, s_M_wordOf_0, s_M_wordOf_1, s_M_wordOf_3, s_M_wordOf_5, s_M_wordOf_7, s_M_wordOf_9, s_M_wordOf_11, s_M_wordOf_14, s_M_wordOf_16, s_M_wordOf_19, s_M_wordOf_21, s_M_wordOf_24, s_M_wordOf_25, s_M_wordOf_28, s_M_wordOf_30, s_M_wordOf_31, s_M_wordOf_32, s_M_wordOf_34, s_M_wordOf_36, s_M_wordOf_38, s_M_wordOf_40, s_M_wordOf_42, s_M_wordOf_45, s_M_wordOf_46, s_M_wordOf_49, s_M_wordOf_50, s_M_wordOf_53, s_M_wordOf_54, s_M_wordOf_56, s_M_wordOf_58, s_M_wordOf_60, s_M_wordOf_61, s_M_wordOf_62, s_M_wordOf_65, s_M_wordOf_66, s_M_wordOf_69, s_M_wordOf_70, s_M_wordOf_73, s_M_wordOf_74, s_M_wordOf_76, s_M_wordOf_78, s_M_wordOf_80, s_M_wordOf_82, s_M_wordOf_83, s_M_wordOf_86, s_M_wordOf_87, s_M_wordOf_90, s_M_wordOf_91, s_M_wordOf_94, s_M_wordOf_95, s_M_wordOf_97, s_M_wordOf_99, s_M_wordOf_101, s_M_wordOf_103, s_M_wordOf_104, s_M_wordOf_107, s_M_wordOf_108, s_M_wordOf_111, s_M_wordOf_112, s_M_wordOf_115, s_M_wordOf_117, s_M_wordOf_118, s_M_wordOf_119, s_M_wordOf_121, s_M_wordOf_124, s_M_wordOf_125, s_M_wordOf_126, s_M_wordOf_127, s_M_wordOf_129, s_M_wordOf_131, s_M_wordOf_133, s_M_wordOf_134, s_M_wordOf_135, s_M_wordOf_138, s_M_wordOf_139, s_M_wordOf_142, s_M_wordOf_143, s_M_wordOf_146, s_M_wordOf_147, s_M_wordOf_149, s_M_wordOf_151, s_M_wordOf_153, s_M_wordOf_154, s_M_wordOf_155, s_M_wordOf_158, s_M_wordOf_159, s_M_wordOf_162, s_M_wordOf_163, s_M_wordOf_166, s_M_wordOf_167, s_M_wordOf_169, s_M_wordOf_171, s_M_wordOf_173, s_M_wordOf_175, s_M_wordOf_176, s_M_wordOf_179, s_M_wordOf_180, s_M_wordOf_183, s_M_wordOf_185, s_M_wordOf_188, s_M_wordOf_189, s_M_wordOf_191, s_M_wordOf_193, s_M_wordOf_195, s_M_wordOf_197, s_M_wordOf_198, s_M_wordOf_201, s_M_wordOf_202, s_M_wordOf_205, s_M_wordOf_207, s_M_wordOf_210, s_M_wordOf_212, Option.bind_some, Option.bind_none, Option.toList_some, Option.toList_none, List.cons_append, List.nil_append, if_true, if_false, rz_clr, true_or, or_true, z00, z11, bZ_eq0, bZ_eq1, nor_self, if_pos, if_neg, zI_lt, zI_le, zI_eq, n0, n1, n2, n3, n4, n5, n6, n7, n8, a1, a2, lgc]
            · by_cases c5 : h = 7168366
              · refine ⟨5, by omega, ?_⟩
                simp (disch := first | omega | exact Nat.le_of_ble_eq_true rfl) only [e_M_wordOf, s_M_wordOf_0, s_M_wordOf_1, s_M_wordOf_3, s_M_wordOf_5, s_M_wordOf_7, s_M_wordOf_9, s_M_wordOf_11, s_M_wordOf_14, s_M_wordOf_16, s_M_wordOf_19, s_M_wordOf_21, s_M_wordOf_24, s_M_wordOf_25, s_M_wordOf_28, s_M_wordOf_30, s_M_wordOf_31, s_M_wordOf_32, s_M_wordOf_34, s_M_wordOf_36, s_M_wordOf_38, s_M_wordOf_40, s_M_wordOf_42, s_M_wordOf_45, s_M_wordOf_46, s_M_wordOf_49, s_M_wordOf_50, s_M_wordOf_53, s_M_wordOf_54, s_M_wordOf_56, s_M_wordOf_58, s_M_wordOf_60, s_M_wordOf_61, s_M_wordOf_62, s_M_wordOf_65, s_M_wordOf_66, s_M_wordOf_69, s_M_wordOf_70, s_M_wordOf_73, s_M_wordOf_74, s_M_wordOf_76, s_M_wordOf_78, s_M_wordOf_80, s_M_wordOf_82, s_M_wordOf_83, s_M_wordOf_86, s_M_wordOf_87, s_M_wordOf_90, s_M_wordOf_91, s_M_wordOf_94, s_M_wordOf_95, s_M_wordOf_97, s_M_wordOf_99, s_M_wordOf_101, s_M_wordOf_103, s_M_wordOf_104, s_M_wordOf_107, s_M_wordOf_108, s_M_wordOf_111, s_M_wordOf_112, s_M_wordOf_115, s_M_wordOf_117, s_M_wordOf_118, s_M_wordOf_119, s_M_wordOf_121, s_M_wordOf_124, s_M_wordOf_125, s_M_wordOf_126, s_M_wordOf_127, s_M_wordOf_129, s_M_wordOf_131, s_M_wordOf_133, s_M_wordOf_134, s_M_wordOf_135, s_M_wordOf_138, s_M_wordOf_139, s_M_wordOf_142, s_M_wordOf_143, s_M_wordOf_146, s_M_wordOf_147, s_M_wordOf_149, s_M_wordOf_151, s_M_wordOf_153, s_M_wordOf_154, s_M_wordOf_155, s_M_wordOf_158, s_M_wordOf_159, s_M_wordOf_162, s_M_wordOf_163, s_M_wordOf_166, s_M_wordOf_167, s_M_wordOf_169, s_M_wordOf_171, s_M_wordOf_173, s_M_wordOf_175, s_M_wordOf_176, s_M_wordOf_179, s_M_wordOf_180, s_M_wordOf_183, s_M_wordOf_185, s_M_wordOf_188, s_M_wordOf_189, s_M_wordOf_191, s_M_wordOf_193, s_M_wordOf_195, s_M_wordOf_197, s_M_wordOf_198, s_M_wordOf_201, s_M_wordOf_202, s_M_wordOf_205, s_M_wordOf_207, s_M_wordOf_210, s_M_wordOf_212, Option.bind_some, Option.bind_none, Option.toList_some, Option.toList_none, List.cons_append, List.nil_append, if_true, if_false, rz_clr, true_or, or_true, z00, z11, bZ_eq0, bZ_eq1, nor_self, if_pos, if_neg, zI_lt, zI_le, zI_eq, n0, n1, n2, n3, n4, n5, n6, n7, n8, a1, a2, lgc]
              · by_cases c6 : h = 1752132965
                · refine ⟨6, by omega, ?_⟩
                  simp (disch := first | omega | exact Nat.le_of_ble_eq_true rfl) only [e_M_wordOf, s_M_wordOf_0, s_M_wordOf_1, s_M_wordOf_3, s_M_wordOf_5, s_M_wordOf_7, s_M_wordOf_9, s_M_wordOf_11, s_M_wordOf_14, s_M_wordOf_16, s_M_wordOf_19, s_M_wordOf_21, s_M_wordOf_24, s_M_wordOf_25, s_M_wordOf_28, s_M_wordOf_30, s_M_wordOf_31, s_M_wordOf_32, s_M_wordOf_34, s_M_wordOf_36, s_M_wordOf_38, s_M_wordOf_40, s_M_wordOf_42, s_M_wordOf_45, s_M_wordOf_46, s_M_wordOf_49, s_M_wordOf_50, s_M_wordOf_53, s_M_wordOf_54, s_M_wordOf_56, s_M_wordOf_58, s_M_wordOf_60, s_M_wordOf_61, s_M_wordOf_62, s_M_wordOf_65, s_M_wordOf_66, s_M_wordOf_69, s_M_wordOf_70, s_M_wordOf_73, s_M_wordOf_74, s_M_wordOf_76, s_M_wordOf_78, s_M_wordOf_80, s_M_wordOf_82, s_M_wordOf_83, s_M_wordOf_86, s_M_wordOf_87, s_M_wordOf_90, s_M_wordOf_91, s_M_wordOf_94, s_M_wordOf_95, s_M_wordOf_97, s_M_wordOf_99, s_M_wordOf_101, s_M_wordOf_103, s_M_wordOf_104, s_M_wordOf_107, s_M_wordOf_108, s_M_wordOf_111, s_M_wordOf_112, s_M_wordOf_115, s_M_wordOf_117, s_M_wordOf_118, s_M_wordOf_119, s_M_wordOf_121, s_M_wordOf_124, s_M_wordOf_125, s_M_wordOf_126, s_M_wordOf_127, s_M_wordOf_129, s_M_wordOf_131, s_M_wordOf_133, s_M_wordOf_134, s_M_wordOf_135, s_M_wordOf_138, s_M_wordOf_139, s_M_wordOf_142, s_M_wordOf_143, s_M_wordOf_146, s_M_wordOf_147, s_M_wordOf_149, s_M_wordOf_151, s_M_wordOf_153, s_M_wordOf_154, s_M_wordOf_155, s_M_wordOf_158, s_M_wordOf_159, s_M_wordOf_162, s_M_wordOf_163, s_M_wordOf_166, s_M_wordOf_167, s_M_wordOf_169, s_M_wordOf_171, s_M_wordOf_173, s_M_wordOf_175, s_M_wordOf_176, s_M_wordOf_179, s_M_wordOf_180, s_M_wordOf_183, s_M_wordOf_185, s_M_wordOf_188, s_M_wordOf_189, s_M_wordOf_191, s_M_wordOf_193, s_M_wordOf_195, s_M_wordOf_197, s_M_wordOf_198, s_M_wordOf_201, s_M_wordOf_202, s_M_wordOf_205, s_M_wordOf_207, s_M_wordOf_210, s_M_wordOf_212, Option.bind_some, Option.bind_none, Option.toList_some, Option.toList_none, List.cons_append, List.nil_append, if_true, if_false, rz_clr, true_or, or_true, z00, z11, bZ_eq0, bZ_eq1, nor_self, if_pos, if_neg, zI_lt, zI_le, zI_eq, n0, n1, n2, n3, n4, n5, n6, n7, n8, a1, a2, lgc]
                · by_cases c7 : h = 1970496883
                  · refine ⟨7, by omega, ?_⟩
                    simp (disch := first | omega | exact Nat.le_of_ble_eq_true rfl) only [e_M_wordOf, s_M_wordOf_0, s_M_wordOf_1, s_M_wordOf_3, s_M_wordOf_5, s_M_wordOf_7, s_M_wordOf_9, s_M_wordOf_11, s_M_wordOf_14, s_M_wordOf_16, s_M_wordOf_19, s_M_wordOf_21, s_M_wordOf_24, s_M_wordOf_25, s_M_wordOf_28, s_M_wordOf_30, s_M_wordOf_31, s_M_wordOf_32, s_M_wordOf_34, s_M_wordOf_36, s_M_wordOf_38, s_M_wordOf_40, s_M_wordOf_42, s_M_wordOf_45, s_M_wordOf_46, s_M_wordOf_49, s_M_wordOf_50, s_M_wordOf_53, s_M_wordOf_54, s_M_wordOf_56, s_M_wordOf_58, s_M_wordOf_60, s_M_wordOf_61, s_M_wordOf_62, s_M_wordOf_65, s_M_wordOf_66, s_M_wordOf_69, s_M_wordOf_70, s_M_wordOf_73, s_M_wordOf_74, s_M_wordOf_76, s_M_wordOf_78, s_M_wordOf_80, s_M_wordOf_82, s_M_wordOf_83, s_M_wordOf_86, s_M_wordOf_87, s_M_wordOf_90, s_M_wordOf_91, s_M_wordOf_94, s_M_wordOf_95, s_M_wordOf_97, s_M_wordOf_99, s_M_wordOf_101, s_M_wordOf_103, s_M_wordOf_104, s_M_wordOf_107, s_M_wordOf_108, s_M_wordOf_111, s_M_wordOf_112, s_M_wordOf_115, s_M_wordOf_117, s_M_wordOf_118, s_M_wordOf_119, s_M_wordOf_121, s_M_wordOf_124, s_M_wordOf_125, s_M_wordOf_126, s_M_wordOf_127, s_M_wordOf_129, s_M_wordOf_131, s_M_wordOf_133, s_M_wordOf_134, s_M_wordOf_135, s_M_wordOf_138, s_M_wordOf_139, s_M_wordOf_142, s_M_wordOf_143, s_M_wordOf_146, s_M_wordOf_147, s_M_wordOf_149, s_M_wordOf_151, s_M_wordOf_153, s_M_wordOf_154, s_M_wordOf_155, s_M_wordOf_158, s_M_wordOf_159, s_M_wordOf_162, s_M_wordOf_163, s_M_wordOf_166, s_M_wordOf_167, s_M_wordOf_169, s_M_wordOf_171, s_M_wordOf_173, s_M_wordOf_175, s_M_wordOf_176, s_M_wordOf_179, s_M_wordOf_180, s_M_wordOf_183, s_M_wordOf_185, s_M_wordOf_188, s_M_wordOf_189, s_M_wordOf_191, s_M_wordOf_193, s_M_wordOf_195, s_M_wordOf_197, s_M_wordOf_198, s_M_wordOf_201, s_M_wordOf_202, s_M_wordOf_205, s_M_wordOf_207, s_M_wordOf_210, s_M_wordOf_212, Option.bind_some, Option.bind_none, Option.toList_some, Option.toList_none, List.cons_append, List.nil_append, if_true, if_false, rz_clr, true_or, or_true, z00, z11, bZ_eq0, bZ_eq1, nor_self, if_pos, if_neg, zI_lt, zI_le, zI_eq, n0, n1, n2, n3, n4, n5, n6, n7, n8, a1, a2, lgc]
                  · refine ⟨-9, by omega, ?_⟩
                    simp (disch := first | omega | exact Nat.le_of_ble_eq_true rfl) only [e_M_wordOf, s_M_wordOf_0, s_M_wordOf_1, s_M_wordOf_3, s_M_wordOf_5, s_M_wordOf_7, s_M_wordOf_9, s_M_wordOf_11, s_M_wordOf_14, s_M_wordOf_16, s_M_wordOf_19, s_M_wordOf_21, s_M_wordOf_24, s_M_wordOf_25, s_M_wordOf_28, s_M_wordOf_30, s_M_wordOf_31, s_M_wordOf_32, s_M_wordOf_34, s_M_wordOf_36, s_M_wordOf_38, s_M_wordOf_40, s_M_wordOf_42, s_M_wordOf_45, s_M_wordOf_46, s_M_wordOf_49, s_M_wordOf_50, s_M_wordOf_53, s_M_wordOf_54, s_M_wordOf_56, s_M_wordOf_58, s_M_wordOf_60, s_M_wordOf_61, s_M_wordOf_62, s_M_wordOf_65, s_M_wordOf_66, s_M_wordOf_69, s_M_wordOf_70, s_M_wordOf_73, s_M_wordOf_74, s_M_wordOf_76, s_M_wordOf_78, s_M_wordOf_80, s_M_wordOf_82, s_M_wordOf_83, s_M_wordOf_86, s_M_wordOf_87, s_M_wordOf_90, s_M_wordOf_91, s_M_wordOf_94, s_M_wordOf_95, s_M_wordOf_97, s_M_wordOf_99, s_M_wordOf_101, s_M_wordOf_103, s_M_wordOf_104, s_M_wordOf_107, s_M_wordOf_108, s_M_wordOf_111, s_M_wordOf_112, s_M_wordOf_115, s_M_wordOf_117, s_M_wordOf_118, s_M_wordOf_119, s_M_wordOf_121, s_M_wordOf_124, s_M_wordOf_125, s_M_wordOf_126, s_M_wordOf_127, s_M_wordOf_129, s_M_wordOf_131, s_M_wordOf_133, s_M_wordOf_134, s_M_wordOf_135, s_M_wordOf_138, s_M_wordOf_139, s_M_wordOf_142, s_M_wordOf_143, s_M_wordOf_146, s_M_wordOf_147, s_M_wordOf_149, s_M_wordOf_151, s_M_wordOf_153, s_M_wordOf_154, s_M_wordOf_155, s_M_wordOf_158, s_M_wordOf_159, s_M_wordOf_162, s_M_wordOf_163, s_M_wordOf_166, s_M_wordOf_167, s_M_wordOf_169, s_M_wordOf_171, s_M_wordOf_173, s_M_wordOf_175, s_M_wordOf_176, s_M_wordOf_179, s_M_wordOf_180, s_M_wordOf_183, s_M_wordOf_185, s_M_wordOf_188, s_M_wordOf_189, s_M_wordOf_191, s_M_wordOf_193, s_M_wordOf_195, s_M_wordOf_197, s_M_wordOf_198, s_M_wordOf_201, s_M_wordOf_202, s_M_wordOf_205, s_M_wordOf_207, s_M_wordOf_210, s_M_wordOf_212, Option.bind_some, Option.bind_none, Option.toList_some, Option.toList_none, List.cons_append, List.nil_append, if_true, if_false, rz_clr, true_or, or_true, z00, z11, bZ_eq0, bZ_eq1, nor_self, if_pos, if_neg, zI_lt, zI_le, zI_eq, n0, n1, n2, n3, n4, n5, n6, n7, n8, a1, a2, lgc]
end MWd
/-- a name as a number -/
def hwI (b : Nat → Int) (t : Nat) : Nat → Int
  | 0 => 0
  | k + 1 => 256 * hwI b t k + b (t + k)
theorem hwI_rg {b : Nat → Int} {t : Nat} : ∀ k, (∀ j, j < k → 97 ≤ b (t + j) ∧ b (t + j) ≤ 122) → 0 ≤ hwI b t k ∧ hwI b t k < 256 ^ k := by
  intro k
  induction k with
  | zero => intro _; rw [hwI]; exact ⟨Int.le_refl _, by decide⟩
  | succ k ih =>
    intro h
    have h1 := ih (fun j hj => h j (by omega))
    have h2 := h k (by omega)
    rw [hwI, Int.pow_succ]
    omega
theorem hwI_inj {b b' : Nat → Int} {t t' : Nat} : ∀ k k', (∀ j, j < k → 97 ≤ b (t + j) ∧ b (t + j) ≤ 122) → (∀ j, j < k' → 97 ≤ b' (t' + j) ∧ b' (t' + j) ≤ 122) → hwI b t k = hwI b' t' k' → k = k' ∧ ∀ j, j < k → b (t + j) = b' (t' + j) := by
  intro k
  induction k with
  | zero =>
    intro k' h1 h2 e
    cases k' with
    | zero => exact ⟨rfl, fun j hj => by omega⟩
    | succ k' =>
      have a1 := hwI_rg k' (fun j hj => h2 j (by omega))
      have a2 := h2 k' (by omega)
      rw [hwI, hwI] at e
      omega
  | succ k ih =>
    intro k' h1 h2 e
    cases k' with
    | zero =>
      have a1 := hwI_rg k (fun j hj => h1 j (by omega))
      have a2 := h1 k (by omega)
      rw [hwI, hwI] at e
      omega
    | succ k' =>
      have a1 := h1 k (by omega)
      have a2 := h2 k' (by omega)
      rw [hwI, hwI] at e
      obtain ⟨e1, e2⟩ := ih k' (fun j hj => h1 j (by omega)) (fun j hj => h2 j (by omega)) (by omega)
      refine ⟨by omega, fun j hj => ?_⟩
      by_cases z : j = k
      · rw [z]
        rw [← e1] at e a2
        have : hwI b t k = hwI b' t' k := by omega
        omega
      · exact e2 j (by omega)
theorem eqw_iff {b : Nat → Int} {i t : Nat} : ∀ n j, eqw b i t n j = true ↔ ∀ x, j ≤ x → x < j + n → wb i x = b (t + x) := by
  intro n
  induction n with
  | zero => intro j; exact ⟨fun _ x h1 h2 => by omega, fun _ => rfl⟩
  | succ n ih =>
    intro j
    rw [eqw, Bool.and_eq_true, decide_eq_true_eq, ih]
    constructor
    · rintro ⟨h1, h2⟩ x h3 h4
      by_cases z : x = j
      · rw [z]; exact h1
      · exact h2 x (by omega) (by omega)
    · intro h
      exact ⟨h j (Nat.le_refl j) (by omega), fun x h1 h2 => h x (by omega) (by omega)⟩
def hwL (i : Nat) : Int := hwI (wb i) 0 (wl i)
theorem wd_iff {b : Nat → Int} {t k i : Nat} (hi : i < 9) (hb : ∀ j, j < k → 97 ≤ b (t + j) ∧ b (t + j) ≤ 122) : (k = wl i ∧ eqw b i t (wl i) 0 = true) ↔ hwI b t k = hwL i := by
  have hwb : ∀ j, j < wl i → 97 ≤ wb i (0 + j) ∧ wb i (0 + j) ≤ 122 := fun j hj => by rw [Nat.zero_add]; exact wb_rg i hi j hj
  constructor
  · rintro ⟨h1, h2⟩
    rw [eqw_iff] at h2
    subst h1
    unfold hwL
    have : ∀ n, n ≤ wl i → hwI b t n = hwI (wb i) 0 n := by
      intro n
      induction n with
      | zero => intro _; rfl
      | succ n ih =>
        intro hn
        rw [hwI, hwI, ih (by omega), Nat.zero_add, h2 n (Nat.zero_le _) (by omega)]
    exact this _ (Nat.le_refl _)
  · intro h
    obtain ⟨e1, e2⟩ := hwI_inj k (wl i) hb hwb h
    refine ⟨e1, ?_⟩
    rw [eqw_iff]
    intro x _ hx
    have := e2 x (by omega)
    rw [Nat.zero_add] at this
    exact this.symm
theorem hwL_0 : hwL 0 = 422775452260 := by decide
theorem hwL_1 : hwL 1 = 7367028 := by decide
theorem hwL_2 : hwL 2 = 1650814060 := by decide
theorem hwL_3 : hwL 3 = 2002873452 := by decide
theorem hwL_4 : hwL 4 = 7102839 := by decide
theorem hwL_5 : hwL 5 = 7168366 := by decide
theorem hwL_6 : hwL 6 = 1752132965 := by decide
theorem hwL_7 : hwL 7 = 1970496883 := by decide
theorem hwL_8 : hwL 8 = 32199638076581235 := by decide
theorem wdA_wdR {b : Nat → Int} {t k : Nat} (hb : ∀ j, j < k → 97 ≤ b (t + j) ∧ b (t + j) ≤ 122) {r : Int} (h : wdR (hwI b t k) r) : wdA b t k 9 0 = r := by
  have k0 := wd_iff (b := b) (t := t) (k := k) (i := 0) (by decide) hb
  rw [hwL_0] at k0
  have k1 := wd_iff (b := b) (t := t) (k := k) (i := 1) (by decide) hb
  rw [hwL_1] at k1
  have k2 := wd_iff (b := b) (t := t) (k := k) (i := 2) (by decide) hb
  rw [hwL_2] at k2
  have k3 := wd_iff (b := b) (t := t) (k := k) (i := 3) (by decide) hb
  rw [hwL_3] at k3
  have k4 := wd_iff (b := b) (t := t) (k := k) (i := 4) (by decide) hb
  rw [hwL_4] at k4
  have k5 := wd_iff (b := b) (t := t) (k := k) (i := 5) (by decide) hb
  rw [hwL_5] at k5
  have k6 := wd_iff (b := b) (t := t) (k := k) (i := 6) (by decide) hb
  rw [hwL_6] at k6
  have k7 := wd_iff (b := b) (t := t) (k := k) (i := 7) (by decide) hb
  rw [hwL_7] at k7
  have k8 := wd_iff (b := b) (t := t) (k := k) (i := 8) (by decide) hb
  rw [hwL_8] at k8
  generalize hwI b t k = H at *
  unfold wdR at h
  rcases h with ⟨e, e'⟩ | ⟨e, e'⟩ | ⟨e, e'⟩ | ⟨e, e'⟩ | ⟨e, e'⟩ | ⟨e, e'⟩ | ⟨e, e'⟩ | ⟨e, e'⟩ | ⟨e, e'⟩ | ⟨x0, x1, x2, x3, x4, x5, x6, x7, x8, e'⟩
  · rw [e', wdA, if_pos (k0.mpr e)]
    try rfl
  · rw [e', wdA, if_neg (fun z => by have := k0.mp z; omega), wdA, if_pos (k1.mpr e)]
    try rfl
  · rw [e', wdA, if_neg (fun z => by have := k0.mp z; omega), wdA, if_neg (fun z => by have := k1.mp z; omega), wdA, if_pos (k2.mpr e)]
    try rfl
  · rw [e', wdA, if_neg (fun z => by have := k0.mp z; omega), wdA, if_neg (fun z => by have := k1.mp z; omega), wdA, if_neg (fun z => by have := k2.mp z; omega), wdA, if_pos (k3.mpr e)]
    try rfl
  · rw [e', wdA, if_neg (fun z => by have := k0.mp z; omega), wdA, if_neg (fun z => by have := k1.mp z; omega), wdA, if_neg (fun z => by have := k2.mp z; omega), wdA, if_neg (fun z => by have := k3.mp z; omega), wdA, if_pos (k4.mpr e)]
    try rfl
  · rw [e', wdA, if_neg (fun z => by have := k0.mp z; omega), wdA, if_neg (fun z => by have := k1.mp z; omega), wdA, if_neg (fun z => by have := k2.mp z; omega), wdA, if_neg (fun z => by have := k3.mp z; omega), wdA, if_neg (fun z => by have := k4.mp z; omega), wdA, if_pos (k5.mpr e)]
    try rfl
  · rw [e', wdA, if_neg (fun z => by have := k0.mp z; omega), wdA, if_neg (fun z => by have := k1.mp z; omega), wdA, if_neg (fun z => by have := k2.mp z; omega), wdA, if_neg (fun z => by have := k3.mp z; omega), wdA, if_neg (fun z => by have := k4.mp z; omega), wdA, if_neg (fun z => by have := k5.mp z; omega), wdA, if_pos (k6.mpr e)]
    try rfl
  · rw [e', wdA, if_neg (fun z => by have := k0.mp z; omega), wdA, if_neg (fun z => by have := k1.mp z; omega), wdA, if_neg (fun z => by have := k2.mp z; omega), wdA, if_neg (fun z => by have := k3.mp z; omega), wdA, if_neg (fun z => by have := k4.mp z; omega), wdA, if_neg (fun z => by have := k5.mp z; omega), wdA, if_neg (fun z => by have := k6.mp z; omega), wdA, if_pos (k7.mpr e)]
    try rfl
  · rw [e', wdA, if_neg (fun z => by have := k0.mp z; omega), wdA, if_neg (fun z => by have := k1.mp z; omega), wdA, if_neg (fun z => by have := k2.mp z; omega), wdA, if_neg (fun z => by have := k3.mp z; omega), wdA, if_neg (fun z => by have := k4.mp z; omega), wdA, if_neg (fun z => by have := k5.mp z; omega), wdA, if_neg (fun z => by have := k6.mp z; omega), wdA, if_neg (fun z => by have := k7.mp z; omega), wdA, if_pos (k8.mpr e)]
    try rfl
  · rw [e', wdA, if_neg (fun z => by have := k0.mp z; omega), wdA, if_neg (fun z => by have := k1.mp z; omega), wdA, if_neg (fun z => by have := k2.mp z; omega), wdA, if_neg (fun z => by have := k3.mp z; omega), wdA, if_neg (fun z => by have := k4.mp z; omega), wdA, if_neg (fun z => by have := k5.mp z; omega), wdA, if_neg (fun z => by have := k6.mp z; omega), wdA, if_neg (fun z => by have := k7.mp z; omega), wdA, if_neg (fun z => by have := k8.mp z; omega), wdA]
