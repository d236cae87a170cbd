-- the reckoner's recursion: whole
section RK3
variable {N gp : Nat} {σ : zS}
abbrev MOKσ (σ : zS) (gp : Nat) (Kn : Nat → Int) : Prop := MOK (σ gp) (σ 6 1) (σ 6 2) (σ 6 4 0) Kn
theorem cl_area {p : zP} {K : Nat} (hK : vK p K) {m : Nat} (hm : m < 2) : (0 : Int) ≤ (cl K m : Int) ∧ (cl K m : Int) < p 8 0 * p 9 0 := by
  have h3 := hK.2.2.2.1
  have h4 := hK.2.2.2.2
  have e9 : m = 0 ∨ m = 1 := by omega
  rcases e9 with e9 | e9 <;> subst e9 <;> omega
theorem z_most (hN : 48 ≤ N) (hC : RC σ gp) {K n : Nat} {x : Nat} {b v0 : Int} {rf : Bool} {dn f : Nat → Int} (hn : n ≤ 4) (hK : vK (σ gp) K) (hb : b = -9 ∨ (0 ≤ b ∧ b < 8)) (hrf : rf = (decide (b = -9) && decide (0 < lf K (tm K)))) (hdn : ∀ k, -1 ≤ dn k ∧ dn k ≤ 1) (hf : ∀ k, -1 ≤ f k ∧ f k ≤ 1) (hfd : ∀ k, f k ≤ wtK K * dn k)
    (hV : ∀ Kn, MOKσ σ gp Kn → ∃ K', rz_dM (x + 6) iR_valueIn [.ref (bs 6), .int (zI (flipT K : Nat)), .int (zI n)] (wOf N (RS σ Kn)) = some (some (.int (zI v0)), wOf N (RS σ K')) ∧ MOKσ σ gp K')
    (hD : ∀ Kn, MOKσ σ gp Kn → ∀ k : Nat, k < 8 → ∃ K', rz_dM (x + 6) iR_afterDone [.ref (bs 6), .int (zI K), .int (zI k), .int (zI ((n : Int) + 1))] (wOf N (RS σ Kn)) = some (some (.int (zI (dn k))), wOf N (RS σ K')) ∧ MOKσ σ gp K')
    (hT : ∀ Kn, MOKσ σ gp Kn → ∀ k : Nat, k < 8 → exB (mayK (σ gp) (σ 6 1) K) b k = true → ∃ K', rz_dM (x + 6) iR_afterTold [.ref (bs 6), .int (zI K), .int (zI k), .int (zI (bZ (rf = true ∧ woB (oS (exB (mayK (σ gp) (σ 6 1) K) b) 8) k ≠ 0))), .int (zI ((n : Int) + 1))] (wOf N (RS σ Kn)) = some (some (.int (zI (wtK K * f k))), wOf N (RS σ K')) ∧ MOKσ σ gp K') :
    ∀ Kn, MOKσ σ gp Kn → ∃ K', rz_dM (x + 7) iR_mostFrom [.ref (bs 6), .int (zI K), .int (zI b), .int (zI ((n : Int) + 1))] (wOf N (RS σ Kn)) = some (some (.int (zI (if oS (exB (mayK (σ gp) (σ 6 1) K) b) 8 = 0 then v0 else wtK K * bmx (exB (mayK (σ gp) (σ 6 1) K) b) f 8))), wOf N (RS σ K')) ∧ MOKσ σ gp K' := by
  intro Kn hM
  obtain ⟨c1, c2, c3, c4, c5, c6, c7, c8, c9⟩ := hC
  have ha := wfP_area c4
  have hK1 := hK.1
  have htm := tm_lt K
  have hca := cl_area hK htm
  have hcb := cl_area hK (m := 1 - tm K) (by omega)
  have hla := c6 (tm K) htm
  have hne : gp ≠ 6 := by omega
  have e3 : (σ 6 3 0).toNat = gp := by omega
  have hmb := z_mayBits (N := N) (σ := RS σ Kn) (g := gp) (x + 3) c1 c2 hN (by rw [RS_ne hne]; exact c4) (by rw [RS_ne hne]; exact c5) (l := σ 6 1 (tm K)) (own := cl K (tm K)) (oth := cl K (1 - tm K)) hla (by rw [RS_ne hne]; exact hca) (by omega)
  rw [RS_ne hne] at hmb
  have hmb' : rz_dM (x + 6) iP_mayBits [.ref (bs gp), .int (zI (σ 6 1 (tm K))), .int (zI (cl K (tm K))), .int (zI (cl K (1 - tm K)))] (wOf N (RS σ Kn)) = some (some (.int (zI (oS (mayK (σ gp) (σ 6 1) K) 8 : Nat))), wOf N (RS σ Kn)) := hmb
  have hlt := oS_lt (mayK (σ gp) (σ 6 1) K) 8
  have hlt2 := oS_lt (exB (mayK (σ gp) (σ 6 1) K) b) 8
  have hwo : woB (oS (mayK (σ gp) (σ 6 1) K) 8) b = oS (exB (mayK (σ gp) (σ 6 1) K) b) 8 := by
    rcases hb with h | h
    · subst h
      rw [exB_none]
      unfold woB
      rw [if_neg (by omega)]
    · exact woB_ex _ h
  have hlf := lf_lt K (tm K)
  have hwoz := fun w => z_withoutBit (x + 5) (b := oS (mayK (σ gp) (σ 6 1) K) 8) (i := b) (by omega) (by omega) w
  rw [hwo] at hwoz
  have en : (n : Int) + 1 - 1 = n := by omega
  by_cases q0 : oS (exB (mayK (σ gp) (σ 6 1) K) b) 8 = 0
  · obtain ⟨K', h1, h2⟩ := hV Kn hM
    refine ⟨K', ?_, h2⟩
    rw [if_pos q0]
    have hx := z_xor4096 K hK1
    simp (disch := first | omega | exact Nat.le_of_ble_eq_true rfl) only [e_R_mostFrom, s_R_mostFrom_0, s_R_mostFrom_1, s_R_mostFrom_2, s_R_mostFrom_5, s_R_mostFrom_6, s_R_mostFrom_7, s_R_mostFrom_10, s_R_mostFrom_11, s_R_mostFrom_12, s_R_mostFrom_13, s_R_mostFrom_14, s_R_mostFrom_17, s_R_mostFrom_18, s_R_mostFrom_20, s_R_mostFrom_21, s_R_mostFrom_24, s_R_mostFrom_25, s_R_mostFrom_28, s_R_mostFrom_30, s_R_mostFrom_33, s_R_mostFrom_34, s_R_mostFrom_36, s_R_mostFrom_39, s_R_mostFrom_40, s_R_mostFrom_41, s_R_mostFrom_43, s_R_mostFrom_44, s_R_mostFrom_47, s_R_mostFrom_50, s_R_mostFrom_51, s_R_mostFrom_54, s_R_mostFrom_56, s_R_mostFrom_58, s_R_mostFrom_61, s_R_mostFrom_62, s_R_mostFrom_63, s_R_mostFrom_66, s_R_mostFrom_67, s_R_mostFrom_68, s_R_mostFrom_69, s_R_mostFrom_70, s_R_mostFrom_73, s_R_mostFrom_74, s_R_mostFrom_75, s_R_mostFrom_77, s_R_mostFrom_80, s_R_mostFrom_81, s_R_mostFrom_83, s_R_mostFrom_86, s_R_mostFrom_89, s_R_mostFrom_90, s_R_mostFrom_93, s_R_mostFrom_94, s_R_mostFrom_96, s_R_mostFrom_97, s_R_mostFrom_100, s_R_mostFrom_102, s_R_mostFrom_103, s_R_mostFrom_105, s_R_mostFrom_106, s_R_mostFrom_110, s_R_mostFrom_112, s_R_mostFrom_115, s_R_mostFrom_117, s_R_mostFrom_118, s_R_mostFrom_121, s_R_mostFrom_123, s_R_mostFrom_125, s_R_mostFrom_128, s_R_mostFrom_131, s_R_mostFrom_133, s_R_mostFrom_134, s_R_mostFrom_135, s_R_mostFrom_137, s_R_mostFrom_138, s_R_mostFrom_141, s_R_mostFrom_142, s_R_mostFrom_144, s_R_mostFrom_147, s_R_mostFrom_150, s_R_mostFrom_152, s_R_mostFrom_154, s_R_mostFrom_155, s_R_mostFrom_156, s_R_mostFrom_158, s_R_mostFrom_160, s_R_mostFrom_163, s_R_mostFrom_165, s_R_mostFrom_167, s_R_mostFrom_170, s_R_mostFrom_173, s_R_mostFrom_174, s_R_mostFrom_177, s_R_mostFrom_178, s_R_mostFrom_179, s_R_mostFrom_182, s_R_mostFrom_183, s_R_mostFrom_186, s_R_mostFrom_188, s_R_mostFrom_191, s_R_mostFrom_194, s_R_mostFrom_196, s_R_mostFrom_198, s_R_mostFrom_199, Option.bind_some, Option.bind_none, Option.toList_some, Option.toList_none, List.cons_append, List.nil_append, if_true, if_false, rz_clr, true_or, or_true, z00, z11, bZ_eq0, bZ_eq1, nor_self, if_pos, if_neg, zI_add, zI_sub, zI_mul, zI_neg, zI_lt, zI_le, zI_eq, c_R, f_R_0, l_R_0, r_R_0, w_R_0, f_R_1, l_R_1, r_R_1, w_R_1, f_R_2, l_R_2, r_R_2, w_R_2, f_R_3, u_R_3, f_R_4, u_R_4, a_R_0, p_R_0, a_R_1, p_R_1, a_R_2, p_R_2, c_P, gat_in, z_tellerIn, z_cellIn, RS_0, RS_6, e3, tm_I, tm_I2, Int.toNat_natCast, hmb', hwoz, q0, Int.natCast_zero, hx, en, h1]
  · obtain ⟨K', h1, h2⟩ := z_most_lp (σ := σ) (gp := gp) hN (b := b) (n := n) (x := x) (rf := rf) (dn := dn) (f := f) (S := exB (mayK (σ gp) (σ 6 1) K) b) (mb := oS (exB (mayK (σ gp) (σ 6 1) K) b) 8) hK1 (by omega) (fun k hk => by rw [oS_tb]; simp [hk]) hdn hf hfd hD hT (some (.int (zI (tm K : Nat)))) 8 0 rfl Kn hM
    rw [show bmx (exB (mayK (σ gp) (σ 6 1) K) b) f 0 = -1 from rfl, Int.natCast_zero] at h1
    refine ⟨K', ?_, h2⟩
    rw [if_neg q0]
    by_cases q1 : b = -9
    · by_cases q2 : 0 < lf K (tm K)
      · have e : rf = true := by rw [hrf]; simp [q1, q2]
        rw [bZ_pos e] at h1
        simp (disch := first | omega | exact Nat.le_of_ble_eq_true rfl) only [e_R_mostFrom, s_R_mostFrom_0, s_R_mostFrom_1, s_R_mostFrom_2, s_R_mostFrom_5, s_R_mostFrom_6, s_R_mostFrom_7, s_R_mostFrom_10, s_R_mostFrom_11, s_R_mostFrom_12, s_R_mostFrom_13, s_R_mostFrom_14, s_R_mostFrom_17, s_R_mostFrom_18, s_R_mostFrom_20, s_R_mostFrom_21, s_R_mostFrom_24, s_R_mostFrom_25, s_R_mostFrom_28, s_R_mostFrom_30, s_R_mostFrom_33, s_R_mostFrom_34, s_R_mostFrom_36, s_R_mostFrom_39, s_R_mostFrom_40, s_R_mostFrom_41, s_R_mostFrom_43, s_R_mostFrom_44, s_R_mostFrom_47, s_R_mostFrom_50, s_R_mostFrom_51, s_R_mostFrom_54, s_R_mostFrom_56, s_R_mostFrom_58, s_R_mostFrom_61, s_R_mostFrom_62, s_R_mostFrom_63, s_R_mostFrom_66, s_R_mostFrom_67, s_R_mostFrom_68, s_R_mostFrom_69, s_R_mostFrom_70, s_R_mostFrom_73, s_R_mostFrom_74, s_R_mostFrom_75, s_R_mostFrom_77, s_R_mostFrom_80, s_R_mostFrom_81, s_R_mostFrom_83, s_R_mostFrom_86, s_R_mostFrom_89, s_R_mostFrom_90, s_R_mostFrom_93, s_R_mostFrom_94, s_R_mostFrom_96, s_R_mostFrom_97, s_R_mostFrom_100, s_R_mostFrom_102, s_R_mostFrom_103, s_R_mostFrom_105, s_R_mostFrom_106, s_R_mostFrom_110, s_R_mostFrom_112, s_R_mostFrom_115, s_R_mostFrom_117, s_R_mostFrom_118, s_R_mostFrom_121, s_R_mostFrom_123, s_R_mostFrom_125, s_R_mostFrom_128, s_R_mostFrom_131, s_R_mostFrom_133, s_R_mostFrom_134, s_R_mostFrom_135, s_R_mostFrom_137, s_R_mostFrom_138, s_R_mostFrom_141, s_R_mostFrom_142, s_R_mostFrom_144, s_R_mostFrom_147, s_R_mostFrom_150, s_R_mostFrom_152, s_R_mostFrom_154, s_R_mostFrom_155, s_R_mostFrom_156, s_R_mostFrom_158, s_R_mostFrom_160, s_R_mostFrom_163, s_R_mostFrom_165, s_R_mostFrom_167, s_R_mostFrom_170, s_R_mostFrom_173, s_R_mostFrom_174, s_R_mostFrom_177, s_R_mostFrom_178, s_R_mostFrom_179, s_R_mostFrom_182, s_R_mostFrom_183, s_R_mostFrom_186, s_R_mostFrom_188, s_R_mostFrom_191, s_R_mostFrom_194, s_R_mostFrom_196, s_R_mostFrom_198, s_R_mostFrom_199, Option.bind_some, Option.bind_none, Option.toList_some, Option.toList_none, List.cons_append, List.nil_append, if_true, if_false, rz_clr, true_or, or_true, z00, z11, bZ_eq0, bZ_eq1, nor_self, if_pos, if_neg, zI_add, zI_sub, zI_mul, zI_neg, zI_lt, zI_le, zI_eq, c_R, f_R_0, l_R_0, r_R_0, w_R_0, f_R_1, l_R_1, r_R_1, w_R_1, f_R_2, l_R_2, r_R_2, w_R_2, f_R_3, u_R_3, f_R_4, u_R_4, a_R_0, p_R_0, a_R_1, p_R_1, a_R_2, p_R_2, c_P, gat_in, z_tellerIn, z_cellIn, z_leftIn, z_wants, RS_0, RS_6, e3, tm_I, tm_I2, Int.toNat_natCast, hmb', hwoz, h1]
      · have e : ¬ rf = true := by rw [hrf]; simp [q2]
        have e8 : lf K (tm K) = 0 := by omega
        rw [bZ_neg e] at h1
        simp (disch := first | omega | exact Nat.le_of_ble_eq_true rfl) only [e_R_mostFrom, s_R_mostFrom_0, s_R_mostFrom_1, s_R_mostFrom_2, s_R_mostFrom_5, s_R_mostFrom_6, s_R_mostFrom_7, s_R_mostFrom_10, s_R_mostFrom_11, s_R_mostFrom_12, s_R_mostFrom_13, s_R_mostFrom_14, s_R_mostFrom_17, s_R_mostFrom_18, s_R_mostFrom_20, s_R_mostFrom_21, s_R_mostFrom_24, s_R_mostFrom_25, s_R_mostFrom_28, s_R_mostFrom_30, s_R_mostFrom_33, s_R_mostFrom_34, s_R_mostFrom_36, s_R_mostFrom_39, s_R_mostFrom_40, s_R_mostFrom_41, s_R_mostFrom_43, s_R_mostFrom_44, s_R_mostFrom_47, s_R_mostFrom_50, s_R_mostFrom_51, s_R_mostFrom_54, s_R_mostFrom_56, s_R_mostFrom_58, s_R_mostFrom_61, s_R_mostFrom_62, s_R_mostFrom_63, s_R_mostFrom_66, s_R_mostFrom_67, s_R_mostFrom_68, s_R_mostFrom_69, s_R_mostFrom_70, s_R_mostFrom_73, s_R_mostFrom_74, s_R_mostFrom_75, s_R_mostFrom_77, s_R_mostFrom_80, s_R_mostFrom_81, s_R_mostFrom_83, s_R_mostFrom_86, s_R_mostFrom_89, s_R_mostFrom_90, s_R_mostFrom_93, s_R_mostFrom_94, s_R_mostFrom_96, s_R_mostFrom_97, s_R_mostFrom_100, s_R_mostFrom_102, s_R_mostFrom_103, s_R_mostFrom_105, s_R_mostFrom_106, s_R_mostFrom_110, s_R_mostFrom_112, s_R_mostFrom_115, s_R_mostFrom_117, s_R_mostFrom_118, s_R_mostFrom_121, s_R_mostFrom_123, s_R_mostFrom_125, s_R_mostFrom_128, s_R_mostFrom_131, s_R_mostFrom_133, s_R_mostFrom_134, s_R_mostFrom_135, s_R_mostFrom_137, s_R_mostFrom_138, s_R_mostFrom_141, s_R_mostFrom_142, s_R_mostFrom_144, s_R_mostFrom_147, s_R_mostFrom_150, s_R_mostFrom_152, s_R_mostFrom_154, s_R_mostFrom_155, s_R_mostFrom_156, s_R_mostFrom_158, s_R_mostFrom_160, s_R_mostFrom_163, s_R_mostFrom_165, s_R_mostFrom_167, s_R_mostFrom_170, s_R_mostFrom_173, s_R_mostFrom_174, s_R_mostFrom_177, s_R_mostFrom_178, s_R_mostFrom_179, s_R_mostFrom_182, s_R_mostFrom_183, s_R_mostFrom_186, s_R_mostFrom_188, s_R_mostFrom_191, s_R_mostFrom_194, s_R_mostFrom_196, s_R_mostFrom_198, s_R_mostFrom_199, Option.bind_some, Option.bind_none, Option.toList_some, Option.toList_none, List.cons_append, List.nil_append, if_true, if_false, rz_clr, true_or, or_true, z00, z11, bZ_eq0, bZ_eq1, nor_self, if_pos, if_neg, zI_add, zI_sub, zI_mul, zI_neg, zI_lt, zI_le, zI_eq, c_R, f_R_0, l_R_0, r_R_0, w_R_0, f_R_1, l_R_1, r_R_1, w_R_1, f_R_2, l_R_2, r_R_2, w_R_2, f_R_3, u_R_3, f_R_4, u_R_4, a_R_0, p_R_0, a_R_1, p_R_1, a_R_2, p_R_2, c_P, gat_in, z_tellerIn, z_cellIn, z_leftIn, z_wants, RS_0, RS_6, e3, tm_I, tm_I2, Int.toNat_natCast, hmb', hwoz, h1]
    · have e : ¬ rf = true := by rw [hrf]; simp [q1]
      rw [bZ_neg e] at h1
      simp (disch := first | omega | exact Nat.le_of_ble_eq_true rfl) only [e_R_mostFrom, s_R_mostFrom_0, s_R_mostFrom_1, s_R_mostFrom_2, s_R_mostFrom_5, s_R_mostFrom_6, s_R_mostFrom_7, s_R_mostFrom_10, s_R_mostFrom_11, s_R_mostFrom_12, s_R_mostFrom_13, s_R_mostFrom_14, s_R_mostFrom_17, s_R_mostFrom_18, s_R_mostFrom_20, s_R_mostFrom_21, s_R_mostFrom_24, s_R_mostFrom_25, s_R_mostFrom_28, s_R_mostFrom_30, s_R_mostFrom_33, s_R_mostFrom_34, s_R_mostFrom_36, s_R_mostFrom_39, s_R_mostFrom_40, s_R_mostFrom_41, s_R_mostFrom_43, s_R_mostFrom_44, s_R_mostFrom_47, s_R_mostFrom_50, s_R_mostFrom_51, s_R_mostFrom_54, s_R_mostFrom_56, s_R_mostFrom_58, s_R_mostFrom_61, s_R_mostFrom_62, s_R_mostFrom_63, s_R_mostFrom_66, s_R_mostFrom_67, s_R_mostFrom_68, s_R_mostFrom_69, s_R_mostFrom_70, s_R_mostFrom_73, s_R_mostFrom_74, s_R_mostFrom_75, s_R_mostFrom_77, s_R_mostFrom_80, s_R_mostFrom_81, s_R_mostFrom_83, s_R_mostFrom_86, s_R_mostFrom_89, s_R_mostFrom_90, s_R_mostFrom_93, s_R_mostFrom_94, s_R_mostFrom_96, s_R_mostFrom_97, s_R_mostFrom_100, s_R_mostFrom_102, s_R_mostFrom_103, s_R_mostFrom_105, s_R_mostFrom_106, s_R_mostFrom_110, s_R_mostFrom_112, s_R_mostFrom_115, s_R_mostFrom_117, s_R_mostFrom_118, s_R_mostFrom_121, s_R_mostFrom_123, s_R_mostFrom_125, s_R_mostFrom_128, s_R_mostFrom_131, s_R_mostFrom_133, s_R_mostFrom_134, s_R_mostFrom_135, s_R_mostFrom_137, s_R_mostFrom_138, s_R_mostFrom_141, s_R_mostFrom_142, s_R_mostFrom_144, s_R_mostFrom_147, s_R_mostFrom_150, s_R_mostFrom_152, s_R_mostFrom_154, s_R_mostFrom_155, s_R_mostFrom_156, s_R_mostFrom_158, s_R_mostFrom_160, s_R_mostFrom_163, s_R_mostFrom_165, s_R_mostFrom_167, s_R_mostFrom_170, s_R_mostFrom_173, s_R_mostFrom_174, s_R_mostFrom_177, s_R_mostFrom_178, s_R_mostFrom_179, s_R_mostFrom_182, s_R_mostFrom_183, s_R_mostFrom_186, s_R_mostFrom_188, s_R_mostFrom_191, s_R_mostFrom_194, s_R_mostFrom_196, s_R_mostFrom_198, s_R_mostFrom_199, Option.bind_some, Option.bind_none, Option.toList_some, Option.toList_none, List.cons_append, List.nil_append, if_true, if_false, rz_clr, true_or, or_true, z00, z11, bZ_eq0, bZ_eq1, nor_self, if_pos, if_neg, zI_add, zI_sub, zI_mul, zI_neg, zI_lt, zI_le, zI_eq, c_R, f_R_0, l_R_0, r_R_0, w_R_0, f_R_1, l_R_1, r_R_1, w_R_1, f_R_2, l_R_2, r_R_2, w_R_2, f_R_3, u_R_3, f_R_4, u_R_4, a_R_0, p_R_0, a_R_1, p_R_1, a_R_2, p_R_2, c_P, gat_in, z_tellerIn, z_cellIn, z_leftIn, z_wants, RS_0, RS_6, e3, tm_I, tm_I2, Int.toNat_natCast, hmb', hwoz, h1]
abbrev gVσ (σ : zS) (gp n : Nat) : Nat → Int := gV (σ gp) (σ 6 1) (σ 6 2) n
theorem z_mostB (hN : 48 ≤ N) (hC : RC σ gp) {c n : Nat} (hv : VAL N σ gp (c + 6) n) (hn : n ≤ 4) {K : Nat} {b : Int} (hK : vK (σ gp) K) (hb : 0 ≤ b ∧ b < 8) : ∀ (e : Nat) Kn, MOKσ σ gp Kn → ∃ K', rz_dM (e + c + 9) iR_mostFrom [.ref (bs 6), .int (zI K), .int (zI b), .int (zI ((n : Int) + 1))] (wOf N (RS σ Kn)) = some (some (.int (zI (mostF (σ gp) (σ 6 1) (σ 6 2) (gVσ σ gp n) K b))), wOf N (RS σ K')) ∧ MOKσ σ gp K' := by
  intro e
  have hg := gV_rg (σ gp) (σ 6 1) (σ 6 2) n
  have hdn := fun k => dnK_rg (p := σ gp) (la := σ 6 1) (hm := σ 6 2) hg K k
  have hdw := fun k => wmul_rg (wtK_pm K) (hdn k)
  have hb9 : ¬ b = -9 := by omega
  have e1 : mostF (σ gp) (σ 6 1) (σ 6 2) (gVσ σ gp n) K b = if oS (exB (mayK (σ gp) (σ 6 1) K) b) 8 = 0 then gVσ σ gp n (flipT K) else wtK K * bmx (exB (mayK (σ gp) (σ 6 1) K) b) (fun k => wtK K * dnK (σ gp) (σ 6 1) (σ 6 2) (gVσ σ gp n) K k) 8 := by
    unfold mostF
    rw [if_neg hb9]
    rfl
  have hD : ∀ Kn, MOKσ σ gp Kn → ∀ k : Nat, k < 8 → ∃ K', rz_dM (e + c + 2 + 6) iR_afterDone [.ref (bs 6), .int (zI K), .int (zI k), .int (zI ((n : Int) + 1))] (wOf N (RS σ Kn)) = some (some (.int (zI (dnK (σ gp) (σ 6 1) (σ 6 2) (gVσ σ gp n) K k))), wOf N (RS σ K')) ∧ MOKσ σ gp K' := by
    intro Kn hM k hk
    have := z_afterDone hN hC hv hn (e + 1) Kn hM K k hK hk
    rw [show e + 1 + c + 7 = e + c + 2 + 6 by omega] at this
    exact this
  have hV : ∀ Kn, MOKσ σ gp Kn → ∃ K', rz_dM (e + c + 2 + 6) iR_valueIn [.ref (bs 6), .int (zI (flipT K : Nat)), .int (zI n)] (wOf N (RS σ Kn)) = some (some (.int (zI (gVσ σ gp n (flipT K)))), wOf N (RS σ K')) ∧ MOKσ σ gp K' := by
    intro Kn hM
    have := hv (e + 2) Kn hM _ (vK_flip hK)
    rw [show e + 2 + (c + 6) = e + c + 2 + 6 by omega] at this
    exact this
  have hT : ∀ Kn, MOKσ σ gp Kn → ∀ k : Nat, k < 8 → exB (mayK (σ gp) (σ 6 1) K) b k = true → ∃ K', rz_dM (e + c + 2 + 6) iR_afterTold [.ref (bs 6), .int (zI K), .int (zI k), .int (zI (bZ (false = true ∧ woB (oS (exB (mayK (σ gp) (σ 6 1) K) b) 8) k ≠ 0))), .int (zI ((n : Int) + 1))] (wOf N (RS σ Kn)) = some (some (.int (zI (wtK K * (wtK K * dnK (σ gp) (σ 6 1) (σ 6 2) (gVσ σ gp n) K k)))), wOf N (RS σ K')) ∧ MOKσ σ gp K' := by
    intro Kn hM k hk _
    rw [bZ_neg (p := (false = true ∧ _)) (fun z => absurd z.1 (by decide))]
    have h := z_told (σ := σ) (gp := gp) (N := N) hN (n := n) (k := k) (x := e + c + 1) (dn := dnK (σ gp) (σ 6 1) (σ 6 2) (gVσ σ gp n) K k) (rv := 0) (fl := false) hK.1 (hdn k) (by omega) (fun Kn hM => by
      have := z_afterDone hN hC hv hn e Kn hM K k hK hk
      rw [show e + c + 7 = e + c + 1 + 6 by omega] at this
      exact this) (fun z => absurd z (by decide)) Kn hM
    rw [bZ_neg (p := (false = true)) (by decide), if_neg (by decide)] at h
    rw [show e + c + 2 + 6 = e + c + 1 + 7 by omega]
    exact h
  have h := z_most (x := e + c + 2) (N := N) (σ := σ) (gp := gp) hN hC (v0 := gVσ σ gp n (flipT K)) (dn := fun k => dnK (σ gp) (σ 6 1) (σ 6 2) (gVσ σ gp n) K k) (f := fun k => wtK K * dnK (σ gp) (σ 6 1) (σ 6 2) (gVσ σ gp n) K k) (rf := false) hn hK (Or.inr hb) (by simp [hb9]) hdn hdw (fun k => Int.le_refl _) hV hD hT
  intro Kn hM
  obtain ⟨K', h1, h2⟩ := h Kn hM
  refine ⟨K', ?_, h2⟩
  rw [show e + c + 9 = e + c + 2 + 7 by omega, e1]
  exact h1
theorem z_afterRefused (hN : 48 ≤ N) (hC : RC σ gp) {c n : Nat} (hv : VAL N σ gp (c + 6) n) (hn : n ≤ 4) {K k : Nat} (hK : vK (σ gp) K) (hk : k < 8) (hl : 0 < lf K (tm K)) : ∀ (e : Nat) Kn, MOKσ σ gp Kn → ∃ K', rz_dM (e + c + 10) iR_afterRefused [.ref (bs 6), .int (zI K), .int (zI k), .int (zI ((n : Int) + 1))] (wOf N (RS σ Kn)) = some (some (.int (zI (mostF (σ gp) (σ 6 1) (σ 6 2) (gVσ σ gp n) (lessK K) k))), wOf N (RS σ K')) ∧ MOKσ σ gp K' := by
  intro e Kn hM
  obtain ⟨hvl, -⟩ := vK_less hK hl
  obtain ⟨K', h1, h2⟩ := z_mostB hN hC hv hn hvl (b := k) (by omega) e Kn hM
  refine ⟨K', ?_, h2⟩
  have htm := tm_lt K
  have hK1 := hK.1
  have e1 : wrK K (tm K : Nat) (-1) = ((lessK K : Nat) : Int) := by
    have hk9 := key_sum hK.1
    have e9 : tm K = 0 ∨ tm K = 1 := by omega
    unfold wrK lessK
    rcases e9 with e9 | e9 <;> rw [e9] at hl ⊢
    · rw [if_pos rfl, if_pos (by rfl)]; omega
    · rw [if_neg (by decide), if_neg (by decide)]; omega
  simp (disch := first | omega | exact Nat.le_of_ble_eq_true rfl) only [e_R_afterRefused, s_R_afterRefused_0, s_R_afterRefused_1, s_R_afterRefused_2, s_R_afterRefused_3, s_R_afterRefused_4, s_R_afterRefused_7, s_R_afterRefused_8, s_R_afterRefused_9, s_R_afterRefused_12, s_R_afterRefused_13, s_R_afterRefused_14, s_R_afterRefused_17, Option.bind_some, Option.bind_none, Option.toList_some, Option.toList_none, List.cons_append, List.nil_append, if_true, if_false, rz_clr, true_or, or_true, z00, z11, bZ_eq0, bZ_eq1, nor_self, if_pos, if_neg, zI_add, zI_sub, zI_mul, zI_neg, zI_lt, zI_le, zI_eq, c_R, f_R_0, l_R_0, r_R_0, w_R_0, f_R_1, l_R_1, r_R_1, w_R_1, f_R_2, l_R_2, r_R_2, w_R_2, f_R_3, u_R_3, f_R_4, u_R_4, z_tellerIn, tm_I, z_withRefusals, e1, h1]
/-- what afterTold answers -/
def toldF (p : zP) (la hm : Nat → Int) (v : Nat → Int) (fl : Bool) (K k : Nat) : Int := wtK K * (if fl then min (wtK K * dnK p la hm v K k) (wtK K * mostF p la hm v (lessK K) k) else wtK K * dnK p la hm v K k)
theorem mostF_rg {p : zP} {la hm : Nat → Int} {v : Nat → Int} (hv : ∀ K, -1 ≤ v K ∧ v K ≤ 1) (K : Nat) (b : Int) : -1 ≤ mostF p la hm v K b ∧ mostF p la hm v K b ≤ 1 := by
  unfold mostF
  split
  · split
    · exact hv _
    · exact mostN_rg hv K
  · split
    · exact hv _
    · exact mostB_rg hv K b
theorem z_afterTold (hN : 48 ≤ N) (hC : RC σ gp) {c n : Nat} (hv : VAL N σ gp (c + 6) n) (hn : n ≤ 4) {K k : Nat} {fl : Bool} (hK : vK (σ gp) K) (hk : k < 8) (hl : fl = true → 0 < lf K (tm K)) : ∀ (e : Nat) Kn, MOKσ σ gp Kn → ∃ K', rz_dM (e + c + 11) iR_afterTold [.ref (bs 6), .int (zI K), .int (zI k), .int (zI (bZ (fl = true))), .int (zI ((n : Int) + 1))] (wOf N (RS σ Kn)) = some (some (.int (zI (toldF (σ gp) (σ 6 1) (σ 6 2) (gVσ σ gp n) fl K k))), wOf N (RS σ K')) ∧ MOKσ σ gp K' := by
  intro e Kn hM
  have hg := gV_rg (σ gp) (σ 6 1) (σ 6 2) n
  exact z_told (σ := σ) (gp := gp) (N := N) hN (n := n) (k := k) (x := e + c + 4) (dn := dnK (σ gp) (σ 6 1) (σ 6 2) (gVσ σ gp n) K k) (rv := mostF (σ gp) (σ 6 1) (σ 6 2) (gVσ σ gp n) (lessK K) k) (fl := fl) hK.1 (dnK_rg hg K k) (mostF_rg hg _ _) (fun Kn hM => by
      have := z_afterDone hN hC hv hn (e + 3) Kn hM K k hK hk
      rw [show e + 3 + c + 7 = e + c + 4 + 6 by omega] at this
      exact this) (fun hf Kn hM => by
      have := z_afterRefused hN hC hv hn hK hk (hl hf) e Kn hM
      rw [show e + c + 10 = e + c + 4 + 6 by omega] at this
      exact this) Kn hM
theorem exB_less {p : zP} {la : Nat → Int} {K k : Nat} (hK : vK p K) (hl : 0 < lf K (tm K)) : mayK p la (lessK K) = mayK p la K := by
  obtain ⟨f1, f2, f3, f4, f5⟩ := less_f hK.1 hl
  unfold mayK tm
  rw [f3, f2, f2]
theorem toldF_tld {p : zP} {la hm : Nat → Int} {v : Nat → Int} {K k : Nat} (hK : vK p K) : toldF p la hm v (rfB p la K k) K k = wtK K * tldK p la hm v (rfB p la K k) K k := by
  unfold toldF tldK
  by_cases h : rfB p la K k = true
  · rw [if_pos h, if_pos h]
    have hl9 : 0 < lf K (tm K) := by unfold rfB at h; simp at h; exact h.1
    have h8 : oS (exB (mayK p la K) k) 8 ≠ 0 := by unfold rfB at h; simp at h; exact h.2
    have e8 : mostF p la hm v (lessK K) k = refK p la hm v K k := by
      unfold mostF refK
      rw [if_neg (by omega), exB_less (k := k) hK hl9, if_neg h8]
    rw [e8]
  · rw [if_neg h, if_neg h]
theorem z_mostN (hN : 48 ≤ N) (hC : RC σ gp) {c n : Nat} (hv : VAL N σ gp (c + 6) n) (hn : n ≤ 4) {K : Nat} (hK : vK (σ gp) K) : ∀ (e : Nat) Kn, MOKσ σ gp Kn → ∃ K', rz_dM (e + c + 12) iR_mostFrom [.ref (bs 6), .int (zI K), .int (zI (-9)), .int (zI ((n : Int) + 1))] (wOf N (RS σ Kn)) = some (some (.int (zI (mostF (σ gp) (σ 6 1) (σ 6 2) (gVσ σ gp n) K (-9)))), wOf N (RS σ K')) ∧ MOKσ σ gp K' := by
  intro e
  have hg := gV_rg (σ gp) (σ 6 1) (σ 6 2) n
  have hdn := fun k => dnK_rg (p := σ gp) (la := σ 6 1) (hm := σ 6 2) hg K k
  have e1 : mostF (σ gp) (σ 6 1) (σ 6 2) (gVσ σ gp n) K (-9) = if oS (exB (mayK (σ gp) (σ 6 1) K) (-9)) 8 = 0 then gVσ σ gp n (flipT K) else wtK K * bmx (exB (mayK (σ gp) (σ 6 1) K) (-9)) (fun k => tldK (σ gp) (σ 6 1) (σ 6 2) (gVσ σ gp n) (rfB (σ gp) (σ 6 1) K k) K k) 8 := by
    unfold mostF
    rw [if_pos rfl, exB_none]
    rfl
  have hfd : ∀ k, tldK (σ gp) (σ 6 1) (σ 6 2) (gVσ σ gp n) (rfB (σ gp) (σ 6 1) K k) K k ≤ wtK K * dnK (σ gp) (σ 6 1) (σ 6 2) (gVσ σ gp n) K k := by
    intro k
    unfold tldK
    split
    · exact Int.min_le_left _ _
    · exact Int.le_refl _
  have hD : ∀ Kn, MOKσ σ gp Kn → ∀ k : Nat, k < 8 → ∃ K', rz_dM (e + c + 5 + 6) iR_afterDone [.ref (bs 6), .int (zI K), .int (zI k), .int (zI ((n : Int) + 1))] (wOf N (RS σ Kn)) = some (some (.int (zI (dnK (σ gp) (σ 6 1) (σ 6 2) (gVσ σ gp n) K k))), wOf N (RS σ K')) ∧ MOKσ σ gp K' := by
    intro Kn hM k hk
    have := z_afterDone hN hC hv hn (e + 4) Kn hM K k hK hk
    rw [show e + 4 + c + 7 = e + c + 5 + 6 by omega] at this
    exact this
  have hV : ∀ Kn, MOKσ σ gp Kn → ∃ K', rz_dM (e + c + 5 + 6) iR_valueIn [.ref (bs 6), .int (zI (flipT K : Nat)), .int (zI n)] (wOf N (RS σ Kn)) = some (some (.int (zI (gVσ σ gp n (flipT K)))), wOf N (RS σ K')) ∧ MOKσ σ gp K' := by
    intro Kn hM
    have := hv (e + 5) Kn hM _ (vK_flip hK)
    rw [show e + 5 + (c + 6) = e + c + 5 + 6 by omega] at this
    exact this
  have hT : ∀ Kn, MOKσ σ gp Kn → ∀ k : Nat, k < 8 → exB (mayK (σ gp) (σ 6 1) K) (-9) k = true → ∃ K', rz_dM (e + c + 5 + 6) iR_afterTold [.ref (bs 6), .int (zI K), .int (zI k), .int (zI (bZ (decide (0 < lf K (tm K)) = true ∧ woB (oS (exB (mayK (σ gp) (σ 6 1) K) (-9)) 8) k ≠ 0))), .int (zI ((n : Int) + 1))] (wOf N (RS σ Kn)) = some (some (.int (zI (wtK K * tldK (σ gp) (σ 6 1) (σ 6 2) (gVσ σ gp n) (rfB (σ gp) (σ 6 1) K k) K k))), wOf N (RS σ K')) ∧ MOKσ σ gp K' := by
    intro Kn hM k hk hS
    have hfl : (decide (0 < lf K (tm K)) = true ∧ woB (oS (exB (mayK (σ gp) (σ 6 1) K) (-9)) 8) k ≠ 0) ↔ (rfB (σ gp) (σ 6 1) K k = true) := by
      rw [exB_none, woB_ex _ (b := k) (by omega)]
      unfold rfB
      simp
    have hz : zI (bZ (decide (0 < lf K (tm K)) = true ∧ woB (oS (exB (mayK (σ gp) (σ 6 1) K) (-9)) 8) k ≠ 0)) = zI (bZ (rfB (σ gp) (σ 6 1) K k = true)) := by
      by_cases h : rfB (σ gp) (σ 6 1) K k = true
      · rw [bZ_pos h, bZ_pos (hfl.mpr h)]
      · rw [bZ_neg h, bZ_neg (fun z => h (hfl.mp z))]
    rw [hz]
    have h := z_afterTold hN hC hv hn (fl := rfB (σ gp) (σ 6 1) K k) hK hk (fun z => by unfold rfB at z; simp at z; exact z.1) e Kn hM
    obtain ⟨K', h1, h2⟩ := h
    refine ⟨K', ?_, h2⟩
    have e9 : toldF (σ gp) (σ 6 1) (σ 6 2) (gVσ σ gp n) (rfB (σ gp) (σ 6 1) K k) K k = wtK K * tldK (σ gp) (σ 6 1) (σ 6 2) (gVσ σ gp n) (rfB (σ gp) (σ 6 1) K k) K k := toldF_tld hK
    rw [show e + c + 5 + 6 = e + c + 11 by omega, h1, e9]
  have h := z_most (x := e + c + 5) (N := N) (σ := σ) (gp := gp) hN hC (v0 := gVσ σ gp n (flipT K)) (dn := fun k => dnK (σ gp) (σ 6 1) (σ 6 2) (gVσ σ gp n) K k) (f := fun k => tldK (σ gp) (σ 6 1) (σ 6 2) (gVσ σ gp n) (rfB (σ gp) (σ 6 1) K k) K k) (rf := decide (0 < lf K (tm K))) hn hK (Or.inl rfl) (by simp) hdn (fun k => tldK_rg hg _ K k) hfd hV hD hT
  intro Kn hM
  obtain ⟨K', h1, h2⟩ := h Kn hM
  refine ⟨K', ?_, h2⟩
  rw [show e + c + 12 = e + c + 5 + 7 by omega, e1]
  exact h1
theorem z_valueIn_step (hN : 48 ≤ N) (hC : RC σ gp) {c n : Nat} (hv : VAL N σ gp (c + 6) n) (hn : n ≤ 3) : VAL N σ gp (c + 13) (n + 1) := by
  intro e Kn hM K hK
  have hpl := plK_rg hK (n := (n : Int) + 1) (by omega)
  have hK1 := hK.1
  obtain ⟨c1, c2, c3, c4, c5, c6, c7, c8, c9⟩ := id hC
  have hkn := hM.1 (plK K ((n : Int) + 1)).toNat (by omega)
  have hg := gV_rg (σ gp) (σ 6 1) (σ 6 2) (n + 1) K
  have eg : gV (σ gp) (σ 6 1) (σ 6 2) (n + 1) K = mostF (σ gp) (σ 6 1) (σ 6 2) (gVσ σ gp n) K (-9) := by
    rw [gV]; unfold mostF; rw [if_pos rfl]
  have ec : ((n + 1 : Nat) : Int) = (n : Int) + 1 := by omega
  have hs2 := z_shr2 (x := Kn (plK K ((n : Int) + 1)).toNat) (by omega)
  have hs3 := z_and3I (x := Kn (plK K ((n : Int) + 1)).toNat) (by omega)
  by_cases q : Kn (plK K ((n : Int) + 1)).toNat / 4 = σ 6 4 0
  · refine ⟨Kn, ?_, hM⟩
    have h1 := hM.2 (n + 1) K (by omega) (by omega) hK (by rw [ec]; exact q)
    rw [ec] at h1
    rw [ec, ← h1]
    have e9 : e + (c + 13) = e + c + 13 := by omega
    rw [e9]
    simp (disch := first | omega | exact Nat.le_of_ble_eq_true rfl) only [e_R_valueIn, s_R_valueIn_0, s_R_valueIn_1, s_R_valueIn_2, s_R_valueIn_5, s_R_valueIn_6, s_R_valueIn_7, s_R_valueIn_10, s_R_valueIn_11, s_R_valueIn_12, s_R_valueIn_13, s_R_valueIn_14, s_R_valueIn_17, s_R_valueIn_18, s_R_valueIn_19, s_R_valueIn_22, s_R_valueIn_23, s_R_valueIn_26, s_R_valueIn_28, s_R_valueIn_30, s_R_valueIn_31, s_R_valueIn_32, s_R_valueIn_33, s_R_valueIn_36, s_R_valueIn_39, s_R_valueIn_41, s_R_valueIn_42, s_R_valueIn_43, s_R_valueIn_44, s_R_valueIn_45, s_R_valueIn_46, s_R_valueIn_47, s_R_valueIn_48, s_R_valueIn_50, s_R_valueIn_51, s_R_valueIn_54, s_R_valueIn_56, s_R_valueIn_57, s_R_valueIn_60, s_R_valueIn_61, s_R_valueIn_62, s_R_valueIn_65, s_R_valueIn_66, s_R_valueIn_67, s_R_valueIn_69, s_R_valueIn_70, s_R_valueIn_71, s_R_valueIn_72, s_R_valueIn_75, s_R_valueIn_77, Option.bind_some, Option.bind_none, Option.toList_some, Option.toList_none, List.cons_append, List.nil_append, if_true, if_false, rz_clr, true_or, or_true, z00, z11, bZ_eq0, bZ_eq1, nor_self, if_pos, if_neg, zI_add, zI_sub, zI_mul, zI_neg, zI_lt, zI_le, zI_eq, c_R, f_R_0, l_R_0, r_R_0, w_R_0, f_R_1, l_R_1, r_R_1, w_R_1, f_R_2, l_R_2, r_R_2, w_R_2, f_R_3, u_R_3, f_R_4, u_R_4, a_R_0, p_R_0, a_R_1, p_R_1, a_R_2, p_R_2, gat_in, z_placeOf, RS_0, RS_6, hs2, hs3, q]
  · obtain ⟨K1, h1, h2⟩ := z_mostN hN hC hv (by omega) hK e Kn hM
    refine ⟨zup K1 (plK K ((n : Int) + 1)).toNat (σ 6 4 0 * 4 + (mostF (σ gp) (σ 6 1) (σ 6 2) (gVσ σ gp n) K (-9) + 2)), ?_, ?_⟩
    · have hp := z_pack (mostF (σ gp) (σ 6 1) (σ 6 2) (gVσ σ gp n) K (-9)) (by rw [← eg]; exact hg) (σ 6 4 0) ⟨c8, c9⟩
      rw [ec, eg]
      have e9 : e + (c + 13) = e + c + 13 := by omega
      rw [e9]
      simp (disch := first | omega | exact Nat.le_of_ble_eq_true rfl) only [e_R_valueIn, s_R_valueIn_0, s_R_valueIn_1, s_R_valueIn_2, s_R_valueIn_5, s_R_valueIn_6, s_R_valueIn_7, s_R_valueIn_10, s_R_valueIn_11, s_R_valueIn_12, s_R_valueIn_13, s_R_valueIn_14, s_R_valueIn_17, s_R_valueIn_18, s_R_valueIn_19, s_R_valueIn_22, s_R_valueIn_23, s_R_valueIn_26, s_R_valueIn_28, s_R_valueIn_30, s_R_valueIn_31, s_R_valueIn_32, s_R_valueIn_33, s_R_valueIn_36, s_R_valueIn_39, s_R_valueIn_41, s_R_valueIn_42, s_R_valueIn_43, s_R_valueIn_44, s_R_valueIn_45, s_R_valueIn_46, s_R_valueIn_47, s_R_valueIn_48, s_R_valueIn_50, s_R_valueIn_51, s_R_valueIn_54, s_R_valueIn_56, s_R_valueIn_57, s_R_valueIn_60, s_R_valueIn_61, s_R_valueIn_62, s_R_valueIn_65, s_R_valueIn_66, s_R_valueIn_67, s_R_valueIn_69, s_R_valueIn_70, s_R_valueIn_71, s_R_valueIn_72, s_R_valueIn_75, s_R_valueIn_77, Option.bind_some, Option.bind_none, Option.toList_some, Option.toList_none, List.cons_append, List.nil_append, if_true, if_false, rz_clr, true_or, or_true, z00, z11, bZ_eq0, bZ_eq1, nor_self, if_pos, if_neg, zI_add, zI_sub, zI_mul, zI_neg, zI_lt, zI_le, zI_eq, c_R, f_R_0, l_R_0, r_R_0, w_R_0, f_R_1, l_R_1, r_R_1, w_R_1, f_R_2, l_R_2, r_R_2, w_R_2, f_R_3, u_R_3, f_R_4, u_R_4, a_R_0, p_R_0, a_R_1, p_R_1, a_R_2, p_R_2, gat_in, pup_in, z_placeOf, RS_0, RS_6, hs2, h1, hp, RS_put]
    · have hgm : -1 ≤ mostF (σ gp) (σ 6 1) (σ 6 2) (gVσ σ gp n) K (-9) ∧ mostF (σ gp) (σ 6 1) (σ 6 2) (gVσ σ gp n) K (-9) ≤ 1 := by rw [← eg]; exact hg
      refine ⟨fun i hi => ?_, fun n' K' h3 h4 h5 h6 => ?_⟩
      · unfold zup
        by_cases hi2 : i = (plK K ((n : Int) + 1)).toNat
        · rw [if_pos hi2]; omega
        · rw [if_neg hi2]; exact h2.1 i hi
      · unfold zup at h6 ⊢
        have hpl' := plK_rg h5 (n := (n' : Int)) (by omega)
        by_cases hi2 : (plK K' n').toNat = (plK K ((n : Int) + 1)).toNat
        · rw [if_pos hi2]
          obtain ⟨e1, e2⟩ := plK_inj h5 hK (by omega : plK K' n' = plK K ((n : Int) + 1))
          have e3 : n' = n + 1 := by omega
          subst e1; subst e3
          rw [eg]
          omega
        · rw [if_neg hi2] at h6 ⊢
          exact h2.2 n' K' h3 h4 h5 h6
theorem z_val0 (hN : 48 ≤ N) : VAL N σ gp 6 0 := by
  intro e Kn hM K hK
  refine ⟨Kn, ?_, hM⟩
  have e0 : ((0 : Nat) : Int) = 0 := rfl
  rw [e0]
  simp (disch := first | omega | exact Nat.le_of_ble_eq_true rfl) only [e_R_valueIn, s_R_valueIn_0, s_R_valueIn_1, s_R_valueIn_2, s_R_valueIn_5, s_R_valueIn_6, s_R_valueIn_7, s_R_valueIn_10, s_R_valueIn_11, s_R_valueIn_12, s_R_valueIn_13, s_R_valueIn_14, s_R_valueIn_17, s_R_valueIn_18, s_R_valueIn_19, s_R_valueIn_22, s_R_valueIn_23, s_R_valueIn_26, s_R_valueIn_28, s_R_valueIn_30, s_R_valueIn_31, s_R_valueIn_32, s_R_valueIn_33, s_R_valueIn_36, s_R_valueIn_39, s_R_valueIn_41, s_R_valueIn_42, s_R_valueIn_43, s_R_valueIn_44, s_R_valueIn_45, s_R_valueIn_46, s_R_valueIn_47, s_R_valueIn_48, s_R_valueIn_50, s_R_valueIn_51, s_R_valueIn_54, s_R_valueIn_56, s_R_valueIn_57, s_R_valueIn_60, s_R_valueIn_61, s_R_valueIn_62, s_R_valueIn_65, s_R_valueIn_66, s_R_valueIn_67, s_R_valueIn_69, s_R_valueIn_70, s_R_valueIn_71, s_R_valueIn_72, s_R_valueIn_75, s_R_valueIn_77, Option.bind_some, Option.bind_none, Option.toList_some, Option.toList_none, List.cons_append, List.nil_append, if_true, if_false, rz_clr, true_or, or_true, z00, z11, bZ_eq0, bZ_eq1, nor_self, if_pos, if_neg, zI_add, zI_sub, zI_mul, zI_neg, zI_lt, zI_le, zI_eq]
  rfl
theorem z_val (hN : 48 ≤ N) (hC : RC σ gp) : ∀ n, n ≤ 4 → VAL N σ gp (7 * n + 6) n := by
  intro n
  induction n with
  | zero => intro _; exact z_val0 hN
  | succ n ih =>
    intro h
    have := z_valueIn_step hN hC (ih (by omega)) (by omega)
    rw [show 7 * n + 13 = 7 * (n + 1) + 6 by omega] at this
    exact this
end RK3
