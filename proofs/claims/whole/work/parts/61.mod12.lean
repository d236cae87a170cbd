-- the model: rounds
theorem b65535 : ∀ i, i < 32 → (65535#32).getLsbD i = decide (i < 16) := by decide
theorem and16 (x : BitVec 32) : (x.sshiftRight 16) &&& 65535#32 = x >>> 16 := by
  apply BitVec.eq_of_getLsbD_eq
  intro i hi
  rw [BitVec.getLsbD_and, BitVec.getLsbD_sshiftRight, BitVec.getLsbD_ushiftRight, b65535 i hi]
  by_cases c : i < 16
  · have c2 : 16 + i < 32 := by omega
    have c3 : ¬ 32 ≤ i := by omega
    simp [c, c2, c3]
  · have c2 : 32 ≤ 16 + i := by omega
    have c3 : ¬ 16 + i < 32 := by omega
    simp [c, BitVec.getLsbD_of_ge _ _ c2]
theorem sh16a : ((zI 16 &&& 31).toBitVec.smod 32).toNat = 16 ∧ (((zI 16).toUInt32 &&& Int32.toUInt32 31).toBitVec % 32).toNat = 16 := by decide +kernel
theorem shr16 (c : Int) : (zI c >>> (zI 16 &&& 31)) &&& zI 65535 = zI (hi16 c) := by
  rw [← ush16]
  unfold ush
  apply Int32.toBitVec_inj.mp
  rw [Int32.toBitVec_and, Int32.toBitVec_shiftRight, UInt32.toBitVec_toInt32, UInt32.toBitVec_shiftRight, Int32.toBitVec_toUInt32, BitVec.sshiftRight_eq', sh16a.1, BitVec.ushiftRight_eq', sh16a.2]
  exact and16 (zI c).toBitVec
section ML
variable {N : Nat} {σ : zS} {p q : zP}
theorem nB_ext (S : Nat → Bool) : ∀ (n m k : Nat) (b r : Int), b ≤ r → r - b < cF S n k → nB S (n + m) k b r = nB S n k b r := by
  intro n
  induction n with
  | zero => intro m k b r h1 h2; rw [cF] at h2; omega
  | succ n ih =>
    intro m k b r h1 h2
    rw [show n + 1 + m = (n + m) + 1 by omega, nB, nB]
    rw [cF] at h2
    by_cases c : S k = true
    · rw [if_pos c] at h2 ⊢
      rw [if_pos c]
      by_cases e : b = r
      · rw [if_pos e, if_pos e]
      · rw [if_neg e, if_neg e]
        exact ih m (k + 1) (b + 1) r (by omega) (by omega)
    · rw [if_neg c] at h2 ⊢
      rw [if_neg c]
      exact ih m (k + 1) b r h1 (by omega)
theorem z_Mpick_lp (d : Nat) {mb : Nat} (hmb : mb < 256) {r : Int} (hr : 0 ≤ r ∧ r < 1000) (w : rz_W) (l0 l1 l2 l3 l4 l5 : Option Value) (x7 : Int32) (l10 : Option Value) : ∀ (n k : Nat), n + k = 8 → ∀ b : Int, 0 ≤ b ∧ b ≤ r → r - b < cF (fun i => mb.testBit i) n k → ∃ l8', rz_den (rz_dM d) (rz_at tb_X5_walks) (some .int) 115 [l0, l1, l2, l3, l4, l5, some (.int (zI mb)), some (.int x7), some (.int (zI (r - b))), some (.int (zI k)), l10] [] w = rz_den (rz_dM d) (rz_at tb_X5_walks) (some .int) 148 [l0, l1, l2, l3, l4, l5, some (.int (zI mb)), some (.int x7), l8', some (.int (zI (nB (fun i => mb.testBit i) n k b r))), l10] [] w := by
  intro n
  induction n with
  | zero => intro k hk b h1 h2; rw [cF] at h2; omega
  | succ n ih =>
    intro k hk b h1 h2
    rw [cF] at h2
    have hsh := z_shr (b := mb) (i := k) (by omega) (by omega)
    have hand := z_and1 (mb / 2 ^ k) (Nat.lt_of_le_of_lt (Nat.div_le_self _ _) (by omega))
    rw [tb_div] at hand
    rw [s_M_walks_115, nB]
    by_cases c : mb.testBit k = true
    · rw [if_pos (show (fun i => mb.testBit i) k = true from c)] at h2 ⊢
      rw [if_pos c, Int.natCast_one] at hand
      by_cases e : b = r
      · rw [if_pos e]
        refine ⟨some (.int (zI (r - b))), ?_⟩
        simp (disch := first | omega | exact Nat.le_of_ble_eq_true rfl) only [e_M_walks, s_M_walks_0, s_M_walks_1, s_M_walks_4, s_M_walks_6, s_M_walks_7, s_M_walks_8, s_M_walks_9, s_M_walks_12, s_M_walks_14, s_M_walks_15, s_M_walks_16, s_M_walks_17, s_M_walks_18, s_M_walks_19, s_M_walks_21, s_M_walks_23, s_M_walks_25, s_M_walks_28, s_M_walks_29, s_M_walks_30, s_M_walks_31, s_M_walks_33, s_M_walks_34, s_M_walks_36, s_M_walks_38, s_M_walks_41, s_M_walks_42, s_M_walks_45, s_M_walks_46, s_M_walks_48, s_M_walks_51, s_M_walks_52, s_M_walks_55, s_M_walks_56, s_M_walks_59, s_M_walks_61, s_M_walks_63, s_M_walks_65, s_M_walks_67, s_M_walks_70, s_M_walks_71, s_M_walks_74, s_M_walks_76, s_M_walks_77, s_M_walks_80, s_M_walks_82, s_M_walks_83, s_M_walks_85, s_M_walks_86, s_M_walks_89, s_M_walks_90, s_M_walks_91, s_M_walks_92, s_M_walks_95, s_M_walks_97, s_M_walks_98, s_M_walks_100, s_M_walks_101, s_M_walks_103, s_M_walks_104, s_M_walks_106, s_M_walks_109, s_M_walks_110, s_M_walks_112, s_M_walks_113, s_M_walks_117, s_M_walks_119, s_M_walks_120, s_M_walks_121, s_M_walks_122, s_M_walks_125, s_M_walks_127, s_M_walks_130, s_M_walks_132, s_M_walks_134, s_M_walks_136, s_M_walks_137, s_M_walks_138, s_M_walks_139, s_M_walks_140, s_M_walks_142, s_M_walks_145, s_M_walks_149, s_M_walks_150, s_M_walks_153, s_M_walks_155, s_M_walks_156, s_M_walks_158, s_M_walks_161, s_M_walks_162, s_M_walks_165, s_M_walks_166, s_M_walks_168, s_M_walks_171, s_M_walks_173, s_M_walks_175, s_M_walks_178, s_M_walks_180, s_M_walks_183, s_M_walks_184, s_M_walks_185, s_M_walks_187, s_M_walks_190, s_M_walks_191, s_M_walks_194, s_M_walks_196, s_M_walks_197, s_M_walks_198, s_M_walks_201, s_M_walks_202, s_M_walks_204, s_M_walks_205, s_M_walks_206, s_M_walks_207, s_M_walks_210, s_M_walks_212, s_M_walks_215, s_M_walks_216, s_M_walks_219, s_M_walks_220, s_M_walks_221, s_M_walks_223, s_M_walks_224, s_M_walks_227, s_M_walks_229, s_M_walks_230, s_M_walks_233, s_M_walks_235, s_M_walks_238, s_M_walks_239, s_M_walks_242, s_M_walks_243, s_M_walks_244, s_M_walks_245, s_M_walks_248, s_M_walks_249, s_M_walks_251, s_M_walks_252, s_M_walks_253, s_M_walks_254, s_M_walks_257, s_M_walks_258, s_M_walks_261, s_M_walks_263, s_M_walks_265, s_M_walks_267, s_M_walks_268, s_M_walks_271, s_M_walks_274, s_M_walks_275, Option.bind_some, Option.bind_none, Option.toList_some, Option.toList_none, List.cons_append, List.nil_append, if_true, if_false, rz_clr, true_or, or_true, z00, z11, bZ_eq0, bZ_eq1, nor_self, if_pos, if_neg, zI_lt, zI_le, zI_eq, hsh, hand]
      · rw [if_neg e]
        obtain ⟨l8', ih'⟩ := ih (k + 1) (by omega) (b + 1) (by omega) (by omega)
        simp only [Int.natCast_add, Int.natCast_one] at ih'
        refine ⟨l8', ?_⟩
        rw [show r - (b + 1) = r - b - 1 by omega] at ih'
        simp (disch := first | omega | exact Nat.le_of_ble_eq_true rfl) only [e_M_walks, s_M_walks_0, s_M_walks_1, s_M_walks_4, s_M_walks_6, s_M_walks_7, s_M_walks_8, s_M_walks_9, s_M_walks_12, s_M_walks_14, s_M_walks_15, s_M_walks_16, s_M_walks_17, s_M_walks_18, s_M_walks_19, s_M_walks_21, s_M_walks_23, s_M_walks_25, s_M_walks_28, s_M_walks_29, s_M_walks_30, s_M_walks_31, s_M_walks_33, s_M_walks_34, s_M_walks_36, s_M_walks_38, s_M_walks_41, s_M_walks_42, s_M_walks_45, s_M_walks_46, s_M_walks_48, s_M_walks_51, s_M_walks_52, s_M_walks_55, s_M_walks_56, s_M_walks_59, s_M_walks_61, s_M_walks_63, s_M_walks_65, s_M_walks_67, s_M_walks_70, s_M_walks_71, s_M_walks_74, s_M_walks_76, s_M_walks_77, s_M_walks_80, s_M_walks_82, s_M_walks_83, s_M_walks_85, s_M_walks_86, s_M_walks_89, s_M_walks_90, s_M_walks_91, s_M_walks_92, s_M_walks_95, s_M_walks_97, s_M_walks_98, s_M_walks_100, s_M_walks_101, s_M_walks_103, s_M_walks_104, s_M_walks_106, s_M_walks_109, s_M_walks_110, s_M_walks_112, s_M_walks_113, s_M_walks_117, s_M_walks_119, s_M_walks_120, s_M_walks_121, s_M_walks_122, s_M_walks_125, s_M_walks_127, s_M_walks_130, s_M_walks_132, s_M_walks_134, s_M_walks_136, s_M_walks_137, s_M_walks_138, s_M_walks_139, s_M_walks_140, s_M_walks_142, s_M_walks_145, s_M_walks_149, s_M_walks_150, s_M_walks_153, s_M_walks_155, s_M_walks_156, s_M_walks_158, s_M_walks_161, s_M_walks_162, s_M_walks_165, s_M_walks_166, s_M_walks_168, s_M_walks_171, s_M_walks_173, s_M_walks_175, s_M_walks_178, s_M_walks_180, s_M_walks_183, s_M_walks_184, s_M_walks_185, s_M_walks_187, s_M_walks_190, s_M_walks_191, s_M_walks_194, s_M_walks_196, s_M_walks_197, s_M_walks_198, s_M_walks_201, s_M_walks_202, s_M_walks_204, s_M_walks_205, s_M_walks_206, s_M_walks_207, s_M_walks_210, s_M_walks_212, s_M_walks_215, s_M_walks_216, s_M_walks_219, s_M_walks_220, s_M_walks_221, s_M_walks_223, s_M_walks_224, s_M_walks_227, s_M_walks_229, s_M_walks_230, s_M_walks_233, s_M_walks_235, s_M_walks_238, s_M_walks_239, s_M_walks_242, s_M_walks_243, s_M_walks_244, s_M_walks_245, s_M_walks_248, s_M_walks_249, s_M_walks_251, s_M_walks_252, s_M_walks_253, s_M_walks_254, s_M_walks_257, s_M_walks_258, s_M_walks_261, s_M_walks_263, s_M_walks_265, s_M_walks_267, s_M_walks_268, s_M_walks_271, s_M_walks_274, s_M_walks_275, Option.bind_some, Option.bind_none, Option.toList_some, Option.toList_none, List.cons_append, List.nil_append, if_true, if_false, rz_clr, true_or, or_true, z00, z11, bZ_eq0, bZ_eq1, nor_self, if_pos, if_neg, zI_add, zI_sub, zI_mul, zI_neg, zI_lt, zI_le, zI_eq, hsh, hand, ih']
    · rw [if_neg (show ¬ (fun i => mb.testBit i) k = true from c)] at h2 ⊢
      rw [if_neg c, Int.natCast_zero] at hand
      obtain ⟨l8', ih'⟩ := ih (k + 1) (by omega) b (by omega) (by omega)
      simp only [Int.natCast_add, Int.natCast_one] at ih'
      refine ⟨l8', ?_⟩
      have e0 : zI (r - b) - zI 0 = zI (r - b) := by rw [zI_sub, Int.sub_zero]
      simp (disch := first | omega | exact Nat.le_of_ble_eq_true rfl) only [e_M_walks, s_M_walks_0, s_M_walks_1, s_M_walks_4, s_M_walks_6, s_M_walks_7, s_M_walks_8, s_M_walks_9, s_M_walks_12, s_M_walks_14, s_M_walks_15, s_M_walks_16, s_M_walks_17, s_M_walks_18, s_M_walks_19, s_M_walks_21, s_M_walks_23, s_M_walks_25, s_M_walks_28, s_M_walks_29, s_M_walks_30, s_M_walks_31, s_M_walks_33, s_M_walks_34, s_M_walks_36, s_M_walks_38, s_M_walks_41, s_M_walks_42, s_M_walks_45, s_M_walks_46, s_M_walks_48, s_M_walks_51, s_M_walks_52, s_M_walks_55, s_M_walks_56, s_M_walks_59, s_M_walks_61, s_M_walks_63, s_M_walks_65, s_M_walks_67, s_M_walks_70, s_M_walks_71, s_M_walks_74, s_M_walks_76, s_M_walks_77, s_M_walks_80, s_M_walks_82, s_M_walks_83, s_M_walks_85, s_M_walks_86, s_M_walks_89, s_M_walks_90, s_M_walks_91, s_M_walks_92, s_M_walks_95, s_M_walks_97, s_M_walks_98, s_M_walks_100, s_M_walks_101, s_M_walks_103, s_M_walks_104, s_M_walks_106, s_M_walks_109, s_M_walks_110, s_M_walks_112, s_M_walks_113, s_M_walks_117, s_M_walks_119, s_M_walks_120, s_M_walks_121, s_M_walks_122, s_M_walks_125, s_M_walks_127, s_M_walks_130, s_M_walks_132, s_M_walks_134, s_M_walks_136, s_M_walks_137, s_M_walks_138, s_M_walks_139, s_M_walks_140, s_M_walks_142, s_M_walks_145, s_M_walks_149, s_M_walks_150, s_M_walks_153, s_M_walks_155, s_M_walks_156, s_M_walks_158, s_M_walks_161, s_M_walks_162, s_M_walks_165, s_M_walks_166, s_M_walks_168, s_M_walks_171, s_M_walks_173, s_M_walks_175, s_M_walks_178, s_M_walks_180, s_M_walks_183, s_M_walks_184, s_M_walks_185, s_M_walks_187, s_M_walks_190, s_M_walks_191, s_M_walks_194, s_M_walks_196, s_M_walks_197, s_M_walks_198, s_M_walks_201, s_M_walks_202, s_M_walks_204, s_M_walks_205, s_M_walks_206, s_M_walks_207, s_M_walks_210, s_M_walks_212, s_M_walks_215, s_M_walks_216, s_M_walks_219, s_M_walks_220, s_M_walks_221, s_M_walks_223, s_M_walks_224, s_M_walks_227, s_M_walks_229, s_M_walks_230, s_M_walks_233, s_M_walks_235, s_M_walks_238, s_M_walks_239, s_M_walks_242, s_M_walks_243, s_M_walks_244, s_M_walks_245, s_M_walks_248, s_M_walks_249, s_M_walks_251, s_M_walks_252, s_M_walks_253, s_M_walks_254, s_M_walks_257, s_M_walks_258, s_M_walks_261, s_M_walks_263, s_M_walks_265, s_M_walks_267, s_M_walks_268, s_M_walks_271, s_M_walks_274, s_M_walks_275, Option.bind_some, Option.bind_none, Option.toList_some, Option.toList_none, List.cons_append, List.nil_append, if_true, if_false, rz_clr, true_or, or_true, z00, z11, bZ_eq0, bZ_eq1, nor_self, if_pos, if_neg, zI_add, zI_lt, zI_le, zI_eq, hsh, hand, e0, ih']
/-- the model, its lot so -/
def mL (m : zP) (c : Int) : zP := pset m 10 (zup (m 10) 8 c)
theorem mL_ne {m : zP} {c : Int} {k : Nat} (h : k ≠ 10) : mL m c k = m k := pset_ne h
theorem zup_zup (f : Nat → Int) (k : Nat) (a b : Int) : zup (zup f k a) k b = zup f k b := by
  funext j
  by_cases c : j = k
  · rw [c, zup_eq, zup_eq]
  · rw [zup_ne c, zup_ne c, zup_ne c]
theorem mL_mL (m : zP) (c c' : Int) : pset (mL m c) 10 (zup (mL m c 10) (8 : Int).toNat c') = mL m c' := by
  unfold mL
  rw [pset_eq, pset_pset]
  show pset m 10 (zup (zup (m 10) 8 c) 8 c') = _
  rw [zup_zup]
theorem lotN_done {p : zP} (n : Nat) {q : zP} (h : q 5 0 ≠ 0) : lotN p n q = q := by
  cases n with
  | zero => rfl
  | succ n => rw [lotN, if_neg h]
theorem goOn_f (q : zP) : goOnW q 0 = q 0 ∧ goOnW q 2 = q 2 ∧ goOnW q 6 = q 6 ∧ goOnW q 4 0 = q 4 0 + 1 ∧ goOnW q 5 0 = (if q 5 0 = 0 ∧ 99 ≤ q 4 0 + 1 then 3 else q 5 0) := by
  unfold goOnW
  by_cases c : q 5 0 = 0 ∧ 99 ≤ q 4 0 + 1
  · rw [if_pos c, if_pos c]; exact ⟨rfl, rfl, rfl, rfl, rfl⟩
  · rw [if_neg c, if_neg c]; exact ⟨rfl, rfl, rfl, rfl, rfl⟩
theorem wonW_3 {q : zP} (h : q 5 0 = 0 ∨ q 5 0 = 3) : wonW q = 0 := by
  unfold wonW
  rw [if_neg (by omega), if_neg (by omega)]
theorem z_MmayBeQ (d : Nat) (hN : 60 ≤ N) (hm : tlR (σ 10 9) 0 p) (hw : wfP p) (hl : lkP p) (h16 : ∀ j : Nat, j < 2 → σ 10 16 j = p 6 j) (hq : wfW q p) {j : Int} (hj : 0 ≤ j ∧ j < 2) : rz_dM (d + 3) iM_mayBe [.ref (bs 10), .int (zI j), .int (zI (q 0 j.toNat)), .int (zI (q 0 (1 - j).toNat))] (wOf N σ) = some (some (.int (zI (mayW q p j : Nat))), wOf N σ) := by
  have ha := wfP_area hw
  obtain ⟨u, hu, hu3⟩ := use_nat hw hj
  have hq0 := (hq.1 j.toNat (by omega)).1
  have hq1 := (hq.1 (1 - j).toNat (by omega)).1
  obtain ⟨own, ho⟩ : ∃ n : Nat, q 0 j.toNat = n := ⟨(q 0 j.toNat).toNat, by omega⟩
  have h := z_MmayBe (N := N) (σ := σ) d hN hm hw hl (j := j.toNat) (u := u) (own := own) (by omega) (by rw [h16 _ (by omega)]; exact hu) hu3 (by omega) (oth := q 0 (1 - j).toNat) (by omega)
  unfold mayW
  rw [mayP_law hw hj, hu, ho]
  rw [show ((j.toNat : Nat) : Int) = j by omega] at h
  exact h
theorem stepQ_f (q p : zP) (to : Int) : stepQ q p to 6 = q 6 ∧ stepQ q p to 4 = q 4 ∧ stepQ q p to 0 = zup (q 0) (1 - q 2 0).toNat to ∧ (p 0 to.toNat = 1 → stepQ q p to 5 0 = if 1 - q 2 0 = 0 then 2 else 1) ∧ (p 0 to.toNat ≠ 1 → to = p 5 (1 - q 2 0).toNat → stepQ q p to 5 0 = if 1 - q 2 0 = 0 then 1 else 2) ∧ (p 0 to.toNat ≠ 1 → to ≠ p 5 (1 - q 2 0).toNat → stepQ q p to 5 0 = q 5 0 ∧ stepQ q p to 2 0 = if p 0 to.toNat = 2 then q 2 0 else 1 - q 2 0) := by
  by_cases c1 : p 0 to.toNat = 1
  · have hf : ftP p to (p 5 (1 - q 2 0).toNat) = 3 := by unfold ftP; rw [if_pos c1]
    have hq : stepQ q p to = pset (pset q 0 (zup (q 0) (1 - q 2 0).toNat to)) 5 (fun _ => if 1 - q 2 0 = 0 then 2 else 1) := by unfold stepQ; rw [if_pos hf]
    rw [hq]
    exact ⟨rfl, rfl, rfl, fun _ => rfl, fun z => absurd c1 z, fun z => absurd c1 z⟩
  · by_cases c2 : to = p 5 (1 - q 2 0).toNat
    · have hf : ftP p to (p 5 (1 - q 2 0).toNat) = 2 := by unfold ftP; rw [if_neg c1, if_pos c2]
      have hq : stepQ q p to = pset (pset q 0 (zup (q 0) (1 - q 2 0).toNat to)) 5 (fun _ => if 1 - q 2 0 = 0 then 1 else 2) := by unfold stepQ; rw [if_neg (by rw [hf]; decide), if_pos hf]
      rw [hq]
      exact ⟨rfl, rfl, rfl, fun z => absurd z c1, fun _ _ => rfl, fun _ z => absurd c2 z⟩
    · by_cases c3 : p 0 to.toNat = 2
      · have hf : ftP p to (p 5 (1 - q 2 0).toNat) = 1 := by unfold ftP; rw [if_neg c1, if_neg c2, if_pos c3]
        have hq : stepQ q p to = pset q 0 (zup (q 0) (1 - q 2 0).toNat to) := by unfold stepQ; rw [if_neg (by rw [hf]; decide), if_neg (by rw [hf]; decide), if_neg (by rw [hf]; decide)]
        rw [hq]
        exact ⟨rfl, rfl, rfl, fun z => absurd z c1, fun _ z => absurd z c2, fun _ _ => ⟨rfl, by rw [if_pos c3]; rfl⟩⟩
      · have hf : ftP p to (p 5 (1 - q 2 0).toNat) = 0 := by unfold ftP; rw [if_neg c1, if_neg c2, if_neg c3]
        have hq : stepQ q p to = pset (pset q 0 (zup (q 0) (1 - q 2 0).toNat to)) 2 (fun _ => 1 - q 2 0) := by unfold stepQ; rw [if_neg (by rw [hf]; decide), if_neg (by rw [hf]; decide), if_pos hf]
        rw [hq]
        exact ⟨rfl, rfl, rfl, fun z => absurd z c1, fun _ z => absurd z c2, fun _ _ => ⟨rfl, by rw [if_neg c3]; rfl⟩⟩
theorem lot_step {q p : zP} (hw : wfP p) (hl : lkP p) (hq : wfW q p) (h5 : q 5 0 = 0) (h0 : mayW q p (1 - q 2 0) ≠ 0) : ∃ (j : Nat) (to : Int), lotK q p = j ∧ j < 8 ∧ stepTo q p j = to ∧ (0 ≤ to ∧ to < p 8 0 * p 9 0) ∧ lotS q p = goOnW (stepQ (pset q 6 (fun _ => lotC (q 6 0))) p to) := by
  obtain ⟨j, j1, j2, j3⟩ := lotK_spec h0
  have hto := may_to j3
  have hmm : 0 ≤ 1 - q 2 0 ∧ 1 - q 2 0 < 2 := by have := hq.2.1; omega
  have hq0 := (hq.1 (1 - q 2 0).toNat (by omega)).1
  refine ⟨j, stepTo q p j, j1, j2, rfl, ?_, ?_⟩
  · unfold stepTo at hto ⊢
    have := ldP_rg hw hl (l := lawP p (1 - q 2 0)) (c := q 0 (1 - q 2 0).toNat) hq0 j2
    omega
  · unfold lotS
    rw [if_neg h0, j1, Int.toNat_natCast]
    unfold stepW
    have e : stepTo (pset q 6 (fun _ => lotC (q 6 0))) p j = stepTo q p j := rfl
    rw [e, if_neg hto]
theorem z_Mwalk_lp (d : Nat) (hN : 60 ≤ N) (hm : tlR (σ 10 9) 0 p) (hw : wfP p) (hl : lkP p) (h16 : ∀ j : Nat, j < 2 → σ 10 16 j = p 6 j) (h15 : ∀ j : Nat, j < 2 → σ 10 15 j = p 5 j) : ∀ (n k : Nat) (q : zP), n + k = 99 → wfW q p → (0 < n → q 5 0 = 0) → (q 5 0 = 0 ∨ q 5 0 = 3) → q 4 0 = k → ∀ l5 l6 l7 l8 l9 l10, rz_den (rz_dM (d + 3)) (rz_at tb_X5_walks) (some .int) 21 [some (.ref (bs 10)), some (.int (zI (q 0 0))), some (.int (zI (q 0 1))), some (.int (zI (q 2 0))), some (.int (zI k)), l5, l6, l7, l8, l9, l10] [] (wOf N (gset σ 10 (mL (σ 10) (q 6 0)))) = some (some (.int (zI (wonW (lotN p n q)))), wOf N (gset σ 10 (mL (σ 10) (lotN p n q 6 0)))) := by
  have ha := wfP_area hw
  intro n
  induction n with
  | zero =>
    intro k q hk hq h5 h5' h4 l5 l6 l7 l8 l9 l10
    obtain rfl : k = 99 := by omega
    rw [s_M_walks_21, lotN, wonW_3 h5']
    simp (disch := first | omega | exact Nat.le_of_ble_eq_true rfl) only [e_M_walks, s_M_walks_0, s_M_walks_1, s_M_walks_4, s_M_walks_6, s_M_walks_7, s_M_walks_8, s_M_walks_9, s_M_walks_12, s_M_walks_14, s_M_walks_15, s_M_walks_16, s_M_walks_17, s_M_walks_18, s_M_walks_19, s_M_walks_23, s_M_walks_25, s_M_walks_28, s_M_walks_29, s_M_walks_30, s_M_walks_31, s_M_walks_33, s_M_walks_34, s_M_walks_36, s_M_walks_38, s_M_walks_41, s_M_walks_42, s_M_walks_45, s_M_walks_46, s_M_walks_48, s_M_walks_51, s_M_walks_52, s_M_walks_55, s_M_walks_56, s_M_walks_59, s_M_walks_61, s_M_walks_63, s_M_walks_65, s_M_walks_67, s_M_walks_70, s_M_walks_71, s_M_walks_74, s_M_walks_76, s_M_walks_77, s_M_walks_80, s_M_walks_82, s_M_walks_83, s_M_walks_85, s_M_walks_86, s_M_walks_89, s_M_walks_90, s_M_walks_91, s_M_walks_92, s_M_walks_95, s_M_walks_97, s_M_walks_98, s_M_walks_100, s_M_walks_101, s_M_walks_103, s_M_walks_104, s_M_walks_106, s_M_walks_109, s_M_walks_110, s_M_walks_112, s_M_walks_113, s_M_walks_117, s_M_walks_119, s_M_walks_120, s_M_walks_121, s_M_walks_122, s_M_walks_125, s_M_walks_127, s_M_walks_130, s_M_walks_132, s_M_walks_134, s_M_walks_136, s_M_walks_137, s_M_walks_138, s_M_walks_139, s_M_walks_140, s_M_walks_142, s_M_walks_145, s_M_walks_148, s_M_walks_149, s_M_walks_150, s_M_walks_153, s_M_walks_155, s_M_walks_156, s_M_walks_158, s_M_walks_161, s_M_walks_162, s_M_walks_165, s_M_walks_166, s_M_walks_168, s_M_walks_171, s_M_walks_173, s_M_walks_175, s_M_walks_178, s_M_walks_180, s_M_walks_183, s_M_walks_184, s_M_walks_185, s_M_walks_187, s_M_walks_190, s_M_walks_191, s_M_walks_194, s_M_walks_196, s_M_walks_197, s_M_walks_198, s_M_walks_201, s_M_walks_202, s_M_walks_204, s_M_walks_205, s_M_walks_206, s_M_walks_207, s_M_walks_210, s_M_walks_212, s_M_walks_215, s_M_walks_216, s_M_walks_219, s_M_walks_220, s_M_walks_221, s_M_walks_223, s_M_walks_224, s_M_walks_227, s_M_walks_229, s_M_walks_230, s_M_walks_233, s_M_walks_235, s_M_walks_238, s_M_walks_239, s_M_walks_242, s_M_walks_243, s_M_walks_244, s_M_walks_245, s_M_walks_248, s_M_walks_249, s_M_walks_251, s_M_walks_252, s_M_walks_253, s_M_walks_254, s_M_walks_257, s_M_walks_258, s_M_walks_261, s_M_walks_263, s_M_walks_265, s_M_walks_267, s_M_walks_268, s_M_walks_271, s_M_walks_274, s_M_walks_275, Option.bind_some, Option.bind_none, Option.toList_some, Option.toList_none, List.cons_append, List.nil_append, if_true, if_false, rz_clr, true_or, or_true, z00, z11, bZ_eq0, bZ_eq1, nor_self, if_pos, if_neg, zI_add, zI_sub, zI_mul, zI_neg, zI_lt, zI_le, zI_eq]
  | succ n ih =>
    intro k q hk hq h5 h5' h4 l5 l6 l7 l8 l9 l10
    have h50 := h5 (by omega)
    have hq2 := hq.2.1
    have hmm : 0 ≤ 1 - q 2 0 ∧ 1 - q 2 0 < 2 := by omega
    have hbe := fun c => z_MmayBeQ (N := N) (σ := gset σ 10 (mL (σ 10) c)) d hN (p := p) (q := q) (by rw [gset_at, mL_ne (by decide)]; exact hm) hw hl (by rw [gset_at, mL_ne (by decide)]; exact h16) hq hmm
    have hlt := mayW_lt q p (1 - q 2 0)
    have hon := fun w => z_Mones (d + 2) hlt w
    have hlS := wfW_lotS hw hl hq h50
    have e8 : ∀ c, mL (σ 10) c 10 (8 : Int).toNat = c := fun c => by unfold mL; rw [pset_eq]; exact zup_eq _ _ _
    have hlc : q 6 0 * 1103515245 + 12345 = lotC (q 6 0) := rfl
    have f16 : ∀ c, mL (σ 10) c 16 (1 - q 2 0).toNat = p 6 (1 - q 2 0).toNat := fun c => by rw [mL_ne (by decide)]; exact h16 _ (by omega)
    have f15 : ∀ c, mL (σ 10) c 15 (1 - q 2 0).toNat = p 5 (1 - q 2 0).toNat := fun c => by rw [mL_ne (by decide)]; exact h15 _ (by omega)
    have hx0 := (hq.1 0 (by decide)).1
    have hx1 := (hq.1 1 (by decide)).1
    have hp5 := (hw.2.2.2 (1 - q 2 0).toNat (by omega)).2.1
    rw [s_M_walks_21, lotN, if_pos h50]
    by_cases h0 : mayW q p (1 - q 2 0) = 0
    · have eS : lotS q p = passW q := by unfold lotS; rw [if_pos h0]
      obtain ⟨g0, g2, g6, g4, g5⟩ := goOn_f (pset q 2 (fun _ => 1 - q 2 0))
      have p0 : passW q 0 = q 0 := g0
      have p2 : passW q 2 0 = 1 - q 2 0 := by unfold passW; rw [g2, pset_eq]
      have p6 : passW q 6 0 = q 6 0 := by unfold passW; rw [g6, pset_ne (by decide)]
      have p4 : passW q 4 0 = (k : Int) + 1 := by unfold passW; rw [g4, pset_ne (by decide), h4]
      have p5 : passW q 5 0 = if q 5 0 = 0 ∧ 99 ≤ q 4 0 + 1 then 3 else q 5 0 := by unfold passW; rw [g5, pset_ne (by decide), pset_ne (by decide)]
      rw [h50, h4] at p5
      rw [eS] at hlS ⊢
      have ih' := ih (k + 1) (passW q) (by omega) hlS (fun _ => by rw [p5, if_neg (by omega)]) (by rw [p5]; split <;> omega) (by rw [p4]; rfl)
      rw [p0, p2, p6] at ih'
      simp only [Int.natCast_add, Int.natCast_one] at ih'
      rw [h0, Int.natCast_zero] at hbe
      by_cases hz : 1 - q 2 0 = 0
      · have z0 : (1 - q 2 0).toNat = 0 := by omega
        have z1 : (1 - (1 - q 2 0)).toNat = 1 := by omega
        rw [z0, z1] at hbe
        simp (disch := first | omega | exact Nat.le_of_ble_eq_true rfl) only [e_M_walks, s_M_walks_0, s_M_walks_1, s_M_walks_4, s_M_walks_6, s_M_walks_7, s_M_walks_8, s_M_walks_9, s_M_walks_12, s_M_walks_14, s_M_walks_15, s_M_walks_16, s_M_walks_17, s_M_walks_18, s_M_walks_19, s_M_walks_23, s_M_walks_25, s_M_walks_28, s_M_walks_29, s_M_walks_30, s_M_walks_31, s_M_walks_33, s_M_walks_34, s_M_walks_36, s_M_walks_38, s_M_walks_41, s_M_walks_42, s_M_walks_45, s_M_walks_46, s_M_walks_48, s_M_walks_51, s_M_walks_52, s_M_walks_55, s_M_walks_56, s_M_walks_59, s_M_walks_61, s_M_walks_63, s_M_walks_65, s_M_walks_67, s_M_walks_70, s_M_walks_71, s_M_walks_74, s_M_walks_76, s_M_walks_77, s_M_walks_80, s_M_walks_82, s_M_walks_83, s_M_walks_85, s_M_walks_86, s_M_walks_89, s_M_walks_90, s_M_walks_91, s_M_walks_92, s_M_walks_95, s_M_walks_97, s_M_walks_98, s_M_walks_100, s_M_walks_101, s_M_walks_103, s_M_walks_104, s_M_walks_106, s_M_walks_109, s_M_walks_110, s_M_walks_112, s_M_walks_113, s_M_walks_117, s_M_walks_119, s_M_walks_120, s_M_walks_121, s_M_walks_122, s_M_walks_125, s_M_walks_127, s_M_walks_130, s_M_walks_132, s_M_walks_134, s_M_walks_136, s_M_walks_137, s_M_walks_138, s_M_walks_139, s_M_walks_140, s_M_walks_142, s_M_walks_145, s_M_walks_148, s_M_walks_149, s_M_walks_150, s_M_walks_153, s_M_walks_155, s_M_walks_156, s_M_walks_158, s_M_walks_161, s_M_walks_162, s_M_walks_165, s_M_walks_166, s_M_walks_168, s_M_walks_171, s_M_walks_173, s_M_walks_175, s_M_walks_178, s_M_walks_180, s_M_walks_183, s_M_walks_184, s_M_walks_185, s_M_walks_187, s_M_walks_190, s_M_walks_191, s_M_walks_194, s_M_walks_196, s_M_walks_197, s_M_walks_198, s_M_walks_201, s_M_walks_202, s_M_walks_204, s_M_walks_205, s_M_walks_206, s_M_walks_207, s_M_walks_210, s_M_walks_212, s_M_walks_215, s_M_walks_216, s_M_walks_219, s_M_walks_220, s_M_walks_221, s_M_walks_223, s_M_walks_224, s_M_walks_227, s_M_walks_229, s_M_walks_230, s_M_walks_233, s_M_walks_235, s_M_walks_238, s_M_walks_239, s_M_walks_242, s_M_walks_243, s_M_walks_244, s_M_walks_245, s_M_walks_248, s_M_walks_249, s_M_walks_251, s_M_walks_252, s_M_walks_253, s_M_walks_254, s_M_walks_257, s_M_walks_258, s_M_walks_261, s_M_walks_263, s_M_walks_265, s_M_walks_267, s_M_walks_268, s_M_walks_271, s_M_walks_274, s_M_walks_275, Option.bind_some, Option.bind_none, Option.toList_some, Option.toList_none, List.cons_append, List.nil_append, if_true, if_false, rz_clr, true_or, or_true, z00, z11, bZ_eq0, bZ_eq1, nor_self, if_pos, if_neg, zI_add, zI_sub, zI_mul, zI_neg, zI_lt, zI_le, zI_eq, c_M, f_M_0, u_M_0, f_M_1, u_M_1, f_M_2, l_M_2, r_M_2, w_M_2, f_M_3, u_M_3, f_M_4, u_M_4, f_M_5, u_M_5, f_M_6, u_M_6, f_M_7, u_M_7, f_M_8, u_M_8, f_M_9, l_M_9, r_M_9, w_M_9, f_M_10, l_M_10, r_M_10, w_M_10, f_M_11, l_M_11, r_M_11, w_M_11, f_M_12, l_M_12, r_M_12, w_M_12, f_M_13, l_M_13, r_M_13, w_M_13, f_M_14, l_M_14, r_M_14, w_M_14, f_M_15, l_M_15, r_M_15, w_M_15, f_M_16, l_M_16, r_M_16, w_M_16, f_M_17, l_M_17, r_M_17, w_M_17, f_M_18, l_M_18, r_M_18, w_M_18, hbe, ih']
      · have z0 : (1 - q 2 0).toNat = 1 := by omega
        have z1 : (1 - (1 - q 2 0)).toNat = 0 := by omega
        rw [z0, z1] at hbe
        simp (disch := first | omega | exact Nat.le_of_ble_eq_true rfl) only [e_M_walks, s_M_walks_0, s_M_walks_1, s_M_walks_4, s_M_walks_6, s_M_walks_7, s_M_walks_8, s_M_walks_9, s_M_walks_12, s_M_walks_14, s_M_walks_15, s_M_walks_16, s_M_walks_17, s_M_walks_18, s_M_walks_19, s_M_walks_23, s_M_walks_25, s_M_walks_28, s_M_walks_29, s_M_walks_30, s_M_walks_31, s_M_walks_33, s_M_walks_34, s_M_walks_36, s_M_walks_38, s_M_walks_41, s_M_walks_42, s_M_walks_45, s_M_walks_46, s_M_walks_48, s_M_walks_51, s_M_walks_52, s_M_walks_55, s_M_walks_56, s_M_walks_59, s_M_walks_61, s_M_walks_63, s_M_walks_65, s_M_walks_67, s_M_walks_70, s_M_walks_71, s_M_walks_74, s_M_walks_76, s_M_walks_77, s_M_walks_80, s_M_walks_82, s_M_walks_83, s_M_walks_85, s_M_walks_86, s_M_walks_89, s_M_walks_90, s_M_walks_91, s_M_walks_92, s_M_walks_95, s_M_walks_97, s_M_walks_98, s_M_walks_100, s_M_walks_101, s_M_walks_103, s_M_walks_104, s_M_walks_106, s_M_walks_109, s_M_walks_110, s_M_walks_112, s_M_walks_113, s_M_walks_117, s_M_walks_119, s_M_walks_120, s_M_walks_121, s_M_walks_122, s_M_walks_125, s_M_walks_127, s_M_walks_130, s_M_walks_132, s_M_walks_134, s_M_walks_136, s_M_walks_137, s_M_walks_138, s_M_walks_139, s_M_walks_140, s_M_walks_142, s_M_walks_145, s_M_walks_148, s_M_walks_149, s_M_walks_150, s_M_walks_153, s_M_walks_155, s_M_walks_156, s_M_walks_158, s_M_walks_161, s_M_walks_162, s_M_walks_165, s_M_walks_166, s_M_walks_168, s_M_walks_171, s_M_walks_173, s_M_walks_175, s_M_walks_178, s_M_walks_180, s_M_walks_183, s_M_walks_184, s_M_walks_185, s_M_walks_187, s_M_walks_190, s_M_walks_191, s_M_walks_194, s_M_walks_196, s_M_walks_197, s_M_walks_198, s_M_walks_201, s_M_walks_202, s_M_walks_204, s_M_walks_205, s_M_walks_206, s_M_walks_207, s_M_walks_210, s_M_walks_212, s_M_walks_215, s_M_walks_216, s_M_walks_219, s_M_walks_220, s_M_walks_221, s_M_walks_223, s_M_walks_224, s_M_walks_227, s_M_walks_229, s_M_walks_230, s_M_walks_233, s_M_walks_235, s_M_walks_238, s_M_walks_239, s_M_walks_242, s_M_walks_243, s_M_walks_244, s_M_walks_245, s_M_walks_248, s_M_walks_249, s_M_walks_251, s_M_walks_252, s_M_walks_253, s_M_walks_254, s_M_walks_257, s_M_walks_258, s_M_walks_261, s_M_walks_263, s_M_walks_265, s_M_walks_267, s_M_walks_268, s_M_walks_271, s_M_walks_274, s_M_walks_275, Option.bind_some, Option.bind_none, Option.toList_some, Option.toList_none, List.cons_append, List.nil_append, if_true, if_false, rz_clr, true_or, or_true, z00, z11, bZ_eq0, bZ_eq1, nor_self, if_pos, if_neg, zI_add, zI_sub, zI_mul, zI_neg, zI_lt, zI_le, zI_eq, c_M, f_M_0, u_M_0, f_M_1, u_M_1, f_M_2, l_M_2, r_M_2, w_M_2, f_M_3, u_M_3, f_M_4, u_M_4, f_M_5, u_M_5, f_M_6, u_M_6, f_M_7, u_M_7, f_M_8, u_M_8, f_M_9, l_M_9, r_M_9, w_M_9, f_M_10, l_M_10, r_M_10, w_M_10, f_M_11, l_M_11, r_M_11, w_M_11, f_M_12, l_M_12, r_M_12, w_M_12, f_M_13, l_M_13, r_M_13, w_M_13, f_M_14, l_M_14, r_M_14, w_M_14, f_M_15, l_M_15, r_M_15, w_M_15, f_M_16, l_M_16, r_M_16, w_M_16, f_M_17, l_M_17, r_M_17, w_M_17, f_M_18, l_M_18, r_M_18, w_M_18, hbe, ih']
    · obtain ⟨j, to, j1, j2, j3, j4, eS⟩ := lot_step hw hl hq h50 h0
      have hcp := cN_pos h0 hlt
      have hcl := cN_le (fun i => (mayW q p (1 - q 2 0)).testBit i) 8
      obtain ⟨r1, r2⟩ := rnk_rg (q 6 0) hcp
      have hcf := cF_cN (fun i => (mayW q p (1 - q 2 0)).testBit i) 8 0
      rw [show cN (fun i => (mayW q p (1 - q 2 0)).testBit i) 0 = 0 from rfl, Nat.zero_add, Nat.zero_add] at hcf
      have hnb := nB_ext (fun i => (mayW q p (1 - q 2 0)).testBit i) 8 24 0 0 (rnk (q 6 0) (cN (fun k => (mayW q p (1 - q 2 0)).testBit k) 8)) r1 (by rw [← hcf]; omega)
      have hpk := fun x7 w l0 l1 l2 l3 l4 l5 l10 => z_Mpick_lp (d + 3) hlt (r := rnk (q 6 0) (cN (fun k => (mayW q p (1 - q 2 0)).testBit k) 8)) (by omega) w l0 l1 l2 l3 l4 l5 x7 l10 8 0 rfl 0 (by omega) (by rw [← hcf]; omega)
      have hK : nB (fun i => (mayW q p (1 - q 2 0)).testBit i) 32 0 0 (rnk (q 6 0) (cN (fun k => (mayW q p (1 - q 2 0)).testBit k) 8)) = j := j1
      rw [← hnb, hK, Int.natCast_zero, Int.sub_zero] at hpk
      have hh := hi16_rg (lotC (q 6 0))
      have hrm := z_rem (a := hi16 (lotC (q 6 0))) (b := cN (fun k => (mayW q p (1 - q 2 0)).testBit k) 8) (by omega) (by omega)
      have ernk : rnk (q 6 0) (cN (fun k => (mayW q p (1 - q 2 0)).testBit k) 8) = hi16 (lotC (q 6 0)) % (cN (fun k => (mayW q p (1 - q 2 0)).testBit k) 8 : Nat) := if_pos hcp
      rw [← ernk] at hrm
      have hne : ¬ zI ((cN (fun i => (mayW q p (1 - q 2 0)).testBit i) 8 : Nat) : Int) = 0 := by
        intro z
        have z' : zI ((cN (fun i => (mayW q p (1 - q 2 0)).testBit i) 8 : Nat) : Int) = zI 0 := z
        rw [zI_eq (by omega) (by omega)] at z'
        omega
      have hsx := shr16 (lotC (q 6 0))
      obtain ⟨u, hu, hu3⟩ := use_nat hw hmm
      have hq0 := (hq.1 (1 - q 2 0).toNat (by omega)).1
      obtain ⟨own, ho⟩ : ∃ n : Nat, q 0 (1 - q 2 0).toNat = n := ⟨(q 0 (1 - q 2 0).toNat).toNat, by omega⟩
      have hld := z_Mleads (N := N) (σ := gset σ 10 (mL (σ 10) (lotC (q 6 0)))) (d + 1) hN (p := p) (by rw [gset_at, mL_ne (by decide)]; exact hm) hw hl (l := u) (c := own) (k := j) hu3 (by omega) j2
      have est : ldP p u own j = to := by rw [← j3]; unfold stepTo; rw [ldP_law hw hmm, hu, ho]
      rw [est, ← hu, ← ho] at hld
      have hkc := hw.2.1 to.toNat (by omega)
      have fc : ∀ c, mL (σ 10) c 9 (3 + to).toNat = p 0 to.toNat := by
        intro c
        rw [mL_ne (by decide)]
        have := tl_cell hm (i := 3 + to) (by omega)
        rw [show 3 + to - 3 = to by omega] at this
        exact this
      obtain ⟨t6, t4, t0, t5p, t5h, t5e⟩ := stepQ_f (pset q 6 (fun _ => lotC (q 6 0))) p to
      obtain ⟨g0, g2, g6, g4, g5⟩ := goOn_f (stepQ (pset q 6 (fun _ => lotC (q 6 0))) p to)
      rw [← eS] at g0 g2 g6 g4 g5
      have e20 : pset q 6 (fun _ => lotC (q 6 0)) 2 0 = q 2 0 := rfl
      have e40 : pset q 6 (fun _ => lotC (q 6 0)) 4 0 = q 4 0 := rfl
      have e50 : pset q 6 (fun _ => lotC (q 6 0)) 5 0 = q 5 0 := rfl
      have e00 : pset q 6 (fun _ => lotC (q 6 0)) 0 = q 0 := rfl
      have S6 : lotS q p 6 0 = lotC (q 6 0) := by rw [g6, t6, pset_eq]
      have S4 : lotS q p 4 0 = (k : Int) + 1 := by rw [g4, t4, e40, h4]
      have S0 : lotS q p 0 = zup (q 0) (1 - q 2 0).toNat to := by rw [g0, t0, e00, e20]
      rw [e20] at t5p t5h t5e
      rw [e50] at t5e
      by_cases hz : 1 - q 2 0 = 0
      · skip
        have z0 : (1 - q 2 0).toNat = 0 := by omega
        have z1 : (1 - (1 - q 2 0)).toNat = 1 := by omega
        rw [z0, z1] at hbe
        rw [z0] at hld f16 f15 hp5
        by_cases cp : p 0 to.toNat = 1
        · have S5 : lotS q p 5 0 = 2 := by rw [g5, t5p cp, if_pos hz]; rfl
          have eN := lotN_done (p := p) n (q := lotS q p) (by rw [S5]; decide)
          have eW : wonW (lotS q p) = -1 := by unfold wonW; rw [S5]; rfl
          rw [eN, eW, S6]
          obtain ⟨l8', hpk'⟩ := hpk (zI (1 - q 2 0)) (wOf N (gset σ 10 (mL (σ 10) (lotC (q 6 0))))) (some (.ref (bs 10))) (some (.int (zI (q 0 0)))) (some (.int (zI (q 0 1)))) (some (.int (zI (q 2 0)))) (some (.int (zI k))) (some (.int (zI (1 - q 2 0)))) l10
          simp (disch := first | omega | exact Nat.le_of_ble_eq_true rfl) only [e_M_walks, s_M_walks_0, s_M_walks_1, s_M_walks_4, s_M_walks_6, s_M_walks_7, s_M_walks_8, s_M_walks_9, s_M_walks_12, s_M_walks_14, s_M_walks_15, s_M_walks_16, s_M_walks_17, s_M_walks_18, s_M_walks_19, s_M_walks_23, s_M_walks_25, s_M_walks_28, s_M_walks_29, s_M_walks_30, s_M_walks_31, s_M_walks_33, s_M_walks_34, s_M_walks_36, s_M_walks_38, s_M_walks_41, s_M_walks_42, s_M_walks_45, s_M_walks_46, s_M_walks_48, s_M_walks_51, s_M_walks_52, s_M_walks_55, s_M_walks_56, s_M_walks_59, s_M_walks_61, s_M_walks_63, s_M_walks_65, s_M_walks_67, s_M_walks_70, s_M_walks_71, s_M_walks_74, s_M_walks_76, s_M_walks_77, s_M_walks_80, s_M_walks_82, s_M_walks_83, s_M_walks_85, s_M_walks_86, s_M_walks_89, s_M_walks_90, s_M_walks_91, s_M_walks_92, s_M_walks_95, s_M_walks_97, s_M_walks_98, s_M_walks_100, s_M_walks_101, s_M_walks_103, s_M_walks_104, s_M_walks_106, s_M_walks_109, s_M_walks_110, s_M_walks_112, s_M_walks_113, s_M_walks_117, s_M_walks_119, s_M_walks_120, s_M_walks_121, s_M_walks_122, s_M_walks_125, s_M_walks_127, s_M_walks_130, s_M_walks_132, s_M_walks_134, s_M_walks_136, s_M_walks_137, s_M_walks_138, s_M_walks_139, s_M_walks_140, s_M_walks_142, s_M_walks_145, s_M_walks_148, s_M_walks_149, s_M_walks_150, s_M_walks_153, s_M_walks_155, s_M_walks_156, s_M_walks_158, s_M_walks_161, s_M_walks_162, s_M_walks_165, s_M_walks_166, s_M_walks_168, s_M_walks_171, s_M_walks_173, s_M_walks_175, s_M_walks_178, s_M_walks_180, s_M_walks_183, s_M_walks_184, s_M_walks_185, s_M_walks_187, s_M_walks_190, s_M_walks_191, s_M_walks_194, s_M_walks_196, s_M_walks_197, s_M_walks_198, s_M_walks_201, s_M_walks_202, s_M_walks_204, s_M_walks_205, s_M_walks_206, s_M_walks_207, s_M_walks_210, s_M_walks_212, s_M_walks_215, s_M_walks_216, s_M_walks_219, s_M_walks_220, s_M_walks_221, s_M_walks_223, s_M_walks_224, s_M_walks_227, s_M_walks_229, s_M_walks_230, s_M_walks_233, s_M_walks_235, s_M_walks_238, s_M_walks_239, s_M_walks_242, s_M_walks_243, s_M_walks_244, s_M_walks_245, s_M_walks_248, s_M_walks_249, s_M_walks_251, s_M_walks_252, s_M_walks_253, s_M_walks_254, s_M_walks_257, s_M_walks_258, s_M_walks_261, s_M_walks_263, s_M_walks_265, s_M_walks_267, s_M_walks_268, s_M_walks_271, s_M_walks_274, s_M_walks_275, Option.bind_some, Option.bind_none, Option.toList_some, Option.toList_none, List.cons_append, List.nil_append, if_true, if_false, rz_clr, true_or, or_true, z00, z11, bZ_eq0, bZ_eq1, nor_self, if_pos, if_neg, zI_add, zI_sub, zI_mul, zI_neg, zI_lt, zI_le, zI_eq, c_M, f_M_0, u_M_0, f_M_1, u_M_1, f_M_2, l_M_2, r_M_2, w_M_2, f_M_3, u_M_3, f_M_4, u_M_4, f_M_5, u_M_5, f_M_6, u_M_6, f_M_7, u_M_7, f_M_8, u_M_8, f_M_9, l_M_9, r_M_9, w_M_9, f_M_10, l_M_10, r_M_10, w_M_10, f_M_11, l_M_11, r_M_11, w_M_11, f_M_12, l_M_12, r_M_12, w_M_12, f_M_13, l_M_13, r_M_13, w_M_13, f_M_14, l_M_14, r_M_14, w_M_14, f_M_15, l_M_15, r_M_15, w_M_15, f_M_16, l_M_16, r_M_16, w_M_16, f_M_17, l_M_17, r_M_17, w_M_17, f_M_18, l_M_18, r_M_18, w_M_18, sset_eq, gset_at, gset_gset, gset_ne, pset_eq, pset_ne, hbe, e8, hlc, mL_mL, hon, hsx, hne, hrm, hpk', z0, f16, hld, fc, cp]
        · by_cases ch : to = p 5 (1 - q 2 0).toNat
          · have S5 : lotS q p 5 0 = 1 := by rw [g5, t5h cp ch, if_pos hz]; rfl
            have eN := lotN_done (p := p) n (q := lotS q p) (by rw [S5]; decide)
            have eW : wonW (lotS q p) = 1 := by unfold wonW; rw [S5]; rfl
            rw [eN, eW, S6]
            rw [z0] at ch
            obtain ⟨l8', hpk'⟩ := hpk (zI (1 - q 2 0)) (wOf N (gset σ 10 (mL (σ 10) (lotC (q 6 0))))) (some (.ref (bs 10))) (some (.int (zI (q 0 0)))) (some (.int (zI (q 0 1)))) (some (.int (zI (q 2 0)))) (some (.int (zI k))) (some (.int (zI (1 - q 2 0)))) l10
            simp (disch := first | omega | exact Nat.le_of_ble_eq_true rfl) only [e_M_walks, s_M_walks_0, s_M_walks_1, s_M_walks_4, s_M_walks_6, s_M_walks_7, s_M_walks_8, s_M_walks_9, s_M_walks_12, s_M_walks_14, s_M_walks_15, s_M_walks_16, s_M_walks_17, s_M_walks_18, s_M_walks_19, s_M_walks_23, s_M_walks_25, s_M_walks_28, s_M_walks_29, s_M_walks_30, s_M_walks_31, s_M_walks_33, s_M_walks_34, s_M_walks_36, s_M_walks_38, s_M_walks_41, s_M_walks_42, s_M_walks_45, s_M_walks_46, s_M_walks_48, s_M_walks_51, s_M_walks_52, s_M_walks_55, s_M_walks_56, s_M_walks_59, s_M_walks_61, s_M_walks_63, s_M_walks_65, s_M_walks_67, s_M_walks_70, s_M_walks_71, s_M_walks_74, s_M_walks_76, s_M_walks_77, s_M_walks_80, s_M_walks_82, s_M_walks_83, s_M_walks_85, s_M_walks_86, s_M_walks_89, s_M_walks_90, s_M_walks_91, s_M_walks_92, s_M_walks_95, s_M_walks_97, s_M_walks_98, s_M_walks_100, s_M_walks_101, s_M_walks_103, s_M_walks_104, s_M_walks_106, s_M_walks_109, s_M_walks_110, s_M_walks_112, s_M_walks_113, s_M_walks_117, s_M_walks_119, s_M_walks_120, s_M_walks_121, s_M_walks_122, s_M_walks_125, s_M_walks_127, s_M_walks_130, s_M_walks_132, s_M_walks_134, s_M_walks_136, s_M_walks_137, s_M_walks_138, s_M_walks_139, s_M_walks_140, s_M_walks_142, s_M_walks_145, s_M_walks_148, s_M_walks_149, s_M_walks_150, s_M_walks_153, s_M_walks_155, s_M_walks_156, s_M_walks_158, s_M_walks_161, s_M_walks_162, s_M_walks_165, s_M_walks_166, s_M_walks_168, s_M_walks_171, s_M_walks_173, s_M_walks_175, s_M_walks_178, s_M_walks_180, s_M_walks_183, s_M_walks_184, s_M_walks_185, s_M_walks_187, s_M_walks_190, s_M_walks_191, s_M_walks_194, s_M_walks_196, s_M_walks_197, s_M_walks_198, s_M_walks_201, s_M_walks_202, s_M_walks_204, s_M_walks_205, s_M_walks_206, s_M_walks_207, s_M_walks_210, s_M_walks_212, s_M_walks_215, s_M_walks_216, s_M_walks_219, s_M_walks_220, s_M_walks_221, s_M_walks_223, s_M_walks_224, s_M_walks_227, s_M_walks_229, s_M_walks_230, s_M_walks_233, s_M_walks_235, s_M_walks_238, s_M_walks_239, s_M_walks_242, s_M_walks_243, s_M_walks_244, s_M_walks_245, s_M_walks_248, s_M_walks_249, s_M_walks_251, s_M_walks_252, s_M_walks_253, s_M_walks_254, s_M_walks_257, s_M_walks_258, s_M_walks_261, s_M_walks_263, s_M_walks_265, s_M_walks_267, s_M_walks_268, s_M_walks_271, s_M_walks_274, s_M_walks_275, Option.bind_some, Option.bind_none, Option.toList_some, Option.toList_none, List.cons_append, List.nil_append, if_true, if_false, rz_clr, true_or, or_true, z00, z11, bZ_eq0, bZ_eq1, nor_self, if_pos, if_neg, zI_add, zI_sub, zI_mul, zI_neg, zI_lt, zI_le, zI_eq, c_M, f_M_0, u_M_0, f_M_1, u_M_1, f_M_2, l_M_2, r_M_2, w_M_2, f_M_3, u_M_3, f_M_4, u_M_4, f_M_5, u_M_5, f_M_6, u_M_6, f_M_7, u_M_7, f_M_8, u_M_8, f_M_9, l_M_9, r_M_9, w_M_9, f_M_10, l_M_10, r_M_10, w_M_10, f_M_11, l_M_11, r_M_11, w_M_11, f_M_12, l_M_12, r_M_12, w_M_12, f_M_13, l_M_13, r_M_13, w_M_13, f_M_14, l_M_14, r_M_14, w_M_14, f_M_15, l_M_15, r_M_15, w_M_15, f_M_16, l_M_16, r_M_16, w_M_16, f_M_17, l_M_17, r_M_17, w_M_17, f_M_18, l_M_18, r_M_18, w_M_18, sset_eq, gset_at, gset_gset, gset_ne, pset_eq, pset_ne, hbe, e8, hlc, mL_mL, hon, hsx, hne, hrm, hpk', z0, f16, f15, hld, fc]
          · obtain ⟨S5a, S2a⟩ := t5e cp ch
            have S5 : lotS q p 5 0 = if 99 ≤ (k : Int) + 1 then 3 else 0 := by
              rw [g5, S5a, t4, e40, h50, h4]
              by_cases cc : 99 ≤ (k : Int) + 1
              · rw [if_pos ⟨rfl, cc⟩, if_pos cc]
              · rw [if_neg (fun z => cc z.2), if_neg cc]
            have S2 : lotS q p 2 0 = if p 0 to.toNat = 2 then q 2 0 else 1 - q 2 0 := by rw [g2, S2a]
            have ih' := ih (k + 1) (lotS q p) (by omega) hlS (fun _ => by rw [S5, if_neg (by omega)]) (by rw [S5]; split <;> omega) (by rw [S4]; rfl)
            have a0 : lotS q p 0 0 = to := by rw [S0, z0]; exact zup_eq _ _ _
            have a1 : lotS q p 0 1 = q 0 1 := by rw [S0, z0, zup_ne (by decide)]
            rw [a0, a1, S2, S6] at ih'
            simp only [Int.natCast_add, Int.natCast_one] at ih'
            rw [z0] at ch
            obtain ⟨l8', hpk'⟩ := hpk (zI (1 - q 2 0)) (wOf N (gset σ 10 (mL (σ 10) (lotC (q 6 0))))) (some (.ref (bs 10))) (some (.int (zI (q 0 0)))) (some (.int (zI (q 0 1)))) (some (.int (zI (q 2 0)))) (some (.int (zI k))) (some (.int (zI (1 - q 2 0)))) l10
            by_cases cb : p 0 to.toNat = 2
            · rw [if_pos cb] at ih'
              simp (disch := first | omega | exact Nat.le_of_ble_eq_true rfl) only [e_M_walks, s_M_walks_0, s_M_walks_1, s_M_walks_4, s_M_walks_6, s_M_walks_7, s_M_walks_8, s_M_walks_9, s_M_walks_12, s_M_walks_14, s_M_walks_15, s_M_walks_16, s_M_walks_17, s_M_walks_18, s_M_walks_19, s_M_walks_23, s_M_walks_25, s_M_walks_28, s_M_walks_29, s_M_walks_30, s_M_walks_31, s_M_walks_33, s_M_walks_34, s_M_walks_36, s_M_walks_38, s_M_walks_41, s_M_walks_42, s_M_walks_45, s_M_walks_46, s_M_walks_48, s_M_walks_51, s_M_walks_52, s_M_walks_55, s_M_walks_56, s_M_walks_59, s_M_walks_61, s_M_walks_63, s_M_walks_65, s_M_walks_67, s_M_walks_70, s_M_walks_71, s_M_walks_74, s_M_walks_76, s_M_walks_77, s_M_walks_80, s_M_walks_82, s_M_walks_83, s_M_walks_85, s_M_walks_86, s_M_walks_89, s_M_walks_90, s_M_walks_91, s_M_walks_92, s_M_walks_95, s_M_walks_97, s_M_walks_98, s_M_walks_100, s_M_walks_101, s_M_walks_103, s_M_walks_104, s_M_walks_106, s_M_walks_109, s_M_walks_110, s_M_walks_112, s_M_walks_113, s_M_walks_117, s_M_walks_119, s_M_walks_120, s_M_walks_121, s_M_walks_122, s_M_walks_125, s_M_walks_127, s_M_walks_130, s_M_walks_132, s_M_walks_134, s_M_walks_136, s_M_walks_137, s_M_walks_138, s_M_walks_139, s_M_walks_140, s_M_walks_142, s_M_walks_145, s_M_walks_148, s_M_walks_149, s_M_walks_150, s_M_walks_153, s_M_walks_155, s_M_walks_156, s_M_walks_158, s_M_walks_161, s_M_walks_162, s_M_walks_165, s_M_walks_166, s_M_walks_168, s_M_walks_171, s_M_walks_173, s_M_walks_175, s_M_walks_178, s_M_walks_180, s_M_walks_183, s_M_walks_184, s_M_walks_185, s_M_walks_187, s_M_walks_190, s_M_walks_191, s_M_walks_194, s_M_walks_196, s_M_walks_197, s_M_walks_198, s_M_walks_201, s_M_walks_202, s_M_walks_204, s_M_walks_205, s_M_walks_206, s_M_walks_207, s_M_walks_210, s_M_walks_212, s_M_walks_215, s_M_walks_216, s_M_walks_219, s_M_walks_220, s_M_walks_221, s_M_walks_223, s_M_walks_224, s_M_walks_227, s_M_walks_229, s_M_walks_230, s_M_walks_233, s_M_walks_235, s_M_walks_238, s_M_walks_239, s_M_walks_242, s_M_walks_243, s_M_walks_244, s_M_walks_245, s_M_walks_248, s_M_walks_249, s_M_walks_251, s_M_walks_252, s_M_walks_253, s_M_walks_254, s_M_walks_257, s_M_walks_258, s_M_walks_261, s_M_walks_263, s_M_walks_265, s_M_walks_267, s_M_walks_268, s_M_walks_271, s_M_walks_274, s_M_walks_275, Option.bind_some, Option.bind_none, Option.toList_some, Option.toList_none, List.cons_append, List.nil_append, if_true, if_false, rz_clr, true_or, or_true, z00, z11, bZ_eq0, bZ_eq1, nor_self, if_pos, if_neg, zI_add, zI_sub, zI_mul, zI_neg, zI_lt, zI_le, zI_eq, c_M, f_M_0, u_M_0, f_M_1, u_M_1, f_M_2, l_M_2, r_M_2, w_M_2, f_M_3, u_M_3, f_M_4, u_M_4, f_M_5, u_M_5, f_M_6, u_M_6, f_M_7, u_M_7, f_M_8, u_M_8, f_M_9, l_M_9, r_M_9, w_M_9, f_M_10, l_M_10, r_M_10, w_M_10, f_M_11, l_M_11, r_M_11, w_M_11, f_M_12, l_M_12, r_M_12, w_M_12, f_M_13, l_M_13, r_M_13, w_M_13, f_M_14, l_M_14, r_M_14, w_M_14, f_M_15, l_M_15, r_M_15, w_M_15, f_M_16, l_M_16, r_M_16, w_M_16, f_M_17, l_M_17, r_M_17, w_M_17, f_M_18, l_M_18, r_M_18, w_M_18, sset_eq, gset_at, gset_gset, gset_ne, pset_eq, pset_ne, hbe, e8, hlc, mL_mL, hon, hsx, hne, hrm, hpk', z0, f16, f15, hld, fc, cb, ih']
            · rw [if_neg cb] at ih'
              simp (disch := first | omega | exact Nat.le_of_ble_eq_true rfl) only [e_M_walks, s_M_walks_0, s_M_walks_1, s_M_walks_4, s_M_walks_6, s_M_walks_7, s_M_walks_8, s_M_walks_9, s_M_walks_12, s_M_walks_14, s_M_walks_15, s_M_walks_16, s_M_walks_17, s_M_walks_18, s_M_walks_19, s_M_walks_23, s_M_walks_25, s_M_walks_28, s_M_walks_29, s_M_walks_30, s_M_walks_31, s_M_walks_33, s_M_walks_34, s_M_walks_36, s_M_walks_38, s_M_walks_41, s_M_walks_42, s_M_walks_45, s_M_walks_46, s_M_walks_48, s_M_walks_51, s_M_walks_52, s_M_walks_55, s_M_walks_56, s_M_walks_59, s_M_walks_61, s_M_walks_63, s_M_walks_65, s_M_walks_67, s_M_walks_70, s_M_walks_71, s_M_walks_74, s_M_walks_76, s_M_walks_77, s_M_walks_80, s_M_walks_82, s_M_walks_83, s_M_walks_85, s_M_walks_86, s_M_walks_89, s_M_walks_90, s_M_walks_91, s_M_walks_92, s_M_walks_95, s_M_walks_97, s_M_walks_98, s_M_walks_100, s_M_walks_101, s_M_walks_103, s_M_walks_104, s_M_walks_106, s_M_walks_109, s_M_walks_110, s_M_walks_112, s_M_walks_113, s_M_walks_117, s_M_walks_119, s_M_walks_120, s_M_walks_121, s_M_walks_122, s_M_walks_125, s_M_walks_127, s_M_walks_130, s_M_walks_132, s_M_walks_134, s_M_walks_136, s_M_walks_137, s_M_walks_138, s_M_walks_139, s_M_walks_140, s_M_walks_142, s_M_walks_145, s_M_walks_148, s_M_walks_149, s_M_walks_150, s_M_walks_153, s_M_walks_155, s_M_walks_156, s_M_walks_158, s_M_walks_161, s_M_walks_162, s_M_walks_165, s_M_walks_166, s_M_walks_168, s_M_walks_171, s_M_walks_173, s_M_walks_175, s_M_walks_178, s_M_walks_180, s_M_walks_183, s_M_walks_184, s_M_walks_185, s_M_walks_187, s_M_walks_190, s_M_walks_191, s_M_walks_194, s_M_walks_196, s_M_walks_197, s_M_walks_198, s_M_walks_201, s_M_walks_202, s_M_walks_204, s_M_walks_205, s_M_walks_206, s_M_walks_207, s_M_walks_210, s_M_walks_212, s_M_walks_215, s_M_walks_216, s_M_walks_219, s_M_walks_220, s_M_walks_221, s_M_walks_223, s_M_walks_224, s_M_walks_227, s_M_walks_229, s_M_walks_230, s_M_walks_233, s_M_walks_235, s_M_walks_238, s_M_walks_239, s_M_walks_242, s_M_walks_243, s_M_walks_244, s_M_walks_245, s_M_walks_248, s_M_walks_249, s_M_walks_251, s_M_walks_252, s_M_walks_253, s_M_walks_254, s_M_walks_257, s_M_walks_258, s_M_walks_261, s_M_walks_263, s_M_walks_265, s_M_walks_267, s_M_walks_268, s_M_walks_271, s_M_walks_274, s_M_walks_275, Option.bind_some, Option.bind_none, Option.toList_some, Option.toList_none, List.cons_append, List.nil_append, if_true, if_false, rz_clr, true_or, or_true, z00, z11, bZ_eq0, bZ_eq1, nor_self, if_pos, if_neg, zI_add, zI_sub, zI_mul, zI_neg, zI_lt, zI_le, zI_eq, c_M, f_M_0, u_M_0, f_M_1, u_M_1, f_M_2, l_M_2, r_M_2, w_M_2, f_M_3, u_M_3, f_M_4, u_M_4, f_M_5, u_M_5, f_M_6, u_M_6, f_M_7, u_M_7, f_M_8, u_M_8, f_M_9, l_M_9, r_M_9, w_M_9, f_M_10, l_M_10, r_M_10, w_M_10, f_M_11, l_M_11, r_M_11, w_M_11, f_M_12, l_M_12, r_M_12, w_M_12, f_M_13, l_M_13, r_M_13, w_M_13, f_M_14, l_M_14, r_M_14, w_M_14, f_M_15, l_M_15, r_M_15, w_M_15, f_M_16, l_M_16, r_M_16, w_M_16, f_M_17, l_M_17, r_M_17, w_M_17, f_M_18, l_M_18, r_M_18, w_M_18, sset_eq, gset_at, gset_gset, gset_ne, pset_eq, pset_ne, hbe, e8, hlc, mL_mL, hon, hsx, hne, hrm, hpk', z0, f16, f15, hld, fc, ih']
      · skip
        have z0 : (1 - q 2 0).toNat = 1 := by omega
        have z1 : (1 - (1 - q 2 0)).toNat = 0 := by omega
        rw [z0, z1] at hbe
        rw [z0] at hld f16 f15 hp5
        by_cases cp : p 0 to.toNat = 1
        · have S5 : lotS q p 5 0 = 1 := by rw [g5, t5p cp, if_neg hz]; rfl
          have eN := lotN_done (p := p) n (q := lotS q p) (by rw [S5]; decide)
          have eW : wonW (lotS q p) = 1 := by unfold wonW; rw [S5]; rfl
          rw [eN, eW, S6]
          obtain ⟨l8', hpk'⟩ := hpk (zI (1 - q 2 0)) (wOf N (gset σ 10 (mL (σ 10) (lotC (q 6 0))))) (some (.ref (bs 10))) (some (.int (zI (q 0 0)))) (some (.int (zI (q 0 1)))) (some (.int (zI (q 2 0)))) (some (.int (zI k))) (some (.int (zI (1 - q 2 0)))) l10
          simp (disch := first | omega | exact Nat.le_of_ble_eq_true rfl) only [e_M_walks, s_M_walks_0, s_M_walks_1, s_M_walks_4, s_M_walks_6, s_M_walks_7, s_M_walks_8, s_M_walks_9, s_M_walks_12, s_M_walks_14, s_M_walks_15, s_M_walks_16, s_M_walks_17, s_M_walks_18, s_M_walks_19, s_M_walks_23, s_M_walks_25, s_M_walks_28, s_M_walks_29, s_M_walks_30, s_M_walks_31, s_M_walks_33, s_M_walks_34, s_M_walks_36, s_M_walks_38, s_M_walks_41, s_M_walks_42, s_M_walks_45, s_M_walks_46, s_M_walks_48, s_M_walks_51, s_M_walks_52, s_M_walks_55, s_M_walks_56, s_M_walks_59, s_M_walks_61, s_M_walks_63, s_M_walks_65, s_M_walks_67, s_M_walks_70, s_M_walks_71, s_M_walks_74, s_M_walks_76, s_M_walks_77, s_M_walks_80, s_M_walks_82, s_M_walks_83, s_M_walks_85, s_M_walks_86, s_M_walks_89, s_M_walks_90, s_M_walks_91, s_M_walks_92, s_M_walks_95, s_M_walks_97, s_M_walks_98, s_M_walks_100, s_M_walks_101, s_M_walks_103, s_M_walks_104, s_M_walks_106, s_M_walks_109, s_M_walks_110, s_M_walks_112, s_M_walks_113, s_M_walks_117, s_M_walks_119, s_M_walks_120, s_M_walks_121, s_M_walks_122, s_M_walks_125, s_M_walks_127, s_M_walks_130, s_M_walks_132, s_M_walks_134, s_M_walks_136, s_M_walks_137, s_M_walks_138, s_M_walks_139, s_M_walks_140, s_M_walks_142, s_M_walks_145, s_M_walks_148, s_M_walks_149, s_M_walks_150, s_M_walks_153, s_M_walks_155, s_M_walks_156, s_M_walks_158, s_M_walks_161, s_M_walks_162, s_M_walks_165, s_M_walks_166, s_M_walks_168, s_M_walks_171, s_M_walks_173, s_M_walks_175, s_M_walks_178, s_M_walks_180, s_M_walks_183, s_M_walks_184, s_M_walks_185, s_M_walks_187, s_M_walks_190, s_M_walks_191, s_M_walks_194, s_M_walks_196, s_M_walks_197, s_M_walks_198, s_M_walks_201, s_M_walks_202, s_M_walks_204, s_M_walks_205, s_M_walks_206, s_M_walks_207, s_M_walks_210, s_M_walks_212, s_M_walks_215, s_M_walks_216, s_M_walks_219, s_M_walks_220, s_M_walks_221, s_M_walks_223, s_M_walks_224, s_M_walks_227, s_M_walks_229, s_M_walks_230, s_M_walks_233, s_M_walks_235, s_M_walks_238, s_M_walks_239, s_M_walks_242, s_M_walks_243, s_M_walks_244, s_M_walks_245, s_M_walks_248, s_M_walks_249, s_M_walks_251, s_M_walks_252, s_M_walks_253, s_M_walks_254, s_M_walks_257, s_M_walks_258, s_M_walks_261, s_M_walks_263, s_M_walks_265, s_M_walks_267, s_M_walks_268, s_M_walks_271, s_M_walks_274, s_M_walks_275, Option.bind_some, Option.bind_none, Option.toList_some, Option.toList_none, List.cons_append, List.nil_append, if_true, if_false, rz_clr, true_or, or_true, z00, z11, bZ_eq0, bZ_eq1, nor_self, if_pos, if_neg, zI_add, zI_sub, zI_mul, zI_neg, zI_lt, zI_le, zI_eq, c_M, f_M_0, u_M_0, f_M_1, u_M_1, f_M_2, l_M_2, r_M_2, w_M_2, f_M_3, u_M_3, f_M_4, u_M_4, f_M_5, u_M_5, f_M_6, u_M_6, f_M_7, u_M_7, f_M_8, u_M_8, f_M_9, l_M_9, r_M_9, w_M_9, f_M_10, l_M_10, r_M_10, w_M_10, f_M_11, l_M_11, r_M_11, w_M_11, f_M_12, l_M_12, r_M_12, w_M_12, f_M_13, l_M_13, r_M_13, w_M_13, f_M_14, l_M_14, r_M_14, w_M_14, f_M_15, l_M_15, r_M_15, w_M_15, f_M_16, l_M_16, r_M_16, w_M_16, f_M_17, l_M_17, r_M_17, w_M_17, f_M_18, l_M_18, r_M_18, w_M_18, sset_eq, gset_at, gset_gset, gset_ne, pset_eq, pset_ne, hbe, e8, hlc, mL_mL, hon, hsx, hne, hrm, hpk', z0, f16, hld, fc, cp]
        · by_cases ch : to = p 5 (1 - q 2 0).toNat
          · have S5 : lotS q p 5 0 = 2 := by rw [g5, t5h cp ch, if_neg hz]; rfl
            have eN := lotN_done (p := p) n (q := lotS q p) (by rw [S5]; decide)
            have eW : wonW (lotS q p) = -1 := by unfold wonW; rw [S5]; rfl
            rw [eN, eW, S6]
            rw [z0] at ch
            obtain ⟨l8', hpk'⟩ := hpk (zI (1 - q 2 0)) (wOf N (gset σ 10 (mL (σ 10) (lotC (q 6 0))))) (some (.ref (bs 10))) (some (.int (zI (q 0 0)))) (some (.int (zI (q 0 1)))) (some (.int (zI (q 2 0)))) (some (.int (zI k))) (some (.int (zI (1 - q 2 0)))) l10
            simp (disch := first | omega | exact Nat.le_of_ble_eq_true rfl) only [e_M_walks, s_M_walks_0, s_M_walks_1, s_M_walks_4, s_M_walks_6, s_M_walks_7, s_M_walks_8, s_M_walks_9, s_M_walks_12, s_M_walks_14, s_M_walks_15, s_M_walks_16, s_M_walks_17, s_M_walks_18, s_M_walks_19, s_M_walks_23, s_M_walks_25, s_M_walks_28, s_M_walks_29, s_M_walks_30, s_M_walks_31, s_M_walks_33, s_M_walks_34, s_M_walks_36, s_M_walks_38, s_M_walks_41, s_M_walks_42, s_M_walks_45, s_M_walks_46, s_M_walks_48, s_M_walks_51, s_M_walks_52, s_M_walks_55, s_M_walks_56, s_M_walks_59, s_M_walks_61, s_M_walks_63, s_M_walks_65, s_M_walks_67, s_M_walks_70, s_M_walks_71, s_M_walks_74, s_M_walks_76, s_M_walks_77, s_M_walks_80, s_M_walks_82, s_M_walks_83, s_M_walks_85, s_M_walks_86, s_M_walks_89, s_M_walks_90, s_M_walks_91, s_M_walks_92, s_M_walks_95, s_M_walks_97, s_M_walks_98, s_M_walks_100, s_M_walks_101, s_M_walks_103, s_M_walks_104, s_M_walks_106, s_M_walks_109, s_M_walks_110, s_M_walks_112, s_M_walks_113, s_M_walks_117, s_M_walks_119, s_M_walks_120, s_M_walks_121, s_M_walks_122, s_M_walks_125, s_M_walks_127, s_M_walks_130, s_M_walks_132, s_M_walks_134, s_M_walks_136, s_M_walks_137, s_M_walks_138, s_M_walks_139, s_M_walks_140, s_M_walks_142, s_M_walks_145, s_M_walks_148, s_M_walks_149, s_M_walks_150, s_M_walks_153, s_M_walks_155, s_M_walks_156, s_M_walks_158, s_M_walks_161, s_M_walks_162, s_M_walks_165, s_M_walks_166, s_M_walks_168, s_M_walks_171, s_M_walks_173, s_M_walks_175, s_M_walks_178, s_M_walks_180, s_M_walks_183, s_M_walks_184, s_M_walks_185, s_M_walks_187, s_M_walks_190, s_M_walks_191, s_M_walks_194, s_M_walks_196, s_M_walks_197, s_M_walks_198, s_M_walks_201, s_M_walks_202, s_M_walks_204, s_M_walks_205, s_M_walks_206, s_M_walks_207, s_M_walks_210, s_M_walks_212, s_M_walks_215, s_M_walks_216, s_M_walks_219, s_M_walks_220, s_M_walks_221, s_M_walks_223, s_M_walks_224, s_M_walks_227, s_M_walks_229, s_M_walks_230, s_M_walks_233, s_M_walks_235, s_M_walks_238, s_M_walks_239, s_M_walks_242, s_M_walks_243, s_M_walks_244, s_M_walks_245, s_M_walks_248, s_M_walks_249, s_M_walks_251, s_M_walks_252, s_M_walks_253, s_M_walks_254, s_M_walks_257, s_M_walks_258, s_M_walks_261, s_M_walks_263, s_M_walks_265, s_M_walks_267, s_M_walks_268, s_M_walks_271, s_M_walks_274, s_M_walks_275, Option.bind_some, Option.bind_none, Option.toList_some, Option.toList_none, List.cons_append, List.nil_append, if_true, if_false, rz_clr, true_or, or_true, z00, z11, bZ_eq0, bZ_eq1, nor_self, if_pos, if_neg, zI_add, zI_sub, zI_mul, zI_neg, zI_lt, zI_le, zI_eq, c_M, f_M_0, u_M_0, f_M_1, u_M_1, f_M_2, l_M_2, r_M_2, w_M_2, f_M_3, u_M_3, f_M_4, u_M_4, f_M_5, u_M_5, f_M_6, u_M_6, f_M_7, u_M_7, f_M_8, u_M_8, f_M_9, l_M_9, r_M_9, w_M_9, f_M_10, l_M_10, r_M_10, w_M_10, f_M_11, l_M_11, r_M_11, w_M_11, f_M_12, l_M_12, r_M_12, w_M_12, f_M_13, l_M_13, r_M_13, w_M_13, f_M_14, l_M_14, r_M_14, w_M_14, f_M_15, l_M_15, r_M_15, w_M_15, f_M_16, l_M_16, r_M_16, w_M_16, f_M_17, l_M_17, r_M_17, w_M_17, f_M_18, l_M_18, r_M_18, w_M_18, sset_eq, gset_at, gset_gset, gset_ne, pset_eq, pset_ne, hbe, e8, hlc, mL_mL, hon, hsx, hne, hrm, hpk', z0, f16, f15, hld, fc]
          · obtain ⟨S5a, S2a⟩ := t5e cp ch
            have S5 : lotS q p 5 0 = if 99 ≤ (k : Int) + 1 then 3 else 0 := by
              rw [g5, S5a, t4, e40, h50, h4]
              by_cases cc : 99 ≤ (k : Int) + 1
              · rw [if_pos ⟨rfl, cc⟩, if_pos cc]
              · rw [if_neg (fun z => cc z.2), if_neg cc]
            have S2 : lotS q p 2 0 = if p 0 to.toNat = 2 then q 2 0 else 1 - q 2 0 := by rw [g2, S2a]
            have ih' := ih (k + 1) (lotS q p) (by omega) hlS (fun _ => by rw [S5, if_neg (by omega)]) (by rw [S5]; split <;> omega) (by rw [S4]; rfl)
            have a0 : lotS q p 0 1 = to := by rw [S0, z0]; exact zup_eq _ _ _
            have a1 : lotS q p 0 0 = q 0 0 := by rw [S0, z0, zup_ne (by decide)]
            rw [a0, a1, S2, S6] at ih'
            simp only [Int.natCast_add, Int.natCast_one] at ih'
            rw [z0] at ch
            obtain ⟨l8', hpk'⟩ := hpk (zI (1 - q 2 0)) (wOf N (gset σ 10 (mL (σ 10) (lotC (q 6 0))))) (some (.ref (bs 10))) (some (.int (zI (q 0 0)))) (some (.int (zI (q 0 1)))) (some (.int (zI (q 2 0)))) (some (.int (zI k))) (some (.int (zI (1 - q 2 0)))) l10
            by_cases cb : p 0 to.toNat = 2
            · rw [if_pos cb] at ih'
              simp (disch := first | omega | exact Nat.le_of_ble_eq_true rfl) only [e_M_walks, s_M_walks_0, s_M_walks_1, s_M_walks_4, s_M_walks_6, s_M_walks_7, s_M_walks_8, s_M_walks_9, s_M_walks_12, s_M_walks_14, s_M_walks_15, s_M_walks_16, s_M_walks_17, s_M_walks_18, s_M_walks_19, s_M_walks_23, s_M_walks_25, s_M_walks_28, s_M_walks_29, s_M_walks_30, s_M_walks_31, s_M_walks_33, s_M_walks_34, s_M_walks_36, s_M_walks_38, s_M_walks_41, s_M_walks_42, s_M_walks_45, s_M_walks_46, s_M_walks_48, s_M_walks_51, s_M_walks_52, s_M_walks_55, s_M_walks_56, s_M_walks_59, s_M_walks_61, s_M_walks_63, s_M_walks_65, s_M_walks_67, s_M_walks_70, s_M_walks_71, s_M_walks_74, s_M_walks_76, s_M_walks_77, s_M_walks_80, s_M_walks_82, s_M_walks_83, s_M_walks_85, s_M_walks_86, s_M_walks_89, s_M_walks_90, s_M_walks_91, s_M_walks_92, s_M_walks_95, s_M_walks_97, s_M_walks_98, s_M_walks_100, s_M_walks_101, s_M_walks_103, s_M_walks_104, s_M_walks_106, s_M_walks_109, s_M_walks_110, s_M_walks_112, s_M_walks_113, s_M_walks_117, s_M_walks_119, s_M_walks_120, s_M_walks_121, s_M_walks_122, s_M_walks_125, s_M_walks_127, s_M_walks_130, s_M_walks_132, s_M_walks_134, s_M_walks_136, s_M_walks_137, s_M_walks_138, s_M_walks_139, s_M_walks_140, s_M_walks_142, s_M_walks_145, s_M_walks_148, s_M_walks_149, s_M_walks_150, s_M_walks_153, s_M_walks_155, s_M_walks_156, s_M_walks_158, s_M_walks_161, s_M_walks_162, s_M_walks_165, s_M_walks_166, s_M_walks_168, s_M_walks_171, s_M_walks_173, s_M_walks_175, s_M_walks_178, s_M_walks_180, s_M_walks_183, s_M_walks_184, s_M_walks_185, s_M_walks_187, s_M_walks_190, s_M_walks_191, s_M_walks_194, s_M_walks_196, s_M_walks_197, s_M_walks_198, s_M_walks_201, s_M_walks_202, s_M_walks_204, s_M_walks_205, s_M_walks_206, s_M_walks_207, s_M_walks_210, s_M_walks_212, s_M_walks_215, s_M_walks_216, s_M_walks_219, s_M_walks_220, s_M_walks_221, s_M_walks_223, s_M_walks_224, s_M_walks_227, s_M_walks_229, s_M_walks_230, s_M_walks_233, s_M_walks_235, s_M_walks_238, s_M_walks_239, s_M_walks_242, s_M_walks_243, s_M_walks_244, s_M_walks_245, s_M_walks_248, s_M_walks_249, s_M_walks_251, s_M_walks_252, s_M_walks_253, s_M_walks_254, s_M_walks_257, s_M_walks_258, s_M_walks_261, s_M_walks_263, s_M_walks_265, s_M_walks_267, s_M_walks_268, s_M_walks_271, s_M_walks_274, s_M_walks_275, Option.bind_some, Option.bind_none, Option.toList_some, Option.toList_none, List.cons_append, List.nil_append, if_true, if_false, rz_clr, true_or, or_true, z00, z11, bZ_eq0, bZ_eq1, nor_self, if_pos, if_neg, zI_add, zI_sub, zI_mul, zI_neg, zI_lt, zI_le, zI_eq, c_M, f_M_0, u_M_0, f_M_1, u_M_1, f_M_2, l_M_2, r_M_2, w_M_2, f_M_3, u_M_3, f_M_4, u_M_4, f_M_5, u_M_5, f_M_6, u_M_6, f_M_7, u_M_7, f_M_8, u_M_8, f_M_9, l_M_9, r_M_9, w_M_9, f_M_10, l_M_10, r_M_10, w_M_10, f_M_11, l_M_11, r_M_11, w_M_11, f_M_12, l_M_12, r_M_12, w_M_12, f_M_13, l_M_13, r_M_13, w_M_13, f_M_14, l_M_14, r_M_14, w_M_14, f_M_15, l_M_15, r_M_15, w_M_15, f_M_16, l_M_16, r_M_16, w_M_16, f_M_17, l_M_17, r_M_17, w_M_17, f_M_18, l_M_18, r_M_18, w_M_18, sset_eq, gset_at, gset_gset, gset_ne, pset_eq, pset_ne, hbe, e8, hlc, mL_mL, hon, hsx, hne, hrm, hpk', z0, f16, f15, hld, fc, cb, ih']
            · rw [if_neg cb] at ih'
              simp (disch := first | omega | exact Nat.le_of_ble_eq_true rfl) only [e_M_walks, s_M_walks_0, s_M_walks_1, s_M_walks_4, s_M_walks_6, s_M_walks_7, s_M_walks_8, s_M_walks_9, s_M_walks_12, s_M_walks_14, s_M_walks_15, s_M_walks_16, s_M_walks_17, s_M_walks_18, s_M_walks_19, s_M_walks_23, s_M_walks_25, s_M_walks_28, s_M_walks_29, s_M_walks_30, s_M_walks_31, s_M_walks_33, s_M_walks_34, s_M_walks_36, s_M_walks_38, s_M_walks_41, s_M_walks_42, s_M_walks_45, s_M_walks_46, s_M_walks_48, s_M_walks_51, s_M_walks_52, s_M_walks_55, s_M_walks_56, s_M_walks_59, s_M_walks_61, s_M_walks_63, s_M_walks_65, s_M_walks_67, s_M_walks_70, s_M_walks_71, s_M_walks_74, s_M_walks_76, s_M_walks_77, s_M_walks_80, s_M_walks_82, s_M_walks_83, s_M_walks_85, s_M_walks_86, s_M_walks_89, s_M_walks_90, s_M_walks_91, s_M_walks_92, s_M_walks_95, s_M_walks_97, s_M_walks_98, s_M_walks_100, s_M_walks_101, s_M_walks_103, s_M_walks_104, s_M_walks_106, s_M_walks_109, s_M_walks_110, s_M_walks_112, s_M_walks_113, s_M_walks_117, s_M_walks_119, s_M_walks_120, s_M_walks_121, s_M_walks_122, s_M_walks_125, s_M_walks_127, s_M_walks_130, s_M_walks_132, s_M_walks_134, s_M_walks_136, s_M_walks_137, s_M_walks_138, s_M_walks_139, s_M_walks_140, s_M_walks_142, s_M_walks_145, s_M_walks_148, s_M_walks_149, s_M_walks_150, s_M_walks_153, s_M_walks_155, s_M_walks_156, s_M_walks_158, s_M_walks_161, s_M_walks_162, s_M_walks_165, s_M_walks_166, s_M_walks_168, s_M_walks_171, s_M_walks_173, s_M_walks_175, s_M_walks_178, s_M_walks_180, s_M_walks_183, s_M_walks_184, s_M_walks_185, s_M_walks_187, s_M_walks_190, s_M_walks_191, s_M_walks_194, s_M_walks_196, s_M_walks_197, s_M_walks_198, s_M_walks_201, s_M_walks_202, s_M_walks_204, s_M_walks_205, s_M_walks_206, s_M_walks_207, s_M_walks_210, s_M_walks_212, s_M_walks_215, s_M_walks_216, s_M_walks_219, s_M_walks_220, s_M_walks_221, s_M_walks_223, s_M_walks_224, s_M_walks_227, s_M_walks_229, s_M_walks_230, s_M_walks_233, s_M_walks_235, s_M_walks_238, s_M_walks_239, s_M_walks_242, s_M_walks_243, s_M_walks_244, s_M_walks_245, s_M_walks_248, s_M_walks_249, s_M_walks_251, s_M_walks_252, s_M_walks_253, s_M_walks_254, s_M_walks_257, s_M_walks_258, s_M_walks_261, s_M_walks_263, s_M_walks_265, s_M_walks_267, s_M_walks_268, s_M_walks_271, s_M_walks_274, s_M_walks_275, Option.bind_some, Option.bind_none, Option.toList_some, Option.toList_none, List.cons_append, List.nil_append, if_true, if_false, rz_clr, true_or, or_true, z00, z11, bZ_eq0, bZ_eq1, nor_self, if_pos, if_neg, zI_add, zI_sub, zI_mul, zI_neg, zI_lt, zI_le, zI_eq, c_M, f_M_0, u_M_0, f_M_1, u_M_1, f_M_2, l_M_2, r_M_2, w_M_2, f_M_3, u_M_3, f_M_4, u_M_4, f_M_5, u_M_5, f_M_6, u_M_6, f_M_7, u_M_7, f_M_8, u_M_8, f_M_9, l_M_9, r_M_9, w_M_9, f_M_10, l_M_10, r_M_10, w_M_10, f_M_11, l_M_11, r_M_11, w_M_11, f_M_12, l_M_12, r_M_12, w_M_12, f_M_13, l_M_13, r_M_13, w_M_13, f_M_14, l_M_14, r_M_14, w_M_14, f_M_15, l_M_15, r_M_15, w_M_15, f_M_16, l_M_16, r_M_16, w_M_16, f_M_17, l_M_17, r_M_17, w_M_17, f_M_18, l_M_18, r_M_18, w_M_18, sset_eq, gset_at, gset_gset, gset_ne, pset_eq, pset_ne, hbe, e8, hlc, mL_mL, hon, hsx, hne, hrm, hpk', z0, f16, f15, hld, fc, ih']
end ML
