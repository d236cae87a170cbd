-- the model: rounds, so many
section MM
variable {N : Nat} {σ : zS} {p q : zP}
theorem mL_self (m : zP) : mL m (m 10 8) = m := by
  unfold mL
  have : zup (m 10) 8 (m 10 8) = m 10 := by
    funext j
    by_cases c : j = 8
    · rw [c, zup_eq]
    · rw [zup_ne c]
  rw [this, pset_self]
theorem z_Mwalks (d : Nat) (hN : 60 ≤ N) (hm : tlR (σ 10 9) 0 p) (hw : wfP p) (hl : lkP p) (h16 : ∀ j : Nat, j < 2 → σ 10 16 j = p 6 j) (h15 : ∀ j : Nat, j < 2 → σ 10 15 j = p 5 j) (q : zP) : rz_dM (d + 4) iM_walks [.ref (bs 10)] (wOf N (gset σ 10 (mL (σ 10) (q 6 0)))) = some (some (.int (zI (wonW (lotN p 99 (startW q p))))), wOf N (gset σ 10 (mL (σ 10) (lotN p 99 (startW q p) 6 0)))) := by
  have hlp := z_Mwalk_lp (N := N) (σ := σ) d hN hm hw hl h16 h15 99 0 (startW q p) rfl (wfW_start hw) (fun _ => rfl) (Or.inl rfl) rfl
  have e0 : startW q p 0 0 = p 4 0 := rfl
  have e1 : startW q p 0 1 = p 4 1 := rfl
  have e2 : startW q p 2 0 = 0 := rfl
  have e6 : startW q p 6 0 = q 6 0 := rfl
  rw [e0, e1, e2, e6, Int.natCast_zero] at hlp
  have f0 : mL (σ 10) (q 6 0) 9 (25 : Int).toNat = p 4 0 := by rw [mL_ne (by decide)]; exact (hm.2.2.2 0 (by decide)).1
  have f1 : mL (σ 10) (q 6 0) 9 (26 : Int).toNat = p 4 1 := by rw [mL_ne (by decide)]; exact (hm.2.2.2 1 (by decide)).1
  simp (disch := first | omega | exact Nat.le_of_ble_eq_true rfl) only [e_M_walks, s_M_walks_0, s_M_walks_1, s_M_walks_4, s_M_walks_6, s_M_walks_7, s_M_walks_8, s_M_walks_9, s_M_walks_12, s_M_walks_14, s_M_walks_15, s_M_walks_16, s_M_walks_17, s_M_walks_18, s_M_walks_19, s_M_walks_23, s_M_walks_25, s_M_walks_28, s_M_walks_29, s_M_walks_30, s_M_walks_31, s_M_walks_33, s_M_walks_34, s_M_walks_36, s_M_walks_38, s_M_walks_41, s_M_walks_42, s_M_walks_45, s_M_walks_46, s_M_walks_48, s_M_walks_51, s_M_walks_52, s_M_walks_55, s_M_walks_56, s_M_walks_59, s_M_walks_61, s_M_walks_63, s_M_walks_65, s_M_walks_67, s_M_walks_70, s_M_walks_71, s_M_walks_74, s_M_walks_76, s_M_walks_77, s_M_walks_80, s_M_walks_82, s_M_walks_83, s_M_walks_85, s_M_walks_86, s_M_walks_89, s_M_walks_90, s_M_walks_91, s_M_walks_92, s_M_walks_95, s_M_walks_97, s_M_walks_98, s_M_walks_100, s_M_walks_101, s_M_walks_103, s_M_walks_104, s_M_walks_106, s_M_walks_109, s_M_walks_110, s_M_walks_112, s_M_walks_113, s_M_walks_117, s_M_walks_119, s_M_walks_120, s_M_walks_121, s_M_walks_122, s_M_walks_125, s_M_walks_127, s_M_walks_130, s_M_walks_132, s_M_walks_134, s_M_walks_136, s_M_walks_137, s_M_walks_138, s_M_walks_139, s_M_walks_140, s_M_walks_142, s_M_walks_145, s_M_walks_148, s_M_walks_149, s_M_walks_150, s_M_walks_153, s_M_walks_155, s_M_walks_156, s_M_walks_158, s_M_walks_161, s_M_walks_162, s_M_walks_165, s_M_walks_166, s_M_walks_168, s_M_walks_171, s_M_walks_173, s_M_walks_175, s_M_walks_178, s_M_walks_180, s_M_walks_183, s_M_walks_184, s_M_walks_185, s_M_walks_187, s_M_walks_190, s_M_walks_191, s_M_walks_194, s_M_walks_196, s_M_walks_197, s_M_walks_198, s_M_walks_201, s_M_walks_202, s_M_walks_204, s_M_walks_205, s_M_walks_206, s_M_walks_207, s_M_walks_210, s_M_walks_212, s_M_walks_215, s_M_walks_216, s_M_walks_219, s_M_walks_220, s_M_walks_221, s_M_walks_223, s_M_walks_224, s_M_walks_227, s_M_walks_229, s_M_walks_230, s_M_walks_233, s_M_walks_235, s_M_walks_238, s_M_walks_239, s_M_walks_242, s_M_walks_243, s_M_walks_244, s_M_walks_245, s_M_walks_248, s_M_walks_249, s_M_walks_251, s_M_walks_252, s_M_walks_253, s_M_walks_254, s_M_walks_257, s_M_walks_258, s_M_walks_261, s_M_walks_263, s_M_walks_265, s_M_walks_267, s_M_walks_268, s_M_walks_271, s_M_walks_274, s_M_walks_275, Option.bind_some, Option.bind_none, Option.toList_some, Option.toList_none, List.cons_append, List.nil_append, if_true, if_false, rz_clr, true_or, or_true, z00, z11, bZ_eq0, bZ_eq1, nor_self, if_pos, if_neg, zI_add, zI_sub, zI_mul, zI_neg, zI_lt, zI_le, zI_eq, c_M, f_M_0, u_M_0, f_M_1, u_M_1, f_M_2, l_M_2, r_M_2, w_M_2, f_M_3, u_M_3, f_M_4, u_M_4, f_M_5, u_M_5, f_M_6, u_M_6, f_M_7, u_M_7, f_M_8, u_M_8, f_M_9, l_M_9, r_M_9, w_M_9, f_M_10, l_M_10, r_M_10, w_M_10, f_M_11, l_M_11, r_M_11, w_M_11, f_M_12, l_M_12, r_M_12, w_M_12, f_M_13, l_M_13, r_M_13, w_M_13, f_M_14, l_M_14, r_M_14, w_M_14, f_M_15, l_M_15, r_M_15, w_M_15, f_M_16, l_M_16, r_M_16, w_M_16, f_M_17, l_M_17, r_M_17, w_M_17, f_M_18, l_M_18, r_M_18, w_M_18, gset_at, f0, f1, hlp]
theorem z_Mrounds_lp (d : Nat) (hN : 60 ≤ N) (hm : tlR (σ 10 9) 0 p) (hw : wfP p) (hl : lkP p) (h16 : ∀ j : Nat, j < 2 → σ 10 16 j = p 6 j) (h15 : ∀ j : Nat, j < 2 → σ 10 15 j = p 5 j) {K : Nat} (hK : K ≤ 99) : ∀ (n k : Nat) (q : zP) (s : Int), n + k = K → (-(k : Int) ≤ s ∧ s ≤ k) → rz_den (rz_dM (d + 4)) (rz_at tb_X5_rounds) (some .int) 26 [some (.ref (bs 10)), some (.int (zI K)), some (.int (zI s)), some (.int (zI k))] [] (wOf N (gset σ 10 (mL (σ 10) (q 6 0)))) = some (some (.int (zI (rdN p n q s).1)), wOf N (gset σ 10 (mL (σ 10) ((rdN p n q s).2 6 0)))) := by
  intro n
  induction n with
  | zero =>
    intro k q s hk hs
    obtain rfl : k = K := by omega
    rw [s_M_rounds_26, rdN]
    simp (disch := first | omega | exact Nat.le_of_ble_eq_true rfl) only [e_M_rounds, s_M_rounds_0, s_M_rounds_1, s_M_rounds_2, s_M_rounds_5, s_M_rounds_6, s_M_rounds_7, s_M_rounds_9, s_M_rounds_12, s_M_rounds_15, s_M_rounds_17, s_M_rounds_18, s_M_rounds_19, s_M_rounds_22, s_M_rounds_23, s_M_rounds_24, s_M_rounds_25, s_M_rounds_27, s_M_rounds_28, s_M_rounds_31, s_M_rounds_32, s_M_rounds_33, s_M_rounds_36, s_M_rounds_37, s_M_rounds_38, s_M_rounds_41, s_M_rounds_44, s_M_rounds_45, Option.bind_some, Option.bind_none, Option.toList_some, Option.toList_none, List.cons_append, List.nil_append, if_true, if_false, rz_clr, true_or, or_true, z00, z11, bZ_eq0, bZ_eq1, nor_self, if_pos, if_neg, zI_add, zI_sub, zI_mul, zI_neg, zI_lt, zI_le, zI_eq]
  | succ n ih =>
    intro k q s hk hs
    have hwk := z_Mwalks (N := N) (σ := σ) d hN hm hw hl h16 h15 q
    have hwr := wonW_rg (lotN p 99 (startW q p))
    have ih' := ih (k + 1) (lotN p 99 (startW q p)) (s + wonW (lotN p 99 (startW q p))) (by omega) (by omega)
    simp only [Int.natCast_add, Int.natCast_one] at ih'
    rw [s_M_rounds_26, rdN]
    simp (disch := first | omega | exact Nat.le_of_ble_eq_true rfl) only [e_M_rounds, s_M_rounds_0, s_M_rounds_1, s_M_rounds_2, s_M_rounds_5, s_M_rounds_6, s_M_rounds_7, s_M_rounds_9, s_M_rounds_12, s_M_rounds_15, s_M_rounds_17, s_M_rounds_18, s_M_rounds_19, s_M_rounds_22, s_M_rounds_23, s_M_rounds_24, s_M_rounds_25, s_M_rounds_27, s_M_rounds_28, s_M_rounds_31, s_M_rounds_32, s_M_rounds_33, s_M_rounds_36, s_M_rounds_37, s_M_rounds_38, s_M_rounds_41, s_M_rounds_44, s_M_rounds_45, Option.bind_some, Option.bind_none, Option.toList_some, Option.toList_none, List.cons_append, List.nil_append, if_true, if_false, rz_clr, true_or, or_true, z00, z11, bZ_eq0, bZ_eq1, nor_self, if_pos, if_neg, zI_add, zI_sub, zI_mul, zI_neg, zI_lt, zI_le, zI_eq, c_M, f_M_0, u_M_0, f_M_1, u_M_1, f_M_2, l_M_2, r_M_2, w_M_2, f_M_3, u_M_3, f_M_4, u_M_4, f_M_5, u_M_5, f_M_6, u_M_6, f_M_7, u_M_7, f_M_8, u_M_8, f_M_9, l_M_9, r_M_9, w_M_9, f_M_10, l_M_10, r_M_10, w_M_10, f_M_11, l_M_11, r_M_11, w_M_11, f_M_12, l_M_12, r_M_12, w_M_12, f_M_13, l_M_13, r_M_13, w_M_13, f_M_14, l_M_14, r_M_14, w_M_14, f_M_15, l_M_15, r_M_15, w_M_15, f_M_16, l_M_16, r_M_16, w_M_16, f_M_17, l_M_17, r_M_17, w_M_17, f_M_18, l_M_18, r_M_18, w_M_18, hwk, ih']
theorem z_Mrounds (d : Nat) (hN : 60 ≤ N) (hm : tlR (σ 10 9) 0 p) (hs : sR (σ 10 10) q) (hw : wfP p) (hl : lkP p) {n : Int} (hn : rg n) (w3 : zP) : ∃ m', rz_dM (d + 5) iM_rounds [.ref (bs 10), .int (zI n)] (wOf N σ) = some (some (.int (zI (if 1 ≤ n ∧ n ≤ 99 then (rdA w3 q p n).1 else -1000000))), wOf N (gset σ 10 m')) ∧ sm [0, 10, 15, 16] (σ 10) m' ∧ sR (m' 10) (if 1 ≤ n ∧ n ≤ 99 then pset q 6 (fun _ => (rdA w3 q p n).2) else q) := by
  by_cases c : 1 ≤ n ∧ n ≤ 99
  · rw [if_pos c, if_pos c]
    obtain ⟨K, rfl⟩ : ∃ K : Nat, n = K := ⟨n.toNat, by omega⟩
    have hsm : sm [0, 10, 15, 16] (σ 10) (asW (T0 (σ 10))) := sm_tr (sm_mono (T0_sm _) (by decide)) (sm_mono (asW_sm _) (by decide))
    have hm0 : tlR (T0 (σ 10) 9) 0 p := hm
    have h8 : asW (T0 (σ 10)) 10 8 = q 6 0 := hs.2.2.2.2.2.2
    have hlp := z_Mrounds_lp (N := N) (σ := gset σ 10 (asW (T0 (σ 10)))) d hN (p := p) (by rw [gset_at]; exact hm) hw hl (by rw [gset_at]; intro j hj; exact asW_16 hm0 hj) (by rw [gset_at]; intro j hj; exact asW_15 hm0 hj) (K := K) (by omega) K 0 (pset w3 6 (fun _ => q 6 0)) 0 (by omega) (by omega)
    rw [gset_at, gset_gset, gset_gset, pset_eq, ← h8, mL_self, h8, Int.natCast_zero] at hlp
    have ha0 := z_MasTold (N := N) (σ := gset σ 10 (T0 (σ 10))) (d + 3) hN
    rw [gset_at, gset_gset] at ha0
    have eA : rdA w3 q p (K : Int) = ((rdN p K (pset w3 6 (fun _ => q 6 0)) 0).1, (rdN p K (pset w3 6 (fun _ => q 6 0)) 0).2 6 0) := rfl
    rw [eA]
    refine ⟨mL (asW (T0 (σ 10))) ((rdN p K (pset w3 6 (fun _ => q 6 0)) 0).2 6 0), ?_, sm_pset hsm (by decide), ?_⟩
    · generalize rdN p K (pset w3 6 (fun _ => q 6 0)) 0 = R at hlp
      generalize asW (T0 (σ 10)) = m1 at *
      unfold T0 at *
      simp (disch := first | omega | exact Nat.le_of_ble_eq_true rfl) only [e_M_rounds, s_M_rounds_0, s_M_rounds_1, s_M_rounds_2, s_M_rounds_5, s_M_rounds_6, s_M_rounds_7, s_M_rounds_9, s_M_rounds_12, s_M_rounds_15, s_M_rounds_17, s_M_rounds_18, s_M_rounds_19, s_M_rounds_22, s_M_rounds_23, s_M_rounds_24, s_M_rounds_25, s_M_rounds_27, s_M_rounds_28, s_M_rounds_31, s_M_rounds_32, s_M_rounds_33, s_M_rounds_36, s_M_rounds_37, s_M_rounds_38, s_M_rounds_41, s_M_rounds_44, s_M_rounds_45, Option.bind_some, Option.bind_none, Option.toList_some, Option.toList_none, List.cons_append, List.nil_append, if_true, if_false, rz_clr, true_or, or_true, z00, z11, bZ_eq0, bZ_eq1, nor_self, if_pos, if_neg, zI_add, zI_sub, zI_mul, zI_neg, zI_lt, zI_le, zI_eq, c_M, f_M_0, u_M_0, f_M_1, u_M_1, f_M_2, l_M_2, r_M_2, w_M_2, f_M_3, u_M_3, f_M_4, u_M_4, f_M_5, u_M_5, f_M_6, u_M_6, f_M_7, u_M_7, f_M_8, u_M_8, f_M_9, l_M_9, r_M_9, w_M_9, f_M_10, l_M_10, r_M_10, w_M_10, f_M_11, l_M_11, r_M_11, w_M_11, f_M_12, l_M_12, r_M_12, w_M_12, f_M_13, l_M_13, r_M_13, w_M_13, f_M_14, l_M_14, r_M_14, w_M_14, f_M_15, l_M_15, r_M_15, w_M_15, f_M_16, l_M_16, r_M_16, w_M_16, f_M_17, l_M_17, r_M_17, w_M_17, f_M_18, l_M_18, r_M_18, w_M_18, sset_eq, gset_at, gset_gset, gset_ne, pset_eq, pset_ne, z_Min, bZ_pos c, ha0, hlp]
    · obtain ⟨r0, r1, r3, r4, r5, r6, r7⟩ := hs
      exact ⟨r0, r1, r3, r4, r5, r6, rfl⟩
  · rw [if_neg c, if_neg c]
    refine ⟨T0 (σ 10), ?_, sm_mono (T0_sm _) (by decide), hs⟩
    unfold T0
    simp (disch := first | omega | exact Nat.le_of_ble_eq_true rfl) only [e_M_rounds, s_M_rounds_0, s_M_rounds_1, s_M_rounds_2, s_M_rounds_5, s_M_rounds_6, s_M_rounds_7, s_M_rounds_9, s_M_rounds_12, s_M_rounds_15, s_M_rounds_17, s_M_rounds_18, s_M_rounds_19, s_M_rounds_22, s_M_rounds_23, s_M_rounds_24, s_M_rounds_25, s_M_rounds_27, s_M_rounds_28, s_M_rounds_31, s_M_rounds_32, s_M_rounds_33, s_M_rounds_36, s_M_rounds_37, s_M_rounds_38, s_M_rounds_41, s_M_rounds_44, s_M_rounds_45, Option.bind_some, Option.bind_none, Option.toList_some, Option.toList_none, List.cons_append, List.nil_append, if_true, if_false, rz_clr, true_or, or_true, z00, z11, bZ_eq0, bZ_eq1, nor_self, if_pos, if_neg, zI_add, zI_sub, zI_mul, zI_neg, zI_lt, zI_le, zI_eq, c_M, f_M_0, u_M_0, f_M_1, u_M_1, f_M_2, l_M_2, r_M_2, w_M_2, f_M_3, u_M_3, f_M_4, u_M_4, f_M_5, u_M_5, f_M_6, u_M_6, f_M_7, u_M_7, f_M_8, u_M_8, f_M_9, l_M_9, r_M_9, w_M_9, f_M_10, l_M_10, r_M_10, w_M_10, f_M_11, l_M_11, r_M_11, w_M_11, f_M_12, l_M_12, r_M_12, w_M_12, f_M_13, l_M_13, r_M_13, w_M_13, f_M_14, l_M_14, r_M_14, w_M_14, f_M_15, l_M_15, r_M_15, w_M_15, f_M_16, l_M_16, r_M_16, w_M_16, f_M_17, l_M_17, r_M_17, w_M_17, f_M_18, l_M_18, r_M_18, w_M_18, sset_eq, gset_at, gset_gset, gset_ne, pset_eq, pset_ne, z_Min, bZ_neg c]
end MM
