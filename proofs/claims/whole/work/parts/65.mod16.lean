-- the model: told, the value of a position
section MP
variable {N : Nat} {σ : zS} {p : zP} {la hm V : Nat → Int}
theorem cl_in {K : Nat} (hK : vK p K) {j : Nat} (hj : j < 2) : (cl K j : Int) < p 8 0 * p 9 0 := by
  have e : j = 0 ∨ j = 1 := by omega
  rcases e with e | e <;> rw [e]
  · exact hK.2.2.2.1
  · exact hK.2.2.2.2
theorem tm_sub {K : Nat} : zI 1 - zI ((tl K : Nat) : Int) = zI ((tm K : Nat) : Int) := by
  have := tl_lt K
  rw [zI_sub, show ((tm K : Nat) : Int) = 1 - ((tl K : Nat) : Int) by unfold tm; omega]
theorem z_Mlooks (d : Nat) (hN : 60 ≤ N) (hw : wfP p) (hl : lkP p) (hQ : MGQ (σ 10) p la hm V) {K : Nat} (hK : vK p K) : ∃ c l, rz_dM (d + 4) iM_looks [.ref (bs 10), .int (zI (cl K 0 : Nat)), .int (zI (cl K 1 : Nat)), .int (zI (lf K 0 : Nat)), .int (zI (lf K 1 : Nat)), .int (zI (tl K : Nat))] (wOf N σ) = some (some (.int (zI (oS (mayK p la K) 8 : Nat))), wOf N (gset σ 10 (lkM (σ 10) c l))) ∧ (∀ i, i < 8 → mayK p la K i = true → c i = dnK p la hm V K i ∧ (0 < lf K (tm K) → l i = dnK p la hm V (lessK K) i)) := by
  have ha := wfP_area hw
  obtain ⟨hm9, h16, h15, h14, hV⟩ := id hQ
  have htm := tm_lt K
  obtain ⟨e16, r1, r2⟩ := h16 (tm K) htm
  obtain ⟨u, hu⟩ : ∃ u : Nat, la (tm K) = u := ⟨(la (tm K)).toNat, by omega⟩
  have hcl := cl_in hK htm
  have hcl2 := cl_in hK (j := 1 - tm K) (by omega)
  have hmb := z_MmayBe (N := N) (σ := σ) d hN hm9 hw hl (j := tm K) (u := u) (own := cl K (tm K)) htm (by rw [e16, hu]) (by omega) hcl (oth := (cl K (1 - tm K) : Nat)) (by omega)
  have emk : mayP p u (cl K (tm K)) (cl K (1 - tm K) : Nat) = oS (mayK p la K) 8 := by unfold mayP mayK; rw [hu]
  rw [emk] at hmb
  have hlp := fun x1 x2 x3 x4 l13 => z_Mlooks_lp (N := N) (σ := σ) d hN hw hl hQ hK x1 x2 x3 x4 8 0 rfl (σ 10 17) (σ 10 18) l13
  have eW : gset σ 10 (lkM (σ 10) (σ 10 17) (σ 10 18)) = σ := by unfold lkM; rw [pset_self, pset_self, gset_self]
  rw [eW, Int.natCast_zero] at hlp
  obtain ⟨c', l', h1, -, h3⟩ := hlp (some (.int (zI (cl K 0 : Nat)))) (some (.int (zI (cl K 1 : Nat)))) (some (.int (zI (lf K 0 : Nat)))) (some (.int (zI (lf K 1 : Nat)))) none
  refine ⟨c', l', ?_, fun i hi hi2 => h3 i (by omega) hi hi2⟩
  have ets := tm_sub (K := K)
  rcases tm_c (K := K) with ⟨c1, c2, c3⟩ | ⟨c1, c2, c3⟩
  · rw [c1] at h1 hmb ets
    simp only [Nat.sub_zero] at h1 hmb
    simp (disch := first | omega | exact Nat.le_of_ble_eq_true rfl) only [e_M_looks, s_M_looks_0, s_M_looks_1, s_M_looks_3, s_M_looks_4, s_M_looks_6, s_M_looks_8, s_M_looks_11, s_M_looks_12, s_M_looks_15, s_M_looks_16, s_M_looks_18, s_M_looks_20, s_M_looks_23, s_M_looks_24, s_M_looks_27, s_M_looks_28, s_M_looks_30, s_M_looks_32, s_M_looks_35, s_M_looks_36, s_M_looks_39, s_M_looks_41, s_M_looks_43, s_M_looks_45, s_M_looks_48, s_M_looks_50, s_M_looks_53, s_M_looks_54, s_M_looks_56, s_M_looks_57, s_M_looks_59, s_M_looks_61, s_M_looks_63, s_M_looks_66, s_M_looks_68, s_M_looks_69, s_M_looks_73, s_M_looks_75, s_M_looks_78, s_M_looks_80, s_M_looks_82, s_M_looks_83, s_M_looks_84, s_M_looks_85, s_M_looks_86, s_M_looks_89, s_M_looks_90, s_M_looks_91, s_M_looks_94, s_M_looks_96, s_M_looks_97, s_M_looks_99, s_M_looks_101, s_M_looks_104, s_M_looks_106, s_M_looks_107, s_M_looks_110, s_M_looks_112, s_M_looks_113, s_M_looks_115, s_M_looks_117, s_M_looks_119, s_M_looks_121, s_M_looks_123, s_M_looks_125, s_M_looks_128, s_M_looks_129, s_M_looks_130, s_M_looks_133, s_M_looks_135, s_M_looks_137, s_M_looks_140, s_M_looks_141, s_M_looks_143, s_M_looks_145, s_M_looks_147, s_M_looks_149, s_M_looks_150, s_M_looks_151, s_M_looks_153, s_M_looks_155, s_M_looks_158, s_M_looks_161, s_M_looks_162, s_M_looks_163, s_M_looks_166, s_M_looks_169, s_M_looks_171, Option.bind_some, Option.bind_none, Option.toList_some, Option.toList_none, List.cons_append, List.nil_append, if_true, if_false, rz_clr, true_or, or_true, z00, z11, bZ_eq0, bZ_eq1, nor_self, if_pos, if_neg, zI_lt, zI_le, zI_eq, c_M, f_M_0, u_M_0, f_M_1, u_M_1, f_M_2, l_M_2, r_M_2, w_M_2, f_M_3, u_M_3, f_M_4, u_M_4, f_M_5, u_M_5, f_M_6, u_M_6, f_M_7, u_M_7, f_M_8, u_M_8, f_M_9, l_M_9, r_M_9, w_M_9, f_M_10, l_M_10, r_M_10, w_M_10, f_M_11, l_M_11, r_M_11, w_M_11, f_M_12, l_M_12, r_M_12, w_M_12, f_M_13, l_M_13, r_M_13, w_M_13, f_M_14, l_M_14, r_M_14, w_M_14, f_M_15, l_M_15, r_M_15, w_M_15, f_M_16, l_M_16, r_M_16, w_M_16, f_M_17, l_M_17, r_M_17, w_M_17, f_M_18, l_M_18, r_M_18, w_M_18, ets, hmb, h1]
  · rw [c1] at h1 hmb ets
    simp only [Nat.sub_self] at h1 hmb
    simp (disch := first | omega | exact Nat.le_of_ble_eq_true rfl) only [e_M_looks, s_M_looks_0, s_M_looks_1, s_M_looks_3, s_M_looks_4, s_M_looks_6, s_M_looks_8, s_M_looks_11, s_M_looks_12, s_M_looks_15, s_M_looks_16, s_M_looks_18, s_M_looks_20, s_M_looks_23, s_M_looks_24, s_M_looks_27, s_M_looks_28, s_M_looks_30, s_M_looks_32, s_M_looks_35, s_M_looks_36, s_M_looks_39, s_M_looks_41, s_M_looks_43, s_M_looks_45, s_M_looks_48, s_M_looks_50, s_M_looks_53, s_M_looks_54, s_M_looks_56, s_M_looks_57, s_M_looks_59, s_M_looks_61, s_M_looks_63, s_M_looks_66, s_M_looks_68, s_M_looks_69, s_M_looks_73, s_M_looks_75, s_M_looks_78, s_M_looks_80, s_M_looks_82, s_M_looks_83, s_M_looks_84, s_M_looks_85, s_M_looks_86, s_M_looks_89, s_M_looks_90, s_M_looks_91, s_M_looks_94, s_M_looks_96, s_M_looks_97, s_M_looks_99, s_M_looks_101, s_M_looks_104, s_M_looks_106, s_M_looks_107, s_M_looks_110, s_M_looks_112, s_M_looks_113, s_M_looks_115, s_M_looks_117, s_M_looks_119, s_M_looks_121, s_M_looks_123, s_M_looks_125, s_M_looks_128, s_M_looks_129, s_M_looks_130, s_M_looks_133, s_M_looks_135, s_M_looks_137, s_M_looks_140, s_M_looks_141, s_M_looks_143, s_M_looks_145, s_M_looks_147, s_M_looks_149, s_M_looks_150, s_M_looks_151, s_M_looks_153, s_M_looks_155, s_M_looks_158, s_M_looks_161, s_M_looks_162, s_M_looks_163, s_M_looks_166, s_M_looks_169, s_M_looks_171, Option.bind_some, Option.bind_none, Option.toList_some, Option.toList_none, List.cons_append, List.nil_append, if_true, if_false, rz_clr, true_or, or_true, z00, z11, bZ_eq0, bZ_eq1, nor_self, if_pos, if_neg, zI_lt, zI_le, zI_eq, c_M, f_M_0, u_M_0, f_M_1, u_M_1, f_M_2, l_M_2, r_M_2, w_M_2, f_M_3, u_M_3, f_M_4, u_M_4, f_M_5, u_M_5, f_M_6, u_M_6, f_M_7, u_M_7, f_M_8, u_M_8, f_M_9, l_M_9, r_M_9, w_M_9, f_M_10, l_M_10, r_M_10, w_M_10, f_M_11, l_M_11, r_M_11, w_M_11, f_M_12, l_M_12, r_M_12, w_M_12, f_M_13, l_M_13, r_M_13, w_M_13, f_M_14, l_M_14, r_M_14, w_M_14, f_M_15, l_M_15, r_M_15, w_M_15, f_M_16, l_M_16, r_M_16, w_M_16, f_M_17, l_M_17, r_M_17, w_M_17, f_M_18, l_M_18, r_M_18, w_M_18, ets, hmb, h1]
theorem less_wt {K : Nat} (hK : K < 8192) (h : 0 < lf K (tm K)) : wtK (lessK K) = wtK K := by
  obtain ⟨f1, f2, f3, f4, f5⟩ := less_f hK h
  unfold wtK
  rw [f3]
theorem exB_bits (S : Nat → Bool) (b : Int) : ∀ k, k < 8 → exB (fun i => (oS S 8).testBit i) b k = exB S b k := by
  intro k hk
  show ((oS S 8).testBit k && _) = (S k && _)
  rw [oS_tb, decide_eq_true hk, Bool.true_and]
theorem rf_iff (hV : ∀ K, -1 ≤ V K ∧ V K ≤ 1) {K k : Nat} (hk : k < 8) (hmk : mayK p la K k = true) : rfB p la K k = true ↔ (0 < lf K (tm K) ∧ 1 < cN (fun i => (oS (mayK p la K) 8).testBit i) 8) := by
  have hlt := oS_lt (mayK p la K) 8
  have e := ones_wo (oS (mayK p la K) 8) (by omega) k hk (by rw [oS_tb, decide_eq_true hk, Bool.true_and]; exact hmk)
  rw [woB_ex (mayK p la K) (b := (k : Int)) (by omega)] at e
  unfold rfB
  rw [Bool.and_eq_true, decide_eq_true_eq, decide_eq_true_eq, e]
theorem z_Mtold (d : Nat) (hN : 60 ≤ N) (hV : ∀ K, -1 ≤ V K ∧ V K ≤ 1) {K k : Nat} (hK : vK p K) (hk : k < 8) (hmk : mayK p la K k = true) (hc : ∀ i, i < 8 → mayK p la K i = true → σ 10 17 i = dnK p la hm V K i ∧ (0 < lf K (tm K) → σ 10 18 i = dnK p la hm V (lessK K) i)) : rz_dM (d + 3) iM_told [.ref (bs 10), .int (zI k), .int (zI (oS (mayK p la K) 8 : Nat)), .int (zI (lf K (tm K) : Nat)), .int (zI (tl K : Nat))] (wOf N σ) = some (some (.int (zI (wtK K * tldK p la hm V (rfB p la K k) K k))), wOf N σ) := by
  have hlt := oS_lt (mayK p la K) 8
  have hlf : lf K (tm K) < 4 := lf_lt K _
  have hon := fun w => z_Mones (d + 1) (b := oS (mayK p la K) 8) (by omega) w
  have hcl := cN_le (fun i => (oS (mayK p la K) 8).testBit i) 8
  obtain ⟨e17, e18⟩ := hc k hk hmk
  have hdr := dnK_rg (p := p) (la := la) (hm := hm) hV K k
  have e17' : σ 10 17 ((k : Int)).toNat = dnK p la hm V K k := by rw [Int.toNat_natCast]; exact e17
  have hrf := rf_iff hV hk hmk
  unfold tldK
  by_cases c : rfB p la K k = true
  · obtain ⟨c1, c2⟩ := hrf.mp c
    rw [if_pos c]
    have hr : ∀ i : Nat, i < 8 → rz_ald (wOf N σ) (ah 10 18) 0 (zI i) = some (zI (σ 10 18 i)) := by
      intro i hi
      have := r_M_18 (N := N) (σ := σ) hN (i := (i : Int)) (by omega) (by omega)
      rw [Int.toNat_natCast] at this
      exact this
    have hbo := fun f => z_MbestOf (N := N) (σ := σ) d hN (x := ah 10 18) (mb := oS (mayK p la K) 8) (by omega) (but := (k : Int)) (by omega) (R := σ 10 18) hr (by
      intro i hi he
      rw [exB_bits _ _ i hi] at he
      have hmi : mayK p la K i = true := by unfold exB at he; rw [Bool.and_eq_true] at he; exact he.1
      rw [(hc i hi hmi).2 c1]
      exact dnK_rg hV _ _) f
    have hrr : -1 ≤ refK p la hm V K k ∧ refK p la hm V K k ≤ 1 := mostB_rg hV (lessK K) k
    have eref : ∀ f, wf f = wtK K → wf f * bm2 (exB (fun i => (oS (mayK p la K) 8).testBit i) k) (fun i => wf f * σ 10 18 i) 8 = refK p la hm V K k := by
      intro f hf
      have hne : oS (exB (mayK p la K) k) 8 ≠ 0 := by unfold rfB at c; rw [Bool.and_eq_true, decide_eq_true_eq, decide_eq_true_eq] at c; exact c.2
      rw [bm2_congr (S' := exB (mayK p la K) k) (f' := fun i => wtK K * dnK p la hm V (lessK K) i) (exB_bits _ _) (fun i hi he => by
        rw [exB_bits _ _ i hi] at he
        have hmi : mayK p la K i = true := by unfold exB at he; rw [Bool.and_eq_true] at he; exact he.1
        rw [hf, (hc i hi hmi).2 c1]) 8 (Nat.le_refl 8)]
      rw [bm2_bmx (fun i => (wmul_rg (wtK_pm K) (dnK_rg hV _ _)).1) hne, hf]
      unfold refK mostB
      rw [less_wt hK.1 c1, exB_less (k := k) hK c1]
    rcases tm_c (K := K) with ⟨t1, t2, t3⟩ | ⟨t1, t2, t3⟩
    · have hbo' := hbo false
      rw [eref false (by rw [t3]; rfl), show bN false = 0 from rfl] at hbo'
      have hbt := fun w => z_Mbetter (d + 1) (a := dnK p la hm V K k) (b := refK p la hm V K k) (by omega) (by omega) true w
      rw [if_pos rfl, show bN true = 1 from rfl] at hbt
      have ee : max (dnK p la hm V K k) (refK p la hm V K k) = wtK K * min (wtK K * dnK p la hm V K k) (wtK K * refK p la hm V K k) := by rw [t3]; omega
      rw [ee] at hbt
      rw [t2]
      simp (disch := first | omega | exact Nat.le_of_ble_eq_true rfl) only [e_M_told, s_M_told_0, s_M_told_1, s_M_told_4, s_M_told_5, s_M_told_8, s_M_told_9, s_M_told_12, s_M_told_13, s_M_told_16, s_M_told_17, s_M_told_18, s_M_told_19, s_M_told_20, s_M_told_23, s_M_told_24, s_M_told_25, s_M_told_26, s_M_told_27, s_M_told_30, s_M_told_31, s_M_told_32, s_M_told_34, s_M_told_37, s_M_told_38, s_M_told_41, s_M_told_42, s_M_told_45, s_M_told_47, s_M_told_50, s_M_told_51, s_M_told_54, s_M_told_55, s_M_told_58, Option.bind_some, Option.bind_none, Option.toList_some, Option.toList_none, List.cons_append, List.nil_append, if_true, if_false, rz_clr, true_or, or_true, z00, z11, bZ_eq0, bZ_eq1, nor_self, if_pos, if_neg, zI_lt, zI_le, zI_eq, c_M, f_M_0, u_M_0, f_M_1, u_M_1, f_M_2, l_M_2, r_M_2, w_M_2, f_M_3, u_M_3, f_M_4, u_M_4, f_M_5, u_M_5, f_M_6, u_M_6, f_M_7, u_M_7, f_M_8, u_M_8, f_M_9, l_M_9, r_M_9, w_M_9, f_M_10, l_M_10, r_M_10, w_M_10, f_M_11, l_M_11, r_M_11, w_M_11, f_M_12, l_M_12, r_M_12, w_M_12, f_M_13, l_M_13, r_M_13, w_M_13, f_M_14, l_M_14, r_M_14, w_M_14, f_M_15, l_M_15, r_M_15, w_M_15, f_M_16, l_M_16, r_M_16, w_M_16, f_M_17, l_M_17, r_M_17, w_M_17, f_M_18, l_M_18, r_M_18, w_M_18, hon, e17', hbo', hbt]
    · have hbo' := hbo true
      rw [eref true (by rw [t3]; rfl), show bN true = 1 from rfl] at hbo'
      have hbt := fun w => z_Mbetter (d + 1) (a := dnK p la hm V K k) (b := refK p la hm V K k) (by omega) (by omega) false w
      rw [if_neg Bool.false_ne_true, show bN false = 0 from rfl] at hbt
      have ee : min (dnK p la hm V K k) (refK p la hm V K k) = wtK K * min (wtK K * dnK p la hm V K k) (wtK K * refK p la hm V K k) := by rw [t3]; omega
      rw [ee] at hbt
      rw [t2]
      simp (disch := first | omega | exact Nat.le_of_ble_eq_true rfl) only [e_M_told, s_M_told_0, s_M_told_1, s_M_told_4, s_M_told_5, s_M_told_8, s_M_told_9, s_M_told_12, s_M_told_13, s_M_told_16, s_M_told_17, s_M_told_18, s_M_told_19, s_M_told_20, s_M_told_23, s_M_told_24, s_M_told_25, s_M_told_26, s_M_told_27, s_M_told_30, s_M_told_31, s_M_told_32, s_M_told_34, s_M_told_37, s_M_told_38, s_M_told_41, s_M_told_42, s_M_told_45, s_M_told_47, s_M_told_50, s_M_told_51, s_M_told_54, s_M_told_55, s_M_told_58, Option.bind_some, Option.bind_none, Option.toList_some, Option.toList_none, List.cons_append, List.nil_append, if_true, if_false, rz_clr, true_or, or_true, z00, z11, bZ_eq0, bZ_eq1, nor_self, if_pos, if_neg, zI_lt, zI_le, zI_eq, c_M, f_M_0, u_M_0, f_M_1, u_M_1, f_M_2, l_M_2, r_M_2, w_M_2, f_M_3, u_M_3, f_M_4, u_M_4, f_M_5, u_M_5, f_M_6, u_M_6, f_M_7, u_M_7, f_M_8, u_M_8, f_M_9, l_M_9, r_M_9, w_M_9, f_M_10, l_M_10, r_M_10, w_M_10, f_M_11, l_M_11, r_M_11, w_M_11, f_M_12, l_M_12, r_M_12, w_M_12, f_M_13, l_M_13, r_M_13, w_M_13, f_M_14, l_M_14, r_M_14, w_M_14, f_M_15, l_M_15, r_M_15, w_M_15, f_M_16, l_M_16, r_M_16, w_M_16, f_M_17, l_M_17, r_M_17, w_M_17, f_M_18, l_M_18, r_M_18, w_M_18, hon, e17', hbo', hbt]
  · rw [if_neg c, wt_wt]
    by_cases c1 : 0 < lf K (tm K)
    · have c2 : ¬ 1 < cN (fun i => (oS (mayK p la K) 8).testBit i) 8 := fun z => c (hrf.mpr ⟨c1, z⟩)
      simp (disch := first | omega | exact Nat.le_of_ble_eq_true rfl) only [e_M_told, s_M_told_0, s_M_told_1, s_M_told_4, s_M_told_5, s_M_told_8, s_M_told_9, s_M_told_12, s_M_told_13, s_M_told_16, s_M_told_17, s_M_told_18, s_M_told_19, s_M_told_20, s_M_told_23, s_M_told_24, s_M_told_25, s_M_told_26, s_M_told_27, s_M_told_30, s_M_told_31, s_M_told_32, s_M_told_34, s_M_told_37, s_M_told_38, s_M_told_41, s_M_told_42, s_M_told_45, s_M_told_47, s_M_told_50, s_M_told_51, s_M_told_54, s_M_told_55, s_M_told_58, Option.bind_some, Option.bind_none, Option.toList_some, Option.toList_none, List.cons_append, List.nil_append, if_true, if_false, rz_clr, true_or, or_true, z00, z11, bZ_eq0, bZ_eq1, nor_self, if_pos, if_neg, zI_lt, zI_le, zI_eq, c_M, f_M_0, u_M_0, f_M_1, u_M_1, f_M_2, l_M_2, r_M_2, w_M_2, f_M_3, u_M_3, f_M_4, u_M_4, f_M_5, u_M_5, f_M_6, u_M_6, f_M_7, u_M_7, f_M_8, u_M_8, f_M_9, l_M_9, r_M_9, w_M_9, f_M_10, l_M_10, r_M_10, w_M_10, f_M_11, l_M_11, r_M_11, w_M_11, f_M_12, l_M_12, r_M_12, w_M_12, f_M_13, l_M_13, r_M_13, w_M_13, f_M_14, l_M_14, r_M_14, w_M_14, f_M_15, l_M_15, r_M_15, w_M_15, f_M_16, l_M_16, r_M_16, w_M_16, f_M_17, l_M_17, r_M_17, w_M_17, f_M_18, l_M_18, r_M_18, w_M_18, hon, e17']
    · simp (disch := first | omega | exact Nat.le_of_ble_eq_true rfl) only [e_M_told, s_M_told_0, s_M_told_1, s_M_told_4, s_M_told_5, s_M_told_8, s_M_told_9, s_M_told_12, s_M_told_13, s_M_told_16, s_M_told_17, s_M_told_18, s_M_told_19, s_M_told_20, s_M_told_23, s_M_told_24, s_M_told_25, s_M_told_26, s_M_told_27, s_M_told_30, s_M_told_31, s_M_told_32, s_M_told_34, s_M_told_37, s_M_told_38, s_M_told_41, s_M_told_42, s_M_told_45, s_M_told_47, s_M_told_50, s_M_told_51, s_M_told_54, s_M_told_55, s_M_told_58, Option.bind_some, Option.bind_none, Option.toList_some, Option.toList_none, List.cons_append, List.nil_append, if_true, if_false, rz_clr, true_or, or_true, z00, z11, bZ_eq0, bZ_eq1, nor_self, if_pos, if_neg, zI_lt, zI_le, zI_eq, c_M, f_M_0, u_M_0, f_M_1, u_M_1, f_M_2, l_M_2, r_M_2, w_M_2, f_M_3, u_M_3, f_M_4, u_M_4, f_M_5, u_M_5, f_M_6, u_M_6, f_M_7, u_M_7, f_M_8, u_M_8, f_M_9, l_M_9, r_M_9, w_M_9, f_M_10, l_M_10, r_M_10, w_M_10, f_M_11, l_M_11, r_M_11, w_M_11, f_M_12, l_M_12, r_M_12, w_M_12, f_M_13, l_M_13, r_M_13, w_M_13, f_M_14, l_M_14, r_M_14, w_M_14, f_M_15, l_M_15, r_M_15, w_M_15, f_M_16, l_M_16, r_M_16, w_M_16, f_M_17, l_M_17, r_M_17, w_M_17, f_M_18, l_M_18, r_M_18, w_M_18, e17']
theorem z_MvalueOf_lp (d : Nat) (hN : 60 ≤ N) (hV : ∀ K, -1 ≤ V K ∧ V K ≤ 1) {K : Nat} (hK : vK p K) (hc : ∀ i, i < 8 → mayK p la K i = true → σ 10 17 i = dnK p la hm V K i ∧ (0 < lf K (tm K) → σ 10 18 i = dnK p la hm V (lessK K) i)) (x1 x2 x3 x4 : Option Value) : ∀ (n k : Nat), n + k = 8 → rz_den (rz_dM (d + 4)) (rz_at tb_X5_valueOf) (some .int) 65 [some (.ref (bs 10)), x1, x2, x3, x4, some (.int (zI (tl K : Nat))), some (.int (zI (oS (mayK p la K) 8 : Nat))), some (.int (zI (lf K (tm K) : Nat))), some (.int (zI (wtK K * bm2 (mayK p la K) (fun k => tldK p la hm V (rfB p la K k) K k) k))), some (.int (zI k))] [] (wOf N σ) = some (some (.int (zI (wtK K * bm2 (mayK p la K) (fun k => tldK p la hm V (rfB p la K k) K k) 8))), wOf N σ) := by
  have hlt := oS_lt (mayK p la K) 8
  have hwt := wtK_pm K
  have htr := fun k => tldK_rg (p := p) (la := la) (hm := hm) hV (rfB p la K k) K k
  intro n
  induction n with
  | zero =>
    intro k hk
    obtain rfl : k = 8 := by omega
    rw [s_M_valueOf_65]
    simp (disch := first | omega | exact Nat.le_of_ble_eq_true rfl) only [e_M_valueOf, s_M_valueOf_0, s_M_valueOf_1, s_M_valueOf_2, s_M_valueOf_3, s_M_valueOf_4, s_M_valueOf_6, s_M_valueOf_8, s_M_valueOf_11, s_M_valueOf_13, s_M_valueOf_15, s_M_valueOf_18, s_M_valueOf_19, s_M_valueOf_22, s_M_valueOf_23, s_M_valueOf_24, s_M_valueOf_25, s_M_valueOf_27, s_M_valueOf_28, s_M_valueOf_30, s_M_valueOf_31, s_M_valueOf_34, s_M_valueOf_35, s_M_valueOf_36, s_M_valueOf_38, s_M_valueOf_41, s_M_valueOf_43, s_M_valueOf_46, s_M_valueOf_47, s_M_valueOf_49, s_M_valueOf_51, s_M_valueOf_54, s_M_valueOf_56, s_M_valueOf_59, s_M_valueOf_60, s_M_valueOf_62, s_M_valueOf_63, s_M_valueOf_67, s_M_valueOf_69, s_M_valueOf_72, s_M_valueOf_74, s_M_valueOf_76, s_M_valueOf_77, s_M_valueOf_78, s_M_valueOf_79, s_M_valueOf_80, s_M_valueOf_83, s_M_valueOf_84, s_M_valueOf_86, s_M_valueOf_88, s_M_valueOf_90, s_M_valueOf_92, s_M_valueOf_95, s_M_valueOf_97, s_M_valueOf_99, s_M_valueOf_102, s_M_valueOf_103, s_M_valueOf_106, s_M_valueOf_107, s_M_valueOf_110, s_M_valueOf_113, s_M_valueOf_115, s_M_valueOf_117, s_M_valueOf_120, s_M_valueOf_123, s_M_valueOf_125, Option.bind_some, Option.bind_none, Option.toList_some, Option.toList_none, List.cons_append, List.nil_append, if_true, if_false, rz_clr, true_or, or_true, z00, z11, bZ_eq0, bZ_eq1, nor_self, if_pos, if_neg, zI_add, zI_sub, zI_mul, zI_neg, zI_lt, zI_le, zI_eq]
  | succ n ih =>
    intro k hk
    have ih' := ih (k + 1) (by omega)
    simp only [Int.natCast_add, Int.natCast_one] at ih'
    have hbm := bm2_rg (S := mayK p la K) (f := fun k => tldK p la hm V (rfB p la K k) K k) (fun k _ _ => htr k) k (by omega)
    have hwb : rg (wtK K * bm2 (mayK p la K) (fun k => tldK p la hm V (rfB p la K k) K k) k) := by
      generalize bm2 (mayK p la K) (fun k => tldK p la hm V (rfB p la K k) K k) k = X at hbm
      rcases hwt with e | e <;> rw [e] <;> omega
    have hsh := z_shr (b := oS (mayK p la K) 8) (i := k) (by omega) (by omega)
    have hand := z_and1 (oS (mayK p la K) 8 / 2 ^ k) (Nat.lt_of_le_of_lt (Nat.div_le_self _ _) (by omega))
    rw [tb_div, oS_tb, decide_eq_true (show k < 8 by omega), Bool.true_and] at hand
    rw [s_M_valueOf_65]
    rw [bm2] at ih'
    by_cases c : mayK p la K k = true
    · rw [if_pos c, Int.natCast_one] at hand
      rw [if_pos c] at ih'
      have htd := z_Mtold (N := N) (σ := σ) (d + 1) hN hV hK (by omega) c hc
      have hwtr : rg (wtK K * tldK p la hm V (rfB p la K k) K k) := by
        have := htr k
        generalize tldK p la hm V (rfB p la K k) K k = X at this
        rcases hwt with e | e <;> rw [e] <;> omega
      rcases tm_c (K := K) with ⟨t1, t2, t3⟩ | ⟨t1, t2, t3⟩
      · have hbt := fun w => z_Mbetter (d + 3) hwtr hwb false w
        rw [show wtK K * bm2 (mayK p la K) (fun k => tldK p la hm V (rfB p la K k) K k) k = wf false * bm2 (mayK p la K) (fun k => tldK p la hm V (rfB p la K k) K k) k by rw [t3]; rfl, bet_eq, show wf false = wtK K by rw [t3]; rfl, wt_wt, show bN false = 0 from rfl] at hbt
        rw [t2] at htd ih' ⊢
        simp (disch := first | omega | exact Nat.le_of_ble_eq_true rfl) only [e_M_valueOf, s_M_valueOf_0, s_M_valueOf_1, s_M_valueOf_2, s_M_valueOf_3, s_M_valueOf_4, s_M_valueOf_6, s_M_valueOf_8, s_M_valueOf_11, s_M_valueOf_13, s_M_valueOf_15, s_M_valueOf_18, s_M_valueOf_19, s_M_valueOf_22, s_M_valueOf_23, s_M_valueOf_24, s_M_valueOf_25, s_M_valueOf_27, s_M_valueOf_28, s_M_valueOf_30, s_M_valueOf_31, s_M_valueOf_34, s_M_valueOf_35, s_M_valueOf_36, s_M_valueOf_38, s_M_valueOf_41, s_M_valueOf_43, s_M_valueOf_46, s_M_valueOf_47, s_M_valueOf_49, s_M_valueOf_51, s_M_valueOf_54, s_M_valueOf_56, s_M_valueOf_59, s_M_valueOf_60, s_M_valueOf_62, s_M_valueOf_63, s_M_valueOf_67, s_M_valueOf_69, s_M_valueOf_72, s_M_valueOf_74, s_M_valueOf_76, s_M_valueOf_77, s_M_valueOf_78, s_M_valueOf_79, s_M_valueOf_80, s_M_valueOf_83, s_M_valueOf_84, s_M_valueOf_86, s_M_valueOf_88, s_M_valueOf_90, s_M_valueOf_92, s_M_valueOf_95, s_M_valueOf_97, s_M_valueOf_99, s_M_valueOf_102, s_M_valueOf_103, s_M_valueOf_106, s_M_valueOf_107, s_M_valueOf_110, s_M_valueOf_113, s_M_valueOf_115, s_M_valueOf_117, s_M_valueOf_120, s_M_valueOf_123, s_M_valueOf_125, Option.bind_some, Option.bind_none, Option.toList_some, Option.toList_none, List.cons_append, List.nil_append, if_true, if_false, rz_clr, true_or, or_true, z00, z11, bZ_eq0, bZ_eq1, nor_self, if_pos, if_neg, zI_add, zI_lt, zI_le, zI_eq, c_M, f_M_0, u_M_0, f_M_1, u_M_1, f_M_2, l_M_2, r_M_2, w_M_2, f_M_3, u_M_3, f_M_4, u_M_4, f_M_5, u_M_5, f_M_6, u_M_6, f_M_7, u_M_7, f_M_8, u_M_8, f_M_9, l_M_9, r_M_9, w_M_9, f_M_10, l_M_10, r_M_10, w_M_10, f_M_11, l_M_11, r_M_11, w_M_11, f_M_12, l_M_12, r_M_12, w_M_12, f_M_13, l_M_13, r_M_13, w_M_13, f_M_14, l_M_14, r_M_14, w_M_14, f_M_15, l_M_15, r_M_15, w_M_15, f_M_16, l_M_16, r_M_16, w_M_16, f_M_17, l_M_17, r_M_17, w_M_17, f_M_18, l_M_18, r_M_18, w_M_18, hsh, hand, htd, hbt, ih']
      · have hbt := fun w => z_Mbetter (d + 3) hwtr hwb true w
        rw [show wtK K * bm2 (mayK p la K) (fun k => tldK p la hm V (rfB p la K k) K k) k = wf true * bm2 (mayK p la K) (fun k => tldK p la hm V (rfB p la K k) K k) k by rw [t3]; rfl, bet_eq, show wf true = wtK K by rw [t3]; rfl, wt_wt, show bN true = 1 from rfl] at hbt
        rw [t2] at htd ih' ⊢
        simp (disch := first | omega | exact Nat.le_of_ble_eq_true rfl) only [e_M_valueOf, s_M_valueOf_0, s_M_valueOf_1, s_M_valueOf_2, s_M_valueOf_3, s_M_valueOf_4, s_M_valueOf_6, s_M_valueOf_8, s_M_valueOf_11, s_M_valueOf_13, s_M_valueOf_15, s_M_valueOf_18, s_M_valueOf_19, s_M_valueOf_22, s_M_valueOf_23, s_M_valueOf_24, s_M_valueOf_25, s_M_valueOf_27, s_M_valueOf_28, s_M_valueOf_30, s_M_valueOf_31, s_M_valueOf_34, s_M_valueOf_35, s_M_valueOf_36, s_M_valueOf_38, s_M_valueOf_41, s_M_valueOf_43, s_M_valueOf_46, s_M_valueOf_47, s_M_valueOf_49, s_M_valueOf_51, s_M_valueOf_54, s_M_valueOf_56, s_M_valueOf_59, s_M_valueOf_60, s_M_valueOf_62, s_M_valueOf_63, s_M_valueOf_67, s_M_valueOf_69, s_M_valueOf_72, s_M_valueOf_74, s_M_valueOf_76, s_M_valueOf_77, s_M_valueOf_78, s_M_valueOf_79, s_M_valueOf_80, s_M_valueOf_83, s_M_valueOf_84, s_M_valueOf_86, s_M_valueOf_88, s_M_valueOf_90, s_M_valueOf_92, s_M_valueOf_95, s_M_valueOf_97, s_M_valueOf_99, s_M_valueOf_102, s_M_valueOf_103, s_M_valueOf_106, s_M_valueOf_107, s_M_valueOf_110, s_M_valueOf_113, s_M_valueOf_115, s_M_valueOf_117, s_M_valueOf_120, s_M_valueOf_123, s_M_valueOf_125, Option.bind_some, Option.bind_none, Option.toList_some, Option.toList_none, List.cons_append, List.nil_append, if_true, if_false, rz_clr, true_or, or_true, z00, z11, bZ_eq0, bZ_eq1, nor_self, if_pos, if_neg, zI_add, zI_lt, zI_le, zI_eq, c_M, f_M_0, u_M_0, f_M_1, u_M_1, f_M_2, l_M_2, r_M_2, w_M_2, f_M_3, u_M_3, f_M_4, u_M_4, f_M_5, u_M_5, f_M_6, u_M_6, f_M_7, u_M_7, f_M_8, u_M_8, f_M_9, l_M_9, r_M_9, w_M_9, f_M_10, l_M_10, r_M_10, w_M_10, f_M_11, l_M_11, r_M_11, w_M_11, f_M_12, l_M_12, r_M_12, w_M_12, f_M_13, l_M_13, r_M_13, w_M_13, f_M_14, l_M_14, r_M_14, w_M_14, f_M_15, l_M_15, r_M_15, w_M_15, f_M_16, l_M_16, r_M_16, w_M_16, f_M_17, l_M_17, r_M_17, w_M_17, f_M_18, l_M_18, r_M_18, w_M_18, hsh, hand, htd, hbt, ih']
    · rw [if_neg c, Int.natCast_zero] at hand
      rw [if_neg c] at ih'
      simp (disch := first | omega | exact Nat.le_of_ble_eq_true rfl) only [e_M_valueOf, s_M_valueOf_0, s_M_valueOf_1, s_M_valueOf_2, s_M_valueOf_3, s_M_valueOf_4, s_M_valueOf_6, s_M_valueOf_8, s_M_valueOf_11, s_M_valueOf_13, s_M_valueOf_15, s_M_valueOf_18, s_M_valueOf_19, s_M_valueOf_22, s_M_valueOf_23, s_M_valueOf_24, s_M_valueOf_25, s_M_valueOf_27, s_M_valueOf_28, s_M_valueOf_30, s_M_valueOf_31, s_M_valueOf_34, s_M_valueOf_35, s_M_valueOf_36, s_M_valueOf_38, s_M_valueOf_41, s_M_valueOf_43, s_M_valueOf_46, s_M_valueOf_47, s_M_valueOf_49, s_M_valueOf_51, s_M_valueOf_54, s_M_valueOf_56, s_M_valueOf_59, s_M_valueOf_60, s_M_valueOf_62, s_M_valueOf_63, s_M_valueOf_67, s_M_valueOf_69, s_M_valueOf_72, s_M_valueOf_74, s_M_valueOf_76, s_M_valueOf_77, s_M_valueOf_78, s_M_valueOf_79, s_M_valueOf_80, s_M_valueOf_83, s_M_valueOf_84, s_M_valueOf_86, s_M_valueOf_88, s_M_valueOf_90, s_M_valueOf_92, s_M_valueOf_95, s_M_valueOf_97, s_M_valueOf_99, s_M_valueOf_102, s_M_valueOf_103, s_M_valueOf_106, s_M_valueOf_107, s_M_valueOf_110, s_M_valueOf_113, s_M_valueOf_115, s_M_valueOf_117, s_M_valueOf_120, s_M_valueOf_123, s_M_valueOf_125, Option.bind_some, Option.bind_none, Option.toList_some, Option.toList_none, List.cons_append, List.nil_append, if_true, if_false, rz_clr, true_or, or_true, z00, z11, bZ_eq0, bZ_eq1, nor_self, if_pos, if_neg, zI_add, zI_sub, zI_mul, zI_neg, zI_lt, zI_le, zI_eq, hsh, hand, ih']
theorem z_MvalueOf (d : Nat) (hN : 60 ≤ N) (hw : wfP p) (hl : lkP p) (hQ : MGQ (σ 10) p la hm V) {K : Nat} (hK : vK p K) : ∃ m', rz_dM (d + 5) iM_valueOf [.ref (bs 10), .int (zI (cl K 0 : Nat)), .int (zI (cl K 1 : Nat)), .int (zI (lf K 0 : Nat)), .int (zI (lf K 1 : Nat)), .int (zI (tl K : Nat))] (wOf N σ) = some (some (.int (zI (mostF p la hm V K (-9)))), wOf N (gset σ 10 m')) ∧ sm [17, 18] (σ 10) m' := by
  have hV := hQ.2.2.2.2
  have hlt := oS_lt (mayK p la K) 8
  obtain ⟨c, l, h1, h2⟩ := z_Mlooks (N := N) (σ := σ) d hN hw hl hQ hK
  have hQ' := MGQ_sm hQ (sm_mono (lkM_sm (σ 10) c l) (by decide))
  refine ⟨lkM (σ 10) c l, ?_, lkM_sm _ _ _⟩
  unfold mostF
  rw [if_pos rfl]
  by_cases c0 : oS (mayK p la K) 8 = 0
  · rw [if_pos c0]
    rw [c0, Int.natCast_zero] at h1
    have hv2 := vK_flip hK
    have p2 := posK_lt hv2
    obtain ⟨g1, g2, g3⟩ := flip_f hK.1
    have ht := tl_lt K
    have e2 := hQ'.2.2.2.1 _ hv2
    have x2 : posK (flipT K) = (2 * (3 * (3 * (16 * ((cl K 0 : Nat) : Int) + (cl K 1 : Nat)) + (lf K 0 : Nat)) + (lf K 1 : Nat)) + (1 - (tl K : Nat))).toNat := by
      unfold posK
      rw [g1, g1, g2, g2, g3]
      omega
    rw [x2] at e2 p2
    have hpo := fun a b l r w x => z_MpositionOf (d + 3) a b l r w x
    generalize lkM (σ 10) c l = m1 at *
    simp (disch := first | omega | exact Nat.le_of_ble_eq_true rfl) only [e_M_valueOf, s_M_valueOf_0, s_M_valueOf_1, s_M_valueOf_2, s_M_valueOf_3, s_M_valueOf_4, s_M_valueOf_6, s_M_valueOf_8, s_M_valueOf_11, s_M_valueOf_13, s_M_valueOf_15, s_M_valueOf_18, s_M_valueOf_19, s_M_valueOf_22, s_M_valueOf_23, s_M_valueOf_24, s_M_valueOf_25, s_M_valueOf_27, s_M_valueOf_28, s_M_valueOf_30, s_M_valueOf_31, s_M_valueOf_34, s_M_valueOf_35, s_M_valueOf_36, s_M_valueOf_38, s_M_valueOf_41, s_M_valueOf_43, s_M_valueOf_46, s_M_valueOf_47, s_M_valueOf_49, s_M_valueOf_51, s_M_valueOf_54, s_M_valueOf_56, s_M_valueOf_59, s_M_valueOf_60, s_M_valueOf_62, s_M_valueOf_63, s_M_valueOf_67, s_M_valueOf_69, s_M_valueOf_72, s_M_valueOf_74, s_M_valueOf_76, s_M_valueOf_77, s_M_valueOf_78, s_M_valueOf_79, s_M_valueOf_80, s_M_valueOf_83, s_M_valueOf_84, s_M_valueOf_86, s_M_valueOf_88, s_M_valueOf_90, s_M_valueOf_92, s_M_valueOf_95, s_M_valueOf_97, s_M_valueOf_99, s_M_valueOf_102, s_M_valueOf_103, s_M_valueOf_106, s_M_valueOf_107, s_M_valueOf_110, s_M_valueOf_113, s_M_valueOf_115, s_M_valueOf_117, s_M_valueOf_120, s_M_valueOf_123, s_M_valueOf_125, Option.bind_some, Option.bind_none, Option.toList_some, Option.toList_none, List.cons_append, List.nil_append, if_true, if_false, rz_clr, true_or, or_true, z00, z11, bZ_eq0, bZ_eq1, nor_self, if_pos, if_neg, zI_add, zI_sub, zI_mul, zI_neg, zI_lt, zI_le, zI_eq, c_M, f_M_0, u_M_0, f_M_1, u_M_1, f_M_2, l_M_2, r_M_2, w_M_2, f_M_3, u_M_3, f_M_4, u_M_4, f_M_5, u_M_5, f_M_6, u_M_6, f_M_7, u_M_7, f_M_8, u_M_8, f_M_9, l_M_9, r_M_9, w_M_9, f_M_10, l_M_10, r_M_10, w_M_10, f_M_11, l_M_11, r_M_11, w_M_11, f_M_12, l_M_12, r_M_12, w_M_12, f_M_13, l_M_13, r_M_13, w_M_13, f_M_14, l_M_14, r_M_14, w_M_14, f_M_15, l_M_15, r_M_15, w_M_15, f_M_16, l_M_16, r_M_16, w_M_16, f_M_17, l_M_17, r_M_17, w_M_17, f_M_18, l_M_18, r_M_18, w_M_18, sset_eq, gset_at, gset_gset, gset_ne, pset_eq, pset_ne, h1, hpo, e2]
  · rw [if_neg c0]
    have fc : lkM (σ 10) c l 17 = c := by unfold lkM; rw [pset_ne (by decide), pset_eq]
    have fl : lkM (σ 10) c l 18 = l := by unfold lkM; rw [pset_eq]
    have hlp := fun x1 x2 x3 x4 => z_MvalueOf_lp (N := N) (σ := gset σ 10 (lkM (σ 10) c l)) d hN hV hK (by rw [gset_at, fc, fl]; exact h2) x1 x2 x3 x4 8 0 rfl
    rw [Int.natCast_zero, show bm2 (mayK p la K) (fun k => tldK p la hm V (rfB p la K k) K k) 0 = -2 from rfl, bm2_bmx (fun k => (tldK_rg hV _ _ _).1) c0] at hlp
    unfold mostN
    rcases tm_c (K := K) with ⟨t1, t2, t3⟩ | ⟨t1, t2, t3⟩
    · rw [t1, t2, show wtK K * -2 = 2 by rw [t3]; rfl] at hlp
      rw [t2] at h1 ⊢
      simp (disch := first | omega | exact Nat.le_of_ble_eq_true rfl) only [e_M_valueOf, s_M_valueOf_0, s_M_valueOf_1, s_M_valueOf_2, s_M_valueOf_3, s_M_valueOf_4, s_M_valueOf_6, s_M_valueOf_8, s_M_valueOf_11, s_M_valueOf_13, s_M_valueOf_15, s_M_valueOf_18, s_M_valueOf_19, s_M_valueOf_22, s_M_valueOf_23, s_M_valueOf_24, s_M_valueOf_25, s_M_valueOf_27, s_M_valueOf_28, s_M_valueOf_30, s_M_valueOf_31, s_M_valueOf_34, s_M_valueOf_35, s_M_valueOf_36, s_M_valueOf_38, s_M_valueOf_41, s_M_valueOf_43, s_M_valueOf_46, s_M_valueOf_47, s_M_valueOf_49, s_M_valueOf_51, s_M_valueOf_54, s_M_valueOf_56, s_M_valueOf_59, s_M_valueOf_60, s_M_valueOf_62, s_M_valueOf_63, s_M_valueOf_67, s_M_valueOf_69, s_M_valueOf_72, s_M_valueOf_74, s_M_valueOf_76, s_M_valueOf_77, s_M_valueOf_78, s_M_valueOf_79, s_M_valueOf_80, s_M_valueOf_83, s_M_valueOf_84, s_M_valueOf_86, s_M_valueOf_88, s_M_valueOf_90, s_M_valueOf_92, s_M_valueOf_95, s_M_valueOf_97, s_M_valueOf_99, s_M_valueOf_102, s_M_valueOf_103, s_M_valueOf_106, s_M_valueOf_107, s_M_valueOf_110, s_M_valueOf_113, s_M_valueOf_115, s_M_valueOf_117, s_M_valueOf_120, s_M_valueOf_123, s_M_valueOf_125, Option.bind_some, Option.bind_none, Option.toList_some, Option.toList_none, List.cons_append, List.nil_append, if_true, if_false, rz_clr, true_or, or_true, z00, z11, bZ_eq0, bZ_eq1, nor_self, if_pos, if_neg, zI_lt, zI_le, zI_eq, c_M, f_M_0, u_M_0, f_M_1, u_M_1, f_M_2, l_M_2, r_M_2, w_M_2, f_M_3, u_M_3, f_M_4, u_M_4, f_M_5, u_M_5, f_M_6, u_M_6, f_M_7, u_M_7, f_M_8, u_M_8, f_M_9, l_M_9, r_M_9, w_M_9, f_M_10, l_M_10, r_M_10, w_M_10, f_M_11, l_M_11, r_M_11, w_M_11, f_M_12, l_M_12, r_M_12, w_M_12, f_M_13, l_M_13, r_M_13, w_M_13, f_M_14, l_M_14, r_M_14, w_M_14, f_M_15, l_M_15, r_M_15, w_M_15, f_M_16, l_M_16, r_M_16, w_M_16, f_M_17, l_M_17, r_M_17, w_M_17, f_M_18, l_M_18, r_M_18, w_M_18, h1, hlp]
    · rw [t1, t2, show wtK K * -2 = -2 by rw [t3]; rfl] at hlp
      rw [t2] at h1 ⊢
      simp (disch := first | omega | exact Nat.le_of_ble_eq_true rfl) only [e_M_valueOf, s_M_valueOf_0, s_M_valueOf_1, s_M_valueOf_2, s_M_valueOf_3, s_M_valueOf_4, s_M_valueOf_6, s_M_valueOf_8, s_M_valueOf_11, s_M_valueOf_13, s_M_valueOf_15, s_M_valueOf_18, s_M_valueOf_19, s_M_valueOf_22, s_M_valueOf_23, s_M_valueOf_24, s_M_valueOf_25, s_M_valueOf_27, s_M_valueOf_28, s_M_valueOf_30, s_M_valueOf_31, s_M_valueOf_34, s_M_valueOf_35, s_M_valueOf_36, s_M_valueOf_38, s_M_valueOf_41, s_M_valueOf_43, s_M_valueOf_46, s_M_valueOf_47, s_M_valueOf_49, s_M_valueOf_51, s_M_valueOf_54, s_M_valueOf_56, s_M_valueOf_59, s_M_valueOf_60, s_M_valueOf_62, s_M_valueOf_63, s_M_valueOf_67, s_M_valueOf_69, s_M_valueOf_72, s_M_valueOf_74, s_M_valueOf_76, s_M_valueOf_77, s_M_valueOf_78, s_M_valueOf_79, s_M_valueOf_80, s_M_valueOf_83, s_M_valueOf_84, s_M_valueOf_86, s_M_valueOf_88, s_M_valueOf_90, s_M_valueOf_92, s_M_valueOf_95, s_M_valueOf_97, s_M_valueOf_99, s_M_valueOf_102, s_M_valueOf_103, s_M_valueOf_106, s_M_valueOf_107, s_M_valueOf_110, s_M_valueOf_113, s_M_valueOf_115, s_M_valueOf_117, s_M_valueOf_120, s_M_valueOf_123, s_M_valueOf_125, Option.bind_some, Option.bind_none, Option.toList_some, Option.toList_none, List.cons_append, List.nil_append, if_true, if_false, rz_clr, true_or, or_true, z00, z11, bZ_eq0, bZ_eq1, nor_self, if_pos, if_neg, zI_lt, zI_le, zI_eq, c_M, f_M_0, u_M_0, f_M_1, u_M_1, f_M_2, l_M_2, r_M_2, w_M_2, f_M_3, u_M_3, f_M_4, u_M_4, f_M_5, u_M_5, f_M_6, u_M_6, f_M_7, u_M_7, f_M_8, u_M_8, f_M_9, l_M_9, r_M_9, w_M_9, f_M_10, l_M_10, r_M_10, w_M_10, f_M_11, l_M_11, r_M_11, w_M_11, f_M_12, l_M_12, r_M_12, w_M_12, f_M_13, l_M_13, r_M_13, w_M_13, f_M_14, l_M_14, r_M_14, w_M_14, f_M_15, l_M_15, r_M_15, w_M_15, f_M_16, l_M_16, r_M_16, w_M_16, f_M_17, l_M_17, r_M_17, w_M_17, f_M_18, l_M_18, r_M_18, w_M_18, h1, hlp]
end MP
