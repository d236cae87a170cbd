-- the model: cells told; what a row of the draft's is
section ND1
variable {N : Nat} {σ : zS} {s p : zP} {len : Nat}
theorem td_W {t : Nat → Int} (h : tlR t 33 p) : t (33 : Int).toNat = p 8 0 := h.1.1
theorem td_H {t : Nat → Int} (h : tlR t 33 p) : t (34 : Int).toNat = p 9 0 := h.1.2.1
theorem td_L {t : Nat → Int} (h : tlR t 33 p) : t (35 : Int).toNat = p 10 0 := h.1.2.2
theorem td_cell {t : Nat → Int} (h : tlR t 33 p) {i : Int} (hi : 36 ≤ i ∧ i < 52) : t i.toNat = p 0 (i - 36).toNat := by
  have := h.2.1 (i - 36).toNat (by omega)
  rw [← this]
  congr 1
  omega
theorem tlR_up0 {t : Nat → Int} (h : tlR t 33 p) {c : Nat} (hc : c < 16) (v : Int) : tlR (zup t (36 + c) v) 33 (pset p 0 (zup (p 0) c v)) := by
  obtain ⟨⟨h1, h2, h3⟩, h4, h5, h6⟩ := h
  refine ⟨⟨?_, ?_, ?_⟩, fun i hi => ?_, fun l hl => ?_, fun j hj => ?_⟩
  · rw [zup_ne (by omega)]; exact h1
  · rw [zup_ne (by omega)]; exact h2
  · rw [zup_ne (by omega)]; exact h3
  · rw [pset_eq]
    by_cases z : i = c
    · rw [z, zup_eq, zup_eq]
    · rw [zup_ne z, zup_ne (by omega)]; exact h4 i hi
  · rw [zup_ne (by omega), zup_ne (by omega)]; exact h5 l hl
  · rw [zup_ne (by omega), zup_ne (by omega), zup_ne (by omega), zup_ne (by omega)]; exact h6 j hj
theorem tlR_up4 {t : Nat → Int} (hw : wfP p) (h : tlR t 33 p) {c : Nat} (hc : c < 2) (v : Int) : tlR (zup t (58 + c) v) 33 (pset p 4 (zup (p 4) c v)) := by
  obtain ⟨⟨h1, h2, h3⟩, h4, h5, h6⟩ := h
  have w := hw.1
  refine ⟨⟨?_, ?_, ?_⟩, fun i hi => ?_, fun l hl => ?_, fun j hj => ?_⟩
  · rw [zup_ne (by omega)]; exact h1
  · rw [zup_ne (by omega)]; exact h2
  · rw [zup_ne (by omega)]; exact h3
  · rw [zup_ne (by omega)]; exact h4 i hi
  · have hl2 : (l : Int) < p 10 0 := hl
    rw [zup_ne (by omega), zup_ne (by omega)]; exact h5 l hl2
  · obtain ⟨a, b, e, f⟩ := h6 j hj
    refine ⟨?_, ?_, ?_, ?_⟩
    · rw [pset_eq]
      by_cases z : j = c
      · rw [z, zup_eq, zup_eq]
      · rw [zup_ne z, zup_ne (by omega)]; exact a
    · rw [zup_ne (by omega)]; exact b
    · rw [zup_ne (by omega)]; exact e
    · rw [zup_ne (by omega)]; exact f
theorem tlR_up5 {t : Nat → Int} (hw : wfP p) (h : tlR t 33 p) {c : Nat} (hc : c < 2) (v : Int) : tlR (zup t (60 + c) v) 33 (pset p 5 (zup (p 5) c v)) := by
  obtain ⟨⟨h1, h2, h3⟩, h4, h5, h6⟩ := h
  have w := hw.1
  refine ⟨⟨?_, ?_, ?_⟩, fun i hi => ?_, fun l hl => ?_, fun j hj => ?_⟩
  · rw [zup_ne (by omega)]; exact h1
  · rw [zup_ne (by omega)]; exact h2
  · rw [zup_ne (by omega)]; exact h3
  · rw [zup_ne (by omega)]; exact h4 i hi
  · have hl2 : (l : Int) < p 10 0 := hl
    rw [zup_ne (by omega), zup_ne (by omega)]; exact h5 l hl2
  · obtain ⟨a, b, e, f⟩ := h6 j hj
    refine ⟨?_, ?_, ?_, ?_⟩
    · rw [zup_ne (by omega)]; exact a
    · rw [pset_eq]
      by_cases z : j = c
      · rw [z, zup_eq, zup_eq]
      · rw [zup_ne z, zup_ne (by omega)]; exact b
    · rw [zup_ne (by omega)]; exact e
    · rw [zup_ne (by omega)]; exact f
theorem tlR_up6 {t : Nat → Int} (hw : wfP p) (h : tlR t 33 p) {c : Nat} (hc : c < 2) (v : Int) : tlR (zup t (62 + c) v) 33 (pset p 6 (zup (p 6) c v)) := by
  obtain ⟨⟨h1, h2, h3⟩, h4, h5, h6⟩ := h
  have w := hw.1
  refine ⟨⟨?_, ?_, ?_⟩, fun i hi => ?_, fun l hl => ?_, fun j hj => ?_⟩
  · rw [zup_ne (by omega)]; exact h1
  · rw [zup_ne (by omega)]; exact h2
  · rw [zup_ne (by omega)]; exact h3
  · rw [zup_ne (by omega)]; exact h4 i hi
  · have hl2 : (l : Int) < p 10 0 := hl
    rw [zup_ne (by omega), zup_ne (by omega)]; exact h5 l hl2
  · obtain ⟨a, b, e, f⟩ := h6 j hj
    refine ⟨?_, ?_, ?_, ?_⟩
    · rw [zup_ne (by omega)]; exact a
    · rw [zup_ne (by omega)]; exact b
    · rw [pset_eq]
      by_cases z : j = c
      · rw [z, zup_eq, zup_eq]
      · rw [zup_ne z, zup_ne (by omega)]; exact e
    · rw [zup_ne (by omega)]; exact f
theorem tlR_up7 {t : Nat → Int} (hw : wfP p) (h : tlR t 33 p) {c : Nat} (hc : c < 2) (v : Int) : tlR (zup t (64 + c) v) 33 (pset p 7 (zup (p 7) c v)) := by
  obtain ⟨⟨h1, h2, h3⟩, h4, h5, h6⟩ := h
  have w := hw.1
  refine ⟨⟨?_, ?_, ?_⟩, fun i hi => ?_, fun l hl => ?_, fun j hj => ?_⟩
  · rw [zup_ne (by omega)]; exact h1
  · rw [zup_ne (by omega)]; exact h2
  · rw [zup_ne (by omega)]; exact h3
  · rw [zup_ne (by omega)]; exact h4 i hi
  · have hl2 : (l : Int) < p 10 0 := hl
    rw [zup_ne (by omega), zup_ne (by omega)]; exact h5 l hl2
  · obtain ⟨a, b, e, f⟩ := h6 j hj
    refine ⟨?_, ?_, ?_, ?_⟩
    · rw [zup_ne (by omega)]; exact a
    · rw [zup_ne (by omega)]; exact b
    · rw [zup_ne (by omega)]; exact e
    · rw [pset_eq]
      by_cases z : j = c
      · rw [z, zup_eq, zup_eq]
      · rw [zup_ne z, zup_ne (by omega)]; exact f
theorem z_Mitem1 (d : Nat) (hN : 60 ≤ N) {n : Nat} {m : zP} (hP : PH len n s p m) (hD : tlR (m 9) 33 p) {k : Int} (hk : k = 1 ∨ k = 2 ∨ k = 3) (h7 : s 7 0 = k) (h9 : s 9 0 = 0) : ∃ m', rz_dM (d + 7) iM_readsItem [.ref (bs 10), .int (zI k)] (wOf N (gset σ 10 m)) = some (none, wOf N (gset σ 10 m')) ∧ (RSw len n s p m m' ∨ RSb len n s p m m') := by
  have hwp := hP.1.2.2.2.1
  obtain ⟨⟨w1, w2, w3, w4, w5, w6⟩, -⟩ := id hwp
  have he0 : ∀ t : zP, t 7 0 = k → t 9 0 < 2 → enB t = false := fun t a b => by unfold enB; rw [if_neg (by omega), if_neg (by omega), decide_eq_false_iff_not]; omega
  have hL0 : L57 m := LA_57 hP.2.2.2.1
  have h81 := hP.2.2.2.2
  have d0 := td_W hD
  obtain ⟨r, m1, g1, g2⟩ := z_Mnumber (N := N) (σ := σ) d hN hP (by omega) (by omega) (he0 s h7 (by omega)) (a := 0) (b := p 8 0 - 1) (by omega) (fun v _ _ => by
    rw [alB_1 (by rw [h7]; exact hk), decide_eq_true_eq]
    unfold al1
    omega)
  rcases g2 with ⟨n1, s1, P1, e1, e17, e18, e19, e11, r12, sm1⟩ | ⟨r0, f1, f2, sm1⟩
  · have t7 : s1 7 0 = k := by rw [e17]; exact h7
    have hD1 : tlR (m1 9) 33 p := by rw [sm1 9 (by decide)]; exact hD
    have d1 := td_H hD1
    obtain ⟨r', m2, k1, k2⟩ := z_Mnumber (N := N) (σ := σ) d hN P1 (by omega) (by omega) (he0 s1 t7 (by omega)) (a := 0) (b := p 9 0 - 1) (by omega) (fun v _ _ => by
      rw [alB_1 (by rw [t7]; exact hk), decide_eq_true_eq]
      unfold al1
      omega)
    rcases k2 with ⟨n2, s2, P2, e2, e27, e28, e29, e21, r22, sm2⟩ | ⟨r0', f1', f2', sm2⟩
    · have u7 : s2 7 0 = k := by rw [e27]; exact t7
      have hD2 : tlR (m2 9) 33 p := by rw [sm2 9 (by decide)]; exact hD1
      have d2 := td_W hD2
      have hw := z_Mwell (N := N) (σ := σ) (m := m2) (d + 5) hN (by rw [P2.2.2.2.2]; omega)
      rw [bZ_pos (by rw [P2.2.2.2.2]; decide)] at hw
      have v0 : s2 1 0 = r := by rw [e21, e11, h9, e19, h9]; rfl
      have v1 : s2 1 1 = r' := by rw [e21, e19, h9]; rfl
      have hb := idx_lt (w := p 8 0) (h := p 9 0) (x := r) (y := r') (by omega) (by omega) (by omega) (by omega)
      have ei : (36 + p 8 0 * r' + r).toNat = 36 + (p 8 0 * r' + r).toNat := by omega
      refine ⟨pset m2 9 (zup (m2 9) (36 + (p 8 0 * r' + r).toNat) k), ?_, Or.inl ⟨n2, s2, P2, ⟨by rw [e1, e2], by omega⟩, by rw [e27, e17], by rw [e28, e18], ?_, Or.inr ?_, ?_, ?_⟩⟩
      · simp (disch := first | omega | exact Nat.le_of_ble_eq_true rfl) only [e_M_readsItem, s_M_readsItem_0, s_M_readsItem_1, s_M_readsItem_4, s_M_readsItem_5, s_M_readsItem_6, s_M_readsItem_7, s_M_readsItem_10, s_M_readsItem_11, s_M_readsItem_12, s_M_readsItem_13, s_M_readsItem_14, s_M_readsItem_17, s_M_readsItem_18, s_M_readsItem_19, s_M_readsItem_22, s_M_readsItem_25, s_M_readsItem_26, s_M_readsItem_27, s_M_readsItem_28, s_M_readsItem_31, s_M_readsItem_34, s_M_readsItem_35, s_M_readsItem_36, s_M_readsItem_39, s_M_readsItem_40, s_M_readsItem_41, s_M_readsItem_42, s_M_readsItem_45, s_M_readsItem_47, s_M_readsItem_48, s_M_readsItem_49, s_M_readsItem_50, s_M_readsItem_53, s_M_readsItem_54, s_M_readsItem_55, s_M_readsItem_56, s_M_readsItem_57, s_M_readsItem_60, s_M_readsItem_62, s_M_readsItem_63, s_M_readsItem_64, s_M_readsItem_65, s_M_readsItem_68, s_M_readsItem_69, s_M_readsItem_70, s_M_readsItem_73, s_M_readsItem_76, s_M_readsItem_77, s_M_readsItem_80, s_M_readsItem_82, s_M_readsItem_83, s_M_readsItem_86, s_M_readsItem_88, s_M_readsItem_89, s_M_readsItem_90, s_M_readsItem_91, s_M_readsItem_92, s_M_readsItem_93, s_M_readsItem_94, s_M_readsItem_95, s_M_readsItem_96, s_M_readsItem_99, s_M_readsItem_100, s_M_readsItem_101, s_M_readsItem_104, s_M_readsItem_105, s_M_readsItem_108, s_M_readsItem_111, s_M_readsItem_112, s_M_readsItem_113, s_M_readsItem_116, Option.bind_some, Option.bind_none, Option.toList_some, Option.toList_none, List.cons_append, List.nil_append, if_true, if_false, rz_clr, true_or, or_true, z00, z11, bZ_eq0, bZ_eq1, nor_self, if_pos, if_neg, zI_add, zI_sub, zI_mul, zI_neg, zI_lt, zI_le, zI_eq, c_M, f_M_0, u_M_0, f_M_1, u_M_1, f_M_2, l_M_2, r_M_2, w_M_2, f_M_3, u_M_3, f_M_4, u_M_4, f_M_5, u_M_5, f_M_6, u_M_6, f_M_7, u_M_7, f_M_8, u_M_8, f_M_9, l_M_9, r_M_9, w_M_9, f_M_10, l_M_10, r_M_10, w_M_10, f_M_11, l_M_11, r_M_11, w_M_11, f_M_12, l_M_12, r_M_12, w_M_12, f_M_13, l_M_13, r_M_13, w_M_13, f_M_14, l_M_14, r_M_14, w_M_14, f_M_15, l_M_15, r_M_15, w_M_15, f_M_16, l_M_16, r_M_16, w_M_16, f_M_17, l_M_17, r_M_17, w_M_17, f_M_18, l_M_18, r_M_18, w_M_18, sset_eq, gset_at, gset_gset, gset_ne, pset_eq, pset_ne, d0, d1, d2, g1, k1, hw, ei]
      · unfold enB
        rw [if_neg (by omega), if_neg (by omega), decide_eq_true_eq]
        omega
      · intro v
        rw [alB_1 (by rw [u7]; exact hk), decide_eq_false_iff_not]
        unfold al1
        omega
      · rw [apP_1 (by rw [u7]; exact hk), v0, v1, pset_eq, u7]
        exact tlR_up0 hD2 (by omega) k
      · exact MF_tr (MF_sm (sm_mono sm1 (by decide))) (MF_tr (MF_sm (sm_mono sm2 (by decide))) (MF_9 (fun i hi => zup_ne (by omega))))
    · have hw := z_Mwell (N := N) (σ := σ) (m := m2) (d + 5) hN (by omega)
      rw [bZ_neg (by omega)] at hw
      refine ⟨m2, ?_, Or.inr ⟨by rw [e1]; exact f1', f2', MF_tr (MF_sm (sm_mono sm1 (by decide))) (MF_sm (sm_mono sm2 (by decide)))⟩⟩
      simp (disch := first | omega | exact Nat.le_of_ble_eq_true rfl) only [e_M_readsItem, s_M_readsItem_0, s_M_readsItem_1, s_M_readsItem_4, s_M_readsItem_5, s_M_readsItem_6, s_M_readsItem_7, s_M_readsItem_10, s_M_readsItem_11, s_M_readsItem_12, s_M_readsItem_13, s_M_readsItem_14, s_M_readsItem_17, s_M_readsItem_18, s_M_readsItem_19, s_M_readsItem_22, s_M_readsItem_25, s_M_readsItem_26, s_M_readsItem_27, s_M_readsItem_28, s_M_readsItem_31, s_M_readsItem_34, s_M_readsItem_35, s_M_readsItem_36, s_M_readsItem_39, s_M_readsItem_40, s_M_readsItem_41, s_M_readsItem_42, s_M_readsItem_45, s_M_readsItem_47, s_M_readsItem_48, s_M_readsItem_49, s_M_readsItem_50, s_M_readsItem_53, s_M_readsItem_54, s_M_readsItem_55, s_M_readsItem_56, s_M_readsItem_57, s_M_readsItem_60, s_M_readsItem_62, s_M_readsItem_63, s_M_readsItem_64, s_M_readsItem_65, s_M_readsItem_68, s_M_readsItem_69, s_M_readsItem_70, s_M_readsItem_73, s_M_readsItem_76, s_M_readsItem_77, s_M_readsItem_80, s_M_readsItem_82, s_M_readsItem_83, s_M_readsItem_86, s_M_readsItem_88, s_M_readsItem_89, s_M_readsItem_90, s_M_readsItem_91, s_M_readsItem_92, s_M_readsItem_93, s_M_readsItem_94, s_M_readsItem_95, s_M_readsItem_96, s_M_readsItem_99, s_M_readsItem_100, s_M_readsItem_101, s_M_readsItem_104, s_M_readsItem_105, s_M_readsItem_108, s_M_readsItem_111, s_M_readsItem_112, s_M_readsItem_113, s_M_readsItem_116, Option.bind_some, Option.bind_none, Option.toList_some, Option.toList_none, List.cons_append, List.nil_append, if_true, if_false, rz_clr, true_or, or_true, z00, z11, bZ_eq0, bZ_eq1, nor_self, if_pos, if_neg, zI_add, zI_sub, zI_mul, zI_neg, zI_lt, zI_le, zI_eq, c_M, f_M_0, u_M_0, f_M_1, u_M_1, f_M_2, l_M_2, r_M_2, w_M_2, f_M_3, u_M_3, f_M_4, u_M_4, f_M_5, u_M_5, f_M_6, u_M_6, f_M_7, u_M_7, f_M_8, u_M_8, f_M_9, l_M_9, r_M_9, w_M_9, f_M_10, l_M_10, r_M_10, w_M_10, f_M_11, l_M_11, r_M_11, w_M_11, f_M_12, l_M_12, r_M_12, w_M_12, f_M_13, l_M_13, r_M_13, w_M_13, f_M_14, l_M_14, r_M_14, w_M_14, f_M_15, l_M_15, r_M_15, w_M_15, f_M_16, l_M_16, r_M_16, w_M_16, f_M_17, l_M_17, r_M_17, w_M_17, f_M_18, l_M_18, r_M_18, w_M_18, gset_at, d0, d1, g1, k1, hw]
  · have hL1 := L57_8 hL0 sm1
    have hD1 : tlR (m1 9) 33 p := by rw [sm1 9 (by decide)]; exact hD
    have d1 := td_H hD1
    have k1 := z_Mnumber_f (N := N) (σ := σ) (m := m1) (d + 3) hN (by omega) hL1.1 (fun z => by have := hL1.2 z; omega) (a := 0) (b := p 9 0 - 1) (by decide) (by omega)
    have hw := z_Mwell (N := N) (σ := σ) (m := m1) (d + 5) hN (by omega)
    rw [bZ_neg (by omega)] at hw
    refine ⟨m1, ?_, Or.inr ⟨f1, f2, MF_sm (sm_mono sm1 (by decide))⟩⟩
    simp (disch := first | omega | exact Nat.le_of_ble_eq_true rfl) only [e_M_readsItem, s_M_readsItem_0, s_M_readsItem_1, s_M_readsItem_4, s_M_readsItem_5, s_M_readsItem_6, s_M_readsItem_7, s_M_readsItem_10, s_M_readsItem_11, s_M_readsItem_12, s_M_readsItem_13, s_M_readsItem_14, s_M_readsItem_17, s_M_readsItem_18, s_M_readsItem_19, s_M_readsItem_22, s_M_readsItem_25, s_M_readsItem_26, s_M_readsItem_27, s_M_readsItem_28, s_M_readsItem_31, s_M_readsItem_34, s_M_readsItem_35, s_M_readsItem_36, s_M_readsItem_39, s_M_readsItem_40, s_M_readsItem_41, s_M_readsItem_42, s_M_readsItem_45, s_M_readsItem_47, s_M_readsItem_48, s_M_readsItem_49, s_M_readsItem_50, s_M_readsItem_53, s_M_readsItem_54, s_M_readsItem_55, s_M_readsItem_56, s_M_readsItem_57, s_M_readsItem_60, s_M_readsItem_62, s_M_readsItem_63, s_M_readsItem_64, s_M_readsItem_65, s_M_readsItem_68, s_M_readsItem_69, s_M_readsItem_70, s_M_readsItem_73, s_M_readsItem_76, s_M_readsItem_77, s_M_readsItem_80, s_M_readsItem_82, s_M_readsItem_83, s_M_readsItem_86, s_M_readsItem_88, s_M_readsItem_89, s_M_readsItem_90, s_M_readsItem_91, s_M_readsItem_92, s_M_readsItem_93, s_M_readsItem_94, s_M_readsItem_95, s_M_readsItem_96, s_M_readsItem_99, s_M_readsItem_100, s_M_readsItem_101, s_M_readsItem_104, s_M_readsItem_105, s_M_readsItem_108, s_M_readsItem_111, s_M_readsItem_112, s_M_readsItem_113, s_M_readsItem_116, Option.bind_some, Option.bind_none, Option.toList_some, Option.toList_none, List.cons_append, List.nil_append, if_true, if_false, rz_clr, true_or, or_true, z00, z11, bZ_eq0, bZ_eq1, nor_self, if_pos, if_neg, zI_add, zI_sub, zI_mul, zI_neg, zI_lt, zI_le, zI_eq, c_M, f_M_0, u_M_0, f_M_1, u_M_1, f_M_2, l_M_2, r_M_2, w_M_2, f_M_3, u_M_3, f_M_4, u_M_4, f_M_5, u_M_5, f_M_6, u_M_6, f_M_7, u_M_7, f_M_8, u_M_8, f_M_9, l_M_9, r_M_9, w_M_9, f_M_10, l_M_10, r_M_10, w_M_10, f_M_11, l_M_11, r_M_11, w_M_11, f_M_12, l_M_12, r_M_12, w_M_12, f_M_13, l_M_13, r_M_13, w_M_13, f_M_14, l_M_14, r_M_14, w_M_14, f_M_15, l_M_15, r_M_15, w_M_15, f_M_16, l_M_16, r_M_16, w_M_16, f_M_17, l_M_17, r_M_17, w_M_17, f_M_18, l_M_18, r_M_18, w_M_18, gset_at, d0, d1, g1, k1, hw]
end ND1
