-- the model: worth, even, fairest
section MT1
variable {N : Nat} {σ : zS} {p q : zP} {la hm V : Nat → Int}
/-- the walk with one refusal more -/
def moQ (q : zP) (m : Int) (v : Int) : zP := pset q 1 (zup (q 1) m.toNat v)
theorem sR_mo {t : Nat → Int} (hs : sR t q) {m : Int} (hm : 0 ≤ m ∧ m < 2) (v : Int) : sR (zup t (2 + m).toNat v) (moQ q m v) := by
  obtain ⟨r0, ⟨r1, r2⟩, r3, r4, r5, r6, r7⟩ := hs
  have : m = 0 ∨ m = 1 := by omega
  rcases this with e | e <;> subst e
  · exact ⟨r0, ⟨rfl, r2⟩, r3, r4, r5, r6, r7⟩
  · exact ⟨r0, ⟨r1, rfl⟩, r3, r4, r5, r6, r7⟩
theorem moQ_self (m : Int) : moQ q m (q 1 m.toNat) = q := by
  unfold moQ
  have : zup (q 1) m.toNat (q 1 m.toNat) = q 1 := by
    funext j
    by_cases c : j = m.toNat
    · rw [c, zup_eq]
    · rw [zup_ne c]
  rw [this, pset_self]
theorem moQ_mo (m v w : Int) : moQ (moQ q m v) m w = moQ q m w := by
  unfold moQ
  rw [pset_eq, pset_pset, zup_zup]
theorem wfW_mo (hq : wfW q p) {m v : Int} (hm : 0 ≤ m ∧ m < 2) (hv : 0 ≤ v ∧ v ≤ 2) : wfW (moQ q m v) p := by
  obtain ⟨q1, q2⟩ := hq
  refine ⟨fun j hj => ⟨(q1 j hj).1, ?_⟩, q2⟩
  unfold moQ
  rw [pset_eq]
  unfold zup
  split
  · exact hv
  · exact (q1 j hj).2
theorem kW_mo (hq : wfW q p) {m : Int} (hm : 0 ≤ m ∧ m < 2) : kW (moQ q m (q 1 m.toNat + 1)) = kMore q m := by
  have h0 := (hq.1 0 (by decide)).2
  have h1 := (hq.1 1 (by decide)).2
  unfold kMore kW
  have : m = 0 ∨ m = 1 := by omega
  rcases this with e | e <;> subst e
  · have e0 : moQ q 0 (q 1 (0 : Int).toNat + 1) 1 0 = q 1 0 + 1 := rfl
    have e1 : moQ q 0 (q 1 (0 : Int).toNat + 1) 1 1 = q 1 1 := rfl
    have e2 : moQ q 0 (q 1 (0 : Int).toNat + 1) 0 = q 0 := rfl
    have e3 : moQ q 0 (q 1 (0 : Int).toNat + 1) 2 = q 2 := rfl
    rw [e0, e1, e2, e3, if_pos rfl]
    omega
  · have e0 : moQ q 1 (q 1 (1 : Int).toNat + 1) 1 0 = q 1 0 := rfl
    have e1 : moQ q 1 (q 1 (1 : Int).toNat + 1) 1 1 = q 1 1 + 1 := rfl
    have e2 : moQ q 1 (q 1 (1 : Int).toNat + 1) 0 = q 0 := rfl
    have e3 : moQ q 1 (q 1 (1 : Int).toNat + 1) 2 = q 2 := rfl
    rw [e0, e1, e2, e3, if_neg (by decide)]
    omega
theorem z_Mworth (d : Nat) (hN : 60 ≤ N) (hm : tlR (σ 10 9) 0 p) (hs : sR (σ 10 10) q) (hw : wfP p) (hl : lkP p) (hq : wfW q p) {m n : Int} (hm2 : rg m) (hn : rg n) : ∃ m', rz_dM (d + 9) iM_worth [.ref (bs 10), .int (zI m), .int (zI n)] (wOf N σ) = some (some (.int (zI (worthA q p m n))), wOf N (gset σ 10 m')) ∧ sm [0, 10, 13, 14, 15, 16, 17, 18] (σ 10) m' ∧ sR (m' 10) q := by
  unfold worthA
  by_cases a1 : 0 ≤ m ∧ m < 2
  · have a1' : 0 ≤ m ∧ m ≤ 1 := by omega
    by_cases a2 : 0 ≤ n ∧ n ≤ 4
    · rw [if_pos ⟨a1, a2⟩]
      have hm0 : tlR (T0 (σ 10) 9) 0 p := hm
      have ha0 := z_MasTold (N := N) (σ := gset σ 10 (T0 (σ 10))) (d + 7) hN
      rw [gset_at, gset_gset] at ha0
      have sA : sm [0, 15, 16] (σ 10) (asW (T0 (σ 10))) := sm_tr (sm_mono (T0_sm _) (by decide)) (sm_mono (asW_sm _) (by decide))
      have u16 := as_la hw hm0
      have u15 := as_ho hw hm0
      generalize asW (T0 (σ 10)) = mA at *
      have hmA : tlR (mA 9) 0 p := by rw [sA 9 (by decide)]; exact hm
      have hsA : sR (mA 10) q := by rw [sA 10 (by decide)]; exact hs
      obtain ⟨m1, h1, h2⟩ := z_MvalueNow (N := N) (σ := gset σ 10 mA) (la := laM p) (hm := hoO p) d hN hw hl (q := q) (by rw [gset_at]; exact hmA) (by rw [gset_at]; exact hsA) (by rw [gset_at]; exact u16) (by rw [gset_at]; exact u15) hq (n := n) (by omega)
      rw [gset_gset, val_laM hw] at h1
      rw [gset_at] at h2
      have hs1 : sR (m1 10) q := by rw [h2 10 (by decide)]; exact hsA
      have ql := (hq.1 m.toNat (by omega)).2
      have sq := sR_1 hsA a1
      have hvr := valQ_rg p (laO p) (hoO p) q (kW q) n
      have goal : ∀ v : Int, (0 ≤ v ∧ v ≤ 2) → (if q 1 m.toNat < 2 then v = q 1 m.toNat + 1 else v = 2) → ∃ m', rz_dM (d + 9) iM_worth [.ref (bs 10), .int (zI m), .int (zI n)] (wOf N σ) = some (some (.int (zI (valQ p (laO p) (hoO p) q (kW (moQ q m v)) n - valQ p (laO p) (hoO p) q (kW q) n))), wOf N (gset σ 10 m')) ∧ sm [0, 10, 13, 14, 15, 16, 17, 18] (σ 10) m' ∧ sR (m' 10) q := by
        intro v hv hvv
        have hq2 := wfW_mo hq a1 hv
        have e16 : pset m1 10 (zup (m1 10) (2 + m).toNat v) 16 = mA 16 := by rw [pset_ne (by decide), h2 16 (by decide)]
        have e15 : pset m1 10 (zup (m1 10) (2 + m).toNat v) 15 = mA 15 := by rw [pset_ne (by decide), h2 15 (by decide)]
        have e9 : pset m1 10 (zup (m1 10) (2 + m).toNat v) 9 = mA 9 := by rw [pset_ne (by decide), h2 9 (by decide)]
        obtain ⟨m2, g1, g2⟩ := z_MvalueNow (N := N) (σ := gset σ 10 (pset m1 10 (zup (m1 10) (2 + m).toNat v))) (la := laM p) (hm := hoO p) d hN hw hl (q := moQ q m v) (by rw [gset_at, e9]; exact hmA) (by rw [gset_at, pset_eq]; exact sR_mo hs1 a1 v) (by rw [gset_at, e16]; exact u16) (by rw [gset_at, e15]; exact u15) hq2 (n := n) (by omega)
        rw [gset_gset, val_laM hw] at g1
        rw [gset_at] at g2
        have ev : valQ p (laO p) (hoO p) (moQ q m v) (kW (moQ q m v)) n = valQ p (laO p) (hoO p) q (kW (moQ q m v)) n := rfl
        rw [ev] at g1
        have s2 : sR (m2 10) (moQ q m v) := by rw [g2 10 (by decide), pset_eq]; exact sR_mo hs1 a1 v
        have s3 := sR_mo s2 a1 (q 1 m.toNat)
        rw [moQ_mo, moQ_self] at s3
        refine ⟨pset m2 10 (zup (m2 10) (2 + m).toNat (q 1 m.toNat)), ?_, ?_, by rw [pset_eq]; exact s3⟩
        · unfold T0 at ha0
          by_cases c2 : q 1 m.toNat < 2
          · rw [if_pos c2] at hvv
            rw [hvv] at g1 g2 ⊢
            simp (disch := first | omega | exact Nat.le_of_ble_eq_true rfl) only [e_M_worth, s_M_worth_0, s_M_worth_1, s_M_worth_2, s_M_worth_5, s_M_worth_6, s_M_worth_7, s_M_worth_8, s_M_worth_11, s_M_worth_14, s_M_worth_15, s_M_worth_16, s_M_worth_17, s_M_worth_20, s_M_worth_23, s_M_worth_25, s_M_worth_26, s_M_worth_27, s_M_worth_30, s_M_worth_31, s_M_worth_34, s_M_worth_35, s_M_worth_36, s_M_worth_37, s_M_worth_38, s_M_worth_39, s_M_worth_40, s_M_worth_41, s_M_worth_44, s_M_worth_46, s_M_worth_47, s_M_worth_50, s_M_worth_51, s_M_worth_52, s_M_worth_53, s_M_worth_54, s_M_worth_55, s_M_worth_58, s_M_worth_59, s_M_worth_60, s_M_worth_61, s_M_worth_64, s_M_worth_65, s_M_worth_66, s_M_worth_67, s_M_worth_68, s_M_worth_71, s_M_worth_73, s_M_worth_74, s_M_worth_77, s_M_worth_78, s_M_worth_79, s_M_worth_80, s_M_worth_81, s_M_worth_82, s_M_worth_84, s_M_worth_86, s_M_worth_87, Option.bind_some, Option.bind_none, Option.toList_some, Option.toList_none, List.cons_append, List.nil_append, if_true, if_false, rz_clr, true_or, or_true, z00, z11, bZ_eq0, bZ_eq1, nor_self, if_pos, if_neg, zI_add, zI_sub, zI_mul, zI_neg, zI_lt, zI_le, zI_eq, c_M, f_M_0, u_M_0, f_M_1, u_M_1, f_M_2, l_M_2, r_M_2, w_M_2, f_M_3, u_M_3, f_M_4, u_M_4, f_M_5, u_M_5, f_M_6, u_M_6, f_M_7, u_M_7, f_M_8, u_M_8, f_M_9, l_M_9, r_M_9, w_M_9, f_M_10, l_M_10, r_M_10, w_M_10, f_M_11, l_M_11, r_M_11, w_M_11, f_M_12, l_M_12, r_M_12, w_M_12, f_M_13, l_M_13, r_M_13, w_M_13, f_M_14, l_M_14, r_M_14, w_M_14, f_M_15, l_M_15, r_M_15, w_M_15, f_M_16, l_M_16, r_M_16, w_M_16, f_M_17, l_M_17, r_M_17, w_M_17, f_M_18, l_M_18, r_M_18, w_M_18, sset_eq, gset_at, gset_gset, gset_ne, pset_eq, pset_ne, z_Min, bZ_pos a1', bZ_pos a2, ha0, sq, h1, g1]
          · rw [if_neg c2] at hvv
            rw [hvv] at g1 g2 ⊢
            simp (disch := first | omega | exact Nat.le_of_ble_eq_true rfl) only [e_M_worth, s_M_worth_0, s_M_worth_1, s_M_worth_2, s_M_worth_5, s_M_worth_6, s_M_worth_7, s_M_worth_8, s_M_worth_11, s_M_worth_14, s_M_worth_15, s_M_worth_16, s_M_worth_17, s_M_worth_20, s_M_worth_23, s_M_worth_25, s_M_worth_26, s_M_worth_27, s_M_worth_30, s_M_worth_31, s_M_worth_34, s_M_worth_35, s_M_worth_36, s_M_worth_37, s_M_worth_38, s_M_worth_39, s_M_worth_40, s_M_worth_41, s_M_worth_44, s_M_worth_46, s_M_worth_47, s_M_worth_50, s_M_worth_51, s_M_worth_52, s_M_worth_53, s_M_worth_54, s_M_worth_55, s_M_worth_58, s_M_worth_59, s_M_worth_60, s_M_worth_61, s_M_worth_64, s_M_worth_65, s_M_worth_66, s_M_worth_67, s_M_worth_68, s_M_worth_71, s_M_worth_73, s_M_worth_74, s_M_worth_77, s_M_worth_78, s_M_worth_79, s_M_worth_80, s_M_worth_81, s_M_worth_82, s_M_worth_84, s_M_worth_86, s_M_worth_87, Option.bind_some, Option.bind_none, Option.toList_some, Option.toList_none, List.cons_append, List.nil_append, if_true, if_false, rz_clr, true_or, or_true, z00, z11, bZ_eq0, bZ_eq1, nor_self, if_pos, if_neg, zI_add, zI_sub, zI_mul, zI_neg, zI_lt, zI_le, zI_eq, c_M, f_M_0, u_M_0, f_M_1, u_M_1, f_M_2, l_M_2, r_M_2, w_M_2, f_M_3, u_M_3, f_M_4, u_M_4, f_M_5, u_M_5, f_M_6, u_M_6, f_M_7, u_M_7, f_M_8, u_M_8, f_M_9, l_M_9, r_M_9, w_M_9, f_M_10, l_M_10, r_M_10, w_M_10, f_M_11, l_M_11, r_M_11, w_M_11, f_M_12, l_M_12, r_M_12, w_M_12, f_M_13, l_M_13, r_M_13, w_M_13, f_M_14, l_M_14, r_M_14, w_M_14, f_M_15, l_M_15, r_M_15, w_M_15, f_M_16, l_M_16, r_M_16, w_M_16, f_M_17, l_M_17, r_M_17, w_M_17, f_M_18, l_M_18, r_M_18, w_M_18, sset_eq, gset_at, gset_gset, gset_ne, pset_eq, pset_ne, z_Min, bZ_pos a1', bZ_pos a2, ha0, sq, h1, g1]
        · exact sm_pset (sm_tr (sm_mono sA (by decide)) (sm_tr (sm_mono h2 (by decide)) (sm_tr (sm_pset (sm_rfl _ _) (by decide)) (sm_mono g2 (by decide))))) (by decide)
      by_cases c2 : q 1 m.toNat < 2
      · rw [if_pos c2, ← kW_mo hq a1]
        exact goal _ (by omega) (by rw [if_pos c2])
      · rw [if_neg c2]
        have h := goal 2 (by omega) (by rw [if_neg c2])
        have e2 : q 1 m.toNat = 2 := by omega
        have e3 : moQ q m 2 = q := by rw [← e2]; exact moQ_self m
        rw [e3, Int.sub_self] at h
        exact h
    · rw [if_neg (fun z => a2 z.2)]
      refine ⟨T0 (σ 10), ?_, sm_mono (T0_sm _) (by decide), hs⟩
      unfold T0
      simp (disch := first | omega | exact Nat.le_of_ble_eq_true rfl) only [e_M_worth, s_M_worth_0, s_M_worth_1, s_M_worth_2, s_M_worth_5, s_M_worth_6, s_M_worth_7, s_M_worth_8, s_M_worth_11, s_M_worth_14, s_M_worth_15, s_M_worth_16, s_M_worth_17, s_M_worth_20, s_M_worth_23, s_M_worth_25, s_M_worth_26, s_M_worth_27, s_M_worth_30, s_M_worth_31, s_M_worth_34, s_M_worth_35, s_M_worth_36, s_M_worth_37, s_M_worth_38, s_M_worth_39, s_M_worth_40, s_M_worth_41, s_M_worth_44, s_M_worth_46, s_M_worth_47, s_M_worth_50, s_M_worth_51, s_M_worth_52, s_M_worth_53, s_M_worth_54, s_M_worth_55, s_M_worth_58, s_M_worth_59, s_M_worth_60, s_M_worth_61, s_M_worth_64, s_M_worth_65, s_M_worth_66, s_M_worth_67, s_M_worth_68, s_M_worth_71, s_M_worth_73, s_M_worth_74, s_M_worth_77, s_M_worth_78, s_M_worth_79, s_M_worth_80, s_M_worth_81, s_M_worth_82, s_M_worth_84, s_M_worth_86, s_M_worth_87, Option.bind_some, Option.bind_none, Option.toList_some, Option.toList_none, List.cons_append, List.nil_append, if_true, if_false, rz_clr, true_or, or_true, z00, z11, bZ_eq0, bZ_eq1, nor_self, if_pos, if_neg, zI_add, zI_sub, zI_mul, zI_neg, zI_lt, zI_le, zI_eq, c_M, f_M_0, u_M_0, f_M_1, u_M_1, f_M_2, l_M_2, r_M_2, w_M_2, f_M_3, u_M_3, f_M_4, u_M_4, f_M_5, u_M_5, f_M_6, u_M_6, f_M_7, u_M_7, f_M_8, u_M_8, f_M_9, l_M_9, r_M_9, w_M_9, f_M_10, l_M_10, r_M_10, w_M_10, f_M_11, l_M_11, r_M_11, w_M_11, f_M_12, l_M_12, r_M_12, w_M_12, f_M_13, l_M_13, r_M_13, w_M_13, f_M_14, l_M_14, r_M_14, w_M_14, f_M_15, l_M_15, r_M_15, w_M_15, f_M_16, l_M_16, r_M_16, w_M_16, f_M_17, l_M_17, r_M_17, w_M_17, f_M_18, l_M_18, r_M_18, w_M_18, sset_eq, gset_at, gset_gset, gset_ne, pset_eq, pset_ne, z_Min, bZ_pos a1', bZ_neg a2]
  · have a1' : ¬ (0 ≤ m ∧ m ≤ 1) := by omega
    rw [if_neg (fun z => a1 z.1)]
    refine ⟨T0 (σ 10), ?_, sm_mono (T0_sm _) (by decide), hs⟩
    unfold T0
    simp (disch := first | omega | exact Nat.le_of_ble_eq_true rfl) only [e_M_worth, s_M_worth_0, s_M_worth_1, s_M_worth_2, s_M_worth_5, s_M_worth_6, s_M_worth_7, s_M_worth_8, s_M_worth_11, s_M_worth_14, s_M_worth_15, s_M_worth_16, s_M_worth_17, s_M_worth_20, s_M_worth_23, s_M_worth_25, s_M_worth_26, s_M_worth_27, s_M_worth_30, s_M_worth_31, s_M_worth_34, s_M_worth_35, s_M_worth_36, s_M_worth_37, s_M_worth_38, s_M_worth_39, s_M_worth_40, s_M_worth_41, s_M_worth_44, s_M_worth_46, s_M_worth_47, s_M_worth_50, s_M_worth_51, s_M_worth_52, s_M_worth_53, s_M_worth_54, s_M_worth_55, s_M_worth_58, s_M_worth_59, s_M_worth_60, s_M_worth_61, s_M_worth_64, s_M_worth_65, s_M_worth_66, s_M_worth_67, s_M_worth_68, s_M_worth_71, s_M_worth_73, s_M_worth_74, s_M_worth_77, s_M_worth_78, s_M_worth_79, s_M_worth_80, s_M_worth_81, s_M_worth_82, s_M_worth_84, s_M_worth_86, s_M_worth_87, Option.bind_some, Option.bind_none, Option.toList_some, Option.toList_none, List.cons_append, List.nil_append, if_true, if_false, rz_clr, true_or, or_true, z00, z11, bZ_eq0, bZ_eq1, nor_self, if_pos, if_neg, zI_add, zI_sub, zI_mul, zI_neg, zI_lt, zI_le, zI_eq, c_M, f_M_0, u_M_0, f_M_1, u_M_1, f_M_2, l_M_2, r_M_2, w_M_2, f_M_3, u_M_3, f_M_4, u_M_4, f_M_5, u_M_5, f_M_6, u_M_6, f_M_7, u_M_7, f_M_8, u_M_8, f_M_9, l_M_9, r_M_9, w_M_9, f_M_10, l_M_10, r_M_10, w_M_10, f_M_11, l_M_11, r_M_11, w_M_11, f_M_12, l_M_12, r_M_12, w_M_12, f_M_13, l_M_13, r_M_13, w_M_13, f_M_14, l_M_14, r_M_14, w_M_14, f_M_15, l_M_15, r_M_15, w_M_15, f_M_16, l_M_16, r_M_16, w_M_16, f_M_17, l_M_17, r_M_17, w_M_17, f_M_18, l_M_18, r_M_18, w_M_18, sset_eq, gset_at, gset_gset, gset_ne, pset_eq, pset_ne, z_Min, bZ_neg a1']
/-- men, homes and laws changed -/
def chM (m : zP) : zP := pset (pset m 15 (zup (zup (m 15) 0 (m 9 28)) 1 (m 9 27))) 16 (zup (zup (m 16) 0 (m 9 30)) 1 (m 9 29))
theorem z_Meven (d : Nat) (hN : 60 ≤ N) (hm : tlR (σ 10 9) 0 p) (hs : sR (σ 10 10) q) (hw : wfP p) (hl : lkP p) (hq : wfW q p) {n : Int} (hn : rg n) : ∃ m', rz_dM (d + 9) iM_even [.ref (bs 10), .int (zI n)] (wOf N σ) = some (some (.int (zI (evenA q p n))), wOf N (gset σ 10 m')) ∧ sm [0, 13, 14, 15, 16, 17, 18] (σ 10) m' := by
  unfold evenA
  by_cases a2 : 0 ≤ n ∧ n ≤ 4
  · rw [if_pos a2]
    have hm0 : tlR (T0 (σ 10) 9) 0 p := hm
    have ha0 := z_MasTold (N := N) (σ := gset σ 10 (T0 (σ 10))) (d + 7) hN
    rw [gset_at, gset_gset] at ha0
    have sA : sm [0, 15, 16] (σ 10) (asW (T0 (σ 10))) := sm_tr (sm_mono (T0_sm _) (by decide)) (sm_mono (asW_sm _) (by decide))
    have u16 := as_la hw hm0
    have u15 := as_ho hw hm0
    generalize asW (T0 (σ 10)) = mA at *
    have hmA : tlR (mA 9) 0 p := by rw [sA 9 (by decide)]; exact hm
    have hsA : sR (mA 10) q := by rw [sA 10 (by decide)]; exact hs
    obtain ⟨m1, h1, h2⟩ := z_MvalueNow (N := N) (σ := gset σ 10 mA) (la := laM p) (hm := hoO p) d hN hw hl (q := q) (by rw [gset_at]; exact hmA) (by rw [gset_at]; exact hsA) (by rw [gset_at]; exact u16) (by rw [gset_at]; exact u15) hq (n := n) (by omega)
    rw [gset_gset, val_laM hw] at h1
    rw [gset_at] at h2
    have hm1 : tlR (m1 9) 0 p := by rw [h2 9 (by decide)]; exact hmA
    have hs1 : sR (m1 10) q := by rw [h2 10 (by decide)]; exact hsA
    have hvr := valQ_rg p (laO p) (hoO p) q (kW q) n
    have sC : sm [15, 16] m1 (chM m1) := sm_pset (sm_pset (sm_rfl _ _) (by decide)) (by decide)
    have eC : pset (pset m1 15 (zup (zup (m1 15) (0 : Int).toNat (m1 9 (28 : Int).toNat)) (1 : Int).toNat (m1 9 (27 : Int).toNat))) 16 (zup (zup (m1 16) (0 : Int).toNat (m1 9 (30 : Int).toNat)) (1 : Int).toNat (m1 9 (29 : Int).toNat)) = chM m1 := rfl
    have b0 := hm1.2.2.2 0 (by decide)
    have b1 := hm1.2.2.2 1 (by decide)
    have ha := wfP_area hw
    have hh0 := (hw.2.2.2 0 (by decide)).2.1
    have hh1 := (hw.2.2.2 1 (by decide)).2.1
    obtain ⟨u0, hu0, hu03⟩ := use_nat hw (m := 0) (by omega)
    obtain ⟨u1, hu1, hu13⟩ := use_nat hw (m := 1) (by omega)
    have c16 : ∀ j : Nat, j < 2 → chM m1 16 j = r2 (p 6 1) (p 6 0) j ∧ 0 ≤ r2 (p 6 1) (p 6 0) j ∧ r2 (p 6 1) (p 6 0) j < 3 := by
      intro j hj
      have hu0' : p 6 0 = u0 := hu0
      have hu1' : p 6 1 = u1 := hu1
      rcases r2_c (a := p 6 1) (b := p 6 0) hj with ⟨e, e'⟩ | ⟨e, e'⟩
      · rw [e', e]; exact ⟨b1.2.2.1, by omega⟩
      · rw [e', e]; exact ⟨b0.2.2.1, by omega⟩
    have c15 : ∀ j : Nat, j < 2 → chM m1 15 j = r2 (p 5 1) (p 5 0) j ∧ rg (r2 (p 5 1) (p 5 0) j) := by
      intro j hj
      rcases r2_c (a := p 5 1) (b := p 5 0) hj with ⟨e, e'⟩ | ⟨e, e'⟩
      · rw [e', e]; exact ⟨b1.2.1, by omega⟩
      · rw [e', e]; exact ⟨b0.2.1, by omega⟩
    unfold T0 at ha0
    by_cases v0 : valQ p (laO p) (hoO p) q (kW q) n = 0
    · rw [if_pos v0]
      rw [v0] at h1
      obtain ⟨k1, k2, k3, k4, k5, k6⟩ := kW_f hw hq
      obtain ⟨e1, e2, e3, e4, e5, e6⟩ := sw_f k1
      obtain ⟨qk1, qk2⟩ := qK_kW hw hq
      have hsC : sR (chM m1 10) q := by rw [sC 10 (by decide)]; exact hs1
      obtain ⟨m2, g1, g2⟩ := z_MvalueIn (N := N) (σ := gset σ 10 (chM m1)) (la := r2 (p 6 1) (p 6 0)) (hm := r2 (p 5 1) (p 5 0)) (q := q) (d + 1) hN hw hl (by rw [gset_at, sC 9 (by decide)]; exact hm1) (by rw [gset_at]; exact hsC) (by rw [gset_at]; exact c16) (by rw [gset_at]; exact c15) (vK_sw k1) (K := swK (kW q)) ⟨by rw [e6]; exact qk1, qk2⟩ (n := n) (by omega)
      rw [gset_gset, e2, e3, e4, e5, valQ_ld (la_ld2 hw) (fun _ _ => rfl)] at g1
      rw [gset_at] at g2
      obtain ⟨q1, q2, q3, q4, q5, q6⟩ := id hq
      obtain ⟨⟨w0, w1⟩, w2, w3⟩ := q1 0 (by decide)
      obtain ⟨⟨d0, d1⟩, d2, d3⟩ := q1 1 (by decide)
      have s0 : chM m1 10 (0 : Int).toNat = (cl (kW q) 0 : Nat) := by rw [k2]; have := hsC.1.1; show chM m1 10 0 = _; omega
      have s1 : chM m1 10 (1 : Int).toNat = (cl (kW q) 1 : Nat) := by rw [k3]; have := hsC.1.2; show chM m1 10 1 = _; omega
      have s2 : chM m1 10 (2 : Int).toNat = (lf (kW q) 0 : Nat) := by rw [k4]; have := hsC.2.1.1; show chM m1 10 2 = _; omega
      have s3 : chM m1 10 (3 : Int).toNat = (lf (kW q) 1 : Nat) := by rw [k5]; have := hsC.2.1.2; show chM m1 10 3 = _; omega
      have s7 := sR_7 hsC
      have hvr2 := valQ_rg p (r2 (lawP p 1) (lawP p 0)) (r2 (p 5 1) (p 5 0)) q (swK (kW q)) n
      refine ⟨m2, ?_, sm_tr (sm_mono sA (by decide)) (sm_tr (sm_mono h2 (by decide)) (sm_tr (sm_mono sC (by decide)) (sm_mono g2 (by decide))))⟩
      by_cases v1 : valQ p (r2 (lawP p 1) (lawP p 0)) (r2 (p 5 1) (p 5 0)) q (swK (kW q)) n = 0
      · rw [if_pos v1]
        rw [v1] at g1
        simp (disch := first | omega | exact Nat.le_of_ble_eq_true rfl) only [e_M_even, s_M_even_0, s_M_even_1, s_M_even_2, s_M_even_5, s_M_even_6, s_M_even_7, s_M_even_8, s_M_even_11, s_M_even_14, s_M_even_15, s_M_even_16, s_M_even_17, s_M_even_20, s_M_even_21, s_M_even_22, s_M_even_25, s_M_even_26, s_M_even_27, s_M_even_30, s_M_even_31, s_M_even_32, s_M_even_35, s_M_even_37, s_M_even_38, s_M_even_39, s_M_even_40, s_M_even_43, s_M_even_44, s_M_even_45, s_M_even_48, s_M_even_50, s_M_even_51, s_M_even_52, s_M_even_53, s_M_even_56, s_M_even_57, s_M_even_58, s_M_even_61, s_M_even_63, s_M_even_64, s_M_even_65, s_M_even_66, s_M_even_69, s_M_even_70, s_M_even_71, s_M_even_74, s_M_even_76, s_M_even_77, s_M_even_78, s_M_even_79, s_M_even_82, s_M_even_83, s_M_even_84, s_M_even_87, s_M_even_88, s_M_even_89, s_M_even_90, s_M_even_93, s_M_even_94, s_M_even_95, s_M_even_96, s_M_even_99, s_M_even_100, s_M_even_101, s_M_even_102, s_M_even_105, s_M_even_106, s_M_even_107, s_M_even_108, s_M_even_111, s_M_even_113, s_M_even_114, s_M_even_115, s_M_even_118, s_M_even_121, s_M_even_122, s_M_even_125, s_M_even_126, Option.bind_some, Option.bind_none, Option.toList_some, Option.toList_none, List.cons_append, List.nil_append, if_true, if_false, rz_clr, true_or, or_true, z00, z11, bZ_eq0, bZ_eq1, nor_self, if_pos, if_neg, zI_add, zI_sub, zI_mul, zI_neg, zI_lt, zI_le, zI_eq, c_M, f_M_0, u_M_0, f_M_1, u_M_1, f_M_2, l_M_2, r_M_2, w_M_2, f_M_3, u_M_3, f_M_4, u_M_4, f_M_5, u_M_5, f_M_6, u_M_6, f_M_7, u_M_7, f_M_8, u_M_8, f_M_9, l_M_9, r_M_9, w_M_9, f_M_10, l_M_10, r_M_10, w_M_10, f_M_11, l_M_11, r_M_11, w_M_11, f_M_12, l_M_12, r_M_12, w_M_12, f_M_13, l_M_13, r_M_13, w_M_13, f_M_14, l_M_14, r_M_14, w_M_14, f_M_15, l_M_15, r_M_15, w_M_15, f_M_16, l_M_16, r_M_16, w_M_16, f_M_17, l_M_17, r_M_17, w_M_17, f_M_18, l_M_18, r_M_18, w_M_18, sset_eq, gset_at, gset_gset, gset_ne, pset_eq, pset_ne, pset_pset, z_Min, bZ_pos a2, ha0, h1, eC, s0, s1, s2, s3, s7, g1]
      · rw [if_neg v1]
        simp (disch := first | omega | exact Nat.le_of_ble_eq_true rfl) only [e_M_even, s_M_even_0, s_M_even_1, s_M_even_2, s_M_even_5, s_M_even_6, s_M_even_7, s_M_even_8, s_M_even_11, s_M_even_14, s_M_even_15, s_M_even_16, s_M_even_17, s_M_even_20, s_M_even_21, s_M_even_22, s_M_even_25, s_M_even_26, s_M_even_27, s_M_even_30, s_M_even_31, s_M_even_32, s_M_even_35, s_M_even_37, s_M_even_38, s_M_even_39, s_M_even_40, s_M_even_43, s_M_even_44, s_M_even_45, s_M_even_48, s_M_even_50, s_M_even_51, s_M_even_52, s_M_even_53, s_M_even_56, s_M_even_57, s_M_even_58, s_M_even_61, s_M_even_63, s_M_even_64, s_M_even_65, s_M_even_66, s_M_even_69, s_M_even_70, s_M_even_71, s_M_even_74, s_M_even_76, s_M_even_77, s_M_even_78, s_M_even_79, s_M_even_82, s_M_even_83, s_M_even_84, s_M_even_87, s_M_even_88, s_M_even_89, s_M_even_90, s_M_even_93, s_M_even_94, s_M_even_95, s_M_even_96, s_M_even_99, s_M_even_100, s_M_even_101, s_M_even_102, s_M_even_105, s_M_even_106, s_M_even_107, s_M_even_108, s_M_even_111, s_M_even_113, s_M_even_114, s_M_even_115, s_M_even_118, s_M_even_121, s_M_even_122, s_M_even_125, s_M_even_126, Option.bind_some, Option.bind_none, Option.toList_some, Option.toList_none, List.cons_append, List.nil_append, if_true, if_false, rz_clr, true_or, or_true, z00, z11, bZ_eq0, bZ_eq1, nor_self, if_pos, if_neg, zI_add, zI_sub, zI_mul, zI_neg, zI_lt, zI_le, zI_eq, c_M, f_M_0, u_M_0, f_M_1, u_M_1, f_M_2, l_M_2, r_M_2, w_M_2, f_M_3, u_M_3, f_M_4, u_M_4, f_M_5, u_M_5, f_M_6, u_M_6, f_M_7, u_M_7, f_M_8, u_M_8, f_M_9, l_M_9, r_M_9, w_M_9, f_M_10, l_M_10, r_M_10, w_M_10, f_M_11, l_M_11, r_M_11, w_M_11, f_M_12, l_M_12, r_M_12, w_M_12, f_M_13, l_M_13, r_M_13, w_M_13, f_M_14, l_M_14, r_M_14, w_M_14, f_M_15, l_M_15, r_M_15, w_M_15, f_M_16, l_M_16, r_M_16, w_M_16, f_M_17, l_M_17, r_M_17, w_M_17, f_M_18, l_M_18, r_M_18, w_M_18, sset_eq, gset_at, gset_gset, gset_ne, pset_eq, pset_ne, pset_pset, z_Min, bZ_pos a2, ha0, h1, eC, s0, s1, s2, s3, s7, g1]
    · rw [if_neg v0]
      refine ⟨chM m1, ?_, sm_tr (sm_mono sA (by decide)) (sm_tr (sm_mono h2 (by decide)) (sm_mono sC (by decide)))⟩
      simp (disch := first | omega | exact Nat.le_of_ble_eq_true rfl) only [e_M_even, s_M_even_0, s_M_even_1, s_M_even_2, s_M_even_5, s_M_even_6, s_M_even_7, s_M_even_8, s_M_even_11, s_M_even_14, s_M_even_15, s_M_even_16, s_M_even_17, s_M_even_20, s_M_even_21, s_M_even_22, s_M_even_25, s_M_even_26, s_M_even_27, s_M_even_30, s_M_even_31, s_M_even_32, s_M_even_35, s_M_even_37, s_M_even_38, s_M_even_39, s_M_even_40, s_M_even_43, s_M_even_44, s_M_even_45, s_M_even_48, s_M_even_50, s_M_even_51, s_M_even_52, s_M_even_53, s_M_even_56, s_M_even_57, s_M_even_58, s_M_even_61, s_M_even_63, s_M_even_64, s_M_even_65, s_M_even_66, s_M_even_69, s_M_even_70, s_M_even_71, s_M_even_74, s_M_even_76, s_M_even_77, s_M_even_78, s_M_even_79, s_M_even_82, s_M_even_83, s_M_even_84, s_M_even_87, s_M_even_88, s_M_even_89, s_M_even_90, s_M_even_93, s_M_even_94, s_M_even_95, s_M_even_96, s_M_even_99, s_M_even_100, s_M_even_101, s_M_even_102, s_M_even_105, s_M_even_106, s_M_even_107, s_M_even_108, s_M_even_111, s_M_even_113, s_M_even_114, s_M_even_115, s_M_even_118, s_M_even_121, s_M_even_122, s_M_even_125, s_M_even_126, Option.bind_some, Option.bind_none, Option.toList_some, Option.toList_none, List.cons_append, List.nil_append, if_true, if_false, rz_clr, true_or, or_true, z00, z11, bZ_eq0, bZ_eq1, nor_self, if_pos, if_neg, zI_add, zI_sub, zI_mul, zI_neg, zI_lt, zI_le, zI_eq, c_M, f_M_0, u_M_0, f_M_1, u_M_1, f_M_2, l_M_2, r_M_2, w_M_2, f_M_3, u_M_3, f_M_4, u_M_4, f_M_5, u_M_5, f_M_6, u_M_6, f_M_7, u_M_7, f_M_8, u_M_8, f_M_9, l_M_9, r_M_9, w_M_9, f_M_10, l_M_10, r_M_10, w_M_10, f_M_11, l_M_11, r_M_11, w_M_11, f_M_12, l_M_12, r_M_12, w_M_12, f_M_13, l_M_13, r_M_13, w_M_13, f_M_14, l_M_14, r_M_14, w_M_14, f_M_15, l_M_15, r_M_15, w_M_15, f_M_16, l_M_16, r_M_16, w_M_16, f_M_17, l_M_17, r_M_17, w_M_17, f_M_18, l_M_18, r_M_18, w_M_18, sset_eq, gset_at, gset_gset, gset_ne, pset_eq, pset_ne, pset_pset, z_Min, bZ_pos a2, ha0, h1, eC]
  · rw [if_neg a2]
    refine ⟨T0 (σ 10), ?_, sm_mono (T0_sm _) (by decide)⟩
    unfold T0
    simp (disch := first | omega | exact Nat.le_of_ble_eq_true rfl) only [e_M_even, s_M_even_0, s_M_even_1, s_M_even_2, s_M_even_5, s_M_even_6, s_M_even_7, s_M_even_8, s_M_even_11, s_M_even_14, s_M_even_15, s_M_even_16, s_M_even_17, s_M_even_20, s_M_even_21, s_M_even_22, s_M_even_25, s_M_even_26, s_M_even_27, s_M_even_30, s_M_even_31, s_M_even_32, s_M_even_35, s_M_even_37, s_M_even_38, s_M_even_39, s_M_even_40, s_M_even_43, s_M_even_44, s_M_even_45, s_M_even_48, s_M_even_50, s_M_even_51, s_M_even_52, s_M_even_53, s_M_even_56, s_M_even_57, s_M_even_58, s_M_even_61, s_M_even_63, s_M_even_64, s_M_even_65, s_M_even_66, s_M_even_69, s_M_even_70, s_M_even_71, s_M_even_74, s_M_even_76, s_M_even_77, s_M_even_78, s_M_even_79, s_M_even_82, s_M_even_83, s_M_even_84, s_M_even_87, s_M_even_88, s_M_even_89, s_M_even_90, s_M_even_93, s_M_even_94, s_M_even_95, s_M_even_96, s_M_even_99, s_M_even_100, s_M_even_101, s_M_even_102, s_M_even_105, s_M_even_106, s_M_even_107, s_M_even_108, s_M_even_111, s_M_even_113, s_M_even_114, s_M_even_115, s_M_even_118, s_M_even_121, s_M_even_122, s_M_even_125, s_M_even_126, Option.bind_some, Option.bind_none, Option.toList_some, Option.toList_none, List.cons_append, List.nil_append, if_true, if_false, rz_clr, true_or, or_true, z00, z11, bZ_eq0, bZ_eq1, nor_self, if_pos, if_neg, zI_add, zI_sub, zI_mul, zI_neg, zI_lt, zI_le, zI_eq, c_M, f_M_0, u_M_0, f_M_1, u_M_1, f_M_2, l_M_2, r_M_2, w_M_2, f_M_3, u_M_3, f_M_4, u_M_4, f_M_5, u_M_5, f_M_6, u_M_6, f_M_7, u_M_7, f_M_8, u_M_8, f_M_9, l_M_9, r_M_9, w_M_9, f_M_10, l_M_10, r_M_10, w_M_10, f_M_11, l_M_11, r_M_11, w_M_11, f_M_12, l_M_12, r_M_12, w_M_12, f_M_13, l_M_13, r_M_13, w_M_13, f_M_14, l_M_14, r_M_14, w_M_14, f_M_15, l_M_15, r_M_15, w_M_15, f_M_16, l_M_16, r_M_16, w_M_16, f_M_17, l_M_17, r_M_17, w_M_17, f_M_18, l_M_18, r_M_18, w_M_18, sset_eq, gset_at, gset_gset, gset_ne, pset_eq, pset_ne, z_Min, bZ_neg a2]
end MT1
