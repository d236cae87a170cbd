-- the model: refused, passed
section MF
variable {N : Nat} {σ : zS} {p q : zP}
theorem ones_wo : ∀ b : Nat, b < 256 → ∀ k : Nat, k < 8 → b.testBit k = true → (woB b k ≠ 0 ↔ 1 < cN (fun i => b.testBit i) 8) := by decide +kernel
def mrB (q p : zP) : Prop := 0 < q 1 (1 - q 2 0).toNat ∧ q 3 0 = -9 ∧ 1 < cN (fun i => (mayW q p (1 - q 2 0)).testBit i) 8
theorem mbr_iff {k : Nat} (hk : k < 8) (h : (mayW q p (1 - q 2 0)).testBit k = true) : mbrQ q p k = true ↔ mrB q p := by
  have e := ones_wo _ (mayW_lt q p (1 - q 2 0)) k hk h
  unfold mbrQ mrB
  rw [Bool.and_eq_true, Bool.and_eq_true, decide_eq_true_eq, decide_eq_true_eq, decide_eq_true_eq, e]
  constructor
  · rintro ⟨a, b, c⟩; exact ⟨b, a, c⟩
  · rintro ⟨a, b, c⟩; exact ⟨b, a, c⟩
theorem z_MmayRefuse (d : Nat) (hN : 60 ≤ N) (hm : tlR (σ 10 9) 0 p) (hs : sR (σ 10 10) q) (hw : wfP p) (hl : lkP p) (hq : wfW q p) : ∃ b m', (b = 1 ∧ mrB q p ∨ b = 0 ∧ ¬ mrB q p) ∧ rz_dM (d + 5) iM_mayRefuse [.ref (bs 10)] (wOf N σ) = some (some (.int (zI b)), wOf N (gset σ 10 m')) ∧ sm [15, 16] (σ 10) m' := by
  obtain ⟨q1, q2, q3, q4, q5, q6⟩ := id hq
  have hmm : 0 ≤ 1 - q 2 0 ∧ 1 - q 2 0 < 2 := by omega
  have hmn := z_MmayNow (N := N) (σ := σ) d hN hm hs hw hl hq hmm
  have hlt := mayW_lt q p (1 - q 2 0)
  have hon := fun w => z_Mones (d + 3) hlt w
  have hcl := cN_le (fun i => (mayW q p (1 - q 2 0)).testBit i) 8
  have s4 := sR_4 hs
  have s7 := sR_7 hs
  have s1 := sR_1 hs hmm
  have ql := (q1 (1 - q 2 0).toNat (by omega)).2
  unfold mrB
  by_cases a1 : 0 < q 1 (1 - q 2 0).toNat
  · by_cases a2 : q 3 0 = -9
    · by_cases a3 : 1 < cN (fun i => (mayW q p (1 - q 2 0)).testBit i) 8
      · refine ⟨1, asW (σ 10), Or.inl ⟨rfl, a1, a2, a3⟩, ?_, asW_sm _⟩
        simp (disch := first | omega | exact Nat.le_of_ble_eq_true rfl) only [e_M_mayRefuse, s_M_mayRefuse_0, s_M_mayRefuse_1, s_M_mayRefuse_2, s_M_mayRefuse_5, s_M_mayRefuse_6, s_M_mayRefuse_7, s_M_mayRefuse_8, s_M_mayRefuse_9, s_M_mayRefuse_10, s_M_mayRefuse_13, s_M_mayRefuse_14, s_M_mayRefuse_15, s_M_mayRefuse_16, s_M_mayRefuse_17, s_M_mayRefuse_20, s_M_mayRefuse_21, s_M_mayRefuse_24, s_M_mayRefuse_26, s_M_mayRefuse_27, s_M_mayRefuse_29, s_M_mayRefuse_32, s_M_mayRefuse_33, s_M_mayRefuse_34, s_M_mayRefuse_37, s_M_mayRefuse_40, s_M_mayRefuse_41, s_M_mayRefuse_44, s_M_mayRefuse_45, s_M_mayRefuse_48, s_M_mayRefuse_49, Option.bind_some, Option.bind_none, Option.toList_some, Option.toList_none, List.cons_append, List.nil_append, if_true, if_false, rz_clr, true_or, or_true, z00, z11, bZ_eq0, bZ_eq1, nor_self, if_pos, if_neg, zI_add, zI_sub, zI_mul, zI_neg, zI_lt, zI_le, zI_eq, c_M, f_M_0, u_M_0, f_M_1, u_M_1, f_M_2, l_M_2, r_M_2, w_M_2, f_M_3, u_M_3, f_M_4, u_M_4, f_M_5, u_M_5, f_M_6, u_M_6, f_M_7, u_M_7, f_M_8, u_M_8, f_M_9, l_M_9, r_M_9, w_M_9, f_M_10, l_M_10, r_M_10, w_M_10, f_M_11, l_M_11, r_M_11, w_M_11, f_M_12, l_M_12, r_M_12, w_M_12, f_M_13, l_M_13, r_M_13, w_M_13, f_M_14, l_M_14, r_M_14, w_M_14, f_M_15, l_M_15, r_M_15, w_M_15, f_M_16, l_M_16, r_M_16, w_M_16, f_M_17, l_M_17, r_M_17, w_M_17, f_M_18, l_M_18, r_M_18, w_M_18, s4, s7, s1, hmn, hon]
      · refine ⟨0, asW (σ 10), Or.inr ⟨rfl, fun z => a3 z.2.2⟩, ?_, asW_sm _⟩
        simp (disch := first | omega | exact Nat.le_of_ble_eq_true rfl) only [e_M_mayRefuse, s_M_mayRefuse_0, s_M_mayRefuse_1, s_M_mayRefuse_2, s_M_mayRefuse_5, s_M_mayRefuse_6, s_M_mayRefuse_7, s_M_mayRefuse_8, s_M_mayRefuse_9, s_M_mayRefuse_10, s_M_mayRefuse_13, s_M_mayRefuse_14, s_M_mayRefuse_15, s_M_mayRefuse_16, s_M_mayRefuse_17, s_M_mayRefuse_20, s_M_mayRefuse_21, s_M_mayRefuse_24, s_M_mayRefuse_26, s_M_mayRefuse_27, s_M_mayRefuse_29, s_M_mayRefuse_32, s_M_mayRefuse_33, s_M_mayRefuse_34, s_M_mayRefuse_37, s_M_mayRefuse_40, s_M_mayRefuse_41, s_M_mayRefuse_44, s_M_mayRefuse_45, s_M_mayRefuse_48, s_M_mayRefuse_49, Option.bind_some, Option.bind_none, Option.toList_some, Option.toList_none, List.cons_append, List.nil_append, if_true, if_false, rz_clr, true_or, or_true, z00, z11, bZ_eq0, bZ_eq1, nor_self, if_pos, if_neg, zI_add, zI_sub, zI_mul, zI_neg, zI_lt, zI_le, zI_eq, c_M, f_M_0, u_M_0, f_M_1, u_M_1, f_M_2, l_M_2, r_M_2, w_M_2, f_M_3, u_M_3, f_M_4, u_M_4, f_M_5, u_M_5, f_M_6, u_M_6, f_M_7, u_M_7, f_M_8, u_M_8, f_M_9, l_M_9, r_M_9, w_M_9, f_M_10, l_M_10, r_M_10, w_M_10, f_M_11, l_M_11, r_M_11, w_M_11, f_M_12, l_M_12, r_M_12, w_M_12, f_M_13, l_M_13, r_M_13, w_M_13, f_M_14, l_M_14, r_M_14, w_M_14, f_M_15, l_M_15, r_M_15, w_M_15, f_M_16, l_M_16, r_M_16, w_M_16, f_M_17, l_M_17, r_M_17, w_M_17, f_M_18, l_M_18, r_M_18, w_M_18, s4, s7, s1, hmn, hon]
    · refine ⟨0, σ 10, Or.inr ⟨rfl, fun z => a2 z.2.1⟩, ?_, sm_rfl _ _⟩
      rw [gset_self]
      simp (disch := first | omega | exact Nat.le_of_ble_eq_true rfl) only [e_M_mayRefuse, s_M_mayRefuse_0, s_M_mayRefuse_1, s_M_mayRefuse_2, s_M_mayRefuse_5, s_M_mayRefuse_6, s_M_mayRefuse_7, s_M_mayRefuse_8, s_M_mayRefuse_9, s_M_mayRefuse_10, s_M_mayRefuse_13, s_M_mayRefuse_14, s_M_mayRefuse_15, s_M_mayRefuse_16, s_M_mayRefuse_17, s_M_mayRefuse_20, s_M_mayRefuse_21, s_M_mayRefuse_24, s_M_mayRefuse_26, s_M_mayRefuse_27, s_M_mayRefuse_29, s_M_mayRefuse_32, s_M_mayRefuse_33, s_M_mayRefuse_34, s_M_mayRefuse_37, s_M_mayRefuse_40, s_M_mayRefuse_41, s_M_mayRefuse_44, s_M_mayRefuse_45, s_M_mayRefuse_48, s_M_mayRefuse_49, Option.bind_some, Option.bind_none, Option.toList_some, Option.toList_none, List.cons_append, List.nil_append, if_true, if_false, rz_clr, true_or, or_true, z00, z11, bZ_eq0, bZ_eq1, nor_self, if_pos, if_neg, zI_add, zI_sub, zI_mul, zI_neg, zI_lt, zI_le, zI_eq, c_M, f_M_0, u_M_0, f_M_1, u_M_1, f_M_2, l_M_2, r_M_2, w_M_2, f_M_3, u_M_3, f_M_4, u_M_4, f_M_5, u_M_5, f_M_6, u_M_6, f_M_7, u_M_7, f_M_8, u_M_8, f_M_9, l_M_9, r_M_9, w_M_9, f_M_10, l_M_10, r_M_10, w_M_10, f_M_11, l_M_11, r_M_11, w_M_11, f_M_12, l_M_12, r_M_12, w_M_12, f_M_13, l_M_13, r_M_13, w_M_13, f_M_14, l_M_14, r_M_14, w_M_14, f_M_15, l_M_15, r_M_15, w_M_15, f_M_16, l_M_16, r_M_16, w_M_16, f_M_17, l_M_17, r_M_17, w_M_17, f_M_18, l_M_18, r_M_18, w_M_18, s4, s7, s1]
  · refine ⟨0, σ 10, Or.inr ⟨rfl, fun z => a1 z.1⟩, ?_, sm_rfl _ _⟩
    rw [gset_self]
    simp (disch := first | omega | exact Nat.le_of_ble_eq_true rfl) only [e_M_mayRefuse, s_M_mayRefuse_0, s_M_mayRefuse_1, s_M_mayRefuse_2, s_M_mayRefuse_5, s_M_mayRefuse_6, s_M_mayRefuse_7, s_M_mayRefuse_8, s_M_mayRefuse_9, s_M_mayRefuse_10, s_M_mayRefuse_13, s_M_mayRefuse_14, s_M_mayRefuse_15, s_M_mayRefuse_16, s_M_mayRefuse_17, s_M_mayRefuse_20, s_M_mayRefuse_21, s_M_mayRefuse_24, s_M_mayRefuse_26, s_M_mayRefuse_27, s_M_mayRefuse_29, s_M_mayRefuse_32, s_M_mayRefuse_33, s_M_mayRefuse_34, s_M_mayRefuse_37, s_M_mayRefuse_40, s_M_mayRefuse_41, s_M_mayRefuse_44, s_M_mayRefuse_45, s_M_mayRefuse_48, s_M_mayRefuse_49, Option.bind_some, Option.bind_none, Option.toList_some, Option.toList_none, List.cons_append, List.nil_append, if_true, if_false, rz_clr, true_or, or_true, z00, z11, bZ_eq0, bZ_eq1, nor_self, if_pos, if_neg, zI_add, zI_sub, zI_mul, zI_neg, zI_lt, zI_le, zI_eq, c_M, f_M_0, u_M_0, f_M_1, u_M_1, f_M_2, l_M_2, r_M_2, w_M_2, f_M_3, u_M_3, f_M_4, u_M_4, f_M_5, u_M_5, f_M_6, u_M_6, f_M_7, u_M_7, f_M_8, u_M_8, f_M_9, l_M_9, r_M_9, w_M_9, f_M_10, l_M_10, r_M_10, w_M_10, f_M_11, l_M_11, r_M_11, w_M_11, f_M_12, l_M_12, r_M_12, w_M_12, f_M_13, l_M_13, r_M_13, w_M_13, f_M_14, l_M_14, r_M_14, w_M_14, f_M_15, l_M_15, r_M_15, w_M_15, f_M_16, l_M_16, r_M_16, w_M_16, f_M_17, l_M_17, r_M_17, w_M_17, f_M_18, l_M_18, r_M_18, w_M_18, s4, s1]
theorem sR_ref {t : Nat → Int} (hs : sR t q) (h2 : q 2 0 = 0 ∨ q 2 0 = 1) (k : Int) : sR (zup (zup t (2 + (1 - q 2 0)).toNat (q 1 (1 - q 2 0).toNat - 1)) 7 k) (refQ q k) := by
  obtain ⟨r0, ⟨r1, r2⟩, r3, r4, r5, r6, r7⟩ := hs
  unfold refQ
  rcases h2 with e | e
  · rw [e]; exact ⟨r0, ⟨r1, rfl⟩, r3, r4, r5, rfl, r7⟩
  · rw [e]; exact ⟨r0, ⟨rfl, r2⟩, r3, r4, r5, rfl, r7⟩
theorem z_Mrefuse (d : Nat) (hN : 60 ≤ N) (hm : tlR (σ 10 9) 0 p) (hs : sR (σ 10 10) q) (hw : wfP p) (hl : lkP p) (hq : wfW q p) {k : Int} (hk : rg k) : ∃ m', rz_dM (d + 7) iM_refuse [.ref (bs 10), .int (zI k)] (wOf N σ) = some (some (.int (zI (refuseA q p k).1)), wOf N (gset σ 10 m')) ∧ sm [0, 10, 15, 16] (σ 10) m' ∧ sR (m' 10) (refuseA q p k).2 := by
  obtain ⟨q1, q2, q3, q4, q5, q6⟩ := id hq
  have e1 : (gset σ 10 (T0 (σ 10))) 10 = T0 (σ 10) := gset_at _ _ _
  obtain ⟨m1, hr, hsm⟩ := z_Mrefusal (N := N) (σ := gset σ 10 (T0 (σ 10))) d hN (p := p) (q := q) (by rw [e1]; exact hm) (by rw [e1]; exact hs) hw hl hq hk
  rw [e1] at hsm
  rw [gset_gset] at hr
  have hsm0 : sm [0, 15, 16] (σ 10) m1 := sm_tr (sm_mono (T0_sm _) (by decide)) (sm_mono hsm (by decide))
  have hm1 : tlR (m1 9) 0 p := by rw [hsm0 9 (by decide)]; exact hm
  have hs1 : sR (m1 10) q := by rw [hsm0 10 (by decide)]; exact hs
  unfold refuseA
  by_cases c : wntQ q p k = 0
  · rw [if_pos c]
    rw [c] at hr
    obtain ⟨hk8, h5, hb⟩ := tell_may c
    obtain ⟨k', rfl⟩ : ∃ n : Nat, k = n := ⟨k.toNat, by omega⟩
    rw [Int.toNat_natCast] at hb
    have hiff := mbr_iff (by omega) hb
    have hmm : 0 ≤ 1 - q 2 0 ∧ 1 - q 2 0 < 2 := by omega
    obtain ⟨b, m2, hb2, hmr, hsm2⟩ := z_MmayRefuse (N := N) (σ := gset σ 10 m1) (d + 1) hN (p := p) (q := q) (by rw [gset_at]; exact hm1) (by rw [gset_at]; exact hs1) hw hl hq
    rw [gset_gset] at hmr
    rw [gset_at] at hsm2
    have hsm02 : sm [0, 15, 16] (σ 10) m2 := sm_tr hsm0 (sm_mono hsm2 (by decide))
    have hs2 : sR (m2 10) q := by rw [hsm02 10 (by decide)]; exact hs
    have s4 := sR_4 hs2
    have s1 := sR_1 hs2 hmm
    have ql := (q1 (1 - q 2 0).toNat (by omega)).2
    rcases hb2 with ⟨rfl, hb2⟩ | ⟨rfl, hb2⟩
    · rw [if_pos (hiff.mpr hb2)]
      refine ⟨pset m2 10 (zup (zup (m2 10) (2 + (1 - q 2 0)).toNat (q 1 (1 - q 2 0).toNat - 1)) (7 : Int).toNat k'), ?_, sm_pset (sm_mono hsm02 (by decide)) (by decide), by rw [pset_eq]; exact sR_ref hs2 q2 k'⟩
      have z1 : zup (zup (m2 10) (2 + (1 - q 2 0)).toNat (q 1 (1 - q 2 0).toNat - 1)) (7 : Int).toNat k' (2 + (1 - q 2 0)).toNat = q 1 (1 - q 2 0).toNat - 1 := by
        rw [zup_ne (by
          have : (7 : Int).toNat = 7 := rfl
          omega), zup_eq]
      unfold T0 at hr
      simp (disch := first | omega | exact Nat.le_of_ble_eq_true rfl) only [e_M_refuse, s_M_refuse_0, s_M_refuse_1, s_M_refuse_2, s_M_refuse_5, s_M_refuse_6, s_M_refuse_7, s_M_refuse_10, s_M_refuse_11, s_M_refuse_12, s_M_refuse_15, s_M_refuse_16, s_M_refuse_17, s_M_refuse_18, s_M_refuse_21, s_M_refuse_24, s_M_refuse_26, s_M_refuse_27, s_M_refuse_28, s_M_refuse_29, s_M_refuse_32, s_M_refuse_33, s_M_refuse_34, s_M_refuse_35, s_M_refuse_36, s_M_refuse_37, s_M_refuse_40, s_M_refuse_41, s_M_refuse_42, s_M_refuse_43, s_M_refuse_44, s_M_refuse_45, s_M_refuse_46, s_M_refuse_47, s_M_refuse_48, s_M_refuse_49, s_M_refuse_52, s_M_refuse_54, s_M_refuse_55, s_M_refuse_56, s_M_refuse_57, s_M_refuse_60, s_M_refuse_61, s_M_refuse_62, s_M_refuse_63, s_M_refuse_64, Option.bind_some, Option.bind_none, Option.toList_some, Option.toList_none, List.cons_append, List.nil_append, if_true, if_false, rz_clr, true_or, or_true, z00, z11, bZ_eq0, bZ_eq1, nor_self, if_pos, if_neg, zI_add, zI_sub, zI_mul, zI_neg, zI_lt, zI_le, zI_eq, c_M, f_M_0, u_M_0, f_M_1, u_M_1, f_M_2, l_M_2, r_M_2, w_M_2, f_M_3, u_M_3, f_M_4, u_M_4, f_M_5, u_M_5, f_M_6, u_M_6, f_M_7, u_M_7, f_M_8, u_M_8, f_M_9, l_M_9, r_M_9, w_M_9, f_M_10, l_M_10, r_M_10, w_M_10, f_M_11, l_M_11, r_M_11, w_M_11, f_M_12, l_M_12, r_M_12, w_M_12, f_M_13, l_M_13, r_M_13, w_M_13, f_M_14, l_M_14, r_M_14, w_M_14, f_M_15, l_M_15, r_M_15, w_M_15, f_M_16, l_M_16, r_M_16, w_M_16, f_M_17, l_M_17, r_M_17, w_M_17, f_M_18, l_M_18, r_M_18, w_M_18, sset_eq, gset_at, gset_gset, gset_ne, pset_eq, pset_ne, pset_pset, hr, hmr, s4, s1, z1]
    · rw [if_neg (fun z => hb2 (hiff.mp z))]
      refine ⟨m2, ?_, sm_mono hsm02 (by decide), hs2⟩
      unfold T0 at hr
      simp (disch := first | omega | exact Nat.le_of_ble_eq_true rfl) only [e_M_refuse, s_M_refuse_0, s_M_refuse_1, s_M_refuse_2, s_M_refuse_5, s_M_refuse_6, s_M_refuse_7, s_M_refuse_10, s_M_refuse_11, s_M_refuse_12, s_M_refuse_15, s_M_refuse_16, s_M_refuse_17, s_M_refuse_18, s_M_refuse_21, s_M_refuse_24, s_M_refuse_26, s_M_refuse_27, s_M_refuse_28, s_M_refuse_29, s_M_refuse_32, s_M_refuse_33, s_M_refuse_34, s_M_refuse_35, s_M_refuse_36, s_M_refuse_37, s_M_refuse_40, s_M_refuse_41, s_M_refuse_42, s_M_refuse_43, s_M_refuse_44, s_M_refuse_45, s_M_refuse_46, s_M_refuse_47, s_M_refuse_48, s_M_refuse_49, s_M_refuse_52, s_M_refuse_54, s_M_refuse_55, s_M_refuse_56, s_M_refuse_57, s_M_refuse_60, s_M_refuse_61, s_M_refuse_62, s_M_refuse_63, s_M_refuse_64, Option.bind_some, Option.bind_none, Option.toList_some, Option.toList_none, List.cons_append, List.nil_append, if_true, if_false, rz_clr, true_or, or_true, z00, z11, bZ_eq0, bZ_eq1, nor_self, if_pos, if_neg, zI_add, zI_sub, zI_mul, zI_neg, zI_lt, zI_le, zI_eq, c_M, f_M_0, u_M_0, f_M_1, u_M_1, f_M_2, l_M_2, r_M_2, w_M_2, f_M_3, u_M_3, f_M_4, u_M_4, f_M_5, u_M_5, f_M_6, u_M_6, f_M_7, u_M_7, f_M_8, u_M_8, f_M_9, l_M_9, r_M_9, w_M_9, f_M_10, l_M_10, r_M_10, w_M_10, f_M_11, l_M_11, r_M_11, w_M_11, f_M_12, l_M_12, r_M_12, w_M_12, f_M_13, l_M_13, r_M_13, w_M_13, f_M_14, l_M_14, r_M_14, w_M_14, f_M_15, l_M_15, r_M_15, w_M_15, f_M_16, l_M_16, r_M_16, w_M_16, f_M_17, l_M_17, r_M_17, w_M_17, f_M_18, l_M_18, r_M_18, w_M_18, sset_eq, gset_at, gset_gset, gset_ne, pset_eq, pset_ne, pset_pset, hr, hmr]
  · rw [if_neg c]
    refine ⟨m1, ?_, sm_mono hsm0 (by decide), hs1⟩
    have hr9 := wntQ_rg q p k
    unfold T0 at hr
    simp (disch := first | omega | exact Nat.le_of_ble_eq_true rfl) only [e_M_refuse, s_M_refuse_0, s_M_refuse_1, s_M_refuse_2, s_M_refuse_5, s_M_refuse_6, s_M_refuse_7, s_M_refuse_10, s_M_refuse_11, s_M_refuse_12, s_M_refuse_15, s_M_refuse_16, s_M_refuse_17, s_M_refuse_18, s_M_refuse_21, s_M_refuse_24, s_M_refuse_26, s_M_refuse_27, s_M_refuse_28, s_M_refuse_29, s_M_refuse_32, s_M_refuse_33, s_M_refuse_34, s_M_refuse_35, s_M_refuse_36, s_M_refuse_37, s_M_refuse_40, s_M_refuse_41, s_M_refuse_42, s_M_refuse_43, s_M_refuse_44, s_M_refuse_45, s_M_refuse_46, s_M_refuse_47, s_M_refuse_48, s_M_refuse_49, s_M_refuse_52, s_M_refuse_54, s_M_refuse_55, s_M_refuse_56, s_M_refuse_57, s_M_refuse_60, s_M_refuse_61, s_M_refuse_62, s_M_refuse_63, s_M_refuse_64, Option.bind_some, Option.bind_none, Option.toList_some, Option.toList_none, List.cons_append, List.nil_append, if_true, if_false, rz_clr, true_or, or_true, z00, z11, bZ_eq0, bZ_eq1, nor_self, if_pos, if_neg, zI_add, zI_sub, zI_mul, zI_neg, zI_lt, zI_le, zI_eq, c_M, f_M_0, u_M_0, f_M_1, u_M_1, f_M_2, l_M_2, r_M_2, w_M_2, f_M_3, u_M_3, f_M_4, u_M_4, f_M_5, u_M_5, f_M_6, u_M_6, f_M_7, u_M_7, f_M_8, u_M_8, f_M_9, l_M_9, r_M_9, w_M_9, f_M_10, l_M_10, r_M_10, w_M_10, f_M_11, l_M_11, r_M_11, w_M_11, f_M_12, l_M_12, r_M_12, w_M_12, f_M_13, l_M_13, r_M_13, w_M_13, f_M_14, l_M_14, r_M_14, w_M_14, f_M_15, l_M_15, r_M_15, w_M_15, f_M_16, l_M_16, r_M_16, w_M_16, f_M_17, l_M_17, r_M_17, w_M_17, f_M_18, l_M_18, r_M_18, w_M_18, sset_eq, gset_at, gset_gset, gset_ne, pset_eq, pset_ne, hr]
theorem z_Mpass (d : Nat) (hN : 60 ≤ N) (hm : tlR (σ 10 9) 0 p) (hs : sR (σ 10 10) q) (hw : wfP p) (hl : lkP p) (hq : wfW q p) : ∃ m', rz_dM (d + 5) iM_pass [.ref (bs 10)] (wOf N σ) = some (some (.int (zI (passA q p).1)), wOf N (gset σ 10 m')) ∧ sm [0, 10, 15, 16] (σ 10) m' ∧ sR (m' 10) (passA q p).2 := by
  obtain ⟨q1, q2, q3, q4, q5, q6⟩ := id hq
  have hmm : 0 ≤ 1 - q 2 0 ∧ 1 - q 2 0 < 2 := by omega
  have e1 : (gset σ 10 (T0 (σ 10))) 10 = T0 (σ 10) := gset_at _ _ _
  have hs0 : sR (T0 (σ 10) 10) q := hs
  have hmn := z_MmayNow (N := N) (σ := gset σ 10 (T0 (σ 10))) d hN (p := p) (q := q) (by rw [e1]; exact hm) (by rw [e1]; exact hs) hw hl hq hmm
  rw [e1, gset_gset] at hmn
  have hlt := mayW_lt q p (1 - q 2 0)
  have s6 := sR_6 hs0
  have s4 := sR_4 hs0
  have hsm1 : sm [0, 15, 16] (σ 10) (asW (T0 (σ 10))) := sm_tr (sm_mono (T0_sm _) (by decide)) (sm_mono (asW_sm _) (by decide))
  unfold passA
  by_cases a1 : q 5 0 = 0
  · have hs1 : sR (asW (T0 (σ 10)) 10) q := hs
    have s4' := sR_4 hs1
    by_cases a2 : mayW q p (1 - q 2 0) = 0
    · rw [if_pos ⟨a1, a2⟩]
      have g5 : 0 ≤ pset q 2 (fun _ => 1 - q 2 0) 5 0 ∧ pset q 2 (fun _ => 1 - q 2 0) 5 0 ≤ 3 := by rw [pset_ne (by decide)]; exact q5
      have g4 : 0 ≤ pset q 2 (fun _ => 1 - q 2 0) 4 0 ∧ pset q 2 (fun _ => 1 - q 2 0) 4 0 ≤ 98 := by rw [pset_ne (by decide)]; have := q6 a1; omega
      obtain ⟨t, hc1, hc2⟩ := z_Mcounts (N := N) (σ := gset σ 10 (pset (asW (T0 (σ 10))) 10 (zup (asW (T0 (σ 10)) 10) (4 : Int).toNat (1 - q 2 0)))) (q := pset q 2 (fun _ => 1 - q 2 0)) (d + 3) hN (by
        rw [gset_at, pset_eq]
        obtain ⟨r0, r1, r3, r4, r5, r6, r7⟩ := hs1
        exact ⟨r0, r1, rfl, r4, r5, r6, r7⟩) g4 g5
      rw [gset_at, gset_gset, pset_pset] at hc1
      refine ⟨pset (asW (T0 (σ 10))) 10 t, ?_, sm_pset (sm_mono hsm1 (by decide)) (by decide), by rw [pset_eq]; exact hc2⟩
      have fr : t (6 : Int).toNat = passW q 5 0 := sR_6 hc2
      rw [a2, Int.natCast_zero] at hmn
      generalize asW (T0 (σ 10)) = m1 at *
      unfold T0 at hmn s4 s6
      simp (disch := first | omega | exact Nat.le_of_ble_eq_true rfl) only [e_M_pass, s_M_pass_0, s_M_pass_1, s_M_pass_2, s_M_pass_5, s_M_pass_6, s_M_pass_9, s_M_pass_11, s_M_pass_12, s_M_pass_15, s_M_pass_16, s_M_pass_17, s_M_pass_18, s_M_pass_21, s_M_pass_22, s_M_pass_23, s_M_pass_24, s_M_pass_27, s_M_pass_30, s_M_pass_32, s_M_pass_33, s_M_pass_34, s_M_pass_37, s_M_pass_38, s_M_pass_39, s_M_pass_40, s_M_pass_43, s_M_pass_44, s_M_pass_45, s_M_pass_46, s_M_pass_47, s_M_pass_48, s_M_pass_51, s_M_pass_52, s_M_pass_55, s_M_pass_57, s_M_pass_58, Option.bind_some, Option.bind_none, Option.toList_some, Option.toList_none, List.cons_append, List.nil_append, if_true, if_false, rz_clr, true_or, or_true, z00, z11, bZ_eq0, bZ_eq1, nor_self, if_pos, if_neg, zI_add, zI_sub, zI_mul, zI_neg, zI_lt, zI_le, zI_eq, c_M, f_M_0, u_M_0, f_M_1, u_M_1, f_M_2, l_M_2, r_M_2, w_M_2, f_M_3, u_M_3, f_M_4, u_M_4, f_M_5, u_M_5, f_M_6, u_M_6, f_M_7, u_M_7, f_M_8, u_M_8, f_M_9, l_M_9, r_M_9, w_M_9, f_M_10, l_M_10, r_M_10, w_M_10, f_M_11, l_M_11, r_M_11, w_M_11, f_M_12, l_M_12, r_M_12, w_M_12, f_M_13, l_M_13, r_M_13, w_M_13, f_M_14, l_M_14, r_M_14, w_M_14, f_M_15, l_M_15, r_M_15, w_M_15, f_M_16, l_M_16, r_M_16, w_M_16, f_M_17, l_M_17, r_M_17, w_M_17, f_M_18, l_M_18, r_M_18, w_M_18, sset_eq, gset_at, gset_gset, gset_ne, pset_eq, pset_ne, pset_pset, s6, s4, hmn, s4', hc1, fr]
    · rw [if_neg (fun z => a2 z.2)]
      refine ⟨asW (T0 (σ 10)), ?_, sm_mono hsm1 (by decide), hs1⟩
      generalize asW (T0 (σ 10)) = m1 at *
      unfold T0 at hmn s4 s6
      simp (disch := first | omega | exact Nat.le_of_ble_eq_true rfl) only [e_M_pass, s_M_pass_0, s_M_pass_1, s_M_pass_2, s_M_pass_5, s_M_pass_6, s_M_pass_9, s_M_pass_11, s_M_pass_12, s_M_pass_15, s_M_pass_16, s_M_pass_17, s_M_pass_18, s_M_pass_21, s_M_pass_22, s_M_pass_23, s_M_pass_24, s_M_pass_27, s_M_pass_30, s_M_pass_32, s_M_pass_33, s_M_pass_34, s_M_pass_37, s_M_pass_38, s_M_pass_39, s_M_pass_40, s_M_pass_43, s_M_pass_44, s_M_pass_45, s_M_pass_46, s_M_pass_47, s_M_pass_48, s_M_pass_51, s_M_pass_52, s_M_pass_55, s_M_pass_57, s_M_pass_58, Option.bind_some, Option.bind_none, Option.toList_some, Option.toList_none, List.cons_append, List.nil_append, if_true, if_false, rz_clr, true_or, or_true, z00, z11, bZ_eq0, bZ_eq1, nor_self, if_pos, if_neg, zI_add, zI_sub, zI_mul, zI_neg, zI_lt, zI_le, zI_eq, c_M, f_M_0, u_M_0, f_M_1, u_M_1, f_M_2, l_M_2, r_M_2, w_M_2, f_M_3, u_M_3, f_M_4, u_M_4, f_M_5, u_M_5, f_M_6, u_M_6, f_M_7, u_M_7, f_M_8, u_M_8, f_M_9, l_M_9, r_M_9, w_M_9, f_M_10, l_M_10, r_M_10, w_M_10, f_M_11, l_M_11, r_M_11, w_M_11, f_M_12, l_M_12, r_M_12, w_M_12, f_M_13, l_M_13, r_M_13, w_M_13, f_M_14, l_M_14, r_M_14, w_M_14, f_M_15, l_M_15, r_M_15, w_M_15, f_M_16, l_M_16, r_M_16, w_M_16, f_M_17, l_M_17, r_M_17, w_M_17, f_M_18, l_M_18, r_M_18, w_M_18, sset_eq, gset_at, gset_gset, gset_ne, pset_eq, pset_ne, s6, s4, hmn]
  · rw [if_neg (fun z => a1 z.1)]
    refine ⟨T0 (σ 10), ?_, sm_mono (T0_sm _) (by decide), hs0⟩
    unfold T0 at *
    simp (disch := first | omega | exact Nat.le_of_ble_eq_true rfl) only [e_M_pass, s_M_pass_0, s_M_pass_1, s_M_pass_2, s_M_pass_5, s_M_pass_6, s_M_pass_9, s_M_pass_11, s_M_pass_12, s_M_pass_15, s_M_pass_16, s_M_pass_17, s_M_pass_18, s_M_pass_21, s_M_pass_22, s_M_pass_23, s_M_pass_24, s_M_pass_27, s_M_pass_30, s_M_pass_32, s_M_pass_33, s_M_pass_34, s_M_pass_37, s_M_pass_38, s_M_pass_39, s_M_pass_40, s_M_pass_43, s_M_pass_44, s_M_pass_45, s_M_pass_46, s_M_pass_47, s_M_pass_48, s_M_pass_51, s_M_pass_52, s_M_pass_55, s_M_pass_57, s_M_pass_58, Option.bind_some, Option.bind_none, Option.toList_some, Option.toList_none, List.cons_append, List.nil_append, if_true, if_false, rz_clr, true_or, or_true, z00, z11, bZ_eq0, bZ_eq1, nor_self, if_pos, if_neg, zI_add, zI_sub, zI_mul, zI_neg, zI_lt, zI_le, zI_eq, c_M, f_M_0, u_M_0, f_M_1, u_M_1, f_M_2, l_M_2, r_M_2, w_M_2, f_M_3, u_M_3, f_M_4, u_M_4, f_M_5, u_M_5, f_M_6, u_M_6, f_M_7, u_M_7, f_M_8, u_M_8, f_M_9, l_M_9, r_M_9, w_M_9, f_M_10, l_M_10, r_M_10, w_M_10, f_M_11, l_M_11, r_M_11, w_M_11, f_M_12, l_M_12, r_M_12, w_M_12, f_M_13, l_M_13, r_M_13, w_M_13, f_M_14, l_M_14, r_M_14, w_M_14, f_M_15, l_M_15, r_M_15, w_M_15, f_M_16, l_M_16, r_M_16, w_M_16, f_M_17, l_M_17, r_M_17, w_M_17, f_M_18, l_M_18, r_M_18, w_M_18, sset_eq, gset_at, gset_gset, gset_ne, pset_eq, pset_ne, s6]
end MF
