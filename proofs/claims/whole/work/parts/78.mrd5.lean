-- the model: drafts, boards and cells told
section NC1
variable {N : Nat} {σ : zS} {s p : zP} {len : Nat}
theorem z_Mdr_lp (d : Nat) (hN : 60 ≤ N) (m : zP) (x1 x2 : Int32) : ∀ (n k : Nat), n + k = 33 → ∀ f, rz_den (rz_dM d) (rz_at tb_X5_drafts) none 2 [some (.ref (bs 10)), some (.int x1), some (.int x2), some (.int (zI k))] [] (wOf N (gset σ 10 (pset m 9 f))) = rz_den (rz_dM d) (rz_at tb_X5_drafts) none 24 [some (.ref (bs 10)), some (.int x1), some (.int x2), some (.int (zI 33))] [] (wOf N (gset σ 10 (pset m 9 (filA f 0 n (33 + k))))) := by
  intro n
  induction n with
  | zero =>
    intro k hk f
    obtain rfl : k = 33 := by omega
    rw [s_M_drafts_2, filA]
    simp (disch := first | omega | exact Nat.le_of_ble_eq_true rfl) only [e_M_drafts, s_M_drafts_0, s_M_drafts_1, s_M_drafts_3, s_M_drafts_5, s_M_drafts_8, s_M_drafts_9, s_M_drafts_12, s_M_drafts_14, s_M_drafts_15, s_M_drafts_16, s_M_drafts_17, s_M_drafts_18, s_M_drafts_21, s_M_drafts_25, s_M_drafts_28, s_M_drafts_30, s_M_drafts_31, s_M_drafts_32, s_M_drafts_33, s_M_drafts_36, s_M_drafts_38, s_M_drafts_39, s_M_drafts_40, s_M_drafts_41, s_M_drafts_44, s_M_drafts_46, s_M_drafts_47, s_M_drafts_48, s_M_drafts_49, s_M_drafts_50, s_M_drafts_51, s_M_drafts_52, s_M_drafts_53, s_M_drafts_56, s_M_drafts_58, s_M_drafts_59, s_M_drafts_60, s_M_drafts_61, s_M_drafts_62, s_M_drafts_63, s_M_drafts_64, s_M_drafts_65, s_M_drafts_68, s_M_drafts_70, s_M_drafts_71, s_M_drafts_72, s_M_drafts_73, s_M_drafts_76, s_M_drafts_78, s_M_drafts_79, s_M_drafts_80, Option.bind_some, Option.bind_none, Option.toList_some, Option.toList_none, List.cons_append, List.nil_append, if_true, if_false, rz_clr, true_or, or_true, z00, z11, bZ_eq0, bZ_eq1, nor_self, if_pos, if_neg, zI_add, zI_sub, zI_mul, zI_neg, zI_lt, zI_le, zI_eq]
    try rfl
  | succ n ih =>
    intro k hk f
    have ih' := ih (k + 1) (by omega) (zup f (33 + k) 0)
    simp only [Int.natCast_add, Int.natCast_one] at ih'
    have e2 : (33 + (k : Int)).toNat = 33 + k := by omega
    rw [s_M_drafts_2, filA]
    rw [show 33 + (k + 1) = 33 + k + 1 by omega] at ih'
    simp (disch := first | omega | exact Nat.le_of_ble_eq_true rfl) only [e_M_drafts, s_M_drafts_0, s_M_drafts_1, s_M_drafts_3, s_M_drafts_5, s_M_drafts_8, s_M_drafts_9, s_M_drafts_12, s_M_drafts_14, s_M_drafts_15, s_M_drafts_16, s_M_drafts_17, s_M_drafts_18, s_M_drafts_21, s_M_drafts_25, s_M_drafts_28, s_M_drafts_30, s_M_drafts_31, s_M_drafts_32, s_M_drafts_33, s_M_drafts_36, s_M_drafts_38, s_M_drafts_39, s_M_drafts_40, s_M_drafts_41, s_M_drafts_44, s_M_drafts_46, s_M_drafts_47, s_M_drafts_48, s_M_drafts_49, s_M_drafts_50, s_M_drafts_51, s_M_drafts_52, s_M_drafts_53, s_M_drafts_56, s_M_drafts_58, s_M_drafts_59, s_M_drafts_60, s_M_drafts_61, s_M_drafts_62, s_M_drafts_63, s_M_drafts_64, s_M_drafts_65, s_M_drafts_68, s_M_drafts_70, s_M_drafts_71, s_M_drafts_72, s_M_drafts_73, s_M_drafts_76, s_M_drafts_78, s_M_drafts_79, s_M_drafts_80, Option.bind_some, Option.bind_none, Option.toList_some, Option.toList_none, List.cons_append, List.nil_append, if_true, if_false, rz_clr, true_or, or_true, z00, z11, bZ_eq0, bZ_eq1, nor_self, if_pos, if_neg, zI_add, zI_sub, zI_mul, zI_neg, zI_lt, zI_le, zI_eq, c_M, f_M_0, u_M_0, f_M_1, u_M_1, f_M_2, l_M_2, r_M_2, w_M_2, f_M_3, u_M_3, f_M_4, u_M_4, f_M_5, u_M_5, f_M_6, u_M_6, f_M_7, u_M_7, f_M_8, u_M_8, f_M_9, l_M_9, r_M_9, w_M_9, f_M_10, l_M_10, r_M_10, w_M_10, f_M_11, l_M_11, r_M_11, w_M_11, f_M_12, l_M_12, r_M_12, w_M_12, f_M_13, l_M_13, r_M_13, w_M_13, f_M_14, l_M_14, r_M_14, w_M_14, f_M_15, l_M_15, r_M_15, w_M_15, f_M_16, l_M_16, r_M_16, w_M_16, f_M_17, l_M_17, r_M_17, w_M_17, f_M_18, l_M_18, r_M_18, w_M_18, sset_eq, gset_at, gset_gset, gset_ne, pset_eq, pset_ne, pset_pset, e2, ih']
/-- a draft at first, the model's row -/
def drT (f : Nat → Int) (w h : Int) : Nat → Int := zup (zup (zup (zup (zup (zup (filA f 0 33 33) 33 w) 34 h) 59 (w * h - 1)) 60 (w * h - 1)) 64 1) 65 1
theorem drT_lo (f : Nat → Int) (w h : Int) (i : Nat) (hi : i < 33) : drT f w h i = f i := by
  unfold drT
  rw [zup_ne (by omega), zup_ne (by omega), zup_ne (by omega), zup_ne (by omega), zup_ne (by omega), zup_ne (by omega), filA_at, if_neg (by omega)]
theorem drT_mid (f : Nat → Int) (w h : Int) (i : Nat) (hi : 33 ≤ i ∧ i < 66) (hn : i ≠ 33 ∧ i ≠ 34 ∧ i ≠ 59 ∧ i ≠ 60 ∧ i ≠ 64 ∧ i ≠ 65) : drT f w h i = 0 := by
  unfold drT
  rw [zup_ne (by omega), zup_ne (by omega), zup_ne (by omega), zup_ne (by omega), zup_ne (by omega), zup_ne (by omega), filA_at, if_pos (by omega)]
theorem tlR_fst (f : Nat → Int) (w h : Int) (p : zP) : tlR (drT f w h) 33 (fstP w h p) := by
  have e10 : fstP w h p 10 0 = 0 := rfl
  have e0 : fstP w h p 0 = filA (p 0) 0 16 0 := rfl
  refine ⟨⟨rfl, rfl, ?_⟩, fun c hc => ?_, fun l hl => ?_, fun j hj => ?_⟩
  · rw [e10]; exact drT_mid f w h 35 (by decide) (by decide)
  · rw [drT_mid f w h (33 + 3 + c) (by omega) (by omega), e0, filA_at, if_pos (by omega)]
  · rw [e10] at hl; omega
  · have : j = 0 ∨ j = 1 := by omega
    rcases this with e | e
    · subst e
      refine ⟨?_, rfl, ?_, rfl⟩
      · exact drT_mid f w h 58 (by decide) (by decide)
      · exact drT_mid f w h 62 (by decide) (by decide)
    · subst e
      refine ⟨rfl, ?_, ?_, rfl⟩
      · exact drT_mid f w h 61 (by decide) (by decide)
      · exact drT_mid f w h 63 (by decide) (by decide)
theorem z_Mdrafts (d : Nat) (hN : 60 ≤ N) (m : zP) (w h : Int) : rz_dM (d + 1) iM_drafts [.ref (bs 10), .int (zI w), .int (zI h)] (wOf N (gset σ 10 m)) = some (none, wOf N (gset σ 10 (pset m 9 (drT (m 9) w h)))) := by
  have hl := z_Mdr_lp (N := N) (σ := σ) d hN m (zI w) (zI h) 33 0 rfl (m 9)
  rw [pset_self, Int.natCast_zero] at hl
  unfold drT
  generalize filA (m 9) 0 33 (33 + 0) = F at hl
  simp (disch := first | omega | exact Nat.le_of_ble_eq_true rfl) only [e_M_drafts, s_M_drafts_0, s_M_drafts_1, s_M_drafts_3, s_M_drafts_5, s_M_drafts_8, s_M_drafts_9, s_M_drafts_12, s_M_drafts_14, s_M_drafts_15, s_M_drafts_16, s_M_drafts_17, s_M_drafts_18, s_M_drafts_21, s_M_drafts_24, s_M_drafts_25, s_M_drafts_28, s_M_drafts_30, s_M_drafts_31, s_M_drafts_32, s_M_drafts_33, s_M_drafts_36, s_M_drafts_38, s_M_drafts_39, s_M_drafts_40, s_M_drafts_41, s_M_drafts_44, s_M_drafts_46, s_M_drafts_47, s_M_drafts_48, s_M_drafts_49, s_M_drafts_50, s_M_drafts_51, s_M_drafts_52, s_M_drafts_53, s_M_drafts_56, s_M_drafts_58, s_M_drafts_59, s_M_drafts_60, s_M_drafts_61, s_M_drafts_62, s_M_drafts_63, s_M_drafts_64, s_M_drafts_65, s_M_drafts_68, s_M_drafts_70, s_M_drafts_71, s_M_drafts_72, s_M_drafts_73, s_M_drafts_76, s_M_drafts_78, s_M_drafts_79, s_M_drafts_80, Option.bind_some, Option.bind_none, Option.toList_some, Option.toList_none, List.cons_append, List.nil_append, if_true, if_false, rz_clr, true_or, or_true, z00, z11, bZ_eq0, bZ_eq1, nor_self, if_pos, if_neg, zI_add, zI_sub, zI_mul, zI_neg, zI_lt, zI_le, zI_eq, c_M, f_M_0, u_M_0, f_M_1, u_M_1, f_M_2, l_M_2, r_M_2, w_M_2, f_M_3, u_M_3, f_M_4, u_M_4, f_M_5, u_M_5, f_M_6, u_M_6, f_M_7, u_M_7, f_M_8, u_M_8, f_M_9, l_M_9, r_M_9, w_M_9, f_M_10, l_M_10, r_M_10, w_M_10, f_M_11, l_M_11, r_M_11, w_M_11, f_M_12, l_M_12, r_M_12, w_M_12, f_M_13, l_M_13, r_M_13, w_M_13, f_M_14, l_M_14, r_M_14, w_M_14, f_M_15, l_M_15, r_M_15, w_M_15, f_M_16, l_M_16, r_M_16, w_M_16, f_M_17, l_M_17, r_M_17, w_M_17, f_M_18, l_M_18, r_M_18, w_M_18, sset_eq, gset_at, gset_gset, gset_ne, pset_eq, pset_ne, pset_pset, hl]
  rfl
/-- what of a model's state a reading may change -/
def MF (m m' : zP) : Prop := sm [4, 5, 6, 7, 8, 9] m m' ∧ ∀ i, i < 33 → m' 9 i = m 9 i
theorem MF_sm {m m' : zP} (h : sm [4, 5, 6, 7, 8] m m') : MF m m' := ⟨sm_mono h (by decide), fun i _ => by rw [h 9 (by decide)]⟩
theorem MF_tr {a b c : zP} (h : MF a b) (h' : MF b c) : MF a c := ⟨sm_tr h.1 h'.1, fun i hi => (h'.2 i hi).trans (h.2 i hi)⟩
theorem MF_9 {m : zP} {f : Nat → Int} (h : ∀ i, i < 33 → f i = m 9 i) : MF m (pset m 9 f) := ⟨sm_pset (sm_rfl _ _) (by decide), fun i hi => by rw [pset_eq]; exact h i hi⟩
/-- what is read of an item: its numbers stand -/
def RSw (len n : Nat) (s p mA m' : zP) : Prop := ∃ n' s', PH len n' s' p m' ∧ (rdL len n s p = rdL len n' s' p ∧ s 3 0 ≤ s' 3 0) ∧ s' 7 = s 7 ∧ s' 8 = s 8 ∧ enB s' = true ∧ (m' 5 0 = 3 ∨ ∀ v, alB s' p v = false) ∧ tlR (m' 9) 33 (apP s' p) ∧ MF mA m'
/-- or a fault is found -/
def RSb (len n : Nat) (s p mA m' : zP) : Prop := m' 8 0 = fnR len (rdL len n s p) ∧ (0 ≤ m' 8 0 ∧ m' 8 0 ≤ 300) ∧ MF mA m'
/-- what is looked ahead to, whatever it is -/
def L57 (m : zP) : Prop := (0 ≤ m 5 0 ∧ m 5 0 ≤ 4) ∧ (m 5 0 = 2 → 0 ≤ m 7 0 ∧ m 7 0 ≤ 99)
theorem L57_8 {m m' : zP} (h : L57 m) (hs : sm [8] m m') : L57 m' := by
  unfold L57 at h ⊢
  rw [hs 5 (by decide), hs 7 (by decide)]
  exact h
theorem RSb_eq {n n' : Nat} {s' mA m' m'' : zP} (h : RSb len n' s' p m' m'') (e : rdL len n s p = rdL len n' s' p) (hF : MF mA m') : RSb len n s p mA m'' := by
  obtain ⟨a, b, c⟩ := h
  exact ⟨by rw [e]; exact a, b, MF_tr hF c⟩
theorem z_Mwell (d : Nat) (hN : 60 ≤ N) {m : zP} (h : -1 ≤ m 8 0 ∧ m 8 0 ≤ 1000) : rz_dM (d + 1) iM_isWell [.ref (bs 10)] (wOf N (gset σ 10 m)) = some (some (.int (zI (bZ (m 8 0 < 0)))), wOf N (gset σ 10 m)) := by
  by_cases c : m 8 0 < 0
  · rw [bZ_pos c]
    simp (disch := first | omega | exact Nat.le_of_ble_eq_true rfl) only [e_M_isWell, s_M_isWell_0, s_M_isWell_1, s_M_isWell_4, s_M_isWell_7, s_M_isWell_8, s_M_isWell_11, s_M_isWell_12, Option.bind_some, Option.bind_none, Option.toList_some, Option.toList_none, List.cons_append, List.nil_append, if_true, if_false, rz_clr, true_or, or_true, z00, z11, bZ_eq0, bZ_eq1, nor_self, if_pos, if_neg, zI_add, zI_sub, zI_mul, zI_neg, zI_lt, zI_le, zI_eq, c_M, f_M_0, u_M_0, f_M_1, u_M_1, f_M_2, l_M_2, r_M_2, w_M_2, f_M_3, u_M_3, f_M_4, u_M_4, f_M_5, u_M_5, f_M_6, u_M_6, f_M_7, u_M_7, f_M_8, u_M_8, f_M_9, l_M_9, r_M_9, w_M_9, f_M_10, l_M_10, r_M_10, w_M_10, f_M_11, l_M_11, r_M_11, w_M_11, f_M_12, l_M_12, r_M_12, w_M_12, f_M_13, l_M_13, r_M_13, w_M_13, f_M_14, l_M_14, r_M_14, w_M_14, f_M_15, l_M_15, r_M_15, w_M_15, f_M_16, l_M_16, r_M_16, w_M_16, f_M_17, l_M_17, r_M_17, w_M_17, f_M_18, l_M_18, r_M_18, w_M_18, gset_at]
  · rw [bZ_neg c]
    simp (disch := first | omega | exact Nat.le_of_ble_eq_true rfl) only [e_M_isWell, s_M_isWell_0, s_M_isWell_1, s_M_isWell_4, s_M_isWell_7, s_M_isWell_8, s_M_isWell_11, s_M_isWell_12, Option.bind_some, Option.bind_none, Option.toList_some, Option.toList_none, List.cons_append, List.nil_append, if_true, if_false, rz_clr, true_or, or_true, z00, z11, bZ_eq0, bZ_eq1, nor_self, if_pos, if_neg, zI_add, zI_sub, zI_mul, zI_neg, zI_lt, zI_le, zI_eq, c_M, f_M_0, u_M_0, f_M_1, u_M_1, f_M_2, l_M_2, r_M_2, w_M_2, f_M_3, u_M_3, f_M_4, u_M_4, f_M_5, u_M_5, f_M_6, u_M_6, f_M_7, u_M_7, f_M_8, u_M_8, f_M_9, l_M_9, r_M_9, w_M_9, f_M_10, l_M_10, r_M_10, w_M_10, f_M_11, l_M_11, r_M_11, w_M_11, f_M_12, l_M_12, r_M_12, w_M_12, f_M_13, l_M_13, r_M_13, w_M_13, f_M_14, l_M_14, r_M_14, w_M_14, f_M_15, l_M_15, r_M_15, w_M_15, f_M_16, l_M_16, r_M_16, w_M_16, f_M_17, l_M_17, r_M_17, w_M_17, f_M_18, l_M_18, r_M_18, w_M_18, gset_at]
theorem z_Mitem0 (d : Nat) (hN : 60 ≤ N) {n : Nat} {m : zP} (hP : PH len n s p m) (h7 : s 7 0 = 0) (h9 : s 9 0 = 0) : ∃ m', rz_dM (d + 7) iM_readsItem [.ref (bs 10), .int (zI 0)] (wOf N (gset σ 10 m)) = some (none, wOf N (gset σ 10 m')) ∧ (RSw len n s p m m' ∨ RSb len n s p m m') := by
  have he0 : ∀ t : zP, t 7 0 = 0 → t 9 0 < 2 → enB t = false := fun t a b => by unfold enB; rw [if_neg (by omega), if_neg (by omega), decide_eq_false_iff_not]; omega
  have hal0 : ∀ t : zP, t 7 0 = 0 → t 9 0 < 2 → ∀ v, 0 ≤ v → v ≤ 100 → (alB t p v = true ↔ 2 ≤ v ∧ v ≤ 4) := fun t a b v _ _ => by
    rw [alB_0 a, decide_eq_true_eq]
    unfold al0
    omega
  have hL0 : L57 m := LA_57 hP.2.2.2.1
  have h81 := hP.2.2.2.2
  obtain ⟨r, m1, g1, g2⟩ := z_Mnumber (N := N) (σ := σ) d hN hP (by omega) (by omega) (he0 s h7 (by omega)) (a := 2) (b := 4) (by omega) (hal0 s h7 (by omega))
  rcases g2 with ⟨n1, s1, P1, e1, e17, e18, e19, e11, r12, sm1⟩ | ⟨r0, f1, f2, sm1⟩
  · have t7 : s1 7 0 = 0 := by rw [e17]; exact h7
    obtain ⟨r', m2, k1, k2⟩ := z_Mnumber (N := N) (σ := σ) d hN P1 (by omega) (by omega) (he0 s1 t7 (by omega)) (a := 2) (b := 4) (by omega) (hal0 s1 t7 (by omega))
    rcases k2 with ⟨n2, s2, P2, e2, e27, e28, e29, e21, r22, sm2⟩ | ⟨r0', f1', f2', sm2⟩
    · have u7 : s2 7 0 = 0 := by rw [e27]; exact t7
      have hw := z_Mwell (N := N) (σ := σ) (m := m2) (d + 5) hN (by rw [P2.2.2.2.2]; omega)
      rw [bZ_pos (by rw [P2.2.2.2.2]; decide)] at hw
      have hd := z_Mdrafts (N := N) (σ := σ) (d + 5) hN m2 r r'
      have v0 : s2 1 0 = r := by rw [e21, e11, h9, e19, h9]; rfl
      have v1 : s2 1 1 = r' := by rw [e21, e19, h9]; rfl
      have hPd : PH len n2 s2 p (pset m2 9 (drT (m2 9) r r')) := P2
      refine ⟨pset m2 9 (drT (m2 9) r r'), ?_, Or.inl ⟨n2, s2, hPd, ⟨by rw [e1, e2], by omega⟩, by rw [e27, e17], by rw [e28, e18], ?_, Or.inr ?_, ?_, ?_⟩⟩
      · simp (disch := first | omega | exact Nat.le_of_ble_eq_true rfl) only [e_M_readsItem, s_M_readsItem_0, s_M_readsItem_1, s_M_readsItem_4, s_M_readsItem_5, s_M_readsItem_6, s_M_readsItem_7, s_M_readsItem_10, s_M_readsItem_11, s_M_readsItem_12, s_M_readsItem_13, s_M_readsItem_14, s_M_readsItem_17, s_M_readsItem_18, s_M_readsItem_19, s_M_readsItem_22, s_M_readsItem_25, s_M_readsItem_26, s_M_readsItem_27, s_M_readsItem_28, s_M_readsItem_31, s_M_readsItem_34, s_M_readsItem_35, s_M_readsItem_36, s_M_readsItem_39, s_M_readsItem_40, s_M_readsItem_41, s_M_readsItem_42, s_M_readsItem_45, s_M_readsItem_47, s_M_readsItem_48, s_M_readsItem_49, s_M_readsItem_50, s_M_readsItem_53, s_M_readsItem_54, s_M_readsItem_55, s_M_readsItem_56, s_M_readsItem_57, s_M_readsItem_60, s_M_readsItem_62, s_M_readsItem_63, s_M_readsItem_64, s_M_readsItem_65, s_M_readsItem_68, s_M_readsItem_69, s_M_readsItem_70, s_M_readsItem_73, s_M_readsItem_76, s_M_readsItem_77, s_M_readsItem_80, s_M_readsItem_82, s_M_readsItem_83, s_M_readsItem_86, s_M_readsItem_88, s_M_readsItem_89, s_M_readsItem_90, s_M_readsItem_91, s_M_readsItem_92, s_M_readsItem_93, s_M_readsItem_94, s_M_readsItem_95, s_M_readsItem_96, s_M_readsItem_99, s_M_readsItem_100, s_M_readsItem_101, s_M_readsItem_104, s_M_readsItem_105, s_M_readsItem_108, s_M_readsItem_111, s_M_readsItem_112, s_M_readsItem_113, s_M_readsItem_116, Option.bind_some, Option.bind_none, Option.toList_some, Option.toList_none, List.cons_append, List.nil_append, if_true, if_false, rz_clr, true_or, or_true, z00, z11, bZ_eq0, bZ_eq1, nor_self, if_pos, if_neg, zI_add, zI_sub, zI_mul, zI_neg, zI_lt, zI_le, zI_eq, c_M, f_M_0, u_M_0, f_M_1, u_M_1, f_M_2, l_M_2, r_M_2, w_M_2, f_M_3, u_M_3, f_M_4, u_M_4, f_M_5, u_M_5, f_M_6, u_M_6, f_M_7, u_M_7, f_M_8, u_M_8, f_M_9, l_M_9, r_M_9, w_M_9, f_M_10, l_M_10, r_M_10, w_M_10, f_M_11, l_M_11, r_M_11, w_M_11, f_M_12, l_M_12, r_M_12, w_M_12, f_M_13, l_M_13, r_M_13, w_M_13, f_M_14, l_M_14, r_M_14, w_M_14, f_M_15, l_M_15, r_M_15, w_M_15, f_M_16, l_M_16, r_M_16, w_M_16, f_M_17, l_M_17, r_M_17, w_M_17, f_M_18, l_M_18, r_M_18, w_M_18, g1, k1, hw, hd]
      · unfold enB
        rw [if_neg (by omega), if_neg (by omega), decide_eq_true_eq]
        omega
      · intro v
        rw [alB_0 u7, decide_eq_false_iff_not]
        unfold al0
        omega
      · rw [apP_0 u7, v0, v1, pset_eq]
        exact tlR_fst _ _ _ _
      · exact MF_tr (MF_sm (sm_mono sm1 (by decide))) (MF_tr (MF_sm (sm_mono sm2 (by decide))) (MF_9 (fun i hi => drT_lo _ _ _ i hi)))
    · have hw := z_Mwell (N := N) (σ := σ) (m := m2) (d + 5) hN (by omega)
      rw [bZ_neg (by omega)] at hw
      refine ⟨m2, ?_, Or.inr ⟨by rw [e1]; exact f1', f2', MF_tr (MF_sm (sm_mono sm1 (by decide))) (MF_sm (sm_mono sm2 (by decide)))⟩⟩
      simp (disch := first | omega | exact Nat.le_of_ble_eq_true rfl) only [e_M_readsItem, s_M_readsItem_0, s_M_readsItem_1, s_M_readsItem_4, s_M_readsItem_5, s_M_readsItem_6, s_M_readsItem_7, s_M_readsItem_10, s_M_readsItem_11, s_M_readsItem_12, s_M_readsItem_13, s_M_readsItem_14, s_M_readsItem_17, s_M_readsItem_18, s_M_readsItem_19, s_M_readsItem_22, s_M_readsItem_25, s_M_readsItem_26, s_M_readsItem_27, s_M_readsItem_28, s_M_readsItem_31, s_M_readsItem_34, s_M_readsItem_35, s_M_readsItem_36, s_M_readsItem_39, s_M_readsItem_40, s_M_readsItem_41, s_M_readsItem_42, s_M_readsItem_45, s_M_readsItem_47, s_M_readsItem_48, s_M_readsItem_49, s_M_readsItem_50, s_M_readsItem_53, s_M_readsItem_54, s_M_readsItem_55, s_M_readsItem_56, s_M_readsItem_57, s_M_readsItem_60, s_M_readsItem_62, s_M_readsItem_63, s_M_readsItem_64, s_M_readsItem_65, s_M_readsItem_68, s_M_readsItem_69, s_M_readsItem_70, s_M_readsItem_73, s_M_readsItem_76, s_M_readsItem_77, s_M_readsItem_80, s_M_readsItem_82, s_M_readsItem_83, s_M_readsItem_86, s_M_readsItem_88, s_M_readsItem_89, s_M_readsItem_90, s_M_readsItem_91, s_M_readsItem_92, s_M_readsItem_93, s_M_readsItem_94, s_M_readsItem_95, s_M_readsItem_96, s_M_readsItem_99, s_M_readsItem_100, s_M_readsItem_101, s_M_readsItem_104, s_M_readsItem_105, s_M_readsItem_108, s_M_readsItem_111, s_M_readsItem_112, s_M_readsItem_113, s_M_readsItem_116, Option.bind_some, Option.bind_none, Option.toList_some, Option.toList_none, List.cons_append, List.nil_append, if_true, if_false, rz_clr, true_or, or_true, z00, z11, bZ_eq0, bZ_eq1, nor_self, if_pos, if_neg, zI_add, zI_sub, zI_mul, zI_neg, zI_lt, zI_le, zI_eq, c_M, f_M_0, u_M_0, f_M_1, u_M_1, f_M_2, l_M_2, r_M_2, w_M_2, f_M_3, u_M_3, f_M_4, u_M_4, f_M_5, u_M_5, f_M_6, u_M_6, f_M_7, u_M_7, f_M_8, u_M_8, f_M_9, l_M_9, r_M_9, w_M_9, f_M_10, l_M_10, r_M_10, w_M_10, f_M_11, l_M_11, r_M_11, w_M_11, f_M_12, l_M_12, r_M_12, w_M_12, f_M_13, l_M_13, r_M_13, w_M_13, f_M_14, l_M_14, r_M_14, w_M_14, f_M_15, l_M_15, r_M_15, w_M_15, f_M_16, l_M_16, r_M_16, w_M_16, f_M_17, l_M_17, r_M_17, w_M_17, f_M_18, l_M_18, r_M_18, w_M_18, g1, k1, hw]
  · have hL1 := L57_8 hL0 sm1
    have k1 := z_Mnumber_f (N := N) (σ := σ) (m := m1) (d + 3) hN (by omega) hL1.1 (fun z => by have := hL1.2 z; omega) (a := 2) (b := 4) (by decide) (by decide)
    have hw := z_Mwell (N := N) (σ := σ) (m := m1) (d + 5) hN (by omega)
    rw [bZ_neg (by omega)] at hw
    refine ⟨m1, ?_, Or.inr ⟨f1, f2, MF_sm (sm_mono sm1 (by decide))⟩⟩
    simp (disch := first | omega | exact Nat.le_of_ble_eq_true rfl) only [e_M_readsItem, s_M_readsItem_0, s_M_readsItem_1, s_M_readsItem_4, s_M_readsItem_5, s_M_readsItem_6, s_M_readsItem_7, s_M_readsItem_10, s_M_readsItem_11, s_M_readsItem_12, s_M_readsItem_13, s_M_readsItem_14, s_M_readsItem_17, s_M_readsItem_18, s_M_readsItem_19, s_M_readsItem_22, s_M_readsItem_25, s_M_readsItem_26, s_M_readsItem_27, s_M_readsItem_28, s_M_readsItem_31, s_M_readsItem_34, s_M_readsItem_35, s_M_readsItem_36, s_M_readsItem_39, s_M_readsItem_40, s_M_readsItem_41, s_M_readsItem_42, s_M_readsItem_45, s_M_readsItem_47, s_M_readsItem_48, s_M_readsItem_49, s_M_readsItem_50, s_M_readsItem_53, s_M_readsItem_54, s_M_readsItem_55, s_M_readsItem_56, s_M_readsItem_57, s_M_readsItem_60, s_M_readsItem_62, s_M_readsItem_63, s_M_readsItem_64, s_M_readsItem_65, s_M_readsItem_68, s_M_readsItem_69, s_M_readsItem_70, s_M_readsItem_73, s_M_readsItem_76, s_M_readsItem_77, s_M_readsItem_80, s_M_readsItem_82, s_M_readsItem_83, s_M_readsItem_86, s_M_readsItem_88, s_M_readsItem_89, s_M_readsItem_90, s_M_readsItem_91, s_M_readsItem_92, s_M_readsItem_93, s_M_readsItem_94, s_M_readsItem_95, s_M_readsItem_96, s_M_readsItem_99, s_M_readsItem_100, s_M_readsItem_101, s_M_readsItem_104, s_M_readsItem_105, s_M_readsItem_108, s_M_readsItem_111, s_M_readsItem_112, s_M_readsItem_113, s_M_readsItem_116, Option.bind_some, Option.bind_none, Option.toList_some, Option.toList_none, List.cons_append, List.nil_append, if_true, if_false, rz_clr, true_or, or_true, z00, z11, bZ_eq0, bZ_eq1, nor_self, if_pos, if_neg, zI_add, zI_sub, zI_mul, zI_neg, zI_lt, zI_le, zI_eq, c_M, f_M_0, u_M_0, f_M_1, u_M_1, f_M_2, l_M_2, r_M_2, w_M_2, f_M_3, u_M_3, f_M_4, u_M_4, f_M_5, u_M_5, f_M_6, u_M_6, f_M_7, u_M_7, f_M_8, u_M_8, f_M_9, l_M_9, r_M_9, w_M_9, f_M_10, l_M_10, r_M_10, w_M_10, f_M_11, l_M_11, r_M_11, w_M_11, f_M_12, l_M_12, r_M_12, w_M_12, f_M_13, l_M_13, r_M_13, w_M_13, f_M_14, l_M_14, r_M_14, w_M_14, f_M_15, l_M_15, r_M_15, w_M_15, f_M_16, l_M_16, r_M_16, w_M_16, f_M_17, l_M_17, r_M_17, w_M_17, f_M_18, l_M_18, r_M_18, w_M_18, g1, k1, hw]
end NC1
