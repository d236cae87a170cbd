-- the reckoner's recursion
def RS (σ : zS) (Kn : Nat → Int) : zS := gset σ 6 (pset (σ 6) 0 Kn)
theorem RS_0 (σ : zS) (Kn : Nat → Int) : RS σ Kn 6 0 = Kn := by unfold RS; rw [gset_at, pset_eq]
theorem RS_6 {σ : zS} {Kn : Nat → Int} {k : Nat} (h : k ≠ 0) : RS σ Kn 6 k = σ 6 k := by unfold RS; rw [gset_at, pset_ne h]
theorem RS_ne {σ : zS} {Kn : Nat → Int} {g : Nat} (h : g ≠ 6) : RS σ Kn g = σ g := by unfold RS; exact gset_ne h
theorem RS_put (σ : zS) (Kn f : Nat → Int) : sset (RS σ Kn) 6 0 f = RS σ f := by
  rw [sset_eq]
  unfold RS
  rw [gset_gset, gset_at]
  congr 1
  funext k
  unfold pset
  by_cases h : k = 0
  · simp [h]
  · simp [h]
def RC (σ : zS) (gp : Nat) : Prop := 7 ≤ gp ∧ gp ≤ 9 ∧ σ 6 3 0 = gp ∧ wfP (σ gp) ∧ lkP (σ gp) ∧ (∀ m : Nat, m < 2 → rg (σ 6 1 m)) ∧ (∀ m : Nat, m < 2 → rg (σ 6 2 m)) ∧ 1 ≤ σ 6 4 0 ∧ σ 6 4 0 ≤ 100000
def MOK (p : zP) (la hm : Nat → Int) (r : Int) (Kn : Nat → Int) : Prop := (∀ i : Nat, i < 18432 → 0 ≤ Kn i ∧ Kn i / 4 ≤ r) ∧ ∀ (n K : Nat), 1 ≤ n → n ≤ 4 → vK p K → Kn (plK K n).toNat / 4 = r → Kn (plK K n).toNat % 4 - 2 = gV p la hm n K
theorem tm_I (K : Nat) : (1 : Int) - (tl K : Int) = (tm K : Int) := by have := tl_lt K; unfold tm; omega
theorem tm_I2 (K : Nat) : (1 : Int) - (tm K : Int) = ((1 - tm K : Nat) : Int) := by unfold tm; omega
theorem tm_lt (K : Nat) : tm K < 2 := by unfold tm; omega
theorem z_pack : ∀ v : Int, (-1 ≤ v ∧ v ≤ 1) → ∀ r : Int, (1 ≤ r ∧ r ≤ 100000) → (zI r <<< (zI 2 &&& 31)) ||| zI (v + 2) = zI (r * 4 + (v + 2)) := by
  intro v hv r hr
  obtain ⟨a, rfl⟩ : ∃ a : Nat, r = a := ⟨r.toNat, by omega⟩
  obtain ⟨b, hb, hb4⟩ : ∃ b : Nat, v + 2 = b ∧ b < 4 := ⟨(v + 2).toNat, by omega, by omega⟩
  rw [hb]
  have e1 : zI (a : Int) <<< (zI 2 &&& 31) = zI ((a * 4 : Nat) : Int) := by
    rw [zI_nI, zI_nI]
    exact pk_shlN (nI 2 &&& 31) 2 (sh_31 2 (by decide)) (by omega)
  rw [e1, z_or (by omega) (by omega)]
  have e2 : a * 4 ||| b = a * 4 + b := by
    rw [Nat.mul_comm]
    exact (Nat.two_pow_add_eq_or_of_lt (i := 2) hb4 a).symm
  rw [e2]
  rw [Int.natCast_add, Int.natCast_mul]
  rfl
theorem z_shr2 {x : Int} (hx : 0 ≤ x ∧ x < 2147483648) : zI x >>> (zI 2 &&& 31) = zI (x / 4) := by
  obtain ⟨a, rfl⟩ : ∃ a : Nat, x = a := ⟨x.toNat, by omega⟩
  have := z_shr (b := a) (i := 2) (by omega) (by decide)
  have e : zI (a : Int) >>> (zI 2 &&& 31) = zI ((a / 2 ^ 2 : Nat) : Int) := this
  rw [e]; rfl
theorem z_and3I {x : Int} (hx : 0 ≤ x ∧ x < 2147483648) : zI x &&& zI 3 = zI (x % 4) := by
  obtain ⟨a, rfl⟩ : ∃ a : Nat, x = a := ⟨x.toNat, by omega⟩
  have := z_and3 (a := a) (by omega)
  rw [this]; rfl
section RK
variable {N gp : Nat} {σ : zS}
/-- what valueIn at n must be, at every depth from b on -/
def VAL (N : Nat) (σ : zS) (gp b n : Nat) : Prop := ∀ (e : Nat) (Kn : Nat → Int), MOK (σ gp) (σ 6 1) (σ 6 2) (σ 6 4 0) Kn → ∀ K, vK (σ gp) K → ∃ K', rz_dM (e + b) iR_valueIn [.ref (bs 6), .int (zI K), .int (zI n)] (wOf N (RS σ Kn)) = some (some (.int (zI (gV (σ gp) (σ 6 1) (σ 6 2) n K))), wOf N (RS σ K')) ∧ MOK (σ gp) (σ 6 1) (σ 6 2) (σ 6 4 0) K'
theorem z_afterDone (hN : 48 ≤ N) (hC : RC σ gp) {b n : Nat} (hv : VAL N σ gp (b + 6) n) (hn : n ≤ 4) : ∀ (e : Nat) (Kn : Nat → Int), MOK (σ gp) (σ 6 1) (σ 6 2) (σ 6 4 0) Kn → ∀ (K k : Nat), vK (σ gp) K → k < 8 → ∃ K', rz_dM (e + b + 7) iR_afterDone [.ref (bs 6), .int (zI K), .int (zI k), .int (zI ((n : Int) + 1))] (wOf N (RS σ Kn)) = some (some (.int (zI (dnK (σ gp) (σ 6 1) (σ 6 2) (gV (σ gp) (σ 6 1) (σ 6 2) n) K k))), wOf N (RS σ K')) ∧ MOK (σ gp) (σ 6 1) (σ 6 2) (σ 6 4 0) K' := by
  obtain ⟨c1, c2, c3, c4, c5, c6, c7, c8, c9⟩ := hC
  intro e Kn hM K k hK hk
  have ha := wfP_area c4
  have hK1 := hK.1
  have htm := tm_lt K
  have hcl : (0 : Int) ≤ (cl K (tm K) : Int) ∧ (cl K (tm K) : Int) < σ gp 8 0 * σ gp 9 0 := by
    have h3 := hK.2.2.2.1
    have h4 := hK.2.2.2.2
    have e9 : tm K = 0 ∨ tm K = 1 := by omega
    rcases e9 with e9 | e9 <;> rw [e9] <;> omega
  have hla := c6 (tm K) htm
  have hho := c7 (tm K) htm
  have hld := ldP_rg c4 c5 (l := σ 6 1 (tm K)) hcl hk
  have hne : gp ≠ 6 := by omega
  have ek : ((k : Int)).toNat = k := Int.toNat_natCast k
  have e3 : (σ 6 3 0).toNat = gp := by omega
  have hlt := z_leadsTo (N := N) (σ := RS σ Kn) (g := gp) (e + b + 4) c1 c2 hN (by rw [RS_ne hne]; exact c4) (l := σ 6 1 (tm K)) (c := cl K (tm K)) (k := k) hla (by omega) (by omega)
  rw [RS_ne hne, ek] at hlt
  unfold dnK
  have el : leadK (σ gp) (σ 6 1) K k = ldP (σ gp) (σ 6 1 (tm K)) (cl K (tm K)) k := rfl
  rw [el]
  generalize hto : ldP (σ gp) (σ 6 1 (tm K)) (cl K (tm K)) k = to at hlt hld ⊢
  by_cases q0 : to = -9
  · refine ⟨Kn, ?_, hM⟩
    rw [if_pos q0]
    simp (disch := first | omega | exact Nat.le_of_ble_eq_true rfl) only [e_R_afterDone, s_R_afterDone_0, s_R_afterDone_1, s_R_afterDone_2, s_R_afterDone_5, s_R_afterDone_6, s_R_afterDone_8, s_R_afterDone_9, s_R_afterDone_12, s_R_afterDone_13, s_R_afterDone_16, s_R_afterDone_18, s_R_afterDone_21, s_R_afterDone_22, s_R_afterDone_24, s_R_afterDone_27, s_R_afterDone_28, s_R_afterDone_31, s_R_afterDone_33, s_R_afterDone_35, s_R_afterDone_37, s_R_afterDone_40, s_R_afterDone_41, s_R_afterDone_42, s_R_afterDone_43, s_R_afterDone_46, s_R_afterDone_48, s_R_afterDone_49, s_R_afterDone_52, s_R_afterDone_54, s_R_afterDone_57, s_R_afterDone_60, s_R_afterDone_62, s_R_afterDone_64, s_R_afterDone_65, s_R_afterDone_68, s_R_afterDone_69, s_R_afterDone_72, s_R_afterDone_73, s_R_afterDone_75, s_R_afterDone_76, s_R_afterDone_79, s_R_afterDone_80, s_R_afterDone_83, s_R_afterDone_84, s_R_afterDone_85, s_R_afterDone_86, s_R_afterDone_88, s_R_afterDone_90, s_R_afterDone_93, s_R_afterDone_95, s_R_afterDone_96, s_R_afterDone_98, s_R_afterDone_99, s_R_afterDone_102, s_R_afterDone_104, s_R_afterDone_107, s_R_afterDone_109, s_R_afterDone_112, s_R_afterDone_113, s_R_afterDone_114, s_R_afterDone_115, s_R_afterDone_116, s_R_afterDone_119, Option.bind_some, Option.bind_none, Option.toList_some, Option.toList_none, List.cons_append, List.nil_append, if_true, if_false, rz_clr, true_or, or_true, z00, z11, bZ_eq0, bZ_eq1, nor_self, if_pos, if_neg, zI_add, zI_sub, zI_mul, zI_neg, zI_lt, zI_le, zI_eq, c_R, f_R_0, l_R_0, r_R_0, w_R_0, f_R_1, l_R_1, r_R_1, w_R_1, f_R_2, l_R_2, r_R_2, w_R_2, f_R_3, u_R_3, f_R_4, u_R_4, a_R_0, p_R_0, a_R_1, p_R_1, a_R_2, p_R_2, c_P, gat_in, z_tellerIn, z_cellIn, RS_0, RS_6, e3, tm_I, Int.toNat_natCast, hlt]
  · rw [if_neg q0]
    have hft := z_fateOn (N := N) (σ := RS σ Kn) (g := gp) (e + b + 4) c1 c2 hN (by rw [RS_ne hne]; exact c4) (c := to) (home := σ 6 2 (tm K)) (by omega) hho
    rw [RS_ne hne] at hft
    by_cases q1 : ftP (σ gp) to (σ 6 2 (tm K)) = 3
    · refine ⟨Kn, ?_, hM⟩
      rw [if_pos q1]
      simp (disch := first | omega | exact Nat.le_of_ble_eq_true rfl) only [e_R_afterDone, s_R_afterDone_0, s_R_afterDone_1, s_R_afterDone_2, s_R_afterDone_5, s_R_afterDone_6, s_R_afterDone_8, s_R_afterDone_9, s_R_afterDone_12, s_R_afterDone_13, s_R_afterDone_16, s_R_afterDone_18, s_R_afterDone_21, s_R_afterDone_22, s_R_afterDone_24, s_R_afterDone_27, s_R_afterDone_28, s_R_afterDone_31, s_R_afterDone_33, s_R_afterDone_35, s_R_afterDone_37, s_R_afterDone_40, s_R_afterDone_41, s_R_afterDone_42, s_R_afterDone_43, s_R_afterDone_46, s_R_afterDone_48, s_R_afterDone_49, s_R_afterDone_52, s_R_afterDone_54, s_R_afterDone_57, s_R_afterDone_60, s_R_afterDone_62, s_R_afterDone_64, s_R_afterDone_65, s_R_afterDone_68, s_R_afterDone_69, s_R_afterDone_72, s_R_afterDone_73, s_R_afterDone_75, s_R_afterDone_76, s_R_afterDone_79, s_R_afterDone_80, s_R_afterDone_83, s_R_afterDone_84, s_R_afterDone_85, s_R_afterDone_86, s_R_afterDone_88, s_R_afterDone_90, s_R_afterDone_93, s_R_afterDone_95, s_R_afterDone_96, s_R_afterDone_98, s_R_afterDone_99, s_R_afterDone_102, s_R_afterDone_104, s_R_afterDone_107, s_R_afterDone_109, s_R_afterDone_112, s_R_afterDone_113, s_R_afterDone_114, s_R_afterDone_115, s_R_afterDone_116, s_R_afterDone_119, Option.bind_some, Option.bind_none, Option.toList_some, Option.toList_none, List.cons_append, List.nil_append, if_true, if_false, rz_clr, true_or, or_true, z00, z11, bZ_eq0, bZ_eq1, nor_self, if_pos, if_neg, zI_add, zI_sub, zI_mul, zI_neg, zI_lt, zI_le, zI_eq, c_R, f_R_0, l_R_0, r_R_0, w_R_0, f_R_1, l_R_1, r_R_1, w_R_1, f_R_2, l_R_2, r_R_2, w_R_2, f_R_3, u_R_3, f_R_4, u_R_4, a_R_0, p_R_0, a_R_1, p_R_1, a_R_2, p_R_2, c_P, gat_in, z_tellerIn, z_cellIn, z_wants, RS_0, RS_6, e3, tm_I, Int.toNat_natCast, hlt, hft, q1]
    · rw [if_neg q1]
      by_cases q2 : ftP (σ gp) to (σ 6 2 (tm K)) = 2
      · refine ⟨Kn, ?_, hM⟩
        rw [if_pos q2]
        simp (disch := first | omega | exact Nat.le_of_ble_eq_true rfl) only [e_R_afterDone, s_R_afterDone_0, s_R_afterDone_1, s_R_afterDone_2, s_R_afterDone_5, s_R_afterDone_6, s_R_afterDone_8, s_R_afterDone_9, s_R_afterDone_12, s_R_afterDone_13, s_R_afterDone_16, s_R_afterDone_18, s_R_afterDone_21, s_R_afterDone_22, s_R_afterDone_24, s_R_afterDone_27, s_R_afterDone_28, s_R_afterDone_31, s_R_afterDone_33, s_R_afterDone_35, s_R_afterDone_37, s_R_afterDone_40, s_R_afterDone_41, s_R_afterDone_42, s_R_afterDone_43, s_R_afterDone_46, s_R_afterDone_48, s_R_afterDone_49, s_R_afterDone_52, s_R_afterDone_54, s_R_afterDone_57, s_R_afterDone_60, s_R_afterDone_62, s_R_afterDone_64, s_R_afterDone_65, s_R_afterDone_68, s_R_afterDone_69, s_R_afterDone_72, s_R_afterDone_73, s_R_afterDone_75, s_R_afterDone_76, s_R_afterDone_79, s_R_afterDone_80, s_R_afterDone_83, s_R_afterDone_84, s_R_afterDone_85, s_R_afterDone_86, s_R_afterDone_88, s_R_afterDone_90, s_R_afterDone_93, s_R_afterDone_95, s_R_afterDone_96, s_R_afterDone_98, s_R_afterDone_99, s_R_afterDone_102, s_R_afterDone_104, s_R_afterDone_107, s_R_afterDone_109, s_R_afterDone_112, s_R_afterDone_113, s_R_afterDone_114, s_R_afterDone_115, s_R_afterDone_116, s_R_afterDone_119, Option.bind_some, Option.bind_none, Option.toList_some, Option.toList_none, List.cons_append, List.nil_append, if_true, if_false, rz_clr, true_or, or_true, z00, z11, bZ_eq0, bZ_eq1, nor_self, if_pos, if_neg, zI_add, zI_sub, zI_mul, zI_neg, zI_lt, zI_le, zI_eq, c_R, f_R_0, l_R_0, r_R_0, w_R_0, f_R_1, l_R_1, r_R_1, w_R_1, f_R_2, l_R_2, r_R_2, w_R_2, f_R_3, u_R_3, f_R_4, u_R_4, a_R_0, p_R_0, a_R_1, p_R_1, a_R_2, p_R_2, c_P, gat_in, z_tellerIn, z_cellIn, z_wants, RS_0, RS_6, e3, tm_I, Int.toNat_natCast, hlt, hft, q2]
      · rw [if_neg q2]
        have hfr := ftP_rg (σ gp) to (σ 6 2 (tm K))
        obtain ⟨tn, rfl⟩ : ∃ tn : Nat, to = tn := ⟨to.toNat, by omega⟩
        rw [Int.toNat_natCast]
        have hvk := vK_wc hK htm (c := tn) (by omega) (by omega)
        have en : (n : Int) + 1 - 1 = n := by omega
        by_cases q3 : ftP (σ gp) tn (σ 6 2 (tm K)) = 1
        · obtain ⟨K', hv1, hM1⟩ := hv e Kn hM _ hvk
          have hv1' : rz_dM (e + b + 6) iR_valueIn [.ref (bs 6), .int (zI (wcK K (tm K) tn : Nat)), .int (zI n)] (wOf N (RS σ Kn)) = _ := hv1
          refine ⟨K', ?_, hM1⟩
          rw [if_pos q3]
          simp (disch := first | omega | exact Nat.le_of_ble_eq_true rfl) only [e_R_afterDone, s_R_afterDone_0, s_R_afterDone_1, s_R_afterDone_2, s_R_afterDone_5, s_R_afterDone_6, s_R_afterDone_8, s_R_afterDone_9, s_R_afterDone_12, s_R_afterDone_13, s_R_afterDone_16, s_R_afterDone_18, s_R_afterDone_21, s_R_afterDone_22, s_R_afterDone_24, s_R_afterDone_27, s_R_afterDone_28, s_R_afterDone_31, s_R_afterDone_33, s_R_afterDone_35, s_R_afterDone_37, s_R_afterDone_40, s_R_afterDone_41, s_R_afterDone_42, s_R_afterDone_43, s_R_afterDone_46, s_R_afterDone_48, s_R_afterDone_49, s_R_afterDone_52, s_R_afterDone_54, s_R_afterDone_57, s_R_afterDone_60, s_R_afterDone_62, s_R_afterDone_64, s_R_afterDone_65, s_R_afterDone_68, s_R_afterDone_69, s_R_afterDone_72, s_R_afterDone_73, s_R_afterDone_75, s_R_afterDone_76, s_R_afterDone_79, s_R_afterDone_80, s_R_afterDone_83, s_R_afterDone_84, s_R_afterDone_85, s_R_afterDone_86, s_R_afterDone_88, s_R_afterDone_90, s_R_afterDone_93, s_R_afterDone_95, s_R_afterDone_96, s_R_afterDone_98, s_R_afterDone_99, s_R_afterDone_102, s_R_afterDone_104, s_R_afterDone_107, s_R_afterDone_109, s_R_afterDone_112, s_R_afterDone_113, s_R_afterDone_114, s_R_afterDone_115, s_R_afterDone_116, s_R_afterDone_119, Option.bind_some, Option.bind_none, Option.toList_some, Option.toList_none, List.cons_append, List.nil_append, if_true, if_false, rz_clr, true_or, or_true, z00, z11, bZ_eq0, bZ_eq1, nor_self, if_pos, if_neg, zI_add, zI_sub, zI_mul, zI_neg, zI_lt, zI_le, zI_eq, c_R, f_R_0, l_R_0, r_R_0, w_R_0, f_R_1, l_R_1, r_R_1, w_R_1, f_R_2, l_R_2, r_R_2, w_R_2, f_R_3, u_R_3, f_R_4, u_R_4, a_R_0, p_R_0, a_R_1, p_R_1, a_R_2, p_R_2, c_P, gat_in, z_tellerIn, z_cellIn, z_withCell, RS_0, RS_6, e3, tm_I, Int.toNat_natCast, hlt, hft, q3, en, hv1']
        · obtain ⟨K', hv1, hM1⟩ := hv e Kn hM _ (vK_flip hvk)
          have hv1' : rz_dM (e + b + 6) iR_valueIn [.ref (bs 6), .int (zI (flipT (wcK K (tm K) tn) : Nat)), .int (zI n)] (wOf N (RS σ Kn)) = _ := hv1
          refine ⟨K', ?_, hM1⟩
          rw [if_neg q3]
          have hx := z_xor4096 _ hvk.1
          simp (disch := first | omega | exact Nat.le_of_ble_eq_true rfl) only [e_R_afterDone, s_R_afterDone_0, s_R_afterDone_1, s_R_afterDone_2, s_R_afterDone_5, s_R_afterDone_6, s_R_afterDone_8, s_R_afterDone_9, s_R_afterDone_12, s_R_afterDone_13, s_R_afterDone_16, s_R_afterDone_18, s_R_afterDone_21, s_R_afterDone_22, s_R_afterDone_24, s_R_afterDone_27, s_R_afterDone_28, s_R_afterDone_31, s_R_afterDone_33, s_R_afterDone_35, s_R_afterDone_37, s_R_afterDone_40, s_R_afterDone_41, s_R_afterDone_42, s_R_afterDone_43, s_R_afterDone_46, s_R_afterDone_48, s_R_afterDone_49, s_R_afterDone_52, s_R_afterDone_54, s_R_afterDone_57, s_R_afterDone_60, s_R_afterDone_62, s_R_afterDone_64, s_R_afterDone_65, s_R_afterDone_68, s_R_afterDone_69, s_R_afterDone_72, s_R_afterDone_73, s_R_afterDone_75, s_R_afterDone_76, s_R_afterDone_79, s_R_afterDone_80, s_R_afterDone_83, s_R_afterDone_84, s_R_afterDone_85, s_R_afterDone_86, s_R_afterDone_88, s_R_afterDone_90, s_R_afterDone_93, s_R_afterDone_95, s_R_afterDone_96, s_R_afterDone_98, s_R_afterDone_99, s_R_afterDone_102, s_R_afterDone_104, s_R_afterDone_107, s_R_afterDone_109, s_R_afterDone_112, s_R_afterDone_113, s_R_afterDone_114, s_R_afterDone_115, s_R_afterDone_116, s_R_afterDone_119, Option.bind_some, Option.bind_none, Option.toList_some, Option.toList_none, List.cons_append, List.nil_append, if_true, if_false, rz_clr, true_or, or_true, z00, z11, bZ_eq0, bZ_eq1, nor_self, if_pos, if_neg, zI_add, zI_sub, zI_mul, zI_neg, zI_lt, zI_le, zI_eq, c_R, f_R_0, l_R_0, r_R_0, w_R_0, f_R_1, l_R_1, r_R_1, w_R_1, f_R_2, l_R_2, r_R_2, w_R_2, f_R_3, u_R_3, f_R_4, u_R_4, a_R_0, p_R_0, a_R_1, p_R_1, a_R_2, p_R_2, c_P, gat_in, z_tellerIn, z_cellIn, z_withCell, RS_0, RS_6, e3, tm_I, Int.toNat_natCast, hlt, hft, en, hx, hv1']
end RK
