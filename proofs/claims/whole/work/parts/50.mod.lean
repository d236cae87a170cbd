-- the model: what it is told, where a step leads
section MA
variable {N : Nat} {σ : zS}
theorem z_Min (d : Nat) {v a b : Int} (hv : rg v) (ha : rg a) (hb : rg b) (w : rz_W) : rz_dM (d + 1) iM_in [.int (zI v), .int (zI a), .int (zI b)] w = some (some (.int (zI (bZ (a ≤ v ∧ v ≤ b)))), w) := by
  by_cases h1 : a ≤ v
  · by_cases h2 : v ≤ b
    · rw [bZ_pos ⟨h1, h2⟩]
      have h3 : ¬ v < a := by omega
      simp (disch := first | omega | exact Nat.le_of_ble_eq_true rfl) only [e_M_in, s_M_in_0, s_M_in_1, s_M_in_2, s_M_in_5, s_M_in_6, s_M_in_7, s_M_in_10, s_M_in_11, s_M_in_14, s_M_in_15, Option.bind_some, Option.bind_none, Option.toList_some, Option.toList_none, List.cons_append, List.nil_append, if_true, if_false, rz_clr, true_or, or_true, z00, z11, bZ_eq0, bZ_eq1, nor_self, if_pos, if_neg, zI_add, zI_sub, zI_mul, zI_neg, zI_lt, zI_le, zI_eq, h2, h3]
    · rw [bZ_neg (fun z => h2 z.2)]
      have h3 : ¬ v < a := by omega
      simp (disch := first | omega | exact Nat.le_of_ble_eq_true rfl) only [e_M_in, s_M_in_0, s_M_in_1, s_M_in_2, s_M_in_5, s_M_in_6, s_M_in_7, s_M_in_10, s_M_in_11, s_M_in_14, s_M_in_15, Option.bind_some, Option.bind_none, Option.toList_some, Option.toList_none, List.cons_append, List.nil_append, if_true, if_false, rz_clr, true_or, or_true, z00, z11, bZ_eq0, bZ_eq1, nor_self, if_pos, if_neg, zI_add, zI_sub, zI_mul, zI_neg, zI_lt, zI_le, zI_eq, h2, h3]
  · rw [bZ_neg (fun z => h1 z.1)]
    have h3 : v < a := by omega
    simp (disch := first | omega | exact Nat.le_of_ble_eq_true rfl) only [e_M_in, s_M_in_0, s_M_in_1, s_M_in_2, s_M_in_5, s_M_in_6, s_M_in_7, s_M_in_10, s_M_in_11, s_M_in_14, s_M_in_15, Option.bind_some, Option.bind_none, Option.toList_some, Option.toList_none, List.cons_append, List.nil_append, if_true, if_false, rz_clr, true_or, or_true, z00, z11, bZ_eq0, bZ_eq1, nor_self, if_pos, if_neg, zI_add, zI_sub, zI_mul, zI_neg, zI_lt, zI_le, zI_eq, h3]
def asd (k : Nat) : Int := if 0 < k % 8 ∧ k % 8 < 4 then 1 else if 4 < k % 8 then -1 else 0
theorem asd_rx : ∀ k, k < 8 → asd k = rx k ∧ asd (k + 6) = ry k := by decide
theorem and7 : ∀ k, k < 16 → zI ((k : Nat) : Int) &&& zI 7 = zI ((k % 8 : Nat) : Int) := by decide +kernel
theorem z_aside (d : Nat) {k : Nat} (hk : k < 16) (w : rz_W) : rz_dM (d + 1) iM_aside [.int (zI k)] w = some (some (.int (zI (asd k))), w) := by
  have e := and7 k hk
  have hf : k % 8 < 8 := Nat.mod_lt _ (by decide)
  unfold asd
  generalize k % 8 = f at e hf
  by_cases c1 : 0 < f ∧ f < 4
  · rw [if_pos c1]
    simp (disch := first | omega | exact Nat.le_of_ble_eq_true rfl) only [e_M_aside, s_M_aside_0, s_M_aside_1, s_M_aside_3, s_M_aside_4, s_M_aside_5, s_M_aside_6, s_M_aside_9, s_M_aside_10, s_M_aside_11, s_M_aside_14, s_M_aside_15, s_M_aside_18, s_M_aside_19, s_M_aside_20, s_M_aside_23, s_M_aside_24, s_M_aside_27, s_M_aside_28, Option.bind_some, Option.bind_none, Option.toList_some, Option.toList_none, List.cons_append, List.nil_append, if_true, if_false, rz_clr, true_or, or_true, z00, z11, bZ_eq0, bZ_eq1, nor_self, if_pos, if_neg, zI_add, zI_sub, zI_mul, zI_neg, zI_lt, zI_le, zI_eq, e]
  · rw [if_neg c1]
    by_cases c2 : 4 < f
    · rw [if_pos c2]
      simp (disch := first | omega | exact Nat.le_of_ble_eq_true rfl) only [e_M_aside, s_M_aside_0, s_M_aside_1, s_M_aside_3, s_M_aside_4, s_M_aside_5, s_M_aside_6, s_M_aside_9, s_M_aside_10, s_M_aside_11, s_M_aside_14, s_M_aside_15, s_M_aside_18, s_M_aside_19, s_M_aside_20, s_M_aside_23, s_M_aside_24, s_M_aside_27, s_M_aside_28, Option.bind_some, Option.bind_none, Option.toList_some, Option.toList_none, List.cons_append, List.nil_append, if_true, if_false, rz_clr, true_or, or_true, z00, z11, bZ_eq0, bZ_eq1, nor_self, if_pos, if_neg, zI_add, zI_sub, zI_mul, zI_neg, zI_lt, zI_le, zI_eq, e]
    · rw [if_neg c2]
      by_cases c3 : f = 0
      · subst c3
        simp (disch := first | omega | exact Nat.le_of_ble_eq_true rfl) only [e_M_aside, s_M_aside_0, s_M_aside_1, s_M_aside_3, s_M_aside_4, s_M_aside_5, s_M_aside_6, s_M_aside_9, s_M_aside_10, s_M_aside_11, s_M_aside_14, s_M_aside_15, s_M_aside_18, s_M_aside_19, s_M_aside_20, s_M_aside_23, s_M_aside_24, s_M_aside_27, s_M_aside_28, Option.bind_some, Option.bind_none, Option.toList_some, Option.toList_none, List.cons_append, List.nil_append, if_true, if_false, rz_clr, true_or, or_true, z00, z11, bZ_eq0, bZ_eq1, nor_self, if_pos, if_neg, zI_add, zI_sub, zI_mul, zI_neg, zI_lt, zI_le, zI_eq, e]
      · simp (disch := first | omega | exact Nat.le_of_ble_eq_true rfl) only [e_M_aside, s_M_aside_0, s_M_aside_1, s_M_aside_3, s_M_aside_4, s_M_aside_5, s_M_aside_6, s_M_aside_9, s_M_aside_10, s_M_aside_11, s_M_aside_14, s_M_aside_15, s_M_aside_18, s_M_aside_19, s_M_aside_20, s_M_aside_23, s_M_aside_24, s_M_aside_27, s_M_aside_28, Option.bind_some, Option.bind_none, Option.toList_some, Option.toList_none, List.cons_append, List.nil_append, if_true, if_false, rz_clr, true_or, or_true, z00, z11, bZ_eq0, bZ_eq1, nor_self, if_pos, if_neg, zI_add, zI_sub, zI_mul, zI_neg, zI_lt, zI_le, zI_eq, e]
/-- what the model is told, from a place on, is a plan -/
def tlR (t : Nat → Int) (o : Nat) (p : zP) : Prop := (t o = p 8 0 ∧ t (o + 1) = p 9 0 ∧ t (o + 2) = p 10 0) ∧ (∀ c : Nat, c < 16 → t (o + 3 + c) = p 0 c) ∧ (∀ l : Nat, (l : Int) < p 10 0 → t (o + 19 + 2 * l) = p 1 l ∧ t (o + 20 + 2 * l) = p 2 l) ∧ (∀ j : Nat, j < 2 → t (o + 25 + j) = p 4 j ∧ t (o + 27 + j) = p 5 j ∧ t (o + 29 + j) = p 6 j ∧ t (o + 31 + j) = p 7 j)
/-- where its walk stands -/
def sR (t : Nat → Int) (q : zP) : Prop := (t 0 = q 0 0 ∧ t 1 = q 0 1) ∧ (t 2 = q 1 0 ∧ t 3 = q 1 1) ∧ t 4 = q 2 0 ∧ t 5 = q 4 0 ∧ t 6 = q 5 0 ∧ t 7 = q 3 0 ∧ t 8 = q 6 0
theorem div_wc : ∀ c, c < 16 → ∀ W, W < 5 → 2 ≤ W → zI ((c : Nat) : Int) / zI ((W : Nat) : Int) = zI ((c / W : Nat) : Int) := by decide +kernel
theorem ne0_w : ∀ W, W < 5 → 2 ≤ W → ¬ zI ((W : Nat) : Int) = 0 := by decide +kernel

variable {p : zP}
section TL
variable {m : zP}
theorem tl_W (hm : tlR (m 9) 0 p) : m 9 (0 : Int).toNat = p 8 0 := hm.1.1
theorem tl_H (hm : tlR (m 9) 0 p) : m 9 (1 : Int).toNat = p 9 0 := hm.1.2.1
theorem tl_L (hm : tlR (m 9) 0 p) : m 9 (2 : Int).toNat = p 10 0 := hm.1.2.2
theorem tl_cell (hm : tlR (m 9) 0 p) {i : Int} (h : 3 ≤ i ∧ i < 19) : m 9 i.toNat = p 0 (i - 3).toNat := by
  have := hm.2.1 (i - 3).toNat (by omega)
  rw [← this]
  congr 1
  omega
theorem tl_far (hm : tlR (m 9) 0 p) {l : Nat} (h : (l : Int) < p 10 0) {i : Int} (e : i = 19 + 2 * l) : m 9 i.toNat = p 1 l := by
  have := (hm.2.2.1 l h).1
  rw [← this, e]
  congr 1
theorem tl_way (hm : tlR (m 9) 0 p) {l : Nat} (h : (l : Int) < p 10 0) {i : Int} (e : i = 20 + 2 * l) : m 9 i.toNat = p 2 l := by
  have := (hm.2.2.1 l h).2
  rw [← this, e]
  congr 1
theorem tl_4 (hm : tlR (m 9) 0 p) {j : Int} (h : 0 ≤ j ∧ j < 2) : m 9 (25 + j).toNat = p 4 j.toNat := by
  rw [← (hm.2.2.2 j.toNat (by omega)).1]
  congr 1
  omega
theorem tl_5 (hm : tlR (m 9) 0 p) {j : Int} (h : 0 ≤ j ∧ j < 2) : m 9 (27 + j).toNat = p 5 j.toNat := by
  rw [← (hm.2.2.2 j.toNat (by omega)).2.1]
  congr 1
  omega
theorem tl_6 (hm : tlR (m 9) 0 p) {j : Int} (h : 0 ≤ j ∧ j < 2) : m 9 (29 + j).toNat = p 6 j.toNat := by
  rw [← (hm.2.2.2 j.toNat (by omega)).2.2.1]
  congr 1
  omega
theorem tl_7 (hm : tlR (m 9) 0 p) {j : Int} (h : 0 ≤ j ∧ j < 2) : m 9 (31 + j).toNat = p 7 j.toNat := by
  rw [← (hm.2.2.2 j.toNat (by omega)).2.2.2]
  congr 1
  omega
end TL
theorem z_Mcells (d : Nat) (hN : 60 ≤ N) (hm : tlR (σ 10 9) 0 p) : rz_dM (d + 1) iM_cells [.ref (bs 10)] (wOf N σ) = some (some (.int (zI (p 8 0 * p 9 0))), wOf N σ) := by
  have e0 := tl_W hm
  have e1 := tl_H hm
  simp (disch := first | omega | exact Nat.le_of_ble_eq_true rfl) only [e_M_cells, s_M_cells_0, s_M_cells_1, s_M_cells_4, s_M_cells_5, s_M_cells_6, s_M_cells_7, s_M_cells_10, s_M_cells_11, s_M_cells_12, s_M_cells_13, Option.bind_some, Option.bind_none, Option.toList_some, Option.toList_none, List.cons_append, List.nil_append, if_true, if_false, rz_clr, true_or, or_true, z00, z11, bZ_eq0, bZ_eq1, nor_self, if_pos, if_neg, zI_add, zI_sub, zI_mul, zI_neg, zI_lt, zI_le, zI_eq, c_M, f_M_0, u_M_0, f_M_1, u_M_1, f_M_2, l_M_2, r_M_2, w_M_2, f_M_3, u_M_3, f_M_4, u_M_4, f_M_5, u_M_5, f_M_6, u_M_6, f_M_7, u_M_7, f_M_8, u_M_8, f_M_9, l_M_9, r_M_9, w_M_9, f_M_10, l_M_10, r_M_10, w_M_10, f_M_11, l_M_11, r_M_11, w_M_11, f_M_12, l_M_12, r_M_12, w_M_12, f_M_13, l_M_13, r_M_13, w_M_13, f_M_14, l_M_14, r_M_14, w_M_14, f_M_15, l_M_15, r_M_15, w_M_15, f_M_16, l_M_16, r_M_16, w_M_16, f_M_17, l_M_17, r_M_17, w_M_17, f_M_18, l_M_18, r_M_18, w_M_18, e0, e1]
theorem z_Mleads (d : Nat) (hN : 60 ≤ N) (hm : tlR (σ 10 9) 0 p) (hw : wfP p) (hl : lkP p) {l c k : Nat} (h3 : l < 3) (hc : (c : Int) < p 8 0 * p 9 0) (hk : k < 8) : rz_dM (d + 2) iM_leads [.ref (bs 10), .int (zI l), .int (zI c), .int (zI k)] (wOf N σ) = some (some (.int (zI (ldP p l c k))), wOf N σ) := by
  have ha := wfP_area hw
  obtain ⟨⟨w1, w2, w3, w4, w5, w6⟩, wc, wl, -⟩ := id hw
  have e0 := tl_W hm
  have e1 := tl_H hm
  have e2 := tl_L hm
  obtain ⟨W, hW⟩ : ∃ W : Nat, p 8 0 = W := ⟨(p 8 0).toNat, by omega⟩
  have hne := ne0_w W (by omega) (by omega)
  have hdv := div_wc c (by omega) W (by omega) (by omega)
  unfold ldP
  by_cases q0 : (l : Int) < p 10 0
  · rw [if_pos ⟨by omega, q0⟩, hl l c (by omega) q0 (by omega) hc k hk, Int.toNat_natCast]
    obtain ⟨f1, f2, f3, f4⟩ := wl l q0
    obtain ⟨wy, ey⟩ : ∃ n : Nat, p 2 l = n := ⟨(p 2 l).toNat, by omega⟩
    have ew := tl_way hm q0 (i := 19 + 2 * (l : Int) + 1) (by omega)
    have ef := tl_far hm q0 (i := 19 + 2 * (l : Int)) rfl
    have hsh := z_shr (b := wy) (i := k) (by omega) (by omega)
    have hand := z_and1 (wy / 2 ^ k) (Nat.lt_of_le_of_lt (Nat.div_le_self _ _) (by omega))
    rw [tb_div] at hand
    obtain ⟨r1, r2, r3, r4⟩ := rx_rg k hk
    have b1 := far_rg ⟨f1, f2⟩ ⟨r1, r2⟩
    have b2 := far_rg ⟨f1, f2⟩ ⟨r3, r4⟩
    obtain ⟨as1, as2⟩ := asd_rx k hk
    have hA1 := fun w => z_aside d (k := k) (by omega) w
    have hA2 := fun w => z_aside d (k := k + 6) (by omega) w
    rw [as1] at hA1
    simp only [as2, Int.natCast_add, show ((6 : Nat) : Int) = 6 from rfl] at hA2
    have em : (c : Int) - ((c / W : Nat) : Int) * W = (c : Int) % p 8 0 := by
      rw [hW, Int.natCast_ediv, Int.emod_def, Int.mul_comm]
    have ed : ((c / W : Nat) : Int) = (c : Int) / p 8 0 := by rw [hW, Int.natCast_ediv]
    have hx0 : 0 ≤ (c : Int) % p 8 0 ∧ (c : Int) % p 8 0 < p 8 0 := ⟨Int.emod_nonneg _ (by omega), Int.emod_lt_of_pos _ (by omega)⟩
    have hy0 : 0 ≤ (c : Int) / p 8 0 ∧ (c : Int) / p 8 0 ≤ c := ⟨Int.ediv_nonneg (by omega) (by omega), Int.ediv_le_self _ (by omega)⟩
    rw [← hW] at hdv hne em
    rw [ed] at hdv em
    unfold rch
    rw [ey, Int.toNat_natCast]
    generalize (c : Int) % p 8 0 = x at em hx0
    generalize (c : Int) / p 8 0 = y at em hy0 hdv ed
    by_cases q1 : wy.testBit k = true
    · rw [if_pos q1] at hand
      by_cases q2 : 0 ≤ x + p 1 l * rx k ∧ x + p 1 l * rx k < p 8 0
      · have q2' : 0 ≤ x + p 1 l * rx k ∧ x + p 1 l * rx k ≤ p 8 0 - 1 := by omega
        by_cases q3 : 0 ≤ y + p 1 l * ry k ∧ y + p 1 l * ry k < p 9 0
        · have q3' : 0 ≤ y + p 1 l * ry k ∧ y + p 1 l * ry k ≤ p 9 0 - 1 := by omega
          have b3 := idx_lt ⟨w1, w2⟩ q2 q3 w4
          have b4 := wc (p 8 0 * (y + p 1 l * ry k) + (x + p 1 l * rx k)).toNat (by omega)
          have ek := tl_cell hm (i := 3 + p 8 0 * (y + p 1 l * ry k) + (x + p 1 l * rx k)) (by omega)
          rw [show 3 + p 8 0 * (y + p 1 l * ry k) + (x + p 1 l * rx k) - 3 = p 8 0 * (y + p 1 l * ry k) + (x + p 1 l * rx k) by omega] at ek
          by_cases q4 : p 0 (p 8 0 * (y + p 1 l * ry k) + (x + p 1 l * rx k)).toNat = 3
          · rw [if_neg (fun z => z.2.2.2 q4)]
            simp (disch := first | omega | exact Nat.le_of_ble_eq_true rfl) only [e_M_leads, s_M_leads_0, s_M_leads_1, s_M_leads_2, s_M_leads_5, s_M_leads_6, s_M_leads_7, s_M_leads_10, s_M_leads_11, s_M_leads_14, s_M_leads_16, s_M_leads_17, s_M_leads_18, s_M_leads_19, s_M_leads_20, s_M_leads_21, s_M_leads_22, s_M_leads_23, s_M_leads_24, s_M_leads_25, s_M_leads_26, s_M_leads_27, s_M_leads_30, s_M_leads_32, s_M_leads_33, s_M_leads_34, s_M_leads_35, s_M_leads_38, s_M_leads_39, s_M_leads_40, s_M_leads_41, s_M_leads_42, s_M_leads_45, s_M_leads_47, s_M_leads_48, s_M_leads_49, s_M_leads_50, s_M_leads_51, s_M_leads_52, s_M_leads_53, s_M_leads_56, s_M_leads_57, s_M_leads_58, s_M_leads_60, s_M_leads_61, s_M_leads_62, s_M_leads_65, s_M_leads_66, s_M_leads_67, s_M_leads_68, s_M_leads_69, s_M_leads_72, s_M_leads_74, s_M_leads_75, s_M_leads_76, s_M_leads_77, s_M_leads_78, s_M_leads_79, s_M_leads_80, s_M_leads_82, s_M_leads_83, s_M_leads_86, s_M_leads_87, s_M_leads_88, s_M_leads_90, s_M_leads_92, s_M_leads_93, s_M_leads_94, s_M_leads_97, s_M_leads_98, s_M_leads_99, s_M_leads_100, s_M_leads_101, s_M_leads_104, s_M_leads_107, s_M_leads_109, s_M_leads_110, s_M_leads_111, s_M_leads_114, s_M_leads_115, s_M_leads_116, s_M_leads_117, s_M_leads_118, s_M_leads_121, s_M_leads_124, s_M_leads_125, s_M_leads_128, s_M_leads_129, s_M_leads_130, s_M_leads_133, s_M_leads_134, s_M_leads_135, s_M_leads_137, s_M_leads_138, s_M_leads_139, s_M_leads_141, s_M_leads_142, s_M_leads_143, s_M_leads_144, s_M_leads_147, s_M_leads_148, s_M_leads_151, s_M_leads_152, s_M_leads_154, s_M_leads_156, s_M_leads_159, s_M_leads_160, s_M_leads_163, s_M_leads_164, s_M_leads_165, s_M_leads_167, s_M_leads_168, s_M_leads_170, s_M_leads_171, s_M_leads_174, s_M_leads_176, Option.bind_some, Option.bind_none, Option.toList_some, Option.toList_none, List.cons_append, List.nil_append, if_true, if_false, rz_clr, true_or, or_true, z00, z11, bZ_eq0, bZ_eq1, nor_self, if_pos, if_neg, zI_add, zI_sub, zI_mul, zI_neg, zI_lt, zI_le, zI_eq, c_M, f_M_0, u_M_0, f_M_1, u_M_1, f_M_2, l_M_2, r_M_2, w_M_2, f_M_3, u_M_3, f_M_4, u_M_4, f_M_5, u_M_5, f_M_6, u_M_6, f_M_7, u_M_7, f_M_8, u_M_8, f_M_9, l_M_9, r_M_9, w_M_9, f_M_10, l_M_10, r_M_10, w_M_10, f_M_11, l_M_11, r_M_11, w_M_11, f_M_12, l_M_12, r_M_12, w_M_12, f_M_13, l_M_13, r_M_13, w_M_13, f_M_14, l_M_14, r_M_14, w_M_14, f_M_15, l_M_15, r_M_15, w_M_15, f_M_16, l_M_16, r_M_16, w_M_16, f_M_17, l_M_17, r_M_17, w_M_17, f_M_18, l_M_18, r_M_18, w_M_18, e0, e1, e2, ew, ef, ey, hsh, hand, hne, hdv, em, ed, hA1, hA2, z_Min, bZ_pos q2', bZ_pos q3', ek, q4]
          · rw [if_pos ⟨q1, q2, q3, q4⟩]
            simp (disch := first | omega | exact Nat.le_of_ble_eq_true rfl) only [e_M_leads, s_M_leads_0, s_M_leads_1, s_M_leads_2, s_M_leads_5, s_M_leads_6, s_M_leads_7, s_M_leads_10, s_M_leads_11, s_M_leads_14, s_M_leads_16, s_M_leads_17, s_M_leads_18, s_M_leads_19, s_M_leads_20, s_M_leads_21, s_M_leads_22, s_M_leads_23, s_M_leads_24, s_M_leads_25, s_M_leads_26, s_M_leads_27, s_M_leads_30, s_M_leads_32, s_M_leads_33, s_M_leads_34, s_M_leads_35, s_M_leads_38, s_M_leads_39, s_M_leads_40, s_M_leads_41, s_M_leads_42, s_M_leads_45, s_M_leads_47, s_M_leads_48, s_M_leads_49, s_M_leads_50, s_M_leads_51, s_M_leads_52, s_M_leads_53, s_M_leads_56, s_M_leads_57, s_M_leads_58, s_M_leads_60, s_M_leads_61, s_M_leads_62, s_M_leads_65, s_M_leads_66, s_M_leads_67, s_M_leads_68, s_M_leads_69, s_M_leads_72, s_M_leads_74, s_M_leads_75, s_M_leads_76, s_M_leads_77, s_M_leads_78, s_M_leads_79, s_M_leads_80, s_M_leads_82, s_M_leads_83, s_M_leads_86, s_M_leads_87, s_M_leads_88, s_M_leads_90, s_M_leads_92, s_M_leads_93, s_M_leads_94, s_M_leads_97, s_M_leads_98, s_M_leads_99, s_M_leads_100, s_M_leads_101, s_M_leads_104, s_M_leads_107, s_M_leads_109, s_M_leads_110, s_M_leads_111, s_M_leads_114, s_M_leads_115, s_M_leads_116, s_M_leads_117, s_M_leads_118, s_M_leads_121, s_M_leads_124, s_M_leads_125, s_M_leads_128, s_M_leads_129, s_M_leads_130, s_M_leads_133, s_M_leads_134, s_M_leads_135, s_M_leads_137, s_M_leads_138, s_M_leads_139, s_M_leads_141, s_M_leads_142, s_M_leads_143, s_M_leads_144, s_M_leads_147, s_M_leads_148, s_M_leads_151, s_M_leads_152, s_M_leads_154, s_M_leads_156, s_M_leads_159, s_M_leads_160, s_M_leads_163, s_M_leads_164, s_M_leads_165, s_M_leads_167, s_M_leads_168, s_M_leads_170, s_M_leads_171, s_M_leads_174, s_M_leads_176, Option.bind_some, Option.bind_none, Option.toList_some, Option.toList_none, List.cons_append, List.nil_append, if_true, if_false, rz_clr, true_or, or_true, z00, z11, bZ_eq0, bZ_eq1, nor_self, if_pos, if_neg, zI_add, zI_sub, zI_mul, zI_neg, zI_lt, zI_le, zI_eq, c_M, f_M_0, u_M_0, f_M_1, u_M_1, f_M_2, l_M_2, r_M_2, w_M_2, f_M_3, u_M_3, f_M_4, u_M_4, f_M_5, u_M_5, f_M_6, u_M_6, f_M_7, u_M_7, f_M_8, u_M_8, f_M_9, l_M_9, r_M_9, w_M_9, f_M_10, l_M_10, r_M_10, w_M_10, f_M_11, l_M_11, r_M_11, w_M_11, f_M_12, l_M_12, r_M_12, w_M_12, f_M_13, l_M_13, r_M_13, w_M_13, f_M_14, l_M_14, r_M_14, w_M_14, f_M_15, l_M_15, r_M_15, w_M_15, f_M_16, l_M_16, r_M_16, w_M_16, f_M_17, l_M_17, r_M_17, w_M_17, f_M_18, l_M_18, r_M_18, w_M_18, e0, e1, e2, ew, ef, ey, hsh, hand, hne, hdv, em, ed, hA1, hA2, z_Min, bZ_pos q2', bZ_pos q3', ek, q4]
        · have q3' : ¬ (0 ≤ y + p 1 l * ry k ∧ y + p 1 l * ry k ≤ p 9 0 - 1) := by omega
          rw [if_neg (fun z => q3 z.2.2.1)]
          simp (disch := first | omega | exact Nat.le_of_ble_eq_true rfl) only [e_M_leads, s_M_leads_0, s_M_leads_1, s_M_leads_2, s_M_leads_5, s_M_leads_6, s_M_leads_7, s_M_leads_10, s_M_leads_11, s_M_leads_14, s_M_leads_16, s_M_leads_17, s_M_leads_18, s_M_leads_19, s_M_leads_20, s_M_leads_21, s_M_leads_22, s_M_leads_23, s_M_leads_24, s_M_leads_25, s_M_leads_26, s_M_leads_27, s_M_leads_30, s_M_leads_32, s_M_leads_33, s_M_leads_34, s_M_leads_35, s_M_leads_38, s_M_leads_39, s_M_leads_40, s_M_leads_41, s_M_leads_42, s_M_leads_45, s_M_leads_47, s_M_leads_48, s_M_leads_49, s_M_leads_50, s_M_leads_51, s_M_leads_52, s_M_leads_53, s_M_leads_56, s_M_leads_57, s_M_leads_58, s_M_leads_60, s_M_leads_61, s_M_leads_62, s_M_leads_65, s_M_leads_66, s_M_leads_67, s_M_leads_68, s_M_leads_69, s_M_leads_72, s_M_leads_74, s_M_leads_75, s_M_leads_76, s_M_leads_77, s_M_leads_78, s_M_leads_79, s_M_leads_80, s_M_leads_82, s_M_leads_83, s_M_leads_86, s_M_leads_87, s_M_leads_88, s_M_leads_90, s_M_leads_92, s_M_leads_93, s_M_leads_94, s_M_leads_97, s_M_leads_98, s_M_leads_99, s_M_leads_100, s_M_leads_101, s_M_leads_104, s_M_leads_107, s_M_leads_109, s_M_leads_110, s_M_leads_111, s_M_leads_114, s_M_leads_115, s_M_leads_116, s_M_leads_117, s_M_leads_118, s_M_leads_121, s_M_leads_124, s_M_leads_125, s_M_leads_128, s_M_leads_129, s_M_leads_130, s_M_leads_133, s_M_leads_134, s_M_leads_135, s_M_leads_137, s_M_leads_138, s_M_leads_139, s_M_leads_141, s_M_leads_142, s_M_leads_143, s_M_leads_144, s_M_leads_147, s_M_leads_148, s_M_leads_151, s_M_leads_152, s_M_leads_154, s_M_leads_156, s_M_leads_159, s_M_leads_160, s_M_leads_163, s_M_leads_164, s_M_leads_165, s_M_leads_167, s_M_leads_168, s_M_leads_170, s_M_leads_171, s_M_leads_174, s_M_leads_176, Option.bind_some, Option.bind_none, Option.toList_some, Option.toList_none, List.cons_append, List.nil_append, if_true, if_false, rz_clr, true_or, or_true, z00, z11, bZ_eq0, bZ_eq1, nor_self, if_pos, if_neg, zI_add, zI_sub, zI_mul, zI_neg, zI_lt, zI_le, zI_eq, c_M, f_M_0, u_M_0, f_M_1, u_M_1, f_M_2, l_M_2, r_M_2, w_M_2, f_M_3, u_M_3, f_M_4, u_M_4, f_M_5, u_M_5, f_M_6, u_M_6, f_M_7, u_M_7, f_M_8, u_M_8, f_M_9, l_M_9, r_M_9, w_M_9, f_M_10, l_M_10, r_M_10, w_M_10, f_M_11, l_M_11, r_M_11, w_M_11, f_M_12, l_M_12, r_M_12, w_M_12, f_M_13, l_M_13, r_M_13, w_M_13, f_M_14, l_M_14, r_M_14, w_M_14, f_M_15, l_M_15, r_M_15, w_M_15, f_M_16, l_M_16, r_M_16, w_M_16, f_M_17, l_M_17, r_M_17, w_M_17, f_M_18, l_M_18, r_M_18, w_M_18, e0, e1, e2, ew, ef, ey, hsh, hand, hne, hdv, em, ed, hA1, hA2, z_Min, bZ_pos q2', bZ_neg q3']
      · have q2' : ¬ (0 ≤ x + p 1 l * rx k ∧ x + p 1 l * rx k ≤ p 8 0 - 1) := by omega
        rw [if_neg (fun z => q2 z.2.1)]
        simp (disch := first | omega | exact Nat.le_of_ble_eq_true rfl) only [e_M_leads, s_M_leads_0, s_M_leads_1, s_M_leads_2, s_M_leads_5, s_M_leads_6, s_M_leads_7, s_M_leads_10, s_M_leads_11, s_M_leads_14, s_M_leads_16, s_M_leads_17, s_M_leads_18, s_M_leads_19, s_M_leads_20, s_M_leads_21, s_M_leads_22, s_M_leads_23, s_M_leads_24, s_M_leads_25, s_M_leads_26, s_M_leads_27, s_M_leads_30, s_M_leads_32, s_M_leads_33, s_M_leads_34, s_M_leads_35, s_M_leads_38, s_M_leads_39, s_M_leads_40, s_M_leads_41, s_M_leads_42, s_M_leads_45, s_M_leads_47, s_M_leads_48, s_M_leads_49, s_M_leads_50, s_M_leads_51, s_M_leads_52, s_M_leads_53, s_M_leads_56, s_M_leads_57, s_M_leads_58, s_M_leads_60, s_M_leads_61, s_M_leads_62, s_M_leads_65, s_M_leads_66, s_M_leads_67, s_M_leads_68, s_M_leads_69, s_M_leads_72, s_M_leads_74, s_M_leads_75, s_M_leads_76, s_M_leads_77, s_M_leads_78, s_M_leads_79, s_M_leads_80, s_M_leads_82, s_M_leads_83, s_M_leads_86, s_M_leads_87, s_M_leads_88, s_M_leads_90, s_M_leads_92, s_M_leads_93, s_M_leads_94, s_M_leads_97, s_M_leads_98, s_M_leads_99, s_M_leads_100, s_M_leads_101, s_M_leads_104, s_M_leads_107, s_M_leads_109, s_M_leads_110, s_M_leads_111, s_M_leads_114, s_M_leads_115, s_M_leads_116, s_M_leads_117, s_M_leads_118, s_M_leads_121, s_M_leads_124, s_M_leads_125, s_M_leads_128, s_M_leads_129, s_M_leads_130, s_M_leads_133, s_M_leads_134, s_M_leads_135, s_M_leads_137, s_M_leads_138, s_M_leads_139, s_M_leads_141, s_M_leads_142, s_M_leads_143, s_M_leads_144, s_M_leads_147, s_M_leads_148, s_M_leads_151, s_M_leads_152, s_M_leads_154, s_M_leads_156, s_M_leads_159, s_M_leads_160, s_M_leads_163, s_M_leads_164, s_M_leads_165, s_M_leads_167, s_M_leads_168, s_M_leads_170, s_M_leads_171, s_M_leads_174, s_M_leads_176, Option.bind_some, Option.bind_none, Option.toList_some, Option.toList_none, List.cons_append, List.nil_append, if_true, if_false, rz_clr, true_or, or_true, z00, z11, bZ_eq0, bZ_eq1, nor_self, if_pos, if_neg, zI_add, zI_sub, zI_mul, zI_neg, zI_lt, zI_le, zI_eq, c_M, f_M_0, u_M_0, f_M_1, u_M_1, f_M_2, l_M_2, r_M_2, w_M_2, f_M_3, u_M_3, f_M_4, u_M_4, f_M_5, u_M_5, f_M_6, u_M_6, f_M_7, u_M_7, f_M_8, u_M_8, f_M_9, l_M_9, r_M_9, w_M_9, f_M_10, l_M_10, r_M_10, w_M_10, f_M_11, l_M_11, r_M_11, w_M_11, f_M_12, l_M_12, r_M_12, w_M_12, f_M_13, l_M_13, r_M_13, w_M_13, f_M_14, l_M_14, r_M_14, w_M_14, f_M_15, l_M_15, r_M_15, w_M_15, f_M_16, l_M_16, r_M_16, w_M_16, f_M_17, l_M_17, r_M_17, w_M_17, f_M_18, l_M_18, r_M_18, w_M_18, e0, e1, e2, ew, ef, ey, hsh, hand, hne, hdv, em, ed, hA1, hA2, z_Min, bZ_neg q2']
    · rw [if_neg q1] at hand
      rw [if_neg (fun z => q1 z.1)]
      simp (disch := first | omega | exact Nat.le_of_ble_eq_true rfl) only [e_M_leads, s_M_leads_0, s_M_leads_1, s_M_leads_2, s_M_leads_5, s_M_leads_6, s_M_leads_7, s_M_leads_10, s_M_leads_11, s_M_leads_14, s_M_leads_16, s_M_leads_17, s_M_leads_18, s_M_leads_19, s_M_leads_20, s_M_leads_21, s_M_leads_22, s_M_leads_23, s_M_leads_24, s_M_leads_25, s_M_leads_26, s_M_leads_27, s_M_leads_30, s_M_leads_32, s_M_leads_33, s_M_leads_34, s_M_leads_35, s_M_leads_38, s_M_leads_39, s_M_leads_40, s_M_leads_41, s_M_leads_42, s_M_leads_45, s_M_leads_47, s_M_leads_48, s_M_leads_49, s_M_leads_50, s_M_leads_51, s_M_leads_52, s_M_leads_53, s_M_leads_56, s_M_leads_57, s_M_leads_58, s_M_leads_60, s_M_leads_61, s_M_leads_62, s_M_leads_65, s_M_leads_66, s_M_leads_67, s_M_leads_68, s_M_leads_69, s_M_leads_72, s_M_leads_74, s_M_leads_75, s_M_leads_76, s_M_leads_77, s_M_leads_78, s_M_leads_79, s_M_leads_80, s_M_leads_82, s_M_leads_83, s_M_leads_86, s_M_leads_87, s_M_leads_88, s_M_leads_90, s_M_leads_92, s_M_leads_93, s_M_leads_94, s_M_leads_97, s_M_leads_98, s_M_leads_99, s_M_leads_100, s_M_leads_101, s_M_leads_104, s_M_leads_107, s_M_leads_109, s_M_leads_110, s_M_leads_111, s_M_leads_114, s_M_leads_115, s_M_leads_116, s_M_leads_117, s_M_leads_118, s_M_leads_121, s_M_leads_124, s_M_leads_125, s_M_leads_128, s_M_leads_129, s_M_leads_130, s_M_leads_133, s_M_leads_134, s_M_leads_135, s_M_leads_137, s_M_leads_138, s_M_leads_139, s_M_leads_141, s_M_leads_142, s_M_leads_143, s_M_leads_144, s_M_leads_147, s_M_leads_148, s_M_leads_151, s_M_leads_152, s_M_leads_154, s_M_leads_156, s_M_leads_159, s_M_leads_160, s_M_leads_163, s_M_leads_164, s_M_leads_165, s_M_leads_167, s_M_leads_168, s_M_leads_170, s_M_leads_171, s_M_leads_174, s_M_leads_176, Option.bind_some, Option.bind_none, Option.toList_some, Option.toList_none, List.cons_append, List.nil_append, if_true, if_false, rz_clr, true_or, or_true, z00, z11, bZ_eq0, bZ_eq1, nor_self, if_pos, if_neg, zI_add, zI_sub, zI_mul, zI_neg, zI_lt, zI_le, zI_eq, c_M, f_M_0, u_M_0, f_M_1, u_M_1, f_M_2, l_M_2, r_M_2, w_M_2, f_M_3, u_M_3, f_M_4, u_M_4, f_M_5, u_M_5, f_M_6, u_M_6, f_M_7, u_M_7, f_M_8, u_M_8, f_M_9, l_M_9, r_M_9, w_M_9, f_M_10, l_M_10, r_M_10, w_M_10, f_M_11, l_M_11, r_M_11, w_M_11, f_M_12, l_M_12, r_M_12, w_M_12, f_M_13, l_M_13, r_M_13, w_M_13, f_M_14, l_M_14, r_M_14, w_M_14, f_M_15, l_M_15, r_M_15, w_M_15, f_M_16, l_M_16, r_M_16, w_M_16, f_M_17, l_M_17, r_M_17, w_M_17, f_M_18, l_M_18, r_M_18, w_M_18, e0, e1, e2, ew, ef, ey, hsh, hand]
      try rfl
  · rw [if_neg (fun z => q0 z.2)]
    simp (disch := first | omega | exact Nat.le_of_ble_eq_true rfl) only [e_M_leads, s_M_leads_0, s_M_leads_1, s_M_leads_2, s_M_leads_5, s_M_leads_6, s_M_leads_7, s_M_leads_10, s_M_leads_11, s_M_leads_14, s_M_leads_16, s_M_leads_17, s_M_leads_18, s_M_leads_19, s_M_leads_20, s_M_leads_21, s_M_leads_22, s_M_leads_23, s_M_leads_24, s_M_leads_25, s_M_leads_26, s_M_leads_27, s_M_leads_30, s_M_leads_32, s_M_leads_33, s_M_leads_34, s_M_leads_35, s_M_leads_38, s_M_leads_39, s_M_leads_40, s_M_leads_41, s_M_leads_42, s_M_leads_45, s_M_leads_47, s_M_leads_48, s_M_leads_49, s_M_leads_50, s_M_leads_51, s_M_leads_52, s_M_leads_53, s_M_leads_56, s_M_leads_57, s_M_leads_58, s_M_leads_60, s_M_leads_61, s_M_leads_62, s_M_leads_65, s_M_leads_66, s_M_leads_67, s_M_leads_68, s_M_leads_69, s_M_leads_72, s_M_leads_74, s_M_leads_75, s_M_leads_76, s_M_leads_77, s_M_leads_78, s_M_leads_79, s_M_leads_80, s_M_leads_82, s_M_leads_83, s_M_leads_86, s_M_leads_87, s_M_leads_88, s_M_leads_90, s_M_leads_92, s_M_leads_93, s_M_leads_94, s_M_leads_97, s_M_leads_98, s_M_leads_99, s_M_leads_100, s_M_leads_101, s_M_leads_104, s_M_leads_107, s_M_leads_109, s_M_leads_110, s_M_leads_111, s_M_leads_114, s_M_leads_115, s_M_leads_116, s_M_leads_117, s_M_leads_118, s_M_leads_121, s_M_leads_124, s_M_leads_125, s_M_leads_128, s_M_leads_129, s_M_leads_130, s_M_leads_133, s_M_leads_134, s_M_leads_135, s_M_leads_137, s_M_leads_138, s_M_leads_139, s_M_leads_141, s_M_leads_142, s_M_leads_143, s_M_leads_144, s_M_leads_147, s_M_leads_148, s_M_leads_151, s_M_leads_152, s_M_leads_154, s_M_leads_156, s_M_leads_159, s_M_leads_160, s_M_leads_163, s_M_leads_164, s_M_leads_165, s_M_leads_167, s_M_leads_168, s_M_leads_170, s_M_leads_171, s_M_leads_174, s_M_leads_176, Option.bind_some, Option.bind_none, Option.toList_some, Option.toList_none, List.cons_append, List.nil_append, if_true, if_false, rz_clr, true_or, or_true, z00, z11, bZ_eq0, bZ_eq1, nor_self, if_pos, if_neg, zI_add, zI_sub, zI_mul, zI_neg, zI_lt, zI_le, zI_eq, c_M, f_M_0, u_M_0, f_M_1, u_M_1, f_M_2, l_M_2, r_M_2, w_M_2, f_M_3, u_M_3, f_M_4, u_M_4, f_M_5, u_M_5, f_M_6, u_M_6, f_M_7, u_M_7, f_M_8, u_M_8, f_M_9, l_M_9, r_M_9, w_M_9, f_M_10, l_M_10, r_M_10, w_M_10, f_M_11, l_M_11, r_M_11, w_M_11, f_M_12, l_M_12, r_M_12, w_M_12, f_M_13, l_M_13, r_M_13, w_M_13, f_M_14, l_M_14, r_M_14, w_M_14, f_M_15, l_M_15, r_M_15, w_M_15, f_M_16, l_M_16, r_M_16, w_M_16, f_M_17, l_M_17, r_M_17, w_M_17, f_M_18, l_M_18, r_M_18, w_M_18, e2]
end MA
