-- the model: all positions reckoned, by so many steps
theorem pos_comp {a b l r w a' b' l' r' w' : Nat} (hb : b < 16) (hb' : b' < 16) (hl : l ≤ 2) (hl' : l' ≤ 2) (hr : r ≤ 2) (hr' : r' ≤ 2) (hw : w < 2) (hw' : w' < 2) (e : 2 * (3 * (3 * (16 * a + b) + l) + r) + w = 2 * (3 * (3 * (16 * a' + b') + l') + r') + w') : a = a' ∧ b = b' ∧ l = l' ∧ r = r' ∧ w = w' := by
  have e1 : w = w' ∧ 3 * (3 * (16 * a + b) + l) + r = 3 * (3 * (16 * a' + b') + l') + r' := by
    generalize 3 * (3 * (16 * a + b) + l) + r = X at *
    generalize 3 * (3 * (16 * a' + b') + l') + r' = Y at *
    omega
  obtain ⟨e1, e2⟩ := e1
  have e3 : r = r' ∧ 3 * (16 * a + b) + l = 3 * (16 * a' + b') + l' := by
    generalize 3 * (16 * a + b) + l = X at *
    generalize 3 * (16 * a' + b') + l' = Y at *
    omega
  obtain ⟨e3, e4⟩ := e3
  have e5 : l = l' ∧ 16 * a + b = 16 * a' + b' := by
    generalize 16 * a + b = X at *
    generalize 16 * a' + b' = Y at *
    omega
  obtain ⟨e5, e6⟩ := e5
  exact ⟨by omega, by omega, e5, e3, e1⟩
theorem posK_inj {p : zP} {K K' : Nat} (h : vK p K) (h' : vK p K') (e : posK K = posK K') : K = K' := by
  have a1 := cl_lt K 1
  have a2 := cl_lt K' 1
  have t1 := tl_lt K
  have t2 := tl_lt K'
  have s1 := key_sum h.1
  have s2 := key_sum h'.1
  obtain ⟨-, l0, l1, -, -⟩ := h
  obtain ⟨-, l0', l1', -, -⟩ := h'
  have q : cl K 0 = cl K' 0 ∧ cl K 1 = cl K' 1 ∧ lf K 0 = lf K' 0 ∧ lf K 1 = lf K' 1 ∧ tl K = tl K' := by
    unfold posK at e
    exact pos_comp a1 a2 l0 l0' l1 l1' t1 t2 e
  obtain ⟨q0, q1, q2, q3, q4⟩ := q
  have m1 : K % 256 = cl K 0 + 16 * cl K 1 := by
    unfold cl
    rw [if_pos rfl, if_neg (by decide)]
    omega
  have m2 : K' % 256 = cl K' 0 + 16 * cl K' 1 := by
    unfold cl
    rw [if_pos rfl, if_neg (by decide)]
    omega
  rw [s1, s2, m1, m2, q0, q1, q2, q3, q4]
def mkK (a b l r w : Nat) : Nat := a + 16 * b + 256 * l + 1024 * r + 4096 * w
theorem mkK_f {a b l r w : Nat} (ha : a < 16) (hb : b < 16) (hl : l < 4) (hr : r < 4) (hw : w < 2) : mkK a b l r w < 8192 ∧ cl (mkK a b l r w) 0 = a ∧ cl (mkK a b l r w) 1 = b ∧ lf (mkK a b l r w) 0 = l ∧ lf (mkK a b l r w) 1 = r ∧ tl (mkK a b l r w) = w := by
  unfold cl lf tl mkK
  rw [if_pos rfl, if_neg (by decide), if_pos rfl, if_neg (by decide)]
  omega
theorem dv18 : ∀ r : Nat, r < 18 → zI (r : Int) / zI 6 = zI ((r / 6 : Nat) : Int) ∧ zI (r : Int) / zI 2 = zI ((r / 2 : Nat) : Int) ∧ zI ((r / 2 : Nat) : Int) / zI 3 = zI ((r / 2 / 3 : Nat) : Int) ∧ zI ((r / 2 : Nat) : Int) - zI ((r / 2 / 3 : Nat) : Int) * zI 3 = zI ((r / 2 % 3 : Nat) : Int) ∧ zI (r : Int) - zI ((r / 2 : Nat) : Int) * zI 2 = zI ((r % 2 : Nat) : Int) := by decide +kernel
theorem ne623 : ¬ zI 6 = 0 ∧ ¬ zI 2 = 0 ∧ ¬ zI 3 = 0 := by decide
section MQ1
variable {N : Nat} {σ : zS} {p : zP} {la hm V : Nat → Int}
def dnA (p : zP) (W : Nat → Int) (i : Nat) (m : zP) : Prop := ∀ K, vK p K → posK K < i → m 13 (posK K) = W K
theorem z_Mrk_E (d : Nat) (hN : 60 ≤ N) (hw : wfP p) (hl : lkP p) {m0 : zP} (hQ : MGQ m0 p la hm V) {a b : Nat} (ha : (a : Int) < p 8 0 * p 9 0) (hb : (b : Int) < p 8 0 * p 9 0) (x1 x2 : Int32) : ∀ (n r : Nat), n + r = 18 → ∀ m, sm [13, 17, 18] m0 m → dnA p (fun K => mostF p la hm V K (-9)) (18 * (16 * a + b) + r) m → ∃ m', rz_den (rz_dM (d + 5)) (rz_at tb_X5_reckons) none 54 [some (.ref (bs 10)), some (.int x1), some (.int x2), some (.int (zI a)), some (.int (zI b)), some (.int (zI r))] [] (wOf N (gset σ 10 m)) = rz_den (rz_dM (d + 5)) (rz_at tb_X5_reckons) none 106 [some (.ref (bs 10)), some (.int x1), some (.int x2), some (.int (zI a)), some (.int (zI b)), some (.int (zI 18))] [] (wOf N (gset σ 10 m')) ∧ sm [13, 17, 18] m0 m' ∧ dnA p (fun K => mostF p la hm V K (-9)) (18 * (16 * a + b) + 18) m' := by
  have har := wfP_area hw
  obtain ⟨n6, n2, n3⟩ := ne623
  intro n
  induction n with
  | zero =>
    intro r hr m hs hd
    obtain rfl : r = 18 := by omega
    refine ⟨m, ?_, hs, hd⟩
    rw [s_M_reckons_54]
    simp (disch := first | omega | exact Nat.le_of_ble_eq_true rfl) only [e_M_reckons, s_M_reckons_0, s_M_reckons_1, s_M_reckons_3, s_M_reckons_6, s_M_reckons_9, s_M_reckons_10, s_M_reckons_13, s_M_reckons_14, s_M_reckons_15, s_M_reckons_16, s_M_reckons_19, s_M_reckons_22, s_M_reckons_23, s_M_reckons_25, s_M_reckons_26, s_M_reckons_29, s_M_reckons_30, s_M_reckons_32, s_M_reckons_33, s_M_reckons_36, s_M_reckons_39, s_M_reckons_40, s_M_reckons_44, s_M_reckons_45, s_M_reckons_48, s_M_reckons_51, s_M_reckons_52, s_M_reckons_56, s_M_reckons_58, s_M_reckons_61, s_M_reckons_62, s_M_reckons_65, s_M_reckons_66, s_M_reckons_68, s_M_reckons_69, s_M_reckons_70, s_M_reckons_71, s_M_reckons_74, s_M_reckons_76, s_M_reckons_77, s_M_reckons_78, s_M_reckons_79, s_M_reckons_81, s_M_reckons_83, s_M_reckons_85, s_M_reckons_86, s_M_reckons_88, s_M_reckons_89, s_M_reckons_90, s_M_reckons_91, s_M_reckons_92, s_M_reckons_94, s_M_reckons_95, s_M_reckons_96, s_M_reckons_99, s_M_reckons_100, s_M_reckons_103, s_M_reckons_109, s_M_reckons_112, s_M_reckons_115, s_M_reckons_118, s_M_reckons_119, s_M_reckons_121, s_M_reckons_124, s_M_reckons_127, s_M_reckons_128, s_M_reckons_131, s_M_reckons_132, s_M_reckons_133, s_M_reckons_136, s_M_reckons_137, s_M_reckons_138, s_M_reckons_139, s_M_reckons_142, s_M_reckons_145, s_M_reckons_148, s_M_reckons_151, Option.bind_some, Option.bind_none, Option.toList_some, Option.toList_none, List.cons_append, List.nil_append, if_true, if_false, rz_clr, true_or, or_true, z00, z11, bZ_eq0, bZ_eq1, nor_self, if_pos, if_neg, zI_add, zI_sub, zI_mul, zI_neg, zI_lt, zI_le, zI_eq]
    try rfl
  | succ n ih =>
    intro r hr m hs hd
    obtain ⟨k1, k2, k3, k4, k5, k6⟩ := mkK_f (a := a) (b := b) (l := r / 6) (r := r / 2 % 3) (w := r % 2) (by omega) (by omega) (by omega) (by omega) (by omega)
    obtain ⟨K, hKd⟩ : ∃ K, K = mkK a b (r / 6) (r / 2 % 3) (r % 2) := ⟨_, rfl⟩
    rw [← hKd] at k1 k2 k3 k4 k5 k6
    have hK : vK p K := ⟨k1, by omega, by omega, by rw [k2]; exact ha, by rw [k3]; exact hb⟩
    have hpk : posK K = 18 * (16 * a + b) + r := by unfold posK; rw [k2, k3, k4, k5, k6]; omega
    have hQm : MGQ m p la hm V := MGQ_sm hQ (sm_mono hs (by decide))
    obtain ⟨m1, h1, h2⟩ := z_MvalueOf (N := N) (σ := gset σ 10 m) d hN hw hl (by rw [gset_at]; exact hQm) hK
    rw [gset_at] at h2
    rw [gset_gset, k2, k3, k4, k5, k6] at h1
    obtain ⟨v1, v2, v3, v4, v5⟩ := dv18 r (by omega)
    have hpo := fun x => z_MpositionOf (d + 4) a b 0 0 0 x
    have e1 : (2 * (3 * (3 * (16 * (a : Int) + b) + 0) + 0) + 0 + r).toNat = posK K := by rw [hpk]; omega
    have hs1 : sm [13, 17, 18] m0 (pset m1 13 (zup (m1 13) (posK K) (mostF p la hm V K (-9)))) := sm_pset (sm_tr hs (sm_mono h2 (by decide))) (by decide)
    have hd1 : dnA p (fun K => mostF p la hm V K (-9)) (18 * (16 * a + b) + (r + 1)) (pset m1 13 (zup (m1 13) (posK K) (mostF p la hm V K (-9)))) := by
      intro K' hK' hlt
      rw [pset_eq]
      by_cases z : posK K' = posK K
      · have := posK_inj hK' hK z
        rw [this, zup_eq]
      · rw [zup_ne z, h2 13 (by decide)]
        exact hd K' hK' (by omega)
    obtain ⟨m', g1, g2, g3⟩ := ih (r + 1) (by omega) _ hs1 hd1
    simp only [Int.natCast_add, Int.natCast_one] at g1
    refine ⟨m', ?_, g2, g3⟩
    rw [s_M_reckons_54]
    simp (disch := first | omega | exact Nat.le_of_ble_eq_true rfl) only [e_M_reckons, s_M_reckons_0, s_M_reckons_1, s_M_reckons_3, s_M_reckons_6, s_M_reckons_9, s_M_reckons_10, s_M_reckons_13, s_M_reckons_14, s_M_reckons_15, s_M_reckons_16, s_M_reckons_19, s_M_reckons_22, s_M_reckons_23, s_M_reckons_25, s_M_reckons_26, s_M_reckons_29, s_M_reckons_30, s_M_reckons_32, s_M_reckons_33, s_M_reckons_36, s_M_reckons_39, s_M_reckons_40, s_M_reckons_44, s_M_reckons_45, s_M_reckons_48, s_M_reckons_51, s_M_reckons_52, s_M_reckons_56, s_M_reckons_58, s_M_reckons_61, s_M_reckons_62, s_M_reckons_65, s_M_reckons_66, s_M_reckons_68, s_M_reckons_69, s_M_reckons_70, s_M_reckons_71, s_M_reckons_74, s_M_reckons_76, s_M_reckons_77, s_M_reckons_78, s_M_reckons_79, s_M_reckons_81, s_M_reckons_83, s_M_reckons_85, s_M_reckons_86, s_M_reckons_88, s_M_reckons_89, s_M_reckons_90, s_M_reckons_91, s_M_reckons_92, s_M_reckons_94, s_M_reckons_95, s_M_reckons_96, s_M_reckons_99, s_M_reckons_100, s_M_reckons_103, s_M_reckons_109, s_M_reckons_112, s_M_reckons_115, s_M_reckons_118, s_M_reckons_119, s_M_reckons_121, s_M_reckons_124, s_M_reckons_127, s_M_reckons_128, s_M_reckons_131, s_M_reckons_132, s_M_reckons_133, s_M_reckons_136, s_M_reckons_137, s_M_reckons_138, s_M_reckons_139, s_M_reckons_142, s_M_reckons_145, s_M_reckons_148, s_M_reckons_151, Option.bind_some, Option.bind_none, Option.toList_some, Option.toList_none, List.cons_append, List.nil_append, if_true, if_false, rz_clr, true_or, or_true, z00, z11, bZ_eq0, bZ_eq1, nor_self, if_pos, if_neg, zI_add, zI_lt, zI_le, zI_eq, c_M, f_M_0, u_M_0, f_M_1, u_M_1, f_M_2, l_M_2, r_M_2, w_M_2, f_M_3, u_M_3, f_M_4, u_M_4, f_M_5, u_M_5, f_M_6, u_M_6, f_M_7, u_M_7, f_M_8, u_M_8, f_M_9, l_M_9, r_M_9, w_M_9, f_M_10, l_M_10, r_M_10, w_M_10, f_M_11, l_M_11, r_M_11, w_M_11, f_M_12, l_M_12, r_M_12, w_M_12, f_M_13, l_M_13, r_M_13, w_M_13, f_M_14, l_M_14, r_M_14, w_M_14, f_M_15, l_M_15, r_M_15, w_M_15, f_M_16, l_M_16, r_M_16, w_M_16, f_M_17, l_M_17, r_M_17, w_M_17, f_M_18, l_M_18, r_M_18, w_M_18, sset_eq, gset_at, gset_gset, gset_ne, pset_eq, pset_ne, hpo, n6, n2, n3, v1, v2, v3, v4, v5, h1, e1, g1]
theorem z_Mrk_D (d : Nat) (hN : 60 ≤ N) (hw : wfP p) (hl : lkP p) {m0 : zP} (hQ : MGQ m0 p la hm V) {ar : Nat} (hA : p 8 0 * p 9 0 = ar) {a : Nat} (ha : a < ar) (x1 x2 : Int32) : ∀ (n b : Nat), n + b = ar → ∀ m l5, sm [13, 17, 18] m0 m → dnA p (fun K => mostF p la hm V K (-9)) (18 * (16 * a + b)) m → ∃ m' l5', rz_den (rz_dM (d + 5)) (rz_at tb_X5_reckons) none 42 [some (.ref (bs 10)), some (.int x1), some (.int x2), some (.int (zI a)), some (.int (zI b)), l5] [] (wOf N (gset σ 10 m)) = rz_den (rz_dM (d + 5)) (rz_at tb_X5_reckons) none 112 [some (.ref (bs 10)), some (.int x1), some (.int x2), some (.int (zI a)), some (.int (zI ar)), l5'] [] (wOf N (gset σ 10 m')) ∧ sm [13, 17, 18] m0 m' ∧ dnA p (fun K => mostF p la hm V K (-9)) (18 * (16 * a + ar)) m' := by
  have har := wfP_area hw
  intro n
  induction n with
  | zero =>
    intro b hb m l5 hs hd
    obtain rfl : b = ar := by omega
    have hce := z_Mcells (N := N) (σ := gset σ 10 m) (d + 4) hN (p := p) (by rw [gset_at, hs 9 (by decide)]; exact hQ.1)
    rw [hA] at hce
    refine ⟨m, l5, ?_, hs, hd⟩
    rw [s_M_reckons_42]
    simp (disch := first | omega | exact Nat.le_of_ble_eq_true rfl) only [e_M_reckons, s_M_reckons_0, s_M_reckons_1, s_M_reckons_3, s_M_reckons_6, s_M_reckons_9, s_M_reckons_10, s_M_reckons_13, s_M_reckons_14, s_M_reckons_15, s_M_reckons_16, s_M_reckons_19, s_M_reckons_22, s_M_reckons_23, s_M_reckons_25, s_M_reckons_26, s_M_reckons_29, s_M_reckons_30, s_M_reckons_32, s_M_reckons_33, s_M_reckons_36, s_M_reckons_39, s_M_reckons_40, s_M_reckons_44, s_M_reckons_45, s_M_reckons_48, s_M_reckons_51, s_M_reckons_52, s_M_reckons_56, s_M_reckons_58, s_M_reckons_61, s_M_reckons_62, s_M_reckons_65, s_M_reckons_66, s_M_reckons_68, s_M_reckons_69, s_M_reckons_70, s_M_reckons_71, s_M_reckons_74, s_M_reckons_76, s_M_reckons_77, s_M_reckons_78, s_M_reckons_79, s_M_reckons_81, s_M_reckons_83, s_M_reckons_85, s_M_reckons_86, s_M_reckons_88, s_M_reckons_89, s_M_reckons_90, s_M_reckons_91, s_M_reckons_92, s_M_reckons_94, s_M_reckons_95, s_M_reckons_96, s_M_reckons_99, s_M_reckons_100, s_M_reckons_103, s_M_reckons_106, s_M_reckons_109, s_M_reckons_115, s_M_reckons_118, s_M_reckons_119, s_M_reckons_121, s_M_reckons_124, s_M_reckons_127, s_M_reckons_128, s_M_reckons_131, s_M_reckons_132, s_M_reckons_133, s_M_reckons_136, s_M_reckons_137, s_M_reckons_138, s_M_reckons_139, s_M_reckons_142, s_M_reckons_145, s_M_reckons_148, s_M_reckons_151, Option.bind_some, Option.bind_none, Option.toList_some, Option.toList_none, List.cons_append, List.nil_append, if_true, if_false, rz_clr, true_or, or_true, z00, z11, bZ_eq0, bZ_eq1, nor_self, if_pos, if_neg, zI_add, zI_sub, zI_mul, zI_neg, zI_lt, zI_le, zI_eq, c_M, f_M_0, u_M_0, f_M_1, u_M_1, f_M_2, l_M_2, r_M_2, w_M_2, f_M_3, u_M_3, f_M_4, u_M_4, f_M_5, u_M_5, f_M_6, u_M_6, f_M_7, u_M_7, f_M_8, u_M_8, f_M_9, l_M_9, r_M_9, w_M_9, f_M_10, l_M_10, r_M_10, w_M_10, f_M_11, l_M_11, r_M_11, w_M_11, f_M_12, l_M_12, r_M_12, w_M_12, f_M_13, l_M_13, r_M_13, w_M_13, f_M_14, l_M_14, r_M_14, w_M_14, f_M_15, l_M_15, r_M_15, w_M_15, f_M_16, l_M_16, r_M_16, w_M_16, f_M_17, l_M_17, r_M_17, w_M_17, f_M_18, l_M_18, r_M_18, w_M_18, hce]
  | succ n ih =>
    intro b hb m l5 hs hd
    have hce := z_Mcells (N := N) (σ := gset σ 10 m) (d + 4) hN (p := p) (by rw [gset_at, hs 9 (by decide)]; exact hQ.1)
    rw [hA] at hce
    obtain ⟨m1, e1, e2, e3⟩ := z_Mrk_E (N := N) (σ := σ) d hN hw hl hQ (a := a) (b := b) (by omega) (by omega) x1 x2 18 0 rfl m hs hd
    rw [Int.natCast_zero] at e1
    obtain ⟨m', l5', g1, g2, g3⟩ := ih (b + 1) (by omega) m1 (some (.int (zI 18))) e2 (by rw [show 18 * (16 * a + (b + 1)) = 18 * (16 * a + b) + 18 by omega]; exact e3)
    simp only [Int.natCast_add, Int.natCast_one] at g1
    refine ⟨m', l5', ?_, g2, g3⟩
    rw [s_M_reckons_42]
    simp (disch := first | omega | exact Nat.le_of_ble_eq_true rfl) only [e_M_reckons, s_M_reckons_0, s_M_reckons_1, s_M_reckons_3, s_M_reckons_6, s_M_reckons_9, s_M_reckons_10, s_M_reckons_13, s_M_reckons_14, s_M_reckons_15, s_M_reckons_16, s_M_reckons_19, s_M_reckons_22, s_M_reckons_23, s_M_reckons_25, s_M_reckons_26, s_M_reckons_29, s_M_reckons_30, s_M_reckons_32, s_M_reckons_33, s_M_reckons_36, s_M_reckons_39, s_M_reckons_40, s_M_reckons_44, s_M_reckons_45, s_M_reckons_48, s_M_reckons_51, s_M_reckons_52, s_M_reckons_56, s_M_reckons_58, s_M_reckons_61, s_M_reckons_62, s_M_reckons_65, s_M_reckons_66, s_M_reckons_68, s_M_reckons_69, s_M_reckons_70, s_M_reckons_71, s_M_reckons_74, s_M_reckons_76, s_M_reckons_77, s_M_reckons_78, s_M_reckons_79, s_M_reckons_81, s_M_reckons_83, s_M_reckons_85, s_M_reckons_86, s_M_reckons_88, s_M_reckons_89, s_M_reckons_90, s_M_reckons_91, s_M_reckons_92, s_M_reckons_94, s_M_reckons_95, s_M_reckons_96, s_M_reckons_99, s_M_reckons_100, s_M_reckons_103, s_M_reckons_106, s_M_reckons_109, s_M_reckons_115, s_M_reckons_118, s_M_reckons_119, s_M_reckons_121, s_M_reckons_124, s_M_reckons_127, s_M_reckons_128, s_M_reckons_131, s_M_reckons_132, s_M_reckons_133, s_M_reckons_136, s_M_reckons_137, s_M_reckons_138, s_M_reckons_139, s_M_reckons_142, s_M_reckons_145, s_M_reckons_148, s_M_reckons_151, Option.bind_some, Option.bind_none, Option.toList_some, Option.toList_none, List.cons_append, List.nil_append, if_true, if_false, rz_clr, true_or, or_true, z00, z11, bZ_eq0, bZ_eq1, nor_self, if_pos, if_neg, zI_add, zI_sub, zI_mul, zI_neg, zI_lt, zI_le, zI_eq, c_M, f_M_0, u_M_0, f_M_1, u_M_1, f_M_2, l_M_2, r_M_2, w_M_2, f_M_3, u_M_3, f_M_4, u_M_4, f_M_5, u_M_5, f_M_6, u_M_6, f_M_7, u_M_7, f_M_8, u_M_8, f_M_9, l_M_9, r_M_9, w_M_9, f_M_10, l_M_10, r_M_10, w_M_10, f_M_11, l_M_11, r_M_11, w_M_11, f_M_12, l_M_12, r_M_12, w_M_12, f_M_13, l_M_13, r_M_13, w_M_13, f_M_14, l_M_14, r_M_14, w_M_14, f_M_15, l_M_15, r_M_15, w_M_15, f_M_16, l_M_16, r_M_16, w_M_16, f_M_17, l_M_17, r_M_17, w_M_17, f_M_18, l_M_18, r_M_18, w_M_18, hce, e1, g1]
theorem z_Mrk_C (d : Nat) (hN : 60 ≤ N) (hw : wfP p) (hl : lkP p) {m0 : zP} (hQ : MGQ m0 p la hm V) {ar : Nat} (hA : p 8 0 * p 9 0 = ar) (x1 x2 : Int32) : ∀ (n a : Nat), n + a = ar → ∀ m l4 l5, sm [13, 17, 18] m0 m → dnA p (fun K => mostF p la hm V K (-9)) (18 * (16 * a)) m → ∃ m' l4' l5', rz_den (rz_dM (d + 5)) (rz_at tb_X5_reckons) none 31 [some (.ref (bs 10)), some (.int x1), some (.int x2), some (.int (zI a)), l4, l5] [] (wOf N (gset σ 10 m)) = rz_den (rz_dM (d + 5)) (rz_at tb_X5_reckons) none 118 [some (.ref (bs 10)), some (.int x1), some (.int x2), some (.int (zI ar)), l4', l5'] [] (wOf N (gset σ 10 m')) ∧ sm [13, 17, 18] m0 m' ∧ dnA p (fun K => mostF p la hm V K (-9)) (18 * (16 * ar)) m' := by
  have har := wfP_area hw
  intro n
  induction n with
  | zero =>
    intro a hb m l4 l5 hs hd
    obtain rfl : a = ar := by omega
    have hce := z_Mcells (N := N) (σ := gset σ 10 m) (d + 4) hN (p := p) (by rw [gset_at, hs 9 (by decide)]; exact hQ.1)
    rw [hA] at hce
    refine ⟨m, l4, l5, ?_, hs, hd⟩
    rw [s_M_reckons_31]
    simp (disch := first | omega | exact Nat.le_of_ble_eq_true rfl) only [e_M_reckons, s_M_reckons_0, s_M_reckons_1, s_M_reckons_3, s_M_reckons_6, s_M_reckons_9, s_M_reckons_10, s_M_reckons_13, s_M_reckons_14, s_M_reckons_15, s_M_reckons_16, s_M_reckons_19, s_M_reckons_22, s_M_reckons_23, s_M_reckons_25, s_M_reckons_26, s_M_reckons_29, s_M_reckons_30, s_M_reckons_32, s_M_reckons_33, s_M_reckons_36, s_M_reckons_39, s_M_reckons_40, s_M_reckons_44, s_M_reckons_45, s_M_reckons_48, s_M_reckons_51, s_M_reckons_52, s_M_reckons_56, s_M_reckons_58, s_M_reckons_61, s_M_reckons_62, s_M_reckons_65, s_M_reckons_66, s_M_reckons_68, s_M_reckons_69, s_M_reckons_70, s_M_reckons_71, s_M_reckons_74, s_M_reckons_76, s_M_reckons_77, s_M_reckons_78, s_M_reckons_79, s_M_reckons_81, s_M_reckons_83, s_M_reckons_85, s_M_reckons_86, s_M_reckons_88, s_M_reckons_89, s_M_reckons_90, s_M_reckons_91, s_M_reckons_92, s_M_reckons_94, s_M_reckons_95, s_M_reckons_96, s_M_reckons_99, s_M_reckons_100, s_M_reckons_103, s_M_reckons_106, s_M_reckons_109, s_M_reckons_112, s_M_reckons_115, s_M_reckons_119, s_M_reckons_121, s_M_reckons_124, s_M_reckons_127, s_M_reckons_128, s_M_reckons_131, s_M_reckons_132, s_M_reckons_133, s_M_reckons_136, s_M_reckons_137, s_M_reckons_138, s_M_reckons_139, s_M_reckons_142, s_M_reckons_145, s_M_reckons_148, s_M_reckons_151, Option.bind_some, Option.bind_none, Option.toList_some, Option.toList_none, List.cons_append, List.nil_append, if_true, if_false, rz_clr, true_or, or_true, z00, z11, bZ_eq0, bZ_eq1, nor_self, if_pos, if_neg, zI_add, zI_sub, zI_mul, zI_neg, zI_lt, zI_le, zI_eq, c_M, f_M_0, u_M_0, f_M_1, u_M_1, f_M_2, l_M_2, r_M_2, w_M_2, f_M_3, u_M_3, f_M_4, u_M_4, f_M_5, u_M_5, f_M_6, u_M_6, f_M_7, u_M_7, f_M_8, u_M_8, f_M_9, l_M_9, r_M_9, w_M_9, f_M_10, l_M_10, r_M_10, w_M_10, f_M_11, l_M_11, r_M_11, w_M_11, f_M_12, l_M_12, r_M_12, w_M_12, f_M_13, l_M_13, r_M_13, w_M_13, f_M_14, l_M_14, r_M_14, w_M_14, f_M_15, l_M_15, r_M_15, w_M_15, f_M_16, l_M_16, r_M_16, w_M_16, f_M_17, l_M_17, r_M_17, w_M_17, f_M_18, l_M_18, r_M_18, w_M_18, hce]
  | succ n ih =>
    intro a hb m l4 l5 hs hd
    have hce := z_Mcells (N := N) (σ := gset σ 10 m) (d + 4) hN (p := p) (by rw [gset_at, hs 9 (by decide)]; exact hQ.1)
    rw [hA] at hce
    obtain ⟨m1, l5a, e1, e2, e3⟩ := z_Mrk_D (N := N) (σ := σ) d hN hw hl hQ hA (a := a) (by omega) x1 x2 ar 0 rfl m l5 hs hd
    rw [Int.natCast_zero] at e1
    have e3' : dnA p (fun K => mostF p la hm V K (-9)) (18 * (16 * (a + 1))) m1 := by
      intro K hK hlt
      apply e3 K hK
      have h1 := hK.2.2.2.2
      have h2 := tl_lt K
      have h3 := hK.2.1
      have h4 := hK.2.2.1
      have h5 := cl_lt K 1
      unfold posK at hlt ⊢
      omega
    obtain ⟨m', l4', l5', g1, g2, g3⟩ := ih (a + 1) (by omega) m1 (some (.int (zI ar))) l5a e2 e3'
    simp only [Int.natCast_add, Int.natCast_one] at g1
    refine ⟨m', l4', l5', ?_, g2, g3⟩
    rw [s_M_reckons_31]
    simp (disch := first | omega | exact Nat.le_of_ble_eq_true rfl) only [e_M_reckons, s_M_reckons_0, s_M_reckons_1, s_M_reckons_3, s_M_reckons_6, s_M_reckons_9, s_M_reckons_10, s_M_reckons_13, s_M_reckons_14, s_M_reckons_15, s_M_reckons_16, s_M_reckons_19, s_M_reckons_22, s_M_reckons_23, s_M_reckons_25, s_M_reckons_26, s_M_reckons_29, s_M_reckons_30, s_M_reckons_32, s_M_reckons_33, s_M_reckons_36, s_M_reckons_39, s_M_reckons_40, s_M_reckons_44, s_M_reckons_45, s_M_reckons_48, s_M_reckons_51, s_M_reckons_52, s_M_reckons_56, s_M_reckons_58, s_M_reckons_61, s_M_reckons_62, s_M_reckons_65, s_M_reckons_66, s_M_reckons_68, s_M_reckons_69, s_M_reckons_70, s_M_reckons_71, s_M_reckons_74, s_M_reckons_76, s_M_reckons_77, s_M_reckons_78, s_M_reckons_79, s_M_reckons_81, s_M_reckons_83, s_M_reckons_85, s_M_reckons_86, s_M_reckons_88, s_M_reckons_89, s_M_reckons_90, s_M_reckons_91, s_M_reckons_92, s_M_reckons_94, s_M_reckons_95, s_M_reckons_96, s_M_reckons_99, s_M_reckons_100, s_M_reckons_103, s_M_reckons_106, s_M_reckons_109, s_M_reckons_112, s_M_reckons_115, s_M_reckons_119, s_M_reckons_121, s_M_reckons_124, s_M_reckons_127, s_M_reckons_128, s_M_reckons_131, s_M_reckons_132, s_M_reckons_133, s_M_reckons_136, s_M_reckons_137, s_M_reckons_138, s_M_reckons_139, s_M_reckons_142, s_M_reckons_145, s_M_reckons_148, s_M_reckons_151, Option.bind_some, Option.bind_none, Option.toList_some, Option.toList_none, List.cons_append, List.nil_append, if_true, if_false, rz_clr, true_or, or_true, z00, z11, bZ_eq0, bZ_eq1, nor_self, if_pos, if_neg, zI_add, zI_sub, zI_mul, zI_neg, zI_lt, zI_le, zI_eq, c_M, f_M_0, u_M_0, f_M_1, u_M_1, f_M_2, l_M_2, r_M_2, w_M_2, f_M_3, u_M_3, f_M_4, u_M_4, f_M_5, u_M_5, f_M_6, u_M_6, f_M_7, u_M_7, f_M_8, u_M_8, f_M_9, l_M_9, r_M_9, w_M_9, f_M_10, l_M_10, r_M_10, w_M_10, f_M_11, l_M_11, r_M_11, w_M_11, f_M_12, l_M_12, r_M_12, w_M_12, f_M_13, l_M_13, r_M_13, w_M_13, f_M_14, l_M_14, r_M_14, w_M_14, f_M_15, l_M_15, r_M_15, w_M_15, f_M_16, l_M_16, r_M_16, w_M_16, f_M_17, l_M_17, r_M_17, w_M_17, f_M_18, l_M_18, r_M_18, w_M_18, hce, e1, g1]
theorem z_Mrk_F (d : Nat) (hN : 60 ≤ N) (m : zP) (x1 x2 : Int32) (l4 l5 : Option Value) : ∀ (n k : Nat), n + k = 4608 → ∀ f, rz_den (rz_dM d) (rz_at tb_X5_reckons) none 120 [some (.ref (bs 10)), some (.int x1), some (.int x2), some (.int (zI k)), l4, l5] [] (wOf N (gset σ 10 (pset m 14 f))) = rz_den (rz_dM d) (rz_at tb_X5_reckons) none 145 [some (.ref (bs 10)), some (.int x1), some (.int x2), some (.int (zI 4608)), l4, l5] [] (wOf N (gset σ 10 (pset m 14 (cpF (m 13) 0 0 n k f)))) := by
  intro n
  induction n with
  | zero =>
    intro k hk f
    obtain rfl : k = 4608 := by omega
    rw [s_M_reckons_120, cpF]
    simp (disch := first | omega | exact Nat.le_of_ble_eq_true rfl) only [e_M_reckons, s_M_reckons_0, s_M_reckons_1, s_M_reckons_3, s_M_reckons_6, s_M_reckons_9, s_M_reckons_10, s_M_reckons_13, s_M_reckons_14, s_M_reckons_15, s_M_reckons_16, s_M_reckons_19, s_M_reckons_22, s_M_reckons_23, s_M_reckons_25, s_M_reckons_26, s_M_reckons_29, s_M_reckons_30, s_M_reckons_32, s_M_reckons_33, s_M_reckons_36, s_M_reckons_39, s_M_reckons_40, s_M_reckons_44, s_M_reckons_45, s_M_reckons_48, s_M_reckons_51, s_M_reckons_52, s_M_reckons_56, s_M_reckons_58, s_M_reckons_61, s_M_reckons_62, s_M_reckons_65, s_M_reckons_66, s_M_reckons_68, s_M_reckons_69, s_M_reckons_70, s_M_reckons_71, s_M_reckons_74, s_M_reckons_76, s_M_reckons_77, s_M_reckons_78, s_M_reckons_79, s_M_reckons_81, s_M_reckons_83, s_M_reckons_85, s_M_reckons_86, s_M_reckons_88, s_M_reckons_89, s_M_reckons_90, s_M_reckons_91, s_M_reckons_92, s_M_reckons_94, s_M_reckons_95, s_M_reckons_96, s_M_reckons_99, s_M_reckons_100, s_M_reckons_103, s_M_reckons_106, s_M_reckons_109, s_M_reckons_112, s_M_reckons_115, s_M_reckons_118, s_M_reckons_119, s_M_reckons_121, s_M_reckons_124, s_M_reckons_127, s_M_reckons_128, s_M_reckons_131, s_M_reckons_132, s_M_reckons_133, s_M_reckons_136, s_M_reckons_137, s_M_reckons_138, s_M_reckons_139, s_M_reckons_142, s_M_reckons_148, s_M_reckons_151, Option.bind_some, Option.bind_none, Option.toList_some, Option.toList_none, List.cons_append, List.nil_append, if_true, if_false, rz_clr, true_or, or_true, z00, z11, bZ_eq0, bZ_eq1, nor_self, if_pos, if_neg, zI_add, zI_sub, zI_mul, zI_neg, zI_lt, zI_le, zI_eq]
    try rfl
  | succ n ih =>
    intro k hk f
    have ih' := ih (k + 1) (by omega) (zup f (0 + k) (m 13 (0 + k)))
    simp only [Int.natCast_add, Int.natCast_one] at ih'
    have e2 : ((k : Int)).toNat = 0 + k := by omega
    rw [s_M_reckons_120, cpF]
    simp (disch := first | omega | exact Nat.le_of_ble_eq_true rfl) only [e_M_reckons, s_M_reckons_0, s_M_reckons_1, s_M_reckons_3, s_M_reckons_6, s_M_reckons_9, s_M_reckons_10, s_M_reckons_13, s_M_reckons_14, s_M_reckons_15, s_M_reckons_16, s_M_reckons_19, s_M_reckons_22, s_M_reckons_23, s_M_reckons_25, s_M_reckons_26, s_M_reckons_29, s_M_reckons_30, s_M_reckons_32, s_M_reckons_33, s_M_reckons_36, s_M_reckons_39, s_M_reckons_40, s_M_reckons_44, s_M_reckons_45, s_M_reckons_48, s_M_reckons_51, s_M_reckons_52, s_M_reckons_56, s_M_reckons_58, s_M_reckons_61, s_M_reckons_62, s_M_reckons_65, s_M_reckons_66, s_M_reckons_68, s_M_reckons_69, s_M_reckons_70, s_M_reckons_71, s_M_reckons_74, s_M_reckons_76, s_M_reckons_77, s_M_reckons_78, s_M_reckons_79, s_M_reckons_81, s_M_reckons_83, s_M_reckons_85, s_M_reckons_86, s_M_reckons_88, s_M_reckons_89, s_M_reckons_90, s_M_reckons_91, s_M_reckons_92, s_M_reckons_94, s_M_reckons_95, s_M_reckons_96, s_M_reckons_99, s_M_reckons_100, s_M_reckons_103, s_M_reckons_106, s_M_reckons_109, s_M_reckons_112, s_M_reckons_115, s_M_reckons_118, s_M_reckons_119, s_M_reckons_121, s_M_reckons_124, s_M_reckons_127, s_M_reckons_128, s_M_reckons_131, s_M_reckons_132, s_M_reckons_133, s_M_reckons_136, s_M_reckons_137, s_M_reckons_138, s_M_reckons_139, s_M_reckons_142, s_M_reckons_148, s_M_reckons_151, Option.bind_some, Option.bind_none, Option.toList_some, Option.toList_none, List.cons_append, List.nil_append, if_true, if_false, rz_clr, true_or, or_true, z00, z11, bZ_eq0, bZ_eq1, nor_self, if_pos, if_neg, zI_add, zI_sub, zI_mul, zI_neg, zI_lt, zI_le, zI_eq, c_M, f_M_0, u_M_0, f_M_1, u_M_1, f_M_2, l_M_2, r_M_2, w_M_2, f_M_3, u_M_3, f_M_4, u_M_4, f_M_5, u_M_5, f_M_6, u_M_6, f_M_7, u_M_7, f_M_8, u_M_8, f_M_9, l_M_9, r_M_9, w_M_9, f_M_10, l_M_10, r_M_10, w_M_10, f_M_11, l_M_11, r_M_11, w_M_11, f_M_12, l_M_12, r_M_12, w_M_12, f_M_13, l_M_13, r_M_13, w_M_13, f_M_14, l_M_14, r_M_14, w_M_14, f_M_15, l_M_15, r_M_15, w_M_15, f_M_16, l_M_16, r_M_16, w_M_16, f_M_17, l_M_17, r_M_17, w_M_17, f_M_18, l_M_18, r_M_18, w_M_18, sset_eq, gset_at, gset_gset, gset_ne, pset_eq, pset_ne, pset_pset, e2, ih']
theorem z_Mrk_A (d : Nat) (hN : 60 ≤ N) (m : zP) (x1 : Int32) (l3 l4 l5 : Option Value) : ∀ (n k : Nat), n + k = 4608 → ∀ f, rz_den (rz_dM d) (rz_at tb_X5_reckons) none 2 [some (.ref (bs 10)), some (.int x1), some (.int (zI k)), l3, l4, l5] [] (wOf N (gset σ 10 (pset m 14 f))) = rz_den (rz_dM d) (rz_at tb_X5_reckons) none 22 [some (.ref (bs 10)), some (.int x1), some (.int (zI 4608)), l3, l4, l5] [] (wOf N (gset σ 10 (pset m 14 (filA f 0 n k)))) := by
  intro n
  induction n with
  | zero =>
    intro k hk f
    obtain rfl : k = 4608 := by omega
    rw [s_M_reckons_2, filA]
    simp (disch := first | omega | exact Nat.le_of_ble_eq_true rfl) only [e_M_reckons, s_M_reckons_0, s_M_reckons_1, s_M_reckons_3, s_M_reckons_6, s_M_reckons_9, s_M_reckons_10, s_M_reckons_13, s_M_reckons_14, s_M_reckons_15, s_M_reckons_16, s_M_reckons_19, s_M_reckons_23, s_M_reckons_25, s_M_reckons_26, s_M_reckons_29, s_M_reckons_30, s_M_reckons_32, s_M_reckons_33, s_M_reckons_36, s_M_reckons_39, s_M_reckons_40, s_M_reckons_44, s_M_reckons_45, s_M_reckons_48, s_M_reckons_51, s_M_reckons_52, s_M_reckons_56, s_M_reckons_58, s_M_reckons_61, s_M_reckons_62, s_M_reckons_65, s_M_reckons_66, s_M_reckons_68, s_M_reckons_69, s_M_reckons_70, s_M_reckons_71, s_M_reckons_74, s_M_reckons_76, s_M_reckons_77, s_M_reckons_78, s_M_reckons_79, s_M_reckons_81, s_M_reckons_83, s_M_reckons_85, s_M_reckons_86, s_M_reckons_88, s_M_reckons_89, s_M_reckons_90, s_M_reckons_91, s_M_reckons_92, s_M_reckons_94, s_M_reckons_95, s_M_reckons_96, s_M_reckons_99, s_M_reckons_100, s_M_reckons_103, s_M_reckons_106, s_M_reckons_109, s_M_reckons_112, s_M_reckons_115, s_M_reckons_118, s_M_reckons_119, s_M_reckons_121, s_M_reckons_124, s_M_reckons_127, s_M_reckons_128, s_M_reckons_131, s_M_reckons_132, s_M_reckons_133, s_M_reckons_136, s_M_reckons_137, s_M_reckons_138, s_M_reckons_139, s_M_reckons_142, s_M_reckons_145, s_M_reckons_148, s_M_reckons_151, Option.bind_some, Option.bind_none, Option.toList_some, Option.toList_none, List.cons_append, List.nil_append, if_true, if_false, rz_clr, true_or, or_true, z00, z11, bZ_eq0, bZ_eq1, nor_self, if_pos, if_neg, zI_add, zI_sub, zI_mul, zI_neg, zI_lt, zI_le, zI_eq]
    try rfl
  | succ n ih =>
    intro k hk f
    have ih' := ih (k + 1) (by omega) (zup f k 0)
    simp only [Int.natCast_add, Int.natCast_one] at ih'
    have e2 : ((k : Int)).toNat = k := by omega
    rw [s_M_reckons_2, filA]
    simp (disch := first | omega | exact Nat.le_of_ble_eq_true rfl) only [e_M_reckons, s_M_reckons_0, s_M_reckons_1, s_M_reckons_3, s_M_reckons_6, s_M_reckons_9, s_M_reckons_10, s_M_reckons_13, s_M_reckons_14, s_M_reckons_15, s_M_reckons_16, s_M_reckons_19, s_M_reckons_23, s_M_reckons_25, s_M_reckons_26, s_M_reckons_29, s_M_reckons_30, s_M_reckons_32, s_M_reckons_33, s_M_reckons_36, s_M_reckons_39, s_M_reckons_40, s_M_reckons_44, s_M_reckons_45, s_M_reckons_48, s_M_reckons_51, s_M_reckons_52, s_M_reckons_56, s_M_reckons_58, s_M_reckons_61, s_M_reckons_62, s_M_reckons_65, s_M_reckons_66, s_M_reckons_68, s_M_reckons_69, s_M_reckons_70, s_M_reckons_71, s_M_reckons_74, s_M_reckons_76, s_M_reckons_77, s_M_reckons_78, s_M_reckons_79, s_M_reckons_81, s_M_reckons_83, s_M_reckons_85, s_M_reckons_86, s_M_reckons_88, s_M_reckons_89, s_M_reckons_90, s_M_reckons_91, s_M_reckons_92, s_M_reckons_94, s_M_reckons_95, s_M_reckons_96, s_M_reckons_99, s_M_reckons_100, s_M_reckons_103, s_M_reckons_106, s_M_reckons_109, s_M_reckons_112, s_M_reckons_115, s_M_reckons_118, s_M_reckons_119, s_M_reckons_121, s_M_reckons_124, s_M_reckons_127, s_M_reckons_128, s_M_reckons_131, s_M_reckons_132, s_M_reckons_133, s_M_reckons_136, s_M_reckons_137, s_M_reckons_138, s_M_reckons_139, s_M_reckons_142, s_M_reckons_145, s_M_reckons_148, s_M_reckons_151, Option.bind_some, Option.bind_none, Option.toList_some, Option.toList_none, List.cons_append, List.nil_append, if_true, if_false, rz_clr, true_or, or_true, z00, z11, bZ_eq0, bZ_eq1, nor_self, if_pos, if_neg, zI_add, zI_sub, zI_mul, zI_neg, zI_lt, zI_le, zI_eq, c_M, f_M_0, u_M_0, f_M_1, u_M_1, f_M_2, l_M_2, r_M_2, w_M_2, f_M_3, u_M_3, f_M_4, u_M_4, f_M_5, u_M_5, f_M_6, u_M_6, f_M_7, u_M_7, f_M_8, u_M_8, f_M_9, l_M_9, r_M_9, w_M_9, f_M_10, l_M_10, r_M_10, w_M_10, f_M_11, l_M_11, r_M_11, w_M_11, f_M_12, l_M_12, r_M_12, w_M_12, f_M_13, l_M_13, r_M_13, w_M_13, f_M_14, l_M_14, r_M_14, w_M_14, f_M_15, l_M_15, r_M_15, w_M_15, f_M_16, l_M_16, r_M_16, w_M_16, f_M_17, l_M_17, r_M_17, w_M_17, f_M_18, l_M_18, r_M_18, w_M_18, sset_eq, gset_at, gset_gset, gset_ne, pset_eq, pset_ne, pset_pset, e2, ih']
theorem gV_mostF (n K : Nat) : gV p la hm (n + 1) K = mostF p la hm (gV p la hm n) K (-9) := by
  unfold mostF
  rw [if_pos rfl, gV]
theorem z_Mrk_B (d : Nat) (hN : 60 ≤ N) (hw : wfP p) (hl : lkP p) {m0 : zP} {t : Nat} (ht : t ≤ 100) : ∀ (n k : Nat), n + k = t → ∀ m l3 l4 l5, sm [13, 14, 17, 18] m0 m → MGQ m p la hm (gV p la hm k) → ∃ m', rz_den (rz_dM (d + 5)) (rz_at tb_X5_reckons) none 24 [some (.ref (bs 10)), some (.int (zI t)), some (.int (zI k)), l3, l4, l5] [] (wOf N (gset σ 10 m)) = some (none, wOf N (gset σ 10 m')) ∧ sm [13, 14, 17, 18] m0 m' ∧ MGQ m' p la hm (gV p la hm t) := by
  have har := wfP_area hw
  obtain ⟨ar, hA⟩ : ∃ a : Nat, p 8 0 * p 9 0 = a := ⟨(p 8 0 * p 9 0).toNat, by omega⟩
  intro n
  induction n with
  | zero =>
    intro k hk m l3 l4 l5 hs hQ
    obtain rfl : k = t := by omega
    refine ⟨m, ?_, hs, hQ⟩
    rw [s_M_reckons_24]
    simp (disch := first | omega | exact Nat.le_of_ble_eq_true rfl) only [e_M_reckons, s_M_reckons_0, s_M_reckons_1, s_M_reckons_3, s_M_reckons_6, s_M_reckons_9, s_M_reckons_10, s_M_reckons_13, s_M_reckons_14, s_M_reckons_15, s_M_reckons_16, s_M_reckons_19, s_M_reckons_22, s_M_reckons_23, s_M_reckons_25, s_M_reckons_26, s_M_reckons_29, s_M_reckons_30, s_M_reckons_32, s_M_reckons_33, s_M_reckons_36, s_M_reckons_39, s_M_reckons_40, s_M_reckons_44, s_M_reckons_45, s_M_reckons_48, s_M_reckons_51, s_M_reckons_52, s_M_reckons_56, s_M_reckons_58, s_M_reckons_61, s_M_reckons_62, s_M_reckons_65, s_M_reckons_66, s_M_reckons_68, s_M_reckons_69, s_M_reckons_70, s_M_reckons_71, s_M_reckons_74, s_M_reckons_76, s_M_reckons_77, s_M_reckons_78, s_M_reckons_79, s_M_reckons_81, s_M_reckons_83, s_M_reckons_85, s_M_reckons_86, s_M_reckons_88, s_M_reckons_89, s_M_reckons_90, s_M_reckons_91, s_M_reckons_92, s_M_reckons_94, s_M_reckons_95, s_M_reckons_96, s_M_reckons_99, s_M_reckons_100, s_M_reckons_103, s_M_reckons_106, s_M_reckons_109, s_M_reckons_112, s_M_reckons_115, s_M_reckons_118, s_M_reckons_119, s_M_reckons_121, s_M_reckons_124, s_M_reckons_127, s_M_reckons_128, s_M_reckons_131, s_M_reckons_132, s_M_reckons_133, s_M_reckons_136, s_M_reckons_137, s_M_reckons_138, s_M_reckons_139, s_M_reckons_142, s_M_reckons_145, s_M_reckons_148, s_M_reckons_151, Option.bind_some, Option.bind_none, Option.toList_some, Option.toList_none, List.cons_append, List.nil_append, if_true, if_false, rz_clr, true_or, or_true, z00, z11, bZ_eq0, bZ_eq1, nor_self, if_pos, if_neg, zI_add, zI_sub, zI_mul, zI_neg, zI_lt, zI_le, zI_eq]
  | succ n ih =>
    intro k hk m l3 l4 l5 hs hQ
    obtain ⟨m1, l4', l5', e1, e2, e3⟩ := z_Mrk_C (N := N) (σ := σ) d hN hw hl hQ hA (zI t) (zI k) ar 0 rfl m l4 l5 (sm_rfl _ _) (fun K _ h => by omega)
    rw [Int.natCast_zero] at e1
    have hF := z_Mrk_F (N := N) (σ := σ) (d + 5) hN m1 (zI t) (zI k) l4' l5' 4608 0 rfl (m1 14)
    rw [pset_self, Int.natCast_zero] at hF
    have hs2 : sm [13, 14, 17, 18] m (pset m1 14 (cpF (m1 13) 0 0 4608 0 (m1 14))) := sm_pset (sm_mono e2 (by decide)) (by decide)
    have hQ2 : MGQ (pset m1 14 (cpF (m1 13) 0 0 4608 0 (m1 14))) p la hm (gV p la hm (k + 1)) := by
      obtain ⟨q1, q2, q3, q4, q5⟩ := hQ
      refine ⟨?_, ?_, ?_, ?_, gV_rg p la hm (k + 1)⟩
      · rw [hs2 9 (by decide)]; exact q1
      · rw [hs2 16 (by decide)]; exact q2
      · rw [hs2 15 (by decide)]; exact q3
      · intro K hK
        have hp := posK_lt hK
        rw [pset_eq, cpF_at, if_pos (by omega), show 0 + (posK K - 0) = posK K by omega, gV_mostF]
        apply e3 K hK
        have h1 := hK.2.2.2.1
        have h2 := tl_lt K
        have h3 := hK.2.1
        have h4 := hK.2.2.1
        have h5 := cl_lt K 1
        unfold posK
        omega
    obtain ⟨m', g1, g2, g3⟩ := ih (k + 1) (by omega) _ (some (.int (zI 4608))) l4' l5' (sm_tr hs hs2) hQ2
    simp only [Int.natCast_add, Int.natCast_one] at g1
    refine ⟨m', ?_, g2, g3⟩
    rw [s_M_reckons_24]
    simp (disch := first | omega | exact Nat.le_of_ble_eq_true rfl) only [e_M_reckons, s_M_reckons_0, s_M_reckons_1, s_M_reckons_3, s_M_reckons_6, s_M_reckons_9, s_M_reckons_10, s_M_reckons_13, s_M_reckons_14, s_M_reckons_15, s_M_reckons_16, s_M_reckons_19, s_M_reckons_22, s_M_reckons_23, s_M_reckons_25, s_M_reckons_26, s_M_reckons_29, s_M_reckons_30, s_M_reckons_32, s_M_reckons_33, s_M_reckons_36, s_M_reckons_39, s_M_reckons_40, s_M_reckons_44, s_M_reckons_45, s_M_reckons_48, s_M_reckons_51, s_M_reckons_52, s_M_reckons_56, s_M_reckons_58, s_M_reckons_61, s_M_reckons_62, s_M_reckons_65, s_M_reckons_66, s_M_reckons_68, s_M_reckons_69, s_M_reckons_70, s_M_reckons_71, s_M_reckons_74, s_M_reckons_76, s_M_reckons_77, s_M_reckons_78, s_M_reckons_79, s_M_reckons_81, s_M_reckons_83, s_M_reckons_85, s_M_reckons_86, s_M_reckons_88, s_M_reckons_89, s_M_reckons_90, s_M_reckons_91, s_M_reckons_92, s_M_reckons_94, s_M_reckons_95, s_M_reckons_96, s_M_reckons_99, s_M_reckons_100, s_M_reckons_103, s_M_reckons_106, s_M_reckons_109, s_M_reckons_112, s_M_reckons_115, s_M_reckons_118, s_M_reckons_119, s_M_reckons_121, s_M_reckons_124, s_M_reckons_127, s_M_reckons_128, s_M_reckons_131, s_M_reckons_132, s_M_reckons_133, s_M_reckons_136, s_M_reckons_137, s_M_reckons_138, s_M_reckons_139, s_M_reckons_142, s_M_reckons_145, s_M_reckons_148, s_M_reckons_151, Option.bind_some, Option.bind_none, Option.toList_some, Option.toList_none, List.cons_append, List.nil_append, if_true, if_false, rz_clr, true_or, or_true, z00, z11, bZ_eq0, bZ_eq1, nor_self, if_pos, if_neg, zI_add, zI_sub, zI_mul, zI_neg, zI_lt, zI_le, zI_eq, e1, hF, g1]
theorem z_Mreckons (d : Nat) (hN : 60 ≤ N) (hw : wfP p) (hl : lkP p) (h9 : tlR (σ 10 9) 0 p) (h16 : ∀ j : Nat, j < 2 → σ 10 16 j = la j ∧ 0 ≤ la j ∧ la j < 3) (h15 : ∀ j : Nat, j < 2 → σ 10 15 j = hm j ∧ rg (hm j)) {t : Nat} (ht : t ≤ 100) : ∃ m', rz_dM (d + 6) iM_reckons [.ref (bs 10), .int (zI t)] (wOf N σ) = some (none, wOf N (gset σ 10 m')) ∧ sm [13, 14, 17, 18] (σ 10) m' ∧ MGQ m' p la hm (gV p la hm t) := by
  have hA := fun l3 l4 l5 => z_Mrk_A (N := N) (σ := σ) (d + 5) hN (σ 10) (zI t) l3 l4 l5 4608 0 rfl (σ 10 14)
  rw [pset_self, gset_self, Int.natCast_zero] at hA
  have hs : sm [13, 14, 17, 18] (σ 10) (pset (σ 10) 14 (filA (σ 10 14) 0 4608 0)) := sm_pset (sm_rfl _ _) (by decide)
  obtain ⟨m', g1, g2, g3⟩ := z_Mrk_B (N := N) (σ := σ) (la := la) (hm := hm) d hN hw hl (m0 := σ 10) ht t 0 (by omega) _ none none none hs ⟨h9, h16, h15, fun K hK => by
    have hp := posK_lt hK
    rw [pset_eq, filA_at, if_pos (by omega)]
    rfl, gV_rg p la hm 0⟩
  rw [Int.natCast_zero] at g1
  refine ⟨m', ?_, g2, g3⟩
  simp (disch := first | omega | exact Nat.le_of_ble_eq_true rfl) only [e_M_reckons, s_M_reckons_0, s_M_reckons_1, s_M_reckons_3, s_M_reckons_6, s_M_reckons_9, s_M_reckons_10, s_M_reckons_13, s_M_reckons_14, s_M_reckons_15, s_M_reckons_16, s_M_reckons_19, s_M_reckons_22, s_M_reckons_23, s_M_reckons_25, s_M_reckons_26, s_M_reckons_29, s_M_reckons_30, s_M_reckons_32, s_M_reckons_33, s_M_reckons_36, s_M_reckons_39, s_M_reckons_40, s_M_reckons_44, s_M_reckons_45, s_M_reckons_48, s_M_reckons_51, s_M_reckons_52, s_M_reckons_56, s_M_reckons_58, s_M_reckons_61, s_M_reckons_62, s_M_reckons_65, s_M_reckons_66, s_M_reckons_68, s_M_reckons_69, s_M_reckons_70, s_M_reckons_71, s_M_reckons_74, s_M_reckons_76, s_M_reckons_77, s_M_reckons_78, s_M_reckons_79, s_M_reckons_81, s_M_reckons_83, s_M_reckons_85, s_M_reckons_86, s_M_reckons_88, s_M_reckons_89, s_M_reckons_90, s_M_reckons_91, s_M_reckons_92, s_M_reckons_94, s_M_reckons_95, s_M_reckons_96, s_M_reckons_99, s_M_reckons_100, s_M_reckons_103, s_M_reckons_106, s_M_reckons_109, s_M_reckons_112, s_M_reckons_115, s_M_reckons_118, s_M_reckons_119, s_M_reckons_121, s_M_reckons_124, s_M_reckons_127, s_M_reckons_128, s_M_reckons_131, s_M_reckons_132, s_M_reckons_133, s_M_reckons_136, s_M_reckons_137, s_M_reckons_138, s_M_reckons_139, s_M_reckons_142, s_M_reckons_145, s_M_reckons_148, s_M_reckons_151, Option.bind_some, Option.bind_none, Option.toList_some, Option.toList_none, List.cons_append, List.nil_append, if_true, if_false, rz_clr, true_or, or_true, z00, z11, bZ_eq0, bZ_eq1, nor_self, if_pos, if_neg, zI_add, zI_sub, zI_mul, zI_neg, zI_lt, zI_le, zI_eq, c_M, f_M_0, u_M_0, f_M_1, u_M_1, f_M_2, l_M_2, r_M_2, w_M_2, f_M_3, u_M_3, f_M_4, u_M_4, f_M_5, u_M_5, f_M_6, u_M_6, f_M_7, u_M_7, f_M_8, u_M_8, f_M_9, l_M_9, r_M_9, w_M_9, f_M_10, l_M_10, r_M_10, w_M_10, f_M_11, l_M_11, r_M_11, w_M_11, f_M_12, l_M_12, r_M_12, w_M_12, f_M_13, l_M_13, r_M_13, w_M_13, f_M_14, l_M_14, r_M_14, w_M_14, f_M_15, l_M_15, r_M_15, w_M_15, f_M_16, l_M_16, r_M_16, w_M_16, f_M_17, l_M_17, r_M_17, w_M_17, f_M_18, l_M_18, r_M_18, w_M_18, hA, g1]
end MQ1
