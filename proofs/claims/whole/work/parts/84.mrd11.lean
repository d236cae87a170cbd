-- the model: the board
section NI1
variable {N : Nat} {σ : zS} {s p q : zP} {len : Nat}
def adF (t : Nat → Int) (n : Nat) : Nat → Int := fun j => if j < n then t (33 + j) else t j
theorem z_Mad_lp (d : Nat) (hN : 60 ≤ N) (m : zP) (t : Nat → Int) : ∀ (n k : Nat), n + k = 33 → rz_den (rz_dM d) (rz_at tb_X5_adopts) none 2 [some (.ref (bs 10)), some (.int (zI k))] [] (wOf N (gset σ 10 (pset m 9 (adF t k)))) = rz_den (rz_dM d) (rz_at tb_X5_adopts) none 29 [some (.ref (bs 10)), some (.int (zI 33))] [] (wOf N (gset σ 10 (pset m 9 (adF t 33)))) := by
  intro n
  induction n with
  | zero =>
    intro k hk
    obtain rfl : k = 33 := by omega
    rw [s_M_adopts_2]
    simp (disch := first | omega | exact Nat.le_of_ble_eq_true rfl) only [e_M_adopts, s_M_adopts_0, s_M_adopts_1, s_M_adopts_3, s_M_adopts_5, s_M_adopts_8, s_M_adopts_9, s_M_adopts_12, s_M_adopts_13, s_M_adopts_14, s_M_adopts_17, s_M_adopts_19, s_M_adopts_20, s_M_adopts_21, s_M_adopts_22, s_M_adopts_23, s_M_adopts_26, s_M_adopts_30, s_M_adopts_33, s_M_adopts_34, s_M_adopts_35, s_M_adopts_36, s_M_adopts_37, s_M_adopts_40, s_M_adopts_41, s_M_adopts_42, s_M_adopts_43, s_M_adopts_44, s_M_adopts_47, Option.bind_some, Option.bind_none, Option.toList_some, Option.toList_none, List.cons_append, List.nil_append, if_true, if_false, rz_clr, true_or, or_true, z00, z11, bZ_eq0, bZ_eq1, nor_self, if_pos, if_neg, zI_add, zI_sub, zI_mul, zI_neg, zI_lt, zI_le, zI_eq]
    try rfl
  | succ n ih =>
    intro k hk
    have ih' := ih (k + 1) (by omega)
    simp only [Int.natCast_add, Int.natCast_one] at ih'
    have e1 : adF t k (33 + (k : Int)).toNat = t (33 + k) := by
      unfold adF
      rw [if_neg (by omega), show (33 + (k : Int)).toNat = 33 + k by omega]
    have e2 : zup (adF t k) ((k : Int)).toNat (t (33 + k)) = adF t (k + 1) := by
      rw [Int.toNat_natCast]
      funext j
      by_cases z : j = k
      · rw [z, zup_eq]; unfold adF; rw [if_pos (by omega)]
      · rw [zup_ne z]
        unfold adF
        by_cases z2 : j < k
        · rw [if_pos z2, if_pos (by omega)]
        · rw [if_neg z2, if_neg (by omega)]
    rw [s_M_adopts_2]
    simp (disch := first | omega | exact Nat.le_of_ble_eq_true rfl) only [e_M_adopts, s_M_adopts_0, s_M_adopts_1, s_M_adopts_3, s_M_adopts_5, s_M_adopts_8, s_M_adopts_9, s_M_adopts_12, s_M_adopts_13, s_M_adopts_14, s_M_adopts_17, s_M_adopts_19, s_M_adopts_20, s_M_adopts_21, s_M_adopts_22, s_M_adopts_23, s_M_adopts_26, s_M_adopts_30, s_M_adopts_33, s_M_adopts_34, s_M_adopts_35, s_M_adopts_36, s_M_adopts_37, s_M_adopts_40, s_M_adopts_41, s_M_adopts_42, s_M_adopts_43, s_M_adopts_44, s_M_adopts_47, Option.bind_some, Option.bind_none, Option.toList_some, Option.toList_none, List.cons_append, List.nil_append, if_true, if_false, rz_clr, true_or, or_true, z00, z11, bZ_eq0, bZ_eq1, nor_self, if_pos, if_neg, zI_add, zI_sub, zI_mul, zI_neg, zI_lt, zI_le, zI_eq, c_M, f_M_0, u_M_0, f_M_1, u_M_1, f_M_2, l_M_2, r_M_2, w_M_2, f_M_3, u_M_3, f_M_4, u_M_4, f_M_5, u_M_5, f_M_6, u_M_6, f_M_7, u_M_7, f_M_8, u_M_8, f_M_9, l_M_9, r_M_9, w_M_9, f_M_10, l_M_10, r_M_10, w_M_10, f_M_11, l_M_11, r_M_11, w_M_11, f_M_12, l_M_12, r_M_12, w_M_12, f_M_13, l_M_13, r_M_13, w_M_13, f_M_14, l_M_14, r_M_14, w_M_14, f_M_15, l_M_15, r_M_15, w_M_15, f_M_16, l_M_16, r_M_16, w_M_16, f_M_17, l_M_17, r_M_17, w_M_17, f_M_18, l_M_18, r_M_18, w_M_18, sset_eq, gset_at, gset_gset, gset_ne, pset_eq, pset_ne, pset_pset, e1, e2, ih']
theorem tlR_ad {t : Nat → Int} (hw : wfP p) (h : tlR t 33 p) : tlR (adF t 33) 0 p := by
  have w := hw.1
  obtain ⟨⟨h1, h2, h3⟩, h4, h5, h6⟩ := h
  have e : ∀ i, i < 33 → adF t 33 i = t (33 + i) := fun i hi => if_pos hi
  refine ⟨⟨?_, ?_, ?_⟩, fun i hi => ?_, fun l hl => ?_, fun j hj => ?_⟩
  · rw [e _ (by decide)]; exact h1
  · rw [e _ (by decide)]; exact h2
  · rw [e _ (by decide)]; exact h3
  · rw [e _ (by omega), show 33 + (0 + 3 + i) = 33 + 3 + i by omega]; exact h4 i hi
  · rw [e _ (by omega), e _ (by omega), show 33 + (0 + 19 + 2 * l) = 33 + 19 + 2 * l by omega, show 33 + (0 + 20 + 2 * l) = 33 + 20 + 2 * l by omega]; exact h5 l hl
  · rw [e _ (by omega), e _ (by omega), e _ (by omega), e _ (by omega), show 33 + (0 + 25 + j) = 33 + 25 + j by omega, show 33 + (0 + 27 + j) = 33 + 27 + j by omega, show 33 + (0 + 29 + j) = 33 + 29 + j by omega, show 33 + (0 + 31 + j) = 33 + 31 + j by omega]; exact h6 j hj
theorem tlR_lo {t t' : Nat → Int} (hw : wfP p) (h : tlR t 0 p) (e : ∀ i, i < 33 → t' i = t i) : tlR t' 0 p := by
  have w := hw.1
  obtain ⟨⟨h1, h2, h3⟩, h4, h5, h6⟩ := h
  refine ⟨⟨?_, ?_, ?_⟩, fun i hi => ?_, fun l hl => ?_, fun j hj => ?_⟩
  · rw [e _ (by decide)]; exact h1
  · rw [e _ (by decide)]; exact h2
  · rw [e _ (by decide)]; exact h3
  · rw [e _ (by omega)]; exact h4 i hi
  · rw [e _ (by omega), e _ (by omega)]; exact h5 l hl
  · rw [e _ (by omega), e _ (by omega), e _ (by omega), e _ (by omega)]; exact h6 j hj
theorem z_Madopts (d : Nat) (hN : 60 ≤ N) {m : zP} (hw : wfP p) (hD : tlR (m 9) 33 p) (h8 : m 10 8 = q 6 0) : ∃ m', rz_dM (d + 2) iM_adopts [.ref (bs 10)] (wOf N (gset σ 10 m)) = some (none, wOf N (gset σ 10 m')) ∧ sm [9, 10, 12] m m' ∧ tlR (m' 9) 0 p ∧ sR (m' 10) (startW q p) ∧ (m' 12 0 = 0 ∧ m' 12 1 = 0) := by
  have hl := z_Mad_lp (N := N) (σ := σ) (d + 1) hN m (m 9) 33 0 rfl
  have e0 : adF (m 9) 0 = m 9 := by funext j; unfold adF; rw [if_neg (by omega)]
  rw [e0, pset_self, Int.natCast_zero] at hl
  have hT := tlR_ad hw hD
  obtain ⟨mB, hmB⟩ : ∃ mB, mB = pset (pset m 9 (adF (m 9) 33)) 12 (zup (zup (m 12) (0 : Int).toNat 0) (1 : Int).toNat 0) := ⟨_, rfl⟩
  have b9 : mB 9 = adF (m 9) 33 := by rw [hmB]; rfl
  have b10 : mB 10 = m 10 := by rw [hmB]; rfl
  obtain ⟨t, g1, g2⟩ := z_Mbegins (N := N) (σ := gset σ 10 mB) (p := p) (q := q) d hN (by rw [gset_at, b9]; exact hT) (by rw [gset_at, b10]; exact h8)
  rw [gset_at, gset_gset] at g1
  have e12 : pset m 9 (adF (m 9) 33) 12 = m 12 := pset_ne (by decide)
  refine ⟨pset mB 10 t, ?_, ?_, by rw [pset_ne (by decide), b9]; exact hT, by rw [pset_eq]; exact g2, by rw [pset_ne (by decide), hmB]; exact ⟨rfl, rfl⟩⟩
  · generalize adF (m 9) 33 = A at *
    subst hmB
    simp (disch := first | omega | exact Nat.le_of_ble_eq_true rfl) only [e_M_adopts, s_M_adopts_0, s_M_adopts_1, s_M_adopts_3, s_M_adopts_5, s_M_adopts_8, s_M_adopts_9, s_M_adopts_12, s_M_adopts_13, s_M_adopts_14, s_M_adopts_17, s_M_adopts_19, s_M_adopts_20, s_M_adopts_21, s_M_adopts_22, s_M_adopts_23, s_M_adopts_26, s_M_adopts_29, s_M_adopts_30, s_M_adopts_33, s_M_adopts_34, s_M_adopts_35, s_M_adopts_36, s_M_adopts_37, s_M_adopts_40, s_M_adopts_41, s_M_adopts_42, s_M_adopts_43, s_M_adopts_44, s_M_adopts_47, Option.bind_some, Option.bind_none, Option.toList_some, Option.toList_none, List.cons_append, List.nil_append, if_true, if_false, rz_clr, true_or, or_true, z00, z11, bZ_eq0, bZ_eq1, nor_self, if_pos, if_neg, zI_add, zI_sub, zI_mul, zI_neg, zI_lt, zI_le, zI_eq, c_M, f_M_0, u_M_0, f_M_1, u_M_1, f_M_2, l_M_2, r_M_2, w_M_2, f_M_3, u_M_3, f_M_4, u_M_4, f_M_5, u_M_5, f_M_6, u_M_6, f_M_7, u_M_7, f_M_8, u_M_8, f_M_9, l_M_9, r_M_9, w_M_9, f_M_10, l_M_10, r_M_10, w_M_10, f_M_11, l_M_11, r_M_11, w_M_11, f_M_12, l_M_12, r_M_12, w_M_12, f_M_13, l_M_13, r_M_13, w_M_13, f_M_14, l_M_14, r_M_14, w_M_14, f_M_15, l_M_15, r_M_15, w_M_15, f_M_16, l_M_16, r_M_16, w_M_16, f_M_17, l_M_17, r_M_17, w_M_17, f_M_18, l_M_18, r_M_18, w_M_18, sset_eq, gset_at, gset_gset, gset_ne, pset_eq, pset_ne, pset_pset, hl, nw_b0, g1]
  · intro k hk
    simp only [List.mem_cons, List.not_mem_nil, or_false, not_or] at hk
    rw [pset_ne hk.2.1, hmB, pset_ne hk.2.2, pset_ne hk.1]
theorem z_Mboard (d : Nat) (hN : 60 ≤ N) (hT : tyR (σ 10) s) (ht : TI s) (hl : s 2 0 = len) (h8 : σ 10 10 8 = q 6 0) (pd : zP) : ∃ m', rz_dM (d + 9) iM_board [.ref (bs 10)] (wOf N σ) = some (some (.int (zI (boA len (rdZ len s pd)))), wOf N (gset σ 10 m')) ∧ (if fnR len (rdZ len s pd) = -9 then (sm [0, 3, 4, 5, 6, 7, 8, 9, 10, 12] (σ 10) m' ∧ tlR (m' 9) 0 (fnP (rdZ len s pd)) ∧ sR (m' 10) (startW q (fnP (rdZ len s pd))) ∧ (m' 12 0 = 0 ∧ m' 12 1 = 0) ∧ m' 3 0 = 0) else (sm [0, 4, 5, 6, 7, 8, 9] (σ 10) m' ∧ ∀ i, i < 33 → m' 9 i = σ 10 9 i)) := by
  have hR := RI_0 (len := len) pd ht hl
  have h300 := ht.1.1
  obtain ⟨m0, hm0⟩ : ∃ m0, m0 = pset (pset (pset (σ 10) 0 (fun _ => 0)) 8 (fun _ => -1)) 4 (fun _ => 0) := ⟨_, rfl⟩
  have s0 : sm [0, 4, 8] (σ 10) m0 := by rw [hm0]; exact sm_pset (sm_pset (sm_pset (sm_rfl _ _) (by decide)) (by decide)) (by decide)
  have hdr := z_Mdrafts (N := N) (σ := σ) (d + 7) hN m0 4 4
  obtain ⟨mA, hmA⟩ : ∃ mA, mA = pset m0 9 (drT (m0 9) 4 4) := ⟨_, rfl⟩
  rw [← hmA] at hdr
  have sA : sm [9] m0 mA := by rw [hmA]; exact sm_pset (sm_rfl _ _) (by decide)
  have A9 : mA 9 = drT (m0 9) 4 4 := by rw [hmA, pset_eq]
  have A4 : mA 4 0 = 0 := by rw [sA 4 (by decide), hm0]; rfl
  have A8 : mA 8 0 = -1 := by rw [sA 8 (by decide), hm0]; rfl
  have z0 : S0 s 0 = s 0 := rfl
  have z2 : S0 s 2 = s 2 := rfl
  have z3 : S0 s 3 0 = 0 := rfl
  have z8 : S0 s 8 0 = 0 := rfl
  have hTA : tyR mA (S0 s) := by
    unfold tyR at hT ⊢
    rw [z0, z2, sA 3 (by decide), sA 2 (by decide), s0 3 (by decide), s0 2 (by decide)]
    exact hT
  obtain ⟨m1, a1, a2, a3⟩ := z_Madvances (N := N) (σ := gset σ 10 mA) (s := S0 s) (len := len) (d + 4) hN (by rw [gset_at]; exact hTA) hR.1.1 hl (by rw [z3]; omega) (by rw [gset_at, A4, z3])
  rw [gset_gset] at a1
  rw [gset_at] at a2
  have P1 : PH len 300 (S0 s) (fstP 4 4 pd) m1 := ⟨hR, by rw [z3]; omega, tyR_sm hTA (sm_mono a2 (by decide)), a3, by rw [a2 8 (by decide)]; exact A8⟩
  have hD1 : tlR (m1 9) 33 (fstP 4 4 pd) := by rw [a2 9 (by decide), A9]; exact tlR_fst _ _ _ _
  obtain ⟨m2, l2', i, b1, b2, b3⟩ := z_Mb_lp (N := N) (σ := σ) (len := len) d hN len 300 (S0 s) (fstP 4 4 pd) m1 none (by rw [z3]; omega) P1 hD1 rfl (by rw [z8]; omega)
  rw [z8] at b1
  have hF0 : ∀ i, i < 33 → m2 9 i = σ 10 9 i := by
    intro i hi
    rw [b2.2 i hi, a2 9 (by decide), A9, drT_lo _ _ _ i hi, s0 9 (by decide)]
  have hS0 : sm [0, 4, 5, 6, 7, 8, 9] (σ 10) m2 := sm_tr (sm_mono s0 (by decide)) (sm_tr (sm_mono sA (by decide)) (sm_tr (sm_mono a2 (by decide)) (sm_mono b2.1 (by decide))))
  have hkp := rdL_keep (len := len) 300 (S0 s) (fstP 4 4 pd) hR
  unfold boA
  rw [show rdL len 300 (S0 s) (fstP 4 4 pd) = rdZ len s pd from rfl] at b3 hkp
  generalize rdZ len s pd = r at *
  have em0 : pset (pset (pset (σ 10) 0 (fun _ => 0)) 8 (fun _ => -1)) 4 (fun _ => 0) = m0 := hm0.symm
  rcases b3 with ⟨x1, x2, x3, x4, x5, x6⟩ | ⟨x1, x2⟩
  · simp only [if_pos x2]
    have hw := z_Mwell (N := N) (σ := σ) (m := m2) (d + 7) hN (by omega)
    rw [bZ_pos (by omega)] at hw
    have efn : fnP r = mapP r.2.2 := by unfold fnP; rw [if_pos ⟨x5, x6⟩]
    have hwm := (lkP_map hkp.2.1).1
    have hDm : tlR (m2 9) 33 (mapP r.2.2) := x4
    obtain ⟨m3, c1, c2, c3, c4, c5⟩ := z_Madopts (N := N) (σ := σ) (m := m2) (p := mapP r.2.2) (q := q) (d + 6) hN hwm hDm (by rw [hS0 10 (by decide)]; exact h8)
    refine ⟨pset m3 3 (fun _ => 0), ?_, ?_, by rw [pset_ne (by decide), efn]; exact c3, by rw [pset_ne (by decide), efn]; exact c4, by rw [pset_ne (by decide)]; exact c5, by rw [pset_eq]⟩
    · rw [← x3]
      simp (disch := first | omega | exact Nat.le_of_ble_eq_true rfl) only [e_M_board, s_M_board_0, s_M_board_1, s_M_board_2, s_M_board_5, s_M_board_6, s_M_board_7, s_M_board_10, s_M_board_11, s_M_board_12, s_M_board_15, s_M_board_16, s_M_board_17, s_M_board_18, s_M_board_19, s_M_board_20, s_M_board_23, s_M_board_24, s_M_board_28, s_M_board_31, s_M_board_34, s_M_board_35, s_M_board_38, s_M_board_41, s_M_board_42, s_M_board_43, s_M_board_46, s_M_board_47, s_M_board_50, s_M_board_51, s_M_board_54, s_M_board_57, s_M_board_58, s_M_board_61, s_M_board_62, s_M_board_65, s_M_board_66, s_M_board_69, s_M_board_70, s_M_board_73, s_M_board_75, s_M_board_76, s_M_board_77, s_M_board_80, s_M_board_81, s_M_board_84, s_M_board_85, s_M_board_88, s_M_board_89, s_M_board_90, s_M_board_93, s_M_board_96, s_M_board_97, s_M_board_98, s_M_board_101, s_M_board_102, s_M_board_103, s_M_board_106, s_M_board_107, s_M_board_110, s_M_board_111, s_M_board_114, s_M_board_115, s_M_board_118, s_M_board_119, s_M_board_122, s_M_board_125, s_M_board_126, s_M_board_129, s_M_board_132, s_M_board_134, s_M_board_135, s_M_board_138, s_M_board_139, s_M_board_140, s_M_board_141, s_M_board_144, s_M_board_145, s_M_board_146, s_M_board_149, s_M_board_150, Option.bind_some, Option.bind_none, Option.toList_some, Option.toList_none, List.cons_append, List.nil_append, if_true, if_false, rz_clr, true_or, or_true, z00, z11, bZ_eq0, bZ_eq1, nor_self, if_pos, if_neg, zI_add, zI_sub, zI_mul, zI_neg, zI_lt, zI_le, zI_eq, c_M, f_M_0, u_M_0, f_M_1, u_M_1, f_M_2, l_M_2, r_M_2, w_M_2, f_M_3, u_M_3, f_M_4, u_M_4, f_M_5, u_M_5, f_M_6, u_M_6, f_M_7, u_M_7, f_M_8, u_M_8, f_M_9, l_M_9, r_M_9, w_M_9, f_M_10, l_M_10, r_M_10, w_M_10, f_M_11, l_M_11, r_M_11, w_M_11, f_M_12, l_M_12, r_M_12, w_M_12, f_M_13, l_M_13, r_M_13, w_M_13, f_M_14, l_M_14, r_M_14, w_M_14, f_M_15, l_M_15, r_M_15, w_M_15, f_M_16, l_M_16, r_M_16, w_M_16, f_M_17, l_M_17, r_M_17, w_M_17, f_M_18, l_M_18, r_M_18, w_M_18, sset_eq, gset_at, gset_gset, gset_ne, pset_eq, pset_ne, em0, hdr, a1, b1, hw, c1]
    · exact sm_pset (sm_tr (sm_mono hS0 (by decide)) (sm_mono c2 (by decide))) (by decide)
  · have hne : fnR len r ≠ -9 := by omega
    simp only [if_neg hne]
    have hw := z_Mwell (N := N) (σ := σ) (m := m2) (d + 7) hN (by omega)
    rw [bZ_neg (by omega)] at hw
    refine ⟨m2, ?_, hS0, hF0⟩
    rw [← x2]
    simp (disch := first | omega | exact Nat.le_of_ble_eq_true rfl) only [e_M_board, s_M_board_0, s_M_board_1, s_M_board_2, s_M_board_5, s_M_board_6, s_M_board_7, s_M_board_10, s_M_board_11, s_M_board_12, s_M_board_15, s_M_board_16, s_M_board_17, s_M_board_18, s_M_board_19, s_M_board_20, s_M_board_23, s_M_board_24, s_M_board_28, s_M_board_31, s_M_board_34, s_M_board_35, s_M_board_38, s_M_board_41, s_M_board_42, s_M_board_43, s_M_board_46, s_M_board_47, s_M_board_50, s_M_board_51, s_M_board_54, s_M_board_57, s_M_board_58, s_M_board_61, s_M_board_62, s_M_board_65, s_M_board_66, s_M_board_69, s_M_board_70, s_M_board_73, s_M_board_75, s_M_board_76, s_M_board_77, s_M_board_80, s_M_board_81, s_M_board_84, s_M_board_85, s_M_board_88, s_M_board_89, s_M_board_90, s_M_board_93, s_M_board_96, s_M_board_97, s_M_board_98, s_M_board_101, s_M_board_102, s_M_board_103, s_M_board_106, s_M_board_107, s_M_board_110, s_M_board_111, s_M_board_114, s_M_board_115, s_M_board_118, s_M_board_119, s_M_board_122, s_M_board_125, s_M_board_126, s_M_board_129, s_M_board_132, s_M_board_134, s_M_board_135, s_M_board_138, s_M_board_139, s_M_board_140, s_M_board_141, s_M_board_144, s_M_board_145, s_M_board_146, s_M_board_149, s_M_board_150, Option.bind_some, Option.bind_none, Option.toList_some, Option.toList_none, List.cons_append, List.nil_append, if_true, if_false, rz_clr, true_or, or_true, z00, z11, bZ_eq0, bZ_eq1, nor_self, if_pos, if_neg, zI_add, zI_sub, zI_mul, zI_neg, zI_lt, zI_le, zI_eq, c_M, f_M_0, u_M_0, f_M_1, u_M_1, f_M_2, l_M_2, r_M_2, w_M_2, f_M_3, u_M_3, f_M_4, u_M_4, f_M_5, u_M_5, f_M_6, u_M_6, f_M_7, u_M_7, f_M_8, u_M_8, f_M_9, l_M_9, r_M_9, w_M_9, f_M_10, l_M_10, r_M_10, w_M_10, f_M_11, l_M_11, r_M_11, w_M_11, f_M_12, l_M_12, r_M_12, w_M_12, f_M_13, l_M_13, r_M_13, w_M_13, f_M_14, l_M_14, r_M_14, w_M_14, f_M_15, l_M_15, r_M_15, w_M_15, f_M_16, l_M_16, r_M_16, w_M_16, f_M_17, l_M_17, r_M_17, w_M_17, f_M_18, l_M_18, r_M_18, w_M_18, sset_eq, gset_at, gset_gset, gset_ne, pset_eq, pset_ne, em0, hdr, a1, b1, hw]
end NI1
