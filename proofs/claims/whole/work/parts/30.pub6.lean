-- the class's public methods: rounds, rate, keep, back
def cF (S : Nat → Bool) : Nat → Nat → Nat
  | 0, _ => 0
  | n + 1, k => (if S k then 1 else 0) + cF S n (k + 1)
theorem cF_cN (S : Nat → Bool) : ∀ (n k : Nat), cN S (k + n) = cN S k + cF S n k := by
  intro n
  induction n with
  | zero => intro k; rfl
  | succ n ih =>
    intro k
    have := ih (k + 1)
    rw [show k + (n + 1) = k + 1 + n by omega, this, cN, cF]
    split <;> omega
theorem nB_spec (S : Nat → Bool) : ∀ (n k : Nat) (b r : Int), b ≤ r → r - b < cF S n k → ∃ j : Nat, nB S n k b r = j ∧ k ≤ j ∧ j < k + n ∧ S j = true := by
  intro n
  induction n with
  | zero => intro k b r h1 h2; rw [cF] at h2; omega
  | succ n ih =>
    intro k b r h1 h2
    rw [nB]
    rw [cF] at h2
    by_cases c : S k = true
    · rw [if_pos c] at h2 ⊢
      by_cases e : b = r
      · rw [if_pos e]
        exact ⟨k, rfl, Nat.le_refl _, by omega, c⟩
      · rw [if_neg e]
        obtain ⟨j, g1, g2, g3, g4⟩ := ih (k + 1) (b + 1) r (by omega) (by omega)
        exact ⟨j, g1, by omega, by omega, g4⟩
    · rw [if_neg c] at h2 ⊢
      obtain ⟨j, g1, g2, g3, g4⟩ := ih (k + 1) b r h1 (by omega)
      exact ⟨j, g1, by omega, by omega, g4⟩
def lotK (q p : zP) : Int := nB (fun i => (mayW q p (1 - q 2 0)).testBit i) 32 0 0 (rnk (q 6 0) (cN (fun k => (mayW q p (1 - q 2 0)).testBit k) 8))
def lotS (q p : zP) : zP := if mayW q p (1 - q 2 0) = 0 then passW q else stepW (pset q 6 (fun _ => lotC (q 6 0))) p (lotK q p).toNat
def lotN (p : zP) : Nat → zP → zP
  | 0, q => q
  | n + 1, q => if q 5 0 = 0 then lotN p n (lotS q p) else q
theorem cN_pos {n : Nat} (h : n ≠ 0) (hn : n < 256) : 0 < cN (fun k => n.testBit k) 8 := by
  rcases Nat.eq_zero_or_pos (cN (fun k => n.testBit k) 8) with z | z
  · exfalso
    apply h
    have key : ∀ n, n < 256 → cN (fun k => n.testBit k) 8 = 0 → n = 0 := by decide +kernel
    exact key n hn z
  · exact z
theorem rnk_rg (c : Int) {n : Nat} (h : 0 < n) : 0 ≤ rnk c n ∧ rnk c n < n := by
  unfold rnk
  rw [if_pos h]
  exact ⟨Int.emod_nonneg _ (by omega), Int.emod_lt_of_pos _ (by omega)⟩
theorem lotK_spec {q p : zP} (h : mayW q p (1 - q 2 0) ≠ 0) : ∃ j : Nat, lotK q p = j ∧ j < 8 ∧ (mayW q p (1 - q 2 0)).testBit j = true := by
  have hlt := mayW_lt q p (1 - q 2 0)
  have hp := cN_pos h hlt
  obtain ⟨r1, r2⟩ := rnk_rg (q 6 0) hp
  have e8 := cF_cN (fun i => (mayW q p (1 - q 2 0)).testBit i) 8 0
  have e32 := cF_cN (fun i => (mayW q p (1 - q 2 0)).testBit i) 32 0
  have e24 := cF_cN (fun i => (mayW q p (1 - q 2 0)).testBit i) 24 8
  obtain ⟨j, g1, g2, g3, g4⟩ := nB_spec (fun i => (mayW q p (1 - q 2 0)).testBit i) 32 0 0 (rnk (q 6 0) (cN (fun k => (mayW q p (1 - q 2 0)).testBit k) 8)) r1 (by
    have e0 : cN (fun i => (mayW q p (1 - q 2 0)).testBit i) 0 = 0 := rfl
    have x32 : cN (fun i => (mayW q p (1 - q 2 0)).testBit i) 32 = cN (fun i => (mayW q p (1 - q 2 0)).testBit i) 0 + cF (fun i => (mayW q p (1 - q 2 0)).testBit i) 32 0 := e32
    have x24 : cN (fun i => (mayW q p (1 - q 2 0)).testBit i) 32 = cN (fun i => (mayW q p (1 - q 2 0)).testBit i) 8 + cF (fun i => (mayW q p (1 - q 2 0)).testBit i) 24 8 := e24
    omega)
  refine ⟨j, g1, ?_, g4⟩
  rcases Nat.lt_or_ge j 8 with z | z
  · exact z
  · exfalso
    have h2 : (mayW q p (1 - q 2 0)).testBit j = false := Nat.testBit_lt_two_pow (Nat.lt_of_lt_of_le hlt (Nat.pow_le_pow_right (by decide) z : 2 ^ 8 ≤ 2 ^ j))
    have g4' : (mayW q p (1 - q 2 0)).testBit j = true := g4
    rw [h2] at g4'
    cases g4'
theorem wfW_lotS {q p : zP} (hw : wfP p) (hl : lkP p) (h : wfW q p) (ho : q 5 0 = 0) : wfW (lotS q p) p := by
  unfold lotS
  by_cases c : mayW q p (1 - q 2 0) = 0
  · rw [if_pos c]; exact wfW_pass h ho
  · rw [if_neg c]
    obtain ⟨j, e, hj, -⟩ := lotK_spec c
    rw [e, Int.toNat_natCast]
    exact wfW_step hw hl (wfW_chance h) (by simp (disch := first | omega | exact Nat.le_of_ble_eq_true rfl) only [sset_eq, gset_at, gset_gset, gset_ne, pset_eq, pset_ne]; exact ho) hj
section PG
variable {N gp : Nat} {σ : zS}
theorem z_lot_lp (d : Nat) (hN : 48 ≤ N) (hI : IC σ gp) : ∀ (j k : Nat), j + k = 99 → ∀ (q : zP), wfW q (σ gp) → ∀ l2, rz_den (rz_dM (d + 5)) (rz_at tb_X4_walkedByLot) (some .int) 2 [some (.ref (bs 0)), some (.int (zI k)), l2] [] (wOf N (gset σ 3 q)) = some (some (.int (zI (wonW (lotN (σ gp) j q)))), wOf N (gset σ 3 (lotN (σ gp) j q))) := by
  obtain ⟨i1, ⟨i2, -⟩, i3, i4, i5, i6, i7, i8⟩ := hI
  have e7 : (σ 0 7 0).toNat = gp := by omega
  have hne : gp ≠ 3 := by omega
  intro j
  induction j with
  | zero =>
    intro k hk q hq l2
    obtain rfl : k = 99 := by omega
    have hwo := z_won (N := N) (g := 3) (σ := gset σ 3 q) (d + 4) (by decide) (by decide) hN (by rw [gset_at]; exact hq.2.2.2.2.1)
    rw [gset_at] at hwo
    rw [s_O_walkedByLot_2, lotN]
    simp (disch := first | omega | exact Nat.le_of_ble_eq_true rfl) only [e_O_walkedByLot, s_O_walkedByLot_0, s_O_walkedByLot_1, s_O_walkedByLot_3, s_O_walkedByLot_5, s_O_walkedByLot_8, s_O_walkedByLot_9, s_O_walkedByLot_12, s_O_walkedByLot_15, s_O_walkedByLot_18, s_O_walkedByLot_19, s_O_walkedByLot_22, s_O_walkedByLot_23, s_O_walkedByLot_26, s_O_walkedByLot_27, s_O_walkedByLot_30, s_O_walkedByLot_33, s_O_walkedByLot_36, s_O_walkedByLot_37, s_O_walkedByLot_38, s_O_walkedByLot_41, s_O_walkedByLot_42, s_O_walkedByLot_45, s_O_walkedByLot_48, s_O_walkedByLot_51, s_O_walkedByLot_52, s_O_walkedByLot_55, s_O_walkedByLot_56, s_O_walkedByLot_59, s_O_walkedByLot_60, s_O_walkedByLot_61, s_O_walkedByLot_64, s_O_walkedByLot_65, s_O_walkedByLot_68, s_O_walkedByLot_71, s_O_walkedByLot_74, s_O_walkedByLot_77, s_O_walkedByLot_80, s_O_walkedByLot_83, s_O_walkedByLot_84, s_O_walkedByLot_87, s_O_walkedByLot_90, Option.bind_some, Option.bind_none, Option.toList_some, Option.toList_none, List.cons_append, List.nil_append, if_true, if_false, rz_clr, true_or, or_true, z00, z11, bZ_eq0, bZ_eq1, nor_self, if_pos, if_neg, zI_add, zI_sub, zI_mul, zI_neg, zI_lt, zI_le, zI_eq, c_O, f_O_0, f_O_1, f_O_2, f_O_3, f_O_4, f_O_5, f_O_6, l_O_6, r_O_6, w_O_6, f_O_7, u_O_7, f_O_8, u_O_8, f_O_9, u_O_9, f_O_10, u_O_10, c_W, f_W_0, l_W_0, r_W_0, w_W_0, f_W_1, l_W_1, r_W_1, w_W_1, f_W_2, u_W_2, f_W_3, u_W_3, f_W_4, u_W_4, f_W_5, u_W_5, f_W_6, u_W_6, sset_eq, gset_at, gset_gset, gset_ne, pset_eq, pset_ne, hwo]
  | succ j ih =>
    intro k hk q hq l2
    have hwo := z_won (N := N) (g := 3) (σ := gset σ 3 q) (d + 4) (by decide) (by decide) hN (by rw [gset_at]; exact hq.2.2.2.2.1)
    rw [gset_at] at hwo
    have hqo := hq.2.2.2.2.1
    have hqt := hq.2.1
    rw [s_O_walkedByLot_2, lotN]
    by_cases c0 : q 5 0 = 0
    · rw [if_pos c0]
      have hws := wfW_lotS i3 i4 hq c0
      have hmo := z_mayOf (N := N) (g := 3) (gp := gp) (σ := gset σ 3 q) (d + 1) (by decide) (by decide) (by omega) (by omega) hN (by rw [gset_ne hne]; exact i3) (by rw [gset_ne hne]; exact i4) (by rw [gset_ne hne, gset_at]; exact hq) (m := 1 - q 2 0) (by omega)
      rw [gset_ne hne, gset_at] at hmo
      have hlt := mayW_lt q (σ gp) (1 - q 2 0)
      have ih' := ih (k + 1) (by omega) (lotS q (σ gp)) hws
      simp only [Int.natCast_add, Int.natCast_one] at ih'
      have e70 : (gset σ 3 q 0 7 0).toNat = gp := by rw [gset_ne (by decide)]; exact e7
      by_cases c1 : mayW q (σ gp) (1 - q 2 0) = 0
      · have hdp := z_doPass (N := N) (g := 3) (σ := gset σ 3 q) (d + 3) (by decide) (by decide) hN (by rw [gset_at]; exact hq.2.2.2.1) (by rw [gset_at]; exact hqo)
        rw [gset_at, gset_gset] at hdp
        have el : lotS q (σ gp) = passW q := by unfold lotS; rw [if_pos c1]
        rw [el] at ih' ⊢
        simp (disch := first | omega | exact Nat.le_of_ble_eq_true rfl) only [e_O_walkedByLot, s_O_walkedByLot_0, s_O_walkedByLot_1, s_O_walkedByLot_3, s_O_walkedByLot_5, s_O_walkedByLot_8, s_O_walkedByLot_9, s_O_walkedByLot_12, s_O_walkedByLot_15, s_O_walkedByLot_18, s_O_walkedByLot_19, s_O_walkedByLot_22, s_O_walkedByLot_23, s_O_walkedByLot_26, s_O_walkedByLot_27, s_O_walkedByLot_30, s_O_walkedByLot_33, s_O_walkedByLot_36, s_O_walkedByLot_37, s_O_walkedByLot_38, s_O_walkedByLot_41, s_O_walkedByLot_42, s_O_walkedByLot_45, s_O_walkedByLot_48, s_O_walkedByLot_51, s_O_walkedByLot_52, s_O_walkedByLot_55, s_O_walkedByLot_56, s_O_walkedByLot_59, s_O_walkedByLot_60, s_O_walkedByLot_61, s_O_walkedByLot_64, s_O_walkedByLot_65, s_O_walkedByLot_68, s_O_walkedByLot_71, s_O_walkedByLot_74, s_O_walkedByLot_77, s_O_walkedByLot_80, s_O_walkedByLot_83, s_O_walkedByLot_84, s_O_walkedByLot_87, s_O_walkedByLot_90, Option.bind_some, Option.bind_none, Option.toList_some, Option.toList_none, List.cons_append, List.nil_append, if_true, if_false, rz_clr, true_or, or_true, z00, z11, bZ_eq0, bZ_eq1, nor_self, if_pos, if_neg, zI_add, zI_sub, zI_mul, zI_neg, zI_lt, zI_le, zI_eq, c_O, f_O_0, f_O_1, f_O_2, f_O_3, f_O_4, f_O_5, f_O_6, l_O_6, r_O_6, w_O_6, f_O_7, u_O_7, f_O_8, u_O_8, f_O_9, u_O_9, f_O_10, u_O_10, c_W, f_W_0, l_W_0, r_W_0, w_W_0, f_W_1, l_W_1, r_W_1, w_W_1, f_W_2, u_W_2, f_W_3, u_W_3, f_W_4, u_W_4, f_W_5, u_W_5, f_W_6, u_W_6, c_P, f_P_0, l_P_0, r_P_0, w_P_0, f_P_1, l_P_1, r_P_1, w_P_1, f_P_2, l_P_2, r_P_2, w_P_2, f_P_3, l_P_3, r_P_3, w_P_3, f_P_4, l_P_4, r_P_4, w_P_4, f_P_5, l_P_5, r_P_5, w_P_5, f_P_6, l_P_6, r_P_6, w_P_6, f_P_7, l_P_7, r_P_7, w_P_7, f_P_8, u_P_8, f_P_9, u_P_9, f_P_10, u_P_10, gset_at, e70, z_toldMan, hmo, c1, Int.natCast_zero, hdp, ih']
      · obtain ⟨kk, ek, hk8, -⟩ := lotK_spec c1
        have hdr := z_draw (N := N) (g := 3) (σ := gset σ 3 q) (d + 4) (by decide) (by decide) hN (n := cN (fun k => (mayW q (σ gp) (1 - q 2 0)).testBit k) 8) (by have := cN_le (fun k => (mayW q (σ gp) (1 - q 2 0)).testBit k) 8; omega)
        rw [gset_at, gset_gset] at hdr
        have hrk := rnk_rg (q 6 0) (cN_pos c1 hlt)
        have hcl := cN_le (fun k => (mayW q (σ gp) (1 - q 2 0)).testBit k) 8
        have hbr := fun w => z_bitOfRank (d + 3) (mb := mayW q (σ gp) (1 - q 2 0)) (by omega) (r := rnk (q 6 0) (cN (fun k => (mayW q (σ gp) (1 - q 2 0)).testBit k) 8)) (by omega) w
        have hbr' : ∀ w, rz_dM (d + 5) iO_bitOfRank [.int (zI (mayW q (σ gp) (1 - q 2 0) : Nat)), .int (zI (rnk (q 6 0) (cN (fun k => (mayW q (σ gp) (1 - q 2 0)).testBit k) 8)))] w = some (some (.int (zI kk)), w) := by
          intro w
          have e9 : nB (fun i => (mayW q (σ gp) (1 - q 2 0)).testBit i) 32 0 0 (rnk (q 6 0) (cN (fun k => (mayW q (σ gp) (1 - q 2 0)).testBit k) 8)) = kk := ek
          rw [hbr w, e9]
        have hbc := fun w => z_bitCount (d + 4) (n := mayW q (σ gp) (1 - q 2 0)) hlt w
        have hst := z_doStep (N := N) (g := 3) (gp := gp) (σ := gset σ 3 (pset q 6 (fun _ => lotC (q 6 0)))) (d + 2) (by decide) (by decide) (by omega) (by omega) hN (by rw [gset_ne hne]; exact i3) (by rw [gset_ne hne]; exact i4) (by rw [gset_ne hne, gset_at]; exact wfW_chance hq) (k := kk) (by omega)
        rw [gset_ne hne, gset_at, gset_gset, Int.toNat_natCast] at hst
        have el : lotS q (σ gp) = stepW (pset q 6 (fun _ => lotC (q 6 0))) (σ gp) kk := by unfold lotS; rw [if_neg c1, ek, Int.toNat_natCast]
        rw [el] at ih' ⊢
        have c1' : ¬ ((mayW q (σ gp) (1 - q 2 0) : Nat) : Int) = 0 := by omega
        simp (disch := first | omega | exact Nat.le_of_ble_eq_true rfl) only [e_O_walkedByLot, s_O_walkedByLot_0, s_O_walkedByLot_1, s_O_walkedByLot_3, s_O_walkedByLot_5, s_O_walkedByLot_8, s_O_walkedByLot_9, s_O_walkedByLot_12, s_O_walkedByLot_15, s_O_walkedByLot_18, s_O_walkedByLot_19, s_O_walkedByLot_22, s_O_walkedByLot_23, s_O_walkedByLot_26, s_O_walkedByLot_27, s_O_walkedByLot_30, s_O_walkedByLot_33, s_O_walkedByLot_36, s_O_walkedByLot_37, s_O_walkedByLot_38, s_O_walkedByLot_41, s_O_walkedByLot_42, s_O_walkedByLot_45, s_O_walkedByLot_48, s_O_walkedByLot_51, s_O_walkedByLot_52, s_O_walkedByLot_55, s_O_walkedByLot_56, s_O_walkedByLot_59, s_O_walkedByLot_60, s_O_walkedByLot_61, s_O_walkedByLot_64, s_O_walkedByLot_65, s_O_walkedByLot_68, s_O_walkedByLot_71, s_O_walkedByLot_74, s_O_walkedByLot_77, s_O_walkedByLot_80, s_O_walkedByLot_83, s_O_walkedByLot_84, s_O_walkedByLot_87, s_O_walkedByLot_90, Option.bind_some, Option.bind_none, Option.toList_some, Option.toList_none, List.cons_append, List.nil_append, if_true, if_false, rz_clr, true_or, or_true, z00, z11, bZ_eq0, bZ_eq1, nor_self, if_pos, if_neg, zI_add, zI_sub, zI_mul, zI_neg, zI_lt, zI_le, zI_eq, c_O, f_O_0, f_O_1, f_O_2, f_O_3, f_O_4, f_O_5, f_O_6, l_O_6, r_O_6, w_O_6, f_O_7, u_O_7, f_O_8, u_O_8, f_O_9, u_O_9, f_O_10, u_O_10, c_W, f_W_0, l_W_0, r_W_0, w_W_0, f_W_1, l_W_1, r_W_1, w_W_1, f_W_2, u_W_2, f_W_3, u_W_3, f_W_4, u_W_4, f_W_5, u_W_5, f_W_6, u_W_6, c_P, f_P_0, l_P_0, r_P_0, w_P_0, f_P_1, l_P_1, r_P_1, w_P_1, f_P_2, l_P_2, r_P_2, w_P_2, f_P_3, l_P_3, r_P_3, w_P_3, f_P_4, l_P_4, r_P_4, w_P_4, f_P_5, l_P_5, r_P_5, w_P_5, f_P_6, l_P_6, r_P_6, w_P_6, f_P_7, l_P_7, r_P_7, w_P_7, f_P_8, u_P_8, f_P_9, u_P_9, f_P_10, u_P_10, gset_at, e70, z_toldMan, hmo, c1', hbc, hdr, hbr', hst, ih']
    · rw [if_neg c0]
      simp (disch := first | omega | exact Nat.le_of_ble_eq_true rfl) only [e_O_walkedByLot, s_O_walkedByLot_0, s_O_walkedByLot_1, s_O_walkedByLot_3, s_O_walkedByLot_5, s_O_walkedByLot_8, s_O_walkedByLot_9, s_O_walkedByLot_12, s_O_walkedByLot_15, s_O_walkedByLot_18, s_O_walkedByLot_19, s_O_walkedByLot_22, s_O_walkedByLot_23, s_O_walkedByLot_26, s_O_walkedByLot_27, s_O_walkedByLot_30, s_O_walkedByLot_33, s_O_walkedByLot_36, s_O_walkedByLot_37, s_O_walkedByLot_38, s_O_walkedByLot_41, s_O_walkedByLot_42, s_O_walkedByLot_45, s_O_walkedByLot_48, s_O_walkedByLot_51, s_O_walkedByLot_52, s_O_walkedByLot_55, s_O_walkedByLot_56, s_O_walkedByLot_59, s_O_walkedByLot_60, s_O_walkedByLot_61, s_O_walkedByLot_64, s_O_walkedByLot_65, s_O_walkedByLot_68, s_O_walkedByLot_71, s_O_walkedByLot_74, s_O_walkedByLot_77, s_O_walkedByLot_80, s_O_walkedByLot_83, s_O_walkedByLot_84, s_O_walkedByLot_87, s_O_walkedByLot_90, Option.bind_some, Option.bind_none, Option.toList_some, Option.toList_none, List.cons_append, List.nil_append, if_true, if_false, rz_clr, true_or, or_true, z00, z11, bZ_eq0, bZ_eq1, nor_self, if_pos, if_neg, zI_add, zI_sub, zI_mul, zI_neg, zI_lt, zI_le, zI_eq, c_O, f_O_0, f_O_1, f_O_2, f_O_3, f_O_4, f_O_5, f_O_6, l_O_6, r_O_6, w_O_6, f_O_7, u_O_7, f_O_8, u_O_8, f_O_9, u_O_9, f_O_10, u_O_10, c_W, f_W_0, l_W_0, r_W_0, w_W_0, f_W_1, l_W_1, r_W_1, w_W_1, f_W_2, u_W_2, f_W_3, u_W_3, f_W_4, u_W_4, f_W_5, u_W_5, f_W_6, u_W_6, gset_at, hwo]
theorem wfW_lotN {p : zP} (hw : wfP p) (hl : lkP p) : ∀ (n : Nat) (q : zP), wfW q p → wfW (lotN p n q) p := by
  intro n
  induction n with
  | zero => intro q h; exact h
  | succ n ih =>
    intro q h
    rw [lotN]
    by_cases c : q 5 0 = 0
    · rw [if_pos c]; exact ih _ (wfW_lotS hw hl h c)
    · rw [if_neg c]; exact h
/-- so many rounds: the sum, the walk behind them -/
def rdN (p : zP) : Nat → zP → Int → Int × zP
  | 0, q, s => (s, q)
  | n + 1, q, s => rdN p n (lotN p 99 (startW q p)) (s + wonW (lotN p 99 (startW q p)))
theorem wonW_rg (q : zP) : -1 ≤ wonW q ∧ wonW q ≤ 1 := by
  unfold wonW
  split
  · omega
  · split <;> omega
theorem z_rounds_lp (d : Nat) (hN : 48 ≤ N) (hI : IC σ gp) {n : Nat} (hn : n ≤ 99) : ∀ (j k : Nat), j + k = n → ∀ (q : zP) (s : Int), (-(k : Int) ≤ s ∧ s ≤ k) → ∃ q', rz_den (rz_dM (d + 6)) (rz_at tb_X4_rounds) (some .int) 32 [some (.ref (bs 0)), some (.int (zI n)), some (.int (zI s)), some (.int (zI k))] [] (wOf N (gset σ 3 q)) = some (some (.int (zI (rdN (σ gp) j q s).1)), wOf N (gset (gset σ 3 q') 2 (pset (σ 2) 6 (fun _ => (rdN (σ gp) j q s).2 6 0)))) := by
  have hI' := hI
  obtain ⟨i1, ⟨i2, -⟩, i3, i4, i5, i6, i7, i8⟩ := hI
  have e7 : (σ 0 7 0).toNat = gp := by omega
  have hne : gp ≠ 3 := by omega
  intro j
  induction j with
  | zero =>
    intro k hk q s hs
    obtain rfl : k = n := by omega
    refine ⟨q, ?_⟩
    rw [s_O_rounds_32, rdN]
    simp (disch := first | omega | exact Nat.le_of_ble_eq_true rfl) only [e_O_rounds, s_O_rounds_0, s_O_rounds_1, s_O_rounds_2, s_O_rounds_5, s_O_rounds_6, s_O_rounds_8, s_O_rounds_11, s_O_rounds_13, s_O_rounds_14, s_O_rounds_15, s_O_rounds_16, s_O_rounds_17, s_O_rounds_20, s_O_rounds_21, s_O_rounds_24, s_O_rounds_27, s_O_rounds_30, s_O_rounds_31, s_O_rounds_33, s_O_rounds_34, s_O_rounds_37, s_O_rounds_38, s_O_rounds_41, s_O_rounds_42, s_O_rounds_45, s_O_rounds_48, s_O_rounds_49, s_O_rounds_50, s_O_rounds_53, s_O_rounds_54, s_O_rounds_55, s_O_rounds_58, s_O_rounds_61, s_O_rounds_62, s_O_rounds_65, s_O_rounds_66, s_O_rounds_69, s_O_rounds_72, s_O_rounds_75, s_O_rounds_76, Option.bind_some, Option.bind_none, Option.toList_some, Option.toList_none, List.cons_append, List.nil_append, if_true, if_false, rz_clr, true_or, or_true, z00, z11, bZ_eq0, bZ_eq1, nor_self, if_pos, if_neg, zI_add, zI_sub, zI_mul, zI_neg, zI_lt, zI_le, zI_eq, c_O, f_O_0, f_O_1, f_O_2, f_O_3, f_O_4, f_O_5, f_O_6, l_O_6, r_O_6, w_O_6, f_O_7, u_O_7, f_O_8, u_O_8, f_O_9, u_O_9, f_O_10, u_O_10, c_W, f_W_0, l_W_0, r_W_0, w_W_0, f_W_1, l_W_1, r_W_1, w_W_1, f_W_2, u_W_2, f_W_3, u_W_3, f_W_4, u_W_4, f_W_5, u_W_5, f_W_6, u_W_6, sset_eq, gset_at, gset_gset, gset_ne, pset_eq, pset_ne]
  | succ j ih =>
    intro k hk q s hs
    have hst := z_start (N := N) (g := 3) (gp := gp) (σ := gset σ 3 q) (d + 4) (by decide) (by decide) (by omega) (by omega) hN
    rw [gset_at, gset_gset, gset_ne hne] at hst
    have hwl := z_lot_lp d hN hI' 99 0 rfl (startW q (σ gp)) (wfW_start i3) none
    rw [Int.natCast_zero] at hwl
    have hwb : rz_dM (d + 6) iO_walkedByLot [.ref (bs 0)] (wOf N (gset σ 3 (startW q (σ gp)))) = some (some (.int (zI (wonW (lotN (σ gp) 99 (startW q (σ gp)))))), wOf N (gset σ 3 (lotN (σ gp) 99 (startW q (σ gp))))) := by
      simp (disch := first | omega | exact Nat.le_of_ble_eq_true rfl) only [e_O_walkedByLot, s_O_walkedByLot_0, s_O_walkedByLot_1, s_O_walkedByLot_3, s_O_walkedByLot_5, s_O_walkedByLot_8, s_O_walkedByLot_9, s_O_walkedByLot_12, s_O_walkedByLot_15, s_O_walkedByLot_18, s_O_walkedByLot_19, s_O_walkedByLot_22, s_O_walkedByLot_23, s_O_walkedByLot_26, s_O_walkedByLot_27, s_O_walkedByLot_30, s_O_walkedByLot_33, s_O_walkedByLot_36, s_O_walkedByLot_37, s_O_walkedByLot_38, s_O_walkedByLot_41, s_O_walkedByLot_42, s_O_walkedByLot_45, s_O_walkedByLot_48, s_O_walkedByLot_51, s_O_walkedByLot_52, s_O_walkedByLot_55, s_O_walkedByLot_56, s_O_walkedByLot_59, s_O_walkedByLot_60, s_O_walkedByLot_61, s_O_walkedByLot_64, s_O_walkedByLot_65, s_O_walkedByLot_68, s_O_walkedByLot_71, s_O_walkedByLot_74, s_O_walkedByLot_77, s_O_walkedByLot_80, s_O_walkedByLot_83, s_O_walkedByLot_84, s_O_walkedByLot_87, s_O_walkedByLot_90, Option.bind_some, Option.bind_none, Option.toList_some, Option.toList_none, List.cons_append, List.nil_append, if_true, if_false, rz_clr, true_or, or_true, z00, z11, bZ_eq0, bZ_eq1, nor_self, if_pos, if_neg, hwl]
    have hwr := wonW_rg (lotN (σ gp) 99 (startW q (σ gp)))
    obtain ⟨q', h1⟩ := ih (k + 1) (by omega) (lotN (σ gp) 99 (startW q (σ gp))) (s + wonW (lotN (σ gp) 99 (startW q (σ gp)))) (by omega)
    simp only [Int.natCast_add, Int.natCast_one] at h1
    refine ⟨q', ?_⟩
    rw [s_O_rounds_32, rdN]
    have e70 : (gset σ 3 q 0 7 0).toNat = gp := by rw [gset_ne (by decide)]; exact e7
    simp (disch := first | omega | exact Nat.le_of_ble_eq_true rfl) only [e_O_rounds, s_O_rounds_0, s_O_rounds_1, s_O_rounds_2, s_O_rounds_5, s_O_rounds_6, s_O_rounds_8, s_O_rounds_11, s_O_rounds_13, s_O_rounds_14, s_O_rounds_15, s_O_rounds_16, s_O_rounds_17, s_O_rounds_20, s_O_rounds_21, s_O_rounds_24, s_O_rounds_27, s_O_rounds_30, s_O_rounds_31, s_O_rounds_33, s_O_rounds_34, s_O_rounds_37, s_O_rounds_38, s_O_rounds_41, s_O_rounds_42, s_O_rounds_45, s_O_rounds_48, s_O_rounds_49, s_O_rounds_50, s_O_rounds_53, s_O_rounds_54, s_O_rounds_55, s_O_rounds_58, s_O_rounds_61, s_O_rounds_62, s_O_rounds_65, s_O_rounds_66, s_O_rounds_69, s_O_rounds_72, s_O_rounds_75, s_O_rounds_76, Option.bind_some, Option.bind_none, Option.toList_some, Option.toList_none, List.cons_append, List.nil_append, if_true, if_false, rz_clr, true_or, or_true, z00, z11, bZ_eq0, bZ_eq1, nor_self, if_pos, if_neg, zI_add, zI_sub, zI_mul, zI_neg, zI_lt, zI_le, zI_eq, c_O, f_O_0, f_O_1, f_O_2, f_O_3, f_O_4, f_O_5, f_O_6, l_O_6, r_O_6, w_O_6, f_O_7, u_O_7, f_O_8, u_O_8, f_O_9, u_O_9, f_O_10, u_O_10, c_W, f_W_0, l_W_0, r_W_0, w_W_0, f_W_1, l_W_1, r_W_1, w_W_1, f_W_2, u_W_2, f_W_3, u_W_3, f_W_4, u_W_4, f_W_5, u_W_5, f_W_6, u_W_6, c_P, f_P_0, l_P_0, r_P_0, w_P_0, f_P_1, l_P_1, r_P_1, w_P_1, f_P_2, l_P_2, r_P_2, w_P_2, f_P_3, l_P_3, r_P_3, w_P_3, f_P_4, l_P_4, r_P_4, w_P_4, f_P_5, l_P_5, r_P_5, w_P_5, f_P_6, l_P_6, r_P_6, w_P_6, f_P_7, l_P_7, r_P_7, w_P_7, f_P_8, u_P_8, f_P_9, u_P_9, f_P_10, u_P_10, e70, hst, hwb, h1]
end PG
section PG2
variable {N gp : Nat} {σ : zS}
/-- rounds: the answer, the chance behind it -/
def rdA (q3 q p : zP) (n : Int) : Int × Int := rdN p n.toNat (pset q3 6 (fun _ => q 6 0)) 0 |>.map id (fun w => w 6 0)
theorem z_rounds (d : Nat) (hN : 48 ≤ N) (hI : IC σ gp) {n : Int} (hn : rg n) : ∃ q', rz_dM (d + 7) iO_rounds [.ref (bs 0), .int (zI n)] (wOf N σ) = some (some (.int (zI (if 1 ≤ n ∧ n ≤ 99 then (rdA (σ 3) (σ 2) (σ gp) n).1 else -1000000))), wOf N (if 1 ≤ n ∧ n ≤ 99 then gset (gset σ 3 q') 2 (pset (σ 2) 6 (fun _ => (rdA (σ 3) (σ 2) (σ gp) n).2)) else σ)) := by
  by_cases c : 1 ≤ n ∧ n ≤ 99
  · simp only [if_pos c]
    obtain ⟨m, rfl⟩ : ∃ m : Nat, n = m := ⟨n.toNat, by omega⟩
    obtain ⟨q', h1⟩ := z_rounds_lp d hN hI (n := m) (by omega) m 0 (by omega) (pset (σ 3) 6 (fun _ => σ 2 6 0)) 0 (by omega)
    rw [Int.natCast_zero] at h1
    refine ⟨q', ?_⟩
    unfold rdA
    rw [Int.toNat_natCast]
    have c1 : ¬ (m : Int) < 1 := by omega
    have c2 : (m : Int) ≤ 99 := by omega
    simp (disch := first | omega | exact Nat.le_of_ble_eq_true rfl) only [e_O_rounds, s_O_rounds_0, s_O_rounds_1, s_O_rounds_2, s_O_rounds_5, s_O_rounds_6, s_O_rounds_8, s_O_rounds_11, s_O_rounds_13, s_O_rounds_14, s_O_rounds_15, s_O_rounds_16, s_O_rounds_17, s_O_rounds_20, s_O_rounds_21, s_O_rounds_24, s_O_rounds_27, s_O_rounds_30, s_O_rounds_31, s_O_rounds_33, s_O_rounds_34, s_O_rounds_37, s_O_rounds_38, s_O_rounds_41, s_O_rounds_42, s_O_rounds_45, s_O_rounds_48, s_O_rounds_49, s_O_rounds_50, s_O_rounds_53, s_O_rounds_54, s_O_rounds_55, s_O_rounds_58, s_O_rounds_61, s_O_rounds_62, s_O_rounds_65, s_O_rounds_66, s_O_rounds_69, s_O_rounds_72, s_O_rounds_75, s_O_rounds_76, Option.bind_some, Option.bind_none, Option.toList_some, Option.toList_none, List.cons_append, List.nil_append, if_true, if_false, rz_clr, true_or, or_true, z00, z11, bZ_eq0, bZ_eq1, nor_self, if_pos, if_neg, zI_add, zI_sub, zI_mul, zI_neg, zI_lt, zI_le, zI_eq, c_O, f_O_0, f_O_1, f_O_2, f_O_3, f_O_4, f_O_5, f_O_6, l_O_6, r_O_6, w_O_6, f_O_7, u_O_7, f_O_8, u_O_8, f_O_9, u_O_9, f_O_10, u_O_10, c_W, f_W_0, l_W_0, r_W_0, w_W_0, f_W_1, l_W_1, r_W_1, w_W_1, f_W_2, u_W_2, f_W_3, u_W_3, f_W_4, u_W_4, f_W_5, u_W_5, f_W_6, u_W_6, sset_eq, gset_at, gset_gset, gset_ne, pset_eq, pset_ne, c1, c2, h1, Prod.map]
    rfl
  · simp only [if_neg c]
    refine ⟨σ 3, ?_⟩
    by_cases c1 : n < 1
    · simp (disch := first | omega | exact Nat.le_of_ble_eq_true rfl) only [e_O_rounds, s_O_rounds_0, s_O_rounds_1, s_O_rounds_2, s_O_rounds_5, s_O_rounds_6, s_O_rounds_8, s_O_rounds_11, s_O_rounds_13, s_O_rounds_14, s_O_rounds_15, s_O_rounds_16, s_O_rounds_17, s_O_rounds_20, s_O_rounds_21, s_O_rounds_24, s_O_rounds_27, s_O_rounds_30, s_O_rounds_31, s_O_rounds_33, s_O_rounds_34, s_O_rounds_37, s_O_rounds_38, s_O_rounds_41, s_O_rounds_42, s_O_rounds_45, s_O_rounds_48, s_O_rounds_49, s_O_rounds_50, s_O_rounds_53, s_O_rounds_54, s_O_rounds_55, s_O_rounds_58, s_O_rounds_61, s_O_rounds_62, s_O_rounds_65, s_O_rounds_66, s_O_rounds_69, s_O_rounds_72, s_O_rounds_75, s_O_rounds_76, Option.bind_some, Option.bind_none, Option.toList_some, Option.toList_none, List.cons_append, List.nil_append, if_true, if_false, rz_clr, true_or, or_true, z00, z11, bZ_eq0, bZ_eq1, nor_self, if_pos, if_neg, zI_add, zI_sub, zI_mul, zI_neg, zI_lt, zI_le, zI_eq, c_O, f_O_0, f_O_1, f_O_2, f_O_3, f_O_4, f_O_5, f_O_6, l_O_6, r_O_6, w_O_6, f_O_7, u_O_7, f_O_8, u_O_8, f_O_9, u_O_9, f_O_10, u_O_10, c_W, f_W_0, l_W_0, r_W_0, w_W_0, f_W_1, l_W_1, r_W_1, w_W_1, f_W_2, u_W_2, f_W_3, u_W_3, f_W_4, u_W_4, f_W_5, u_W_5, f_W_6, u_W_6, c1]
    · have c2 : ¬ n ≤ 99 := by omega
      simp (disch := first | omega | exact Nat.le_of_ble_eq_true rfl) only [e_O_rounds, s_O_rounds_0, s_O_rounds_1, s_O_rounds_2, s_O_rounds_5, s_O_rounds_6, s_O_rounds_8, s_O_rounds_11, s_O_rounds_13, s_O_rounds_14, s_O_rounds_15, s_O_rounds_16, s_O_rounds_17, s_O_rounds_20, s_O_rounds_21, s_O_rounds_24, s_O_rounds_27, s_O_rounds_30, s_O_rounds_31, s_O_rounds_33, s_O_rounds_34, s_O_rounds_37, s_O_rounds_38, s_O_rounds_41, s_O_rounds_42, s_O_rounds_45, s_O_rounds_48, s_O_rounds_49, s_O_rounds_50, s_O_rounds_53, s_O_rounds_54, s_O_rounds_55, s_O_rounds_58, s_O_rounds_61, s_O_rounds_62, s_O_rounds_65, s_O_rounds_66, s_O_rounds_69, s_O_rounds_72, s_O_rounds_75, s_O_rounds_76, Option.bind_some, Option.bind_none, Option.toList_some, Option.toList_none, List.cons_append, List.nil_append, if_true, if_false, rz_clr, true_or, or_true, z00, z11, bZ_eq0, bZ_eq1, nor_self, if_pos, if_neg, zI_add, zI_sub, zI_mul, zI_neg, zI_lt, zI_le, zI_eq, c_O, f_O_0, f_O_1, f_O_2, f_O_3, f_O_4, f_O_5, f_O_6, l_O_6, r_O_6, w_O_6, f_O_7, u_O_7, f_O_8, u_O_8, f_O_9, u_O_9, f_O_10, u_O_10, c_W, f_W_0, l_W_0, r_W_0, w_W_0, f_W_1, l_W_1, r_W_1, w_W_1, f_W_2, u_W_2, f_W_3, u_W_3, f_W_4, u_W_4, f_W_5, u_W_5, f_W_6, u_W_6, c1, c2]
/-- the trace's sums: longs -/
theorem lo_add (a b : Int) : Int64.ofInt a + Int64.ofInt b = Int64.ofInt (a + b) := by rw [Int64.ofInt_add]
theorem lo_1 (a : Int) : Int64.ofInt a + 1 = Int64.ofInt (a + 1) := by rw [Int64.ofInt_add]; rfl
theorem lo_10 (a : Int) : Int64.ofInt a + 10 = Int64.ofInt (a + 10) := by rw [Int64.ofInt_add]; rfl
theorem lo_100 (a : Int) : Int64.ofInt a + 100 = Int64.ofInt (a + 100) := by rw [Int64.ofInt_add]; rfl
theorem lo_1000 (a : Int) : Int64.ofInt a + 1000 = Int64.ofInt (a + 1000) := by rw [Int64.ofInt_add]; rfl
theorem lo_10000 (a : Int) : Int64.ofInt a + 10000 = Int64.ofInt (a + 10000) := by rw [Int64.ofInt_add]; rfl
theorem lo_100000 (a : Int) : Int64.ofInt a + 100000 = Int64.ofInt (a + 100000) := by rw [Int64.ofInt_add]; rfl
theorem gat_of {n : Nat} {f : Nat → Int} {i : Int} (h : 0 ≤ i) (h2 : i < n) : gat n f i = f i.toNat := by unfold gat; rw [if_pos ⟨h, h2⟩]
def trc (σ : zS) (v : Int) : zS := gset σ 0 (pset (σ 0) 10 (fun _ => v))
theorem trc_eq (σ : zS) (v : Int) : trc σ v = gset σ 0 (pset (σ 0) 10 (fun _ => v)) := rfl
theorem trc_ne (σ : zS) (v : Int) {g : Nat} (h : g ≠ 0) : trc σ v g = σ g := gset_ne h
theorem trc_IC {σ : zS} {gp : Nat} (v : Int) (h : IC σ gp) : IC (trc σ v) gp := by
  have hg : gp ≠ 0 := by have := h.1; omega
  unfold IC
  rw [trc_ne _ _ hg, trc_ne _ _ (by decide : 2 ≠ 0), trc_ne _ _ (by decide : 6 ≠ 0)]
  exact h
theorem z_rateStep (d : Nat) (hN : 48 ≤ N) {m : Int} (hm : 0 ≤ m ∧ m ≤ 1) : rz_dM (d + 2) iO_rateStep [.ref (bs 0), .int (zI m)] (wOf N σ) = some (some (.int (zI (σ 2 0 m.toNat))), wOf N (trc σ (σ 0 10 0 + 1))) := by
  unfold trc
  simp (disch := first | omega | exact Nat.le_of_ble_eq_true rfl) only [e_O_rateStep, s_O_rateStep_0, s_O_rateStep_1, s_O_rateStep_2, s_O_rateStep_5, s_O_rateStep_6, s_O_rateStep_7, s_O_rateStep_10, s_O_rateStep_11, s_O_rateStep_14, s_O_rateStep_17, s_O_rateStep_18, s_O_rateStep_21, Option.bind_some, Option.bind_none, Option.toList_some, Option.toList_none, List.cons_append, List.nil_append, if_true, if_false, rz_clr, true_or, or_true, z00, z11, bZ_eq0, bZ_eq1, nor_self, if_pos, if_neg, zI_add, zI_sub, zI_mul, zI_neg, zI_lt, zI_le, zI_eq, c_O, f_O_0, f_O_1, f_O_2, f_O_3, f_O_4, f_O_5, f_O_6, l_O_6, r_O_6, w_O_6, f_O_7, u_O_7, f_O_8, u_O_8, f_O_9, u_O_9, f_O_10, u_O_10, c_W, f_W_0, l_W_0, r_W_0, w_W_0, f_W_1, l_W_1, r_W_1, w_W_1, f_W_2, u_W_2, f_W_3, u_W_3, f_W_4, u_W_4, f_W_5, u_W_5, f_W_6, u_W_6, sset_eq, gset_at, gset_gset, gset_ne, pset_eq, pset_ne, a_W_0, p_W_0, a_W_1, p_W_1, lo_1, gat_of]
theorem tr_0 (σ : zS) (v : Int) : trc σ v 0 10 0 = v := by unfold trc; rw [gset_at, pset_eq]
theorem tr_tr (σ : zS) (v u : Int) : trc (trc σ v) u = trc σ u := by
  unfold trc
  rw [gset_gset, gset_at]
  congr 1
  funext k
  unfold pset
  by_cases h : k = 10
  · simp [h]
  · simp [h]
theorem sset_tr (σ : zS) (f : Nat → Int) : sset σ 0 10 f = gset σ 0 (pset (σ 0) 10 f) := sset_eq _ _ _ _
theorem sset_tr' (σ : zS) (v : Int) : sset σ 0 10 (fun _ => v) = trc σ v := sset_eq _ _ _ _
theorem z_rateTold (d : Nat) (hN : 48 ≤ N) (hI : IC σ gp) {m : Int} (hm : 0 ≤ m ∧ m ≤ 1) : rz_dM (d + 5) iO_rateTold [.ref (bs 0), .int (zI m)] (wOf N σ) = some (some (.int (zI (σ 2 0 m.toNat + (cN (fun k => (mayW (σ 2) (σ gp) m).testBit k) 8 : Nat)))), wOf N (trc σ (σ 0 10 0 + 11))) := by
  have hI1 := trc_IC (σ 0 10 0 + 11) hI
  obtain ⟨i1, ⟨i2, -⟩, i3, i4, i5, i6, i7, i8⟩ := hI
  have hg : gp ≠ 0 := by omega
  obtain ⟨-, -, j3, j4, j5, -, -, -⟩ := hI1
  have h1 := z_rateStep (N := N) (σ := trc σ (σ 0 10 0 + 10)) (d + 2) hN hm
  rw [tr_0, tr_tr, trc_ne _ _ (by decide), show σ 0 10 0 + 10 + 1 = σ 0 10 0 + 11 by omega] at h1
  have hmo := z_mayOf (N := N) (g := 2) (gp := gp) (σ := trc σ (σ 0 10 0 + 11)) d (by decide) (by decide) (by omega) (by omega) hN j3 j4 j5 (m := m) (by omega)
  rw [trc_ne _ _ hg, trc_ne _ _ (by decide)] at hmo
  have hbc := fun w => z_bitCount (d + 3) (n := mayW (σ 2) (σ gp) m) (mayW_lt _ _ _) w
  have e7 : (trc σ (σ 0 10 0 + 11) 0 7 0).toNat = gp := by
    unfold trc; rw [gset_at, pset_ne (by decide)]; omega
  simp (disch := first | omega | exact Nat.le_of_ble_eq_true rfl) only [e_O_rateTold, s_O_rateTold_0, s_O_rateTold_1, s_O_rateTold_2, s_O_rateTold_5, s_O_rateTold_8, s_O_rateTold_9, s_O_rateTold_12, s_O_rateTold_13, s_O_rateTold_14, s_O_rateTold_17, s_O_rateTold_18, s_O_rateTold_21, s_O_rateTold_22, s_O_rateTold_25, s_O_rateTold_26, s_O_rateTold_29, s_O_rateTold_32, s_O_rateTold_33, Option.bind_some, Option.bind_none, Option.toList_some, Option.toList_none, List.cons_append, List.nil_append, if_true, if_false, rz_clr, true_or, or_true, z00, z11, bZ_eq0, bZ_eq1, nor_self, if_pos, if_neg, zI_add, zI_sub, zI_mul, zI_neg, zI_lt, zI_le, zI_eq, c_O, f_O_0, f_O_1, f_O_2, f_O_3, f_O_4, f_O_5, f_O_6, l_O_6, r_O_6, w_O_6, f_O_7, u_O_7, f_O_8, u_O_8, f_O_9, u_O_9, f_O_10, u_O_10, c_W, f_W_0, l_W_0, r_W_0, w_W_0, f_W_1, l_W_1, r_W_1, w_W_1, f_W_2, u_W_2, f_W_3, u_W_3, f_W_4, u_W_4, f_W_5, u_W_5, f_W_6, u_W_6, lo_10, sset_tr', h1, hmo, e7, hbc]
theorem z_rateRung (d : Nat) (hN : 48 ≤ N) {m : Int} (hm : 0 ≤ m ∧ m ≤ 1) : rz_dM (d + 3) iO_rateRung [.ref (bs 0), .int (zI m)] (wOf N σ) = some (some (.int (zI (σ 2 0 m.toNat + σ 2 1 m.toNat))), wOf N (trc σ (σ 0 10 0 + 101))) := by
  have h1 := z_rateStep (N := N) (σ := trc σ (σ 0 10 0 + 100)) d hN hm
  rw [tr_0, tr_tr, trc_ne _ _ (by decide), show σ 0 10 0 + 100 + 1 = σ 0 10 0 + 101 by omega] at h1
  simp (disch := first | omega | exact Nat.le_of_ble_eq_true rfl) only [e_O_rateRung, s_O_rateRung_0, s_O_rateRung_1, s_O_rateRung_2, s_O_rateRung_5, s_O_rateRung_8, s_O_rateRung_9, s_O_rateRung_12, s_O_rateRung_13, s_O_rateRung_14, s_O_rateRung_17, s_O_rateRung_18, s_O_rateRung_21, s_O_rateRung_24, s_O_rateRung_25, s_O_rateRung_28, s_O_rateRung_29, Option.bind_some, Option.bind_none, Option.toList_some, Option.toList_none, List.cons_append, List.nil_append, if_true, if_false, rz_clr, true_or, or_true, z00, z11, bZ_eq0, bZ_eq1, nor_self, if_pos, if_neg, zI_add, zI_sub, zI_mul, zI_neg, zI_lt, zI_le, zI_eq, c_O, f_O_0, f_O_1, f_O_2, f_O_3, f_O_4, f_O_5, f_O_6, l_O_6, r_O_6, w_O_6, f_O_7, u_O_7, f_O_8, u_O_8, f_O_9, u_O_9, f_O_10, u_O_10, c_W, f_W_0, l_W_0, r_W_0, w_W_0, f_W_1, l_W_1, r_W_1, w_W_1, f_W_2, u_W_2, f_W_3, u_W_3, f_W_4, u_W_4, f_W_5, u_W_5, f_W_6, u_W_6, lo_100, sset_tr', h1, a_W_0, p_W_0, a_W_1, p_W_1, gat_of, trc_ne]
theorem z_rateRefused (d : Nat) (hN : 48 ≤ N) (hI : IC σ gp) {m : Int} (hm : 0 ≤ m ∧ m ≤ 1) : rz_dM (d + 6) iO_rateRefused [.ref (bs 0), .int (zI m)] (wOf N σ) = some (some (.int (zI (2 * (σ 2 0 m.toNat + (cN (fun k => (mayW (σ 2) (σ gp) m).testBit k) 8 : Nat))))), wOf N (trc σ (σ 0 10 0 + 1011))) := by
  have hg : gp ≠ 0 := by have := hI.1; omega
  have h1 := z_rateTold (N := N) (σ := trc σ (σ 0 10 0 + 1000)) (gp := gp) d hN (trc_IC _ hI) hm
  rw [tr_0, tr_tr, trc_ne _ _ (by decide), trc_ne _ _ hg, show σ 0 10 0 + 1000 + 11 = σ 0 10 0 + 1011 by omega] at h1
  simp (disch := first | omega | exact Nat.le_of_ble_eq_true rfl) only [e_O_rateRefused, s_O_rateRefused_0, s_O_rateRefused_1, s_O_rateRefused_2, s_O_rateRefused_5, s_O_rateRefused_8, s_O_rateRefused_9, s_O_rateRefused_12, s_O_rateRefused_13, s_O_rateRefused_14, s_O_rateRefused_15, s_O_rateRefused_18, s_O_rateRefused_19, Option.bind_some, Option.bind_none, Option.toList_some, Option.toList_none, List.cons_append, List.nil_append, if_true, if_false, rz_clr, true_or, or_true, z00, z11, bZ_eq0, bZ_eq1, nor_self, if_pos, if_neg, zI_add, zI_sub, zI_mul, zI_neg, zI_lt, zI_le, zI_eq, c_O, f_O_0, f_O_1, f_O_2, f_O_3, f_O_4, f_O_5, f_O_6, l_O_6, r_O_6, w_O_6, f_O_7, u_O_7, f_O_8, u_O_8, f_O_9, u_O_9, f_O_10, u_O_10, lo_1000, sset_tr', h1]
theorem z_rateFatal (d : Nat) (hN : 48 ≤ N) (hI : IC σ gp) {m : Int} (hm : 0 ≤ m ∧ m ≤ 1) : rz_dM (d + 4) iO_rateFatal [.ref (bs 0), .int (zI m)] (wOf N σ) = some (some (.int (zI (σ 2 0 m.toNat + σ 2 1 m.toNat - σ gp 5 m.toNat))), wOf N (trc σ (σ 0 10 0 + 10101))) := by
  obtain ⟨i1, ⟨i2, -⟩, i3, i4, i5, i6, i7, i8⟩ := hI
  have hg : gp ≠ 0 := by omega
  have h1 := z_rateRung (N := N) (σ := trc σ (σ 0 10 0 + 10000)) d hN hm
  rw [tr_0, tr_tr, trc_ne _ _ (by decide), show σ 0 10 0 + 10000 + 101 = σ 0 10 0 + 10101 by omega] at h1
  have e7 : (trc σ (σ 0 10 0 + 10101) 0 7 0).toNat = gp := by
    unfold trc; rw [gset_at, pset_ne (by decide)]; omega
  simp (disch := first | omega | exact Nat.le_of_ble_eq_true rfl) only [e_O_rateFatal, s_O_rateFatal_0, s_O_rateFatal_1, s_O_rateFatal_2, s_O_rateFatal_5, s_O_rateFatal_8, s_O_rateFatal_9, s_O_rateFatal_12, s_O_rateFatal_13, s_O_rateFatal_14, s_O_rateFatal_17, s_O_rateFatal_18, s_O_rateFatal_21, s_O_rateFatal_24, s_O_rateFatal_25, s_O_rateFatal_28, s_O_rateFatal_29, Option.bind_some, Option.bind_none, Option.toList_some, Option.toList_none, List.cons_append, List.nil_append, if_true, if_false, rz_clr, true_or, or_true, z00, z11, bZ_eq0, bZ_eq1, nor_self, if_pos, if_neg, zI_add, zI_sub, zI_mul, zI_neg, zI_lt, zI_le, zI_eq, c_O, f_O_0, f_O_1, f_O_2, f_O_3, f_O_4, f_O_5, f_O_6, l_O_6, r_O_6, w_O_6, f_O_7, u_O_7, f_O_8, u_O_8, f_O_9, u_O_9, f_O_10, u_O_10, c_P, f_P_0, l_P_0, r_P_0, w_P_0, f_P_1, l_P_1, r_P_1, w_P_1, f_P_2, l_P_2, r_P_2, w_P_2, f_P_3, l_P_3, r_P_3, w_P_3, f_P_4, l_P_4, r_P_4, w_P_4, f_P_5, l_P_5, r_P_5, w_P_5, f_P_6, l_P_6, r_P_6, w_P_6, f_P_7, l_P_7, r_P_7, w_P_7, f_P_8, u_P_8, f_P_9, u_P_9, f_P_10, u_P_10, lo_10000, sset_tr', h1, e7, a_P_0, p_P_0, a_P_1, p_P_1, a_P_2, p_P_2, a_P_3, p_P_3, a_P_4, p_P_4, a_P_5, p_P_5, a_P_6, p_P_6, a_P_7, p_P_7, gat_of, trc_ne]
theorem z_ratePassed (d : Nat) (hN : 48 ≤ N) {m : Int} (hm : 0 ≤ m ∧ m ≤ 1) : rz_dM (d + 3) iO_ratePassed [.ref (bs 0), .int (zI m)] (wOf N σ) = some (some (.int (zI (σ 2 0 m.toNat - σ 2 4 0))), wOf N (trc σ (σ 0 10 0 + 100001))) := by
  have h1 := z_rateStep (N := N) (σ := trc σ (σ 0 10 0 + 100000)) d hN hm
  rw [tr_0, tr_tr, trc_ne _ _ (by decide), show σ 0 10 0 + 100000 + 1 = σ 0 10 0 + 100001 by omega] at h1
  simp (disch := first | omega | exact Nat.le_of_ble_eq_true rfl) only [e_O_ratePassed, s_O_ratePassed_0, s_O_ratePassed_1, s_O_ratePassed_2, s_O_ratePassed_5, s_O_ratePassed_8, s_O_ratePassed_9, s_O_ratePassed_12, s_O_ratePassed_13, s_O_ratePassed_14, s_O_ratePassed_17, s_O_ratePassed_18, s_O_ratePassed_21, s_O_ratePassed_24, s_O_ratePassed_25, Option.bind_some, Option.bind_none, Option.toList_some, Option.toList_none, List.cons_append, List.nil_append, if_true, if_false, rz_clr, true_or, or_true, z00, z11, bZ_eq0, bZ_eq1, nor_self, if_pos, if_neg, zI_add, zI_sub, zI_mul, zI_neg, zI_lt, zI_le, zI_eq, c_O, f_O_0, f_O_1, f_O_2, f_O_3, f_O_4, f_O_5, f_O_6, l_O_6, r_O_6, w_O_6, f_O_7, u_O_7, f_O_8, u_O_8, f_O_9, u_O_9, f_O_10, u_O_10, c_W, f_W_0, l_W_0, r_W_0, w_W_0, f_W_1, l_W_1, r_W_1, w_W_1, f_W_2, u_W_2, f_W_3, u_W_3, f_W_4, u_W_4, f_W_5, u_W_5, f_W_6, u_W_6, lo_100000, sset_tr', h1, trc_ne]
/-- rate: the answer, what the trace grows by -/
def rateA (q p : zP) (k m : Int) : Int × Int :=
  if ¬ (0 ≤ m ∧ m < 2) then (-1000000, 0)
  else if k = 0 then (q 0 m.toNat, 1)
  else if k = 1 then (q 0 m.toNat + (cN (fun k => (mayW q p m).testBit k) 8 : Nat), 11)
  else if k = 2 then (q 0 m.toNat + q 1 m.toNat, 101)
  else if k = 3 then (2 * (q 0 m.toNat + (cN (fun k => (mayW q p m).testBit k) 8 : Nat)), 1011)
  else if k = 4 then (q 0 m.toNat + q 1 m.toNat - p 5 m.toNat, 10101)
  else if k = 5 then (q 0 m.toNat - q 4 0, 100001)
  else (-1000000, 0)
theorem z_rate (d : Nat) (hN : 48 ≤ N) (hI : IC σ gp) {k m : Int} (hk : rg k) (hm : rg m) : rz_dM (d + 7) iO_rate [.ref (bs 0), .int (zI k), .int (zI m)] (wOf N σ) = some (some (.int (zI (rateA (σ 2) (σ gp) k m).1)), wOf N (if (0 ≤ m ∧ m < 2) ∧ 0 ≤ k ∧ k ≤ 5 then trc σ (σ 0 10 0 + (rateA (σ 2) (σ gp) k m).2) else σ)) := by
  have hib := fun w => z_isBelow (d + 5) (v := m) (b := 2) hm (by decide) w
  unfold rateA
  by_cases c : 0 ≤ m ∧ m < 2
  · have hm' : 0 ≤ m ∧ m ≤ 1 := by omega
    simp only [c, not_true_eq_false, if_false, true_and, and_self]
    by_cases e0 : k = 0
    · subst e0
      have h := z_rateStep (N := N) (σ := σ) (d + 4) hN hm'
      simp (disch := first | omega | exact Nat.le_of_ble_eq_true rfl) only [e_O_rate, s_O_rate_0, s_O_rate_1, s_O_rate_2, s_O_rate_5, s_O_rate_8, s_O_rate_10, s_O_rate_11, s_O_rate_12, s_O_rate_52, s_O_rate_53, s_O_rate_54, s_O_rate_57, s_O_rate_58, s_O_rate_59, s_O_rate_60, s_O_rate_63, s_O_rate_64, s_O_rate_65, s_O_rate_66, s_O_rate_69, s_O_rate_70, s_O_rate_71, s_O_rate_72, s_O_rate_75, s_O_rate_76, s_O_rate_77, s_O_rate_78, s_O_rate_81, s_O_rate_82, s_O_rate_83, s_O_rate_84, s_O_rate_87, s_O_rate_88, s_O_rate_90, Option.bind_some, Option.bind_none, Option.toList_some, Option.toList_none, List.cons_append, List.nil_append, if_true, if_false, rz_clr, true_or, or_true, z00, z11, bZ_eq0, bZ_eq1, nor_self, if_pos, if_neg, zI_add, zI_sub, zI_mul, zI_neg, zI_lt, zI_le, zI_eq, c_O, f_O_0, f_O_1, f_O_2, f_O_3, f_O_4, f_O_5, f_O_6, l_O_6, r_O_6, w_O_6, f_O_7, u_O_7, f_O_8, u_O_8, f_O_9, u_O_9, f_O_10, u_O_10, hib, bZ_pos c, h] <;> rfl
    · by_cases e1 : k = 1
      · subst e1
        have h := z_rateTold (N := N) (σ := σ) (d + 1) hN hI hm'
        simp (disch := first | omega | exact Nat.le_of_ble_eq_true rfl) only [e_O_rate, s_O_rate_0, s_O_rate_1, s_O_rate_2, s_O_rate_5, s_O_rate_8, s_O_rate_10, s_O_rate_11, s_O_rate_12, s_O_rate_52, s_O_rate_53, s_O_rate_54, s_O_rate_57, s_O_rate_58, s_O_rate_59, s_O_rate_60, s_O_rate_63, s_O_rate_64, s_O_rate_65, s_O_rate_66, s_O_rate_69, s_O_rate_70, s_O_rate_71, s_O_rate_72, s_O_rate_75, s_O_rate_76, s_O_rate_77, s_O_rate_78, s_O_rate_81, s_O_rate_82, s_O_rate_83, s_O_rate_84, s_O_rate_87, s_O_rate_88, s_O_rate_90, Option.bind_some, Option.bind_none, Option.toList_some, Option.toList_none, List.cons_append, List.nil_append, if_true, if_false, rz_clr, true_or, or_true, z00, z11, bZ_eq0, bZ_eq1, nor_self, if_pos, if_neg, zI_add, zI_sub, zI_mul, zI_neg, zI_lt, zI_le, zI_eq, c_O, f_O_0, f_O_1, f_O_2, f_O_3, f_O_4, f_O_5, f_O_6, l_O_6, r_O_6, w_O_6, f_O_7, u_O_7, f_O_8, u_O_8, f_O_9, u_O_9, f_O_10, u_O_10, hib, bZ_pos c, h] <;> rfl
      · by_cases e2 : k = 2
        · subst e2
          have h := z_rateRung (N := N) (σ := σ) (d + 3) hN hm'
          simp (disch := first | omega | exact Nat.le_of_ble_eq_true rfl) only [e_O_rate, s_O_rate_0, s_O_rate_1, s_O_rate_2, s_O_rate_5, s_O_rate_8, s_O_rate_10, s_O_rate_11, s_O_rate_12, s_O_rate_52, s_O_rate_53, s_O_rate_54, s_O_rate_57, s_O_rate_58, s_O_rate_59, s_O_rate_60, s_O_rate_63, s_O_rate_64, s_O_rate_65, s_O_rate_66, s_O_rate_69, s_O_rate_70, s_O_rate_71, s_O_rate_72, s_O_rate_75, s_O_rate_76, s_O_rate_77, s_O_rate_78, s_O_rate_81, s_O_rate_82, s_O_rate_83, s_O_rate_84, s_O_rate_87, s_O_rate_88, s_O_rate_90, Option.bind_some, Option.bind_none, Option.toList_some, Option.toList_none, List.cons_append, List.nil_append, if_true, if_false, rz_clr, true_or, or_true, z00, z11, bZ_eq0, bZ_eq1, nor_self, if_pos, if_neg, zI_add, zI_sub, zI_mul, zI_neg, zI_lt, zI_le, zI_eq, c_O, f_O_0, f_O_1, f_O_2, f_O_3, f_O_4, f_O_5, f_O_6, l_O_6, r_O_6, w_O_6, f_O_7, u_O_7, f_O_8, u_O_8, f_O_9, u_O_9, f_O_10, u_O_10, hib, bZ_pos c, h] <;> rfl
        · by_cases e3 : k = 3
          · subst e3
            have h := z_rateRefused (N := N) (σ := σ) d hN hI hm'
            simp (disch := first | omega | exact Nat.le_of_ble_eq_true rfl) only [e_O_rate, s_O_rate_0, s_O_rate_1, s_O_rate_2, s_O_rate_5, s_O_rate_8, s_O_rate_10, s_O_rate_11, s_O_rate_12, s_O_rate_52, s_O_rate_53, s_O_rate_54, s_O_rate_57, s_O_rate_58, s_O_rate_59, s_O_rate_60, s_O_rate_63, s_O_rate_64, s_O_rate_65, s_O_rate_66, s_O_rate_69, s_O_rate_70, s_O_rate_71, s_O_rate_72, s_O_rate_75, s_O_rate_76, s_O_rate_77, s_O_rate_78, s_O_rate_81, s_O_rate_82, s_O_rate_83, s_O_rate_84, s_O_rate_87, s_O_rate_88, s_O_rate_90, Option.bind_some, Option.bind_none, Option.toList_some, Option.toList_none, List.cons_append, List.nil_append, if_true, if_false, rz_clr, true_or, or_true, z00, z11, bZ_eq0, bZ_eq1, nor_self, if_pos, if_neg, zI_add, zI_sub, zI_mul, zI_neg, zI_lt, zI_le, zI_eq, c_O, f_O_0, f_O_1, f_O_2, f_O_3, f_O_4, f_O_5, f_O_6, l_O_6, r_O_6, w_O_6, f_O_7, u_O_7, f_O_8, u_O_8, f_O_9, u_O_9, f_O_10, u_O_10, hib, bZ_pos c, h] <;> rfl
          · by_cases e4 : k = 4
            · subst e4
              have h := z_rateFatal (N := N) (σ := σ) (d + 2) hN hI hm'
              simp (disch := first | omega | exact Nat.le_of_ble_eq_true rfl) only [e_O_rate, s_O_rate_0, s_O_rate_1, s_O_rate_2, s_O_rate_5, s_O_rate_8, s_O_rate_10, s_O_rate_11, s_O_rate_12, s_O_rate_52, s_O_rate_53, s_O_rate_54, s_O_rate_57, s_O_rate_58, s_O_rate_59, s_O_rate_60, s_O_rate_63, s_O_rate_64, s_O_rate_65, s_O_rate_66, s_O_rate_69, s_O_rate_70, s_O_rate_71, s_O_rate_72, s_O_rate_75, s_O_rate_76, s_O_rate_77, s_O_rate_78, s_O_rate_81, s_O_rate_82, s_O_rate_83, s_O_rate_84, s_O_rate_87, s_O_rate_88, s_O_rate_90, Option.bind_some, Option.bind_none, Option.toList_some, Option.toList_none, List.cons_append, List.nil_append, if_true, if_false, rz_clr, true_or, or_true, z00, z11, bZ_eq0, bZ_eq1, nor_self, if_pos, if_neg, zI_add, zI_sub, zI_mul, zI_neg, zI_lt, zI_le, zI_eq, c_O, f_O_0, f_O_1, f_O_2, f_O_3, f_O_4, f_O_5, f_O_6, l_O_6, r_O_6, w_O_6, f_O_7, u_O_7, f_O_8, u_O_8, f_O_9, u_O_9, f_O_10, u_O_10, hib, bZ_pos c, h] <;> rfl
            · by_cases e5 : k = 5
              · subst e5
                have h := z_ratePassed (N := N) (σ := σ) (d + 3) hN hm'
                simp (disch := first | omega | exact Nat.le_of_ble_eq_true rfl) only [e_O_rate, s_O_rate_0, s_O_rate_1, s_O_rate_2, s_O_rate_5, s_O_rate_8, s_O_rate_10, s_O_rate_11, s_O_rate_12, s_O_rate_52, s_O_rate_53, s_O_rate_54, s_O_rate_57, s_O_rate_58, s_O_rate_59, s_O_rate_60, s_O_rate_63, s_O_rate_64, s_O_rate_65, s_O_rate_66, s_O_rate_69, s_O_rate_70, s_O_rate_71, s_O_rate_72, s_O_rate_75, s_O_rate_76, s_O_rate_77, s_O_rate_78, s_O_rate_81, s_O_rate_82, s_O_rate_83, s_O_rate_84, s_O_rate_87, s_O_rate_88, s_O_rate_90, Option.bind_some, Option.bind_none, Option.toList_some, Option.toList_none, List.cons_append, List.nil_append, if_true, if_false, rz_clr, true_or, or_true, z00, z11, bZ_eq0, bZ_eq1, nor_self, if_pos, if_neg, zI_add, zI_sub, zI_mul, zI_neg, zI_lt, zI_le, zI_eq, c_O, f_O_0, f_O_1, f_O_2, f_O_3, f_O_4, f_O_5, f_O_6, l_O_6, r_O_6, w_O_6, f_O_7, u_O_7, f_O_8, u_O_8, f_O_9, u_O_9, f_O_10, u_O_10, hib, bZ_pos c, h] <;> rfl
              · have e6 : ¬ (0 ≤ k ∧ k ≤ 5) := by omega
                simp (disch := first | omega | exact Nat.le_of_ble_eq_true rfl) only [e_O_rate, s_O_rate_0, s_O_rate_1, s_O_rate_2, s_O_rate_5, s_O_rate_8, s_O_rate_10, s_O_rate_11, s_O_rate_12, s_O_rate_52, s_O_rate_53, s_O_rate_54, s_O_rate_57, s_O_rate_58, s_O_rate_59, s_O_rate_60, s_O_rate_63, s_O_rate_64, s_O_rate_65, s_O_rate_66, s_O_rate_69, s_O_rate_70, s_O_rate_71, s_O_rate_72, s_O_rate_75, s_O_rate_76, s_O_rate_77, s_O_rate_78, s_O_rate_81, s_O_rate_82, s_O_rate_83, s_O_rate_84, s_O_rate_87, s_O_rate_88, s_O_rate_90, Option.bind_some, Option.bind_none, Option.toList_some, Option.toList_none, List.cons_append, List.nil_append, if_true, if_false, rz_clr, true_or, or_true, z00, z11, bZ_eq0, bZ_eq1, nor_self, if_pos, if_neg, zI_add, zI_sub, zI_mul, zI_neg, zI_lt, zI_le, zI_eq, c_O, f_O_0, f_O_1, f_O_2, f_O_3, f_O_4, f_O_5, f_O_6, l_O_6, r_O_6, w_O_6, f_O_7, u_O_7, f_O_8, u_O_8, f_O_9, u_O_9, f_O_10, u_O_10, hib, bZ_pos c, e0, e1, e2, e3, e4, e5, e6]
  · simp (disch := first | omega | exact Nat.le_of_ble_eq_true rfl) only [e_O_rate, s_O_rate_0, s_O_rate_1, s_O_rate_2, s_O_rate_5, s_O_rate_8, s_O_rate_10, s_O_rate_11, s_O_rate_12, s_O_rate_52, s_O_rate_53, s_O_rate_54, s_O_rate_57, s_O_rate_58, s_O_rate_59, s_O_rate_60, s_O_rate_63, s_O_rate_64, s_O_rate_65, s_O_rate_66, s_O_rate_69, s_O_rate_70, s_O_rate_71, s_O_rate_72, s_O_rate_75, s_O_rate_76, s_O_rate_77, s_O_rate_78, s_O_rate_81, s_O_rate_82, s_O_rate_83, s_O_rate_84, s_O_rate_87, s_O_rate_88, s_O_rate_90, Option.bind_some, Option.bind_none, Option.toList_some, Option.toList_none, List.cons_append, List.nil_append, if_true, if_false, rz_clr, true_or, or_true, z00, z11, bZ_eq0, bZ_eq1, nor_self, if_pos, if_neg, zI_add, zI_sub, zI_mul, zI_neg, zI_lt, zI_le, zI_eq, c_O, f_O_0, f_O_1, f_O_2, f_O_3, f_O_4, f_O_5, f_O_6, l_O_6, r_O_6, w_O_6, f_O_7, u_O_7, f_O_8, u_O_8, f_O_9, u_O_9, f_O_10, u_O_10, hib, bZ_neg c, c, not_false_eq_true, false_and]
/-- images -/
theorem z_imageOf (d : Nat) (hN : 48 ≤ N) {i : Int} (hi : 0 ≤ i ∧ i < 2) : rz_dM (d + 1) iO_imageOf [.ref (bs 0), .int (zI i)] (wOf N σ) = some (some (.ref (bs (4 + i.toNat))), wOf N σ) := by
  have e : i = 0 ∨ i = 1 := by omega
  rcases e with e | e <;> subst e
  · simp (disch := first | omega | exact Nat.le_of_ble_eq_true rfl) only [e_O_imageOf, s_O_imageOf_0, s_O_imageOf_1, s_O_imageOf_4, s_O_imageOf_5, s_O_imageOf_8, s_O_imageOf_11, s_O_imageOf_12, s_O_imageOf_15, Option.bind_some, Option.bind_none, Option.toList_some, Option.toList_none, List.cons_append, List.nil_append, if_true, if_false, rz_clr, true_or, or_true, z00, z11, bZ_eq0, bZ_eq1, nor_self, if_pos, if_neg, zI_add, zI_sub, zI_mul, zI_neg, zI_lt, zI_le, zI_eq, c_O, f_O_0, f_O_1, f_O_2, f_O_3, f_O_4, f_O_5, f_O_6, l_O_6, r_O_6, w_O_6, f_O_7, u_O_7, f_O_8, u_O_8, f_O_9, u_O_9, f_O_10, u_O_10]
    rfl
  · simp (disch := first | omega | exact Nat.le_of_ble_eq_true rfl) only [e_O_imageOf, s_O_imageOf_0, s_O_imageOf_1, s_O_imageOf_4, s_O_imageOf_5, s_O_imageOf_8, s_O_imageOf_11, s_O_imageOf_12, s_O_imageOf_15, Option.bind_some, Option.bind_none, Option.toList_some, Option.toList_none, List.cons_append, List.nil_append, if_true, if_false, rz_clr, true_or, or_true, z00, z11, bZ_eq0, bZ_eq1, nor_self, if_pos, if_neg, zI_add, zI_sub, zI_mul, zI_neg, zI_lt, zI_le, zI_eq, c_O, f_O_0, f_O_1, f_O_2, f_O_3, f_O_4, f_O_5, f_O_6, l_O_6, r_O_6, w_O_6, f_O_7, u_O_7, f_O_8, u_O_8, f_O_9, u_O_9, f_O_10, u_O_10]
    rfl
/-- which images are kept -/
def orB (b : Int) (i : Nat) : Int := ((b.toNat ||| 2 ^ i : Nat) : Int)
theorem kp_or {b i : Int} (hb : 0 ≤ b ∧ b ≤ 3) (hi : 0 ≤ i ∧ i < 2) : zI b ||| zI 1 <<< (zI i &&& 31) = zI (orB b i.toNat) := by
  have e : i = 0 ∨ i = 1 := by omega
  have f : b = 0 ∨ b = 1 ∨ b = 2 ∨ b = 3 := by omega
  rcases e with e | e <;> subst e <;> rcases f with f | f | f | f <;> subst f <;> decide
theorem z_keep (d : Nat) (hN : 48 ≤ N) (hk9 : 0 ≤ σ 0 9 0 ∧ σ 0 9 0 ≤ 3) {i : Int} (hi : rg i) : rz_dM (d + 3) iO_keep [.ref (bs 0), .int (zI i)] (wOf N σ) = some (some (.int (zI (if 0 ≤ i ∧ i < 2 then σ 2 4 0 else -1))), wOf N (if 0 ≤ i ∧ i < 2 then gset (gset σ (4 + i.toNat) (copyW (σ (4 + i.toNat)) (σ 2))) 0 (pset (σ 0) 9 (fun _ => orB (σ 0 9 0) i.toNat)) else σ)) := by
  have hib := fun w => z_isBelow (d + 1) (v := i) (b := 2) hi (by decide) w
  by_cases c : 0 ≤ i ∧ i < 2
  · simp only [if_pos c]
    have h1 := fun σ' => z_imageOf (N := N) (σ := σ') (d + 1) hN c
    have h2 := z_copyFrom (N := N) (σ := σ) (g := 4 + i.toNat) (gp := 2) d (by omega) (by omega) (by decide) (by decide) (by omega) hN
    have e0 : gset σ (4 + i.toNat) (copyW (σ (4 + i.toNat)) (σ 2)) 0 = σ 0 := gset_ne (by omega)
    have e2 : gset σ (4 + i.toNat) (copyW (σ (4 + i.toNat)) (σ 2)) 2 = σ 2 := gset_ne (by omega)
    have ko := kp_or hk9 c
    simp (disch := first | omega | exact Nat.le_of_ble_eq_true rfl) only [e_O_keep, s_O_keep_0, s_O_keep_1, s_O_keep_2, s_O_keep_5, s_O_keep_8, s_O_keep_9, s_O_keep_10, s_O_keep_11, s_O_keep_12, s_O_keep_15, s_O_keep_16, s_O_keep_19, s_O_keep_22, s_O_keep_23, s_O_keep_24, s_O_keep_27, s_O_keep_28, s_O_keep_29, s_O_keep_30, s_O_keep_31, s_O_keep_34, s_O_keep_35, s_O_keep_38, s_O_keep_41, Option.bind_some, Option.bind_none, Option.toList_some, Option.toList_none, List.cons_append, List.nil_append, if_true, if_false, rz_clr, true_or, or_true, z00, z11, bZ_eq0, bZ_eq1, nor_self, if_pos, if_neg, zI_add, zI_sub, zI_mul, zI_neg, zI_lt, zI_le, zI_eq, c_O, f_O_0, f_O_1, f_O_2, f_O_3, f_O_4, f_O_5, f_O_6, l_O_6, r_O_6, w_O_6, f_O_7, u_O_7, f_O_8, u_O_8, f_O_9, u_O_9, f_O_10, u_O_10, c_W, f_W_0, l_W_0, r_W_0, w_W_0, f_W_1, l_W_1, r_W_1, w_W_1, f_W_2, u_W_2, f_W_3, u_W_3, f_W_4, u_W_4, f_W_5, u_W_5, f_W_6, u_W_6, hib, bZ_pos c, h1, h2, e0, ko, sset_eq, gset_at, gset_gset, gset_ne, pset_eq, pset_ne]
  · simp only [if_neg c]
    simp (disch := first | omega | exact Nat.le_of_ble_eq_true rfl) only [e_O_keep, s_O_keep_0, s_O_keep_1, s_O_keep_2, s_O_keep_5, s_O_keep_8, s_O_keep_9, s_O_keep_10, s_O_keep_11, s_O_keep_12, s_O_keep_15, s_O_keep_16, s_O_keep_19, s_O_keep_22, s_O_keep_23, s_O_keep_24, s_O_keep_27, s_O_keep_28, s_O_keep_29, s_O_keep_30, s_O_keep_31, s_O_keep_34, s_O_keep_35, s_O_keep_38, s_O_keep_41, Option.bind_some, Option.bind_none, Option.toList_some, Option.toList_none, List.cons_append, List.nil_append, if_true, if_false, rz_clr, true_or, or_true, z00, z11, bZ_eq0, bZ_eq1, nor_self, if_pos, if_neg, zI_add, zI_sub, zI_mul, zI_neg, zI_lt, zI_le, zI_eq, hib, bZ_neg c]
theorem z_back (d : Nat) (hN : 48 ≤ N) (hk9 : 0 ≤ σ 0 9 0 ∧ σ 0 9 0 ≤ 3) {i : Int} (hi : rg i) : rz_dM (d + 3) iO_back [.ref (bs 0), .int (zI i)] (wOf N σ) = some (some (.int (zI (if 0 ≤ i ∧ i < 2 then (if (σ 0 9 0).toNat.testBit i.toNat = true then σ (4 + i.toNat) 4 0 else -2) else -1))), wOf N (if 0 ≤ i ∧ i < 2 ∧ (σ 0 9 0).toNat.testBit i.toNat = true then gset σ 2 (copyW (σ 2) (σ (4 + i.toNat))) else σ)) := by
  have hib := fun w => z_isBelow (d + 1) (v := i) (b := 2) hi (by decide) w
  by_cases c : 0 ≤ i ∧ i < 2
  · simp only [if_pos c]
    have h1 := fun σ' => z_imageOf (N := N) (σ := σ') (d + 1) hN c
    have h2 := z_copyFrom (N := N) (σ := σ) (g := 2) (gp := 4 + i.toNat) d (by decide) (by decide) (by omega) (by omega) (by omega) hN
    have hh := fun w => z_hasBit (d + 1) (b := (σ 0 9 0).toNat) (i := i) (by omega) (by omega) w
    rw [Int.toNat_of_nonneg hk9.1] at hh
    by_cases c2 : (σ 0 9 0).toNat.testBit i.toNat = true
    · have c3 : 0 ≤ i ∧ i < 32 ∧ (σ 0 9 0).toNat.testBit i.toNat = true := ⟨by omega, by omega, c2⟩
      have c4 : 0 ≤ i ∧ i < 2 ∧ (σ 0 9 0).toNat.testBit i.toNat = true := ⟨by omega, by omega, c2⟩
      simp only [if_pos c2, if_pos c4]
      have e : (gset σ 2 (copyW (σ 2) (σ (4 + i.toNat)))) 2 4 0 = σ (4 + i.toNat) 4 0 := by rw [gset_at]; rfl
      simp (disch := first | omega | exact Nat.le_of_ble_eq_true rfl) only [e_O_back, s_O_back_0, s_O_back_1, s_O_back_2, s_O_back_5, s_O_back_8, s_O_back_9, s_O_back_10, s_O_back_11, s_O_back_14, s_O_back_15, s_O_back_18, s_O_back_21, s_O_back_23, s_O_back_24, s_O_back_25, s_O_back_28, s_O_back_29, s_O_back_30, s_O_back_33, s_O_back_36, s_O_back_37, s_O_back_40, s_O_back_43, Option.bind_some, Option.bind_none, Option.toList_some, Option.toList_none, List.cons_append, List.nil_append, if_true, if_false, rz_clr, true_or, or_true, z00, z11, bZ_eq0, bZ_eq1, nor_self, if_pos, if_neg, zI_add, zI_sub, zI_mul, zI_neg, zI_lt, zI_le, zI_eq, c_O, f_O_0, f_O_1, f_O_2, f_O_3, f_O_4, f_O_5, f_O_6, l_O_6, r_O_6, w_O_6, f_O_7, u_O_7, f_O_8, u_O_8, f_O_9, u_O_9, f_O_10, u_O_10, c_W, f_W_0, l_W_0, r_W_0, w_W_0, f_W_1, l_W_1, r_W_1, w_W_1, f_W_2, u_W_2, f_W_3, u_W_3, f_W_4, u_W_4, f_W_5, u_W_5, f_W_6, u_W_6, hib, bZ_pos c, hh, bZ_pos c3, h1, h2, e]
    · have c3 : ¬ (0 ≤ i ∧ i < 32 ∧ (σ 0 9 0).toNat.testBit i.toNat = true) := fun z => c2 z.2.2
      have c4 : ¬ (0 ≤ i ∧ i < 2 ∧ (σ 0 9 0).toNat.testBit i.toNat = true) := fun z => c2 z.2.2
      simp only [if_neg c2, if_neg c4]
      simp (disch := first | omega | exact Nat.le_of_ble_eq_true rfl) only [e_O_back, s_O_back_0, s_O_back_1, s_O_back_2, s_O_back_5, s_O_back_8, s_O_back_9, s_O_back_10, s_O_back_11, s_O_back_14, s_O_back_15, s_O_back_18, s_O_back_21, s_O_back_23, s_O_back_24, s_O_back_25, s_O_back_28, s_O_back_29, s_O_back_30, s_O_back_33, s_O_back_36, s_O_back_37, s_O_back_40, s_O_back_43, Option.bind_some, Option.bind_none, Option.toList_some, Option.toList_none, List.cons_append, List.nil_append, if_true, if_false, rz_clr, true_or, or_true, z00, z11, bZ_eq0, bZ_eq1, nor_self, if_pos, if_neg, zI_add, zI_sub, zI_mul, zI_neg, zI_lt, zI_le, zI_eq, c_O, f_O_0, f_O_1, f_O_2, f_O_3, f_O_4, f_O_5, f_O_6, l_O_6, r_O_6, w_O_6, f_O_7, u_O_7, f_O_8, u_O_8, f_O_9, u_O_9, f_O_10, u_O_10, c_W, f_W_0, l_W_0, r_W_0, w_W_0, f_W_1, l_W_1, r_W_1, w_W_1, f_W_2, u_W_2, f_W_3, u_W_3, f_W_4, u_W_4, f_W_5, u_W_5, f_W_6, u_W_6, hib, bZ_pos c, hh, bZ_neg c3]
  · have c4 : ¬ (0 ≤ i ∧ i < 2 ∧ (σ 0 9 0).toNat.testBit i.toNat = true) := fun z => c ⟨z.1, z.2.1⟩
    simp only [if_neg c, if_neg c4]
    simp (disch := first | omega | exact Nat.le_of_ble_eq_true rfl) only [e_O_back, s_O_back_0, s_O_back_1, s_O_back_2, s_O_back_5, s_O_back_8, s_O_back_9, s_O_back_10, s_O_back_11, s_O_back_14, s_O_back_15, s_O_back_18, s_O_back_21, s_O_back_23, s_O_back_24, s_O_back_25, s_O_back_28, s_O_back_29, s_O_back_30, s_O_back_33, s_O_back_36, s_O_back_37, s_O_back_40, s_O_back_43, Option.bind_some, Option.bind_none, Option.toList_some, Option.toList_none, List.cons_append, List.nil_append, if_true, if_false, rz_clr, true_or, or_true, z00, z11, bZ_eq0, bZ_eq1, nor_self, if_pos, if_neg, zI_add, zI_sub, zI_mul, zI_neg, zI_lt, zI_le, zI_eq, hib, bZ_neg c]
end PG2
