-- the class's public methods: best, even
def bestF (q p : zP) (n : Int) : Nat → Bool := fun k => (mayW q p (1 - q 2 0)).testBit k && (!decide ((k : Int) = q 3 0) && decide (toldF p (laO p) (hoO p) (gV p (laO p) (hoO p) (ahN q n)) (mbrQ q p k) (kW q) k = valQ p (laO p) (hoO p) q (kW q) n))
def bestA (q p : zP) (n : Int) : Int := if 1 ≤ n ∧ n ≤ 5 then (if q 5 0 = 0 then ff (bestF q p n) 8 0 else -9) else -1
theorem toldF_rg {p : zP} {la hm : Nat → Int} {v : Nat → Int} (hv : ∀ K, -1 ≤ v K ∧ v K ≤ 1) (fl : Bool) (K k : Nat) : -1 ≤ toldF p la hm v fl K k ∧ toldF p la hm v fl K k ≤ 1 := by
  have h1 := wmul_rg (wtK_pm K) (dnK_rg (p := p) (la := la) (hm := hm) hv K k)
  have h2 := wmul_rg (wtK_pm K) (mostF_rg (p := p) (la := la) (hm := hm) hv (lessK K) k)
  unfold toldF
  refine wmul_rg (wtK_pm K) ?_
  split <;> omega
section PF
variable {N gp : Nat} {σ : zS}
theorem z_best_lp (hN : 48 ≤ N) (hI : IC σ gp) (hB : σ 6 4 0 < 90000) {n : Int} (hn : 1 ≤ n ∧ n ≤ 5) (ho : σ 2 5 0 = 0) (E : Nat) : ∀ (j k : Nat), j + k = 8 → ∀ Kn, MOKσ (bgO σ gp) gp Kn → ∃ K', rz_den (rz_dM (E + 42)) (rz_at tb_X4_best) (some .int) 53 [some (.ref (bs 0)), some (.int (zI n)), some (.int (zI (mayW (σ 2) (σ gp) (1 - σ 2 2 0) : Nat))), some (.int (zI (valQ (σ gp) (laO (σ gp)) (hoO (σ gp)) (σ 2) (kW (σ 2)) n))), some (.int (zI k))] [] (wOf N (RS (bgO σ gp) Kn)) = some (some (.int (zI (ff (bestF (σ 2) (σ gp) n) j k))), wOf N (RS (bgO σ gp) K')) ∧ MOKσ (bgO σ gp) gp K' := by
  obtain ⟨b1, b2, b3, b4, b5, ⟨c1, c2, c3, c4⟩, b7⟩ := bgO_f hI
  have hkv := (kW_f hI.2.2.1 hI.2.2.2.2.1).1
  have hlf := kW_lf hI.2.2.1 hI.2.2.2.2.1
  have hs := hI.2.2.2.2.1.2.2.2.2.2 ho
  have hs0 := hI.2.2.2.2.1.2.2.2.1
  have hbr := hI.2.2.2.2.1.2.2.1
  have hlt := mayW_lt (σ 2) (σ gp) (1 - σ 2 2 0)
  have hvr := valQ_rg (σ gp) (laO (σ gp)) (hoO (σ gp)) (σ 2) (kW (σ 2)) n
  have ha : ((ahN (σ 2) n : Nat) : Int) + 1 = min n (99 - σ 2 4 0) := by unfold ahN; omega
  intro j
  induction j with
  | zero =>
    intro k hk Kn hM
    obtain rfl : k = 8 := by omega
    refine ⟨Kn, ?_, hM⟩
    rw [s_O_best_53]
    simp (disch := first | omega | exact Nat.le_of_ble_eq_true rfl) only [e_O_best, s_O_best_0, s_O_best_1, s_O_best_2, s_O_best_5, s_O_best_6, s_O_best_7, s_O_best_10, s_O_best_11, s_O_best_12, s_O_best_13, s_O_best_16, s_O_best_19, s_O_best_22, s_O_best_24, s_O_best_25, s_O_best_26, s_O_best_29, s_O_best_30, s_O_best_33, s_O_best_34, s_O_best_37, s_O_best_40, s_O_best_43, s_O_best_44, s_O_best_45, s_O_best_46, s_O_best_49, s_O_best_50, s_O_best_51, s_O_best_55, s_O_best_57, s_O_best_60, s_O_best_61, s_O_best_63, s_O_best_66, s_O_best_69, s_O_best_71, s_O_best_72, s_O_best_75, s_O_best_78, s_O_best_81, s_O_best_84, s_O_best_85, s_O_best_88, s_O_best_89, s_O_best_92, s_O_best_95, s_O_best_97, s_O_best_98, s_O_best_100, s_O_best_103, s_O_best_104, s_O_best_105, s_O_best_108, s_O_best_111, s_O_best_112, s_O_best_115, s_O_best_117, s_O_best_118, s_O_best_121, s_O_best_124, s_O_best_126, Option.bind_some, Option.bind_none, Option.toList_some, Option.toList_none, List.cons_append, List.nil_append, if_true, if_false, rz_clr, true_or, or_true, z00, z11, bZ_eq0, bZ_eq1, nor_self, if_pos, if_neg, zI_add, zI_sub, zI_mul, zI_neg, zI_lt, zI_le, zI_eq, ff]
  | succ j ih =>
    intro k hk Kn hM
    have hbit := fun w => z_hasBit (E + 41) (b := mayW (σ 2) (σ gp) (1 - σ 2 2 0)) (i := k) (by omega) (by omega) w
    have e0 : ((k : Int)).toNat = k := Int.toNat_natCast k
    rw [e0] at hbit
    rw [ff]
    by_cases a1 : (mayW (σ 2) (σ gp) (1 - σ 2 2 0)).testBit k = true
    · have a2 : (0 ≤ (k : Int) ∧ (k : Int) < 32 ∧ (mayW (σ 2) (σ gp) (1 - σ 2 2 0)).testBit k = true) := ⟨by omega, by omega, a1⟩
      have hr2 : RS (bgO σ gp) Kn 2 = σ 2 := by rw [RS_ne (by decide), b4]
      by_cases a3 : (k : Int) = σ 2 3 0
      · have hf : ¬ bestF (σ 2) (σ gp) n k = true := by unfold bestF; simp [a3]
        rw [if_neg hf]
        obtain ⟨K', h1, h2⟩ := ih (k + 1) (by omega) Kn hM
        simp only [Int.natCast_add, Int.natCast_one] at h1
        refine ⟨K', ?_, h2⟩
        rw [s_O_best_53]
        simp (disch := first | omega | exact Nat.le_of_ble_eq_true rfl) only [e_O_best, s_O_best_0, s_O_best_1, s_O_best_2, s_O_best_5, s_O_best_6, s_O_best_7, s_O_best_10, s_O_best_11, s_O_best_12, s_O_best_13, s_O_best_16, s_O_best_19, s_O_best_22, s_O_best_24, s_O_best_25, s_O_best_26, s_O_best_29, s_O_best_30, s_O_best_33, s_O_best_34, s_O_best_37, s_O_best_40, s_O_best_43, s_O_best_44, s_O_best_45, s_O_best_46, s_O_best_49, s_O_best_50, s_O_best_51, s_O_best_55, s_O_best_57, s_O_best_60, s_O_best_61, s_O_best_63, s_O_best_66, s_O_best_69, s_O_best_71, s_O_best_72, s_O_best_75, s_O_best_78, s_O_best_81, s_O_best_84, s_O_best_85, s_O_best_88, s_O_best_89, s_O_best_92, s_O_best_95, s_O_best_97, s_O_best_98, s_O_best_100, s_O_best_103, s_O_best_104, s_O_best_105, s_O_best_108, s_O_best_111, s_O_best_112, s_O_best_115, s_O_best_117, s_O_best_118, s_O_best_121, s_O_best_124, s_O_best_126, Option.bind_some, Option.bind_none, Option.toList_some, Option.toList_none, List.cons_append, List.nil_append, if_true, if_false, rz_clr, true_or, or_true, z00, z11, bZ_eq0, bZ_eq1, nor_self, if_pos, if_neg, zI_add, zI_sub, zI_mul, zI_neg, zI_lt, zI_le, zI_eq, c_O, f_O_0, f_O_1, f_O_2, f_O_3, f_O_4, f_O_5, f_O_6, l_O_6, r_O_6, w_O_6, f_O_7, u_O_7, f_O_8, u_O_8, f_O_9, u_O_9, f_O_10, u_O_10, c_W, f_W_0, l_W_0, r_W_0, w_W_0, f_W_1, l_W_1, r_W_1, w_W_1, f_W_2, u_W_2, f_W_3, u_W_3, f_W_4, u_W_4, f_W_5, u_W_5, f_W_6, u_W_6, hbit, bZ_pos a2, hr2, h1]
      · have hmr := RS_mr hM (by rw [b7]; have := hI.2.2.2.2.2.2.1.1; omega)
        have hIr : IC (RS (bgO σ gp) Kn) gp := by
          have e : RS (bgO σ gp) Kn = gset σ 6 (RS (bgO σ gp) Kn 6) := by
            unfold RS bgO
            rw [gset_gset, gset_at, gset_at]
          rw [e]
          exact IC_6 hI hmr.1 (by rw [hmr.2, b7]; omega)
        have hrg : RS (bgO σ gp) Kn gp = σ gp := by rw [RS_ne (by have := hI.1; omega), b3]
        have hmb := z_mayBeRefused (E + 37) hN hIr (k := k) (by omega)
        rw [hr2, hrg] at hmb
        have hke := z_key (E + 40) (N := N) (g := 2) (σ := RS (bgO σ gp) Kn) (p := σ gp) (by decide) (by decide) hN hI.2.2.1 (by rw [hr2]; exact hI.2.2.2.2.1)
        rw [hr2] at hke
        have hah := z_ahead (N := N) (σ := RS (bgO σ gp) Kn) (E + 41) hN (n := n) (by omega) (by rw [hr2]; omega)
        rw [hr2] at hah
        have hv := z_val (σ := bgO σ gp) (gp := gp) hN b1 (ahN (σ 2) n) (by unfold ahN; omega)
        obtain ⟨K1, t1, m1⟩ := z_afterTold hN b1 hv (by unfold ahN; omega) (fl := mbrQ (σ 2) (σ gp) k) (K := kW (σ 2)) (k := k) (by rw [b3]; exact hkv) (by omega) (fun z => by have := (mbrQ_l z).2.1; omega) (E + (31 - 7 * ahN (σ 2) n)) Kn hM
        have hahn : ahN (σ 2) n ≤ 4 := by unfold ahN; omega
        rw [show E + (31 - 7 * ahN (σ 2) n) + 7 * ahN (σ 2) n + 11 = E + 42 by omega, ha] at t1
        have tc : toldF (bgO σ gp gp) (bgO σ gp 6 1) (bgO σ gp 6 2) (gVσ (bgO σ gp) gp (ahN (σ 2) n)) (mbrQ (σ 2) (σ gp) k) (kW (σ 2)) k = toldF (σ gp) (laO (σ gp)) (hoO (σ gp)) (gV (σ gp) (laO (σ gp)) (hoO (σ gp)) (ahN (σ 2) n)) (mbrQ (σ 2) (σ gp) k) (kW (σ 2)) k := by
          show toldF (bgO σ gp gp) (bgO σ gp 6 1) (bgO σ gp 6 2) (gV (bgO σ gp gp) (bgO σ gp 6 1) (bgO σ gp 6 2) (ahN (σ 2) n)) _ _ _ = _
          rw [b3]
          exact toldF_congr c1 c2 c3 c4 _ _ _ _
        rw [tc] at t1
        have htr := toldF_rg (p := σ gp) (la := laO (σ gp)) (hm := hoO (σ gp)) (gV_rg (σ gp) (laO (σ gp)) (hoO (σ gp)) (ahN (σ 2) n)) (mbrQ (σ 2) (σ gp) k) (kW (σ 2)) k
        by_cases a4 : toldF (σ gp) (laO (σ gp)) (hoO (σ gp)) (gV (σ gp) (laO (σ gp)) (hoO (σ gp)) (ahN (σ 2) n)) (mbrQ (σ 2) (σ gp) k) (kW (σ 2)) k = valQ (σ gp) (laO (σ gp)) (hoO (σ gp)) (σ 2) (kW (σ 2)) n
        · have hf : bestF (σ 2) (σ gp) n k = true := by unfold bestF; simp [a1, a3, a4]
          rw [if_pos hf]
          refine ⟨K1, ?_, m1⟩
          rw [s_O_best_53]
          simp (disch := first | omega | exact Nat.le_of_ble_eq_true rfl) only [e_O_best, s_O_best_0, s_O_best_1, s_O_best_2, s_O_best_5, s_O_best_6, s_O_best_7, s_O_best_10, s_O_best_11, s_O_best_12, s_O_best_13, s_O_best_16, s_O_best_19, s_O_best_22, s_O_best_24, s_O_best_25, s_O_best_26, s_O_best_29, s_O_best_30, s_O_best_33, s_O_best_34, s_O_best_37, s_O_best_40, s_O_best_43, s_O_best_44, s_O_best_45, s_O_best_46, s_O_best_49, s_O_best_50, s_O_best_51, s_O_best_55, s_O_best_57, s_O_best_60, s_O_best_61, s_O_best_63, s_O_best_66, s_O_best_69, s_O_best_71, s_O_best_72, s_O_best_75, s_O_best_78, s_O_best_81, s_O_best_84, s_O_best_85, s_O_best_88, s_O_best_89, s_O_best_92, s_O_best_95, s_O_best_97, s_O_best_98, s_O_best_100, s_O_best_103, s_O_best_104, s_O_best_105, s_O_best_108, s_O_best_111, s_O_best_112, s_O_best_115, s_O_best_117, s_O_best_118, s_O_best_121, s_O_best_124, s_O_best_126, Option.bind_some, Option.bind_none, Option.toList_some, Option.toList_none, List.cons_append, List.nil_append, if_true, if_false, rz_clr, true_or, or_true, z00, z11, bZ_eq0, bZ_eq1, nor_self, if_pos, if_neg, zI_add, zI_sub, zI_mul, zI_neg, zI_lt, zI_le, zI_eq, c_O, f_O_0, f_O_1, f_O_2, f_O_3, f_O_4, f_O_5, f_O_6, l_O_6, r_O_6, w_O_6, f_O_7, u_O_7, f_O_8, u_O_8, f_O_9, u_O_9, f_O_10, u_O_10, c_W, f_W_0, l_W_0, r_W_0, w_W_0, f_W_1, l_W_1, r_W_1, w_W_1, f_W_2, u_W_2, f_W_3, u_W_3, f_W_4, u_W_4, f_W_5, u_W_5, f_W_6, u_W_6, c_R, f_R_0, l_R_0, r_R_0, w_R_0, f_R_1, l_R_1, r_R_1, w_R_1, f_R_2, l_R_2, r_R_2, w_R_2, f_R_3, u_R_3, f_R_4, u_R_4, hbit, bZ_pos a2, hr2, hke, hmb, hah, t1]
        · have hf : ¬ bestF (σ 2) (σ gp) n k = true := by unfold bestF; simp [a4]
          rw [if_neg hf]
          obtain ⟨K', h1, h2⟩ := ih (k + 1) (by omega) K1 m1
          simp only [Int.natCast_add, Int.natCast_one] at h1
          refine ⟨K', ?_, h2⟩
          rw [s_O_best_53]
          simp (disch := first | omega | exact Nat.le_of_ble_eq_true rfl) only [e_O_best, s_O_best_0, s_O_best_1, s_O_best_2, s_O_best_5, s_O_best_6, s_O_best_7, s_O_best_10, s_O_best_11, s_O_best_12, s_O_best_13, s_O_best_16, s_O_best_19, s_O_best_22, s_O_best_24, s_O_best_25, s_O_best_26, s_O_best_29, s_O_best_30, s_O_best_33, s_O_best_34, s_O_best_37, s_O_best_40, s_O_best_43, s_O_best_44, s_O_best_45, s_O_best_46, s_O_best_49, s_O_best_50, s_O_best_51, s_O_best_55, s_O_best_57, s_O_best_60, s_O_best_61, s_O_best_63, s_O_best_66, s_O_best_69, s_O_best_71, s_O_best_72, s_O_best_75, s_O_best_78, s_O_best_81, s_O_best_84, s_O_best_85, s_O_best_88, s_O_best_89, s_O_best_92, s_O_best_95, s_O_best_97, s_O_best_98, s_O_best_100, s_O_best_103, s_O_best_104, s_O_best_105, s_O_best_108, s_O_best_111, s_O_best_112, s_O_best_115, s_O_best_117, s_O_best_118, s_O_best_121, s_O_best_124, s_O_best_126, Option.bind_some, Option.bind_none, Option.toList_some, Option.toList_none, List.cons_append, List.nil_append, if_true, if_false, rz_clr, true_or, or_true, z00, z11, bZ_eq0, bZ_eq1, nor_self, if_pos, if_neg, zI_add, zI_sub, zI_mul, zI_neg, zI_lt, zI_le, zI_eq, c_O, f_O_0, f_O_1, f_O_2, f_O_3, f_O_4, f_O_5, f_O_6, l_O_6, r_O_6, w_O_6, f_O_7, u_O_7, f_O_8, u_O_8, f_O_9, u_O_9, f_O_10, u_O_10, c_W, f_W_0, l_W_0, r_W_0, w_W_0, f_W_1, l_W_1, r_W_1, w_W_1, f_W_2, u_W_2, f_W_3, u_W_3, f_W_4, u_W_4, f_W_5, u_W_5, f_W_6, u_W_6, c_R, f_R_0, l_R_0, r_R_0, w_R_0, f_R_1, l_R_1, r_R_1, w_R_1, f_R_2, l_R_2, r_R_2, w_R_2, f_R_3, u_R_3, f_R_4, u_R_4, hbit, bZ_pos a2, hr2, hke, hmb, hah, t1, h1]
    · have a2 : ¬ (0 ≤ (k : Int) ∧ (k : Int) < 32 ∧ (mayW (σ 2) (σ gp) (1 - σ 2 2 0)).testBit k = true) := fun z => a1 z.2.2
      have hf : ¬ bestF (σ 2) (σ gp) n k = true := by unfold bestF; simp [a1]
      rw [if_neg hf]
      obtain ⟨K', h1, h2⟩ := ih (k + 1) (by omega) Kn hM
      simp only [Int.natCast_add, Int.natCast_one] at h1
      refine ⟨K', ?_, h2⟩
      rw [s_O_best_53]
      simp (disch := first | omega | exact Nat.le_of_ble_eq_true rfl) only [e_O_best, s_O_best_0, s_O_best_1, s_O_best_2, s_O_best_5, s_O_best_6, s_O_best_7, s_O_best_10, s_O_best_11, s_O_best_12, s_O_best_13, s_O_best_16, s_O_best_19, s_O_best_22, s_O_best_24, s_O_best_25, s_O_best_26, s_O_best_29, s_O_best_30, s_O_best_33, s_O_best_34, s_O_best_37, s_O_best_40, s_O_best_43, s_O_best_44, s_O_best_45, s_O_best_46, s_O_best_49, s_O_best_50, s_O_best_51, s_O_best_55, s_O_best_57, s_O_best_60, s_O_best_61, s_O_best_63, s_O_best_66, s_O_best_69, s_O_best_71, s_O_best_72, s_O_best_75, s_O_best_78, s_O_best_81, s_O_best_84, s_O_best_85, s_O_best_88, s_O_best_89, s_O_best_92, s_O_best_95, s_O_best_97, s_O_best_98, s_O_best_100, s_O_best_103, s_O_best_104, s_O_best_105, s_O_best_108, s_O_best_111, s_O_best_112, s_O_best_115, s_O_best_117, s_O_best_118, s_O_best_121, s_O_best_124, s_O_best_126, Option.bind_some, Option.bind_none, Option.toList_some, Option.toList_none, List.cons_append, List.nil_append, if_true, if_false, rz_clr, true_or, or_true, z00, z11, bZ_eq0, bZ_eq1, nor_self, if_pos, if_neg, zI_add, zI_sub, zI_mul, zI_neg, zI_lt, zI_le, zI_eq, hbit, bZ_neg a2, h1]
theorem z_best (hN : 48 ≤ N) (hI : IC σ gp) (hB : σ 6 4 0 < 90000) {n : Int} (hn : rg n) (E : Nat) : ∃ r, rz_dM (E + 43) iO_best [.ref (bs 0), .int (zI n)] (wOf N σ) = some (some (.int (zI (bestA (σ 2) (σ gp) n))), wOf N (gset σ 6 r)) ∧ MR r ∧ r 4 0 ≤ σ 6 4 0 + 20 := by
  have i1 := hI.1
  have e7 : (σ 0 7 0).toNat = gp := by have := hI.2.1.1; omega
  have hq := hI.2.2.2.2.1
  have hqo := hq.2.2.2.2.1
  have hqt := hq.2.1
  unfold bestA
  by_cases a1 : 1 ≤ n ∧ n ≤ 5
  · rw [if_pos a1]
    by_cases a2 : σ 2 5 0 = 0
    · rw [if_pos a2]
      obtain ⟨K1, h1, m1⟩ := z_valueAsItIs' hN hI (n := n) (by omega) E
      obtain ⟨K2, h2, m2⟩ := z_best_lp hN hI hB a1 a2 E 8 0 rfl K1 m1
      rw [Int.natCast_zero] at h2
      obtain ⟨r, r1, r2, r3⟩ := RS_bg (N := N) hI m2
      refine ⟨r, ?_, r2, by omega⟩
      rw [← r1]
      have hmo := z_mayOf (N := N) (g := 2) (gp := gp) (σ := σ) (E + 38) (by decide) (by decide) (by omega) (by omega) hN hI.2.2.1 hI.2.2.2.1 hq (m := 1 - σ 2 2 0) (by omega)
      have hmo' : rz_dM (E + 42) iW_mayOf [.ref (bs 2), .ref (bs gp), .int (zI (1 - σ 2 2 0))] (wOf N σ) = _ := hmo
      simp (disch := first | omega | exact Nat.le_of_ble_eq_true rfl) only [e_O_best, s_O_best_0, s_O_best_1, s_O_best_2, s_O_best_5, s_O_best_6, s_O_best_7, s_O_best_10, s_O_best_11, s_O_best_12, s_O_best_13, s_O_best_16, s_O_best_19, s_O_best_22, s_O_best_24, s_O_best_25, s_O_best_26, s_O_best_29, s_O_best_30, s_O_best_33, s_O_best_34, s_O_best_37, s_O_best_40, s_O_best_43, s_O_best_44, s_O_best_45, s_O_best_46, s_O_best_49, s_O_best_50, s_O_best_51, s_O_best_55, s_O_best_57, s_O_best_60, s_O_best_61, s_O_best_63, s_O_best_66, s_O_best_69, s_O_best_71, s_O_best_72, s_O_best_75, s_O_best_78, s_O_best_81, s_O_best_84, s_O_best_85, s_O_best_88, s_O_best_89, s_O_best_92, s_O_best_95, s_O_best_97, s_O_best_98, s_O_best_100, s_O_best_103, s_O_best_104, s_O_best_105, s_O_best_108, s_O_best_111, s_O_best_112, s_O_best_115, s_O_best_117, s_O_best_118, s_O_best_121, s_O_best_124, s_O_best_126, Option.bind_some, Option.bind_none, Option.toList_some, Option.toList_none, List.cons_append, List.nil_append, if_true, if_false, rz_clr, true_or, or_true, z00, z11, bZ_eq0, bZ_eq1, nor_self, if_pos, if_neg, zI_add, zI_sub, zI_mul, zI_neg, zI_lt, zI_le, zI_eq, c_O, f_O_0, f_O_1, f_O_2, f_O_3, f_O_4, f_O_5, f_O_6, l_O_6, r_O_6, w_O_6, f_O_7, u_O_7, f_O_8, u_O_8, f_O_9, u_O_9, f_O_10, u_O_10, c_W, f_W_0, l_W_0, r_W_0, w_W_0, f_W_1, l_W_1, r_W_1, w_W_1, f_W_2, u_W_2, f_W_3, u_W_3, f_W_4, u_W_4, f_W_5, u_W_5, f_W_6, u_W_6, c_P, f_P_0, l_P_0, r_P_0, w_P_0, f_P_1, l_P_1, r_P_1, w_P_1, f_P_2, l_P_2, r_P_2, w_P_2, f_P_3, l_P_3, r_P_3, w_P_3, f_P_4, l_P_4, r_P_4, w_P_4, f_P_5, l_P_5, r_P_5, w_P_5, f_P_6, l_P_6, r_P_6, w_P_6, f_P_7, l_P_7, r_P_7, w_P_7, f_P_8, u_P_8, f_P_9, u_P_9, f_P_10, u_P_10, e7, z_toldMan, hmo', h1, h2]
    · rw [if_neg a2]
      refine ⟨σ 6, ?_, hI.2.2.2.2.2.2.1, by omega⟩
      rw [gset_self]
      simp (disch := first | omega | exact Nat.le_of_ble_eq_true rfl) only [e_O_best, s_O_best_0, s_O_best_1, s_O_best_2, s_O_best_5, s_O_best_6, s_O_best_7, s_O_best_10, s_O_best_11, s_O_best_12, s_O_best_13, s_O_best_16, s_O_best_19, s_O_best_22, s_O_best_24, s_O_best_25, s_O_best_26, s_O_best_29, s_O_best_30, s_O_best_33, s_O_best_34, s_O_best_37, s_O_best_40, s_O_best_43, s_O_best_44, s_O_best_45, s_O_best_46, s_O_best_49, s_O_best_50, s_O_best_51, s_O_best_55, s_O_best_57, s_O_best_60, s_O_best_61, s_O_best_63, s_O_best_66, s_O_best_69, s_O_best_71, s_O_best_72, s_O_best_75, s_O_best_78, s_O_best_81, s_O_best_84, s_O_best_85, s_O_best_88, s_O_best_89, s_O_best_92, s_O_best_95, s_O_best_97, s_O_best_98, s_O_best_100, s_O_best_103, s_O_best_104, s_O_best_105, s_O_best_108, s_O_best_111, s_O_best_112, s_O_best_115, s_O_best_117, s_O_best_118, s_O_best_121, s_O_best_124, s_O_best_126, Option.bind_some, Option.bind_none, Option.toList_some, Option.toList_none, List.cons_append, List.nil_append, if_true, if_false, rz_clr, true_or, or_true, z00, z11, bZ_eq0, bZ_eq1, nor_self, if_pos, if_neg, zI_add, zI_sub, zI_mul, zI_neg, zI_lt, zI_le, zI_eq, c_O, f_O_0, f_O_1, f_O_2, f_O_3, f_O_4, f_O_5, f_O_6, l_O_6, r_O_6, w_O_6, f_O_7, u_O_7, f_O_8, u_O_8, f_O_9, u_O_9, f_O_10, u_O_10, c_W, f_W_0, l_W_0, r_W_0, w_W_0, f_W_1, l_W_1, r_W_1, w_W_1, f_W_2, u_W_2, f_W_3, u_W_3, f_W_4, u_W_4, f_W_5, u_W_5, f_W_6, u_W_6]
  · rw [if_neg a1]
    refine ⟨σ 6, ?_, hI.2.2.2.2.2.2.1, by omega⟩
    rw [gset_self]
    by_cases a4 : 1 ≤ n
    · simp (disch := first | omega | exact Nat.le_of_ble_eq_true rfl) only [e_O_best, s_O_best_0, s_O_best_1, s_O_best_2, s_O_best_5, s_O_best_6, s_O_best_7, s_O_best_10, s_O_best_11, s_O_best_12, s_O_best_13, s_O_best_16, s_O_best_19, s_O_best_22, s_O_best_24, s_O_best_25, s_O_best_26, s_O_best_29, s_O_best_30, s_O_best_33, s_O_best_34, s_O_best_37, s_O_best_40, s_O_best_43, s_O_best_44, s_O_best_45, s_O_best_46, s_O_best_49, s_O_best_50, s_O_best_51, s_O_best_55, s_O_best_57, s_O_best_60, s_O_best_61, s_O_best_63, s_O_best_66, s_O_best_69, s_O_best_71, s_O_best_72, s_O_best_75, s_O_best_78, s_O_best_81, s_O_best_84, s_O_best_85, s_O_best_88, s_O_best_89, s_O_best_92, s_O_best_95, s_O_best_97, s_O_best_98, s_O_best_100, s_O_best_103, s_O_best_104, s_O_best_105, s_O_best_108, s_O_best_111, s_O_best_112, s_O_best_115, s_O_best_117, s_O_best_118, s_O_best_121, s_O_best_124, s_O_best_126, Option.bind_some, Option.bind_none, Option.toList_some, Option.toList_none, List.cons_append, List.nil_append, if_true, if_false, rz_clr, true_or, or_true, z00, z11, bZ_eq0, bZ_eq1, nor_self, if_pos, if_neg, zI_add, zI_sub, zI_mul, zI_neg, zI_lt, zI_le, zI_eq]
    · simp (disch := first | omega | exact Nat.le_of_ble_eq_true rfl) only [e_O_best, s_O_best_0, s_O_best_1, s_O_best_2, s_O_best_5, s_O_best_6, s_O_best_7, s_O_best_10, s_O_best_11, s_O_best_12, s_O_best_13, s_O_best_16, s_O_best_19, s_O_best_22, s_O_best_24, s_O_best_25, s_O_best_26, s_O_best_29, s_O_best_30, s_O_best_33, s_O_best_34, s_O_best_37, s_O_best_40, s_O_best_43, s_O_best_44, s_O_best_45, s_O_best_46, s_O_best_49, s_O_best_50, s_O_best_51, s_O_best_55, s_O_best_57, s_O_best_60, s_O_best_61, s_O_best_63, s_O_best_66, s_O_best_69, s_O_best_71, s_O_best_72, s_O_best_75, s_O_best_78, s_O_best_81, s_O_best_84, s_O_best_85, s_O_best_88, s_O_best_89, s_O_best_92, s_O_best_95, s_O_best_97, s_O_best_98, s_O_best_100, s_O_best_103, s_O_best_104, s_O_best_105, s_O_best_108, s_O_best_111, s_O_best_112, s_O_best_115, s_O_best_117, s_O_best_118, s_O_best_121, s_O_best_124, s_O_best_126, Option.bind_some, Option.bind_none, Option.toList_some, Option.toList_none, List.cons_append, List.nil_append, if_true, if_false, rz_clr, true_or, or_true, z00, z11, bZ_eq0, bZ_eq1, nor_self, if_pos, if_neg, zI_add, zI_sub, zI_mul, zI_neg, zI_lt, zI_le, zI_eq]
theorem sw_f {p : zP} {K : Nat} (h : vK p K) : swK K < 8192 ∧ cl (swK K) 0 = cl K 1 ∧ cl (swK K) 1 = cl K 0 ∧ lf (swK K) 0 = lf K 1 ∧ lf (swK K) 1 = lf K 0 ∧ tl (swK K) = tl K := by
  obtain ⟨h1, h2, h3, -, -⟩ := h
  have t := tl_lt K
  have c0 := cl_lt K 0
  have c1 := cl_lt K 1
  unfold swK
  generalize cl K 0 = a0 at *
  generalize cl K 1 = a1 at *
  generalize lf K 0 = b0 at *
  generalize lf K 1 = b1 at *
  generalize tl K = t0 at *
  unfold cl lf tl
  simp only [if_true, if_false, Nat.one_ne_zero]
  omega
theorem vK_sw {p : zP} {K : Nat} (h : vK p K) : vK p (swK K) := by
  obtain ⟨e1, e2, e3, e4, e5, e6⟩ := sw_f h
  obtain ⟨h1, h2, h3, h4, h5⟩ := h
  exact ⟨e1, by rw [e4]; exact h3, by rw [e5]; exact h2, by rw [e2]; exact h5, by rw [e3]; exact h4⟩
theorem shl12 : ∀ t, t < 2 → zI ((t : Nat) : Int) <<< (zI 12 &&& 31) = zI ((4096 * t : Nat) : Int) := by decide
theorem z_changedMen (d : Nat) {K : Nat} {p : zP} (h : vK p K) (w : rz_W) : rz_dM (d + 2) iR_changedMen [.int (zI K)] w = some (some (.int (zI (swK K : Nat))), w) := by
  have hx := key_x (cl K 1) (cl_lt K 1) (cl K 0) (cl_lt K 0) (lf K 1) (by have := h.2.2.1; omega) (lf K 0) (by have := h.2.1; omega) (tl K) (tl_lt K)
  rw [shl12 _ (tl_lt K)] at hx
  have hK1 := h.1
  have e4 := z_and4096 K h.1
  have t0 : Int.toNat 0 = 0 := rfl
  have t1 : Int.toNat 1 = 1 := rfl
  unfold swK
  simp (disch := first | omega | exact Nat.le_of_ble_eq_true rfl) only [e_R_changedMen, s_R_changedMen_0, s_R_changedMen_1, s_R_changedMen_2, s_R_changedMen_5, s_R_changedMen_6, s_R_changedMen_7, s_R_changedMen_10, s_R_changedMen_11, s_R_changedMen_12, s_R_changedMen_13, s_R_changedMen_14, s_R_changedMen_15, s_R_changedMen_16, s_R_changedMen_17, s_R_changedMen_20, s_R_changedMen_22, s_R_changedMen_23, s_R_changedMen_24, s_R_changedMen_25, s_R_changedMen_26, s_R_changedMen_29, s_R_changedMen_31, s_R_changedMen_32, s_R_changedMen_33, s_R_changedMen_34, s_R_changedMen_37, s_R_changedMen_38, s_R_changedMen_39, Option.bind_some, Option.bind_none, Option.toList_some, Option.toList_none, List.cons_append, List.nil_append, if_true, if_false, rz_clr, true_or, or_true, z00, z11, bZ_eq0, bZ_eq1, nor_self, if_pos, if_neg, z_cellIn, z_leftIn, t0, t1, e4, hx]
def evenA (q p : zP) (n : Int) : Int := if 0 ≤ n ∧ n ≤ 4 then (if valQ p (laO p) (hoO p) q (kW q) n = 0 then (if valQ p (r2 (lawP p 1) (lawP p 0)) (r2 (p 5 1) (p 5 0)) q (swK (kW q)) n = 0 then 1 else 0) else 0) else -1
theorem z_even (hN : 48 ≤ N) (hI : IC σ gp) (hB : σ 6 4 0 < 90000) {n : Int} (hn : rg n) (E : Nat) : ∃ r, rz_dM (E + 43) iO_even [.ref (bs 0), .int (zI n)] (wOf N σ) = some (some (.int (zI (evenA (σ 2) (σ gp) n))), wOf N (gset σ 6 r)) ∧ MR r ∧ r 4 0 ≤ σ 6 4 0 + 20 := by
  have i1 := hI.1
  have e7 : (σ 0 7 0).toNat = gp := by have := hI.2.1.1; omega
  unfold evenA
  by_cases a1 : 0 ≤ n ∧ n ≤ 4
  · rw [if_pos a1]
    obtain ⟨r, h1, h2, h3⟩ := z_valueAsItIs hN hI (n := n) (by omega) E
    have hvr := valQ_rg (σ gp) (laO (σ gp)) (hoO (σ gp)) (σ 2) (kW (σ 2)) n
    by_cases a2 : valQ (σ gp) (laO (σ gp)) (hoO (σ gp)) (σ 2) (kW (σ 2)) n = 0
    · rw [if_pos a2]
      rw [a2] at h1
      have hI1 : IC (gset σ 6 r) gp := IC_6 hI h2 (by omega)
      have hl0 := lawP_rg hI.2.2.1 (m := 0) (by omega)
      have hl1 := lawP_rg hI.2.2.1 (m := 1) (by omega)
      have hm0 := (hI.2.2.1.2.2.2 0 (by decide)).2.1
      have hm1 := (hI.2.2.1.2.2.2 1 (by decide)).2.1
      have ha := wfP_area hI.2.2.1
      have hkv := (kW_f hI.2.2.1 hI.2.2.2.2.1).1
      have hrg : gset σ 6 r gp = σ gp := gset_ne (by omega)
      have hr2 : gset σ 6 r 2 = σ 2 := gset_ne (by decide)
      have hr6 : gset σ 6 r 6 = r := gset_at σ 6 r
      obtain ⟨b1, b2, b3, b4, b5⟩ := beginR_f r (σ gp) gp (lawP (σ gp) 1) (lawP (σ gp) 0)
      generalize hr' : beginR r (σ gp) gp (lawP (σ gp) 1) (lawP (σ gp) 0) = r' at b1 b2 b3 b4 b5
      have hbg := z_begin (N := N) (gp := gp) (σ := gset σ 6 r) (E + 39) (by omega) (by omega) hN (l0 := lawP (σ gp) 1) (l1 := lawP (σ gp) 0)
      rw [hrg, hr6, gset_gset, hr'] at hbg
      have hsh := z_setHomes (N := N) (σ := gset σ 6 r') (E + 40) hN (a := σ gp 5 1) (b := σ gp 5 0)
      rw [gset_at, gset_gset] at hsh
      obtain ⟨r9, hr9⟩ : ∃ r9, r9 = pset r' 2 (zup (zup (r' 2) 0 (σ gp 5 1)) 1 (σ gp 5 0)) := ⟨_, rfl⟩
      rw [← hr9] at hsh
      have f3 : r9 3 0 = gp := by rw [hr9, pset_ne (by decide)]; exact b1
      have f4 : r9 4 0 = r 4 0 + 1 := by rw [hr9, pset_ne (by decide)]; exact b2
      have f0 : r9 0 = r 0 := by rw [hr9, pset_ne (by decide)]; exact b3
      have f1 : r9 1 = r' 1 := by rw [hr9, pset_ne (by decide)]
      have f20 : r9 2 0 = σ gp 5 1 := by rw [hr9, pset_eq]; simp [zup]
      have f21 : r9 2 1 = σ gp 5 0 := by rw [hr9, pset_eq]; simp [zup]
      obtain ⟨c1, c2⟩ := RCM hI1 (r := r9) f3 (by rw [hr6]; exact f4) (by rw [hr6]; exact f0) (by rw [f1, b4.1, b4.2]; omega) (by rw [f20, f21]; omega)
      rw [gset_gset] at c1 c2
      have g9 : gset σ 6 r9 gp = σ gp := gset_ne (by omega)
      have g2 : gset σ 6 r9 2 = σ 2 := gset_ne (by decide)
      have g6 : gset σ 6 r9 6 = r9 := gset_at σ 6 r9
      obtain ⟨K', v1, v2⟩ := z_valueFrom (σ := gset σ 6 r9) (gp := gp) hN (by rw [g9]; exact hI.2.2.1) (by rw [g9, g2]; exact hI.2.2.2.2.1) c1 (K := swK (kW (σ 2))) (n := n) (by omega) (by rw [g9]; exact vK_sw hkv) c2 (E + 1)
      rw [g9, g2, g6, valQ_congr (la := r9 1) (la' := r2 (lawP (σ gp) 1) (lawP (σ gp) 0)) (hm := r9 2) (hm' := r2 (σ gp 5 1) (σ gp 5 0)) (by rw [f1]; exact b4.1) (by rw [f1]; exact b4.2) f20 f21] at v1
      have hvr2 := valQ_rg (σ gp) (r2 (lawP (σ gp) 1) (lawP (σ gp) 0)) (r2 (σ gp 5 1) (σ gp 5 0)) (σ 2) (swK (kW (σ 2))) n
      have hfin := RS_mr v2 (by rw [g6, f4]; have := h2.1; omega)
      have hRS : RS (gset σ 6 r9) K' = gset σ 6 (RS (gset σ 6 r9) K' 6) := by
        unfold RS
        rw [gset_gset, gset_at, gset_at]
      refine ⟨RS (gset σ 6 r9) K' 6, ?_, hfin.1, by rw [hfin.2, g6, f4]; omega⟩
      rw [← hRS]
      have hke := z_key (E + 40) (N := N) (g := 2) (σ := gset σ 6 r9) (p := σ gp) (by decide) (by decide) hN hI.2.2.1 (by rw [g2]; exact hI.2.2.2.2.1)
      rw [g2] at hke
      have hcm := z_changedMen (E + 40) hkv (wOf N (gset σ 6 r9))
      have hlo0 := z_lawOf (N := N) (g := gp) (σ := gset σ 6 r) (E + 40) (by omega) (by omega) hN (by rw [hrg]; exact hI.2.2.1) (m := 0) (by omega)
      have hlo1 := z_lawOf (N := N) (g := gp) (σ := gset σ 6 r) (E + 40) (by omega) (by omega) hN (by rw [hrg]; exact hI.2.2.1) (m := 1) (by omega)
      rw [hrg] at hlo0 hlo1
      have t0 : Int.toNat 0 = 0 := rfl
      have t1 : Int.toNat 1 = 1 := rfl
      have e70 : (gset σ 6 r 0 7 0).toNat = gp := by rw [gset_ne (by decide)]; exact e7
      have e71 : (gset σ 6 r' 0 7 0).toNat = gp := by rw [gset_ne (by decide)]; exact e7
      have e72 : gset σ 6 r' gp = σ gp := gset_ne (by omega)
      have v1' : rz_dM (E + 42) iO_valueFrom [.ref (bs 0), .int (zI (swK (kW (σ 2)) : Nat)), .int (zI n)] (wOf N (gset σ 6 r9)) = _ := v1
      by_cases a3 : valQ (σ gp) (r2 (lawP (σ gp) 1) (lawP (σ gp) 0)) (r2 (σ gp 5 1) (σ gp 5 0)) (σ 2) (swK (kW (σ 2))) n = 0
      · rw [if_pos a3]
        simp (disch := first | omega | exact Nat.le_of_ble_eq_true rfl) only [e_O_even, s_O_even_0, s_O_even_1, s_O_even_4, s_O_even_5, s_O_even_6, s_O_even_9, s_O_even_10, s_O_even_11, s_O_even_12, s_O_even_13, s_O_even_16, s_O_even_19, s_O_even_20, s_O_even_21, s_O_even_22, s_O_even_25, s_O_even_26, s_O_even_29, s_O_even_30, s_O_even_33, s_O_even_34, s_O_even_37, s_O_even_38, s_O_even_41, s_O_even_42, s_O_even_45, s_O_even_48, s_O_even_49, s_O_even_52, s_O_even_53, s_O_even_56, s_O_even_59, s_O_even_60, s_O_even_63, s_O_even_64, s_O_even_67, s_O_even_70, s_O_even_71, s_O_even_74, s_O_even_77, s_O_even_78, s_O_even_79, s_O_even_82, s_O_even_85, s_O_even_88, s_O_even_89, s_O_even_92, s_O_even_95, s_O_even_96, s_O_even_99, s_O_even_100, Option.bind_some, Option.bind_none, Option.toList_some, Option.toList_none, List.cons_append, List.nil_append, if_true, if_false, rz_clr, true_or, or_true, z00, z11, bZ_eq0, bZ_eq1, nor_self, if_pos, if_neg, zI_add, zI_sub, zI_mul, zI_neg, zI_lt, zI_le, zI_eq, c_O, f_O_0, f_O_1, f_O_2, f_O_3, f_O_4, f_O_5, f_O_6, l_O_6, r_O_6, w_O_6, f_O_7, u_O_7, f_O_8, u_O_8, f_O_9, u_O_9, f_O_10, u_O_10, c_W, f_W_0, l_W_0, r_W_0, w_W_0, f_W_1, l_W_1, r_W_1, w_W_1, f_W_2, u_W_2, f_W_3, u_W_3, f_W_4, u_W_4, f_W_5, u_W_5, f_W_6, u_W_6, c_R, f_R_0, l_R_0, r_R_0, w_R_0, f_R_1, l_R_1, r_R_1, w_R_1, f_R_2, l_R_2, r_R_2, w_R_2, f_R_3, u_R_3, f_R_4, u_R_4, c_P, f_P_0, l_P_0, r_P_0, w_P_0, f_P_1, l_P_1, r_P_1, w_P_1, f_P_2, l_P_2, r_P_2, w_P_2, f_P_3, l_P_3, r_P_3, w_P_3, f_P_4, l_P_4, r_P_4, w_P_4, f_P_5, l_P_5, r_P_5, w_P_5, f_P_6, l_P_6, r_P_6, w_P_6, f_P_7, l_P_7, r_P_7, w_P_7, f_P_8, u_P_8, f_P_9, u_P_9, f_P_10, u_P_10, a_P_0, p_P_0, a_P_1, p_P_1, a_P_2, p_P_2, a_P_3, p_P_3, a_P_4, p_P_4, a_P_5, p_P_5, a_P_6, p_P_6, a_P_7, p_P_7, gat_in, h1, hlo0, hlo1, e70, e71, e72, t0, t1, hbg, hsh, hke, hcm, v1', a3]
      · rw [if_neg a3]
        simp (disch := first | omega | exact Nat.le_of_ble_eq_true rfl) only [e_O_even, s_O_even_0, s_O_even_1, s_O_even_4, s_O_even_5, s_O_even_6, s_O_even_9, s_O_even_10, s_O_even_11, s_O_even_12, s_O_even_13, s_O_even_16, s_O_even_19, s_O_even_20, s_O_even_21, s_O_even_22, s_O_even_25, s_O_even_26, s_O_even_29, s_O_even_30, s_O_even_33, s_O_even_34, s_O_even_37, s_O_even_38, s_O_even_41, s_O_even_42, s_O_even_45, s_O_even_48, s_O_even_49, s_O_even_52, s_O_even_53, s_O_even_56, s_O_even_59, s_O_even_60, s_O_even_63, s_O_even_64, s_O_even_67, s_O_even_70, s_O_even_71, s_O_even_74, s_O_even_77, s_O_even_78, s_O_even_79, s_O_even_82, s_O_even_85, s_O_even_88, s_O_even_89, s_O_even_92, s_O_even_95, s_O_even_96, s_O_even_99, s_O_even_100, Option.bind_some, Option.bind_none, Option.toList_some, Option.toList_none, List.cons_append, List.nil_append, if_true, if_false, rz_clr, true_or, or_true, z00, z11, bZ_eq0, bZ_eq1, nor_self, if_pos, if_neg, zI_add, zI_sub, zI_mul, zI_neg, zI_lt, zI_le, zI_eq, c_O, f_O_0, f_O_1, f_O_2, f_O_3, f_O_4, f_O_5, f_O_6, l_O_6, r_O_6, w_O_6, f_O_7, u_O_7, f_O_8, u_O_8, f_O_9, u_O_9, f_O_10, u_O_10, c_W, f_W_0, l_W_0, r_W_0, w_W_0, f_W_1, l_W_1, r_W_1, w_W_1, f_W_2, u_W_2, f_W_3, u_W_3, f_W_4, u_W_4, f_W_5, u_W_5, f_W_6, u_W_6, c_R, f_R_0, l_R_0, r_R_0, w_R_0, f_R_1, l_R_1, r_R_1, w_R_1, f_R_2, l_R_2, r_R_2, w_R_2, f_R_3, u_R_3, f_R_4, u_R_4, c_P, f_P_0, l_P_0, r_P_0, w_P_0, f_P_1, l_P_1, r_P_1, w_P_1, f_P_2, l_P_2, r_P_2, w_P_2, f_P_3, l_P_3, r_P_3, w_P_3, f_P_4, l_P_4, r_P_4, w_P_4, f_P_5, l_P_5, r_P_5, w_P_5, f_P_6, l_P_6, r_P_6, w_P_6, f_P_7, l_P_7, r_P_7, w_P_7, f_P_8, u_P_8, f_P_9, u_P_9, f_P_10, u_P_10, a_P_0, p_P_0, a_P_1, p_P_1, a_P_2, p_P_2, a_P_3, p_P_3, a_P_4, p_P_4, a_P_5, p_P_5, a_P_6, p_P_6, a_P_7, p_P_7, gat_in, h1, hlo0, hlo1, e70, e71, e72, t0, t1, hbg, hsh, hke, hcm, v1']
    · rw [if_neg a2]
      refine ⟨r, ?_, h2, by omega⟩
      simp (disch := first | omega | exact Nat.le_of_ble_eq_true rfl) only [e_O_even, s_O_even_0, s_O_even_1, s_O_even_4, s_O_even_5, s_O_even_6, s_O_even_9, s_O_even_10, s_O_even_11, s_O_even_12, s_O_even_13, s_O_even_16, s_O_even_19, s_O_even_20, s_O_even_21, s_O_even_22, s_O_even_25, s_O_even_26, s_O_even_29, s_O_even_30, s_O_even_33, s_O_even_34, s_O_even_37, s_O_even_38, s_O_even_41, s_O_even_42, s_O_even_45, s_O_even_48, s_O_even_49, s_O_even_52, s_O_even_53, s_O_even_56, s_O_even_59, s_O_even_60, s_O_even_63, s_O_even_64, s_O_even_67, s_O_even_70, s_O_even_71, s_O_even_74, s_O_even_77, s_O_even_78, s_O_even_79, s_O_even_82, s_O_even_85, s_O_even_88, s_O_even_89, s_O_even_92, s_O_even_95, s_O_even_96, s_O_even_99, s_O_even_100, Option.bind_some, Option.bind_none, Option.toList_some, Option.toList_none, List.cons_append, List.nil_append, if_true, if_false, rz_clr, true_or, or_true, z00, z11, bZ_eq0, bZ_eq1, nor_self, if_pos, if_neg, zI_add, zI_sub, zI_mul, zI_neg, zI_lt, zI_le, zI_eq, c_O, f_O_0, f_O_1, f_O_2, f_O_3, f_O_4, f_O_5, f_O_6, l_O_6, r_O_6, w_O_6, f_O_7, u_O_7, f_O_8, u_O_8, f_O_9, u_O_9, f_O_10, u_O_10, h1]
  · rw [if_neg a1]
    refine ⟨σ 6, ?_, hI.2.2.2.2.2.2.1, by omega⟩
    rw [gset_self]
    by_cases a4 : 0 ≤ n
    · simp (disch := first | omega | exact Nat.le_of_ble_eq_true rfl) only [e_O_even, s_O_even_0, s_O_even_1, s_O_even_4, s_O_even_5, s_O_even_6, s_O_even_9, s_O_even_10, s_O_even_11, s_O_even_12, s_O_even_13, s_O_even_16, s_O_even_19, s_O_even_20, s_O_even_21, s_O_even_22, s_O_even_25, s_O_even_26, s_O_even_29, s_O_even_30, s_O_even_33, s_O_even_34, s_O_even_37, s_O_even_38, s_O_even_41, s_O_even_42, s_O_even_45, s_O_even_48, s_O_even_49, s_O_even_52, s_O_even_53, s_O_even_56, s_O_even_59, s_O_even_60, s_O_even_63, s_O_even_64, s_O_even_67, s_O_even_70, s_O_even_71, s_O_even_74, s_O_even_77, s_O_even_78, s_O_even_79, s_O_even_82, s_O_even_85, s_O_even_88, s_O_even_89, s_O_even_92, s_O_even_95, s_O_even_96, s_O_even_99, s_O_even_100, Option.bind_some, Option.bind_none, Option.toList_some, Option.toList_none, List.cons_append, List.nil_append, if_true, if_false, rz_clr, true_or, or_true, z00, z11, bZ_eq0, bZ_eq1, nor_self, if_pos, if_neg, zI_add, zI_sub, zI_mul, zI_neg, zI_lt, zI_le, zI_eq]
    · simp (disch := first | omega | exact Nat.le_of_ble_eq_true rfl) only [e_O_even, s_O_even_0, s_O_even_1, s_O_even_4, s_O_even_5, s_O_even_6, s_O_even_9, s_O_even_10, s_O_even_11, s_O_even_12, s_O_even_13, s_O_even_16, s_O_even_19, s_O_even_20, s_O_even_21, s_O_even_22, s_O_even_25, s_O_even_26, s_O_even_29, s_O_even_30, s_O_even_33, s_O_even_34, s_O_even_37, s_O_even_38, s_O_even_41, s_O_even_42, s_O_even_45, s_O_even_48, s_O_even_49, s_O_even_52, s_O_even_53, s_O_even_56, s_O_even_59, s_O_even_60, s_O_even_63, s_O_even_64, s_O_even_67, s_O_even_70, s_O_even_71, s_O_even_74, s_O_even_77, s_O_even_78, s_O_even_79, s_O_even_82, s_O_even_85, s_O_even_88, s_O_even_89, s_O_even_92, s_O_even_95, s_O_even_96, s_O_even_99, s_O_even_100, Option.bind_some, Option.bind_none, Option.toList_some, Option.toList_none, List.cons_append, List.nil_append, if_true, if_false, rz_clr, true_or, or_true, z00, z11, bZ_eq0, bZ_eq1, nor_self, if_pos, if_neg, zI_add, zI_sub, zI_mul, zI_neg, zI_lt, zI_le, zI_eq]
end PF
