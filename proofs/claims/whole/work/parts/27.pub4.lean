-- the class's public methods: refuses, best, even
theorem IC_6 {σ : zS} {gp : Nat} (hI : IC σ gp) {r : zP} (hr : MR r) (hb : r 4 0 ≤ 90000) : IC (gset σ 6 r) gp := by
  obtain ⟨i1, i2, i3, i4, i5, i6, i7, i8⟩ := hI
  have hg : gset σ 6 r gp = σ gp := gset_ne (by omega)
  have h0 : gset σ 6 r 0 = σ 0 := gset_ne (by decide)
  have h2 : gset σ 6 r 2 = σ 2 := gset_ne (by decide)
  have h6 : gset σ 6 r 6 = r := gset_at σ 6 r
  exact ⟨i1, by rw [h0]; exact i2, by rw [hg]; exact i3, by rw [hg]; exact i4, by rw [hg, h2]; exact i5, by rw [h0]; exact i6, by rw [h6]; exact hr, by rw [h6]; exact hb⟩
theorem toldF_congr {p : zP} {la la' hm hm' : Nat → Int} (h0 : la 0 = la' 0) (h1 : la 1 = la' 1) (g0 : hm 0 = hm' 0) (g1 : hm 1 = hm' 1) (n : Nat) (fl : Bool) (K k : Nat) : toldF p la hm (gV p la hm n) fl K k = toldF p la' hm' (gV p la' hm' n) fl K k := by
  obtain ⟨-, -, a3, -, -, a6, a7⟩ := gV_congr (p := p) h0 h1 g0 g1
  have e : gV p la hm n = gV p la' hm' n := funext (a6 n)
  unfold toldF
  rw [e, a3, a7]
def btr (p : zP) (la hm : Nat → Int) (v : Nat → Int) (K k : Nat) : Bool := decide (wtK K * mostF p la hm v (lessK K) k < wtK K * dnK p la hm v K k)
theorem btr_congr {p : zP} {la la' hm hm' : Nat → Int} (h0 : la 0 = la' 0) (h1 : la 1 = la' 1) (g0 : hm 0 = hm' 0) (g1 : hm 1 = hm' 1) (n : Nat) (K k : Nat) : btr p la hm (gV p la hm n) K k = btr p la' hm' (gV p la' hm' n) K k := by
  obtain ⟨-, -, a3, -, -, a6, a7⟩ := gV_congr (p := p) h0 h1 g0 g1
  have e : gV p la hm n = gV p la' hm' n := funext (a6 n)
  unfold btr
  rw [e, a3, a7]
section PE
variable {N gp : Nat} {σ : zS}
theorem z_isBetter (hN : 48 ≤ N) (hC : RC σ gp) {n : Nat} (hn : n ≤ 4) {K k : Nat} (hK : vK (σ gp) K) (hk : k < 8) (hl : 0 < lf K (tm K)) (E : Nat) {Kn : Nat → Int} (hM : MOKσ σ gp Kn) : ∃ K', rz_dM (E + 39) iR_isBetterRefused [.ref (bs 6), .int (zI K), .int (zI k), .int (zI ((n : Int) + 1))] (wOf N (RS σ Kn)) = some (some (.int (zI (bZ (btr (σ gp) (σ 6 1) (σ 6 2) (gVσ σ gp n) K k = true)))), wOf N (RS σ K')) ∧ MOKσ σ gp K' := by
  have hv := z_val (σ := σ) (gp := gp) hN hC n hn
  obtain ⟨K1, h1, m1⟩ := z_afterRefused hN hC hv hn hK hk hl (E + (28 - 7 * n)) Kn hM
  obtain ⟨K2, h2, m2⟩ := z_afterDone hN hC hv hn (E + (31 - 7 * n)) K1 m1 K k hK hk
  rw [show E + (28 - 7 * n) + 7 * n + 10 = E + 38 by omega] at h1
  rw [show E + (31 - 7 * n) + 7 * n + 7 = E + 38 by omega] at h2
  refine ⟨K2, ?_, m2⟩
  have hg := gV_rg (σ gp) (σ 6 1) (σ 6 2) n
  have r1 := wmul_rg (wtK_pm K) (mostF_rg (p := σ gp) (la := σ 6 1) (hm := σ 6 2) hg (lessK K) k)
  have r2 := wmul_rg (wtK_pm K) (dnK_rg (p := σ gp) (la := σ 6 1) (hm := σ 6 2) hg K k)
  have hK1 := hK.1
  by_cases q : btr (σ gp) (σ 6 1) (σ 6 2) (gVσ σ gp n) K k = true
  · have e : bZ (btr (σ gp) (σ 6 1) (σ 6 2) (gVσ σ gp n) K k = true) = 1 := if_pos q
    rw [e]
    unfold btr gVσ at q
    rw [decide_eq_true_eq] at q
    have q' : ¬ (wtK K * dnK (σ gp) (σ 6 1) (σ 6 2) (gV (σ gp) (σ 6 1) (σ 6 2) n) K k ≤ wtK K * mostF (σ gp) (σ 6 1) (σ 6 2) (gV (σ gp) (σ 6 1) (σ 6 2) n) (lessK K) k) := by omega
    have q'' : ¬ (zI (wtK K * dnK (σ gp) (σ 6 1) (σ 6 2) (gV (σ gp) (σ 6 1) (σ 6 2) n) K k) ≤ zI (wtK K * mostF (σ gp) (σ 6 1) (σ 6 2) (gV (σ gp) (σ 6 1) (σ 6 2) n) (lessK K) k)) := fun z => q' ((zI_le (by omega) (by omega)).mp z)
    simp (disch := first | omega | exact Nat.le_of_ble_eq_true rfl) only [e_R_isBetterRefused, s_R_isBetterRefused_0, s_R_isBetterRefused_1, s_R_isBetterRefused_4, s_R_isBetterRefused_5, s_R_isBetterRefused_6, s_R_isBetterRefused_7, s_R_isBetterRefused_8, s_R_isBetterRefused_11, s_R_isBetterRefused_12, s_R_isBetterRefused_13, s_R_isBetterRefused_16, s_R_isBetterRefused_17, s_R_isBetterRefused_18, s_R_isBetterRefused_19, s_R_isBetterRefused_20, s_R_isBetterRefused_23, s_R_isBetterRefused_24, s_R_isBetterRefused_27, s_R_isBetterRefused_28, s_R_isBetterRefused_31, s_R_isBetterRefused_32, Option.bind_some, Option.bind_none, Option.toList_some, Option.toList_none, List.cons_append, List.nil_append, if_true, if_false, rz_clr, true_or, or_true, z00, z11, bZ_eq0, bZ_eq1, nor_self, if_pos, if_neg, zI_mul, zI_eq, c_R, f_R_0, l_R_0, r_R_0, w_R_0, f_R_1, l_R_1, r_R_1, w_R_1, f_R_2, l_R_2, r_R_2, w_R_2, f_R_3, u_R_3, f_R_4, u_R_4, z_wants, h1, h2, q'']
  · have e : bZ (btr (σ gp) (σ 6 1) (σ 6 2) (gVσ σ gp n) K k = true) = 0 := if_neg q
    rw [e]
    unfold btr gVσ at q
    rw [decide_eq_true_eq] at q
    have q'' : (zI (wtK K * dnK (σ gp) (σ 6 1) (σ 6 2) (gV (σ gp) (σ 6 1) (σ 6 2) n) K k) ≤ zI (wtK K * mostF (σ gp) (σ 6 1) (σ 6 2) (gV (σ gp) (σ 6 1) (σ 6 2) n) (lessK K) k)) := (zI_le (by omega) (by omega)).mpr (by omega)
    simp (disch := first | omega | exact Nat.le_of_ble_eq_true rfl) only [e_R_isBetterRefused, s_R_isBetterRefused_0, s_R_isBetterRefused_1, s_R_isBetterRefused_4, s_R_isBetterRefused_5, s_R_isBetterRefused_6, s_R_isBetterRefused_7, s_R_isBetterRefused_8, s_R_isBetterRefused_11, s_R_isBetterRefused_12, s_R_isBetterRefused_13, s_R_isBetterRefused_16, s_R_isBetterRefused_17, s_R_isBetterRefused_18, s_R_isBetterRefused_19, s_R_isBetterRefused_20, s_R_isBetterRefused_23, s_R_isBetterRefused_24, s_R_isBetterRefused_27, s_R_isBetterRefused_28, s_R_isBetterRefused_31, s_R_isBetterRefused_32, Option.bind_some, Option.bind_none, Option.toList_some, Option.toList_none, List.cons_append, List.nil_append, if_true, if_false, rz_clr, true_or, or_true, z00, z11, bZ_eq0, bZ_eq1, nor_self, if_pos, if_neg, zI_mul, zI_eq, c_R, f_R_0, l_R_0, r_R_0, w_R_0, f_R_1, l_R_1, r_R_1, w_R_1, f_R_2, l_R_2, r_R_2, w_R_2, f_R_3, u_R_3, f_R_4, u_R_4, z_wants, h1, h2, q'']
/-- how many steps are reckoned, less one -/
def ahN (q : zP) (n : Int) : Nat := (min n (99 - q 4 0) - 1).toNat
def refusesA (q p : zP) (k n : Int) : Int := if 1 ≤ n ∧ n ≤ 5 then (if wntQ q p k = 0 then (if mbrQ q p k = true then bZ (btr p (laO p) (hoO p) (gV p (laO p) (hoO p) (ahN q n)) (kW q) k.toNat = true) else 0) else wntQ q p k) else -1
theorem wntQ_o {q p : zP} {k : Int} (h : wntQ q p k = 0) : q 5 0 = 0 ∧ ¬ k = q 3 0 ∧ (mayW q p (1 - q 2 0)).testBit k.toNat = true := by
  unfold wntQ at h
  split at h
  · split at h
    · rename_i h5
      split at h
      · omega
      · rename_i h6
        split at h
        · rename_i h7; exact ⟨h5, h6, h7⟩
        · omega
    · omega
  · omega
theorem mbrQ_l {q p : zP} {k : Int} (h : mbrQ q p k = true) : q 3 0 = -9 ∧ 0 < q 1 (1 - q 2 0).toNat ∧ woB (mayW q p (1 - q 2 0)) k ≠ 0 := by
  unfold mbrQ at h
  simpa using h
theorem kW_lf {q p : zP} (hw : wfP p) (h : wfW q p) : (lf (kW q) (tm (kW q)) : Int) = q 1 (1 - q 2 0).toNat := by
  obtain ⟨-, -, -, k2, k3, k4⟩ := kW_f hw h
  have b0 := (h.1 0 (by decide)).2
  have b1 := (h.1 1 (by decide)).2
  have ht := h.2.1
  have e : tm (kW q) = (1 - q 2 0).toNat := by unfold tm; omega
  rw [e]
  rcases ht with e9 | e9 <;> rw [e9]
  · show (lf (kW q) 1 : Int) = q 1 1
    omega
  · show (lf (kW q) 0 : Int) = q 1 0
    omega
theorem z_refuses (hN : 48 ≤ N) (hI : IC σ gp) {k n : Int} (hk : rg k) (hn : rg n) (E : Nat) : ∃ r, rz_dM (E + 43) iO_refuses [.ref (bs 0), .int (zI k), .int (zI n)] (wOf N σ) = some (some (.int (zI (refusesA (σ 2) (σ gp) k n))), wOf N (gset σ 6 r)) ∧ MR r ∧ r 4 0 ≤ σ 6 4 0 + 20 := by
  have hwn := z_whyNotTold (E + 37) hN hI hk
  have hmb := z_mayBeRefused (E + 37) hN hI hk
  have hwr := wntQ_rg (σ 2) (σ gp) k
  unfold refusesA
  by_cases a1 : 1 ≤ n ∧ n ≤ 5
  · rw [if_pos a1]
    by_cases a2 : wntQ (σ 2) (σ gp) k = 0
    · rw [if_pos a2]
      by_cases a3 : mbrQ (σ 2) (σ gp) k = true
      · rw [if_pos a3]
        rw [bZ_pos a3] at hmb
        obtain ⟨o1, o2, o3⟩ := wntQ_o a2
        obtain ⟨p1, p2, p3⟩ := mbrQ_l a3
        have hkk := wntQ_k a2
        obtain ⟨b1, b2, b3, b4, b5, ⟨c1, c2, c3, c4⟩, b7⟩ := bgO_f hI
        have hkv := (kW_f hI.2.2.1 hI.2.2.2.2.1).1
        have hlf := kW_lf hI.2.2.1 hI.2.2.2.2.1
        have hs := hI.2.2.2.2.1.2.2.2.2.2 o1
        have hs0 := hI.2.2.2.2.1.2.2.2.1
        obtain ⟨kn, rfl⟩ : ∃ kn : Nat, k = kn := ⟨k.toNat, by omega⟩
        obtain ⟨K', h1, m1⟩ := z_isBetter (σ := bgO σ gp) (gp := gp) hN b1 (n := ahN (σ 2) n) (by unfold ahN; omega) (K := kW (σ 2)) (k := kn) (by rw [b3]; exact hkv) (by omega) (by omega) (E + 3) b2
        rw [RS_self, b3] at h1
        have ha : ((ahN (σ 2) n : Nat) : Int) + 1 = min n (99 - σ 2 4 0) := by unfold ahN; omega
        rw [ha] at h1
        have hah := z_ahead (N := N) (σ := bgO σ gp) (E + 41) hN (n := n) (by omega) (by rw [b4]; omega)
        rw [b4] at hah
        have hra : rz_dM (E + 42) iO_reckonAsItIs [.ref (bs 0)] (wOf N σ) = some (none, wOf N (bgO σ gp)) := z_reckonAsItIs (E + 38) hN hI
        have hke := z_key (E + 40) (N := N) (g := 2) (σ := bgO σ gp) (p := σ gp) (by decide) (by decide) hN hI.2.2.1 (by rw [b4]; exact hI.2.2.2.2.1)
        rw [b4] at hke
        obtain ⟨r, r1, r2, r3⟩ := RS_bg (N := N) hI m1
        refine ⟨r, ?_, r2, by omega⟩
        rw [← r1, Int.toNat_natCast]
        have hbc := btr_congr (p := σ gp) c1 c2 c3 c4 (ahN (σ 2) n) (kW (σ 2)) kn
        by_cases a4 : btr (σ gp) (laO (σ gp)) (hoO (σ gp)) (gV (σ gp) (laO (σ gp)) (hoO (σ gp)) (ahN (σ 2) n)) (kW (σ 2)) kn = true
        · have e8 : bZ (btr (σ gp) (laO (σ gp)) (hoO (σ gp)) (gV (σ gp) (laO (σ gp)) (hoO (σ gp)) (ahN (σ 2) n)) (kW (σ 2)) kn = true) = 1 := if_pos a4
          have e9 : bZ (btr (σ gp) (bgO σ gp 6 1) (bgO σ gp 6 2) (gVσ (bgO σ gp) gp (ahN (σ 2) n)) (kW (σ 2)) kn = true) = 1 := if_pos (by show btr (σ gp) (bgO σ gp 6 1) (bgO σ gp 6 2) (gV (bgO σ gp gp) (bgO σ gp 6 1) (bgO σ gp 6 2) (ahN (σ 2) n)) (kW (σ 2)) kn = true; rw [b3, hbc]; exact a4)
          rw [e9] at h1
          rw [e8]
          simp (disch := first | omega | exact Nat.le_of_ble_eq_true rfl) only [e_O_refuses, s_O_refuses_0, s_O_refuses_1, s_O_refuses_2, s_O_refuses_5, s_O_refuses_6, s_O_refuses_7, s_O_refuses_10, s_O_refuses_11, s_O_refuses_12, s_O_refuses_13, s_O_refuses_14, s_O_refuses_17, s_O_refuses_18, s_O_refuses_19, s_O_refuses_22, s_O_refuses_23, s_O_refuses_24, s_O_refuses_25, s_O_refuses_26, s_O_refuses_29, s_O_refuses_32, s_O_refuses_33, s_O_refuses_34, s_O_refuses_35, s_O_refuses_38, s_O_refuses_39, s_O_refuses_42, s_O_refuses_43, s_O_refuses_46, s_O_refuses_49, s_O_refuses_50, s_O_refuses_51, s_O_refuses_52, s_O_refuses_55, s_O_refuses_58, s_O_refuses_61, s_O_refuses_62, s_O_refuses_65, s_O_refuses_66, Option.bind_some, Option.bind_none, Option.toList_some, Option.toList_none, List.cons_append, List.nil_append, if_true, if_false, rz_clr, true_or, or_true, z00, z11, bZ_eq0, bZ_eq1, nor_self, if_pos, if_neg, zI_add, zI_sub, zI_mul, zI_neg, zI_lt, zI_le, zI_eq, c_O, f_O_0, f_O_1, f_O_2, f_O_3, f_O_4, f_O_5, f_O_6, l_O_6, r_O_6, w_O_6, f_O_7, u_O_7, f_O_8, u_O_8, f_O_9, u_O_9, f_O_10, u_O_10, c_W, f_W_0, l_W_0, r_W_0, w_W_0, f_W_1, l_W_1, r_W_1, w_W_1, f_W_2, u_W_2, f_W_3, u_W_3, f_W_4, u_W_4, f_W_5, u_W_5, f_W_6, u_W_6, c_R, f_R_0, l_R_0, r_R_0, w_R_0, f_R_1, l_R_1, r_R_1, w_R_1, f_R_2, l_R_2, r_R_2, w_R_2, f_R_3, u_R_3, f_R_4, u_R_4, hwn, a2, hmb, hra, hke, hah, h1]
        · have e8 : bZ (btr (σ gp) (laO (σ gp)) (hoO (σ gp)) (gV (σ gp) (laO (σ gp)) (hoO (σ gp)) (ahN (σ 2) n)) (kW (σ 2)) kn = true) = 0 := if_neg a4
          have e9 : bZ (btr (σ gp) (bgO σ gp 6 1) (bgO σ gp 6 2) (gVσ (bgO σ gp) gp (ahN (σ 2) n)) (kW (σ 2)) kn = true) = 0 := if_neg (fun z => a4 (by have z' : btr (σ gp) (bgO σ gp 6 1) (bgO σ gp 6 2) (gV (bgO σ gp gp) (bgO σ gp 6 1) (bgO σ gp 6 2) (ahN (σ 2) n)) (kW (σ 2)) kn = true := z; rw [b3, hbc] at z'; exact z'))
          rw [e9] at h1
          rw [e8]
          simp (disch := first | omega | exact Nat.le_of_ble_eq_true rfl) only [e_O_refuses, s_O_refuses_0, s_O_refuses_1, s_O_refuses_2, s_O_refuses_5, s_O_refuses_6, s_O_refuses_7, s_O_refuses_10, s_O_refuses_11, s_O_refuses_12, s_O_refuses_13, s_O_refuses_14, s_O_refuses_17, s_O_refuses_18, s_O_refuses_19, s_O_refuses_22, s_O_refuses_23, s_O_refuses_24, s_O_refuses_25, s_O_refuses_26, s_O_refuses_29, s_O_refuses_32, s_O_refuses_33, s_O_refuses_34, s_O_refuses_35, s_O_refuses_38, s_O_refuses_39, s_O_refuses_42, s_O_refuses_43, s_O_refuses_46, s_O_refuses_49, s_O_refuses_50, s_O_refuses_51, s_O_refuses_52, s_O_refuses_55, s_O_refuses_58, s_O_refuses_61, s_O_refuses_62, s_O_refuses_65, s_O_refuses_66, Option.bind_some, Option.bind_none, Option.toList_some, Option.toList_none, List.cons_append, List.nil_append, if_true, if_false, rz_clr, true_or, or_true, z00, z11, bZ_eq0, bZ_eq1, nor_self, if_pos, if_neg, zI_add, zI_sub, zI_mul, zI_neg, zI_lt, zI_le, zI_eq, c_O, f_O_0, f_O_1, f_O_2, f_O_3, f_O_4, f_O_5, f_O_6, l_O_6, r_O_6, w_O_6, f_O_7, u_O_7, f_O_8, u_O_8, f_O_9, u_O_9, f_O_10, u_O_10, c_W, f_W_0, l_W_0, r_W_0, w_W_0, f_W_1, l_W_1, r_W_1, w_W_1, f_W_2, u_W_2, f_W_3, u_W_3, f_W_4, u_W_4, f_W_5, u_W_5, f_W_6, u_W_6, c_R, f_R_0, l_R_0, r_R_0, w_R_0, f_R_1, l_R_1, r_R_1, w_R_1, f_R_2, l_R_2, r_R_2, w_R_2, f_R_3, u_R_3, f_R_4, u_R_4, hwn, a2, hmb, hra, hke, hah, h1]
      · rw [if_neg a3]
        rw [bZ_neg a3] at hmb
        refine ⟨σ 6, ?_, hI.2.2.2.2.2.2.1, by omega⟩
        rw [gset_self]
        simp (disch := first | omega | exact Nat.le_of_ble_eq_true rfl) only [e_O_refuses, s_O_refuses_0, s_O_refuses_1, s_O_refuses_2, s_O_refuses_5, s_O_refuses_6, s_O_refuses_7, s_O_refuses_10, s_O_refuses_11, s_O_refuses_12, s_O_refuses_13, s_O_refuses_14, s_O_refuses_17, s_O_refuses_18, s_O_refuses_19, s_O_refuses_22, s_O_refuses_23, s_O_refuses_24, s_O_refuses_25, s_O_refuses_26, s_O_refuses_29, s_O_refuses_32, s_O_refuses_33, s_O_refuses_34, s_O_refuses_35, s_O_refuses_38, s_O_refuses_39, s_O_refuses_42, s_O_refuses_43, s_O_refuses_46, s_O_refuses_49, s_O_refuses_50, s_O_refuses_51, s_O_refuses_52, s_O_refuses_55, s_O_refuses_58, s_O_refuses_61, s_O_refuses_62, s_O_refuses_65, s_O_refuses_66, Option.bind_some, Option.bind_none, Option.toList_some, Option.toList_none, List.cons_append, List.nil_append, if_true, if_false, rz_clr, true_or, or_true, z00, z11, bZ_eq0, bZ_eq1, nor_self, if_pos, if_neg, zI_add, zI_sub, zI_mul, zI_neg, zI_lt, zI_le, zI_eq, c_O, f_O_0, f_O_1, f_O_2, f_O_3, f_O_4, f_O_5, f_O_6, l_O_6, r_O_6, w_O_6, f_O_7, u_O_7, f_O_8, u_O_8, f_O_9, u_O_9, f_O_10, u_O_10, hwn, a2, hmb]
    · rw [if_neg a2]
      refine ⟨σ 6, ?_, hI.2.2.2.2.2.2.1, by omega⟩
      rw [gset_self]
      simp (disch := first | omega | exact Nat.le_of_ble_eq_true rfl) only [e_O_refuses, s_O_refuses_0, s_O_refuses_1, s_O_refuses_2, s_O_refuses_5, s_O_refuses_6, s_O_refuses_7, s_O_refuses_10, s_O_refuses_11, s_O_refuses_12, s_O_refuses_13, s_O_refuses_14, s_O_refuses_17, s_O_refuses_18, s_O_refuses_19, s_O_refuses_22, s_O_refuses_23, s_O_refuses_24, s_O_refuses_25, s_O_refuses_26, s_O_refuses_29, s_O_refuses_32, s_O_refuses_33, s_O_refuses_34, s_O_refuses_35, s_O_refuses_38, s_O_refuses_39, s_O_refuses_42, s_O_refuses_43, s_O_refuses_46, s_O_refuses_49, s_O_refuses_50, s_O_refuses_51, s_O_refuses_52, s_O_refuses_55, s_O_refuses_58, s_O_refuses_61, s_O_refuses_62, s_O_refuses_65, s_O_refuses_66, Option.bind_some, Option.bind_none, Option.toList_some, Option.toList_none, List.cons_append, List.nil_append, if_true, if_false, rz_clr, true_or, or_true, z00, z11, bZ_eq0, bZ_eq1, nor_self, if_pos, if_neg, zI_add, zI_sub, zI_mul, zI_neg, zI_lt, zI_le, zI_eq, c_O, f_O_0, f_O_1, f_O_2, f_O_3, f_O_4, f_O_5, f_O_6, l_O_6, r_O_6, w_O_6, f_O_7, u_O_7, f_O_8, u_O_8, f_O_9, u_O_9, f_O_10, u_O_10, hwn]
  · rw [if_neg a1]
    refine ⟨σ 6, ?_, hI.2.2.2.2.2.2.1, by omega⟩
    rw [gset_self]
    by_cases a4 : 1 ≤ n
    · simp (disch := first | omega | exact Nat.le_of_ble_eq_true rfl) only [e_O_refuses, s_O_refuses_0, s_O_refuses_1, s_O_refuses_2, s_O_refuses_5, s_O_refuses_6, s_O_refuses_7, s_O_refuses_10, s_O_refuses_11, s_O_refuses_12, s_O_refuses_13, s_O_refuses_14, s_O_refuses_17, s_O_refuses_18, s_O_refuses_19, s_O_refuses_22, s_O_refuses_23, s_O_refuses_24, s_O_refuses_25, s_O_refuses_26, s_O_refuses_29, s_O_refuses_32, s_O_refuses_33, s_O_refuses_34, s_O_refuses_35, s_O_refuses_38, s_O_refuses_39, s_O_refuses_42, s_O_refuses_43, s_O_refuses_46, s_O_refuses_49, s_O_refuses_50, s_O_refuses_51, s_O_refuses_52, s_O_refuses_55, s_O_refuses_58, s_O_refuses_61, s_O_refuses_62, s_O_refuses_65, s_O_refuses_66, Option.bind_some, Option.bind_none, Option.toList_some, Option.toList_none, List.cons_append, List.nil_append, if_true, if_false, rz_clr, true_or, or_true, z00, z11, bZ_eq0, bZ_eq1, nor_self, if_pos, if_neg, zI_add, zI_sub, zI_mul, zI_neg, zI_lt, zI_le, zI_eq]
    · simp (disch := first | omega | exact Nat.le_of_ble_eq_true rfl) only [e_O_refuses, s_O_refuses_0, s_O_refuses_1, s_O_refuses_2, s_O_refuses_5, s_O_refuses_6, s_O_refuses_7, s_O_refuses_10, s_O_refuses_11, s_O_refuses_12, s_O_refuses_13, s_O_refuses_14, s_O_refuses_17, s_O_refuses_18, s_O_refuses_19, s_O_refuses_22, s_O_refuses_23, s_O_refuses_24, s_O_refuses_25, s_O_refuses_26, s_O_refuses_29, s_O_refuses_32, s_O_refuses_33, s_O_refuses_34, s_O_refuses_35, s_O_refuses_38, s_O_refuses_39, s_O_refuses_42, s_O_refuses_43, s_O_refuses_46, s_O_refuses_49, s_O_refuses_50, s_O_refuses_51, s_O_refuses_52, s_O_refuses_55, s_O_refuses_58, s_O_refuses_61, s_O_refuses_62, s_O_refuses_65, s_O_refuses_66, Option.bind_some, Option.bind_none, Option.toList_some, Option.toList_none, List.cons_append, List.nil_append, if_true, if_false, rz_clr, true_or, or_true, z00, z11, bZ_eq0, bZ_eq1, nor_self, if_pos, if_neg, zI_add, zI_sub, zI_mul, zI_neg, zI_lt, zI_le, zI_eq]
end PE
