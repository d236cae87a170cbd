-- the class's public methods: worth, even, refuses, best
theorem RCM {σ : zS} {gp : Nat} (hI : IC σ gp) {r : zP} (b1 : r 3 0 = gp) (b2 : r 4 0 = σ 6 4 0 + 1) (b3 : r 0 = σ 6 0) (b4 : rg (r 1 0) ∧ rg (r 1 1)) (b5 : rg (r 2 0) ∧ rg (r 2 1)) : RC (gset σ 6 r) gp ∧ MOKσ (gset σ 6 r) gp ((gset σ 6 r) 6 0) := by
  obtain ⟨i1, i2, i3, i4, i5, i6, i7, i8⟩ := hI
  have hg : gset σ 6 r gp = σ gp := gset_ne (by omega)
  have h6 : gset σ 6 r 6 = r := gset_at σ 6 r
  have hr40 := i7.1
  refine ⟨⟨by omega, by omega, by rw [h6]; exact b1, by rw [hg]; exact i3, by rw [hg]; exact i4, fun m hm => ?_, fun m hm => ?_, by rw [h6, b2]; omega, by rw [h6, b2]; omega⟩, ?_⟩
  · rw [h6]
    have e : m = 0 ∨ m = 1 := by omega
    rcases e with e | e <;> subst e
    · exact b4.1
    · exact b4.2
  · rw [h6]
    have e : m = 0 ∨ m = 1 := by omega
    rcases e with e | e <;> subst e
    · exact b5.1
    · exact b5.2
  · show MOK (gset σ 6 r gp) (gset σ 6 r 6 1) (gset σ 6 r 6 2) (gset σ 6 r 6 4 0) (gset σ 6 r 6 0)
    rw [h6, b2, b3]
    exact MOK_fresh i7.2 (by omega)
theorem RC_RS {σ : zS} {gp : Nat} {Kn : Nat → Int} (h : RC σ gp) : RC (RS σ Kn) gp := by
  obtain ⟨c1, c2, c3, c4, c5, c6, c7, c8, c9⟩ := h
  have hne : gp ≠ 6 := by omega
  exact ⟨c1, c2, by rw [RS_6 (by decide)]; exact c3, by rw [RS_ne hne]; exact c4, by rw [RS_ne hne]; exact c5, by rw [RS_6 (by decide)]; exact c6, by rw [RS_6 (by decide)]; exact c7, by rw [RS_6 (by decide)]; exact c8, by rw [RS_6 (by decide)]; exact c9⟩
theorem RS_RS (σ : zS) (a b : Nat → Int) : RS (RS σ a) b = RS σ b := by
  unfold RS
  rw [gset_gset, gset_at, pset_pset]
section PD
variable {N gp : Nat} {σ : zS}
theorem z_valueFrom' (hN : 48 ≤ N) (hw : wfP (σ gp)) (hq : wfW (σ 2) (σ gp)) (hC : RC σ gp) {K : Nat} {n : Int} (hn : 0 ≤ n ∧ n ≤ 5) (hK : vK (σ gp) K) {Kn : Nat → Int} (hM : MOKσ σ gp Kn) (E : Nat) : ∃ K', rz_dM (E + 41) iO_valueFrom [.ref (bs 0), .int (zI K), .int (zI n)] (wOf N (RS σ Kn)) = some (some (.int (zI (valQ (σ gp) (σ 6 1) (σ 6 2) (σ 2) K n))), wOf N (RS σ K')) ∧ MOKσ σ gp K' := by
  have hne : gp ≠ 6 := by have := hC.1; have := hC.2.1; omega
  have e1 : RS σ Kn gp = σ gp := RS_ne hne
  have e2 : RS σ Kn 2 = σ 2 := RS_ne (by decide)
  obtain ⟨K', h1, h2⟩ := z_valueFrom (σ := RS σ Kn) (gp := gp) hN (by rw [e1]; exact hw) (by rw [e1, e2]; exact hq) (RC_RS hC) hn (by rw [e1]; exact hK) (by
    show MOK (RS σ Kn gp) (RS σ Kn 6 1) (RS σ Kn 6 2) (RS σ Kn 6 4 0) (RS σ Kn 6 0)
    rw [e1, RS_6 (by decide), RS_6 (by decide), RS_6 (by decide), RS_0]; exact hM) E
  have h2' : MOK (RS σ Kn gp) (RS σ Kn 6 1) (RS σ Kn 6 2) (RS σ Kn 6 4 0) K' := h2
  rw [e1, e2, RS_6 (by decide), RS_6 (by decide), RS_RS] at h1
  rw [e1, RS_6 (by decide), RS_6 (by decide), RS_6 (by decide)] at h2'
  exact ⟨K', h1, h2'⟩
/-- the class behind reckonAsItIs -/
def bgO (σ : zS) (gp : Nat) : zS := gset σ 6 (beginR (σ 6) (σ gp) gp (lawP (σ gp) 0) (lawP (σ gp) 1))
theorem bgO_f (hI : IC σ gp) : RC (bgO σ gp) gp ∧ MOKσ (bgO σ gp) gp (bgO σ gp 6 0) ∧ bgO σ gp gp = σ gp ∧ bgO σ gp 2 = σ 2 ∧ (∀ g, g ≠ 6 → bgO σ gp g = σ g) ∧ (bgO σ gp 6 1 0 = laO (σ gp) 0 ∧ bgO σ gp 6 1 1 = laO (σ gp) 1 ∧ bgO σ gp 6 2 0 = hoO (σ gp) 0 ∧ bgO σ gp 6 2 1 = hoO (σ gp) 1) ∧ bgO σ gp 6 4 0 = σ 6 4 0 + 1 := by
  obtain ⟨b1, b2, b3, b4, b5⟩ := beginR_f (σ 6) (σ gp) gp (lawP (σ gp) 0) (lawP (σ gp) 1)
  have hl0 := lawP_rg hI.2.2.1 (m := 0) (by omega)
  have hl1 := lawP_rg hI.2.2.1 (m := 1) (by omega)
  have hm0 := (hI.2.2.1.2.2.2 0 (by decide)).2.1
  have hm1 := (hI.2.2.1.2.2.2 1 (by decide)).2.1
  have ha := wfP_area hI.2.2.1
  have h := RCM hI (r := beginR (σ 6) (σ gp) gp (lawP (σ gp) 0) (lawP (σ gp) 1)) b1 b2 b3 (by rw [b4.1, b4.2]; omega) (by rw [b5.1, b5.2]; omega)
  have i1 := hI.1
  refine ⟨h.1, h.2, gset_ne (by omega), gset_ne (by decide), fun g hg => gset_ne hg, ?_, ?_⟩
  · unfold bgO
    rw [gset_at]
    exact ⟨b4.1, b4.2, b5.1, b5.2⟩
  · unfold bgO
    rw [gset_at]
    exact b2
theorem RS_bg {σ : zS} {gp : Nat} {K' : Nat → Int} (hI : IC σ gp) (h : MOKσ (bgO σ gp) gp K') : ∃ r, wOf N (RS (bgO σ gp) K') = wOf N (gset σ 6 r) ∧ MR r ∧ r 4 0 = σ 6 4 0 + 1 := by
  have h6 := (bgO_f hI).2.2.2.2.2.2
  have hr := RS_mr h (by rw [h6]; have := hI.2.2.2.2.2.2.1.1; omega)
  refine ⟨RS (bgO σ gp) K' 6, ?_, hr.1, by rw [hr.2, h6]⟩
  congr 1
  unfold RS bgO
  rw [gset_gset, gset_at, gset_at]
theorem z_valueAsItIs' (hN : 48 ≤ N) (hI : IC σ gp) {n : Int} (hn : 0 ≤ n ∧ n ≤ 5) (E : Nat) : ∃ K', rz_dM (E + 42) iO_valueAsItIs [.ref (bs 0), .int (zI n)] (wOf N σ) = some (some (.int (zI (valQ (σ gp) (laO (σ gp)) (hoO (σ gp)) (σ 2) (kW (σ 2)) n))), wOf N (RS (bgO σ gp) K')) ∧ MOKσ (bgO σ gp) gp K' := by
  obtain ⟨b1, b2, b3, b4, b5, ⟨c1, c2, c3, c4⟩, b7⟩ := bgO_f hI
  have hkv := (kW_f hI.2.2.1 hI.2.2.2.2.1).1
  obtain ⟨K', h1, h2⟩ := z_valueFrom (σ := bgO σ gp) (gp := gp) hN (by rw [b3]; exact hI.2.2.1) (by rw [b3, b4]; exact hI.2.2.2.2.1) b1 hn (by rw [b3]; exact hkv) b2 E
  refine ⟨K', ?_, h2⟩
  rw [b3, b4, valQ_congr c1 c2 c3 c4] at h1
  have hra := z_reckonAsItIs (E + 37) hN hI
  have hra' : rz_dM (E + 37 + 4) iO_reckonAsItIs [.ref (bs 0)] (wOf N σ) = some (none, wOf N (bgO σ gp)) := hra
  have hk := z_key (E + 39) (N := N) (g := 2) (σ := bgO σ gp) (p := σ gp) (by decide) (by decide) hN hI.2.2.1 (by rw [b4]; exact hI.2.2.2.2.1)
  rw [b4] at hk
  simp (disch := first | omega | exact Nat.le_of_ble_eq_true rfl) only [e_O_valueAsItIs, s_O_valueAsItIs_0, s_O_valueAsItIs_1, s_O_valueAsItIs_4, s_O_valueAsItIs_5, s_O_valueAsItIs_6, s_O_valueAsItIs_9, s_O_valueAsItIs_12, s_O_valueAsItIs_13, s_O_valueAsItIs_16, Option.bind_some, Option.bind_none, Option.toList_some, Option.toList_none, List.cons_append, List.nil_append, if_true, if_false, rz_clr, true_or, or_true, z00, z11, bZ_eq0, bZ_eq1, nor_self, if_pos, if_neg, zI_add, zI_sub, zI_mul, zI_neg, zI_lt, zI_le, zI_eq, c_O, f_O_0, f_O_1, f_O_2, f_O_3, f_O_4, f_O_5, f_O_6, l_O_6, r_O_6, w_O_6, f_O_7, u_O_7, f_O_8, u_O_8, f_O_9, u_O_9, f_O_10, u_O_10, c_W, f_W_0, l_W_0, r_W_0, w_W_0, f_W_1, l_W_1, r_W_1, w_W_1, f_W_2, u_W_2, f_W_3, u_W_3, f_W_4, u_W_4, f_W_5, u_W_5, f_W_6, u_W_6, hra', hk, h1]
def kMore (q : zP) (m : Int) : Nat := if m = 0 then kW q + 256 else kW q + 1024
def worthA (q p : zP) (m n : Int) : Int := if (0 ≤ m ∧ m < 2) ∧ (0 ≤ n ∧ n ≤ 4) then (if q 1 m.toNat < 2 then valQ p (laO p) (hoO p) q (kMore q m) n - valQ p (laO p) (hoO p) q (kW q) n else 0) else -1000000
theorem valQ_rg (p : zP) (la hm : Nat → Int) (q : zP) (K : Nat) (n : Int) : -1 ≤ valQ p la hm q K n ∧ valQ p la hm q K n ≤ 1 := by
  unfold valQ mostA wonW
  split
  · split
    · omega
    · exact mostF_rg (gV_rg p la hm _) _ _
  · split
    · omega
    · split <;> omega
theorem z_worth (hN : 48 ≤ N) (hI : IC σ gp) {m n : Int} (hm : rg m) (hn : rg n) (E : Nat) : ∃ r, rz_dM (E + 43) iO_worth [.ref (bs 0), .int (zI m), .int (zI n)] (wOf N σ) = some (some (.int (zI (worthA (σ 2) (σ gp) m n))), wOf N (gset σ 6 r)) ∧ MR r ∧ r 4 0 ≤ σ 6 4 0 + 20 := by
  unfold worthA
  by_cases a1 : 0 ≤ m ∧ m < 2
  · by_cases a2 : 0 ≤ n ∧ n ≤ 4
    · rw [if_pos ⟨a1, a2⟩]
      obtain ⟨K1, h1, m1⟩ := z_valueAsItIs' hN hI (n := n) (by omega) E
      obtain ⟨b1, b2, b3, b4, b5, ⟨c1, c2, c3, c4⟩, b7⟩ := bgO_f hI
      obtain ⟨hkv, k0, k1, k2, k3, k4⟩ := kW_f hI.2.2.1 hI.2.2.2.2.1
      have hk := z_key (E + 40) (N := N) (g := 2) (σ := RS (bgO σ gp) K1) (p := σ gp) (by decide) (by decide) hN hI.2.2.1 (by rw [RS_ne (by decide), b4]; exact hI.2.2.2.2.1)
      rw [RS_ne (by decide), b4] at hk
      have hll := (hI.2.2.2.2.1.1 m.toNat (by omega)).2
      have hlf : (lf (kW (σ 2)) m.toNat : Int) = σ 2 1 m.toNat := by
        have e : m = 0 ∨ m = 1 := by omega
        rcases e with e | e <;> subst e
        · show (lf (kW (σ 2)) 0 : Int) = σ 2 1 0
          have := (hI.2.2.2.2.1.1 0 (by decide)).2
          omega
        · show (lf (kW (σ 2)) 1 : Int) = σ 2 1 1
          have := (hI.2.2.2.2.1.1 1 (by decide)).2
          omega
      have hk1 := hkv.1
      by_cases a3 : σ 2 1 m.toNat < 2
      · rw [if_pos a3]
        have hvm : vK (σ gp) (kMore (σ 2) m) := by
          obtain ⟨v1, v2, v3, v4, v5⟩ := hkv
          have hsum := key_sum v1
          have e : m = 0 ∨ m = 1 := by omega
          unfold kMore
          rcases e with e | e <;> subst e
          · rw [if_pos rfl]
            have hl9 : lf (kW (σ 2)) 0 < 2 := by have h9 : (lf (kW (σ 2)) 0 : Int) = σ 2 1 0 := hlf; have h8 : σ 2 1 0 < 2 := a3; omega
            unfold vK lf cl tl at *
            simp only [if_true, if_false, Nat.one_ne_zero] at *
            refine ⟨by omega, by omega, by omega, ?_, ?_⟩
            · rw [show (kW (σ 2) + 256) % 16 = kW (σ 2) % 16 by omega]; exact v4
            · rw [show (kW (σ 2) + 256) / 16 % 16 = kW (σ 2) / 16 % 16 by omega]; exact v5
          · rw [if_neg (by decide)]
            have hl9 : lf (kW (σ 2)) 1 < 2 := by have h9 : (lf (kW (σ 2)) 1 : Int) = σ 2 1 1 := hlf; have h8 : σ 2 1 1 < 2 := a3; omega
            unfold vK lf cl tl at *
            simp only [if_true, if_false, Nat.one_ne_zero] at *
            refine ⟨by omega, by omega, by omega, ?_, ?_⟩
            · rw [show (kW (σ 2) + 1024) % 16 = kW (σ 2) % 16 by omega]; exact v4
            · rw [show (kW (σ 2) + 1024) / 16 % 16 = kW (σ 2) / 16 % 16 by omega]; exact v5
        have hwr : wrK (kW (σ 2)) m 1 = ((kMore (σ 2) m : Nat) : Int) := by
          have e : m = 0 ∨ m = 1 := by omega
          unfold wrK kMore
          rcases e with e | e <;> subst e
          · rw [if_pos rfl, if_pos rfl]; omega
          · rw [if_neg (by decide), if_neg (by decide)]; omega
        obtain ⟨K2, h2, m2⟩ := z_valueFrom' (σ := bgO σ gp) (gp := gp) hN (by rw [b3]; exact hI.2.2.1) (by rw [b3, b4]; exact hI.2.2.2.2.1) b1 (K := kMore (σ 2) m) (n := n) (by omega) (by rw [b3]; exact hvm) m1 (E + 1)
        rw [b3, b4, valQ_congr c1 c2 c3 c4] at h2
        obtain ⟨r, r1, r2, r3⟩ := RS_bg (N := N) hI m2
        refine ⟨r, ?_, r2, by omega⟩
        rw [← r1]
        have h2' : rz_dM (E + 42) iO_valueFrom [.ref (bs 0), .int (zI (kMore (σ 2) m : Nat)), .int (zI n)] (wOf N (RS (bgO σ gp) K1)) = _ := h2
        have h1' : rz_dM (E + 42) iO_valueAsItIs [.ref (bs 0), .int (zI n)] (wOf N σ) = _ := h1
        simp (disch := first | omega | exact Nat.le_of_ble_eq_true rfl) only [e_O_worth, s_O_worth_0, s_O_worth_1, s_O_worth_2, s_O_worth_5, s_O_worth_8, s_O_worth_9, s_O_worth_12, s_O_worth_13, s_O_worth_14, s_O_worth_17, s_O_worth_19, s_O_worth_20, s_O_worth_21, s_O_worth_22, s_O_worth_25, s_O_worth_26, s_O_worth_27, s_O_worth_30, s_O_worth_33, s_O_worth_35, s_O_worth_37, s_O_worth_38, s_O_worth_41, s_O_worth_42, s_O_worth_45, s_O_worth_46, s_O_worth_47, s_O_worth_48, s_O_worth_50, s_O_worth_51, s_O_worth_52, s_O_worth_55, s_O_worth_56, s_O_worth_59, s_O_worth_60, s_O_worth_61, Option.bind_some, Option.bind_none, Option.toList_some, Option.toList_none, List.cons_append, List.nil_append, if_true, if_false, rz_clr, true_or, or_true, z00, z11, bZ_eq0, bZ_eq1, nor_self, if_pos, if_neg, zI_add, zI_sub, zI_mul, zI_neg, zI_lt, zI_le, zI_eq, c_O, f_O_0, f_O_1, f_O_2, f_O_3, f_O_4, f_O_5, f_O_6, l_O_6, r_O_6, w_O_6, f_O_7, u_O_7, f_O_8, u_O_8, f_O_9, u_O_9, f_O_10, u_O_10, c_W, f_W_0, l_W_0, r_W_0, w_W_0, f_W_1, l_W_1, r_W_1, w_W_1, f_W_2, u_W_2, f_W_3, u_W_3, f_W_4, u_W_4, f_W_5, u_W_5, f_W_6, u_W_6, z_isBelow, bZ_pos a1, h1', hk, z_leftIn, hlf, z_withRefusals, hwr, h2']
      · rw [if_neg a3]
        obtain ⟨r, r1, r2, r3⟩ := RS_bg (N := N) hI m1
        refine ⟨r, ?_, r2, by omega⟩
        rw [← r1]
        have h1' : rz_dM (E + 42) iO_valueAsItIs [.ref (bs 0), .int (zI n)] (wOf N σ) = _ := h1
        simp (disch := first | omega | exact Nat.le_of_ble_eq_true rfl) only [e_O_worth, s_O_worth_0, s_O_worth_1, s_O_worth_2, s_O_worth_5, s_O_worth_8, s_O_worth_9, s_O_worth_12, s_O_worth_13, s_O_worth_14, s_O_worth_17, s_O_worth_19, s_O_worth_20, s_O_worth_21, s_O_worth_22, s_O_worth_25, s_O_worth_26, s_O_worth_27, s_O_worth_30, s_O_worth_33, s_O_worth_35, s_O_worth_37, s_O_worth_38, s_O_worth_41, s_O_worth_42, s_O_worth_45, s_O_worth_46, s_O_worth_47, s_O_worth_48, s_O_worth_50, s_O_worth_51, s_O_worth_52, s_O_worth_55, s_O_worth_56, s_O_worth_59, s_O_worth_60, s_O_worth_61, Option.bind_some, Option.bind_none, Option.toList_some, Option.toList_none, List.cons_append, List.nil_append, if_true, if_false, rz_clr, true_or, or_true, z00, z11, bZ_eq0, bZ_eq1, nor_self, if_pos, if_neg, zI_add, zI_sub, zI_mul, zI_neg, zI_lt, zI_le, zI_eq, c_O, f_O_0, f_O_1, f_O_2, f_O_3, f_O_4, f_O_5, f_O_6, l_O_6, r_O_6, w_O_6, f_O_7, u_O_7, f_O_8, u_O_8, f_O_9, u_O_9, f_O_10, u_O_10, c_W, f_W_0, l_W_0, r_W_0, w_W_0, f_W_1, l_W_1, r_W_1, w_W_1, f_W_2, u_W_2, f_W_3, u_W_3, f_W_4, u_W_4, f_W_5, u_W_5, f_W_6, u_W_6, z_isBelow, bZ_pos a1, h1', hk, z_leftIn, hlf]
    · rw [if_neg (fun z => a2 z.2)]
      refine ⟨σ 6, ?_, hI.2.2.2.2.2.2.1, by omega⟩
      rw [gset_self]
      by_cases a4 : 0 ≤ n
      · simp (disch := first | omega | exact Nat.le_of_ble_eq_true rfl) only [e_O_worth, s_O_worth_0, s_O_worth_1, s_O_worth_2, s_O_worth_5, s_O_worth_8, s_O_worth_9, s_O_worth_12, s_O_worth_13, s_O_worth_14, s_O_worth_17, s_O_worth_19, s_O_worth_20, s_O_worth_21, s_O_worth_22, s_O_worth_25, s_O_worth_26, s_O_worth_27, s_O_worth_30, s_O_worth_33, s_O_worth_35, s_O_worth_37, s_O_worth_38, s_O_worth_41, s_O_worth_42, s_O_worth_45, s_O_worth_46, s_O_worth_47, s_O_worth_48, s_O_worth_50, s_O_worth_51, s_O_worth_52, s_O_worth_55, s_O_worth_56, s_O_worth_59, s_O_worth_60, s_O_worth_61, Option.bind_some, Option.bind_none, Option.toList_some, Option.toList_none, List.cons_append, List.nil_append, if_true, if_false, rz_clr, true_or, or_true, z00, z11, bZ_eq0, bZ_eq1, nor_self, if_pos, if_neg, zI_add, zI_sub, zI_mul, zI_neg, zI_lt, zI_le, zI_eq, z_isBelow, bZ_pos a1]
      · simp (disch := first | omega | exact Nat.le_of_ble_eq_true rfl) only [e_O_worth, s_O_worth_0, s_O_worth_1, s_O_worth_2, s_O_worth_5, s_O_worth_8, s_O_worth_9, s_O_worth_12, s_O_worth_13, s_O_worth_14, s_O_worth_17, s_O_worth_19, s_O_worth_20, s_O_worth_21, s_O_worth_22, s_O_worth_25, s_O_worth_26, s_O_worth_27, s_O_worth_30, s_O_worth_33, s_O_worth_35, s_O_worth_37, s_O_worth_38, s_O_worth_41, s_O_worth_42, s_O_worth_45, s_O_worth_46, s_O_worth_47, s_O_worth_48, s_O_worth_50, s_O_worth_51, s_O_worth_52, s_O_worth_55, s_O_worth_56, s_O_worth_59, s_O_worth_60, s_O_worth_61, Option.bind_some, Option.bind_none, Option.toList_some, Option.toList_none, List.cons_append, List.nil_append, if_true, if_false, rz_clr, true_or, or_true, z00, z11, bZ_eq0, bZ_eq1, nor_self, if_pos, if_neg, zI_add, zI_sub, zI_mul, zI_neg, zI_lt, zI_le, zI_eq, z_isBelow, bZ_pos a1]
  · rw [if_neg (fun z => a1 z.1)]
    refine ⟨σ 6, ?_, hI.2.2.2.2.2.2.1, by omega⟩
    rw [gset_self]
    simp (disch := first | omega | exact Nat.le_of_ble_eq_true rfl) only [e_O_worth, s_O_worth_0, s_O_worth_1, s_O_worth_2, s_O_worth_5, s_O_worth_8, s_O_worth_9, s_O_worth_12, s_O_worth_13, s_O_worth_14, s_O_worth_17, s_O_worth_19, s_O_worth_20, s_O_worth_21, s_O_worth_22, s_O_worth_25, s_O_worth_26, s_O_worth_27, s_O_worth_30, s_O_worth_33, s_O_worth_35, s_O_worth_37, s_O_worth_38, s_O_worth_41, s_O_worth_42, s_O_worth_45, s_O_worth_46, s_O_worth_47, s_O_worth_48, s_O_worth_50, s_O_worth_51, s_O_worth_52, s_O_worth_55, s_O_worth_56, s_O_worth_59, s_O_worth_60, s_O_worth_61, Option.bind_some, Option.bind_none, Option.toList_some, Option.toList_none, List.cons_append, List.nil_append, if_true, if_false, rz_clr, true_or, or_true, z00, z11, bZ_eq0, bZ_eq1, nor_self, if_pos, if_neg, zI_add, zI_sub, zI_mul, zI_neg, zI_lt, zI_le, zI_eq, z_isBelow, bZ_neg a1]
end PD
