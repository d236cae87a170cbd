-- the model: a law told
theorem cN_or1 : ∀ S : Nat, S < 256 → ∀ v : Nat, v < 8 → S.testBit v = false → cN (fun i => (S ||| 2 ^ v).testBit i) 8 = cN (fun i => S.testBit i) 8 + 1 := by decide +kernel
theorem cN_all : ∀ S : Nat, S < 256 → ∀ v : Nat, v < 8 → S.testBit v = false → cN (fun i => S.testBit i) 8 < 8 := by decide +kernel
theorem wyN_snoc (s : zP) : ∀ n i a, wyN s (n + 1) i a = wyN s n i a ||| 2 ^ (s 1 (i + n)).toNat := by
  intro n
  induction n with
  | zero => intro i a; rfl
  | succ n ih =>
    intro i a
    rw [wyN, ih, wyN, show i + 1 + n = i + (n + 1) by omega]
theorem wyN_cg {s s' : zP} : ∀ n i a, (∀ j, i ≤ j → j < i + n → s 1 j = s' 1 j) → wyN s n i a = wyN s' n i a := by
  intro n
  induction n with
  | zero => intro i a _; rfl
  | succ n ih =>
    intro i a h
    rw [wyN, wyN, h i (Nat.le_refl i) (by omega)]
    exact ih (i + 1) _ (fun j h1 h2 => h j (by omega) (by omega))
theorem dirT_snoc (s : zP) (m : Int) : ∀ n i, dirT s m (n + 1) i = (dirT s m n i || decide (s 1 (i + n) = m)) := by
  intro n
  induction n with
  | zero => intro i; rw [dirT, dirT, dirT, Nat.add_zero, Bool.or_false, Bool.false_or]
  | succ n ih =>
    intro i
    rw [dirT, ih, dirT, Bool.or_assoc, show i + 1 + n = i + (n + 1) by omega]
theorem dirT_cg {s s' : zP} (m : Int) : ∀ n i, (∀ j, i ≤ j → j < i + n → s 1 j = s' 1 j) → dirT s m n i = dirT s' m n i := by
  intro n
  induction n with
  | zero => intro i _; rfl
  | succ n ih =>
    intro i h
    rw [dirT, dirT, h i (Nat.le_refl i) (by omega), ih (i + 1) (fun j h1 h2 => h j (by omega) (by omega))]
section NF1
variable {N : Nat} {σ : zS} {s p : zP} {len : Nat}
/-- directions told so far, as bits -/
def LSt (s : zP) (t S : Nat) : Prop := S < 256 ∧ S = wyN s (t - 1) 1 0 ∧ (∀ v : Nat, v < 8 → (S.testBit v = true ↔ dirT s v (t - 1) 1 = true)) ∧ cN (fun i => S.testBit i) 8 = t - 1
theorem ok_law (hR : RI len s p) (h7 : s 7 0 = 4) {t S : Nat} (h9 : s 9 0 = t) (h1 : 1 ≤ t) (hS : LSt s t S) {m : zP} (hL : LA m s len) (hst : t = 1 ∨ m 5 0 ≠ 3) : okT len s p ↔ (m 5 0 = 2 ∧ ((0 ≤ m 7 0 ∧ m 7 0 ≤ 7) ∧ S.testBit (m 7 0).toNat = false)) := by
  obtain ⟨S1, S2, S3, S4⟩ := hS
  have e7 : tkW s len 7 = s 7 := tkW_ne (by decide)
  have e9 : tkW s len 9 = s 9 := tkW_ne (by decide)
  rw [← LA_num hL (P := fun v => (0 ≤ v ∧ v ≤ 7) ∧ S.testBit v.toNat = false)]
  have hk2 : tkP s len < len → tkW s len 5 0 = 2 → enB s = false := by
    intro a b
    rcases hst with c | c
    · unfold enB
      rw [if_pos h7, decide_eq_false_iff_not]
      omega
    · exfalso
      apply c
      obtain ⟨-, -, hL⟩ := hL
      omega
  have hal : ∀ v, 0 ≤ v → (alB s p v = true ↔ (v ≤ 7 ∧ S.testBit v.toNat = false)) := by
    intro v hv
    rw [alB_4 h7, decide_eq_true_eq]
    unfold al4
    rw [h9, Int.toNat_natCast]
    constructor
    · rintro (z | ⟨-, z1, z2⟩)
      · omega
      · have := S3 v.toNat (by omega)
        rw [show ((v.toNat : Nat) : Int) = v by omega] at this
        refine ⟨by omega, ?_⟩
        rw [← Bool.not_eq_true]
        exact fun q => z2 (this.mp q)
    · rintro ⟨z1, z2⟩
      right
      have := S3 v.toNat (by omega)
      rw [show ((v.toNat : Nat) : Int) = v by omega] at this
      refine ⟨by omega, by omega, fun q => ?_⟩
      rw [this.mpr q] at z2
      exact absurd z2 (by decide)
  unfold okT isT
  rw [e7, e9, if_neg (by omega), alB_tk, enB_tk]
  constructor
  · rintro ⟨a, b⟩
    obtain ⟨f1, f2, f3⟩ := tk_facts hR.2.2.1 a
    by_cases c : tkW s len 5 0 = 1
    · rw [if_pos c] at b
      by_cases c2 : s 9 0 < 9 ∧ alB s p (tkW s len 6 0) = true
      · have hv := f2.2.2 c
        have := (hal _ hv.1).mp c2.2
        exact ⟨a, c, ⟨⟨hv.1, this.1⟩, this.2⟩, by omega⟩
      · rw [if_neg c2] at b; exact absurd b Bool.false_ne_true
    · rw [if_neg c] at b
      by_cases c3 : tkW s len 5 0 = 2 ∧ enB s = true
      · rw [hk2 a c3.1] at c3
        exact absurd c3.2 Bool.false_ne_true
      · rw [if_neg c3] at b; exact absurd b Bool.false_ne_true
  · rintro ⟨a, b, ⟨c, c'⟩, e⟩
    refine ⟨a, ?_⟩
    have := cN_all S S1 (tkW s len 6 0).toNat (by omega) c'
    rw [if_pos b, if_pos ⟨by omega, (hal _ c.1).mpr ⟨c.2, c'⟩⟩]
theorem tlR_law {t : Nat → Int} (h : tlR t 33 p) {L : Nat} (hL : p 10 0 = L) (hL3 : L < 3) (s : zP) (f : Int) (k : Nat) : tlR (zup (zup (zup t (52 + 2 * L) f) (53 + 2 * L) (wyN s (k - 1) 1 0 : Nat)) 35 (p 10 0 + 1)) 33 (lwP s p f k) := by
  obtain ⟨⟨h1, h2, h3⟩, h4, h5, h6⟩ := h
  refine ⟨⟨?_, ?_, ?_⟩, fun i hi => ?_, fun l hl => ?_, fun j hj => ?_⟩
  · rw [zup_ne (by omega), zup_ne (by omega), zup_ne (by omega)]; exact h1
  · rw [zup_ne (by omega), zup_ne (by omega), zup_ne (by omega)]; exact h2
  · rfl
  · rw [zup_ne (by omega), zup_ne (by omega), zup_ne (by omega)]; exact h4 i hi
  · have hl2 : (l : Int) < p 10 0 + 1 := hl
    have e1 : lwP s p f k 1 = zup (p 1) (p 10 0).toNat f := rfl
    have e2 : lwP s p f k 2 = zup (p 2) (p 10 0).toNat (wyN s (k - 1) 1 0 : Nat) := rfl
    rw [e1, e2, hL, Int.toNat_natCast]
    by_cases z : l = L
    · rw [z, zup_eq, zup_eq]
      refine ⟨?_, ?_⟩
      · rw [zup_ne (by omega), zup_ne (by omega), show 33 + 19 + 2 * L = 52 + 2 * L by omega, zup_eq]
      · rw [zup_ne (by omega), show 33 + 20 + 2 * L = 53 + 2 * L by omega, zup_eq]
    · rw [zup_ne z, zup_ne z, zup_ne (by omega), zup_ne (by omega), zup_ne (by omega), zup_ne (by omega), zup_ne (by omega), zup_ne (by omega)]
      exact h5 l (by omega)
  · rw [zup_ne (by omega), zup_ne (by omega), zup_ne (by omega), zup_ne (by omega), zup_ne (by omega), zup_ne (by omega), zup_ne (by omega), zup_ne (by omega), zup_ne (by omega), zup_ne (by omega), zup_ne (by omega), zup_ne (by omega)]
    exact h6 j hj
theorem z_MlawX (d : Nat) (hN : 60 ≤ N) {mm : zP} {L : Nat} (hL3 : L < 3) (h35 : mm 9 35 = L) (X : Int) (l3 l4 : Option Value) : rz_den (rz_dM (d + 6)) (rz_at tb_X5_readsLaw) none 107 [some (.ref (bs 10)), some (.int (zI (52 + 2 * (L : Int)))), some (.int (zI X)), l3, l4] [] (wOf N (gset σ 10 mm)) = some (none, wOf N (gset σ 10 (pset mm 9 (zup (zup (mm 9) (53 + 2 * L) X) 35 ((L : Int) + 1))))) := by
  have e1 : (52 + 2 * (L : Int) + 1).toNat = 53 + 2 * L := by omega
  have e2 : zup (mm 9) (53 + 2 * L) X 35 = L := by
    rw [zup_ne (by omega)]
    exact h35
  have e2' : zup (mm 9) (53 + 2 * L) X (35 : Int).toNat = L := e2
  simp (disch := first | omega | exact Nat.le_of_ble_eq_true rfl) only [e_M_readsLaw, s_M_readsLaw_0, s_M_readsLaw_2, s_M_readsLaw_3, s_M_readsLaw_4, s_M_readsLaw_7, s_M_readsLaw_9, s_M_readsLaw_10, s_M_readsLaw_11, s_M_readsLaw_12, s_M_readsLaw_13, s_M_readsLaw_14, s_M_readsLaw_17, s_M_readsLaw_18, s_M_readsLaw_19, s_M_readsLaw_20, s_M_readsLaw_21, s_M_readsLaw_24, s_M_readsLaw_25, s_M_readsLaw_26, s_M_readsLaw_27, s_M_readsLaw_28, s_M_readsLaw_30, s_M_readsLaw_33, s_M_readsLaw_34, s_M_readsLaw_35, s_M_readsLaw_38, s_M_readsLaw_39, s_M_readsLaw_42, s_M_readsLaw_43, s_M_readsLaw_46, s_M_readsLaw_47, s_M_readsLaw_49, s_M_readsLaw_52, s_M_readsLaw_55, s_M_readsLaw_56, s_M_readsLaw_57, s_M_readsLaw_60, s_M_readsLaw_61, s_M_readsLaw_62, s_M_readsLaw_63, s_M_readsLaw_66, s_M_readsLaw_67, s_M_readsLaw_70, s_M_readsLaw_71, s_M_readsLaw_74, s_M_readsLaw_76, s_M_readsLaw_77, s_M_readsLaw_78, s_M_readsLaw_80, s_M_readsLaw_81, s_M_readsLaw_82, s_M_readsLaw_83, s_M_readsLaw_84, s_M_readsLaw_87, s_M_readsLaw_90, s_M_readsLaw_91, s_M_readsLaw_94, s_M_readsLaw_95, s_M_readsLaw_98, s_M_readsLaw_99, s_M_readsLaw_102, s_M_readsLaw_103, s_M_readsLaw_104, s_M_readsLaw_107, s_M_readsLaw_108, s_M_readsLaw_111, s_M_readsLaw_112, s_M_readsLaw_113, s_M_readsLaw_114, s_M_readsLaw_115, s_M_readsLaw_116, s_M_readsLaw_117, s_M_readsLaw_120, s_M_readsLaw_122, s_M_readsLaw_123, s_M_readsLaw_124, s_M_readsLaw_125, s_M_readsLaw_126, s_M_readsLaw_127, Option.bind_some, Option.bind_none, Option.toList_some, Option.toList_none, List.cons_append, List.nil_append, if_true, if_false, rz_clr, true_or, or_true, z00, z11, bZ_eq0, bZ_eq1, nor_self, if_pos, if_neg, zI_add, zI_sub, zI_mul, zI_neg, zI_lt, zI_le, zI_eq, c_M, f_M_0, u_M_0, f_M_1, u_M_1, f_M_2, l_M_2, r_M_2, w_M_2, f_M_3, u_M_3, f_M_4, u_M_4, f_M_5, u_M_5, f_M_6, u_M_6, f_M_7, u_M_7, f_M_8, u_M_8, f_M_9, l_M_9, r_M_9, w_M_9, f_M_10, l_M_10, r_M_10, w_M_10, f_M_11, l_M_11, r_M_11, w_M_11, f_M_12, l_M_12, r_M_12, w_M_12, f_M_13, l_M_13, r_M_13, w_M_13, f_M_14, l_M_14, r_M_14, w_M_14, f_M_15, l_M_15, r_M_15, w_M_15, f_M_16, l_M_16, r_M_16, w_M_16, f_M_17, l_M_17, r_M_17, w_M_17, f_M_18, l_M_18, r_M_18, w_M_18, sset_eq, gset_at, gset_gset, gset_ne, pset_eq, pset_ne, pset_pset, e1, e2']
  rfl
theorem z_MlawZ (d : Nat) (hN : 60 ≤ N) {mm : zP} {L : Nat} (hL3 : L < 3) (h35 : mm 9 35 = L) (X : Int) (l4 : Option Value) : rz_den (rz_dM (d + 6)) (rz_at tb_X5_readsLaw) none 29 [some (.ref (bs 10)), some (.int (zI (52 + 2 * (L : Int)))), some (.int (zI X)), some (.int (zI 0)), l4] [] (wOf N (gset σ 10 mm)) = some (none, wOf N (gset σ 10 (pset mm 9 (zup (zup (mm 9) (53 + 2 * L) X) 35 ((L : Int) + 1))))) := by
  have hx := z_MlawX (N := N) (σ := σ) (mm := mm) d hN hL3 h35 X (some (.int (zI 0))) l4
  rw [s_M_readsLaw_29]
  simp (disch := first | omega | exact Nat.le_of_ble_eq_true rfl) only [e_M_readsLaw, s_M_readsLaw_0, s_M_readsLaw_2, s_M_readsLaw_3, s_M_readsLaw_4, s_M_readsLaw_7, s_M_readsLaw_9, s_M_readsLaw_10, s_M_readsLaw_11, s_M_readsLaw_12, s_M_readsLaw_13, s_M_readsLaw_14, s_M_readsLaw_17, s_M_readsLaw_18, s_M_readsLaw_19, s_M_readsLaw_20, s_M_readsLaw_21, s_M_readsLaw_24, s_M_readsLaw_25, s_M_readsLaw_26, s_M_readsLaw_27, s_M_readsLaw_28, s_M_readsLaw_30, s_M_readsLaw_33, s_M_readsLaw_34, s_M_readsLaw_35, s_M_readsLaw_38, s_M_readsLaw_39, s_M_readsLaw_42, s_M_readsLaw_43, s_M_readsLaw_46, s_M_readsLaw_47, s_M_readsLaw_49, s_M_readsLaw_52, s_M_readsLaw_55, s_M_readsLaw_56, s_M_readsLaw_57, s_M_readsLaw_60, s_M_readsLaw_61, s_M_readsLaw_62, s_M_readsLaw_63, s_M_readsLaw_66, s_M_readsLaw_67, s_M_readsLaw_70, s_M_readsLaw_71, s_M_readsLaw_74, s_M_readsLaw_76, s_M_readsLaw_77, s_M_readsLaw_78, s_M_readsLaw_80, s_M_readsLaw_81, s_M_readsLaw_82, s_M_readsLaw_83, s_M_readsLaw_84, s_M_readsLaw_87, s_M_readsLaw_90, s_M_readsLaw_91, s_M_readsLaw_94, s_M_readsLaw_95, s_M_readsLaw_98, s_M_readsLaw_99, s_M_readsLaw_102, s_M_readsLaw_103, s_M_readsLaw_104, s_M_readsLaw_108, s_M_readsLaw_111, s_M_readsLaw_112, s_M_readsLaw_113, s_M_readsLaw_114, s_M_readsLaw_115, s_M_readsLaw_116, s_M_readsLaw_117, s_M_readsLaw_120, s_M_readsLaw_122, s_M_readsLaw_123, s_M_readsLaw_124, s_M_readsLaw_125, s_M_readsLaw_126, s_M_readsLaw_127, Option.bind_some, Option.bind_none, Option.toList_some, Option.toList_none, List.cons_append, List.nil_append, if_true, if_false, rz_clr, true_or, or_true, z00, z11, bZ_eq0, bZ_eq1, nor_self, if_pos, if_neg, zI_add, zI_sub, zI_mul, zI_neg, zI_lt, zI_le, zI_eq, hx]
theorem z_MlawIs (d : Nat) (hN : 60 ≤ N) {mm : zP} (hL57 : L57 mm) {S : Nat} (S1 : S < 256) (x1 : Int32) (l4 : Option Value) : rz_den (rz_dM (d + 6)) (rz_at tb_X5_readsLaw) none 29 [some (.ref (bs 10)), some (.int x1), some (.int (zI S)), some (.int (zI 1)), l4] [] (wOf N (gset σ 10 mm)) = rz_den (rz_dM (d + 6)) (rz_at tb_X5_readsLaw) none 71 [some (.ref (bs 10)), some (.int x1), some (.int (zI S)), some (.int (zI 1)), l4] [.int (zI (bN (decide (mm 5 0 = 2 ∧ ((0 ≤ mm 7 0 ∧ mm 7 0 ≤ 7) ∧ S.testBit (mm 7 0).toNat = false))))), .ref (bs 10)] (wOf N (gset σ 10 mm)) := by
  have h5 := hL57.1
  rw [s_M_readsLaw_29]
  by_cases c2 : mm 5 0 = 2
  · have h7 := hL57.2 c2
    by_cases c7 : 0 ≤ mm 7 0 ∧ mm 7 0 ≤ 7
    · obtain ⟨v, hv⟩ : ∃ v : Nat, mm 7 0 = v := ⟨(mm 7 0).toNat, by omega⟩
      have hsh := z_shr (b := S) (i := v) (by omega) (by omega)
      have hand := z_and1 (S / 2 ^ v) (Nat.lt_of_le_of_lt (Nat.div_le_self _ _) (by omega))
      rw [tb_div] at hand
      by_cases ht : S.testBit v = true
      · have hf : ¬ (mm 5 0 = 2 ∧ ((0 ≤ mm 7 0 ∧ mm 7 0 ≤ 7) ∧ S.testBit (mm 7 0).toNat = false)) := by
          rintro ⟨-, -, z⟩
          rw [hv, Int.toNat_natCast, ht] at z
          exact absurd z (by decide)
        rw [decide_eq_false hf, show bN false = 0 from rfl]
        rw [if_pos ht, Int.natCast_one] at hand
        rw [hv] at c7
        simp (disch := first | omega | exact Nat.le_of_ble_eq_true rfl) only [e_M_readsLaw, s_M_readsLaw_0, s_M_readsLaw_2, s_M_readsLaw_3, s_M_readsLaw_4, s_M_readsLaw_7, s_M_readsLaw_9, s_M_readsLaw_10, s_M_readsLaw_11, s_M_readsLaw_12, s_M_readsLaw_13, s_M_readsLaw_14, s_M_readsLaw_17, s_M_readsLaw_18, s_M_readsLaw_19, s_M_readsLaw_20, s_M_readsLaw_21, s_M_readsLaw_24, s_M_readsLaw_25, s_M_readsLaw_26, s_M_readsLaw_27, s_M_readsLaw_28, s_M_readsLaw_30, s_M_readsLaw_33, s_M_readsLaw_34, s_M_readsLaw_35, s_M_readsLaw_38, s_M_readsLaw_39, s_M_readsLaw_42, s_M_readsLaw_43, s_M_readsLaw_46, s_M_readsLaw_47, s_M_readsLaw_49, s_M_readsLaw_52, s_M_readsLaw_55, s_M_readsLaw_56, s_M_readsLaw_57, s_M_readsLaw_60, s_M_readsLaw_61, s_M_readsLaw_62, s_M_readsLaw_63, s_M_readsLaw_66, s_M_readsLaw_67, s_M_readsLaw_70, s_M_readsLaw_74, s_M_readsLaw_76, s_M_readsLaw_77, s_M_readsLaw_78, s_M_readsLaw_80, s_M_readsLaw_81, s_M_readsLaw_82, s_M_readsLaw_83, s_M_readsLaw_84, s_M_readsLaw_87, s_M_readsLaw_90, s_M_readsLaw_91, s_M_readsLaw_94, s_M_readsLaw_95, s_M_readsLaw_98, s_M_readsLaw_99, s_M_readsLaw_102, s_M_readsLaw_103, s_M_readsLaw_104, s_M_readsLaw_107, s_M_readsLaw_108, s_M_readsLaw_111, s_M_readsLaw_112, s_M_readsLaw_113, s_M_readsLaw_114, s_M_readsLaw_115, s_M_readsLaw_116, s_M_readsLaw_117, s_M_readsLaw_120, s_M_readsLaw_122, s_M_readsLaw_123, s_M_readsLaw_124, s_M_readsLaw_125, s_M_readsLaw_126, s_M_readsLaw_127, Option.bind_some, Option.bind_none, Option.toList_some, Option.toList_none, List.cons_append, List.nil_append, if_true, if_false, rz_clr, true_or, or_true, z00, z11, bZ_eq0, bZ_eq1, nor_self, if_pos, if_neg, zI_add, zI_sub, zI_mul, zI_neg, zI_lt, zI_le, zI_eq, c_M, f_M_0, u_M_0, f_M_1, u_M_1, f_M_2, l_M_2, r_M_2, w_M_2, f_M_3, u_M_3, f_M_4, u_M_4, f_M_5, u_M_5, f_M_6, u_M_6, f_M_7, u_M_7, f_M_8, u_M_8, f_M_9, l_M_9, r_M_9, w_M_9, f_M_10, l_M_10, r_M_10, w_M_10, f_M_11, l_M_11, r_M_11, w_M_11, f_M_12, l_M_12, r_M_12, w_M_12, f_M_13, l_M_13, r_M_13, w_M_13, f_M_14, l_M_14, r_M_14, w_M_14, f_M_15, l_M_15, r_M_15, w_M_15, f_M_16, l_M_16, r_M_16, w_M_16, f_M_17, l_M_17, r_M_17, w_M_17, f_M_18, l_M_18, r_M_18, w_M_18, gset_at, c2, hv, z_Min, bZ_pos c7, hsh, hand]
      · have ht' : S.testBit (mm 7 0).toNat = false := by rw [hv, Int.toNat_natCast]; simpa using ht
        rw [decide_eq_true ⟨c2, c7, ht'⟩, show bN true = 1 from rfl]
        rw [if_neg ht, Int.natCast_zero] at hand
        rw [hv] at c7
        simp (disch := first | omega | exact Nat.le_of_ble_eq_true rfl) only [e_M_readsLaw, s_M_readsLaw_0, s_M_readsLaw_2, s_M_readsLaw_3, s_M_readsLaw_4, s_M_readsLaw_7, s_M_readsLaw_9, s_M_readsLaw_10, s_M_readsLaw_11, s_M_readsLaw_12, s_M_readsLaw_13, s_M_readsLaw_14, s_M_readsLaw_17, s_M_readsLaw_18, s_M_readsLaw_19, s_M_readsLaw_20, s_M_readsLaw_21, s_M_readsLaw_24, s_M_readsLaw_25, s_M_readsLaw_26, s_M_readsLaw_27, s_M_readsLaw_28, s_M_readsLaw_30, s_M_readsLaw_33, s_M_readsLaw_34, s_M_readsLaw_35, s_M_readsLaw_38, s_M_readsLaw_39, s_M_readsLaw_42, s_M_readsLaw_43, s_M_readsLaw_46, s_M_readsLaw_47, s_M_readsLaw_49, s_M_readsLaw_52, s_M_readsLaw_55, s_M_readsLaw_56, s_M_readsLaw_57, s_M_readsLaw_60, s_M_readsLaw_61, s_M_readsLaw_62, s_M_readsLaw_63, s_M_readsLaw_66, s_M_readsLaw_67, s_M_readsLaw_70, s_M_readsLaw_74, s_M_readsLaw_76, s_M_readsLaw_77, s_M_readsLaw_78, s_M_readsLaw_80, s_M_readsLaw_81, s_M_readsLaw_82, s_M_readsLaw_83, s_M_readsLaw_84, s_M_readsLaw_87, s_M_readsLaw_90, s_M_readsLaw_91, s_M_readsLaw_94, s_M_readsLaw_95, s_M_readsLaw_98, s_M_readsLaw_99, s_M_readsLaw_102, s_M_readsLaw_103, s_M_readsLaw_104, s_M_readsLaw_107, s_M_readsLaw_108, s_M_readsLaw_111, s_M_readsLaw_112, s_M_readsLaw_113, s_M_readsLaw_114, s_M_readsLaw_115, s_M_readsLaw_116, s_M_readsLaw_117, s_M_readsLaw_120, s_M_readsLaw_122, s_M_readsLaw_123, s_M_readsLaw_124, s_M_readsLaw_125, s_M_readsLaw_126, s_M_readsLaw_127, Option.bind_some, Option.bind_none, Option.toList_some, Option.toList_none, List.cons_append, List.nil_append, if_true, if_false, rz_clr, true_or, or_true, z00, z11, bZ_eq0, bZ_eq1, nor_self, if_pos, if_neg, zI_add, zI_sub, zI_mul, zI_neg, zI_lt, zI_le, zI_eq, c_M, f_M_0, u_M_0, f_M_1, u_M_1, f_M_2, l_M_2, r_M_2, w_M_2, f_M_3, u_M_3, f_M_4, u_M_4, f_M_5, u_M_5, f_M_6, u_M_6, f_M_7, u_M_7, f_M_8, u_M_8, f_M_9, l_M_9, r_M_9, w_M_9, f_M_10, l_M_10, r_M_10, w_M_10, f_M_11, l_M_11, r_M_11, w_M_11, f_M_12, l_M_12, r_M_12, w_M_12, f_M_13, l_M_13, r_M_13, w_M_13, f_M_14, l_M_14, r_M_14, w_M_14, f_M_15, l_M_15, r_M_15, w_M_15, f_M_16, l_M_16, r_M_16, w_M_16, f_M_17, l_M_17, r_M_17, w_M_17, f_M_18, l_M_18, r_M_18, w_M_18, gset_at, c2, hv, z_Min, bZ_pos c7, hsh, hand]
    · rw [decide_eq_false (fun z => c7 z.2.1), show bN false = 0 from rfl]
      simp (disch := first | omega | exact Nat.le_of_ble_eq_true rfl) only [e_M_readsLaw, s_M_readsLaw_0, s_M_readsLaw_2, s_M_readsLaw_3, s_M_readsLaw_4, s_M_readsLaw_7, s_M_readsLaw_9, s_M_readsLaw_10, s_M_readsLaw_11, s_M_readsLaw_12, s_M_readsLaw_13, s_M_readsLaw_14, s_M_readsLaw_17, s_M_readsLaw_18, s_M_readsLaw_19, s_M_readsLaw_20, s_M_readsLaw_21, s_M_readsLaw_24, s_M_readsLaw_25, s_M_readsLaw_26, s_M_readsLaw_27, s_M_readsLaw_28, s_M_readsLaw_30, s_M_readsLaw_33, s_M_readsLaw_34, s_M_readsLaw_35, s_M_readsLaw_38, s_M_readsLaw_39, s_M_readsLaw_42, s_M_readsLaw_43, s_M_readsLaw_46, s_M_readsLaw_47, s_M_readsLaw_49, s_M_readsLaw_52, s_M_readsLaw_55, s_M_readsLaw_56, s_M_readsLaw_57, s_M_readsLaw_60, s_M_readsLaw_61, s_M_readsLaw_62, s_M_readsLaw_63, s_M_readsLaw_66, s_M_readsLaw_67, s_M_readsLaw_70, s_M_readsLaw_74, s_M_readsLaw_76, s_M_readsLaw_77, s_M_readsLaw_78, s_M_readsLaw_80, s_M_readsLaw_81, s_M_readsLaw_82, s_M_readsLaw_83, s_M_readsLaw_84, s_M_readsLaw_87, s_M_readsLaw_90, s_M_readsLaw_91, s_M_readsLaw_94, s_M_readsLaw_95, s_M_readsLaw_98, s_M_readsLaw_99, s_M_readsLaw_102, s_M_readsLaw_103, s_M_readsLaw_104, s_M_readsLaw_107, s_M_readsLaw_108, s_M_readsLaw_111, s_M_readsLaw_112, s_M_readsLaw_113, s_M_readsLaw_114, s_M_readsLaw_115, s_M_readsLaw_116, s_M_readsLaw_117, s_M_readsLaw_120, s_M_readsLaw_122, s_M_readsLaw_123, s_M_readsLaw_124, s_M_readsLaw_125, s_M_readsLaw_126, s_M_readsLaw_127, Option.bind_some, Option.bind_none, Option.toList_some, Option.toList_none, List.cons_append, List.nil_append, if_true, if_false, rz_clr, true_or, or_true, z00, z11, bZ_eq0, bZ_eq1, nor_self, if_pos, if_neg, zI_add, zI_sub, zI_mul, zI_neg, zI_lt, zI_le, zI_eq, c_M, f_M_0, u_M_0, f_M_1, u_M_1, f_M_2, l_M_2, r_M_2, w_M_2, f_M_3, u_M_3, f_M_4, u_M_4, f_M_5, u_M_5, f_M_6, u_M_6, f_M_7, u_M_7, f_M_8, u_M_8, f_M_9, l_M_9, r_M_9, w_M_9, f_M_10, l_M_10, r_M_10, w_M_10, f_M_11, l_M_11, r_M_11, w_M_11, f_M_12, l_M_12, r_M_12, w_M_12, f_M_13, l_M_13, r_M_13, w_M_13, f_M_14, l_M_14, r_M_14, w_M_14, f_M_15, l_M_15, r_M_15, w_M_15, f_M_16, l_M_16, r_M_16, w_M_16, f_M_17, l_M_17, r_M_17, w_M_17, f_M_18, l_M_18, r_M_18, w_M_18, gset_at, c2, z_Min, bZ_neg c7]
  · rw [decide_eq_false (fun z => c2 z.1), show bN false = 0 from rfl]
    simp (disch := first | omega | exact Nat.le_of_ble_eq_true rfl) only [e_M_readsLaw, s_M_readsLaw_0, s_M_readsLaw_2, s_M_readsLaw_3, s_M_readsLaw_4, s_M_readsLaw_7, s_M_readsLaw_9, s_M_readsLaw_10, s_M_readsLaw_11, s_M_readsLaw_12, s_M_readsLaw_13, s_M_readsLaw_14, s_M_readsLaw_17, s_M_readsLaw_18, s_M_readsLaw_19, s_M_readsLaw_20, s_M_readsLaw_21, s_M_readsLaw_24, s_M_readsLaw_25, s_M_readsLaw_26, s_M_readsLaw_27, s_M_readsLaw_28, s_M_readsLaw_30, s_M_readsLaw_33, s_M_readsLaw_34, s_M_readsLaw_35, s_M_readsLaw_38, s_M_readsLaw_39, s_M_readsLaw_42, s_M_readsLaw_43, s_M_readsLaw_46, s_M_readsLaw_47, s_M_readsLaw_49, s_M_readsLaw_52, s_M_readsLaw_55, s_M_readsLaw_56, s_M_readsLaw_57, s_M_readsLaw_60, s_M_readsLaw_61, s_M_readsLaw_62, s_M_readsLaw_63, s_M_readsLaw_66, s_M_readsLaw_67, s_M_readsLaw_70, s_M_readsLaw_74, s_M_readsLaw_76, s_M_readsLaw_77, s_M_readsLaw_78, s_M_readsLaw_80, s_M_readsLaw_81, s_M_readsLaw_82, s_M_readsLaw_83, s_M_readsLaw_84, s_M_readsLaw_87, s_M_readsLaw_90, s_M_readsLaw_91, s_M_readsLaw_94, s_M_readsLaw_95, s_M_readsLaw_98, s_M_readsLaw_99, s_M_readsLaw_102, s_M_readsLaw_103, s_M_readsLaw_104, s_M_readsLaw_107, s_M_readsLaw_108, s_M_readsLaw_111, s_M_readsLaw_112, s_M_readsLaw_113, s_M_readsLaw_114, s_M_readsLaw_115, s_M_readsLaw_116, s_M_readsLaw_117, s_M_readsLaw_120, s_M_readsLaw_122, s_M_readsLaw_123, s_M_readsLaw_124, s_M_readsLaw_125, s_M_readsLaw_126, s_M_readsLaw_127, Option.bind_some, Option.bind_none, Option.toList_some, Option.toList_none, List.cons_append, List.nil_append, if_true, if_false, rz_clr, true_or, or_true, z00, z11, bZ_eq0, bZ_eq1, nor_self, if_pos, if_neg, zI_add, zI_sub, zI_mul, zI_neg, zI_lt, zI_le, zI_eq, c_M, f_M_0, u_M_0, f_M_1, u_M_1, f_M_2, l_M_2, r_M_2, w_M_2, f_M_3, u_M_3, f_M_4, u_M_4, f_M_5, u_M_5, f_M_6, u_M_6, f_M_7, u_M_7, f_M_8, u_M_8, f_M_9, l_M_9, r_M_9, w_M_9, f_M_10, l_M_10, r_M_10, w_M_10, f_M_11, l_M_11, r_M_11, w_M_11, f_M_12, l_M_12, r_M_12, w_M_12, f_M_13, l_M_13, r_M_13, w_M_13, f_M_14, l_M_14, r_M_14, w_M_14, f_M_15, l_M_15, r_M_15, w_M_15, f_M_16, l_M_16, r_M_16, w_M_16, f_M_17, l_M_17, r_M_17, w_M_17, f_M_18, l_M_18, r_M_18, w_M_18, gset_at, c2]
theorem ok_alB (h7 : s 7 0 ≠ -9) (hk : tkW s len 5 0 = 1) (h : okT len s p) : s 9 0 < 9 ∧ alB s p (tkW s len 6 0) = true := by
  have e7 : tkW s len 7 = s 7 := tkW_ne (by decide)
  have e9 : tkW s len 9 = s 9 := tkW_ne (by decide)
  obtain ⟨-, h⟩ := h
  unfold isT at h
  rw [e7, e9, if_neg h7, alB_tk, if_pos hk] at h
  by_cases c2 : s 9 0 < 9 ∧ alB s p (tkW s len 6 0) = true
  · exact c2
  · rw [if_neg c2] at h; exact absurd h Bool.false_ne_true
theorem z_Mlaw_lp (d : Nat) (hN : 60 ≤ N) {g : Nat → Int} (hD : tlR g 33 p) {L : Nat} (hL : p 10 0 = L) (hL3 : L < 3) : ∀ (j t : Nat), j + t = 9 → 1 ≤ t → ∀ (n : Nat) (s mm : zP) (S : Nat) (l4 : Option Value), PH len n s p mm → s 7 0 = 4 → s 9 0 = t → LSt s t S → (∀ i, 1 ≤ i → i < t → 0 ≤ s 1 i ∧ s 1 i < 8) → (t = 1 ∨ mm 5 0 ≠ 3) → mm 9 = zup g (52 + 2 * L) (s 1 0) → ∃ m', rz_den (rz_dM (d + 6)) (rz_at tb_X5_readsLaw) none 29 [some (.ref (bs 10)), some (.int (zI (52 + 2 * (L : Int)))), some (.int (zI S)), some (.int (zI 1)), l4] [] (wOf N (gset σ 10 mm)) = some (none, wOf N (gset σ 10 m')) ∧ (RSw len n s p mm m' ∨ RSb len n s p mm m') := by
  have g35 : g 35 = L := by rw [← hL]; exact td_L hD
  intro j
  induction j with
  | zero =>
    intro t ht h1 n s mm S l4 hP h7 h9 hS hsr hst h9r
    obtain ⟨S1, S2, S3, S4⟩ := id hS
    have hok := ok_law hP.1 h7 h9 h1 hS hP.2.2.2.1 hst
    have hL57 : L57 mm := LA_57 hP.2.2.2.1
    have hno : ¬ okT len s p := by
      intro z
      obtain ⟨-, z1, z2⟩ := hok.mp z
      have := cN_all S S1 (mm 7 0).toNat (by omega) z2
      omega
    have his := z_MlawIs (N := N) (σ := σ) (mm := mm) d hN hL57 S1 (zI (52 + 2 * (L : Int))) l4
    rw [decide_eq_false (fun z => hno (hok.mpr z))] at his
    have hbd := rd_bad hP.1 hP.2.1 (by omega) hno
    have ht' := z_Mtakes_n (N := N) (σ := σ) (d + 4) hN hP.2.2.2.2
    have h6 : mm 6 0 = tkP s len := hP.2.2.2.1.1
    have h300 := hP.1.1.1.1
    have hl2 := hP.1.2.1
    have hpl := tkP_le hP.1.2.2.1
    have hw := z_Mwell (N := N) (σ := σ) (m := pset mm 8 (fun _ => mm 6 0)) (d + 5) hN (by rw [pset_eq, h6]; omega)
    rw [bZ_neg (by rw [pset_eq, h6]; omega)] at hw
    have hx := fun l4 => z_MlawZ (N := N) (σ := σ) (mm := pset mm 8 (fun _ => mm 6 0)) d hN hL3 (by rw [pset_ne (by decide), h9r, zup_ne (by omega)]; exact g35) ((S ||| 2 ^ 0 : Nat) : Int) l4
    have hor := z_or (a := S) (b := 2 ^ 0) (by omega) (by decide)
    have hsl := z_shl (i := 0) (by decide)
    rw [Int.natCast_zero] at hsl
    have sm3 : sm [8] mm (pset mm 8 (fun _ => mm 6 0)) := sm_pset (sm_rfl _ _) (by decide)
    have f1 : pset mm 8 (fun _ => mm 6 0) 8 0 = fnR len (rdL len n s p) := by rw [pset_eq, hbd]; exact h6
    have f2 : 0 ≤ pset mm 8 (fun _ => mm 6 0) 8 0 ∧ pset mm 8 (fun _ => mm 6 0) 8 0 ≤ 300 := by rw [pset_eq, h6]; omega
    generalize pset mm 8 (fun _ => mm 6 0) = m1 at *
    refine ⟨pset m1 9 (zup (zup (m1 9) (53 + 2 * L) ((S ||| 2 ^ 0 : Nat) : Int)) 35 ((L : Int) + 1)), ?_, Or.inr ⟨?_, ?_, ?_⟩⟩
    · rw [his]
      simp (disch := first | omega | exact Nat.le_of_ble_eq_true rfl) only [e_M_readsLaw, s_M_readsLaw_0, s_M_readsLaw_2, s_M_readsLaw_3, s_M_readsLaw_4, s_M_readsLaw_7, s_M_readsLaw_9, s_M_readsLaw_10, s_M_readsLaw_11, s_M_readsLaw_12, s_M_readsLaw_13, s_M_readsLaw_14, s_M_readsLaw_17, s_M_readsLaw_18, s_M_readsLaw_19, s_M_readsLaw_20, s_M_readsLaw_21, s_M_readsLaw_24, s_M_readsLaw_25, s_M_readsLaw_26, s_M_readsLaw_27, s_M_readsLaw_28, s_M_readsLaw_30, s_M_readsLaw_33, s_M_readsLaw_34, s_M_readsLaw_35, s_M_readsLaw_38, s_M_readsLaw_39, s_M_readsLaw_42, s_M_readsLaw_43, s_M_readsLaw_46, s_M_readsLaw_47, s_M_readsLaw_49, s_M_readsLaw_52, s_M_readsLaw_55, s_M_readsLaw_56, s_M_readsLaw_57, s_M_readsLaw_60, s_M_readsLaw_61, s_M_readsLaw_62, s_M_readsLaw_63, s_M_readsLaw_66, s_M_readsLaw_67, s_M_readsLaw_70, s_M_readsLaw_71, s_M_readsLaw_74, s_M_readsLaw_76, s_M_readsLaw_77, s_M_readsLaw_78, s_M_readsLaw_80, s_M_readsLaw_81, s_M_readsLaw_82, s_M_readsLaw_83, s_M_readsLaw_84, s_M_readsLaw_87, s_M_readsLaw_90, s_M_readsLaw_91, s_M_readsLaw_94, s_M_readsLaw_95, s_M_readsLaw_98, s_M_readsLaw_99, s_M_readsLaw_102, s_M_readsLaw_103, s_M_readsLaw_104, s_M_readsLaw_108, s_M_readsLaw_111, s_M_readsLaw_112, s_M_readsLaw_113, s_M_readsLaw_114, s_M_readsLaw_115, s_M_readsLaw_116, s_M_readsLaw_117, s_M_readsLaw_120, s_M_readsLaw_122, s_M_readsLaw_123, s_M_readsLaw_124, s_M_readsLaw_125, s_M_readsLaw_126, s_M_readsLaw_127, Option.bind_some, Option.bind_none, Option.toList_some, Option.toList_none, List.cons_append, List.nil_append, if_true, if_false, rz_clr, true_or, or_true, z00, z11, bZ_eq0, bZ_eq1, nor_self, if_pos, if_neg, zI_add, zI_sub, zI_mul, zI_neg, zI_lt, zI_le, zI_eq, c_M, f_M_0, u_M_0, f_M_1, u_M_1, f_M_2, l_M_2, r_M_2, w_M_2, f_M_3, u_M_3, f_M_4, u_M_4, f_M_5, u_M_5, f_M_6, u_M_6, f_M_7, u_M_7, f_M_8, u_M_8, f_M_9, l_M_9, r_M_9, w_M_9, f_M_10, l_M_10, r_M_10, w_M_10, f_M_11, l_M_11, r_M_11, w_M_11, f_M_12, l_M_12, r_M_12, w_M_12, f_M_13, l_M_13, r_M_13, w_M_13, f_M_14, l_M_14, r_M_14, w_M_14, f_M_15, l_M_15, r_M_15, w_M_15, f_M_16, l_M_16, r_M_16, w_M_16, f_M_17, l_M_17, r_M_17, w_M_17, f_M_18, l_M_18, r_M_18, w_M_18, ht', hsl, hor, hw, hx]
    · rw [pset_ne (by decide)]; exact f1
    · rw [pset_ne (by decide)]; exact f2
    · exact MF_tr (MF_sm (sm_mono sm3 (by decide))) (MF_9 (fun i hi => by rw [zup_ne (by omega), zup_ne (by omega)]))
  | succ j ih =>
    intro t ht h1 n s mm S l4 hP h7 h9 hS hsr hst h9r
    obtain ⟨S1, S2, S3, S4⟩ := id hS
    have hok := ok_law hP.1 h7 h9 h1 hS hP.2.2.2.1 hst
    have hL57 : L57 mm := LA_57 hP.2.2.2.1
    have his := z_MlawIs (N := N) (σ := σ) (mm := mm) d hN hL57 S1 (zI (52 + 2 * (L : Int))) l4
    have hbk : (decide (mm 5 0 = 2 ∧ ((0 ≤ mm 7 0 ∧ mm 7 0 ≤ 7) ∧ S.testBit (mm 7 0).toNat = false)) = true) ↔ okT len s p := by rw [decide_eq_true_eq, hok]
    obtain ⟨r, m1, q1, q2⟩ := z_MtakeN (N := N) (σ := σ) (d + 1) hN hP (by omega) (fun _ => by omega) (fun _ _ => trivial) _ hbk (fun z => by
      have h := hok.mp z
      rw [← LA_num hP.2.2.2.1 (P := fun v => (0 ≤ v ∧ v ≤ 7) ∧ S.testBit v.toNat = false)] at h
      exact ⟨h.2.1, (ok_alB (by omega) h.2.1 z).2⟩)
    generalize decide (mm 5 0 = 2 ∧ ((0 ≤ mm 7 0 ∧ mm 7 0 ≤ 7) ∧ S.testBit (mm 7 0).toNat = false)) = bb at *
    rcases q2 with ⟨n3, s3, P3, e3, e37, e38, e39, e31, yal, yrg, y7, sm3⟩ | ⟨y0, f1, f2, sm3⟩
    · rw [alB_4 h7, decide_eq_true_eq] at yal
      unfold al4 at yal
      rw [h9, Int.toNat_natCast] at yal
      have yal' : r < 8 ∧ ¬ dirT s r (t - 1) 1 = true := by
        rcases yal with z | ⟨z, z1, z2⟩
        · omega
        · exact ⟨z1, z2⟩
      obtain ⟨v, hv⟩ : ∃ v : Nat, r = v := ⟨r.toNat, by omega⟩
      subst hv
      have hvb : S.testBit v = false := by
        rw [← Bool.not_eq_true]
        exact fun q => yal'.2 ((S3 v (by omega)).mp q)
      rw [h9, Int.toNat_natCast] at e31
      have t7 : s3 7 0 = 4 := by rw [e37]; exact h7
      have t9 : s3 9 0 = ((t + 1 : Nat) : Int) := by rw [e39, h9]; rfl
      have ag : ∀ i, 1 ≤ i → i < t → s 1 i = s3 1 i := fun i h1 h2 => by rw [e31, zup_ne (by omega)]
      have hS' : LSt s3 (t + 1) (S ||| 2 ^ v) := by
        refine ⟨Nat.or_lt_two_pow (n := 8) S1 (Nat.pow_lt_pow_right (by decide) (by omega)), ?_, fun w hw => ?_, ?_⟩
        · rw [show t + 1 - 1 = (t - 1) + 1 by omega, wyN_snoc, ← wyN_cg (s := s) (t - 1) 1 0 (fun i h1 h2 => ag i h1 (by omega)), ← S2, show 1 + (t - 1) = t by omega, e31, zup_eq, Int.toNat_natCast]
        · rw [show t + 1 - 1 = (t - 1) + 1 by omega, dirT_snoc, ← dirT_cg (s := s) w (t - 1) 1 (fun i h1 h2 => ag i h1 (by omega)), show 1 + (t - 1) = t by omega, e31, zup_eq, Nat.testBit_or, Nat.testBit_two_pow, Bool.or_eq_true, Bool.or_eq_true, S3 w hw, decide_eq_true_eq, decide_eq_true_eq]
          constructor
          · rintro (z | z)
            · exact Or.inl z
            · exact Or.inr (by omega)
          · rintro (z | z)
            · exact Or.inl z
            · exact Or.inr (by omega)
        · rw [cN_or1 S S1 v (by omega) hvb, S4]
          omega
      have hsr' : ∀ i, 1 ≤ i → i < t + 1 → 0 ≤ s3 1 i ∧ s3 1 i < 8 := by
        intro i h1 h2
        rw [e31]
        by_cases z : i = t
        · rw [z, zup_eq]; omega
        · rw [zup_ne z]; exact hsr i h1 (by omega)
      have s10 : s3 1 0 = s 1 0 := by rw [e31, zup_ne (by omega)]
      have h9r' : m1 9 = zup g (52 + 2 * L) (s3 1 0) := by rw [sm3 9 (by decide), h9r, s10]
      have hw := z_Mwell (N := N) (σ := σ) (m := m1) (d + 5) hN (by rw [P3.2.2.2.2]; omega)
      rw [bZ_pos (by rw [P3.2.2.2.2]; decide)] at hw
      have hor := z_or (a := S) (b := 2 ^ v) (by omega) (by have : 2 ^ v < 2 ^ 8 := Nat.pow_lt_pow_right (by decide) (by omega); omega)
      have hsl := z_shl (i := v) (by omega)
      have hL1 : L57 m1 := LA_57 P3.2.2.2.1
      have h5 := hL1.1
      by_cases cst : m1 5 0 = 3
      · have hx := fun l4 => z_MlawZ (N := N) (σ := σ) (mm := m1) d hN hL3 (by rw [h9r', zup_ne (by omega)]; exact g35) ((S ||| 2 ^ v : Nat) : Int) l4
        refine ⟨pset m1 9 (zup (zup (m1 9) (53 + 2 * L) ((S ||| 2 ^ v : Nat) : Int)) 35 ((L : Int) + 1)), ?_, Or.inl ⟨n3, s3, P3, ⟨e3, y7.2⟩, e37, e38, ?_, Or.inl cst, ?_, ?_⟩⟩
        · rw [his]
          simp (disch := first | omega | exact Nat.le_of_ble_eq_true rfl) only [e_M_readsLaw, s_M_readsLaw_0, s_M_readsLaw_2, s_M_readsLaw_3, s_M_readsLaw_4, s_M_readsLaw_7, s_M_readsLaw_9, s_M_readsLaw_10, s_M_readsLaw_11, s_M_readsLaw_12, s_M_readsLaw_13, s_M_readsLaw_14, s_M_readsLaw_17, s_M_readsLaw_18, s_M_readsLaw_19, s_M_readsLaw_20, s_M_readsLaw_21, s_M_readsLaw_24, s_M_readsLaw_25, s_M_readsLaw_26, s_M_readsLaw_27, s_M_readsLaw_28, s_M_readsLaw_30, s_M_readsLaw_33, s_M_readsLaw_34, s_M_readsLaw_35, s_M_readsLaw_38, s_M_readsLaw_39, s_M_readsLaw_42, s_M_readsLaw_43, s_M_readsLaw_46, s_M_readsLaw_47, s_M_readsLaw_49, s_M_readsLaw_52, s_M_readsLaw_55, s_M_readsLaw_56, s_M_readsLaw_57, s_M_readsLaw_60, s_M_readsLaw_61, s_M_readsLaw_62, s_M_readsLaw_63, s_M_readsLaw_66, s_M_readsLaw_67, s_M_readsLaw_70, s_M_readsLaw_71, s_M_readsLaw_74, s_M_readsLaw_76, s_M_readsLaw_77, s_M_readsLaw_78, s_M_readsLaw_80, s_M_readsLaw_81, s_M_readsLaw_82, s_M_readsLaw_83, s_M_readsLaw_84, s_M_readsLaw_87, s_M_readsLaw_90, s_M_readsLaw_91, s_M_readsLaw_94, s_M_readsLaw_95, s_M_readsLaw_98, s_M_readsLaw_99, s_M_readsLaw_102, s_M_readsLaw_103, s_M_readsLaw_104, s_M_readsLaw_108, s_M_readsLaw_111, s_M_readsLaw_112, s_M_readsLaw_113, s_M_readsLaw_114, s_M_readsLaw_115, s_M_readsLaw_116, s_M_readsLaw_117, s_M_readsLaw_120, s_M_readsLaw_122, s_M_readsLaw_123, s_M_readsLaw_124, s_M_readsLaw_125, s_M_readsLaw_126, s_M_readsLaw_127, Option.bind_some, Option.bind_none, Option.toList_some, Option.toList_none, List.cons_append, List.nil_append, if_true, if_false, rz_clr, true_or, or_true, z00, z11, bZ_eq0, bZ_eq1, nor_self, if_pos, if_neg, zI_add, zI_sub, zI_mul, zI_neg, zI_lt, zI_le, zI_eq, c_M, f_M_0, u_M_0, f_M_1, u_M_1, f_M_2, l_M_2, r_M_2, w_M_2, f_M_3, u_M_3, f_M_4, u_M_4, f_M_5, u_M_5, f_M_6, u_M_6, f_M_7, u_M_7, f_M_8, u_M_8, f_M_9, l_M_9, r_M_9, w_M_9, f_M_10, l_M_10, r_M_10, w_M_10, f_M_11, l_M_11, r_M_11, w_M_11, f_M_12, l_M_12, r_M_12, w_M_12, f_M_13, l_M_13, r_M_13, w_M_13, f_M_14, l_M_14, r_M_14, w_M_14, f_M_15, l_M_15, r_M_15, w_M_15, f_M_16, l_M_16, r_M_16, w_M_16, f_M_17, l_M_17, r_M_17, w_M_17, f_M_18, l_M_18, r_M_18, w_M_18, gset_at, q1, hsl, hor, hw, cst, hx]
        · unfold enB
          rw [if_pos t7, decide_eq_true_eq]
          omega
        · have h := tlR_law hD hL hL3 s3 (s3 1 0) (t + 1)
          rw [apP_4 t7, t9, Int.toNat_natCast, pset_eq, h9r', hS'.2.1, ← hL]
          exact h
        · exact MF_tr (MF_sm (sm_mono sm3 (by decide))) (MF_9 (fun i hi => by rw [zup_ne (by omega), zup_ne (by omega)]))
      · obtain ⟨m', k1, k2⟩ := ih (t + 1) (by omega) (by omega) n3 s3 m1 (S ||| 2 ^ v) (some (.int (zI v))) P3 t7 t9 hS' hsr' (Or.inr cst) h9r'
        have hMF := MF_sm (sm_mono (L' := [4, 5, 6, 7, 8]) sm3 (by decide))
        refine ⟨m', ?_, ?_⟩
        · rw [his]
          simp (disch := first | omega | exact Nat.le_of_ble_eq_true rfl) only [e_M_readsLaw, s_M_readsLaw_0, s_M_readsLaw_2, s_M_readsLaw_3, s_M_readsLaw_4, s_M_readsLaw_7, s_M_readsLaw_9, s_M_readsLaw_10, s_M_readsLaw_11, s_M_readsLaw_12, s_M_readsLaw_13, s_M_readsLaw_14, s_M_readsLaw_17, s_M_readsLaw_18, s_M_readsLaw_19, s_M_readsLaw_20, s_M_readsLaw_21, s_M_readsLaw_24, s_M_readsLaw_25, s_M_readsLaw_26, s_M_readsLaw_27, s_M_readsLaw_28, s_M_readsLaw_30, s_M_readsLaw_33, s_M_readsLaw_34, s_M_readsLaw_35, s_M_readsLaw_38, s_M_readsLaw_39, s_M_readsLaw_42, s_M_readsLaw_43, s_M_readsLaw_46, s_M_readsLaw_47, s_M_readsLaw_49, s_M_readsLaw_52, s_M_readsLaw_55, s_M_readsLaw_56, s_M_readsLaw_57, s_M_readsLaw_60, s_M_readsLaw_61, s_M_readsLaw_62, s_M_readsLaw_63, s_M_readsLaw_66, s_M_readsLaw_67, s_M_readsLaw_70, s_M_readsLaw_71, s_M_readsLaw_74, s_M_readsLaw_76, s_M_readsLaw_77, s_M_readsLaw_78, s_M_readsLaw_80, s_M_readsLaw_81, s_M_readsLaw_82, s_M_readsLaw_83, s_M_readsLaw_84, s_M_readsLaw_87, s_M_readsLaw_90, s_M_readsLaw_91, s_M_readsLaw_94, s_M_readsLaw_95, s_M_readsLaw_98, s_M_readsLaw_99, s_M_readsLaw_102, s_M_readsLaw_103, s_M_readsLaw_104, s_M_readsLaw_108, s_M_readsLaw_111, s_M_readsLaw_112, s_M_readsLaw_113, s_M_readsLaw_114, s_M_readsLaw_115, s_M_readsLaw_116, s_M_readsLaw_117, s_M_readsLaw_120, s_M_readsLaw_122, s_M_readsLaw_123, s_M_readsLaw_124, s_M_readsLaw_125, s_M_readsLaw_126, s_M_readsLaw_127, Option.bind_some, Option.bind_none, Option.toList_some, Option.toList_none, List.cons_append, List.nil_append, if_true, if_false, rz_clr, true_or, or_true, z00, z11, bZ_eq0, bZ_eq1, nor_self, if_pos, if_neg, zI_add, zI_sub, zI_mul, zI_neg, zI_lt, zI_le, zI_eq, c_M, f_M_0, u_M_0, f_M_1, u_M_1, f_M_2, l_M_2, r_M_2, w_M_2, f_M_3, u_M_3, f_M_4, u_M_4, f_M_5, u_M_5, f_M_6, u_M_6, f_M_7, u_M_7, f_M_8, u_M_8, f_M_9, l_M_9, r_M_9, w_M_9, f_M_10, l_M_10, r_M_10, w_M_10, f_M_11, l_M_11, r_M_11, w_M_11, f_M_12, l_M_12, r_M_12, w_M_12, f_M_13, l_M_13, r_M_13, w_M_13, f_M_14, l_M_14, r_M_14, w_M_14, f_M_15, l_M_15, r_M_15, w_M_15, f_M_16, l_M_16, r_M_16, w_M_16, f_M_17, l_M_17, r_M_17, w_M_17, f_M_18, l_M_18, r_M_18, w_M_18, gset_at, q1, hsl, hor, hw, cst, k1]
        · rcases k2 with ⟨n4, s4, P4, e4, e47, e48, e4n, e4a, e4t, e4f⟩ | k2
          · exact Or.inl ⟨n4, s4, P4, ⟨by rw [e3, e4.1], by omega⟩, by rw [e47, e37], by rw [e48, e38], e4n, e4a, e4t, MF_tr hMF e4f⟩
          · exact Or.inr (RSb_eq k2 e3 hMF)
    · subst y0
      have hw := z_Mwell (N := N) (σ := σ) (m := m1) (d + 5) hN (by omega)
      rw [bZ_neg (by omega)] at hw
      have hx := fun l4 => z_MlawZ (N := N) (σ := σ) (mm := m1) d hN hL3 (by rw [sm3 9 (by decide), h9r, zup_ne (by omega)]; exact g35) ((S ||| 2 ^ 0 : Nat) : Int) l4
      have hor := z_or (a := S) (b := 2 ^ 0) (by omega) (by decide)
      have hsl := z_shl (i := 0) (by decide)
      rw [Int.natCast_zero] at hsl
      refine ⟨pset m1 9 (zup (zup (m1 9) (53 + 2 * L) ((S ||| 2 ^ 0 : Nat) : Int)) 35 ((L : Int) + 1)), ?_, Or.inr ⟨?_, ?_, ?_⟩⟩
      · rw [his]
        simp (disch := first | omega | exact Nat.le_of_ble_eq_true rfl) only [e_M_readsLaw, s_M_readsLaw_0, s_M_readsLaw_2, s_M_readsLaw_3, s_M_readsLaw_4, s_M_readsLaw_7, s_M_readsLaw_9, s_M_readsLaw_10, s_M_readsLaw_11, s_M_readsLaw_12, s_M_readsLaw_13, s_M_readsLaw_14, s_M_readsLaw_17, s_M_readsLaw_18, s_M_readsLaw_19, s_M_readsLaw_20, s_M_readsLaw_21, s_M_readsLaw_24, s_M_readsLaw_25, s_M_readsLaw_26, s_M_readsLaw_27, s_M_readsLaw_28, s_M_readsLaw_30, s_M_readsLaw_33, s_M_readsLaw_34, s_M_readsLaw_35, s_M_readsLaw_38, s_M_readsLaw_39, s_M_readsLaw_42, s_M_readsLaw_43, s_M_readsLaw_46, s_M_readsLaw_47, s_M_readsLaw_49, s_M_readsLaw_52, s_M_readsLaw_55, s_M_readsLaw_56, s_M_readsLaw_57, s_M_readsLaw_60, s_M_readsLaw_61, s_M_readsLaw_62, s_M_readsLaw_63, s_M_readsLaw_66, s_M_readsLaw_67, s_M_readsLaw_70, s_M_readsLaw_71, s_M_readsLaw_74, s_M_readsLaw_76, s_M_readsLaw_77, s_M_readsLaw_78, s_M_readsLaw_80, s_M_readsLaw_81, s_M_readsLaw_82, s_M_readsLaw_83, s_M_readsLaw_84, s_M_readsLaw_87, s_M_readsLaw_90, s_M_readsLaw_91, s_M_readsLaw_94, s_M_readsLaw_95, s_M_readsLaw_98, s_M_readsLaw_99, s_M_readsLaw_102, s_M_readsLaw_103, s_M_readsLaw_104, s_M_readsLaw_108, s_M_readsLaw_111, s_M_readsLaw_112, s_M_readsLaw_113, s_M_readsLaw_114, s_M_readsLaw_115, s_M_readsLaw_116, s_M_readsLaw_117, s_M_readsLaw_120, s_M_readsLaw_122, s_M_readsLaw_123, s_M_readsLaw_124, s_M_readsLaw_125, s_M_readsLaw_126, s_M_readsLaw_127, Option.bind_some, Option.bind_none, Option.toList_some, Option.toList_none, List.cons_append, List.nil_append, if_true, if_false, rz_clr, true_or, or_true, z00, z11, bZ_eq0, bZ_eq1, nor_self, if_pos, if_neg, zI_add, zI_sub, zI_mul, zI_neg, zI_lt, zI_le, zI_eq, c_M, f_M_0, u_M_0, f_M_1, u_M_1, f_M_2, l_M_2, r_M_2, w_M_2, f_M_3, u_M_3, f_M_4, u_M_4, f_M_5, u_M_5, f_M_6, u_M_6, f_M_7, u_M_7, f_M_8, u_M_8, f_M_9, l_M_9, r_M_9, w_M_9, f_M_10, l_M_10, r_M_10, w_M_10, f_M_11, l_M_11, r_M_11, w_M_11, f_M_12, l_M_12, r_M_12, w_M_12, f_M_13, l_M_13, r_M_13, w_M_13, f_M_14, l_M_14, r_M_14, w_M_14, f_M_15, l_M_15, r_M_15, w_M_15, f_M_16, l_M_16, r_M_16, w_M_16, f_M_17, l_M_17, r_M_17, w_M_17, f_M_18, l_M_18, r_M_18, w_M_18, q1, hsl, hor, hw, hx]
      · rw [pset_ne (by decide)]; exact f1
      · rw [pset_ne (by decide)]; exact f2
      · exact MF_tr (MF_sm (sm_mono sm3 (by decide))) (MF_9 (fun i hi => by rw [zup_ne (by omega), zup_ne (by omega)]))
end NF1
