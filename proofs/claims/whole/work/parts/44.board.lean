-- the script read into a draft; the board
section RK
variable {N g : Nat} {σ : zS}
theorem gset_comm {σ : zS} {a b : Nat} (h : a ≠ b) (x y : zP) : gset (gset σ a x) b y = gset (gset σ b y) a x := by
  funext k
  by_cases c : k = b
  · subst c
    rw [gset_at, gset_ne (Ne.symm h), gset_at]
  · rw [gset_ne c]
    by_cases c2 : k = a
    · subst c2
      rw [gset_at, gset_at]
    · rw [gset_ne c2, gset_ne c2, gset_ne c]
theorem gset_tri {σ : zS} {g : Nat} (h : g ≠ 1) (p p' s s' : zP) : gset (gset (gset (gset σ g p) 1 s) g p') 1 s' = gset (gset σ g p') 1 s' := by
  rw [gset_comm (Ne.symm h), gset_gset, gset_gset]
/-- what a reading answers, and its draft -/
def fnR (len : Nat) (r : Int × zP × zP) : Int := if r.1 = -9 then (if r.2.1 7 0 = -9 then -9 else (len : Int)) else r.1
def fnP (r : Int × zP × zP) : zP := if r.1 = -9 ∧ r.2.1 7 0 = -9 then mapP r.2.2 else r.2.2
theorem z_read_end (d : Nat) (h1 : 7 ≤ g) (h2 : g ≤ 9) (hN : 48 ≤ N) (hN2 : N ≤ 1000) {len : Nat} {s p : zP} (hw : wfP p) (hi : II s p) (hl : s 2 0 = len) (l2 : Option Value) : rz_den (rz_dM (d + 8)) (rz_at tb_X2_readInto) (some .int) 57 [some (.ref (bs 1)), some (.ref (bs g)), l2] [] (wOf N (gset (gset σ g p) 1 s)) = some (some (.int (zI (fnR len (-9, s, p)))), wOf N (gset (gset σ g (fnP (-9, s, p))) 1 s)) := by
  have hg : g ≠ 1 := by omega
  have hg' : 1 ≠ g := by omega
  have hb : -9 ≤ s 7 0 ∧ s 7 0 ≤ 8 := by
    rcases hi with hi | hi
    · omega
    · have := hi.1; omega
  unfold fnR fnP
  rw [if_pos (rfl : (-9 : Int) = -9)]
  by_cases c : s 7 0 = -9
  · have hm := z_mapSteps (N := N) (g := g) (σ := gset (gset σ g p) 1 s) (d + 4) h1 h2 hN hN2 (by rw [gset_ne hg, gset_at]; exact hw)
    rw [gset_ne hg, gset_at, gset_comm (Ne.symm hg), gset_gset] at hm
    rw [if_pos c, if_pos ⟨rfl, c⟩]
    simp (disch := first | omega | exact Nat.le_of_ble_eq_true rfl) only [e_S_readInto, s_S_readInto_0, s_S_readInto_1, s_S_readInto_2, s_S_readInto_3, s_S_readInto_6, s_S_readInto_7, s_S_readInto_8, s_S_readInto_11, s_S_readInto_12, s_S_readInto_13, s_S_readInto_16, s_S_readInto_17, s_S_readInto_19, s_S_readInto_22, s_S_readInto_23, s_S_readInto_25, s_S_readInto_28, s_S_readInto_31, s_S_readInto_32, s_S_readInto_35, s_S_readInto_38, s_S_readInto_39, s_S_readInto_40, s_S_readInto_43, s_S_readInto_46, s_S_readInto_47, s_S_readInto_50, s_S_readInto_51, s_S_readInto_54, s_S_readInto_57, s_S_readInto_58, s_S_readInto_61, s_S_readInto_63, s_S_readInto_66, s_S_readInto_67, s_S_readInto_70, s_S_readInto_71, s_S_readInto_72, s_S_readInto_75, s_S_readInto_77, Option.bind_some, Option.bind_none, Option.toList_some, Option.toList_none, List.cons_append, List.nil_append, if_true, if_false, rz_clr, true_or, or_true, z00, z11, bZ_eq0, bZ_eq1, nor_self, if_pos, if_neg, zI_add, zI_sub, zI_mul, zI_neg, zI_lt, zI_le, zI_eq, c_S, f_S_0, l_S_0, r_S_0, w_S_0, f_S_1, l_S_1, r_S_1, w_S_1, f_S_2, u_S_2, f_S_3, u_S_3, f_S_4, u_S_4, f_S_5, u_S_5, f_S_6, u_S_6, f_S_7, u_S_7, f_S_8, u_S_8, f_S_9, u_S_9, c_P, f_P_0, l_P_0, r_P_0, w_P_0, f_P_1, l_P_1, r_P_1, w_P_1, f_P_2, l_P_2, r_P_2, w_P_2, f_P_3, l_P_3, r_P_3, w_P_3, f_P_4, l_P_4, r_P_4, w_P_4, f_P_5, l_P_5, r_P_5, w_P_5, f_P_6, l_P_6, r_P_6, w_P_6, f_P_7, l_P_7, r_P_7, w_P_7, f_P_8, u_P_8, f_P_9, u_P_9, f_P_10, u_P_10, sset_eq, gset_at, gset_gset, gset_ne, pset_eq, pset_ne, c, hm]
  · rw [if_neg c, if_neg (fun z => c z.2)]
    simp (disch := first | omega | exact Nat.le_of_ble_eq_true rfl) only [e_S_readInto, s_S_readInto_0, s_S_readInto_1, s_S_readInto_2, s_S_readInto_3, s_S_readInto_6, s_S_readInto_7, s_S_readInto_8, s_S_readInto_11, s_S_readInto_12, s_S_readInto_13, s_S_readInto_16, s_S_readInto_17, s_S_readInto_19, s_S_readInto_22, s_S_readInto_23, s_S_readInto_25, s_S_readInto_28, s_S_readInto_31, s_S_readInto_32, s_S_readInto_35, s_S_readInto_38, s_S_readInto_39, s_S_readInto_40, s_S_readInto_43, s_S_readInto_46, s_S_readInto_47, s_S_readInto_50, s_S_readInto_51, s_S_readInto_54, s_S_readInto_57, s_S_readInto_58, s_S_readInto_61, s_S_readInto_63, s_S_readInto_66, s_S_readInto_67, s_S_readInto_70, s_S_readInto_71, s_S_readInto_72, s_S_readInto_75, s_S_readInto_77, Option.bind_some, Option.bind_none, Option.toList_some, Option.toList_none, List.cons_append, List.nil_append, if_true, if_false, rz_clr, true_or, or_true, z00, z11, bZ_eq0, bZ_eq1, nor_self, if_pos, if_neg, zI_add, zI_sub, zI_mul, zI_neg, zI_lt, zI_le, zI_eq, c_S, f_S_0, l_S_0, r_S_0, w_S_0, f_S_1, l_S_1, r_S_1, w_S_1, f_S_2, u_S_2, f_S_3, u_S_3, f_S_4, u_S_4, f_S_5, u_S_5, f_S_6, u_S_6, f_S_7, u_S_7, f_S_8, u_S_8, f_S_9, u_S_9, sset_eq, gset_at, gset_gset, gset_ne, pset_eq, pset_ne, c, hl]
theorem z_read_lp (d : Nat) (h1 : 7 ≤ g) (h2 : g ≤ 9) (hN : 48 ≤ N) (hN2 : N ≤ 1000) {len : Nat} : ∀ (n i : Nat) (s p : zP), n + i = 300 → RI len s p → (0 ≤ s 8 0 ∧ s 8 0 ≤ i) → rz_den (rz_dM (d + 8)) (rz_at tb_X2_readInto) (some .int) 24 [some (.ref (bs 1)), some (.ref (bs g)), some (.int (zI i))] [] (wOf N (gset (gset σ g p) 1 s)) = some (some (.int (zI (fnR len (rdL len n s p)))), wOf N (gset (gset σ g (fnP (rdL len n s p))) 1 (rdL len n s p).2.1)) := by
  have hg : g ≠ 1 := by omega
  have hg' : 1 ≠ g := by omega
  intro n
  induction n with
  | zero =>
    intro i s p hn hR h8
    obtain ⟨ht, hl, h3, hw, hi⟩ := hR
    have c : ¬ (i : Int) < 300 := by omega
    have he := fun l2 => z_read_end (N := N) (g := g) (σ := σ) d h1 h2 hN hN2 hw hi hl l2
    rw [s_S_readInto_24, rdL]
    simp (disch := first | omega | exact Nat.le_of_ble_eq_true rfl) only [e_S_readInto, s_S_readInto_0, s_S_readInto_1, s_S_readInto_2, s_S_readInto_3, s_S_readInto_6, s_S_readInto_7, s_S_readInto_8, s_S_readInto_11, s_S_readInto_12, s_S_readInto_13, s_S_readInto_16, s_S_readInto_17, s_S_readInto_19, s_S_readInto_22, s_S_readInto_23, s_S_readInto_25, s_S_readInto_28, s_S_readInto_31, s_S_readInto_32, s_S_readInto_35, s_S_readInto_38, s_S_readInto_39, s_S_readInto_40, s_S_readInto_43, s_S_readInto_46, s_S_readInto_47, s_S_readInto_50, s_S_readInto_51, s_S_readInto_54, s_S_readInto_58, s_S_readInto_61, s_S_readInto_63, s_S_readInto_66, s_S_readInto_67, s_S_readInto_70, s_S_readInto_71, s_S_readInto_72, s_S_readInto_75, s_S_readInto_77, Option.bind_some, Option.bind_none, Option.toList_some, Option.toList_none, List.cons_append, List.nil_append, if_true, if_false, rz_clr, true_or, or_true, z00, z11, bZ_eq0, bZ_eq1, nor_self, if_pos, if_neg, zI_add, zI_sub, zI_mul, zI_neg, zI_lt, zI_le, zI_eq, c_S, f_S_0, l_S_0, r_S_0, w_S_0, f_S_1, l_S_1, r_S_1, w_S_1, f_S_2, u_S_2, f_S_3, u_S_3, f_S_4, u_S_4, f_S_5, u_S_5, f_S_6, u_S_6, f_S_7, u_S_7, f_S_8, u_S_8, f_S_9, u_S_9, sset_eq, gset_at, gset_gset, gset_ne, pset_eq, pset_ne, c, he]
  | succ n ih =>
    intro i s p hn hR h8
    obtain ⟨ht, hl, h3, hw, hi⟩ := id hR
    have c : (i : Int) < 300 := by omega
    have hnt := z_nextToken (N := N) (σ := gset (gset σ g p) 1 s) d hN hN2 (by rw [gset_at]; exact ht.1) (len := len) (by rw [gset_at]; exact hl) (by rw [gset_at]; exact h3)
    rw [gset_at, gset_gset] at hnt
    rw [s_S_readInto_24, rdL]
    by_cases hq : tkP s len < len
    · rw [if_pos hq]
      rw [bZ_pos hq] at hnt
      obtain ⟨b1, b2, b3, b4, b5, b6⟩ := RI_step hR hq
      have hit := z_isTaken (N := N) (g := g) (σ := gset (gset σ g p) 1 (tkW s len)) (d + 3) h1 h2 hN (by rw [gset_at]; exact b1) (by rw [gset_at]; exact b2) (by rw [gset_at, b5]; omega) (by rw [gset_ne hg, gset_at]; exact b3) (by rw [gset_at, gset_ne hg, gset_at]; exact b4)
      rw [gset_at, gset_ne hg, gset_at, gset_tri hg] at hit
      by_cases ct : (isT (tkW s len) p).1 = true
      · rw [if_pos ct]
        rw [bZ_pos ct] at hit
        obtain ⟨a1, a2, a3, a4, a5, a6, a7, a8⟩ := isT_keep b1 b2 b3 b4
        have ih' := ih (i + 1) _ _ (by omega) (b6 ct) (by omega)
        simp only [Int.natCast_add, Int.natCast_one] at ih'
        simp (disch := first | omega | exact Nat.le_of_ble_eq_true rfl) only [e_S_readInto, s_S_readInto_0, s_S_readInto_1, s_S_readInto_2, s_S_readInto_3, s_S_readInto_6, s_S_readInto_7, s_S_readInto_8, s_S_readInto_11, s_S_readInto_12, s_S_readInto_13, s_S_readInto_16, s_S_readInto_17, s_S_readInto_19, s_S_readInto_22, s_S_readInto_23, s_S_readInto_25, s_S_readInto_28, s_S_readInto_31, s_S_readInto_32, s_S_readInto_35, s_S_readInto_38, s_S_readInto_39, s_S_readInto_40, s_S_readInto_43, s_S_readInto_46, s_S_readInto_47, s_S_readInto_50, s_S_readInto_51, s_S_readInto_54, s_S_readInto_58, s_S_readInto_61, s_S_readInto_63, s_S_readInto_66, s_S_readInto_67, s_S_readInto_70, s_S_readInto_71, s_S_readInto_72, s_S_readInto_75, s_S_readInto_77, Option.bind_some, Option.bind_none, Option.toList_some, Option.toList_none, List.cons_append, List.nil_append, if_true, if_false, rz_clr, true_or, or_true, z00, z11, bZ_eq0, bZ_eq1, nor_self, if_pos, if_neg, zI_add, zI_sub, zI_mul, zI_neg, zI_lt, zI_le, zI_eq, c_S, f_S_0, l_S_0, r_S_0, w_S_0, f_S_1, l_S_1, r_S_1, w_S_1, f_S_2, u_S_2, f_S_3, u_S_3, f_S_4, u_S_4, f_S_5, u_S_5, f_S_6, u_S_6, f_S_7, u_S_7, f_S_8, u_S_8, f_S_9, u_S_9, c, hnt, hit, ih']
      · rw [if_neg ct]
        rw [bZ_neg ct] at hit
        obtain ⟨f1, f2, f3⟩ := tk_facts h3 hq
        obtain ⟨a1, a2, a3, a4, a5, a6, a7, a8⟩ := isT_keep b1 b2 b3 b4
        have hne : (isT (tkW s len) p).2.1 4 0 ≠ -9 := by rw [a6, f3]; omega
        unfold fnR fnP
        rw [if_neg hne, if_neg (fun z => hne z.1)]
        simp (disch := first | omega | exact Nat.le_of_ble_eq_true rfl) only [e_S_readInto, s_S_readInto_0, s_S_readInto_1, s_S_readInto_2, s_S_readInto_3, s_S_readInto_6, s_S_readInto_7, s_S_readInto_8, s_S_readInto_11, s_S_readInto_12, s_S_readInto_13, s_S_readInto_16, s_S_readInto_17, s_S_readInto_19, s_S_readInto_22, s_S_readInto_23, s_S_readInto_25, s_S_readInto_28, s_S_readInto_31, s_S_readInto_32, s_S_readInto_35, s_S_readInto_38, s_S_readInto_39, s_S_readInto_40, s_S_readInto_43, s_S_readInto_46, s_S_readInto_47, s_S_readInto_50, s_S_readInto_51, s_S_readInto_54, s_S_readInto_58, s_S_readInto_61, s_S_readInto_63, s_S_readInto_66, s_S_readInto_67, s_S_readInto_70, s_S_readInto_71, s_S_readInto_72, s_S_readInto_75, s_S_readInto_77, Option.bind_some, Option.bind_none, Option.toList_some, Option.toList_none, List.cons_append, List.nil_append, if_true, if_false, rz_clr, true_or, or_true, z00, z11, bZ_eq0, bZ_eq1, nor_self, if_pos, if_neg, zI_add, zI_sub, zI_mul, zI_neg, zI_lt, zI_le, zI_eq, c_S, f_S_0, l_S_0, r_S_0, w_S_0, f_S_1, l_S_1, r_S_1, w_S_1, f_S_2, u_S_2, f_S_3, u_S_3, f_S_4, u_S_4, f_S_5, u_S_5, f_S_6, u_S_6, f_S_7, u_S_7, f_S_8, u_S_8, f_S_9, u_S_9, sset_eq, gset_at, gset_gset, gset_ne, pset_eq, pset_ne, c, hnt, hit]
    · rw [if_neg hq]
      rw [bZ_neg hq] at hnt
      have he := fun l2 => z_read_end (N := N) (g := g) (σ := σ) d h1 h2 hN hN2 (s := tkW s len) hw (II_tk hi) (by rw [tkW_ne (by decide)]; exact hl) l2
      simp (disch := first | omega | exact Nat.le_of_ble_eq_true rfl) only [e_S_readInto, s_S_readInto_0, s_S_readInto_1, s_S_readInto_2, s_S_readInto_3, s_S_readInto_6, s_S_readInto_7, s_S_readInto_8, s_S_readInto_11, s_S_readInto_12, s_S_readInto_13, s_S_readInto_16, s_S_readInto_17, s_S_readInto_19, s_S_readInto_22, s_S_readInto_23, s_S_readInto_25, s_S_readInto_28, s_S_readInto_31, s_S_readInto_32, s_S_readInto_35, s_S_readInto_38, s_S_readInto_39, s_S_readInto_40, s_S_readInto_43, s_S_readInto_46, s_S_readInto_47, s_S_readInto_50, s_S_readInto_51, s_S_readInto_54, s_S_readInto_58, s_S_readInto_61, s_S_readInto_63, s_S_readInto_66, s_S_readInto_67, s_S_readInto_70, s_S_readInto_71, s_S_readInto_72, s_S_readInto_75, s_S_readInto_77, Option.bind_some, Option.bind_none, Option.toList_some, Option.toList_none, List.cons_append, List.nil_append, if_true, if_false, rz_clr, true_or, or_true, z00, z11, bZ_eq0, bZ_eq1, nor_self, if_pos, if_neg, zI_add, zI_sub, zI_mul, zI_neg, zI_lt, zI_le, zI_eq, c_S, f_S_0, l_S_0, r_S_0, w_S_0, f_S_1, l_S_1, r_S_1, w_S_1, f_S_2, u_S_2, f_S_3, u_S_3, f_S_4, u_S_4, f_S_5, u_S_5, f_S_6, u_S_6, f_S_7, u_S_7, f_S_8, u_S_8, f_S_9, u_S_9, c, hnt, he]
def S0 (s : zP) : zP := pset (pset (pset s 3 (fun _ => 0)) 8 (fun _ => 0)) 7 (fun _ => -9)
def rdZ (len : Nat) (s p : zP) : Int × zP × zP := rdL len 300 (S0 s) (fstP 4 4 p)
theorem RI_0 {len : Nat} {s : zP} (p : zP) (ht : TI s) (hl : s 2 0 = len) : RI len (S0 s) (fstP 4 4 p) := by
  refine ⟨⟨ht.1, ht.2.1, ht.2.2⟩, hl, ?_, wfP_fst p (by omega) (by omega), Or.inl rfl⟩
  have e : S0 s 3 0 = 0 := rfl
  rw [e]; omega
theorem z_readInto (d : Nat) (h1 : 7 ≤ g) (h2 : g ≤ 9) (hN : 48 ≤ N) (hN2 : N ≤ 1000) {len : Nat} (ht : TI (σ 1)) (hl : σ 1 2 0 = len) : rz_dM (d + 9) iS_readInto [.ref (bs 1), .ref (bs g)] (wOf N σ) = some (some (.int (zI (fnR len (rdZ len (σ 1) (σ g))))), wOf N (gset (gset σ g (fnP (rdZ len (σ 1) (σ g)))) 1 (rdZ len (σ 1) (σ g)).2.1)) := by
  have hg : g ≠ 1 := by omega
  have hg' : 1 ≠ g := by omega
  have hf := z_setAtFirst (N := N) (g := g) (σ := σ) (d + 6) h1 h2 hN (w := 4) (h := 4) (by decide) (by decide)
  have hlp := z_read_lp (N := N) (g := g) (σ := σ) d h1 h2 hN hN2 (len := len) 300 0 (S0 (σ 1)) (fstP 4 4 (σ g)) rfl (RI_0 (σ g) ht hl) (by
    have e : S0 (σ 1) 8 0 = 0 := rfl
    rw [e]; omega)
  rw [Int.natCast_zero] at hlp
  unfold rdZ
  generalize rdL len 300 (S0 (σ 1)) (fstP 4 4 (σ g)) = r at hlp
  unfold S0 at hlp
  simp (disch := first | omega | exact Nat.le_of_ble_eq_true rfl) only [e_S_readInto, s_S_readInto_0, s_S_readInto_1, s_S_readInto_2, s_S_readInto_3, s_S_readInto_6, s_S_readInto_7, s_S_readInto_8, s_S_readInto_11, s_S_readInto_12, s_S_readInto_13, s_S_readInto_16, s_S_readInto_17, s_S_readInto_19, s_S_readInto_22, s_S_readInto_23, s_S_readInto_25, s_S_readInto_28, s_S_readInto_31, s_S_readInto_32, s_S_readInto_35, s_S_readInto_38, s_S_readInto_39, s_S_readInto_40, s_S_readInto_43, s_S_readInto_46, s_S_readInto_47, s_S_readInto_50, s_S_readInto_51, s_S_readInto_54, s_S_readInto_57, s_S_readInto_58, s_S_readInto_61, s_S_readInto_63, s_S_readInto_66, s_S_readInto_67, s_S_readInto_70, s_S_readInto_71, s_S_readInto_72, s_S_readInto_75, s_S_readInto_77, Option.bind_some, Option.bind_none, Option.toList_some, Option.toList_none, List.cons_append, List.nil_append, if_true, if_false, rz_clr, true_or, or_true, z00, z11, bZ_eq0, bZ_eq1, nor_self, if_pos, if_neg, zI_add, zI_sub, zI_mul, zI_neg, zI_lt, zI_le, zI_eq, c_S, f_S_0, l_S_0, r_S_0, w_S_0, f_S_1, l_S_1, r_S_1, w_S_1, f_S_2, u_S_2, f_S_3, u_S_3, f_S_4, u_S_4, f_S_5, u_S_5, f_S_6, u_S_6, f_S_7, u_S_7, f_S_8, u_S_8, f_S_9, u_S_9, c_P, f_P_0, l_P_0, r_P_0, w_P_0, f_P_1, l_P_1, r_P_1, w_P_1, f_P_2, l_P_2, r_P_2, w_P_2, f_P_3, l_P_3, r_P_3, w_P_3, f_P_4, l_P_4, r_P_4, w_P_4, f_P_5, l_P_5, r_P_5, w_P_5, f_P_6, l_P_6, r_P_6, w_P_6, f_P_7, l_P_7, r_P_7, w_P_7, f_P_8, u_P_8, f_P_9, u_P_9, f_P_10, u_P_10, sset_eq, gset_at, gset_gset, gset_ne, pset_eq, pset_ne, hf, hlp]
/-- the class behind a board -/
def boD (σ : zS) (gp : Nat) (len : Nat) (r : Int × zP × zP) : zS :=
  if fnR len r = -9 then gset (gset (gset (gset σ (17 - gp) (fnP r)) 1 (pset r.2.1 2 (fun _ => 0))) 0 (pset (pset (pset (σ 0) 7 (fun _ => ((17 - gp : Nat) : Int))) 8 (fun _ => (gp : Int))) 9 (fun _ => 0))) 2 (startW (σ 2) (fnP r))
  else gset (gset σ (17 - gp) (fnP r)) 1 r.2.1
def boA (len : Nat) (r : Int × zP × zP) : Int := if fnR len r = -9 then r.2.1 8 0 else -10 - fnR len r
end RK
section RL
variable {N gp : Nat} {σ : zS}
theorem fnR_rg {len n : Nat} (hlen : len ≤ 300) {s p : zP} (h : RI len s p) : fnR len (rdL len n s p) = -9 ∨ (0 ≤ fnR len (rdL len n s p) ∧ fnR len (rdL len n s p) ≤ 300) := by
  obtain ⟨c1, c2, c3, c4, c5, c6⟩ := rdL_keep n s p h
  unfold fnR
  split
  · split
    · exact Or.inl rfl
    · right; omega
  · omega
theorem z_board (d : Nat) (hN : 48 ≤ N) (hN2 : N ≤ 1000) (hI : IC σ gp) {len : Nat} (ht : TI (σ 1)) (hl : σ 1 2 0 = len) : rz_dM (d + 10) iO_board [.ref (bs 0)] (wOf N σ) = some (some (.int (zI (boA len (rdZ len (σ 1) (σ (17 - gp)))))), wOf N (boD σ gp len (rdZ len (σ 1) (σ (17 - gp))))) := by
  obtain ⟨i1, ⟨i2, i2'⟩, i3, i4, i5, i6, i7, i8⟩ := hI
  have e7 : (σ 0 7 0).toNat = gp := by omega
  have e8 : (σ 0 8 0).toNat = 17 - gp := by omega
  have h300 := ht.1.1
  have hr := fnR_rg (n := 300) (by omega) (RI_0 (len := len) (σ (17 - gp)) ht hl)
  have hz := z_readInto (N := N) (g := 17 - gp) (σ := σ) d (by omega) (by omega) hN hN2 (len := len) ht hl
  unfold boD boA
  rw [show rdL len 300 (S0 (σ 1)) (fstP 4 4 (σ (17 - gp))) = rdZ len (σ 1) (σ (17 - gp)) from rfl] at hr
  generalize rdZ len (σ 1) (σ (17 - gp)) = r at *
  have hg1 : 17 - gp ≠ 1 := by omega
  have hg0 : 17 - gp ≠ 0 := by omega
  have hg2 : 17 - gp ≠ 2 := by omega
  have hg1' : 1 ≠ 17 - gp := by omega
  have hg0' : 0 ≠ 17 - gp := by omega
  have hg2' : 2 ≠ 17 - gp := by omega
  by_cases c : fnR len r = -9
  · rw [if_pos c, if_pos c]
    rw [c] at hz
    have hd := fun τ : zS => z_drop (N := N) (σ := τ) (d + 8) hN
    have hs := fun τ : zS => z_start (N := N) (g := 2) (gp := 17 - gp) (σ := τ) (d + 7) (by decide) (by decide) (by omega) (by omega) hN
    have hX : ∀ (X : zS) (R A R' B : zP), gset (gset (gset (gset X 1 R) 0 A) 1 R') 0 B = gset (gset X 1 R') 0 B := by
      intro X R A R' B
      rw [gset_comm (show (0 : Nat) ≠ 1 by decide), gset_gset, gset_gset]
    simp (disch := first | omega | exact Nat.le_of_ble_eq_true rfl) only [e_O_board, s_O_board_0, s_O_board_1, s_O_board_4, s_O_board_5, s_O_board_8, s_O_board_11, s_O_board_12, s_O_board_13, s_O_board_15, s_O_board_18, s_O_board_20, s_O_board_21, s_O_board_22, s_O_board_23, s_O_board_24, s_O_board_27, s_O_board_28, s_O_board_29, s_O_board_30, s_O_board_33, s_O_board_36, s_O_board_37, s_O_board_38, s_O_board_41, s_O_board_42, s_O_board_45, s_O_board_48, s_O_board_49, s_O_board_50, s_O_board_51, s_O_board_54, s_O_board_55, s_O_board_58, s_O_board_59, s_O_board_62, s_O_board_65, s_O_board_66, s_O_board_69, s_O_board_72, Option.bind_some, Option.bind_none, Option.toList_some, Option.toList_none, List.cons_append, List.nil_append, if_true, if_false, rz_clr, true_or, or_true, z00, z11, bZ_eq0, bZ_eq1, nor_self, if_pos, if_neg, zI_add, zI_sub, zI_mul, zI_neg, zI_lt, zI_le, zI_eq, c_O, f_O_0, f_O_1, f_O_2, f_O_3, f_O_4, f_O_5, f_O_6, l_O_6, r_O_6, w_O_6, f_O_7, u_O_7, f_O_8, u_O_8, f_O_9, u_O_9, f_O_10, u_O_10, c_S, f_S_0, l_S_0, r_S_0, w_S_0, f_S_1, l_S_1, r_S_1, w_S_1, f_S_2, u_S_2, f_S_3, u_S_3, f_S_4, u_S_4, f_S_5, u_S_5, f_S_6, u_S_6, f_S_7, u_S_7, f_S_8, u_S_8, f_S_9, u_S_9, c_W, f_W_0, l_W_0, r_W_0, w_W_0, f_W_1, l_W_1, r_W_1, w_W_1, f_W_2, u_W_2, f_W_3, u_W_3, f_W_4, u_W_4, f_W_5, u_W_5, f_W_6, u_W_6, c_P, f_P_0, l_P_0, r_P_0, w_P_0, f_P_1, l_P_1, r_P_1, w_P_1, f_P_2, l_P_2, r_P_2, w_P_2, f_P_3, l_P_3, r_P_3, w_P_3, f_P_4, l_P_4, r_P_4, w_P_4, f_P_5, l_P_5, r_P_5, w_P_5, f_P_6, l_P_6, r_P_6, w_P_6, f_P_7, l_P_7, r_P_7, w_P_7, f_P_8, u_P_8, f_P_9, u_P_9, f_P_10, u_P_10, sset_eq, gset_at, gset_gset, gset_ne, pset_eq, pset_ne, e7, e8, Int.toNat_natCast, hz, hd, hs, hX, hg1, hg0, hg2, hg1', hg0', hg2']
    try rfl
  · rw [if_neg c, if_neg c]
    simp (disch := first | omega | exact Nat.le_of_ble_eq_true rfl) only [e_O_board, s_O_board_0, s_O_board_1, s_O_board_4, s_O_board_5, s_O_board_8, s_O_board_11, s_O_board_12, s_O_board_13, s_O_board_15, s_O_board_18, s_O_board_20, s_O_board_21, s_O_board_22, s_O_board_23, s_O_board_24, s_O_board_27, s_O_board_28, s_O_board_29, s_O_board_30, s_O_board_33, s_O_board_36, s_O_board_37, s_O_board_38, s_O_board_41, s_O_board_42, s_O_board_45, s_O_board_48, s_O_board_49, s_O_board_50, s_O_board_51, s_O_board_54, s_O_board_55, s_O_board_58, s_O_board_59, s_O_board_62, s_O_board_65, s_O_board_66, s_O_board_69, s_O_board_72, Option.bind_some, Option.bind_none, Option.toList_some, Option.toList_none, List.cons_append, List.nil_append, if_true, if_false, rz_clr, true_or, or_true, z00, z11, bZ_eq0, bZ_eq1, nor_self, if_pos, if_neg, zI_add, zI_sub, zI_mul, zI_neg, zI_lt, zI_le, zI_eq, c_O, f_O_0, f_O_1, f_O_2, f_O_3, f_O_4, f_O_5, f_O_6, l_O_6, r_O_6, w_O_6, f_O_7, u_O_7, f_O_8, u_O_8, f_O_9, u_O_9, f_O_10, u_O_10, c_S, f_S_0, l_S_0, r_S_0, w_S_0, f_S_1, l_S_1, r_S_1, w_S_1, f_S_2, u_S_2, f_S_3, u_S_3, f_S_4, u_S_4, f_S_5, u_S_5, f_S_6, u_S_6, f_S_7, u_S_7, f_S_8, u_S_8, f_S_9, u_S_9, sset_eq, gset_at, gset_gset, gset_ne, pset_eq, pset_ne, e7, e8, hz, c, hg1, hg0, hg2, hg1', hg0', hg2']
    try rfl
end RL
