-- the model: walks
section MC
variable {N : Nat} {σ : zS} {p q : zP}
/-- the same but for some slots -/
def sm (L : List Nat) (m m' : zP) : Prop := ∀ k, k ∉ L → m' k = m k
theorem sm_rfl (L : List Nat) (m : zP) : sm L m m := fun _ _ => rfl
theorem sm_tr {L : List Nat} {a b c : zP} (h : sm L a b) (h' : sm L b c) : sm L a c := fun k hk => (h' k hk).trans (h k hk)
theorem sm_mono {L L' : List Nat} {a b : zP} (h : sm L a b) (hL : ∀ k, k ∈ L → k ∈ L') : sm L' a b := fun k hk => h k (fun z => hk (hL k z))
theorem sm_pset {L : List Nat} {a b : zP} {k : Nat} {f : Nat → Int} (h : sm L a b) (hk : k ∈ L) : sm L a (pset b k f) := fun j hj => by
  rw [pset_ne (show j ≠ k from fun z => hj (by rw [z]; exact hk))]
  exact h j hj
theorem asW_sm (m : zP) : sm [15, 16] m (asW m) := sm_pset (sm_pset (sm_rfl _ _) (by decide)) (by decide)
theorem ldP_law {p : zP} (hw : wfP p) {m : Int} (hm : 0 ≤ m ∧ m < 2) (c : Int) (k : Nat) : ldP p (lawP p m) c k = ldP p (p 6 m.toNat) c k := by
  obtain ⟨⟨w1, w2, w3, w4, w5, w6⟩, -, -, wm⟩ := hw
  have := (wm m.toNat (by omega)).2.2.1
  unfold lawP ldP
  by_cases e : p 10 0 = 0
  · rw [if_pos e, if_neg (by omega), if_neg (by omega)]
  · rw [if_neg e, gat_in hm.1 hm.2]
theorem mayP_law {p : zP} (hw : wfP p) {m : Int} (hm : 0 ≤ m ∧ m < 2) (a b : Int) : mayP p (lawP p m) a b = mayP p (p 6 m.toNat) a b := by
  have e : mayF p (lawP p m) a b = mayF p (p 6 m.toNat) a b := by
    funext k
    unfold mayF
    rw [ldP_law hw hm]
  unfold mayP
  rw [e]
section SR
variable {t : Nat → Int}
theorem sR_0 (h : sR t q) {j : Int} (hj : 0 ≤ j ∧ j < 2) : t j.toNat = q 0 j.toNat := by
  have : j = 0 ∨ j = 1 := by omega
  rcases this with e | e <;> subst e
  · exact h.1.1
  · exact h.1.2
theorem sR_1 (h : sR t q) {j : Int} (hj : 0 ≤ j ∧ j < 2) : t (2 + j).toNat = q 1 j.toNat := by
  have : j = 0 ∨ j = 1 := by omega
  rcases this with e | e <;> subst e
  · exact h.2.1.1
  · exact h.2.1.2
theorem sR_4 (h : sR t q) : t (4 : Int).toNat = q 2 0 := h.2.2.1
theorem sR_5 (h : sR t q) : t (5 : Int).toNat = q 4 0 := h.2.2.2.1
theorem sR_6 (h : sR t q) : t (6 : Int).toNat = q 5 0 := h.2.2.2.2.1
theorem sR_7 (h : sR t q) : t (7 : Int).toNat = q 3 0 := h.2.2.2.2.2.1
end SR
theorem use_nat {p : zP} (hw : wfP p) {m : Int} (hm : 0 ≤ m ∧ m < 2) : ∃ u : Nat, p 6 m.toNat = u ∧ u < 3 := by
  obtain ⟨⟨w1, w2, w3, w4, w5, w6⟩, -, -, wm⟩ := hw
  have := (wm m.toNat (by omega)).2.2.1
  exact ⟨(p 6 m.toNat).toNat, by omega, by omega⟩
theorem asW_16 {m : zP} (hm : tlR (m 9) 0 p) {j : Nat} (hj : j < 2) : asW m 16 j = p 6 j := by
  have e : asW m 16 = zup (zup (m 16) 0 (m 9 29)) 1 (m 9 30) := rfl
  have h0 := (hm.2.2.2 0 (by decide)).2.2.1
  have h1 := (hm.2.2.2 1 (by decide)).2.2.1
  rw [e]
  have : j = 0 ∨ j = 1 := by omega
  rcases this with rfl | rfl
  · rw [zup_ne (by decide), zup_eq]; exact h0
  · rw [zup_eq]; exact h1
theorem asW_15 {m : zP} (hm : tlR (m 9) 0 p) {j : Nat} (hj : j < 2) : asW m 15 j = p 5 j := by
  have e : asW m 15 = zup (zup (m 15) 0 (m 9 27)) 1 (m 9 28) := rfl
  have h0 := (hm.2.2.2 0 (by decide)).2.1
  have h1 := (hm.2.2.2 1 (by decide)).2.1
  rw [e]
  have : j = 0 ∨ j = 1 := by omega
  rcases this with rfl | rfl
  · rw [zup_ne (by decide), zup_eq]; exact h0
  · rw [zup_eq]; exact h1
theorem z_MmayNow (d : Nat) (hN : 60 ≤ N) (hm : tlR (σ 10 9) 0 p) (hs : sR (σ 10 10) q) (hw : wfP p) (hl : lkP p) (hq : wfW q p) {j : Int} (hj : 0 ≤ j ∧ j < 2) : rz_dM (d + 4) iM_mayNow [.ref (bs 10), .int (zI j)] (wOf N σ) = some (some (.int (zI (mayW q p j : Nat))), wOf N (gset σ 10 (asW (σ 10)))) := by
  obtain ⟨j', rfl⟩ : ∃ n : Nat, j = n := ⟨j.toNat, by omega⟩
  have hj2 : j' < 2 := by omega
  obtain ⟨u, hu, hu3⟩ := use_nat hw hj
  rw [Int.toNat_natCast] at hu
  have hq0 := (hq.1 j' hj2).1
  obtain ⟨own, ho⟩ : ∃ n : Nat, q 0 j' = n := ⟨(q 0 j').toNat, by omega⟩
  have ha := wfP_area hw
  have hq1 := (hq.1 (1 - (j' : Int)).toNat (by omega)).1
  have e9 : asW (σ 10) 9 = σ 10 9 := rfl
  have e10 : asW (σ 10) 10 = σ 10 10 := rfl
  have s0 := sR_0 hs hj
  have s1 := sR_0 hs (j := 1 - (j' : Int)) (by omega)
  have hmb := z_MmayBe (N := N) (σ := gset σ 10 (asW (σ 10))) d hN (p := p) (by rw [gset_at]; exact hm) hw hl (j := j') (u := u) (own := own) hj2 (by rw [gset_at, asW_16 hm hj2]; exact hu) hu3 (by omega) (oth := q 0 (1 - (j' : Int)).toNat) (by omega)
  have ha0 := z_MasTold (N := N) (σ := σ) (d + 2) hN
  unfold mayW
  rw [mayP_law hw hj, Int.toNat_natCast, hu, ho]
  rw [Int.toNat_natCast, ho] at s0
  simp (disch := first | omega | exact Nat.le_of_ble_eq_true rfl) only [e_M_mayNow, s_M_mayNow_0, s_M_mayNow_1, s_M_mayNow_4, s_M_mayNow_5, s_M_mayNow_6, s_M_mayNow_7, s_M_mayNow_10, s_M_mayNow_11, s_M_mayNow_12, s_M_mayNow_13, s_M_mayNow_16, s_M_mayNow_17, s_M_mayNow_18, s_M_mayNow_19, s_M_mayNow_20, s_M_mayNow_23, Option.bind_some, Option.bind_none, Option.toList_some, Option.toList_none, List.cons_append, List.nil_append, if_true, if_false, rz_clr, true_or, or_true, z00, z11, bZ_eq0, bZ_eq1, nor_self, if_pos, if_neg, zI_add, zI_sub, zI_mul, zI_neg, zI_lt, zI_le, zI_eq, c_M, f_M_0, u_M_0, f_M_1, u_M_1, f_M_2, l_M_2, r_M_2, w_M_2, f_M_3, u_M_3, f_M_4, u_M_4, f_M_5, u_M_5, f_M_6, u_M_6, f_M_7, u_M_7, f_M_8, u_M_8, f_M_9, l_M_9, r_M_9, w_M_9, f_M_10, l_M_10, r_M_10, w_M_10, f_M_11, l_M_11, r_M_11, w_M_11, f_M_12, l_M_12, r_M_12, w_M_12, f_M_13, l_M_13, r_M_13, w_M_13, f_M_14, l_M_14, r_M_14, w_M_14, f_M_15, l_M_15, r_M_15, w_M_15, f_M_16, l_M_16, r_M_16, w_M_16, f_M_17, l_M_17, r_M_17, w_M_17, f_M_18, l_M_18, r_M_18, w_M_18, ha0, gset_at, e10, Int.toNat_natCast, s0, s1, hmb]
theorem z_Mones_lp (d : Nat) {b : Nat} (hb : b < 256) (w : rz_W) : ∀ n k : Nat, n + k = 8 → rz_den (rz_dM d) (rz_at tb_X5_ones) (some .int) 4 [some (.int (zI b)), some (.int (zI (cN (fun i => b.testBit i) k : Nat))), some (.int (zI k))] [] w = some (some (.int (zI (cN (fun i => b.testBit i) 8 : Nat))), w) := by
  intro n
  induction n with
  | zero =>
    intro k hk
    obtain rfl : k = 8 := by omega
    rw [s_M_ones_4]
    simp (disch := first | omega | exact Nat.le_of_ble_eq_true rfl) only [e_M_ones, s_M_ones_0, s_M_ones_1, s_M_ones_2, s_M_ones_3, s_M_ones_5, s_M_ones_7, s_M_ones_10, s_M_ones_11, s_M_ones_12, s_M_ones_13, s_M_ones_14, s_M_ones_15, s_M_ones_16, s_M_ones_17, s_M_ones_18, s_M_ones_21, s_M_ones_24, s_M_ones_25, Option.bind_some, Option.bind_none, Option.toList_some, Option.toList_none, List.cons_append, List.nil_append, if_true, if_false, rz_clr, true_or, or_true, z00, z11, bZ_eq0, bZ_eq1, nor_self, if_pos, if_neg, zI_add, zI_sub, zI_mul, zI_neg, zI_lt, zI_le, zI_eq]
  | succ n ih =>
    intro k hk
    have ih' := ih (k + 1) (by omega)
    simp only [Int.natCast_add, Int.natCast_one] at ih'
    have hle := cN_le (fun i => b.testBit i) k
    have hsh := z_shr (b := b) (i := k) (by omega) (by omega)
    have hand := z_and1 (b / 2 ^ k) (Nat.lt_of_le_of_lt (Nat.div_le_self _ _) (by omega))
    rw [tb_div] at hand
    rw [s_M_ones_4]
    by_cases c : b.testBit k = true
    · have e : cN (fun i => b.testBit i) (k + 1) = cN (fun i => b.testBit i) k + 1 := if_pos c
      rw [e] at ih'
      rw [if_pos c] at hand
      simp only [Int.natCast_add, Int.natCast_one] at ih' hand
      simp (disch := first | omega | exact Nat.le_of_ble_eq_true rfl) only [e_M_ones, s_M_ones_0, s_M_ones_1, s_M_ones_2, s_M_ones_3, s_M_ones_5, s_M_ones_7, s_M_ones_10, s_M_ones_11, s_M_ones_12, s_M_ones_13, s_M_ones_14, s_M_ones_15, s_M_ones_16, s_M_ones_17, s_M_ones_18, s_M_ones_21, s_M_ones_24, s_M_ones_25, Option.bind_some, Option.bind_none, Option.toList_some, Option.toList_none, List.cons_append, List.nil_append, if_true, if_false, rz_clr, true_or, or_true, z00, z11, bZ_eq0, bZ_eq1, nor_self, if_pos, if_neg, zI_add, zI_sub, zI_mul, zI_neg, zI_lt, zI_le, zI_eq, hsh, hand, ih']
    · have e : cN (fun i => b.testBit i) (k + 1) = cN (fun i => b.testBit i) k := if_neg c
      rw [e] at ih'
      rw [if_neg c] at hand
      have e0 : zI ((cN (fun i => b.testBit i) k : Nat) : Int) + zI ((0 : Nat) : Int) = zI ((cN (fun i => b.testBit i) k : Nat) : Int) := by rw [zI_add, Int.natCast_zero, Int.add_zero]
      simp (disch := first | omega | exact Nat.le_of_ble_eq_true rfl) only [e_M_ones, s_M_ones_0, s_M_ones_1, s_M_ones_2, s_M_ones_3, s_M_ones_5, s_M_ones_7, s_M_ones_10, s_M_ones_11, s_M_ones_12, s_M_ones_13, s_M_ones_14, s_M_ones_15, s_M_ones_16, s_M_ones_17, s_M_ones_18, s_M_ones_21, s_M_ones_24, s_M_ones_25, Option.bind_some, Option.bind_none, Option.toList_some, Option.toList_none, List.cons_append, List.nil_append, if_true, if_false, rz_clr, true_or, or_true, z00, z11, bZ_eq0, bZ_eq1, nor_self, if_pos, if_neg, zI_lt, zI_le, hsh, hand, e0, zI_add, ih']
theorem z_Mones (d : Nat) {b : Nat} (hb : b < 256) (w : rz_W) : rz_dM (d + 1) iM_ones [.int (zI b)] w = some (some (.int (zI (cN (fun i => b.testBit i) 8 : Nat))), w) := by
  have h := z_Mones_lp d hb w 8 0 rfl
  rw [show cN (fun i => b.testBit i) 0 = 0 from rfl, Int.natCast_zero] at h
  simp (disch := first | omega | exact Nat.le_of_ble_eq_true rfl) only [e_M_ones, s_M_ones_0, s_M_ones_1, s_M_ones_2, s_M_ones_3, s_M_ones_5, s_M_ones_7, s_M_ones_10, s_M_ones_11, s_M_ones_12, s_M_ones_13, s_M_ones_14, s_M_ones_15, s_M_ones_16, s_M_ones_17, s_M_ones_18, s_M_ones_21, s_M_ones_24, s_M_ones_25, Option.bind_some, Option.bind_none, Option.toList_some, Option.toList_none, List.cons_append, List.nil_append, if_true, if_false, rz_clr, true_or, or_true, z00, z11, bZ_eq0, bZ_eq1, nor_self, if_pos, if_neg, zI_add, zI_sub, zI_mul, zI_neg, zI_lt, zI_le, zI_eq, h]
theorem z_MmayTell (d : Nat) (hN : 60 ≤ N) (hm : tlR (σ 10 9) 0 p) (hs : sR (σ 10 10) q) (hw : wfP p) (hl : lkP p) (hq : wfW q p) {k : Int} (hk : 0 ≤ k ∧ k < 8) : rz_dM (d + 5) iM_mayTell [.ref (bs 10), .int (zI k)] (wOf N σ) = some (some (.int (zI (bZ ((mayW q p (1 - q 2 0)).testBit k.toNat = true ∧ k ≠ q 3 0)))), wOf N (gset σ 10 (asW (σ 10)))) := by
  obtain ⟨q1, q2, q3, q4, q5, q6⟩ := id hq
  obtain ⟨k', rfl⟩ : ∃ n : Nat, k = n := ⟨k.toNat, by omega⟩
  have hmn := z_MmayNow (N := N) (σ := σ) d hN hm hs hw hl hq (j := 1 - q 2 0) (by omega)
  have hlt := mayW_lt q p (1 - q 2 0)
  have s4 := sR_4 hs
  have s7 := sR_7 hs
  have e10 : asW (σ 10) 10 = σ 10 10 := rfl
  have a1 : (0 : Int) ≤ k' ∧ (k' : Int) ≤ 7 := by omega
  rw [Int.toNat_natCast]
  generalize mayW q p (1 - q 2 0) = b at hmn hlt
  have hsh := z_shr (b := b) (i := k') (by omega) (by omega)
  have hand := z_and1 (b / 2 ^ k') (Nat.lt_of_le_of_lt (Nat.div_le_self _ _) (by omega))
  rw [tb_div] at hand
  by_cases c : b.testBit k' = true
  · rw [if_pos c] at hand
    by_cases c2 : (k' : Int) = q 3 0
    · rw [bZ_neg (fun z => z.2 c2)]
      simp (disch := first | omega | exact Nat.le_of_ble_eq_true rfl) only [e_M_mayTell, s_M_mayTell_0, s_M_mayTell_1, s_M_mayTell_2, s_M_mayTell_4, s_M_mayTell_7, s_M_mayTell_10, s_M_mayTell_11, s_M_mayTell_12, s_M_mayTell_13, s_M_mayTell_16, s_M_mayTell_17, s_M_mayTell_18, s_M_mayTell_19, s_M_mayTell_22, s_M_mayTell_23, s_M_mayTell_24, s_M_mayTell_25, s_M_mayTell_26, s_M_mayTell_27, s_M_mayTell_30, s_M_mayTell_31, s_M_mayTell_32, s_M_mayTell_35, s_M_mayTell_37, s_M_mayTell_38, s_M_mayTell_41, s_M_mayTell_42, s_M_mayTell_45, s_M_mayTell_46, Option.bind_some, Option.bind_none, Option.toList_some, Option.toList_none, List.cons_append, List.nil_append, if_true, if_false, rz_clr, true_or, or_true, z00, z11, bZ_eq0, bZ_eq1, nor_self, if_pos, if_neg, zI_add, zI_sub, zI_mul, zI_neg, zI_lt, zI_le, zI_eq, c_M, f_M_0, u_M_0, f_M_1, u_M_1, f_M_2, l_M_2, r_M_2, w_M_2, f_M_3, u_M_3, f_M_4, u_M_4, f_M_5, u_M_5, f_M_6, u_M_6, f_M_7, u_M_7, f_M_8, u_M_8, f_M_9, l_M_9, r_M_9, w_M_9, f_M_10, l_M_10, r_M_10, w_M_10, f_M_11, l_M_11, r_M_11, w_M_11, f_M_12, l_M_12, r_M_12, w_M_12, f_M_13, l_M_13, r_M_13, w_M_13, f_M_14, l_M_14, r_M_14, w_M_14, f_M_15, l_M_15, r_M_15, w_M_15, f_M_16, l_M_16, r_M_16, w_M_16, f_M_17, l_M_17, r_M_17, w_M_17, f_M_18, l_M_18, r_M_18, w_M_18, z_Min, bZ_pos a1, s4, hmn, hsh, hand, gset_at, e10, s7, Int.natCast_one]
    · rw [bZ_pos ⟨c, c2⟩]
      simp (disch := first | omega | exact Nat.le_of_ble_eq_true rfl) only [e_M_mayTell, s_M_mayTell_0, s_M_mayTell_1, s_M_mayTell_2, s_M_mayTell_4, s_M_mayTell_7, s_M_mayTell_10, s_M_mayTell_11, s_M_mayTell_12, s_M_mayTell_13, s_M_mayTell_16, s_M_mayTell_17, s_M_mayTell_18, s_M_mayTell_19, s_M_mayTell_22, s_M_mayTell_23, s_M_mayTell_24, s_M_mayTell_25, s_M_mayTell_26, s_M_mayTell_27, s_M_mayTell_30, s_M_mayTell_31, s_M_mayTell_32, s_M_mayTell_35, s_M_mayTell_37, s_M_mayTell_38, s_M_mayTell_41, s_M_mayTell_42, s_M_mayTell_45, s_M_mayTell_46, Option.bind_some, Option.bind_none, Option.toList_some, Option.toList_none, List.cons_append, List.nil_append, if_true, if_false, rz_clr, true_or, or_true, z00, z11, bZ_eq0, bZ_eq1, nor_self, if_pos, if_neg, zI_add, zI_sub, zI_mul, zI_neg, zI_lt, zI_le, zI_eq, c_M, f_M_0, u_M_0, f_M_1, u_M_1, f_M_2, l_M_2, r_M_2, w_M_2, f_M_3, u_M_3, f_M_4, u_M_4, f_M_5, u_M_5, f_M_6, u_M_6, f_M_7, u_M_7, f_M_8, u_M_8, f_M_9, l_M_9, r_M_9, w_M_9, f_M_10, l_M_10, r_M_10, w_M_10, f_M_11, l_M_11, r_M_11, w_M_11, f_M_12, l_M_12, r_M_12, w_M_12, f_M_13, l_M_13, r_M_13, w_M_13, f_M_14, l_M_14, r_M_14, w_M_14, f_M_15, l_M_15, r_M_15, w_M_15, f_M_16, l_M_16, r_M_16, w_M_16, f_M_17, l_M_17, r_M_17, w_M_17, f_M_18, l_M_18, r_M_18, w_M_18, z_Min, bZ_pos a1, s4, hmn, hsh, hand, gset_at, e10, s7, Int.natCast_one]
  · rw [if_neg c] at hand
    rw [bZ_neg (fun z => c z.1)]
    simp (disch := first | omega | exact Nat.le_of_ble_eq_true rfl) only [e_M_mayTell, s_M_mayTell_0, s_M_mayTell_1, s_M_mayTell_2, s_M_mayTell_4, s_M_mayTell_7, s_M_mayTell_10, s_M_mayTell_11, s_M_mayTell_12, s_M_mayTell_13, s_M_mayTell_16, s_M_mayTell_17, s_M_mayTell_18, s_M_mayTell_19, s_M_mayTell_22, s_M_mayTell_23, s_M_mayTell_24, s_M_mayTell_25, s_M_mayTell_26, s_M_mayTell_27, s_M_mayTell_30, s_M_mayTell_31, s_M_mayTell_32, s_M_mayTell_35, s_M_mayTell_37, s_M_mayTell_38, s_M_mayTell_41, s_M_mayTell_42, s_M_mayTell_45, s_M_mayTell_46, Option.bind_some, Option.bind_none, Option.toList_some, Option.toList_none, List.cons_append, List.nil_append, if_true, if_false, rz_clr, true_or, or_true, z00, z11, bZ_eq0, bZ_eq1, nor_self, if_pos, if_neg, zI_add, zI_sub, zI_mul, zI_neg, zI_lt, zI_le, zI_eq, c_M, f_M_0, u_M_0, f_M_1, u_M_1, f_M_2, l_M_2, r_M_2, w_M_2, f_M_3, u_M_3, f_M_4, u_M_4, f_M_5, u_M_5, f_M_6, u_M_6, f_M_7, u_M_7, f_M_8, u_M_8, f_M_9, l_M_9, r_M_9, w_M_9, f_M_10, l_M_10, r_M_10, w_M_10, f_M_11, l_M_11, r_M_11, w_M_11, f_M_12, l_M_12, r_M_12, w_M_12, f_M_13, l_M_13, r_M_13, w_M_13, f_M_14, l_M_14, r_M_14, w_M_14, f_M_15, l_M_15, r_M_15, w_M_15, f_M_16, l_M_16, r_M_16, w_M_16, f_M_17, l_M_17, r_M_17, w_M_17, f_M_18, l_M_18, r_M_18, w_M_18, z_Min, bZ_pos a1, s4, hmn, hsh, hand, Int.natCast_zero]
theorem z_Mrefusal (d : Nat) (hN : 60 ≤ N) (hm : tlR (σ 10 9) 0 p) (hs : sR (σ 10 10) q) (hw : wfP p) (hl : lkP p) (hq : wfW q p) {k : Int} (hk : rg k) : ∃ m', rz_dM (d + 6) iM_refusal [.ref (bs 10), .int (zI k)] (wOf N σ) = some (some (.int (zI (wntQ q p k))), wOf N (gset σ 10 m')) ∧ sm [15, 16] (σ 10) m' := by
  obtain ⟨q1, q2, q3, q4, q5, q6⟩ := id hq
  have s6 := sR_6 hs
  unfold wntQ
  by_cases a1 : 0 ≤ k ∧ k < 8
  · have a1' : 0 ≤ k ∧ k ≤ 7 := by omega
    rw [if_pos a1]
    by_cases a2 : q 5 0 = 0
    · refine ⟨asW (σ 10), ?_, asW_sm _⟩
      have ht := z_MmayTell (N := N) (σ := σ) d hN hm hs hw hl hq a1
      rw [if_pos a2]
      by_cases a3 : k = q 3 0
      · rw [if_pos a3]
        rw [bZ_neg (fun z => z.2 a3)] at ht
        simp (disch := first | omega | exact Nat.le_of_ble_eq_true rfl) only [e_M_refusal, s_M_refusal_0, s_M_refusal_1, s_M_refusal_2, s_M_refusal_4, s_M_refusal_7, s_M_refusal_10, s_M_refusal_11, s_M_refusal_14, s_M_refusal_15, s_M_refusal_18, s_M_refusal_20, s_M_refusal_21, s_M_refusal_24, s_M_refusal_26, s_M_refusal_29, s_M_refusal_30, s_M_refusal_31, s_M_refusal_34, s_M_refusal_37, s_M_refusal_38, s_M_refusal_41, s_M_refusal_42, Option.bind_some, Option.bind_none, Option.toList_some, Option.toList_none, List.cons_append, List.nil_append, if_true, if_false, rz_clr, true_or, or_true, z00, z11, bZ_eq0, bZ_eq1, nor_self, if_pos, if_neg, zI_add, zI_sub, zI_mul, zI_neg, zI_lt, zI_le, zI_eq, c_M, f_M_0, u_M_0, f_M_1, u_M_1, f_M_2, l_M_2, r_M_2, w_M_2, f_M_3, u_M_3, f_M_4, u_M_4, f_M_5, u_M_5, f_M_6, u_M_6, f_M_7, u_M_7, f_M_8, u_M_8, f_M_9, l_M_9, r_M_9, w_M_9, f_M_10, l_M_10, r_M_10, w_M_10, f_M_11, l_M_11, r_M_11, w_M_11, f_M_12, l_M_12, r_M_12, w_M_12, f_M_13, l_M_13, r_M_13, w_M_13, f_M_14, l_M_14, r_M_14, w_M_14, f_M_15, l_M_15, r_M_15, w_M_15, f_M_16, l_M_16, r_M_16, w_M_16, f_M_17, l_M_17, r_M_17, w_M_17, f_M_18, l_M_18, r_M_18, w_M_18, z_Min, bZ_pos a1', s6, a2, ht]
      · rw [if_neg a3]
        by_cases a4 : (mayW q p (1 - q 2 0)).testBit k.toNat = true
        · rw [if_pos a4]
          rw [bZ_pos ⟨a4, a3⟩] at ht
          simp (disch := first | omega | exact Nat.le_of_ble_eq_true rfl) only [e_M_refusal, s_M_refusal_0, s_M_refusal_1, s_M_refusal_2, s_M_refusal_4, s_M_refusal_7, s_M_refusal_10, s_M_refusal_11, s_M_refusal_14, s_M_refusal_15, s_M_refusal_18, s_M_refusal_20, s_M_refusal_21, s_M_refusal_24, s_M_refusal_26, s_M_refusal_29, s_M_refusal_30, s_M_refusal_31, s_M_refusal_34, s_M_refusal_37, s_M_refusal_38, s_M_refusal_41, s_M_refusal_42, Option.bind_some, Option.bind_none, Option.toList_some, Option.toList_none, List.cons_append, List.nil_append, if_true, if_false, rz_clr, true_or, or_true, z00, z11, bZ_eq0, bZ_eq1, nor_self, if_pos, if_neg, zI_add, zI_sub, zI_mul, zI_neg, zI_lt, zI_le, zI_eq, c_M, f_M_0, u_M_0, f_M_1, u_M_1, f_M_2, l_M_2, r_M_2, w_M_2, f_M_3, u_M_3, f_M_4, u_M_4, f_M_5, u_M_5, f_M_6, u_M_6, f_M_7, u_M_7, f_M_8, u_M_8, f_M_9, l_M_9, r_M_9, w_M_9, f_M_10, l_M_10, r_M_10, w_M_10, f_M_11, l_M_11, r_M_11, w_M_11, f_M_12, l_M_12, r_M_12, w_M_12, f_M_13, l_M_13, r_M_13, w_M_13, f_M_14, l_M_14, r_M_14, w_M_14, f_M_15, l_M_15, r_M_15, w_M_15, f_M_16, l_M_16, r_M_16, w_M_16, f_M_17, l_M_17, r_M_17, w_M_17, f_M_18, l_M_18, r_M_18, w_M_18, z_Min, bZ_pos a1', s6, a2, ht]
        · rw [if_neg a4]
          rw [bZ_neg (fun z => a4 z.1)] at ht
          simp (disch := first | omega | exact Nat.le_of_ble_eq_true rfl) only [e_M_refusal, s_M_refusal_0, s_M_refusal_1, s_M_refusal_2, s_M_refusal_4, s_M_refusal_7, s_M_refusal_10, s_M_refusal_11, s_M_refusal_14, s_M_refusal_15, s_M_refusal_18, s_M_refusal_20, s_M_refusal_21, s_M_refusal_24, s_M_refusal_26, s_M_refusal_29, s_M_refusal_30, s_M_refusal_31, s_M_refusal_34, s_M_refusal_37, s_M_refusal_38, s_M_refusal_41, s_M_refusal_42, Option.bind_some, Option.bind_none, Option.toList_some, Option.toList_none, List.cons_append, List.nil_append, if_true, if_false, rz_clr, true_or, or_true, z00, z11, bZ_eq0, bZ_eq1, nor_self, if_pos, if_neg, zI_add, zI_sub, zI_mul, zI_neg, zI_lt, zI_le, zI_eq, c_M, f_M_0, u_M_0, f_M_1, u_M_1, f_M_2, l_M_2, r_M_2, w_M_2, f_M_3, u_M_3, f_M_4, u_M_4, f_M_5, u_M_5, f_M_6, u_M_6, f_M_7, u_M_7, f_M_8, u_M_8, f_M_9, l_M_9, r_M_9, w_M_9, f_M_10, l_M_10, r_M_10, w_M_10, f_M_11, l_M_11, r_M_11, w_M_11, f_M_12, l_M_12, r_M_12, w_M_12, f_M_13, l_M_13, r_M_13, w_M_13, f_M_14, l_M_14, r_M_14, w_M_14, f_M_15, l_M_15, r_M_15, w_M_15, f_M_16, l_M_16, r_M_16, w_M_16, f_M_17, l_M_17, r_M_17, w_M_17, f_M_18, l_M_18, r_M_18, w_M_18, z_Min, bZ_pos a1', s6, a2, ht]
    · refine ⟨σ 10, ?_, sm_rfl _ _⟩
      rw [if_neg a2, gset_self]
      simp (disch := first | omega | exact Nat.le_of_ble_eq_true rfl) only [e_M_refusal, s_M_refusal_0, s_M_refusal_1, s_M_refusal_2, s_M_refusal_4, s_M_refusal_7, s_M_refusal_10, s_M_refusal_11, s_M_refusal_14, s_M_refusal_15, s_M_refusal_18, s_M_refusal_20, s_M_refusal_21, s_M_refusal_24, s_M_refusal_26, s_M_refusal_29, s_M_refusal_30, s_M_refusal_31, s_M_refusal_34, s_M_refusal_37, s_M_refusal_38, s_M_refusal_41, s_M_refusal_42, Option.bind_some, Option.bind_none, Option.toList_some, Option.toList_none, List.cons_append, List.nil_append, if_true, if_false, rz_clr, true_or, or_true, z00, z11, bZ_eq0, bZ_eq1, nor_self, if_pos, if_neg, zI_add, zI_sub, zI_mul, zI_neg, zI_lt, zI_le, zI_eq, c_M, f_M_0, u_M_0, f_M_1, u_M_1, f_M_2, l_M_2, r_M_2, w_M_2, f_M_3, u_M_3, f_M_4, u_M_4, f_M_5, u_M_5, f_M_6, u_M_6, f_M_7, u_M_7, f_M_8, u_M_8, f_M_9, l_M_9, r_M_9, w_M_9, f_M_10, l_M_10, r_M_10, w_M_10, f_M_11, l_M_11, r_M_11, w_M_11, f_M_12, l_M_12, r_M_12, w_M_12, f_M_13, l_M_13, r_M_13, w_M_13, f_M_14, l_M_14, r_M_14, w_M_14, f_M_15, l_M_15, r_M_15, w_M_15, f_M_16, l_M_16, r_M_16, w_M_16, f_M_17, l_M_17, r_M_17, w_M_17, f_M_18, l_M_18, r_M_18, w_M_18, z_Min, bZ_pos a1', s6, a2]
  · refine ⟨σ 10, ?_, sm_rfl _ _⟩
    have a1' : ¬ (0 ≤ k ∧ k ≤ 7) := by omega
    rw [if_neg a1, gset_self]
    simp (disch := first | omega | exact Nat.le_of_ble_eq_true rfl) only [e_M_refusal, s_M_refusal_0, s_M_refusal_1, s_M_refusal_2, s_M_refusal_4, s_M_refusal_7, s_M_refusal_10, s_M_refusal_11, s_M_refusal_14, s_M_refusal_15, s_M_refusal_18, s_M_refusal_20, s_M_refusal_21, s_M_refusal_24, s_M_refusal_26, s_M_refusal_29, s_M_refusal_30, s_M_refusal_31, s_M_refusal_34, s_M_refusal_37, s_M_refusal_38, s_M_refusal_41, s_M_refusal_42, Option.bind_some, Option.bind_none, Option.toList_some, Option.toList_none, List.cons_append, List.nil_append, if_true, if_false, rz_clr, true_or, or_true, z00, z11, bZ_eq0, bZ_eq1, nor_self, if_pos, if_neg, zI_add, zI_sub, zI_mul, zI_neg, zI_lt, zI_le, zI_eq, c_M, f_M_0, u_M_0, f_M_1, u_M_1, f_M_2, l_M_2, r_M_2, w_M_2, f_M_3, u_M_3, f_M_4, u_M_4, f_M_5, u_M_5, f_M_6, u_M_6, f_M_7, u_M_7, f_M_8, u_M_8, f_M_9, l_M_9, r_M_9, w_M_9, f_M_10, l_M_10, r_M_10, w_M_10, f_M_11, l_M_11, r_M_11, w_M_11, f_M_12, l_M_12, r_M_12, w_M_12, f_M_13, l_M_13, r_M_13, w_M_13, f_M_14, l_M_14, r_M_14, w_M_14, f_M_15, l_M_15, r_M_15, w_M_15, f_M_16, l_M_16, r_M_16, w_M_16, f_M_17, l_M_17, r_M_17, w_M_17, f_M_18, l_M_18, r_M_18, w_M_18, z_Min, bZ_neg a1']
theorem z_Mcounts (d : Nat) (hN : 60 ≤ N) (hs : sR (σ 10 10) q) (h4 : 0 ≤ q 4 0 ∧ q 4 0 ≤ 98) (h5 : 0 ≤ q 5 0 ∧ q 5 0 ≤ 3) : ∃ t, rz_dM (d + 1) iM_counts [.ref (bs 10)] (wOf N σ) = some (none, wOf N (gset σ 10 (pset (σ 10) 10 t))) ∧ sR t (goOnW q) := by
  have s5 := sR_5 hs
  have s6 := sR_6 hs
  have s6' : zup (zup (σ 10 10) (7 : Int).toNat (-9)) (5 : Int).toNat (q 4 0 + 1) (6 : Int).toNat = q 5 0 := by
    rw [zup_ne (by decide), zup_ne (by decide)]; exact s6
  have s5' : zup (σ 10 10) (7 : Int).toNat (-9) (5 : Int).toNat = q 4 0 := by
    rw [zup_ne (by decide)]; exact s5
  have s5'' : zup (zup (σ 10 10) (7 : Int).toNat (-9)) (5 : Int).toNat (q 4 0 + 1) (5 : Int).toNat = q 4 0 + 1 := zup_eq _ _ _
  obtain ⟨r1, r2, r3, r4, r5, r6, r7⟩ := hs
  by_cases c : q 5 0 = 0 ∧ 99 ≤ q 4 0 + 1
  · have c2 : q 4 0 + 1 = 99 := by omega
    refine ⟨zup (zup (zup (σ 10 10) (7 : Int).toNat (-9)) (5 : Int).toNat (q 4 0 + 1)) (6 : Int).toNat 3, ?_, ?_⟩
    · simp (disch := first | omega | exact Nat.le_of_ble_eq_true rfl) only [e_M_counts, s_M_counts_0, s_M_counts_1, s_M_counts_4, s_M_counts_6, s_M_counts_8, s_M_counts_9, s_M_counts_10, s_M_counts_13, s_M_counts_14, s_M_counts_15, s_M_counts_16, s_M_counts_17, s_M_counts_18, s_M_counts_19, s_M_counts_20, s_M_counts_23, s_M_counts_25, s_M_counts_26, s_M_counts_29, s_M_counts_31, s_M_counts_32, s_M_counts_35, s_M_counts_36, s_M_counts_39, s_M_counts_40, s_M_counts_41, s_M_counts_43, s_M_counts_46, s_M_counts_47, s_M_counts_50, s_M_counts_51, s_M_counts_54, s_M_counts_56, s_M_counts_57, s_M_counts_58, Option.bind_some, Option.bind_none, Option.toList_some, Option.toList_none, List.cons_append, List.nil_append, if_true, if_false, rz_clr, true_or, or_true, z00, z11, bZ_eq0, bZ_eq1, nor_self, if_pos, if_neg, zI_add, zI_sub, zI_mul, zI_neg, zI_lt, zI_le, zI_eq, c_M, f_M_0, u_M_0, f_M_1, u_M_1, f_M_2, l_M_2, r_M_2, w_M_2, f_M_3, u_M_3, f_M_4, u_M_4, f_M_5, u_M_5, f_M_6, u_M_6, f_M_7, u_M_7, f_M_8, u_M_8, f_M_9, l_M_9, r_M_9, w_M_9, f_M_10, l_M_10, r_M_10, w_M_10, f_M_11, l_M_11, r_M_11, w_M_11, f_M_12, l_M_12, r_M_12, w_M_12, f_M_13, l_M_13, r_M_13, w_M_13, f_M_14, l_M_14, r_M_14, w_M_14, f_M_15, l_M_15, r_M_15, w_M_15, f_M_16, l_M_16, r_M_16, w_M_16, f_M_17, l_M_17, r_M_17, w_M_17, f_M_18, l_M_18, r_M_18, w_M_18, sset_eq, gset_at, gset_gset, gset_ne, pset_eq, pset_ne, pset_pset, s5', s6', s5'']
    · unfold goOnW
      rw [if_pos c]
      exact ⟨r1, r2, r3, rfl, rfl, rfl, r7⟩
  · refine ⟨zup (zup (zup (σ 10 10) (7 : Int).toNat (-9)) (5 : Int).toNat (q 4 0 + 1)) (6 : Int).toNat (q 5 0), ?_, ?_⟩
    · by_cases c1 : q 5 0 = 0
      · have c2 : ¬ q 4 0 + 1 = 99 := by omega
        simp (disch := first | omega | exact Nat.le_of_ble_eq_true rfl) only [e_M_counts, s_M_counts_0, s_M_counts_1, s_M_counts_4, s_M_counts_6, s_M_counts_8, s_M_counts_9, s_M_counts_10, s_M_counts_13, s_M_counts_14, s_M_counts_15, s_M_counts_16, s_M_counts_17, s_M_counts_18, s_M_counts_19, s_M_counts_20, s_M_counts_23, s_M_counts_25, s_M_counts_26, s_M_counts_29, s_M_counts_31, s_M_counts_32, s_M_counts_35, s_M_counts_36, s_M_counts_39, s_M_counts_40, s_M_counts_41, s_M_counts_43, s_M_counts_46, s_M_counts_47, s_M_counts_50, s_M_counts_51, s_M_counts_54, s_M_counts_56, s_M_counts_57, s_M_counts_58, Option.bind_some, Option.bind_none, Option.toList_some, Option.toList_none, List.cons_append, List.nil_append, if_true, if_false, rz_clr, true_or, or_true, z00, z11, bZ_eq0, bZ_eq1, nor_self, if_pos, if_neg, zI_add, zI_sub, zI_mul, zI_neg, zI_lt, zI_le, zI_eq, c_M, f_M_0, u_M_0, f_M_1, u_M_1, f_M_2, l_M_2, r_M_2, w_M_2, f_M_3, u_M_3, f_M_4, u_M_4, f_M_5, u_M_5, f_M_6, u_M_6, f_M_7, u_M_7, f_M_8, u_M_8, f_M_9, l_M_9, r_M_9, w_M_9, f_M_10, l_M_10, r_M_10, w_M_10, f_M_11, l_M_11, r_M_11, w_M_11, f_M_12, l_M_12, r_M_12, w_M_12, f_M_13, l_M_13, r_M_13, w_M_13, f_M_14, l_M_14, r_M_14, w_M_14, f_M_15, l_M_15, r_M_15, w_M_15, f_M_16, l_M_16, r_M_16, w_M_16, f_M_17, l_M_17, r_M_17, w_M_17, f_M_18, l_M_18, r_M_18, w_M_18, sset_eq, gset_at, gset_gset, gset_ne, pset_eq, pset_ne, pset_pset, s5', s6', s5'']
      · simp (disch := first | omega | exact Nat.le_of_ble_eq_true rfl) only [e_M_counts, s_M_counts_0, s_M_counts_1, s_M_counts_4, s_M_counts_6, s_M_counts_8, s_M_counts_9, s_M_counts_10, s_M_counts_13, s_M_counts_14, s_M_counts_15, s_M_counts_16, s_M_counts_17, s_M_counts_18, s_M_counts_19, s_M_counts_20, s_M_counts_23, s_M_counts_25, s_M_counts_26, s_M_counts_29, s_M_counts_31, s_M_counts_32, s_M_counts_35, s_M_counts_36, s_M_counts_39, s_M_counts_40, s_M_counts_41, s_M_counts_43, s_M_counts_46, s_M_counts_47, s_M_counts_50, s_M_counts_51, s_M_counts_54, s_M_counts_56, s_M_counts_57, s_M_counts_58, Option.bind_some, Option.bind_none, Option.toList_some, Option.toList_none, List.cons_append, List.nil_append, if_true, if_false, rz_clr, true_or, or_true, z00, z11, bZ_eq0, bZ_eq1, nor_self, if_pos, if_neg, zI_add, zI_sub, zI_mul, zI_neg, zI_lt, zI_le, zI_eq, c_M, f_M_0, u_M_0, f_M_1, u_M_1, f_M_2, l_M_2, r_M_2, w_M_2, f_M_3, u_M_3, f_M_4, u_M_4, f_M_5, u_M_5, f_M_6, u_M_6, f_M_7, u_M_7, f_M_8, u_M_8, f_M_9, l_M_9, r_M_9, w_M_9, f_M_10, l_M_10, r_M_10, w_M_10, f_M_11, l_M_11, r_M_11, w_M_11, f_M_12, l_M_12, r_M_12, w_M_12, f_M_13, l_M_13, r_M_13, w_M_13, f_M_14, l_M_14, r_M_14, w_M_14, f_M_15, l_M_15, r_M_15, w_M_15, f_M_16, l_M_16, r_M_16, w_M_16, f_M_17, l_M_17, r_M_17, w_M_17, f_M_18, l_M_18, r_M_18, w_M_18, sset_eq, gset_at, gset_gset, gset_ne, pset_eq, pset_ne, pset_pset, s5', s6']
    · unfold goOnW
      rw [if_neg c]
      exact ⟨r1, r2, r3, rfl, rfl, rfl, r7⟩
end MC
