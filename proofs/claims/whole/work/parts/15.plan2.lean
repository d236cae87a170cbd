-- the plan's methods, second half
def ftP (p : zP) (c home : Int) : Int := if p 0 c.toNat = 1 then 3 else if c = home then 2 else if p 0 c.toNat = 2 then 1 else 0
/-- all of n from k on -/
def aB (f : Nat → Bool) : Nat → Nat → Bool
  | 0, _ => true
  | n + 1, k => f k && aB f n (k + 1)
theorem aB_iff (f : Nat → Bool) : ∀ (n k : Nat), aB f n k = true ↔ ∀ j, k ≤ j → j < k + n → f j = true := by
  intro n
  induction n with
  | zero => intro k; exact ⟨fun _ j h1 h2 => by omega, fun _ => rfl⟩
  | succ n ih =>
    intro k
    rw [aB, Bool.and_eq_true, ih]
    constructor
    · rintro ⟨h0, h1⟩ j h2 h3
      by_cases e : j = k
      · rw [e]; exact h0
      · exact h1 j (by omega) (by omega)
    · intro h
      exact ⟨h k (by omega) (by omega), fun j h2 h3 => h j (by omega) (by omega)⟩
def cN (f : Nat → Bool) : Nat → Nat
  | 0 => 0
  | k + 1 => if f k then cN f k + 1 else cN f k
theorem cN_le (f : Nat → Bool) (k : Nat) : cN f k ≤ k := by
  induction k with
  | zero => exact Nat.le_refl 0
  | succ k ih => rw [cN]; split <;> omega
def solF (p : zP) : Nat → Bool := fun c => decide (p 0 c ≠ 1) && decide (p 0 c ≠ 3)
def stayF (p : zP) (l c : Int) (cells : Nat) : Nat → Bool := fun k => decide (ldP p l c k = -9) || cells.testBit (ldP p l c k).toNat
def safF (p : zP) (l : Int) (cells : Nat) : Nat → Bool := fun c => cells.testBit c && aB (stayF p l c cells) 8 0
section PL2
variable {N g : Nat} {σ : zS}
theorem z_fateOn (d : Nat) (h1 : 7 ≤ g) (h2 : g ≤ 9) (hN : 48 ≤ N) (hw : wfP (σ g)) {c home : Int} (hc : 0 ≤ c ∧ c < 16) (hh : rg home) : rz_dM (d + 2) iP_fateOn [.ref (bs g), .int (zI c), .int (zI home)] (wOf N σ) = some (some (.int (zI (ftP (σ g) c home))), wOf N σ) := by
  obtain ⟨-, wc, -⟩ := hw
  have b := wc c.toNat (by omega)
  unfold ftP
  by_cases q1 : σ g 0 c.toNat = 1
  · simp (disch := first | omega | exact Nat.le_of_ble_eq_true rfl) only [e_P_fateOn, s_P_fateOn_0, s_P_fateOn_1, s_P_fateOn_4, s_P_fateOn_5, s_P_fateOn_8, s_P_fateOn_9, s_P_fateOn_10, s_P_fateOn_11, s_P_fateOn_14, s_P_fateOn_15, s_P_fateOn_16, s_P_fateOn_17, s_P_fateOn_18, s_P_fateOn_21, s_P_fateOn_22, s_P_fateOn_23, s_P_fateOn_24, s_P_fateOn_25, s_P_fateOn_28, s_P_fateOn_29, s_P_fateOn_32, s_P_fateOn_33, Option.bind_some, Option.bind_none, Option.toList_some, Option.toList_none, List.cons_append, List.nil_append, if_true, if_false, rz_clr, true_or, or_true, z00, z11, bZ_eq0, bZ_eq1, nor_self, if_pos, if_neg, zI_add, zI_sub, zI_mul, zI_neg, zI_lt, zI_le, zI_eq, c_P, f_P_0, l_P_0, r_P_0, w_P_0, f_P_1, l_P_1, r_P_1, w_P_1, f_P_2, l_P_2, r_P_2, w_P_2, f_P_3, l_P_3, r_P_3, w_P_3, f_P_4, l_P_4, r_P_4, w_P_4, f_P_5, l_P_5, r_P_5, w_P_5, f_P_6, l_P_6, r_P_6, w_P_6, f_P_7, l_P_7, r_P_7, w_P_7, f_P_8, u_P_8, f_P_9, u_P_9, f_P_10, u_P_10, a_P_0, p_P_0, a_P_1, p_P_1, a_P_2, p_P_2, a_P_3, p_P_3, a_P_4, p_P_4, a_P_5, p_P_5, a_P_6, p_P_6, a_P_7, p_P_7, gat_in]
  · by_cases q2 : c = home
    · simp (disch := first | omega | exact Nat.le_of_ble_eq_true rfl) only [e_P_fateOn, s_P_fateOn_0, s_P_fateOn_1, s_P_fateOn_4, s_P_fateOn_5, s_P_fateOn_8, s_P_fateOn_9, s_P_fateOn_10, s_P_fateOn_11, s_P_fateOn_14, s_P_fateOn_15, s_P_fateOn_16, s_P_fateOn_17, s_P_fateOn_18, s_P_fateOn_21, s_P_fateOn_22, s_P_fateOn_23, s_P_fateOn_24, s_P_fateOn_25, s_P_fateOn_28, s_P_fateOn_29, s_P_fateOn_32, s_P_fateOn_33, Option.bind_some, Option.bind_none, Option.toList_some, Option.toList_none, List.cons_append, List.nil_append, if_true, if_false, rz_clr, true_or, or_true, z00, z11, bZ_eq0, bZ_eq1, nor_self, if_pos, if_neg, zI_add, zI_sub, zI_mul, zI_neg, zI_lt, zI_le, zI_eq, c_P, f_P_0, l_P_0, r_P_0, w_P_0, f_P_1, l_P_1, r_P_1, w_P_1, f_P_2, l_P_2, r_P_2, w_P_2, f_P_3, l_P_3, r_P_3, w_P_3, f_P_4, l_P_4, r_P_4, w_P_4, f_P_5, l_P_5, r_P_5, w_P_5, f_P_6, l_P_6, r_P_6, w_P_6, f_P_7, l_P_7, r_P_7, w_P_7, f_P_8, u_P_8, f_P_9, u_P_9, f_P_10, u_P_10, a_P_0, p_P_0, a_P_1, p_P_1, a_P_2, p_P_2, a_P_3, p_P_3, a_P_4, p_P_4, a_P_5, p_P_5, a_P_6, p_P_6, a_P_7, p_P_7, gat_in]
    · by_cases q3 : σ g 0 c.toNat = 2
      · simp (disch := first | omega | exact Nat.le_of_ble_eq_true rfl) only [e_P_fateOn, s_P_fateOn_0, s_P_fateOn_1, s_P_fateOn_4, s_P_fateOn_5, s_P_fateOn_8, s_P_fateOn_9, s_P_fateOn_10, s_P_fateOn_11, s_P_fateOn_14, s_P_fateOn_15, s_P_fateOn_16, s_P_fateOn_17, s_P_fateOn_18, s_P_fateOn_21, s_P_fateOn_22, s_P_fateOn_23, s_P_fateOn_24, s_P_fateOn_25, s_P_fateOn_28, s_P_fateOn_29, s_P_fateOn_32, s_P_fateOn_33, Option.bind_some, Option.bind_none, Option.toList_some, Option.toList_none, List.cons_append, List.nil_append, if_true, if_false, rz_clr, true_or, or_true, z00, z11, bZ_eq0, bZ_eq1, nor_self, if_pos, if_neg, zI_add, zI_sub, zI_mul, zI_neg, zI_lt, zI_le, zI_eq, c_P, f_P_0, l_P_0, r_P_0, w_P_0, f_P_1, l_P_1, r_P_1, w_P_1, f_P_2, l_P_2, r_P_2, w_P_2, f_P_3, l_P_3, r_P_3, w_P_3, f_P_4, l_P_4, r_P_4, w_P_4, f_P_5, l_P_5, r_P_5, w_P_5, f_P_6, l_P_6, r_P_6, w_P_6, f_P_7, l_P_7, r_P_7, w_P_7, f_P_8, u_P_8, f_P_9, u_P_9, f_P_10, u_P_10, a_P_0, p_P_0, a_P_1, p_P_1, a_P_2, p_P_2, a_P_3, p_P_3, a_P_4, p_P_4, a_P_5, p_P_5, a_P_6, p_P_6, a_P_7, p_P_7, gat_in]
      · simp (disch := first | omega | exact Nat.le_of_ble_eq_true rfl) only [e_P_fateOn, s_P_fateOn_0, s_P_fateOn_1, s_P_fateOn_4, s_P_fateOn_5, s_P_fateOn_8, s_P_fateOn_9, s_P_fateOn_10, s_P_fateOn_11, s_P_fateOn_14, s_P_fateOn_15, s_P_fateOn_16, s_P_fateOn_17, s_P_fateOn_18, s_P_fateOn_21, s_P_fateOn_22, s_P_fateOn_23, s_P_fateOn_24, s_P_fateOn_25, s_P_fateOn_28, s_P_fateOn_29, s_P_fateOn_32, s_P_fateOn_33, Option.bind_some, Option.bind_none, Option.toList_some, Option.toList_none, List.cons_append, List.nil_append, if_true, if_false, rz_clr, true_or, or_true, z00, z11, bZ_eq0, bZ_eq1, nor_self, if_pos, if_neg, zI_add, zI_sub, zI_mul, zI_neg, zI_lt, zI_le, zI_eq, c_P, f_P_0, l_P_0, r_P_0, w_P_0, f_P_1, l_P_1, r_P_1, w_P_1, f_P_2, l_P_2, r_P_2, w_P_2, f_P_3, l_P_3, r_P_3, w_P_3, f_P_4, l_P_4, r_P_4, w_P_4, f_P_5, l_P_5, r_P_5, w_P_5, f_P_6, l_P_6, r_P_6, w_P_6, f_P_7, l_P_7, r_P_7, w_P_7, f_P_8, u_P_8, f_P_9, u_P_9, f_P_10, u_P_10, a_P_0, p_P_0, a_P_1, p_P_1, a_P_2, p_P_2, a_P_3, p_P_3, a_P_4, p_P_4, a_P_5, p_P_5, a_P_6, p_P_6, a_P_7, p_P_7, gat_in]
theorem z_cellsThatAre_lp (d : Nat) (h1 : 7 ≤ g) (h2 : g ≤ 9) (hN : 48 ≤ N) (hw : wfP (σ g)) {kd : Int} (hk9 : rg kd) {a : Nat} (hA : σ g 8 0 * σ g 9 0 = a) : ∀ (n k : Nat), n + k = a → rz_den (rz_dM (d + 1)) (rz_at tb_X0_cellsThatAre) (some .int) 4 [some (.ref (bs g)), some (.int (zI kd)), some (.int (zI (cN (fun c => decide (σ g 0 c = kd)) k : Nat))), some (.int (zI k))] [] (wOf N σ) = some (some (.int (zI (cN (fun c => decide (σ g 0 c = kd)) a : Nat))), wOf N σ) := by
  have ha := wfP_area hw
  obtain ⟨-, wc, -⟩ := hw
  intro n
  induction n with
  | zero =>
    intro k hk
    obtain rfl : k = a := by omega
    rw [s_P_cellsThatAre_4]
    simp (disch := first | omega | exact Nat.le_of_ble_eq_true rfl) only [e_P_cellsThatAre, s_P_cellsThatAre_0, s_P_cellsThatAre_1, s_P_cellsThatAre_2, s_P_cellsThatAre_3, s_P_cellsThatAre_5, s_P_cellsThatAre_6, s_P_cellsThatAre_9, s_P_cellsThatAre_10, s_P_cellsThatAre_13, s_P_cellsThatAre_14, s_P_cellsThatAre_17, s_P_cellsThatAre_18, s_P_cellsThatAre_21, s_P_cellsThatAre_22, s_P_cellsThatAre_25, s_P_cellsThatAre_26, s_P_cellsThatAre_29, s_P_cellsThatAre_32, s_P_cellsThatAre_35, s_P_cellsThatAre_38, s_P_cellsThatAre_39, Option.bind_some, Option.bind_none, Option.toList_some, Option.toList_none, List.cons_append, List.nil_append, if_true, if_false, rz_clr, true_or, or_true, z00, z11, bZ_eq0, bZ_eq1, nor_self, if_pos, if_neg, zI_add, zI_sub, zI_mul, zI_neg, zI_lt, zI_le, zI_eq, c_P, f_P_0, l_P_0, r_P_0, w_P_0, f_P_1, l_P_1, r_P_1, w_P_1, f_P_2, l_P_2, r_P_2, w_P_2, f_P_3, l_P_3, r_P_3, w_P_3, f_P_4, l_P_4, r_P_4, w_P_4, f_P_5, l_P_5, r_P_5, w_P_5, f_P_6, l_P_6, r_P_6, w_P_6, f_P_7, l_P_7, r_P_7, w_P_7, f_P_8, u_P_8, f_P_9, u_P_9, f_P_10, u_P_10]
  | succ n ih =>
    intro k hk
    have ih' := ih (k + 1) (by omega)
    simp only [Int.natCast_add, Int.natCast_one] at ih'
    have b := wc k (by omega)
    have e0 : ((k : Int)).toNat = k := Int.toNat_natCast k
    have hc := cN_le (fun c => decide (σ g 0 c = kd)) k
    rw [s_P_cellsThatAre_4]
    by_cases q : σ g 0 k = kd
    · have e : cN (fun c => decide (σ g 0 c = kd)) (k + 1) = cN (fun c => decide (σ g 0 c = kd)) k + 1 := if_pos (by simp [q])
      rw [e] at ih'
      simp only [Int.natCast_add, Int.natCast_one] at ih'
      simp (disch := first | omega | exact Nat.le_of_ble_eq_true rfl) only [e_P_cellsThatAre, s_P_cellsThatAre_0, s_P_cellsThatAre_1, s_P_cellsThatAre_2, s_P_cellsThatAre_3, s_P_cellsThatAre_5, s_P_cellsThatAre_6, s_P_cellsThatAre_9, s_P_cellsThatAre_10, s_P_cellsThatAre_13, s_P_cellsThatAre_14, s_P_cellsThatAre_17, s_P_cellsThatAre_18, s_P_cellsThatAre_21, s_P_cellsThatAre_22, s_P_cellsThatAre_25, s_P_cellsThatAre_26, s_P_cellsThatAre_29, s_P_cellsThatAre_32, s_P_cellsThatAre_35, s_P_cellsThatAre_38, s_P_cellsThatAre_39, Option.bind_some, Option.bind_none, Option.toList_some, Option.toList_none, List.cons_append, List.nil_append, if_true, if_false, rz_clr, true_or, or_true, z00, z11, bZ_eq0, bZ_eq1, nor_self, if_pos, if_neg, zI_add, zI_sub, zI_mul, zI_neg, zI_lt, zI_le, zI_eq, c_P, f_P_0, l_P_0, r_P_0, w_P_0, f_P_1, l_P_1, r_P_1, w_P_1, f_P_2, l_P_2, r_P_2, w_P_2, f_P_3, l_P_3, r_P_3, w_P_3, f_P_4, l_P_4, r_P_4, w_P_4, f_P_5, l_P_5, r_P_5, w_P_5, f_P_6, l_P_6, r_P_6, w_P_6, f_P_7, l_P_7, r_P_7, w_P_7, f_P_8, u_P_8, f_P_9, u_P_9, f_P_10, u_P_10, a_P_0, p_P_0, a_P_1, p_P_1, a_P_2, p_P_2, a_P_3, p_P_3, a_P_4, p_P_4, a_P_5, p_P_5, a_P_6, p_P_6, a_P_7, p_P_7, gat_in, e0, ih']
    · have e : cN (fun c => decide (σ g 0 c = kd)) (k + 1) = cN (fun c => decide (σ g 0 c = kd)) k := if_neg (by simp [q])
      rw [e] at ih'
      simp (disch := first | omega | exact Nat.le_of_ble_eq_true rfl) only [e_P_cellsThatAre, s_P_cellsThatAre_0, s_P_cellsThatAre_1, s_P_cellsThatAre_2, s_P_cellsThatAre_3, s_P_cellsThatAre_5, s_P_cellsThatAre_6, s_P_cellsThatAre_9, s_P_cellsThatAre_10, s_P_cellsThatAre_13, s_P_cellsThatAre_14, s_P_cellsThatAre_17, s_P_cellsThatAre_18, s_P_cellsThatAre_21, s_P_cellsThatAre_22, s_P_cellsThatAre_25, s_P_cellsThatAre_26, s_P_cellsThatAre_29, s_P_cellsThatAre_32, s_P_cellsThatAre_35, s_P_cellsThatAre_38, s_P_cellsThatAre_39, Option.bind_some, Option.bind_none, Option.toList_some, Option.toList_none, List.cons_append, List.nil_append, if_true, if_false, rz_clr, true_or, or_true, z00, z11, bZ_eq0, bZ_eq1, nor_self, if_pos, if_neg, zI_add, zI_sub, zI_mul, zI_neg, zI_lt, zI_le, zI_eq, c_P, f_P_0, l_P_0, r_P_0, w_P_0, f_P_1, l_P_1, r_P_1, w_P_1, f_P_2, l_P_2, r_P_2, w_P_2, f_P_3, l_P_3, r_P_3, w_P_3, f_P_4, l_P_4, r_P_4, w_P_4, f_P_5, l_P_5, r_P_5, w_P_5, f_P_6, l_P_6, r_P_6, w_P_6, f_P_7, l_P_7, r_P_7, w_P_7, f_P_8, u_P_8, f_P_9, u_P_9, f_P_10, u_P_10, a_P_0, p_P_0, a_P_1, p_P_1, a_P_2, p_P_2, a_P_3, p_P_3, a_P_4, p_P_4, a_P_5, p_P_5, a_P_6, p_P_6, a_P_7, p_P_7, gat_in, e0, ih']
theorem z_cellsThatAre (d : Nat) (h1 : 7 ≤ g) (h2 : g ≤ 9) (hN : 48 ≤ N) (hw : wfP (σ g)) {kd : Int} (hk9 : rg kd) : rz_dM (d + 2) iP_cellsThatAre [.ref (bs g), .int (zI kd)] (wOf N σ) = some (some (.int (zI (cN (fun c => decide (σ g 0 c = kd)) (σ g 8 0 * σ g 9 0).toNat : Nat))), wOf N σ) := by
  have ha := wfP_area hw
  have h := z_cellsThatAre_lp (σ := σ) d h1 h2 hN hw hk9 (a := (σ g 8 0 * σ g 9 0).toNat) (by omega) _ 0 (Nat.add_zero _)
  simp only [show cN (fun c => decide (σ g 0 c = kd)) 0 = 0 from rfl, Int.natCast_zero] at h
  simp (disch := first | omega | exact Nat.le_of_ble_eq_true rfl) only [e_P_cellsThatAre, s_P_cellsThatAre_0, s_P_cellsThatAre_1, s_P_cellsThatAre_2, s_P_cellsThatAre_3, s_P_cellsThatAre_5, s_P_cellsThatAre_6, s_P_cellsThatAre_9, s_P_cellsThatAre_10, s_P_cellsThatAre_13, s_P_cellsThatAre_14, s_P_cellsThatAre_17, s_P_cellsThatAre_18, s_P_cellsThatAre_21, s_P_cellsThatAre_22, s_P_cellsThatAre_25, s_P_cellsThatAre_26, s_P_cellsThatAre_29, s_P_cellsThatAre_32, s_P_cellsThatAre_35, s_P_cellsThatAre_38, s_P_cellsThatAre_39, Option.bind_some, Option.bind_none, Option.toList_some, Option.toList_none, List.cons_append, List.nil_append, if_true, if_false, rz_clr, true_or, or_true, z00, z11, bZ_eq0, bZ_eq1, nor_self, if_pos, if_neg, zI_add, zI_sub, zI_mul, zI_neg, zI_lt, zI_le, zI_eq, h]
theorem z_solidCells_lp (d : Nat) (h1 : 7 ≤ g) (h2 : g ≤ 9) (hN : 48 ≤ N) (hw : wfP (σ g)) {a : Nat} (hA : σ g 8 0 * σ g 9 0 = a) : ∀ (n k : Nat), n + k = a → ∀ l3, rz_den (rz_dM (d + 1)) (rz_at tb_X0_solidCells) (some .int) 4 [some (.ref (bs g)), some (.int (zI (oS (solF (σ g)) k : Nat))), some (.int (zI k)), l3] [] (wOf N σ) = some (some (.int (zI (oS (solF (σ g)) a : Nat))), wOf N σ) := by
  have ha := wfP_area hw
  obtain ⟨-, wc, -⟩ := hw
  intro n
  induction n with
  | zero =>
    intro k hk l3
    obtain rfl : k = a := by omega
    rw [s_P_solidCells_4]
    simp (disch := first | omega | exact Nat.le_of_ble_eq_true rfl) only [e_P_solidCells, s_P_solidCells_0, s_P_solidCells_1, s_P_solidCells_2, s_P_solidCells_3, s_P_solidCells_5, s_P_solidCells_6, s_P_solidCells_9, s_P_solidCells_10, s_P_solidCells_13, s_P_solidCells_14, s_P_solidCells_17, s_P_solidCells_18, s_P_solidCells_21, s_P_solidCells_22, s_P_solidCells_25, s_P_solidCells_26, s_P_solidCells_27, s_P_solidCells_28, s_P_solidCells_31, s_P_solidCells_32, s_P_solidCells_33, s_P_solidCells_36, s_P_solidCells_37, s_P_solidCells_38, s_P_solidCells_39, s_P_solidCells_40, s_P_solidCells_41, s_P_solidCells_42, s_P_solidCells_45, s_P_solidCells_48, s_P_solidCells_49, Option.bind_some, Option.bind_none, Option.toList_some, Option.toList_none, List.cons_append, List.nil_append, if_true, if_false, rz_clr, true_or, or_true, z00, z11, bZ_eq0, bZ_eq1, nor_self, if_pos, if_neg, zI_add, zI_sub, zI_mul, zI_neg, zI_lt, zI_le, zI_eq, c_P, f_P_0, l_P_0, r_P_0, w_P_0, f_P_1, l_P_1, r_P_1, w_P_1, f_P_2, l_P_2, r_P_2, w_P_2, f_P_3, l_P_3, r_P_3, w_P_3, f_P_4, l_P_4, r_P_4, w_P_4, f_P_5, l_P_5, r_P_5, w_P_5, f_P_6, l_P_6, r_P_6, w_P_6, f_P_7, l_P_7, r_P_7, w_P_7, f_P_8, u_P_8, f_P_9, u_P_9, f_P_10, u_P_10]
  | succ n ih =>
    intro k hk l3
    have ih' := ih (k + 1) (by omega)
    simp only [Int.natCast_add, Int.natCast_one] at ih'
    have b := wc k (by omega)
    have e0 : ((k : Int)).toNat = k := Int.toNat_natCast k
    have hb := oS_lt (solF (σ g)) k
    have hb2 : 2 ^ k ≤ 2 ^ 16 := Nat.pow_le_pow_right (by decide) (by omega)
    rw [s_P_solidCells_4]
    by_cases q1 : σ g 0 k = 1
    · have e : oS (solF (σ g)) (k + 1) = oS (solF (σ g)) k := if_neg (by simp [solF, q1])
      rw [e] at ih'
      simp (disch := first | omega | exact Nat.le_of_ble_eq_true rfl) only [e_P_solidCells, s_P_solidCells_0, s_P_solidCells_1, s_P_solidCells_2, s_P_solidCells_3, s_P_solidCells_5, s_P_solidCells_6, s_P_solidCells_9, s_P_solidCells_10, s_P_solidCells_13, s_P_solidCells_14, s_P_solidCells_17, s_P_solidCells_18, s_P_solidCells_21, s_P_solidCells_22, s_P_solidCells_25, s_P_solidCells_26, s_P_solidCells_27, s_P_solidCells_28, s_P_solidCells_31, s_P_solidCells_32, s_P_solidCells_33, s_P_solidCells_36, s_P_solidCells_37, s_P_solidCells_38, s_P_solidCells_39, s_P_solidCells_40, s_P_solidCells_41, s_P_solidCells_42, s_P_solidCells_45, s_P_solidCells_48, s_P_solidCells_49, Option.bind_some, Option.bind_none, Option.toList_some, Option.toList_none, List.cons_append, List.nil_append, if_true, if_false, rz_clr, true_or, or_true, z00, z11, bZ_eq0, bZ_eq1, nor_self, if_pos, if_neg, zI_add, zI_sub, zI_mul, zI_neg, zI_lt, zI_le, zI_eq, c_P, f_P_0, l_P_0, r_P_0, w_P_0, f_P_1, l_P_1, r_P_1, w_P_1, f_P_2, l_P_2, r_P_2, w_P_2, f_P_3, l_P_3, r_P_3, w_P_3, f_P_4, l_P_4, r_P_4, w_P_4, f_P_5, l_P_5, r_P_5, w_P_5, f_P_6, l_P_6, r_P_6, w_P_6, f_P_7, l_P_7, r_P_7, w_P_7, f_P_8, u_P_8, f_P_9, u_P_9, f_P_10, u_P_10, a_P_0, p_P_0, a_P_1, p_P_1, a_P_2, p_P_2, a_P_3, p_P_3, a_P_4, p_P_4, a_P_5, p_P_5, a_P_6, p_P_6, a_P_7, p_P_7, gat_in, e0, ih']
    · by_cases q2 : σ g 0 k = 3
      · have e : oS (solF (σ g)) (k + 1) = oS (solF (σ g)) k := if_neg (by simp [solF, q2])
        rw [e] at ih'
        simp (disch := first | omega | exact Nat.le_of_ble_eq_true rfl) only [e_P_solidCells, s_P_solidCells_0, s_P_solidCells_1, s_P_solidCells_2, s_P_solidCells_3, s_P_solidCells_5, s_P_solidCells_6, s_P_solidCells_9, s_P_solidCells_10, s_P_solidCells_13, s_P_solidCells_14, s_P_solidCells_17, s_P_solidCells_18, s_P_solidCells_21, s_P_solidCells_22, s_P_solidCells_25, s_P_solidCells_26, s_P_solidCells_27, s_P_solidCells_28, s_P_solidCells_31, s_P_solidCells_32, s_P_solidCells_33, s_P_solidCells_36, s_P_solidCells_37, s_P_solidCells_38, s_P_solidCells_39, s_P_solidCells_40, s_P_solidCells_41, s_P_solidCells_42, s_P_solidCells_45, s_P_solidCells_48, s_P_solidCells_49, Option.bind_some, Option.bind_none, Option.toList_some, Option.toList_none, List.cons_append, List.nil_append, if_true, if_false, rz_clr, true_or, or_true, z00, z11, bZ_eq0, bZ_eq1, nor_self, if_pos, if_neg, zI_add, zI_sub, zI_mul, zI_neg, zI_lt, zI_le, zI_eq, c_P, f_P_0, l_P_0, r_P_0, w_P_0, f_P_1, l_P_1, r_P_1, w_P_1, f_P_2, l_P_2, r_P_2, w_P_2, f_P_3, l_P_3, r_P_3, w_P_3, f_P_4, l_P_4, r_P_4, w_P_4, f_P_5, l_P_5, r_P_5, w_P_5, f_P_6, l_P_6, r_P_6, w_P_6, f_P_7, l_P_7, r_P_7, w_P_7, f_P_8, u_P_8, f_P_9, u_P_9, f_P_10, u_P_10, a_P_0, p_P_0, a_P_1, p_P_1, a_P_2, p_P_2, a_P_3, p_P_3, a_P_4, p_P_4, a_P_5, p_P_5, a_P_6, p_P_6, a_P_7, p_P_7, gat_in, e0, ih']
      · have e : oS (solF (σ g)) (k + 1) = oS (solF (σ g)) k ||| 2 ^ k := if_pos (by simp [solF, q1, q2])
        rw [e] at ih'
        simp (disch := first | omega | exact Nat.le_of_ble_eq_true rfl) only [e_P_solidCells, s_P_solidCells_0, s_P_solidCells_1, s_P_solidCells_2, s_P_solidCells_3, s_P_solidCells_5, s_P_solidCells_6, s_P_solidCells_9, s_P_solidCells_10, s_P_solidCells_13, s_P_solidCells_14, s_P_solidCells_17, s_P_solidCells_18, s_P_solidCells_21, s_P_solidCells_22, s_P_solidCells_25, s_P_solidCells_26, s_P_solidCells_27, s_P_solidCells_28, s_P_solidCells_31, s_P_solidCells_32, s_P_solidCells_33, s_P_solidCells_36, s_P_solidCells_37, s_P_solidCells_38, s_P_solidCells_39, s_P_solidCells_40, s_P_solidCells_41, s_P_solidCells_42, s_P_solidCells_45, s_P_solidCells_48, s_P_solidCells_49, Option.bind_some, Option.bind_none, Option.toList_some, Option.toList_none, List.cons_append, List.nil_append, if_true, if_false, rz_clr, true_or, or_true, z00, z11, bZ_eq0, bZ_eq1, nor_self, if_pos, if_neg, zI_add, zI_sub, zI_mul, zI_neg, zI_lt, zI_le, zI_eq, c_P, f_P_0, l_P_0, r_P_0, w_P_0, f_P_1, l_P_1, r_P_1, w_P_1, f_P_2, l_P_2, r_P_2, w_P_2, f_P_3, l_P_3, r_P_3, w_P_3, f_P_4, l_P_4, r_P_4, w_P_4, f_P_5, l_P_5, r_P_5, w_P_5, f_P_6, l_P_6, r_P_6, w_P_6, f_P_7, l_P_7, r_P_7, w_P_7, f_P_8, u_P_8, f_P_9, u_P_9, f_P_10, u_P_10, a_P_0, p_P_0, a_P_1, p_P_1, a_P_2, p_P_2, a_P_3, p_P_3, a_P_4, p_P_4, a_P_5, p_P_5, a_P_6, p_P_6, a_P_7, p_P_7, gat_in, e0, z_shl, z_or, ih']
theorem z_solidCells (d : Nat) (h1 : 7 ≤ g) (h2 : g ≤ 9) (hN : 48 ≤ N) (hw : wfP (σ g)) : rz_dM (d + 2) iP_solidCells [.ref (bs g)] (wOf N σ) = some (some (.int (zI (oS (solF (σ g)) (σ g 8 0 * σ g 9 0).toNat : Nat))), wOf N σ) := by
  have ha := wfP_area hw
  have h := z_solidCells_lp (σ := σ) d h1 h2 hN hw (a := (σ g 8 0 * σ g 9 0).toNat) (by omega) _ 0 (Nat.add_zero _)
  simp only [show oS (solF (σ g)) 0 = 0 from rfl, Int.natCast_zero] at h
  simp (disch := first | omega | exact Nat.le_of_ble_eq_true rfl) only [e_P_solidCells, s_P_solidCells_0, s_P_solidCells_1, s_P_solidCells_2, s_P_solidCells_3, s_P_solidCells_5, s_P_solidCells_6, s_P_solidCells_9, s_P_solidCells_10, s_P_solidCells_13, s_P_solidCells_14, s_P_solidCells_17, s_P_solidCells_18, s_P_solidCells_21, s_P_solidCells_22, s_P_solidCells_25, s_P_solidCells_26, s_P_solidCells_27, s_P_solidCells_28, s_P_solidCells_31, s_P_solidCells_32, s_P_solidCells_33, s_P_solidCells_36, s_P_solidCells_37, s_P_solidCells_38, s_P_solidCells_39, s_P_solidCells_40, s_P_solidCells_41, s_P_solidCells_42, s_P_solidCells_45, s_P_solidCells_48, s_P_solidCells_49, Option.bind_some, Option.bind_none, Option.toList_some, Option.toList_none, List.cons_append, List.nil_append, if_true, if_false, rz_clr, true_or, or_true, z00, z11, bZ_eq0, bZ_eq1, nor_self, if_pos, if_neg, zI_add, zI_sub, zI_mul, zI_neg, zI_lt, zI_le, zI_eq, h]
theorem z_staysWithin_lp (d : Nat) (h1 : 7 ≤ g) (h2 : g ≤ 9) (hN : 48 ≤ N) (hw : wfP (σ g)) (hl : lkP (σ g)) {l c : Int} (hll : rg l) (hc : 0 ≤ c ∧ c < σ g 8 0 * σ g 9 0) {cells : Nat} (hcl : cells < 65536) : ∀ (n k : Nat), n + k = 8 → ∀ l5, rz_den (rz_dM (d + 2)) (rz_at tb_X0_staysWithin) (some .boolean) 3 [some (.ref (bs g)), some (.int (zI l)), some (.int (zI c)), some (.int (zI cells)), some (.int (zI k)), l5] [] (wOf N σ) = some (some (.int (zI (bZ (aB (stayF (σ g) l c cells) n k = true)))), wOf N σ) := by
  have ha := wfP_area hw
  intro n
  induction n with
  | zero =>
    intro k hk l5
    obtain rfl : k = 8 := by omega
    rw [s_P_staysWithin_3, bZ_pos (show aB (stayF (σ g) l c cells) 0 8 = true from rfl)]
    simp (disch := first | omega | exact Nat.le_of_ble_eq_true rfl) only [e_P_staysWithin, s_P_staysWithin_0, s_P_staysWithin_1, s_P_staysWithin_5, s_P_staysWithin_7, s_P_staysWithin_10, s_P_staysWithin_11, s_P_staysWithin_12, s_P_staysWithin_13, s_P_staysWithin_15, s_P_staysWithin_18, s_P_staysWithin_20, s_P_staysWithin_22, s_P_staysWithin_24, s_P_staysWithin_27, s_P_staysWithin_28, s_P_staysWithin_30, s_P_staysWithin_33, s_P_staysWithin_36, s_P_staysWithin_37, s_P_staysWithin_38, s_P_staysWithin_41, s_P_staysWithin_44, s_P_staysWithin_45, Option.bind_some, Option.bind_none, Option.toList_some, Option.toList_none, List.cons_append, List.nil_append, if_true, if_false, rz_clr, true_or, or_true, z00, z11, bZ_eq0, bZ_eq1, nor_self, if_pos, if_neg, zI_add, zI_sub, zI_mul, zI_neg, zI_lt, zI_le, zI_eq]
  | succ n ih =>
    intro k hk l5
    have ih' := ih (k + 1) (by omega)
    simp only [Int.natCast_add, Int.natCast_one] at ih'
    have hr := ldP_rg hw hl (l := l) hc (k := k) (by omega)
    have e0 : ((k : Int)).toNat = k := Int.toNat_natCast k
    rw [s_P_staysWithin_3]
    by_cases q1 : ldP (σ g) l c k = -9
    · have e : aB (stayF (σ g) l c cells) (n + 1) k = aB (stayF (σ g) l c cells) n (k + 1) := by simp [aB, stayF, q1]
      rw [e]
      simp (disch := first | omega | exact Nat.le_of_ble_eq_true rfl) only [e_P_staysWithin, s_P_staysWithin_0, s_P_staysWithin_1, s_P_staysWithin_5, s_P_staysWithin_7, s_P_staysWithin_10, s_P_staysWithin_11, s_P_staysWithin_12, s_P_staysWithin_13, s_P_staysWithin_15, s_P_staysWithin_18, s_P_staysWithin_20, s_P_staysWithin_22, s_P_staysWithin_24, s_P_staysWithin_27, s_P_staysWithin_28, s_P_staysWithin_30, s_P_staysWithin_33, s_P_staysWithin_36, s_P_staysWithin_37, s_P_staysWithin_38, s_P_staysWithin_41, s_P_staysWithin_44, s_P_staysWithin_45, Option.bind_some, Option.bind_none, Option.toList_some, Option.toList_none, List.cons_append, List.nil_append, if_true, if_false, rz_clr, true_or, or_true, z00, z11, bZ_eq0, bZ_eq1, nor_self, if_pos, if_neg, zI_add, zI_sub, zI_mul, zI_neg, zI_lt, zI_le, zI_eq, c_P, f_P_0, l_P_0, r_P_0, w_P_0, f_P_1, l_P_1, r_P_1, w_P_1, f_P_2, l_P_2, r_P_2, w_P_2, f_P_3, l_P_3, r_P_3, w_P_3, f_P_4, l_P_4, r_P_4, w_P_4, f_P_5, l_P_5, r_P_5, w_P_5, f_P_6, l_P_6, r_P_6, w_P_6, f_P_7, l_P_7, r_P_7, w_P_7, f_P_8, u_P_8, f_P_9, u_P_9, f_P_10, u_P_10, z_leadsTo, e0, q1, ih']
    · have hbit := fun w => z_hasBit (d + 1) (b := cells) (i := ldP (σ g) l c k) (by omega) (by omega) w
      by_cases q2 : cells.testBit (ldP (σ g) l c k).toNat = true
      · have e : aB (stayF (σ g) l c cells) (n + 1) k = aB (stayF (σ g) l c cells) n (k + 1) := by simp [aB, stayF, q2]
        rw [e]
        have q2' : (0 ≤ ldP (σ g) l c k ∧ ldP (σ g) l c k < 32 ∧ cells.testBit (ldP (σ g) l c k).toNat = true) := ⟨by omega, by omega, q2⟩
        simp (disch := first | omega | exact Nat.le_of_ble_eq_true rfl) only [e_P_staysWithin, s_P_staysWithin_0, s_P_staysWithin_1, s_P_staysWithin_5, s_P_staysWithin_7, s_P_staysWithin_10, s_P_staysWithin_11, s_P_staysWithin_12, s_P_staysWithin_13, s_P_staysWithin_15, s_P_staysWithin_18, s_P_staysWithin_20, s_P_staysWithin_22, s_P_staysWithin_24, s_P_staysWithin_27, s_P_staysWithin_28, s_P_staysWithin_30, s_P_staysWithin_33, s_P_staysWithin_36, s_P_staysWithin_37, s_P_staysWithin_38, s_P_staysWithin_41, s_P_staysWithin_44, s_P_staysWithin_45, Option.bind_some, Option.bind_none, Option.toList_some, Option.toList_none, List.cons_append, List.nil_append, if_true, if_false, rz_clr, true_or, or_true, z00, z11, bZ_eq0, bZ_eq1, nor_self, if_pos, if_neg, zI_add, zI_sub, zI_mul, zI_neg, zI_lt, zI_le, zI_eq, c_P, f_P_0, l_P_0, r_P_0, w_P_0, f_P_1, l_P_1, r_P_1, w_P_1, f_P_2, l_P_2, r_P_2, w_P_2, f_P_3, l_P_3, r_P_3, w_P_3, f_P_4, l_P_4, r_P_4, w_P_4, f_P_5, l_P_5, r_P_5, w_P_5, f_P_6, l_P_6, r_P_6, w_P_6, f_P_7, l_P_7, r_P_7, w_P_7, f_P_8, u_P_8, f_P_9, u_P_9, f_P_10, u_P_10, z_leadsTo, e0, hbit, bZ_pos q2', ih']
      · have e : aB (stayF (σ g) l c cells) (n + 1) k = false := by simp [aB, stayF, q1, q2]
        rw [e, bZ_neg (p := (false = true)) (by decide)]
        have q2' : ¬ (0 ≤ ldP (σ g) l c k ∧ ldP (σ g) l c k < 32 ∧ cells.testBit (ldP (σ g) l c k).toNat = true) := fun z => q2 z.2.2
        simp (disch := first | omega | exact Nat.le_of_ble_eq_true rfl) only [e_P_staysWithin, s_P_staysWithin_0, s_P_staysWithin_1, s_P_staysWithin_5, s_P_staysWithin_7, s_P_staysWithin_10, s_P_staysWithin_11, s_P_staysWithin_12, s_P_staysWithin_13, s_P_staysWithin_15, s_P_staysWithin_18, s_P_staysWithin_20, s_P_staysWithin_22, s_P_staysWithin_24, s_P_staysWithin_27, s_P_staysWithin_28, s_P_staysWithin_30, s_P_staysWithin_33, s_P_staysWithin_36, s_P_staysWithin_37, s_P_staysWithin_38, s_P_staysWithin_41, s_P_staysWithin_44, s_P_staysWithin_45, Option.bind_some, Option.bind_none, Option.toList_some, Option.toList_none, List.cons_append, List.nil_append, if_true, if_false, rz_clr, true_or, or_true, z00, z11, bZ_eq0, bZ_eq1, nor_self, if_pos, if_neg, zI_add, zI_sub, zI_mul, zI_neg, zI_lt, zI_le, zI_eq, c_P, f_P_0, l_P_0, r_P_0, w_P_0, f_P_1, l_P_1, r_P_1, w_P_1, f_P_2, l_P_2, r_P_2, w_P_2, f_P_3, l_P_3, r_P_3, w_P_3, f_P_4, l_P_4, r_P_4, w_P_4, f_P_5, l_P_5, r_P_5, w_P_5, f_P_6, l_P_6, r_P_6, w_P_6, f_P_7, l_P_7, r_P_7, w_P_7, f_P_8, u_P_8, f_P_9, u_P_9, f_P_10, u_P_10, z_leadsTo, e0, hbit, bZ_neg q2']
theorem z_staysWithin (d : Nat) (h1 : 7 ≤ g) (h2 : g ≤ 9) (hN : 48 ≤ N) (hw : wfP (σ g)) (hl : lkP (σ g)) {l c : Int} (hll : rg l) (hc : 0 ≤ c ∧ c < σ g 8 0 * σ g 9 0) {cells : Nat} (hcl : cells < 65536) : rz_dM (d + 3) iP_staysWithin [.ref (bs g), .int (zI l), .int (zI c), .int (zI cells)] (wOf N σ) = some (some (.int (zI (bZ (aB (stayF (σ g) l c cells) 8 0 = true)))), wOf N σ) := by
  have h := z_staysWithin_lp (σ := σ) d h1 h2 hN hw hl hll hc hcl 8 0 rfl
  simp only [Int.natCast_zero] at h
  simp (disch := first | omega | exact Nat.le_of_ble_eq_true rfl) only [e_P_staysWithin, s_P_staysWithin_0, s_P_staysWithin_1, s_P_staysWithin_5, s_P_staysWithin_7, s_P_staysWithin_10, s_P_staysWithin_11, s_P_staysWithin_12, s_P_staysWithin_13, s_P_staysWithin_15, s_P_staysWithin_18, s_P_staysWithin_20, s_P_staysWithin_22, s_P_staysWithin_24, s_P_staysWithin_27, s_P_staysWithin_28, s_P_staysWithin_30, s_P_staysWithin_33, s_P_staysWithin_36, s_P_staysWithin_37, s_P_staysWithin_38, s_P_staysWithin_41, s_P_staysWithin_44, s_P_staysWithin_45, Option.bind_some, Option.bind_none, Option.toList_some, Option.toList_none, List.cons_append, List.nil_append, if_true, if_false, rz_clr, true_or, or_true, z00, z11, bZ_eq0, bZ_eq1, nor_self, if_pos, if_neg, zI_add, zI_sub, zI_mul, zI_neg, zI_lt, zI_le, zI_eq, h]
theorem z_safeWithin_lp (d : Nat) (h1 : 7 ≤ g) (h2 : g ≤ 9) (hN : 48 ≤ N) (hw : wfP (σ g)) (hl : lkP (σ g)) {l : Int} (hll : rg l) {cells : Nat} (hcl : cells < 65536) {a : Nat} (hA : σ g 8 0 * σ g 9 0 = a) : ∀ (n k : Nat), n + k = a → rz_den (rz_dM (d + 3)) (rz_at tb_X0_safeWithin) (some .int) 5 [some (.ref (bs g)), some (.int (zI l)), some (.int (zI cells)), some (.int (zI (oS (safF (σ g) l cells) k : Nat))), some (.int (zI k))] [] (wOf N σ) = some (some (.int (zI (oS (safF (σ g) l cells) a : Nat))), wOf N σ) := by
  have ha := wfP_area hw
  intro n
  induction n with
  | zero =>
    intro k hk
    obtain rfl : k = a := by omega
    rw [s_P_safeWithin_5]
    simp (disch := first | omega | exact Nat.le_of_ble_eq_true rfl) only [e_P_safeWithin, s_P_safeWithin_0, s_P_safeWithin_1, s_P_safeWithin_2, s_P_safeWithin_3, s_P_safeWithin_7, s_P_safeWithin_8, s_P_safeWithin_11, s_P_safeWithin_12, s_P_safeWithin_15, s_P_safeWithin_16, s_P_safeWithin_19, s_P_safeWithin_20, s_P_safeWithin_22, s_P_safeWithin_25, s_P_safeWithin_28, s_P_safeWithin_29, s_P_safeWithin_30, s_P_safeWithin_32, s_P_safeWithin_33, s_P_safeWithin_36, s_P_safeWithin_39, s_P_safeWithin_40, s_P_safeWithin_41, s_P_safeWithin_43, s_P_safeWithin_44, s_P_safeWithin_45, s_P_safeWithin_46, s_P_safeWithin_49, s_P_safeWithin_52, s_P_safeWithin_53, Option.bind_some, Option.bind_none, Option.toList_some, Option.toList_none, List.cons_append, List.nil_append, if_true, if_false, rz_clr, true_or, or_true, z00, z11, bZ_eq0, bZ_eq1, nor_self, if_pos, if_neg, zI_add, zI_sub, zI_mul, zI_neg, zI_lt, zI_le, zI_eq, c_P, f_P_0, l_P_0, r_P_0, w_P_0, f_P_1, l_P_1, r_P_1, w_P_1, f_P_2, l_P_2, r_P_2, w_P_2, f_P_3, l_P_3, r_P_3, w_P_3, f_P_4, l_P_4, r_P_4, w_P_4, f_P_5, l_P_5, r_P_5, w_P_5, f_P_6, l_P_6, r_P_6, w_P_6, f_P_7, l_P_7, r_P_7, w_P_7, f_P_8, u_P_8, f_P_9, u_P_9, f_P_10, u_P_10]
  | succ n ih =>
    intro k hk
    have ih' := ih (k + 1) (by omega)
    simp only [Int.natCast_add, Int.natCast_one] at ih'
    have e0 : ((k : Int)).toNat = k := Int.toNat_natCast k
    have hb := oS_lt (safF (σ g) l cells) k
    have hb2 : 2 ^ k ≤ 2 ^ 16 := Nat.pow_le_pow_right (by decide) (by omega)
    have hbit := fun w => z_hasBit (d + 2) (b := cells) (i := k) (by omega) (by omega) w
    rw [s_P_safeWithin_5]
    by_cases q1 : cells.testBit k = true
    · have q1' : (0 ≤ (k : Int) ∧ (k : Int) < 32 ∧ cells.testBit (k : Int).toNat = true) := ⟨by omega, by omega, by rw [e0]; exact q1⟩
      have hst := z_staysWithin (σ := σ) d h1 h2 hN hw hl hll (c := k) (by omega) hcl
      by_cases q2 : aB (stayF (σ g) l k cells) 8 0 = true
      · have e : oS (safF (σ g) l cells) (k + 1) = oS (safF (σ g) l cells) k ||| 2 ^ k := if_pos (by simp [safF, q1, q2])
        rw [e] at ih'
        simp (disch := first | omega | exact Nat.le_of_ble_eq_true rfl) only [e_P_safeWithin, s_P_safeWithin_0, s_P_safeWithin_1, s_P_safeWithin_2, s_P_safeWithin_3, s_P_safeWithin_7, s_P_safeWithin_8, s_P_safeWithin_11, s_P_safeWithin_12, s_P_safeWithin_15, s_P_safeWithin_16, s_P_safeWithin_19, s_P_safeWithin_20, s_P_safeWithin_22, s_P_safeWithin_25, s_P_safeWithin_28, s_P_safeWithin_29, s_P_safeWithin_30, s_P_safeWithin_32, s_P_safeWithin_33, s_P_safeWithin_36, s_P_safeWithin_39, s_P_safeWithin_40, s_P_safeWithin_41, s_P_safeWithin_43, s_P_safeWithin_44, s_P_safeWithin_45, s_P_safeWithin_46, s_P_safeWithin_49, s_P_safeWithin_52, s_P_safeWithin_53, Option.bind_some, Option.bind_none, Option.toList_some, Option.toList_none, List.cons_append, List.nil_append, if_true, if_false, rz_clr, true_or, or_true, z00, z11, bZ_eq0, bZ_eq1, nor_self, if_pos, if_neg, zI_add, zI_sub, zI_mul, zI_neg, zI_lt, zI_le, zI_eq, c_P, f_P_0, l_P_0, r_P_0, w_P_0, f_P_1, l_P_1, r_P_1, w_P_1, f_P_2, l_P_2, r_P_2, w_P_2, f_P_3, l_P_3, r_P_3, w_P_3, f_P_4, l_P_4, r_P_4, w_P_4, f_P_5, l_P_5, r_P_5, w_P_5, f_P_6, l_P_6, r_P_6, w_P_6, f_P_7, l_P_7, r_P_7, w_P_7, f_P_8, u_P_8, f_P_9, u_P_9, f_P_10, u_P_10, hbit, bZ_pos q1', hst, bZ_pos q2, z_shl, z_or, ih']
      · have e : oS (safF (σ g) l cells) (k + 1) = oS (safF (σ g) l cells) k := if_neg (by simp [safF, q2])
        rw [e] at ih'
        simp (disch := first | omega | exact Nat.le_of_ble_eq_true rfl) only [e_P_safeWithin, s_P_safeWithin_0, s_P_safeWithin_1, s_P_safeWithin_2, s_P_safeWithin_3, s_P_safeWithin_7, s_P_safeWithin_8, s_P_safeWithin_11, s_P_safeWithin_12, s_P_safeWithin_15, s_P_safeWithin_16, s_P_safeWithin_19, s_P_safeWithin_20, s_P_safeWithin_22, s_P_safeWithin_25, s_P_safeWithin_28, s_P_safeWithin_29, s_P_safeWithin_30, s_P_safeWithin_32, s_P_safeWithin_33, s_P_safeWithin_36, s_P_safeWithin_39, s_P_safeWithin_40, s_P_safeWithin_41, s_P_safeWithin_43, s_P_safeWithin_44, s_P_safeWithin_45, s_P_safeWithin_46, s_P_safeWithin_49, s_P_safeWithin_52, s_P_safeWithin_53, Option.bind_some, Option.bind_none, Option.toList_some, Option.toList_none, List.cons_append, List.nil_append, if_true, if_false, rz_clr, true_or, or_true, z00, z11, bZ_eq0, bZ_eq1, nor_self, if_pos, if_neg, zI_add, zI_sub, zI_mul, zI_neg, zI_lt, zI_le, zI_eq, c_P, f_P_0, l_P_0, r_P_0, w_P_0, f_P_1, l_P_1, r_P_1, w_P_1, f_P_2, l_P_2, r_P_2, w_P_2, f_P_3, l_P_3, r_P_3, w_P_3, f_P_4, l_P_4, r_P_4, w_P_4, f_P_5, l_P_5, r_P_5, w_P_5, f_P_6, l_P_6, r_P_6, w_P_6, f_P_7, l_P_7, r_P_7, w_P_7, f_P_8, u_P_8, f_P_9, u_P_9, f_P_10, u_P_10, hbit, bZ_pos q1', hst, bZ_neg q2, ih']
    · have q1' : ¬ (0 ≤ (k : Int) ∧ (k : Int) < 32 ∧ cells.testBit (k : Int).toNat = true) := fun z => q1 (by rw [e0] at z; exact z.2.2)
      have e : oS (safF (σ g) l cells) (k + 1) = oS (safF (σ g) l cells) k := if_neg (by simp [safF, q1])
      rw [e] at ih'
      simp (disch := first | omega | exact Nat.le_of_ble_eq_true rfl) only [e_P_safeWithin, s_P_safeWithin_0, s_P_safeWithin_1, s_P_safeWithin_2, s_P_safeWithin_3, s_P_safeWithin_7, s_P_safeWithin_8, s_P_safeWithin_11, s_P_safeWithin_12, s_P_safeWithin_15, s_P_safeWithin_16, s_P_safeWithin_19, s_P_safeWithin_20, s_P_safeWithin_22, s_P_safeWithin_25, s_P_safeWithin_28, s_P_safeWithin_29, s_P_safeWithin_30, s_P_safeWithin_32, s_P_safeWithin_33, s_P_safeWithin_36, s_P_safeWithin_39, s_P_safeWithin_40, s_P_safeWithin_41, s_P_safeWithin_43, s_P_safeWithin_44, s_P_safeWithin_45, s_P_safeWithin_46, s_P_safeWithin_49, s_P_safeWithin_52, s_P_safeWithin_53, Option.bind_some, Option.bind_none, Option.toList_some, Option.toList_none, List.cons_append, List.nil_append, if_true, if_false, rz_clr, true_or, or_true, z00, z11, bZ_eq0, bZ_eq1, nor_self, if_pos, if_neg, zI_add, zI_sub, zI_mul, zI_neg, zI_lt, zI_le, zI_eq, c_P, f_P_0, l_P_0, r_P_0, w_P_0, f_P_1, l_P_1, r_P_1, w_P_1, f_P_2, l_P_2, r_P_2, w_P_2, f_P_3, l_P_3, r_P_3, w_P_3, f_P_4, l_P_4, r_P_4, w_P_4, f_P_5, l_P_5, r_P_5, w_P_5, f_P_6, l_P_6, r_P_6, w_P_6, f_P_7, l_P_7, r_P_7, w_P_7, f_P_8, u_P_8, f_P_9, u_P_9, f_P_10, u_P_10, hbit, bZ_neg q1', ih']
def safP (p : zP) (l : Int) (cells : Nat) : Nat := oS (safF p l cells) (p 8 0 * p 9 0).toNat
theorem z_safeWithin (d : Nat) (h1 : 7 ≤ g) (h2 : g ≤ 9) (hN : 48 ≤ N) (hw : wfP (σ g)) (hl : lkP (σ g)) {l : Int} (hll : rg l) {cells : Nat} (hcl : cells < 65536) : rz_dM (d + 4) iP_safeWithin [.ref (bs g), .int (zI l), .int (zI cells)] (wOf N σ) = some (some (.int (zI (safP (σ g) l cells : Nat))), wOf N σ) := by
  have ha := wfP_area hw
  have h := z_safeWithin_lp (σ := σ) d h1 h2 hN hw hl hll hcl (a := (σ g 8 0 * σ g 9 0).toNat) (by omega) _ 0 (Nat.add_zero _)
  simp only [show oS (safF (σ g) l cells) 0 = 0 from rfl, Int.natCast_zero] at h
  simp (disch := first | omega | exact Nat.le_of_ble_eq_true rfl) only [e_P_safeWithin, s_P_safeWithin_0, s_P_safeWithin_1, s_P_safeWithin_2, s_P_safeWithin_3, s_P_safeWithin_7, s_P_safeWithin_8, s_P_safeWithin_11, s_P_safeWithin_12, s_P_safeWithin_15, s_P_safeWithin_16, s_P_safeWithin_19, s_P_safeWithin_20, s_P_safeWithin_22, s_P_safeWithin_25, s_P_safeWithin_28, s_P_safeWithin_29, s_P_safeWithin_30, s_P_safeWithin_32, s_P_safeWithin_33, s_P_safeWithin_36, s_P_safeWithin_39, s_P_safeWithin_40, s_P_safeWithin_41, s_P_safeWithin_43, s_P_safeWithin_44, s_P_safeWithin_45, s_P_safeWithin_46, s_P_safeWithin_49, s_P_safeWithin_52, s_P_safeWithin_53, Option.bind_some, Option.bind_none, Option.toList_some, Option.toList_none, List.cons_append, List.nil_append, if_true, if_false, rz_clr, true_or, or_true, z00, z11, bZ_eq0, bZ_eq1, nor_self, if_pos, if_neg, zI_add, zI_sub, zI_mul, zI_neg, zI_lt, zI_le, zI_eq, h]
  rfl
end PL2
