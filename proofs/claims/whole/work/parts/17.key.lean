-- keys of positions
def cl (K m : Nat) : Nat := if m = 0 then K % 16 else K / 16 % 16
def lf (K m : Nat) : Nat := if m = 0 then K / 256 % 4 else K / 1024 % 4
def tl (K : Nat) : Nat := K / 4096 % 2
def flipT (K : Nat) : Nat := if tl K = 0 then K + 4096 else K - 4096
def wcK (K m c : Nat) : Nat := if m = 0 then K - K % 16 + c else K - K / 16 % 16 * 16 + c * 16
def swK (K : Nat) : Nat := cl K 1 + 16 * cl K 0 + 256 * lf K 1 + 1024 * lf K 0 + 4096 * tl K
def wtK (K : Nat) : Int := if tl K = 0 then 1 else -1
def plK (K : Nat) (n : Int) : Int := ((((n - 1) * 2 + tl K) * 9 + (lf K 0 * 3 + lf K 1)) * 256 + (K % 256 : Nat))
theorem z_and15 {a : Nat} (h : a < 2147483648) : zI (a : Int) &&& zI 15 = zI ((a % 16 : Nat) : Int) := by
  rw [zI_nI, zI_nI]; exact pk_andN (Nat.lt_of_lt_of_le h (by decide)) 4 rfl
theorem z_and3 {a : Nat} (h : a < 2147483648) : zI (a : Int) &&& zI 3 = zI ((a % 4 : Nat) : Int) := by
  rw [zI_nI, zI_nI]; exact pk_andN (Nat.lt_of_lt_of_le h (by decide)) 2 rfl
theorem z_and255 {a : Nat} (h : a < 2147483648) : zI (a : Int) &&& zI 255 = zI ((a % 256 : Nat) : Int) := by
  rw [zI_nI, zI_nI]; exact pk_andN (Nat.lt_of_lt_of_le h (by decide)) 8 rfl
theorem z_and4096_0 : ∀ a, a < 64 → ∀ b, b < 128 → zI (((a * 128 + b : Nat)) : Int) &&& zI 4096 = zI ((4096 * tl (a * 128 + b) : Nat) : Int) := by decide +kernel
theorem z_and4096 (K : Nat) (h : K < 8192) : zI ((K : Nat) : Int) &&& zI 4096 = zI ((4096 * tl K : Nat) : Int) := by
  have := z_and4096_0 (K / 128) (by omega) (K % 128) (by omega)
  rw [show K / 128 * 128 + K % 128 = K by omega] at this
  exact this
theorem z_xor4096_0 : ∀ a, a < 64 → ∀ b, b < 128 → zI (((a * 128 + b : Nat)) : Int) ^^^ zI 4096 = zI ((flipT (a * 128 + b) : Nat) : Int) := by decide +kernel
theorem z_xor4096 (K : Nat) (h : K < 8192) : zI ((K : Nat) : Int) ^^^ zI 4096 = zI ((flipT K : Nat) : Int) := by
  have := z_xor4096_0 (K / 128) (by omega) (K % 128) (by omega)
  rw [show K / 128 * 128 + K % 128 = K by omega] at this
  exact this
theorem z_clr15_0 : ∀ a, a < 64 → ∀ b, b < 128 → zI (((a * 128 + b : Nat)) : Int) &&& ((zI 15 <<< (zI 0 &&& 31)) ^^^ zI (-1)) = zI (((a * 128 + b) - (a * 128 + b) % 16 : Nat) : Int) := by decide +kernel
theorem z_clr15 (K : Nat) (h : K < 8192) : zI ((K : Nat) : Int) &&& ((zI 15 <<< (zI 0 &&& 31)) ^^^ zI (-1)) = zI ((K - K % 16 : Nat) : Int) := by
  have := z_clr15_0 (K / 128) (by omega) (K % 128) (by omega)
  rw [show K / 128 * 128 + K % 128 = K by omega] at this
  exact this
theorem z_clr240_0 : ∀ a, a < 64 → ∀ b, b < 128 → zI (((a * 128 + b : Nat)) : Int) &&& ((zI 15 <<< (zI 4 &&& 31)) ^^^ zI (-1)) = zI (((a * 128 + b) - (a * 128 + b) / 16 % 16 * 16 : Nat) : Int) := by decide +kernel
theorem z_clr240 (K : Nat) (h : K < 8192) : zI ((K : Nat) : Int) &&& ((zI 15 <<< (zI 4 &&& 31)) ^^^ zI (-1)) = zI ((K - K / 16 % 16 * 16 : Nat) : Int) := by
  have := z_clr240_0 (K / 128) (by omega) (K % 128) (by omega)
  rw [show K / 128 * 128 + K % 128 = K by omega] at this
  exact this
theorem z_c4 : ∀ c, c < 16 → zI ((c : Nat) : Int) <<< (zI 4 &&& 31) = zI ((c * 16 : Nat) : Int) := by decide +kernel
theorem z_c0 : ∀ c, c < 16 → zI ((c : Nat) : Int) <<< (zI 0 &&& 31) = zI ((c : Nat) : Int) := by decide +kernel
theorem or_lo {a c : Nat} (ha : a % 16 = 0) (hc : c < 16) : a ||| c = a + c := by
  obtain ⟨r, rfl⟩ : ∃ r, a = 2 ^ 4 * r := ⟨a / 16, by omega⟩
  exact (Nat.two_pow_add_eq_or_of_lt (i := 4) hc r).symm
theorem or_lo16 : ∀ a, a < 16 → ∀ c, c < 16 → a ||| c * 16 = a + c * 16 := by decide +kernel
theorem or_mid {a c : Nat} (ha : a / 16 % 16 = 0) (hc : c < 16) : a ||| c * 16 = a + c * 16 := by
  obtain ⟨r, s, hs, rfl⟩ : ∃ r s, s < 16 ∧ a = 2 ^ 8 * r + s := ⟨a / 256, a % 16, by omega, by omega⟩
  rw [Nat.two_pow_add_eq_or_of_lt (i := 8) (by omega) r, Nat.or_assoc, or_lo16 s hs c hc, ← Nat.two_pow_add_eq_or_of_lt (i := 8) (by omega) r, Nat.two_pow_add_eq_or_of_lt (i := 8) (by omega) r]
  rw [← Nat.two_pow_add_eq_or_of_lt (i := 8) (by omega) r, ← Nat.two_pow_add_eq_or_of_lt (i := 8) (by omega) r]
  omega
theorem cl_lt (K m : Nat) : cl K m < 16 := by unfold cl; split <;> omega
theorem lf_lt (K m : Nat) : lf K m < 4 := by unfold lf; split <;> omega
theorem tl_lt (K : Nat) : tl K < 2 := by unfold tl; omega
theorem wcK_lt {K m c : Nat} (hK : K < 8192) (hc : c < 16) : wcK K m c < 8192 := by unfold wcK; split <;> omega
theorem flipT_lt {K : Nat} (hK : K < 8192) : flipT K < 8192 := by unfold flipT tl; split <;> omega
section KEY
variable {w : rz_W}
theorem z_cellIn (d : Nat) {K : Nat} {m : Int} (hK : K < 8192) (hm : m = 0 ∨ m = 1) : rz_dM (d + 1) iR_cellIn [.int (zI K), .int (zI m)] w = some (some (.int (zI (cl K m.toNat))), w) := by
  have e0 := z_shr (b := K) (i := 0) (by omega) (by decide)
  have e4 := z_shr (b := K) (i := 4) (by omega) (by decide)
  rcases hm with rfl | rfl
  · have e : K / 2 ^ 0 < 2147483648 := by omega
    have e0' : zI (K : Int) >>> (zI 0 &&& 31) = zI ((K / 2 ^ 0 : Nat) : Int) := e0
    simp (disch := first | omega | exact Nat.le_of_ble_eq_true rfl) only [e_R_cellIn, s_R_cellIn_0, s_R_cellIn_1, s_R_cellIn_2, s_R_cellIn_3, s_R_cellIn_4, s_R_cellIn_5, s_R_cellIn_7, s_R_cellIn_8, Option.bind_some, Option.bind_none, Option.toList_some, Option.toList_none, List.cons_append, List.nil_append, if_true, if_false, rz_clr, true_or, or_true, z00, z11, bZ_eq0, bZ_eq1, nor_self, if_pos, if_neg, zI_add, zI_sub, zI_mul, zI_neg, zI_lt, zI_le, zI_eq, Int.mul_zero, e0', z_and15 e]
    simp [cl]
  · have e : K / 2 ^ 4 < 2147483648 := by omega
    have e4' : zI (K : Int) >>> (zI 4 &&& 31) = zI ((K / 2 ^ 4 : Nat) : Int) := e4
    simp (disch := first | omega | exact Nat.le_of_ble_eq_true rfl) only [e_R_cellIn, s_R_cellIn_0, s_R_cellIn_1, s_R_cellIn_2, s_R_cellIn_3, s_R_cellIn_4, s_R_cellIn_5, s_R_cellIn_7, s_R_cellIn_8, Option.bind_some, Option.bind_none, Option.toList_some, Option.toList_none, List.cons_append, List.nil_append, if_true, if_false, rz_clr, true_or, or_true, z00, z11, bZ_eq0, bZ_eq1, nor_self, if_pos, if_neg, zI_add, zI_sub, zI_mul, zI_neg, zI_lt, zI_le, zI_eq, Int.mul_one, e4', z_and15 e]
    simp [cl]
theorem z_leftIn (d : Nat) {K : Nat} {m : Int} (hK : K < 8192) (hm : m = 0 ∨ m = 1) : rz_dM (d + 1) iR_leftIn [.int (zI K), .int (zI m)] w = some (some (.int (zI (lf K m.toNat))), w) := by
  have e0 := z_shr (b := K) (i := 8) (by omega) (by decide)
  have e4 := z_shr (b := K) (i := 10) (by omega) (by decide)
  rcases hm with rfl | rfl
  · have e : K / 2 ^ 8 < 2147483648 := by omega
    have e0' : zI (K : Int) >>> (zI 8 &&& 31) = zI ((K / 2 ^ 8 : Nat) : Int) := e0
    simp (disch := first | omega | exact Nat.le_of_ble_eq_true rfl) only [e_R_leftIn, s_R_leftIn_0, s_R_leftIn_1, s_R_leftIn_3, s_R_leftIn_4, s_R_leftIn_5, s_R_leftIn_6, s_R_leftIn_7, s_R_leftIn_8, s_R_leftIn_9, s_R_leftIn_10, Option.bind_some, Option.bind_none, Option.toList_some, Option.toList_none, List.cons_append, List.nil_append, if_true, if_false, rz_clr, true_or, or_true, z00, z11, bZ_eq0, bZ_eq1, nor_self, if_pos, if_neg, zI_add, zI_sub, zI_mul, zI_neg, zI_lt, zI_le, zI_eq, Int.mul_zero, Int.add_zero, e0', z_and3 e]
    simp [lf]
  · have e : K / 2 ^ 10 < 2147483648 := by omega
    have e4' : zI (K : Int) >>> (zI 10 &&& 31) = zI ((K / 2 ^ 10 : Nat) : Int) := e4
    simp (disch := first | omega | exact Nat.le_of_ble_eq_true rfl) only [e_R_leftIn, s_R_leftIn_0, s_R_leftIn_1, s_R_leftIn_3, s_R_leftIn_4, s_R_leftIn_5, s_R_leftIn_6, s_R_leftIn_7, s_R_leftIn_8, s_R_leftIn_9, s_R_leftIn_10, Option.bind_some, Option.bind_none, Option.toList_some, Option.toList_none, List.cons_append, List.nil_append, if_true, if_false, rz_clr, true_or, or_true, z00, z11, bZ_eq0, bZ_eq1, nor_self, if_pos, if_neg, zI_add, zI_sub, zI_mul, zI_neg, zI_lt, zI_le, zI_eq, Int.mul_one, show (8 : Int) + 2 = 10 from rfl, e4', z_and3 e]
    simp [lf]
theorem z_tellerIn (d : Nat) {K : Nat} (hK : K < 8192) : rz_dM (d + 1) iR_tellerIn [.int (zI K)] w = some (some (.int (zI (tl K))), w) := by
  have e := z_and4096 K hK
  have ht := tl_lt K
  by_cases q : tl K = 0
  · rw [q] at e ⊢
    simp (disch := first | omega | exact Nat.le_of_ble_eq_true rfl) only [e_R_tellerIn, s_R_tellerIn_0, s_R_tellerIn_1, s_R_tellerIn_4, s_R_tellerIn_5, s_R_tellerIn_8, s_R_tellerIn_9, s_R_tellerIn_12, s_R_tellerIn_13, Option.bind_some, Option.bind_none, Option.toList_some, Option.toList_none, List.cons_append, List.nil_append, if_true, if_false, rz_clr, true_or, or_true, z00, z11, bZ_eq0, bZ_eq1, nor_self, if_pos, if_neg, zI_add, zI_sub, zI_mul, zI_neg, zI_lt, zI_le, zI_eq, e, Nat.mul_zero, Int.natCast_zero]
  · have q1 : tl K = 1 := by omega
    rw [q1] at e ⊢
    simp (disch := first | omega | exact Nat.le_of_ble_eq_true rfl) only [e_R_tellerIn, s_R_tellerIn_0, s_R_tellerIn_1, s_R_tellerIn_4, s_R_tellerIn_5, s_R_tellerIn_8, s_R_tellerIn_9, s_R_tellerIn_12, s_R_tellerIn_13, Option.bind_some, Option.bind_none, Option.toList_some, Option.toList_none, List.cons_append, List.nil_append, if_true, if_false, rz_clr, true_or, or_true, z00, z11, bZ_eq0, bZ_eq1, nor_self, if_pos, if_neg, zI_add, zI_sub, zI_mul, zI_neg, zI_lt, zI_le, zI_eq, e, Int.natCast_one]
theorem z_wants (d : Nat) {K : Nat} (hK : K < 8192) : rz_dM (d + 2) iR_wants [.int (zI K)] w = some (some (.int (zI (wtK K))), w) := by
  have ht := tl_lt K
  unfold wtK
  by_cases q : tl K = 0
  · simp (disch := first | omega | exact Nat.le_of_ble_eq_true rfl) only [e_R_wants, s_R_wants_0, s_R_wants_1, s_R_wants_4, s_R_wants_7, s_R_wants_8, s_R_wants_11, s_R_wants_12, Option.bind_some, Option.bind_none, Option.toList_some, Option.toList_none, List.cons_append, List.nil_append, if_true, if_false, rz_clr, true_or, or_true, z00, z11, bZ_eq0, bZ_eq1, nor_self, if_pos, if_neg, zI_add, zI_sub, zI_mul, zI_neg, zI_lt, zI_le, zI_eq, z_tellerIn, q, Int.natCast_zero]
  · have q1 : tl K = 1 := by omega
    simp (disch := first | omega | exact Nat.le_of_ble_eq_true rfl) only [e_R_wants, s_R_wants_0, s_R_wants_1, s_R_wants_4, s_R_wants_7, s_R_wants_8, s_R_wants_11, s_R_wants_12, Option.bind_some, Option.bind_none, Option.toList_some, Option.toList_none, List.cons_append, List.nil_append, if_true, if_false, rz_clr, true_or, or_true, z00, z11, bZ_eq0, bZ_eq1, nor_self, if_pos, if_neg, zI_add, zI_sub, zI_mul, zI_neg, zI_lt, zI_le, zI_eq, z_tellerIn, q1, Int.natCast_one]
theorem z_withCell (d : Nat) {K c : Nat} {m : Int} (hK : K < 8192) (hc : c < 16) (hm : m = 0 ∨ m = 1) : rz_dM (d + 1) iR_withCell [.int (zI K), .int (zI m), .int (zI c)] w = some (some (.int (zI (wcK K m.toNat c))), w) := by
  rcases hm with rfl | rfl
  · have e : K - K % 16 ||| c = K - K % 16 + c := or_lo (by omega) hc
    have e2 := z_or (a := K - K % 16) (b := c) (by omega) (by omega)
    rw [e] at e2
    simp (disch := first | omega | exact Nat.le_of_ble_eq_true rfl) only [e_R_withCell, s_R_withCell_0, s_R_withCell_1, s_R_withCell_3, s_R_withCell_4, s_R_withCell_5, s_R_withCell_6, s_R_withCell_7, s_R_withCell_8, s_R_withCell_9, s_R_withCell_10, s_R_withCell_11, s_R_withCell_12, s_R_withCell_13, s_R_withCell_14, s_R_withCell_15, s_R_withCell_16, Option.bind_some, Option.bind_none, Option.toList_some, Option.toList_none, List.cons_append, List.nil_append, if_true, if_false, rz_clr, true_or, or_true, z00, z11, bZ_eq0, bZ_eq1, nor_self, if_pos, if_neg, zI_add, zI_sub, zI_mul, zI_neg, zI_lt, zI_le, zI_eq, Int.mul_zero, z_clr15 K hK, z_c0 c hc, e2]
    simp [wcK]
  · have e : K - K / 16 % 16 * 16 ||| c * 16 = K - K / 16 % 16 * 16 + c * 16 := or_mid (by omega) hc
    have e2 := z_or (a := K - K / 16 % 16 * 16) (b := c * 16) (by omega) (by omega)
    rw [e] at e2
    simp (disch := first | omega | exact Nat.le_of_ble_eq_true rfl) only [e_R_withCell, s_R_withCell_0, s_R_withCell_1, s_R_withCell_3, s_R_withCell_4, s_R_withCell_5, s_R_withCell_6, s_R_withCell_7, s_R_withCell_8, s_R_withCell_9, s_R_withCell_10, s_R_withCell_11, s_R_withCell_12, s_R_withCell_13, s_R_withCell_14, s_R_withCell_15, s_R_withCell_16, Option.bind_some, Option.bind_none, Option.toList_some, Option.toList_none, List.cons_append, List.nil_append, if_true, if_false, rz_clr, true_or, or_true, z00, z11, bZ_eq0, bZ_eq1, nor_self, if_pos, if_neg, zI_add, zI_sub, zI_mul, zI_neg, zI_lt, zI_le, zI_eq, Int.mul_one, z_clr240 K hK, z_c4 c hc, e2]
    simp [wcK]
def wrK (K : Nat) (m more : Int) : Int := K + more * (if m = 0 then 256 else 1024)
theorem z_m1 : zI (-1) <<< (zI 8 &&& 31) = zI (-256) ∧ zI (-1) <<< (zI 10 &&& 31) = zI (-1024) ∧ zI 1 <<< (zI 8 &&& 31) = zI 256 ∧ zI 1 <<< (zI 10 &&& 31) = zI 1024 := by decide
theorem z_withRefusals (d : Nat) {K : Nat} {m more : Int} (hm : m = 0 ∨ m = 1) (hr : more = 1 ∨ more = -1) : rz_dM (d + 1) iR_withRefusals [.int (zI K), .int (zI m), .int (zI more)] w = some (some (.int (zI (wrK K m more))), w) := by
  obtain ⟨a1, a2, a3, a4⟩ := z_m1
  rcases hm with rfl | rfl <;> rcases hr with rfl | rfl <;>
    simp (disch := first | omega | exact Nat.le_of_ble_eq_true rfl) only [e_R_withRefusals, s_R_withRefusals_0, s_R_withRefusals_1, s_R_withRefusals_2, s_R_withRefusals_4, s_R_withRefusals_5, s_R_withRefusals_6, s_R_withRefusals_7, s_R_withRefusals_8, s_R_withRefusals_9, s_R_withRefusals_10, Option.bind_some, Option.bind_none, Option.toList_some, Option.toList_none, List.cons_append, List.nil_append, if_true, if_false, rz_clr, true_or, or_true, z00, z11, bZ_eq0, bZ_eq1, nor_self, if_pos, if_neg, zI_add, zI_sub, zI_mul, zI_neg, zI_lt, zI_le, zI_eq, Int.mul_zero, Int.mul_one, Int.add_zero, show (8 : Int) + 2 = 10 from rfl, a1, a2, a3, a4] <;> simp [wrK]
theorem z_placeOf (d : Nat) {K : Nat} {n : Int} (hK : K < 8192) : rz_dM (d + 2) iR_placeOf [.int (zI K), .int (zI n)] w = some (some (.int (zI (plK K n))), w) := by
  have e : K < 2147483648 := by omega
  simp (disch := first | omega | exact Nat.le_of_ble_eq_true rfl) only [e_R_placeOf, s_R_placeOf_0, s_R_placeOf_1, s_R_placeOf_2, s_R_placeOf_5, s_R_placeOf_6, s_R_placeOf_7, s_R_placeOf_8, s_R_placeOf_9, s_R_placeOf_12, s_R_placeOf_13, s_R_placeOf_14, s_R_placeOf_15, s_R_placeOf_16, s_R_placeOf_17, s_R_placeOf_18, s_R_placeOf_19, s_R_placeOf_20, s_R_placeOf_23, s_R_placeOf_24, s_R_placeOf_26, s_R_placeOf_27, s_R_placeOf_28, s_R_placeOf_29, s_R_placeOf_32, s_R_placeOf_33, s_R_placeOf_34, s_R_placeOf_37, s_R_placeOf_38, s_R_placeOf_39, Option.bind_some, Option.bind_none, Option.toList_some, Option.toList_none, List.cons_append, List.nil_append, if_true, if_false, rz_clr, true_or, or_true, z00, z11, bZ_eq0, bZ_eq1, nor_self, if_pos, if_neg, zI_add, zI_sub, zI_mul, zI_neg, zI_lt, zI_le, zI_eq, z_leftIn, z_tellerIn, z_and255 e]
  rfl
end KEY
