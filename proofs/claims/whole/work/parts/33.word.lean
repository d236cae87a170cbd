-- the script's words
def wds : List (List Int) := [[98, 111, 97, 114, 100], [112, 105, 116], [98, 101, 108, 108], [119, 97, 108, 108], [108, 97, 119], [109, 97, 110], [104, 111, 109, 101], [117, 115, 101, 115], [114, 101, 102, 117, 115, 101, 115]]
def wl (i : Nat) : Nat := (wds.getD i []).length
def wb (i j : Nat) : Int := (wds.getD i []).getD j 0
theorem strLen_wl : ∀ i, i < 9 → rz_strLen.getD i 0 = wl i := by decide +kernel
theorem strByt_wb : ∀ i, i < 9 → ∀ j, j < wl i → (rz_strByt.getD i []).getD j 0 = zI (wb i j) := by decide +kernel
theorem wl_le : ∀ i, i < 9 → 1 ≤ wl i ∧ wl i ≤ 7 := by decide
theorem wb_rg : ∀ i, i < 9 → ∀ j, j < wl i → 97 ≤ wb i j ∧ wb i j ≤ 122 := by decide
section WD
variable {N : Nat} {σ : zS}
theorem ro_str (hN : N ≤ 1000) {i : Nat} (hi : i < 9) : wOf N σ (1010 + i) = .inr (100, [.ref (1020 + i), .int 0]) := by
  have h9 : rz_strs.length = 9 := by decide +kernel
  rw [w_ro hN (by omega)]
  unfold rz_ro
  rw [if_neg (by omega), if_neg (by omega), if_pos (by omega), show 1010 + i + 10 = 1020 + i by omega]
theorem ro_byt (hN : N ≤ 1000) {i : Nat} (hi : i < 9) : wOf N σ (1020 + i) = .inl (2, wl i, fun j => (rz_strByt.getD i []).getD j 0) := by
  have h9 : rz_strs.length = 9 := by decide +kernel
  rw [w_ro hN (by omega)]
  unfold rz_ro
  rw [if_neg (by omega), if_neg (by omega), if_neg (by omega), if_pos (by omega), show 1020 + i - 1020 = i by omega, strLen_wl i hi]
theorem c_str (hN : N ≤ 1000) {i : Nat} (hi : i < 9) : (rz_clsOf (wOf N σ) (1010 + i) = some 100) = True := by
  unfold rz_clsOf
  rw [ro_str hN hi]
  simp
theorem f_str0 (hN : N ≤ 1000) {i : Nat} (hi : i < 9) : rz_fld (wOf N σ) (1010 + i) 100 0 = some (.ref (1020 + i)) := by
  unfold rz_fld
  rw [ro_str hN hi]
  rfl
theorem f_str1 (hN : N ≤ 1000) {i : Nat} (hi : i < 9) : rz_fld (wOf N σ) (1010 + i) 100 1 = some (.int 0) := by
  unfold rz_fld
  rw [ro_str hN hi]
  rfl
theorem l_str (hN : N ≤ 1000) {i : Nat} (hi : i < 9) : rz_len (wOf N σ) (1020 + i) = some (zI (wl i)) := by
  unfold rz_len
  rw [ro_byt hN hi]
  rfl
theorem r_str (hN : N ≤ 1000) {i : Nat} (hi : i < 9) {j : Nat} (hj : j < wl i) : rz_ald (wOf N σ) (1020 + i) 2 (zI j) = some (zI (wb i j)) := by
  have hw := wl_le i hi
  unfold rz_ald
  rw [ro_byt hN hi]
  dsimp only
  have e : (zI (j : Int)).toNatClampNeg = j := by
    show (zI (j : Int)).toInt.toNat = j
    rw [zI_toInt (by omega) (by omega), Int.toNat_natCast]
  have h2 : (2 = 2) ∧ ¬ (zI (j : Int) < 0 ∨ wl i ≤ (zI (j : Int)).toNatClampNeg) := by
    refine ⟨rfl, ?_⟩
    rw [e]
    intro z
    rcases z with z | z
    · have z' : zI (j : Int) < zI 0 := z
      rw [zI_lt (by omega) (by omega)] at z'
      omega
    · omega
  rw [if_pos h2, e, strByt_wb i hi j hj]
theorem z_coder (d : Nat) (hN : N ≤ 1000) {i : Nat} (hi : i < 9) : rz_dM (d + 1) iJS_coder [.ref (1010 + i)] (wOf N σ) = some (some (.int 0), wOf N σ) := by
  simp (disch := first | omega | exact Nat.le_of_ble_eq_true rfl) only [e_JS_coder, s_JS_coder_0, s_JS_coder_3, s_JS_coder_6, s_JS_coder_7, s_JS_coder_10, s_JS_coder_13, s_JS_coder_14, Option.bind_some, Option.bind_none, Option.toList_some, Option.toList_none, List.cons_append, List.nil_append, if_true, if_false, rz_clr, true_or, or_true, z00, z11, bZ_eq0, bZ_eq1, nor_self, if_pos, if_neg, zI_add, zI_sub, zI_mul, zI_neg, zI_lt, zI_le, zI_eq, c_str, f_str1]
  try rfl
theorem z_isLatin1 (d : Nat) (hN : N ≤ 1000) {i : Nat} (hi : i < 9) : rz_dM (d + 1) iJS_isLatin1 [.ref (1010 + i)] (wOf N σ) = some (some (.int (zI 1)), wOf N σ) := by
  simp (disch := first | omega | exact Nat.le_of_ble_eq_true rfl) only [e_JS_isLatin1, s_JS_isLatin1_0, s_JS_isLatin1_3, s_JS_isLatin1_6, s_JS_isLatin1_7, s_JS_isLatin1_10, s_JS_isLatin1_13, s_JS_isLatin1_14, s_JS_isLatin1_17, s_JS_isLatin1_18, Option.bind_some, Option.bind_none, Option.toList_some, Option.toList_none, List.cons_append, List.nil_append, if_true, if_false, rz_clr, true_or, or_true, z00, z11, bZ_eq0, bZ_eq1, nor_self, if_pos, if_neg, zI_add, zI_sub, zI_mul, zI_neg, zI_lt, zI_le, zI_eq, c_str, f_str1]
  try rfl
theorem sh_0 (x : Int32) : x >>> ((0 : Int32) &&& 31) = x := by
  rw [show ((0 : Int32) &&& 31) = 0 from rfl]
  exact Int32.shiftRight_zero
theorem z_sLength (d : Nat) (hN : N ≤ 1000) {i : Nat} (hi : i < 9) : rz_dM (d + 2) iJS_length [.ref (1010 + i)] (wOf N σ) = some (some (.int (zI (wl i))), wOf N σ) := by
  simp (disch := first | omega | exact Nat.le_of_ble_eq_true rfl) only [e_JS_length, s_JS_length_0, s_JS_length_1, s_JS_length_4, s_JS_length_5, s_JS_length_6, s_JS_length_9, s_JS_length_10, Option.bind_some, Option.bind_none, Option.toList_some, Option.toList_none, List.cons_append, List.nil_append, if_true, if_false, rz_clr, true_or, or_true, z00, z11, bZ_eq0, bZ_eq1, nor_self, if_pos, if_neg, zI_add, zI_sub, zI_mul, zI_neg, zI_lt, zI_le, zI_eq, c_str, f_str0, l_str, z_coder, sh_0]
theorem z_pIndex (d : Nat) {j n : Nat} (hj : j < n) (hn : n < 1000) (l : Nat) (w : rz_W) : rz_dM (d + 1) iJP_checkIndex [.int (zI j), .int (zI n), .ref l] w = some (some (.int (zI j)), w) := by
  have c1 : ¬ (j : Int) < 0 := by omega
  have c2 : (j : Int) < n := by omega
  simp (disch := first | omega | exact Nat.le_of_ble_eq_true rfl) only [e_JP_checkIndex, s_JP_checkIndex_0, s_JP_checkIndex_1, s_JP_checkIndex_4, s_JP_checkIndex_5, s_JP_checkIndex_6, s_JP_checkIndex_9, s_JP_checkIndex_10, s_JP_checkIndex_11, s_JP_checkIndex_16, s_JP_checkIndex_17, Option.bind_some, Option.bind_none, Option.toList_some, Option.toList_none, List.cons_append, List.nil_append, if_true, if_false, rz_clr, true_or, or_true, z00, z11, bZ_eq0, bZ_eq1, nor_self, if_pos, if_neg, zI_add, zI_sub, zI_mul, zI_neg, zI_lt, zI_le, zI_eq, c1, c2]
theorem z_sIndex (d : Nat) {j n : Nat} (hj : j < n) (hn : n < 1000) (w : rz_W) : rz_dM (d + 2) iJS_checkIndex [.int (zI j), .int (zI n)] w = some (none, w) := by
  simp (disch := first | omega | exact Nat.le_of_ble_eq_true rfl) only [e_JS_checkIndex, s_JS_checkIndex_0, s_JS_checkIndex_1, s_JS_checkIndex_2, s_JS_checkIndex_5, s_JS_checkIndex_8, s_JS_checkIndex_9, Option.bind_some, Option.bind_none, Option.toList_some, Option.toList_none, List.cons_append, List.nil_append, if_true, if_false, rz_clr, true_or, or_true, z00, z11, bZ_eq0, bZ_eq1, nor_self, if_pos, if_neg, zI_add, zI_sub, zI_mul, zI_neg, zI_lt, zI_le, zI_eq, z_pIndex]
theorem ch_and : ∀ c : Nat, c < 128 → zI (c : Int) &&& zI 255 = zI c := by decide +kernel
theorem ch_c : ∀ c : Nat, c < 128 → ((zI (c : Int)).toUInt32 % 65536).toInt32 = zI c := by decide +kernel
theorem nw_c {c : Int} (h : 0 ≤ c ∧ c < 128) : narrow .char (.int (zI c)) = .int (zI c) := by
  obtain ⟨n, rfl⟩ : ∃ n : Nat, c = n := ⟨c.toNat, by omega⟩
  exact congrArg Value.int (ch_c n (by omega))
theorem z_lCharAt (d : Nat) (hN : N ≤ 1000) {i : Nat} (hi : i < 9) {j : Nat} (hj : j < wl i) : rz_dM (d + 3) iJL_charAt [.ref (1020 + i), .int (zI j)] (wOf N σ) = some (some (.int (zI (wb i j))), wOf N σ) := by
  have hw := wl_le i hi
  have hb := wb_rg i hi j hj
  have c1 : ¬ 1020 + i < 1000 := by omega
  obtain ⟨c, e⟩ : ∃ c : Nat, wb i j = c := ⟨(wb i j).toNat, by omega⟩
  have e1 := ch_and c (by omega)
  have e2 := ch_c c (by omega)
  have hr := r_str (N := N) (σ := σ) hN hi hj
  rw [e] at hr ⊢
  have hx := fun w => z_sIndex d (j := j) (n := wl i) hj (by omega) w
  simp (disch := first | omega | exact Nat.le_of_ble_eq_true rfl) only [e_JL_charAt, s_JL_charAt_0, s_JL_charAt_1, s_JL_charAt_2, s_JL_charAt_3, s_JL_charAt_6, s_JL_charAt_7, s_JL_charAt_8, s_JL_charAt_9, s_JL_charAt_12, s_JL_charAt_13, s_JL_charAt_14, Option.bind_some, Option.bind_none, Option.toList_some, Option.toList_none, List.cons_append, List.nil_append, if_true, if_false, rz_clr, true_or, or_true, z00, z11, bZ_eq0, bZ_eq1, nor_self, if_pos, if_neg, zI_add, zI_sub, zI_mul, zI_neg, zI_lt, zI_le, zI_eq, l_str, hx, c1, hr, e1, e2, nw_c]
theorem z_charAt (d : Nat) (hN : N ≤ 1000) {i : Nat} (hi : i < 9) {j : Nat} (hj : j < wl i) : rz_dM (d + 4) iJS_charAt [.ref (1010 + i), .int (zI j)] (wOf N σ) = some (some (.int (zI (wb i j))), wOf N σ) := by
  have hx := z_lCharAt (N := N) (σ := σ) d hN hi hj
  have hb := wb_rg i hi j hj
  have hn := nw_c (c := wb i j) (by omega)
  simp (disch := first | omega | exact Nat.le_of_ble_eq_true rfl) only [e_JS_charAt, s_JS_charAt_0, s_JS_charAt_1, s_JS_charAt_4, s_JS_charAt_7, s_JS_charAt_8, s_JS_charAt_11, s_JS_charAt_12, s_JS_charAt_15, s_JS_charAt_16, s_JS_charAt_17, s_JS_charAt_20, s_JS_charAt_24, Option.bind_some, Option.bind_none, Option.toList_some, Option.toList_none, List.cons_append, List.nil_append, if_true, if_false, rz_clr, true_or, or_true, z00, z11, bZ_eq0, bZ_eq1, nor_self, if_pos, if_neg, zI_add, zI_sub, zI_mul, zI_neg, zI_lt, zI_le, zI_eq, c_str, f_str0, z_isLatin1, hx, hn]
/-- so many bytes are the word's -/
def eqw (b : Nat → Int) (i t : Nat) : Nat → Nat → Bool
  | 0, _ => true
  | n + 1, j => decide (wb i j = b (t + j)) && eqw b i t n (j + 1)
theorem z_spells_lp (d : Nat) (h48 : 48 ≤ N) (hN : N ≤ 1000) {i : Nat} (hi : i < 9) (hs : SOK (σ 1)) {t : Nat} (ht : σ 1 4 0 = t) {len : Nat} (hl : σ 1 2 0 = len) (htl : t + wl i ≤ len) : ∀ (n j : Nat), n + j = wl i → rz_den (rz_dM (d + 4)) (rz_at tb_X2_spells) (some .boolean) 20 [some (.ref (bs 1)), some (.ref (1010 + i)), some (.int (zI j))] [] (wOf N σ) = some (some (.int (zI (bZ (eqw (σ 1 0) i t n j = true)))), wOf N σ) := by
  have hw := wl_le i hi
  have h300 := hs.1
  have hln := z_sLength (N := N) (σ := σ) (d + 2) hN hi
  intro n
  induction n with
  | zero =>
    intro j hj
    have c : ¬ (j : Int) < wl i := by omega
    rw [s_S_spells_20, eqw, bZ_pos rfl]
    simp (disch := first | omega | exact Nat.le_of_ble_eq_true rfl) only [e_S_spells, s_S_spells_0, s_S_spells_1, s_S_spells_4, s_S_spells_5, s_S_spells_8, s_S_spells_9, s_S_spells_12, s_S_spells_13, s_S_spells_16, s_S_spells_17, s_S_spells_18, s_S_spells_19, s_S_spells_21, s_S_spells_22, s_S_spells_25, s_S_spells_28, s_S_spells_29, s_S_spells_30, s_S_spells_33, s_S_spells_34, s_S_spells_35, s_S_spells_38, s_S_spells_39, s_S_spells_40, s_S_spells_43, s_S_spells_46, s_S_spells_47, s_S_spells_48, s_S_spells_51, s_S_spells_54, s_S_spells_55, Option.bind_some, Option.bind_none, Option.toList_some, Option.toList_none, List.cons_append, List.nil_append, if_true, if_false, rz_clr, true_or, or_true, z00, z11, bZ_eq0, bZ_eq1, nor_self, if_pos, if_neg, zI_add, zI_sub, zI_mul, zI_neg, zI_lt, zI_le, zI_eq, c_str, hln, c]
  | succ n ih =>
    intro j hj
    have c : (j : Int) < wl i := by omega
    have hc := z_charAt (N := N) (σ := σ) d hN hi (j := j) (by omega)
    have hb := z_byteAt (N := N) (σ := σ) (d + 2) h48 hs (i := (t : Int) + j) (by omega)
    rw [hl, if_pos (by omega), show ((t : Int) + j).toNat = t + j by omega] at hb
    have hv := hs.2 (t + j) (by omega)
    have hr := wb_rg i hi j (by omega)
    have ih' := ih (j + 1) (by omega)
    simp only [Int.natCast_add, Int.natCast_one] at ih'
    rw [s_S_spells_20, eqw]
    by_cases e : wb i j = σ 1 0 (t + j)
    · rw [decide_eq_true e, Bool.true_and]
      simp (disch := first | omega | exact Nat.le_of_ble_eq_true rfl) only [e_S_spells, s_S_spells_0, s_S_spells_1, s_S_spells_4, s_S_spells_5, s_S_spells_8, s_S_spells_9, s_S_spells_12, s_S_spells_13, s_S_spells_16, s_S_spells_17, s_S_spells_18, s_S_spells_19, s_S_spells_21, s_S_spells_22, s_S_spells_25, s_S_spells_28, s_S_spells_29, s_S_spells_30, s_S_spells_33, s_S_spells_34, s_S_spells_35, s_S_spells_38, s_S_spells_39, s_S_spells_40, s_S_spells_43, s_S_spells_46, s_S_spells_47, s_S_spells_48, s_S_spells_51, s_S_spells_54, s_S_spells_55, Option.bind_some, Option.bind_none, Option.toList_some, Option.toList_none, List.cons_append, List.nil_append, if_true, if_false, rz_clr, true_or, or_true, z00, z11, bZ_eq0, bZ_eq1, nor_self, if_pos, if_neg, zI_add, zI_sub, zI_mul, zI_neg, zI_lt, zI_le, zI_eq, c_str, c_S, f_S_0, l_S_0, r_S_0, w_S_0, f_S_1, l_S_1, r_S_1, w_S_1, f_S_2, u_S_2, f_S_3, u_S_3, f_S_4, u_S_4, f_S_5, u_S_5, f_S_6, u_S_6, f_S_7, u_S_7, f_S_8, u_S_8, f_S_9, u_S_9, hln, c, hc, ht, hb, e, ih']
    · rw [decide_eq_false e, Bool.false_and, bZ_neg (by decide)]
      simp (disch := first | omega | exact Nat.le_of_ble_eq_true rfl) only [e_S_spells, s_S_spells_0, s_S_spells_1, s_S_spells_4, s_S_spells_5, s_S_spells_8, s_S_spells_9, s_S_spells_12, s_S_spells_13, s_S_spells_16, s_S_spells_17, s_S_spells_18, s_S_spells_19, s_S_spells_21, s_S_spells_22, s_S_spells_25, s_S_spells_28, s_S_spells_29, s_S_spells_30, s_S_spells_33, s_S_spells_34, s_S_spells_35, s_S_spells_38, s_S_spells_39, s_S_spells_40, s_S_spells_43, s_S_spells_46, s_S_spells_47, s_S_spells_48, s_S_spells_51, s_S_spells_54, s_S_spells_55, Option.bind_some, Option.bind_none, Option.toList_some, Option.toList_none, List.cons_append, List.nil_append, if_true, if_false, rz_clr, true_or, or_true, z00, z11, bZ_eq0, bZ_eq1, nor_self, if_pos, if_neg, zI_add, zI_sub, zI_mul, zI_neg, zI_lt, zI_le, zI_eq, c_str, c_S, f_S_0, l_S_0, r_S_0, w_S_0, f_S_1, l_S_1, r_S_1, w_S_1, f_S_2, u_S_2, f_S_3, u_S_3, f_S_4, u_S_4, f_S_5, u_S_5, f_S_6, u_S_6, f_S_7, u_S_7, f_S_8, u_S_8, f_S_9, u_S_9, hln, c, hc, ht, hb, e]
theorem z_spells (d : Nat) (h48 : 48 ≤ N) (hN : N ≤ 1000) {i : Nat} (hi : i < 9) (hs : SOK (σ 1)) {t p : Nat} (ht : σ 1 4 0 = t) (hp : σ 1 3 0 = p) {len : Nat} (hl : σ 1 2 0 = len) (h1 : t ≤ p) (h2 : p ≤ len) : rz_dM (d + 5) iS_spells [.ref (bs 1), .ref (1010 + i)] (wOf N σ) = some (some (.int (zI (bZ (p - t = wl i ∧ eqw (σ 1 0) i t (wl i) 0 = true)))), wOf N σ) := by
  have hw := wl_le i hi
  have h300 := hs.1
  have hln := z_sLength (N := N) (σ := σ) (d + 2) hN hi
  by_cases c : p - t = wl i
  · have h := z_spells_lp (σ := σ) d h48 hN hi hs ht hl (by omega) (wl i) 0 rfl
    rw [Int.natCast_zero] at h
    have c1 : ((wl i : Nat) : Int) = p - t := by omega
    by_cases e : eqw (σ 1 0) i t (wl i) 0 = true
    · rw [bZ_pos ⟨c, e⟩]
      rw [bZ_pos e] at h
      simp (disch := first | omega | exact Nat.le_of_ble_eq_true rfl) only [e_S_spells, s_S_spells_0, s_S_spells_1, s_S_spells_4, s_S_spells_5, s_S_spells_8, s_S_spells_9, s_S_spells_12, s_S_spells_13, s_S_spells_16, s_S_spells_17, s_S_spells_18, s_S_spells_19, s_S_spells_21, s_S_spells_22, s_S_spells_25, s_S_spells_28, s_S_spells_29, s_S_spells_30, s_S_spells_33, s_S_spells_34, s_S_spells_35, s_S_spells_38, s_S_spells_39, s_S_spells_40, s_S_spells_43, s_S_spells_46, s_S_spells_47, s_S_spells_48, s_S_spells_51, s_S_spells_54, s_S_spells_55, Option.bind_some, Option.bind_none, Option.toList_some, Option.toList_none, List.cons_append, List.nil_append, if_true, if_false, rz_clr, true_or, or_true, z00, z11, bZ_eq0, bZ_eq1, nor_self, if_pos, if_neg, zI_add, zI_sub, zI_mul, zI_neg, zI_lt, zI_le, zI_eq, c_str, c_S, f_S_0, l_S_0, r_S_0, w_S_0, f_S_1, l_S_1, r_S_1, w_S_1, f_S_2, u_S_2, f_S_3, u_S_3, f_S_4, u_S_4, f_S_5, u_S_5, f_S_6, u_S_6, f_S_7, u_S_7, f_S_8, u_S_8, f_S_9, u_S_9, hln, ht, hp, c1, h]
    · rw [bZ_neg (fun z => e z.2)]
      rw [bZ_neg e] at h
      simp (disch := first | omega | exact Nat.le_of_ble_eq_true rfl) only [e_S_spells, s_S_spells_0, s_S_spells_1, s_S_spells_4, s_S_spells_5, s_S_spells_8, s_S_spells_9, s_S_spells_12, s_S_spells_13, s_S_spells_16, s_S_spells_17, s_S_spells_18, s_S_spells_19, s_S_spells_21, s_S_spells_22, s_S_spells_25, s_S_spells_28, s_S_spells_29, s_S_spells_30, s_S_spells_33, s_S_spells_34, s_S_spells_35, s_S_spells_38, s_S_spells_39, s_S_spells_40, s_S_spells_43, s_S_spells_46, s_S_spells_47, s_S_spells_48, s_S_spells_51, s_S_spells_54, s_S_spells_55, Option.bind_some, Option.bind_none, Option.toList_some, Option.toList_none, List.cons_append, List.nil_append, if_true, if_false, rz_clr, true_or, or_true, z00, z11, bZ_eq0, bZ_eq1, nor_self, if_pos, if_neg, zI_add, zI_sub, zI_mul, zI_neg, zI_lt, zI_le, zI_eq, c_str, c_S, f_S_0, l_S_0, r_S_0, w_S_0, f_S_1, l_S_1, r_S_1, w_S_1, f_S_2, u_S_2, f_S_3, u_S_3, f_S_4, u_S_4, f_S_5, u_S_5, f_S_6, u_S_6, f_S_7, u_S_7, f_S_8, u_S_8, f_S_9, u_S_9, hln, ht, hp, c1, h]
  · have c1 : ¬ ((wl i : Nat) : Int) = p - t := by omega
    rw [bZ_neg (fun z => c z.1)]
    simp (disch := first | omega | exact Nat.le_of_ble_eq_true rfl) only [e_S_spells, s_S_spells_0, s_S_spells_1, s_S_spells_4, s_S_spells_5, s_S_spells_8, s_S_spells_9, s_S_spells_12, s_S_spells_13, s_S_spells_16, s_S_spells_17, s_S_spells_18, s_S_spells_19, s_S_spells_21, s_S_spells_22, s_S_spells_25, s_S_spells_28, s_S_spells_29, s_S_spells_30, s_S_spells_33, s_S_spells_34, s_S_spells_35, s_S_spells_38, s_S_spells_39, s_S_spells_40, s_S_spells_43, s_S_spells_46, s_S_spells_47, s_S_spells_48, s_S_spells_51, s_S_spells_54, s_S_spells_55, Option.bind_some, Option.bind_none, Option.toList_some, Option.toList_none, List.cons_append, List.nil_append, if_true, if_false, rz_clr, true_or, or_true, z00, z11, bZ_eq0, bZ_eq1, nor_self, if_pos, if_neg, zI_add, zI_sub, zI_mul, zI_neg, zI_lt, zI_le, zI_eq, c_str, c_S, f_S_0, l_S_0, r_S_0, w_S_0, f_S_1, l_S_1, r_S_1, w_S_1, f_S_2, u_S_2, f_S_3, u_S_3, f_S_4, u_S_4, f_S_5, u_S_5, f_S_6, u_S_6, f_S_7, u_S_7, f_S_8, u_S_8, f_S_9, u_S_9, hln, ht, hp, c1]
end WD
