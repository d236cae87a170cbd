-- the script's words
def wds : List (List Int) := [[98, 111, 97, 114, 100], [112, 105, 116], [98, 101, 108, 108], [119, 97, 108, 108], [108, 97, 119], [109, 97, 110], [104, 111, 109, 101], [117, 115, 101, 115], [114, 101, 102, 117, 115, 101, 115]]
def wl (i : Nat) : Nat := (wds.getD i []).length
def wb (i j : Nat) : Int := (wds.getD i []).getD j 0
theorem strLen_wl : ∀ i, i < 9 → rz_strLen.getD i 0 = wl i := by decide +kernel
theorem strByt_wb : ∀ i, i < 9 → ∀ j, j < wl i → (rz_strByt.getD i []).getD j 0 = zI (wb i j) := by decide +kernel
theorem wl_le : ∀ i, i < 9 → 1 ≤ wl i ∧ wl i ≤ 7 := by decide
theorem wb_rg : ∀ i, i < 9 → ∀ j, j < wl i → 97 ≤ wb i j ∧ wb i j ≤ 122 := by decide
section WD
variable {N : Nat} {σ : zS}
theorem ro_str (hN : N ≤ 1000) {i : Nat} (hi : i < 9) : wOf N σ (1010 + i) = .inr (100, [.ref (1020 + i), .int 0]) := by
  have h9 : rz_strs.length = 9 := by decide +kernel
  rw [w_ro hN (by omega)]
  unfold rz_ro
  rw [if_neg (by omega), if_neg (by omega), if_pos (by omega), show 1010 + i + 10 = 1020 + i by omega]
theorem ro_byt (hN : N ≤ 1000) {i : Nat} (hi : i < 9) : wOf N σ (1020 + i) = .inl (2, wl i, fun j => (rz_strByt.getD i []).getD j 0) := by
  have h9 : rz_strs.length = 9 := by decide +kernel
  rw [w_ro hN (by omega)]
  unfold rz_ro
  rw [if_neg (by omega), if_neg (by omega), if_neg (by omega), if_pos (by omega), show 1020 + i - 1020 = i by omega, strLen_wl i hi]
theorem c_str (hN : N ≤ 1000) {i : Nat} (hi : i < 9) : (rz_clsOf (wOf N σ) (1010 + i) = some 100) = True := by
  unfold rz_clsOf
  rw [ro_str hN hi]
  simp
theorem f_str0 (hN : N ≤ 1000) {i : Nat} (hi : i < 9) : rz_fld (wOf N σ) (1010 + i) 100 0 = some (.ref (1020 + i)) := by
  unfold rz_fld
  rw [ro_str hN hi]
  rfl
theorem f_str1 (hN : N ≤ 1000) {i : Nat} (hi : i < 9) : rz_fld (wOf N σ) (1010 + i) 100 1 = some (.int 0) := by
  unfold rz_fld
  rw [ro_str hN hi]
  rfl
theorem l_str (hN : N ≤ 1000) {i : Nat} (hi : i < 9) : rz_len (wOf N σ) (1020 + i) = some (zI (wl i)) := by
  unfold rz_len
  rw [ro_byt hN hi]
  rfl
theorem r_str (hN : N ≤ 1000) {i : Nat} (hi : i < 9) {j : Nat} (hj : j < wl i) : rz_ald (wOf N σ) (1020 + i) 2 (zI j) = some (zI (wb i j)) := by
  have hw := wl_le i hi
  unfold rz_ald
  rw [ro_byt hN hi]
  dsimp only
  have e : (zI (j : Int)).toNatClampNeg = j := by
    show (zI (j : Int)).toInt.toNat = j
    rw [zI_toInt (by omega) (by omega), Int.toNat_natCast]
  have h2 : (2 = 2) ∧ ¬ (zI (j : Int) < 0 ∨ wl i ≤ (zI (j : Int)).toNatClampNeg) := by
    refine ⟨rfl, ?_⟩
    rw [e]
    intro z
    rcases z with z | z
    · have z' : zI (j : Int) < zI 0 := z
      rw [zI_lt (by omega) (by omega)] at z'
      omega
    · omega
  rw [if_pos h2, e, strByt_wb i hi j hj]
theorem z_coder (d : Nat) (hN : N ≤ 1000) {i : Nat} (hi : i < 9) : rz_dM (d + 1) iJS_coder [.ref (1010 + i)] (wOf N σ) = some (some (.int 0), wOf N σ) := by
  simp (disch := first | omega | exact Nat.le_of_ble_eq_true rfl) only [e_JS_coder, s_JS_coder_0, s_JS_coder_3, s_JS_coder_6, s_JS_coder_7, s_JS_coder_10, s_JS_coder_13, s_JS_coder_14, Option.bind_some, Option.bind_none, Option.toList_some, Option.toList_none, List.cons_append, List.nil_append, if_true, if_false, rz_clr, true_or, or_true, z00, z11, bZ_eq0, bZ_eq1, nor_self, if_pos, if_neg, zI_add, zI_sub, zI_mul, zI_neg, zI_lt, zI_le, zI_eq, c_str, f_str1]
  try rfl
theorem z_isLatin1 (d : Nat) (hN : N ≤ 1000) {i : Nat} (hi : i < 9) : rz_dM (d + 1) iJS_isLatin1 [.ref (1010 + i)] (wOf N σ) = some (some (.int (zI 1)), wOf N σ) := by
  simp (disch := first | omega | exact Nat.le_of_ble_eq_true rfl) only [e_JS_isLatin1, s_JS_isLatin1_0, s_JS_isLatin1_3, s_JS_isLatin1_6, s_JS_isLatin1_7, s_JS_isLatin1_10, s_JS_isLatin1_13, s_JS_isLatin1_14, s_JS_isLatin1_17, s_JS_isLatin1_18, Option.bind_some, Option.bind_none, Option.toList_some, Option.toList_none, List.cons_append, List.nil_append, if_true, if_false, rz_clr, true_or, or_true, z00, z11, bZ_eq0, bZ_eq1, nor_self, if_pos, if_neg, zI_add, zI_sub, zI_mul, zI_neg, zI_lt, zI_le, zI_eq, c_str, f_str1]
  try rfl
theorem sh_0 (x : Int32) : x >>> ((0 : Int32) &&& 31) = x := by
  rw [show ((0 : Int32) &&& 31) = 0 from rfl]
  exact Int32.shiftRight_zero
theorem z_sLength (d : Nat) (hN : N ≤ 1000) {i : Nat} (hi : i < 9) : rz_dM (d + 2) iJS_length [.ref (1010 + i)] (wOf N σ) = some (some (.int (zI (wl i))), wOf N σ) := by
  simp (disch := first | omega | exact Nat.le_of_ble_eq_true rfl) only [e_JS_length, s_JS_length_0, s_JS_length_1, s_JS_length_4, s_JS_length_5, s_JS_length_6, s_JS_length_9, s_JS_length_10, Option.bind_some, Option.bind_none, Option.toList_some, Option.toList_none, List.cons_append, List.nil_append, if_true, if_false, rz_clr, true_or, or_true, z00, z11, bZ_eq0, bZ_eq1, nor_self, if_pos, if_neg, zI_add, zI_sub, zI_mul, zI_neg, zI_lt, zI_le, zI_eq, c_str, f_str0, l_str, z_coder, sh_0]
theorem z_pIndex (d : Nat) {j n : Nat} (hj : j < n) (hn : n < 1000) (l : Nat) (w : rz_W) : rz_dM (d + 1) iJP_checkIndex [.int (zI j), .int (zI n), .retAddr l] w = some (some (.int (zI j)), w) := by
  have c1 : ¬ (j : Int) < 0 := by omega
  have c2 : (j : Int) < n := by omega
  simp (disch := first | omega | exact Nat.le_of_ble_eq_true rfl) only [e_JP_checkIndex, s_JP_checkIndex_0, s_JP_checkIndex_1, s_JP_checkIndex_4, s_JP_checkIndex_5, s_JP_checkIndex_6, s_JP_checkIndex_9, s_JP_checkIndex_10, s_JP_checkIndex_11, s_JP_checkIndex_16, s_JP_checkIndex_17, Option.bind_some, Option.bind_none, Option.toList_some, Option.toList_none, List.cons_append, List.nil_append, if_true, if_false, rz_clr, true_or, or_true, z00, z11, bZ_eq0, bZ_eq1, nor_self, if_pos, if_neg, zI_add, zI_sub, zI_mul, zI_neg, zI_lt, zI_le, zI_eq, c1, c2]
theorem z_sIndex (d : Nat) {j n : Nat} (hj : j < n) (hn : n < 1000) (w : rz_W) : rz_dM (d + 2) iJS_checkIndex [.int (zI j), .int (zI n)] w = some (none, w) := by
  simp (disch := first | omega | exact Nat.le_of_ble_eq_true rfl) only [e_JS_checkIndex, s_JS_checkIndex_0, s_JS_checkIndex_1, s_JS_checkIndex_2, s_JS_checkIndex_5, s_JS_checkIndex_8, s_JS_checkIndex_9, Option.bind_some, Option.bind_none, Option.toList_some, Option.toList_none, List.cons_append, List.nil_append, if_true, if_false, rz_clr, true_or, or_true, z00, z11, bZ_eq0, bZ_eq1, nor_self, if_pos, if_neg, zI_add, zI_sub, zI_mul, zI_neg, zI_lt, zI_le, zI_eq, z_pIndex]
theorem ch_and : ∀ c : Nat, c < 128 → zI (c : Int) &&& zI 255 = zI c := by decide +kernel
theorem ch_c : ∀ c : Nat, c < 128 → ((zI (c : Int)).toUInt32 % 65536).toInt32 = zI c := by decide +kernel
theorem nw_c {c : Int} (h : 0 ≤ c ∧ c < 128) : narrow .char (.int (zI c)) = .int (zI c) := by
  obtain ⟨n, rfl⟩ : ∃ n : Nat, c = n := ⟨c.toNat, by omega⟩
  exact congrArg Value.int (ch_c n (by omega))
theorem z_lCharAt (d : Nat) (hN : N ≤ 1000) {i : Nat} (hi : i < 9) {j : Nat} (hj : j < wl i) : rz_dM (d + 3) iJL_charAt [.ref (1020 + i), .int (zI j)] (wOf N σ) = some (some (.int (zI (wb i j))), wOf N σ) := by
  have hw := wl_le i hi
  have hb := wb_rg i hi j hj
  have c1 : ¬ 1020 + i < 1000 := by omega
  obtain ⟨c, e⟩ : ∃ c : Nat, wb i j = c := ⟨(wb i j).toNat, by omega⟩
  have e1 := ch_and c (by omega)
  have e2 := ch_c c (by omega)
  have hr := r_str (N := N) (σ := σ) hN hi hj
  rw [e] at hr ⊢
  have hx := fun w => z_sIndex d (j := j) (n := wl i) hj (by omega) w
  simp (disch := first | omega | exact Nat.le_of_ble_eq_true rfl) only [e_JL_charAt, s_JL_charAt_0, s_JL_charAt_1, s_JL_charAt_2, s_JL_charAt_3, s_JL_charAt_6, s_JL_charAt_7, s_JL_charAt_8, s_JL_charAt_9, s_JL_charAt_12, s_JL_charAt_13, s_JL_charAt_14, Option.bind_some, Option.bind_none, Option.toList_some, Option.toList_none, List.cons_append, List.nil_append, if_true, if_false, rz_clr, true_or, or_true, z00, z11, bZ_eq0, bZ_eq1, nor_self, if_pos, if_neg, zI_add, zI_sub, zI_mul, zI_neg, zI_lt, zI_le, zI_eq, l_str, hx, c1, hr, e1, e2, nw_c]
theorem z_charAt (d : Nat) (hN : N ≤ 1000) {i : Nat} (hi : i < 9) {j : Nat} (hj : j < wl i) : rz_dM (d + 4) iJS_charAt [.ref (1010 + i), .int (zI j)] (wOf N σ) = some (some (.int (zI (wb i j))), wOf N σ) := by
  have hx := z_lCharAt (N := N) (σ := σ) d hN hi hj
  have hb := wb_rg i hi j hj
  have hn := nw_c (c := wb i j) (by omega)
  simp (disch := first | omega | exact Nat.le_of_ble_eq_true rfl) only [e_JS_charAt, s_JS_charAt_0, s_JS_charAt_1, s_JS_charAt_4, s_JS_charAt_7, s_JS_charAt_8, s_JS_charAt_11, s_JS_charAt_12, s_JS_charAt_15, s_JS_charAt_16, s_JS_charAt_17, s_JS_charAt_20, s_JS_charAt_24, Option.bind_some, Option.bind_none, Option.toList_some, Option.toList_none, List.cons_append, List.nil_append, if_true, if_false, rz_clr, true_or, or_true, z00, z11, bZ_eq0, bZ_eq1, nor_self, if_pos, if_neg, zI_add, zI_sub, zI_mul, zI_neg, zI_lt, zI_le, zI_eq, c_str, f_str0, z_isLatin1, hx, hn]
/-- so many bytes are the word's -/
def eqw (b : Nat → Int) (i t : Nat) : Nat → Nat → Bool
  | 0, _ => true
  | n + 1, j => decide (wb i j = b (t + j)) && eqw b i t n (j + 1)
theorem z_spells_lp (d : Nat) (h48 : 48 ≤ N) (hN : N ≤ 1000) {i : Nat} (hi : i < 9) (hs : SOK (σ 1)) {t : Nat} (ht : σ 1 4 0 = t) {len : Nat} (hl : σ 1 2 0 = len) (htl : t + wl i ≤ len) : ∀ (n j : Nat), n + j = wl i → rz_den (rz_dM (d + 4)) (rz_at tb_X2_spells) (some .boolean) 20 [some (.ref (bs 1)), some (.ref (1010 + i)), some (.int (zI j))] [] (wOf N σ) = some (some (.int (zI (bZ (eqw (σ 1 0) i t n j = true)))), wOf N σ) := by
  have hw := wl_le i hi
  have h300 := hs.1
  have hln := z_sLength (N := N) (σ := σ) (d + 2) hN hi
  intro n
  induction n with
  | zero =>
    intro j hj
    have c : ¬ (j : Int) < wl i := by omega
    rw [s_S_spells_20, eqw, bZ_pos rfl]
    simp (disch := first | omega | exact Nat.le_of_ble_eq_true rfl) only [e_S_spells, s_S_spells_0, s_S_spells_1, s_S_spells_4, s_S_spells_5, s_S_spells_8, s_S_spells_9, s_S_spells_12, s_S_spells_13, s_S_spells_16, s_S_spells_17, s_S_spells_18, s_S_spells_19, s_S_spells_21, s_S_spells_22, s_S_spells_25, s_S_spells_28, s_S_spells_29, s_S_spells_30, s_S_spells_33, s_S_spells_34, s_S_spells_35, s_S_spells_38, s_S_spells_39, s_S_spells_40, s_S_spells_43, s_S_spells_46, s_S_spells_47, s_S_spells_48, s_S_spells_51, s_S_spells_54, s_S_spells_55, Option.bind_some, Option.bind_none, Option.toList_some, Option.toList_none, List.cons_append, List.nil_append, if_true, if_false, rz_clr, true_or, or_true, z00, z11, bZ_eq0, bZ_eq1, nor_self, if_pos, if_neg, zI_add, zI_sub, zI_mul, zI_neg, zI_lt, zI_le, zI_eq, c_str, hln, c]
  | succ n ih =>
    intro j hj
    have c : (j : Int) < wl i := by omega
    have hc := z_charAt (N := N) (σ := σ) d hN hi (j := j) (by omega)
    have hb := z_byteAt (N := N) (σ := σ) (d + 2) h48 hs (i := (t : Int) + j) (by omega)
    rw [hl, if_pos (by omega), show ((t : Int) + j).toNat = t + j by omega] at hb
    have hv := hs.2 (t + j) (by omega)
    have hr := wb_rg i hi j (by omega)
    have ih' := ih (j + 1) (by omega)
    simp only [Int.natCast_add, Int.natCast_one] at ih'
    rw [s_S_spells_20, eqw]
    by_cases e : wb i j = σ 1 0 (t + j)
    · rw [decide_eq_true e, Bool.true_and]
      simp (disch := first | omega | exact Nat.le_of_ble_eq_true rfl) only [e_S_spells, s_S_spells_0, s_S_spells_1, s_S_spells_4, s_S_spells_5, s_S_spells_8, s_S_spells_9, s_S_spells_12, s_S_spells_13, s_S_spells_16, s_S_spells_17, s_S_spells_18, s_S_spells_19, s_S_spells_21, s_S_spells_22, s_S_spells_25, s_S_spells_28, s_S_spells_29, s_S_spells_30, s_S_spells_33, s_S_spells_34, s_S_spells_35, s_S_spells_38, s_S_spells_39, s_S_spells_40, s_S_spells_43, s_S_spells_46, s_S_spells_47, s_S_spells_48, s_S_spells_51, s_S_spells_54, s_S_spells_55, Option.bind_some, Option.bind_none, Option.toList_some, Option.toList_none, List.cons_append, List.nil_append, if_true, if_false, rz_clr, true_or, or_true, z00, z11, bZ_eq0, bZ_eq1, nor_self, if_pos, if_neg, zI_add, zI_sub, zI_mul, zI_neg, zI_lt, zI_le, zI_eq, c_str, c_S, f_S_0, l_S_0, r_S_0, w_S_0, f_S_1, l_S_1, r_S_1, w_S_1, f_S_2, u_S_2, f_S_3, u_S_3, f_S_4, u_S_4, f_S_5, u_S_5, f_S_6, u_S_6, f_S_7, u_S_7, f_S_8, u_S_8, f_S_9, u_S_9, hln, c, hc, ht, hb, e, ih']
    · rw [decide_eq_false e, Bool.false_and, bZ_neg (by decide)]
      simp (disch := first | omega | exact Nat.le_of_ble_eq_true rfl) only [e_S_spells, s_S_spells_0, s_S_spells_1, s_S_spells_4, s_S_spells_5, s_S_spells_8, s_S_spells_9, s_S_spells_12, s_S_spells_13, s_S_spells_16, s_S_spells_17, s_S_spells_18, s_S_spells_19, s_S_spells_21, s_S_spells_22, s_S_spells_25, s_S_spells_28, s_S_spells_29, s_S_spells_30, s_S_spells_33, s_S_spells_34, s_S_spells_35, s_S_spells_38, s_S_spells_39, s_S_spells_40, s_S_spells_43, s_S_spells_46, s_S_spells_47, s_S_spells_48, s_S_spells_51, s_S_spells_54, s_S_spells_55, Option.bind_some, Option.bind_none, Option.toList_some, Option.toList_none, List.cons_append, List.nil_append, if_true, if_false, rz_clr, true_or, or_true, z00, z11, bZ_eq0, bZ_eq1, nor_self, if_pos, if_neg, zI_add, zI_sub, zI_mul, zI_neg, zI_lt, zI_le, zI_eq, c_str, c_S, f_S_0, l_S_0, r_S_0, w_S_0, f_S_1, l_S_1, r_S_1, w_S_1, f_S_2, u_S_2, f_S_3, u_S_3, f_S_4, u_S_4, f_S_5, u_S_5, f_S_6, u_S_6, f_S_7, u_S_7, f_S_8, u_S_8, f_S_9, u_S_9, hln, c, hc, ht, hb, e]
theorem z_spells (d : Nat) (h48 : 48 ≤ N) (hN : N ≤ 1000) {i : Nat} (hi : i < 9) (hs : SOK (σ 1)) {t p : Nat} (ht : σ 1 4 0 = t) (hp : σ 1 3 0 = p) {len : Nat} (hl : σ 1 2 0 = len) (h1 : t ≤ p) (h2 : p ≤ len) : rz_dM (d + 5) iS_spells [.ref (bs 1), .ref (1010 + i)] (wOf N σ) = some (some (.int (zI (bZ (p - t = wl i ∧ eqw (σ 1 0) i t (wl i) 0 = true)))), wOf N σ) := by
  have hw := wl_le i hi
  have h300 := hs.1
  have hln := z_sLength (N := N) (σ := σ) (d + 2) hN hi
  by_cases c : p - t = wl i
  · have h := z_spells_lp (σ := σ) d h48 hN hi hs ht hl (by omega) (wl i) 0 rfl
    rw [Int.natCast_zero] at h
    have c1 : ((wl i : Nat) : Int) = p - t := by omega
    by_cases e : eqw (σ 1 0) i t (wl i) 0 = true
    · rw [bZ_pos ⟨c, e⟩]
      rw [bZ_pos e] at h
      simp (disch := first | omega | exact Nat.le_of_ble_eq_true rfl) only [e_S_spells, s_S_spells_0, s_S_spells_1, s_S_spells_4, s_S_spells_5, s_S_spells_8, s_S_spells_9, s_S_spells_12, s_S_spells_13, s_S_spells_16, s_S_spells_17, s_S_spells_18, s_S_spells_19, s_S_spells_21, s_S_spells_22, s_S_spells_25, s_S_spells_28, s_S_spells_29, s_S_spells_30, s_S_spells_33, s_S_spells_34, s_S_spells_35, s_S_spells_38, s_S_spells_39, s_S_spells_40, s_S_spells_43, s_S_spells_46, s_S_spells_47, s_S_spells_48, s_S_spells_51, s_S_spells_54, s_S_spells_55, Option.bind_some, Option.bind_none, Option.toList_some, Option.toList_none, List.cons_append, List.nil_append, if_true, if_false, rz_clr, true_or, or_true, z00, z11, bZ_eq0, bZ_eq1, nor_self, if_pos, if_neg, zI_add, zI_sub, zI_mul, zI_neg, zI_lt, zI_le, zI_eq, c_str, c_S, f_S_0, l_S_0, r_S_0, w_S_0, f_S_1, l_S_1, r_S_1, w_S_1, f_S_2, u_S_2, f_S_3, u_S_3, f_S_4, u_S_4, f_S_5, u_S_5, f_S_6, u_S_6, f_S_7, u_S_7, f_S_8, u_S_8, f_S_9, u_S_9, hln, ht, hp, c1, h]
    · rw [bZ_neg (fun z => e z.2)]
      rw [bZ_neg e] at h
      simp (disch := first | omega | exact Nat.le_of_ble_eq_true rfl) only [e_S_spells, s_S_spells_0, s_S_spells_1, s_S_spells_4, s_S_spells_5, s_S_spells_8, s_S_spells_9, s_S_spells_12, s_S_spells_13, s_S_spells_16, s_S_spells_17, s_S_spells_18, s_S_spells_19, s_S_spells_21, s_S_spells_22, s_S_spells_25, s_S_spells_28, s_S_spells_29, s_S_spells_30, s_S_spells_33, s_S_spells_34, s_S_spells_35, s_S_spells_38, s_S_spells_39, s_S_spells_40, s_S_spells_43, s_S_spells_46, s_S_spells_47, s_S_spells_48, s_S_spells_51, s_S_spells_54, s_S_spells_55, Option.bind_some, Option.bind_none, Option.toList_some, Option.toList_none, List.cons_append, List.nil_append, if_true, if_false, rz_clr, true_or, or_true, z00, z11, bZ_eq0, bZ_eq1, nor_self, if_pos, if_neg, zI_add, zI_sub, zI_mul, zI_neg, zI_lt, zI_le, zI_eq, c_str, c_S, f_S_0, l_S_0, r_S_0, w_S_0, f_S_1, l_S_1, r_S_1, w_S_1, f_S_2, u_S_2, f_S_3, u_S_3, f_S_4, u_S_4, f_S_5, u_S_5, f_S_6, u_S_6, f_S_7, u_S_7, f_S_8, u_S_8, f_S_9, u_S_9, hln, ht, hp, c1, h]
  · have c1 : ¬ ((wl i : Nat) : Int) = p - t := by omega
    rw [bZ_neg (fun z => c z.1)]
    simp (disch := first | omega | exact Nat.le_of_ble_eq_true rfl) only [e_S_spells, s_S_spells_0, s_S_spells_1, s_S_spells_4, s_S_spells_5, s_S_spells_8, s_S_spells_9, s_S_spells_12, s_S_spells_13, s_S_spells_16, s_S_spells_17, s_S_spells_18, s_S_spells_19, s_S_spells_21, s_S_spells_22, s_S_spells_25, s_S_spells_28, s_S_spells_29, s_S_spells_30, s_S_spells_33, s_S_spells_34, s_S_spells_35, s_S_spells_38, s_S_spells_39, s_S_spells_40, s_S_spells_43, s_S_spells_46, s_S_spells_47, s_S_spells_48, s_S_spells_51, s_S_spells_54, s_S_spells_55, Option.bind_some, Option.bind_none, Option.toList_some, Option.toList_none, List.cons_append, List.nil_append, if_true, if_false, rz_clr, true_or, or_true, z00, z11, bZ_eq0, bZ_eq1, nor_self, if_pos, if_neg, zI_add, zI_sub, zI_mul, zI_neg, zI_lt, zI_le, zI_eq, c_str, c_S, f_S_0, l_S_0, r_S_0, w_S_0, f_S_1, l_S_1, r_S_1, w_S_1, f_S_2, u_S_2, f_S_3, u_S_3, f_S_4, u_S_4, f_S_5, u_S_5, f_S_6, u_S_6, f_S_7, u_S_7, f_S_8, u_S_8, f_S_9, u_S_9, hln, ht, hp, c1]
/-- the item a word names -/
def wdA (b : Nat → Int) (t l : Nat) : Nat → Nat → Int
  | 0, _ => -9
  | n + 1, i => if l = wl i ∧ eqw b i t (wl i) 0 = true then (i : Int) else wdA b t l n (i + 1)
theorem wdA_rg (b : Nat → Int) (t l : Nat) : ∀ (n i : Nat), n + i ≤ 9 → wdA b t l n i = -9 ∨ (0 ≤ wdA b t l n i ∧ wdA b t l n i ≤ 8) := by
  intro n
  induction n with
  | zero => intro i _; exact Or.inl rfl
  | succ n ih =>
    intro i h
    rw [wdA]
    split
    · right; omega
    · exact ih (i + 1) (by omega)
theorem z_itemNamed (d : Nat) (h48 : 48 ≤ N) (hN : N ≤ 1000) (hs : SOK (σ 1)) {t p : Nat} (ht : σ 1 4 0 = t) (hp : σ 1 3 0 = p) {len : Nat} (hl : σ 1 2 0 = len) (t1 : t ≤ p) (t2 : p ≤ len) : rz_dM (d + 6) iS_itemNamed [.ref (bs 1)] (wOf N σ) = some (some (.int (zI (wdA (σ 1 0) t (p - t) 9 0))), wOf N σ) := by
  have h0 := z_spells (N := N) (σ := σ) d h48 hN (i := 0) (by decide) hs ht hp hl t1 t2
  rw [show 1010 + 0 = 1010 from rfl] at h0
  have h1 := z_spells (N := N) (σ := σ) d h48 hN (i := 1) (by decide) hs ht hp hl t1 t2
  rw [show 1010 + 1 = 1011 from rfl] at h1
  have h2 := z_spells (N := N) (σ := σ) d h48 hN (i := 2) (by decide) hs ht hp hl t1 t2
  rw [show 1010 + 2 = 1012 from rfl] at h2
  have h3 := z_spells (N := N) (σ := σ) d h48 hN (i := 3) (by decide) hs ht hp hl t1 t2
  rw [show 1010 + 3 = 1013 from rfl] at h3
  have h4 := z_spells (N := N) (σ := σ) d h48 hN (i := 4) (by decide) hs ht hp hl t1 t2
  rw [show 1010 + 4 = 1014 from rfl] at h4
  have h5 := z_spells (N := N) (σ := σ) d h48 hN (i := 5) (by decide) hs ht hp hl t1 t2
  rw [show 1010 + 5 = 1015 from rfl] at h5
  have h6 := z_spells (N := N) (σ := σ) d h48 hN (i := 6) (by decide) hs ht hp hl t1 t2
  rw [show 1010 + 6 = 1016 from rfl] at h6
  have h7 := z_spells (N := N) (σ := σ) d h48 hN (i := 7) (by decide) hs ht hp hl t1 t2
  rw [show 1010 + 7 = 1017 from rfl] at h7
  have h8 := z_spells (N := N) (σ := σ) d h48 hN (i := 8) (by decide) hs ht hp hl t1 t2
  rw [show 1010 + 8 = 1018 from rfl] at h8
  rw [wdA]
  by_cases c0 : p - t = wl 0 ∧ eqw (σ 1 0) 0 t (wl 0) 0 = true
  · rw [if_pos c0]
    rw [bZ_pos c0] at h0
    simp (disch := first | omega | exact Nat.le_of_ble_eq_true rfl) only [e_S_itemNamed, s_S_itemNamed_0, s_S_itemNamed_1, s_S_itemNamed_3, s_S_itemNamed_6, s_S_itemNamed_9, s_S_itemNamed_10, s_S_itemNamed_11, s_S_itemNamed_12, s_S_itemNamed_14, s_S_itemNamed_17, s_S_itemNamed_20, s_S_itemNamed_21, s_S_itemNamed_22, s_S_itemNamed_23, s_S_itemNamed_25, s_S_itemNamed_28, s_S_itemNamed_31, s_S_itemNamed_32, s_S_itemNamed_33, s_S_itemNamed_34, s_S_itemNamed_36, s_S_itemNamed_39, s_S_itemNamed_42, s_S_itemNamed_43, s_S_itemNamed_44, s_S_itemNamed_45, s_S_itemNamed_47, s_S_itemNamed_50, s_S_itemNamed_53, s_S_itemNamed_54, s_S_itemNamed_55, s_S_itemNamed_56, s_S_itemNamed_58, s_S_itemNamed_61, s_S_itemNamed_64, s_S_itemNamed_65, s_S_itemNamed_66, s_S_itemNamed_67, s_S_itemNamed_69, s_S_itemNamed_72, s_S_itemNamed_75, s_S_itemNamed_77, s_S_itemNamed_78, s_S_itemNamed_79, s_S_itemNamed_81, s_S_itemNamed_84, s_S_itemNamed_87, s_S_itemNamed_89, s_S_itemNamed_90, s_S_itemNamed_91, s_S_itemNamed_93, s_S_itemNamed_96, s_S_itemNamed_99, s_S_itemNamed_101, s_S_itemNamed_104, s_S_itemNamed_106, Option.bind_some, Option.bind_none, Option.toList_some, Option.toList_none, List.cons_append, List.nil_append, if_true, if_false, rz_clr, true_or, or_true, z00, z11, bZ_eq0, bZ_eq1, nor_self, if_pos, if_neg, zI_add, zI_sub, zI_mul, zI_neg, zI_lt, zI_le, zI_eq, c_S, f_S_0, l_S_0, r_S_0, w_S_0, f_S_1, l_S_1, r_S_1, w_S_1, f_S_2, u_S_2, f_S_3, u_S_3, f_S_4, u_S_4, f_S_5, u_S_5, f_S_6, u_S_6, f_S_7, u_S_7, f_S_8, u_S_8, f_S_9, u_S_9, h0]
    try rfl
  · rw [if_neg c0]
    rw [bZ_neg c0] at h0
    rw [wdA]
    by_cases c1 : p - t = wl 1 ∧ eqw (σ 1 0) 1 t (wl 1) 0 = true
    · rw [if_pos c1]
      rw [bZ_pos c1] at h1
      simp (disch := first | omega | exact Nat.le_of_ble_eq_true rfl) only [e_S_itemNamed, s_S_itemNamed_0, s_S_itemNamed_1, s_S_itemNamed_3, s_S_itemNamed_6, s_S_itemNamed_9, s_S_itemNamed_10, s_S_itemNamed_11, s_S_itemNamed_12, s_S_itemNamed_14, s_S_itemNamed_17, s_S_itemNamed_20, s_S_itemNamed_21, s_S_itemNamed_22, s_S_itemNamed_23, s_S_itemNamed_25, s_S_itemNamed_28, s_S_itemNamed_31, s_S_itemNamed_32, s_S_itemNamed_33, s_S_itemNamed_34, s_S_itemNamed_36, s_S_itemNamed_39, s_S_itemNamed_42, s_S_itemNamed_43, s_S_itemNamed_44, s_S_itemNamed_45, s_S_itemNamed_47, s_S_itemNamed_50, s_S_itemNamed_53, s_S_itemNamed_54, s_S_itemNamed_55, s_S_itemNamed_56, s_S_itemNamed_58, s_S_itemNamed_61, s_S_itemNamed_64, s_S_itemNamed_65, s_S_itemNamed_66, s_S_itemNamed_67, s_S_itemNamed_69, s_S_itemNamed_72, s_S_itemNamed_75, s_S_itemNamed_77, s_S_itemNamed_78, s_S_itemNamed_79, s_S_itemNamed_81, s_S_itemNamed_84, s_S_itemNamed_87, s_S_itemNamed_89, s_S_itemNamed_90, s_S_itemNamed_91, s_S_itemNamed_93, s_S_itemNamed_96, s_S_itemNamed_99, s_S_itemNamed_101, s_S_itemNamed_104, s_S_itemNamed_106, Option.bind_some, Option.bind_none, Option.toList_some, Option.toList_none, List.cons_append, List.nil_append, if_true, if_false, rz_clr, true_or, or_true, z00, z11, bZ_eq0, bZ_eq1, nor_self, if_pos, if_neg, zI_add, zI_sub, zI_mul, zI_neg, zI_lt, zI_le, zI_eq, c_S, f_S_0, l_S_0, r_S_0, w_S_0, f_S_1, l_S_1, r_S_1, w_S_1, f_S_2, u_S_2, f_S_3, u_S_3, f_S_4, u_S_4, f_S_5, u_S_5, f_S_6, u_S_6, f_S_7, u_S_7, f_S_8, u_S_8, f_S_9, u_S_9, h0, h1]
      try rfl
    · rw [if_neg c1]
      rw [bZ_neg c1] at h1
      rw [wdA]
      by_cases c2 : p - t = wl 2 ∧ eqw (σ 1 0) 2 t (wl 2) 0 = true
      · rw [if_pos c2]
        rw [bZ_pos c2] at h2
        simp (disch := first | omega | exact Nat.le_of_ble_eq_true rfl) only [e_S_itemNamed, s_S_itemNamed_0, s_S_itemNamed_1, s_S_itemNamed_3, s_S_itemNamed_6, s_S_itemNamed_9, s_S_itemNamed_10, s_S_itemNamed_11, s_S_itemNamed_12, s_S_itemNamed_14, s_S_itemNamed_17, s_S_itemNamed_20, s_S_itemNamed_21, s_S_itemNamed_22, s_S_itemNamed_23, s_S_itemNamed_25, s_S_itemNamed_28, s_S_itemNamed_31, s_S_itemNamed_32, s_S_itemNamed_33, s_S_itemNamed_34, s_S_itemNamed_36, s_S_itemNamed_39, s_S_itemNamed_42, s_S_itemNamed_43, s_S_itemNamed_44, s_S_itemNamed_45, s_S_itemNamed_47, s_S_itemNamed_50, s_S_itemNamed_53, s_S_itemNamed_54, s_S_itemNamed_55, s_S_itemNamed_56, s_S_itemNamed_58, s_S_itemNamed_61, s_S_itemNamed_64, s_S_itemNamed_65, s_S_itemNamed_66, s_S_itemNamed_67, s_S_itemNamed_69, s_S_itemNamed_72, s_S_itemNamed_75, s_S_itemNamed_77, s_S_itemNamed_78, s_S_itemNamed_79, s_S_itemNamed_81, s_S_itemNamed_84, s_S_itemNamed_87, s_S_itemNamed_89, s_S_itemNamed_90, s_S_itemNamed_91, s_S_itemNamed_93, s_S_itemNamed_96, s_S_itemNamed_99, s_S_itemNamed_101, s_S_itemNamed_104, s_S_itemNamed_106, Option.bind_some, Option.bind_none, Option.toList_some, Option.toList_none, List.cons_append, List.nil_append, if_true, if_false, rz_clr, true_or, or_true, z00, z11, bZ_eq0, bZ_eq1, nor_self, if_pos, if_neg, zI_add, zI_sub, zI_mul, zI_neg, zI_lt, zI_le, zI_eq, c_S, f_S_0, l_S_0, r_S_0, w_S_0, f_S_1, l_S_1, r_S_1, w_S_1, f_S_2, u_S_2, f_S_3, u_S_3, f_S_4, u_S_4, f_S_5, u_S_5, f_S_6, u_S_6, f_S_7, u_S_7, f_S_8, u_S_8, f_S_9, u_S_9, h0, h1, h2]
        try rfl
      · rw [if_neg c2]
        rw [bZ_neg c2] at h2
        rw [wdA]
        by_cases c3 : p - t = wl 3 ∧ eqw (σ 1 0) 3 t (wl 3) 0 = true
        · rw [if_pos c3]
          rw [bZ_pos c3] at h3
          simp (disch := first | omega | exact Nat.le_of_ble_eq_true rfl) only [e_S_itemNamed, s_S_itemNamed_0, s_S_itemNamed_1, s_S_itemNamed_3, s_S_itemNamed_6, s_S_itemNamed_9, s_S_itemNamed_10, s_S_itemNamed_11, s_S_itemNamed_12, s_S_itemNamed_14, s_S_itemNamed_17, s_S_itemNamed_20, s_S_itemNamed_21, s_S_itemNamed_22, s_S_itemNamed_23, s_S_itemNamed_25, s_S_itemNamed_28, s_S_itemNamed_31, s_S_itemNamed_32, s_S_itemNamed_33, s_S_itemNamed_34, s_S_itemNamed_36, s_S_itemNamed_39, s_S_itemNamed_42, s_S_itemNamed_43, s_S_itemNamed_44, s_S_itemNamed_45, s_S_itemNamed_47, s_S_itemNamed_50, s_S_itemNamed_53, s_S_itemNamed_54, s_S_itemNamed_55, s_S_itemNamed_56, s_S_itemNamed_58, s_S_itemNamed_61, s_S_itemNamed_64, s_S_itemNamed_65, s_S_itemNamed_66, s_S_itemNamed_67, s_S_itemNamed_69, s_S_itemNamed_72, s_S_itemNamed_75, s_S_itemNamed_77, s_S_itemNamed_78, s_S_itemNamed_79, s_S_itemNamed_81, s_S_itemNamed_84, s_S_itemNamed_87, s_S_itemNamed_89, s_S_itemNamed_90, s_S_itemNamed_91, s_S_itemNamed_93, s_S_itemNamed_96, s_S_itemNamed_99, s_S_itemNamed_101, s_S_itemNamed_104, s_S_itemNamed_106, Option.bind_some, Option.bind_none, Option.toList_some, Option.toList_none, List.cons_append, List.nil_append, if_true, if_false, rz_clr, true_or, or_true, z00, z11, bZ_eq0, bZ_eq1, nor_self, if_pos, if_neg, zI_add, zI_sub, zI_mul, zI_neg, zI_lt, zI_le, zI_eq, c_S, f_S_0, l_S_0, r_S_0, w_S_0, f_S_1, l_S_1, r_S_1, w_S_1, f_S_2, u_S_2, f_S_3, u_S_3, f_S_4, u_S_4, f_S_5, u_S_5, f_S_6, u_S_6, f_S_7, u_S_7, f_S_8, u_S_8, f_S_9, u_S_9, h0, h1, h2, h3]
          try rfl
        · rw [if_neg c3]
          rw [bZ_neg c3] at h3
          rw [wdA]
          by_cases c4 : p - t = wl 4 ∧ eqw (σ 1 0) 4 t (wl 4) 0 = true
          · rw [if_pos c4]
            rw [bZ_pos c4] at h4
            simp (disch := first | omega | exact Nat.le_of_ble_eq_true rfl) only [e_S_itemNamed, s_S_itemNamed_0, s_S_itemNamed_1, s_S_itemNamed_3, s_S_itemNamed_6, s_S_itemNamed_9, s_S_itemNamed_10, s_S_itemNamed_11, s_S_itemNamed_12, s_S_itemNamed_14, s_S_itemNamed_17, s_S_itemNamed_20, s_S_itemNamed_21, s_S_itemNamed_22, s_S_itemNamed_23, s_S_itemNamed_25, s_S_itemNamed_28, s_S_itemNamed_31, s_S_itemNamed_32, s_S_itemNamed_33, s_S_itemNamed_34, s_S_itemNamed_36, s_S_itemNamed_39, s_S_itemNamed_42, s_S_itemNamed_43, s_S_itemNamed_44, s_S_itemNamed_45, s_S_itemNamed_47, s_S_itemNamed_50, s_S_itemNamed_53, s_S_itemNamed_54, s_S_itemNamed_55, s_S_itemNamed_56, s_S_itemNamed_58, s_S_itemNamed_61, s_S_itemNamed_64, s_S_itemNamed_65, s_S_itemNamed_66, s_S_itemNamed_67, s_S_itemNamed_69, s_S_itemNamed_72, s_S_itemNamed_75, s_S_itemNamed_77, s_S_itemNamed_78, s_S_itemNamed_79, s_S_itemNamed_81, s_S_itemNamed_84, s_S_itemNamed_87, s_S_itemNamed_89, s_S_itemNamed_90, s_S_itemNamed_91, s_S_itemNamed_93, s_S_itemNamed_96, s_S_itemNamed_99, s_S_itemNamed_101, s_S_itemNamed_104, s_S_itemNamed_106, Option.bind_some, Option.bind_none, Option.toList_some, Option.toList_none, List.cons_append, List.nil_append, if_true, if_false, rz_clr, true_or, or_true, z00, z11, bZ_eq0, bZ_eq1, nor_self, if_pos, if_neg, zI_add, zI_sub, zI_mul, zI_neg, zI_lt, zI_le, zI_eq, c_S, f_S_0, l_S_0, r_S_0, w_S_0, f_S_1, l_S_1, r_S_1, w_S_1, f_S_2, u_S_2, f_S_3, u_S_3, f_S_4, u_S_4, f_S_5, u_S_5, f_S_6, u_S_6, f_S_7, u_S_7, f_S_8, u_S_8, f_S_9, u_S_9, h0, h1, h2, h3, h4]
            try rfl
          · rw [if_neg c4]
            rw [bZ_neg c4] at h4
            rw [wdA]
            by_cases c5 : p - t = wl 5 ∧ eqw (σ 1 0) 5 t (wl 5) 0 = true
            · rw [if_pos c5]
              rw [bZ_pos c5] at h5
              simp (disch := first | omega | exact Nat.le_of_ble_eq_true rfl) only [e_S_itemNamed, s_S_itemNamed_0, s_S_itemNamed_1, s_S_itemNamed_3, s_S_itemNamed_6, s_S_itemNamed_9, s_S_itemNamed_10, s_S_itemNamed_11, s_S_itemNamed_12, s_S_itemNamed_14, s_S_itemNamed_17, s_S_itemNamed_20, s_S_itemNamed_21, s_S_itemNamed_22, s_S_itemNamed_23, s_S_itemNamed_25, s_S_itemNamed_28, s_S_itemNamed_31, s_S_itemNamed_32, s_S_itemNamed_33, s_S_itemNamed_34, s_S_itemNamed_36, s_S_itemNamed_39, s_S_itemNamed_42, s_S_itemNamed_43, s_S_itemNamed_44, s_S_itemNamed_45, s_S_itemNamed_47, s_S_itemNamed_50, s_S_itemNamed_53, s_S_itemNamed_54, s_S_itemNamed_55, s_S_itemNamed_56, s_S_itemNamed_58, s_S_itemNamed_61, s_S_itemNamed_64, s_S_itemNamed_65, s_S_itemNamed_66, s_S_itemNamed_67, s_S_itemNamed_69, s_S_itemNamed_72, s_S_itemNamed_75, s_S_itemNamed_77, s_S_itemNamed_78, s_S_itemNamed_79, s_S_itemNamed_81, s_S_itemNamed_84, s_S_itemNamed_87, s_S_itemNamed_89, s_S_itemNamed_90, s_S_itemNamed_91, s_S_itemNamed_93, s_S_itemNamed_96, s_S_itemNamed_99, s_S_itemNamed_101, s_S_itemNamed_104, s_S_itemNamed_106, Option.bind_some, Option.bind_none, Option.toList_some, Option.toList_none, List.cons_append, List.nil_append, if_true, if_false, rz_clr, true_or, or_true, z00, z11, bZ_eq0, bZ_eq1, nor_self, if_pos, if_neg, zI_add, zI_sub, zI_mul, zI_neg, zI_lt, zI_le, zI_eq, c_S, f_S_0, l_S_0, r_S_0, w_S_0, f_S_1, l_S_1, r_S_1, w_S_1, f_S_2, u_S_2, f_S_3, u_S_3, f_S_4, u_S_4, f_S_5, u_S_5, f_S_6, u_S_6, f_S_7, u_S_7, f_S_8, u_S_8, f_S_9, u_S_9, h0, h1, h2, h3, h4, h5]
              try rfl
            · rw [if_neg c5]
              rw [bZ_neg c5] at h5
              rw [wdA]
              by_cases c6 : p - t = wl 6 ∧ eqw (σ 1 0) 6 t (wl 6) 0 = true
              · rw [if_pos c6]
                rw [bZ_pos c6] at h6
                simp (disch := first | omega | exact Nat.le_of_ble_eq_true rfl) only [e_S_itemNamed, s_S_itemNamed_0, s_S_itemNamed_1, s_S_itemNamed_3, s_S_itemNamed_6, s_S_itemNamed_9, s_S_itemNamed_10, s_S_itemNamed_11, s_S_itemNamed_12, s_S_itemNamed_14, s_S_itemNamed_17, s_S_itemNamed_20, s_S_itemNamed_21, s_S_itemNamed_22, s_S_itemNamed_23, s_S_itemNamed_25, s_S_itemNamed_28, s_S_itemNamed_31, s_S_itemNamed_32, s_S_itemNamed_33, s_S_itemNamed_34, s_S_itemNamed_36, s_S_itemNamed_39, s_S_itemNamed_42, s_S_itemNamed_43, s_S_itemNamed_44, s_S_itemNamed_45, s_S_itemNamed_47, s_S_itemNamed_50, s_S_itemNamed_53, s_S_itemNamed_54, s_S_itemNamed_55, s_S_itemNamed_56, s_S_itemNamed_58, s_S_itemNamed_61, s_S_itemNamed_64, s_S_itemNamed_65, s_S_itemNamed_66, s_S_itemNamed_67, s_S_itemNamed_69, s_S_itemNamed_72, s_S_itemNamed_75, s_S_itemNamed_77, s_S_itemNamed_78, s_S_itemNamed_79, s_S_itemNamed_81, s_S_itemNamed_84, s_S_itemNamed_87, s_S_itemNamed_89, s_S_itemNamed_90, s_S_itemNamed_91, s_S_itemNamed_93, s_S_itemNamed_96, s_S_itemNamed_99, s_S_itemNamed_101, s_S_itemNamed_104, s_S_itemNamed_106, Option.bind_some, Option.bind_none, Option.toList_some, Option.toList_none, List.cons_append, List.nil_append, if_true, if_false, rz_clr, true_or, or_true, z00, z11, bZ_eq0, bZ_eq1, nor_self, if_pos, if_neg, zI_add, zI_sub, zI_mul, zI_neg, zI_lt, zI_le, zI_eq, c_S, f_S_0, l_S_0, r_S_0, w_S_0, f_S_1, l_S_1, r_S_1, w_S_1, f_S_2, u_S_2, f_S_3, u_S_3, f_S_4, u_S_4, f_S_5, u_S_5, f_S_6, u_S_6, f_S_7, u_S_7, f_S_8, u_S_8, f_S_9, u_S_9, h0, h1, h2, h3, h4, h5, h6]
                try rfl
              · rw [if_neg c6]
                rw [bZ_neg c6] at h6
                rw [wdA]
                by_cases c7 : p - t = wl 7 ∧ eqw (σ 1 0) 7 t (wl 7) 0 = true
                · rw [if_pos c7]
                  rw [bZ_pos c7] at h7
                  simp (disch := first | omega | exact Nat.le_of_ble_eq_true rfl) only [e_S_itemNamed, s_S_itemNamed_0, s_S_itemNamed_1, s_S_itemNamed_3, s_S_itemNamed_6, s_S_itemNamed_9, s_S_itemNamed_10, s_S_itemNamed_11, s_S_itemNamed_12, s_S_itemNamed_14, s_S_itemNamed_17, s_S_itemNamed_20, s_S_itemNamed_21, s_S_itemNamed_22, s_S_itemNamed_23, s_S_itemNamed_25, s_S_itemNamed_28, s_S_itemNamed_31, s_S_itemNamed_32, s_S_itemNamed_33, s_S_itemNamed_34, s_S_itemNamed_36, s_S_itemNamed_39, s_S_itemNamed_42, s_S_itemNamed_43, s_S_itemNamed_44, s_S_itemNamed_45, s_S_itemNamed_47, s_S_itemNamed_50, s_S_itemNamed_53, s_S_itemNamed_54, s_S_itemNamed_55, s_S_itemNamed_56, s_S_itemNamed_58, s_S_itemNamed_61, s_S_itemNamed_64, s_S_itemNamed_65, s_S_itemNamed_66, s_S_itemNamed_67, s_S_itemNamed_69, s_S_itemNamed_72, s_S_itemNamed_75, s_S_itemNamed_77, s_S_itemNamed_78, s_S_itemNamed_79, s_S_itemNamed_81, s_S_itemNamed_84, s_S_itemNamed_87, s_S_itemNamed_89, s_S_itemNamed_90, s_S_itemNamed_91, s_S_itemNamed_93, s_S_itemNamed_96, s_S_itemNamed_99, s_S_itemNamed_101, s_S_itemNamed_104, s_S_itemNamed_106, Option.bind_some, Option.bind_none, Option.toList_some, Option.toList_none, List.cons_append, List.nil_append, if_true, if_false, rz_clr, true_or, or_true, z00, z11, bZ_eq0, bZ_eq1, nor_self, if_pos, if_neg, zI_add, zI_sub, zI_mul, zI_neg, zI_lt, zI_le, zI_eq, c_S, f_S_0, l_S_0, r_S_0, w_S_0, f_S_1, l_S_1, r_S_1, w_S_1, f_S_2, u_S_2, f_S_3, u_S_3, f_S_4, u_S_4, f_S_5, u_S_5, f_S_6, u_S_6, f_S_7, u_S_7, f_S_8, u_S_8, f_S_9, u_S_9, h0, h1, h2, h3, h4, h5, h6, h7]
                  try rfl
                · rw [if_neg c7]
                  rw [bZ_neg c7] at h7
                  rw [wdA]
                  by_cases c8 : p - t = wl 8 ∧ eqw (σ 1 0) 8 t (wl 8) 0 = true
                  · rw [if_pos c8]
                    rw [bZ_pos c8] at h8
                    simp (disch := first | omega | exact Nat.le_of_ble_eq_true rfl) only [e_S_itemNamed, s_S_itemNamed_0, s_S_itemNamed_1, s_S_itemNamed_3, s_S_itemNamed_6, s_S_itemNamed_9, s_S_itemNamed_10, s_S_itemNamed_11, s_S_itemNamed_12, s_S_itemNamed_14, s_S_itemNamed_17, s_S_itemNamed_20, s_S_itemNamed_21, s_S_itemNamed_22, s_S_itemNamed_23, s_S_itemNamed_25, s_S_itemNamed_28, s_S_itemNamed_31, s_S_itemNamed_32, s_S_itemNamed_33, s_S_itemNamed_34, s_S_itemNamed_36, s_S_itemNamed_39, s_S_itemNamed_42, s_S_itemNamed_43, s_S_itemNamed_44, s_S_itemNamed_45, s_S_itemNamed_47, s_S_itemNamed_50, s_S_itemNamed_53, s_S_itemNamed_54, s_S_itemNamed_55, s_S_itemNamed_56, s_S_itemNamed_58, s_S_itemNamed_61, s_S_itemNamed_64, s_S_itemNamed_65, s_S_itemNamed_66, s_S_itemNamed_67, s_S_itemNamed_69, s_S_itemNamed_72, s_S_itemNamed_75, s_S_itemNamed_77, s_S_itemNamed_78, s_S_itemNamed_79, s_S_itemNamed_81, s_S_itemNamed_84, s_S_itemNamed_87, s_S_itemNamed_89, s_S_itemNamed_90, s_S_itemNamed_91, s_S_itemNamed_93, s_S_itemNamed_96, s_S_itemNamed_99, s_S_itemNamed_101, s_S_itemNamed_104, s_S_itemNamed_106, Option.bind_some, Option.bind_none, Option.toList_some, Option.toList_none, List.cons_append, List.nil_append, if_true, if_false, rz_clr, true_or, or_true, z00, z11, bZ_eq0, bZ_eq1, nor_self, if_pos, if_neg, zI_add, zI_sub, zI_mul, zI_neg, zI_lt, zI_le, zI_eq, c_S, f_S_0, l_S_0, r_S_0, w_S_0, f_S_1, l_S_1, r_S_1, w_S_1, f_S_2, u_S_2, f_S_3, u_S_3, f_S_4, u_S_4, f_S_5, u_S_5, f_S_6, u_S_6, f_S_7, u_S_7, f_S_8, u_S_8, f_S_9, u_S_9, h0, h1, h2, h3, h4, h5, h6, h7, h8]
                    try rfl
                  · rw [if_neg c8]
                    rw [bZ_neg c8] at h8
                    rw [wdA]
                    simp (disch := first | omega | exact Nat.le_of_ble_eq_true rfl) only [e_S_itemNamed, s_S_itemNamed_0, s_S_itemNamed_1, s_S_itemNamed_3, s_S_itemNamed_6, s_S_itemNamed_9, s_S_itemNamed_10, s_S_itemNamed_11, s_S_itemNamed_12, s_S_itemNamed_14, s_S_itemNamed_17, s_S_itemNamed_20, s_S_itemNamed_21, s_S_itemNamed_22, s_S_itemNamed_23, s_S_itemNamed_25, s_S_itemNamed_28, s_S_itemNamed_31, s_S_itemNamed_32, s_S_itemNamed_33, s_S_itemNamed_34, s_S_itemNamed_36, s_S_itemNamed_39, s_S_itemNamed_42, s_S_itemNamed_43, s_S_itemNamed_44, s_S_itemNamed_45, s_S_itemNamed_47, s_S_itemNamed_50, s_S_itemNamed_53, s_S_itemNamed_54, s_S_itemNamed_55, s_S_itemNamed_56, s_S_itemNamed_58, s_S_itemNamed_61, s_S_itemNamed_64, s_S_itemNamed_65, s_S_itemNamed_66, s_S_itemNamed_67, s_S_itemNamed_69, s_S_itemNamed_72, s_S_itemNamed_75, s_S_itemNamed_77, s_S_itemNamed_78, s_S_itemNamed_79, s_S_itemNamed_81, s_S_itemNamed_84, s_S_itemNamed_87, s_S_itemNamed_89, s_S_itemNamed_90, s_S_itemNamed_91, s_S_itemNamed_93, s_S_itemNamed_96, s_S_itemNamed_99, s_S_itemNamed_101, s_S_itemNamed_104, s_S_itemNamed_106, Option.bind_some, Option.bind_none, Option.toList_some, Option.toList_none, List.cons_append, List.nil_append, if_true, if_false, rz_clr, true_or, or_true, z00, z11, bZ_eq0, bZ_eq1, nor_self, if_pos, if_neg, zI_add, zI_sub, zI_mul, zI_neg, zI_lt, zI_le, zI_eq, c_S, f_S_0, l_S_0, r_S_0, w_S_0, f_S_1, l_S_1, r_S_1, w_S_1, f_S_2, u_S_2, f_S_3, u_S_3, f_S_4, u_S_4, f_S_5, u_S_5, f_S_6, u_S_6, f_S_7, u_S_7, f_S_8, u_S_8, f_S_9, u_S_9, h0, h1, h2, h3, h4, h5, h6, h7, h8]
/-- a word is taken -/
def wrdW (s : zP) (p len : Nat) : zP := pset (pset (pset s 3 (fun _ => ((p + scn isLt (s 0) (len - p) p : Nat) : Int))) 5 (fun _ => 0)) 6 (fun _ => wdA (s 0) p (scn isLt (s 0) (len - p) p) 9 0)
theorem z_takeWord (d : Nat) (h48 : 48 ≤ N) (hN : N ≤ 1000) {s : zP} (hs : SOK s) {p len : Nat} (hl : s 2 0 = len) (h4 : s 4 0 = p) (hp : p ≤ len) : rz_dM (d + 7) iS_takeWord [.ref (bs 1)] (wOf N (gset σ 1 (pset s 3 (fun _ => (p : Int))))) = some (none, wOf N (gset σ 1 (wrdW s p len))) := by
  have hq := scn_le isLt (s 0) (len - p) p
  have hlt := z_letters (N := N) (σ := σ) (d + 4) h48 hs hl (len - p) p (by omega)
  have hi := z_itemNamed (N := N) (σ := gset σ 1 (pset (pset s 3 (fun _ => ((p + scn isLt (s 0) (len - p) p : Nat) : Int))) 5 (fun _ => 0))) d h48 hN (t := p) (p := p + scn isLt (s 0) (len - p) p) (len := len) (by rw [gset_at]; exact SOK_p (SOK_p hs 3 (by decide) (by decide) _) 5 (by decide) (by decide) _) (by rw [gset_at, pset_ne (by decide), pset_ne (by decide)]; exact h4) (by rw [gset_at, pset_ne (by decide), pset_eq]) (by rw [gset_at, pset_ne (by decide), pset_ne (by decide)]; exact hl) (by omega) (by omega)
  rw [gset_at, pset_ne (by decide), pset_ne (by decide), show p + scn isLt (s 0) (len - p) p - p = scn isLt (s 0) (len - p) p by omega] at hi
  unfold wrdW
  simp (disch := first | omega | exact Nat.le_of_ble_eq_true rfl) only [e_S_takeWord, s_S_takeWord_1, s_S_takeWord_4, s_S_takeWord_5, s_S_takeWord_8, s_S_takeWord_11, s_S_takeWord_12, s_S_takeWord_13, s_S_takeWord_16, s_S_takeWord_19, s_S_takeWord_22, s_S_takeWord_25, s_S_takeWord_26, s_S_takeWord_27, s_S_takeWord_30, s_S_takeWord_31, s_S_takeWord_32, s_S_takeWord_35, s_S_takeWord_38, s_S_takeWord_39, s_S_takeWord_40, s_S_takeWord_43, s_S_takeWord_44, s_S_takeWord_45, s_S_takeWord_48, s_S_takeWord_51, Option.bind_some, Option.bind_none, Option.toList_some, Option.toList_none, List.cons_append, List.nil_append, if_true, if_false, rz_clr, true_or, or_true, z00, z11, bZ_eq0, bZ_eq1, nor_self, if_pos, if_neg, zI_add, zI_sub, zI_mul, zI_neg, zI_lt, zI_le, zI_eq, c_S, f_S_0, l_S_0, r_S_0, w_S_0, f_S_1, l_S_1, r_S_1, w_S_1, f_S_2, u_S_2, f_S_3, u_S_3, f_S_4, u_S_4, f_S_5, u_S_5, f_S_6, u_S_6, f_S_7, u_S_7, f_S_8, u_S_8, f_S_9, u_S_9, sset_eq, gset_at, gset_gset, gset_ne, pset_eq, pset_ne, hlt, hi]
end WD
