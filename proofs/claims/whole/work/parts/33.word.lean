-- the script's words
def wds : List (List Int) := [[98, 111, 97, 114, 100], [112, 105, 116], [98, 101, 108, 108], [119, 97, 108, 108], [108, 97, 119], [109, 97, 110], [104, 111, 109, 101], [117, 115, 101, 115], [114, 101, 102, 117, 115, 101, 115]]
def wl (i : Nat) : Nat := (wds.getD i []).length
def wb (i j : Nat) : Int := (wds.getD i []).getD j 0
theorem strLen_wl : ∀ i, i < 9 → rz_strLen.getD i 0 = wl i := by decide +kernel
theorem strByt_wb : ∀ i, i < 9 → ∀ j, j < wl i → (rz_strByt.getD i []).getD j 0 = zI (wb i j) := by decide +kernel
theorem wl_le : ∀ i, i < 9 → 1 ≤ wl i ∧ wl i ≤ 7 := by decide
theorem wb_rg : ∀ i, i < 9 → ∀ j, j < wl i → 97 ≤ wb i j ∧ wb i j ≤ 122 := by decide
section WD
variable {N : Nat} {σ : zS}
theorem ro_str (hN : N ≤ 1000) {i : Nat} (hi : i < 9) : wOf N σ (1010 + i) = .inr (100, [.ref (1020 + i), .int 0]) := by
  have h9 : rz_strs.length = 9 := by decide +kernel
  rw [w_ro hN (by omega)]
  unfold rz_ro
  rw [if_neg (by omega), if_neg (by omega), if_pos (by omega), show 1010 + i + 10 = 1020 + i by omega]
theorem ro_byt (hN : N ≤ 1000) {i : Nat} (hi : i < 9) : wOf N σ (1020 + i) = .inl (2, wl i, fun j => (rz_strByt.getD i []).getD j 0) := by
  have h9 : rz_strs.length = 9 := by decide +kernel
  rw [w_ro hN (by omega)]
  unfold rz_ro
  rw [if_neg (by omega), if_neg (by omega), if_neg (by omega), if_pos (by omega), show 1020 + i - 1020 = i by omega, strLen_wl i hi]
theorem c_str (hN : N ≤ 1000) {i : Nat} (hi : i < 9) : (rz_clsOf (wOf N σ) (1010 + i) = some 100) = True := by
  unfold rz_clsOf
  rw [ro_str hN hi]
  simp
theorem f_str0 (hN : N ≤ 1000) {i : Nat} (hi : i < 9) : rz_fld (wOf N σ) (1010 + i) 100 0 = some (.ref (1020 + i)) := by
  unfold rz_fld
  rw [ro_str hN hi]
  rfl
theorem f_str1 (hN : N ≤ 1000) {i : Nat} (hi : i < 9) : rz_fld (wOf N σ) (1010 + i) 100 1 = some (.int 0) := by
  unfold rz_fld
  rw [ro_str hN hi]
  rfl
theorem l_str (hN : N ≤ 1000) {i : Nat} (hi : i < 9) : rz_len (wOf N σ) (1020 + i) = some (zI (wl i)) := by
  unfold rz_len
  rw [ro_byt hN hi]
  rfl
theorem r_str (hN : N ≤ 1000) {i : Nat} (hi : i < 9) {j : Nat} (hj : j < wl i) : rz_ald (wOf N σ) (1020 + i) 2 (zI j) = some (zI (wb i j)) := by
  have hw := wl_le i hi
  unfold rz_ald
  rw [ro_byt hN hi]
  dsimp only
  have e : (zI (j : Int)).toNatClampNeg = j := by
    show (zI (j : Int)).toInt.toNat = j
    rw [zI_toInt (by omega) (by omega), Int.toNat_natCast]
  have h2 : (2 = 2) ∧ ¬ (zI (j : Int) < 0 ∨ wl i ≤ (zI (j : Int)).toNatClampNeg) := by
    refine ⟨rfl, ?_⟩
    rw [e]
    intro z
    rcases z with z | z
    · have z' : zI (j : Int) < zI 0 := z
      rw [zI_lt (by omega) (by omega)] at z'
      omega
    · omega
  rw [if_pos h2, e, strByt_wb i hi j hj]
end WD
