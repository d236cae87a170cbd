-- slots, by program
def gat (n : Nat) (f : Nat → Int) (i : Int) : Int := if 0 ≤ i ∧ i < n then f i.toNat else 0
theorem c_P {N : Nat} {σ : zS} {g : Nat} (h1 : 7 ≤ g) (h2 : g ≤ 9) (hN : 48 ≤ N) : (rz_clsOf (wOf N σ) (bs g) = some 0) = True := by
  rcases (show g = 7 ∨ g = 8 ∨ g = 9 by omega) with rfl | rfl | rfl <;> (exact eq_true (w_cls (by decide) (Nat.lt_of_lt_of_le (by decide) hN)))

theorem f_P_0 {N : Nat} {σ : zS} {g : Nat} (h1 : 7 ≤ g) (h2 : g ≤ 9) (hN : 48 ≤ N) : rz_fld (wOf N σ) (bs g) 0 0 = some (.ref (ah g 0)) := by
  rcases (show g = 7 ∨ g = 8 ∨ g = 9 by omega) with rfl | rfl | rfl <;> (exact w_fld (by decide) (Nat.lt_of_lt_of_le (by decide) hN))

theorem l_P_0 {N : Nat} {σ : zS} {g : Nat} (h1 : 7 ≤ g) (h2 : g ≤ 9) (hN : 48 ≤ N) : rz_len (wOf N σ) (ah g 0) = some (zI 16) := by
  rcases (show g = 7 ∨ g = 8 ∨ g = 9 by omega) with rfl | rfl | rfl <;> (exact w_len (t := 0) (by decide) (by decide) (by decide) (by decide) (Nat.lt_of_lt_of_le (by decide) hN))

theorem r_P_0 {N : Nat} {σ : zS} {g : Nat} (h1 : 7 ≤ g) (h2 : g ≤ 9) (hN : 48 ≤ N) {i : Int} (hi1 : 0 ≤ i) (hi2 : i < 16) : rz_ald (wOf N σ) (ah g 0) 0 (zI i) = some (zI (σ g 0 i.toNat)) := by
  rcases (show g = 7 ∨ g = 8 ∨ g = 9 by omega) with rfl | rfl | rfl <;> (exact w_ald (by decide) (by decide) (by decide) (by decide) (Nat.lt_of_lt_of_le (by decide) hN) (n := 16) (by omega) ⟨hi1, hi2⟩)

theorem w_P_0 {N : Nat} {σ : zS} {g : Nat} (h1 : 7 ≤ g) (h2 : g ≤ 9) (hN : 48 ≤ N) {i : Int} (v : Int) (hi1 : 0 ≤ i) (hi2 : i < 16) : rz_ast (wOf N σ) (ah g 0) 0 (zI i) (zI v) = some (wOf N (sset σ g 0 (zup (σ g 0) i.toNat v))) := by
  rcases (show g = 7 ∨ g = 8 ∨ g = 9 by omega) with rfl | rfl | rfl <;> (exact w_ast (by decide) (by decide) (by decide) (by decide) (Nat.lt_of_lt_of_le (by decide) hN) (n := 16) (by omega) ⟨hi1, hi2⟩)

theorem f_P_1 {N : Nat} {σ : zS} {g : Nat} (h1 : 7 ≤ g) (h2 : g ≤ 9) (hN : 48 ≤ N) : rz_fld (wOf N σ) (bs g) 0 1 = some (.ref (ah g 1)) := by
  rcases (show g = 7 ∨ g = 8 ∨ g = 9 by omega) with rfl | rfl | rfl <;> (exact w_fld (by decide) (Nat.lt_of_lt_of_le (by decide) hN))

theorem l_P_1 {N : Nat} {σ : zS} {g : Nat} (h1 : 7 ≤ g) (h2 : g ≤ 9) (hN : 48 ≤ N) : rz_len (wOf N σ) (ah g 1) = some (zI 3) := by
  rcases (show g = 7 ∨ g = 8 ∨ g = 9 by omega) with rfl | rfl | rfl <;> (exact w_len (t := 0) (by decide) (by decide) (by decide) (by decide) (Nat.lt_of_lt_of_le (by decide) hN))

theorem r_P_1 {N : Nat} {σ : zS} {g : Nat} (h1 : 7 ≤ g) (h2 : g ≤ 9) (hN : 48 ≤ N) {i : Int} (hi1 : 0 ≤ i) (hi2 : i < 3) : rz_ald (wOf N σ) (ah g 1) 0 (zI i) = some (zI (σ g 1 i.toNat)) := by
  rcases (show g = 7 ∨ g = 8 ∨ g = 9 by omega) with rfl | rfl | rfl <;> (exact w_ald (by decide) (by decide) (by decide) (by decide) (Nat.lt_of_lt_of_le (by decide) hN) (n := 3) (by omega) ⟨hi1, hi2⟩)

theorem w_P_1 {N : Nat} {σ : zS} {g : Nat} (h1 : 7 ≤ g) (h2 : g ≤ 9) (hN : 48 ≤ N) {i : Int} (v : Int) (hi1 : 0 ≤ i) (hi2 : i < 3) : rz_ast (wOf N σ) (ah g 1) 0 (zI i) (zI v) = some (wOf N (sset σ g 1 (zup (σ g 1) i.toNat v))) := by
  rcases (show g = 7 ∨ g = 8 ∨ g = 9 by omega) with rfl | rfl | rfl <;> (exact w_ast (by decide) (by decide) (by decide) (by decide) (Nat.lt_of_lt_of_le (by decide) hN) (n := 3) (by omega) ⟨hi1, hi2⟩)

theorem f_P_2 {N : Nat} {σ : zS} {g : Nat} (h1 : 7 ≤ g) (h2 : g ≤ 9) (hN : 48 ≤ N) : rz_fld (wOf N σ) (bs g) 0 2 = some (.ref (ah g 2)) := by
  rcases (show g = 7 ∨ g = 8 ∨ g = 9 by omega) with rfl | rfl | rfl <;> (exact w_fld (by decide) (Nat.lt_of_lt_of_le (by decide) hN))

theorem l_P_2 {N : Nat} {σ : zS} {g : Nat} (h1 : 7 ≤ g) (h2 : g ≤ 9) (hN : 48 ≤ N) : rz_len (wOf N σ) (ah g 2) = some (zI 3) := by
  rcases (show g = 7 ∨ g = 8 ∨ g = 9 by omega) with rfl | rfl | rfl <;> (exact w_len (t := 0) (by decide) (by decide) (by decide) (by decide) (Nat.lt_of_lt_of_le (by decide) hN))

theorem r_P_2 {N : Nat} {σ : zS} {g : Nat} (h1 : 7 ≤ g) (h2 : g ≤ 9) (hN : 48 ≤ N) {i : Int} (hi1 : 0 ≤ i) (hi2 : i < 3) : rz_ald (wOf N σ) (ah g 2) 0 (zI i) = some (zI (σ g 2 i.toNat)) := by
  rcases (show g = 7 ∨ g = 8 ∨ g = 9 by omega) with rfl | rfl | rfl <;> (exact w_ald (by decide) (by decide) (by decide) (by decide) (Nat.lt_of_lt_of_le (by decide) hN) (n := 3) (by omega) ⟨hi1, hi2⟩)

theorem w_P_2 {N : Nat} {σ : zS} {g : Nat} (h1 : 7 ≤ g) (h2 : g ≤ 9) (hN : 48 ≤ N) {i : Int} (v : Int) (hi1 : 0 ≤ i) (hi2 : i < 3) : rz_ast (wOf N σ) (ah g 2) 0 (zI i) (zI v) = some (wOf N (sset σ g 2 (zup (σ g 2) i.toNat v))) := by
  rcases (show g = 7 ∨ g = 8 ∨ g = 9 by omega) with rfl | rfl | rfl <;> (exact w_ast (by decide) (by decide) (by decide) (by decide) (Nat.lt_of_lt_of_le (by decide) hN) (n := 3) (by omega) ⟨hi1, hi2⟩)

theorem f_P_3 {N : Nat} {σ : zS} {g : Nat} (h1 : 7 ≤ g) (h2 : g ≤ 9) (hN : 48 ≤ N) : rz_fld (wOf N σ) (bs g) 0 3 = some (.ref (ah g 3)) := by
  rcases (show g = 7 ∨ g = 8 ∨ g = 9 by omega) with rfl | rfl | rfl <;> (exact w_fld (by decide) (Nat.lt_of_lt_of_le (by decide) hN))

theorem l_P_3 {N : Nat} {σ : zS} {g : Nat} (h1 : 7 ≤ g) (h2 : g ≤ 9) (hN : 48 ≤ N) : rz_len (wOf N σ) (ah g 3) = some (zI 384) := by
  rcases (show g = 7 ∨ g = 8 ∨ g = 9 by omega) with rfl | rfl | rfl <;> (exact w_len (t := 0) (by decide) (by decide) (by decide) (by decide) (Nat.lt_of_lt_of_le (by decide) hN))

theorem r_P_3 {N : Nat} {σ : zS} {g : Nat} (h1 : 7 ≤ g) (h2 : g ≤ 9) (hN : 48 ≤ N) {i : Int} (hi1 : 0 ≤ i) (hi2 : i < 384) : rz_ald (wOf N σ) (ah g 3) 0 (zI i) = some (zI (σ g 3 i.toNat)) := by
  rcases (show g = 7 ∨ g = 8 ∨ g = 9 by omega) with rfl | rfl | rfl <;> (exact w_ald (by decide) (by decide) (by decide) (by decide) (Nat.lt_of_lt_of_le (by decide) hN) (n := 384) (by omega) ⟨hi1, hi2⟩)

theorem w_P_3 {N : Nat} {σ : zS} {g : Nat} (h1 : 7 ≤ g) (h2 : g ≤ 9) (hN : 48 ≤ N) {i : Int} (v : Int) (hi1 : 0 ≤ i) (hi2 : i < 384) : rz_ast (wOf N σ) (ah g 3) 0 (zI i) (zI v) = some (wOf N (sset σ g 3 (zup (σ g 3) i.toNat v))) := by
  rcases (show g = 7 ∨ g = 8 ∨ g = 9 by omega) with rfl | rfl | rfl <;> (exact w_ast (by decide) (by decide) (by decide) (by decide) (Nat.lt_of_lt_of_le (by decide) hN) (n := 384) (by omega) ⟨hi1, hi2⟩)

theorem f_P_4 {N : Nat} {σ : zS} {g : Nat} (h1 : 7 ≤ g) (h2 : g ≤ 9) (hN : 48 ≤ N) : rz_fld (wOf N σ) (bs g) 0 4 = some (.ref (ah g 4)) := by
  rcases (show g = 7 ∨ g = 8 ∨ g = 9 by omega) with rfl | rfl | rfl <;> (exact w_fld (by decide) (Nat.lt_of_lt_of_le (by decide) hN))

theorem l_P_4 {N : Nat} {σ : zS} {g : Nat} (h1 : 7 ≤ g) (h2 : g ≤ 9) (hN : 48 ≤ N) : rz_len (wOf N σ) (ah g 4) = some (zI 2) := by
  rcases (show g = 7 ∨ g = 8 ∨ g = 9 by omega) with rfl | rfl | rfl <;> (exact w_len (t := 0) (by decide) (by decide) (by decide) (by decide) (Nat.lt_of_lt_of_le (by decide) hN))

theorem r_P_4 {N : Nat} {σ : zS} {g : Nat} (h1 : 7 ≤ g) (h2 : g ≤ 9) (hN : 48 ≤ N) {i : Int} (hi1 : 0 ≤ i) (hi2 : i < 2) : rz_ald (wOf N σ) (ah g 4) 0 (zI i) = some (zI (σ g 4 i.toNat)) := by
  rcases (show g = 7 ∨ g = 8 ∨ g = 9 by omega) with rfl | rfl | rfl <;> (exact w_ald (by decide) (by decide) (by decide) (by decide) (Nat.lt_of_lt_of_le (by decide) hN) (n := 2) (by omega) ⟨hi1, hi2⟩)

theorem w_P_4 {N : Nat} {σ : zS} {g : Nat} (h1 : 7 ≤ g) (h2 : g ≤ 9) (hN : 48 ≤ N) {i : Int} (v : Int) (hi1 : 0 ≤ i) (hi2 : i < 2) : rz_ast (wOf N σ) (ah g 4) 0 (zI i) (zI v) = some (wOf N (sset σ g 4 (zup (σ g 4) i.toNat v))) := by
  rcases (show g = 7 ∨ g = 8 ∨ g = 9 by omega) with rfl | rfl | rfl <;> (exact w_ast (by decide) (by decide) (by decide) (by decide) (Nat.lt_of_lt_of_le (by decide) hN) (n := 2) (by omega) ⟨hi1, hi2⟩)

theorem f_P_5 {N : Nat} {σ : zS} {g : Nat} (h1 : 7 ≤ g) (h2 : g ≤ 9) (hN : 48 ≤ N) : rz_fld (wOf N σ) (bs g) 0 5 = some (.ref (ah g 5)) := by
  rcases (show g = 7 ∨ g = 8 ∨ g = 9 by omega) with rfl | rfl | rfl <;> (exact w_fld (by decide) (Nat.lt_of_lt_of_le (by decide) hN))

theorem l_P_5 {N : Nat} {σ : zS} {g : Nat} (h1 : 7 ≤ g) (h2 : g ≤ 9) (hN : 48 ≤ N) : rz_len (wOf N σ) (ah g 5) = some (zI 2) := by
  rcases (show g = 7 ∨ g = 8 ∨ g = 9 by omega) with rfl | rfl | rfl <;> (exact w_len (t := 0) (by decide) (by decide) (by decide) (by decide) (Nat.lt_of_lt_of_le (by decide) hN))

theorem r_P_5 {N : Nat} {σ : zS} {g : Nat} (h1 : 7 ≤ g) (h2 : g ≤ 9) (hN : 48 ≤ N) {i : Int} (hi1 : 0 ≤ i) (hi2 : i < 2) : rz_ald (wOf N σ) (ah g 5) 0 (zI i) = some (zI (σ g 5 i.toNat)) := by
  rcases (show g = 7 ∨ g = 8 ∨ g = 9 by omega) with rfl | rfl | rfl <;> (exact w_ald (by decide) (by decide) (by decide) (by decide) (Nat.lt_of_lt_of_le (by decide) hN) (n := 2) (by omega) ⟨hi1, hi2⟩)

theorem w_P_5 {N : Nat} {σ : zS} {g : Nat} (h1 : 7 ≤ g) (h2 : g ≤ 9) (hN : 48 ≤ N) {i : Int} (v : Int) (hi1 : 0 ≤ i) (hi2 : i < 2) : rz_ast (wOf N σ) (ah g 5) 0 (zI i) (zI v) = some (wOf N (sset σ g 5 (zup (σ g 5) i.toNat v))) := by
  rcases (show g = 7 ∨ g = 8 ∨ g = 9 by omega) with rfl | rfl | rfl <;> (exact w_ast (by decide) (by decide) (by decide) (by decide) (Nat.lt_of_lt_of_le (by decide) hN) (n := 2) (by omega) ⟨hi1, hi2⟩)

theorem f_P_6 {N : Nat} {σ : zS} {g : Nat} (h1 : 7 ≤ g) (h2 : g ≤ 9) (hN : 48 ≤ N) : rz_fld (wOf N σ) (bs g) 0 6 = some (.ref (ah g 6)) := by
  rcases (show g = 7 ∨ g = 8 ∨ g = 9 by omega) with rfl | rfl | rfl <;> (exact w_fld (by decide) (Nat.lt_of_lt_of_le (by decide) hN))

theorem l_P_6 {N : Nat} {σ : zS} {g : Nat} (h1 : 7 ≤ g) (h2 : g ≤ 9) (hN : 48 ≤ N) : rz_len (wOf N σ) (ah g 6) = some (zI 2) := by
  rcases (show g = 7 ∨ g = 8 ∨ g = 9 by omega) with rfl | rfl | rfl <;> (exact w_len (t := 0) (by decide) (by decide) (by decide) (by decide) (Nat.lt_of_lt_of_le (by decide) hN))

theorem r_P_6 {N : Nat} {σ : zS} {g : Nat} (h1 : 7 ≤ g) (h2 : g ≤ 9) (hN : 48 ≤ N) {i : Int} (hi1 : 0 ≤ i) (hi2 : i < 2) : rz_ald (wOf N σ) (ah g 6) 0 (zI i) = some (zI (σ g 6 i.toNat)) := by
  rcases (show g = 7 ∨ g = 8 ∨ g = 9 by omega) with rfl | rfl | rfl <;> (exact w_ald (by decide) (by decide) (by decide) (by decide) (Nat.lt_of_lt_of_le (by decide) hN) (n := 2) (by omega) ⟨hi1, hi2⟩)

theorem w_P_6 {N : Nat} {σ : zS} {g : Nat} (h1 : 7 ≤ g) (h2 : g ≤ 9) (hN : 48 ≤ N) {i : Int} (v : Int) (hi1 : 0 ≤ i) (hi2 : i < 2) : rz_ast (wOf N σ) (ah g 6) 0 (zI i) (zI v) = some (wOf N (sset σ g 6 (zup (σ g 6) i.toNat v))) := by
  rcases (show g = 7 ∨ g = 8 ∨ g = 9 by omega) with rfl | rfl | rfl <;> (exact w_ast (by decide) (by decide) (by decide) (by decide) (Nat.lt_of_lt_of_le (by decide) hN) (n := 2) (by omega) ⟨hi1, hi2⟩)

theorem f_P_7 {N : Nat} {σ : zS} {g : Nat} (h1 : 7 ≤ g) (h2 : g ≤ 9) (hN : 48 ≤ N) : rz_fld (wOf N σ) (bs g) 0 7 = some (.ref (ah g 7)) := by
  rcases (show g = 7 ∨ g = 8 ∨ g = 9 by omega) with rfl | rfl | rfl <;> (exact w_fld (by decide) (Nat.lt_of_lt_of_le (by decide) hN))

theorem l_P_7 {N : Nat} {σ : zS} {g : Nat} (h1 : 7 ≤ g) (h2 : g ≤ 9) (hN : 48 ≤ N) : rz_len (wOf N σ) (ah g 7) = some (zI 2) := by
  rcases (show g = 7 ∨ g = 8 ∨ g = 9 by omega) with rfl | rfl | rfl <;> (exact w_len (t := 0) (by decide) (by decide) (by decide) (by decide) (Nat.lt_of_lt_of_le (by decide) hN))

theorem r_P_7 {N : Nat} {σ : zS} {g : Nat} (h1 : 7 ≤ g) (h2 : g ≤ 9) (hN : 48 ≤ N) {i : Int} (hi1 : 0 ≤ i) (hi2 : i < 2) : rz_ald (wOf N σ) (ah g 7) 0 (zI i) = some (zI (σ g 7 i.toNat)) := by
  rcases (show g = 7 ∨ g = 8 ∨ g = 9 by omega) with rfl | rfl | rfl <;> (exact w_ald (by decide) (by decide) (by decide) (by decide) (Nat.lt_of_lt_of_le (by decide) hN) (n := 2) (by omega) ⟨hi1, hi2⟩)

theorem w_P_7 {N : Nat} {σ : zS} {g : Nat} (h1 : 7 ≤ g) (h2 : g ≤ 9) (hN : 48 ≤ N) {i : Int} (v : Int) (hi1 : 0 ≤ i) (hi2 : i < 2) : rz_ast (wOf N σ) (ah g 7) 0 (zI i) (zI v) = some (wOf N (sset σ g 7 (zup (σ g 7) i.toNat v))) := by
  rcases (show g = 7 ∨ g = 8 ∨ g = 9 by omega) with rfl | rfl | rfl <;> (exact w_ast (by decide) (by decide) (by decide) (by decide) (Nat.lt_of_lt_of_le (by decide) hN) (n := 2) (by omega) ⟨hi1, hi2⟩)

theorem f_P_8 {N : Nat} {σ : zS} {g : Nat} (h1 : 7 ≤ g) (h2 : g ≤ 9) (hN : 48 ≤ N) : rz_fld (wOf N σ) (bs g) 0 8 = some (.int (zI (σ g 8 0))) := by
  rcases (show g = 7 ∨ g = 8 ∨ g = 9 by omega) with rfl | rfl | rfl <;> (exact w_fld (by decide) (Nat.lt_of_lt_of_le (by decide) hN))

theorem u_P_8 {N : Nat} {σ : zS} {g : Nat} (h1 : 7 ≤ g) (h2 : g ≤ 9) (hN : 48 ≤ N) (v : Int) : rz_put (wOf N σ) (bs g) 0 8 (.int (zI v)) = some (wOf N (sset σ g 8 (fun _ => v))) := by
  rcases (show g = 7 ∨ g = 8 ∨ g = 9 by omega) with rfl | rfl | rfl <;> (exact w_put (by decide) (Nat.lt_of_lt_of_le (by decide) hN) (by decide) (by decide) rfl)

theorem f_P_9 {N : Nat} {σ : zS} {g : Nat} (h1 : 7 ≤ g) (h2 : g ≤ 9) (hN : 48 ≤ N) : rz_fld (wOf N σ) (bs g) 0 9 = some (.int (zI (σ g 9 0))) := by
  rcases (show g = 7 ∨ g = 8 ∨ g = 9 by omega) with rfl | rfl | rfl <;> (exact w_fld (by decide) (Nat.lt_of_lt_of_le (by decide) hN))

theorem u_P_9 {N : Nat} {σ : zS} {g : Nat} (h1 : 7 ≤ g) (h2 : g ≤ 9) (hN : 48 ≤ N) (v : Int) : rz_put (wOf N σ) (bs g) 0 9 (.int (zI v)) = some (wOf N (sset σ g 9 (fun _ => v))) := by
  rcases (show g = 7 ∨ g = 8 ∨ g = 9 by omega) with rfl | rfl | rfl <;> (exact w_put (by decide) (Nat.lt_of_lt_of_le (by decide) hN) (by decide) (by decide) rfl)

theorem f_P_10 {N : Nat} {σ : zS} {g : Nat} (h1 : 7 ≤ g) (h2 : g ≤ 9) (hN : 48 ≤ N) : rz_fld (wOf N σ) (bs g) 0 10 = some (.int (zI (σ g 10 0))) := by
  rcases (show g = 7 ∨ g = 8 ∨ g = 9 by omega) with rfl | rfl | rfl <;> (exact w_fld (by decide) (Nat.lt_of_lt_of_le (by decide) hN))

theorem u_P_10 {N : Nat} {σ : zS} {g : Nat} (h1 : 7 ≤ g) (h2 : g ≤ 9) (hN : 48 ≤ N) (v : Int) : rz_put (wOf N σ) (bs g) 0 10 (.int (zI v)) = some (wOf N (sset σ g 10 (fun _ => v))) := by
  rcases (show g = 7 ∨ g = 8 ∨ g = 9 by omega) with rfl | rfl | rfl <;> (exact w_put (by decide) (Nat.lt_of_lt_of_le (by decide) hN) (by decide) (by decide) rfl)

theorem c_W {N : Nat} {σ : zS} {g : Nat} (h1 : 2 ≤ g) (h2 : g ≤ 5) (hN : 48 ≤ N) : (rz_clsOf (wOf N σ) (bs g) = some 3) = True := by
  rcases (show g = 2 ∨ g = 3 ∨ g = 4 ∨ g = 5 by omega) with rfl | rfl | rfl | rfl <;> (exact eq_true (w_cls (by decide) (Nat.lt_of_lt_of_le (by decide) hN)))

theorem f_W_0 {N : Nat} {σ : zS} {g : Nat} (h1 : 2 ≤ g) (h2 : g ≤ 5) (hN : 48 ≤ N) : rz_fld (wOf N σ) (bs g) 3 0 = some (.ref (ah g 0)) := by
  rcases (show g = 2 ∨ g = 3 ∨ g = 4 ∨ g = 5 by omega) with rfl | rfl | rfl | rfl <;> (exact w_fld (by decide) (Nat.lt_of_lt_of_le (by decide) hN))

theorem l_W_0 {N : Nat} {σ : zS} {g : Nat} (h1 : 2 ≤ g) (h2 : g ≤ 5) (hN : 48 ≤ N) : rz_len (wOf N σ) (ah g 0) = some (zI 2) := by
  rcases (show g = 2 ∨ g = 3 ∨ g = 4 ∨ g = 5 by omega) with rfl | rfl | rfl | rfl <;> (exact w_len (t := 0) (by decide) (by decide) (by decide) (by decide) (Nat.lt_of_lt_of_le (by decide) hN))

theorem r_W_0 {N : Nat} {σ : zS} {g : Nat} (h1 : 2 ≤ g) (h2 : g ≤ 5) (hN : 48 ≤ N) {i : Int} (hi1 : 0 ≤ i) (hi2 : i < 2) : rz_ald (wOf N σ) (ah g 0) 0 (zI i) = some (zI (σ g 0 i.toNat)) := by
  rcases (show g = 2 ∨ g = 3 ∨ g = 4 ∨ g = 5 by omega) with rfl | rfl | rfl | rfl <;> (exact w_ald (by decide) (by decide) (by decide) (by decide) (Nat.lt_of_lt_of_le (by decide) hN) (n := 2) (by omega) ⟨hi1, hi2⟩)

theorem w_W_0 {N : Nat} {σ : zS} {g : Nat} (h1 : 2 ≤ g) (h2 : g ≤ 5) (hN : 48 ≤ N) {i : Int} (v : Int) (hi1 : 0 ≤ i) (hi2 : i < 2) : rz_ast (wOf N σ) (ah g 0) 0 (zI i) (zI v) = some (wOf N (sset σ g 0 (zup (σ g 0) i.toNat v))) := by
  rcases (show g = 2 ∨ g = 3 ∨ g = 4 ∨ g = 5 by omega) with rfl | rfl | rfl | rfl <;> (exact w_ast (by decide) (by decide) (by decide) (by decide) (Nat.lt_of_lt_of_le (by decide) hN) (n := 2) (by omega) ⟨hi1, hi2⟩)

theorem f_W_1 {N : Nat} {σ : zS} {g : Nat} (h1 : 2 ≤ g) (h2 : g ≤ 5) (hN : 48 ≤ N) : rz_fld (wOf N σ) (bs g) 3 1 = some (.ref (ah g 1)) := by
  rcases (show g = 2 ∨ g = 3 ∨ g = 4 ∨ g = 5 by omega) with rfl | rfl | rfl | rfl <;> (exact w_fld (by decide) (Nat.lt_of_lt_of_le (by decide) hN))

theorem l_W_1 {N : Nat} {σ : zS} {g : Nat} (h1 : 2 ≤ g) (h2 : g ≤ 5) (hN : 48 ≤ N) : rz_len (wOf N σ) (ah g 1) = some (zI 2) := by
  rcases (show g = 2 ∨ g = 3 ∨ g = 4 ∨ g = 5 by omega) with rfl | rfl | rfl | rfl <;> (exact w_len (t := 0) (by decide) (by decide) (by decide) (by decide) (Nat.lt_of_lt_of_le (by decide) hN))

theorem r_W_1 {N : Nat} {σ : zS} {g : Nat} (h1 : 2 ≤ g) (h2 : g ≤ 5) (hN : 48 ≤ N) {i : Int} (hi1 : 0 ≤ i) (hi2 : i < 2) : rz_ald (wOf N σ) (ah g 1) 0 (zI i) = some (zI (σ g 1 i.toNat)) := by
  rcases (show g = 2 ∨ g = 3 ∨ g = 4 ∨ g = 5 by omega) with rfl | rfl | rfl | rfl <;> (exact w_ald (by decide) (by decide) (by decide) (by decide) (Nat.lt_of_lt_of_le (by decide) hN) (n := 2) (by omega) ⟨hi1, hi2⟩)

theorem w_W_1 {N : Nat} {σ : zS} {g : Nat} (h1 : 2 ≤ g) (h2 : g ≤ 5) (hN : 48 ≤ N) {i : Int} (v : Int) (hi1 : 0 ≤ i) (hi2 : i < 2) : rz_ast (wOf N σ) (ah g 1) 0 (zI i) (zI v) = some (wOf N (sset σ g 1 (zup (σ g 1) i.toNat v))) := by
  rcases (show g = 2 ∨ g = 3 ∨ g = 4 ∨ g = 5 by omega) with rfl | rfl | rfl | rfl <;> (exact w_ast (by decide) (by decide) (by decide) (by decide) (Nat.lt_of_lt_of_le (by decide) hN) (n := 2) (by omega) ⟨hi1, hi2⟩)

theorem f_W_2 {N : Nat} {σ : zS} {g : Nat} (h1 : 2 ≤ g) (h2 : g ≤ 5) (hN : 48 ≤ N) : rz_fld (wOf N σ) (bs g) 3 2 = some (.int (zI (σ g 2 0))) := by
  rcases (show g = 2 ∨ g = 3 ∨ g = 4 ∨ g = 5 by omega) with rfl | rfl | rfl | rfl <;> (exact w_fld (by decide) (Nat.lt_of_lt_of_le (by decide) hN))

theorem u_W_2 {N : Nat} {σ : zS} {g : Nat} (h1 : 2 ≤ g) (h2 : g ≤ 5) (hN : 48 ≤ N) (v : Int) : rz_put (wOf N σ) (bs g) 3 2 (.int (zI v)) = some (wOf N (sset σ g 2 (fun _ => v))) := by
  rcases (show g = 2 ∨ g = 3 ∨ g = 4 ∨ g = 5 by omega) with rfl | rfl | rfl | rfl <;> (exact w_put (by decide) (Nat.lt_of_lt_of_le (by decide) hN) (by decide) (by decide) rfl)

theorem f_W_3 {N : Nat} {σ : zS} {g : Nat} (h1 : 2 ≤ g) (h2 : g ≤ 5) (hN : 48 ≤ N) : rz_fld (wOf N σ) (bs g) 3 3 = some (.int (zI (σ g 3 0))) := by
  rcases (show g = 2 ∨ g = 3 ∨ g = 4 ∨ g = 5 by omega) with rfl | rfl | rfl | rfl <;> (exact w_fld (by decide) (Nat.lt_of_lt_of_le (by decide) hN))

theorem u_W_3 {N : Nat} {σ : zS} {g : Nat} (h1 : 2 ≤ g) (h2 : g ≤ 5) (hN : 48 ≤ N) (v : Int) : rz_put (wOf N σ) (bs g) 3 3 (.int (zI v)) = some (wOf N (sset σ g 3 (fun _ => v))) := by
  rcases (show g = 2 ∨ g = 3 ∨ g = 4 ∨ g = 5 by omega) with rfl | rfl | rfl | rfl <;> (exact w_put (by decide) (Nat.lt_of_lt_of_le (by decide) hN) (by decide) (by decide) rfl)

theorem f_W_4 {N : Nat} {σ : zS} {g : Nat} (h1 : 2 ≤ g) (h2 : g ≤ 5) (hN : 48 ≤ N) : rz_fld (wOf N σ) (bs g) 3 4 = some (.int (zI (σ g 4 0))) := by
  rcases (show g = 2 ∨ g = 3 ∨ g = 4 ∨ g = 5 by omega) with rfl | rfl | rfl | rfl <;> (exact w_fld (by decide) (Nat.lt_of_lt_of_le (by decide) hN))

theorem u_W_4 {N : Nat} {σ : zS} {g : Nat} (h1 : 2 ≤ g) (h2 : g ≤ 5) (hN : 48 ≤ N) (v : Int) : rz_put (wOf N σ) (bs g) 3 4 (.int (zI v)) = some (wOf N (sset σ g 4 (fun _ => v))) := by
  rcases (show g = 2 ∨ g = 3 ∨ g = 4 ∨ g = 5 by omega) with rfl | rfl | rfl | rfl <;> (exact w_put (by decide) (Nat.lt_of_lt_of_le (by decide) hN) (by decide) (by decide) rfl)

theorem f_W_5 {N : Nat} {σ : zS} {g : Nat} (h1 : 2 ≤ g) (h2 : g ≤ 5) (hN : 48 ≤ N) : rz_fld (wOf N σ) (bs g) 3 5 = some (.int (zI (σ g 5 0))) := by
  rcases (show g = 2 ∨ g = 3 ∨ g = 4 ∨ g = 5 by omega) with rfl | rfl | rfl | rfl <;> (exact w_fld (by decide) (Nat.lt_of_lt_of_le (by decide) hN))

theorem u_W_5 {N : Nat} {σ : zS} {g : Nat} (h1 : 2 ≤ g) (h2 : g ≤ 5) (hN : 48 ≤ N) (v : Int) : rz_put (wOf N σ) (bs g) 3 5 (.int (zI v)) = some (wOf N (sset σ g 5 (fun _ => v))) := by
  rcases (show g = 2 ∨ g = 3 ∨ g = 4 ∨ g = 5 by omega) with rfl | rfl | rfl | rfl <;> (exact w_put (by decide) (Nat.lt_of_lt_of_le (by decide) hN) (by decide) (by decide) rfl)

theorem f_W_6 {N : Nat} {σ : zS} {g : Nat} (h1 : 2 ≤ g) (h2 : g ≤ 5) (hN : 48 ≤ N) : rz_fld (wOf N σ) (bs g) 3 6 = some (.int (zI (σ g 6 0))) := by
  rcases (show g = 2 ∨ g = 3 ∨ g = 4 ∨ g = 5 by omega) with rfl | rfl | rfl | rfl <;> (exact w_fld (by decide) (Nat.lt_of_lt_of_le (by decide) hN))

theorem u_W_6 {N : Nat} {σ : zS} {g : Nat} (h1 : 2 ≤ g) (h2 : g ≤ 5) (hN : 48 ≤ N) (v : Int) : rz_put (wOf N σ) (bs g) 3 6 (.int (zI v)) = some (wOf N (sset σ g 6 (fun _ => v))) := by
  rcases (show g = 2 ∨ g = 3 ∨ g = 4 ∨ g = 5 by omega) with rfl | rfl | rfl | rfl <;> (exact w_put (by decide) (Nat.lt_of_lt_of_le (by decide) hN) (by decide) (by decide) rfl)

theorem c_S {N : Nat} {σ : zS} (hN : 48 ≤ N) : (rz_clsOf (wOf N σ) (bs 1) = some 2) = True := by
  exact eq_true (w_cls (by decide) (Nat.lt_of_lt_of_le (by decide) hN))

theorem f_S_0 {N : Nat} {σ : zS} (hN : 48 ≤ N) : rz_fld (wOf N σ) (bs 1) 2 0 = some (.ref (ah 1 0)) := by
  exact w_fld (by decide) (Nat.lt_of_lt_of_le (by decide) hN)

theorem l_S_0 {N : Nat} {σ : zS} (hN : 48 ≤ N) : rz_len (wOf N σ) (ah 1 0) = some (zI 300) := by
  exact w_len (t := 0) (by decide) (by decide) (by decide) (by decide) (Nat.lt_of_lt_of_le (by decide) hN)

theorem r_S_0 {N : Nat} {σ : zS} (hN : 48 ≤ N) {i : Int} (hi1 : 0 ≤ i) (hi2 : i < 300) : rz_ald (wOf N σ) (ah 1 0) 0 (zI i) = some (zI (σ 1 0 i.toNat)) := by
  exact w_ald (by decide) (by decide) (by decide) (by decide) (Nat.lt_of_lt_of_le (by decide) hN) (n := 300) (by omega) ⟨hi1, hi2⟩

theorem w_S_0 {N : Nat} {σ : zS} (hN : 48 ≤ N) {i : Int} (v : Int) (hi1 : 0 ≤ i) (hi2 : i < 300) : rz_ast (wOf N σ) (ah 1 0) 0 (zI i) (zI v) = some (wOf N (sset σ 1 0 (zup (σ 1 0) i.toNat v))) := by
  exact w_ast (by decide) (by decide) (by decide) (by decide) (Nat.lt_of_lt_of_le (by decide) hN) (n := 300) (by omega) ⟨hi1, hi2⟩

theorem f_S_1 {N : Nat} {σ : zS} (hN : 48 ≤ N) : rz_fld (wOf N σ) (bs 1) 2 1 = some (.ref (ah 1 1)) := by
  exact w_fld (by decide) (Nat.lt_of_lt_of_le (by decide) hN)

theorem l_S_1 {N : Nat} {σ : zS} (hN : 48 ≤ N) : rz_len (wOf N σ) (ah 1 1) = some (zI 9) := by
  exact w_len (t := 0) (by decide) (by decide) (by decide) (by decide) (Nat.lt_of_lt_of_le (by decide) hN)

theorem r_S_1 {N : Nat} {σ : zS} (hN : 48 ≤ N) {i : Int} (hi1 : 0 ≤ i) (hi2 : i < 9) : rz_ald (wOf N σ) (ah 1 1) 0 (zI i) = some (zI (σ 1 1 i.toNat)) := by
  exact w_ald (by decide) (by decide) (by decide) (by decide) (Nat.lt_of_lt_of_le (by decide) hN) (n := 9) (by omega) ⟨hi1, hi2⟩

theorem w_S_1 {N : Nat} {σ : zS} (hN : 48 ≤ N) {i : Int} (v : Int) (hi1 : 0 ≤ i) (hi2 : i < 9) : rz_ast (wOf N σ) (ah 1 1) 0 (zI i) (zI v) = some (wOf N (sset σ 1 1 (zup (σ 1 1) i.toNat v))) := by
  exact w_ast (by decide) (by decide) (by decide) (by decide) (Nat.lt_of_lt_of_le (by decide) hN) (n := 9) (by omega) ⟨hi1, hi2⟩

theorem f_S_2 {N : Nat} {σ : zS} (hN : 48 ≤ N) : rz_fld (wOf N σ) (bs 1) 2 2 = some (.int (zI (σ 1 2 0))) := by
  exact w_fld (by decide) (Nat.lt_of_lt_of_le (by decide) hN)

theorem u_S_2 {N : Nat} {σ : zS} (hN : 48 ≤ N) (v : Int) : rz_put (wOf N σ) (bs 1) 2 2 (.int (zI v)) = some (wOf N (sset σ 1 2 (fun _ => v))) := by
  exact w_put (by decide) (Nat.lt_of_lt_of_le (by decide) hN) (by decide) (by decide) rfl

theorem f_S_3 {N : Nat} {σ : zS} (hN : 48 ≤ N) : rz_fld (wOf N σ) (bs 1) 2 3 = some (.int (zI (σ 1 3 0))) := by
  exact w_fld (by decide) (Nat.lt_of_lt_of_le (by decide) hN)

theorem u_S_3 {N : Nat} {σ : zS} (hN : 48 ≤ N) (v : Int) : rz_put (wOf N σ) (bs 1) 2 3 (.int (zI v)) = some (wOf N (sset σ 1 3 (fun _ => v))) := by
  exact w_put (by decide) (Nat.lt_of_lt_of_le (by decide) hN) (by decide) (by decide) rfl

theorem f_S_4 {N : Nat} {σ : zS} (hN : 48 ≤ N) : rz_fld (wOf N σ) (bs 1) 2 4 = some (.int (zI (σ 1 4 0))) := by
  exact w_fld (by decide) (Nat.lt_of_lt_of_le (by decide) hN)

theorem u_S_4 {N : Nat} {σ : zS} (hN : 48 ≤ N) (v : Int) : rz_put (wOf N σ) (bs 1) 2 4 (.int (zI v)) = some (wOf N (sset σ 1 4 (fun _ => v))) := by
  exact w_put (by decide) (Nat.lt_of_lt_of_le (by decide) hN) (by decide) (by decide) rfl

theorem f_S_5 {N : Nat} {σ : zS} (hN : 48 ≤ N) : rz_fld (wOf N σ) (bs 1) 2 5 = some (.int (zI (σ 1 5 0))) := by
  exact w_fld (by decide) (Nat.lt_of_lt_of_le (by decide) hN)

theorem u_S_5 {N : Nat} {σ : zS} (hN : 48 ≤ N) (v : Int) : rz_put (wOf N σ) (bs 1) 2 5 (.int (zI v)) = some (wOf N (sset σ 1 5 (fun _ => v))) := by
  exact w_put (by decide) (Nat.lt_of_lt_of_le (by decide) hN) (by decide) (by decide) rfl

theorem f_S_6 {N : Nat} {σ : zS} (hN : 48 ≤ N) : rz_fld (wOf N σ) (bs 1) 2 6 = some (.int (zI (σ 1 6 0))) := by
  exact w_fld (by decide) (Nat.lt_of_lt_of_le (by decide) hN)

theorem u_S_6 {N : Nat} {σ : zS} (hN : 48 ≤ N) (v : Int) : rz_put (wOf N σ) (bs 1) 2 6 (.int (zI v)) = some (wOf N (sset σ 1 6 (fun _ => v))) := by
  exact w_put (by decide) (Nat.lt_of_lt_of_le (by decide) hN) (by decide) (by decide) rfl

theorem f_S_7 {N : Nat} {σ : zS} (hN : 48 ≤ N) : rz_fld (wOf N σ) (bs 1) 2 7 = some (.int (zI (σ 1 7 0))) := by
  exact w_fld (by decide) (Nat.lt_of_lt_of_le (by decide) hN)

theorem u_S_7 {N : Nat} {σ : zS} (hN : 48 ≤ N) (v : Int) : rz_put (wOf N σ) (bs 1) 2 7 (.int (zI v)) = some (wOf N (sset σ 1 7 (fun _ => v))) := by
  exact w_put (by decide) (Nat.lt_of_lt_of_le (by decide) hN) (by decide) (by decide) rfl

theorem f_S_8 {N : Nat} {σ : zS} (hN : 48 ≤ N) : rz_fld (wOf N σ) (bs 1) 2 8 = some (.int (zI (σ 1 8 0))) := by
  exact w_fld (by decide) (Nat.lt_of_lt_of_le (by decide) hN)

theorem u_S_8 {N : Nat} {σ : zS} (hN : 48 ≤ N) (v : Int) : rz_put (wOf N σ) (bs 1) 2 8 (.int (zI v)) = some (wOf N (sset σ 1 8 (fun _ => v))) := by
  exact w_put (by decide) (Nat.lt_of_lt_of_le (by decide) hN) (by decide) (by decide) rfl

theorem f_S_9 {N : Nat} {σ : zS} (hN : 48 ≤ N) : rz_fld (wOf N σ) (bs 1) 2 9 = some (.int (zI (σ 1 9 0))) := by
  exact w_fld (by decide) (Nat.lt_of_lt_of_le (by decide) hN)

theorem u_S_9 {N : Nat} {σ : zS} (hN : 48 ≤ N) (v : Int) : rz_put (wOf N σ) (bs 1) 2 9 (.int (zI v)) = some (wOf N (sset σ 1 9 (fun _ => v))) := by
  exact w_put (by decide) (Nat.lt_of_lt_of_le (by decide) hN) (by decide) (by decide) rfl

theorem c_R {N : Nat} {σ : zS} (hN : 48 ≤ N) : (rz_clsOf (wOf N σ) (bs 6) = some 1) = True := by
  exact eq_true (w_cls (by decide) (Nat.lt_of_lt_of_le (by decide) hN))

theorem f_R_0 {N : Nat} {σ : zS} (hN : 48 ≤ N) : rz_fld (wOf N σ) (bs 6) 1 0 = some (.ref (ah 6 0)) := by
  exact w_fld (by decide) (Nat.lt_of_lt_of_le (by decide) hN)

theorem l_R_0 {N : Nat} {σ : zS} (hN : 48 ≤ N) : rz_len (wOf N σ) (ah 6 0) = some (zI 18432) := by
  exact w_len (t := 0) (by decide) (by decide) (by decide) (by decide) (Nat.lt_of_lt_of_le (by decide) hN)

theorem r_R_0 {N : Nat} {σ : zS} (hN : 48 ≤ N) {i : Int} (hi1 : 0 ≤ i) (hi2 : i < 18432) : rz_ald (wOf N σ) (ah 6 0) 0 (zI i) = some (zI (σ 6 0 i.toNat)) := by
  exact w_ald (by decide) (by decide) (by decide) (by decide) (Nat.lt_of_lt_of_le (by decide) hN) (n := 18432) (by omega) ⟨hi1, hi2⟩

theorem w_R_0 {N : Nat} {σ : zS} (hN : 48 ≤ N) {i : Int} (v : Int) (hi1 : 0 ≤ i) (hi2 : i < 18432) : rz_ast (wOf N σ) (ah 6 0) 0 (zI i) (zI v) = some (wOf N (sset σ 6 0 (zup (σ 6 0) i.toNat v))) := by
  exact w_ast (by decide) (by decide) (by decide) (by decide) (Nat.lt_of_lt_of_le (by decide) hN) (n := 18432) (by omega) ⟨hi1, hi2⟩

theorem f_R_1 {N : Nat} {σ : zS} (hN : 48 ≤ N) : rz_fld (wOf N σ) (bs 6) 1 1 = some (.ref (ah 6 1)) := by
  exact w_fld (by decide) (Nat.lt_of_lt_of_le (by decide) hN)

theorem l_R_1 {N : Nat} {σ : zS} (hN : 48 ≤ N) : rz_len (wOf N σ) (ah 6 1) = some (zI 2) := by
  exact w_len (t := 0) (by decide) (by decide) (by decide) (by decide) (Nat.lt_of_lt_of_le (by decide) hN)

theorem r_R_1 {N : Nat} {σ : zS} (hN : 48 ≤ N) {i : Int} (hi1 : 0 ≤ i) (hi2 : i < 2) : rz_ald (wOf N σ) (ah 6 1) 0 (zI i) = some (zI (σ 6 1 i.toNat)) := by
  exact w_ald (by decide) (by decide) (by decide) (by decide) (Nat.lt_of_lt_of_le (by decide) hN) (n := 2) (by omega) ⟨hi1, hi2⟩

theorem w_R_1 {N : Nat} {σ : zS} (hN : 48 ≤ N) {i : Int} (v : Int) (hi1 : 0 ≤ i) (hi2 : i < 2) : rz_ast (wOf N σ) (ah 6 1) 0 (zI i) (zI v) = some (wOf N (sset σ 6 1 (zup (σ 6 1) i.toNat v))) := by
  exact w_ast (by decide) (by decide) (by decide) (by decide) (Nat.lt_of_lt_of_le (by decide) hN) (n := 2) (by omega) ⟨hi1, hi2⟩

theorem f_R_2 {N : Nat} {σ : zS} (hN : 48 ≤ N) : rz_fld (wOf N σ) (bs 6) 1 2 = some (.ref (ah 6 2)) := by
  exact w_fld (by decide) (Nat.lt_of_lt_of_le (by decide) hN)

theorem l_R_2 {N : Nat} {σ : zS} (hN : 48 ≤ N) : rz_len (wOf N σ) (ah 6 2) = some (zI 2) := by
  exact w_len (t := 0) (by decide) (by decide) (by decide) (by decide) (Nat.lt_of_lt_of_le (by decide) hN)

theorem r_R_2 {N : Nat} {σ : zS} (hN : 48 ≤ N) {i : Int} (hi1 : 0 ≤ i) (hi2 : i < 2) : rz_ald (wOf N σ) (ah 6 2) 0 (zI i) = some (zI (σ 6 2 i.toNat)) := by
  exact w_ald (by decide) (by decide) (by decide) (by decide) (Nat.lt_of_lt_of_le (by decide) hN) (n := 2) (by omega) ⟨hi1, hi2⟩

theorem w_R_2 {N : Nat} {σ : zS} (hN : 48 ≤ N) {i : Int} (v : Int) (hi1 : 0 ≤ i) (hi2 : i < 2) : rz_ast (wOf N σ) (ah 6 2) 0 (zI i) (zI v) = some (wOf N (sset σ 6 2 (zup (σ 6 2) i.toNat v))) := by
  exact w_ast (by decide) (by decide) (by decide) (by decide) (Nat.lt_of_lt_of_le (by decide) hN) (n := 2) (by omega) ⟨hi1, hi2⟩

theorem f_R_3 {N : Nat} {σ : zS} (hN : 48 ≤ N) : rz_fld (wOf N σ) (bs 6) 1 3 = some (.ref (bs (σ 6 3 0).toNat)) := by
  exact w_fld (by decide) (Nat.lt_of_lt_of_le (by decide) hN)

theorem u_R_3 {N : Nat} {σ : zS} (hN : 48 ≤ N) (v : Nat) : rz_put (wOf N σ) (bs 6) 1 3 (.ref (bs v)) = some (wOf N (sset σ 6 3 (fun _ => (v : Int)))) := by
  exact w_put (by decide) (Nat.lt_of_lt_of_le (by decide) hN) (by decide) (by decide) rfl

theorem f_R_4 {N : Nat} {σ : zS} (hN : 48 ≤ N) : rz_fld (wOf N σ) (bs 6) 1 4 = some (.int (zI (σ 6 4 0))) := by
  exact w_fld (by decide) (Nat.lt_of_lt_of_le (by decide) hN)

theorem u_R_4 {N : Nat} {σ : zS} (hN : 48 ≤ N) (v : Int) : rz_put (wOf N σ) (bs 6) 1 4 (.int (zI v)) = some (wOf N (sset σ 6 4 (fun _ => v))) := by
  exact w_put (by decide) (Nat.lt_of_lt_of_le (by decide) hN) (by decide) (by decide) rfl

theorem c_O {N : Nat} {σ : zS} (hN : 48 ≤ N) : (rz_clsOf (wOf N σ) (bs 0) = some 4) = True := by
  exact eq_true (w_cls (by decide) (Nat.lt_of_lt_of_le (by decide) hN))

theorem f_O_0 {N : Nat} {σ : zS} (hN : 48 ≤ N) : rz_fld (wOf N σ) (bs 0) 4 0 = some (.ref (bs 1)) := by
  exact w_fld (by decide) (Nat.lt_of_lt_of_le (by decide) hN)

theorem f_O_1 {N : Nat} {σ : zS} (hN : 48 ≤ N) : rz_fld (wOf N σ) (bs 0) 4 1 = some (.ref (bs 2)) := by
  exact w_fld (by decide) (Nat.lt_of_lt_of_le (by decide) hN)

theorem f_O_2 {N : Nat} {σ : zS} (hN : 48 ≤ N) : rz_fld (wOf N σ) (bs 0) 4 2 = some (.ref (bs 3)) := by
  exact w_fld (by decide) (Nat.lt_of_lt_of_le (by decide) hN)

theorem f_O_3 {N : Nat} {σ : zS} (hN : 48 ≤ N) : rz_fld (wOf N σ) (bs 0) 4 3 = some (.ref (bs 4)) := by
  exact w_fld (by decide) (Nat.lt_of_lt_of_le (by decide) hN)

theorem f_O_4 {N : Nat} {σ : zS} (hN : 48 ≤ N) : rz_fld (wOf N σ) (bs 0) 4 4 = some (.ref (bs 5)) := by
  exact w_fld (by decide) (Nat.lt_of_lt_of_le (by decide) hN)

theorem f_O_5 {N : Nat} {σ : zS} (hN : 48 ≤ N) : rz_fld (wOf N σ) (bs 0) 4 5 = some (.ref (bs 6)) := by
  exact w_fld (by decide) (Nat.lt_of_lt_of_le (by decide) hN)

theorem f_O_6 {N : Nat} {σ : zS} (hN : 48 ≤ N) : rz_fld (wOf N σ) (bs 0) 4 6 = some (.ref (ah 0 6)) := by
  exact w_fld (by decide) (Nat.lt_of_lt_of_le (by decide) hN)

theorem l_O_6 {N : Nat} {σ : zS} (hN : 48 ≤ N) : rz_len (wOf N σ) (ah 0 6) = some (zI 9) := by
  exact w_len (t := 0) (by decide) (by decide) (by decide) (by decide) (Nat.lt_of_lt_of_le (by decide) hN)

theorem r_O_6 {N : Nat} {σ : zS} (hN : 48 ≤ N) {i : Int} (hi1 : 0 ≤ i) (hi2 : i < 9) : rz_ald (wOf N σ) (ah 0 6) 0 (zI i) = some (zI (σ 0 6 i.toNat)) := by
  exact w_ald (by decide) (by decide) (by decide) (by decide) (Nat.lt_of_lt_of_le (by decide) hN) (n := 9) (by omega) ⟨hi1, hi2⟩

theorem w_O_6 {N : Nat} {σ : zS} (hN : 48 ≤ N) {i : Int} (v : Int) (hi1 : 0 ≤ i) (hi2 : i < 9) : rz_ast (wOf N σ) (ah 0 6) 0 (zI i) (zI v) = some (wOf N (sset σ 0 6 (zup (σ 0 6) i.toNat v))) := by
  exact w_ast (by decide) (by decide) (by decide) (by decide) (Nat.lt_of_lt_of_le (by decide) hN) (n := 9) (by omega) ⟨hi1, hi2⟩

theorem f_O_7 {N : Nat} {σ : zS} (hN : 48 ≤ N) : rz_fld (wOf N σ) (bs 0) 4 7 = some (.ref (bs (σ 0 7 0).toNat)) := by
  exact w_fld (by decide) (Nat.lt_of_lt_of_le (by decide) hN)

theorem u_O_7 {N : Nat} {σ : zS} (hN : 48 ≤ N) (v : Nat) : rz_put (wOf N σ) (bs 0) 4 7 (.ref (bs v)) = some (wOf N (sset σ 0 7 (fun _ => (v : Int)))) := by
  exact w_put (by decide) (Nat.lt_of_lt_of_le (by decide) hN) (by decide) (by decide) rfl

theorem f_O_8 {N : Nat} {σ : zS} (hN : 48 ≤ N) : rz_fld (wOf N σ) (bs 0) 4 8 = some (.ref (bs (σ 0 8 0).toNat)) := by
  exact w_fld (by decide) (Nat.lt_of_lt_of_le (by decide) hN)

theorem u_O_8 {N : Nat} {σ : zS} (hN : 48 ≤ N) (v : Nat) : rz_put (wOf N σ) (bs 0) 4 8 (.ref (bs v)) = some (wOf N (sset σ 0 8 (fun _ => (v : Int)))) := by
  exact w_put (by decide) (Nat.lt_of_lt_of_le (by decide) hN) (by decide) (by decide) rfl

theorem f_O_9 {N : Nat} {σ : zS} (hN : 48 ≤ N) : rz_fld (wOf N σ) (bs 0) 4 9 = some (.int (zI (σ 0 9 0))) := by
  exact w_fld (by decide) (Nat.lt_of_lt_of_le (by decide) hN)

theorem u_O_9 {N : Nat} {σ : zS} (hN : 48 ≤ N) (v : Int) : rz_put (wOf N σ) (bs 0) 4 9 (.int (zI v)) = some (wOf N (sset σ 0 9 (fun _ => v))) := by
  exact w_put (by decide) (Nat.lt_of_lt_of_le (by decide) hN) (by decide) (by decide) rfl

theorem f_O_10 {N : Nat} {σ : zS} (hN : 48 ≤ N) : rz_fld (wOf N σ) (bs 0) 4 10 = some (.long (Int64.ofInt (σ 0 10 0))) := by
  exact w_fld (by decide) (Nat.lt_of_lt_of_le (by decide) hN)

theorem u_O_10 {N : Nat} {σ : zS} (hN : 48 ≤ N) (v : Int) : rz_put (wOf N σ) (bs 0) 4 10 (.long (Int64.ofInt v)) = some (wOf N (sset σ 0 10 (fun _ => v))) := by
  exact w_put (by decide) (Nat.lt_of_lt_of_le (by decide) hN) (by decide) (by decide) rfl

theorem c_M {N : Nat} {σ : zS} (hN : 60 ≤ N) : (rz_clsOf (wOf N σ) (bs 10) = some 5) = True := by
  exact eq_true (w_cls (by decide) (Nat.lt_of_lt_of_le (by decide) hN))

theorem f_M_0 {N : Nat} {σ : zS} (hN : 60 ≤ N) : rz_fld (wOf N σ) (bs 10) 5 0 = some (.int (zI (σ 10 0 0))) := by
  exact w_fld (by decide) (Nat.lt_of_lt_of_le (by decide) hN)

theorem u_M_0 {N : Nat} {σ : zS} (hN : 60 ≤ N) (v : Int) : rz_put (wOf N σ) (bs 10) 5 0 (.int (zI v)) = some (wOf N (sset σ 10 0 (fun _ => v))) := by
  exact w_put (by decide) (Nat.lt_of_lt_of_le (by decide) hN) (by decide) (by decide) rfl

theorem f_M_1 {N : Nat} {σ : zS} (hN : 60 ≤ N) : rz_fld (wOf N σ) (bs 10) 5 1 = some (.long (Int64.ofInt (σ 10 1 0))) := by
  exact w_fld (by decide) (Nat.lt_of_lt_of_le (by decide) hN)

theorem u_M_1 {N : Nat} {σ : zS} (hN : 60 ≤ N) (v : Int) : rz_put (wOf N σ) (bs 10) 5 1 (.long (Int64.ofInt v)) = some (wOf N (sset σ 10 1 (fun _ => v))) := by
  exact w_put (by decide) (Nat.lt_of_lt_of_le (by decide) hN) (by decide) (by decide) rfl

theorem f_M_2 {N : Nat} {σ : zS} (hN : 60 ≤ N) : rz_fld (wOf N σ) (bs 10) 5 2 = some (.ref (ah 10 2)) := by
  exact w_fld (by decide) (Nat.lt_of_lt_of_le (by decide) hN)

theorem l_M_2 {N : Nat} {σ : zS} (hN : 60 ≤ N) : rz_len (wOf N σ) (ah 10 2) = some (zI 300) := by
  exact w_len (t := 0) (by decide) (by decide) (by decide) (by decide) (Nat.lt_of_lt_of_le (by decide) hN)

theorem r_M_2 {N : Nat} {σ : zS} (hN : 60 ≤ N) {i : Int} (hi1 : 0 ≤ i) (hi2 : i < 300) : rz_ald (wOf N σ) (ah 10 2) 0 (zI i) = some (zI (σ 10 2 i.toNat)) := by
  exact w_ald (by decide) (by decide) (by decide) (by decide) (Nat.lt_of_lt_of_le (by decide) hN) (n := 300) (by omega) ⟨hi1, hi2⟩

theorem w_M_2 {N : Nat} {σ : zS} (hN : 60 ≤ N) {i : Int} (v : Int) (hi1 : 0 ≤ i) (hi2 : i < 300) : rz_ast (wOf N σ) (ah 10 2) 0 (zI i) (zI v) = some (wOf N (sset σ 10 2 (zup (σ 10 2) i.toNat v))) := by
  exact w_ast (by decide) (by decide) (by decide) (by decide) (Nat.lt_of_lt_of_le (by decide) hN) (n := 300) (by omega) ⟨hi1, hi2⟩

theorem f_M_3 {N : Nat} {σ : zS} (hN : 60 ≤ N) : rz_fld (wOf N σ) (bs 10) 5 3 = some (.int (zI (σ 10 3 0))) := by
  exact w_fld (by decide) (Nat.lt_of_lt_of_le (by decide) hN)

theorem u_M_3 {N : Nat} {σ : zS} (hN : 60 ≤ N) (v : Int) : rz_put (wOf N σ) (bs 10) 5 3 (.int (zI v)) = some (wOf N (sset σ 10 3 (fun _ => v))) := by
  exact w_put (by decide) (Nat.lt_of_lt_of_le (by decide) hN) (by decide) (by decide) rfl

theorem f_M_4 {N : Nat} {σ : zS} (hN : 60 ≤ N) : rz_fld (wOf N σ) (bs 10) 5 4 = some (.int (zI (σ 10 4 0))) := by
  exact w_fld (by decide) (Nat.lt_of_lt_of_le (by decide) hN)

theorem u_M_4 {N : Nat} {σ : zS} (hN : 60 ≤ N) (v : Int) : rz_put (wOf N σ) (bs 10) 5 4 (.int (zI v)) = some (wOf N (sset σ 10 4 (fun _ => v))) := by
  exact w_put (by decide) (Nat.lt_of_lt_of_le (by decide) hN) (by decide) (by decide) rfl

theorem f_M_5 {N : Nat} {σ : zS} (hN : 60 ≤ N) : rz_fld (wOf N σ) (bs 10) 5 5 = some (.int (zI (σ 10 5 0))) := by
  exact w_fld (by decide) (Nat.lt_of_lt_of_le (by decide) hN)

theorem u_M_5 {N : Nat} {σ : zS} (hN : 60 ≤ N) (v : Int) : rz_put (wOf N σ) (bs 10) 5 5 (.int (zI v)) = some (wOf N (sset σ 10 5 (fun _ => v))) := by
  exact w_put (by decide) (Nat.lt_of_lt_of_le (by decide) hN) (by decide) (by decide) rfl

theorem f_M_6 {N : Nat} {σ : zS} (hN : 60 ≤ N) : rz_fld (wOf N σ) (bs 10) 5 6 = some (.int (zI (σ 10 6 0))) := by
  exact w_fld (by decide) (Nat.lt_of_lt_of_le (by decide) hN)

theorem u_M_6 {N : Nat} {σ : zS} (hN : 60 ≤ N) (v : Int) : rz_put (wOf N σ) (bs 10) 5 6 (.int (zI v)) = some (wOf N (sset σ 10 6 (fun _ => v))) := by
  exact w_put (by decide) (Nat.lt_of_lt_of_le (by decide) hN) (by decide) (by decide) rfl

theorem f_M_7 {N : Nat} {σ : zS} (hN : 60 ≤ N) : rz_fld (wOf N σ) (bs 10) 5 7 = some (.int (zI (σ 10 7 0))) := by
  exact w_fld (by decide) (Nat.lt_of_lt_of_le (by decide) hN)

theorem u_M_7 {N : Nat} {σ : zS} (hN : 60 ≤ N) (v : Int) : rz_put (wOf N σ) (bs 10) 5 7 (.int (zI v)) = some (wOf N (sset σ 10 7 (fun _ => v))) := by
  exact w_put (by decide) (Nat.lt_of_lt_of_le (by decide) hN) (by decide) (by decide) rfl

theorem f_M_8 {N : Nat} {σ : zS} (hN : 60 ≤ N) : rz_fld (wOf N σ) (bs 10) 5 8 = some (.int (zI (σ 10 8 0))) := by
  exact w_fld (by decide) (Nat.lt_of_lt_of_le (by decide) hN)

theorem u_M_8 {N : Nat} {σ : zS} (hN : 60 ≤ N) (v : Int) : rz_put (wOf N σ) (bs 10) 5 8 (.int (zI v)) = some (wOf N (sset σ 10 8 (fun _ => v))) := by
  exact w_put (by decide) (Nat.lt_of_lt_of_le (by decide) hN) (by decide) (by decide) rfl

theorem f_M_9 {N : Nat} {σ : zS} (hN : 60 ≤ N) : rz_fld (wOf N σ) (bs 10) 5 9 = some (.ref (ah 10 9)) := by
  exact w_fld (by decide) (Nat.lt_of_lt_of_le (by decide) hN)

theorem l_M_9 {N : Nat} {σ : zS} (hN : 60 ≤ N) : rz_len (wOf N σ) (ah 10 9) = some (zI 66) := by
  exact w_len (t := 0) (by decide) (by decide) (by decide) (by decide) (Nat.lt_of_lt_of_le (by decide) hN)

theorem r_M_9 {N : Nat} {σ : zS} (hN : 60 ≤ N) {i : Int} (hi1 : 0 ≤ i) (hi2 : i < 66) : rz_ald (wOf N σ) (ah 10 9) 0 (zI i) = some (zI (σ 10 9 i.toNat)) := by
  exact w_ald (by decide) (by decide) (by decide) (by decide) (Nat.lt_of_lt_of_le (by decide) hN) (n := 66) (by omega) ⟨hi1, hi2⟩

theorem w_M_9 {N : Nat} {σ : zS} (hN : 60 ≤ N) {i : Int} (v : Int) (hi1 : 0 ≤ i) (hi2 : i < 66) : rz_ast (wOf N σ) (ah 10 9) 0 (zI i) (zI v) = some (wOf N (sset σ 10 9 (zup (σ 10 9) i.toNat v))) := by
  exact w_ast (by decide) (by decide) (by decide) (by decide) (Nat.lt_of_lt_of_le (by decide) hN) (n := 66) (by omega) ⟨hi1, hi2⟩

theorem f_M_10 {N : Nat} {σ : zS} (hN : 60 ≤ N) : rz_fld (wOf N σ) (bs 10) 5 10 = some (.ref (ah 10 10)) := by
  exact w_fld (by decide) (Nat.lt_of_lt_of_le (by decide) hN)

theorem l_M_10 {N : Nat} {σ : zS} (hN : 60 ≤ N) : rz_len (wOf N σ) (ah 10 10) = some (zI 9) := by
  exact w_len (t := 0) (by decide) (by decide) (by decide) (by decide) (Nat.lt_of_lt_of_le (by decide) hN)

theorem r_M_10 {N : Nat} {σ : zS} (hN : 60 ≤ N) {i : Int} (hi1 : 0 ≤ i) (hi2 : i < 9) : rz_ald (wOf N σ) (ah 10 10) 0 (zI i) = some (zI (σ 10 10 i.toNat)) := by
  exact w_ald (by decide) (by decide) (by decide) (by decide) (Nat.lt_of_lt_of_le (by decide) hN) (n := 9) (by omega) ⟨hi1, hi2⟩

theorem w_M_10 {N : Nat} {σ : zS} (hN : 60 ≤ N) {i : Int} (v : Int) (hi1 : 0 ≤ i) (hi2 : i < 9) : rz_ast (wOf N σ) (ah 10 10) 0 (zI i) (zI v) = some (wOf N (sset σ 10 10 (zup (σ 10 10) i.toNat v))) := by
  exact w_ast (by decide) (by decide) (by decide) (by decide) (Nat.lt_of_lt_of_le (by decide) hN) (n := 9) (by omega) ⟨hi1, hi2⟩

theorem f_M_11 {N : Nat} {σ : zS} (hN : 60 ≤ N) : rz_fld (wOf N σ) (bs 10) 5 11 = some (.ref (ah 10 11)) := by
  exact w_fld (by decide) (Nat.lt_of_lt_of_le (by decide) hN)

theorem l_M_11 {N : Nat} {σ : zS} (hN : 60 ≤ N) : rz_len (wOf N σ) (ah 10 11) = some (zI 18) := by
  exact w_len (t := 0) (by decide) (by decide) (by decide) (by decide) (Nat.lt_of_lt_of_le (by decide) hN)

theorem r_M_11 {N : Nat} {σ : zS} (hN : 60 ≤ N) {i : Int} (hi1 : 0 ≤ i) (hi2 : i < 18) : rz_ald (wOf N σ) (ah 10 11) 0 (zI i) = some (zI (σ 10 11 i.toNat)) := by
  exact w_ald (by decide) (by decide) (by decide) (by decide) (Nat.lt_of_lt_of_le (by decide) hN) (n := 18) (by omega) ⟨hi1, hi2⟩

theorem w_M_11 {N : Nat} {σ : zS} (hN : 60 ≤ N) {i : Int} (v : Int) (hi1 : 0 ≤ i) (hi2 : i < 18) : rz_ast (wOf N σ) (ah 10 11) 0 (zI i) (zI v) = some (wOf N (sset σ 10 11 (zup (σ 10 11) i.toNat v))) := by
  exact w_ast (by decide) (by decide) (by decide) (by decide) (Nat.lt_of_lt_of_le (by decide) hN) (n := 18) (by omega) ⟨hi1, hi2⟩

theorem f_M_12 {N : Nat} {σ : zS} (hN : 60 ≤ N) : rz_fld (wOf N σ) (bs 10) 5 12 = some (.ref (ah 10 12)) := by
  exact w_fld (by decide) (Nat.lt_of_lt_of_le (by decide) hN)

theorem l_M_12 {N : Nat} {σ : zS} (hN : 60 ≤ N) : rz_len (wOf N σ) (ah 10 12) = some (zI 2) := by
  exact w_len (t := 1) (by decide) (by decide) (by decide) (by decide) (Nat.lt_of_lt_of_le (by decide) hN)

theorem r_M_12 {N : Nat} {σ : zS} (hN : 60 ≤ N) {i : Int} (hi1 : 0 ≤ i) (hi2 : i < 2) : rz_ald (wOf N σ) (ah 10 12) 1 (zI i) = some (zI (σ 10 12 i.toNat)) := by
  exact w_ald (by decide) (by decide) (by decide) (by decide) (Nat.lt_of_lt_of_le (by decide) hN) (n := 2) (by omega) ⟨hi1, hi2⟩

theorem w_M_12 {N : Nat} {σ : zS} (hN : 60 ≤ N) {i : Int} (v : Int) (hi1 : 0 ≤ i) (hi2 : i < 2) : rz_ast (wOf N σ) (ah 10 12) 1 (zI i) (zI v) = some (wOf N (sset σ 10 12 (zup (σ 10 12) i.toNat v))) := by
  exact w_ast (by decide) (by decide) (by decide) (by decide) (Nat.lt_of_lt_of_le (by decide) hN) (n := 2) (by omega) ⟨hi1, hi2⟩

theorem f_M_13 {N : Nat} {σ : zS} (hN : 60 ≤ N) : rz_fld (wOf N σ) (bs 10) 5 13 = some (.ref (ah 10 13)) := by
  exact w_fld (by decide) (Nat.lt_of_lt_of_le (by decide) hN)

theorem l_M_13 {N : Nat} {σ : zS} (hN : 60 ≤ N) : rz_len (wOf N σ) (ah 10 13) = some (zI 4608) := by
  exact w_len (t := 0) (by decide) (by decide) (by decide) (by decide) (Nat.lt_of_lt_of_le (by decide) hN)

theorem r_M_13 {N : Nat} {σ : zS} (hN : 60 ≤ N) {i : Int} (hi1 : 0 ≤ i) (hi2 : i < 4608) : rz_ald (wOf N σ) (ah 10 13) 0 (zI i) = some (zI (σ 10 13 i.toNat)) := by
  exact w_ald (by decide) (by decide) (by decide) (by decide) (Nat.lt_of_lt_of_le (by decide) hN) (n := 4608) (by omega) ⟨hi1, hi2⟩

theorem w_M_13 {N : Nat} {σ : zS} (hN : 60 ≤ N) {i : Int} (v : Int) (hi1 : 0 ≤ i) (hi2 : i < 4608) : rz_ast (wOf N σ) (ah 10 13) 0 (zI i) (zI v) = some (wOf N (sset σ 10 13 (zup (σ 10 13) i.toNat v))) := by
  exact w_ast (by decide) (by decide) (by decide) (by decide) (Nat.lt_of_lt_of_le (by decide) hN) (n := 4608) (by omega) ⟨hi1, hi2⟩

theorem f_M_14 {N : Nat} {σ : zS} (hN : 60 ≤ N) : rz_fld (wOf N σ) (bs 10) 5 14 = some (.ref (ah 10 14)) := by
  exact w_fld (by decide) (Nat.lt_of_lt_of_le (by decide) hN)

theorem l_M_14 {N : Nat} {σ : zS} (hN : 60 ≤ N) : rz_len (wOf N σ) (ah 10 14) = some (zI 4608) := by
  exact w_len (t := 0) (by decide) (by decide) (by decide) (by decide) (Nat.lt_of_lt_of_le (by decide) hN)

theorem r_M_14 {N : Nat} {σ : zS} (hN : 60 ≤ N) {i : Int} (hi1 : 0 ≤ i) (hi2 : i < 4608) : rz_ald (wOf N σ) (ah 10 14) 0 (zI i) = some (zI (σ 10 14 i.toNat)) := by
  exact w_ald (by decide) (by decide) (by decide) (by decide) (Nat.lt_of_lt_of_le (by decide) hN) (n := 4608) (by omega) ⟨hi1, hi2⟩

theorem w_M_14 {N : Nat} {σ : zS} (hN : 60 ≤ N) {i : Int} (v : Int) (hi1 : 0 ≤ i) (hi2 : i < 4608) : rz_ast (wOf N σ) (ah 10 14) 0 (zI i) (zI v) = some (wOf N (sset σ 10 14 (zup (σ 10 14) i.toNat v))) := by
  exact w_ast (by decide) (by decide) (by decide) (by decide) (Nat.lt_of_lt_of_le (by decide) hN) (n := 4608) (by omega) ⟨hi1, hi2⟩

theorem f_M_15 {N : Nat} {σ : zS} (hN : 60 ≤ N) : rz_fld (wOf N σ) (bs 10) 5 15 = some (.ref (ah 10 15)) := by
  exact w_fld (by decide) (Nat.lt_of_lt_of_le (by decide) hN)

theorem l_M_15 {N : Nat} {σ : zS} (hN : 60 ≤ N) : rz_len (wOf N σ) (ah 10 15) = some (zI 2) := by
  exact w_len (t := 0) (by decide) (by decide) (by decide) (by decide) (Nat.lt_of_lt_of_le (by decide) hN)

theorem r_M_15 {N : Nat} {σ : zS} (hN : 60 ≤ N) {i : Int} (hi1 : 0 ≤ i) (hi2 : i < 2) : rz_ald (wOf N σ) (ah 10 15) 0 (zI i) = some (zI (σ 10 15 i.toNat)) := by
  exact w_ald (by decide) (by decide) (by decide) (by decide) (Nat.lt_of_lt_of_le (by decide) hN) (n := 2) (by omega) ⟨hi1, hi2⟩

theorem w_M_15 {N : Nat} {σ : zS} (hN : 60 ≤ N) {i : Int} (v : Int) (hi1 : 0 ≤ i) (hi2 : i < 2) : rz_ast (wOf N σ) (ah 10 15) 0 (zI i) (zI v) = some (wOf N (sset σ 10 15 (zup (σ 10 15) i.toNat v))) := by
  exact w_ast (by decide) (by decide) (by decide) (by decide) (Nat.lt_of_lt_of_le (by decide) hN) (n := 2) (by omega) ⟨hi1, hi2⟩

theorem f_M_16 {N : Nat} {σ : zS} (hN : 60 ≤ N) : rz_fld (wOf N σ) (bs 10) 5 16 = some (.ref (ah 10 16)) := by
  exact w_fld (by decide) (Nat.lt_of_lt_of_le (by decide) hN)

theorem l_M_16 {N : Nat} {σ : zS} (hN : 60 ≤ N) : rz_len (wOf N σ) (ah 10 16) = some (zI 2) := by
  exact w_len (t := 0) (by decide) (by decide) (by decide) (by decide) (Nat.lt_of_lt_of_le (by decide) hN)

theorem r_M_16 {N : Nat} {σ : zS} (hN : 60 ≤ N) {i : Int} (hi1 : 0 ≤ i) (hi2 : i < 2) : rz_ald (wOf N σ) (ah 10 16) 0 (zI i) = some (zI (σ 10 16 i.toNat)) := by
  exact w_ald (by decide) (by decide) (by decide) (by decide) (Nat.lt_of_lt_of_le (by decide) hN) (n := 2) (by omega) ⟨hi1, hi2⟩

theorem w_M_16 {N : Nat} {σ : zS} (hN : 60 ≤ N) {i : Int} (v : Int) (hi1 : 0 ≤ i) (hi2 : i < 2) : rz_ast (wOf N σ) (ah 10 16) 0 (zI i) (zI v) = some (wOf N (sset σ 10 16 (zup (σ 10 16) i.toNat v))) := by
  exact w_ast (by decide) (by decide) (by decide) (by decide) (Nat.lt_of_lt_of_le (by decide) hN) (n := 2) (by omega) ⟨hi1, hi2⟩

theorem f_M_17 {N : Nat} {σ : zS} (hN : 60 ≤ N) : rz_fld (wOf N σ) (bs 10) 5 17 = some (.ref (ah 10 17)) := by
  exact w_fld (by decide) (Nat.lt_of_lt_of_le (by decide) hN)

theorem l_M_17 {N : Nat} {σ : zS} (hN : 60 ≤ N) : rz_len (wOf N σ) (ah 10 17) = some (zI 8) := by
  exact w_len (t := 0) (by decide) (by decide) (by decide) (by decide) (Nat.lt_of_lt_of_le (by decide) hN)

theorem r_M_17 {N : Nat} {σ : zS} (hN : 60 ≤ N) {i : Int} (hi1 : 0 ≤ i) (hi2 : i < 8) : rz_ald (wOf N σ) (ah 10 17) 0 (zI i) = some (zI (σ 10 17 i.toNat)) := by
  exact w_ald (by decide) (by decide) (by decide) (by decide) (Nat.lt_of_lt_of_le (by decide) hN) (n := 8) (by omega) ⟨hi1, hi2⟩

theorem w_M_17 {N : Nat} {σ : zS} (hN : 60 ≤ N) {i : Int} (v : Int) (hi1 : 0 ≤ i) (hi2 : i < 8) : rz_ast (wOf N σ) (ah 10 17) 0 (zI i) (zI v) = some (wOf N (sset σ 10 17 (zup (σ 10 17) i.toNat v))) := by
  exact w_ast (by decide) (by decide) (by decide) (by decide) (Nat.lt_of_lt_of_le (by decide) hN) (n := 8) (by omega) ⟨hi1, hi2⟩

theorem f_M_18 {N : Nat} {σ : zS} (hN : 60 ≤ N) : rz_fld (wOf N σ) (bs 10) 5 18 = some (.ref (ah 10 18)) := by
  exact w_fld (by decide) (Nat.lt_of_lt_of_le (by decide) hN)

theorem l_M_18 {N : Nat} {σ : zS} (hN : 60 ≤ N) : rz_len (wOf N σ) (ah 10 18) = some (zI 8) := by
  exact w_len (t := 0) (by decide) (by decide) (by decide) (by decide) (Nat.lt_of_lt_of_le (by decide) hN)

theorem r_M_18 {N : Nat} {σ : zS} (hN : 60 ≤ N) {i : Int} (hi1 : 0 ≤ i) (hi2 : i < 8) : rz_ald (wOf N σ) (ah 10 18) 0 (zI i) = some (zI (σ 10 18 i.toNat)) := by
  exact w_ald (by decide) (by decide) (by decide) (by decide) (Nat.lt_of_lt_of_le (by decide) hN) (n := 8) (by omega) ⟨hi1, hi2⟩

theorem w_M_18 {N : Nat} {σ : zS} (hN : 60 ≤ N) {i : Int} (v : Int) (hi1 : 0 ≤ i) (hi2 : i < 8) : rz_ast (wOf N σ) (ah 10 18) 0 (zI i) (zI v) = some (wOf N (sset σ 10 18 (zup (σ 10 18) i.toNat v))) := by
  exact w_ast (by decide) (by decide) (by decide) (by decide) (Nat.lt_of_lt_of_le (by decide) hN) (n := 8) (by omega) ⟨hi1, hi2⟩

