-- walks stay walks
theorem wfW_of {q p : zP} {f l : Nat → Int} {t b s o : Int} (e0 : q 0 = f) (e1 : q 1 = l) (e2 : q 2 0 = t) (e3 : q 3 0 = b) (e4 : q 4 0 = s) (e5 : q 5 0 = o) (h : (∀ m : Nat, m < 2 → (0 ≤ f m ∧ f m < p 8 0 * p 9 0) ∧ (0 ≤ l m ∧ l m ≤ 2)) ∧ (t = 0 ∨ t = 1) ∧ (-9 ≤ b ∧ b < 8 ∧ (b = -9 ∨ 0 ≤ b)) ∧ (0 ≤ s ∧ s ≤ 99) ∧ (0 ≤ o ∧ o ≤ 3) ∧ (o = 0 → s ≤ 98)) : wfW q p := by
  subst e0; subst e1; subst e2; subst e3; subst e4; subst e5
  exact h
theorem zup_at (f : Nat → Int) (k : Nat) (v : Int) (j : Nat) : zup f k v j = if j = k then v else f j := rfl
theorem wfW_start {q p : zP} (hw : wfP p) : wfW (startW q p) p := by
  refine wfW_of (f := zup (zup (q 0) 0 (p 4 0)) 1 (p 4 1)) (l := zup (zup (q 1) 0 (p 7 0)) 1 (p 7 1)) (t := 0) (b := -9) (s := 0) (o := 0) ?_ ?_ ?_ ?_ ?_ ?_ ?_
  · unfold startW; simp (disch := first | omega | exact Nat.le_of_ble_eq_true rfl) only [sset_eq, gset_at, gset_gset, gset_ne, pset_eq, pset_ne]
  · unfold startW; simp (disch := first | omega | exact Nat.le_of_ble_eq_true rfl) only [sset_eq, gset_at, gset_gset, gset_ne, pset_eq, pset_ne]
  · unfold startW; simp (disch := first | omega | exact Nat.le_of_ble_eq_true rfl) only [sset_eq, gset_at, gset_gset, gset_ne, pset_eq, pset_ne]
  · unfold startW; simp (disch := first | omega | exact Nat.le_of_ble_eq_true rfl) only [sset_eq, gset_at, gset_gset, gset_ne, pset_eq, pset_ne]
  · unfold startW; simp (disch := first | omega | exact Nat.le_of_ble_eq_true rfl) only [sset_eq, gset_at, gset_gset, gset_ne, pset_eq, pset_ne]
  · unfold startW; simp (disch := first | omega | exact Nat.le_of_ble_eq_true rfl) only [sset_eq, gset_at, gset_gset, gset_ne, pset_eq, pset_ne]
  · refine ⟨fun m hm => ?_, by omega, by omega, by omega, by omega, by omega⟩
    have h0 := hw.2.2.2 0 (by decide)
    have h1 := hw.2.2.2 1 (by decide)
    have e : m = 0 ∨ m = 1 := by omega
    rcases e with e | e <;> subst e
    · simp only [zup_at]; simp; exact ⟨h0.1, h0.2.2.2⟩
    · simp only [zup_at]; simp; exact ⟨h1.1, h1.2.2.2⟩
theorem wfW_goOn {q p : zP} (h0 : ∀ m : Nat, m < 2 → (0 ≤ q 0 m ∧ q 0 m < p 8 0 * p 9 0) ∧ (0 ≤ q 1 m ∧ q 1 m ≤ 2)) (h2 : q 2 0 = 0 ∨ q 2 0 = 1) (h4 : 0 ≤ q 4 0 ∧ q 4 0 ≤ 98) (h5 : 0 ≤ q 5 0 ∧ q 5 0 ≤ 3) : wfW (goOnW q) p := by
  unfold goOnW
  by_cases c : q 5 0 = 0 ∧ 99 ≤ q 4 0 + 1
  · rw [if_pos c]
    refine wfW_of (f := q 0) (l := q 1) (t := q 2 0) (b := -9) (s := q 4 0 + 1) (o := 3) ?_ ?_ ?_ ?_ ?_ ?_ ⟨h0, h2, by omega, by omega, by omega, by omega⟩ <;> simp (disch := first | omega | exact Nat.le_of_ble_eq_true rfl) only [sset_eq, gset_at, gset_gset, gset_ne, pset_eq, pset_ne]
  · rw [if_neg c]
    refine wfW_of (f := q 0) (l := q 1) (t := q 2 0) (b := -9) (s := q 4 0 + 1) (o := q 5 0) ?_ ?_ ?_ ?_ ?_ ?_ ⟨h0, h2, by omega, by omega, by omega, by omega⟩ <;> simp (disch := first | omega | exact Nat.le_of_ble_eq_true rfl) only [sset_eq, gset_at, gset_gset, gset_ne, pset_eq, pset_ne]
theorem wfW_pass {q p : zP} (h : wfW q p) (ho : q 5 0 = 0) : wfW (passW q) p := by
  obtain ⟨a, b, c, d, e, f⟩ := h
  unfold passW
  refine wfW_goOn ?_ ?_ ?_ ?_ <;> simp (disch := first | omega | exact Nat.le_of_ble_eq_true rfl) only [sset_eq, gset_at, gset_gset, gset_ne, pset_eq, pset_ne]
  · exact a
  · omega
  · omega
  · exact e
theorem wfW_refuse {q p : zP} (h : wfW q p) {k : Int} (hk : 0 ≤ k ∧ k < 8) (hl : 0 < q 1 (1 - q 2 0).toNat) : wfW (refQ q k) p := by
  obtain ⟨a, b, c, d, e, f⟩ := h
  unfold refQ
  refine wfW_of (f := q 0) (l := zup (q 1) (1 - q 2 0).toNat (q 1 (1 - q 2 0).toNat - 1)) (t := q 2 0) (b := k) (s := q 4 0) (o := q 5 0) ?_ ?_ ?_ ?_ ?_ ?_ ⟨fun m hm => ?_, b, by omega, d, e, f⟩ <;> (try simp (disch := first | omega | exact Nat.le_of_ble_eq_true rfl) only [sset_eq, gset_at, gset_gset, gset_ne, pset_eq, pset_ne])
  have am := a m hm
  refine ⟨am.1, ?_⟩
  rw [zup_at]
  by_cases c9 : m = (1 - q 2 0).toNat
  · rw [if_pos c9, ← c9]; rw [← c9] at hl; omega
  · rw [if_neg c9]; exact am.2
theorem wfW_step {q p : zP} (hw : wfP p) (hl : lkP p) (h : wfW q p) (ho : q 5 0 = 0) {k : Nat} (hk : k < 8) : wfW (stepW q p k) p := by
  unfold stepW
  by_cases c0 : stepTo q p k = -9
  · rw [if_pos c0]; exact h
  · rw [if_neg c0]
    obtain ⟨a, b, c, d, e, f⟩ := id h
    have c1 := (a (1 - q 2 0).toNat (by omega)).1
    have hld := ldP_rg hw hl (l := lawP p (1 - q 2 0)) c1 hk
    have hto : 0 ≤ stepTo q p k ∧ stepTo q p k < p 8 0 * p 9 0 := by
      unfold stepTo at c0 ⊢
      omega
    have hz : ∀ m : Nat, m < 2 → (0 ≤ zup (q 0) (1 - q 2 0).toNat (stepTo q p k) m ∧ zup (q 0) (1 - q 2 0).toNat (stepTo q p k) m < p 8 0 * p 9 0) ∧ (0 ≤ q 1 m ∧ q 1 m ≤ 2) := by
      intro m hm
      refine ⟨?_, (a m hm).2⟩
      rw [zup_at]
      split
      · exact hto
      · exact (a m hm).1
    unfold stepQ
    split
    · refine wfW_goOn ?_ ?_ ?_ ?_ <;> simp (disch := first | omega | exact Nat.le_of_ble_eq_true rfl) only [sset_eq, gset_at, gset_gset, gset_ne, pset_eq, pset_ne]
      · exact hz
      · exact b
      · omega
      · split <;> omega
    · split
      · refine wfW_goOn ?_ ?_ ?_ ?_ <;> simp (disch := first | omega | exact Nat.le_of_ble_eq_true rfl) only [sset_eq, gset_at, gset_gset, gset_ne, pset_eq, pset_ne]
        · exact hz
        · exact b
        · omega
        · split <;> omega
      · split
        · refine wfW_goOn ?_ ?_ ?_ ?_ <;> simp (disch := first | omega | exact Nat.le_of_ble_eq_true rfl) only [sset_eq, gset_at, gset_gset, gset_ne, pset_eq, pset_ne]
          · exact hz
          · omega
          · omega
          · exact e
        · refine wfW_goOn ?_ ?_ ?_ ?_ <;> simp (disch := first | omega | exact Nat.le_of_ble_eq_true rfl) only [sset_eq, gset_at, gset_gset, gset_ne, pset_eq, pset_ne]
          · exact hz
          · exact b
          · omega
          · exact e
theorem wfW_chance {q p : zP} {c : Int} (h : wfW q p) : wfW (pset q 6 (fun _ => c)) p := by
  obtain ⟨a, b, c', d, e, f⟩ := h
  refine wfW_of (f := q 0) (l := q 1) (t := q 2 0) (b := q 3 0) (s := q 4 0) (o := q 5 0) ?_ ?_ ?_ ?_ ?_ ?_ ⟨a, b, c', d, e, f⟩ <;> simp (disch := first | omega | exact Nat.le_of_ble_eq_true rfl) only [sset_eq, gset_at, gset_gset, gset_ne, pset_eq, pset_ne]
theorem wfW_copy {q r p : zP} (h : wfW r p) : wfW (copyW q r) p := by
  obtain ⟨a, b, c, d, e, f⟩ := h
  unfold copyW
  refine wfW_of (f := zup (zup (q 0) 0 (r 0 0)) 1 (r 0 1)) (l := zup (zup (q 1) 0 (r 1 0)) 1 (r 1 1)) (t := r 2 0) (b := r 3 0) (s := r 4 0) (o := r 5 0) ?_ ?_ ?_ ?_ ?_ ?_ ⟨fun m hm => ?_, b, c, d, e, f⟩ <;> (try simp (disch := first | omega | exact Nat.le_of_ble_eq_true rfl) only [sset_eq, gset_at, gset_gset, gset_ne, pset_eq, pset_ne])
  have h0 := a 0 (by decide)
  have h1 := a 1 (by decide)
  have e : m = 0 ∨ m = 1 := by omega
  rcases e with e | e <;> subst e
  · simp only [zup_at]; simp; exact ⟨h0.1, h0.2⟩
  · simp only [zup_at]; simp; exact ⟨h1.1, h1.2⟩
-- the lot
def ush (x : Int32) (s : Int32) : Int32 := (x.toUInt32 >>> (s.toUInt32 &&& Int32.toUInt32 31)).toInt32
def bcE1 (x : Int32) : Int32 := x - (ush x (zI 1) &&& zI 1431655765)
def bcE2 (y : Int32) : Int32 := (y &&& zI 858993459) + (ush y (zI 2) &&& zI 858993459)
def bcE3 (y : Int32) : Int32 := (y + ush y (zI 4)) &&& zI 252645135
def bcE4 (y : Int32) : Int32 := y + ush y (zI 8)
def bcE5 (y : Int32) : Int32 := y + ush y (zI 16)
theorem bc_x : ∀ n, n < 256 → bcE5 (bcE4 (bcE3 (bcE2 (bcE1 (zI ((n : Nat) : Int)))))) &&& zI 63 = zI ((cN (fun k => n.testBit k) 8 : Nat) : Int) := by decide +kernel
theorem z_bitCount (d : Nat) {n : Nat} (hn : n < 256) (w : rz_W) : rz_dM (d + 1) iJI_bitCount [.int (zI n)] w = some (some (.int (zI (cN (fun k => n.testBit k) 8 : Nat))), w) := by
  rw [← bc_x n hn]
  unfold bcE5 bcE4 bcE3 bcE2 bcE1 ush
  simp (disch := first | omega | exact Nat.le_of_ble_eq_true rfl) only [e_JI_bitCount, s_JI_bitCount_0, s_JI_bitCount_1, s_JI_bitCount_2, s_JI_bitCount_3, s_JI_bitCount_4, s_JI_bitCount_7, s_JI_bitCount_8, s_JI_bitCount_9, s_JI_bitCount_10, s_JI_bitCount_11, s_JI_bitCount_14, s_JI_bitCount_15, s_JI_bitCount_16, s_JI_bitCount_17, s_JI_bitCount_18, s_JI_bitCount_21, s_JI_bitCount_22, s_JI_bitCount_23, s_JI_bitCount_24, s_JI_bitCount_25, s_JI_bitCount_26, s_JI_bitCount_27, s_JI_bitCount_28, s_JI_bitCount_29, s_JI_bitCount_32, s_JI_bitCount_33, s_JI_bitCount_34, s_JI_bitCount_35, s_JI_bitCount_36, s_JI_bitCount_38, s_JI_bitCount_39, s_JI_bitCount_40, s_JI_bitCount_41, s_JI_bitCount_42, s_JI_bitCount_43, s_JI_bitCount_45, s_JI_bitCount_46, s_JI_bitCount_47, s_JI_bitCount_48, s_JI_bitCount_49, s_JI_bitCount_51, s_JI_bitCount_52, Option.bind_some, if_true, if_false, rz_clr]
theorem zI_mod (c : Int) : zI (c % 4294967296) = zI c := by
  unfold zI
  apply Int32.toBitVec_inj.mp
  apply BitVec.eq_of_toNat_eq
  show (BitVec.ofInt 32 (c % 4294967296)).toNat = (BitVec.ofInt 32 c).toNat
  rw [BitVec.toNat_ofInt, BitVec.toNat_ofInt]
  congr 1
  omega
def hi16 (c : Int) : Int := c % 4294967296 / 65536
theorem hi16_rg (c : Int) : 0 ≤ hi16 c ∧ hi16 c < 65536 := by unfold hi16; omega
theorem ush16 (c : Int) : ush (zI c) (zI 16) = zI (hi16 c) := by
  rw [← zI_mod c]
  obtain ⟨n, hn, e⟩ : ∃ n : Nat, n < 4294967296 ∧ c % 4294967296 = n := ⟨(c % 4294967296).toNat, by omega, by omega⟩
  unfold hi16
  rw [e, zI_nI]
  unfold ush
  have := pk_ushrN (n := n) hn (zI 16) 16 (by decide)
  rw [this, ← zI_nI]
  congr 1
theorem z_rem {a b : Int} (ha : 0 ≤ a ∧ a < 2147483648) (hb : 0 < b ∧ b < 2147483648) : zI a - zI a / zI b * zI b = zI (a % b) := by
  obtain ⟨x, rfl⟩ : ∃ x : Nat, a = x := ⟨a.toNat, by omega⟩
  obtain ⟨y, rfl⟩ : ∃ y : Nat, b = y := ⟨b.toNat, by omega⟩
  rw [zI_nI, zI_nI, pk_rem (by omega) (by omega) (by omega), ← zI_nI]
  congr 1
def lotC (c : Int) : Int := c * 1103515245 + 12345
def rnk (c : Int) (n : Nat) : Int := if 0 < n then hi16 (lotC c) % n else 0
theorem z_draw (d : Nat) {N g : Nat} {σ : zS} (h1 : 2 ≤ g) (h2 : g ≤ 5) (hN : 48 ≤ N) {n : Nat} (hn : n < 256) : rz_dM (d + 1) iW_draw [.ref (bs g), .int (zI n)] (wOf N σ) = some (some (.int (zI (rnk (σ g 6 0) n))), wOf N (gset σ g (pset (σ g) 6 (fun _ => lotC (σ g 6 0))))) := by
  have hh := hi16_rg (lotC (σ g 6 0))
  have hu := ush16 (lotC (σ g 6 0))
  unfold ush lotC at hu
  unfold rnk
  by_cases c : 0 < n
  · rw [if_pos c]
    have hr := z_rem (a := hi16 (lotC (σ g 6 0))) (b := n) (by omega) (by omega)
    have hne : ¬ zI (n : Int) = 0 := by
      intro z
      have z' : zI (n : Int) = zI 0 := z
      rw [zI_eq (by omega) (by omega)] at z'
      omega
    unfold lotC at hr ⊢
    simp (disch := first | omega | exact Nat.le_of_ble_eq_true rfl) only [e_W_draw, s_W_draw_0, s_W_draw_1, s_W_draw_2, s_W_draw_5, s_W_draw_7, s_W_draw_8, s_W_draw_11, s_W_draw_12, s_W_draw_15, s_W_draw_16, s_W_draw_19, s_W_draw_20, s_W_draw_23, s_W_draw_25, s_W_draw_26, s_W_draw_27, s_W_draw_28, s_W_draw_31, s_W_draw_32, Option.bind_some, Option.bind_none, Option.toList_some, Option.toList_none, List.cons_append, List.nil_append, if_true, if_false, rz_clr, true_or, or_true, z00, z11, bZ_eq0, bZ_eq1, nor_self, if_pos, if_neg, zI_add, zI_sub, zI_mul, zI_neg, zI_lt, zI_le, zI_eq, c_W, f_W_0, l_W_0, r_W_0, w_W_0, f_W_1, l_W_1, r_W_1, w_W_1, f_W_2, u_W_2, f_W_3, u_W_3, f_W_4, u_W_4, f_W_5, u_W_5, f_W_6, u_W_6, sset_eq, gset_at, gset_gset, gset_ne, pset_eq, pset_ne, hu, hne, hr]
  · rw [if_neg c]
    unfold lotC
    simp (disch := first | omega | exact Nat.le_of_ble_eq_true rfl) only [e_W_draw, s_W_draw_0, s_W_draw_1, s_W_draw_2, s_W_draw_5, s_W_draw_7, s_W_draw_8, s_W_draw_11, s_W_draw_12, s_W_draw_15, s_W_draw_16, s_W_draw_19, s_W_draw_20, s_W_draw_23, s_W_draw_25, s_W_draw_26, s_W_draw_27, s_W_draw_28, s_W_draw_31, s_W_draw_32, Option.bind_some, Option.bind_none, Option.toList_some, Option.toList_none, List.cons_append, List.nil_append, if_true, if_false, rz_clr, true_or, or_true, z00, z11, bZ_eq0, bZ_eq1, nor_self, if_pos, if_neg, zI_add, zI_sub, zI_mul, zI_neg, zI_lt, zI_le, zI_eq, c_W, f_W_0, l_W_0, r_W_0, w_W_0, f_W_1, l_W_1, r_W_1, w_W_1, f_W_2, u_W_2, f_W_3, u_W_3, f_W_4, u_W_4, f_W_5, u_W_5, f_W_6, u_W_6, sset_eq, gset_at, gset_gset, gset_ne, pset_eq, pset_ne]
/-- the place of the set bit that has so many below it -/
def nB (S : Nat → Bool) : Nat → Nat → Int → Int → Int
  | 0, _, _, _ => -9
  | n + 1, k, b, r => if S k then (if b = r then (k : Int) else nB S n (k + 1) (b + 1) r) else nB S n (k + 1) b r
theorem z_bitOfRank_lp (x : Nat) {mb : Nat} (hmb : mb < 65536) {r : Int} (hr : 0 ≤ r ∧ r < 1000) (w : rz_W) : ∀ (j k : Nat), j + k = 32 → ∀ b : Int, 0 ≤ b ∧ b ≤ k → rz_den (rz_dM (x + 1)) (rz_at tb_X4_bitOfRank) (some .int) 4 [some (.int (zI mb)), some (.int (zI r)), some (.int (zI b)), some (.int (zI k))] [] w = some (some (.int (zI (nB (fun i => mb.testBit i) j k b r))), w) := by
  intro j
  induction j with
  | zero =>
    intro k hk b hb
    obtain rfl : k = 32 := by omega
    rw [s_O_bitOfRank_4]
    simp (disch := first | omega | exact Nat.le_of_ble_eq_true rfl) only [e_O_bitOfRank, s_O_bitOfRank_0, s_O_bitOfRank_1, s_O_bitOfRank_2, s_O_bitOfRank_3, s_O_bitOfRank_5, s_O_bitOfRank_7, s_O_bitOfRank_10, s_O_bitOfRank_11, s_O_bitOfRank_12, s_O_bitOfRank_15, s_O_bitOfRank_18, s_O_bitOfRank_21, s_O_bitOfRank_22, s_O_bitOfRank_23, s_O_bitOfRank_26, s_O_bitOfRank_27, s_O_bitOfRank_28, s_O_bitOfRank_31, s_O_bitOfRank_34, s_O_bitOfRank_37, s_O_bitOfRank_39, Option.bind_some, Option.bind_none, Option.toList_some, Option.toList_none, List.cons_append, List.nil_append, if_true, if_false, rz_clr, true_or, or_true, z00, z11, bZ_eq0, bZ_eq1, nor_self, if_pos, if_neg, zI_add, zI_sub, zI_mul, zI_neg, zI_lt, zI_le, zI_eq, nB]
  | succ j ih =>
    intro k hk b hb
    have hbit := fun w => z_hasBit x (b := mb) (i := k) (by omega) (by omega) w
    have e0 : ((k : Int)).toNat = k := Int.toNat_natCast k
    rw [e0] at hbit
    rw [s_O_bitOfRank_4, nB]
    by_cases a1 : mb.testBit k = true
    · have a2 : (0 ≤ (k : Int) ∧ (k : Int) < 32 ∧ mb.testBit k = true) := ⟨by omega, by omega, a1⟩
      rw [if_pos (show (fun i => mb.testBit i) k = true from a1)]
      by_cases a3 : b = r
      · rw [if_pos a3]
        simp (disch := first | omega | exact Nat.le_of_ble_eq_true rfl) only [e_O_bitOfRank, s_O_bitOfRank_0, s_O_bitOfRank_1, s_O_bitOfRank_2, s_O_bitOfRank_3, s_O_bitOfRank_5, s_O_bitOfRank_7, s_O_bitOfRank_10, s_O_bitOfRank_11, s_O_bitOfRank_12, s_O_bitOfRank_15, s_O_bitOfRank_18, s_O_bitOfRank_21, s_O_bitOfRank_22, s_O_bitOfRank_23, s_O_bitOfRank_26, s_O_bitOfRank_27, s_O_bitOfRank_28, s_O_bitOfRank_31, s_O_bitOfRank_34, s_O_bitOfRank_37, s_O_bitOfRank_39, Option.bind_some, Option.bind_none, Option.toList_some, Option.toList_none, List.cons_append, List.nil_append, if_true, if_false, rz_clr, true_or, or_true, z00, z11, bZ_eq0, bZ_eq1, nor_self, if_pos, if_neg, zI_add, zI_sub, zI_mul, zI_neg, zI_lt, zI_le, zI_eq, hbit, bZ_pos a2]
      · rw [if_neg a3]
        have ih' := ih (k + 1) (by omega) (b + 1) (by omega)
        simp only [Int.natCast_add, Int.natCast_one] at ih'
        simp (disch := first | omega | exact Nat.le_of_ble_eq_true rfl) only [e_O_bitOfRank, s_O_bitOfRank_0, s_O_bitOfRank_1, s_O_bitOfRank_2, s_O_bitOfRank_3, s_O_bitOfRank_5, s_O_bitOfRank_7, s_O_bitOfRank_10, s_O_bitOfRank_11, s_O_bitOfRank_12, s_O_bitOfRank_15, s_O_bitOfRank_18, s_O_bitOfRank_21, s_O_bitOfRank_22, s_O_bitOfRank_23, s_O_bitOfRank_26, s_O_bitOfRank_27, s_O_bitOfRank_28, s_O_bitOfRank_31, s_O_bitOfRank_34, s_O_bitOfRank_37, s_O_bitOfRank_39, Option.bind_some, Option.bind_none, Option.toList_some, Option.toList_none, List.cons_append, List.nil_append, if_true, if_false, rz_clr, true_or, or_true, z00, z11, bZ_eq0, bZ_eq1, nor_self, if_pos, if_neg, zI_add, zI_sub, zI_mul, zI_neg, zI_lt, zI_le, zI_eq, hbit, bZ_pos a2, ih']
    · have a2 : ¬ (0 ≤ (k : Int) ∧ (k : Int) < 32 ∧ mb.testBit k = true) := fun z => a1 z.2.2
      rw [if_neg (show ¬ (fun i => mb.testBit i) k = true from a1)]
      have ih' := ih (k + 1) (by omega) b (by omega)
      simp only [Int.natCast_add, Int.natCast_one] at ih'
      simp (disch := first | omega | exact Nat.le_of_ble_eq_true rfl) only [e_O_bitOfRank, s_O_bitOfRank_0, s_O_bitOfRank_1, s_O_bitOfRank_2, s_O_bitOfRank_3, s_O_bitOfRank_5, s_O_bitOfRank_7, s_O_bitOfRank_10, s_O_bitOfRank_11, s_O_bitOfRank_12, s_O_bitOfRank_15, s_O_bitOfRank_18, s_O_bitOfRank_21, s_O_bitOfRank_22, s_O_bitOfRank_23, s_O_bitOfRank_26, s_O_bitOfRank_27, s_O_bitOfRank_28, s_O_bitOfRank_31, s_O_bitOfRank_34, s_O_bitOfRank_37, s_O_bitOfRank_39, Option.bind_some, Option.bind_none, Option.toList_some, Option.toList_none, List.cons_append, List.nil_append, if_true, if_false, rz_clr, true_or, or_true, z00, z11, bZ_eq0, bZ_eq1, nor_self, if_pos, if_neg, zI_add, zI_sub, zI_mul, zI_neg, zI_lt, zI_le, zI_eq, hbit, bZ_neg a2, ih']
theorem z_bitOfRank (d : Nat) {mb : Nat} (hmb : mb < 65536) {r : Int} (hr : 0 ≤ r ∧ r < 1000) (w : rz_W) : rz_dM (d + 2) iO_bitOfRank [.int (zI mb), .int (zI r)] w = some (some (.int (zI (nB (fun i => mb.testBit i) 32 0 0 r))), w) := by
  have h := z_bitOfRank_lp d hmb hr w 32 0 rfl 0 (by omega)
  rw [Int.natCast_zero] at h
  simp (disch := first | omega | exact Nat.le_of_ble_eq_true rfl) only [e_O_bitOfRank, s_O_bitOfRank_0, s_O_bitOfRank_1, s_O_bitOfRank_2, s_O_bitOfRank_3, s_O_bitOfRank_5, s_O_bitOfRank_7, s_O_bitOfRank_10, s_O_bitOfRank_11, s_O_bitOfRank_12, s_O_bitOfRank_15, s_O_bitOfRank_18, s_O_bitOfRank_21, s_O_bitOfRank_22, s_O_bitOfRank_23, s_O_bitOfRank_26, s_O_bitOfRank_27, s_O_bitOfRank_28, s_O_bitOfRank_31, s_O_bitOfRank_34, s_O_bitOfRank_37, s_O_bitOfRank_39, Option.bind_some, Option.bind_none, Option.toList_some, Option.toList_none, List.cons_append, List.nil_append, if_true, if_false, rz_clr, true_or, or_true, z00, z11, bZ_eq0, bZ_eq1, nor_self, if_pos, if_neg, zI_add, zI_sub, zI_mul, zI_neg, zI_lt, zI_le, zI_eq, h]
