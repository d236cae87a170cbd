-- the model: a token taken, a number taken; what the class does meanwhile
section NA1
variable {s p : zP} {len : Nat}
theorem tk_dep {s s' : zP} (len : Nat) (h0 : s 0 = s' 0) (h3 : s 3 0 = s' 3 0) : tkP s len = tkP s' len ∧ tkW s len 3 0 = tkW s' len 3 0 ∧ tkW s len 5 0 = (if tkP s len < len then tkW s' len 5 0 else s 5 0) ∧ tkW s len 6 0 = (if tkP s len < len ∧ (isLt (s 0 (tkP s len)) = true ∨ isDg (s 0 (tkP s len)) = true) then tkW s' len 6 0 else s 6 0) := by
  have e1 : tkP s len = tkP s' len := by unfold tkP; rw [h0, h3]
  unfold tkW
  rw [← e1, ← h0]
  have t0 : ∀ q, tk0 s q 0 = s 0 := fun q => by unfold tk0; rw [pset_ne (by decide), pset_ne (by decide)]
  have t0' : ∀ q, tk0 s' q 0 = s 0 := fun q => by unfold tk0; rw [pset_ne (by decide), pset_ne (by decide), h0]
  generalize tkP s len = q
  refine ⟨rfl, ?_, ?_, ?_⟩
  · by_cases c : q < len
    · rw [if_pos c, if_pos c]
      by_cases a : isLt (s 0 q) = true
      · rw [if_pos a, if_pos a]; unfold wrdW; rw [t0, t0']; rfl
      · rw [if_neg a, if_neg a]
        by_cases b : isDg (s 0 q) = true
        · rw [if_pos b, if_pos b]; unfold numW; rw [t0, t0']; rfl
        · rw [if_neg b, if_neg b]; rfl
    · rw [if_neg c, if_neg c]; rfl
  · by_cases c : q < len
    · rw [if_pos c, if_pos c, if_pos c]
      by_cases a : isLt (s 0 q) = true
      · rw [if_pos a, if_pos a]; rfl
      · rw [if_neg a, if_neg a]
        by_cases b : isDg (s 0 q) = true
        · rw [if_pos b, if_pos b]; rfl
        · rw [if_neg b, if_neg b]; rfl
    · rw [if_neg c, if_neg c]; rfl
  · by_cases c : q < len
    · rw [if_pos c, if_pos c]
      by_cases a : isLt (s 0 q) = true
      · rw [if_pos a, if_pos a, if_pos ⟨c, Or.inl a⟩]; unfold wrdW; rw [t0, t0']; rfl
      · rw [if_neg a, if_neg a]
        by_cases b : isDg (s 0 q) = true
        · rw [if_pos b, if_pos b, if_pos ⟨c, Or.inr b⟩]; unfold numW; rw [t0, t0']; rfl
        · have hn : ¬ (q < len ∧ (isLt (s 0 q) = true ∨ isDg (s 0 q) = true)) := fun z => z.2.elim a b
          rw [if_neg b, if_neg b, if_neg hn]; rfl
    · rw [if_neg c, if_neg (fun z => c z.1)]; rfl
theorem tkW_kind (h : tkP s len < len) : (tkW s len 5 0 = 0 ∨ tkW s len 5 0 = 1) → isLt (s 0 (tkP s len)) = true ∨ isDg (s 0 (tkP s len)) = true := by
  unfold tkW
  rw [if_pos h]
  generalize tkP s len = q
  intro z
  by_cases a : isLt (s 0 q) = true
  · exact Or.inl a
  · rw [if_neg a] at z
    by_cases b : isDg (s 0 q) = true
    · exact Or.inr b
    · rw [if_neg b, pset_eq] at z
      split at z <;> omega
theorem LA_dep {m s s' : zP} {len : Nat} (h0 : s 0 = s' 0) (h3 : s 3 0 = s' 3 0) (h : LA m s len) : LA m s' len := by
  obtain ⟨e1, e2, e3, e4⟩ := tk_dep len h0 h3
  obtain ⟨a1, a2, a3⟩ := h
  rw [e1, e2] at a2
  rw [e1] at a1
  refine ⟨a1, a2, ?_⟩
  rcases a3 with ⟨x, y⟩ | ⟨x, y⟩
  · left; rw [← e1]; exact ⟨x, y⟩
  · right
    rw [if_pos x] at e3
    have k := tkW_kind x
    rw [e3] at y k
    refine ⟨by rw [← e1]; exact x, ?_⟩
    rcases y with ⟨z, z'⟩ | ⟨z, z'⟩ | ⟨z, z'⟩ | ⟨z, z'⟩ | y | y
    · rw [if_pos ⟨x, k (Or.inl z)⟩] at e4; rw [e4] at z'; exact Or.inl ⟨z, z'⟩
    · rw [if_pos ⟨x, k (Or.inl z)⟩] at e4; rw [e4] at z'; exact Or.inr (Or.inl ⟨z, z'⟩)
    · rw [if_pos ⟨x, k (Or.inr z)⟩] at e4; rw [e4] at z'; exact Or.inr (Or.inr (Or.inl ⟨z, z'⟩))
    · rw [if_pos ⟨x, k (Or.inr z)⟩] at e4; rw [e4] at z'; exact Or.inr (Or.inr (Or.inr (Or.inl ⟨z, z'⟩)))
    · exact Or.inr (Or.inr (Or.inr (Or.inr (Or.inl y))))
    · exact Or.inr (Or.inr (Or.inr (Or.inr (Or.inr y))))
/-- the token can stand -/
def okT (len : Nat) (s p : zP) : Prop := tkP s len < len ∧ (isT (tkW s len) p).1 = true
theorem tkP_le (h3 : 0 ≤ s 3 0 ∧ s 3 0 ≤ len) : tkP s len ≤ len ∧ s 3 0 ≤ tkP s len := by
  have hle := scn_le isSp (s 0) (len - (s 3 0).toNat) (s 3 0).toNat
  unfold tkP
  omega
theorem rd_step {n : Nat} (hR : RI len s p) (hf : (len : Int) ≤ n + s 3 0) (h : okT len s p) : ∃ n', rdL len n s p = rdL len n' (isT (tkW s len) p).2.1 (isT (tkW s len) p).2.2 ∧ (len : Int) ≤ n' + (isT (tkW s len) p).2.1 3 0 ∧ RI len (isT (tkW s len) p).2.1 (isT (tkW s len) p).2.2 := by
  obtain ⟨h1, h2⟩ := h
  have hp := tkP_le hR.2.2.1
  cases n with
  | zero => omega
  | succ n =>
    obtain ⟨b1, b2, b3, b4, b5, b6⟩ := RI_step hR h1
    obtain ⟨a1, a2, a3, a4, a5, a6, a7, a8⟩ := isT_keep b1 b2 b3 b4
    obtain ⟨f1, f2, f3⟩ := tk_facts hR.2.2.1 h1
    refine ⟨n, ?_, ?_, b6 h2⟩
    · rw [rdL, if_pos h1, if_pos h2]
    · rw [a5]; omega
theorem rd_bad {n : Nat} (hR : RI len s p) (hf : (len : Int) ≤ n + s 3 0) (hi : s 7 0 ≠ -9) (h : ¬ okT len s p) : fnR len (rdL len n s p) = tkP s len := by
  have hp := tkP_le hR.2.2.1
  have h3 := hR.2.2.1
  cases n with
  | zero =>
    rw [rdL]
    unfold fnR
    rw [if_pos rfl, if_neg hi]
    omega
  | succ n =>
    rw [rdL]
    by_cases c : tkP s len < len
    · have c2 : ¬ (isT (tkW s len) p).1 = true := fun z => h ⟨c, z⟩
      obtain ⟨b1, b2, b3, b4, b5, b6⟩ := RI_step hR c
      obtain ⟨a1, a2, a3, a4, a5, a6, a7, a8⟩ := isT_keep b1 b2 b3 b4
      obtain ⟨f1, f2, f3⟩ := tk_facts hR.2.2.1 c
      rw [if_pos c, if_neg c2]
      unfold fnR
      dsimp only
      rw [a6, f3, if_neg (by omega)]
    · rw [if_neg c]
      unfold fnR
      dsimp only
      have e7 : ¬ tkW s len 7 0 = -9 := by rw [tkW_ne (by decide)]; exact hi
      rw [if_pos rfl, if_neg e7]
      omega
theorem rd_bad0 {n : Nat} (hR : RI len s p) (hf : (len : Int) ≤ n + s 3 0) (c : tkP s len < len) (h : ¬ okT len s p) : fnR len (rdL len n s p) = tkP s len := by
  have hp := tkP_le hR.2.2.1
  have h3 := hR.2.2.1
  cases n with
  | zero => omega
  | succ n =>
    have c2 : ¬ (isT (tkW s len) p).1 = true := fun z => h ⟨c, z⟩
    obtain ⟨b1, b2, b3, b4, b5, b6⟩ := RI_step hR c
    obtain ⟨a1, a2, a3, a4, a5, a6, a7, a8⟩ := isT_keep b1 b2 b3 b4
    obtain ⟨f1, f2, f3⟩ := tk_facts hR.2.2.1 c
    rw [rdL, if_pos c, if_neg c2]
    unfold fnR
    dsimp only
    rw [a6, f3, if_neg (by omega)]
theorem rd_end {n : Nat} (hi : s 7 0 = -9) (c : ¬ tkP s len < len) : fnR len (rdL len n s p) = -9 ∧ (rdL len n s p).2.2 = p ∧ (rdL len n s p).2.1 8 0 = s 8 0 ∧ (rdL len n s p).1 = -9 ∧ (rdL len n s p).2.1 7 0 = -9 := by
  cases n with
  | zero =>
    rw [rdL]
    refine ⟨?_, rfl, rfl, rfl, hi⟩
    unfold fnR
    rw [if_pos rfl, if_pos hi]
  | succ n =>
    rw [rdL, if_neg c]
    have e7 : tkW s len 7 = s 7 := tkW_ne (by decide)
    have e8 : tkW s len 8 = s 8 := tkW_ne (by decide)
    refine ⟨?_, rfl, by dsimp only; rw [e8], rfl, by dsimp only; rw [e7]; exact hi⟩
    unfold fnR
    dsimp only
    have e7' : tkW s len 7 0 = -9 := by rw [e7]; exact hi
    rw [if_pos rfl, if_pos e7']
theorem alB_tk (v : Int) : alB (tkW s len) p v = alB s p v := by
  have e1 : tkW s len 1 = s 1 := tkW_ne (by decide)
  have e7 : tkW s len 7 = s 7 := tkW_ne (by decide)
  have e9 : tkW s len 9 = s 9 := tkW_ne (by decide)
  have ed : ∀ (m : Int) (n i : Nat), dirT (tkW s len) m n i = dirT s m n i := by
    intro m n
    induction n with
    | zero => intro i; rfl
    | succ n ih => intro i; rw [dirT, dirT, e1, ih]
  unfold alB al0 al1 al4 al5 al7 al8 plcA
  rw [e7, e9, e1]
  simp only [ed]
theorem enB_tk : enB (tkW s len) = enB s := by
  have e7 : tkW s len 7 = s 7 := tkW_ne (by decide)
  have e9 : tkW s len 9 = s 9 := tkW_ne (by decide)
  unfold enB
  rw [e7, e9]
/-- when a number is waited for, what stands is such a number -/
theorem ok_num (hR : RI len s p) (hi : s 7 0 ≠ -9) (h9 : s 9 0 < 9) (he : enB s = false) : okT len s p ↔ (tkP s len < len ∧ tkW s len 5 0 = 1 ∧ alB s p (tkW s len 6 0) = true) := by
  have e7 : tkW s len 7 = s 7 := tkW_ne (by decide)
  have e9 : tkW s len 9 = s 9 := tkW_ne (by decide)
  unfold okT isT
  rw [e7, e9, if_neg hi, alB_tk, enB_tk, he]
  constructor
  · rintro ⟨a, b⟩
    refine ⟨a, ?_⟩
    by_cases c : tkW s len 5 0 = 1
    · rw [if_pos c] at b
      by_cases c2 : s 9 0 < 9 ∧ alB s p (tkW s len 6 0) = true
      · exact ⟨c, c2.2⟩
      · rw [if_neg c2] at b; exact absurd b Bool.false_ne_true
    · rw [if_neg c, if_neg (fun z => absurd z.2 Bool.false_ne_true)] at b
      exact absurd b Bool.false_ne_true
  · rintro ⟨a, b, c⟩
    refine ⟨a, ?_⟩
    rw [if_pos b, if_pos ⟨h9, c⟩]
theorem isT_num (hi : s 7 0 ≠ -9) (h9 : s 9 0 < 9) (hk : tkW s len 5 0 = 1) (ha : alB s p (tkW s len 6 0) = true) : isT (tkW s len) p = (true, nmW (tkW s len), p) := by
  have e7 : tkW s len 7 = s 7 := tkW_ne (by decide)
  have e9 : tkW s len 9 = s 9 := tkW_ne (by decide)
  unfold isT
  rw [e7, e9, if_neg hi, alB_tk, if_pos hk, if_pos ⟨h9, ha⟩]
end NA1
section NB1
variable {N : Nat} {σ : zS} {s p : zP} {len : Nat}
theorem z_Mtakes_f (d : Nat) (hN : 60 ≤ N) {m : zP} (h8 : 0 ≤ m 8 0 ∧ m 8 0 ≤ 1000) (b : Bool) : rz_dM (d + 2) iM_takes [.ref (bs 10), .int (zI (bN b))] (wOf N (gset σ 10 m)) = some (some (.int (zI 0)), wOf N (gset σ 10 m)) := by
  have hw : rz_dM (d + 1) iM_isWell [.ref (bs 10)] (wOf N (gset σ 10 m)) = some (some (.int (zI 0)), wOf N (gset σ 10 m)) := by
    simp (disch := first | omega | exact Nat.le_of_ble_eq_true rfl) only [e_M_isWell, s_M_isWell_0, s_M_isWell_1, s_M_isWell_4, s_M_isWell_7, s_M_isWell_8, s_M_isWell_11, s_M_isWell_12, Option.bind_some, Option.bind_none, Option.toList_some, Option.toList_none, List.cons_append, List.nil_append, if_true, if_false, rz_clr, true_or, or_true, z00, z11, bZ_eq0, bZ_eq1, nor_self, if_pos, if_neg, zI_add, zI_sub, zI_mul, zI_neg, zI_lt, zI_le, zI_eq, c_M, f_M_0, u_M_0, f_M_1, u_M_1, f_M_2, l_M_2, r_M_2, w_M_2, f_M_3, u_M_3, f_M_4, u_M_4, f_M_5, u_M_5, f_M_6, u_M_6, f_M_7, u_M_7, f_M_8, u_M_8, f_M_9, l_M_9, r_M_9, w_M_9, f_M_10, l_M_10, r_M_10, w_M_10, f_M_11, l_M_11, r_M_11, w_M_11, f_M_12, l_M_12, r_M_12, w_M_12, f_M_13, l_M_13, r_M_13, w_M_13, f_M_14, l_M_14, r_M_14, w_M_14, f_M_15, l_M_15, r_M_15, w_M_15, f_M_16, l_M_16, r_M_16, w_M_16, f_M_17, l_M_17, r_M_17, w_M_17, f_M_18, l_M_18, r_M_18, w_M_18, gset_at]
  simp (disch := first | omega | exact Nat.le_of_ble_eq_true rfl) only [e_M_takes, s_M_takes_0, s_M_takes_1, s_M_takes_4, s_M_takes_7, s_M_takes_8, s_M_takes_9, s_M_takes_10, s_M_takes_13, s_M_takes_14, s_M_takes_15, s_M_takes_18, s_M_takes_21, s_M_takes_22, s_M_takes_23, s_M_takes_24, s_M_takes_27, s_M_takes_28, s_M_takes_29, s_M_takes_32, s_M_takes_33, Option.bind_some, Option.bind_none, Option.toList_some, Option.toList_none, List.cons_append, List.nil_append, if_true, if_false, rz_clr, true_or, or_true, z00, z11, bZ_eq0, bZ_eq1, nor_self, if_pos, if_neg, zI_add, zI_sub, zI_mul, zI_neg, zI_lt, zI_le, zI_eq, c_M, f_M_0, u_M_0, f_M_1, u_M_1, f_M_2, l_M_2, r_M_2, w_M_2, f_M_3, u_M_3, f_M_4, u_M_4, f_M_5, u_M_5, f_M_6, u_M_6, f_M_7, u_M_7, f_M_8, u_M_8, f_M_9, l_M_9, r_M_9, w_M_9, f_M_10, l_M_10, r_M_10, w_M_10, f_M_11, l_M_11, r_M_11, w_M_11, f_M_12, l_M_12, r_M_12, w_M_12, f_M_13, l_M_13, r_M_13, w_M_13, f_M_14, l_M_14, r_M_14, w_M_14, f_M_15, l_M_15, r_M_15, w_M_15, f_M_16, l_M_16, r_M_16, w_M_16, f_M_17, l_M_17, r_M_17, w_M_17, f_M_18, l_M_18, r_M_18, w_M_18, hw]
theorem z_Mtakes_n (d : Nat) (hN : 60 ≤ N) {m : zP} (h8 : m 8 0 = -1) : rz_dM (d + 2) iM_takes [.ref (bs 10), .int (zI (bN false))] (wOf N (gset σ 10 m)) = some (some (.int (zI 0)), wOf N (gset σ 10 (pset m 8 (fun _ => m 6 0)))) := by
  have hw : rz_dM (d + 1) iM_isWell [.ref (bs 10)] (wOf N (gset σ 10 m)) = some (some (.int (zI 1)), wOf N (gset σ 10 m)) := by
    simp (disch := first | omega | exact Nat.le_of_ble_eq_true rfl) only [e_M_isWell, s_M_isWell_0, s_M_isWell_1, s_M_isWell_4, s_M_isWell_7, s_M_isWell_8, s_M_isWell_11, s_M_isWell_12, Option.bind_some, Option.bind_none, Option.toList_some, Option.toList_none, List.cons_append, List.nil_append, if_true, if_false, rz_clr, true_or, or_true, z00, z11, bZ_eq0, bZ_eq1, nor_self, if_pos, if_neg, zI_add, zI_sub, zI_mul, zI_neg, zI_lt, zI_le, zI_eq, c_M, f_M_0, u_M_0, f_M_1, u_M_1, f_M_2, l_M_2, r_M_2, w_M_2, f_M_3, u_M_3, f_M_4, u_M_4, f_M_5, u_M_5, f_M_6, u_M_6, f_M_7, u_M_7, f_M_8, u_M_8, f_M_9, l_M_9, r_M_9, w_M_9, f_M_10, l_M_10, r_M_10, w_M_10, f_M_11, l_M_11, r_M_11, w_M_11, f_M_12, l_M_12, r_M_12, w_M_12, f_M_13, l_M_13, r_M_13, w_M_13, f_M_14, l_M_14, r_M_14, w_M_14, f_M_15, l_M_15, r_M_15, w_M_15, f_M_16, l_M_16, r_M_16, w_M_16, f_M_17, l_M_17, r_M_17, w_M_17, f_M_18, l_M_18, r_M_18, w_M_18, gset_at, h8]
  rw [show bN false = 0 from rfl]
  simp (disch := first | omega | exact Nat.le_of_ble_eq_true rfl) only [e_M_takes, s_M_takes_0, s_M_takes_1, s_M_takes_4, s_M_takes_7, s_M_takes_8, s_M_takes_9, s_M_takes_10, s_M_takes_13, s_M_takes_14, s_M_takes_15, s_M_takes_18, s_M_takes_21, s_M_takes_22, s_M_takes_23, s_M_takes_24, s_M_takes_27, s_M_takes_28, s_M_takes_29, s_M_takes_32, s_M_takes_33, Option.bind_some, Option.bind_none, Option.toList_some, Option.toList_none, List.cons_append, List.nil_append, if_true, if_false, rz_clr, true_or, or_true, z00, z11, bZ_eq0, bZ_eq1, nor_self, if_pos, if_neg, zI_add, zI_sub, zI_mul, zI_neg, zI_lt, zI_le, zI_eq, c_M, f_M_0, u_M_0, f_M_1, u_M_1, f_M_2, l_M_2, r_M_2, w_M_2, f_M_3, u_M_3, f_M_4, u_M_4, f_M_5, u_M_5, f_M_6, u_M_6, f_M_7, u_M_7, f_M_8, u_M_8, f_M_9, l_M_9, r_M_9, w_M_9, f_M_10, l_M_10, r_M_10, w_M_10, f_M_11, l_M_11, r_M_11, w_M_11, f_M_12, l_M_12, r_M_12, w_M_12, f_M_13, l_M_13, r_M_13, w_M_13, f_M_14, l_M_14, r_M_14, w_M_14, f_M_15, l_M_15, r_M_15, w_M_15, f_M_16, l_M_16, r_M_16, w_M_16, f_M_17, l_M_17, r_M_17, w_M_17, f_M_18, l_M_18, r_M_18, w_M_18, sset_eq, gset_at, gset_gset, gset_ne, pset_eq, pset_ne, hw]
theorem z_Mtakes_y (d : Nat) (hN : 60 ≤ N) {m : zP} (h8 : m 8 0 = -1) (hT : tyR m s) (hs : SOK s) (hl : s 2 0 = len) (h3 : 0 ≤ s 3 0 ∧ s 3 0 ≤ len) (h4 : m 4 0 = s 3 0) : ∃ m', rz_dM (d + 5) iM_takes [.ref (bs 10), .int (zI (bN true))] (wOf N (gset σ 10 m)) = some (some (.int (zI (m 7 0))), wOf N (gset σ 10 m')) ∧ sm [4, 5, 6, 7] m m' ∧ LA m' s len := by
  have hw : rz_dM (d + 4) iM_isWell [.ref (bs 10)] (wOf N (gset σ 10 m)) = some (some (.int (zI 1)), wOf N (gset σ 10 m)) := by
    simp (disch := first | omega | exact Nat.le_of_ble_eq_true rfl) only [e_M_isWell, s_M_isWell_0, s_M_isWell_1, s_M_isWell_4, s_M_isWell_7, s_M_isWell_8, s_M_isWell_11, s_M_isWell_12, Option.bind_some, Option.bind_none, Option.toList_some, Option.toList_none, List.cons_append, List.nil_append, if_true, if_false, rz_clr, true_or, or_true, z00, z11, bZ_eq0, bZ_eq1, nor_self, if_pos, if_neg, zI_add, zI_sub, zI_mul, zI_neg, zI_lt, zI_le, zI_eq, c_M, f_M_0, u_M_0, f_M_1, u_M_1, f_M_2, l_M_2, r_M_2, w_M_2, f_M_3, u_M_3, f_M_4, u_M_4, f_M_5, u_M_5, f_M_6, u_M_6, f_M_7, u_M_7, f_M_8, u_M_8, f_M_9, l_M_9, r_M_9, w_M_9, f_M_10, l_M_10, r_M_10, w_M_10, f_M_11, l_M_11, r_M_11, w_M_11, f_M_12, l_M_12, r_M_12, w_M_12, f_M_13, l_M_13, r_M_13, w_M_13, f_M_14, l_M_14, r_M_14, w_M_14, f_M_15, l_M_15, r_M_15, w_M_15, f_M_16, l_M_16, r_M_16, w_M_16, f_M_17, l_M_17, r_M_17, w_M_17, f_M_18, l_M_18, r_M_18, w_M_18, gset_at, h8]
  obtain ⟨m', h1, h2, h3'⟩ := z_Madvances (N := N) (σ := gset σ 10 m) d hN (by rw [gset_at]; exact hT) hs hl h3 (by rw [gset_at]; exact h4)
  rw [gset_gset] at h1
  rw [gset_at] at h2
  refine ⟨m', ?_, h2, h3'⟩
  rw [show bN true = 1 from rfl]
  simp (disch := first | omega | exact Nat.le_of_ble_eq_true rfl) only [e_M_takes, s_M_takes_0, s_M_takes_1, s_M_takes_4, s_M_takes_7, s_M_takes_8, s_M_takes_9, s_M_takes_10, s_M_takes_13, s_M_takes_14, s_M_takes_15, s_M_takes_18, s_M_takes_21, s_M_takes_22, s_M_takes_23, s_M_takes_24, s_M_takes_27, s_M_takes_28, s_M_takes_29, s_M_takes_32, s_M_takes_33, Option.bind_some, Option.bind_none, Option.toList_some, Option.toList_none, List.cons_append, List.nil_append, if_true, if_false, rz_clr, true_or, or_true, z00, z11, bZ_eq0, bZ_eq1, nor_self, if_pos, if_neg, zI_add, zI_sub, zI_mul, zI_neg, zI_lt, zI_le, zI_eq, c_M, f_M_0, u_M_0, f_M_1, u_M_1, f_M_2, l_M_2, r_M_2, w_M_2, f_M_3, u_M_3, f_M_4, u_M_4, f_M_5, u_M_5, f_M_6, u_M_6, f_M_7, u_M_7, f_M_8, u_M_8, f_M_9, l_M_9, r_M_9, w_M_9, f_M_10, l_M_10, r_M_10, w_M_10, f_M_11, l_M_11, r_M_11, w_M_11, f_M_12, l_M_12, r_M_12, w_M_12, f_M_13, l_M_13, r_M_13, w_M_13, f_M_14, l_M_14, r_M_14, w_M_14, f_M_15, l_M_15, r_M_15, w_M_15, f_M_16, l_M_16, r_M_16, w_M_16, f_M_17, l_M_17, r_M_17, w_M_17, f_M_18, l_M_18, r_M_18, w_M_18, sset_eq, gset_at, gset_gset, gset_ne, pset_eq, pset_ne, hw, h1]
theorem z_Mnumber_f (d : Nat) (hN : 60 ≤ N) {m : zP} (h8 : 0 ≤ m 8 0 ∧ m 8 0 ≤ 1000) (h5 : 0 ≤ m 5 0 ∧ m 5 0 ≤ 4) (h7 : m 5 0 = 2 → rg (m 7 0)) {a b : Int} (ha : rg a) (hb : rg b) : rz_dM (d + 3) iM_number [.ref (bs 10), .int (zI a), .int (zI b)] (wOf N (gset σ 10 m)) = some (some (.int (zI 0)), wOf N (gset σ 10 m)) := by
  have ht := fun f => z_Mtakes_f (N := N) (σ := σ) d hN h8 f
  have ht1 := ht true
  have ht0 := ht false
  rw [show bN true = 1 from rfl] at ht1
  rw [show bN false = 0 from rfl] at ht0
  by_cases c : m 5 0 = 2
  · have := h7 c
    by_cases c2 : a ≤ m 7 0 ∧ m 7 0 ≤ b
    · simp (disch := first | omega | exact Nat.le_of_ble_eq_true rfl) only [e_M_number, s_M_number_0, s_M_number_1, s_M_number_2, s_M_number_5, s_M_number_6, s_M_number_9, s_M_number_10, s_M_number_13, s_M_number_14, s_M_number_15, s_M_number_18, s_M_number_21, s_M_number_22, s_M_number_25, s_M_number_26, s_M_number_29, Option.bind_some, Option.bind_none, Option.toList_some, Option.toList_none, List.cons_append, List.nil_append, if_true, if_false, rz_clr, true_or, or_true, z00, z11, bZ_eq0, bZ_eq1, nor_self, if_pos, if_neg, zI_add, zI_sub, zI_mul, zI_neg, zI_lt, zI_le, zI_eq, c_M, f_M_0, u_M_0, f_M_1, u_M_1, f_M_2, l_M_2, r_M_2, w_M_2, f_M_3, u_M_3, f_M_4, u_M_4, f_M_5, u_M_5, f_M_6, u_M_6, f_M_7, u_M_7, f_M_8, u_M_8, f_M_9, l_M_9, r_M_9, w_M_9, f_M_10, l_M_10, r_M_10, w_M_10, f_M_11, l_M_11, r_M_11, w_M_11, f_M_12, l_M_12, r_M_12, w_M_12, f_M_13, l_M_13, r_M_13, w_M_13, f_M_14, l_M_14, r_M_14, w_M_14, f_M_15, l_M_15, r_M_15, w_M_15, f_M_16, l_M_16, r_M_16, w_M_16, f_M_17, l_M_17, r_M_17, w_M_17, f_M_18, l_M_18, r_M_18, w_M_18, gset_at, z_Min, bZ_pos c2, ht1]
    · simp (disch := first | omega | exact Nat.le_of_ble_eq_true rfl) only [e_M_number, s_M_number_0, s_M_number_1, s_M_number_2, s_M_number_5, s_M_number_6, s_M_number_9, s_M_number_10, s_M_number_13, s_M_number_14, s_M_number_15, s_M_number_18, s_M_number_21, s_M_number_22, s_M_number_25, s_M_number_26, s_M_number_29, Option.bind_some, Option.bind_none, Option.toList_some, Option.toList_none, List.cons_append, List.nil_append, if_true, if_false, rz_clr, true_or, or_true, z00, z11, bZ_eq0, bZ_eq1, nor_self, if_pos, if_neg, zI_add, zI_sub, zI_mul, zI_neg, zI_lt, zI_le, zI_eq, c_M, f_M_0, u_M_0, f_M_1, u_M_1, f_M_2, l_M_2, r_M_2, w_M_2, f_M_3, u_M_3, f_M_4, u_M_4, f_M_5, u_M_5, f_M_6, u_M_6, f_M_7, u_M_7, f_M_8, u_M_8, f_M_9, l_M_9, r_M_9, w_M_9, f_M_10, l_M_10, r_M_10, w_M_10, f_M_11, l_M_11, r_M_11, w_M_11, f_M_12, l_M_12, r_M_12, w_M_12, f_M_13, l_M_13, r_M_13, w_M_13, f_M_14, l_M_14, r_M_14, w_M_14, f_M_15, l_M_15, r_M_15, w_M_15, f_M_16, l_M_16, r_M_16, w_M_16, f_M_17, l_M_17, r_M_17, w_M_17, f_M_18, l_M_18, r_M_18, w_M_18, gset_at, z_Min, bZ_neg c2, ht0]
  · simp (disch := first | omega | exact Nat.le_of_ble_eq_true rfl) only [e_M_number, s_M_number_0, s_M_number_1, s_M_number_2, s_M_number_5, s_M_number_6, s_M_number_9, s_M_number_10, s_M_number_13, s_M_number_14, s_M_number_15, s_M_number_18, s_M_number_21, s_M_number_22, s_M_number_25, s_M_number_26, s_M_number_29, Option.bind_some, Option.bind_none, Option.toList_some, Option.toList_none, List.cons_append, List.nil_append, if_true, if_false, rz_clr, true_or, or_true, z00, z11, bZ_eq0, bZ_eq1, nor_self, if_pos, if_neg, zI_add, zI_sub, zI_mul, zI_neg, zI_lt, zI_le, zI_eq, c_M, f_M_0, u_M_0, f_M_1, u_M_1, f_M_2, l_M_2, r_M_2, w_M_2, f_M_3, u_M_3, f_M_4, u_M_4, f_M_5, u_M_5, f_M_6, u_M_6, f_M_7, u_M_7, f_M_8, u_M_8, f_M_9, l_M_9, r_M_9, w_M_9, f_M_10, l_M_10, r_M_10, w_M_10, f_M_11, l_M_11, r_M_11, w_M_11, f_M_12, l_M_12, r_M_12, w_M_12, f_M_13, l_M_13, r_M_13, w_M_13, f_M_14, l_M_14, r_M_14, w_M_14, f_M_15, l_M_15, r_M_15, w_M_15, f_M_16, l_M_16, r_M_16, w_M_16, f_M_17, l_M_17, r_M_17, w_M_17, f_M_18, l_M_18, r_M_18, w_M_18, gset_at, ht0]
/-- what is amid an item, class and model side by side -/
def PH (len n : Nat) (s p m : zP) : Prop := RI len s p ∧ (len : Int) ≤ n + s 3 0 ∧ tyR m s ∧ LA m s len ∧ m 8 0 = -1
theorem LA_57 {m : zP} (h : LA m s len) : (0 ≤ m 5 0 ∧ m 5 0 ≤ 4) ∧ (m 5 0 = 2 → 0 ≤ m 7 0 ∧ m 7 0 ≤ 99) := by
  obtain ⟨-, -, h⟩ := h
  omega
theorem z_Mnumber (d : Nat) (hN : 60 ≤ N) {n : Nat} {m : zP} (hP : PH len n s p m) (hi : s 7 0 ≠ -9) (h9 : 0 ≤ s 9 0 ∧ s 9 0 < 9) (he : enB s = false) {a b : Int} (hab : 0 ≤ a ∧ a ≤ 99 ∧ -1 ≤ b ∧ b ≤ 99) (hal : ∀ v, 0 ≤ v → v ≤ 100 → (alB s p v = true ↔ a ≤ v ∧ v ≤ b)) : ∃ r m', rz_dM (d + 6) iM_number [.ref (bs 10), .int (zI a), .int (zI b)] (wOf N (gset σ 10 m)) = some (some (.int (zI r)), wOf N (gset σ 10 m')) ∧ ((∃ n' s', PH len n' s' p m' ∧ rdL len n s p = rdL len n' s' p ∧ s' 7 = s 7 ∧ s' 8 = s 8 ∧ s' 9 0 = s 9 0 + 1 ∧ s' 1 = zup (s 1) (s 9 0).toNat r ∧ ((a ≤ r ∧ r ≤ b) ∧ s 3 0 ≤ s' 3 0) ∧ sm [4, 5, 6, 7] m m') ∨ (r = 0 ∧ m' 8 0 = fnR len (rdL len n s p) ∧ (0 ≤ m' 8 0 ∧ m' 8 0 ≤ 300) ∧ sm [8] m m')) := by
  obtain ⟨hR, hf, hT, hL, h8⟩ := hP
  obtain ⟨hTI, h2, h3, hwp, hII⟩ := id hR
  have h300 := hTI.1.1
  obtain ⟨l5, l7⟩ := LA_57 hL
  have hok := ok_num hR hi h9.2 he
  have hpl := tkP_le h3
  by_cases c : okT len s p
  · obtain ⟨c1, c2, c3⟩ := hok.mp c
    obtain ⟨f1, f2, f3⟩ := tk_facts h3 c1
    have hv := f2.2.2 c2
    obtain ⟨v1, v2⟩ := (hal _ hv.1 hv.2).mp c3
    have hm : m 5 0 = 2 ∧ m 7 0 = tkW s len 6 0 := by
      obtain ⟨-, -, hL⟩ := hL
      omega
    obtain ⟨n', e1, e2, e3⟩ := rd_step hR hf c
    rw [isT_num hi h9.2 c2 c3] at e1 e2 e3
    have g3 : nmW (tkW s len) 3 = tkW s len 3 := rfl
    have g0 : nmW (tkW s len) 0 = s 0 := tkW_ne (by decide)
    have g2 : nmW (tkW s len) 2 = s 2 := tkW_ne (by decide)
    have gT : tyR m (nmW (tkW s len)) := by unfold tyR at hT ⊢; rw [g2, g0]; exact hT
    have h4 : m 4 0 = nmW (tkW s len) 3 0 := by rw [g3, hL.2.1, if_pos c1]
    obtain ⟨m', t1, t2, t3⟩ := z_Mtakes_y (N := N) (σ := σ) (d) hN h8 gT e3.1.1 e3.2.1 e3.2.2.1 h4
    rw [show bN true = 1 from rfl, hm.2] at t1
    refine ⟨tkW s len 6 0, m', ?_, Or.inl ⟨n', nmW (tkW s len), ⟨e3, e2, tyR_sm gT (sm_mono t2 (by decide)), t3, by rw [t2 8 (by decide)]; exact h8⟩, e1, tkW_ne (by decide), tkW_ne (by decide), ?_, ?_, ⟨⟨v1, v2⟩, by rw [g3]; omega⟩, t2⟩⟩
    · have c2' : a ≤ m 7 0 ∧ m 7 0 ≤ b := by rw [hm.2]; exact ⟨v1, v2⟩
      have m7 := hm.2
      have m5 := hm.1
      simp (disch := first | omega | exact Nat.le_of_ble_eq_true rfl) only [e_M_number, s_M_number_0, s_M_number_1, s_M_number_2, s_M_number_5, s_M_number_6, s_M_number_9, s_M_number_10, s_M_number_13, s_M_number_14, s_M_number_15, s_M_number_18, s_M_number_21, s_M_number_22, s_M_number_25, s_M_number_26, s_M_number_29, Option.bind_some, Option.bind_none, Option.toList_some, Option.toList_none, List.cons_append, List.nil_append, if_true, if_false, rz_clr, true_or, or_true, z00, z11, bZ_eq0, bZ_eq1, nor_self, if_pos, if_neg, zI_add, zI_sub, zI_mul, zI_neg, zI_lt, zI_le, zI_eq, c_M, f_M_0, u_M_0, f_M_1, u_M_1, f_M_2, l_M_2, r_M_2, w_M_2, f_M_3, u_M_3, f_M_4, u_M_4, f_M_5, u_M_5, f_M_6, u_M_6, f_M_7, u_M_7, f_M_8, u_M_8, f_M_9, l_M_9, r_M_9, w_M_9, f_M_10, l_M_10, r_M_10, w_M_10, f_M_11, l_M_11, r_M_11, w_M_11, f_M_12, l_M_12, r_M_12, w_M_12, f_M_13, l_M_13, r_M_13, w_M_13, f_M_14, l_M_14, r_M_14, w_M_14, f_M_15, l_M_15, r_M_15, w_M_15, f_M_16, l_M_16, r_M_16, w_M_16, f_M_17, l_M_17, r_M_17, w_M_17, f_M_18, l_M_18, r_M_18, w_M_18, gset_at, z_Min, bZ_pos c2', m5, t1]
    · have : nmW (tkW s len) 9 0 = tkW s len 9 0 + 1 := rfl
      rw [this, tkW_ne (by decide)]
    · have : nmW (tkW s len) 1 = zup (tkW s len 1) (tkW s len 9 0).toNat (tkW s len 6 0) := rfl
      rw [this, tkW_ne (k := 1) (by decide), tkW_ne (k := 9) (by decide)]
  · have hb := rd_bad hR hf hi c
    have ht := z_Mtakes_n (N := N) (σ := σ) (d + 3) hN h8
    rw [show bN false = 0 from rfl] at ht
    have h6 : m 6 0 = tkP s len := hL.1
    refine ⟨0, pset m 8 (fun _ => m 6 0), ?_, Or.inr ⟨rfl, by rw [pset_eq, hb]; exact h6, by rw [pset_eq, h6]; omega, sm_pset (sm_rfl _ _) (by decide)⟩⟩
    by_cases c5 : m 5 0 = 2
    · have r7 := l7 c5
      have c2' : ¬ (a ≤ m 7 0 ∧ m 7 0 ≤ b) := by
        intro z
        apply c
        rw [hok]
        have hm : tkP s len < len ∧ tkW s len 5 0 = 1 ∧ m 7 0 = tkW s len 6 0 := by
          obtain ⟨-, -, hL⟩ := hL
          omega
        refine ⟨hm.1, hm.2.1, (hal _ (by omega) (by omega)).mpr (by rw [← hm.2.2]; exact z)⟩
      simp (disch := first | omega | exact Nat.le_of_ble_eq_true rfl) only [e_M_number, s_M_number_0, s_M_number_1, s_M_number_2, s_M_number_5, s_M_number_6, s_M_number_9, s_M_number_10, s_M_number_13, s_M_number_14, s_M_number_15, s_M_number_18, s_M_number_21, s_M_number_22, s_M_number_25, s_M_number_26, s_M_number_29, Option.bind_some, Option.bind_none, Option.toList_some, Option.toList_none, List.cons_append, List.nil_append, if_true, if_false, rz_clr, true_or, or_true, z00, z11, bZ_eq0, bZ_eq1, nor_self, if_pos, if_neg, zI_add, zI_sub, zI_mul, zI_neg, zI_lt, zI_le, zI_eq, c_M, f_M_0, u_M_0, f_M_1, u_M_1, f_M_2, l_M_2, r_M_2, w_M_2, f_M_3, u_M_3, f_M_4, u_M_4, f_M_5, u_M_5, f_M_6, u_M_6, f_M_7, u_M_7, f_M_8, u_M_8, f_M_9, l_M_9, r_M_9, w_M_9, f_M_10, l_M_10, r_M_10, w_M_10, f_M_11, l_M_11, r_M_11, w_M_11, f_M_12, l_M_12, r_M_12, w_M_12, f_M_13, l_M_13, r_M_13, w_M_13, f_M_14, l_M_14, r_M_14, w_M_14, f_M_15, l_M_15, r_M_15, w_M_15, f_M_16, l_M_16, r_M_16, w_M_16, f_M_17, l_M_17, r_M_17, w_M_17, f_M_18, l_M_18, r_M_18, w_M_18, gset_at, z_Min, bZ_neg c2', c5, ht]
    · simp (disch := first | omega | exact Nat.le_of_ble_eq_true rfl) only [e_M_number, s_M_number_0, s_M_number_1, s_M_number_2, s_M_number_5, s_M_number_6, s_M_number_9, s_M_number_10, s_M_number_13, s_M_number_14, s_M_number_15, s_M_number_18, s_M_number_21, s_M_number_22, s_M_number_25, s_M_number_26, s_M_number_29, Option.bind_some, Option.bind_none, Option.toList_some, Option.toList_none, List.cons_append, List.nil_append, if_true, if_false, rz_clr, true_or, or_true, z00, z11, bZ_eq0, bZ_eq1, nor_self, if_pos, if_neg, zI_add, zI_sub, zI_mul, zI_neg, zI_lt, zI_le, zI_eq, c_M, f_M_0, u_M_0, f_M_1, u_M_1, f_M_2, l_M_2, r_M_2, w_M_2, f_M_3, u_M_3, f_M_4, u_M_4, f_M_5, u_M_5, f_M_6, u_M_6, f_M_7, u_M_7, f_M_8, u_M_8, f_M_9, l_M_9, r_M_9, w_M_9, f_M_10, l_M_10, r_M_10, w_M_10, f_M_11, l_M_11, r_M_11, w_M_11, f_M_12, l_M_12, r_M_12, w_M_12, f_M_13, l_M_13, r_M_13, w_M_13, f_M_14, l_M_14, r_M_14, w_M_14, f_M_15, l_M_15, r_M_15, w_M_15, f_M_16, l_M_16, r_M_16, w_M_16, f_M_17, l_M_17, r_M_17, w_M_17, f_M_18, l_M_18, r_M_18, w_M_18, gset_at, ht]
end NB1
