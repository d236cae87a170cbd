-- the script's reading, token by token
section RD
abbrev alB (s p : zP) (n : Int) : Bool :=
  if s 7 0 = 0 then decide (al0 s n) else if s 7 0 ≤ 3 then decide (al1 s p n) else if s 7 0 = 4 then decide (al4 s n) else if s 7 0 = 5 then decide (al5 s p n)
  else if s 7 0 = 6 then decide (plcA s p n) else if s 7 0 = 7 then decide (al7 s p n) else decide (al8 s n)
theorem alB_0 {s p : zP} {n : Int} (e : s 7 0 = 0) : alB s p n = decide (al0 s n) := if_pos e
theorem alB_1 {s p : zP} {n : Int} (e : s 7 0 = 1 ∨ s 7 0 = 2 ∨ s 7 0 = 3) : alB s p n = decide (al1 s p n) := by
  unfold alB; rw [if_neg (by omega), if_pos (by omega)]
theorem alB_4 {s p : zP} {n : Int} (e : s 7 0 = 4) : alB s p n = decide (al4 s n) := by
  unfold alB; rw [if_neg (by omega), if_neg (by omega), if_pos e]
theorem alB_5 {s p : zP} {n : Int} (e : s 7 0 = 5) : alB s p n = decide (al5 s p n) := by
  unfold alB; rw [if_neg (by omega), if_neg (by omega), if_neg (by omega), if_pos e]
theorem alB_6 {s p : zP} {n : Int} (e : s 7 0 = 6) : alB s p n = decide (plcA s p n) := by
  unfold alB; rw [if_neg (by omega), if_neg (by omega), if_neg (by omega), if_neg (by omega), if_pos e]
theorem alB_7 {s p : zP} {n : Int} (e : s 7 0 = 7) : alB s p n = decide (al7 s p n) := by
  unfold alB; rw [if_neg (by omega), if_neg (by omega), if_neg (by omega), if_neg (by omega), if_neg (by omega), if_pos e]
theorem alB_8 {s p : zP} {n : Int} (e : s 7 0 = 8) : alB s p n = decide (al8 s n) := by
  unfold alB; rw [if_neg (by omega), if_neg (by omega), if_neg (by omega), if_neg (by omega), if_neg (by omega), if_neg (by omega)]
/-- what the number of an item, told so and so manyth, is -/
def bd (k : Int) (p : zP) (i v : Int) : Prop :=
  if k = 0 then i < 2 ∧ 2 ≤ v ∧ v ≤ 4
  else if k ≤ 3 then (i = 0 ∧ v < p 8 0) ∨ (i = 1 ∧ v < p 9 0)
  else if k = 4 then (i = 0 ∧ 1 ≤ v ∧ v ≤ 2) ∨ (i ≠ 0 ∧ v < 8)
  else if k ≤ 6 then (i = 0 ∧ v < 2) ∨ (i = 1 ∧ v < p 8 0) ∨ (i = 2 ∧ v < p 9 0)
  else if k = 7 then (i = 0 ∧ v < 2) ∨ (i = 1 ∧ v < p 10 0)
  else (i = 0 ∧ v < 2) ∨ (i = 1 ∧ v ≤ 2)
theorem bd_0 {k : Int} {p : zP} {i v : Int} (e : k = 0) : bd k p i v = (i < 2 ∧ 2 ≤ v ∧ v ≤ 4) := if_pos e
theorem bd_1 {k : Int} {p : zP} {i v : Int} (e : k = 1 ∨ k = 2 ∨ k = 3) : bd k p i v = ((i = 0 ∧ v < p 8 0) ∨ (i = 1 ∧ v < p 9 0)) := by
  unfold bd; rw [if_neg (by omega), if_pos (by omega)]
theorem bd_4 {k : Int} {p : zP} {i v : Int} (e : k = 4) : bd k p i v = ((i = 0 ∧ 1 ≤ v ∧ v ≤ 2) ∨ (i ≠ 0 ∧ v < 8)) := by
  unfold bd; rw [if_neg (by omega), if_neg (by omega), if_pos (by omega)]
theorem bd_5 {k : Int} {p : zP} {i v : Int} (e : k = 5 ∨ k = 6) : bd k p i v = ((i = 0 ∧ v < 2) ∨ (i = 1 ∧ v < p 8 0) ∨ (i = 2 ∧ v < p 9 0)) := by
  unfold bd; rw [if_neg (by omega), if_neg (by omega), if_neg (by omega), if_pos (by omega)]
theorem bd_7 {k : Int} {p : zP} {i v : Int} (e : k = 7) : bd k p i v = ((i = 0 ∧ v < 2) ∨ (i = 1 ∧ v < p 10 0)) := by
  unfold bd; rw [if_neg (by omega), if_neg (by omega), if_neg (by omega), if_neg (by omega), if_pos (by omega)]
theorem bd_8 {k : Int} {p : zP} {i v : Int} (e : k = 8) : bd k p i v = ((i = 0 ∧ v < 2) ∨ (i = 1 ∧ v ≤ 2)) := by
  unfold bd; rw [if_neg (by omega), if_neg (by omega), if_neg (by omega), if_neg (by omega), if_neg (by omega)]
theorem item_cases {k : Int} (h : 0 ≤ k ∧ k ≤ 8) : k = 0 ∨ (k = 1 ∨ k = 2 ∨ k = 3) ∨ k = 4 ∨ k = 5 ∨ k = 6 ∨ k = 7 ∨ k = 8 := by omega
theorem alB_bd {s p : zP} {n : Int} (hk : 0 ≤ s 7 0 ∧ s 7 0 ≤ 8) (h : alB s p n = true) : bd (s 7 0) p (s 9 0) n := by
  rcases item_cases hk with e | e | e | e | e | e | e
  · rw [alB_0 e, decide_eq_true_eq] at h; rw [bd_0 e]; exact h
  · rw [alB_1 e, decide_eq_true_eq] at h; rw [bd_1 e]; exact h
  · rw [alB_4 e, decide_eq_true_eq] at h; rw [bd_4 e]; exact h.imp id (fun z => ⟨z.1, z.2.1⟩)
  · rw [alB_5 e, decide_eq_true_eq] at h; rw [bd_5 (Or.inl e)]; exact h.1
  · rw [alB_6 e, decide_eq_true_eq] at h; rw [bd_5 (Or.inr e)]; exact h
  · rw [alB_7 e, decide_eq_true_eq] at h; rw [bd_7 e]; exact h
  · rw [alB_8 e, decide_eq_true_eq] at h; rw [bd_8 e]; exact h
/-- the script between calls -/
def TI (s : zP) : Prop := SOK s ∧ (∀ i : Nat, i < 9 → 0 ≤ s 1 i ∧ s 1 i ≤ 100) ∧ (0 ≤ s 9 0 ∧ s 9 0 ≤ 9)
/-- an item amid a reading -/
def II (s p : zP) : Prop := s 7 0 = -9 ∨ ((0 ≤ s 7 0 ∧ s 7 0 ≤ 8) ∧ (∀ i : Nat, (i : Int) < s 9 0 → bd (s 7 0) p i (s 1 i)) ∧ (s 7 0 = 4 → p 10 0 < 3))
def RI (len : Nat) (s p : zP) : Prop := TI s ∧ s 2 0 = len ∧ (0 ≤ s 3 0 ∧ s 3 0 ≤ len) ∧ wfP p ∧ II s p
/-- the token that has been read -/
def KI (s : zP) : Prop := (0 ≤ s 5 0 ∧ s 5 0 ≤ 3) ∧ (s 5 0 = 0 → s 6 0 = -9 ∨ (0 ≤ s 6 0 ∧ s 6 0 ≤ 8)) ∧ (s 5 0 = 1 → 0 ≤ s 6 0 ∧ s 6 0 ≤ 100)
def enB (s : zP) : Bool := if s 7 0 = 4 then decide (2 ≤ s 9 0) else decide (s 9 0 = if s 7 0 = 5 ∨ s 7 0 = 6 then 3 else 2)
def edW (s : zP) : zP := pset (pset s 8 (fun _ => s 8 0 + 1)) 7 (fun _ => -9)
def apP (s p : zP) : zP :=
  if s 7 0 = 0 then fstP (s 1 0) (s 1 1) p
  else if s 7 0 ≤ 3 then pset p 0 (zup (p 0) (p 8 0 * s 1 1 + s 1 0).toNat (s 7 0))
  else if s 7 0 = 4 then lwP s p (s 1 0) (s 9 0).toNat
  else if s 7 0 = 5 then pset p 4 (zup (p 4) (s 1 0).toNat (p 8 0 * s 1 2 + s 1 1))
  else if s 7 0 = 6 then pset p 5 (zup (p 5) (s 1 0).toNat (p 8 0 * s 1 2 + s 1 1))
  else if s 7 0 = 7 then pset p 6 (zup (p 6) (s 1 0).toNat (s 1 1))
  else pset p 7 (zup (p 7) (s 1 0).toNat (s 1 1))
theorem apP_0 {s p : zP} (e : s 7 0 = 0) : apP s p = fstP (s 1 0) (s 1 1) p := if_pos e
theorem apP_1 {s p : zP} (e : s 7 0 = 1 ∨ s 7 0 = 2 ∨ s 7 0 = 3) : apP s p = pset p 0 (zup (p 0) (p 8 0 * s 1 1 + s 1 0).toNat (s 7 0)) := by
  unfold apP; rw [if_neg (by omega), if_pos (by omega)]
theorem apP_4 {s p : zP} (e : s 7 0 = 4) : apP s p = lwP s p (s 1 0) (s 9 0).toNat := by
  unfold apP; rw [if_neg (by omega), if_neg (by omega), if_pos e]
theorem apP_5 {s p : zP} (e : s 7 0 = 5) : apP s p = pset p 4 (zup (p 4) (s 1 0).toNat (p 8 0 * s 1 2 + s 1 1)) := by
  unfold apP; rw [if_neg (by omega), if_neg (by omega), if_neg (by omega), if_pos e]
theorem apP_6 {s p : zP} (e : s 7 0 = 6) : apP s p = pset p 5 (zup (p 5) (s 1 0).toNat (p 8 0 * s 1 2 + s 1 1)) := by
  unfold apP; rw [if_neg (by omega), if_neg (by omega), if_neg (by omega), if_neg (by omega), if_pos e]
theorem apP_7 {s p : zP} (e : s 7 0 = 7) : apP s p = pset p 6 (zup (p 6) (s 1 0).toNat (s 1 1)) := by
  unfold apP; rw [if_neg (by omega), if_neg (by omega), if_neg (by omega), if_neg (by omega), if_neg (by omega), if_pos e]
theorem apP_8 {s p : zP} (e : s 7 0 = 8) : apP s p = pset p 7 (zup (p 7) (s 1 0).toNat (s 1 1)) := by
  unfold apP; rw [if_neg (by omega), if_neg (by omega), if_neg (by omega), if_neg (by omega), if_neg (by omega), if_neg (by omega)]
theorem enB_t {s : zP} (h : enB s = true) : (s 7 0 = 4 → 2 ≤ s 9 0) ∧ ((s 7 0 = 5 ∨ s 7 0 = 6) → s 9 0 = 3) ∧ ((s 7 0 ≠ 4 ∧ s 7 0 ≠ 5 ∧ s 7 0 ≠ 6) → s 9 0 = 2) := by
  unfold enB at h
  refine ⟨fun e => ?_, fun e => ?_, fun e => ?_⟩
  · rw [if_pos e, decide_eq_true_eq] at h; exact h
  · rw [if_neg (by omega), if_pos e, decide_eq_true_eq] at h; exact h
  · rw [if_neg e.1, if_neg (by omega), decide_eq_true_eq] at h; exact h
end RD
section RE
variable {N g : Nat} {σ : zS}
theorem z_applyA (d : Nat) (h1 : 7 ≤ g) (h2 : g ≤ 9) (hN : 48 ≤ N) (ht : TI (σ 1)) (hw : wfP (σ g)) (hi : II (σ 1) (σ g)) (hb : σ 1 7 0 ≠ -9) (he : enB (σ 1) = true) : rz_dM (d + 3) iS_apply [.ref (bs 1), .ref (bs g), .int (zI (σ 1 1 0)), .int (zI (σ 1 1 1)), .int (zI (σ 1 1 2))] (wOf N σ) = some (none, wOf N (gset σ g (apP (σ 1) (σ g)))) := by
  obtain ⟨ht1, ht2, ht3⟩ := ht
  rcases hi with hi | ⟨hk, hi, hi4⟩
  · exact absurd hi hb
  obtain ⟨e4, e5, e2⟩ := enB_t he
  have t0 := ht2 0 (by decide)
  have t1 := ht2 1 (by decide)
  have t2 := ht2 2 (by decide)
  have b0 : bd (σ 1 7 0) (σ g) 0 (σ 1 1 0) := hi 0 (by omega)
  have b1 : bd (σ 1 7 0) (σ g) 1 (σ 1 1 1) := hi 1 (by omega)
  rcases item_cases hk with e | e | e | e | e | e | e
  · rw [bd_0 e] at b0 b1
    rw [apP_0 e]
    exact z_apply0 d h1 h2 hN e _ (by omega) (by omega)
  · rw [bd_1 e] at b0 b1
    rw [apP_1 e]
    exact z_apply1 d h1 h2 hN hw e _ (by omega) (by omega)
  · rw [apP_4 e]
    have hl := hi4 e
    have hl0 := hw.1.2.2.2.2.1
    refine z_apply4 d h1 h2 hN e (t := (σ 1 9 0).toNat) (by omega) (by omega) (by omega) ?_ ⟨hl0, hl⟩ _ _ _
    intro i hi1 hi2
    have b := hi i (by omega)
    rw [bd_4 e] at b
    have := ht2 i (by omega)
    omega
  · rw [bd_5 (Or.inl e)] at b0 b1
    rw [apP_5 e]
    exact z_apply5 d h1 h2 hN e _ _ (by omega)
  · rw [bd_5 (Or.inr e)] at b0 b1
    rw [apP_6 e]
    exact z_apply6 d h1 h2 hN e _ _ (by omega)
  · rw [bd_7 e] at b0 b1
    rw [apP_7 e]
    exact z_apply7 d h1 h2 hN e _ _ (by omega)
  · rw [bd_8 e] at b0 b1
    rw [apP_8 e]
    exact z_apply8 d h1 h2 hN e _ _ (by omega)
theorem z_isEnded (d : Nat) (h1 : 7 ≤ g) (h2 : g ≤ 9) (hN : 48 ≤ N) (ht : TI (σ 1)) (h8 : 0 ≤ σ 1 8 0 ∧ σ 1 8 0 ≤ 300) (hw : wfP (σ g)) (hi : II (σ 1) (σ g)) (hb : σ 1 7 0 ≠ -9) : rz_dM (d + 4) iS_isEnded [.ref (bs 1), .ref (bs g)] (wOf N σ) = some (some (.int (zI (bZ (enB (σ 1) = true)))), wOf N (if enB (σ 1) = true then gset (gset σ g (apP (σ 1) (σ g))) 1 (edW (σ 1)) else σ)) := by
  obtain ⟨ht1, ht2, ht3⟩ := id ht
  have hk : 0 ≤ σ 1 7 0 ∧ σ 1 7 0 ≤ 8 := by
    rcases hi with hi | hi
    · exact absurd hi hb
    · exact hi.1
  have hg1 : g ≠ 1 := by omega
  by_cases he : enB (σ 1) = true
  · rw [if_pos he, bZ_pos he]
    have ha := z_applyA (N := N) (g := g) (σ := σ) d h1 h2 hN ht hw hi hb he
    have t0 : gat 9 (σ 1 1) 0 = σ 1 1 0 := rfl
    have t1 : gat 9 (σ 1 1) 1 = σ 1 1 1 := rfl
    have t2 : gat 9 (σ 1 1) 2 = σ 1 1 2 := rfl
    have hn := fun w => z_numbersOf (d + 2) (c := σ 1 7 0) (by omega) w
    unfold edW
    unfold enB at he
    by_cases c : σ 1 7 0 = 4
    · rw [if_pos c, decide_eq_true_eq] at he
      simp (disch := first | omega | exact Nat.le_of_ble_eq_true rfl) only [e_S_isEnded, s_S_isEnded_0, s_S_isEnded_1, s_S_isEnded_4, s_S_isEnded_5, s_S_isEnded_8, s_S_isEnded_9, s_S_isEnded_12, s_S_isEnded_13, s_S_isEnded_16, s_S_isEnded_19, s_S_isEnded_20, s_S_isEnded_23, s_S_isEnded_24, s_S_isEnded_27, s_S_isEnded_30, s_S_isEnded_33, s_S_isEnded_34, s_S_isEnded_35, s_S_isEnded_36, s_S_isEnded_37, s_S_isEnded_38, s_S_isEnded_41, s_S_isEnded_42, s_S_isEnded_45, s_S_isEnded_46, s_S_isEnded_49, s_S_isEnded_50, s_S_isEnded_53, s_S_isEnded_54, s_S_isEnded_57, s_S_isEnded_58, s_S_isEnded_61, s_S_isEnded_64, s_S_isEnded_65, s_S_isEnded_66, s_S_isEnded_69, s_S_isEnded_70, s_S_isEnded_71, s_S_isEnded_74, s_S_isEnded_75, s_S_isEnded_77, s_S_isEnded_80, s_S_isEnded_81, Option.bind_some, Option.bind_none, Option.toList_some, Option.toList_none, List.cons_append, List.nil_append, if_true, if_false, rz_clr, true_or, or_true, z00, z11, bZ_eq0, bZ_eq1, nor_self, if_pos, if_neg, zI_add, zI_sub, zI_mul, zI_neg, zI_lt, zI_le, zI_eq, c_S, f_S_0, l_S_0, r_S_0, w_S_0, f_S_1, l_S_1, r_S_1, w_S_1, f_S_2, u_S_2, f_S_3, u_S_3, f_S_4, u_S_4, f_S_5, u_S_5, f_S_6, u_S_6, f_S_7, u_S_7, f_S_8, u_S_8, f_S_9, u_S_9, sset_eq, gset_at, gset_gset, gset_ne, pset_eq, pset_ne, a_S_0, p_S_0, a_S_1, p_S_1, c, he, t0, t1, t2, ha]
    · rw [if_neg c, decide_eq_true_eq] at he
      simp (disch := first | omega | exact Nat.le_of_ble_eq_true rfl) only [e_S_isEnded, s_S_isEnded_0, s_S_isEnded_1, s_S_isEnded_4, s_S_isEnded_5, s_S_isEnded_8, s_S_isEnded_9, s_S_isEnded_12, s_S_isEnded_13, s_S_isEnded_16, s_S_isEnded_19, s_S_isEnded_20, s_S_isEnded_23, s_S_isEnded_24, s_S_isEnded_27, s_S_isEnded_30, s_S_isEnded_33, s_S_isEnded_34, s_S_isEnded_35, s_S_isEnded_36, s_S_isEnded_37, s_S_isEnded_38, s_S_isEnded_41, s_S_isEnded_42, s_S_isEnded_45, s_S_isEnded_46, s_S_isEnded_49, s_S_isEnded_50, s_S_isEnded_53, s_S_isEnded_54, s_S_isEnded_57, s_S_isEnded_58, s_S_isEnded_61, s_S_isEnded_64, s_S_isEnded_65, s_S_isEnded_66, s_S_isEnded_69, s_S_isEnded_70, s_S_isEnded_71, s_S_isEnded_74, s_S_isEnded_75, s_S_isEnded_77, s_S_isEnded_80, s_S_isEnded_81, Option.bind_some, Option.bind_none, Option.toList_some, Option.toList_none, List.cons_append, List.nil_append, if_true, if_false, rz_clr, true_or, or_true, z00, z11, bZ_eq0, bZ_eq1, nor_self, if_pos, if_neg, zI_add, zI_sub, zI_mul, zI_neg, zI_lt, zI_le, zI_eq, c_S, f_S_0, l_S_0, r_S_0, w_S_0, f_S_1, l_S_1, r_S_1, w_S_1, f_S_2, u_S_2, f_S_3, u_S_3, f_S_4, u_S_4, f_S_5, u_S_5, f_S_6, u_S_6, f_S_7, u_S_7, f_S_8, u_S_8, f_S_9, u_S_9, sset_eq, gset_at, gset_gset, gset_ne, pset_eq, pset_ne, a_S_0, p_S_0, a_S_1, p_S_1, c, he, hn, t0, t1, t2, ha]
  · rw [if_neg he, bZ_neg he]
    have hn := fun w => z_numbersOf (d + 2) (c := σ 1 7 0) (by omega) w
    unfold enB at he
    by_cases c : σ 1 7 0 = 4
    · rw [if_pos c, decide_eq_true_eq] at he
      simp (disch := first | omega | exact Nat.le_of_ble_eq_true rfl) only [e_S_isEnded, s_S_isEnded_0, s_S_isEnded_1, s_S_isEnded_4, s_S_isEnded_5, s_S_isEnded_8, s_S_isEnded_9, s_S_isEnded_12, s_S_isEnded_13, s_S_isEnded_16, s_S_isEnded_19, s_S_isEnded_20, s_S_isEnded_23, s_S_isEnded_24, s_S_isEnded_27, s_S_isEnded_30, s_S_isEnded_33, s_S_isEnded_34, s_S_isEnded_35, s_S_isEnded_36, s_S_isEnded_37, s_S_isEnded_38, s_S_isEnded_41, s_S_isEnded_42, s_S_isEnded_45, s_S_isEnded_46, s_S_isEnded_49, s_S_isEnded_50, s_S_isEnded_53, s_S_isEnded_54, s_S_isEnded_57, s_S_isEnded_58, s_S_isEnded_61, s_S_isEnded_64, s_S_isEnded_65, s_S_isEnded_66, s_S_isEnded_69, s_S_isEnded_70, s_S_isEnded_71, s_S_isEnded_74, s_S_isEnded_75, s_S_isEnded_77, s_S_isEnded_80, s_S_isEnded_81, Option.bind_some, Option.bind_none, Option.toList_some, Option.toList_none, List.cons_append, List.nil_append, if_true, if_false, rz_clr, true_or, or_true, z00, z11, bZ_eq0, bZ_eq1, nor_self, if_pos, if_neg, zI_add, zI_sub, zI_mul, zI_neg, zI_lt, zI_le, zI_eq, c_S, f_S_0, l_S_0, r_S_0, w_S_0, f_S_1, l_S_1, r_S_1, w_S_1, f_S_2, u_S_2, f_S_3, u_S_3, f_S_4, u_S_4, f_S_5, u_S_5, f_S_6, u_S_6, f_S_7, u_S_7, f_S_8, u_S_8, f_S_9, u_S_9, c, he]
    · rw [if_neg c, decide_eq_true_eq] at he
      by_cases c5 : σ 1 7 0 = 5 ∨ σ 1 7 0 = 6
      · rw [if_pos c5] at he
        simp (disch := first | omega | exact Nat.le_of_ble_eq_true rfl) only [e_S_isEnded, s_S_isEnded_0, s_S_isEnded_1, s_S_isEnded_4, s_S_isEnded_5, s_S_isEnded_8, s_S_isEnded_9, s_S_isEnded_12, s_S_isEnded_13, s_S_isEnded_16, s_S_isEnded_19, s_S_isEnded_20, s_S_isEnded_23, s_S_isEnded_24, s_S_isEnded_27, s_S_isEnded_30, s_S_isEnded_33, s_S_isEnded_34, s_S_isEnded_35, s_S_isEnded_36, s_S_isEnded_37, s_S_isEnded_38, s_S_isEnded_41, s_S_isEnded_42, s_S_isEnded_45, s_S_isEnded_46, s_S_isEnded_49, s_S_isEnded_50, s_S_isEnded_53, s_S_isEnded_54, s_S_isEnded_57, s_S_isEnded_58, s_S_isEnded_61, s_S_isEnded_64, s_S_isEnded_65, s_S_isEnded_66, s_S_isEnded_69, s_S_isEnded_70, s_S_isEnded_71, s_S_isEnded_74, s_S_isEnded_75, s_S_isEnded_77, s_S_isEnded_80, s_S_isEnded_81, Option.bind_some, Option.bind_none, Option.toList_some, Option.toList_none, List.cons_append, List.nil_append, if_true, if_false, rz_clr, true_or, or_true, z00, z11, bZ_eq0, bZ_eq1, nor_self, if_pos, if_neg, zI_add, zI_sub, zI_mul, zI_neg, zI_lt, zI_le, zI_eq, c_S, f_S_0, l_S_0, r_S_0, w_S_0, f_S_1, l_S_1, r_S_1, w_S_1, f_S_2, u_S_2, f_S_3, u_S_3, f_S_4, u_S_4, f_S_5, u_S_5, f_S_6, u_S_6, f_S_7, u_S_7, f_S_8, u_S_8, f_S_9, u_S_9, c, he, hn, c5]
      · rw [if_neg c5] at he
        simp (disch := first | omega | exact Nat.le_of_ble_eq_true rfl) only [e_S_isEnded, s_S_isEnded_0, s_S_isEnded_1, s_S_isEnded_4, s_S_isEnded_5, s_S_isEnded_8, s_S_isEnded_9, s_S_isEnded_12, s_S_isEnded_13, s_S_isEnded_16, s_S_isEnded_19, s_S_isEnded_20, s_S_isEnded_23, s_S_isEnded_24, s_S_isEnded_27, s_S_isEnded_30, s_S_isEnded_33, s_S_isEnded_34, s_S_isEnded_35, s_S_isEnded_36, s_S_isEnded_37, s_S_isEnded_38, s_S_isEnded_41, s_S_isEnded_42, s_S_isEnded_45, s_S_isEnded_46, s_S_isEnded_49, s_S_isEnded_50, s_S_isEnded_53, s_S_isEnded_54, s_S_isEnded_57, s_S_isEnded_58, s_S_isEnded_61, s_S_isEnded_64, s_S_isEnded_65, s_S_isEnded_66, s_S_isEnded_69, s_S_isEnded_70, s_S_isEnded_71, s_S_isEnded_74, s_S_isEnded_75, s_S_isEnded_77, s_S_isEnded_80, s_S_isEnded_81, Option.bind_some, Option.bind_none, Option.toList_some, Option.toList_none, List.cons_append, List.nil_append, if_true, if_false, rz_clr, true_or, or_true, z00, z11, bZ_eq0, bZ_eq1, nor_self, if_pos, if_neg, zI_add, zI_sub, zI_mul, zI_neg, zI_lt, zI_le, zI_eq, c_S, f_S_0, l_S_0, r_S_0, w_S_0, f_S_1, l_S_1, r_S_1, w_S_1, f_S_2, u_S_2, f_S_3, u_S_3, f_S_4, u_S_4, f_S_5, u_S_5, f_S_6, u_S_6, f_S_7, u_S_7, f_S_8, u_S_8, f_S_9, u_S_9, c, he, hn, c5]
end RE
