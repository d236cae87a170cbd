/-! what stands around at the law's start -/
def tmS (i : Nat) : Term := .string "OthersMan$Script" (([92, 98, 100, 102, 104, 106, 108, 110, 112] : List Nat).getD i 0)
theorem env_ne {FL : List Jvm.Cond} {args : Array Value} {s : State} (hs : ∀ w ∈ FL, w.before args s = true) (hk : ∀ i, i < 9 → ∀ j, j < 9 → i ≠ j → (Jvm.Cond.not (Jvm.Cond.eq (tmS i) (tmS j))) ∈ FL ∨ (Jvm.Cond.not (Jvm.Cond.eq (tmS j) (tmS i))) ∈ FL) : ∀ i j : Nat, i < 9 → j < 9 → i ≠ j → (Jvm.Cond.not (Jvm.Cond.eq (tmS i) (tmS j))).before args s = true ∨ (Jvm.Cond.not (Jvm.Cond.eq (tmS j) (tmS i))).before args s = true := by
  intro i j hi hj hne
  rcases hk i hi j hj hne with h | h
  · exact Or.inl (hs _ h)
  · exact Or.inr (hs _ h)
def adS (tR tD t8 fl : Nat) (adK adV : Nat → Nat) : Nat → Nat := fun k => if k = 1000 then tR else if k = 1001 then tD else if k = 1031 then fl else if k = 1030 then t8 else if k < 1020 then adK (k - 1010) else adV (k - 1020)
set_option maxHeartbeats 4000000 in
set_option maxRecDepth 100000 in
theorem env0 {args : Array Value} {s : State} (hts : ∀ w ∈ lw_tbl, w.before args s = true) (hgv : (Jvm.Cond.and given_1 narrow_1).before args s = true) : ∃ ad : Nat → Nat, rz_env ad (lwA0 s) s s.heap := by
  have hs := flat_of_before _ hgv
  have hA : ∀ a : Nat, a < s.heap.size → ¬ lwA0 s a := fun a h => Nat.not_le.mpr h
  obtain ⟨tR, eR, hR⟩ := va_Tof (args := args) (s := s) (tm := .static "OthersMan" "RIGHT" "[I") (ty := .int) (N := 8) (f := fun j => .int (rz_rt j)) (A := lwA0 s) (by decide) (hs _ (by decide +kernel)) (va_eqt (hs _ (by decide +kernel))) (fun j hj => va_eqt (hs _ (by revert j; decide +kernel))) hA
  obtain ⟨tD, eD, hDn⟩ := va_Tof (args := args) (s := s) (tm := .static "OthersMan" "DOWN" "[I") (ty := .int) (N := 8) (f := fun j => .int (rz_dn j)) (A := lwA0 s) (by decide) (hs _ (by decide +kernel)) (va_eqt (hs _ (by decide +kernel))) (fun j hj => va_eqt (hs _ (by revert j; decide +kernel))) hA
  have zR := va_Zof (v := .ref tR) (A := lwA0 s) (hts (.laysStatic "OthersMan" "RIGHT" "[I") (List.mem_of_getElem? (i := 484) (by decide +kernel))) (hts (.initialized "OthersMan") (List.mem_of_getElem? (i := 74) (by decide +kernel))) eR hA
  have zD := va_Zof (v := .ref tD) (A := lwA0 s) (hts (.laysStatic "OthersMan" "DOWN" "[I") (List.mem_of_getElem? (i := 486) (by decide +kernel))) (hts (.initialized "OthersMan") (List.mem_of_getElem? (i := 74) (by decide +kernel))) eD hA
  have zC := va_Zof (v := .int 1) (A := lwA0 s) (hts (.laysStatic "java/lang/String" "COMPACT_STRINGS" "Z") (List.mem_of_getElem? (i := 363) (by decide +kernel))) (hts (.initialized "java/lang/String") (List.mem_of_getElem? (i := 80) (by decide +kernel))) (va_eqt (hs _ (by decide +kernel))) hA
  have zF := va_Zqof (A := lwA0 s) (hts (.laysStatic "jdk/internal/util/Preconditions" "SIOOBE_FORMATTER" "Ljava/util/function/BiFunction;") (List.mem_of_getElem? (i := 379) (by decide +kernel))) (hts (.initialized "jdk/internal/util/Preconditions") (List.mem_of_getElem? (i := 82) (by decide +kernel))) (hs _ (by decide +kernel)) hA
  obtain ⟨t8, fl, zF⟩ : ∃ t8 fl : Nat, va_Z "jdk/internal/util/Preconditions" "SIOOBE_FORMATTER" "Ljava/util/function/BiFunction;" (if fl = 0 then Value.null else .ref t8) (lwA0 s) s s.heap := by
    rcases zF with h | ⟨t, h⟩
    · exact ⟨0, 0, h⟩
    · exact ⟨t, 1, h⟩
  obtain ⟨adK, adV, hV, hVe⟩ := vk_Sof (args := args) (s := s) (N := 9) (tm := tmS) (len := rz_strLen) (byt := rz_strByt) (A := lwA0 s) (by decide +kernel) (fun i hi => hs _ (by revert i; decide +kernel)) (fun i hi => hs _ (by revert i; decide +kernel)) (fun i hi => hs _ (by revert i; decide +kernel)) (fun i hi => hs _ (by revert i; decide +kernel)) (fun i hi j hj => hs _ (by revert j; revert i; decide +kernel)) (env_ne hs (by decide +kernel)) hA
  obtain ⟨ad, ea⟩ : ∃ z, z = adS tR tD t8 fl adK adV := ⟨_, rfl⟩
  have e0 : ad 1000 = tR := by rw [ea]; rfl
  have e1 : ad 1001 = tD := by rw [ea]; rfl
  have e2 : ad 1031 = fl := by rw [ea]; rfl
  have e3 : ad 1030 = t8 := by rw [ea]; rfl
  have e4 : ∀ i, i < 9 → ad (1010 + i) = adK i := fun i hi => by
    rw [ea]
    unfold adS
    rw [if_neg (by omega), if_neg (by omega), if_neg (by omega), if_neg (by omega), if_pos (by omega), Nat.add_sub_cancel_left]
  have e5 : ∀ i, i < 9 → ad (1020 + i) = adV i := fun i hi => by
    rw [ea]
    unfold adS
    rw [if_neg (by omega), if_neg (by omega), if_neg (by omega), if_neg (by omega), if_neg (by omega), Nat.add_sub_cancel_left]
  refine ⟨ad, ?_, by rw [e0]; exact hR, by rw [e1]; exact hDn, ?_, ?_, fun a i b n d h hm => va_Nw.of rfl (hts _ hm), fun a i x h hm => va_Nw.of rfl (hts _ hm)⟩
  · intro q hq
    simp only [rz_stc, List.mem_cons, List.not_mem_nil, or_false] at hq
    rcases hq with rfl | rfl | rfl | rfl
    · show va_Z _ _ _ (.ref (ad 1000)) _ _ _
      rw [e0]; exact zR
    · show va_Z _ _ _ (.ref (ad 1001)) _ _ _
      rw [e1]; exact zD
    · exact zC
    · show va_Z _ _ _ (if ad 1031 = 0 then Value.null else .ref (ad 1030)) _ _ _
      rw [e2, e3]; exact zF
  · refine ⟨fun i hi => ?_, fun i j hi hj => ?_⟩
    · have hi : i < 9 := hi
      dsimp only
      rw [e4 i hi, e5 i hi]
      exact hV.1 i hi
    · have hi : i < 9 := hi
      have hj : j < 9 := hj
      dsimp only
      rw [e4 i hi, e4 j hj]
      exact hV.2 i j hi hj
  · intro i q hq
    have hi : i < 9 := (List.getElem?_eq_some_iff.mp hq).1
    rw [e4 i hi]
    refine vk_R.of (A := args) (hts _ ?_) ?_
    · have h9 : ∀ i, i < 9 → (rz_strs[i]?).all (fun q => decide (Jvm.Cond.stringRef q.1 q.2.1 q.2.2 ∈ lw_tbl)) = true := by decide +kernel
      have h8 := h9 i hi
      rw [hq] at h8
      exact of_decide_eq_true h8
    · have h9 : ∀ i, i < 9 → (rz_strs[i]?).all (fun q => decide (Term.string q.1 q.2.1 = tmS i)) = true := by decide +kernel
      have h8 := h9 i hi
      rw [hq] at h8
      have h7 : Term.string q.1 q.2.1 = tmS i := of_decide_eq_true h8
      rw [h7]
      exact hVe i hi
