/-! one turn of the law: what is known, and an int of the script -/
def lwA0 (s : State) : Nat → Prop := fun q => s.heap.size ≤ q
def lwC0 (p : Program) (s : State) (m : MethodId) (meth : Method) (c : Code) (b L : Nat) (xs : Nat → Int32) (D : va_G) (cI cZ : ClassId) (ad : Nat → Nat) : Prop :=
  lw_At p s m meth c b L xs ∧ L ≤ 2048 ∧ cFx p s m #[Value.ref b] c code R_law D cI cZ ad (lwA0 s)
section LA
variable {p : Program} {l : Launch} {e : Env} {s : State} {m : MethodId} {below : List Frame} {meth : Method} {c : Code} {H : Heap} {locs : List Loc} {cells slots : Nat} {Q : State → Prop}
variable {ad : Nat → Nat} {pc : Nat} {ls : Array Slot} {D : va_G} {cI cZ : ClassId} {rest : List Value} {b L : Nat} {xs : Nat → Int32}
theorem la_in {i j L : Nat} (hij : i + j < L) (hL : L ≤ 2048) : vp_in (zI i + zI j) L ∧ (zI i + zI j).toNatClampNeg = i + j := by
  have e : zI (i : Int) + zI (j : Int) = zI ((i + j : Nat) : Int) := by rw [zI_add, Int.natCast_add]
  rw [e]
  have e2 : (zI ((i + j : Nat) : Int)).toNatClampNeg = i + j := by rw [zI_clamp (by omega) (by omega)]; omega
  refine ⟨?_, e2⟩
  unfold vp_in
  rw [e2]
  intro h
  rcases h with h | h
  · have : zI ((i + j : Nat) : Int) < zI 0 := h
    rw [zI_lt (by omega) (by omega)] at this
    omega
  · omega
theorem la_arg (X : lwC0 p s m meth c b L xs D cI cZ ad) (hS : va_S (lwA0 s) s.heap H locs) {i j : Nat} (hl : lv_has ls 4 [(0, .ref b), (1, .ref (ad 0)), (2, .ref (ad 48)), (3, .int (zI i))]) {jc : Int} {v : Int32} (hij : i + j < L) (hj : zI j = Int32.ofInt jc) (hv : xs (i + j) = v) (d0 : decode code pc = .ok (.aload_n 0, 1)) (d1 : decode code (pc + 1) = .ok (.iload_n 3, 1)) (d2 : decode code (pc + 2) = .ok (.iconst jc, 1)) (d3 : decode code (pc + 3) = .ok (.iadd, 1)) (d4 : decode code (pc + 4) = .ok (.iaload, 1))
    (kk : W p l e room_1 s m #[Value.ref b] below meth c H locs cells slots Q (F0 m (pc + 5) ls (.int v :: rest))) : W p l e room_1 s m #[Value.ref b] below meth c H locs cells slots Q (F0 m pc ls rest) := by
  obtain ⟨⟨hx, hb, hr, hml, hown, hts, hX, hbl, hlocks, hgv⟩, hL, hF⟩ := X
  have hbA : ¬ lwA0 s b := Nat.not_le.mpr hbl
  obtain ⟨h1, h2⟩ := la_in hij hL
  refine lv_aload_n hx hb d0 rfl (lv_at hl 0 rfl) ?_
  refine lv_iload_n hx hb d1 rfl (lv_at hl 3 rfl) ?_
  refine lv_iconst (v := zI j) hx hb d2 hj.symm ?_
  refine lv_iadd hx hb d3 ?_
  refine va_sld hx hb hX hbl hbA hS h1 d4 ?_
  rw [h2, hv]
  exact kk
end LA
