-- equations of the small machine, an instruction each
def zI (z : Int) : Int32 := Int32.ofInt z
section G
variable {K : Nat → List Value → rz_W → Option rz_O} {C : Nat → Option rz_I} {ret : Option FieldType} {e : rz_I} {pc : Nat} {L L' : rz_L} {st st' : List Value} {w w' : rz_W}
theorem rz_g0 {c : Prop} {D1 : Decidable c} {b : Bool} {t f : Nat} (hC : C pc = some e) (hs : rz_stp ret e pc L st w = some (.inl ((if b = true then t else f), L', st', w'))) (hb : b = true ↔ c) : rz_den K C ret pc L st w = if c then rz_den K C ret t L' st' w' else rz_den K C ret f L' st' w' := by
  rw [rz_den_next hC hs]
  by_cases h : c
  · rw [if_pos h, if_pos (hb.mpr h)]
  · rw [if_neg h, if_neg (fun q => h (hb.mp q))]
theorem rz_g0n {c : Prop} {D1 : Decidable c} {b : Bool} {t f : Nat} (hC : C pc = some e) (hs : rz_stp ret e pc L st w = some (.inl ((if b = true then t else f), L', st', w'))) (hb : b = true ↔ ¬ c) : rz_den K C ret pc L st w = if c then rz_den K C ret f L' st' w' else rz_den K C ret t L' st' w' := by
  rw [rz_den_next hC hs]
  by_cases h : c
  · rw [if_pos h, if_neg (fun q => (hb.mp q) h)]
  · rw [if_neg h, if_pos (hb.mpr h)]
theorem rz_gGet {i ln a b j h : Nat} {cv : Value} (hC : C pc = some (.getfield i, ln, a, b, j, cv)) : rz_den K C ret pc L (.ref h :: st) w = (rz_fld w h a b).bind fun v => rz_den K C ret (pc + 3) L (v :: st) w := by
  cases hf : rz_fld w h a b with
  | none => exact rz_den_none hC (by simp only [rz_stp, hf])
  | some v => exact rz_den_next hC (by simp only [rz_stp, hf])
theorem rz_gPut {i ln a b j h : Nat} {cv v : Value} (hC : C pc = some (.putfield i, ln, a, b, j, cv)) (hf : rz_finOk a b v = true) : rz_den K C ret pc L (v :: .ref h :: st) w = (rz_put w h a b v).bind fun w' => rz_den K C ret (pc + 3) L st w' := by
  cases hp : rz_put w h a b v with
  | none => exact rz_den_none hC (by simp only [rz_stp, hf, hp, if_true])
  | some w' => exact rz_den_next hC (by simp only [rz_stp, hf, hp, if_true])
theorem rz_gIald {z : Nat × Nat × Nat × Nat × Value} {h : Nat} {x : Int32} (hC : C pc = some (.iaload, z)) : rz_den K C ret pc L (.int x :: .ref h :: st) w = (rz_ald w h 0 x).bind fun v => rz_den K C ret (pc + 1) L (.int v :: st) w := by
  cases hf : rz_ald w h 0 x with
  | none => exact rz_den_none hC (by simp only [rz_stp, hf])
  | some v => exact rz_den_next hC (by simp only [rz_stp, hf])
theorem rz_gBald {z : Nat × Nat × Nat × Nat × Value} {h : Nat} {x : Int32} (hC : C pc = some (.baload, z)) : rz_den K C ret pc L (.int x :: .ref h :: st) w = (rz_ald w h (if h < 1000 then 1 else 2) x).bind fun v => rz_den K C ret (pc + 1) L (.int v :: st) w := by
  cases hf : rz_ald w h (if h < 1000 then 1 else 2) x with
  | none => exact rz_den_none hC (by simp only [rz_stp, hf])
  | some v => exact rz_den_next hC (by simp only [rz_stp, hf])
theorem rz_gIast {z : Nat × Nat × Nat × Nat × Value} {h : Nat} {x y : Int32} (hC : C pc = some (.iastore, z)) : rz_den K C ret pc L (.int y :: .int x :: .ref h :: st) w = (rz_ast w h 0 x y).bind fun w' => rz_den K C ret (pc + 1) L st w' := by
  cases hf : rz_ast w h 0 x y with
  | none => exact rz_den_none hC (by simp only [rz_stp, hf])
  | some v => exact rz_den_next hC (by simp only [rz_stp, hf])
theorem rz_gBast {z : Nat × Nat × Nat × Nat × Value} {h : Nat} {x y : Int32} (hC : C pc = some (.bastore, z)) : rz_den K C ret pc L (.int y :: .int x :: .ref h :: st) w = (rz_ast w h 1 x (vp_nar .boolean y)).bind fun w' => rz_den K C ret (pc + 1) L st w' := by
  cases hf : rz_ast w h 1 x (vp_nar .boolean y) with
  | none => exact rz_den_none hC (by simp only [rz_stp, hf])
  | some v => exact rz_den_next hC (by simp only [rz_stp, hf])
theorem rz_gLen {z : Nat × Nat × Nat × Nat × Value} {h : Nat} (hC : C pc = some (.arraylength, z)) : rz_den K C ret pc L (.ref h :: st) w = (rz_len w h).bind fun v => rz_den K C ret (pc + 1) L (.int v :: st) w := by
  cases hf : rz_len w h with
  | none => exact rz_den_none hC (by simp only [rz_stp, hf])
  | some v => exact rz_den_next hC (by simp only [rz_stp, hf])
theorem rz_gS {i ln a b j : Nat} {cv : Value} {as : List Value} (hC : C pc = some (.invokestatic i, ln, a, b, j, cv)) (ha : a < 10000) (hb : as.length = b) (hs : rz_cs st ≤ 8) : rz_den K C ret pc L (as.reverse ++ st) w = (K a as w).bind fun q => rz_den K C ret (pc + 3) L (q.1.toList ++ st) q.2 := by
  subst hb
  refine rz_den_call hC ?_
  have h1 : as.length ≤ (as.reverse ++ st).length ∧ rz_cs ((as.reverse ++ st).drop as.length) ≤ 8 := by
    rw [List.drop_left' (by simp), List.length_append, List.length_reverse]
    exact ⟨by omega, hs⟩
  have h2 : ¬ 10000 ≤ a := by omega
  simp only [rz_stp, if_neg h2, if_pos h1]
  rw [List.take_left' (by simp), List.drop_left' (by simp), List.reverse_reverse]
theorem rz_gV {i ln a b j h ci : Nat} {as : List Value} (hC : C pc = some (.invokevirtual i, ln, a, b, j, .retAddr ci)) (hb : as.length + 1 = b) (hs : rz_cs st ≤ 8) : rz_den K C ret pc L ((Value.ref h :: as).reverse ++ st) w = if rz_clsOf w h = some ci then (K a (.ref h :: as) w).bind fun q => rz_den K C ret (pc + 3) L (q.1.toList ++ st) q.2 else none := by
  subst hb
  have h1 : as.length + 1 ≤ ((Value.ref h :: as).reverse ++ st).length ∧ rz_cs (((Value.ref h :: as).reverse ++ st).drop (as.length + 1)) ≤ 8 := by
    rw [List.drop_left' (by simp), List.length_append, List.length_reverse, List.length_cons]
    exact ⟨by omega, hs⟩
  have e1 : (((Value.ref h :: as).reverse ++ st).take (as.length + 1)).reverse = Value.ref h :: as := by
    rw [List.take_left' (by simp), List.reverse_reverse]
  have e2 : ((Value.ref h :: as).reverse ++ st).drop (as.length + 1) = st := List.drop_left' (by simp)
  rw [e2] at h1
  by_cases hc : rz_clsOf w h = some ci
  · rw [if_pos hc]
    refine rz_den_call hC ?_
    simp only [rz_stp, e2, if_pos h1, e1, if_pos hc]
  · rw [if_neg hc]
    refine rz_den_none hC ?_
    simp only [rz_stp, e2, if_pos h1, e1, if_neg hc]
theorem rz_n01 (x : Int32) : (narrow .boolean (.int x) = .int x) ↔ (x = zI 0 ∨ x = zI 1) := by
  constructor
  · intro h
    have h1 : x &&& 1 = x := Value.int.inj h
    have h2 : (x.toBitVec &&& 1#32) = x.toBitVec := by
      have := congrArg Int32.toBitVec h1
      rw [Int32.toBitVec_and] at this
      exact this
    have h3 : x.toBitVec.toNat = x.toBitVec.toNat % 2 := by
      have := congrArg BitVec.toNat h2
      rw [BitVec.toNat_and] at this
      have e1 : (1#32).toNat = 1 := rfl
      rw [e1, Nat.and_one_is_mod] at this
      exact this.symm
    have h4 : x.toBitVec.toNat = 0 ∨ x.toBitVec.toNat = 1 := by omega
    rcases h4 with h4 | h4
    · left
      apply Int32.toBitVec_inj.mp
      apply BitVec.eq_of_toNat_eq
      rw [h4]; rfl
    · right
      apply Int32.toBitVec_inj.mp
      apply BitVec.eq_of_toNat_eq
      rw [h4]; rfl
  · rintro (rfl | rfl) <;> rfl
theorem rz_retZ {z : Nat × Nat × Nat × Nat × Value} {x : Int32} (hC : C pc = some (.ireturn, z)) : rz_den K C (some .boolean) pc L [.int x] w = if x = zI 0 ∨ x = zI 1 then some (some (.int x), w) else none := by
  by_cases h : x = zI 0 ∨ x = zI 1
  · rw [if_pos h]
    refine rz_den_ret hC ?_
    simp only [rz_stp, if_pos ((rz_n01 x).mpr h)]
  · rw [if_neg h]
    refine rz_den_none hC ?_
    simp only [rz_stp, if_neg (fun q => h ((rz_n01 x).mp q))]
theorem rz_retI {z : Nat × Nat × Nat × Nat × Value} {x : Int32} (hC : C pc = some (.ireturn, z)) : rz_den K C (some .int) pc L [.int x] w = some (some (.int x), w) := by
  refine rz_den_ret hC ?_
  have h : narrow .int (.int x) = .int x := rfl
  simp only [rz_stp, if_pos h]
theorem rz_retN {z : Nat × Nat × Nat × Nat × Value} {x : Int32} {ty : FieldType} (hC : C pc = some (.ireturn, z)) : rz_den K C (some ty) pc L [.int x] w = if narrow ty (.int x) = .int x then some (some (.int x), w) else none := by
  by_cases h : narrow ty (.int x) = .int x
  · rw [if_pos h]
    refine rz_den_ret hC ?_
    simp only [rz_stp, if_pos h]
  · rw [if_neg h]
    refine rz_den_none hC ?_
    simp only [rz_stp, if_neg h]
end G
theorem rz_kdI (ty : FieldType) (x : Int32) : rz_kindOk ty (.int x) = rz_kindOk ty (.int 0) := by cases ty <;> rfl
theorem rz_kdJ (ty : FieldType) (x : Int64) : rz_kindOk ty (.long x) = rz_kindOk ty (.long 0) := by cases ty <;> rfl
theorem rz_kdL (ty : FieldType) (x : Nat) : rz_kindOk ty (.ref x) = rz_kindOk ty (.ref 0) := by cases ty <;> rfl
theorem rz_finI (a b : Nat) (x : Int32) : rz_finOk a b (.int x) = rz_finOk a b (.int 0) := by simp only [rz_finOk, rz_kdI _ x]
theorem rz_finJ (a b : Nat) (x : Int64) : rz_finOk a b (.long x) = rz_finOk a b (.long 0) := by simp only [rz_finOk, rz_kdJ _ x]
theorem rz_finL (a b : Nat) (x : Nat) : rz_finOk a b (.ref x) = rz_finOk a b (.ref 0) := by simp only [rz_finOk, rz_kdL _ x]
theorem rz_swOut (dflt lo hi : Int) (offs : Array Int) (tgt : Nat) {pc : Nat} {x : Int32} (h : ∀ k : Int, lo ≤ k → k ≤ hi → x.toInt = k → False) (ht : (pc : Int) + dflt = (tgt : Int)) : rz_sw pc dflt lo hi offs x = some tgt := by
  have hc : x.toInt < lo ∨ hi < x.toInt := by
    by_cases h1 : x.toInt < lo
    · exact Or.inl h1
    · by_cases h2 : hi < x.toInt
      · exact Or.inr h2
      · exact absurd rfl (h x.toInt (by omega) (by omega))
  unfold rz_sw
  rw [if_pos hc]
  dsimp only
  rw [if_pos (by omega), ht]
  rfl
theorem rz_zne {x : Int32} {k : Int} (h : ¬ x = zI k) (hk : (zI k).toInt = k) : ¬ x.toInt = k := fun q => h (Int32.toInt_inj.mp (by rw [q, hk]))
theorem rz_bipush_m10 {ret : Option FieldType} {ln a b j pc : Nat} {cv : Value} {L : rz_L} {st : List Value} {w : rz_W} : rz_stp ret (.bipush (-10), ln, a, b, j, cv) pc L st w = some (.inl (pc + 2, L, .int (zI (-10)) :: st, w)) := by
  have h : (Int8.ofInt (-10)).toInt32 = zI (-10) := by decide
  simp only [rz_stp, rz_alu, h, rz_ln]
theorem rz_bipush_m9 {ret : Option FieldType} {ln a b j pc : Nat} {cv : Value} {L : rz_L} {st : List Value} {w : rz_W} : rz_stp ret (.bipush (-9), ln, a, b, j, cv) pc L st w = some (.inl (pc + 2, L, .int (zI (-9)) :: st, w)) := by
  have h : (Int8.ofInt (-9)).toInt32 = zI (-9) := by decide
  simp only [rz_stp, rz_alu, h, rz_ln]
theorem rz_bipush_m3 {ret : Option FieldType} {ln a b j pc : Nat} {cv : Value} {L : rz_L} {st : List Value} {w : rz_W} : rz_stp ret (.bipush (-3), ln, a, b, j, cv) pc L st w = some (.inl (pc + 2, L, .int (zI (-3)) :: st, w)) := by
  have h : (Int8.ofInt (-3)).toInt32 = zI (-3) := by decide
  simp only [rz_stp, rz_alu, h, rz_ln]
theorem rz_bipush_m2 {ret : Option FieldType} {ln a b j pc : Nat} {cv : Value} {L : rz_L} {st : List Value} {w : rz_W} : rz_stp ret (.bipush (-2), ln, a, b, j, cv) pc L st w = some (.inl (pc + 2, L, .int (zI (-2)) :: st, w)) := by
  have h : (Int8.ofInt (-2)).toInt32 = zI (-2) := by decide
  simp only [rz_stp, rz_alu, h, rz_ln]
theorem rz_bipush_6 {ret : Option FieldType} {ln a b j pc : Nat} {cv : Value} {L : rz_L} {st : List Value} {w : rz_W} : rz_stp ret (.bipush (6), ln, a, b, j, cv) pc L st w = some (.inl (pc + 2, L, .int (zI (6)) :: st, w)) := by
  have h : (Int8.ofInt (6)).toInt32 = zI (6) := by decide
  simp only [rz_stp, rz_alu, h, rz_ln]
theorem rz_bipush_7 {ret : Option FieldType} {ln a b j pc : Nat} {cv : Value} {L : rz_L} {st : List Value} {w : rz_W} : rz_stp ret (.bipush (7), ln, a, b, j, cv) pc L st w = some (.inl (pc + 2, L, .int (zI (7)) :: st, w)) := by
  have h : (Int8.ofInt (7)).toInt32 = zI (7) := by decide
  simp only [rz_stp, rz_alu, h, rz_ln]
theorem rz_bipush_8 {ret : Option FieldType} {ln a b j pc : Nat} {cv : Value} {L : rz_L} {st : List Value} {w : rz_W} : rz_stp ret (.bipush (8), ln, a, b, j, cv) pc L st w = some (.inl (pc + 2, L, .int (zI (8)) :: st, w)) := by
  have h : (Int8.ofInt (8)).toInt32 = zI (8) := by decide
  simp only [rz_stp, rz_alu, h, rz_ln]
theorem rz_bipush_9 {ret : Option FieldType} {ln a b j pc : Nat} {cv : Value} {L : rz_L} {st : List Value} {w : rz_W} : rz_stp ret (.bipush (9), ln, a, b, j, cv) pc L st w = some (.inl (pc + 2, L, .int (zI (9)) :: st, w)) := by
  have h : (Int8.ofInt (9)).toInt32 = zI (9) := by decide
  simp only [rz_stp, rz_alu, h, rz_ln]
theorem rz_bipush_10 {ret : Option FieldType} {ln a b j pc : Nat} {cv : Value} {L : rz_L} {st : List Value} {w : rz_W} : rz_stp ret (.bipush (10), ln, a, b, j, cv) pc L st w = some (.inl (pc + 2, L, .int (zI (10)) :: st, w)) := by
  have h : (Int8.ofInt (10)).toInt32 = zI (10) := by decide
  simp only [rz_stp, rz_alu, h, rz_ln]
theorem rz_bipush_12 {ret : Option FieldType} {ln a b j pc : Nat} {cv : Value} {L : rz_L} {st : List Value} {w : rz_W} : rz_stp ret (.bipush (12), ln, a, b, j, cv) pc L st w = some (.inl (pc + 2, L, .int (zI (12)) :: st, w)) := by
  have h : (Int8.ofInt (12)).toInt32 = zI (12) := by decide
  simp only [rz_stp, rz_alu, h, rz_ln]
theorem rz_bipush_15 {ret : Option FieldType} {ln a b j pc : Nat} {cv : Value} {L : rz_L} {st : List Value} {w : rz_W} : rz_stp ret (.bipush (15), ln, a, b, j, cv) pc L st w = some (.inl (pc + 2, L, .int (zI (15)) :: st, w)) := by
  have h : (Int8.ofInt (15)).toInt32 = zI (15) := by decide
  simp only [rz_stp, rz_alu, h, rz_ln]
theorem rz_bipush_16 {ret : Option FieldType} {ln a b j pc : Nat} {cv : Value} {L : rz_L} {st : List Value} {w : rz_W} : rz_stp ret (.bipush (16), ln, a, b, j, cv) pc L st w = some (.inl (pc + 2, L, .int (zI (16)) :: st, w)) := by
  have h : (Int8.ofInt (16)).toInt32 = zI (16) := by decide
  simp only [rz_stp, rz_alu, h, rz_ln]
theorem rz_bipush_18 {ret : Option FieldType} {ln a b j pc : Nat} {cv : Value} {L : rz_L} {st : List Value} {w : rz_W} : rz_stp ret (.bipush (18), ln, a, b, j, cv) pc L st w = some (.inl (pc + 2, L, .int (zI (18)) :: st, w)) := by
  have h : (Int8.ofInt (18)).toInt32 = zI (18) := by decide
  simp only [rz_stp, rz_alu, h, rz_ln]
theorem rz_bipush_19 {ret : Option FieldType} {ln a b j pc : Nat} {cv : Value} {L : rz_L} {st : List Value} {w : rz_W} : rz_stp ret (.bipush (19), ln, a, b, j, cv) pc L st w = some (.inl (pc + 2, L, .int (zI (19)) :: st, w)) := by
  have h : (Int8.ofInt (19)).toInt32 = zI (19) := by decide
  simp only [rz_stp, rz_alu, h, rz_ln]
theorem rz_bipush_25 {ret : Option FieldType} {ln a b j pc : Nat} {cv : Value} {L : rz_L} {st : List Value} {w : rz_W} : rz_stp ret (.bipush (25), ln, a, b, j, cv) pc L st w = some (.inl (pc + 2, L, .int (zI (25)) :: st, w)) := by
  have h : (Int8.ofInt (25)).toInt32 = zI (25) := by decide
  simp only [rz_stp, rz_alu, h, rz_ln]
theorem rz_bipush_26 {ret : Option FieldType} {ln a b j pc : Nat} {cv : Value} {L : rz_L} {st : List Value} {w : rz_W} : rz_stp ret (.bipush (26), ln, a, b, j, cv) pc L st w = some (.inl (pc + 2, L, .int (zI (26)) :: st, w)) := by
  have h : (Int8.ofInt (26)).toInt32 = zI (26) := by decide
  simp only [rz_stp, rz_alu, h, rz_ln]
theorem rz_bipush_27 {ret : Option FieldType} {ln a b j pc : Nat} {cv : Value} {L : rz_L} {st : List Value} {w : rz_W} : rz_stp ret (.bipush (27), ln, a, b, j, cv) pc L st w = some (.inl (pc + 2, L, .int (zI (27)) :: st, w)) := by
  have h : (Int8.ofInt (27)).toInt32 = zI (27) := by decide
  simp only [rz_stp, rz_alu, h, rz_ln]
theorem rz_bipush_28 {ret : Option FieldType} {ln a b j pc : Nat} {cv : Value} {L : rz_L} {st : List Value} {w : rz_W} : rz_stp ret (.bipush (28), ln, a, b, j, cv) pc L st w = some (.inl (pc + 2, L, .int (zI (28)) :: st, w)) := by
  have h : (Int8.ofInt (28)).toInt32 = zI (28) := by decide
  simp only [rz_stp, rz_alu, h, rz_ln]
theorem rz_bipush_29 {ret : Option FieldType} {ln a b j pc : Nat} {cv : Value} {L : rz_L} {st : List Value} {w : rz_W} : rz_stp ret (.bipush (29), ln, a, b, j, cv) pc L st w = some (.inl (pc + 2, L, .int (zI (29)) :: st, w)) := by
  have h : (Int8.ofInt (29)).toInt32 = zI (29) := by decide
  simp only [rz_stp, rz_alu, h, rz_ln]
theorem rz_bipush_30 {ret : Option FieldType} {ln a b j pc : Nat} {cv : Value} {L : rz_L} {st : List Value} {w : rz_W} : rz_stp ret (.bipush (30), ln, a, b, j, cv) pc L st w = some (.inl (pc + 2, L, .int (zI (30)) :: st, w)) := by
  have h : (Int8.ofInt (30)).toInt32 = zI (30) := by decide
  simp only [rz_stp, rz_alu, h, rz_ln]
theorem rz_bipush_31 {ret : Option FieldType} {ln a b j pc : Nat} {cv : Value} {L : rz_L} {st : List Value} {w : rz_W} : rz_stp ret (.bipush (31), ln, a, b, j, cv) pc L st w = some (.inl (pc + 2, L, .int (zI (31)) :: st, w)) := by
  have h : (Int8.ofInt (31)).toInt32 = zI (31) := by decide
  simp only [rz_stp, rz_alu, h, rz_ln]
theorem rz_bipush_32 {ret : Option FieldType} {ln a b j pc : Nat} {cv : Value} {L : rz_L} {st : List Value} {w : rz_W} : rz_stp ret (.bipush (32), ln, a, b, j, cv) pc L st w = some (.inl (pc + 2, L, .int (zI (32)) :: st, w)) := by
  have h : (Int8.ofInt (32)).toInt32 = zI (32) := by decide
  simp only [rz_stp, rz_alu, h, rz_ln]
theorem rz_bipush_33 {ret : Option FieldType} {ln a b j pc : Nat} {cv : Value} {L : rz_L} {st : List Value} {w : rz_W} : rz_stp ret (.bipush (33), ln, a, b, j, cv) pc L st w = some (.inl (pc + 2, L, .int (zI (33)) :: st, w)) := by
  have h : (Int8.ofInt (33)).toInt32 = zI (33) := by decide
  simp only [rz_stp, rz_alu, h, rz_ln]
theorem rz_bipush_34 {ret : Option FieldType} {ln a b j pc : Nat} {cv : Value} {L : rz_L} {st : List Value} {w : rz_W} : rz_stp ret (.bipush (34), ln, a, b, j, cv) pc L st w = some (.inl (pc + 2, L, .int (zI (34)) :: st, w)) := by
  have h : (Int8.ofInt (34)).toInt32 = zI (34) := by decide
  simp only [rz_stp, rz_alu, h, rz_ln]
theorem rz_bipush_35 {ret : Option FieldType} {ln a b j pc : Nat} {cv : Value} {L : rz_L} {st : List Value} {w : rz_W} : rz_stp ret (.bipush (35), ln, a, b, j, cv) pc L st w = some (.inl (pc + 2, L, .int (zI (35)) :: st, w)) := by
  have h : (Int8.ofInt (35)).toInt32 = zI (35) := by decide
  simp only [rz_stp, rz_alu, h, rz_ln]
theorem rz_bipush_36 {ret : Option FieldType} {ln a b j pc : Nat} {cv : Value} {L : rz_L} {st : List Value} {w : rz_W} : rz_stp ret (.bipush (36), ln, a, b, j, cv) pc L st w = some (.inl (pc + 2, L, .int (zI (36)) :: st, w)) := by
  have h : (Int8.ofInt (36)).toInt32 = zI (36) := by decide
  simp only [rz_stp, rz_alu, h, rz_ln]
theorem rz_bipush_48 {ret : Option FieldType} {ln a b j pc : Nat} {cv : Value} {L : rz_L} {st : List Value} {w : rz_W} : rz_stp ret (.bipush (48), ln, a, b, j, cv) pc L st w = some (.inl (pc + 2, L, .int (zI (48)) :: st, w)) := by
  have h : (Int8.ofInt (48)).toInt32 = zI (48) := by decide
  simp only [rz_stp, rz_alu, h, rz_ln]
theorem rz_bipush_52 {ret : Option FieldType} {ln a b j pc : Nat} {cv : Value} {L : rz_L} {st : List Value} {w : rz_W} : rz_stp ret (.bipush (52), ln, a, b, j, cv) pc L st w = some (.inl (pc + 2, L, .int (zI (52)) :: st, w)) := by
  have h : (Int8.ofInt (52)).toInt32 = zI (52) := by decide
  simp only [rz_stp, rz_alu, h, rz_ln]
theorem rz_bipush_57 {ret : Option FieldType} {ln a b j pc : Nat} {cv : Value} {L : rz_L} {st : List Value} {w : rz_W} : rz_stp ret (.bipush (57), ln, a, b, j, cv) pc L st w = some (.inl (pc + 2, L, .int (zI (57)) :: st, w)) := by
  have h : (Int8.ofInt (57)).toInt32 = zI (57) := by decide
  simp only [rz_stp, rz_alu, h, rz_ln]
theorem rz_bipush_59 {ret : Option FieldType} {ln a b j pc : Nat} {cv : Value} {L : rz_L} {st : List Value} {w : rz_W} : rz_stp ret (.bipush (59), ln, a, b, j, cv) pc L st w = some (.inl (pc + 2, L, .int (zI (59)) :: st, w)) := by
  have h : (Int8.ofInt (59)).toInt32 = zI (59) := by decide
  simp only [rz_stp, rz_alu, h, rz_ln]
theorem rz_bipush_60 {ret : Option FieldType} {ln a b j pc : Nat} {cv : Value} {L : rz_L} {st : List Value} {w : rz_W} : rz_stp ret (.bipush (60), ln, a, b, j, cv) pc L st w = some (.inl (pc + 2, L, .int (zI (60)) :: st, w)) := by
  have h : (Int8.ofInt (60)).toInt32 = zI (60) := by decide
  simp only [rz_stp, rz_alu, h, rz_ln]
theorem rz_bipush_63 {ret : Option FieldType} {ln a b j pc : Nat} {cv : Value} {L : rz_L} {st : List Value} {w : rz_W} : rz_stp ret (.bipush (63), ln, a, b, j, cv) pc L st w = some (.inl (pc + 2, L, .int (zI (63)) :: st, w)) := by
  have h : (Int8.ofInt (63)).toInt32 = zI (63) := by decide
  simp only [rz_stp, rz_alu, h, rz_ln]
theorem rz_bipush_64 {ret : Option FieldType} {ln a b j pc : Nat} {cv : Value} {L : rz_L} {st : List Value} {w : rz_W} : rz_stp ret (.bipush (64), ln, a, b, j, cv) pc L st w = some (.inl (pc + 2, L, .int (zI (64)) :: st, w)) := by
  have h : (Int8.ofInt (64)).toInt32 = zI (64) := by decide
  simp only [rz_stp, rz_alu, h, rz_ln]
theorem rz_bipush_65 {ret : Option FieldType} {ln a b j pc : Nat} {cv : Value} {L : rz_L} {st : List Value} {w : rz_W} : rz_stp ret (.bipush (65), ln, a, b, j, cv) pc L st w = some (.inl (pc + 2, L, .int (zI (65)) :: st, w)) := by
  have h : (Int8.ofInt (65)).toInt32 = zI (65) := by decide
  simp only [rz_stp, rz_alu, h, rz_ln]
theorem rz_bipush_97 {ret : Option FieldType} {ln a b j pc : Nat} {cv : Value} {L : rz_L} {st : List Value} {w : rz_W} : rz_stp ret (.bipush (97), ln, a, b, j, cv) pc L st w = some (.inl (pc + 2, L, .int (zI (97)) :: st, w)) := by
  have h : (Int8.ofInt (97)).toInt32 = zI (97) := by decide
  simp only [rz_stp, rz_alu, h, rz_ln]
theorem rz_bipush_98 {ret : Option FieldType} {ln a b j pc : Nat} {cv : Value} {L : rz_L} {st : List Value} {w : rz_W} : rz_stp ret (.bipush (98), ln, a, b, j, cv) pc L st w = some (.inl (pc + 2, L, .int (zI (98)) :: st, w)) := by
  have h : (Int8.ofInt (98)).toInt32 = zI (98) := by decide
  simp only [rz_stp, rz_alu, h, rz_ln]
theorem rz_bipush_99 {ret : Option FieldType} {ln a b j pc : Nat} {cv : Value} {L : rz_L} {st : List Value} {w : rz_W} : rz_stp ret (.bipush (99), ln, a, b, j, cv) pc L st w = some (.inl (pc + 2, L, .int (zI (99)) :: st, w)) := by
  have h : (Int8.ofInt (99)).toInt32 = zI (99) := by decide
  simp only [rz_stp, rz_alu, h, rz_ln]
theorem rz_bipush_100 {ret : Option FieldType} {ln a b j pc : Nat} {cv : Value} {L : rz_L} {st : List Value} {w : rz_W} : rz_stp ret (.bipush (100), ln, a, b, j, cv) pc L st w = some (.inl (pc + 2, L, .int (zI (100)) :: st, w)) := by
  have h : (Int8.ofInt (100)).toInt32 = zI (100) := by decide
  simp only [rz_stp, rz_alu, h, rz_ln]
theorem rz_bipush_101 {ret : Option FieldType} {ln a b j pc : Nat} {cv : Value} {L : rz_L} {st : List Value} {w : rz_W} : rz_stp ret (.bipush (101), ln, a, b, j, cv) pc L st w = some (.inl (pc + 2, L, .int (zI (101)) :: st, w)) := by
  have h : (Int8.ofInt (101)).toInt32 = zI (101) := by decide
  simp only [rz_stp, rz_alu, h, rz_ln]
theorem rz_bipush_102 {ret : Option FieldType} {ln a b j pc : Nat} {cv : Value} {L : rz_L} {st : List Value} {w : rz_W} : rz_stp ret (.bipush (102), ln, a, b, j, cv) pc L st w = some (.inl (pc + 2, L, .int (zI (102)) :: st, w)) := by
  have h : (Int8.ofInt (102)).toInt32 = zI (102) := by decide
  simp only [rz_stp, rz_alu, h, rz_ln]
theorem rz_bipush_104 {ret : Option FieldType} {ln a b j pc : Nat} {cv : Value} {L : rz_L} {st : List Value} {w : rz_W} : rz_stp ret (.bipush (104), ln, a, b, j, cv) pc L st w = some (.inl (pc + 2, L, .int (zI (104)) :: st, w)) := by
  have h : (Int8.ofInt (104)).toInt32 = zI (104) := by decide
  simp only [rz_stp, rz_alu, h, rz_ln]
theorem rz_bipush_105 {ret : Option FieldType} {ln a b j pc : Nat} {cv : Value} {L : rz_L} {st : List Value} {w : rz_W} : rz_stp ret (.bipush (105), ln, a, b, j, cv) pc L st w = some (.inl (pc + 2, L, .int (zI (105)) :: st, w)) := by
  have h : (Int8.ofInt (105)).toInt32 = zI (105) := by decide
  simp only [rz_stp, rz_alu, h, rz_ln]
theorem rz_bipush_108 {ret : Option FieldType} {ln a b j pc : Nat} {cv : Value} {L : rz_L} {st : List Value} {w : rz_W} : rz_stp ret (.bipush (108), ln, a, b, j, cv) pc L st w = some (.inl (pc + 2, L, .int (zI (108)) :: st, w)) := by
  have h : (Int8.ofInt (108)).toInt32 = zI (108) := by decide
  simp only [rz_stp, rz_alu, h, rz_ln]
theorem rz_bipush_109 {ret : Option FieldType} {ln a b j pc : Nat} {cv : Value} {L : rz_L} {st : List Value} {w : rz_W} : rz_stp ret (.bipush (109), ln, a, b, j, cv) pc L st w = some (.inl (pc + 2, L, .int (zI (109)) :: st, w)) := by
  have h : (Int8.ofInt (109)).toInt32 = zI (109) := by decide
  simp only [rz_stp, rz_alu, h, rz_ln]
theorem rz_bipush_110 {ret : Option FieldType} {ln a b j pc : Nat} {cv : Value} {L : rz_L} {st : List Value} {w : rz_W} : rz_stp ret (.bipush (110), ln, a, b, j, cv) pc L st w = some (.inl (pc + 2, L, .int (zI (110)) :: st, w)) := by
  have h : (Int8.ofInt (110)).toInt32 = zI (110) := by decide
  simp only [rz_stp, rz_alu, h, rz_ln]
theorem rz_bipush_111 {ret : Option FieldType} {ln a b j pc : Nat} {cv : Value} {L : rz_L} {st : List Value} {w : rz_W} : rz_stp ret (.bipush (111), ln, a, b, j, cv) pc L st w = some (.inl (pc + 2, L, .int (zI (111)) :: st, w)) := by
  have h : (Int8.ofInt (111)).toInt32 = zI (111) := by decide
  simp only [rz_stp, rz_alu, h, rz_ln]
theorem rz_bipush_112 {ret : Option FieldType} {ln a b j pc : Nat} {cv : Value} {L : rz_L} {st : List Value} {w : rz_W} : rz_stp ret (.bipush (112), ln, a, b, j, cv) pc L st w = some (.inl (pc + 2, L, .int (zI (112)) :: st, w)) := by
  have h : (Int8.ofInt (112)).toInt32 = zI (112) := by decide
  simp only [rz_stp, rz_alu, h, rz_ln]
theorem rz_bipush_114 {ret : Option FieldType} {ln a b j pc : Nat} {cv : Value} {L : rz_L} {st : List Value} {w : rz_W} : rz_stp ret (.bipush (114), ln, a, b, j, cv) pc L st w = some (.inl (pc + 2, L, .int (zI (114)) :: st, w)) := by
  have h : (Int8.ofInt (114)).toInt32 = zI (114) := by decide
  simp only [rz_stp, rz_alu, h, rz_ln]
theorem rz_bipush_115 {ret : Option FieldType} {ln a b j pc : Nat} {cv : Value} {L : rz_L} {st : List Value} {w : rz_W} : rz_stp ret (.bipush (115), ln, a, b, j, cv) pc L st w = some (.inl (pc + 2, L, .int (zI (115)) :: st, w)) := by
  have h : (Int8.ofInt (115)).toInt32 = zI (115) := by decide
  simp only [rz_stp, rz_alu, h, rz_ln]
theorem rz_bipush_116 {ret : Option FieldType} {ln a b j pc : Nat} {cv : Value} {L : rz_L} {st : List Value} {w : rz_W} : rz_stp ret (.bipush (116), ln, a, b, j, cv) pc L st w = some (.inl (pc + 2, L, .int (zI (116)) :: st, w)) := by
  have h : (Int8.ofInt (116)).toInt32 = zI (116) := by decide
  simp only [rz_stp, rz_alu, h, rz_ln]
theorem rz_bipush_117 {ret : Option FieldType} {ln a b j pc : Nat} {cv : Value} {L : rz_L} {st : List Value} {w : rz_W} : rz_stp ret (.bipush (117), ln, a, b, j, cv) pc L st w = some (.inl (pc + 2, L, .int (zI (117)) :: st, w)) := by
  have h : (Int8.ofInt (117)).toInt32 = zI (117) := by decide
  simp only [rz_stp, rz_alu, h, rz_ln]
theorem rz_bipush_119 {ret : Option FieldType} {ln a b j pc : Nat} {cv : Value} {L : rz_L} {st : List Value} {w : rz_W} : rz_stp ret (.bipush (119), ln, a, b, j, cv) pc L st w = some (.inl (pc + 2, L, .int (zI (119)) :: st, w)) := by
  have h : (Int8.ofInt (119)).toInt32 = zI (119) := by decide
  simp only [rz_stp, rz_alu, h, rz_ln]
theorem rz_bipush_122 {ret : Option FieldType} {ln a b j pc : Nat} {cv : Value} {L : rz_L} {st : List Value} {w : rz_W} : rz_stp ret (.bipush (122), ln, a, b, j, cv) pc L st w = some (.inl (pc + 2, L, .int (zI (122)) :: st, w)) := by
  have h : (Int8.ofInt (122)).toInt32 = zI (122) := by decide
  simp only [rz_stp, rz_alu, h, rz_ln]
theorem rz_sipush_255 {ret : Option FieldType} {ln a b j pc : Nat} {cv : Value} {L : rz_L} {st : List Value} {w : rz_W} : rz_stp ret (.sipush (255), ln, a, b, j, cv) pc L st w = some (.inl (pc + 3, L, .int (zI (255)) :: st, w)) := by
  have h : (Int16.ofInt (255)).toInt32 = zI (255) := by decide
  simp only [rz_stp, rz_alu, h, rz_ln]
theorem rz_sipush_256 {ret : Option FieldType} {ln a b j pc : Nat} {cv : Value} {L : rz_L} {st : List Value} {w : rz_W} : rz_stp ret (.sipush (256), ln, a, b, j, cv) pc L st w = some (.inl (pc + 3, L, .int (zI (256)) :: st, w)) := by
  have h : (Int16.ofInt (256)).toInt32 = zI (256) := by decide
  simp only [rz_stp, rz_alu, h, rz_ln]
theorem rz_sipush_300 {ret : Option FieldType} {ln a b j pc : Nat} {cv : Value} {L : rz_L} {st : List Value} {w : rz_W} : rz_stp ret (.sipush (300), ln, a, b, j, cv) pc L st w = some (.inl (pc + 3, L, .int (zI (300)) :: st, w)) := by
  have h : (Int16.ofInt (300)).toInt32 = zI (300) := by decide
  simp only [rz_stp, rz_alu, h, rz_ln]
theorem rz_sipush_4096 {ret : Option FieldType} {ln a b j pc : Nat} {cv : Value} {L : rz_L} {st : List Value} {w : rz_W} : rz_stp ret (.sipush (4096), ln, a, b, j, cv) pc L st w = some (.inl (pc + 3, L, .int (zI (4096)) :: st, w)) := by
  have h : (Int16.ofInt (4096)).toInt32 = zI (4096) := by decide
  simp only [rz_stp, rz_alu, h, rz_ln]
theorem rz_sipush_4608 {ret : Option FieldType} {ln a b j pc : Nat} {cv : Value} {L : rz_L} {st : List Value} {w : rz_W} : rz_stp ret (.sipush (4608), ln, a, b, j, cv) pc L st w = some (.inl (pc + 3, L, .int (zI (4608)) :: st, w)) := by
  have h : (Int16.ofInt (4608)).toInt32 = zI (4608) := by decide
  simp only [rz_stp, rz_alu, h, rz_ln]
theorem rz_sipush_12345 {ret : Option FieldType} {ln a b j pc : Nat} {cv : Value} {L : rz_L} {st : List Value} {w : rz_W} : rz_stp ret (.sipush (12345), ln, a, b, j, cv) pc L st w = some (.inl (pc + 3, L, .int (zI (12345)) :: st, w)) := by
  have h : (Int16.ofInt (12345)).toInt32 = zI (12345) := by decide
  simp only [rz_stp, rz_alu, h, rz_ln]
abbrev iP_setAtFirst : Nat := 0
abbrev iP_numberOf : Nat := 1
abbrev iP_lawOf : Nat := 2
abbrev iP_cellsThatAre : Nat := 3
abbrev iP_mapSteps : Nat := 4
abbrev iP_mapStepsFrom : Nat := 5
abbrev iP_reach : Nat := 6
abbrev iP_leadsTo : Nat := 7
abbrev iP_mayBits : Nat := 8
abbrev iP_fateOn : Nat := 9
abbrev iP_solidCells : Nat := 10
abbrev iP_safeWithin : Nat := 11
abbrev iP_staysWithin : Nat := 12
abbrev iR_begin : Nat := 13
abbrev iR_setHomes : Nat := 14
abbrev iR_cellIn : Nat := 15
abbrev iR_leftIn : Nat := 16
abbrev iR_tellerIn : Nat := 17
abbrev iR_withCell : Nat := 18
abbrev iR_withRefusals : Nat := 19
abbrev iR_changedMen : Nat := 20
abbrev iR_wants : Nat := 21
abbrev iR_valueIn : Nat := 22
abbrev iR_placeOf : Nat := 23
abbrev iR_mostFrom : Nat := 24
abbrev iR_afterTold : Nat := 25
abbrev iR_isBetterRefused : Nat := 26
abbrev iR_afterRefused : Nat := 27
abbrev iR_afterDone : Nat := 28
abbrev iS_append : Nat := 29
abbrev iS_drop : Nat := 30
abbrev iS_readInto : Nat := 31
abbrev iS_byteAt : Nat := 32
abbrev iS_isLetter : Nat := 33
abbrev iS_isDigit : Nat := 34
abbrev iS_nextToken : Nat := 35
abbrev iS_takeWord : Nat := 36
abbrev iS_takeNumber : Nat := 37
abbrev iS_itemNamed : Nat := 38
abbrev iS_spells : Nat := 39
abbrev iS_isTaken : Nat := 40
abbrev iS_isBegun : Nat := 41
abbrev iS_isNumberTaken : Nat := 42
abbrev iS_isAllowed : Nat := 43
abbrev iS_isDirectionTold : Nat := 44
abbrev iS_isPlace : Nat := 45
abbrev iS_isGround : Nat := 46
abbrev iS_isEnded : Nat := 47
abbrev iS_numbersOf : Nat := 48
abbrev iS_apply : Nat := 49
abbrev iS_applyLaw : Nat := 50
abbrev iW_start : Nat := 51
abbrev iW_copyFrom : Nat := 52
abbrev iW_toldMan : Nat := 53
abbrev iW_mayOf : Nat := 54
abbrev iW_doStep : Nat := 55
abbrev iW_doPass : Nat := 56
abbrev iW_goOn : Nat := 57
abbrev iW_doRefusal : Nat := 58
abbrev iW_won : Nat := 59
abbrev iW_draw : Nat := 60
abbrev iW_key : Nat := 61
abbrev iO_type : Nat := 62
abbrev iO_clear : Nat := 63
abbrev iO_board : Nat := 64
abbrev iO_cell : Nat := 65
abbrev iO_law : Nat := 66
abbrev iO_man : Nat := 67
abbrev iO_tell : Nat := 68
abbrev iO_refuse : Nat := 69
abbrev iO_pass : Nat := 70
abbrev iO_now : Nat := 71
abbrev iO_anew : Nat := 72
abbrev iO_safe : Nat := 73
abbrev iO_safest : Nat := 74
abbrev iO_value : Nat := 75
abbrev iO_best : Nat := 76
abbrev iO_refuses : Nat := 77
abbrev iO_worth : Nat := 78
abbrev iO_bag : Nat := 79
abbrev iO_fairest : Nat := 80
abbrev iO_even : Nat := 81
abbrev iO_rounds : Nat := 82
abbrev iO_lot : Nat := 83
abbrev iO_rate : Nat := 84
abbrev iO_keep : Nat := 85
abbrev iO_back : Nat := 86
abbrev iO_count : Nat := 87
abbrev iO_trace : Nat := 88
abbrev iO_whyNotTold : Nat := 89
abbrev iO_mayBeRefused : Nat := 90
abbrev iO_ahead : Nat := 91
abbrev iO_reckonAsItIs : Nat := 92
abbrev iO_valueAsItIs : Nat := 93
abbrev iO_valueByLaws : Nat := 94
abbrev iO_valueFrom : Nat := 95
abbrev iO_isFair : Nat := 96
abbrev iO_walkedByLot : Nat := 97
abbrev iO_rateStep : Nat := 98
abbrev iO_rateTold : Nat := 99
abbrev iO_rateRung : Nat := 100
abbrev iO_rateRefused : Nat := 101
abbrev iO_rateFatal : Nat := 102
abbrev iO_ratePassed : Nat := 103
abbrev iO_imageOf : Nat := 104
abbrev iO_isBelow : Nat := 105
abbrev iO_at : Nat := 106
abbrev iO_put : Nat := 107
abbrev iO_hasBit : Nat := 108
abbrev iO_withoutBit : Nat := 109
abbrev iO_bitOfRank : Nat := 110
abbrev iM_in : Nat := 111
abbrev iM_type : Nat := 112
abbrev iM_clear : Nat := 113
abbrev iM_byteAt : Nat := 114
abbrev iM_add : Nat := 115
abbrev iM_named : Nat := 116
abbrev iM_wordOf : Nat := 117
abbrev iM_advances : Nat := 118
abbrev iM_isWell : Nat := 119
abbrev iM_takes : Nat := 120
abbrev iM_number : Nat := 121
abbrev iM_drafts : Nat := 122
abbrev iM_readsLaw : Nat := 123
abbrev iM_readsMan : Nat := 124
abbrev iM_readsItem : Nat := 125
abbrev iM_board : Nat := 126
abbrev iM_adopts : Nat := 127
abbrev iM_begins : Nat := 128
abbrev iM_cells : Nat := 129
abbrev iM_cell : Nat := 130
abbrev iM_law : Nat := 131
abbrev iM_asTold : Nat := 132
abbrev iM_aside : Nat := 133
abbrev iM_leads : Nat := 134
abbrev iM_mayBe : Nat := 135
abbrev iM_mayNow : Nat := 136
abbrev iM_man : Nat := 137
abbrev iM_mayTell : Nat := 138
abbrev iM_refusal : Nat := 139
abbrev iM_counts : Nat := 140
abbrev iM_tell : Nat := 141
abbrev iM_ones : Nat := 142
abbrev iM_mayRefuse : Nat := 143
abbrev iM_refuse : Nat := 144
abbrev iM_pass : Nat := 145
abbrev iM_now : Nat := 146
abbrev iM_anew : Nat := 147
abbrev iM_safeIn : Nat := 148
abbrev iM_safe : Nat := 149
abbrev iM_safest : Nat := 150
abbrev iM_positionOf : Nat := 151
abbrev iM_after : Nat := 152
abbrev iM_better : Nat := 153
abbrev iM_bestOf : Nat := 154
abbrev iM_looks : Nat := 155
abbrev iM_told : Nat := 156
abbrev iM_valueOf : Nat := 157
abbrev iM_reckons : Nat := 158
abbrev iM_stepsIn : Nat := 159
abbrev iM_valueIn : Nat := 160
abbrev iM_valueNow : Nat := 161
abbrev iM_value : Nat := 162
abbrev iM_best : Nat := 163
abbrev iM_refuses : Nat := 164
abbrev iM_worth : Nat := 165
abbrev iM_bagOf : Nat := 166
abbrev iM_isLaw : Nat := 167
abbrev iM_bag : Nat := 168
abbrev iM_fairest : Nat := 169
abbrev iM_even : Nat := 170
abbrev iM_walks : Nat := 171
abbrev iM_rounds : Nat := 172
abbrev iM_lot : Nat := 173
abbrev iM_rate : Nat := 174
abbrev iM_keep : Nat := 175
abbrev iM_back : Nat := 176
abbrev iM_count : Nat := 177
abbrev iM_trace : Nat := 178
abbrev iJI_bitCount : Nat := 179
abbrev iJS_length : Nat := 180
abbrev iJS_charAt : Nat := 181
abbrev iJS_coder : Nat := 182
abbrev iJS_isLatin1 : Nat := 183
abbrev iJS_checkIndex : Nat := 184
abbrev iJL_charAt : Nat := 185
abbrev iJP_checkIndex : Nat := 186
