-- A small machine over numbered cells ("handles"): what it says, the JVM does (04.sound).
/-- a cell: an array of ints (0), booleans (1), bytes (2), or an object of a class, its fields in order -/
abbrev rz_C : Type := (Nat × Nat × (Nat → Int32)) ⊕ (Nat × List Value)
abbrev rz_W : Type := Nat → rz_C
/-- an instruction, its length, a, b, the word's place, a constant -/
abbrev rz_I : Type := Instr × Nat × Nat × Nat × Nat × Value
abbrev rz_O : Type := Option Value × rz_W
abbrev rz_L : Type := List (Option Value)
/-- goes on | returns | calls (method, arguments, the stack's rest) -/
abbrev rz_R : Type := (Nat × rz_L × List Value × rz_W) ⊕ (rz_O ⊕ (Nat × List Value × List Value))
def rz_up (w : rz_W) (h : Nat) (c : rz_C) : rz_W := fun j => if j = h then c else w j
def rz_fld (w : rz_W) (h ci k : Nat) : Option Value := match w h with
  | .inr (c, fs) => if c = ci then fs[k]? else none
  | .inl _ => none
def rz_kindOk (ty : FieldType) (v : Value) : Bool := match ty, v with
  | .int, .int _ => true
  | .long, .long _ => true
  | .object _, .ref _ => true
  | _, _ => false
def rz_put (w : rz_W) (h ci k : Nat) (v : Value) : Option rz_W := match w h with
  | .inr (c, fs) => if c = ci ∧ k < fs.length ∧ h < 1000 then some (rz_up w h (.inr (c, fs.set k v))) else none
  | .inl _ => none
def rz_ald (w : rz_W) (h t : Nat) (i : Int32) : Option Int32 := match w h with
  | .inl (t', n, f) => if t' = t ∧ ¬ (i < 0 ∨ n ≤ i.toNatClampNeg) then some (f i.toNatClampNeg) else none
  | .inr _ => none
def rz_ast (w : rz_W) (h t : Nat) (i : Int32) (x : Int32) : Option rz_W := match w h with
  | .inl (t', n, f) => if t' = t ∧ ¬ (i < 0 ∨ n ≤ i.toNatClampNeg) ∧ h < 1000 then some (rz_up w h (.inl (t', n, upd f i.toNatClampNeg x))) else none
  | .inr _ => none
def rz_len (w : rz_W) (h : Nat) : Option Int32 := match w h with
  | .inl (_, n, _) => some (Int32.ofNat n)
  | .inr _ => none
def rz_lod (L : rz_L) (i : Nat) : Option Value := match L[i]? with
  | some (some v) => some v
  | _ => none
def rz_clr : Option Value → Option Value
  | some (.long _) => none
  | some (.double _) => none
  | o => o
/-- a store of a value of one word: a long just below it is gone -/
def rz_set1 : rz_L → Nat → Value → rz_L
  | [], _, _ => []
  | _ :: t, 0, v => some v :: t
  | a :: t, i + 1, v => (if i = 0 then rz_clr a else a) :: rz_set1 t i v
def rz_set2 (L : rz_L) (i : Nat) (v : Value) : rz_L := (rz_set1 L i v).set (i + 1) none
def rz_bt (c : ClassFile.Cond) (x y : Int32) : Bool := match c with
  | .eq => decide (x = y)
  | .ne => decide (¬ x = y)
  | .lt => decide (x < y)
  | .ge => decide (y ≤ x)
  | .gt => decide (y < x)
  | .le => decide (x ≤ y)
def rz_cat1 (v : Value) : Bool := match v with
  | .long _ => false
  | .double _ => false
  | _ => true
/-- instructions that touch the stack alone -/
def rz_alu (i : Instr) (st : List Value) : Option (List Value) := match i, st with
  | .iconst n, r => some (.int (Int32.ofInt n) :: r)
  | .bipush n, r => some (.int (Int8.ofInt n).toInt32 :: r)
  | .sipush n, r => some (.int (Int16.ofInt n).toInt32 :: r)
  | .lconst n, r => some (.long (Int64.ofNat (n : Nat)) :: r)
  | .iadd, .int y :: .int x :: r => some (.int (x + y) :: r)
  | .isub, .int y :: .int x :: r => some (.int (x - y) :: r)
  | .imul, .int y :: .int x :: r => some (.int (x * y) :: r)
  | .iand, .int y :: .int x :: r => some (.int (x &&& y) :: r)
  | .ior, .int y :: .int x :: r => some (.int (x ||| y) :: r)
  | .ixor, .int y :: .int x :: r => some (.int (x ^^^ y) :: r)
  | .idiv, .int y :: .int x :: r => if y = 0 then none else some (.int (x / y) :: r)
  | .irem, .int y :: .int x :: r => if y = 0 then none else some (.int (x - x / y * y) :: r)
  | .ineg, .int x :: r => some (.int (-x) :: r)
  | .ishl, .int y :: .int x :: r => some (.int (x <<< (y &&& 31)) :: r)
  | .ishr, .int y :: .int x :: r => some (.int (x >>> (y &&& 31)) :: r)
  | .iushr, .int y :: .int x :: r => some (.int ((x.toUInt32 >>> (y.toUInt32 &&& Int32.toUInt32 31)).toInt32) :: r)
  | .i2l, .int x :: r => some (.long x.toInt64 :: r)
  | .l2i, .long x :: r => some (.int x.toInt32 :: r)
  | .i2c, .int x :: r => some (.int (x.toUInt32 % 65536).toInt32 :: r)
  | .ladd, .long y :: .long x :: r => some (.long (x + y) :: r)
  | .lmul, .long y :: .long x :: r => some (.long (x * y) :: r)
  | .land, .long y :: .long x :: r => some (.long (x &&& y) :: r)
  | .lor, .long y :: .long x :: r => some (.long (x ||| y) :: r)
  | .lshl, .int y :: .long x :: r => some (.long (x <<< (y.toInt64 &&& 63)) :: r)
  | .lshr, .int y :: .long x :: r => some (.long (x >>> (y.toInt64 &&& 63)) :: r)
  | .lushr, .int y :: .long x :: r => some (.long ((x.toUInt64 >>> (y.toInt64.toUInt64 &&& Int64.toUInt64 63)).toInt64) :: r)
  | .lcmp, .long y :: .long x :: r => some (.int (lg_cmp x y) :: r)
  | .dup, v :: r => if rz_cat1 v then some (v :: v :: r) else none
  | .dup2, v :: u :: r => if rz_cat1 v && rz_cat1 u then some (v :: u :: v :: u :: r) else none
  | .pop, v :: r => if rz_cat1 v then some r else none
  | _, _ => none
/-- an instruction's length -/
def rz_ln (e : rz_I) : Nat := match e.1 with
  | .tableswitch _ _ _ _ => e.2.1
  | .bipush _ => 2
  | .sipush _ => 3
  | .iload _ => 2
  | .istore _ => 2
  | .iinc _ _ => 3
  | .ldc _ => 2
  | .ldc_w _ => 3
  | .ldc2_w _ => 3
  | .getstatic _ => 3
  | .goto _ => 3
  | .ifCond _ _ => 3
  | .if_icmp _ _ => 3
  | .getfield _ => 3
  | .putfield _ => 3
  | .invokevirtual _ => 3
  | .invokestatic _ => 3
  | _ => 1
/-- what a stack weighs -/
def rz_cs (st : List Value) : Nat := (st.map fun v => v.category).sum
def rz_clsOf (w : rz_W) (h : Nat) : Option Nat := match w h with
  | .inr (c, _) => some c
  | .inl _ => none
def rz_sw (pc : Nat) (dflt lo hi : Int) (offs : Array Int) (x : Int32) : Option Nat :=
  match (if x.toInt < lo ∨ hi < x.toInt then some dflt else offs[(x.toInt - lo).toNat]?) with
  | some o => if 0 ≤ (pc : Int) + o then some ((pc : Int) + o).toNat else none
  | none => none
/-- the fields of our classes that may be written outside constructors, by their kinds -/
def rz_finOk (ci k : Nat) (v : Value) : Bool := match vwCl[ci]? with
  | some (_, T, N) => decide (k < N) && (!(T k).2.2.2) && (match parseFieldDescriptor (T k).2.2.1 with | some ty => rz_kindOk ty v | none => false)
  | none => false
/-- one step -/
def rz_stp (ret : Option FieldType) (e : rz_I) (pc : Nat) (L : rz_L) (st : List Value) (w : rz_W) : Option rz_R :=
  match e with
  | (.iload i, _) => match rz_lod L i with | some (.int x) => some (.inl (pc + 2, L, .int x :: st, w)) | _ => none
  | (.iload_n i, _) => match rz_lod L i.val with | some (.int x) => some (.inl (pc + 1, L, .int x :: st, w)) | _ => none
  | (.lload_n i, _) => match rz_lod L i.val with | some (.long x) => some (.inl (pc + 1, L, .long x :: st, w)) | _ => none
  | (.aload_n i, _) => match rz_lod L i.val with | some (.ref x) => some (.inl (pc + 1, L, .ref x :: st, w)) | _ => none
  | (.istore i, _) => match st with | .int x :: r => if i < L.length then some (.inl (pc + 2, rz_set1 L i (.int x), r, w)) else none | _ => none
  | (.istore_n i, _) => match st with | .int x :: r => if i.val < L.length then some (.inl (pc + 1, rz_set1 L i.val (.int x), r, w)) else none | _ => none
  | (.lstore_n i, _) => match st with | .long x :: r => if i.val + 1 < L.length then some (.inl (pc + 1, rz_set2 L i.val (.long x), r, w)) else none | _ => none
  | (.astore_n i, _) => match st with | .ref x :: r => if i.val < L.length then some (.inl (pc + 1, rz_set1 L i.val (.ref x), r, w)) else none | _ => none
  | (.iinc i n, _) => match rz_lod L i with | some (.int x) => if i < L.length then some (.inl (pc + 3, rz_set1 L i (.int (x + Int32.ofInt n)), st, w)) else none | _ => none
  | (.ldc _, _, _, _, _, v) => some (.inl (pc + 2, L, v :: st, w))
  | (.ldc_w _, _, _, _, _, v) => some (.inl (pc + 3, L, v :: st, w))
  | (.ldc2_w _, _, _, _, _, v) => some (.inl (pc + 3, L, v :: st, w))
  | (.getstatic _, _, _, _, _, v) => some (.inl (pc + 3, L, v :: st, w))
  | (.goto _, _, a, _) => some (.inl (a, L, st, w))
  | (.ifCond c _, _, a, _) => match st with | .int x :: r => some (.inl ((if rz_bt c x 0 = true then a else pc + 3), L, r, w)) | _ => none
  | (.if_icmp c _, _, a, _) => match st with | .int y :: .int x :: r => some (.inl ((if rz_bt c x y = true then a else pc + 3), L, r, w)) | _ => none
  | (.tableswitch d lo hi offs, _) => match st with | .int x :: r => (match rz_sw pc d lo hi offs x with | some t => some (.inl (t, L, r, w)) | none => none) | _ => none
  | (.getfield _, _, a, b, _) => match st with | .ref h :: r => (match rz_fld w h a b with | some v => some (.inl (pc + 3, L, v :: r, w)) | none => none) | _ => none
  | (.putfield _, _, a, b, _) => match st with | v :: .ref h :: r => (if rz_finOk a b v = true then (match rz_put w h a b v with | some w' => some (.inl (pc + 3, L, r, w')) | none => none) else none) | _ => none
  | (.iaload, _) => match st with | .int i :: .ref h :: r => (match rz_ald w h 0 i with | some x => some (.inl (pc + 1, L, .int x :: r, w)) | none => none) | _ => none
  | (.iastore, _) => match st with | .int x :: .int i :: .ref h :: r => (match rz_ast w h 0 i x with | some w' => some (.inl (pc + 1, L, r, w')) | none => none) | _ => none
  | (.baload, _, a, _) => match st with | .int i :: .ref h :: r => (match rz_ald w h (if h < 1000 then 1 else 2) i with | some x => some (.inl (pc + 1, L, .int x :: r, w)) | none => none) | _ => none
  | (.bastore, _) => match st with | .int x :: .int i :: .ref h :: r => (match rz_ast w h 1 i (vp_nar .boolean x) with | some w' => some (.inl (pc + 1, L, r, w')) | none => none) | _ => none
  | (.arraylength, _) => match st with | .ref h :: r => (match rz_len w h with | some x => some (.inl (pc + 1, L, .int x :: r, w)) | none => none) | _ => none
  | (.invokevirtual _, _, a, b, _, v) => if b ≤ st.length ∧ rz_cs (st.drop b) ≤ 8 then (match (st.take b).reverse, v with
      | .ref h :: as, .retAddr ci => if rz_clsOf w h = some ci then some (.inr (.inr (a, .ref h :: as, st.drop b))) else none
      | _, _ => none) else none
  | (.invokestatic _, _, a, b, _) => if 10000 ≤ a then (match st with
      | .int y :: .int x :: r => if rz_cs r ≤ 8 then some (.inl (pc + 3, L, .int (if a = 10000 then (if x < y then y else x) else (if y < x then y else x)) :: r, w)) else none
      | _ => none)
    else if b ≤ st.length ∧ rz_cs (st.drop b) ≤ 8 then some (.inr (.inr (a, (st.take b).reverse, st.drop b))) else none
  | (.ireturn, _) => match st with | [.int x] => (match ret with | some ty => if narrow ty (.int x) = .int x then some (.inr (.inl (some (.int x), w))) else none | none => none) | _ => none
  | (.lreturn, _) => match st with | [.long x] => if ret = some .long then some (.inr (.inl (some (.long x), w))) else none | _ => none
  | (.areturn, _) => match st with | [.ref x] => (match ret with | some (.object _) => some (.inr (.inl (some (.ref x), w))) | _ => none) | _ => none
  | (.return_, _) => match st with | [] => if ret = none then some (.inr (.inl (none, w))) else none | _ => none
  | (i, _) => match rz_alu i st with | some st' => some (.inl (pc + rz_ln e, L, st', w)) | none => none
def rz_run (K : Nat → List Value → rz_W → Option rz_O) (C : Nat → Option rz_I) (ret : Option FieldType) : Nat → Nat → rz_L → List Value → rz_W → Option rz_O
  | 0, _, _, _, _ => none
  | n + 1, pc, L, st, w => match C pc with
    | none => none
    | some e => match rz_stp ret e pc L st w with
      | none => none
      | some (.inl (pc', L', st', w')) => rz_run K C ret n pc' L' st' w'
      | some (.inr (.inl o)) => some o
      | some (.inr (.inr (i, as, r))) => match K i as w with
        | none => none
        | some (v, w') => rz_run K C ret n (pc + 3) L (v.toList ++ r) w'
theorem rz_run_mono {K : Nat → List Value → rz_W → Option rz_O} {C : Nat → Option rz_I} {ret : Option FieldType} : ∀ (n pc : Nat) (L : rz_L) (st : List Value) (w : rz_W) (o : rz_O), rz_run K C ret n pc L st w = some o → rz_run K C ret (n + 1) pc L st w = some o := by
  intro n
  induction n with
  | zero => intro pc L st w o h; cases h
  | succ n ih =>
    intro pc L st w o h
    rw [rz_run] at h ⊢
    cases hC : C pc with
    | none => rw [hC] at h; cases h
    | some e =>
      rw [hC] at h
      dsimp only at h ⊢
      cases hs : rz_stp ret e pc L st w with
      | none => rw [hs] at h; cases h
      | some q =>
        rw [hs] at h
        rcases q with ⟨pc', L', st', w'⟩ | o' | ⟨i, as, r⟩
        · exact ih _ _ _ _ _ h
        · exact h
        · dsimp only at h ⊢
          cases hK : K i as w with
          | none => rw [hK] at h; cases h
          | some z => rw [hK] at h; exact ih _ _ _ _ _ h
theorem rz_run_add {K : Nat → List Value → rz_W → Option rz_O} {C : Nat → Option rz_I} {ret : Option FieldType} {n pc : Nat} {L : rz_L} {st : List Value} {w : rz_W} {o : rz_O} (h : rz_run K C ret n pc L st w = some o) : ∀ k, rz_run K C ret (n + k) pc L st w = some o := by
  intro k
  induction k with
  | zero => exact h
  | succ k ih => exact rz_run_mono _ _ _ _ _ _ ih
theorem rz_run_fun {K : Nat → List Value → rz_W → Option rz_O} {C : Nat → Option rz_I} {ret : Option FieldType} {n k pc : Nat} {L : rz_L} {st : List Value} {w : rz_W} {o o' : rz_O} (h : rz_run K C ret n pc L st w = some o) (h' : rz_run K C ret k pc L st w = some o') : o = o' := by
  have h1 := rz_run_add h k
  have h2 := rz_run_add h' n
  rw [Nat.add_comm] at h2
  exact Option.some.inj (h1.symm.trans h2)
/-- what a run comes to, however long -/
noncomputable def rz_den (K : Nat → List Value → rz_W → Option rz_O) (C : Nat → Option rz_I) (ret : Option FieldType) (pc : Nat) (L : rz_L) (st : List Value) (w : rz_W) : Option rz_O :=
  @dite (Option rz_O) (∃ o, ∃ n, rz_run K C ret n pc L st w = some o) (Classical.propDecidable _) (fun h => some (Classical.choose h)) (fun _ => none)
theorem rz_den_iff {K : Nat → List Value → rz_W → Option rz_O} {C : Nat → Option rz_I} {ret : Option FieldType} {pc : Nat} {L : rz_L} {st : List Value} {w : rz_W} {o : rz_O} : rz_den K C ret pc L st w = some o ↔ ∃ n, rz_run K C ret n pc L st w = some o := by
  unfold rz_den
  constructor
  · intro h
    split at h
    · rename_i q
      have e := Option.some.inj h
      rw [← e]
      exact Classical.choose_spec q
    · cases h
  · intro ⟨n, h⟩
    have q : ∃ o, ∃ n, rz_run K C ret n pc L st w = some o := ⟨o, n, h⟩
    rw [dif_pos q]
    obtain ⟨k, hk⟩ := Classical.choose_spec q
    rw [rz_run_fun hk h]
theorem rz_den_ext {K : Nat → List Value → rz_W → Option rz_O} {C : Nat → Option rz_I} {ret : Option FieldType} {pc : Nat} {L : rz_L} {st : List Value} {w : rz_W} {x : Option rz_O} (h : ∀ o, (∃ n, rz_run K C ret n pc L st w = some o) ↔ x = some o) : rz_den K C ret pc L st w = x := by
  cases hx : x with
  | none =>
    cases hd : rz_den K C ret pc L st w with
    | none => rfl
    | some o =>
      have := (h o).mp (rz_den_iff.mp hd)
      rw [hx] at this
      cases this
  | some o => exact rz_den_iff.mpr ((h o).mpr hx)
theorem rz_den_next {K : Nat → List Value → rz_W → Option rz_O} {C : Nat → Option rz_I} {ret : Option FieldType} {e : rz_I} {pc pc' : Nat} {L L' : rz_L} {st st' : List Value} {w w' : rz_W} (hC : C pc = some e) (hs : rz_stp ret e pc L st w = some (.inl (pc', L', st', w'))) : rz_den K C ret pc L st w = rz_den K C ret pc' L' st' w' := by
  refine rz_den_ext fun o => ?_
  rw [rz_den_iff]
  constructor
  · intro ⟨n, h⟩
    cases n with
    | zero => cases h
    | succ n =>
      rw [rz_run, hC] at h
      dsimp only at h
      rw [hs] at h
      exact ⟨n, h⟩
  · intro ⟨n, h⟩
    refine ⟨n + 1, ?_⟩
    rw [rz_run, hC]
    dsimp only
    rw [hs]
    exact h
theorem rz_den_ret {K : Nat → List Value → rz_W → Option rz_O} {C : Nat → Option rz_I} {ret : Option FieldType} {e : rz_I} {pc : Nat} {L : rz_L} {st : List Value} {w : rz_W} {o : rz_O} (hC : C pc = some e) (hs : rz_stp ret e pc L st w = some (.inr (.inl o))) : rz_den K C ret pc L st w = some o := by
  refine rz_den_iff.mpr ⟨1, ?_⟩
  rw [rz_run, hC]
  dsimp only
  rw [hs]
theorem rz_den_none {K : Nat → List Value → rz_W → Option rz_O} {C : Nat → Option rz_I} {ret : Option FieldType} {e : rz_I} {pc : Nat} {L : rz_L} {st : List Value} {w : rz_W} (hC : C pc = some e) (hs : rz_stp ret e pc L st w = none) : rz_den K C ret pc L st w = none := by
  refine rz_den_ext fun o => ?_
  constructor
  · intro ⟨n, h⟩
    cases n with
    | zero => cases h
    | succ n =>
      rw [rz_run, hC] at h
      dsimp only at h
      rw [hs] at h
      cases h
  · intro h
    cases h
theorem rz_den_call {K : Nat → List Value → rz_W → Option rz_O} {C : Nat → Option rz_I} {ret : Option FieldType} {e : rz_I} {pc i : Nat} {L : rz_L} {st as r : List Value} {w : rz_W} (hC : C pc = some e) (hs : rz_stp ret e pc L st w = some (.inr (.inr (i, as, r)))) : rz_den K C ret pc L st w = (K i as w).bind fun q => rz_den K C ret (pc + 3) L (q.1.toList ++ r) q.2 := by
  refine rz_den_ext fun o => ?_
  constructor
  · intro ⟨n, h⟩
    cases n with
    | zero => cases h
    | succ n =>
      rw [rz_run, hC] at h
      dsimp only at h
      rw [hs] at h
      dsimp only at h
      cases hK : K i as w with
      | none => rw [hK] at h; cases h
      | some z =>
        rw [hK] at h
        exact rz_den_iff.mpr ⟨n, h⟩
  · intro h
    cases hK : K i as w with
    | none => rw [hK] at h; cases h
    | some z =>
      rw [hK] at h
      obtain ⟨n, hn⟩ := rz_den_iff.mp h
      refine ⟨n + 1, ?_⟩
      rw [rz_run, hC]
      dsimp only
      rw [hs]
      dsimp only
      rw [hK]
      exact hn
/-- the locals at a method's start -/
def rz_inj : List Value → rz_L
  | [] => []
  | v :: t => if v.category = 2 then some v :: none :: rz_inj t else some v :: rz_inj t
def rz_ini (n : Nat) (as : List Value) : rz_L := rz_inj as ++ List.replicate (n - (rz_inj as).length) none
def rz_at : List (Nat × rz_I) → Nat → Option rz_I
  | [], _ => none
  | (k, e) :: t, pc => if k = pc then some e else rz_at t pc
theorem rz_at_mem : ∀ {l : List (Nat × rz_I)} {pc : Nat} {e : rz_I}, rz_at l pc = some e → (pc, e) ∈ l := by
  intro l
  induction l with
  | nil => intro pc e h; cases h
  | cons q t ih =>
    obtain ⟨k, z⟩ := q
    intro pc e h
    rw [rz_at] at h
    by_cases hk : k = pc
    · rw [if_pos hk] at h
      cases h
      rw [hk]
      exact List.mem_cons_self
    · rw [if_neg hk] at h
      exact List.mem_cons_of_mem _ (ih h)
