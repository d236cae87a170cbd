-- numbers
theorem zI_toInt {a : Int} (h1 : -2147483648 ≤ a) (h2 : a < 2147483648) : (zI a).toInt = a := Int32.toInt_ofInt_of_le h1 (by omega)
theorem zI_of (x : Int32) : ∃ a : Int, x = zI a ∧ -2147483648 ≤ a ∧ a < 2147483648 := by
  refine ⟨x.toInt, (Int32.ofInt_toInt x).symm, ?_, ?_⟩
  · exact Int32.le_toInt x
  · have := Int32.toInt_le x
    have e : Int32.maxValue.toInt = 2147483647 := rfl
    omega
theorem zI_add (a b : Int) : zI a + zI b = zI (a + b) := (Int32.ofInt_add a b).symm
theorem zI_sub (a b : Int) : zI a - zI b = zI (a - b) := (Int32.ofInt_sub a b).symm
theorem zI_mul (a b : Int) : zI a * zI b = zI (a * b) := (Int32.ofInt_mul a b).symm
theorem zI_neg (a : Int) : -zI a = zI (-a) := (Int32.ofInt_neg a).symm
theorem zI_lt {a b : Int} (ha : -2147483648 ≤ a ∧ a < 2147483648) (hb : -2147483648 ≤ b ∧ b < 2147483648) : zI a < zI b ↔ a < b := by
  rw [Int32.lt_iff_toInt_lt, zI_toInt ha.1 ha.2, zI_toInt hb.1 hb.2]
theorem zI_le {a b : Int} (ha : -2147483648 ≤ a ∧ a < 2147483648) (hb : -2147483648 ≤ b ∧ b < 2147483648) : zI a ≤ zI b ↔ a ≤ b := by
  rw [Int32.le_iff_toInt_le, zI_toInt ha.1 ha.2, zI_toInt hb.1 hb.2]
theorem zI_eq {a b : Int} (ha : -2147483648 ≤ a ∧ a < 2147483648) (hb : -2147483648 ≤ b ∧ b < 2147483648) : zI a = zI b ↔ a = b := by
  constructor
  · intro h
    have := congrArg Int32.toInt h
    rwa [zI_toInt ha.1 ha.2, zI_toInt hb.1 hb.2] at this
  · intro h; rw [h]
theorem zI_clamp {a : Int} (h1 : 0 ≤ a) (h2 : a < 2147483648) : (zI a).toNatClampNeg = a.toNat := by
  show (zI a).toInt.toNat = a.toNat
  rw [zI_toInt (by omega) h2]
theorem zI_ofNat (n : Nat) : Int32.ofNat n = zI n := (Int32.ofInt_eq_ofNat (n := n)).symm
/-- 1 or 0 -/
def bZ (p : Prop) [Decidable p] : Int := if p then 1 else 0
theorem bZ_eq0 {p : Prop} [Decidable p] : (zI (bZ p) = zI 0) ↔ ¬ p := by
  unfold bZ
  by_cases h : p
  · simp only [if_pos h]; constructor
    · intro q; cases q
    · intro q; exact absurd h q
  · simp only [if_neg h]; exact ⟨fun _ => h, fun _ => trivial⟩
theorem bZ_01 {p : Prop} [Decidable p] : zI (bZ p) = zI 0 ∨ zI (bZ p) = zI 1 := by
  unfold bZ
  by_cases h : p
  · right; rw [if_pos h]
  · left; rw [if_neg h]
theorem z00 : (zI 0 = zI 0 ∨ zI 0 = zI 1) := Or.inl rfl
theorem z11 : (zI 1 = zI 0 ∨ zI 1 = zI 1) := Or.inr rfl
-- arrays of numbers
def aI (g : Nat → Int) : Nat → Int32 := fun j => zI (g j)
def zup (g : Nat → Int) (k : Nat) (v : Int) : Nat → Int := fun j => if j = k then v else g j
theorem aI_up (g : Nat → Int) (k : Nat) (v : Int) : upd (aI g) k (zI v) = aI (zup g k v) := by
  funext j
  unfold upd aI zup
  by_cases h : j = k
  · simp [h]
  · simp [h]
/-! the whole world out of numbers: groups of cells -/
abbrev zS : Type := Nat → Nat → Nat → Int
def sset (σ : zS) (g k : Nat) (f : Nat → Int) : zS := fun g' k' => if g' = g ∧ k' = k then f else σ g' k'
/-- where a group's object is -/
def bs (g : Nat) : Nat := ([0, 1, 4, 7, 10, 13, 16, 20, 30, 39, 48] : List Nat).getD g 900
/-- its class -/
def cx (g : Nat) : Nat := ([4, 2, 3, 3, 3, 3, 1, 0, 0, 0, 5] : List Nat).getD g 999
/-- where the array of a slot is -/
def ah (g k : Nat) : Nat := if g = 0 then 29 else if g = 10 then (if k = 2 then 49 else 41 + k) else bs g + 1 + k
def layP : List (Nat × Nat × Nat) := [(1, 16, 0), (1, 3, 0), (1, 3, 0), (1, 384, 0), (1, 2, 0), (1, 2, 0), (1, 2, 0), (1, 2, 0), (0, 0, 0), (0, 0, 0), (0, 0, 0)]
def layW : List (Nat × Nat × Nat) := [(1, 2, 0), (1, 2, 0), (0, 0, 0), (0, 0, 0), (0, 0, 0), (0, 0, 0), (0, 0, 0)]
def layS : List (Nat × Nat × Nat) := [(1, 300, 0), (1, 9, 0), (0, 0, 0), (0, 0, 0), (0, 0, 0), (0, 0, 0), (0, 0, 0), (0, 0, 0), (0, 0, 0), (0, 0, 0)]
def layR : List (Nat × Nat × Nat) := [(1, 18432, 0), (1, 2, 0), (1, 2, 0), (4, 0, 0), (0, 0, 0)]
def layO : List (Nat × Nat × Nat) := [(5, 0, 1), (5, 0, 2), (5, 0, 3), (5, 0, 4), (5, 0, 5), (5, 0, 6), (1, 9, 0), (4, 0, 0), (4, 0, 0), (0, 0, 0), (3, 0, 0)]
def layM : List (Nat × Nat × Nat) := [(0, 0, 0), (3, 0, 0), (1, 300, 0), (0, 0, 0), (0, 0, 0), (0, 0, 0), (0, 0, 0), (0, 0, 0), (0, 0, 0), (1, 66, 0), (1, 9, 0), (1, 18, 0), (2, 2, 0), (1, 4608, 0), (1, 4608, 0), (1, 2, 0), (1, 2, 0), (1, 8, 0), (1, 8, 0)]
/-- a group's slots: 0 an int, 1 an array of ints, 2 of booleans, 3 a long, 4 a group that changes, 5 a group; the length; the group -/
def lay (g : Nat) : List (Nat × Nat × Nat) := ([layO, layS, layW, layW, layW, layW, layR, layP, layP, layP, layM] : List (List (Nat × Nat × Nat))).getD g []
def gVal (σ : zS) (g k : Nat) (e : Nat × Nat × Nat) : Value := if e.1 = 0 then .int (zI (σ g k 0)) else if e.1 = 3 then .long (Int64.ofInt (σ g k 0)) else if e.1 = 4 then .ref (bs (σ g k 0).toNat) else if e.1 = 5 then .ref (bs e.2.2) else .ref (ah g k)
def gArr (σ : zS) (g k : Nat) (e : Nat × Nat × Nat) : rz_C := .inl (if e.1 = 2 then 1 else 0, e.2.1, aI (σ g k))
def gObj (σ : zS) (g : Nat) : rz_C := .inr (cx g, (lay g).mapIdx (fun k e => gVal σ g k e))
/-- what each cell is: a group's object (0), the array of a slot (k + 1) -/
def hTab : List (Nat × Nat) := [(0, 0), (1, 0), (1, 1), (1, 2), (2, 0), (2, 1), (2, 2), (3, 0), (3, 1), (3, 2), (4, 0), (4, 1), (4, 2), (5, 0), (5, 1), (5, 2), (6, 0), (6, 1), (6, 2), (6, 3), (7, 0), (7, 1), (7, 2), (7, 3), (7, 4), (7, 5), (7, 6), (7, 7), (7, 8), (0, 7), (8, 0), (8, 1), (8, 2), (8, 3), (8, 4), (8, 5), (8, 6), (8, 7), (8, 8), (9, 0), (9, 1), (9, 2), (9, 3), (9, 4), (9, 5), (9, 6), (9, 7), (9, 8), (10, 0), (10, 3), (10, 10), (10, 11), (10, 12), (10, 13), (10, 14), (10, 15), (10, 16), (10, 17), (10, 18), (10, 19)]
def cellOf (σ : zS) (j : Nat) : rz_C := match hTab[j]? with
  | some (g, 0) => gObj σ g
  | some (g, k + 1) => gArr σ g k ((lay g).getD k (9, 0, 0))
  | none => rz_ro j
def wOf (N : Nat) (σ : zS) : rz_W := fun j => if j < N then cellOf σ j else rz_ro j
theorem hTab_bs : ∀ g, g < 11 → hTab[bs g]? = some (g, 0) := by decide
theorem hTab_ah : ∀ g, g < 11 → ∀ k, k < 19 → (((lay g).getD k (9, 0, 0)).1 = 1 ∨ ((lay g).getD k (9, 0, 0)).1 = 2) → hTab[ah g k]? = some (g, k + 1) := by decide +kernel
def hInvB (j : Nat) (q : Nat × Nat) : Bool := match q with
  | (g, 0) => decide (g < 11 ∧ j = bs g)
  | (g, k + 1) => decide (g < 11 ∧ k < 19 ∧ j = ah g k ∧ (((lay g).getD k (9, 0, 0)).1 = 1 ∨ ((lay g).getD k (9, 0, 0)).1 = 2))
theorem hTab_inv0 : ∀ j, j < 60 → (hTab[j]?).map (hInvB j) = some true := by decide +kernel
theorem hTab_inv {j : Nat} (hj : j < 60) {q : Nat × Nat} (h : hTab[j]? = some q) : hInvB j q = true := by
  have h1 := hTab_inv0 j hj
  rw [h] at h1
  exact Option.some.inj h1
theorem hTab_out {j : Nat} (h : 60 ≤ j) : hTab[j]? = none := List.getElem?_eq_none h
theorem lay_len : ∀ g, g < 11 → (lay g).length ≤ 19 := by decide
theorem bs_lt : ∀ g, g < 11 → bs g < 60 := by decide
theorem ah_lt : ∀ g, g < 11 → ∀ k, k < 19 → ah g k < 60 := by decide +kernel
theorem bs_ah : ∀ g, g < 11 → ∀ g', g' < 11 → ∀ k, k < 19 → (((lay g').getD k (9, 0, 0)).1 = 1 ∨ ((lay g').getD k (9, 0, 0)).1 = 2) → bs g ≠ ah g' k := by decide +kernel
section WOF
variable {N : Nat} {σ : zS} {g k : Nat}
theorem w_bs (hg : g < 11) (hN : bs g < N) : wOf N σ (bs g) = gObj σ g := by
  unfold wOf cellOf
  rw [if_pos hN, hTab_bs g hg]
theorem w_ah (hg : g < 11) (hk : k < 19) (e : ((lay g).getD k (9, 0, 0)).1 = 1 ∨ ((lay g).getD k (9, 0, 0)).1 = 2) (hN : ah g k < N) : wOf N σ (ah g k) = gArr σ g k ((lay g).getD k (9, 0, 0)) := by
  unfold wOf cellOf
  rw [if_pos hN, hTab_ah g hg k hk e]
theorem w_cls (hg : g < 11) (hN : bs g < N) : rz_clsOf (wOf N σ) (bs g) = some (cx g) := by
  unfold rz_clsOf
  rw [w_bs hg hN]
  rfl
theorem w_fld (hg : g < 11) (hN : bs g < N) : rz_fld (wOf N σ) (bs g) (cx g) k = ((lay g)[k]?).map (gVal σ g k) := by
  unfold rz_fld
  rw [w_bs hg hN]
  show (if cx g = cx g then ((lay g).mapIdx (fun k e => gVal σ g k e))[k]? else none) = _
  rw [if_pos rfl, List.getElem?_mapIdx]
theorem w_ext {σ' : zS} (h : ∀ j, j < 60 → cellOf σ j = cellOf σ' j) : wOf N σ = wOf N σ' := by
  funext j
  unfold wOf
  by_cases hj : j < N
  · rw [if_pos hj, if_pos hj]
    by_cases h6 : j < 60
    · exact h j h6
    · unfold cellOf
      rw [hTab_out (by omega)]
  · rw [if_neg hj, if_neg hj]
/-- what a write of one slot does to the cells -/
theorem cell_sset {f : Nat → Int} {j : Nat} (hj : j < 60) (hg : g < 11) (hk : k < 19) (h1 : j ≠ bs g) (h2 : j ≠ ah g k ∨ ¬ (((lay g).getD k (9, 0, 0)).1 = 1 ∨ ((lay g).getD k (9, 0, 0)).1 = 2)) : cellOf (sset σ g k f) j = cellOf σ j := by
  unfold cellOf
  cases ht : hTab[j]? with
  | none => rfl
  | some q =>
    obtain ⟨g', s⟩ := q
    have hi := hTab_inv hj ht
    cases s with
    | zero =>
      have hi : g' < 11 ∧ j = bs g' := of_decide_eq_true hi
      dsimp only
      have hne : ¬ g' = g := fun z => h1 (by rw [hi.2, z])
      unfold gObj
      congr 2
      apply List.ext_getElem?
      intro i
      rw [List.getElem?_mapIdx, List.getElem?_mapIdx]
      congr 1
      funext e
      unfold gVal sset
      simp only [hne, false_and, if_false]
    | succ k' =>
      have hi : g' < 11 ∧ k' < 19 ∧ j = ah g' k' ∧ (((lay g').getD k' (9, 0, 0)).1 = 1 ∨ ((lay g').getD k' (9, 0, 0)).1 = 2) := of_decide_eq_true hi
      dsimp only
      unfold gArr
      congr 3
      show aI (sset σ g k f g' k') = aI (σ g' k')
      have : ¬ (g' = g ∧ k' = k) := by
        rintro ⟨z1, z2⟩
        subst z1; subst z2
        rcases h2 with h2 | h2
        · exact h2 hi.2.2.1
        · exact h2 hi.2.2.2
      unfold sset
      rw [if_neg this]
theorem w_put {v : Value} {f : Nat → Int} (hg : g < 11) (hN : bs g < N) (hk : k < (lay g).length) (hkd : ((lay g).getD k (9, 0, 0)).1 = 0 ∨ ((lay g).getD k (9, 0, 0)).1 = 3 ∨ ((lay g).getD k (9, 0, 0)).1 = 4) (hv : v = gVal (sset σ g k f) g k ((lay g).getD k (9, 0, 0))) : rz_put (wOf N σ) (bs g) (cx g) k v = some (wOf N (sset σ g k f)) := by
  have hk19 : k < 19 := Nat.lt_of_lt_of_le hk (lay_len g hg)
  unfold rz_put
  rw [w_bs hg hN]
  unfold gObj
  have hc : cx g = cx g ∧ k < ((lay g).mapIdx (fun k e => gVal σ g k e)).length ∧ bs g < 1000 := ⟨rfl, by rw [List.length_mapIdx]; exact hk, Nat.lt_of_lt_of_le (bs_lt g hg) (by omega)⟩
  dsimp only
  rw [if_pos hc]
  congr 1
  funext j
  unfold rz_up
  by_cases hj : j = bs g
  · subst hj
    rw [if_pos rfl, w_bs hg hN]
    unfold gObj
    congr 2
    apply List.ext_getElem?
    intro i
    rw [List.getElem?_mapIdx, List.getElem?_set, List.getElem?_mapIdx]
    by_cases hi : k = i
    · subst hi
      rw [if_pos rfl, if_pos (by rw [List.length_mapIdx]; exact hk)]
      have he : (lay g)[k]? = some ((lay g).getD k (9, 0, 0)) := by
        rw [List.getD_eq_getElem?_getD]
        rw [List.getElem?_eq_getElem hk]
        rfl
      rw [he, hv]
      rfl
    · rw [if_neg hi]
      congr 1
      funext e
      unfold gVal sset
      have : ¬ (g = g ∧ i = k) := fun z => hi z.2.symm
      rw [if_neg this]
  · rw [if_neg hj]
    unfold wOf
    by_cases hjN : j < N
    · rw [if_pos hjN, if_pos hjN]
      by_cases h6 : j < 60
      · exact (cell_sset h6 hg hk19 hj (Or.inr (by omega))).symm
      · unfold cellOf
        rw [hTab_out (by omega)]
    · rw [if_neg hjN, if_neg hjN]
theorem w_ald {t : Nat} {i : Int} {n : Nat} (hg : g < 11) (hk : k < 19) (e : (lay g).getD k (9, 0, 0) = (1 + t, n, 0)) (ht : t = 0 ∨ t = 1) (hN : ah g k < N) (hn : n < 2147483648) (hi : 0 ≤ i ∧ i < n) : rz_ald (wOf N σ) (ah g k) t (zI i) = some (zI (σ g k i.toNat)) := by
  have h1 : ((lay g).getD k (9, 0, 0)).1 = 1 ∨ ((lay g).getD k (9, 0, 0)).1 = 2 := by rw [e]; dsimp only; omega
  unfold rz_ald
  rw [w_ah hg hk h1 hN, e]
  unfold gArr
  dsimp only
  have h2 : (if 1 + t = 2 then 1 else 0) = t ∧ ¬ (zI i < 0 ∨ n ≤ (zI i).toNatClampNeg) := by
    refine ⟨by rcases ht with h | h <;> subst h <;> rfl, ?_⟩
    rw [zI_clamp hi.1 (by omega)]
    rintro (z | z)
    · have := (zI_lt (a := i) (b := 0) (by omega) (by omega)).mp z
      omega
    · omega
  rw [if_pos h2, zI_clamp hi.1 (by omega)]
  rfl
theorem w_aldOut {t : Nat} {i : Int} {n : Nat} (hg : g < 11) (hk : k < 19) (e : (lay g).getD k (9, 0, 0) = (1 + t, n, 0)) (ht : t = 0 ∨ t = 1) (hN : ah g k < N) (hr : -2147483648 ≤ i ∧ i < 2147483648) (hi : ¬ (0 ≤ i ∧ i < n)) : rz_ald (wOf N σ) (ah g k) t (zI i) = none := by
  have h1 : ((lay g).getD k (9, 0, 0)).1 = 1 ∨ ((lay g).getD k (9, 0, 0)).1 = 2 := by rw [e]; dsimp only; omega
  unfold rz_ald
  rw [w_ah hg hk h1 hN, e]
  unfold gArr
  dsimp only
  have h2 : ¬ ((if 1 + t = 2 then 1 else 0) = t ∧ ¬ (zI i < 0 ∨ n ≤ (zI i).toNatClampNeg)) := by
    rintro ⟨-, z⟩
    apply z
    by_cases h0 : 0 ≤ i
    · right
      rw [zI_clamp h0 hr.2]
      omega
    · left
      exact (zI_lt (a := i) (b := 0) hr (by omega)).mpr (by omega)
  rw [if_neg h2]
theorem w_len {t : Nat} {n : Nat} (hg : g < 11) (hk : k < 19) (e : (lay g).getD k (9, 0, 0) = (1 + t, n, 0)) (ht : t = 0 ∨ t = 1) (hN : ah g k < N) : rz_len (wOf N σ) (ah g k) = some (zI n) := by
  have h1 : ((lay g).getD k (9, 0, 0)).1 = 1 ∨ ((lay g).getD k (9, 0, 0)).1 = 2 := by rw [e]; dsimp only; omega
  unfold rz_len
  rw [w_ah hg hk h1 hN, e]
  unfold gArr
  dsimp only
  rw [zI_ofNat]
theorem w_ast {t : Nat} {i v : Int} {n : Nat} (hg : g < 11) (hk : k < 19) (e : (lay g).getD k (9, 0, 0) = (1 + t, n, 0)) (ht : t = 0 ∨ t = 1) (hN : ah g k < N) (hn : n < 2147483648) (hi : 0 ≤ i ∧ i < n) : rz_ast (wOf N σ) (ah g k) t (zI i) (zI v) = some (wOf N (sset σ g k (zup (σ g k) i.toNat v))) := by
  have h1 : ((lay g).getD k (9, 0, 0)).1 = 1 ∨ ((lay g).getD k (9, 0, 0)).1 = 2 := by rw [e]; dsimp only; omega
  unfold rz_ast
  rw [w_ah hg hk h1 hN, e]
  unfold gArr
  dsimp only
  have h2 : (if 1 + t = 2 then 1 else 0) = t ∧ ¬ (zI i < 0 ∨ n ≤ (zI i).toNatClampNeg) ∧ ah g k < 1000 := by
    refine ⟨by rcases ht with h | h <;> subst h <;> rfl, ?_, Nat.lt_of_lt_of_le (ah_lt g hg k hk) (by omega)⟩
    rw [zI_clamp hi.1 (by omega)]
    rintro (z | z)
    · have := (zI_lt (a := i) (b := 0) (by omega) (by omega)).mp z
      omega
    · omega
  rw [if_pos h2, zI_clamp hi.1 (by omega)]
  congr 1
  funext j
  unfold rz_up
  by_cases hj : j = ah g k
  · subst hj
    rw [if_pos rfl, w_ah hg hk h1 hN, e]
    unfold gArr
    dsimp only
    rw [show sset σ g k (zup (σ g k) i.toNat v) g k = zup (σ g k) i.toNat v from if_pos ⟨rfl, rfl⟩, aI_up]
  · rw [if_neg hj]
    unfold wOf
    by_cases hjN : j < N
    · rw [if_pos hjN, if_pos hjN]
      by_cases h6 : j < 60
      · by_cases hjb : j = bs g
        · subst hjb
          unfold cellOf
          rw [hTab_bs g hg]
          dsimp only
          unfold gObj
          congr 2
          apply List.ext_getElem?
          intro i'
          rw [List.getElem?_mapIdx, List.getElem?_mapIdx]
          by_cases hi' : i' = k
          · subst hi'
            cases he : (lay g)[i']? with
            | none => rfl
            | some e' =>
              have : e' = (1 + t, n, 0) := by
                have h9 := e
                rw [List.getD_eq_getElem?_getD, he] at h9
                exact h9
              subst this
              have n0 : ¬ 1 + t = 0 := by omega
              have n3 : ¬ 1 + t = 3 := by omega
              have n4 : ¬ 1 + t = 4 := by omega
              simp only [Option.map_some, gVal, n0, n3, n4, if_false]
          · congr 1
            funext e'
            unfold gVal sset
            have : ¬ (g = g ∧ i' = k) := fun z => hi' z.2
            rw [if_neg this]
        · exact (cell_sset h6 hg hk hjb (Or.inl hj)).symm
      · unfold cellOf
        rw [hTab_out (by omega)]
    · rw [if_neg hjN, if_neg hjN]
end WOF
