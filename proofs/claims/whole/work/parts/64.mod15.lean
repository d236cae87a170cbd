-- the model: the best of a row, what directions come to
def bm2 (S : Nat → Bool) (f : Nat → Int) : Nat → Int
  | 0 => -2
  | k + 1 => if S k then max (bm2 S f k) (f k) else bm2 S f k
theorem bm2_or {S : Nat → Bool} {f : Nat → Int} (hf : ∀ k, -1 ≤ f k) : ∀ k, (bm2 S f k = bmx S f k ∧ oS S k ≠ 0) ∨ (bm2 S f k = -2 ∧ bmx S f k = -1 ∧ ∀ j, j < k → S j = false) := by
  intro k
  induction k with
  | zero => right; exact ⟨rfl, rfl, fun j hj => by omega⟩
  | succ k ih =>
    rw [bm2, bmx, oS]
    by_cases c : S k = true
    · left
      rw [if_pos c, if_pos c, if_pos c]
      have h2 : 2 ^ k ≤ oS S k ||| 2 ^ k := Nat.right_le_or
      have h3 := Nat.two_pow_pos k
      have := hf k
      refine ⟨?_, by omega⟩
      rcases ih with ⟨e, -⟩ | ⟨e, e', -⟩
      · rw [e]
      · rw [e, e']; omega
    · rw [if_neg c, if_neg c, if_neg c]
      rcases ih with ⟨e, h⟩ | ⟨e, e', h⟩
      · exact Or.inl ⟨e, h⟩
      · right
        refine ⟨e, e', fun j hj => ?_⟩
        by_cases z : j = k
        · rw [z]; simpa using c
        · exact h j (by omega)
theorem oS_none {S : Nat → Bool} : ∀ k, (∀ j, j < k → S j = false) → oS S k = 0 := by
  intro k
  induction k with
  | zero => intro _; rfl
  | succ k ih =>
    intro h
    rw [oS, h k (by omega), if_neg Bool.false_ne_true]
    exact ih (fun j hj => h j (by omega))
theorem bm2_bmx {S : Nat → Bool} {f : Nat → Int} (hf : ∀ k, -1 ≤ f k) (h : oS S 8 ≠ 0) : bm2 S f 8 = bmx S f 8 := by
  rcases bm2_or (S := S) hf 8 with ⟨e, -⟩ | ⟨-, -, e⟩
  · exact e
  · exact absurd (oS_none 8 e) h
theorem bm2_rg {S : Nat → Bool} {f : Nat → Int} (hf : ∀ k, k < 8 → S k = true → -1 ≤ f k ∧ f k ≤ 1) : ∀ k, k ≤ 8 → -2 ≤ bm2 S f k ∧ bm2 S f k ≤ 1 := by
  intro k
  induction k with
  | zero => intro _; rw [bm2]; omega
  | succ k ih =>
    intro hk
    have := ih (by omega)
    rw [bm2]
    by_cases c : S k = true
    · rw [if_pos c]; have := hf k (by omega) c; omega
    · rw [if_neg c]; exact this
theorem bm2_congr {S S' : Nat → Bool} {f f' : Nat → Int} (hS : ∀ k, k < 8 → S k = S' k) (hf : ∀ k, k < 8 → S k = true → f k = f' k) : ∀ k, k ≤ 8 → bm2 S f k = bm2 S' f' k := by
  intro k
  induction k with
  | zero => intro _; rfl
  | succ k ih =>
    intro hk
    rw [bm2, bm2, ih (by omega), ← hS k (by omega)]
    by_cases c : S k = true
    · rw [if_pos c, if_pos c, hf k (by omega) c]
    · rw [if_neg c, if_neg c]
def wf (f : Bool) : Int := if f = true then 1 else -1
section MO
variable {N : Nat} {σ : zS} {p : zP} {la hm V : Nat → Int}
theorem bet_eq (f : Bool) (a b : Int) : (if f = true then max a (wf f * b) else min a (wf f * b)) = wf f * max b (wf f * a) := by
  cases f with
  | true => rw [if_pos rfl, show wf true = 1 from rfl]; omega
  | false => rw [if_neg Bool.false_ne_true, show wf false = -1 from rfl]; omega
theorem z_MbestOf_lp (d : Nat) {x mb : Nat} {w : rz_W} (hmb : mb < 256) {but : Int} (hb : rg but) {R : Nat → Int} (hr : ∀ k : Nat, k < 8 → rz_ald w x 0 (zI k) = some (zI (R k))) (hR : ∀ k : Nat, k < 8 → exB (fun i => mb.testBit i) but k = true → -1 ≤ R k ∧ R k ≤ 1) (f : Bool) (l0 : Option Value) : ∀ (n k : Nat), n + k = 8 → rz_den (rz_dM (d + 1)) (rz_at tb_X5_bestOf) (some .int) 16 [l0, some (.ref x), some (.int (zI mb)), some (.int (zI but)), some (.int (zI (bN f))), some (.int (zI (wf f * bm2 (exB (fun i => mb.testBit i) but) (fun k => wf f * R k) k))), some (.int (zI k))] [] w = some (some (.int (zI (wf f * bm2 (exB (fun i => mb.testBit i) but) (fun k => wf f * R k) 8))), w) := by
  have hwf : wf f = 1 ∨ wf f = -1 := by cases f; exact Or.inr rfl; exact Or.inl rfl
  have hR' : ∀ k : Nat, k < 8 → exB (fun i => mb.testBit i) but k = true → -1 ≤ wf f * R k ∧ wf f * R k ≤ 1 := by
    intro k hk c
    have := hR k hk c
    rcases hwf with e | e <;> rw [e] <;> omega
  intro n
  induction n with
  | zero =>
    intro k hk
    obtain rfl : k = 8 := by omega
    rw [s_M_bestOf_16]
    simp (disch := first | omega | exact Nat.le_of_ble_eq_true rfl) only [e_M_bestOf, s_M_bestOf_0, s_M_bestOf_2, s_M_bestOf_5, s_M_bestOf_7, s_M_bestOf_10, s_M_bestOf_11, s_M_bestOf_13, s_M_bestOf_14, s_M_bestOf_18, s_M_bestOf_20, s_M_bestOf_23, s_M_bestOf_24, s_M_bestOf_26, s_M_bestOf_27, s_M_bestOf_28, s_M_bestOf_29, s_M_bestOf_30, s_M_bestOf_33, s_M_bestOf_35, s_M_bestOf_36, s_M_bestOf_39, s_M_bestOf_40, s_M_bestOf_42, s_M_bestOf_43, s_M_bestOf_45, s_M_bestOf_47, s_M_bestOf_50, s_M_bestOf_53, s_M_bestOf_55, s_M_bestOf_57, s_M_bestOf_60, s_M_bestOf_63, s_M_bestOf_65, Option.bind_some, Option.bind_none, Option.toList_some, Option.toList_none, List.cons_append, List.nil_append, if_true, if_false, rz_clr, true_or, or_true, z00, z11, bZ_eq0, bZ_eq1, nor_self, if_pos, if_neg, zI_add, zI_sub, zI_mul, zI_neg, zI_lt, zI_le, zI_eq]
  | succ n ih =>
    intro k hk
    have ih' := ih (k + 1) (by omega)
    simp only [Int.natCast_add, Int.natCast_one] at ih'
    have hbm := bm2_rg hR' k (by omega)
    have hwb : rg (wf f * bm2 (exB (fun i => mb.testBit i) but) (fun k => wf f * R k) k) := by
      generalize bm2 (exB (fun i => mb.testBit i) but) (fun k => wf f * R k) k = X at hbm
      rcases hwf with e | e <;> rw [e] <;> omega
    have hsh := z_shr (b := mb) (i := k) (by omega) (by omega)
    have hand := z_and1 (mb / 2 ^ k) (Nat.lt_of_le_of_lt (Nat.div_le_self _ _) (by omega))
    rw [tb_div] at hand
    rw [s_M_bestOf_16]
    rw [bm2] at ih'
    by_cases c : mb.testBit k = true
    · rw [if_pos c, Int.natCast_one] at hand
      by_cases c2 : (k : Int) = but
      · have e : exB (fun i => mb.testBit i) but k = false := by unfold exB; rw [decide_eq_true c2, Bool.not_true, Bool.and_false]
        rw [e, if_neg Bool.false_ne_true] at ih'
        simp (disch := first | omega | exact Nat.le_of_ble_eq_true rfl) only [e_M_bestOf, s_M_bestOf_0, s_M_bestOf_2, s_M_bestOf_5, s_M_bestOf_7, s_M_bestOf_10, s_M_bestOf_11, s_M_bestOf_13, s_M_bestOf_14, s_M_bestOf_18, s_M_bestOf_20, s_M_bestOf_23, s_M_bestOf_24, s_M_bestOf_26, s_M_bestOf_27, s_M_bestOf_28, s_M_bestOf_29, s_M_bestOf_30, s_M_bestOf_33, s_M_bestOf_35, s_M_bestOf_36, s_M_bestOf_39, s_M_bestOf_40, s_M_bestOf_42, s_M_bestOf_43, s_M_bestOf_45, s_M_bestOf_47, s_M_bestOf_50, s_M_bestOf_53, s_M_bestOf_55, s_M_bestOf_57, s_M_bestOf_60, s_M_bestOf_63, s_M_bestOf_65, Option.bind_some, Option.bind_none, Option.toList_some, Option.toList_none, List.cons_append, List.nil_append, if_true, if_false, rz_clr, true_or, or_true, z00, z11, bZ_eq0, bZ_eq1, nor_self, if_pos, if_neg, zI_add, zI_sub, zI_mul, zI_neg, zI_lt, zI_le, zI_eq, hsh, hand, ih']
      · have e : exB (fun i => mb.testBit i) but k = true := by unfold exB; rw [decide_eq_false c2, Bool.not_false, Bool.and_true]; exact c
        have hrk := hR k (by omega) e
        have hbt := fun w => z_Mbetter d (a := R k) (b := wf f * bm2 (exB (fun i => mb.testBit i) but) (fun k => wf f * R k) k) (by omega) hwb f w
        rw [bet_eq] at hbt
        rw [if_pos e] at ih'
        have hrd := hr k (by omega)
        simp (disch := first | omega | exact Nat.le_of_ble_eq_true rfl) only [e_M_bestOf, s_M_bestOf_0, s_M_bestOf_2, s_M_bestOf_5, s_M_bestOf_7, s_M_bestOf_10, s_M_bestOf_11, s_M_bestOf_13, s_M_bestOf_14, s_M_bestOf_18, s_M_bestOf_20, s_M_bestOf_23, s_M_bestOf_24, s_M_bestOf_26, s_M_bestOf_27, s_M_bestOf_28, s_M_bestOf_29, s_M_bestOf_30, s_M_bestOf_33, s_M_bestOf_35, s_M_bestOf_36, s_M_bestOf_39, s_M_bestOf_40, s_M_bestOf_42, s_M_bestOf_43, s_M_bestOf_45, s_M_bestOf_47, s_M_bestOf_50, s_M_bestOf_53, s_M_bestOf_55, s_M_bestOf_57, s_M_bestOf_60, s_M_bestOf_63, s_M_bestOf_65, Option.bind_some, Option.bind_none, Option.toList_some, Option.toList_none, List.cons_append, List.nil_append, if_true, if_false, rz_clr, true_or, or_true, z00, z11, bZ_eq0, bZ_eq1, nor_self, if_pos, if_neg, zI_add, zI_sub, zI_mul, zI_neg, zI_lt, zI_le, zI_eq, hsh, hand, hrd, hbt, ih']
    · rw [if_neg c, Int.natCast_zero] at hand
      have e : exB (fun i => mb.testBit i) but k = false := by
        rw [Bool.not_eq_true] at c
        show (mb.testBit k && _) = false
        rw [c, Bool.false_and]
      rw [e, if_neg Bool.false_ne_true] at ih'
      simp (disch := first | omega | exact Nat.le_of_ble_eq_true rfl) only [e_M_bestOf, s_M_bestOf_0, s_M_bestOf_2, s_M_bestOf_5, s_M_bestOf_7, s_M_bestOf_10, s_M_bestOf_11, s_M_bestOf_13, s_M_bestOf_14, s_M_bestOf_18, s_M_bestOf_20, s_M_bestOf_23, s_M_bestOf_24, s_M_bestOf_26, s_M_bestOf_27, s_M_bestOf_28, s_M_bestOf_29, s_M_bestOf_30, s_M_bestOf_33, s_M_bestOf_35, s_M_bestOf_36, s_M_bestOf_39, s_M_bestOf_40, s_M_bestOf_42, s_M_bestOf_43, s_M_bestOf_45, s_M_bestOf_47, s_M_bestOf_50, s_M_bestOf_53, s_M_bestOf_55, s_M_bestOf_57, s_M_bestOf_60, s_M_bestOf_63, s_M_bestOf_65, Option.bind_some, Option.bind_none, Option.toList_some, Option.toList_none, List.cons_append, List.nil_append, if_true, if_false, rz_clr, true_or, or_true, z00, z11, bZ_eq0, bZ_eq1, nor_self, if_pos, if_neg, zI_add, zI_sub, zI_mul, zI_neg, zI_lt, zI_le, zI_eq, hsh, hand, ih']
theorem z_MbestOf (d : Nat) (hN : 60 ≤ N) {x mb : Nat} (hmb : mb < 256) {but : Int} (hb : rg but) {R : Nat → Int} (hr : ∀ k : Nat, k < 8 → rz_ald (wOf N σ) x 0 (zI k) = some (zI (R k))) (hR : ∀ k : Nat, k < 8 → exB (fun i => mb.testBit i) but k = true → -1 ≤ R k ∧ R k ≤ 1) (f : Bool) : rz_dM (d + 2) iM_bestOf [.ref (bs 10), .ref x, .int (zI mb), .int (zI but), .int (zI (bN f))] (wOf N σ) = some (some (.int (zI (wf f * bm2 (exB (fun i => mb.testBit i) but) (fun k => wf f * R k) 8))), wOf N σ) := by
  have h := z_MbestOf_lp (w := wOf N σ) d hmb hb hr hR f (some (.ref (bs 10))) 8 0 rfl
  rw [Int.natCast_zero, show bm2 (exB (fun i => mb.testBit i) but) (fun k => wf f * R k) 0 = -2 from rfl] at h
  cases f with
  | true =>
    rw [show wf true * -2 = -2 from rfl, show bN true = 1 from rfl] at h
    rw [show bN true = 1 from rfl]
    simp (disch := first | omega | exact Nat.le_of_ble_eq_true rfl) only [e_M_bestOf, s_M_bestOf_0, s_M_bestOf_2, s_M_bestOf_5, s_M_bestOf_7, s_M_bestOf_10, s_M_bestOf_11, s_M_bestOf_13, s_M_bestOf_14, s_M_bestOf_18, s_M_bestOf_20, s_M_bestOf_23, s_M_bestOf_24, s_M_bestOf_26, s_M_bestOf_27, s_M_bestOf_28, s_M_bestOf_29, s_M_bestOf_30, s_M_bestOf_33, s_M_bestOf_35, s_M_bestOf_36, s_M_bestOf_39, s_M_bestOf_40, s_M_bestOf_42, s_M_bestOf_43, s_M_bestOf_45, s_M_bestOf_47, s_M_bestOf_50, s_M_bestOf_53, s_M_bestOf_55, s_M_bestOf_57, s_M_bestOf_60, s_M_bestOf_63, s_M_bestOf_65, Option.bind_some, Option.bind_none, Option.toList_some, Option.toList_none, List.cons_append, List.nil_append, if_true, if_false, rz_clr, true_or, or_true, z00, z11, bZ_eq0, bZ_eq1, nor_self, if_pos, if_neg, zI_add, zI_sub, zI_mul, zI_neg, zI_lt, zI_le, zI_eq, c_M, f_M_0, u_M_0, f_M_1, u_M_1, f_M_2, l_M_2, r_M_2, w_M_2, f_M_3, u_M_3, f_M_4, u_M_4, f_M_5, u_M_5, f_M_6, u_M_6, f_M_7, u_M_7, f_M_8, u_M_8, f_M_9, l_M_9, r_M_9, w_M_9, f_M_10, l_M_10, r_M_10, w_M_10, f_M_11, l_M_11, r_M_11, w_M_11, f_M_12, l_M_12, r_M_12, w_M_12, f_M_13, l_M_13, r_M_13, w_M_13, f_M_14, l_M_14, r_M_14, w_M_14, f_M_15, l_M_15, r_M_15, w_M_15, f_M_16, l_M_16, r_M_16, w_M_16, f_M_17, l_M_17, r_M_17, w_M_17, f_M_18, l_M_18, r_M_18, w_M_18, h]
  | false =>
    rw [show wf false * -2 = 2 from rfl, show bN false = 0 from rfl] at h
    rw [show bN false = 0 from rfl]
    simp (disch := first | omega | exact Nat.le_of_ble_eq_true rfl) only [e_M_bestOf, s_M_bestOf_0, s_M_bestOf_2, s_M_bestOf_5, s_M_bestOf_7, s_M_bestOf_10, s_M_bestOf_11, s_M_bestOf_13, s_M_bestOf_14, s_M_bestOf_18, s_M_bestOf_20, s_M_bestOf_23, s_M_bestOf_24, s_M_bestOf_26, s_M_bestOf_27, s_M_bestOf_28, s_M_bestOf_29, s_M_bestOf_30, s_M_bestOf_33, s_M_bestOf_35, s_M_bestOf_36, s_M_bestOf_39, s_M_bestOf_40, s_M_bestOf_42, s_M_bestOf_43, s_M_bestOf_45, s_M_bestOf_47, s_M_bestOf_50, s_M_bestOf_53, s_M_bestOf_55, s_M_bestOf_57, s_M_bestOf_60, s_M_bestOf_63, s_M_bestOf_65, Option.bind_some, Option.bind_none, Option.toList_some, Option.toList_none, List.cons_append, List.nil_append, if_true, if_false, rz_clr, true_or, or_true, z00, z11, bZ_eq0, bZ_eq1, nor_self, if_pos, if_neg, zI_add, zI_sub, zI_mul, zI_neg, zI_lt, zI_le, zI_eq, c_M, f_M_0, u_M_0, f_M_1, u_M_1, f_M_2, l_M_2, r_M_2, w_M_2, f_M_3, u_M_3, f_M_4, u_M_4, f_M_5, u_M_5, f_M_6, u_M_6, f_M_7, u_M_7, f_M_8, u_M_8, f_M_9, l_M_9, r_M_9, w_M_9, f_M_10, l_M_10, r_M_10, w_M_10, f_M_11, l_M_11, r_M_11, w_M_11, f_M_12, l_M_12, r_M_12, w_M_12, f_M_13, l_M_13, r_M_13, w_M_13, f_M_14, l_M_14, r_M_14, w_M_14, f_M_15, l_M_15, r_M_15, w_M_15, f_M_16, l_M_16, r_M_16, w_M_16, f_M_17, l_M_17, r_M_17, w_M_17, f_M_18, l_M_18, r_M_18, w_M_18, h]
/-- a row of what directions come to, and of those when one refusal is less -/
def lkM (m : zP) (c l : Nat → Int) : zP := pset (pset m 17 c) 18 l
theorem lkM_sm (m : zP) (c l : Nat → Int) : sm [17, 18] m (lkM m c l) := sm_pset (sm_pset (sm_rfl _ _) (by decide)) (by decide)
theorem lkM_17 (m : zP) (c l v : Nat → Int) : pset (lkM m c l) 17 v = lkM m v l := by
  unfold lkM
  funext k
  by_cases h : k = 17
  · subst h; rw [pset_eq, pset_ne (by decide), pset_eq]
  · rw [pset_ne h]
    by_cases h8 : k = 18
    · subst h8; rw [pset_eq, pset_eq]
    · rw [pset_ne h8, pset_ne h, pset_ne h8, pset_ne h]
theorem lkM_18 (m : zP) (c l v : Nat → Int) : pset (lkM m c l) 18 v = lkM m c v := by
  unfold lkM
  rw [pset_pset]
theorem z_Mlooks_lp (d : Nat) (hN : 60 ≤ N) (hw : wfP p) (hl : lkP p) (hQ : MGQ (σ 10) p la hm V) {K : Nat} (hK : vK p K) (x1 x2 x3 x4 : Option Value) : ∀ (n k : Nat), n + k = 8 → ∀ (c l : Nat → Int) (l13 : Option Value), ∃ c' l', rz_den (rz_dM (d + 3)) (rz_at tb_X5_looks) (some .int) 71 [some (.ref (bs 10)), x1, x2, x3, x4, some (.int (zI (tl K : Nat))), some (.int (zI (tm K : Nat))), some (.int (zI (cl K (tm K) : Nat))), some (.int (zI (cl K (1 - tm K) : Nat))), some (.int (zI (lf K (tm K) : Nat))), some (.int (zI (lf K (1 - tm K) : Nat))), some (.int (zI (oS (mayK p la K) 8 : Nat))), some (.int (zI k)), l13] [] (wOf N (gset σ 10 (lkM (σ 10) c l))) = some (some (.int (zI (oS (mayK p la K) 8 : Nat))), wOf N (gset σ 10 (lkM (σ 10) c' l'))) ∧ (∀ i, i < k → c' i = c i ∧ l' i = l i) ∧ (∀ i, k ≤ i → i < 8 → mayK p la K i = true → c' i = dnK p la hm V K i ∧ (0 < lf K (tm K) → l' i = dnK p la hm V (lessK K) i)) := by
  have ha := wfP_area hw
  obtain ⟨hm9, h16, h15, h14, hV⟩ := id hQ
  have htm := tm_lt K
  have hlt := oS_lt (mayK p la K) 8
  obtain ⟨e16, r1, r2⟩ := h16 (tm K) htm
  obtain ⟨u, hu⟩ : ∃ u : Nat, la (tm K) = u := ⟨(la (tm K)).toNat, by omega⟩
  have hcl : (cl K (tm K) : Int) < p 8 0 * p 9 0 := by
    have e : tm K = 0 ∨ tm K = 1 := by omega
    rcases e with e | e <;> rw [e]
    · exact hK.2.2.2.1
    · exact hK.2.2.2.2
  have hlf : lf K (tm K) < 4 := lf_lt K _
  have hlf2 : lf K (1 - tm K) < 4 := lf_lt K _
  have hQ' := fun c l => MGQ_sm hQ (sm_mono (lkM_sm (σ 10) c l) (by decide))
  intro n
  induction n with
  | zero =>
    intro k hk c l l13
    obtain rfl : k = 8 := by omega
    refine ⟨c, l, ?_, fun _ _ => ⟨rfl, rfl⟩, fun i h1 h2 => by omega⟩
    rw [s_M_looks_71]
    simp (disch := first | omega | exact Nat.le_of_ble_eq_true rfl) only [e_M_looks, s_M_looks_0, s_M_looks_1, s_M_looks_3, s_M_looks_4, s_M_looks_6, s_M_looks_8, s_M_looks_11, s_M_looks_12, s_M_looks_15, s_M_looks_16, s_M_looks_18, s_M_looks_20, s_M_looks_23, s_M_looks_24, s_M_looks_27, s_M_looks_28, s_M_looks_30, s_M_looks_32, s_M_looks_35, s_M_looks_36, s_M_looks_39, s_M_looks_41, s_M_looks_43, s_M_looks_45, s_M_looks_48, s_M_looks_50, s_M_looks_53, s_M_looks_54, s_M_looks_56, s_M_looks_57, s_M_looks_59, s_M_looks_61, s_M_looks_63, s_M_looks_66, s_M_looks_68, s_M_looks_69, s_M_looks_73, s_M_looks_75, s_M_looks_78, s_M_looks_80, s_M_looks_82, s_M_looks_83, s_M_looks_84, s_M_looks_85, s_M_looks_86, s_M_looks_89, s_M_looks_90, s_M_looks_91, s_M_looks_94, s_M_looks_96, s_M_looks_97, s_M_looks_99, s_M_looks_101, s_M_looks_104, s_M_looks_106, s_M_looks_107, s_M_looks_110, s_M_looks_112, s_M_looks_113, s_M_looks_115, s_M_looks_117, s_M_looks_119, s_M_looks_121, s_M_looks_123, s_M_looks_125, s_M_looks_128, s_M_looks_129, s_M_looks_130, s_M_looks_133, s_M_looks_135, s_M_looks_137, s_M_looks_140, s_M_looks_141, s_M_looks_143, s_M_looks_145, s_M_looks_147, s_M_looks_149, s_M_looks_150, s_M_looks_151, s_M_looks_153, s_M_looks_155, s_M_looks_158, s_M_looks_161, s_M_looks_162, s_M_looks_163, s_M_looks_166, s_M_looks_169, s_M_looks_171, Option.bind_some, Option.bind_none, Option.toList_some, Option.toList_none, List.cons_append, List.nil_append, if_true, if_false, rz_clr, true_or, or_true, z00, z11, bZ_eq0, bZ_eq1, nor_self, if_pos, if_neg, zI_add, zI_sub, zI_mul, zI_neg, zI_lt, zI_le, zI_eq]
  | succ n ih =>
    intro k hk c l l13
    have hsh := z_shr (b := oS (mayK p la K) 8) (i := k) (by omega) (by omega)
    have hand := z_and1 (oS (mayK p la K) 8 / 2 ^ k) (Nat.lt_of_le_of_lt (Nat.div_le_self _ _) (by omega))
    rw [tb_div, oS_tb, decide_eq_true (show k < 8 by omega), Bool.true_and] at hand
    by_cases cm : mayK p la K k = true
    · rw [if_pos cm, Int.natCast_one] at hand
      have hrg := ldP_rg hw hl (l := u) (c := cl K (tm K)) ⟨by omega, hcl⟩ (k := k) (by omega)
      have elk : leadK p la K k = ldP p u (cl K (tm K)) k := by unfold leadK; rw [hu]
      have hne : leadK p la K k ≠ -9 := by
        unfold mayK mayF at cm
        unfold leadK
        simp at cm
        exact cm.1
      obtain ⟨t, ht⟩ : ∃ t : Nat, leadK p la K k = t := ⟨(leadK p la K k).toNat, by omega⟩
      have htr : (t : Int) < p 8 0 * p 9 0 := by omega
      have ed := dnK_1 (p := p) (la := la) (hm := hm) (V := V) ht
      have hld := z_Mleads (N := N) (σ := gset σ 10 (lkM (σ 10) c l)) (d + 1) hN (p := p) (by rw [gset_at]; exact (hQ' c l).1) hw hl (l := u) (c := cl K (tm K)) (k := k) (by omega) hcl (by omega)
      rw [← elk, ht] at hld
      have f16 : lkM (σ 10) c l 16 ((tm K : Nat) : Int).toNat = u := by rw [Int.toNat_natCast, lkM_sm _ _ _ 16 (by decide), e16, hu]
      have haf := z_Mafter (N := N) (σ := gset σ 10 (lkM (σ 10) c l)) (d + 1) hN (p := p) (la := la) (hm := hm) (V := V) hw (by rw [gset_at]; exact hQ' c l) hK htr
      rw [← ed] at haf
      have fc : ∀ c l : Nat → Int, lkM (σ 10) c l 17 = c := fun c l => by unfold lkM; rw [pset_ne (by decide), pset_eq]
      have fl : ∀ c l : Nat → Int, lkM (σ 10) c l 18 = l := fun c l => by unfold lkM; rw [pset_eq]
      have ek : ((k : Int)).toNat = k := Int.toNat_natCast k
      by_cases cl0 : 0 < lf K (tm K)
      · obtain ⟨vl, tml⟩ := vK_less hK cl0
        obtain ⟨f1, f2, f3, f4, f5⟩ := less_f hK.1 cl0
        have ed2 : leadK p la (lessK K) k = t := by unfold leadK at ht ⊢; rw [tml, f2]; exact ht
        have ed2' := dnK_1 (p := p) (la := la) (hm := hm) (V := V) ed2
        have haf2 := z_Mafter (N := N) (σ := gset σ 10 (lkM (σ 10) (zup c k (dnK p la hm V K k)) l)) (d + 1) hN (p := p) (la := la) (hm := hm) (V := V) hw (by rw [gset_at]; exact hQ' _ _) vl htr
        rw [← ed2', tml, f2, f4, f5, f3, show ((lf K (tm K) - 1 : Nat) : Int) = (lf K (tm K) : Int) - 1 by omega] at haf2
        obtain ⟨c', l', h1, h2, h3⟩ := ih (k + 1) (by omega) (zup c k (dnK p la hm V K k)) (zup l k (dnK p la hm V (lessK K) k)) (some (.int (zI t)))
        simp only [Int.natCast_add, Int.natCast_one] at h1
        refine ⟨c', l', ?_, fun i hi => ?_, fun i hi1 hi2 hi3 => ?_⟩
        · rw [s_M_looks_71]
          simp (disch := first | omega | exact Nat.le_of_ble_eq_true rfl) only [e_M_looks, s_M_looks_0, s_M_looks_1, s_M_looks_3, s_M_looks_4, s_M_looks_6, s_M_looks_8, s_M_looks_11, s_M_looks_12, s_M_looks_15, s_M_looks_16, s_M_looks_18, s_M_looks_20, s_M_looks_23, s_M_looks_24, s_M_looks_27, s_M_looks_28, s_M_looks_30, s_M_looks_32, s_M_looks_35, s_M_looks_36, s_M_looks_39, s_M_looks_41, s_M_looks_43, s_M_looks_45, s_M_looks_48, s_M_looks_50, s_M_looks_53, s_M_looks_54, s_M_looks_56, s_M_looks_57, s_M_looks_59, s_M_looks_61, s_M_looks_63, s_M_looks_66, s_M_looks_68, s_M_looks_69, s_M_looks_73, s_M_looks_75, s_M_looks_78, s_M_looks_80, s_M_looks_82, s_M_looks_83, s_M_looks_84, s_M_looks_85, s_M_looks_86, s_M_looks_89, s_M_looks_90, s_M_looks_91, s_M_looks_94, s_M_looks_96, s_M_looks_97, s_M_looks_99, s_M_looks_101, s_M_looks_104, s_M_looks_106, s_M_looks_107, s_M_looks_110, s_M_looks_112, s_M_looks_113, s_M_looks_115, s_M_looks_117, s_M_looks_119, s_M_looks_121, s_M_looks_123, s_M_looks_125, s_M_looks_128, s_M_looks_129, s_M_looks_130, s_M_looks_133, s_M_looks_135, s_M_looks_137, s_M_looks_140, s_M_looks_141, s_M_looks_143, s_M_looks_145, s_M_looks_147, s_M_looks_149, s_M_looks_150, s_M_looks_151, s_M_looks_153, s_M_looks_155, s_M_looks_158, s_M_looks_161, s_M_looks_162, s_M_looks_163, s_M_looks_166, s_M_looks_169, s_M_looks_171, Option.bind_some, Option.bind_none, Option.toList_some, Option.toList_none, List.cons_append, List.nil_append, if_true, if_false, rz_clr, true_or, or_true, z00, z11, bZ_eq0, bZ_eq1, nor_self, if_pos, if_neg, zI_add, zI_sub, zI_mul, zI_neg, zI_lt, zI_le, zI_eq, c_M, f_M_0, u_M_0, f_M_1, u_M_1, f_M_2, l_M_2, r_M_2, w_M_2, f_M_3, u_M_3, f_M_4, u_M_4, f_M_5, u_M_5, f_M_6, u_M_6, f_M_7, u_M_7, f_M_8, u_M_8, f_M_9, l_M_9, r_M_9, w_M_9, f_M_10, l_M_10, r_M_10, w_M_10, f_M_11, l_M_11, r_M_11, w_M_11, f_M_12, l_M_12, r_M_12, w_M_12, f_M_13, l_M_13, r_M_13, w_M_13, f_M_14, l_M_14, r_M_14, w_M_14, f_M_15, l_M_15, r_M_15, w_M_15, f_M_16, l_M_16, r_M_16, w_M_16, f_M_17, l_M_17, r_M_17, w_M_17, f_M_18, l_M_18, r_M_18, w_M_18, sset_eq, gset_at, gset_gset, gset_ne, pset_eq, pset_ne, lkM_17, lkM_18, fc, fl, ek, f16, hsh, hand, hld, haf, haf2, h1]
        · obtain ⟨a1, a2⟩ := h2 i (by omega)
          rw [a1, a2, zup_ne (by omega), zup_ne (by omega)]
          exact ⟨rfl, rfl⟩
        · by_cases z : i = k
          · obtain ⟨a1, a2⟩ := h2 i (by omega)
            rw [a1, a2, z, zup_eq, zup_eq]
            exact ⟨rfl, fun _ => rfl⟩
          · exact h3 i (by omega) hi2 hi3
      · obtain ⟨c', l', h1, h2, h3⟩ := ih (k + 1) (by omega) (zup c k (dnK p la hm V K k)) (zup l k 0) (some (.int (zI t)))
        simp only [Int.natCast_add, Int.natCast_one] at h1
        refine ⟨c', l', ?_, fun i hi => ?_, fun i hi1 hi2 hi3 => ?_⟩
        · rw [s_M_looks_71]
          simp (disch := first | omega | exact Nat.le_of_ble_eq_true rfl) only [e_M_looks, s_M_looks_0, s_M_looks_1, s_M_looks_3, s_M_looks_4, s_M_looks_6, s_M_looks_8, s_M_looks_11, s_M_looks_12, s_M_looks_15, s_M_looks_16, s_M_looks_18, s_M_looks_20, s_M_looks_23, s_M_looks_24, s_M_looks_27, s_M_looks_28, s_M_looks_30, s_M_looks_32, s_M_looks_35, s_M_looks_36, s_M_looks_39, s_M_looks_41, s_M_looks_43, s_M_looks_45, s_M_looks_48, s_M_looks_50, s_M_looks_53, s_M_looks_54, s_M_looks_56, s_M_looks_57, s_M_looks_59, s_M_looks_61, s_M_looks_63, s_M_looks_66, s_M_looks_68, s_M_looks_69, s_M_looks_73, s_M_looks_75, s_M_looks_78, s_M_looks_80, s_M_looks_82, s_M_looks_83, s_M_looks_84, s_M_looks_85, s_M_looks_86, s_M_looks_89, s_M_looks_90, s_M_looks_91, s_M_looks_94, s_M_looks_96, s_M_looks_97, s_M_looks_99, s_M_looks_101, s_M_looks_104, s_M_looks_106, s_M_looks_107, s_M_looks_110, s_M_looks_112, s_M_looks_113, s_M_looks_115, s_M_looks_117, s_M_looks_119, s_M_looks_121, s_M_looks_123, s_M_looks_125, s_M_looks_128, s_M_looks_129, s_M_looks_130, s_M_looks_133, s_M_looks_135, s_M_looks_137, s_M_looks_140, s_M_looks_141, s_M_looks_143, s_M_looks_145, s_M_looks_147, s_M_looks_149, s_M_looks_150, s_M_looks_151, s_M_looks_153, s_M_looks_155, s_M_looks_158, s_M_looks_161, s_M_looks_162, s_M_looks_163, s_M_looks_166, s_M_looks_169, s_M_looks_171, Option.bind_some, Option.bind_none, Option.toList_some, Option.toList_none, List.cons_append, List.nil_append, if_true, if_false, rz_clr, true_or, or_true, z00, z11, bZ_eq0, bZ_eq1, nor_self, if_pos, if_neg, zI_add, zI_sub, zI_mul, zI_neg, zI_lt, zI_le, zI_eq, c_M, f_M_0, u_M_0, f_M_1, u_M_1, f_M_2, l_M_2, r_M_2, w_M_2, f_M_3, u_M_3, f_M_4, u_M_4, f_M_5, u_M_5, f_M_6, u_M_6, f_M_7, u_M_7, f_M_8, u_M_8, f_M_9, l_M_9, r_M_9, w_M_9, f_M_10, l_M_10, r_M_10, w_M_10, f_M_11, l_M_11, r_M_11, w_M_11, f_M_12, l_M_12, r_M_12, w_M_12, f_M_13, l_M_13, r_M_13, w_M_13, f_M_14, l_M_14, r_M_14, w_M_14, f_M_15, l_M_15, r_M_15, w_M_15, f_M_16, l_M_16, r_M_16, w_M_16, f_M_17, l_M_17, r_M_17, w_M_17, f_M_18, l_M_18, r_M_18, w_M_18, sset_eq, gset_at, gset_gset, gset_ne, pset_eq, pset_ne, lkM_17, lkM_18, fc, fl, ek, f16, hsh, hand, hld, haf, h1]
        · obtain ⟨a1, a2⟩ := h2 i (by omega)
          rw [a1, a2, zup_ne (by omega), zup_ne (by omega)]
          exact ⟨rfl, rfl⟩
        · by_cases z : i = k
          · obtain ⟨a1, a2⟩ := h2 i (by omega)
            rw [a1, z, zup_eq]
            exact ⟨rfl, fun z => absurd z cl0⟩
          · exact h3 i (by omega) hi2 hi3
    · rw [if_neg cm, Int.natCast_zero] at hand
      obtain ⟨c', l', h1, h2, h3⟩ := ih (k + 1) (by omega) c l l13
      simp only [Int.natCast_add, Int.natCast_one] at h1
      refine ⟨c', l', ?_, fun i hi => h2 i (by omega), fun i hi1 hi2 hi3 => ?_⟩
      · rw [s_M_looks_71]
        simp (disch := first | omega | exact Nat.le_of_ble_eq_true rfl) only [e_M_looks, s_M_looks_0, s_M_looks_1, s_M_looks_3, s_M_looks_4, s_M_looks_6, s_M_looks_8, s_M_looks_11, s_M_looks_12, s_M_looks_15, s_M_looks_16, s_M_looks_18, s_M_looks_20, s_M_looks_23, s_M_looks_24, s_M_looks_27, s_M_looks_28, s_M_looks_30, s_M_looks_32, s_M_looks_35, s_M_looks_36, s_M_looks_39, s_M_looks_41, s_M_looks_43, s_M_looks_45, s_M_looks_48, s_M_looks_50, s_M_looks_53, s_M_looks_54, s_M_looks_56, s_M_looks_57, s_M_looks_59, s_M_looks_61, s_M_looks_63, s_M_looks_66, s_M_looks_68, s_M_looks_69, s_M_looks_73, s_M_looks_75, s_M_looks_78, s_M_looks_80, s_M_looks_82, s_M_looks_83, s_M_looks_84, s_M_looks_85, s_M_looks_86, s_M_looks_89, s_M_looks_90, s_M_looks_91, s_M_looks_94, s_M_looks_96, s_M_looks_97, s_M_looks_99, s_M_looks_101, s_M_looks_104, s_M_looks_106, s_M_looks_107, s_M_looks_110, s_M_looks_112, s_M_looks_113, s_M_looks_115, s_M_looks_117, s_M_looks_119, s_M_looks_121, s_M_looks_123, s_M_looks_125, s_M_looks_128, s_M_looks_129, s_M_looks_130, s_M_looks_133, s_M_looks_135, s_M_looks_137, s_M_looks_140, s_M_looks_141, s_M_looks_143, s_M_looks_145, s_M_looks_147, s_M_looks_149, s_M_looks_150, s_M_looks_151, s_M_looks_153, s_M_looks_155, s_M_looks_158, s_M_looks_161, s_M_looks_162, s_M_looks_163, s_M_looks_166, s_M_looks_169, s_M_looks_171, Option.bind_some, Option.bind_none, Option.toList_some, Option.toList_none, List.cons_append, List.nil_append, if_true, if_false, rz_clr, true_or, or_true, z00, z11, bZ_eq0, bZ_eq1, nor_self, if_pos, if_neg, zI_add, zI_sub, zI_mul, zI_neg, zI_lt, zI_le, zI_eq, hsh, hand, h1]
      · by_cases z : i = k
        · rw [z] at hi3; exact absurd hi3 cm
        · exact h3 i (by omega) hi2 hi3
end MO
