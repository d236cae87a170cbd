-- What the small machine says, the JVM does.
def rz_v (ad : Nat → Nat) : Value → Value
  | .ref h => .ref (ad h)
  | .retAddr _ => if ad 1031 = 0 then .null else .ref (ad 1030)
  | v => v
def rz_c (cI cZ : ClassId) (ad : Nat → Nat) : rz_C → va_E
  | .inl q => .inl (if q.1 = 0 then cI else cZ, q.2.1, .inl q.2.2)
  | .inr q => .inr (q.1, q.2.map (rz_v ad))
def rz_ws (cI cZ : ClassId) (ad : Nat → Nat) (N : Nat) (w : rz_W) : va_W := (List.range N).map (fun h => (ad h, rz_c cI cZ ad (w h)))
theorem rz_ws_at {cI cZ : ClassId} {ad : Nat → Nat} {N : Nat} {w : rz_W} {h : Nat} (hh : h < N) : (rz_ws cI cZ ad N w)[h]? = some (ad h, rz_c cI cZ ad (w h)) := by
  unfold rz_ws
  rw [List.getElem?_map, List.getElem?_range hh]
  rfl
theorem rz_ws_out {cI cZ : ClassId} {ad : Nat → Nat} {N : Nat} {w : rz_W} {h : Nat} (hh : N ≤ h) : (rz_ws cI cZ ad N w)[h]? = none := by
  apply List.getElem?_eq_none
  unfold rz_ws
  rw [List.length_map, List.length_range]
  exact hh
theorem rz_ws_set {cI cZ : ClassId} {ad : Nat → Nat} {N : Nat} {w : rz_W} {h : Nat} (hh : h < N) (c : rz_C) : (rz_ws cI cZ ad N w).set h (ad h, rz_c cI cZ ad c) = rz_ws cI cZ ad N (rz_up w h c) := by
  apply List.ext_getElem?
  intro j
  by_cases hj : j < N
  · rw [rz_ws_at hj, List.getElem?_set]
    by_cases he : h = j
    · subst he
      rw [if_pos rfl, if_pos (by unfold rz_ws; rw [List.length_map, List.length_range]; exact hh)]
      simp [rz_up]
    · rw [if_neg he, rz_ws_at hj]
      simp [rz_up, Ne.symm he]
  · rw [rz_ws_out (Nat.le_of_not_lt hj), List.getElem?_set]
    by_cases he : h = j
    · omega
    · rw [if_neg he, rz_ws_out (Nat.le_of_not_lt hj)]
def rz_A (N : Nat) (ad : Nat → Nat) : Nat → Prop := fun q => ∃ h, h < N ∧ q = ad h
theorem rz_D {cI cZ : ClassId} {ad : Nat → Nat} {N : Nat} {w : rz_W} (hi : ∀ a b, a < N → b < N → ad a = ad b → a = b) : va_D (rz_A N ad) (rz_ws cI cZ ad N w) := by
  have key : ∀ (k : Nat) (q : Nat × va_E), (rz_ws cI cZ ad N w)[k]? = some q → k < N ∧ q.1 = ad k := by
    intro k q h
    by_cases hk : k < N
    · rw [rz_ws_at hk] at h
      cases h
      exact ⟨hk, rfl⟩
    · rw [rz_ws_out (Nat.le_of_not_lt hk)] at h
      cases h
  refine ⟨fun i j p q h1 h2 e => ?_, fun k q h => ?_⟩
  · obtain ⟨a1, a2⟩ := key i p h1
    obtain ⟨b1, b2⟩ := key j q h2
    exact hi i j a1 b1 (by rw [← a2, ← b2]; exact e)
  · obtain ⟨a1, a2⟩ := key k q h
    exact ⟨k, a1, a2⟩
def rz_strLen : List Nat := rz_strs.map (fun q => q.2.2.length)
def rz_strByt : List (List Int32) := rz_strs.map (fun q => q.2.2.toList.map (fun ch => Int32.ofNat ch.toNat))
def rz_rt : Nat → Int32 := fun j => ([0, 1, 1, 1, 0, -1, -1, -1] : List Int32).getD j 0
def rz_dn : Nat → Int32 := fun j => ([-1, -1, 0, 1, 1, 1, 0, -1] : List Int32).getD j 0
/-- what nobody writes -/
def rz_ro : rz_W := fun h => if h = 1000 then .inl (0, 8, rz_rt) else if h = 1001 then .inl (0, 8, rz_dn) else if 1010 ≤ h ∧ h < 1010 + rz_strs.length then .inr (100, [.ref (h + 10), .int 0]) else if 1020 ≤ h ∧ h < 1020 + rz_strs.length then .inl (2, rz_strLen.getD (h - 1020) 0, fun j => (rz_strByt.getD (h - 1020) []).getD j 0) else .inr (999, [])
def rz_Wd (N : Nat) (w : rz_W) : Prop := ∀ h, N ≤ h → w h = rz_ro h
def rz_tbl : List Jvm.Cond := lw_tbl.filter goodWord
theorem rz_wd_mem {j : Nat} {w : Jvm.Cond} (h : rz_wd j w = true) : w ∈ rz_tbl := by
  simp only [rz_wd, Bool.and_eq_true, decide_eq_true_eq] at h
  exact List.mem_filter.mpr ⟨List.mem_of_getElem? h.1, h.2⟩
theorem rz_wn_mem {j : Nat} {w : Jvm.Cond} (h : rz_wn j w = true) : w ∈ lw_tbl := by
  simp only [rz_wn, decide_eq_true_eq] at h
  exact List.mem_of_getElem? h
theorem rz_good {w : Jvm.Cond} (h : w ∈ rz_tbl) : (w.onTables && w.keeps) = true ∨ ∃ ty, w = .arrayClass ty := good_of_word (List.mem_filter.mp h).2
def rz_Nw (U : State) : Prop := (∀ a i b n d h, Jvm.Cond.fieldLinkNest a i b n d h ∈ lw_tbl → va_Nw (.fieldLinkNest a i b n d h) U) ∧ (∀ a i x h, Jvm.Cond.methodLinkNest a i x h ∈ lw_tbl → va_Nw (.methodLinkNest a i x h) U)
/-- what stands around: statics, tables, String constants, links of nest mates -/
def rz_env (ad : Nat → Nat) (A : Nat → Prop) (U : State) (H : Heap) : Prop :=
  (∀ q ∈ rz_stc, va_Z q.1 q.2.1 q.2.2.1 (rz_v ad q.2.2.2) A U H) ∧ va_T .int (ad 1000) 8 (fun j => .int (rz_rt j)) A U H ∧ va_T .int (ad 1001) 8 (fun j => .int (rz_dn j)) A U H
  ∧ vk_S rz_strs.length rz_strLen rz_strByt (fun i => ad (1010 + i)) (fun i => ad (1020 + i)) A U H ∧ (∀ i q, rz_strs[i]? = some q → vk_R q.1 q.2.1 q.2.2 (ad (1010 + i)) U) ∧ rz_Nw U
theorem rz_env.call {ad : Nat → Nat} {A A' : Nat → Prop} {s U : State} {H : Heap} {locs : List Loc} (h : rz_env ad A s s.heap) (hS : va_S A s.heap H locs) (hU : U.heap = H) (hW : s.WarmedH U.vm) (hA : ∀ q, A' q → A q) : rz_env ad A' U U.heap := by
  obtain ⟨h1, h2, h3, h4, h5, h6, h7⟩ := h
  have ha := hW.alike
  rw [hU]
  refine ⟨fun q hq => (((h1 q hq).kept hS.2.1).narrow hA).moved ha, ((h2.kept hS.2.1).narrow hA).moved ha, ((h3.kept hS.2.1).narrow hA).moved ha, ((h4.kept hS.2.1).narrow hA).moved ha, fun i q hq => (h5 i q hq).warm hW, fun a i b n d x hm => (h6 a i b n d x hm).warmF hW, fun a i x y hm => (h7 a i x y hm).warmM hW⟩
theorem rz_env.face {ad : Nat → Nat} {A : Nat → Prop} {U V : State} (h : rz_env ad A U U.heap) (hv : V.vm = U.vm) (hh : V.heap = U.heap) : rz_env ad A V V.heap := by
  obtain ⟨h1, h2, h3, h4, h5, h6, h7⟩ := h
  have ha : U.vm.Alike V.vm := by rw [hv]; exact Vm.Alike.refl U.vm
  rw [hh]
  exact ⟨fun q hq => (h1 q hq).moved ha, h2.moved ha, h3.moved ha, h4.moved ha, fun i q hq => (h5 i q hq).same hv, fun a i b n d x hm => (h6 a i b n d x hm).same rfl hv.symm, fun a i x y hm => (h7 a i x y hm).same rfl hv.symm⟩
def rz_Pc (D : va_G) (cI cZ : ClassId) (ad : Nat → Nat) (N : Nat) (as : List Value) (w : rz_W) : Array Value → State → Prop := fun v U => v = (as.map (rz_v ad)).toArray ∧ va_P D vwCl (rz_ws cI cZ ad N w) U.heap ∧ rz_Wd N w ∧ va_K D vwCl [(cI, .int), (cZ, .boolean)] U ∧ rz_env ad (rz_A N ad) U U.heap
def rz_Qc (D : va_G) (cI cZ : ClassId) (ad : Nat → Nat) (N : Nat) (v : Option Value) (w' : rz_W) : Array Value → State → Outcome → State → Prop := fun _ st oc t => (oc = .returned (v.map (rz_v ad)) ∧ va_P D vwCl (rz_ws cI cZ ad N w') t.heap ∧ rz_Wd N w') ∧ va_F (rz_A N ad) st t
def rz_rm (d : Nat) : Room := { frames := d, cells := 0, slots := 0, locals := 50 * d }
def rz_wsM (q : rz_Q) : List Jvm.Cond := .code q.1 q.2.1 q.2.2.1 q.2.2.2.1 :: rz_tbl
def rz_Met (l : Launch) (d i : Nat) (as : List Value) (w : rz_W) (v : Option Value) (w' : rz_W) : Prop := ∀ (q : rz_Q), rz_ms[i]? = some q → ∀ (D : va_G) (cI cZ : ClassId) (ad : Nat → Nat) (N : Nat), N ≤ 1000 → (∀ a b, a < N → b < N → ad a = ad b → a = b) → Met l q.1 (rz_wsM q) (rz_rm d) (rz_Pc D cI cZ ad N as w) (rz_Qc D cI cZ ad N v w') 0 0 (rz_A N ad)
theorem rz_Pc_blind {D : va_G} {cI cZ : ClassId} {ad : Nat → Nat} {N : Nat} {as : List Value} {w : rz_W} : FrameBlind (rz_Pc D cI cZ ad N as w) := by
  intro a U g mk h
  obtain ⟨h1, h2, h3, h4, h5⟩ := h
  exact ⟨h1, h2, h3, va_K.moved (u := U) (U := U.calling g mk a) (Vm.Alike.refl U.vm) h4, rz_env.face h5 rfl rfl⟩
/-- locals -/
def rz_Ls (ad : Nat → Nat) (ls : Array Slot) (L : rz_L) : Prop := ls.size = L.length ∧ lv_wf ls ∧ ∀ (i : Nat) (v : Value), L[i]? = some (some v) → ls[i]? = some (Slot.val (rz_v ad v))
def rz_lv (ad : Nat → Nat) (L : rz_L) : List (Nat × Value) := (List.range L.length).filterMap (fun i => match L[i]? with | some (some v) => some (i, rz_v ad v) | _ => none)
theorem rz_lv_mem {ad : Nat → Nat} {L : rz_L} {q : Nat × Value} : q ∈ rz_lv ad L ↔ ∃ v, L[q.1]? = some (some v) ∧ q.2 = rz_v ad v := by
  unfold rz_lv
  rw [List.mem_filterMap]
  constructor
  · intro ⟨i, hi, h⟩
    split at h
    · rename_i v e
      cases h
      exact ⟨v, e, rfl⟩
    · cases h
  · intro ⟨v, e, h2⟩
    refine ⟨q.1, ?_, ?_⟩
    · rw [List.mem_range]
      exact (List.getElem?_eq_some_iff.mp e).1
    · rw [e]
      show some (q.1, rz_v ad v) = some q
      rw [← h2]
theorem rz_Ls_has {ad : Nat → Nat} {ls : Array Slot} {L : rz_L} : rz_Ls ad ls L ↔ lv_has ls L.length (rz_lv ad L) := by
  constructor
  · intro ⟨h1, h2, h3⟩
    refine ⟨h1, h2, fun q hq => ?_⟩
    obtain ⟨v, e1, e2⟩ := rz_lv_mem.mp hq
    rw [e2]
    exact h3 _ _ e1
  · intro ⟨h1, h2, h3⟩
    exact ⟨h1, h2, fun i v e => h3 (i, rz_v ad v) (rz_lv_mem.mpr ⟨v, e, rfl⟩)⟩
theorem rz_v_cat (ad : Nat → Nat) (v : Value) : (rz_v ad v).category = v.category := by cases v <;> first | rfl | (show (if ad 1031 = 0 then Value.null else Value.ref (ad 1030)).category = _; split <;> rfl)
theorem rz_cat1_v {ad : Nat → Nat} {v : Value} (h : rz_cat1 v = true) : (rz_v ad v).category = 1 := by cases v <;> first | rfl | (show (if ad 1031 = 0 then Value.null else Value.ref (ad 1030)).category = _; split <;> rfl) | cases h
theorem rz_set1_len : ∀ (L : rz_L) (i : Nat) (v : Value), (rz_set1 L i v).length = L.length := by
  intro L
  induction L with
  | nil => intro i v; rfl
  | cons a t ih =>
    intro i v
    cases i with
    | zero => rfl
    | succ i => simp [rz_set1, ih]
theorem rz_set1_at : ∀ (L : rz_L) (i : Nat) (v : Value) (j : Nat) (u : Value), (rz_set1 L i v)[j]? = some (some u) → (j = i ∧ u = v) ∨ (j ≠ i ∧ L[j]? = some (some u) ∧ (j + 1 = i → u.category ≠ 2)) := by
  intro L
  induction L with
  | nil => intro i v j u h; simp [rz_set1] at h
  | cons a t ih =>
    intro i v j u h
    cases i with
    | zero =>
      cases j with
      | zero => simp [rz_set1] at h; exact Or.inl ⟨rfl, h.symm⟩
      | succ j => simp [rz_set1] at h; exact Or.inr ⟨by omega, by simpa using h, by omega⟩
    | succ i =>
      cases j with
      | zero =>
        refine Or.inr ⟨by omega, ?_⟩
        simp only [rz_set1, List.getElem?_cons_zero, Option.some.injEq] at h
        by_cases hi : i = 0
        · rw [if_pos hi] at h
          cases a with
          | none => simp [rz_clr] at h
          | some z =>
            cases z <;> simp [rz_clr] at h <;> (subst h; refine ⟨rfl, fun _ => ?_⟩; simp [Value.category])
        · rw [if_neg hi] at h
          exact ⟨by simp [h], fun q => by omega⟩
      | succ j =>
        simp only [rz_set1, List.getElem?_cons_succ] at h
        rcases ih i v j u h with ⟨h1, h2⟩ | ⟨h1, h2, h3⟩
        · exact Or.inl ⟨by omega, h2⟩
        · exact Or.inr ⟨by omega, by simpa using h2, fun q => h3 (by omega)⟩
theorem rz_Ls_set1 {ad : Nat → Nat} {ls : Array Slot} {L : rz_L} {i : Nat} {v : Value} (h : lv_has ls L.length ((i, rz_v ad v) :: (rz_lv ad L).filter (fun q => !(q.1 == i) && !(q.1 + 1 == i && q.2.category == 2)))) : rz_Ls ad ls (rz_set1 L i v) := by
  obtain ⟨h1, h2, h3⟩ := h
  refine ⟨by rw [rz_set1_len]; exact h1, h2, fun j u e => ?_⟩
  rcases rz_set1_at L i v j u e with ⟨e1, e2⟩ | ⟨e1, e2, e3⟩
  · subst e1; subst e2
    exact h3 (j, rz_v ad u) List.mem_cons_self
  · refine h3 (j, rz_v ad u) (List.mem_cons_of_mem _ (List.mem_filter.mpr ⟨rz_lv_mem.mpr ⟨u, e2, rfl⟩, ?_⟩))
    simp only [rz_v_cat, Bool.and_eq_true, Bool.not_eq_true', beq_eq_false_iff_ne, Bool.and_eq_false_iff, ne_eq]
    refine ⟨e1, ?_⟩
    by_cases q : j + 1 = i
    · exact Or.inr (e3 q)
    · exact Or.inl q
theorem rz_Ls_set2 {ad : Nat → Nat} {ls : Array Slot} {L : rz_L} {i : Nat} {v : Value} (h : lv_has ls L.length ((i, rz_v ad v) :: (rz_lv ad L).filter (fun q => !(q.1 == i) && (!(q.1 == i + 1) && !(q.1 + 1 == i && q.2.category == 2))))) : rz_Ls ad ls (rz_set2 L i v) := by
  obtain ⟨h1, h2, h3⟩ := h
  refine ⟨by unfold rz_set2; rw [List.length_set, rz_set1_len]; exact h1, h2, fun j u e => ?_⟩
  unfold rz_set2 at e
  rw [List.getElem?_set] at e
  by_cases hj : i + 1 = j
  · rw [if_pos hj] at e
    split at e <;> cases e
  · rw [if_neg hj] at e
    rcases rz_set1_at L i v j u e with ⟨e1, e2⟩ | ⟨e1, e2, e3⟩
    · subst e1; subst e2
      exact h3 (j, rz_v ad u) List.mem_cons_self
    · refine h3 (j, rz_v ad u) (List.mem_cons_of_mem _ (List.mem_filter.mpr ⟨rz_lv_mem.mpr ⟨u, e2, rfl⟩, ?_⟩))
      simp only [rz_v_cat, Bool.and_eq_true, Bool.not_eq_true', beq_eq_false_iff_ne, Bool.and_eq_false_iff, ne_eq]
      refine ⟨e1, fun q => hj q.symm, ?_⟩
      by_cases q : j + 1 = i
      · exact Or.inr (e3 q)
      · exact Or.inl q
theorem rz_lod_some {L : rz_L} {i : Nat} {v : Value} (h : rz_lod L i = some v) : L[i]? = some (some v) := by
  unfold rz_lod at h
  split at h
  · rename_i z e
    cases h
    exact e
  · cases h
section RZ
variable {p : Program} {l : Launch} {e : Env} {R : Room} {s : State} {m : MethodId} {args : Array Value} {below : List Frame} {meth : Method} {c : Code} {H : Heap} {locs : List Loc} {cells slots : Nat} {Q : State → Prop}
variable {cc : ByteArray} {pc : Nat} {ls : Array Slot} {ad : Nat → Nat}
theorem rz_alu_W (hx : p.tables.exec = Jvm.exec) (hb : c.code = cc) {i : Instr} {a b j : Nat} {cv : Value} {ln : Nat} {st st' : List Value} (h : rz_alu i st = some st') (hdg : decode cc pc = .ok (i, rz_ln (i, ln, a, b, j, cv)))
    (k : W p l e R s m args below meth c H locs cells slots Q (F0 m (pc + rz_ln (i, ln, a, b, j, cv)) ls (st'.map (rz_v ad)))) : W p l e R s m args below meth c H locs cells slots Q (F0 m pc ls (st.map (rz_v ad))) := by
  unfold rz_alu at h
  split at h
  · cases h; exact lv_iconst hx hb hdg rfl k
  · cases h; exact lv_bipush hx hb hdg rfl k
  · cases h; exact lv_sipush hx hb hdg rfl k
  · cases h; exact lv_lconst hx hb hdg rfl k
  · cases h; exact lv_iadd hx hb hdg k
  · cases h; exact lv_isub hx hb hdg k
  · cases h; exact lv_imul hx hb hdg k
  · cases h; exact lv_iand hx hb hdg k
  · cases h; exact lv_ior hx hb hdg k
  · cases h; exact lv_ixor hx hb hdg k
  · split at h
    · cases h
    · rename_i hy
      cases h; exact lv_idiv hx hb hdg hy k
  · split at h
    · cases h
    · rename_i hy
      cases h; exact lv_irem hx hb hdg hy k
  · cases h; exact lv_ineg hx hb hdg k
  · cases h; exact lv_ishl hx hb hdg k
  · cases h; exact lv_ishr hx hb hdg k
  · cases h; exact lv_iushr hx hb hdg rfl k
  · cases h; exact lv_i2l hx hb hdg rfl k
  · cases h; exact lv_l2i hx hb hdg rfl k
  · cases h; exact lv_i2c hx hb hdg rfl k
  · cases h; exact lv_ladd hx hb hdg k
  · cases h; exact lv_lmul hx hb hdg k
  · cases h; exact lv_land hx hb hdg k
  · cases h; exact lv_lor hx hb hdg k
  · cases h; exact lv_lshl hx hb hdg rfl k
  · cases h; exact lv_lshr hx hb hdg rfl k
  · cases h; exact lv_lushr hx hb hdg rfl k
  · cases h; exact W.lcmp hx hb hdg k
  · split at h
    · rename_i q
      cases h; exact lv_dup hx hb hdg (rz_cat1_v q) k
    · cases h
  · split at h
    · rename_i q
      rw [Bool.and_eq_true] at q
      cases h; exact lv_dup2_11 hx hb hdg (rz_cat1_v q.1) (rz_cat1_v q.2) k
    · cases h
  · split at h
    · rename_i q
      cases h; exact lv_pop hx hb hdg (rz_cat1_v q) k
    · cases h
  · cases h
theorem rz_if_W (hx : p.tables.exec = Jvm.exec) (hb : c.code = cc) {cd : ClassFile.Cond} {off : Int} {tgt : Nat} {x : Int32} {r : List Value} (hdg : decode cc pc = .ok (.ifCond cd off, 3)) (ht : (pc : Int) + off = (tgt : Int))
    (k : W p l e R s m args below meth c H locs cells slots Q (F0 m (if rz_bt cd x 0 = true then tgt else pc + 3) ls r)) : W p l e R s m args below meth c H locs cells slots Q (F0 m pc ls (.int x :: r)) := by
  cases cd <;> simp only [rz_bt, decide_eq_true_eq] at k
  · exact lv_if_eq hx hb hdg ht (fun h => by rw [if_pos h] at k; exact k) (fun h => by rw [if_neg h] at k; exact k)
  · exact lv_if_ne hx hb hdg ht (fun h => by rw [if_pos h] at k; exact k) (fun h => by rw [if_neg (not_not_intro h)] at k; exact k)
  · exact lv_if_lt hx hb hdg ht (fun h => by rw [if_pos h] at k; exact k) (fun h => by rw [if_neg h] at k; exact k)
  · exact lv_if_ge hx hb hdg ht (fun h => by rw [if_pos h] at k; exact k) (fun h => by rw [if_neg h] at k; exact k)
  · exact lv_if_gt hx hb hdg ht (fun h => by rw [if_pos h] at k; exact k) (fun h => by rw [if_neg h] at k; exact k)
  · exact lv_if_le hx hb hdg ht (fun h => by rw [if_pos h] at k; exact k) (fun h => by rw [if_neg h] at k; exact k)
theorem rz_icmp_W (hx : p.tables.exec = Jvm.exec) (hb : c.code = cc) {cd : ClassFile.Cond} {off : Int} {tgt : Nat} {x y : Int32} {r : List Value} (hdg : decode cc pc = .ok (.if_icmp cd off, 3)) (ht : (pc : Int) + off = (tgt : Int))
    (k : W p l e R s m args below meth c H locs cells slots Q (F0 m (if rz_bt cd x y = true then tgt else pc + 3) ls r)) : W p l e R s m args below meth c H locs cells slots Q (F0 m pc ls (.int y :: .int x :: r)) := by
  cases cd <;> simp only [rz_bt, decide_eq_true_eq] at k
  · exact lv_icmp_eq hx hb hdg ht (fun h => by rw [if_pos h] at k; exact k) (fun h => by rw [if_neg h] at k; exact k)
  · exact lv_icmp_ne hx hb hdg ht (fun h => by rw [if_pos h] at k; exact k) (fun h => by rw [if_neg (not_not_intro h)] at k; exact k)
  · exact lv_icmp_lt hx hb hdg ht (fun h => by rw [if_pos h] at k; exact k) (fun h => by rw [if_neg h] at k; exact k)
  · exact lv_icmp_ge hx hb hdg ht (fun h => by rw [if_pos h] at k; exact k) (fun h => by rw [if_neg h] at k; exact k)
  · exact lv_icmp_gt hx hb hdg ht (fun h => by rw [if_pos h] at k; exact k) (fun h => by rw [if_neg h] at k; exact k)
  · exact lv_icmp_le hx hb hdg ht (fun h => by rw [if_pos h] at k; exact k) (fun h => by rw [if_neg h] at k; exact k)
theorem rz_sw_W (hx : p.tables.exec = Jvm.exec) (hb : c.code = cc) {d lo hi : Int} {offs : Array Int} {len tgt : Nat} {x : Int32} {r : List Value} (hdg : decode cc pc = .ok (.tableswitch d lo hi offs, len)) (h : rz_sw pc d lo hi offs x = some tgt)
    (k : W p l e R s m args below meth c H locs cells slots Q (F0 m tgt ls r)) : W p l e R s m args below meth c H locs cells slots Q (F0 m pc ls (.int x :: r)) := by
  unfold rz_sw at h
  split at h
  · rename_i o ho
    split at h
    · rename_i hp
      cases h
      have ht : (pc : Int) + o = ((((pc : Int) + o).toNat : Nat) : Int) := (Int.toNat_of_nonneg hp).symm
      split at ho
      · rename_i hc
        cases ho
        exact lv_tableOut hx hb hdg hc ht k
      · rename_i hc
        exact lv_tableIn hx hb hdg (fun z => hc (Or.inl z)) (fun z => hc (Or.inr z)) ho ht k
    · cases h
  · cases h
end RZ
