-- the machine's heap, calls, whole methods
theorem rz_cl_ok : ∀ (ci : Nat) (q : vw_C), vwCl[ci]? = some q → (∀ w ∈ u_ws q.1 q.2.1 q.2.2, w ∈ rz_tbl) ∧ (∃ ty0 : Nat → FieldType, ∀ k, k < q.2.2 → parseFieldDescriptor (q.2.1 k).2.2.1 = some (ty0 k)) ∧ (∀ a, a < q.2.2 → ∀ b, b < q.2.2 → a ≠ b → (q.2.1 a).2.1 ≠ (q.2.1 b).2.1) := by
  have k0 : ∀ w ∈ u_ws RX0 TX0 11, w ∈ rz_tbl := by decide +kernel
  have k1 : ∀ w ∈ u_ws RX1 TX1 5, w ∈ rz_tbl := by decide +kernel
  have k2 : ∀ w ∈ u_ws RX2 TX2 10, w ∈ rz_tbl := by decide +kernel
  have k3 : ∀ w ∈ u_ws RX3 TX3 7, w ∈ rz_tbl := by decide +kernel
  have k4 : ∀ w ∈ u_ws RX4 TX4 11, w ∈ rz_tbl := by decide +kernel
  have k5 : ∀ w ∈ u_ws RX5 TX5 19, w ∈ rz_tbl := by decide +kernel
  intro ci q h
  match ci, h with
  | 0, h => cases h; exact ⟨k0, ⟨tyX0, tyX0_ok⟩, nmX0⟩
  | 1, h => cases h; exact ⟨k1, ⟨tyX1, tyX1_ok⟩, nmX1⟩
  | 2, h => cases h; exact ⟨k2, ⟨tyX2, tyX2_ok⟩, nmX2⟩
  | 3, h => cases h; exact ⟨k3, ⟨tyX3, tyX3_ok⟩, nmX3⟩
  | 4, h => cases h; exact ⟨k4, ⟨tyX4, tyX4_ok⟩, nmX4⟩
  | 5, h => cases h; exact ⟨k5, ⟨tyX5, tyX5_ok⟩, nmX5⟩
  | k + 6, h => simp [vwCl] at h
theorem rz_math_words : (Jvm.Cond.static Lib.Math.max.name ∈ rz_tbl ∧ Jvm.Cond.code Lib.Math.max.name Lib.Math.max.code 2 (some .int) ∈ rz_tbl) ∧ (Jvm.Cond.static Lib.Math.min.name ∈ rz_tbl ∧ Jvm.Cond.code Lib.Math.min.name Lib.Math.min.code 2 (some .int) ∈ rz_tbl) ∧ Jvm.Cond.initialized "java/lang/Math" ∈ rz_tbl := by decide +kernel
theorem rz_cs_map (ad : Nat → Nat) (r : List Value) : rz_cs (r.map (rz_v ad)) = rz_cs r := by
  unfold rz_cs
  rw [List.map_map]
  congr 1
  apply List.map_congr_left
  intro v _
  exact rz_v_cat ad v
section RZH
variable {p : Program} {l : Launch} {e : Env} {R : Room} {s : State} {m : MethodId} {args : Array Value} {below : List Frame} {meth : Method} {c : Code} {H : Heap} {locs : List Loc} {cells slots : Nat} {Q : State → Prop}
variable {cc : ByteArray} {pc : Nat} {ls : Array Slot} {ad : Nat → Nat} {D : va_G} {cI cZ : ClassId} {N : Nat} {w : rz_W} {own : String}
/-- what is known of a running method -/
def rz_Fx (p : Program) (s : State) (m : MethodId) (args : Array Value) (c : Code) (cc : ByteArray) (own : String) (D : va_G) (cI cZ : ClassId) (ad : Nat → Nat) (N : Nat) : Prop :=
  p.tables.exec = Jvm.exec ∧ c.code = cc ∧ s.vm.findClass own = some m.cls ∧ (∀ w ∈ rz_tbl, w.before args s = true) ∧ va_K D vwCl [(cI, .int), (cZ, .boolean)] s ∧ rz_env ad (rz_A N ad) s s.heap ∧ N ≤ 1000 ∧ (∀ a b, a < N → b < N → ad a = ad b → a = b)
theorem rz_in {w : rz_W} {h : Nat} (hW : rz_Wd N w) (hN : N ≤ 1000) (hh : h < 1000) {q : Nat × List Value} (e : w h = .inr q) (hq : q.1 ≠ 999) : h < N := by
  rcases Nat.lt_or_ge h N with z | z
  · exact z
  · exfalso
    rw [hW h z] at e
    unfold rz_ro at e
    rw [if_neg (by omega), if_neg (by omega), if_neg (by omega), if_neg (by omega)] at e
    cases e
    exact hq rfl
theorem rz_inA {w : rz_W} {h : Nat} (hW : rz_Wd N w) (hN : N ≤ 1000) (hh : h < 1000) {q : Nat × Nat × (Nat → Int32)} (e : w h = .inl q) : h < N := by
  rcases Nat.lt_or_ge h N with z | z
  · exact z
  · exfalso
    rw [hW h z] at e
    unfold rz_ro at e
    rw [if_neg (by omega), if_neg (by omega), if_neg (by omega), if_neg (by omega)] at e
    cases e
theorem rz_Wd_up {w : rz_W} {h : Nat} {x : rz_C} (hW : rz_Wd N w) (hh : h < N) : rz_Wd N (rz_up w h x) := by
  intro j hj
  show (if j = h then x else w j) = rz_ro j
  rw [if_neg (by omega)]
  exact hW j hj
theorem rz_getf_W (F : rz_Fx p s m args c cc own D cI cZ ad N) (hS : va_S (rz_A N ad) s.heap H locs) (hP : va_P D vwCl (rz_ws cI cZ ad N w) H) (hW : rz_Wd N w) {i a b j h : Nat} {q : rz_Q} (hq : q.1.cls = own) {ln : Nat} {cv v : Value} {r : List Value}
    (hok : rz_okI q (pc, .getfield i, ln, a, b, j, cv) = true) (hdg : decode cc pc = .ok (.getfield i, 3)) (hf : rz_fld w h a b = some v)
    (k : W p l e R s m args below meth c H locs cells slots Q (F0 m (pc + 3) ls (rz_v ad v :: r))) : W p l e R s m args below meth c H locs cells slots Q (F0 m pc ls (.ref (ad h) :: r)) := by
  obtain ⟨hx, hb, hown, hts, hK, hE, hN, hinj⟩ := F
  subst hq
  simp only [rz_okI, Bool.and_eq_true] at hok
  have hok := hok.2
  unfold rz_fld at hf
  split at hf
  · rename_i ci fs ew
    split at hf
    · rename_i hci
      subst hci
      rcases Nat.lt_or_ge h N with hh | hh
      · have hp := rz_ws_at (cI := cI) (cZ := cZ) (ad := ad) (w := w) hh
        rw [ew] at hp
        obtain ⟨⟨C, T, n⟩, hc, hat⟩ := hP h _ hp
        dsimp only at hc
        rw [hc] at hok
        simp only [Bool.and_eq_true, Bool.or_eq_true, decide_eq_true_eq] at hok
        obtain ⟨hk, hlink⟩ := hok
        obtain ⟨hin, -, -⟩ := rz_cl_ok ci (C, T, n) hc
        have hv : (fs.map (rz_v ad))[b]? = some (rz_v ad v) := by rw [List.getElem?_map, hf]; rfl
        rcases hlink with hl | hl
        · exact va_get (D := D) (cl := vwCl) (ci := ci) (C := C) (T := T) (N := n) hx hb hts hin hown hK hP h hp hc b hk (hts _ (rz_wd_mem hl)) (fun _ h9 => h9) hv hdg k
        · exact va_getN (D := D) (cl := vwCl) (ci := ci) (C := C) (T := T) (N := n) hx hb hts hin hown hK hP h hp hc b hk ((hE.2.2.2.2.2.1 _ _ _ _ _ _ (rz_wn_mem hl)).use rfl) (fun _ h9 => h9) hv hdg k
      · rw [hW h hh] at ew
        unfold rz_ro at ew
        split at ew
        · cases ew
        split at ew
        · cases ew
        split at ew
        · rename_i hr
          cases ew
          have hok' : rz_wd j (.fieldLink q.1.cls i "java/lang/String" "value" "[B") = true ∧ b = 0 ∨ rz_wd j (.fieldLink q.1.cls i "java/lang/String" "coder" "B") = true ∧ b = 1 := by
            have hn : vwCl[100]? = none := rfl
            rw [hn] at hok
            simp only [Bool.and_eq_true, Bool.or_eq_true, decide_eq_true_eq] at hok
            rcases hok.2 with z | z
            · exact Or.inl ⟨z.2, z.1⟩
            · exact Or.inr ⟨z.2, z.1⟩
          obtain ⟨i', rfl⟩ : ∃ i', h = 1010 + i' := ⟨h - 1010, by omega⟩
          have hE4 := hE.2.2.2.1.1 i' (by omega)
          rcases hok' with ⟨hl, rfl⟩ | ⟨hl, rfl⟩
          · have hv : v = .ref (1010 + i' + 10) := by simpa using hf.symm
            subst hv
            have k' : W p l e R s m args below meth c H locs cells slots Q (F0 m (pc + 3) ls (.ref (ad (1020 + i')) :: r)) := by
              have e9 : 1010 + i' + 10 = 1020 + i' := by omega
              rw [e9] at k
              exact k
            exact vk_getf hx hb hE4.2.2.1 hS hown (hts _ (rz_wd_mem hl)) (fun _ h9 => h9) hdg k'
          · have hv : v = .int 0 := by simpa using hf.symm
            subst hv
            exact vk_getf hx hb hE4.2.1 hS hown (hts _ (rz_wd_mem hl)) (fun _ h9 => h9) hdg k
        split at ew
        · cases ew
        · cases ew
          have hn : vwCl[999]? = none := rfl
          rw [hn] at hok
          simp at hok
    · cases hf
  · cases hf
theorem rz_kind_n {ty : FieldType} {v : Value} (h : rz_kindOk ty v = true) : narrow ty (rz_v ad v) = rz_v ad v ∧ fits ty (rz_v ad v) = true := by
  unfold rz_kindOk at h
  split at h
  · exact ⟨rfl, rfl⟩
  · exact ⟨rfl, rfl⟩
  · exact ⟨rfl, rfl⟩
  · cases h
theorem rz_putf_W (F : rz_Fx p s m args c cc own D cI cZ ad N) (hS : va_S (rz_A N ad) s.heap H locs) (hP : va_P D vwCl (rz_ws cI cZ ad N w) H) (hW : rz_Wd N w) {i a b j h : Nat} {q : rz_Q} (hq : q.1.cls = own) {ln : Nat} {cv v : Value} {r : List Value} {w' : rz_W}
    (hok : rz_okI q (pc, .putfield i, ln, a, b, j, cv) = true) (hdg : decode cc pc = .ok (.putfield i, 3)) (hfin : rz_finOk a b v = true) (hf : rz_put w h a b v = some w')
    (k : ∀ (H1 : Heap) (locs1 : List Loc), va_P D vwCl (rz_ws cI cZ ad N w') H1 → rz_Wd N w' → va_S (rz_A N ad) s.heap H1 locs1 → W p l e R s m args below meth c H1 locs1 cells slots Q (F0 m (pc + 3) ls r)) : W p l e R s m args below meth c H locs cells slots Q (F0 m pc ls (rz_v ad v :: .ref (ad h) :: r)) := by
  obtain ⟨hx, hb, hown, hts, hK, hE, hN, hinj⟩ := F
  subst hq
  simp only [rz_okI, Bool.and_eq_true] at hok
  have hok := hok.2
  unfold rz_put at hf
  split at hf
  · rename_i ci fs ew
    split at hf
    · rename_i hci
      obtain ⟨rfl, hlen, hh0⟩ := hci
      cases hf
      unfold rz_finOk at hfin
      cases hc : vwCl[ci]? with
      | none => rw [hc] at hfin; cases hfin
      | some q9 =>
        obtain ⟨C, T, n⟩ := q9
        rw [hc] at hfin hok
        simp only [Bool.and_eq_true, Bool.or_eq_true, decide_eq_true_eq, Bool.not_eq_true'] at hfin hok
        have hci9 : ci ≠ 999 := by
          intro z
          rw [z] at hc
          cases hc
        have hh : h < N := rz_in hW hN hh0 ew hci9
        have hp := rz_ws_at (cI := cI) (cZ := cZ) (ad := ad) (w := w) hh
        rw [ew] at hp
        obtain ⟨hk, hlink⟩ := hok
        obtain ⟨⟨-, hnf⟩, hkd⟩ := hfin
        obtain ⟨hin, ⟨ty0, hty⟩, hnm⟩ := rz_cl_ok ci (C, T, n) hc
        cases hd : parseFieldDescriptor (T b).2.2.1 with
        | none => rw [hd] at hkd; cases hkd
        | some ty =>
          rw [hd] at hkd
          obtain ⟨hn1, hn2⟩ := rz_kind_n (ad := ad) hkd
          have kk : ∀ (H1 : Heap) (locs1 : List Loc), va_P D vwCl ((rz_ws cI cZ ad N w).set h (ad h, .inr (ci, (fs.map (rz_v ad)).set b (rz_v ad v)))) H1 → va_D (rz_A N ad) ((rz_ws cI cZ ad N w).set h (ad h, .inr (ci, (fs.map (rz_v ad)).set b (rz_v ad v)))) → va_S (rz_A N ad) s.heap H1 locs1 → W p l e R s m args below meth c H1 locs1 cells slots Q (F0 m (pc + 3) ls r) := by
            intro H1 locs1 h1 _ h3
            refine k H1 locs1 ?_ (rz_Wd_up hW hh) h3
            rw [← rz_ws_set hh]
            have e9 : rz_c cI cZ ad (.inr (ci, fs.set b v)) = .inr (ci, (fs.map (rz_v ad)).set b (rz_v ad v)) := by
              show (Sum.inr (ci, (fs.set b v).map (rz_v ad)) : va_E) = _
              rw [List.map_set]
            rw [e9]
            exact h1
          have hl9 : b < (fs.map (rz_v ad)).length := by rw [List.length_map]; exact hlen
          rcases hlink with hl | hl
          · exact va_put (D := D) (cl := vwCl) (ci := ci) (ty := ty) (C := C) (T := T) (N := n) hx hb hts hin ty0 hty hnm hown hK hP (rz_D hinj) hS h hp hc b hk (hts _ (rz_wd_mem hl)) (fun _ h9 => h9) hnf hd hn1 hn2 hl9 hdg kk
          · exact va_putN (D := D) (cl := vwCl) (ci := ci) (ty := ty) (C := C) (T := T) (N := n) hx hb hts hin ty0 hty hnm hown hK hP (rz_D hinj) hS h hp hc b hk ((hE.2.2.2.2.2.1 _ _ _ _ _ _ (rz_wn_mem hl)).use rfl) (fun _ h9 => h9) hnf hd hn1 hn2 hl9 hdg kk
    · cases hf
  · cases hf
theorem rz_iald_W (F : rz_Fx p s m args c cc own D cI cZ ad N) (hS : va_S (rz_A N ad) s.heap H locs) (hP : va_P D vwCl (rz_ws cI cZ ad N w) H) (hW : rz_Wd N w) {h : Nat} {i x : Int32} {r : List Value}
    (hdg : decode cc pc = .ok (.iaload, 1)) (hf : rz_ald w h 0 i = some x)
    (k : W p l e R s m args below meth c H locs cells slots Q (F0 m (pc + 1) ls (.int x :: r))) : W p l e R s m args below meth c H locs cells slots Q (F0 m pc ls (.int i :: .ref (ad h) :: r)) := by
  obtain ⟨hx, hb, hown, hts, hK, hE, hN, hinj⟩ := F
  unfold rz_ald at hf
  split at hf
  · rename_i t n f ew
    by_cases hc : t = 0 ∧ ¬ (i < 0 ∨ n ≤ i.toNatClampNeg)
    · rw [if_pos hc] at hf
      obtain ⟨rfl, hin⟩ := hc
      cases hf
      rcases Nat.lt_or_ge h N with hh | hh
      · have hp := rz_ws_at (cI := cI) (cZ := cZ) (ad := ad) (w := w) hh
        rw [ew] at hp
        exact va_iald (D := D) (cl := vwCl) hx hb hK hP h 0 (cA := cI) (n := n) (f := f) hp rfl hin hdg k
      · rw [hW h hh] at ew
        unfold rz_ro at ew
        split at ew
        · rename_i e1
          cases ew; subst e1
          exact va_ti hx hb hE.2.1 hS hin rfl hdg k
        split at ew
        · rename_i e1
          cases ew; subst e1
          exact va_ti hx hb hE.2.2.1 hS hin rfl hdg k
        split at ew
        · cases ew
        split at ew
        · cases ew
        · cases ew
    · rw [if_neg hc] at hf
      cases hf
  · cases hf
theorem rz_bald_W (F : rz_Fx p s m args c cc own D cI cZ ad N) (hS : va_S (rz_A N ad) s.heap H locs) (hP : va_P D vwCl (rz_ws cI cZ ad N w) H) (hW : rz_Wd N w) {h : Nat} {i x : Int32} {r : List Value}
    (hdg : decode cc pc = .ok (.baload, 1)) (hf : rz_ald w h (if h < 1000 then 1 else 2) i = some x)
    (k : W p l e R s m args below meth c H locs cells slots Q (F0 m (pc + 1) ls (.int x :: r))) : W p l e R s m args below meth c H locs cells slots Q (F0 m pc ls (.int i :: .ref (ad h) :: r)) := by
  obtain ⟨hx, hb, hown, hts, hK, hE, hN, hinj⟩ := F
  unfold rz_ald at hf
  split at hf
  · rename_i t n f ew
    by_cases hc : t = (if h < 1000 then 1 else 2) ∧ ¬ (i < 0 ∨ n ≤ i.toNatClampNeg)
    · rw [if_pos hc] at hf
      obtain ⟨ht, hin⟩ := hc
      cases hf
      by_cases h0 : h < 1000
      · rw [if_pos h0] at ht
        subst ht
        have hh : h < N := rz_inA hW hN h0 ew
        have hp := rz_ws_at (cI := cI) (cZ := cZ) (ad := ad) (w := w) hh
        rw [ew] at hp
        exact va_zald (D := D) (cl := vwCl) hx hb hK hP h 1 (cA := cZ) (n := n) (f := f) hp rfl hin hdg k
      · rw [if_neg h0] at ht
        subst ht
        rw [hW h (by omega)] at ew
        unfold rz_ro at ew
        split at ew
        · cases ew
        split at ew
        · cases ew
        split at ew
        · cases ew
        split at ew
        · rename_i hr
          rw [Sum.inl.injEq, Prod.mk.injEq, Prod.mk.injEq] at ew
          obtain ⟨e7, e8, e9⟩ := ew
          subst e8; subst e9
          obtain ⟨i', rfl⟩ : ∃ i', h = 1020 + i' := ⟨h - 1020, by omega⟩
          have hE4 := hE.2.2.2.1.1 i' (by omega)
          have e9 : 1020 + i' - 1020 = i' := by omega
          rw [e9] at hin k
          exact va_tb hx hb hE4.2.2.2 hS hin rfl hdg k
        · cases ew
    · rw [if_neg hc] at hf
      cases hf
  · cases hf
theorem rz_alen_W (F : rz_Fx p s m args c cc own D cI cZ ad N) (hS : va_S (rz_A N ad) s.heap H locs) (hP : va_P D vwCl (rz_ws cI cZ ad N w) H) (hW : rz_Wd N w) {h : Nat} {x : Int32} {r : List Value}
    (hdg : decode cc pc = .ok (.arraylength, 1)) (hf : rz_len w h = some x)
    (k : W p l e R s m args below meth c H locs cells slots Q (F0 m (pc + 1) ls (.int x :: r))) : W p l e R s m args below meth c H locs cells slots Q (F0 m pc ls (.ref (ad h) :: r)) := by
  obtain ⟨hx, hb, hown, hts, hK, hE, hN, hinj⟩ := F
  unfold rz_len at hf
  split at hf
  · rename_i t n f ew
    cases hf
    rcases Nat.lt_or_ge h N with hh | hh
    · have hp := rz_ws_at (cI := cI) (cZ := cZ) (ad := ad) (w := w) hh
      rw [ew] at hp
      by_cases h0 : t = 0
      · subst h0
        exact va_alen (D := D) (cl := vwCl) hx hb hK hP h 0 (cA := cI) (x := (n, .inl f)) hp rfl rfl hdg k
      · have hp' : (rz_ws cI cZ ad N w)[h]? = some (ad h, .inl (cZ, n, .inl f)) := by
          rw [hp]
          show some (ad h, (Sum.inl (if t = 0 then cI else cZ, n, .inl f) : va_E)) = _
          rw [if_neg h0]
        exact va_alen (D := D) (cl := vwCl) hx hb hK hP h 1 (cA := cZ) (x := (n, .inl f)) hp' rfl rfl hdg k
    · rw [hW h hh] at ew
      unfold rz_ro at ew
      split at ew
      · rename_i e1
        simp only [Sum.inl.injEq, Prod.mk.injEq] at ew
        obtain ⟨rfl, rfl, rfl⟩ := ew
        subst e1
        exact va_tlen hx hb hE.2.1 hS rfl hdg k
      split at ew
      · rename_i e1
        simp only [Sum.inl.injEq, Prod.mk.injEq] at ew
        obtain ⟨rfl, rfl, rfl⟩ := ew
        subst e1
        exact va_tlen hx hb hE.2.2.1 hS rfl hdg k
      split at ew
      · cases ew
      split at ew
      · rename_i hr
        rw [Sum.inl.injEq, Prod.mk.injEq, Prod.mk.injEq] at ew
        obtain ⟨e7, e8, e9⟩ := ew
        subst e7; subst e8; subst e9
        obtain ⟨i', rfl⟩ : ∃ i', h = 1020 + i' := ⟨h - 1020, by omega⟩
        have hE4 := hE.2.2.2.1.1 i' (by omega)
        have e9 : 1020 + i' - 1020 = i' := by omega
        rw [e9] at k
        exact va_tlen hx hb hE4.2.2.2 hS rfl hdg k
      · cases ew
  · cases hf
theorem rz_iast_W (F : rz_Fx p s m args c cc own D cI cZ ad N) (hS : va_S (rz_A N ad) s.heap H locs) (hP : va_P D vwCl (rz_ws cI cZ ad N w) H) (hW : rz_Wd N w) {h : Nat} {i x : Int32} {r : List Value} {w' : rz_W}
    (hdg : decode cc pc = .ok (.iastore, 1)) (hf : rz_ast w h 0 i x = some w')
    (k : ∀ (H1 : Heap) (locs1 : List Loc), va_P D vwCl (rz_ws cI cZ ad N w') H1 → rz_Wd N w' → va_S (rz_A N ad) s.heap H1 locs1 → W p l e R s m args below meth c H1 locs1 cells slots Q (F0 m (pc + 1) ls r)) : W p l e R s m args below meth c H locs cells slots Q (F0 m pc ls (.int x :: .int i :: .ref (ad h) :: r)) := by
  obtain ⟨hx, hb, hown, hts, hK, hE, hN, hinj⟩ := F
  unfold rz_ast at hf
  split at hf
  · rename_i t n f ew
    split at hf
    · rename_i hc
      obtain ⟨rfl, hin, h0⟩ := hc
      cases hf
      have hh : h < N := rz_inA hW hN h0 ew
      have hp := rz_ws_at (cI := cI) (cZ := cZ) (ad := ad) (w := w) hh
      rw [ew] at hp
      refine va_iast (D := D) (cl := vwCl) hx hb hK hP (rz_D hinj) hS h 0 (cA := cI) (n := n) (f := f) hp rfl hin hdg (fun H1 locs1 h1 _ h3 => ?_)
      refine k H1 locs1 ?_ (rz_Wd_up hW hh) h3
      rw [← rz_ws_set hh]
      exact h1
    · cases hf
  · cases hf
theorem rz_bast_W (F : rz_Fx p s m args c cc own D cI cZ ad N) (hS : va_S (rz_A N ad) s.heap H locs) (hP : va_P D vwCl (rz_ws cI cZ ad N w) H) (hW : rz_Wd N w) {h : Nat} {i x : Int32} {r : List Value} {w' : rz_W}
    (hdg : decode cc pc = .ok (.bastore, 1)) (hf : rz_ast w h 1 i (vp_nar .boolean x) = some w')
    (k : ∀ (H1 : Heap) (locs1 : List Loc), va_P D vwCl (rz_ws cI cZ ad N w') H1 → rz_Wd N w' → va_S (rz_A N ad) s.heap H1 locs1 → W p l e R s m args below meth c H1 locs1 cells slots Q (F0 m (pc + 1) ls r)) : W p l e R s m args below meth c H locs cells slots Q (F0 m pc ls (.int x :: .int i :: .ref (ad h) :: r)) := by
  obtain ⟨hx, hb, hown, hts, hK, hE, hN, hinj⟩ := F
  unfold rz_ast at hf
  split at hf
  · rename_i t n f ew
    split at hf
    · rename_i hc
      obtain ⟨rfl, hin, h0⟩ := hc
      cases hf
      have hh : h < N := rz_inA hW hN h0 ew
      have hp := rz_ws_at (cI := cI) (cZ := cZ) (ad := ad) (w := w) hh
      rw [ew] at hp
      refine va_zast (D := D) (cl := vwCl) hx hb hK hP (rz_D hinj) hS h 1 (cA := cZ) (n := n) (f := f) hp rfl hin hdg (fun H1 locs1 h1 _ h3 => ?_)
      refine k H1 locs1 ?_ (rz_Wd_up hW hh) h3
      rw [← rz_ws_set hh]
      exact h1
    · cases hf
  · cases hf
theorem rz_gets_W (F : rz_Fx p s m args c cc own D cI cZ ad N) (hS : va_S (rz_A N ad) s.heap H locs) {i a b j : Nat} {q : rz_Q} (hq : q.1.cls = own) {ln : Nat} {v : Value} {r : List Value}
    (hok : rz_okI q (pc, .getstatic i, ln, a, b, j, v) = true) (hdg : decode cc pc = .ok (.getstatic i, 3))
    (k : W p l e R s m args below meth c H locs cells slots Q (F0 m (pc + 3) ls (rz_v ad v :: r))) : W p l e R s m args below meth c H locs cells slots Q (F0 m pc ls r) := by
  obtain ⟨hx, hb, hown, hts, hK, hE, hN, hinj⟩ := F
  subst hq
  simp only [rz_okI, Bool.and_eq_true] at hok
  have hok := hok.2
  cases hc : rz_stc[a]? with
  | none => rw [hc] at hok; cases hok
  | some z =>
    obtain ⟨C, n, d, v'⟩ := z
    rw [hc] at hok
    simp only [Bool.and_eq_true, Bool.or_eq_true, decide_eq_true_eq] at hok
    obtain ⟨rfl, hlink⟩ := hok
    have hZ := hE.1 _ (List.mem_of_getElem? hc)
    rcases hlink with hl | hl
    · exact va_gets hx hb hZ hS hown (hts _ (rz_wd_mem hl)) (fun _ h9 => h9) hdg k
    · exact va_getsN hx hb hZ hS hown ((hE.2.2.2.2.2.1 _ _ _ _ _ _ (rz_wn_mem hl)).use rfl) (fun _ h9 => h9) hdg k
/-- behind a call -/
theorem rz_goes {v : Option Value} {w' : rz_W} {st0 rest : List Value} {a : Array Value} {H0 : Heap} (hr : va_Run p l e R s m args below meth c H locs cells slots 0 0 (F0 m pc ls st0) rest (rz_Qc D cI cZ ad N v w' a) (rz_A N ad)) (hS : va_S (rz_A N ad) H0 H locs)
    (kk : ∀ (H1 : Heap) (locs1 : List Loc), va_P D vwCl (rz_ws cI cZ ad N w') H1 → rz_Wd N w' → va_S (rz_A N ad) H0 H1 locs1 → W p l e R s m args below meth c H1 locs1 cells slots Q (F0 m (pc + 3) ls ((v.map (rz_v ad)).toList ++ rest))) : W p l e R s m args below meth c H locs cells slots Q (F0 m pc ls st0) := by
  intro T hT X
  obtain ⟨v9, st₀, t, T', L, h0, X', hL, e1, e2, ⟨⟨hv, hp, hw⟩, hz, hk⟩, st⟩ := hr T hT X
  cases hv
  rw [h0] at hz hk
  obtain ⟨t2, a1, b1⟩ := kk T'.heap (locs ++ L) (by rw [e1]; exact hp) hw
    ⟨Nat.le_trans hS.1 (by rw [e1]; exact hz), fun q h1 h2 => by rw [e1, hk q (Nat.lt_of_lt_of_le h1 hS.1) h2]; exact hS.2.1 q h1 h2, fun q hq => by
      rcases List.mem_append.mp hq with h | h
      · exact hS.2.2 q h
      · exact hL q h⟩ T' rfl X'
  exact ⟨t2, st t2 a1, b1⟩
theorem rz_hok {i : Nat} {q : rz_Q} (h : rz_ms[i]? = some q) : plainName q.1.cls = true ∧ (q.1.cls ≠ "java/lang/invoke/MethodHandle" ∧ q.1.cls ≠ "java/lang/invoke/VarHandle") ∧ (parseMethodDescriptor q.1.desc).map (fun d => d.parameters.length) = some q.2.2.2.2.2.1 ∧ q.2.2.1 ≤ 30 ∧ Jvm.Cond.code q.1 q.2.1 q.2.2.1 q.2.2.2.1 ∈ rz_tbl ∧ Jvm.Cond.initialized q.1.cls ∈ rz_tbl ∧ (if q.2.2.2.2.1 then Jvm.Cond.static q.1 else Jvm.Cond.instanceMethod q.1) ∈ rz_tbl ∧ (q.2.2.2.2.1 = true ∨ Jvm.Cond.selects q.1.cls q.1 q.1 ∈ rz_tbl) ∧ ∀ z ∈ q.2.2.2.2.2.2.2.2.2.2, rz_okI q z = true := by
  have h1 := rz_ms_ok q (List.mem_of_getElem? h)
  simp only [rz_okM, rz_okH, Bool.and_eq_true, Bool.or_eq_true, decide_eq_true_eq, List.all_eq_true] at h1
  obtain ⟨⟨⟨⟨⟨⟨⟨⟨a1, a2⟩, a3⟩, a4⟩, a5⟩, a6⟩, a7⟩, a8⟩, a9⟩ := h1
  refine ⟨a1, a2, a3, a4, rz_wd_mem a5, rz_wd_mem a6, rz_wd_mem a7, ?_, a9⟩
  rcases a8 with z | z
  · exact Or.inl z
  · exact Or.inr (rz_wd_mem z)
theorem rz_wsGood {q : rz_Q} {i : Nat} (h : rz_ms[i]? = some q) {args : Array Value} {s : State} (hts : ∀ w ∈ rz_tbl, w.before args s = true) : ∀ w ∈ rz_wsM q, ∀ (a' : Array Value) (U : State), s.WarmedH U.vm → w.before a' U = true := by
  obtain ⟨-, -, -, -, hc, -⟩ := rz_hok h
  intro w hw a' U hU
  have hm : w ∈ rz_tbl := by
    rcases List.mem_cons.mp hw with z | z
    · rw [z]; exact hc
    · exact z
  exact word_at hU (rz_good hm) (hts w hm)
theorem rz_callS_W (F : rz_Fx p s m args c cc own D cI cZ ad N) (hS : va_S (rz_A N ad) s.heap H locs) (hP : va_P D vwCl (rz_ws cI cZ ad N w) H) (hW : rz_Wd N w) {i a b j d : Nat} {q : rz_Q} (hq : q.1.cls = own) {ln : Nat} {cv : Value} {as r : List Value} {v : Option Value} {w' : rz_W}
    (hok : rz_okI q (pc, .invokestatic i, ln, a, b, j, cv) = true) (ha : ¬ 10000 ≤ a) (hdg : decode cc pc = .ok (.invokestatic i, 3)) (hM : rz_Met l d a as w v w') (hlen : as.length = b) (hr : rz_cs r ≤ 8)
    (hsz : ls.size = c.maxLocals) (hfr : d + 1 ≤ R.frames) (hlo : 50 * d + 50 ≤ R.locals) (hcs : cells ≤ R.cells ∧ slots ≤ R.slots)
    (k : ∀ (H1 : Heap) (locs1 : List Loc), va_P D vwCl (rz_ws cI cZ ad N w') H1 → rz_Wd N w' → va_S (rz_A N ad) s.heap H1 locs1 → W p l e R s m args below meth c H1 locs1 cells slots Q (F0 m (pc + 3) ls ((v.toList ++ r).map (rz_v ad)))) : W p l e R s m args below meth c H locs cells slots Q (F0 m pc ls ((as.reverse ++ r).map (rz_v ad))) := by
  have F' := F
  obtain ⟨hx, hb, hown, hts, hK, hE, hN, hinj⟩ := F
  subst hq
  simp only [rz_okI, Bool.and_eq_true] at hok
  have hok := hok.2
  rw [if_neg ha] at hok
  cases hc : rz_ms[a]? with
  | none => rw [hc] at hok; cases hok
  | some q' =>
    rw [hc] at hok
    simp only [Bool.and_eq_true, Bool.or_eq_true, decide_eq_true_eq] at hok
    obtain ⟨⟨hst, hb9⟩, hlink⟩ := hok
    obtain ⟨a1, a2, a3, a4, a5, a6, a7, a8, a9⟩ := rz_hok hc
    rw [hst, if_pos rfl] at a7
    have hMq := hM q' hc D cI cZ ad N hN hinj
    have hpre : PreS s H (rz_Pc D cI cZ ad N as w) (as.map (rz_v ad)) := ⟨rz_Pc_blind, fun U hU hWm => ⟨rfl, by rw [hU]; exact hP, hW, va_K.moved hWm.alike hK, rz_env.call hE hS hU hWm (fun _ z => z)⟩⟩
    have hpar : ∀ sig, parseMethodDescriptor q'.1.desc = some sig → q'.2.2.2.2.2.1 = sig.parameters.length := by
      intro sig hs
      rw [hs] at a3
      exact (Option.some.inj a3).symm
    have hrest : 2 * (F0 m pc ls ((as.reverse ++ r).map (rz_v ad))).monitorRoom + ((r.map (rz_v ad)).map fun v => v.category).sum ≤ 8 := by
      refine lv_room ?_
      rw [← rz_cs_map ad r] at hr
      exact hr
    have hwsG := rz_wsGood hc hts
    have hf : cells + 0 ≤ R.cells ∧ slots + 0 ≤ R.slots := hcs
    have hstk : (F0 m pc ls ((as.reverse ++ r).map (rz_v ad))).stack = (as.map (rz_v ad)).reverse ++ r.map (rz_v ad) := by
      show (as.reverse ++ r).map (rz_v ad) = _
      rw [List.map_append, List.map_reverse]
    have hsz' : (F0 m pc ls ((as.reverse ++ r).map (rz_v ad))).locals.size = c.maxLocals := hsz
    have hn' : (as.map (rz_v ad)).length = q'.2.2.2.2.2.1 := by rw [List.length_map, hlen, hb9]
    have fin : va_Run p l e R s m args below meth c H locs cells slots 0 0 (F0 m pc ls ((as.reverse ++ r).map (rz_v ad))) (r.map (rz_v ad)) (rz_Qc D cI cZ ad N v w' (as.map (rz_v ad)).toArray) (rz_A N ad) := by
      rcases hlink with hl | hl
      · have cw : CallB R s args q.1.cls i q'.1 q'.2.1 q'.2.2.1 q'.2.2.2.1 (rz_wsM q') (rz_rm d) 0 0 q'.2.2.2.2.2.1 ∧ (Jvm.Cond.static q'.1).before args s = true :=
          ⟨⟨rfl, rfl, hfr, by show 8 + (q'.2.2.1 + 11) + 50 * d ≤ R.locals; omega, hwsG, List.mem_cons_self, hts _ a5, hts _ a6, a2, hpar, hts _ (rz_wd_mem hl)⟩, hts _ a7⟩
        exact va_runS ⟨hx, hb, rfl, hown, hts⟩ hMq cw hpre rfl hn' hsz' hstk hrest hdg hf
      · have cw : va_CN R s args q.1.cls i q'.1 "OthersMan" q'.2.1 q'.2.2.1 q'.2.2.2.1 (rz_wsM q') (rz_rm d) 0 0 q'.2.2.2.2.2.1 ∧ (Jvm.Cond.static q'.1).before args s = true ∧ True :=
          ⟨⟨⟨rfl, rfl, hfr, by show 8 + (q'.2.2.1 + 11) + 50 * d ≤ R.locals; omega, hwsG, List.mem_cons_self⟩, hts _ a5, hts _ a6, a2, hpar, (hE.2.2.2.2.2.2 _ _ _ _ (rz_wn_mem hl)).use rfl⟩, hts _ a7, trivial⟩
        exact va_runSN ⟨hx, hb, rfl, hown, hts⟩ hMq cw hpre rfl hn' hsz' hstk hrest hdg hf
    refine rz_goes fin hS (fun H1 locs1 h1 h2 h3 => ?_)
    have := k H1 locs1 h1 h2 h3
    rw [List.map_append] at this
    cases v <;> exact this
theorem rz_recv (F : rz_Fx p s m args c cc own D cI cZ ad N) (hS : va_S (rz_A N ad) s.heap H locs) (hP : va_P D vwCl (rz_ws cI cZ ad N w) H) (hW : rz_Wd N w) {h ci : Nat} {C : String} (hc : rz_clsOf w h = some ci) (hC : (vwCl[ci]?).map (fun z => z.1) = some C ∨ (ci = 100 ∧ C = "java/lang/String")) : ∃ cellB : Cell, H[ad h]? = some cellB ∧ cellB.vm.isStatics = false ∧ s.vm.findClass C = some cellB.cls := by
  obtain ⟨hx, hb, hown, hts, hK, hE, hN, hinj⟩ := F
  unfold rz_clsOf at hc
  split at hc
  · rename_i ci' fs ew
    cases hc
    rcases Nat.lt_or_ge h N with hh | hh
    · have hp := rz_ws_at (cI := cI) (cZ := cZ) (ad := ad) (w := w) hh
      rw [ew] at hp
      obtain ⟨q9, hq9, -⟩ := hP h _ hp
      dsimp only at hq9
      rcases hC with z | ⟨z, -⟩
      · rw [hq9] at z
        cases z
        exact va_recv hK hP hq9 hp
      · subst z
        cases hq9
    · rw [hW h hh] at ew
      unfold rz_ro at ew
      split at ew
      · cases ew
      split at ew
      · cases ew
      split at ew
      · rename_i hr
        cases ew
        rcases hC with z | ⟨-, z⟩
        · cases z
        · subst z
          obtain ⟨i', rfl⟩ : ∃ i', h = 1010 + i' := ⟨h - 1010, by omega⟩
          exact vk_recv (i := i') hE.2.2.2.1 (by omega) hS
      split at ew
      · cases ew
      · cases ew
        rcases hC with z | ⟨z, -⟩
        · cases z
        · cases z
  · cases hc
theorem rz_callV_W (F : rz_Fx p s m args c cc own D cI cZ ad N) (hS : va_S (rz_A N ad) s.heap H locs) (hP : va_P D vwCl (rz_ws cI cZ ad N w) H) (hW : rz_Wd N w) {i a b j d h ci : Nat} {q : rz_Q} (hq : q.1.cls = own) {ln : Nat} {as r : List Value} {v : Option Value} {w' : rz_W}
    (hok : rz_okI q (pc, .invokevirtual i, ln, a, b, j, .retAddr ci) = true) (hcl : rz_clsOf w h = some ci) (hdg : decode cc pc = .ok (.invokevirtual i, 3)) (hM : rz_Met l d a (.ref h :: as) w v w') (hlen : as.length + 1 = b) (hr : rz_cs r ≤ 8)
    (hsz : ls.size = c.maxLocals) (hfr : d + 1 ≤ R.frames) (hlo : 50 * d + 50 ≤ R.locals) (hcs : cells ≤ R.cells ∧ slots ≤ R.slots)
    (k : ∀ (H1 : Heap) (locs1 : List Loc), va_P D vwCl (rz_ws cI cZ ad N w') H1 → rz_Wd N w' → va_S (rz_A N ad) s.heap H1 locs1 → W p l e R s m args below meth c H1 locs1 cells slots Q (F0 m (pc + 3) ls ((v.toList ++ r).map (rz_v ad)))) : W p l e R s m args below meth c H locs cells slots Q (F0 m pc ls (((Value.ref h :: as).reverse ++ r).map (rz_v ad))) := by
  have F' := F
  obtain ⟨hx, hb, hown, hts, hK, hE, hN, hinj⟩ := F
  subst hq
  simp only [rz_okI, Bool.and_eq_true] at hok
  have hok := hok.2
  cases hc : rz_ms[a]? with
  | none => rw [hc] at hok; cases hok
  | some q' =>
    rw [hc] at hok
    simp only [Bool.and_eq_true, Bool.or_eq_true, decide_eq_true_eq, Bool.not_eq_true'] at hok
    obtain ⟨⟨⟨hcls, hst⟩, hb9⟩, hlink⟩ := hok
    obtain ⟨a1, a2, a3, a4, a5, a6, a7, a8, a9⟩ := rz_hok hc
    rw [hst] at a7 a8
    have a7 : Jvm.Cond.instanceMethod q'.1 ∈ rz_tbl := by simpa using a7
    have a8 : Jvm.Cond.selects q'.1.cls q'.1 q'.1 ∈ rz_tbl := by simpa using a8
    have hMq := hM q' hc D cI cZ ad N hN hinj
    have hpre : PreV s H q'.1.cls (ad h) (rz_Pc D cI cZ ad N (.ref h :: as) w) (as.map (rz_v ad)) := ⟨rz_Pc_blind, rz_recv F' hS hP hW hcl hcls, fun U hU hWm => ⟨rfl, by rw [hU]; exact hP, hW, va_K.moved hWm.alike hK, rz_env.call hE hS hU hWm (fun _ z => z)⟩⟩
    have hpar : ∀ sig, parseMethodDescriptor q'.1.desc = some sig → q'.2.2.2.2.2.1 = sig.parameters.length := by
      intro sig hs
      rw [hs] at a3
      exact (Option.some.inj a3).symm
    have hrest : 2 * (F0 m pc ls (((Value.ref h :: as).reverse ++ r).map (rz_v ad))).monitorRoom + ((r.map (rz_v ad)).map fun v => v.category).sum ≤ 8 := by
      refine lv_room ?_
      rw [← rz_cs_map ad r] at hr
      exact hr
    have hwsG := rz_wsGood hc hts
    have hf : cells + 0 ≤ R.cells ∧ slots + 0 ≤ R.slots := hcs
    have hstk : (F0 m pc ls (((Value.ref h :: as).reverse ++ r).map (rz_v ad))).stack = (as.map (rz_v ad)).reverse ++ .ref (ad h) :: r.map (rz_v ad) := by
      show ((Value.ref h :: as).reverse ++ r).map (rz_v ad) = _
      rw [List.reverse_cons, List.append_assoc, List.map_append, List.map_reverse]
      rfl
    have hsz' : (F0 m pc ls (((Value.ref h :: as).reverse ++ r).map (rz_v ad))).locals.size = c.maxLocals := hsz
    have hn' : (as.map (rz_v ad)).length = q'.2.2.2.2.2.1 := by rw [List.length_map]; omega
    have fin : va_Run p l e R s m args below meth c H locs cells slots 0 0 (F0 m pc ls (((Value.ref h :: as).reverse ++ r).map (rz_v ad))) (r.map (rz_v ad)) (rz_Qc D cI cZ ad N v w' (Value.ref (ad h) :: as.map (rz_v ad)).toArray) (rz_A N ad) := by
      rcases hlink with hl | hl
      · have cw : CallW R s args q.1.cls q'.1.cls i q'.1 q'.2.1 q'.2.2.1 q'.2.2.2.1 (rz_wsM q') (rz_rm d) 0 0 q'.2.2.2.2.2.1 :=
          ⟨⟨rfl, rfl, hfr, by show 8 + (q'.2.2.1 + 11) + 50 * d ≤ R.locals; omega, hwsG, List.mem_cons_self, hts _ a5, hts _ a6, a2, hpar, hts _ (rz_wd_mem hl)⟩, hts _ a7, hts _ a8⟩
        exact va_runV ⟨hx, hb, rfl, hown, hts⟩ hMq cw hpre rfl hn' hsz' hstk hrest hdg hf
      · have cw : va_CN R s args q.1.cls i q'.1 "OthersMan" q'.2.1 q'.2.2.1 q'.2.2.2.1 (rz_wsM q') (rz_rm d) 0 0 q'.2.2.2.2.2.1 ∧ (Jvm.Cond.instanceMethod q'.1).before args s = true ∧ (Jvm.Cond.selects q'.1.cls q'.1 q'.1).before args s = true :=
          ⟨⟨⟨rfl, rfl, hfr, by show 8 + (q'.2.2.1 + 11) + 50 * d ≤ R.locals; omega, hwsG, List.mem_cons_self⟩, hts _ a5, hts _ a6, a2, hpar, (hE.2.2.2.2.2.2 _ _ _ _ (rz_wn_mem hl)).use rfl⟩, hts _ a7, hts _ a8⟩
        exact va_runVN ⟨hx, hb, rfl, hown, hts⟩ hMq cw hpre rfl hn' hsz' hstk hrest hdg hf
    refine rz_goes fin hS (fun H1 locs1 h1 h2 h3 => ?_)
    have := k H1 locs1 h1 h2 h3
    rw [List.map_append] at this
    cases v <;> exact this
end RZH
