/-! rows over the numbered world, for any writer -/
section CTS
variable {p : Program} {l : Launch} {e : Env} {R : Room} {s : State} {m : MethodId} {args : Array Value} {below : List Frame} {meth : Method} {c : Code} {H H0 : Heap} {locs : List Loc} {cells slots : Nat} {Q : State → Prop}
variable {ad : Nat → Nat} {cc : ByteArray} {pc : Nat} {ls : Array Slot} {D : va_G} {cI cZ : ClassId} {own : String} {A : Nat → Prop} {ws : va_W} {rest : List Value} {N : Nat} {w : rz_W}
theorem ct_get (F : cFx p s m args c cc own D cI cZ ad A) (hP : va_P D vwCl ws H) (q0 : Nat) {a ci index j k N : Nat} {C : String} {T : u_T} {fs : List Value} {v : Value} (he : ws[q0]? = some (a, .inr (ci, fs))) (hc : vwCl[ci]? = some (C, T, N)) (hk : k < N) (hj : rz_wd j (.fieldLink own index (T k).1 (T k).2.1 (T k).2.2.1) = true) (hv : fs[k]? = some v) (hdg : decode cc pc = .ok (.getfield index, 3))
    (kk : W p l e R s m args below meth c H locs cells slots Q (F0 m (pc + 3) ls (v :: rest))) : W p l e R s m args below meth c H locs cells slots Q (F0 m pc ls (.ref a :: rest)) := by
  obtain ⟨hx, hb, hown, hts, hK, hE⟩ := F
  obtain ⟨z1, ⟨ty0, z2⟩, z3⟩ := rz_cl_ok ci _ hc
  exact va_get hx hb hts z1 hown hK hP q0 he hc k hk (hts _ (rz_wd_mem hj)) (fun _ h9 => h9) hv hdg kk
theorem ct_putN (F : cFx p s m args c cc own D cI cZ ad A) (hP : va_P D vwCl ws H) (hD : va_D A ws) (hS : va_S A H0 H locs) (q0 : Nat) {a ci index j k N : Nat} {C : String} {T : u_T} {fs : List Value} {ty : FieldType} {v : Value} (he : ws[q0]? = some (a, .inr (ci, fs))) (hc : vwCl[ci]? = some (C, T, N)) (hk : k < N) (hj : rz_wn j (.fieldLinkNest own index (T k).1 (T k).2.1 (T k).2.2.1 "OthersMan") = true) (hfin : (T k).2.2.2 = false) (hd : parseFieldDescriptor (T k).2.2.1 = some ty) (hn : narrow ty v = v) (hfit : fits ty v = true) (hl : k < fs.length) (hdg : decode cc pc = .ok (.putfield index, 3))
    (kk : ∀ (H1 : Heap) (locs1 : List Loc), va_P D vwCl (ws.set q0 (a, .inr (ci, fs.set k v))) H1 → va_D A (ws.set q0 (a, .inr (ci, fs.set k v))) → va_S A H0 H1 locs1 → W p l e R s m args below meth c H1 locs1 cells slots Q (F0 m (pc + 3) ls rest)) : W p l e R s m args below meth c H locs cells slots Q (F0 m pc ls (v :: .ref a :: rest)) := by
  obtain ⟨hx, hb, hown, hts, hK, hE⟩ := F
  obtain ⟨z1, ⟨ty0, z2⟩, z3⟩ := rz_cl_ok ci _ hc
  exact va_putN hx hb hts z1 ty0 z2 z3 hown hK hP hD hS q0 he hc k hk ((hE.2.2.2.2.2.1 _ _ _ _ _ _ (rz_wn_mem hj)).use rfl) (fun _ h9 => h9) hfin hd hn hfit hl hdg kk
theorem ct_goes {v : Option Value} {w' : rz_W} {st0 : List Value} {a : Array Value} (hr : va_Run p l e R s m args below meth c H locs cells slots 0 0 (F0 m pc ls st0) rest (rz_Qc D cI cZ ad N v w' a) (rz_A N ad)) (hS : va_S A H0 H locs) (hsub : ∀ q, rz_A N ad q → A q)
    (kk : ∀ (H1 : Heap) (locs1 : List Loc), va_P D vwCl (rz_ws cI cZ ad N w') H1 → rz_Wd N w' → va_S A H0 H1 locs1 → W p l e R s m args below meth c H1 locs1 cells slots Q (F0 m (pc + 3) ls ((v.map (rz_v ad)).toList ++ rest))) : W p l e R s m args below meth c H locs cells slots Q (F0 m pc ls st0) := by
  intro T hT X
  obtain ⟨v9, st₀, t, T', L, h0, X', hL, e1, e2, ⟨⟨hv, hp, hw⟩, hz, hk⟩, st⟩ := hr T hT X
  cases hv
  rw [h0] at hz hk
  obtain ⟨t2, a1, b1⟩ := kk T'.heap (locs ++ L) (by rw [e1]; exact hp) hw
    ⟨Nat.le_trans hS.1 (by rw [e1]; exact hz), fun q h1 h2 => by rw [e1, hk q (Nat.lt_of_lt_of_le h1 hS.1) (fun z => h2 (hsub q z))]; exact hS.2.1 q h1 h2, fun q hq => by
      rcases List.mem_append.mp hq with h | h
      · exact hS.2.2 q h
      · exact hsub _ (hL q h)⟩ T' rfl X'
  exact ⟨t2, st t2 a1, b1⟩
theorem ct_Dinj (hD : va_D A (rz_ws cI cZ ad N w)) : ∀ a b, a < N → b < N → ad a = ad b → a = b := fun a b ha hb h => hD.1 a b _ _ (rz_ws_at ha) (rz_ws_at hb) h
theorem ct_Dsub (hD : va_D A (rz_ws cI cZ ad N w)) : ∀ q, rz_A N ad q → A q := by
  rintro q ⟨h, hh, rfl⟩
  exact hD.2 h _ (rz_ws_at hh)
theorem ct_Dw (w' : rz_W) (hD : va_D A (rz_ws cI cZ ad N w)) : va_D A (rz_ws cI cZ ad N w') := by
  have hlt : ∀ {k : Nat} {x : Nat × va_E}, (rz_ws cI cZ ad N w')[k]? = some x → k < N ∧ x.1 = ad k := by
    intro k x hx
    rcases Nat.lt_or_ge k N with h | h
    · rw [rz_ws_at h] at hx
      cases hx
      exact ⟨h, rfl⟩
    · rw [rz_ws_out h] at hx
      cases hx
  refine ⟨fun i j x y hx hy hxy => ?_, fun k x hx => ?_⟩
  · obtain ⟨a1, b1⟩ := hlt hx
    obtain ⟨a2, b2⟩ := hlt hy
    exact ct_Dinj hD i j a1 a2 (by rw [← b1, ← b2]; exact hxy)
  · obtain ⟨a1, b1⟩ := hlt hx
    rw [b1]
    exact hD.2 k _ (rz_ws_at a1)
/-- a call on an object of the numbered world -/
theorem ct_callV (F : cFx p s m args c cc own D cI cZ ad A) (hS : va_S A s.heap H locs) (hP : va_P D vwCl (rz_ws cI cZ ad N w) H) (hD : va_D A (rz_ws cI cZ ad N w)) (hW : rz_Wd N w) (hN : N ≤ 1000) {i j d h ci index : Nat} {q' : rz_Q} {as fs : List Value} {v : Option Value} {w' : rz_W}
    (hc : rz_ms[i]? = some q') (hh : h < N) (he : w h = .inr (ci, fs)) (hcl : (vwCl[ci]?).map (fun z => z.1) = some q'.1.cls) (hst : q'.2.2.2.2.1 = false) (hb9 : as.length = q'.2.2.2.2.2.1) (hj : rz_wd j (.methodLink own index q'.1) = true) (hdg : decode cc pc = .ok (.invokevirtual index, 3))
    (hM : rz_Met l d i (.ref h :: as) w v w') (hr : rz_cs rest ≤ 8) (hsz : ls.size = c.maxLocals) (hfr : d + 1 ≤ R.frames) (hlo : 50 * d + 50 ≤ R.locals) (hcs : cells ≤ R.cells ∧ slots ≤ R.slots)
    {st : List Value} (hstk : st = (as.map (rz_v ad)).reverse ++ .ref (ad h) :: rest)
    (kk : ∀ (H1 : Heap) (locs1 : List Loc), va_P D vwCl (rz_ws cI cZ ad N w') H1 → rz_Wd N w' → va_S A s.heap H1 locs1 → W p l e R s m args below meth c H1 locs1 cells slots Q (F0 m (pc + 3) ls ((v.map (rz_v ad)).toList ++ rest))) : W p l e R s m args below meth c H locs cells slots Q (F0 m pc ls st) := by
  obtain ⟨hx, hb, hown, hts, hK, hE⟩ := F
  subst hstk
  have hinj := ct_Dinj hD
  have hsub := ct_Dsub hD
  obtain ⟨a1, a2, a3, a4, a5, a6, a7, a8, a9⟩ := rz_hok hc
  rw [hst] at a7 a8
  have a7 : Jvm.Cond.instanceMethod q'.1 ∈ rz_tbl := by simpa using a7
  have a8 : Jvm.Cond.selects q'.1.cls q'.1 q'.1 ∈ rz_tbl := by simpa using a8
  have hMq := hM q' hc D cI cZ ad N hN hinj
  have hrec : ∃ cell : Cell, H[ad h]? = some cell ∧ cell.vm.isStatics = false ∧ s.vm.findClass q'.1.cls = some cell.cls := by
    cases hC : vwCl[ci]? with
    | none => rw [hC] at hcl; cases hcl
    | some z =>
      rw [hC] at hcl
      have := va_recv hK hP hC (by rw [rz_ws_at hh, he]; rfl : (rz_ws cI cZ ad N w)[h]? = some (ad h, .inr (ci, fs.map (rz_v ad))))
      rw [show z.1 = q'.1.cls from Option.some.inj hcl] at this
      exact this
  have hpre : PreV s H q'.1.cls (ad h) (rz_Pc D cI cZ ad N (.ref h :: as) w) (as.map (rz_v ad)) := ⟨rz_Pc_blind, hrec, fun U hU hWm => ⟨rfl, by rw [hU]; exact hP, hW, va_K.moved hWm.alike hK, rz_env.call hE hS hU hWm hsub⟩⟩
  have hpar : ∀ sig, parseMethodDescriptor q'.1.desc = some sig → q'.2.2.2.2.2.1 = sig.parameters.length := by
    intro sig hs
    rw [hs] at a3
    exact (Option.some.inj a3).symm
  have hrest : 2 * (F0 m pc ls ((as.map (rz_v ad)).reverse ++ .ref (ad h) :: rest)).monitorRoom + (rest.map fun v => v.category).sum ≤ 8 := lv_room hr
  have hwsG := rz_wsGood hc hts
  have hf : cells + 0 ≤ R.cells ∧ slots + 0 ≤ R.slots := hcs
  have hn' : (as.map (rz_v ad)).length = q'.2.2.2.2.2.1 := by rw [List.length_map]; exact hb9
  have cw : CallW R s args own q'.1.cls index q'.1 q'.2.1 q'.2.2.1 q'.2.2.2.1 (rz_wsM q') (rz_rm d) 0 0 q'.2.2.2.2.2.1 :=
    ⟨⟨rfl, rfl, hfr, by show 8 + (q'.2.2.1 + 11) + 50 * d ≤ R.locals; omega, hwsG, List.mem_cons_self, hts _ a5, hts _ a6, a2, hpar, hts _ (rz_wd_mem hj)⟩, hts _ a7, hts _ a8⟩
  exact ct_goes (va_runV ⟨hx, hb, rfl, hown, hts⟩ hMq cw hpre rfl hn' hsz rfl hrest hdg hf) hS hsub kk
theorem rz_env_ad {ad ad' : Nat → Nat} {A : Nat → Prop} {U : State} {H : Heap} (h : rz_env ad A U H) (ha : ∀ k, 1000 ≤ k → ad' k = ad k) : rz_env ad' A U H := by
  obtain ⟨h1, h2, h3, h4, h5, h6⟩ := h
  have e1 : ∀ q ∈ rz_stc, rz_v ad' q.2.2.2 = rz_v ad q.2.2.2 := by
    intro q hq
    simp only [rz_stc, List.mem_cons, List.not_mem_nil, or_false] at hq
    rcases hq with rfl | rfl | rfl | rfl
    · show Value.ref (ad' 1000) = Value.ref (ad 1000); rw [ha 1000 (Nat.le_refl _)]
    · show Value.ref (ad' 1001) = Value.ref (ad 1001); rw [ha 1001 (by decide)]
    · rfl
    · show (if ad' 1031 = 0 then Value.null else Value.ref (ad' 1030)) = (if ad 1031 = 0 then Value.null else Value.ref (ad 1030)); rw [ha 1030 (by decide), ha 1031 (by decide)]
  have e2 : (fun i => ad' (1010 + i)) = fun i => ad (1010 + i) := by funext i; exact ha _ (by omega)
  have e3 : (fun i => ad' (1020 + i)) = fun i => ad (1020 + i) := by funext i; exact ha _ (by omega)
  refine ⟨fun q hq => by rw [e1 q hq]; exact h1 q hq, by rw [ha 1000 (Nat.le_refl _)]; exact h2, by rw [ha 1001 (by decide)]; exact h3, by rw [e2, e3]; exact h4, fun i q hq => by rw [ha _ (by omega)]; exact h5 i q hq, h6⟩
end CTS
/-! the class's world as its constructor leaves it, before the plans are set -/
def σ00 : zS := fun g k _ => if g = 6 ∧ k = 3 then 7 else if g = 0 ∧ k = 7 then 8 else if g = 0 ∧ k = 8 then 9 else if (2 ≤ g ∧ g ≤ 5) ∧ k = 3 then -9 else 0
def adU (n : Nat) (u : Nat → Nat) (ad : Nat → Nat) : Nat → Nat := fun h => if h < n then u h else ad h
