/-! constructors: rows -/
section CTR
variable {p : Program} {l : Launch} {e : Env} {R : Room} {s : State} {m : MethodId} {args : Array Value} {below : List Frame} {meth : Method} {c : Code} {H H0 : Heap} {locs : List Loc} {cells slots : Nat} {Q : State → Prop}
variable {ad : Nat → Nat} {cc : ByteArray} {pc : Nat} {ls : Array Slot} {D : va_G} {cI cZ : ClassId} {own : String} {A : Nat → Prop} {ws : va_W} {rest : List Value}
/-- what is known of a running constructor -/
def cFx (p : Program) (s : State) (m : MethodId) (args : Array Value) (c : Code) (cc : ByteArray) (own : String) (D : va_G) (cI cZ : ClassId) (ad : Nat → Nat) (A : Nat → Prop) : Prop :=
  p.tables.exec = Jvm.exec ∧ c.code = cc ∧ s.vm.findClass own = some m.cls ∧ (∀ w ∈ rz_tbl, w.before args s = true) ∧ va_K D vwCl [(cI, .int), (cZ, .boolean)] s ∧ rz_env ad A s s.heap
theorem ct_int : Jvm.Cond.arrayClass .int ∈ rz_tbl := rz_wd_mem (j := 133) (by decide +kernel)
theorem ct_bool : Jvm.Cond.arrayClass .boolean ∈ rz_tbl := rz_wd_mem (j := 899) (by decide +kernel)
theorem ct_objM : Jvm.Cond.instanceMethod objectInit ∈ rz_tbl := rz_wd_mem (j := 92) (by decide +kernel)
theorem ct_objC : Jvm.Cond.code objectInit ⟨#[0xb1]⟩ 1 none ∈ rz_tbl := rz_wd_mem (j := 93) (by decide +kernel)
theorem ct_newa (F : cFx p s m args c cc own D cI cZ ad A) (hP : va_P D vwCl ws H) (hD : va_D A ws) (hS : va_S A H0 H locs) (hA : ∀ q, H0.size ≤ q → A q) {n : Int32} {N' : Nat} (hn : ¬ n < 0) (hN : n.toNatClampNeg = N') (hbytes : N' * 4 ≤ 536870912) (hcells : cells + 1 ≤ R.cells) (hslots : slots + N' ≤ R.slots) (hdg : decode cc pc = .ok (.newarray .int, 2))
    (kk : ∀ (q : Nat) (H1 : Heap), va_P D vwCl (ws ++ [(q, .inl (cI, N', .inl (fun _ => 0)))]) H1 → va_D A (ws ++ [(q, .inl (cI, N', .inl (fun _ => 0)))]) → va_S A H0 H1 locs → W p l e R s m args below meth c H1 locs (cells + 1) (slots + N') Q (F0 m (pc + 2) ls (.ref q :: rest))) : W p l e R s m args below meth c H locs cells slots Q (F0 m pc ls (.int n :: rest)) := by
  obtain ⟨hx, hb, hown, hts, hK, hE⟩ := F
  refine va_newa (atype := .int) (a0 := (N', .inl (fun _ => 0))) hx hb (hts _ ct_int) rfl hK hP hD hS hA (fun _ => rfl) hn hN hbytes hcells hslots hdg (fun q cA H1 hK1 hP1 hD1 hS1 => ?_)
  have h1 : s.vm.findClass ("[" ++ FieldType.int.toString) = some cA := (hK1.2 2 (cA, .int) rfl).2
  have h2 : s.vm.findClass ("[" ++ FieldType.int.toString) = some cI := (hK.2 0 (cI, .int) rfl).2
  rw [h2] at h1
  cases h1
  exact kk q H1 hP1 hD1 hS1
theorem ct_newz (F : cFx p s m args c cc own D cI cZ ad A) (hP : va_P D vwCl ws H) (hD : va_D A ws) (hS : va_S A H0 H locs) (hA : ∀ q, H0.size ≤ q → A q) {n : Int32} {N' : Nat} (hn : ¬ n < 0) (hN : n.toNatClampNeg = N') (hbytes : N' * 1 ≤ 536870912) (hcells : cells + 1 ≤ R.cells) (hslots : slots + N' ≤ R.slots) (hdg : decode cc pc = .ok (.newarray .boolean, 2))
    (kk : ∀ (q : Nat) (H1 : Heap), va_P D vwCl (ws ++ [(q, .inl (cZ, N', .inl (fun _ => 0)))]) H1 → va_D A (ws ++ [(q, .inl (cZ, N', .inl (fun _ => 0)))]) → va_S A H0 H1 locs → W p l e R s m args below meth c H1 locs (cells + 1) (slots + N') Q (F0 m (pc + 2) ls (.ref q :: rest))) : W p l e R s m args below meth c H locs cells slots Q (F0 m pc ls (.int n :: rest)) := by
  obtain ⟨hx, hb, hown, hts, hK, hE⟩ := F
  refine va_newa (atype := .boolean) (a0 := (N', .inl (fun _ => 0))) hx hb (hts _ ct_bool) rfl hK hP hD hS hA (fun _ => rfl) hn hN hbytes hcells hslots hdg (fun q cA H1 hK1 hP1 hD1 hS1 => ?_)
  have h1 : s.vm.findClass ("[" ++ FieldType.boolean.toString) = some cA := (hK1.2 2 (cA, .boolean) rfl).2
  have h2 : s.vm.findClass ("[" ++ FieldType.boolean.toString) = some cZ := (hK.2 1 (cZ, .boolean) rfl).2
  rw [h2] at h1
  cases h1
  exact kk q H1 hP1 hD1 hS1
theorem ct_putF (F : cFx p s m args c cc own D cI cZ ad A) (hin : meth.name = "<init>") (hP : va_P D vwCl ws H) (hD : va_D A ws) (hS : va_S A H0 H locs) (q0 : Nat) {a ci index j k N : Nat} {C : String} {T : u_T} {fs : List Value} {ty : FieldType} {v : Value} (he : ws[q0]? = some (a, .inr (ci, fs))) (hc : vwCl[ci]? = some (C, T, N)) (hk : k < N) (hj : rz_wd j (.fieldLink own index (T k).1 (T k).2.1 (T k).2.2.1) = true) (hfin : (T k).2.2.2 = true) (hdecl : (T k).1 = own) (hd : parseFieldDescriptor (T k).2.2.1 = some ty) (hn : narrow ty v = v) (hfit : fits ty v = true) (hl : k < fs.length) (hdg : decode cc pc = .ok (.putfield index, 3))
    (kk : ∀ (H1 : Heap) (locs1 : List Loc), va_P D vwCl (ws.set q0 (a, .inr (ci, fs.set k v))) H1 → va_D A (ws.set q0 (a, .inr (ci, fs.set k v))) → va_S A H0 H1 locs1 → W p l e R s m args below meth c H1 locs1 cells slots Q (F0 m (pc + 3) ls rest)) : W p l e R s m args below meth c H locs cells slots Q (F0 m pc ls (v :: .ref a :: rest)) := by
  obtain ⟨hx, hb, hown, hts, hK, hE⟩ := F
  obtain ⟨z1, ⟨ty0, z2⟩, z3⟩ := rz_cl_ok ci _ hc
  exact va_putF hx hb hts z1 ty0 z2 z3 hown hK hP hD hS q0 he hc k hk (hts _ (rz_wd_mem hj)) (fun _ h9 => h9) hfin hin hdecl hd hn hfit hl hdg kk
theorem ct_put (F : cFx p s m args c cc own D cI cZ ad A) (hP : va_P D vwCl ws H) (hD : va_D A ws) (hS : va_S A H0 H locs) (q0 : Nat) {a ci index j k N : Nat} {C : String} {T : u_T} {fs : List Value} {ty : FieldType} {v : Value} (he : ws[q0]? = some (a, .inr (ci, fs))) (hc : vwCl[ci]? = some (C, T, N)) (hk : k < N) (hj : rz_wd j (.fieldLink own index (T k).1 (T k).2.1 (T k).2.2.1) = true) (hfin : (T k).2.2.2 = false) (hd : parseFieldDescriptor (T k).2.2.1 = some ty) (hn : narrow ty v = v) (hfit : fits ty v = true) (hl : k < fs.length) (hdg : decode cc pc = .ok (.putfield index, 3))
    (kk : ∀ (H1 : Heap) (locs1 : List Loc), va_P D vwCl (ws.set q0 (a, .inr (ci, fs.set k v))) H1 → va_D A (ws.set q0 (a, .inr (ci, fs.set k v))) → va_S A H0 H1 locs1 → W p l e R s m args below meth c H1 locs1 cells slots Q (F0 m (pc + 3) ls rest)) : W p l e R s m args below meth c H locs cells slots Q (F0 m pc ls (v :: .ref a :: rest)) := by
  obtain ⟨hx, hb, hown, hts, hK, hE⟩ := F
  obtain ⟨z1, ⟨ty0, z2⟩, z3⟩ := rz_cl_ok ci _ hc
  exact va_put hx hb hts z1 ty0 z2 z3 hown hK hP hD hS q0 he hc k hk (hts _ (rz_wd_mem hj)) (fun _ h9 => h9) hfin hd hn hfit hl hdg kk
theorem ct_obj (F : cFx p s m args c cc own D cI cZ ad A) (hls : ls.size = c.maxLocals) {a j index : Nat} (hj : rz_wd j (.methodLink own index objectInit) = true) (hfr : 1 ≤ R.frames) (hlo : 12 ≤ R.locals) (hdg : decode cc pc = .ok (.invokespecial index, 3))
    (kk : W p l e R s m args below meth c H locs cells slots Q (F0 m (pc + 3) ls [])) : W p l e R s m args below meth c H locs cells slots Q (F0 m pc ls [.ref a]) := by
  obtain ⟨hx, hb, hown, hts, hK, hE⟩ := F
  refine W.objInit hx hb hown (hts _ (rz_wd_mem hj)) (hts _ ct_objM) (hts _ ct_objC) rfl hls rfl hdg hfr hlo ?_
  exact W.eq (g2 := F0 m (pc + 3) ls []) rfl kk
/-- the contract of a constructor without arguments: its object's cell, and those that it makes -/
def ctMet (l : Launch) (D : va_G) (cI cZ : ClassId) (ad : Nat → Nat) (y : MethodName) (cc : ByteArray) (rm : Room) (mc ms ci : Nat) (fs : List Value) (X : Nat → (Nat → Nat) → va_W) : Prop := ∀ h0 sz : Nat, Met l y (.code y cc 1 none :: rz_tbl) rm (va_Pc [.ref h0] (fun U => U.heap.size = sz ∧ va_P D vwCl [(h0, .inr (ci, fs))] U.heap ∧ va_K D vwCl [(cI, .int), (cZ, .boolean)] U ∧ va_D (fun _ => True) [(h0, .inr (ci, fs))] ∧ rz_env ad (va_A [(h0, .inr (ci, fs))] sz) U U.heap)) (va_Qv (fun _ : Nat → Nat => True) (fun u t => va_P D vwCl (X h0 u) t.heap ∧ va_D (va_A [(h0, .inr (ci, fs))] sz) (X h0 u)) (va_A [(h0, .inr (ci, fs))] sz)) mc ms (va_A [(h0, .inr (ci, fs))] sz)
theorem ct_ndR : ∀ (n k : Nat), va_nd (List.range' k n) = true := by
  intro n
  induction n with
  | zero => intro k; rfl
  | succ n ih =>
    intro k
    rw [List.range'_succ]
    show (decide (k ∉ List.range' (k + 1) n) && va_nd (List.range' (k + 1) n)) = true
    rw [ih (k + 1), Bool.and_true]
    refine decide_eq_true ?_
    intro h
    rw [List.mem_range'_1] at h
    omega
/-- new C(): the object at the end of the world, built by its constructor -/
theorem ct_make (F : cFx p s m args c cc own D cI cZ ad A) (hP : va_P D vwCl ws H) (hD : va_D A ws) (hS : va_S A s.heap H locs) (hA : ∀ q, s.heap.size ≤ q → A q) (hls : ls.size = c.maxLocals)
    {ci index index2 j1 j2 j3 j4 j5 j6 N mc ms : Nat} {C : String} {T : u_T} {ty : Nat → FieldType} {fs : List Value} {y : MethodName} {cb : ByteArray} {rm : Room} {X : Nat → (Nat → Nat) → va_W}
    (hc : vwCl[ci]? = some (C, T, N)) (hty : ∀ k, k < N → parseFieldDescriptor (T k).2.2.1 = some (ty k)) (hfs : ∀ j, j < N → defaultValue (ty j) = vp_V fs j)
    (w1 : rz_wd j1 (.classLink own index C) = true) (w2 : rz_wd j2 (.instantiable C N) = true) (w3 : rz_wd j3 (.initialized C) = true) (w4 : rz_wd j4 (.code y cb 1 none) = true) (w5 : rz_wd j5 (.methodLink own index2 y) = true ∨ rz_wn j5 (.methodLinkNest own index2 y "OthersMan") = true) (w6 : rz_wd j6 (.instanceMethod y) = true)
    (hyc : y.cls = C) (hyn : y.name = "<init>") (hyd : y.desc = "()V") (hyh : y.cls ≠ "java/lang/invoke/MethodHandle" ∧ y.cls ≠ "java/lang/invoke/VarHandle")
    (hM : ctMet l D cI cZ ad y cb rm mc ms ci fs X) (hrc : rm.cells = mc) (hrs : rm.slots = ms) (hfr : rm.frames + 1 ≤ R.frames) (hlo : 20 + rm.locals ≤ R.locals)
    (hcells : cells + 1 + mc ≤ R.cells) (hslots : slots + N + ms ≤ R.slots) (hr : rz_cs rest ≤ 7)
    (hd0 : decode cc pc = .ok (.new index, 3)) (hd1 : decode cc (pc + 3) = .ok (.dup, 1)) (hd2 : decode cc (pc + 4) = .ok (.invokespecial index2, 3))
    (kk : ∀ (q : Nat) (u : Nat → Nat) (H1 : Heap) (locs1 : List Loc), va_P D vwCl (ws ++ X q u) H1 → va_D A (ws ++ X q u) → va_S A s.heap H1 locs1 → W p l e R s m args below meth c H1 locs1 (cells + 1 + mc) (slots + N + ms) Q (F0 m (pc + 7) ls (.ref q :: rest))) : W p l e R s m args below meth c H locs cells slots Q (F0 m pc ls rest) := by
  obtain ⟨hx, hb, hown, hts, hK, hE⟩ := F
  obtain ⟨z1, -, z3⟩ := rz_cl_ok ci _ hc
  refine va_new (ci := ci) (fs := fs) (C := C) (T := T) (N := N) hx hb hts z1 ty hty hown (hts _ (rz_wd_mem w1)) (hts _ (rz_wd_mem w2)) (hts _ (rz_wd_mem w3)) hK hP hD hS hA hc hfs (by omega) (by omega) hd0 (fun q H hP hD hS => ?_)
  refine lv_dup hx hb hd1 rfl ?_
  have hi : ([ws.length] : List Nat).map (fun i => (ws ++ [(q, .inr (ci, fs))])[i]?) = ([(q, .inr (ci, fs))] : va_W).map some := by
    simp
  have hPc : va_P D vwCl [(q, .inr (ci, fs))] H := fun k z hk => by
    have hz : k < 1 := (List.getElem?_eq_some_iff.mp hk).1
    obtain rfl : k = 0 := by omega
    cases hk
    exact hP ws.length _ (by simp)
  have hDc : va_D A [(q, .inr (ci, fs))] := hD.sub [ws.length] (by simp [va_nd]) hi
  have hFc := va_free (wc := [(q, .inr (ci, fs))]) hD hS hA [ws.length] hi
  have hwG : ∀ w ∈ (Jvm.Cond.code y cb 1 none :: rz_tbl), ∀ (a' : Array Value) (U : State), s.WarmedH U.vm → w.before a' U = true := by
    intro w hw a' U hU
    have hm : w ∈ rz_tbl := by
      rcases List.mem_cons.mp hw with z | z
      · rw [z]; exact rz_wd_mem w4
      · exact z
    exact word_at hU (rz_good hm) (hts w hm)
  have hpar : ∀ sig, parseMethodDescriptor y.desc = some sig → 0 = sig.parameters.length := by
    intro sig hs
    rw [hyd] at hs
    have : (parseMethodDescriptor "()V").map (fun d => d.parameters.length) = some 0 := by decide +kernel
    rw [hs] at this
    exact (Option.some.inj this).symm
  have w3' : rz_wd j3 (.initialized y.cls) = true := by rw [hyc]; exact w3
  have hpre : PreS s H (va_Pc [.ref q] (fun U => U.heap.size = H.size ∧ va_P D vwCl [(q, .inr (ci, fs))] U.heap ∧ va_K D vwCl [(cI, .int), (cZ, .boolean)] U ∧ va_D (fun _ => True) [(q, .inr (ci, fs))] ∧ rz_env ad (va_A [(q, .inr (ci, fs))] H.size) U U.heap)) [.ref q] :=
    ⟨fun a U g mk q => by obtain ⟨q0, q1, qP, qK, qD, qE⟩ := q; exact ⟨q0, q1, qP, va_K.moved (u := U) (U := U.calling g mk a) (Vm.Alike.refl U.vm) qK, qD, qE.face rfl rfl⟩, fun U hU hW => ⟨rfl, by rw [hU], by rw [hU]; exact hPc, va_K.moved hW.alike hK, hDc.weaken (fun _ _ _ _ => trivial), hE.call hS hU hW hFc⟩⟩
  have hrest : 2 * (F0 m (pc + 3 + 1) ls (.ref q :: .ref q :: rest)).monitorRoom + ((.ref q :: rest : List Value).map fun v => v.category).sum ≤ 8 := by
    refine lv_room ?_
    show 1 + rz_cs rest ≤ 8
    omega
  have hrun : va_Run p l e R s m args below meth c H locs (cells + 1) (slots + N) mc ms (F0 m (pc + 3 + 1) ls (.ref q :: .ref q :: rest)) (.ref q :: rest) (va_Qv (fun _ : Nat → Nat => True) (fun u t => va_P D vwCl (X q u) t.heap ∧ va_D (va_A [(q, .inr (ci, fs))] H.size) (X q u)) (va_A [(q, .inr (ci, fs))] H.size) (Value.ref q :: []).toArray) (va_A [(q, .inr (ci, fs))] H.size) := by
    rcases w5 with w5 | w5
    · have cw : CallB R s args own index2 y cb 1 none (Jvm.Cond.code y cb 1 none :: rz_tbl) rm mc ms 0 ∧ y.name = "<init>" ∧ (Jvm.Cond.instanceMethod y).before args s = true :=
        ⟨⟨hrc, hrs, hfr, by omega, hwG, List.mem_cons_self, hts _ (rz_wd_mem w4), hts _ (rz_wd_mem w3'), hyh, hpar, hts _ (rz_wd_mem w5)⟩, hyn, hts _ (rz_wd_mem w6)⟩
      exact va_runI (As := []) (rest := .ref q :: rest) ⟨hx, hb, rfl, hown, hts⟩ (hM q H.size) cw hpre rfl rfl hls rfl hrest hd2 ⟨by omega, by omega⟩
    · have cw : va_CN R s args own index2 y "OthersMan" cb 1 none (Jvm.Cond.code y cb 1 none :: rz_tbl) rm mc ms 0 ∧ y.name = "<init>" ∧ (Jvm.Cond.instanceMethod y).before args s = true :=
        ⟨⟨⟨hrc, hrs, hfr, by omega, hwG, List.mem_cons_self⟩, hts _ (rz_wd_mem w4), hts _ (rz_wd_mem w3'), hyh, hpar, (hE.2.2.2.2.2.2 _ _ _ _ (rz_wn_mem w5)).use rfl⟩, hyn, hts _ (rz_wd_mem w6)⟩
      exact va_runIN (As := []) (rest := .ref q :: rest) ⟨hx, hb, rfl, hown, hts⟩ (hM q H.size) cw hpre rfl rfl hls rfl hrest hd2 ⟨by omega, by omega⟩
  refine va_callv hrun hS (fun q _ h => hFc q h) hFc (fun u t H1 locs1 ht hvm hw hB hz1 hk1 hS => ?_)
  obtain ⟨hP1, hD1⟩ := hB
  rw [ht] at hP1
  obtain ⟨hP2, hD2⟩ := va_join (wr := ws) (w1 := X q u) hP hD [ws.length] (List.range' 0 ws.length) hi (by
      apply List.ext_getElem?
      intro i
      rw [List.getElem?_map, List.getElem?_map]
      by_cases h : i < ws.length
      · rw [List.getElem?_range' h, List.getElem?_eq_getElem h]
        simp [List.getElem?_append_left h, List.getElem?_eq_getElem h]
      · rw [List.getElem?_eq_none (by rw [List.length_range']; omega), List.getElem?_eq_none (by omega)]
        rfl) (ct_ndR _ _) (fun i h9 => by
      rw [List.mem_range'_1] at h9
      rw [List.mem_singleton]
      omega) hk1 hFc hP1 hD1
  exact kk q u H1 locs1 hP2 hD2 hS
end CTR
