/-! the model's constructor: rows -/
section CTM
variable {p : Program} {l : Launch} {e : Env} {R : Room} {s : State} {m : MethodId} {args : Array Value} {below : List Frame} {meth : Method} {c : Code} {H H0 : Heap} {locs : List Loc} {cells slots : Nat} {Q : State → Prop}
variable {ad : Nat → Nat} {cc : ByteArray} {pc : Nat} {ls : Array Slot} {D : va_G} {cI cZ : ClassId} {own : String} {A : Nat → Prop} {Rw ws : va_W} {rest : List Value}
theorem ct_newaR (F : cFx p s m args c cc own D cI cZ ad A) (hP : va_P D vwCl (Rw ++ ws) H) (hD : va_D A (Rw ++ ws)) (hS : va_S A H0 H locs) (hA : ∀ q, H0.size ≤ q → A q) {n : Int32} {N' : Nat} (hn : ¬ n < 0) (hN : n.toNatClampNeg = N') (hbytes : N' * 4 ≤ 536870912) (hcells : cells + 1 ≤ R.cells) (hslots : slots + N' ≤ R.slots) (hdg : decode cc pc = .ok (.newarray .int, 2))
    (kk : ∀ (q : Nat) (H1 : Heap), va_P D vwCl (Rw ++ (ws ++ [(q, .inl (cI, N', .inl (fun _ => 0)))])) H1 → va_D A (Rw ++ (ws ++ [(q, .inl (cI, N', .inl (fun _ => 0)))])) → va_S A H0 H1 locs → W p l e R s m args below meth c H1 locs (cells + 1) (slots + N') Q (F0 m (pc + 2) ls (.ref q :: rest))) : W p l e R s m args below meth c H locs cells slots Q (F0 m pc ls (.int n :: rest)) := by
  refine ct_newa F hP hD hS hA hn hN hbytes hcells hslots hdg (fun q H1 h1 h2 h3 => ?_)
  rw [List.append_assoc] at h1 h2
  exact kk q H1 h1 h2 h3
theorem ct_newzR (F : cFx p s m args c cc own D cI cZ ad A) (hP : va_P D vwCl (Rw ++ ws) H) (hD : va_D A (Rw ++ ws)) (hS : va_S A H0 H locs) (hA : ∀ q, H0.size ≤ q → A q) {n : Int32} {N' : Nat} (hn : ¬ n < 0) (hN : n.toNatClampNeg = N') (hbytes : N' * 1 ≤ 536870912) (hcells : cells + 1 ≤ R.cells) (hslots : slots + N' ≤ R.slots) (hdg : decode cc pc = .ok (.newarray .boolean, 2))
    (kk : ∀ (q : Nat) (H1 : Heap), va_P D vwCl (Rw ++ (ws ++ [(q, .inl (cZ, N', .inl (fun _ => 0)))])) H1 → va_D A (Rw ++ (ws ++ [(q, .inl (cZ, N', .inl (fun _ => 0)))])) → va_S A H0 H1 locs → W p l e R s m args below meth c H1 locs (cells + 1) (slots + N') Q (F0 m (pc + 2) ls (.ref q :: rest))) : W p l e R s m args below meth c H locs cells slots Q (F0 m pc ls (.int n :: rest)) := by
  refine ct_newz F hP hD hS hA hn hN hbytes hcells hslots hdg (fun q H1 h1 h2 h3 => ?_)
  rw [List.append_assoc] at h1 h2
  exact kk q H1 h1 h2 h3
theorem ct_putFR (F : cFx p s m args c cc own D cI cZ ad A) (hin : meth.name = "<init>") (hP : va_P D vwCl (Rw ++ ws) H) (hD : va_D A (Rw ++ ws)) (hS : va_S A H0 H locs) (q0 : Nat) {a ci index j k N : Nat} {C : String} {T : u_T} {fs : List Value} {ty : FieldType} {v : Value} (he : ws[q0]? = some (a, .inr (ci, fs))) (hc : vwCl[ci]? = some (C, T, N)) (hk : k < N) (hj : rz_wd j (.fieldLink own index (T k).1 (T k).2.1 (T k).2.2.1) = true) (hfin : (T k).2.2.2 = true) (hdecl : (T k).1 = own) (hd : parseFieldDescriptor (T k).2.2.1 = some ty) (hn : narrow ty v = v) (hfit : fits ty v = true) (hl : k < fs.length) (hdg : decode cc pc = .ok (.putfield index, 3))
    (kk : ∀ (H1 : Heap) (locs1 : List Loc), va_P D vwCl (Rw ++ ws.set q0 (a, .inr (ci, fs.set k v))) H1 → va_D A (Rw ++ ws.set q0 (a, .inr (ci, fs.set k v))) → va_S A H0 H1 locs1 → W p l e R s m args below meth c H1 locs1 cells slots Q (F0 m (pc + 3) ls rest)) : W p l e R s m args below meth c H locs cells slots Q (F0 m pc ls (v :: .ref a :: rest)) := by
  refine ct_putF F hin hP hD hS (Rw.length + q0) (by rw [List.getElem?_append_right (Nat.le_add_right _ _), Nat.add_sub_cancel_left]; exact he) hc hk hj hfin hdecl hd hn hfit hl hdg (fun H1 locs1 h1 h2 h3 => ?_)
  rw [List.set_append_right _ _ (Nat.le_add_right _ _), Nat.add_sub_cancel_left] at h1 h2
  exact kk H1 locs1 h1 h2 h3
theorem ct_iast (F : cFx p s m args c cc own D cI cZ ad A) (hP : va_P D vwCl ws H) (hD : va_D A ws) (hS : va_S A H0 H locs) (q0 : Nat) {a n : Nat} {f : Nat → Int32} (he : ws[q0]? = some (a, .inl (cI, n, .inl f))) {i x : Int32} (hin : vp_in i n) (hdg : decode cc pc = .ok (.iastore, 1))
    (kk : ∀ (H1 : Heap) (locs1 : List Loc), va_P D vwCl (ws.set q0 (a, .inl (cI, n, .inl (upd f i.toNatClampNeg x)))) H1 → va_D A (ws.set q0 (a, .inl (cI, n, .inl (upd f i.toNatClampNeg x)))) → va_S A H0 H1 locs1 → W p l e R s m args below meth c H1 locs1 cells slots Q (F0 m (pc + 1) ls rest)) : W p l e R s m args below meth c H locs cells slots Q (F0 m pc ls (.int x :: .int i :: .ref a :: rest)) := by
  obtain ⟨hx, hb, hown, hts, hK, hE⟩ := F
  exact va_iast hx hb hK hP hD hS q0 0 he rfl hin hdg kk
end CTM
def ad5 (ad : Nat → Nat) (h0 : Nat) (u : Nat → Nat) : Nat → Nat := fun h => if h < 48 then ad h else if h < 60 then (if h = 48 then h0 else u (h - 48)) else ad h
def σ10 : zS := gset σ01 10 (fun _ _ => 0)
set_option maxRecDepth 100000 in
set_option maxHeartbeats 4000000 in
theorem ws5_eq (cI cZ : ClassId) (ad : Nat → Nat) (b0 b1 b2 b3 b4 b5 b6 b7 b8 b9 b10 b11 : Nat) : rz_ws cI cZ (ad5 ad b0 (fun k => ([b0, b1, b2, b3, b4, b5, b6, b7, b8, b9, b10, b11] : List Nat).getD k 0)) 60 (wOf 60 σ10) = rz_ws cI cZ ad 48 (wOf 48 σ01) ++ [(b0, .inr (5, [.int 0, .long 0, .ref b1, .int 0, .int 0, .int 0, .int 0, .int 0, .int 0, .ref b2, .ref b3, .ref b4, .ref b5, .ref b6, .ref b7, .ref b8, .ref b9, .ref b10, .ref b11])), (b1, .inl (cI, 300, .inl (fun _ => 0))), (b2, .inl (cI, 66, .inl (fun _ => 0))), (b3, .inl (cI, 9, .inl (fun _ => 0))), (b4, .inl (cI, 18, .inl (fun _ => 0))), (b5, .inl (cZ, 2, .inl (fun _ => 0))), (b6, .inl (cI, 4608, .inl (fun _ => 0))), (b7, .inl (cI, 4608, .inl (fun _ => 0))), (b8, .inl (cI, 2, .inl (fun _ => 0))), (b9, .inl (cI, 2, .inl (fun _ => 0))), (b10, .inl (cI, 8, .inl (fun _ => 0))), (b11, .inl (cI, 8, .inl (fun _ => 0)))] := by
  rfl
