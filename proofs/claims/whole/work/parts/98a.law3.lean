/-! the law's cases, by program -/
set_option maxHeartbeats 4000000 in
set_option maxRecDepth 100000 in
theorem lc_tell {p : Program} {l : Launch} {e : Env} {s : State} {m : MethodId} {below : List Frame} {meth : Method} {c : Code} {b L : Nat} {xs : Nat → Int32} {D : va_G} {cI cZ : ClassId} {ad : Nat → Nat} {cells slots : Nat} (X : lwC0 p s m meth c b L xs D cI cZ ad) (hcs : cells ≤ room_1.cells ∧ slots ≤ room_1.slots) {i : Nat} (hi : i + 4 ≤ L) {σ : zS} {gp : Nat} {H : Heap} {locs : List Loc} {ls : Array Slot} (h : REL (20 * (i : Int)) σ gp) (hP : va_P D vwCl (rz_ws cI cZ ad 60 (wOf 60 σ)) H) (hD : va_D (lwA0 s) (rz_ws cI cZ ad 60 (wOf 60 σ))) (hS : va_S (lwA0 s) s.heap H locs) (hl : lv_has ls 4 [(0, .ref b), (1, .ref (ad 0)), (2, .ref (ad 48)), (3, .int (zI i))])
    (kk : ∀ (σ2 : zS) (gp2 : Nat) (H1 : Heap) (locs1 : List Loc), REL (20 * (i : Int) + 20) σ2 gp2 → va_P D vwCl (rz_ws cI cZ ad 60 (wOf 60 σ2)) H1 → va_D (lwA0 s) (rz_ws cI cZ ad 60 (wOf 60 σ2)) → va_S (lwA0 s) s.heap H1 locs1 → W p l e room_1 s m #[Value.ref b] below meth c H1 locs1 cells slots (lw_Z below #[Value.ref b] s) (F0 m 858 ls [])) : W p l e room_1 s m #[Value.ref b] below meth c H locs cells slots (lw_Z below #[Value.ref b] s) (F0 m 344 ls []) := by
  have X0 := X
  obtain ⟨⟨hx, hb, hr, hml, hown, hts, hX, hbl, hlocks, hgv⟩, hL, F⟩ := X
  have hB : 20 * (i : Int) ≤ 80000 := by omega
  have hsz : ls.size = c.maxLocals := by rw [hml]; exact hl.1
  have hW : ∀ σ, rz_Wd 60 (wOf 60 σ) := fun σ h hh => by unfold wOf; rw [if_neg (by omega)]
  obtain ⟨a1, ea1, ra1⟩ := zI_of (xs (i + 1))
  obtain ⟨v, σ1, σ2, gp2, c1, c2, hrel⟩ := k_tell h hB ra1
  obtain ⟨x, rfl⟩ := rz_dM_int rz_m_68 rfl c1
  refine lv_aload_n hx hb d_law_344 rfl (lv_at hl 1 rfl) ?_
  refine la_arg X0 hS hl (j := 1) (by omega) (by decide) ea1 d_law_345 d_law_346 d_law_347 d_law_348 d_law_349 ?_
  refine ct_callV F hS hP hD (hW _) (by decide) (i := 68) (j := 523) (h := bs 0) (as := [.int (zI a1)]) (rest := []) rz_m_68 (by decide) (w_bs (g := 0) (by decide) (by decide)) rfl rfl rfl (by decide +kernel) d_law_350 (rz_sound l 60 _ _ _ _ _ c1) (Nat.le_of_ble_eq_true rfl) hsz (Nat.le_of_ble_eq_true rfl) (Nat.le_of_ble_eq_true rfl) hcs rfl (fun H locs hP hW9 hS => ?_)
  have hD := ct_Dw (wOf 60 σ1) hD
  refine lv_aload_n hx hb d_law_353 rfl (lv_at hl 2 rfl) ?_
  refine la_arg X0 hS hl (j := 1) (by omega) (by decide) ea1 d_law_354 d_law_355 d_law_356 d_law_357 d_law_358 ?_
  refine ct_callV F hS hP hD (hW _) (by decide) (i := 141) (j := 989) (h := bs 10) (as := [.int (zI a1)]) (rest := [.int x]) rz_m_141 (by decide) (w_bs (g := 10) (by decide) (by decide)) rfl rfl rfl (by decide +kernel) d_law_359 (rz_sound l 60 _ _ _ _ _ c2) (Nat.le_of_ble_eq_true rfl) hsz (Nat.le_of_ble_eq_true rfl) (Nat.le_of_ble_eq_true rfl) hcs rfl (fun H locs hP hW9 hS => ?_)
  have hD := ct_Dw (wOf 60 σ2) hD
  refine lv_icmp_eq (tgt := 858) hx hb d_law_362 (by decide) (fun _ => ?_) (fun h9 => absurd rfl h9)
  exact kk σ2 gp2 H locs hrel hP hD hS
set_option maxHeartbeats 4000000 in
set_option maxRecDepth 100000 in
theorem lc_pass {p : Program} {l : Launch} {e : Env} {s : State} {m : MethodId} {below : List Frame} {meth : Method} {c : Code} {b L : Nat} {xs : Nat → Int32} {D : va_G} {cI cZ : ClassId} {ad : Nat → Nat} {cells slots : Nat} (X : lwC0 p s m meth c b L xs D cI cZ ad) (hcs : cells ≤ room_1.cells ∧ slots ≤ room_1.slots) {i : Nat} (hi : i + 4 ≤ L) {σ : zS} {gp : Nat} {H : Heap} {locs : List Loc} {ls : Array Slot} (h : REL (20 * (i : Int)) σ gp) (hP : va_P D vwCl (rz_ws cI cZ ad 60 (wOf 60 σ)) H) (hD : va_D (lwA0 s) (rz_ws cI cZ ad 60 (wOf 60 σ))) (hS : va_S (lwA0 s) s.heap H locs) (hl : lv_has ls 4 [(0, .ref b), (1, .ref (ad 0)), (2, .ref (ad 48)), (3, .int (zI i))])
    (kk : ∀ (σ2 : zS) (gp2 : Nat) (H1 : Heap) (locs1 : List Loc), REL (20 * (i : Int) + 20) σ2 gp2 → va_P D vwCl (rz_ws cI cZ ad 60 (wOf 60 σ2)) H1 → va_D (lwA0 s) (rz_ws cI cZ ad 60 (wOf 60 σ2)) → va_S (lwA0 s) s.heap H1 locs1 → W p l e room_1 s m #[Value.ref b] below meth c H1 locs1 cells slots (lw_Z below #[Value.ref b] s) (F0 m 858 ls [])) : W p l e room_1 s m #[Value.ref b] below meth c H locs cells slots (lw_Z below #[Value.ref b] s) (F0 m 390 ls []) := by
  have X0 := X
  obtain ⟨⟨hx, hb, hr, hml, hown, hts, hX, hbl, hlocks, hgv⟩, hL, F⟩ := X
  have hB : 20 * (i : Int) ≤ 80000 := by omega
  have hsz : ls.size = c.maxLocals := by rw [hml]; exact hl.1
  have hW : ∀ σ, rz_Wd 60 (wOf 60 σ) := fun σ h hh => by unfold wOf; rw [if_neg (by omega)]
  obtain ⟨v, σ1, σ2, gp2, c1, c2, hrel⟩ := k_pass h hB 
  obtain ⟨x, rfl⟩ := rz_dM_int rz_m_70 rfl c1
  refine lv_aload_n hx hb d_law_390 rfl (lv_at hl 1 rfl) ?_
  refine ct_callV F hS hP hD (hW _) (by decide) (i := 70) (j := 565) (h := bs 0) (as := []) (rest := []) rz_m_70 (by decide) (w_bs (g := 0) (by decide) (by decide)) rfl rfl rfl (by decide +kernel) d_law_391 (rz_sound l 60 _ _ _ _ _ c1) (Nat.le_of_ble_eq_true rfl) hsz (Nat.le_of_ble_eq_true rfl) (Nat.le_of_ble_eq_true rfl) hcs rfl (fun H locs hP hW9 hS => ?_)
  have hD := ct_Dw (wOf 60 σ1) hD
  refine lv_aload_n hx hb d_law_394 rfl (lv_at hl 2 rfl) ?_
  refine ct_callV F hS hP hD (hW _) (by decide) (i := 145) (j := 1016) (h := bs 10) (as := []) (rest := [.int x]) rz_m_145 (by decide) (w_bs (g := 10) (by decide) (by decide)) rfl rfl rfl (by decide +kernel) d_law_395 (rz_sound l 60 _ _ _ _ _ c2) (Nat.le_of_ble_eq_true rfl) hsz (Nat.le_of_ble_eq_true rfl) (Nat.le_of_ble_eq_true rfl) hcs rfl (fun H locs hP hW9 hS => ?_)
  have hD := ct_Dw (wOf 60 σ2) hD
  refine lv_icmp_eq (tgt := 858) hx hb d_law_398 (by decide) (fun _ => ?_) (fun h9 => absurd rfl h9)
  exact kk σ2 gp2 H locs hrel hP hD hS
set_option maxHeartbeats 4000000 in
set_option maxRecDepth 100000 in
theorem lc_type {p : Program} {l : Launch} {e : Env} {s : State} {m : MethodId} {below : List Frame} {meth : Method} {c : Code} {b L : Nat} {xs : Nat → Int32} {D : va_G} {cI cZ : ClassId} {ad : Nat → Nat} {cells slots : Nat} (X : lwC0 p s m meth c b L xs D cI cZ ad) (hcs : cells ≤ room_1.cells ∧ slots ≤ room_1.slots) {i : Nat} (hi : i + 4 ≤ L) {σ : zS} {gp : Nat} {H : Heap} {locs : List Loc} {ls : Array Slot} (h : REL (20 * (i : Int)) σ gp) (hP : va_P D vwCl (rz_ws cI cZ ad 60 (wOf 60 σ)) H) (hD : va_D (lwA0 s) (rz_ws cI cZ ad 60 (wOf 60 σ))) (hS : va_S (lwA0 s) s.heap H locs) (hl : lv_has ls 4 [(0, .ref b), (1, .ref (ad 0)), (2, .ref (ad 48)), (3, .int (zI i))])
    (kk : ∀ (σ2 : zS) (gp2 : Nat) (H1 : Heap) (locs1 : List Loc), REL (20 * (i : Int) + 20) σ2 gp2 → va_P D vwCl (rz_ws cI cZ ad 60 (wOf 60 σ2)) H1 → va_D (lwA0 s) (rz_ws cI cZ ad 60 (wOf 60 σ2)) → va_S (lwA0 s) s.heap H1 locs1 → W p l e room_1 s m #[Value.ref b] below meth c H1 locs1 cells slots (lw_Z below #[Value.ref b] s) (F0 m 858 ls [])) : W p l e room_1 s m #[Value.ref b] below meth c H locs cells slots (lw_Z below #[Value.ref b] s) (F0 m 156 ls []) := by
  have X0 := X
  obtain ⟨⟨hx, hb, hr, hml, hown, hts, hX, hbl, hlocks, hgv⟩, hL, F⟩ := X
  have hB : 20 * (i : Int) ≤ 80000 := by omega
  have hsz : ls.size = c.maxLocals := by rw [hml]; exact hl.1
  have hW : ∀ σ, rz_Wd 60 (wOf 60 σ) := fun σ h hh => by unfold wOf; rw [if_neg (by omega)]
  obtain ⟨a1, ea1, ra1⟩ := zI_of (xs (i + 1))
  obtain ⟨a2, ea2, ra2⟩ := zI_of (xs (i + 2))
  obtain ⟨a3, ea3, ra3⟩ := zI_of (xs (i + 3))
  obtain ⟨v0, ev0⟩ : ∃ z : Int64, z = ((zI a1).toInt64 <<< ((32 : Int32).toInt64 &&& 63)) ||| ((zI a2).toInt64 &&& 4294967295) := ⟨_, rfl⟩
  obtain ⟨v, σ1, σ2, gp2, c1, c2, hrel⟩ := k_type h hB v0 ra3
  obtain ⟨x, rfl⟩ := rz_dM_int rz_m_62 rfl c1
  refine lv_aload_n hx hb d_law_156 rfl (lv_at hl 1 rfl) ?_
  refine la_arg X0 hS hl (j := 1) (by omega) (by decide) ea1 d_law_157 d_law_158 d_law_159 d_law_160 d_law_161 ?_
  refine lv_i2l (v := (zI a1).toInt64) hx hb d_law_162 rfl ?_
  refine lv_bipush (v := 32) hx hb d_law_163 (by decide +kernel) ?_
  refine lv_lshl (v := (zI a1).toInt64 <<< ((32 : Int32).toInt64 &&& 63)) hx hb d_law_165 rfl ?_
  refine la_arg X0 hS hl (j := 2) (by omega) (by decide) ea2 d_law_166 d_law_167 d_law_168 d_law_169 d_law_170 ?_
  refine lv_i2l (v := (zI a2).toInt64) hx hb d_law_171 rfl ?_
  refine lv_ldc2 (index := 13) (v := 4294967295) hx hb hown (F.2.2.2.1 _ (rz_wd_mem (j := 1162) (by decide +kernel))) d_law_172 ?_
  refine lv_land hx hb d_law_175 ?_
  refine lv_lor hx hb d_law_176 ?_
  rw [← ev0]
  refine la_arg X0 hS hl (j := 3) (by omega) (by decide) ea3 d_law_177 d_law_178 d_law_179 d_law_180 d_law_181 ?_
  refine ct_callV F hS hP hD (hW _) (by decide) (i := 62) (j := 303) (h := bs 0) (as := [.long v0, .int (zI a3)]) (rest := []) rz_m_62 (by decide) (w_bs (g := 0) (by decide) (by decide)) rfl rfl rfl (by decide +kernel) d_law_182 (rz_sound l 60 _ _ _ _ _ c1) (Nat.le_of_ble_eq_true rfl) hsz (Nat.le_of_ble_eq_true rfl) (Nat.le_of_ble_eq_true rfl) hcs rfl (fun H locs hP hW9 hS => ?_)
  have hD := ct_Dw (wOf 60 σ1) hD
  refine lv_aload_n hx hb d_law_185 rfl (lv_at hl 2 rfl) ?_
  refine la_arg X0 hS hl (j := 1) (by omega) (by decide) ea1 d_law_186 d_law_187 d_law_188 d_law_189 d_law_190 ?_
  refine lv_i2l (v := (zI a1).toInt64) hx hb d_law_191 rfl ?_
  refine lv_bipush (v := 32) hx hb d_law_192 (by decide +kernel) ?_
  refine lv_lshl (v := (zI a1).toInt64 <<< ((32 : Int32).toInt64 &&& 63)) hx hb d_law_194 rfl ?_
  refine la_arg X0 hS hl (j := 2) (by omega) (by decide) ea2 d_law_195 d_law_196 d_law_197 d_law_198 d_law_199 ?_
  refine lv_i2l (v := (zI a2).toInt64) hx hb d_law_200 rfl ?_
  refine lv_ldc2 (index := 13) (v := 4294967295) hx hb hown (F.2.2.2.1 _ (rz_wd_mem (j := 1162) (by decide +kernel))) d_law_201 ?_
  refine lv_land hx hb d_law_204 ?_
  refine lv_lor hx hb d_law_205 ?_
  rw [← ev0]
  refine la_arg X0 hS hl (j := 3) (by omega) (by decide) ea3 d_law_206 d_law_207 d_law_208 d_law_209 d_law_210 ?_
  refine ct_callV F hS hP hD (hW _) (by decide) (i := 112) (j := 900) (h := bs 10) (as := [.long v0, .int (zI a3)]) (rest := [.int x]) rz_m_112 (by decide) (w_bs (g := 10) (by decide) (by decide)) rfl rfl rfl (by decide +kernel) d_law_211 (rz_sound l 60 _ _ _ _ _ c2) (Nat.le_of_ble_eq_true rfl) hsz (Nat.le_of_ble_eq_true rfl) (Nat.le_of_ble_eq_true rfl) hcs rfl (fun H locs hP hW9 hS => ?_)
  have hD := ct_Dw (wOf 60 σ2) hD
  refine lv_icmp_eq (tgt := 858) hx hb d_law_214 (by decide) (fun _ => ?_) (fun h9 => absurd rfl h9)
  exact kk σ2 gp2 H locs hrel hP hD hS
set_option maxHeartbeats 4000000 in
set_option maxRecDepth 100000 in
theorem lc_trace {p : Program} {l : Launch} {e : Env} {s : State} {m : MethodId} {below : List Frame} {meth : Method} {c : Code} {b L : Nat} {xs : Nat → Int32} {D : va_G} {cI cZ : ClassId} {ad : Nat → Nat} {cells slots : Nat} (X : lwC0 p s m meth c b L xs D cI cZ ad) (hcs : cells ≤ room_1.cells ∧ slots ≤ room_1.slots) {i : Nat} (hi : i + 4 ≤ L) {σ : zS} {gp : Nat} {H : Heap} {locs : List Loc} {ls : Array Slot} (h : REL (20 * (i : Int)) σ gp) (hP : va_P D vwCl (rz_ws cI cZ ad 60 (wOf 60 σ)) H) (hD : va_D (lwA0 s) (rz_ws cI cZ ad 60 (wOf 60 σ))) (hS : va_S (lwA0 s) s.heap H locs) (hl : lv_has ls 4 [(0, .ref b), (1, .ref (ad 0)), (2, .ref (ad 48)), (3, .int (zI i))])
    (kk : ∀ (σ2 : zS) (gp2 : Nat) (H1 : Heap) (locs1 : List Loc), REL (20 * (i : Int) + 20) σ2 gp2 → va_P D vwCl (rz_ws cI cZ ad 60 (wOf 60 σ2)) H1 → va_D (lwA0 s) (rz_ws cI cZ ad 60 (wOf 60 σ2)) → va_S (lwA0 s) s.heap H1 locs1 → W p l e room_1 s m #[Value.ref b] below meth c H1 locs1 cells slots (lw_Z below #[Value.ref b] s) (F0 m 858 ls [])) : W p l e room_1 s m #[Value.ref b] below meth c H locs cells slots (lw_Z below #[Value.ref b] s) (F0 m 844 ls []) := by
  have X0 := X
  obtain ⟨⟨hx, hb, hr, hml, hown, hts, hX, hbl, hlocks, hgv⟩, hL, F⟩ := X
  have hB : 20 * (i : Int) ≤ 80000 := by omega
  have hsz : ls.size = c.maxLocals := by rw [hml]; exact hl.1
  have hW : ∀ σ, rz_Wd 60 (wOf 60 σ) := fun σ h hh => by unfold wOf; rw [if_neg (by omega)]
  obtain ⟨v, σ1, σ2, gp2, c1, c2, hrel⟩ := k_trace h hB 
  obtain ⟨x, rfl⟩ : ∃ x, v = .long x := by
    have hz := z_trace (N := 60) (σ := σ) 59 (by decide)
    rw [hz] at c1
    exact ⟨_, (Option.some.inj (congrArg Prod.fst (Option.some.inj c1))).symm⟩
  refine lv_aload_n hx hb d_law_844 rfl (lv_at hl 1 rfl) ?_
  refine ct_callV F hS hP hD (hW _) (by decide) (i := 88) (j := 819) (h := bs 0) (as := []) (rest := []) rz_m_88 (by decide) (w_bs (g := 0) (by decide) (by decide)) rfl rfl rfl (by decide +kernel) d_law_845 (rz_sound l 60 _ _ _ _ _ c1) (Nat.le_of_ble_eq_true rfl) hsz (Nat.le_of_ble_eq_true rfl) (Nat.le_of_ble_eq_true rfl) hcs rfl (fun H locs hP hW9 hS => ?_)
  have hD := ct_Dw (wOf 60 σ1) hD
  refine lv_aload_n hx hb d_law_848 rfl (lv_at hl 2 rfl) ?_
  refine ct_callV F hS hP hD (hW _) (by decide) (i := 178) (j := 1158) (h := bs 10) (as := []) (rest := [.long x]) rz_m_178 (by decide) (w_bs (g := 10) (by decide) (by decide)) rfl rfl rfl (by decide +kernel) d_law_849 (rz_sound l 60 _ _ _ _ _ c2) (Nat.le_of_ble_eq_true rfl) hsz (Nat.le_of_ble_eq_true rfl) (Nat.le_of_ble_eq_true rfl) hcs rfl (fun H locs hP hW9 hS => ?_)
  have hD := ct_Dw (wOf 60 σ2) hD
  refine W.lcmp hx hb d_law_852 ?_
  rw [show lg_cmp x x = 0 by unfold lg_cmp; simp]
  refine lv_if_eq (tgt := 858) hx hb d_law_853 (by decide) (fun _ => ?_) (fun h9 => absurd rfl h9)
  exact kk σ2 gp2 H locs hrel hP hD hS
