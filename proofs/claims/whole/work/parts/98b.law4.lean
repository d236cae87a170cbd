/-! the law's cases, by program -/
set_option maxHeartbeats 4000000 in
set_option maxRecDepth 100000 in
theorem lc_clear {p : Program} {l : Launch} {e : Env} {s : State} {m : MethodId} {below : List Frame} {meth : Method} {c : Code} {b L : Nat} {xs : Nat → Int32} {D : va_G} {cI cZ : ClassId} {ad : Nat → Nat} {cells slots : Nat} (X : lwC0 p s m meth c b L xs D cI cZ ad) (hcs : cells ≤ room_1.cells ∧ slots ≤ room_1.slots) {i : Nat} (hi : i + 4 ≤ L) {σ : zS} {gp : Nat} {H : Heap} {locs : List Loc} {ls : Array Slot} (h : REL (20 * (i : Int)) σ gp) (hP : va_P D vwCl (rz_ws cI cZ ad 60 (wOf 60 σ)) H) (hD : va_D (lwA0 s) (rz_ws cI cZ ad 60 (wOf 60 σ))) (hS : va_S (lwA0 s) s.heap H locs) (hl : lv_has ls 4 [(0, .ref b), (1, .ref (ad 0)), (2, .ref (ad 48)), (3, .int (zI i))])
    (kk : ∀ (σ2 : zS) (gp2 : Nat) (H1 : Heap) (locs1 : List Loc), REL (20 * (i : Int) + 20) σ2 gp2 → va_P D vwCl (rz_ws cI cZ ad 60 (wOf 60 σ2)) H1 → va_D (lwA0 s) (rz_ws cI cZ ad 60 (wOf 60 σ2)) → va_S (lwA0 s) s.heap H1 locs1 → W p l e room_1 s m #[Value.ref b] below meth c H1 locs1 cells slots (lw_Z below #[Value.ref b] s) (F0 m 858 ls [])) : W p l e room_1 s m #[Value.ref b] below meth c H locs cells slots (lw_Z below #[Value.ref b] s) (F0 m 219 ls []) := by
  have X0 := X
  obtain ⟨⟨hx, hb, hr, hml, hown, hts, hX, hbl, hlocks, hgv⟩, hL, F⟩ := X
  have hB : 20 * (i : Int) ≤ 80000 := by omega
  have hsz : ls.size = c.maxLocals := by rw [hml]; exact hl.1
  have hW : ∀ σ, rz_Wd 60 (wOf 60 σ) := fun σ h hh => by unfold wOf; rw [if_neg (by omega)]
  obtain ⟨v, σ1, σ2, gp2, c1, c2, hrel⟩ := k_clear h hB 
  obtain ⟨x, rfl⟩ := rz_dM_int rz_m_63 rfl c1
  refine lv_aload_n hx hb d_law_219 rfl (lv_at hl 1 rfl) ?_
  refine ct_callV F hS hP hD (hW _) (by decide) (i := 63) (j := 312) (h := bs 0) (as := []) (rest := []) rz_m_63 (by decide) (w_bs (g := 0) (by decide) (by decide)) rfl rfl rfl (by decide +kernel) d_law_220 (rz_sound l 60 _ _ _ _ _ c1) (Nat.le_of_ble_eq_true rfl) hsz (Nat.le_of_ble_eq_true rfl) (Nat.le_of_ble_eq_true rfl) hcs rfl (fun H locs hP hW9 hS => ?_)
  have hD := ct_Dw (wOf 60 σ1) hD
  refine lv_aload_n hx hb d_law_223 rfl (lv_at hl 2 rfl) ?_
  refine ct_callV F hS hP hD (hW _) (by decide) (i := 113) (j := 908) (h := bs 10) (as := []) (rest := [.int x]) rz_m_113 (by decide) (w_bs (g := 10) (by decide) (by decide)) rfl rfl rfl (by decide +kernel) d_law_224 (rz_sound l 60 _ _ _ _ _ c2) (Nat.le_of_ble_eq_true rfl) hsz (Nat.le_of_ble_eq_true rfl) (Nat.le_of_ble_eq_true rfl) hcs rfl (fun H locs hP hW9 hS => ?_)
  have hD := ct_Dw (wOf 60 σ2) hD
  refine lv_icmp_eq (tgt := 858) hx hb d_law_227 (by decide) (fun _ => ?_) (fun h9 => absurd rfl h9)
  exact kk σ2 gp2 H locs hrel hP hD hS
set_option maxHeartbeats 4000000 in
set_option maxRecDepth 100000 in
theorem lc_board {p : Program} {l : Launch} {e : Env} {s : State} {m : MethodId} {below : List Frame} {meth : Method} {c : Code} {b L : Nat} {xs : Nat → Int32} {D : va_G} {cI cZ : ClassId} {ad : Nat → Nat} {cells slots : Nat} (X : lwC0 p s m meth c b L xs D cI cZ ad) (hcs : cells ≤ room_1.cells ∧ slots ≤ room_1.slots) {i : Nat} (hi : i + 4 ≤ L) {σ : zS} {gp : Nat} {H : Heap} {locs : List Loc} {ls : Array Slot} (h : REL (20 * (i : Int)) σ gp) (hP : va_P D vwCl (rz_ws cI cZ ad 60 (wOf 60 σ)) H) (hD : va_D (lwA0 s) (rz_ws cI cZ ad 60 (wOf 60 σ))) (hS : va_S (lwA0 s) s.heap H locs) (hl : lv_has ls 4 [(0, .ref b), (1, .ref (ad 0)), (2, .ref (ad 48)), (3, .int (zI i))])
    (kk : ∀ (σ2 : zS) (gp2 : Nat) (H1 : Heap) (locs1 : List Loc), REL (20 * (i : Int) + 20) σ2 gp2 → va_P D vwCl (rz_ws cI cZ ad 60 (wOf 60 σ2)) H1 → va_D (lwA0 s) (rz_ws cI cZ ad 60 (wOf 60 σ2)) → va_S (lwA0 s) s.heap H1 locs1 → W p l e room_1 s m #[Value.ref b] below meth c H1 locs1 cells slots (lw_Z below #[Value.ref b] s) (F0 m 858 ls [])) : W p l e room_1 s m #[Value.ref b] below meth c H locs cells slots (lw_Z below #[Value.ref b] s) (F0 m 232 ls []) := by
  have X0 := X
  obtain ⟨⟨hx, hb, hr, hml, hown, hts, hX, hbl, hlocks, hgv⟩, hL, F⟩ := X
  have hB : 20 * (i : Int) ≤ 80000 := by omega
  have hsz : ls.size = c.maxLocals := by rw [hml]; exact hl.1
  have hW : ∀ σ, rz_Wd 60 (wOf 60 σ) := fun σ h hh => by unfold wOf; rw [if_neg (by omega)]
  obtain ⟨v, σ1, σ2, gp2, c1, c2, hrel⟩ := k_board h hB 
  obtain ⟨x, rfl⟩ := rz_dM_int rz_m_64 rfl c1
  refine lv_aload_n hx hb d_law_232 rfl (lv_at hl 1 rfl) ?_
  refine ct_callV F hS hP hD (hW _) (by decide) (i := 64) (j := 320) (h := bs 0) (as := []) (rest := []) rz_m_64 (by decide) (w_bs (g := 0) (by decide) (by decide)) rfl rfl rfl (by decide +kernel) d_law_233 (rz_sound l 60 _ _ _ _ _ c1) (Nat.le_of_ble_eq_true rfl) hsz (Nat.le_of_ble_eq_true rfl) (Nat.le_of_ble_eq_true rfl) hcs rfl (fun H locs hP hW9 hS => ?_)
  have hD := ct_Dw (wOf 60 σ1) hD
  refine lv_aload_n hx hb d_law_236 rfl (lv_at hl 2 rfl) ?_
  refine ct_callV F hS hP hD (hW _) (by decide) (i := 126) (j := 912) (h := bs 10) (as := []) (rest := [.int x]) rz_m_126 (by decide) (w_bs (g := 10) (by decide) (by decide)) rfl rfl rfl (by decide +kernel) d_law_237 (rz_sound l 60 _ _ _ _ _ c2) (Nat.le_of_ble_eq_true rfl) hsz (Nat.le_of_ble_eq_true rfl) (Nat.le_of_ble_eq_true rfl) hcs rfl (fun H locs hP hW9 hS => ?_)
  have hD := ct_Dw (wOf 60 σ2) hD
  refine lv_icmp_eq (tgt := 858) hx hb d_law_240 (by decide) (fun _ => ?_) (fun h9 => absurd rfl h9)
  exact kk σ2 gp2 H locs hrel hP hD hS
set_option maxHeartbeats 4000000 in
set_option maxRecDepth 100000 in
theorem lc_cell {p : Program} {l : Launch} {e : Env} {s : State} {m : MethodId} {below : List Frame} {meth : Method} {c : Code} {b L : Nat} {xs : Nat → Int32} {D : va_G} {cI cZ : ClassId} {ad : Nat → Nat} {cells slots : Nat} (X : lwC0 p s m meth c b L xs D cI cZ ad) (hcs : cells ≤ room_1.cells ∧ slots ≤ room_1.slots) {i : Nat} (hi : i + 4 ≤ L) {σ : zS} {gp : Nat} {H : Heap} {locs : List Loc} {ls : Array Slot} (h : REL (20 * (i : Int)) σ gp) (hP : va_P D vwCl (rz_ws cI cZ ad 60 (wOf 60 σ)) H) (hD : va_D (lwA0 s) (rz_ws cI cZ ad 60 (wOf 60 σ))) (hS : va_S (lwA0 s) s.heap H locs) (hl : lv_has ls 4 [(0, .ref b), (1, .ref (ad 0)), (2, .ref (ad 48)), (3, .int (zI i))])
    (kk : ∀ (σ2 : zS) (gp2 : Nat) (H1 : Heap) (locs1 : List Loc), REL (20 * (i : Int) + 20) σ2 gp2 → va_P D vwCl (rz_ws cI cZ ad 60 (wOf 60 σ2)) H1 → va_D (lwA0 s) (rz_ws cI cZ ad 60 (wOf 60 σ2)) → va_S (lwA0 s) s.heap H1 locs1 → W p l e room_1 s m #[Value.ref b] below meth c H1 locs1 cells slots (lw_Z below #[Value.ref b] s) (F0 m 858 ls [])) : W p l e room_1 s m #[Value.ref b] below meth c H locs cells slots (lw_Z below #[Value.ref b] s) (F0 m 245 ls []) := by
  have X0 := X
  obtain ⟨⟨hx, hb, hr, hml, hown, hts, hX, hbl, hlocks, hgv⟩, hL, F⟩ := X
  have hB : 20 * (i : Int) ≤ 80000 := by omega
  have hsz : ls.size = c.maxLocals := by rw [hml]; exact hl.1
  have hW : ∀ σ, rz_Wd 60 (wOf 60 σ) := fun σ h hh => by unfold wOf; rw [if_neg (by omega)]
  obtain ⟨a1, ea1, ra1⟩ := zI_of (xs (i + 1))
  obtain ⟨a2, ea2, ra2⟩ := zI_of (xs (i + 2))
  obtain ⟨v, σ1, σ2, gp2, c1, c2, hrel⟩ := k_cell h hB ra1 ra2
  obtain ⟨x, rfl⟩ := rz_dM_int rz_m_65 rfl c1
  refine lv_aload_n hx hb d_law_245 rfl (lv_at hl 1 rfl) ?_
  refine la_arg X0 hS hl (j := 1) (by omega) (by decide) ea1 d_law_246 d_law_247 d_law_248 d_law_249 d_law_250 ?_
  refine la_arg X0 hS hl (j := 2) (by omega) (by decide) ea2 d_law_251 d_law_252 d_law_253 d_law_254 d_law_255 ?_
  refine ct_callV F hS hP hD (hW _) (by decide) (i := 65) (j := 491) (h := bs 0) (as := [.int (zI a1), .int (zI a2)]) (rest := []) rz_m_65 (by decide) (w_bs (g := 0) (by decide) (by decide)) rfl rfl rfl (by decide +kernel) d_law_256 (rz_sound l 60 _ _ _ _ _ c1) (Nat.le_of_ble_eq_true rfl) hsz (Nat.le_of_ble_eq_true rfl) (Nat.le_of_ble_eq_true rfl) hcs rfl (fun H locs hP hW9 hS => ?_)
  have hD := ct_Dw (wOf 60 σ1) hD
  refine lv_aload_n hx hb d_law_259 rfl (lv_at hl 2 rfl) ?_
  refine la_arg X0 hS hl (j := 1) (by omega) (by decide) ea1 d_law_260 d_law_261 d_law_262 d_law_263 d_law_264 ?_
  refine la_arg X0 hS hl (j := 2) (by omega) (by decide) ea2 d_law_265 d_law_266 d_law_267 d_law_268 d_law_269 ?_
  refine ct_callV F hS hP hD (hW _) (by decide) (i := 130) (j := 958) (h := bs 10) (as := [.int (zI a1), .int (zI a2)]) (rest := [.int x]) rz_m_130 (by decide) (w_bs (g := 10) (by decide) (by decide)) rfl rfl rfl (by decide +kernel) d_law_270 (rz_sound l 60 _ _ _ _ _ c2) (Nat.le_of_ble_eq_true rfl) hsz (Nat.le_of_ble_eq_true rfl) (Nat.le_of_ble_eq_true rfl) hcs rfl (fun H locs hP hW9 hS => ?_)
  have hD := ct_Dw (wOf 60 σ2) hD
  refine lv_icmp_eq (tgt := 858) hx hb d_law_273 (by decide) (fun _ => ?_) (fun h9 => absurd rfl h9)
  exact kk σ2 gp2 H locs hrel hP hD hS
set_option maxHeartbeats 4000000 in
set_option maxRecDepth 100000 in
theorem lc_law {p : Program} {l : Launch} {e : Env} {s : State} {m : MethodId} {below : List Frame} {meth : Method} {c : Code} {b L : Nat} {xs : Nat → Int32} {D : va_G} {cI cZ : ClassId} {ad : Nat → Nat} {cells slots : Nat} (X : lwC0 p s m meth c b L xs D cI cZ ad) (hcs : cells ≤ room_1.cells ∧ slots ≤ room_1.slots) {i : Nat} (hi : i + 4 ≤ L) {σ : zS} {gp : Nat} {H : Heap} {locs : List Loc} {ls : Array Slot} (h : REL (20 * (i : Int)) σ gp) (hP : va_P D vwCl (rz_ws cI cZ ad 60 (wOf 60 σ)) H) (hD : va_D (lwA0 s) (rz_ws cI cZ ad 60 (wOf 60 σ))) (hS : va_S (lwA0 s) s.heap H locs) (hl : lv_has ls 4 [(0, .ref b), (1, .ref (ad 0)), (2, .ref (ad 48)), (3, .int (zI i))])
    (kk : ∀ (σ2 : zS) (gp2 : Nat) (H1 : Heap) (locs1 : List Loc), REL (20 * (i : Int) + 20) σ2 gp2 → va_P D vwCl (rz_ws cI cZ ad 60 (wOf 60 σ2)) H1 → va_D (lwA0 s) (rz_ws cI cZ ad 60 (wOf 60 σ2)) → va_S (lwA0 s) s.heap H1 locs1 → W p l e room_1 s m #[Value.ref b] below meth c H1 locs1 cells slots (lw_Z below #[Value.ref b] s) (F0 m 858 ls [])) : W p l e room_1 s m #[Value.ref b] below meth c H locs cells slots (lw_Z below #[Value.ref b] s) (F0 m 278 ls []) := by
  have X0 := X
  obtain ⟨⟨hx, hb, hr, hml, hown, hts, hX, hbl, hlocks, hgv⟩, hL, F⟩ := X
  have hB : 20 * (i : Int) ≤ 80000 := by omega
  have hsz : ls.size = c.maxLocals := by rw [hml]; exact hl.1
  have hW : ∀ σ, rz_Wd 60 (wOf 60 σ) := fun σ h hh => by unfold wOf; rw [if_neg (by omega)]
  obtain ⟨a1, ea1, ra1⟩ := zI_of (xs (i + 1))
  obtain ⟨a2, ea2, ra2⟩ := zI_of (xs (i + 2))
  obtain ⟨v, σ1, σ2, gp2, c1, c2, hrel⟩ := k_law h hB ra1 ra2
  obtain ⟨x, rfl⟩ := rz_dM_int rz_m_66 rfl c1
  refine lv_aload_n hx hb d_law_278 rfl (lv_at hl 1 rfl) ?_
  refine la_arg X0 hS hl (j := 1) (by omega) (by decide) ea1 d_law_279 d_law_280 d_law_281 d_law_282 d_law_283 ?_
  refine la_arg X0 hS hl (j := 2) (by omega) (by decide) ea2 d_law_284 d_law_285 d_law_286 d_law_287 d_law_288 ?_
  refine ct_callV F hS hP hD (hW _) (by decide) (i := 66) (j := 498) (h := bs 0) (as := [.int (zI a1), .int (zI a2)]) (rest := []) rz_m_66 (by decide) (w_bs (g := 0) (by decide) (by decide)) rfl rfl rfl (by decide +kernel) d_law_289 (rz_sound l 60 _ _ _ _ _ c1) (Nat.le_of_ble_eq_true rfl) hsz (Nat.le_of_ble_eq_true rfl) (Nat.le_of_ble_eq_true rfl) hcs rfl (fun H locs hP hW9 hS => ?_)
  have hD := ct_Dw (wOf 60 σ1) hD
  refine lv_aload_n hx hb d_law_292 rfl (lv_at hl 2 rfl) ?_
  refine la_arg X0 hS hl (j := 1) (by omega) (by decide) ea1 d_law_293 d_law_294 d_law_295 d_law_296 d_law_297 ?_
  refine la_arg X0 hS hl (j := 2) (by omega) (by decide) ea2 d_law_298 d_law_299 d_law_300 d_law_301 d_law_302 ?_
  refine ct_callV F hS hP hD (hW _) (by decide) (i := 131) (j := 962) (h := bs 10) (as := [.int (zI a1), .int (zI a2)]) (rest := [.int x]) rz_m_131 (by decide) (w_bs (g := 10) (by decide) (by decide)) rfl rfl rfl (by decide +kernel) d_law_303 (rz_sound l 60 _ _ _ _ _ c2) (Nat.le_of_ble_eq_true rfl) hsz (Nat.le_of_ble_eq_true rfl) (Nat.le_of_ble_eq_true rfl) hcs rfl (fun H locs hP hW9 hS => ?_)
  have hD := ct_Dw (wOf 60 σ2) hD
  refine lv_icmp_eq (tgt := 858) hx hb d_law_306 (by decide) (fun _ => ?_) (fun h9 => absurd rfl h9)
  exact kk σ2 gp2 H locs hrel hP hD hS
set_option maxHeartbeats 4000000 in
set_option maxRecDepth 100000 in
theorem lc_man {p : Program} {l : Launch} {e : Env} {s : State} {m : MethodId} {below : List Frame} {meth : Method} {c : Code} {b L : Nat} {xs : Nat → Int32} {D : va_G} {cI cZ : ClassId} {ad : Nat → Nat} {cells slots : Nat} (X : lwC0 p s m meth c b L xs D cI cZ ad) (hcs : cells ≤ room_1.cells ∧ slots ≤ room_1.slots) {i : Nat} (hi : i + 4 ≤ L) {σ : zS} {gp : Nat} {H : Heap} {locs : List Loc} {ls : Array Slot} (h : REL (20 * (i : Int)) σ gp) (hP : va_P D vwCl (rz_ws cI cZ ad 60 (wOf 60 σ)) H) (hD : va_D (lwA0 s) (rz_ws cI cZ ad 60 (wOf 60 σ))) (hS : va_S (lwA0 s) s.heap H locs) (hl : lv_has ls 4 [(0, .ref b), (1, .ref (ad 0)), (2, .ref (ad 48)), (3, .int (zI i))])
    (kk : ∀ (σ2 : zS) (gp2 : Nat) (H1 : Heap) (locs1 : List Loc), REL (20 * (i : Int) + 20) σ2 gp2 → va_P D vwCl (rz_ws cI cZ ad 60 (wOf 60 σ2)) H1 → va_D (lwA0 s) (rz_ws cI cZ ad 60 (wOf 60 σ2)) → va_S (lwA0 s) s.heap H1 locs1 → W p l e room_1 s m #[Value.ref b] below meth c H1 locs1 cells slots (lw_Z below #[Value.ref b] s) (F0 m 858 ls [])) : W p l e room_1 s m #[Value.ref b] below meth c H locs cells slots (lw_Z below #[Value.ref b] s) (F0 m 311 ls []) := by
  have X0 := X
  obtain ⟨⟨hx, hb, hr, hml, hown, hts, hX, hbl, hlocks, hgv⟩, hL, F⟩ := X
  have hB : 20 * (i : Int) ≤ 80000 := by omega
  have hsz : ls.size = c.maxLocals := by rw [hml]; exact hl.1
  have hW : ∀ σ, rz_Wd 60 (wOf 60 σ) := fun σ h hh => by unfold wOf; rw [if_neg (by omega)]
  obtain ⟨a1, ea1, ra1⟩ := zI_of (xs (i + 1))
  obtain ⟨a2, ea2, ra2⟩ := zI_of (xs (i + 2))
  obtain ⟨v, σ1, σ2, gp2, c1, c2, hrel⟩ := k_man h hB ra1 ra2
  obtain ⟨x, rfl⟩ := rz_dM_int rz_m_67 rfl c1
  refine lv_aload_n hx hb d_law_311 rfl (lv_at hl 1 rfl) ?_
  refine la_arg X0 hS hl (j := 1) (by omega) (by decide) ea1 d_law_312 d_law_313 d_law_314 d_law_315 d_law_316 ?_
  refine la_arg X0 hS hl (j := 2) (by omega) (by decide) ea2 d_law_317 d_law_318 d_law_319 d_law_320 d_law_321 ?_
  refine ct_callV F hS hP hD (hW _) (by decide) (i := 67) (j := 502) (h := bs 0) (as := [.int (zI a1), .int (zI a2)]) (rest := []) rz_m_67 (by decide) (w_bs (g := 0) (by decide) (by decide)) rfl rfl rfl (by decide +kernel) d_law_322 (rz_sound l 60 _ _ _ _ _ c1) (Nat.le_of_ble_eq_true rfl) hsz (Nat.le_of_ble_eq_true rfl) (Nat.le_of_ble_eq_true rfl) hcs rfl (fun H locs hP hW9 hS => ?_)
  have hD := ct_Dw (wOf 60 σ1) hD
  refine lv_aload_n hx hb d_law_325 rfl (lv_at hl 2 rfl) ?_
  refine la_arg X0 hS hl (j := 1) (by omega) (by decide) ea1 d_law_326 d_law_327 d_law_328 d_law_329 d_law_330 ?_
  refine la_arg X0 hS hl (j := 2) (by omega) (by decide) ea2 d_law_331 d_law_332 d_law_333 d_law_334 d_law_335 ?_
  refine ct_callV F hS hP hD (hW _) (by decide) (i := 137) (j := 966) (h := bs 10) (as := [.int (zI a1), .int (zI a2)]) (rest := [.int x]) rz_m_137 (by decide) (w_bs (g := 10) (by decide) (by decide)) rfl rfl rfl (by decide +kernel) d_law_336 (rz_sound l 60 _ _ _ _ _ c2) (Nat.le_of_ble_eq_true rfl) hsz (Nat.le_of_ble_eq_true rfl) (Nat.le_of_ble_eq_true rfl) hcs rfl (fun H locs hP hW9 hS => ?_)
  have hD := ct_Dw (wOf 60 σ2) hD
  refine lv_icmp_eq (tgt := 858) hx hb d_law_339 (by decide) (fun _ => ?_) (fun h9 => absurd rfl h9)
  exact kk σ2 gp2 H locs hrel hP hD hS
set_option maxHeartbeats 4000000 in
set_option maxRecDepth 100000 in
theorem lc_refuse {p : Program} {l : Launch} {e : Env} {s : State} {m : MethodId} {below : List Frame} {meth : Method} {c : Code} {b L : Nat} {xs : Nat → Int32} {D : va_G} {cI cZ : ClassId} {ad : Nat → Nat} {cells slots : Nat} (X : lwC0 p s m meth c b L xs D cI cZ ad) (hcs : cells ≤ room_1.cells ∧ slots ≤ room_1.slots) {i : Nat} (hi : i + 4 ≤ L) {σ : zS} {gp : Nat} {H : Heap} {locs : List Loc} {ls : Array Slot} (h : REL (20 * (i : Int)) σ gp) (hP : va_P D vwCl (rz_ws cI cZ ad 60 (wOf 60 σ)) H) (hD : va_D (lwA0 s) (rz_ws cI cZ ad 60 (wOf 60 σ))) (hS : va_S (lwA0 s) s.heap H locs) (hl : lv_has ls 4 [(0, .ref b), (1, .ref (ad 0)), (2, .ref (ad 48)), (3, .int (zI i))])
    (kk : ∀ (σ2 : zS) (gp2 : Nat) (H1 : Heap) (locs1 : List Loc), REL (20 * (i : Int) + 20) σ2 gp2 → va_P D vwCl (rz_ws cI cZ ad 60 (wOf 60 σ2)) H1 → va_D (lwA0 s) (rz_ws cI cZ ad 60 (wOf 60 σ2)) → va_S (lwA0 s) s.heap H1 locs1 → W p l e room_1 s m #[Value.ref b] below meth c H1 locs1 cells slots (lw_Z below #[Value.ref b] s) (F0 m 858 ls [])) : W p l e room_1 s m #[Value.ref b] below meth c H locs cells slots (lw_Z below #[Value.ref b] s) (F0 m 367 ls []) := by
  have X0 := X
  obtain ⟨⟨hx, hb, hr, hml, hown, hts, hX, hbl, hlocks, hgv⟩, hL, F⟩ := X
  have hB : 20 * (i : Int) ≤ 80000 := by omega
  have hsz : ls.size = c.maxLocals := by rw [hml]; exact hl.1
  have hW : ∀ σ, rz_Wd 60 (wOf 60 σ) := fun σ h hh => by unfold wOf; rw [if_neg (by omega)]
  obtain ⟨a1, ea1, ra1⟩ := zI_of (xs (i + 1))
  obtain ⟨v, σ1, σ2, gp2, c1, c2, hrel⟩ := k_refuse h hB ra1
  obtain ⟨x, rfl⟩ := rz_dM_int rz_m_69 rfl c1
  refine lv_aload_n hx hb d_law_367 rfl (lv_at hl 1 rfl) ?_
  refine la_arg X0 hS hl (j := 1) (by omega) (by decide) ea1 d_law_368 d_law_369 d_law_370 d_law_371 d_law_372 ?_
  refine ct_callV F hS hP hD (hW _) (by decide) (i := 69) (j := 550) (h := bs 0) (as := [.int (zI a1)]) (rest := []) rz_m_69 (by decide) (w_bs (g := 0) (by decide) (by decide)) rfl rfl rfl (by decide +kernel) d_law_373 (rz_sound l 60 _ _ _ _ _ c1) (Nat.le_of_ble_eq_true rfl) hsz (Nat.le_of_ble_eq_true rfl) (Nat.le_of_ble_eq_true rfl) hcs rfl (fun H locs hP hW9 hS => ?_)
  have hD := ct_Dw (wOf 60 σ1) hD
  refine lv_aload_n hx hb d_law_376 rfl (lv_at hl 2 rfl) ?_
  refine la_arg X0 hS hl (j := 1) (by omega) (by decide) ea1 d_law_377 d_law_378 d_law_379 d_law_380 d_law_381 ?_
  refine ct_callV F hS hP hD (hW _) (by decide) (i := 144) (j := 1005) (h := bs 10) (as := [.int (zI a1)]) (rest := [.int x]) rz_m_144 (by decide) (w_bs (g := 10) (by decide) (by decide)) rfl rfl rfl (by decide +kernel) d_law_382 (rz_sound l 60 _ _ _ _ _ c2) (Nat.le_of_ble_eq_true rfl) hsz (Nat.le_of_ble_eq_true rfl) (Nat.le_of_ble_eq_true rfl) hcs rfl (fun H locs hP hW9 hS => ?_)
  have hD := ct_Dw (wOf 60 σ2) hD
  refine lv_icmp_eq (tgt := 858) hx hb d_law_385 (by decide) (fun _ => ?_) (fun h9 => absurd rfl h9)
  exact kk σ2 gp2 H locs hrel hP hD hS
set_option maxHeartbeats 4000000 in
set_option maxRecDepth 100000 in
theorem lc_now {p : Program} {l : Launch} {e : Env} {s : State} {m : MethodId} {below : List Frame} {meth : Method} {c : Code} {b L : Nat} {xs : Nat → Int32} {D : va_G} {cI cZ : ClassId} {ad : Nat → Nat} {cells slots : Nat} (X : lwC0 p s m meth c b L xs D cI cZ ad) (hcs : cells ≤ room_1.cells ∧ slots ≤ room_1.slots) {i : Nat} (hi : i + 4 ≤ L) {σ : zS} {gp : Nat} {H : Heap} {locs : List Loc} {ls : Array Slot} (h : REL (20 * (i : Int)) σ gp) (hP : va_P D vwCl (rz_ws cI cZ ad 60 (wOf 60 σ)) H) (hD : va_D (lwA0 s) (rz_ws cI cZ ad 60 (wOf 60 σ))) (hS : va_S (lwA0 s) s.heap H locs) (hl : lv_has ls 4 [(0, .ref b), (1, .ref (ad 0)), (2, .ref (ad 48)), (3, .int (zI i))])
    (kk : ∀ (σ2 : zS) (gp2 : Nat) (H1 : Heap) (locs1 : List Loc), REL (20 * (i : Int) + 20) σ2 gp2 → va_P D vwCl (rz_ws cI cZ ad 60 (wOf 60 σ2)) H1 → va_D (lwA0 s) (rz_ws cI cZ ad 60 (wOf 60 σ2)) → va_S (lwA0 s) s.heap H1 locs1 → W p l e room_1 s m #[Value.ref b] below meth c H1 locs1 cells slots (lw_Z below #[Value.ref b] s) (F0 m 858 ls [])) : W p l e room_1 s m #[Value.ref b] below meth c H locs cells slots (lw_Z below #[Value.ref b] s) (F0 m 403 ls []) := by
  have X0 := X
  obtain ⟨⟨hx, hb, hr, hml, hown, hts, hX, hbl, hlocks, hgv⟩, hL, F⟩ := X
  have hB : 20 * (i : Int) ≤ 80000 := by omega
  have hsz : ls.size = c.maxLocals := by rw [hml]; exact hl.1
  have hW : ∀ σ, rz_Wd 60 (wOf 60 σ) := fun σ h hh => by unfold wOf; rw [if_neg (by omega)]
  obtain ⟨a1, ea1, ra1⟩ := zI_of (xs (i + 1))
  obtain ⟨v, σ1, σ2, gp2, c1, c2, hrel⟩ := k_now h hB ra1
  obtain ⟨x, rfl⟩ := rz_dM_int rz_m_71 rfl c1
  refine lv_aload_n hx hb d_law_403 rfl (lv_at hl 1 rfl) ?_
  refine la_arg X0 hS hl (j := 1) (by omega) (by decide) ea1 d_law_404 d_law_405 d_law_406 d_law_407 d_law_408 ?_
  refine ct_callV F hS hP hD (hW _) (by decide) (i := 71) (j := 573) (h := bs 0) (as := [.int (zI a1)]) (rest := []) rz_m_71 (by decide) (w_bs (g := 0) (by decide) (by decide)) rfl rfl rfl (by decide +kernel) d_law_409 (rz_sound l 60 _ _ _ _ _ c1) (Nat.le_of_ble_eq_true rfl) hsz (Nat.le_of_ble_eq_true rfl) (Nat.le_of_ble_eq_true rfl) hcs rfl (fun H locs hP hW9 hS => ?_)
  have hD := ct_Dw (wOf 60 σ1) hD
  refine lv_aload_n hx hb d_law_412 rfl (lv_at hl 2 rfl) ?_
  refine la_arg X0 hS hl (j := 1) (by omega) (by decide) ea1 d_law_413 d_law_414 d_law_415 d_law_416 d_law_417 ?_
  refine ct_callV F hS hP hD (hW _) (by decide) (i := 146) (j := 1020) (h := bs 10) (as := [.int (zI a1)]) (rest := [.int x]) rz_m_146 (by decide) (w_bs (g := 10) (by decide) (by decide)) rfl rfl rfl (by decide +kernel) d_law_418 (rz_sound l 60 _ _ _ _ _ c2) (Nat.le_of_ble_eq_true rfl) hsz (Nat.le_of_ble_eq_true rfl) (Nat.le_of_ble_eq_true rfl) hcs rfl (fun H locs hP hW9 hS => ?_)
  have hD := ct_Dw (wOf 60 σ2) hD
  refine lv_icmp_eq (tgt := 858) hx hb d_law_421 (by decide) (fun _ => ?_) (fun h9 => absurd rfl h9)
  exact kk σ2 gp2 H locs hrel hP hD hS
