/-! the law's cases, by program -/
set_option maxHeartbeats 4000000 in
set_option maxRecDepth 100000 in
theorem lc_anew {p : Program} {l : Launch} {e : Env} {s : State} {m : MethodId} {below : List Frame} {meth : Method} {c : Code} {b L : Nat} {xs : Nat → Int32} {D : va_G} {cI cZ : ClassId} {ad : Nat → Nat} {cells slots : Nat} (X : lwC0 p s m meth c b L xs D cI cZ ad) (hcs : cells ≤ room_1.cells ∧ slots ≤ room_1.slots) {i : Nat} (hi : i + 4 ≤ L) {σ : zS} {gp : Nat} {H : Heap} {locs : List Loc} {ls : Array Slot} (h : REL (20 * (i : Int)) σ gp) (hP : va_P D vwCl (rz_ws cI cZ ad 60 (wOf 60 σ)) H) (hD : va_D (lwA0 s) (rz_ws cI cZ ad 60 (wOf 60 σ))) (hS : va_S (lwA0 s) s.heap H locs) (hl : lv_has ls 4 [(0, .ref b), (1, .ref (ad 0)), (2, .ref (ad 48)), (3, .int (zI i))])
    (kk : ∀ (σ2 : zS) (gp2 : Nat) (H1 : Heap) (locs1 : List Loc), REL (20 * (i : Int) + 20) σ2 gp2 → va_P D vwCl (rz_ws cI cZ ad 60 (wOf 60 σ2)) H1 → va_D (lwA0 s) (rz_ws cI cZ ad 60 (wOf 60 σ2)) → va_S (lwA0 s) s.heap H1 locs1 → W p l e room_1 s m #[Value.ref b] below meth c H1 locs1 cells slots (lw_Z below #[Value.ref b] s) (F0 m 858 ls [])) : W p l e room_1 s m #[Value.ref b] below meth c H locs cells slots (lw_Z below #[Value.ref b] s) (F0 m 426 ls []) := by
  have X0 := X
  obtain ⟨⟨hx, hb, hr, hml, hown, hts, hX, hbl, hlocks, hgv⟩, hL, F⟩ := X
  have hB : 20 * (i : Int) ≤ 80000 := by omega
  have hsz : ls.size = c.maxLocals := by rw [hml]; exact hl.1
  have hW : ∀ σ, rz_Wd 60 (wOf 60 σ) := fun σ h hh => by unfold wOf; rw [if_neg (by omega)]
  obtain ⟨v, σ1, σ2, gp2, c1, c2, hrel⟩ := k_anew h hB 
  obtain ⟨x, rfl⟩ := rz_dM_int rz_m_72 rfl c1
  refine lv_aload_n hx hb d_law_426 rfl (lv_at hl 1 rfl) ?_
  refine ct_callV F hS hP hD (hW _) (by decide) (i := 72) (j := 577) (h := bs 0) (as := []) (rest := []) rz_m_72 (by decide) (w_bs (g := 0) (by decide) (by decide)) rfl rfl rfl (by decide +kernel) d_law_427 (rz_sound l 60 _ _ _ _ _ c1) (Nat.le_of_ble_eq_true rfl) hsz (Nat.le_of_ble_eq_true rfl) (Nat.le_of_ble_eq_true rfl) hcs rfl (fun H locs hP hW9 hS => ?_)
  have hD := ct_Dw (wOf 60 σ1) hD
  refine lv_aload_n hx hb d_law_430 rfl (lv_at hl 2 rfl) ?_
  refine ct_callV F hS hP hD (hW _) (by decide) (i := 147) (j := 1024) (h := bs 10) (as := []) (rest := [.int x]) rz_m_147 (by decide) (w_bs (g := 10) (by decide) (by decide)) rfl rfl rfl (by decide +kernel) d_law_431 (rz_sound l 60 _ _ _ _ _ c2) (Nat.le_of_ble_eq_true rfl) hsz (Nat.le_of_ble_eq_true rfl) (Nat.le_of_ble_eq_true rfl) hcs rfl (fun H locs hP hW9 hS => ?_)
  have hD := ct_Dw (wOf 60 σ2) hD
  refine lv_icmp_eq (tgt := 858) hx hb d_law_434 (by decide) (fun _ => ?_) (fun h9 => absurd rfl h9)
  exact kk σ2 gp2 H locs hrel hP hD hS
set_option maxHeartbeats 4000000 in
set_option maxRecDepth 100000 in
theorem lc_safe {p : Program} {l : Launch} {e : Env} {s : State} {m : MethodId} {below : List Frame} {meth : Method} {c : Code} {b L : Nat} {xs : Nat → Int32} {D : va_G} {cI cZ : ClassId} {ad : Nat → Nat} {cells slots : Nat} (X : lwC0 p s m meth c b L xs D cI cZ ad) (hcs : cells ≤ room_1.cells ∧ slots ≤ room_1.slots) {i : Nat} (hi : i + 4 ≤ L) {σ : zS} {gp : Nat} {H : Heap} {locs : List Loc} {ls : Array Slot} (h : REL (20 * (i : Int)) σ gp) (hP : va_P D vwCl (rz_ws cI cZ ad 60 (wOf 60 σ)) H) (hD : va_D (lwA0 s) (rz_ws cI cZ ad 60 (wOf 60 σ))) (hS : va_S (lwA0 s) s.heap H locs) (hl : lv_has ls 4 [(0, .ref b), (1, .ref (ad 0)), (2, .ref (ad 48)), (3, .int (zI i))])
    (kk : ∀ (σ2 : zS) (gp2 : Nat) (H1 : Heap) (locs1 : List Loc), REL (20 * (i : Int) + 20) σ2 gp2 → va_P D vwCl (rz_ws cI cZ ad 60 (wOf 60 σ2)) H1 → va_D (lwA0 s) (rz_ws cI cZ ad 60 (wOf 60 σ2)) → va_S (lwA0 s) s.heap H1 locs1 → W p l e room_1 s m #[Value.ref b] below meth c H1 locs1 cells slots (lw_Z below #[Value.ref b] s) (F0 m 858 ls [])) : W p l e room_1 s m #[Value.ref b] below meth c H locs cells slots (lw_Z below #[Value.ref b] s) (F0 m 439 ls []) := by
  have X0 := X
  obtain ⟨⟨hx, hb, hr, hml, hown, hts, hX, hbl, hlocks, hgv⟩, hL, F⟩ := X
  have hB : 20 * (i : Int) ≤ 80000 := by omega
  have hsz : ls.size = c.maxLocals := by rw [hml]; exact hl.1
  have hW : ∀ σ, rz_Wd 60 (wOf 60 σ) := fun σ h hh => by unfold wOf; rw [if_neg (by omega)]
  obtain ⟨a1, ea1, ra1⟩ := zI_of (xs (i + 1))
  obtain ⟨a2, ea2, ra2⟩ := zI_of (xs (i + 2))
  obtain ⟨v, σ1, σ2, gp2, c1, c2, hrel⟩ := k_safe h hB ra1 ra2
  obtain ⟨x, rfl⟩ := rz_dM_int rz_m_73 rfl c1
  refine lv_aload_n hx hb d_law_439 rfl (lv_at hl 1 rfl) ?_
  refine la_arg X0 hS hl (j := 1) (by omega) (by decide) ea1 d_law_440 d_law_441 d_law_442 d_law_443 d_law_444 ?_
  refine la_arg X0 hS hl (j := 2) (by omega) (by decide) ea2 d_law_445 d_law_446 d_law_447 d_law_448 d_law_449 ?_
  refine ct_callV F hS hP hD (hW _) (by decide) (i := 73) (j := 581) (h := bs 0) (as := [.int (zI a1), .int (zI a2)]) (rest := []) rz_m_73 (by decide) (w_bs (g := 0) (by decide) (by decide)) rfl rfl rfl (by decide +kernel) d_law_450 (rz_sound l 60 _ _ _ _ _ c1) (Nat.le_of_ble_eq_true rfl) hsz (Nat.le_of_ble_eq_true rfl) (Nat.le_of_ble_eq_true rfl) hcs rfl (fun H locs hP hW9 hS => ?_)
  have hD := ct_Dw (wOf 60 σ1) hD
  refine lv_aload_n hx hb d_law_453 rfl (lv_at hl 2 rfl) ?_
  refine la_arg X0 hS hl (j := 1) (by omega) (by decide) ea1 d_law_454 d_law_455 d_law_456 d_law_457 d_law_458 ?_
  refine la_arg X0 hS hl (j := 2) (by omega) (by decide) ea2 d_law_459 d_law_460 d_law_461 d_law_462 d_law_463 ?_
  refine ct_callV F hS hP hD (hW _) (by decide) (i := 149) (j := 1028) (h := bs 10) (as := [.int (zI a1), .int (zI a2)]) (rest := [.int x]) rz_m_149 (by decide) (w_bs (g := 10) (by decide) (by decide)) rfl rfl rfl (by decide +kernel) d_law_464 (rz_sound l 60 _ _ _ _ _ c2) (Nat.le_of_ble_eq_true rfl) hsz (Nat.le_of_ble_eq_true rfl) (Nat.le_of_ble_eq_true rfl) hcs rfl (fun H locs hP hW9 hS => ?_)
  have hD := ct_Dw (wOf 60 σ2) hD
  refine lv_icmp_eq (tgt := 858) hx hb d_law_467 (by decide) (fun _ => ?_) (fun h9 => absurd rfl h9)
  exact kk σ2 gp2 H locs hrel hP hD hS
set_option maxHeartbeats 4000000 in
set_option maxRecDepth 100000 in
theorem lc_safest {p : Program} {l : Launch} {e : Env} {s : State} {m : MethodId} {below : List Frame} {meth : Method} {c : Code} {b L : Nat} {xs : Nat → Int32} {D : va_G} {cI cZ : ClassId} {ad : Nat → Nat} {cells slots : Nat} (X : lwC0 p s m meth c b L xs D cI cZ ad) (hcs : cells ≤ room_1.cells ∧ slots ≤ room_1.slots) {i : Nat} (hi : i + 4 ≤ L) {σ : zS} {gp : Nat} {H : Heap} {locs : List Loc} {ls : Array Slot} (h : REL (20 * (i : Int)) σ gp) (hP : va_P D vwCl (rz_ws cI cZ ad 60 (wOf 60 σ)) H) (hD : va_D (lwA0 s) (rz_ws cI cZ ad 60 (wOf 60 σ))) (hS : va_S (lwA0 s) s.heap H locs) (hl : lv_has ls 4 [(0, .ref b), (1, .ref (ad 0)), (2, .ref (ad 48)), (3, .int (zI i))])
    (kk : ∀ (σ2 : zS) (gp2 : Nat) (H1 : Heap) (locs1 : List Loc), REL (20 * (i : Int) + 20) σ2 gp2 → va_P D vwCl (rz_ws cI cZ ad 60 (wOf 60 σ2)) H1 → va_D (lwA0 s) (rz_ws cI cZ ad 60 (wOf 60 σ2)) → va_S (lwA0 s) s.heap H1 locs1 → W p l e room_1 s m #[Value.ref b] below meth c H1 locs1 cells slots (lw_Z below #[Value.ref b] s) (F0 m 858 ls [])) : W p l e room_1 s m #[Value.ref b] below meth c H locs cells slots (lw_Z below #[Value.ref b] s) (F0 m 472 ls []) := by
  have X0 := X
  obtain ⟨⟨hx, hb, hr, hml, hown, hts, hX, hbl, hlocks, hgv⟩, hL, F⟩ := X
  have hB : 20 * (i : Int) ≤ 80000 := by omega
  have hsz : ls.size = c.maxLocals := by rw [hml]; exact hl.1
  have hW : ∀ σ, rz_Wd 60 (wOf 60 σ) := fun σ h hh => by unfold wOf; rw [if_neg (by omega)]
  obtain ⟨a1, ea1, ra1⟩ := zI_of (xs (i + 1))
  obtain ⟨v, σ1, σ2, gp2, c1, c2, hrel⟩ := k_safest h hB ra1
  obtain ⟨x, rfl⟩ := rz_dM_int rz_m_74 rfl c1
  refine lv_aload_n hx hb d_law_472 rfl (lv_at hl 1 rfl) ?_
  refine la_arg X0 hS hl (j := 1) (by omega) (by decide) ea1 d_law_473 d_law_474 d_law_475 d_law_476 d_law_477 ?_
  refine ct_callV F hS hP hD (hW _) (by decide) (i := 74) (j := 597) (h := bs 0) (as := [.int (zI a1)]) (rest := []) rz_m_74 (by decide) (w_bs (g := 0) (by decide) (by decide)) rfl rfl rfl (by decide +kernel) d_law_478 (rz_sound l 60 _ _ _ _ _ c1) (Nat.le_of_ble_eq_true rfl) hsz (Nat.le_of_ble_eq_true rfl) (Nat.le_of_ble_eq_true rfl) hcs rfl (fun H locs hP hW9 hS => ?_)
  have hD := ct_Dw (wOf 60 σ1) hD
  refine lv_aload_n hx hb d_law_481 rfl (lv_at hl 2 rfl) ?_
  refine la_arg X0 hS hl (j := 1) (by omega) (by decide) ea1 d_law_482 d_law_483 d_law_484 d_law_485 d_law_486 ?_
  refine ct_callV F hS hP hD (hW _) (by decide) (i := 150) (j := 1040) (h := bs 10) (as := [.int (zI a1)]) (rest := [.int x]) rz_m_150 (by decide) (w_bs (g := 10) (by decide) (by decide)) rfl rfl rfl (by decide +kernel) d_law_487 (rz_sound l 60 _ _ _ _ _ c2) (Nat.le_of_ble_eq_true rfl) hsz (Nat.le_of_ble_eq_true rfl) (Nat.le_of_ble_eq_true rfl) hcs rfl (fun H locs hP hW9 hS => ?_)
  have hD := ct_Dw (wOf 60 σ2) hD
  refine lv_icmp_eq (tgt := 858) hx hb d_law_490 (by decide) (fun _ => ?_) (fun h9 => absurd rfl h9)
  exact kk σ2 gp2 H locs hrel hP hD hS
set_option maxHeartbeats 4000000 in
set_option maxRecDepth 100000 in
theorem lc_value {p : Program} {l : Launch} {e : Env} {s : State} {m : MethodId} {below : List Frame} {meth : Method} {c : Code} {b L : Nat} {xs : Nat → Int32} {D : va_G} {cI cZ : ClassId} {ad : Nat → Nat} {cells slots : Nat} (X : lwC0 p s m meth c b L xs D cI cZ ad) (hcs : cells ≤ room_1.cells ∧ slots ≤ room_1.slots) {i : Nat} (hi : i + 4 ≤ L) {σ : zS} {gp : Nat} {H : Heap} {locs : List Loc} {ls : Array Slot} (h : REL (20 * (i : Int)) σ gp) (hP : va_P D vwCl (rz_ws cI cZ ad 60 (wOf 60 σ)) H) (hD : va_D (lwA0 s) (rz_ws cI cZ ad 60 (wOf 60 σ))) (hS : va_S (lwA0 s) s.heap H locs) (hl : lv_has ls 4 [(0, .ref b), (1, .ref (ad 0)), (2, .ref (ad 48)), (3, .int (zI i))])
    (kk : ∀ (σ2 : zS) (gp2 : Nat) (H1 : Heap) (locs1 : List Loc), REL (20 * (i : Int) + 20) σ2 gp2 → va_P D vwCl (rz_ws cI cZ ad 60 (wOf 60 σ2)) H1 → va_D (lwA0 s) (rz_ws cI cZ ad 60 (wOf 60 σ2)) → va_S (lwA0 s) s.heap H1 locs1 → W p l e room_1 s m #[Value.ref b] below meth c H1 locs1 cells slots (lw_Z below #[Value.ref b] s) (F0 m 858 ls [])) : W p l e room_1 s m #[Value.ref b] below meth c H locs cells slots (lw_Z below #[Value.ref b] s) (F0 m 495 ls []) := by
  have X0 := X
  obtain ⟨⟨hx, hb, hr, hml, hown, hts, hX, hbl, hlocks, hgv⟩, hL, F⟩ := X
  have hB : 20 * (i : Int) ≤ 80000 := by omega
  have hsz : ls.size = c.maxLocals := by rw [hml]; exact hl.1
  have hW : ∀ σ, rz_Wd 60 (wOf 60 σ) := fun σ h hh => by unfold wOf; rw [if_neg (by omega)]
  obtain ⟨a1, ea1, ra1⟩ := zI_of (xs (i + 1))
  obtain ⟨v, σ1, σ2, gp2, c1, c2, hrel⟩ := k_value h hB ra1
  obtain ⟨x, rfl⟩ := rz_dM_int rz_m_75 rfl c1
  refine lv_aload_n hx hb d_law_495 rfl (lv_at hl 1 rfl) ?_
  refine la_arg X0 hS hl (j := 1) (by omega) (by decide) ea1 d_law_496 d_law_497 d_law_498 d_law_499 d_law_500 ?_
  refine ct_callV F hS hP hD (hW _) (by decide) (i := 75) (j := 601) (h := bs 0) (as := [.int (zI a1)]) (rest := []) rz_m_75 (by decide) (w_bs (g := 0) (by decide) (by decide)) rfl rfl rfl (by decide +kernel) d_law_501 (rz_sound l 60 _ _ _ _ _ c1) (Nat.le_of_ble_eq_true rfl) hsz (Nat.le_of_ble_eq_true rfl) (Nat.le_of_ble_eq_true rfl) hcs rfl (fun H locs hP hW9 hS => ?_)
  have hD := ct_Dw (wOf 60 σ1) hD
  refine lv_aload_n hx hb d_law_504 rfl (lv_at hl 2 rfl) ?_
  refine la_arg X0 hS hl (j := 1) (by omega) (by decide) ea1 d_law_505 d_law_506 d_law_507 d_law_508 d_law_509 ?_
  refine ct_callV F hS hP hD (hW _) (by decide) (i := 162) (j := 1044) (h := bs 10) (as := [.int (zI a1)]) (rest := [.int x]) rz_m_162 (by decide) (w_bs (g := 10) (by decide) (by decide)) rfl rfl rfl (by decide +kernel) d_law_510 (rz_sound l 60 _ _ _ _ _ c2) (Nat.le_of_ble_eq_true rfl) hsz (Nat.le_of_ble_eq_true rfl) (Nat.le_of_ble_eq_true rfl) hcs rfl (fun H locs hP hW9 hS => ?_)
  have hD := ct_Dw (wOf 60 σ2) hD
  refine lv_icmp_eq (tgt := 858) hx hb d_law_513 (by decide) (fun _ => ?_) (fun h9 => absurd rfl h9)
  exact kk σ2 gp2 H locs hrel hP hD hS
set_option maxHeartbeats 4000000 in
set_option maxRecDepth 100000 in
theorem lc_best {p : Program} {l : Launch} {e : Env} {s : State} {m : MethodId} {below : List Frame} {meth : Method} {c : Code} {b L : Nat} {xs : Nat → Int32} {D : va_G} {cI cZ : ClassId} {ad : Nat → Nat} {cells slots : Nat} (X : lwC0 p s m meth c b L xs D cI cZ ad) (hcs : cells ≤ room_1.cells ∧ slots ≤ room_1.slots) {i : Nat} (hi : i + 4 ≤ L) {σ : zS} {gp : Nat} {H : Heap} {locs : List Loc} {ls : Array Slot} (h : REL (20 * (i : Int)) σ gp) (hP : va_P D vwCl (rz_ws cI cZ ad 60 (wOf 60 σ)) H) (hD : va_D (lwA0 s) (rz_ws cI cZ ad 60 (wOf 60 σ))) (hS : va_S (lwA0 s) s.heap H locs) (hl : lv_has ls 4 [(0, .ref b), (1, .ref (ad 0)), (2, .ref (ad 48)), (3, .int (zI i))])
    (kk : ∀ (σ2 : zS) (gp2 : Nat) (H1 : Heap) (locs1 : List Loc), REL (20 * (i : Int) + 20) σ2 gp2 → va_P D vwCl (rz_ws cI cZ ad 60 (wOf 60 σ2)) H1 → va_D (lwA0 s) (rz_ws cI cZ ad 60 (wOf 60 σ2)) → va_S (lwA0 s) s.heap H1 locs1 → W p l e room_1 s m #[Value.ref b] below meth c H1 locs1 cells slots (lw_Z below #[Value.ref b] s) (F0 m 858 ls [])) : W p l e room_1 s m #[Value.ref b] below meth c H locs cells slots (lw_Z below #[Value.ref b] s) (F0 m 518 ls []) := by
  have X0 := X
  obtain ⟨⟨hx, hb, hr, hml, hown, hts, hX, hbl, hlocks, hgv⟩, hL, F⟩ := X
  have hB : 20 * (i : Int) ≤ 80000 := by omega
  have hsz : ls.size = c.maxLocals := by rw [hml]; exact hl.1
  have hW : ∀ σ, rz_Wd 60 (wOf 60 σ) := fun σ h hh => by unfold wOf; rw [if_neg (by omega)]
  obtain ⟨a1, ea1, ra1⟩ := zI_of (xs (i + 1))
  obtain ⟨v, σ1, σ2, gp2, c1, c2, hrel⟩ := k_best h hB ra1
  obtain ⟨x, rfl⟩ := rz_dM_int rz_m_76 rfl c1
  refine lv_aload_n hx hb d_law_518 rfl (lv_at hl 1 rfl) ?_
  refine la_arg X0 hS hl (j := 1) (by omega) (by decide) ea1 d_law_519 d_law_520 d_law_521 d_law_522 d_law_523 ?_
  refine ct_callV F hS hP hD (hW _) (by decide) (i := 76) (j := 692) (h := bs 0) (as := [.int (zI a1)]) (rest := []) rz_m_76 (by decide) (w_bs (g := 0) (by decide) (by decide)) rfl rfl rfl (by decide +kernel) d_law_524 (rz_sound l 60 _ _ _ _ _ c1) (Nat.le_of_ble_eq_true rfl) hsz (Nat.le_of_ble_eq_true rfl) (Nat.le_of_ble_eq_true rfl) hcs rfl (fun H locs hP hW9 hS => ?_)
  have hD := ct_Dw (wOf 60 σ1) hD
  refine lv_aload_n hx hb d_law_527 rfl (lv_at hl 2 rfl) ?_
  refine la_arg X0 hS hl (j := 1) (by omega) (by decide) ea1 d_law_528 d_law_529 d_law_530 d_law_531 d_law_532 ?_
  refine ct_callV F hS hP hD (hW _) (by decide) (i := 163) (j := 1091) (h := bs 10) (as := [.int (zI a1)]) (rest := [.int x]) rz_m_163 (by decide) (w_bs (g := 10) (by decide) (by decide)) rfl rfl rfl (by decide +kernel) d_law_533 (rz_sound l 60 _ _ _ _ _ c2) (Nat.le_of_ble_eq_true rfl) hsz (Nat.le_of_ble_eq_true rfl) (Nat.le_of_ble_eq_true rfl) hcs rfl (fun H locs hP hW9 hS => ?_)
  have hD := ct_Dw (wOf 60 σ2) hD
  refine lv_icmp_eq (tgt := 858) hx hb d_law_536 (by decide) (fun _ => ?_) (fun h9 => absurd rfl h9)
  exact kk σ2 gp2 H locs hrel hP hD hS
set_option maxHeartbeats 4000000 in
set_option maxRecDepth 100000 in
theorem lc_refuses {p : Program} {l : Launch} {e : Env} {s : State} {m : MethodId} {below : List Frame} {meth : Method} {c : Code} {b L : Nat} {xs : Nat → Int32} {D : va_G} {cI cZ : ClassId} {ad : Nat → Nat} {cells slots : Nat} (X : lwC0 p s m meth c b L xs D cI cZ ad) (hcs : cells ≤ room_1.cells ∧ slots ≤ room_1.slots) {i : Nat} (hi : i + 4 ≤ L) {σ : zS} {gp : Nat} {H : Heap} {locs : List Loc} {ls : Array Slot} (h : REL (20 * (i : Int)) σ gp) (hP : va_P D vwCl (rz_ws cI cZ ad 60 (wOf 60 σ)) H) (hD : va_D (lwA0 s) (rz_ws cI cZ ad 60 (wOf 60 σ))) (hS : va_S (lwA0 s) s.heap H locs) (hl : lv_has ls 4 [(0, .ref b), (1, .ref (ad 0)), (2, .ref (ad 48)), (3, .int (zI i))])
    (kk : ∀ (σ2 : zS) (gp2 : Nat) (H1 : Heap) (locs1 : List Loc), REL (20 * (i : Int) + 20) σ2 gp2 → va_P D vwCl (rz_ws cI cZ ad 60 (wOf 60 σ2)) H1 → va_D (lwA0 s) (rz_ws cI cZ ad 60 (wOf 60 σ2)) → va_S (lwA0 s) s.heap H1 locs1 → W p l e room_1 s m #[Value.ref b] below meth c H1 locs1 cells slots (lw_Z below #[Value.ref b] s) (F0 m 858 ls [])) : W p l e room_1 s m #[Value.ref b] below meth c H locs cells slots (lw_Z below #[Value.ref b] s) (F0 m 541 ls []) := by
  have X0 := X
  obtain ⟨⟨hx, hb, hr, hml, hown, hts, hX, hbl, hlocks, hgv⟩, hL, F⟩ := X
  have hB : 20 * (i : Int) ≤ 80000 := by omega
  have hsz : ls.size = c.maxLocals := by rw [hml]; exact hl.1
  have hW : ∀ σ, rz_Wd 60 (wOf 60 σ) := fun σ h hh => by unfold wOf; rw [if_neg (by omega)]
  obtain ⟨a1, ea1, ra1⟩ := zI_of (xs (i + 1))
  obtain ⟨a2, ea2, ra2⟩ := zI_of (xs (i + 2))
  obtain ⟨v, σ1, σ2, gp2, c1, c2, hrel⟩ := k_refuses h hB ra1 ra2
  obtain ⟨x, rfl⟩ := rz_dM_int rz_m_77 rfl c1
  refine lv_aload_n hx hb d_law_541 rfl (lv_at hl 1 rfl) ?_
  refine la_arg X0 hS hl (j := 1) (by omega) (by decide) ea1 d_law_542 d_law_543 d_law_544 d_law_545 d_law_546 ?_
  refine la_arg X0 hS hl (j := 2) (by omega) (by decide) ea2 d_law_547 d_law_548 d_law_549 d_law_550 d_law_551 ?_
  refine ct_callV F hS hP hD (hW _) (by decide) (i := 77) (j := 697) (h := bs 0) (as := [.int (zI a1), .int (zI a2)]) (rest := []) rz_m_77 (by decide) (w_bs (g := 0) (by decide) (by decide)) rfl rfl rfl (by decide +kernel) d_law_552 (rz_sound l 60 _ _ _ _ _ c1) (Nat.le_of_ble_eq_true rfl) hsz (Nat.le_of_ble_eq_true rfl) (Nat.le_of_ble_eq_true rfl) hcs rfl (fun H locs hP hW9 hS => ?_)
  have hD := ct_Dw (wOf 60 σ1) hD
  refine lv_aload_n hx hb d_law_555 rfl (lv_at hl 2 rfl) ?_
  refine la_arg X0 hS hl (j := 1) (by omega) (by decide) ea1 d_law_556 d_law_557 d_law_558 d_law_559 d_law_560 ?_
  refine la_arg X0 hS hl (j := 2) (by omega) (by decide) ea2 d_law_561 d_law_562 d_law_563 d_law_564 d_law_565 ?_
  refine ct_callV F hS hP hD (hW _) (by decide) (i := 164) (j := 1095) (h := bs 10) (as := [.int (zI a1), .int (zI a2)]) (rest := [.int x]) rz_m_164 (by decide) (w_bs (g := 10) (by decide) (by decide)) rfl rfl rfl (by decide +kernel) d_law_566 (rz_sound l 60 _ _ _ _ _ c2) (Nat.le_of_ble_eq_true rfl) hsz (Nat.le_of_ble_eq_true rfl) (Nat.le_of_ble_eq_true rfl) hcs rfl (fun H locs hP hW9 hS => ?_)
  have hD := ct_Dw (wOf 60 σ2) hD
  refine lv_icmp_eq (tgt := 858) hx hb d_law_569 (by decide) (fun _ => ?_) (fun h9 => absurd rfl h9)
  exact kk σ2 gp2 H locs hrel hP hD hS
set_option maxHeartbeats 4000000 in
set_option maxRecDepth 100000 in
theorem lc_worth {p : Program} {l : Launch} {e : Env} {s : State} {m : MethodId} {below : List Frame} {meth : Method} {c : Code} {b L : Nat} {xs : Nat → Int32} {D : va_G} {cI cZ : ClassId} {ad : Nat → Nat} {cells slots : Nat} (X : lwC0 p s m meth c b L xs D cI cZ ad) (hcs : cells ≤ room_1.cells ∧ slots ≤ room_1.slots) {i : Nat} (hi : i + 4 ≤ L) {σ : zS} {gp : Nat} {H : Heap} {locs : List Loc} {ls : Array Slot} (h : REL (20 * (i : Int)) σ gp) (hP : va_P D vwCl (rz_ws cI cZ ad 60 (wOf 60 σ)) H) (hD : va_D (lwA0 s) (rz_ws cI cZ ad 60 (wOf 60 σ))) (hS : va_S (lwA0 s) s.heap H locs) (hl : lv_has ls 4 [(0, .ref b), (1, .ref (ad 0)), (2, .ref (ad 48)), (3, .int (zI i))])
    (kk : ∀ (σ2 : zS) (gp2 : Nat) (H1 : Heap) (locs1 : List Loc), REL (20 * (i : Int) + 20) σ2 gp2 → va_P D vwCl (rz_ws cI cZ ad 60 (wOf 60 σ2)) H1 → va_D (lwA0 s) (rz_ws cI cZ ad 60 (wOf 60 σ2)) → va_S (lwA0 s) s.heap H1 locs1 → W p l e room_1 s m #[Value.ref b] below meth c H1 locs1 cells slots (lw_Z below #[Value.ref b] s) (F0 m 858 ls [])) : W p l e room_1 s m #[Value.ref b] below meth c H locs cells slots (lw_Z below #[Value.ref b] s) (F0 m 574 ls []) := by
  have X0 := X
  obtain ⟨⟨hx, hb, hr, hml, hown, hts, hX, hbl, hlocks, hgv⟩, hL, F⟩ := X
  have hB : 20 * (i : Int) ≤ 80000 := by omega
  have hsz : ls.size = c.maxLocals := by rw [hml]; exact hl.1
  have hW : ∀ σ, rz_Wd 60 (wOf 60 σ) := fun σ h hh => by unfold wOf; rw [if_neg (by omega)]
  obtain ⟨a1, ea1, ra1⟩ := zI_of (xs (i + 1))
  obtain ⟨a2, ea2, ra2⟩ := zI_of (xs (i + 2))
  obtain ⟨v, σ1, σ2, gp2, c1, c2, hrel⟩ := k_worth h hB ra1 ra2
  obtain ⟨x, rfl⟩ := rz_dM_int rz_m_78 rfl c1
  refine lv_aload_n hx hb d_law_574 rfl (lv_at hl 1 rfl) ?_
  refine la_arg X0 hS hl (j := 1) (by omega) (by decide) ea1 d_law_575 d_law_576 d_law_577 d_law_578 d_law_579 ?_
  refine la_arg X0 hS hl (j := 2) (by omega) (by decide) ea2 d_law_580 d_law_581 d_law_582 d_law_583 d_law_584 ?_
  refine ct_callV F hS hP hD (hW _) (by decide) (i := 78) (j := 705) (h := bs 0) (as := [.int (zI a1), .int (zI a2)]) (rest := []) rz_m_78 (by decide) (w_bs (g := 0) (by decide) (by decide)) rfl rfl rfl (by decide +kernel) d_law_585 (rz_sound l 60 _ _ _ _ _ c1) (Nat.le_of_ble_eq_true rfl) hsz (Nat.le_of_ble_eq_true rfl) (Nat.le_of_ble_eq_true rfl) hcs rfl (fun H locs hP hW9 hS => ?_)
  have hD := ct_Dw (wOf 60 σ1) hD
  refine lv_aload_n hx hb d_law_588 rfl (lv_at hl 2 rfl) ?_
  refine la_arg X0 hS hl (j := 1) (by omega) (by decide) ea1 d_law_589 d_law_590 d_law_591 d_law_592 d_law_593 ?_
  refine la_arg X0 hS hl (j := 2) (by omega) (by decide) ea2 d_law_594 d_law_595 d_law_596 d_law_597 d_law_598 ?_
  refine ct_callV F hS hP hD (hW _) (by decide) (i := 165) (j := 1099) (h := bs 10) (as := [.int (zI a1), .int (zI a2)]) (rest := [.int x]) rz_m_165 (by decide) (w_bs (g := 10) (by decide) (by decide)) rfl rfl rfl (by decide +kernel) d_law_599 (rz_sound l 60 _ _ _ _ _ c2) (Nat.le_of_ble_eq_true rfl) hsz (Nat.le_of_ble_eq_true rfl) (Nat.le_of_ble_eq_true rfl) hcs rfl (fun H locs hP hW9 hS => ?_)
  have hD := ct_Dw (wOf 60 σ2) hD
  refine lv_icmp_eq (tgt := 858) hx hb d_law_602 (by decide) (fun _ => ?_) (fun h9 => absurd rfl h9)
  exact kk σ2 gp2 H locs hrel hP hD hS
set_option maxHeartbeats 4000000 in
set_option maxRecDepth 100000 in
theorem lc_bag {p : Program} {l : Launch} {e : Env} {s : State} {m : MethodId} {below : List Frame} {meth : Method} {c : Code} {b L : Nat} {xs : Nat → Int32} {D : va_G} {cI cZ : ClassId} {ad : Nat → Nat} {cells slots : Nat} (X : lwC0 p s m meth c b L xs D cI cZ ad) (hcs : cells ≤ room_1.cells ∧ slots ≤ room_1.slots) {i : Nat} (hi : i + 4 ≤ L) {σ : zS} {gp : Nat} {H : Heap} {locs : List Loc} {ls : Array Slot} (h : REL (20 * (i : Int)) σ gp) (hP : va_P D vwCl (rz_ws cI cZ ad 60 (wOf 60 σ)) H) (hD : va_D (lwA0 s) (rz_ws cI cZ ad 60 (wOf 60 σ))) (hS : va_S (lwA0 s) s.heap H locs) (hl : lv_has ls 4 [(0, .ref b), (1, .ref (ad 0)), (2, .ref (ad 48)), (3, .int (zI i))])
    (kk : ∀ (σ2 : zS) (gp2 : Nat) (H1 : Heap) (locs1 : List Loc), REL (20 * (i : Int) + 20) σ2 gp2 → va_P D vwCl (rz_ws cI cZ ad 60 (wOf 60 σ2)) H1 → va_D (lwA0 s) (rz_ws cI cZ ad 60 (wOf 60 σ2)) → va_S (lwA0 s) s.heap H1 locs1 → W p l e room_1 s m #[Value.ref b] below meth c H1 locs1 cells slots (lw_Z below #[Value.ref b] s) (F0 m 858 ls [])) : W p l e room_1 s m #[Value.ref b] below meth c H locs cells slots (lw_Z below #[Value.ref b] s) (F0 m 607 ls []) := by
  have X0 := X
  obtain ⟨⟨hx, hb, hr, hml, hown, hts, hX, hbl, hlocks, hgv⟩, hL, F⟩ := X
  have hB : 20 * (i : Int) ≤ 80000 := by omega
  have hsz : ls.size = c.maxLocals := by rw [hml]; exact hl.1
  have hW : ∀ σ, rz_Wd 60 (wOf 60 σ) := fun σ h hh => by unfold wOf; rw [if_neg (by omega)]
  obtain ⟨a1, ea1, ra1⟩ := zI_of (xs (i + 1))
  obtain ⟨a2, ea2, ra2⟩ := zI_of (xs (i + 2))
  obtain ⟨a3, ea3, ra3⟩ := zI_of (xs (i + 3))
  obtain ⟨v, σ1, σ2, gp2, c1, c2, hrel⟩ := k_bag h hB ra1 ra2 ra3
  obtain ⟨x, rfl⟩ := rz_dM_int rz_m_79 rfl c1
  refine lv_aload_n hx hb d_law_607 rfl (lv_at hl 1 rfl) ?_
  refine la_arg X0 hS hl (j := 1) (by omega) (by decide) ea1 d_law_608 d_law_609 d_law_610 d_law_611 d_law_612 ?_
  refine la_arg X0 hS hl (j := 2) (by omega) (by decide) ea2 d_law_613 d_law_614 d_law_615 d_law_616 d_law_617 ?_
  refine la_arg X0 hS hl (j := 3) (by omega) (by decide) ea3 d_law_618 d_law_619 d_law_620 d_law_621 d_law_622 ?_
  refine ct_callV F hS hP hD (hW _) (by decide) (i := 79) (j := 711) (h := bs 0) (as := [.int (zI a1), .int (zI a2), .int (zI a3)]) (rest := []) rz_m_79 (by decide) (w_bs (g := 0) (by decide) (by decide)) rfl rfl rfl (by decide +kernel) d_law_623 (rz_sound l 60 _ _ _ _ _ c1) (Nat.le_of_ble_eq_true rfl) hsz (Nat.le_of_ble_eq_true rfl) (Nat.le_of_ble_eq_true rfl) hcs rfl (fun H locs hP hW9 hS => ?_)
  have hD := ct_Dw (wOf 60 σ1) hD
  refine lv_aload_n hx hb d_law_626 rfl (lv_at hl 2 rfl) ?_
  refine la_arg X0 hS hl (j := 1) (by omega) (by decide) ea1 d_law_627 d_law_628 d_law_629 d_law_630 d_law_631 ?_
  refine la_arg X0 hS hl (j := 2) (by omega) (by decide) ea2 d_law_632 d_law_633 d_law_634 d_law_635 d_law_636 ?_
  refine la_arg X0 hS hl (j := 3) (by omega) (by decide) ea3 d_law_637 d_law_638 d_law_639 d_law_640 d_law_641 ?_
  refine ct_callV F hS hP hD (hW _) (by decide) (i := 168) (j := 1103) (h := bs 10) (as := [.int (zI a1), .int (zI a2), .int (zI a3)]) (rest := [.int x]) rz_m_168 (by decide) (w_bs (g := 10) (by decide) (by decide)) rfl rfl rfl (by decide +kernel) d_law_642 (rz_sound l 60 _ _ _ _ _ c2) (Nat.le_of_ble_eq_true rfl) hsz (Nat.le_of_ble_eq_true rfl) (Nat.le_of_ble_eq_true rfl) hcs rfl (fun H locs hP hW9 hS => ?_)
  have hD := ct_Dw (wOf 60 σ2) hD
  refine lv_icmp_eq (tgt := 858) hx hb d_law_645 (by decide) (fun _ => ?_) (fun h9 => absurd rfl h9)
  exact kk σ2 gp2 H locs hrel hP hD hS
