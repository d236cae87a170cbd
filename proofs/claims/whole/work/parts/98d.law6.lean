/-! the law's cases, by program -/
set_option maxHeartbeats 4000000 in
set_option maxRecDepth 100000 in
theorem lc_fairest {p : Program} {l : Launch} {e : Env} {s : State} {m : MethodId} {below : List Frame} {meth : Method} {c : Code} {b L : Nat} {xs : Nat → Int32} {D : va_G} {cI cZ : ClassId} {ad : Nat → Nat} {cells slots : Nat} (X : lwC0 p s m meth c b L xs D cI cZ ad) (hcs : cells ≤ room_1.cells ∧ slots ≤ room_1.slots) {i : Nat} (hi : i + 4 ≤ L) {σ : zS} {gp : Nat} {H : Heap} {locs : List Loc} {ls : Array Slot} (h : REL (20 * (i : Int)) σ gp) (hP : va_P D vwCl (rz_ws cI cZ ad 60 (wOf 60 σ)) H) (hD : va_D (lwA0 s) (rz_ws cI cZ ad 60 (wOf 60 σ))) (hS : va_S (lwA0 s) s.heap H locs) (hl : lv_has ls 4 [(0, .ref b), (1, .ref (ad 0)), (2, .ref (ad 48)), (3, .int (zI i))])
    (kk : ∀ (σ2 : zS) (gp2 : Nat) (H1 : Heap) (locs1 : List Loc), REL (20 * (i : Int) + 20) σ2 gp2 → va_P D vwCl (rz_ws cI cZ ad 60 (wOf 60 σ2)) H1 → va_D (lwA0 s) (rz_ws cI cZ ad 60 (wOf 60 σ2)) → va_S (lwA0 s) s.heap H1 locs1 → W p l e room_1 s m #[Value.ref b] below meth c H1 locs1 cells slots (lw_Z below #[Value.ref b] s) (F0 m 858 ls [])) : W p l e room_1 s m #[Value.ref b] below meth c H locs cells slots (lw_Z below #[Value.ref b] s) (F0 m 650 ls []) := by
  have X0 := X
  obtain ⟨⟨hx, hb, hr, hml, hown, hts, hX, hbl, hlocks, hgv⟩, hL, F⟩ := X
  have hB : 20 * (i : Int) ≤ 80000 := by omega
  have hsz : ls.size = c.maxLocals := by rw [hml]; exact hl.1
  have hW : ∀ σ, rz_Wd 60 (wOf 60 σ) := fun σ h hh => by unfold wOf; rw [if_neg (by omega)]
  obtain ⟨a1, ea1, ra1⟩ := zI_of (xs (i + 1))
  obtain ⟨v, σ1, σ2, gp2, c1, c2, hrel⟩ := k_fairest h hB ra1
  obtain ⟨x, rfl⟩ := rz_dM_int rz_m_80 rfl c1
  refine lv_aload_n hx hb d_law_650 rfl (lv_at hl 1 rfl) ?_
  refine la_arg X0 hS hl (j := 1) (by omega) (by decide) ea1 d_law_651 d_law_652 d_law_653 d_law_654 d_law_655 ?_
  refine ct_callV F hS hP hD (hW _) (by decide) (i := 80) (j := 719) (h := bs 0) (as := [.int (zI a1)]) (rest := []) rz_m_80 (by decide) (w_bs (g := 0) (by decide) (by decide)) rfl rfl rfl (by decide +kernel) d_law_656 (rz_sound l 60 _ _ _ _ _ c1) (Nat.le_of_ble_eq_true rfl) hsz (Nat.le_of_ble_eq_true rfl) (Nat.le_of_ble_eq_true rfl) hcs rfl (fun H locs hP hW9 hS => ?_)
  have hD := ct_Dw (wOf 60 σ1) hD
  refine lv_aload_n hx hb d_law_659 rfl (lv_at hl 2 rfl) ?_
  refine la_arg X0 hS hl (j := 1) (by omega) (by decide) ea1 d_law_660 d_law_661 d_law_662 d_law_663 d_law_664 ?_
  refine ct_callV F hS hP hD (hW _) (by decide) (i := 169) (j := 1115) (h := bs 10) (as := [.int (zI a1)]) (rest := [.int x]) rz_m_169 (by decide) (w_bs (g := 10) (by decide) (by decide)) rfl rfl rfl (by decide +kernel) d_law_665 (rz_sound l 60 _ _ _ _ _ c2) (Nat.le_of_ble_eq_true rfl) hsz (Nat.le_of_ble_eq_true rfl) (Nat.le_of_ble_eq_true rfl) hcs rfl (fun H locs hP hW9 hS => ?_)
  have hD := ct_Dw (wOf 60 σ2) hD
  refine lv_icmp_eq (tgt := 858) hx hb d_law_668 (by decide) (fun _ => ?_) (fun h9 => absurd rfl h9)
  exact kk σ2 gp2 H locs hrel hP hD hS
set_option maxHeartbeats 4000000 in
set_option maxRecDepth 100000 in
theorem lc_even {p : Program} {l : Launch} {e : Env} {s : State} {m : MethodId} {below : List Frame} {meth : Method} {c : Code} {b L : Nat} {xs : Nat → Int32} {D : va_G} {cI cZ : ClassId} {ad : Nat → Nat} {cells slots : Nat} (X : lwC0 p s m meth c b L xs D cI cZ ad) (hcs : cells ≤ room_1.cells ∧ slots ≤ room_1.slots) {i : Nat} (hi : i + 4 ≤ L) {σ : zS} {gp : Nat} {H : Heap} {locs : List Loc} {ls : Array Slot} (h : REL (20 * (i : Int)) σ gp) (hP : va_P D vwCl (rz_ws cI cZ ad 60 (wOf 60 σ)) H) (hD : va_D (lwA0 s) (rz_ws cI cZ ad 60 (wOf 60 σ))) (hS : va_S (lwA0 s) s.heap H locs) (hl : lv_has ls 4 [(0, .ref b), (1, .ref (ad 0)), (2, .ref (ad 48)), (3, .int (zI i))])
    (kk : ∀ (σ2 : zS) (gp2 : Nat) (H1 : Heap) (locs1 : List Loc), REL (20 * (i : Int) + 20) σ2 gp2 → va_P D vwCl (rz_ws cI cZ ad 60 (wOf 60 σ2)) H1 → va_D (lwA0 s) (rz_ws cI cZ ad 60 (wOf 60 σ2)) → va_S (lwA0 s) s.heap H1 locs1 → W p l e room_1 s m #[Value.ref b] below meth c H1 locs1 cells slots (lw_Z below #[Value.ref b] s) (F0 m 858 ls [])) : W p l e room_1 s m #[Value.ref b] below meth c H locs cells slots (lw_Z below #[Value.ref b] s) (F0 m 673 ls []) := by
  have X0 := X
  obtain ⟨⟨hx, hb, hr, hml, hown, hts, hX, hbl, hlocks, hgv⟩, hL, F⟩ := X
  have hB : 20 * (i : Int) ≤ 80000 := by omega
  have hsz : ls.size = c.maxLocals := by rw [hml]; exact hl.1
  have hW : ∀ σ, rz_Wd 60 (wOf 60 σ) := fun σ h hh => by unfold wOf; rw [if_neg (by omega)]
  obtain ⟨a1, ea1, ra1⟩ := zI_of (xs (i + 1))
  obtain ⟨v, σ1, σ2, gp2, c1, c2, hrel⟩ := k_even h hB ra1
  obtain ⟨x, rfl⟩ := rz_dM_int rz_m_81 rfl c1
  refine lv_aload_n hx hb d_law_673 rfl (lv_at hl 1 rfl) ?_
  refine la_arg X0 hS hl (j := 1) (by omega) (by decide) ea1 d_law_674 d_law_675 d_law_676 d_law_677 d_law_678 ?_
  refine ct_callV F hS hP hD (hW _) (by decide) (i := 81) (j := 728) (h := bs 0) (as := [.int (zI a1)]) (rest := []) rz_m_81 (by decide) (w_bs (g := 0) (by decide) (by decide)) rfl rfl rfl (by decide +kernel) d_law_679 (rz_sound l 60 _ _ _ _ _ c1) (Nat.le_of_ble_eq_true rfl) hsz (Nat.le_of_ble_eq_true rfl) (Nat.le_of_ble_eq_true rfl) hcs rfl (fun H locs hP hW9 hS => ?_)
  have hD := ct_Dw (wOf 60 σ1) hD
  refine lv_aload_n hx hb d_law_682 rfl (lv_at hl 2 rfl) ?_
  refine la_arg X0 hS hl (j := 1) (by omega) (by decide) ea1 d_law_683 d_law_684 d_law_685 d_law_686 d_law_687 ?_
  refine ct_callV F hS hP hD (hW _) (by decide) (i := 170) (j := 1119) (h := bs 10) (as := [.int (zI a1)]) (rest := [.int x]) rz_m_170 (by decide) (w_bs (g := 10) (by decide) (by decide)) rfl rfl rfl (by decide +kernel) d_law_688 (rz_sound l 60 _ _ _ _ _ c2) (Nat.le_of_ble_eq_true rfl) hsz (Nat.le_of_ble_eq_true rfl) (Nat.le_of_ble_eq_true rfl) hcs rfl (fun H locs hP hW9 hS => ?_)
  have hD := ct_Dw (wOf 60 σ2) hD
  refine lv_icmp_eq (tgt := 858) hx hb d_law_691 (by decide) (fun _ => ?_) (fun h9 => absurd rfl h9)
  exact kk σ2 gp2 H locs hrel hP hD hS
set_option maxHeartbeats 4000000 in
set_option maxRecDepth 100000 in
theorem lc_rounds {p : Program} {l : Launch} {e : Env} {s : State} {m : MethodId} {below : List Frame} {meth : Method} {c : Code} {b L : Nat} {xs : Nat → Int32} {D : va_G} {cI cZ : ClassId} {ad : Nat → Nat} {cells slots : Nat} (X : lwC0 p s m meth c b L xs D cI cZ ad) (hcs : cells ≤ room_1.cells ∧ slots ≤ room_1.slots) {i : Nat} (hi : i + 4 ≤ L) {σ : zS} {gp : Nat} {H : Heap} {locs : List Loc} {ls : Array Slot} (h : REL (20 * (i : Int)) σ gp) (hP : va_P D vwCl (rz_ws cI cZ ad 60 (wOf 60 σ)) H) (hD : va_D (lwA0 s) (rz_ws cI cZ ad 60 (wOf 60 σ))) (hS : va_S (lwA0 s) s.heap H locs) (hl : lv_has ls 4 [(0, .ref b), (1, .ref (ad 0)), (2, .ref (ad 48)), (3, .int (zI i))])
    (kk : ∀ (σ2 : zS) (gp2 : Nat) (H1 : Heap) (locs1 : List Loc), REL (20 * (i : Int) + 20) σ2 gp2 → va_P D vwCl (rz_ws cI cZ ad 60 (wOf 60 σ2)) H1 → va_D (lwA0 s) (rz_ws cI cZ ad 60 (wOf 60 σ2)) → va_S (lwA0 s) s.heap H1 locs1 → W p l e room_1 s m #[Value.ref b] below meth c H1 locs1 cells slots (lw_Z below #[Value.ref b] s) (F0 m 858 ls [])) : W p l e room_1 s m #[Value.ref b] below meth c H locs cells slots (lw_Z below #[Value.ref b] s) (F0 m 696 ls []) := by
  have X0 := X
  obtain ⟨⟨hx, hb, hr, hml, hown, hts, hX, hbl, hlocks, hgv⟩, hL, F⟩ := X
  have hB : 20 * (i : Int) ≤ 80000 := by omega
  have hsz : ls.size = c.maxLocals := by rw [hml]; exact hl.1
  have hW : ∀ σ, rz_Wd 60 (wOf 60 σ) := fun σ h hh => by unfold wOf; rw [if_neg (by omega)]
  obtain ⟨a1, ea1, ra1⟩ := zI_of (xs (i + 1))
  obtain ⟨v, σ1, σ2, gp2, c1, c2, hrel⟩ := k_rounds h hB ra1
  obtain ⟨x, rfl⟩ := rz_dM_int rz_m_82 rfl c1
  refine lv_aload_n hx hb d_law_696 rfl (lv_at hl 1 rfl) ?_
  refine la_arg X0 hS hl (j := 1) (by omega) (by decide) ea1 d_law_697 d_law_698 d_law_699 d_law_700 d_law_701 ?_
  refine ct_callV F hS hP hD (hW _) (by decide) (i := 82) (j := 736) (h := bs 0) (as := [.int (zI a1)]) (rest := []) rz_m_82 (by decide) (w_bs (g := 0) (by decide) (by decide)) rfl rfl rfl (by decide +kernel) d_law_702 (rz_sound l 60 _ _ _ _ _ c1) (Nat.le_of_ble_eq_true rfl) hsz (Nat.le_of_ble_eq_true rfl) (Nat.le_of_ble_eq_true rfl) hcs rfl (fun H locs hP hW9 hS => ?_)
  have hD := ct_Dw (wOf 60 σ1) hD
  refine lv_aload_n hx hb d_law_705 rfl (lv_at hl 2 rfl) ?_
  refine la_arg X0 hS hl (j := 1) (by omega) (by decide) ea1 d_law_706 d_law_707 d_law_708 d_law_709 d_law_710 ?_
  refine ct_callV F hS hP hD (hW _) (by decide) (i := 172) (j := 1123) (h := bs 10) (as := [.int (zI a1)]) (rest := [.int x]) rz_m_172 (by decide) (w_bs (g := 10) (by decide) (by decide)) rfl rfl rfl (by decide +kernel) d_law_711 (rz_sound l 60 _ _ _ _ _ c2) (Nat.le_of_ble_eq_true rfl) hsz (Nat.le_of_ble_eq_true rfl) (Nat.le_of_ble_eq_true rfl) hcs rfl (fun H locs hP hW9 hS => ?_)
  have hD := ct_Dw (wOf 60 σ2) hD
  refine lv_icmp_eq (tgt := 858) hx hb d_law_714 (by decide) (fun _ => ?_) (fun h9 => absurd rfl h9)
  exact kk σ2 gp2 H locs hrel hP hD hS
set_option maxHeartbeats 4000000 in
set_option maxRecDepth 100000 in
theorem lc_lot {p : Program} {l : Launch} {e : Env} {s : State} {m : MethodId} {below : List Frame} {meth : Method} {c : Code} {b L : Nat} {xs : Nat → Int32} {D : va_G} {cI cZ : ClassId} {ad : Nat → Nat} {cells slots : Nat} (X : lwC0 p s m meth c b L xs D cI cZ ad) (hcs : cells ≤ room_1.cells ∧ slots ≤ room_1.slots) {i : Nat} (hi : i + 4 ≤ L) {σ : zS} {gp : Nat} {H : Heap} {locs : List Loc} {ls : Array Slot} (h : REL (20 * (i : Int)) σ gp) (hP : va_P D vwCl (rz_ws cI cZ ad 60 (wOf 60 σ)) H) (hD : va_D (lwA0 s) (rz_ws cI cZ ad 60 (wOf 60 σ))) (hS : va_S (lwA0 s) s.heap H locs) (hl : lv_has ls 4 [(0, .ref b), (1, .ref (ad 0)), (2, .ref (ad 48)), (3, .int (zI i))])
    (kk : ∀ (σ2 : zS) (gp2 : Nat) (H1 : Heap) (locs1 : List Loc), REL (20 * (i : Int) + 20) σ2 gp2 → va_P D vwCl (rz_ws cI cZ ad 60 (wOf 60 σ2)) H1 → va_D (lwA0 s) (rz_ws cI cZ ad 60 (wOf 60 σ2)) → va_S (lwA0 s) s.heap H1 locs1 → W p l e room_1 s m #[Value.ref b] below meth c H1 locs1 cells slots (lw_Z below #[Value.ref b] s) (F0 m 858 ls [])) : W p l e room_1 s m #[Value.ref b] below meth c H locs cells slots (lw_Z below #[Value.ref b] s) (F0 m 719 ls []) := by
  have X0 := X
  obtain ⟨⟨hx, hb, hr, hml, hown, hts, hX, hbl, hlocks, hgv⟩, hL, F⟩ := X
  have hB : 20 * (i : Int) ≤ 80000 := by omega
  have hsz : ls.size = c.maxLocals := by rw [hml]; exact hl.1
  have hW : ∀ σ, rz_Wd 60 (wOf 60 σ) := fun σ h hh => by unfold wOf; rw [if_neg (by omega)]
  obtain ⟨a1, ea1, ra1⟩ := zI_of (xs (i + 1))
  obtain ⟨v, σ1, σ2, gp2, c1, c2, hrel⟩ := k_lot h hB a1
  obtain ⟨x, rfl⟩ := rz_dM_int rz_m_83 rfl c1
  refine lv_aload_n hx hb d_law_719 rfl (lv_at hl 1 rfl) ?_
  refine la_arg X0 hS hl (j := 1) (by omega) (by decide) ea1 d_law_720 d_law_721 d_law_722 d_law_723 d_law_724 ?_
  refine ct_callV F hS hP hD (hW _) (by decide) (i := 83) (j := 758) (h := bs 0) (as := [.int (zI a1)]) (rest := []) rz_m_83 (by decide) (w_bs (g := 0) (by decide) (by decide)) rfl rfl rfl (by decide +kernel) d_law_725 (rz_sound l 60 _ _ _ _ _ c1) (Nat.le_of_ble_eq_true rfl) hsz (Nat.le_of_ble_eq_true rfl) (Nat.le_of_ble_eq_true rfl) hcs rfl (fun H locs hP hW9 hS => ?_)
  have hD := ct_Dw (wOf 60 σ1) hD
  refine lv_aload_n hx hb d_law_728 rfl (lv_at hl 2 rfl) ?_
  refine la_arg X0 hS hl (j := 1) (by omega) (by decide) ea1 d_law_729 d_law_730 d_law_731 d_law_732 d_law_733 ?_
  refine ct_callV F hS hP hD (hW _) (by decide) (i := 173) (j := 1133) (h := bs 10) (as := [.int (zI a1)]) (rest := [.int x]) rz_m_173 (by decide) (w_bs (g := 10) (by decide) (by decide)) rfl rfl rfl (by decide +kernel) d_law_734 (rz_sound l 60 _ _ _ _ _ c2) (Nat.le_of_ble_eq_true rfl) hsz (Nat.le_of_ble_eq_true rfl) (Nat.le_of_ble_eq_true rfl) hcs rfl (fun H locs hP hW9 hS => ?_)
  have hD := ct_Dw (wOf 60 σ2) hD
  refine lv_icmp_eq (tgt := 858) hx hb d_law_737 (by decide) (fun _ => ?_) (fun h9 => absurd rfl h9)
  exact kk σ2 gp2 H locs hrel hP hD hS
set_option maxHeartbeats 4000000 in
set_option maxRecDepth 100000 in
theorem lc_rate {p : Program} {l : Launch} {e : Env} {s : State} {m : MethodId} {below : List Frame} {meth : Method} {c : Code} {b L : Nat} {xs : Nat → Int32} {D : va_G} {cI cZ : ClassId} {ad : Nat → Nat} {cells slots : Nat} (X : lwC0 p s m meth c b L xs D cI cZ ad) (hcs : cells ≤ room_1.cells ∧ slots ≤ room_1.slots) {i : Nat} (hi : i + 4 ≤ L) {σ : zS} {gp : Nat} {H : Heap} {locs : List Loc} {ls : Array Slot} (h : REL (20 * (i : Int)) σ gp) (hP : va_P D vwCl (rz_ws cI cZ ad 60 (wOf 60 σ)) H) (hD : va_D (lwA0 s) (rz_ws cI cZ ad 60 (wOf 60 σ))) (hS : va_S (lwA0 s) s.heap H locs) (hl : lv_has ls 4 [(0, .ref b), (1, .ref (ad 0)), (2, .ref (ad 48)), (3, .int (zI i))])
    (kk : ∀ (σ2 : zS) (gp2 : Nat) (H1 : Heap) (locs1 : List Loc), REL (20 * (i : Int) + 20) σ2 gp2 → va_P D vwCl (rz_ws cI cZ ad 60 (wOf 60 σ2)) H1 → va_D (lwA0 s) (rz_ws cI cZ ad 60 (wOf 60 σ2)) → va_S (lwA0 s) s.heap H1 locs1 → W p l e room_1 s m #[Value.ref b] below meth c H1 locs1 cells slots (lw_Z below #[Value.ref b] s) (F0 m 858 ls [])) : W p l e room_1 s m #[Value.ref b] below meth c H locs cells slots (lw_Z below #[Value.ref b] s) (F0 m 742 ls []) := by
  have X0 := X
  obtain ⟨⟨hx, hb, hr, hml, hown, hts, hX, hbl, hlocks, hgv⟩, hL, F⟩ := X
  have hB : 20 * (i : Int) ≤ 80000 := by omega
  have hsz : ls.size = c.maxLocals := by rw [hml]; exact hl.1
  have hW : ∀ σ, rz_Wd 60 (wOf 60 σ) := fun σ h hh => by unfold wOf; rw [if_neg (by omega)]
  obtain ⟨a1, ea1, ra1⟩ := zI_of (xs (i + 1))
  obtain ⟨a2, ea2, ra2⟩ := zI_of (xs (i + 2))
  obtain ⟨v, σ1, σ2, gp2, c1, c2, hrel⟩ := k_rate h hB ra1 ra2
  obtain ⟨x, rfl⟩ := rz_dM_int rz_m_84 rfl c1
  refine lv_aload_n hx hb d_law_742 rfl (lv_at hl 1 rfl) ?_
  refine la_arg X0 hS hl (j := 1) (by omega) (by decide) ea1 d_law_743 d_law_744 d_law_745 d_law_746 d_law_747 ?_
  refine la_arg X0 hS hl (j := 2) (by omega) (by decide) ea2 d_law_748 d_law_749 d_law_750 d_law_751 d_law_752 ?_
  refine ct_callV F hS hP hD (hW _) (by decide) (i := 84) (j := 762) (h := bs 0) (as := [.int (zI a1), .int (zI a2)]) (rest := []) rz_m_84 (by decide) (w_bs (g := 0) (by decide) (by decide)) rfl rfl rfl (by decide +kernel) d_law_753 (rz_sound l 60 _ _ _ _ _ c1) (Nat.le_of_ble_eq_true rfl) hsz (Nat.le_of_ble_eq_true rfl) (Nat.le_of_ble_eq_true rfl) hcs rfl (fun H locs hP hW9 hS => ?_)
  have hD := ct_Dw (wOf 60 σ1) hD
  refine lv_aload_n hx hb d_law_756 rfl (lv_at hl 2 rfl) ?_
  refine la_arg X0 hS hl (j := 1) (by omega) (by decide) ea1 d_law_757 d_law_758 d_law_759 d_law_760 d_law_761 ?_
  refine la_arg X0 hS hl (j := 2) (by omega) (by decide) ea2 d_law_762 d_law_763 d_law_764 d_law_765 d_law_766 ?_
  refine ct_callV F hS hP hD (hW _) (by decide) (i := 174) (j := 1137) (h := bs 10) (as := [.int (zI a1), .int (zI a2)]) (rest := [.int x]) rz_m_174 (by decide) (w_bs (g := 10) (by decide) (by decide)) rfl rfl rfl (by decide +kernel) d_law_767 (rz_sound l 60 _ _ _ _ _ c2) (Nat.le_of_ble_eq_true rfl) hsz (Nat.le_of_ble_eq_true rfl) (Nat.le_of_ble_eq_true rfl) hcs rfl (fun H locs hP hW9 hS => ?_)
  have hD := ct_Dw (wOf 60 σ2) hD
  refine lv_icmp_eq (tgt := 858) hx hb d_law_770 (by decide) (fun _ => ?_) (fun h9 => absurd rfl h9)
  exact kk σ2 gp2 H locs hrel hP hD hS
set_option maxHeartbeats 4000000 in
set_option maxRecDepth 100000 in
theorem lc_keep {p : Program} {l : Launch} {e : Env} {s : State} {m : MethodId} {below : List Frame} {meth : Method} {c : Code} {b L : Nat} {xs : Nat → Int32} {D : va_G} {cI cZ : ClassId} {ad : Nat → Nat} {cells slots : Nat} (X : lwC0 p s m meth c b L xs D cI cZ ad) (hcs : cells ≤ room_1.cells ∧ slots ≤ room_1.slots) {i : Nat} (hi : i + 4 ≤ L) {σ : zS} {gp : Nat} {H : Heap} {locs : List Loc} {ls : Array Slot} (h : REL (20 * (i : Int)) σ gp) (hP : va_P D vwCl (rz_ws cI cZ ad 60 (wOf 60 σ)) H) (hD : va_D (lwA0 s) (rz_ws cI cZ ad 60 (wOf 60 σ))) (hS : va_S (lwA0 s) s.heap H locs) (hl : lv_has ls 4 [(0, .ref b), (1, .ref (ad 0)), (2, .ref (ad 48)), (3, .int (zI i))])
    (kk : ∀ (σ2 : zS) (gp2 : Nat) (H1 : Heap) (locs1 : List Loc), REL (20 * (i : Int) + 20) σ2 gp2 → va_P D vwCl (rz_ws cI cZ ad 60 (wOf 60 σ2)) H1 → va_D (lwA0 s) (rz_ws cI cZ ad 60 (wOf 60 σ2)) → va_S (lwA0 s) s.heap H1 locs1 → W p l e room_1 s m #[Value.ref b] below meth c H1 locs1 cells slots (lw_Z below #[Value.ref b] s) (F0 m 858 ls [])) : W p l e room_1 s m #[Value.ref b] below meth c H locs cells slots (lw_Z below #[Value.ref b] s) (F0 m 775 ls []) := by
  have X0 := X
  obtain ⟨⟨hx, hb, hr, hml, hown, hts, hX, hbl, hlocks, hgv⟩, hL, F⟩ := X
  have hB : 20 * (i : Int) ≤ 80000 := by omega
  have hsz : ls.size = c.maxLocals := by rw [hml]; exact hl.1
  have hW : ∀ σ, rz_Wd 60 (wOf 60 σ) := fun σ h hh => by unfold wOf; rw [if_neg (by omega)]
  obtain ⟨a1, ea1, ra1⟩ := zI_of (xs (i + 1))
  obtain ⟨v, σ1, σ2, gp2, c1, c2, hrel⟩ := k_keep h hB ra1
  obtain ⟨x, rfl⟩ := rz_dM_int rz_m_85 rfl c1
  refine lv_aload_n hx hb d_law_775 rfl (lv_at hl 1 rfl) ?_
  refine la_arg X0 hS hl (j := 1) (by omega) (by decide) ea1 d_law_776 d_law_777 d_law_778 d_law_779 d_law_780 ?_
  refine ct_callV F hS hP hD (hW _) (by decide) (i := 85) (j := 795) (h := bs 0) (as := [.int (zI a1)]) (rest := []) rz_m_85 (by decide) (w_bs (g := 0) (by decide) (by decide)) rfl rfl rfl (by decide +kernel) d_law_781 (rz_sound l 60 _ _ _ _ _ c1) (Nat.le_of_ble_eq_true rfl) hsz (Nat.le_of_ble_eq_true rfl) (Nat.le_of_ble_eq_true rfl) hcs rfl (fun H locs hP hW9 hS => ?_)
  have hD := ct_Dw (wOf 60 σ1) hD
  refine lv_aload_n hx hb d_law_784 rfl (lv_at hl 2 rfl) ?_
  refine la_arg X0 hS hl (j := 1) (by omega) (by decide) ea1 d_law_785 d_law_786 d_law_787 d_law_788 d_law_789 ?_
  refine ct_callV F hS hP hD (hW _) (by decide) (i := 175) (j := 1146) (h := bs 10) (as := [.int (zI a1)]) (rest := [.int x]) rz_m_175 (by decide) (w_bs (g := 10) (by decide) (by decide)) rfl rfl rfl (by decide +kernel) d_law_790 (rz_sound l 60 _ _ _ _ _ c2) (Nat.le_of_ble_eq_true rfl) hsz (Nat.le_of_ble_eq_true rfl) (Nat.le_of_ble_eq_true rfl) hcs rfl (fun H locs hP hW9 hS => ?_)
  have hD := ct_Dw (wOf 60 σ2) hD
  refine lv_icmp_eq (tgt := 858) hx hb d_law_793 (by decide) (fun _ => ?_) (fun h9 => absurd rfl h9)
  exact kk σ2 gp2 H locs hrel hP hD hS
set_option maxHeartbeats 4000000 in
set_option maxRecDepth 100000 in
theorem lc_back {p : Program} {l : Launch} {e : Env} {s : State} {m : MethodId} {below : List Frame} {meth : Method} {c : Code} {b L : Nat} {xs : Nat → Int32} {D : va_G} {cI cZ : ClassId} {ad : Nat → Nat} {cells slots : Nat} (X : lwC0 p s m meth c b L xs D cI cZ ad) (hcs : cells ≤ room_1.cells ∧ slots ≤ room_1.slots) {i : Nat} (hi : i + 4 ≤ L) {σ : zS} {gp : Nat} {H : Heap} {locs : List Loc} {ls : Array Slot} (h : REL (20 * (i : Int)) σ gp) (hP : va_P D vwCl (rz_ws cI cZ ad 60 (wOf 60 σ)) H) (hD : va_D (lwA0 s) (rz_ws cI cZ ad 60 (wOf 60 σ))) (hS : va_S (lwA0 s) s.heap H locs) (hl : lv_has ls 4 [(0, .ref b), (1, .ref (ad 0)), (2, .ref (ad 48)), (3, .int (zI i))])
    (kk : ∀ (σ2 : zS) (gp2 : Nat) (H1 : Heap) (locs1 : List Loc), REL (20 * (i : Int) + 20) σ2 gp2 → va_P D vwCl (rz_ws cI cZ ad 60 (wOf 60 σ2)) H1 → va_D (lwA0 s) (rz_ws cI cZ ad 60 (wOf 60 σ2)) → va_S (lwA0 s) s.heap H1 locs1 → W p l e room_1 s m #[Value.ref b] below meth c H1 locs1 cells slots (lw_Z below #[Value.ref b] s) (F0 m 858 ls [])) : W p l e room_1 s m #[Value.ref b] below meth c H locs cells slots (lw_Z below #[Value.ref b] s) (F0 m 798 ls []) := by
  have X0 := X
  obtain ⟨⟨hx, hb, hr, hml, hown, hts, hX, hbl, hlocks, hgv⟩, hL, F⟩ := X
  have hB : 20 * (i : Int) ≤ 80000 := by omega
  have hsz : ls.size = c.maxLocals := by rw [hml]; exact hl.1
  have hW : ∀ σ, rz_Wd 60 (wOf 60 σ) := fun σ h hh => by unfold wOf; rw [if_neg (by omega)]
  obtain ⟨a1, ea1, ra1⟩ := zI_of (xs (i + 1))
  obtain ⟨v, σ1, σ2, gp2, c1, c2, hrel⟩ := k_back h hB ra1
  obtain ⟨x, rfl⟩ := rz_dM_int rz_m_86 rfl c1
  refine lv_aload_n hx hb d_law_798 rfl (lv_at hl 1 rfl) ?_
  refine la_arg X0 hS hl (j := 1) (by omega) (by decide) ea1 d_law_799 d_law_800 d_law_801 d_law_802 d_law_803 ?_
  refine ct_callV F hS hP hD (hW _) (by decide) (i := 86) (j := 807) (h := bs 0) (as := [.int (zI a1)]) (rest := []) rz_m_86 (by decide) (w_bs (g := 0) (by decide) (by decide)) rfl rfl rfl (by decide +kernel) d_law_804 (rz_sound l 60 _ _ _ _ _ c1) (Nat.le_of_ble_eq_true rfl) hsz (Nat.le_of_ble_eq_true rfl) (Nat.le_of_ble_eq_true rfl) hcs rfl (fun H locs hP hW9 hS => ?_)
  have hD := ct_Dw (wOf 60 σ1) hD
  refine lv_aload_n hx hb d_law_807 rfl (lv_at hl 2 rfl) ?_
  refine la_arg X0 hS hl (j := 1) (by omega) (by decide) ea1 d_law_808 d_law_809 d_law_810 d_law_811 d_law_812 ?_
  refine ct_callV F hS hP hD (hW _) (by decide) (i := 176) (j := 1150) (h := bs 10) (as := [.int (zI a1)]) (rest := [.int x]) rz_m_176 (by decide) (w_bs (g := 10) (by decide) (by decide)) rfl rfl rfl (by decide +kernel) d_law_813 (rz_sound l 60 _ _ _ _ _ c2) (Nat.le_of_ble_eq_true rfl) hsz (Nat.le_of_ble_eq_true rfl) (Nat.le_of_ble_eq_true rfl) hcs rfl (fun H locs hP hW9 hS => ?_)
  have hD := ct_Dw (wOf 60 σ2) hD
  refine lv_icmp_eq (tgt := 858) hx hb d_law_816 (by decide) (fun _ => ?_) (fun h9 => absurd rfl h9)
  exact kk σ2 gp2 H locs hrel hP hD hS
set_option maxHeartbeats 4000000 in
set_option maxRecDepth 100000 in
theorem lc_count {p : Program} {l : Launch} {e : Env} {s : State} {m : MethodId} {below : List Frame} {meth : Method} {c : Code} {b L : Nat} {xs : Nat → Int32} {D : va_G} {cI cZ : ClassId} {ad : Nat → Nat} {cells slots : Nat} (X : lwC0 p s m meth c b L xs D cI cZ ad) (hcs : cells ≤ room_1.cells ∧ slots ≤ room_1.slots) {i : Nat} (hi : i + 4 ≤ L) {σ : zS} {gp : Nat} {H : Heap} {locs : List Loc} {ls : Array Slot} (h : REL (20 * (i : Int)) σ gp) (hP : va_P D vwCl (rz_ws cI cZ ad 60 (wOf 60 σ)) H) (hD : va_D (lwA0 s) (rz_ws cI cZ ad 60 (wOf 60 σ))) (hS : va_S (lwA0 s) s.heap H locs) (hl : lv_has ls 4 [(0, .ref b), (1, .ref (ad 0)), (2, .ref (ad 48)), (3, .int (zI i))])
    (kk : ∀ (σ2 : zS) (gp2 : Nat) (H1 : Heap) (locs1 : List Loc), REL (20 * (i : Int) + 20) σ2 gp2 → va_P D vwCl (rz_ws cI cZ ad 60 (wOf 60 σ2)) H1 → va_D (lwA0 s) (rz_ws cI cZ ad 60 (wOf 60 σ2)) → va_S (lwA0 s) s.heap H1 locs1 → W p l e room_1 s m #[Value.ref b] below meth c H1 locs1 cells slots (lw_Z below #[Value.ref b] s) (F0 m 858 ls [])) : W p l e room_1 s m #[Value.ref b] below meth c H locs cells slots (lw_Z below #[Value.ref b] s) (F0 m 821 ls []) := by
  have X0 := X
  obtain ⟨⟨hx, hb, hr, hml, hown, hts, hX, hbl, hlocks, hgv⟩, hL, F⟩ := X
  have hB : 20 * (i : Int) ≤ 80000 := by omega
  have hsz : ls.size = c.maxLocals := by rw [hml]; exact hl.1
  have hW : ∀ σ, rz_Wd 60 (wOf 60 σ) := fun σ h hh => by unfold wOf; rw [if_neg (by omega)]
  obtain ⟨a1, ea1, ra1⟩ := zI_of (xs (i + 1))
  obtain ⟨v, σ1, σ2, gp2, c1, c2, hrel⟩ := k_count h hB ra1
  obtain ⟨x, rfl⟩ := rz_dM_int rz_m_87 rfl c1
  refine lv_aload_n hx hb d_law_821 rfl (lv_at hl 1 rfl) ?_
  refine la_arg X0 hS hl (j := 1) (by omega) (by decide) ea1 d_law_822 d_law_823 d_law_824 d_law_825 d_law_826 ?_
  refine ct_callV F hS hP hD (hW _) (by decide) (i := 87) (j := 811) (h := bs 0) (as := [.int (zI a1)]) (rest := []) rz_m_87 (by decide) (w_bs (g := 0) (by decide) (by decide)) rfl rfl rfl (by decide +kernel) d_law_827 (rz_sound l 60 _ _ _ _ _ c1) (Nat.le_of_ble_eq_true rfl) hsz (Nat.le_of_ble_eq_true rfl) (Nat.le_of_ble_eq_true rfl) hcs rfl (fun H locs hP hW9 hS => ?_)
  have hD := ct_Dw (wOf 60 σ1) hD
  refine lv_aload_n hx hb d_law_830 rfl (lv_at hl 2 rfl) ?_
  refine la_arg X0 hS hl (j := 1) (by omega) (by decide) ea1 d_law_831 d_law_832 d_law_833 d_law_834 d_law_835 ?_
  refine ct_callV F hS hP hD (hW _) (by decide) (i := 177) (j := 1154) (h := bs 10) (as := [.int (zI a1)]) (rest := [.int x]) rz_m_177 (by decide) (w_bs (g := 10) (by decide) (by decide)) rfl rfl rfl (by decide +kernel) d_law_836 (rz_sound l 60 _ _ _ _ _ c2) (Nat.le_of_ble_eq_true rfl) hsz (Nat.le_of_ble_eq_true rfl) (Nat.le_of_ble_eq_true rfl) hcs rfl (fun H locs hP hW9 hS => ?_)
  have hD := ct_Dw (wOf 60 σ2) hD
  refine lv_icmp_eq (tgt := 858) hx hb d_law_839 (by decide) (fun _ => ?_) (fun h9 => absurd rfl h9)
  exact kk σ2 gp2 H locs hrel hP hD hS
