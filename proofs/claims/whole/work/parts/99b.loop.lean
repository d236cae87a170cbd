/-! the law's loop -/
theorem op31 (x : Int32) : ∃ k : Nat, k < 32 ∧ x &&& 31 = zI k := by
  refine ⟨(x &&& 31).toBitVec.toNat, ?_, ?_⟩
  · rw [Int32.toBitVec_and, BitVec.toNat_and]
    exact Nat.lt_of_le_of_lt Nat.and_le_right (by decide)
  · rw [← zI_ofNat]
    apply Int32.toBitVec_inj.mp
    apply BitVec.eq_of_toNat_eq
    show _ = (BitVec.ofNat 32 (x &&& 31).toBitVec.toNat).toNat
    rw [BitVec.toNat_ofNat, Nat.mod_eq_of_lt (x &&& 31).toBitVec.isLt]
set_option maxHeartbeats 4000000 in
set_option maxRecDepth 100000 in
theorem law_loop {p : Program} {l : Launch} {e : Env} {s : State} {m : MethodId} {below : List Frame} {meth : Method} {c : Code} {b L : Nat} {xs : Nat → Int32} {D : va_G} {cI cZ : ClassId} {ad : Nat → Nat} {cells slots : Nat} (X : lwC0 p s m meth c b L xs D cI cZ ad) (hcs : cells ≤ room_1.cells ∧ slots ≤ room_1.slots) :
    ∀ (n i : Nat), i ≤ L → L < i + n → ∀ (σ : zS) (gp : Nat) (H : Heap) (locs : List Loc) (ls : Array Slot), REL (20 * (i : Int)) σ gp → va_P D vwCl (rz_ws cI cZ ad 60 (wOf 60 σ)) H → va_D (lwA0 s) (rz_ws cI cZ ad 60 (wOf 60 σ)) → va_S (lwA0 s) s.heap H locs → lv_has ls 4 [(0, .ref b), (1, .ref (ad 0)), (2, .ref (ad 48)), (3, .int (zI i))] →
    W p l e room_1 s m #[Value.ref b] below meth c H locs cells slots (lw_Z below #[Value.ref b] s) (F0 m 18 ls []) := by
  have X0 := X
  obtain ⟨⟨hx, hb, hr, hml, hown, hts, hX, hbl, hlocks, hgv⟩, hL, F⟩ := X
  have hbA : ¬ lwA0 s b := Nat.not_le.mpr hbl
  intro n
  induction n with
  | zero =>
    intro i h1 h2
    omega
  | succ n ih =>
    intro i hi hin σ gp H locs ls h hP hD hS hl
    refine lv_iload_n hx hb d_law_18 rfl (lv_at hl 3 rfl) ?_
    refine lv_aload_n hx hb d_law_19 rfl (lv_at hl 0 rfl) ?_
    refine va_slen hx hb hX hbl hbA hS d_law_20 ?_
    refine lv_iconst (v := zI 4) hx hb d_law_21 (by decide) ?_
    refine lv_isub hx hb d_law_22 ?_
    have e9 : Int32.ofNat L - zI 4 = zI ((L : Int) - 4) := by rw [zI_ofNat, zI_sub]
    rw [e9]
    refine lv_icmp_gt (tgt := 864) hx hb d_law_23 (by decide) (fun c9 => ?_) (fun c9 => ?_)
    · refine lv_iconst (v := 1) hx hb d_law_864 (by decide) ?_
      refine va_forget (fun q hq => hS.2.2 q hq) ?_
      refine W.widen (k := 600000) (n := 7302250) hcs.1 hcs.2 ?_
      exact lw_ret hx hb hr hlocks d_law_865
    · have hi4 : i + 4 ≤ L := by
        rw [zI_lt (by omega) (by omega)] at c9
        omega
      have hin0 : vp_in (zI i) L ∧ (zI i).toNatClampNeg = i := by
        have e2 : (zI (i : Int)).toNatClampNeg = i := by rw [zI_clamp (by omega) (by omega)]; omega
        refine ⟨?_, e2⟩
        unfold vp_in
        rw [e2]
        intro h
        rcases h with h | h
        · have : zI (i : Int) < zI 0 := h
          rw [zI_lt (by omega) (by omega)] at this
          omega
        · omega
      refine lv_aload_n hx hb d_law_26 rfl (lv_at hl 0 rfl) ?_
      refine lv_iload_n hx hb d_law_27 rfl (lv_at hl 3 rfl) ?_
      refine va_sld hx hb hX hbl hbA hS hin0.1 d_law_28 ?_
      refine lv_bipush (v := 31) hx hb d_law_29 (by decide +kernel) ?_
      refine lv_iand hx hb d_law_31 ?_
      obtain ⟨k, hk, ek⟩ := op31 (xs (zI (i : Int)).toNatClampNeg)
      rw [ek]
      have kk : ∀ (σ2 : zS) (gp2 : Nat) (H1 : Heap) (locs1 : List Loc), REL (20 * (i : Int) + 20) σ2 gp2 → va_P D vwCl (rz_ws cI cZ ad 60 (wOf 60 σ2)) H1 → va_D (lwA0 s) (rz_ws cI cZ ad 60 (wOf 60 σ2)) → va_S (lwA0 s) s.heap H1 locs1 → W p l e room_1 s m #[Value.ref b] below meth c H1 locs1 cells slots (lw_Z below #[Value.ref b] s) (F0 m 858 ls []) := by
        intro σ2 gp2 H1 locs1 h2 hP2 hD2 hS2
        refine lv_iinc (v := zI ((i + 4 : Nat) : Int)) (lv' := [(3, .int (zI ((i + 4 : Nat) : Int))), (0, .ref b), (1, .ref (ad 0)), (2, .ref (ad 48))]) hx hb d_law_858 hl (k := 3) rfl (by rw [show ((i + 4 : Nat) : Int) = (i : Int) + 4 by omega, ← zI_add]; rfl) (by decide) rfl (fun ls hl => ?_)
        refine lv_goto (tgt := 18) hx hb d_law_861 (by decide) ?_
        exact ih (i + 4) hi4 (by omega) σ2 gp2 H1 locs1 ls (REL_up h2 (by omega)) hP2 hD2 hS2 (lv_sub hl [1, 2, 3, 0] rfl)
      by_cases hk27 : 27 ≤ k
      · refine lv_tableOut (tgt := 858) hx hb d_law_32 (Or.inr (by rw [zI_toInt (by omega) (by omega)]; omega)) (by decide) ?_
        exact kk σ gp H locs (REL_up h (by omega)) hP hD hS
      · rcases (show k = 0 ∨ k = 1 ∨ k = 2 ∨ k = 3 ∨ k = 4 ∨ k = 5 ∨ k = 6 ∨ k = 7 ∨ k = 8 ∨ k = 9 ∨ k = 10 ∨ k = 11 ∨ k = 12 ∨ k = 13 ∨ k = 14 ∨ k = 15 ∨ k = 16 ∨ k = 17 ∨ k = 18 ∨ k = 19 ∨ k = 20 ∨ k = 21 ∨ k = 22 ∨ k = 23 ∨ k = 24 ∨ k = 25 ∨ k = 26 by omega) with rfl | rfl | rfl | rfl | rfl | rfl | rfl | rfl | rfl | rfl | rfl | rfl | rfl | rfl | rfl | rfl | rfl | rfl | rfl | rfl | rfl | rfl | rfl | rfl | rfl | rfl | rfl
        · refine lv_tableIn (off := 124) (tgt := 156) hx hb d_law_32 (by decide) (by decide) (by decide) (by decide) ?_
          exact lc_type X0 hcs hi4 h hP hD hS hl kk
        · refine lv_tableIn (off := 187) (tgt := 219) hx hb d_law_32 (by decide) (by decide) (by decide) (by decide) ?_
          exact lc_clear X0 hcs hi4 h hP hD hS hl kk
        · refine lv_tableIn (off := 200) (tgt := 232) hx hb d_law_32 (by decide) (by decide) (by decide) (by decide) ?_
          exact lc_board X0 hcs hi4 h hP hD hS hl kk
        · refine lv_tableIn (off := 213) (tgt := 245) hx hb d_law_32 (by decide) (by decide) (by decide) (by decide) ?_
          exact lc_cell X0 hcs hi4 h hP hD hS hl kk
        · refine lv_tableIn (off := 246) (tgt := 278) hx hb d_law_32 (by decide) (by decide) (by decide) (by decide) ?_
          exact lc_law X0 hcs hi4 h hP hD hS hl kk
        · refine lv_tableIn (off := 279) (tgt := 311) hx hb d_law_32 (by decide) (by decide) (by decide) (by decide) ?_
          exact lc_man X0 hcs hi4 h hP hD hS hl kk
        · refine lv_tableIn (off := 312) (tgt := 344) hx hb d_law_32 (by decide) (by decide) (by decide) (by decide) ?_
          exact lc_tell X0 hcs hi4 h hP hD hS hl kk
        · refine lv_tableIn (off := 335) (tgt := 367) hx hb d_law_32 (by decide) (by decide) (by decide) (by decide) ?_
          exact lc_refuse X0 hcs hi4 h hP hD hS hl kk
        · refine lv_tableIn (off := 358) (tgt := 390) hx hb d_law_32 (by decide) (by decide) (by decide) (by decide) ?_
          exact lc_pass X0 hcs hi4 h hP hD hS hl kk
        · refine lv_tableIn (off := 371) (tgt := 403) hx hb d_law_32 (by decide) (by decide) (by decide) (by decide) ?_
          exact lc_now X0 hcs hi4 h hP hD hS hl kk
        · refine lv_tableIn (off := 394) (tgt := 426) hx hb d_law_32 (by decide) (by decide) (by decide) (by decide) ?_
          exact lc_anew X0 hcs hi4 h hP hD hS hl kk
        · refine lv_tableIn (off := 407) (tgt := 439) hx hb d_law_32 (by decide) (by decide) (by decide) (by decide) ?_
          exact lc_safe X0 hcs hi4 h hP hD hS hl kk
        · refine lv_tableIn (off := 440) (tgt := 472) hx hb d_law_32 (by decide) (by decide) (by decide) (by decide) ?_
          exact lc_safest X0 hcs hi4 h hP hD hS hl kk
        · refine lv_tableIn (off := 463) (tgt := 495) hx hb d_law_32 (by decide) (by decide) (by decide) (by decide) ?_
          exact lc_value X0 hcs hi4 h hP hD hS hl kk
        · refine lv_tableIn (off := 486) (tgt := 518) hx hb d_law_32 (by decide) (by decide) (by decide) (by decide) ?_
          exact lc_best X0 hcs hi4 h hP hD hS hl kk
        · refine lv_tableIn (off := 509) (tgt := 541) hx hb d_law_32 (by decide) (by decide) (by decide) (by decide) ?_
          exact lc_refuses X0 hcs hi4 h hP hD hS hl kk
        · refine lv_tableIn (off := 542) (tgt := 574) hx hb d_law_32 (by decide) (by decide) (by decide) (by decide) ?_
          exact lc_worth X0 hcs hi4 h hP hD hS hl kk
        · refine lv_tableIn (off := 575) (tgt := 607) hx hb d_law_32 (by decide) (by decide) (by decide) (by decide) ?_
          exact lc_bag X0 hcs hi4 h hP hD hS hl kk
        · refine lv_tableIn (off := 618) (tgt := 650) hx hb d_law_32 (by decide) (by decide) (by decide) (by decide) ?_
          exact lc_fairest X0 hcs hi4 h hP hD hS hl kk
        · refine lv_tableIn (off := 641) (tgt := 673) hx hb d_law_32 (by decide) (by decide) (by decide) (by decide) ?_
          exact lc_even X0 hcs hi4 h hP hD hS hl kk
        · refine lv_tableIn (off := 664) (tgt := 696) hx hb d_law_32 (by decide) (by decide) (by decide) (by decide) ?_
          exact lc_rounds X0 hcs hi4 h hP hD hS hl kk
        · refine lv_tableIn (off := 687) (tgt := 719) hx hb d_law_32 (by decide) (by decide) (by decide) (by decide) ?_
          exact lc_lot X0 hcs hi4 h hP hD hS hl kk
        · refine lv_tableIn (off := 710) (tgt := 742) hx hb d_law_32 (by decide) (by decide) (by decide) (by decide) ?_
          exact lc_rate X0 hcs hi4 h hP hD hS hl kk
        · refine lv_tableIn (off := 743) (tgt := 775) hx hb d_law_32 (by decide) (by decide) (by decide) (by decide) ?_
          exact lc_keep X0 hcs hi4 h hP hD hS hl kk
        · refine lv_tableIn (off := 766) (tgt := 798) hx hb d_law_32 (by decide) (by decide) (by decide) (by decide) ?_
          exact lc_back X0 hcs hi4 h hP hD hS hl kk
        · refine lv_tableIn (off := 789) (tgt := 821) hx hb d_law_32 (by decide) (by decide) (by decide) (by decide) ?_
          exact lc_count X0 hcs hi4 h hP hD hS hl kk
        · refine lv_tableIn (off := 812) (tgt := 844) hx hb d_law_32 (by decide) (by decide) (by decide) (by decide) ?_
          exact lc_trace X0 hcs hi4 h hP hD hS hl kk
