-- the model: refuses
section MV1
variable {N : Nat} {σ : zS} {p q : zP}
/-- what is looked at from where it stands, all being reckoned -/
theorem z_MlookNow (d : Nat) (hN : 60 ≤ N) (hw : wfP p) (hl : lkP p) (hq : wfW q p) {mA : zP} (h9 : tlR (mA 9) 0 p) (hs : sR (mA 10) q) (h16 : ∀ j : Nat, j < 2 → mA 16 j = laM p j ∧ 0 ≤ laM p j ∧ laM p j < 3) (h15 : ∀ j : Nat, j < 2 → mA 15 j = hoO p j ∧ rg (hoO p j)) {t : Nat} (ht : t ≤ 100) : ∃ m1 c l, rz_dM (d + 6) iM_reckons [.ref (bs 10), .int (zI t)] (wOf N (gset σ 10 mA)) = some (none, wOf N (gset σ 10 m1)) ∧ rz_dM (d + 6) iM_looks [.ref (bs 10), .int (zI (cl (kW q) 0 : Nat)), .int (zI (cl (kW q) 1 : Nat)), .int (zI (lf (kW q) 0 : Nat)), .int (zI (lf (kW q) 1 : Nat)), .int (zI (tl (kW q) : Nat))] (wOf N (gset σ 10 m1)) = some (some (.int (zI (oS (mayK p (laM p) (kW q)) 8 : Nat))), wOf N (gset σ 10 (lkM m1 c l))) ∧ sm [13, 14, 17, 18] mA m1 ∧ sm [13, 14, 17, 18] mA (lkM m1 c l) ∧ (∀ i, i < 8 → mayK p (laM p) (kW q) i = true → c i = dnK p (laO p) (hoO p) (gV p (laO p) (hoO p) t) (kW q) i ∧ (0 < lf (kW q) (tm (kW q)) → l i = dnK p (laO p) (hoO p) (gV p (laO p) (hoO p) t) (lessK (kW q)) i)) := by
  obtain ⟨k1, -⟩ := kW_f hw hq
  obtain ⟨m1, r1, r2, r3⟩ := z_Mreckons (N := N) (σ := gset σ 10 mA) (la := laM p) (hm := hoO p) d hN hw hl (by rw [gset_at]; exact h9) (by rw [gset_at]; exact h16) (by rw [gset_at]; exact h15) ht
  rw [gset_gset] at r1
  rw [gset_at] at r2
  obtain ⟨c, l, a1, a2⟩ := z_Mlooks (N := N) (σ := gset σ 10 m1) (d + 2) hN hw hl (by rw [gset_at]; exact r3) k1
  rw [gset_at, gset_gset] at a1
  obtain ⟨-, -, e3, -, -, e6, -⟩ := ld_congr (p := p) (hm := hoO p) (hm' := hoO p) (la_ld hw) (fun _ _ => rfl)
  have eV : gV p (laM p) (hoO p) t = gV p (laO p) (hoO p) t := funext (e6 t)
  refine ⟨m1, c, l, r1, a1, r2, sm_tr r2 (sm_mono (lkM_sm _ _ _) (by decide)), fun i hi hmi => ?_⟩
  obtain ⟨b1, b2⟩ := a2 i hi hmi
  rw [eV, e3] at b1 b2
  exact ⟨b1, b2⟩
theorem may_W (hw : wfP p) (hq : wfW q p) : oS (mayK p (laM p) (kW q)) 8 = mayW q p (1 - q 2 0) ∧ ((tm (kW q) : Nat) : Int) = 1 - q 2 0 ∧ lf (kW q) (tm (kW q)) = (q 1 (1 - q 2 0).toNat).toNat := by
  obtain ⟨k1, k2, k3, k4, k5, k6⟩ := kW_f hw hq
  have h2 := hq.2.1
  have e1 : ((tm (kW q) : Nat) : Int) = 1 - q 2 0 := by
    unfold tm
    rw [k6]
    omega
  have hmm : 0 ≤ 1 - q 2 0 ∧ 1 - q 2 0 < 2 := by omega
  refine ⟨?_, e1, ?_⟩
  · unfold mayW
    rw [mayP_law hw hmm]
    unfold mayP mayK
    have hx0 := (hq.1 0 (by decide)).1
    have hx1 := (hq.1 1 (by decide)).1
    have : 1 - q 2 0 = 0 ∨ 1 - q 2 0 = 1 := by omega
    rcases this with e | e
    · have et : tm (kW q) = 0 := by omega
      rw [et, e, k2, Nat.sub_zero, k3]
      show oS (mayF p (p 6 0) ((q 0 0).toNat : Int) ((q 0 1).toNat : Int)) 8 = oS (mayF p (p 6 0) (q 0 0) (q 0 1)) 8
      rw [Int.toNat_of_nonneg hx0.1, Int.toNat_of_nonneg hx1.1]
    · have et : tm (kW q) = 1 := by omega
      rw [et, e, k3, Nat.sub_self, k2]
      show oS (mayF p (p 6 1) ((q 0 1).toNat : Int) ((q 0 0).toNat : Int)) 8 = oS (mayF p (p 6 1) (q 0 1) (q 0 0)) 8
      rw [Int.toNat_of_nonneg hx0.1, Int.toNat_of_nonneg hx1.1]
  · have : 1 - q 2 0 = 0 ∨ 1 - q 2 0 = 1 := by omega
    rcases this with e | e
    · have et : tm (kW q) = 0 := by omega
      rw [et, e, k4]; rfl
    · have et : tm (kW q) = 1 := by omega
      rw [et, e, k5]; rfl
theorem z_Mrefuses (d : Nat) (hN : 60 ≤ N) (hm : tlR (σ 10 9) 0 p) (hs : sR (σ 10 10) q) (hw : wfP p) (hl : lkP p) (hq : wfW q p) {k n : Int} (hk : rg k) (hn : rg n) : ∃ m', rz_dM (d + 7) iM_refuses [.ref (bs 10), .int (zI k), .int (zI n)] (wOf N σ) = some (some (.int (zI (refusesA q p k n))), wOf N (gset σ 10 m')) ∧ sm [0, 13, 14, 15, 16, 17, 18] (σ 10) m' := by
  obtain ⟨q1, q2, q3, q4, q5, q6⟩ := id hq
  unfold refusesA
  by_cases cn : 1 ≤ n ∧ n ≤ 5
  · rw [if_pos cn]
    have e1 : (gset σ 10 (T0 (σ 10))) 10 = T0 (σ 10) := gset_at _ _ _
    obtain ⟨m1, hr, hsm⟩ := z_Mrefusal (N := N) (σ := gset σ 10 (T0 (σ 10))) d hN (p := p) (q := q) (by rw [e1]; exact hm) (by rw [e1]; exact hs) hw hl hq hk
    rw [e1] at hsm
    rw [gset_gset] at hr
    have hsm0 : sm [0, 15, 16] (σ 10) m1 := sm_tr (sm_mono (T0_sm _) (by decide)) (sm_mono hsm (by decide))
    have hm1 : tlR (m1 9) 0 p := by rw [hsm0 9 (by decide)]; exact hm
    have hs1 : sR (m1 10) q := by rw [hsm0 10 (by decide)]; exact hs
    unfold T0 at hr
    by_cases c : wntQ q p k = 0
    · rw [if_pos c]
      rw [c] at hr
      obtain ⟨hk8, h5, hb⟩ := tell_may c
      obtain ⟨k', rfl⟩ : ∃ n : Nat, k = n := ⟨k.toNat, by omega⟩
      rw [Int.toNat_natCast] at hb ⊢
      have hiff := mbr_iff (by omega) hb
      obtain ⟨b, m2, hb2, hmr, hsm2⟩ := z_MmayRefuse (N := N) (σ := gset σ 10 m1) (d + 1) hN (p := p) (q := q) (by rw [gset_at]; exact hm1) (by rw [gset_at]; exact hs1) hw hl hq
      rw [gset_gset] at hmr
      rw [gset_at] at hsm2
      have hsm02 : sm [0, 15, 16] (σ 10) m2 := sm_tr hsm0 (sm_mono hsm2 (by decide))
      rcases hb2 with ⟨rfl, hb2⟩ | ⟨rfl, hb2⟩
      · rw [if_pos (hiff.mpr hb2)]
        have hm2 : tlR (m2 9) 0 p := by rw [hsm02 9 (by decide)]; exact hm
        have ha0 := z_MasTold (N := N) (σ := gset σ 10 m2) (d + 5) hN
        rw [gset_at, gset_gset] at ha0
        have sA : sm [0, 15, 16] (σ 10) (asW m2) := sm_tr hsm02 (sm_mono (asW_sm _) (by decide))
        have u16 := as_la hw hm2
        have u15 := as_ho hw hm2
        generalize asW m2 = mA at *
        have hmA : tlR (mA 9) 0 p := by rw [sA 9 (by decide)]; exact hm
        have hsA : sR (mA 10) q := by rw [sA 10 (by decide)]; exact hs
        have hst := z_MstepsIn (N := N) (σ := gset σ 10 mA) (q := q) (d + 5) hN (by rw [gset_at]; exact hsA) q4 (n := n) (by omega)
        have h98 := q6 h5
        obtain ⟨t, ht⟩ : ∃ t : Nat, min n (99 - q 4 0) - 1 = t := ⟨(min n (99 - q 4 0) - 1).toNat, by omega⟩
        have eah : ahN q n = t := by unfold ahN; omega
        obtain ⟨m3, cc, ll, r1, r2, r3, r4, r5⟩ := z_MlookNow (N := N) (σ := σ) d hN hw hl hq hmA hsA u16 u15 (t := t) (by omega)
        rw [eah]
        obtain ⟨k1, k2, k3, k4, k5, k6⟩ := kW_f hw hq
        obtain ⟨⟨b0, b1⟩, b2, b3⟩ := q1 0 (by decide)
        obtain ⟨⟨d0, d1⟩, d2, d3⟩ := q1 1 (by decide)
        have hs3 : sR (m3 10) q := by rw [r3 10 (by decide)]; exact hsA
        have s0 : m3 10 (0 : Int).toNat = (cl (kW q) 0 : Nat) := by rw [k2]; have := hs3.1.1; show m3 10 0 = _; omega
        have s1 : m3 10 (1 : Int).toNat = (cl (kW q) 1 : Nat) := by rw [k3]; have := hs3.1.2; show m3 10 1 = _; omega
        have s2 : m3 10 (2 : Int).toNat = (lf (kW q) 0 : Nat) := by rw [k4]; have := hs3.2.1.1; show m3 10 2 = _; omega
        have s3 : m3 10 (3 : Int).toNat = (lf (kW q) 1 : Nat) := by rw [k5]; have := hs3.2.1.2; show m3 10 3 = _; omega
        have s4 : m3 10 (4 : Int).toNat = (tl (kW q) : Nat) := by rw [k6]; have := hs3.2.2.1; show m3 10 4 = _; omega
        have s4' : lkM m3 cc ll 10 (4 : Int).toNat = (tl (kW q) : Nat) := by rw [lkM_sm _ _ _ 10 (by decide)]; exact s4
        obtain ⟨w1, w2, w3⟩ := may_W hw hq
        have hlt := oS_lt (mayK p (laM p) (kW q)) 8
        have hmk : mayK p (laM p) (kW q) k' = true := by
          rw [← w1, oS_tb, Bool.and_eq_true] at hb
          exact hb.2
        have hlf : 0 < lf (kW q) (tm (kW q)) := by rw [w3]; have := hb2.1; omega
        have hV := gV_rg p (laO p) (hoO p) t
        have fc : lkM m3 cc ll 17 = cc := by unfold lkM; rw [pset_ne (by decide), pset_eq]
        have fl : lkM m3 cc ll 18 = ll := by unfold lkM; rw [pset_eq]
        have hrd : ∀ i : Nat, i < 8 → rz_ald (wOf N (gset σ 10 (lkM m3 cc ll))) (ah 10 18) 0 (zI i) = some (zI (ll i)) := by
          intro i hi
          have := r_M_18 (N := N) (σ := gset σ 10 (lkM m3 cc ll)) hN (i := (i : Int)) (by omega) (by omega)
          rw [Int.toNat_natCast, gset_at, fl] at this
          exact this
        have hmi : ∀ i, exB (mayK p (laM p) (kW q)) k' i = true → mayK p (laM p) (kW q) i = true := by
          intro i he
          unfold exB at he
          rw [Bool.and_eq_true] at he
          exact he.1
        have hbo := fun f => z_MbestOf (N := N) (σ := gset σ 10 (lkM m3 cc ll)) (d + 4) hN (x := ah 10 18) (mb := oS (mayK p (laM p) (kW q)) 8) (by omega) (but := (k' : Int)) (by omega) (R := ll) hrd (by
          intro i hi he
          rw [exB_bits _ _ i hi] at he
          rw [(r5 i hi (hmi i he)).2 hlf]
          exact dnK_rg hV _ _) f
        have hne : oS (exB (mayK p (laM p) (kW q)) k') 8 ≠ 0 := by
          have h1 := hiff.mpr hb2
          unfold mbrQ at h1
          rw [Bool.and_eq_true, Bool.and_eq_true, decide_eq_true_eq, decide_eq_true_eq, decide_eq_true_eq, ← w1, woB_ex _ (b := (k' : Int)) (by omega)] at h1
          exact h1.2.2
        obtain ⟨a1, -, -, -, -, -, a7⟩ := ld_congr (p := p) (hm := hoO p) (hm' := hoO p) (la_ld hw) (fun _ _ => rfl)
        have eref : ∀ f, wf f = wtK (kW q) → wf f * bm2 (exB (fun i => (oS (mayK p (laM p) (kW q)) 8).testBit i) k') (fun i => wf f * ll i) 8 = mostF p (laO p) (hoO p) (gV p (laO p) (hoO p) t) (lessK (kW q)) k' := by
          intro f hf
          rw [bm2_congr (S' := exB (mayK p (laM p) (kW q)) k') (f' := fun i => wtK (kW q) * dnK p (laO p) (hoO p) (gV p (laO p) (hoO p) t) (lessK (kW q)) i) (exB_bits _ _) (fun i hi he => by
            rw [exB_bits _ _ i hi] at he
            rw [hf, (r5 i hi (hmi i he)).2 hlf]) 8 (Nat.le_refl 8)]
          rw [bm2_bmx (fun i => (wmul_rg (wtK_pm (kW q)) (dnK_rg hV _ _)).1) hne, hf]
          rw [a1] at hne ⊢
          unfold mostF mostB
          rw [if_neg (by omega), exB_less (k := k') k1 hlf, if_neg hne, less_wt k1.1 hlf]
        have hmr2 := mostF_rg (p := p) (la := laO p) (hm := hoO p) hV (lessK (kW q)) k'
        have hdr := dnK_rg (p := p) (la := laO p) (hm := hoO p) hV (kW q) k'
        have ec : lkM m3 cc ll 17 ((k' : Int)).toNat = dnK p (laO p) (hoO p) (gV p (laO p) (hoO p) t) (kW q) k' := by
          rw [Int.toNat_natCast, fc]
          exact (r5 k' (by omega) hmk).1
        refine ⟨lkM m3 cc ll, ?_, sm_tr (sm_mono sA (by decide)) (sm_mono r4 (by decide))⟩
        unfold btr
        rcases tm_c (K := kW q) with ⟨t1, t2, t3⟩ | ⟨t1, t2, t3⟩
        · have hbo' := hbo false
          rw [eref false (by rw [t3]; rfl), show bN false = 0 from rfl] at hbo'
          rw [t2] at s4 s4' r2
          rw [t3]
          generalize mostF p (laO p) (hoO p) (gV p (laO p) (hoO p) t) (lessK (kW q)) k' = X at *
          generalize dnK p (laO p) (hoO p) (gV p (laO p) (hoO p) t) (kW q) k' = Y at *
          generalize lkM m3 cc ll = m4 at *
          by_cases cc2 : -1 * X < -1 * Y
          · rw [bZ_pos (by rw [decide_eq_true_eq]; exact cc2)]
            simp (disch := first | omega | exact Nat.le_of_ble_eq_true rfl) only [e_M_refuses, s_M_refuses_0, s_M_refuses_1, s_M_refuses_2, s_M_refuses_5, s_M_refuses_6, s_M_refuses_7, s_M_refuses_8, s_M_refuses_11, s_M_refuses_14, s_M_refuses_15, s_M_refuses_16, s_M_refuses_17, s_M_refuses_18, s_M_refuses_21, s_M_refuses_22, s_M_refuses_23, s_M_refuses_26, s_M_refuses_27, s_M_refuses_28, s_M_refuses_29, s_M_refuses_32, s_M_refuses_35, s_M_refuses_36, s_M_refuses_37, s_M_refuses_38, s_M_refuses_41, s_M_refuses_42, s_M_refuses_43, s_M_refuses_44, s_M_refuses_47, s_M_refuses_48, s_M_refuses_49, s_M_refuses_52, s_M_refuses_53, s_M_refuses_54, s_M_refuses_57, s_M_refuses_58, s_M_refuses_59, s_M_refuses_60, s_M_refuses_63, s_M_refuses_64, s_M_refuses_65, s_M_refuses_66, s_M_refuses_69, s_M_refuses_70, s_M_refuses_71, s_M_refuses_72, s_M_refuses_75, s_M_refuses_76, s_M_refuses_77, s_M_refuses_78, s_M_refuses_81, s_M_refuses_82, s_M_refuses_83, s_M_refuses_86, s_M_refuses_88, s_M_refuses_89, s_M_refuses_90, s_M_refuses_93, s_M_refuses_95, s_M_refuses_96, s_M_refuses_97, s_M_refuses_100, s_M_refuses_101, s_M_refuses_102, s_M_refuses_105, s_M_refuses_106, s_M_refuses_109, s_M_refuses_110, s_M_refuses_113, s_M_refuses_115, s_M_refuses_116, s_M_refuses_119, s_M_refuses_120, s_M_refuses_121, s_M_refuses_124, s_M_refuses_126, s_M_refuses_127, s_M_refuses_130, s_M_refuses_131, s_M_refuses_132, s_M_refuses_135, s_M_refuses_138, s_M_refuses_140, s_M_refuses_141, s_M_refuses_144, s_M_refuses_145, s_M_refuses_146, s_M_refuses_149, s_M_refuses_150, s_M_refuses_153, s_M_refuses_154, Option.bind_some, Option.bind_none, Option.toList_some, Option.toList_none, List.cons_append, List.nil_append, if_true, if_false, rz_clr, true_or, or_true, z00, z11, bZ_eq0, bZ_eq1, nor_self, if_pos, if_neg, zI_add, zI_sub, zI_mul, zI_neg, zI_lt, zI_le, zI_eq, c_M, f_M_0, u_M_0, f_M_1, u_M_1, f_M_2, l_M_2, r_M_2, w_M_2, f_M_3, u_M_3, f_M_4, u_M_4, f_M_5, u_M_5, f_M_6, u_M_6, f_M_7, u_M_7, f_M_8, u_M_8, f_M_9, l_M_9, r_M_9, w_M_9, f_M_10, l_M_10, r_M_10, w_M_10, f_M_11, l_M_11, r_M_11, w_M_11, f_M_12, l_M_12, r_M_12, w_M_12, f_M_13, l_M_13, r_M_13, w_M_13, f_M_14, l_M_14, r_M_14, w_M_14, f_M_15, l_M_15, r_M_15, w_M_15, f_M_16, l_M_16, r_M_16, w_M_16, f_M_17, l_M_17, r_M_17, w_M_17, f_M_18, l_M_18, r_M_18, w_M_18, sset_eq, gset_at, gset_gset, gset_ne, pset_eq, pset_ne, z_Min, bZ_pos cn, hr, hmr, ha0, hst, ht, r1, s0, s1, s2, s3, s4, r2, s4', hbo', ec]
          · rw [bZ_neg (by rw [decide_eq_true_eq]; exact cc2)]
            simp (disch := first | omega | exact Nat.le_of_ble_eq_true rfl) only [e_M_refuses, s_M_refuses_0, s_M_refuses_1, s_M_refuses_2, s_M_refuses_5, s_M_refuses_6, s_M_refuses_7, s_M_refuses_8, s_M_refuses_11, s_M_refuses_14, s_M_refuses_15, s_M_refuses_16, s_M_refuses_17, s_M_refuses_18, s_M_refuses_21, s_M_refuses_22, s_M_refuses_23, s_M_refuses_26, s_M_refuses_27, s_M_refuses_28, s_M_refuses_29, s_M_refuses_32, s_M_refuses_35, s_M_refuses_36, s_M_refuses_37, s_M_refuses_38, s_M_refuses_41, s_M_refuses_42, s_M_refuses_43, s_M_refuses_44, s_M_refuses_47, s_M_refuses_48, s_M_refuses_49, s_M_refuses_52, s_M_refuses_53, s_M_refuses_54, s_M_refuses_57, s_M_refuses_58, s_M_refuses_59, s_M_refuses_60, s_M_refuses_63, s_M_refuses_64, s_M_refuses_65, s_M_refuses_66, s_M_refuses_69, s_M_refuses_70, s_M_refuses_71, s_M_refuses_72, s_M_refuses_75, s_M_refuses_76, s_M_refuses_77, s_M_refuses_78, s_M_refuses_81, s_M_refuses_82, s_M_refuses_83, s_M_refuses_86, s_M_refuses_88, s_M_refuses_89, s_M_refuses_90, s_M_refuses_93, s_M_refuses_95, s_M_refuses_96, s_M_refuses_97, s_M_refuses_100, s_M_refuses_101, s_M_refuses_102, s_M_refuses_105, s_M_refuses_106, s_M_refuses_109, s_M_refuses_110, s_M_refuses_113, s_M_refuses_115, s_M_refuses_116, s_M_refuses_119, s_M_refuses_120, s_M_refuses_121, s_M_refuses_124, s_M_refuses_126, s_M_refuses_127, s_M_refuses_130, s_M_refuses_131, s_M_refuses_132, s_M_refuses_135, s_M_refuses_138, s_M_refuses_140, s_M_refuses_141, s_M_refuses_144, s_M_refuses_145, s_M_refuses_146, s_M_refuses_149, s_M_refuses_150, s_M_refuses_153, s_M_refuses_154, Option.bind_some, Option.bind_none, Option.toList_some, Option.toList_none, List.cons_append, List.nil_append, if_true, if_false, rz_clr, true_or, or_true, z00, z11, bZ_eq0, bZ_eq1, nor_self, if_pos, if_neg, zI_add, zI_sub, zI_mul, zI_neg, zI_lt, zI_le, zI_eq, c_M, f_M_0, u_M_0, f_M_1, u_M_1, f_M_2, l_M_2, r_M_2, w_M_2, f_M_3, u_M_3, f_M_4, u_M_4, f_M_5, u_M_5, f_M_6, u_M_6, f_M_7, u_M_7, f_M_8, u_M_8, f_M_9, l_M_9, r_M_9, w_M_9, f_M_10, l_M_10, r_M_10, w_M_10, f_M_11, l_M_11, r_M_11, w_M_11, f_M_12, l_M_12, r_M_12, w_M_12, f_M_13, l_M_13, r_M_13, w_M_13, f_M_14, l_M_14, r_M_14, w_M_14, f_M_15, l_M_15, r_M_15, w_M_15, f_M_16, l_M_16, r_M_16, w_M_16, f_M_17, l_M_17, r_M_17, w_M_17, f_M_18, l_M_18, r_M_18, w_M_18, sset_eq, gset_at, gset_gset, gset_ne, pset_eq, pset_ne, z_Min, bZ_pos cn, hr, hmr, ha0, hst, ht, r1, s0, s1, s2, s3, s4, r2, s4', hbo', ec]
        · have hbo' := hbo true
          rw [eref true (by rw [t3]; rfl), show bN true = 1 from rfl] at hbo'
          rw [t2] at s4 s4' r2
          rw [t3]
          generalize mostF p (laO p) (hoO p) (gV p (laO p) (hoO p) t) (lessK (kW q)) k' = X at *
          generalize dnK p (laO p) (hoO p) (gV p (laO p) (hoO p) t) (kW q) k' = Y at *
          generalize lkM m3 cc ll = m4 at *
          by_cases cc2 : 1 * X < 1 * Y
          · rw [bZ_pos (by rw [decide_eq_true_eq]; exact cc2)]
            simp (disch := first | omega | exact Nat.le_of_ble_eq_true rfl) only [e_M_refuses, s_M_refuses_0, s_M_refuses_1, s_M_refuses_2, s_M_refuses_5, s_M_refuses_6, s_M_refuses_7, s_M_refuses_8, s_M_refuses_11, s_M_refuses_14, s_M_refuses_15, s_M_refuses_16, s_M_refuses_17, s_M_refuses_18, s_M_refuses_21, s_M_refuses_22, s_M_refuses_23, s_M_refuses_26, s_M_refuses_27, s_M_refuses_28, s_M_refuses_29, s_M_refuses_32, s_M_refuses_35, s_M_refuses_36, s_M_refuses_37, s_M_refuses_38, s_M_refuses_41, s_M_refuses_42, s_M_refuses_43, s_M_refuses_44, s_M_refuses_47, s_M_refuses_48, s_M_refuses_49, s_M_refuses_52, s_M_refuses_53, s_M_refuses_54, s_M_refuses_57, s_M_refuses_58, s_M_refuses_59, s_M_refuses_60, s_M_refuses_63, s_M_refuses_64, s_M_refuses_65, s_M_refuses_66, s_M_refuses_69, s_M_refuses_70, s_M_refuses_71, s_M_refuses_72, s_M_refuses_75, s_M_refuses_76, s_M_refuses_77, s_M_refuses_78, s_M_refuses_81, s_M_refuses_82, s_M_refuses_83, s_M_refuses_86, s_M_refuses_88, s_M_refuses_89, s_M_refuses_90, s_M_refuses_93, s_M_refuses_95, s_M_refuses_96, s_M_refuses_97, s_M_refuses_100, s_M_refuses_101, s_M_refuses_102, s_M_refuses_105, s_M_refuses_106, s_M_refuses_109, s_M_refuses_110, s_M_refuses_113, s_M_refuses_115, s_M_refuses_116, s_M_refuses_119, s_M_refuses_120, s_M_refuses_121, s_M_refuses_124, s_M_refuses_126, s_M_refuses_127, s_M_refuses_130, s_M_refuses_131, s_M_refuses_132, s_M_refuses_135, s_M_refuses_138, s_M_refuses_140, s_M_refuses_141, s_M_refuses_144, s_M_refuses_145, s_M_refuses_146, s_M_refuses_149, s_M_refuses_150, s_M_refuses_153, s_M_refuses_154, Option.bind_some, Option.bind_none, Option.toList_some, Option.toList_none, List.cons_append, List.nil_append, if_true, if_false, rz_clr, true_or, or_true, z00, z11, bZ_eq0, bZ_eq1, nor_self, if_pos, if_neg, zI_add, zI_sub, zI_mul, zI_neg, zI_lt, zI_le, zI_eq, c_M, f_M_0, u_M_0, f_M_1, u_M_1, f_M_2, l_M_2, r_M_2, w_M_2, f_M_3, u_M_3, f_M_4, u_M_4, f_M_5, u_M_5, f_M_6, u_M_6, f_M_7, u_M_7, f_M_8, u_M_8, f_M_9, l_M_9, r_M_9, w_M_9, f_M_10, l_M_10, r_M_10, w_M_10, f_M_11, l_M_11, r_M_11, w_M_11, f_M_12, l_M_12, r_M_12, w_M_12, f_M_13, l_M_13, r_M_13, w_M_13, f_M_14, l_M_14, r_M_14, w_M_14, f_M_15, l_M_15, r_M_15, w_M_15, f_M_16, l_M_16, r_M_16, w_M_16, f_M_17, l_M_17, r_M_17, w_M_17, f_M_18, l_M_18, r_M_18, w_M_18, sset_eq, gset_at, gset_gset, gset_ne, pset_eq, pset_ne, z_Min, bZ_pos cn, hr, hmr, ha0, hst, ht, r1, s0, s1, s2, s3, s4, r2, s4', hbo', ec]
          · rw [bZ_neg (by rw [decide_eq_true_eq]; exact cc2)]
            simp (disch := first | omega | exact Nat.le_of_ble_eq_true rfl) only [e_M_refuses, s_M_refuses_0, s_M_refuses_1, s_M_refuses_2, s_M_refuses_5, s_M_refuses_6, s_M_refuses_7, s_M_refuses_8, s_M_refuses_11, s_M_refuses_14, s_M_refuses_15, s_M_refuses_16, s_M_refuses_17, s_M_refuses_18, s_M_refuses_21, s_M_refuses_22, s_M_refuses_23, s_M_refuses_26, s_M_refuses_27, s_M_refuses_28, s_M_refuses_29, s_M_refuses_32, s_M_refuses_35, s_M_refuses_36, s_M_refuses_37, s_M_refuses_38, s_M_refuses_41, s_M_refuses_42, s_M_refuses_43, s_M_refuses_44, s_M_refuses_47, s_M_refuses_48, s_M_refuses_49, s_M_refuses_52, s_M_refuses_53, s_M_refuses_54, s_M_refuses_57, s_M_refuses_58, s_M_refuses_59, s_M_refuses_60, s_M_refuses_63, s_M_refuses_64, s_M_refuses_65, s_M_refuses_66, s_M_refuses_69, s_M_refuses_70, s_M_refuses_71, s_M_refuses_72, s_M_refuses_75, s_M_refuses_76, s_M_refuses_77, s_M_refuses_78, s_M_refuses_81, s_M_refuses_82, s_M_refuses_83, s_M_refuses_86, s_M_refuses_88, s_M_refuses_89, s_M_refuses_90, s_M_refuses_93, s_M_refuses_95, s_M_refuses_96, s_M_refuses_97, s_M_refuses_100, s_M_refuses_101, s_M_refuses_102, s_M_refuses_105, s_M_refuses_106, s_M_refuses_109, s_M_refuses_110, s_M_refuses_113, s_M_refuses_115, s_M_refuses_116, s_M_refuses_119, s_M_refuses_120, s_M_refuses_121, s_M_refuses_124, s_M_refuses_126, s_M_refuses_127, s_M_refuses_130, s_M_refuses_131, s_M_refuses_132, s_M_refuses_135, s_M_refuses_138, s_M_refuses_140, s_M_refuses_141, s_M_refuses_144, s_M_refuses_145, s_M_refuses_146, s_M_refuses_149, s_M_refuses_150, s_M_refuses_153, s_M_refuses_154, Option.bind_some, Option.bind_none, Option.toList_some, Option.toList_none, List.cons_append, List.nil_append, if_true, if_false, rz_clr, true_or, or_true, z00, z11, bZ_eq0, bZ_eq1, nor_self, if_pos, if_neg, zI_add, zI_sub, zI_mul, zI_neg, zI_lt, zI_le, zI_eq, c_M, f_M_0, u_M_0, f_M_1, u_M_1, f_M_2, l_M_2, r_M_2, w_M_2, f_M_3, u_M_3, f_M_4, u_M_4, f_M_5, u_M_5, f_M_6, u_M_6, f_M_7, u_M_7, f_M_8, u_M_8, f_M_9, l_M_9, r_M_9, w_M_9, f_M_10, l_M_10, r_M_10, w_M_10, f_M_11, l_M_11, r_M_11, w_M_11, f_M_12, l_M_12, r_M_12, w_M_12, f_M_13, l_M_13, r_M_13, w_M_13, f_M_14, l_M_14, r_M_14, w_M_14, f_M_15, l_M_15, r_M_15, w_M_15, f_M_16, l_M_16, r_M_16, w_M_16, f_M_17, l_M_17, r_M_17, w_M_17, f_M_18, l_M_18, r_M_18, w_M_18, sset_eq, gset_at, gset_gset, gset_ne, pset_eq, pset_ne, z_Min, bZ_pos cn, hr, hmr, ha0, hst, ht, r1, s0, s1, s2, s3, s4, r2, s4', hbo', ec]
      · rw [if_neg (fun z => hb2 (hiff.mp z))]
        refine ⟨m2, ?_, sm_mono hsm02 (by decide)⟩
        simp (disch := first | omega | exact Nat.le_of_ble_eq_true rfl) only [e_M_refuses, s_M_refuses_0, s_M_refuses_1, s_M_refuses_2, s_M_refuses_5, s_M_refuses_6, s_M_refuses_7, s_M_refuses_8, s_M_refuses_11, s_M_refuses_14, s_M_refuses_15, s_M_refuses_16, s_M_refuses_17, s_M_refuses_18, s_M_refuses_21, s_M_refuses_22, s_M_refuses_23, s_M_refuses_26, s_M_refuses_27, s_M_refuses_28, s_M_refuses_29, s_M_refuses_32, s_M_refuses_35, s_M_refuses_36, s_M_refuses_37, s_M_refuses_38, s_M_refuses_41, s_M_refuses_42, s_M_refuses_43, s_M_refuses_44, s_M_refuses_47, s_M_refuses_48, s_M_refuses_49, s_M_refuses_52, s_M_refuses_53, s_M_refuses_54, s_M_refuses_57, s_M_refuses_58, s_M_refuses_59, s_M_refuses_60, s_M_refuses_63, s_M_refuses_64, s_M_refuses_65, s_M_refuses_66, s_M_refuses_69, s_M_refuses_70, s_M_refuses_71, s_M_refuses_72, s_M_refuses_75, s_M_refuses_76, s_M_refuses_77, s_M_refuses_78, s_M_refuses_81, s_M_refuses_82, s_M_refuses_83, s_M_refuses_86, s_M_refuses_88, s_M_refuses_89, s_M_refuses_90, s_M_refuses_93, s_M_refuses_95, s_M_refuses_96, s_M_refuses_97, s_M_refuses_100, s_M_refuses_101, s_M_refuses_102, s_M_refuses_105, s_M_refuses_106, s_M_refuses_109, s_M_refuses_110, s_M_refuses_113, s_M_refuses_115, s_M_refuses_116, s_M_refuses_119, s_M_refuses_120, s_M_refuses_121, s_M_refuses_124, s_M_refuses_126, s_M_refuses_127, s_M_refuses_130, s_M_refuses_131, s_M_refuses_132, s_M_refuses_135, s_M_refuses_138, s_M_refuses_140, s_M_refuses_141, s_M_refuses_144, s_M_refuses_145, s_M_refuses_146, s_M_refuses_149, s_M_refuses_150, s_M_refuses_153, s_M_refuses_154, Option.bind_some, Option.bind_none, Option.toList_some, Option.toList_none, List.cons_append, List.nil_append, if_true, if_false, rz_clr, true_or, or_true, z00, z11, bZ_eq0, bZ_eq1, nor_self, if_pos, if_neg, zI_add, zI_sub, zI_mul, zI_neg, zI_lt, zI_le, zI_eq, c_M, f_M_0, u_M_0, f_M_1, u_M_1, f_M_2, l_M_2, r_M_2, w_M_2, f_M_3, u_M_3, f_M_4, u_M_4, f_M_5, u_M_5, f_M_6, u_M_6, f_M_7, u_M_7, f_M_8, u_M_8, f_M_9, l_M_9, r_M_9, w_M_9, f_M_10, l_M_10, r_M_10, w_M_10, f_M_11, l_M_11, r_M_11, w_M_11, f_M_12, l_M_12, r_M_12, w_M_12, f_M_13, l_M_13, r_M_13, w_M_13, f_M_14, l_M_14, r_M_14, w_M_14, f_M_15, l_M_15, r_M_15, w_M_15, f_M_16, l_M_16, r_M_16, w_M_16, f_M_17, l_M_17, r_M_17, w_M_17, f_M_18, l_M_18, r_M_18, w_M_18, sset_eq, gset_at, gset_gset, gset_ne, pset_eq, pset_ne, z_Min, bZ_pos cn, hr, hmr]
    · rw [if_neg c]
      refine ⟨m1, ?_, sm_mono hsm0 (by decide)⟩
      have hr9 := wntQ_rg q p k
      simp (disch := first | omega | exact Nat.le_of_ble_eq_true rfl) only [e_M_refuses, s_M_refuses_0, s_M_refuses_1, s_M_refuses_2, s_M_refuses_5, s_M_refuses_6, s_M_refuses_7, s_M_refuses_8, s_M_refuses_11, s_M_refuses_14, s_M_refuses_15, s_M_refuses_16, s_M_refuses_17, s_M_refuses_18, s_M_refuses_21, s_M_refuses_22, s_M_refuses_23, s_M_refuses_26, s_M_refuses_27, s_M_refuses_28, s_M_refuses_29, s_M_refuses_32, s_M_refuses_35, s_M_refuses_36, s_M_refuses_37, s_M_refuses_38, s_M_refuses_41, s_M_refuses_42, s_M_refuses_43, s_M_refuses_44, s_M_refuses_47, s_M_refuses_48, s_M_refuses_49, s_M_refuses_52, s_M_refuses_53, s_M_refuses_54, s_M_refuses_57, s_M_refuses_58, s_M_refuses_59, s_M_refuses_60, s_M_refuses_63, s_M_refuses_64, s_M_refuses_65, s_M_refuses_66, s_M_refuses_69, s_M_refuses_70, s_M_refuses_71, s_M_refuses_72, s_M_refuses_75, s_M_refuses_76, s_M_refuses_77, s_M_refuses_78, s_M_refuses_81, s_M_refuses_82, s_M_refuses_83, s_M_refuses_86, s_M_refuses_88, s_M_refuses_89, s_M_refuses_90, s_M_refuses_93, s_M_refuses_95, s_M_refuses_96, s_M_refuses_97, s_M_refuses_100, s_M_refuses_101, s_M_refuses_102, s_M_refuses_105, s_M_refuses_106, s_M_refuses_109, s_M_refuses_110, s_M_refuses_113, s_M_refuses_115, s_M_refuses_116, s_M_refuses_119, s_M_refuses_120, s_M_refuses_121, s_M_refuses_124, s_M_refuses_126, s_M_refuses_127, s_M_refuses_130, s_M_refuses_131, s_M_refuses_132, s_M_refuses_135, s_M_refuses_138, s_M_refuses_140, s_M_refuses_141, s_M_refuses_144, s_M_refuses_145, s_M_refuses_146, s_M_refuses_149, s_M_refuses_150, s_M_refuses_153, s_M_refuses_154, Option.bind_some, Option.bind_none, Option.toList_some, Option.toList_none, List.cons_append, List.nil_append, if_true, if_false, rz_clr, true_or, or_true, z00, z11, bZ_eq0, bZ_eq1, nor_self, if_pos, if_neg, zI_add, zI_sub, zI_mul, zI_neg, zI_lt, zI_le, zI_eq, c_M, f_M_0, u_M_0, f_M_1, u_M_1, f_M_2, l_M_2, r_M_2, w_M_2, f_M_3, u_M_3, f_M_4, u_M_4, f_M_5, u_M_5, f_M_6, u_M_6, f_M_7, u_M_7, f_M_8, u_M_8, f_M_9, l_M_9, r_M_9, w_M_9, f_M_10, l_M_10, r_M_10, w_M_10, f_M_11, l_M_11, r_M_11, w_M_11, f_M_12, l_M_12, r_M_12, w_M_12, f_M_13, l_M_13, r_M_13, w_M_13, f_M_14, l_M_14, r_M_14, w_M_14, f_M_15, l_M_15, r_M_15, w_M_15, f_M_16, l_M_16, r_M_16, w_M_16, f_M_17, l_M_17, r_M_17, w_M_17, f_M_18, l_M_18, r_M_18, w_M_18, sset_eq, gset_at, gset_gset, gset_ne, pset_eq, pset_ne, z_Min, bZ_pos cn, hr]
  · rw [if_neg cn]
    refine ⟨T0 (σ 10), ?_, sm_mono (T0_sm _) (by decide)⟩
    unfold T0
    simp (disch := first | omega | exact Nat.le_of_ble_eq_true rfl) only [e_M_refuses, s_M_refuses_0, s_M_refuses_1, s_M_refuses_2, s_M_refuses_5, s_M_refuses_6, s_M_refuses_7, s_M_refuses_8, s_M_refuses_11, s_M_refuses_14, s_M_refuses_15, s_M_refuses_16, s_M_refuses_17, s_M_refuses_18, s_M_refuses_21, s_M_refuses_22, s_M_refuses_23, s_M_refuses_26, s_M_refuses_27, s_M_refuses_28, s_M_refuses_29, s_M_refuses_32, s_M_refuses_35, s_M_refuses_36, s_M_refuses_37, s_M_refuses_38, s_M_refuses_41, s_M_refuses_42, s_M_refuses_43, s_M_refuses_44, s_M_refuses_47, s_M_refuses_48, s_M_refuses_49, s_M_refuses_52, s_M_refuses_53, s_M_refuses_54, s_M_refuses_57, s_M_refuses_58, s_M_refuses_59, s_M_refuses_60, s_M_refuses_63, s_M_refuses_64, s_M_refuses_65, s_M_refuses_66, s_M_refuses_69, s_M_refuses_70, s_M_refuses_71, s_M_refuses_72, s_M_refuses_75, s_M_refuses_76, s_M_refuses_77, s_M_refuses_78, s_M_refuses_81, s_M_refuses_82, s_M_refuses_83, s_M_refuses_86, s_M_refuses_88, s_M_refuses_89, s_M_refuses_90, s_M_refuses_93, s_M_refuses_95, s_M_refuses_96, s_M_refuses_97, s_M_refuses_100, s_M_refuses_101, s_M_refuses_102, s_M_refuses_105, s_M_refuses_106, s_M_refuses_109, s_M_refuses_110, s_M_refuses_113, s_M_refuses_115, s_M_refuses_116, s_M_refuses_119, s_M_refuses_120, s_M_refuses_121, s_M_refuses_124, s_M_refuses_126, s_M_refuses_127, s_M_refuses_130, s_M_refuses_131, s_M_refuses_132, s_M_refuses_135, s_M_refuses_138, s_M_refuses_140, s_M_refuses_141, s_M_refuses_144, s_M_refuses_145, s_M_refuses_146, s_M_refuses_149, s_M_refuses_150, s_M_refuses_153, s_M_refuses_154, Option.bind_some, Option.bind_none, Option.toList_some, Option.toList_none, List.cons_append, List.nil_append, if_true, if_false, rz_clr, true_or, or_true, z00, z11, bZ_eq0, bZ_eq1, nor_self, if_pos, if_neg, zI_add, zI_sub, zI_mul, zI_neg, zI_lt, zI_le, zI_eq, c_M, f_M_0, u_M_0, f_M_1, u_M_1, f_M_2, l_M_2, r_M_2, w_M_2, f_M_3, u_M_3, f_M_4, u_M_4, f_M_5, u_M_5, f_M_6, u_M_6, f_M_7, u_M_7, f_M_8, u_M_8, f_M_9, l_M_9, r_M_9, w_M_9, f_M_10, l_M_10, r_M_10, w_M_10, f_M_11, l_M_11, r_M_11, w_M_11, f_M_12, l_M_12, r_M_12, w_M_12, f_M_13, l_M_13, r_M_13, w_M_13, f_M_14, l_M_14, r_M_14, w_M_14, f_M_15, l_M_15, r_M_15, w_M_15, f_M_16, l_M_16, r_M_16, w_M_16, f_M_17, l_M_17, r_M_17, w_M_17, f_M_18, l_M_18, r_M_18, w_M_18, sset_eq, gset_at, gset_gset, gset_ne, pset_eq, pset_ne, z_Min, bZ_neg cn]
end MV1
