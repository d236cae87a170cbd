-- the model: told, refused, passed
section ME
variable {N : Nat} {σ : zS} {p q : zP}
theorem tell_may {k : Int} (h : wntQ q p k = 0) : (0 ≤ k ∧ k < 8) ∧ q 5 0 = 0 ∧ (mayW q p (1 - q 2 0)).testBit k.toNat = true := by
  unfold wntQ at h
  by_cases a1 : 0 ≤ k ∧ k < 8
  · rw [if_pos a1] at h
    by_cases a2 : q 5 0 = 0
    · rw [if_pos a2] at h
      by_cases a3 : k = q 3 0
      · rw [if_pos a3] at h; omega
      · rw [if_neg a3] at h
        by_cases a4 : (mayW q p (1 - q 2 0)).testBit k.toNat = true
        · exact ⟨a1, a2, a4⟩
        · rw [if_neg a4] at h; omega
    · rw [if_neg a2] at h; omega
  · rw [if_neg a1] at h; omega
theorem may_to {k : Nat} (h : (mayW q p (1 - q 2 0)).testBit k = true) : stepTo q p k ≠ -9 := by
  unfold mayW mayP at h
  rw [oS_tb] at h
  unfold mayF at h
  unfold stepTo
  intro e
  rw [e] at h
  simp at h
/-- the model's step: its row of the walk before it counts -/
def tSt (t : Nat → Int) (q p : zP) (to : Int) : Nat → Int :=
  if p 0 to.toNat = 1 then zup (zup t (1 - q 2 0).toNat to) 6 (if 1 - q 2 0 = 0 then 2 else 1)
  else if to = p 5 (1 - q 2 0).toNat then zup (zup t (1 - q 2 0).toNat to) 6 (if 1 - q 2 0 = 0 then 1 else 2)
  else zup (zup t (1 - q 2 0).toNat to) 4 (if p 0 to.toNat = 2 then q 2 0 else 1 - q 2 0)
theorem sR_step {t : Nat → Int} (hs : sR t q) (h2 : q 2 0 = 0 ∨ q 2 0 = 1) (to : Int) : sR (tSt t q p to) (stepQ q p to) := by
  obtain ⟨⟨r0, r1⟩, r2, r3, r4, r5, r6, r7⟩ := hs
  unfold tSt
  by_cases c1 : p 0 to.toNat = 1
  · have hf : ftP p to (p 5 (1 - q 2 0).toNat) = 3 := by unfold ftP; rw [if_pos c1]
    have hq : stepQ q p to = pset (pset q 0 (zup (q 0) (1 - q 2 0).toNat to)) 5 (fun _ => if 1 - q 2 0 = 0 then 2 else 1) := by unfold stepQ; rw [if_pos hf]
    rw [if_pos c1, hq]
    rcases h2 with e | e
    · rw [e]; rw [e] at r3; exact ⟨⟨r0, rfl⟩, r2, r3.trans e.symm, r4, rfl, r6, r7⟩
    · rw [e]; rw [e] at r3; exact ⟨⟨rfl, r1⟩, r2, r3.trans e.symm, r4, rfl, r6, r7⟩
  · rw [if_neg c1]
    by_cases c2 : to = p 5 (1 - q 2 0).toNat
    · have hf : ftP p to (p 5 (1 - q 2 0).toNat) = 2 := by unfold ftP; rw [if_neg c1, if_pos c2]
      have hq : stepQ q p to = pset (pset q 0 (zup (q 0) (1 - q 2 0).toNat to)) 5 (fun _ => if 1 - q 2 0 = 0 then 1 else 2) := by unfold stepQ; rw [if_neg (by rw [hf]; decide), if_pos hf]
      rw [if_pos c2, hq]
      rcases h2 with e | e
      · rw [e]; rw [e] at r3; exact ⟨⟨r0, rfl⟩, r2, r3.trans e.symm, r4, rfl, r6, r7⟩
      · rw [e]; rw [e] at r3; exact ⟨⟨rfl, r1⟩, r2, r3.trans e.symm, r4, rfl, r6, r7⟩
    · rw [if_neg c2]
      by_cases c3 : p 0 to.toNat = 2
      · have hf : ftP p to (p 5 (1 - q 2 0).toNat) = 1 := by unfold ftP; rw [if_neg c1, if_neg c2, if_pos c3]
        have hq : stepQ q p to = pset q 0 (zup (q 0) (1 - q 2 0).toNat to) := by unfold stepQ; rw [if_neg (by rw [hf]; decide), if_neg (by rw [hf]; decide), if_neg (by rw [hf]; decide)]
        rw [if_pos c3, hq]
        rcases h2 with e | e
        · rw [e]; exact ⟨⟨r0, rfl⟩, r2, e.symm, r4, r5, r6, r7⟩
        · rw [e]; exact ⟨⟨rfl, r1⟩, r2, e.symm, r4, r5, r6, r7⟩
      · have hf : ftP p to (p 5 (1 - q 2 0).toNat) = 0 := by unfold ftP; rw [if_neg c1, if_neg c2, if_neg c3]
        have hq : stepQ q p to = pset (pset q 0 (zup (q 0) (1 - q 2 0).toNat to)) 2 (fun _ => 1 - q 2 0) := by unfold stepQ; rw [if_neg (by rw [hf]; decide), if_neg (by rw [hf]; decide), if_pos hf]
        rw [if_neg c3, hq]
        rcases h2 with e | e
        · rw [e]; exact ⟨⟨r0, rfl⟩, r2, rfl, r4, r5, r6, r7⟩
        · rw [e]; exact ⟨⟨rfl, r1⟩, r2, rfl, r4, r5, r6, r7⟩
theorem stepQ_45 (q p : zP) (to : Int) (h5 : 0 ≤ q 5 0 ∧ q 5 0 ≤ 3) : stepQ q p to 4 0 = q 4 0 ∧ (0 ≤ stepQ q p to 5 0 ∧ stepQ q p to 5 0 ≤ 3) := by
  unfold stepQ
  split
  · refine ⟨by rw [pset_ne (by decide), pset_ne (by decide)], ?_⟩
    rw [pset_eq]; split <;> omega
  · split
    · refine ⟨by rw [pset_ne (by decide), pset_ne (by decide)], ?_⟩
      rw [pset_eq]; split <;> omega
    · split
      · exact ⟨by rw [pset_ne (by decide), pset_ne (by decide)], by rw [pset_ne (by decide), pset_ne (by decide)]; exact h5⟩
      · exact ⟨by rw [pset_ne (by decide)], by rw [pset_ne (by decide)]; exact h5⟩
theorem z_Mtell (d : Nat) (hN : 60 ≤ N) (hm : tlR (σ 10 9) 0 p) (hs : sR (σ 10 10) q) (hw : wfP p) (hl : lkP p) (hq : wfW q p) {k : Int} (hk : rg k) : ∃ m', rz_dM (d + 7) iM_tell [.ref (bs 10), .int (zI k)] (wOf N σ) = some (some (.int (zI (tellA q p k).1)), wOf N (gset σ 10 m')) ∧ sm [0, 10, 15, 16] (σ 10) m' ∧ sR (m' 10) (tellA q p k).2 := by
  obtain ⟨q1, q2, q3, q4, q5, q6⟩ := id hq
  have ha := wfP_area hw
  obtain ⟨⟨w1, w2, w3, w4, w5, w6⟩, wc, -, -⟩ := id hw
  have e1 : (gset σ 10 (T0 (σ 10))) 10 = T0 (σ 10) := gset_at _ _ _
  obtain ⟨m1, hr, hsm⟩ := z_Mrefusal (N := N) (σ := gset σ 10 (T0 (σ 10))) d hN (p := p) (q := q) (by rw [e1]; exact hm) (by rw [e1]; exact hs) hw hl hq hk
  rw [e1] at hsm
  rw [gset_gset] at hr
  have hsm0 : sm [0, 15, 16] (σ 10) m1 := sm_tr (sm_mono (T0_sm _) (by decide)) (sm_mono hsm (by decide))
  have hm1 : tlR (m1 9) 0 p := by rw [hsm0 9 (by decide)]; exact hm
  have hs1 : sR (m1 10) q := by rw [hsm0 10 (by decide)]; exact hs
  unfold tellA
  by_cases c : wntQ q p k = 0
  · rw [if_pos c]
    rw [c] at hr
    obtain ⟨hk8, h5, hb⟩ := tell_may c
    obtain ⟨k', rfl⟩ : ∃ n : Nat, k = n := ⟨k.toNat, by omega⟩
    rw [Int.toNat_natCast] at hb ⊢
    have hto := may_to hb
    have hmm : 0 ≤ 1 - q 2 0 ∧ 1 - q 2 0 < 2 := by omega
    obtain ⟨u, hu, hu3⟩ := use_nat hw hmm
    have hq0 := (q1 (1 - q 2 0).toNat (by omega)).1
    obtain ⟨own, ho⟩ : ∃ n : Nat, q 0 (1 - q 2 0).toNat = n := ⟨(q 0 (1 - q 2 0).toNat).toNat, by omega⟩
    have hld := z_Mleads (N := N) (σ := gset σ 10 m1) (d + 4) hN (p := p) (by rw [gset_at]; exact hm1) hw hl (l := u) (c := own) (k := k') hu3 (by omega) (by omega)
    have est : ldP p u own k' = stepTo q p k' := by
      unfold stepTo
      rw [ldP_law hw hmm, hu, ho]
    rw [est] at hld
    have hrg := ldP_rg hw hl (l := u) (c := own) (by omega) (k := k') (by omega)
    rw [est] at hrg
    unfold stepW
    rw [if_neg hto]
    generalize stepTo q p k' = to at *
    have htr : 0 ≤ to ∧ to < p 8 0 * p 9 0 := by omega
    have hkc := wc to.toNat (by omega)
    obtain ⟨g4, g5⟩ := stepQ_45 q p to q5
    have hcn := z_Mcounts (N := N) (σ := gset σ 10 (pset m1 10 (tSt (m1 10) q p to))) (q := stepQ q p to) (d + 5) hN (by rw [gset_at, pset_eq]; exact sR_step hs1 q2 to) (by rw [g4]; have := q6 h5; omega) g5
    obtain ⟨t, hc1, hc2⟩ := hcn
    rw [gset_at, gset_gset, pset_pset] at hc1
    refine ⟨pset m1 10 t, ?_, sm_pset (sm_mono hsm0 (by decide)) (by decide), by rw [pset_eq]; exact hc2⟩
    have f4 := sR_4 hs1
    have f0 := sR_0 hs1 hmm
    have fh := tl_5 hm1 hmm
    have fu := tl_6 hm1 hmm
    have fr := sR_6 hc2
    have fc := tl_cell hm1 (i := 3 + to) (by omega)
    rw [show 3 + to - 3 = to by omega] at fc
    rw [ho] at f0
    rw [hu] at fu
    have z1 : ∀ f : Nat → Int, zup f (1 - q 2 0).toNat to (1 - q 2 0).toNat = to := fun f => zup_eq _ _ _
    have z4 : zup (m1 10) (1 - q 2 0).toNat to (4 : Int).toNat = q 2 0 := by
      rw [zup_ne (by
        have : (4 : Int).toNat = 4 := rfl
        omega)]
      exact f4
    have hm2 : 1 - q 2 0 = 0 ∨ 1 - q 2 0 = 1 := by omega
    unfold T0 at hr
    unfold tSt at hc1
    by_cases c1 : p 0 to.toNat = 1
    · rw [if_pos c1] at hc1
      have hc1' : rz_dM (d + 6) iM_counts [.ref (bs 10)] (wOf N (gset σ 10 (pset m1 10 (zup (zup (m1 10) (1 - q 2 0).toNat to) (6 : Int).toNat (if 1 - q 2 0 = 0 then 2 else 1))))) = some (none, wOf N (gset σ 10 (pset m1 10 t))) := hc1
      by_cases c2 : 1 - q 2 0 = 0
      · rw [if_pos c2] at hc1'
        simp (disch := first | omega | exact Nat.le_of_ble_eq_true rfl) only [e_M_tell, s_M_tell_0, s_M_tell_1, s_M_tell_2, s_M_tell_5, s_M_tell_6, s_M_tell_7, s_M_tell_10, s_M_tell_11, s_M_tell_12, s_M_tell_15, s_M_tell_16, s_M_tell_17, s_M_tell_18, s_M_tell_19, s_M_tell_22, s_M_tell_23, s_M_tell_24, s_M_tell_25, s_M_tell_26, s_M_tell_27, s_M_tell_30, s_M_tell_31, s_M_tell_32, s_M_tell_33, s_M_tell_36, s_M_tell_38, s_M_tell_39, s_M_tell_40, s_M_tell_41, s_M_tell_42, s_M_tell_45, s_M_tell_46, s_M_tell_47, s_M_tell_48, s_M_tell_51, s_M_tell_52, s_M_tell_53, s_M_tell_56, s_M_tell_57, s_M_tell_58, s_M_tell_61, s_M_tell_62, s_M_tell_63, s_M_tell_64, s_M_tell_65, s_M_tell_67, s_M_tell_69, s_M_tell_70, s_M_tell_73, s_M_tell_74, s_M_tell_77, s_M_tell_79, s_M_tell_80, s_M_tell_83, s_M_tell_84, s_M_tell_87, s_M_tell_88, s_M_tell_89, s_M_tell_92, s_M_tell_93, s_M_tell_96, s_M_tell_97, s_M_tell_98, s_M_tell_99, s_M_tell_102, s_M_tell_104, s_M_tell_105, s_M_tell_106, s_M_tell_107, s_M_tell_110, s_M_tell_111, s_M_tell_114, s_M_tell_116, s_M_tell_117, s_M_tell_120, s_M_tell_121, s_M_tell_124, s_M_tell_125, s_M_tell_126, s_M_tell_129, s_M_tell_130, s_M_tell_133, s_M_tell_134, s_M_tell_136, s_M_tell_137, s_M_tell_140, s_M_tell_141, s_M_tell_144, s_M_tell_145, s_M_tell_146, s_M_tell_149, s_M_tell_150, s_M_tell_151, s_M_tell_152, s_M_tell_155, s_M_tell_156, s_M_tell_159, s_M_tell_161, s_M_tell_162, Option.bind_some, Option.bind_none, Option.toList_some, Option.toList_none, List.cons_append, List.nil_append, if_true, if_false, rz_clr, true_or, or_true, z00, z11, bZ_eq0, bZ_eq1, nor_self, if_pos, if_neg, zI_add, zI_sub, zI_mul, zI_neg, zI_lt, zI_le, zI_eq, c_M, f_M_0, u_M_0, f_M_1, u_M_1, f_M_2, l_M_2, r_M_2, w_M_2, f_M_3, u_M_3, f_M_4, u_M_4, f_M_5, u_M_5, f_M_6, u_M_6, f_M_7, u_M_7, f_M_8, u_M_8, f_M_9, l_M_9, r_M_9, w_M_9, f_M_10, l_M_10, r_M_10, w_M_10, f_M_11, l_M_11, r_M_11, w_M_11, f_M_12, l_M_12, r_M_12, w_M_12, f_M_13, l_M_13, r_M_13, w_M_13, f_M_14, l_M_14, r_M_14, w_M_14, f_M_15, l_M_15, r_M_15, w_M_15, f_M_16, l_M_16, r_M_16, w_M_16, f_M_17, l_M_17, r_M_17, w_M_17, f_M_18, l_M_18, r_M_18, w_M_18, sset_eq, gset_at, gset_gset, gset_ne, pset_eq, pset_ne, pset_pset, hr, f4, f0, fu, hld, z1, fc, c1, hc1', fr]
      · rw [if_neg c2] at hc1'
        simp (disch := first | omega | exact Nat.le_of_ble_eq_true rfl) only [e_M_tell, s_M_tell_0, s_M_tell_1, s_M_tell_2, s_M_tell_5, s_M_tell_6, s_M_tell_7, s_M_tell_10, s_M_tell_11, s_M_tell_12, s_M_tell_15, s_M_tell_16, s_M_tell_17, s_M_tell_18, s_M_tell_19, s_M_tell_22, s_M_tell_23, s_M_tell_24, s_M_tell_25, s_M_tell_26, s_M_tell_27, s_M_tell_30, s_M_tell_31, s_M_tell_32, s_M_tell_33, s_M_tell_36, s_M_tell_38, s_M_tell_39, s_M_tell_40, s_M_tell_41, s_M_tell_42, s_M_tell_45, s_M_tell_46, s_M_tell_47, s_M_tell_48, s_M_tell_51, s_M_tell_52, s_M_tell_53, s_M_tell_56, s_M_tell_57, s_M_tell_58, s_M_tell_61, s_M_tell_62, s_M_tell_63, s_M_tell_64, s_M_tell_65, s_M_tell_67, s_M_tell_69, s_M_tell_70, s_M_tell_73, s_M_tell_74, s_M_tell_77, s_M_tell_79, s_M_tell_80, s_M_tell_83, s_M_tell_84, s_M_tell_87, s_M_tell_88, s_M_tell_89, s_M_tell_92, s_M_tell_93, s_M_tell_96, s_M_tell_97, s_M_tell_98, s_M_tell_99, s_M_tell_102, s_M_tell_104, s_M_tell_105, s_M_tell_106, s_M_tell_107, s_M_tell_110, s_M_tell_111, s_M_tell_114, s_M_tell_116, s_M_tell_117, s_M_tell_120, s_M_tell_121, s_M_tell_124, s_M_tell_125, s_M_tell_126, s_M_tell_129, s_M_tell_130, s_M_tell_133, s_M_tell_134, s_M_tell_136, s_M_tell_137, s_M_tell_140, s_M_tell_141, s_M_tell_144, s_M_tell_145, s_M_tell_146, s_M_tell_149, s_M_tell_150, s_M_tell_151, s_M_tell_152, s_M_tell_155, s_M_tell_156, s_M_tell_159, s_M_tell_161, s_M_tell_162, Option.bind_some, Option.bind_none, Option.toList_some, Option.toList_none, List.cons_append, List.nil_append, if_true, if_false, rz_clr, true_or, or_true, z00, z11, bZ_eq0, bZ_eq1, nor_self, if_pos, if_neg, zI_add, zI_sub, zI_mul, zI_neg, zI_lt, zI_le, zI_eq, c_M, f_M_0, u_M_0, f_M_1, u_M_1, f_M_2, l_M_2, r_M_2, w_M_2, f_M_3, u_M_3, f_M_4, u_M_4, f_M_5, u_M_5, f_M_6, u_M_6, f_M_7, u_M_7, f_M_8, u_M_8, f_M_9, l_M_9, r_M_9, w_M_9, f_M_10, l_M_10, r_M_10, w_M_10, f_M_11, l_M_11, r_M_11, w_M_11, f_M_12, l_M_12, r_M_12, w_M_12, f_M_13, l_M_13, r_M_13, w_M_13, f_M_14, l_M_14, r_M_14, w_M_14, f_M_15, l_M_15, r_M_15, w_M_15, f_M_16, l_M_16, r_M_16, w_M_16, f_M_17, l_M_17, r_M_17, w_M_17, f_M_18, l_M_18, r_M_18, w_M_18, sset_eq, gset_at, gset_gset, gset_ne, pset_eq, pset_ne, pset_pset, hr, f4, f0, fu, hld, z1, fc, c1, hc1', fr]
    · rw [if_neg c1] at hc1
      by_cases c2 : to = p 5 (1 - q 2 0).toNat
      · rw [if_pos c2] at hc1
        have hc1' : rz_dM (d + 6) iM_counts [.ref (bs 10)] (wOf N (gset σ 10 (pset m1 10 (zup (zup (m1 10) (1 - q 2 0).toNat to) (6 : Int).toNat (if 1 - q 2 0 = 0 then 1 else 2))))) = some (none, wOf N (gset σ 10 (pset m1 10 t))) := hc1
        by_cases c3 : 1 - q 2 0 = 0
        · rw [if_pos c3] at hc1'
          simp (disch := first | omega | exact Nat.le_of_ble_eq_true rfl) only [e_M_tell, s_M_tell_0, s_M_tell_1, s_M_tell_2, s_M_tell_5, s_M_tell_6, s_M_tell_7, s_M_tell_10, s_M_tell_11, s_M_tell_12, s_M_tell_15, s_M_tell_16, s_M_tell_17, s_M_tell_18, s_M_tell_19, s_M_tell_22, s_M_tell_23, s_M_tell_24, s_M_tell_25, s_M_tell_26, s_M_tell_27, s_M_tell_30, s_M_tell_31, s_M_tell_32, s_M_tell_33, s_M_tell_36, s_M_tell_38, s_M_tell_39, s_M_tell_40, s_M_tell_41, s_M_tell_42, s_M_tell_45, s_M_tell_46, s_M_tell_47, s_M_tell_48, s_M_tell_51, s_M_tell_52, s_M_tell_53, s_M_tell_56, s_M_tell_57, s_M_tell_58, s_M_tell_61, s_M_tell_62, s_M_tell_63, s_M_tell_64, s_M_tell_65, s_M_tell_67, s_M_tell_69, s_M_tell_70, s_M_tell_73, s_M_tell_74, s_M_tell_77, s_M_tell_79, s_M_tell_80, s_M_tell_83, s_M_tell_84, s_M_tell_87, s_M_tell_88, s_M_tell_89, s_M_tell_92, s_M_tell_93, s_M_tell_96, s_M_tell_97, s_M_tell_98, s_M_tell_99, s_M_tell_102, s_M_tell_104, s_M_tell_105, s_M_tell_106, s_M_tell_107, s_M_tell_110, s_M_tell_111, s_M_tell_114, s_M_tell_116, s_M_tell_117, s_M_tell_120, s_M_tell_121, s_M_tell_124, s_M_tell_125, s_M_tell_126, s_M_tell_129, s_M_tell_130, s_M_tell_133, s_M_tell_134, s_M_tell_136, s_M_tell_137, s_M_tell_140, s_M_tell_141, s_M_tell_144, s_M_tell_145, s_M_tell_146, s_M_tell_149, s_M_tell_150, s_M_tell_151, s_M_tell_152, s_M_tell_155, s_M_tell_156, s_M_tell_159, s_M_tell_161, s_M_tell_162, Option.bind_some, Option.bind_none, Option.toList_some, Option.toList_none, List.cons_append, List.nil_append, if_true, if_false, rz_clr, true_or, or_true, z00, z11, bZ_eq0, bZ_eq1, nor_self, if_pos, if_neg, zI_add, zI_sub, zI_mul, zI_neg, zI_lt, zI_le, zI_eq, c_M, f_M_0, u_M_0, f_M_1, u_M_1, f_M_2, l_M_2, r_M_2, w_M_2, f_M_3, u_M_3, f_M_4, u_M_4, f_M_5, u_M_5, f_M_6, u_M_6, f_M_7, u_M_7, f_M_8, u_M_8, f_M_9, l_M_9, r_M_9, w_M_9, f_M_10, l_M_10, r_M_10, w_M_10, f_M_11, l_M_11, r_M_11, w_M_11, f_M_12, l_M_12, r_M_12, w_M_12, f_M_13, l_M_13, r_M_13, w_M_13, f_M_14, l_M_14, r_M_14, w_M_14, f_M_15, l_M_15, r_M_15, w_M_15, f_M_16, l_M_16, r_M_16, w_M_16, f_M_17, l_M_17, r_M_17, w_M_17, f_M_18, l_M_18, r_M_18, w_M_18, sset_eq, gset_at, gset_gset, gset_ne, pset_eq, pset_ne, pset_pset, hr, f4, f0, fu, hld, z1, fc, fh, hc1', fr]
        · rw [if_neg c3] at hc1'
          simp (disch := first | omega | exact Nat.le_of_ble_eq_true rfl) only [e_M_tell, s_M_tell_0, s_M_tell_1, s_M_tell_2, s_M_tell_5, s_M_tell_6, s_M_tell_7, s_M_tell_10, s_M_tell_11, s_M_tell_12, s_M_tell_15, s_M_tell_16, s_M_tell_17, s_M_tell_18, s_M_tell_19, s_M_tell_22, s_M_tell_23, s_M_tell_24, s_M_tell_25, s_M_tell_26, s_M_tell_27, s_M_tell_30, s_M_tell_31, s_M_tell_32, s_M_tell_33, s_M_tell_36, s_M_tell_38, s_M_tell_39, s_M_tell_40, s_M_tell_41, s_M_tell_42, s_M_tell_45, s_M_tell_46, s_M_tell_47, s_M_tell_48, s_M_tell_51, s_M_tell_52, s_M_tell_53, s_M_tell_56, s_M_tell_57, s_M_tell_58, s_M_tell_61, s_M_tell_62, s_M_tell_63, s_M_tell_64, s_M_tell_65, s_M_tell_67, s_M_tell_69, s_M_tell_70, s_M_tell_73, s_M_tell_74, s_M_tell_77, s_M_tell_79, s_M_tell_80, s_M_tell_83, s_M_tell_84, s_M_tell_87, s_M_tell_88, s_M_tell_89, s_M_tell_92, s_M_tell_93, s_M_tell_96, s_M_tell_97, s_M_tell_98, s_M_tell_99, s_M_tell_102, s_M_tell_104, s_M_tell_105, s_M_tell_106, s_M_tell_107, s_M_tell_110, s_M_tell_111, s_M_tell_114, s_M_tell_116, s_M_tell_117, s_M_tell_120, s_M_tell_121, s_M_tell_124, s_M_tell_125, s_M_tell_126, s_M_tell_129, s_M_tell_130, s_M_tell_133, s_M_tell_134, s_M_tell_136, s_M_tell_137, s_M_tell_140, s_M_tell_141, s_M_tell_144, s_M_tell_145, s_M_tell_146, s_M_tell_149, s_M_tell_150, s_M_tell_151, s_M_tell_152, s_M_tell_155, s_M_tell_156, s_M_tell_159, s_M_tell_161, s_M_tell_162, Option.bind_some, Option.bind_none, Option.toList_some, Option.toList_none, List.cons_append, List.nil_append, if_true, if_false, rz_clr, true_or, or_true, z00, z11, bZ_eq0, bZ_eq1, nor_self, if_pos, if_neg, zI_add, zI_sub, zI_mul, zI_neg, zI_lt, zI_le, zI_eq, c_M, f_M_0, u_M_0, f_M_1, u_M_1, f_M_2, l_M_2, r_M_2, w_M_2, f_M_3, u_M_3, f_M_4, u_M_4, f_M_5, u_M_5, f_M_6, u_M_6, f_M_7, u_M_7, f_M_8, u_M_8, f_M_9, l_M_9, r_M_9, w_M_9, f_M_10, l_M_10, r_M_10, w_M_10, f_M_11, l_M_11, r_M_11, w_M_11, f_M_12, l_M_12, r_M_12, w_M_12, f_M_13, l_M_13, r_M_13, w_M_13, f_M_14, l_M_14, r_M_14, w_M_14, f_M_15, l_M_15, r_M_15, w_M_15, f_M_16, l_M_16, r_M_16, w_M_16, f_M_17, l_M_17, r_M_17, w_M_17, f_M_18, l_M_18, r_M_18, w_M_18, sset_eq, gset_at, gset_gset, gset_ne, pset_eq, pset_ne, pset_pset, hr, f4, f0, fu, hld, z1, fc, fh, hc1', fr]
      · rw [if_neg c2] at hc1
        have hc1' : rz_dM (d + 6) iM_counts [.ref (bs 10)] (wOf N (gset σ 10 (pset m1 10 (zup (zup (m1 10) (1 - q 2 0).toNat to) (4 : Int).toNat (if p 0 to.toNat = 2 then q 2 0 else 1 - q 2 0))))) = some (none, wOf N (gset σ 10 (pset m1 10 t))) := hc1
        have hh := (hw.2.2.2 (1 - q 2 0).toNat (by omega)).2.1
        by_cases c3 : p 0 to.toNat = 2
        · rw [if_pos c3] at hc1'
          simp (disch := first | omega | exact Nat.le_of_ble_eq_true rfl) only [e_M_tell, s_M_tell_0, s_M_tell_1, s_M_tell_2, s_M_tell_5, s_M_tell_6, s_M_tell_7, s_M_tell_10, s_M_tell_11, s_M_tell_12, s_M_tell_15, s_M_tell_16, s_M_tell_17, s_M_tell_18, s_M_tell_19, s_M_tell_22, s_M_tell_23, s_M_tell_24, s_M_tell_25, s_M_tell_26, s_M_tell_27, s_M_tell_30, s_M_tell_31, s_M_tell_32, s_M_tell_33, s_M_tell_36, s_M_tell_38, s_M_tell_39, s_M_tell_40, s_M_tell_41, s_M_tell_42, s_M_tell_45, s_M_tell_46, s_M_tell_47, s_M_tell_48, s_M_tell_51, s_M_tell_52, s_M_tell_53, s_M_tell_56, s_M_tell_57, s_M_tell_58, s_M_tell_61, s_M_tell_62, s_M_tell_63, s_M_tell_64, s_M_tell_65, s_M_tell_67, s_M_tell_69, s_M_tell_70, s_M_tell_73, s_M_tell_74, s_M_tell_77, s_M_tell_79, s_M_tell_80, s_M_tell_83, s_M_tell_84, s_M_tell_87, s_M_tell_88, s_M_tell_89, s_M_tell_92, s_M_tell_93, s_M_tell_96, s_M_tell_97, s_M_tell_98, s_M_tell_99, s_M_tell_102, s_M_tell_104, s_M_tell_105, s_M_tell_106, s_M_tell_107, s_M_tell_110, s_M_tell_111, s_M_tell_114, s_M_tell_116, s_M_tell_117, s_M_tell_120, s_M_tell_121, s_M_tell_124, s_M_tell_125, s_M_tell_126, s_M_tell_129, s_M_tell_130, s_M_tell_133, s_M_tell_134, s_M_tell_136, s_M_tell_137, s_M_tell_140, s_M_tell_141, s_M_tell_144, s_M_tell_145, s_M_tell_146, s_M_tell_149, s_M_tell_150, s_M_tell_151, s_M_tell_152, s_M_tell_155, s_M_tell_156, s_M_tell_159, s_M_tell_161, s_M_tell_162, Option.bind_some, Option.bind_none, Option.toList_some, Option.toList_none, List.cons_append, List.nil_append, if_true, if_false, rz_clr, true_or, or_true, z00, z11, bZ_eq0, bZ_eq1, nor_self, if_pos, if_neg, zI_add, zI_sub, zI_mul, zI_neg, zI_lt, zI_le, zI_eq, c_M, f_M_0, u_M_0, f_M_1, u_M_1, f_M_2, l_M_2, r_M_2, w_M_2, f_M_3, u_M_3, f_M_4, u_M_4, f_M_5, u_M_5, f_M_6, u_M_6, f_M_7, u_M_7, f_M_8, u_M_8, f_M_9, l_M_9, r_M_9, w_M_9, f_M_10, l_M_10, r_M_10, w_M_10, f_M_11, l_M_11, r_M_11, w_M_11, f_M_12, l_M_12, r_M_12, w_M_12, f_M_13, l_M_13, r_M_13, w_M_13, f_M_14, l_M_14, r_M_14, w_M_14, f_M_15, l_M_15, r_M_15, w_M_15, f_M_16, l_M_16, r_M_16, w_M_16, f_M_17, l_M_17, r_M_17, w_M_17, f_M_18, l_M_18, r_M_18, w_M_18, sset_eq, gset_at, gset_gset, gset_ne, pset_eq, pset_ne, pset_pset, hr, f4, f0, fu, hld, z1, z4, fc, fh, c3, hc1', fr]
        · rw [if_neg c3] at hc1'
          simp (disch := first | omega | exact Nat.le_of_ble_eq_true rfl) only [e_M_tell, s_M_tell_0, s_M_tell_1, s_M_tell_2, s_M_tell_5, s_M_tell_6, s_M_tell_7, s_M_tell_10, s_M_tell_11, s_M_tell_12, s_M_tell_15, s_M_tell_16, s_M_tell_17, s_M_tell_18, s_M_tell_19, s_M_tell_22, s_M_tell_23, s_M_tell_24, s_M_tell_25, s_M_tell_26, s_M_tell_27, s_M_tell_30, s_M_tell_31, s_M_tell_32, s_M_tell_33, s_M_tell_36, s_M_tell_38, s_M_tell_39, s_M_tell_40, s_M_tell_41, s_M_tell_42, s_M_tell_45, s_M_tell_46, s_M_tell_47, s_M_tell_48, s_M_tell_51, s_M_tell_52, s_M_tell_53, s_M_tell_56, s_M_tell_57, s_M_tell_58, s_M_tell_61, s_M_tell_62, s_M_tell_63, s_M_tell_64, s_M_tell_65, s_M_tell_67, s_M_tell_69, s_M_tell_70, s_M_tell_73, s_M_tell_74, s_M_tell_77, s_M_tell_79, s_M_tell_80, s_M_tell_83, s_M_tell_84, s_M_tell_87, s_M_tell_88, s_M_tell_89, s_M_tell_92, s_M_tell_93, s_M_tell_96, s_M_tell_97, s_M_tell_98, s_M_tell_99, s_M_tell_102, s_M_tell_104, s_M_tell_105, s_M_tell_106, s_M_tell_107, s_M_tell_110, s_M_tell_111, s_M_tell_114, s_M_tell_116, s_M_tell_117, s_M_tell_120, s_M_tell_121, s_M_tell_124, s_M_tell_125, s_M_tell_126, s_M_tell_129, s_M_tell_130, s_M_tell_133, s_M_tell_134, s_M_tell_136, s_M_tell_137, s_M_tell_140, s_M_tell_141, s_M_tell_144, s_M_tell_145, s_M_tell_146, s_M_tell_149, s_M_tell_150, s_M_tell_151, s_M_tell_152, s_M_tell_155, s_M_tell_156, s_M_tell_159, s_M_tell_161, s_M_tell_162, Option.bind_some, Option.bind_none, Option.toList_some, Option.toList_none, List.cons_append, List.nil_append, if_true, if_false, rz_clr, true_or, or_true, z00, z11, bZ_eq0, bZ_eq1, nor_self, if_pos, if_neg, zI_add, zI_sub, zI_mul, zI_neg, zI_lt, zI_le, zI_eq, c_M, f_M_0, u_M_0, f_M_1, u_M_1, f_M_2, l_M_2, r_M_2, w_M_2, f_M_3, u_M_3, f_M_4, u_M_4, f_M_5, u_M_5, f_M_6, u_M_6, f_M_7, u_M_7, f_M_8, u_M_8, f_M_9, l_M_9, r_M_9, w_M_9, f_M_10, l_M_10, r_M_10, w_M_10, f_M_11, l_M_11, r_M_11, w_M_11, f_M_12, l_M_12, r_M_12, w_M_12, f_M_13, l_M_13, r_M_13, w_M_13, f_M_14, l_M_14, r_M_14, w_M_14, f_M_15, l_M_15, r_M_15, w_M_15, f_M_16, l_M_16, r_M_16, w_M_16, f_M_17, l_M_17, r_M_17, w_M_17, f_M_18, l_M_18, r_M_18, w_M_18, sset_eq, gset_at, gset_gset, gset_ne, pset_eq, pset_ne, pset_pset, hr, f4, f0, fu, hld, z1, z4, fc, fh, hc1', fr]
  · rw [if_neg c]
    refine ⟨m1, ?_, sm_mono hsm0 (by decide), hs1⟩
    have hr9 := wntQ_rg q p k
    unfold T0 at hr
    simp (disch := first | omega | exact Nat.le_of_ble_eq_true rfl) only [e_M_tell, s_M_tell_0, s_M_tell_1, s_M_tell_2, s_M_tell_5, s_M_tell_6, s_M_tell_7, s_M_tell_10, s_M_tell_11, s_M_tell_12, s_M_tell_15, s_M_tell_16, s_M_tell_17, s_M_tell_18, s_M_tell_19, s_M_tell_22, s_M_tell_23, s_M_tell_24, s_M_tell_25, s_M_tell_26, s_M_tell_27, s_M_tell_30, s_M_tell_31, s_M_tell_32, s_M_tell_33, s_M_tell_36, s_M_tell_38, s_M_tell_39, s_M_tell_40, s_M_tell_41, s_M_tell_42, s_M_tell_45, s_M_tell_46, s_M_tell_47, s_M_tell_48, s_M_tell_51, s_M_tell_52, s_M_tell_53, s_M_tell_56, s_M_tell_57, s_M_tell_58, s_M_tell_61, s_M_tell_62, s_M_tell_63, s_M_tell_64, s_M_tell_65, s_M_tell_67, s_M_tell_69, s_M_tell_70, s_M_tell_73, s_M_tell_74, s_M_tell_77, s_M_tell_79, s_M_tell_80, s_M_tell_83, s_M_tell_84, s_M_tell_87, s_M_tell_88, s_M_tell_89, s_M_tell_92, s_M_tell_93, s_M_tell_96, s_M_tell_97, s_M_tell_98, s_M_tell_99, s_M_tell_102, s_M_tell_104, s_M_tell_105, s_M_tell_106, s_M_tell_107, s_M_tell_110, s_M_tell_111, s_M_tell_114, s_M_tell_116, s_M_tell_117, s_M_tell_120, s_M_tell_121, s_M_tell_124, s_M_tell_125, s_M_tell_126, s_M_tell_129, s_M_tell_130, s_M_tell_133, s_M_tell_134, s_M_tell_136, s_M_tell_137, s_M_tell_140, s_M_tell_141, s_M_tell_144, s_M_tell_145, s_M_tell_146, s_M_tell_149, s_M_tell_150, s_M_tell_151, s_M_tell_152, s_M_tell_155, s_M_tell_156, s_M_tell_159, s_M_tell_161, s_M_tell_162, Option.bind_some, Option.bind_none, Option.toList_some, Option.toList_none, List.cons_append, List.nil_append, if_true, if_false, rz_clr, true_or, or_true, z00, z11, bZ_eq0, bZ_eq1, nor_self, if_pos, if_neg, zI_add, zI_sub, zI_mul, zI_neg, zI_lt, zI_le, zI_eq, c_M, f_M_0, u_M_0, f_M_1, u_M_1, f_M_2, l_M_2, r_M_2, w_M_2, f_M_3, u_M_3, f_M_4, u_M_4, f_M_5, u_M_5, f_M_6, u_M_6, f_M_7, u_M_7, f_M_8, u_M_8, f_M_9, l_M_9, r_M_9, w_M_9, f_M_10, l_M_10, r_M_10, w_M_10, f_M_11, l_M_11, r_M_11, w_M_11, f_M_12, l_M_12, r_M_12, w_M_12, f_M_13, l_M_13, r_M_13, w_M_13, f_M_14, l_M_14, r_M_14, w_M_14, f_M_15, l_M_15, r_M_15, w_M_15, f_M_16, l_M_16, r_M_16, w_M_16, f_M_17, l_M_17, r_M_17, w_M_17, f_M_18, l_M_18, r_M_18, w_M_18, sset_eq, gset_at, gset_gset, gset_ne, pset_eq, pset_ne, hr]
end ME
