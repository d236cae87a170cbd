-- the model: best
section MX1
variable {N : Nat} {σ : zS} {p q : zP}
theorem best_eq (hw : wfP p) (hq : wfW q p) (h5 : q 5 0 = 0) {n : Int} (hn : 1 ≤ n ∧ n ≤ 5) : ff (bestF q p n) 8 0 = amx (exB (mayK p (laO p) (kW q)) (q 3 0)) (gB p (gV p (laO p) (hoO p) (ahN q n)) q) 8 0 (-9) 0 := by
  obtain ⟨k1, k2, k3, k4, k5, k6⟩ := kW_f hw hq
  obtain ⟨q1, q2, q3, q4, q5, q6⟩ := id hq
  obtain ⟨w1, w2, w3⟩ := may_W hw hq
  obtain ⟨a1, -⟩ := ld_congr (p := p) (hm := hoO p) (hm' := hoO p) (la_ld hw) (fun _ _ => rfl)
  rw [a1] at w1
  have h98 := q6 h5
  have hV := gV_rg p (laO p) (hoO p) (ahN q n)
  have hg := gB_rg (p := p) (q := q) hV
  have hlt := oS_lt (mayK p (laO p) (kW q)) 8
  have hl1 := (q1 (1 - q 2 0).toNat (by omega)).2
  have eS : ∀ k, k < 8 → bestF q p n k = (exB (mayK p (laO p) (kW q)) (q 3 0) k && decide (toldF p (laO p) (hoO p) (gV p (laO p) (hoO p) (ahN q n)) (mbrQ q p k) (kW q) k = valQ p (laO p) (hoO p) q (kW q) n)) := by
    intro k hk
    unfold bestF exB
    rw [← w1, oS_tb, decide_eq_true hk, Bool.true_and, Bool.and_assoc]
  have eT : ∀ k, k < 8 → mayK p (laO p) (kW q) k = true → toldF p (laO p) (hoO p) (gV p (laO p) (hoO p) (ahN q n)) (mbrQ q p k) (kW q) k = wtK (kW q) * gB p (gV p (laO p) (hoO p) (ahN q n)) q k := by
    intro k hk hm
    unfold gB
    by_cases cb : q 3 0 = -9
    · rw [if_pos cb, ← toldF_tld k1]
      have : mbrQ q p k = rfB p (laO p) (kW q) k := by
        unfold mbrQ rfB
        rw [decide_eq_true cb, Bool.true_and, ← w1, woB_ex _ (b := (k : Int)) (by omega), w3]
        congr 1
        by_cases z : 0 < q 1 (1 - q 2 0).toNat
        · rw [decide_eq_true z, decide_eq_true (by omega)]
        · rw [decide_eq_false z, decide_eq_false (by omega)]
      rw [this]
    · rw [if_neg cb]
      have : mbrQ q p k = false := by unfold mbrQ; rw [decide_eq_false cb, Bool.false_and]
      rw [this]
      unfold toldF
      rw [if_neg Bool.false_ne_true]
  have eV : oS (exB (mayK p (laO p) (kW q)) (q 3 0)) 8 ≠ 0 → valQ p (laO p) (hoO p) q (kW q) n = wtK (kW q) * bmx (exB (mayK p (laO p) (kW q)) (q 3 0)) (gB p (gV p (laO p) (hoO p) (ahN q n)) q) 8 := by
    intro hne
    unfold valQ mostA
    rw [if_pos h5, if_neg (by omega)]
    have et : (min n (99 - q 4 0) - 1).toNat = ahN q n := rfl
    rw [et]
    unfold mostF
    by_cases cb : q 3 0 = -9
    · rw [if_pos cb]
      rw [cb, exB_none] at hne ⊢
      rw [if_neg hne]
      have e : gB p (gV p (laO p) (hoO p) (ahN q n)) q = fun k => tldK p (laO p) (hoO p) (gV p (laO p) (hoO p) (ahN q n)) (rfB p (laO p) (kW q) k) (kW q) k := by
        funext k
        unfold gB
        rw [if_pos cb]
      rw [e]
      rfl
    · rw [if_neg cb, if_neg hne]
      have e : gB p (gV p (laO p) (hoO p) (ahN q n)) q = fun k => wtK (kW q) * dnK p (laO p) (hoO p) (gV p (laO p) (hoO p) (ahN q n)) (kW q) k := by
        funext k
        unfold gB
        rw [if_neg cb]
      rw [e]
      rfl
  obtain ⟨u', hI⟩ := amx_spec (exB (mayK p (laO p) (kW q)) (q 3 0)) (gB p (gV p (laO p) (hoO p) (ahN q n)) q) 8 0 (-9) 0 (Or.inl ⟨rfl, fun i hi => by omega⟩)
  rw [Nat.zero_add] at hI
  rcases hI with ⟨h1, h2⟩ | ⟨j, h1, h2, h3, h4, h5', h6⟩
  · rw [h1]
    exact ff_none 8 0 (fun i _ hi => by rw [eS i (by omega), h2 i (by omega), Bool.false_and])
  · rw [h2]
    have hne : oS (exB (mayK p (laO p) (kW q)) (q 3 0)) 8 ≠ 0 := by
      intro z
      have := oS_tb (exB (mayK p (laO p) (kW q)) (q 3 0)) 8 j
      rw [z, decide_eq_true h1, h3] at this
      simp at this
    have hb : bmx (exB (mayK p (laO p) (kW q)) (q 3 0)) (gB p (gV p (laO p) (hoO p) (ahN q n)) q) 8 = gB p (gV p (laO p) (hoO p) (ahN q n)) q j := by
      have x1 := bmx_ge (f := gB p (gV p (laO p) (hoO p) (ahN q n)) q) h3 8 h1
      have x2 := bmx_le (S := exB (mayK p (laO p) (kW q)) (q 3 0)) (f := gB p (gV p (laO p) (hoO p) (ahN q n)) q) (c := gB p (gV p (laO p) (hoO p) (ahN q n)) q j) (hg j).1 8 h5'
      omega
    have hv := eV hne
    rw [hb] at hv
    have hmi : ∀ i, exB (mayK p (laO p) (kW q)) (q 3 0) i = true → mayK p (laO p) (kW q) i = true := by
      intro i he
      unfold exB at he
      rw [Bool.and_eq_true] at he
      exact he.1
    refine ff_spec 8 0 j (Nat.zero_le _) (by omega) ?_ (fun i _ hi => ?_)
    · rw [eS j h1, h3, Bool.true_and, decide_eq_true_eq, eT j h1 (hmi j h3), hv]
    · rw [eS i (by omega)]
      by_cases c : exB (mayK p (laO p) (kW q)) (q 3 0) i = true
      · rw [c, Bool.true_and, decide_eq_false_iff_not, eT i (by omega) (hmi i c), hv]
        have := h6 i hi c
        intro z
        rcases wtK_pm (kW q) with e | e <;> rw [e] at z <;> omega
      · rw [Bool.not_eq_true] at c
        rw [c, Bool.false_and]
theorem z_Mbest (d : Nat) (hN : 60 ≤ N) (hm : tlR (σ 10 9) 0 p) (hs : sR (σ 10 10) q) (hw : wfP p) (hl : lkP p) (hq : wfW q p) {n : Int} (hn : rg n) : ∃ m', rz_dM (d + 7) iM_best [.ref (bs 10), .int (zI n)] (wOf N σ) = some (some (.int (zI (bestA q p n))), wOf N (gset σ 10 m')) ∧ sm [0, 13, 14, 15, 16, 17, 18] (σ 10) m' := by
  obtain ⟨q1, q2, q3, q4, q5, q6⟩ := id hq
  unfold bestA
  by_cases cn : 1 ≤ n ∧ n ≤ 5
  · rw [if_pos cn]
    have hs0 : sR (T0 (σ 10) 10) q := hs
    have s6 := sR_6 hs0
    by_cases h5 : q 5 0 = 0
    · rw [if_pos h5, best_eq hw hq h5 cn]
      have hm0 : tlR (T0 (σ 10) 9) 0 p := hm
      have ha0 := z_MasTold (N := N) (σ := gset σ 10 (T0 (σ 10))) (d + 5) hN
      rw [gset_at, gset_gset] at ha0
      have sA : sm [0, 15, 16] (σ 10) (asW (T0 (σ 10))) := sm_tr (sm_mono (T0_sm _) (by decide)) (sm_mono (asW_sm _) (by decide))
      have u16 := as_la hw hm0
      have u15 := as_ho hw hm0
      generalize asW (T0 (σ 10)) = mA at *
      have hmA : tlR (mA 9) 0 p := by rw [sA 9 (by decide)]; exact hm
      have hsA : sR (mA 10) q := by rw [sA 10 (by decide)]; exact hs
      have hst := z_MstepsIn (N := N) (σ := gset σ 10 mA) (q := q) (d + 5) hN (by rw [gset_at]; exact hsA) q4 (n := n) (by omega)
      have h98 := q6 h5
      obtain ⟨t, ht⟩ : ∃ t : Nat, min n (99 - q 4 0) - 1 = t := ⟨(min n (99 - q 4 0) - 1).toNat, by omega⟩
      have eah : ahN q n = t := by unfold ahN; omega
      obtain ⟨m3, cc, ll, r1, r2, r3, r4, r5⟩ := z_MlookNow (N := N) (σ := σ) d hN hw hl hq hmA hsA u16 u15 (t := t) (by omega)
      rw [eah]
      obtain ⟨k1, k2, k3, k4, k5, k6⟩ := kW_f hw hq
      obtain ⟨⟨b0, b1⟩, b2, b3⟩ := q1 0 (by decide)
      obtain ⟨⟨d0, d1⟩, d2, d3⟩ := q1 1 (by decide)
      have hs3 : sR (m3 10) q := by rw [r3 10 (by decide)]; exact hsA
      have s0 : m3 10 (0 : Int).toNat = (cl (kW q) 0 : Nat) := by rw [k2]; have := hs3.1.1; show m3 10 0 = _; omega
      have s1 : m3 10 (1 : Int).toNat = (cl (kW q) 1 : Nat) := by rw [k3]; have := hs3.1.2; show m3 10 1 = _; omega
      have s2 : m3 10 (2 : Int).toNat = (lf (kW q) 0 : Nat) := by rw [k4]; have := hs3.2.1.1; show m3 10 2 = _; omega
      have s3 : m3 10 (3 : Int).toNat = (lf (kW q) 1 : Nat) := by rw [k5]; have := hs3.2.1.2; show m3 10 3 = _; omega
      have s4 : m3 10 (4 : Int).toNat = (tl (kW q) : Nat) := by rw [k6]; have := hs3.2.2.1; show m3 10 4 = _; omega
      obtain ⟨a1, -⟩ := ld_congr (p := p) (hm := hoO p) (hm' := hoO p) (la_ld hw) (fun _ _ => rfl)
      rw [a1] at r2 r5
      have hV := gV_rg p (laO p) (hoO p) t
      have fc : lkM m3 cc ll 17 = cc := by unfold lkM; rw [pset_ne (by decide), pset_eq]
      have fl : lkM m3 cc ll 18 = ll := by unfold lkM; rw [pset_eq]
      have hlp := fun x1 l6 l7 => z_Mbest_lp (N := N) (σ := gset σ 10 (lkM m3 cc ll)) (p := p) (q := q) (d + 2) hN hV hw hq (by rw [gset_at, lkM_sm _ _ _ 10 (by decide)]; exact hs3) (by rw [gset_at, fc, fl]; exact r5) x1 8 0 rfl (-9) 0 (by omega) (by omega) l6 l7
      rw [Int.mul_zero, Int.natCast_zero] at hlp
      refine ⟨lkM m3 cc ll, ?_, sm_tr (sm_mono sA (by decide)) (sm_mono r4 (by decide))⟩
      generalize lkM m3 cc ll = m4 at *
      unfold T0 at ha0 s6
      simp (disch := first | omega | exact Nat.le_of_ble_eq_true rfl) only [e_M_best, s_M_best_0, s_M_best_1, s_M_best_2, s_M_best_5, s_M_best_6, s_M_best_7, s_M_best_8, s_M_best_11, s_M_best_14, s_M_best_15, s_M_best_16, s_M_best_17, s_M_best_20, s_M_best_22, s_M_best_23, s_M_best_26, s_M_best_28, s_M_best_29, s_M_best_30, s_M_best_33, s_M_best_34, s_M_best_35, s_M_best_36, s_M_best_39, s_M_best_40, s_M_best_41, s_M_best_44, s_M_best_45, s_M_best_46, s_M_best_49, s_M_best_50, s_M_best_51, s_M_best_52, s_M_best_55, s_M_best_56, s_M_best_57, s_M_best_58, s_M_best_61, s_M_best_62, s_M_best_63, s_M_best_64, s_M_best_67, s_M_best_68, s_M_best_69, s_M_best_70, s_M_best_73, s_M_best_74, s_M_best_75, s_M_best_78, s_M_best_79, s_M_best_81, s_M_best_82, s_M_best_83, s_M_best_85, s_M_best_86, s_M_best_90, s_M_best_92, s_M_best_95, s_M_best_96, s_M_best_98, s_M_best_99, s_M_best_100, s_M_best_101, s_M_best_102, s_M_best_105, s_M_best_107, s_M_best_108, s_M_best_111, s_M_best_113, s_M_best_114, s_M_best_117, s_M_best_118, s_M_best_121, s_M_best_123, s_M_best_124, s_M_best_126, s_M_best_129, s_M_best_130, s_M_best_132, s_M_best_133, s_M_best_134, s_M_best_137, s_M_best_138, s_M_best_139, s_M_best_142, s_M_best_143, s_M_best_144, s_M_best_145, s_M_best_146, s_M_best_147, s_M_best_150, s_M_best_151, s_M_best_152, s_M_best_155, s_M_best_158, s_M_best_159, s_M_best_162, s_M_best_164, s_M_best_165, s_M_best_167, s_M_best_168, s_M_best_170, s_M_best_173, s_M_best_174, s_M_best_177, s_M_best_178, s_M_best_179, s_M_best_182, s_M_best_184, s_M_best_186, s_M_best_189, s_M_best_192, s_M_best_194, s_M_best_196, s_M_best_199, s_M_best_200, s_M_best_203, s_M_best_204, s_M_best_206, s_M_best_208, s_M_best_211, s_M_best_213, s_M_best_216, s_M_best_217, s_M_best_218, s_M_best_220, s_M_best_223, s_M_best_225, s_M_best_228, s_M_best_230, s_M_best_232, s_M_best_235, s_M_best_238, s_M_best_239, Option.bind_some, Option.bind_none, Option.toList_some, Option.toList_none, List.cons_append, List.nil_append, if_true, if_false, rz_clr, true_or, or_true, z00, z11, bZ_eq0, bZ_eq1, nor_self, if_pos, if_neg, zI_add, zI_sub, zI_mul, zI_neg, zI_lt, zI_le, zI_eq, c_M, f_M_0, u_M_0, f_M_1, u_M_1, f_M_2, l_M_2, r_M_2, w_M_2, f_M_3, u_M_3, f_M_4, u_M_4, f_M_5, u_M_5, f_M_6, u_M_6, f_M_7, u_M_7, f_M_8, u_M_8, f_M_9, l_M_9, r_M_9, w_M_9, f_M_10, l_M_10, r_M_10, w_M_10, f_M_11, l_M_11, r_M_11, w_M_11, f_M_12, l_M_12, r_M_12, w_M_12, f_M_13, l_M_13, r_M_13, w_M_13, f_M_14, l_M_14, r_M_14, w_M_14, f_M_15, l_M_15, r_M_15, w_M_15, f_M_16, l_M_16, r_M_16, w_M_16, f_M_17, l_M_17, r_M_17, w_M_17, f_M_18, l_M_18, r_M_18, w_M_18, sset_eq, gset_at, gset_gset, gset_ne, pset_eq, pset_ne, z_Min, bZ_pos cn, s6, h5, ha0, hst, ht, r1, s0, s1, s2, s3, s4, r2, hlp]
    · rw [if_neg h5]
      refine ⟨T0 (σ 10), ?_, sm_mono (T0_sm _) (by decide)⟩
      unfold T0 at *
      simp (disch := first | omega | exact Nat.le_of_ble_eq_true rfl) only [e_M_best, s_M_best_0, s_M_best_1, s_M_best_2, s_M_best_5, s_M_best_6, s_M_best_7, s_M_best_8, s_M_best_11, s_M_best_14, s_M_best_15, s_M_best_16, s_M_best_17, s_M_best_20, s_M_best_22, s_M_best_23, s_M_best_26, s_M_best_28, s_M_best_29, s_M_best_30, s_M_best_33, s_M_best_34, s_M_best_35, s_M_best_36, s_M_best_39, s_M_best_40, s_M_best_41, s_M_best_44, s_M_best_45, s_M_best_46, s_M_best_49, s_M_best_50, s_M_best_51, s_M_best_52, s_M_best_55, s_M_best_56, s_M_best_57, s_M_best_58, s_M_best_61, s_M_best_62, s_M_best_63, s_M_best_64, s_M_best_67, s_M_best_68, s_M_best_69, s_M_best_70, s_M_best_73, s_M_best_74, s_M_best_75, s_M_best_78, s_M_best_79, s_M_best_81, s_M_best_82, s_M_best_83, s_M_best_85, s_M_best_86, s_M_best_90, s_M_best_92, s_M_best_95, s_M_best_96, s_M_best_98, s_M_best_99, s_M_best_100, s_M_best_101, s_M_best_102, s_M_best_105, s_M_best_107, s_M_best_108, s_M_best_111, s_M_best_113, s_M_best_114, s_M_best_117, s_M_best_118, s_M_best_121, s_M_best_123, s_M_best_124, s_M_best_126, s_M_best_129, s_M_best_130, s_M_best_132, s_M_best_133, s_M_best_134, s_M_best_137, s_M_best_138, s_M_best_139, s_M_best_142, s_M_best_143, s_M_best_144, s_M_best_145, s_M_best_146, s_M_best_147, s_M_best_150, s_M_best_151, s_M_best_152, s_M_best_155, s_M_best_158, s_M_best_159, s_M_best_162, s_M_best_164, s_M_best_165, s_M_best_167, s_M_best_168, s_M_best_170, s_M_best_173, s_M_best_174, s_M_best_177, s_M_best_178, s_M_best_179, s_M_best_182, s_M_best_184, s_M_best_186, s_M_best_189, s_M_best_192, s_M_best_194, s_M_best_196, s_M_best_199, s_M_best_200, s_M_best_203, s_M_best_204, s_M_best_206, s_M_best_208, s_M_best_211, s_M_best_213, s_M_best_216, s_M_best_217, s_M_best_218, s_M_best_220, s_M_best_223, s_M_best_225, s_M_best_228, s_M_best_230, s_M_best_232, s_M_best_235, s_M_best_238, s_M_best_239, Option.bind_some, Option.bind_none, Option.toList_some, Option.toList_none, List.cons_append, List.nil_append, if_true, if_false, rz_clr, true_or, or_true, z00, z11, bZ_eq0, bZ_eq1, nor_self, if_pos, if_neg, zI_add, zI_sub, zI_mul, zI_neg, zI_lt, zI_le, zI_eq, c_M, f_M_0, u_M_0, f_M_1, u_M_1, f_M_2, l_M_2, r_M_2, w_M_2, f_M_3, u_M_3, f_M_4, u_M_4, f_M_5, u_M_5, f_M_6, u_M_6, f_M_7, u_M_7, f_M_8, u_M_8, f_M_9, l_M_9, r_M_9, w_M_9, f_M_10, l_M_10, r_M_10, w_M_10, f_M_11, l_M_11, r_M_11, w_M_11, f_M_12, l_M_12, r_M_12, w_M_12, f_M_13, l_M_13, r_M_13, w_M_13, f_M_14, l_M_14, r_M_14, w_M_14, f_M_15, l_M_15, r_M_15, w_M_15, f_M_16, l_M_16, r_M_16, w_M_16, f_M_17, l_M_17, r_M_17, w_M_17, f_M_18, l_M_18, r_M_18, w_M_18, sset_eq, gset_at, gset_gset, gset_ne, pset_eq, pset_ne, z_Min, bZ_pos cn, s6]
  · rw [if_neg cn]
    refine ⟨T0 (σ 10), ?_, sm_mono (T0_sm _) (by decide)⟩
    unfold T0
    simp (disch := first | omega | exact Nat.le_of_ble_eq_true rfl) only [e_M_best, s_M_best_0, s_M_best_1, s_M_best_2, s_M_best_5, s_M_best_6, s_M_best_7, s_M_best_8, s_M_best_11, s_M_best_14, s_M_best_15, s_M_best_16, s_M_best_17, s_M_best_20, s_M_best_22, s_M_best_23, s_M_best_26, s_M_best_28, s_M_best_29, s_M_best_30, s_M_best_33, s_M_best_34, s_M_best_35, s_M_best_36, s_M_best_39, s_M_best_40, s_M_best_41, s_M_best_44, s_M_best_45, s_M_best_46, s_M_best_49, s_M_best_50, s_M_best_51, s_M_best_52, s_M_best_55, s_M_best_56, s_M_best_57, s_M_best_58, s_M_best_61, s_M_best_62, s_M_best_63, s_M_best_64, s_M_best_67, s_M_best_68, s_M_best_69, s_M_best_70, s_M_best_73, s_M_best_74, s_M_best_75, s_M_best_78, s_M_best_79, s_M_best_81, s_M_best_82, s_M_best_83, s_M_best_85, s_M_best_86, s_M_best_90, s_M_best_92, s_M_best_95, s_M_best_96, s_M_best_98, s_M_best_99, s_M_best_100, s_M_best_101, s_M_best_102, s_M_best_105, s_M_best_107, s_M_best_108, s_M_best_111, s_M_best_113, s_M_best_114, s_M_best_117, s_M_best_118, s_M_best_121, s_M_best_123, s_M_best_124, s_M_best_126, s_M_best_129, s_M_best_130, s_M_best_132, s_M_best_133, s_M_best_134, s_M_best_137, s_M_best_138, s_M_best_139, s_M_best_142, s_M_best_143, s_M_best_144, s_M_best_145, s_M_best_146, s_M_best_147, s_M_best_150, s_M_best_151, s_M_best_152, s_M_best_155, s_M_best_158, s_M_best_159, s_M_best_162, s_M_best_164, s_M_best_165, s_M_best_167, s_M_best_168, s_M_best_170, s_M_best_173, s_M_best_174, s_M_best_177, s_M_best_178, s_M_best_179, s_M_best_182, s_M_best_184, s_M_best_186, s_M_best_189, s_M_best_192, s_M_best_194, s_M_best_196, s_M_best_199, s_M_best_200, s_M_best_203, s_M_best_204, s_M_best_206, s_M_best_208, s_M_best_211, s_M_best_213, s_M_best_216, s_M_best_217, s_M_best_218, s_M_best_220, s_M_best_223, s_M_best_225, s_M_best_228, s_M_best_230, s_M_best_232, s_M_best_235, s_M_best_238, s_M_best_239, Option.bind_some, Option.bind_none, Option.toList_some, Option.toList_none, List.cons_append, List.nil_append, if_true, if_false, rz_clr, true_or, or_true, z00, z11, bZ_eq0, bZ_eq1, nor_self, if_pos, if_neg, zI_add, zI_sub, zI_mul, zI_neg, zI_lt, zI_le, zI_eq, c_M, f_M_0, u_M_0, f_M_1, u_M_1, f_M_2, l_M_2, r_M_2, w_M_2, f_M_3, u_M_3, f_M_4, u_M_4, f_M_5, u_M_5, f_M_6, u_M_6, f_M_7, u_M_7, f_M_8, u_M_8, f_M_9, l_M_9, r_M_9, w_M_9, f_M_10, l_M_10, r_M_10, w_M_10, f_M_11, l_M_11, r_M_11, w_M_11, f_M_12, l_M_12, r_M_12, w_M_12, f_M_13, l_M_13, r_M_13, w_M_13, f_M_14, l_M_14, r_M_14, w_M_14, f_M_15, l_M_15, r_M_15, w_M_15, f_M_16, l_M_16, r_M_16, w_M_16, f_M_17, l_M_17, r_M_17, w_M_17, f_M_18, l_M_18, r_M_18, w_M_18, sset_eq, gset_at, gset_gset, gset_ne, pset_eq, pset_ne, z_Min, bZ_neg cn]
end MX1
