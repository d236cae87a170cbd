-- the model: value, worth, bag, even
theorem ld_congr {p : zP} {la la' hm hm' : Nat → Int} (h : ∀ m, m < 2 → ∀ (c : Int) k, ldP p (la m) c k = ldP p (la' m) c k) (g : ∀ m, m < 2 → hm m = hm' m) : (∀ K, mayK p la K = mayK p la' K) ∧ (∀ K k, leadK p la K k = leadK p la' K k) ∧ (∀ v K k, dnK p la hm v K k = dnK p la' hm' v K k) ∧ (∀ v K b, mostB p la hm v K b = mostB p la' hm' v K b) ∧ (∀ v K, mostN p la hm v K = mostN p la' hm' v K) ∧ (∀ n K, gV p la hm n K = gV p la' hm' n K) ∧ (∀ v K b, mostF p la hm v K b = mostF p la' hm' v K b) := by
  have hl : ∀ K (c : Int) k, ldP p (la (tm K)) c k = ldP p (la' (tm K)) c k := fun K c k => h (tm K) (tm_lt K) c k
  have hh : ∀ K, hm (tm K) = hm' (tm K) := fun K => g (tm K) (tm_lt K)
  have a1 : ∀ K, mayK p la K = mayK p la' K := fun K => by
    unfold mayK
    funext k
    unfold mayF
    rw [hl]
  have a2 : ∀ K k, leadK p la K k = leadK p la' K k := fun K k => by unfold leadK; rw [hl]
  have a3 : ∀ v K k, dnK p la hm v K k = dnK p la' hm' v K k := fun v K k => by unfold dnK; rw [a2, hh]
  have a4 : ∀ v K b, mostB p la hm v K b = mostB p la' hm' v K b := fun v K b => by
    unfold mostB
    rw [a1, show dnK p la hm v K = dnK p la' hm' v K from funext (a3 v K)]
  have a5 : ∀ v K, mostN p la hm v K = mostN p la' hm' v K := fun v K => by
    unfold mostN
    have e : (fun k => tldK p la hm v (rfB p la K k) K k) = fun k => tldK p la' hm' v (rfB p la' K k) K k := by
      funext k
      unfold tldK refK rfB
      rw [a1, a3, a4]
    rw [a1, e]
  have a6 : ∀ n K, gV p la hm n K = gV p la' hm' n K := by
    intro n
    induction n with
    | zero => intro K; rfl
    | succ n ih =>
      intro K
      rw [gV, gV, a1, ih, show gV p la hm n = gV p la' hm' n from funext ih, a5]
  refine ⟨a1, a2, a3, a4, a5, a6, fun v K b => ?_⟩
  unfold mostF
  rw [a1, a5, a4]
theorem valQ_ld {p : zP} {la la' hm hm' : Nat → Int} (h : ∀ m, m < 2 → ∀ (c : Int) k, ldP p (la m) c k = ldP p (la' m) c k) (g : ∀ m, m < 2 → hm m = hm' m) (q : zP) (K : Nat) (n : Int) : valQ p la hm q K n = valQ p la' hm' q K n := by
  obtain ⟨-, -, -, -, -, a6, a7⟩ := ld_congr (p := p) h g
  unfold valQ mostA
  rw [a7, show gV p la hm (min n (99 - q 4 0) - 1).toNat = gV p la' hm' (min n (99 - q 4 0) - 1).toNat from funext (a6 _)]
/-- the laws used as told, the model's way -/
def laM (p : zP) : Nat → Int := r2 (p 6 0) (p 6 1)
theorem r2_c {a b : Int} {m : Nat} (h : m < 2) : (m = 0 ∧ r2 a b m = a) ∨ (m = 1 ∧ r2 a b m = b) := by
  have : m = 0 ∨ m = 1 := by omega
  rcases this with e | e
  · left; exact ⟨e, by rw [e]; rfl⟩
  · right; exact ⟨e, by rw [e]; rfl⟩
theorem la_ld {p : zP} (hw : wfP p) : ∀ m, m < 2 → ∀ (c : Int) k, ldP p (laM p m) c k = ldP p (laO p m) c k := by
  intro m hm c k
  unfold laM laO
  have h0 := ldP_law hw (m := 0) (by omega) c k
  have h1 := ldP_law hw (m := 1) (by omega) c k
  rcases r2_c (a := p 6 0) (b := p 6 1) hm with ⟨e, e'⟩ | ⟨e, e'⟩
  · rw [e', e, show r2 (lawP p 0) (lawP p 1) 0 = lawP p 0 from rfl]; exact h0.symm
  · rw [e', e, show r2 (lawP p 0) (lawP p 1) 1 = lawP p 1 from rfl]; exact h1.symm
theorem la_ld2 {p : zP} (hw : wfP p) : ∀ m, m < 2 → ∀ (c : Int) k, ldP p (r2 (p 6 1) (p 6 0) m) c k = ldP p (r2 (lawP p 1) (lawP p 0) m) c k := by
  intro m hm c k
  have h0 := ldP_law hw (m := 0) (by omega) c k
  have h1 := ldP_law hw (m := 1) (by omega) c k
  rcases r2_c (a := p 6 1) (b := p 6 0) hm with ⟨e, e'⟩ | ⟨e, e'⟩
  · rw [e', e, show r2 (lawP p 1) (lawP p 0) 0 = lawP p 1 from rfl]; exact h1.symm
  · rw [e', e, show r2 (lawP p 1) (lawP p 0) 1 = lawP p 0 from rfl]; exact h0.symm
section MS1
variable {N : Nat} {σ : zS} {p q : zP} {la hm V : Nat → Int}
theorem qK_kW (hw : wfP p) (hq : wfW q p) : qK q (kW q) := by
  obtain ⟨-, -, -, -, -, k6⟩ := kW_f hw hq
  obtain ⟨q1, q2, q3, q4, q5, q6⟩ := hq
  exact ⟨by rw [k6]; omega, q4, q5, by omega⟩
theorem z_MvalueNow (d : Nat) (hN : 60 ≤ N) (hw : wfP p) (hl : lkP p) (h9 : tlR (σ 10 9) 0 p) (hs : sR (σ 10 10) q) (h16 : ∀ j : Nat, j < 2 → σ 10 16 j = la j ∧ 0 ≤ la j ∧ la j < 3) (h15 : ∀ j : Nat, j < 2 → σ 10 15 j = hm j ∧ rg (hm j)) (hq : wfW q p) {n : Int} (hn : 0 ≤ n ∧ n ≤ 5) : ∃ m', rz_dM (d + 8) iM_valueNow [.ref (bs 10), .int (zI n)] (wOf N σ) = some (some (.int (zI (valQ p la hm q (kW q) n))), wOf N (gset σ 10 m')) ∧ sm [13, 14, 17, 18] (σ 10) m' := by
  obtain ⟨k1, k2, k3, k4, k5, k6⟩ := kW_f hw hq
  obtain ⟨m', h1, h2⟩ := z_MvalueIn (N := N) (σ := σ) (la := la) (hm := hm) d hN hw hl h9 hs h16 h15 k1 (qK_kW hw hq) hn
  obtain ⟨q1, q2, q3, q4, q5, q6⟩ := id hq
  obtain ⟨⟨b0, b1⟩, b2, b3⟩ := q1 0 (by decide)
  obtain ⟨⟨d0, d1⟩, d2, d3⟩ := q1 1 (by decide)
  have s0 : σ 10 10 (0 : Int).toNat = (cl (kW q) 0 : Nat) := by rw [k2]; have := hs.1.1; show σ 10 10 0 = _; omega
  have s1 : σ 10 10 (1 : Int).toNat = (cl (kW q) 1 : Nat) := by rw [k3]; have := hs.1.2; show σ 10 10 1 = _; omega
  have s2 : σ 10 10 (2 : Int).toNat = (lf (kW q) 0 : Nat) := by rw [k4]; have := hs.2.1.1; show σ 10 10 2 = _; omega
  have s3 : σ 10 10 (3 : Int).toNat = (lf (kW q) 1 : Nat) := by rw [k5]; have := hs.2.1.2; show σ 10 10 3 = _; omega
  have s7 := sR_7 hs
  refine ⟨m', ?_, h2⟩
  simp (disch := first | omega | exact Nat.le_of_ble_eq_true rfl) only [e_M_valueNow, s_M_valueNow_0, s_M_valueNow_1, s_M_valueNow_2, s_M_valueNow_5, s_M_valueNow_6, s_M_valueNow_7, s_M_valueNow_8, s_M_valueNow_11, s_M_valueNow_12, s_M_valueNow_13, s_M_valueNow_14, s_M_valueNow_17, s_M_valueNow_18, s_M_valueNow_19, s_M_valueNow_20, s_M_valueNow_23, s_M_valueNow_24, s_M_valueNow_25, s_M_valueNow_26, s_M_valueNow_29, s_M_valueNow_31, s_M_valueNow_32, s_M_valueNow_33, s_M_valueNow_36, Option.bind_some, Option.bind_none, Option.toList_some, Option.toList_none, List.cons_append, List.nil_append, if_true, if_false, rz_clr, true_or, or_true, z00, z11, bZ_eq0, bZ_eq1, nor_self, if_pos, if_neg, zI_add, zI_sub, zI_mul, zI_neg, zI_lt, zI_le, zI_eq, c_M, f_M_0, u_M_0, f_M_1, u_M_1, f_M_2, l_M_2, r_M_2, w_M_2, f_M_3, u_M_3, f_M_4, u_M_4, f_M_5, u_M_5, f_M_6, u_M_6, f_M_7, u_M_7, f_M_8, u_M_8, f_M_9, l_M_9, r_M_9, w_M_9, f_M_10, l_M_10, r_M_10, w_M_10, f_M_11, l_M_11, r_M_11, w_M_11, f_M_12, l_M_12, r_M_12, w_M_12, f_M_13, l_M_13, r_M_13, w_M_13, f_M_14, l_M_14, r_M_14, w_M_14, f_M_15, l_M_15, r_M_15, w_M_15, f_M_16, l_M_16, r_M_16, w_M_16, f_M_17, l_M_17, r_M_17, w_M_17, f_M_18, l_M_18, r_M_18, w_M_18, s0, s1, s2, s3, s7, h1]
theorem as_la {m : zP} (hw : wfP p) (h9 : tlR (m 9) 0 p) : ∀ j : Nat, j < 2 → asW m 16 j = laM p j ∧ 0 ≤ laM p j ∧ laM p j < 3 := by
  intro j hj
  obtain ⟨u, hu, hu3⟩ := use_nat hw (m := (j : Int)) (by omega)
  rw [Int.toNat_natCast] at hu
  rw [asW_16 h9 hj]
  have e : laM p j = p 6 j := by
    unfold laM
    rcases r2_c (a := p 6 0) (b := p 6 1) hj with ⟨e, e'⟩ | ⟨e, e'⟩ <;> rw [e', e]
  rw [e]
  omega
theorem as_ho {m : zP} (hw : wfP p) (h9 : tlR (m 9) 0 p) : ∀ j : Nat, j < 2 → asW m 15 j = hoO p j ∧ rg (hoO p j) := by
  intro j hj
  have ha := wfP_area hw
  have hh := (hw.2.2.2 j hj).2.1
  rw [asW_15 h9 hj]
  have e : hoO p j = p 5 j := by
    unfold hoO
    rcases r2_c (a := p 5 0) (b := p 5 1) hj with ⟨e, e'⟩ | ⟨e, e'⟩ <;> rw [e', e]
  rw [e]
  exact ⟨rfl, by omega⟩
theorem val_laM (hw : wfP p) (K : Nat) (n : Int) : valQ p (laM p) (hoO p) q K n = valQ p (laO p) (hoO p) q K n := valQ_ld (la_ld hw) (fun _ _ => rfl) q K n
theorem z_Mvalue (d : Nat) (hN : 60 ≤ N) (hm : tlR (σ 10 9) 0 p) (hs : sR (σ 10 10) q) (hw : wfP p) (hl : lkP p) (hq : wfW q p) {n : Int} (hn : rg n) : ∃ m', rz_dM (d + 9) iM_value [.ref (bs 10), .int (zI n)] (wOf N σ) = some (some (.int (zI (valueA q p n))), wOf N (gset σ 10 m')) ∧ sm [0, 13, 14, 15, 16, 17, 18] (σ 10) m' := by
  unfold valueA
  by_cases c : 0 ≤ n ∧ n ≤ 5
  · rw [if_pos c]
    have hm0 : tlR (T0 (σ 10) 9) 0 p := hm
    have ha0 := z_MasTold (N := N) (σ := gset σ 10 (T0 (σ 10))) (d + 7) hN
    rw [gset_at, gset_gset] at ha0
    obtain ⟨m', h1, h2⟩ := z_MvalueNow (N := N) (σ := gset σ 10 (asW (T0 (σ 10)))) (la := laM p) (hm := hoO p) d hN hw hl (q := q) (by rw [gset_at]; exact hm) (by rw [gset_at]; exact hs) (by rw [gset_at]; exact as_la hw hm0) (by rw [gset_at]; exact as_ho hw hm0) hq c
    rw [gset_gset, val_laM hw] at h1
    rw [gset_at] at h2
    refine ⟨m', ?_, sm_tr (sm_mono (T0_sm _) (by decide)) (sm_tr (sm_mono (asW_sm _) (by decide)) (sm_mono h2 (by decide)))⟩
    generalize asW (T0 (σ 10)) = m1 at *
    unfold T0 at *
    simp (disch := first | omega | exact Nat.le_of_ble_eq_true rfl) only [e_M_value, s_M_value_0, s_M_value_1, s_M_value_2, s_M_value_5, s_M_value_6, s_M_value_7, s_M_value_8, s_M_value_11, s_M_value_14, s_M_value_16, s_M_value_17, s_M_value_18, s_M_value_21, s_M_value_22, s_M_value_23, s_M_value_26, Option.bind_some, Option.bind_none, Option.toList_some, Option.toList_none, List.cons_append, List.nil_append, if_true, if_false, rz_clr, true_or, or_true, z00, z11, bZ_eq0, bZ_eq1, nor_self, if_pos, if_neg, zI_add, zI_sub, zI_mul, zI_neg, zI_lt, zI_le, zI_eq, c_M, f_M_0, u_M_0, f_M_1, u_M_1, f_M_2, l_M_2, r_M_2, w_M_2, f_M_3, u_M_3, f_M_4, u_M_4, f_M_5, u_M_5, f_M_6, u_M_6, f_M_7, u_M_7, f_M_8, u_M_8, f_M_9, l_M_9, r_M_9, w_M_9, f_M_10, l_M_10, r_M_10, w_M_10, f_M_11, l_M_11, r_M_11, w_M_11, f_M_12, l_M_12, r_M_12, w_M_12, f_M_13, l_M_13, r_M_13, w_M_13, f_M_14, l_M_14, r_M_14, w_M_14, f_M_15, l_M_15, r_M_15, w_M_15, f_M_16, l_M_16, r_M_16, w_M_16, f_M_17, l_M_17, r_M_17, w_M_17, f_M_18, l_M_18, r_M_18, w_M_18, sset_eq, gset_at, gset_gset, gset_ne, pset_eq, pset_ne, z_Min, bZ_pos c, ha0, h1]
  · rw [if_neg c]
    refine ⟨T0 (σ 10), ?_, sm_mono (T0_sm _) (by decide)⟩
    unfold T0
    simp (disch := first | omega | exact Nat.le_of_ble_eq_true rfl) only [e_M_value, s_M_value_0, s_M_value_1, s_M_value_2, s_M_value_5, s_M_value_6, s_M_value_7, s_M_value_8, s_M_value_11, s_M_value_14, s_M_value_16, s_M_value_17, s_M_value_18, s_M_value_21, s_M_value_22, s_M_value_23, s_M_value_26, Option.bind_some, Option.bind_none, Option.toList_some, Option.toList_none, List.cons_append, List.nil_append, if_true, if_false, rz_clr, true_or, or_true, z00, z11, bZ_eq0, bZ_eq1, nor_self, if_pos, if_neg, zI_add, zI_sub, zI_mul, zI_neg, zI_lt, zI_le, zI_eq, c_M, f_M_0, u_M_0, f_M_1, u_M_1, f_M_2, l_M_2, r_M_2, w_M_2, f_M_3, u_M_3, f_M_4, u_M_4, f_M_5, u_M_5, f_M_6, u_M_6, f_M_7, u_M_7, f_M_8, u_M_8, f_M_9, l_M_9, r_M_9, w_M_9, f_M_10, l_M_10, r_M_10, w_M_10, f_M_11, l_M_11, r_M_11, w_M_11, f_M_12, l_M_12, r_M_12, w_M_12, f_M_13, l_M_13, r_M_13, w_M_13, f_M_14, l_M_14, r_M_14, w_M_14, f_M_15, l_M_15, r_M_15, w_M_15, f_M_16, l_M_16, r_M_16, w_M_16, f_M_17, l_M_17, r_M_17, w_M_17, f_M_18, l_M_18, r_M_18, w_M_18, sset_eq, gset_at, gset_gset, gset_ne, pset_eq, pset_ne, z_Min, bZ_neg c]
/-- the laws used so -/
def usM (m : zP) (i j : Int) : zP := pset m 16 (zup (zup (m 16) 0 i) 1 j)
theorem z_MbagOf (d : Nat) (hN : 60 ≤ N) (hw : wfP p) (hl : lkP p) (h9 : tlR (σ 10 9) 0 p) (hs : sR (σ 10 10) q) (h15 : ∀ j : Nat, j < 2 → σ 10 15 j = hoO p j ∧ rg (hoO p j)) (hq : wfW q p) {i j n : Int} (hi : 0 ≤ i ∧ i < 3) (hj : 0 ≤ j ∧ j < 3) (hn : 0 ≤ n ∧ n ≤ 5) : ∃ m', rz_dM (d + 9) iM_bagOf [.ref (bs 10), .int (zI i), .int (zI j), .int (zI n)] (wOf N σ) = some (some (.int (zI (valQ p (r2 i j) (hoO p) q (kW q) n))), wOf N (gset σ 10 m')) ∧ sm [13, 14, 16, 17, 18] (σ 10) m' := by
  obtain ⟨m', h1, h2⟩ := z_MvalueNow (N := N) (σ := gset σ 10 (usM (σ 10) i j)) (la := r2 i j) (hm := hoO p) d hN hw hl (q := q) (by rw [gset_at]; exact h9) (by rw [gset_at]; exact hs) (by
    rw [gset_at]
    intro k hk
    rcases r2_c (a := i) (b := j) hk with ⟨e, e'⟩ | ⟨e, e'⟩
    · rw [e', e]; exact ⟨rfl, hi⟩
    · rw [e', e]; exact ⟨rfl, hj⟩) (by rw [gset_at]; exact h15) hq hn
  rw [gset_gset] at h1
  rw [gset_at] at h2
  refine ⟨m', ?_, sm_tr (sm_pset (sm_rfl _ _) (by decide)) (sm_mono h2 (by decide))⟩
  have e : pset (σ 10) 16 (zup (zup (σ 10 16) (0 : Int).toNat i) (1 : Int).toNat j) = usM (σ 10) i j := rfl
  simp (disch := first | omega | exact Nat.le_of_ble_eq_true rfl) only [e_M_bagOf, s_M_bagOf_0, s_M_bagOf_1, s_M_bagOf_4, s_M_bagOf_5, s_M_bagOf_6, s_M_bagOf_7, s_M_bagOf_8, s_M_bagOf_11, s_M_bagOf_12, s_M_bagOf_13, s_M_bagOf_14, s_M_bagOf_15, s_M_bagOf_16, s_M_bagOf_19, Option.bind_some, Option.bind_none, Option.toList_some, Option.toList_none, List.cons_append, List.nil_append, if_true, if_false, rz_clr, true_or, or_true, z00, z11, bZ_eq0, bZ_eq1, nor_self, if_pos, if_neg, zI_add, zI_sub, zI_mul, zI_neg, zI_lt, zI_le, zI_eq, c_M, f_M_0, u_M_0, f_M_1, u_M_1, f_M_2, l_M_2, r_M_2, w_M_2, f_M_3, u_M_3, f_M_4, u_M_4, f_M_5, u_M_5, f_M_6, u_M_6, f_M_7, u_M_7, f_M_8, u_M_8, f_M_9, l_M_9, r_M_9, w_M_9, f_M_10, l_M_10, r_M_10, w_M_10, f_M_11, l_M_11, r_M_11, w_M_11, f_M_12, l_M_12, r_M_12, w_M_12, f_M_13, l_M_13, r_M_13, w_M_13, f_M_14, l_M_14, r_M_14, w_M_14, f_M_15, l_M_15, r_M_15, w_M_15, f_M_16, l_M_16, r_M_16, w_M_16, f_M_17, l_M_17, r_M_17, w_M_17, f_M_18, l_M_18, r_M_18, w_M_18, sset_eq, gset_at, gset_gset, gset_ne, pset_eq, pset_ne, pset_pset, e, h1]
theorem z_Mbag (d : Nat) (hN : 60 ≤ N) (hm : tlR (σ 10 9) 0 p) (hs : sR (σ 10 10) q) (hw : wfP p) (hl : lkP p) (hq : wfW q p) {i j n : Int} (hi : rg i) (hj : rg j) (hn : rg n) : ∃ m', rz_dM (d + 10) iM_bag [.ref (bs 10), .int (zI i), .int (zI j), .int (zI n)] (wOf N σ) = some (some (.int (zI (bagA q p i j n))), wOf N (gset σ 10 m')) ∧ sm [0, 13, 14, 15, 16, 17, 18] (σ 10) m' := by
  unfold bagA
  have hm0 : tlR (T0 (σ 10) 9) 0 p := hm
  have w := hw.1
  have hli := z_MisLaw (N := N) (σ := gset σ 10 (T0 (σ 10))) (d + 7) hN (p := p) (by rw [gset_at]; exact hm) hw hi
  have hlj := z_MisLaw (N := N) (σ := gset σ 10 (T0 (σ 10))) (d + 7) hN (p := p) (by rw [gset_at]; exact hm) hw hj
  by_cases a1 : 0 ≤ i ∧ i < p 10 0
  · rw [bZ_pos a1] at hli
    by_cases a2 : 0 ≤ j ∧ j < p 10 0
    · rw [bZ_pos a2] at hlj
      by_cases a3 : 0 ≤ n ∧ n ≤ 4
      · rw [if_pos ⟨⟨a1, a2⟩, a3⟩]
        have ha0 := z_MasTold (N := N) (σ := gset σ 10 (T0 (σ 10))) (d + 8) hN
        rw [gset_at, gset_gset] at ha0
        obtain ⟨m', h1, h2⟩ := z_MbagOf (N := N) (σ := gset σ 10 (asW (T0 (σ 10)))) d hN hw hl (q := q) (by rw [gset_at]; exact hm) (by rw [gset_at]; exact hs) (by rw [gset_at]; exact as_ho hw hm0) hq (i := i) (j := j) (n := n) (by omega) (by omega) (by omega)
        rw [gset_gset] at h1
        rw [gset_at] at h2
        refine ⟨m', ?_, sm_tr (sm_mono (T0_sm _) (by decide)) (sm_tr (sm_mono (asW_sm _) (by decide)) (sm_mono h2 (by decide)))⟩
        generalize asW (T0 (σ 10)) = m1 at *
        unfold T0 at *
        simp (disch := first | omega | exact Nat.le_of_ble_eq_true rfl) only [e_M_bag, s_M_bag_0, s_M_bag_1, s_M_bag_2, s_M_bag_5, s_M_bag_6, s_M_bag_7, s_M_bag_10, s_M_bag_13, s_M_bag_14, s_M_bag_15, s_M_bag_18, s_M_bag_21, s_M_bag_22, s_M_bag_23, s_M_bag_24, s_M_bag_27, s_M_bag_30, s_M_bag_32, s_M_bag_33, s_M_bag_34, s_M_bag_37, s_M_bag_38, s_M_bag_39, s_M_bag_40, s_M_bag_41, s_M_bag_44, Option.bind_some, Option.bind_none, Option.toList_some, Option.toList_none, List.cons_append, List.nil_append, if_true, if_false, rz_clr, true_or, or_true, z00, z11, bZ_eq0, bZ_eq1, nor_self, if_pos, if_neg, zI_add, zI_sub, zI_mul, zI_neg, zI_lt, zI_le, zI_eq, c_M, f_M_0, u_M_0, f_M_1, u_M_1, f_M_2, l_M_2, r_M_2, w_M_2, f_M_3, u_M_3, f_M_4, u_M_4, f_M_5, u_M_5, f_M_6, u_M_6, f_M_7, u_M_7, f_M_8, u_M_8, f_M_9, l_M_9, r_M_9, w_M_9, f_M_10, l_M_10, r_M_10, w_M_10, f_M_11, l_M_11, r_M_11, w_M_11, f_M_12, l_M_12, r_M_12, w_M_12, f_M_13, l_M_13, r_M_13, w_M_13, f_M_14, l_M_14, r_M_14, w_M_14, f_M_15, l_M_15, r_M_15, w_M_15, f_M_16, l_M_16, r_M_16, w_M_16, f_M_17, l_M_17, r_M_17, w_M_17, f_M_18, l_M_18, r_M_18, w_M_18, sset_eq, gset_at, gset_gset, gset_ne, pset_eq, pset_ne, hli, hlj, z_Min, bZ_pos a3, ha0, h1]
      · rw [if_neg (fun z => a3 z.2)]
        refine ⟨T0 (σ 10), ?_, sm_mono (T0_sm _) (by decide)⟩
        unfold T0 at *
        simp (disch := first | omega | exact Nat.le_of_ble_eq_true rfl) only [e_M_bag, s_M_bag_0, s_M_bag_1, s_M_bag_2, s_M_bag_5, s_M_bag_6, s_M_bag_7, s_M_bag_10, s_M_bag_13, s_M_bag_14, s_M_bag_15, s_M_bag_18, s_M_bag_21, s_M_bag_22, s_M_bag_23, s_M_bag_24, s_M_bag_27, s_M_bag_30, s_M_bag_32, s_M_bag_33, s_M_bag_34, s_M_bag_37, s_M_bag_38, s_M_bag_39, s_M_bag_40, s_M_bag_41, s_M_bag_44, Option.bind_some, Option.bind_none, Option.toList_some, Option.toList_none, List.cons_append, List.nil_append, if_true, if_false, rz_clr, true_or, or_true, z00, z11, bZ_eq0, bZ_eq1, nor_self, if_pos, if_neg, zI_add, zI_sub, zI_mul, zI_neg, zI_lt, zI_le, zI_eq, c_M, f_M_0, u_M_0, f_M_1, u_M_1, f_M_2, l_M_2, r_M_2, w_M_2, f_M_3, u_M_3, f_M_4, u_M_4, f_M_5, u_M_5, f_M_6, u_M_6, f_M_7, u_M_7, f_M_8, u_M_8, f_M_9, l_M_9, r_M_9, w_M_9, f_M_10, l_M_10, r_M_10, w_M_10, f_M_11, l_M_11, r_M_11, w_M_11, f_M_12, l_M_12, r_M_12, w_M_12, f_M_13, l_M_13, r_M_13, w_M_13, f_M_14, l_M_14, r_M_14, w_M_14, f_M_15, l_M_15, r_M_15, w_M_15, f_M_16, l_M_16, r_M_16, w_M_16, f_M_17, l_M_17, r_M_17, w_M_17, f_M_18, l_M_18, r_M_18, w_M_18, sset_eq, gset_at, gset_gset, gset_ne, pset_eq, pset_ne, hli, hlj, z_Min, bZ_neg a3]
    · rw [bZ_neg a2] at hlj
      rw [if_neg (fun z => a2 z.1.2)]
      refine ⟨T0 (σ 10), ?_, sm_mono (T0_sm _) (by decide)⟩
      unfold T0 at *
      simp (disch := first | omega | exact Nat.le_of_ble_eq_true rfl) only [e_M_bag, s_M_bag_0, s_M_bag_1, s_M_bag_2, s_M_bag_5, s_M_bag_6, s_M_bag_7, s_M_bag_10, s_M_bag_13, s_M_bag_14, s_M_bag_15, s_M_bag_18, s_M_bag_21, s_M_bag_22, s_M_bag_23, s_M_bag_24, s_M_bag_27, s_M_bag_30, s_M_bag_32, s_M_bag_33, s_M_bag_34, s_M_bag_37, s_M_bag_38, s_M_bag_39, s_M_bag_40, s_M_bag_41, s_M_bag_44, Option.bind_some, Option.bind_none, Option.toList_some, Option.toList_none, List.cons_append, List.nil_append, if_true, if_false, rz_clr, true_or, or_true, z00, z11, bZ_eq0, bZ_eq1, nor_self, if_pos, if_neg, zI_add, zI_sub, zI_mul, zI_neg, zI_lt, zI_le, zI_eq, c_M, f_M_0, u_M_0, f_M_1, u_M_1, f_M_2, l_M_2, r_M_2, w_M_2, f_M_3, u_M_3, f_M_4, u_M_4, f_M_5, u_M_5, f_M_6, u_M_6, f_M_7, u_M_7, f_M_8, u_M_8, f_M_9, l_M_9, r_M_9, w_M_9, f_M_10, l_M_10, r_M_10, w_M_10, f_M_11, l_M_11, r_M_11, w_M_11, f_M_12, l_M_12, r_M_12, w_M_12, f_M_13, l_M_13, r_M_13, w_M_13, f_M_14, l_M_14, r_M_14, w_M_14, f_M_15, l_M_15, r_M_15, w_M_15, f_M_16, l_M_16, r_M_16, w_M_16, f_M_17, l_M_17, r_M_17, w_M_17, f_M_18, l_M_18, r_M_18, w_M_18, sset_eq, gset_at, gset_gset, gset_ne, pset_eq, pset_ne, hli, hlj]
  · rw [bZ_neg a1] at hli
    rw [if_neg (fun z => a1 z.1.1)]
    refine ⟨T0 (σ 10), ?_, sm_mono (T0_sm _) (by decide)⟩
    unfold T0 at *
    simp (disch := first | omega | exact Nat.le_of_ble_eq_true rfl) only [e_M_bag, s_M_bag_0, s_M_bag_1, s_M_bag_2, s_M_bag_5, s_M_bag_6, s_M_bag_7, s_M_bag_10, s_M_bag_13, s_M_bag_14, s_M_bag_15, s_M_bag_18, s_M_bag_21, s_M_bag_22, s_M_bag_23, s_M_bag_24, s_M_bag_27, s_M_bag_30, s_M_bag_32, s_M_bag_33, s_M_bag_34, s_M_bag_37, s_M_bag_38, s_M_bag_39, s_M_bag_40, s_M_bag_41, s_M_bag_44, Option.bind_some, Option.bind_none, Option.toList_some, Option.toList_none, List.cons_append, List.nil_append, if_true, if_false, rz_clr, true_or, or_true, z00, z11, bZ_eq0, bZ_eq1, nor_self, if_pos, if_neg, zI_add, zI_sub, zI_mul, zI_neg, zI_lt, zI_le, zI_eq, c_M, f_M_0, u_M_0, f_M_1, u_M_1, f_M_2, l_M_2, r_M_2, w_M_2, f_M_3, u_M_3, f_M_4, u_M_4, f_M_5, u_M_5, f_M_6, u_M_6, f_M_7, u_M_7, f_M_8, u_M_8, f_M_9, l_M_9, r_M_9, w_M_9, f_M_10, l_M_10, r_M_10, w_M_10, f_M_11, l_M_11, r_M_11, w_M_11, f_M_12, l_M_12, r_M_12, w_M_12, f_M_13, l_M_13, r_M_13, w_M_13, f_M_14, l_M_14, r_M_14, w_M_14, f_M_15, l_M_15, r_M_15, w_M_15, f_M_16, l_M_16, r_M_16, w_M_16, f_M_17, l_M_17, r_M_17, w_M_17, f_M_18, l_M_18, r_M_18, w_M_18, sset_eq, gset_at, gset_gset, gset_ne, pset_eq, pset_ne, hli]
end MS1
