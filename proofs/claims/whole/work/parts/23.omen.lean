-- the class: what its values rest on
/-- the class's state, as it stands between calls: the plan is the group gp -/
def IC (σ : zS) (gp : Nat) : Prop := (gp = 8 ∨ gp = 9) ∧ (σ 0 7 0 = gp ∧ σ 0 8 0 = 17 - (gp : Int)) ∧ wfP (σ gp) ∧ lkP (σ gp) ∧ wfW (σ 2) (σ gp) ∧ (0 ≤ σ 0 9 0 ∧ σ 0 9 0 ≤ 3) ∧ MR (σ 6) ∧ σ 6 4 0 ≤ 90000
def laO (p : zP) : Nat → Int := r2 (lawP p 0) (lawP p 1)
def hoO (p : zP) : Nat → Int := r2 (p 5 0) (p 5 1)
/-- a value from a position, as the walk stands -/
def valQ (p : zP) (la hm : Nat → Int) (q : zP) (K : Nat) (n : Int) : Int := if q 5 0 = 0 then mostA p la hm K (q 3 0) (min n (99 - q 4 0)) else wonW q
theorem MOK_fresh {p : zP} {la hm : Nat → Int} {Kn : Nat → Int} {r r' : Int} (h : ∀ i : Nat, i < 18432 → 0 ≤ Kn i ∧ Kn i / 4 ≤ r) (hr : r < r') : MOK p la hm r' Kn := by
  refine ⟨fun i hi => ?_, fun n K h1 h2 h3 h4 => ?_⟩
  · have := h i hi
    exact ⟨this.1, by omega⟩
  · have hp := plK_rg h3 (n := (n : Int)) (by omega)
    have := h (plK K n).toNat (by omega)
    omega
section OM
variable {N gp : Nat} {σ : zS}
theorem z_ahead (d : Nat) (hN : 48 ≤ N) {n : Int} (hn : 0 ≤ n ∧ n ≤ 5) (hs : 0 ≤ σ 2 4 0 ∧ σ 2 4 0 ≤ 99) : rz_dM (d + 1) iO_ahead [.ref (bs 0), .int (zI n)] (wOf N σ) = some (some (.int (zI (min n (99 - σ 2 4 0)))), wOf N σ) := by
  have hm := z_min (a := n) (b := 99 - σ 2 4 0) (by omega) (by omega)
  simp (disch := first | omega | exact Nat.le_of_ble_eq_true rfl) only [e_O_ahead, s_O_ahead_0, s_O_ahead_1, s_O_ahead_3, s_O_ahead_4, s_O_ahead_7, s_O_ahead_10, s_O_ahead_11, s_O_ahead_14, Option.bind_some, Option.bind_none, Option.toList_some, Option.toList_none, List.cons_append, List.nil_append, if_true, if_false, rz_clr, true_or, or_true, z00, z11, bZ_eq0, bZ_eq1, nor_self, if_pos, if_neg, zI_add, zI_sub, c_O, f_O_0, f_O_1, f_O_2, f_O_3, f_O_4, f_O_5, f_O_6, l_O_6, r_O_6, w_O_6, f_O_7, u_O_7, f_O_8, u_O_8, f_O_9, u_O_9, f_O_10, u_O_10, c_W, f_W_0, l_W_0, r_W_0, w_W_0, f_W_1, l_W_1, r_W_1, w_W_1, f_W_2, u_W_2, f_W_3, u_W_3, f_W_4, u_W_4, f_W_5, u_W_5, f_W_6, u_W_6, hm]
/-- behind a begin, a value -/
theorem z_valueFrom (hN : 48 ≤ N) (hw : wfP (σ gp)) (hq : wfW (σ 2) (σ gp)) (hC : RC σ gp) {K : Nat} {n : Int} (hn : 0 ≤ n ∧ n ≤ 5) (hK : vK (σ gp) K) (hM : MOKσ σ gp (σ 6 0)) (E : Nat) : ∃ K', rz_dM (E + 41) iO_valueFrom [.ref (bs 0), .int (zI K), .int (zI n)] (wOf N σ) = some (some (.int (zI (valQ (σ gp) (σ 6 1) (σ 6 2) (σ 2) K n))), wOf N (RS σ K')) ∧ MOKσ σ gp K' := by
  obtain ⟨q1, q2, q3, q4, q5, q6⟩ := id hq
  unfold valQ
  by_cases q : σ 2 5 0 = 0
  · rw [if_pos q]
    have hs := q6 q
    obtain ⟨K', h1, h2⟩ := z_mostAny (σ := σ) hN hC (b := σ 2 3 0) (a := min n (99 - σ 2 4 0)) (by omega) hK (by omega) E (σ 6 0) hM
    rw [RS_self] at h1
    refine ⟨K', ?_, h2⟩
    simp (disch := first | omega | exact Nat.le_of_ble_eq_true rfl) only [e_O_valueFrom, s_O_valueFrom_0, s_O_valueFrom_1, s_O_valueFrom_4, s_O_valueFrom_7, s_O_valueFrom_10, s_O_valueFrom_11, s_O_valueFrom_14, s_O_valueFrom_17, s_O_valueFrom_18, s_O_valueFrom_19, s_O_valueFrom_22, s_O_valueFrom_23, s_O_valueFrom_24, s_O_valueFrom_27, s_O_valueFrom_30, s_O_valueFrom_31, s_O_valueFrom_32, s_O_valueFrom_35, s_O_valueFrom_38, Option.bind_some, Option.bind_none, Option.toList_some, Option.toList_none, List.cons_append, List.nil_append, if_true, if_false, rz_clr, true_or, or_true, z00, z11, bZ_eq0, bZ_eq1, nor_self, if_pos, if_neg, zI_add, zI_sub, zI_mul, zI_neg, zI_lt, zI_le, zI_eq, c_O, f_O_0, f_O_1, f_O_2, f_O_3, f_O_4, f_O_5, f_O_6, l_O_6, r_O_6, w_O_6, f_O_7, u_O_7, f_O_8, u_O_8, f_O_9, u_O_9, f_O_10, u_O_10, c_W, f_W_0, l_W_0, r_W_0, w_W_0, f_W_1, l_W_1, r_W_1, w_W_1, f_W_2, u_W_2, f_W_3, u_W_3, f_W_4, u_W_4, f_W_5, u_W_5, f_W_6, u_W_6, c_R, f_R_0, l_R_0, r_R_0, w_R_0, f_R_1, l_R_1, r_R_1, w_R_1, f_R_2, l_R_2, r_R_2, w_R_2, f_R_3, u_R_3, f_R_4, u_R_4, z_ahead, h1]
  · rw [if_neg q]
    refine ⟨σ 6 0, ?_, hM⟩
    rw [RS_self]
    simp (disch := first | omega | exact Nat.le_of_ble_eq_true rfl) only [e_O_valueFrom, s_O_valueFrom_0, s_O_valueFrom_1, s_O_valueFrom_4, s_O_valueFrom_7, s_O_valueFrom_10, s_O_valueFrom_11, s_O_valueFrom_14, s_O_valueFrom_17, s_O_valueFrom_18, s_O_valueFrom_19, s_O_valueFrom_22, s_O_valueFrom_23, s_O_valueFrom_24, s_O_valueFrom_27, s_O_valueFrom_30, s_O_valueFrom_31, s_O_valueFrom_32, s_O_valueFrom_35, s_O_valueFrom_38, Option.bind_some, Option.bind_none, Option.toList_some, Option.toList_none, List.cons_append, List.nil_append, if_true, if_false, rz_clr, true_or, or_true, z00, z11, bZ_eq0, bZ_eq1, nor_self, if_pos, if_neg, zI_add, zI_sub, zI_mul, zI_neg, zI_lt, zI_le, zI_eq, c_O, f_O_0, f_O_1, f_O_2, f_O_3, f_O_4, f_O_5, f_O_6, l_O_6, r_O_6, w_O_6, f_O_7, u_O_7, f_O_8, u_O_8, f_O_9, u_O_9, f_O_10, u_O_10, c_W, f_W_0, l_W_0, r_W_0, w_W_0, f_W_1, l_W_1, r_W_1, w_W_1, f_W_2, u_W_2, f_W_3, u_W_3, f_W_4, u_W_4, f_W_5, u_W_5, f_W_6, u_W_6, c_R, f_R_0, l_R_0, r_R_0, w_R_0, f_R_1, l_R_1, r_R_1, w_R_1, f_R_2, l_R_2, r_R_2, w_R_2, f_R_3, u_R_3, f_R_4, u_R_4, z_won]
/-- the reckoner's group behind a value: nothing is known of it but this -/
def MRn (r : zP) (n : Int) : Prop := MR r ∧ r 4 0 = n
theorem beginR_f (r p : zP) (gp : Nat) (l0 l1 : Int) : beginR r p gp l0 l1 3 0 = gp ∧ beginR r p gp l0 l1 4 0 = r 4 0 + 1 ∧ beginR r p gp l0 l1 0 = r 0 ∧ (beginR r p gp l0 l1 1 0 = l0 ∧ beginR r p gp l0 l1 1 1 = l1) ∧ (beginR r p gp l0 l1 2 0 = p 5 0 ∧ beginR r p gp l0 l1 2 1 = p 5 1) := by
  unfold beginR pset zup
  simp
theorem valQ_congr {p : zP} {la la' hm hm' : Nat → Int} (h0 : la 0 = la' 0) (h1 : la 1 = la' 1) (g0 : hm 0 = hm' 0) (g1 : hm 1 = hm' 1) (q : zP) (K : Nat) (n : Int) : valQ p la hm q K n = valQ p la' hm' q K n := by
  obtain ⟨-, -, -, -, -, a6, a7⟩ := gV_congr (p := p) h0 h1 g0 g1
  unfold valQ mostA
  rw [a7, show gV p la hm = gV p la' hm' from funext fun n => funext fun K => a6 n K]
theorem RS_mr {σ : zS} {gp : Nat} {K' : Nat → Int} (h : MOKσ σ gp K') (hr : 0 ≤ σ 6 4 0) : MRn (RS σ K' 6) (σ 6 4 0) := by
  refine ⟨⟨?_, fun i hi => ?_⟩, ?_⟩
  · rw [RS_6 (by decide)]; exact hr
  · rw [RS_0, RS_6 (by decide)]; exact h.1 i hi
  · rw [RS_6 (by decide)]
/-- after begin with any laws, homes the plan's: a value -/
theorem z_begun (hN : 48 ≤ N) (hI : IC σ gp) {l0 l1 : Int} (h0 : rg l0) (h1 : rg l1) {K : Nat} {n : Int} (hn : 0 ≤ n ∧ n ≤ 5) (hK : vK (σ gp) K) (E : Nat) : ∃ r, rz_dM (E + 41) iO_valueFrom [.ref (bs 0), .int (zI K), .int (zI n)] (wOf N (gset σ 6 (beginR (σ 6) (σ gp) gp l0 l1))) = some (some (.int (zI (valQ (σ gp) (r2 l0 l1) (hoO (σ gp)) (σ 2) K n))), wOf N (gset σ 6 r)) ∧ MRn r (σ 6 4 0 + 1) := by
  obtain ⟨i1, i2, i3, i4, i5, i6, i7, i8⟩ := hI
  obtain ⟨b1, b2, b3, b4, b5⟩ := beginR_f (σ 6) (σ gp) gp l0 l1
  generalize hr : beginR (σ 6) (σ gp) gp l0 l1 = r at b1 b2 b3 b4 b5
  have hg : gset σ 6 r gp = σ gp := gset_ne (by omega)
  have h2 : gset σ 6 r 2 = σ 2 := gset_ne (by decide)
  have h6 : gset σ 6 r 6 = r := gset_at σ 6 r
  have hm0 := (i3.2.2.2 0 (by decide)).2.1
  have hm1 := (i3.2.2.2 1 (by decide)).2.1
  have ha := wfP_area i3
  have hr40 := i7.1
  have hC : RC (gset σ 6 r) gp := by
    refine ⟨by omega, by omega, by rw [h6]; exact b1, by rw [hg]; exact i3, by rw [hg]; exact i4, fun m hm => ?_, fun m hm => ?_, by rw [h6, b2]; omega, by rw [h6, b2]; omega⟩
    · rw [h6]
      have e : m = 0 ∨ m = 1 := by omega
      rcases e with e | e <;> subst e
      · rw [b4.1]; exact h0
      · rw [b4.2]; exact h1
    · rw [h6]
      have e : m = 0 ∨ m = 1 := by omega
      rcases e with e | e <;> subst e
      · rw [b5.1]; omega
      · rw [b5.2]; omega
  have hM : MOKσ (gset σ 6 r) gp ((gset σ 6 r) 6 0) := by
    show MOK (gset σ 6 r gp) (gset σ 6 r 6 1) (gset σ 6 r 6 2) (gset σ 6 r 6 4 0) (gset σ 6 r 6 0)
    rw [h6, b2, b3]
    exact MOK_fresh i7.2 (by omega)
  obtain ⟨K', e1, e2⟩ := z_valueFrom (σ := gset σ 6 r) (gp := gp) hN (by rw [hg]; exact i3) (by rw [hg, h2]; exact i5) hC hn (by rw [hg]; exact hK) hM E
  refine ⟨pset r 0 K', ?_, ?_⟩
  · rw [e1, hg, h2, h6]
    rw [valQ_congr (la := r 1) (la' := r2 l0 l1) (hm := r 2) (hm' := hoO (σ gp)) b4.1 b4.2 b5.1 b5.2]
    have e9 : RS (gset σ 6 r) K' = gset σ 6 (pset r 0 K') := by
      unfold RS
      rw [gset_at, gset_gset]
    rw [e9]
  · have := RS_mr e2 (by rw [h6, b2]; omega)
    have e9 : RS (gset σ 6 r) K' 6 = pset r 0 K' := by
      unfold RS
      rw [gset_at, gset_at]
    rw [e9, h6, b2] at this
    exact this
theorem z_valueByLaws (hN : 48 ≤ N) (hI : IC σ gp) {l0 l1 : Int} (h0 : rg l0) (h1 : rg l1) {n : Int} (hn : 0 ≤ n ∧ n ≤ 5) (E : Nat) : ∃ r, rz_dM (E + 42) iO_valueByLaws [.ref (bs 0), .int (zI l0), .int (zI l1), .int (zI n)] (wOf N σ) = some (some (.int (zI (valQ (σ gp) (r2 l0 l1) (hoO (σ gp)) (σ 2) (kW (σ 2)) n))), wOf N (gset σ 6 r)) ∧ MRn r (σ 6 4 0 + 1) := by
  obtain ⟨r, e1, e2⟩ := z_begun hN hI h0 h1 hn (kW_f hI.2.2.1 hI.2.2.2.2.1).1 E
  obtain ⟨i1, i2, i3, i4, i5, i6, i7, i8⟩ := hI
  refine ⟨r, ?_, e2⟩
  have e7 : (σ 0 7 0).toNat = gp := by omega
  have hk := z_key (E + 39) (N := N) (g := 2) (σ := gset σ 6 (beginR (σ 6) (σ gp) gp l0 l1)) (p := σ gp) (by decide) (by decide) hN i3 (by rw [gset_ne (by decide)]; exact i5)
  rw [show gset σ 6 (beginR (σ 6) (σ gp) gp l0 l1) 2 = σ 2 from gset_ne (by decide)] at hk
  simp (disch := first | omega | exact Nat.le_of_ble_eq_true rfl) only [e_O_valueByLaws, s_O_valueByLaws_0, s_O_valueByLaws_1, s_O_valueByLaws_4, s_O_valueByLaws_5, s_O_valueByLaws_8, s_O_valueByLaws_9, s_O_valueByLaws_10, s_O_valueByLaws_13, s_O_valueByLaws_14, s_O_valueByLaws_15, s_O_valueByLaws_18, s_O_valueByLaws_21, s_O_valueByLaws_22, s_O_valueByLaws_25, Option.bind_some, Option.bind_none, Option.toList_some, Option.toList_none, List.cons_append, List.nil_append, if_true, if_false, rz_clr, true_or, or_true, z00, z11, bZ_eq0, bZ_eq1, nor_self, if_pos, if_neg, zI_add, zI_sub, zI_mul, zI_neg, zI_lt, zI_le, zI_eq, c_O, f_O_0, f_O_1, f_O_2, f_O_3, f_O_4, f_O_5, f_O_6, l_O_6, r_O_6, w_O_6, f_O_7, u_O_7, f_O_8, u_O_8, f_O_9, u_O_9, f_O_10, u_O_10, c_W, f_W_0, l_W_0, r_W_0, w_W_0, f_W_1, l_W_1, r_W_1, w_W_1, f_W_2, u_W_2, f_W_3, u_W_3, f_W_4, u_W_4, f_W_5, u_W_5, f_W_6, u_W_6, c_R, f_R_0, l_R_0, r_R_0, w_R_0, f_R_1, l_R_1, r_R_1, w_R_1, f_R_2, l_R_2, r_R_2, w_R_2, f_R_3, u_R_3, f_R_4, u_R_4, sset_eq, gset_at, gset_gset, gset_ne, pset_eq, pset_ne, e7, z_begin, hk, e1]
theorem z_reckonAsItIs (d : Nat) (hN : 48 ≤ N) (hI : IC σ gp) : rz_dM (d + 4) iO_reckonAsItIs [.ref (bs 0)] (wOf N σ) = some (none, wOf N (gset σ 6 (beginR (σ 6) (σ gp) gp (lawP (σ gp) 0) (lawP (σ gp) 1)))) := by
  obtain ⟨i1, i2, i3, i4, i5, i6, i7, i8⟩ := hI
  have e7 : (σ 0 7 0).toNat = gp := by omega
  simp (disch := first | omega | exact Nat.le_of_ble_eq_true rfl) only [e_O_reckonAsItIs, s_O_reckonAsItIs_0, s_O_reckonAsItIs_1, s_O_reckonAsItIs_4, s_O_reckonAsItIs_5, s_O_reckonAsItIs_8, s_O_reckonAsItIs_9, s_O_reckonAsItIs_12, s_O_reckonAsItIs_13, s_O_reckonAsItIs_16, s_O_reckonAsItIs_17, s_O_reckonAsItIs_20, s_O_reckonAsItIs_21, s_O_reckonAsItIs_24, s_O_reckonAsItIs_27, Option.bind_some, Option.bind_none, Option.toList_some, Option.toList_none, List.cons_append, List.nil_append, if_true, if_false, rz_clr, true_or, or_true, z00, z11, bZ_eq0, bZ_eq1, nor_self, if_pos, if_neg, zI_add, zI_sub, zI_mul, zI_neg, zI_lt, zI_le, zI_eq, c_O, f_O_0, f_O_1, f_O_2, f_O_3, f_O_4, f_O_5, f_O_6, l_O_6, r_O_6, w_O_6, f_O_7, u_O_7, f_O_8, u_O_8, f_O_9, u_O_9, f_O_10, u_O_10, c_P, f_P_0, l_P_0, r_P_0, w_P_0, f_P_1, l_P_1, r_P_1, w_P_1, f_P_2, l_P_2, r_P_2, w_P_2, f_P_3, l_P_3, r_P_3, w_P_3, f_P_4, l_P_4, r_P_4, w_P_4, f_P_5, l_P_5, r_P_5, w_P_5, f_P_6, l_P_6, r_P_6, w_P_6, f_P_7, l_P_7, r_P_7, w_P_7, f_P_8, u_P_8, f_P_9, u_P_9, f_P_10, u_P_10, c_R, f_R_0, l_R_0, r_R_0, w_R_0, f_R_1, l_R_1, r_R_1, w_R_1, f_R_2, l_R_2, r_R_2, w_R_2, f_R_3, u_R_3, f_R_4, u_R_4, e7, z_begin, z_lawOf, i3]
theorem z_valueAsItIs (hN : 48 ≤ N) (hI : IC σ gp) {n : Int} (hn : 0 ≤ n ∧ n ≤ 5) (E : Nat) : ∃ r, rz_dM (E + 42) iO_valueAsItIs [.ref (bs 0), .int (zI n)] (wOf N σ) = some (some (.int (zI (valQ (σ gp) (laO (σ gp)) (hoO (σ gp)) (σ 2) (kW (σ 2)) n))), wOf N (gset σ 6 r)) ∧ MRn r (σ 6 4 0 + 1) := by
  have hl0 := lawP_rg hI.2.2.1 (m := 0) (by omega)
  have hl1 := lawP_rg hI.2.2.1 (m := 1) (by omega)
  obtain ⟨r, e1, e2⟩ := z_begun hN hI (l0 := lawP (σ gp) 0) (l1 := lawP (σ gp) 1) (by omega) (by omega) hn (kW_f hI.2.2.1 hI.2.2.2.2.1).1 E
  have hra := z_reckonAsItIs (E + 37) hN hI
  obtain ⟨i1, i2, i3, i4, i5, i6, i7, i8⟩ := hI
  refine ⟨r, ?_, e2⟩
  have hk := z_key (E + 39) (N := N) (g := 2) (σ := gset σ 6 (beginR (σ 6) (σ gp) gp (lawP (σ gp) 0) (lawP (σ gp) 1))) (p := σ gp) (by decide) (by decide) hN i3 (by rw [gset_ne (by decide)]; exact i5)
  rw [show gset σ 6 (beginR (σ 6) (σ gp) gp (lawP (σ gp) 0) (lawP (σ gp) 1)) 2 = σ 2 from gset_ne (by decide)] at hk
  simp (disch := first | omega | exact Nat.le_of_ble_eq_true rfl) only [e_O_valueAsItIs, s_O_valueAsItIs_0, s_O_valueAsItIs_1, s_O_valueAsItIs_4, s_O_valueAsItIs_5, s_O_valueAsItIs_6, s_O_valueAsItIs_9, s_O_valueAsItIs_12, s_O_valueAsItIs_13, s_O_valueAsItIs_16, Option.bind_some, Option.bind_none, Option.toList_some, Option.toList_none, List.cons_append, List.nil_append, if_true, if_false, rz_clr, true_or, or_true, z00, z11, bZ_eq0, bZ_eq1, nor_self, if_pos, if_neg, zI_add, zI_sub, zI_mul, zI_neg, zI_lt, zI_le, zI_eq, c_O, f_O_0, f_O_1, f_O_2, f_O_3, f_O_4, f_O_5, f_O_6, l_O_6, r_O_6, w_O_6, f_O_7, u_O_7, f_O_8, u_O_8, f_O_9, u_O_9, f_O_10, u_O_10, c_W, f_W_0, l_W_0, r_W_0, w_W_0, f_W_1, l_W_1, r_W_1, w_W_1, f_W_2, u_W_2, f_W_3, u_W_3, f_W_4, u_W_4, f_W_5, u_W_5, f_W_6, u_W_6, c_R, f_R_0, l_R_0, r_R_0, w_R_0, f_R_1, l_R_1, r_R_1, w_R_1, f_R_2, l_R_2, r_R_2, w_R_2, f_R_3, u_R_3, f_R_4, u_R_4, sset_eq, gset_at, gset_gset, gset_ne, pset_eq, pset_ne, hra, hk, e1]
  rfl
end OM
