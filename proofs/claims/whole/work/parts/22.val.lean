-- values, asked of the class
/-- a walk's key -/
def kW (q : zP) : Nat := (q 0 0).toNat + 16 * (q 0 1).toNat + 256 * (q 1 0).toNat + 1024 * (q 1 1).toNat + 4096 * (q 2 0).toNat
theorem key_x : ∀ c0, c0 < 16 → ∀ c1, c1 < 16 → ∀ l0, l0 < 3 → ∀ l1, l1 < 3 → ∀ t, t < 2 → (((zI ((c0 : Nat) : Int) ||| (zI ((c1 : Nat) : Int) <<< (zI 4 &&& 31))) ||| (zI ((l0 : Nat) : Int) <<< (zI 8 &&& 31))) ||| (zI ((l1 : Nat) : Int) <<< (zI 10 &&& 31))) ||| (zI ((t : Nat) : Int) <<< (zI 12 &&& 31)) = zI ((c0 + 16 * c1 + 256 * l0 + 1024 * l1 + 4096 * t : Nat) : Int) := by decide +kernel
theorem kW_f {q p : zP} (hw : wfP p) (h : wfW q p) : vK p (kW q) ∧ cl (kW q) 0 = (q 0 0).toNat ∧ cl (kW q) 1 = (q 0 1).toNat ∧ lf (kW q) 0 = (q 1 0).toNat ∧ lf (kW q) 1 = (q 1 1).toNat ∧ tl (kW q) = (q 2 0).toNat := by
  have ha := wfP_area hw
  obtain ⟨a1, a2, -⟩ := h
  have b0 := a1 0 (by decide)
  have b1 := a1 1 (by decide)
  generalize har : p 8 0 * p 9 0 = ar at ha b0 b1
  have h0 : cl (kW q) 0 = (q 0 0).toNat := by unfold cl kW; rw [if_pos rfl]; omega
  have h1 : cl (kW q) 1 = (q 0 1).toNat := by unfold cl kW; rw [if_neg (by decide)]; omega
  have h2 : lf (kW q) 0 = (q 1 0).toNat := by unfold lf kW; rw [if_pos rfl]; omega
  have h3 : lf (kW q) 1 = (q 1 1).toNat := by unfold lf kW; rw [if_neg (by decide)]; omega
  have h4 : tl (kW q) = (q 2 0).toNat := by unfold tl kW; omega
  exact ⟨⟨by unfold kW; omega, by omega, by omega, by omega, by omega⟩, h0, h1, h2, h3, h4⟩
theorem z_key (d : Nat) {N g : Nat} {σ : zS} {p : zP} (h1 : 2 ≤ g) (h2 : g ≤ 5) (hN : 48 ≤ N) (hw : wfP p) (h : wfW (σ g) p) : rz_dM (d + 2) iW_key [.ref (bs g)] (wOf N σ) = some (some (.int (zI (kW (σ g) : Nat))), wOf N σ) := by
  have ha := wfP_area hw
  obtain ⟨a1, a2, -⟩ := h
  have b0 := a1 0 (by decide)
  have b1 := a1 1 (by decide)
  obtain ⟨c0, e0⟩ : ∃ n : Nat, σ g 0 0 = n := ⟨(σ g 0 0).toNat, by omega⟩
  obtain ⟨c1, e1⟩ : ∃ n : Nat, σ g 0 1 = n := ⟨(σ g 0 1).toNat, by omega⟩
  obtain ⟨l0, e2⟩ : ∃ n : Nat, σ g 1 0 = n := ⟨(σ g 1 0).toNat, by omega⟩
  obtain ⟨l1, e3⟩ : ∃ n : Nat, σ g 1 1 = n := ⟨(σ g 1 1).toNat, by omega⟩
  obtain ⟨t, e4⟩ : ∃ n : Nat, σ g 2 0 = n := ⟨(σ g 2 0).toNat, by omega⟩
  have hx := key_x c0 (by omega) c1 (by omega) l0 (by omega) l1 (by omega) t (by omega)
  unfold kW
  rw [e0, e1, e2, e3, e4]
  simp only [Int.toNat_natCast]
  have t0 : Int.toNat 0 = 0 := rfl
  have t1 : Int.toNat 1 = 1 := rfl
  simp (disch := first | omega | exact Nat.le_of_ble_eq_true rfl) only [e_W_key, s_W_key_0, s_W_key_1, s_W_key_4, s_W_key_5, s_W_key_8, s_W_key_9, s_W_key_12, s_W_key_13, s_W_key_16, s_W_key_17, s_W_key_18, s_W_key_19, s_W_key_20, s_W_key_21, s_W_key_22, s_W_key_25, s_W_key_26, s_W_key_29, s_W_key_31, s_W_key_32, s_W_key_33, s_W_key_34, s_W_key_37, s_W_key_38, s_W_key_41, s_W_key_43, s_W_key_44, s_W_key_45, s_W_key_46, s_W_key_49, s_W_key_51, s_W_key_52, s_W_key_53, Option.bind_some, Option.bind_none, Option.toList_some, Option.toList_none, List.cons_append, List.nil_append, if_true, if_false, rz_clr, true_or, or_true, z00, z11, bZ_eq0, bZ_eq1, nor_self, if_pos, if_neg, zI_add, zI_sub, zI_mul, zI_neg, zI_lt, zI_le, zI_eq, c_W, f_W_0, l_W_0, r_W_0, w_W_0, f_W_1, l_W_1, r_W_1, w_W_1, f_W_2, u_W_2, f_W_3, u_W_3, f_W_4, u_W_4, f_W_5, u_W_5, f_W_6, u_W_6, a_W_0, p_W_0, a_W_1, p_W_1, gat_in, t0, t1, e0, e1, e2, e3, e4, hx]
def beginR (r p : zP) (gp : Nat) (l0 l1 : Int) : zP := pset (pset (pset (pset r 3 (fun _ => (gp : Int))) 4 (fun _ => r 4 0 + 1)) 1 (zup (zup (r 1) 0 l0) 1 l1)) 2 (zup (zup (r 2) 0 (p 5 0)) 1 (p 5 1))
theorem pset_pset (q : zP) (k : Nat) (a b : Nat → Int) : pset (pset q k a) k b = pset q k b := by
  funext j
  unfold pset
  by_cases h : j = k
  · simp [h]
  · simp [h]
def MR (r : zP) : Prop := 0 ≤ r 4 0 ∧ ∀ i : Nat, i < 18432 → 0 ≤ r 0 i ∧ r 0 i / 4 ≤ r 4 0
theorem z_begin (d : Nat) {N gp : Nat} {σ : zS} (h1 : 7 ≤ gp) (h2 : gp ≤ 9) (hN : 48 ≤ N) {l0 l1 : Int} : rz_dM (d + 3) iR_begin [.ref (bs 6), .ref (bs gp), .int (zI l0), .int (zI l1)] (wOf N σ) = some (none, wOf N (gset σ 6 (beginR (σ 6) (σ gp) gp l0 l1))) := by
  have hs : ∀ (r : zP) (a b : Int), rz_dM (d + 2) iR_setHomes [.ref (bs 6), .int (zI a), .int (zI b)] (wOf N (gset σ 6 r)) = some (none, wOf N (gset σ 6 (pset r 2 (zup (zup (r 2) 0 a) 1 b)))) := by
    intro r a b
    simp (disch := first | omega | exact Nat.le_of_ble_eq_true rfl) only [e_R_setHomes, s_R_setHomes_0, s_R_setHomes_1, s_R_setHomes_4, s_R_setHomes_5, s_R_setHomes_6, s_R_setHomes_9, s_R_setHomes_10, s_R_setHomes_13, s_R_setHomes_14, s_R_setHomes_15, s_R_setHomes_18, Option.bind_some, Option.bind_none, Option.toList_some, Option.toList_none, List.cons_append, List.nil_append, if_true, if_false, rz_clr, true_or, or_true, z00, z11, bZ_eq0, bZ_eq1, nor_self, if_pos, if_neg, zI_add, zI_sub, zI_mul, zI_neg, zI_lt, zI_le, zI_eq, c_R, f_R_0, l_R_0, r_R_0, w_R_0, f_R_1, l_R_1, r_R_1, w_R_1, f_R_2, l_R_2, r_R_2, w_R_2, f_R_3, u_R_3, f_R_4, u_R_4, a_R_0, p_R_0, a_R_1, p_R_1, a_R_2, p_R_2, sset_eq, gset_at, gset_gset, gset_ne, pset_eq, pset_ne, gat_in, pup_in, pset_pset]
    rfl
  simp (disch := first | omega | exact Nat.le_of_ble_eq_true rfl) only [e_R_begin, s_R_begin_0, s_R_begin_1, s_R_begin_2, s_R_begin_5, s_R_begin_6, s_R_begin_7, s_R_begin_10, s_R_begin_11, s_R_begin_12, s_R_begin_15, s_R_begin_16, s_R_begin_19, s_R_begin_20, s_R_begin_21, s_R_begin_24, s_R_begin_25, s_R_begin_28, s_R_begin_29, s_R_begin_30, s_R_begin_33, s_R_begin_34, s_R_begin_35, s_R_begin_38, s_R_begin_39, s_R_begin_42, s_R_begin_43, s_R_begin_46, s_R_begin_47, s_R_begin_50, s_R_begin_53, Option.bind_some, Option.bind_none, Option.toList_some, Option.toList_none, List.cons_append, List.nil_append, if_true, if_false, rz_clr, true_or, or_true, z00, z11, bZ_eq0, bZ_eq1, nor_self, if_pos, if_neg, zI_add, zI_sub, zI_mul, zI_neg, zI_lt, zI_le, zI_eq, c_R, f_R_0, l_R_0, r_R_0, w_R_0, f_R_1, l_R_1, r_R_1, w_R_1, f_R_2, l_R_2, r_R_2, w_R_2, f_R_3, u_R_3, f_R_4, u_R_4, a_R_0, p_R_0, a_R_1, p_R_1, a_R_2, p_R_2, c_P, f_P_0, l_P_0, r_P_0, w_P_0, f_P_1, l_P_1, r_P_1, w_P_1, f_P_2, l_P_2, r_P_2, w_P_2, f_P_3, l_P_3, r_P_3, w_P_3, f_P_4, l_P_4, r_P_4, w_P_4, f_P_5, l_P_5, r_P_5, w_P_5, f_P_6, l_P_6, r_P_6, w_P_6, f_P_7, l_P_7, r_P_7, w_P_7, f_P_8, u_P_8, f_P_9, u_P_9, f_P_10, u_P_10, a_P_0, p_P_0, a_P_1, p_P_1, a_P_2, p_P_2, a_P_3, p_P_3, a_P_4, p_P_4, a_P_5, p_P_5, a_P_6, p_P_6, a_P_7, p_P_7, sset_eq, gset_at, gset_gset, gset_ne, pset_eq, pset_ne, gat_in, pup_in, pset_pset, hs]
  rfl
theorem z_setHomes (d : Nat) {N : Nat} {σ : zS} (hN : 48 ≤ N) {a b : Int} : rz_dM (d + 2) iR_setHomes [.ref (bs 6), .int (zI a), .int (zI b)] (wOf N σ) = some (none, wOf N (gset σ 6 (pset (σ 6) 2 (zup (zup (σ 6 2) 0 a) 1 b)))) := by
  simp (disch := first | omega | exact Nat.le_of_ble_eq_true rfl) only [e_R_setHomes, s_R_setHomes_0, s_R_setHomes_1, s_R_setHomes_4, s_R_setHomes_5, s_R_setHomes_6, s_R_setHomes_9, s_R_setHomes_10, s_R_setHomes_13, s_R_setHomes_14, s_R_setHomes_15, s_R_setHomes_18, Option.bind_some, Option.bind_none, Option.toList_some, Option.toList_none, List.cons_append, List.nil_append, if_true, if_false, rz_clr, true_or, or_true, z00, z11, bZ_eq0, bZ_eq1, nor_self, if_pos, if_neg, zI_add, zI_sub, zI_mul, zI_neg, zI_lt, zI_le, zI_eq, c_R, f_R_0, l_R_0, r_R_0, w_R_0, f_R_1, l_R_1, r_R_1, w_R_1, f_R_2, l_R_2, r_R_2, w_R_2, f_R_3, u_R_3, f_R_4, u_R_4, a_R_0, p_R_0, a_R_1, p_R_1, a_R_2, p_R_2, sset_eq, gset_at, gset_gset, gset_ne, pset_eq, pset_ne, gat_in, pup_in, pset_pset]
  rfl
/-- two numbers as a row -/
def r2 (a b : Int) : Nat → Int := fun m => if m = 0 then a else b
theorem gV_congr {p : zP} {la la' hm hm' : Nat → Int} (h0 : la 0 = la' 0) (h1 : la 1 = la' 1) (g0 : hm 0 = hm' 0) (g1 : hm 1 = hm' 1) : (∀ K, mayK p la K = mayK p la' K) ∧ (∀ K k, leadK p la K k = leadK p la' K k) ∧ (∀ v K k, dnK p la hm v K k = dnK p la' hm' v K k) ∧ (∀ v K b, mostB p la hm v K b = mostB p la' hm' v K b) ∧ (∀ v K, mostN p la hm v K = mostN p la' hm' v K) ∧ (∀ n K, gV p la hm n K = gV p la' hm' n K) ∧ (∀ v K b, mostF p la hm v K b = mostF p la' hm' v K b) := by
  have hl : ∀ K, la (tm K) = la' (tm K) := by
    intro K
    have := tm_lt K
    have e : tm K = 0 ∨ tm K = 1 := by omega
    rcases e with e | e <;> rw [e] <;> assumption
  have hh : ∀ K, hm (tm K) = hm' (tm K) := by
    intro K
    have := tm_lt K
    have e : tm K = 0 ∨ tm K = 1 := by omega
    rcases e with e | e <;> rw [e] <;> assumption
  have a1 : ∀ K, mayK p la K = mayK p la' K := fun K => by unfold mayK; rw [hl]
  have a2 : ∀ K k, leadK p la K k = leadK p la' K k := fun K k => by unfold leadK; rw [hl]
  have a3 : ∀ v K k, dnK p la hm v K k = dnK p la' hm' v K k := fun v K k => by unfold dnK; rw [a2, hh]
  have a4 : ∀ v K b, mostB p la hm v K b = mostB p la' hm' v K b := fun v K b => by
    unfold mostB
    rw [a1, show dnK p la hm v K = dnK p la' hm' v K from funext (a3 v K)]
  have a5 : ∀ v K, mostN p la hm v K = mostN p la' hm' v K := fun v K => by
    unfold mostN
    have e : (fun k => tldK p la hm v (rfB p la K k) K k) = fun k => tldK p la' hm' v (rfB p la' K k) K k := by
      funext k
      unfold tldK refK rfB
      rw [a1, a3, a4]
    rw [a1, e]
  have a6 : ∀ n K, gV p la hm n K = gV p la' hm' n K := by
    intro n
    induction n with
    | zero => intro K; rfl
    | succ n ih =>
      intro K
      rw [gV, gV, a1, ih, show gV p la hm n = gV p la' hm' n from funext ih, a5]
  refine ⟨a1, a2, a3, a4, a5, a6, fun v K b => ?_⟩
  unfold mostF
  rw [a1, a5, a4]
/-- most, for as many steps as there are ahead -/
def mostA (p : zP) (la hm : Nat → Int) (K : Nat) (b a : Int) : Int := if a < 1 then 0 else mostF p la hm (gV p la hm (a - 1).toNat) K b
section VA
variable {N gp : Nat} {σ : zS}
theorem z_mostAny (hN : 48 ≤ N) (hC : RC σ gp) {K : Nat} {b a : Int} (ha : rg a ∧ a ≤ 5) (hK : vK (σ gp) K) (hb : b = -9 ∨ (0 ≤ b ∧ b < 8)) : ∀ (E : Nat) Kn, MOKσ σ gp Kn → ∃ K', rz_dM (E + 40) iR_mostFrom [.ref (bs 6), .int (zI K), .int (zI b), .int (zI a)] (wOf N (RS σ Kn)) = some (some (.int (zI (mostA (σ gp) (σ 6 1) (σ 6 2) K b a))), wOf N (RS σ K')) ∧ MOKσ σ gp K' := by
  intro E Kn hM
  unfold mostA
  by_cases q : a < 1
  · refine ⟨Kn, ?_, hM⟩
    rw [if_pos q]
    simp (disch := first | omega | exact Nat.le_of_ble_eq_true rfl) only [e_R_mostFrom, s_R_mostFrom_0, s_R_mostFrom_1, s_R_mostFrom_2, s_R_mostFrom_5, s_R_mostFrom_6, s_R_mostFrom_7, s_R_mostFrom_10, s_R_mostFrom_11, s_R_mostFrom_12, s_R_mostFrom_13, s_R_mostFrom_14, s_R_mostFrom_17, s_R_mostFrom_18, s_R_mostFrom_20, s_R_mostFrom_21, s_R_mostFrom_24, s_R_mostFrom_25, s_R_mostFrom_28, s_R_mostFrom_30, s_R_mostFrom_33, s_R_mostFrom_34, s_R_mostFrom_36, s_R_mostFrom_39, s_R_mostFrom_40, s_R_mostFrom_41, s_R_mostFrom_43, s_R_mostFrom_44, s_R_mostFrom_47, s_R_mostFrom_50, s_R_mostFrom_51, s_R_mostFrom_54, s_R_mostFrom_56, s_R_mostFrom_58, s_R_mostFrom_61, s_R_mostFrom_62, s_R_mostFrom_63, s_R_mostFrom_66, s_R_mostFrom_67, s_R_mostFrom_68, s_R_mostFrom_69, s_R_mostFrom_70, s_R_mostFrom_73, s_R_mostFrom_74, s_R_mostFrom_75, s_R_mostFrom_77, s_R_mostFrom_80, s_R_mostFrom_81, s_R_mostFrom_83, s_R_mostFrom_86, s_R_mostFrom_89, s_R_mostFrom_90, s_R_mostFrom_93, s_R_mostFrom_94, s_R_mostFrom_96, s_R_mostFrom_97, s_R_mostFrom_100, s_R_mostFrom_102, s_R_mostFrom_103, s_R_mostFrom_105, s_R_mostFrom_106, s_R_mostFrom_110, s_R_mostFrom_112, s_R_mostFrom_115, s_R_mostFrom_117, s_R_mostFrom_118, s_R_mostFrom_121, s_R_mostFrom_123, s_R_mostFrom_125, s_R_mostFrom_128, s_R_mostFrom_131, s_R_mostFrom_133, s_R_mostFrom_134, s_R_mostFrom_135, s_R_mostFrom_137, s_R_mostFrom_138, s_R_mostFrom_141, s_R_mostFrom_142, s_R_mostFrom_144, s_R_mostFrom_147, s_R_mostFrom_150, s_R_mostFrom_152, s_R_mostFrom_154, s_R_mostFrom_155, s_R_mostFrom_156, s_R_mostFrom_158, s_R_mostFrom_160, s_R_mostFrom_163, s_R_mostFrom_165, s_R_mostFrom_167, s_R_mostFrom_170, s_R_mostFrom_173, s_R_mostFrom_174, s_R_mostFrom_177, s_R_mostFrom_178, s_R_mostFrom_179, s_R_mostFrom_182, s_R_mostFrom_183, s_R_mostFrom_186, s_R_mostFrom_188, s_R_mostFrom_191, s_R_mostFrom_194, s_R_mostFrom_196, s_R_mostFrom_198, s_R_mostFrom_199, Option.bind_some, Option.bind_none, Option.toList_some, Option.toList_none, List.cons_append, List.nil_append, if_true, if_false, rz_clr, true_or, or_true, z00, z11, bZ_eq0, bZ_eq1, nor_self, if_pos, if_neg, zI_add, zI_sub, zI_mul, zI_neg, zI_lt, zI_le, zI_eq]
  · rw [if_neg q]
    obtain ⟨n, hn, en⟩ : ∃ n : Nat, n ≤ 4 ∧ a = (n : Int) + 1 := ⟨(a - 1).toNat, by omega, by omega⟩
    subst en
    have e1 : ((n : Int) + 1 - 1).toNat = n := by omega
    rw [e1]
    have hv := z_val (σ := σ) (gp := gp) hN hC n hn
    rcases hb with h | h
    · subst h
      have := z_mostN hN hC hv (by omega) hK (E + (28 - 7 * n)) Kn hM
      rw [show E + (28 - 7 * n) + 7 * n + 12 = E + 40 by omega] at this
      exact this
    · have := z_mostB hN hC hv (by omega) hK h (E + (31 - 7 * n)) Kn hM
      rw [show E + (31 - 7 * n) + 7 * n + 9 = E + 40 by omega] at this
      exact this
end VA
theorem RS_self (σ : zS) : RS σ (σ 6 0) = σ := by
  unfold RS
  have : pset (σ 6) 0 (σ 6 0) = σ 6 := by
    funext k
    unfold pset
    by_cases h : k = 0
    · simp [h]
    · simp [h]
  rw [this, gset_self]
