-- class and model side by side: rounds, kinds, images, text, board
section OC1
variable {σ : zS} {gp : Nat} {B : Int}
theorem k_rounds (h : REL B σ gp) (hB : B ≤ 80000) {n : Int} (hn : rg n) : CALL iO_rounds iM_rounds [.ref (bs 0), .int (zI n)] [.ref (bs 10), .int (zI n)] B σ := by
  have h' := h
  obtain ⟨⟨i1, i2, i3, i4, i5, i6, i7, i8⟩, r1, r2, r3, r4, r5, r6, r7, r8, r9⟩ := h'
  obtain ⟨q', a⟩ := z_rounds (N := 60) (σ := σ) (gp := gp) 53 (by decide) h.1 hn
  by_cases c : 1 ≤ n ∧ n ≤ 99
  · rw [if_pos c, if_pos c] at a
    have g10 : gset (gset σ 3 q') 2 (pset (σ 2) 6 (fun _ => (rdA (σ 3) (σ 2) (σ gp) n).2)) 10 = σ 10 := by rw [gset_ne (by decide), gset_ne (by decide)]
    obtain ⟨m', b, b2, b3⟩ := z_Mrounds (N := 60) (σ := gset (gset σ 3 q') 2 (pset (σ 2) 6 (fun _ => (rdA (σ 3) (σ 2) (σ gp) n).2))) (p := σ gp) (q := σ 2) 55 (by decide) (by rw [g10]; exact r4) (by rw [g10]; exact r5) i3 i4 hn (σ 3)
    rw [if_pos c] at b b3
    rw [g10] at b2
    refine ⟨_, _, _, gp, a, b, REL_x h hB b2 g10 (fun k hk => by rw [gset_ne (by decide), gset_ne (by decide)]) (by rw [gset_ne (by omega), gset_ne (by omega)]) (by rw [gset_at]; exact wfW_chance i5) (by rw [gset_ne (by decide), gset_ne (by decide)]; exact i7) (by rw [gset_ne (by decide), gset_ne (by decide)]; omega) (by rw [gset_ne (by decide), gset_ne (by decide)]; exact r1) (by rw [gset_ne (by decide), gset_ne (by decide)]) (by rw [gset_ne (by decide), gset_ne (by decide)]) (by rw [gset_at]; exact b3) ?_ ?_ (by decide)⟩
    · rw [gset_ne (by decide), gset_ne (by decide)]
      unfold tyR at r6 ⊢
      rw [b2 3 (by decide), b2 2 (by decide)]
      exact r6
    · rw [b2 1 (by decide), gset_ne (by decide), gset_ne (by decide)]; exact r9
  · rw [if_neg c, if_neg c] at a
    obtain ⟨m', b, b2, b3⟩ := z_Mrounds (N := 60) (σ := σ) (p := σ gp) (q := σ 2) 55 (by decide) r4 r5 i3 i4 hn (σ 3)
    rw [if_neg c] at b b3
    refine ⟨_, _, _, gp, a, b, REL_x h hB b2 rfl (fun k hk => rfl) rfl i5 i7 (by omega) r1 rfl rfl b3 ?_ ?_ (by decide)⟩
    · unfold tyR at r6 ⊢
      rw [b2 3 (by decide), b2 2 (by decide)]
      exact r6
    · rw [b2 1 (by decide)]; exact r9
theorem k_rate (h : REL B σ gp) (hB : B ≤ 80000) {k m : Int} (hk : rg k) (hm : rg m) : CALL iO_rate iM_rate [.ref (bs 0), .int (zI k), .int (zI m)] [.ref (bs 10), .int (zI k), .int (zI m)] B σ := by
  have h' := h
  obtain ⟨⟨i1, i2, i3, i4, i5, i6, i7, i8⟩, r1, r2, r3, r4, r5, r6, r7, r8, r9⟩ := h'
  have a := z_rate (N := 60) (σ := σ) (gp := gp) 53 (by decide) h.1 hk hm
  by_cases c : (0 ≤ m ∧ m < 2) ∧ 0 ≤ k ∧ k ≤ 5
  · rw [if_pos c] at a
    unfold trc at a
    have g10 : gset σ 0 (pset (σ 0) 10 (fun _ => σ 0 10 0 + (rateA (σ 2) (σ gp) k m).2)) 10 = σ 10 := gset_ne (by decide)
    obtain ⟨m', b, b2, b3⟩ := z_Mrate (N := 60) (σ := gset σ 0 (pset (σ 0) 10 (fun _ => σ 0 10 0 + (rateA (σ 2) (σ gp) k m).2))) (p := σ gp) (q := σ 2) 55 (by decide) (by rw [g10]; exact r4) (by rw [g10]; exact r5) i3 i4 i5 hk hm
    rw [if_pos c] at b3
    rw [g10] at b2 b3
    refine ⟨_, _, _, gp, a, b, REL_x h hB b2 g10 (fun j hj => by rw [gset_at, pset_ne (by omega)]) (gset_ne (by omega)) (by rw [gset_ne (by decide)]; exact i5) (by rw [gset_ne (by decide)]; exact i7) (by rw [gset_ne (by decide)]; omega) (by rw [gset_ne (by decide)]; exact r1) (gset_ne (by decide)) (gset_ne (by decide)) (by rw [b2 10 (by decide), gset_ne (by decide)]; exact r5) ?_ ?_ (by decide)⟩
    · rw [gset_ne (by decide)]
      unfold tyR at r6 ⊢
      rw [b2 3 (by decide), b2 2 (by decide)]
      exact r6
    · rw [b3, gset_at, pset_eq, r9]
  · rw [if_neg c] at a
    obtain ⟨m', b, b2, b3⟩ := z_Mrate (N := 60) (σ := σ) (p := σ gp) (q := σ 2) 55 (by decide) r4 r5 i3 i4 i5 hk hm
    rw [if_neg c] at b3
    refine ⟨_, _, _, gp, a, b, REL_x h hB b2 rfl (fun k hk => rfl) rfl i5 i7 (by omega) r1 rfl rfl (by rw [b2 10 (by decide)]; exact r5) ?_ ?_ (by decide)⟩
    · unfold tyR at r6 ⊢
      rw [b2 3 (by decide), b2 2 (by decide)]
      exact r6
    · rw [b3]; exact r9
theorem sR_copy {t : Nat → Int} {q r : zP} (h : sR t r) : sR t (copyW q r) := h
theorem k_back (h : REL B σ gp) (hB : B ≤ 80000) {i : Int} (hi : rg i) : CALL iO_back iM_back [.ref (bs 0), .int (zI i)] [.ref (bs 10), .int (zI i)] B σ := by
  have h' := h
  obtain ⟨⟨i1, i2, i3, i4, i5, i6, i7, i8⟩, r1, r2, r3, r4, r5, r6, r7, r8, r9⟩ := h'
  have a := z_back (N := 60) (σ := σ) 57 (by decide) i6 hi
  by_cases c : 0 ≤ i ∧ i < 2 ∧ (σ 0 9 0).toNat.testBit i.toNat = true
  · rw [if_pos c] at a
    have g10 : gset σ 2 (copyW (σ 2) (σ (4 + i.toNat))) 10 = σ 10 := gset_ne (by decide)
    obtain ⟨m', b, b2, b3, b4⟩ := z_Mback (N := 60) (σ := gset σ 2 (copyW (σ 2) (σ (4 + i.toNat)))) 58 (by decide) hi (b := fun k => (σ 0 9 0).toNat.testBit k) (by rw [g10]; exact r7) (w := σ (4 + i.toNat)) (fun z1 z2 => by rw [g10]; exact r8 _ (by omega) z2)
    rw [g10] at b2
    exact k_walk h hB a (wfW_copy (r3 _ (by omega) c.2.2)) b b2 (sR_copy (b3 c)) (by decide)
  · rw [if_neg c] at a
    obtain ⟨m', b, b2, b3, b4⟩ := z_Mback (N := 60) (σ := σ) 58 (by decide) hi (b := fun k => (σ 0 9 0).toNat.testBit k) r7 (w := σ (4 + i.toNat)) (fun z1 z2 => r8 _ (by omega) z2)
    refine ⟨_, _, _, gp, a, b, REL_x h hB b2 rfl (fun k hk => rfl) rfl i5 i7 (by omega) r1 rfl rfl (by rw [b4 c]; exact r5) ?_ ?_ (by decide)⟩
    · unfold tyR at r6 ⊢
      rw [b2 3 (by decide), b2 2 (by decide)]
      exact r6
    · rw [b2 1 (by decide)]; exact r9
theorem k_keep (h : REL B σ gp) (hB : B ≤ 80000) {i : Int} (hi : rg i) : CALL iO_keep iM_keep [.ref (bs 0), .int (zI i)] [.ref (bs 10), .int (zI i)] B σ := by
  have h' := h
  obtain ⟨⟨i1, i2, i3, i4, i5, i6, i7, i8⟩, r1, r2, r3, r4, r5, r6, r7, r8, r9⟩ := h'
  have a := z_keep (N := 60) (σ := σ) 57 (by decide) i6 hi
  by_cases c : 0 ≤ i ∧ i < 2
  · rw [if_pos c, if_pos c] at a
    obtain ⟨k, rfl⟩ : ∃ k : Nat, i = k := ⟨i.toNat, by omega⟩
    rw [Int.toNat_natCast] at a
    obtain ⟨σ1, hσ1⟩ : ∃ σ1, σ1 = gset (gset σ (4 + k) (copyW (σ (4 + k)) (σ 2))) 0 (pset (σ 0) 9 (fun _ => orB (σ 0 9 0) k)) := ⟨_, rfl⟩
    rw [← hσ1] at a
    have hk2 : k < 2 := by omega
    have e : ∀ g, g ≠ 0 → g ≠ 4 + k → σ1 g = σ g := fun g h0 h4 => by rw [hσ1, gset_ne h0, gset_ne h4]
    have e4 : σ1 (4 + k) = copyW (σ (4 + k)) (σ 2) := by rw [hσ1, gset_ne (by omega), gset_at]
    have e0 : ∀ j, j ≠ 9 → σ1 0 j = σ 0 j := fun j hj => by rw [hσ1, gset_at, pset_ne hj]
    have e09 : σ1 0 9 0 = orB (σ 0 9 0) k := by rw [hσ1, gset_at, pset_eq]
    have g10 : σ1 10 = σ 10 := e 10 (by decide) (by omega)
    have g2 : σ1 2 = σ 2 := e 2 (by decide) (by omega)
    have g1 : σ1 1 = σ 1 := e 1 (by decide) (by omega)
    have g6 : σ1 6 = σ 6 := e 6 (by decide) (by omega)
    have ggp : σ1 gp = σ gp := e gp (by omega) (by omega)
    obtain ⟨m', b, b2, b3, b4⟩ := z_Mkeep (N := 60) (σ := σ1) (q := σ 2) 58 (by decide) (by rw [g10]; exact r5) hi
    rw [if_pos c] at b
    obtain ⟨b5, b6, b7⟩ := b3 c
    rw [g10] at b2 b5 b6 b7
    rw [Int.toNat_natCast] at b5 b7
    have etb : ∀ j : Nat, (σ1 0 9 0).toNat.testBit j = ((σ 0 9 0).toNat.testBit j || decide (k = j)) := by
      intro j
      rw [e09]
      unfold orB
      rw [Int.toNat_natCast, Nat.testBit_or, Nat.testBit_two_pow]
    have hb9 : 0 ≤ σ1 0 9 0 ∧ σ1 0 9 0 ≤ 3 := by
      rw [e09]
      unfold orB
      have : (σ 0 9 0).toNat ||| 2 ^ k < 2 ^ 2 := Nat.or_lt_two_pow (by omega) (Nat.pow_lt_pow_right (by decide) hk2)
      omega
    refine ⟨_, _, gset σ1 10 m', gp, a, b, ⟨⟨i1, ?_, ?_, ?_, ?_, ?_, ?_, ?_⟩, ?_, ?_, ?_, ?_, ?_, ?_, ?_, ?_, ?_⟩⟩
    · rw [gset_ne (by decide), e0 7 (by decide), e0 8 (by decide)]; exact i2
    · rw [gset_ne (by omega), ggp]; exact i3
    · rw [gset_ne (by omega), ggp]; exact i4
    · rw [gset_ne (by decide), gset_ne (by omega), ggp, g2]; exact i5
    · rw [gset_ne (by decide)]; exact hb9
    · rw [gset_ne (by decide), g6]; exact i7
    · rw [gset_ne (by decide), g6]; exact i8
    · rw [gset_ne (by decide), g1]; exact r1
    · rw [gset_ne (by decide), g6]; omega
    · intro j hj hjb
      rw [gset_ne (by decide), etb] at hjb
      rw [gset_ne (show 4 + j ≠ 10 by omega), gset_ne (show gp ≠ 10 by omega), ggp]
      by_cases z : j = k
      · rw [z, e4]; exact wfW_copy i5
      · rw [e (4 + j) (by omega) (by omega)]
        have hz : decide (k = j) = false := decide_eq_false (fun q => z q.symm)
        rw [hz, Bool.or_false] at hjb
        exact r3 j hj hjb
    · rw [gset_at, gset_ne (by omega), ggp, b2 9 (by decide)]; exact r4
    · rw [gset_at, gset_ne (by decide), g2, b2 10 (by decide)]; exact r5
    · rw [gset_at, gset_ne (by decide), g1]
      unfold tyR at r6 ⊢
      rw [b2 3 (by decide), b2 2 (by decide)]
      exact r6
    · intro j hj
      rw [gset_at, gset_ne (by decide), etb, b7]
      by_cases z : j = k
      · rw [z, zup_eq, decide_eq_true rfl, Bool.or_true]; rfl
      · have hz : decide (k = j) = false := decide_eq_false (fun q => z q.symm)
        rw [zup_ne z, hz, Bool.or_false]; exact r7 j hj
    · intro j hj hjb
      rw [gset_ne (by decide), etb] at hjb
      rw [gset_at, gset_ne (show 4 + j ≠ 10 by omega)]
      by_cases z : j = k
      · rw [z, e4]; exact b5 _ (sR_copy r5)
      · rw [e (4 + j) (by omega) (by omega)]
        have hz : decide (k = j) = false := decide_eq_false (fun q => z q.symm)
        rw [hz, Bool.or_false] at hjb
        have hx := b6 (σ (4 + j))
        have ej : (1 - (k : Int)).toNat = j := by omega
        rw [ej] at hx
        exact hx (r8 j hj hjb)
    · rw [gset_at, gset_ne (by decide), e0 10 (by decide), b2 1 (by decide)]; exact r9
  · rw [if_neg c, if_neg c] at a
    obtain ⟨m', b, b2, b3, b4⟩ := z_Mkeep (N := 60) (σ := σ) (q := σ 2) 58 (by decide) r5 hi
    rw [if_neg c] at b
    exact ⟨_, _, _, gp, a, b, REL_m h hB (b4 c) (by decide)⟩
theorem byB_rg (v : Int64) (i : Nat) : 0 ≤ byB v i ∧ byB v i ≤ 255 := by
  unfold byB byV
  generalize ((v.toUInt64 >>> ((zI (8 * (i : Int))).toInt64.toUInt64 &&& Int64.toUInt64 63)).toInt64).toInt32 = x
  have h1 : (x &&& zI 255).toBitVec.toNat ≤ 255 := by
    rw [Int32.toBitVec_and, BitVec.toNat_and]
    exact Nat.and_le_right
  have h2 : (x &&& zI 255).toInt = ((x &&& zI 255).toBitVec.toNat : Int) := by
    show (x &&& zI 255).toBitVec.toInt = _
    rw [BitVec.toInt_eq_toNat_of_lt (by omega)]
  omega
theorem TI_ap (v : Int64) : ∀ (n : Nat) (s : zP), TI s → s 2 0 + n ≤ 300 → TI (apW v n s) := by
  intro n
  induction n with
  | zero => intro s h _; exact h
  | succ n ih =>
    intro s h hn
    obtain ⟨⟨h1, h2⟩, h3, h4⟩ := h
    rw [apW]
    apply ih
    · refine ⟨⟨?_, fun i hi => ?_⟩, h3, h4⟩
      · rw [pset_eq]; omega
      · rw [pset_ne (by decide), pset_eq]
        unfold zup
        split
        · exact byB_rg v n
        · exact h2 i hi
    · rw [pset_eq]; omega
theorem g1_10 (s : zP) : gset σ 1 s 10 = σ 10 := gset_ne (by decide)
/-- the text changed on both sides -/
theorem k_text (h : REL B σ gp) (hB : B ≤ 80000) {s' m' : zP} {i j : Nat} {as bs' : List Value} {v : Value} {L : List Nat} (a : rz_dM 60 i as (wOf 60 σ) = some (some v, wOf 60 (gset σ 1 s'))) (ht : TI s') (b : rz_dM 60 j bs' (wOf 60 (gset σ 1 s')) = some (some v, wOf 60 (gset (gset σ 1 s') 10 m'))) (c : sm L (σ 10) m') (hty : tyR m' s') (hL : ∀ k, k ∈ L → k ≠ 9 ∧ k ≠ 11 ∧ k ≠ 12 ∧ k ≠ 1 ∧ k ≠ 10) : CALL i j as bs' B σ := by
  have h' := h
  obtain ⟨⟨i1, i2, i3, i4, i5, i6, i7, i8⟩, r1, r2, r3, r4, r5, r6, r7, r8, r9⟩ := h'
  have e : ∀ k, (k = 1 ∨ k = 10) → m' k = σ 10 k := by
    intro k hk
    apply c
    intro z
    have := hL k z
    omega
  exact ⟨v, _, _, gp, a, b, REL_x h hB c (g1_10 _) (fun k hk => by rw [gset_ne (by decide)]) (gset_ne (by omega)) (by rw [gset_ne (by decide)]; exact i5) (by rw [gset_ne (by decide)]; exact i7) (by rw [gset_ne (by decide)]; omega) (by rw [gset_at]; exact ht) (gset_ne (by decide)) (gset_ne (by decide)) (by rw [e 10 (by omega), gset_ne (by decide)]; exact r5) (by rw [gset_at]; exact hty) (by rw [e 1 (by omega), gset_ne (by decide)]; exact r9) (fun k hk => by have := hL k hk; omega)⟩
theorem k_type (h : REL B σ gp) (hB : B ≤ 80000) (v : Int64) {n : Int} (hn : rg n) : CALL iO_type iM_type [.ref (bs 0), .long v, .int (zI n)] [.ref (bs 10), .long v, .int (zI n)] B σ := by
  have r1 := h.2.1
  have r6 := h.2.2.2.2.2.2.1
  have a := z_type (N := 60) (σ := σ) 57 (by decide) v hn r1.1.1
  obtain ⟨m', b, c, e⟩ := z_Mtype (N := 60) (σ := gset σ 1 (typA v n (σ 1)).2) (s := σ 1) 58 (by decide) v hn (by rw [g1_10]; exact r6) r1.1.1
  rw [g1_10] at c
  refine k_text h hB a ?_ b c e (by decide)
  have h3 := r1.1.1
  unfold typA
  by_cases c1 : n < 1 ∨ 8 < n
  · rw [if_pos c1]; exact r1
  · rw [if_neg c1]
    by_cases c2 : 300 < σ 1 2 0 + n
    · rw [if_pos c2]; exact r1
    · rw [if_neg c2]; exact TI_ap v _ _ r1 (by omega)
theorem k_clear (h : REL B σ gp) (hB : B ≤ 80000) : CALL iO_clear iM_clear [.ref (bs 0)] [.ref (bs 10)] B σ := by
  have r1 := h.2.1
  have r6 := h.2.2.2.2.2.2.1
  have a := z_clear (N := 60) (σ := σ) 58 (by decide)
  obtain ⟨m', b, c, e⟩ := z_Mclear (N := 60) (σ := gset σ 1 (pset (σ 1) 2 (fun _ => 0))) (s := σ 1) 59 (by decide) (by rw [g1_10]; exact r6)
  rw [g1_10] at c
  exact k_text h hB a ⟨⟨by rw [pset_eq]; decide, r1.1.2⟩, r1.2.1, r1.2.2⟩ b c e (by decide)
theorem k_board (h : REL B σ gp) (hB : B ≤ 80000) : CALL iO_board iM_board [.ref (bs 0)] [.ref (bs 10)] B σ := by
  have h' := h
  obtain ⟨⟨i1, ⟨i2, i2'⟩, i3, i4, i5, i6, i7, i8⟩, r1, r2, r3, r4, r5, r6, r7, r8, r9⟩ := h'
  have h300 := r1.1.1
  obtain ⟨len, hl⟩ : ∃ len : Nat, σ 1 2 0 = len := ⟨(σ 1 2 0).toNat, by omega⟩
  have a := z_board (N := 60) (σ := σ) (gp := gp) 50 (by decide) (by decide) h.1 (len := len) r1 hl
  have hR := RI_0 (len := len) (σ (17 - gp)) r1 hl
  have hkp := rdL_keep (len := len) 300 (S0 (σ 1)) (fstP 4 4 (σ (17 - gp))) hR
  rw [show rdL len 300 (S0 (σ 1)) (fstP 4 4 (σ (17 - gp))) = rdZ len (σ 1) (σ (17 - gp)) from rfl] at hkp
  obtain ⟨k1, k2, k3, k4, k5, k6⟩ := hkp
  have k3' : (rdZ len (σ 1) (σ (17 - gp))).2.1 0 = σ 1 0 := k3
  have k4' : (rdZ len (σ 1) (σ (17 - gp))).2.1 2 = σ 1 2 := k4
  have b10 : boD σ gp len (rdZ len (σ 1) (σ (17 - gp))) 10 = σ 10 := by
    unfold boD
    split
    · rw [gset_ne (by decide), gset_ne (by decide), gset_ne (by decide), gset_ne (by omega)]
    · rw [gset_ne (by decide), gset_ne (by omega)]
  obtain ⟨m', b, c⟩ := z_Mboard (N := 60) (σ := boD σ gp len (rdZ len (σ 1) (σ (17 - gp)))) (s := σ 1) (q := σ 2) (len := len) 51 (by decide) (by rw [b10]; exact r6) r1 hl (by rw [b10]; exact r5.2.2.2.2.2.2) (σ (17 - gp))
  rw [b10] at c
  generalize rdZ len (σ 1) (σ (17 - gp)) = r at *
  by_cases z : fnR len r = -9
  · rw [if_pos z] at c
    obtain ⟨c1, c2, c3, c4, c5⟩ := c
    obtain ⟨σ1, hσ1⟩ : ∃ σ1, σ1 = boD σ gp len r := ⟨_, rfl⟩
    rw [← hσ1] at a b
    have eB : σ1 = gset (gset (gset (gset σ (17 - gp) (fnP r)) 1 (pset r.2.1 2 (fun _ => 0))) 0 (pset (pset (pset (σ 0) 7 (fun _ => ((17 - gp : Nat) : Int))) 8 (fun _ => (gp : Int))) 9 (fun _ => 0))) 2 (startW (σ 2) (fnP r)) := by rw [hσ1]; unfold boD; rw [if_pos z]
    have x2 : σ1 2 = startW (σ 2) (fnP r) := by rw [eB, gset_at]
    have x1 : σ1 1 = pset r.2.1 2 (fun _ => 0) := by rw [eB, gset_ne (by decide), gset_ne (by decide), gset_at]
    have x0 : σ1 0 = pset (pset (pset (σ 0) 7 (fun _ => ((17 - gp : Nat) : Int))) 8 (fun _ => (gp : Int))) 9 (fun _ => 0) := by rw [eB, gset_ne (by decide), gset_at]
    have xg : σ1 (17 - gp) = fnP r := by rw [eB, gset_ne (by omega), gset_ne (by omega), gset_ne (by omega), gset_at]
    have x6 : σ1 6 = σ 6 := by rw [eB, gset_ne (by decide), gset_ne (by decide), gset_ne (by decide), gset_ne (by omega)]
    have x07 : σ1 0 7 0 = ((17 - gp : Nat) : Int) := by rw [x0]; rfl
    have x08 : σ1 0 8 0 = gp := by rw [x0]; rfl
    have x09 : σ1 0 9 0 = 0 := by rw [x0]; rfl
    have x010 : σ1 0 10 = σ 0 10 := by rw [x0]; rfl
    have hrP : wfP (fnP r) ∧ lkP (fnP r) := by
      have e1 : r.1 = -9 ∧ r.2.1 7 0 = -9 := by
        unfold fnR at z
        by_cases y : r.1 = -9
        · rw [if_pos y] at z
          by_cases y2 : r.2.1 7 0 = -9
          · exact ⟨y, y2⟩
          · rw [if_neg y2] at z; omega
        · rw [if_neg y] at z; exact absurd z y
      unfold fnP
      rw [if_pos e1]
      exact lkP_map k2
    have nb : ∀ i : Nat, (σ1 0 9 0).toNat.testBit i = false := fun i => by rw [x09]; exact Nat.zero_testBit i
    refine ⟨_, σ1, gset σ1 10 m', 17 - gp, a, b, ⟨⟨by omega, ?_, ?_, ?_, ?_, ?_, ?_, ?_⟩, ?_, ?_, ?_, ?_, ?_, ?_, ?_, ?_, ?_⟩⟩
    · rw [gset_ne (by decide), x07, x08]; omega
    · rw [gset_ne (by omega), xg]; exact hrP.1
    · rw [gset_ne (by omega), xg]; exact hrP.2
    · rw [gset_ne (by decide), gset_ne (by omega), xg, x2]; exact wfW_start hrP.1
    · rw [gset_ne (by decide), x09]; decide
    · rw [gset_ne (by decide), x6]; exact i7
    · rw [gset_ne (by decide), x6]; exact i8
    · rw [gset_ne (by decide), x1]
      exact ⟨⟨by rw [pset_eq]; decide, k1.1.2⟩, k1.2.1, k1.2.2⟩
    · rw [gset_ne (by decide), x6]; omega
    · intro i hi hb
      rw [gset_ne (by decide), nb] at hb
      exact absurd hb Bool.false_ne_true
    · rw [gset_at, gset_ne (by omega), xg]; exact c2
    · rw [gset_at, gset_ne (by decide), x2]; exact c3
    · rw [gset_at, gset_ne (by decide), x1]
      refine ⟨by rw [c5, pset_eq], fun i hi => ?_⟩
      rw [pset_eq] at hi
      omega
    · intro i hi
      rw [gset_at, gset_ne (by decide), nb]
      have : i = 0 ∨ i = 1 := by omega
      rcases this with e | e <;> subst e
      · exact c4.1
      · exact c4.2
    · intro i hi hb
      rw [gset_ne (by decide), nb] at hb
      exact absurd hb Bool.false_ne_true
    · rw [gset_at, gset_ne (by decide), x010, c1 1 (by decide)]; exact r9
  · rw [if_neg z] at c
    obtain ⟨c1, c2⟩ := c
    obtain ⟨σ1, hσ1⟩ : ∃ σ1, σ1 = boD σ gp len r := ⟨_, rfl⟩
    rw [← hσ1] at a b
    have eB : σ1 = gset (gset σ (17 - gp) (fnP r)) 1 r.2.1 := by rw [hσ1]; unfold boD; rw [if_neg z]
    have e : ∀ g, g ≠ 1 → g ≠ 17 - gp → σ1 g = σ g := fun g h1 h2 => by rw [eB, gset_ne h1, gset_ne h2]
    have x1 : σ1 1 = r.2.1 := by rw [eB, gset_at]
    have x2 := e 2 (by decide) (by omega)
    have x0 := e 0 (by decide) (by omega)
    have x6 := e 6 (by decide) (by omega)
    have xg := e gp (by omega) (by omega)
    have x4 := e 4 (by decide) (by omega)
    have x5 := e 5 (by decide) (by omega)
    refine ⟨_, σ1, gset σ1 10 m', gp, a, b, REL_of h (fun k _ => by rw [gset_ne (by decide), x0]) (by rw [gset_ne (by omega), xg]) (by rw [gset_ne (by decide), x2]; exact i5) (by rw [gset_ne (by decide), x6]; exact i7) (by rw [gset_ne (by decide), x6]; omega) (by omega) (by rw [gset_ne (by decide), x1]; exact k1) (by rw [gset_ne (by decide), x4]) (by rw [gset_ne (by decide), x5]) ?_ ?_ ?_ ?_ ?_ ?_⟩
    · rw [gset_at]; exact tlR_lo i3 r4 c2
    · rw [gset_at, gset_ne (by decide), x2, c1 10 (by decide)]; exact r5
    · rw [gset_at, gset_ne (by decide), x1]
      unfold tyR at r6 ⊢
      rw [c1 3 (by decide), c1 2 (by decide), k4', k3']
      exact r6
    · rw [gset_at]; exact c1 12 (by decide)
    · rw [gset_at]; exact c1 11 (by decide)
    · rw [gset_at, gset_ne (by decide), x0, c1 1 (by decide)]; exact r9
end OC1
