-- class and model side by side: what is reckoned, walks
section OB1
variable {σ : zS} {gp : Nat} {B : Int}
theorem g6_10 (r : zP) : gset σ 6 r 10 = σ 10 := gset_ne (by decide)
theorem k_value (h : REL B σ gp) (hB : B ≤ 80000) {n : Int} (hn : rg n) : CALL iO_value iM_value [.ref (bs 0), .int (zI n)] [.ref (bs 10), .int (zI n)] B σ := by
  obtain ⟨r, a1, a2, a3⟩ := z_value (N := 60) (σ := σ) (gp := gp) (by decide) h.1 hn 17
  obtain ⟨m', b, c⟩ := z_Mvalue (N := 60) (σ := gset σ 6 r) (p := σ gp) (q := σ 2) 51 (by decide) (by rw [g6_10]; exact h.2.2.2.2.1) (by rw [g6_10]; exact h.2.2.2.2.2.1) h.1.2.2.1 h.1.2.2.2.1 h.1.2.2.2.2.1 hn
  rw [g6_10] at c
  exact k_reck h hB ⟨a1, a2, a3⟩ ⟨b, c⟩ (by decide)
theorem k_best (h : REL B σ gp) (hB : B ≤ 80000) {n : Int} (hn : rg n) : CALL iO_best iM_best [.ref (bs 0), .int (zI n)] [.ref (bs 10), .int (zI n)] B σ := by
  obtain ⟨r, a1, a2, a3⟩ := z_best (N := 60) (σ := σ) (gp := gp) (by decide) h.1 (by have := h.2.2.1; omega) hn 17
  obtain ⟨m', b, c⟩ := z_Mbest (N := 60) (σ := gset σ 6 r) (p := σ gp) (q := σ 2) 53 (by decide) (by rw [g6_10]; exact h.2.2.2.2.1) (by rw [g6_10]; exact h.2.2.2.2.2.1) h.1.2.2.1 h.1.2.2.2.1 h.1.2.2.2.2.1 hn
  rw [g6_10] at c
  exact k_reck h hB ⟨a1, a2, a3⟩ ⟨b, c⟩ (by decide)
theorem k_refuses (h : REL B σ gp) (hB : B ≤ 80000) {k n : Int} (hk : rg k) (hn : rg n) : CALL iO_refuses iM_refuses [.ref (bs 0), .int (zI k), .int (zI n)] [.ref (bs 10), .int (zI k), .int (zI n)] B σ := by
  obtain ⟨r, a1, a2, a3⟩ := z_refuses (N := 60) (σ := σ) (gp := gp) (by decide) h.1 hk hn 17
  obtain ⟨m', b, c⟩ := z_Mrefuses (N := 60) (σ := gset σ 6 r) (p := σ gp) (q := σ 2) 53 (by decide) (by rw [g6_10]; exact h.2.2.2.2.1) (by rw [g6_10]; exact h.2.2.2.2.2.1) h.1.2.2.1 h.1.2.2.2.1 h.1.2.2.2.2.1 hk hn
  rw [g6_10] at c
  exact k_reck h hB ⟨a1, a2, a3⟩ ⟨b, c⟩ (by decide)
theorem k_bag (h : REL B σ gp) (hB : B ≤ 80000) {i j n : Int} (hi : rg i) (hj : rg j) (hn : rg n) : CALL iO_bag iM_bag [.ref (bs 0), .int (zI i), .int (zI j), .int (zI n)] [.ref (bs 10), .int (zI i), .int (zI j), .int (zI n)] B σ := by
  obtain ⟨r, a1, a2, a3⟩ := z_bag (N := 60) (σ := σ) (gp := gp) (by decide) h.1 hi hj hn 17
  obtain ⟨m', b, c⟩ := z_Mbag (N := 60) (σ := gset σ 6 r) (p := σ gp) (q := σ 2) 50 (by decide) (by rw [g6_10]; exact h.2.2.2.2.1) (by rw [g6_10]; exact h.2.2.2.2.2.1) h.1.2.2.1 h.1.2.2.2.1 h.1.2.2.2.2.1 hi hj hn
  rw [g6_10] at c
  exact k_reck h hB ⟨a1, a2, a3⟩ ⟨b, c⟩ (by decide)
theorem k_even (h : REL B σ gp) (hB : B ≤ 80000) {n : Int} (hn : rg n) : CALL iO_even iM_even [.ref (bs 0), .int (zI n)] [.ref (bs 10), .int (zI n)] B σ := by
  obtain ⟨r, a1, a2, a3⟩ := z_even (N := 60) (σ := σ) (gp := gp) (by decide) h.1 (by have := h.2.2.1; omega) hn 17
  obtain ⟨m', b, c⟩ := z_Meven (N := 60) (σ := gset σ 6 r) (p := σ gp) (q := σ 2) 51 (by decide) (by rw [g6_10]; exact h.2.2.2.2.1) (by rw [g6_10]; exact h.2.2.2.2.2.1) h.1.2.2.1 h.1.2.2.2.1 h.1.2.2.2.2.1 hn
  rw [g6_10] at c
  exact k_reck h hB ⟨a1, a2, a3⟩ ⟨b, c⟩ (by decide)
/-- class and model changed -/
theorem REL_x (h : REL B σ gp) (hB : B ≤ 80000) {σ1 : zS} {m' : zP} {L : List Nat} (hs : sm L (σ 10) m') (h10 : σ1 10 = σ 10) (e0 : ∀ k, k = 7 ∨ k = 8 ∨ k = 9 → σ1 0 k = σ 0 k) (egp : σ1 gp = σ gp) (h2 : wfW (σ1 2) (σ gp)) (h6 : MR (σ1 6)) (h6b : σ1 6 4 0 ≤ B + 20) (h1 : TI (σ1 1)) (h4 : σ1 4 = σ 4) (h5 : σ1 5 = σ 5) (hsr : sR (m' 10) (σ1 2)) (hty : tyR m' (σ1 1)) (htr : m' 1 0 = σ1 0 10 0) (hL : ∀ k, k ∈ L → k ≠ 9 ∧ k ≠ 11 ∧ k ≠ 12) : REL (B + 20) (gset σ1 10 m') gp := by
  have hgp := h.1.1
  have h9 := h.2.2.2.2.1
  have e : ∀ k, (k = 9 ∨ k = 11 ∨ k = 12) → m' k = σ 10 k := by
    intro k hk
    apply hs
    intro z
    have := hL k z
    omega
  refine REL_of h (fun k hk => by rw [gset_ne (by decide)]; exact e0 k hk) (by rw [gset_ne (by omega)]; exact egp) (by rw [gset_ne (by decide)]; exact h2) (by rw [gset_ne (by decide)]; exact h6) (by rw [gset_ne (by decide)]; exact h6b) (by omega) (by rw [gset_ne (by decide)]; exact h1) (by rw [gset_ne (by decide)]; exact h4) (by rw [gset_ne (by decide)]; exact h5) ?_ ?_ ?_ ?_ ?_ ?_
  · rw [gset_at, e 9 (by omega)]; exact h9
  · rw [gset_at, gset_ne (by decide)]; exact hsr
  · rw [gset_at, gset_ne (by decide)]; exact hty
  · rw [gset_at]; exact e 12 (by omega)
  · rw [gset_at]; exact e 11 (by omega)
  · rw [gset_at, gset_ne (by decide)]; exact htr
theorem k_fairest (h : REL B σ gp) (hB : B ≤ 80000) {n : Int} (hn : rg n) : CALL iO_fairest iM_fairest [.ref (bs 0), .int (zI n)] [.ref (bs 10), .int (zI n)] B σ := by
  have h' := h
  obtain ⟨⟨i1, i2, i3, i4, i5, i6, i7, i8⟩, r1, r2, r3, r4, r5, r6, r7, r8, r9⟩ := h'
  obtain ⟨r, f, a1, a2, a3⟩ := z_fairest (N := 60) (σ := σ) (gp := gp) (by decide) h.1 (by omega) hn 17
  have f10 : fW σ r f 10 = σ 10 := fW_ne (by decide) (by decide)
  obtain ⟨m', b, c⟩ := z_Mfairest (N := 60) (σ := fW σ r f) (p := σ gp) (q := σ 2) 50 (by decide) (by rw [f10]; exact r4) (by rw [f10]; exact r5) i3 i4 i5 hn
  rw [f10] at c
  refine ⟨_, _, _, gp, a1, b, REL_x h hB c f10 (fun k hk => fW_0k (by omega)) (fW_ne (by omega) (by omega)) (by rw [fW_ne (by decide) (by decide)]; exact i5) (by rw [fW_at6]; exact a2) (by rw [fW_at6]; omega) (by rw [fW_ne (by decide) (by decide)]; exact r1) (fW_ne (by decide) (by decide)) (fW_ne (by decide) (by decide)) ?_ ?_ ?_ (by decide)⟩
  · rw [c 10 (by decide), fW_ne (by decide) (by decide)]; exact r5
  · rw [fW_ne (by decide) (by decide)]
    unfold tyR at r6 ⊢
    rw [c 3 (by decide), c 2 (by decide)]
    exact r6
  · rw [c 1 (by decide), fW_0k (by decide)]; exact r9
theorem k_worth (h : REL B σ gp) (hB : B ≤ 80000) {m n : Int} (hm : rg m) (hn : rg n) : CALL iO_worth iM_worth [.ref (bs 0), .int (zI m), .int (zI n)] [.ref (bs 10), .int (zI m), .int (zI n)] B σ := by
  have h' := h
  obtain ⟨⟨i1, i2, i3, i4, i5, i6, i7, i8⟩, r1, r2, r3, r4, r5, r6, r7, r8, r9⟩ := h'
  obtain ⟨r, a1, a2, a3⟩ := z_worth (N := 60) (σ := σ) (gp := gp) (by decide) h.1 hm hn 17
  obtain ⟨m', b, c, e⟩ := z_Mworth (N := 60) (σ := gset σ 6 r) (p := σ gp) (q := σ 2) 51 (by decide) (by rw [g6_10]; exact r4) (by rw [g6_10]; exact r5) i3 i4 i5 hm hn
  rw [g6_10] at c
  refine ⟨_, _, _, gp, a1, b, REL_x h hB c (g6_10 r) (fun k hk => by rw [gset_ne (by decide)]) (gset_ne (by omega)) (by rw [gset_ne (by decide)]; exact i5) (by rw [gset_at]; exact a2) (by rw [gset_at]; omega) (by rw [gset_ne (by decide)]; exact r1) (gset_ne (by decide)) (gset_ne (by decide)) ?_ ?_ ?_ (by decide)⟩
  · rw [gset_ne (by decide)]; exact e
  · rw [gset_ne (by decide)]
    unfold tyR at r6 ⊢
    rw [c 3 (by decide), c 2 (by decide)]
    exact r6
  · rw [c 1 (by decide), gset_ne (by decide)]; exact r9
/-- the walk changed on both sides -/
theorem k_walk (h : REL B σ gp) (hB : B ≤ 80000) {q' m' : zP} {i j : Nat} {as bs' : List Value} {v : Value} {L : List Nat} (a : rz_dM 60 i as (wOf 60 σ) = some (some v, wOf 60 (gset σ 2 q'))) (hq : wfW q' (σ gp)) (b : rz_dM 60 j bs' (wOf 60 (gset σ 2 q')) = some (some v, wOf 60 (gset (gset σ 2 q') 10 m'))) (c : sm L (σ 10) m') (hs : sR (m' 10) q') (hL : ∀ k, k ∈ L → k ≠ 9 ∧ k ≠ 11 ∧ k ≠ 12 ∧ k ≠ 1 ∧ k ≠ 2 ∧ k ≠ 3) : CALL i j as bs' B σ := by
  have h' := h
  obtain ⟨⟨i1, i2, i3, i4, i5, i6, i7, i8⟩, r1, r2, r3, r4, r5, r6, r7, r8, r9⟩ := h'
  have e : ∀ k, (k = 1 ∨ k = 2 ∨ k = 3) → m' k = σ 10 k := by
    intro k hk
    apply c
    intro z
    have := hL k z
    omega
  refine ⟨v, _, _, gp, a, b, REL_x h hB c (gset_ne (by decide)) (fun k hk => by rw [gset_ne (by decide)]) (gset_ne (by omega)) (by rw [gset_at]; exact hq) (by rw [gset_ne (by decide)]; exact i7) (by rw [gset_ne (by decide)]; omega) (by rw [gset_ne (by decide)]; exact r1) (gset_ne (by decide)) (gset_ne (by decide)) (by rw [gset_at]; exact hs) ?_ ?_ (fun k hk => by have := hL k hk; omega)⟩
  · rw [gset_ne (by decide)]
    unfold tyR at r6 ⊢
    rw [e 3 (by omega), e 2 (by omega)]
    exact r6
  · rw [e 1 (by omega), gset_ne (by decide)]; exact r9
theorem g2_10 (q : zP) : gset σ 2 q 10 = σ 10 := gset_ne (by decide)
theorem k_tell (h : REL B σ gp) (hB : B ≤ 80000) {k : Int} (hk : rg k) : CALL iO_tell iM_tell [.ref (bs 0), .int (zI k)] [.ref (bs 10), .int (zI k)] B σ := by
  have h' := h
  obtain ⟨⟨i1, i2, i3, i4, i5, i6, i7, i8⟩, r1, r2, r3, r4, r5, r6, r7, r8, r9⟩ := h'
  have a := z_tell (N := 60) (σ := σ) (gp := gp) 54 (by decide) h.1 hk
  obtain ⟨m', b, c, e⟩ := z_Mtell (N := 60) (σ := gset σ 2 (tellA (σ 2) (σ gp) k).2) (p := σ gp) (q := σ 2) 53 (by decide) (by rw [g2_10]; exact r4) (by rw [g2_10]; exact r5) i3 i4 i5 hk
  rw [g2_10] at c
  refine k_walk h hB a ?_ b c e (by decide)
  unfold tellA
  by_cases z : wntQ (σ 2) (σ gp) k = 0
  · rw [if_pos z]
    obtain ⟨t1, t2, t3⟩ := tell_may z
    exact wfW_step i3 i4 i5 t2 (by omega)
  · rw [if_neg z]; exact i5
theorem k_refuse (h : REL B σ gp) (hB : B ≤ 80000) {k : Int} (hk : rg k) : CALL iO_refuse iM_refuse [.ref (bs 0), .int (zI k)] [.ref (bs 10), .int (zI k)] B σ := by
  have h' := h
  obtain ⟨⟨i1, i2, i3, i4, i5, i6, i7, i8⟩, r1, r2, r3, r4, r5, r6, r7, r8, r9⟩ := h'
  have a := z_refuse (N := 60) (σ := σ) (gp := gp) 54 (by decide) h.1 hk
  obtain ⟨m', b, c, e⟩ := z_Mrefuse (N := 60) (σ := gset σ 2 (refuseA (σ 2) (σ gp) k).2) (p := σ gp) (q := σ 2) 53 (by decide) (by rw [g2_10]; exact r4) (by rw [g2_10]; exact r5) i3 i4 i5 hk
  rw [g2_10] at c
  refine k_walk h hB a ?_ b c e (by decide)
  unfold refuseA
  by_cases z : wntQ (σ 2) (σ gp) k = 0
  · rw [if_pos z]
    obtain ⟨t1, t2, t3⟩ := tell_may z
    by_cases z2 : mbrQ (σ 2) (σ gp) k = true
    · rw [if_pos z2]
      have hl : 0 < σ 2 1 (1 - σ 2 2 0).toNat := by
        unfold mbrQ at z2
        rw [Bool.and_eq_true, Bool.and_eq_true, decide_eq_true_eq, decide_eq_true_eq] at z2
        exact z2.2.1
      exact wfW_refuse i5 t1 hl
    · rw [if_neg z2]; exact i5
  · rw [if_neg z]; exact i5
theorem k_pass (h : REL B σ gp) (hB : B ≤ 80000) : CALL iO_pass iM_pass [.ref (bs 0)] [.ref (bs 10)] B σ := by
  have h' := h
  obtain ⟨⟨i1, i2, i3, i4, i5, i6, i7, i8⟩, r1, r2, r3, r4, r5, r6, r7, r8, r9⟩ := h'
  have a := z_pass (N := 60) (σ := σ) (gp := gp) 55 (by decide) h.1
  obtain ⟨m', b, c, e⟩ := z_Mpass (N := 60) (σ := gset σ 2 (passA (σ 2) (σ gp)).2) (p := σ gp) (q := σ 2) 55 (by decide) (by rw [g2_10]; exact r4) (by rw [g2_10]; exact r5) i3 i4 i5
  rw [g2_10] at c
  refine k_walk h hB a ?_ b c e (by decide)
  unfold passA
  by_cases z : σ 2 5 0 = 0 ∧ mayW (σ 2) (σ gp) (1 - σ 2 2 0) = 0
  · rw [if_pos z]; exact wfW_pass i5 z.1
  · rw [if_neg z]; exact i5
theorem k_anew (h : REL B σ gp) (hB : B ≤ 80000) : CALL iO_anew iM_anew [.ref (bs 0)] [.ref (bs 10)] B σ := by
  have h' := h
  obtain ⟨⟨i1, i2, i3, i4, i5, i6, i7, i8⟩, r1, r2, r3, r4, r5, r6, r7, r8, r9⟩ := h'
  have a := z_anew (N := 60) (σ := σ) (gp := gp) 57 (by decide) h.1
  obtain ⟨m', b, c, e⟩ := z_Manew (N := 60) (σ := gset σ 2 (startW (σ 2) (σ gp))) (p := σ gp) (q := σ 2) 58 (by decide) (by rw [g2_10]; exact r4) (by rw [g2_10]; exact r5)
  rw [g2_10] at c
  exact k_walk h hB a (wfW_start i3) b c e (by decide)
theorem k_lot (h : REL B σ gp) (hB : B ≤ 80000) (v : Int) : CALL iO_lot iM_lot [.ref (bs 0), .int (zI v)] [.ref (bs 10), .int (zI v)] B σ := by
  have h' := h
  obtain ⟨⟨i1, i2, i3, i4, i5, i6, i7, i8⟩, r1, r2, r3, r4, r5, r6, r7, r8, r9⟩ := h'
  have a := z_lot (N := 60) (σ := σ) 59 (by decide) (v := v)
  obtain ⟨m', b, c, e⟩ := z_Mlot (N := 60) (σ := gset σ 2 (pset (σ 2) 6 (fun _ => v))) (q := σ 2) 59 (by decide) (by rw [g2_10]; exact r5) v
  rw [g2_10] at c
  exact k_walk h hB a (wfW_chance i5) b c e (by decide)
end OB1
