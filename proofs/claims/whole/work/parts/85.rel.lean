-- class and model side by side: what holds between calls
section OA1
variable {σ σ' : zS} {gp : Nat} {B B' : Int}
def REL (B : Int) (σ : zS) (gp : Nat) : Prop :=
  IC σ gp ∧ TI (σ 1) ∧ σ 6 4 0 ≤ B ∧ (∀ i : Nat, i < 2 → (σ 0 9 0).toNat.testBit i = true → wfW (σ (4 + i)) (σ gp)) ∧
  tlR (σ 10 9) 0 (σ gp) ∧ sR (σ 10 10) (σ 2) ∧ tyR (σ 10) (σ 1) ∧ (∀ i : Nat, i < 2 → σ 10 12 i = bN ((σ 0 9 0).toNat.testBit i)) ∧
  (∀ i : Nat, i < 2 → (σ 0 9 0).toNat.testBit i = true → kpR (σ 10 11) i (σ (4 + i))) ∧ σ 10 1 0 = σ 0 10 0
theorem REL_of (h : REL B σ gp) (e0 : ∀ k, k = 7 ∨ k = 8 ∨ k = 9 → σ' 0 k = σ 0 k) (egp : σ' gp = σ gp) (h2 : wfW (σ' 2) (σ gp)) (h6 : MR (σ' 6)) (h6b : σ' 6 4 0 ≤ B') (hB : B' ≤ 90000) (h1 : TI (σ' 1)) (h4 : σ' 4 = σ 4) (h5 : σ' 5 = σ 5) (h9 : tlR (σ' 10 9) 0 (σ gp)) (h10 : sR (σ' 10 10) (σ' 2)) (hty : tyR (σ' 10) (σ' 1)) (h12 : σ' 10 12 = σ 10 12) (h11 : σ' 10 11 = σ 10 11) (htr : σ' 10 1 0 = σ' 0 10 0) : REL B' σ' gp := by
  obtain ⟨⟨i1, i2, i3, i4, i5, i6, i7, i8⟩, r1, r2, r3, r4, r5, r6, r7, r8, r9⟩ := h
  have e4 : ∀ i : Nat, i < 2 → σ' (4 + i) = σ (4 + i) := by
    intro i hi
    have : i = 0 ∨ i = 1 := by omega
    rcases this with e | e <;> subst e
    · exact h4
    · exact h5
  refine ⟨⟨i1, ?_, by rw [egp]; exact i3, by rw [egp]; exact i4, by rw [egp]; exact h2, by rw [e0 9 (by omega)]; exact i6, h6, by omega⟩, h1, h6b, ?_, by rw [egp]; exact h9, h10, hty, ?_, ?_, htr⟩
  · rw [e0 7 (by omega), e0 8 (by omega)]; exact i2
  · intro i hi
    rw [e0 9 (by omega), e4 i hi, egp]
    exact r3 i hi
  · intro i hi
    rw [e0 9 (by omega), h12]
    exact r7 i hi
  · intro i hi
    rw [e0 9 (by omega), h11, e4 i hi]
    exact r8 i hi
/-- a call of both: they answer alike -/
def CALL (i j : Nat) (as bs' : List Value) (B : Int) (σ : zS) : Prop := ∃ v σ1 σ2 gp', rz_dM 60 i as (wOf 60 σ) = some (some v, wOf 60 σ1) ∧ rz_dM 60 j bs' (wOf 60 σ1) = some (some v, wOf 60 σ2) ∧ REL (B + 20) σ2 gp'
theorem gs_10 {m' : zP} {g : Nat} (h : g ≠ 10) : gset σ 10 m' g = σ g := gset_ne h
/-- the model's scratch changed alone -/
theorem REL_m (h : REL B σ gp) (hB : B ≤ 80000) {m' : zP} {L : List Nat} (hs : sm L (σ 10) m') (hL : ∀ k, k ∈ L → k = 0 ∨ k = 4 ∨ k = 5 ∨ k = 6 ∨ k = 7 ∨ k = 8 ∨ k = 13 ∨ k = 14 ∨ k = 15 ∨ k = 16 ∨ k = 17 ∨ k = 18) : REL (B + 20) (gset σ 10 m') gp := by
  have h' := h
  obtain ⟨⟨i1, i2, i3, i4, i5, i6, i7, i8⟩, r1, r2, r3, r4, r5, r6, r7, r8, r9⟩ := h'
  have e : ∀ k, (k = 1 ∨ k = 2 ∨ k = 3 ∨ k = 9 ∨ k = 10 ∨ k = 11 ∨ k = 12) → m' k = σ 10 k := by
    intro k hk
    apply hs
    intro z
    have := hL k z
    omega
  have hg : gp ≠ 10 := by omega
  refine REL_of h (fun k _ => by rw [gs_10 (by decide)]) (gs_10 hg) (by rw [gs_10 (by decide)]; exact i5) (by rw [gs_10 (by decide)]; exact i7) (by rw [gs_10 (by decide)]; omega) (by omega) (by rw [gs_10 (by decide)]; exact r1) (gs_10 (by decide)) (gs_10 (by decide)) ?_ ?_ ?_ ?_ ?_ ?_
  · rw [gset_at, e 9 (by omega)]; exact r4
  · rw [gset_at, e 10 (by omega), gs_10 (by decide)]; exact r5
  · rw [gset_at, gs_10 (by decide)]
    unfold tyR at r6 ⊢
    rw [e 3 (by omega), e 2 (by omega)]
    exact r6
  · rw [gset_at, e 12 (by omega)]
  · rw [gset_at, e 11 (by omega)]
  · rw [gset_at, e 1 (by omega), gs_10 (by decide)]; exact r9
theorem bR {k : Nat} {L : List Nat} (hL : ∀ k ∈ L, k = 0 ∨ k = 4 ∨ k = 5 ∨ k = 6 ∨ k = 7 ∨ k = 8 ∨ k = 13 ∨ k = 14 ∨ k = 15 ∨ k = 16 ∨ k = 17 ∨ k = 18) (h : k ∈ L) : k = 0 ∨ k = 4 ∨ k = 5 ∨ k = 6 ∨ k = 7 ∨ k = 8 ∨ k = 13 ∨ k = 14 ∨ k = 15 ∨ k = 16 ∨ k = 17 ∨ k = 18 := hL k h
/-- the class's reckoner changed alone -/
theorem REL_6 (h : REL B σ gp) {r : zP} (hr : MR r) (h4 : r 4 0 ≤ B') (hB : B' ≤ 90000) : REL B' (gset σ 6 r) gp := by
  have h' := h
  obtain ⟨⟨i1, i2, i3, i4, i5, i6, i7, i8⟩, r1, r2, r3, r4, r5, r6, r7, r8, r9⟩ := h'
  have hg : gp ≠ 6 := by omega
  exact REL_of h (fun k _ => by rw [gset_ne (by decide)]) (gset_ne hg) (by rw [gset_ne (by decide)]; exact i5) (by rw [gset_at]; exact hr) (by rw [gset_at]; exact h4) hB (by rw [gset_ne (by decide)]; exact r1) (gset_ne (by decide)) (gset_ne (by decide)) (by rw [gset_ne (by decide)]; exact r4) (by rw [gset_ne (by decide), gset_ne (by decide)]; exact r5) (by rw [gset_ne (by decide), gset_ne (by decide)]; exact r6) (by rw [gset_ne (by decide)]) (by rw [gset_ne (by decide)]) (by rw [gset_ne (by decide), gset_ne (by decide)]; exact r9)
section CL
variable (h : REL B σ gp) (hB : B ≤ 80000)
theorem k_cell (h : REL B σ gp) (hB : B ≤ 80000) {x y : Int} (hx : rg x) (hy : rg y) : CALL iO_cell iM_cell [.ref (bs 0), .int (zI x), .int (zI y)] [.ref (bs 10), .int (zI x), .int (zI y)] B σ := by
  have a := z_cell (N := 60) (σ := σ) (gp := gp) 58 (by decide) h.1 hx hy
  have b := z_Mcell (N := 60) (σ := σ) (p := σ gp) 58 (by decide) h.2.2.2.2.1 h.1.2.2.1 hx hy
  exact ⟨_, _, _, gp, a, b, REL_m h hB (T0_sm _) (by decide)⟩
theorem k_law (h : REL B σ gp) (hB : B ≤ 80000) {x y : Int} (hx : rg x) (hy : rg y) : CALL iO_law iM_law [.ref (bs 0), .int (zI x), .int (zI y)] [.ref (bs 10), .int (zI x), .int (zI y)] B σ := by
  have a := z_law (N := 60) (σ := σ) (gp := gp) 58 (by decide) h.1 hx hy
  have b := z_Mlaw (N := 60) (σ := σ) (p := σ gp) 58 (by decide) h.2.2.2.2.1 h.1.2.2.1 hx hy
  exact ⟨_, _, _, gp, a, b, REL_m h hB (T0_sm _) (by decide)⟩
theorem k_man (h : REL B σ gp) (hB : B ≤ 80000) {x y : Int} (hx : rg x) (hy : rg y) : CALL iO_man iM_man [.ref (bs 0), .int (zI x), .int (zI y)] [.ref (bs 10), .int (zI x), .int (zI y)] B σ := by
  have a := z_man (N := 60) (σ := σ) (gp := gp) 55 (by decide) h.1 hx hy
  obtain ⟨m', b, c⟩ := z_Mman (N := 60) (σ := σ) (p := σ gp) (q := σ 2) 55 (by decide) h.2.2.2.2.1 h.2.2.2.2.2.1 h.1.2.2.1 h.1.2.2.2.1 h.1.2.2.2.2.1 hx hy
  exact ⟨_, _, _, gp, a, b, REL_m h hB c (by decide)⟩
theorem k_now (h : REL B σ gp) (hB : B ≤ 80000) {x : Int} (hx : rg x) : CALL iO_now iM_now [.ref (bs 0), .int (zI x)] [.ref (bs 10), .int (zI x)] B σ := by
  have a := z_now (N := 60) (σ := σ) 59 (by decide) hx
  have b := z_Mnow (N := 60) (σ := σ) (q := σ 2) 59 (by decide) h.2.2.2.2.2.1 hx
  exact ⟨_, _, _, gp, a, b, REL_m h hB (T0_sm _) (by decide)⟩
theorem k_safe (h : REL B σ gp) (hB : B ≤ 80000) {x y : Int} (hx : rg x) (hy : rg y) : CALL iO_safe iM_safe [.ref (bs 0), .int (zI x), .int (zI y)] [.ref (bs 10), .int (zI x), .int (zI y)] B σ := by
  have a := z_safe (N := 60) (σ := σ) (gp := gp) 55 (by decide) h.1 hx hy
  obtain ⟨m', b, c⟩ := z_Msafe (N := 60) (σ := σ) (p := σ gp) 56 (by decide) h.2.2.2.2.1 h.1.2.2.1 h.1.2.2.2.1 hx hy
  exact ⟨_, _, _, gp, a, b, REL_m h hB c (by decide)⟩
theorem k_safest (h : REL B σ gp) (hB : B ≤ 80000) {x : Int} (hx : rg x) : CALL iO_safest iM_safest [.ref (bs 0), .int (zI x)] [.ref (bs 10), .int (zI x)] B σ := by
  have a := z_safest (N := 60) (σ := σ) (gp := gp) 55 (by decide) h.1 hx
  obtain ⟨m', b, c⟩ := z_Msafest (N := 60) (σ := σ) (p := σ gp) (q := σ 2) 56 (by decide) h.2.2.2.2.1 h.2.2.2.2.2.1 h.1.2.2.1 h.1.2.2.2.1 h.1.2.2.2.2.1 hx
  exact ⟨_, _, _, gp, a, b, REL_m h hB c (by decide)⟩
theorem k_count (h : REL B σ gp) (hB : B ≤ 80000) {x : Int} (hx : rg x) : CALL iO_count iM_count [.ref (bs 0), .int (zI x)] [.ref (bs 10), .int (zI x)] B σ := by
  have a := z_count (N := 60) (σ := σ) (gp := gp) 57 (by decide) h.1 hx
  have b := z_Mcount (N := 60) (σ := σ) (p := σ gp) (s := σ 1) 58 (by decide) h.2.2.2.2.1 h.1.2.2.1 h.2.2.2.2.2.2.1 hx
  exact ⟨_, _, _, gp, a, b, REL_m h hB (T0_sm _) (by decide)⟩
theorem k_trace (h : REL B σ gp) (hB : B ≤ 80000) : CALL iO_trace iM_trace [.ref (bs 0)] [.ref (bs 10)] B σ := by
  have a := z_trace (N := 60) (σ := σ) 59 (by decide)
  have b := z_Mtrace (N := 60) (σ := σ) 59 (by decide)
  rw [h.2.2.2.2.2.2.2.2.2] at b
  exact ⟨_, _, _, gp, a, b, REL_m h hB (T0_sm _) (by decide)⟩
/-- both reckon -/
theorem k_reck (h : REL B σ gp) (hB : B ≤ 80000) {r m' : zP} {i j : Nat} {as bs' : List Value} {v : Value} {L : List Nat} (a : rz_dM 60 i as (wOf 60 σ) = some (some v, wOf 60 (gset σ 6 r)) ∧ MR r ∧ r 4 0 ≤ σ 6 4 0 + 20) (b : rz_dM 60 j bs' (wOf 60 (gset σ 6 r)) = some (some v, wOf 60 (gset (gset σ 6 r) 10 m')) ∧ sm L (σ 10) m') (hL : ∀ k, k ∈ L → k = 0 ∨ k = 4 ∨ k = 5 ∨ k = 6 ∨ k = 7 ∨ k = 8 ∨ k = 13 ∨ k = 14 ∨ k = 15 ∨ k = 16 ∨ k = 17 ∨ k = 18) : CALL i j as bs' B σ := by
  refine ⟨v, _, _, gp, a.1, b.1, ?_⟩
  have h1 := REL_m h hB b.2 hL
  have h2 := h.2.2.1
  have hgp := h.1.1
  have h3 := REL_6 h1 (r := r) a.2.1 (B' := B + 20) (by omega) (by omega)
  rw [gset_comm (show (10 : Nat) ≠ 6 by decide)] at h3
  exact h3
end CL
end OA1
