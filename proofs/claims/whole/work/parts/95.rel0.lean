/-! the relation as the constructors leave it -/
theorem p00_laws : p00 10 0 = 0 := rfl
theorem p00_wf : wfP p00 := wfP_fst _ (by decide) (by decide)
theorem p00_lk : lkP p00 := by
  intro l c h1 h2
  rw [p00_laws] at h2
  omega
theorem rel0 {m9 : zP} (y1 : sm [9, 10, 12] mB m9) (y2 : tlR (m9 9) 0 p00) (y3 : sR (m9 10) (startW (σ01 2) p00)) (y4 : m9 12 0 = 0 ∧ m9 12 1 = 0) : REL 0 (gset σ01 10 m9) 8 := by
  have g8 : gset σ01 10 m9 8 = p00 := rfl
  have e2 : gset σ01 10 m9 2 = pset (startW (σ00 2) p00) 6 (fun _ => 1) := by
    show (sset σ0c 2 6 (fun _ => 1)) 2 = _
    rw [sset_eq, gset_at]
    rfl
  have e9 : gset σ01 10 m9 0 9 0 = 0 := rfl
  have e10 : gset σ01 10 m9 10 = m9 := gset_at _ _ _
  have z1 : m9 1 0 = 0 := by rw [y1 1 (by decide)]; rfl
  have z3 : m9 3 0 = 0 := by rw [y1 3 (by decide)]; rfl
  refine ⟨⟨Or.inl rfl, ⟨rfl, rfl⟩, by rw [g8]; exact p00_wf, by rw [g8]; exact p00_lk, ?_, ⟨by rw [e9]; decide, by rw [e9]; decide⟩, ⟨?_, ?_⟩, ?_⟩, ⟨⟨⟨?_, ?_⟩, ?_⟩, ?_, ⟨?_, ?_⟩⟩, ?_, ?_, ?_, ?_, ⟨?_, ?_⟩, ?_, ?_, ?_⟩
  · rw [e2, g8]
    exact wfW_start p00_wf
  · show (0 : Int) ≤ 0; decide
  · intro i hi
    show (0 : Int) ≤ 0 ∧ (0 : Int) / 4 ≤ 0
    decide
  · show (0 : Int) ≤ 90000; decide
  · show (0 : Int) ≤ 0; decide
  · show (0 : Int) ≤ 300; decide
  · intro i hi
    show (0 : Int) ≤ 0 ∧ (0 : Int) ≤ 255
    decide
  · intro i hi
    show (0 : Int) ≤ 0 ∧ (0 : Int) ≤ 100
    decide
  · show (0 : Int) ≤ 0; decide
  · show (0 : Int) ≤ 9; decide
  · show (0 : Int) ≤ 0; decide
  · intro i hi h
    rw [e9] at h
    simp at h
  · rw [e10, g8]; exact y2
  · rw [e10, e2]; exact y3
  · rw [e10, z3]; rfl
  · intro i hi
    have : (i : Int) < 0 := hi
    omega
  · intro i hi
    rw [e9, e10]
    have : i = 0 ∨ i = 1 := by omega
    rcases this with e | e <;> subst e
    · rw [y4.1]; rfl
    · rw [y4.2]; rfl
  · intro i hi h
    rw [e9] at h
    simp at h
  · rw [e10, z1]; rfl
