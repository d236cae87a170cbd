-- the script's reading: what stays, and the reading itself
section RH
theorem wfP_fst {w h : Int} (p : zP) (hw : 2 ≤ w ∧ w ≤ 4) (hh : 2 ≤ h ∧ h ≤ 4) : wfP (fstP w h p) := by
  have e8 : fstP w h p 8 0 = w := rfl
  have e9 : fstP w h p 9 0 = h := rfl
  have e10 : fstP w h p 10 0 = 0 := rfl
  have e0 : fstP w h p 0 = filA (p 0) 0 16 0 := rfl
  have e4 : fstP w h p 4 = zup (zup (p 4) 0 0) 1 (w * h - 1) := rfl
  have e5 : fstP w h p 5 = zup (zup (p 5) 0 (w * h - 1)) 1 0 := rfl
  have e6 : fstP w h p 6 = zup (zup (p 6) 0 0) 1 0 := rfl
  have e7 : fstP w h p 7 = zup (zup (p 7) 0 1) 1 1 := rfl
  have ha : 4 ≤ w * h := by
    have : w = 2 ∨ w = 3 ∨ w = 4 := by omega
    rcases this with e | e | e <;> rw [e] <;> omega
  unfold wfP
  rw [e8, e9, e10, e0, e4, e5, e6, e7]
  refine ⟨by omega, fun c hc => ?_, fun l hl => ?_, fun m hm => ?_⟩
  · rw [filA_at, if_pos (by omega)]; decide
  · omega
  · have : m = 0 ∨ m = 1 := by omega
    have z0 : ∀ (f : Nat → Int) (a b : Int), zup (zup f 0 a) 1 b 0 = a := fun _ _ _ => rfl
    have z1 : ∀ (f : Nat → Int) (a b : Int), zup (zup f 0 a) 1 b 1 = b := fun _ _ _ => rfl
    rcases this with rfl | rfl
    · rw [z0, z0, z0, z0]; omega
    · rw [z1, z1, z1, z1]; omega
theorem wyN_rg {s : zP} : ∀ (n i a : Nat), a < 256 → (∀ j : Nat, i ≤ j → j < i + n → 0 ≤ s 1 j ∧ s 1 j < 8) → wyN s n i a < 256 ∧ (1 ≤ a + n → 1 ≤ wyN s n i a) := by
  intro n
  induction n with
  | zero => intro i a ha _; exact ⟨ha, fun z => z⟩
  | succ n ih =>
    intro i a ha hb
    rw [wyN]
    have v := hb i (by omega) (by omega)
    have h2 : a ||| 2 ^ (s 1 i).toNat < 256 := Nat.or_lt_two_pow (n := 8) ha (Nat.pow_lt_pow_right (by decide) (by omega))
    obtain ⟨r1, r2⟩ := ih (i + 1) (a ||| 2 ^ (s 1 i).toNat) h2 (fun j j1 j2 => hb j (by omega) (by omega))
    refine ⟨r1, fun _ => r2 ?_⟩
    have : 2 ^ (s 1 i).toNat ≤ a ||| 2 ^ (s 1 i).toNat := Nat.right_le_or
    have := Nat.two_pow_pos (s 1 i).toNat
    omega
theorem zup_eq (f : Nat → Int) (k : Nat) (v : Int) : zup f k v k = v := if_pos rfl
theorem zup_ne {f : Nat → Int} {k j : Nat} {v : Int} (h : j ≠ k) : zup f k v j = f j := if_neg h
theorem wfP_up4 {p : zP} {a v : Int} (h : wfP p) (hv : 0 ≤ v ∧ v < p 8 0 * p 9 0) : wfP (pset p 4 (zup (p 4) a.toNat v)) := by
  obtain ⟨w0, w1, w2, w3⟩ := h
  refine ⟨w0, w1, w2, fun m hm => ?_⟩
  obtain ⟨m1, m2, m3, m4⟩ := w3 m hm
  refine ⟨?_, m2, m3, m4⟩
  rw [pset_eq, pset_ne (by decide), pset_ne (by decide)]
  unfold zup
  split
  · exact hv
  · exact m1
theorem wfP_up5 {p : zP} {a v : Int} (h : wfP p) (hv : 0 ≤ v ∧ v < p 8 0 * p 9 0) : wfP (pset p 5 (zup (p 5) a.toNat v)) := by
  obtain ⟨w0, w1, w2, w3⟩ := h
  refine ⟨w0, w1, w2, fun m hm => ?_⟩
  obtain ⟨m1, m2, m3, m4⟩ := w3 m hm
  refine ⟨m1, ?_, m3, m4⟩
  rw [pset_eq, pset_ne (by decide), pset_ne (by decide)]
  unfold zup
  split
  · exact hv
  · exact m2
theorem wfP_up6 {p : zP} {a v : Int} (h : wfP p) (hv : 0 ≤ v ∧ v < p 10 0) : wfP (pset p 6 (zup (p 6) a.toNat v)) := by
  obtain ⟨w0, w1, w2, w3⟩ := h
  refine ⟨w0, w1, w2, fun m hm => ?_⟩
  obtain ⟨m1, m2, m3, m4⟩ := w3 m hm
  refine ⟨m1, m2, ?_, m4⟩
  rw [pset_eq, pset_ne (by decide)]
  unfold zup
  split
  · exact ⟨hv.1, Or.inr hv.2⟩
  · exact m3
theorem wfP_up7 {p : zP} {a v : Int} (h : wfP p) (hv : 0 ≤ v ∧ v ≤ 2) : wfP (pset p 7 (zup (p 7) a.toNat v)) := by
  obtain ⟨w0, w1, w2, w3⟩ := h
  refine ⟨w0, w1, w2, fun m hm => ?_⟩
  obtain ⟨m1, m2, m3, m4⟩ := w3 m hm
  refine ⟨m1, m2, m3, ?_⟩
  rw [pset_eq]
  unfold zup
  split
  · exact hv
  · exact m4
theorem wfP_up0 {p : zP} {a : Nat} {v : Int} (h : wfP p) (hv : 0 ≤ v ∧ v ≤ 3) : wfP (pset p 0 (zup (p 0) a v)) := by
  obtain ⟨w0, w1, w2, w3⟩ := h
  refine ⟨w0, fun c hc => ?_, w2, w3⟩
  rw [pset_eq]
  unfold zup
  split
  · exact hv
  · exact w1 c hc
theorem wfP_law {s p : zP} {f : Int} {t : Nat} (h : wfP p) (hl : p 10 0 < 3) (hf : 1 ≤ f ∧ f ≤ 2) (ht : 2 ≤ t) (hs : ∀ j : Nat, 1 ≤ j → j < t → 0 ≤ s 1 j ∧ s 1 j < 8) : wfP (lwP s p f t) := by
  obtain ⟨r1, r2⟩ := wyN_rg (s := s) (t - 1) 1 0 (by decide) (fun j j1 j2 => hs j j1 (by omega))
  have r2 := r2 (by omega)
  unfold lwP
  generalize wyN s (t - 1) 1 0 = W at r1 r2
  obtain ⟨w0, w1, w2, w3⟩ := h
  refine ⟨?_, w1, fun l hl2 => ?_, fun m hm => ?_⟩
  · rw [pset_eq, pset_ne (by decide), pset_ne (by decide), pset_ne (by decide), pset_ne (by decide), pset_ne (by decide), pset_ne (by decide)]
    omega
  · rw [pset_eq] at hl2
    rw [pset_ne (k' := 1) (by decide), pset_ne (k' := 1) (by decide), pset_eq, pset_ne (k' := 2) (by decide), pset_eq]
    unfold zup
    by_cases e : l = (p 10 0).toNat
    · rw [if_pos e, if_pos e]
      omega
    · rw [if_neg e, if_neg e]
      exact w2 l (by omega)
  · obtain ⟨m1, m2, m3, m4⟩ := w3 m hm
    refine ⟨m1, m2, ?_, m4⟩
    rw [pset_eq, pset_ne (by decide), pset_ne (by decide), pset_ne (by decide)]
    omega
theorem wfP_ap {s p : zP} (ht : TI s) (hw : wfP p) (hi : II s p) (hb : s 7 0 ≠ -9) (he : enB s = true) : wfP (apP s p) := by
  obtain ⟨ht1, ht2, ht3⟩ := ht
  rcases hi with hi | ⟨hk, hi, hi4⟩
  · exact absurd hi hb
  obtain ⟨e4, e5, e2⟩ := enB_t he
  have t0 := ht2 0 (by decide)
  have t1 := ht2 1 (by decide)
  have t2 := ht2 2 (by decide)
  have b0 : bd (s 7 0) p 0 (s 1 0) := hi 0 (by omega)
  have b1 : bd (s 7 0) p 1 (s 1 1) := hi 1 (by omega)
  have hw0 := hw.1
  rcases item_cases hk with e | e | e | e | e | e | e
  · rw [bd_0 e] at b0 b1
    rw [apP_0 e]
    exact wfP_fst p (by omega) (by omega)
  · rw [apP_1 e]
    exact wfP_up0 hw (by omega)
  · rw [bd_4 e] at b0
    rw [apP_4 e]
    refine wfP_law hw (hi4 e) (by omega) (by omega) ?_
    intro i hi1 hi2
    have b := hi i (by omega)
    rw [bd_4 e] at b
    have := ht2 i (by omega)
    omega
  · have b2 : bd (s 7 0) p 2 (s 1 2) := hi 2 (by omega)
    rw [bd_5 (Or.inl e)] at b1 b2
    rw [apP_5 e]
    have := idx_lt (w := p 8 0) (h := p 9 0) (x := s 1 1) (y := s 1 2) (by omega) (by omega) (by omega) (by omega)
    exact wfP_up4 hw (by omega)
  · have b2 : bd (s 7 0) p 2 (s 1 2) := hi 2 (by omega)
    rw [bd_5 (Or.inr e)] at b1 b2
    rw [apP_6 e]
    have := idx_lt (w := p 8 0) (h := p 9 0) (x := s 1 1) (y := s 1 2) (by omega) (by omega) (by omega) (by omega)
    exact wfP_up5 hw (by omega)
  · rw [bd_7 e] at b1
    rw [apP_7 e]
    exact wfP_up6 hw (by omega)
  · rw [bd_8 e] at b1
    rw [apP_8 e]
    exact wfP_up7 hw (by omega)
/-- what a taken token keeps -/
theorem isT_keep {s p : zP} (ht : TI s) (hK : KI s) (hw : wfP p) (hi : II s p) : TI (isT s p).2.1 ∧ wfP (isT s p).2.2 ∧ (isT s p).2.1 0 = s 0 ∧ (isT s p).2.1 2 = s 2 ∧ (isT s p).2.1 3 = s 3 ∧ (isT s p).2.1 4 = s 4 ∧ (s 8 0 ≤ (isT s p).2.1 8 0 ∧ (isT s p).2.1 8 0 ≤ s 8 0 + 1) ∧ ((isT s p).1 = true → II (isT s p).2.1 (isT s p).2.2) := by
  obtain ⟨k1, k2, k3⟩ := hK
  obtain ⟨ht1, ht2, ht3⟩ := id ht
  unfold isT
  by_cases c : s 7 0 = -9
  · rw [if_pos c]
    by_cases c5 : s 5 0 = 0 ∧ ¬ bgN s p
    · rw [if_pos c5]
      have hv := k2 c5.1
      refine ⟨⟨ht1, ht2, (show (0 : Int) ≤ 0 ∧ (0 : Int) ≤ 9 by decide)⟩, hw, rfl, rfl, rfl, rfl, ?_, fun h => ?_⟩
      · exact ⟨Int.le_refl _, Int.le_add_one (Int.le_refl _)⟩
      · have h : decide (s 6 0 ≠ -9) = true := h
        rw [decide_eq_true_eq] at h
        right
        have e7 : bgW s 7 0 = s 6 0 := rfl
        have e9 : bgW s 9 0 = 0 := rfl
        dsimp only
        rw [e7, e9]
        refine ⟨by omega, fun i hi => by omega, fun h4 => ?_⟩
        have := c5.2
        unfold bgN at this
        omega
    · rw [if_neg c5]
      exact ⟨ht, hw, rfl, rfl, rfl, rfl, ⟨Int.le_refl _, Int.le_add_one (Int.le_refl _)⟩, fun h => absurd h Bool.false_ne_true⟩
  · rw [if_neg c]
    have hi' := hi
    rcases hi' with hi' | ⟨hk, hi', hi4⟩
    · exact absurd hi' c
    by_cases c5 : s 5 0 = 1
    · rw [if_pos c5]
      by_cases ca : s 9 0 < 9 ∧ alB s p (s 6 0) = true
      · rw [if_pos ca]
        have e1 : nmW s 1 = zup (s 1) (s 9 0).toNat (s 6 0) := rfl
        have e9 : nmW s 9 0 = s 9 0 + 1 := rfl
        have e7 : nmW s 7 0 = s 7 0 := rfl
        have hv := k3 c5
        refine ⟨⟨ht1, ?_, ?_⟩, hw, rfl, rfl, rfl, rfl, ?_, fun _ => Or.inr ⟨hk, ?_, hi4⟩⟩
        · intro i hi9
          dsimp only
          rw [e1]
          unfold zup
          split
          · exact hv
          · exact ht2 i hi9
        · dsimp only
          rw [e9]; omega
        · exact ⟨Int.le_refl _, Int.le_add_one (Int.le_refl _)⟩
        · intro i hi9
          dsimp only at hi9 ⊢
          rw [e9] at hi9
          rw [e1, e7]
          by_cases z : i = (s 9 0).toNat
          · rw [z, zup_eq]
            have hb := alB_bd hk ca.2
            rw [show ((s 9 0).toNat : Int) = s 9 0 by omega]
            exact hb
          · rw [zup_ne z]
            exact hi' i (by omega)
      · rw [if_neg ca]
        exact ⟨ht, hw, rfl, rfl, rfl, rfl, ⟨Int.le_refl _, Int.le_add_one (Int.le_refl _)⟩, fun h => absurd h Bool.false_ne_true⟩
    · rw [if_neg c5]
      by_cases ce : s 5 0 = 2 ∧ enB s = true
      · rw [if_pos ce]
        have e8 : edW s 8 0 = s 8 0 + 1 := rfl
        refine ⟨⟨ht1, ht2, ht3⟩, wfP_ap ht hw hi c ce.2, rfl, rfl, rfl, rfl, ?_, fun _ => Or.inl rfl⟩
        dsimp only
        rw [e8]
        omega
      · rw [if_neg ce]
        exact ⟨ht, hw, rfl, rfl, rfl, rfl, ⟨Int.le_refl _, Int.le_add_one (Int.le_refl _)⟩, fun h => absurd h Bool.false_ne_true⟩
/-- tokens read, so many at most: -9, or the place of the one that can't stand; the script and the draft behind it -/
def rdL (len : Nat) : Nat → zP → zP → Int × zP × zP
  | 0, s, p => (-9, s, p)
  | n + 1, s, p => if tkP s len < len then (if (isT (tkW s len) p).1 = true then rdL len n (isT (tkW s len) p).2.1 (isT (tkW s len) p).2.2 else ((isT (tkW s len) p).2.1 4 0, (isT (tkW s len) p).2.1, (isT (tkW s len) p).2.2)) else (-9, tkW s len, p)
theorem RI_step {len : Nat} {s p : zP} (h : RI len s p) (hq : tkP s len < len) : TI (tkW s len) ∧ KI (tkW s len) ∧ wfP p ∧ II (tkW s len) p ∧ tkW s len 8 0 = s 8 0 ∧ ((isT (tkW s len) p).1 = true → RI len (isT (tkW s len) p).2.1 (isT (tkW s len) p).2.2) := by
  obtain ⟨ht, h2, h3, hw, hi⟩ := h
  obtain ⟨f1, f2, f3⟩ := tk_facts h3 hq
  have e8 : tkW s len 8 0 = s 8 0 := by rw [tkW_ne (by decide)]
  obtain ⟨a1, a2, a3, a4, a5, a6, a7, a8⟩ := isT_keep (TI_tk (len := len) ht) f2 hw (II_tk (len := len) hi)
  refine ⟨TI_tk ht, f2, hw, II_tk hi, e8, fun z => ⟨a1, ?_, ?_, a2, a8 z⟩⟩
  · rw [a4, tkW_ne (by decide)]; exact h2
  · rw [a5]; omega
theorem rdL_keep {len : Nat} : ∀ (n : Nat) (s p : zP), RI len s p → TI (rdL len n s p).2.1 ∧ wfP (rdL len n s p).2.2 ∧ (rdL len n s p).2.1 0 = s 0 ∧ (rdL len n s p).2.1 2 = s 2 ∧ ((rdL len n s p).1 = -9 ∨ (0 ≤ (rdL len n s p).1 ∧ (rdL len n s p).1 < len)) ∧ (s 8 0 ≤ (rdL len n s p).2.1 8 0 ∧ (rdL len n s p).2.1 8 0 ≤ s 8 0 + n) := by
  intro n
  induction n with
  | zero =>
    intro s p h
    rw [rdL]
    refine ⟨h.1, h.2.2.2.1, rfl, rfl, Or.inl rfl, ?_⟩
    dsimp only
    omega
  | succ n ih =>
    intro s p h
    rw [rdL]
    by_cases hq : tkP s len < len
    · rw [if_pos hq]
      obtain ⟨b1, b2, b3, b4, b5, b6⟩ := RI_step h hq
      obtain ⟨a1, a2, a3, a4, a5, a6, a7, a8⟩ := isT_keep b1 b2 b3 b4
      have e0 : tkW s len 0 = s 0 := tkW_ne (by decide)
      have e2 : tkW s len 2 = s 2 := tkW_ne (by decide)
      by_cases c : (isT (tkW s len) p).1 = true
      · rw [if_pos c]
        obtain ⟨c1, c2, c3, c4, c5, c6⟩ := ih _ _ (b6 c)
        refine ⟨c1, c2, by rw [c3, a3, e0], by rw [c4, a4, e2], c5, ?_⟩
        omega
      · rw [if_neg c]
        obtain ⟨f1, f2, f3⟩ := tk_facts h.2.2.1 hq
        refine ⟨a1, a2, by rw [a3, e0], by rw [a4, e2], Or.inr ?_, ?_⟩
        · dsimp only
          rw [a6, f3]
          omega
        · dsimp only
          omega
    · rw [if_neg hq]
      refine ⟨TI_tk h.1, h.2.2.2.1, tkW_ne (by decide), tkW_ne (by decide), Or.inl rfl, ?_⟩
      dsimp only
      rw [tkW_ne (by decide)]
      omega
end RH
