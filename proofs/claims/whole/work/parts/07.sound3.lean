-- one step, then whole methods
section RZS
variable {p : Program} {l : Launch} {e : Env} {R : Room} {s : State} {m : MethodId} {args : Array Value} {below : List Frame} {meth : Method} {c : Code} {H : Heap} {locs : List Loc} {cells slots : Nat} {Q : State → Prop}
variable {pc : Nat} {ls : Array Slot} {ad : Nat → Nat} {D : va_G} {cI cZ : ClassId} {N : Nat} {w : rz_W}
theorem rz_next_W {q : rz_Q} (F : rz_Fx p s m args c q.2.1 q.1.cls D cI cZ ad N) (hS : va_S (rz_A N ad) s.heap H locs) (hP : va_P D vwCl (rz_ws cI cZ ad N w) H) (hW : rz_Wd N w) {L : rz_L} (hL : rz_Ls ad ls L) (hml : c.maxLocals = L.length) (hfr : 1 ≤ R.frames) (hlo : 50 ≤ R.locals) (hcs : cells ≤ R.cells ∧ slots ≤ R.slots)
    {ins : rz_I} {st : List Value} {pc' : Nat} {L' : rz_L} {st' : List Value} {w' : rz_W} (hok : rz_okI q (pc, ins) = true) (hs : rz_stp q.2.2.2.1 ins pc L st w = some (.inl (pc', L', st', w')))
    (k : ∀ (H1 : Heap) (locs1 : List Loc) (ls1 : Array Slot), rz_Ls ad ls1 L' → va_P D vwCl (rz_ws cI cZ ad N w') H1 → rz_Wd N w' → va_S (rz_A N ad) s.heap H1 locs1 → L'.length = L.length → W p l e R s m args below meth c H1 locs1 cells slots Q (F0 m pc' ls1 (st'.map (rz_v ad)))) : W p l e R s m args below meth c H locs cells slots Q (F0 m pc ls (st.map (rz_v ad))) := by
  have F' := F
  obtain ⟨hx, hb, hown, hts, hK, hE, hN, hinj⟩ := F
  have hdg : decode q.2.1 pc = .ok (ins.1, rz_ln ins) := by
    have h9 := hok
    simp only [rz_okI, Bool.and_eq_true, decide_eq_true_eq] at h9
    exact h9.1
  unfold rz_stp at hs
  split at hs
  · -- iload
    split at hs
    · rename_i e1; cases hs
      exact lv_iload hx hb hdg (hL.2.2 _ _ (rz_lod_some e1)) (k _ _ _ hL hP hW hS rfl)
    · cases hs
  · split at hs
    · rename_i e1; cases hs
      exact lv_iload_n hx hb hdg rfl (hL.2.2 _ _ (rz_lod_some e1)) (k _ _ _ hL hP hW hS rfl)
    · cases hs
  · split at hs
    · rename_i e1; cases hs
      exact lv_lload_n hx hb hdg rfl (hL.2.2 _ _ (rz_lod_some e1)) (k _ _ _ hL hP hW hS rfl)
    · cases hs
  · split at hs
    · rename_i e1; cases hs
      exact lv_aload_n hx hb hdg rfl (hL.2.2 _ _ (rz_lod_some e1)) (k _ _ _ hL hP hW hS rfl)
    · cases hs
  · -- istore
    split at hs
    · split at hs
      · rename_i hi; cases hs
        exact lv_istore hx hb hdg (rz_Ls_has.mp hL) hi rfl (fun ls' h' => k _ _ _ (rz_Ls_set1 (v := .int _) h') hP hW hS (rz_set1_len _ _ _))
      · cases hs
    · cases hs
  · split at hs
    · split at hs
      · rename_i hi; cases hs
        exact lv_istore_n hx hb hdg rfl (rz_Ls_has.mp hL) hi rfl (fun ls' h' => k _ _ _ (rz_Ls_set1 (v := .int _) h') hP hW hS (rz_set1_len _ _ _))
      · cases hs
    · cases hs
  · split at hs
    · split at hs
      · rename_i hi; cases hs
        exact lv_lstore_n hx hb hdg rfl (rz_Ls_has.mp hL) hi rfl (fun ls' h' => k _ _ _ (rz_Ls_set2 (v := .long _) h') hP hW hS (by unfold rz_set2; rw [List.length_set, rz_set1_len]))
      · cases hs
    · cases hs
  · split at hs
    · split at hs
      · rename_i hi; cases hs
        exact lv_astore_n hx hb hdg rfl (rz_Ls_has.mp hL) hi rfl (fun ls' h' => k _ _ _ (rz_Ls_set1 (v := .ref _) h') hP hW hS (rz_set1_len _ _ _))
      · cases hs
    · cases hs
  · -- iinc
    split at hs
    · rename_i e1
      split at hs
      · rename_i hi; cases hs
        obtain ⟨k9, hk9⟩ := List.getElem?_of_mem (rz_lv_mem (ad := ad) (q := (_, _)).mpr ⟨_, rz_lod_some e1, rfl⟩)
        exact lv_iinc hx hb hdg (rz_Ls_has.mp hL) (k := k9) hk9 rfl hi rfl (fun ls' h' => k _ _ _ (rz_Ls_set1 (v := .int _) h') hP hW hS (rz_set1_len _ _ _))
      · cases hs
    · cases hs
  · -- ldc
    cases hs
    simp only [rz_okI, Bool.and_eq_true] at hok
    have hok := hok.2
    split at hok
    · exact lv_ldc hx hb hown (hts _ (rz_wd_mem hok)) hdg (k _ _ _ hL hP hW hS rfl)
    · simp only [Bool.and_eq_true, decide_eq_true_eq] at hok
      obtain ⟨h1, h2⟩ := hok
      split at h2
      · rename_i o i' tx hq9
        simp only [Bool.and_eq_true, decide_eq_true_eq] at h2
        obtain ⟨h3, h4⟩ := h2
        subst h1; subst h3; subst h4
        exact va_ldcS hx hb hown (hE.2.2.2.2.1 _ _ hq9) hdg (k _ _ _ hL hP hW hS rfl)
      · cases h2
    · cases hok
  · cases hs
    simp only [rz_okI, Bool.and_eq_true] at hok
    have hok := hok.2
    split at hok
    · exact lv_ldcw hx hb hown (hts _ (rz_wd_mem hok)) hdg (k _ _ _ hL hP hW hS rfl)
    · cases hok
  · cases hs
    simp only [rz_okI, Bool.and_eq_true] at hok
    have hok := hok.2
    split at hok
    · exact lv_ldc2 hx hb hown (hts _ (rz_wd_mem hok)) hdg (k _ _ _ hL hP hW hS rfl)
    · cases hok
  · -- getstatic
    cases hs
    exact rz_gets_W F' hS rfl hok hdg (k _ _ _ hL hP hW hS rfl)
  · -- goto
    cases hs
    simp only [rz_okI, Bool.and_eq_true, decide_eq_true_eq] at hok
    exact lv_goto hx hb hdg hok.2 (k _ _ _ hL hP hW hS rfl)
  · split at hs
    · cases hs
      simp only [rz_okI, Bool.and_eq_true, decide_eq_true_eq] at hok
      exact rz_if_W hx hb hdg hok.2 (k _ _ _ hL hP hW hS rfl)
    · cases hs
  · split at hs
    · cases hs
      simp only [rz_okI, Bool.and_eq_true, decide_eq_true_eq] at hok
      exact rz_icmp_W hx hb hdg hok.2 (k _ _ _ hL hP hW hS rfl)
    · cases hs
  · -- tableswitch
    split at hs
    · split at hs
      · rename_i e1; cases hs
        exact rz_sw_W hx hb hdg e1 (k _ _ _ hL hP hW hS rfl)
      · cases hs
    · cases hs
  · -- getfield
    split at hs
    · split at hs
      · rename_i e1; cases hs
        exact rz_getf_W F' hS hP hW rfl hok hdg e1 (k _ _ _ hL hP hW hS rfl)
      · cases hs
    · cases hs
  · -- putfield
    split at hs
    · split at hs
      · rename_i hf
        split at hs
        · rename_i e1; cases hs
          exact rz_putf_W F' hS hP hW rfl hok hdg hf e1 (fun H1 locs1 h1 h2 h3 => k _ _ _ hL h1 h2 h3 rfl)
        · cases hs
      · cases hs
    · cases hs
  · -- iaload
    split at hs
    · split at hs
      · rename_i e1; cases hs
        exact rz_iald_W F' hS hP hW hdg e1 (k _ _ _ hL hP hW hS rfl)
      · cases hs
    · cases hs
  · split at hs
    · split at hs
      · rename_i e1; cases hs
        exact rz_iast_W F' hS hP hW hdg e1 (fun H1 locs1 h1 h2 h3 => k _ _ _ hL h1 h2 h3 rfl)
      · cases hs
    · cases hs
  · split at hs
    · split at hs
      · rename_i e1; cases hs
        exact rz_bald_W F' hS hP hW hdg e1 (k _ _ _ hL hP hW hS rfl)
      · cases hs
    · cases hs
  · split at hs
    · split at hs
      · rename_i e1; cases hs
        exact rz_bast_W F' hS hP hW hdg e1 (fun H1 locs1 h1 h2 h3 => k _ _ _ hL h1 h2 h3 rfl)
      · cases hs
    · cases hs
  · split at hs
    · split at hs
      · rename_i e1; cases hs
        exact rz_alen_W F' hS hP hW hdg e1 (k _ _ _ hL hP hW hS rfl)
      · cases hs
    · cases hs
  · -- invokevirtual
    split at hs
    · split at hs
      · split at hs
        · cases hs
        · cases hs
      · cases hs
    · cases hs
  · -- invokestatic
    split at hs
    · rename_i hA
      split at hs
      · split at hs
        · rename_i hr; cases hs
          simp only [rz_okI, Bool.and_eq_true] at hok
          have hok := hok.2
          rw [if_pos hA] at hok
          have hl9 : ∀ (r : List Value), rz_cs r ≤ 8 → ((r.map (rz_v ad)).map fun v => v.category).sum + 13 ≤ R.locals := by
            intro r hr
            have := rz_cs_map ad r
            unfold rz_cs at this hr
            omega
          have hsz : c.maxLocals = ls.size := by rw [hL.1]; exact hml
          have kk := k _ _ _ hL hP hW hS rfl
          split at hok
          · rename_i hA9
            rw [if_pos hA9] at kk
            exact va_mmax hx hb hsz hown (hts _ (rz_wd_mem hok)) (hts _ rz_math_words.1.1) (hts _ rz_math_words.2.2) (hts _ rz_math_words.1.2) hfr (hl9 _ hr) hcs.1 hcs.2 hdg kk
          · rename_i hA9
            rw [if_neg hA9] at kk
            exact va_mmin hx hb hsz hown (hts _ (rz_wd_mem hok)) (hts _ rz_math_words.2.1.1) (hts _ rz_math_words.2.2) (hts _ rz_math_words.2.1.2) hfr (hl9 _ hr) hcs.1 hcs.2 hdg kk
        · cases hs
      · cases hs
    · split at hs
      · cases hs
      · cases hs
  · -- ireturn
    split at hs
    · split at hs
      · split at hs
        · cases hs
        · cases hs
      · cases hs
    · cases hs
  · split at hs
    · split at hs
      · cases hs
      · cases hs
    · cases hs
  · split at hs
    · split at hs
      · cases hs
      · cases hs
    · cases hs
  · split at hs
    · split at hs
      · cases hs
      · cases hs
    · cases hs
  · -- the stack alone
    split at hs
    · rename_i e1; cases hs
      exact rz_alu_W hx hb e1 hdg (k _ _ _ hL hP hW hS rfl)
    · cases hs
theorem rz_ret_W {q : rz_Q} (F : rz_Fx p s m args c q.2.1 q.1.cls D cI cZ ad N) (hS : va_S (rz_A N ad) s.heap H locs) (hP : va_P D vwCl (rz_ws cI cZ ad N w) H) (hW : rz_Wd N w) {L : rz_L} (hr : meth.sig.returnType = q.2.2.2.1) (hlocks : meth.locks = false)
    {ins : rz_I} {st : List Value} {v : Option Value} {w' : rz_W} (hok : rz_okI q (pc, ins) = true) (hs : rz_stp q.2.2.2.1 ins pc L st w = some (.inr (.inl (v, w')))) : W p l e R s m args below meth c H locs 0 0 (MQ below (rz_Qc D cI cZ ad N v w') args s 0 0 (rz_A N ad)) (F0 m pc ls (st.map (rz_v ad))) := by
  obtain ⟨hx, hb, hown, hts, hK, hE, hN, hinj⟩ := F
  have hdg : decode q.2.1 pc = .ok (ins.1, rz_ln ins) := by
    have h9 := hok
    simp only [rz_okI, Bool.and_eq_true, decide_eq_true_eq] at h9
    exact h9.1
  unfold rz_stp at hs
  split at hs
  case h_27 =>
    split at hs
    · split at hs
      · rename_i ty hty
        split at hs
        · rename_i hn
          cases hs
          refine W.zret (ty := ty) hx hb (hr.trans hty) hn (fun t ht _ => ⟨⟨rfl, by rw [ht]; exact hP, hW⟩, hS.F ht⟩) hS.2.2 hdg hlocks
        · cases hs
      · cases hs
    · cases hs
  case h_28 =>
    split at hs
    · split at hs
      · rename_i hty
        cases hs
        exact W.lret hx hb (hr.trans hty) (fun t ht _ => ⟨⟨rfl, by rw [ht]; exact hP, hW⟩, hS.F ht⟩) hS.2.2 hdg hlocks
      · cases hs
    · cases hs
  case h_29 =>
    split at hs
    · split at hs
      · rename_i hty
        cases hs
        exact W.aret hx hb (hr.trans hty) (Or.inl ⟨_, rfl⟩) (Or.inr ⟨_, rfl⟩) (fun t ht _ => ⟨⟨rfl, by rw [ht]; exact hP, hW⟩, hS.F ht⟩) hS.2.2 hdg hlocks
      · cases hs
    · cases hs
  case h_30 =>
    split at hs
    · split at hs
      · rename_i hty
        cases hs
        exact W.vret hx hb (hr.trans hty) (fun t ht _ => ⟨⟨rfl, by rw [ht]; exact hP, hW⟩, hS.F ht⟩) hS.2.2 hdg hlocks
      · cases hs
    · cases hs
  all_goals (first | (cases hs; done) | (split at hs <;> first | (cases hs; done) | (split at hs <;> first | (cases hs; done) | (split at hs <;> cases hs))))
theorem rz_split {st : List Value} {b : Nat} {x : List Value} (h : (st.take b).reverse = x) : st = x.reverse ++ st.drop b := by rw [← h, List.reverse_reverse, List.take_append_drop]
theorem rz_split_len {st : List Value} {b : Nat} {x : List Value} (h : (st.take b).reverse = x) (hb : b ≤ st.length) : x.length = b := by rw [← h, List.length_reverse, List.length_take]; exact Nat.min_eq_left hb
theorem rz_callS_W' {own : String} {cc : ByteArray} (F : rz_Fx p s m args c cc own D cI cZ ad N) (hS : va_S (rz_A N ad) s.heap H locs) (hP : va_P D vwCl (rz_ws cI cZ ad N w) H) (hW : rz_Wd N w) {i a b j d : Nat} {q : rz_Q} (hq : q.1.cls = own) {ln : Nat} {cv : Value} {st : List Value} {v : Option Value} {w' : rz_W}
    (hok : rz_okI q (pc, .invokestatic i, ln, a, b, j, cv) = true) (ha : ¬ 10000 ≤ a) (hdg : decode cc pc = .ok (.invokestatic i, 3)) (hM : rz_Met l d a (st.take b).reverse w v w') (hb : b ≤ st.length ∧ rz_cs (st.drop b) ≤ 8)
    (hsz : ls.size = c.maxLocals) (hfr : d + 1 ≤ R.frames) (hlo : 50 * d + 50 ≤ R.locals) (hcs : cells ≤ R.cells ∧ slots ≤ R.slots)
    (k : ∀ (H1 : Heap) (locs1 : List Loc), va_P D vwCl (rz_ws cI cZ ad N w') H1 → rz_Wd N w' → va_S (rz_A N ad) s.heap H1 locs1 → W p l e R s m args below meth c H1 locs1 cells slots Q (F0 m (pc + 3) ls ((v.toList ++ st.drop b).map (rz_v ad)))) : W p l e R s m args below meth c H locs cells slots Q (F0 m pc ls (st.map (rz_v ad))) := by
  have e2 := rz_split (st := st) (b := b) rfl
  have hlen := rz_split_len (st := st) (b := b) rfl hb.1
  have := rz_callS_W F hS hP hW hq hok ha hdg hM hlen hb.2 hsz hfr hlo hcs k
  rw [← e2] at this
  exact this
theorem rz_call_W {q : rz_Q} (F : rz_Fx p s m args c q.2.1 q.1.cls D cI cZ ad N) (hS : va_S (rz_A N ad) s.heap H locs) (hP : va_P D vwCl (rz_ws cI cZ ad N w) H) (hW : rz_Wd N w) {L : rz_L} {d : Nat} (hsz : ls.size = c.maxLocals) (hfr : d + 1 ≤ R.frames) (hlo : 50 * d + 50 ≤ R.locals) (hcs : cells ≤ R.cells ∧ slots ≤ R.slots)
    {ins : rz_I} {st : List Value} {a : Nat} {as r : List Value} {v : Option Value} {w' : rz_W} (hok : rz_okI q (pc, ins) = true) (hs : rz_stp q.2.2.2.1 ins pc L st w = some (.inr (.inr (a, as, r)))) (hM : rz_Met l d a as w v w')
    (k : ∀ (H1 : Heap) (locs1 : List Loc), va_P D vwCl (rz_ws cI cZ ad N w') H1 → rz_Wd N w' → va_S (rz_A N ad) s.heap H1 locs1 → W p l e R s m args below meth c H1 locs1 cells slots Q (F0 m (pc + 3) ls ((v.toList ++ r).map (rz_v ad)))) : W p l e R s m args below meth c H locs cells slots Q (F0 m pc ls (st.map (rz_v ad))) := by
  have hdg : decode q.2.1 pc = .ok (ins.1, rz_ln ins) := by
    have h9 := hok
    simp only [rz_okI, Bool.and_eq_true, decide_eq_true_eq] at h9
    exact h9.1
  unfold rz_stp at hs
  split at hs
  case h_25 =>
    split at hs
    · rename_i hb9
      split at hs
      · rename_i h as9 ci e1
        split at hs
        · rename_i hcl
          cases hs
          have e2 := rz_split e1
          have hlen := rz_split_len e1 hb9.1
          rw [List.length_cons] at hlen
          have := rz_callV_W F hS hP hW rfl hok hcl hdg hM hlen hb9.2 hsz hfr hlo hcs k
          rw [← e2] at this
          exact this
        · cases hs
      · cases hs
    · cases hs
  case h_26 =>
    split at hs
    · split at hs
      · split at hs
        · cases hs
        · cases hs
      · cases hs
    · rename_i hA
      split at hs
      · rename_i hb9
        cases hs
        exact rz_callS_W' F hS hP hW rfl hok hA hdg hM hb9 hsz hfr hlo hcs k
      · cases hs
  all_goals (first | (cases hs; done) | (split at hs <;> first | (cases hs; done) | (split at hs <;> first | (cases hs; done) | (split at hs <;> cases hs))))
theorem rz_body {d : Nat} {K : Nat → List Value → rz_W → Option rz_O} (hKs : ∀ i as w v w', K i as w = some (v, w') → rz_Met l d i as w v w') {q : rz_Q} {i0 : Nat} (hq : rz_ms[i0]? = some q) (F : rz_Fx p s m args c q.2.1 q.1.cls D cI cZ ad N) (hr : meth.sig.returnType = q.2.2.2.1) (hlocks : meth.locks = false) {v : Option Value} {w' : rz_W} :
    ∀ (n pc : Nat) (L : rz_L) (st : List Value) (w : rz_W) (H : Heap) (locs : List Loc) (ls : Array Slot), rz_run K (rz_at q.2.2.2.2.2.2.2.2.2.2) q.2.2.2.1 n pc L st w = some (v, w') → c.maxLocals = L.length → rz_Ls ad ls L → va_P D vwCl (rz_ws cI cZ ad N w) H → rz_Wd N w → va_S (rz_A N ad) s.heap H locs →
    W p l e (rz_rm (d + 1)) s m args below meth c H locs 0 0 (MQ below (rz_Qc D cI cZ ad N v w') args s 0 0 (rz_A N ad)) (F0 m pc ls (st.map (rz_v ad))) := by
  obtain ⟨-, -, -, -, -, -, -, -, hcode⟩ := rz_hok hq
  intro n
  induction n with
  | zero => intro pc L st w H locs ls h; cases h
  | succ n ih =>
    intro pc L st w H locs ls h hml hL hP hW hS
    rw [rz_run] at h
    cases hC : rz_at q.2.2.2.2.2.2.2.2.2.2 pc with
    | none => rw [hC] at h; cases h
    | some ins =>
      rw [hC] at h
      dsimp only at h
      have hok := hcode _ (rz_at_mem hC)
      cases hs : rz_stp q.2.2.2.1 ins pc L st w with
      | none => rw [hs] at h; cases h
      | some z =>
        rw [hs] at h
        rcases z with ⟨pc', L', st', w1⟩ | ⟨v1, w1⟩ | ⟨i, as, r⟩
        · refine rz_next_W F hS hP hW hL hml (by show 1 ≤ d + 1; omega) (by show 50 ≤ 50 * (d + 1); omega) ⟨Nat.zero_le _, Nat.zero_le _⟩ hok hs (fun H1 locs1 ls1 h1 h2 h3 h4 h5 => ?_)
          exact ih pc' L' st' w1 H1 locs1 ls1 h (hml.trans h5.symm) h1 h2 h3 h4
        · cases h
          exact rz_ret_W F hS hP hW hr hlocks hok hs
        · dsimp only at h
          cases hK9 : K i as w with
          | none => rw [hK9] at h; cases h
          | some z =>
            obtain ⟨v2, w2⟩ := z
            rw [hK9] at h
            refine rz_call_W F hS hP hW (d := d) (hL.1.trans hml.symm) (Nat.le_refl _) (by show 50 * d + 50 ≤ 50 * (d + 1); omega) ⟨Nat.zero_le _, Nat.zero_le _⟩ hok hs (hKs _ _ _ _ _ hK9) (fun H1 locs1 h1 h2 h3 => ?_)
            exact ih (pc + 3) L (v2.toList ++ r) w2 H1 locs1 ls h hml hL h1 h2 h3
end RZS
/-- a method, at a depth -/
noncomputable def rz_dM : Nat → Nat → List Value → rz_W → Option rz_O
  | 0, _, _, _ => none
  | d + 1, i, as, w => match rz_ms[i]? with
    | some q => if (rz_inj as).length ≤ q.2.2.1 then rz_den (rz_dM d) (rz_at q.2.2.2.2.2.2.2.2.2.2) q.2.2.2.1 0 (rz_ini q.2.2.1 as) [] w else none
    | none => none
theorem rz_args_at : ∀ (as : List Value) (k : Nat) (ad : Nat → Nat) (i : Nat) (v : Value), (rz_inj as)[i]? = some (some v) → (k + i, rz_v ad v) ∈ lv_args k (as.map (rz_v ad)) := by
  intro as
  induction as with
  | nil => intro k ad i v h; simp [rz_inj] at h
  | cons a t ih =>
    intro k ad i v h
    show _ ∈ (k, rz_v ad a) :: lv_args (if (rz_v ad a).category = 2 then k + 2 else k + 1) (t.map (rz_v ad))
    rw [rz_v_cat]
    unfold rz_inj at h
    by_cases hc : a.category = 2
    · rw [if_pos hc] at h ⊢
      match i, h with
      | 0, h =>
        simp at h
        rw [h]
        exact List.mem_cons_self
      | 1, h => simp at h
      | i + 2, h =>
        have := ih (k + 2) ad i v (by simpa using h)
        rw [show k + (i + 2) = k + 2 + i by omega]
        exact List.mem_cons_of_mem _ this
    · rw [if_neg hc] at h ⊢
      match i, h with
      | 0, h =>
        simp at h
        rw [h]
        exact List.mem_cons_self
      | i + 1, h =>
        have := ih (k + 1) ad i v (by simpa using h)
        rw [show k + (i + 1) = k + 1 + i by omega]
        exact List.mem_cons_of_mem _ this
theorem rz_inj_len (ad : Nat → Nat) : ∀ (as : List Value), (lg_sl (as.map (rz_v ad))).length = (rz_inj as).length := by
  intro as
  induction as with
  | nil => rfl
  | cons a t ih =>
    have e : lg_sl ((a :: t).map (rz_v ad)) = (if (rz_v ad a).category = 2 then [Slot.val (rz_v ad a), .second] else [Slot.val (rz_v ad a)]) ++ lg_sl (t.map (rz_v ad)) := rfl
    rw [e, rz_v_cat, List.length_append, ih]
    show _ = (if a.category = 2 then some a :: none :: rz_inj t else some a :: rz_inj t).length
    by_cases hc : a.category = 2
    · rw [if_pos hc, if_pos hc]
      simp only [List.length_cons, List.length_nil]
      omega
    · rw [if_neg hc, if_neg hc]
      simp only [List.length_cons, List.length_nil]
      omega
theorem rz_sound (l : Launch) : ∀ (d i : Nat) (as : List Value) (w : rz_W) (v : Option Value) (w' : rz_W), rz_dM d i as w = some (v, w') → rz_Met l d i as w v w' := by
  intro d
  induction d with
  | zero => intro i as w v w' h; cases h
  | succ d ih =>
    intro i as w v w' h q hq D cI cZ ad N hN hinj
    rw [rz_dM, hq] at h
    dsimp only at h
    split at h
    · rename_i hlen
      obtain ⟨n, hn⟩ := rz_den_iff.mp h
      obtain ⟨a1, a2, a3, a4, a5, a6, a7, a8, a9⟩ := rz_hok hq
      refine Met.ofW (cc := q.2.1) (maxL := q.2.2.1) (ret := q.2.2.2.1) a1 rfl ?_
      intro p e s m args below meth c s₁ B hml hv
      obtain ⟨rfl, hP, hW, hK, hE⟩ := hv
      have hts0 := atoms_spec (ws := rz_wsM q) B.pre
      have hts : ∀ w ∈ rz_tbl, w.before (as.map (rz_v ad)).toArray s = true := fun w hw => hts0 w (List.mem_cons_of_mem _ hw)
      have F : rz_Fx p s m (as.map (rz_v ad)).toArray c q.2.1 q.1.cls D cI cZ ad N := ⟨B.exec, B.bytes, findClass_of_methodNamed B.named, hts, hK, hE, hN, hinj⟩
      have hl := lv_entry (as.map (rz_v ad)) (n := q.2.2.1) (by rw [rz_inj_len]; exact hlen)
      rw [lg_entry_eq]
      have hLL : (rz_ini q.2.2.1 as).length = q.2.2.1 := by
        unfold rz_ini
        rw [List.length_append, List.length_replicate]
        omega
      have hL : rz_Ls ad ((lg_sl (as.map (rz_v ad)) ++ List.replicate (q.2.2.1 - (lg_sl (as.map (rz_v ad))).length) Slot.unset).toArray) (rz_ini q.2.2.1 as) := by
        refine ⟨by rw [hLL]; exact hl.1, hl.2.1, fun i9 v9 h9 => ?_⟩
        have h8 : (rz_inj as)[i9]? = some (some v9) := by
          unfold rz_ini at h9
          rw [List.getElem?_append] at h9
          split at h9
          · exact h9
          · rw [List.getElem?_replicate] at h9
            split at h9 <;> cases h9
        have := rz_args_at as 0 ad i9 v9 h8
        rw [Nat.zero_add] at this
        exact hl.2.2 _ this
      exact rz_body ih hq F B.returns B.notSynchronized n 0 (rz_ini q.2.2.1 as) [] w s.heap [] _ hn (hml.trans hLL.symm) hL hP hW va_S.rf
    · cases h
