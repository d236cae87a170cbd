/-! the model's constructor: its contract -/
theorem dX5_init_0 : decode cX5_init 0 = .ok (.aload_n 0, 1) := by decide +kernel
theorem dX5_init_1 : decode cX5_init 1 = .ok (.invokespecial 1, 3) := by decide +kernel
theorem dX5_init_4 : decode cX5_init 4 = .ok (.aload_n 0, 1) := by decide +kernel
theorem dX5_init_5 : decode cX5_init 5 = .ok (.sipush 300, 3) := by decide +kernel
theorem dX5_init_8 : decode cX5_init 8 = .ok (.newarray .int, 2) := by decide +kernel
theorem dX5_init_10 : decode cX5_init 10 = .ok (.putfield 7, 3) := by decide +kernel
theorem dX5_init_13 : decode cX5_init 13 = .ok (.aload_n 0, 1) := by decide +kernel
theorem dX5_init_14 : decode cX5_init 14 = .ok (.bipush 66, 2) := by decide +kernel
theorem dX5_init_16 : decode cX5_init 16 = .ok (.newarray .int, 2) := by decide +kernel
theorem dX5_init_18 : decode cX5_init 18 = .ok (.putfield 13, 3) := by decide +kernel
theorem dX5_init_21 : decode cX5_init 21 = .ok (.aload_n 0, 1) := by decide +kernel
theorem dX5_init_22 : decode cX5_init 22 = .ok (.bipush 9, 2) := by decide +kernel
theorem dX5_init_24 : decode cX5_init 24 = .ok (.newarray .int, 2) := by decide +kernel
theorem dX5_init_26 : decode cX5_init 26 = .ok (.putfield 16, 3) := by decide +kernel
theorem dX5_init_29 : decode cX5_init 29 = .ok (.aload_n 0, 1) := by decide +kernel
theorem dX5_init_30 : decode cX5_init 30 = .ok (.bipush 18, 2) := by decide +kernel
theorem dX5_init_32 : decode cX5_init 32 = .ok (.newarray .int, 2) := by decide +kernel
theorem dX5_init_34 : decode cX5_init 34 = .ok (.putfield 19, 3) := by decide +kernel
theorem dX5_init_37 : decode cX5_init 37 = .ok (.aload_n 0, 1) := by decide +kernel
theorem dX5_init_38 : decode cX5_init 38 = .ok (.iconst 2, 1) := by decide +kernel
theorem dX5_init_39 : decode cX5_init 39 = .ok (.newarray .boolean, 2) := by decide +kernel
theorem dX5_init_41 : decode cX5_init 41 = .ok (.putfield 22, 3) := by decide +kernel
theorem dX5_init_44 : decode cX5_init 44 = .ok (.aload_n 0, 1) := by decide +kernel
theorem dX5_init_45 : decode cX5_init 45 = .ok (.sipush 4608, 3) := by decide +kernel
theorem dX5_init_48 : decode cX5_init 48 = .ok (.newarray .int, 2) := by decide +kernel
theorem dX5_init_50 : decode cX5_init 50 = .ok (.putfield 26, 3) := by decide +kernel
theorem dX5_init_53 : decode cX5_init 53 = .ok (.aload_n 0, 1) := by decide +kernel
theorem dX5_init_54 : decode cX5_init 54 = .ok (.sipush 4608, 3) := by decide +kernel
theorem dX5_init_57 : decode cX5_init 57 = .ok (.newarray .int, 2) := by decide +kernel
theorem dX5_init_59 : decode cX5_init 59 = .ok (.putfield 29, 3) := by decide +kernel
theorem dX5_init_62 : decode cX5_init 62 = .ok (.aload_n 0, 1) := by decide +kernel
theorem dX5_init_63 : decode cX5_init 63 = .ok (.iconst 2, 1) := by decide +kernel
theorem dX5_init_64 : decode cX5_init 64 = .ok (.newarray .int, 2) := by decide +kernel
theorem dX5_init_66 : decode cX5_init 66 = .ok (.putfield 32, 3) := by decide +kernel
theorem dX5_init_69 : decode cX5_init 69 = .ok (.aload_n 0, 1) := by decide +kernel
theorem dX5_init_70 : decode cX5_init 70 = .ok (.iconst 2, 1) := by decide +kernel
theorem dX5_init_71 : decode cX5_init 71 = .ok (.newarray .int, 2) := by decide +kernel
theorem dX5_init_73 : decode cX5_init 73 = .ok (.putfield 35, 3) := by decide +kernel
theorem dX5_init_76 : decode cX5_init 76 = .ok (.aload_n 0, 1) := by decide +kernel
theorem dX5_init_77 : decode cX5_init 77 = .ok (.bipush 8, 2) := by decide +kernel
theorem dX5_init_79 : decode cX5_init 79 = .ok (.newarray .int, 2) := by decide +kernel
theorem dX5_init_81 : decode cX5_init 81 = .ok (.putfield 38, 3) := by decide +kernel
theorem dX5_init_84 : decode cX5_init 84 = .ok (.aload_n 0, 1) := by decide +kernel
theorem dX5_init_85 : decode cX5_init 85 = .ok (.bipush 8, 2) := by decide +kernel
theorem dX5_init_87 : decode cX5_init 87 = .ok (.newarray .int, 2) := by decide +kernel
theorem dX5_init_89 : decode cX5_init 89 = .ok (.putfield 41, 3) := by decide +kernel
theorem dX5_init_92 : decode cX5_init 92 = .ok (.aload_n 0, 1) := by decide +kernel
theorem dX5_init_93 : decode cX5_init 93 = .ok (.getfield 16, 3) := by decide +kernel
theorem dX5_init_96 : decode cX5_init 96 = .ok (.bipush 8, 2) := by decide +kernel
theorem dX5_init_98 : decode cX5_init 98 = .ok (.iconst 1, 1) := by decide +kernel
theorem dX5_init_99 : decode cX5_init 99 = .ok (.iastore, 1) := by decide +kernel
theorem dX5_init_100 : decode cX5_init 100 = .ok (.aload_n 0, 1) := by decide +kernel
theorem dX5_init_101 : decode cX5_init 101 = .ok (.iconst 4, 1) := by decide +kernel
theorem dX5_init_102 : decode cX5_init 102 = .ok (.iconst 4, 1) := by decide +kernel
theorem dX5_init_103 : decode cX5_init 103 = .ok (.invokevirtual 44, 3) := by decide +kernel
theorem dX5_init_106 : decode cX5_init 106 = .ok (.aload_n 0, 1) := by decide +kernel
theorem dX5_init_107 : decode cX5_init 107 = .ok (.invokevirtual 48, 3) := by decide +kernel
theorem dX5_init_110 : decode cX5_init 110 = .ok (.return_, 1) := by decide +kernel
section WSA
variable {N : Nat} {σ : zS} {g k : Nat} {ad : Nat → Nat} {cI cZ : ClassId}
theorem ws_arr (hg : g < 11) (hk : k < 19) (e : ((lay g).getD k (9, 0, 0)).1 = 1 ∨ ((lay g).getD k (9, 0, 0)).1 = 2) (hN : ah g k < N) : (rz_ws cI cZ ad N (wOf N σ))[ah g k]? = some (ad (ah g k), rz_c cI cZ ad (gArr σ g k ((lay g).getD k (9, 0, 0)))) := by rw [rz_ws_at hN, w_ah hg hk e hN]
theorem ws_s8 : (rz_ws cI cZ ad 60 (wOf 60 σ)).set 51 (ad 51, .inl (cI, 9, .inl (upd (aI (σ 10 10)) (zI 8).toNatClampNeg (zI 1)))) = rz_ws cI cZ ad 60 (wOf 60 (sset σ 10 10 (zup (σ 10 10) 8 1))) := by
  have hu := w_M_10 (N := 60) (σ := σ) (Nat.le_refl 60) (i := 8) 1 (by decide) (by decide)
  unfold rz_ast at hu
  rw [show (ah 10 10) = 51 from rfl, show wOf 60 σ 51 = gArr σ 10 10 (1, 9, 0) from w_ah (N := 60) (σ := σ) (g := 10) (k := 10) (by decide) (by decide) (Or.inl rfl) (by decide)] at hu
  rw [show gArr σ 10 10 (1, 9, 0) = .inl (0, 9, aI (σ 10 10)) from rfl] at hu
  dsimp only at hu
  rw [if_pos ⟨rfl, by decide, by decide⟩] at hu
  have h9 := Option.some.inj hu
  rw [show (8 : Int).toNat = 8 from rfl] at h9
  rw [← h9]
  exact rz_ws_set (cI := cI) (cZ := cZ) (ad := ad) (N := 60) (w := wOf 60 σ) (h := 51) (by decide) (.inl (0, 9, upd (aI (σ 10 10)) (zI 8).toNatClampNeg (zI 1)))
end WSA
def mA : zP := pset (fun _ _ => 0) 10 (zup (fun _ => 0) 8 1)
def mB : zP := pset mA 9 (drT (mA 9) 4 4)
def p00 : zP := fstP 4 4 (σ00 8)
theorem sgA : sset σ10 10 10 (zup (σ10 10 10) 8 1) = gset σ01 10 mA := by
  funext g k
  unfold sset σ10 gset mA pset
  by_cases h1 : g = 10
  · subst h1
    by_cases h2 : k = 10
    · subst h2; simp
    · simp [h2]
  · simp [h1]
set_option maxHeartbeats 4000000 in
set_option maxRecDepth 100000 in
theorem c_X5 (l : Launch) (D : va_G) (cI cZ : ClassId) (ad : Nat → Nat) (h0 sz : Nat) : Met l yX5_init (.code yX5_init cX5_init 1 none :: rz_tbl) { frames := 3, cells := 11, slots := 9631, locals := 150 } (va_Pc [.ref h0] (fun U => U.heap.size = sz ∧ va_P D vwCl (rz_ws cI cZ ad 48 (wOf 48 σ01) ++ [(h0, .inr (5, [.int 0, .long 0, .null, .int 0, .int 0, .int 0, .int 0, .int 0, .int 0, .null, .null, .null, .null, .null, .null, .null, .null, .null, .null]))]) U.heap ∧ va_K D vwCl [(cI, .int), (cZ, .boolean)] U ∧ va_D (fun _ => True) (rz_ws cI cZ ad 48 (wOf 48 σ01) ++ [(h0, .inr (5, [.int 0, .long 0, .null, .int 0, .int 0, .int 0, .int 0, .int 0, .int 0, .null, .null, .null, .null, .null, .null, .null, .null, .null, .null]))]) ∧ rz_env ad (va_A (rz_ws cI cZ ad 48 (wOf 48 σ01) ++ [(h0, .inr (5, [.int 0, .long 0, .null, .int 0, .int 0, .int 0, .int 0, .int 0, .int 0, .null, .null, .null, .null, .null, .null, .null, .null, .null, .null]))]) sz) U U.heap)) (va_Qv (fun x : (Nat → Nat) × zP => sm [9, 10, 12] mB x.2 ∧ tlR (x.2 9) 0 p00 ∧ sR (x.2 10) (startW (σ01 2) p00) ∧ (x.2 12 0 = 0 ∧ x.2 12 1 = 0)) (fun x t => va_P D vwCl (rz_ws cI cZ (ad5 ad h0 x.1) 60 (wOf 60 (gset σ01 10 x.2))) t.heap ∧ va_D (va_A (rz_ws cI cZ ad 48 (wOf 48 σ01) ++ [(h0, .inr (5, [.int 0, .long 0, .null, .int 0, .int 0, .int 0, .int 0, .int 0, .int 0, .null, .null, .null, .null, .null, .null, .null, .null, .null, .null]))]) sz) (rz_ws cI cZ (ad5 ad h0 x.1) 60 (wOf 60 (gset σ01 10 x.2)))) (va_A (rz_ws cI cZ ad 48 (wOf 48 σ01) ++ [(h0, .inr (5, [.int 0, .long 0, .null, .int 0, .int 0, .int 0, .int 0, .int 0, .int 0, .null, .null, .null, .null, .null, .null, .null, .null, .null, .null]))]) sz)) 11 9631 (va_A (rz_ws cI cZ ad 48 (wOf 48 σ01) ++ [(h0, .inr (5, [.int 0, .long 0, .null, .int 0, .int 0, .int 0, .int 0, .int 0, .int 0, .null, .null, .null, .null, .null, .null, .null, .null, .null, .null]))]) sz) := by
  refine Met.ofW (cc := cX5_init) (maxL := 1) (ret := none) (by decide) rfl ?_
  intro p e s m args below meth c s₁ B hml hv
  obtain ⟨rfl, hsz, hP, hK, hD0, hE⟩ := hv
  have hx := B.exec
  have hb := B.bytes
  have hr := B.returns
  have hts0 := atoms_spec (ws := .code yX5_init cX5_init 1 none :: rz_tbl) B.pre
  have hts : ∀ w ∈ rz_tbl, w.before ([.ref h0] : List Value).toArray s = true := fun w hw => hts0 w (List.mem_cons_of_mem _ hw)
  have hown : s.vm.findClass RX5 = some m.cls := findClass_of_methodNamed B.named
  have hin : meth.name = "<init>" := (name_of_methodNamed B.named B.method).1
  subst hsz
  have hD := hD0.self (sz := s.heap.size)
  generalize hAe : va_A (rz_ws cI cZ ad 48 (wOf 48 σ01) ++ [(h0, .inr (5, [.int 0, .long 0, .null, .int 0, .int 0, .int 0, .int 0, .int 0, .int 0, .null, .null, .null, .null, .null, .null, .null, .null, .null, .null]))]) s.heap.size = A at hD hE ⊢
  have F : cFx p s m ([.ref h0] : List Value).toArray c cX5_init RX5 D cI cZ ad A := ⟨hx, hb, hown, hts, hK, hE⟩
  have hA : ∀ q : Nat, s.heap.size ≤ q → A q := fun q h => by rw [← hAe]; exact Or.inr h
  have hS : va_S A s.heap s.heap [] := va_S.rf
  have hP : va_P D vwCl (rz_ws cI cZ ad 48 (wOf 48 σ01) ++ [(h0, .inr (5, [.int 0, .long 0, .null, .int 0, .int 0, .int 0, .int 0, .int 0, .int 0, .null, .null, .null, .null, .null, .null, .null, .null, .null, .null]))]) s.heap := hP
  obtain ⟨Rw, eR⟩ : ∃ z : va_W, z = rz_ws cI cZ ad 48 (wOf 48 σ01) := ⟨_, rfl⟩
  rw [← eR] at hP hD
  have hl := lv_entry ([.ref h0]) (n := 1) (Nat.le_of_ble_eq_true rfl)
  rw [lg_entry_eq]
  generalize (lg_sl ([.ref h0]) ++ List.replicate (1 - (lg_sl ([.ref h0])).length) Slot.unset).toArray = ls at hl ⊢
  have hl : lv_has ls 1 [(0, .ref h0)] := hl
  refine lv_aload_n hx hb dX5_init_0 rfl (lv_at hl 0 rfl) ?_
  refine ct_obj F (by rw [hml]; exact hl.1) (j := 828) (by decide +kernel) (Nat.le_of_ble_eq_true rfl) (Nat.le_of_ble_eq_true rfl) dX5_init_1 ?_
  refine lv_aload_n hx hb dX5_init_4 rfl (lv_at hl 0 rfl) ?_
  refine lv_sipush (v := 300) hx hb dX5_init_5 (by decide +kernel) ?_
  refine ct_newaR F hP hD hS hA (N' := 300) (by decide) (by decide +kernel) (Nat.le_of_ble_eq_true rfl) (Nat.le_of_ble_eq_true rfl) (Nat.le_of_ble_eq_true rfl) dX5_init_8 (fun q8 H hP hD hS => ?_)
  have hP : va_P D vwCl (Rw ++ [(h0, .inr (5, [.int 0, .long 0, .null, .int 0, .int 0, .int 0, .int 0, .int 0, .int 0, .null, .null, .null, .null, .null, .null, .null, .null, .null, .null])), (q8, .inl (cI, 300, .inl (fun _ => 0)))]) H := hP
  have hD : va_D A (Rw ++ [(h0, .inr (5, [.int 0, .long 0, .null, .int 0, .int 0, .int 0, .int 0, .int 0, .int 0, .null, .null, .null, .null, .null, .null, .null, .null, .null, .null])), (q8, .inl (cI, 300, .inl (fun _ => 0)))]) := hD
  refine ct_putFR F hin hP hD hS 0 (k := 2) (ty := tyX5 2) (j := 843) rfl rfl (by decide) (by decide +kernel) rfl rfl (by decide +kernel) rfl rfl (Nat.le_of_ble_eq_true rfl) dX5_init_10 (fun H locs hP hD hS => ?_)
  have hP : va_P D vwCl (Rw ++ [(h0, .inr (5, [.int 0, .long 0, .ref q8, .int 0, .int 0, .int 0, .int 0, .int 0, .int 0, .null, .null, .null, .null, .null, .null, .null, .null, .null, .null])), (q8, .inl (cI, 300, .inl (fun _ => 0)))]) H := hP
  have hD : va_D A (Rw ++ [(h0, .inr (5, [.int 0, .long 0, .ref q8, .int 0, .int 0, .int 0, .int 0, .int 0, .int 0, .null, .null, .null, .null, .null, .null, .null, .null, .null, .null])), (q8, .inl (cI, 300, .inl (fun _ => 0)))]) := hD
  refine lv_aload_n hx hb dX5_init_13 rfl (lv_at hl 0 rfl) ?_
  refine lv_bipush (v := 66) hx hb dX5_init_14 (by decide +kernel) ?_
  refine ct_newaR F hP hD hS hA (N' := 66) (by decide) (by decide +kernel) (Nat.le_of_ble_eq_true rfl) (Nat.le_of_ble_eq_true rfl) (Nat.le_of_ble_eq_true rfl) dX5_init_16 (fun q16 H hP hD hS => ?_)
  have hP : va_P D vwCl (Rw ++ [(h0, .inr (5, [.int 0, .long 0, .ref q8, .int 0, .int 0, .int 0, .int 0, .int 0, .int 0, .null, .null, .null, .null, .null, .null, .null, .null, .null, .null])), (q8, .inl (cI, 300, .inl (fun _ => 0))), (q16, .inl (cI, 66, .inl (fun _ => 0)))]) H := hP
  have hD : va_D A (Rw ++ [(h0, .inr (5, [.int 0, .long 0, .ref q8, .int 0, .int 0, .int 0, .int 0, .int 0, .int 0, .null, .null, .null, .null, .null, .null, .null, .null, .null, .null])), (q8, .inl (cI, 300, .inl (fun _ => 0))), (q16, .inl (cI, 66, .inl (fun _ => 0)))]) := hD
  refine ct_putFR F hin hP hD hS 0 (k := 9) (ty := tyX5 9) (j := 850) rfl rfl (by decide) (by decide +kernel) rfl rfl (by decide +kernel) rfl rfl (Nat.le_of_ble_eq_true rfl) dX5_init_18 (fun H locs hP hD hS => ?_)
  have hP : va_P D vwCl (Rw ++ [(h0, .inr (5, [.int 0, .long 0, .ref q8, .int 0, .int 0, .int 0, .int 0, .int 0, .int 0, .ref q16, .null, .null, .null, .null, .null, .null, .null, .null, .null])), (q8, .inl (cI, 300, .inl (fun _ => 0))), (q16, .inl (cI, 66, .inl (fun _ => 0)))]) H := hP
  have hD : va_D A (Rw ++ [(h0, .inr (5, [.int 0, .long 0, .ref q8, .int 0, .int 0, .int 0, .int 0, .int 0, .int 0, .ref q16, .null, .null, .null, .null, .null, .null, .null, .null, .null])), (q8, .inl (cI, 300, .inl (fun _ => 0))), (q16, .inl (cI, 66, .inl (fun _ => 0)))]) := hD
  refine lv_aload_n hx hb dX5_init_21 rfl (lv_at hl 0 rfl) ?_
  refine lv_bipush (v := 9) hx hb dX5_init_22 (by decide +kernel) ?_
  refine ct_newaR F hP hD hS hA (N' := 9) (by decide) (by decide +kernel) (Nat.le_of_ble_eq_true rfl) (Nat.le_of_ble_eq_true rfl) (Nat.le_of_ble_eq_true rfl) dX5_init_24 (fun q24 H hP hD hS => ?_)
  have hP : va_P D vwCl (Rw ++ [(h0, .inr (5, [.int 0, .long 0, .ref q8, .int 0, .int 0, .int 0, .int 0, .int 0, .int 0, .ref q16, .null, .null, .null, .null, .null, .null, .null, .null, .null])), (q8, .inl (cI, 300, .inl (fun _ => 0))), (q16, .inl (cI, 66, .inl (fun _ => 0))), (q24, .inl (cI, 9, .inl (fun _ => 0)))]) H := hP
  have hD : va_D A (Rw ++ [(h0, .inr (5, [.int 0, .long 0, .ref q8, .int 0, .int 0, .int 0, .int 0, .int 0, .int 0, .ref q16, .null, .null, .null, .null, .null, .null, .null, .null, .null])), (q8, .inl (cI, 300, .inl (fun _ => 0))), (q16, .inl (cI, 66, .inl (fun _ => 0))), (q24, .inl (cI, 9, .inl (fun _ => 0)))]) := hD
  refine ct_putFR F hin hP hD hS 0 (k := 10) (ty := tyX5 10) (j := 851) rfl rfl (by decide) (by decide +kernel) rfl rfl (by decide +kernel) rfl rfl (Nat.le_of_ble_eq_true rfl) dX5_init_26 (fun H locs hP hD hS => ?_)
  have hP : va_P D vwCl (Rw ++ [(h0, .inr (5, [.int 0, .long 0, .ref q8, .int 0, .int 0, .int 0, .int 0, .int 0, .int 0, .ref q16, .ref q24, .null, .null, .null, .null, .null, .null, .null, .null])), (q8, .inl (cI, 300, .inl (fun _ => 0))), (q16, .inl (cI, 66, .inl (fun _ => 0))), (q24, .inl (cI, 9, .inl (fun _ => 0)))]) H := hP
  have hD : va_D A (Rw ++ [(h0, .inr (5, [.int 0, .long 0, .ref q8, .int 0, .int 0, .int 0, .int 0, .int 0, .int 0, .ref q16, .ref q24, .null, .null, .null, .null, .null, .null, .null, .null])), (q8, .inl (cI, 300, .inl (fun _ => 0))), (q16, .inl (cI, 66, .inl (fun _ => 0))), (q24, .inl (cI, 9, .inl (fun _ => 0)))]) := hD
  refine lv_aload_n hx hb dX5_init_29 rfl (lv_at hl 0 rfl) ?_
  refine lv_bipush (v := 18) hx hb dX5_init_30 (by decide +kernel) ?_
  refine ct_newaR F hP hD hS hA (N' := 18) (by decide) (by decide +kernel) (Nat.le_of_ble_eq_true rfl) (Nat.le_of_ble_eq_true rfl) (Nat.le_of_ble_eq_true rfl) dX5_init_32 (fun q32 H hP hD hS => ?_)
  have hP : va_P D vwCl (Rw ++ [(h0, .inr (5, [.int 0, .long 0, .ref q8, .int 0, .int 0, .int 0, .int 0, .int 0, .int 0, .ref q16, .ref q24, .null, .null, .null, .null, .null, .null, .null, .null])), (q8, .inl (cI, 300, .inl (fun _ => 0))), (q16, .inl (cI, 66, .inl (fun _ => 0))), (q24, .inl (cI, 9, .inl (fun _ => 0))), (q32, .inl (cI, 18, .inl (fun _ => 0)))]) H := hP
  have hD : va_D A (Rw ++ [(h0, .inr (5, [.int 0, .long 0, .ref q8, .int 0, .int 0, .int 0, .int 0, .int 0, .int 0, .ref q16, .ref q24, .null, .null, .null, .null, .null, .null, .null, .null])), (q8, .inl (cI, 300, .inl (fun _ => 0))), (q16, .inl (cI, 66, .inl (fun _ => 0))), (q24, .inl (cI, 9, .inl (fun _ => 0))), (q32, .inl (cI, 18, .inl (fun _ => 0)))]) := hD
  refine ct_putFR F hin hP hD hS 0 (k := 11) (ty := tyX5 11) (j := 852) rfl rfl (by decide) (by decide +kernel) rfl rfl (by decide +kernel) rfl rfl (Nat.le_of_ble_eq_true rfl) dX5_init_34 (fun H locs hP hD hS => ?_)
  have hP : va_P D vwCl (Rw ++ [(h0, .inr (5, [.int 0, .long 0, .ref q8, .int 0, .int 0, .int 0, .int 0, .int 0, .int 0, .ref q16, .ref q24, .ref q32, .null, .null, .null, .null, .null, .null, .null])), (q8, .inl (cI, 300, .inl (fun _ => 0))), (q16, .inl (cI, 66, .inl (fun _ => 0))), (q24, .inl (cI, 9, .inl (fun _ => 0))), (q32, .inl (cI, 18, .inl (fun _ => 0)))]) H := hP
  have hD : va_D A (Rw ++ [(h0, .inr (5, [.int 0, .long 0, .ref q8, .int 0, .int 0, .int 0, .int 0, .int 0, .int 0, .ref q16, .ref q24, .ref q32, .null, .null, .null, .null, .null, .null, .null])), (q8, .inl (cI, 300, .inl (fun _ => 0))), (q16, .inl (cI, 66, .inl (fun _ => 0))), (q24, .inl (cI, 9, .inl (fun _ => 0))), (q32, .inl (cI, 18, .inl (fun _ => 0)))]) := hD
  refine lv_aload_n hx hb dX5_init_37 rfl (lv_at hl 0 rfl) ?_
  refine lv_iconst (v := 2) hx hb dX5_init_38 (by decide) ?_
  refine ct_newzR F hP hD hS hA (N' := 2) (by decide) (by decide +kernel) (Nat.le_of_ble_eq_true rfl) (Nat.le_of_ble_eq_true rfl) (Nat.le_of_ble_eq_true rfl) dX5_init_39 (fun q39 H hP hD hS => ?_)
  have hP : va_P D vwCl (Rw ++ [(h0, .inr (5, [.int 0, .long 0, .ref q8, .int 0, .int 0, .int 0, .int 0, .int 0, .int 0, .ref q16, .ref q24, .ref q32, .null, .null, .null, .null, .null, .null, .null])), (q8, .inl (cI, 300, .inl (fun _ => 0))), (q16, .inl (cI, 66, .inl (fun _ => 0))), (q24, .inl (cI, 9, .inl (fun _ => 0))), (q32, .inl (cI, 18, .inl (fun _ => 0))), (q39, .inl (cZ, 2, .inl (fun _ => 0)))]) H := hP
  have hD : va_D A (Rw ++ [(h0, .inr (5, [.int 0, .long 0, .ref q8, .int 0, .int 0, .int 0, .int 0, .int 0, .int 0, .ref q16, .ref q24, .ref q32, .null, .null, .null, .null, .null, .null, .null])), (q8, .inl (cI, 300, .inl (fun _ => 0))), (q16, .inl (cI, 66, .inl (fun _ => 0))), (q24, .inl (cI, 9, .inl (fun _ => 0))), (q32, .inl (cI, 18, .inl (fun _ => 0))), (q39, .inl (cZ, 2, .inl (fun _ => 0)))]) := hD
  refine ct_putFR F hin hP hD hS 0 (k := 12) (ty := tyX5 12) (j := 853) rfl rfl (by decide) (by decide +kernel) rfl rfl (by decide +kernel) rfl rfl (Nat.le_of_ble_eq_true rfl) dX5_init_41 (fun H locs hP hD hS => ?_)
  have hP : va_P D vwCl (Rw ++ [(h0, .inr (5, [.int 0, .long 0, .ref q8, .int 0, .int 0, .int 0, .int 0, .int 0, .int 0, .ref q16, .ref q24, .ref q32, .ref q39, .null, .null, .null, .null, .null, .null])), (q8, .inl (cI, 300, .inl (fun _ => 0))), (q16, .inl (cI, 66, .inl (fun _ => 0))), (q24, .inl (cI, 9, .inl (fun _ => 0))), (q32, .inl (cI, 18, .inl (fun _ => 0))), (q39, .inl (cZ, 2, .inl (fun _ => 0)))]) H := hP
  have hD : va_D A (Rw ++ [(h0, .inr (5, [.int 0, .long 0, .ref q8, .int 0, .int 0, .int 0, .int 0, .int 0, .int 0, .ref q16, .ref q24, .ref q32, .ref q39, .null, .null, .null, .null, .null, .null])), (q8, .inl (cI, 300, .inl (fun _ => 0))), (q16, .inl (cI, 66, .inl (fun _ => 0))), (q24, .inl (cI, 9, .inl (fun _ => 0))), (q32, .inl (cI, 18, .inl (fun _ => 0))), (q39, .inl (cZ, 2, .inl (fun _ => 0)))]) := hD
  refine lv_aload_n hx hb dX5_init_44 rfl (lv_at hl 0 rfl) ?_
  refine lv_sipush (v := 4608) hx hb dX5_init_45 (by decide +kernel) ?_
  refine ct_newaR F hP hD hS hA (N' := 4608) (by decide) (by decide +kernel) (Nat.le_of_ble_eq_true rfl) (Nat.le_of_ble_eq_true rfl) (Nat.le_of_ble_eq_true rfl) dX5_init_48 (fun q48 H hP hD hS => ?_)
  have hP : va_P D vwCl (Rw ++ [(h0, .inr (5, [.int 0, .long 0, .ref q8, .int 0, .int 0, .int 0, .int 0, .int 0, .int 0, .ref q16, .ref q24, .ref q32, .ref q39, .null, .null, .null, .null, .null, .null])), (q8, .inl (cI, 300, .inl (fun _ => 0))), (q16, .inl (cI, 66, .inl (fun _ => 0))), (q24, .inl (cI, 9, .inl (fun _ => 0))), (q32, .inl (cI, 18, .inl (fun _ => 0))), (q39, .inl (cZ, 2, .inl (fun _ => 0))), (q48, .inl (cI, 4608, .inl (fun _ => 0)))]) H := hP
  have hD : va_D A (Rw ++ [(h0, .inr (5, [.int 0, .long 0, .ref q8, .int 0, .int 0, .int 0, .int 0, .int 0, .int 0, .ref q16, .ref q24, .ref q32, .ref q39, .null, .null, .null, .null, .null, .null])), (q8, .inl (cI, 300, .inl (fun _ => 0))), (q16, .inl (cI, 66, .inl (fun _ => 0))), (q24, .inl (cI, 9, .inl (fun _ => 0))), (q32, .inl (cI, 18, .inl (fun _ => 0))), (q39, .inl (cZ, 2, .inl (fun _ => 0))), (q48, .inl (cI, 4608, .inl (fun _ => 0)))]) := hD
  refine ct_putFR F hin hP hD hS 0 (k := 13) (ty := tyX5 13) (j := 854) rfl rfl (by decide) (by decide +kernel) rfl rfl (by decide +kernel) rfl rfl (Nat.le_of_ble_eq_true rfl) dX5_init_50 (fun H locs hP hD hS => ?_)
  have hP : va_P D vwCl (Rw ++ [(h0, .inr (5, [.int 0, .long 0, .ref q8, .int 0, .int 0, .int 0, .int 0, .int 0, .int 0, .ref q16, .ref q24, .ref q32, .ref q39, .ref q48, .null, .null, .null, .null, .null])), (q8, .inl (cI, 300, .inl (fun _ => 0))), (q16, .inl (cI, 66, .inl (fun _ => 0))), (q24, .inl (cI, 9, .inl (fun _ => 0))), (q32, .inl (cI, 18, .inl (fun _ => 0))), (q39, .inl (cZ, 2, .inl (fun _ => 0))), (q48, .inl (cI, 4608, .inl (fun _ => 0)))]) H := hP
  have hD : va_D A (Rw ++ [(h0, .inr (5, [.int 0, .long 0, .ref q8, .int 0, .int 0, .int 0, .int 0, .int 0, .int 0, .ref q16, .ref q24, .ref q32, .ref q39, .ref q48, .null, .null, .null, .null, .null])), (q8, .inl (cI, 300, .inl (fun _ => 0))), (q16, .inl (cI, 66, .inl (fun _ => 0))), (q24, .inl (cI, 9, .inl (fun _ => 0))), (q32, .inl (cI, 18, .inl (fun _ => 0))), (q39, .inl (cZ, 2, .inl (fun _ => 0))), (q48, .inl (cI, 4608, .inl (fun _ => 0)))]) := hD
  refine lv_aload_n hx hb dX5_init_53 rfl (lv_at hl 0 rfl) ?_
  refine lv_sipush (v := 4608) hx hb dX5_init_54 (by decide +kernel) ?_
  refine ct_newaR F hP hD hS hA (N' := 4608) (by decide) (by decide +kernel) (Nat.le_of_ble_eq_true rfl) (Nat.le_of_ble_eq_true rfl) (Nat.le_of_ble_eq_true rfl) dX5_init_57 (fun q57 H hP hD hS => ?_)
  have hP : va_P D vwCl (Rw ++ [(h0, .inr (5, [.int 0, .long 0, .ref q8, .int 0, .int 0, .int 0, .int 0, .int 0, .int 0, .ref q16, .ref q24, .ref q32, .ref q39, .ref q48, .null, .null, .null, .null, .null])), (q8, .inl (cI, 300, .inl (fun _ => 0))), (q16, .inl (cI, 66, .inl (fun _ => 0))), (q24, .inl (cI, 9, .inl (fun _ => 0))), (q32, .inl (cI, 18, .inl (fun _ => 0))), (q39, .inl (cZ, 2, .inl (fun _ => 0))), (q48, .inl (cI, 4608, .inl (fun _ => 0))), (q57, .inl (cI, 4608, .inl (fun _ => 0)))]) H := hP
  have hD : va_D A (Rw ++ [(h0, .inr (5, [.int 0, .long 0, .ref q8, .int 0, .int 0, .int 0, .int 0, .int 0, .int 0, .ref q16, .ref q24, .ref q32, .ref q39, .ref q48, .null, .null, .null, .null, .null])), (q8, .inl (cI, 300, .inl (fun _ => 0))), (q16, .inl (cI, 66, .inl (fun _ => 0))), (q24, .inl (cI, 9, .inl (fun _ => 0))), (q32, .inl (cI, 18, .inl (fun _ => 0))), (q39, .inl (cZ, 2, .inl (fun _ => 0))), (q48, .inl (cI, 4608, .inl (fun _ => 0))), (q57, .inl (cI, 4608, .inl (fun _ => 0)))]) := hD
  refine ct_putFR F hin hP hD hS 0 (k := 14) (ty := tyX5 14) (j := 855) rfl rfl (by decide) (by decide +kernel) rfl rfl (by decide +kernel) rfl rfl (Nat.le_of_ble_eq_true rfl) dX5_init_59 (fun H locs hP hD hS => ?_)
  have hP : va_P D vwCl (Rw ++ [(h0, .inr (5, [.int 0, .long 0, .ref q8, .int 0, .int 0, .int 0, .int 0, .int 0, .int 0, .ref q16, .ref q24, .ref q32, .ref q39, .ref q48, .ref q57, .null, .null, .null, .null])), (q8, .inl (cI, 300, .inl (fun _ => 0))), (q16, .inl (cI, 66, .inl (fun _ => 0))), (q24, .inl (cI, 9, .inl (fun _ => 0))), (q32, .inl (cI, 18, .inl (fun _ => 0))), (q39, .inl (cZ, 2, .inl (fun _ => 0))), (q48, .inl (cI, 4608, .inl (fun _ => 0))), (q57, .inl (cI, 4608, .inl (fun _ => 0)))]) H := hP
  have hD : va_D A (Rw ++ [(h0, .inr (5, [.int 0, .long 0, .ref q8, .int 0, .int 0, .int 0, .int 0, .int 0, .int 0, .ref q16, .ref q24, .ref q32, .ref q39, .ref q48, .ref q57, .null, .null, .null, .null])), (q8, .inl (cI, 300, .inl (fun _ => 0))), (q16, .inl (cI, 66, .inl (fun _ => 0))), (q24, .inl (cI, 9, .inl (fun _ => 0))), (q32, .inl (cI, 18, .inl (fun _ => 0))), (q39, .inl (cZ, 2, .inl (fun _ => 0))), (q48, .inl (cI, 4608, .inl (fun _ => 0))), (q57, .inl (cI, 4608, .inl (fun _ => 0)))]) := hD
  refine lv_aload_n hx hb dX5_init_62 rfl (lv_at hl 0 rfl) ?_
  refine lv_iconst (v := 2) hx hb dX5_init_63 (by decide) ?_
  refine ct_newaR F hP hD hS hA (N' := 2) (by decide) (by decide +kernel) (Nat.le_of_ble_eq_true rfl) (Nat.le_of_ble_eq_true rfl) (Nat.le_of_ble_eq_true rfl) dX5_init_64 (fun q64 H hP hD hS => ?_)
  have hP : va_P D vwCl (Rw ++ [(h0, .inr (5, [.int 0, .long 0, .ref q8, .int 0, .int 0, .int 0, .int 0, .int 0, .int 0, .ref q16, .ref q24, .ref q32, .ref q39, .ref q48, .ref q57, .null, .null, .null, .null])), (q8, .inl (cI, 300, .inl (fun _ => 0))), (q16, .inl (cI, 66, .inl (fun _ => 0))), (q24, .inl (cI, 9, .inl (fun _ => 0))), (q32, .inl (cI, 18, .inl (fun _ => 0))), (q39, .inl (cZ, 2, .inl (fun _ => 0))), (q48, .inl (cI, 4608, .inl (fun _ => 0))), (q57, .inl (cI, 4608, .inl (fun _ => 0))), (q64, .inl (cI, 2, .inl (fun _ => 0)))]) H := hP
  have hD : va_D A (Rw ++ [(h0, .inr (5, [.int 0, .long 0, .ref q8, .int 0, .int 0, .int 0, .int 0, .int 0, .int 0, .ref q16, .ref q24, .ref q32, .ref q39, .ref q48, .ref q57, .null, .null, .null, .null])), (q8, .inl (cI, 300, .inl (fun _ => 0))), (q16, .inl (cI, 66, .inl (fun _ => 0))), (q24, .inl (cI, 9, .inl (fun _ => 0))), (q32, .inl (cI, 18, .inl (fun _ => 0))), (q39, .inl (cZ, 2, .inl (fun _ => 0))), (q48, .inl (cI, 4608, .inl (fun _ => 0))), (q57, .inl (cI, 4608, .inl (fun _ => 0))), (q64, .inl (cI, 2, .inl (fun _ => 0)))]) := hD
  refine ct_putFR F hin hP hD hS 0 (k := 15) (ty := tyX5 15) (j := 856) rfl rfl (by decide) (by decide +kernel) rfl rfl (by decide +kernel) rfl rfl (Nat.le_of_ble_eq_true rfl) dX5_init_66 (fun H locs hP hD hS => ?_)
  have hP : va_P D vwCl (Rw ++ [(h0, .inr (5, [.int 0, .long 0, .ref q8, .int 0, .int 0, .int 0, .int 0, .int 0, .int 0, .ref q16, .ref q24, .ref q32, .ref q39, .ref q48, .ref q57, .ref q64, .null, .null, .null])), (q8, .inl (cI, 300, .inl (fun _ => 0))), (q16, .inl (cI, 66, .inl (fun _ => 0))), (q24, .inl (cI, 9, .inl (fun _ => 0))), (q32, .inl (cI, 18, .inl (fun _ => 0))), (q39, .inl (cZ, 2, .inl (fun _ => 0))), (q48, .inl (cI, 4608, .inl (fun _ => 0))), (q57, .inl (cI, 4608, .inl (fun _ => 0))), (q64, .inl (cI, 2, .inl (fun _ => 0)))]) H := hP
  have hD : va_D A (Rw ++ [(h0, .inr (5, [.int 0, .long 0, .ref q8, .int 0, .int 0, .int 0, .int 0, .int 0, .int 0, .ref q16, .ref q24, .ref q32, .ref q39, .ref q48, .ref q57, .ref q64, .null, .null, .null])), (q8, .inl (cI, 300, .inl (fun _ => 0))), (q16, .inl (cI, 66, .inl (fun _ => 0))), (q24, .inl (cI, 9, .inl (fun _ => 0))), (q32, .inl (cI, 18, .inl (fun _ => 0))), (q39, .inl (cZ, 2, .inl (fun _ => 0))), (q48, .inl (cI, 4608, .inl (fun _ => 0))), (q57, .inl (cI, 4608, .inl (fun _ => 0))), (q64, .inl (cI, 2, .inl (fun _ => 0)))]) := hD
  refine lv_aload_n hx hb dX5_init_69 rfl (lv_at hl 0 rfl) ?_
  refine lv_iconst (v := 2) hx hb dX5_init_70 (by decide) ?_
  refine ct_newaR F hP hD hS hA (N' := 2) (by decide) (by decide +kernel) (Nat.le_of_ble_eq_true rfl) (Nat.le_of_ble_eq_true rfl) (Nat.le_of_ble_eq_true rfl) dX5_init_71 (fun q71 H hP hD hS => ?_)
  have hP : va_P D vwCl (Rw ++ [(h0, .inr (5, [.int 0, .long 0, .ref q8, .int 0, .int 0, .int 0, .int 0, .int 0, .int 0, .ref q16, .ref q24, .ref q32, .ref q39, .ref q48, .ref q57, .ref q64, .null, .null, .null])), (q8, .inl (cI, 300, .inl (fun _ => 0))), (q16, .inl (cI, 66, .inl (fun _ => 0))), (q24, .inl (cI, 9, .inl (fun _ => 0))), (q32, .inl (cI, 18, .inl (fun _ => 0))), (q39, .inl (cZ, 2, .inl (fun _ => 0))), (q48, .inl (cI, 4608, .inl (fun _ => 0))), (q57, .inl (cI, 4608, .inl (fun _ => 0))), (q64, .inl (cI, 2, .inl (fun _ => 0))), (q71, .inl (cI, 2, .inl (fun _ => 0)))]) H := hP
  have hD : va_D A (Rw ++ [(h0, .inr (5, [.int 0, .long 0, .ref q8, .int 0, .int 0, .int 0, .int 0, .int 0, .int 0, .ref q16, .ref q24, .ref q32, .ref q39, .ref q48, .ref q57, .ref q64, .null, .null, .null])), (q8, .inl (cI, 300, .inl (fun _ => 0))), (q16, .inl (cI, 66, .inl (fun _ => 0))), (q24, .inl (cI, 9, .inl (fun _ => 0))), (q32, .inl (cI, 18, .inl (fun _ => 0))), (q39, .inl (cZ, 2, .inl (fun _ => 0))), (q48, .inl (cI, 4608, .inl (fun _ => 0))), (q57, .inl (cI, 4608, .inl (fun _ => 0))), (q64, .inl (cI, 2, .inl (fun _ => 0))), (q71, .inl (cI, 2, .inl (fun _ => 0)))]) := hD
  refine ct_putFR F hin hP hD hS 0 (k := 16) (ty := tyX5 16) (j := 857) rfl rfl (by decide) (by decide +kernel) rfl rfl (by decide +kernel) rfl rfl (Nat.le_of_ble_eq_true rfl) dX5_init_73 (fun H locs hP hD hS => ?_)
  have hP : va_P D vwCl (Rw ++ [(h0, .inr (5, [.int 0, .long 0, .ref q8, .int 0, .int 0, .int 0, .int 0, .int 0, .int 0, .ref q16, .ref q24, .ref q32, .ref q39, .ref q48, .ref q57, .ref q64, .ref q71, .null, .null])), (q8, .inl (cI, 300, .inl (fun _ => 0))), (q16, .inl (cI, 66, .inl (fun _ => 0))), (q24, .inl (cI, 9, .inl (fun _ => 0))), (q32, .inl (cI, 18, .inl (fun _ => 0))), (q39, .inl (cZ, 2, .inl (fun _ => 0))), (q48, .inl (cI, 4608, .inl (fun _ => 0))), (q57, .inl (cI, 4608, .inl (fun _ => 0))), (q64, .inl (cI, 2, .inl (fun _ => 0))), (q71, .inl (cI, 2, .inl (fun _ => 0)))]) H := hP
  have hD : va_D A (Rw ++ [(h0, .inr (5, [.int 0, .long 0, .ref q8, .int 0, .int 0, .int 0, .int 0, .int 0, .int 0, .ref q16, .ref q24, .ref q32, .ref q39, .ref q48, .ref q57, .ref q64, .ref q71, .null, .null])), (q8, .inl (cI, 300, .inl (fun _ => 0))), (q16, .inl (cI, 66, .inl (fun _ => 0))), (q24, .inl (cI, 9, .inl (fun _ => 0))), (q32, .inl (cI, 18, .inl (fun _ => 0))), (q39, .inl (cZ, 2, .inl (fun _ => 0))), (q48, .inl (cI, 4608, .inl (fun _ => 0))), (q57, .inl (cI, 4608, .inl (fun _ => 0))), (q64, .inl (cI, 2, .inl (fun _ => 0))), (q71, .inl (cI, 2, .inl (fun _ => 0)))]) := hD
  refine lv_aload_n hx hb dX5_init_76 rfl (lv_at hl 0 rfl) ?_
  refine lv_bipush (v := 8) hx hb dX5_init_77 (by decide +kernel) ?_
  refine ct_newaR F hP hD hS hA (N' := 8) (by decide) (by decide +kernel) (Nat.le_of_ble_eq_true rfl) (Nat.le_of_ble_eq_true rfl) (Nat.le_of_ble_eq_true rfl) dX5_init_79 (fun q79 H hP hD hS => ?_)
  have hP : va_P D vwCl (Rw ++ [(h0, .inr (5, [.int 0, .long 0, .ref q8, .int 0, .int 0, .int 0, .int 0, .int 0, .int 0, .ref q16, .ref q24, .ref q32, .ref q39, .ref q48, .ref q57, .ref q64, .ref q71, .null, .null])), (q8, .inl (cI, 300, .inl (fun _ => 0))), (q16, .inl (cI, 66, .inl (fun _ => 0))), (q24, .inl (cI, 9, .inl (fun _ => 0))), (q32, .inl (cI, 18, .inl (fun _ => 0))), (q39, .inl (cZ, 2, .inl (fun _ => 0))), (q48, .inl (cI, 4608, .inl (fun _ => 0))), (q57, .inl (cI, 4608, .inl (fun _ => 0))), (q64, .inl (cI, 2, .inl (fun _ => 0))), (q71, .inl (cI, 2, .inl (fun _ => 0))), (q79, .inl (cI, 8, .inl (fun _ => 0)))]) H := hP
  have hD : va_D A (Rw ++ [(h0, .inr (5, [.int 0, .long 0, .ref q8, .int 0, .int 0, .int 0, .int 0, .int 0, .int 0, .ref q16, .ref q24, .ref q32, .ref q39, .ref q48, .ref q57, .ref q64, .ref q71, .null, .null])), (q8, .inl (cI, 300, .inl (fun _ => 0))), (q16, .inl (cI, 66, .inl (fun _ => 0))), (q24, .inl (cI, 9, .inl (fun _ => 0))), (q32, .inl (cI, 18, .inl (fun _ => 0))), (q39, .inl (cZ, 2, .inl (fun _ => 0))), (q48, .inl (cI, 4608, .inl (fun _ => 0))), (q57, .inl (cI, 4608, .inl (fun _ => 0))), (q64, .inl (cI, 2, .inl (fun _ => 0))), (q71, .inl (cI, 2, .inl (fun _ => 0))), (q79, .inl (cI, 8, .inl (fun _ => 0)))]) := hD
  refine ct_putFR F hin hP hD hS 0 (k := 17) (ty := tyX5 17) (j := 858) rfl rfl (by decide) (by decide +kernel) rfl rfl (by decide +kernel) rfl rfl (Nat.le_of_ble_eq_true rfl) dX5_init_81 (fun H locs hP hD hS => ?_)
  have hP : va_P D vwCl (Rw ++ [(h0, .inr (5, [.int 0, .long 0, .ref q8, .int 0, .int 0, .int 0, .int 0, .int 0, .int 0, .ref q16, .ref q24, .ref q32, .ref q39, .ref q48, .ref q57, .ref q64, .ref q71, .ref q79, .null])), (q8, .inl (cI, 300, .inl (fun _ => 0))), (q16, .inl (cI, 66, .inl (fun _ => 0))), (q24, .inl (cI, 9, .inl (fun _ => 0))), (q32, .inl (cI, 18, .inl (fun _ => 0))), (q39, .inl (cZ, 2, .inl (fun _ => 0))), (q48, .inl (cI, 4608, .inl (fun _ => 0))), (q57, .inl (cI, 4608, .inl (fun _ => 0))), (q64, .inl (cI, 2, .inl (fun _ => 0))), (q71, .inl (cI, 2, .inl (fun _ => 0))), (q79, .inl (cI, 8, .inl (fun _ => 0)))]) H := hP
  have hD : va_D A (Rw ++ [(h0, .inr (5, [.int 0, .long 0, .ref q8, .int 0, .int 0, .int 0, .int 0, .int 0, .int 0, .ref q16, .ref q24, .ref q32, .ref q39, .ref q48, .ref q57, .ref q64, .ref q71, .ref q79, .null])), (q8, .inl (cI, 300, .inl (fun _ => 0))), (q16, .inl (cI, 66, .inl (fun _ => 0))), (q24, .inl (cI, 9, .inl (fun _ => 0))), (q32, .inl (cI, 18, .inl (fun _ => 0))), (q39, .inl (cZ, 2, .inl (fun _ => 0))), (q48, .inl (cI, 4608, .inl (fun _ => 0))), (q57, .inl (cI, 4608, .inl (fun _ => 0))), (q64, .inl (cI, 2, .inl (fun _ => 0))), (q71, .inl (cI, 2, .inl (fun _ => 0))), (q79, .inl (cI, 8, .inl (fun _ => 0)))]) := hD
  refine lv_aload_n hx hb dX5_init_84 rfl (lv_at hl 0 rfl) ?_
  refine lv_bipush (v := 8) hx hb dX5_init_85 (by decide +kernel) ?_
  refine ct_newaR F hP hD hS hA (N' := 8) (by decide) (by decide +kernel) (Nat.le_of_ble_eq_true rfl) (Nat.le_of_ble_eq_true rfl) (Nat.le_of_ble_eq_true rfl) dX5_init_87 (fun q87 H hP hD hS => ?_)
  have hP : va_P D vwCl (Rw ++ [(h0, .inr (5, [.int 0, .long 0, .ref q8, .int 0, .int 0, .int 0, .int 0, .int 0, .int 0, .ref q16, .ref q24, .ref q32, .ref q39, .ref q48, .ref q57, .ref q64, .ref q71, .ref q79, .null])), (q8, .inl (cI, 300, .inl (fun _ => 0))), (q16, .inl (cI, 66, .inl (fun _ => 0))), (q24, .inl (cI, 9, .inl (fun _ => 0))), (q32, .inl (cI, 18, .inl (fun _ => 0))), (q39, .inl (cZ, 2, .inl (fun _ => 0))), (q48, .inl (cI, 4608, .inl (fun _ => 0))), (q57, .inl (cI, 4608, .inl (fun _ => 0))), (q64, .inl (cI, 2, .inl (fun _ => 0))), (q71, .inl (cI, 2, .inl (fun _ => 0))), (q79, .inl (cI, 8, .inl (fun _ => 0))), (q87, .inl (cI, 8, .inl (fun _ => 0)))]) H := hP
  have hD : va_D A (Rw ++ [(h0, .inr (5, [.int 0, .long 0, .ref q8, .int 0, .int 0, .int 0, .int 0, .int 0, .int 0, .ref q16, .ref q24, .ref q32, .ref q39, .ref q48, .ref q57, .ref q64, .ref q71, .ref q79, .null])), (q8, .inl (cI, 300, .inl (fun _ => 0))), (q16, .inl (cI, 66, .inl (fun _ => 0))), (q24, .inl (cI, 9, .inl (fun _ => 0))), (q32, .inl (cI, 18, .inl (fun _ => 0))), (q39, .inl (cZ, 2, .inl (fun _ => 0))), (q48, .inl (cI, 4608, .inl (fun _ => 0))), (q57, .inl (cI, 4608, .inl (fun _ => 0))), (q64, .inl (cI, 2, .inl (fun _ => 0))), (q71, .inl (cI, 2, .inl (fun _ => 0))), (q79, .inl (cI, 8, .inl (fun _ => 0))), (q87, .inl (cI, 8, .inl (fun _ => 0)))]) := hD
  refine ct_putFR F hin hP hD hS 0 (k := 18) (ty := tyX5 18) (j := 859) rfl rfl (by decide) (by decide +kernel) rfl rfl (by decide +kernel) rfl rfl (Nat.le_of_ble_eq_true rfl) dX5_init_89 (fun H locs hP hD hS => ?_)
  have hP : va_P D vwCl (Rw ++ [(h0, .inr (5, [.int 0, .long 0, .ref q8, .int 0, .int 0, .int 0, .int 0, .int 0, .int 0, .ref q16, .ref q24, .ref q32, .ref q39, .ref q48, .ref q57, .ref q64, .ref q71, .ref q79, .ref q87])), (q8, .inl (cI, 300, .inl (fun _ => 0))), (q16, .inl (cI, 66, .inl (fun _ => 0))), (q24, .inl (cI, 9, .inl (fun _ => 0))), (q32, .inl (cI, 18, .inl (fun _ => 0))), (q39, .inl (cZ, 2, .inl (fun _ => 0))), (q48, .inl (cI, 4608, .inl (fun _ => 0))), (q57, .inl (cI, 4608, .inl (fun _ => 0))), (q64, .inl (cI, 2, .inl (fun _ => 0))), (q71, .inl (cI, 2, .inl (fun _ => 0))), (q79, .inl (cI, 8, .inl (fun _ => 0))), (q87, .inl (cI, 8, .inl (fun _ => 0)))]) H := hP
  have hD : va_D A (Rw ++ [(h0, .inr (5, [.int 0, .long 0, .ref q8, .int 0, .int 0, .int 0, .int 0, .int 0, .int 0, .ref q16, .ref q24, .ref q32, .ref q39, .ref q48, .ref q57, .ref q64, .ref q71, .ref q79, .ref q87])), (q8, .inl (cI, 300, .inl (fun _ => 0))), (q16, .inl (cI, 66, .inl (fun _ => 0))), (q24, .inl (cI, 9, .inl (fun _ => 0))), (q32, .inl (cI, 18, .inl (fun _ => 0))), (q39, .inl (cZ, 2, .inl (fun _ => 0))), (q48, .inl (cI, 4608, .inl (fun _ => 0))), (q57, .inl (cI, 4608, .inl (fun _ => 0))), (q64, .inl (cI, 2, .inl (fun _ => 0))), (q71, .inl (cI, 2, .inl (fun _ => 0))), (q79, .inl (cI, 8, .inl (fun _ => 0))), (q87, .inl (cI, 8, .inl (fun _ => 0)))]) := hD
  rw [eR] at hP hD
  obtain ⟨u9, eu⟩ : ∃ z : Nat → Nat, z = fun k => ([h0, q8, q16, q24, q32, q39, q48, q57, q64, q71, q79, q87] : List Nat).getD k 0 := ⟨_, rfl⟩
  have eP := ws5_eq cI cZ ad h0 q8 q16 q24 q32 q39 q48 q57 q64 q71 q79 q87
  rw [← eP, ← eu] at hP hD
  clear eP
  obtain ⟨ad4, e4⟩ : ∃ z : Nat → Nat, z = ad5 ad h0 u9 := ⟨_, rfl⟩
  rw [← e4] at hP hD
  have h00 : ad4 48 = h0 := by rw [e4]; rfl
  have hE4 : rz_env ad4 A s s.heap := rz_env_ad hE (fun k hk => by rw [e4]; unfold ad5; rw [if_neg (by omega), if_neg (by omega)])
  have F4 : cFx p s m ([.ref h0] : List Value).toArray c cX5_init RX5 D cI cZ ad4 A := ⟨hx, hb, hown, hts, hK, hE4⟩
  have hl : lv_has ls 1 [(0, .ref (ad4 48))] := by rw [h00]; exact hl
  have hW : ∀ σ, rz_Wd 60 (wOf 60 σ) := fun σ h hh => by unfold wOf; rw [if_neg (by omega)]
  have hsz : ls.size = c.maxLocals := by rw [hml]; exact hl.1
  refine lv_aload_n hx hb dX5_init_92 rfl (lv_at hl 0 rfl) ?_
  refine ct_get F4 hP (bs 10) (k := 10) (j := 851) (ws_obj (g := 10) (σ := σ10) (by decide) (by decide)) rfl (by decide) (by decide +kernel) (v := .ref (ad4 51)) (ws_fld (σ := σ10) (ad := ad4) (g := 10) (k := 10) (e := (1, 9, 0)) rfl) dX5_init_93 ?_
  refine lv_bipush (v := zI 8) hx hb dX5_init_96 (by decide +kernel) ?_
  refine lv_iconst (v := zI 1) hx hb dX5_init_98 (by decide) ?_
  refine ct_iast F4 hP hD hS 51 (n := 9) (f := aI (σ10 10 10)) (ws_arr (g := 10) (k := 10) (σ := σ10) (by decide) (by decide) (Or.inl rfl) (by decide)) (by unfold vp_in; decide) dX5_init_99 (fun H locs hP hD hS => ?_)
  have hP : va_P D vwCl (rz_ws cI cZ ad4 60 (wOf 60 (gset σ01 10 mA))) H := by rw [← sgA, ← ws_s8]; exact hP
  have hD : va_D A (rz_ws cI cZ ad4 60 (wOf 60 (gset σ01 10 mA))) := by rw [← sgA, ← ws_s8]; exact hD
  refine lv_aload_n hx hb dX5_init_100 rfl (lv_at hl 0 rfl) ?_
  refine lv_iconst (v := zI 4) hx hb dX5_init_101 (by decide) ?_
  refine lv_iconst (v := zI 4) hx hb dX5_init_102 (by decide) ?_
  refine ct_callV F4 hS hP hD (hW _) (by decide) (i := iM_drafts) (j := 829) (h := 48) (as := [.int (zI 4), .int (zI 4)]) rz_m_122 (by decide) (w_bs (g := 10) (by decide) (by decide)) rfl rfl rfl (by decide +kernel) dX5_init_103 (rz_sound l 2 _ _ _ _ _ (z_Mdrafts (N := 60) (σ := σ01) 1 (by decide) mA 4 4)) (Nat.le_of_ble_eq_true rfl) hsz (Nat.le_of_ble_eq_true rfl) (Nat.le_of_ble_eq_true rfl) ⟨Nat.le_of_ble_eq_true rfl, Nat.le_of_ble_eq_true rfl⟩ rfl (fun H locs hP hW9 hS => ?_)
  have hP : va_P D vwCl (rz_ws cI cZ ad4 60 (wOf 60 (gset σ01 10 mB))) H := hP
  have hD := ct_Dw (wOf 60 (gset σ01 10 mB)) hD
  obtain ⟨m9, hz, y1, y2, y3, y4⟩ := z_Madopts (N := 60) (σ := σ01) (p := p00) (q := σ01 2) (m := mB) 0 (by decide) (wfP_fst _ (by decide) (by decide)) (by unfold mB; rw [pset_eq]; exact tlR_fst _ _ _ _) (by rfl)
  refine lv_aload_n hx hb dX5_init_106 rfl (lv_at hl 0 rfl) ?_
  refine ct_callV F4 hS hP hD (hW _) (by decide) (i := iM_adopts) (j := 833) (h := 48) (as := []) rz_m_127 (by decide) (w_bs (g := 10) (by decide) (by decide)) rfl rfl rfl (by decide +kernel) dX5_init_107 (rz_sound l 2 _ _ _ _ _ (hz)) (Nat.le_of_ble_eq_true rfl) hsz (Nat.le_of_ble_eq_true rfl) (Nat.le_of_ble_eq_true rfl) ⟨Nat.le_of_ble_eq_true rfl, Nat.le_of_ble_eq_true rfl⟩ rfl (fun H locs hP hW9 hS => ?_)
  have hP : va_P D vwCl (rz_ws cI cZ ad4 60 (wOf 60 (gset σ01 10 m9))) H := hP
  have hD := ct_Dw (wOf 60 (gset σ01 10 m9)) hD
  rw [e4] at hP hD
  exact W.vret hx hb hr (fun t ht hW => ⟨⟨(u9, m9), rfl, ⟨y1, y2, y3, y4⟩, by rw [ht]; exact hP, hD⟩, hS.F ht⟩) hS.2.2 dX5_init_110
