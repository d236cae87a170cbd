/-! constructors of the class's parts, by program -/
theorem dX0_init_0 : decode cX0_init 0 = .ok (.aload_n 0, 1) := by decide +kernel
theorem dX0_init_1 : decode cX0_init 1 = .ok (.invokespecial 3, 3) := by decide +kernel
theorem dX0_init_4 : decode cX0_init 4 = .ok (.aload_n 0, 1) := by decide +kernel
theorem dX0_init_5 : decode cX0_init 5 = .ok (.bipush 16, 2) := by decide +kernel
theorem dX0_init_7 : decode cX0_init 7 = .ok (.newarray .int, 2) := by decide +kernel
theorem dX0_init_9 : decode cX0_init 9 = .ok (.putfield 9, 3) := by decide +kernel
theorem dX0_init_12 : decode cX0_init 12 = .ok (.aload_n 0, 1) := by decide +kernel
theorem dX0_init_13 : decode cX0_init 13 = .ok (.iconst 3, 1) := by decide +kernel
theorem dX0_init_14 : decode cX0_init 14 = .ok (.newarray .int, 2) := by decide +kernel
theorem dX0_init_16 : decode cX0_init 16 = .ok (.putfield 15, 3) := by decide +kernel
theorem dX0_init_19 : decode cX0_init 19 = .ok (.aload_n 0, 1) := by decide +kernel
theorem dX0_init_20 : decode cX0_init 20 = .ok (.iconst 3, 1) := by decide +kernel
theorem dX0_init_21 : decode cX0_init 21 = .ok (.newarray .int, 2) := by decide +kernel
theorem dX0_init_23 : decode cX0_init 23 = .ok (.putfield 18, 3) := by decide +kernel
theorem dX0_init_26 : decode cX0_init 26 = .ok (.aload_n 0, 1) := by decide +kernel
theorem dX0_init_27 : decode cX0_init 27 = .ok (.sipush 384, 3) := by decide +kernel
theorem dX0_init_30 : decode cX0_init 30 = .ok (.newarray .int, 2) := by decide +kernel
theorem dX0_init_32 : decode cX0_init 32 = .ok (.putfield 21, 3) := by decide +kernel
theorem dX0_init_35 : decode cX0_init 35 = .ok (.aload_n 0, 1) := by decide +kernel
theorem dX0_init_36 : decode cX0_init 36 = .ok (.iconst 2, 1) := by decide +kernel
theorem dX0_init_37 : decode cX0_init 37 = .ok (.newarray .int, 2) := by decide +kernel
theorem dX0_init_39 : decode cX0_init 39 = .ok (.putfield 24, 3) := by decide +kernel
theorem dX0_init_42 : decode cX0_init 42 = .ok (.aload_n 0, 1) := by decide +kernel
theorem dX0_init_43 : decode cX0_init 43 = .ok (.iconst 2, 1) := by decide +kernel
theorem dX0_init_44 : decode cX0_init 44 = .ok (.newarray .int, 2) := by decide +kernel
theorem dX0_init_46 : decode cX0_init 46 = .ok (.putfield 27, 3) := by decide +kernel
theorem dX0_init_49 : decode cX0_init 49 = .ok (.aload_n 0, 1) := by decide +kernel
theorem dX0_init_50 : decode cX0_init 50 = .ok (.iconst 2, 1) := by decide +kernel
theorem dX0_init_51 : decode cX0_init 51 = .ok (.newarray .int, 2) := by decide +kernel
theorem dX0_init_53 : decode cX0_init 53 = .ok (.putfield 30, 3) := by decide +kernel
theorem dX0_init_56 : decode cX0_init 56 = .ok (.aload_n 0, 1) := by decide +kernel
theorem dX0_init_57 : decode cX0_init 57 = .ok (.iconst 2, 1) := by decide +kernel
theorem dX0_init_58 : decode cX0_init 58 = .ok (.newarray .int, 2) := by decide +kernel
theorem dX0_init_60 : decode cX0_init 60 = .ok (.putfield 33, 3) := by decide +kernel
theorem dX0_init_63 : decode cX0_init 63 = .ok (.return_, 1) := by decide +kernel
/-- the cells of a new object of class 0 -/
abbrev X_X0 (cI cZ : ClassId) (h0 : Nat) (u : Nat → Nat) : va_W := [(h0, .inr (0, [.ref (u 0), .ref (u 1), .ref (u 2), .ref (u 3), .ref (u 4), .ref (u 5), .ref (u 6), .ref (u 7), .int 0, .int 0, .int 0])), ((u 0), .inl (cI, 16, .inl (fun _ => 0))), ((u 1), .inl (cI, 3, .inl (fun _ => 0))), ((u 2), .inl (cI, 3, .inl (fun _ => 0))), ((u 3), .inl (cI, 384, .inl (fun _ => 0))), ((u 4), .inl (cI, 2, .inl (fun _ => 0))), ((u 5), .inl (cI, 2, .inl (fun _ => 0))), ((u 6), .inl (cI, 2, .inl (fun _ => 0))), ((u 7), .inl (cI, 2, .inl (fun _ => 0)))]
set_option maxHeartbeats 4000000 in
set_option maxRecDepth 100000 in
theorem c_X0 (l : Launch) (D : va_G) (cI cZ : ClassId) (ad : Nat → Nat) : ctMet l D cI cZ ad yX0_init cX0_init { frames := 1, cells := 8, slots := 414, locals := 12 } 8 414 0 [.null, .null, .null, .null, .null, .null, .null, .null, .int 0, .int 0, .int 0] (X_X0 cI cZ) := by
  intro h0 sz
  refine Met.ofW (cc := cX0_init) (maxL := 1) (ret := none) (by decide) rfl ?_
  intro p e s m args below meth c s₁ B hml hv
  obtain ⟨rfl, hsz, hP, hK, hD0, hE⟩ := hv
  have hx := B.exec
  have hb := B.bytes
  have hr := B.returns
  have hts0 := atoms_spec (ws := .code yX0_init cX0_init 1 none :: rz_tbl) B.pre
  have hts : ∀ w ∈ rz_tbl, w.before ([.ref h0] : List Value).toArray s = true := fun w hw => hts0 w (List.mem_cons_of_mem _ hw)
  have hown : s.vm.findClass RX0 = some m.cls := findClass_of_methodNamed B.named
  have hin : meth.name = "<init>" := (name_of_methodNamed B.named B.method).1
  subst hsz
  have hD := hD0.self (sz := s.heap.size)
  generalize hAe : va_A [(h0, .inr (0, [.null, .null, .null, .null, .null, .null, .null, .null, .int 0, .int 0, .int 0]))] s.heap.size = A at hD hE ⊢
  have F : cFx p s m ([.ref h0] : List Value).toArray c cX0_init RX0 D cI cZ ad A := ⟨hx, hb, hown, hts, hK, hE⟩
  have hA : ∀ q : Nat, s.heap.size ≤ q → A q := fun q h => by rw [← hAe]; exact Or.inr h
  have hS : va_S A s.heap s.heap [] := va_S.rf
  have hP : va_P D vwCl [(h0, .inr (0, [.null, .null, .null, .null, .null, .null, .null, .null, .int 0, .int 0, .int 0]))] s.heap := hP
  have hl := lv_entry ([.ref h0]) (n := 1) (Nat.le_of_ble_eq_true rfl)
  rw [lg_entry_eq]
  generalize (lg_sl ([.ref h0]) ++ List.replicate (1 - (lg_sl ([.ref h0])).length) Slot.unset).toArray = ls at hl ⊢
  have hl : lv_has ls 1 [(0, .ref h0)] := hl
  refine lv_aload_n hx hb dX0_init_0 rfl (lv_at hl 0 rfl) ?_
  refine ct_obj F (by rw [hml]; exact hl.1) (j := 180) (by decide +kernel) (Nat.le_of_ble_eq_true rfl) (Nat.le_of_ble_eq_true rfl) dX0_init_1 ?_
  refine lv_aload_n hx hb dX0_init_4 rfl (lv_at hl 0 rfl) ?_
  refine lv_bipush (v := 16) hx hb dX0_init_5 (by decide +kernel) ?_
  refine ct_newa F hP hD hS hA (N' := 16) (by decide) (by decide +kernel) (Nat.le_of_ble_eq_true rfl) (Nat.le_of_ble_eq_true rfl) (Nat.le_of_ble_eq_true rfl) dX0_init_7 (fun q7 H hP hD hS => ?_)
  have hP : va_P D vwCl [(h0, .inr (0, [.null, .null, .null, .null, .null, .null, .null, .null, .int 0, .int 0, .int 0])), (q7, .inl (cI, 16, .inl (fun _ => 0)))] H := hP
  have hD : va_D A [(h0, .inr (0, [.null, .null, .null, .null, .null, .null, .null, .null, .int 0, .int 0, .int 0])), (q7, .inl (cI, 16, .inl (fun _ => 0)))] := hD
  refine ct_putF F hin hP hD hS 0 (k := 0) (ty := tyX0 0) (j := 181) rfl rfl (by decide) (by decide +kernel) rfl rfl (by decide +kernel) rfl rfl (Nat.le_of_ble_eq_true rfl) dX0_init_9 (fun H locs hP hD hS => ?_)
  have hP : va_P D vwCl [(h0, .inr (0, [.ref q7, .null, .null, .null, .null, .null, .null, .null, .int 0, .int 0, .int 0])), (q7, .inl (cI, 16, .inl (fun _ => 0)))] H := hP
  have hD : va_D A [(h0, .inr (0, [.ref q7, .null, .null, .null, .null, .null, .null, .null, .int 0, .int 0, .int 0])), (q7, .inl (cI, 16, .inl (fun _ => 0)))] := hD
  refine lv_aload_n hx hb dX0_init_12 rfl (lv_at hl 0 rfl) ?_
  refine lv_iconst (v := 3) hx hb dX0_init_13 (by decide) ?_
  refine ct_newa F hP hD hS hA (N' := 3) (by decide) (by decide +kernel) (Nat.le_of_ble_eq_true rfl) (Nat.le_of_ble_eq_true rfl) (Nat.le_of_ble_eq_true rfl) dX0_init_14 (fun q14 H hP hD hS => ?_)
  have hP : va_P D vwCl [(h0, .inr (0, [.ref q7, .null, .null, .null, .null, .null, .null, .null, .int 0, .int 0, .int 0])), (q7, .inl (cI, 16, .inl (fun _ => 0))), (q14, .inl (cI, 3, .inl (fun _ => 0)))] H := hP
  have hD : va_D A [(h0, .inr (0, [.ref q7, .null, .null, .null, .null, .null, .null, .null, .int 0, .int 0, .int 0])), (q7, .inl (cI, 16, .inl (fun _ => 0))), (q14, .inl (cI, 3, .inl (fun _ => 0)))] := hD
  refine ct_putF F hin hP hD hS 0 (k := 1) (ty := tyX0 1) (j := 184) rfl rfl (by decide) (by decide +kernel) rfl rfl (by decide +kernel) rfl rfl (Nat.le_of_ble_eq_true rfl) dX0_init_16 (fun H locs hP hD hS => ?_)
  have hP : va_P D vwCl [(h0, .inr (0, [.ref q7, .ref q14, .null, .null, .null, .null, .null, .null, .int 0, .int 0, .int 0])), (q7, .inl (cI, 16, .inl (fun _ => 0))), (q14, .inl (cI, 3, .inl (fun _ => 0)))] H := hP
  have hD : va_D A [(h0, .inr (0, [.ref q7, .ref q14, .null, .null, .null, .null, .null, .null, .int 0, .int 0, .int 0])), (q7, .inl (cI, 16, .inl (fun _ => 0))), (q14, .inl (cI, 3, .inl (fun _ => 0)))] := hD
  refine lv_aload_n hx hb dX0_init_19 rfl (lv_at hl 0 rfl) ?_
  refine lv_iconst (v := 3) hx hb dX0_init_20 (by decide) ?_
  refine ct_newa F hP hD hS hA (N' := 3) (by decide) (by decide +kernel) (Nat.le_of_ble_eq_true rfl) (Nat.le_of_ble_eq_true rfl) (Nat.le_of_ble_eq_true rfl) dX0_init_21 (fun q21 H hP hD hS => ?_)
  have hP : va_P D vwCl [(h0, .inr (0, [.ref q7, .ref q14, .null, .null, .null, .null, .null, .null, .int 0, .int 0, .int 0])), (q7, .inl (cI, 16, .inl (fun _ => 0))), (q14, .inl (cI, 3, .inl (fun _ => 0))), (q21, .inl (cI, 3, .inl (fun _ => 0)))] H := hP
  have hD : va_D A [(h0, .inr (0, [.ref q7, .ref q14, .null, .null, .null, .null, .null, .null, .int 0, .int 0, .int 0])), (q7, .inl (cI, 16, .inl (fun _ => 0))), (q14, .inl (cI, 3, .inl (fun _ => 0))), (q21, .inl (cI, 3, .inl (fun _ => 0)))] := hD
  refine ct_putF F hin hP hD hS 0 (k := 2) (ty := tyX0 2) (j := 187) rfl rfl (by decide) (by decide +kernel) rfl rfl (by decide +kernel) rfl rfl (Nat.le_of_ble_eq_true rfl) dX0_init_23 (fun H locs hP hD hS => ?_)
  have hP : va_P D vwCl [(h0, .inr (0, [.ref q7, .ref q14, .ref q21, .null, .null, .null, .null, .null, .int 0, .int 0, .int 0])), (q7, .inl (cI, 16, .inl (fun _ => 0))), (q14, .inl (cI, 3, .inl (fun _ => 0))), (q21, .inl (cI, 3, .inl (fun _ => 0)))] H := hP
  have hD : va_D A [(h0, .inr (0, [.ref q7, .ref q14, .ref q21, .null, .null, .null, .null, .null, .int 0, .int 0, .int 0])), (q7, .inl (cI, 16, .inl (fun _ => 0))), (q14, .inl (cI, 3, .inl (fun _ => 0))), (q21, .inl (cI, 3, .inl (fun _ => 0)))] := hD
  refine lv_aload_n hx hb dX0_init_26 rfl (lv_at hl 0 rfl) ?_
  refine lv_sipush (v := 384) hx hb dX0_init_27 (by decide +kernel) ?_
  refine ct_newa F hP hD hS hA (N' := 384) (by decide) (by decide +kernel) (Nat.le_of_ble_eq_true rfl) (Nat.le_of_ble_eq_true rfl) (Nat.le_of_ble_eq_true rfl) dX0_init_30 (fun q30 H hP hD hS => ?_)
  have hP : va_P D vwCl [(h0, .inr (0, [.ref q7, .ref q14, .ref q21, .null, .null, .null, .null, .null, .int 0, .int 0, .int 0])), (q7, .inl (cI, 16, .inl (fun _ => 0))), (q14, .inl (cI, 3, .inl (fun _ => 0))), (q21, .inl (cI, 3, .inl (fun _ => 0))), (q30, .inl (cI, 384, .inl (fun _ => 0)))] H := hP
  have hD : va_D A [(h0, .inr (0, [.ref q7, .ref q14, .ref q21, .null, .null, .null, .null, .null, .int 0, .int 0, .int 0])), (q7, .inl (cI, 16, .inl (fun _ => 0))), (q14, .inl (cI, 3, .inl (fun _ => 0))), (q21, .inl (cI, 3, .inl (fun _ => 0))), (q30, .inl (cI, 384, .inl (fun _ => 0)))] := hD
  refine ct_putF F hin hP hD hS 0 (k := 3) (ty := tyX0 3) (j := 190) rfl rfl (by decide) (by decide +kernel) rfl rfl (by decide +kernel) rfl rfl (Nat.le_of_ble_eq_true rfl) dX0_init_32 (fun H locs hP hD hS => ?_)
  have hP : va_P D vwCl [(h0, .inr (0, [.ref q7, .ref q14, .ref q21, .ref q30, .null, .null, .null, .null, .int 0, .int 0, .int 0])), (q7, .inl (cI, 16, .inl (fun _ => 0))), (q14, .inl (cI, 3, .inl (fun _ => 0))), (q21, .inl (cI, 3, .inl (fun _ => 0))), (q30, .inl (cI, 384, .inl (fun _ => 0)))] H := hP
  have hD : va_D A [(h0, .inr (0, [.ref q7, .ref q14, .ref q21, .ref q30, .null, .null, .null, .null, .int 0, .int 0, .int 0])), (q7, .inl (cI, 16, .inl (fun _ => 0))), (q14, .inl (cI, 3, .inl (fun _ => 0))), (q21, .inl (cI, 3, .inl (fun _ => 0))), (q30, .inl (cI, 384, .inl (fun _ => 0)))] := hD
  refine lv_aload_n hx hb dX0_init_35 rfl (lv_at hl 0 rfl) ?_
  refine lv_iconst (v := 2) hx hb dX0_init_36 (by decide) ?_
  refine ct_newa F hP hD hS hA (N' := 2) (by decide) (by decide +kernel) (Nat.le_of_ble_eq_true rfl) (Nat.le_of_ble_eq_true rfl) (Nat.le_of_ble_eq_true rfl) dX0_init_37 (fun q37 H hP hD hS => ?_)
  have hP : va_P D vwCl [(h0, .inr (0, [.ref q7, .ref q14, .ref q21, .ref q30, .null, .null, .null, .null, .int 0, .int 0, .int 0])), (q7, .inl (cI, 16, .inl (fun _ => 0))), (q14, .inl (cI, 3, .inl (fun _ => 0))), (q21, .inl (cI, 3, .inl (fun _ => 0))), (q30, .inl (cI, 384, .inl (fun _ => 0))), (q37, .inl (cI, 2, .inl (fun _ => 0)))] H := hP
  have hD : va_D A [(h0, .inr (0, [.ref q7, .ref q14, .ref q21, .ref q30, .null, .null, .null, .null, .int 0, .int 0, .int 0])), (q7, .inl (cI, 16, .inl (fun _ => 0))), (q14, .inl (cI, 3, .inl (fun _ => 0))), (q21, .inl (cI, 3, .inl (fun _ => 0))), (q30, .inl (cI, 384, .inl (fun _ => 0))), (q37, .inl (cI, 2, .inl (fun _ => 0)))] := hD
  refine ct_putF F hin hP hD hS 0 (k := 4) (ty := tyX0 4) (j := 191) rfl rfl (by decide) (by decide +kernel) rfl rfl (by decide +kernel) rfl rfl (Nat.le_of_ble_eq_true rfl) dX0_init_39 (fun H locs hP hD hS => ?_)
  have hP : va_P D vwCl [(h0, .inr (0, [.ref q7, .ref q14, .ref q21, .ref q30, .ref q37, .null, .null, .null, .int 0, .int 0, .int 0])), (q7, .inl (cI, 16, .inl (fun _ => 0))), (q14, .inl (cI, 3, .inl (fun _ => 0))), (q21, .inl (cI, 3, .inl (fun _ => 0))), (q30, .inl (cI, 384, .inl (fun _ => 0))), (q37, .inl (cI, 2, .inl (fun _ => 0)))] H := hP
  have hD : va_D A [(h0, .inr (0, [.ref q7, .ref q14, .ref q21, .ref q30, .ref q37, .null, .null, .null, .int 0, .int 0, .int 0])), (q7, .inl (cI, 16, .inl (fun _ => 0))), (q14, .inl (cI, 3, .inl (fun _ => 0))), (q21, .inl (cI, 3, .inl (fun _ => 0))), (q30, .inl (cI, 384, .inl (fun _ => 0))), (q37, .inl (cI, 2, .inl (fun _ => 0)))] := hD
  refine lv_aload_n hx hb dX0_init_42 rfl (lv_at hl 0 rfl) ?_
  refine lv_iconst (v := 2) hx hb dX0_init_43 (by decide) ?_
  refine ct_newa F hP hD hS hA (N' := 2) (by decide) (by decide +kernel) (Nat.le_of_ble_eq_true rfl) (Nat.le_of_ble_eq_true rfl) (Nat.le_of_ble_eq_true rfl) dX0_init_44 (fun q44 H hP hD hS => ?_)
  have hP : va_P D vwCl [(h0, .inr (0, [.ref q7, .ref q14, .ref q21, .ref q30, .ref q37, .null, .null, .null, .int 0, .int 0, .int 0])), (q7, .inl (cI, 16, .inl (fun _ => 0))), (q14, .inl (cI, 3, .inl (fun _ => 0))), (q21, .inl (cI, 3, .inl (fun _ => 0))), (q30, .inl (cI, 384, .inl (fun _ => 0))), (q37, .inl (cI, 2, .inl (fun _ => 0))), (q44, .inl (cI, 2, .inl (fun _ => 0)))] H := hP
  have hD : va_D A [(h0, .inr (0, [.ref q7, .ref q14, .ref q21, .ref q30, .ref q37, .null, .null, .null, .int 0, .int 0, .int 0])), (q7, .inl (cI, 16, .inl (fun _ => 0))), (q14, .inl (cI, 3, .inl (fun _ => 0))), (q21, .inl (cI, 3, .inl (fun _ => 0))), (q30, .inl (cI, 384, .inl (fun _ => 0))), (q37, .inl (cI, 2, .inl (fun _ => 0))), (q44, .inl (cI, 2, .inl (fun _ => 0)))] := hD
  refine ct_putF F hin hP hD hS 0 (k := 5) (ty := tyX0 5) (j := 194) rfl rfl (by decide) (by decide +kernel) rfl rfl (by decide +kernel) rfl rfl (Nat.le_of_ble_eq_true rfl) dX0_init_46 (fun H locs hP hD hS => ?_)
  have hP : va_P D vwCl [(h0, .inr (0, [.ref q7, .ref q14, .ref q21, .ref q30, .ref q37, .ref q44, .null, .null, .int 0, .int 0, .int 0])), (q7, .inl (cI, 16, .inl (fun _ => 0))), (q14, .inl (cI, 3, .inl (fun _ => 0))), (q21, .inl (cI, 3, .inl (fun _ => 0))), (q30, .inl (cI, 384, .inl (fun _ => 0))), (q37, .inl (cI, 2, .inl (fun _ => 0))), (q44, .inl (cI, 2, .inl (fun _ => 0)))] H := hP
  have hD : va_D A [(h0, .inr (0, [.ref q7, .ref q14, .ref q21, .ref q30, .ref q37, .ref q44, .null, .null, .int 0, .int 0, .int 0])), (q7, .inl (cI, 16, .inl (fun _ => 0))), (q14, .inl (cI, 3, .inl (fun _ => 0))), (q21, .inl (cI, 3, .inl (fun _ => 0))), (q30, .inl (cI, 384, .inl (fun _ => 0))), (q37, .inl (cI, 2, .inl (fun _ => 0))), (q44, .inl (cI, 2, .inl (fun _ => 0)))] := hD
  refine lv_aload_n hx hb dX0_init_49 rfl (lv_at hl 0 rfl) ?_
  refine lv_iconst (v := 2) hx hb dX0_init_50 (by decide) ?_
  refine ct_newa F hP hD hS hA (N' := 2) (by decide) (by decide +kernel) (Nat.le_of_ble_eq_true rfl) (Nat.le_of_ble_eq_true rfl) (Nat.le_of_ble_eq_true rfl) dX0_init_51 (fun q51 H hP hD hS => ?_)
  have hP : va_P D vwCl [(h0, .inr (0, [.ref q7, .ref q14, .ref q21, .ref q30, .ref q37, .ref q44, .null, .null, .int 0, .int 0, .int 0])), (q7, .inl (cI, 16, .inl (fun _ => 0))), (q14, .inl (cI, 3, .inl (fun _ => 0))), (q21, .inl (cI, 3, .inl (fun _ => 0))), (q30, .inl (cI, 384, .inl (fun _ => 0))), (q37, .inl (cI, 2, .inl (fun _ => 0))), (q44, .inl (cI, 2, .inl (fun _ => 0))), (q51, .inl (cI, 2, .inl (fun _ => 0)))] H := hP
  have hD : va_D A [(h0, .inr (0, [.ref q7, .ref q14, .ref q21, .ref q30, .ref q37, .ref q44, .null, .null, .int 0, .int 0, .int 0])), (q7, .inl (cI, 16, .inl (fun _ => 0))), (q14, .inl (cI, 3, .inl (fun _ => 0))), (q21, .inl (cI, 3, .inl (fun _ => 0))), (q30, .inl (cI, 384, .inl (fun _ => 0))), (q37, .inl (cI, 2, .inl (fun _ => 0))), (q44, .inl (cI, 2, .inl (fun _ => 0))), (q51, .inl (cI, 2, .inl (fun _ => 0)))] := hD
  refine ct_putF F hin hP hD hS 0 (k := 6) (ty := tyX0 6) (j := 199) rfl rfl (by decide) (by decide +kernel) rfl rfl (by decide +kernel) rfl rfl (Nat.le_of_ble_eq_true rfl) dX0_init_53 (fun H locs hP hD hS => ?_)
  have hP : va_P D vwCl [(h0, .inr (0, [.ref q7, .ref q14, .ref q21, .ref q30, .ref q37, .ref q44, .ref q51, .null, .int 0, .int 0, .int 0])), (q7, .inl (cI, 16, .inl (fun _ => 0))), (q14, .inl (cI, 3, .inl (fun _ => 0))), (q21, .inl (cI, 3, .inl (fun _ => 0))), (q30, .inl (cI, 384, .inl (fun _ => 0))), (q37, .inl (cI, 2, .inl (fun _ => 0))), (q44, .inl (cI, 2, .inl (fun _ => 0))), (q51, .inl (cI, 2, .inl (fun _ => 0)))] H := hP
  have hD : va_D A [(h0, .inr (0, [.ref q7, .ref q14, .ref q21, .ref q30, .ref q37, .ref q44, .ref q51, .null, .int 0, .int 0, .int 0])), (q7, .inl (cI, 16, .inl (fun _ => 0))), (q14, .inl (cI, 3, .inl (fun _ => 0))), (q21, .inl (cI, 3, .inl (fun _ => 0))), (q30, .inl (cI, 384, .inl (fun _ => 0))), (q37, .inl (cI, 2, .inl (fun _ => 0))), (q44, .inl (cI, 2, .inl (fun _ => 0))), (q51, .inl (cI, 2, .inl (fun _ => 0)))] := hD
  refine lv_aload_n hx hb dX0_init_56 rfl (lv_at hl 0 rfl) ?_
  refine lv_iconst (v := 2) hx hb dX0_init_57 (by decide) ?_
  refine ct_newa F hP hD hS hA (N' := 2) (by decide) (by decide +kernel) (Nat.le_of_ble_eq_true rfl) (Nat.le_of_ble_eq_true rfl) (Nat.le_of_ble_eq_true rfl) dX0_init_58 (fun q58 H hP hD hS => ?_)
  have hP : va_P D vwCl [(h0, .inr (0, [.ref q7, .ref q14, .ref q21, .ref q30, .ref q37, .ref q44, .ref q51, .null, .int 0, .int 0, .int 0])), (q7, .inl (cI, 16, .inl (fun _ => 0))), (q14, .inl (cI, 3, .inl (fun _ => 0))), (q21, .inl (cI, 3, .inl (fun _ => 0))), (q30, .inl (cI, 384, .inl (fun _ => 0))), (q37, .inl (cI, 2, .inl (fun _ => 0))), (q44, .inl (cI, 2, .inl (fun _ => 0))), (q51, .inl (cI, 2, .inl (fun _ => 0))), (q58, .inl (cI, 2, .inl (fun _ => 0)))] H := hP
  have hD : va_D A [(h0, .inr (0, [.ref q7, .ref q14, .ref q21, .ref q30, .ref q37, .ref q44, .ref q51, .null, .int 0, .int 0, .int 0])), (q7, .inl (cI, 16, .inl (fun _ => 0))), (q14, .inl (cI, 3, .inl (fun _ => 0))), (q21, .inl (cI, 3, .inl (fun _ => 0))), (q30, .inl (cI, 384, .inl (fun _ => 0))), (q37, .inl (cI, 2, .inl (fun _ => 0))), (q44, .inl (cI, 2, .inl (fun _ => 0))), (q51, .inl (cI, 2, .inl (fun _ => 0))), (q58, .inl (cI, 2, .inl (fun _ => 0)))] := hD
  refine ct_putF F hin hP hD hS 0 (k := 7) (ty := tyX0 7) (j := 201) rfl rfl (by decide) (by decide +kernel) rfl rfl (by decide +kernel) rfl rfl (Nat.le_of_ble_eq_true rfl) dX0_init_60 (fun H locs hP hD hS => ?_)
  have hP : va_P D vwCl [(h0, .inr (0, [.ref q7, .ref q14, .ref q21, .ref q30, .ref q37, .ref q44, .ref q51, .ref q58, .int 0, .int 0, .int 0])), (q7, .inl (cI, 16, .inl (fun _ => 0))), (q14, .inl (cI, 3, .inl (fun _ => 0))), (q21, .inl (cI, 3, .inl (fun _ => 0))), (q30, .inl (cI, 384, .inl (fun _ => 0))), (q37, .inl (cI, 2, .inl (fun _ => 0))), (q44, .inl (cI, 2, .inl (fun _ => 0))), (q51, .inl (cI, 2, .inl (fun _ => 0))), (q58, .inl (cI, 2, .inl (fun _ => 0)))] H := hP
  have hD : va_D A [(h0, .inr (0, [.ref q7, .ref q14, .ref q21, .ref q30, .ref q37, .ref q44, .ref q51, .ref q58, .int 0, .int 0, .int 0])), (q7, .inl (cI, 16, .inl (fun _ => 0))), (q14, .inl (cI, 3, .inl (fun _ => 0))), (q21, .inl (cI, 3, .inl (fun _ => 0))), (q30, .inl (cI, 384, .inl (fun _ => 0))), (q37, .inl (cI, 2, .inl (fun _ => 0))), (q44, .inl (cI, 2, .inl (fun _ => 0))), (q51, .inl (cI, 2, .inl (fun _ => 0))), (q58, .inl (cI, 2, .inl (fun _ => 0)))] := hD
  exact W.vret hx hb hr (fun t ht hW => ⟨⟨(fun k => match k with | 0 => q7 | 1 => q14 | 2 => q21 | 3 => q30 | 4 => q37 | 5 => q44 | 6 => q51 | _ => q58), rfl, trivial, by rw [ht]; exact hP, hD⟩, hS.F ht⟩) hS.2.2 dX0_init_63
theorem dX1_init_0 : decode cX1_init 0 = .ok (.aload_n 0, 1) := by decide +kernel
theorem dX1_init_1 : decode cX1_init 1 = .ok (.invokespecial 3, 3) := by decide +kernel
theorem dX1_init_4 : decode cX1_init 4 = .ok (.aload_n 0, 1) := by decide +kernel
theorem dX1_init_5 : decode cX1_init 5 = .ok (.sipush 18432, 3) := by decide +kernel
theorem dX1_init_8 : decode cX1_init 8 = .ok (.newarray .int, 2) := by decide +kernel
theorem dX1_init_10 : decode cX1_init 10 = .ok (.putfield 11, 3) := by decide +kernel
theorem dX1_init_13 : decode cX1_init 13 = .ok (.aload_n 0, 1) := by decide +kernel
theorem dX1_init_14 : decode cX1_init 14 = .ok (.iconst 2, 1) := by decide +kernel
theorem dX1_init_15 : decode cX1_init 15 = .ok (.newarray .int, 2) := by decide +kernel
theorem dX1_init_17 : decode cX1_init 17 = .ok (.putfield 15, 3) := by decide +kernel
theorem dX1_init_20 : decode cX1_init 20 = .ok (.aload_n 0, 1) := by decide +kernel
theorem dX1_init_21 : decode cX1_init 21 = .ok (.iconst 2, 1) := by decide +kernel
theorem dX1_init_22 : decode cX1_init 22 = .ok (.newarray .int, 2) := by decide +kernel
theorem dX1_init_24 : decode cX1_init 24 = .ok (.putfield 18, 3) := by decide +kernel
theorem dX1_init_27 : decode cX1_init 27 = .ok (.aload_n 0, 1) := by decide +kernel
theorem dX1_init_28 : decode cX1_init 28 = .ok (.new 21, 3) := by decide +kernel
theorem dX1_init_31 : decode cX1_init 31 = .ok (.dup, 1) := by decide +kernel
theorem dX1_init_32 : decode cX1_init 32 = .ok (.invokespecial 23, 3) := by decide +kernel
theorem dX1_init_35 : decode cX1_init 35 = .ok (.putfield 24, 3) := by decide +kernel
theorem dX1_init_38 : decode cX1_init 38 = .ok (.return_, 1) := by decide +kernel
/-- the cells of a new object of class 1 -/
abbrev X_X1 (cI cZ : ClassId) (h0 : Nat) (u : Nat → Nat) : va_W := [(h0, .inr (1, [.ref (u 0), .ref (u 1), .ref (u 2), .ref (u 3), .int 0])), ((u 0), .inl (cI, 18432, .inl (fun _ => 0))), ((u 1), .inl (cI, 2, .inl (fun _ => 0))), ((u 2), .inl (cI, 2, .inl (fun _ => 0))), ((u 3), .inr (0, [.ref (u 4), .ref (u 5), .ref (u 6), .ref (u 7), .ref (u 8), .ref (u 9), .ref (u 10), .ref (u 11), .int 0, .int 0, .int 0])), ((u 4), .inl (cI, 16, .inl (fun _ => 0))), ((u 5), .inl (cI, 3, .inl (fun _ => 0))), ((u 6), .inl (cI, 3, .inl (fun _ => 0))), ((u 7), .inl (cI, 384, .inl (fun _ => 0))), ((u 8), .inl (cI, 2, .inl (fun _ => 0))), ((u 9), .inl (cI, 2, .inl (fun _ => 0))), ((u 10), .inl (cI, 2, .inl (fun _ => 0))), ((u 11), .inl (cI, 2, .inl (fun _ => 0)))]
set_option maxHeartbeats 4000000 in
set_option maxRecDepth 100000 in
theorem c_X1 (l : Launch) (D : va_G) (cI cZ : ClassId) (ad : Nat → Nat) : ctMet l D cI cZ ad yX1_init cX1_init { frames := 2, cells := 12, slots := 18861, locals := 32 } 12 18861 1 [.null, .null, .null, .null, .int 0] (X_X1 cI cZ) := by
  intro h0 sz
  refine Met.ofW (cc := cX1_init) (maxL := 1) (ret := none) (by decide) rfl ?_
  intro p e s m args below meth c s₁ B hml hv
  obtain ⟨rfl, hsz, hP, hK, hD0, hE⟩ := hv
  have hx := B.exec
  have hb := B.bytes
  have hr := B.returns
  have hts0 := atoms_spec (ws := .code yX1_init cX1_init 1 none :: rz_tbl) B.pre
  have hts : ∀ w ∈ rz_tbl, w.before ([.ref h0] : List Value).toArray s = true := fun w hw => hts0 w (List.mem_cons_of_mem _ hw)
  have hown : s.vm.findClass RX1 = some m.cls := findClass_of_methodNamed B.named
  have hin : meth.name = "<init>" := (name_of_methodNamed B.named B.method).1
  subst hsz
  have hD := hD0.self (sz := s.heap.size)
  generalize hAe : va_A [(h0, .inr (1, [.null, .null, .null, .null, .int 0]))] s.heap.size = A at hD hE ⊢
  have F : cFx p s m ([.ref h0] : List Value).toArray c cX1_init RX1 D cI cZ ad A := ⟨hx, hb, hown, hts, hK, hE⟩
  have hA : ∀ q : Nat, s.heap.size ≤ q → A q := fun q h => by rw [← hAe]; exact Or.inr h
  have hS : va_S A s.heap s.heap [] := va_S.rf
  have hP : va_P D vwCl [(h0, .inr (1, [.null, .null, .null, .null, .int 0]))] s.heap := hP
  have hl := lv_entry ([.ref h0]) (n := 1) (Nat.le_of_ble_eq_true rfl)
  rw [lg_entry_eq]
  generalize (lg_sl ([.ref h0]) ++ List.replicate (1 - (lg_sl ([.ref h0])).length) Slot.unset).toArray = ls at hl ⊢
  have hl : lv_has ls 1 [(0, .ref h0)] := hl
  refine lv_aload_n hx hb dX1_init_0 rfl (lv_at hl 0 rfl) ?_
  refine ct_obj F (by rw [hml]; exact hl.1) (j := 174) (by decide +kernel) (Nat.le_of_ble_eq_true rfl) (Nat.le_of_ble_eq_true rfl) dX1_init_1 ?_
  refine lv_aload_n hx hb dX1_init_4 rfl (lv_at hl 0 rfl) ?_
  refine lv_sipush (v := 18432) hx hb dX1_init_5 (by decide +kernel) ?_
  refine ct_newa F hP hD hS hA (N' := 18432) (by decide) (by decide +kernel) (Nat.le_of_ble_eq_true rfl) (Nat.le_of_ble_eq_true rfl) (Nat.le_of_ble_eq_true rfl) dX1_init_8 (fun q8 H hP hD hS => ?_)
  have hP : va_P D vwCl [(h0, .inr (1, [.null, .null, .null, .null, .int 0])), (q8, .inl (cI, 18432, .inl (fun _ => 0)))] H := hP
  have hD : va_D A [(h0, .inr (1, [.null, .null, .null, .null, .int 0])), (q8, .inl (cI, 18432, .inl (fun _ => 0)))] := hD
  refine ct_putF F hin hP hD hS 0 (k := 0) (ty := tyX1 0) (j := 236) rfl rfl (by decide) (by decide +kernel) rfl rfl (by decide +kernel) rfl rfl (Nat.le_of_ble_eq_true rfl) dX1_init_10 (fun H locs hP hD hS => ?_)
  have hP : va_P D vwCl [(h0, .inr (1, [.ref q8, .null, .null, .null, .int 0])), (q8, .inl (cI, 18432, .inl (fun _ => 0)))] H := hP
  have hD : va_D A [(h0, .inr (1, [.ref q8, .null, .null, .null, .int 0])), (q8, .inl (cI, 18432, .inl (fun _ => 0)))] := hD
  refine lv_aload_n hx hb dX1_init_13 rfl (lv_at hl 0 rfl) ?_
  refine lv_iconst (v := 2) hx hb dX1_init_14 (by decide) ?_
  refine ct_newa F hP hD hS hA (N' := 2) (by decide) (by decide +kernel) (Nat.le_of_ble_eq_true rfl) (Nat.le_of_ble_eq_true rfl) (Nat.le_of_ble_eq_true rfl) dX1_init_15 (fun q15 H hP hD hS => ?_)
  have hP : va_P D vwCl [(h0, .inr (1, [.ref q8, .null, .null, .null, .int 0])), (q8, .inl (cI, 18432, .inl (fun _ => 0))), (q15, .inl (cI, 2, .inl (fun _ => 0)))] H := hP
  have hD : va_D A [(h0, .inr (1, [.ref q8, .null, .null, .null, .int 0])), (q8, .inl (cI, 18432, .inl (fun _ => 0))), (q15, .inl (cI, 2, .inl (fun _ => 0)))] := hD
  refine ct_putF F hin hP hD hS 0 (k := 1) (ty := tyX1 1) (j := 237) rfl rfl (by decide) (by decide +kernel) rfl rfl (by decide +kernel) rfl rfl (Nat.le_of_ble_eq_true rfl) dX1_init_17 (fun H locs hP hD hS => ?_)
  have hP : va_P D vwCl [(h0, .inr (1, [.ref q8, .ref q15, .null, .null, .int 0])), (q8, .inl (cI, 18432, .inl (fun _ => 0))), (q15, .inl (cI, 2, .inl (fun _ => 0)))] H := hP
  have hD : va_D A [(h0, .inr (1, [.ref q8, .ref q15, .null, .null, .int 0])), (q8, .inl (cI, 18432, .inl (fun _ => 0))), (q15, .inl (cI, 2, .inl (fun _ => 0)))] := hD
  refine lv_aload_n hx hb dX1_init_20 rfl (lv_at hl 0 rfl) ?_
  refine lv_iconst (v := 2) hx hb dX1_init_21 (by decide) ?_
  refine ct_newa F hP hD hS hA (N' := 2) (by decide) (by decide +kernel) (Nat.le_of_ble_eq_true rfl) (Nat.le_of_ble_eq_true rfl) (Nat.le_of_ble_eq_true rfl) dX1_init_22 (fun q22 H hP hD hS => ?_)
  have hP : va_P D vwCl [(h0, .inr (1, [.ref q8, .ref q15, .null, .null, .int 0])), (q8, .inl (cI, 18432, .inl (fun _ => 0))), (q15, .inl (cI, 2, .inl (fun _ => 0))), (q22, .inl (cI, 2, .inl (fun _ => 0)))] H := hP
  have hD : va_D A [(h0, .inr (1, [.ref q8, .ref q15, .null, .null, .int 0])), (q8, .inl (cI, 18432, .inl (fun _ => 0))), (q15, .inl (cI, 2, .inl (fun _ => 0))), (q22, .inl (cI, 2, .inl (fun _ => 0)))] := hD
  refine ct_putF F hin hP hD hS 0 (k := 2) (ty := tyX1 2) (j := 238) rfl rfl (by decide) (by decide +kernel) rfl rfl (by decide +kernel) rfl rfl (Nat.le_of_ble_eq_true rfl) dX1_init_24 (fun H locs hP hD hS => ?_)
  have hP : va_P D vwCl [(h0, .inr (1, [.ref q8, .ref q15, .ref q22, .null, .int 0])), (q8, .inl (cI, 18432, .inl (fun _ => 0))), (q15, .inl (cI, 2, .inl (fun _ => 0))), (q22, .inl (cI, 2, .inl (fun _ => 0)))] H := hP
  have hD : va_D A [(h0, .inr (1, [.ref q8, .ref q15, .ref q22, .null, .int 0])), (q8, .inl (cI, 18432, .inl (fun _ => 0))), (q15, .inl (cI, 2, .inl (fun _ => 0))), (q22, .inl (cI, 2, .inl (fun _ => 0)))] := hD
  refine lv_aload_n hx hb dX1_init_27 rfl (lv_at hl 0 rfl) ?_
  refine ct_make F hP hD hS hA (by rw [hml]; exact hl.1) (ci := 0) (j1 := 175) (j2 := 176) (j3 := 78) (j4 := 179) (j5 := 177) (j6 := 178) rfl tyX0_ok (by decide +kernel) (by decide +kernel) (by decide +kernel) (by decide +kernel) (by decide +kernel) (.inr (by decide +kernel)) (by decide +kernel) rfl rfl rfl (by decide +kernel) (c_X0 l D cI cZ ad) rfl rfl (Nat.le_of_ble_eq_true rfl) (Nat.le_of_ble_eq_true rfl) (Nat.le_of_ble_eq_true rfl) (Nat.le_of_ble_eq_true rfl) (Nat.le_of_ble_eq_true rfl) dX1_init_28 dX1_init_31 dX1_init_32 (fun q28 u28 H locs hP hD hS => ?_)
  have hP : va_P D vwCl [(h0, .inr (1, [.ref q8, .ref q15, .ref q22, .null, .int 0])), (q8, .inl (cI, 18432, .inl (fun _ => 0))), (q15, .inl (cI, 2, .inl (fun _ => 0))), (q22, .inl (cI, 2, .inl (fun _ => 0))), (q28, .inr (0, [.ref (u28 0), .ref (u28 1), .ref (u28 2), .ref (u28 3), .ref (u28 4), .ref (u28 5), .ref (u28 6), .ref (u28 7), .int 0, .int 0, .int 0])), ((u28 0), .inl (cI, 16, .inl (fun _ => 0))), ((u28 1), .inl (cI, 3, .inl (fun _ => 0))), ((u28 2), .inl (cI, 3, .inl (fun _ => 0))), ((u28 3), .inl (cI, 384, .inl (fun _ => 0))), ((u28 4), .inl (cI, 2, .inl (fun _ => 0))), ((u28 5), .inl (cI, 2, .inl (fun _ => 0))), ((u28 6), .inl (cI, 2, .inl (fun _ => 0))), ((u28 7), .inl (cI, 2, .inl (fun _ => 0)))] H := hP
  have hD : va_D A [(h0, .inr (1, [.ref q8, .ref q15, .ref q22, .null, .int 0])), (q8, .inl (cI, 18432, .inl (fun _ => 0))), (q15, .inl (cI, 2, .inl (fun _ => 0))), (q22, .inl (cI, 2, .inl (fun _ => 0))), (q28, .inr (0, [.ref (u28 0), .ref (u28 1), .ref (u28 2), .ref (u28 3), .ref (u28 4), .ref (u28 5), .ref (u28 6), .ref (u28 7), .int 0, .int 0, .int 0])), ((u28 0), .inl (cI, 16, .inl (fun _ => 0))), ((u28 1), .inl (cI, 3, .inl (fun _ => 0))), ((u28 2), .inl (cI, 3, .inl (fun _ => 0))), ((u28 3), .inl (cI, 384, .inl (fun _ => 0))), ((u28 4), .inl (cI, 2, .inl (fun _ => 0))), ((u28 5), .inl (cI, 2, .inl (fun _ => 0))), ((u28 6), .inl (cI, 2, .inl (fun _ => 0))), ((u28 7), .inl (cI, 2, .inl (fun _ => 0)))] := hD
  refine ct_put F hP hD hS 0 (k := 3) (ty := tyX1 3) (j := 239) rfl rfl (by decide) (by decide +kernel) rfl (by decide +kernel) rfl rfl (Nat.le_of_ble_eq_true rfl) dX1_init_35 (fun H locs hP hD hS => ?_)
  have hP : va_P D vwCl [(h0, .inr (1, [.ref q8, .ref q15, .ref q22, .ref q28, .int 0])), (q8, .inl (cI, 18432, .inl (fun _ => 0))), (q15, .inl (cI, 2, .inl (fun _ => 0))), (q22, .inl (cI, 2, .inl (fun _ => 0))), (q28, .inr (0, [.ref (u28 0), .ref (u28 1), .ref (u28 2), .ref (u28 3), .ref (u28 4), .ref (u28 5), .ref (u28 6), .ref (u28 7), .int 0, .int 0, .int 0])), ((u28 0), .inl (cI, 16, .inl (fun _ => 0))), ((u28 1), .inl (cI, 3, .inl (fun _ => 0))), ((u28 2), .inl (cI, 3, .inl (fun _ => 0))), ((u28 3), .inl (cI, 384, .inl (fun _ => 0))), ((u28 4), .inl (cI, 2, .inl (fun _ => 0))), ((u28 5), .inl (cI, 2, .inl (fun _ => 0))), ((u28 6), .inl (cI, 2, .inl (fun _ => 0))), ((u28 7), .inl (cI, 2, .inl (fun _ => 0)))] H := hP
  have hD : va_D A [(h0, .inr (1, [.ref q8, .ref q15, .ref q22, .ref q28, .int 0])), (q8, .inl (cI, 18432, .inl (fun _ => 0))), (q15, .inl (cI, 2, .inl (fun _ => 0))), (q22, .inl (cI, 2, .inl (fun _ => 0))), (q28, .inr (0, [.ref (u28 0), .ref (u28 1), .ref (u28 2), .ref (u28 3), .ref (u28 4), .ref (u28 5), .ref (u28 6), .ref (u28 7), .int 0, .int 0, .int 0])), ((u28 0), .inl (cI, 16, .inl (fun _ => 0))), ((u28 1), .inl (cI, 3, .inl (fun _ => 0))), ((u28 2), .inl (cI, 3, .inl (fun _ => 0))), ((u28 3), .inl (cI, 384, .inl (fun _ => 0))), ((u28 4), .inl (cI, 2, .inl (fun _ => 0))), ((u28 5), .inl (cI, 2, .inl (fun _ => 0))), ((u28 6), .inl (cI, 2, .inl (fun _ => 0))), ((u28 7), .inl (cI, 2, .inl (fun _ => 0)))] := hD
  exact W.vret hx hb hr (fun t ht hW => ⟨⟨(fun k => match k with | 0 => q8 | 1 => q15 | 2 => q22 | 3 => q28 | 4 => (u28 0) | 5 => (u28 1) | 6 => (u28 2) | 7 => (u28 3) | 8 => (u28 4) | 9 => (u28 5) | 10 => (u28 6) | _ => (u28 7)), rfl, trivial, by rw [ht]; exact hP, hD⟩, hS.F ht⟩) hS.2.2 dX1_init_38
theorem dX2_init_0 : decode cX2_init 0 = .ok (.aload_n 0, 1) := by decide +kernel
theorem dX2_init_1 : decode cX2_init 1 = .ok (.invokespecial 3, 3) := by decide +kernel
theorem dX2_init_4 : decode cX2_init 4 = .ok (.aload_n 0, 1) := by decide +kernel
theorem dX2_init_5 : decode cX2_init 5 = .ok (.sipush 300, 3) := by decide +kernel
theorem dX2_init_8 : decode cX2_init 8 = .ok (.newarray .int, 2) := by decide +kernel
theorem dX2_init_10 : decode cX2_init 10 = .ok (.putfield 9, 3) := by decide +kernel
theorem dX2_init_13 : decode cX2_init 13 = .ok (.aload_n 0, 1) := by decide +kernel
theorem dX2_init_14 : decode cX2_init 14 = .ok (.bipush 9, 2) := by decide +kernel
theorem dX2_init_16 : decode cX2_init 16 = .ok (.newarray .int, 2) := by decide +kernel
theorem dX2_init_18 : decode cX2_init 18 = .ok (.putfield 15, 3) := by decide +kernel
theorem dX2_init_21 : decode cX2_init 21 = .ok (.return_, 1) := by decide +kernel
/-- the cells of a new object of class 2 -/
abbrev X_X2 (cI cZ : ClassId) (h0 : Nat) (u : Nat → Nat) : va_W := [(h0, .inr (2, [.ref (u 0), .ref (u 1), .int 0, .int 0, .int 0, .int 0, .int 0, .int 0, .int 0, .int 0])), ((u 0), .inl (cI, 300, .inl (fun _ => 0))), ((u 1), .inl (cI, 9, .inl (fun _ => 0)))]
set_option maxHeartbeats 4000000 in
set_option maxRecDepth 100000 in
theorem c_X2 (l : Launch) (D : va_G) (cI cZ : ClassId) (ad : Nat → Nat) : ctMet l D cI cZ ad yX2_init cX2_init { frames := 1, cells := 2, slots := 309, locals := 12 } 2 309 2 [.null, .null, .int 0, .int 0, .int 0, .int 0, .int 0, .int 0, .int 0, .int 0] (X_X2 cI cZ) := by
  intro h0 sz
  refine Met.ofW (cc := cX2_init) (maxL := 1) (ret := none) (by decide) rfl ?_
  intro p e s m args below meth c s₁ B hml hv
  obtain ⟨rfl, hsz, hP, hK, hD0, hE⟩ := hv
  have hx := B.exec
  have hb := B.bytes
  have hr := B.returns
  have hts0 := atoms_spec (ws := .code yX2_init cX2_init 1 none :: rz_tbl) B.pre
  have hts : ∀ w ∈ rz_tbl, w.before ([.ref h0] : List Value).toArray s = true := fun w hw => hts0 w (List.mem_cons_of_mem _ hw)
  have hown : s.vm.findClass RX2 = some m.cls := findClass_of_methodNamed B.named
  have hin : meth.name = "<init>" := (name_of_methodNamed B.named B.method).1
  subst hsz
  have hD := hD0.self (sz := s.heap.size)
  generalize hAe : va_A [(h0, .inr (2, [.null, .null, .int 0, .int 0, .int 0, .int 0, .int 0, .int 0, .int 0, .int 0]))] s.heap.size = A at hD hE ⊢
  have F : cFx p s m ([.ref h0] : List Value).toArray c cX2_init RX2 D cI cZ ad A := ⟨hx, hb, hown, hts, hK, hE⟩
  have hA : ∀ q : Nat, s.heap.size ≤ q → A q := fun q h => by rw [← hAe]; exact Or.inr h
  have hS : va_S A s.heap s.heap [] := va_S.rf
  have hP : va_P D vwCl [(h0, .inr (2, [.null, .null, .int 0, .int 0, .int 0, .int 0, .int 0, .int 0, .int 0, .int 0]))] s.heap := hP
  have hl := lv_entry ([.ref h0]) (n := 1) (Nat.le_of_ble_eq_true rfl)
  rw [lg_entry_eq]
  generalize (lg_sl ([.ref h0]) ++ List.replicate (1 - (lg_sl ([.ref h0])).length) Slot.unset).toArray = ls at hl ⊢
  have hl : lv_has ls 1 [(0, .ref h0)] := hl
  refine lv_aload_n hx hb dX2_init_0 rfl (lv_at hl 0 rfl) ?_
  refine ct_obj F (by rw [hml]; exact hl.1) (j := 99) (by decide +kernel) (Nat.le_of_ble_eq_true rfl) (Nat.le_of_ble_eq_true rfl) dX2_init_1 ?_
  refine lv_aload_n hx hb dX2_init_4 rfl (lv_at hl 0 rfl) ?_
  refine lv_sipush (v := 300) hx hb dX2_init_5 (by decide +kernel) ?_
  refine ct_newa F hP hD hS hA (N' := 300) (by decide) (by decide +kernel) (Nat.le_of_ble_eq_true rfl) (Nat.le_of_ble_eq_true rfl) (Nat.le_of_ble_eq_true rfl) dX2_init_8 (fun q8 H hP hD hS => ?_)
  have hP : va_P D vwCl [(h0, .inr (2, [.null, .null, .int 0, .int 0, .int 0, .int 0, .int 0, .int 0, .int 0, .int 0])), (q8, .inl (cI, 300, .inl (fun _ => 0)))] H := hP
  have hD : va_D A [(h0, .inr (2, [.null, .null, .int 0, .int 0, .int 0, .int 0, .int 0, .int 0, .int 0, .int 0])), (q8, .inl (cI, 300, .inl (fun _ => 0)))] := hD
  refine ct_putF F hin hP hD hS 0 (k := 0) (ty := tyX2 0) (j := 100) rfl rfl (by decide) (by decide +kernel) rfl rfl (by decide +kernel) rfl rfl (Nat.le_of_ble_eq_true rfl) dX2_init_10 (fun H locs hP hD hS => ?_)
  have hP : va_P D vwCl [(h0, .inr (2, [.ref q8, .null, .int 0, .int 0, .int 0, .int 0, .int 0, .int 0, .int 0, .int 0])), (q8, .inl (cI, 300, .inl (fun _ => 0)))] H := hP
  have hD : va_D A [(h0, .inr (2, [.ref q8, .null, .int 0, .int 0, .int 0, .int 0, .int 0, .int 0, .int 0, .int 0])), (q8, .inl (cI, 300, .inl (fun _ => 0)))] := hD
  refine lv_aload_n hx hb dX2_init_13 rfl (lv_at hl 0 rfl) ?_
  refine lv_bipush (v := 9) hx hb dX2_init_14 (by decide +kernel) ?_
  refine ct_newa F hP hD hS hA (N' := 9) (by decide) (by decide +kernel) (Nat.le_of_ble_eq_true rfl) (Nat.le_of_ble_eq_true rfl) (Nat.le_of_ble_eq_true rfl) dX2_init_16 (fun q16 H hP hD hS => ?_)
  have hP : va_P D vwCl [(h0, .inr (2, [.ref q8, .null, .int 0, .int 0, .int 0, .int 0, .int 0, .int 0, .int 0, .int 0])), (q8, .inl (cI, 300, .inl (fun _ => 0))), (q16, .inl (cI, 9, .inl (fun _ => 0)))] H := hP
  have hD : va_D A [(h0, .inr (2, [.ref q8, .null, .int 0, .int 0, .int 0, .int 0, .int 0, .int 0, .int 0, .int 0])), (q8, .inl (cI, 300, .inl (fun _ => 0))), (q16, .inl (cI, 9, .inl (fun _ => 0)))] := hD
  refine ct_putF F hin hP hD hS 0 (k := 1) (ty := tyX2 1) (j := 101) rfl rfl (by decide) (by decide +kernel) rfl rfl (by decide +kernel) rfl rfl (Nat.le_of_ble_eq_true rfl) dX2_init_18 (fun H locs hP hD hS => ?_)
  have hP : va_P D vwCl [(h0, .inr (2, [.ref q8, .ref q16, .int 0, .int 0, .int 0, .int 0, .int 0, .int 0, .int 0, .int 0])), (q8, .inl (cI, 300, .inl (fun _ => 0))), (q16, .inl (cI, 9, .inl (fun _ => 0)))] H := hP
  have hD : va_D A [(h0, .inr (2, [.ref q8, .ref q16, .int 0, .int 0, .int 0, .int 0, .int 0, .int 0, .int 0, .int 0])), (q8, .inl (cI, 300, .inl (fun _ => 0))), (q16, .inl (cI, 9, .inl (fun _ => 0)))] := hD
  exact W.vret hx hb hr (fun t ht hW => ⟨⟨(fun k => match k with | 0 => q8 | _ => q16), rfl, trivial, by rw [ht]; exact hP, hD⟩, hS.F ht⟩) hS.2.2 dX2_init_21
theorem dX3_init_0 : decode cX3_init 0 = .ok (.aload_n 0, 1) := by decide +kernel
theorem dX3_init_1 : decode cX3_init 1 = .ok (.invokespecial 3, 3) := by decide +kernel
theorem dX3_init_4 : decode cX3_init 4 = .ok (.aload_n 0, 1) := by decide +kernel
theorem dX3_init_5 : decode cX3_init 5 = .ok (.iconst 2, 1) := by decide +kernel
theorem dX3_init_6 : decode cX3_init 6 = .ok (.newarray .int, 2) := by decide +kernel
theorem dX3_init_8 : decode cX3_init 8 = .ok (.putfield 9, 3) := by decide +kernel
theorem dX3_init_11 : decode cX3_init 11 = .ok (.aload_n 0, 1) := by decide +kernel
theorem dX3_init_12 : decode cX3_init 12 = .ok (.iconst 2, 1) := by decide +kernel
theorem dX3_init_13 : decode cX3_init 13 = .ok (.newarray .int, 2) := by decide +kernel
theorem dX3_init_15 : decode cX3_init 15 = .ok (.putfield 15, 3) := by decide +kernel
theorem dX3_init_18 : decode cX3_init 18 = .ok (.aload_n 0, 1) := by decide +kernel
theorem dX3_init_19 : decode cX3_init 19 = .ok (.bipush (-9), 2) := by decide +kernel
theorem dX3_init_21 : decode cX3_init 21 = .ok (.putfield 18, 3) := by decide +kernel
theorem dX3_init_24 : decode cX3_init 24 = .ok (.return_, 1) := by decide +kernel
/-- the cells of a new object of class 3 -/
abbrev X_X3 (cI cZ : ClassId) (h0 : Nat) (u : Nat → Nat) : va_W := [(h0, .inr (3, [.ref (u 0), .ref (u 1), .int 0, .int (-9), .int 0, .int 0, .int 0])), ((u 0), .inl (cI, 2, .inl (fun _ => 0))), ((u 1), .inl (cI, 2, .inl (fun _ => 0)))]
set_option maxHeartbeats 4000000 in
set_option maxRecDepth 100000 in
theorem c_X3 (l : Launch) (D : va_G) (cI cZ : ClassId) (ad : Nat → Nat) : ctMet l D cI cZ ad yX3_init cX3_init { frames := 1, cells := 2, slots := 4, locals := 12 } 2 4 3 [.null, .null, .int 0, .int 0, .int 0, .int 0, .int 0] (X_X3 cI cZ) := by
  intro h0 sz
  refine Met.ofW (cc := cX3_init) (maxL := 1) (ret := none) (by decide) rfl ?_
  intro p e s m args below meth c s₁ B hml hv
  obtain ⟨rfl, hsz, hP, hK, hD0, hE⟩ := hv
  have hx := B.exec
  have hb := B.bytes
  have hr := B.returns
  have hts0 := atoms_spec (ws := .code yX3_init cX3_init 1 none :: rz_tbl) B.pre
  have hts : ∀ w ∈ rz_tbl, w.before ([.ref h0] : List Value).toArray s = true := fun w hw => hts0 w (List.mem_cons_of_mem _ hw)
  have hown : s.vm.findClass RX3 = some m.cls := findClass_of_methodNamed B.named
  have hin : meth.name = "<init>" := (name_of_methodNamed B.named B.method).1
  subst hsz
  have hD := hD0.self (sz := s.heap.size)
  generalize hAe : va_A [(h0, .inr (3, [.null, .null, .int 0, .int 0, .int 0, .int 0, .int 0]))] s.heap.size = A at hD hE ⊢
  have F : cFx p s m ([.ref h0] : List Value).toArray c cX3_init RX3 D cI cZ ad A := ⟨hx, hb, hown, hts, hK, hE⟩
  have hA : ∀ q : Nat, s.heap.size ≤ q → A q := fun q h => by rw [← hAe]; exact Or.inr h
  have hS : va_S A s.heap s.heap [] := va_S.rf
  have hP : va_P D vwCl [(h0, .inr (3, [.null, .null, .int 0, .int 0, .int 0, .int 0, .int 0]))] s.heap := hP
  have hl := lv_entry ([.ref h0]) (n := 1) (Nat.le_of_ble_eq_true rfl)
  rw [lg_entry_eq]
  generalize (lg_sl ([.ref h0]) ++ List.replicate (1 - (lg_sl ([.ref h0])).length) Slot.unset).toArray = ls at hl ⊢
  have hl : lv_has ls 1 [(0, .ref h0)] := hl
  refine lv_aload_n hx hb dX3_init_0 rfl (lv_at hl 0 rfl) ?_
  refine ct_obj F (by rw [hml]; exact hl.1) (j := 139) (by decide +kernel) (Nat.le_of_ble_eq_true rfl) (Nat.le_of_ble_eq_true rfl) dX3_init_1 ?_
  refine lv_aload_n hx hb dX3_init_4 rfl (lv_at hl 0 rfl) ?_
  refine lv_iconst (v := 2) hx hb dX3_init_5 (by decide) ?_
  refine ct_newa F hP hD hS hA (N' := 2) (by decide) (by decide +kernel) (Nat.le_of_ble_eq_true rfl) (Nat.le_of_ble_eq_true rfl) (Nat.le_of_ble_eq_true rfl) dX3_init_6 (fun q6 H hP hD hS => ?_)
  have hP : va_P D vwCl [(h0, .inr (3, [.null, .null, .int 0, .int 0, .int 0, .int 0, .int 0])), (q6, .inl (cI, 2, .inl (fun _ => 0)))] H := hP
  have hD : va_D A [(h0, .inr (3, [.null, .null, .int 0, .int 0, .int 0, .int 0, .int 0])), (q6, .inl (cI, 2, .inl (fun _ => 0)))] := hD
  refine ct_putF F hin hP hD hS 0 (k := 0) (ty := tyX3 0) (j := 140) rfl rfl (by decide) (by decide +kernel) rfl rfl (by decide +kernel) rfl rfl (Nat.le_of_ble_eq_true rfl) dX3_init_8 (fun H locs hP hD hS => ?_)
  have hP : va_P D vwCl [(h0, .inr (3, [.ref q6, .null, .int 0, .int 0, .int 0, .int 0, .int 0])), (q6, .inl (cI, 2, .inl (fun _ => 0)))] H := hP
  have hD : va_D A [(h0, .inr (3, [.ref q6, .null, .int 0, .int 0, .int 0, .int 0, .int 0])), (q6, .inl (cI, 2, .inl (fun _ => 0)))] := hD
  refine lv_aload_n hx hb dX3_init_11 rfl (lv_at hl 0 rfl) ?_
  refine lv_iconst (v := 2) hx hb dX3_init_12 (by decide) ?_
  refine ct_newa F hP hD hS hA (N' := 2) (by decide) (by decide +kernel) (Nat.le_of_ble_eq_true rfl) (Nat.le_of_ble_eq_true rfl) (Nat.le_of_ble_eq_true rfl) dX3_init_13 (fun q13 H hP hD hS => ?_)
  have hP : va_P D vwCl [(h0, .inr (3, [.ref q6, .null, .int 0, .int 0, .int 0, .int 0, .int 0])), (q6, .inl (cI, 2, .inl (fun _ => 0))), (q13, .inl (cI, 2, .inl (fun _ => 0)))] H := hP
  have hD : va_D A [(h0, .inr (3, [.ref q6, .null, .int 0, .int 0, .int 0, .int 0, .int 0])), (q6, .inl (cI, 2, .inl (fun _ => 0))), (q13, .inl (cI, 2, .inl (fun _ => 0)))] := hD
  refine ct_putF F hin hP hD hS 0 (k := 1) (ty := tyX3 1) (j := 142) rfl rfl (by decide) (by decide +kernel) rfl rfl (by decide +kernel) rfl rfl (Nat.le_of_ble_eq_true rfl) dX3_init_15 (fun H locs hP hD hS => ?_)
  have hP : va_P D vwCl [(h0, .inr (3, [.ref q6, .ref q13, .int 0, .int 0, .int 0, .int 0, .int 0])), (q6, .inl (cI, 2, .inl (fun _ => 0))), (q13, .inl (cI, 2, .inl (fun _ => 0)))] H := hP
  have hD : va_D A [(h0, .inr (3, [.ref q6, .ref q13, .int 0, .int 0, .int 0, .int 0, .int 0])), (q6, .inl (cI, 2, .inl (fun _ => 0))), (q13, .inl (cI, 2, .inl (fun _ => 0)))] := hD
  refine lv_aload_n hx hb dX3_init_18 rfl (lv_at hl 0 rfl) ?_
  refine lv_bipush (v := -9) hx hb dX3_init_19 (by decide +kernel) ?_
  refine ct_put F hP hD hS 0 (k := 3) (ty := tyX3 3) (j := 146) rfl rfl (by decide) (by decide +kernel) rfl (by decide +kernel) rfl rfl (Nat.le_of_ble_eq_true rfl) dX3_init_21 (fun H locs hP hD hS => ?_)
  have hP : va_P D vwCl [(h0, .inr (3, [.ref q6, .ref q13, .int 0, .int (-9), .int 0, .int 0, .int 0])), (q6, .inl (cI, 2, .inl (fun _ => 0))), (q13, .inl (cI, 2, .inl (fun _ => 0)))] H := hP
  have hD : va_D A [(h0, .inr (3, [.ref q6, .ref q13, .int 0, .int (-9), .int 0, .int 0, .int 0])), (q6, .inl (cI, 2, .inl (fun _ => 0))), (q13, .inl (cI, 2, .inl (fun _ => 0)))] := hD
  exact W.vret hx hb hr (fun t ht hW => ⟨⟨(fun k => match k with | 0 => q6 | _ => q13), rfl, trivial, by rw [ht]; exact hP, hD⟩, hS.F ht⟩) hS.2.2 dX3_init_24
