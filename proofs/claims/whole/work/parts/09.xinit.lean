def x_new : XS := ((fun _ => 0), (fun _ => 0), (fun _ => 0), (fun _ => 0), (fun _ => 0), 0, 0, 0, 0, 0, 0, 0, 0, 7)
set_option maxHeartbeats 4000000 in
set_option maxRecDepth 100000 in
theorem xk_init (l : Launch) (D : va_G) (h0 sz : Nat) : Met l yX0_init wsX0_init ({ frames := 1, cells := 5, slots := 1060, locals := 12 }) (va_Pc [.ref h0] (fun U => U.heap.size = sz ∧ va_P D vwCl [(h0, .inr (0, [.null, .null, .null, .null, .null, .int 0, .long 0, .long 0, .long 0, .long 0, .int 0, .int 0, .int 0, .long 0]))] U.heap ∧ va_K D vwCl [] U ∧ va_D (fun _ => True) [(h0, .inr (0, [.null, .null, .null, .null, .null, .int 0, .long 0, .long 0, .long 0, .long 0, .int 0, .int 0, .int 0, .long 0]))])) (va_Qv (fun u : XS => u = x_new) (fun u t => ∃ (ad : Nat → Nat) (cd : Nat → ClassId), ad 0 = h0 ∧ xat D ad cd (va_A [(h0, .inr (0, [.null, .null, .null, .null, .null, .int 0, .long 0, .long 0, .long 0, .long 0, .int 0, .int 0, .int 0, .long 0]))] sz) u t) (va_A [(h0, .inr (0, [.null, .null, .null, .null, .null, .int 0, .long 0, .long 0, .long 0, .long 0, .int 0, .int 0, .int 0, .long 0]))] sz)) 5 1060 (va_A [(h0, .inr (0, [.null, .null, .null, .null, .null, .int 0, .long 0, .long 0, .long 0, .long 0, .int 0, .int 0, .int 0, .long 0]))] sz) := by
  refine Met.ofW (cc := cX0_init) (maxL := 1) (ret := none) (by decide) rfl ?_
  intro p e s m args below meth c s₁ B hml hv
  obtain ⟨rfl, hsz, hP, hK, hD0⟩ := hv
  have hx := B.exec
  have hb := B.bytes
  have hr := B.returns
  have hts := atoms_spec (ws := wsX0_init) B.pre
  have hown : s.vm.findClass RX0 = some m.cls := findClass_of_methodNamed B.named
  have hlocks := B.notSynchronized
  have hin : meth.name = "<init>" := (name_of_methodNamed B.named B.method).1
  subst hsz
  have hD := hD0.self (sz := s.heap.size)
  generalize hAe : va_A [(h0, .inr (0, [.null, .null, .null, .null, .null, .int 0, .long 0, .long 0, .long 0, .long 0, .int 0, .int 0, .int 0, .long 0]))] s.heap.size = A at hD ⊢
  have hA : ∀ q : Nat, s.heap.size ≤ q → A q := fun q h => by rw [← hAe]; exact Or.inr h
  have hS : va_S A s.heap s.heap [] := va_S.rf
  have hP : va_P D vwCl [(h0, .inr (0, [.null, .null, .null, .null, .null, .int 0, .long 0, .long 0, .long 0, .long 0, .int 0, .int 0, .int 0, .long 0]))] s.heap := hP
  have hl := lv_entry ([.ref h0]) (n := 1) (Nat.le_of_ble_eq_true rfl)
  rw [lg_entry_eq]
  generalize (lg_sl ([.ref h0]) ++ List.replicate (1 - (lg_sl ([.ref h0])).length) Slot.unset).toArray = ls at hl ⊢
  have hl : lv_has ls 1 [(0, .ref h0)] := hl
  refine lv_aload_n hx hb dX0_init_0 rfl (lv_at hl 0 rfl) ?_
  refine W.objInit hx hb hown (hts (.methodLink RX0 3 objectInit) (by decide +kernel)) (hts (.instanceMethod objectInit) (by decide +kernel)) (hts _ (List.mem_of_getElem? (i := 3) rfl)) rfl (by rw [hml]; exact hl.1) rfl dX0_init_1 (Nat.le_of_ble_eq_true rfl) (Nat.le_of_ble_eq_true rfl) ?_
  refine W.eq (g2 := F0 m 4 ls []) rfl ?_
  refine lv_aload_n hx hb dX0_init_4 rfl (lv_at hl 0 rfl) ?_
  refine lv_bipush (v := 10) hx hb dX0_init_5 (by decide) ?_
  have hby : 10 * componentBytes .int ≤ 536870912 := by decide +kernel
  have hce : 0 + 1 ≤ 5 := by decide
  have hsl : 0 + 10 ≤ 1060 := by decide
  have hNN : (10 : Int32).toNatClampNeg = 10 := by decide
  refine va_newa (atype := .int) (D := D) (cl := vwCl) (ty := .int) (N' := 10) (a0 := (10, .inl (fun _ => 0))) hx hb (hts (.arrayClass .int) (by decide +kernel)) rfl hK hP hD hS hA (fun cA => vp_cell_i cA 10 (fun _ => 0)) (by decide) hNN hby hce hsl dX0_init_7 (fun q7 k7 H hK hP hD hS => ?_)
  have hK : va_K D vwCl [(k7, .int)] s := hK
  have hP : va_P D vwCl [(h0, .inr (0, [.null, .null, .null, .null, .null, .int 0, .long 0, .long 0, .long 0, .long 0, .int 0, .int 0, .int 0, .long 0])), (q7, .inl (k7, 10, .inl (fun _ => 0)))] H := hP
  have hD : va_D A [(h0, .inr (0, [.null, .null, .null, .null, .null, .int 0, .long 0, .long 0, .long 0, .long 0, .int 0, .int 0, .int 0, .long 0])), (q7, .inl (k7, 10, .inl (fun _ => 0)))] := hD
  refine W.widen (k := 1) (n := 10) (by decide) (by decide) ?_
  refine va_putF (D := D) (ci := 0) (v := .ref q7) (ty := .array .int) (C := RX0) (T := TX0) (N := 14) hx hb hts (fun _ h => List.mem_cons_of_mem _ (List.mem_append_right _ h)) tyX0 tyX0_ok nmX0 hown hK hP hD hS 0 rfl rfl 0 (by decide) (hts (.fieldLink RX0 9 "PostDesk2" "made" "[I") (by decide +kernel)) (fun _ h9 => h9) rfl hin rfl (by decide +kernel) rfl rfl (Nat.le_of_ble_eq_true rfl) dX0_init_9 (fun H locs hP hD hS => ?_)
  have hP : va_P D vwCl [(h0, .inr (0, [.ref q7, .null, .null, .null, .null, .int 0, .long 0, .long 0, .long 0, .long 0, .int 0, .int 0, .int 0, .long 0])), (q7, .inl (k7, 10, .inl (fun _ => 0)))] H := hP
  have hD : va_D A [(h0, .inr (0, [.ref q7, .null, .null, .null, .null, .int 0, .long 0, .long 0, .long 0, .long 0, .int 0, .int 0, .int 0, .long 0])), (q7, .inl (k7, 10, .inl (fun _ => 0)))] := hD
  refine lv_aload_n hx hb dX0_init_12 rfl (lv_at hl 0 rfl) ?_
  refine lv_bipush (v := 10) hx hb dX0_init_13 (by decide) ?_
  have hby : 10 * componentBytes .int ≤ 536870912 := by decide +kernel
  have hce : 1 + 1 ≤ 5 := by decide
  have hsl : 10 + 10 ≤ 1060 := by decide
  have hNN : (10 : Int32).toNatClampNeg = 10 := by decide
  refine va_newa (atype := .int) (D := D) (cl := vwCl) (ty := .int) (N' := 10) (a0 := (10, .inl (fun _ => 0))) hx hb (hts (.arrayClass .int) (by decide +kernel)) rfl hK hP hD hS hA (fun cA => vp_cell_i cA 10 (fun _ => 0)) (by decide) hNN hby hce hsl dX0_init_15 (fun q15 k15 H hK hP hD hS => ?_)
  have hK : va_K D vwCl [(k7, .int), (k15, .int)] s := hK
  have hP : va_P D vwCl [(h0, .inr (0, [.ref q7, .null, .null, .null, .null, .int 0, .long 0, .long 0, .long 0, .long 0, .int 0, .int 0, .int 0, .long 0])), (q7, .inl (k7, 10, .inl (fun _ => 0))), (q15, .inl (k15, 10, .inl (fun _ => 0)))] H := hP
  have hD : va_D A [(h0, .inr (0, [.ref q7, .null, .null, .null, .null, .int 0, .long 0, .long 0, .long 0, .long 0, .int 0, .int 0, .int 0, .long 0])), (q7, .inl (k7, 10, .inl (fun _ => 0))), (q15, .inl (k15, 10, .inl (fun _ => 0)))] := hD
  refine W.widen (k := 2) (n := 20) (by decide) (by decide) ?_
  refine va_putF (D := D) (ci := 0) (v := .ref q15) (ty := .array .int) (C := RX0) (T := TX0) (N := 14) hx hb hts (fun _ h => List.mem_cons_of_mem _ (List.mem_append_right _ h)) tyX0 tyX0_ok nmX0 hown hK hP hD hS 0 rfl rfl 1 (by decide) (hts (.fieldLink RX0 13 "PostDesk2" "presentOfKind" "[I") (by decide +kernel)) (fun _ h9 => h9) rfl hin rfl (by decide +kernel) rfl rfl (Nat.le_of_ble_eq_true rfl) dX0_init_17 (fun H locs hP hD hS => ?_)
  have hP : va_P D vwCl [(h0, .inr (0, [.ref q7, .ref q15, .null, .null, .null, .int 0, .long 0, .long 0, .long 0, .long 0, .int 0, .int 0, .int 0, .long 0])), (q7, .inl (k7, 10, .inl (fun _ => 0))), (q15, .inl (k15, 10, .inl (fun _ => 0)))] H := hP
  have hD : va_D A [(h0, .inr (0, [.ref q7, .ref q15, .null, .null, .null, .int 0, .long 0, .long 0, .long 0, .long 0, .int 0, .int 0, .int 0, .long 0])), (q7, .inl (k7, 10, .inl (fun _ => 0))), (q15, .inl (k15, 10, .inl (fun _ => 0)))] := hD
  refine lv_aload_n hx hb dX0_init_20 rfl (lv_at hl 0 rfl) ?_
  refine lv_sipush (v := 1000) hx hb dX0_init_21 (by decide) ?_
  have hby : 1000 * componentBytes .boolean ≤ 536870912 := by decide +kernel
  have hce : 2 + 1 ≤ 5 := by decide
  have hsl : 20 + 1000 ≤ 1060 := by decide
  have hNN : (1000 : Int32).toNatClampNeg = 1000 := by decide
  refine va_newa (atype := .boolean) (D := D) (cl := vwCl) (ty := .boolean) (N' := 1000) (a0 := (1000, .inl (fun _ => 0))) hx hb (hts (.arrayClass .boolean) (by decide +kernel)) rfl hK hP hD hS hA (fun cA => vp_cell_i cA 1000 (fun _ => 0)) (by decide) hNN hby hce hsl dX0_init_24 (fun q24 k24 H hK hP hD hS => ?_)
  have hK : va_K D vwCl [(k7, .int), (k15, .int), (k24, .boolean)] s := hK
  have hP : va_P D vwCl [(h0, .inr (0, [.ref q7, .ref q15, .null, .null, .null, .int 0, .long 0, .long 0, .long 0, .long 0, .int 0, .int 0, .int 0, .long 0])), (q7, .inl (k7, 10, .inl (fun _ => 0))), (q15, .inl (k15, 10, .inl (fun _ => 0))), (q24, .inl (k24, 1000, .inl (fun _ => 0)))] H := hP
  have hD : va_D A [(h0, .inr (0, [.ref q7, .ref q15, .null, .null, .null, .int 0, .long 0, .long 0, .long 0, .long 0, .int 0, .int 0, .int 0, .long 0])), (q7, .inl (k7, 10, .inl (fun _ => 0))), (q15, .inl (k15, 10, .inl (fun _ => 0))), (q24, .inl (k24, 1000, .inl (fun _ => 0)))] := hD
  refine W.widen (k := 3) (n := 1020) (by decide) (by decide) ?_
  refine va_putF (D := D) (ci := 0) (v := .ref q24) (ty := .array .boolean) (C := RX0) (T := TX0) (N := 14) hx hb hts (fun _ h => List.mem_cons_of_mem _ (List.mem_append_right _ h)) tyX0 tyX0_ok nmX0 hown hK hP hD hS 0 rfl rfl 2 (by decide) (hts (.fieldLink RX0 16 "PostDesk2" "present" "[Z") (by decide +kernel)) (fun _ h9 => h9) rfl hin rfl (by decide +kernel) rfl rfl (Nat.le_of_ble_eq_true rfl) dX0_init_26 (fun H locs hP hD hS => ?_)
  have hP : va_P D vwCl [(h0, .inr (0, [.ref q7, .ref q15, .ref q24, .null, .null, .int 0, .long 0, .long 0, .long 0, .long 0, .int 0, .int 0, .int 0, .long 0])), (q7, .inl (k7, 10, .inl (fun _ => 0))), (q15, .inl (k15, 10, .inl (fun _ => 0))), (q24, .inl (k24, 1000, .inl (fun _ => 0)))] H := hP
  have hD : va_D A [(h0, .inr (0, [.ref q7, .ref q15, .ref q24, .null, .null, .int 0, .long 0, .long 0, .long 0, .long 0, .int 0, .int 0, .int 0, .long 0])), (q7, .inl (k7, 10, .inl (fun _ => 0))), (q15, .inl (k15, 10, .inl (fun _ => 0))), (q24, .inl (k24, 1000, .inl (fun _ => 0)))] := hD
  refine lv_aload_n hx hb dX0_init_29 rfl (lv_at hl 0 rfl) ?_
  refine lv_bipush (v := 20) hx hb dX0_init_30 (by decide) ?_
  have hby : 20 * componentBytes .long ≤ 536870912 := by decide +kernel
  have hce : 3 + 1 ≤ 5 := by decide
  have hsl : 1020 + 20 ≤ 1060 := by decide
  have hNN : (20 : Int32).toNatClampNeg = 20 := by decide
  refine va_newa (atype := .long) (D := D) (cl := vwCl) (ty := .long) (N' := 20) (a0 := (20, .inr (.inl (fun _ => 0)))) hx hb (hts (.arrayClass .long) (by decide +kernel)) rfl hK hP hD hS hA (fun cA => vp_cell_l cA 20 (fun _ => 0)) (by decide) hNN hby hce hsl dX0_init_32 (fun q32 k32 H hK hP hD hS => ?_)
  have hK : va_K D vwCl [(k7, .int), (k15, .int), (k24, .boolean), (k32, .long)] s := hK
  have hP : va_P D vwCl [(h0, .inr (0, [.ref q7, .ref q15, .ref q24, .null, .null, .int 0, .long 0, .long 0, .long 0, .long 0, .int 0, .int 0, .int 0, .long 0])), (q7, .inl (k7, 10, .inl (fun _ => 0))), (q15, .inl (k15, 10, .inl (fun _ => 0))), (q24, .inl (k24, 1000, .inl (fun _ => 0))), (q32, .inl (k32, 20, .inr (.inl (fun _ => 0))))] H := hP
  have hD : va_D A [(h0, .inr (0, [.ref q7, .ref q15, .ref q24, .null, .null, .int 0, .long 0, .long 0, .long 0, .long 0, .int 0, .int 0, .int 0, .long 0])), (q7, .inl (k7, 10, .inl (fun _ => 0))), (q15, .inl (k15, 10, .inl (fun _ => 0))), (q24, .inl (k24, 1000, .inl (fun _ => 0))), (q32, .inl (k32, 20, .inr (.inl (fun _ => 0))))] := hD
  refine W.widen (k := 4) (n := 1040) (by decide) (by decide) ?_
  refine va_putF (D := D) (ci := 0) (v := .ref q32) (ty := .array .long) (C := RX0) (T := TX0) (N := 14) hx hb hts (fun _ h => List.mem_cons_of_mem _ (List.mem_append_right _ h)) tyX0 tyX0_ok nmX0 hown hK hP hD hS 0 rfl rfl 3 (by decide) (hts (.fieldLink RX0 20 "PostDesk2" "values" "[J") (by decide +kernel)) (fun _ h9 => h9) rfl hin rfl (by decide +kernel) rfl rfl (Nat.le_of_ble_eq_true rfl) dX0_init_34 (fun H locs hP hD hS => ?_)
  have hP : va_P D vwCl [(h0, .inr (0, [.ref q7, .ref q15, .ref q24, .ref q32, .null, .int 0, .long 0, .long 0, .long 0, .long 0, .int 0, .int 0, .int 0, .long 0])), (q7, .inl (k7, 10, .inl (fun _ => 0))), (q15, .inl (k15, 10, .inl (fun _ => 0))), (q24, .inl (k24, 1000, .inl (fun _ => 0))), (q32, .inl (k32, 20, .inr (.inl (fun _ => 0))))] H := hP
  have hD : va_D A [(h0, .inr (0, [.ref q7, .ref q15, .ref q24, .ref q32, .null, .int 0, .long 0, .long 0, .long 0, .long 0, .int 0, .int 0, .int 0, .long 0])), (q7, .inl (k7, 10, .inl (fun _ => 0))), (q15, .inl (k15, 10, .inl (fun _ => 0))), (q24, .inl (k24, 1000, .inl (fun _ => 0))), (q32, .inl (k32, 20, .inr (.inl (fun _ => 0))))] := hD
  refine lv_aload_n hx hb dX0_init_37 rfl (lv_at hl 0 rfl) ?_
  refine lv_bipush (v := 20) hx hb dX0_init_38 (by decide) ?_
  have hby : 20 * componentBytes .int ≤ 536870912 := by decide +kernel
  have hce : 4 + 1 ≤ 5 := by decide
  have hsl : 1040 + 20 ≤ 1060 := by decide
  have hNN : (20 : Int32).toNatClampNeg = 20 := by decide
  refine va_newa (atype := .int) (D := D) (cl := vwCl) (ty := .int) (N' := 20) (a0 := (20, .inl (fun _ => 0))) hx hb (hts (.arrayClass .int) (by decide +kernel)) rfl hK hP hD hS hA (fun cA => vp_cell_i cA 20 (fun _ => 0)) (by decide) hNN hby hce hsl dX0_init_40 (fun q40 k40 H hK hP hD hS => ?_)
  have hK : va_K D vwCl [(k7, .int), (k15, .int), (k24, .boolean), (k32, .long), (k40, .int)] s := hK
  have hP : va_P D vwCl [(h0, .inr (0, [.ref q7, .ref q15, .ref q24, .ref q32, .null, .int 0, .long 0, .long 0, .long 0, .long 0, .int 0, .int 0, .int 0, .long 0])), (q7, .inl (k7, 10, .inl (fun _ => 0))), (q15, .inl (k15, 10, .inl (fun _ => 0))), (q24, .inl (k24, 1000, .inl (fun _ => 0))), (q32, .inl (k32, 20, .inr (.inl (fun _ => 0)))), (q40, .inl (k40, 20, .inl (fun _ => 0)))] H := hP
  have hD : va_D A [(h0, .inr (0, [.ref q7, .ref q15, .ref q24, .ref q32, .null, .int 0, .long 0, .long 0, .long 0, .long 0, .int 0, .int 0, .int 0, .long 0])), (q7, .inl (k7, 10, .inl (fun _ => 0))), (q15, .inl (k15, 10, .inl (fun _ => 0))), (q24, .inl (k24, 1000, .inl (fun _ => 0))), (q32, .inl (k32, 20, .inr (.inl (fun _ => 0)))), (q40, .inl (k40, 20, .inl (fun _ => 0)))] := hD
  refine W.widen (k := 5) (n := 1060) (by decide) (by decide) ?_
  refine va_putF (D := D) (ci := 0) (v := .ref q40) (ty := .array .int) (C := RX0) (T := TX0) (N := 14) hx hb hts (fun _ h => List.mem_cons_of_mem _ (List.mem_append_right _ h)) tyX0 tyX0_ok nmX0 hown hK hP hD hS 0 rfl rfl 4 (by decide) (hts (.fieldLink RX0 24 "PostDesk2" "failures" "[I") (by decide +kernel)) (fun _ h9 => h9) rfl hin rfl (by decide +kernel) rfl rfl (Nat.le_of_ble_eq_true rfl) dX0_init_42 (fun H locs hP hD hS => ?_)
  have hP : va_P D vwCl [(h0, .inr (0, [.ref q7, .ref q15, .ref q24, .ref q32, .ref q40, .int 0, .long 0, .long 0, .long 0, .long 0, .int 0, .int 0, .int 0, .long 0])), (q7, .inl (k7, 10, .inl (fun _ => 0))), (q15, .inl (k15, 10, .inl (fun _ => 0))), (q24, .inl (k24, 1000, .inl (fun _ => 0))), (q32, .inl (k32, 20, .inr (.inl (fun _ => 0)))), (q40, .inl (k40, 20, .inl (fun _ => 0)))] H := hP
  have hD : va_D A [(h0, .inr (0, [.ref q7, .ref q15, .ref q24, .ref q32, .ref q40, .int 0, .long 0, .long 0, .long 0, .long 0, .int 0, .int 0, .int 0, .long 0])), (q7, .inl (k7, 10, .inl (fun _ => 0))), (q15, .inl (k15, 10, .inl (fun _ => 0))), (q24, .inl (k24, 1000, .inl (fun _ => 0))), (q32, .inl (k32, 20, .inr (.inl (fun _ => 0)))), (q40, .inl (k40, 20, .inl (fun _ => 0)))] := hD
  refine lv_aload_n hx hb dX0_init_45 rfl (lv_at hl 0 rfl) ?_
  refine lv_iconst (v := 0) hx hb dX0_init_46 (by decide) ?_
  refine va_put (D := D) (ci := 0) (v := .int 0) (ty := .int) (C := RX0) (T := TX0) (N := 14) hx hb hts (fun _ h => List.mem_cons_of_mem _ (List.mem_append_right _ h)) tyX0 tyX0_ok nmX0 hown hK hP hD hS 0 rfl rfl 5 (by decide) (hts (.fieldLink RX0 27 "PostDesk2" "collected" "I") (by decide +kernel)) (fun _ h9 => h9) rfl (by decide +kernel) rfl rfl (Nat.le_of_ble_eq_true rfl) dX0_init_47 (fun H locs hP hD hS => ?_)
  have hP : va_P D vwCl [(h0, .inr (0, [.ref q7, .ref q15, .ref q24, .ref q32, .ref q40, .int 0, .long 0, .long 0, .long 0, .long 0, .int 0, .int 0, .int 0, .long 0])), (q7, .inl (k7, 10, .inl (fun _ => 0))), (q15, .inl (k15, 10, .inl (fun _ => 0))), (q24, .inl (k24, 1000, .inl (fun _ => 0))), (q32, .inl (k32, 20, .inr (.inl (fun _ => 0)))), (q40, .inl (k40, 20, .inl (fun _ => 0)))] H := hP
  have hD : va_D A [(h0, .inr (0, [.ref q7, .ref q15, .ref q24, .ref q32, .ref q40, .int 0, .long 0, .long 0, .long 0, .long 0, .int 0, .int 0, .int 0, .long 0])), (q7, .inl (k7, 10, .inl (fun _ => 0))), (q15, .inl (k15, 10, .inl (fun _ => 0))), (q24, .inl (k24, 1000, .inl (fun _ => 0))), (q32, .inl (k32, 20, .inr (.inl (fun _ => 0)))), (q40, .inl (k40, 20, .inl (fun _ => 0)))] := hD
  refine lv_aload_n hx hb dX0_init_50 rfl (lv_at hl 0 rfl) ?_
  refine lv_lconst (v := 0) hx hb dX0_init_51 (by decide) ?_
  refine va_put (D := D) (ci := 0) (v := .long 0) (ty := .long) (C := RX0) (T := TX0) (N := 14) hx hb hts (fun _ h => List.mem_cons_of_mem _ (List.mem_append_right _ h)) tyX0 tyX0_ok nmX0 hown hK hP hD hS 0 rfl rfl 6 (by decide) (hts (.fieldLink RX0 31 "PostDesk2" "digest" "J") (by decide +kernel)) (fun _ h9 => h9) rfl (by decide +kernel) rfl rfl (Nat.le_of_ble_eq_true rfl) dX0_init_52 (fun H locs hP hD hS => ?_)
  have hP : va_P D vwCl [(h0, .inr (0, [.ref q7, .ref q15, .ref q24, .ref q32, .ref q40, .int 0, .long 0, .long 0, .long 0, .long 0, .int 0, .int 0, .int 0, .long 0])), (q7, .inl (k7, 10, .inl (fun _ => 0))), (q15, .inl (k15, 10, .inl (fun _ => 0))), (q24, .inl (k24, 1000, .inl (fun _ => 0))), (q32, .inl (k32, 20, .inr (.inl (fun _ => 0)))), (q40, .inl (k40, 20, .inl (fun _ => 0)))] H := hP
  have hD : va_D A [(h0, .inr (0, [.ref q7, .ref q15, .ref q24, .ref q32, .ref q40, .int 0, .long 0, .long 0, .long 0, .long 0, .int 0, .int 0, .int 0, .long 0])), (q7, .inl (k7, 10, .inl (fun _ => 0))), (q15, .inl (k15, 10, .inl (fun _ => 0))), (q24, .inl (k24, 1000, .inl (fun _ => 0))), (q32, .inl (k32, 20, .inr (.inl (fun _ => 0)))), (q40, .inl (k40, 20, .inl (fun _ => 0)))] := hD
  refine lv_aload_n hx hb dX0_init_55 rfl (lv_at hl 0 rfl) ?_
  refine lv_lconst (v := 0) hx hb dX0_init_56 (by decide) ?_
  refine va_put (D := D) (ci := 0) (v := .long 0) (ty := .long) (C := RX0) (T := TX0) (N := 14) hx hb hts (fun _ h => List.mem_cons_of_mem _ (List.mem_append_right _ h)) tyX0 tyX0_ok nmX0 hown hK hP hD hS 0 rfl rfl 7 (by decide) (hts (.fieldLink RX0 35 "PostDesk2" "answeredCalls" "J") (by decide +kernel)) (fun _ h9 => h9) rfl (by decide +kernel) rfl rfl (Nat.le_of_ble_eq_true rfl) dX0_init_57 (fun H locs hP hD hS => ?_)
  have hP : va_P D vwCl [(h0, .inr (0, [.ref q7, .ref q15, .ref q24, .ref q32, .ref q40, .int 0, .long 0, .long 0, .long 0, .long 0, .int 0, .int 0, .int 0, .long 0])), (q7, .inl (k7, 10, .inl (fun _ => 0))), (q15, .inl (k15, 10, .inl (fun _ => 0))), (q24, .inl (k24, 1000, .inl (fun _ => 0))), (q32, .inl (k32, 20, .inr (.inl (fun _ => 0)))), (q40, .inl (k40, 20, .inl (fun _ => 0)))] H := hP
  have hD : va_D A [(h0, .inr (0, [.ref q7, .ref q15, .ref q24, .ref q32, .ref q40, .int 0, .long 0, .long 0, .long 0, .long 0, .int 0, .int 0, .int 0, .long 0])), (q7, .inl (k7, 10, .inl (fun _ => 0))), (q15, .inl (k15, 10, .inl (fun _ => 0))), (q24, .inl (k24, 1000, .inl (fun _ => 0))), (q32, .inl (k32, 20, .inr (.inl (fun _ => 0)))), (q40, .inl (k40, 20, .inl (fun _ => 0)))] := hD
  refine lv_aload_n hx hb dX0_init_60 rfl (lv_at hl 0 rfl) ?_
  refine lv_lconst (v := 0) hx hb dX0_init_61 (by decide) ?_
  refine va_put (D := D) (ci := 0) (v := .long 0) (ty := .long) (C := RX0) (T := TX0) (N := 14) hx hb hts (fun _ h => List.mem_cons_of_mem _ (List.mem_append_right _ h)) tyX0 tyX0_ok nmX0 hown hK hP hD hS 0 rfl rfl 8 (by decide) (hts (.fieldLink RX0 38 "PostDesk2" "refusedCalls" "J") (by decide +kernel)) (fun _ h9 => h9) rfl (by decide +kernel) rfl rfl (Nat.le_of_ble_eq_true rfl) dX0_init_62 (fun H locs hP hD hS => ?_)
  have hP : va_P D vwCl [(h0, .inr (0, [.ref q7, .ref q15, .ref q24, .ref q32, .ref q40, .int 0, .long 0, .long 0, .long 0, .long 0, .int 0, .int 0, .int 0, .long 0])), (q7, .inl (k7, 10, .inl (fun _ => 0))), (q15, .inl (k15, 10, .inl (fun _ => 0))), (q24, .inl (k24, 1000, .inl (fun _ => 0))), (q32, .inl (k32, 20, .inr (.inl (fun _ => 0)))), (q40, .inl (k40, 20, .inl (fun _ => 0)))] H := hP
  have hD : va_D A [(h0, .inr (0, [.ref q7, .ref q15, .ref q24, .ref q32, .ref q40, .int 0, .long 0, .long 0, .long 0, .long 0, .int 0, .int 0, .int 0, .long 0])), (q7, .inl (k7, 10, .inl (fun _ => 0))), (q15, .inl (k15, 10, .inl (fun _ => 0))), (q24, .inl (k24, 1000, .inl (fun _ => 0))), (q32, .inl (k32, 20, .inr (.inl (fun _ => 0)))), (q40, .inl (k40, 20, .inl (fun _ => 0)))] := hD
  refine lv_aload_n hx hb dX0_init_65 rfl (lv_at hl 0 rfl) ?_
  refine lv_lconst (v := 0) hx hb dX0_init_66 (by decide) ?_
  refine va_put (D := D) (ci := 0) (v := .long 0) (ty := .long) (C := RX0) (T := TX0) (N := 14) hx hb hts (fun _ h => List.mem_cons_of_mem _ (List.mem_append_right _ h)) tyX0 tyX0_ok nmX0 hown hK hP hD hS 0 rfl rfl 9 (by decide) (hts (.fieldLink RX0 41 "PostDesk2" "failedCalls" "J") (by decide +kernel)) (fun _ h9 => h9) rfl (by decide +kernel) rfl rfl (Nat.le_of_ble_eq_true rfl) dX0_init_67 (fun H locs hP hD hS => ?_)
  have hP : va_P D vwCl [(h0, .inr (0, [.ref q7, .ref q15, .ref q24, .ref q32, .ref q40, .int 0, .long 0, .long 0, .long 0, .long 0, .int 0, .int 0, .int 0, .long 0])), (q7, .inl (k7, 10, .inl (fun _ => 0))), (q15, .inl (k15, 10, .inl (fun _ => 0))), (q24, .inl (k24, 1000, .inl (fun _ => 0))), (q32, .inl (k32, 20, .inr (.inl (fun _ => 0)))), (q40, .inl (k40, 20, .inl (fun _ => 0)))] H := hP
  have hD : va_D A [(h0, .inr (0, [.ref q7, .ref q15, .ref q24, .ref q32, .ref q40, .int 0, .long 0, .long 0, .long 0, .long 0, .int 0, .int 0, .int 0, .long 0])), (q7, .inl (k7, 10, .inl (fun _ => 0))), (q15, .inl (k15, 10, .inl (fun _ => 0))), (q24, .inl (k24, 1000, .inl (fun _ => 0))), (q32, .inl (k32, 20, .inr (.inl (fun _ => 0)))), (q40, .inl (k40, 20, .inl (fun _ => 0)))] := hD
  refine lv_aload_n hx hb dX0_init_70 rfl (lv_at hl 0 rfl) ?_
  refine lv_iconst (v := 0) hx hb dX0_init_71 (by decide) ?_
  refine va_put (D := D) (ci := 0) (v := .int 0) (ty := .int) (C := RX0) (T := TX0) (N := 14) hx hb hts (fun _ h => List.mem_cons_of_mem _ (List.mem_append_right _ h)) tyX0 tyX0_ok nmX0 hown hK hP hD hS 0 rfl rfl 10 (by decide) (hts (.fieldLink RX0 44 "PostDesk2" "latestFailure" "I") (by decide +kernel)) (fun _ h9 => h9) rfl (by decide +kernel) rfl rfl (Nat.le_of_ble_eq_true rfl) dX0_init_72 (fun H locs hP hD hS => ?_)
  have hP : va_P D vwCl [(h0, .inr (0, [.ref q7, .ref q15, .ref q24, .ref q32, .ref q40, .int 0, .long 0, .long 0, .long 0, .long 0, .int 0, .int 0, .int 0, .long 0])), (q7, .inl (k7, 10, .inl (fun _ => 0))), (q15, .inl (k15, 10, .inl (fun _ => 0))), (q24, .inl (k24, 1000, .inl (fun _ => 0))), (q32, .inl (k32, 20, .inr (.inl (fun _ => 0)))), (q40, .inl (k40, 20, .inl (fun _ => 0)))] H := hP
  have hD : va_D A [(h0, .inr (0, [.ref q7, .ref q15, .ref q24, .ref q32, .ref q40, .int 0, .long 0, .long 0, .long 0, .long 0, .int 0, .int 0, .int 0, .long 0])), (q7, .inl (k7, 10, .inl (fun _ => 0))), (q15, .inl (k15, 10, .inl (fun _ => 0))), (q24, .inl (k24, 1000, .inl (fun _ => 0))), (q32, .inl (k32, 20, .inr (.inl (fun _ => 0)))), (q40, .inl (k40, 20, .inl (fun _ => 0)))] := hD
  refine lv_aload_n hx hb dX0_init_75 rfl (lv_at hl 0 rfl) ?_
  refine lv_iconst (v := 0) hx hb dX0_init_76 (by decide) ?_
  refine va_put (D := D) (ci := 0) (v := .int 0) (ty := .int) (C := RX0) (T := TX0) (N := 14) hx hb hts (fun _ h => List.mem_cons_of_mem _ (List.mem_append_right _ h)) tyX0 tyX0_ok nmX0 hown hK hP hD hS 0 rfl rfl 11 (by decide) (hts (.fieldLink RX0 47 "PostDesk2" "latestNumber" "I") (by decide +kernel)) (fun _ h9 => h9) rfl (by decide +kernel) rfl rfl (Nat.le_of_ble_eq_true rfl) dX0_init_77 (fun H locs hP hD hS => ?_)
  have hP : va_P D vwCl [(h0, .inr (0, [.ref q7, .ref q15, .ref q24, .ref q32, .ref q40, .int 0, .long 0, .long 0, .long 0, .long 0, .int 0, .int 0, .int 0, .long 0])), (q7, .inl (k7, 10, .inl (fun _ => 0))), (q15, .inl (k15, 10, .inl (fun _ => 0))), (q24, .inl (k24, 1000, .inl (fun _ => 0))), (q32, .inl (k32, 20, .inr (.inl (fun _ => 0)))), (q40, .inl (k40, 20, .inl (fun _ => 0)))] H := hP
  have hD : va_D A [(h0, .inr (0, [.ref q7, .ref q15, .ref q24, .ref q32, .ref q40, .int 0, .long 0, .long 0, .long 0, .long 0, .int 0, .int 0, .int 0, .long 0])), (q7, .inl (k7, 10, .inl (fun _ => 0))), (q15, .inl (k15, 10, .inl (fun _ => 0))), (q24, .inl (k24, 1000, .inl (fun _ => 0))), (q32, .inl (k32, 20, .inr (.inl (fun _ => 0)))), (q40, .inl (k40, 20, .inl (fun _ => 0)))] := hD
  refine lv_aload_n hx hb dX0_init_80 rfl (lv_at hl 0 rfl) ?_
  refine lv_iconst (v := 0) hx hb dX0_init_81 (by decide) ?_
  refine va_put (D := D) (ci := 0) (v := .int 0) (ty := .int) (C := RX0) (T := TX0) (N := 14) hx hb hts (fun _ h => List.mem_cons_of_mem _ (List.mem_append_right _ h)) tyX0 tyX0_ok nmX0 hown hK hP hD hS 0 rfl rfl 12 (by decide) (hts (.fieldLink RX0 50 "PostDesk2" "latestCall" "I") (by decide +kernel)) (fun _ h9 => h9) rfl (by decide +kernel) rfl rfl (Nat.le_of_ble_eq_true rfl) dX0_init_82 (fun H locs hP hD hS => ?_)
  have hP : va_P D vwCl [(h0, .inr (0, [.ref q7, .ref q15, .ref q24, .ref q32, .ref q40, .int 0, .long 0, .long 0, .long 0, .long 0, .int 0, .int 0, .int 0, .long 0])), (q7, .inl (k7, 10, .inl (fun _ => 0))), (q15, .inl (k15, 10, .inl (fun _ => 0))), (q24, .inl (k24, 1000, .inl (fun _ => 0))), (q32, .inl (k32, 20, .inr (.inl (fun _ => 0)))), (q40, .inl (k40, 20, .inl (fun _ => 0)))] H := hP
  have hD : va_D A [(h0, .inr (0, [.ref q7, .ref q15, .ref q24, .ref q32, .ref q40, .int 0, .long 0, .long 0, .long 0, .long 0, .int 0, .int 0, .int 0, .long 0])), (q7, .inl (k7, 10, .inl (fun _ => 0))), (q15, .inl (k15, 10, .inl (fun _ => 0))), (q24, .inl (k24, 1000, .inl (fun _ => 0))), (q32, .inl (k32, 20, .inr (.inl (fun _ => 0)))), (q40, .inl (k40, 20, .inl (fun _ => 0)))] := hD
  refine lv_aload_n hx hb dX0_init_85 rfl (lv_at hl 0 rfl) ?_
  refine lv_ldc2 (v := 7) hx hb hown (hts (.constantLong RX0 53 7) (by decide +kernel)) dX0_init_86 ?_
  refine va_put (D := D) (ci := 0) (v := .long 7) (ty := .long) (C := RX0) (T := TX0) (N := 14) hx hb hts (fun _ h => List.mem_cons_of_mem _ (List.mem_append_right _ h)) tyX0 tyX0_ok nmX0 hown hK hP hD hS 0 rfl rfl 13 (by decide) (hts (.fieldLink RX0 55 "PostDesk2" "logged" "J") (by decide +kernel)) (fun _ h9 => h9) rfl (by decide +kernel) rfl rfl (Nat.le_of_ble_eq_true rfl) dX0_init_89 (fun H locs hP hD hS => ?_)
  have hP : va_P D vwCl [(h0, .inr (0, [.ref q7, .ref q15, .ref q24, .ref q32, .ref q40, .int 0, .long 0, .long 0, .long 0, .long 0, .int 0, .int 0, .int 0, .long 7])), (q7, .inl (k7, 10, .inl (fun _ => 0))), (q15, .inl (k15, 10, .inl (fun _ => 0))), (q24, .inl (k24, 1000, .inl (fun _ => 0))), (q32, .inl (k32, 20, .inr (.inl (fun _ => 0)))), (q40, .inl (k40, 20, .inl (fun _ => 0)))] H := hP
  have hD : va_D A [(h0, .inr (0, [.ref q7, .ref q15, .ref q24, .ref q32, .ref q40, .int 0, .long 0, .long 0, .long 0, .long 0, .int 0, .int 0, .int 0, .long 7])), (q7, .inl (k7, 10, .inl (fun _ => 0))), (q15, .inl (k15, 10, .inl (fun _ => 0))), (q24, .inl (k24, 1000, .inl (fun _ => 0))), (q32, .inl (k32, 20, .inr (.inl (fun _ => 0)))), (q40, .inl (k40, 20, .inl (fun _ => 0)))] := hD
  exact W.vret hx hb hr (fun t ht hW => ⟨⟨x_new, rfl, rfl, (fun k => match k with | 0 => h0 | 1 => q7 | 2 => q15 | 3 => q24 | 4 => q32 | 5 => q40 | _ => 0), (fun k => match k with | 1 => k7 | 2 => k15 | 3 => k24 | 4 => k32 | 5 => k40 | _ => k7), rfl, by rw [ht]; exact hP, va_K.moved hW.alike hK, hD⟩, hS.F ht⟩) hS.2.2 dX0_init_92
