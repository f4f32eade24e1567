def y_new : YS := ((fun _ => 0), 0, (fun _ => 0), (fun _ => 0), (fun _ => 0), (fun _ => 0), 0, 0, 0, 0, 0, 0, 7)
set_option maxHeartbeats 4000000 in
set_option maxRecDepth 100000 in
theorem yk_init (l : Launch) (D : va_G) (h0 sz : Nat) : Met l yX1_init wsX1_init ({ frames := 1, cells := 5, slots := 1090, locals := 12 }) (va_Pc [.ref h0] (fun U => U.heap.size = sz ∧ va_P D vwCl [(h0, .inr (1, [.null, .int 0, .null, .null, .null, .null, .long 0, .long 0, .long 0, .int 0, .int 0, .int 0, .long 0]))] U.heap ∧ va_K D vwCl [] U ∧ va_D (fun _ => True) [(h0, .inr (1, [.null, .int 0, .null, .null, .null, .null, .long 0, .long 0, .long 0, .int 0, .int 0, .int 0, .long 0]))])) (va_Qv (fun u : YS => u = y_new) (fun u t => ∃ (ad : Nat → Nat) (cd : Nat → ClassId), ad 0 = h0 ∧ yat D ad cd (va_A [(h0, .inr (1, [.null, .int 0, .null, .null, .null, .null, .long 0, .long 0, .long 0, .int 0, .int 0, .int 0, .long 0]))] sz) u t) (va_A [(h0, .inr (1, [.null, .int 0, .null, .null, .null, .null, .long 0, .long 0, .long 0, .int 0, .int 0, .int 0, .long 0]))] sz)) 5 1090 (va_A [(h0, .inr (1, [.null, .int 0, .null, .null, .null, .null, .long 0, .long 0, .long 0, .int 0, .int 0, .int 0, .long 0]))] sz) := by
  refine Met.ofW (cc := cX1_init) (maxL := 1) (ret := none) (by decide) rfl ?_
  intro p e s m args below meth c s₁ B hml hv
  obtain ⟨rfl, hsz, hP, hK, hD0⟩ := hv
  have hx := B.exec
  have hb := B.bytes
  have hr := B.returns
  have hts := atoms_spec (ws := wsX1_init) B.pre
  have hown : s.vm.findClass RX1 = some m.cls := findClass_of_methodNamed B.named
  have hlocks := B.notSynchronized
  have hin : meth.name = "<init>" := (name_of_methodNamed B.named B.method).1
  subst hsz
  have hD := hD0.self (sz := s.heap.size)
  generalize hAe : va_A [(h0, .inr (1, [.null, .int 0, .null, .null, .null, .null, .long 0, .long 0, .long 0, .int 0, .int 0, .int 0, .long 0]))] s.heap.size = A at hD ⊢
  have hA : ∀ q : Nat, s.heap.size ≤ q → A q := fun q h => by rw [← hAe]; exact Or.inr h
  have hS : va_S A s.heap s.heap [] := va_S.rf
  have hP : va_P D vwCl [(h0, .inr (1, [.null, .int 0, .null, .null, .null, .null, .long 0, .long 0, .long 0, .int 0, .int 0, .int 0, .long 0]))] s.heap := hP
  have hl := lv_entry ([.ref h0]) (n := 1) (Nat.le_of_ble_eq_true rfl)
  rw [lg_entry_eq]
  generalize (lg_sl ([.ref h0]) ++ List.replicate (1 - (lg_sl ([.ref h0])).length) Slot.unset).toArray = ls at hl ⊢
  have hl : lv_has ls 1 [(0, .ref h0)] := hl
  refine lv_aload_n hx hb dX1_init_0 rfl (lv_at hl 0 rfl) ?_
  refine W.objInit hx hb hown (hts (.methodLink RX1 1 objectInit) (by decide +kernel)) (hts (.instanceMethod objectInit) (by decide +kernel)) (hts _ (List.mem_of_getElem? (i := 3) rfl)) rfl (by rw [hml]; exact hl.1) rfl dX1_init_1 (Nat.le_of_ble_eq_true rfl) (Nat.le_of_ble_eq_true rfl) ?_
  refine W.eq (g2 := F0 m 4 ls []) rfl ?_
  refine lv_aload_n hx hb dX1_init_4 rfl (lv_at hl 0 rfl) ?_
  refine lv_bipush (v := 40) hx hb dX1_init_5 (by decide) ?_
  have hby : 40 * componentBytes .long ≤ 536870912 := by decide +kernel
  have hce : 0 + 1 ≤ 5 := by decide
  have hsl : 0 + 40 ≤ 1090 := by decide
  have hNN : (40 : Int32).toNatClampNeg = 40 := by decide
  refine va_newa (atype := .long) (D := D) (cl := vwCl) (ty := .long) (N' := 40) (a0 := (40, .inr (.inl (fun _ => 0)))) hx hb (hts (.arrayClass .long) (by decide +kernel)) rfl hK hP hD hS hA (fun cA => vp_cell_l cA 40 (fun _ => 0)) (by decide) hNN hby hce hsl dX1_init_7 (fun q7 k7 H hK hP hD hS => ?_)
  have hK : va_K D vwCl [(k7, .long)] s := hK
  have hP : va_P D vwCl [(h0, .inr (1, [.null, .int 0, .null, .null, .null, .null, .long 0, .long 0, .long 0, .int 0, .int 0, .int 0, .long 0])), (q7, .inl (k7, 40, .inr (.inl (fun _ => 0))))] H := hP
  have hD : va_D A [(h0, .inr (1, [.null, .int 0, .null, .null, .null, .null, .long 0, .long 0, .long 0, .int 0, .int 0, .int 0, .long 0])), (q7, .inl (k7, 40, .inr (.inl (fun _ => 0))))] := hD
  refine W.widen (k := 1) (n := 40) (by decide) (by decide) ?_
  refine va_putF (D := D) (ci := 1) (v := .ref q7) (ty := .array .long) (C := RX1) (T := TX1) (N := 13) hx hb hts (fun _ h => List.mem_cons_of_mem _ (List.mem_append_right _ h)) tyX1 tyX1_ok nmX1 hown hK hP hD hS 0 rfl rfl 0 (by decide) (hts (.fieldLink RX1 7 "PostDesk2Model" "collected" "[J") (by decide +kernel)) (fun _ h9 => h9) rfl hin rfl (by decide +kernel) rfl rfl (Nat.le_of_ble_eq_true rfl) dX1_init_9 (fun H locs hP hD hS => ?_)
  have hP : va_P D vwCl [(h0, .inr (1, [.ref q7, .int 0, .null, .null, .null, .null, .long 0, .long 0, .long 0, .int 0, .int 0, .int 0, .long 0])), (q7, .inl (k7, 40, .inr (.inl (fun _ => 0))))] H := hP
  have hD : va_D A [(h0, .inr (1, [.ref q7, .int 0, .null, .null, .null, .null, .long 0, .long 0, .long 0, .int 0, .int 0, .int 0, .long 0])), (q7, .inl (k7, 40, .inr (.inl (fun _ => 0))))] := hD
  refine lv_aload_n hx hb dX1_init_12 rfl (lv_at hl 0 rfl) ?_
  refine lv_bipush (v := 20) hx hb dX1_init_13 (by decide) ?_
  have hby : 20 * componentBytes .long ≤ 536870912 := by decide +kernel
  have hce : 1 + 1 ≤ 5 := by decide
  have hsl : 40 + 20 ≤ 1090 := by decide
  have hNN : (20 : Int32).toNatClampNeg = 20 := by decide
  refine va_newa (atype := .long) (D := D) (cl := vwCl) (ty := .long) (N' := 20) (a0 := (20, .inr (.inl (fun _ => 0)))) hx hb (hts (.arrayClass .long) (by decide +kernel)) rfl hK hP hD hS hA (fun cA => vp_cell_l cA 20 (fun _ => 0)) (by decide) hNN hby hce hsl dX1_init_15 (fun q15 k15 H hK hP hD hS => ?_)
  have hK : va_K D vwCl [(k7, .long), (k15, .long)] s := hK
  have hP : va_P D vwCl [(h0, .inr (1, [.ref q7, .int 0, .null, .null, .null, .null, .long 0, .long 0, .long 0, .int 0, .int 0, .int 0, .long 0])), (q7, .inl (k7, 40, .inr (.inl (fun _ => 0)))), (q15, .inl (k15, 20, .inr (.inl (fun _ => 0))))] H := hP
  have hD : va_D A [(h0, .inr (1, [.ref q7, .int 0, .null, .null, .null, .null, .long 0, .long 0, .long 0, .int 0, .int 0, .int 0, .long 0])), (q7, .inl (k7, 40, .inr (.inl (fun _ => 0)))), (q15, .inl (k15, 20, .inr (.inl (fun _ => 0))))] := hD
  refine W.widen (k := 2) (n := 60) (by decide) (by decide) ?_
  refine va_putF (D := D) (ci := 1) (v := .ref q15) (ty := .array .long) (C := RX1) (T := TX1) (N := 13) hx hb hts (fun _ h => List.mem_cons_of_mem _ (List.mem_append_right _ h)) tyX1 tyX1_ok nmX1 hown hK hP hD hS 0 rfl rfl 2 (by decide) (hts (.fieldLink RX1 13 "PostDesk2Model" "value" "[J") (by decide +kernel)) (fun _ h9 => h9) rfl hin rfl (by decide +kernel) rfl rfl (Nat.le_of_ble_eq_true rfl) dX1_init_17 (fun H locs hP hD hS => ?_)
  have hP : va_P D vwCl [(h0, .inr (1, [.ref q7, .int 0, .ref q15, .null, .null, .null, .long 0, .long 0, .long 0, .int 0, .int 0, .int 0, .long 0])), (q7, .inl (k7, 40, .inr (.inl (fun _ => 0)))), (q15, .inl (k15, 20, .inr (.inl (fun _ => 0))))] H := hP
  have hD : va_D A [(h0, .inr (1, [.ref q7, .int 0, .ref q15, .null, .null, .null, .long 0, .long 0, .long 0, .int 0, .int 0, .int 0, .long 0])), (q7, .inl (k7, 40, .inr (.inl (fun _ => 0)))), (q15, .inl (k15, 20, .inr (.inl (fun _ => 0))))] := hD
  refine lv_aload_n hx hb dX1_init_20 rfl (lv_at hl 0 rfl) ?_
  refine lv_bipush (v := 20) hx hb dX1_init_21 (by decide) ?_
  have hby : 20 * componentBytes .int ≤ 536870912 := by decide +kernel
  have hce : 2 + 1 ≤ 5 := by decide
  have hsl : 60 + 20 ≤ 1090 := by decide
  have hNN : (20 : Int32).toNatClampNeg = 20 := by decide
  refine va_newa (atype := .int) (D := D) (cl := vwCl) (ty := .int) (N' := 20) (a0 := (20, .inl (fun _ => 0))) hx hb (hts (.arrayClass .int) (by decide +kernel)) rfl hK hP hD hS hA (fun cA => vp_cell_i cA 20 (fun _ => 0)) (by decide) hNN hby hce hsl dX1_init_23 (fun q23 k23 H hK hP hD hS => ?_)
  have hK : va_K D vwCl [(k7, .long), (k15, .long), (k23, .int)] s := hK
  have hP : va_P D vwCl [(h0, .inr (1, [.ref q7, .int 0, .ref q15, .null, .null, .null, .long 0, .long 0, .long 0, .int 0, .int 0, .int 0, .long 0])), (q7, .inl (k7, 40, .inr (.inl (fun _ => 0)))), (q15, .inl (k15, 20, .inr (.inl (fun _ => 0)))), (q23, .inl (k23, 20, .inl (fun _ => 0)))] H := hP
  have hD : va_D A [(h0, .inr (1, [.ref q7, .int 0, .ref q15, .null, .null, .null, .long 0, .long 0, .long 0, .int 0, .int 0, .int 0, .long 0])), (q7, .inl (k7, 40, .inr (.inl (fun _ => 0)))), (q15, .inl (k15, 20, .inr (.inl (fun _ => 0)))), (q23, .inl (k23, 20, .inl (fun _ => 0)))] := hD
  refine W.widen (k := 3) (n := 80) (by decide) (by decide) ?_
  refine va_putF (D := D) (ci := 1) (v := .ref q23) (ty := .array .int) (C := RX1) (T := TX1) (N := 13) hx hb hts (fun _ h => List.mem_cons_of_mem _ (List.mem_append_right _ h)) tyX1 tyX1_ok nmX1 hown hK hP hD hS 0 rfl rfl 3 (by decide) (hts (.fieldLink RX1 16 "PostDesk2Model" "failure" "[I") (by decide +kernel)) (fun _ h9 => h9) rfl hin rfl (by decide +kernel) rfl rfl (Nat.le_of_ble_eq_true rfl) dX1_init_25 (fun H locs hP hD hS => ?_)
  have hP : va_P D vwCl [(h0, .inr (1, [.ref q7, .int 0, .ref q15, .ref q23, .null, .null, .long 0, .long 0, .long 0, .int 0, .int 0, .int 0, .long 0])), (q7, .inl (k7, 40, .inr (.inl (fun _ => 0)))), (q15, .inl (k15, 20, .inr (.inl (fun _ => 0)))), (q23, .inl (k23, 20, .inl (fun _ => 0)))] H := hP
  have hD : va_D A [(h0, .inr (1, [.ref q7, .int 0, .ref q15, .ref q23, .null, .null, .long 0, .long 0, .long 0, .int 0, .int 0, .int 0, .long 0])), (q7, .inl (k7, 40, .inr (.inl (fun _ => 0)))), (q15, .inl (k15, 20, .inr (.inl (fun _ => 0)))), (q23, .inl (k23, 20, .inl (fun _ => 0)))] := hD
  refine lv_aload_n hx hb dX1_init_28 rfl (lv_at hl 0 rfl) ?_
  refine lv_bipush (v := 10) hx hb dX1_init_29 (by decide) ?_
  have hby : 10 * componentBytes .int ≤ 536870912 := by decide +kernel
  have hce : 3 + 1 ≤ 5 := by decide
  have hsl : 80 + 10 ≤ 1090 := by decide
  have hNN : (10 : Int32).toNatClampNeg = 10 := by decide
  refine va_newa (atype := .int) (D := D) (cl := vwCl) (ty := .int) (N' := 10) (a0 := (10, .inl (fun _ => 0))) hx hb (hts (.arrayClass .int) (by decide +kernel)) rfl hK hP hD hS hA (fun cA => vp_cell_i cA 10 (fun _ => 0)) (by decide) hNN hby hce hsl dX1_init_31 (fun q31 k31 H hK hP hD hS => ?_)
  have hK : va_K D vwCl [(k7, .long), (k15, .long), (k23, .int), (k31, .int)] s := hK
  have hP : va_P D vwCl [(h0, .inr (1, [.ref q7, .int 0, .ref q15, .ref q23, .null, .null, .long 0, .long 0, .long 0, .int 0, .int 0, .int 0, .long 0])), (q7, .inl (k7, 40, .inr (.inl (fun _ => 0)))), (q15, .inl (k15, 20, .inr (.inl (fun _ => 0)))), (q23, .inl (k23, 20, .inl (fun _ => 0))), (q31, .inl (k31, 10, .inl (fun _ => 0)))] H := hP
  have hD : va_D A [(h0, .inr (1, [.ref q7, .int 0, .ref q15, .ref q23, .null, .null, .long 0, .long 0, .long 0, .int 0, .int 0, .int 0, .long 0])), (q7, .inl (k7, 40, .inr (.inl (fun _ => 0)))), (q15, .inl (k15, 20, .inr (.inl (fun _ => 0)))), (q23, .inl (k23, 20, .inl (fun _ => 0))), (q31, .inl (k31, 10, .inl (fun _ => 0)))] := hD
  refine W.widen (k := 4) (n := 90) (by decide) (by decide) ?_
  refine va_putF (D := D) (ci := 1) (v := .ref q31) (ty := .array .int) (C := RX1) (T := TX1) (N := 13) hx hb hts (fun _ h => List.mem_cons_of_mem _ (List.mem_append_right _ h)) tyX1 tyX1_ok nmX1 hown hK hP hD hS 0 rfl rfl 4 (by decide) (hts (.fieldLink RX1 20 "PostDesk2Model" "made" "[I") (by decide +kernel)) (fun _ h9 => h9) rfl hin rfl (by decide +kernel) rfl rfl (Nat.le_of_ble_eq_true rfl) dX1_init_33 (fun H locs hP hD hS => ?_)
  have hP : va_P D vwCl [(h0, .inr (1, [.ref q7, .int 0, .ref q15, .ref q23, .ref q31, .null, .long 0, .long 0, .long 0, .int 0, .int 0, .int 0, .long 0])), (q7, .inl (k7, 40, .inr (.inl (fun _ => 0)))), (q15, .inl (k15, 20, .inr (.inl (fun _ => 0)))), (q23, .inl (k23, 20, .inl (fun _ => 0))), (q31, .inl (k31, 10, .inl (fun _ => 0)))] H := hP
  have hD : va_D A [(h0, .inr (1, [.ref q7, .int 0, .ref q15, .ref q23, .ref q31, .null, .long 0, .long 0, .long 0, .int 0, .int 0, .int 0, .long 0])), (q7, .inl (k7, 40, .inr (.inl (fun _ => 0)))), (q15, .inl (k15, 20, .inr (.inl (fun _ => 0)))), (q23, .inl (k23, 20, .inl (fun _ => 0))), (q31, .inl (k31, 10, .inl (fun _ => 0)))] := hD
  refine lv_aload_n hx hb dX1_init_36 rfl (lv_at hl 0 rfl) ?_
  refine lv_sipush (v := 1000) hx hb dX1_init_37 (by decide) ?_
  have hby : 1000 * componentBytes .boolean ≤ 536870912 := by decide +kernel
  have hce : 4 + 1 ≤ 5 := by decide
  have hsl : 90 + 1000 ≤ 1090 := by decide
  have hNN : (1000 : Int32).toNatClampNeg = 1000 := by decide
  refine va_newa (atype := .boolean) (D := D) (cl := vwCl) (ty := .boolean) (N' := 1000) (a0 := (1000, .inl (fun _ => 0))) hx hb (hts (.arrayClass .boolean) (by decide +kernel)) rfl hK hP hD hS hA (fun cA => vp_cell_i cA 1000 (fun _ => 0)) (by decide) hNN hby hce hsl dX1_init_40 (fun q40 k40 H hK hP hD hS => ?_)
  have hK : va_K D vwCl [(k7, .long), (k15, .long), (k23, .int), (k31, .int), (k40, .boolean)] s := hK
  have hP : va_P D vwCl [(h0, .inr (1, [.ref q7, .int 0, .ref q15, .ref q23, .ref q31, .null, .long 0, .long 0, .long 0, .int 0, .int 0, .int 0, .long 0])), (q7, .inl (k7, 40, .inr (.inl (fun _ => 0)))), (q15, .inl (k15, 20, .inr (.inl (fun _ => 0)))), (q23, .inl (k23, 20, .inl (fun _ => 0))), (q31, .inl (k31, 10, .inl (fun _ => 0))), (q40, .inl (k40, 1000, .inl (fun _ => 0)))] H := hP
  have hD : va_D A [(h0, .inr (1, [.ref q7, .int 0, .ref q15, .ref q23, .ref q31, .null, .long 0, .long 0, .long 0, .int 0, .int 0, .int 0, .long 0])), (q7, .inl (k7, 40, .inr (.inl (fun _ => 0)))), (q15, .inl (k15, 20, .inr (.inl (fun _ => 0)))), (q23, .inl (k23, 20, .inl (fun _ => 0))), (q31, .inl (k31, 10, .inl (fun _ => 0))), (q40, .inl (k40, 1000, .inl (fun _ => 0)))] := hD
  refine W.widen (k := 5) (n := 1090) (by decide) (by decide) ?_
  refine va_putF (D := D) (ci := 1) (v := .ref q40) (ty := .array .boolean) (C := RX1) (T := TX1) (N := 13) hx hb hts (fun _ h => List.mem_cons_of_mem _ (List.mem_append_right _ h)) tyX1 tyX1_ok nmX1 hown hK hP hD hS 0 rfl rfl 5 (by decide) (hts (.fieldLink RX1 23 "PostDesk2Model" "there" "[Z") (by decide +kernel)) (fun _ h9 => h9) rfl hin rfl (by decide +kernel) rfl rfl (Nat.le_of_ble_eq_true rfl) dX1_init_42 (fun H locs hP hD hS => ?_)
  have hP : va_P D vwCl [(h0, .inr (1, [.ref q7, .int 0, .ref q15, .ref q23, .ref q31, .ref q40, .long 0, .long 0, .long 0, .int 0, .int 0, .int 0, .long 0])), (q7, .inl (k7, 40, .inr (.inl (fun _ => 0)))), (q15, .inl (k15, 20, .inr (.inl (fun _ => 0)))), (q23, .inl (k23, 20, .inl (fun _ => 0))), (q31, .inl (k31, 10, .inl (fun _ => 0))), (q40, .inl (k40, 1000, .inl (fun _ => 0)))] H := hP
  have hD : va_D A [(h0, .inr (1, [.ref q7, .int 0, .ref q15, .ref q23, .ref q31, .ref q40, .long 0, .long 0, .long 0, .int 0, .int 0, .int 0, .long 0])), (q7, .inl (k7, 40, .inr (.inl (fun _ => 0)))), (q15, .inl (k15, 20, .inr (.inl (fun _ => 0)))), (q23, .inl (k23, 20, .inl (fun _ => 0))), (q31, .inl (k31, 10, .inl (fun _ => 0))), (q40, .inl (k40, 1000, .inl (fun _ => 0)))] := hD
  refine lv_aload_n hx hb dX1_init_45 rfl (lv_at hl 0 rfl) ?_
  refine lv_ldc2 (v := 7) hx hb hown (hts (.constantLong RX1 27 7) (by decide +kernel)) dX1_init_46 ?_
  refine va_put (D := D) (ci := 1) (v := .long 7) (ty := .long) (C := RX1) (T := TX1) (N := 13) hx hb hts (fun _ h => List.mem_cons_of_mem _ (List.mem_append_right _ h)) tyX1 tyX1_ok nmX1 hown hK hP hD hS 0 rfl rfl 12 (by decide) (hts (.fieldLink RX1 29 "PostDesk2Model" "log" "J") (by decide +kernel)) (fun _ h9 => h9) rfl (by decide +kernel) rfl rfl (Nat.le_of_ble_eq_true rfl) dX1_init_49 (fun H locs hP hD hS => ?_)
  have hP : va_P D vwCl [(h0, .inr (1, [.ref q7, .int 0, .ref q15, .ref q23, .ref q31, .ref q40, .long 0, .long 0, .long 0, .int 0, .int 0, .int 0, .long 7])), (q7, .inl (k7, 40, .inr (.inl (fun _ => 0)))), (q15, .inl (k15, 20, .inr (.inl (fun _ => 0)))), (q23, .inl (k23, 20, .inl (fun _ => 0))), (q31, .inl (k31, 10, .inl (fun _ => 0))), (q40, .inl (k40, 1000, .inl (fun _ => 0)))] H := hP
  have hD : va_D A [(h0, .inr (1, [.ref q7, .int 0, .ref q15, .ref q23, .ref q31, .ref q40, .long 0, .long 0, .long 0, .int 0, .int 0, .int 0, .long 7])), (q7, .inl (k7, 40, .inr (.inl (fun _ => 0)))), (q15, .inl (k15, 20, .inr (.inl (fun _ => 0)))), (q23, .inl (k23, 20, .inl (fun _ => 0))), (q31, .inl (k31, 10, .inl (fun _ => 0))), (q40, .inl (k40, 1000, .inl (fun _ => 0)))] := hD
  exact W.vret hx hb hr (fun t ht hW => ⟨⟨y_new, rfl, rfl, (fun k => match k with | 0 => h0 | 1 => q7 | 2 => q15 | 3 => q23 | 4 => q31 | 5 => q40 | _ => 0), (fun k => match k with | 1 => k7 | 2 => k15 | 3 => k23 | 4 => k31 | 5 => k40 | _ => k7), rfl, by rw [ht]; exact hP, va_K.moved hW.alike hK, hD⟩, hS.F ht⟩) hS.2.2 dX1_init_52
