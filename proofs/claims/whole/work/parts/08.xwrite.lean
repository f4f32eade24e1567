def xf_settle (u : XS) (p1 : Int64) (p3 : Int32) (p4 : Int32) : XS := match u with
  | (x0, x1, x2, x3, x4, x5, x6, x7, x8, x9, x10, x11, x12, x13) => if (lg_cmp p1 0) = 0 then (if (x4 (p3).toNatClampNeg) = 0 then ((x0, x1, x2, x3, x4, 0, 0, (x7 + 1), x8, x9, x10, x11, x12, x13)) else ((x0, x1, x2, x3, x4, x5, x6, x7, x8, (x9 + 1), (x4 (p3).toNatClampNeg), p4, p3, x13))) else ((x0, x1, x2, x3, x4, x5, x6, x7, (x8 + 1), x9, x10, x11, x12, x13))
set_option maxHeartbeats 4000000 in
set_option maxRecDepth 100000 in
theorem xk_settle (l : Launch) (D : va_G) (ad : Nat → Nat) (cd : Nat → ClassId) (u : XS) (sz : Nat) (p1 : Int64) (p3 : Int32) (p4 : Int32) (h1 : lg_cmp p1 0 = 0 → vp_in p3 20) : Met l yX0_settle wsX0_settle ({ frames := 0, cells := 0, slots := 0, locals := 0 }) (xPc D ad cd u sz [.long p1, .int p3, .int p4]) (va_Qv (fun u2 => u2 = xf_settle u p1 p3 p4) (xat D ad cd (va_A (xw ad cd u) sz)) (va_A (xw ad cd u) sz)) 0 0 (va_A (xw ad cd u) sz) := by
  obtain ⟨x0, x1, x2, x3, x4, x5, x6, x7, x8, x9, x10, x11, x12, x13⟩ := u
  refine Met.ofW (cc := cX0_settle) (maxL := 5) (ret := none) (by decide) rfl ?_
  intro p e s m args below meth c s₁ B hml hv
  obtain ⟨rfl, hsz, hP, hK, hD0⟩ := hv
  have hx := B.exec
  have hb := B.bytes
  have hr := B.returns
  have hts := atoms_spec (ws := wsX0_settle) B.pre
  have hown : s.vm.findClass RX0 = some m.cls := findClass_of_methodNamed B.named
  have hlocks := B.notSynchronized
  subst hsz
  have hD := hD0.self (sz := s.heap.size)
  generalize hAe : va_A (xw ad cd (x0, x1, x2, x3, x4, x5, x6, x7, x8, x9, x10, x11, x12, x13)) s.heap.size = A at hD ⊢
  have hA : ∀ q : Nat, s.heap.size ≤ q → A q := fun q h => by rw [← hAe]; exact Or.inr h
  have hS : va_S A s.heap s.heap [] := va_S.rf
  have hP : va_P D vwCl (xw ad cd (x0, x1, x2, x3, x4, x5, x6, x7, x8, x9, x10, x11, x12, x13)) s.heap := hP
  have hl := lv_entry ([.ref (ad 0), .long p1, .int p3, .int p4]) (n := 5) (Nat.le_of_ble_eq_true rfl)
  rw [lg_entry_eq]
  generalize (lg_sl ([.ref (ad 0), .long p1, .int p3, .int p4]) ++ List.replicate (5 - (lg_sl ([.ref (ad 0), .long p1, .int p3, .int p4])).length) Slot.unset).toArray = ls at hl ⊢
  have hl : lv_has ls 5 [(0, .ref (ad 0)), (1, .long p1), (3, .int p3), (4, .int p4)] := hl
  refine lv_lload_n hx hb dX0_settle_0 rfl (lv_at hl 1 rfl) ?_
  refine lv_lconst (v := 0) hx hb dX0_settle_1 (by decide) ?_
  refine W.lcmp hx hb dX0_settle_2 ?_
  refine lv_if_eq (tgt := 19) hx hb dX0_settle_3 (by decide) (fun c_3 => ?_) (fun c_3 => ?_)
  · refine lv_aload_n hx hb dX0_settle_19 rfl (lv_at hl 0 rfl) ?_
    refine va_get (D := D) (ci := 0) (v := .ref (ad 5)) (C := RX0) (T := TX0) (N := 14) hx hb hts (fun _ h => List.mem_cons_of_mem _ (List.mem_append_right _ h)) hown hK hP 0 rfl rfl 4 (by decide) (hts (.fieldLink RX0 24 "PostDesk2" "failures" "[I") (by decide +kernel)) (fun _ h9 => h9) rfl dX0_settle_20 ?_
    refine lv_iload_n hx hb dX0_settle_23 rfl (lv_at hl 2 rfl) ?_
    refine va_iald hx hb hK hP 5 4 rfl rfl (h1 c_3) dX0_settle_24 ?_
    refine lv_if_eq (tgt := 62) hx hb dX0_settle_25 (by decide) (fun c_25 => ?_) (fun c_25 => ?_)
    · refine lv_aload_n hx hb dX0_settle_62 rfl (lv_at hl 0 rfl) ?_
      refine lv_dup hx hb dX0_settle_63 rfl ?_
      refine va_get (D := D) (ci := 0) (v := .long x7) (C := RX0) (T := TX0) (N := 14) hx hb hts (fun _ h => List.mem_cons_of_mem _ (List.mem_append_right _ h)) hown hK hP 0 rfl rfl 7 (by decide) (hts (.fieldLink RX0 35 "PostDesk2" "answeredCalls" "J") (by decide +kernel)) (fun _ h9 => h9) rfl dX0_settle_64 ?_
      refine lv_lconst (v := 1) hx hb dX0_settle_67 (by decide) ?_
      refine lv_ladd hx hb dX0_settle_68 ?_
      refine va_put (D := D) (ci := 0) (v := .long (x7 + 1)) (ty := .long) (C := RX0) (T := TX0) (N := 14) hx hb hts (fun _ h => List.mem_cons_of_mem _ (List.mem_append_right _ h)) tyX0 tyX0_ok nmX0 hown hK hP hD hS 0 rfl rfl 7 (by decide) (hts (.fieldLink RX0 35 "PostDesk2" "answeredCalls" "J") (by decide +kernel)) (fun _ h9 => h9) rfl (by decide +kernel) rfl rfl (Nat.le_of_ble_eq_true rfl) dX0_settle_69 (fun H locs hP hD hS => ?_)
      have hP : va_P D vwCl (xw ad cd (x0, x1, x2, x3, x4, x5, x6, (x7 + 1), x8, x9, x10, x11, x12, x13)) H := hP
      have hD : va_D A (xw ad cd (x0, x1, x2, x3, x4, x5, x6, (x7 + 1), x8, x9, x10, x11, x12, x13)) := hD
      refine lv_aload_n hx hb dX0_settle_72 rfl (lv_at hl 0 rfl) ?_
      refine lv_iconst (v := 0) hx hb dX0_settle_73 (by decide) ?_
      refine va_put (D := D) (ci := 0) (v := .int 0) (ty := .int) (C := RX0) (T := TX0) (N := 14) hx hb hts (fun _ h => List.mem_cons_of_mem _ (List.mem_append_right _ h)) tyX0 tyX0_ok nmX0 hown hK hP hD hS 0 rfl rfl 5 (by decide) (hts (.fieldLink RX0 27 "PostDesk2" "collected" "I") (by decide +kernel)) (fun _ h9 => h9) rfl (by decide +kernel) rfl rfl (Nat.le_of_ble_eq_true rfl) dX0_settle_74 (fun H locs hP hD hS => ?_)
      have hP : va_P D vwCl (xw ad cd (x0, x1, x2, x3, x4, 0, x6, (x7 + 1), x8, x9, x10, x11, x12, x13)) H := hP
      have hD : va_D A (xw ad cd (x0, x1, x2, x3, x4, 0, x6, (x7 + 1), x8, x9, x10, x11, x12, x13)) := hD
      refine lv_aload_n hx hb dX0_settle_77 rfl (lv_at hl 0 rfl) ?_
      refine lv_lconst (v := 0) hx hb dX0_settle_78 (by decide) ?_
      refine va_put (D := D) (ci := 0) (v := .long 0) (ty := .long) (C := RX0) (T := TX0) (N := 14) hx hb hts (fun _ h => List.mem_cons_of_mem _ (List.mem_append_right _ h)) tyX0 tyX0_ok nmX0 hown hK hP hD hS 0 rfl rfl 6 (by decide) (hts (.fieldLink RX0 31 "PostDesk2" "digest" "J") (by decide +kernel)) (fun _ h9 => h9) rfl (by decide +kernel) rfl rfl (Nat.le_of_ble_eq_true rfl) dX0_settle_79 (fun H locs hP hD hS => ?_)
      have hP : va_P D vwCl (xw ad cd (x0, x1, x2, x3, x4, 0, 0, (x7 + 1), x8, x9, x10, x11, x12, x13)) H := hP
      have hD : va_D A (xw ad cd (x0, x1, x2, x3, x4, 0, 0, (x7 + 1), x8, x9, x10, x11, x12, x13)) := hD
      exact W.vret hx hb hr (fun t ht hW => ⟨⟨(x0, x1, x2, x3, x4, 0, 0, (x7 + 1), x8, x9, x10, x11, x12, x13), rfl, (by simp only [xf_settle, if_pos c_3, if_pos c_25]), by rw [ht]; exact hP, va_K.moved hW.alike hK, hD⟩, hS.F ht⟩) hS.2.2 dX0_settle_82
    · refine lv_aload_n hx hb dX0_settle_28 rfl (lv_at hl 0 rfl) ?_
      refine lv_dup hx hb dX0_settle_29 rfl ?_
      refine va_get (D := D) (ci := 0) (v := .long x9) (C := RX0) (T := TX0) (N := 14) hx hb hts (fun _ h => List.mem_cons_of_mem _ (List.mem_append_right _ h)) hown hK hP 0 rfl rfl 9 (by decide) (hts (.fieldLink RX0 41 "PostDesk2" "failedCalls" "J") (by decide +kernel)) (fun _ h9 => h9) rfl dX0_settle_30 ?_
      refine lv_lconst (v := 1) hx hb dX0_settle_33 (by decide) ?_
      refine lv_ladd hx hb dX0_settle_34 ?_
      refine va_put (D := D) (ci := 0) (v := .long (x9 + 1)) (ty := .long) (C := RX0) (T := TX0) (N := 14) hx hb hts (fun _ h => List.mem_cons_of_mem _ (List.mem_append_right _ h)) tyX0 tyX0_ok nmX0 hown hK hP hD hS 0 rfl rfl 9 (by decide) (hts (.fieldLink RX0 41 "PostDesk2" "failedCalls" "J") (by decide +kernel)) (fun _ h9 => h9) rfl (by decide +kernel) rfl rfl (Nat.le_of_ble_eq_true rfl) dX0_settle_35 (fun H locs hP hD hS => ?_)
      have hP : va_P D vwCl (xw ad cd (x0, x1, x2, x3, x4, x5, x6, x7, x8, (x9 + 1), x10, x11, x12, x13)) H := hP
      have hD : va_D A (xw ad cd (x0, x1, x2, x3, x4, x5, x6, x7, x8, (x9 + 1), x10, x11, x12, x13)) := hD
      refine lv_aload_n hx hb dX0_settle_38 rfl (lv_at hl 0 rfl) ?_
      refine lv_aload_n hx hb dX0_settle_39 rfl (lv_at hl 0 rfl) ?_
      refine va_get (D := D) (ci := 0) (v := .ref (ad 5)) (C := RX0) (T := TX0) (N := 14) hx hb hts (fun _ h => List.mem_cons_of_mem _ (List.mem_append_right _ h)) hown hK hP 0 rfl rfl 4 (by decide) (hts (.fieldLink RX0 24 "PostDesk2" "failures" "[I") (by decide +kernel)) (fun _ h9 => h9) rfl dX0_settle_40 ?_
      refine lv_iload_n hx hb dX0_settle_43 rfl (lv_at hl 2 rfl) ?_
      refine va_iald hx hb hK hP 5 4 rfl rfl (h1 c_3) dX0_settle_44 ?_
      refine va_put (D := D) (ci := 0) (v := .int (x4 (p3).toNatClampNeg)) (ty := .int) (C := RX0) (T := TX0) (N := 14) hx hb hts (fun _ h => List.mem_cons_of_mem _ (List.mem_append_right _ h)) tyX0 tyX0_ok nmX0 hown hK hP hD hS 0 rfl rfl 10 (by decide) (hts (.fieldLink RX0 44 "PostDesk2" "latestFailure" "I") (by decide +kernel)) (fun _ h9 => h9) rfl (by decide +kernel) rfl rfl (Nat.le_of_ble_eq_true rfl) dX0_settle_45 (fun H locs hP hD hS => ?_)
      have hP : va_P D vwCl (xw ad cd (x0, x1, x2, x3, x4, x5, x6, x7, x8, (x9 + 1), (x4 (p3).toNatClampNeg), x11, x12, x13)) H := hP
      have hD : va_D A (xw ad cd (x0, x1, x2, x3, x4, x5, x6, x7, x8, (x9 + 1), (x4 (p3).toNatClampNeg), x11, x12, x13)) := hD
      refine lv_aload_n hx hb dX0_settle_48 rfl (lv_at hl 0 rfl) ?_
      refine lv_iload hx hb dX0_settle_49 (lv_at hl 3 rfl) ?_
      refine va_put (D := D) (ci := 0) (v := .int p4) (ty := .int) (C := RX0) (T := TX0) (N := 14) hx hb hts (fun _ h => List.mem_cons_of_mem _ (List.mem_append_right _ h)) tyX0 tyX0_ok nmX0 hown hK hP hD hS 0 rfl rfl 11 (by decide) (hts (.fieldLink RX0 47 "PostDesk2" "latestNumber" "I") (by decide +kernel)) (fun _ h9 => h9) rfl (by decide +kernel) rfl rfl (Nat.le_of_ble_eq_true rfl) dX0_settle_51 (fun H locs hP hD hS => ?_)
      have hP : va_P D vwCl (xw ad cd (x0, x1, x2, x3, x4, x5, x6, x7, x8, (x9 + 1), (x4 (p3).toNatClampNeg), p4, x12, x13)) H := hP
      have hD : va_D A (xw ad cd (x0, x1, x2, x3, x4, x5, x6, x7, x8, (x9 + 1), (x4 (p3).toNatClampNeg), p4, x12, x13)) := hD
      refine lv_aload_n hx hb dX0_settle_54 rfl (lv_at hl 0 rfl) ?_
      refine lv_iload_n hx hb dX0_settle_55 rfl (lv_at hl 2 rfl) ?_
      refine va_put (D := D) (ci := 0) (v := .int p3) (ty := .int) (C := RX0) (T := TX0) (N := 14) hx hb hts (fun _ h => List.mem_cons_of_mem _ (List.mem_append_right _ h)) tyX0 tyX0_ok nmX0 hown hK hP hD hS 0 rfl rfl 12 (by decide) (hts (.fieldLink RX0 50 "PostDesk2" "latestCall" "I") (by decide +kernel)) (fun _ h9 => h9) rfl (by decide +kernel) rfl rfl (Nat.le_of_ble_eq_true rfl) dX0_settle_56 (fun H locs hP hD hS => ?_)
      have hP : va_P D vwCl (xw ad cd (x0, x1, x2, x3, x4, x5, x6, x7, x8, (x9 + 1), (x4 (p3).toNatClampNeg), p4, p3, x13)) H := hP
      have hD : va_D A (xw ad cd (x0, x1, x2, x3, x4, x5, x6, x7, x8, (x9 + 1), (x4 (p3).toNatClampNeg), p4, p3, x13)) := hD
      refine lv_goto (tgt := 82) hx hb dX0_settle_59 (by decide) ?_
      exact W.vret hx hb hr (fun t ht hW => ⟨⟨(x0, x1, x2, x3, x4, x5, x6, x7, x8, (x9 + 1), (x4 (p3).toNatClampNeg), p4, p3, x13), rfl, (by simp only [xf_settle, if_pos c_3, if_neg c_25]), by rw [ht]; exact hP, va_K.moved hW.alike hK, hD⟩, hS.F ht⟩) hS.2.2 dX0_settle_82
  · refine lv_aload_n hx hb dX0_settle_6 rfl (lv_at hl 0 rfl) ?_
    refine lv_dup hx hb dX0_settle_7 rfl ?_
    refine va_get (D := D) (ci := 0) (v := .long x8) (C := RX0) (T := TX0) (N := 14) hx hb hts (fun _ h => List.mem_cons_of_mem _ (List.mem_append_right _ h)) hown hK hP 0 rfl rfl 8 (by decide) (hts (.fieldLink RX0 38 "PostDesk2" "refusedCalls" "J") (by decide +kernel)) (fun _ h9 => h9) rfl dX0_settle_8 ?_
    refine lv_lconst (v := 1) hx hb dX0_settle_11 (by decide) ?_
    refine lv_ladd hx hb dX0_settle_12 ?_
    refine va_put (D := D) (ci := 0) (v := .long (x8 + 1)) (ty := .long) (C := RX0) (T := TX0) (N := 14) hx hb hts (fun _ h => List.mem_cons_of_mem _ (List.mem_append_right _ h)) tyX0 tyX0_ok nmX0 hown hK hP hD hS 0 rfl rfl 8 (by decide) (hts (.fieldLink RX0 38 "PostDesk2" "refusedCalls" "J") (by decide +kernel)) (fun _ h9 => h9) rfl (by decide +kernel) rfl rfl (Nat.le_of_ble_eq_true rfl) dX0_settle_13 (fun H locs hP hD hS => ?_)
    have hP : va_P D vwCl (xw ad cd (x0, x1, x2, x3, x4, x5, x6, x7, (x8 + 1), x9, x10, x11, x12, x13)) H := hP
    have hD : va_D A (xw ad cd (x0, x1, x2, x3, x4, x5, x6, x7, (x8 + 1), x9, x10, x11, x12, x13)) := hD
    refine lv_goto (tgt := 82) hx hb dX0_settle_16 (by decide) ?_
    exact W.vret hx hb hr (fun t ht hW => ⟨⟨(x0, x1, x2, x3, x4, x5, x6, x7, (x8 + 1), x9, x10, x11, x12, x13), rfl, (by simp only [xf_settle, if_neg c_3]), by rw [ht]; exact hP, va_K.moved hW.alike hK, hD⟩, hS.F ht⟩) hS.2.2 dX0_settle_82
def xf_collect (u : XS) (p1 : Int64) : Int32 × XS := match u with
  | (x0, x1, x2, x3, x4, x5, x6, x7, x8, x9, x10, x11, x12, x13) => if x5 < 40 then (((x5 + 1), (x0, x1, x2, x3, x4, (x5 + 1), ((31 * x6) + p1), x7, x8, x9, x10, x11, x12, x13))) else (((-14), (x0, x1, x2, x3, x4, x5, x6, x7, x8, x9, x10, x11, x12, x13)))
set_option maxHeartbeats 4000000 in
set_option maxRecDepth 100000 in
theorem xk_collect (l : Launch) (D : va_G) (ad : Nat → Nat) (cd : Nat → ClassId) (u : XS) (sz : Nat) (p1 : Int64)  : Met l yX0_collect wsX0_collect ({ frames := 0, cells := 0, slots := 0, locals := 0 }) (xPc D ad cd u sz [.long p1]) (va_Qi (fun r u2 => (r, u2) = xf_collect u p1) (xat D ad cd (va_A (xw ad cd u) sz)) (va_A (xw ad cd u) sz)) 0 0 (va_A (xw ad cd u) sz) := by
  obtain ⟨x0, x1, x2, x3, x4, x5, x6, x7, x8, x9, x10, x11, x12, x13⟩ := u
  refine Met.ofW (cc := cX0_collect) (maxL := 3) (ret := (some .int)) (by decide) rfl ?_
  intro p e s m args below meth c s₁ B hml hv
  obtain ⟨rfl, hsz, hP, hK, hD0⟩ := hv
  have hx := B.exec
  have hb := B.bytes
  have hr := B.returns
  have hts := atoms_spec (ws := wsX0_collect) B.pre
  have hown : s.vm.findClass RX0 = some m.cls := findClass_of_methodNamed B.named
  have hlocks := B.notSynchronized
  subst hsz
  have hD := hD0.self (sz := s.heap.size)
  generalize hAe : va_A (xw ad cd (x0, x1, x2, x3, x4, x5, x6, x7, x8, x9, x10, x11, x12, x13)) s.heap.size = A at hD ⊢
  have hA : ∀ q : Nat, s.heap.size ≤ q → A q := fun q h => by rw [← hAe]; exact Or.inr h
  have hS : va_S A s.heap s.heap [] := va_S.rf
  have hP : va_P D vwCl (xw ad cd (x0, x1, x2, x3, x4, x5, x6, x7, x8, x9, x10, x11, x12, x13)) s.heap := hP
  have hl := lv_entry ([.ref (ad 0), .long p1]) (n := 3) (Nat.le_of_ble_eq_true rfl)
  rw [lg_entry_eq]
  generalize (lg_sl ([.ref (ad 0), .long p1]) ++ List.replicate (3 - (lg_sl ([.ref (ad 0), .long p1])).length) Slot.unset).toArray = ls at hl ⊢
  have hl : lv_has ls 3 [(0, .ref (ad 0)), (1, .long p1)] := hl
  refine lv_aload_n hx hb dX0_collect_0 rfl (lv_at hl 0 rfl) ?_
  refine va_get (D := D) (ci := 0) (v := .int x5) (C := RX0) (T := TX0) (N := 14) hx hb hts (fun _ h => List.mem_cons_of_mem _ (List.mem_append_right _ h)) hown hK hP 0 rfl rfl 5 (by decide) (hts (.fieldLink RX0 27 "PostDesk2" "collected" "I") (by decide +kernel)) (fun _ h9 => h9) rfl dX0_collect_1 ?_
  refine lv_bipush (v := 40) hx hb dX0_collect_4 (by decide) ?_
  refine lv_icmp_lt (tgt := 12) hx hb dX0_collect_6 (by decide) (fun c_6 => ?_) (fun c_6 => ?_)
  · refine lv_aload_n hx hb dX0_collect_12 rfl (lv_at hl 0 rfl) ?_
    refine lv_ldc2 (v := 31) hx hb hown (hts (.constantLong RX0 58 31) (by decide +kernel)) dX0_collect_13 ?_
    refine lv_aload_n hx hb dX0_collect_16 rfl (lv_at hl 0 rfl) ?_
    refine va_get (D := D) (ci := 0) (v := .long x6) (C := RX0) (T := TX0) (N := 14) hx hb hts (fun _ h => List.mem_cons_of_mem _ (List.mem_append_right _ h)) hown hK hP 0 rfl rfl 6 (by decide) (hts (.fieldLink RX0 31 "PostDesk2" "digest" "J") (by decide +kernel)) (fun _ h9 => h9) rfl dX0_collect_17 ?_
    refine lv_lmul hx hb dX0_collect_20 ?_
    refine lv_lload_n hx hb dX0_collect_21 rfl (lv_at hl 1 rfl) ?_
    refine lv_ladd hx hb dX0_collect_22 ?_
    refine va_put (D := D) (ci := 0) (v := .long ((31 * x6) + p1)) (ty := .long) (C := RX0) (T := TX0) (N := 14) hx hb hts (fun _ h => List.mem_cons_of_mem _ (List.mem_append_right _ h)) tyX0 tyX0_ok nmX0 hown hK hP hD hS 0 rfl rfl 6 (by decide) (hts (.fieldLink RX0 31 "PostDesk2" "digest" "J") (by decide +kernel)) (fun _ h9 => h9) rfl (by decide +kernel) rfl rfl (Nat.le_of_ble_eq_true rfl) dX0_collect_23 (fun H locs hP hD hS => ?_)
    have hP : va_P D vwCl (xw ad cd (x0, x1, x2, x3, x4, x5, ((31 * x6) + p1), x7, x8, x9, x10, x11, x12, x13)) H := hP
    have hD : va_D A (xw ad cd (x0, x1, x2, x3, x4, x5, ((31 * x6) + p1), x7, x8, x9, x10, x11, x12, x13)) := hD
    refine lv_aload_n hx hb dX0_collect_26 rfl (lv_at hl 0 rfl) ?_
    refine lv_dup hx hb dX0_collect_27 rfl ?_
    refine va_get (D := D) (ci := 0) (v := .int x5) (C := RX0) (T := TX0) (N := 14) hx hb hts (fun _ h => List.mem_cons_of_mem _ (List.mem_append_right _ h)) hown hK hP 0 rfl rfl 5 (by decide) (hts (.fieldLink RX0 27 "PostDesk2" "collected" "I") (by decide +kernel)) (fun _ h9 => h9) rfl dX0_collect_28 ?_
    refine lv_iconst (v := 1) hx hb dX0_collect_31 (by decide) ?_
    refine lv_iadd hx hb dX0_collect_32 ?_
    refine va_put (D := D) (ci := 0) (v := .int (x5 + 1)) (ty := .int) (C := RX0) (T := TX0) (N := 14) hx hb hts (fun _ h => List.mem_cons_of_mem _ (List.mem_append_right _ h)) tyX0 tyX0_ok nmX0 hown hK hP hD hS 0 rfl rfl 5 (by decide) (hts (.fieldLink RX0 27 "PostDesk2" "collected" "I") (by decide +kernel)) (fun _ h9 => h9) rfl (by decide +kernel) rfl rfl (Nat.le_of_ble_eq_true rfl) dX0_collect_33 (fun H locs hP hD hS => ?_)
    have hP : va_P D vwCl (xw ad cd (x0, x1, x2, x3, x4, (x5 + 1), ((31 * x6) + p1), x7, x8, x9, x10, x11, x12, x13)) H := hP
    have hD : va_D A (xw ad cd (x0, x1, x2, x3, x4, (x5 + 1), ((31 * x6) + p1), x7, x8, x9, x10, x11, x12, x13)) := hD
    refine lv_aload_n hx hb dX0_collect_36 rfl (lv_at hl 0 rfl) ?_
    refine va_get (D := D) (ci := 0) (v := .int (x5 + 1)) (C := RX0) (T := TX0) (N := 14) hx hb hts (fun _ h => List.mem_cons_of_mem _ (List.mem_append_right _ h)) hown hK hP 0 rfl rfl 5 (by decide) (hts (.fieldLink RX0 27 "PostDesk2" "collected" "I") (by decide +kernel)) (fun _ h9 => h9) rfl dX0_collect_37 ?_
    exact W.iret (v := (x5 + 1)) hx hb hr (fun t ht hW => ⟨⟨(x5 + 1), (x0, x1, x2, x3, x4, (x5 + 1), ((31 * x6) + p1), x7, x8, x9, x10, x11, x12, x13), rfl, (by simp only [xf_collect, if_pos c_6]), by rw [ht]; exact hP, va_K.moved hW.alike hK, hD⟩, hS.F ht⟩) hS.2.2 dX0_collect_40
  · refine lv_bipush (v := (-14)) hx hb dX0_collect_9 (by decide) ?_
    exact W.iret (v := (-14)) hx hb hr (fun t ht hW => ⟨⟨(-14), (x0, x1, x2, x3, x4, x5, x6, x7, x8, x9, x10, x11, x12, x13), rfl, (by simp only [xf_collect, if_neg c_6]), by rw [ht]; exact hP, va_K.moved hW.alike hK, hD⟩, hS.F ht⟩) hS.2.2 dX0_collect_11
def xf_answer (u : XS) (p1 : Int32) (p2 : Int64) : Int32 × XS := match u with
  | (x0, x1, x2, x3, x4, x5, x6, x7, x8, x9, x10, x11, x12, x13) => if (xf_isCall p1) = 0 then (((-1), (x0, x1, x2, x3, x4, x5, x6, x7, x8, x9, x10, x11, x12, x13))) else ((1, (x0, x1, x2, (vp_updL x3 (p1).toNatClampNeg p2), (upd x4 (p1).toNatClampNeg 0), x5, x6, x7, x8, x9, x10, x11, x12, x13)))
set_option maxHeartbeats 4000000 in
set_option maxRecDepth 100000 in
theorem xk_answer (l : Launch) (D : va_G) (ad : Nat → Nat) (cd : Nat → ClassId) (u : XS) (sz : Nat) (p1 : Int32) (p2 : Int64)  : Met l yX0_answer wsX0_answer ({ frames := 1, cells := 0, slots := 0, locals := 20 }) (xPc D ad cd u sz [.int p1, .long p2]) (va_Qi (fun r u2 => (r, u2) = xf_answer u p1 p2) (xat D ad cd (va_A (xw ad cd u) sz)) (va_A (xw ad cd u) sz)) 0 0 (va_A (xw ad cd u) sz) := by
  obtain ⟨x0, x1, x2, x3, x4, x5, x6, x7, x8, x9, x10, x11, x12, x13⟩ := u
  refine Met.ofW (cc := cX0_answer) (maxL := 4) (ret := (some .int)) (by decide) rfl ?_
  intro p e s m args below meth c s₁ B hml hv
  obtain ⟨rfl, hsz, hP, hK, hD0⟩ := hv
  have hx := B.exec
  have hb := B.bytes
  have hr := B.returns
  have hts := atoms_spec (ws := wsX0_answer) B.pre
  have hown : s.vm.findClass RX0 = some m.cls := findClass_of_methodNamed B.named
  have hlocks := B.notSynchronized
  subst hsz
  have hD := hD0.self (sz := s.heap.size)
  generalize hAe : va_A (xw ad cd (x0, x1, x2, x3, x4, x5, x6, x7, x8, x9, x10, x11, x12, x13)) s.heap.size = A at hD ⊢
  have hA : ∀ q : Nat, s.heap.size ≤ q → A q := fun q h => by rw [← hAe]; exact Or.inr h
  have hS : va_S A s.heap s.heap [] := va_S.rf
  have hP : va_P D vwCl (xw ad cd (x0, x1, x2, x3, x4, x5, x6, x7, x8, x9, x10, x11, x12, x13)) s.heap := hP
  have hl := lv_entry ([.ref (ad 0), .int p1, .long p2]) (n := 4) (Nat.le_of_ble_eq_true rfl)
  rw [lg_entry_eq]
  generalize (lg_sl ([.ref (ad 0), .int p1, .long p2]) ++ List.replicate (4 - (lg_sl ([.ref (ad 0), .int p1, .long p2])).length) Slot.unset).toArray = ls at hl ⊢
  have hl : lv_has ls 4 [(0, .ref (ad 0)), (1, .int p1), (2, .long p2)] := hl
  refine lv_iload_n hx hb dX0_answer_0 rfl (lv_at hl 1 rfl) ?_
  refine vp_callSi (W.runS (As := [.int p1]) (rest := []) ⟨hx, hb, hml, hown, hts⟩ (xk_isCall l p1) (va_cwS 1 hts gX0_answer_X0_isCall rfl rfl rfl (by decide +kernel) ⟨Nat.le_of_ble_eq_true rfl, Nat.le_of_ble_eq_true rfl⟩) ⟨fun a U g mk q => q, fun U hU hW => ⟨rfl, trivial⟩⟩ rfl rfl hl.1 rfl (lv_room (Nat.le_of_ble_eq_true rfl)) dX0_answer_1 ⟨Nat.zero_le _, Nat.zero_le _⟩) (fun r_1 hr_1 => ?_)
  subst hr_1
  refine lv_if_ne (tgt := 9) hx hb dX0_answer_4 (by decide) (fun c_4 => ?_) (fun c_4 => ?_)
  · refine lv_aload_n hx hb dX0_answer_9 rfl (lv_at hl 0 rfl) ?_
    refine va_get (D := D) (ci := 0) (v := .ref (ad 4)) (C := RX0) (T := TX0) (N := 14) hx hb hts (fun _ h => List.mem_cons_of_mem _ (List.mem_append_right _ h)) hown hK hP 0 rfl rfl 3 (by decide) (hts (.fieldLink RX0 20 "PostDesk2" "values" "[J") (by decide +kernel)) (fun _ h9 => h9) rfl dX0_answer_10 ?_
    refine lv_iload_n hx hb dX0_answer_13 rfl (lv_at hl 1 rfl) ?_
    refine lv_lload_n hx hb dX0_answer_14 rfl (lv_at hl 2 rfl) ?_
    refine va_last hx hb hK hP hD hS 4 3 rfl rfl (xkc_in c_4) dX0_answer_15 (fun H locs hP hD hS => ?_)
    have hP : va_P D vwCl (xw ad cd (x0, x1, x2, (vp_updL x3 (p1).toNatClampNeg p2), x4, x5, x6, x7, x8, x9, x10, x11, x12, x13)) H := hP
    have hD : va_D A (xw ad cd (x0, x1, x2, (vp_updL x3 (p1).toNatClampNeg p2), x4, x5, x6, x7, x8, x9, x10, x11, x12, x13)) := hD
    refine lv_aload_n hx hb dX0_answer_16 rfl (lv_at hl 0 rfl) ?_
    refine va_get (D := D) (ci := 0) (v := .ref (ad 5)) (C := RX0) (T := TX0) (N := 14) hx hb hts (fun _ h => List.mem_cons_of_mem _ (List.mem_append_right _ h)) hown hK hP 0 rfl rfl 4 (by decide) (hts (.fieldLink RX0 24 "PostDesk2" "failures" "[I") (by decide +kernel)) (fun _ h9 => h9) rfl dX0_answer_17 ?_
    refine lv_iload_n hx hb dX0_answer_20 rfl (lv_at hl 1 rfl) ?_
    refine lv_iconst (v := 0) hx hb dX0_answer_21 (by decide) ?_
    refine va_iast hx hb hK hP hD hS 5 4 rfl rfl (xkc_in c_4) dX0_answer_22 (fun H locs hP hD hS => ?_)
    have hP : va_P D vwCl (xw ad cd (x0, x1, x2, (vp_updL x3 (p1).toNatClampNeg p2), (upd x4 (p1).toNatClampNeg 0), x5, x6, x7, x8, x9, x10, x11, x12, x13)) H := hP
    have hD : va_D A (xw ad cd (x0, x1, x2, (vp_updL x3 (p1).toNatClampNeg p2), (upd x4 (p1).toNatClampNeg 0), x5, x6, x7, x8, x9, x10, x11, x12, x13)) := hD
    refine lv_iconst (v := 1) hx hb dX0_answer_23 (by decide) ?_
    exact W.iret (v := 1) hx hb hr (fun t ht hW => ⟨⟨1, (x0, x1, x2, (vp_updL x3 (p1).toNatClampNeg p2), (upd x4 (p1).toNatClampNeg 0), x5, x6, x7, x8, x9, x10, x11, x12, x13), rfl, (by simp only [xf_answer, if_neg c_4]), by rw [ht]; exact hP, va_K.moved hW.alike hK, hD⟩, hS.F ht⟩) hS.2.2 dX0_answer_24
  · refine lv_iconst (v := (-1)) hx hb dX0_answer_7 (by decide) ?_
    exact W.iret (v := (-1)) hx hb hr (fun t ht hW => ⟨⟨(-1), (x0, x1, x2, x3, x4, x5, x6, x7, x8, x9, x10, x11, x12, x13), rfl, (by simp only [xf_answer, if_pos c_4]), by rw [ht]; exact hP, va_K.moved hW.alike hK, hD⟩, hS.F ht⟩) hS.2.2 dX0_answer_8
def xf_fails (u : XS) (p1 : Int32) (p2 : Int32) : Int32 × XS := match u with
  | (x0, x1, x2, x3, x4, x5, x6, x7, x8, x9, x10, x11, x12, x13) => if (xf_isCall p1) = 0 then (((-1), (x0, x1, x2, x3, x4, x5, x6, x7, x8, x9, x10, x11, x12, x13))) else (if p2 < 0 then (((-1), (x0, x1, x2, x3, x4, x5, x6, x7, x8, x9, x10, x11, x12, x13))) else (if p2 ≤ 3 then ((1, (x0, x1, x2, x3, (upd x4 (p1).toNatClampNeg p2), x5, x6, x7, x8, x9, x10, x11, x12, x13))) else (((-1), (x0, x1, x2, x3, x4, x5, x6, x7, x8, x9, x10, x11, x12, x13)))))
set_option maxHeartbeats 4000000 in
set_option maxRecDepth 100000 in
theorem xk_fails (l : Launch) (D : va_G) (ad : Nat → Nat) (cd : Nat → ClassId) (u : XS) (sz : Nat) (p1 : Int32) (p2 : Int32)  : Met l yX0_fails wsX0_fails ({ frames := 1, cells := 0, slots := 0, locals := 20 }) (xPc D ad cd u sz [.int p1, .int p2]) (va_Qi (fun r u2 => (r, u2) = xf_fails u p1 p2) (xat D ad cd (va_A (xw ad cd u) sz)) (va_A (xw ad cd u) sz)) 0 0 (va_A (xw ad cd u) sz) := by
  obtain ⟨x0, x1, x2, x3, x4, x5, x6, x7, x8, x9, x10, x11, x12, x13⟩ := u
  refine Met.ofW (cc := cX0_fails) (maxL := 3) (ret := (some .int)) (by decide) rfl ?_
  intro p e s m args below meth c s₁ B hml hv
  obtain ⟨rfl, hsz, hP, hK, hD0⟩ := hv
  have hx := B.exec
  have hb := B.bytes
  have hr := B.returns
  have hts := atoms_spec (ws := wsX0_fails) B.pre
  have hown : s.vm.findClass RX0 = some m.cls := findClass_of_methodNamed B.named
  have hlocks := B.notSynchronized
  subst hsz
  have hD := hD0.self (sz := s.heap.size)
  generalize hAe : va_A (xw ad cd (x0, x1, x2, x3, x4, x5, x6, x7, x8, x9, x10, x11, x12, x13)) s.heap.size = A at hD ⊢
  have hA : ∀ q : Nat, s.heap.size ≤ q → A q := fun q h => by rw [← hAe]; exact Or.inr h
  have hS : va_S A s.heap s.heap [] := va_S.rf
  have hP : va_P D vwCl (xw ad cd (x0, x1, x2, x3, x4, x5, x6, x7, x8, x9, x10, x11, x12, x13)) s.heap := hP
  have hl := lv_entry ([.ref (ad 0), .int p1, .int p2]) (n := 3) (Nat.le_of_ble_eq_true rfl)
  rw [lg_entry_eq]
  generalize (lg_sl ([.ref (ad 0), .int p1, .int p2]) ++ List.replicate (3 - (lg_sl ([.ref (ad 0), .int p1, .int p2])).length) Slot.unset).toArray = ls at hl ⊢
  have hl : lv_has ls 3 [(0, .ref (ad 0)), (1, .int p1), (2, .int p2)] := hl
  refine lv_iload_n hx hb dX0_fails_0 rfl (lv_at hl 1 rfl) ?_
  refine vp_callSi (W.runS (As := [.int p1]) (rest := []) ⟨hx, hb, hml, hown, hts⟩ (xk_isCall l p1) (va_cwS 1 hts gX0_fails_X0_isCall rfl rfl rfl (by decide +kernel) ⟨Nat.le_of_ble_eq_true rfl, Nat.le_of_ble_eq_true rfl⟩) ⟨fun a U g mk q => q, fun U hU hW => ⟨rfl, trivial⟩⟩ rfl rfl hl.1 rfl (lv_room (Nat.le_of_ble_eq_true rfl)) dX0_fails_1 ⟨Nat.zero_le _, Nat.zero_le _⟩) (fun r_1 hr_1 => ?_)
  subst hr_1
  refine lv_if_eq (tgt := 16) hx hb dX0_fails_4 (by decide) (fun c_4 => ?_) (fun c_4 => ?_)
  · refine lv_iconst (v := (-1)) hx hb dX0_fails_16 (by decide) ?_
    exact W.iret (v := (-1)) hx hb hr (fun t ht hW => ⟨⟨(-1), (x0, x1, x2, x3, x4, x5, x6, x7, x8, x9, x10, x11, x12, x13), rfl, (by simp only [xf_fails, if_pos c_4]), by rw [ht]; exact hP, va_K.moved hW.alike hK, hD⟩, hS.F ht⟩) hS.2.2 dX0_fails_17
  · refine lv_iload_n hx hb dX0_fails_7 rfl (lv_at hl 2 rfl) ?_
    refine lv_if_lt (tgt := 16) hx hb dX0_fails_8 (by decide) (fun c_8 => ?_) (fun c_8 => ?_)
    · refine lv_iconst (v := (-1)) hx hb dX0_fails_16 (by decide) ?_
      exact W.iret (v := (-1)) hx hb hr (fun t ht hW => ⟨⟨(-1), (x0, x1, x2, x3, x4, x5, x6, x7, x8, x9, x10, x11, x12, x13), rfl, (by simp only [xf_fails, if_neg c_4, if_pos c_8]), by rw [ht]; exact hP, va_K.moved hW.alike hK, hD⟩, hS.F ht⟩) hS.2.2 dX0_fails_17
    · refine lv_iload_n hx hb dX0_fails_11 rfl (lv_at hl 2 rfl) ?_
      refine lv_iconst (v := 3) hx hb dX0_fails_12 (by decide) ?_
      refine lv_icmp_le (tgt := 18) hx hb dX0_fails_13 (by decide) (fun c_13 => ?_) (fun c_13 => ?_)
      · refine lv_aload_n hx hb dX0_fails_18 rfl (lv_at hl 0 rfl) ?_
        refine va_get (D := D) (ci := 0) (v := .ref (ad 5)) (C := RX0) (T := TX0) (N := 14) hx hb hts (fun _ h => List.mem_cons_of_mem _ (List.mem_append_right _ h)) hown hK hP 0 rfl rfl 4 (by decide) (hts (.fieldLink RX0 24 "PostDesk2" "failures" "[I") (by decide +kernel)) (fun _ h9 => h9) rfl dX0_fails_19 ?_
        refine lv_iload_n hx hb dX0_fails_22 rfl (lv_at hl 1 rfl) ?_
        refine lv_iload_n hx hb dX0_fails_23 rfl (lv_at hl 2 rfl) ?_
        refine va_iast hx hb hK hP hD hS 5 4 rfl rfl (xkc_in c_4) dX0_fails_24 (fun H locs hP hD hS => ?_)
        have hP : va_P D vwCl (xw ad cd (x0, x1, x2, x3, (upd x4 (p1).toNatClampNeg p2), x5, x6, x7, x8, x9, x10, x11, x12, x13)) H := hP
        have hD : va_D A (xw ad cd (x0, x1, x2, x3, (upd x4 (p1).toNatClampNeg p2), x5, x6, x7, x8, x9, x10, x11, x12, x13)) := hD
        refine lv_iconst (v := 1) hx hb dX0_fails_25 (by decide) ?_
        exact W.iret (v := 1) hx hb hr (fun t ht hW => ⟨⟨1, (x0, x1, x2, x3, (upd x4 (p1).toNatClampNeg p2), x5, x6, x7, x8, x9, x10, x11, x12, x13), rfl, (by simp only [xf_fails, if_neg c_4, if_neg c_8, if_pos c_13]), by rw [ht]; exact hP, va_K.moved hW.alike hK, hD⟩, hS.F ht⟩) hS.2.2 dX0_fails_26
      · refine lv_iconst (v := (-1)) hx hb dX0_fails_16 (by decide) ?_
        exact W.iret (v := (-1)) hx hb hr (fun t ht hW => ⟨⟨(-1), (x0, x1, x2, x3, x4, x5, x6, x7, x8, x9, x10, x11, x12, x13), rfl, (by simp only [xf_fails, if_neg c_4, if_neg c_8, if_neg c_13]), by rw [ht]; exact hP, va_K.moved hW.alike hK, hD⟩, hS.F ht⟩) hS.2.2 dX0_fails_17
def xf_make (u : XS) (p1 : Int32) : Int32 × XS := match u with
  | (x0, x1, x2, x3, x4, x5, x6, x7, x8, x9, x10, x11, x12, x13) => if (xf_isKind p1) = 0 then (((-1), (x0, x1, x2, x3, x4, x5, x6, x7, x8, x9, x10, x11, x12, x13))) else (if (x0 (p1).toNatClampNeg) < 99 then ((((p1 * 1000) + ((upd x0 (p1).toNatClampNeg ((x0 (p1).toNatClampNeg) + 1)) (p1).toNatClampNeg)), ((upd x0 (p1).toNatClampNeg ((x0 (p1).toNatClampNeg) + 1)), (upd x1 (p1).toNatClampNeg ((x1 (p1).toNatClampNeg) + 1)), (upd x2 (((p1 * 100) + ((upd x0 (p1).toNatClampNeg ((x0 (p1).toNatClampNeg) + 1)) (p1).toNatClampNeg))).toNatClampNeg (vp_nar .boolean 1)), x3, x4, x5, x6, x7, x8, x9, x10, x11, x12, x13))) else (((-14), (x0, x1, x2, x3, x4, x5, x6, x7, x8, x9, x10, x11, x12, x13))))
set_option maxHeartbeats 4000000 in
set_option maxRecDepth 100000 in
theorem xk_make (l : Launch) (D : va_G) (ad : Nat → Nat) (cd : Nat → ClassId) (u : XS) (sz : Nat) (p1 : Int32) (h1 : ∀ j, j < 10 → 0 ≤ u.1 j) : Met l yX0_make wsX0_make ({ frames := 1, cells := 0, slots := 0, locals := 20 }) (xPc D ad cd u sz [.int p1]) (va_Qi (fun r u2 => (r, u2) = xf_make u p1) (xat D ad cd (va_A (xw ad cd u) sz)) (va_A (xw ad cd u) sz)) 0 0 (va_A (xw ad cd u) sz) := by
  obtain ⟨x0, x1, x2, x3, x4, x5, x6, x7, x8, x9, x10, x11, x12, x13⟩ := u
  refine Met.ofW (cc := cX0_make) (maxL := 2) (ret := (some .int)) (by decide) rfl ?_
  intro p e s m args below meth c s₁ B hml hv
  obtain ⟨rfl, hsz, hP, hK, hD0⟩ := hv
  have hx := B.exec
  have hb := B.bytes
  have hr := B.returns
  have hts := atoms_spec (ws := wsX0_make) B.pre
  have hown : s.vm.findClass RX0 = some m.cls := findClass_of_methodNamed B.named
  have hlocks := B.notSynchronized
  subst hsz
  have hD := hD0.self (sz := s.heap.size)
  generalize hAe : va_A (xw ad cd (x0, x1, x2, x3, x4, x5, x6, x7, x8, x9, x10, x11, x12, x13)) s.heap.size = A at hD ⊢
  have hA : ∀ q : Nat, s.heap.size ≤ q → A q := fun q h => by rw [← hAe]; exact Or.inr h
  have hS : va_S A s.heap s.heap [] := va_S.rf
  have hP : va_P D vwCl (xw ad cd (x0, x1, x2, x3, x4, x5, x6, x7, x8, x9, x10, x11, x12, x13)) s.heap := hP
  have hl := lv_entry ([.ref (ad 0), .int p1]) (n := 2) (Nat.le_of_ble_eq_true rfl)
  rw [lg_entry_eq]
  generalize (lg_sl ([.ref (ad 0), .int p1]) ++ List.replicate (2 - (lg_sl ([.ref (ad 0), .int p1])).length) Slot.unset).toArray = ls at hl ⊢
  have hl : lv_has ls 2 [(0, .ref (ad 0)), (1, .int p1)] := hl
  refine lv_iload_n hx hb dX0_make_0 rfl (lv_at hl 1 rfl) ?_
  refine vp_callSi (W.runS (As := [.int p1]) (rest := []) ⟨hx, hb, hml, hown, hts⟩ (xk_isKind l p1) (va_cwS 1 hts gX0_make_X0_isKind rfl rfl rfl (by decide +kernel) ⟨Nat.le_of_ble_eq_true rfl, Nat.le_of_ble_eq_true rfl⟩) ⟨fun a U g mk q => q, fun U hU hW => ⟨rfl, trivial⟩⟩ rfl rfl hl.1 rfl (lv_room (Nat.le_of_ble_eq_true rfl)) dX0_make_1 ⟨Nat.zero_le _, Nat.zero_le _⟩) (fun r_1 hr_1 => ?_)
  subst hr_1
  refine lv_if_ne (tgt := 9) hx hb dX0_make_4 (by decide) (fun c_4 => ?_) (fun c_4 => ?_)
  · refine lv_aload_n hx hb dX0_make_9 rfl (lv_at hl 0 rfl) ?_
    refine va_get (D := D) (ci := 0) (v := .ref (ad 1)) (C := RX0) (T := TX0) (N := 14) hx hb hts (fun _ h => List.mem_cons_of_mem _ (List.mem_append_right _ h)) hown hK hP 0 rfl rfl 0 (by decide) (hts (.fieldLink RX0 9 "PostDesk2" "made" "[I") (by decide +kernel)) (fun _ h9 => h9) rfl dX0_make_10 ?_
    refine lv_iload_n hx hb dX0_make_13 rfl (lv_at hl 1 rfl) ?_
    refine va_iald hx hb hK hP 1 0 rfl rfl (xkk_in c_4) dX0_make_14 ?_
    refine lv_bipush (v := 99) hx hb dX0_make_15 (by decide) ?_
    refine lv_icmp_lt (tgt := 23) hx hb dX0_make_17 (by decide) (fun c_17 => ?_) (fun c_17 => ?_)
    · refine lv_aload_n hx hb dX0_make_23 rfl (lv_at hl 0 rfl) ?_
      refine va_get (D := D) (ci := 0) (v := .ref (ad 1)) (C := RX0) (T := TX0) (N := 14) hx hb hts (fun _ h => List.mem_cons_of_mem _ (List.mem_append_right _ h)) hown hK hP 0 rfl rfl 0 (by decide) (hts (.fieldLink RX0 9 "PostDesk2" "made" "[I") (by decide +kernel)) (fun _ h9 => h9) rfl dX0_make_24 ?_
      refine lv_iload_n hx hb dX0_make_27 rfl (lv_at hl 1 rfl) ?_
      refine lv_dup2_11 hx hb dX0_make_28 rfl rfl ?_
      refine va_iald hx hb hK hP 1 0 rfl rfl (xkk_in c_4) dX0_make_29 ?_
      refine lv_iconst (v := 1) hx hb dX0_make_30 (by decide) ?_
      refine lv_iadd hx hb dX0_make_31 ?_
      refine va_iast hx hb hK hP hD hS 1 0 rfl rfl (xkk_in c_4) dX0_make_32 (fun H locs hP hD hS => ?_)
      have hP : va_P D vwCl (xw ad cd ((upd x0 (p1).toNatClampNeg ((x0 (p1).toNatClampNeg) + 1)), x1, x2, x3, x4, x5, x6, x7, x8, x9, x10, x11, x12, x13)) H := hP
      have hD : va_D A (xw ad cd ((upd x0 (p1).toNatClampNeg ((x0 (p1).toNatClampNeg) + 1)), x1, x2, x3, x4, x5, x6, x7, x8, x9, x10, x11, x12, x13)) := hD
      refine lv_aload_n hx hb dX0_make_33 rfl (lv_at hl 0 rfl) ?_
      refine va_get (D := D) (ci := 0) (v := .ref (ad 2)) (C := RX0) (T := TX0) (N := 14) hx hb hts (fun _ h => List.mem_cons_of_mem _ (List.mem_append_right _ h)) hown hK hP 0 rfl rfl 1 (by decide) (hts (.fieldLink RX0 13 "PostDesk2" "presentOfKind" "[I") (by decide +kernel)) (fun _ h9 => h9) rfl dX0_make_34 ?_
      refine lv_iload_n hx hb dX0_make_37 rfl (lv_at hl 1 rfl) ?_
      refine lv_dup2_11 hx hb dX0_make_38 rfl rfl ?_
      refine va_iald hx hb hK hP 2 1 rfl rfl (xkk_in c_4) dX0_make_39 ?_
      refine lv_iconst (v := 1) hx hb dX0_make_40 (by decide) ?_
      refine lv_iadd hx hb dX0_make_41 ?_
      refine va_iast hx hb hK hP hD hS 2 1 rfl rfl (xkk_in c_4) dX0_make_42 (fun H locs hP hD hS => ?_)
      have hP : va_P D vwCl (xw ad cd ((upd x0 (p1).toNatClampNeg ((x0 (p1).toNatClampNeg) + 1)), (upd x1 (p1).toNatClampNeg ((x1 (p1).toNatClampNeg) + 1)), x2, x3, x4, x5, x6, x7, x8, x9, x10, x11, x12, x13)) H := hP
      have hD : va_D A (xw ad cd ((upd x0 (p1).toNatClampNeg ((x0 (p1).toNatClampNeg) + 1)), (upd x1 (p1).toNatClampNeg ((x1 (p1).toNatClampNeg) + 1)), x2, x3, x4, x5, x6, x7, x8, x9, x10, x11, x12, x13)) := hD
      refine lv_aload_n hx hb dX0_make_43 rfl (lv_at hl 0 rfl) ?_
      refine va_get (D := D) (ci := 0) (v := .ref (ad 3)) (C := RX0) (T := TX0) (N := 14) hx hb hts (fun _ h => List.mem_cons_of_mem _ (List.mem_append_right _ h)) hown hK hP 0 rfl rfl 2 (by decide) (hts (.fieldLink RX0 16 "PostDesk2" "present" "[Z") (by decide +kernel)) (fun _ h9 => h9) rfl dX0_make_44 ?_
      refine lv_iload_n hx hb dX0_make_47 rfl (lv_at hl 1 rfl) ?_
      refine lv_bipush (v := 100) hx hb dX0_make_48 (by decide) ?_
      refine lv_imul hx hb dX0_make_50 ?_
      refine lv_aload_n hx hb dX0_make_51 rfl (lv_at hl 0 rfl) ?_
      refine va_get (D := D) (ci := 0) (v := .ref (ad 1)) (C := RX0) (T := TX0) (N := 14) hx hb hts (fun _ h => List.mem_cons_of_mem _ (List.mem_append_right _ h)) hown hK hP 0 rfl rfl 0 (by decide) (hts (.fieldLink RX0 9 "PostDesk2" "made" "[I") (by decide +kernel)) (fun _ h9 => h9) rfl dX0_make_52 ?_
      refine lv_iload_n hx hb dX0_make_55 rfl (lv_at hl 1 rfl) ?_
      refine va_iald hx hb hK hP 1 0 rfl rfl (xkk_in c_4) dX0_make_56 ?_
      refine lv_iadd hx hb dX0_make_57 ?_
      refine lv_iconst (v := 1) hx hb dX0_make_58 (by decide) ?_
      refine va_zast hx hb hK hP hD hS 3 2 rfl rfl (xmk_in c_4 (h1 _ (xkk_lt c_4)) c_17) dX0_make_59 (fun H locs hP hD hS => ?_)
      have hP : va_P D vwCl (xw ad cd ((upd x0 (p1).toNatClampNeg ((x0 (p1).toNatClampNeg) + 1)), (upd x1 (p1).toNatClampNeg ((x1 (p1).toNatClampNeg) + 1)), (upd x2 (((p1 * 100) + ((upd x0 (p1).toNatClampNeg ((x0 (p1).toNatClampNeg) + 1)) (p1).toNatClampNeg))).toNatClampNeg (vp_nar .boolean 1)), x3, x4, x5, x6, x7, x8, x9, x10, x11, x12, x13)) H := hP
      have hD : va_D A (xw ad cd ((upd x0 (p1).toNatClampNeg ((x0 (p1).toNatClampNeg) + 1)), (upd x1 (p1).toNatClampNeg ((x1 (p1).toNatClampNeg) + 1)), (upd x2 (((p1 * 100) + ((upd x0 (p1).toNatClampNeg ((x0 (p1).toNatClampNeg) + 1)) (p1).toNatClampNeg))).toNatClampNeg (vp_nar .boolean 1)), x3, x4, x5, x6, x7, x8, x9, x10, x11, x12, x13)) := hD
      refine lv_iload_n hx hb dX0_make_60 rfl (lv_at hl 1 rfl) ?_
      refine lv_sipush (v := 1000) hx hb dX0_make_61 (by decide) ?_
      refine lv_imul hx hb dX0_make_64 ?_
      refine lv_aload_n hx hb dX0_make_65 rfl (lv_at hl 0 rfl) ?_
      refine va_get (D := D) (ci := 0) (v := .ref (ad 1)) (C := RX0) (T := TX0) (N := 14) hx hb hts (fun _ h => List.mem_cons_of_mem _ (List.mem_append_right _ h)) hown hK hP 0 rfl rfl 0 (by decide) (hts (.fieldLink RX0 9 "PostDesk2" "made" "[I") (by decide +kernel)) (fun _ h9 => h9) rfl dX0_make_66 ?_
      refine lv_iload_n hx hb dX0_make_69 rfl (lv_at hl 1 rfl) ?_
      refine va_iald hx hb hK hP 1 0 rfl rfl (xkk_in c_4) dX0_make_70 ?_
      refine lv_iadd hx hb dX0_make_71 ?_
      exact W.iret (v := ((p1 * 1000) + ((upd x0 (p1).toNatClampNeg ((x0 (p1).toNatClampNeg) + 1)) (p1).toNatClampNeg))) hx hb hr (fun t ht hW => ⟨⟨((p1 * 1000) + ((upd x0 (p1).toNatClampNeg ((x0 (p1).toNatClampNeg) + 1)) (p1).toNatClampNeg)), ((upd x0 (p1).toNatClampNeg ((x0 (p1).toNatClampNeg) + 1)), (upd x1 (p1).toNatClampNeg ((x1 (p1).toNatClampNeg) + 1)), (upd x2 (((p1 * 100) + ((upd x0 (p1).toNatClampNeg ((x0 (p1).toNatClampNeg) + 1)) (p1).toNatClampNeg))).toNatClampNeg (vp_nar .boolean 1)), x3, x4, x5, x6, x7, x8, x9, x10, x11, x12, x13), rfl, (by simp only [xf_make, if_neg c_4, if_pos c_17]), by rw [ht]; exact hP, va_K.moved hW.alike hK, hD⟩, hS.F ht⟩) hS.2.2 dX0_make_72
    · refine lv_bipush (v := (-14)) hx hb dX0_make_20 (by decide) ?_
      exact W.iret (v := (-14)) hx hb hr (fun t ht hW => ⟨⟨(-14), (x0, x1, x2, x3, x4, x5, x6, x7, x8, x9, x10, x11, x12, x13), rfl, (by simp only [xf_make, if_neg c_4, if_neg c_17]), by rw [ht]; exact hP, va_K.moved hW.alike hK, hD⟩, hS.F ht⟩) hS.2.2 dX0_make_22
  · refine lv_iconst (v := (-1)) hx hb dX0_make_7 (by decide) ?_
    exact W.iret (v := (-1)) hx hb hr (fun t ht hW => ⟨⟨(-1), (x0, x1, x2, x3, x4, x5, x6, x7, x8, x9, x10, x11, x12, x13), rfl, (by simp only [xf_make, if_pos c_4]), by rw [ht]; exact hP, va_K.moved hW.alike hK, hD⟩, hS.F ht⟩) hS.2.2 dX0_make_8
def xf_drop (u : XS) (p1 : Int32) : Int32 × XS := match u with
  | (x0, x1, x2, x3, x4, x5, x6, x7, x8, x9, x10, x11, x12, x13) => if (xf_placeOf p1) = (-1) then ((0, (x0, x1, x2, x3, x4, x5, x6, x7, x8, x9, x10, x11, x12, x13))) else (if (x2 ((xf_placeOf p1)).toNatClampNeg) = 0 then ((0, (x0, x1, x2, x3, x4, x5, x6, x7, x8, x9, x10, x11, x12, x13))) else ((1, (x0, (upd x1 ((p1 / 1000)).toNatClampNeg ((x1 ((p1 / 1000)).toNatClampNeg) - 1)), (upd x2 ((xf_placeOf p1)).toNatClampNeg (vp_nar .boolean 0)), x3, x4, x5, x6, x7, x8, x9, x10, x11, x12, x13))))
set_option maxHeartbeats 4000000 in
set_option maxRecDepth 100000 in
theorem xk_drop (l : Launch) (D : va_G) (ad : Nat → Nat) (cd : Nat → ClassId) (u : XS) (sz : Nat) (p1 : Int32)  : Met l yX0_drop wsX0_drop ({ frames := 2, cells := 0, slots := 0, locals := 42 }) (xPc D ad cd u sz [.int p1]) (va_Qi (fun r u2 => (r, u2) = xf_drop u p1) (xat D ad cd (va_A (xw ad cd u) sz)) (va_A (xw ad cd u) sz)) 0 0 (va_A (xw ad cd u) sz) := by
  obtain ⟨x0, x1, x2, x3, x4, x5, x6, x7, x8, x9, x10, x11, x12, x13⟩ := u
  refine Met.ofW (cc := cX0_drop) (maxL := 3) (ret := (some .boolean)) (by decide) rfl ?_
  intro p e s m args below meth c s₁ B hml hv
  obtain ⟨rfl, hsz, hP, hK, hD0⟩ := hv
  have hx := B.exec
  have hb := B.bytes
  have hr := B.returns
  have hts := atoms_spec (ws := wsX0_drop) B.pre
  have hown : s.vm.findClass RX0 = some m.cls := findClass_of_methodNamed B.named
  have hlocks := B.notSynchronized
  subst hsz
  have hD := hD0.self (sz := s.heap.size)
  generalize hAe : va_A (xw ad cd (x0, x1, x2, x3, x4, x5, x6, x7, x8, x9, x10, x11, x12, x13)) s.heap.size = A at hD ⊢
  have hA : ∀ q : Nat, s.heap.size ≤ q → A q := fun q h => by rw [← hAe]; exact Or.inr h
  have hS : va_S A s.heap s.heap [] := va_S.rf
  have hP : va_P D vwCl (xw ad cd (x0, x1, x2, x3, x4, x5, x6, x7, x8, x9, x10, x11, x12, x13)) s.heap := hP
  have hl := lv_entry ([.ref (ad 0), .int p1]) (n := 3) (Nat.le_of_ble_eq_true rfl)
  rw [lg_entry_eq]
  generalize (lg_sl ([.ref (ad 0), .int p1]) ++ List.replicate (3 - (lg_sl ([.ref (ad 0), .int p1])).length) Slot.unset).toArray = ls at hl ⊢
  have hl : lv_has ls 3 [(0, .ref (ad 0)), (1, .int p1)] := hl
  refine lv_iload_n hx hb dX0_drop_0 rfl (lv_at hl 1 rfl) ?_
  refine vp_callSi (W.runS (As := [.int p1]) (rest := []) ⟨hx, hb, hml, hown, hts⟩ (xk_placeOf l p1) (va_cwS 1 hts gX0_drop_X0_placeOf rfl rfl rfl (by decide +kernel) ⟨Nat.le_of_ble_eq_true rfl, Nat.le_of_ble_eq_true rfl⟩) ⟨fun a U g mk q => q, fun U hU hW => ⟨rfl, trivial⟩⟩ rfl rfl hl.1 rfl (lv_room (Nat.le_of_ble_eq_true rfl)) dX0_drop_1 ⟨Nat.zero_le _, Nat.zero_le _⟩) (fun r_1 hr_1 => ?_)
  subst hr_1
  refine lv_istore_n (lv' := [(2, .int (xf_placeOf p1)), (0, .ref (ad 0)), (1, .int p1)]) hx hb dX0_drop_4 rfl hl (by decide) rfl (fun ls hl => ?_)
  refine lv_iload_n hx hb dX0_drop_5 rfl (lv_at hl 0 rfl) ?_
  refine lv_iconst (v := (-1)) hx hb dX0_drop_6 (by decide) ?_
  refine lv_icmp_eq (tgt := 19) hx hb dX0_drop_7 (by decide) (fun c_7 => ?_) (fun c_7 => ?_)
  · refine lv_iconst (v := 0) hx hb dX0_drop_19 (by decide) ?_
    exact W.zret (v := 0) (ty := .boolean) hx hb hr rfl (fun t ht hW => ⟨⟨0, (x0, x1, x2, x3, x4, x5, x6, x7, x8, x9, x10, x11, x12, x13), rfl, (by simp only [xf_drop, if_pos c_7]), by rw [ht]; exact hP, va_K.moved hW.alike hK, hD⟩, hS.F ht⟩) hS.2.2 dX0_drop_20
  · refine lv_aload_n hx hb dX0_drop_10 rfl (lv_at hl 1 rfl) ?_
    refine va_get (D := D) (ci := 0) (v := .ref (ad 3)) (C := RX0) (T := TX0) (N := 14) hx hb hts (fun _ h => List.mem_cons_of_mem _ (List.mem_append_right _ h)) hown hK hP 0 rfl rfl 2 (by decide) (hts (.fieldLink RX0 16 "PostDesk2" "present" "[Z") (by decide +kernel)) (fun _ h9 => h9) rfl dX0_drop_11 ?_
    refine lv_iload_n hx hb dX0_drop_14 rfl (lv_at hl 0 rfl) ?_
    refine va_zald hx hb hK hP 3 2 rfl rfl (xpl_in c_7) dX0_drop_15 ?_
    refine lv_if_ne (tgt := 21) hx hb dX0_drop_16 (by decide) (fun c_16 => ?_) (fun c_16 => ?_)
    · refine lv_aload_n hx hb dX0_drop_21 rfl (lv_at hl 1 rfl) ?_
      refine va_get (D := D) (ci := 0) (v := .ref (ad 3)) (C := RX0) (T := TX0) (N := 14) hx hb hts (fun _ h => List.mem_cons_of_mem _ (List.mem_append_right _ h)) hown hK hP 0 rfl rfl 2 (by decide) (hts (.fieldLink RX0 16 "PostDesk2" "present" "[Z") (by decide +kernel)) (fun _ h9 => h9) rfl dX0_drop_22 ?_
      refine lv_iload_n hx hb dX0_drop_25 rfl (lv_at hl 0 rfl) ?_
      refine lv_iconst (v := 0) hx hb dX0_drop_26 (by decide) ?_
      refine va_zast hx hb hK hP hD hS 3 2 rfl rfl (xpl_in c_7) dX0_drop_27 (fun H locs hP hD hS => ?_)
      have hP : va_P D vwCl (xw ad cd (x0, x1, (upd x2 ((xf_placeOf p1)).toNatClampNeg (vp_nar .boolean 0)), x3, x4, x5, x6, x7, x8, x9, x10, x11, x12, x13)) H := hP
      have hD : va_D A (xw ad cd (x0, x1, (upd x2 ((xf_placeOf p1)).toNatClampNeg (vp_nar .boolean 0)), x3, x4, x5, x6, x7, x8, x9, x10, x11, x12, x13)) := hD
      refine lv_aload_n hx hb dX0_drop_28 rfl (lv_at hl 1 rfl) ?_
      refine va_get (D := D) (ci := 0) (v := .ref (ad 2)) (C := RX0) (T := TX0) (N := 14) hx hb hts (fun _ h => List.mem_cons_of_mem _ (List.mem_append_right _ h)) hown hK hP 0 rfl rfl 1 (by decide) (hts (.fieldLink RX0 13 "PostDesk2" "presentOfKind" "[I") (by decide +kernel)) (fun _ h9 => h9) rfl dX0_drop_29 ?_
      refine lv_iload_n hx hb dX0_drop_32 rfl (lv_at hl 2 rfl) ?_
      refine lv_sipush (v := 1000) hx hb dX0_drop_33 (by decide) ?_
      refine lv_idiv hx hb dX0_drop_36 (by decide) ?_
      refine lv_dup2_11 hx hb dX0_drop_37 rfl rfl ?_
      refine va_iald hx hb hK hP 2 1 rfl rfl (xpl_kd c_7) dX0_drop_38 ?_
      refine lv_iconst (v := 1) hx hb dX0_drop_39 (by decide) ?_
      refine lv_isub hx hb dX0_drop_40 ?_
      refine va_iast hx hb hK hP hD hS 2 1 rfl rfl (xpl_kd c_7) dX0_drop_41 (fun H locs hP hD hS => ?_)
      have hP : va_P D vwCl (xw ad cd (x0, (upd x1 ((p1 / 1000)).toNatClampNeg ((x1 ((p1 / 1000)).toNatClampNeg) - 1)), (upd x2 ((xf_placeOf p1)).toNatClampNeg (vp_nar .boolean 0)), x3, x4, x5, x6, x7, x8, x9, x10, x11, x12, x13)) H := hP
      have hD : va_D A (xw ad cd (x0, (upd x1 ((p1 / 1000)).toNatClampNeg ((x1 ((p1 / 1000)).toNatClampNeg) - 1)), (upd x2 ((xf_placeOf p1)).toNatClampNeg (vp_nar .boolean 0)), x3, x4, x5, x6, x7, x8, x9, x10, x11, x12, x13)) := hD
      refine lv_iconst (v := 1) hx hb dX0_drop_42 (by decide) ?_
      exact W.zret (v := 1) (ty := .boolean) hx hb hr rfl (fun t ht hW => ⟨⟨1, (x0, (upd x1 ((p1 / 1000)).toNatClampNeg ((x1 ((p1 / 1000)).toNatClampNeg) - 1)), (upd x2 ((xf_placeOf p1)).toNatClampNeg (vp_nar .boolean 0)), x3, x4, x5, x6, x7, x8, x9, x10, x11, x12, x13), rfl, (by simp only [xf_drop, if_neg c_7, if_neg c_16]), by rw [ht]; exact hP, va_K.moved hW.alike hK, hD⟩, hS.F ht⟩) hS.2.2 dX0_drop_43
    · refine lv_iconst (v := 0) hx hb dX0_drop_19 (by decide) ?_
      exact W.zret (v := 0) (ty := .boolean) hx hb hr rfl (fun t ht hW => ⟨⟨0, (x0, x1, x2, x3, x4, x5, x6, x7, x8, x9, x10, x11, x12, x13), rfl, (by simp only [xf_drop, if_neg c_7, if_pos c_16]), by rw [ht]; exact hP, va_K.moved hW.alike hK, hD⟩, hS.F ht⟩) hS.2.2 dX0_drop_20
def xf_call (u : XS) (p1 : Int32) (p2 : Int32) (p3 : Int64) : Int64 × XS := match u with
  | (x0, x1, x2, x3, x4, x5, x6, x7, x8, x9, x10, x11, x12, x13) => if (lg_cmp (xf_refusalOf (x0, x1, x2, x3, x4, x5, x6, x7, x8, x9, x10, x11, x12, x13) p1 p2) (-9000000000000000012)) = 0 then (((-9000000000000000012), (x0, x1, x2, x3, x4, x5, x6, x7, x8, x9, x10, x11, x12, x13))) else (((xf_replyTo (x0, x1, x2, x3, x4, x5, x6, x7, x8, x9, x10, x11, x12, x13) (xf_refusalOf (x0, x1, x2, x3, x4, x5, x6, x7, x8, x9, x10, x11, x12, x13) p1 p2) p1 p3), (xf_settle (x0, x1, x2, x3, x4, x5, x6, x7, x8, x9, x10, x11, x12, (xf_logBehind (x0, x1, x2, x3, x4, x5, x6, x7, x8, x9, x10, x11, x12, x13) (xf_refusalOf (x0, x1, x2, x3, x4, x5, x6, x7, x8, x9, x10, x11, x12, x13) p1 p2) p1 p2 (xf_replyTo (x0, x1, x2, x3, x4, x5, x6, x7, x8, x9, x10, x11, x12, x13) (xf_refusalOf (x0, x1, x2, x3, x4, x5, x6, x7, x8, x9, x10, x11, x12, x13) p1 p2) p1 p3))) (xf_refusalOf (x0, x1, x2, x3, x4, x5, x6, x7, x8, x9, x10, x11, x12, x13) p1 p2) p1 p2)))
set_option maxHeartbeats 4000000 in
set_option maxRecDepth 100000 in
theorem xk_call (l : Launch) (D : va_G) (ad : Nat → Nat) (cd : Nat → ClassId) (u : XS) (sz : Nat) (p1 : Int32) (p2 : Int32) (p3 : Int64)  : Met l yX0_call wsX0_call ({ frames := 4, cells := 0, slots := 0, locals := 86 }) (xPc D ad cd u sz [.int p1, .int p2, .long p3]) (va_Ql (fun r u2 => (r, u2) = xf_call u p1 p2 p3) (xat D ad cd (va_A (xw ad cd u) sz)) (va_A (xw ad cd u) sz)) 0 0 (va_A (xw ad cd u) sz) := by
  obtain ⟨x0, x1, x2, x3, x4, x5, x6, x7, x8, x9, x10, x11, x12, x13⟩ := u
  refine Met.ofW (cc := cX0_call) (maxL := 9) (ret := (some .long)) (by decide) rfl ?_
  intro p e s m args below meth c s₁ B hml hv
  obtain ⟨rfl, hsz, hP, hK, hD0⟩ := hv
  have hx := B.exec
  have hb := B.bytes
  have hr := B.returns
  have hts := atoms_spec (ws := wsX0_call) B.pre
  have hown : s.vm.findClass RX0 = some m.cls := findClass_of_methodNamed B.named
  have hlocks := B.notSynchronized
  subst hsz
  have hD := hD0.self (sz := s.heap.size)
  generalize hAe : va_A (xw ad cd (x0, x1, x2, x3, x4, x5, x6, x7, x8, x9, x10, x11, x12, x13)) s.heap.size = A at hD ⊢
  have hA : ∀ q : Nat, s.heap.size ≤ q → A q := fun q h => by rw [← hAe]; exact Or.inr h
  have hS : va_S A s.heap s.heap [] := va_S.rf
  have hP : va_P D vwCl (xw ad cd (x0, x1, x2, x3, x4, x5, x6, x7, x8, x9, x10, x11, x12, x13)) s.heap := hP
  have hl := lv_entry ([.ref (ad 0), .int p1, .int p2, .long p3]) (n := 9) (Nat.le_of_ble_eq_true rfl)
  rw [lg_entry_eq]
  generalize (lg_sl ([.ref (ad 0), .int p1, .int p2, .long p3]) ++ List.replicate (9 - (lg_sl ([.ref (ad 0), .int p1, .int p2, .long p3])).length) Slot.unset).toArray = ls at hl ⊢
  have hl : lv_has ls 9 [(0, .ref (ad 0)), (1, .int p1), (2, .int p2), (3, .long p3)] := hl
  refine lv_aload_n hx hb dX0_call_0 rfl (lv_at hl 0 rfl) ?_
  refine lv_iload_n hx hb dX0_call_1 rfl (lv_at hl 1 rfl) ?_
  refine lv_iload_n hx hb dX0_call_2 rfl (lv_at hl 2 rfl) ?_
  refine vp_callSl (W.runV (As := [.int p1, .int p2]) (rest := []) ⟨hx, hb, hml, hown, hts⟩ (xk_refusalOf l D ad cd (x0, x1, x2, x3, x4, x5, x6, x7, x8, x9, x10, x11, x12, x13) p1 p2) (cwV 2 hts gX0_call_X0_refusalOf rfl rfl rfl (by decide +kernel) ⟨Nat.le_of_ble_eq_true rfl, Nat.le_of_ble_eq_true rfl⟩) ⟨fun a U g mk q => ⟨q.1, q.2.1, va_K.moved (u := U) (U := U.calling g mk a) (Vm.Alike.refl U.vm) q.2.2⟩, va_recv hK hP (ci := 0) (q0 := 0) rfl rfl, fun U hU hW => ⟨rfl, by rw [hU]; exact hP, va_K.moved hW.alike hK⟩⟩ rfl rfl hl.1 rfl (lv_room (Nat.le_of_ble_eq_true rfl)) dX0_call_3 ⟨Nat.zero_le _, Nat.zero_le _⟩) (fun r_3 hr_3 => ?_)
  subst hr_3
  refine lv_lstore (lv' := [(5, .long (xf_refusalOf (x0, x1, x2, x3, x4, x5, x6, x7, x8, x9, x10, x11, x12, x13) p1 p2)), (0, .ref (ad 0)), (1, .int p1), (2, .int p2), (3, .long p3)]) hx hb dX0_call_6 hl (by decide) rfl (fun ls hl => ?_)
  refine lv_lload hx hb dX0_call_8 (lv_at hl 0 rfl) ?_
  refine lv_ldc2 (v := (-9000000000000000012)) hx hb hown (hts (.constantLong RX0 71 (-9000000000000000012)) (by decide +kernel)) dX0_call_10 ?_
  refine W.lcmp hx hb dX0_call_13 ?_
  refine lv_if_ne (tgt := 21) hx hb dX0_call_14 (by decide) (fun c_14 => ?_) (fun c_14 => ?_)
  · refine lv_aload_n hx hb dX0_call_21 rfl (lv_at hl 1 rfl) ?_
    refine lv_lload hx hb dX0_call_22 (lv_at hl 0 rfl) ?_
    refine lv_iload_n hx hb dX0_call_24 rfl (lv_at hl 2 rfl) ?_
    refine lv_lload_n hx hb dX0_call_25 rfl (lv_at hl 4 rfl) ?_
    refine vp_callSl (W.runV (As := [.long (xf_refusalOf (x0, x1, x2, x3, x4, x5, x6, x7, x8, x9, x10, x11, x12, x13) p1 p2), .int p1, .long p3]) (rest := []) ⟨hx, hb, hml, hown, hts⟩ (xk_replyTo l D ad cd (x0, x1, x2, x3, x4, x5, x6, x7, x8, x9, x10, x11, x12, x13) (xf_refusalOf (x0, x1, x2, x3, x4, x5, x6, x7, x8, x9, x10, x11, x12, x13) p1 p2) p1 p3 (xro_in _ _ _)) (cwV 3 hts gX0_call_X0_replyTo rfl rfl rfl (by decide +kernel) ⟨Nat.le_of_ble_eq_true rfl, Nat.le_of_ble_eq_true rfl⟩) ⟨fun a U g mk q => ⟨q.1, q.2.1, va_K.moved (u := U) (U := U.calling g mk a) (Vm.Alike.refl U.vm) q.2.2⟩, va_recv hK hP (ci := 0) (q0 := 0) rfl rfl, fun U hU hW => ⟨rfl, by rw [hU]; exact hP, va_K.moved hW.alike hK⟩⟩ rfl rfl hl.1 rfl (lv_room (Nat.le_of_ble_eq_true rfl)) dX0_call_26 ⟨Nat.zero_le _, Nat.zero_le _⟩) (fun r_26 hr_26 => ?_)
    subst hr_26
    refine lv_lstore (lv' := [(7, .long (xf_replyTo (x0, x1, x2, x3, x4, x5, x6, x7, x8, x9, x10, x11, x12, x13) (xf_refusalOf (x0, x1, x2, x3, x4, x5, x6, x7, x8, x9, x10, x11, x12, x13) p1 p2) p1 p3)), (5, .long (xf_refusalOf (x0, x1, x2, x3, x4, x5, x6, x7, x8, x9, x10, x11, x12, x13) p1 p2)), (0, .ref (ad 0)), (1, .int p1), (2, .int p2), (3, .long p3)]) hx hb dX0_call_29 hl (by decide) rfl (fun ls hl => ?_)
    refine lv_aload_n hx hb dX0_call_31 rfl (lv_at hl 2 rfl) ?_
    refine lv_aload_n hx hb dX0_call_32 rfl (lv_at hl 2 rfl) ?_
    refine lv_lload hx hb dX0_call_33 (lv_at hl 1 rfl) ?_
    refine lv_iload_n hx hb dX0_call_35 rfl (lv_at hl 3 rfl) ?_
    refine lv_iload_n hx hb dX0_call_36 rfl (lv_at hl 4 rfl) ?_
    refine lv_lload hx hb dX0_call_37 (lv_at hl 0 rfl) ?_
    refine vp_callSl (W.runV (As := [.long (xf_refusalOf (x0, x1, x2, x3, x4, x5, x6, x7, x8, x9, x10, x11, x12, x13) p1 p2), .int p1, .int p2, .long (xf_replyTo (x0, x1, x2, x3, x4, x5, x6, x7, x8, x9, x10, x11, x12, x13) (xf_refusalOf (x0, x1, x2, x3, x4, x5, x6, x7, x8, x9, x10, x11, x12, x13) p1 p2) p1 p3)]) (rest := [.ref (ad 0)]) ⟨hx, hb, hml, hown, hts⟩ (xk_logBehind l D ad cd (x0, x1, x2, x3, x4, x5, x6, x7, x8, x9, x10, x11, x12, x13) (xf_refusalOf (x0, x1, x2, x3, x4, x5, x6, x7, x8, x9, x10, x11, x12, x13) p1 p2) p1 p2 (xf_replyTo (x0, x1, x2, x3, x4, x5, x6, x7, x8, x9, x10, x11, x12, x13) (xf_refusalOf (x0, x1, x2, x3, x4, x5, x6, x7, x8, x9, x10, x11, x12, x13) p1 p2) p1 p3) (xro_in _ _ _)) (cwV 4 hts gX0_call_X0_logBehind rfl rfl rfl (by decide +kernel) ⟨Nat.le_of_ble_eq_true rfl, Nat.le_of_ble_eq_true rfl⟩) ⟨fun a U g mk q => ⟨q.1, q.2.1, va_K.moved (u := U) (U := U.calling g mk a) (Vm.Alike.refl U.vm) q.2.2⟩, va_recv hK hP (ci := 0) (q0 := 0) rfl rfl, fun U hU hW => ⟨rfl, by rw [hU]; exact hP, va_K.moved hW.alike hK⟩⟩ rfl rfl hl.1 rfl (lv_room (Nat.le_of_ble_eq_true rfl)) dX0_call_39 ⟨Nat.zero_le _, Nat.zero_le _⟩) (fun r_39 hr_39 => ?_)
    subst hr_39
    refine va_put (D := D) (ci := 0) (v := .long (xf_logBehind (x0, x1, x2, x3, x4, x5, x6, x7, x8, x9, x10, x11, x12, x13) (xf_refusalOf (x0, x1, x2, x3, x4, x5, x6, x7, x8, x9, x10, x11, x12, x13) p1 p2) p1 p2 (xf_replyTo (x0, x1, x2, x3, x4, x5, x6, x7, x8, x9, x10, x11, x12, x13) (xf_refusalOf (x0, x1, x2, x3, x4, x5, x6, x7, x8, x9, x10, x11, x12, x13) p1 p2) p1 p3))) (ty := .long) (C := RX0) (T := TX0) (N := 14) hx hb hts (fun _ h => List.mem_cons_of_mem _ (List.mem_append_right _ h)) tyX0 tyX0_ok nmX0 hown hK hP hD hS 0 rfl rfl 13 (by decide) (hts (.fieldLink RX0 55 "PostDesk2" "logged" "J") (by decide +kernel)) (fun _ h9 => h9) rfl (by decide +kernel) rfl rfl (Nat.le_of_ble_eq_true rfl) dX0_call_42 (fun H locs hP hD hS => ?_)
    have hP : va_P D vwCl (xw ad cd (x0, x1, x2, x3, x4, x5, x6, x7, x8, x9, x10, x11, x12, (xf_logBehind (x0, x1, x2, x3, x4, x5, x6, x7, x8, x9, x10, x11, x12, x13) (xf_refusalOf (x0, x1, x2, x3, x4, x5, x6, x7, x8, x9, x10, x11, x12, x13) p1 p2) p1 p2 (xf_replyTo (x0, x1, x2, x3, x4, x5, x6, x7, x8, x9, x10, x11, x12, x13) (xf_refusalOf (x0, x1, x2, x3, x4, x5, x6, x7, x8, x9, x10, x11, x12, x13) p1 p2) p1 p3)))) H := hP
    have hD : va_D A (xw ad cd (x0, x1, x2, x3, x4, x5, x6, x7, x8, x9, x10, x11, x12, (xf_logBehind (x0, x1, x2, x3, x4, x5, x6, x7, x8, x9, x10, x11, x12, x13) (xf_refusalOf (x0, x1, x2, x3, x4, x5, x6, x7, x8, x9, x10, x11, x12, x13) p1 p2) p1 p2 (xf_replyTo (x0, x1, x2, x3, x4, x5, x6, x7, x8, x9, x10, x11, x12, x13) (xf_refusalOf (x0, x1, x2, x3, x4, x5, x6, x7, x8, x9, x10, x11, x12, x13) p1 p2) p1 p3)))) := hD
    refine lv_aload_n hx hb dX0_call_45 rfl (lv_at hl 2 rfl) ?_
    refine lv_lload hx hb dX0_call_46 (lv_at hl 1 rfl) ?_
    refine lv_iload_n hx hb dX0_call_48 rfl (lv_at hl 3 rfl) ?_
    refine lv_iload_n hx hb dX0_call_49 rfl (lv_at hl 4 rfl) ?_
    have hFc := va_free (wc := xw ad cd (x0, x1, x2, x3, x4, x5, x6, x7, x8, x9, x10, x11, x12, (xf_logBehind (x0, x1, x2, x3, x4, x5, x6, x7, x8, x9, x10, x11, x12, x13) (xf_refusalOf (x0, x1, x2, x3, x4, x5, x6, x7, x8, x9, x10, x11, x12, x13) p1 p2) p1 p2 (xf_replyTo (x0, x1, x2, x3, x4, x5, x6, x7, x8, x9, x10, x11, x12, x13) (xf_refusalOf (x0, x1, x2, x3, x4, x5, x6, x7, x8, x9, x10, x11, x12, x13) p1 p2) p1 p3)))) hD hS hA [0, 1, 2, 3, 4, 5] rfl
    refine va_callv (va_runV (As := [.long (xf_refusalOf (x0, x1, x2, x3, x4, x5, x6, x7, x8, x9, x10, x11, x12, x13) p1 p2), .int p1, .int p2]) (rest := []) ⟨hx, hb, hml, hown, hts⟩ (xk_settle l D ad cd (x0, x1, x2, x3, x4, x5, x6, x7, x8, x9, x10, x11, x12, (xf_logBehind (x0, x1, x2, x3, x4, x5, x6, x7, x8, x9, x10, x11, x12, x13) (xf_refusalOf (x0, x1, x2, x3, x4, x5, x6, x7, x8, x9, x10, x11, x12, x13) p1 p2) p1 p2 (xf_replyTo (x0, x1, x2, x3, x4, x5, x6, x7, x8, x9, x10, x11, x12, x13) (xf_refusalOf (x0, x1, x2, x3, x4, x5, x6, x7, x8, x9, x10, x11, x12, x13) p1 p2) p1 p3))) H.size (xf_refusalOf (x0, x1, x2, x3, x4, x5, x6, x7, x8, x9, x10, x11, x12, x13) p1 p2) p1 p2 (xro_in _ _ _)) (cwV 3 hts gX0_call_X0_settle rfl rfl rfl (by decide +kernel) ⟨Nat.le_of_ble_eq_true rfl, Nat.le_of_ble_eq_true rfl⟩) ⟨fun a U g mk q => ⟨q.1, q.2.1, q.2.2.1, va_K.moved (u := U) (U := U.calling g mk a) (Vm.Alike.refl U.vm) q.2.2.2.1, q.2.2.2.2⟩, va_recv hK hP (ci := 0) (q0 := 0) rfl rfl, fun U hU hW => ⟨rfl, by rw [hU], by rw [hU]; exact hP, va_K.moved hW.alike hK, hD.weaken (fun _ _ _ _ => trivial)⟩⟩ rfl rfl hl.1 rfl (lv_room (Nat.le_of_ble_eq_true rfl)) dX0_call_50 ⟨Nat.zero_le _, Nat.zero_le _⟩) hS (fun q _ h => hFc q h) hFc (fun u_50 t H1 locs ht hvm hw hB hz1 hk1 hS => ?_)
    obtain ⟨hP1, hK1, hD1⟩ := hB
    rw [ht] at hP1
    obtain ⟨hP, hD⟩ := va_join (wr := []) (w1 := xw ad cd u_50) hP hD [0, 1, 2, 3, 4, 5] [] rfl rfl (by decide) (by decide) hk1 hFc hP1 hD1
    generalize H1 = H at hP hS ⊢
    have hu_50 : u_50 = (xf_settle (x0, x1, x2, x3, x4, x5, x6, x7, x8, x9, x10, x11, x12, (xf_logBehind (x0, x1, x2, x3, x4, x5, x6, x7, x8, x9, x10, x11, x12, x13) (xf_refusalOf (x0, x1, x2, x3, x4, x5, x6, x7, x8, x9, x10, x11, x12, x13) p1 p2) p1 p2 (xf_replyTo (x0, x1, x2, x3, x4, x5, x6, x7, x8, x9, x10, x11, x12, x13) (xf_refusalOf (x0, x1, x2, x3, x4, x5, x6, x7, x8, x9, x10, x11, x12, x13) p1 p2) p1 p3))) (xf_refusalOf (x0, x1, x2, x3, x4, x5, x6, x7, x8, x9, x10, x11, x12, x13) p1 p2) p1 p2) := hw
    subst hu_50
    have hP : va_P D vwCl (xw ad cd (xf_settle (x0, x1, x2, x3, x4, x5, x6, x7, x8, x9, x10, x11, x12, (xf_logBehind (x0, x1, x2, x3, x4, x5, x6, x7, x8, x9, x10, x11, x12, x13) (xf_refusalOf (x0, x1, x2, x3, x4, x5, x6, x7, x8, x9, x10, x11, x12, x13) p1 p2) p1 p2 (xf_replyTo (x0, x1, x2, x3, x4, x5, x6, x7, x8, x9, x10, x11, x12, x13) (xf_refusalOf (x0, x1, x2, x3, x4, x5, x6, x7, x8, x9, x10, x11, x12, x13) p1 p2) p1 p3))) (xf_refusalOf (x0, x1, x2, x3, x4, x5, x6, x7, x8, x9, x10, x11, x12, x13) p1 p2) p1 p2)) H := hP
    have hD : va_D A (xw ad cd (xf_settle (x0, x1, x2, x3, x4, x5, x6, x7, x8, x9, x10, x11, x12, (xf_logBehind (x0, x1, x2, x3, x4, x5, x6, x7, x8, x9, x10, x11, x12, x13) (xf_refusalOf (x0, x1, x2, x3, x4, x5, x6, x7, x8, x9, x10, x11, x12, x13) p1 p2) p1 p2 (xf_replyTo (x0, x1, x2, x3, x4, x5, x6, x7, x8, x9, x10, x11, x12, x13) (xf_refusalOf (x0, x1, x2, x3, x4, x5, x6, x7, x8, x9, x10, x11, x12, x13) p1 p2) p1 p3))) (xf_refusalOf (x0, x1, x2, x3, x4, x5, x6, x7, x8, x9, x10, x11, x12, x13) p1 p2) p1 p2)) := hD
    refine lv_lload hx hb dX0_call_53 (lv_at hl 0 rfl) ?_
    exact W.lret (v := (xf_replyTo (x0, x1, x2, x3, x4, x5, x6, x7, x8, x9, x10, x11, x12, x13) (xf_refusalOf (x0, x1, x2, x3, x4, x5, x6, x7, x8, x9, x10, x11, x12, x13) p1 p2) p1 p3)) hx hb hr (fun t ht hW => ⟨⟨(xf_replyTo (x0, x1, x2, x3, x4, x5, x6, x7, x8, x9, x10, x11, x12, x13) (xf_refusalOf (x0, x1, x2, x3, x4, x5, x6, x7, x8, x9, x10, x11, x12, x13) p1 p2) p1 p3), (xf_settle (x0, x1, x2, x3, x4, x5, x6, x7, x8, x9, x10, x11, x12, (xf_logBehind (x0, x1, x2, x3, x4, x5, x6, x7, x8, x9, x10, x11, x12, x13) (xf_refusalOf (x0, x1, x2, x3, x4, x5, x6, x7, x8, x9, x10, x11, x12, x13) p1 p2) p1 p2 (xf_replyTo (x0, x1, x2, x3, x4, x5, x6, x7, x8, x9, x10, x11, x12, x13) (xf_refusalOf (x0, x1, x2, x3, x4, x5, x6, x7, x8, x9, x10, x11, x12, x13) p1 p2) p1 p3))) (xf_refusalOf (x0, x1, x2, x3, x4, x5, x6, x7, x8, x9, x10, x11, x12, x13) p1 p2) p1 p2), rfl, (by simp only [xf_call, if_neg c_14]), by rw [ht]; exact hP, va_K.moved hW.alike hK, hD⟩, hS.F ht⟩) hS.2.2 dX0_call_55
  · refine lv_ldc2 (v := (-9000000000000000012)) hx hb hown (hts (.constantLong RX0 71 (-9000000000000000012)) (by decide +kernel)) dX0_call_17 ?_
    exact W.lret (v := (-9000000000000000012)) hx hb hr (fun t ht hW => ⟨⟨(-9000000000000000012), (x0, x1, x2, x3, x4, x5, x6, x7, x8, x9, x10, x11, x12, x13), rfl, (by simp only [xf_call, if_pos c_14]), by rw [ht]; exact hP, va_K.moved hW.alike hK, hD⟩, hS.F ht⟩) hS.2.2 dX0_call_20
