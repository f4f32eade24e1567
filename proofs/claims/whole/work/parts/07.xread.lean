def xf_isThere (u : XS) (p1 : Int32) : Int32 := match u with
  | (_, _, x2, _, _, _, _, _, _, _, _, _, _, _) => if (xf_placeOf p1) = (-1) then (0) else (if (x2 ((xf_placeOf p1)).toNatClampNeg) = 0 then (0) else (1))
set_option maxHeartbeats 4000000 in
set_option maxRecDepth 100000 in
theorem xk_isThere (l : Launch) (D : va_G) (ad : Nat → Nat) (cd : Nat → ClassId) (u : XS) (p1 : Int32)  : Met l yX0_isThere wsX0_isThere ({ frames := 2, cells := 0, slots := 0, locals := 42 }) (xPr D ad cd u [.int p1]) (vp_Si (fun r => r = xf_isThere u p1)) 0 0 (fun _ => False) := by
  obtain ⟨x0, x1, x2, x3, x4, x5, x6, x7, x8, x9, x10, x11, x12, x13⟩ := u
  refine Met.ofW (cc := cX0_isThere) (maxL := 3) (ret := (some .boolean)) (by decide) rfl ?_
  intro p e s m args below meth c s₁ B hml hv
  obtain ⟨rfl, hP, hK⟩ := hv
  have hx := B.exec
  have hb := B.bytes
  have hr := B.returns
  have hts := atoms_spec (ws := wsX0_isThere) B.pre
  have hown : s.vm.findClass RX0 = some m.cls := findClass_of_methodNamed B.named
  have hlocks := B.notSynchronized
  have hP : va_P D vwCl (xw ad cd (x0, x1, x2, x3, x4, x5, x6, x7, x8, x9, x10, x11, x12, x13)) s.heap := hP
  have hl := lv_entry ([.ref (ad 0), .int p1]) (n := 3) (Nat.le_of_ble_eq_true rfl)
  rw [lg_entry_eq]
  generalize (lg_sl ([.ref (ad 0), .int p1]) ++ List.replicate (3 - (lg_sl ([.ref (ad 0), .int p1])).length) Slot.unset).toArray = ls at hl ⊢
  have hl : lv_has ls 3 [(0, .ref (ad 0)), (1, .int p1)] := hl
  refine lv_iload_n hx hb dX0_isThere_0 rfl (lv_at hl 1 rfl) ?_
  refine vp_callSi (W.runS (As := [.int p1]) (rest := []) ⟨hx, hb, hml, hown, hts⟩ (xk_placeOf l p1) (va_cwS 1 hts gX0_isThere_X0_placeOf rfl rfl rfl (by decide +kernel) ⟨Nat.le_of_ble_eq_true rfl, Nat.le_of_ble_eq_true rfl⟩) ⟨fun a U g mk q => q, fun U hU hW => ⟨rfl, trivial⟩⟩ rfl rfl hl.1 rfl (lv_room (Nat.le_of_ble_eq_true rfl)) dX0_isThere_1 ⟨Nat.zero_le _, Nat.zero_le _⟩) (fun r_1 hr_1 => ?_)
  subst hr_1
  refine lv_istore_n (lv' := [(2, .int (xf_placeOf p1)), (0, .ref (ad 0)), (1, .int p1)]) hx hb dX0_isThere_4 rfl hl (by decide) rfl (fun ls hl => ?_)
  refine lv_iload_n hx hb dX0_isThere_5 rfl (lv_at hl 0 rfl) ?_
  refine lv_iconst (v := (-1)) hx hb dX0_isThere_6 (by decide) ?_
  refine lv_icmp_eq (tgt := 23) hx hb dX0_isThere_7 (by decide) (fun c_7 => ?_) (fun c_7 => ?_)
  · refine lv_iconst (v := 0) hx hb dX0_isThere_23 (by decide) ?_
    exact W.zret (v := 0) (ty := .boolean) hx hb hr rfl (fun t ht hW => ⟨0, rfl, (by simp only [xf_isThere, if_pos c_7]), ht⟩) (fun _ h => by cases h) dX0_isThere_24
  · refine lv_aload_n hx hb dX0_isThere_10 rfl (lv_at hl 1 rfl) ?_
    refine va_get (D := D) (ci := 0) (v := .ref (ad 3)) (C := RX0) (T := TX0) (N := 14) hx hb hts (fun _ h => List.mem_cons_of_mem _ (List.mem_append_right _ h)) hown hK hP 0 rfl rfl 2 (by decide) (hts (.fieldLink RX0 16 "PostDesk2" "present" "[Z") (by decide +kernel)) (fun _ h9 => h9) rfl dX0_isThere_11 ?_
    refine lv_iload_n hx hb dX0_isThere_14 rfl (lv_at hl 0 rfl) ?_
    refine va_zald hx hb hK hP 3 2 rfl rfl (xpl_in c_7) dX0_isThere_15 ?_
    refine lv_if_eq (tgt := 23) hx hb dX0_isThere_16 (by decide) (fun c_16 => ?_) (fun c_16 => ?_)
    · refine lv_iconst (v := 0) hx hb dX0_isThere_23 (by decide) ?_
      exact W.zret (v := 0) (ty := .boolean) hx hb hr rfl (fun t ht hW => ⟨0, rfl, (by simp only [xf_isThere, if_neg c_7, if_pos c_16]), ht⟩) (fun _ h => by cases h) dX0_isThere_24
    · refine lv_iconst (v := 1) hx hb dX0_isThere_19 (by decide) ?_
      refine lv_goto (tgt := 24) hx hb dX0_isThere_20 (by decide) ?_
      exact W.zret (v := 1) (ty := .boolean) hx hb hr rfl (fun t ht hW => ⟨1, rfl, (by simp only [xf_isThere, if_neg c_7, if_neg c_16]), ht⟩) (fun _ h => by cases h) dX0_isThere_24
def xf_refusalOf (u : XS) (p1 : Int32) (p2 : Int32) : Int64 := match u with
  | (x0, x1, x2, x3, x4, x5, x6, x7, x8, x9, x10, x11, x12, x13) => if (xf_isCall p1) = 0 then ((-9000000000000000012)) else (if (xf_isThere (x0, x1, x2, x3, x4, x5, x6, x7, x8, x9, x10, x11, x12, x13) p2) = 0 then ((-9000000000000000011)) else (if (p2 / 1000) = (p1 - p1 / 10 * 10) then (if p1 < 10 then (0) else (if x5 = 0 then ((-9000000000000000013)) else (0))) else ((-9000000000000000011))))
set_option maxHeartbeats 4000000 in
set_option maxRecDepth 100000 in
theorem xk_refusalOf (l : Launch) (D : va_G) (ad : Nat → Nat) (cd : Nat → ClassId) (u : XS) (p1 : Int32) (p2 : Int32)  : Met l yX0_refusalOf wsX0_refusalOf ({ frames := 3, cells := 0, slots := 0, locals := 64 }) (xPr D ad cd u [.int p1, .int p2]) (vp_Sl (fun r => r = xf_refusalOf u p1 p2)) 0 0 (fun _ => False) := by
  obtain ⟨x0, x1, x2, x3, x4, x5, x6, x7, x8, x9, x10, x11, x12, x13⟩ := u
  refine Met.ofW (cc := cX0_refusalOf) (maxL := 3) (ret := (some .long)) (by decide) rfl ?_
  intro p e s m args below meth c s₁ B hml hv
  obtain ⟨rfl, hP, hK⟩ := hv
  have hx := B.exec
  have hb := B.bytes
  have hr := B.returns
  have hts := atoms_spec (ws := wsX0_refusalOf) B.pre
  have hown : s.vm.findClass RX0 = some m.cls := findClass_of_methodNamed B.named
  have hlocks := B.notSynchronized
  have hP : va_P D vwCl (xw ad cd (x0, x1, x2, x3, x4, x5, x6, x7, x8, x9, x10, x11, x12, x13)) s.heap := hP
  have hl := lv_entry ([.ref (ad 0), .int p1, .int p2]) (n := 3) (Nat.le_of_ble_eq_true rfl)
  rw [lg_entry_eq]
  generalize (lg_sl ([.ref (ad 0), .int p1, .int p2]) ++ List.replicate (3 - (lg_sl ([.ref (ad 0), .int p1, .int p2])).length) Slot.unset).toArray = ls at hl ⊢
  have hl : lv_has ls 3 [(0, .ref (ad 0)), (1, .int p1), (2, .int p2)] := hl
  refine lv_iload_n hx hb dX0_refusalOf_0 rfl (lv_at hl 1 rfl) ?_
  refine vp_callSi (W.runS (As := [.int p1]) (rest := []) ⟨hx, hb, hml, hown, hts⟩ (xk_isCall l p1) (va_cwS 1 hts gX0_refusalOf_X0_isCall rfl rfl rfl (by decide +kernel) ⟨Nat.le_of_ble_eq_true rfl, Nat.le_of_ble_eq_true rfl⟩) ⟨fun a U g mk q => q, fun U hU hW => ⟨rfl, trivial⟩⟩ rfl rfl hl.1 rfl (lv_room (Nat.le_of_ble_eq_true rfl)) dX0_refusalOf_1 ⟨Nat.zero_le _, Nat.zero_le _⟩) (fun r_1 hr_1 => ?_)
  subst hr_1
  refine lv_if_ne (tgt := 11) hx hb dX0_refusalOf_4 (by decide) (fun c_4 => ?_) (fun c_4 => ?_)
  · refine lv_aload_n hx hb dX0_refusalOf_11 rfl (lv_at hl 0 rfl) ?_
    refine lv_iload_n hx hb dX0_refusalOf_12 rfl (lv_at hl 2 rfl) ?_
    refine vp_callSi (W.runV (As := [.int p2]) (rest := []) ⟨hx, hb, hml, hown, hts⟩ (xk_isThere l D ad cd (x0, x1, x2, x3, x4, x5, x6, x7, x8, x9, x10, x11, x12, x13) p2) (cwV 1 hts gX0_refusalOf_X0_isThere rfl rfl rfl (by decide +kernel) ⟨Nat.le_of_ble_eq_true rfl, Nat.le_of_ble_eq_true rfl⟩) ⟨fun a U g mk q => ⟨q.1, q.2.1, va_K.moved (u := U) (U := U.calling g mk a) (Vm.Alike.refl U.vm) q.2.2⟩, va_recv hK hP (ci := 0) (q0 := 0) rfl rfl, fun U hU hW => ⟨rfl, by rw [hU]; exact hP, va_K.moved hW.alike hK⟩⟩ rfl rfl hl.1 rfl (lv_room (Nat.le_of_ble_eq_true rfl)) dX0_refusalOf_13 ⟨Nat.zero_le _, Nat.zero_le _⟩) (fun r_13 hr_13 => ?_)
    subst hr_13
    refine lv_if_eq (tgt := 31) hx hb dX0_refusalOf_16 (by decide) (fun c_16 => ?_) (fun c_16 => ?_)
    · refine lv_ldc2 (v := (-9000000000000000011)) hx hb hown (hts (.constantLong RX0 92 (-9000000000000000011)) (by decide +kernel)) dX0_refusalOf_31 ?_
      exact W.lret (v := (-9000000000000000011)) hx hb hr (fun t ht hW => ⟨(-9000000000000000011), rfl, (by simp only [xf_refusalOf, if_neg c_4, if_pos c_16]), ht⟩) (fun _ h => by cases h) dX0_refusalOf_34
    · refine lv_iload_n hx hb dX0_refusalOf_19 rfl (lv_at hl 2 rfl) ?_
      refine lv_sipush (v := 1000) hx hb dX0_refusalOf_20 (by decide) ?_
      refine lv_idiv hx hb dX0_refusalOf_23 (by decide) ?_
      refine lv_iload_n hx hb dX0_refusalOf_24 rfl (lv_at hl 1 rfl) ?_
      refine lv_bipush (v := 10) hx hb dX0_refusalOf_25 (by decide) ?_
      refine lv_irem hx hb dX0_refusalOf_27 (by decide) ?_
      refine lv_icmp_eq (tgt := 35) hx hb dX0_refusalOf_28 (by decide) (fun c_28 => ?_) (fun c_28 => ?_)
      · refine lv_iload_n hx hb dX0_refusalOf_35 rfl (lv_at hl 1 rfl) ?_
        refine lv_bipush (v := 10) hx hb dX0_refusalOf_36 (by decide) ?_
        refine lv_icmp_lt (tgt := 52) hx hb dX0_refusalOf_38 (by decide) (fun c_38 => ?_) (fun c_38 => ?_)
        · refine lv_lconst (v := 0) hx hb dX0_refusalOf_52 (by decide) ?_
          exact W.lret (v := 0) hx hb hr (fun t ht hW => ⟨0, rfl, (by simp only [xf_refusalOf, if_neg c_4, if_neg c_16, if_pos c_28, if_pos c_38]), ht⟩) (fun _ h => by cases h) dX0_refusalOf_53
        · refine lv_aload_n hx hb dX0_refusalOf_41 rfl (lv_at hl 0 rfl) ?_
          refine va_get (D := D) (ci := 0) (v := .int x5) (C := RX0) (T := TX0) (N := 14) hx hb hts (fun _ h => List.mem_cons_of_mem _ (List.mem_append_right _ h)) hown hK hP 0 rfl rfl 5 (by decide) (hts (.fieldLink RX0 27 "PostDesk2" "collected" "I") (by decide +kernel)) (fun _ h9 => h9) rfl dX0_refusalOf_42 ?_
          refine lv_if_ne (tgt := 52) hx hb dX0_refusalOf_45 (by decide) (fun c_45 => ?_) (fun c_45 => ?_)
          · refine lv_lconst (v := 0) hx hb dX0_refusalOf_52 (by decide) ?_
            exact W.lret (v := 0) hx hb hr (fun t ht hW => ⟨0, rfl, (by simp only [xf_refusalOf, if_neg c_4, if_neg c_16, if_pos c_28, if_neg c_38, if_neg c_45]), ht⟩) (fun _ h => by cases h) dX0_refusalOf_53
          · refine lv_ldc2 (v := (-9000000000000000013)) hx hb hown (hts (.constantLong RX0 94 (-9000000000000000013)) (by decide +kernel)) dX0_refusalOf_48 ?_
            exact W.lret (v := (-9000000000000000013)) hx hb hr (fun t ht hW => ⟨(-9000000000000000013), rfl, (by simp only [xf_refusalOf, if_neg c_4, if_neg c_16, if_pos c_28, if_neg c_38, if_pos c_45]), ht⟩) (fun _ h => by cases h) dX0_refusalOf_51
      · refine lv_ldc2 (v := (-9000000000000000011)) hx hb hown (hts (.constantLong RX0 92 (-9000000000000000011)) (by decide +kernel)) dX0_refusalOf_31 ?_
        exact W.lret (v := (-9000000000000000011)) hx hb hr (fun t ht hW => ⟨(-9000000000000000011), rfl, (by simp only [xf_refusalOf, if_neg c_4, if_neg c_16, if_neg c_28]), ht⟩) (fun _ h => by cases h) dX0_refusalOf_34
  · refine lv_ldc2 (v := (-9000000000000000012)) hx hb hown (hts (.constantLong RX0 71 (-9000000000000000012)) (by decide +kernel)) dX0_refusalOf_7 ?_
    exact W.lret (v := (-9000000000000000012)) hx hb hr (fun t ht hW => ⟨(-9000000000000000012), rfl, (by simp only [xf_refusalOf, if_pos c_4]), ht⟩) (fun _ h => by cases h) dX0_refusalOf_10
/-- no ground to refuse: the call is one of the calls -/
theorem xro_in (u : XS) (c n : Int32) (h : lg_cmp (xf_refusalOf u c n) 0 = 0) : vp_in c 20 := by
  rw [lg_cmp_eq] at h
  by_cases hc : xf_isCall c = 0
  · obtain ⟨x0, x1, x2, x3, x4, x5, x6, x7, x8, x9, x10, x11, x12, x13⟩ := u
    simp only [xf_refusalOf, if_pos hc] at h
    exact absurd h (by decide)
  · exact xkc_in hc
def xf_replyTo (u : XS) (p1 : Int64) (p3 : Int32) (p4 : Int64) : Int64 := match u with
  | (_, _, _, x3, x4, _, x6, _, _, _, _, _, _, _) => if (lg_cmp p1 0) = 0 then (if (x4 (p3).toNatClampNeg) = 0 then ((((x3 (p3).toNatClampNeg) + p4) + x6)) else ((-9000000000000000020))) else (p1)
set_option maxHeartbeats 4000000 in
set_option maxRecDepth 100000 in
theorem xk_replyTo (l : Launch) (D : va_G) (ad : Nat → Nat) (cd : Nat → ClassId) (u : XS) (p1 : Int64) (p3 : Int32) (p4 : Int64) (h1 : lg_cmp p1 0 = 0 → vp_in p3 20) : Met l yX0_replyTo wsX0_replyTo ({ frames := 0, cells := 0, slots := 0, locals := 0 }) (xPr D ad cd u [.long p1, .int p3, .long p4]) (vp_Sl (fun r => r = xf_replyTo u p1 p3 p4)) 0 0 (fun _ => False) := by
  obtain ⟨x0, x1, x2, x3, x4, x5, x6, x7, x8, x9, x10, x11, x12, x13⟩ := u
  refine Met.ofW (cc := cX0_replyTo) (maxL := 6) (ret := (some .long)) (by decide) rfl ?_
  intro p e s m args below meth c s₁ B hml hv
  obtain ⟨rfl, hP, hK⟩ := hv
  have hx := B.exec
  have hb := B.bytes
  have hr := B.returns
  have hts := atoms_spec (ws := wsX0_replyTo) B.pre
  have hown : s.vm.findClass RX0 = some m.cls := findClass_of_methodNamed B.named
  have hlocks := B.notSynchronized
  have hP : va_P D vwCl (xw ad cd (x0, x1, x2, x3, x4, x5, x6, x7, x8, x9, x10, x11, x12, x13)) s.heap := hP
  have hl := lv_entry ([.ref (ad 0), .long p1, .int p3, .long p4]) (n := 6) (Nat.le_of_ble_eq_true rfl)
  rw [lg_entry_eq]
  generalize (lg_sl ([.ref (ad 0), .long p1, .int p3, .long p4]) ++ List.replicate (6 - (lg_sl ([.ref (ad 0), .long p1, .int p3, .long p4])).length) Slot.unset).toArray = ls at hl ⊢
  have hl : lv_has ls 6 [(0, .ref (ad 0)), (1, .long p1), (3, .int p3), (4, .long p4)] := hl
  refine lv_lload_n hx hb dX0_replyTo_0 rfl (lv_at hl 1 rfl) ?_
  refine lv_lconst (v := 0) hx hb dX0_replyTo_1 (by decide) ?_
  refine W.lcmp hx hb dX0_replyTo_2 ?_
  refine lv_if_eq (tgt := 8) hx hb dX0_replyTo_3 (by decide) (fun c_3 => ?_) (fun c_3 => ?_)
  · refine lv_aload_n hx hb dX0_replyTo_8 rfl (lv_at hl 0 rfl) ?_
    refine va_get (D := D) (ci := 0) (v := .ref (ad 5)) (C := RX0) (T := TX0) (N := 14) hx hb hts (fun _ h => List.mem_cons_of_mem _ (List.mem_append_right _ h)) hown hK hP 0 rfl rfl 4 (by decide) (hts (.fieldLink RX0 24 "PostDesk2" "failures" "[I") (by decide +kernel)) (fun _ h9 => h9) rfl dX0_replyTo_9 ?_
    refine lv_iload_n hx hb dX0_replyTo_12 rfl (lv_at hl 2 rfl) ?_
    refine va_iald hx hb hK hP 5 4 rfl rfl (h1 c_3) dX0_replyTo_13 ?_
    refine lv_if_eq (tgt := 21) hx hb dX0_replyTo_14 (by decide) (fun c_14 => ?_) (fun c_14 => ?_)
    · refine lv_aload_n hx hb dX0_replyTo_21 rfl (lv_at hl 0 rfl) ?_
      refine va_get (D := D) (ci := 0) (v := .ref (ad 4)) (C := RX0) (T := TX0) (N := 14) hx hb hts (fun _ h => List.mem_cons_of_mem _ (List.mem_append_right _ h)) hown hK hP 0 rfl rfl 3 (by decide) (hts (.fieldLink RX0 20 "PostDesk2" "values" "[J") (by decide +kernel)) (fun _ h9 => h9) rfl dX0_replyTo_22 ?_
      refine lv_iload_n hx hb dX0_replyTo_25 rfl (lv_at hl 2 rfl) ?_
      refine va_lald hx hb hK hP 4 3 rfl rfl (h1 c_3) dX0_replyTo_26 ?_
      refine lv_lload hx hb dX0_replyTo_27 (lv_at hl 3 rfl) ?_
      refine lv_ladd hx hb dX0_replyTo_29 ?_
      refine lv_aload_n hx hb dX0_replyTo_30 rfl (lv_at hl 0 rfl) ?_
      refine va_get (D := D) (ci := 0) (v := .long x6) (C := RX0) (T := TX0) (N := 14) hx hb hts (fun _ h => List.mem_cons_of_mem _ (List.mem_append_right _ h)) hown hK hP 0 rfl rfl 6 (by decide) (hts (.fieldLink RX0 31 "PostDesk2" "digest" "J") (by decide +kernel)) (fun _ h9 => h9) rfl dX0_replyTo_31 ?_
      refine lv_ladd hx hb dX0_replyTo_34 ?_
      exact W.lret (v := (((x3 (p3).toNatClampNeg) + p4) + x6)) hx hb hr (fun t ht hW => ⟨(((x3 (p3).toNatClampNeg) + p4) + x6), rfl, (by simp only [xf_replyTo, if_pos c_3, if_pos c_14]), ht⟩) (fun _ h => by cases h) dX0_replyTo_35
    · refine lv_ldc2 (v := (-9000000000000000020)) hx hb hown (hts (.constantLong RX0 96 (-9000000000000000020)) (by decide +kernel)) dX0_replyTo_17 ?_
      exact W.lret (v := (-9000000000000000020)) hx hb hr (fun t ht hW => ⟨(-9000000000000000020), rfl, (by simp only [xf_replyTo, if_pos c_3, if_neg c_14]), ht⟩) (fun _ h => by cases h) dX0_replyTo_20
  · refine lv_lload_n hx hb dX0_replyTo_6 rfl (lv_at hl 1 rfl) ?_
    exact W.lret (v := p1) hx hb hr (fun t ht hW => ⟨p1, rfl, (by simp only [xf_replyTo, if_neg c_3]), ht⟩) (fun _ h => by cases h) dX0_replyTo_7
def xf_logBehind (u : XS) (p1 : Int64) (p3 : Int32) (p4 : Int32) (p5 : Int64) : Int64 := match u with
  | (_, _, _, _, x4, _, _, _, _, _, _, _, _, x13) => if (lg_cmp p1 (-9000000000000000012)) = 0 then (x13) else (if (lg_cmp p1 0) = 0 then (if (x4 (p3).toNatClampNeg) = 0 then (((17 * (((1000003 * x13) + (32 * (p4).toInt64)) + (p3).toInt64)) + p5)) else ((((17 * (((1000003 * x13) + (32 * (p4).toInt64)) + (p3).toInt64)) - 1) - ((x4 (p3).toNatClampNeg)).toInt64))) else (((17 * (((1000003 * x13) + (32 * (p4).toInt64)) + (p3).toInt64)) - 1)))
set_option maxHeartbeats 4000000 in
set_option maxRecDepth 100000 in
theorem xk_logBehind (l : Launch) (D : va_G) (ad : Nat → Nat) (cd : Nat → ClassId) (u : XS) (p1 : Int64) (p3 : Int32) (p4 : Int32) (p5 : Int64) (h1 : lg_cmp p1 0 = 0 → vp_in p3 20) : Met l yX0_logBehind wsX0_logBehind ({ frames := 0, cells := 0, slots := 0, locals := 0 }) (xPr D ad cd u [.long p1, .int p3, .int p4, .long p5]) (vp_Sl (fun r => r = xf_logBehind u p1 p3 p4 p5)) 0 0 (fun _ => False) := by
  obtain ⟨x0, x1, x2, x3, x4, x5, x6, x7, x8, x9, x10, x11, x12, x13⟩ := u
  refine Met.ofW (cc := cX0_logBehind) (maxL := 9) (ret := (some .long)) (by decide) rfl ?_
  intro p e s m args below meth c s₁ B hml hv
  obtain ⟨rfl, hP, hK⟩ := hv
  have hx := B.exec
  have hb := B.bytes
  have hr := B.returns
  have hts := atoms_spec (ws := wsX0_logBehind) B.pre
  have hown : s.vm.findClass RX0 = some m.cls := findClass_of_methodNamed B.named
  have hlocks := B.notSynchronized
  have hP : va_P D vwCl (xw ad cd (x0, x1, x2, x3, x4, x5, x6, x7, x8, x9, x10, x11, x12, x13)) s.heap := hP
  have hl := lv_entry ([.ref (ad 0), .long p1, .int p3, .int p4, .long p5]) (n := 9) (Nat.le_of_ble_eq_true rfl)
  rw [lg_entry_eq]
  generalize (lg_sl ([.ref (ad 0), .long p1, .int p3, .int p4, .long p5]) ++ List.replicate (9 - (lg_sl ([.ref (ad 0), .long p1, .int p3, .int p4, .long p5])).length) Slot.unset).toArray = ls at hl ⊢
  have hl : lv_has ls 9 [(0, .ref (ad 0)), (1, .long p1), (3, .int p3), (4, .int p4), (5, .long p5)] := hl
  refine lv_lload_n hx hb dX0_logBehind_0 rfl (lv_at hl 1 rfl) ?_
  refine lv_ldc2 (v := (-9000000000000000012)) hx hb hown (hts (.constantLong RX0 71 (-9000000000000000012)) (by decide +kernel)) dX0_logBehind_1 ?_
  refine W.lcmp hx hb dX0_logBehind_4 ?_
  refine lv_if_ne (tgt := 13) hx hb dX0_logBehind_5 (by decide) (fun c_5 => ?_) (fun c_5 => ?_)
  · refine lv_ldc2 (v := 17) hx hb hown (hts (.constantLong RX0 98 17) (by decide +kernel)) dX0_logBehind_13 ?_
    refine lv_ldc2 (v := 1000003) hx hb hown (hts (.constantLong RX0 100 1000003) (by decide +kernel)) dX0_logBehind_16 ?_
    refine lv_aload_n hx hb dX0_logBehind_19 rfl (lv_at hl 0 rfl) ?_
    refine va_get (D := D) (ci := 0) (v := .long x13) (C := RX0) (T := TX0) (N := 14) hx hb hts (fun _ h => List.mem_cons_of_mem _ (List.mem_append_right _ h)) hown hK hP 0 rfl rfl 13 (by decide) (hts (.fieldLink RX0 55 "PostDesk2" "logged" "J") (by decide +kernel)) (fun _ h9 => h9) rfl dX0_logBehind_20 ?_
    refine lv_lmul hx hb dX0_logBehind_23 ?_
    refine lv_ldc2 (v := 32) hx hb hown (hts (.constantLong RX0 102 32) (by decide +kernel)) dX0_logBehind_24 ?_
    refine lv_iload hx hb dX0_logBehind_27 (lv_at hl 3 rfl) ?_
    refine lv_i2l hx hb dX0_logBehind_29 rfl ?_
    refine lv_lmul hx hb dX0_logBehind_30 ?_
    refine lv_ladd hx hb dX0_logBehind_31 ?_
    refine lv_iload_n hx hb dX0_logBehind_32 rfl (lv_at hl 2 rfl) ?_
    refine lv_i2l hx hb dX0_logBehind_33 rfl ?_
    refine lv_ladd hx hb dX0_logBehind_34 ?_
    refine lv_lmul hx hb dX0_logBehind_35 ?_
    refine lv_lstore (lv' := [(7, .long (17 * (((1000003 * x13) + (32 * (p4).toInt64)) + (p3).toInt64))), (0, .ref (ad 0)), (1, .long p1), (3, .int p3), (4, .int p4), (5, .long p5)]) hx hb dX0_logBehind_36 hl (by decide) rfl (fun ls hl => ?_)
    refine lv_lload_n hx hb dX0_logBehind_38 rfl (lv_at hl 2 rfl) ?_
    refine lv_lconst (v := 0) hx hb dX0_logBehind_39 (by decide) ?_
    refine W.lcmp hx hb dX0_logBehind_40 ?_
    refine lv_if_eq (tgt := 49) hx hb dX0_logBehind_41 (by decide) (fun c_41 => ?_) (fun c_41 => ?_)
    · refine lv_aload_n hx hb dX0_logBehind_49 rfl (lv_at hl 1 rfl) ?_
      refine va_get (D := D) (ci := 0) (v := .ref (ad 5)) (C := RX0) (T := TX0) (N := 14) hx hb hts (fun _ h => List.mem_cons_of_mem _ (List.mem_append_right _ h)) hown hK hP 0 rfl rfl 4 (by decide) (hts (.fieldLink RX0 24 "PostDesk2" "failures" "[I") (by decide +kernel)) (fun _ h9 => h9) rfl dX0_logBehind_50 ?_
      refine lv_iload_n hx hb dX0_logBehind_53 rfl (lv_at hl 3 rfl) ?_
      refine va_iald hx hb hK hP 5 4 rfl rfl (h1 c_41) dX0_logBehind_54 ?_
      refine lv_if_eq (tgt := 71) hx hb dX0_logBehind_55 (by decide) (fun c_55 => ?_) (fun c_55 => ?_)
      · refine lv_lload hx hb dX0_logBehind_71 (lv_at hl 0 rfl) ?_
        refine lv_lload hx hb dX0_logBehind_73 (lv_at hl 5 rfl) ?_
        refine lv_ladd hx hb dX0_logBehind_75 ?_
        exact W.lret (v := ((17 * (((1000003 * x13) + (32 * (p4).toInt64)) + (p3).toInt64)) + p5)) hx hb hr (fun t ht hW => ⟨((17 * (((1000003 * x13) + (32 * (p4).toInt64)) + (p3).toInt64)) + p5), rfl, (by simp only [xf_logBehind, if_neg c_5, if_pos c_41, if_pos c_55]), ht⟩) (fun _ h => by cases h) dX0_logBehind_76
      · refine lv_lload hx hb dX0_logBehind_58 (lv_at hl 0 rfl) ?_
        refine lv_lconst (v := 1) hx hb dX0_logBehind_60 (by decide) ?_
        refine lv_lsub hx hb dX0_logBehind_61 ?_
        refine lv_aload_n hx hb dX0_logBehind_62 rfl (lv_at hl 1 rfl) ?_
        refine va_get (D := D) (ci := 0) (v := .ref (ad 5)) (C := RX0) (T := TX0) (N := 14) hx hb hts (fun _ h => List.mem_cons_of_mem _ (List.mem_append_right _ h)) hown hK hP 0 rfl rfl 4 (by decide) (hts (.fieldLink RX0 24 "PostDesk2" "failures" "[I") (by decide +kernel)) (fun _ h9 => h9) rfl dX0_logBehind_63 ?_
        refine lv_iload_n hx hb dX0_logBehind_66 rfl (lv_at hl 3 rfl) ?_
        refine va_iald hx hb hK hP 5 4 rfl rfl (h1 c_41) dX0_logBehind_67 ?_
        refine lv_i2l hx hb dX0_logBehind_68 rfl ?_
        refine lv_lsub hx hb dX0_logBehind_69 ?_
        exact W.lret (v := (((17 * (((1000003 * x13) + (32 * (p4).toInt64)) + (p3).toInt64)) - 1) - ((x4 (p3).toNatClampNeg)).toInt64)) hx hb hr (fun t ht hW => ⟨(((17 * (((1000003 * x13) + (32 * (p4).toInt64)) + (p3).toInt64)) - 1) - ((x4 (p3).toNatClampNeg)).toInt64), rfl, (by simp only [xf_logBehind, if_neg c_5, if_pos c_41, if_neg c_55]), ht⟩) (fun _ h => by cases h) dX0_logBehind_70
    · refine lv_lload hx hb dX0_logBehind_44 (lv_at hl 0 rfl) ?_
      refine lv_lconst (v := 1) hx hb dX0_logBehind_46 (by decide) ?_
      refine lv_lsub hx hb dX0_logBehind_47 ?_
      exact W.lret (v := ((17 * (((1000003 * x13) + (32 * (p4).toInt64)) + (p3).toInt64)) - 1)) hx hb hr (fun t ht hW => ⟨((17 * (((1000003 * x13) + (32 * (p4).toInt64)) + (p3).toInt64)) - 1), rfl, (by simp only [xf_logBehind, if_neg c_5, if_neg c_41]), ht⟩) (fun _ h => by cases h) dX0_logBehind_48
  · refine lv_aload_n hx hb dX0_logBehind_8 rfl (lv_at hl 0 rfl) ?_
    refine va_get (D := D) (ci := 0) (v := .long x13) (C := RX0) (T := TX0) (N := 14) hx hb hts (fun _ h => List.mem_cons_of_mem _ (List.mem_append_right _ h)) hown hK hP 0 rfl rfl 13 (by decide) (hts (.fieldLink RX0 55 "PostDesk2" "logged" "J") (by decide +kernel)) (fun _ h9 => h9) rfl dX0_logBehind_9 ?_
    exact W.lret (v := x13) hx hb hr (fun t ht hW => ⟨x13, rfl, (by simp only [xf_logBehind, if_pos c_5]), ht⟩) (fun _ h => by cases h) dX0_logBehind_12
def xf_told (u : XS) (p1 : Int32) : Int64 := match u with
  | (_, _, _, _, _, x5, _, x7, x8, x9, x10, x11, x12, x13) => if p1 = 0 then (x7) else if p1 = 1 then (x8) else if p1 = 2 then (x9) else if p1 = 3 then ((x10).toInt64) else if p1 = 4 then ((x11).toInt64) else if p1 = 5 then ((x12).toInt64) else if p1 = 6 then ((x5).toInt64) else if p1 = 7 then (x13) else 0
set_option maxHeartbeats 4000000 in
set_option maxRecDepth 100000 in
theorem xk_told (l : Launch) (D : va_G) (ad : Nat → Nat) (cd : Nat → ClassId) (u : XS) (p1 : Int32)  : Met l yX0_told wsX0_told ({ frames := 0, cells := 0, slots := 0, locals := 0 }) (xPr D ad cd u [.int p1]) (vp_Sl (fun r => r = xf_told u p1)) 0 0 (fun _ => False) := by
  obtain ⟨x0, x1, x2, x3, x4, x5, x6, x7, x8, x9, x10, x11, x12, x13⟩ := u
  refine Met.ofW (cc := cX0_told) (maxL := 2) (ret := (some .long)) (by decide) rfl ?_
  intro p e s m args below meth c s₁ B hml hv
  obtain ⟨rfl, hP, hK⟩ := hv
  have hx := B.exec
  have hb := B.bytes
  have hr := B.returns
  have hts := atoms_spec (ws := wsX0_told) B.pre
  have hown : s.vm.findClass RX0 = some m.cls := findClass_of_methodNamed B.named
  have hlocks := B.notSynchronized
  have hP : va_P D vwCl (xw ad cd (x0, x1, x2, x3, x4, x5, x6, x7, x8, x9, x10, x11, x12, x13)) s.heap := hP
  have hl := lv_entry ([.ref (ad 0), .int p1]) (n := 2) (Nat.le_of_ble_eq_true rfl)
  rw [lg_entry_eq]
  generalize (lg_sl ([.ref (ad 0), .int p1]) ++ List.replicate (2 - (lg_sl ([.ref (ad 0), .int p1])).length) Slot.unset).toArray = ls at hl ⊢
  have hl : lv_has ls 2 [(0, .ref (ad 0)), (1, .int p1)] := hl
  refine lv_iload_n hx hb dX0_told_0 rfl (lv_at hl 1 rfl) ?_
  by_cases c_1_0 : p1 = 0
  · refine lv_tableIn (tgt := 48) hx hb dX0_told_1 (by rw [c_1_0]; decide) (by rw [c_1_0]; decide) (by rw [c_1_0]; rfl) (by decide) ?_
    refine lv_aload_n hx hb dX0_told_48 rfl (lv_at hl 0 rfl) ?_
    refine va_get (D := D) (ci := 0) (v := .long x7) (C := RX0) (T := TX0) (N := 14) hx hb hts (fun _ h => List.mem_cons_of_mem _ (List.mem_append_right _ h)) hown hK hP 0 rfl rfl 7 (by decide) (hts (.fieldLink RX0 35 "PostDesk2" "answeredCalls" "J") (by decide +kernel)) (fun _ h9 => h9) rfl dX0_told_49 ?_
    exact W.lret (v := x7) hx hb hr (fun t ht hW => ⟨x7, rfl, (by simp only [xf_told, if_pos c_1_0]), ht⟩) (fun _ h => by cases h) dX0_told_52
  by_cases c_1_1 : p1 = 1
  · refine lv_tableIn (tgt := 53) hx hb dX0_told_1 (by rw [c_1_1]; decide) (by rw [c_1_1]; decide) (by rw [c_1_1]; rfl) (by decide) ?_
    refine lv_aload_n hx hb dX0_told_53 rfl (lv_at hl 0 rfl) ?_
    refine va_get (D := D) (ci := 0) (v := .long x8) (C := RX0) (T := TX0) (N := 14) hx hb hts (fun _ h => List.mem_cons_of_mem _ (List.mem_append_right _ h)) hown hK hP 0 rfl rfl 8 (by decide) (hts (.fieldLink RX0 38 "PostDesk2" "refusedCalls" "J") (by decide +kernel)) (fun _ h9 => h9) rfl dX0_told_54 ?_
    exact W.lret (v := x8) hx hb hr (fun t ht hW => ⟨x8, rfl, (by simp only [xf_told, if_neg c_1_0, if_pos c_1_1]), ht⟩) (fun _ h => by cases h) dX0_told_57
  by_cases c_1_2 : p1 = 2
  · refine lv_tableIn (tgt := 58) hx hb dX0_told_1 (by rw [c_1_2]; decide) (by rw [c_1_2]; decide) (by rw [c_1_2]; rfl) (by decide) ?_
    refine lv_aload_n hx hb dX0_told_58 rfl (lv_at hl 0 rfl) ?_
    refine va_get (D := D) (ci := 0) (v := .long x9) (C := RX0) (T := TX0) (N := 14) hx hb hts (fun _ h => List.mem_cons_of_mem _ (List.mem_append_right _ h)) hown hK hP 0 rfl rfl 9 (by decide) (hts (.fieldLink RX0 41 "PostDesk2" "failedCalls" "J") (by decide +kernel)) (fun _ h9 => h9) rfl dX0_told_59 ?_
    exact W.lret (v := x9) hx hb hr (fun t ht hW => ⟨x9, rfl, (by simp only [xf_told, if_neg c_1_0, if_neg c_1_1, if_pos c_1_2]), ht⟩) (fun _ h => by cases h) dX0_told_62
  by_cases c_1_3 : p1 = 3
  · refine lv_tableIn (tgt := 63) hx hb dX0_told_1 (by rw [c_1_3]; decide) (by rw [c_1_3]; decide) (by rw [c_1_3]; rfl) (by decide) ?_
    refine lv_aload_n hx hb dX0_told_63 rfl (lv_at hl 0 rfl) ?_
    refine va_get (D := D) (ci := 0) (v := .int x10) (C := RX0) (T := TX0) (N := 14) hx hb hts (fun _ h => List.mem_cons_of_mem _ (List.mem_append_right _ h)) hown hK hP 0 rfl rfl 10 (by decide) (hts (.fieldLink RX0 44 "PostDesk2" "latestFailure" "I") (by decide +kernel)) (fun _ h9 => h9) rfl dX0_told_64 ?_
    refine lv_i2l hx hb dX0_told_67 rfl ?_
    exact W.lret (v := (x10).toInt64) hx hb hr (fun t ht hW => ⟨(x10).toInt64, rfl, (by simp only [xf_told, if_neg c_1_0, if_neg c_1_1, if_neg c_1_2, if_pos c_1_3]), ht⟩) (fun _ h => by cases h) dX0_told_68
  by_cases c_1_4 : p1 = 4
  · refine lv_tableIn (tgt := 69) hx hb dX0_told_1 (by rw [c_1_4]; decide) (by rw [c_1_4]; decide) (by rw [c_1_4]; rfl) (by decide) ?_
    refine lv_aload_n hx hb dX0_told_69 rfl (lv_at hl 0 rfl) ?_
    refine va_get (D := D) (ci := 0) (v := .int x11) (C := RX0) (T := TX0) (N := 14) hx hb hts (fun _ h => List.mem_cons_of_mem _ (List.mem_append_right _ h)) hown hK hP 0 rfl rfl 11 (by decide) (hts (.fieldLink RX0 47 "PostDesk2" "latestNumber" "I") (by decide +kernel)) (fun _ h9 => h9) rfl dX0_told_70 ?_
    refine lv_i2l hx hb dX0_told_73 rfl ?_
    exact W.lret (v := (x11).toInt64) hx hb hr (fun t ht hW => ⟨(x11).toInt64, rfl, (by simp only [xf_told, if_neg c_1_0, if_neg c_1_1, if_neg c_1_2, if_neg c_1_3, if_pos c_1_4]), ht⟩) (fun _ h => by cases h) dX0_told_74
  by_cases c_1_5 : p1 = 5
  · refine lv_tableIn (tgt := 75) hx hb dX0_told_1 (by rw [c_1_5]; decide) (by rw [c_1_5]; decide) (by rw [c_1_5]; rfl) (by decide) ?_
    refine lv_aload_n hx hb dX0_told_75 rfl (lv_at hl 0 rfl) ?_
    refine va_get (D := D) (ci := 0) (v := .int x12) (C := RX0) (T := TX0) (N := 14) hx hb hts (fun _ h => List.mem_cons_of_mem _ (List.mem_append_right _ h)) hown hK hP 0 rfl rfl 12 (by decide) (hts (.fieldLink RX0 50 "PostDesk2" "latestCall" "I") (by decide +kernel)) (fun _ h9 => h9) rfl dX0_told_76 ?_
    refine lv_i2l hx hb dX0_told_79 rfl ?_
    exact W.lret (v := (x12).toInt64) hx hb hr (fun t ht hW => ⟨(x12).toInt64, rfl, (by simp only [xf_told, if_neg c_1_0, if_neg c_1_1, if_neg c_1_2, if_neg c_1_3, if_neg c_1_4, if_pos c_1_5]), ht⟩) (fun _ h => by cases h) dX0_told_80
  by_cases c_1_6 : p1 = 6
  · refine lv_tableIn (tgt := 81) hx hb dX0_told_1 (by rw [c_1_6]; decide) (by rw [c_1_6]; decide) (by rw [c_1_6]; rfl) (by decide) ?_
    refine lv_aload_n hx hb dX0_told_81 rfl (lv_at hl 0 rfl) ?_
    refine va_get (D := D) (ci := 0) (v := .int x5) (C := RX0) (T := TX0) (N := 14) hx hb hts (fun _ h => List.mem_cons_of_mem _ (List.mem_append_right _ h)) hown hK hP 0 rfl rfl 5 (by decide) (hts (.fieldLink RX0 27 "PostDesk2" "collected" "I") (by decide +kernel)) (fun _ h9 => h9) rfl dX0_told_82 ?_
    refine lv_i2l hx hb dX0_told_85 rfl ?_
    exact W.lret (v := (x5).toInt64) hx hb hr (fun t ht hW => ⟨(x5).toInt64, rfl, (by simp only [xf_told, if_neg c_1_0, if_neg c_1_1, if_neg c_1_2, if_neg c_1_3, if_neg c_1_4, if_neg c_1_5, if_pos c_1_6]), ht⟩) (fun _ h => by cases h) dX0_told_86
  by_cases c_1_7 : p1 = 7
  · refine lv_tableIn (tgt := 87) hx hb dX0_told_1 (by rw [c_1_7]; decide) (by rw [c_1_7]; decide) (by rw [c_1_7]; rfl) (by decide) ?_
    refine lv_aload_n hx hb dX0_told_87 rfl (lv_at hl 0 rfl) ?_
    refine va_get (D := D) (ci := 0) (v := .long x13) (C := RX0) (T := TX0) (N := 14) hx hb hts (fun _ h => List.mem_cons_of_mem _ (List.mem_append_right _ h)) hown hK hP 0 rfl rfl 13 (by decide) (hts (.fieldLink RX0 55 "PostDesk2" "logged" "J") (by decide +kernel)) (fun _ h9 => h9) rfl dX0_told_88 ?_
    exact W.lret (v := x13) hx hb hr (fun t ht hW => ⟨x13, rfl, (by simp only [xf_told, if_neg c_1_0, if_neg c_1_1, if_neg c_1_2, if_neg c_1_3, if_neg c_1_4, if_neg c_1_5, if_neg c_1_6, if_pos c_1_7]), ht⟩) (fun _ h => by cases h) dX0_told_91
  refine lv_tableOut (tgt := 92) hx hb dX0_told_1 (sw_out8 c_1_0 c_1_1 c_1_2 c_1_3 c_1_4 c_1_5 c_1_6 c_1_7) (by decide) ?_
  refine lv_lconst (v := 0) hx hb dX0_told_92 (by decide) ?_
  exact W.lret (v := 0) hx hb hr (fun t ht hW => ⟨0, rfl, (by simp only [xf_told, if_neg c_1_0, if_neg c_1_1, if_neg c_1_2, if_neg c_1_3, if_neg c_1_4, if_neg c_1_5, if_neg c_1_6, if_neg c_1_7]), ht⟩) (fun _ h => by cases h) dX0_told_93
def xf_numbers (u : XS) (p1 : Int32) : Int32 := match u with
  | (_, x1, _, _, _, _, _, _, _, _, _, _, _, _) => if (xf_isKind p1) = 0 then ((-1)) else ((x1 (p1).toNatClampNeg))
set_option maxHeartbeats 4000000 in
set_option maxRecDepth 100000 in
theorem xk_numbers (l : Launch) (D : va_G) (ad : Nat → Nat) (cd : Nat → ClassId) (u : XS) (p1 : Int32)  : Met l yX0_numbers wsX0_numbers ({ frames := 1, cells := 0, slots := 0, locals := 20 }) (xPr D ad cd u [.int p1]) (vp_Si (fun r => r = xf_numbers u p1)) 0 0 (fun _ => False) := by
  obtain ⟨x0, x1, x2, x3, x4, x5, x6, x7, x8, x9, x10, x11, x12, x13⟩ := u
  refine Met.ofW (cc := cX0_numbers) (maxL := 2) (ret := (some .int)) (by decide) rfl ?_
  intro p e s m args below meth c s₁ B hml hv
  obtain ⟨rfl, hP, hK⟩ := hv
  have hx := B.exec
  have hb := B.bytes
  have hr := B.returns
  have hts := atoms_spec (ws := wsX0_numbers) B.pre
  have hown : s.vm.findClass RX0 = some m.cls := findClass_of_methodNamed B.named
  have hlocks := B.notSynchronized
  have hP : va_P D vwCl (xw ad cd (x0, x1, x2, x3, x4, x5, x6, x7, x8, x9, x10, x11, x12, x13)) s.heap := hP
  have hl := lv_entry ([.ref (ad 0), .int p1]) (n := 2) (Nat.le_of_ble_eq_true rfl)
  rw [lg_entry_eq]
  generalize (lg_sl ([.ref (ad 0), .int p1]) ++ List.replicate (2 - (lg_sl ([.ref (ad 0), .int p1])).length) Slot.unset).toArray = ls at hl ⊢
  have hl : lv_has ls 2 [(0, .ref (ad 0)), (1, .int p1)] := hl
  refine lv_iload_n hx hb dX0_numbers_0 rfl (lv_at hl 1 rfl) ?_
  refine vp_callSi (W.runS (As := [.int p1]) (rest := []) ⟨hx, hb, hml, hown, hts⟩ (xk_isKind l p1) (va_cwS 1 hts gX0_numbers_X0_isKind rfl rfl rfl (by decide +kernel) ⟨Nat.le_of_ble_eq_true rfl, Nat.le_of_ble_eq_true rfl⟩) ⟨fun a U g mk q => q, fun U hU hW => ⟨rfl, trivial⟩⟩ rfl rfl hl.1 rfl (lv_room (Nat.le_of_ble_eq_true rfl)) dX0_numbers_1 ⟨Nat.zero_le _, Nat.zero_le _⟩) (fun r_1 hr_1 => ?_)
  subst hr_1
  refine lv_if_eq (tgt := 16) hx hb dX0_numbers_4 (by decide) (fun c_4 => ?_) (fun c_4 => ?_)
  · refine lv_iconst (v := (-1)) hx hb dX0_numbers_16 (by decide) ?_
    exact W.iret (v := (-1)) hx hb hr (fun t ht hW => ⟨(-1), rfl, (by simp only [xf_numbers, if_pos c_4]), ht⟩) (fun _ h => by cases h) dX0_numbers_17
  · refine lv_aload_n hx hb dX0_numbers_7 rfl (lv_at hl 0 rfl) ?_
    refine va_get (D := D) (ci := 0) (v := .ref (ad 2)) (C := RX0) (T := TX0) (N := 14) hx hb hts (fun _ h => List.mem_cons_of_mem _ (List.mem_append_right _ h)) hown hK hP 0 rfl rfl 1 (by decide) (hts (.fieldLink RX0 13 "PostDesk2" "presentOfKind" "[I") (by decide +kernel)) (fun _ h9 => h9) rfl dX0_numbers_8 ?_
    refine lv_iload_n hx hb dX0_numbers_11 rfl (lv_at hl 1 rfl) ?_
    refine va_iald hx hb hK hP 2 1 rfl rfl (xkk_in c_4) dX0_numbers_12 ?_
    refine lv_goto (tgt := 17) hx hb dX0_numbers_13 (by decide) ?_
    exact W.iret (v := (x1 (p1).toNatClampNeg)) hx hb hr (fun t ht hW => ⟨(x1 (p1).toNatClampNeg), rfl, (by simp only [xf_numbers, if_neg c_4]), ht⟩) (fun _ h => by cases h) dX0_numbers_17
def xf_again (u : XS) (p1 : Int32) (p2 : Int32) (p3 : Int64) : Int64 := match u with
  | (x0, x1, x2, x3, x4, x5, x6, x7, x8, x9, x10, x11, x12, x13) => (xf_replyTo (x0, x1, x2, x3, x4, x5, x6, x7, x8, x9, x10, x11, x12, x13) (xf_refusalOf (x0, x1, x2, x3, x4, x5, x6, x7, x8, x9, x10, x11, x12, x13) p1 p2) p1 p3)
set_option maxHeartbeats 4000000 in
set_option maxRecDepth 100000 in
theorem xk_again (l : Launch) (D : va_G) (ad : Nat → Nat) (cd : Nat → ClassId) (u : XS) (p1 : Int32) (p2 : Int32) (p3 : Int64)  : Met l yX0_again wsX0_again ({ frames := 4, cells := 0, slots := 0, locals := 86 }) (xPr D ad cd u [.int p1, .int p2, .long p3]) (vp_Sl (fun r => r = xf_again u p1 p2 p3)) 0 0 (fun _ => False) := by
  obtain ⟨x0, x1, x2, x3, x4, x5, x6, x7, x8, x9, x10, x11, x12, x13⟩ := u
  refine Met.ofW (cc := cX0_again) (maxL := 5) (ret := (some .long)) (by decide) rfl ?_
  intro p e s m args below meth c s₁ B hml hv
  obtain ⟨rfl, hP, hK⟩ := hv
  have hx := B.exec
  have hb := B.bytes
  have hr := B.returns
  have hts := atoms_spec (ws := wsX0_again) B.pre
  have hown : s.vm.findClass RX0 = some m.cls := findClass_of_methodNamed B.named
  have hlocks := B.notSynchronized
  have hP : va_P D vwCl (xw ad cd (x0, x1, x2, x3, x4, x5, x6, x7, x8, x9, x10, x11, x12, x13)) s.heap := hP
  have hl := lv_entry ([.ref (ad 0), .int p1, .int p2, .long p3]) (n := 5) (Nat.le_of_ble_eq_true rfl)
  rw [lg_entry_eq]
  generalize (lg_sl ([.ref (ad 0), .int p1, .int p2, .long p3]) ++ List.replicate (5 - (lg_sl ([.ref (ad 0), .int p1, .int p2, .long p3])).length) Slot.unset).toArray = ls at hl ⊢
  have hl : lv_has ls 5 [(0, .ref (ad 0)), (1, .int p1), (2, .int p2), (3, .long p3)] := hl
  refine lv_aload_n hx hb dX0_again_0 rfl (lv_at hl 0 rfl) ?_
  refine lv_aload_n hx hb dX0_again_1 rfl (lv_at hl 0 rfl) ?_
  refine lv_iload_n hx hb dX0_again_2 rfl (lv_at hl 1 rfl) ?_
  refine lv_iload_n hx hb dX0_again_3 rfl (lv_at hl 2 rfl) ?_
  refine vp_callSl (W.runV (As := [.int p1, .int p2]) (rest := [.ref (ad 0)]) ⟨hx, hb, hml, hown, hts⟩ (xk_refusalOf l D ad cd (x0, x1, x2, x3, x4, x5, x6, x7, x8, x9, x10, x11, x12, x13) p1 p2) (cwV 2 hts gX0_again_X0_refusalOf rfl rfl rfl (by decide +kernel) ⟨Nat.le_of_ble_eq_true rfl, Nat.le_of_ble_eq_true rfl⟩) ⟨fun a U g mk q => ⟨q.1, q.2.1, va_K.moved (u := U) (U := U.calling g mk a) (Vm.Alike.refl U.vm) q.2.2⟩, va_recv hK hP (ci := 0) (q0 := 0) rfl rfl, fun U hU hW => ⟨rfl, by rw [hU]; exact hP, va_K.moved hW.alike hK⟩⟩ rfl rfl hl.1 rfl (lv_room (Nat.le_of_ble_eq_true rfl)) dX0_again_4 ⟨Nat.zero_le _, Nat.zero_le _⟩) (fun r_4 hr_4 => ?_)
  subst hr_4
  refine lv_iload_n hx hb dX0_again_7 rfl (lv_at hl 1 rfl) ?_
  refine lv_lload_n hx hb dX0_again_8 rfl (lv_at hl 3 rfl) ?_
  refine vp_callSl (W.runV (As := [.long (xf_refusalOf (x0, x1, x2, x3, x4, x5, x6, x7, x8, x9, x10, x11, x12, x13) p1 p2), .int p1, .long p3]) (rest := []) ⟨hx, hb, hml, hown, hts⟩ (xk_replyTo l D ad cd (x0, x1, x2, x3, x4, x5, x6, x7, x8, x9, x10, x11, x12, x13) (xf_refusalOf (x0, x1, x2, x3, x4, x5, x6, x7, x8, x9, x10, x11, x12, x13) p1 p2) p1 p3 (xro_in _ _ _)) (cwV 3 hts gX0_again_X0_replyTo rfl rfl rfl (by decide +kernel) ⟨Nat.le_of_ble_eq_true rfl, Nat.le_of_ble_eq_true rfl⟩) ⟨fun a U g mk q => ⟨q.1, q.2.1, va_K.moved (u := U) (U := U.calling g mk a) (Vm.Alike.refl U.vm) q.2.2⟩, va_recv hK hP (ci := 0) (q0 := 0) rfl rfl, fun U hU hW => ⟨rfl, by rw [hU]; exact hP, va_K.moved hW.alike hK⟩⟩ rfl rfl hl.1 rfl (lv_room (Nat.le_of_ble_eq_true rfl)) dX0_again_9 ⟨Nat.zero_le _, Nat.zero_le _⟩) (fun r_9 hr_9 => ?_)
  subst hr_9
  exact W.lret (v := (xf_replyTo (x0, x1, x2, x3, x4, x5, x6, x7, x8, x9, x10, x11, x12, x13) (xf_refusalOf (x0, x1, x2, x3, x4, x5, x6, x7, x8, x9, x10, x11, x12, x13) p1 p2) p1 p3)) hx hb hr (fun t ht hW => ⟨(xf_replyTo (x0, x1, x2, x3, x4, x5, x6, x7, x8, x9, x10, x11, x12, x13) (xf_refusalOf (x0, x1, x2, x3, x4, x5, x6, x7, x8, x9, x10, x11, x12, x13) p1 p2) p1 p3), rfl, (by simp only [xf_again]), ht⟩) (fun _ h => by cases h) dX0_again_12
def xf_log (u : XS) (p1 : Int32) (p2 : Int32) (p3 : Int64) : Int64 := match u with
  | (x0, x1, x2, x3, x4, x5, x6, x7, x8, x9, x10, x11, x12, x13) => (xf_logBehind (x0, x1, x2, x3, x4, x5, x6, x7, x8, x9, x10, x11, x12, x13) (xf_refusalOf (x0, x1, x2, x3, x4, x5, x6, x7, x8, x9, x10, x11, x12, x13) p1 p2) p1 p2 (xf_replyTo (x0, x1, x2, x3, x4, x5, x6, x7, x8, x9, x10, x11, x12, x13) (xf_refusalOf (x0, x1, x2, x3, x4, x5, x6, x7, x8, x9, x10, x11, x12, x13) p1 p2) p1 p3))
set_option maxHeartbeats 4000000 in
set_option maxRecDepth 100000 in
theorem xk_log (l : Launch) (D : va_G) (ad : Nat → Nat) (cd : Nat → ClassId) (u : XS) (p1 : Int32) (p2 : Int32) (p3 : Int64)  : Met l yX0_log wsX0_log ({ frames := 4, cells := 0, slots := 0, locals := 86 }) (xPr D ad cd u [.int p1, .int p2, .long p3]) (vp_Sl (fun r => r = xf_log u p1 p2 p3)) 0 0 (fun _ => False) := by
  obtain ⟨x0, x1, x2, x3, x4, x5, x6, x7, x8, x9, x10, x11, x12, x13⟩ := u
  refine Met.ofW (cc := cX0_log) (maxL := 7) (ret := (some .long)) (by decide) rfl ?_
  intro p e s m args below meth c s₁ B hml hv
  obtain ⟨rfl, hP, hK⟩ := hv
  have hx := B.exec
  have hb := B.bytes
  have hr := B.returns
  have hts := atoms_spec (ws := wsX0_log) B.pre
  have hown : s.vm.findClass RX0 = some m.cls := findClass_of_methodNamed B.named
  have hlocks := B.notSynchronized
  have hP : va_P D vwCl (xw ad cd (x0, x1, x2, x3, x4, x5, x6, x7, x8, x9, x10, x11, x12, x13)) s.heap := hP
  have hl := lv_entry ([.ref (ad 0), .int p1, .int p2, .long p3]) (n := 7) (Nat.le_of_ble_eq_true rfl)
  rw [lg_entry_eq]
  generalize (lg_sl ([.ref (ad 0), .int p1, .int p2, .long p3]) ++ List.replicate (7 - (lg_sl ([.ref (ad 0), .int p1, .int p2, .long p3])).length) Slot.unset).toArray = ls at hl ⊢
  have hl : lv_has ls 7 [(0, .ref (ad 0)), (1, .int p1), (2, .int p2), (3, .long p3)] := hl
  refine lv_aload_n hx hb dX0_log_0 rfl (lv_at hl 0 rfl) ?_
  refine lv_iload_n hx hb dX0_log_1 rfl (lv_at hl 1 rfl) ?_
  refine lv_iload_n hx hb dX0_log_2 rfl (lv_at hl 2 rfl) ?_
  refine vp_callSl (W.runV (As := [.int p1, .int p2]) (rest := []) ⟨hx, hb, hml, hown, hts⟩ (xk_refusalOf l D ad cd (x0, x1, x2, x3, x4, x5, x6, x7, x8, x9, x10, x11, x12, x13) p1 p2) (cwV 2 hts gX0_log_X0_refusalOf rfl rfl rfl (by decide +kernel) ⟨Nat.le_of_ble_eq_true rfl, Nat.le_of_ble_eq_true rfl⟩) ⟨fun a U g mk q => ⟨q.1, q.2.1, va_K.moved (u := U) (U := U.calling g mk a) (Vm.Alike.refl U.vm) q.2.2⟩, va_recv hK hP (ci := 0) (q0 := 0) rfl rfl, fun U hU hW => ⟨rfl, by rw [hU]; exact hP, va_K.moved hW.alike hK⟩⟩ rfl rfl hl.1 rfl (lv_room (Nat.le_of_ble_eq_true rfl)) dX0_log_3 ⟨Nat.zero_le _, Nat.zero_le _⟩) (fun r_3 hr_3 => ?_)
  subst hr_3
  refine lv_lstore (lv' := [(5, .long (xf_refusalOf (x0, x1, x2, x3, x4, x5, x6, x7, x8, x9, x10, x11, x12, x13) p1 p2)), (0, .ref (ad 0)), (1, .int p1), (2, .int p2), (3, .long p3)]) hx hb dX0_log_6 hl (by decide) rfl (fun ls hl => ?_)
  refine lv_aload_n hx hb dX0_log_8 rfl (lv_at hl 1 rfl) ?_
  refine lv_lload hx hb dX0_log_9 (lv_at hl 0 rfl) ?_
  refine lv_iload_n hx hb dX0_log_11 rfl (lv_at hl 2 rfl) ?_
  refine lv_iload_n hx hb dX0_log_12 rfl (lv_at hl 3 rfl) ?_
  refine lv_aload_n hx hb dX0_log_13 rfl (lv_at hl 1 rfl) ?_
  refine lv_lload hx hb dX0_log_14 (lv_at hl 0 rfl) ?_
  refine lv_iload_n hx hb dX0_log_16 rfl (lv_at hl 2 rfl) ?_
  refine lv_lload_n hx hb dX0_log_17 rfl (lv_at hl 4 rfl) ?_
  refine vp_callSl (W.runV (As := [.long (xf_refusalOf (x0, x1, x2, x3, x4, x5, x6, x7, x8, x9, x10, x11, x12, x13) p1 p2), .int p1, .long p3]) (rest := [.int p2, .int p1, .long (xf_refusalOf (x0, x1, x2, x3, x4, x5, x6, x7, x8, x9, x10, x11, x12, x13) p1 p2), .ref (ad 0)]) ⟨hx, hb, hml, hown, hts⟩ (xk_replyTo l D ad cd (x0, x1, x2, x3, x4, x5, x6, x7, x8, x9, x10, x11, x12, x13) (xf_refusalOf (x0, x1, x2, x3, x4, x5, x6, x7, x8, x9, x10, x11, x12, x13) p1 p2) p1 p3 (xro_in _ _ _)) (cwV 3 hts gX0_log_X0_replyTo rfl rfl rfl (by decide +kernel) ⟨Nat.le_of_ble_eq_true rfl, Nat.le_of_ble_eq_true rfl⟩) ⟨fun a U g mk q => ⟨q.1, q.2.1, va_K.moved (u := U) (U := U.calling g mk a) (Vm.Alike.refl U.vm) q.2.2⟩, va_recv hK hP (ci := 0) (q0 := 0) rfl rfl, fun U hU hW => ⟨rfl, by rw [hU]; exact hP, va_K.moved hW.alike hK⟩⟩ rfl rfl hl.1 rfl (lv_room (Nat.le_of_ble_eq_true rfl)) dX0_log_18 ⟨Nat.zero_le _, Nat.zero_le _⟩) (fun r_18 hr_18 => ?_)
  subst hr_18
  refine vp_callSl (W.runV (As := [.long (xf_refusalOf (x0, x1, x2, x3, x4, x5, x6, x7, x8, x9, x10, x11, x12, x13) p1 p2), .int p1, .int p2, .long (xf_replyTo (x0, x1, x2, x3, x4, x5, x6, x7, x8, x9, x10, x11, x12, x13) (xf_refusalOf (x0, x1, x2, x3, x4, x5, x6, x7, x8, x9, x10, x11, x12, x13) p1 p2) p1 p3)]) (rest := []) ⟨hx, hb, hml, hown, hts⟩ (xk_logBehind l D ad cd (x0, x1, x2, x3, x4, x5, x6, x7, x8, x9, x10, x11, x12, x13) (xf_refusalOf (x0, x1, x2, x3, x4, x5, x6, x7, x8, x9, x10, x11, x12, x13) p1 p2) p1 p2 (xf_replyTo (x0, x1, x2, x3, x4, x5, x6, x7, x8, x9, x10, x11, x12, x13) (xf_refusalOf (x0, x1, x2, x3, x4, x5, x6, x7, x8, x9, x10, x11, x12, x13) p1 p2) p1 p3) (xro_in _ _ _)) (cwV 4 hts gX0_log_X0_logBehind rfl rfl rfl (by decide +kernel) ⟨Nat.le_of_ble_eq_true rfl, Nat.le_of_ble_eq_true rfl⟩) ⟨fun a U g mk q => ⟨q.1, q.2.1, va_K.moved (u := U) (U := U.calling g mk a) (Vm.Alike.refl U.vm) q.2.2⟩, va_recv hK hP (ci := 0) (q0 := 0) rfl rfl, fun U hU hW => ⟨rfl, by rw [hU]; exact hP, va_K.moved hW.alike hK⟩⟩ rfl rfl hl.1 rfl (lv_room (Nat.le_of_ble_eq_true rfl)) dX0_log_21 ⟨Nat.zero_le _, Nat.zero_le _⟩) (fun r_21 hr_21 => ?_)
  subst hr_21
  exact W.lret (v := (xf_logBehind (x0, x1, x2, x3, x4, x5, x6, x7, x8, x9, x10, x11, x12, x13) (xf_refusalOf (x0, x1, x2, x3, x4, x5, x6, x7, x8, x9, x10, x11, x12, x13) p1 p2) p1 p2 (xf_replyTo (x0, x1, x2, x3, x4, x5, x6, x7, x8, x9, x10, x11, x12, x13) (xf_refusalOf (x0, x1, x2, x3, x4, x5, x6, x7, x8, x9, x10, x11, x12, x13) p1 p2) p1 p3))) hx hb hr (fun t ht hW => ⟨(xf_logBehind (x0, x1, x2, x3, x4, x5, x6, x7, x8, x9, x10, x11, x12, x13) (xf_refusalOf (x0, x1, x2, x3, x4, x5, x6, x7, x8, x9, x10, x11, x12, x13) p1 p2) p1 p2 (xf_replyTo (x0, x1, x2, x3, x4, x5, x6, x7, x8, x9, x10, x11, x12, x13) (xf_refusalOf (x0, x1, x2, x3, x4, x5, x6, x7, x8, x9, x10, x11, x12, x13) p1 p2) p1 p3)), rfl, (by simp only [xf_log]), ht⟩) (fun _ h => by cases h) dX0_log_24
