def yf_collect (u : YS) (p1 : Int64) : Int32 × YS := match u with
  | (y0, y1, y2, y3, y4, y5, y6, y7, y8, y9, y10, y11, y12) => if y1 = 40 then (((-14), (y0, y1, y2, y3, y4, y5, y6, y7, y8, y9, y10, y11, y12))) else (((y1 + 1), ((vp_updL y0 (y1).toNatClampNeg p1), (y1 + 1), y2, y3, y4, y5, y6, y7, y8, y9, y10, y11, y12)))
set_option maxHeartbeats 4000000 in
set_option maxRecDepth 100000 in
theorem yk_collect (l : Launch) (D : va_G) (ad : Nat → Nat) (cd : Nat → ClassId) (u : YS) (sz : Nat) (p1 : Int64) (h2 : u.2.1 = nI (u.2.1).toNatClampNeg ∧ (u.2.1).toNatClampNeg ≤ 40) : Met l yX1_collect wsX1_collect ({ frames := 0, cells := 0, slots := 0, locals := 0 }) (yPc D ad cd u sz [.long p1]) (va_Qi (fun r u2 => (r, u2) = yf_collect u p1) (yat D ad cd (va_A (yw ad cd u) sz)) (va_A (yw ad cd u) sz)) 0 0 (va_A (yw ad cd u) sz) := by
  obtain ⟨y0, y1, y2, y3, y4, y5, y6, y7, y8, y9, y10, y11, y12⟩ := u
  refine Met.ofW (cc := cX1_collect) (maxL := 3) (ret := (some .int)) (by decide) rfl ?_
  intro p e s m args below meth c s₁ B hml hv
  obtain ⟨rfl, hsz, hP, hK, hD0⟩ := hv
  have hx := B.exec
  have hb := B.bytes
  have hr := B.returns
  have hts := atoms_spec (ws := wsX1_collect) B.pre
  have hown : s.vm.findClass RX1 = some m.cls := findClass_of_methodNamed B.named
  have hlocks := B.notSynchronized
  subst hsz
  have hD := hD0.self (sz := s.heap.size)
  generalize hAe : va_A (yw ad cd (y0, y1, y2, y3, y4, y5, y6, y7, y8, y9, y10, y11, y12)) s.heap.size = A at hD ⊢
  have hA : ∀ q : Nat, s.heap.size ≤ q → A q := fun q h => by rw [← hAe]; exact Or.inr h
  have hS : va_S A s.heap s.heap [] := va_S.rf
  have hP : va_P D vwCl (yw ad cd (y0, y1, y2, y3, y4, y5, y6, y7, y8, y9, y10, y11, y12)) s.heap := hP
  have hl := lv_entry ([.ref (ad 0), .long p1]) (n := 3) (Nat.le_of_ble_eq_true rfl)
  rw [lg_entry_eq]
  generalize (lg_sl ([.ref (ad 0), .long p1]) ++ List.replicate (3 - (lg_sl ([.ref (ad 0), .long p1])).length) Slot.unset).toArray = ls at hl ⊢
  have hl : lv_has ls 3 [(0, .ref (ad 0)), (1, .long p1)] := hl
  refine lv_aload_n hx hb dX1_collect_0 rfl (lv_at hl 0 rfl) ?_
  refine va_get (D := D) (ci := 1) (v := .int y1) (C := RX1) (T := TX1) (N := 13) hx hb hts (fun _ h => List.mem_cons_of_mem _ (List.mem_append_right _ h)) hown hK hP 0 rfl rfl 1 (by decide) (hts (.fieldLink RX1 33 "PostDesk2Model" "many" "I") (by decide +kernel)) (fun _ h9 => h9) rfl dX1_collect_1 ?_
  refine lv_bipush (v := 40) hx hb dX1_collect_4 (by decide) ?_
  refine lv_icmp_ne (tgt := 12) hx hb dX1_collect_6 (by decide) (fun c_6 => ?_) (fun c_6 => ?_)
  · refine lv_aload_n hx hb dX1_collect_12 rfl (lv_at hl 0 rfl) ?_
    refine va_get (D := D) (ci := 1) (v := .ref (ad 1)) (C := RX1) (T := TX1) (N := 13) hx hb hts (fun _ h => List.mem_cons_of_mem _ (List.mem_append_right _ h)) hown hK hP 0 rfl rfl 0 (by decide) (hts (.fieldLink RX1 7 "PostDesk2Model" "collected" "[J") (by decide +kernel)) (fun _ h9 => h9) rfl dX1_collect_13 ?_
    refine lv_aload_n hx hb dX1_collect_16 rfl (lv_at hl 0 rfl) ?_
    refine va_get (D := D) (ci := 1) (v := .int y1) (C := RX1) (T := TX1) (N := 13) hx hb hts (fun _ h => List.mem_cons_of_mem _ (List.mem_append_right _ h)) hown hK hP 0 rfl rfl 1 (by decide) (hts (.fieldLink RX1 33 "PostDesk2Model" "many" "I") (by decide +kernel)) (fun _ h9 => h9) rfl dX1_collect_17 ?_
    refine lv_lload_n hx hb dX1_collect_20 rfl (lv_at hl 1 rfl) ?_
    refine va_last hx hb hK hP hD hS 1 0 rfl rfl (ymn_in h2 c_6) dX1_collect_21 (fun H locs hP hD hS => ?_)
    have hP : va_P D vwCl (yw ad cd ((vp_updL y0 (y1).toNatClampNeg p1), y1, y2, y3, y4, y5, y6, y7, y8, y9, y10, y11, y12)) H := hP
    have hD : va_D A (yw ad cd ((vp_updL y0 (y1).toNatClampNeg p1), y1, y2, y3, y4, y5, y6, y7, y8, y9, y10, y11, y12)) := hD
    refine lv_aload_n hx hb dX1_collect_22 rfl (lv_at hl 0 rfl) ?_
    refine lv_dup hx hb dX1_collect_23 rfl ?_
    refine va_get (D := D) (ci := 1) (v := .int y1) (C := RX1) (T := TX1) (N := 13) hx hb hts (fun _ h => List.mem_cons_of_mem _ (List.mem_append_right _ h)) hown hK hP 0 rfl rfl 1 (by decide) (hts (.fieldLink RX1 33 "PostDesk2Model" "many" "I") (by decide +kernel)) (fun _ h9 => h9) rfl dX1_collect_24 ?_
    refine lv_iconst (v := 1) hx hb dX1_collect_27 (by decide) ?_
    refine lv_iadd hx hb dX1_collect_28 ?_
    refine va_put (D := D) (ci := 1) (v := .int (y1 + 1)) (ty := .int) (C := RX1) (T := TX1) (N := 13) hx hb hts (fun _ h => List.mem_cons_of_mem _ (List.mem_append_right _ h)) tyX1 tyX1_ok nmX1 hown hK hP hD hS 0 rfl rfl 1 (by decide) (hts (.fieldLink RX1 33 "PostDesk2Model" "many" "I") (by decide +kernel)) (fun _ h9 => h9) rfl (by decide +kernel) rfl rfl (Nat.le_of_ble_eq_true rfl) dX1_collect_29 (fun H locs hP hD hS => ?_)
    have hP : va_P D vwCl (yw ad cd ((vp_updL y0 (y1).toNatClampNeg p1), (y1 + 1), y2, y3, y4, y5, y6, y7, y8, y9, y10, y11, y12)) H := hP
    have hD : va_D A (yw ad cd ((vp_updL y0 (y1).toNatClampNeg p1), (y1 + 1), y2, y3, y4, y5, y6, y7, y8, y9, y10, y11, y12)) := hD
    refine lv_aload_n hx hb dX1_collect_32 rfl (lv_at hl 0 rfl) ?_
    refine va_get (D := D) (ci := 1) (v := .int (y1 + 1)) (C := RX1) (T := TX1) (N := 13) hx hb hts (fun _ h => List.mem_cons_of_mem _ (List.mem_append_right _ h)) hown hK hP 0 rfl rfl 1 (by decide) (hts (.fieldLink RX1 33 "PostDesk2Model" "many" "I") (by decide +kernel)) (fun _ h9 => h9) rfl dX1_collect_33 ?_
    exact W.iret (v := (y1 + 1)) hx hb hr (fun t ht hW => ⟨⟨(y1 + 1), ((vp_updL y0 (y1).toNatClampNeg p1), (y1 + 1), y2, y3, y4, y5, y6, y7, y8, y9, y10, y11, y12), rfl, (by simp only [yf_collect, if_neg c_6]), by rw [ht]; exact hP, va_K.moved hW.alike hK, hD⟩, hS.F ht⟩) hS.2.2 dX1_collect_36
  · refine lv_bipush (v := (-14)) hx hb dX1_collect_9 (by decide) ?_
    exact W.iret (v := (-14)) hx hb hr (fun t ht hW => ⟨⟨(-14), (y0, y1, y2, y3, y4, y5, y6, y7, y8, y9, y10, y11, y12), rfl, (by simp only [yf_collect, if_pos c_6]), by rw [ht]; exact hP, va_K.moved hW.alike hK, hD⟩, hS.F ht⟩) hS.2.2 dX1_collect_11
def yf_answer (u : YS) (p1 : Int32) (p2 : Int64) : Int32 × YS := match u with
  | (y0, y1, y2, y3, y4, y5, y6, y7, y8, y9, y10, y11, y12) => if p1 < 0 then (((-1), (y0, y1, y2, y3, y4, y5, y6, y7, y8, y9, y10, y11, y12))) else (if p1 ≤ 19 then ((1, (y0, y1, (vp_updL y2 (p1).toNatClampNeg p2), (upd y3 (p1).toNatClampNeg 0), y4, y5, y6, y7, y8, y9, y10, y11, y12))) else (((-1), (y0, y1, y2, y3, y4, y5, y6, y7, y8, y9, y10, y11, y12))))
set_option maxHeartbeats 4000000 in
set_option maxRecDepth 100000 in
theorem yk_answer (l : Launch) (D : va_G) (ad : Nat → Nat) (cd : Nat → ClassId) (u : YS) (sz : Nat) (p1 : Int32) (p2 : Int64)  : Met l yX1_answer wsX1_answer ({ frames := 0, cells := 0, slots := 0, locals := 0 }) (yPc D ad cd u sz [.int p1, .long p2]) (va_Qi (fun r u2 => (r, u2) = yf_answer u p1 p2) (yat D ad cd (va_A (yw ad cd u) sz)) (va_A (yw ad cd u) sz)) 0 0 (va_A (yw ad cd u) sz) := by
  obtain ⟨y0, y1, y2, y3, y4, y5, y6, y7, y8, y9, y10, y11, y12⟩ := u
  refine Met.ofW (cc := cX1_answer) (maxL := 4) (ret := (some .int)) (by decide) rfl ?_
  intro p e s m args below meth c s₁ B hml hv
  obtain ⟨rfl, hsz, hP, hK, hD0⟩ := hv
  have hx := B.exec
  have hb := B.bytes
  have hr := B.returns
  have hts := atoms_spec (ws := wsX1_answer) B.pre
  have hown : s.vm.findClass RX1 = some m.cls := findClass_of_methodNamed B.named
  have hlocks := B.notSynchronized
  subst hsz
  have hD := hD0.self (sz := s.heap.size)
  generalize hAe : va_A (yw ad cd (y0, y1, y2, y3, y4, y5, y6, y7, y8, y9, y10, y11, y12)) s.heap.size = A at hD ⊢
  have hA : ∀ q : Nat, s.heap.size ≤ q → A q := fun q h => by rw [← hAe]; exact Or.inr h
  have hS : va_S A s.heap s.heap [] := va_S.rf
  have hP : va_P D vwCl (yw ad cd (y0, y1, y2, y3, y4, y5, y6, y7, y8, y9, y10, y11, y12)) s.heap := hP
  have hl := lv_entry ([.ref (ad 0), .int p1, .long p2]) (n := 4) (Nat.le_of_ble_eq_true rfl)
  rw [lg_entry_eq]
  generalize (lg_sl ([.ref (ad 0), .int p1, .long p2]) ++ List.replicate (4 - (lg_sl ([.ref (ad 0), .int p1, .long p2])).length) Slot.unset).toArray = ls at hl ⊢
  have hl : lv_has ls 4 [(0, .ref (ad 0)), (1, .int p1), (2, .long p2)] := hl
  refine lv_iload_n hx hb dX1_answer_0 rfl (lv_at hl 1 rfl) ?_
  refine lv_if_lt (tgt := 10) hx hb dX1_answer_1 (by decide) (fun c_1 => ?_) (fun c_1 => ?_)
  · refine lv_iconst (v := (-1)) hx hb dX1_answer_10 (by decide) ?_
    exact W.iret (v := (-1)) hx hb hr (fun t ht hW => ⟨⟨(-1), (y0, y1, y2, y3, y4, y5, y6, y7, y8, y9, y10, y11, y12), rfl, (by simp only [yf_answer, if_pos c_1]), by rw [ht]; exact hP, va_K.moved hW.alike hK, hD⟩, hS.F ht⟩) hS.2.2 dX1_answer_11
  · refine lv_iload_n hx hb dX1_answer_4 rfl (lv_at hl 1 rfl) ?_
    refine lv_bipush (v := 19) hx hb dX1_answer_5 (by decide) ?_
    refine lv_icmp_le (tgt := 12) hx hb dX1_answer_7 (by decide) (fun c_7 => ?_) (fun c_7 => ?_)
    · refine lv_aload_n hx hb dX1_answer_12 rfl (lv_at hl 0 rfl) ?_
      refine va_get (D := D) (ci := 1) (v := .ref (ad 2)) (C := RX1) (T := TX1) (N := 13) hx hb hts (fun _ h => List.mem_cons_of_mem _ (List.mem_append_right _ h)) hown hK hP 0 rfl rfl 2 (by decide) (hts (.fieldLink RX1 13 "PostDesk2Model" "value" "[J") (by decide +kernel)) (fun _ h9 => h9) rfl dX1_answer_13 ?_
      refine lv_iload_n hx hb dX1_answer_16 rfl (lv_at hl 1 rfl) ?_
      refine lv_lload_n hx hb dX1_answer_17 rfl (lv_at hl 2 rfl) ?_
      refine va_last hx hb hK hP hD hS 2 1 rfl rfl (yc_in c_1 c_7) dX1_answer_18 (fun H locs hP hD hS => ?_)
      have hP : va_P D vwCl (yw ad cd (y0, y1, (vp_updL y2 (p1).toNatClampNeg p2), y3, y4, y5, y6, y7, y8, y9, y10, y11, y12)) H := hP
      have hD : va_D A (yw ad cd (y0, y1, (vp_updL y2 (p1).toNatClampNeg p2), y3, y4, y5, y6, y7, y8, y9, y10, y11, y12)) := hD
      refine lv_aload_n hx hb dX1_answer_19 rfl (lv_at hl 0 rfl) ?_
      refine va_get (D := D) (ci := 1) (v := .ref (ad 3)) (C := RX1) (T := TX1) (N := 13) hx hb hts (fun _ h => List.mem_cons_of_mem _ (List.mem_append_right _ h)) hown hK hP 0 rfl rfl 3 (by decide) (hts (.fieldLink RX1 16 "PostDesk2Model" "failure" "[I") (by decide +kernel)) (fun _ h9 => h9) rfl dX1_answer_20 ?_
      refine lv_iload_n hx hb dX1_answer_23 rfl (lv_at hl 1 rfl) ?_
      refine lv_iconst (v := 0) hx hb dX1_answer_24 (by decide) ?_
      refine va_iast hx hb hK hP hD hS 3 2 rfl rfl (yc_in c_1 c_7) dX1_answer_25 (fun H locs hP hD hS => ?_)
      have hP : va_P D vwCl (yw ad cd (y0, y1, (vp_updL y2 (p1).toNatClampNeg p2), (upd y3 (p1).toNatClampNeg 0), y4, y5, y6, y7, y8, y9, y10, y11, y12)) H := hP
      have hD : va_D A (yw ad cd (y0, y1, (vp_updL y2 (p1).toNatClampNeg p2), (upd y3 (p1).toNatClampNeg 0), y4, y5, y6, y7, y8, y9, y10, y11, y12)) := hD
      refine lv_iconst (v := 1) hx hb dX1_answer_26 (by decide) ?_
      exact W.iret (v := 1) hx hb hr (fun t ht hW => ⟨⟨1, (y0, y1, (vp_updL y2 (p1).toNatClampNeg p2), (upd y3 (p1).toNatClampNeg 0), y4, y5, y6, y7, y8, y9, y10, y11, y12), rfl, (by simp only [yf_answer, if_neg c_1, if_pos c_7]), by rw [ht]; exact hP, va_K.moved hW.alike hK, hD⟩, hS.F ht⟩) hS.2.2 dX1_answer_27
    · refine lv_iconst (v := (-1)) hx hb dX1_answer_10 (by decide) ?_
      exact W.iret (v := (-1)) hx hb hr (fun t ht hW => ⟨⟨(-1), (y0, y1, y2, y3, y4, y5, y6, y7, y8, y9, y10, y11, y12), rfl, (by simp only [yf_answer, if_neg c_1, if_neg c_7]), by rw [ht]; exact hP, va_K.moved hW.alike hK, hD⟩, hS.F ht⟩) hS.2.2 dX1_answer_11
def yf_fails (u : YS) (p1 : Int32) (p2 : Int32) : Int32 × YS := match u with
  | (y0, y1, y2, y3, y4, y5, y6, y7, y8, y9, y10, y11, y12) => if p1 < 0 then (((-1), (y0, y1, y2, y3, y4, y5, y6, y7, y8, y9, y10, y11, y12))) else (if 19 < p1 then (((-1), (y0, y1, y2, y3, y4, y5, y6, y7, y8, y9, y10, y11, y12))) else (if p2 < 0 then (((-1), (y0, y1, y2, y3, y4, y5, y6, y7, y8, y9, y10, y11, y12))) else (if p2 ≤ 3 then ((1, (y0, y1, y2, (upd y3 (p1).toNatClampNeg p2), y4, y5, y6, y7, y8, y9, y10, y11, y12))) else (((-1), (y0, y1, y2, y3, y4, y5, y6, y7, y8, y9, y10, y11, y12))))))
set_option maxHeartbeats 4000000 in
set_option maxRecDepth 100000 in
theorem yk_fails (l : Launch) (D : va_G) (ad : Nat → Nat) (cd : Nat → ClassId) (u : YS) (sz : Nat) (p1 : Int32) (p2 : Int32)  : Met l yX1_fails wsX1_fails ({ frames := 0, cells := 0, slots := 0, locals := 0 }) (yPc D ad cd u sz [.int p1, .int p2]) (va_Qi (fun r u2 => (r, u2) = yf_fails u p1 p2) (yat D ad cd (va_A (yw ad cd u) sz)) (va_A (yw ad cd u) sz)) 0 0 (va_A (yw ad cd u) sz) := by
  obtain ⟨y0, y1, y2, y3, y4, y5, y6, y7, y8, y9, y10, y11, y12⟩ := u
  refine Met.ofW (cc := cX1_fails) (maxL := 3) (ret := (some .int)) (by decide) rfl ?_
  intro p e s m args below meth c s₁ B hml hv
  obtain ⟨rfl, hsz, hP, hK, hD0⟩ := hv
  have hx := B.exec
  have hb := B.bytes
  have hr := B.returns
  have hts := atoms_spec (ws := wsX1_fails) B.pre
  have hown : s.vm.findClass RX1 = some m.cls := findClass_of_methodNamed B.named
  have hlocks := B.notSynchronized
  subst hsz
  have hD := hD0.self (sz := s.heap.size)
  generalize hAe : va_A (yw ad cd (y0, y1, y2, y3, y4, y5, y6, y7, y8, y9, y10, y11, y12)) s.heap.size = A at hD ⊢
  have hA : ∀ q : Nat, s.heap.size ≤ q → A q := fun q h => by rw [← hAe]; exact Or.inr h
  have hS : va_S A s.heap s.heap [] := va_S.rf
  have hP : va_P D vwCl (yw ad cd (y0, y1, y2, y3, y4, y5, y6, y7, y8, y9, y10, y11, y12)) s.heap := hP
  have hl := lv_entry ([.ref (ad 0), .int p1, .int p2]) (n := 3) (Nat.le_of_ble_eq_true rfl)
  rw [lg_entry_eq]
  generalize (lg_sl ([.ref (ad 0), .int p1, .int p2]) ++ List.replicate (3 - (lg_sl ([.ref (ad 0), .int p1, .int p2])).length) Slot.unset).toArray = ls at hl ⊢
  have hl : lv_has ls 3 [(0, .ref (ad 0)), (1, .int p1), (2, .int p2)] := hl
  refine lv_iload_n hx hb dX1_fails_0 rfl (lv_at hl 1 rfl) ?_
  refine lv_if_lt (tgt := 19) hx hb dX1_fails_1 (by decide) (fun c_1 => ?_) (fun c_1 => ?_)
  · refine lv_iconst (v := (-1)) hx hb dX1_fails_19 (by decide) ?_
    exact W.iret (v := (-1)) hx hb hr (fun t ht hW => ⟨⟨(-1), (y0, y1, y2, y3, y4, y5, y6, y7, y8, y9, y10, y11, y12), rfl, (by simp only [yf_fails, if_pos c_1]), by rw [ht]; exact hP, va_K.moved hW.alike hK, hD⟩, hS.F ht⟩) hS.2.2 dX1_fails_20
  · refine lv_iload_n hx hb dX1_fails_4 rfl (lv_at hl 1 rfl) ?_
    refine lv_bipush (v := 19) hx hb dX1_fails_5 (by decide) ?_
    refine lv_icmp_gt (tgt := 19) hx hb dX1_fails_7 (by decide) (fun c_7 => ?_) (fun c_7 => ?_)
    · refine lv_iconst (v := (-1)) hx hb dX1_fails_19 (by decide) ?_
      exact W.iret (v := (-1)) hx hb hr (fun t ht hW => ⟨⟨(-1), (y0, y1, y2, y3, y4, y5, y6, y7, y8, y9, y10, y11, y12), rfl, (by simp only [yf_fails, if_neg c_1, if_pos c_7]), by rw [ht]; exact hP, va_K.moved hW.alike hK, hD⟩, hS.F ht⟩) hS.2.2 dX1_fails_20
    · refine lv_iload_n hx hb dX1_fails_10 rfl (lv_at hl 2 rfl) ?_
      refine lv_if_lt (tgt := 19) hx hb dX1_fails_11 (by decide) (fun c_11 => ?_) (fun c_11 => ?_)
      · refine lv_iconst (v := (-1)) hx hb dX1_fails_19 (by decide) ?_
        exact W.iret (v := (-1)) hx hb hr (fun t ht hW => ⟨⟨(-1), (y0, y1, y2, y3, y4, y5, y6, y7, y8, y9, y10, y11, y12), rfl, (by simp only [yf_fails, if_neg c_1, if_neg c_7, if_pos c_11]), by rw [ht]; exact hP, va_K.moved hW.alike hK, hD⟩, hS.F ht⟩) hS.2.2 dX1_fails_20
      · refine lv_iload_n hx hb dX1_fails_14 rfl (lv_at hl 2 rfl) ?_
        refine lv_iconst (v := 3) hx hb dX1_fails_15 (by decide) ?_
        refine lv_icmp_le (tgt := 21) hx hb dX1_fails_16 (by decide) (fun c_16 => ?_) (fun c_16 => ?_)
        · refine lv_aload_n hx hb dX1_fails_21 rfl (lv_at hl 0 rfl) ?_
          refine va_get (D := D) (ci := 1) (v := .ref (ad 3)) (C := RX1) (T := TX1) (N := 13) hx hb hts (fun _ h => List.mem_cons_of_mem _ (List.mem_append_right _ h)) hown hK hP 0 rfl rfl 3 (by decide) (hts (.fieldLink RX1 16 "PostDesk2Model" "failure" "[I") (by decide +kernel)) (fun _ h9 => h9) rfl dX1_fails_22 ?_
          refine lv_iload_n hx hb dX1_fails_25 rfl (lv_at hl 1 rfl) ?_
          refine lv_iload_n hx hb dX1_fails_26 rfl (lv_at hl 2 rfl) ?_
          refine va_iast hx hb hK hP hD hS 3 2 rfl rfl (yc_in' c_1 c_7) dX1_fails_27 (fun H locs hP hD hS => ?_)
          have hP : va_P D vwCl (yw ad cd (y0, y1, y2, (upd y3 (p1).toNatClampNeg p2), y4, y5, y6, y7, y8, y9, y10, y11, y12)) H := hP
          have hD : va_D A (yw ad cd (y0, y1, y2, (upd y3 (p1).toNatClampNeg p2), y4, y5, y6, y7, y8, y9, y10, y11, y12)) := hD
          refine lv_iconst (v := 1) hx hb dX1_fails_28 (by decide) ?_
          exact W.iret (v := 1) hx hb hr (fun t ht hW => ⟨⟨1, (y0, y1, y2, (upd y3 (p1).toNatClampNeg p2), y4, y5, y6, y7, y8, y9, y10, y11, y12), rfl, (by simp only [yf_fails, if_neg c_1, if_neg c_7, if_neg c_11, if_pos c_16]), by rw [ht]; exact hP, va_K.moved hW.alike hK, hD⟩, hS.F ht⟩) hS.2.2 dX1_fails_29
        · refine lv_iconst (v := (-1)) hx hb dX1_fails_19 (by decide) ?_
          exact W.iret (v := (-1)) hx hb hr (fun t ht hW => ⟨⟨(-1), (y0, y1, y2, y3, y4, y5, y6, y7, y8, y9, y10, y11, y12), rfl, (by simp only [yf_fails, if_neg c_1, if_neg c_7, if_neg c_11, if_neg c_16]), by rw [ht]; exact hP, va_K.moved hW.alike hK, hD⟩, hS.F ht⟩) hS.2.2 dX1_fails_20
def yf_make (u : YS) (p1 : Int32) : Int32 × YS := match u with
  | (y0, y1, y2, y3, y4, y5, y6, y7, y8, y9, y10, y11, y12) => if p1 < 0 then (((-1), (y0, y1, y2, y3, y4, y5, y6, y7, y8, y9, y10, y11, y12))) else (if p1 ≤ 9 then (if (y4 (p1).toNatClampNeg) = 99 then (((-14), (y0, y1, y2, y3, y4, y5, y6, y7, y8, y9, y10, y11, y12))) else ((((1000 * p1) + ((upd y4 (p1).toNatClampNeg ((y4 (p1).toNatClampNeg) + 1)) (p1).toNatClampNeg)), (y0, y1, y2, y3, (upd y4 (p1).toNatClampNeg ((y4 (p1).toNatClampNeg) + 1)), (upd y5 (((100 * p1) + ((upd y4 (p1).toNatClampNeg ((y4 (p1).toNatClampNeg) + 1)) (p1).toNatClampNeg))).toNatClampNeg (vp_nar .boolean 1)), y6, y7, y8, y9, y10, y11, y12)))) else (((-1), (y0, y1, y2, y3, y4, y5, y6, y7, y8, y9, y10, y11, y12))))
set_option maxHeartbeats 4000000 in
set_option maxRecDepth 100000 in
theorem yk_make (l : Launch) (D : va_G) (ad : Nat → Nat) (cd : Nat → ClassId) (u : YS) (sz : Nat) (p1 : Int32) (h1 : ∀ j, j < 10 → 0 ≤ u.2.2.2.2.1 j ∧ u.2.2.2.2.1 j ≤ 99) : Met l yX1_make wsX1_make ({ frames := 0, cells := 0, slots := 0, locals := 0 }) (yPc D ad cd u sz [.int p1]) (va_Qi (fun r u2 => (r, u2) = yf_make u p1) (yat D ad cd (va_A (yw ad cd u) sz)) (va_A (yw ad cd u) sz)) 0 0 (va_A (yw ad cd u) sz) := by
  obtain ⟨y0, y1, y2, y3, y4, y5, y6, y7, y8, y9, y10, y11, y12⟩ := u
  refine Met.ofW (cc := cX1_make) (maxL := 2) (ret := (some .int)) (by decide) rfl ?_
  intro p e s m args below meth c s₁ B hml hv
  obtain ⟨rfl, hsz, hP, hK, hD0⟩ := hv
  have hx := B.exec
  have hb := B.bytes
  have hr := B.returns
  have hts := atoms_spec (ws := wsX1_make) B.pre
  have hown : s.vm.findClass RX1 = some m.cls := findClass_of_methodNamed B.named
  have hlocks := B.notSynchronized
  subst hsz
  have hD := hD0.self (sz := s.heap.size)
  generalize hAe : va_A (yw ad cd (y0, y1, y2, y3, y4, y5, y6, y7, y8, y9, y10, y11, y12)) s.heap.size = A at hD ⊢
  have hA : ∀ q : Nat, s.heap.size ≤ q → A q := fun q h => by rw [← hAe]; exact Or.inr h
  have hS : va_S A s.heap s.heap [] := va_S.rf
  have hP : va_P D vwCl (yw ad cd (y0, y1, y2, y3, y4, y5, y6, y7, y8, y9, y10, y11, y12)) s.heap := hP
  have hl := lv_entry ([.ref (ad 0), .int p1]) (n := 2) (Nat.le_of_ble_eq_true rfl)
  rw [lg_entry_eq]
  generalize (lg_sl ([.ref (ad 0), .int p1]) ++ List.replicate (2 - (lg_sl ([.ref (ad 0), .int p1])).length) Slot.unset).toArray = ls at hl ⊢
  have hl : lv_has ls 2 [(0, .ref (ad 0)), (1, .int p1)] := hl
  refine lv_iload_n hx hb dX1_make_0 rfl (lv_at hl 1 rfl) ?_
  refine lv_if_lt (tgt := 10) hx hb dX1_make_1 (by decide) (fun c_1 => ?_) (fun c_1 => ?_)
  · refine lv_iconst (v := (-1)) hx hb dX1_make_10 (by decide) ?_
    exact W.iret (v := (-1)) hx hb hr (fun t ht hW => ⟨⟨(-1), (y0, y1, y2, y3, y4, y5, y6, y7, y8, y9, y10, y11, y12), rfl, (by simp only [yf_make, if_pos c_1]), by rw [ht]; exact hP, va_K.moved hW.alike hK, hD⟩, hS.F ht⟩) hS.2.2 dX1_make_11
  · refine lv_iload_n hx hb dX1_make_4 rfl (lv_at hl 1 rfl) ?_
    refine lv_bipush (v := 9) hx hb dX1_make_5 (by decide) ?_
    refine lv_icmp_le (tgt := 12) hx hb dX1_make_7 (by decide) (fun c_7 => ?_) (fun c_7 => ?_)
    · refine lv_aload_n hx hb dX1_make_12 rfl (lv_at hl 0 rfl) ?_
      refine va_get (D := D) (ci := 1) (v := .ref (ad 4)) (C := RX1) (T := TX1) (N := 13) hx hb hts (fun _ h => List.mem_cons_of_mem _ (List.mem_append_right _ h)) hown hK hP 0 rfl rfl 4 (by decide) (hts (.fieldLink RX1 20 "PostDesk2Model" "made" "[I") (by decide +kernel)) (fun _ h9 => h9) rfl dX1_make_13 ?_
      refine lv_iload_n hx hb dX1_make_16 rfl (lv_at hl 1 rfl) ?_
      refine va_iald hx hb hK hP 4 3 rfl rfl (yk_in c_1 c_7) dX1_make_17 ?_
      refine lv_bipush (v := 99) hx hb dX1_make_18 (by decide) ?_
      refine lv_icmp_ne (tgt := 26) hx hb dX1_make_20 (by decide) (fun c_20 => ?_) (fun c_20 => ?_)
      · refine lv_aload_n hx hb dX1_make_26 rfl (lv_at hl 0 rfl) ?_
        refine va_get (D := D) (ci := 1) (v := .ref (ad 4)) (C := RX1) (T := TX1) (N := 13) hx hb hts (fun _ h => List.mem_cons_of_mem _ (List.mem_append_right _ h)) hown hK hP 0 rfl rfl 4 (by decide) (hts (.fieldLink RX1 20 "PostDesk2Model" "made" "[I") (by decide +kernel)) (fun _ h9 => h9) rfl dX1_make_27 ?_
        refine lv_iload_n hx hb dX1_make_30 rfl (lv_at hl 1 rfl) ?_
        refine lv_dup2_11 hx hb dX1_make_31 rfl rfl ?_
        refine va_iald hx hb hK hP 4 3 rfl rfl (yk_in c_1 c_7) dX1_make_32 ?_
        refine lv_iconst (v := 1) hx hb dX1_make_33 (by decide) ?_
        refine lv_iadd hx hb dX1_make_34 ?_
        refine va_iast hx hb hK hP hD hS 4 3 rfl rfl (yk_in c_1 c_7) dX1_make_35 (fun H locs hP hD hS => ?_)
        have hP : va_P D vwCl (yw ad cd (y0, y1, y2, y3, (upd y4 (p1).toNatClampNeg ((y4 (p1).toNatClampNeg) + 1)), y5, y6, y7, y8, y9, y10, y11, y12)) H := hP
        have hD : va_D A (yw ad cd (y0, y1, y2, y3, (upd y4 (p1).toNatClampNeg ((y4 (p1).toNatClampNeg) + 1)), y5, y6, y7, y8, y9, y10, y11, y12)) := hD
        refine lv_aload_n hx hb dX1_make_36 rfl (lv_at hl 0 rfl) ?_
        refine va_get (D := D) (ci := 1) (v := .ref (ad 5)) (C := RX1) (T := TX1) (N := 13) hx hb hts (fun _ h => List.mem_cons_of_mem _ (List.mem_append_right _ h)) hown hK hP 0 rfl rfl 5 (by decide) (hts (.fieldLink RX1 23 "PostDesk2Model" "there" "[Z") (by decide +kernel)) (fun _ h9 => h9) rfl dX1_make_37 ?_
        refine lv_bipush (v := 100) hx hb dX1_make_40 (by decide) ?_
        refine lv_iload_n hx hb dX1_make_42 rfl (lv_at hl 1 rfl) ?_
        refine lv_imul hx hb dX1_make_43 ?_
        refine lv_aload_n hx hb dX1_make_44 rfl (lv_at hl 0 rfl) ?_
        refine va_get (D := D) (ci := 1) (v := .ref (ad 4)) (C := RX1) (T := TX1) (N := 13) hx hb hts (fun _ h => List.mem_cons_of_mem _ (List.mem_append_right _ h)) hown hK hP 0 rfl rfl 4 (by decide) (hts (.fieldLink RX1 20 "PostDesk2Model" "made" "[I") (by decide +kernel)) (fun _ h9 => h9) rfl dX1_make_45 ?_
        refine lv_iload_n hx hb dX1_make_48 rfl (lv_at hl 1 rfl) ?_
        refine va_iald hx hb hK hP 4 3 rfl rfl (yk_in c_1 c_7) dX1_make_49 ?_
        refine lv_iadd hx hb dX1_make_50 ?_
        refine lv_iconst (v := 1) hx hb dX1_make_51 (by decide) ?_
        refine va_zast hx hb hK hP hD hS 5 4 rfl rfl (ymk_in (yk_in c_1 c_7) (h1 _ (yk_lt c_1 c_7)) c_20) dX1_make_52 (fun H locs hP hD hS => ?_)
        have hP : va_P D vwCl (yw ad cd (y0, y1, y2, y3, (upd y4 (p1).toNatClampNeg ((y4 (p1).toNatClampNeg) + 1)), (upd y5 (((100 * p1) + ((upd y4 (p1).toNatClampNeg ((y4 (p1).toNatClampNeg) + 1)) (p1).toNatClampNeg))).toNatClampNeg (vp_nar .boolean 1)), y6, y7, y8, y9, y10, y11, y12)) H := hP
        have hD : va_D A (yw ad cd (y0, y1, y2, y3, (upd y4 (p1).toNatClampNeg ((y4 (p1).toNatClampNeg) + 1)), (upd y5 (((100 * p1) + ((upd y4 (p1).toNatClampNeg ((y4 (p1).toNatClampNeg) + 1)) (p1).toNatClampNeg))).toNatClampNeg (vp_nar .boolean 1)), y6, y7, y8, y9, y10, y11, y12)) := hD
        refine lv_sipush (v := 1000) hx hb dX1_make_53 (by decide) ?_
        refine lv_iload_n hx hb dX1_make_56 rfl (lv_at hl 1 rfl) ?_
        refine lv_imul hx hb dX1_make_57 ?_
        refine lv_aload_n hx hb dX1_make_58 rfl (lv_at hl 0 rfl) ?_
        refine va_get (D := D) (ci := 1) (v := .ref (ad 4)) (C := RX1) (T := TX1) (N := 13) hx hb hts (fun _ h => List.mem_cons_of_mem _ (List.mem_append_right _ h)) hown hK hP 0 rfl rfl 4 (by decide) (hts (.fieldLink RX1 20 "PostDesk2Model" "made" "[I") (by decide +kernel)) (fun _ h9 => h9) rfl dX1_make_59 ?_
        refine lv_iload_n hx hb dX1_make_62 rfl (lv_at hl 1 rfl) ?_
        refine va_iald hx hb hK hP 4 3 rfl rfl (yk_in c_1 c_7) dX1_make_63 ?_
        refine lv_iadd hx hb dX1_make_64 ?_
        exact W.iret (v := ((1000 * p1) + ((upd y4 (p1).toNatClampNeg ((y4 (p1).toNatClampNeg) + 1)) (p1).toNatClampNeg))) hx hb hr (fun t ht hW => ⟨⟨((1000 * p1) + ((upd y4 (p1).toNatClampNeg ((y4 (p1).toNatClampNeg) + 1)) (p1).toNatClampNeg)), (y0, y1, y2, y3, (upd y4 (p1).toNatClampNeg ((y4 (p1).toNatClampNeg) + 1)), (upd y5 (((100 * p1) + ((upd y4 (p1).toNatClampNeg ((y4 (p1).toNatClampNeg) + 1)) (p1).toNatClampNeg))).toNatClampNeg (vp_nar .boolean 1)), y6, y7, y8, y9, y10, y11, y12), rfl, (by simp only [yf_make, if_neg c_1, if_pos c_7, if_neg c_20]), by rw [ht]; exact hP, va_K.moved hW.alike hK, hD⟩, hS.F ht⟩) hS.2.2 dX1_make_65
      · refine lv_bipush (v := (-14)) hx hb dX1_make_23 (by decide) ?_
        exact W.iret (v := (-14)) hx hb hr (fun t ht hW => ⟨⟨(-14), (y0, y1, y2, y3, y4, y5, y6, y7, y8, y9, y10, y11, y12), rfl, (by simp only [yf_make, if_neg c_1, if_pos c_7, if_pos c_20]), by rw [ht]; exact hP, va_K.moved hW.alike hK, hD⟩, hS.F ht⟩) hS.2.2 dX1_make_25
    · refine lv_iconst (v := (-1)) hx hb dX1_make_10 (by decide) ?_
      exact W.iret (v := (-1)) hx hb hr (fun t ht hW => ⟨⟨(-1), (y0, y1, y2, y3, y4, y5, y6, y7, y8, y9, y10, y11, y12), rfl, (by simp only [yf_make, if_neg c_1, if_neg c_7]), by rw [ht]; exact hP, va_K.moved hW.alike hK, hD⟩, hS.F ht⟩) hS.2.2 dX1_make_11
def yf_drop (u : YS) (p1 : Int32) : Int32 × YS := match u with
  | (y0, y1, y2, y3, y4, y5, y6, y7, y8, y9, y10, y11, y12) => if (yf_isThere (y0, y1, y2, y3, y4, y5, y6, y7, y8, y9, y10, y11, y12) p1) = 0 then (((yf_isThere (y0, y1, y2, y3, y4, y5, y6, y7, y8, y9, y10, y11, y12) p1), (y0, y1, y2, y3, y4, y5, y6, y7, y8, y9, y10, y11, y12))) else (((yf_isThere (y0, y1, y2, y3, y4, y5, y6, y7, y8, y9, y10, y11, y12) p1), (y0, y1, y2, y3, y4, (upd y5 (((100 * (p1 / 1000)) + (p1 - p1 / 1000 * 1000))).toNatClampNeg (vp_nar .boolean 0)), y6, y7, y8, y9, y10, y11, y12)))
set_option maxHeartbeats 4000000 in
set_option maxRecDepth 100000 in
theorem yk_drop (l : Launch) (D : va_G) (ad : Nat → Nat) (cd : Nat → ClassId) (u : YS) (sz : Nat) (p1 : Int32)  : Met l yX1_drop wsX1_drop ({ frames := 1, cells := 0, slots := 0, locals := 21 }) (yPc D ad cd u sz [.int p1]) (va_Qi (fun r u2 => (r, u2) = yf_drop u p1) (yat D ad cd (va_A (yw ad cd u) sz)) (va_A (yw ad cd u) sz)) 0 0 (va_A (yw ad cd u) sz) := by
  obtain ⟨y0, y1, y2, y3, y4, y5, y6, y7, y8, y9, y10, y11, y12⟩ := u
  refine Met.ofW (cc := cX1_drop) (maxL := 3) (ret := (some .boolean)) (by decide) rfl ?_
  intro p e s m args below meth c s₁ B hml hv
  obtain ⟨rfl, hsz, hP, hK, hD0⟩ := hv
  have hx := B.exec
  have hb := B.bytes
  have hr := B.returns
  have hts := atoms_spec (ws := wsX1_drop) B.pre
  have hown : s.vm.findClass RX1 = some m.cls := findClass_of_methodNamed B.named
  have hlocks := B.notSynchronized
  subst hsz
  have hD := hD0.self (sz := s.heap.size)
  generalize hAe : va_A (yw ad cd (y0, y1, y2, y3, y4, y5, y6, y7, y8, y9, y10, y11, y12)) s.heap.size = A at hD ⊢
  have hA : ∀ q : Nat, s.heap.size ≤ q → A q := fun q h => by rw [← hAe]; exact Or.inr h
  have hS : va_S A s.heap s.heap [] := va_S.rf
  have hP : va_P D vwCl (yw ad cd (y0, y1, y2, y3, y4, y5, y6, y7, y8, y9, y10, y11, y12)) s.heap := hP
  have hl := lv_entry ([.ref (ad 0), .int p1]) (n := 3) (Nat.le_of_ble_eq_true rfl)
  rw [lg_entry_eq]
  generalize (lg_sl ([.ref (ad 0), .int p1]) ++ List.replicate (3 - (lg_sl ([.ref (ad 0), .int p1])).length) Slot.unset).toArray = ls at hl ⊢
  have hl : lv_has ls 3 [(0, .ref (ad 0)), (1, .int p1)] := hl
  refine lv_aload_n hx hb dX1_drop_0 rfl (lv_at hl 0 rfl) ?_
  refine lv_iload_n hx hb dX1_drop_1 rfl (lv_at hl 1 rfl) ?_
  refine vp_callSi (W.runV (As := [.int p1]) (rest := []) ⟨hx, hb, hml, hown, hts⟩ (yk_isThere l D ad cd (y0, y1, y2, y3, y4, y5, y6, y7, y8, y9, y10, y11, y12) p1) (cwV 1 hts gX1_drop_X1_isThere rfl rfl rfl (by decide +kernel) ⟨Nat.le_of_ble_eq_true rfl, Nat.le_of_ble_eq_true rfl⟩) ⟨fun a U g mk q => ⟨q.1, q.2.1, va_K.moved (u := U) (U := U.calling g mk a) (Vm.Alike.refl U.vm) q.2.2⟩, va_recv hK hP (ci := 1) (q0 := 0) rfl rfl, fun U hU hW => ⟨rfl, by rw [hU]; exact hP, va_K.moved hW.alike hK⟩⟩ rfl rfl hl.1 rfl (lv_room (Nat.le_of_ble_eq_true rfl)) dX1_drop_2 ⟨Nat.zero_le _, Nat.zero_le _⟩) (fun r_2 hr_2 => ?_)
  subst hr_2
  refine lv_istore_n (lv' := [(2, .int (yf_isThere (y0, y1, y2, y3, y4, y5, y6, y7, y8, y9, y10, y11, y12) p1)), (0, .ref (ad 0)), (1, .int p1)]) hx hb dX1_drop_5 rfl hl (by decide) rfl (fun ls hl => ?_)
  refine lv_iload_n hx hb dX1_drop_6 rfl (lv_at hl 0 rfl) ?_
  refine lv_if_eq (tgt := 30) hx hb dX1_drop_7 (by decide) (fun c_7 => ?_) (fun c_7 => ?_)
  · refine lv_iload_n hx hb dX1_drop_30 rfl (lv_at hl 0 rfl) ?_
    exact W.zret (v := (yf_isThere (y0, y1, y2, y3, y4, y5, y6, y7, y8, y9, y10, y11, y12) p1)) (ty := .boolean) hx hb hr (yth_nar _ _) (fun t ht hW => ⟨⟨(yf_isThere (y0, y1, y2, y3, y4, y5, y6, y7, y8, y9, y10, y11, y12) p1), (y0, y1, y2, y3, y4, y5, y6, y7, y8, y9, y10, y11, y12), rfl, (by simp only [yf_drop, if_pos c_7]), by rw [ht]; exact hP, va_K.moved hW.alike hK, hD⟩, hS.F ht⟩) hS.2.2 dX1_drop_31
  · refine lv_aload_n hx hb dX1_drop_10 rfl (lv_at hl 1 rfl) ?_
    refine va_get (D := D) (ci := 1) (v := .ref (ad 5)) (C := RX1) (T := TX1) (N := 13) hx hb hts (fun _ h => List.mem_cons_of_mem _ (List.mem_append_right _ h)) hown hK hP 0 rfl rfl 5 (by decide) (hts (.fieldLink RX1 23 "PostDesk2Model" "there" "[Z") (by decide +kernel)) (fun _ h9 => h9) rfl dX1_drop_11 ?_
    refine lv_bipush (v := 100) hx hb dX1_drop_14 (by decide) ?_
    refine lv_iload_n hx hb dX1_drop_16 rfl (lv_at hl 2 rfl) ?_
    refine lv_sipush (v := 1000) hx hb dX1_drop_17 (by decide) ?_
    refine lv_idiv hx hb dX1_drop_20 (by decide) ?_
    refine lv_imul hx hb dX1_drop_21 ?_
    refine lv_iload_n hx hb dX1_drop_22 rfl (lv_at hl 2 rfl) ?_
    refine lv_sipush (v := 1000) hx hb dX1_drop_23 (by decide) ?_
    refine lv_irem hx hb dX1_drop_26 (by decide) ?_
    refine lv_iadd hx hb dX1_drop_27 ?_
    refine lv_iconst (v := 0) hx hb dX1_drop_28 (by decide) ?_
    refine va_zast hx hb hK hP hD hS 5 4 rfl rfl (yth_in c_7) dX1_drop_29 (fun H locs hP hD hS => ?_)
    have hP : va_P D vwCl (yw ad cd (y0, y1, y2, y3, y4, (upd y5 (((100 * (p1 / 1000)) + (p1 - p1 / 1000 * 1000))).toNatClampNeg (vp_nar .boolean 0)), y6, y7, y8, y9, y10, y11, y12)) H := hP
    have hD : va_D A (yw ad cd (y0, y1, y2, y3, y4, (upd y5 (((100 * (p1 / 1000)) + (p1 - p1 / 1000 * 1000))).toNatClampNeg (vp_nar .boolean 0)), y6, y7, y8, y9, y10, y11, y12)) := hD
    refine lv_iload_n hx hb dX1_drop_30 rfl (lv_at hl 0 rfl) ?_
    exact W.zret (v := (yf_isThere (y0, y1, y2, y3, y4, y5, y6, y7, y8, y9, y10, y11, y12) p1)) (ty := .boolean) hx hb hr (yth_nar _ _) (fun t ht hW => ⟨⟨(yf_isThere (y0, y1, y2, y3, y4, y5, y6, y7, y8, y9, y10, y11, y12) p1), (y0, y1, y2, y3, y4, (upd y5 (((100 * (p1 / 1000)) + (p1 - p1 / 1000 * 1000))).toNatClampNeg (vp_nar .boolean 0)), y6, y7, y8, y9, y10, y11, y12), rfl, (by simp only [yf_drop, if_neg c_7]), by rw [ht]; exact hP, va_K.moved hW.alike hK, hD⟩, hS.F ht⟩) hS.2.2 dX1_drop_31
def yf_call (u : YS) (p1 : Int32) (p2 : Int32) (p3 : Int64) : Int64 × YS := match u with
  | (y0, y1, y2, y3, y4, y5, y6, y7, y8, y9, y10, y11, y12) => if (yf_way (y0, y1, y2, y3, y4, y5, y6, y7, y8, y9, y10, y11, y12) p1 p2) = 0 then (((yf_told (y0, y1, y2, y3, y4, y5, y6, y7, y8, y9, y10, y11, y12) (yf_way (y0, y1, y2, y3, y4, y5, y6, y7, y8, y9, y10, y11, y12) p1 p2) p1 p3), (y0, 0, y2, y3, y4, y5, (y6 + 1), y7, y8, y9, y10, y11, (yf_logBehind (y0, y1, y2, y3, y4, y5, y6, y7, y8, y9, y10, y11, y12) (yf_way (y0, y1, y2, y3, y4, y5, y6, y7, y8, y9, y10, y11, y12) p1 p2) p1 p2 (yf_told (y0, y1, y2, y3, y4, y5, y6, y7, y8, y9, y10, y11, y12) (yf_way (y0, y1, y2, y3, y4, y5, y6, y7, y8, y9, y10, y11, y12) p1 p2) p1 p3))))) else (if (yf_way (y0, y1, y2, y3, y4, y5, y6, y7, y8, y9, y10, y11, y12) p1 p2) = 4 then (((yf_told (y0, y1, y2, y3, y4, y5, y6, y7, y8, y9, y10, y11, y12) (yf_way (y0, y1, y2, y3, y4, y5, y6, y7, y8, y9, y10, y11, y12) p1 p2) p1 p3), (y0, y1, y2, y3, y4, y5, y6, y7, (y8 + 1), (y3 (p1).toNatClampNeg), p2, p1, (yf_logBehind (y0, y1, y2, y3, y4, y5, y6, y7, y8, y9, y10, y11, y12) (yf_way (y0, y1, y2, y3, y4, y5, y6, y7, y8, y9, y10, y11, y12) p1 p2) p1 p2 (yf_told (y0, y1, y2, y3, y4, y5, y6, y7, y8, y9, y10, y11, y12) (yf_way (y0, y1, y2, y3, y4, y5, y6, y7, y8, y9, y10, y11, y12) p1 p2) p1 p3))))) else (if (yf_way (y0, y1, y2, y3, y4, y5, y6, y7, y8, y9, y10, y11, y12) p1 p2) ≤ 1 then (((yf_told (y0, y1, y2, y3, y4, y5, y6, y7, y8, y9, y10, y11, y12) (yf_way (y0, y1, y2, y3, y4, y5, y6, y7, y8, y9, y10, y11, y12) p1 p2) p1 p3), (y0, y1, y2, y3, y4, y5, y6, y7, y8, y9, y10, y11, (yf_logBehind (y0, y1, y2, y3, y4, y5, y6, y7, y8, y9, y10, y11, y12) (yf_way (y0, y1, y2, y3, y4, y5, y6, y7, y8, y9, y10, y11, y12) p1 p2) p1 p2 (yf_told (y0, y1, y2, y3, y4, y5, y6, y7, y8, y9, y10, y11, y12) (yf_way (y0, y1, y2, y3, y4, y5, y6, y7, y8, y9, y10, y11, y12) p1 p2) p1 p3))))) else (((yf_told (y0, y1, y2, y3, y4, y5, y6, y7, y8, y9, y10, y11, y12) (yf_way (y0, y1, y2, y3, y4, y5, y6, y7, y8, y9, y10, y11, y12) p1 p2) p1 p3), (y0, y1, y2, y3, y4, y5, y6, (y7 + 1), y8, y9, y10, y11, (yf_logBehind (y0, y1, y2, y3, y4, y5, y6, y7, y8, y9, y10, y11, y12) (yf_way (y0, y1, y2, y3, y4, y5, y6, y7, y8, y9, y10, y11, y12) p1 p2) p1 p2 (yf_told (y0, y1, y2, y3, y4, y5, y6, y7, y8, y9, y10, y11, y12) (yf_way (y0, y1, y2, y3, y4, y5, y6, y7, y8, y9, y10, y11, y12) p1 p2) p1 p3)))))))
set_option maxHeartbeats 4000000 in
set_option maxRecDepth 100000 in
theorem yk_call (l : Launch) (D : va_G) (ad : Nat → Nat) (cd : Nat → ClassId) (u : YS) (sz : Nat) (p1 : Int32) (p2 : Int32) (p3 : Int64) (h2 : u.2.1 = nI (u.2.1).toNatClampNeg ∧ (u.2.1).toNatClampNeg ≤ 40) : Met l yX1_call wsX1_call ({ frames := 2, cells := 0, slots := 0, locals := 43 }) (yPc D ad cd u sz [.int p1, .int p2, .long p3]) (va_Ql (fun r u2 => (r, u2) = yf_call u p1 p2 p3) (yat D ad cd (va_A (yw ad cd u) sz)) (va_A (yw ad cd u) sz)) 0 0 (va_A (yw ad cd u) sz) := by
  obtain ⟨y0, y1, y2, y3, y4, y5, y6, y7, y8, y9, y10, y11, y12⟩ := u
  refine Met.ofW (cc := cX1_call) (maxL := 8) (ret := (some .long)) (by decide) rfl ?_
  intro p e s m args below meth c s₁ B hml hv
  obtain ⟨rfl, hsz, hP, hK, hD0⟩ := hv
  have hx := B.exec
  have hb := B.bytes
  have hr := B.returns
  have hts := atoms_spec (ws := wsX1_call) B.pre
  have hown : s.vm.findClass RX1 = some m.cls := findClass_of_methodNamed B.named
  have hlocks := B.notSynchronized
  subst hsz
  have hD := hD0.self (sz := s.heap.size)
  generalize hAe : va_A (yw ad cd (y0, y1, y2, y3, y4, y5, y6, y7, y8, y9, y10, y11, y12)) s.heap.size = A at hD ⊢
  have hA : ∀ q : Nat, s.heap.size ≤ q → A q := fun q h => by rw [← hAe]; exact Or.inr h
  have hS : va_S A s.heap s.heap [] := va_S.rf
  have hP : va_P D vwCl (yw ad cd (y0, y1, y2, y3, y4, y5, y6, y7, y8, y9, y10, y11, y12)) s.heap := hP
  have hl := lv_entry ([.ref (ad 0), .int p1, .int p2, .long p3]) (n := 8) (Nat.le_of_ble_eq_true rfl)
  rw [lg_entry_eq]
  generalize (lg_sl ([.ref (ad 0), .int p1, .int p2, .long p3]) ++ List.replicate (8 - (lg_sl ([.ref (ad 0), .int p1, .int p2, .long p3])).length) Slot.unset).toArray = ls at hl ⊢
  have hl : lv_has ls 8 [(0, .ref (ad 0)), (1, .int p1), (2, .int p2), (3, .long p3)] := hl
  refine lv_aload_n hx hb dX1_call_0 rfl (lv_at hl 0 rfl) ?_
  refine lv_iload_n hx hb dX1_call_1 rfl (lv_at hl 1 rfl) ?_
  refine lv_iload_n hx hb dX1_call_2 rfl (lv_at hl 2 rfl) ?_
  refine vp_callSi (W.runV (As := [.int p1, .int p2]) (rest := []) ⟨hx, hb, hml, hown, hts⟩ (yk_way l D ad cd (y0, y1, y2, y3, y4, y5, y6, y7, y8, y9, y10, y11, y12) p1 p2) (cwV 2 hts gX1_call_X1_way rfl rfl rfl (by decide +kernel) ⟨Nat.le_of_ble_eq_true rfl, Nat.le_of_ble_eq_true rfl⟩) ⟨fun a U g mk q => ⟨q.1, q.2.1, va_K.moved (u := U) (U := U.calling g mk a) (Vm.Alike.refl U.vm) q.2.2⟩, va_recv hK hP (ci := 1) (q0 := 0) rfl rfl, fun U hU hW => ⟨rfl, by rw [hU]; exact hP, va_K.moved hW.alike hK⟩⟩ rfl rfl hl.1 rfl (lv_room (Nat.le_of_ble_eq_true rfl)) dX1_call_3 ⟨Nat.zero_le _, Nat.zero_le _⟩) (fun r_3 hr_3 => ?_)
  subst hr_3
  refine lv_istore (lv' := [(5, .int (yf_way (y0, y1, y2, y3, y4, y5, y6, y7, y8, y9, y10, y11, y12) p1 p2)), (0, .ref (ad 0)), (1, .int p1), (2, .int p2), (3, .long p3)]) hx hb dX1_call_6 hl (by decide) rfl (fun ls hl => ?_)
  refine lv_aload_n hx hb dX1_call_8 rfl (lv_at hl 1 rfl) ?_
  refine lv_iload hx hb dX1_call_9 (lv_at hl 0 rfl) ?_
  refine lv_iload_n hx hb dX1_call_11 rfl (lv_at hl 2 rfl) ?_
  refine lv_lload_n hx hb dX1_call_12 rfl (lv_at hl 4 rfl) ?_
  refine vp_callSl (W.runV (As := [.int (yf_way (y0, y1, y2, y3, y4, y5, y6, y7, y8, y9, y10, y11, y12) p1 p2), .int p1, .long p3]) (rest := []) ⟨hx, hb, hml, hown, hts⟩ (yk_told l D ad cd (y0, y1, y2, y3, y4, y5, y6, y7, y8, y9, y10, y11, y12) (yf_way (y0, y1, y2, y3, y4, y5, y6, y7, y8, y9, y10, y11, y12) p1 p2) p1 p3 (ywy_le _ _ _) h2) (cwV 3 hts gX1_call_X1_told rfl rfl rfl (by decide +kernel) ⟨Nat.le_of_ble_eq_true rfl, Nat.le_of_ble_eq_true rfl⟩) ⟨fun a U g mk q => ⟨q.1, q.2.1, va_K.moved (u := U) (U := U.calling g mk a) (Vm.Alike.refl U.vm) q.2.2⟩, va_recv hK hP (ci := 1) (q0 := 0) rfl rfl, fun U hU hW => ⟨rfl, by rw [hU]; exact hP, va_K.moved hW.alike hK⟩⟩ rfl rfl hl.1 rfl (lv_room (Nat.le_of_ble_eq_true rfl)) dX1_call_13 ⟨Nat.zero_le _, Nat.zero_le _⟩) (fun r_13 hr_13 => ?_)
  subst hr_13
  refine lv_lstore (lv' := [(6, .long (yf_told (y0, y1, y2, y3, y4, y5, y6, y7, y8, y9, y10, y11, y12) (yf_way (y0, y1, y2, y3, y4, y5, y6, y7, y8, y9, y10, y11, y12) p1 p2) p1 p3)), (5, .int (yf_way (y0, y1, y2, y3, y4, y5, y6, y7, y8, y9, y10, y11, y12) p1 p2)), (0, .ref (ad 0)), (1, .int p1), (2, .int p2), (3, .long p3)]) hx hb dX1_call_16 hl (by decide) rfl (fun ls hl => ?_)
  refine lv_aload_n hx hb dX1_call_18 rfl (lv_at hl 2 rfl) ?_
  refine lv_aload_n hx hb dX1_call_19 rfl (lv_at hl 2 rfl) ?_
  refine lv_iload hx hb dX1_call_20 (lv_at hl 1 rfl) ?_
  refine lv_iload_n hx hb dX1_call_22 rfl (lv_at hl 3 rfl) ?_
  refine lv_iload_n hx hb dX1_call_23 rfl (lv_at hl 4 rfl) ?_
  refine lv_lload hx hb dX1_call_24 (lv_at hl 0 rfl) ?_
  refine vp_callSl (W.runV (As := [.int (yf_way (y0, y1, y2, y3, y4, y5, y6, y7, y8, y9, y10, y11, y12) p1 p2), .int p1, .int p2, .long (yf_told (y0, y1, y2, y3, y4, y5, y6, y7, y8, y9, y10, y11, y12) (yf_way (y0, y1, y2, y3, y4, y5, y6, y7, y8, y9, y10, y11, y12) p1 p2) p1 p3)]) (rest := [.ref (ad 0)]) ⟨hx, hb, hml, hown, hts⟩ (yk_logBehind l D ad cd (y0, y1, y2, y3, y4, y5, y6, y7, y8, y9, y10, y11, y12) (yf_way (y0, y1, y2, y3, y4, y5, y6, y7, y8, y9, y10, y11, y12) p1 p2) p1 p2 (yf_told (y0, y1, y2, y3, y4, y5, y6, y7, y8, y9, y10, y11, y12) (yf_way (y0, y1, y2, y3, y4, y5, y6, y7, y8, y9, y10, y11, y12) p1 p2) p1 p3) (ywy_4 _ _ _)) (cwV 4 hts gX1_call_X1_logBehind rfl rfl rfl (by decide +kernel) ⟨Nat.le_of_ble_eq_true rfl, Nat.le_of_ble_eq_true rfl⟩) ⟨fun a U g mk q => ⟨q.1, q.2.1, va_K.moved (u := U) (U := U.calling g mk a) (Vm.Alike.refl U.vm) q.2.2⟩, va_recv hK hP (ci := 1) (q0 := 0) rfl rfl, fun U hU hW => ⟨rfl, by rw [hU]; exact hP, va_K.moved hW.alike hK⟩⟩ rfl rfl hl.1 rfl (lv_room (Nat.le_of_ble_eq_true rfl)) dX1_call_26 ⟨Nat.zero_le _, Nat.zero_le _⟩) (fun r_26 hr_26 => ?_)
  subst hr_26
  refine va_put (D := D) (ci := 1) (v := .long (yf_logBehind (y0, y1, y2, y3, y4, y5, y6, y7, y8, y9, y10, y11, y12) (yf_way (y0, y1, y2, y3, y4, y5, y6, y7, y8, y9, y10, y11, y12) p1 p2) p1 p2 (yf_told (y0, y1, y2, y3, y4, y5, y6, y7, y8, y9, y10, y11, y12) (yf_way (y0, y1, y2, y3, y4, y5, y6, y7, y8, y9, y10, y11, y12) p1 p2) p1 p3))) (ty := .long) (C := RX1) (T := TX1) (N := 13) hx hb hts (fun _ h => List.mem_cons_of_mem _ (List.mem_append_right _ h)) tyX1 tyX1_ok nmX1 hown hK hP hD hS 0 rfl rfl 12 (by decide) (hts (.fieldLink RX1 29 "PostDesk2Model" "log" "J") (by decide +kernel)) (fun _ h9 => h9) rfl (by decide +kernel) rfl rfl (Nat.le_of_ble_eq_true rfl) dX1_call_29 (fun H locs hP hD hS => ?_)
  have hP : va_P D vwCl (yw ad cd (y0, y1, y2, y3, y4, y5, y6, y7, y8, y9, y10, y11, (yf_logBehind (y0, y1, y2, y3, y4, y5, y6, y7, y8, y9, y10, y11, y12) (yf_way (y0, y1, y2, y3, y4, y5, y6, y7, y8, y9, y10, y11, y12) p1 p2) p1 p2 (yf_told (y0, y1, y2, y3, y4, y5, y6, y7, y8, y9, y10, y11, y12) (yf_way (y0, y1, y2, y3, y4, y5, y6, y7, y8, y9, y10, y11, y12) p1 p2) p1 p3)))) H := hP
  have hD : va_D A (yw ad cd (y0, y1, y2, y3, y4, y5, y6, y7, y8, y9, y10, y11, (yf_logBehind (y0, y1, y2, y3, y4, y5, y6, y7, y8, y9, y10, y11, y12) (yf_way (y0, y1, y2, y3, y4, y5, y6, y7, y8, y9, y10, y11, y12) p1 p2) p1 p2 (yf_told (y0, y1, y2, y3, y4, y5, y6, y7, y8, y9, y10, y11, y12) (yf_way (y0, y1, y2, y3, y4, y5, y6, y7, y8, y9, y10, y11, y12) p1 p2) p1 p3)))) := hD
  refine lv_iload hx hb dX1_call_32 (lv_at hl 1 rfl) ?_
  refine lv_if_ne (tgt := 55) hx hb dX1_call_34 (by decide) (fun c_34 => ?_) (fun c_34 => ?_)
  · refine lv_iload hx hb dX1_call_55 (lv_at hl 1 rfl) ?_
    refine lv_iconst (v := 4) hx hb dX1_call_57 (by decide) ?_
    refine lv_icmp_ne (tgt := 94) hx hb dX1_call_58 (by decide) (fun c_58 => ?_) (fun c_58 => ?_)
    · refine lv_iload hx hb dX1_call_94 (lv_at hl 1 rfl) ?_
      refine lv_iconst (v := 1) hx hb dX1_call_96 (by decide) ?_
      refine lv_icmp_le (tgt := 110) hx hb dX1_call_97 (by decide) (fun c_97 => ?_) (fun c_97 => ?_)
      · refine lv_lload hx hb dX1_call_110 (lv_at hl 0 rfl) ?_
        exact W.lret (v := (yf_told (y0, y1, y2, y3, y4, y5, y6, y7, y8, y9, y10, y11, y12) (yf_way (y0, y1, y2, y3, y4, y5, y6, y7, y8, y9, y10, y11, y12) p1 p2) p1 p3)) hx hb hr (fun t ht hW => ⟨⟨(yf_told (y0, y1, y2, y3, y4, y5, y6, y7, y8, y9, y10, y11, y12) (yf_way (y0, y1, y2, y3, y4, y5, y6, y7, y8, y9, y10, y11, y12) p1 p2) p1 p3), (y0, y1, y2, y3, y4, y5, y6, y7, y8, y9, y10, y11, (yf_logBehind (y0, y1, y2, y3, y4, y5, y6, y7, y8, y9, y10, y11, y12) (yf_way (y0, y1, y2, y3, y4, y5, y6, y7, y8, y9, y10, y11, y12) p1 p2) p1 p2 (yf_told (y0, y1, y2, y3, y4, y5, y6, y7, y8, y9, y10, y11, y12) (yf_way (y0, y1, y2, y3, y4, y5, y6, y7, y8, y9, y10, y11, y12) p1 p2) p1 p3))), rfl, (by simp only [yf_call, if_neg c_34, if_neg c_58, if_pos c_97]), by rw [ht]; exact hP, va_K.moved hW.alike hK, hD⟩, hS.F ht⟩) hS.2.2 dX1_call_112
      · refine lv_aload_n hx hb dX1_call_100 rfl (lv_at hl 2 rfl) ?_
        refine lv_dup hx hb dX1_call_101 rfl ?_
        refine va_get (D := D) (ci := 1) (v := .long y7) (C := RX1) (T := TX1) (N := 13) hx hb hts (fun _ h => List.mem_cons_of_mem _ (List.mem_append_right _ h)) hown hK hP 0 rfl rfl 7 (by decide) (hts (.fieldLink RX1 84 "PostDesk2Model" "refused" "J") (by decide +kernel)) (fun _ h9 => h9) rfl dX1_call_102 ?_
        refine lv_lconst (v := 1) hx hb dX1_call_105 (by decide) ?_
        refine lv_ladd hx hb dX1_call_106 ?_
        refine va_put (D := D) (ci := 1) (v := .long (y7 + 1)) (ty := .long) (C := RX1) (T := TX1) (N := 13) hx hb hts (fun _ h => List.mem_cons_of_mem _ (List.mem_append_right _ h)) tyX1 tyX1_ok nmX1 hown hK hP hD hS 0 rfl rfl 7 (by decide) (hts (.fieldLink RX1 84 "PostDesk2Model" "refused" "J") (by decide +kernel)) (fun _ h9 => h9) rfl (by decide +kernel) rfl rfl (Nat.le_of_ble_eq_true rfl) dX1_call_107 (fun H locs hP hD hS => ?_)
        have hP : va_P D vwCl (yw ad cd (y0, y1, y2, y3, y4, y5, y6, (y7 + 1), y8, y9, y10, y11, (yf_logBehind (y0, y1, y2, y3, y4, y5, y6, y7, y8, y9, y10, y11, y12) (yf_way (y0, y1, y2, y3, y4, y5, y6, y7, y8, y9, y10, y11, y12) p1 p2) p1 p2 (yf_told (y0, y1, y2, y3, y4, y5, y6, y7, y8, y9, y10, y11, y12) (yf_way (y0, y1, y2, y3, y4, y5, y6, y7, y8, y9, y10, y11, y12) p1 p2) p1 p3)))) H := hP
        have hD : va_D A (yw ad cd (y0, y1, y2, y3, y4, y5, y6, (y7 + 1), y8, y9, y10, y11, (yf_logBehind (y0, y1, y2, y3, y4, y5, y6, y7, y8, y9, y10, y11, y12) (yf_way (y0, y1, y2, y3, y4, y5, y6, y7, y8, y9, y10, y11, y12) p1 p2) p1 p2 (yf_told (y0, y1, y2, y3, y4, y5, y6, y7, y8, y9, y10, y11, y12) (yf_way (y0, y1, y2, y3, y4, y5, y6, y7, y8, y9, y10, y11, y12) p1 p2) p1 p3)))) := hD
        refine lv_lload hx hb dX1_call_110 (lv_at hl 0 rfl) ?_
        exact W.lret (v := (yf_told (y0, y1, y2, y3, y4, y5, y6, y7, y8, y9, y10, y11, y12) (yf_way (y0, y1, y2, y3, y4, y5, y6, y7, y8, y9, y10, y11, y12) p1 p2) p1 p3)) hx hb hr (fun t ht hW => ⟨⟨(yf_told (y0, y1, y2, y3, y4, y5, y6, y7, y8, y9, y10, y11, y12) (yf_way (y0, y1, y2, y3, y4, y5, y6, y7, y8, y9, y10, y11, y12) p1 p2) p1 p3), (y0, y1, y2, y3, y4, y5, y6, (y7 + 1), y8, y9, y10, y11, (yf_logBehind (y0, y1, y2, y3, y4, y5, y6, y7, y8, y9, y10, y11, y12) (yf_way (y0, y1, y2, y3, y4, y5, y6, y7, y8, y9, y10, y11, y12) p1 p2) p1 p2 (yf_told (y0, y1, y2, y3, y4, y5, y6, y7, y8, y9, y10, y11, y12) (yf_way (y0, y1, y2, y3, y4, y5, y6, y7, y8, y9, y10, y11, y12) p1 p2) p1 p3))), rfl, (by simp only [yf_call, if_neg c_34, if_neg c_58, if_neg c_97]), by rw [ht]; exact hP, va_K.moved hW.alike hK, hD⟩, hS.F ht⟩) hS.2.2 dX1_call_112
    · refine lv_aload_n hx hb dX1_call_61 rfl (lv_at hl 2 rfl) ?_
      refine lv_dup hx hb dX1_call_62 rfl ?_
      refine va_get (D := D) (ci := 1) (v := .long y8) (C := RX1) (T := TX1) (N := 13) hx hb hts (fun _ h => List.mem_cons_of_mem _ (List.mem_append_right _ h)) hown hK hP 0 rfl rfl 8 (by decide) (hts (.fieldLink RX1 72 "PostDesk2Model" "failed" "J") (by decide +kernel)) (fun _ h9 => h9) rfl dX1_call_63 ?_
      refine lv_lconst (v := 1) hx hb dX1_call_66 (by decide) ?_
      refine lv_ladd hx hb dX1_call_67 ?_
      refine va_put (D := D) (ci := 1) (v := .long (y8 + 1)) (ty := .long) (C := RX1) (T := TX1) (N := 13) hx hb hts (fun _ h => List.mem_cons_of_mem _ (List.mem_append_right _ h)) tyX1 tyX1_ok nmX1 hown hK hP hD hS 0 rfl rfl 8 (by decide) (hts (.fieldLink RX1 72 "PostDesk2Model" "failed" "J") (by decide +kernel)) (fun _ h9 => h9) rfl (by decide +kernel) rfl rfl (Nat.le_of_ble_eq_true rfl) dX1_call_68 (fun H locs hP hD hS => ?_)
      have hP : va_P D vwCl (yw ad cd (y0, y1, y2, y3, y4, y5, y6, y7, (y8 + 1), y9, y10, y11, (yf_logBehind (y0, y1, y2, y3, y4, y5, y6, y7, y8, y9, y10, y11, y12) (yf_way (y0, y1, y2, y3, y4, y5, y6, y7, y8, y9, y10, y11, y12) p1 p2) p1 p2 (yf_told (y0, y1, y2, y3, y4, y5, y6, y7, y8, y9, y10, y11, y12) (yf_way (y0, y1, y2, y3, y4, y5, y6, y7, y8, y9, y10, y11, y12) p1 p2) p1 p3)))) H := hP
      have hD : va_D A (yw ad cd (y0, y1, y2, y3, y4, y5, y6, y7, (y8 + 1), y9, y10, y11, (yf_logBehind (y0, y1, y2, y3, y4, y5, y6, y7, y8, y9, y10, y11, y12) (yf_way (y0, y1, y2, y3, y4, y5, y6, y7, y8, y9, y10, y11, y12) p1 p2) p1 p2 (yf_told (y0, y1, y2, y3, y4, y5, y6, y7, y8, y9, y10, y11, y12) (yf_way (y0, y1, y2, y3, y4, y5, y6, y7, y8, y9, y10, y11, y12) p1 p2) p1 p3)))) := hD
      refine lv_aload_n hx hb dX1_call_71 rfl (lv_at hl 2 rfl) ?_
      refine lv_aload_n hx hb dX1_call_72 rfl (lv_at hl 2 rfl) ?_
      refine va_get (D := D) (ci := 1) (v := .ref (ad 3)) (C := RX1) (T := TX1) (N := 13) hx hb hts (fun _ h => List.mem_cons_of_mem _ (List.mem_append_right _ h)) hown hK hP 0 rfl rfl 3 (by decide) (hts (.fieldLink RX1 16 "PostDesk2Model" "failure" "[I") (by decide +kernel)) (fun _ h9 => h9) rfl dX1_call_73 ?_
      refine lv_iload_n hx hb dX1_call_76 rfl (lv_at hl 3 rfl) ?_
      refine va_iald hx hb hK hP 3 2 rfl rfl (ywy_4 _ _ _ c_58) dX1_call_77 ?_
      refine va_put (D := D) (ci := 1) (v := .int (y3 (p1).toNatClampNeg)) (ty := .int) (C := RX1) (T := TX1) (N := 13) hx hb hts (fun _ h => List.mem_cons_of_mem _ (List.mem_append_right _ h)) tyX1 tyX1_ok nmX1 hown hK hP hD hS 0 rfl rfl 9 (by decide) (hts (.fieldLink RX1 75 "PostDesk2Model" "kindOf" "I") (by decide +kernel)) (fun _ h9 => h9) rfl (by decide +kernel) rfl rfl (Nat.le_of_ble_eq_true rfl) dX1_call_78 (fun H locs hP hD hS => ?_)
      have hP : va_P D vwCl (yw ad cd (y0, y1, y2, y3, y4, y5, y6, y7, (y8 + 1), (y3 (p1).toNatClampNeg), y10, y11, (yf_logBehind (y0, y1, y2, y3, y4, y5, y6, y7, y8, y9, y10, y11, y12) (yf_way (y0, y1, y2, y3, y4, y5, y6, y7, y8, y9, y10, y11, y12) p1 p2) p1 p2 (yf_told (y0, y1, y2, y3, y4, y5, y6, y7, y8, y9, y10, y11, y12) (yf_way (y0, y1, y2, y3, y4, y5, y6, y7, y8, y9, y10, y11, y12) p1 p2) p1 p3)))) H := hP
      have hD : va_D A (yw ad cd (y0, y1, y2, y3, y4, y5, y6, y7, (y8 + 1), (y3 (p1).toNatClampNeg), y10, y11, (yf_logBehind (y0, y1, y2, y3, y4, y5, y6, y7, y8, y9, y10, y11, y12) (yf_way (y0, y1, y2, y3, y4, y5, y6, y7, y8, y9, y10, y11, y12) p1 p2) p1 p2 (yf_told (y0, y1, y2, y3, y4, y5, y6, y7, y8, y9, y10, y11, y12) (yf_way (y0, y1, y2, y3, y4, y5, y6, y7, y8, y9, y10, y11, y12) p1 p2) p1 p3)))) := hD
      refine lv_aload_n hx hb dX1_call_81 rfl (lv_at hl 2 rfl) ?_
      refine lv_iload_n hx hb dX1_call_82 rfl (lv_at hl 4 rfl) ?_
      refine va_put (D := D) (ci := 1) (v := .int p2) (ty := .int) (C := RX1) (T := TX1) (N := 13) hx hb hts (fun _ h => List.mem_cons_of_mem _ (List.mem_append_right _ h)) tyX1 tyX1_ok nmX1 hown hK hP hD hS 0 rfl rfl 10 (by decide) (hts (.fieldLink RX1 78 "PostDesk2Model" "numberOf" "I") (by decide +kernel)) (fun _ h9 => h9) rfl (by decide +kernel) rfl rfl (Nat.le_of_ble_eq_true rfl) dX1_call_83 (fun H locs hP hD hS => ?_)
      have hP : va_P D vwCl (yw ad cd (y0, y1, y2, y3, y4, y5, y6, y7, (y8 + 1), (y3 (p1).toNatClampNeg), p2, y11, (yf_logBehind (y0, y1, y2, y3, y4, y5, y6, y7, y8, y9, y10, y11, y12) (yf_way (y0, y1, y2, y3, y4, y5, y6, y7, y8, y9, y10, y11, y12) p1 p2) p1 p2 (yf_told (y0, y1, y2, y3, y4, y5, y6, y7, y8, y9, y10, y11, y12) (yf_way (y0, y1, y2, y3, y4, y5, y6, y7, y8, y9, y10, y11, y12) p1 p2) p1 p3)))) H := hP
      have hD : va_D A (yw ad cd (y0, y1, y2, y3, y4, y5, y6, y7, (y8 + 1), (y3 (p1).toNatClampNeg), p2, y11, (yf_logBehind (y0, y1, y2, y3, y4, y5, y6, y7, y8, y9, y10, y11, y12) (yf_way (y0, y1, y2, y3, y4, y5, y6, y7, y8, y9, y10, y11, y12) p1 p2) p1 p2 (yf_told (y0, y1, y2, y3, y4, y5, y6, y7, y8, y9, y10, y11, y12) (yf_way (y0, y1, y2, y3, y4, y5, y6, y7, y8, y9, y10, y11, y12) p1 p2) p1 p3)))) := hD
      refine lv_aload_n hx hb dX1_call_86 rfl (lv_at hl 2 rfl) ?_
      refine lv_iload_n hx hb dX1_call_87 rfl (lv_at hl 3 rfl) ?_
      refine va_put (D := D) (ci := 1) (v := .int p1) (ty := .int) (C := RX1) (T := TX1) (N := 13) hx hb hts (fun _ h => List.mem_cons_of_mem _ (List.mem_append_right _ h)) tyX1 tyX1_ok nmX1 hown hK hP hD hS 0 rfl rfl 11 (by decide) (hts (.fieldLink RX1 81 "PostDesk2Model" "callOf" "I") (by decide +kernel)) (fun _ h9 => h9) rfl (by decide +kernel) rfl rfl (Nat.le_of_ble_eq_true rfl) dX1_call_88 (fun H locs hP hD hS => ?_)
      have hP : va_P D vwCl (yw ad cd (y0, y1, y2, y3, y4, y5, y6, y7, (y8 + 1), (y3 (p1).toNatClampNeg), p2, p1, (yf_logBehind (y0, y1, y2, y3, y4, y5, y6, y7, y8, y9, y10, y11, y12) (yf_way (y0, y1, y2, y3, y4, y5, y6, y7, y8, y9, y10, y11, y12) p1 p2) p1 p2 (yf_told (y0, y1, y2, y3, y4, y5, y6, y7, y8, y9, y10, y11, y12) (yf_way (y0, y1, y2, y3, y4, y5, y6, y7, y8, y9, y10, y11, y12) p1 p2) p1 p3)))) H := hP
      have hD : va_D A (yw ad cd (y0, y1, y2, y3, y4, y5, y6, y7, (y8 + 1), (y3 (p1).toNatClampNeg), p2, p1, (yf_logBehind (y0, y1, y2, y3, y4, y5, y6, y7, y8, y9, y10, y11, y12) (yf_way (y0, y1, y2, y3, y4, y5, y6, y7, y8, y9, y10, y11, y12) p1 p2) p1 p2 (yf_told (y0, y1, y2, y3, y4, y5, y6, y7, y8, y9, y10, y11, y12) (yf_way (y0, y1, y2, y3, y4, y5, y6, y7, y8, y9, y10, y11, y12) p1 p2) p1 p3)))) := hD
      refine lv_goto (tgt := 110) hx hb dX1_call_91 (by decide) ?_
      refine lv_lload hx hb dX1_call_110 (lv_at hl 0 rfl) ?_
      exact W.lret (v := (yf_told (y0, y1, y2, y3, y4, y5, y6, y7, y8, y9, y10, y11, y12) (yf_way (y0, y1, y2, y3, y4, y5, y6, y7, y8, y9, y10, y11, y12) p1 p2) p1 p3)) hx hb hr (fun t ht hW => ⟨⟨(yf_told (y0, y1, y2, y3, y4, y5, y6, y7, y8, y9, y10, y11, y12) (yf_way (y0, y1, y2, y3, y4, y5, y6, y7, y8, y9, y10, y11, y12) p1 p2) p1 p3), (y0, y1, y2, y3, y4, y5, y6, y7, (y8 + 1), (y3 (p1).toNatClampNeg), p2, p1, (yf_logBehind (y0, y1, y2, y3, y4, y5, y6, y7, y8, y9, y10, y11, y12) (yf_way (y0, y1, y2, y3, y4, y5, y6, y7, y8, y9, y10, y11, y12) p1 p2) p1 p2 (yf_told (y0, y1, y2, y3, y4, y5, y6, y7, y8, y9, y10, y11, y12) (yf_way (y0, y1, y2, y3, y4, y5, y6, y7, y8, y9, y10, y11, y12) p1 p2) p1 p3))), rfl, (by simp only [yf_call, if_neg c_34, if_pos c_58]), by rw [ht]; exact hP, va_K.moved hW.alike hK, hD⟩, hS.F ht⟩) hS.2.2 dX1_call_112
  · refine lv_aload_n hx hb dX1_call_37 rfl (lv_at hl 2 rfl) ?_
    refine lv_dup hx hb dX1_call_38 rfl ?_
    refine va_get (D := D) (ci := 1) (v := .long y6) (C := RX1) (T := TX1) (N := 13) hx hb hts (fun _ h => List.mem_cons_of_mem _ (List.mem_append_right _ h)) hown hK hP 0 rfl rfl 6 (by decide) (hts (.fieldLink RX1 69 "PostDesk2Model" "answered" "J") (by decide +kernel)) (fun _ h9 => h9) rfl dX1_call_39 ?_
    refine lv_lconst (v := 1) hx hb dX1_call_42 (by decide) ?_
    refine lv_ladd hx hb dX1_call_43 ?_
    refine va_put (D := D) (ci := 1) (v := .long (y6 + 1)) (ty := .long) (C := RX1) (T := TX1) (N := 13) hx hb hts (fun _ h => List.mem_cons_of_mem _ (List.mem_append_right _ h)) tyX1 tyX1_ok nmX1 hown hK hP hD hS 0 rfl rfl 6 (by decide) (hts (.fieldLink RX1 69 "PostDesk2Model" "answered" "J") (by decide +kernel)) (fun _ h9 => h9) rfl (by decide +kernel) rfl rfl (Nat.le_of_ble_eq_true rfl) dX1_call_44 (fun H locs hP hD hS => ?_)
    have hP : va_P D vwCl (yw ad cd (y0, y1, y2, y3, y4, y5, (y6 + 1), y7, y8, y9, y10, y11, (yf_logBehind (y0, y1, y2, y3, y4, y5, y6, y7, y8, y9, y10, y11, y12) (yf_way (y0, y1, y2, y3, y4, y5, y6, y7, y8, y9, y10, y11, y12) p1 p2) p1 p2 (yf_told (y0, y1, y2, y3, y4, y5, y6, y7, y8, y9, y10, y11, y12) (yf_way (y0, y1, y2, y3, y4, y5, y6, y7, y8, y9, y10, y11, y12) p1 p2) p1 p3)))) H := hP
    have hD : va_D A (yw ad cd (y0, y1, y2, y3, y4, y5, (y6 + 1), y7, y8, y9, y10, y11, (yf_logBehind (y0, y1, y2, y3, y4, y5, y6, y7, y8, y9, y10, y11, y12) (yf_way (y0, y1, y2, y3, y4, y5, y6, y7, y8, y9, y10, y11, y12) p1 p2) p1 p2 (yf_told (y0, y1, y2, y3, y4, y5, y6, y7, y8, y9, y10, y11, y12) (yf_way (y0, y1, y2, y3, y4, y5, y6, y7, y8, y9, y10, y11, y12) p1 p2) p1 p3)))) := hD
    refine lv_aload_n hx hb dX1_call_47 rfl (lv_at hl 2 rfl) ?_
    refine lv_iconst (v := 0) hx hb dX1_call_48 (by decide) ?_
    refine va_put (D := D) (ci := 1) (v := .int 0) (ty := .int) (C := RX1) (T := TX1) (N := 13) hx hb hts (fun _ h => List.mem_cons_of_mem _ (List.mem_append_right _ h)) tyX1 tyX1_ok nmX1 hown hK hP hD hS 0 rfl rfl 1 (by decide) (hts (.fieldLink RX1 33 "PostDesk2Model" "many" "I") (by decide +kernel)) (fun _ h9 => h9) rfl (by decide +kernel) rfl rfl (Nat.le_of_ble_eq_true rfl) dX1_call_49 (fun H locs hP hD hS => ?_)
    have hP : va_P D vwCl (yw ad cd (y0, 0, y2, y3, y4, y5, (y6 + 1), y7, y8, y9, y10, y11, (yf_logBehind (y0, y1, y2, y3, y4, y5, y6, y7, y8, y9, y10, y11, y12) (yf_way (y0, y1, y2, y3, y4, y5, y6, y7, y8, y9, y10, y11, y12) p1 p2) p1 p2 (yf_told (y0, y1, y2, y3, y4, y5, y6, y7, y8, y9, y10, y11, y12) (yf_way (y0, y1, y2, y3, y4, y5, y6, y7, y8, y9, y10, y11, y12) p1 p2) p1 p3)))) H := hP
    have hD : va_D A (yw ad cd (y0, 0, y2, y3, y4, y5, (y6 + 1), y7, y8, y9, y10, y11, (yf_logBehind (y0, y1, y2, y3, y4, y5, y6, y7, y8, y9, y10, y11, y12) (yf_way (y0, y1, y2, y3, y4, y5, y6, y7, y8, y9, y10, y11, y12) p1 p2) p1 p2 (yf_told (y0, y1, y2, y3, y4, y5, y6, y7, y8, y9, y10, y11, y12) (yf_way (y0, y1, y2, y3, y4, y5, y6, y7, y8, y9, y10, y11, y12) p1 p2) p1 p3)))) := hD
    refine lv_goto (tgt := 110) hx hb dX1_call_52 (by decide) ?_
    refine lv_lload hx hb dX1_call_110 (lv_at hl 0 rfl) ?_
    exact W.lret (v := (yf_told (y0, y1, y2, y3, y4, y5, y6, y7, y8, y9, y10, y11, y12) (yf_way (y0, y1, y2, y3, y4, y5, y6, y7, y8, y9, y10, y11, y12) p1 p2) p1 p3)) hx hb hr (fun t ht hW => ⟨⟨(yf_told (y0, y1, y2, y3, y4, y5, y6, y7, y8, y9, y10, y11, y12) (yf_way (y0, y1, y2, y3, y4, y5, y6, y7, y8, y9, y10, y11, y12) p1 p2) p1 p3), (y0, 0, y2, y3, y4, y5, (y6 + 1), y7, y8, y9, y10, y11, (yf_logBehind (y0, y1, y2, y3, y4, y5, y6, y7, y8, y9, y10, y11, y12) (yf_way (y0, y1, y2, y3, y4, y5, y6, y7, y8, y9, y10, y11, y12) p1 p2) p1 p2 (yf_told (y0, y1, y2, y3, y4, y5, y6, y7, y8, y9, y10, y11, y12) (yf_way (y0, y1, y2, y3, y4, y5, y6, y7, y8, y9, y10, y11, y12) p1 p2) p1 p3))), rfl, (by simp only [yf_call, if_pos c_34]), by rw [ht]; exact hP, va_K.moved hW.alike hK, hD⟩, hS.F ht⟩) hS.2.2 dX1_call_112
