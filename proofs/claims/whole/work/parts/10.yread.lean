theorem yc_in {c : Int32} (h0 : ¬ c < 0) (h1 : c ≤ 19) : vp_in c 20 := by
  rw [vp_in_iff]
  rw [Int32.lt_iff_toInt_lt] at h0
  rw [Int32.le_iff_toInt_le] at h1
  have e0 : (0 : Int32).toInt = 0 := by decide
  have e1 : (19 : Int32).toInt = 19 := by decide
  omega
theorem yc_in' {c : Int32} (h0 : ¬ c < 0) (h1 : ¬ 19 < c) : vp_in c 20 := by
  rw [vp_in_iff]
  rw [Int32.lt_iff_toInt_lt] at h0 h1
  have e0 : (0 : Int32).toInt = 0 := by decide
  have e1 : (19 : Int32).toInt = 19 := by decide
  omega
theorem yk_in {c : Int32} (h0 : ¬ c < 0) (h1 : c ≤ 9) : vp_in c 10 := by
  rw [vp_in_iff]
  rw [Int32.lt_iff_toInt_lt] at h0
  rw [Int32.le_iff_toInt_le] at h1
  have e0 : (0 : Int32).toInt = 0 := by decide
  have e1 : (9 : Int32).toInt = 9 := by decide
  omega
theorem yk_lt {c : Int32} (h0 : ¬ c < 0) (h1 : c ≤ 9) : c.toNatClampNeg < 10 := by
  obtain ⟨j, hj, rfl⟩ := vp_in_of (yk_in h0 h1) (by decide)
  rw [nI_clamp (by omega)]
  exact hj
theorem ymn_in {y : Int32} (h : y = nI y.toNatClampNeg ∧ y.toNatClampNeg ≤ 40) (h2 : ¬ y = 40) : vp_in y 40 := by
  obtain ⟨e, hl⟩ := h
  generalize y.toNatClampNeg = n at e hl
  subst e
  have : n ≠ 40 := fun q => h2 (by rw [q]; rfl)
  exact vp_in_nI (by omega) (by decide)
theorem ymk_in {f : Nat → Int32} {k : Int32} (hk : vp_in k 10) (h0 : 0 ≤ f k.toNatClampNeg ∧ f k.toNatClampNeg ≤ 99) (h9 : ¬ f k.toNatClampNeg = 99) : vp_in (100 * k + upd f k.toNatClampNeg (f k.toNatClampNeg + 1) k.toNatClampNeg) 1000 := by
  rw [pk_us]
  obtain ⟨j, hj, e⟩ := vp_in_of hk (by decide)
  generalize f k.toNatClampNeg = v at h0 h9 ⊢
  subst e
  obtain ⟨i, hi, rfl⟩ := nI_of2 (M := 99) (n := 99) (x := v) (by decide) (by
    have h0 := h0.1
    rw [Int32.lt_iff_toInt_lt]
    rw [Int32.le_iff_toInt_le] at h0
    omega) h0.2
  have : i ≠ 99 := fun q => h9 (by rw [q]; rfl)
  rw [show (100 : Int32) = nI 100 from rfl, pk_mul, nI_1, nI_add]
  exact vp_in_nI (by omega) (by decide)
/-- the reference's place of a number in range -/
theorem yt_of {n : Int32} (h0 : ¬ n ≤ 0) (h1 : ¬ 10000 ≤ n) : ∃ a : Nat, 0 < a ∧ a < 10000 ∧ n = nI a ∧ n - n / 1000 * 1000 = nI (a % 1000) ∧ n / 1000 = nI (a / 1000) := by
  have hn : ¬ n < 0 := by
    rw [Int32.lt_iff_toInt_lt]
    rw [Int32.le_iff_toInt_le] at h0
    omega
  obtain ⟨a, ha, rfl⟩ := nI_of hn
  have ha0 : 0 < a := by
    rcases Nat.eq_zero_or_pos a with q | q
    · subst q
      exact absurd (by decide) h0
    · exact q
  have ha1 : a < 10000 := by
    rw [show (10000 : Int32) = nI 10000 from rfl, nI_leI (by decide) ha] at h1
    omega
  refine ⟨a, ha0, ha1, rfl, ?_, ?_⟩
  · exact pk_rem (d := 1000) ha (by decide) (by decide)
  · exact pk_div (d := 1000) ha (by decide) (by decide)
theorem yt_in {n : Int32} (h0 : ¬ n ≤ 0) (h1 : ¬ 10000 ≤ n) (h2 : ¬ 100 ≤ n - n / 1000 * 1000) : vp_in (100 * (n / 1000) + (n - n / 1000 * 1000)) 1000 := by
  obtain ⟨a, ha0, ha1, -, e1, e2⟩ := yt_of h0 h1
  rw [e1] at h2
  rw [e1, e2, show (100 : Int32) = nI 100 from rfl, pk_mul, nI_add]
  rw [show (100 : Int32) = nI 100 from rfl, nI_leI (by decide) (by omega)] at h2
  exact vp_in_nI (by omega) (by decide)
def yf_isThere (u : YS) (p1 : Int32) : Int32 := match u with
  | (_, _, _, _, _, y5, _, _, _, _, _, _, _) => if p1 ≤ 0 then (0) else (if 10000 ≤ p1 then (0) else (if 100 ≤ (p1 - p1 / 1000 * 1000) then (0) else (if (y5 (((100 * (p1 / 1000)) + (p1 - p1 / 1000 * 1000))).toNatClampNeg) = 0 then (0) else (1))))
set_option maxHeartbeats 4000000 in
set_option maxRecDepth 100000 in
theorem yk_isThere (l : Launch) (D : va_G) (ad : Nat → Nat) (cd : Nat → ClassId) (u : YS) (p1 : Int32)  : Met l yX1_isThere wsX1_isThere ({ frames := 0, cells := 0, slots := 0, locals := 0 }) (yPr D ad cd u [.int p1]) (vp_Si (fun r => r = yf_isThere u p1)) 0 0 (fun _ => False) := by
  obtain ⟨y0, y1, y2, y3, y4, y5, y6, y7, y8, y9, y10, y11, y12⟩ := u
  refine Met.ofW (cc := cX1_isThere) (maxL := 2) (ret := (some .boolean)) (by decide) rfl ?_
  intro p e s m args below meth c s₁ B hml hv
  obtain ⟨rfl, hP, hK⟩ := hv
  have hx := B.exec
  have hb := B.bytes
  have hr := B.returns
  have hts := atoms_spec (ws := wsX1_isThere) B.pre
  have hown : s.vm.findClass RX1 = some m.cls := findClass_of_methodNamed B.named
  have hlocks := B.notSynchronized
  have hP : va_P D vwCl (yw ad cd (y0, y1, y2, y3, y4, y5, y6, y7, y8, y9, y10, y11, y12)) s.heap := hP
  have hl := lv_entry ([.ref (ad 0), .int p1]) (n := 2) (Nat.le_of_ble_eq_true rfl)
  rw [lg_entry_eq]
  generalize (lg_sl ([.ref (ad 0), .int p1]) ++ List.replicate (2 - (lg_sl ([.ref (ad 0), .int p1])).length) Slot.unset).toArray = ls at hl ⊢
  have hl : lv_has ls 2 [(0, .ref (ad 0)), (1, .int p1)] := hl
  refine lv_iload_n hx hb dX1_isThere_0 rfl (lv_at hl 1 rfl) ?_
  refine lv_if_le (tgt := 47) hx hb dX1_isThere_1 (by decide) (fun c_1 => ?_) (fun c_1 => ?_)
  · refine lv_iconst (v := 0) hx hb dX1_isThere_47 (by decide) ?_
    exact W.zret (v := 0) (ty := .boolean) hx hb hr rfl (fun t ht hW => ⟨0, rfl, (by simp only [yf_isThere, if_pos c_1]), ht⟩) (fun _ h => by cases h) dX1_isThere_48
  · refine lv_iload_n hx hb dX1_isThere_4 rfl (lv_at hl 1 rfl) ?_
    refine lv_sipush (v := 10000) hx hb dX1_isThere_5 (by decide) ?_
    refine lv_icmp_ge (tgt := 47) hx hb dX1_isThere_8 (by decide) (fun c_8 => ?_) (fun c_8 => ?_)
    · refine lv_iconst (v := 0) hx hb dX1_isThere_47 (by decide) ?_
      exact W.zret (v := 0) (ty := .boolean) hx hb hr rfl (fun t ht hW => ⟨0, rfl, (by simp only [yf_isThere, if_neg c_1, if_pos c_8]), ht⟩) (fun _ h => by cases h) dX1_isThere_48
    · refine lv_iload_n hx hb dX1_isThere_11 rfl (lv_at hl 1 rfl) ?_
      refine lv_sipush (v := 1000) hx hb dX1_isThere_12 (by decide) ?_
      refine lv_irem hx hb dX1_isThere_15 (by decide) ?_
      refine lv_bipush (v := 100) hx hb dX1_isThere_16 (by decide) ?_
      refine lv_icmp_ge (tgt := 47) hx hb dX1_isThere_18 (by decide) (fun c_18 => ?_) (fun c_18 => ?_)
      · refine lv_iconst (v := 0) hx hb dX1_isThere_47 (by decide) ?_
        exact W.zret (v := 0) (ty := .boolean) hx hb hr rfl (fun t ht hW => ⟨0, rfl, (by simp only [yf_isThere, if_neg c_1, if_neg c_8, if_pos c_18]), ht⟩) (fun _ h => by cases h) dX1_isThere_48
      · refine lv_aload_n hx hb dX1_isThere_21 rfl (lv_at hl 0 rfl) ?_
        refine va_get (D := D) (ci := 1) (v := .ref (ad 5)) (C := RX1) (T := TX1) (N := 13) hx hb hts (fun _ h => List.mem_cons_of_mem _ (List.mem_append_right _ h)) hown hK hP 0 rfl rfl 5 (by decide) (hts (.fieldLink RX1 23 "PostDesk2Model" "there" "[Z") (by decide +kernel)) (fun _ h9 => h9) rfl dX1_isThere_22 ?_
        refine lv_bipush (v := 100) hx hb dX1_isThere_25 (by decide) ?_
        refine lv_iload_n hx hb dX1_isThere_27 rfl (lv_at hl 1 rfl) ?_
        refine lv_sipush (v := 1000) hx hb dX1_isThere_28 (by decide) ?_
        refine lv_idiv hx hb dX1_isThere_31 (by decide) ?_
        refine lv_imul hx hb dX1_isThere_32 ?_
        refine lv_iload_n hx hb dX1_isThere_33 rfl (lv_at hl 1 rfl) ?_
        refine lv_sipush (v := 1000) hx hb dX1_isThere_34 (by decide) ?_
        refine lv_irem hx hb dX1_isThere_37 (by decide) ?_
        refine lv_iadd hx hb dX1_isThere_38 ?_
        refine va_zald hx hb hK hP 5 4 rfl rfl (yt_in c_1 c_8 c_18) dX1_isThere_39 ?_
        refine lv_if_eq (tgt := 47) hx hb dX1_isThere_40 (by decide) (fun c_40 => ?_) (fun c_40 => ?_)
        · refine lv_iconst (v := 0) hx hb dX1_isThere_47 (by decide) ?_
          exact W.zret (v := 0) (ty := .boolean) hx hb hr rfl (fun t ht hW => ⟨0, rfl, (by simp only [yf_isThere, if_neg c_1, if_neg c_8, if_neg c_18, if_pos c_40]), ht⟩) (fun _ h => by cases h) dX1_isThere_48
        · refine lv_iconst (v := 1) hx hb dX1_isThere_43 (by decide) ?_
          refine lv_goto (tgt := 48) hx hb dX1_isThere_44 (by decide) ?_
          exact W.zret (v := 1) (ty := .boolean) hx hb hr rfl (fun t ht hW => ⟨1, rfl, (by simp only [yf_isThere, if_neg c_1, if_neg c_8, if_neg c_18, if_neg c_40]), ht⟩) (fun _ h => by cases h) dX1_isThere_48
theorem yth_01 (u : YS) (n : Int32) : yf_isThere u n = 0 ∨ yf_isThere u n = 1 := by
  obtain ⟨y0, y1, y2, y3, y4, y5, y6, y7, y8, y9, y10, y11, y12⟩ := u
  simp only [yf_isThere]
  split
  · exact Or.inl rfl
  · split
    · exact Or.inl rfl
    · split
      · exact Or.inl rfl
      · split
        · exact Or.inl rfl
        · exact Or.inr rfl
theorem yth_nar (u : YS) (n : Int32) : narrow .boolean (.int (yf_isThere u n)) = .int (yf_isThere u n) := by
  rcases yth_01 u n with h | h <;> rw [h] <;> rfl
theorem yth_in {u : YS} {n : Int32} (h : ¬ yf_isThere u n = 0) : vp_in (100 * (n / 1000) + (n - n / 1000 * 1000)) 1000 := by
  obtain ⟨y0, y1, y2, y3, y4, y5, y6, y7, y8, y9, y10, y11, y12⟩ := u
  simp only [yf_isThere] at h
  split at h
  · exact absurd rfl h
  · rename_i h1
    split at h
    · exact absurd rfl h
    · rename_i h2
      split at h
      · exact absurd rfl h
      · rename_i h3
        exact yt_in h1 h2 h3
def yf_way (u : YS) (p1 : Int32) (p2 : Int32) : Int32 := match u with
  | (y0, y1, y2, y3, y4, y5, y6, y7, y8, y9, y10, y11, y12) => if p1 < 0 then (1) else (if p1 ≤ 19 then (if (yf_isThere (y0, y1, y2, y3, y4, y5, y6, y7, y8, y9, y10, y11, y12) p2) = 0 then (2) else (if (p2 / 1000) = (p1 - p1 / 10 * 10) then (if p1 ≤ 9 then (if (y3 (p1).toNatClampNeg) ≤ 0 then (0) else (4)) else (if y1 = 0 then (3) else (if (y3 (p1).toNatClampNeg) ≤ 0 then (0) else (4)))) else (2))) else (1))
set_option maxHeartbeats 4000000 in
set_option maxRecDepth 100000 in
theorem yk_way (l : Launch) (D : va_G) (ad : Nat → Nat) (cd : Nat → ClassId) (u : YS) (p1 : Int32) (p2 : Int32)  : Met l yX1_way wsX1_way ({ frames := 1, cells := 0, slots := 0, locals := 21 }) (yPr D ad cd u [.int p1, .int p2]) (vp_Si (fun r => r = yf_way u p1 p2)) 0 0 (fun _ => False) := by
  obtain ⟨y0, y1, y2, y3, y4, y5, y6, y7, y8, y9, y10, y11, y12⟩ := u
  refine Met.ofW (cc := cX1_way) (maxL := 3) (ret := (some .int)) (by decide) rfl ?_
  intro p e s m args below meth c s₁ B hml hv
  obtain ⟨rfl, hP, hK⟩ := hv
  have hx := B.exec
  have hb := B.bytes
  have hr := B.returns
  have hts := atoms_spec (ws := wsX1_way) B.pre
  have hown : s.vm.findClass RX1 = some m.cls := findClass_of_methodNamed B.named
  have hlocks := B.notSynchronized
  have hP : va_P D vwCl (yw ad cd (y0, y1, y2, y3, y4, y5, y6, y7, y8, y9, y10, y11, y12)) s.heap := hP
  have hl := lv_entry ([.ref (ad 0), .int p1, .int p2]) (n := 3) (Nat.le_of_ble_eq_true rfl)
  rw [lg_entry_eq]
  generalize (lg_sl ([.ref (ad 0), .int p1, .int p2]) ++ List.replicate (3 - (lg_sl ([.ref (ad 0), .int p1, .int p2])).length) Slot.unset).toArray = ls at hl ⊢
  have hl : lv_has ls 3 [(0, .ref (ad 0)), (1, .int p1), (2, .int p2)] := hl
  refine lv_iload_n hx hb dX1_way_0 rfl (lv_at hl 1 rfl) ?_
  refine lv_if_lt (tgt := 10) hx hb dX1_way_1 (by decide) (fun c_1 => ?_) (fun c_1 => ?_)
  · refine lv_iconst (v := 1) hx hb dX1_way_10 (by decide) ?_
    exact W.iret (v := 1) hx hb hr (fun t ht hW => ⟨1, rfl, (by simp only [yf_way, if_pos c_1]), ht⟩) (fun _ h => by cases h) dX1_way_11
  · refine lv_iload_n hx hb dX1_way_4 rfl (lv_at hl 1 rfl) ?_
    refine lv_bipush (v := 19) hx hb dX1_way_5 (by decide) ?_
    refine lv_icmp_le (tgt := 12) hx hb dX1_way_7 (by decide) (fun c_7 => ?_) (fun c_7 => ?_)
    · refine lv_aload_n hx hb dX1_way_12 rfl (lv_at hl 0 rfl) ?_
      refine lv_iload_n hx hb dX1_way_13 rfl (lv_at hl 2 rfl) ?_
      refine vp_callSi (W.runV (As := [.int p2]) (rest := []) ⟨hx, hb, hml, hown, hts⟩ (yk_isThere l D ad cd (y0, y1, y2, y3, y4, y5, y6, y7, y8, y9, y10, y11, y12) p2) (cwV 1 hts gX1_way_X1_isThere rfl rfl rfl (by decide +kernel) ⟨Nat.le_of_ble_eq_true rfl, Nat.le_of_ble_eq_true rfl⟩) ⟨fun a U g mk q => ⟨q.1, q.2.1, va_K.moved (u := U) (U := U.calling g mk a) (Vm.Alike.refl U.vm) q.2.2⟩, va_recv hK hP (ci := 1) (q0 := 0) rfl rfl, fun U hU hW => ⟨rfl, by rw [hU]; exact hP, va_K.moved hW.alike hK⟩⟩ rfl rfl hl.1 rfl (lv_room (Nat.le_of_ble_eq_true rfl)) dX1_way_14 ⟨Nat.zero_le _, Nat.zero_le _⟩) (fun r_14 hr_14 => ?_)
      subst hr_14
      refine lv_if_eq (tgt := 32) hx hb dX1_way_17 (by decide) (fun c_17 => ?_) (fun c_17 => ?_)
      · refine lv_iconst (v := 2) hx hb dX1_way_32 (by decide) ?_
        exact W.iret (v := 2) hx hb hr (fun t ht hW => ⟨2, rfl, (by simp only [yf_way, if_neg c_1, if_pos c_7, if_pos c_17]), ht⟩) (fun _ h => by cases h) dX1_way_33
      · refine lv_iload_n hx hb dX1_way_20 rfl (lv_at hl 2 rfl) ?_
        refine lv_sipush (v := 1000) hx hb dX1_way_21 (by decide) ?_
        refine lv_idiv hx hb dX1_way_24 (by decide) ?_
        refine lv_iload_n hx hb dX1_way_25 rfl (lv_at hl 1 rfl) ?_
        refine lv_bipush (v := 10) hx hb dX1_way_26 (by decide) ?_
        refine lv_irem hx hb dX1_way_28 (by decide) ?_
        refine lv_icmp_eq (tgt := 34) hx hb dX1_way_29 (by decide) (fun c_29 => ?_) (fun c_29 => ?_)
        · refine lv_iload_n hx hb dX1_way_34 rfl (lv_at hl 1 rfl) ?_
          refine lv_bipush (v := 9) hx hb dX1_way_35 (by decide) ?_
          refine lv_icmp_le (tgt := 51) hx hb dX1_way_37 (by decide) (fun c_37 => ?_) (fun c_37 => ?_)
          · refine lv_aload_n hx hb dX1_way_51 rfl (lv_at hl 0 rfl) ?_
            refine va_get (D := D) (ci := 1) (v := .ref (ad 3)) (C := RX1) (T := TX1) (N := 13) hx hb hts (fun _ h => List.mem_cons_of_mem _ (List.mem_append_right _ h)) hown hK hP 0 rfl rfl 3 (by decide) (hts (.fieldLink RX1 16 "PostDesk2Model" "failure" "[I") (by decide +kernel)) (fun _ h9 => h9) rfl dX1_way_52 ?_
            refine lv_iload_n hx hb dX1_way_55 rfl (lv_at hl 1 rfl) ?_
            refine va_iald hx hb hK hP 3 2 rfl rfl (yc_in c_1 c_7) dX1_way_56 ?_
            refine lv_if_le (tgt := 64) hx hb dX1_way_57 (by decide) (fun c_57 => ?_) (fun c_57 => ?_)
            · refine lv_iconst (v := 0) hx hb dX1_way_64 (by decide) ?_
              exact W.iret (v := 0) hx hb hr (fun t ht hW => ⟨0, rfl, (by simp only [yf_way, if_neg c_1, if_pos c_7, if_neg c_17, if_pos c_29, if_pos c_37, if_pos c_57]), ht⟩) (fun _ h => by cases h) dX1_way_65
            · refine lv_iconst (v := 4) hx hb dX1_way_60 (by decide) ?_
              refine lv_goto (tgt := 65) hx hb dX1_way_61 (by decide) ?_
              exact W.iret (v := 4) hx hb hr (fun t ht hW => ⟨4, rfl, (by simp only [yf_way, if_neg c_1, if_pos c_7, if_neg c_17, if_pos c_29, if_pos c_37, if_neg c_57]), ht⟩) (fun _ h => by cases h) dX1_way_65
          · refine lv_aload_n hx hb dX1_way_40 rfl (lv_at hl 0 rfl) ?_
            refine va_get (D := D) (ci := 1) (v := .int y1) (C := RX1) (T := TX1) (N := 13) hx hb hts (fun _ h => List.mem_cons_of_mem _ (List.mem_append_right _ h)) hown hK hP 0 rfl rfl 1 (by decide) (hts (.fieldLink RX1 33 "PostDesk2Model" "many" "I") (by decide +kernel)) (fun _ h9 => h9) rfl dX1_way_41 ?_
            refine lv_if_ne (tgt := 51) hx hb dX1_way_44 (by decide) (fun c_44 => ?_) (fun c_44 => ?_)
            · refine lv_aload_n hx hb dX1_way_51 rfl (lv_at hl 0 rfl) ?_
              refine va_get (D := D) (ci := 1) (v := .ref (ad 3)) (C := RX1) (T := TX1) (N := 13) hx hb hts (fun _ h => List.mem_cons_of_mem _ (List.mem_append_right _ h)) hown hK hP 0 rfl rfl 3 (by decide) (hts (.fieldLink RX1 16 "PostDesk2Model" "failure" "[I") (by decide +kernel)) (fun _ h9 => h9) rfl dX1_way_52 ?_
              refine lv_iload_n hx hb dX1_way_55 rfl (lv_at hl 1 rfl) ?_
              refine va_iald hx hb hK hP 3 2 rfl rfl (yc_in c_1 c_7) dX1_way_56 ?_
              refine lv_if_le (tgt := 64) hx hb dX1_way_57 (by decide) (fun c_57 => ?_) (fun c_57 => ?_)
              · refine lv_iconst (v := 0) hx hb dX1_way_64 (by decide) ?_
                exact W.iret (v := 0) hx hb hr (fun t ht hW => ⟨0, rfl, (by simp only [yf_way, if_neg c_1, if_pos c_7, if_neg c_17, if_pos c_29, if_neg c_37, if_neg c_44, if_pos c_57]), ht⟩) (fun _ h => by cases h) dX1_way_65
              · refine lv_iconst (v := 4) hx hb dX1_way_60 (by decide) ?_
                refine lv_goto (tgt := 65) hx hb dX1_way_61 (by decide) ?_
                exact W.iret (v := 4) hx hb hr (fun t ht hW => ⟨4, rfl, (by simp only [yf_way, if_neg c_1, if_pos c_7, if_neg c_17, if_pos c_29, if_neg c_37, if_neg c_44, if_neg c_57]), ht⟩) (fun _ h => by cases h) dX1_way_65
            · refine lv_iconst (v := 3) hx hb dX1_way_47 (by decide) ?_
              refine lv_goto (tgt := 65) hx hb dX1_way_48 (by decide) ?_
              exact W.iret (v := 3) hx hb hr (fun t ht hW => ⟨3, rfl, (by simp only [yf_way, if_neg c_1, if_pos c_7, if_neg c_17, if_pos c_29, if_neg c_37, if_pos c_44]), ht⟩) (fun _ h => by cases h) dX1_way_65
        · refine lv_iconst (v := 2) hx hb dX1_way_32 (by decide) ?_
          exact W.iret (v := 2) hx hb hr (fun t ht hW => ⟨2, rfl, (by simp only [yf_way, if_neg c_1, if_pos c_7, if_neg c_17, if_neg c_29]), ht⟩) (fun _ h => by cases h) dX1_way_33
    · refine lv_iconst (v := 1) hx hb dX1_way_10 (by decide) ?_
      exact W.iret (v := 1) hx hb hr (fun t ht hW => ⟨1, rfl, (by simp only [yf_way, if_neg c_1, if_neg c_7]), ht⟩) (fun _ h => by cases h) dX1_way_11
/-- a way that isn't 1: the call is one of the calls -/
theorem ywy_in (u : YS) (c n : Int32) (h : ¬ yf_way u c n = 1) : vp_in c 20 := by
  obtain ⟨y0, y1, y2, y3, y4, y5, y6, y7, y8, y9, y10, y11, y12⟩ := u
  by_cases h0 : c < 0
  · simp only [yf_way, if_pos h0] at h
    exact absurd trivial h
  · by_cases h1 : c ≤ 19
    · exact yc_in h0 h1
    · simp only [yf_way, if_neg h0, if_neg h1] at h
      exact absurd trivial h
theorem ywy_le (u : YS) (c n : Int32) (h : yf_way u c n ≤ 0) : vp_in c 20 := ywy_in u c n (fun q => by rw [q] at h; exact absurd h (by decide))
theorem ywy_4 (u : YS) (c n : Int32) (h : yf_way u c n = 4) : vp_in c 20 := ywy_in u c n (fun q => by rw [q] at h; exact absurd h (by decide))
set_option maxHeartbeats 4000000 in
set_option maxRecDepth 100000 in
/-- the loop of told: behind k rounds the digest of k numbers -/
theorem yl_told {p : Program} {l : Launch} {e : Env} {R : Room} {s : State} {m : MethodId} {args : Array Value} {below : List Frame} {meth : Method} {c : Code} {H : Heap} {locs : List Loc} {cells slots : Nat} {Q : State → Prop} {D : va_G} {ad : Nat → Nat} {cd : Nat → ClassId} {y0 : Nat → Int64} {y1 : Int32} {y2 : Nat → Int64} {y3 y4 y5 : Nat → Int32} {y6 y7 y8 : Int64} {y9 y10 y11 : Int32} {y12 : Int64} {p1 p2 : Int32} {p3 : Int64} (hx : p.tables.exec = Jvm.exec) (hb : c.code = cX1_told) (hts : ∀ w ∈ wsX1_told, w.before args s = true) (hown : s.vm.findClass RX1 = some m.cls) (hK : va_K D vwCl (yt cd) s) (hP : va_P D vwCl (yw ad cd (y0, y1, y2, y3, y4, y5, y6, y7, y8, y9, y10, y11, y12)) H) (h2 : y1 = nI (y1).toNatClampNeg ∧ (y1).toNatClampNeg ≤ 40)
    (kk : ∀ ls : Array Slot, lv_has ls 8 [(7, .int (nI (y1).toNatClampNeg)), (5, .long (dig y0 (y1).toNatClampNeg)), (0, .ref (ad 0)), (1, .int p1), (2, .int p2), (3, .long p3)] → W p l e R s m args below meth c H locs cells slots Q (F0 m 78 ls [])) :
    ∀ (n k : Nat) (ls : Array Slot), k + n = (y1).toNatClampNeg → lv_has ls 8 [(7, .int (nI k)), (5, .long (dig y0 k)), (0, .ref (ad 0)), (1, .int p1), (2, .int p2), (3, .long p3)] → W p l e R s m args below meth c H locs cells slots Q (F0 m 47 ls []) := by
  obtain ⟨e1, hN⟩ := h2
  intro n
  induction n with
  | zero =>
    intro k ls hk hl
    refine lv_iload hx hb dX1_told_47 (lv_at hl 0 rfl) ?_
    refine lv_aload_n hx hb dX1_told_49 rfl (lv_at hl 2 rfl) ?_
    refine va_get (D := D) (ci := 1) (v := .int y1) (C := RX1) (T := TX1) (N := 13) hx hb hts (fun _ h => List.mem_cons_of_mem _ (List.mem_append_right _ h)) hown hK hP 0 rfl rfl 1 (by decide) (hts (.fieldLink RX1 33 "PostDesk2Model" "many" "I") (by decide +kernel)) (fun _ h9 => h9) rfl dX1_told_50 ?_
    refine lv_icmp_ge (tgt := 78) hx hb dX1_told_53 (by decide) (fun c_1 => ?_) (fun c_1 => ?_)
    · rw [Nat.add_zero] at hk
      subst hk
      exact kk ls hl
    · refine absurd ?_ c_1
      rw [Nat.add_zero] at hk
      rw [e1, ← hk]
      exact nI_le (Nat.le_refl _) (by omega)
  | succ n ih =>
    intro k ls hk hl
    refine lv_iload hx hb dX1_told_47 (lv_at hl 0 rfl) ?_
    refine lv_aload_n hx hb dX1_told_49 rfl (lv_at hl 2 rfl) ?_
    refine va_get (D := D) (ci := 1) (v := .int y1) (C := RX1) (T := TX1) (N := 13) hx hb hts (fun _ h => List.mem_cons_of_mem _ (List.mem_append_right _ h)) hown hK hP 0 rfl rfl 1 (by decide) (hts (.fieldLink RX1 33 "PostDesk2Model" "many" "I") (by decide +kernel)) (fun _ h9 => h9) rfl dX1_told_50 ?_
    refine lv_icmp_ge (tgt := 78) hx hb dX1_told_53 (by decide) (fun c_1 => ?_) (fun c_1 => ?_)
    · refine absurd c_1 ?_
      rw [e1]
      exact nI_ge (by omega) (by omega)
    · refine lv_ldc2 (v := 31) hx hb hown (hts (.constantLong RX1 49 31) (by decide +kernel)) dX1_told_56 ?_
      refine lv_lload hx hb dX1_told_59 (lv_at hl 1 rfl) ?_
      refine lv_lmul hx hb dX1_told_61 ?_
      refine lv_aload_n hx hb dX1_told_62 rfl (lv_at hl 2 rfl) ?_
      refine va_get (D := D) (ci := 1) (v := .ref (ad 1)) (C := RX1) (T := TX1) (N := 13) hx hb hts (fun _ h => List.mem_cons_of_mem _ (List.mem_append_right _ h)) hown hK hP 0 rfl rfl 0 (by decide) (hts (.fieldLink RX1 7 "PostDesk2Model" "collected" "[J") (by decide +kernel)) (fun _ h9 => h9) rfl dX1_told_63 ?_
      refine lv_iload hx hb dX1_told_66 (lv_at hl 0 rfl) ?_
      refine va_lald hx hb hK hP 1 0 rfl rfl (vp_in_nI (by omega) (by decide)) dX1_told_68 ?_
      refine lv_ladd hx hb dX1_told_69 ?_
      rw [nI_clamp (by omega)]
      refine lv_lstore (lv' := [(5, .long (dig y0 (k + 1))), (7, .int (nI k)), (0, .ref (ad 0)), (1, .int p1), (2, .int p2), (3, .long p3)]) hx hb dX1_told_70 hl (by decide) rfl (fun ls hl => ?_)
      refine lv_iinc (v := nI (k + 1)) (lv' := [(7, .int (nI (k + 1))), (5, .long (dig y0 (k + 1))), (0, .ref (ad 0)), (1, .int p1), (2, .int p2), (3, .long p3)]) hx hb dX1_told_72 hl (k := 1) rfl (nI_1 k) (by decide) rfl (fun ls hl => ?_)
      refine lv_goto (tgt := 47) hx hb dX1_told_75 (by decide) ?_
      exact ih (k + 1) ls (by omega) hl
def yf_told (u : YS) (p1 : Int32) (p2 : Int32) (p3 : Int64) : Int64 := match u with
  | (y0, y1, y2, _, _, _, _, _, _, _, _, _, _) => if p1 ≤ 0 then ((((y2 (p2).toNatClampNeg) + p3) + (dig y0 (y1).toNatClampNeg))) else (if p1 = 1 then ((-9000000000000000012)) else (if p1 = 2 then ((-9000000000000000011)) else (if p1 = 3 then ((-9000000000000000013)) else ((-9000000000000000020)))))
set_option maxHeartbeats 4000000 in
set_option maxRecDepth 100000 in
theorem yk_told (l : Launch) (D : va_G) (ad : Nat → Nat) (cd : Nat → ClassId) (u : YS) (p1 : Int32) (p2 : Int32) (p3 : Int64) (h1 : p1 ≤ 0 → vp_in p2 20) (h2 : u.2.1 = nI (u.2.1).toNatClampNeg ∧ (u.2.1).toNatClampNeg ≤ 40) : Met l yX1_told wsX1_told ({ frames := 0, cells := 0, slots := 0, locals := 0 }) (yPr D ad cd u [.int p1, .int p2, .long p3]) (vp_Sl (fun r => r = yf_told u p1 p2 p3)) 0 0 (fun _ => False) := by
  obtain ⟨y0, y1, y2, y3, y4, y5, y6, y7, y8, y9, y10, y11, y12⟩ := u
  refine Met.ofW (cc := cX1_told) (maxL := 8) (ret := (some .long)) (by decide) rfl ?_
  intro p e s m args below meth c s₁ B hml hv
  obtain ⟨rfl, hP, hK⟩ := hv
  have hx := B.exec
  have hb := B.bytes
  have hr := B.returns
  have hts := atoms_spec (ws := wsX1_told) B.pre
  have hown : s.vm.findClass RX1 = some m.cls := findClass_of_methodNamed B.named
  have hlocks := B.notSynchronized
  have hP : va_P D vwCl (yw ad cd (y0, y1, y2, y3, y4, y5, y6, y7, y8, y9, y10, y11, y12)) s.heap := hP
  have hl := lv_entry ([.ref (ad 0), .int p1, .int p2, .long p3]) (n := 8) (Nat.le_of_ble_eq_true rfl)
  rw [lg_entry_eq]
  generalize (lg_sl ([.ref (ad 0), .int p1, .int p2, .long p3]) ++ List.replicate (8 - (lg_sl ([.ref (ad 0), .int p1, .int p2, .long p3])).length) Slot.unset).toArray = ls at hl ⊢
  have hl : lv_has ls 8 [(0, .ref (ad 0)), (1, .int p1), (2, .int p2), (3, .long p3)] := hl
  refine lv_iload_n hx hb dX1_told_0 rfl (lv_at hl 1 rfl) ?_
  refine lv_if_le (tgt := 41) hx hb dX1_told_1 (by decide) (fun c_1 => ?_) (fun c_1 => ?_)
  · refine lv_lconst (v := 0) hx hb dX1_told_41 (by decide) ?_
    refine lv_lstore (lv' := [(5, .long 0), (0, .ref (ad 0)), (1, .int p1), (2, .int p2), (3, .long p3)]) hx hb dX1_told_42 hl (by decide) rfl (fun ls hl => ?_)
    refine lv_iconst (v := 0) hx hb dX1_told_44 (by decide) ?_
    refine lv_istore (lv' := [(7, .int 0), (5, .long 0), (0, .ref (ad 0)), (1, .int p1), (2, .int p2), (3, .long p3)]) hx hb dX1_told_45 hl (by decide) rfl (fun ls hl => ?_)
    have hl : lv_has ls 8 [(7, .int (nI 0)), (5, .long (dig y0 0)), (0, .ref (ad 0)), (1, .int p1), (2, .int p2), (3, .long p3)] := hl
    refine yl_told hx hb hts hown hK hP h2 (fun ls hl => ?_) (y1).toNatClampNeg 0 ls (Nat.zero_add _) hl
    refine lv_aload_n hx hb dX1_told_78 rfl (lv_at hl 2 rfl) ?_
    refine va_get (D := D) (ci := 1) (v := .ref (ad 2)) (C := RX1) (T := TX1) (N := 13) hx hb hts (fun _ h => List.mem_cons_of_mem _ (List.mem_append_right _ h)) hown hK hP 0 rfl rfl 2 (by decide) (hts (.fieldLink RX1 13 "PostDesk2Model" "value" "[J") (by decide +kernel)) (fun _ h9 => h9) rfl dX1_told_79 ?_
    refine lv_iload_n hx hb dX1_told_82 rfl (lv_at hl 4 rfl) ?_
    refine va_lald hx hb hK hP 2 1 rfl rfl (h1 c_1) dX1_told_83 ?_
    refine lv_lload_n hx hb dX1_told_84 rfl (lv_at hl 5 rfl) ?_
    refine lv_ladd hx hb dX1_told_85 ?_
    refine lv_lload hx hb dX1_told_86 (lv_at hl 1 rfl) ?_
    refine lv_ladd hx hb dX1_told_88 ?_
    exact W.lret (v := (((y2 (p2).toNatClampNeg) + p3) + (dig y0 (y1).toNatClampNeg))) hx hb hr (fun t ht hW => ⟨(((y2 (p2).toNatClampNeg) + p3) + (dig y0 (y1).toNatClampNeg)), rfl, (by simp only [yf_told, if_pos c_1]), ht⟩) (fun _ h => by cases h) dX1_told_89
  · refine lv_iload_n hx hb dX1_told_4 rfl (lv_at hl 1 rfl) ?_
    refine lv_iconst (v := 1) hx hb dX1_told_5 (by decide) ?_
    refine lv_icmp_ne (tgt := 15) hx hb dX1_told_6 (by decide) (fun c_6 => ?_) (fun c_6 => ?_)
    · refine lv_iload_n hx hb dX1_told_15 rfl (lv_at hl 1 rfl) ?_
      refine lv_iconst (v := 2) hx hb dX1_told_16 (by decide) ?_
      refine lv_icmp_ne (tgt := 26) hx hb dX1_told_17 (by decide) (fun c_17 => ?_) (fun c_17 => ?_)
      · refine lv_iload_n hx hb dX1_told_26 rfl (lv_at hl 1 rfl) ?_
        refine lv_iconst (v := 3) hx hb dX1_told_27 (by decide) ?_
        refine lv_icmp_ne (tgt := 37) hx hb dX1_told_28 (by decide) (fun c_28 => ?_) (fun c_28 => ?_)
        · refine lv_ldc2 (v := (-9000000000000000020)) hx hb hown (hts (.constantLong RX1 47 (-9000000000000000020)) (by decide +kernel)) dX1_told_37 ?_
          exact W.lret (v := (-9000000000000000020)) hx hb hr (fun t ht hW => ⟨(-9000000000000000020), rfl, (by simp only [yf_told, if_neg c_1, if_neg c_6, if_neg c_17, if_neg c_28]), ht⟩) (fun _ h => by cases h) dX1_told_40
        · refine lv_ldc2 (v := (-9000000000000000013)) hx hb hown (hts (.constantLong RX1 45 (-9000000000000000013)) (by decide +kernel)) dX1_told_31 ?_
          refine lv_goto (tgt := 40) hx hb dX1_told_34 (by decide) ?_
          exact W.lret (v := (-9000000000000000013)) hx hb hr (fun t ht hW => ⟨(-9000000000000000013), rfl, (by simp only [yf_told, if_neg c_1, if_neg c_6, if_neg c_17, if_pos c_28]), ht⟩) (fun _ h => by cases h) dX1_told_40
      · refine lv_ldc2 (v := (-9000000000000000011)) hx hb hown (hts (.constantLong RX1 43 (-9000000000000000011)) (by decide +kernel)) dX1_told_20 ?_
        refine lv_goto (tgt := 40) hx hb dX1_told_23 (by decide) ?_
        exact W.lret (v := (-9000000000000000011)) hx hb hr (fun t ht hW => ⟨(-9000000000000000011), rfl, (by simp only [yf_told, if_neg c_1, if_neg c_6, if_pos c_17]), ht⟩) (fun _ h => by cases h) dX1_told_40
    · refine lv_ldc2 (v := (-9000000000000000012)) hx hb hown (hts (.constantLong RX1 41 (-9000000000000000012)) (by decide +kernel)) dX1_told_9 ?_
      refine lv_goto (tgt := 40) hx hb dX1_told_12 (by decide) ?_
      exact W.lret (v := (-9000000000000000012)) hx hb hr (fun t ht hW => ⟨(-9000000000000000012), rfl, (by simp only [yf_told, if_neg c_1, if_pos c_6]), ht⟩) (fun _ h => by cases h) dX1_told_40
def yf_logBehind (u : YS) (p1 : Int32) (p2 : Int32) (p3 : Int32) (p4 : Int64) : Int64 := match u with
  | (_, _, _, y3, _, _, _, _, _, _, _, _, y12) => if p1 = 1 then (y12) else (if p1 = 0 then (((17 * (((1000003 * y12) + (32 * (p3).toInt64)) + (p2).toInt64)) + p4)) else (if p1 = 4 then ((((17 * (((1000003 * y12) + (32 * (p3).toInt64)) + (p2).toInt64)) - 1) - ((y3 (p2).toNatClampNeg)).toInt64)) else (((17 * (((1000003 * y12) + (32 * (p3).toInt64)) + (p2).toInt64)) - 1))))
set_option maxHeartbeats 4000000 in
set_option maxRecDepth 100000 in
theorem yk_logBehind (l : Launch) (D : va_G) (ad : Nat → Nat) (cd : Nat → ClassId) (u : YS) (p1 : Int32) (p2 : Int32) (p3 : Int32) (p4 : Int64) (h1 : p1 = 4 → vp_in p2 20) : Met l yX1_logBehind wsX1_logBehind ({ frames := 0, cells := 0, slots := 0, locals := 0 }) (yPr D ad cd u [.int p1, .int p2, .int p3, .long p4]) (vp_Sl (fun r => r = yf_logBehind u p1 p2 p3 p4)) 0 0 (fun _ => False) := by
  obtain ⟨y0, y1, y2, y3, y4, y5, y6, y7, y8, y9, y10, y11, y12⟩ := u
  refine Met.ofW (cc := cX1_logBehind) (maxL := 8) (ret := (some .long)) (by decide) rfl ?_
  intro p e s m args below meth c s₁ B hml hv
  obtain ⟨rfl, hP, hK⟩ := hv
  have hx := B.exec
  have hb := B.bytes
  have hr := B.returns
  have hts := atoms_spec (ws := wsX1_logBehind) B.pre
  have hown : s.vm.findClass RX1 = some m.cls := findClass_of_methodNamed B.named
  have hlocks := B.notSynchronized
  have hP : va_P D vwCl (yw ad cd (y0, y1, y2, y3, y4, y5, y6, y7, y8, y9, y10, y11, y12)) s.heap := hP
  have hl := lv_entry ([.ref (ad 0), .int p1, .int p2, .int p3, .long p4]) (n := 8) (Nat.le_of_ble_eq_true rfl)
  rw [lg_entry_eq]
  generalize (lg_sl ([.ref (ad 0), .int p1, .int p2, .int p3, .long p4]) ++ List.replicate (8 - (lg_sl ([.ref (ad 0), .int p1, .int p2, .int p3, .long p4])).length) Slot.unset).toArray = ls at hl ⊢
  have hl : lv_has ls 8 [(0, .ref (ad 0)), (1, .int p1), (2, .int p2), (3, .int p3), (4, .long p4)] := hl
  refine lv_iload_n hx hb dX1_logBehind_0 rfl (lv_at hl 1 rfl) ?_
  refine lv_iconst (v := 1) hx hb dX1_logBehind_1 (by decide) ?_
  refine lv_icmp_ne (tgt := 10) hx hb dX1_logBehind_2 (by decide) (fun c_2 => ?_) (fun c_2 => ?_)
  · refine lv_ldc2 (v := 1000003) hx hb hown (hts (.constantLong RX1 51 1000003) (by decide +kernel)) dX1_logBehind_10 ?_
    refine lv_aload_n hx hb dX1_logBehind_13 rfl (lv_at hl 0 rfl) ?_
    refine va_get (D := D) (ci := 1) (v := .long y12) (C := RX1) (T := TX1) (N := 13) hx hb hts (fun _ h => List.mem_cons_of_mem _ (List.mem_append_right _ h)) hown hK hP 0 rfl rfl 12 (by decide) (hts (.fieldLink RX1 29 "PostDesk2Model" "log" "J") (by decide +kernel)) (fun _ h9 => h9) rfl dX1_logBehind_14 ?_
    refine lv_lmul hx hb dX1_logBehind_17 ?_
    refine lv_ldc2 (v := 32) hx hb hown (hts (.constantLong RX1 53 32) (by decide +kernel)) dX1_logBehind_18 ?_
    refine lv_iload_n hx hb dX1_logBehind_21 rfl (lv_at hl 3 rfl) ?_
    refine lv_i2l hx hb dX1_logBehind_22 rfl ?_
    refine lv_lmul hx hb dX1_logBehind_23 ?_
    refine lv_ladd hx hb dX1_logBehind_24 ?_
    refine lv_iload_n hx hb dX1_logBehind_25 rfl (lv_at hl 2 rfl) ?_
    refine lv_i2l hx hb dX1_logBehind_26 rfl ?_
    refine lv_ladd hx hb dX1_logBehind_27 ?_
    refine lv_lstore (lv' := [(6, .long (((1000003 * y12) + (32 * (p3).toInt64)) + (p2).toInt64)), (0, .ref (ad 0)), (1, .int p1), (2, .int p2), (3, .int p3), (4, .long p4)]) hx hb dX1_logBehind_28 hl (by decide) rfl (fun ls hl => ?_)
    refine lv_iload_n hx hb dX1_logBehind_30 rfl (lv_at hl 2 rfl) ?_
    refine lv_if_ne (tgt := 46) hx hb dX1_logBehind_31 (by decide) (fun c_31 => ?_) (fun c_31 => ?_)
    · refine lv_iload_n hx hb dX1_logBehind_46 rfl (lv_at hl 2 rfl) ?_
      refine lv_iconst (v := 4) hx hb dX1_logBehind_47 (by decide) ?_
      refine lv_icmp_ne (tgt := 70) hx hb dX1_logBehind_48 (by decide) (fun c_48 => ?_) (fun c_48 => ?_)
      · refine lv_ldc2 (v := 17) hx hb hown (hts (.constantLong RX1 55 17) (by decide +kernel)) dX1_logBehind_70 ?_
        refine lv_lload hx hb dX1_logBehind_73 (lv_at hl 0 rfl) ?_
        refine lv_lmul hx hb dX1_logBehind_75 ?_
        refine lv_lconst (v := 1) hx hb dX1_logBehind_76 (by decide) ?_
        refine lv_lsub hx hb dX1_logBehind_77 ?_
        exact W.lret (v := ((17 * (((1000003 * y12) + (32 * (p3).toInt64)) + (p2).toInt64)) - 1)) hx hb hr (fun t ht hW => ⟨((17 * (((1000003 * y12) + (32 * (p3).toInt64)) + (p2).toInt64)) - 1), rfl, (by simp only [yf_logBehind, if_neg c_2, if_neg c_31, if_neg c_48]), ht⟩) (fun _ h => by cases h) dX1_logBehind_78
      · refine lv_ldc2 (v := 17) hx hb hown (hts (.constantLong RX1 55 17) (by decide +kernel)) dX1_logBehind_51 ?_
        refine lv_lload hx hb dX1_logBehind_54 (lv_at hl 0 rfl) ?_
        refine lv_lmul hx hb dX1_logBehind_56 ?_
        refine lv_lconst (v := 1) hx hb dX1_logBehind_57 (by decide) ?_
        refine lv_lsub hx hb dX1_logBehind_58 ?_
        refine lv_aload_n hx hb dX1_logBehind_59 rfl (lv_at hl 1 rfl) ?_
        refine va_get (D := D) (ci := 1) (v := .ref (ad 3)) (C := RX1) (T := TX1) (N := 13) hx hb hts (fun _ h => List.mem_cons_of_mem _ (List.mem_append_right _ h)) hown hK hP 0 rfl rfl 3 (by decide) (hts (.fieldLink RX1 16 "PostDesk2Model" "failure" "[I") (by decide +kernel)) (fun _ h9 => h9) rfl dX1_logBehind_60 ?_
        refine lv_iload_n hx hb dX1_logBehind_63 rfl (lv_at hl 3 rfl) ?_
        refine va_iald hx hb hK hP 3 2 rfl rfl (h1 c_48) dX1_logBehind_64 ?_
        refine lv_i2l hx hb dX1_logBehind_65 rfl ?_
        refine lv_lsub hx hb dX1_logBehind_66 ?_
        refine lv_goto (tgt := 78) hx hb dX1_logBehind_67 (by decide) ?_
        exact W.lret (v := (((17 * (((1000003 * y12) + (32 * (p3).toInt64)) + (p2).toInt64)) - 1) - ((y3 (p2).toNatClampNeg)).toInt64)) hx hb hr (fun t ht hW => ⟨(((17 * (((1000003 * y12) + (32 * (p3).toInt64)) + (p2).toInt64)) - 1) - ((y3 (p2).toNatClampNeg)).toInt64), rfl, (by simp only [yf_logBehind, if_neg c_2, if_neg c_31, if_pos c_48]), ht⟩) (fun _ h => by cases h) dX1_logBehind_78
    · refine lv_ldc2 (v := 17) hx hb hown (hts (.constantLong RX1 55 17) (by decide +kernel)) dX1_logBehind_34 ?_
      refine lv_lload hx hb dX1_logBehind_37 (lv_at hl 0 rfl) ?_
      refine lv_lmul hx hb dX1_logBehind_39 ?_
      refine lv_lload hx hb dX1_logBehind_40 (lv_at hl 5 rfl) ?_
      refine lv_ladd hx hb dX1_logBehind_42 ?_
      refine lv_goto (tgt := 78) hx hb dX1_logBehind_43 (by decide) ?_
      exact W.lret (v := ((17 * (((1000003 * y12) + (32 * (p3).toInt64)) + (p2).toInt64)) + p4)) hx hb hr (fun t ht hW => ⟨((17 * (((1000003 * y12) + (32 * (p3).toInt64)) + (p2).toInt64)) + p4), rfl, (by simp only [yf_logBehind, if_neg c_2, if_pos c_31]), ht⟩) (fun _ h => by cases h) dX1_logBehind_78
  · refine lv_aload_n hx hb dX1_logBehind_5 rfl (lv_at hl 0 rfl) ?_
    refine va_get (D := D) (ci := 1) (v := .long y12) (C := RX1) (T := TX1) (N := 13) hx hb hts (fun _ h => List.mem_cons_of_mem _ (List.mem_append_right _ h)) hown hK hP 0 rfl rfl 12 (by decide) (hts (.fieldLink RX1 29 "PostDesk2Model" "log" "J") (by decide +kernel)) (fun _ h9 => h9) rfl dX1_logBehind_6 ?_
    exact W.lret (v := y12) hx hb hr (fun t ht hW => ⟨y12, rfl, (by simp only [yf_logBehind, if_pos c_2]), ht⟩) (fun _ h => by cases h) dX1_logBehind_9
set_option maxHeartbeats 4000000 in
set_option maxRecDepth 100000 in
/-- the loop of numbers: behind k rounds the count of k places -/
theorem yl_numbers {p : Program} {l : Launch} {e : Env} {R : Room} {s : State} {m : MethodId} {args : Array Value} {below : List Frame} {meth : Method} {c : Code} {H : Heap} {locs : List Loc} {cells slots : Nat} {Q : State → Prop} {D : va_G} {ad : Nat → Nat} {cd : Nat → ClassId} {y0 : Nat → Int64} {y1 : Int32} {y2 : Nat → Int64} {y3 y4 y5 : Nat → Int32} {y6 y7 y8 : Int64} {y9 y10 y11 : Int32} {y12 : Int64} {p1 : Int32} (hx : p.tables.exec = Jvm.exec) (hb : c.code = cX1_numbers) (hts : ∀ w ∈ wsX1_numbers, w.before args s = true) (hown : s.vm.findClass RX1 = some m.cls) (hK : va_K D vwCl (yt cd) s) (hP : va_P D vwCl (yw ad cd (y0, y1, y2, y3, y4, y5, y6, y7, y8, y9, y10, y11, y12)) H) (h1 : vp_in p1 10)
    (kk : ∀ ls : Array Slot, lv_has ls 4 [(3, .int (nI 100)), (2, .int (nI (cnt y5 (p1).toNatClampNeg 100))), (0, .ref (ad 0)), (1, .int p1)] → W p l e R s m args below meth c H locs cells slots Q (F0 m 50 ls [])) :
    ∀ (n k : Nat) (ls : Array Slot), k + n = 100 → lv_has ls 4 [(3, .int (nI k)), (2, .int (nI (cnt y5 (p1).toNatClampNeg k))), (0, .ref (ad 0)), (1, .int p1)] → W p l e R s m args below meth c H locs cells slots Q (F0 m 16 ls []) := by
  obtain ⟨K, hK10, rfl⟩ := vp_in_of h1 (by decide)
  have eK : (nI K).toNatClampNeg = K := nI_clamp (by omega)
  rw [eK] at kk ⊢
  intro n
  induction n with
  | zero =>
    intro k ls hk hl
    refine lv_iload_n hx hb dX1_numbers_16 rfl (lv_at hl 0 rfl) ?_
    refine lv_bipush (v := 100) hx hb dX1_numbers_17 (by decide) ?_
    refine lv_icmp_ge (tgt := 50) hx hb dX1_numbers_19 (by decide) (fun c_1 => ?_) (fun c_1 => ?_)
    · rw [Nat.add_zero] at hk
      subst hk
      exact kk ls hl
    · refine absurd ?_ c_1
      rw [Nat.add_zero] at hk
      rw [hk]
      decide
  | succ n ih =>
    intro k ls hk hl
    refine lv_iload_n hx hb dX1_numbers_16 rfl (lv_at hl 0 rfl) ?_
    refine lv_bipush (v := 100) hx hb dX1_numbers_17 (by decide) ?_
    refine lv_icmp_ge (tgt := 50) hx hb dX1_numbers_19 (by decide) (fun c_1 => ?_) (fun c_1 => ?_)
    · refine absurd c_1 ?_
      rw [show (100 : Int32) = nI 100 from rfl]
      exact nI_ge (by omega) (by decide)
    · refine lv_iload_n hx hb dX1_numbers_22 rfl (lv_at hl 1 rfl) ?_
      refine lv_aload_n hx hb dX1_numbers_23 rfl (lv_at hl 2 rfl) ?_
      refine va_get (D := D) (ci := 1) (v := .ref (ad 5)) (C := RX1) (T := TX1) (N := 13) hx hb hts (fun _ h => List.mem_cons_of_mem _ (List.mem_append_right _ h)) hown hK hP 0 rfl rfl 5 (by decide) (hts (.fieldLink RX1 23 "PostDesk2Model" "there" "[Z") (by decide +kernel)) (fun _ h9 => h9) rfl dX1_numbers_24 ?_
      refine lv_bipush (v := 100) hx hb dX1_numbers_27 (by decide) ?_
      refine lv_iload_n hx hb dX1_numbers_29 rfl (lv_at hl 3 rfl) ?_
      refine lv_imul hx hb dX1_numbers_30 ?_
      refine lv_iload_n hx hb dX1_numbers_31 rfl (lv_at hl 0 rfl) ?_
      refine lv_iadd hx hb dX1_numbers_32 ?_
      rw [show (100 : Int32) = nI 100 from rfl, pk_mul, nI_add]
      refine va_zald hx hb hK hP 5 4 rfl rfl (vp_in_nI (by omega) (by decide)) dX1_numbers_33 ?_
      rw [nI_clamp (by omega)]
      have back : ∀ (z : Int32), z = nI (cnt y5 K (k + 1)) → W p l e R s m args below meth c H locs cells slots Q (F0 m 43 ls [.int z]) := by
        intro z ez
        subst ez
        refine lv_istore_n (lv' := [(2, .int (nI (cnt y5 K (k + 1)))), (3, .int (nI k)), (0, .ref (ad 0)), (1, .int (nI K))]) hx hb dX1_numbers_43 rfl hl (by decide) rfl (fun ls hl => ?_)
        refine lv_iinc (v := nI (k + 1)) (lv' := [(3, .int (nI (k + 1))), (2, .int (nI (cnt y5 K (k + 1)))), (0, .ref (ad 0)), (1, .int (nI K))]) hx hb dX1_numbers_44 hl (k := 1) rfl (nI_1 k) (by decide) rfl (fun ls hl => ?_)
        refine lv_goto (tgt := 16) hx hb dX1_numbers_47 (by decide) ?_
        exact ih (k + 1) ls (by omega) hl
      refine lv_if_eq (tgt := 41) hx hb dX1_numbers_34 (by decide) (fun c_2 => ?_) (fun c_2 => ?_)
      · refine lv_iconst (v := 0) hx hb dX1_numbers_41 (by decide) ?_
        refine lv_iadd hx hb dX1_numbers_42 ?_
        exact back _ (by simp only [cnt, if_pos c_2]; exact nI_add _ 0)
      · refine lv_iconst (v := 1) hx hb dX1_numbers_37 (by decide) ?_
        refine lv_goto (tgt := 42) hx hb dX1_numbers_38 (by decide) ?_
        refine lv_iadd hx hb dX1_numbers_42 ?_
        exact back _ (by simp only [cnt, if_neg c_2]; exact nI_add _ 1)
def yf_numbers (u : YS) (p1 : Int32) : Int32 := match u with
  | (_, _, _, _, _, y5, _, _, _, _, _, _, _) => if p1 < 0 then ((-1)) else (if p1 ≤ 9 then (nI (cnt y5 (p1).toNatClampNeg 100)) else ((-1)))
set_option maxHeartbeats 4000000 in
set_option maxRecDepth 100000 in
theorem yk_numbers (l : Launch) (D : va_G) (ad : Nat → Nat) (cd : Nat → ClassId) (u : YS) (p1 : Int32)  : Met l yX1_numbers wsX1_numbers ({ frames := 0, cells := 0, slots := 0, locals := 0 }) (yPr D ad cd u [.int p1]) (vp_Si (fun r => r = yf_numbers u p1)) 0 0 (fun _ => False) := by
  obtain ⟨y0, y1, y2, y3, y4, y5, y6, y7, y8, y9, y10, y11, y12⟩ := u
  refine Met.ofW (cc := cX1_numbers) (maxL := 4) (ret := (some .int)) (by decide) rfl ?_
  intro p e s m args below meth c s₁ B hml hv
  obtain ⟨rfl, hP, hK⟩ := hv
  have hx := B.exec
  have hb := B.bytes
  have hr := B.returns
  have hts := atoms_spec (ws := wsX1_numbers) B.pre
  have hown : s.vm.findClass RX1 = some m.cls := findClass_of_methodNamed B.named
  have hlocks := B.notSynchronized
  have hP : va_P D vwCl (yw ad cd (y0, y1, y2, y3, y4, y5, y6, y7, y8, y9, y10, y11, y12)) s.heap := hP
  have hl := lv_entry ([.ref (ad 0), .int p1]) (n := 4) (Nat.le_of_ble_eq_true rfl)
  rw [lg_entry_eq]
  generalize (lg_sl ([.ref (ad 0), .int p1]) ++ List.replicate (4 - (lg_sl ([.ref (ad 0), .int p1])).length) Slot.unset).toArray = ls at hl ⊢
  have hl : lv_has ls 4 [(0, .ref (ad 0)), (1, .int p1)] := hl
  refine lv_iload_n hx hb dX1_numbers_0 rfl (lv_at hl 1 rfl) ?_
  refine lv_if_lt (tgt := 10) hx hb dX1_numbers_1 (by decide) (fun c_1 => ?_) (fun c_1 => ?_)
  · refine lv_iconst (v := (-1)) hx hb dX1_numbers_10 (by decide) ?_
    exact W.iret (v := (-1)) hx hb hr (fun t ht hW => ⟨(-1), rfl, (by simp only [yf_numbers, if_pos c_1]), ht⟩) (fun _ h => by cases h) dX1_numbers_11
  · refine lv_iload_n hx hb dX1_numbers_4 rfl (lv_at hl 1 rfl) ?_
    refine lv_bipush (v := 9) hx hb dX1_numbers_5 (by decide) ?_
    refine lv_icmp_le (tgt := 12) hx hb dX1_numbers_7 (by decide) (fun c_7 => ?_) (fun c_7 => ?_)
    · refine lv_iconst (v := 0) hx hb dX1_numbers_12 (by decide) ?_
      refine lv_istore_n (lv' := [(2, .int 0), (0, .ref (ad 0)), (1, .int p1)]) hx hb dX1_numbers_13 rfl hl (by decide) rfl (fun ls hl => ?_)
      refine lv_iconst (v := 0) hx hb dX1_numbers_14 (by decide) ?_
      refine lv_istore_n (lv' := [(3, .int 0), (2, .int 0), (0, .ref (ad 0)), (1, .int p1)]) hx hb dX1_numbers_15 rfl hl (by decide) rfl (fun ls hl => ?_)
      have hl : lv_has ls 4 [(3, .int (nI 0)), (2, .int (nI (cnt y5 (p1).toNatClampNeg 0))), (0, .ref (ad 0)), (1, .int p1)] := hl
      refine yl_numbers hx hb hts hown hK hP (yk_in c_1 c_7) (fun ls hl => ?_) 100 0 ls (Nat.zero_add _) hl
      refine lv_iload_n hx hb dX1_numbers_50 rfl (lv_at hl 1 rfl) ?_
      exact W.iret (v := nI (cnt y5 (p1).toNatClampNeg 100)) hx hb hr (fun t ht hW => ⟨nI (cnt y5 (p1).toNatClampNeg 100), rfl, (by simp only [yf_numbers, if_neg c_1, if_pos c_7]), ht⟩) (fun _ h => by cases h) dX1_numbers_51
    · refine lv_iconst (v := (-1)) hx hb dX1_numbers_10 (by decide) ?_
      exact W.iret (v := (-1)) hx hb hr (fun t ht hW => ⟨(-1), rfl, (by simp only [yf_numbers, if_neg c_1, if_neg c_7]), ht⟩) (fun _ h => by cases h) dX1_numbers_11
def yf_tell (u : YS) (p1 : Int32) : Int64 := match u with
  | (_, y1, _, _, _, _, y6, y7, y8, y9, y10, y11, y12) => if p1 = 0 then (y6) else if p1 = 1 then (y7) else if p1 = 2 then (y8) else if p1 = 3 then ((y9).toInt64) else if p1 = 4 then ((y10).toInt64) else if p1 = 5 then ((y11).toInt64) else if p1 = 6 then ((y1).toInt64) else if p1 = 7 then (y12) else 0
set_option maxHeartbeats 4000000 in
set_option maxRecDepth 100000 in
theorem yk_tell (l : Launch) (D : va_G) (ad : Nat → Nat) (cd : Nat → ClassId) (u : YS) (p1 : Int32)  : Met l yX1_tell wsX1_tell ({ frames := 0, cells := 0, slots := 0, locals := 0 }) (yPr D ad cd u [.int p1]) (vp_Sl (fun r => r = yf_tell u p1)) 0 0 (fun _ => False) := by
  obtain ⟨y0, y1, y2, y3, y4, y5, y6, y7, y8, y9, y10, y11, y12⟩ := u
  refine Met.ofW (cc := cX1_tell) (maxL := 2) (ret := (some .long)) (by decide) rfl ?_
  intro p e s m args below meth c s₁ B hml hv
  obtain ⟨rfl, hP, hK⟩ := hv
  have hx := B.exec
  have hb := B.bytes
  have hr := B.returns
  have hts := atoms_spec (ws := wsX1_tell) B.pre
  have hown : s.vm.findClass RX1 = some m.cls := findClass_of_methodNamed B.named
  have hlocks := B.notSynchronized
  have hP : va_P D vwCl (yw ad cd (y0, y1, y2, y3, y4, y5, y6, y7, y8, y9, y10, y11, y12)) s.heap := hP
  have hl := lv_entry ([.ref (ad 0), .int p1]) (n := 2) (Nat.le_of_ble_eq_true rfl)
  rw [lg_entry_eq]
  generalize (lg_sl ([.ref (ad 0), .int p1]) ++ List.replicate (2 - (lg_sl ([.ref (ad 0), .int p1])).length) Slot.unset).toArray = ls at hl ⊢
  have hl : lv_has ls 2 [(0, .ref (ad 0)), (1, .int p1)] := hl
  refine lv_iload_n hx hb dX1_tell_0 rfl (lv_at hl 1 rfl) ?_
  by_cases c_1_0 : p1 = 0
  · refine lv_tableIn (tgt := 48) hx hb dX1_tell_1 (by rw [c_1_0]; decide) (by rw [c_1_0]; decide) (by rw [c_1_0]; rfl) (by decide) ?_
    refine lv_aload_n hx hb dX1_tell_48 rfl (lv_at hl 0 rfl) ?_
    refine va_get (D := D) (ci := 1) (v := .long y6) (C := RX1) (T := TX1) (N := 13) hx hb hts (fun _ h => List.mem_cons_of_mem _ (List.mem_append_right _ h)) hown hK hP 0 rfl rfl 6 (by decide) (hts (.fieldLink RX1 69 "PostDesk2Model" "answered" "J") (by decide +kernel)) (fun _ h9 => h9) rfl dX1_tell_49 ?_
    exact W.lret (v := y6) hx hb hr (fun t ht hW => ⟨y6, rfl, (by simp only [yf_tell, if_pos c_1_0]), ht⟩) (fun _ h => by cases h) dX1_tell_52
  by_cases c_1_1 : p1 = 1
  · refine lv_tableIn (tgt := 53) hx hb dX1_tell_1 (by rw [c_1_1]; decide) (by rw [c_1_1]; decide) (by rw [c_1_1]; rfl) (by decide) ?_
    refine lv_aload_n hx hb dX1_tell_53 rfl (lv_at hl 0 rfl) ?_
    refine va_get (D := D) (ci := 1) (v := .long y7) (C := RX1) (T := TX1) (N := 13) hx hb hts (fun _ h => List.mem_cons_of_mem _ (List.mem_append_right _ h)) hown hK hP 0 rfl rfl 7 (by decide) (hts (.fieldLink RX1 84 "PostDesk2Model" "refused" "J") (by decide +kernel)) (fun _ h9 => h9) rfl dX1_tell_54 ?_
    exact W.lret (v := y7) hx hb hr (fun t ht hW => ⟨y7, rfl, (by simp only [yf_tell, if_neg c_1_0, if_pos c_1_1]), ht⟩) (fun _ h => by cases h) dX1_tell_57
  by_cases c_1_2 : p1 = 2
  · refine lv_tableIn (tgt := 58) hx hb dX1_tell_1 (by rw [c_1_2]; decide) (by rw [c_1_2]; decide) (by rw [c_1_2]; rfl) (by decide) ?_
    refine lv_aload_n hx hb dX1_tell_58 rfl (lv_at hl 0 rfl) ?_
    refine va_get (D := D) (ci := 1) (v := .long y8) (C := RX1) (T := TX1) (N := 13) hx hb hts (fun _ h => List.mem_cons_of_mem _ (List.mem_append_right _ h)) hown hK hP 0 rfl rfl 8 (by decide) (hts (.fieldLink RX1 72 "PostDesk2Model" "failed" "J") (by decide +kernel)) (fun _ h9 => h9) rfl dX1_tell_59 ?_
    exact W.lret (v := y8) hx hb hr (fun t ht hW => ⟨y8, rfl, (by simp only [yf_tell, if_neg c_1_0, if_neg c_1_1, if_pos c_1_2]), ht⟩) (fun _ h => by cases h) dX1_tell_62
  by_cases c_1_3 : p1 = 3
  · refine lv_tableIn (tgt := 63) hx hb dX1_tell_1 (by rw [c_1_3]; decide) (by rw [c_1_3]; decide) (by rw [c_1_3]; rfl) (by decide) ?_
    refine lv_aload_n hx hb dX1_tell_63 rfl (lv_at hl 0 rfl) ?_
    refine va_get (D := D) (ci := 1) (v := .int y9) (C := RX1) (T := TX1) (N := 13) hx hb hts (fun _ h => List.mem_cons_of_mem _ (List.mem_append_right _ h)) hown hK hP 0 rfl rfl 9 (by decide) (hts (.fieldLink RX1 75 "PostDesk2Model" "kindOf" "I") (by decide +kernel)) (fun _ h9 => h9) rfl dX1_tell_64 ?_
    refine lv_i2l hx hb dX1_tell_67 rfl ?_
    exact W.lret (v := (y9).toInt64) hx hb hr (fun t ht hW => ⟨(y9).toInt64, rfl, (by simp only [yf_tell, if_neg c_1_0, if_neg c_1_1, if_neg c_1_2, if_pos c_1_3]), ht⟩) (fun _ h => by cases h) dX1_tell_68
  by_cases c_1_4 : p1 = 4
  · refine lv_tableIn (tgt := 69) hx hb dX1_tell_1 (by rw [c_1_4]; decide) (by rw [c_1_4]; decide) (by rw [c_1_4]; rfl) (by decide) ?_
    refine lv_aload_n hx hb dX1_tell_69 rfl (lv_at hl 0 rfl) ?_
    refine va_get (D := D) (ci := 1) (v := .int y10) (C := RX1) (T := TX1) (N := 13) hx hb hts (fun _ h => List.mem_cons_of_mem _ (List.mem_append_right _ h)) hown hK hP 0 rfl rfl 10 (by decide) (hts (.fieldLink RX1 78 "PostDesk2Model" "numberOf" "I") (by decide +kernel)) (fun _ h9 => h9) rfl dX1_tell_70 ?_
    refine lv_i2l hx hb dX1_tell_73 rfl ?_
    exact W.lret (v := (y10).toInt64) hx hb hr (fun t ht hW => ⟨(y10).toInt64, rfl, (by simp only [yf_tell, if_neg c_1_0, if_neg c_1_1, if_neg c_1_2, if_neg c_1_3, if_pos c_1_4]), ht⟩) (fun _ h => by cases h) dX1_tell_74
  by_cases c_1_5 : p1 = 5
  · refine lv_tableIn (tgt := 75) hx hb dX1_tell_1 (by rw [c_1_5]; decide) (by rw [c_1_5]; decide) (by rw [c_1_5]; rfl) (by decide) ?_
    refine lv_aload_n hx hb dX1_tell_75 rfl (lv_at hl 0 rfl) ?_
    refine va_get (D := D) (ci := 1) (v := .int y11) (C := RX1) (T := TX1) (N := 13) hx hb hts (fun _ h => List.mem_cons_of_mem _ (List.mem_append_right _ h)) hown hK hP 0 rfl rfl 11 (by decide) (hts (.fieldLink RX1 81 "PostDesk2Model" "callOf" "I") (by decide +kernel)) (fun _ h9 => h9) rfl dX1_tell_76 ?_
    refine lv_i2l hx hb dX1_tell_79 rfl ?_
    exact W.lret (v := (y11).toInt64) hx hb hr (fun t ht hW => ⟨(y11).toInt64, rfl, (by simp only [yf_tell, if_neg c_1_0, if_neg c_1_1, if_neg c_1_2, if_neg c_1_3, if_neg c_1_4, if_pos c_1_5]), ht⟩) (fun _ h => by cases h) dX1_tell_80
  by_cases c_1_6 : p1 = 6
  · refine lv_tableIn (tgt := 81) hx hb dX1_tell_1 (by rw [c_1_6]; decide) (by rw [c_1_6]; decide) (by rw [c_1_6]; rfl) (by decide) ?_
    refine lv_aload_n hx hb dX1_tell_81 rfl (lv_at hl 0 rfl) ?_
    refine va_get (D := D) (ci := 1) (v := .int y1) (C := RX1) (T := TX1) (N := 13) hx hb hts (fun _ h => List.mem_cons_of_mem _ (List.mem_append_right _ h)) hown hK hP 0 rfl rfl 1 (by decide) (hts (.fieldLink RX1 33 "PostDesk2Model" "many" "I") (by decide +kernel)) (fun _ h9 => h9) rfl dX1_tell_82 ?_
    refine lv_i2l hx hb dX1_tell_85 rfl ?_
    exact W.lret (v := (y1).toInt64) hx hb hr (fun t ht hW => ⟨(y1).toInt64, rfl, (by simp only [yf_tell, if_neg c_1_0, if_neg c_1_1, if_neg c_1_2, if_neg c_1_3, if_neg c_1_4, if_neg c_1_5, if_pos c_1_6]), ht⟩) (fun _ h => by cases h) dX1_tell_86
  by_cases c_1_7 : p1 = 7
  · refine lv_tableIn (tgt := 87) hx hb dX1_tell_1 (by rw [c_1_7]; decide) (by rw [c_1_7]; decide) (by rw [c_1_7]; rfl) (by decide) ?_
    refine lv_aload_n hx hb dX1_tell_87 rfl (lv_at hl 0 rfl) ?_
    refine va_get (D := D) (ci := 1) (v := .long y12) (C := RX1) (T := TX1) (N := 13) hx hb hts (fun _ h => List.mem_cons_of_mem _ (List.mem_append_right _ h)) hown hK hP 0 rfl rfl 12 (by decide) (hts (.fieldLink RX1 29 "PostDesk2Model" "log" "J") (by decide +kernel)) (fun _ h9 => h9) rfl dX1_tell_88 ?_
    exact W.lret (v := y12) hx hb hr (fun t ht hW => ⟨y12, rfl, (by simp only [yf_tell, if_neg c_1_0, if_neg c_1_1, if_neg c_1_2, if_neg c_1_3, if_neg c_1_4, if_neg c_1_5, if_neg c_1_6, if_pos c_1_7]), ht⟩) (fun _ h => by cases h) dX1_tell_91
  refine lv_tableOut (tgt := 92) hx hb dX1_tell_1 (sw_out8 c_1_0 c_1_1 c_1_2 c_1_3 c_1_4 c_1_5 c_1_6 c_1_7) (by decide) ?_
  refine lv_lconst (v := 0) hx hb dX1_tell_92 (by decide) ?_
  exact W.lret (v := 0) hx hb hr (fun t ht hW => ⟨0, rfl, (by simp only [yf_tell, if_neg c_1_0, if_neg c_1_1, if_neg c_1_2, if_neg c_1_3, if_neg c_1_4, if_neg c_1_5, if_neg c_1_6, if_neg c_1_7]), ht⟩) (fun _ h => by cases h) dX1_tell_93
def yf_again (u : YS) (p1 : Int32) (p2 : Int32) (p3 : Int64) : Int64 := match u with
  | (y0, y1, y2, y3, y4, y5, y6, y7, y8, y9, y10, y11, y12) => (yf_told (y0, y1, y2, y3, y4, y5, y6, y7, y8, y9, y10, y11, y12) (yf_way (y0, y1, y2, y3, y4, y5, y6, y7, y8, y9, y10, y11, y12) p1 p2) p1 p3)
set_option maxHeartbeats 4000000 in
set_option maxRecDepth 100000 in
theorem yk_again (l : Launch) (D : va_G) (ad : Nat → Nat) (cd : Nat → ClassId) (u : YS) (p1 : Int32) (p2 : Int32) (p3 : Int64) (h2 : u.2.1 = nI (u.2.1).toNatClampNeg ∧ (u.2.1).toNatClampNeg ≤ 40) : Met l yX1_again wsX1_again ({ frames := 2, cells := 0, slots := 0, locals := 43 }) (yPr D ad cd u [.int p1, .int p2, .long p3]) (vp_Sl (fun r => r = yf_again u p1 p2 p3)) 0 0 (fun _ => False) := by
  obtain ⟨y0, y1, y2, y3, y4, y5, y6, y7, y8, y9, y10, y11, y12⟩ := u
  refine Met.ofW (cc := cX1_again) (maxL := 5) (ret := (some .long)) (by decide) rfl ?_
  intro p e s m args below meth c s₁ B hml hv
  obtain ⟨rfl, hP, hK⟩ := hv
  have hx := B.exec
  have hb := B.bytes
  have hr := B.returns
  have hts := atoms_spec (ws := wsX1_again) B.pre
  have hown : s.vm.findClass RX1 = some m.cls := findClass_of_methodNamed B.named
  have hlocks := B.notSynchronized
  have hP : va_P D vwCl (yw ad cd (y0, y1, y2, y3, y4, y5, y6, y7, y8, y9, y10, y11, y12)) s.heap := hP
  have hl := lv_entry ([.ref (ad 0), .int p1, .int p2, .long p3]) (n := 5) (Nat.le_of_ble_eq_true rfl)
  rw [lg_entry_eq]
  generalize (lg_sl ([.ref (ad 0), .int p1, .int p2, .long p3]) ++ List.replicate (5 - (lg_sl ([.ref (ad 0), .int p1, .int p2, .long p3])).length) Slot.unset).toArray = ls at hl ⊢
  have hl : lv_has ls 5 [(0, .ref (ad 0)), (1, .int p1), (2, .int p2), (3, .long p3)] := hl
  refine lv_aload_n hx hb dX1_again_0 rfl (lv_at hl 0 rfl) ?_
  refine lv_aload_n hx hb dX1_again_1 rfl (lv_at hl 0 rfl) ?_
  refine lv_iload_n hx hb dX1_again_2 rfl (lv_at hl 1 rfl) ?_
  refine lv_iload_n hx hb dX1_again_3 rfl (lv_at hl 2 rfl) ?_
  refine vp_callSi (W.runV (As := [.int p1, .int p2]) (rest := [.ref (ad 0)]) ⟨hx, hb, hml, hown, hts⟩ (yk_way l D ad cd (y0, y1, y2, y3, y4, y5, y6, y7, y8, y9, y10, y11, y12) p1 p2) (cwV 2 hts gX1_again_X1_way rfl rfl rfl (by decide +kernel) ⟨Nat.le_of_ble_eq_true rfl, Nat.le_of_ble_eq_true rfl⟩) ⟨fun a U g mk q => ⟨q.1, q.2.1, va_K.moved (u := U) (U := U.calling g mk a) (Vm.Alike.refl U.vm) q.2.2⟩, va_recv hK hP (ci := 1) (q0 := 0) rfl rfl, fun U hU hW => ⟨rfl, by rw [hU]; exact hP, va_K.moved hW.alike hK⟩⟩ rfl rfl hl.1 rfl (lv_room (Nat.le_of_ble_eq_true rfl)) dX1_again_4 ⟨Nat.zero_le _, Nat.zero_le _⟩) (fun r_4 hr_4 => ?_)
  subst hr_4
  refine lv_iload_n hx hb dX1_again_7 rfl (lv_at hl 1 rfl) ?_
  refine lv_lload_n hx hb dX1_again_8 rfl (lv_at hl 3 rfl) ?_
  refine vp_callSl (W.runV (As := [.int (yf_way (y0, y1, y2, y3, y4, y5, y6, y7, y8, y9, y10, y11, y12) p1 p2), .int p1, .long p3]) (rest := []) ⟨hx, hb, hml, hown, hts⟩ (yk_told l D ad cd (y0, y1, y2, y3, y4, y5, y6, y7, y8, y9, y10, y11, y12) (yf_way (y0, y1, y2, y3, y4, y5, y6, y7, y8, y9, y10, y11, y12) p1 p2) p1 p3 (ywy_le _ _ _) h2) (cwV 3 hts gX1_again_X1_told rfl rfl rfl (by decide +kernel) ⟨Nat.le_of_ble_eq_true rfl, Nat.le_of_ble_eq_true rfl⟩) ⟨fun a U g mk q => ⟨q.1, q.2.1, va_K.moved (u := U) (U := U.calling g mk a) (Vm.Alike.refl U.vm) q.2.2⟩, va_recv hK hP (ci := 1) (q0 := 0) rfl rfl, fun U hU hW => ⟨rfl, by rw [hU]; exact hP, va_K.moved hW.alike hK⟩⟩ rfl rfl hl.1 rfl (lv_room (Nat.le_of_ble_eq_true rfl)) dX1_again_9 ⟨Nat.zero_le _, Nat.zero_le _⟩) (fun r_9 hr_9 => ?_)
  subst hr_9
  exact W.lret (v := (yf_told (y0, y1, y2, y3, y4, y5, y6, y7, y8, y9, y10, y11, y12) (yf_way (y0, y1, y2, y3, y4, y5, y6, y7, y8, y9, y10, y11, y12) p1 p2) p1 p3)) hx hb hr (fun t ht hW => ⟨(yf_told (y0, y1, y2, y3, y4, y5, y6, y7, y8, y9, y10, y11, y12) (yf_way (y0, y1, y2, y3, y4, y5, y6, y7, y8, y9, y10, y11, y12) p1 p2) p1 p3), rfl, (by simp only [yf_again]), ht⟩) (fun _ h => by cases h) dX1_again_12
def yf_log (u : YS) (p1 : Int32) (p2 : Int32) (p3 : Int64) : Int64 := match u with
  | (y0, y1, y2, y3, y4, y5, y6, y7, y8, y9, y10, y11, y12) => (yf_logBehind (y0, y1, y2, y3, y4, y5, y6, y7, y8, y9, y10, y11, y12) (yf_way (y0, y1, y2, y3, y4, y5, y6, y7, y8, y9, y10, y11, y12) p1 p2) p1 p2 (yf_told (y0, y1, y2, y3, y4, y5, y6, y7, y8, y9, y10, y11, y12) (yf_way (y0, y1, y2, y3, y4, y5, y6, y7, y8, y9, y10, y11, y12) p1 p2) p1 p3))
set_option maxHeartbeats 4000000 in
set_option maxRecDepth 100000 in
theorem yk_log (l : Launch) (D : va_G) (ad : Nat → Nat) (cd : Nat → ClassId) (u : YS) (p1 : Int32) (p2 : Int32) (p3 : Int64) (h2 : u.2.1 = nI (u.2.1).toNatClampNeg ∧ (u.2.1).toNatClampNeg ≤ 40) : Met l yX1_log wsX1_log ({ frames := 2, cells := 0, slots := 0, locals := 43 }) (yPr D ad cd u [.int p1, .int p2, .long p3]) (vp_Sl (fun r => r = yf_log u p1 p2 p3)) 0 0 (fun _ => False) := by
  obtain ⟨y0, y1, y2, y3, y4, y5, y6, y7, y8, y9, y10, y11, y12⟩ := u
  refine Met.ofW (cc := cX1_log) (maxL := 6) (ret := (some .long)) (by decide) rfl ?_
  intro p e s m args below meth c s₁ B hml hv
  obtain ⟨rfl, hP, hK⟩ := hv
  have hx := B.exec
  have hb := B.bytes
  have hr := B.returns
  have hts := atoms_spec (ws := wsX1_log) B.pre
  have hown : s.vm.findClass RX1 = some m.cls := findClass_of_methodNamed B.named
  have hlocks := B.notSynchronized
  have hP : va_P D vwCl (yw ad cd (y0, y1, y2, y3, y4, y5, y6, y7, y8, y9, y10, y11, y12)) s.heap := hP
  have hl := lv_entry ([.ref (ad 0), .int p1, .int p2, .long p3]) (n := 6) (Nat.le_of_ble_eq_true rfl)
  rw [lg_entry_eq]
  generalize (lg_sl ([.ref (ad 0), .int p1, .int p2, .long p3]) ++ List.replicate (6 - (lg_sl ([.ref (ad 0), .int p1, .int p2, .long p3])).length) Slot.unset).toArray = ls at hl ⊢
  have hl : lv_has ls 6 [(0, .ref (ad 0)), (1, .int p1), (2, .int p2), (3, .long p3)] := hl
  refine lv_aload_n hx hb dX1_log_0 rfl (lv_at hl 0 rfl) ?_
  refine lv_iload_n hx hb dX1_log_1 rfl (lv_at hl 1 rfl) ?_
  refine lv_iload_n hx hb dX1_log_2 rfl (lv_at hl 2 rfl) ?_
  refine vp_callSi (W.runV (As := [.int p1, .int p2]) (rest := []) ⟨hx, hb, hml, hown, hts⟩ (yk_way l D ad cd (y0, y1, y2, y3, y4, y5, y6, y7, y8, y9, y10, y11, y12) p1 p2) (cwV 2 hts gX1_log_X1_way rfl rfl rfl (by decide +kernel) ⟨Nat.le_of_ble_eq_true rfl, Nat.le_of_ble_eq_true rfl⟩) ⟨fun a U g mk q => ⟨q.1, q.2.1, va_K.moved (u := U) (U := U.calling g mk a) (Vm.Alike.refl U.vm) q.2.2⟩, va_recv hK hP (ci := 1) (q0 := 0) rfl rfl, fun U hU hW => ⟨rfl, by rw [hU]; exact hP, va_K.moved hW.alike hK⟩⟩ rfl rfl hl.1 rfl (lv_room (Nat.le_of_ble_eq_true rfl)) dX1_log_3 ⟨Nat.zero_le _, Nat.zero_le _⟩) (fun r_3 hr_3 => ?_)
  subst hr_3
  refine lv_istore (lv' := [(5, .int (yf_way (y0, y1, y2, y3, y4, y5, y6, y7, y8, y9, y10, y11, y12) p1 p2)), (0, .ref (ad 0)), (1, .int p1), (2, .int p2), (3, .long p3)]) hx hb dX1_log_6 hl (by decide) rfl (fun ls hl => ?_)
  refine lv_aload_n hx hb dX1_log_8 rfl (lv_at hl 1 rfl) ?_
  refine lv_iload hx hb dX1_log_9 (lv_at hl 0 rfl) ?_
  refine lv_iload_n hx hb dX1_log_11 rfl (lv_at hl 2 rfl) ?_
  refine lv_iload_n hx hb dX1_log_12 rfl (lv_at hl 3 rfl) ?_
  refine lv_aload_n hx hb dX1_log_13 rfl (lv_at hl 1 rfl) ?_
  refine lv_iload hx hb dX1_log_14 (lv_at hl 0 rfl) ?_
  refine lv_iload_n hx hb dX1_log_16 rfl (lv_at hl 2 rfl) ?_
  refine lv_lload_n hx hb dX1_log_17 rfl (lv_at hl 4 rfl) ?_
  refine vp_callSl (W.runV (As := [.int (yf_way (y0, y1, y2, y3, y4, y5, y6, y7, y8, y9, y10, y11, y12) p1 p2), .int p1, .long p3]) (rest := [.int p2, .int p1, .int (yf_way (y0, y1, y2, y3, y4, y5, y6, y7, y8, y9, y10, y11, y12) p1 p2), .ref (ad 0)]) ⟨hx, hb, hml, hown, hts⟩ (yk_told l D ad cd (y0, y1, y2, y3, y4, y5, y6, y7, y8, y9, y10, y11, y12) (yf_way (y0, y1, y2, y3, y4, y5, y6, y7, y8, y9, y10, y11, y12) p1 p2) p1 p3 (ywy_le _ _ _) h2) (cwV 3 hts gX1_log_X1_told rfl rfl rfl (by decide +kernel) ⟨Nat.le_of_ble_eq_true rfl, Nat.le_of_ble_eq_true rfl⟩) ⟨fun a U g mk q => ⟨q.1, q.2.1, va_K.moved (u := U) (U := U.calling g mk a) (Vm.Alike.refl U.vm) q.2.2⟩, va_recv hK hP (ci := 1) (q0 := 0) rfl rfl, fun U hU hW => ⟨rfl, by rw [hU]; exact hP, va_K.moved hW.alike hK⟩⟩ rfl rfl hl.1 rfl (lv_room (Nat.le_of_ble_eq_true rfl)) dX1_log_18 ⟨Nat.zero_le _, Nat.zero_le _⟩) (fun r_18 hr_18 => ?_)
  subst hr_18
  refine vp_callSl (W.runV (As := [.int (yf_way (y0, y1, y2, y3, y4, y5, y6, y7, y8, y9, y10, y11, y12) p1 p2), .int p1, .int p2, .long (yf_told (y0, y1, y2, y3, y4, y5, y6, y7, y8, y9, y10, y11, y12) (yf_way (y0, y1, y2, y3, y4, y5, y6, y7, y8, y9, y10, y11, y12) p1 p2) p1 p3)]) (rest := []) ⟨hx, hb, hml, hown, hts⟩ (yk_logBehind l D ad cd (y0, y1, y2, y3, y4, y5, y6, y7, y8, y9, y10, y11, y12) (yf_way (y0, y1, y2, y3, y4, y5, y6, y7, y8, y9, y10, y11, y12) p1 p2) p1 p2 (yf_told (y0, y1, y2, y3, y4, y5, y6, y7, y8, y9, y10, y11, y12) (yf_way (y0, y1, y2, y3, y4, y5, y6, y7, y8, y9, y10, y11, y12) p1 p2) p1 p3) (ywy_4 _ _ _)) (cwV 4 hts gX1_log_X1_logBehind rfl rfl rfl (by decide +kernel) ⟨Nat.le_of_ble_eq_true rfl, Nat.le_of_ble_eq_true rfl⟩) ⟨fun a U g mk q => ⟨q.1, q.2.1, va_K.moved (u := U) (U := U.calling g mk a) (Vm.Alike.refl U.vm) q.2.2⟩, va_recv hK hP (ci := 1) (q0 := 0) rfl rfl, fun U hU hW => ⟨rfl, by rw [hU]; exact hP, va_K.moved hW.alike hK⟩⟩ rfl rfl hl.1 rfl (lv_room (Nat.le_of_ble_eq_true rfl)) dX1_log_21 ⟨Nat.zero_le _, Nat.zero_le _⟩) (fun r_21 hr_21 => ?_)
  subst hr_21
  exact W.lret (v := (yf_logBehind (y0, y1, y2, y3, y4, y5, y6, y7, y8, y9, y10, y11, y12) (yf_way (y0, y1, y2, y3, y4, y5, y6, y7, y8, y9, y10, y11, y12) p1 p2) p1 p2 (yf_told (y0, y1, y2, y3, y4, y5, y6, y7, y8, y9, y10, y11, y12) (yf_way (y0, y1, y2, y3, y4, y5, y6, y7, y8, y9, y10, y11, y12) p1 p2) p1 p3))) hx hb hr (fun t ht hW => ⟨(yf_logBehind (y0, y1, y2, y3, y4, y5, y6, y7, y8, y9, y10, y11, y12) (yf_way (y0, y1, y2, y3, y4, y5, y6, y7, y8, y9, y10, y11, y12) p1 p2) p1 p2 (yf_told (y0, y1, y2, y3, y4, y5, y6, y7, y8, y9, y10, y11, y12) (yf_way (y0, y1, y2, y3, y4, y5, y6, y7, y8, y9, y10, y11, y12) p1 p2) p1 p3)), rfl, (by simp only [yf_log]), ht⟩) (fun _ h => by cases h) dX1_log_24
