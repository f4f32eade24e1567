theorem sw_out8 {x : Int32} (h0 : ¬ x = 0) (h1 : ¬ x = 1) (h2 : ¬ x = 2) (h3 : ¬ x = 3) (h4 : ¬ x = 4) (h5 : ¬ x = 5) (h6 : ¬ x = 6) (h7 : ¬ x = 7) : x.toInt < 0 ∨ 7 < x.toInt := by
  have g0 := lv_neT (a := 0) h0 (by decide)
  have g1 := lv_neT (a := 1) h1 (by decide)
  have g2 := lv_neT (a := 2) h2 (by decide)
  have g3 := lv_neT (a := 3) h3 (by decide)
  have g4 := lv_neT (a := 4) h4 (by decide)
  have g5 := lv_neT (a := 5) h5 (by decide)
  have g6 := lv_neT (a := 6) h6 (by decide)
  have g7 := lv_neT (a := 7) h7 (by decide)
  omega
theorem sw_out11 {x : Int32} (h0 : ¬ x = 0) (h1 : ¬ x = 1) (h2 : ¬ x = 2) (h3 : ¬ x = 3) (h4 : ¬ x = 4) (h5 : ¬ x = 5) (h6 : ¬ x = 6) (h7 : ¬ x = 7) (h8 : ¬ x = 8) (h9 : ¬ x = 9) (h10 : ¬ x = 10) : x.toInt < 0 ∨ 10 < x.toInt := by
  have g0 := lv_neT (a := 0) h0 (by decide)
  have g1 := lv_neT (a := 1) h1 (by decide)
  have g2 := lv_neT (a := 2) h2 (by decide)
  have g3 := lv_neT (a := 3) h3 (by decide)
  have g4 := lv_neT (a := 4) h4 (by decide)
  have g5 := lv_neT (a := 5) h5 (by decide)
  have g6 := lv_neT (a := 6) h6 (by decide)
  have g7 := lv_neT (a := 7) h7 (by decide)
  have g8 := lv_neT (a := 8) h8 (by decide)
  have g9 := lv_neT (a := 9) h9 (by decide)
  have g10 := lv_neT (a := 10) h10 (by decide)
  omega
theorem sc_in {i L : Nat} (k : Nat) {x : Int32} (hx : x = nI k) (h : i + k < L) (hL : L ≤ 2560) : vp_in (nI i + x) L := by
  subst hx
  rw [nI_add]
  exact vp_in_nI h (by omega)
theorem sc_next (i : Nat) : nI i + Int32.ofInt 5 = nI (i + 5) := by
  rw [show Int32.ofInt 5 = nI 5 from by decide, nI_add]
theorem sc_more {i L : Nat} (hi : i ≤ L) (hL : L ≤ 2560) (h : ¬ Int32.ofNat L - 5 < nI i) : i + 5 ≤ L := by
  rw [show Int32.ofNat L = nI L from rfl, show (5 : Int32) = nI 5 from rfl, Int32.lt_iff_toInt_lt, pk_sub_toInt (by omega) (by omega), nI_toInt (by omega)] at h
  omega
def xf_isCall (p0 : Int32) : Int32 := if p0 < 0 then (0) else (if 20 ≤ p0 then (0) else (1))
set_option maxHeartbeats 4000000 in
set_option maxRecDepth 100000 in
theorem xk_isCall (l : Launch) (p0 : Int32)  : Met l yX0_isCall wsX0_isCall ({ frames := 0, cells := 0, slots := 0, locals := 0 }) (va_Pc [.int p0] (fun _ => True)) (vp_Si (fun r => r = xf_isCall p0)) 0 0 (fun _ => False) := by
  refine Met.ofW (cc := cX0_isCall) (maxL := 1) (ret := (some .boolean)) (by decide) rfl ?_
  intro p e s m args below meth c s₁ B hml hv
  obtain ⟨rfl, -⟩ := hv
  have hx := B.exec
  have hb := B.bytes
  have hr := B.returns
  have hts := atoms_spec (ws := wsX0_isCall) B.pre
  have hown : s.vm.findClass RX0 = some m.cls := findClass_of_methodNamed B.named
  have hlocks := B.notSynchronized
  have hl := lv_entry ([.int p0]) (n := 1) (Nat.le_of_ble_eq_true rfl)
  rw [lg_entry_eq]
  generalize (lg_sl ([.int p0]) ++ List.replicate (1 - (lg_sl ([.int p0])).length) Slot.unset).toArray = ls at hl ⊢
  have hl : lv_has ls 1 [(0, .int p0)] := hl
  refine lv_iload_n hx hb dX0_isCall_0 rfl (lv_at hl 0 rfl) ?_
  refine lv_if_lt (tgt := 14) hx hb dX0_isCall_1 (by decide) (fun c_1 => ?_) (fun c_1 => ?_)
  · refine lv_iconst (v := 0) hx hb dX0_isCall_14 (by decide) ?_
    exact W.zret (v := 0) (ty := .boolean) hx hb hr rfl (fun t ht hW => ⟨0, rfl, (by simp only [xf_isCall, if_pos c_1]), ht⟩) (fun _ h => by cases h) dX0_isCall_15
  · refine lv_iload_n hx hb dX0_isCall_4 rfl (lv_at hl 0 rfl) ?_
    refine lv_bipush (v := 20) hx hb dX0_isCall_5 (by decide) ?_
    refine lv_icmp_ge (tgt := 14) hx hb dX0_isCall_7 (by decide) (fun c_7 => ?_) (fun c_7 => ?_)
    · refine lv_iconst (v := 0) hx hb dX0_isCall_14 (by decide) ?_
      exact W.zret (v := 0) (ty := .boolean) hx hb hr rfl (fun t ht hW => ⟨0, rfl, (by simp only [xf_isCall, if_neg c_1, if_pos c_7]), ht⟩) (fun _ h => by cases h) dX0_isCall_15
    · refine lv_iconst (v := 1) hx hb dX0_isCall_10 (by decide) ?_
      refine lv_goto (tgt := 15) hx hb dX0_isCall_11 (by decide) ?_
      exact W.zret (v := 1) (ty := .boolean) hx hb hr rfl (fun t ht hW => ⟨1, rfl, (by simp only [xf_isCall, if_neg c_1, if_neg c_7]), ht⟩) (fun _ h => by cases h) dX0_isCall_15
def xf_isKind (p0 : Int32) : Int32 := if p0 < 0 then (0) else (if 10 ≤ p0 then (0) else (1))
set_option maxHeartbeats 4000000 in
set_option maxRecDepth 100000 in
theorem xk_isKind (l : Launch) (p0 : Int32)  : Met l yX0_isKind wsX0_isKind ({ frames := 0, cells := 0, slots := 0, locals := 0 }) (va_Pc [.int p0] (fun _ => True)) (vp_Si (fun r => r = xf_isKind p0)) 0 0 (fun _ => False) := by
  refine Met.ofW (cc := cX0_isKind) (maxL := 1) (ret := (some .boolean)) (by decide) rfl ?_
  intro p e s m args below meth c s₁ B hml hv
  obtain ⟨rfl, -⟩ := hv
  have hx := B.exec
  have hb := B.bytes
  have hr := B.returns
  have hts := atoms_spec (ws := wsX0_isKind) B.pre
  have hown : s.vm.findClass RX0 = some m.cls := findClass_of_methodNamed B.named
  have hlocks := B.notSynchronized
  have hl := lv_entry ([.int p0]) (n := 1) (Nat.le_of_ble_eq_true rfl)
  rw [lg_entry_eq]
  generalize (lg_sl ([.int p0]) ++ List.replicate (1 - (lg_sl ([.int p0])).length) Slot.unset).toArray = ls at hl ⊢
  have hl : lv_has ls 1 [(0, .int p0)] := hl
  refine lv_iload_n hx hb dX0_isKind_0 rfl (lv_at hl 0 rfl) ?_
  refine lv_if_lt (tgt := 14) hx hb dX0_isKind_1 (by decide) (fun c_1 => ?_) (fun c_1 => ?_)
  · refine lv_iconst (v := 0) hx hb dX0_isKind_14 (by decide) ?_
    exact W.zret (v := 0) (ty := .boolean) hx hb hr rfl (fun t ht hW => ⟨0, rfl, (by simp only [xf_isKind, if_pos c_1]), ht⟩) (fun _ h => by cases h) dX0_isKind_15
  · refine lv_iload_n hx hb dX0_isKind_4 rfl (lv_at hl 0 rfl) ?_
    refine lv_bipush (v := 10) hx hb dX0_isKind_5 (by decide) ?_
    refine lv_icmp_ge (tgt := 14) hx hb dX0_isKind_7 (by decide) (fun c_7 => ?_) (fun c_7 => ?_)
    · refine lv_iconst (v := 0) hx hb dX0_isKind_14 (by decide) ?_
      exact W.zret (v := 0) (ty := .boolean) hx hb hr rfl (fun t ht hW => ⟨0, rfl, (by simp only [xf_isKind, if_neg c_1, if_pos c_7]), ht⟩) (fun _ h => by cases h) dX0_isKind_15
    · refine lv_iconst (v := 1) hx hb dX0_isKind_10 (by decide) ?_
      refine lv_goto (tgt := 15) hx hb dX0_isKind_11 (by decide) ?_
      exact W.zret (v := 1) (ty := .boolean) hx hb hr rfl (fun t ht hW => ⟨1, rfl, (by simp only [xf_isKind, if_neg c_1, if_neg c_7]), ht⟩) (fun _ h => by cases h) dX0_isKind_15
theorem xkc_in {c : Int32} (h : ¬ xf_isCall c = 0) : vp_in c 20 := by
  rw [vp_in_iff]
  unfold xf_isCall at h
  split at h
  · exact absurd rfl h
  · rename_i h1
    split at h
    · exact absurd rfl h
    · rename_i h2
      rw [Int32.lt_iff_toInt_lt] at h1
      rw [Int32.le_iff_toInt_le] at h2
      have e0 : (0 : Int32).toInt = 0 := by decide
      have e1 : (20 : Int32).toInt = 20 := by decide
      omega
theorem xkk_in {c : Int32} (h : ¬ xf_isKind c = 0) : vp_in c 10 := by
  rw [vp_in_iff]
  unfold xf_isKind at h
  split at h
  · exact absurd rfl h
  · rename_i h1
    split at h
    · exact absurd rfl h
    · rename_i h2
      rw [Int32.lt_iff_toInt_lt] at h1
      rw [Int32.le_iff_toInt_le] at h2
      have e0 : (0 : Int32).toInt = 0 := by decide
      have e1 : (10 : Int32).toInt = 10 := by decide
      omega
theorem xkk_lt {c : Int32} (h : ¬ xf_isKind c = 0) : c.toNatClampNeg < 10 := by
  obtain ⟨j, hj, rfl⟩ := vp_in_of (xkk_in h) (by decide)
  rw [nI_clamp (by omega)]
  exact hj
theorem xmk_in {f : Nat → Int32} {k : Int32} (hk : ¬ xf_isKind k = 0) (h0 : 0 ≤ f k.toNatClampNeg) (h9 : f k.toNatClampNeg < 99) : vp_in (k * 100 + upd f k.toNatClampNeg (f k.toNatClampNeg + 1) k.toNatClampNeg) 1000 := by
  rw [pk_us]
  obtain ⟨j, hj, e⟩ := vp_in_of (xkk_in hk) (by decide)
  generalize f k.toNatClampNeg = v at h0 h9 ⊢
  subst e
  have hn : ¬ v < 0 := by
    rw [Int32.lt_iff_toInt_lt]
    rw [Int32.le_iff_toInt_le] at h0
    omega
  obtain ⟨i, hi, rfl⟩ := nI_of hn
  have h9' : i < 99 := by
    rw [show (99 : Int32) = nI 99 from rfl, nI_ltI hi (by decide)] at h9
    exact h9
  rw [show (100 : Int32) = nI 100 from rfl, pk_mul, nI_1, nI_add]
  exact vp_in_nI (by omega) (by decide)
def xf_placeOf (p0 : Int32) : Int32 := if 0 ≤ p0 then (if (xf_isKind (p0 / 1000)) = 0 then ((-1)) else (if (p0 - p0 / 1000 * 1000) < 1 then ((-1)) else (if (p0 - p0 / 1000 * 1000) ≤ 99 then ((((p0 / 1000) * 100) + (p0 - p0 / 1000 * 1000))) else ((-1))))) else ((-1))
set_option maxHeartbeats 4000000 in
set_option maxRecDepth 100000 in
theorem xk_placeOf (l : Launch) (p0 : Int32)  : Met l yX0_placeOf wsX0_placeOf ({ frames := 1, cells := 0, slots := 0, locals := 20 }) (va_Pc [.int p0] (fun _ => True)) (vp_Si (fun r => r = xf_placeOf p0)) 0 0 (fun _ => False) := by
  refine Met.ofW (cc := cX0_placeOf) (maxL := 3) (ret := (some .int)) (by decide) rfl ?_
  intro p e s m args below meth c s₁ B hml hv
  obtain ⟨rfl, -⟩ := hv
  have hx := B.exec
  have hb := B.bytes
  have hr := B.returns
  have hts := atoms_spec (ws := wsX0_placeOf) B.pre
  have hown : s.vm.findClass RX0 = some m.cls := findClass_of_methodNamed B.named
  have hlocks := B.notSynchronized
  have hl := lv_entry ([.int p0]) (n := 3) (Nat.le_of_ble_eq_true rfl)
  rw [lg_entry_eq]
  generalize (lg_sl ([.int p0]) ++ List.replicate (3 - (lg_sl ([.int p0])).length) Slot.unset).toArray = ls at hl ⊢
  have hl : lv_has ls 3 [(0, .int p0)] := hl
  refine lv_iload_n hx hb dX0_placeOf_0 rfl (lv_at hl 0 rfl) ?_
  refine lv_if_ge (tgt := 6) hx hb dX0_placeOf_1 (by decide) (fun c_1 => ?_) (fun c_1 => ?_)
  · refine lv_iload_n hx hb dX0_placeOf_6 rfl (lv_at hl 0 rfl) ?_
    refine lv_sipush (v := 1000) hx hb dX0_placeOf_7 (by decide) ?_
    refine lv_idiv hx hb dX0_placeOf_10 (by decide) ?_
    refine lv_istore_n (lv' := [(1, .int (p0 / 1000)), (0, .int p0)]) hx hb dX0_placeOf_11 rfl hl (by decide) rfl (fun ls hl => ?_)
    refine lv_iload_n hx hb dX0_placeOf_12 rfl (lv_at hl 1 rfl) ?_
    refine lv_sipush (v := 1000) hx hb dX0_placeOf_13 (by decide) ?_
    refine lv_irem hx hb dX0_placeOf_16 (by decide) ?_
    refine lv_istore_n (lv' := [(2, .int (p0 - p0 / 1000 * 1000)), (1, .int (p0 / 1000)), (0, .int p0)]) hx hb dX0_placeOf_17 rfl hl (by decide) rfl (fun ls hl => ?_)
    refine lv_iload_n hx hb dX0_placeOf_18 rfl (lv_at hl 1 rfl) ?_
    refine vp_callSi (W.runS (As := [.int (p0 / 1000)]) (rest := []) ⟨hx, hb, hml, hown, hts⟩ (xk_isKind l (p0 / 1000)) (va_cwS 1 hts gX0_placeOf_X0_isKind rfl rfl rfl (by decide +kernel) ⟨Nat.le_of_ble_eq_true rfl, Nat.le_of_ble_eq_true rfl⟩) ⟨fun a U g mk q => q, fun U hU hW => ⟨rfl, trivial⟩⟩ rfl rfl hl.1 rfl (lv_room (Nat.le_of_ble_eq_true rfl)) dX0_placeOf_19 ⟨Nat.zero_le _, Nat.zero_le _⟩) (fun r_19 hr_19 => ?_)
    subst hr_19
    refine lv_if_eq (tgt := 36) hx hb dX0_placeOf_22 (by decide) (fun c_22 => ?_) (fun c_22 => ?_)
    · refine lv_iconst (v := (-1)) hx hb dX0_placeOf_36 (by decide) ?_
      exact W.iret (v := (-1)) hx hb hr (fun t ht hW => ⟨(-1), rfl, (by simp only [xf_placeOf, if_pos c_1, if_pos c_22]), ht⟩) (fun _ h => by cases h) dX0_placeOf_37
    · refine lv_iload_n hx hb dX0_placeOf_25 rfl (lv_at hl 0 rfl) ?_
      refine lv_iconst (v := 1) hx hb dX0_placeOf_26 (by decide) ?_
      refine lv_icmp_lt (tgt := 36) hx hb dX0_placeOf_27 (by decide) (fun c_27 => ?_) (fun c_27 => ?_)
      · refine lv_iconst (v := (-1)) hx hb dX0_placeOf_36 (by decide) ?_
        exact W.iret (v := (-1)) hx hb hr (fun t ht hW => ⟨(-1), rfl, (by simp only [xf_placeOf, if_pos c_1, if_neg c_22, if_pos c_27]), ht⟩) (fun _ h => by cases h) dX0_placeOf_37
      · refine lv_iload_n hx hb dX0_placeOf_30 rfl (lv_at hl 0 rfl) ?_
        refine lv_bipush (v := 99) hx hb dX0_placeOf_31 (by decide) ?_
        refine lv_icmp_le (tgt := 38) hx hb dX0_placeOf_33 (by decide) (fun c_33 => ?_) (fun c_33 => ?_)
        · refine lv_iload_n hx hb dX0_placeOf_38 rfl (lv_at hl 1 rfl) ?_
          refine lv_bipush (v := 100) hx hb dX0_placeOf_39 (by decide) ?_
          refine lv_imul hx hb dX0_placeOf_41 ?_
          refine lv_iload_n hx hb dX0_placeOf_42 rfl (lv_at hl 0 rfl) ?_
          refine lv_iadd hx hb dX0_placeOf_43 ?_
          exact W.iret (v := (((p0 / 1000) * 100) + (p0 - p0 / 1000 * 1000))) hx hb hr (fun t ht hW => ⟨(((p0 / 1000) * 100) + (p0 - p0 / 1000 * 1000)), rfl, (by simp only [xf_placeOf, if_pos c_1, if_neg c_22, if_neg c_27, if_pos c_33]), ht⟩) (fun _ h => by cases h) dX0_placeOf_44
        · refine lv_iconst (v := (-1)) hx hb dX0_placeOf_36 (by decide) ?_
          exact W.iret (v := (-1)) hx hb hr (fun t ht hW => ⟨(-1), rfl, (by simp only [xf_placeOf, if_pos c_1, if_neg c_22, if_neg c_27, if_neg c_33]), ht⟩) (fun _ h => by cases h) dX0_placeOf_37
  · refine lv_iconst (v := (-1)) hx hb dX0_placeOf_4 (by decide) ?_
    exact W.iret (v := (-1)) hx hb hr (fun t ht hW => ⟨(-1), rfl, (by simp only [xf_placeOf, if_neg c_1]), ht⟩) (fun _ h => by cases h) dX0_placeOf_5
/-- a number's place, in naturals -/
theorem xpl_eq {a : Nat} (ha : a < 2 ^ 31) : xf_placeOf (nI a) = if a / 1000 < 10 ∧ 1 ≤ a % 1000 ∧ a % 1000 ≤ 99 then nI (a / 1000 * 100 + a % 1000) else (-1) := by
  have e0 : (0 : Int32) ≤ nI a := nI_pos' ha
  have ed : nI a / 1000 = nI (a / 1000) := pk_div (d := 1000) ha (by decide) (by decide)
  have er : nI a - nI (a / 1000) * 1000 = nI (a % 1000) := by
    have := pk_rem (d := 1000) ha (by decide) (by decide)
    rw [show nI 1000 = (1000 : Int32) from rfl, ed] at this
    exact this
  have hd : a / 1000 < 2 ^ 31 := by omega
  have hm : a % 1000 < 1000 := Nat.mod_lt _ (by decide)
  unfold xf_placeOf
  rw [if_pos e0, ed, er]
  have hk : xf_isKind (nI (a / 1000)) = if a / 1000 < 10 then 1 else 0 := by
    unfold xf_isKind
    rw [if_neg (nI_pos hd)]
    by_cases h : a / 1000 < 10
    · rw [if_pos h, if_neg]
      rw [show (10 : Int32) = nI 10 from rfl, nI_leI (by decide) hd]; omega
    · rw [if_neg h, if_pos]
      rw [show (10 : Int32) = nI 10 from rfl, nI_leI (by decide) hd]; omega
  rw [hk]
  by_cases h : a / 1000 < 10
  · rw [if_pos h, if_neg (by decide)]
    by_cases h1 : a % 1000 < 1
    · rw [if_pos (by rw [show (1 : Int32) = nI 1 from rfl, nI_ltI (by omega) (by decide)]; exact h1), if_neg (by omega)]
    · rw [if_neg (by rw [show (1 : Int32) = nI 1 from rfl, nI_ltI (by omega) (by decide)]; exact h1)]
      by_cases h2 : a % 1000 ≤ 99
      · rw [if_pos (by rw [show (99 : Int32) = nI 99 from rfl, nI_leI (by omega) (by decide)]; exact h2), if_pos (by omega), show (100 : Int32) = nI 100 from rfl, pk_mul, nI_add]
      · rw [if_neg (by rw [show (99 : Int32) = nI 99 from rfl, nI_leI (by omega) (by decide)]; exact h2), if_neg (by omega)]
  · rw [if_neg h, if_pos rfl, if_neg (by omega)]
theorem xpl_neg {n : Int32} (h : n < 0) : xf_placeOf n = (-1) := by
  unfold xf_placeOf
  rw [if_neg]
  rw [Int32.le_iff_toInt_le]
  rw [Int32.lt_iff_toInt_lt] at h
  omega
/-- a place that is one: of a number 1000 k + j, at 100 k + j -/
theorem xpl_of {n : Int32} (h : ¬ xf_placeOf n = (-1)) : ∃ k j : Nat, k < 10 ∧ 1 ≤ j ∧ j ≤ 99 ∧ n = nI (1000 * k + j) ∧ xf_placeOf n = nI (100 * k + j) := by
  by_cases hn : n < 0
  · exact absurd (xpl_neg hn) h
  · obtain ⟨a, ha, rfl⟩ := nI_of hn
    rw [xpl_eq ha] at h ⊢
    by_cases hc : a / 1000 < 10 ∧ 1 ≤ a % 1000 ∧ a % 1000 ≤ 99
    · refine ⟨a / 1000, a % 1000, hc.1, hc.2.1, hc.2.2, by rw [show 1000 * (a / 1000) + a % 1000 = a by omega], ?_⟩
      rw [if_pos hc, Nat.mul_comm]
    · rw [if_neg hc] at h
      exact absurd rfl h
theorem xpl_in {n : Int32} (h : ¬ xf_placeOf n = (-1)) : vp_in (xf_placeOf n) 1000 := by
  obtain ⟨k, j, hk, h1, h9, -, e⟩ := xpl_of h
  rw [e]
  exact vp_in_nI (by omega) (by decide)
theorem xpl_kd {n : Int32} (h : ¬ xf_placeOf n = (-1)) : vp_in (n / 1000) 10 := by
  obtain ⟨k, j, hk, h1, h9, e, -⟩ := xpl_of h
  rw [e, show (1000 : Int32) = nI 1000 from rfl, pk_div (by omega) (by decide) (by decide)]
  exact vp_in_nI (by omega) (by decide)
