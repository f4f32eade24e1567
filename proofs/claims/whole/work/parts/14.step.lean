theorem step_collect {u : XS} {w : YS} (hR : Rel u w) (v : Int64) : (xf_collect u v).1 = (yf_collect w v).1 ∧ Rel (xf_collect u v).2 (yf_collect w v).2 := by
  obtain ⟨y0, y1, y2, y3, y4, y5, y6, y7, y8, y9, y10, y11, y12, x1, x6, rfl, rfl, hI⟩ := hR
  obtain ⟨n, hn, e, e6⟩ := hI.1
  by_cases h : n = 40
  · have a1 : ¬ y1 < 40 := by rw [e, h]; decide
    have a2 : y1 = 40 := by rw [e, h]; rfl
    simp only [xf_collect, yf_collect, if_neg a1, if_pos a2]
    exact ⟨by trivial, _, _, _, _, _, _, _, _, _, _, _, _, _, _, _, rfl, rfl, hI⟩
  · have a1 : y1 < 40 := by rw [e]; exact nI_lt (b := 40) (by omega) (by decide)
    have a2 : ¬ y1 = 40 := by rw [e, show (40 : Int32) = nI 40 from rfl, nI_eq (by omega) (by decide)]; exact h
    simp only [xf_collect, yf_collect, if_pos a1, if_neg a2]
    refine ⟨by trivial, _, _, _, _, _, _, _, _, _, _, _, _, _, _, _, rfl, rfl, ⟨n + 1, by omega, by rw [e, nI_1], ?_⟩, hI.2⟩
    have ec : (y1).toNatClampNeg = n := by rw [e]; exact nI_clamp (by omega)
    rw [ec]
    simp only [dig]
    have e2 : vp_updL y0 n v n = v := pk_uLs
    rw [dig_out (Nat.le_refl n), e2, e6]
theorem step_answer {u : XS} {w : YS} (hR : Rel u w) (c : Int32) (v : Int64) : (xf_answer u c v).1 = (yf_answer w c v).1 ∧ Rel (xf_answer u c v).2 (yf_answer w c v).2 := by
  obtain ⟨y0, y1, y2, y3, y4, y5, y6, y7, y8, y9, y10, y11, y12, x1, x6, rfl, rfl, hI⟩ := hR
  by_cases h0 : c < 0
  · simp only [xf_answer, yf_answer, if_pos h0, if_pos (xcall_0 h0)]
    exact ⟨by trivial, _, _, _, _, _, _, _, _, _, _, _, _, _, _, _, rfl, rfl, hI⟩
  · by_cases h1 : c ≤ 19
    · simp only [xf_answer, yf_answer, if_neg h0, if_pos h1, if_neg (xcall_1 h0 h1)]
      refine ⟨by trivial, _, _, _, _, _, _, _, _, _, _, _, _, _, _, _, rfl, rfl, hI.1, hI.2.1, fun j hj => ?_⟩
      by_cases q : j = (c).toNatClampNeg
      · rw [q, pk_us]; decide
      · rw [pk_un q]; exact hI.2.2 j hj
    · simp only [xf_answer, yf_answer, if_neg h0, if_neg h1, if_pos (xcall_9 h0 h1)]
      exact ⟨by trivial, _, _, _, _, _, _, _, _, _, _, _, _, _, _, _, rfl, rfl, hI⟩
theorem step_fails {u : XS} {w : YS} (hR : Rel u w) (c k : Int32) : (xf_fails u c k).1 = (yf_fails w c k).1 ∧ Rel (xf_fails u c k).2 (yf_fails w c k).2 := by
  obtain ⟨y0, y1, y2, y3, y4, y5, y6, y7, y8, y9, y10, y11, y12, x1, x6, rfl, rfl, hI⟩ := hR
  by_cases h0 : c < 0
  · simp only [xf_fails, yf_fails, if_pos h0, if_pos (xcall_0 h0)]
    exact ⟨by trivial, _, _, _, _, _, _, _, _, _, _, _, _, _, _, _, rfl, rfl, hI⟩
  · by_cases h1 : c ≤ 19
    · have h1' : ¬ 19 < c := by
        rw [Int32.le_iff_toInt_le] at h1
        rw [Int32.lt_iff_toInt_lt]
        omega
      by_cases h2 : k < 0
      · simp only [xf_fails, yf_fails, if_neg h0, if_neg h1', if_neg (xcall_1 h0 h1), if_pos h2]
        exact ⟨by trivial, _, _, _, _, _, _, _, _, _, _, _, _, _, _, _, rfl, rfl, hI⟩
      · by_cases h3 : k ≤ 3
        · simp only [xf_fails, yf_fails, if_neg h0, if_neg h1', if_neg (xcall_1 h0 h1), if_neg h2, if_pos h3]
          refine ⟨by trivial, _, _, _, _, _, _, _, _, _, _, _, _, _, _, _, rfl, rfl, hI.1, hI.2.1, fun j hj => ?_⟩
          by_cases q : j = (c).toNatClampNeg
          · rw [q, pk_us, Int32.le_iff_toInt_le]
            rw [Int32.lt_iff_toInt_lt] at h2
            omega
          · rw [pk_un q]; exact hI.2.2 j hj
        · simp only [xf_fails, yf_fails, if_neg h0, if_neg h1', if_neg (xcall_1 h0 h1), if_neg h2, if_neg h3]
          exact ⟨by trivial, _, _, _, _, _, _, _, _, _, _, _, _, _, _, _, rfl, rfl, hI⟩
    · have h1' : 19 < c := by
        rw [Int32.le_iff_toInt_le] at h1
        rw [Int32.lt_iff_toInt_lt]
        omega
      simp only [xf_fails, yf_fails, if_neg h0, if_pos h1', if_pos (xcall_9 h0 h1)]
      exact ⟨by trivial, _, _, _, _, _, _, _, _, _, _, _, _, _, _, _, rfl, rfl, hI⟩
theorem step_make {u : XS} {w : YS} (hR : Rel u w) (c : Int32) : (xf_make u c).1 = (yf_make w c).1 ∧ Rel (xf_make u c).2 (yf_make w c).2 := by
  obtain ⟨y0, y1, y2, y3, y4, y5, y6, y7, y8, y9, y10, y11, y12, x1, x6, rfl, rfl, hI⟩ := hR
  by_cases h0 : c < 0
  · simp only [xf_make, yf_make, if_pos h0, if_pos (xkind_0 h0)]
    exact ⟨by trivial, _, _, _, _, _, _, _, _, _, _, _, _, _, _, _, rfl, rfl, hI⟩
  · by_cases h9 : c ≤ 9
    · have hk := xkind_1 h0 h9
      obtain ⟨K, hK, rfl⟩ := vp_in_of (yk_in h0 h9) (by decide)
      have eK : (nI K).toNatClampNeg = K := nI_clamp (by omega)
      obtain ⟨n, hn, e4, z0, zf, e1⟩ := hI.2.1 K hK
      by_cases h99 : n = 99
      · have a1 : ¬ y4 K < 99 := by rw [e4, h99]; decide
        have a2 : y4 K = 99 := by rw [e4, h99]; rfl
        simp only [xf_make, yf_make, if_neg h0, if_pos h9, if_neg hk, eK, if_neg a1, if_pos a2]
        exact ⟨by trivial, _, _, _, _, _, _, _, _, _, _, _, _, _, _, _, rfl, rfl, hI⟩
      · have a1 : y4 K < 99 := by rw [e4]; exact nI_lt (b := 99) (by omega) (by decide)
        have a2 : ¬ y4 K = 99 := by rw [e4, show (99 : Int32) = nI 99 from rfl, nI_eq (by omega) (by decide)]; exact h99
        have ix : (nI K * 100 + (y4 K + 1)).toNatClampNeg = 100 * K + (n + 1) := by
          rw [e4, nI_1, show (100 : Int32) = nI 100 from rfl, pk_mul, nI_add, nI_clamp (by omega)]
          omega
        have ix1 : 100 * nI K = nI K * 100 := Int32.mul_comm _ _
        have ix2 : 1000 * nI K = nI K * 1000 := Int32.mul_comm _ _
        have nb : vp_nar .boolean 1 = 1 := by decide
        simp only [xf_make, yf_make, if_neg h0, if_pos h9, if_neg hk, eK, if_pos a1, if_neg a2, pk_us, ix1, ix2, ix, nb]
        refine ⟨by trivial, _, _, _, _, _, _, _, _, _, _, _, _, _, _, _, rfl, rfl, hI.1, fun k hk => ?_, hI.2.2⟩
        by_cases q : k = K
        · subst q
          refine ⟨n + 1, by omega, by rw [pk_us, e4, nI_1], ?_, fun j h1 h2 => ?_, ?_⟩
          · have t : upd y5 (100 * k + (n + 1)) 1 (100 * k) = y5 (100 * k) := pk_un (by omega)
            rw [t]; exact z0
          · have t : upd y5 (100 * k + (n + 1)) 1 (100 * k + j) = y5 (100 * k + j) := pk_un (by omega)
            rw [t]; exact zf j (by omega) h2
          · have t := cnt_set (f := y5) (k := k) (j := n + 1) (v := 1) (zf (n + 1) (by omega) (by omega)) (by decide) (m := 100) (by omega)
            rw [pk_us, e1, t, nI_1]
        · obtain ⟨n', hn', e4', z0', zf', e1'⟩ := hI.2.1 k hk
          refine ⟨n', hn', by rw [pk_un q]; exact e4', ?_, fun j h1 h2 => ?_, ?_⟩
          · have t : upd y5 (100 * K + (n + 1)) 1 (100 * k) = y5 (100 * k) := pk_un (by omega)
            rw [t]; exact z0'
          · have t : upd y5 (100 * K + (n + 1)) 1 (100 * k + j) = y5 (100 * k + j) := pk_un (by omega)
            rw [t]; exact zf' j h1 h2
          · have t : cnt (upd y5 (100 * K + (n + 1)) 1) k 100 = cnt y5 k 100 := cnt_out (fun j hj => by omega)
            rw [pk_un q, e1', t]
    · simp only [xf_make, yf_make, if_neg h0, if_neg h9, if_pos (xkind_9 h0 h9)]
      exact ⟨by trivial, _, _, _, _, _, _, _, _, _, _, _, _, _, _, _, rfl, rfl, hI⟩
theorem step_drop {u : XS} {w : YS} (hR : Rel u w) (n : Int32) : (xf_drop u n).1 = (yf_drop w n).1 ∧ Rel (xf_drop u n).2 (yf_drop w n).2 := by
  have ht := there_eq hR n
  obtain ⟨y0, y1, y2, y3, y4, y5, y6, y7, y8, y9, y10, y11, y12, x1, x6, rfl, rfl, hI⟩ := hR
  by_cases hp : xf_placeOf n = (-1)
  · simp only [xf_isThere, if_pos hp] at ht
    simp only [xf_drop, yf_drop, if_pos hp, if_pos ht.symm]
    exact ⟨ht, _, _, _, _, _, _, _, _, _, _, _, _, _, _, _, rfl, rfl, hI⟩
  · by_cases hz : y5 (xf_placeOf n).toNatClampNeg = 0
    · simp only [xf_isThere, if_neg hp, if_pos hz] at ht
      simp only [xf_drop, yf_drop, if_neg hp, if_pos hz, if_pos ht.symm]
      exact ⟨ht, _, _, _, _, _, _, _, _, _, _, _, _, _, _, _, rfl, rfl, hI⟩
    · simp only [xf_isThere, if_neg hp, if_neg hz] at ht
      have hy : ¬ yf_isThere (y0, y1, y2, y3, y4, y5, y6, y7, y8, y9, y10, y11, y12) n = 0 := by rw [← ht]; decide
      obtain ⟨K, j, hK, h1, h9, e, ep⟩ := xpl_of hp
      obtain ⟨n1, n2⟩ := num_at hK h9
      rw [← e] at n1 n2
      have eK : (nI K).toNatClampNeg = K := nI_clamp (by omega)
      have ej : (nI (100 * K + j)).toNatClampNeg = 100 * K + j := nI_clamp (by omega)
      have ix : (100 * nI K + nI j).toNatClampNeg = 100 * K + j := by
        rw [show (100 : Int32) = nI 100 from rfl, pk_mul, nI_add, nI_clamp (by omega)]
      have nb : vp_nar .boolean 0 = 0 := by decide
      rw [ep, ej] at hz
      have hz2 : ¬ y5 (xf_placeOf n).toNatClampNeg = 0 := by rw [ep, ej]; exact hz
      simp only [xf_drop, yf_drop, if_neg hp, if_neg hz2, if_neg hy]
      rw [n2, n1, ep]
      simp only [eK, ej, ix, nb]
      refine ⟨ht, _, _, _, _, _, _, _, _, _, _, _, _, _, _, _, rfl, rfl, hI.1, fun k hk => ?_, hI.2.2⟩
      obtain ⟨m, hm, e4, z0, zf, e1⟩ := hI.2.1 k hk
      by_cases q : k = K
      · subst q
        refine ⟨m, hm, e4, ?_, fun i i1 i2 => ?_, ?_⟩
        · have t : upd y5 (100 * k + j) 0 (100 * k) = y5 (100 * k) := pk_un (by omega)
          rw [t]; exact z0
        · by_cases i3 : i = j
          · subst i3; exact pk_us
          · have t : upd y5 (100 * k + j) 0 (100 * k + i) = y5 (100 * k + i) := pk_un (by omega)
            rw [t]; exact zf i i1 i2
        · have t := cnt_clr (f := y5) (k := k) (j := j) hz (m := 100) (by omega)
          rw [pk_us, e1, ← t, nI_pred]
      · refine ⟨m, hm, e4, ?_, fun i i1 i2 => ?_, ?_⟩
        · have t : upd y5 (100 * K + j) 0 (100 * k) = y5 (100 * k) := pk_un (by omega)
          rw [t]; exact z0
        · have t : upd y5 (100 * K + j) 0 (100 * k + i) = y5 (100 * k + i) := pk_un (by omega)
          rw [t]; exact zf i i1 i2
        · have t : cnt (upd y5 (100 * K + j) 0) k 100 = cnt y5 k 100 := cnt_out (fun i hi => by omega)
          rw [pk_un q, e1, t]
theorem step_told {u : XS} {w : YS} (hR : Rel u w) (a : Int32) : xf_told u a = yf_tell w a := by
  obtain ⟨y0, y1, y2, y3, y4, y5, y6, y7, y8, y9, y10, y11, y12, x1, x6, rfl, rfl, hI⟩ := hR
  simp only [xf_told, yf_tell]
theorem step_numbers {u : XS} {w : YS} (hR : Rel u w) (c : Int32) : xf_numbers u c = yf_numbers w c := by
  obtain ⟨y0, y1, y2, y3, y4, y5, y6, y7, y8, y9, y10, y11, y12, x1, x6, rfl, rfl, hI⟩ := hR
  by_cases h0 : c < 0
  · simp only [xf_numbers, yf_numbers, if_pos h0, if_pos (xkind_0 h0)]
  · by_cases h9 : c ≤ 9
    · simp only [xf_numbers, yf_numbers, if_neg h0, if_pos h9, if_neg (xkind_1 h0 h9)]
      obtain ⟨m, hm, e4, z0, zf, e1⟩ := hI.2.1 (c).toNatClampNeg (yk_lt h0 h9)
      exact e1
    · simp only [xf_numbers, yf_numbers, if_neg h0, if_neg h9, if_pos (xkind_9 h0 h9)]
/-! calls -/
theorem lc12 : ¬ lg_cmp (-9000000000000000012) 0 = 0 := by decide
theorem lc11 : ¬ lg_cmp (-9000000000000000011) 0 = 0 := by decide
theorem lc13 : ¬ lg_cmp (-9000000000000000013) 0 = 0 := by decide
theorem lc12s : lg_cmp (-9000000000000000012) (-9000000000000000012) = 0 := by decide
theorem lc11s : ¬ lg_cmp (-9000000000000000011) (-9000000000000000012) = 0 := by decide
theorem lc13s : ¬ lg_cmp (-9000000000000000013) (-9000000000000000012) = 0 := by decide
theorem lc0s : ¬ lg_cmp 0 (-9000000000000000012) = 0 := by decide
theorem lc00 : lg_cmp 0 0 = 0 := by decide
/-- which way a call goes, on both sides -/
theorem ways {u : XS} {w : YS} (hR : Rel u w) (c n : Int32) :
    (yf_way w c n = 1 ∧ xf_refusalOf u c n = (-9000000000000000012)) ∨ (yf_way w c n = 2 ∧ xf_refusalOf u c n = (-9000000000000000011)) ∨ (yf_way w c n = 3 ∧ xf_refusalOf u c n = (-9000000000000000013)) ∨
    (yf_way w c n = 4 ∧ xf_refusalOf u c n = 0 ∧ ¬ w.2.2.2.1 (c).toNatClampNeg = 0) ∨ (yf_way w c n = 0 ∧ xf_refusalOf u c n = 0 ∧ w.2.2.2.1 (c).toNatClampNeg = 0) := by
  have ht := there_eq hR n
  obtain ⟨y0, y1, y2, y3, y4, y5, y6, y7, y8, y9, y10, y11, y12, x1, x6, rfl, rfl, hI⟩ := hR
  by_cases h0 : c < 0
  · exact Or.inl ⟨by simp only [yf_way, if_pos h0], by simp only [xf_refusalOf, if_pos (xcall_0 h0)]⟩
  · by_cases h19 : c ≤ 19
    · have hc := xcall_1 h0 h19
      by_cases hz : yf_isThere (y0, y1, y2, y3, y4, y5, y6, y7, y8, y9, y10, y11, y12) n = 0
      · exact Or.inr (Or.inl ⟨by simp only [yf_way, if_neg h0, if_pos h19, if_pos hz], by simp only [xf_refusalOf, if_neg hc, if_pos (ht.trans hz)]⟩)
      · have hz' : ¬ xf_isThere (y4, x1, y5, y2, y3, y1, x6, y6, y7, y8, y9, y10, y11, y12) n = 0 := by rw [ht]; exact hz
        by_cases hk : n / 1000 = c - c / 10 * 10
        · have hcl : (c).toNatClampNeg < 20 := by
            obtain ⟨j, hj, rfl⟩ := vp_in_of (yc_in h0 h19) (by decide)
            rw [nI_clamp (by omega)]; exact hj
          have hp := hI.2.2 _ hcl
          by_cases h9 : c ≤ 9
          · by_cases hf : y3 (c).toNatClampNeg = 0
            · have hf' : y3 (c).toNatClampNeg ≤ 0 := by rw [hf]; decide
              exact Or.inr (Or.inr (Or.inr (Or.inr ⟨by simp only [yf_way, if_neg h0, if_pos h19, if_neg hz, if_pos hk, if_pos h9, if_pos hf'], by simp only [xf_refusalOf, if_neg hc, if_neg hz', if_pos hk, if_pos (c_10 h9)], hf⟩)))
            · exact Or.inr (Or.inr (Or.inr (Or.inl ⟨by simp only [yf_way, if_neg h0, if_pos h19, if_neg hz, if_pos hk, if_pos h9, if_neg (i_pos hp hf)], by simp only [xf_refusalOf, if_neg hc, if_neg hz', if_pos hk, if_pos (c_10 h9)], hf⟩)))
          · by_cases hm : y1 = 0
            · exact Or.inr (Or.inr (Or.inl ⟨by simp only [yf_way, if_neg h0, if_pos h19, if_neg hz, if_pos hk, if_neg h9, if_pos hm], by simp only [xf_refusalOf, if_neg hc, if_neg hz', if_pos hk, if_neg (c_10n h9), if_pos hm]⟩))
            · by_cases hf : y3 (c).toNatClampNeg = 0
              · have hf' : y3 (c).toNatClampNeg ≤ 0 := by rw [hf]; decide
                exact Or.inr (Or.inr (Or.inr (Or.inr ⟨by simp only [yf_way, if_neg h0, if_pos h19, if_neg hz, if_pos hk, if_neg h9, if_neg hm, if_pos hf'], by simp only [xf_refusalOf, if_neg hc, if_neg hz', if_pos hk, if_neg (c_10n h9), if_neg hm], hf⟩)))
              · exact Or.inr (Or.inr (Or.inr (Or.inl ⟨by simp only [yf_way, if_neg h0, if_pos h19, if_neg hz, if_pos hk, if_neg h9, if_neg hm, if_neg (i_pos hp hf)], by simp only [xf_refusalOf, if_neg hc, if_neg hz', if_pos hk, if_neg (c_10n h9), if_neg hm], hf⟩)))
        · exact Or.inr (Or.inl ⟨by simp only [yf_way, if_neg h0, if_pos h19, if_neg hz, if_neg hk], by simp only [xf_refusalOf, if_neg hc, if_neg hz', if_neg hk]⟩)
    · exact Or.inl ⟨by simp only [yf_way, if_neg h0, if_neg h19], by simp only [xf_refusalOf, if_pos (xcall_9 h0 h19)]⟩
theorem t1a : ¬ (1 : Int32) ≤ 0 := by decide
theorem t2a : ¬ (2 : Int32) ≤ 0 := by decide
theorem t3a : ¬ (3 : Int32) ≤ 0 := by decide
theorem t4a : ¬ (4 : Int32) ≤ 0 := by decide
theorem t0a : (0 : Int32) ≤ 0 := by decide
theorem t21 : ¬ (2 : Int32) = 1 := by decide
theorem t31 : ¬ (3 : Int32) = 1 := by decide
theorem t32 : ¬ (3 : Int32) = 2 := by decide
theorem t41 : ¬ (4 : Int32) = 1 := by decide
theorem t42 : ¬ (4 : Int32) = 2 := by decide
theorem t43 : ¬ (4 : Int32) = 3 := by decide
theorem t01 : ¬ (0 : Int32) = 1 := by decide
theorem t10 : ¬ (1 : Int32) = 0 := by decide
theorem t20 : ¬ (2 : Int32) = 0 := by decide
theorem t30 : ¬ (3 : Int32) = 0 := by decide
theorem t40 : ¬ (4 : Int32) = 0 := by decide
theorem t14 : ¬ (1 : Int32) = 4 := by decide
theorem t24 : ¬ (2 : Int32) = 4 := by decide
theorem t34 : ¬ (3 : Int32) = 4 := by decide
theorem t1b : (1 : Int32) ≤ 1 := by decide
theorem t2b : ¬ (2 : Int32) ≤ 1 := by decide
theorem t3b : ¬ (3 : Int32) ≤ 1 := by decide
/-- the digest that the class keeps is the reference's -/
theorem dig_y {y0 : Nat → Int64} {y1 : Int32} {y3 y4 y5 x1 : Nat → Int32} {x6 : Int64} (hI : Inv y0 y1 y3 y4 y5 x1 x6) : dig y0 (y1).toNatClampNeg = x6 := by
  obtain ⟨⟨n, hn, e, e6⟩, -⟩ := hI
  rw [e, nI_clamp (by omega), e6]
theorem step_again {u : XS} {w : YS} (hR : Rel u w) (c n : Int32) (a : Int64) : xf_again u c n a = yf_again w c n a := by
  have hW := ways hR c n
  obtain ⟨y0, y1, y2, y3, y4, y5, y6, y7, y8, y9, y10, y11, y12, x1, x6, rfl, rfl, hI⟩ := hR
  have hd := dig_y hI
  rcases hW with ⟨h1, h2⟩ | ⟨h1, h2⟩ | ⟨h1, h2⟩ | ⟨h1, h2, h3⟩ | ⟨h1, h2, h3⟩
  · simp only [xf_again, yf_again, h1, h2, xf_replyTo, yf_told, if_neg lc12, if_neg t1a, ↓reduceIte]
  · simp only [xf_again, yf_again, h1, h2, xf_replyTo, yf_told, if_neg lc11, if_neg t2a, if_neg t21, ↓reduceIte]
  · simp only [xf_again, yf_again, h1, h2, xf_replyTo, yf_told, if_neg lc13, if_neg t3a, if_neg t31, if_neg t32, ↓reduceIte]
  · have h3 : ¬ y3 (c).toNatClampNeg = 0 := h3
    simp only [xf_again, yf_again, h1, h2, xf_replyTo, yf_told, if_pos lc00, if_neg h3, if_neg t4a, if_neg t41, if_neg t42, if_neg t43]
  · have h3 : y3 (c).toNatClampNeg = 0 := h3
    simp only [xf_again, yf_again, h1, h2, xf_replyTo, yf_told, if_pos lc00, if_pos h3, if_pos t0a, hd]
theorem step_log {u : XS} {w : YS} (hR : Rel u w) (c n : Int32) (a : Int64) : xf_log u c n a = yf_log w c n a := by
  have hW := ways hR c n
  obtain ⟨y0, y1, y2, y3, y4, y5, y6, y7, y8, y9, y10, y11, y12, x1, x6, rfl, rfl, hI⟩ := hR
  have hd := dig_y hI
  rcases hW with ⟨h1, h2⟩ | ⟨h1, h2⟩ | ⟨h1, h2⟩ | ⟨h1, h2, h3⟩ | ⟨h1, h2, h3⟩
  · simp only [xf_log, yf_log, h1, h2, xf_replyTo, yf_told, xf_logBehind, yf_logBehind, if_pos lc12s, ↓reduceIte]
  · simp only [xf_log, yf_log, h1, h2, xf_replyTo, yf_told, xf_logBehind, yf_logBehind, if_neg lc11s, if_neg lc11, if_neg t2a, if_neg t21, if_neg t20, if_neg t24]
  · simp only [xf_log, yf_log, h1, h2, xf_replyTo, yf_told, xf_logBehind, yf_logBehind, if_neg lc13s, if_neg lc13, if_neg t3a, if_neg t31, if_neg t30, if_neg t34]
  · have h3 : ¬ y3 (c).toNatClampNeg = 0 := h3
    simp only [xf_log, yf_log, h1, h2, xf_replyTo, yf_told, xf_logBehind, yf_logBehind, if_neg lc0s, if_pos lc00, if_neg h3, if_neg t4a, if_neg t41, if_neg t40, ↓reduceIte]
  · have h3 : y3 (c).toNatClampNeg = 0 := h3
    simp only [xf_log, yf_log, h1, h2, xf_replyTo, yf_told, xf_logBehind, yf_logBehind, if_neg lc0s, if_pos lc00, if_pos h3, if_pos t0a, if_neg t01, hd, ↓reduceIte]
theorem step_call {u : XS} {w : YS} (hR : Rel u w) (c n : Int32) (a : Int64) : (xf_call u c n a).1 = (yf_call w c n a).1 ∧ Rel (xf_call u c n a).2 (yf_call w c n a).2 := by
  have hW := ways hR c n
  obtain ⟨y0, y1, y2, y3, y4, y5, y6, y7, y8, y9, y10, y11, y12, x1, x6, rfl, rfl, hI⟩ := hR
  have hd := dig_y hI
  rcases hW with ⟨h1, h2⟩ | ⟨h1, h2⟩ | ⟨h1, h2⟩ | ⟨h1, h2, h3⟩ | ⟨h1, h2, h3⟩
  · simp only [xf_call, yf_call, h1, h2, yf_told, yf_logBehind, if_pos lc12s, if_neg t1a, if_neg t10, if_neg t14, if_pos t1b, ↓reduceIte]
    exact ⟨by trivial, _, _, _, _, _, _, _, _, _, _, _, _, _, _, _, rfl, rfl, hI⟩
  · simp only [xf_call, yf_call, h1, h2, xf_replyTo, yf_told, xf_logBehind, yf_logBehind, xf_settle, if_neg lc11s, if_neg lc11, if_neg t2a, if_neg t21, if_neg t20, if_neg t24, if_neg t2b, ↓reduceIte]
    exact ⟨by trivial, _, _, _, _, _, _, _, _, _, _, _, _, _, _, _, rfl, rfl, hI⟩
  · simp only [xf_call, yf_call, h1, h2, xf_replyTo, yf_told, xf_logBehind, yf_logBehind, xf_settle, if_neg lc13s, if_neg lc13, if_neg t3a, if_neg t31, if_neg t32, if_neg t30, if_neg t34, if_neg t3b, ↓reduceIte]
    exact ⟨by trivial, _, _, _, _, _, _, _, _, _, _, _, _, _, _, _, rfl, rfl, hI⟩
  · have h3 : ¬ y3 (c).toNatClampNeg = 0 := h3
    simp only [xf_call, yf_call, h1, h2, xf_replyTo, yf_told, xf_logBehind, yf_logBehind, xf_settle, if_neg lc0s, if_pos lc00, if_neg h3, if_neg t4a, if_neg t41, if_neg t42, if_neg t43, if_neg t40, ↓reduceIte]
    exact ⟨by trivial, _, _, _, _, _, _, _, _, _, _, _, _, _, _, _, rfl, rfl, hI⟩
  · have h3 : y3 (c).toNatClampNeg = 0 := h3
    simp only [xf_call, yf_call, h1, h2, xf_replyTo, yf_told, xf_logBehind, yf_logBehind, xf_settle, if_neg lc0s, if_pos lc00, if_pos h3, if_pos t0a, if_neg t01, hd, ↓reduceIte]
    exact ⟨by trivial, _, _, _, _, _, _, _, _, _, _, _, _, _, _, _, rfl, rfl, ⟨0, by decide, rfl, rfl⟩, hI.2⟩
