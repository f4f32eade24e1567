/-- what goes with the reference's state: the digest of what is collected, the counts, and where nothing lies -/
def Inv (y0 : Nat → Int64) (y1 : Int32) (y3 y4 y5 x1 : Nat → Int32) (x6 : Int64) : Prop :=
  (∃ n, n ≤ 40 ∧ y1 = nI n ∧ x6 = dig y0 n) ∧
  (∀ k, k < 10 → ∃ n, n ≤ 99 ∧ y4 k = nI n ∧ y5 (100 * k) = 0 ∧ (∀ j, n < j → j ≤ 99 → y5 (100 * k + j) = 0) ∧ x1 k = nI (cnt y5 k 100)) ∧
  (∀ j, j < 20 → 0 ≤ y3 j)
/-- class and reference in states that go together -/
def Rel (u : XS) (w : YS) : Prop := ∃ (y0 : Nat → Int64) (y1 : Int32) (y2 : Nat → Int64) (y3 y4 y5 : Nat → Int32) (y6 y7 y8 : Int64) (y9 y10 y11 : Int32) (y12 : Int64) (x1 : Nat → Int32) (x6 : Int64),
  w = (y0, y1, y2, y3, y4, y5, y6, y7, y8, y9, y10, y11, y12) ∧ u = (y4, x1, y5, y2, y3, y1, x6, y6, y7, y8, y9, y10, y11, y12) ∧ Inv y0 y1 y3 y4 y5 x1 x6
theorem rel_new : Rel x_new y_new := by
  refine ⟨_, _, _, _, _, _, _, _, _, _, _, _, _, _, _, rfl, rfl, ⟨0, by decide, rfl, rfl⟩, fun k _ => ⟨0, by decide, rfl, rfl, fun _ _ _ => rfl, ?_⟩, fun _ _ => (by decide : (0 : Int32) ≤ 0)⟩
  have h : ∀ m, cnt (fun _ => 0) k m = 0 := by
    intro m
    induction m with
    | zero => rfl
    | succ m ih => simp only [cnt, ih, ↓reduceIte]
  rw [h]
  rfl
theorem rel_h2 {u : XS} {w : YS} (hR : Rel u w) : w.2.1 = nI (w.2.1).toNatClampNeg ∧ (w.2.1).toNatClampNeg ≤ 40 := by
  obtain ⟨y0, y1, y2, y3, y4, y5, y6, y7, y8, y9, y10, y11, y12, x1, x6, rfl, rfl, ⟨n, hn, e, -⟩, -⟩ := hR
  show y1 = nI (y1).toNatClampNeg ∧ (y1).toNatClampNeg ≤ 40
  rw [e, nI_clamp (by omega)]
  exact ⟨rfl, hn⟩
theorem rel_h1 {u : XS} {w : YS} (hR : Rel u w) : ∀ j, j < 10 → 0 ≤ w.2.2.2.2.1 j ∧ w.2.2.2.2.1 j ≤ 99 := by
  obtain ⟨y0, y1, y2, y3, y4, y5, y6, y7, y8, y9, y10, y11, y12, x1, x6, rfl, rfl, -, h, -⟩ := hR
  intro j hj
  obtain ⟨n, hn, e, -⟩ := h j hj
  show 0 ≤ y4 j ∧ y4 j ≤ 99
  rw [e]
  exact ⟨nI_pos' (by omega), nI_le (b := 99) hn (by decide)⟩
theorem rel_h0 {u : XS} {w : YS} (hR : Rel u w) : ∀ j, j < 10 → 0 ≤ u.1 j := by
  obtain ⟨y0, y1, y2, y3, y4, y5, y6, y7, y8, y9, y10, y11, y12, x1, x6, rfl, rfl, -, h, -⟩ := hR
  intro j hj
  obtain ⟨n, hn, e, -⟩ := h j hj
  show 0 ≤ y4 j
  rw [e]
  exact nI_pos' (by omega)
/-! counts and digests under a change -/
theorem cnt_out {f : Nat → Int32} {i k : Nat} {v : Int32} : ∀ {m : Nat}, (∀ j, j < m → 100 * k + j ≠ i) → cnt (upd f i v) k m = cnt f k m := by
  intro m
  induction m with
  | zero => intro _; rfl
  | succ m ih =>
    intro h
    have e : upd f i v (100 * k + m) = f (100 * k + m) := pk_un (h m (by omega))
    simp only [cnt]
    rw [ih (fun j hj => h j (by omega)), e]
theorem cnt_set {f : Nat → Int32} {k j : Nat} {v : Int32} (h0 : f (100 * k + j) = 0) (hv : ¬ v = 0) : ∀ {m : Nat}, j < m → cnt (upd f (100 * k + j) v) k m = cnt f k m + 1 := by
  intro m
  induction m with
  | zero => intro h; omega
  | succ m ih =>
    intro hj
    simp only [cnt]
    by_cases h : j = m
    · subst h
      have e1 : cnt (upd f (100 * k + j) v) k j = cnt f k j := cnt_out (fun i hi => by omega)
      have e2 : upd f (100 * k + j) v (100 * k + j) = v := pk_us
      rw [e1, e2, if_neg hv, if_pos h0]
    · have e2 : upd f (100 * k + j) v (100 * k + m) = f (100 * k + m) := pk_un (by omega)
      rw [ih (by omega), e2, Nat.add_right_comm]
theorem cnt_clr {f : Nat → Int32} {k j : Nat} (h0 : ¬ f (100 * k + j) = 0) : ∀ {m : Nat}, j < m → cnt (upd f (100 * k + j) 0) k m + 1 = cnt f k m := by
  intro m
  induction m with
  | zero => intro h; omega
  | succ m ih =>
    intro hj
    simp only [cnt]
    by_cases h : j = m
    · subst h
      have e1 : cnt (upd f (100 * k + j) 0) k j = cnt f k j := cnt_out (fun i hi => by omega)
      have e2 : upd f (100 * k + j) 0 (100 * k + j) = 0 := pk_us
      rw [e1, e2, if_pos rfl, if_neg h0, Nat.add_zero]
    · have e2 : upd f (100 * k + j) 0 (100 * k + m) = f (100 * k + m) := pk_un (by omega)
      rw [← ih (by omega), e2, Nat.add_right_comm]
theorem dig_out {f : Nat → Int64} {i : Nat} {v : Int64} : ∀ {n : Nat}, n ≤ i → dig (vp_updL f i v) n = dig f n := by
  intro n
  induction n with
  | zero => intro _; rfl
  | succ n ih =>
    intro h
    have e : vp_updL f i v n = f n := pk_uLn (by omega)
    simp only [dig]
    rw [ih (by omega), e]
/-! the class's ranges in the reference's words -/
theorem xcall_0 {c : Int32} (h : c < 0) : xf_isCall c = 0 := by simp only [xf_isCall, if_pos h]
theorem xcall_9 {c : Int32} (h0 : ¬ c < 0) (h : ¬ c ≤ 19) : xf_isCall c = 0 := by
  have : (20 : Int32) ≤ c := by
    rw [Int32.le_iff_toInt_le] at h ⊢
    have e1 : (19 : Int32).toInt = 19 := by decide
    have e2 : (20 : Int32).toInt = 20 := by decide
    omega
  simp only [xf_isCall, if_neg h0, if_pos this]
theorem xcall_1 {c : Int32} (h0 : ¬ c < 0) (h : c ≤ 19) : ¬ xf_isCall c = 0 := by
  have : ¬ (20 : Int32) ≤ c := by
    rw [Int32.le_iff_toInt_le] at h ⊢
    have e1 : (19 : Int32).toInt = 19 := by decide
    have e2 : (20 : Int32).toInt = 20 := by decide
    omega
  simp only [xf_isCall, if_neg h0, if_neg this]
  decide
theorem xkind_0 {c : Int32} (h : c < 0) : xf_isKind c = 0 := by simp only [xf_isKind, if_pos h]
theorem xkind_9 {c : Int32} (h0 : ¬ c < 0) (h : ¬ c ≤ 9) : xf_isKind c = 0 := by
  have : (10 : Int32) ≤ c := by
    rw [Int32.le_iff_toInt_le] at h ⊢
    have e1 : (9 : Int32).toInt = 9 := by decide
    have e2 : (10 : Int32).toInt = 10 := by decide
    omega
  simp only [xf_isKind, if_neg h0, if_pos this]
theorem xkind_1 {c : Int32} (h0 : ¬ c < 0) (h : c ≤ 9) : ¬ xf_isKind c = 0 := by
  have : ¬ (10 : Int32) ≤ c := by
    rw [Int32.le_iff_toInt_le] at h ⊢
    have e1 : (9 : Int32).toInt = 9 := by decide
    have e2 : (10 : Int32).toInt = 10 := by decide
    omega
  simp only [xf_isKind, if_neg h0, if_neg this]
  decide
theorem c_10 {c : Int32} (h : c ≤ 9) : c < 10 := by
  rw [Int32.le_iff_toInt_le] at h
  rw [Int32.lt_iff_toInt_lt]
  have e1 : (9 : Int32).toInt = 9 := by decide
  have e2 : (10 : Int32).toInt = 10 := by decide
  omega
theorem c_10n {c : Int32} (h : ¬ c ≤ 9) : ¬ c < 10 := by
  rw [Int32.le_iff_toInt_le] at h
  rw [Int32.lt_iff_toInt_lt]
  have e1 : (9 : Int32).toInt = 9 := by decide
  have e2 : (10 : Int32).toInt = 10 := by decide
  omega
theorem i_pos {x : Int32} (h0 : 0 ≤ x) (h : ¬ x = 0) : ¬ x ≤ 0 := by
  intro q
  rw [Int32.le_iff_toInt_le] at h0 q
  exact h (Int32.toInt_inj.mp (by omega))
/-- a number 1000 k + j, taken apart -/
theorem num_at {k j : Nat} (hk : k < 10) (hj : j ≤ 99) : nI (1000 * k + j) / 1000 = nI k ∧ nI (1000 * k + j) - nI (1000 * k + j) / 1000 * 1000 = nI j := by
  refine ⟨?_, ?_⟩
  · have := pk_div (a := 1000 * k + j) (d := 1000) (by omega) (by decide) (by decide)
    rw [show (1000 * k + j) / 1000 = k by omega] at this
    exact this
  · have := pk_rem (a := 1000 * k + j) (d := 1000) (by omega) (by decide) (by decide)
    rw [show (1000 * k + j) % 1000 = j by omega] at this
    exact this
/-- of a number that is one of a kind, the reference's isThere -/
theorem yth_at (w : YS) {k j : Nat} (hk : k < 10) (h1 : 1 ≤ j) (hj : j ≤ 99) : yf_isThere w (nI (1000 * k + j)) = if w.2.2.2.2.2.1 (100 * k + j) = 0 then 0 else 1 := by
  obtain ⟨y0, y1, y2, y3, y4, y5, y6, y7, y8, y9, y10, y11, y12⟩ := w
  obtain ⟨e1, e2⟩ := num_at hk hj
  have a0 : ¬ nI (1000 * k + j) ≤ 0 := nI_nle (by omega) (by omega)
  have a1 : ¬ (10000 : Int32) ≤ nI (1000 * k + j) := nI_ge (b := 10000) (by omega) (by decide)
  have a2 : ¬ (100 : Int32) ≤ nI j := nI_ge (b := 100) (by omega) (by decide)
  have a3 : (100 * nI k + nI j).toNatClampNeg = 100 * k + j := by
    rw [show (100 : Int32) = nI 100 from rfl, pk_mul, nI_add, nI_clamp (by omega)]
  simp only [yf_isThere, if_neg a0, if_neg a1]
  rw [e2, e1]
  simp only [if_neg a2, a3]
theorem there_eq {u : XS} {w : YS} (hR : Rel u w) (n : Int32) : xf_isThere u n = yf_isThere w n := by
  obtain ⟨y0, y1, y2, y3, y4, y5, y6, y7, y8, y9, y10, y11, y12, x1, x6, rfl, rfl, hI⟩ := hR
  by_cases hp : xf_placeOf n = (-1)
  · simp only [xf_isThere, if_pos hp]
    by_cases h0 : n ≤ 0
    · simp only [yf_isThere, if_pos h0]
    · by_cases h1 : (10000 : Int32) ≤ n
      · simp only [yf_isThere, if_neg h0, if_pos h1]
      · by_cases h2 : (100 : Int32) ≤ n - n / 1000 * 1000
        · simp only [yf_isThere, if_neg h0, if_neg h1, if_pos h2]
        · obtain ⟨a, ha0, ha1, e, e1, e2⟩ := yt_of h0 h1
          have h2' : a % 1000 < 100 := by
            rw [e1, show (100 : Int32) = nI 100 from rfl, nI_leI (by decide) (by omega)] at h2
            omega
          have hz : a % 1000 = 0 := by
            rw [e, xpl_eq (by omega)] at hp
            by_cases hc : a / 1000 < 10 ∧ 1 ≤ a % 1000 ∧ a % 1000 ≤ 99
            · rw [if_pos hc] at hp
              exact absurd hp (fun q => absurd (nI_pos' (n := a / 1000 * 100 + a % 1000) (by omega)) (by rw [q]; decide))
            · omega
          have hk : a / 1000 < 10 := by omega
          obtain ⟨-, -, -, z0, -⟩ := hI.2.1 (a / 1000) hk
          have a3 : (100 * nI (a / 1000) + nI (a % 1000)).toNatClampNeg = 100 * (a / 1000) := by
            rw [hz, show (100 : Int32) = nI 100 from rfl, pk_mul, nI_add, nI_clamp (by omega)]
            rfl
          simp only [yf_isThere, if_neg h0, if_neg h1, if_neg h2]
          rw [e1, e2, a3, if_pos z0]
  · obtain ⟨k, j, hk, h1, h9, e, ep⟩ := xpl_of hp
    have a3 : (nI (100 * k + j)).toNatClampNeg = 100 * k + j := nI_clamp (by omega)
    simp only [xf_isThere, if_neg hp]
    rw [ep, a3, e]
    exact (yth_at (y0, y1, y2, y3, y4, y5, y6, y7, y8, y9, y10, y11, y12) hk h1 h9).symm
