-- what was told, what is covered, which marks are turned
theorem mk_in30 {i : Nat} (hi : i < 30) : 0 ≤ (nI i).toInt ∧ (nI i).toInt < 30 := by
  rw [nI_toInt (by omega)]
  omega
theorem mk_in72 {i : Nat} (hi : i < 72) : 0 ≤ (nI i).toInt ∧ (nI i).toInt < 72 := by
  rw [nI_toInt (by omega)]
  omega
theorem mk_in7 {i : Nat} (hi : i < 7) : 0 ≤ (nI i).toInt ∧ (nI i).toInt < 7 := by
  rw [nI_toInt (by omega)]
  omega
theorem mk_m9 {g c w n k d d2 a σ} (h : mk_J g c w n k d d2 a σ) {i : Nat} (hi : i < k) : f_X5_heightOf σ (nI i) = some (σ.1 36 i) ∧ f_X5_wayOf σ (nI i) = some (σ.1 39 i) ∧ f_X5_monthOf σ (nI i) = some (σ.1 38 i) ∧ f_X5_nameOf σ (nI i) = some (σ.1 37 i) := by
  have hk := h.hk
  have hb := mk_in30 (i := i) (by omega)
  have hcl : (nI i).toNatClampNeg = i := nI_clamp (by omega)
  have hh : ¬ f_X5_has σ (nI i) = 0 := by
    rw [mk_has5 h]
    exact mk_btn (by rw [nI_toInt (by omega)]; omega)
  unfold f_X5_heightOf f_X5_wayOf f_X5_monthOf f_X5_nameOf
  simp only [if_neg hh, if_pos hb, hcl, and_self]
theorem mk_cov {g c w n k d d2 a σ} (h : mk_J g c w n k d d2 a σ) {i : Nat} (hi : i < k) : ∃ v, f_X5_isCovered σ (nI i) = some v ∧ f_X10_isCovered σ (nI i) = some v ∧ (v = 0 ∨ v = 1) := by
  have hk := h.hk
  have hb := mk_in30 (i := i) (by omega)
  have hcl : (nI i).toNatClampNeg = i := nI_clamp (by omega)
  obtain ⟨q, hq, q1, q2⟩ := h.ahead
  unfold f_X5_isCovered f_X10_isCovered
  rw [(mk_m9 h hi).2.2.1, if_pos hb, if_pos hb, if_pos hb, hcl, ← (h.mark i hi).month, q1, q2 i hi, h.painted]
  show ∃ v, (if σ.1 38 i = 600 then if nI q ≤ nI i then some 0 else some 1 else if σ.1 64 30 < σ.1 38 i then some 0 else some 1) = some v ∧ (if σ.1 38 i = 600 then some (mj_zb (if i < q then 1 else 0)) else if σ.1 64 30 < σ.1 38 i then some 0 else some 1) = some v ∧ (v = 0 ∨ v = 1)
  by_cases h1 : σ.1 38 i = 600
  · simp only [if_pos h1]
    by_cases h2 : i < q
    · exact ⟨1, by rw [if_neg (nI_ge h2 (by omega))], by rw [if_pos h2]; rfl, .inr rfl⟩
    · exact ⟨0, by rw [if_pos (nI_le (by omega) (by omega))], by rw [if_neg h2]; rfl, .inl rfl⟩
  · simp only [if_neg h1]
    by_cases h2 : σ.1 64 30 < σ.1 38 i
    · exact ⟨0, if_pos h2, if_pos h2, .inl rfl⟩
    · exact ⟨1, if_neg h2, if_neg h2, .inr rfl⟩
theorem mk_t9 {g c w n k d d2 a σ} (h : mk_J g c w n k d d2 a σ) {j : Nat} (hj : j < c) : f_X2_told σ (nI j) 0 = some (σ.1 10 j) ∧ f_X2_told σ (nI j) 1 = some (σ.1 11 j) ∧ f_X2_told σ (nI j) 2 = some (σ.1 12 j) ∧ f_X2_told σ (nI j) 3 = some (σ.1 13 j) ∧ f_X2_told σ (nI j) 4 = some (σ.1 14 j) := by
  have hc := h.hc
  have hb := mk_in6 (e := j) (by omega)
  have hcl : (nI j).toNatClampNeg = j := nI_clamp (by omega)
  have hh : ¬ f_X2_has σ (nI j) = 0 := by
    rw [mk_has2 h]
    exact mk_btn (by rw [nI_toInt (by omega)]; omega)
  unfold f_X2_told
  simp only [if_neg hh, if_pos hb, hcl]
  exact ⟨rfl, rfl, rfl, rfl, rfl⟩
theorem mk_five {x : Int32} (h : 0 ≤ x.toInt ∧ x.toInt ≤ 4) : x = 0 ∨ x = 1 ∨ x = 2 ∨ x = 3 ∨ x = 4 := by
  have hx := mk_ofNN h.1
  have hm : x.toInt.toNat = 0 ∨ x.toInt.toNat = 1 ∨ x.toInt.toNat = 2 ∨ x.toInt.toNat = 3 ∨ x.toInt.toNat = 4 := by omega
  rcases hm with q | q | q | q | q <;> rw [q] at hx
  · exact .inl hx
  · exact .inr (.inl hx)
  · exact .inr (.inr (.inl hx))
  · exact .inr (.inr (.inr (.inl hx)))
  · exact .inr (.inr (.inr (.inr hx)))
theorem op_of (σ : mj_S) (x0 x1 : Int32) : mk_I σ → ∃ (v : Int32) (σ1 σ2 : mj_S), (f_X9_of σ x0 x1 = some v ∧ σ1 = σ) ∧ (f_X10_of σ1 x0 x1 = some v ∧ σ2 = σ1) ∧ mk_I σ2 := by
  rintro ⟨g, c, w, n, k, d, d2, a, h⟩
  have hI : mk_I σ := ⟨g, c, w, n, k, d, d2, a, h⟩
  have hk := h.hk
  have hc := h.hc
  refine mk_six (f9 := fun σ => f_X9_of σ x0 x1) (f10 := fun σ => f_X10_of σ x0 x1) hI ?_
  have e0 : (0 : Int32).toInt = 0 := rfl
  have e4 : (4 : Int32).toInt = 4 := rfl
  have e10 : (10 : Int32).toInt = 10 := rfl
  have e14 : (14 : Int32).toInt = 14 := rfl
  have f0 : (0 : Int64).toInt = 0 := rfl
  have f4 : (4 : Int64).toInt = 4 := rfl
  have f10 : (10 : Int64).toInt = 10 := rfl
  have f14 : (14 : Int64).toInt = 14 := rfl
  simp only [f_X9_of, f_X10_of, b_X9_of_30, mk_w9, mk_lit64, e0, e4, e10, e14, f0, f4, f10, f14, mk_has5 h, mk_has2 h, mk_mark10 h, mk_child10 h]
  by_cases h1 : mk_bt x1.toInt 0 4 = 0
  · simp only [if_pos h1]
    by_cases h2 : mk_bt x1.toInt 10 14 = 0
    · exact ⟨_, by rw [if_pos h2], by rw [if_pos h2]⟩
    simp only [if_neg h2]
    by_cases h3 : mk_bt x0.toInt 0 (c - 1) = 0
    · exact ⟨_, by rw [if_pos h3], by rw [if_pos h3]⟩
    simp only [if_neg h3]
    obtain ⟨j, hj, rfl⟩ := mk_bt_of (x := x0) (n := c) (mk_in_of h3) (by omega)
    have hb := mk_in7 (i := j) (by omega)
    have hb72 := mk_in72 (i := j) (by omega)
    have hcl : (nI j).toNatClampNeg = j := nI_clamp (by omega)
    have kd := h.kid j hj
    have h2' := mk_in_of h2
    have tt := mk_t9 h hj
    have hx : x1 - 10 = 0 ∨ x1 - 10 = 1 ∨ x1 - 10 = 2 ∨ x1 - 10 = 3 ∨ x1 - 10 = 4 := by
      apply mk_five
      rw [mk_sub (by rw [e10]; omega) (by rw [e10]; omega), e10]
      omega
    have hy : x1 = (x1 - 10) + 10 := (Int32.sub_add_cancel x1 10).symm
    unfold f_X10_ofChild
    simp only [if_pos hb, if_pos hb72, hcl]
    have e6 : 6 + nI j = nI (6 + j) := nI_add 6 j
    rcases hx with q | q | q | q | q <;> rw [q] at hy <;> rw [q]
    · have hz : x1 = 10 := hy
      rw [hz]
      exact ⟨σ.1 10 j, by rw [tt.1]; rfl, by rw [if_pos rfl, ← kd.born]; rfl⟩
    · have hz : x1 = 11 := hy
      rw [hz]
      exact ⟨σ.1 11 j, by rw [tt.2.1]; rfl, by rw [if_neg (by decide), if_pos rfl, ← kd.sex]; rfl⟩
    · have hz : x1 = 12 := hy
      rw [hz]
      exact ⟨σ.1 12 j, by rw [tt.2.2.1]; rfl, by rw [if_neg (by decide), if_neg (by decide), if_pos rfl, ← kd.length]; rfl⟩
    · have hz : x1 = 13 := hy
      rw [hz]
      exact ⟨σ.1 13 j, by rw [tt.2.2.2.1]; rfl, by rw [if_neg (by decide), if_neg (by decide), if_neg (by decide), if_pos rfl, ← kd.late]; rfl⟩
    · have hz : x1 = 14 := hy
      rw [hz]
      refine ⟨σ.1 14 j, by rw [tt.2.2.2.2]; rfl, ?_⟩
      rw [if_neg (by decide), if_neg (by decide), if_neg (by decide), if_neg (by decide), e6, if_pos (mk_in72 (by omega)), nI_clamp (by omega), ← kd.parents]
      rfl
  · simp only [if_neg h1]
    have h1' := mk_in_of h1
    by_cases h2 : mk_bt x0.toInt 0 (k - 1) = 0
    · have h3 : mk_bt x1.toInt 10 14 = 0 := mk_bt0.mpr (by omega)
      exact ⟨_, by rw [if_pos h2, if_pos h3], by rw [if_pos h2]⟩
    simp only [if_neg h2]
    obtain ⟨i, hi, rfl⟩ := mk_bt_of (x := x0) (n := k) (mk_in_of h2) (by omega)
    have hb := mk_in30 (i := i) (by omega)
    have hcl : (nI i).toNatClampNeg = i := nI_clamp (by omega)
    have kd := h.mark i hi
    have tt := mk_m9 h hi
    have e12 : 12 + nI i = nI (12 + i) := nI_add 12 i
    have e42 : 42 + nI i = nI (42 + i) := nI_add 42 i
    unfold f_X5_told f_X10_ofMark
    simp only [if_pos hb, hcl, e12, e42, if_pos (mk_in72 (show 12 + i < 72 by omega)), if_pos (mk_in72 (show 42 + i < 72 by omega)), nI_clamp (show 12 + i < 2 ^ 31 by omega), nI_clamp (show 42 + i < 2 ^ 31 by omega)]
    rcases mk_five h1' with rfl | rfl | rfl | rfl | rfl
    · exact ⟨σ.1 36 i, by rw [if_pos rfl, tt.1]; rfl, by rw [if_pos rfl, ← kd.height]; rfl⟩
    · exact ⟨σ.1 37 i, by rw [if_neg (by decide), if_pos rfl, tt.2.2.2]; rfl, by rw [if_neg (by decide), if_pos rfl, ← kd.name]; rfl⟩
    · exact ⟨σ.1 38 i, by rw [if_neg (by decide), if_neg (by decide), if_pos rfl, tt.2.2.1]; rfl, by rw [if_neg (by decide), if_neg (by decide), if_pos rfl, ← kd.month]; rfl⟩
    · exact ⟨σ.1 39 i, by rw [if_neg (by decide), if_neg (by decide), if_neg (by decide), if_pos rfl, tt.2.1]; rfl, by rw [if_neg (by decide), if_neg (by decide), if_neg (by decide), if_pos rfl, ← kd.way]; rfl⟩
    · obtain ⟨v, v1, v2, v3⟩ := mk_cov h hi
      rw [if_neg (by decide), if_neg (by decide), if_neg (by decide), if_neg (by decide), if_pos rfl, if_neg (by decide), if_neg (by decide), if_neg (by decide), if_neg (by decide), v1, v2]
      rcases v3 with rfl | rfl
      · exact ⟨0, rfl, rfl⟩
      · exact ⟨1, rfl, rfl⟩
def mk_P (σ : mj_S) : Nat → mj_S
  | 0 => σ
  | i + 1 => mj_sI (mk_P σ i) 81 i 1
theorem mk_Pc (σ : mj_S) {x : Nat} (hx : x ≠ 81) : ∀ i, (mk_P σ i).1 x = σ.1 x
  | 0 => rfl
  | i + 1 => by
    rw [← mk_Pc σ hx i]
    funext y
    show (mj_sI (mk_P σ i) 81 i 1).1 x y = _
    rw [mk_g, if_neg (fun q => hx q.1)]
theorem mk_PL (σ : mj_S) : ∀ i, (mk_P σ i).2 = σ.2
  | 0 => rfl
  | i + 1 => mk_PL σ i
theorem mk_P81 (σ : mj_S) : ∀ i j, j < i → (mk_P σ i).1 81 j = 1
  | 0, j, h => absurd h (by omega)
  | i + 1, j, h => by
    show (if j = i then 1 else (mk_P σ i).1 81 j) = 1
    by_cases hj : j = i
    · rw [if_pos hj]
    · rw [if_neg hj]
      exact mk_P81 σ i j (by omega)
theorem mk_paintLoop {k : Nat} (hk : k ≤ 30) (α τ : mj_S) (hα : α.1 35 4 = nI k) (hτ : τ.1 64 26 = nI k) (hc : ∀ i, i < k → ∃ v, f_X5_isCovered α (nI i) = some v ∧ f_X10_isCovered (mk_P τ (i + 1)) (nI i) = some v) :
    ∀ (f i : Nat) (v : Int32), k < f + i → i ≤ k → ∃ x, b_X5_covered_4 α f v (nI i) = some x ∧ b_X10_paint_33 f v (nI i) (mk_P τ i) = some (x, mk_P τ k)
  | 0, i, v, hf, hi => absurd hf (by omega)
  | f + 1, i, v, hf, hi => by
    unfold b_X5_covered_4 b_X10_paint_33
    have n26 : (mk_P τ i).1 64 26 = nI k := by
      rw [mk_Pc τ (by omega) i]
      exact hτ
    rw [hα, n26]
    by_cases hik : i = k
    · exact ⟨v, by rw [if_pos (by rw [hik]; exact nI_le (by omega) (by omega))], by rw [if_pos (by rw [hik]; exact nI_le (by omega) (by omega)), hik]⟩
    · obtain ⟨u, u1, u2⟩ := hc i (by omega)
      rw [if_neg (nI_ge (by omega) (by omega)), if_neg (nI_ge (by omega) (by omega)), if_pos (mk_in30 (by omega)), nI_clamp (by omega), u1]
      show ∃ x, (if u = 0 then b_X5_covered_4 α f v (nI i + 1) else b_X5_covered_4 α f (v + 1) (nI i + 1)) = some x ∧ ((f_X10_isCovered (mk_P τ (i + 1)) (nI i)).bind fun r5 => if r5 = 0 then b_X10_paint_33 f (v + 0) (nI i + 1) (mk_P τ (i + 1)) else b_X10_paint_33 f (v + 1) (nI i + 1) (mk_P τ (i + 1))) = some (x, mk_P τ k)
      rw [u2, nI_1]
      show ∃ x, _ ∧ (if u = 0 then b_X10_paint_33 f (v + 0) (nI (i + 1)) (mk_P τ (i + 1)) else b_X10_paint_33 f (v + 1) (nI (i + 1)) (mk_P τ (i + 1))) = some (x, mk_P τ k)
      by_cases hu : u = 0
      · rw [if_pos hu, if_pos hu, Int32.add_zero]
        exact mk_paintLoop hk α τ hα hτ hc f (i + 1) v (by omega) (by omega)
      · rw [if_neg hu, if_neg hu]
        exact mk_paintLoop hk α τ hα hτ hc f (i + 1) (v + 1) (by omega) (by omega)
theorem op_paint (σ : mj_S) (x0 : Int32) : mk_I σ → ∃ (v : Int32) (σ1 σ2 : mj_S), f_X9_paint σ x0 = some (v, σ1) ∧ f_X10_paint σ1 x0 = some (v, σ2) ∧ mk_I σ2 := by
  rintro ⟨g, c, w, n, k, d, d2, a, h⟩
  have hI : mk_I σ := ⟨g, c, w, n, k, d, d2, a, h⟩
  have hk := h.hk
  unfold f_X9_paint f_X10_paint
  simp only [mk_month9, mk_month10]
  by_cases h1 : mk_bt x0.toInt 0 599 = 0
  · exact ⟨-1, σ, σ, by rw [if_pos h1], by rw [if_pos h1], hI⟩
  simp only [if_neg h1]
  have pt : ∃ t, t = mj_max (σ.1 35 5) x0 := ⟨_, rfl⟩
  obtain ⟨t, ht⟩ := pt
  have e9 : f_X5_cover σ x0 = mj_sI (mj_sI σ 35 5 t) 35 6 (nI k) := by
    unfold f_X5_cover
    rw [ht, h.k35]
  obtain ⟨α, hα⟩ : ∃ α, α = mj_sI (mj_sI σ 35 5 t) 35 6 (nI k) := ⟨_, rfl⟩
  obtain ⟨τ, hτ⟩ : ∃ τ, τ = mj_sI α 64 30 t := ⟨_, rfl⟩
  have e10 : (if x0 ≤ α.1 64 30 then b_X10_paint_26 (α.1 64 30) α else b_X10_paint_26 x0 α) = b_X10_paint_33 mj_fu 0 0 τ := by
    have hp : α.1 64 30 = σ.1 35 5 := by
      rw [hα]
      exact h.painted.symm
    rw [hp, hτ]
    by_cases hx : x0 ≤ σ.1 35 5
    · have : t = σ.1 35 5 := by
        rw [ht]
        unfold mj_max
        rw [if_neg (by rw [mk_ltt]; rw [mk_lee] at hx; omega)]
      rw [if_pos hx, this]
      rfl
    · have : t = x0 := by
        rw [ht]
        unfold mj_max
        rw [if_pos (by rw [mk_ltt]; rw [mk_lee] at hx; omega)]
      rw [if_neg hx, this]
      rfl
  have α35 : α.1 35 4 = nI k := by rw [hα]; exact h.k35
  have τ64 : τ.1 64 26 = nI k := by rw [hτ, hα]; exact h.k64
  have hP : mk_P τ k = mj_sR τ 81 ((mk_P τ k).1 81) := by
    refine Prod.ext ?_ (mk_PL τ k)
    funext x
    show (mk_P τ k).1 x = if x = 81 then (mk_P τ k).1 81 else τ.1 x
    by_cases hx : x = 81
    · rw [if_pos hx, hx]
    · rw [if_neg hx, mk_Pc τ hx k]
  have f3 : ∀ j, j < k → (mk_P τ k).1 81 j = 1 := fun j hj => mk_P81 τ k j hj
  have hc : ∀ i, i < k → ∃ v, f_X5_isCovered α (nI i) = some v ∧ f_X10_isCovered (mk_P τ (i + 1)) (nI i) = some v := by
    intro i hi
    have hb := mk_in30 (i := i) (by omega)
    have hcl : (nI i).toNatClampNeg = i := nI_clamp (by omega)
    have hm : f_X5_monthOf α (nI i) = some (σ.1 38 i) := by
      rw [hα]
      exact (mk_m9 h hi).2.2.1
    have a6 : α.1 35 6 = nI k := by rw [hα]; rfl
    have a5 : α.1 35 5 = t := by rw [hα]; rfl
    have b30 : (mk_P τ (i + 1)).1 64 30 = t := by
      rw [mk_Pc τ (by omega), hτ]
      rfl
    have b80 : (mk_P τ (i + 1)).1 80 i = σ.1 38 i := by
      rw [mk_Pc τ (by omega), hτ, hα]
      exact (h.mark i hi).month.symm
    unfold f_X5_isCovered f_X10_isCovered
    rw [hm, if_pos hb, if_pos hb, if_pos hb, hcl, b80, b30, mk_P81 τ (i + 1) i (by omega)]
    show ∃ v, (if σ.1 38 i = 600 then if α.1 35 6 ≤ nI i then some 0 else some 1 else if α.1 35 5 < σ.1 38 i then some 0 else some 1) = some v ∧ _
    rw [a6, a5]
    by_cases c1 : σ.1 38 i = 600
    · exact ⟨1, by rw [if_pos c1, if_neg (nI_ge hi (by omega))], by rw [if_pos c1]; rfl⟩
    · rw [if_neg c1, if_neg c1]
      by_cases c2 : t < σ.1 38 i
      · exact ⟨0, if_pos c2, if_pos c2⟩
      · exact ⟨1, if_neg c2, if_neg c2⟩
  obtain ⟨x, x9, x10⟩ := mk_paintLoop hk α τ α35 τ64 hc 5000 0 0 (by omega) (by omega)
  refine ⟨x, α, mk_P τ k, ?_, ?_, ?_⟩
  · rw [e9, ← hα]
    show (b_X5_covered_4 α mj_fu 0 0).bind _ = _
    have x9' : b_X5_covered_4 α mj_fu 0 0 = some x := x9
    rw [x9']
    rfl
  · rw [e10]
    exact x10
  · rw [hP, hτ, hα]
    rw [hτ, hα] at f3
    exact ⟨g, c, w, n, k, d, d2, a, (mk_J.mk (hc := h.hc) (c9 := h.c9) (c64 := h.c64) (kid := h.kid) (hw := h.hw) (w9 := h.w9) (w64 := h.w64) (want := h.want) (noWant := h.noWant) (hn := h.hn) (n5 := h.n5) (n64 := h.n64) (tape := h.tape) (bytes := h.bytes) (law := h.law) (stale := h.stale) (rows := h.rows) (rowsM := h.rowsM) (grown := h.grown) (hk := h.hk) (k35 := h.k35) (k64 := h.k64) (mark := h.mark) (hd := h.hd) (hd2 := h.hd2) (d45 := h.d45) (d64 := h.d64) (e45 := h.e45) (e64 := h.e64) (chg := h.chg) (ha := h.ha) (a50 := h.a50) (a64 := h.a64) (body := h.body) (ran := h.ran) (trace := h.trace) (shelf := h.shelf)
     (painted := rfl)
     (ahead := ⟨k, by omega, rfl, fun i hi => by
        rw [if_pos hi]
        exact f3 i hi⟩))⟩
-- turned
theorem mk_isTurned {g c w n k d d2 a σ} (h : mk_J g c w n k d d2 a σ) {i : Nat} (hi : i < k) (p : Int32) : ∃ v, f_X5_isTurned σ (nI i) p = some v ∧ (σ.1 79 i = p → ¬ (600 : Int32) ≤ σ.1 80 i → f_X10_isTurned σ (nI i) = some v) ∧ ((σ.1 79 i = p → (600 : Int32) ≤ σ.1 80 i) → v = 0) := by
  have hk := h.hk
  have told : ∀ j, j < k → f_X5_isToldOf σ (nI j) p = some (if σ.1 79 j = p ∧ ¬ (600 : Int32) ≤ σ.1 80 j then 1 else 0) := by
    intro j hj
    unfold f_X5_isToldOf
    rw [(mk_m9 h hj).2.2.2, (mk_m9 h hj).2.2.1]
    have hm := (h.mark j hj)
    obtain ⟨q, hq, eq⟩ := hm.rm
    have l6 : (σ.1 38 j = 600) = ((600 : Int32) ≤ σ.1 38 j) := by
      rw [eq]
      refine propext ⟨fun x => ?_, fun x => ?_⟩
      · rw [x]
        exact Int32.le_refl _
      · have := (nI_leI (a := 600) (b := q) (by omega) (by omega)).mp x
        have : q = 600 := by omega
        rw [this]
        rfl
    rw [← hm.name, ← hm.month]
    show (if σ.1 37 j = p then if σ.1 38 j = 600 then some 0 else some 1 else some 0) = _
    simp only [l6]
    by_cases c1 : σ.1 37 j = p
    · rw [if_pos c1]
      by_cases c2 : (600 : Int32) ≤ σ.1 38 j
      · rw [if_pos c2, if_neg (fun x => x.2 c2)]
      · rw [if_neg c2, if_pos ⟨c1, c2⟩]
    · rw [if_neg c1, if_neg (fun x => c1 x.1)]
  unfold f_X5_isTurned f_X10_isTurned
  rw [told i hi]
  by_cases hg : σ.1 79 i = p ∧ ¬ (600 : Int32) ≤ σ.1 80 i
  · rw [if_pos hg]
    have loop : ∀ (f j : Nat), k < f + j → j ≤ k → ∃ v, b_X5_isTurned_13 σ f (nI i) p (nI j) = some v ∧ b_X10_isTurned_2 σ f (nI i) (nI j) = some v := by
      intro f
      induction f with
      | zero => intro j hf hj; exact absurd hf (by omega)
      | succ f ih =>
        intro j hf hj
        unfold b_X5_isTurned_13 b_X10_isTurned_2
        rw [h.k35, h.k64]
        by_cases hjk : j = k
        · exact ⟨0, by rw [if_pos (by rw [hjk]; exact nI_le (by omega) (by omega))], by rw [if_pos (by rw [hjk]; exact nI_le (by omega) (by omega))]⟩
        have hj2 : j < k := by omega
        have tj := mk_m9 h hj2
        have ti := mk_m9 h hi
        have mj := h.mark j hj2
        have mi := h.mark i hi
        have e1 : 12 + nI i = nI (12 + i) := nI_add 12 i
        have e2 : 12 + nI j = nI (12 + j) := nI_add 12 j
        have hng : ¬ nI k ≤ nI j := nI_ge hj2 (by omega)
        have hnext : ∃ v, b_X5_isTurned_13 σ f (nI i) p (nI j + 1) = some v ∧ b_X10_isTurned_2 σ f (nI i) (nI j + 1) = some v := by
          rw [nI_1]
          exact ih (j + 1) (by omega) (by omega)
        have b1 := mk_in30 (i := j) (by omega)
        have b2 := mk_in30 (i := i) (by omega)
        have c1 : (nI j).toNatClampNeg = j := nI_clamp (by omega)
        have c2 : (nI i).toNatClampNeg = i := nI_clamp (by omega)
        have c3 : (nI (12 + i)).toNatClampNeg = 12 + i := nI_clamp (by omega)
        have c4 : (nI (12 + j)).toNatClampNeg = 12 + j := nI_clamp (by omega)
        rw [if_neg hng, if_neg hng, told j hj2, if_pos b1, if_pos b2, if_pos b1, if_pos b2, e1, e2, if_pos (mk_in72 (show 12 + i < 72 by omega)), if_pos (mk_in72 (show 12 + j < 72 by omega)), c1, c2, c3, c4, tj.2.2.1, ti.2.2.1, tj.1, ti.1, hg.1, ← mj.month, ← mi.month, ← mj.height, ← mi.height]
        rw [← mi.month] at hg
        rw [← mj.name]
        by_cases q1 : σ.1 37 j = p
        · rw [if_pos q1]
          by_cases q2 : σ.1 38 i ≤ σ.1 38 j
          · rw [if_pos q2]
            by_cases q3 : (600 : Int32) ≤ σ.1 38 j
            · rw [if_neg (fun x => x.2 q3)]
              exact hnext
            · rw [if_pos ⟨q1, q3⟩]
              show ∃ v, (if σ.1 38 i ≤ σ.1 38 j then b_X5_isTurned_13 σ f (nI i) p (nI j + 1) else _) = some v ∧ _
              rw [if_pos q2]
              exact hnext
          · rw [if_neg q2]
            have q3 : ¬ (600 : Int32) ≤ σ.1 38 j := by
              have hg2 := hg.2
              rw [mk_lee] at q2 hg2 ⊢
              omega
            rw [if_pos ⟨q1, q3⟩]
            show ∃ v, (if σ.1 38 i ≤ σ.1 38 j then _ else if σ.1 36 j < σ.1 36 i then b_X5_isTurned_13 σ f (nI i) p (nI j + 1) else some 1) = some v ∧ _
            rw [if_neg q2]
            by_cases q4 : σ.1 36 j < σ.1 36 i
            · rw [if_pos q4, if_pos q4]
              exact hnext
            · rw [if_neg q4, if_neg q4]
              exact ⟨1, rfl, rfl⟩
        · rw [if_neg q1, if_neg (fun x => q1 x.1)]
          exact hnext
    obtain ⟨v, v1, v2⟩ := loop mj_fu 0 (by show k < 5000 + 0; omega) (by omega)
    rw [nI_0] at v1 v2
    refine ⟨v, v1, fun _ _ => v2, fun x => absurd (x hg.1) hg.2⟩
  · rw [if_neg hg]
    refine ⟨0, rfl, fun x y => absurd ⟨x, y⟩ hg, fun _ => rfl⟩
/-- the count, and the lowest, of the marks with t told -/
def mk_cnt (t : Nat → Int32) : Nat → Int32
  | 0 => 0
  | i + 1 => mk_cnt t i + (if t i = 0 then 0 else 1)
def mk_low (t : Nat → Int32) : Nat → Int32 → Int32
  | 0, v => v
  | i + 1, v => mk_low t i (if t i = 0 then v else nI i)
theorem mk_low_none (t : Nat → Int32) : ∀ i v, (∀ j, j < i → t j = 0) → mk_low t i v = v
  | 0, v, _ => rfl
  | i + 1, v, h => by
    show mk_low t i (if t i = 0 then v else nI i) = v
    rw [if_pos (h i (by omega))]
    exact mk_low_none t i v (fun j hj => h j (by omega))
theorem mk_low_some (t : Nat → Int32) {i : Nat} (hi : t i ≠ 0) (hl : ∀ j, j < i → t j = 0) : ∀ k v, i < k → mk_low t k v = nI i
  | 0, v, h => absurd h (by omega)
  | k + 1, v, h => by
    show mk_low t k (if t k = 0 then v else nI k) = nI i
    by_cases hik : i = k
    · rw [if_neg (by rw [← hik]; exact hi), ← hik]
      exact mk_low_none t i _ hl
    · exact mk_low_some t hi hl k _ (by omega)
theorem op_turned (σ : mj_S) (x0 x1 : Int32) : mk_I σ → ∃ (v : Int32) (σ1 σ2 : mj_S), (f_X9_turned σ x0 x1 = some v ∧ σ1 = σ) ∧ (f_X10_turned σ1 x0 x1 = some v ∧ σ2 = σ1) ∧ mk_I σ2 := by
  rintro ⟨g, c, w, n, k, d, d2, a, h⟩
  have hI : mk_I σ := ⟨g, c, w, n, k, d, d2, a, h⟩
  have hk := h.hk
  have hc := h.hc
  refine mk_six (f9 := fun σ => f_X9_turned σ x0 x1) (f10 := fun σ => f_X10_turned σ x0 x1) hI ?_
  have e0 : (0 : Int32).toInt = 0 := rfl
  have e1 : (1 : Int32).toInt = 1 := rfl
  have f0 : (0 : Int64).toInt = 0 := rfl
  have f1 : (1 : Int64).toInt = 1 := rfl
  simp only [f_X9_turned, f_X10_turned, mk_w9, mk_lit64, e0, e1, f0, f1, mk_has2 h, mk_child10 h]
  by_cases h1 : mk_bt x0.toInt 0 (c - 1) = 0
  · exact ⟨_, by rw [if_pos h1], by rw [if_pos h1]⟩
  by_cases h2 : mk_bt x1.toInt 0 1 = 0
  · exact ⟨_, by rw [if_neg h1, if_pos h2], by rw [if_neg h1, if_pos h2]⟩
  simp only [if_neg h1, if_neg h2]
  obtain ⟨t, ht⟩ : ∃ t : Nat → Int32, ∀ i, i < k → f_X5_isTurned σ (nI i) x0 = some (t i) ∧ (σ.1 79 i = x0 → ¬ (600 : Int32) ≤ σ.1 80 i → f_X10_isTurned σ (nI i) = some (t i)) ∧ ((σ.1 79 i = x0 → (600 : Int32) ≤ σ.1 80 i) → t i = 0) := by
    refine ⟨fun i => if hi : i < k then (mk_isTurned h hi x0).choose else 0, fun i hi => ?_⟩
    have := (mk_isTurned h hi x0).choose_spec
    simp only [dif_pos hi]
    exact this
  have step10 : ∀ (f i : Nat) (v3 v4 : Int32), i < k → b_X10_turned_34 σ (f + 1) x0 x1 v3 v4 (nI i) = b_X10_turned_34 σ f x0 x1 (v3 + (if t i = 0 then 0 else 1)) (if t i = 0 then v4 else nI i) (nI i + (-1)) := by
    intro f i v3 v4 hi
    have hb := mk_in30 (i := i) (by omega)
    have hcl : (nI i).toNatClampNeg = i := nI_clamp (by omega)
    show (if nI i < 0 then _ else if 0 ≤ (nI i).toInt ∧ (nI i).toInt < 30 then if σ.1 79 (nI i).toNatClampNeg = x0 then if 0 ≤ (nI i).toInt ∧ (nI i).toInt < 30 then if (600 : Int32) ≤ σ.1 80 (nI i).toNatClampNeg then b_X10_turned_34 σ f x0 x1 v3 v4 (nI i + (-1)) else (f_X10_isTurned σ (nI i)).bind fun r9 => if r9 = 0 then b_X10_turned_34 σ f x0 x1 v3 v4 (nI i + (-1)) else b_X10_turned_34 σ f x0 x1 (v3 + 1) (nI i) (nI i + (-1)) else none else b_X10_turned_34 σ f x0 x1 v3 v4 (nI i + (-1)) else none) = _
    rw [if_neg (nI_pos (by omega)), if_pos hb, if_pos hb, hcl]
    have tz : t i = 0 → b_X10_turned_34 σ f x0 x1 v3 v4 (nI i + (-1)) = b_X10_turned_34 σ f x0 x1 (v3 + (if t i = 0 then 0 else 1)) (if t i = 0 then v4 else nI i) (nI i + (-1)) := by
      intro q
      rw [if_pos q, if_pos q, Int32.add_zero]
    by_cases c1 : σ.1 79 i = x0
    · rw [if_pos c1]
      by_cases c2 : (600 : Int32) ≤ σ.1 80 i
      · rw [if_pos c2]
        exact tz ((ht i hi).2.2 (fun _ => c2))
      · rw [if_neg c2, (ht i hi).2.1 c1 c2]
        by_cases c3 : t i = 0
        · show (if t i = 0 then b_X10_turned_34 σ f x0 x1 v3 v4 (nI i + (-1)) else _) = _
          rw [if_pos c3]
          exact tz c3
        · show (if t i = 0 then _ else b_X10_turned_34 σ f x0 x1 (v3 + 1) (nI i) (nI i + (-1))) = _
          rw [if_neg c3, if_neg c3, if_neg c3]
    · rw [if_neg c1]
      exact tz ((ht i hi).2.2 (fun x => absurd x c1))
  have loop10 : ∀ (i f : Nat) (v3 v4 : Int32), i ≤ k → i < f → b_X10_turned_34 σ f x0 x1 v3 v4 (nI i + (-1)) = if x1 = 0 then some (v3 + mk_cnt t i) else some (mk_low t i v4) := by
    intro i
    induction i with
    | zero =>
      intro f v3 v4 _ hf
      obtain ⟨f, rfl⟩ : ∃ f', f = f' + 1 := ⟨f - 1, by omega⟩
      show (if (nI 0 + (-1)) < 0 then if x1 = 0 then some v3 else some v4 else _) = if x1 = 0 then some (v3 + 0) else some v4
      rw [if_pos (by decide), Int32.add_zero]
    | succ i ih =>
      intro f v3 v4 hi hf
      obtain ⟨f, rfl⟩ : ∃ f', f = f' + 1 := ⟨f - 1, by omega⟩
      have e : nI (i + 1) + (-1) = nI i := by
        rw [← nI_pred i, Int32.sub_eq_add_neg]
      rw [e, step10 f i v3 v4 (by omega), ih f _ _ (by omega) (by omega)]
      show _ = if x1 = 0 then some (v3 + (mk_cnt t i + if t i = 0 then 0 else 1)) else some (mk_low t i (if t i = 0 then v4 else nI i))
      rw [Int32.add_assoc, Int32.add_comm (if t i = 0 then 0 else 1) (mk_cnt t i)]
  have m10 : f_X10_turned σ x0 x1 = f_X10_turned σ x0 x1 := rfl
  have r10 : b_X10_turned_34 σ mj_fu x0 x1 0 (-2) (σ.1 64 26 - 1) = if x1 = 0 then some (mk_cnt t k) else some (mk_low t k (-2)) := by
    rw [h.k64, Int32.sub_eq_add_neg, loop10 k mj_fu 0 (-2) (by omega) (by show k < 5000; omega), Int32.zero_add]
  have cnt9 : ∀ (f i : Nat), k < f + i → i ≤ k → b_X5_turnedMarks_4 σ f x0 (mk_cnt t i) (nI i) = some (mk_cnt t k) := by
    intro f
    induction f with
    | zero => intro i hf hi; exact absurd hf (by omega)
    | succ f ih =>
      intro i hf hi
      unfold b_X5_turnedMarks_4
      rw [h.k35]
      by_cases hik : i = k
      · rw [if_pos (by rw [hik]; exact nI_le (by omega) (by omega)), hik]
      · rw [if_neg (nI_ge (by omega) (by omega)), (ht i (by omega)).1, nI_1]
        show (if t i = 0 then b_X5_turnedMarks_4 σ f x0 (mk_cnt t i) (nI (i + 1)) else b_X5_turnedMarks_4 σ f x0 (mk_cnt t i + 1) (nI (i + 1))) = _
        have ih' := ih (i + 1) (by omega) (by omega)
        have em : mk_cnt t (i + 1) = mk_cnt t i + (if t i = 0 then 0 else 1) := rfl
        rw [em] at ih'
        by_cases c3 : t i = 0
        · rw [if_pos c3]
          rw [if_pos c3, Int32.add_zero] at ih'
          exact ih'
        · rw [if_neg c3]
          rw [if_neg c3] at ih'
          exact ih'
  have low9 : ∀ (f i : Nat), k < f + i → i ≤ k → (∀ j, j < i → t j = 0) → b_X5_firstTurned_2 σ f x0 (nI i) = some (mk_low t k (-2)) := by
    intro f
    induction f with
    | zero => intro i hf hi; exact absurd hf (by omega)
    | succ f ih =>
      intro i hf hi hz
      unfold b_X5_firstTurned_2
      rw [h.k35]
      by_cases hik : i = k
      · rw [if_pos (by rw [hik]; exact nI_le (by omega) (by omega)), mk_low_none t k (-2) (by rw [← hik]; exact hz)]
      · rw [if_neg (nI_ge (by omega) (by omega)), (ht i (by omega)).1, nI_1]
        show (if t i = 0 then b_X5_firstTurned_2 σ f x0 (nI (i + 1)) else some (nI i)) = _
        by_cases c3 : t i = 0
        · rw [if_pos c3]
          refine ih (i + 1) (by omega) (by omega) (fun j hj => ?_)
          by_cases hji : j = i
          · rw [hji]
            exact c3
          · exact hz j (by omega)
        · rw [if_neg c3, mk_low_some t c3 hz k _ (by omega)]
  rw [r10]
  by_cases h3 : x1 = 0
  · refine ⟨mk_cnt t k, ?_, by rw [if_pos h3]⟩
    rw [if_pos h3]
    unfold f_X5_turnedMarks
    have := cnt9 mj_fu 0 (by show k < 5000 + 0; omega) (by omega)
    rw [nI_0] at this
    have e : mk_cnt t 0 = 0 := rfl
    rw [e] at this
    rw [this]
    rfl
  · refine ⟨mk_low t k (-2), ?_, by rw [if_neg h3]⟩
    rw [if_neg h3]
    unfold f_X5_firstTurned
    have := low9 mj_fu 0 (by show k < 5000 + 0; omega) (by omega) (fun j hj => absurd hj (by omega))
    rw [nI_0] at this
    rw [this]
    rfl
