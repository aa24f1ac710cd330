-- year
def mk_gy (σ : mj_S) (j b0 y : Nat) : Int32 := σ.1 (19 + j) (b0 + 12 * y + 12) - σ.1 (19 + j) (b0 + 12 * y)
theorem mk_gy_r {g c w n k d d2 a σ} (h : mk_J g c w n k d d2 a σ) {j b0 y : Nat} (hj : j < c) (hb : b0 ≤ 599) (eb : σ.1 10 j = nI b0) (hy : b0 + 12 * y + 12 < 600) : 0 ≤ (mk_gy σ j b0 y).toInt ∧ (mk_gy σ j b0 y).toInt ≤ 8000 := by
  obtain ⟨l, hl, el⟩ := (h.kid j hj).rl
  obtain ⟨q, q', h1, h2, h3, h4⟩ := mk_hh_mono h.law.small b0 l hb (by omega) (σ.1 13 j) (σ.1 11 j) (σ.1 14 j) (nI j) (σ.1 15) (b0 + 12 * y) 12 hy
  unfold mk_gy
  rw [mk_row h hj hy, mk_row h hj (show b0 + 12 * y < 600 by omega), eb, el, h3, h4, mk_sub (by rw [nI_toInt (by omega), nI_toInt (by omega)]; omega) (by rw [nI_toInt (by omega), nI_toInt (by omega)]; omega), nI_toInt (by omega), nI_toInt (by omega)]
  omega
theorem mk_gy9 {g c w n k d d2 a σ} (h : mk_J g c w n k d d2 a σ) {j b0 y : Nat} (hj : j < c) (hb : b0 ≤ 599) (eb : σ.1 10 j = nI b0) (hy : b0 + 12 * y + 12 < 600) : f_X6_growthInYear σ (nI j) (nI y) = some (mk_gy σ j b0 y) := by
  unfold f_X6_growthInYear
  have e1 : 12 * nI y = nI (12 * y) := mk_mulN 12 y
  have e2 : nI b0 + nI (12 * y) = nI (b0 + 12 * y) := nI_add _ _
  have e3 : nI (b0 + 12 * y) + 12 = nI (b0 + 12 * y + 12) := nI_add _ 12
  rw [(mk_born9 h hj 0).2, mk_bs, eb, e1, e2, e3, mk_h9 h hj hy, mk_bs, mk_h9 h hj (by omega), mk_bs]
  rfl
theorem mk_whole9 {g c w n k d d2 a σ} (h : mk_J g c w n k d d2 a σ) {j b0 y : Nat} (hj : j < c) (hb : b0 ≤ 599) (eb : σ.1 10 j = nI b0) (hy : y < 100) : f_X6_isWholeYear σ (nI j) (nI y) = some (if b0 + 12 * y + 12 < 600 then 1 else 0) := by
  unfold f_X6_isWholeYear
  have e1 : nI y + 1 = nI (y + 1) := nI_1 y
  have e2 : 12 * nI (y + 1) = nI (12 * (y + 1)) := mk_mulN 12 _
  have e3 : nI b0 + nI (12 * (y + 1)) = nI (b0 + 12 * (y + 1)) := nI_add _ _
  rw [(mk_born9 h hj 0).2, mk_bs, eb, e1, e2, e3, mk_month9, mk_zb]
  unfold mk_bt
  rw [nI_toInt (by omega)]
  by_cases q : b0 + 12 * y + 12 < 600
  · rw [if_pos (by omega), if_pos q]
  · rw [if_neg (by omega), if_neg q]
/-- the year found (or none yet), its growth -/
def mk_yr (σ : mj_S) (j b0 i : Nat) (x v : Int32) : Prop := (i = 0 ∧ x = -2 ∧ v = -2) ∨ (∃ y, y < i ∧ b0 + 12 * y + 12 < 600 ∧ x = nI y ∧ v = mk_gy σ j b0 y)
theorem mk_yearLoop {g c w n k d d2 a σ} (h : mk_J g c w n k d d2 a σ) {j b0 : Nat} (hj : j < c) (hb : b0 ≤ 599) (eb : σ.1 10 j = nI b0) (t : Int32) : ∀ (f i : Nat) (x1 v1 x0 v0 : Int32) (α : mj_S), 20 < f + i → i ≤ 20 → mk_J g c w n k d d2 a α → mk_fr mk_Zq σ α → mk_yr σ j b0 i x1 v1 → mk_yr σ j b0 i x0 v0 →
    ∃ y1 u1 y0 u0 τ, b_X6_yearOf_6 σ f (nI j) 1 x1 (nI i) = some y1 ∧ b_X6_yearOf_6 σ f (nI j) 0 x0 (nI i) = some y0 ∧ b_X10_year_40 f (nI j) t v1 x1 v0 x0 (nI i) α = b_X10_year_147 t u1 y1 u0 y0 τ ∧ mk_J g c w n k d d2 a τ ∧ (∃ i', mk_yr σ j b0 i' y1 u1) ∧ ∃ i', mk_yr σ j b0 i' y0 u0
  | 0, i, x1, v1, x0, v0, α, hf, hi, _, _, _, _ => absurd hf (by omega)
  | f + 1, i, x1, v1, x0, v0, α, hf, hi, hα, q, r1, r0 => by
    have hc := h.hc
    unfold b_X6_yearOf_6 b_X10_year_40
    by_cases h20 : i = 20
    · have l : (20 : Int32) ≤ nI i := by rw [h20]; exact nI_le (a := 20) (b := 20) (by omega) (by omega)
      exact ⟨x1, v1, x0, v0, α, by rw [if_pos l], by rw [if_pos l], by rw [if_pos l], hα, ⟨i, r1⟩, ⟨i, r0⟩⟩
    have l : ¬ (20 : Int32) ≤ nI i := nI_ge (a := i) (b := 20) (by omega) (by omega)
    have e1 : 12 * nI i = nI (12 * i) := mk_mulN 12 i
    have e2 : nI b0 + nI (12 * i) = nI (b0 + 12 * i) := nI_add _ _
    have e3 : nI (b0 + 12 * i) + 12 = nI (b0 + 12 * i + 12) := nI_add _ 12
    have hb7 := mk_in7 (i := j) (by omega)
    have hcl : (nI j).toNatClampNeg = j := nI_clamp (by omega)
    have z69 : ∀ τ', mk_fr mk_Zq σ τ' → τ'.1 69 j = nI b0 := fun τ' q => by
      rw [q.1 69 j (by unfold mk_Zq; omega), ← (h.kid j hj).born, eb]
    rw [if_neg l, if_neg l, if_neg l, mk_whole9 h hj hb eb (by omega), mk_bs, mk_bs, if_pos hb7, hcl, z69 α q, e1, e2, e3]
    by_cases hw : b0 + 12 * i + 12 < 600
    · rw [if_pos hw, if_neg (show ¬ (1 : Int32) = 0 from by decide), if_neg (show ¬ (1 : Int32) = 0 from by decide), if_neg (show ¬ (600 : Int32) ≤ nI (b0 + 12 * i + 12) from nI_ge (a := b0 + 12 * i + 12) (b := 600) hw (by omega)), if_pos hb7]
      obtain ⟨τ1, a1, a2, _, a3⟩ := mk_heightQ hα q hj hw
      obtain ⟨τ2, b1, b2, _, b3⟩ := mk_heightQ a3 a2 hj (show b0 + 12 * i < 600 by omega)
      rw [a1, mk_bs, if_pos hb7]
      show ∃ y1 u1 y0 u0 τ, _ ∧ _ ∧ ((f_X10_heightOf τ1 (nI j) (τ1.1 69 j + nI (12 * i))).bind fun r12 => if (σ.1 (19 + j) (b0 + 12 * i + 12) - r12.1) ≤ v1 then b_X10_year_121 (b_X10_year_40 f) (nI j) t v1 x1 v0 x0 (nI i) (σ.1 (19 + j) (b0 + 12 * i + 12) - r12.1) r12.2 else b_X10_year_121 (b_X10_year_40 f) (nI j) t (σ.1 (19 + j) (b0 + 12 * i + 12) - r12.1) (nI i) v0 x0 (nI i) (σ.1 (19 + j) (b0 + 12 * i + 12) - r12.1) r12.2) = _ ∧ _
      rw [z69 τ1 a2, e2, b1, mk_bs]
      show ∃ y1 u1 y0 u0 τ, _ ∧ _ ∧ (if mk_gy σ j b0 i ≤ v1 then b_X10_year_121 (b_X10_year_40 f) (nI j) t v1 x1 v0 x0 (nI i) (mk_gy σ j b0 i) τ2 else b_X10_year_121 (b_X10_year_40 f) (nI j) t (mk_gy σ j b0 i) (nI i) v0 x0 (nI i) (mk_gy σ j b0 i) τ2) = _ ∧ _
      have gi := mk_gy9 h hj hb eb hw
      have gr := mk_gy_r h hj hb eb hw
      have e0 : (0 : Int32).toInt = 0 := rfl
      have em2 : (-2 : Int32).toInt = -2 := rfl
      -- the greatest
      have big : ∃ x1' v1', mk_yr σ j b0 (i + 1) x1' v1' ∧ (if x1 = -2 then b_X6_yearOf_6 σ f (nI j) 1 (nI i) (nI i + 1) else (f_X6_growthInYear σ (nI j) (nI i)).bind fun r5 => (f_X6_growthInYear σ (nI j) x1).bind fun r6 => if f_X6_isBetter σ r5 r6 1 = 0 then b_X6_yearOf_6 σ f (nI j) 1 x1 (nI i + 1) else b_X6_yearOf_6 σ f (nI j) 1 (nI i) (nI i + 1)) = b_X6_yearOf_6 σ f (nI j) 1 x1' (nI (i + 1)) ∧ ∀ (v x : Int32), (if mk_gy σ j b0 i ≤ v1 then b_X10_year_121 (b_X10_year_40 f) (nI j) t v1 x1 v x (nI i) (mk_gy σ j b0 i) τ2 else b_X10_year_121 (b_X10_year_40 f) (nI j) t (mk_gy σ j b0 i) (nI i) v x (nI i) (mk_gy σ j b0 i) τ2) = b_X10_year_121 (b_X10_year_40 f) (nI j) t v1' x1' v x (nI i) (mk_gy σ j b0 i) τ2 := by
        rw [nI_1, gi]
        rcases r1 with ⟨_, rfl, rfl⟩ | ⟨y, hy, hy2, rfl, rfl⟩
        · exact ⟨nI i, mk_gy σ j b0 i, .inr ⟨i, by omega, hw, rfl, rfl⟩, if_pos rfl, fun v x => if_neg (by rw [mk_lee, em2]; omega)⟩
        · have hne : ¬ nI y = (-2 : Int32) := fun e => by
            have := congrArg Int32.toInt e
            rw [nI_toInt (by omega), em2] at this
            omega
          rw [if_neg hne, mk_bs, mk_gy9 h hj hb eb hy2, mk_bs]
          unfold f_X6_isBetter
          rw [if_neg (show ¬ (1 : Int32) = 0 from by decide)]
          by_cases cc : mk_gy σ j b0 i ≤ mk_gy σ j b0 y
          · exact ⟨nI y, mk_gy σ j b0 y, .inr ⟨y, by omega, hy2, rfl, rfl⟩, by rw [if_pos cc, if_pos rfl], fun v x => if_pos cc⟩
          · exact ⟨nI i, mk_gy σ j b0 i, .inr ⟨i, by omega, hw, rfl, rfl⟩, by rw [if_neg cc, if_neg (by decide)], fun v x => if_neg cc⟩
      have small : ∃ x0' v0', mk_yr σ j b0 (i + 1) x0' v0' ∧ (if x0 = -2 then b_X6_yearOf_6 σ f (nI j) 0 (nI i) (nI i + 1) else (f_X6_growthInYear σ (nI j) (nI i)).bind fun r5 => (f_X6_growthInYear σ (nI j) x0).bind fun r6 => if f_X6_isBetter σ r5 r6 0 = 0 then b_X6_yearOf_6 σ f (nI j) 0 x0 (nI i + 1) else b_X6_yearOf_6 σ f (nI j) 0 (nI i) (nI i + 1)) = b_X6_yearOf_6 σ f (nI j) 0 x0' (nI (i + 1)) ∧ ∀ (v x : Int32), b_X10_year_121 (b_X10_year_40 f) (nI j) t v x v0 x0 (nI i) (mk_gy σ j b0 i) τ2 = b_X10_year_40 f (nI j) t v x v0' x0' (nI (i + 1)) τ2 := by
        unfold b_X10_year_121
        rw [nI_1, gi]
        rcases r0 with ⟨_, rfl, rfl⟩ | ⟨y, hy, hy2, rfl, rfl⟩
        · exact ⟨nI i, mk_gy σ j b0 i, .inr ⟨i, by omega, hw, rfl, rfl⟩, if_pos rfl, fun v x => if_pos (by decide)⟩
        · have hne : ¬ nI y = (-2 : Int32) := fun e => by
            have := congrArg Int32.toInt e
            rw [nI_toInt (by omega), em2] at this
            omega
          have gy := mk_gy_r h hj hb eb hy2
          have hn0 : ¬ mk_gy σ j b0 y < 0 := by
            rw [mk_ltt, e0]
            omega
          rw [if_neg hne, mk_bs, mk_gy9 h hj hb eb hy2, mk_bs]
          unfold f_X6_isBetter
          rw [if_pos (show (0 : Int32) = 0 from rfl)]
          by_cases cc : mk_gy σ j b0 y ≤ mk_gy σ j b0 i
          · exact ⟨nI y, mk_gy σ j b0 y, .inr ⟨y, by omega, hy2, rfl, rfl⟩, by rw [if_pos cc, if_pos rfl], fun v x => by rw [if_neg hn0, if_pos cc]⟩
          · exact ⟨nI i, mk_gy σ j b0 i, .inr ⟨i, by omega, hw, rfl, rfl⟩, by rw [if_neg cc, if_neg (by decide)], fun v x => by rw [if_neg hn0, if_neg cc]⟩
      obtain ⟨x1', v1', p1, p2, p3⟩ := big
      obtain ⟨x0', v0', s1, s2, s3⟩ := small
      rw [p2, s2, p3, s3]
      exact mk_yearLoop h hj hb eb t f (i + 1) x1' v1' x0' v0' τ2 (by omega) (by omega) b3 b2 p1 s1
    · rw [if_neg hw, if_pos rfl, if_pos rfl, if_pos (show (600 : Int32) ≤ nI (b0 + 12 * i + 12) from nI_le (a := 600) (b := b0 + 12 * i + 12) (by omega) (by omega))]
      exact ⟨x1, v1, x0, v0, α, rfl, rfl, rfl, hα, ⟨i, r1⟩, ⟨i, r0⟩⟩
theorem op_year (σ : mj_S) (x0 x1 : Int32) : mk_I σ → ∃ (v : Int32) (σ1 σ2 : mj_S), (f_X9_year σ x0 x1 = some v ∧ σ1 = σ) ∧ f_X10_year σ1 x0 x1 = some (v, σ2) ∧ mk_I σ2 := by
  rintro ⟨g, c, w, n, k, d, d2, a, h⟩
  have hI : mk_I σ := ⟨g, c, w, n, k, d, d2, a, h⟩
  have hc := h.hc
  refine mk_3 (f9 := fun σ => f_X9_year σ x0 x1) (f10 := fun σ => f_X10_year σ x0 x1) ?_
  have e0 : (0 : Int32).toInt = 0 := rfl
  have e3 : (3 : Int32).toInt = 3 := rfl
  have f0 : (0 : Int64).toInt = 0 := rfl
  have f3 : (3 : Int64).toInt = 3 := rfl
  simp only [f_X9_year, f_X10_year, mk_has2 h, mk_child10 h, mk_w9, mk_lit64, e0, e3, f0, f3]
  by_cases h1 : mk_bt x0.toInt 0 (c - 1) = 0
  · exact ⟨_, σ, by rw [if_pos h1], by rw [if_pos h1], hI⟩
  simp only [if_neg h1]
  by_cases h2 : mk_bt x1.toInt 0 3 = 0
  · exact ⟨_, σ, by rw [if_pos h2], by rw [if_pos h2], hI⟩
  simp only [if_neg h2]
  obtain ⟨j, hj, rfl⟩ := mk_bt_of (x := x0) (n := c) (mk_in_of h1) (by omega)
  obtain ⟨b0, hb, eb⟩ := (h.kid j hj).rb
  obtain ⟨y1, u1, y0, u0, τ, l1, l0, lt, hτ, ⟨i1, r1⟩, ⟨i0, r0⟩⟩ := mk_yearLoop h hj hb eb x1 mj_fu 0 (-2) (-2) (-2) (-2) σ (by decide) (by omega) h ⟨fun _ _ _ => rfl, rfl⟩ (.inl ⟨rfl, rfl, rfl⟩) (.inl ⟨rfl, rfl, rfl⟩)
  rw [nI_0] at l1 l0 lt
  have em2 : (-2 : Int32).toInt = -2 := rfl
  -- what a year found answers
  have ans : ∀ i x v, mk_yr σ j b0 i x v → (x = -2 ∧ v = -2) ∨ (¬ x = -2 ∧ f_X6_growthInYear σ (nI j) x = some v) := by
    intro i x v r
    rcases r with ⟨_, rfl, rfl⟩ | ⟨y, _, hy2, rfl, rfl⟩
    · exact .inl ⟨rfl, rfl⟩
    · exact .inr ⟨fun e => by
        have := congrArg Int32.toInt e
        rw [nI_toInt (by omega), em2] at this
        omega, mk_gy9 h hj hb eb hy2⟩
  rw [lt]
  unfold b_X10_year_147 b_X9_year_37 f_X6_yearOf
  have hx : x1 = 0 ∨ x1 = 1 ∨ x1 = 2 ∨ x1 = 3 := by
    have := mk_in_of h2
    rcases mk_five (x := x1) (by omega) with q | q | q | q | q
    · exact .inl q
    · exact .inr (.inl q)
    · exact .inr (.inr (.inl q))
    · exact .inr (.inr (.inr q))
    · rw [q] at this
      exact absurd this (by decide)
  rcases hx with rfl | rfl | rfl | rfl
  · rw [if_neg (by decide), l1, mk_bs]
    rcases ans _ _ _ r1 with ⟨a1, a2⟩ | ⟨a1, a2⟩
    · exact ⟨-2, τ, by rw [if_pos a1], by rw [if_pos rfl, a1], g, c, w, n, k, d, d2, a, hτ⟩
    · exact ⟨y1, τ, by rw [if_neg a1, if_pos (by decide)], by rw [if_pos rfl], g, c, w, n, k, d, d2, a, hτ⟩
  · rw [if_neg (by decide), l1, mk_bs]
    rcases ans _ _ _ r1 with ⟨a1, a2⟩ | ⟨a1, a2⟩
    · exact ⟨-2, τ, by rw [if_pos a1], by rw [if_neg (by decide), if_pos rfl, a2], g, c, w, n, k, d, d2, a, hτ⟩
    · exact ⟨u1, τ, by rw [if_neg a1, if_neg (by decide), a2, mk_bs], by rw [if_neg (by decide), if_pos rfl], g, c, w, n, k, d, d2, a, hτ⟩
  · rw [if_pos (by decide), l0, mk_bs]
    rcases ans _ _ _ r0 with ⟨a1, a2⟩ | ⟨a1, a2⟩
    · exact ⟨-2, τ, by rw [if_pos a1], by rw [if_neg (by decide), if_neg (by decide), if_pos rfl, a1], g, c, w, n, k, d, d2, a, hτ⟩
    · exact ⟨y0, τ, by rw [if_neg a1, if_pos (by decide)], by rw [if_neg (by decide), if_neg (by decide), if_pos rfl], g, c, w, n, k, d, d2, a, hτ⟩
  · rw [if_pos (by decide), l0, mk_bs]
    rcases ans _ _ _ r0 with ⟨a1, a2⟩ | ⟨a1, a2⟩
    · exact ⟨-2, τ, by rw [if_pos a1], by rw [if_neg (by decide), if_neg (by decide), if_neg (by decide), a2], g, c, w, n, k, d, d2, a, hτ⟩
    · exact ⟨u0, τ, by rw [if_neg a1, if_neg (by decide), a2, mk_bs], by rw [if_neg (by decide), if_neg (by decide), if_neg (by decide)], g, c, w, n, k, d, d2, a, hτ⟩
