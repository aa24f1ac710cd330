-- distances
def mk_made (h w : Int32) : Int32 := if w = 1 then h + 48 else if w = 2 then h + 128 else if w = 3 then mj_max 0 (h - 24) else if w = 4 then ((h + 32) / 64) * 64 else h
def mk_D (σ : mj_S) (hv : Int32) (j m : Nat) (w : Int32) : Int32 := if nI m < σ.1 10 j then -2 else mj_abs (hv - mk_made (σ.1 (19 + j) m) w)
theorem mk_divN {a b : Nat} (ha : a < 2 ^ 31) (hb : b < 2 ^ 31) (h0 : 0 < b) : nI a / nI b = nI (a / b) := by
  have hd : a / b ≤ a := Nat.div_le_self a b
  refine mk_of ?_ (by omega)
  rw [lg_idiv_nonneg (by rw [nI_toInt ha]; omega) (by rw [nI_toInt hb]; omega), nI_toInt ha, nI_toInt hb]
  rfl
theorem mk_made_r {q : Nat} (hq : q ≤ 8000) (w : Int32) : ∃ r, r ≤ 8200 ∧ mk_made (nI q) w = nI r := by
  unfold mk_made
  by_cases h1 : w = 1
  · exact ⟨q + 48, by omega, by rw [if_pos h1]; exact nI_add q 48⟩
  by_cases h2 : w = 2
  · exact ⟨q + 128, by omega, by rw [if_neg h1, if_pos h2]; exact nI_add q 128⟩
  by_cases h3 : w = 3
  · rw [if_neg h1, if_neg h2, if_pos h3]
    have e : (nI q - 24).toInt = (q : Int) - 24 := pk_sub_toInt (a := q) (b := 24) (by omega) (by omega)
    have e0 : (0 : Int32).toInt = 0 := rfl
    unfold mj_max
    by_cases h : (0 : Int32) < nI q - 24
    · rw [if_pos h]
      rw [mk_ltt, e, e0] at h
      exact ⟨q - 24, by omega, mk_of (by rw [e]; omega) (by omega)⟩
    · rw [if_neg h]
      exact ⟨0, by omega, rfl⟩
  by_cases h4 : w = 4
  · rw [if_neg h1, if_neg h2, if_neg h3, if_pos h4]
    have e : nI q + 32 = nI (q + 32) := nI_add q 32
    have e2 : nI (q + 32) / 64 = nI ((q + 32) / 64) := mk_divN (b := 64) (by omega) (by omega) (by omega)
    have e3 : nI ((q + 32) / 64) * 64 = nI ((q + 32) / 64 * 64) := mk_mulN _ 64
    exact ⟨(q + 32) / 64 * 64, by omega, by rw [e, e2, e3]⟩
  · exact ⟨q, by omega, by rw [if_neg h1, if_neg h2, if_neg h3, if_neg h4]⟩
theorem mk_byWay (σ : mj_S) {q : Nat} (hq : q ≤ 8000) (w : Int32) : f_X10_byWay σ (nI q) w = mk_made (nI q) w := by
  unfold f_X10_byWay mk_made
  by_cases h1 : w = 1
  · rw [if_pos h1, if_pos h1]
  rw [if_neg h1, if_neg h1]
  by_cases h2 : w = 2
  · rw [if_pos h2, if_pos h2]
  rw [if_neg h2, if_neg h2]
  by_cases h3 : w = 3
  · rw [if_pos h3, if_pos h3]
    have e : (nI q - 24).toInt = (q : Int) - 24 := pk_sub_toInt (a := q) (b := 24) (by omega) (by omega)
    have e0 : (0 : Int32).toInt = 0 := rfl
    have e24 : (24 : Int32).toInt = 24 := rfl
    unfold mj_max
    by_cases h : (24 : Int32) ≤ nI q
    · rw [if_pos h]
      rw [mk_lee, e24, nI_toInt (by omega)] at h
      by_cases h' : (0 : Int32) < nI q - 24
      · rw [if_pos h']
      · rw [if_neg h']
        rw [mk_ltt, e, e0] at h'
        exact Int32.toInt_inj.mp (by rw [e, e0]; omega)
    · rw [if_neg h]
      rw [mk_lee, e24, nI_toInt (by omega)] at h
      rw [if_neg (by rw [mk_ltt, e, e0]; omega)]
  rw [if_neg h3, if_neg h3]
theorem mk_abs_r {x : Int32} (h : -100000 ≤ x.toInt ∧ x.toInt ≤ 100000) : 0 ≤ (mj_abs x).toInt ∧ (mj_abs x).toInt ≤ 100000 ∧ f_X10_size mk_z x = mj_abs x := by
  have e0 : (0 : Int32).toInt = 0 := rfl
  unfold mj_abs f_X10_size
  by_cases h0 : (0 : Int32) ≤ x
  · rw [if_pos h0, if_pos h0]
    rw [mk_lee, e0] at h0
    exact ⟨h0, h.2, rfl⟩
  · rw [if_neg h0, if_neg h0]
    rw [mk_lee, e0] at h0
    have e : (0 - x).toInt = 0 - x.toInt := by
      rw [mk_sub (by rw [e0]; omega) (by rw [e0]; omega), e0]
    rw [e]
    refine ⟨by omega, by omega, ?_⟩
    exact (Int32.zero_sub x).symm
theorem mk_hr {g c w n k d d2 a σ} (h : mk_J g c w n k d d2 a σ) {j m : Nat} (hj : j < c) (hm : m < 600) : ∃ b0, b0 ≤ 599 ∧ σ.1 10 j = nI b0 ∧ ∃ q, q ≤ 8000 ∧ σ.1 (19 + j) m = nI q := by
  obtain ⟨b0, hb0, eb⟩ := (h.kid j hj).rb
  obtain ⟨l, hl, el⟩ := (h.kid j hj).rl
  obtain ⟨q, q1, q2, q3⟩ := mk_hh_r h.law.small b0 l hb0 (by omega) (σ.1 13 j) (σ.1 11 j) (σ.1 14 j) (nI j) (σ.1 15) m hm
  refine ⟨b0, hb0, eb, q, q1, ?_⟩
  rw [mk_row h hj hm, eb, el]
  exact q2
theorem mk_D_r {g c w n k d d2 a σ} (h : mk_J g c w n k d d2 a σ) {j m : Nat} (hj : j < c) (hm : m < 600) {hv : Int32} (hh : -30000 ≤ hv.toInt ∧ hv.toInt ≤ 30000) (wy : Int32) : mk_D σ hv j m wy = -2 ∧ nI m < σ.1 10 j ∨ ¬ nI m < σ.1 10 j ∧ 0 ≤ (mk_D σ hv j m wy).toInt ∧ (mk_D σ hv j m wy).toInt ≤ 100000 := by
  unfold mk_D
  by_cases hb : nI m < σ.1 10 j
  · exact .inl ⟨if_pos hb, hb⟩
  · rw [if_neg hb]
    obtain ⟨b0, _, _, q, hq, eq⟩ := mk_hr h hj hm
    obtain ⟨r, hr, er⟩ := mk_made_r hq wy
    rw [eq, er]
    have := mk_abs_r (x := hv - nI r) (by rw [mk_sub (by rw [nI_toInt (by omega)]; omega) (by rw [nI_toInt (by omega)]; omega), nI_toInt (by omega)]; omega)
    exact .inr ⟨hb, this.1, this.2.1⟩
theorem mk_born9 {g c w n k d d2 a σ} (h : mk_J g c w n k d d2 a σ) {j : Nat} (hj : j < c) (x : Int32) : f_X2_isBorn σ (nI j) x = some (if x < σ.1 10 j then 0 else 1) ∧ f_X2_bornIn σ (nI j) = some (σ.1 10 j) := by
  have hc := h.hc
  unfold f_X2_isBorn f_X2_bornIn
  rw [mk_has2 h, if_neg (mk_btn (by rw [nI_toInt (by omega)]; omega)), if_pos (mk_in6 (by omega)), nI_clamp (by omega)]
  refine ⟨?_, by rw [if_neg (mk_btn (by rw [nI_toInt (by omega)]; omega)), if_pos (mk_in6 (by omega))]⟩
  by_cases hx : x < σ.1 10 j
  · rw [if_pos hx, if_pos hx]
  · rw [if_neg hx, if_neg hx]
theorem mk_dist9 {g c w n k d d2 a σ} (h : mk_J g c w n k d d2 a σ) {j m : Nat} (hj : j < c) (hm : m < 600) (hv wy : Int32) : f_X3_distance σ hv (nI j) (nI m) wy = some (mk_D σ hv j m wy) := by
  unfold f_X3_distance mk_D
  rw [(mk_born9 h hj _).1, mk_bs]
  by_cases hb : nI m < σ.1 10 j
  · rw [if_pos hb, if_pos rfl, if_pos hb]
  · rw [if_neg hb, if_neg (by decide), mk_h9 h hj hm, mk_bs, if_neg hb]
    rfl
theorem mk_dist10 {g c w n k d d2 a σ} (h : mk_J g c w n k d d2 a σ) {j m : Nat} (hj : j < c) (hm : m < 600) {hv : Int32} (hh : -30000 ≤ hv.toInt ∧ hv.toInt ≤ 30000) (wy : Int32) : ∃ τ, f_X10_offBy σ hv (nI j) (nI m) wy = some (mk_D σ hv j m wy, τ) ∧ mk_fr mk_Zh σ τ ∧ mk_J g c w n k d d2 a τ := by
  have hc := h.hc
  obtain ⟨b0, hb0, eb, q, hq, eq⟩ := mk_hr h hj hm
  unfold f_X10_offBy
  rw [if_pos (mk_in7 (by omega)), nI_clamp (by omega), ← (h.kid j hj).born, eb]
  by_cases hb : b0 ≤ m
  · obtain ⟨τ, t1, t2, t3⟩ := mk_height h hj hm
    refine ⟨τ, ?_, t2, t3⟩
    rw [if_pos (nI_le hb (by omega)), t1, mk_bs]
    unfold mk_D
    rw [eb, if_neg (nI_nlt hb (by omega)), eq, mk_byWay τ hq]
    obtain ⟨r, hr, er⟩ := mk_made_r hq wy
    rw [er]
    have := mk_abs_r (x := hv - nI r) (by rw [mk_sub (by rw [nI_toInt (by omega)]; omega) (by rw [nI_toInt (by omega)]; omega), nI_toInt (by omega)]; omega)
    rw [← this.2.2]
    rfl
  · refine ⟨σ, ?_, ⟨fun _ _ _ => rfl, rfl⟩, h⟩
    rw [if_neg (nI_ge (by omega) (by omega))]
    unfold mk_D
    rw [eb, if_pos (nI_lt (by omega) (by omega))]
theorem mk_DQ {σ τ : mj_S} (q : mk_fr mk_Zq σ τ) (hv : Int32) {j : Nat} (hj : j < 6) (m : Nat) (wy : Int32) : mk_D τ hv j m wy = mk_D σ hv j m wy := by
  unfold mk_D
  rw [q.1 10 j (by unfold mk_Zq; omega), q.1 (19 + j) m (by unfold mk_Zq; omega)]
theorem mk_mc {g c w n k d d2 a σ} (h : mk_J g c w n k d d2 a σ) (x : Int32) : f_X10_isMc σ x = f_X9_isMarkAndChild σ x ∧ (¬ f_X9_isMarkAndChild σ x = 0 → ∃ i j, i < k ∧ j < c ∧ x / 10 = nI i ∧ mj_rem x 10 = nI j) := by
  have hc := h.hc
  have hk := h.hk
  unfold f_X10_isMc f_X9_isMarkAndChild
  simp only [mk_mark10 h, mk_child10 h, mk_has5 h, mk_has2 h, true_and]
  intro hh
  by_cases h1 : x < 0
  · exact absurd (if_pos h1) hh
  rw [if_neg h1] at hh
  by_cases h2 : mk_bt (x / 10).toInt 0 (k - 1) = 0
  · exact absurd (if_pos h2) hh
  rw [if_neg h2] at hh
  by_cases h3 : mk_bt (mj_rem x 10).toInt 0 (c - 1) = 0
  · exact absurd (if_pos h3) hh
  obtain ⟨i, hi, ei⟩ := mk_bt_of (x := x / 10) (n := k) (mk_in_of h2) (by omega)
  obtain ⟨j, hj, ej⟩ := mk_bt_of (x := mj_rem x 10) (n := c) (mk_in_of h3) (by omega)
  exact ⟨i, j, hi, hj, ei, ej⟩
theorem mk_r_in {x : Int32} {n : Nat} (h : mk_r x n) (hn : n ≤ 30000) : -30000 ≤ x.toInt ∧ x.toInt ≤ 30000 := by
  obtain ⟨q, hq, rfl⟩ := h
  rw [nI_toInt (by omega)]
  omega
theorem op_off (σ : mj_S) (x0 x1 x2 : Int32) : mk_I σ → ∃ (v : Int32) (σ1 σ2 : mj_S), (f_X9_off σ x0 x1 x2 = some v ∧ σ1 = σ) ∧ f_X10_off σ1 x0 x1 x2 = some (v, σ2) ∧ mk_I σ2 := by
  rintro ⟨g, c, w, n, k, d, d2, a, h⟩
  have hI : mk_I σ := ⟨g, c, w, n, k, d, d2, a, h⟩
  have hc := h.hc
  have hk := h.hk
  have e0 : (0 : Int32).toInt = 0 := rfl
  have e4 : (4 : Int32).toInt = 4 := rfl
  have f0 : (0 : Int64).toInt = 0 := rfl
  have f4 : (4 : Int64).toInt = 4 := rfl
  obtain ⟨m1, m2⟩ := mk_mc h x0
  unfold f_X9_off f_X10_off
  rw [mk_month9, mk_w9, e0, e4]
  by_cases h1 : f_X9_isMarkAndChild σ x0 = 0
  · exact ⟨-1, σ, σ, ⟨by rw [if_pos h1], rfl⟩, by rw [m1, if_pos h1], hI⟩
  by_cases h2 : mk_bt x1.toInt 0 599 = 0
  · exact ⟨-1, σ, σ, ⟨by rw [if_neg h1, if_pos h2], rfl⟩, by rw [m1, if_neg h1, mk_month10, if_pos h2], hI⟩
  by_cases h3 : mk_bt x2.toInt 0 4 = 0
  · exact ⟨-1, σ, σ, ⟨by rw [if_neg h1, if_neg h2, if_pos h3], rfl⟩, by rw [m1, if_neg h1, mk_month10, if_neg h2, mk_lit64, f0, f4, if_pos h3], hI⟩
  obtain ⟨i, j, hi, hj, ei, ej⟩ := m2 h1
  obtain ⟨m, hm, rfl⟩ := mk_bt_of (x := x1) (n := 600) (by have := mk_in_of h2; omega) (by omega)
  obtain ⟨τ, t1, t2, t3⟩ := mk_dist10 h hj hm (mk_r_in (h.mark i hi).rh (by omega)) x2
  have e12 : 12 + nI i = nI (12 + i) := nI_add 12 i
  refine ⟨mk_D σ (σ.1 36 i) j m x2, σ, τ, ⟨?_, rfl⟩, ?_, g, c, w, n, k, d, d2, a, t3⟩
  · rw [if_neg h1, if_neg h2, if_neg h3, ei, ej, (mk_m9 h hi).1, mk_bs, mk_dist9 h hj hm, mk_bs]
  · rw [m1, if_neg h1, mk_month10, if_neg h2, mk_lit64, f0, f4, if_neg h3, ei, ej, e12, if_pos (mk_in72 (by omega)), nI_clamp (by omega), ← (h.mark i hi).height, t1, mk_bs]
