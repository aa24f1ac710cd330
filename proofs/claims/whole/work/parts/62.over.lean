theorem mk_higher {g c w n k d d2 a σ} (h : mk_J g c w n k d d2 a σ) {i j m : Nat} (hi : i < c) (hj : j < c) (hm : m < 600) : f_X6_isHigher σ (nI i) (nI j) (nI m) = some (if σ.1 (19 + i) m ≤ σ.1 (19 + j) m then 0 else 1) := by
  unfold f_X6_isHigher
  rw [mk_h9 h hi hm, mk_bs, mk_h9 h hj hm, mk_bs]
  by_cases q : σ.1 (19 + i) m ≤ σ.1 (19 + j) m
  · rw [if_pos q, if_pos q]
  · rw [if_neg q, if_neg q]
/-- a height asked for later: the same -/
theorem mk_heightQ {g c w n k d d2 a σ α} (h : mk_J g c w n k d d2 a α) (q : mk_fr mk_Zq σ α) {j m : Nat} (hj : j < c) (hm : m < 600) : ∃ τ, f_X10_heightOf α (nI j) (nI m) = some (σ.1 (19 + j) m, τ) ∧ mk_fr mk_Zq σ τ ∧ mk_fr mk_Zh α τ ∧ mk_J g c w n k d d2 a τ := by
  have hc := h.hc
  obtain ⟨τ, t1, t2, t3⟩ := mk_height h hj hm
  rw [q.1 (19 + j) m (by unfold mk_Zq; omega)] at t1
  exact ⟨τ, t1, mk_frt q (mk_hq t2), t2, t3⟩
theorem mk_overLoop {g c w n k d d2 a σ} (h : mk_J g c w n k d d2 a σ) {i j : Nat} (hi : i < c) (hj : j < c) : ∀ (f m : Nat) (τ : mj_S), 600 < f + m → 1 ≤ m → m ≤ 600 → mk_J g c w n k d d2 a τ → mk_fr mk_Zq σ τ → ∃ v τ', b_X6_firstOvertaking_25 σ f (nI i) (nI j) (nI m) = some v ∧ b_X10_overtakes_87 f (nI i) (nI j) (nI m) τ = some (v, τ') ∧ mk_J g c w n k d d2 a τ'
  | 0, m, τ, hf, h1, hm, _, _ => absurd hf (by omega)
  | f + 1, m, τ, hf, h1, hm, hτ, q => by
    unfold b_X6_firstOvertaking_25 b_X10_overtakes_87
    by_cases h6 : m = 600
    · have l : (600 : Int32) ≤ nI m := by rw [h6]; exact nI_le (a := 600) (b := 600) (by omega) (by omega)
      exact ⟨-2, τ, by rw [if_pos l], by rw [if_pos l], hτ⟩
    have l : ¬ (600 : Int32) ≤ nI m := nI_ge (a := m) (b := 600) (by omega) (by omega)
    obtain ⟨e, rfl⟩ : ∃ e, m = e + 1 := ⟨m - 1, by omega⟩
    obtain ⟨τ1, a1, a2, _, a3⟩ := mk_heightQ hτ q hi (show e + 1 < 600 by omega)
    obtain ⟨τ2, b1, b2, _, b3⟩ := mk_heightQ a3 a2 hj (show e + 1 < 600 by omega)
    rw [if_neg l, if_neg l, mk_higher h hi hj (by omega), mk_bs, a1, mk_bs, b1, mk_bs, nI_pred, nI_1]
    by_cases c1 : σ.1 (19 + i) (e + 1) ≤ σ.1 (19 + j) (e + 1)
    · rw [if_pos c1, if_pos rfl, if_pos c1]
      exact mk_overLoop h hi hj f (e + 2) τ2 (by omega) (by omega) (by omega) b3 b2
    obtain ⟨τ3, c1', c2', _, c3'⟩ := mk_heightQ b3 b2 hi (show e < 600 by omega)
    obtain ⟨τ4, d1, d2', _, d3⟩ := mk_heightQ c3' c2' hj (show e < 600 by omega)
    rw [if_neg c1, if_neg (by decide), if_neg c1, mk_higher h hi hj (by omega), mk_bs, c1', mk_bs, d1, mk_bs]
    by_cases c2 : σ.1 (19 + i) e ≤ σ.1 (19 + j) e
    · rw [if_pos c2, if_pos rfl, if_neg (show ¬ σ.1 (19 + j) e < σ.1 (19 + i) e from by rw [mk_ltt]; rw [mk_lee] at c2; omega)]
      exact ⟨_, _, rfl, rfl, d3⟩
    · rw [if_neg c2, if_neg (by decide), if_pos (show σ.1 (19 + j) e < σ.1 (19 + i) e from by rw [mk_ltt]; rw [mk_lee] at c2; omega)]
      exact mk_overLoop h hi hj f (e + 2) τ4 (by omega) (by omega) (by omega) d3 d2'
theorem op_overtakes (σ : mj_S) (x0 : Int32) : mk_I σ → ∃ (v : Int32) (σ1 σ2 : mj_S), (f_X9_overtakes σ x0 = some v ∧ σ1 = σ) ∧ f_X10_overtakes σ1 x0 = some (v, σ2) ∧ mk_I σ2 := by
  rintro ⟨g, c, w, n, k, d, d2, a, h⟩
  have hI : mk_I σ := ⟨g, c, w, n, k, d, d2, a, h⟩
  have hc := h.hc
  refine mk_3 (f9 := fun σ => f_X9_overtakes σ x0) (f10 := fun σ => f_X10_overtakes σ x0) ?_
  simp only [f_X9_overtakes, f_X10_overtakes, mk_has2 h, mk_child10 h]
  by_cases h0 : x0 < 0
  · exact ⟨_, σ, by rw [if_pos h0], by rw [if_pos h0], hI⟩
  simp only [if_neg h0]
  by_cases h1 : mk_bt (x0 / 10).toInt 0 (c - 1) = 0
  · exact ⟨_, σ, by rw [if_pos h1], by rw [if_pos h1], hI⟩
  simp only [if_neg h1]
  by_cases h2 : mk_bt (mj_rem x0 10).toInt 0 (c - 1) = 0
  · exact ⟨_, σ, by rw [if_pos h2], by rw [if_pos h2], hI⟩
  simp only [if_neg h2]
  by_cases h3 : x0 / 10 = mj_rem x0 10
  · exact ⟨_, σ, by rw [if_pos h3], by rw [if_pos h3], hI⟩
  simp only [if_neg h3]
  obtain ⟨i, hi, ei⟩ := mk_bt_of (x := x0 / 10) (n := c) (mk_in_of h1) (by omega)
  obtain ⟨j, hj, ej⟩ := mk_bt_of (x := mj_rem x0 10) (n := c) (mk_in_of h2) (by omega)
  obtain ⟨bi, hbi, ebi⟩ := (h.kid i hi).rb
  obtain ⟨bj, hbj, ebj⟩ := (h.kid j hj).rb
  rw [ei, ej]
  have hbi7 := mk_in7 (i := i) (by omega)
  have hbj7 := mk_in7 (i := j) (by omega)
  have ci : (nI i).toNatClampNeg = i := nI_clamp (by omega)
  have cj : (nI j).toNatClampNeg = j := nI_clamp (by omega)
  rw [if_pos hbi7, if_pos hbj7, if_pos hbj7, if_pos hbi7, ci, cj, ← (h.kid i hi).born, ← (h.kid j hj).born, ebi, ebj, nI_1, nI_1]
  unfold f_X6_firstOvertaking
  rw [(mk_born9 h hi 0).2, mk_bs, (mk_born9 h hj 0).2, mk_bs, ebi, ebj]
  have fin : ∀ s, s ≤ 599 → ∃ v τ, (b_X6_firstOvertaking_25 σ mj_fu (nI i) (nI j) (nI (s + 1))) = some v ∧ b_X10_overtakes_87 mj_fu (nI i) (nI j) (nI (s + 1)) σ = some (v, τ) ∧ mk_I τ := by
    intro s hs
    obtain ⟨v, τ, o1, o2, o3⟩ := mk_overLoop h hi hj mj_fu (s + 1) σ (by show 600 < 5000 + (s + 1); omega) (by omega) (by omega) h ⟨fun _ _ _ => rfl, rfl⟩
    exact ⟨v, τ, o1, o2, g, c, w, n, k, d, d2, a, o3⟩
  have eb : ∀ o : Option Int32, (o.bind fun r5 => some r5) = o := fun o => by cases o <;> rfl
  rw [eb]
  by_cases hle : bi ≤ bj
  · have em : mj_max (nI bi) (nI bj) = nI bj := by
      unfold mj_max
      by_cases hlt : bi < bj
      · rw [if_pos (nI_lt hlt (by omega))]
      · rw [if_neg (nI_nlt (by omega) (by omega))]
        have : bi = bj := by omega
        rw [this]
    rw [em, nI_1, if_pos (nI_le hle (by omega))]
    exact fin bj hbj
  · have em : mj_max (nI bi) (nI bj) = nI bi := by
      unfold mj_max
      rw [if_neg (nI_nlt (by omega) (by omega))]
    rw [em, nI_1, if_neg (nI_ge (by omega) (by omega))]
    exact fin bi hbi
