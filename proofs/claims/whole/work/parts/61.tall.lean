-- tall, overtakes
theorem mk_three {σ : mj_S} {v : Int32} {f9 : Option Int32} {f10 : Option (Int32 × mj_S)} (τ : mj_S) (h9 : f9 = some v) (h10 : f10 = some (v, τ)) (hI : mk_I τ) : ∃ (v : Int32) (σ1 σ2 : mj_S), (f9 = some v ∧ σ1 = σ) ∧ f10 = some (v, σ2) ∧ mk_I σ2 := ⟨v, σ, τ, ⟨h9, rfl⟩, h10, hI⟩
theorem mk_3 {σ : mj_S} {f9 : mj_S → Option Int32} {f10 : mj_S → Option (Int32 × mj_S)} (hx : ∃ v τ, f9 σ = some v ∧ f10 σ = some (v, τ) ∧ mk_I τ) : ∃ (v : Int32) (σ1 σ2 : mj_S), (f9 σ = some v ∧ σ1 = σ) ∧ f10 σ1 = some (v, σ2) ∧ mk_I σ2 := by
  obtain ⟨v, τ, h9, h10, hI⟩ := hx
  exact ⟨v, σ, τ, ⟨h9, rfl⟩, h10, hI⟩
theorem mk_end {g c w n k d d2 a σ} (h : mk_J g c w n k d d2 a σ) {j b0 : Nat} (hj : j < c) (hb : b0 ≤ 599) (eb : σ.1 10 j = nI b0) : ∃ e, (e = if b0 + 240 ≤ 599 then b0 + 240 else 599) ∧ f_X6_endMonth σ (nI j) = some (nI e) ∧ f_X6_endOf σ (nI j) = some (σ.1 (19 + j) e) ∧ ∃ τ, f_X10_endOf σ (nI j) = some (σ.1 (19 + j) e, τ) ∧ mk_fr mk_Zh σ τ ∧ mk_J g c w n k d d2 a τ := by
  have hc := h.hc
  have e240 : nI b0 + 240 = nI (b0 + 240) := nI_add b0 240
  refine ⟨if b0 + 240 ≤ 599 then b0 + 240 else 599, rfl, ?_⟩
  have e9 : f_X6_endMonth σ (nI j) = some (nI (if b0 + 240 ≤ 599 then b0 + 240 else 599)) := by
    unfold f_X6_endMonth
    rw [(mk_born9 h hj 0).2, mk_bs, eb, e240]
    unfold mj_min
    by_cases c1 : b0 + 240 ≤ 599
    · rw [if_neg (show ¬ (599 : Int32) < nI (b0 + 240) from nI_nlt (a := 599) (b := b0 + 240) c1 (by omega)), if_pos c1]
    · rw [if_pos (show (599 : Int32) < nI (b0 + 240) from nI_lt (a := 599) (b := b0 + 240) (by omega) (by omega)), if_neg c1]
      rfl
  have hm : (if b0 + 240 ≤ 599 then b0 + 240 else 599) < 600 := by
    by_cases c1 : b0 + 240 ≤ 599
    · rw [if_pos c1]
      omega
    · rw [if_neg c1]
      omega
  refine ⟨e9, ?_, ?_⟩
  · unfold f_X6_endOf
    rw [e9, mk_bs, mk_h9 h hj hm, mk_bs]
  · obtain ⟨τ, t1, t2, t3⟩ := mk_height h hj hm
    refine ⟨τ, ?_, t2, t3⟩
    unfold f_X10_endOf b_X10_endOf_27
    rw [if_pos (mk_in7 (by omega)), nI_clamp (by omega), ← (h.kid j hj).born, eb, e240]
    by_cases c1 : b0 + 240 ≤ 599
    · rw [if_pos c1] at t1
      rw [if_pos (show nI (b0 + 240) ≤ (599 : Int32) from nI_le (b := 599) c1 (by omega)), if_pos c1, t1, mk_bs]
    · rw [if_neg c1] at t1
      have t1' : f_X10_heightOf σ (nI j) 599 = some (σ.1 (19 + j) 599, τ) := t1
      rw [if_neg (show ¬ nI (b0 + 240) ≤ (599 : Int32) from nI_ge (a := 599) (b := b0 + 240) (by omega) (by omega)), if_neg c1, t1', mk_bs]
theorem mk_twice {g c w n k d d2 a σ} (h : mk_J g c w n k d d2 a σ) {j : Nat} (hj : j < c) : ∃ v, f_X6_twiceAtTwo σ (nI j) = some v ∧ ((v = -2) ∨ 0 ≤ v.toInt) ∧ ∃ τ, f_X10_twiceOf σ (nI j) = some (v, τ) ∧ mk_fr mk_Zh σ τ ∧ mk_J g c w n k d d2 a τ := by
  have hc := h.hc
  obtain ⟨b0, hb, eb⟩ := (h.kid j hj).rb
  have e24 : nI b0 + 24 = nI (b0 + 24) := nI_add b0 24
  unfold f_X6_twiceAtTwo f_X10_twiceOf
  rw [(mk_born9 h hj 0).2, mk_bs, if_pos (mk_in7 (by omega)), if_pos (mk_in7 (by omega)), nI_clamp (by omega), ← (h.kid j hj).born, eb, e24, mk_month9]
  by_cases c1 : b0 + 24 < 600
  · obtain ⟨τ, t1, t2, t3⟩ := mk_height h hj c1
    obtain ⟨_, _, _, q, hq, eq⟩ := mk_hr h hj c1
    refine ⟨2 * σ.1 (19 + j) (b0 + 24), ?_, ?_, τ, ?_, t2, t3⟩
    · rw [if_neg (mk_btn (by rw [nI_toInt (by omega)]; omega)), mk_h9 h hj c1, mk_bs]
    · rw [eq]
      have : 2 * nI q = nI (2 * q) := mk_mulN 2 q
      rw [this, nI_toInt (by omega)]
      omega
    · rw [if_neg (show ¬ (600 : Int32) ≤ nI (b0 + 24) from nI_ge (a := b0 + 24) (b := 600) c1 (by omega)), t1, mk_bs]
  · refine ⟨-2, ?_, .inl rfl, σ, ?_, ⟨fun _ _ _ => rfl, rfl⟩, h⟩
    · rw [if_pos (mk_bt0.mpr (by rw [nI_toInt (by omega)]; omega))]
    · rw [if_pos (show (600 : Int32) ≤ nI (b0 + 24) from nI_le (a := 600) (b := b0 + 24) (by omega) (by omega))]
theorem mk_byPar {g c w n k d d2 a σ} (h : mk_J g c w n k d d2 a σ) {j : Nat} (hj : j < c) : ∃ v, f_X6_byParents σ (nI j) = some v ∧ ∀ τ, mk_fr mk_Zh σ τ → f_X10_byParents τ (nI j) = some v := by
  have hc := h.hc
  have e6 : 6 + nI j = nI (6 + j) := nI_add 6 j
  have tt := mk_t9 h hj
  have kd := h.kid j hj
  unfold f_X6_byParents f_X10_byParents
  rw [tt.2.2.2.2, mk_bs, tt.2.1, mk_bs]
  by_cases c1 : σ.1 11 j = 1
  · refine ⟨σ.1 14 j + 160, by rw [if_pos c1], fun τ q => ?_⟩
    rw [e6, if_pos (mk_in72 (by omega)), if_pos (mk_in7 (by omega)), nI_clamp (by omega), nI_clamp (by omega), q.1 70 j (by unfold mk_Zh; omega), q.1 65 (6 + j) (by unfold mk_Zh; omega), ← kd.sex, ← kd.parents, if_pos c1]
  · refine ⟨σ.1 14 j - 160, by rw [if_neg c1], fun τ q => ?_⟩
    rw [e6, if_pos (mk_in72 (by omega)), if_pos (mk_in7 (by omega)), nI_clamp (by omega), nI_clamp (by omega), q.1 70 j (by unfold mk_Zh; omega), q.1 65 (6 + j) (by unfold mk_Zh; omega), ← kd.sex, ← kd.parents, if_neg c1, Int32.sub_eq_add_neg]
theorem op_tall (σ : mj_S) (x0 x1 : Int32) : mk_I σ → ∃ (v : Int32) (σ1 σ2 : mj_S), (f_X9_tall σ x0 x1 = some v ∧ σ1 = σ) ∧ f_X10_tall σ1 x0 x1 = some (v, σ2) ∧ mk_I σ2 := by
  rintro ⟨g, c, w, n, k, d, d2, a, h⟩
  have hI : mk_I σ := ⟨g, c, w, n, k, d, d2, a, h⟩
  have hc := h.hc
  refine mk_3 (f9 := fun σ => f_X9_tall σ x0 x1) (f10 := fun σ => f_X10_tall σ x0 x1) ?_
  simp only [f_X9_tall, f_X10_tall, mk_has2 h, mk_child10 h]
  by_cases h1 : mk_bt x0.toInt 0 (c - 1) = 0
  · exact ⟨_, σ, by rw [if_pos h1], by rw [if_pos h1], hI⟩
  simp only [if_neg h1]
  obtain ⟨j, hj, rfl⟩ := mk_bt_of (x := x0) (n := c) (mk_in_of h1) (by omega)
  obtain ⟨b0, hb, eb⟩ := (h.kid j hj).rb
  by_cases c0 : x1 = 0
  · obtain ⟨e, he, m1, m2, τ, t1, t2, t3⟩ := mk_end h hj hb eb
    exact ⟨_, τ, by rw [if_pos c0, m2, mk_bs], by rw [if_pos c0, t1, mk_bs], g, c, w, n, k, d, d2, a, t3⟩
  simp only [if_neg c0]
  by_cases c1 : x1 = 1
  · obtain ⟨v, m1, m2, τ, t1, t2, t3⟩ := mk_twice h hj
    exact ⟨_, τ, by rw [if_pos c1, m1, mk_bs], by rw [if_pos c1, t1, mk_bs], g, c, w, n, k, d, d2, a, t3⟩
  simp only [if_neg c1]
  by_cases c2 : x1 = 2
  · obtain ⟨v, m1, m2⟩ := mk_byPar h hj
    exact ⟨v, σ, by rw [if_pos c2, m1, mk_bs], by rw [if_pos c2, m2 σ ⟨fun _ _ _ => rfl, rfl⟩, mk_bs], hI⟩
  simp only [if_neg c2]
  by_cases c3 : x1 = 3
  · simp only [if_pos c3]
    obtain ⟨v, m1, m2, τ, t1, t2, t3⟩ := mk_twice h hj
    rw [m1, mk_bs, t1, mk_bs]
    have e0 : (0 : Int32).toInt = 0 := rfl
    by_cases hv : v = -2
    · refine ⟨_, τ, by rw [if_pos hv], ?_, g, c, w, n, k, d, d2, a, t3⟩
      rw [if_neg (show ¬ (0 : Int32) ≤ v from by rw [hv]; decide)]
    · have hv0 : (0 : Int32) ≤ v := by
        rcases m2 with q | q
        · exact absurd q hv
        · rw [mk_lee, e0]
          exact q
      have eb' : τ.1 10 j = nI b0 := (t2.1 10 j (by unfold mk_Zh; omega)).trans eb
      obtain ⟨e, he, n1, n2, τ2, u1, u2, u3⟩ := mk_end t3 hj hb eb'
      obtain ⟨e', he', n1', n2', _⟩ := mk_end h hj hb eb
      obtain ⟨v', p1, p2, τ3, q1, q2, q3⟩ := mk_twice u3 hj
      have hee : e' = e := he'.trans he.symm
      have hrow : τ.1 (19 + j) e = σ.1 (19 + j) e := t2.1 _ _ (by unfold mk_Zh; omega)
      have htw : v' = v := by
        have z : ∀ τ', mk_fr mk_Zh σ τ' → mk_J g c w n k d d2 a τ' → f_X6_twiceAtTwo τ' (nI j) = f_X6_twiceAtTwo σ (nI j) := by
          intro τ' y1 y2
          unfold f_X6_twiceAtTwo
          have ebt : τ'.1 10 j = nI b0 := (y1.1 10 j (by unfold mk_Zh; omega)).trans eb
          have e24 : nI b0 + 24 = nI (b0 + 24) := nI_add b0 24
          rw [(mk_born9 y2 hj 0).2, (mk_born9 h hj 0).2, mk_bs, mk_bs, ebt, eb, mk_month9, mk_month9, e24]
          by_cases cc : b0 + 24 < 600
          · rw [mk_h9 y2 hj cc, mk_h9 h hj cc, y1.1 _ _ (by unfold mk_Zh; omega)]
          · rw [if_pos (mk_bt0.mpr (by rw [nI_toInt (by omega)]; omega)), if_pos (mk_bt0.mpr (by rw [nI_toInt (by omega)]; omega))]
        have := z τ2 (mk_frt t2 u2) u3
        rw [p1, m1] at this
        exact Option.some.inj this
      refine ⟨σ.1 (19 + j) e - v, τ3, ?_, ?_, g, c, w, n, k, d, d2, a, q3⟩
      · rw [if_neg hv, n2', mk_bs, hee]
      · rw [if_pos hv0, u1, mk_bs, q1, mk_bs, hrow, htw]
  simp only [if_neg c3]
  by_cases c4 : x1 = 4
  · obtain ⟨e, he, m1, m2, τ, t1, t2, t3⟩ := mk_end h hj hb eb
    obtain ⟨v, p1, p2⟩ := mk_byPar h hj
    exact ⟨_, τ, by rw [if_pos c4, m2, mk_bs, p1, mk_bs], by rw [if_pos c4, t1, mk_bs, p2 τ t2, mk_bs], g, c, w, n, k, d, d2, a, t3⟩
  · exact ⟨_, σ, by rw [if_neg c4], by rw [if_neg c4], hI⟩
