-- odds
abbrev mk_may (σ : mj_S) (c i j : Nat) : Prop := mk_bt (σ.1 37 i).toInt 0 (c - 1) = 0 ∨ σ.1 37 i = nI j
def mk_W0 (d : Int32) : Int32 := if 0 ≤ d then 10000 / (1 + d) else 0
def mk_W (σ : mj_S) (c i j m : Nat) : Int32 := if mk_may σ c i j then mk_W0 (mk_D σ (σ.1 36 i) j m (σ.1 39 i)) else 0
theorem mk_W9 {g c w n k d d2 a σ} (h : mk_J g c w n k d d2 a σ) {i j m : Nat} (hi : i < k) (hj : j < c) (hm : m < 600) (em : σ.1 38 i = nI m) : f_X3_weight σ (nI i) (nI j) = some (mk_W σ c i j m) := by
  have hc := h.hc
  have hk := h.hk
  have tt := mk_m9 h hi
  have b45 : b_X3_weight_45 σ (nI i) (nI j) (nI m) = some (mk_W0 (mk_D σ (σ.1 36 i) j m (σ.1 39 i))) := by
    unfold b_X3_weight_45 mk_W0
    rw [tt.1, mk_bs, tt.2.1, mk_bs, mk_dist9 h hj hm, mk_bs]
    by_cases q : (0 : Int32) ≤ mk_D σ (σ.1 36 i) j m (σ.1 39 i)
    · rw [if_pos q, if_pos q, if_neg ?_]
      intro e
      have e0 : (0 : Int32).toInt = 0 := rfl
      have e1 : (1 : Int32).toInt = 1 := rfl
      rw [mk_lee, e0] at q
      rcases mk_D_r h hj hm (mk_r_in (h.mark i hi).rh (by omega)) (σ.1 39 i) with ⟨r, _⟩ | ⟨_, r1, r2⟩
      · rw [r] at q
        exact absurd q (by decide)
      · have := congrArg Int32.toInt e
        rw [mk_add (by rw [e1]; omega) (by rw [e1]; omega), e0, e1] at this
        omega
    · rw [if_neg q, if_neg q]
  unfold f_X3_weight mk_W
  rw [tt.2.2.2, mk_bs, tt.2.2.1, mk_bs, em, mk_month9, if_neg (mk_btn (by rw [nI_toInt (by omega)]; omega)), mk_has2 h, b45]
  by_cases q1 : mk_bt (σ.1 37 i).toInt 0 (c - 1) = 0
  · rw [if_pos q1, if_pos (.inl q1)]
  · rw [if_neg q1]
    by_cases q2 : σ.1 37 i = nI j
    · rw [if_pos q2, if_pos (.inr q2)]
    · rw [if_neg q2, if_neg (fun z => z.elim q1 q2)]
theorem mk_W9no {g c w n k d d2 a σ} (h : mk_J g c w n k d d2 a σ) {i : Nat} (hi : i < k) (em : σ.1 38 i = 600) (x : Int32) : f_X3_weight σ (nI i) x = some 0 := by
  unfold f_X3_weight
  rw [(mk_m9 h hi).2.2.2, mk_bs, (mk_m9 h hi).2.2.1, mk_bs, em, mk_month9, if_pos (by decide)]
theorem mk_mayBe {g c w n k d d2 a σ τ} (h : mk_J g c w n k d d2 a σ) (hτ : mk_J g c w n k d d2 a τ) (q : mk_fr mk_Zq σ τ) {i j : Nat} (hi : i < k) (hj : j < c) : f_X10_mayBe τ (nI i) (nI j) = some (if mk_may σ c i j then 1 else 0) := by
  have hk := h.hk
  have hb := mk_in30 (i := i) (by omega)
  have hcl : (nI i).toNatClampNeg = i := nI_clamp (by omega)
  have e79 : τ.1 79 i = σ.1 37 i := (q.1 79 i (by unfold mk_Zq; omega)).trans (h.mark i hi).name.symm
  unfold f_X10_mayBe
  rw [if_pos hb, if_pos hb, hcl, e79, mk_child10 hτ]
  by_cases q1 : mk_bt (σ.1 37 i).toInt 0 (c - 1) = 0
  · rw [if_pos q1, if_pos (.inl q1)]
  · rw [if_neg q1]
    by_cases q2 : σ.1 37 i = nI j
    · rw [if_pos q2, if_pos (.inr q2)]
    · rw [if_neg q2, if_neg (fun z => z.elim q1 q2)]
theorem mk_offOf {g c w n k d d2 a σ τ} (h : mk_J g c w n k d d2 a σ) (hτ : mk_J g c w n k d d2 a τ) (q : mk_fr mk_Zq σ τ) {i j m : Nat} (hi : i < k) (hj : j < c) (hm : m < 600) : ∃ τ', f_X10_offOf τ (nI i) (nI j) (nI m) = some (mk_D σ (σ.1 36 i) j m (σ.1 39 i), τ') ∧ mk_fr mk_Zq σ τ' ∧ mk_fr mk_Zh τ τ' ∧ mk_J g c w n k d d2 a τ' := by
  have hk := h.hk
  have hc := h.hc
  have e1 : 12 + nI i = nI (12 + i) := nI_add 12 i
  have e2 : 42 + nI i = nI (42 + i) := nI_add 42 i
  have eh : τ.1 65 (12 + i) = σ.1 36 i := (q.1 65 _ (by unfold mk_Zq; omega)).trans (h.mark i hi).height.symm
  have ew : τ.1 65 (42 + i) = σ.1 39 i := (q.1 65 _ (by unfold mk_Zq; omega)).trans (h.mark i hi).way.symm
  obtain ⟨τ', t1, t2, t3⟩ := mk_dist10 hτ hj hm (mk_r_in (h.mark i hi).rh (by omega)) (σ.1 39 i)
  refine ⟨τ', ?_, mk_frt q (mk_hq t2), t2, t3⟩
  unfold f_X10_offOf
  rw [e1, e2, if_pos (mk_in72 (by omega)), if_pos (mk_in72 (by omega)), nI_clamp (by omega), nI_clamp (by omega), eh, ew, t1, mk_bs, mk_DQ q _ (by omega)]
theorem mk_oddLoop {g c w n k d d2 a σ} (h : mk_J g c w n k d d2 a σ) {i m : Nat} (hi : i < k) (hm : m < 600) (em : σ.1 38 i = nI m) (x p : Int32) (hp : mj_rem x 10 = p) : ∀ (f j : Nat) (own sum : Int32) (τ : mj_S), c < f + j → j ≤ c → mk_J g c w n k d d2 a τ → mk_fr mk_Zq σ τ → ∃ v τ', b_X3_chance_8 σ f (nI i) p own sum (nI j) = some v ∧ b_X10_odds_38 f x (nI i) sum own (nI j) τ = some (v, τ') ∧ mk_J g c w n k d d2 a τ'
  | 0, j, own, sum, τ, hf, hj, _, _ => absurd hf (by omega)
  | f + 1, j, own, sum, τ, hf, hj, hτ, q => by
    have hc := h.hc
    have hk := h.hk
    unfold b_X3_chance_8 b_X10_odds_38 f_X2_size
    rw [h.c9, hτ.c64]
    by_cases hjc : j = c
    · have l : nI c ≤ nI j := by rw [hjc]; exact nI_le (by omega) (by omega)
      rw [if_pos l, if_pos l]
      by_cases hs : sum = 0
      · exact ⟨-2, τ, by rw [if_pos hs], by rw [if_pos hs], hτ⟩
      · exact ⟨_, τ, by rw [if_neg hs, if_neg hs], by rw [if_neg hs, if_neg hs], hτ⟩
    have hj2 : j < c := by omega
    have l : ¬ nI c ≤ nI j := nI_ge hj2 (by omega)
    have hb := mk_in30 (i := i) (by omega)
    have hcl : (nI i).toNatClampNeg = i := nI_clamp (by omega)
    rw [if_neg l, if_neg l, mk_W9 h hi hj2 hm em, mk_bs, mk_mayBe h hτ q hi hj2, mk_bs, nI_1]
    -- the step, the weight known
    have step : ∀ τ', mk_J g c w n k d d2 a τ' → mk_fr mk_Zq σ τ' → ∀ tt, tt = mk_W σ c i j m → ∃ v τ'', (if nI j = p then b_X3_chance_8 σ f (nI i) p (mk_W σ c i j m) (sum + mk_W σ c i j m) (nI (j + 1)) else b_X3_chance_8 σ f (nI i) p own (sum + mk_W σ c i j m) (nI (j + 1))) = some v ∧ b_X10_odds_94 (b_X10_odds_38 f) x (nI i) sum own (nI j) tt τ' = some (v, τ'') ∧ mk_J g c w n k d d2 a τ'' := by
      intro τ' h1 h2 tt ht
      unfold b_X10_odds_94
      rw [ht, hp, nI_1]
      by_cases hjp : nI j = p
      · rw [if_pos hjp, if_pos hjp]
        exact mk_oddLoop h hi hm em x p hp f (j + 1) _ _ τ' (by omega) (by omega) h1 h2
      · rw [if_neg hjp, if_neg hjp]
        exact mk_oddLoop h hi hm em x p hp f (j + 1) _ _ τ' (by omega) (by omega) h1 h2
    by_cases hmay : mk_may σ c i j
    · have e80 : τ.1 80 i = nI m := (q.1 80 i (by unfold mk_Zq; omega)).trans ((h.mark i hi).month.symm.trans em)
      obtain ⟨τ1, o1, o2, _, o3⟩ := mk_offOf h hτ q hi hj2 hm
      rw [if_pos hmay, if_neg (show ¬ (1 : Int32) = 0 from by decide), if_pos hb, hcl, e80, o1, mk_bs]
      unfold b_X10_odds_75
      have ew : mk_W σ c i j m = mk_W0 (mk_D σ (σ.1 36 i) j m (σ.1 39 i)) := if_pos hmay
      by_cases q0 : (0 : Int32) ≤ mk_D σ (σ.1 36 i) j m (σ.1 39 i)
      · have hz : ¬ 1 + mk_D σ (σ.1 36 i) j m (σ.1 39 i) = 0 := by
          intro e
          have e0 : (0 : Int32).toInt = 0 := rfl
          have e1 : (1 : Int32).toInt = 1 := rfl
          have q0' := q0
          rw [mk_lee, e0] at q0'
          rcases mk_D_r h hj2 hm (mk_r_in (h.mark i hi).rh (by omega)) (σ.1 39 i) with ⟨r, _⟩ | ⟨_, r1, r2⟩
          · rw [r] at q0'
            exact absurd q0' (by decide)
          · have := congrArg Int32.toInt e
            rw [mk_add (by rw [e1]; omega) (by rw [e1]; omega), e0, e1] at this
            omega
        show ∃ v τ'', _ ∧ (if (0 : Int32) ≤ mk_D σ (σ.1 36 i) j m (σ.1 39 i) then if 1 + mk_D σ (σ.1 36 i) j m (σ.1 39 i) = 0 then none else b_X10_odds_94 (b_X10_odds_38 f) x (nI i) sum own (nI j) (10000 / (1 + mk_D σ (σ.1 36 i) j m (σ.1 39 i))) τ1 else b_X10_odds_94 (b_X10_odds_38 f) x (nI i) sum own (nI j) 0 τ1) = some (v, τ'') ∧ _
        rw [if_pos q0, if_neg hz]
        exact step τ1 o3 o2 (10000 / (1 + mk_D σ (σ.1 36 i) j m (σ.1 39 i))) (by rw [ew]; unfold mk_W0; rw [if_pos q0])
      · show ∃ v τ'', _ ∧ (if (0 : Int32) ≤ mk_D σ (σ.1 36 i) j m (σ.1 39 i) then if 1 + mk_D σ (σ.1 36 i) j m (σ.1 39 i) = 0 then none else b_X10_odds_94 (b_X10_odds_38 f) x (nI i) sum own (nI j) (10000 / (1 + mk_D σ (σ.1 36 i) j m (σ.1 39 i))) τ1 else b_X10_odds_94 (b_X10_odds_38 f) x (nI i) sum own (nI j) 0 τ1) = some (v, τ'') ∧ _
        rw [if_neg q0]
        exact step τ1 o3 o2 0 (by rw [ew]; unfold mk_W0; rw [if_neg q0])
    · rw [if_neg hmay, if_pos (show (0 : Int32) = 0 from rfl)]
      unfold b_X10_odds_75
      rw [if_neg (show ¬ (0 : Int32) ≤ -2 from by decide)]
      exact step τ hτ q 0 (if_neg hmay).symm
theorem mk_oddNo {g c w n k d d2 a σ} (h : mk_J g c w n k d d2 a σ) {i : Nat} (hi : i < k) (em : σ.1 38 i = 600) (p : Int32) : ∀ (f j : Nat) (own : Int32), c < f + j → j ≤ c → b_X3_chance_8 σ f (nI i) p own 0 (nI j) = some (-2)
  | 0, j, own, hf, hj => absurd hf (by omega)
  | f + 1, j, own, hf, hj => by
    have hc := h.hc
    unfold b_X3_chance_8 f_X2_size
    rw [h.c9]
    by_cases hjc : j = c
    · rw [if_pos (by rw [hjc]; exact nI_le (by omega) (by omega)), if_pos rfl]
    rw [if_neg (nI_ge (by omega) (by omega)), mk_W9no h hi em, mk_bs, nI_1, Int32.add_zero]
    by_cases hjp : nI j = p
    · rw [if_pos hjp]
      exact mk_oddNo h hi em p f (j + 1) _ (by omega) (by omega)
    · rw [if_neg hjp]
      exact mk_oddNo h hi em p f (j + 1) _ (by omega) (by omega)
theorem op_odds (σ : mj_S) (x0 : Int32) : mk_I σ → ∃ (v : Int32) (σ1 σ2 : mj_S), (f_X9_odds σ x0 = some v ∧ σ1 = σ) ∧ f_X10_odds σ1 x0 = some (v, σ2) ∧ mk_I σ2 := by
  rintro ⟨g, c, w, n, k, d, d2, a, h⟩
  have hI : mk_I σ := ⟨g, c, w, n, k, d, d2, a, h⟩
  have hc := h.hc
  have hk := h.hk
  refine mk_3 (f9 := fun σ => f_X9_odds σ x0) (f10 := fun σ => f_X10_odds σ x0) ?_
  obtain ⟨m1, m2⟩ := mk_mc h x0
  simp only [f_X9_odds, f_X10_odds, m1]
  by_cases h1 : f_X9_isMarkAndChild σ x0 = 0
  · exact ⟨_, σ, by rw [if_pos h1], by rw [if_pos h1], hI⟩
  simp only [if_neg h1]
  obtain ⟨i, j, hi, hj, ei, ej⟩ := m2 h1
  have hb := mk_in30 (i := i) (by omega)
  have hcl : (nI i).toNatClampNeg = i := nI_clamp (by omega)
  obtain ⟨m, hm, em⟩ := (h.mark i hi).rm
  have eb : ∀ o : Option Int32, (o.bind fun r5 => some r5) = o := fun o => by cases o <;> rfl
  unfold f_X3_chance
  rw [ei, eb, if_pos hb, hcl, ← (h.mark i hi).month]
  by_cases h6 : σ.1 38 i = 600
  · have := mk_oddNo h hi h6 (mj_rem x0 10) mj_fu 0 0 (by show c < 5000 + 0; omega) (by omega)
    rw [nI_0] at this
    exact ⟨-2, σ, this, by rw [if_pos h6], hI⟩
  · have hm6 : m < 600 := by
      by_cases q : m = 600
      · rw [q] at em
        exact absurd em h6
      · omega
    obtain ⟨v, τ, o1, o2, o3⟩ := mk_oddLoop h hi hm6 em x0 (mj_rem x0 10) rfl mj_fu 0 0 0 σ (by show c < 5000 + 0; omega) (by omega) h ⟨fun _ _ _ => rfl, rfl⟩
    rw [nI_0] at o1 o2
    exact ⟨v, τ, o1, by rw [if_neg h6]; exact o2, g, c, w, n, k, d, d2, a, o3⟩
