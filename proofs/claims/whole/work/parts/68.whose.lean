theorem mk_months {g c w n k d d2 a σ} (h : mk_J g c w n k d d2 a σ) {i M : Nat} (hi : i < k) (hM : M < 600) : ∀ (f m : Nat) (α β : mj_S), M + 1 < f + m → m ≤ M + 1 → mk_J g c w n k d d2 a α → mk_fr mk_Zq σ α → mk_J g c w n k d d2 a β → mk_fr mk_Zq σ β → mk_FR (mk_E σ i) c α β → ∃ α' β', mk_J g c w n k d d2 a α' ∧ mk_fr mk_Zq σ α' ∧ mk_J g c w n k d d2 a β' ∧ mk_fr mk_Zq σ β' ∧ mk_FR (mk_E σ i) c α' β' ∧
    b_X3_find_83 f (σ.1 36 i) (σ.1 39 i) (nI M) (mk_lo σ c i) (mk_hi σ c i) (nI m) α = some (if α'.1 40 2 < 0 then 0 else 1, α') ∧ b_X10_findWhose_69 f (nI i) (nI M) (nI m) β = some β'
  | 0, m, α, β, hf, hm, _, _, _, _, _ => absurd hf (by omega)
  | f + 1, m, α, β, hf, hm, hα, qα, hβ, qβ, r => by
    unfold b_X3_find_83 b_X10_findWhose_69
    by_cases hmM : m = M + 1
    · have l : nI M < nI m := nI_lt (by omega) (by omega)
      refine ⟨α, β, hα, qα, hβ, qβ, r, ?_, by rw [if_pos l]⟩
      rw [if_pos l]
      by_cases q : α.1 40 2 < 0
      · rw [if_pos q, if_pos q]
      · rw [if_neg q, if_neg q]
    · have l : ¬ nI M < nI m := nI_nlt (by omega) (by omega)
      obtain ⟨α', β', k1, k2, k3, k4, k5, k6, k7⟩ := mk_kids h hi (show m < 600 by omega) hα qα hβ qβ r
      obtain ⟨α'', β'', l1, l2, l3, l4, l5, l6, l7⟩ := mk_months h hi hM f (m + 1) α' β' (by omega) (by omega) k1 k2 k3 k4 k5
      refine ⟨α'', β'', l1, l2, l3, l4, l5, ?_, ?_⟩
      · rw [if_neg l, k6, nI_1]
        exact l6
      · rw [if_neg l, k7, nI_1]
        exact l7
theorem mk_find {g c w n k d d2 a σ τ} (h : mk_J g c w n k d d2 a σ) (hτ : mk_J g c w n k d d2 a τ) (qτ : mk_fr mk_Zq σ τ) {i : Nat} (hi : i < k) : ∃ α' β', f_X3_findFor σ (nI i) = some (if α'.1 40 2 < 0 then 0 else 1, α') ∧ f_X10_findWhose τ (nI i) = some β' ∧ mk_J g c w n k d d2 a α' ∧ mk_fr mk_Zq σ α' ∧ mk_J g c w n k d d2 a β' ∧ mk_fr mk_Zq σ β' ∧ mk_FR (mk_E σ i) c α' β' := by
  have hc := h.hc
  have hk := h.hk
  have tt := mk_m9 h hi
  have hb := mk_in30 (i := i) (by omega)
  have hcl : (nI i).toNatClampNeg = i := nI_clamp (by omega)
  obtain ⟨mm, hmm, em⟩ := (h.mark i hi).rm
  obtain ⟨α0, hα0⟩ : ∃ α0, α0 = mj_sI σ 40 2 (-1) := ⟨_, rfl⟩
  obtain ⟨β0, hβ0⟩ : ∃ β0, β0 = mj_sI (mj_sI (mj_sI τ 64 31 (-2)) 64 32 (-2)) 64 33 (-2) := ⟨_, rfl⟩
  have jα : mk_J g c w n k d d2 a α0 := by rw [hα0]; exact mk_J.mk (hc := h.hc) (c9 := h.c9) (c64 := h.c64) (kid := h.kid) (hw := h.hw) (w9 := h.w9) (w64 := h.w64) (want := h.want) (noWant := h.noWant) (hn := h.hn) (n5 := h.n5) (n64 := h.n64) (tape := h.tape) (bytes := h.bytes) (law := h.law) (stale := h.stale) (rows := h.rows) (rowsM := h.rowsM) (grown := h.grown) (hk := h.hk) (k35 := h.k35) (k64 := h.k64) (mark := h.mark) (painted := h.painted) (ahead := h.ahead) (hd := h.hd) (hd2 := h.hd2) (d45 := h.d45) (d64 := h.d64) (e45 := h.e45) (e64 := h.e64) (chg := h.chg) (ha := h.ha) (a50 := h.a50) (a64 := h.a64) (body := h.body) (ran := h.ran) (trace := h.trace) (shelf := h.shelf)
  have jβ : mk_J g c w n k d d2 a β0 := by rw [hβ0]; exact mk_J31 hτ _ _ _
  have fα : mk_fr mk_Zq σ α0 := by rw [hα0]; exact mk_frI (by unfold mk_Zq; omega)
  have fβ : mk_fr mk_Zq σ β0 := by
    rw [hβ0]
    exact mk_frt (mk_frt (mk_frt qτ (mk_frI (by unfold mk_Zq; omega))) (mk_frI (by unfold mk_Zq; omega))) (mk_frI (by unfold mk_Zq; omega))
  have r0 : mk_FR (mk_E σ i) c α0 β0 := by rw [hα0, hβ0]; exact .inl ⟨rfl, rfl, rfl, rfl⟩
  have has0 : f_X2_has α0 (σ.1 37 i) = mk_bt (σ.1 37 i).toInt 0 (c - 1) := mk_has2 jα _
  have e80 : β0.1 80 i = σ.1 38 i := (fβ.1 80 i (by unfold mk_Zq; omega)).trans (h.mark i hi).month.symm
  -- both with their months from F to M
  have both : ∀ F M : Nat, F ≤ M → M < 600 → (if f_X9_isMonth α0 (σ.1 38 i) = 0 then b_X3_find_17 (σ.1 36 i) (σ.1 37 i) (σ.1 38 i) (σ.1 39 i) 0 α0 else b_X3_find_17 (σ.1 36 i) (σ.1 37 i) (σ.1 38 i) (σ.1 39 i) (σ.1 38 i) α0) = b_X3_find_33 (σ.1 36 i) (σ.1 37 i) (σ.1 39 i) (nI F) (nI M) α0 → (if σ.1 38 i = 600 then b_X10_findWhose_40 (nI i) 0 β0 else b_X10_findWhose_40 (nI i) (σ.1 38 i) β0) = b_X10_findWhose_69 mj_fu (nI i) (nI M) (nI F) β0 → ∃ α' β', f_X3_findFor σ (nI i) = some (if α'.1 40 2 < 0 then 0 else 1, α') ∧ f_X10_findWhose τ (nI i) = some β' ∧ mk_J g c w n k d d2 a α' ∧ mk_fr mk_Zq σ α' ∧ mk_J g c w n k d d2 a β' ∧ mk_fr mk_Zq σ β' ∧ mk_FR (mk_E σ i) c α' β' := by
    intro F M hFM hM h9 h10
    obtain ⟨α', β', k1, k2, k3, k4, k5, k6, k7⟩ := mk_months h hi hM mj_fu F α0 β0 (by show M + 1 < 5000 + F; omega) (by omega) jα fα jβ fβ r0
    refine ⟨α', β', ?_, ?_, k1, k2, k3, k4, k5⟩
    · unfold f_X3_findFor
      rw [tt.1, mk_bs, tt.2.2.2, mk_bs, tt.2.2.1, mk_bs, tt.2.1, mk_bs]
      have ef : f_X3_find σ (σ.1 36 i) (σ.1 37 i) (σ.1 38 i) (σ.1 39 i) = some (if α'.1 40 2 < 0 then 0 else 1, α') := by
        unfold f_X3_find
        rw [← hα0, h9]
        unfold b_X3_find_33 b_X3_find_51 f_X2_size
        rw [has0, jα.c9]
        unfold mk_lo mk_hi at k6
        by_cases q : mk_bt (σ.1 37 i).toInt 0 (c - 1) = 0
        · rw [if_pos q, if_pos q] at k6
          rw [if_pos q, if_pos q]
          exact k6
        · rw [if_neg q, if_neg q] at k6
          rw [if_neg q, if_neg q]
          exact k6
      rw [ef, mk_bs]
      by_cases q : α'.1 40 2 < 0
      · rw [if_pos q]
        show some (mj_zb 0, α') = _
        rw [show mj_zb 0 = 0 by decide]
      · rw [if_neg q]
        show some (mj_zb 1, α') = _
        rw [show mj_zb 1 = 1 by decide]
    · unfold f_X10_findWhose
      have e80' : τ.1 80 i = σ.1 38 i := (qτ.1 80 i (by unfold mk_Zq; omega)).trans (h.mark i hi).month.symm
      have e80'' : (mj_sI (mj_sI (mj_sI τ 64 31 (-2)) 64 32 (-2)) 64 33 (-2)).1 80 i = σ.1 38 i := e80'
      rw [if_pos hb, if_pos hb, hcl]
      rw [← hβ0] at e80'' ⊢
      first
        | rw [e80'', h10]
          exact k7
        | rw [e80', h10]
          exact k7
  have h40 : ∀ t, b_X10_findWhose_40 (nI i) t β0 = if σ.1 38 i = 600 then b_X10_findWhose_69 mj_fu (nI i) 599 t β0 else b_X10_findWhose_69 mj_fu (nI i) (σ.1 38 i) t β0 := by
    intro t
    unfold b_X10_findWhose_40
    rw [if_pos hb, if_pos hb, hcl, e80]
  by_cases h6 : σ.1 38 i = 600
  · refine both 0 599 (by omega) (by omega) ?_ ?_
    · unfold b_X3_find_17
      rw [h6, mk_month9, if_pos (by decide), if_pos (by decide)]
      rfl
    · rw [if_pos h6, h40, if_pos h6]
      rfl
  · have hm6 : mm < 600 := by
      by_cases q : mm = 600
      · rw [q] at em
        exact absurd em h6
      · omega
    refine both mm mm (by omega) hm6 ?_ ?_
    · unfold b_X3_find_17
      have hz : ¬ mk_bt (nI mm).toInt 0 599 = 0 := mk_btn (by rw [nI_toInt (by omega)]; omega)
      rw [em, mk_month9, if_neg hz, if_neg hz]
    · rw [if_neg h6, h40, if_neg h6, em]
theorem mk_FR0 {E : Nat → Nat → Int32} {c : Nat} (hc : c ≤ 6) {α β : mj_S} (r : mk_FR E c α β) : (α.1 40 2 < 0 ∧ β.1 64 31 = -2 ∧ β.1 64 32 = -2 ∧ β.1 64 33 = -2) ∨ (¬ α.1 40 2 < 0 ∧ α.1 40 2 = β.1 64 31 ∧ α.1 40 3 = β.1 64 32 ∧ α.1 40 4 = β.1 64 33) := by
  rcases r with ⟨a1, a2, a3, a4⟩ | ⟨j', m', hj', hm', a1, a2, a3, a4, a5, _⟩
  · exact .inl ⟨by rw [a1]; decide, a2, a3, a4⟩
  · exact .inr ⟨by rw [a1]; exact nI_pos (by omega), by rw [a1, a2], by rw [a3, a4], a5⟩
theorem op_whose (σ : mj_S) (x0 x1 : Int32) : mk_I σ → ∃ (v : Int32) (σ1 σ2 : mj_S), f_X9_whose σ x0 x1 = some (v, σ1) ∧ f_X10_whose σ1 x0 x1 = some (v, σ2) ∧ mk_I σ2 := by
  rintro ⟨g, c, w, n, k, d, d2, a, h⟩
  have hI : mk_I σ := ⟨g, c, w, n, k, d, d2, a, h⟩
  have hk := h.hk
  have e0 : (0 : Int32).toInt = 0 := rfl
  have e2 : (2 : Int32).toInt = 2 := rfl
  have f0 : (0 : Int64).toInt = 0 := rfl
  have f2 : (2 : Int64).toInt = 2 := rfl
  unfold f_X9_whose f_X10_whose
  simp only [mk_has5 h, mk_w9, mk_lit64, e0, e2, f0, f2]
  by_cases h1 : mk_bt x0.toInt 0 (k - 1) = 0
  · exact ⟨-1, σ, σ, by rw [if_pos h1], by rw [mk_mark10 h, if_pos h1], hI⟩
  by_cases h2 : mk_bt x1.toInt 0 2 = 0
  · exact ⟨-1, σ, σ, by rw [if_neg h1, if_pos h2], by rw [mk_mark10 h, if_neg h1, if_pos h2], hI⟩
  obtain ⟨i, hi, rfl⟩ := mk_bt_of (x := x0) (n := k) (mk_in_of h1) (by omega)
  obtain ⟨α, _, f9, _, jα, qα, _, _, _⟩ := mk_find h h ⟨fun _ _ _ => rfl, rfl⟩ hi
  obtain ⟨α', β, f9', f10, jα', qα', jβ, qβ, r⟩ := mk_find h jα qα hi
  have hv := f9.symm.trans f9'
  obtain rfl : α = α' := congrArg Prod.snd (Option.some.inj hv)
  simp only [if_neg h1, if_neg h2, f9]
  rcases mk_FR0 h.hc r with ⟨r1, r2, r3, r4⟩ | ⟨r1, r2, r3, r4⟩
  · refine ⟨-2, α, β, ?_, ?_, g, c, w, n, k, d, d2, a, jβ⟩
    · rw [if_pos r1, mk_bs, if_pos rfl]
    · rw [mk_mark10 jα, if_neg h1, f10, mk_bs, r2, r3, r4, ite_self, ite_self]
  · have x10 : (if f_X10_isMark α (nI i) = 0 then some (-1, α) else (f_X10_findWhose α (nI i)).bind fun r3 => if x1 = 0 then some (r3.1 64 31, r3) else if x1 = 1 then some (r3.1 64 32, r3) else some (r3.1 64 33, r3)) = if x1 = 0 then some (β.1 64 31, β) else if x1 = 1 then some (β.1 64 32, β) else some (β.1 64 33, β) := by
      rw [mk_mark10 jα, if_neg h1, f10, mk_bs]
    rw [if_neg r1, mk_bs]
    have x9 : (if ((1 : Int32), α).1 = 0 then some ((-2 : Int32), ((1 : Int32), α).2) else if x1 = 0 then some (f_X3_foundChild ((1 : Int32), α).2, ((1 : Int32), α).2) else if x1 = 1 then some (f_X3_foundMonth ((1 : Int32), α).2, ((1 : Int32), α).2) else some (f_X3_foundDistance ((1 : Int32), α).2, ((1 : Int32), α).2)) = if x1 = 0 then some (α.1 40 2, α) else if x1 = 1 then some (α.1 40 3, α) else some (α.1 40 4, α) := rfl
    rw [x9]
    by_cases c0 : x1 = 0
    · exact ⟨_, α, β, if_pos c0, by rw [x10, if_pos c0, r2], g, c, w, n, k, d, d2, a, jβ⟩
    by_cases c1 : x1 = 1
    · exact ⟨_, α, β, by rw [if_neg c0, if_pos c1], by rw [x10, if_neg c0, if_pos c1, r3], g, c, w, n, k, d, d2, a, jβ⟩
    · exact ⟨_, α, β, by rw [if_neg c0, if_neg c1], by rw [x10, if_neg c0, if_neg c1, r4], g, c, w, n, k, d, d2, a, jβ⟩
