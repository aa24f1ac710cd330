-- how
theorem mk_offBy {g c w n k d d2 a σ β} (h : mk_J g c w n k d d2 a σ) (hβ : mk_J g c w n k d d2 a β) (q : mk_fr mk_Zq σ β) {i j m : Nat} (hi : i < k) (hj : j < c) (hm : m < 600) (wy : Int32) : ∃ β', f_X10_offBy β (σ.1 36 i) (nI j) (nI m) wy = some (mk_D σ (σ.1 36 i) j m wy, β') ∧ mk_J g c w n k d d2 a β' ∧ mk_fr mk_Zq σ β' ∧ mk_fr mk_Zh β β' := by
  have hc := h.hc
  obtain ⟨β', t1, t2, t3⟩ := mk_dist10 hβ hj hm (mk_r_in (h.mark i hi).rh (by omega)) wy
  rw [mk_DQ q _ (by omega)] at t1
  exact ⟨β', t1, t3, mk_frt q (mk_hq t2), t2⟩
theorem mk_howLoop {g c w n k d d2 a σ α} (h : mk_J g c w n k d d2 a σ) (hα : mk_J g c w n k d d2 a α) (qα : mk_fr mk_Zq σ α) {i j m : Nat} (hi : i < k) (hj : j < c) (hm : m < 600) (p2 : Int32) (a2 : α.1 40 2 = nI j) (a3 : α.1 40 3 = nI m) : ∀ (f t b : Nat) (β : mj_S), 5 < f + t → 1 ≤ t → t ≤ 5 → mk_J g c w n k d d2 a β → mk_fr mk_Zq σ β → β.1 64 31 = nI j → β.1 64 32 = nI m → ∃ b' β', b_X3_likeliestWay_4 α f (nI i) (nI b) (nI t) = some (nI b') ∧ b_X10_how_40 f (nI i) p2 (nI b) (nI t) β = some (if p2 = 0 then nI b' else if β.1 64 33 - mk_D σ (σ.1 36 i) j m (nI b') < 32 then 0 else 1, β') ∧ mk_J g c w n k d d2 a β'
  | 0, t, b, β, hf, h1, ht, _, _, _, _ => absurd hf (by omega)
  | f + 1, t, b, β, hf, h1, ht, hβ, q, b31, b32 => by
    have hk := h.hk
    have e12 : 12 + nI i = nI (12 + i) := nI_add 12 i
    have hcl : (nI (12 + i)).toNatClampNeg = 12 + i := nI_clamp (by omega)
    have hb72 := mk_in72 (i := 12 + i) (by omega)
    have eh : ∀ τ, mk_fr mk_Zq σ τ → τ.1 65 (12 + i) = σ.1 36 i := fun τ q => (q.1 65 _ (by unfold mk_Zq; omega)).trans (h.mark i hi).height.symm
    unfold b_X3_likeliestWay_4 b_X10_how_40
    rw [e12]
    simp only [if_pos hb72, hcl, eh β q, b31, b32]
    by_cases h5 : t = 5
    · have l9 : (4 : Int32) < nI t := by rw [h5]; exact nI_lt (a := 4) (b := 5) (by omega) (by omega)
      have l10 : (5 : Int32) ≤ nI t := by rw [h5]; exact nI_le (a := 5) (b := 5) (by omega) (by omega)
      obtain ⟨β', t1, t2, t3, t4⟩ := mk_offBy h hβ q hi hj hm (nI b)
      refine ⟨b, β', by rw [if_pos l9], ?_, t2⟩
      have b33 : β'.1 64 33 = β.1 64 33 := t4.1 64 33 (by unfold mk_Zh; omega)
      rw [if_pos l10, t1, mk_bs]
      by_cases c0 : p2 = 0
      · rw [if_pos c0, if_pos c0]
      · rw [if_neg c0, if_neg c0]
        show (if β'.1 64 33 - mk_D σ (σ.1 36 i) j m (nI b) < 32 then some (0, β') else some (1, β')) = _
        rw [b33]
        by_cases c1 : β.1 64 33 - mk_D σ (σ.1 36 i) j m (nI b) < 32
        · rw [if_pos c1, if_pos c1]
        · rw [if_neg c1, if_neg c1]
    · have l9 : ¬ (4 : Int32) < nI t := nI_nlt (a := 4) (b := t) (by omega) (by omega)
      have l10 : ¬ (5 : Int32) ≤ nI t := nI_ge (a := t) (b := 5) (by omega) (by omega)
      have fd : ∀ x, f_X3_foundDistanceBy α (nI i) x = some (mk_D σ (σ.1 36 i) j m x) := by
        intro x
        unfold f_X3_foundDistanceBy
        have e36 : α.1 36 i = σ.1 36 i := qα.1 36 i (by unfold mk_Zq; omega)
        rw [(mk_m9 hα hi).1, mk_bs, a2, a3, mk_dist9 hα hj hm, mk_bs, e36, mk_DQ qα _ (by have := h.hc; omega)]
      obtain ⟨β1, t1, t2, t3, t4⟩ := mk_offBy h hβ q hi hj hm (nI t)
      obtain ⟨β2, u1, u2, u3, u4⟩ := mk_offBy h t2 t3 hi hj hm (nI b)
      have c31 : β1.1 64 31 = nI j := (t4.1 64 31 (by unfold mk_Zh; omega)).trans b31
      have c32 : β1.1 64 32 = nI m := (t4.1 64 32 (by unfold mk_Zh; omega)).trans b32
      have d31 : β2.1 64 31 = nI j := (u4.1 64 31 (by unfold mk_Zh; omega)).trans c31
      have d32 : β2.1 64 32 = nI m := (u4.1 64 32 (by unfold mk_Zh; omega)).trans c32
      have d33 : β2.1 64 33 = β.1 64 33 := (u4.1 64 33 (by unfold mk_Zh; omega)).trans (t4.1 64 33 (by unfold mk_Zh; omega))
      rw [if_neg l9, if_neg l10, fd, mk_bs, fd, mk_bs, t1, mk_bs]
      show ∃ b' β', _ ∧ ((f_X10_offBy β1 (β1.1 65 (12 + i)) (β1.1 64 31) (β1.1 64 32) (nI b)).bind fun r13 => if r13.1 ≤ mk_D σ (σ.1 36 i) j m (nI t) then b_X10_how_40 f (nI i) p2 (nI b) (nI t + 1) r13.2 else b_X10_how_40 f (nI i) p2 (nI t) (nI t + 1) r13.2) = _ ∧ _
      rw [eh β1 t3, c31, c32, u1, mk_bs, nI_1]
      show ∃ b' β', _ ∧ (if mk_D σ (σ.1 36 i) j m (nI b) ≤ mk_D σ (σ.1 36 i) j m (nI t) then b_X10_how_40 f (nI i) p2 (nI b) (nI (t + 1)) β2 else b_X10_how_40 f (nI i) p2 (nI t) (nI (t + 1)) β2) = _ ∧ _
      rw [← d33]
      by_cases c1 : mk_D σ (σ.1 36 i) j m (nI b) ≤ mk_D σ (σ.1 36 i) j m (nI t)
      · rw [if_pos c1, if_pos c1]
        exact mk_howLoop h hα qα hi hj hm p2 a2 a3 f (t + 1) b β2 (by omega) (by omega) (by omega) u2 u3 d31 d32
      · rw [if_neg c1, if_neg c1]
        exact mk_howLoop h hα qα hi hj hm p2 a2 a3 f (t + 1) t β2 (by omega) (by omega) (by omega) u2 u3 d31 d32
theorem op_how (σ : mj_S) (x0 x1 : Int32) : mk_I σ → ∃ (v : Int32) (σ1 σ2 : mj_S), f_X9_how σ x0 x1 = some (v, σ1) ∧ f_X10_how σ1 x0 x1 = some (v, σ2) ∧ mk_I σ2 := by
  rintro ⟨g, c, w, n, k, d, d2, a, h⟩
  have hI : mk_I σ := ⟨g, c, w, n, k, d, d2, a, h⟩
  have hk := h.hk
  have hc := h.hc
  have e0 : (0 : Int32).toInt = 0 := rfl
  have e1 : (1 : Int32).toInt = 1 := rfl
  have f0 : (0 : Int64).toInt = 0 := rfl
  have f1 : (1 : Int64).toInt = 1 := rfl
  unfold f_X9_how f_X10_how
  simp only [mk_has5 h, mk_w9, mk_lit64, e0, e1, f0, f1]
  by_cases h1 : mk_bt x0.toInt 0 (k - 1) = 0
  · exact ⟨-1, σ, σ, by rw [if_pos h1], by rw [mk_mark10 h, if_pos h1], hI⟩
  by_cases h2 : mk_bt x1.toInt 0 1 = 0
  · exact ⟨-1, σ, σ, by rw [if_neg h1, if_pos h2], by rw [mk_mark10 h, if_neg h1, if_pos h2], hI⟩
  obtain ⟨i, hi, rfl⟩ := mk_bt_of (x := x0) (n := k) (mk_in_of h1) (by omega)
  obtain ⟨α, _, f9, _, jα, qα, _, _, _⟩ := mk_find h h ⟨fun _ _ _ => rfl, rfl⟩ hi
  obtain ⟨α', β, f9', f10, jα', qα', jβ, qβ, r⟩ := mk_find h jα qα hi
  have hv := f9.symm.trans f9'
  obtain rfl : α = α' := congrArg Prod.snd (Option.some.inj hv)
  simp only [if_neg h1, if_neg h2, f9]
  have x10 : (if f_X10_isMark α (nI i) = 0 then some (-1, α) else (f_X10_findWhose α (nI i)).bind fun r3 => if (0 : Int32) ≤ r3.1 64 31 then b_X10_how_40 mj_fu (nI i) x1 0 1 r3 else some (-2, r3)) = if (0 : Int32) ≤ β.1 64 31 then b_X10_how_40 mj_fu (nI i) x1 0 1 β else some (-2, β) := by
    rw [mk_mark10 jα, if_neg h1, f10, mk_bs]
  rcases r with ⟨a1, a2, a3, a4⟩ | ⟨j, m, hj, hm, a1, a2, a3, a4, a5, a6⟩
  · refine ⟨-2, α, β, ?_, ?_, g, c, w, n, k, d, d2, a, jβ⟩
    · rw [if_pos (show α.1 40 2 < 0 from by rw [a1]; decide), mk_bs, if_pos rfl]
    · rw [x10, if_neg (show ¬ (0 : Int32) ≤ β.1 64 31 from by rw [a2]; decide)]
  · obtain ⟨b, β', l9, l10, jβ'⟩ := mk_howLoop h jα qα hi hj hm x1 a1 a3 mj_fu 1 0 β (by decide) (by omega) (by omega) jβ qβ a2 a4
    have l9' : f_X3_likeliestWay α (nI i) = some (nI b) := l9
    have l10' : b_X10_how_40 mj_fu (nI i) x1 0 1 β = _ := l10
    have fd : ∀ x, f_X3_foundDistanceBy α (nI i) x = some (mk_D σ (σ.1 36 i) j m x) := by
      intro x
      unfold f_X3_foundDistanceBy
      have e36 : α.1 36 i = σ.1 36 i := qα.1 36 i (by unfold mk_Zq; omega)
      rw [(mk_m9 jα hi).1, mk_bs, a1, a3, mk_dist9 jα hj hm, mk_bs, e36, mk_DQ qα _ (by omega)]
    have e39 : α.1 39 i = σ.1 39 i := qα.1 39 i (by unfold mk_Zq; omega)
    have b33 : β.1 64 33 = mk_D σ (σ.1 36 i) j m (σ.1 39 i) := a5.symm.trans a6
    rw [if_neg (show ¬ α.1 40 2 < 0 from by rw [a1]; exact nI_pos (by omega)), mk_bs]
    have x9 : (if ((1 : Int32), α).1 = 0 then some ((-2 : Int32), ((1 : Int32), α).2) else if x1 = 0 then (f_X3_likeliestWay ((1 : Int32), α).2 (nI i)).bind fun r7 => some (r7, ((1 : Int32), α).2) else (f_X3_wrongWay ((1 : Int32), α).2 (nI i)).bind fun r6 => some (r6, ((1 : Int32), α).2)) = if x1 = 0 then (f_X3_likeliestWay α (nI i)).bind fun r7 => some (r7, α) else (f_X3_wrongWay α (nI i)).bind fun r6 => some (r6, α) := rfl
    rw [x9, l9', mk_bs]
    have y10 : (if (0 : Int32) ≤ β.1 64 31 then b_X10_how_40 mj_fu (nI i) x1 0 1 β else some (-2, β)) = b_X10_how_40 mj_fu (nI i) x1 0 1 β := if_pos (by rw [a2]; exact nI_pos' (by omega))
    by_cases c0 : x1 = 0
    · refine ⟨nI b, α, β', by rw [if_pos c0], ?_, g, c, w, n, k, d, d2, a, jβ'⟩
      rw [x10, y10, l10', if_pos c0]
    · have ww : f_X3_wrongWay α (nI i) = some (if mk_D σ (σ.1 36 i) j m (σ.1 39 i) - mk_D σ (σ.1 36 i) j m (nI b) < 32 then 0 else 1) := by
        unfold f_X3_wrongWay
        rw [l9', mk_bs, fd, mk_bs, (mk_m9 jα hi).2.1, mk_bs, e39, fd, mk_bs]
        by_cases c1 : mk_D σ (σ.1 36 i) j m (σ.1 39 i) - mk_D σ (σ.1 36 i) j m (nI b) < 32
        · rw [if_pos c1, if_pos c1]
        · rw [if_neg c1, if_neg c1]
      refine ⟨if mk_D σ (σ.1 36 i) j m (σ.1 39 i) - mk_D σ (σ.1 36 i) j m (nI b) < 32 then 0 else 1, α, β', by rw [if_neg c0, ww, mk_bs], ?_, g, c, w, n, k, d, d2, a, jβ'⟩
      rw [x10, y10, l10', if_neg c0, b33]
