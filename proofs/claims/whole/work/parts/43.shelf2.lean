-- rows on shelves
theorem mk_zero9 {e : Nat} (he : e < 6) : ∀ (f i : Nat) (σ : mj_S), 60 < f + i → i ≤ 60 → ∃ τ, b_X8_holdRow_43 f (nI e) (nI i) σ = some τ ∧ τ.1 = σ.1 ∧ ∀ a b, τ.2 a b = if a = 58 + e ∧ i ≤ b ∧ b < 60 then 0 else σ.2 a b
  | 0, i, σ, hf, hi => absurd hf (by omega)
  | f + 1, i, σ, hf, hi => by
    unfold b_X8_holdRow_43
    by_cases h6 : i = 60
    · exact ⟨σ, if_pos (by rw [h6]; exact nI_le (a := 60) (b := 60) (by omega) (by omega)), rfl, fun a b => by rw [if_neg (by omega)]⟩
    · obtain ⟨τ, e1, e2, e3⟩ := mk_zero9 he f (i + 1) (mj_sL σ (58 + e) i 0) (by omega) (by omega)
      refine ⟨τ, ?_, e2, fun a b => ?_⟩
      · rw [if_neg (show ¬ (60 : Int32) ≤ nI i from nI_ge (a := i) (b := 60) (by omega) (by omega)), if_pos (mk_in6 he), if_pos (by rw [nI_toInt (by omega)]; omega), nI_1, nI_clamp (by omega), nI_clamp (by omega)]
        exact e1
      · rw [e3, mk_gL]
        by_cases hq : a = 58 + e ∧ i + 1 ≤ b ∧ b < 60
        · rw [if_pos hq, if_pos (by omega)]
        · rw [if_neg hq]
          by_cases hq2 : a = 58 + e ∧ b = i
          · rw [if_pos hq2, if_pos (by omega)]
          · rw [if_neg hq2, if_neg (by omega)]
theorem mk_zero10 {e : Nat} (he : e < 6) : ∀ (f i : Nat) (σ : mj_S), 60 < f + i → i ≤ 60 → ∃ τ, b_X10_row_57 f (nI e) (nI (60 * e + i)) σ = some (1, τ) ∧ τ.1 = σ.1 ∧ ∀ a b, τ.2 a b = if a = 89 ∧ 60 * e + i ≤ b ∧ b < 60 * e + 60 then 0 else σ.2 a b
  | 0, i, σ, hf, hi => absurd hf (by omega)
  | f + 1, i, σ, hf, hi => by
    have e6 : 60 * nI e + 60 = nI (60 * e + 60) := by
      show nI 60 * nI e + nI 60 = _
      rw [mk_mulN, nI_add]
    unfold b_X10_row_57
    rw [e6]
    by_cases h6 : i = 60
    · exact ⟨σ, if_pos (by rw [h6]; exact nI_le (by omega) (by omega)), rfl, fun a b => by rw [if_neg (by omega)]⟩
    · obtain ⟨τ, e1, e2, e3⟩ := mk_zero10 he f (i + 1) (mj_sL σ 89 (60 * e + i) 0) (by omega) (by omega)
      refine ⟨τ, ?_, e2, fun a b => ?_⟩
      · rw [if_neg (nI_ge (by omega) (by omega)), if_pos (by rw [nI_toInt (by omega)]; omega), nI_1, nI_clamp (by omega)]
        exact e1
      · rw [e3, mk_gL]
        by_cases hq : a = 89 ∧ 60 * e + (i + 1) ≤ b ∧ b < 60 * e + 60
        · rw [if_pos hq, if_pos (by omega)]
        · rw [if_neg hq]
          by_cases hq2 : a = 89 ∧ b = 60 * e + i
          · rw [if_pos hq2, if_pos (by omega)]
          · rw [if_neg hq2, if_neg (by omega)]
theorem op_row (σ : mj_S) (x0 x1 x2 : Int32) : mk_I σ → ∃ (v : Int32) (σ1 σ2 : mj_S), f_X9_row σ x0 x1 x2 = some (v, σ1) ∧ f_X10_row σ1 x0 x1 x2 = some (v, σ2) ∧ mk_I σ2 := by
  rintro ⟨g, c, w, n, k, d, d2, a, h⟩
  have hI : mk_I σ := ⟨g, c, w, n, k, d, d2, a, h⟩
  have e0 : (0 : Int32).toInt = 0 := rfl
  have e4 : (4 : Int32).toInt = 4 := rfl
  have e60 : (60 : Int32).toInt = 60 := rfl
  have e2 : (0 : Int64).toInt = 0 := rfl
  have e3 : (4 : Int64).toInt = 4 := rfl
  simp only [f_X9_row, f_X10_row, mk_has8, mk_shelf10, f_X8_isSort, mk_w9, mk_zb, mk_lit64, e0, e4, e2, e3]
  by_cases h1 : mk_bt x0.toInt 0 5 = 0
  · exact ⟨-1, σ, σ, by rw [if_pos h1], by rw [if_pos h1], hI⟩
  simp only [if_neg h1]
  by_cases h2 : mk_bt x1.toInt 0 4 = 0
  · exact ⟨-1, σ, σ, by rw [if_pos h2], by rw [if_pos h2], hI⟩
  simp only [if_neg h2]
  by_cases h3 : x2 ≤ 60
  · simp only [if_pos h3]
    by_cases h4 : (0 : Int32) ≤ x2
    · simp only [if_pos h4]
      obtain ⟨e, he, rfl⟩ := mk_sixth h1
      obtain ⟨s, hs, rfl⟩ := mk_bt_of (x := x1) (n := 5) (by have := mk_in_of h2; omega) (by omega)
      rw [mk_lee] at h3 h4
      obtain ⟨z, hz, rfl⟩ : ∃ z, z ≤ 60 ∧ x2 = nI z := ⟨x2.toInt.toNat, by omega, mk_ofNN (by omega)⟩
      have hb := mk_in6 he
      have hcl : (nI e).toNatClampNeg = e := nI_clamp (by omega)
      obtain ⟨τ, t1, t2, t3⟩ := mk_zero9 he 5000 0 (mj_sI (mj_sI (mj_sI σ 54 e (-1)) 55 e (nI s)) 56 e (nI z)) (by omega) (by omega)
      obtain ⟨τ', u1, u2, u3⟩ := mk_zero10 he 5000 0 (mj_sI (mj_sI τ 87 e (nI (50 + s))) 88 e (nI z)) (by omega) (by omega)
      refine ⟨1, τ, τ', ?_, ?_, ?_⟩
      · unfold f_X8_holdRow
        rw [mk_has8, if_neg h1, mk_w9, if_neg (mk_btn (by rw [nI_toInt (by omega), e0, e60]; omega)), if_pos hb, if_pos hb, if_pos hb, hcl]
        show (b_X8_holdRow_43 5000 (nI e) (nI 0) (mj_sI (mj_sI (mj_sI σ 54 e (-1)) 55 e (nI s)) 56 e (nI z))).bind _ = _
        rw [t1]
        rfl
      · rw [if_pos hb, if_pos hb, hcl]
        have e6 : 60 * nI e = nI (60 * e + 0) := by
          show nI 60 * nI e = _
          rw [mk_mulN]
          rfl
        have e5 : 50 + nI s = nI (50 + s) := nI_add 50 s
        rw [e6, e5]
        exact u1
      · have f1 : ∀ x y, τ'.1 x y = (mj_sI (mj_sI (mj_sI (mj_sI (mj_sI σ 54 e (-1)) 55 e (nI s)) 56 e (nI z)) 87 e (nI (50 + s))) 88 e (nI z)).1 x y := by
          intro x y
          rw [u2, mk_g, mk_g, mk_g, mk_g, t2]
        have f1' : τ'.1 = (mj_sI (mj_sI (mj_sI (mj_sI (mj_sI σ 54 e (-1)) 55 e (nI s)) 56 e (nI z)) 87 e (nI (50 + s))) 88 e (nI z)).1 := funext fun x => funext fun y => f1 x y
        have f2 : ∀ x y, τ'.2 x y = if x = 89 ∧ 60 * e + 0 ≤ y ∧ y < 60 * e + 60 then 0 else if x = 58 + e ∧ 0 ≤ y ∧ y < 60 then 0 else σ.2 x y := by
          intro x y
          rw [u3]
          by_cases hq : x = 89 ∧ 60 * e + 0 ≤ y ∧ y < 60 * e + 60
          · rw [if_pos hq, if_pos hq]
          · rw [if_neg hq, if_neg hq]
            exact t3 x y
        obtain ⟨p1, p2⟩ := τ'
        subst f1'
        have us : ∀ q, q < 6 → ∀ t, mk_sel (p2 58) (p2 59) (p2 60) (p2 61) (p2 62) (p2 63) q t = if q = e ∧ t < 60 then 0 else mk_sel (σ.2 58) (σ.2 59) (σ.2 60) (σ.2 61) (σ.2 62) (σ.2 63) q t := by
          intro q hq t
          have e1 := congrFun (mk_selE p2 58 q hq) t
          have e2 := congrFun (mk_selE σ.2 58 q hq) t
          have f3 := f2 (58 + q) t
          rw [e1, e2]
          rw [if_neg (by omega)] at f3
          by_cases hh : q = e ∧ t < 60
          · rw [if_pos hh]
            rw [if_pos (by omega)] at f3
            exact f3
          · rw [if_neg hh]
            rw [if_neg (by omega)] at f3
            exact f3
        refine ⟨g, c, w, n, k, d, d2, a, (mk_J.mk (hc := h.hc) (c9 := h.c9) (c64 := h.c64) (kid := h.kid) (hw := h.hw) (w9 := h.w9) (w64 := h.w64) (want := h.want) (noWant := h.noWant) (hn := h.hn) (n5 := h.n5) (n64 := h.n64) (tape := h.tape) (bytes := h.bytes) (law := h.law) (stale := h.stale) (rows := h.rows) (rowsM := h.rowsM) (grown := h.grown) (hk := h.hk) (k35 := h.k35) (k64 := h.k64) (mark := h.mark) (painted := h.painted) (ahead := h.ahead) (hd := h.hd) (hd2 := h.hd2) (d45 := h.d45) (d64 := h.d64) (e45 := h.e45) (e64 := h.e64) (chg := h.chg) (ha := h.ha) (a50 := h.a50) (a64 := h.a64) (body := h.body) (ran := h.ran) (trace := h.trace) (shelf := fun q hq => ?_))⟩
        have o := h.shelf q hq
        by_cases hqe : q = e
        · rw [hqe]
          rw [hqe] at o
          have u : ∀ (f : Nat → Int32) (v : Int32), upd f e v e = v := fun f v => if_pos rfl
          refine mk_shelf.mk (what := .inr (.inr ⟨s, by omega, u _ _, u _ _, u _ _⟩)) (size := (u _ _).trans (u _ _).symm) (rsize := ⟨z, hz, u _ _⟩) (el := ?_) (short := ?_)
          · intro t ht
            have f3 := f2 89 (60 * e + t)
            rw [if_pos (by omega)] at f3
            have := us e he t
            rw [if_pos ⟨rfl, ht⟩] at this
            exact this.trans f3.symm
          · intro _ t ht
            have := us e he t
            rw [if_pos ⟨rfl, ht⟩] at this
            show -32768 ≤ (mk_sel (p2 58) (p2 59) (p2 60) (p2 61) (p2 62) (p2 63) e t).toInt ∧ (mk_sel (p2 58) (p2 59) (p2 60) (p2 61) (p2 62) (p2 63) e t).toInt ≤ 32767
            rw [this]
            decide
        · have u : ∀ (f : Nat → Int32) (v : Int32), upd f e v q = f q := fun f v => if_neg hqe
          have us2 : ∀ t, mk_sel (p2 58) (p2 59) (p2 60) (p2 61) (p2 62) (p2 63) q t = mk_sel (σ.2 58) (σ.2 59) (σ.2 60) (σ.2 61) (σ.2 62) (σ.2 63) q t := fun t => by
            rw [us q hq t, if_neg (fun x => hqe x.1)]
          refine mk_shelf.mk (what := ?_) (size := ?_) (rsize := ?_) (el := ?_) (short := ?_)
          · show (upd (σ.1 87) e (nI (50 + s)) q = -1 ∧ upd (σ.1 54) e (-1) q = -1 ∧ upd (σ.1 55) e (nI s) q = -1 ∧ upd (σ.1 56) e (nI z) q = 0) ∨ (∃ b, b < a ∧ upd (σ.1 87) e (nI (50 + s)) q = nI b ∧ upd (σ.1 54) e (-1) q = nI b ∧ upd (σ.1 55) e (nI s) q = -1 ∧ upd (σ.1 56) e (nI z) q = 0) ∨ (∃ s', s' ≤ 4 ∧ upd (σ.1 87) e (nI (50 + s)) q = nI (50 + s') ∧ upd (σ.1 54) e (-1) q = -1 ∧ upd (σ.1 55) e (nI s) q = nI s')
            simp only [u]
            exact o.what
          · show upd (σ.1 56) e (nI z) q = upd (σ.1 88) e (nI z) q
            simp only [u]
            exact o.size
          · show mk_r (upd (σ.1 56) e (nI z) q) 60
            simp only [u]
            exact o.rsize
          · intro t ht
            show mk_sel (p2 58) (p2 59) (p2 60) (p2 61) (p2 62) (p2 63) q t = p2 89 (60 * q + t)
            have f3 := f2 89 (60 * q + t)
            rw [if_neg (by omega), if_neg (by omega)] at f3
            rw [us2]
            exact (o.el t ht).trans f3.symm
          · show upd (σ.1 87) e (nI (50 + s)) q = 51 → ∀ i, i < 60 → -32768 ≤ (mk_sel (p2 58) (p2 59) (p2 60) (p2 61) (p2 62) (p2 63) q i).toInt ∧ (mk_sel (p2 58) (p2 59) (p2 60) (p2 61) (p2 62) (p2 63) q i).toInt ≤ 32767
            simp only [u, us2]
            exact o.short
    · exact ⟨-14, σ, σ, by rw [if_neg h4], by rw [if_neg h4], hI⟩
  · exact ⟨-1, σ, σ, by rw [if_neg h3], by rw [if_neg h3], hI⟩
theorem mk_under (σ : mj_S) (v : Int32) : ∀ k p : Nat, k < 8 → p < 8 → ∃ u : Bool, f_X0_isUnder σ (nI k) (nI p) = some (if u = true then 1 else 0) ∧ b_X10_taken_58 σ mj_fu v (nI p) (nI k) = if u = true then b_X10_taken_75 σ v (nI p) (nI p) else some (-12) := by
  intro k p hk hp
  match k, p, hk, hp with
  | 0, 0, _, _ =>
    refine ⟨true, ?_⟩
    show f_X0_isUnder σ 0 0 = some 1 ∧ b_X10_taken_58 σ mj_fu v 0 0 = b_X10_taken_75 σ v 0 0
    simp [f_X0_isUnder, mj_fu, b_X0_isUnder_4, mk_kind9, mk_bt, mj_above, b_X10_taken_58, f_X10_above]
  | 0, 1, _, _ =>
    refine ⟨false, ?_⟩
    show f_X0_isUnder σ 0 1 = some 0 ∧ b_X10_taken_58 σ mj_fu v 1 0 = some (-12)
    simp [f_X0_isUnder, mj_fu, b_X0_isUnder_4, mk_kind9, mk_bt, mj_above, b_X10_taken_58, f_X10_above, b_X10_taken_75]
  | 0, 2, _, _ =>
    refine ⟨false, ?_⟩
    show f_X0_isUnder σ 0 2 = some 0 ∧ b_X10_taken_58 σ mj_fu v 2 0 = some (-12)
    simp [f_X0_isUnder, mj_fu, b_X0_isUnder_4, mk_kind9, mk_bt, mj_above, b_X10_taken_58, f_X10_above, b_X10_taken_75]
  | 0, 3, _, _ =>
    refine ⟨false, ?_⟩
    show f_X0_isUnder σ 0 3 = some 0 ∧ b_X10_taken_58 σ mj_fu v 3 0 = some (-12)
    simp [f_X0_isUnder, mj_fu, b_X0_isUnder_4, mk_kind9, mk_bt, mj_above, b_X10_taken_58, f_X10_above, b_X10_taken_75]
  | 0, 4, _, _ =>
    refine ⟨false, ?_⟩
    show f_X0_isUnder σ 0 4 = some 0 ∧ b_X10_taken_58 σ mj_fu v 4 0 = some (-12)
    simp [f_X0_isUnder, mj_fu, b_X0_isUnder_4, mk_kind9, mk_bt, mj_above, b_X10_taken_58, f_X10_above, b_X10_taken_75]
  | 0, 5, _, _ =>
    refine ⟨false, ?_⟩
    show f_X0_isUnder σ 0 5 = some 0 ∧ b_X10_taken_58 σ mj_fu v 5 0 = some (-12)
    simp [f_X0_isUnder, mj_fu, b_X0_isUnder_4, mk_kind9, mk_bt, mj_above, b_X10_taken_58, f_X10_above, b_X10_taken_75]
  | 0, 6, _, _ =>
    refine ⟨false, ?_⟩
    show f_X0_isUnder σ 0 6 = some 0 ∧ b_X10_taken_58 σ mj_fu v 6 0 = some (-12)
    simp [f_X0_isUnder, mj_fu, b_X0_isUnder_4, mk_kind9, mk_bt, mj_above, b_X10_taken_58, f_X10_above, b_X10_taken_75]
  | 0, 7, _, _ =>
    refine ⟨false, ?_⟩
    show f_X0_isUnder σ 0 7 = some 0 ∧ b_X10_taken_58 σ mj_fu v 7 0 = some (-12)
    simp [f_X0_isUnder, mj_fu, b_X0_isUnder_4, mk_kind9, mk_bt, mj_above, b_X10_taken_58, f_X10_above, b_X10_taken_75]
  | 1, 0, _, _ =>
    refine ⟨true, ?_⟩
    show f_X0_isUnder σ 1 0 = some 1 ∧ b_X10_taken_58 σ mj_fu v 0 1 = b_X10_taken_75 σ v 0 0
    simp [f_X0_isUnder, mj_fu, b_X0_isUnder_4, mk_kind9, mk_bt, mj_above, b_X10_taken_58, f_X10_above]
  | 1, 1, _, _ =>
    refine ⟨true, ?_⟩
    show f_X0_isUnder σ 1 1 = some 1 ∧ b_X10_taken_58 σ mj_fu v 1 1 = b_X10_taken_75 σ v 1 1
    simp [f_X0_isUnder, mj_fu, b_X0_isUnder_4, mk_kind9, mk_bt, mj_above, b_X10_taken_58, f_X10_above]
  | 1, 2, _, _ =>
    refine ⟨false, ?_⟩
    show f_X0_isUnder σ 1 2 = some 0 ∧ b_X10_taken_58 σ mj_fu v 2 1 = some (-12)
    simp [f_X0_isUnder, mj_fu, b_X0_isUnder_4, mk_kind9, mk_bt, mj_above, b_X10_taken_58, f_X10_above, b_X10_taken_75]
  | 1, 3, _, _ =>
    refine ⟨false, ?_⟩
    show f_X0_isUnder σ 1 3 = some 0 ∧ b_X10_taken_58 σ mj_fu v 3 1 = some (-12)
    simp [f_X0_isUnder, mj_fu, b_X0_isUnder_4, mk_kind9, mk_bt, mj_above, b_X10_taken_58, f_X10_above, b_X10_taken_75]
  | 1, 4, _, _ =>
    refine ⟨false, ?_⟩
    show f_X0_isUnder σ 1 4 = some 0 ∧ b_X10_taken_58 σ mj_fu v 4 1 = some (-12)
    simp [f_X0_isUnder, mj_fu, b_X0_isUnder_4, mk_kind9, mk_bt, mj_above, b_X10_taken_58, f_X10_above, b_X10_taken_75]
  | 1, 5, _, _ =>
    refine ⟨false, ?_⟩
    show f_X0_isUnder σ 1 5 = some 0 ∧ b_X10_taken_58 σ mj_fu v 5 1 = some (-12)
    simp [f_X0_isUnder, mj_fu, b_X0_isUnder_4, mk_kind9, mk_bt, mj_above, b_X10_taken_58, f_X10_above, b_X10_taken_75]
  | 1, 6, _, _ =>
    refine ⟨false, ?_⟩
    show f_X0_isUnder σ 1 6 = some 0 ∧ b_X10_taken_58 σ mj_fu v 6 1 = some (-12)
    simp [f_X0_isUnder, mj_fu, b_X0_isUnder_4, mk_kind9, mk_bt, mj_above, b_X10_taken_58, f_X10_above, b_X10_taken_75]
  | 1, 7, _, _ =>
    refine ⟨false, ?_⟩
    show f_X0_isUnder σ 1 7 = some 0 ∧ b_X10_taken_58 σ mj_fu v 7 1 = some (-12)
    simp [f_X0_isUnder, mj_fu, b_X0_isUnder_4, mk_kind9, mk_bt, mj_above, b_X10_taken_58, f_X10_above, b_X10_taken_75]
  | 2, 0, _, _ =>
    refine ⟨true, ?_⟩
    show f_X0_isUnder σ 2 0 = some 1 ∧ b_X10_taken_58 σ mj_fu v 0 2 = b_X10_taken_75 σ v 0 0
    simp [f_X0_isUnder, mj_fu, b_X0_isUnder_4, mk_kind9, mk_bt, mj_above, b_X10_taken_58, f_X10_above]
  | 2, 1, _, _ =>
    refine ⟨false, ?_⟩
    show f_X0_isUnder σ 2 1 = some 0 ∧ b_X10_taken_58 σ mj_fu v 1 2 = some (-12)
    simp [f_X0_isUnder, mj_fu, b_X0_isUnder_4, mk_kind9, mk_bt, mj_above, b_X10_taken_58, f_X10_above, b_X10_taken_75]
  | 2, 2, _, _ =>
    refine ⟨true, ?_⟩
    show f_X0_isUnder σ 2 2 = some 1 ∧ b_X10_taken_58 σ mj_fu v 2 2 = b_X10_taken_75 σ v 2 2
    simp [f_X0_isUnder, mj_fu, b_X0_isUnder_4, mk_kind9, mk_bt, mj_above, b_X10_taken_58, f_X10_above]
  | 2, 3, _, _ =>
    refine ⟨false, ?_⟩
    show f_X0_isUnder σ 2 3 = some 0 ∧ b_X10_taken_58 σ mj_fu v 3 2 = some (-12)
    simp [f_X0_isUnder, mj_fu, b_X0_isUnder_4, mk_kind9, mk_bt, mj_above, b_X10_taken_58, f_X10_above, b_X10_taken_75]
  | 2, 4, _, _ =>
    refine ⟨false, ?_⟩
    show f_X0_isUnder σ 2 4 = some 0 ∧ b_X10_taken_58 σ mj_fu v 4 2 = some (-12)
    simp [f_X0_isUnder, mj_fu, b_X0_isUnder_4, mk_kind9, mk_bt, mj_above, b_X10_taken_58, f_X10_above, b_X10_taken_75]
  | 2, 5, _, _ =>
    refine ⟨false, ?_⟩
    show f_X0_isUnder σ 2 5 = some 0 ∧ b_X10_taken_58 σ mj_fu v 5 2 = some (-12)
    simp [f_X0_isUnder, mj_fu, b_X0_isUnder_4, mk_kind9, mk_bt, mj_above, b_X10_taken_58, f_X10_above, b_X10_taken_75]
  | 2, 6, _, _ =>
    refine ⟨false, ?_⟩
    show f_X0_isUnder σ 2 6 = some 0 ∧ b_X10_taken_58 σ mj_fu v 6 2 = some (-12)
    simp [f_X0_isUnder, mj_fu, b_X0_isUnder_4, mk_kind9, mk_bt, mj_above, b_X10_taken_58, f_X10_above, b_X10_taken_75]
  | 2, 7, _, _ =>
    refine ⟨false, ?_⟩
    show f_X0_isUnder σ 2 7 = some 0 ∧ b_X10_taken_58 σ mj_fu v 7 2 = some (-12)
    simp [f_X0_isUnder, mj_fu, b_X0_isUnder_4, mk_kind9, mk_bt, mj_above, b_X10_taken_58, f_X10_above, b_X10_taken_75]
  | 3, 0, _, _ =>
    refine ⟨true, ?_⟩
    show f_X0_isUnder σ 3 0 = some 1 ∧ b_X10_taken_58 σ mj_fu v 0 3 = b_X10_taken_75 σ v 0 0
    simp [f_X0_isUnder, mj_fu, b_X0_isUnder_4, mk_kind9, mk_bt, mj_above, b_X10_taken_58, f_X10_above]
  | 3, 1, _, _ =>
    refine ⟨true, ?_⟩
    show f_X0_isUnder σ 3 1 = some 1 ∧ b_X10_taken_58 σ mj_fu v 1 3 = b_X10_taken_75 σ v 1 1
    simp [f_X0_isUnder, mj_fu, b_X0_isUnder_4, mk_kind9, mk_bt, mj_above, b_X10_taken_58, f_X10_above]
  | 3, 2, _, _ =>
    refine ⟨false, ?_⟩
    show f_X0_isUnder σ 3 2 = some 0 ∧ b_X10_taken_58 σ mj_fu v 2 3 = some (-12)
    simp [f_X0_isUnder, mj_fu, b_X0_isUnder_4, mk_kind9, mk_bt, mj_above, b_X10_taken_58, f_X10_above, b_X10_taken_75]
  | 3, 3, _, _ =>
    refine ⟨true, ?_⟩
    show f_X0_isUnder σ 3 3 = some 1 ∧ b_X10_taken_58 σ mj_fu v 3 3 = b_X10_taken_75 σ v 3 3
    simp [f_X0_isUnder, mj_fu, b_X0_isUnder_4, mk_kind9, mk_bt, mj_above, b_X10_taken_58, f_X10_above]
  | 3, 4, _, _ =>
    refine ⟨false, ?_⟩
    show f_X0_isUnder σ 3 4 = some 0 ∧ b_X10_taken_58 σ mj_fu v 4 3 = some (-12)
    simp [f_X0_isUnder, mj_fu, b_X0_isUnder_4, mk_kind9, mk_bt, mj_above, b_X10_taken_58, f_X10_above, b_X10_taken_75]
  | 3, 5, _, _ =>
    refine ⟨false, ?_⟩
    show f_X0_isUnder σ 3 5 = some 0 ∧ b_X10_taken_58 σ mj_fu v 5 3 = some (-12)
    simp [f_X0_isUnder, mj_fu, b_X0_isUnder_4, mk_kind9, mk_bt, mj_above, b_X10_taken_58, f_X10_above, b_X10_taken_75]
  | 3, 6, _, _ =>
    refine ⟨false, ?_⟩
    show f_X0_isUnder σ 3 6 = some 0 ∧ b_X10_taken_58 σ mj_fu v 6 3 = some (-12)
    simp [f_X0_isUnder, mj_fu, b_X0_isUnder_4, mk_kind9, mk_bt, mj_above, b_X10_taken_58, f_X10_above, b_X10_taken_75]
  | 3, 7, _, _ =>
    refine ⟨false, ?_⟩
    show f_X0_isUnder σ 3 7 = some 0 ∧ b_X10_taken_58 σ mj_fu v 7 3 = some (-12)
    simp [f_X0_isUnder, mj_fu, b_X0_isUnder_4, mk_kind9, mk_bt, mj_above, b_X10_taken_58, f_X10_above, b_X10_taken_75]
  | 4, 0, _, _ =>
    refine ⟨true, ?_⟩
    show f_X0_isUnder σ 4 0 = some 1 ∧ b_X10_taken_58 σ mj_fu v 0 4 = b_X10_taken_75 σ v 0 0
    simp [f_X0_isUnder, mj_fu, b_X0_isUnder_4, mk_kind9, mk_bt, mj_above, b_X10_taken_58, f_X10_above]
  | 4, 1, _, _ =>
    refine ⟨false, ?_⟩
    show f_X0_isUnder σ 4 1 = some 0 ∧ b_X10_taken_58 σ mj_fu v 1 4 = some (-12)
    simp [f_X0_isUnder, mj_fu, b_X0_isUnder_4, mk_kind9, mk_bt, mj_above, b_X10_taken_58, f_X10_above, b_X10_taken_75]
  | 4, 2, _, _ =>
    refine ⟨false, ?_⟩
    show f_X0_isUnder σ 4 2 = some 0 ∧ b_X10_taken_58 σ mj_fu v 2 4 = some (-12)
    simp [f_X0_isUnder, mj_fu, b_X0_isUnder_4, mk_kind9, mk_bt, mj_above, b_X10_taken_58, f_X10_above, b_X10_taken_75]
  | 4, 3, _, _ =>
    refine ⟨false, ?_⟩
    show f_X0_isUnder σ 4 3 = some 0 ∧ b_X10_taken_58 σ mj_fu v 3 4 = some (-12)
    simp [f_X0_isUnder, mj_fu, b_X0_isUnder_4, mk_kind9, mk_bt, mj_above, b_X10_taken_58, f_X10_above, b_X10_taken_75]
  | 4, 4, _, _ =>
    refine ⟨true, ?_⟩
    show f_X0_isUnder σ 4 4 = some 1 ∧ b_X10_taken_58 σ mj_fu v 4 4 = b_X10_taken_75 σ v 4 4
    simp [f_X0_isUnder, mj_fu, b_X0_isUnder_4, mk_kind9, mk_bt, mj_above, b_X10_taken_58, f_X10_above]
  | 4, 5, _, _ =>
    refine ⟨false, ?_⟩
    show f_X0_isUnder σ 4 5 = some 0 ∧ b_X10_taken_58 σ mj_fu v 5 4 = some (-12)
    simp [f_X0_isUnder, mj_fu, b_X0_isUnder_4, mk_kind9, mk_bt, mj_above, b_X10_taken_58, f_X10_above, b_X10_taken_75]
  | 4, 6, _, _ =>
    refine ⟨false, ?_⟩
    show f_X0_isUnder σ 4 6 = some 0 ∧ b_X10_taken_58 σ mj_fu v 6 4 = some (-12)
    simp [f_X0_isUnder, mj_fu, b_X0_isUnder_4, mk_kind9, mk_bt, mj_above, b_X10_taken_58, f_X10_above, b_X10_taken_75]
  | 4, 7, _, _ =>
    refine ⟨false, ?_⟩
    show f_X0_isUnder σ 4 7 = some 0 ∧ b_X10_taken_58 σ mj_fu v 7 4 = some (-12)
    simp [f_X0_isUnder, mj_fu, b_X0_isUnder_4, mk_kind9, mk_bt, mj_above, b_X10_taken_58, f_X10_above, b_X10_taken_75]
  | 5, 0, _, _ =>
    refine ⟨true, ?_⟩
    show f_X0_isUnder σ 5 0 = some 1 ∧ b_X10_taken_58 σ mj_fu v 0 5 = b_X10_taken_75 σ v 0 0
    simp [f_X0_isUnder, mj_fu, b_X0_isUnder_4, mk_kind9, mk_bt, mj_above, b_X10_taken_58, f_X10_above]
  | 5, 1, _, _ =>
    refine ⟨false, ?_⟩
    show f_X0_isUnder σ 5 1 = some 0 ∧ b_X10_taken_58 σ mj_fu v 1 5 = some (-12)
    simp [f_X0_isUnder, mj_fu, b_X0_isUnder_4, mk_kind9, mk_bt, mj_above, b_X10_taken_58, f_X10_above, b_X10_taken_75]
  | 5, 2, _, _ =>
    refine ⟨false, ?_⟩
    show f_X0_isUnder σ 5 2 = some 0 ∧ b_X10_taken_58 σ mj_fu v 2 5 = some (-12)
    simp [f_X0_isUnder, mj_fu, b_X0_isUnder_4, mk_kind9, mk_bt, mj_above, b_X10_taken_58, f_X10_above, b_X10_taken_75]
  | 5, 3, _, _ =>
    refine ⟨false, ?_⟩
    show f_X0_isUnder σ 5 3 = some 0 ∧ b_X10_taken_58 σ mj_fu v 3 5 = some (-12)
    simp [f_X0_isUnder, mj_fu, b_X0_isUnder_4, mk_kind9, mk_bt, mj_above, b_X10_taken_58, f_X10_above, b_X10_taken_75]
  | 5, 4, _, _ =>
    refine ⟨true, ?_⟩
    show f_X0_isUnder σ 5 4 = some 1 ∧ b_X10_taken_58 σ mj_fu v 4 5 = b_X10_taken_75 σ v 4 4
    simp [f_X0_isUnder, mj_fu, b_X0_isUnder_4, mk_kind9, mk_bt, mj_above, b_X10_taken_58, f_X10_above]
  | 5, 5, _, _ =>
    refine ⟨true, ?_⟩
    show f_X0_isUnder σ 5 5 = some 1 ∧ b_X10_taken_58 σ mj_fu v 5 5 = b_X10_taken_75 σ v 5 5
    simp [f_X0_isUnder, mj_fu, b_X0_isUnder_4, mk_kind9, mk_bt, mj_above, b_X10_taken_58, f_X10_above]
  | 5, 6, _, _ =>
    refine ⟨false, ?_⟩
    show f_X0_isUnder σ 5 6 = some 0 ∧ b_X10_taken_58 σ mj_fu v 6 5 = some (-12)
    simp [f_X0_isUnder, mj_fu, b_X0_isUnder_4, mk_kind9, mk_bt, mj_above, b_X10_taken_58, f_X10_above, b_X10_taken_75]
  | 5, 7, _, _ =>
    refine ⟨false, ?_⟩
    show f_X0_isUnder σ 5 7 = some 0 ∧ b_X10_taken_58 σ mj_fu v 7 5 = some (-12)
    simp [f_X0_isUnder, mj_fu, b_X0_isUnder_4, mk_kind9, mk_bt, mj_above, b_X10_taken_58, f_X10_above, b_X10_taken_75]
  | 6, 0, _, _ =>
    refine ⟨true, ?_⟩
    show f_X0_isUnder σ 6 0 = some 1 ∧ b_X10_taken_58 σ mj_fu v 0 6 = b_X10_taken_75 σ v 0 0
    simp [f_X0_isUnder, mj_fu, b_X0_isUnder_4, mk_kind9, mk_bt, mj_above, b_X10_taken_58, f_X10_above]
  | 6, 1, _, _ =>
    refine ⟨true, ?_⟩
    show f_X0_isUnder σ 6 1 = some 1 ∧ b_X10_taken_58 σ mj_fu v 1 6 = b_X10_taken_75 σ v 1 1
    simp [f_X0_isUnder, mj_fu, b_X0_isUnder_4, mk_kind9, mk_bt, mj_above, b_X10_taken_58, f_X10_above]
  | 6, 2, _, _ =>
    refine ⟨false, ?_⟩
    show f_X0_isUnder σ 6 2 = some 0 ∧ b_X10_taken_58 σ mj_fu v 2 6 = some (-12)
    simp [f_X0_isUnder, mj_fu, b_X0_isUnder_4, mk_kind9, mk_bt, mj_above, b_X10_taken_58, f_X10_above, b_X10_taken_75]
  | 6, 3, _, _ =>
    refine ⟨true, ?_⟩
    show f_X0_isUnder σ 6 3 = some 1 ∧ b_X10_taken_58 σ mj_fu v 3 6 = b_X10_taken_75 σ v 3 3
    simp [f_X0_isUnder, mj_fu, b_X0_isUnder_4, mk_kind9, mk_bt, mj_above, b_X10_taken_58, f_X10_above]
  | 6, 4, _, _ =>
    refine ⟨false, ?_⟩
    show f_X0_isUnder σ 6 4 = some 0 ∧ b_X10_taken_58 σ mj_fu v 4 6 = some (-12)
    simp [f_X0_isUnder, mj_fu, b_X0_isUnder_4, mk_kind9, mk_bt, mj_above, b_X10_taken_58, f_X10_above, b_X10_taken_75]
  | 6, 5, _, _ =>
    refine ⟨false, ?_⟩
    show f_X0_isUnder σ 6 5 = some 0 ∧ b_X10_taken_58 σ mj_fu v 5 6 = some (-12)
    simp [f_X0_isUnder, mj_fu, b_X0_isUnder_4, mk_kind9, mk_bt, mj_above, b_X10_taken_58, f_X10_above, b_X10_taken_75]
  | 6, 6, _, _ =>
    refine ⟨true, ?_⟩
    show f_X0_isUnder σ 6 6 = some 1 ∧ b_X10_taken_58 σ mj_fu v 6 6 = b_X10_taken_75 σ v 6 6
    simp [f_X0_isUnder, mj_fu, b_X0_isUnder_4, mk_kind9, mk_bt, mj_above, b_X10_taken_58, f_X10_above]
  | 6, 7, _, _ =>
    refine ⟨false, ?_⟩
    show f_X0_isUnder σ 6 7 = some 0 ∧ b_X10_taken_58 σ mj_fu v 7 6 = some (-12)
    simp [f_X0_isUnder, mj_fu, b_X0_isUnder_4, mk_kind9, mk_bt, mj_above, b_X10_taken_58, f_X10_above, b_X10_taken_75]
  | 7, 0, _, _ =>
    refine ⟨true, ?_⟩
    show f_X0_isUnder σ 7 0 = some 1 ∧ b_X10_taken_58 σ mj_fu v 0 7 = b_X10_taken_75 σ v 0 0
    simp [f_X0_isUnder, mj_fu, b_X0_isUnder_4, mk_kind9, mk_bt, mj_above, b_X10_taken_58, f_X10_above]
  | 7, 1, _, _ =>
    refine ⟨false, ?_⟩
    show f_X0_isUnder σ 7 1 = some 0 ∧ b_X10_taken_58 σ mj_fu v 1 7 = some (-12)
    simp [f_X0_isUnder, mj_fu, b_X0_isUnder_4, mk_kind9, mk_bt, mj_above, b_X10_taken_58, f_X10_above, b_X10_taken_75]
  | 7, 2, _, _ =>
    refine ⟨true, ?_⟩
    show f_X0_isUnder σ 7 2 = some 1 ∧ b_X10_taken_58 σ mj_fu v 2 7 = b_X10_taken_75 σ v 2 2
    simp [f_X0_isUnder, mj_fu, b_X0_isUnder_4, mk_kind9, mk_bt, mj_above, b_X10_taken_58, f_X10_above]
  | 7, 3, _, _ =>
    refine ⟨false, ?_⟩
    show f_X0_isUnder σ 7 3 = some 0 ∧ b_X10_taken_58 σ mj_fu v 3 7 = some (-12)
    simp [f_X0_isUnder, mj_fu, b_X0_isUnder_4, mk_kind9, mk_bt, mj_above, b_X10_taken_58, f_X10_above, b_X10_taken_75]
  | 7, 4, _, _ =>
    refine ⟨false, ?_⟩
    show f_X0_isUnder σ 7 4 = some 0 ∧ b_X10_taken_58 σ mj_fu v 4 7 = some (-12)
    simp [f_X0_isUnder, mj_fu, b_X0_isUnder_4, mk_kind9, mk_bt, mj_above, b_X10_taken_58, f_X10_above, b_X10_taken_75]
  | 7, 5, _, _ =>
    refine ⟨false, ?_⟩
    show f_X0_isUnder σ 7 5 = some 0 ∧ b_X10_taken_58 σ mj_fu v 5 7 = some (-12)
    simp [f_X0_isUnder, mj_fu, b_X0_isUnder_4, mk_kind9, mk_bt, mj_above, b_X10_taken_58, f_X10_above, b_X10_taken_75]
  | 7, 6, _, _ =>
    refine ⟨false, ?_⟩
    show f_X0_isUnder σ 7 6 = some 0 ∧ b_X10_taken_58 σ mj_fu v 6 7 = some (-12)
    simp [f_X0_isUnder, mj_fu, b_X0_isUnder_4, mk_kind9, mk_bt, mj_above, b_X10_taken_58, f_X10_above, b_X10_taken_75]
  | 7, 7, _, _ =>
    refine ⟨true, ?_⟩
    show f_X0_isUnder σ 7 7 = some 1 ∧ b_X10_taken_58 σ mj_fu v 7 7 = b_X10_taken_75 σ v 7 7
    simp [f_X0_isUnder, mj_fu, b_X0_isUnder_4, mk_kind9, mk_bt, mj_above, b_X10_taken_58, f_X10_above]
theorem op_taken (σ : mj_S) (x0 x1 : Int32) : mk_I σ → ∃ (v : Int32) (σ1 σ2 : mj_S), (f_X9_taken σ x0 x1 = some v ∧ σ1 = σ) ∧ (f_X10_taken σ1 x0 x1 = some v ∧ σ2 = σ1) ∧ mk_I σ2 := by
  rintro ⟨g, c, w, n, k, d, d2, a, h⟩
  have hI : mk_I σ := ⟨g, c, w, n, k, d, d2, a, h⟩
  have ha := h.ha
  refine mk_six (f9 := fun σ => f_X9_taken σ x0 x1) (f10 := fun σ => f_X10_taken σ x0 x1) hI ?_
  have e2 : (0 : Int64).toInt = 0 := rfl
  have e3 : (7 : Int64).toInt = 7 := rfl
  simp only [f_X9_taken, f_X10_taken, mk_has8, mk_shelf10, mk_kind9, mk_lit64, e2, e3]
  by_cases h1 : mk_bt x0.toInt 0 5 = 0
  · exact ⟨-1, by rw [if_pos h1], by rw [if_pos h1]⟩
  simp only [if_neg h1]
  by_cases h2 : mk_bt x1.toInt 0 7 = 0
  · exact ⟨-1, by rw [if_pos h2], by rw [if_pos h2]⟩
  simp only [if_neg h2]
  obtain ⟨e, he, rfl⟩ := mk_sixth h1
  obtain ⟨p, hp, rfl⟩ := mk_bt_of (x := x1) (n := 8) (by have := mk_in_of h2; omega) (by omega)
  have hb := mk_in6 he
  have hcl : (nI e).toNatClampNeg = e := nI_clamp (by omega)
  simp only [if_pos hb, hcl]
  rcases mk_sh h he with ⟨q1, q2, q3, _⟩ | ⟨b, hb2, q1, q2, q3, q4, _⟩ | ⟨s, hs, q1, q2, q3, q4, _⟩
  · refine ⟨-11, by rw [q1]; rfl, by rw [q3]; rfl⟩
  · obtain ⟨k1, k2, hk2, k3⟩ := h.body b hb2
    have kk : f_X0_kindOf σ (nI b) = some (nI k2) := by
      unfold f_X0_kindOf
      rw [mk_has0 h, if_neg (mk_btn (by rw [nI_toInt (by omega)]; omega)), if_pos (by rw [nI_toInt (by omega)]; omega), nI_clamp (by omega), k3]
    have kk2 : f_X10_kindOf σ (nI b) = some (nI k2) := by
      unfold f_X10_kindOf
      rw [if_pos (by rw [nI_toInt (by omega)]; omega), nI_clamp (by omega), ← k1, k3]
    obtain ⟨u, u1, u2⟩ := mk_under σ (nI e) k2 p (by omega) hp
    have l1 : (0 : Int32) ≤ nI b := nI_pos' (by omega)
    have l2 : nI b < (50 : Int32) := nI_lt (b := 50) (by omega) (by omega)
    rw [q1, q2, q4, q3, if_pos l1, if_pos l2, kk2]
    show ∃ x, ((f_X0_kindOf σ (nI b)).bind fun r8 => (f_X0_isUnder σ r8 (nI p)).bind fun r9 => if r9 = 0 then some (-12) else some r8) = some x ∧ b_X10_taken_58 σ mj_fu (nI e) (nI p) (nI k2) = some x
    rw [kk, u2]
    show ∃ x, ((f_X0_isUnder σ (nI k2) (nI p)).bind fun r9 => if r9 = 0 then some (-12) else some (nI k2)) = some x ∧ _
    rw [u1]
    cases u with
    | false => exact ⟨-12, rfl, rfl⟩
    | true =>
      refine ⟨nI k2, rfl, ?_⟩
      unfold b_X10_taken_75
      rw [if_pos rfl, if_pos rfl, if_pos hb, hcl, q3, kk2]
      rfl
  · have l1 : (0 : Int32) ≤ nI (50 + s) := nI_pos' (by omega)
    have l2 : ¬ nI (50 + s) < (50 : Int32) := nI_nlt (a := 50 + s) (b := 50) (by omega) (by omega)
    refine ⟨-12, by rw [q1, q2]; rfl, ?_⟩
    rw [q3, if_pos l1, if_neg l2]
-- shift
theorem mk_out {b1 L : Nat} (h1 : b1 + L ≤ 360) (h60 : L ≤ 60) {v1 v2 v3 v4 : Int32} (hv : 60 * v1 + v2 = nI b1) : ∀ (f i : Nat) (σ : mj_S), L < f + i → i ≤ L → ∃ τ, b_X10_shift_113 f v1 v2 v3 v4 (nI L) (nI i) σ = b_X10_shift_150 mj_fu v3 v4 (nI L) 0 τ ∧ τ.1 = σ.1 ∧ (∀ a b, a ≠ 90 → τ.2 a b = σ.2 a b) ∧ ∀ b, b < L → τ.2 90 b = if i ≤ b then σ.2 89 (b1 + b) else σ.2 90 b
  | 0, i, σ, hf, hi => absurd hf (by omega)
  | f + 1, i, σ, hf, hi => by
    unfold b_X10_shift_113
    by_cases h6 : i = L
    · exact ⟨σ, if_pos (by rw [h6]; exact nI_le (by omega) (by omega)), rfl, fun a b _ => rfl, fun b hb => by rw [if_neg (by omega)]⟩
    · obtain ⟨τ, e1, e2, e3, e4⟩ := mk_out h1 h60 hv f (i + 1) (mj_sL σ 90 i (σ.2 89 (b1 + i))) (by omega) (by omega)
      refine ⟨τ, ?_, e2, fun a b hab => ?_, fun b hb => ?_⟩
      · rw [if_neg (nI_ge (by omega) (by omega)), hv, nI_add, if_pos (by rw [nI_toInt (by omega)]; omega), if_pos (by rw [nI_toInt (by omega)]; omega), nI_1, nI_clamp (by omega), nI_clamp (by omega)]
        exact e1
      · rw [e3 a b hab, mk_gL, if_neg (by omega)]
      · rw [e4 b hb]
        by_cases hq : i + 1 ≤ b
        · rw [if_pos hq, if_pos (by omega), mk_gL, if_neg (by omega)]
        · rw [if_neg hq, mk_gL]
          by_cases hbi : b = i
          · rw [if_pos ⟨rfl, hbi⟩, if_pos (by omega), hbi]
          · rw [if_neg (fun x => hbi x.2), if_neg (by omega)]
theorem mk_back {b3 L : Nat} (h1 : b3 + L ≤ 360) (h60 : L ≤ 60) {v3 v4 : Int32} (hv : 60 * v3 + v4 = nI b3) : ∀ (f i : Nat) (σ : mj_S), L < f + i → i ≤ L → ∃ τ, b_X10_shift_150 f v3 v4 (nI L) (nI i) σ = some (nI L, τ) ∧ τ.1 = σ.1 ∧ ∀ a b, τ.2 a b = if a = 89 ∧ b3 + i ≤ b ∧ b < b3 + L then σ.2 90 (b - b3) else σ.2 a b
  | 0, i, σ, hf, hi => absurd hf (by omega)
  | f + 1, i, σ, hf, hi => by
    unfold b_X10_shift_150
    by_cases h6 : i = L
    · exact ⟨σ, if_pos (by rw [h6]; exact nI_le (by omega) (by omega)), rfl, fun a b => by rw [if_neg (by omega)]⟩
    · obtain ⟨τ, e1, e2, e3⟩ := mk_back h1 h60 hv f (i + 1) (mj_sL σ 89 (b3 + i) (σ.2 90 i)) (by omega) (by omega)
      refine ⟨τ, ?_, e2, fun a b => ?_⟩
      · rw [if_neg (nI_ge (by omega) (by omega)), hv, nI_add, if_pos (by rw [nI_toInt (by omega)]; omega), if_pos (by rw [nI_toInt (by omega)]; omega), nI_1, nI_clamp (by omega), nI_clamp (by omega)]
        exact e1
      · rw [e3]
        by_cases hq : a = 89 ∧ b3 + (i + 1) ≤ b ∧ b < b3 + L
        · rw [if_pos hq, if_pos (by omega), mk_gL, if_neg (by omega)]
        · rw [if_neg hq, mk_gL]
          by_cases hbi : a = 89 ∧ b = b3 + i
          · rw [if_pos hbi, if_pos (by omega)]
            have eb : b - b3 = i := by omega
            rw [eb]
          · rw [if_neg hbi, if_neg (by omega)]
theorem mk_shiftJ {g c w n k d d2 a σ} (h : mk_J g c w n k d d2 a σ) {e1 e3 p q L : Nat} (h1 : e1 < 6) (h3 : e3 < 6) (hp : p + L ≤ 60) (hq : q + L ≤ 60) (h87 : σ.1 87 e1 = σ.1 87 e3) (τ : mj_S) (t1 : τ.1 = σ.1) (t2 : ∀ x y, x ≠ 90 → τ.2 x y = if x = 58 + e3 ∧ q ≤ y ∧ y < q + L then σ.2 (58 + e1) (p + (y - q)) else if x = 89 ∧ 60 * e3 + q ≤ y ∧ y < 60 * e3 + q + L then σ.2 89 (60 * e1 + p + (y - (60 * e3 + q))) else σ.2 x y) : mk_J g c w n k d d2 a τ := by
  obtain ⟨p1, p2⟩ := τ
  subst t1
  have us : ∀ z, z < 6 → ∀ t, mk_sel (p2 58) (p2 59) (p2 60) (p2 61) (p2 62) (p2 63) z t = if z = e3 ∧ q ≤ t ∧ t < q + L then mk_sel (σ.2 58) (σ.2 59) (σ.2 60) (σ.2 61) (σ.2 62) (σ.2 63) e1 (p + (t - q)) else mk_sel (σ.2 58) (σ.2 59) (σ.2 60) (σ.2 61) (σ.2 62) (σ.2 63) z t := by
    intro z hz t
    have x1 := congrFun (mk_selE p2 58 z hz) t
    have x2 := congrFun (mk_selE σ.2 58 z hz) t
    have x3 := congrFun (mk_selE σ.2 58 e1 h1) (p + (t - q))
    have f3 := t2 (58 + z) t (by omega)
    rw [x1, x2, x3]
    by_cases hh : z = e3 ∧ q ≤ t ∧ t < q + L
    · rw [if_pos hh]
      rw [if_pos (by omega)] at f3
      exact f3
    · rw [if_neg hh]
      rw [if_neg (by omega), if_neg (by omega)] at f3
      exact f3
  exact mk_J.mk (hc := h.hc) (c9 := h.c9) (c64 := h.c64) (kid := h.kid) (hw := h.hw) (w9 := h.w9) (w64 := h.w64) (want := h.want) (noWant := h.noWant) (hn := h.hn) (n5 := h.n5) (n64 := h.n64) (tape := h.tape) (bytes := h.bytes) (law := h.law) (stale := h.stale) (rows := h.rows) (rowsM := h.rowsM) (grown := h.grown) (hk := h.hk) (k35 := h.k35) (k64 := h.k64) (mark := h.mark) (painted := h.painted) (ahead := h.ahead) (hd := h.hd) (hd2 := h.hd2) (d45 := h.d45) (d64 := h.d64) (e45 := h.e45) (e64 := h.e64) (chg := h.chg) (ha := h.ha) (a50 := h.a50) (a64 := h.a64) (body := h.body) (ran := h.ran) (trace := h.trace) (shelf := fun z hz => (mk_shelf.mk (what := (h.shelf z hz).what) (size := (h.shelf z hz).size) (rsize := (h.shelf z hz).rsize)
   (el := fun t ht => by
      show mk_sel (p2 58) (p2 59) (p2 60) (p2 61) (p2 62) (p2 63) z t = p2 89 (60 * z + t)
      have f3 : p2 89 (60 * z + t) = _ := t2 89 (60 * z + t) (by omega)
      rw [if_neg (by omega)] at f3
      rw [us z hz t, f3]
      by_cases hh : z = e3 ∧ q ≤ t ∧ t < q + L
      · rw [if_pos hh, if_pos (by omega)]
        have o := (h.shelf e1 h1).el (p + (t - q)) (by omega)
        rw [o]
        have eb : 60 * e1 + (p + (t - q)) = 60 * e1 + p + (60 * z + t - (60 * e3 + q)) := by omega
        rw [eb]
      · rw [if_neg hh, if_neg (by omega)]
        exact (h.shelf z hz).el t ht)
   (short := fun h51 t ht => by
      show -32768 ≤ (mk_sel (p2 58) (p2 59) (p2 60) (p2 61) (p2 62) (p2 63) z t).toInt ∧ (mk_sel (p2 58) (p2 59) (p2 60) (p2 61) (p2 62) (p2 63) z t).toInt ≤ 32767
      rw [us z hz t]
      by_cases hh : z = e3 ∧ q ≤ t ∧ t < q + L
      · rw [if_pos hh]
        have h51' : σ.1 87 z = 51 := h51
        rw [hh.1, ← h87] at h51'
        exact (h.shelf e1 h1).short h51' _ (by omega)
      · rw [if_neg hh]
        exact (h.shelf z hz).short h51 t ht)))
theorem op_shift (σ : mj_S) (x0 x1 x2 x3 x4 : Int32) : mk_I σ → ∃ (v : Int32) (σ1 σ2 : mj_S), f_X9_shift σ x0 x1 x2 x3 x4 = some (v, σ1) ∧ f_X10_shift σ1 x0 x1 x2 x3 x4 = some (v, σ2) ∧ mk_I σ2 := by
  rintro ⟨g, c, w, n, k, d, d2, a, h⟩
  have hI : mk_I σ := ⟨g, c, w, n, k, d, d2, a, h⟩
  have ha := h.ha
  have e0 : (0 : Int32).toInt = 0 := rfl
  simp only [f_X9_shift, f_X10_shift, mk_has8, mk_shelf10]
  by_cases h1 : mk_bt x0.toInt 0 5 = 0
  · exact ⟨-1, σ, σ, by rw [if_pos h1], by rw [if_pos h1], hI⟩
  simp only [if_neg h1]
  by_cases h2 : mk_bt x2.toInt 0 5 = 0
  · exact ⟨-1, σ, σ, by rw [if_pos h2], by rw [if_pos h2], hI⟩
  simp only [if_neg h2]
  obtain ⟨e1, he1, rfl⟩ := mk_sixth h1
  obtain ⟨e3, he3, rfl⟩ := mk_sixth h2
  have hb1 := mk_in6 he1
  have hb3 := mk_in6 he3
  have hc1 : (nI e1).toNatClampNeg = e1 := nI_clamp (by omega)
  have hc3 : (nI e3).toNatClampNeg = e3 := nI_clamp (by omega)
  simp only [if_pos hb1, if_pos hb3, hc1, hc3]
  -- the first shelf
  rcases mk_sh h he1 with ⟨q1, q2, q3, _⟩ | ⟨b, hb2, q1, q2, q3, q4, _⟩ | ⟨s, hs, q1, q2, q3, q4, _⟩
  · exact ⟨-11, σ, σ, by rw [q1]; rfl, by rw [q3]; rfl, hI⟩
  · have l0 : ¬ nI b < (0 : Int32) := nI_pos (by omega)
    have l2 : nI b < (50 : Int32) := nI_lt (b := 50) (by omega) (by omega)
    rcases mk_sh h he3 with ⟨r1, r2, r3, _⟩ | ⟨b', hb2', r1, r2, r3, r4, _⟩ | ⟨s', hs', r1, r2, r3, r4, _⟩
    · exact ⟨-11, σ, σ, by rw [q1, r1]; rfl, by rw [q3, if_neg l0, r3]; rfl, hI⟩
    · have l0' : (0 : Int32) ≤ nI b' := nI_pos' (by omega)
      exact ⟨-12, σ, σ, by rw [q1, r1, q2]; rfl, by rw [q3, if_neg l0, r3, if_pos l0', if_pos l2], hI⟩
    · have l0' : (0 : Int32) ≤ nI (50 + s') := nI_pos' (by omega)
      exact ⟨-12, σ, σ, by rw [q1, r1, q2]; rfl, by rw [q3, if_neg l0, r3, if_pos l0', if_pos l2], hI⟩
  · have l0 : ¬ nI (50 + s) < (0 : Int32) := nI_pos (by omega)
    have l2 : ¬ nI (50 + s) < (50 : Int32) := nI_nlt (a := 50 + s) (b := 50) (by omega) (by omega)
    rcases mk_sh h he3 with ⟨r1, r2, r3, _⟩ | ⟨b', hb2', r1, r2, r3, r4, _⟩ | ⟨s', hs', r1, r2, r3, r4, _⟩
    · exact ⟨-11, σ, σ, by rw [q1, r1]; rfl, by rw [q3, if_neg l0, r3]; rfl, hI⟩
    · have l0' : (0 : Int32) ≤ nI b' := nI_pos' (by omega)
      refine ⟨-12, σ, σ, by rw [q1, r1, q2, r2]; rfl, ?_, hI⟩
      rw [q3, if_neg l0, r3, if_pos l0', if_neg l2, if_neg (fun x => by have := (nI_eq (by omega) (by omega)).mp x; omega)]
    · have l0' : (0 : Int32) ≤ nI (50 + s') := nI_pos' (by omega)
      have al : f_X8_areAlike σ (nI e1) (nI e3) = some (if s = s' then 1 else 0) := by
        unfold f_X8_areAlike
        rw [mk_has8, if_neg h1, mk_has8, if_neg h2, if_pos hb1, if_pos hb3, hc1, hc3, q4, r4]
        by_cases hss : s = s'
        · rw [if_pos (by rw [hss]), if_pos hss]
        · rw [if_neg (fun x => hss ((nI_eq (by omega) (by omega)).mp x)), if_neg hss]
      by_cases hss : s = s'
      · obtain ⟨z1, hz1, ez1⟩ := (h.shelf e1 he1).rsize
        obtain ⟨z3, hz3, ez3⟩ := (h.shelf e3 he3).rsize
        have y1 := (h.shelf e1 he1).size
        have y3 := (h.shelf e3 he3).size
        rw [ez1] at y1
        rw [ez3] at y3
        have t1 : (nI z1).toInt = z1 := nI_toInt (by omega)
        have t3 : (nI z3).toInt = z3 := nI_toInt (by omega)
        have e10 : ∀ (τ : mj_S) (u : Option (Int32 × mj_S)), (if σ.1 87 e1 < 0 then some (-11, τ) else if 0 ≤ σ.1 87 e3 then if σ.1 87 e1 < 50 then some (-12, τ) else if σ.1 87 e1 = σ.1 87 e3 then u else some (-12, τ) else some (-11, τ)) = u := by
          intro τ u
          rw [q3, if_neg l0, r3, if_pos l0', if_neg l2, if_pos (by rw [hss])]
        rw [q1, r1, q2, r2, al, if_pos hss, mk_place he1 ez1 hz1, mk_place he3 ez3 hz3]
        have e9 : ∀ (A B : Int32) (u : Option (Int32 × mj_S)), ((some (0 : Int32)).bind fun r3 => if r3 = 0 then (some (0 : Int32)).bind fun r5 => if r5 = 0 then (some (1 : Int32)).bind fun r7 => if r7 = 0 then some (-12, σ) else (some (1 : Int32)).bind fun r9 => if r9 = 0 then some (-12, σ) else (some (1 : Int32)).bind fun r11 => if r11 = 0 then some (-12, σ) else (some A).bind fun r13 => if r13 = 0 then some (-13, σ) else (some B).bind fun r15 => if r15 = 0 then some (-13, σ) else u else some (-11, σ) else some (-11, σ)) = if A = 0 then some (-13, σ) else if B = 0 then some (-13, σ) else u := fun A B u => rfl
        rw [e9]
        have e11 : ∀ (τ : mj_S) (u : Option (Int32 × mj_S)), (if x4 < 0 then some (-13, τ) else if x1 < 0 then some (-13, τ) else if x3 < 0 then some (-13, τ) else if nI z1 - x4 < x1 then some (-13, τ) else if x3 ≤ nI z3 - x4 then u else some (-13, τ)) = if (0 ≤ x1.toInt ∧ 0 ≤ x4.toInt ∧ x1.toInt + x4.toInt ≤ z1) ∧ (0 ≤ x3.toInt ∧ 0 ≤ x4.toInt ∧ x3.toInt + x4.toInt ≤ z3) then u else some (-13, τ) := by
          intro τ u
          simp only [mk_ltt, mk_lee, e0]
          have b1 := Int32.toInt_lt x4
          by_cases g1 : x4.toInt < 0
          · rw [if_pos g1, if_neg (by omega)]
          rw [if_neg g1]
          by_cases g2 : x1.toInt < 0
          · rw [if_pos g2, if_neg (by omega)]
          rw [if_neg g2]
          by_cases g3 : x3.toInt < 0
          · rw [if_pos g3, if_neg (by omega)]
          rw [if_neg g3, mk_sub (by rw [t1]; omega) (by rw [t1]; omega), mk_sub (by rw [t3]; omega) (by rw [t3]; omega), t1, t3]
          by_cases g4 : (z1 : Int) - x4.toInt < x1.toInt
          · rw [if_pos g4, if_neg (by omega)]
          rw [if_neg g4]
          by_cases g5 : x3.toInt ≤ (z3 : Int) - x4.toInt
          · rw [if_pos g5, if_pos (by omega)]
          · rw [if_neg g5, if_neg (by omega)]
        by_cases hA : 0 ≤ x1.toInt ∧ 0 ≤ x4.toInt ∧ x1.toInt + x4.toInt ≤ z1
        · by_cases hB : 0 ≤ x3.toInt ∧ 0 ≤ x4.toInt ∧ x3.toInt + x4.toInt ≤ z3
          · have bp := Int32.toInt_lt x1
            have bq := Int32.toInt_lt x3
            have bL := Int32.toInt_lt x4
            obtain ⟨p, hp, rfl⟩ : ∃ p, p < 2 ^ 31 ∧ x1 = nI p := ⟨x1.toInt.toNat, by omega, mk_ofNN hA.1⟩
            obtain ⟨q, hq, rfl⟩ : ∃ p, p < 2 ^ 31 ∧ x3 = nI p := ⟨x3.toInt.toNat, by omega, mk_ofNN hB.1⟩
            obtain ⟨L, hL, rfl⟩ : ∃ p, p < 2 ^ 31 ∧ x4 = nI p := ⟨x4.toInt.toNat, by omega, mk_ofNN hA.2.1⟩
            have tp : (nI p).toInt = p := nI_toInt hp
            have tq : (nI q).toInt = q := nI_toInt hq
            have tL : (nI L).toInt = L := nI_toInt hL
            have hA' : p + L ≤ z1 := by omega
            have hB' : q + L ≤ z3 := by omega
            have k1 : 60 * nI e1 + nI p = nI (60 * e1 + p) := mk_sixty he1 (by omega)
            have k3 : 60 * nI e3 + nI q = nI (60 * e3 + q) := mk_sixty he3 (by omega)
            obtain ⟨τ, o1, o2, o3, o4⟩ := mk_out (b1 := 60 * e1 + p) (L := L) (v3 := nI e3) (v4 := nI q) (by omega) (by omega) k1 5000 0 (mj_sQ σ (58 + e3) (va_cpy (σ.2 (58 + e1)) (σ.2 (58 + e3)) p q L)) (by omega) (by omega)
            obtain ⟨τ', b1, b2, b3⟩ := mk_back (b3 := 60 * e3 + q) (L := L) (by omega) (by omega) k3 5000 0 τ (by omega) (by omega)
            refine ⟨nI L, mj_sQ σ (58 + e3) (va_cpy (σ.2 (58 + e1)) (σ.2 (58 + e3)) p q L), τ', ?_, ?_, g, c, w, n, k, d, d2, a, mk_shiftJ h he1 he3 (p := p) (q := q) (L := L) (by omega) (by omega) (by rw [q3, r3, hss]) τ' (b2.trans o2) ?_⟩
            · rw [if_pos hA, if_pos hB, if_neg (by decide), if_neg (by decide)]
              unfold f_X8_move
              rw [mk_place he1 ez1 hz1, mk_place he3 ez3 hz3, if_pos hA, if_pos hB, if_pos hb1, if_pos hb3, hc1, hc3]
              show (if (0 ≤ (nI p).toInt ∧ 0 ≤ (nI q).toInt) ∧ 0 ≤ (nI L).toInt ∧ (nI p).toInt + (nI L).toInt ≤ (60 : Int) ∧ (nI q).toInt + (nI L).toInt ≤ (60 : Int) then _ else none).bind _ = _
              rw [if_pos (by omega), nI_clamp hp, nI_clamp hq, nI_clamp hL]
              rfl
            · show (if σ.1 87 e1 < 0 then some (-11, mj_sQ σ (58 + e3) (va_cpy (σ.2 (58 + e1)) (σ.2 (58 + e3)) p q L)) else if 0 ≤ σ.1 87 e3 then if σ.1 87 e1 < 50 then some (-12, mj_sQ σ (58 + e3) (va_cpy (σ.2 (58 + e1)) (σ.2 (58 + e3)) p q L)) else if σ.1 87 e1 = σ.1 87 e3 then (if nI L < 0 then some (-13, mj_sQ σ (58 + e3) (va_cpy (σ.2 (58 + e1)) (σ.2 (58 + e3)) p q L)) else if nI p < 0 then some (-13, mj_sQ σ (58 + e3) (va_cpy (σ.2 (58 + e1)) (σ.2 (58 + e3)) p q L)) else if nI q < 0 then some (-13, mj_sQ σ (58 + e3) (va_cpy (σ.2 (58 + e1)) (σ.2 (58 + e3)) p q L)) else if σ.1 88 e1 - nI L < nI p then some (-13, mj_sQ σ (58 + e3) (va_cpy (σ.2 (58 + e1)) (σ.2 (58 + e3)) p q L)) else if nI q ≤ σ.1 88 e3 - nI L then b_X10_shift_113 5000 (nI e1) (nI p) (nI e3) (nI q) (nI L) (nI 0) (mj_sQ σ (58 + e3) (va_cpy (σ.2 (58 + e1)) (σ.2 (58 + e3)) p q L)) else some (-13, mj_sQ σ (58 + e3) (va_cpy (σ.2 (58 + e1)) (σ.2 (58 + e3)) p q L))) else some (-12, mj_sQ σ (58 + e3) (va_cpy (σ.2 (58 + e1)) (σ.2 (58 + e3)) p q L)) else some (-11, mj_sQ σ (58 + e3) (va_cpy (σ.2 (58 + e1)) (σ.2 (58 + e3)) p q L))) = some (nI L, τ')
              rw [e10, ← y1, ← y3, e11, if_pos ⟨hA, hB⟩, o1]
              exact b1
            · intro x y hx
              rw [b3]
              by_cases g1 : x = 89 ∧ 60 * e3 + q + 0 ≤ y ∧ y < 60 * e3 + q + L
              · rw [if_pos g1, if_neg (by omega), if_pos (by omega), o4 _ (by omega), if_pos (by omega), mk_gQ, if_neg (by omega)]
              · rw [if_neg g1, o3 x y hx, mk_gQ]
                by_cases g2 : x = 58 + e3
                · rw [if_pos g2]
                  unfold va_cpy
                  by_cases g3 : q ≤ y ∧ y < q + L
                  · rw [if_pos g3, if_pos ⟨g2, g3⟩]
                  · rw [if_neg g3, if_neg (fun z => g3 z.2), if_neg (by omega), g2]
                · rw [if_neg g2, if_neg (fun z => g2 z.1), if_neg (by omega)]
          · refine ⟨-13, σ, σ, by rw [if_pos hA, if_neg (by decide), if_neg hB, if_pos rfl], ?_, hI⟩
            rw [e10, ← y1, ← y3, e11, if_neg (fun x => hB x.2)]
        · refine ⟨-13, σ, σ, by rw [if_neg hA, if_pos rfl], ?_, hI⟩
          rw [e10, ← y1, ← y3, e11, if_neg (fun x => hA x.1)]
      · refine ⟨-12, σ, σ, by rw [q1, r1, q2, r2, al, if_neg hss]; rfl, ?_, hI⟩
        rw [q3, if_neg l0, r3, if_pos l0', if_neg l2, if_neg (fun x => by have := (nI_eq (by omega) (by omega)).mp x; omega)]
