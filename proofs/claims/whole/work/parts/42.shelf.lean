-- the six shelves
theorem mk_subN {a b : Nat} (h : b ≤ a) (ha : a < 2 ^ 31) : nI a - nI b = nI (a - b) := by
  refine mk_of ?_ (by omega)
  rw [mk_sub (by rw [nI_toInt ha, nI_toInt (by omega)]; omega) (by rw [nI_toInt ha, nI_toInt (by omega)]; omega), nI_toInt ha, nI_toInt (by omega)]
  omega
theorem mk_mulN (a b : Nat) : nI a * nI b = nI (a * b) := (Int32.ofNat_mul a b).symm
theorem mk_place {σ : mj_S} {e z : Nat} (he : e < 6) (hz : σ.1 56 e = nI z) (hz6 : z ≤ 60) (p q : Int32) : f_X8_hasPlaces σ (nI e) p q = some (if 0 ≤ p.toInt ∧ 0 ≤ q.toInt ∧ p.toInt + q.toInt ≤ z then 1 else 0) := by
  unfold f_X8_hasPlaces
  have e0 : (0 : Int32).toInt = 0 := rfl
  have tz : (nI z).toInt = z := nI_toInt (by omega)
  rw [mk_has8, if_neg (mk_btn (by rw [nI_toInt (by omega)]; omega)), if_pos (mk_in6 he), if_pos (mk_in6 he), nI_clamp (by omega), hz]
  simp only [mk_ltt, e0, tz]
  by_cases h1 : p.toInt < 0
  · rw [if_pos h1, if_neg (by omega)]
  rw [if_neg h1]
  by_cases h2 : q.toInt < 0
  · rw [if_pos h2, if_neg (by omega)]
  rw [if_neg h2]
  by_cases h3 : (z : Int) < p.toInt
  · rw [if_pos h3, if_neg (by omega)]
  rw [if_neg h3, mk_sub (by rw [tz]; omega) (by rw [tz]; omega), tz]
  by_cases h4 : (z : Int) - p.toInt < q.toInt
  · rw [if_pos h4, if_neg (by omega)]
  rw [if_neg h4, if_pos (by omega)]
theorem mk_sh {g c w n k d d2 a σ} (h : mk_J g c w n k d d2 a σ) {e : Nat} (he : e < 6) :
    (f_X8_holdsNothing σ (nI e) = some 1 ∧ f_X8_holdsRow σ (nI e) = some 0 ∧ σ.1 87 e = -1 ∧ f_X8_holdsShorts σ (nI e) = some 0 ∧ σ.1 56 e = 0) ∨
    (∃ b, b < a ∧ f_X8_holdsNothing σ (nI e) = some 0 ∧ f_X8_holdsRow σ (nI e) = some 0 ∧ σ.1 87 e = nI b ∧ f_X8_bodyOn σ (nI e) = some (nI b) ∧ f_X8_holdsShorts σ (nI e) = some 0 ∧ σ.1 56 e = 0) ∨
    (∃ s, s ≤ 4 ∧ f_X8_holdsNothing σ (nI e) = some 0 ∧ f_X8_holdsRow σ (nI e) = some 1 ∧ σ.1 87 e = nI (50 + s) ∧ σ.1 55 e = nI s ∧ f_X8_holdsShorts σ (nI e) = some (if s = 1 then 1 else 0)) := by
  have ha := h.ha
  unfold f_X8_holdsNothing f_X8_holdsRow f_X8_bodyOn f_X8_holdsShorts
  simp only [mk_has8, if_neg (mk_btn (x := (nI e).toInt) (a := 0) (b := 5) (by rw [nI_toInt (by omega)]; omega)), if_pos (mk_in6 he), nI_clamp (show e < 2 ^ 31 by omega)]
  rcases (h.shelf e he).what with ⟨q1, q2, q3, q4⟩ | ⟨b, hb, q1, q2, q3, q4⟩ | ⟨s, hs, q1, q2, q3⟩
  · refine .inl ⟨?_, ?_, q1, ?_, q4⟩
    · rw [if_pos q3, if_pos q2]
    · rw [if_pos q3]
    · rw [if_neg (by rw [q3]; decide)]
  · refine .inr (.inl ⟨b, hb, ?_, ?_, q1, ?_, ?_, q4⟩)
    · rw [if_pos q3, if_neg (by rw [q2]; intro q; have := congrArg Int32.toInt q; rw [nI_toInt (by omega)] at this; have z : (-1 : Int32).toInt = -1 := rfl; omega)]
    · rw [if_pos q3]
    · rw [q2]
    · rw [if_neg (by rw [q3]; decide)]
  · have hne : ¬ σ.1 55 e = -1 := by
      rw [q3]
      intro q
      have := congrArg Int32.toInt q
      rw [nI_toInt (by omega)] at this
      have z : (-1 : Int32).toInt = -1 := rfl
      omega
    refine .inr (.inr ⟨s, hs, ?_, ?_, q1, q3, ?_⟩)
    · rw [if_neg hne]
    · rw [if_neg hne]
    · rw [q3]
      by_cases h1 : s = 1
      · rw [if_pos h1, if_pos (by rw [h1]; rfl)]
      · rw [if_neg h1, if_neg (show ¬ nI s = (1 : Int32) from fun q => h1 ((nI_eq (b := 1) (by omega) (by omega)).mp q))]
/-- what a place asked for gives: the same refusal -/
theorem mk_refusal {g c w n k d d2 a σ} (h : mk_J g c w n k d d2 a σ) (x0 x1 : Int32) : ∃ v, f_X9_refusalAt σ x0 x1 = some v ∧ f_X10_refusal σ x0 x1 = some v ∧ (v = 0 → ∃ e i s z, e < 6 ∧ i < z ∧ z ≤ 60 ∧ s ≤ 4 ∧ x0 = nI e ∧ x1 = nI i ∧ σ.1 87 e = nI (50 + s) ∧ σ.1 55 e = nI s ∧ σ.1 56 e = nI z) := by
  have ha := h.ha
  unfold f_X9_refusalAt f_X10_refusal
  simp only [mk_has8, mk_shelf10]
  by_cases h1 : mk_bt x0.toInt 0 5 = 0
  · exact ⟨-1, by rw [if_pos h1], by rw [if_pos h1], fun q => absurd q (by decide)⟩
  simp only [if_neg h1]
  obtain ⟨e, he, rfl⟩ := mk_sixth h1
  have hb := mk_in6 he
  have hcl : (nI e).toNatClampNeg = e := nI_clamp (by omega)
  simp only [if_pos hb, hcl]
  rcases mk_sh h he with ⟨q1, q2, q3, _⟩ | ⟨b, hb2, q1, q2, q3, _⟩ | ⟨s, hs, q1, q2, q3, q4, _⟩
  · refine ⟨-11, by rw [q1]; rfl, by rw [q3]; rfl, fun q => absurd q (by decide)⟩
  · refine ⟨-12, by rw [q1, q2]; rfl, ?_, fun q => absurd q (by decide)⟩
    rw [q3, if_pos (nI_pos' (by omega)), if_neg (show ¬ (50 : Int32) ≤ nI b from nI_ge (a := b) (b := 50) (by omega) (by omega))]
  · obtain ⟨z, hz, ez⟩ := (h.shelf e he).rsize
    have ez2 := (h.shelf e he).size
    rw [ez] at ez2
    rw [q1, q2, q3]
    have l1 : (0 : Int32) ≤ nI (50 + s) := nI_pos' (by omega)
    have l2 : (50 : Int32) ≤ nI (50 + s) := nI_le (a := 50) (by omega) (by omega)
    have tz : (nI z).toInt = z := nI_toInt (by omega)
    have e0 : (0 : Int32).toInt = 0 := rfl
    have e1 : (1 : Int32).toInt = 1 := rfl
    rw [if_pos l1, if_pos l2, ← ez2]
    simp only [mk_ltt, mk_lee, e0, tz]
    show ∃ v, ((some 1 : Option Int32).bind fun r4 => if r4 = 0 then some (-12) else (f_X8_hasPlaces σ (nI e) x1 1).bind fun r6 => if r6 = 0 then some (-13) else some 0) = some v ∧ _
    rw [mk_place he ez hz x1 1, e1]
    by_cases h2 : x1.toInt < 0
    · refine ⟨-13, ?_, by rw [if_pos h2], fun q => absurd q (by decide)⟩
      rw [if_neg (by omega)]
      rfl
    rw [if_neg h2]
    by_cases h3 : (z : Int) ≤ x1.toInt
    · refine ⟨-13, ?_, by rw [if_pos h3], fun q => absurd q (by decide)⟩
      rw [if_neg (by omega)]
      rfl
    refine ⟨0, ?_, by rw [if_neg h3], fun _ => ⟨e, x1.toInt.toNat, s, z, he, by omega, hz, hs, rfl, mk_ofNN (by omega), q3, q4, ez⟩⟩
    rw [if_pos (by omega)]
    rfl
theorem mk_get {σ : mj_S} {e z i : Nat} (he : e < 6) (hz : σ.1 56 e = nI z) (hz6 : z ≤ 60) (hi : i < z) : f_X8_get σ (nI e) (nI i) = some (σ.2 (58 + e) i) := by
  have e1 : (1 : Int32).toInt = 1 := rfl
  unfold f_X8_get
  rw [mk_place he hz hz6, e1, nI_toInt (by omega), if_pos (by omega), nI_clamp (by omega), nI_clamp (by omega), if_pos (mk_in6 he), if_pos (by omega)]
  rfl
theorem mk_sixty {e i : Nat} (he : e < 6) (hi : i ≤ 60) : 60 * nI e + nI i = nI (60 * e + i) := by
  show nI 60 * nI e + nI i = _
  rw [mk_mulN, nI_add]
theorem op_element (σ : mj_S) (x0 x1 : Int32) : mk_I σ → ∃ (v : Int64) (σ1 σ2 : mj_S), (f_X9_element σ x0 x1 = some v ∧ σ1 = σ) ∧ (f_X10_element σ1 x0 x1 = some v ∧ σ2 = σ1) ∧ mk_I σ2 := by
  rintro ⟨g, c, w, n, k, d, d2, a, h⟩
  have hI : mk_I σ := ⟨g, c, w, n, k, d, d2, a, h⟩
  refine mk_six (f9 := fun σ => f_X9_element σ x0 x1) (f10 := fun σ => f_X10_element σ x0 x1) hI ?_
  simp only [f_X9_element, f_X10_element]
  obtain ⟨v, r9, r10, hv⟩ := mk_refusal h x0 x1
  rw [r9, r10]
  by_cases h0 : v = 0
  · obtain ⟨e, i, s, z, he, hi, hz, hs, rfl, rfl, _, _, ez⟩ := hv h0
    rw [h0]
    refine ⟨σ.2 (58 + e) i, ?_, ?_⟩
    · show (f_X8_get σ (nI e) (nI i)).bind _ = _
      rw [mk_get he ez hz hi]
      rfl
    · show (if 0 ≤ (60 * nI e + nI i).toInt ∧ (60 * nI e + nI i).toInt < 360 then some (σ.2 89 (60 * nI e + nI i).toNatClampNeg) else none) = _
      rw [mk_sixty he (by omega), if_pos (by rw [nI_toInt (by omega)]; omega), nI_clamp (by omega), ← (h.shelf e he).el i (by omega)]
      rw [mk_selE σ.2 58 e he]
  · exact ⟨_, if_neg h0, if_neg h0⟩
theorem mk_setJ {g c w n k d d2 a σ} (h : mk_J g c w n k d d2 a σ) {e i : Nat} (he : e < 6) (hi : i < 60) {v : Int64} (hv : σ.1 87 e = 51 → -32768 ≤ v.toInt ∧ v.toInt ≤ 32767) : mk_J g c w n k d d2 a (mj_sL (mj_sL σ (58 + e) i v) 89 (60 * e + i) v) := by
  have u : ∀ q, q < 6 → ∀ t, mk_sel ((mj_sL (mj_sL σ (58 + e) i v) 89 (60 * e + i) v).2 58) ((mj_sL (mj_sL σ (58 + e) i v) 89 (60 * e + i) v).2 59) ((mj_sL (mj_sL σ (58 + e) i v) 89 (60 * e + i) v).2 60) ((mj_sL (mj_sL σ (58 + e) i v) 89 (60 * e + i) v).2 61) ((mj_sL (mj_sL σ (58 + e) i v) 89 (60 * e + i) v).2 62) ((mj_sL (mj_sL σ (58 + e) i v) 89 (60 * e + i) v).2 63) q t = if q = e ∧ t = i then v else mk_sel (σ.2 58) (σ.2 59) (σ.2 60) (σ.2 61) (σ.2 62) (σ.2 63) q t := by
    intro q hq t
    have e1 := congrFun (mk_selE (mj_sL (mj_sL σ (58 + e) i v) 89 (60 * e + i) v).2 58 q hq) t
    have e2 := congrFun (mk_selE σ.2 58 q hq) t
    rw [e1, e2, mk_gL, if_neg (by omega), mk_gL]
    by_cases hh : q = e ∧ t = i
    · rw [if_pos (by omega), if_pos hh]
    · rw [if_neg (by omega), if_neg hh]
  exact mk_J.mk (hc := h.hc) (c9 := h.c9) (c64 := h.c64) (kid := h.kid) (hw := h.hw) (w9 := h.w9) (w64 := h.w64) (want := h.want) (noWant := h.noWant) (hn := h.hn) (n5 := h.n5) (n64 := h.n64) (tape := h.tape) (bytes := h.bytes) (law := h.law) (stale := h.stale) (rows := h.rows) (rowsM := h.rowsM) (grown := h.grown) (hk := h.hk) (k35 := h.k35) (k64 := h.k64) (mark := h.mark) (painted := h.painted) (ahead := h.ahead) (hd := h.hd) (hd2 := h.hd2) (d45 := h.d45) (d64 := h.d64) (e45 := h.e45) (e64 := h.e64) (chg := h.chg) (ha := h.ha) (a50 := h.a50) (a64 := h.a64) (body := h.body) (ran := h.ran) (trace := h.trace)
   (shelf := fun q hq => (mk_shelf.mk (what := (h.shelf q hq).what) (size := (h.shelf q hq).size) (rsize := (h.shelf q hq).rsize)
     (el := fun t ht => by
        rw [u q hq t, mk_gL]
        by_cases hh : q = e ∧ t = i
        · rw [if_pos hh, if_pos (by omega)]
        · rw [if_neg hh, if_neg (by omega), mk_gL, if_neg (by omega)]
          exact (h.shelf q hq).el t ht)
     (short := fun h51 t ht => by
        rw [u q hq t]
        by_cases hh : q = e ∧ t = i
        · rw [if_pos hh]
          exact hv (by rw [← hh.1]; exact h51)
        · rw [if_neg hh]
          exact (h.shelf q hq).short h51 t ht)))
theorem mk_bits (σ τ : mj_S) {s : Nat} (hs : s ≤ 4) (x : Int64) : f_X8_lowestBits σ (nI s) x = f_X10_asSort τ (nI (50 + s) - 50) x := by
  have e : nI (50 + s) - 50 = nI s := by
    have := mk_subN (a := 50 + s) (b := 50) (by omega) (by omega)
    rw [show 50 + s - 50 = s by omega] at this
    exact this
  rw [e]
  match s, hs with
  | 0, _ => rfl
  | 1, _ => rfl
  | 2, _ => rfl
  | 3, _ => rfl
  | 4, _ => rfl
theorem op_put (σ : mj_S) (x0 x1 : Int32) (x2 : Int64) : mk_I σ → ∃ (v : Int32) (σ1 σ2 : mj_S), f_X9_put σ x0 x1 x2 = some (v, σ1) ∧ f_X10_put σ1 x0 x1 x2 = some (v, σ2) ∧ mk_I σ2 := by
  rintro ⟨g, c, w, n, k, d, d2, a, h⟩
  have hI : mk_I σ := ⟨g, c, w, n, k, d, d2, a, h⟩
  obtain ⟨v, r9, r10, hv⟩ := mk_refusal h x0 x1
  unfold f_X9_put f_X10_put
  rw [r9]
  by_cases h0 : v = 0
  · obtain ⟨e, i, s, z, he, hi, hz, hs, rfl, rfl, e87, e55, ez⟩ := hv h0
    have hb := mk_in6 he
    have hcl : (nI e).toNatClampNeg = e := nI_clamp (by omega)
    have hci : (nI i).toNatClampNeg = i := nI_clamp (by omega)
    have e1 : (1 : Int32).toInt = 1 := rfl
    rw [h0] at r10 ⊢
    refine ⟨1, mj_sL σ (58 + e) i (f_X8_lowestBits σ (nI s) x2), mj_sL (mj_sL σ (58 + e) i (f_X8_lowestBits σ (nI s) x2)) 89 (60 * e + i) (f_X8_lowestBits σ (nI s) x2), ?_, ?_, g, c, w, n, k, d, d2, a, mk_setJ h he (by omega) ?_⟩
    · show (f_X8_set σ (nI e) (nI i) x2).bind _ = _
      unfold f_X8_set
      rw [mk_place he ez hz, e1, nI_toInt (by omega), if_pos (by omega), hcl, hci, if_pos hb, if_pos hb, if_pos (by omega), e55]
      show (if (1 : Int32) = 0 then some σ else _).bind _ = _
      rw [if_neg (by decide)]
      rfl
    · have e10 : f_X10_refusal (mj_sL σ (58 + e) i (f_X8_lowestBits σ (nI s) x2)) (nI e) (nI i) = some 0 := r10
      rw [e10]
      show (if 0 ≤ (nI e).toInt ∧ (nI e).toInt < 6 then _ else none) = _
      rw [if_pos hb, mk_sixty he (by omega), if_pos (by rw [nI_toInt (by omega)]; omega), nI_clamp (show 60 * e + i < 2 ^ 31 by omega), hcl]
      have e2 : (mj_sL σ (58 + e) i (f_X8_lowestBits σ (nI s) x2)).1 87 e = nI (50 + s) := e87
      rw [e2, ← mk_bits σ _ hs]
      rfl
    · intro h51
      rw [e87] at h51
      have hs1 : s = 1 := by
        have := (nI_eq (b := 51) (by omega) (by omega)).mp h51
        omega
      rw [hs1]
      show -32768 ≤ (x2.toInt32.toInt16.toInt32.toInt64).toInt ∧ (x2.toInt32.toInt16.toInt32.toInt64).toInt ≤ 32767
      rw [Int32.toInt_toInt64, Int16.toInt_toInt32]
      have a1 := Int16.le_toInt x2.toInt32.toInt16
      have a2 := Int16.toInt_lt x2.toInt32.toInt16
      omega
  · refine ⟨v, σ, σ, if_neg h0, ?_, hI⟩
    rw [r10]
    show (if v = 0 then _ else b_X10_put_37 v σ) = _
    rw [if_neg h0]
    unfold b_X10_put_37
    rw [if_neg h0]
