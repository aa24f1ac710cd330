-- calls that want no height
theorem mk_two {I : mj_S → Prop} {σ : mj_S} {α : Type} {f9 f10 : Option α} (hI : I σ) (hx : ∃ x, f9 = some x ∧ f10 = some x) : ∃ (v : α) (σ1 σ2 : mj_S), (f9 = some v ∧ σ1 = σ) ∧ (f10 = some v ∧ σ2 = σ1) ∧ I σ2 := by
  obtain ⟨x, h9, h10⟩ := hx
  exact ⟨x, σ, σ, ⟨h9, rfl⟩, ⟨h10, rfl⟩, hI⟩
theorem mk_six {I : mj_S → Prop} {σ : mj_S} {α : Type} {f9 : mj_S → Option α} {f10 : mj_S → Option α} (hI : I σ) (hx : ∃ x, f9 σ = some x ∧ f10 σ = some x) : ∃ (v : α) (σ1 σ2 : mj_S), (f9 σ = some v ∧ σ1 = σ) ∧ (f10 σ1 = some v ∧ σ2 = σ1) ∧ I σ2 := by
  obtain ⟨x, h9, h10⟩ := hx
  exact ⟨x, σ, σ, ⟨h9, rfl⟩, ⟨h10, rfl⟩, hI⟩
theorem op_count (σ : mj_S) (x0 : Int32) : mk_I σ → ∃ (v : Int32) (σ1 σ2 : mj_S), (f_X9_count σ x0 = v ∧ σ1 = σ) ∧ (f_X10_count σ1 x0 = v ∧ σ2 = σ1) ∧ mk_I σ2 := by
  rintro ⟨g, c, w, n, k, d, d2, a, h⟩
  refine ⟨_, σ, σ, ⟨rfl, rfl⟩, ⟨?_, rfl⟩, ⟨g, c, w, n, k, d, d2, a, h⟩⟩
  unfold f_X9_count f_X10_count f_X2_size f_X2_wantsTold f_X5_size f_X7_tapeLength f_X1_toUndo f_X0_size f_X0_ranInAll
  rw [h.c9, h.c64, h.w9, h.w64, h.k35, h.k64, h.n5, h.n64, h.d45, h.d64, h.a50, h.a64, h.ran]
theorem mk_ltt {a b : Int32} : (a < b) = (a.toInt < b.toInt) := propext Int32.lt_iff_toInt_lt
theorem mk_lee {a b : Int32} : (a ≤ b) = (a.toInt ≤ b.toInt) := propext Int32.le_iff_toInt_le
theorem op_trace (σ : mj_S) (x0 : Int32) : mk_I σ → ∃ (v : Int32) (σ1 σ2 : mj_S), (f_X9_trace σ x0 = some v ∧ σ1 = σ) ∧ (f_X10_trace σ1 x0 = some v ∧ σ2 = σ1) ∧ mk_I σ2 := by
  rintro ⟨g, c, w, n, k, d, d2, a, h⟩
  have hI : mk_I σ := ⟨g, c, w, n, k, d, d2, a, h⟩
  refine mk_six (f9 := fun σ => f_X9_trace σ x0) (f10 := fun σ => f_X10_trace σ x0) hI ?_
  simp only [f_X9_trace, f_X10_trace, f_X0_ranAt, h.ran]
  by_cases h1 : x0 < 0
  · exact ⟨-1, by simp [h1], by simp [h1]⟩
  by_cases h2 : σ.1 64 41 ≤ x0
  · exact ⟨-1, by simp [h2], by simp [h2]⟩
  by_cases h3 : (24 : Int32) ≤ x0
  · exact ⟨-1, by simp [h3], by simp [h3]⟩
  have hb : 0 ≤ x0.toInt ∧ x0.toInt < 24 := by
    rw [mk_ltt] at h1
    rw [mk_lee] at h3
    have e0 : (0 : Int32).toInt = 0 := rfl
    have e24 : (24 : Int32).toInt = 24 := rfl
    omega
  have hx : x0.toNatClampNeg < 24 := by show x0.toInt.toNat < 24; omega
  exact ⟨_, by simp only [if_neg h1, if_neg h2, if_neg h3, if_pos hb]; rfl, by simp only [if_neg h1, if_neg h2, if_neg h3, if_pos hb, h.trace _ hx]⟩
theorem op_feed (σ : mj_S) (x0 : Int32) : mk_I σ → ∃ (v : Int32) (σ1 σ2 : mj_S), f_X9_feed σ x0 = some (v, σ1) ∧ f_X10_feed σ1 x0 = some (v, σ2) ∧ mk_I σ2 := by
  rintro ⟨g, c, w, n, k, d, d2, a, h⟩
  have hI : mk_I σ := ⟨g, c, w, n, k, d, d2, a, h⟩
  have hn := h.hn
  unfold f_X9_feed f_X10_feed f_X7_tapeLength f_X7_take
  simp only [mk_w9, mk_w10, Int32.toInt_toInt64]
  have e0 : (0 : Int32).toInt = 0 := rfl
  have e1 : (255 : Int32).toInt = 255 := rfl
  have e2 : (0 : Int64).toInt = 0 := rfl
  have e3 : (255 : Int64).toInt = 255 := rfl
  simp only [e0, e1, e2, e3]
  by_cases h1 : mk_bt x0.toInt 0 255 = 0
  · exact ⟨-1, σ, σ, by rw [if_pos h1], by rw [if_pos h1], hI⟩
  simp only [if_neg h1]
  have h1' : 0 ≤ x0.toInt ∧ x0.toInt ≤ 255 := Decidable.of_not_not (fun q => h1 (mk_bt0.mpr q))
  by_cases h2 : n = 120
  · exact ⟨-3, σ, σ, by rw [if_neg (by rw [h.n5, h2]; exact nI_nlt (a := 120) (b := 120) (by omega) (by decide))], by rw [if_pos (by rw [h.n64, h2]; rfl)], hI⟩
  have hn2 : n < 120 := by omega
  have l1 : σ.1 5 3 < 120 := by rw [h.n5]; exact nI_lt (b := 120) hn2 (by decide)
  refine ⟨nI (n + 1), mj_sI (mj_sI σ 6 n x0) 5 3 (nI (n + 1)), mj_sI (mj_sI (mj_sI (mj_sI σ 6 n x0) 5 3 (nI (n + 1))) 75 n x0) 64 16 (nI (n + 1)), ?_, ?_, ?_⟩
  · rw [if_pos l1, if_neg (by rw [h.n5]; exact nI_ge (b := 120) hn2 (by decide)), if_pos (by rw [h.n5, nI_toInt (by omega)]; omega)]
    rw [h.n5, nI_1, nI_clamp (by omega)]
    rfl
  · have e : (mj_sI (mj_sI σ 6 n x0) 5 3 (nI (n + 1))).1 64 16 = nI n := h.n64
    rw [e, if_neg (fun q => h2 (by have := (nI_eq (b := 120) (by omega) (by decide)).mp q; exact this)), if_pos (by rw [nI_toInt (by omega)]; omega), nI_1, nI_clamp (by omega)]
  · exact ⟨g, c, w, n + 1, k, d, d2, a, (mk_J.mk (hc := h.hc) (c9 := h.c9) (c64 := h.c64) (kid := h.kid) (hw := h.hw) (w9 := h.w9) (w64 := h.w64) (want := h.want) (noWant := h.noWant) (law := h.law) (stale := h.stale) (rows := h.rows) (rowsM := h.rowsM) (grown := h.grown) (hk := h.hk) (k35 := h.k35) (k64 := h.k64) (mark := h.mark) (painted := h.painted) (ahead := h.ahead) (hd := h.hd) (hd2 := h.hd2) (d45 := h.d45) (d64 := h.d64) (e45 := h.e45) (e64 := h.e64) (chg := h.chg) (ha := h.ha) (a50 := h.a50) (a64 := h.a64) (body := h.body) (ran := h.ran) (trace := h.trace) (shelf := h.shelf)
         (hn := hn2)
         (n5 := rfl)
         (n64 := rfl)
         (tape := by
            show upd (σ.1 6) n x0 = upd (σ.1 75) n x0
            rw [h.tape])
         (bytes := fun i hi => by
            show mk_r (if i = n then x0 else σ.1 6 i) 255
            by_cases hin : i = n
            · rw [if_pos hin]
              exact ⟨x0.toInt.toNat, by omega, mk_ofNN h1'.1⟩
            · rw [if_neg hin]
              exact h.bytes i (by omega)))⟩

theorem mk_has2 {g c w n k d d2 a σ} (h : mk_J g c w n k d d2 a σ) (x : Int32) : f_X2_has σ x = mk_bt x.toInt 0 (c - 1) := by
  have := h.hc
  exact mk_has h.c9 (by omega)
theorem mk_child10 {g c w n k d d2 a σ} (h : mk_J g c w n k d d2 a σ) (x : Int32) : f_X10_isChild σ x = mk_bt x.toInt 0 (c - 1) := by
  have := h.hc
  exact mk_is σ h.c64 (by omega)
theorem mk_has5 {g c w n k d d2 a σ} (h : mk_J g c w n k d d2 a σ) (x : Int32) : f_X5_has σ x = mk_bt x.toInt 0 (k - 1) := by
  have := h.hk
  exact mk_has h.k35 (by omega)
theorem mk_mark10 {g c w n k d d2 a σ} (h : mk_J g c w n k d d2 a σ) (x : Int32) : f_X10_isMark σ x = mk_bt x.toInt 0 (k - 1) := by
  have := h.hk
  exact mk_is σ h.k64 (by omega)
theorem mk_has0 {g c w n k d d2 a σ} (h : mk_J g c w n k d d2 a σ) (x : Int32) : f_X0_has σ x = mk_bt x.toInt 0 (a - 1) := by
  have := h.ha
  exact mk_has h.a50 (by omega)
theorem mk_body10 {g c w n k d d2 a σ} (h : mk_J g c w n k d d2 a σ) (x : Int32) : f_X10_isBody σ x = mk_bt x.toInt 0 (a - 1) := by
  have := h.ha
  exact mk_is σ h.a64 (by omega)
theorem mk_has8 (σ : mj_S) (x : Int32) : f_X8_has σ x = mk_bt x.toInt 0 5 := mk_has (n := 6) rfl (by decide)
theorem mk_shelf10 (σ : mj_S) (x : Int32) : f_X10_isShelf σ x = mk_bt x.toInt 0 5 := by
  unfold f_X10_isShelf
  rw [mk_w10, mk_zb, Int32.toInt_toInt64]
  rfl
theorem mk_kind9 (σ : mj_S) (x : Int32) : f_X0_isKind σ x = mk_bt x.toInt 0 7 := by
  unfold f_X0_isKind
  rw [mk_w9, mk_zb]
  rfl
theorem mk_lit64 (x : Int32) (σ : mj_S) (a b : Int64) : f_X10_within σ x.toInt64 a b = mk_bt x.toInt a.toInt b.toInt := by
  rw [mk_w10, Int32.toInt_toInt64]
theorem mk_in_of {x a b : Int} (h : ¬ mk_bt x a b = 0) : a ≤ x ∧ x ≤ b := Decidable.of_not_not (fun q => h (mk_bt0.mpr q))
theorem mk_bt1 {x a b : Int} (h : a ≤ x ∧ x ≤ b) : mk_bt x a b = 1 := if_pos h
theorem mk_btn {x a b : Int} (h : a ≤ x ∧ x ≤ b) : ¬ mk_bt x a b = 0 := fun q => mk_bt0.mp q h
theorem op_body (σ : mj_S) (x0 : Int32) : mk_I σ → ∃ (v : Int32) (σ1 σ2 : mj_S), f_X9_body σ x0 = some (v, σ1) ∧ f_X10_body σ1 x0 = some (v, σ2) ∧ mk_I σ2 := by
  rintro ⟨g, c, w, n, k, d, d2, a, h⟩
  have hI : mk_I σ := ⟨g, c, w, n, k, d, d2, a, h⟩
  have ha := h.ha
  unfold f_X9_body f_X10_body f_X0_size f_X0_add
  simp only [mk_kind9, mk_lit64]
  have e2 : (0 : Int64).toInt = 0 := rfl
  have e3 : (7 : Int64).toInt = 7 := rfl
  simp only [e2, e3]
  by_cases h1 : mk_bt x0.toInt 0 7 = 0
  · exact ⟨-1, σ, σ, by rw [if_pos h1], by rw [if_pos h1], hI⟩
  simp only [if_neg h1]
  have h1' := mk_in_of h1
  by_cases h2 : a = 50
  · exact ⟨-3, σ, σ, by rw [if_pos (by rw [h.a50, h2]; exact nI_le (a := 50) (b := 50) (by omega) (by decide))], by rw [if_pos (by rw [h.a64, h2]; rfl)], hI⟩
  have hn2 : a < 50 := by omega
  have l1 : σ.1 50 1 < 50 := by rw [h.a50]; exact nI_lt (b := 50) hn2 (by decide)
  refine ⟨nI a, mj_sI (mj_sI σ 51 a x0) 50 1 (nI (a + 1)), mj_sI (mj_sI (mj_sI (mj_sI σ 51 a x0) 50 1 (nI (a + 1))) 85 a x0) 64 38 (nI (a + 1)), ?_, ?_, ?_⟩
  · rw [if_neg (by rw [h.a50]; exact nI_ge (b := 50) hn2 (by decide)), if_pos l1, if_pos (by rw [h.a50, nI_toInt (by omega)]; omega)]
    rw [h.a50, nI_1, nI_clamp (by omega), nI_pred]
    rfl
  · have e : (mj_sI (mj_sI σ 51 a x0) 50 1 (nI (a + 1))).1 64 38 = nI a := h.a64
    rw [e, if_neg (fun q => h2 (by have := (nI_eq (b := 50) (by omega) (by decide)).mp q; exact this)), if_pos (by rw [nI_toInt (by omega)]; omega), nI_1, nI_clamp (by omega), nI_pred]
  · exact ⟨g, c, w, n, k, d, d2, a + 1, (mk_J.mk (hc := h.hc) (c9 := h.c9) (c64 := h.c64) (kid := h.kid) (hw := h.hw) (w9 := h.w9) (w64 := h.w64) (want := h.want) (noWant := h.noWant) (hn := h.hn) (n5 := h.n5) (n64 := h.n64) (tape := h.tape) (bytes := h.bytes) (law := h.law) (stale := h.stale) (rows := h.rows) (rowsM := h.rowsM) (grown := h.grown) (hk := h.hk) (k35 := h.k35) (k64 := h.k64) (mark := h.mark) (painted := h.painted) (ahead := h.ahead) (hd := h.hd) (hd2 := h.hd2) (d45 := h.d45) (d64 := h.d64) (e45 := h.e45) (e64 := h.e64) (chg := h.chg) (ran := h.ran) (trace := h.trace)
         (ha := hn2)
         (a50 := rfl)
         (a64 := rfl)
         (body := fun i hi => by
            show (if i = a then x0 else σ.1 51 i) = (if i = a then x0 else σ.1 85 i) ∧ mk_r (if i = a then x0 else σ.1 51 i) 7
            by_cases hin : i = a
            · rw [if_pos hin, if_pos hin]
              exact ⟨rfl, x0.toInt.toNat, by omega, mk_ofNN h1'.1⟩
            · rw [if_neg hin, if_neg hin]
              exact h.body i (by omega))
         (shelf := fun e he => (mk_shelf.mk (size := (h.shelf e he).size) (rsize := (h.shelf e he).rsize) (el := (h.shelf e he).el) (short := (h.shelf e he).short)
           (what := by
              rcases (h.shelf e he).what with q | ⟨b, hb, q⟩ | q
              · exact .inl q
              · exact .inr (.inl ⟨b, by omega, q⟩)
              · exact .inr (.inr q)))))⟩
theorem mk_wantOf (σ : mj_S) (m : Int32) {w : Nat} (hw : w ≤ 11) (h64 : σ.1 64 11 = nI w) : ∀ (f i : Nat), w < f + i → i ≤ w → b_X10_wantOf_4 σ f m (mk_wo (σ.1 72) (σ.1 73) (σ.1 74) m i) (nI i) = some (mk_wo (σ.1 72) (σ.1 73) (σ.1 74) m w)
  | 0, i, hf, hi => absurd hf (by omega)
  | f + 1, i, hf, hi => by
    unfold b_X10_wantOf_4
    rw [h64]
    by_cases hiw : i = w
    · rw [if_pos (by rw [hiw]; exact nI_le (by omega) (by omega)), hiw]
    · have hb : 0 ≤ (nI i).toInt ∧ (nI i).toInt < 11 := by
        rw [nI_toInt (by omega)]
        omega
      rw [if_neg (nI_ge (by omega) (by omega)), if_pos hb, if_pos hb, if_pos hb, nI_clamp (by omega), nI_1, mk_w10]
      simp only [Int32.toInt_toInt64, nI_clamp (show i < 2 ^ 31 by omega)]
      have ih := mk_wantOf σ m hw h64 f (i + 1) (by omega) (by omega)
      by_cases hin : (σ.1 72 i).toInt ≤ m.toInt ∧ m.toInt ≤ (σ.1 73 i).toInt
      · rw [if_neg (mk_btn hin)]
        have e : mk_wo (σ.1 72) (σ.1 73) (σ.1 74) m (i + 1) = mj_max (mk_wo (σ.1 72) (σ.1 73) (σ.1 74) m i) (σ.1 74 i) := if_pos hin
        by_cases hle : σ.1 74 i ≤ mk_wo (σ.1 72) (σ.1 73) (σ.1 74) m i
        · rw [if_pos hle]
          rw [e] at ih
          unfold mj_max at ih
          rw [if_neg (by rw [mk_lee] at hle; rw [mk_ltt]; omega)] at ih
          exact ih
        · rw [if_neg hle]
          rw [e] at ih
          unfold mj_max at ih
          rw [if_pos (by rw [mk_lee] at hle; rw [mk_ltt]; omega)] at ih
          rw [if_pos hb]
          exact ih
      · rw [if_pos (mk_bt0.mpr hin)]
        have e : mk_wo (σ.1 72) (σ.1 73) (σ.1 74) m (i + 1) = mk_wo (σ.1 72) (σ.1 73) (σ.1 74) m i := if_neg hin
        rw [e] at ih
        exact ih
theorem mk_wantOf10 {g c w n k d d2 a σ} (h : mk_J g c w n k d d2 a σ) {m : Nat} (hm : m < 600) : f_X10_wantOf σ (nI m) = some (σ.1 15 m) := by
  rw [h.want m hm]
  have := h.hw
  exact mk_wantOf σ (nI m) (by omega) h.w64 5000 0 (by omega) (by omega)
theorem op_wants (σ : mj_S) (x0 : Int32) : mk_I σ → ∃ (v : Int32) (σ1 σ2 : mj_S), (f_X9_wants σ x0 = some v ∧ σ1 = σ) ∧ (f_X10_wants σ1 x0 = some v ∧ σ2 = σ1) ∧ mk_I σ2 := by
  rintro ⟨g, c, w, n, k, d, d2, a, h⟩
  have hI : mk_I σ := ⟨g, c, w, n, k, d, d2, a, h⟩
  refine mk_six (f9 := fun σ => f_X9_wants σ x0) (f10 := fun σ => f_X10_wants σ x0) hI ?_
  unfold f_X9_wants f_X10_wants f_X2_wantAt
  simp only [mk_month9, mk_month10]
  by_cases h1 : mk_bt x0.toInt 0 599 = 0
  · exact ⟨-1, by rw [if_pos h1], by rw [if_pos h1]⟩
  obtain ⟨m, hm, rfl⟩ := mk_bt_of (x := x0) (n := 600) (by have := mk_in_of h1; omega) (by decide)
  refine ⟨σ.1 15 m, ?_, ?_⟩
  · rw [if_neg h1, if_neg h1, if_pos (by rw [nI_toInt (by omega)]; omega), nI_clamp (by omega)]
    rfl
  · rw [if_neg h1, mk_wantOf10 h hm]
    rfl
-- shelves
theorem mk_sixth {x : Int32} (h : ¬ mk_bt x.toInt 0 5 = 0) : ∃ e, e < 6 ∧ x = nI e := mk_bt_of (n := 6) (by have := mk_in_of h; omega) (by decide)
theorem mk_in6 {e : Nat} (he : e < 6) : 0 ≤ (nI e).toInt ∧ (nI e).toInt < 6 := by
  rw [nI_toInt (by omega)]
  omega
theorem mk_upd {f : Nat → Int32} {k j : Nat} {v : Int32} : upd f k v j = if j = k then v else f j := rfl
theorem mk_keepJ {g c w n k d d2 a σ} (h : mk_J g c w n k d d2 a σ) {e : Nat} (he : e < 6) {x : Int32} (hx : x = -1 ∨ ∃ b, b < a ∧ x = nI b) : mk_J g c w n k d d2 a (mj_sI (mj_sI (mj_sI (mj_sI (mj_sI σ 54 e x) 55 e (-1)) 56 e 0) 87 e x) 88 e 0) :=
  (mk_J.mk (hc := h.hc) (c9 := h.c9) (c64 := h.c64) (kid := h.kid) (hw := h.hw) (w9 := h.w9) (w64 := h.w64) (want := h.want) (noWant := h.noWant) (hn := h.hn) (n5 := h.n5) (n64 := h.n64) (tape := h.tape) (bytes := h.bytes) (law := h.law) (stale := h.stale) (rows := h.rows) (rowsM := h.rowsM) (grown := h.grown) (hk := h.hk) (k35 := h.k35) (k64 := h.k64) (mark := h.mark) (painted := h.painted) (ahead := h.ahead) (hd := h.hd) (hd2 := h.hd2) (d45 := h.d45) (d64 := h.d64) (e45 := h.e45) (e64 := h.e64) (chg := h.chg) (ha := h.ha) (a50 := h.a50) (a64 := h.a64) (body := h.body) (ran := h.ran) (trace := h.trace)
   (shelf := fun q hq => by
      have o := h.shelf q hq
      by_cases hqe : q = e
      · rw [hqe]
        rw [hqe] at o
        have u : ∀ (f : Nat → Int32) (v : Int32), upd f e v e = v := fun f v => if_pos rfl
        refine mk_shelf.mk (what := ?_) (size := ?_) (rsize := ?_) (el := o.el) (short := ?_)
        · rcases hx with rfl | ⟨b, hb, rfl⟩
          · exact .inl ⟨u _ _, u _ _, u _ _, u _ _⟩
          · exact .inr (.inl ⟨b, hb, u _ _, u _ _, u _ _, u _ _⟩)
        · exact (u _ _).trans (u _ _).symm
        · exact ⟨0, by omega, u _ _⟩
        · intro h51
          have h51 : x = 51 := (u _ _).symm.trans h51
          rcases hx with rfl | ⟨b, hb, rfl⟩
          · exact absurd h51 (by decide)
          · have := h.ha
            have e51 : nI b = nI 51 := h51
            rw [nI_eq (by omega) (by omega)] at e51
            omega
      · have u : ∀ (f : Nat → Int32) (v : Int32), upd f e v q = f q := fun f v => if_neg hqe
        refine mk_shelf.mk (what := ?_) (size := ?_) (rsize := ?_) (el := o.el) (short := ?_)
        · show (upd (σ.1 87) e x q = -1 ∧ upd (σ.1 54) e x q = -1 ∧ upd (σ.1 55) e (-1) q = -1 ∧ upd (σ.1 56) e 0 q = 0) ∨ (∃ b, b < a ∧ upd (σ.1 87) e x q = nI b ∧ upd (σ.1 54) e x q = nI b ∧ upd (σ.1 55) e (-1) q = -1 ∧ upd (σ.1 56) e 0 q = 0) ∨ (∃ s, s ≤ 4 ∧ upd (σ.1 87) e x q = nI (50 + s) ∧ upd (σ.1 54) e x q = -1 ∧ upd (σ.1 55) e (-1) q = nI s)
          simp only [u]
          exact o.what
        · show upd (σ.1 56) e 0 q = upd (σ.1 88) e 0 q
          simp only [u]
          exact o.size
        · show mk_r (upd (σ.1 56) e 0 q) 60
          simp only [u]
          exact o.rsize
        · show upd (σ.1 87) e x q = 51 → _
          simp only [u]
          exact o.short))
theorem op_keep (σ : mj_S) (x0 x1 : Int32) : mk_I σ → ∃ (v : Int32) (σ1 σ2 : mj_S), f_X9_keep σ x0 x1 = some (v, σ1) ∧ f_X10_keep σ1 x0 x1 = some (v, σ2) ∧ mk_I σ2 := by
  rintro ⟨g, c, w, n, k, d, d2, a, h⟩
  have hI : mk_I σ := ⟨g, c, w, n, k, d, d2, a, h⟩
  have ha := h.ha
  simp only [f_X9_keep, f_X10_keep, mk_has8, mk_shelf10]
  by_cases h1 : mk_bt x0.toInt 0 5 = 0
  · exact ⟨-1, σ, σ, by rw [if_pos h1], by rw [if_pos h1], hI⟩
  simp only [if_neg h1]
  obtain ⟨e, he, rfl⟩ := mk_sixth h1
  have hb := mk_in6 he
  have hcl : (nI e).toNatClampNeg = e := nI_clamp (by omega)
  have e9 : b_X9_keep_29 (nI e) x1 σ = some (1, mj_sI (mj_sI (mj_sI σ 54 e x1) 55 e (-1)) 56 e 0) := by
    unfold b_X9_keep_29 f_X8_holdBody
    simp only [mk_has8]
    rw [if_neg h1, if_pos hb, if_pos hb, if_pos hb, hcl]
    rfl
  have e10 : ∀ τ, b_X10_keep_22 (nI e) x1 τ = some (1, mj_sI (mj_sI τ 87 e x1) 88 e 0) := by
    intro τ
    unfold b_X10_keep_22
    rw [if_pos hb, if_pos hb, hcl]
  by_cases h2 : x1 = -1
  · exact ⟨1, _, _, by rw [if_pos h2]; exact e9, by rw [if_pos h2]; exact e10 _, ⟨g, c, w, n, k, d, d2, a, mk_keepJ h he (.inl h2)⟩⟩
  by_cases h3 : mk_bt x1.toInt 0 (a - 1) = 0
  · exact ⟨-1, σ, σ, by rw [if_neg h2, mk_has0 h, if_pos h3], by rw [if_neg h2, mk_body10 h, if_pos h3], hI⟩
  obtain ⟨b, hb2, rfl⟩ := mk_bt_of (x := x1) (n := a) (mk_in_of h3) (by omega)
  refine ⟨1, _, _, by rw [if_neg h2, mk_has0 h, if_neg h3]; exact e9, ?_, ⟨g, c, w, n, k, d, d2, a, mk_keepJ h he (.inr ⟨b, hb2, rfl⟩)⟩⟩
  rw [if_neg h2]
  have e : f_X10_isBody (mj_sI (mj_sI (mj_sI σ 54 e (nI b)) 55 e (-1)) 56 e 0) (nI b) = mk_bt (nI b).toInt 0 (a - 1) := mk_body10 h _
  rw [e, if_neg h3]
  exact e10 _
