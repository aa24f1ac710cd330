-- want
def mk_Z1 (i : Nat) (x y : Nat) : Prop := x = i
theorem mk_frR {i : Nat} {σ τ : mj_S} (h : mk_fr (mk_Z1 i) σ τ) : τ = mj_sR σ i (τ.1 i) := by
  refine Prod.ext ?_ h.2
  funext x
  show τ.1 x = if x = i then τ.1 i else σ.1 x
  by_cases hx : x = i
  · rw [if_pos hx, hx]
  · rw [if_neg hx]
    exact funext fun y => h.1 x y hx
theorem mk_raiseLoop (a0 : Nat) {T : Nat} (hT : T ≤ 599) (v : Int32) : ∀ (f i : Nat) (σ : mj_S), 600 < f + i → i ≤ 600 → ∃ τ, b_X2_raise_7 f a0 600 (nI T) v (nI i) σ = some τ ∧ mk_fr (mk_Z1 a0) σ τ ∧ ∀ m, m < 600 → τ.1 a0 m = if i ≤ m ∧ m ≤ T then mj_max (σ.1 a0 m) v else σ.1 a0 m
  | 0, i, σ, hf, hi => absurd hf (by omega)
  | f + 1, i, σ, hf, hi => by
    unfold b_X2_raise_7
    by_cases h1 : T < i
    · exact ⟨σ, if_pos (nI_lt h1 (by omega)), ⟨fun _ _ _ => rfl, rfl⟩, fun m hm => by rw [if_neg (by omega)]⟩
    have hb : 0 ≤ (nI i).toInt ∧ (nI i).toInt < ((600 : Nat) : Int) := by
      rw [nI_toInt (by omega)]
      omega
    rw [if_neg (nI_nlt (by omega) (by omega)), if_neg (show ¬ Int32.ofNat 600 ≤ nI i from nI_ge (a := i) (b := 600) (by omega) (by omega)), if_pos hb, if_pos hb, nI_clamp (by omega), nI_1]
    obtain ⟨τ, t1, t2, t3⟩ := mk_raiseLoop a0 hT v f (i + 1) (mj_sI σ a0 i (mj_max (σ.1 a0 i) v)) (by omega) (by omega)
    refine ⟨τ, t1, mk_frt (mk_frI rfl) t2, fun m hm => ?_⟩
    rw [t3 m hm, mk_g]
    by_cases q2 : i + 1 ≤ m ∧ m ≤ T
    · rw [if_pos q2, if_neg (by omega), if_pos (by omega)]
    · rw [if_neg q2]
      by_cases q : m = i
      · rw [if_pos ⟨rfl, q⟩, if_pos (by omega), q]
      · rw [if_neg (fun z => q z.2), if_neg (by omega)]
theorem mk_forgetLoop {c : Nat} (hc : c ≤ 6) : ∀ (f i : Nat) (σ : mj_S), c < f + i → i ≤ c → σ.1 9 6 = nI c → ∃ τ, b_X2_forgetHeights_2 f (nI i) σ = some τ ∧ mk_fr (mk_Z1 33) σ τ ∧ (∀ j, j < c → i ≤ j → τ.1 33 j = 1) ∧ ∀ j, j < i → τ.1 33 j = σ.1 33 j
  | 0, i, σ, hf, hi, h9 => absurd hf (by omega)
  | f + 1, i, σ, hf, hi, h9 => by
    unfold b_X2_forgetHeights_2
    rw [h9]
    by_cases hic : i = c
    · exact ⟨σ, if_pos (by rw [hic]; exact nI_le (by omega) (by omega)), ⟨fun _ _ _ => rfl, rfl⟩, fun j h1 h2 => absurd h1 (by omega), fun _ _ => rfl⟩
    rw [if_neg (nI_ge (by omega) (by omega)), if_neg (show ¬ (6 : Int32) ≤ nI i from nI_ge (a := i) (b := 6) (by omega) (by omega)), if_pos (mk_in6 (by omega)), nI_clamp (by omega), nI_1]
    obtain ⟨τ, t1, t2, t3, t4⟩ := mk_forgetLoop hc f (i + 1) (mj_sI σ 33 i 1) (by omega) (by omega) h9
    refine ⟨τ, t1, mk_frt (mk_frI rfl) t2, fun j h1 h2 => ?_, fun j hj => ?_⟩
    · by_cases hji : j = i
      · rw [hji, t4 i (by omega), mk_g, if_pos ⟨rfl, rfl⟩]
      · exact t3 j h1 (by omega)
    · rw [t4 j (by omega), mk_g, if_neg (by omega)]
theorem mk_forget {σ : mj_S} {c : Nat} (hc : c ≤ 6) (h9 : σ.1 9 6 = nI c) : ∃ f, f_X2_forgetHeights σ = some (mj_sR σ 33 f) ∧ ∀ j, j < c → f j = 1 := by
  obtain ⟨τ, t1, t2, t3, _⟩ := mk_forgetLoop hc mj_fu 0 σ (by show c < 5000 + 0; omega) (by omega) h9
  refine ⟨τ.1 33, ?_, fun j hj => t3 j hj (by omega)⟩
  rw [← mk_frR t2]
  unfold f_X2_forgetHeights
  rw [nI_0] at t1
  exact t1
theorem mk_raise {σ : mj_S} (a0 : Nat) {F T : Nat} (hF : F ≤ 600) (hT : T ≤ 599) (v : Int32) : ∃ f, f_X2_raise σ a0 600 (nI F) (nI T) v = some (mj_sR σ a0 f) ∧ ∀ m, m < 600 → f m = if F ≤ m ∧ m ≤ T then mj_max (σ.1 a0 m) v else σ.1 a0 m := by
  obtain ⟨τ, t1, t2, t3⟩ := mk_raiseLoop a0 hT v mj_fu F σ (by show 600 < 5000 + F; omega) hF
  refine ⟨τ.1 a0, ?_, t3⟩
  rw [← mk_frR t2]
  unfold f_X2_raise
  have e : mj_max 0 (nI F) = nI F := by
    unfold mj_max
    by_cases h : (0 : Int32) < nI F
    · rw [if_pos h]
    · rw [if_neg h]
      have : F = 0 := by
        by_cases hF0 : F = 0
        · exact hF0
        · exact absurd (nI_lt (a := 0) (b := F) (by omega) (by omega)) h
      rw [this]
      rfl
  rw [e]
  exact t1
theorem mk_span (σ τ : mj_S) (x : Int32) : f_X10_isSpan σ x = f_X9_isSpan τ x := by
  unfold f_X10_isSpan f_X9_isSpan
  simp only [mk_month9, mk_month10]
theorem mk_span_of {σ : mj_S} {x : Int32} (h : ¬ f_X9_isSpan σ x = 0) : ∃ F T, F ≤ T ∧ T ≤ 599 ∧ x / 1000 = nI F ∧ mj_rem x 1000 = nI T := by
  unfold f_X9_isSpan at h
  simp only [mk_month9] at h
  by_cases h1 : x < 0
  · exact absurd (if_pos h1) h
  rw [if_neg h1] at h
  by_cases h2 : mk_bt (x / 1000).toInt 0 599 = 0
  · exact absurd (if_pos h2) h
  rw [if_neg h2] at h
  by_cases h3 : mk_bt (mj_rem x 1000).toInt 0 599 = 0
  · exact absurd (if_pos h3) h
  rw [if_neg h3] at h
  by_cases h4 : mj_rem x 1000 < x / 1000
  · exact absurd (if_pos h4) h
  have i2 := mk_in_of h2
  have i3 := mk_in_of h3
  rw [mk_ltt] at h4
  exact ⟨(x / 1000).toInt.toNat, (mj_rem x 1000).toInt.toNat, by omega, by omega, mk_ofNN i2.1, mk_ofNN i3.1⟩
theorem mk_wo_upd (F T K : Nat → Int32) (m f t v : Int32) (w : Nat) : ∀ i, i ≤ w → mk_wo (upd F w f) (upd T w t) (upd K w v) m i = mk_wo F T K m i
  | 0, _ => rfl
  | i + 1, h => by
    have u : ∀ (F : Nat → Int32) (v : Int32), upd F w v i = F i := fun F v => if_neg (by omega)
    show (if (upd F w f i).toInt ≤ m.toInt ∧ m.toInt ≤ (upd T w t i).toInt then mj_max (mk_wo (upd F w f) (upd T w t) (upd K w v) m i) (upd K w v i) else mk_wo (upd F w f) (upd T w t) (upd K w v) m i) = _
    rw [mk_wo_upd F T K m f t v w i (by omega), u, u, u]
    rfl
/-- the want told: both families behind it -/
def mk_tw (σ : mj_S) (w : Nat) (f t v : Int32) : mj_S := mj_sI (mj_sI (mj_sI (mj_sI (mj_sI σ 72 w f) 73 w t) 74 w v) 64 11 (nI (w + 1))) 64 6 0
theorem mk_tells10 {σ : mj_S} {w : Nat} (hw : w ≤ 10) (h : σ.1 64 11 = nI w) {x v f t : Int32} (hf : x / 1000 = f) (ht : mj_rem x 1000 = t) : f_X10_tellsWant σ x v = some (mk_tw σ w f t v) := by
  have hb : 0 ≤ (nI w).toInt ∧ (nI w).toInt < 11 := by
    rw [nI_toInt (by omega)]
    omega
  unfold f_X10_tellsWant
  rw [h, hf, ht, if_pos hb, if_pos hb, if_pos hb, nI_clamp (by omega), nI_1]
  rfl
theorem op_want (σ : mj_S) (x0 x1 : Int32) : mk_I σ → ∃ (v : Int32) (σ1 σ2 : mj_S), f_X9_want σ x0 x1 = some (v, σ1) ∧ f_X10_want σ1 x0 x1 = some (v, σ2) ∧ mk_I σ2 := by
  rintro ⟨g, c, w, n, k, d, d2, a, h⟩
  have hI : mk_I σ := ⟨g, c, w, n, k, d, d2, a, h⟩
  have hc := h.hc
  have hw := h.hw
  have e1 : (1 : Int32).toInt = 1 := rfl
  have e9 : (9 : Int32).toInt = 9 := rfl
  have f1 : (1 : Int64).toInt = 1 := rfl
  have f9 : (9 : Int64).toInt = 9 := rfl
  unfold f_X9_want f_X10_want f_X2_wantsTold
  simp only [mk_span _ σ, mk_w9, mk_lit64, e1, e9, f1, f9]
  by_cases g1 : f_X9_isSpan σ x0 = 0
  · exact ⟨-1, σ, σ, by rw [if_pos g1], by rw [if_pos g1], hI⟩
  simp only [if_neg g1]
  by_cases g2 : mk_bt x1.toInt 1 9 = 0
  · exact ⟨-1, σ, σ, by rw [if_pos g2], by rw [if_pos g2], hI⟩
  simp only [if_neg g2]
  by_cases g3 : w = 10
  · exact ⟨-3, σ, σ, by rw [if_neg (by rw [h.w9, g3]; exact nI_nlt (a := 10) (b := 10) (by omega) (by omega))], by rw [if_pos (by rw [h.w64, g3]; rfl)], hI⟩
  obtain ⟨F, T, hFT, hT, eF, eT⟩ := mk_span_of g1
  obtain ⟨f15, r1, r2⟩ := mk_raise (σ := σ) 15 (F := F) (T := T) (by omega) hT x1
  obtain ⟨f33, s1, s2⟩ := mk_forget (σ := mj_sR σ 15 f15) (c := c) hc h.c9
  have ad : f_X2_addWant σ (x0 / 1000) (mj_rem x0 1000) x1 = some (nI w, mj_sI (mj_sR (mj_sR σ 15 f15) 33 f33) 9 10 (nI (w + 1))) := by
    unfold f_X2_addWant
    rw [eF, eT, r1, mk_bs, s1, mk_bs]
    have e : (mj_sR (mj_sR σ 15 f15) 33 f33).1 9 10 = nI w := h.w9
    rw [e, nI_1, nI_pred]
  obtain ⟨ρ, t1, t2, t3⟩ := mk_refresh (g := g) (mj_sI (mj_sR (mj_sR σ 15 f15) 33 f33) 9 10 (nI (w + 1))) h.law (c := c) hc h.c9 (fun j hj h33 => by
    have : (1 : Int32) = 0 := (s2 j hj).symm.trans h33
    exact absurd this (by decide))
  refine ⟨nI w, ρ, mk_tw ρ w (nI F) (nI T) x1, ?_, ?_, g, c, w + 1, n, k, d, d2, a, ?_⟩
  · rw [if_pos (by rw [h.w9]; exact nI_lt (a := w) (b := 10) (by omega) (by omega)), ad, mk_bs, t1, mk_bs]
  · have e64 : ρ.1 64 11 = nI w := (t2.1 64 11 (by unfold mk_Zr; omega)).trans h.w64
    rw [e64, if_neg (show ¬ nI w = (10 : Int32) from fun q => g3 ((nI_eq (a := w) (b := 10) (by omega) (by omega)).mp q)), mk_tells10 hw e64 eF eT, mk_bs]
    show some (nI (w + 1) - 1, _) = _
    rw [nI_pred]
  · have hK : mk_K g c (w + 1) n k d d2 a (mk_tw (mj_sI (mj_sR (mj_sR σ 15 f15) 33 f33) 9 10 (nI (w + 1))) w (nI F) (nI T) x1) := (mk_K.mk (hc := (mk_JK h).hc) (c9 := (mk_JK h).c9) (c64 := (mk_JK h).c64) (kid := (mk_JK h).kid) (noWant := (mk_JK h).noWant) (hn := (mk_JK h).hn) (n5 := (mk_JK h).n5) (n64 := (mk_JK h).n64) (tape := (mk_JK h).tape) (bytes := (mk_JK h).bytes) (law := (mk_JK h).law) (hk := (mk_JK h).hk) (k35 := (mk_JK h).k35) (k64 := (mk_JK h).k64) (mark := (mk_JK h).mark) (painted := (mk_JK h).painted) (ahead := (mk_JK h).ahead) (hd := (mk_JK h).hd) (hd2 := (mk_JK h).hd2) (d45 := (mk_JK h).d45) (d64 := (mk_JK h).d64) (e45 := (mk_JK h).e45) (e64 := (mk_JK h).e64) (chg := (mk_JK h).chg) (ha := (mk_JK h).ha) (a50 := (mk_JK h).a50) (a64 := (mk_JK h).a64) (body := (mk_JK h).body) (ran := (mk_JK h).ran) (trace := (mk_JK h).trace) (shelf := (mk_JK h).shelf)
     (hw := by omega)
     (w9 := rfl)
     (w64 := rfl)
     (want := fun m hm => by
        show f15 m = (if (upd (σ.1 72) w (nI F) w).toInt ≤ (nI m).toInt ∧ (nI m).toInt ≤ (upd (σ.1 73) w (nI T) w).toInt then mj_max (mk_wo (upd (σ.1 72) w (nI F)) (upd (σ.1 73) w (nI T)) (upd (σ.1 74) w x1) (nI m) w) (upd (σ.1 74) w x1 w) else mk_wo (upd (σ.1 72) w (nI F)) (upd (σ.1 73) w (nI T)) (upd (σ.1 74) w x1) (nI m) w)
        have u : ∀ (f : Nat → Int32) (v : Int32), upd f w v w = v := fun f v => if_pos rfl
        rw [mk_wo_upd _ _ _ _ _ _ _ w w (by omega), u, u, u, nI_toInt (by omega), nI_toInt (by omega), nI_toInt (by omega), ← h.want m hm, r2 m hm]
        by_cases q : F ≤ m ∧ m ≤ T
        · rw [if_pos q, if_pos (by omega)]
        · rw [if_neg q, if_neg (by omega)]))
    refine mk_JR hK ?_ (fun j hj => ?_) rfl
    · unfold mk_tw
      exact mk_frC (mk_frC (mk_frC (mk_frC (mk_frC t2 _ _ _) _ _ _) _ _ _) _ _ _) _ _ _
    · refine ⟨(t3 j hj).1, ?_⟩
      have o : mk_rr g (mk_tw (mj_sI (mj_sR (mj_sR σ 15 f15) 33 f33) 9 10 (nI (w + 1))) w (nI F) (nI T) x1) ρ j := (t3 j hj).2
      unfold mk_tw at o ⊢
      exact mk_rrC (mk_rrC (mk_rrC (mk_rrC (mk_rrC o (by omega) (by omega)) (by omega) (by omega)) (by omega) (by omega)) (by omega) (by omega)) (by omega) (by omega)
