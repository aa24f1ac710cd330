-- enough: the reference tells the want for a moment
def mk_Wt (σ : mj_S) (F T : Nat) (v : Int32) (m : Nat) : Int32 := if F ≤ m ∧ m ≤ T then mj_max (σ.1 15 m) v else σ.1 15 m
theorem mk_endTold {g c w n k d d2 a τ} (h : mk_J g c w n k d d2 a τ) {j b0 F T e : Nat} (hj : j < c) (hT : T ≤ 599) (hFT : F ≤ T) (hb : b0 ≤ 599) (eb : τ.1 10 j = nI b0) (v : Int32) (he : e = if b0 + 240 ≤ 599 then b0 + 240 else 599) :
    ∃ ρ, f_X10_endOf (mk_tw τ w (nI F) (nI T) v) (nI j) = some (mk_hh g (τ.1 10 j) (τ.1 12 j) (τ.1 13 j) (τ.1 11 j) (τ.1 14 j) (nI j) (mk_Wt τ F T v) e, ρ) ∧ mk_fr mk_Zh (mk_tw τ w (nI F) (nI T) v) ρ := by
  have hc := h.hc
  have hw := h.hw
  have e240 : nI b0 + 240 = nI (b0 + 240) := nI_add b0 240
  have hm : e < 600 := by
    rw [he]
    by_cases c1 : b0 + 240 ≤ 599
    · rw [if_pos c1]
      omega
    · rw [if_neg c1]
      omega
  obtain ⟨β, hβ⟩ : ∃ β, β = mk_tw τ w (nI F) (nI T) v := ⟨_, rfl⟩
  have u : ∀ (f : Nat → Int32) (v : Int32), upd f w v w = v := fun f v => if_pos rfl
  have wt : ∀ σ' m, m < 600 → mk_fr mk_Zh β σ' → f_X10_wantOf σ' (nI m) = some (mk_Wt τ F T v m) := by
    intro σ' m hm q
    have e72 : σ'.1 72 = upd (τ.1 72) w (nI F) := by
      rw [funext fun y => q.1 72 y (by unfold mk_Zh; omega), hβ]
      rfl
    have e73 : σ'.1 73 = upd (τ.1 73) w (nI T) := by
      rw [funext fun y => q.1 73 y (by unfold mk_Zh; omega), hβ]
      rfl
    have e74 : σ'.1 74 = upd (τ.1 74) w v := by
      rw [funext fun y => q.1 74 y (by unfold mk_Zh; omega), hβ]
      rfl
    have e11 : σ'.1 64 11 = nI (w + 1) := by
      rw [q.1 64 11 (by unfold mk_Zh; omega), hβ]
      rfl
    have o : f_X10_wantOf σ' (nI m) = some (mk_wo (σ'.1 72) (σ'.1 73) (σ'.1 74) (nI m) (w + 1)) := mk_wantOf σ' (nI m) (by omega) e11 5000 0 (by omega) (by omega)
    rw [o, e72, e73, e74]
    show some (if (upd (τ.1 72) w (nI F) w).toInt ≤ (nI m).toInt ∧ (nI m).toInt ≤ (upd (τ.1 73) w (nI T) w).toInt then mj_max (mk_wo (upd (τ.1 72) w (nI F)) (upd (τ.1 73) w (nI T)) (upd (τ.1 74) w v) (nI m) w) (upd (τ.1 74) w v w) else mk_wo (upd (τ.1 72) w (nI F)) (upd (τ.1 73) w (nI T)) (upd (τ.1 74) w v) (nI m) w) = _
    rw [mk_wo_upd _ _ _ _ _ _ _ w w (by omega), u, u, u, nI_toInt (by omega), nI_toInt (by omega), nI_toInt (by omega), ← h.want m hm]
    unfold mk_Wt
    by_cases q : F ≤ m ∧ m ≤ T
    · rw [if_pos q, if_pos (by omega)]
    · rw [if_neg q, if_neg (by omega)]
  have hl : mk_law g (β.1 1 3) (β.1 1 5) (β.1 64 18) (β.1 2) (β.1 3) (β.1 76) := by
    rw [hβ]
    exact h.law
  have b7 : β.1 64 7 = nI c := by
    rw [hβ]
    exact h.c64
  have b69 : β.1 69 = τ.1 69 := by rw [hβ]; rfl
  have b70 : β.1 70 = τ.1 70 := by rw [hβ]; rfl
  have b71 : β.1 71 = τ.1 71 := by rw [hβ]; rfl
  have b65 : β.1 65 = τ.1 65 := by rw [hβ]; rfl
  have b6 : β.1 64 6 = 0 := by rw [hβ]; rfl
  obtain ⟨ρ, t1, t2, t3⟩ := mk_allG hl hc b7 (fun i hi => by rw [b69, ← (h.kid i hi).born]; exact (h.kid i hi).rb) (mk_Wt τ F T v) wt mj_fu 0 β (by show c < 5000 + 0; omega) (by omega) ⟨fun _ _ _ => rfl, rfl⟩ (fun j hj => absurd hj (by omega))
  rw [nI_0] at t1
  have e6 : 600 * nI j + nI e = nI (600 * j + e) := by
    show nI 600 * nI j + nI e = _
    rw [mk_mulN, nI_add]
  have kd := h.kid j hj
  have ht : f_X10_heightOf β (nI j) (nI e) = some (mk_hh g (τ.1 10 j) (τ.1 12 j) (τ.1 13 j) (τ.1 11 j) (τ.1 14 j) (nI j) (mk_Wt τ F T v) e, ρ) := by
    have ag : f_X10_allGrow β = some ρ := by
      unfold f_X10_allGrow
      rw [if_pos b6]
      exact t1
    unfold f_X10_heightOf
    rw [ag, mk_bs, e6, if_pos (by rw [nI_toInt (by omega)]; omega), nI_clamp (by omega), t3 j hj e hm, b69, b70, b71, b65, kd.born, kd.sex, kd.length, kd.late, kd.parents]
  rw [← hβ]
  refine ⟨ρ, ?_, t2⟩
  unfold f_X10_endOf b_X10_endOf_27
  rw [if_pos (mk_in7 (by omega)), nI_clamp (by omega), b69, ← kd.born, eb, e240]
  by_cases c1 : b0 + 240 ≤ 599
  · rw [he, if_pos c1, eb] at ht
    rw [if_pos (show nI (b0 + 240) ≤ (599 : Int32) from nI_le (b := 599) c1 (by omega)), ht, mk_bs, he, if_pos c1]
  · rw [he, if_neg c1, eb] at ht
    have ht' : f_X10_heightOf β (nI j) 599 = _ := ht
    rw [if_neg (show ¬ nI (b0 + 240) ≤ (599 : Int32) from nI_ge (a := 599) (b := b0 + 240) (by omega) (by omega)), ht', mk_bs, he, if_neg c1]
theorem mk_Jtw {g c w n k d d2 a σ} (h : mk_J g c w n k d d2 a σ) (f t v : Int32) : mk_J g c w n k d d2 a (mj_sI (mj_sI (mj_sI σ 72 w f) 73 w t) 74 w v) :=
  mk_J.mk (hc := h.hc) (c9 := h.c9) (c64 := h.c64) (kid := h.kid) (hw := h.hw) (w9 := h.w9) (w64 := h.w64) (noWant := h.noWant) (hn := h.hn) (n5 := h.n5) (n64 := h.n64) (tape := h.tape) (bytes := h.bytes) (law := h.law) (stale := h.stale) (rows := h.rows) (rowsM := h.rowsM) (grown := h.grown) (hk := h.hk) (k35 := h.k35) (k64 := h.k64) (mark := h.mark) (painted := h.painted) (ahead := h.ahead) (hd := h.hd) (hd2 := h.hd2) (d45 := h.d45) (d64 := h.d64) (e45 := h.e45) (e64 := h.e64) (chg := h.chg) (ha := h.ha) (a50 := h.a50) (a64 := h.a64) (body := h.body) (ran := h.ran) (trace := h.trace) (shelf := h.shelf) (want := fun m hm => by
    show σ.1 15 m = mk_wo (upd (σ.1 72) w f) (upd (σ.1 73) w t) (upd (σ.1 74) w v) (nI m) w
    rw [mk_wo_upd _ _ _ _ _ _ _ w w (by omega)]
    exact h.want m hm)
theorem op_enough (σ : mj_S) (x0 x1 x2 : Int32) : mk_I σ → ∃ (v : Int32) (σ1 σ2 : mj_S), f_X9_enough σ x0 x1 x2 = some (v, σ1) ∧ f_X10_enough σ1 x0 x1 x2 = some (v, σ2) ∧ mk_I σ2 := by
  rintro ⟨g, c, w, n, k, d, d2, a, h⟩
  have hI : mk_I σ := ⟨g, c, w, n, k, d, d2, a, h⟩
  have hc := h.hc
  have hw := h.hw
  have e1 : (1 : Int32).toInt = 1 := rfl
  have e9 : (9 : Int32).toInt = 9 := rfl
  have f1 : (1 : Int64).toInt = 1 := rfl
  have f9 : (9 : Int64).toInt = 9 := rfl
  unfold f_X9_enough f_X10_enough
  simp only [mk_has2 h, mk_span _ σ, mk_w9, mk_lit64, e1, e9, f1, f9]
  by_cases h1 : mk_bt x0.toInt 0 (c - 1) = 0
  · exact ⟨_, σ, σ, by rw [if_pos h1], by rw [mk_child10 h, if_pos h1], hI⟩
  simp only [if_neg h1]
  by_cases g1 : f_X9_isSpan σ x1 = 0
  · exact ⟨_, σ, σ, by rw [if_pos g1], by rw [mk_child10 h, if_neg h1, if_pos g1], hI⟩
  simp only [if_neg g1]
  by_cases g2 : mk_bt x2.toInt 1 9 = 0
  · exact ⟨_, σ, σ, by rw [if_pos g2], by rw [mk_child10 h, if_neg h1, if_pos g2], hI⟩
  simp only [if_neg g2]
  obtain ⟨j, hj, rfl⟩ := mk_bt_of (x := x0) (n := c) (mk_in_of h1) (by omega)
  obtain ⟨F, T, hFT, hT, eF, eT⟩ := mk_span_of g1
  obtain ⟨α, a1, a2, a3, a4⟩ := mk_think h hj (F := F) (T := T) (by omega) hT x2
  obtain ⟨b0, hb, eb⟩ := (a2.kid j hj).rb
  obtain ⟨e, he, m1, m2, τ, t1, t2, t3⟩ := mk_end a2 hj hb eb
  have te : τ.1 10 j = nI b0 := (t2.1 10 j (by unfold mk_Zh; omega)).trans eb
  obtain ⟨ρ, r1, r2⟩ := mk_endTold t3 hj hT hFT hb te x2 he
  have hm : e < 600 := by
    rw [he]
    by_cases c1 : b0 + 240 ≤ 599
    · rw [if_pos c1]
      omega
    · rw [if_neg c1]
      omega
  have t9 : f_X2_thoughtHeightAt α (nI e) = some (α.1 32 e) := by
    unfold f_X2_thoughtHeightAt
    have i6 : 0 ≤ (nI e).toInt ∧ (nI e).toInt < 600 := by
      rw [nI_toInt (by omega)]
      omega
    rw [if_neg (show ¬ nI e < (0 : Int32) from nI_nlt (a := e) (b := 0) (by omega) (by omega)), if_neg (show ¬ (600 : Int32) ≤ nI e from nI_ge (a := e) (b := 600) hm (by omega)), if_pos i6, nI_clamp (by omega)]
  have same : mk_hh g (τ.1 10 j) (τ.1 12 j) (τ.1 13 j) (τ.1 11 j) (τ.1 14 j) (nI j) (mk_Wt τ F T x2) e = α.1 32 e := by
    have cell : ∀ x y, 10 ≤ x → x ≤ 15 → τ.1 x y = σ.1 x y := fun x y p q => (t2.1 x y (by unfold mk_Zh; omega)).trans (a3.1 x y (by unfold mk_Zq; omega))
    rw [a4 e hm, cell 10 j (by omega) (by omega), cell 11 j (by omega) (by omega), cell 12 j (by omega) (by omega), cell 13 j (by omega) (by omega), cell 14 j (by omega) (by omega)]
    refine mk_hh_congr g _ _ _ _ _ _ (fun m hm => ?_) e hm
    unfold mk_Wt
    rw [cell 15 m (by omega) (by omega)]
  refine ⟨α.1 32 e - α.1 (19 + j) e, α, mj_sI (mj_sI ρ 64 11 (ρ.1 64 11 - 1)) 64 6 0, ?_, ?_, g, c, w, n, k, d, d2, a, ?_⟩
  · rw [eF, eT, a1, mk_bs, m1, mk_bs, t9, mk_bs, m2, mk_bs]
  · rw [mk_child10 a2, if_neg h1, t1, mk_bs]
    show ((f_X10_tellsWant τ x1 x2).bind fun r5 => _) = _
    rw [mk_tells10 hw t3.w64 eF eT, mk_bs, r1, mk_bs, same]
  · have r11 : ρ.1 64 11 - 1 = nI w := by
      rw [r2.1 64 11 (by unfold mk_Zh; omega)]
      show nI (w + 1) - 1 = nI w
      rw [nI_pred]
    refine mk_JQ (mk_Jtw t3 (nI F) (nI T) x2) ⟨fun x y hz => ?_, r2.2⟩ (.inl rfl)
    rw [mk_g, if_neg (fun q => hz (by unfold mk_Zq; omega)), mk_g]
    by_cases q : x = 64 ∧ y = 11
    · rw [if_pos q, r11, q.1, q.2]
      exact t3.w64.symm
    · rw [if_neg q, r2.1 x y (fun z => hz (by unfold mk_Zh at z; unfold mk_Zq; omega))]
      unfold mk_tw
      rw [mk_g, if_neg (fun q => hz (by unfold mk_Zq; omega)), mk_g, if_neg q]
