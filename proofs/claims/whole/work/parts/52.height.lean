-- the reference's heights are the class's
def mk_Zh (x y : Nat) : Prop := x = 77 ∨ (x = 64 ∧ (y = 6 ∨ (19 ≤ y ∧ y ≤ 23))) ∨ (x = 78 ∧ y < 3600)
def mk_Zq (x y : Nat) : Prop := x = 77 ∨ x = 78 ∨ (x = 64 ∧ (y = 6 ∨ (19 ≤ y ∧ y ≤ 23) ∨ (31 ≤ y ∧ y ≤ 33) ∨ y = 37)) ∨ x = 4 ∨ (x = 1 ∧ y = 4) ∨ x = 34 ∨ x = 7 ∨ x = 8 ∨ (x = 5 ∧ (y = 4 ∨ y = 5)) ∨ x = 17 ∨ x = 32 ∨ x = 40 ∨ x = 41 ∨ x = 42 ∨ x = 43 ∨ x = 82 ∨ x = 83 ∨ x = 84 ∨ ((x = 69 ∨ x = 70 ∨ x = 71) ∧ y = 6)
theorem mk_hq {σ τ : mj_S} (h : mk_fr mk_Zh σ τ) : mk_fr mk_Zq σ τ := mk_frw h (fun x y z => by unfold mk_Zh at z; unfold mk_Zq; omega)
theorem mk_JQ {g c w n k d d2 a σ τ} (h : mk_J g c w n k d d2 a σ) (q : mk_fr mk_Zq σ τ) (hg : τ.1 64 6 = 0 ∨ (τ.1 64 6 = 1 ∧ ∀ j, j < c → ∀ m, m < 600 → τ.1 78 (600 * j + m) = mk_sel (σ.1 19) (σ.1 20) (σ.1 21) (σ.1 22) (σ.1 23) (σ.1 24) j m)) : mk_J g c w n k d d2 a τ := by
  have hc := h.hc
  have e : ∀ x, (∀ y, ¬ mk_Zq x y) → τ.1 x = σ.1 x := fun x hx => funext fun y => q.1 x y (hx y)
  have f : ∀ x y, ¬ mk_Zq x y → τ.1 x y = σ.1 x y := q.1
  have l := q.2
  refine mk_J.mk (hc := h.hc) (c9 := ?_) (c64 := ?_) (kid := ?_) (hw := h.hw) (w9 := ?_) (w64 := ?_) (want := ?_) (noWant := ?_) (hn := h.hn) (n5 := ?_) (n64 := ?_) (tape := ?_) (bytes := ?_) (law := ?_) (stale := ?_) (rows := ?_) (rowsM := ?_) (grown := ?_) (hk := h.hk) (k35 := ?_) (k64 := ?_) (mark := ?_) (painted := ?_) (ahead := ?_) (hd := h.hd) (hd2 := h.hd2) (d45 := ?_) (d64 := ?_) (e45 := ?_) (e64 := ?_) (chg := ?_) (ha := h.ha) (a50 := ?_) (a64 := ?_) (body := ?_) (ran := ?_) (trace := ?_) (shelf := ?_)
  · rw [f 9 6 (by unfold mk_Zq; omega)]; exact h.c9
  · rw [f 64 7 (by unfold mk_Zq; omega)]; exact h.c64
  · intro j hj
    have o := h.kid j hj
    rw [e 10 (fun y => by unfold mk_Zq; omega), e 11 (fun y => by unfold mk_Zq; omega), e 12 (fun y => by unfold mk_Zq; omega), e 13 (fun y => by unfold mk_Zq; omega), e 14 (fun y => by unfold mk_Zq; omega), e 65 (fun y => by unfold mk_Zq; omega)]
    exact ⟨by rw [f 69 j (by unfold mk_Zq; omega)]; exact o.born, by rw [f 70 j (by unfold mk_Zq; omega)]; exact o.sex, by rw [f 71 j (by unfold mk_Zq; omega)]; exact o.length, o.late, o.parents, o.rb, o.rl⟩
  · rw [f 9 10 (by unfold mk_Zq; omega)]; exact h.w9
  · rw [f 64 11 (by unfold mk_Zq; omega)]; exact h.w64
  · rw [e 15 (fun y => by unfold mk_Zq; omega), e 72 (fun y => by unfold mk_Zq; omega), e 73 (fun y => by unfold mk_Zq; omega), e 74 (fun y => by unfold mk_Zq; omega)]; exact h.want
  · rw [e 16 (fun y => by unfold mk_Zq; omega)]; exact h.noWant
  · rw [f 5 3 (by unfold mk_Zq; omega)]; exact h.n5
  · rw [f 64 16 (by unfold mk_Zq; omega)]; exact h.n64
  · rw [e 6 (fun y => by unfold mk_Zq; omega), e 75 (fun y => by unfold mk_Zq; omega)]; exact h.tape
  · rw [e 6 (fun y => by unfold mk_Zq; omega)]; exact h.bytes
  · rw [f 1 3 (by unfold mk_Zq; omega), f 1 5 (by unfold mk_Zq; omega), f 64 18 (by unfold mk_Zq; omega), e 2 (fun y => by unfold mk_Zq; omega), e 3 (fun y => by unfold mk_Zq; omega), e 76 (fun y => by unfold mk_Zq; omega)]; exact h.law
  · rw [e 33 (fun y => by unfold mk_Zq; omega)]; exact h.stale
  · rw [e 10 (fun y => by unfold mk_Zq; omega), e 11 (fun y => by unfold mk_Zq; omega), e 12 (fun y => by unfold mk_Zq; omega), e 13 (fun y => by unfold mk_Zq; omega), e 14 (fun y => by unfold mk_Zq; omega), e 15 (fun y => by unfold mk_Zq; omega), e 19 (fun y => by unfold mk_Zq; omega), e 20 (fun y => by unfold mk_Zq; omega), e 21 (fun y => by unfold mk_Zq; omega), e 22 (fun y => by unfold mk_Zq; omega), e 23 (fun y => by unfold mk_Zq; omega), e 24 (fun y => by unfold mk_Zq; omega)]; exact h.rows
  · rw [e 10 (fun y => by unfold mk_Zq; omega), e 11 (fun y => by unfold mk_Zq; omega), e 16 (fun y => by unfold mk_Zq; omega), e 26 (fun y => by unfold mk_Zq; omega), e 27 (fun y => by unfold mk_Zq; omega), e 28 (fun y => by unfold mk_Zq; omega), e 29 (fun y => by unfold mk_Zq; omega), e 30 (fun y => by unfold mk_Zq; omega), e 31 (fun y => by unfold mk_Zq; omega)]; exact h.rowsM
  · rw [e 19 (fun y => by unfold mk_Zq; omega), e 20 (fun y => by unfold mk_Zq; omega), e 21 (fun y => by unfold mk_Zq; omega), e 22 (fun y => by unfold mk_Zq; omega), e 23 (fun y => by unfold mk_Zq; omega), e 24 (fun y => by unfold mk_Zq; omega)]; exact hg
  · rw [f 35 4 (by unfold mk_Zq; omega)]; exact h.k35
  · rw [f 64 26 (by unfold mk_Zq; omega)]; exact h.k64
  · rw [e 36 (fun y => by unfold mk_Zq; omega), e 37 (fun y => by unfold mk_Zq; omega), e 38 (fun y => by unfold mk_Zq; omega), e 39 (fun y => by unfold mk_Zq; omega), e 65 (fun y => by unfold mk_Zq; omega), e 79 (fun y => by unfold mk_Zq; omega), e 80 (fun y => by unfold mk_Zq; omega)]; exact h.mark
  · rw [f 35 5 (by unfold mk_Zq; omega), f 64 30 (by unfold mk_Zq; omega)]; exact h.painted
  · rw [f 35 6 (by unfold mk_Zq; omega), e 81 (fun y => by unfold mk_Zq; omega)]; exact h.ahead
  · rw [f 45 6 (by unfold mk_Zq; omega)]; exact h.d45
  · rw [f 64 5 (by unfold mk_Zq; omega)]; exact h.d64
  · rw [f 45 7 (by unfold mk_Zq; omega)]; exact h.e45
  · rw [f 64 4 (by unfold mk_Zq; omega)]; exact h.e64
  · rw [e 46 (fun y => by unfold mk_Zq; omega), e 47 (fun y => by unfold mk_Zq; omega), e 48 (fun y => by unfold mk_Zq; omega), e 49 (fun y => by unfold mk_Zq; omega), e 66 (fun y => by unfold mk_Zq; omega), e 67 (fun y => by unfold mk_Zq; omega), e 68 (fun y => by unfold mk_Zq; omega)]; exact h.chg
  · rw [f 50 1 (by unfold mk_Zq; omega)]; exact h.a50
  · rw [f 64 38 (by unfold mk_Zq; omega)]; exact h.a64
  · rw [e 51 (fun y => by unfold mk_Zq; omega), e 85 (fun y => by unfold mk_Zq; omega)]; exact h.body
  · rw [f 50 3 (by unfold mk_Zq; omega), f 64 41 (by unfold mk_Zq; omega)]; exact h.ran
  · rw [e 52 (fun y => by unfold mk_Zq; omega), e 86 (fun y => by unfold mk_Zq; omega)]; exact h.trace
  · rw [e 54 (fun y => by unfold mk_Zq; omega), e 55 (fun y => by unfold mk_Zq; omega), e 56 (fun y => by unfold mk_Zq; omega), e 87 (fun y => by unfold mk_Zq; omega), e 88 (fun y => by unfold mk_Zq; omega), l]; exact h.shelf
/-- the row of child j as it stands in the class -/
theorem mk_row {g c w n k d d2 a σ} (h : mk_J g c w n k d d2 a σ) {j m : Nat} (hj : j < c) (hm : m < 600) : σ.1 (19 + j) m = mk_hh g (σ.1 10 j) (σ.1 12 j) (σ.1 13 j) (σ.1 11 j) (σ.1 14 j) (nI j) (σ.1 15) m := by
  have hc := h.hc
  rw [← h.rows j hj m hm]
  exact (congrFun (mk_selE σ.1 19 j (by omega)) m).symm
theorem mk_wantOfQ {g c w n k d d2 a σ} (h : mk_J g c w n k d d2 a σ) {m : Nat} (hm : m < 600) {τ : mj_S} (e : τ.1 72 = σ.1 72) (e2 : τ.1 73 = σ.1 73) (e3 : τ.1 74 = σ.1 74) (e4 : τ.1 64 11 = σ.1 64 11) : f_X10_wantOf τ (nI m) = some (σ.1 15 m) := by
  rw [h.want m hm, ← e, ← e2, ← e3]
  have := h.hw
  exact mk_wantOf τ (nI m) (by omega) (e4.trans h.w64) 5000 0 (by omega) (by omega)
theorem mk_growUp1 {g c w n k d d2 a σ} (h : mk_J g c w n k d d2 a σ) {j : Nat} (hj : j < c) {α : mj_S} (hf : mk_fr mk_Zh σ α) : ∃ τ, f_X10_growsUp α (nI j) (α.1 65 j) (α.1 65 (6 + j)) 1 = some τ ∧ mk_fr (mk_Zu j) α τ ∧ ∀ m, m < 600 → τ.1 78 (600 * j + m) = σ.1 (19 + j) m := by
  have hc := h.hc
  have kd := h.kid j hj
  obtain ⟨b0, hb0, eb⟩ := kd.rb
  have a69 : α.1 69 j = nI b0 := by
    rw [hf.1 69 j (by unfold mk_Zh; omega), ← kd.born, eb]
  have hl : mk_law g (σ.1 1 3) (σ.1 1 5) (α.1 64 18) (σ.1 2) (σ.1 3) (α.1 76) := by
    rw [hf.1 64 18 (by unfold mk_Zh; omega), funext fun y => hf.1 76 y (by unfold mk_Zh; omega)]
    exact h.law
  obtain ⟨τ, t1, t2, t3⟩ := mk_upLoop hl (j := j) (by omega) hb0 a69 (α.1 71 j) (α.1 65 j) (α.1 65 (6 + j)) 1 (σ.1 15) (.inr ⟨rfl, fun σ' m hm hz => mk_wantOfQ h hm
    (funext fun y => (hz.1 72 y (by unfold mk_Zu; omega)).trans (hf.1 72 y (by unfold mk_Zh; omega)))
    (funext fun y => (hz.1 73 y (by unfold mk_Zu; omega)).trans (hf.1 73 y (by unfold mk_Zh; omega)))
    (funext fun y => (hz.1 74 y (by unfold mk_Zu; omega)).trans (hf.1 74 y (by unfold mk_Zh; omega)))
    ((hz.1 64 11 (by unfold mk_Zu; omega)).trans (hf.1 64 11 (by unfold mk_Zh; omega)))⟩) mj_fu 0 (α.1 71 j) α (by show 600 < 5000 + 0; omega) (by omega) ⟨fun _ _ _ => rfl, rfl⟩ (fun _ => (if_pos (by omega)).symm)
  refine ⟨τ, ?_, t2, fun m hm => ?_⟩
  · unfold f_X10_growsUp
    rw [if_pos (mk_in7 (by omega)), nI_clamp (by omega)]
    rw [nI_0] at t1
    exact t1
  · rw [t3 m hm, if_pos (by omega), mk_row h hj hm, eb, hf.1 71 j (by unfold mk_Zh; omega), hf.1 65 j (by unfold mk_Zh; omega), hf.1 65 (6 + j) (by unfold mk_Zh; omega), hf.1 70 j (by unfold mk_Zh; omega), kd.length, kd.late, kd.sex, kd.parents]
theorem mk_allLoop {g c w n k d d2 a σ} (h : mk_J g c w n k d d2 a σ) : ∀ (f i : Nat) (α : mj_S), c < f + i → i ≤ c → mk_fr mk_Zh σ α → (∀ j, j < i → ∀ m, m < 600 → α.1 78 (600 * j + m) = σ.1 (19 + j) m) → ∃ τ, b_X10_allGrow_10 f (nI i) α = some τ ∧ mk_fr mk_Zh σ τ ∧ τ.1 64 6 = 1 ∧ ∀ j, j < c → ∀ m, m < 600 → τ.1 78 (600 * j + m) = σ.1 (19 + j) m
  | 0, i, α, hf, hi, _, _ => absurd hf (by omega)
  | f + 1, i, α, hf, hi, hfr, hr => by
    have hc := h.hc
    unfold b_X10_allGrow_10
    rw [hfr.1 64 7 (by unfold mk_Zh; omega), h.c64]
    by_cases hic : i = c
    · refine ⟨_, by rw [if_pos (by rw [hic]; exact nI_le (by omega) (by omega))], mk_frt hfr (mk_frI (.inr (.inl ⟨rfl, .inl rfl⟩))), rfl, fun j hj m hm => ?_⟩
      rw [mk_g, if_neg (by omega)]
      exact hr j (by omega) m hm
    have e6 : 6 + nI i = nI (6 + i) := nI_add 6 i
    obtain ⟨τ1, u1, u2, u3⟩ := mk_growUp1 h (j := i) (by omega) hfr
    rw [if_neg (nI_ge (by omega) (by omega)), if_pos (mk_in72 (by omega)), e6, if_pos (mk_in72 (by omega)), nI_clamp (by omega), nI_clamp (by omega), u1, mk_bs, nI_1]
    refine mk_allLoop h f (i + 1) τ1 (by omega) (by omega) (mk_frt hfr (mk_frw u2 (fun x y z => by unfold mk_Zu at z; unfold mk_Zh; omega))) (fun j hj m hm => ?_)
    by_cases hji : j = i
    · rw [hji]
      exact u3 m hm
    · rw [u2.1 78 _ (by unfold mk_Zu; omega)]
      exact hr j (by omega) m hm
theorem mk_height {g c w n k d d2 a σ} (h : mk_J g c w n k d d2 a σ) {j m : Nat} (hj : j < c) (hm : m < 600) : ∃ τ, f_X10_heightOf σ (nI j) (nI m) = some (σ.1 (19 + j) m, τ) ∧ mk_fr mk_Zh σ τ ∧ mk_J g c w n k d d2 a τ := by
  have hc := h.hc
  have e6 : 600 * nI j + nI m = nI (600 * j + m) := by
    show nI 600 * nI j + nI m = _
    rw [mk_mulN, nI_add]
  have fin : ∀ τ, f_X10_allGrow σ = some τ → mk_fr mk_Zh σ τ → τ.1 64 6 = 1 → (∀ j, j < c → ∀ m, m < 600 → τ.1 78 (600 * j + m) = σ.1 (19 + j) m) → ∃ τ, f_X10_heightOf σ (nI j) (nI m) = some (σ.1 (19 + j) m, τ) ∧ mk_fr mk_Zh σ τ ∧ mk_J g c w n k d d2 a τ := by
    intro τ t1 t2 t3 t4
    refine ⟨τ, ?_, t2, mk_JQ h (mk_hq t2) (.inr ⟨t3, fun j hj m hm => (t4 j hj m hm).trans (congrFun (mk_selE σ.1 19 j (by omega)) m).symm⟩)⟩
    unfold f_X10_heightOf
    rw [t1, mk_bs, e6, if_pos (by rw [nI_toInt (by omega)]; omega), nI_clamp (by omega), t4 j hj m hm]
  rcases h.grown with h0 | ⟨h1, h2⟩
  · obtain ⟨τ, t1, t2, t3, t4⟩ := mk_allLoop h mj_fu 0 σ (by show c < 5000 + 0; omega) (by omega) ⟨fun _ _ _ => rfl, rfl⟩ (fun j hj => absurd hj (by omega))
    refine fin τ ?_ t2 t3 t4
    unfold f_X10_allGrow
    rw [if_pos h0]
    rw [nI_0] at t1
    exact t1
  · refine fin σ ?_ ⟨fun _ _ _ => rfl, rfl⟩ h1 (fun j hj m hm => (h2 j hj m hm).trans (congrFun (mk_selE σ.1 19 j (by omega)) m))
    unfold f_X10_allGrow
    rw [if_neg (by rw [h1]; decide)]
theorem mk_h9 {g c w n k d d2 a σ} (h : mk_J g c w n k d d2 a σ) {j m : Nat} (hj : j < c) (hm : m < 600) : f_X2_heightAt σ (nI j) (nI m) = some (σ.1 (19 + j) m) := by
  have hc := h.hc
  unfold f_X2_heightAt
  rw [mk_has2 h, if_neg (mk_btn (by rw [nI_toInt (by omega)]; omega)), if_neg (nI_pos (by omega)), if_neg (show ¬ (600 : Int32) ≤ nI m from nI_ge (a := m) (b := 600) hm (by omega)), if_pos (mk_in6 (by omega)), if_pos (by rw [nI_toInt (by omega)]; omega), nI_clamp (by omega), nI_clamp (by omega)]
theorem op_height (σ : mj_S) (x0 x1 : Int32) : mk_I σ → ∃ (v : Int32) (σ1 σ2 : mj_S), (f_X9_height σ x0 x1 = some v ∧ σ1 = σ) ∧ f_X10_height σ1 x0 x1 = some (v, σ2) ∧ mk_I σ2 := by
  rintro ⟨g, c, w, n, k, d, d2, a, h⟩
  have hI : mk_I σ := ⟨g, c, w, n, k, d, d2, a, h⟩
  have hc := h.hc
  unfold f_X9_height f_X10_height
  rw [mk_has2 h, mk_month9]
  by_cases h1 : mk_bt x0.toInt 0 (c - 1) = 0
  · exact ⟨-1, σ, σ, ⟨by rw [if_pos h1], rfl⟩, by rw [mk_child10 h, if_pos h1], hI⟩
  by_cases h2 : mk_bt x1.toInt 0 599 = 0
  · exact ⟨-1, σ, σ, ⟨by rw [if_neg h1, if_pos h2], rfl⟩, by rw [mk_child10 h, if_neg h1, mk_month10, if_pos h2], hI⟩
  obtain ⟨j, hj, rfl⟩ := mk_bt_of (x := x0) (n := c) (mk_in_of h1) (by omega)
  obtain ⟨m, hm, rfl⟩ := mk_bt_of (x := x1) (n := 600) (by have := mk_in_of h2; omega) (by omega)
  obtain ⟨τ, t1, t2, t3⟩ := mk_height h hj hm
  refine ⟨σ.1 (19 + j) m, σ, τ, ⟨?_, rfl⟩, ?_, g, c, w, n, k, d, d2, a, t3⟩
  · rw [if_neg h1, if_neg h2, mk_h9 h hj hm, mk_bs]
  · rw [mk_child10 h, if_neg h1, mk_month10, if_neg h2, t1, mk_bs]
