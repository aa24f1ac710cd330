-- line, falls
theorem mk_rowM {g c w n k d d2 a σ} (h : mk_J g c w n k d d2 a σ) {j m : Nat} (hj : j < c) (hm : m < 600) : σ.1 (26 + j) m = mk_hh g (σ.1 10 j) 1280 0 (σ.1 11 j) 4300 6 (σ.1 16) m := by
  have hc := h.hc
  rw [← h.rowsM j hj m hm]
  exact (congrFun (mk_selE σ.1 26 j (by omega)) m).symm
theorem mk_mr {g c w n k d d2 a σ} (h : mk_J g c w n k d d2 a σ) {j m b0 : Nat} (hj : j < c) (hm : m < 600) (hb : b0 ≤ 599) (eb : σ.1 10 j = nI b0) (hbm : b0 ≤ m) : ∃ r, 1280 ≤ r ∧ r ≤ 8000 ∧ σ.1 (26 + j) m = nI r := by
  obtain ⟨q, q1, q2, q3⟩ := mk_hh_r h.law.small b0 1280 hb (by omega) 0 (σ.1 11 j) 4300 6 (σ.1 16) m hm
  refine ⟨q, q3 hbm, q1, ?_⟩
  rw [mk_rowM h hj hm, eb]
  exact q2
theorem mk_m9h {g c w n k d d2 a σ} (h : mk_J g c w n k d d2 a σ) {j m : Nat} (hj : j < c) (hm : m < 600) : f_X2_modelHeightAt σ (nI j) (nI m) = some (σ.1 (26 + j) m) := by
  have hc := h.hc
  unfold f_X2_modelHeightAt
  rw [mk_has2 h, if_neg (mk_btn (by rw [nI_toInt (by omega)]; omega)), if_neg (nI_pos (by omega)), if_neg (show ¬ (600 : Int32) ≤ nI m from nI_ge (a := m) (b := 600) hm (by omega)), if_pos (mk_in6 (by omega)), if_pos (by rw [nI_toInt (by omega)]; omega), nI_clamp (by omega), nI_clamp (by omega)]
def mk_L (σ : mj_S) (j m : Nat) : Int32 := (((100 * σ.1 (19 + j) m) / σ.1 (26 + j) m) - 100) / 4
theorem mk_L_r {g c w n k d d2 a σ} (h : mk_J g c w n k d d2 a σ) {j m b0 : Nat} (hj : j < c) (hm : m < 600) (hb : b0 ≤ 599) (eb : σ.1 10 j = nI b0) (hbm : b0 ≤ m) : -1000000 ≤ (mk_L σ j m).toInt ∧ (mk_L σ j m).toInt ≤ 1000000 := by
  obtain ⟨r, r1, r2, er⟩ := mk_mr h hj hm hb eb hbm
  obtain ⟨_, _, _, q, hq, eq⟩ := mk_hr h hj hm
  unfold mk_L
  have e1 : 100 * nI q = nI (100 * q) := mk_mulN 100 q
  rw [eq, er, e1, mk_divN (by omega) (by omega) (by omega)]
  obtain ⟨y, hy⟩ : ∃ y, y = 100 * q / r := ⟨_, rfl⟩
  have hd : y ≤ 800000 := by
    rw [hy]
    exact Nat.le_trans (Nat.div_le_self _ _) (by omega)
  rw [← hy]
  clear hy
  have e2 : (nI y - 100).toInt = (y : Int) - 100 := pk_sub_toInt (a := y) (b := 100) (by omega) (by omega)
  rw [Int32.toInt_div, e2]
  have e4 : (4 : Int32).toInt = 4 := rfl
  rw [e4]
  obtain ⟨x, hx⟩ : ∃ x, x = (y : Int) - 100 := ⟨_, rfl⟩
  rw [← hx]
  have hxa : x.natAbs ≤ 800000 := by omega
  have ht : (x.tdiv 4).natAbs ≤ 800000 := by
    rw [Int.natAbs_tdiv]
    exact Nat.le_trans (Nat.div_le_self _ _) hxa
  obtain ⟨z, hz⟩ : ∃ z, z = x.tdiv 4 := ⟨_, rfl⟩
  rw [← hz] at ht ⊢
  rw [Int.bmod_eq_of_le_mul_two (by omega) (by omega)]
  omega
theorem mk_lineAt {g c w n k d d2 a σ} (h : mk_J g c w n k d d2 a σ) {j m b0 : Nat} (hj : j < c) (hm : m < 600) (hb : b0 ≤ 599) (eb : σ.1 10 j = nI b0) (hbm : b0 ≤ m) : f_X6_lineAt σ (nI j) (nI m) = some (mk_L σ j m) := by
  obtain ⟨r, r1, r2, er⟩ := mk_mr h hj hm hb eb hbm
  have hz : ¬ σ.1 (26 + j) m = 0 := by
    rw [er]
    exact nI_ne0 (by omega) (by omega)
  unfold f_X6_lineAt
  rw [mk_m9h h hj hm, mk_bs, if_neg hz, mk_h9 h hj hm, mk_bs, if_neg hz]
  rfl
theorem mk_other {g c w n k d d2 a σ} (h : mk_J g c w n k d d2 a σ) {j : Nat} (hj : j < c) : ∃ τ, f_X10_growsOther σ (nI j) = some τ ∧ mk_fr mk_Zq σ τ ∧ mk_J g c w n k d d2 a τ ∧ ∀ m, m < 600 → τ.1 78 (3600 + m) = σ.1 (26 + j) m := by
  have hc := h.hc
  obtain ⟨b0, hb, eb⟩ := (h.kid j hj).rb
  obtain ⟨α, hα⟩ : ∃ α, α = mj_sI (mj_sI (mj_sI σ 69 6 (σ.1 69 j)) 70 6 (σ.1 70 j)) 71 6 1280 := ⟨_, rfl⟩
  have fα : mk_fr mk_Zq σ α := by
    rw [hα]
    exact mk_frt (mk_frt (mk_frI (by unfold mk_Zq; omega)) (mk_frI (by unfold mk_Zq; omega))) (mk_frI (by unfold mk_Zq; omega))
  have a69 : α.1 69 6 = nI b0 := by
    rw [hα]
    show σ.1 69 j = _
    rw [← (h.kid j hj).born, eb]
  have hl : mk_law g (σ.1 1 3) (σ.1 1 5) (α.1 64 18) (σ.1 2) (σ.1 3) (α.1 76) := by
    rw [hα]
    exact h.law
  obtain ⟨τ, t1, t2, t3⟩ := mk_upLoop hl (j := 6) (by omega) hb a69 1280 0 4300 0 (σ.1 16) (.inl ⟨rfl, h.noWant⟩) mj_fu 0 1280 α (by show 600 < 5000 + 0; omega) (by omega) ⟨fun _ _ _ => rfl, rfl⟩ (fun _ => (if_pos (by omega)).symm)
  have fτ : mk_fr mk_Zq σ τ := mk_frt fα (mk_frw t2 (fun x y z => by unfold mk_Zu at z; unfold mk_Zq; omega))
  have o78 : ∀ y, y < 3600 → τ.1 78 y = σ.1 78 y := fun y hy => by
    rw [t2.1 78 y (by unfold mk_Zu; omega), hα, mk_g, if_neg (by omega), mk_g, if_neg (by omega), mk_g, if_neg (by omega)]
  have o6 : τ.1 64 6 = σ.1 64 6 := by
    rw [t2.1 64 6 (by unfold mk_Zu; omega), hα]
    rfl
  refine ⟨τ, ?_, fτ, mk_JQ h fτ ?_, fun m hm => ?_⟩
  · unfold f_X10_growsOther
    have t1' : f_X10_growsUp α 6 0 4300 0 = some τ := by
      unfold f_X10_growsUp
      have h71 : α.1 71 (6 : Int32).toNatClampNeg = 1280 := by rw [hα]; rfl
      rw [if_pos (by decide), h71]
      rw [nI_0] at t1
      exact t1
    rw [if_pos (mk_in7 (by omega)), if_pos (mk_in7 (by omega)), nI_clamp (by omega)]
    show (f_X10_growsUp (mj_sI (mj_sI (mj_sI σ 69 6 (σ.1 69 j)) 70 6 (σ.1 70 j)) 71 6 1280) 6 0 4300 0).bind _ = _
    rw [← hα, t1', mk_bs]
  · rw [o6]
    rcases h.grown with q | ⟨q1, q2⟩
    · exact .inl q
    · exact .inr ⟨q1, fun j' hj' m hm => (o78 _ (by omega)).trans (q2 j' hj' m hm)⟩
  · have e : 3600 + m = 600 * 6 + m := by omega
    rw [e, t3 m hm, if_pos (by omega), mk_rowM h hj hm, eb]
    have h70 : α.1 70 6 = σ.1 11 j := by
      rw [hα]
      exact (h.kid j hj).sex.symm
    rw [h70]
    rfl
theorem mk_lineOf {g c w n k d d2 a σ α} (h : mk_J g c w n k d d2 a σ) (hα : mk_J g c w n k d d2 a α) (q : mk_fr mk_Zq σ α) {j m b0 : Nat} (hj : j < c) (hm : m < 600) (hb : b0 ≤ 599) (eb : σ.1 10 j = nI b0) (hbm : b0 ≤ m) (h78 : ∀ m, m < 600 → α.1 78 (3600 + m) = σ.1 (26 + j) m) : ∃ τ, f_X10_lineOf α (nI j) (nI m) = some (mk_L σ j m, τ) ∧ mk_fr mk_Zq σ τ ∧ mk_J g c w n k d d2 a τ ∧ ∀ m, m < 600 → τ.1 78 (3600 + m) = σ.1 (26 + j) m := by
  obtain ⟨τ, t1, t2, t3, t4⟩ := mk_heightQ hα q hj hm
  obtain ⟨r, r1, r2, er⟩ := mk_mr h hj hm hb eb hbm
  have e36 : 3600 + nI m = nI (3600 + m) := nI_add 3600 m
  have v78 : ∀ m, m < 600 → τ.1 78 (3600 + m) = σ.1 (26 + j) m := fun m hm => by
    rw [t3.1 78 _ (by unfold mk_Zh; omega), h78 m hm]
  refine ⟨τ, ?_, t2, t4, v78⟩
  unfold f_X10_lineOf
  rw [t1, mk_bs, e36, if_pos (by rw [nI_toInt (by omega)]; omega), nI_clamp (by omega)]
  show (if τ.1 78 (3600 + m) = 0 then none else some ((((100 * σ.1 (19 + j) m) / τ.1 78 (3600 + m)) - 100) / 4, τ)) = _
  rw [v78 m hm, if_neg (by rw [er]; exact nI_ne0 (by omega) (by omega))]
  rfl
theorem op_line (σ : mj_S) (x0 x1 : Int32) : mk_I σ → ∃ (v : Int32) (σ1 σ2 : mj_S), (f_X9_line σ x0 x1 = some v ∧ σ1 = σ) ∧ f_X10_line σ1 x0 x1 = some (v, σ2) ∧ mk_I σ2 := by
  rintro ⟨g, c, w, n, k, d, d2, a, h⟩
  have hI : mk_I σ := ⟨g, c, w, n, k, d, d2, a, h⟩
  have hc := h.hc
  refine mk_3 (f9 := fun σ => f_X9_line σ x0 x1) (f10 := fun σ => f_X10_line σ x0 x1) ?_
  simp only [f_X9_line, f_X10_line, mk_has2 h, mk_child10 h, mk_month9, mk_month10]
  by_cases h1 : mk_bt x0.toInt 0 (c - 1) = 0
  · exact ⟨_, σ, by rw [if_pos h1], by rw [if_pos h1], hI⟩
  simp only [if_neg h1]
  by_cases h2 : mk_bt x1.toInt 0 599 = 0
  · exact ⟨_, σ, by rw [if_pos h2], by rw [if_pos h2], hI⟩
  simp only [if_neg h2]
  obtain ⟨j, hj, rfl⟩ := mk_bt_of (x := x0) (n := c) (mk_in_of h1) (by omega)
  obtain ⟨m, hm, rfl⟩ := mk_bt_of (x := x1) (n := 600) (by have := mk_in_of h2; omega) (by omega)
  obtain ⟨b0, hb, eb⟩ := (h.kid j hj).rb
  rw [(mk_born9 h hj _).1, mk_bs, if_pos (mk_in7 (by omega)), nI_clamp (by omega), ← (h.kid j hj).born, eb]
  by_cases c1 : b0 ≤ m
  · obtain ⟨τ, t1, t2, t3, t4⟩ := mk_other h hj
    obtain ⟨τ2, u1, u2, u3, u4⟩ := mk_lineOf h t3 t2 hj hm hb eb c1 t4
    refine ⟨mk_L σ j m, τ2, ?_, ?_, g, c, w, n, k, d, d2, a, u3⟩
    · rw [if_neg (nI_nlt c1 (by omega)), if_neg (by decide), mk_lineAt h hj hm hb eb c1, mk_bs]
    · rw [if_pos (nI_le c1 (by omega)), t1, mk_bs, u1, mk_bs]
  · exact ⟨_, σ, by rw [if_pos (nI_lt (by omega) (by omega)), if_pos rfl], by rw [if_neg (nI_ge (by omega) (by omega))], hI⟩
theorem mk_fallLoop {g c w n k d d2 a σ} (h : mk_J g c w n k d d2 a σ) {j b0 : Nat} (hj : j < c) (hb : b0 ≤ 599) (eb : σ.1 10 j = nI b0) : ∀ (f m : Nat) (x : Int32) (α : mj_S), 600 < f + m → b0 ≤ m → m ≤ 600 → (-1000000 ≤ x.toInt ∧ x.toInt ≤ 1000000) → mk_J g c w n k d d2 a α → mk_fr mk_Zq σ α → (∀ m, m < 600 → α.1 78 (3600 + m) = σ.1 (26 + j) m) → ∃ v τ, b_X6_firstFall_21 σ f (nI j) x (nI m) = some v ∧ b_X10_falls_36 f (nI j) x (nI m) α = some (v, τ) ∧ mk_J g c w n k d d2 a τ
  | 0, m, x, α, hf, h1, hm, _, _, _, _ => absurd hf (by omega)
  | f + 1, m, x, α, hf, h1, hm, hx, hα, q, h78 => by
    unfold b_X6_firstFall_21 b_X10_falls_36
    by_cases h6 : m = 600
    · have l : (600 : Int32) ≤ nI m := by rw [h6]; exact nI_le (a := 600) (b := 600) (by omega) (by omega)
      exact ⟨-2, α, by rw [if_pos l], by rw [if_pos l], hα⟩
    have l : ¬ (600 : Int32) ≤ nI m := nI_ge (a := m) (b := 600) (by omega) (by omega)
    obtain ⟨τ, t1, t2, t3, t4⟩ := mk_lineOf h hα q hj (show m < 600 by omega) hb eb h1 h78
    have hr := mk_L_r h hj (show m < 600 by omega) hb eb h1
    rw [if_neg l, if_neg l, mk_lineAt h hj (by omega) hb eb h1, mk_bs, t1, mk_bs, nI_1]
    obtain ⟨y, hy⟩ : ∃ y, y = mk_L σ j m := ⟨_, rfl⟩
    show ∃ v τ', (if x - mk_L σ j m < 2 then b_X6_firstFall_21 σ f (nI j) (mj_max x (mk_L σ j m)) (nI (m + 1)) else some (nI m)) = some v ∧ (if x - 2 < mk_L σ j m then if mk_L σ j m ≤ x then b_X10_falls_36 f (nI j) x (nI (m + 1)) τ else b_X10_falls_36 f (nI j) (mk_L σ j m) (nI (m + 1)) τ else some (nI m, τ)) = some (v, τ') ∧ _
    rw [← hy] at hr ⊢
    have e2 : (2 : Int32).toInt = 2 := rfl
    have l1 : (x - y < 2) = (x - 2 < y) := by
      rw [mk_ltt, mk_ltt, mk_sub (by omega) (by omega), mk_sub (by rw [e2]; omega) (by rw [e2]; omega), e2]
      exact propext ⟨fun _ => by omega, fun _ => by omega⟩
    simp only [l1]
    by_cases c1 : x - 2 < y
    · rw [if_pos c1, if_pos c1]
      have em : mj_max x y = if y ≤ x then x else y := by
        unfold mj_max
        by_cases c2 : y ≤ x
        · rw [if_pos c2, if_neg (by rw [mk_ltt]; rw [mk_lee] at c2; omega)]
        · rw [if_neg c2, if_pos (by rw [mk_ltt]; rw [mk_lee] at c2; omega)]
      rw [em]
      by_cases c2 : y ≤ x
      · rw [if_pos c2, if_pos c2]
        exact mk_fallLoop h hj hb eb f (m + 1) x τ (by omega) (by omega) (by omega) hx t3 t2 t4
      · rw [if_neg c2, if_neg c2]
        exact mk_fallLoop h hj hb eb f (m + 1) y τ (by omega) (by omega) (by omega) hr t3 t2 t4
    · rw [if_neg c1, if_neg c1]
      exact ⟨_, _, rfl, rfl, t3⟩
theorem op_falls (σ : mj_S) (x0 : Int32) : mk_I σ → ∃ (v : Int32) (σ1 σ2 : mj_S), (f_X9_falls σ x0 = some v ∧ σ1 = σ) ∧ f_X10_falls σ1 x0 = some (v, σ2) ∧ mk_I σ2 := by
  rintro ⟨g, c, w, n, k, d, d2, a, h⟩
  have hI : mk_I σ := ⟨g, c, w, n, k, d, d2, a, h⟩
  have hc := h.hc
  refine mk_3 (f9 := fun σ => f_X9_falls σ x0) (f10 := fun σ => f_X10_falls σ x0) ?_
  simp only [f_X9_falls, f_X10_falls, mk_has2 h, mk_child10 h]
  by_cases h1 : mk_bt x0.toInt 0 (c - 1) = 0
  · exact ⟨_, σ, by rw [if_pos h1], by rw [if_pos h1], hI⟩
  simp only [if_neg h1]
  obtain ⟨j, hj, rfl⟩ := mk_bt_of (x := x0) (n := c) (mk_in_of h1) (by omega)
  obtain ⟨b0, hb, eb⟩ := (h.kid j hj).rb
  obtain ⟨τ, t1, t2, t3, t4⟩ := mk_other h hj
  obtain ⟨τ2, u1, u2, u3, u4⟩ := mk_lineOf h t3 t2 hj (show b0 < 600 by omega) hb eb (by omega) t4
  have z69 : ∀ τ', mk_fr mk_Zq σ τ' → τ'.1 69 j = nI b0 := fun τ' q => by
    rw [q.1 69 j (by unfold mk_Zq; omega), ← (h.kid j hj).born, eb]
  obtain ⟨v, τ3, v1, v2, v3⟩ := mk_fallLoop h hj hb eb mj_fu (b0 + 1) (mk_L σ j b0) τ2 (by show 600 < 5000 + (b0 + 1); omega) (by omega) (by omega) (mk_L_r h hj (by omega) hb eb (by omega)) u3 u2 u4
  refine ⟨v, τ3, ?_, ?_, g, c, w, n, k, d, d2, a, v3⟩
  · unfold f_X6_firstFall
    rw [(mk_born9 h hj 0).2, mk_bs, eb, mk_lineAt h hj (by omega) hb eb (by omega), mk_bs, nI_1, v1, mk_bs]
  · have hb7 := mk_in7 (i := j) (by omega)
    have hcl : (nI j).toNatClampNeg = j := nI_clamp (by omega)
    rw [t1, mk_bs, if_pos hb7, hcl, z69 τ t2, u1, mk_bs, if_pos hb7]
    show b_X10_falls_36 mj_fu (nI j) (mk_L σ j b0) (τ2.1 69 j + 1) τ2 = _
    rw [z69 τ2 u2, nI_1]
    exact v2
