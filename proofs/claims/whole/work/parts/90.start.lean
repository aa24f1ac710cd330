-- the start holds the invariant
theorem mk_wt99 (σ : mj_S) (x : Int32) : mj_max 0 (mj_min 99 (f_X4_withoutText σ x)) = f_X4_withoutText mk_z x := by
  unfold f_X4_withoutText
  by_cases q1 : (12 : Int32) ≤ x
  · rw [if_pos q1]
    by_cases q2 : (132 : Int32) ≤ x
    · rw [if_pos q2]
      by_cases q3 : (168 : Int32) ≤ x
      · rw [if_pos q3]
        by_cases q4 : (204 : Int32) ≤ x
        · rw [if_pos q4]
          decide
        · rw [if_neg q4]
          decide
      · rw [if_neg q3]
        decide
    · rw [if_neg q2]
      decide
  · rw [if_neg q1]
    decide
theorem mk_wtr (x : Int32) : 0 ≤ (f_X4_withoutText mk_z x).toInt ∧ (f_X4_withoutText mk_z x).toInt ≤ 99 := by
  unfold f_X4_withoutText
  by_cases q1 : (12 : Int32) ≤ x
  · rw [if_pos q1]
    by_cases q2 : (132 : Int32) ≤ x
    · rw [if_pos q2]
      by_cases q3 : (168 : Int32) ≤ x
      · rw [if_pos q3]
        by_cases q4 : (204 : Int32) ≤ x
        · rw [if_pos q4]
          decide
        · rw [if_neg q4]
          decide
      · rw [if_neg q3]
        decide
    · rw [if_neg q2]
      decide
  · rw [if_neg q1]
    decide
theorem mk_law0 (s13 : Int32) (c2 c3 c76 : Nat → Int32) : mk_law (fun a _ _ _ _ _ _ => f_X4_withoutText mk_z a) s13 0 (-1) c2 c3 c76 := by
  refine mk_law.mk (fun τ _ h15 _ _ => ⟨τ, ?_, ⟨fun _ _ _ => rfl, rfl⟩⟩) (fun τ p1 p2 p3 p4 p5 p6 h18 _ hp1 => ⟨τ, ?_, ⟨fun _ _ _ => rfl, rfl⟩⟩) (fun a _ _ _ _ _ _ => mk_wtr a)
  · unfold f_X4_growth b_X4_growth_30
    rw [if_pos (by decide), if_pos h15, if_pos (by decide), mk_wt99]
  · unfold f_X10_growsBy
    rw [if_pos hp1, h18, if_neg (show ¬ (0 : Int32) ≤ -1 by decide)]
    unfold f_X4_withoutText
    by_cases q1 : (12 : Int32) ≤ (p6 - τ.1 69 p1.toNatClampNeg) - p2
    · rw [if_pos q1, if_pos q1]
      by_cases q2 : (132 : Int32) ≤ (p6 - τ.1 69 p1.toNatClampNeg) - p2
      · rw [if_pos q2, if_pos q2]
        by_cases q3 : (168 : Int32) ≤ (p6 - τ.1 69 p1.toNatClampNeg) - p2
        · rw [if_pos q3, if_pos q3]
          by_cases q4 : (204 : Int32) ≤ (p6 - τ.1 69 p1.toNatClampNeg) - p2
          · rw [if_pos q4, if_pos q4]
          · rw [if_neg q4, if_neg q4]
        · rw [if_neg q3, if_neg q3]
      · rw [if_neg q2, if_neg q2]
    · rw [if_neg q1, if_neg q1]
theorem mk_shelf0 : ∀ e, e < 6 → mk_shelf (mj_s0.1 54) (mj_s0.1 55) (mj_s0.1 56) (mj_s0.1 87) (mj_s0.1 88) (mj_s0.2 58) (mj_s0.2 59) (mj_s0.2 60) (mj_s0.2 61) (mj_s0.2 62) (mj_s0.2 63) (mj_s0.2 89) 0 e := by
  intro e he
  have w : mj_s0.1 87 e = -1 ∧ mj_s0.1 54 e = -1 ∧ mj_s0.1 55 e = -1 := by
    match e, he with
    | 0, _ => exact ⟨rfl, rfl, rfl⟩
    | 1, _ => exact ⟨rfl, rfl, rfl⟩
    | 2, _ => exact ⟨rfl, rfl, rfl⟩
    | 3, _ => exact ⟨rfl, rfl, rfl⟩
    | 4, _ => exact ⟨rfl, rfl, rfl⟩
    | 5, _ => exact ⟨rfl, rfl, rfl⟩
  refine mk_shelf.mk (what := .inl ⟨w.1, w.2.1, w.2.2, rfl⟩) (size := rfl) (rsize := ⟨0, by omega, rfl⟩) (el := fun i _ => ?_) (short := fun h => ?_)
  · match e, he with
    | 0, _ => rfl
    | 1, _ => rfl
    | 2, _ => rfl
    | 3, _ => rfl
    | 4, _ => rfl
    | 5, _ => rfl
  · rw [w.1] at h
    exact absurd h (by decide)
theorem mk_I0 : mk_I mj_s0 :=
  ⟨_, 0, 0, 0, 0, 0, 0, 0, mk_J.mk (hc := by omega) (c9 := rfl) (c64 := rfl) (kid := fun j hj => absurd hj (by omega)) (hw := by omega) (w9 := rfl) (w64 := rfl) (want := fun m _ => rfl) (noWant := fun m _ => rfl) (hn := by omega) (n5 := rfl) (n64 := rfl) (tape := rfl) (bytes := fun i hi => absurd hi (by omega)) (law := mk_law0 _ _ _ _) (stale := fun j hj => absurd hj (by omega)) (rows := fun j hj => absurd hj (by omega)) (rowsM := fun j hj => absurd hj (by omega)) (grown := .inl rfl) (hk := by omega) (k35 := rfl) (k64 := rfl) (mark := fun j hj => absurd hj (by omega)) (painted := rfl) (ahead := ⟨0, by omega, rfl, fun i hi => absurd hi (by omega)⟩) (hd := by omega) (hd2 := by omega) (d45 := rfl) (d64 := rfl) (e45 := rfl) (e64 := rfl) (chg := fun j hj => absurd hj (by omega)) (ha := by omega) (a50 := rfl) (a64 := rfl) (body := fun j hj => absurd hj (by omega)) (ran := rfl) (trace := fun i _ => rfl) (shelf := mk_shelf0)⟩
