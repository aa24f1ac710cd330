-- law: the reference reads a text and works it out at once
theorem ml_jo37 (x y : Int32) : ml_jo 37 x y = if y = 0 then 0 else mj_rem x y := by
  unfold ml_jo f_X4_joined
  rw [if_pos rfl]
  by_cases q : y = 0
  · rw [if_pos q, if_pos q]
    rfl
  · rw [if_neg q, if_neg q, if_neg q]
    rfl
theorem ml_jo38 (x y : Int32) : ml_jo 38 x y = if x = 0 then 0 else (if y = 0 then 0 else 1) := by
  unfold ml_jo f_X4_joined
  rw [if_neg (show ¬ (38 : Int32) = 37 by decide), if_pos rfl]
  by_cases q : x = 0
  · rw [if_pos q, if_pos q]
    rfl
  · rw [if_neg q, if_neg q]
    by_cases q2 : y = 0
    · rw [if_pos q2, if_pos q2]
      rfl
    · rw [if_neg q2, if_neg q2]
      rfl
theorem ml_jo42 (x y : Int32) : ml_jo 42 x y = x * y := by
  unfold ml_jo f_X4_joined
  rw [if_neg (show ¬ (42 : Int32) = 37 by decide), if_neg (show ¬ (42 : Int32) = 38 by decide), if_pos rfl]
  rfl
theorem ml_jo43 (x y : Int32) : ml_jo 43 x y = x + y := by
  unfold ml_jo f_X4_joined
  rw [if_neg (show ¬ (43 : Int32) = 37 by decide), if_neg (show ¬ (43 : Int32) = 38 by decide), if_neg (show ¬ (43 : Int32) = 42 by decide), if_pos rfl]
  rfl
theorem ml_jo45 (x y : Int32) : ml_jo 45 x y = x - y := by
  unfold ml_jo f_X4_joined
  rw [if_neg (show ¬ (45 : Int32) = 37 by decide), if_neg (show ¬ (45 : Int32) = 38 by decide), if_neg (show ¬ (45 : Int32) = 42 by decide), if_neg (show ¬ (45 : Int32) = 43 by decide), if_pos rfl]
  rfl
theorem ml_jo47 (x y : Int32) : ml_jo 47 x y = if y = 0 then 0 else x / y := by
  unfold ml_jo f_X4_joined
  rw [if_neg (show ¬ (47 : Int32) = 37 by decide), if_neg (show ¬ (47 : Int32) = 38 by decide), if_neg (show ¬ (47 : Int32) = 42 by decide), if_neg (show ¬ (47 : Int32) = 43 by decide), if_neg (show ¬ (47 : Int32) = 45 by decide), if_pos rfl]
  by_cases q : y = 0
  · rw [if_pos q, if_pos q]
    rfl
  · rw [if_neg q, if_neg q, if_neg q]
    rfl
theorem ml_jo60 (x y : Int32) : ml_jo 60 x y = if y ≤ x then 0 else 1 := by
  unfold ml_jo f_X4_joined
  rw [if_neg (show ¬ (60 : Int32) = 37 by decide), if_neg (show ¬ (60 : Int32) = 38 by decide), if_neg (show ¬ (60 : Int32) = 42 by decide), if_neg (show ¬ (60 : Int32) = 43 by decide), if_neg (show ¬ (60 : Int32) = 45 by decide), if_neg (show ¬ (60 : Int32) = 47 by decide), if_pos rfl]
  by_cases q : y ≤ x
  · rw [if_pos q, if_pos q]
    rfl
  · rw [if_neg q, if_neg q]
    rfl
theorem ml_jo61 (x y : Int32) : ml_jo 61 x y = if x = y then 1 else 0 := by
  unfold ml_jo f_X4_joined
  rw [if_neg (show ¬ (61 : Int32) = 37 by decide), if_neg (show ¬ (61 : Int32) = 38 by decide), if_neg (show ¬ (61 : Int32) = 42 by decide), if_neg (show ¬ (61 : Int32) = 43 by decide), if_neg (show ¬ (61 : Int32) = 45 by decide), if_neg (show ¬ (61 : Int32) = 47 by decide), if_neg (show ¬ (61 : Int32) = 60 by decide), if_pos rfl]
  by_cases q : x = y
  · rw [if_pos q, if_pos q]
    rfl
  · rw [if_neg q, if_neg q]
    rfl
theorem ml_jo62 (x y : Int32) : ml_jo 62 x y = if x ≤ y then 0 else 1 := by
  unfold ml_jo f_X4_joined
  rw [if_neg (show ¬ (62 : Int32) = 37 by decide), if_neg (show ¬ (62 : Int32) = 38 by decide), if_neg (show ¬ (62 : Int32) = 42 by decide), if_neg (show ¬ (62 : Int32) = 43 by decide), if_neg (show ¬ (62 : Int32) = 45 by decide), if_neg (show ¬ (62 : Int32) = 47 by decide), if_neg (show ¬ (62 : Int32) = 60 by decide), if_neg (show ¬ (62 : Int32) = 61 by decide), if_pos rfl]
  by_cases q : x ≤ y
  · rw [if_pos q, if_pos q]
    rfl
  · rw [if_neg q, if_neg q]
    rfl
theorem ml_jo124 (x y : Int32) : ml_jo 124 x y = if x = 0 then (if y = 0 then 0 else 1) else 1 := by
  unfold ml_jo f_X4_joined
  rw [if_neg (show ¬ (124 : Int32) = 37 by decide), if_neg (show ¬ (124 : Int32) = 38 by decide), if_neg (show ¬ (124 : Int32) = 42 by decide), if_neg (show ¬ (124 : Int32) = 43 by decide), if_neg (show ¬ (124 : Int32) = 45 by decide), if_neg (show ¬ (124 : Int32) = 47 by decide), if_neg (show ¬ (124 : Int32) = 60 by decide), if_neg (show ¬ (124 : Int32) = 61 by decide), if_neg (show ¬ (124 : Int32) = 62 by decide), if_pos rfl]
  by_cases q : x = 0
  · rw [if_pos q, if_pos q]
    by_cases q2 : y = 0
    · rw [if_pos q2, if_pos q2]
      rfl
    · rw [if_neg q2, if_neg q2]
      rfl
  · rw [if_neg q, if_neg q]
    rfl
theorem ml_io0 (x : Int32) : ml_io 0 x ↔ (x = 124) := by
  unfold ml_io f_X7_isOperator
  rw [if_pos (show nI 0 = 0 by decide)]
  by_cases q0 : x = 124
  · rw [if_pos q0]
    exact ⟨fun _ => q0, fun _ => by decide⟩
  rw [if_neg q0]
  exact ⟨fun z => absurd rfl z, fun z => absurd z (fun z => q0 z)⟩
theorem ml_io1 (x : Int32) : ml_io 1 x ↔ (x = 38) := by
  unfold ml_io f_X7_isOperator
  rw [if_neg (show ¬ nI 1 = 0 by decide), if_pos (show nI 1 = 1 by decide)]
  by_cases q0 : x = 38
  · rw [if_pos q0]
    exact ⟨fun _ => q0, fun _ => by decide⟩
  rw [if_neg q0]
  exact ⟨fun z => absurd rfl z, fun z => absurd z (fun z => q0 z)⟩
theorem ml_io2 (x : Int32) : ml_io 2 x ↔ (x = 60 ∨ x = 61 ∨ x = 62) := by
  unfold ml_io f_X7_isOperator
  rw [if_neg (show ¬ nI 2 = 0 by decide), if_neg (show ¬ nI 2 = 1 by decide), if_pos (show nI 2 = 2 by decide)]
  by_cases q0 : x = 60
  · rw [if_pos q0]
    exact ⟨fun _ => .inl q0, fun _ => by decide⟩
  by_cases q1 : x = 61
  · rw [if_neg q0, if_pos q1]
    exact ⟨fun _ => .inr (.inl q1), fun _ => by decide⟩
  by_cases q2 : x = 62
  · rw [if_neg q0, if_neg q1, if_pos q2]
    exact ⟨fun _ => .inr (.inr q2), fun _ => by decide⟩
  rw [if_neg q0, if_neg q1, if_neg q2]
  exact ⟨fun z => absurd rfl z, fun z => absurd z (fun z => z.elim q0 (fun z => z.elim q1 q2))⟩
theorem ml_io3 (x : Int32) : ml_io 3 x ↔ (x = 43 ∨ x = 45) := by
  unfold ml_io f_X7_isOperator
  rw [if_neg (show ¬ nI 3 = 0 by decide), if_neg (show ¬ nI 3 = 1 by decide), if_neg (show ¬ nI 3 = 2 by decide), if_pos (show nI 3 = 3 by decide)]
  by_cases q0 : x = 43
  · rw [if_pos q0]
    exact ⟨fun _ => .inl q0, fun _ => by decide⟩
  by_cases q1 : x = 45
  · rw [if_neg q0, if_pos q1]
    exact ⟨fun _ => .inr q1, fun _ => by decide⟩
  rw [if_neg q0, if_neg q1]
  exact ⟨fun z => absurd rfl z, fun z => absurd z (fun z => z.elim q0 q1)⟩
theorem ml_io4 (x : Int32) : ml_io 4 x ↔ (x = 42 ∨ x = 47 ∨ x = 37) := by
  unfold ml_io f_X7_isOperator
  rw [if_neg (show ¬ nI 4 = 0 by decide), if_neg (show ¬ nI 4 = 1 by decide), if_neg (show ¬ nI 4 = 2 by decide), if_neg (show ¬ nI 4 = 3 by decide), if_pos (show nI 4 = 4 by decide)]
  by_cases q0 : x = 42
  · rw [if_pos q0]
    exact ⟨fun _ => .inl q0, fun _ => by decide⟩
  by_cases q1 : x = 47
  · rw [if_neg q0, if_pos q1]
    exact ⟨fun _ => .inr (.inl q1), fun _ => by decide⟩
  by_cases q2 : x = 37
  · rw [if_neg q0, if_neg q1, if_pos q2]
    exact ⟨fun _ => .inr (.inr q2), fun _ => by decide⟩
  rw [if_neg q0, if_neg q1, if_neg q2]
  exact ⟨fun z => absurd rfl z, fun z => absurd z (fun z => z.elim q0 (fun z => z.elim q1 q2))⟩
