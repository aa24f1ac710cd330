-- the invariant between the class's cells and the reference's, in pure Lean (no machine from here on)
theorem mk_to {n : Nat} (h : n < 2 ^ 31) : (nI n).toInt = (n : Int) := nI_toInt h
theorem mk_cl {n : Nat} (h : n < 2 ^ 31) : (nI n).toNatClampNeg = n := nI_clamp h
theorem mk_add {a b : Int32} (h : -2147483648 ≤ a.toInt + b.toInt) (h2 : a.toInt + b.toInt < 2147483648) : (a + b).toInt = a.toInt + b.toInt := by
  rw [Int32.toInt_add]
  exact Int.bmod_eq_of_le_mul_two (by omega) (by omega)
theorem mk_sub {a b : Int32} (h : -2147483648 ≤ a.toInt - b.toInt) (h2 : a.toInt - b.toInt < 2147483648) : (a - b).toInt = a.toInt - b.toInt := by
  rw [Int32.toInt_sub]
  exact Int.bmod_eq_of_le_mul_two (by omega) (by omega)
theorem mk_of {x : Int32} {n : Nat} (h : x.toInt = (n : Int)) (hn : n < 2 ^ 31) : x = nI n := Int32.toInt_inj.mp (by rw [h, nI_toInt hn])
theorem mk_ofNN {x : Int32} (h : 0 ≤ x.toInt) : x = nI x.toInt.toNat := by
  have := Int32.toInt_lt x
  exact mk_of (by omega) (by omega)
/-- 1 between, 0 outside -/
def mk_bt (x a b : Int) : Int32 := if a ≤ x ∧ x ≤ b then 1 else 0
theorem mk_bt0 {x a b : Int} : mk_bt x a b = 0 ↔ ¬ (a ≤ x ∧ x ≤ b) := by
  unfold mk_bt
  split
  · exact ⟨fun h => absurd h (by decide), fun h => absurd ‹_› h⟩
  · exact ⟨fun _ => ‹_›, fun _ => rfl⟩
theorem mk_zb {x a b : Int} : mj_zb (mk_bt x a b) = mk_bt x a b := by
  unfold mk_bt
  split <;> rfl
theorem mk_w9 (σ : mj_S) (x a b : Int32) : f_X9_within σ x a b = mk_bt x.toInt a.toInt b.toInt := by
  unfold f_X9_within mk_bt
  simp only [Int32.lt_iff_toInt_lt]
  by_cases h : x.toInt < a.toInt
  · rw [if_pos h, if_neg (by omega)]
  · rw [if_neg h]
    by_cases h2 : b.toInt < x.toInt
    · rw [if_pos h2, if_neg (by omega)]
    · rw [if_neg h2, if_pos (by omega)]
theorem mk_cmp_lt {a b : Int64} : lg_cmp a b < 0 ↔ a.toInt < b.toInt := by
  unfold lg_cmp
  by_cases h : a > b
  · rw [if_pos h]
    have : b.toInt < a.toInt := Int64.lt_iff_toInt_lt.mp h
    exact ⟨fun q => absurd q (by decide), fun q => absurd this (by omega)⟩
  · rw [if_neg h]
    have h1 : ¬ b.toInt < a.toInt := fun q => h (Int64.lt_iff_toInt_lt.mpr q)
    by_cases h2 : a = b
    · rw [if_pos h2]
      rw [h2] at h1 ⊢
      exact ⟨fun q => absurd q (by decide), fun q => absurd q h1⟩
    · rw [if_neg h2]
      have h3 : a.toInt ≠ b.toInt := fun q => h2 (Int64.toInt_inj.mp q)
      exact ⟨fun _ => by omega, fun _ => by decide⟩
theorem mk_cmp_gt {a b : Int64} : (0 : Int32) < lg_cmp a b ↔ b.toInt < a.toInt := by
  unfold lg_cmp
  by_cases h : a > b
  · rw [if_pos h]
    have : b.toInt < a.toInt := Int64.lt_iff_toInt_lt.mp h
    exact ⟨fun _ => this, fun _ => by decide⟩
  · rw [if_neg h]
    have h1 : ¬ b.toInt < a.toInt := fun q => h (Int64.lt_iff_toInt_lt.mpr q)
    by_cases h2 : a = b
    · rw [if_pos h2]
      exact ⟨fun q => absurd q (by decide), fun q => absurd q h1⟩
    · rw [if_neg h2]
      exact ⟨fun q => absurd q (by decide), fun q => absurd q h1⟩
theorem mk_w10 (σ : mj_S) (x a b : Int64) : f_X10_within σ x a b = mk_bt x.toInt a.toInt b.toInt := by
  unfold f_X10_within mk_bt
  simp only [mk_cmp_lt, mk_cmp_gt]
  by_cases h : x.toInt < a.toInt
  · rw [if_pos h, if_neg (by omega)]
  · rw [if_neg h]
    by_cases h2 : b.toInt < x.toInt
    · rw [if_pos h2, if_neg (by omega)]
    · rw [if_neg h2, if_pos (by omega)]
theorem mk_month9 (σ : mj_S) (x : Int32) : f_X9_isMonth σ x = mk_bt x.toInt 0 599 := by
  unfold f_X9_isMonth
  rw [mk_w9, mk_zb]
  rfl
theorem mk_month10 (σ : mj_S) (x : Int32) : f_X10_isMonth σ x = mk_bt x.toInt 0 599 := by
  unfold f_X10_isMonth
  rw [mk_w10, mk_zb, Int32.toInt_toInt64]
  rfl
/-- at a place with n things told -/
theorem mk_has {x cnt : Int32} {n : Nat} (h : cnt = nI n) (hn : n < 2 ^ 31) : (if x < (0 : Int32) then (0 : Int32) else (if cnt ≤ x then 0 else 1)) = mk_bt x.toInt 0 (n - 1) := by
  unfold mk_bt
  rw [h]
  simp only [Int32.lt_iff_toInt_lt, Int32.le_iff_toInt_le, nI_toInt hn]
  have z : (0 : Int32).toInt = 0 := rfl
  rw [z]
  by_cases h : x.toInt < 0
  · rw [if_pos h, if_neg (by omega)]
  · rw [if_neg h]
    by_cases h2 : (n : Int) ≤ x.toInt
    · rw [if_pos h2, if_neg (by omega)]
    · rw [if_neg h2, if_pos (by omega)]
theorem mk_is {x cnt : Int32} {n : Nat} (σ : mj_S) (h : cnt = nI n) (hn : n < 2 ^ 31) : mj_zb (f_X10_within σ x.toInt64 0 ((cnt - 1).toInt64)) = mk_bt x.toInt 0 (n - 1) := by
  rw [mk_w10, mk_zb, Int32.toInt_toInt64, Int32.toInt_toInt64, h, mk_sub (by rw [nI_toInt hn]; show _ ≤ (n : Int) - 1; omega) (by rw [nI_toInt hn]; show (n : Int) - 1 < _; omega), nI_toInt hn]
  rfl
theorem mk_bt_of {x : Int32} {n : Nat} (h : 0 ≤ x.toInt ∧ x.toInt ≤ (n : Int) - 1) (hn : n < 2 ^ 31) : ∃ j, j < n ∧ x = nI j := ⟨x.toInt.toNat, by omega, mk_ofNN h.1⟩
-- reading behind a writing
theorem mk_g (σ : mj_S) (i k : Nat) (v : Int32) (a b : Nat) : (mj_sI σ i k v).1 a b = if a = i ∧ b = k then v else σ.1 a b := by
  show (if a = i then upd (σ.1 i) k v else σ.1 a) b = _
  by_cases h : a = i
  · rw [if_pos h, h]
    by_cases h2 : b = k
    · rw [if_pos ⟨rfl, h2⟩]
      show (if b = k then _ else _) = _
      rw [if_pos h2]
    · rw [if_neg (fun q => h2 q.2)]
      show (if b = k then _ else _) = _
      rw [if_neg h2]
  · rw [if_neg h, if_neg (fun q => h q.1)]
theorem mk_g2 (σ : mj_S) (i k : Nat) (v : Int32) : (mj_sI σ i k v).2 = σ.2 := rfl
theorem mk_gL (σ : mj_S) (i k : Nat) (v : Int64) (a b : Nat) : (mj_sL σ i k v).2 a b = if a = i ∧ b = k then v else σ.2 a b := by
  show (if a = i then vp_updL (σ.2 i) k v else σ.2 a) b = _
  by_cases h : a = i
  · rw [if_pos h, h]
    by_cases h2 : b = k
    · rw [if_pos ⟨rfl, h2⟩]
      show (if b = k then _ else _) = _
      rw [if_pos h2]
    · rw [if_neg (fun q => h2 q.2)]
      show (if b = k then _ else _) = _
      rw [if_neg h2]
  · rw [if_neg h, if_neg (fun q => h q.1)]
theorem mk_gL1 (σ : mj_S) (i k : Nat) (v : Int64) : (mj_sL σ i k v).1 = σ.1 := rfl
theorem mk_gR (σ : mj_S) (i : Nat) (f : Nat → Int32) (a b : Nat) : (mj_sR σ i f).1 a b = if a = i then f b else σ.1 a b := by
  show (if a = i then f else σ.1 a) b = _
  by_cases h : a = i
  · rw [if_pos h, if_pos h]
  · rw [if_neg h, if_neg h]
theorem mk_gQ (σ : mj_S) (i : Nat) (f : Nat → Int64) (a b : Nat) : (mj_sQ σ i f).2 a b = if a = i then f b else σ.2 a b := by
  show (if a = i then f else σ.2 a) b = _
  by_cases h : a = i
  · rw [if_pos h, if_pos h]
  · rw [if_neg h, if_neg h]
abbrev mk_G := Int32 → Int32 → Int32 → Int32 → Int32 → Int32 → Int32 → Int32
/-- the same but at the given places -/
def mk_fr (Z : Nat → Nat → Prop) (σ τ : mj_S) : Prop := (∀ a b, ¬ Z a b → τ.1 a b = σ.1 a b) ∧ τ.2 = σ.2
def mk_Z4 (a b : Nat) : Prop := a = 4 ∨ (a = 1 ∧ b = 4)
def mk_Z77 (a b : Nat) : Prop := a = 77 ∨ (a = 64 ∧ 19 ≤ b ∧ b ≤ 23)
def mk_law (g : mk_G) (s1_3 s1_5 s64_18 : Int32) (c2 c3 c76 : Nat → Int32) : Prop :=
  (∀ τ : mj_S, τ.1 1 3 = s1_3 → τ.1 1 5 = s1_5 → τ.1 2 = c2 → τ.1 3 = c3 → ∃ τ', f_X4_growth τ 34 7 = some (g (τ.1 34 0) (τ.1 34 1) (τ.1 34 2) (τ.1 34 3) (τ.1 34 4) (τ.1 34 5) (τ.1 34 6), τ') ∧ mk_fr mk_Z4 τ τ') ∧
  (∀ (τ : mj_S) (p1 p2 p3 p4 p5 p6 : Int32), τ.1 64 18 = s64_18 → τ.1 76 = c76 → 0 ≤ p1.toInt ∧ p1.toInt < 7 → ∃ τ', f_X10_growsBy τ p1 p2 p3 p4 p5 p6 = some (g ((p6 - τ.1 69 p1.toNatClampNeg) - p2) (τ.1 70 p1.toNatClampNeg) p3 (p4 / 64) (p5 / 64) (mj_rem p6 12) p1, τ') ∧ mk_fr mk_Z77 τ τ') ∧
  (∀ a b c d e f h, 0 ≤ (g a b c d e f h).toInt ∧ (g a b c d e f h).toInt ≤ 99)
theorem mk_law.mk {g : mk_G} {s1_3 s1_5 s64_18 : Int32} {c2 c3 c76 : Nat → Int32}
    (cls : ∀ τ : mj_S, τ.1 1 3 = s1_3 → τ.1 1 5 = s1_5 → τ.1 2 = c2 → τ.1 3 = c3 → ∃ τ', f_X4_growth τ 34 7 = some (g (τ.1 34 0) (τ.1 34 1) (τ.1 34 2) (τ.1 34 3) (τ.1 34 4) (τ.1 34 5) (τ.1 34 6), τ') ∧ mk_fr mk_Z4 τ τ')
    (ref : ∀ (τ : mj_S) (p1 p2 p3 p4 p5 p6 : Int32), τ.1 64 18 = s64_18 → τ.1 76 = c76 → 0 ≤ p1.toInt ∧ p1.toInt < 7 → ∃ τ', f_X10_growsBy τ p1 p2 p3 p4 p5 p6 = some (g ((p6 - τ.1 69 p1.toNatClampNeg) - p2) (τ.1 70 p1.toNatClampNeg) p3 (p4 / 64) (p5 / 64) (mj_rem p6 12) p1, τ') ∧ mk_fr mk_Z77 τ τ')
    (small : ∀ a b c d e f h, 0 ≤ (g a b c d e f h).toInt ∧ (g a b c d e f h).toInt ≤ 99) :
    mk_law g s1_3 s1_5 s64_18 c2 c3 c76 := ⟨cls, ref, small⟩
theorem mk_law.cls {g : mk_G} {s1_3 s1_5 s64_18 : Int32} {c2 c3 c76 : Nat → Int32} (h : mk_law g s1_3 s1_5 s64_18 c2 c3 c76) : ∀ τ : mj_S, τ.1 1 3 = s1_3 → τ.1 1 5 = s1_5 → τ.1 2 = c2 → τ.1 3 = c3 → ∃ τ', f_X4_growth τ 34 7 = some (g (τ.1 34 0) (τ.1 34 1) (τ.1 34 2) (τ.1 34 3) (τ.1 34 4) (τ.1 34 5) (τ.1 34 6), τ') ∧ mk_fr mk_Z4 τ τ' := h.1
theorem mk_law.ref {g : mk_G} {s1_3 s1_5 s64_18 : Int32} {c2 c3 c76 : Nat → Int32} (h : mk_law g s1_3 s1_5 s64_18 c2 c3 c76) : ∀ (τ : mj_S) (p1 p2 p3 p4 p5 p6 : Int32), τ.1 64 18 = s64_18 → τ.1 76 = c76 → 0 ≤ p1.toInt ∧ p1.toInt < 7 → ∃ τ', f_X10_growsBy τ p1 p2 p3 p4 p5 p6 = some (g ((p6 - τ.1 69 p1.toNatClampNeg) - p2) (τ.1 70 p1.toNatClampNeg) p3 (p4 / 64) (p5 / 64) (mj_rem p6 12) p1, τ') ∧ mk_fr mk_Z77 τ τ' := h.2.1
theorem mk_law.small {g : mk_G} {s1_3 s1_5 s64_18 : Int32} {c2 c3 c76 : Nat → Int32} (h : mk_law g s1_3 s1_5 s64_18 c2 c3 c76) : ∀ a b c d e f h, 0 ≤ (g a b c d e f h).toInt ∧ (g a b c d e f h).toInt ≤ 99 := h.2.2
/-- one month's step of a height -/
def mk_hs (g : mk_G) (b L a s p k : Int32) (want : Nat → Int32) (x : Int32) (m : Nat) : Int32 :=
  if nI m = b then L else if nI m ≤ b then x else mj_min 8000 (x + g ((nI m - b) - a) s (want m) (x / 64) (p / 64) (mj_rem (nI m) 12) k)
def mk_hh (g : mk_G) (b L a s p k : Int32) (want : Nat → Int32) : Nat → Int32
  | 0 => mk_hs g b L a s p k want 0 0
  | m + 1 => mk_hs g b L a s p k want (mk_hh g b L a s p k want m) (m + 1)
/-- the want of a month by the first w told -/
def mk_wo (F T K : Nat → Int32) (m : Int32) : Nat → Int32
  | 0 => 0
  | w + 1 => if (F w).toInt ≤ m.toInt ∧ m.toInt ≤ (T w).toInt then mj_max (mk_wo F T K m w) (K w) else mk_wo F T K m w
def mk_r (x : Int32) (n : Nat) : Prop := ∃ q : Nat, q ≤ n ∧ x = nI q
/-- the j-th of six -/
def mk_sel {α : Type} (a0 a1 a2 a3 a4 a5 : α) (j : Nat) : α := match j with | 0 => a0 | 1 => a1 | 2 => a2 | 3 => a3 | 4 => a4 | _ => a5
theorem mk_selE {α : Type} (f : Nat → α) (b j : Nat) (h : j < 6) : mk_sel (f b) (f (b + 1)) (f (b + 2)) (f (b + 3)) (f (b + 4)) (f (b + 5)) j = f (b + j) := by
  match j, h with
  | 0, _ => rfl
  | 1, _ => rfl
  | 2, _ => rfl
  | 3, _ => rfl
  | 4, _ => rfl
  | 5, _ => rfl
abbrev mk_kid (c10 c11 c12 c13 c14 c65 c69 c70 c71 : Nat → Int32) (j : Nat) : Prop :=
  (c10 j = c69 j) ∧
  (c11 j = c70 j) ∧
  (c12 j = c71 j) ∧
  (c13 j = c65 j) ∧
  (c14 j = c65 (6 + j)) ∧
  (mk_r (c10 j) 599) ∧
  (mk_r (c12 j) 2000)
theorem mk_kid.mk {c10 c11 c12 c13 c14 c65 c69 c70 c71 : Nat → Int32} {j : Nat}
    (born : c10 j = c69 j)
    (sex : c11 j = c70 j)
    (length : c12 j = c71 j)
    (late : c13 j = c65 j)
    (parents : c14 j = c65 (6 + j))
    (rb : mk_r (c10 j) 599)
    (rl : mk_r (c12 j) 2000) :
    mk_kid c10 c11 c12 c13 c14 c65 c69 c70 c71 j := ⟨born, sex, length, late, parents, rb, rl⟩
theorem mk_kid.born {c10 c11 c12 c13 c14 c65 c69 c70 c71 : Nat → Int32} {j : Nat} (h : mk_kid c10 c11 c12 c13 c14 c65 c69 c70 c71 j) : c10 j = c69 j := h.1
theorem mk_kid.sex {c10 c11 c12 c13 c14 c65 c69 c70 c71 : Nat → Int32} {j : Nat} (h : mk_kid c10 c11 c12 c13 c14 c65 c69 c70 c71 j) : c11 j = c70 j := h.2.1
theorem mk_kid.length {c10 c11 c12 c13 c14 c65 c69 c70 c71 : Nat → Int32} {j : Nat} (h : mk_kid c10 c11 c12 c13 c14 c65 c69 c70 c71 j) : c12 j = c71 j := h.2.2.1
theorem mk_kid.late {c10 c11 c12 c13 c14 c65 c69 c70 c71 : Nat → Int32} {j : Nat} (h : mk_kid c10 c11 c12 c13 c14 c65 c69 c70 c71 j) : c13 j = c65 j := h.2.2.2.1
theorem mk_kid.parents {c10 c11 c12 c13 c14 c65 c69 c70 c71 : Nat → Int32} {j : Nat} (h : mk_kid c10 c11 c12 c13 c14 c65 c69 c70 c71 j) : c14 j = c65 (6 + j) := h.2.2.2.2.1
theorem mk_kid.rb {c10 c11 c12 c13 c14 c65 c69 c70 c71 : Nat → Int32} {j : Nat} (h : mk_kid c10 c11 c12 c13 c14 c65 c69 c70 c71 j) : mk_r (c10 j) 599 := h.2.2.2.2.2.1
theorem mk_kid.rl {c10 c11 c12 c13 c14 c65 c69 c70 c71 : Nat → Int32} {j : Nat} (h : mk_kid c10 c11 c12 c13 c14 c65 c69 c70 c71 j) : mk_r (c12 j) 2000 := h.2.2.2.2.2.2
abbrev mk_mark (c36 c37 c38 c39 c65 c79 c80 : Nat → Int32) (i : Nat) : Prop :=
  (c36 i = c65 (12 + i)) ∧
  (c37 i = c79 i) ∧
  (c38 i = c80 i) ∧
  (c39 i = c65 (42 + i)) ∧
  (mk_r (c36 i) 9999) ∧
  (mk_r (c37 i) 6) ∧
  (mk_r (c38 i) 600) ∧
  (mk_r (c39 i) 4)
theorem mk_mark.mk {c36 c37 c38 c39 c65 c79 c80 : Nat → Int32} {i : Nat}
    (height : c36 i = c65 (12 + i))
    (name : c37 i = c79 i)
    (month : c38 i = c80 i)
    (way : c39 i = c65 (42 + i))
    (rh : mk_r (c36 i) 9999)
    (rn : mk_r (c37 i) 6)
    (rm : mk_r (c38 i) 600)
    (rw : mk_r (c39 i) 4) :
    mk_mark c36 c37 c38 c39 c65 c79 c80 i := ⟨height, name, month, way, rh, rn, rm, rw⟩
theorem mk_mark.height {c36 c37 c38 c39 c65 c79 c80 : Nat → Int32} {i : Nat} (h : mk_mark c36 c37 c38 c39 c65 c79 c80 i) : c36 i = c65 (12 + i) := h.1
theorem mk_mark.name {c36 c37 c38 c39 c65 c79 c80 : Nat → Int32} {i : Nat} (h : mk_mark c36 c37 c38 c39 c65 c79 c80 i) : c37 i = c79 i := h.2.1
theorem mk_mark.month {c36 c37 c38 c39 c65 c79 c80 : Nat → Int32} {i : Nat} (h : mk_mark c36 c37 c38 c39 c65 c79 c80 i) : c38 i = c80 i := h.2.2.1
theorem mk_mark.way {c36 c37 c38 c39 c65 c79 c80 : Nat → Int32} {i : Nat} (h : mk_mark c36 c37 c38 c39 c65 c79 c80 i) : c39 i = c65 (42 + i) := h.2.2.2.1
theorem mk_mark.rh {c36 c37 c38 c39 c65 c79 c80 : Nat → Int32} {i : Nat} (h : mk_mark c36 c37 c38 c39 c65 c79 c80 i) : mk_r (c36 i) 9999 := h.2.2.2.2.1
theorem mk_mark.rn {c36 c37 c38 c39 c65 c79 c80 : Nat → Int32} {i : Nat} (h : mk_mark c36 c37 c38 c39 c65 c79 c80 i) : mk_r (c37 i) 6 := h.2.2.2.2.2.1
theorem mk_mark.rm {c36 c37 c38 c39 c65 c79 c80 : Nat → Int32} {i : Nat} (h : mk_mark c36 c37 c38 c39 c65 c79 c80 i) : mk_r (c38 i) 600 := h.2.2.2.2.2.2.1
theorem mk_mark.rw {c36 c37 c38 c39 c65 c79 c80 : Nat → Int32} {i : Nat} (h : mk_mark c36 c37 c38 c39 c65 c79 c80 i) : mk_r (c39 i) 4 := h.2.2.2.2.2.2.2
/-- change k: number n, sort w of the class; index of the reference -/
def mk_num (w n x : Int32) (c k : Nat) : Prop := ∃ q : Nat, n = nI q ∧ ((w = 0 ∧ q < k ∧ x = nI (12 + q)) ∨ (w = 1 ∧ q < k ∧ x = nI (42 + q)) ∨ (w = 2 ∧ q < c ∧ x = nI q) ∨ (w = 3 ∧ q < c ∧ x = nI (6 + q)))
def mk_val (w v : Int32) : Prop := (w = 0 → mk_r v 9999) ∧ (w = 1 → mk_r v 4)
abbrev mk_chg (c46 c47 c48 c49 c66 c67 c68 : Nat → Int32) (c k i : Nat) : Prop :=
  (mk_num (c47 i) (c46 i) (c66 i) c k) ∧
  (c48 i = c67 i) ∧
  (c49 i = c68 i) ∧
  (mk_val (c47 i) (c48 i)) ∧
  (mk_val (c47 i) (c49 i))
theorem mk_chg.mk {c46 c47 c48 c49 c66 c67 c68 : Nat → Int32} {c k i : Nat}
    (num : mk_num (c47 i) (c46 i) (c66 i) c k)
    (was : c48 i = c67 i)
    (is : c49 i = c68 i)
    (rwas : mk_val (c47 i) (c48 i))
    (ris : mk_val (c47 i) (c49 i)) :
    mk_chg c46 c47 c48 c49 c66 c67 c68 c k i := ⟨num, was, is, rwas, ris⟩
theorem mk_chg.num {c46 c47 c48 c49 c66 c67 c68 : Nat → Int32} {c k i : Nat} (h : mk_chg c46 c47 c48 c49 c66 c67 c68 c k i) : mk_num (c47 i) (c46 i) (c66 i) c k := h.1
theorem mk_chg.was {c46 c47 c48 c49 c66 c67 c68 : Nat → Int32} {c k i : Nat} (h : mk_chg c46 c47 c48 c49 c66 c67 c68 c k i) : c48 i = c67 i := h.2.1
theorem mk_chg.is {c46 c47 c48 c49 c66 c67 c68 : Nat → Int32} {c k i : Nat} (h : mk_chg c46 c47 c48 c49 c66 c67 c68 c k i) : c49 i = c68 i := h.2.2.1
theorem mk_chg.rwas {c46 c47 c48 c49 c66 c67 c68 : Nat → Int32} {c k i : Nat} (h : mk_chg c46 c47 c48 c49 c66 c67 c68 c k i) : mk_val (c47 i) (c48 i) := h.2.2.2.1
theorem mk_chg.ris {c46 c47 c48 c49 c66 c67 c68 : Nat → Int32} {c k i : Nat} (h : mk_chg c46 c47 c48 c49 c66 c67 c68 c k i) : mk_val (c47 i) (c49 i) := h.2.2.2.2
abbrev mk_shelf (c54 c55 c56 c87 c88 : Nat → Int32) (l58 l59 l60 l61 l62 l63 l89 : Nat → Int64) (n d : Nat) : Prop :=
  ((c87 d = -1 ∧ c54 d = -1 ∧ c55 d = -1 ∧ c56 d = 0) ∨ (∃ b, b < n ∧ c87 d = nI b ∧ c54 d = nI b ∧ c55 d = -1 ∧ c56 d = 0) ∨ (∃ s, s ≤ 4 ∧ c87 d = nI (50 + s) ∧ c54 d = -1 ∧ c55 d = nI s)) ∧
  (c56 d = c88 d) ∧
  (mk_r (c56 d) 60) ∧
  (∀ i, i < 60 → mk_sel l58 l59 l60 l61 l62 l63 d i = l89 (60 * d + i)) ∧
  (c87 d = 51 → ∀ i, i < 60 → -32768 ≤ (mk_sel l58 l59 l60 l61 l62 l63 d i).toInt ∧ (mk_sel l58 l59 l60 l61 l62 l63 d i).toInt ≤ 32767)
theorem mk_shelf.mk {c54 c55 c56 c87 c88 : Nat → Int32} {l58 l59 l60 l61 l62 l63 l89 : Nat → Int64} {n d : Nat}
    (what : (c87 d = -1 ∧ c54 d = -1 ∧ c55 d = -1 ∧ c56 d = 0) ∨ (∃ b, b < n ∧ c87 d = nI b ∧ c54 d = nI b ∧ c55 d = -1 ∧ c56 d = 0) ∨ (∃ s, s ≤ 4 ∧ c87 d = nI (50 + s) ∧ c54 d = -1 ∧ c55 d = nI s))
    (size : c56 d = c88 d)
    (rsize : mk_r (c56 d) 60)
    (el : ∀ i, i < 60 → mk_sel l58 l59 l60 l61 l62 l63 d i = l89 (60 * d + i))
    (short : c87 d = 51 → ∀ i, i < 60 → -32768 ≤ (mk_sel l58 l59 l60 l61 l62 l63 d i).toInt ∧ (mk_sel l58 l59 l60 l61 l62 l63 d i).toInt ≤ 32767) :
    mk_shelf c54 c55 c56 c87 c88 l58 l59 l60 l61 l62 l63 l89 n d := ⟨what, size, rsize, el, short⟩
theorem mk_shelf.what {c54 c55 c56 c87 c88 : Nat → Int32} {l58 l59 l60 l61 l62 l63 l89 : Nat → Int64} {n d : Nat} (h : mk_shelf c54 c55 c56 c87 c88 l58 l59 l60 l61 l62 l63 l89 n d) : (c87 d = -1 ∧ c54 d = -1 ∧ c55 d = -1 ∧ c56 d = 0) ∨ (∃ b, b < n ∧ c87 d = nI b ∧ c54 d = nI b ∧ c55 d = -1 ∧ c56 d = 0) ∨ (∃ s, s ≤ 4 ∧ c87 d = nI (50 + s) ∧ c54 d = -1 ∧ c55 d = nI s) := h.1
theorem mk_shelf.size {c54 c55 c56 c87 c88 : Nat → Int32} {l58 l59 l60 l61 l62 l63 l89 : Nat → Int64} {n d : Nat} (h : mk_shelf c54 c55 c56 c87 c88 l58 l59 l60 l61 l62 l63 l89 n d) : c56 d = c88 d := h.2.1
theorem mk_shelf.rsize {c54 c55 c56 c87 c88 : Nat → Int32} {l58 l59 l60 l61 l62 l63 l89 : Nat → Int64} {n d : Nat} (h : mk_shelf c54 c55 c56 c87 c88 l58 l59 l60 l61 l62 l63 l89 n d) : mk_r (c56 d) 60 := h.2.2.1
theorem mk_shelf.el {c54 c55 c56 c87 c88 : Nat → Int32} {l58 l59 l60 l61 l62 l63 l89 : Nat → Int64} {n d : Nat} (h : mk_shelf c54 c55 c56 c87 c88 l58 l59 l60 l61 l62 l63 l89 n d) : ∀ i, i < 60 → mk_sel l58 l59 l60 l61 l62 l63 d i = l89 (60 * d + i) := h.2.2.2.1
theorem mk_shelf.short {c54 c55 c56 c87 c88 : Nat → Int32} {l58 l59 l60 l61 l62 l63 l89 : Nat → Int64} {n d : Nat} (h : mk_shelf c54 c55 c56 c87 c88 l58 l59 l60 l61 l62 l63 l89 n d) : c87 d = 51 → ∀ i, i < 60 → -32768 ≤ (mk_sel l58 l59 l60 l61 l62 l63 d i).toInt ∧ (mk_sel l58 l59 l60 l61 l62 l63 d i).toInt ≤ 32767 := h.2.2.2.2
def mk_J (g : mk_G) (c w n k d d2 a : Nat) (σ : mj_S) : Prop :=
  (c ≤ 6) ∧
  (σ.1 9 6 = nI c) ∧
  (σ.1 64 7 = nI c) ∧
  (∀ j, j < c → mk_kid (σ.1 10) (σ.1 11) (σ.1 12) (σ.1 13) (σ.1 14) (σ.1 65) (σ.1 69) (σ.1 70) (σ.1 71) j) ∧
  (w ≤ 10) ∧
  (σ.1 9 10 = nI w) ∧
  (σ.1 64 11 = nI w) ∧
  (∀ m, m < 600 → σ.1 15 m = mk_wo (σ.1 72) (σ.1 73) (σ.1 74) (nI m) w) ∧
  (∀ m, m < 600 → σ.1 16 m = 0) ∧
  (n ≤ 120) ∧
  (σ.1 5 3 = nI n) ∧
  (σ.1 64 16 = nI n) ∧
  (σ.1 6 = σ.1 75) ∧
  (∀ i, i < n → mk_r (σ.1 6 i) 255) ∧
  (mk_law g (σ.1 1 3) (σ.1 1 5) (σ.1 64 18) (σ.1 2) (σ.1 3) (σ.1 76)) ∧
  (∀ j, j < c → σ.1 33 j = 0) ∧
  (∀ j, j < c → ∀ m, m < 600 → mk_sel (σ.1 19) (σ.1 20) (σ.1 21) (σ.1 22) (σ.1 23) (σ.1 24) j m = mk_hh g (σ.1 10 j) (σ.1 12 j) (σ.1 13 j) (σ.1 11 j) (σ.1 14 j) (nI j) (σ.1 15) m) ∧
  (∀ j, j < c → ∀ m, m < 600 → mk_sel (σ.1 26) (σ.1 27) (σ.1 28) (σ.1 29) (σ.1 30) (σ.1 31) j m = mk_hh g (σ.1 10 j) 1280 0 (σ.1 11 j) 4300 6 (σ.1 16) m) ∧
  (σ.1 64 6 = 0 ∨ (σ.1 64 6 = 1 ∧ ∀ j, j < c → ∀ m, m < 600 → σ.1 78 (600 * j + m) = mk_sel (σ.1 19) (σ.1 20) (σ.1 21) (σ.1 22) (σ.1 23) (σ.1 24) j m)) ∧
  (k ≤ 30) ∧
  (σ.1 35 4 = nI k) ∧
  (σ.1 64 26 = nI k) ∧
  (∀ i, i < k → mk_mark (σ.1 36) (σ.1 37) (σ.1 38) (σ.1 39) (σ.1 65) (σ.1 79) (σ.1 80) i) ∧
  (σ.1 35 5 = σ.1 64 30) ∧
  (∃ q, q ≤ k ∧ σ.1 35 6 = nI q ∧ ∀ i, i < k → σ.1 81 i = if i < q then 1 else 0) ∧
  (d ≤ d2) ∧
  (d2 ≤ 40) ∧
  (σ.1 45 6 = nI d) ∧
  (σ.1 64 5 = nI d) ∧
  (σ.1 45 7 = nI d2) ∧
  (σ.1 64 4 = nI d2) ∧
  (∀ i, i < d2 → mk_chg (σ.1 46) (σ.1 47) (σ.1 48) (σ.1 49) (σ.1 66) (σ.1 67) (σ.1 68) c k i) ∧
  (a ≤ 50) ∧
  (σ.1 50 1 = nI a) ∧
  (σ.1 64 38 = nI a) ∧
  (∀ i, i < a → σ.1 51 i = σ.1 85 i ∧ mk_r (σ.1 51 i) 7) ∧
  (σ.1 50 3 = σ.1 64 41) ∧
  (∀ i, i < 24 → σ.1 52 i = σ.1 86 i) ∧
  (∀ e, e < 6 → mk_shelf (σ.1 54) (σ.1 55) (σ.1 56) (σ.1 87) (σ.1 88) (σ.2 58) (σ.2 59) (σ.2 60) (σ.2 61) (σ.2 62) (σ.2 63) (σ.2 89) a e)
theorem mk_J.mk {g : mk_G} {c w n k d d2 a : Nat} {σ : mj_S}
    (hc : c ≤ 6)
    (c9 : σ.1 9 6 = nI c)
    (c64 : σ.1 64 7 = nI c)
    (kid : ∀ j, j < c → mk_kid (σ.1 10) (σ.1 11) (σ.1 12) (σ.1 13) (σ.1 14) (σ.1 65) (σ.1 69) (σ.1 70) (σ.1 71) j)
    (hw : w ≤ 10)
    (w9 : σ.1 9 10 = nI w)
    (w64 : σ.1 64 11 = nI w)
    (want : ∀ m, m < 600 → σ.1 15 m = mk_wo (σ.1 72) (σ.1 73) (σ.1 74) (nI m) w)
    (noWant : ∀ m, m < 600 → σ.1 16 m = 0)
    (hn : n ≤ 120)
    (n5 : σ.1 5 3 = nI n)
    (n64 : σ.1 64 16 = nI n)
    (tape : σ.1 6 = σ.1 75)
    (bytes : ∀ i, i < n → mk_r (σ.1 6 i) 255)
    (law : mk_law g (σ.1 1 3) (σ.1 1 5) (σ.1 64 18) (σ.1 2) (σ.1 3) (σ.1 76))
    (stale : ∀ j, j < c → σ.1 33 j = 0)
    (rows : ∀ j, j < c → ∀ m, m < 600 → mk_sel (σ.1 19) (σ.1 20) (σ.1 21) (σ.1 22) (σ.1 23) (σ.1 24) j m = mk_hh g (σ.1 10 j) (σ.1 12 j) (σ.1 13 j) (σ.1 11 j) (σ.1 14 j) (nI j) (σ.1 15) m)
    (rowsM : ∀ j, j < c → ∀ m, m < 600 → mk_sel (σ.1 26) (σ.1 27) (σ.1 28) (σ.1 29) (σ.1 30) (σ.1 31) j m = mk_hh g (σ.1 10 j) 1280 0 (σ.1 11 j) 4300 6 (σ.1 16) m)
    (grown : σ.1 64 6 = 0 ∨ (σ.1 64 6 = 1 ∧ ∀ j, j < c → ∀ m, m < 600 → σ.1 78 (600 * j + m) = mk_sel (σ.1 19) (σ.1 20) (σ.1 21) (σ.1 22) (σ.1 23) (σ.1 24) j m))
    (hk : k ≤ 30)
    (k35 : σ.1 35 4 = nI k)
    (k64 : σ.1 64 26 = nI k)
    (mark : ∀ i, i < k → mk_mark (σ.1 36) (σ.1 37) (σ.1 38) (σ.1 39) (σ.1 65) (σ.1 79) (σ.1 80) i)
    (painted : σ.1 35 5 = σ.1 64 30)
    (ahead : ∃ q, q ≤ k ∧ σ.1 35 6 = nI q ∧ ∀ i, i < k → σ.1 81 i = if i < q then 1 else 0)
    (hd : d ≤ d2)
    (hd2 : d2 ≤ 40)
    (d45 : σ.1 45 6 = nI d)
    (d64 : σ.1 64 5 = nI d)
    (e45 : σ.1 45 7 = nI d2)
    (e64 : σ.1 64 4 = nI d2)
    (chg : ∀ i, i < d2 → mk_chg (σ.1 46) (σ.1 47) (σ.1 48) (σ.1 49) (σ.1 66) (σ.1 67) (σ.1 68) c k i)
    (ha : a ≤ 50)
    (a50 : σ.1 50 1 = nI a)
    (a64 : σ.1 64 38 = nI a)
    (body : ∀ i, i < a → σ.1 51 i = σ.1 85 i ∧ mk_r (σ.1 51 i) 7)
    (ran : σ.1 50 3 = σ.1 64 41)
    (trace : ∀ i, i < 24 → σ.1 52 i = σ.1 86 i)
    (shelf : ∀ e, e < 6 → mk_shelf (σ.1 54) (σ.1 55) (σ.1 56) (σ.1 87) (σ.1 88) (σ.2 58) (σ.2 59) (σ.2 60) (σ.2 61) (σ.2 62) (σ.2 63) (σ.2 89) a e) :
    mk_J g c w n k d d2 a σ := ⟨hc, c9, c64, kid, hw, w9, w64, want, noWant, hn, n5, n64, tape, bytes, law, stale, rows, rowsM, grown, hk, k35, k64, mark, painted, ahead, hd, hd2, d45, d64, e45, e64, chg, ha, a50, a64, body, ran, trace, shelf⟩
theorem mk_J.hc {g : mk_G} {c w n k d d2 a : Nat} {σ : mj_S} (h : mk_J g c w n k d d2 a σ) : c ≤ 6 := h.1
theorem mk_J.c9 {g : mk_G} {c w n k d d2 a : Nat} {σ : mj_S} (h : mk_J g c w n k d d2 a σ) : σ.1 9 6 = nI c := h.2.1
theorem mk_J.c64 {g : mk_G} {c w n k d d2 a : Nat} {σ : mj_S} (h : mk_J g c w n k d d2 a σ) : σ.1 64 7 = nI c := h.2.2.1
theorem mk_J.kid {g : mk_G} {c w n k d d2 a : Nat} {σ : mj_S} (h : mk_J g c w n k d d2 a σ) : ∀ j, j < c → mk_kid (σ.1 10) (σ.1 11) (σ.1 12) (σ.1 13) (σ.1 14) (σ.1 65) (σ.1 69) (σ.1 70) (σ.1 71) j := h.2.2.2.1
theorem mk_J.hw {g : mk_G} {c w n k d d2 a : Nat} {σ : mj_S} (h : mk_J g c w n k d d2 a σ) : w ≤ 10 := h.2.2.2.2.1
theorem mk_J.w9 {g : mk_G} {c w n k d d2 a : Nat} {σ : mj_S} (h : mk_J g c w n k d d2 a σ) : σ.1 9 10 = nI w := h.2.2.2.2.2.1
theorem mk_J.w64 {g : mk_G} {c w n k d d2 a : Nat} {σ : mj_S} (h : mk_J g c w n k d d2 a σ) : σ.1 64 11 = nI w := h.2.2.2.2.2.2.1
theorem mk_J.want {g : mk_G} {c w n k d d2 a : Nat} {σ : mj_S} (h : mk_J g c w n k d d2 a σ) : ∀ m, m < 600 → σ.1 15 m = mk_wo (σ.1 72) (σ.1 73) (σ.1 74) (nI m) w := h.2.2.2.2.2.2.2.1
theorem mk_J.noWant {g : mk_G} {c w n k d d2 a : Nat} {σ : mj_S} (h : mk_J g c w n k d d2 a σ) : ∀ m, m < 600 → σ.1 16 m = 0 := h.2.2.2.2.2.2.2.2.1
theorem mk_J.hn {g : mk_G} {c w n k d d2 a : Nat} {σ : mj_S} (h : mk_J g c w n k d d2 a σ) : n ≤ 120 := h.2.2.2.2.2.2.2.2.2.1
theorem mk_J.n5 {g : mk_G} {c w n k d d2 a : Nat} {σ : mj_S} (h : mk_J g c w n k d d2 a σ) : σ.1 5 3 = nI n := h.2.2.2.2.2.2.2.2.2.2.1
theorem mk_J.n64 {g : mk_G} {c w n k d d2 a : Nat} {σ : mj_S} (h : mk_J g c w n k d d2 a σ) : σ.1 64 16 = nI n := h.2.2.2.2.2.2.2.2.2.2.2.1
theorem mk_J.tape {g : mk_G} {c w n k d d2 a : Nat} {σ : mj_S} (h : mk_J g c w n k d d2 a σ) : σ.1 6 = σ.1 75 := h.2.2.2.2.2.2.2.2.2.2.2.2.1
theorem mk_J.bytes {g : mk_G} {c w n k d d2 a : Nat} {σ : mj_S} (h : mk_J g c w n k d d2 a σ) : ∀ i, i < n → mk_r (σ.1 6 i) 255 := h.2.2.2.2.2.2.2.2.2.2.2.2.2.1
theorem mk_J.law {g : mk_G} {c w n k d d2 a : Nat} {σ : mj_S} (h : mk_J g c w n k d d2 a σ) : mk_law g (σ.1 1 3) (σ.1 1 5) (σ.1 64 18) (σ.1 2) (σ.1 3) (σ.1 76) := h.2.2.2.2.2.2.2.2.2.2.2.2.2.2.1
theorem mk_J.stale {g : mk_G} {c w n k d d2 a : Nat} {σ : mj_S} (h : mk_J g c w n k d d2 a σ) : ∀ j, j < c → σ.1 33 j = 0 := h.2.2.2.2.2.2.2.2.2.2.2.2.2.2.2.1
theorem mk_J.rows {g : mk_G} {c w n k d d2 a : Nat} {σ : mj_S} (h : mk_J g c w n k d d2 a σ) : ∀ j, j < c → ∀ m, m < 600 → mk_sel (σ.1 19) (σ.1 20) (σ.1 21) (σ.1 22) (σ.1 23) (σ.1 24) j m = mk_hh g (σ.1 10 j) (σ.1 12 j) (σ.1 13 j) (σ.1 11 j) (σ.1 14 j) (nI j) (σ.1 15) m := h.2.2.2.2.2.2.2.2.2.2.2.2.2.2.2.2.1
theorem mk_J.rowsM {g : mk_G} {c w n k d d2 a : Nat} {σ : mj_S} (h : mk_J g c w n k d d2 a σ) : ∀ j, j < c → ∀ m, m < 600 → mk_sel (σ.1 26) (σ.1 27) (σ.1 28) (σ.1 29) (σ.1 30) (σ.1 31) j m = mk_hh g (σ.1 10 j) 1280 0 (σ.1 11 j) 4300 6 (σ.1 16) m := h.2.2.2.2.2.2.2.2.2.2.2.2.2.2.2.2.2.1
theorem mk_J.grown {g : mk_G} {c w n k d d2 a : Nat} {σ : mj_S} (h : mk_J g c w n k d d2 a σ) : σ.1 64 6 = 0 ∨ (σ.1 64 6 = 1 ∧ ∀ j, j < c → ∀ m, m < 600 → σ.1 78 (600 * j + m) = mk_sel (σ.1 19) (σ.1 20) (σ.1 21) (σ.1 22) (σ.1 23) (σ.1 24) j m) := h.2.2.2.2.2.2.2.2.2.2.2.2.2.2.2.2.2.2.1
theorem mk_J.hk {g : mk_G} {c w n k d d2 a : Nat} {σ : mj_S} (h : mk_J g c w n k d d2 a σ) : k ≤ 30 := h.2.2.2.2.2.2.2.2.2.2.2.2.2.2.2.2.2.2.2.1
theorem mk_J.k35 {g : mk_G} {c w n k d d2 a : Nat} {σ : mj_S} (h : mk_J g c w n k d d2 a σ) : σ.1 35 4 = nI k := h.2.2.2.2.2.2.2.2.2.2.2.2.2.2.2.2.2.2.2.2.1
theorem mk_J.k64 {g : mk_G} {c w n k d d2 a : Nat} {σ : mj_S} (h : mk_J g c w n k d d2 a σ) : σ.1 64 26 = nI k := h.2.2.2.2.2.2.2.2.2.2.2.2.2.2.2.2.2.2.2.2.2.1
theorem mk_J.mark {g : mk_G} {c w n k d d2 a : Nat} {σ : mj_S} (h : mk_J g c w n k d d2 a σ) : ∀ i, i < k → mk_mark (σ.1 36) (σ.1 37) (σ.1 38) (σ.1 39) (σ.1 65) (σ.1 79) (σ.1 80) i := h.2.2.2.2.2.2.2.2.2.2.2.2.2.2.2.2.2.2.2.2.2.2.1
theorem mk_J.painted {g : mk_G} {c w n k d d2 a : Nat} {σ : mj_S} (h : mk_J g c w n k d d2 a σ) : σ.1 35 5 = σ.1 64 30 := h.2.2.2.2.2.2.2.2.2.2.2.2.2.2.2.2.2.2.2.2.2.2.2.1
theorem mk_J.ahead {g : mk_G} {c w n k d d2 a : Nat} {σ : mj_S} (h : mk_J g c w n k d d2 a σ) : ∃ q, q ≤ k ∧ σ.1 35 6 = nI q ∧ ∀ i, i < k → σ.1 81 i = if i < q then 1 else 0 := h.2.2.2.2.2.2.2.2.2.2.2.2.2.2.2.2.2.2.2.2.2.2.2.2.1
theorem mk_J.hd {g : mk_G} {c w n k d d2 a : Nat} {σ : mj_S} (h : mk_J g c w n k d d2 a σ) : d ≤ d2 := h.2.2.2.2.2.2.2.2.2.2.2.2.2.2.2.2.2.2.2.2.2.2.2.2.2.1
theorem mk_J.hd2 {g : mk_G} {c w n k d d2 a : Nat} {σ : mj_S} (h : mk_J g c w n k d d2 a σ) : d2 ≤ 40 := h.2.2.2.2.2.2.2.2.2.2.2.2.2.2.2.2.2.2.2.2.2.2.2.2.2.2.1
theorem mk_J.d45 {g : mk_G} {c w n k d d2 a : Nat} {σ : mj_S} (h : mk_J g c w n k d d2 a σ) : σ.1 45 6 = nI d := h.2.2.2.2.2.2.2.2.2.2.2.2.2.2.2.2.2.2.2.2.2.2.2.2.2.2.2.1
theorem mk_J.d64 {g : mk_G} {c w n k d d2 a : Nat} {σ : mj_S} (h : mk_J g c w n k d d2 a σ) : σ.1 64 5 = nI d := h.2.2.2.2.2.2.2.2.2.2.2.2.2.2.2.2.2.2.2.2.2.2.2.2.2.2.2.2.1
theorem mk_J.e45 {g : mk_G} {c w n k d d2 a : Nat} {σ : mj_S} (h : mk_J g c w n k d d2 a σ) : σ.1 45 7 = nI d2 := h.2.2.2.2.2.2.2.2.2.2.2.2.2.2.2.2.2.2.2.2.2.2.2.2.2.2.2.2.2.1
theorem mk_J.e64 {g : mk_G} {c w n k d d2 a : Nat} {σ : mj_S} (h : mk_J g c w n k d d2 a σ) : σ.1 64 4 = nI d2 := h.2.2.2.2.2.2.2.2.2.2.2.2.2.2.2.2.2.2.2.2.2.2.2.2.2.2.2.2.2.2.1
theorem mk_J.chg {g : mk_G} {c w n k d d2 a : Nat} {σ : mj_S} (h : mk_J g c w n k d d2 a σ) : ∀ i, i < d2 → mk_chg (σ.1 46) (σ.1 47) (σ.1 48) (σ.1 49) (σ.1 66) (σ.1 67) (σ.1 68) c k i := h.2.2.2.2.2.2.2.2.2.2.2.2.2.2.2.2.2.2.2.2.2.2.2.2.2.2.2.2.2.2.2.1
theorem mk_J.ha {g : mk_G} {c w n k d d2 a : Nat} {σ : mj_S} (h : mk_J g c w n k d d2 a σ) : a ≤ 50 := h.2.2.2.2.2.2.2.2.2.2.2.2.2.2.2.2.2.2.2.2.2.2.2.2.2.2.2.2.2.2.2.2.1
theorem mk_J.a50 {g : mk_G} {c w n k d d2 a : Nat} {σ : mj_S} (h : mk_J g c w n k d d2 a σ) : σ.1 50 1 = nI a := h.2.2.2.2.2.2.2.2.2.2.2.2.2.2.2.2.2.2.2.2.2.2.2.2.2.2.2.2.2.2.2.2.2.1
theorem mk_J.a64 {g : mk_G} {c w n k d d2 a : Nat} {σ : mj_S} (h : mk_J g c w n k d d2 a σ) : σ.1 64 38 = nI a := h.2.2.2.2.2.2.2.2.2.2.2.2.2.2.2.2.2.2.2.2.2.2.2.2.2.2.2.2.2.2.2.2.2.2.1
theorem mk_J.body {g : mk_G} {c w n k d d2 a : Nat} {σ : mj_S} (h : mk_J g c w n k d d2 a σ) : ∀ i, i < a → σ.1 51 i = σ.1 85 i ∧ mk_r (σ.1 51 i) 7 := h.2.2.2.2.2.2.2.2.2.2.2.2.2.2.2.2.2.2.2.2.2.2.2.2.2.2.2.2.2.2.2.2.2.2.2.1
theorem mk_J.ran {g : mk_G} {c w n k d d2 a : Nat} {σ : mj_S} (h : mk_J g c w n k d d2 a σ) : σ.1 50 3 = σ.1 64 41 := h.2.2.2.2.2.2.2.2.2.2.2.2.2.2.2.2.2.2.2.2.2.2.2.2.2.2.2.2.2.2.2.2.2.2.2.2.1
theorem mk_J.trace {g : mk_G} {c w n k d d2 a : Nat} {σ : mj_S} (h : mk_J g c w n k d d2 a σ) : ∀ i, i < 24 → σ.1 52 i = σ.1 86 i := h.2.2.2.2.2.2.2.2.2.2.2.2.2.2.2.2.2.2.2.2.2.2.2.2.2.2.2.2.2.2.2.2.2.2.2.2.2.1
theorem mk_J.shelf {g : mk_G} {c w n k d d2 a : Nat} {σ : mj_S} (h : mk_J g c w n k d d2 a σ) : ∀ e, e < 6 → mk_shelf (σ.1 54) (σ.1 55) (σ.1 56) (σ.1 87) (σ.1 88) (σ.2 58) (σ.2 59) (σ.2 60) (σ.2 61) (σ.2 62) (σ.2 63) (σ.2 89) a e := h.2.2.2.2.2.2.2.2.2.2.2.2.2.2.2.2.2.2.2.2.2.2.2.2.2.2.2.2.2.2.2.2.2.2.2.2.2.2
def mk_I (σ : mj_S) : Prop := ∃ g c w n k d d2 a, mk_J g c w n k d d2 a σ
