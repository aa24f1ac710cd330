-- together: rows of children, the best of them
def mk_dg (c : Nat) : Nat → Nat → Nat → Nat
  | 0, _, _ => 0
  | j + 1, p, u => if u = j then p % c else mk_dg c j (p / c) u
def mk_sm (c : Nat) (D : Nat → Nat → Nat) : Nat → Nat → Nat
  | 0, _ => 0
  | j + 1, p => mk_sm c D j (p / c) + D j (p % c)
def mk_ok (c : Nat) (B : Nat → Prop) : Nat → Nat → Prop
  | 0, _ => True
  | j + 1, p => mk_ok c B j (p / c) ∧ B (p % c) ∧ ∀ u, u < j → mk_dg c j (p / c) u ≠ p % c
noncomputable def mk_best (ok : Nat → Prop) (S : Nat → Nat) : Nat → Option (Nat × Nat)
  | 0 => none
  | r + 1 => @ite _ (ok r ∧ ∀ s r', mk_best ok S r = some (s, r') → S r < s) (Classical.propDecidable _) (some (S r, r)) (mk_best ok S r)
theorem mk_best_yes {ok : Nat → Prop} {S : Nat → Nat} {r : Nat} (h : ok r ∧ ∀ s r', mk_best ok S r = some (s, r') → S r < s) : mk_best ok S (r + 1) = some (S r, r) := by
  show @ite _ _ (Classical.propDecidable _) _ _ = _
  rw [if_pos h]
theorem mk_best_no {ok : Nat → Prop} {S : Nat → Nat} {r : Nat} (h : ¬ (ok r ∧ ∀ s r', mk_best ok S r = some (s, r') → S r < s)) : mk_best ok S (r + 1) = mk_best ok S r := by
  show @ite _ _ (Classical.propDecidable _) _ _ = _
  rw [if_neg h]
theorem mk_best_skip {ok : Nat → Prop} {S : Nat → Nat} {a : Nat} : ∀ n, (∀ r, a ≤ r → r < a + n → ok r → ∃ s r', mk_best ok S a = some (s, r') ∧ s ≤ S r) → mk_best ok S (a + n) = mk_best ok S a
  | 0, _ => rfl
  | n + 1, h => by
    have ih := mk_best_skip (ok := ok) (S := S) (a := a) n (fun r h1 h2 => h r h1 (by omega))
    show mk_best ok S ((a + n) + 1) = _
    rw [mk_best_no, ih]
    intro ⟨o, q⟩
    obtain ⟨s, r', e, l⟩ := h (a + n) (by omega) (by omega) o
    have := q s r' (ih.trans e)
    omega
theorem mk_dg_up (c : Nat) : ∀ (n t r u : Nat), u < t → mk_dg c (t + n) r u = mk_dg c t (r / c ^ n) u
  | 0, t, r, u, h => by rw [Nat.pow_zero, Nat.div_one]; rfl
  | n + 1, t, r, u, h => by
    show (if u = t + n then r % c else mk_dg c (t + n) (r / c) u) = _
    rw [if_neg (by omega), mk_dg_up c n t (r / c) u h, Nat.div_div_eq_div_mul, Nat.pow_succ, Nat.mul_comm]
theorem mk_sm_up (c : Nat) (D : Nat → Nat → Nat) : ∀ (n t r : Nat), mk_sm c D t (r / c ^ n) ≤ mk_sm c D (t + n) r
  | 0, t, r => by rw [Nat.pow_zero, Nat.div_one]; exact Nat.le_refl _
  | n + 1, t, r => by
    have ih := mk_sm_up c D n t (r / c)
    rw [Nat.div_div_eq_div_mul, Nat.mul_comm, ← Nat.pow_succ] at ih
    exact Nat.le_trans ih (Nat.le_add_right _ _)
theorem mk_ok_up (c : Nat) (B : Nat → Prop) : ∀ (n t r : Nat), mk_ok c B (t + n) r → mk_ok c B t (r / c ^ n)
  | 0, t, r, h => by rw [Nat.pow_zero, Nat.div_one]; exact h
  | n + 1, t, r, h => by
    have h' : mk_ok c B (t + n) (r / c) := h.1
    have ih := mk_ok_up c B n t (r / c) h'
    rw [Nat.div_div_eq_div_mul, Nat.mul_comm, ← Nat.pow_succ] at ih
    exact ih
theorem mk_ok_iff (c : Nat) (B : Nat → Prop) : ∀ (t p : Nat), mk_ok c B t p ↔ ((∀ u, u < t → B (mk_dg c t p u)) ∧ ∀ v, v < t → ∀ u, u < v → mk_dg c t p u ≠ mk_dg c t p v)
  | 0, p => ⟨fun _ => ⟨fun u h => absurd h (by omega), fun v h => absurd h (by omega)⟩, fun _ => trivial⟩
  | t + 1, p => by
    have ih := mk_ok_iff c B t (p / c)
    have e1 : ∀ u, u < t → mk_dg c (t + 1) p u = mk_dg c t (p / c) u := fun u h => if_neg (by omega)
    have e2 : mk_dg c (t + 1) p t = p % c := if_pos rfl
    constructor
    · intro ⟨a1, a2, a3⟩
      obtain ⟨b1, b2⟩ := ih.mp a1
      refine ⟨fun u hu => ?_, fun v hv u hu => ?_⟩
      · by_cases q : u = t
        · rw [q, e2]
          exact a2
        · rw [e1 u (by omega)]
          exact b1 u (by omega)
      · by_cases q : v = t
        · rw [q, e2, e1 u (by omega)]
          exact a3 u (by omega)
        · rw [e1 u (by omega), e1 v (by omega)]
          exact b2 v (by omega) u hu
    · intro ⟨b1, b2⟩
      refine ⟨ih.mpr ⟨fun u hu => ?_, fun v hv u hu => ?_⟩, ?_, fun u hu => ?_⟩
      · rw [← e1 u hu]
        exact b1 u (by omega)
      · rw [← e1 u (by omega), ← e1 v hv]
        exact b2 v (by omega) u hu
      · rw [← e2]
        exact b1 t (by omega)
      · rw [← e1 u hu, ← e2]
        exact b2 t (by omega) u hu
/-- the marks that go together: how many, which -/
def mk_ga (P : Nat → Bool) : Nat → Nat × (Nat → Nat)
  | 0 => (0, fun _ => 0)
  | i + 1 => if P i = true ∧ (mk_ga P i).1 < 4 then ((mk_ga P i).1 + 1, fun u => if u = (mk_ga P i).1 then i else (mk_ga P i).2 u) else mk_ga P i
theorem mk_ga_le (P : Nat → Bool) : ∀ i, (mk_ga P i).1 ≤ 4 ∧ ∀ u, u < (mk_ga P i).1 → (mk_ga P i).2 u < i
  | 0 => ⟨by show 0 ≤ 4; omega, fun u h => absurd (show u < 0 from h) (by omega)⟩
  | i + 1 => by
    have ih := mk_ga_le P i
    unfold mk_ga
    by_cases q : P i = true ∧ (mk_ga P i).1 < 4
    · rw [if_pos q]
      refine ⟨by show (mk_ga P i).1 + 1 ≤ 4; omega, fun u h => ?_⟩
      show (if u = (mk_ga P i).1 then i else (mk_ga P i).2 u) < i + 1
      have h' : u < (mk_ga P i).1 + 1 := h
      by_cases z : u = (mk_ga P i).1
      · rw [if_pos z]
        omega
      · rw [if_neg z]
        have := ih.2 u (by omega)
        omega
    · rw [if_neg q]
      exact ⟨ih.1, fun u h => by have := ih.2 u h; omega⟩
theorem mk_ga_full (P : Nat → Bool) {i : Nat} (h : (mk_ga P i).1 = 4) : ∀ n, mk_ga P (i + n) = mk_ga P i
  | 0 => rfl
  | n + 1 => by
    show (if P (i + n) = true ∧ (mk_ga P (i + n)).1 < 4 then _ else mk_ga P (i + n)) = _
    rw [mk_ga_full P h n, if_neg (by omega)]
def mk_pg (σ : mj_S) (m i : Nat) : Bool := decide (σ.1 38 i = nI m ∧ σ.1 37 i = 6)
def mk_Zs (x y : Nat) : Prop := x = 40 ∨ x = 41 ∨ x = 42 ∨ x = 43 ∨ x = 82 ∨ x = 83 ∨ x = 84 ∨ (x = 64 ∧ y = 37)
theorem mk_sq {σ τ : mj_S} (h : mk_fr mk_Zs σ τ) : mk_fr mk_Zq σ τ := mk_frw h (fun x y z => by unfold mk_Zs at z; unfold mk_Zq; omega)
theorem mk_JS {g c w n k d d2 a σ τ} (h : mk_J g c w n k d d2 a σ) (q : mk_fr mk_Zs σ τ) : mk_J g c w n k d d2 a τ := by
  refine mk_JQ h (mk_sq q) ?_
  rw [q.1 64 6 (by unfold mk_Zs; omega), funext fun y => q.1 78 y (by unfold mk_Zs; omega)]
  exact h.grown
theorem mk_gather9 {g c w n k d d2 a σ} (h : mk_J g c w n k d d2 a σ) (m : Nat) : ∀ (f i : Nat) (α : mj_S), k < f + i → i ≤ k → mk_fr mk_Zs σ α → α.1 40 6 = nI (mk_ga (mk_pg σ m) i).1 → (∀ u, u < (mk_ga (mk_pg σ m) i).1 → α.1 41 u = nI ((mk_ga (mk_pg σ m) i).2 u)) → ∃ α', b_X3_gather_7 f (nI m) (nI i) α = some (nI (mk_ga (mk_pg σ m) k).1, α') ∧ mk_fr mk_Zs σ α' ∧ α'.1 40 6 = nI (mk_ga (mk_pg σ m) k).1 ∧ ∀ u, u < (mk_ga (mk_pg σ m) k).1 → α'.1 41 u = nI ((mk_ga (mk_pg σ m) k).2 u)
  | 0, i, α, hf, hi, _, _, _ => absurd hf (by omega)
  | f + 1, i, α, hf, hi, q, h6, h41 => by
    have hk := h.hk
    have jα := mk_JS h q
    have gl := mk_ga_le (mk_pg σ m) i
    unfold b_X3_gather_7 f_X5_size
    rw [jα.k35]
    by_cases hik : i = k
    · rw [if_pos (by rw [hik]; exact nI_le (by omega) (by omega)), h6]
      rw [hik] at h6 h41 ⊢
      exact ⟨α, rfl, q, h6, h41⟩
    rw [if_neg (nI_ge (by omega) (by omega))]
    by_cases h4 : (mk_ga (mk_pg σ m) i).1 = 4
    · have e : mk_ga (mk_pg σ m) k = mk_ga (mk_pg σ m) i := by
        have := mk_ga_full (mk_pg σ m) h4 (k - i)
        rw [show i + (k - i) = k by omega] at this
        exact this
      rw [e]
      refine ⟨α, ?_, q, h6, h41⟩
      rw [h6, if_pos (show (4 : Int32) ≤ nI (mk_ga (mk_pg σ m) i).1 from nI_le (a := 4) (by omega) (by omega))]
    have n4 : ¬ (4 : Int32) ≤ nI (mk_ga (mk_pg σ m) i).1 := nI_ge (a := (mk_ga (mk_pg σ m) i).1) (b := 4) (by omega) (by omega)
    have tt := mk_m9 jα (show i < k by omega)
    have m38 : α.1 38 i = σ.1 38 i := q.1 38 i (by unfold mk_Zs; omega)
    have m37 : α.1 37 i = σ.1 37 i := q.1 37 i (by unfold mk_Zs; omega)
    rw [h6, if_neg n4, tt.2.2.1, mk_bs, m38, tt.2.2.2, mk_bs, m37, nI_1]
    have skip : ¬ (σ.1 38 i = nI m ∧ σ.1 37 i = 6) → ∃ α', b_X3_gather_7 f (nI m) (nI (i + 1)) α = some (nI (mk_ga (mk_pg σ m) k).1, α') ∧ mk_fr mk_Zs σ α' ∧ α'.1 40 6 = nI (mk_ga (mk_pg σ m) k).1 ∧ ∀ u, u < (mk_ga (mk_pg σ m) k).1 → α'.1 41 u = nI ((mk_ga (mk_pg σ m) k).2 u) := by
      intro no
      have e : mk_ga (mk_pg σ m) (i + 1) = mk_ga (mk_pg σ m) i := if_neg (fun z => no (of_decide_eq_true z.1))
      exact mk_gather9 h m f (i + 1) α (by omega) (by omega) q (by rw [e]; exact h6) (by rw [e]; exact h41)
    by_cases q1 : σ.1 38 i = nI m
    · rw [if_pos q1]
      by_cases q2 : σ.1 37 i = 6
      · have i4 : 0 ≤ (nI (mk_ga (mk_pg σ m) i).1).toInt ∧ (nI (mk_ga (mk_pg σ m) i).1).toInt < 4 := by
          rw [nI_toInt (by omega)]
          omega
        have e : mk_ga (mk_pg σ m) (i + 1) = ((mk_ga (mk_pg σ m) i).1 + 1, fun u => if u = (mk_ga (mk_pg σ m) i).1 then i else (mk_ga (mk_pg σ m) i).2 u) := if_pos ⟨decide_eq_true ⟨q1, q2⟩, by omega⟩
        rw [if_pos q2, if_pos i4, nI_clamp (by omega), nI_1]
        refine mk_gather9 h m f (i + 1) _ (by omega) (by omega) (mk_frt (mk_frt q (mk_frI (by unfold mk_Zs; omega))) (mk_frI (by unfold mk_Zs; omega))) (by rw [e]; rfl) (fun u hu => ?_)
        rw [e] at hu ⊢
        have hu' : u < (mk_ga (mk_pg σ m) i).1 + 1 := hu
        show _ = nI (if u = (mk_ga (mk_pg σ m) i).1 then i else (mk_ga (mk_pg σ m) i).2 u)
        rw [mk_g, if_neg (by omega), mk_g]
        by_cases z : u = (mk_ga (mk_pg σ m) i).1
        · rw [if_pos ⟨rfl, z⟩, if_pos z]
        · rw [if_neg (fun y => z y.2), if_neg z]
          exact h41 u (by omega)
      · rw [if_neg q2]
        exact skip (fun z => q2 z.2)
    · rw [if_neg q1]
      exact skip (fun z => q1 z.1)
def mk_fin10 (m p2 v3 : Int32) (σ : mj_S) : Option (Int32 × mj_S) := if p2 < v3 then ((f_X10_goesTogether (mj_sI σ 64 37 (-1)) m v3 0 0 0).bind fun r5 => (if (0 : Int32) ≤ (r5.1 64 37) then (if p2 = (-1) then some (r5.1 64 37, r5) else (if 0 ≤ p2.toInt ∧ p2.toInt < 4 then some (r5.1 84 p2.toNatClampNeg, r5) else none)) else some ((-2), r5))) else some ((-1), σ)
theorem mk_gather10 {g c w n k d d2 a σ} (h : mk_J g c w n k d d2 a σ) (m : Nat) (p2 : Int32) : ∀ (f i : Nat) (β : mj_S), k < f + i → i ≤ k → mk_fr mk_Zs σ β → (∀ u, u < (mk_ga (mk_pg σ m) i).1 → β.1 82 u = nI ((mk_ga (mk_pg σ m) i).2 u)) → ∃ β', b_X10_together_19 f (nI m) p2 (nI (mk_ga (mk_pg σ m) i).1) (nI i) β = mk_fin10 (nI m) p2 (nI (mk_ga (mk_pg σ m) k).1) β' ∧ mk_fr mk_Zs σ β' ∧ ∀ u, u < (mk_ga (mk_pg σ m) k).1 → β'.1 82 u = nI ((mk_ga (mk_pg σ m) k).2 u)
  | 0, i, β, hf, hi, _, _ => absurd hf (by omega)
  | f + 1, i, β, hf, hi, q, h82 => by
    have hk := h.hk
    have gl := mk_ga_le (mk_pg σ m) i
    unfold b_X10_together_19
    rw [q.1 64 26 (by unfold mk_Zs; omega), h.k64]
    by_cases hik : i = k
    · rw [if_pos (by rw [hik]; exact nI_le (by omega) (by omega))]
      rw [hik] at h82 ⊢
      exact ⟨β, rfl, q, h82⟩
    have hb := mk_in30 (i := i) (by omega)
    have mk := h.mark i (by omega)
    rw [if_neg (nI_ge (by omega) (by omega)), if_pos hb, if_pos hb, nI_clamp (by omega), q.1 80 i (by unfold mk_Zs; omega), q.1 79 i (by unfold mk_Zs; omega), ← mk.month, ← mk.name, nI_1]
    have skip : mk_ga (mk_pg σ m) (i + 1) = mk_ga (mk_pg σ m) i → ∃ β', b_X10_together_19 f (nI m) p2 (nI (mk_ga (mk_pg σ m) i).1) (nI (i + 1)) β = mk_fin10 (nI m) p2 (nI (mk_ga (mk_pg σ m) k).1) β' ∧ mk_fr mk_Zs σ β' ∧ ∀ u, u < (mk_ga (mk_pg σ m) k).1 → β'.1 82 u = nI ((mk_ga (mk_pg σ m) k).2 u) := by
      intro e
      have o := mk_gather10 h m p2 f (i + 1) β (by omega) (by omega) q (by rw [e]; exact h82)
      rw [e] at o
      exact o
    by_cases q1 : σ.1 38 i = nI m
    · rw [if_pos q1]
      by_cases q2 : σ.1 37 i = 6
      · rw [if_pos q2]
        by_cases h4 : (mk_ga (mk_pg σ m) i).1 = 4
        · rw [if_pos (show (4 : Int32) ≤ nI (mk_ga (mk_pg σ m) i).1 from nI_le (a := 4) (by omega) (by omega))]
          exact skip (if_neg (fun z => by have := z.2; omega))
        · have n4 : ¬ (4 : Int32) ≤ nI (mk_ga (mk_pg σ m) i).1 := nI_ge (a := (mk_ga (mk_pg σ m) i).1) (b := 4) (by omega) (by omega)
          have i4 : 0 ≤ (nI (mk_ga (mk_pg σ m) i).1).toInt ∧ (nI (mk_ga (mk_pg σ m) i).1).toInt < 4 := by
            rw [nI_toInt (by omega)]
            omega
          have e : mk_ga (mk_pg σ m) (i + 1) = ((mk_ga (mk_pg σ m) i).1 + 1, fun u => if u = (mk_ga (mk_pg σ m) i).1 then i else (mk_ga (mk_pg σ m) i).2 u) := if_pos ⟨decide_eq_true ⟨q1, q2⟩, by omega⟩
          rw [if_neg n4, if_pos i4, nI_clamp (by omega), nI_1]
          have o := mk_gather10 h m p2 f (i + 1) (mj_sI β 82 (mk_ga (mk_pg σ m) i).1 (nI i)) (by omega) (by omega) (mk_frt q (mk_frI (by unfold mk_Zs; omega))) (fun u hu => by
            rw [e] at hu ⊢
            have hu' : u < (mk_ga (mk_pg σ m) i).1 + 1 := hu
            show _ = nI (if u = (mk_ga (mk_pg σ m) i).1 then i else (mk_ga (mk_pg σ m) i).2 u)
            rw [mk_g]
            by_cases z : u = (mk_ga (mk_pg σ m) i).1
            · rw [if_pos ⟨rfl, z⟩, if_pos z]
            · rw [if_neg (fun y => z y.2), if_neg z]
              exact h82 u (by omega))
          rw [e] at o
          exact o
      · rw [if_neg q2]
        exact skip (if_neg (fun z => q2 (of_decide_eq_true z.1).2))
    · rw [if_neg q1]
      exact skip (if_neg (fun z => q1 (of_decide_eq_true z.1).1))
