-- all children at one month
theorem mk_skip10 {g c w n k d d2 a σ β} (h : mk_J g c w n k d d2 a σ) (hβ : mk_J g c w n k d d2 a β) (qβ : mk_fr mk_Zq σ β) {i j : Nat} (hi : i < k) (hj : j < c) (hno : ¬ mk_may σ c i j) (K : Int32 → Int32 → Int32 → mj_S → Option mj_S) (f : Nat) (v3 m : Int32) : b_X10_findWhose_78 K (f + 1) (nI i) v3 m (nI j) β = b_X10_findWhose_78 K f (nI i) v3 m (nI (j + 1)) β := by
  have hc := h.hc
  show (if β.1 64 7 ≤ nI j then _ else (f_X10_mayBe β (nI i) (nI j)).bind _) = _
  rw [hβ.c64, if_neg (nI_ge hj (by omega)), mk_mayBe h hβ qβ hi hj, mk_bs, if_neg hno, if_pos (show (0 : Int32) = 0 from rfl)]
  unfold b_X10_findWhose_111
  rw [if_pos (show (-2 : Int32) < 0 from by decide), nI_1]
theorem mk_done10 {g c w n k d d2 a β} (hβ : mk_J g c w n k d d2 a β) (K : Int32 → Int32 → Int32 → mj_S → Option mj_S) (f : Nat) (i v3 m : Int32) : b_X10_findWhose_78 K (f + 1) i v3 m (nI c) β = K i v3 (m + 1) β := by
  have hc := hβ.hc
  show (if β.1 64 7 ≤ nI c then K i v3 (m + 1) β else _) = _
  rw [hβ.c64, if_pos (nI_le (by omega) (by omega))]
theorem mk_rest10 {g c w n k d d2 a σ β} (h : mk_J g c w n k d d2 a σ) (hβ : mk_J g c w n k d d2 a β) (qβ : mk_fr mk_Zq σ β) {i : Nat} (hi : i < k) (K : Int32 → Int32 → Int32 → mj_S → Option mj_S) (v3 m : Int32) : ∀ (f j : Nat), c < f + j → j ≤ c → (∀ j', j ≤ j' → j' < c → ¬ mk_may σ c i j') → b_X10_findWhose_78 K f (nI i) v3 m (nI j) β = K (nI i) v3 (m + 1) β
  | 0, j, hf, hj, _ => absurd hf (by omega)
  | f + 1, j, hf, hj, hno => by
    by_cases hjc : j = c
    · rw [hjc]
      exact mk_done10 hβ K f _ v3 m
    · rw [mk_skip10 h hβ qβ hi (by omega) (hno j (by omega) (by omega))]
      exact mk_rest10 h hβ qβ hi K v3 m f (j + 1) (by omega) (by omega) (fun j' h1 h2 => hno j' (by omega) h2)
theorem mk_upto10 {g c w n k d d2 a σ β} (h : mk_J g c w n k d d2 a σ) (hβ : mk_J g c w n k d d2 a β) (qβ : mk_fr mk_Zq σ β) {i j0 : Nat} (hi : i < k) (hj0 : j0 < c) (hno : ∀ j, j < j0 → ¬ mk_may σ c i j) (K : Int32 → Int32 → Int32 → mj_S → Option mj_S) (v3 m : Int32) (f : Nat) : ∀ e, e ≤ j0 → b_X10_findWhose_78 K (f + e) (nI i) v3 m (nI (j0 - e)) β = b_X10_findWhose_78 K f (nI i) v3 m (nI j0) β
  | 0, _ => rfl
  | e + 1, he => by
    have := mk_skip10 h hβ qβ hi (j := j0 - (e + 1)) (by omega) (hno _ (by omega)) K (f + e) v3 m
    rw [show j0 - (e + 1) + 1 = j0 - e by omega] at this
    exact this.trans (mk_upto10 h hβ qβ hi hj0 hno K v3 m f e (by omega))
/-- the first child asked and the last, as the class takes them -/
def mk_lo (σ : mj_S) (c i : Nat) : Int32 := if mk_bt (σ.1 37 i).toInt 0 (c - 1) = 0 then 0 else σ.1 37 i
def mk_hi (σ : mj_S) (c i : Nat) : Int32 := if mk_bt (σ.1 37 i).toInt 0 (c - 1) = 0 then nI c - 1 else σ.1 37 i
theorem mk_allKids {g c w n k d d2 a σ} (h : mk_J g c w n k d d2 a σ) {i m : Nat} (hi : i < k) (hm : m < 600) (hall : mk_bt (σ.1 37 i).toInt 0 (c - 1) = 0) : ∀ (f j : Nat) (α β : mj_S), c < f + j → j ≤ c → mk_J g c w n k d d2 a α → mk_fr mk_Zq σ α → mk_J g c w n k d d2 a β → mk_fr mk_Zq σ β → mk_FR (mk_E σ i) c α β → ∃ α' β', mk_J g c w n k d d2 a α' ∧ mk_fr mk_Zq σ α' ∧ mk_J g c w n k d d2 a β' ∧ mk_fr mk_Zq σ β' ∧ mk_FR (mk_E σ i) c α' β' ∧
    (∀ (K : Int32 → Int32 → Int32 → Int32 → Int32 → Int32 → mj_S → Option (Int32 × mj_S)) (v6 v7 : Int32), b_X3_find_94 K f (σ.1 36 i) (σ.1 39 i) v6 v7 (nI c - 1) (nI m) (nI j) α = K (σ.1 36 i) (σ.1 39 i) v6 v7 (nI c - 1) (nI m + 1) α') ∧
    (∀ (K : Int32 → Int32 → Int32 → mj_S → Option mj_S) (v3 : Int32), b_X10_findWhose_78 K f (nI i) v3 (nI m) (nI j) β = K (nI i) v3 (nI m + 1) β')
  | 0, j, α, β, hf, hj, _, _, _, _, _ => absurd hf (by omega)
  | f + 1, j, α, β, hf, hj, hα, qα, hβ, qβ, r => by
    have hc := h.hc
    have e1 : (nI c - 1).toInt = (c : Int) - 1 := pk_sub_toInt (a := c) (b := 1) (by omega) (by omega)
    by_cases hjc : j = c
    · refine ⟨α, β, hα, qα, hβ, qβ, r, fun K v6 v7 => ?_, fun K v3 => ?_⟩
      · show (if nI c - 1 < nI j then K (σ.1 36 i) (σ.1 39 i) v6 v7 (nI c - 1) (nI m + 1) α else _) = _
        rw [if_pos (by rw [mk_ltt, e1, nI_toInt (by omega)]; omega)]
      · rw [hjc]
        exact mk_done10 hβ K f _ v3 _
    · obtain ⟨α', β', k1, k2, k3, k4, k5, k6, k7⟩ := mk_one h hi (show j < c by omega) hm hα qα hβ qβ r
      obtain ⟨α'', β'', l1, l2, l3, l4, l5, l6, l7⟩ := mk_allKids h hi hm hall f (j + 1) α' β' (by omega) (by omega) k1 k2 k3 k4 k5
      refine ⟨α'', β'', l1, l2, l3, l4, l5, fun K v6 v7 => ?_, fun K v3 => ?_⟩
      · rw [k6 K f v6 v7 (nI c - 1) (by rw [mk_ltt, e1, nI_toInt (by omega)]; omega)]
        exact l6 K v6 v7
      · rw [k7 (.inl hall) K f v3]
        exact l7 K v3
theorem mk_kids {g c w n k d d2 a σ} (h : mk_J g c w n k d d2 a σ) {i m : Nat} (hi : i < k) (hm : m < 600) {α β : mj_S} (hα : mk_J g c w n k d d2 a α) (qα : mk_fr mk_Zq σ α) (hβ : mk_J g c w n k d d2 a β) (qβ : mk_fr mk_Zq σ β) (r : mk_FR (mk_E σ i) c α β) : ∃ α' β', mk_J g c w n k d d2 a α' ∧ mk_fr mk_Zq σ α' ∧ mk_J g c w n k d d2 a β' ∧ mk_fr mk_Zq σ β' ∧ mk_FR (mk_E σ i) c α' β' ∧
    (∀ (K : Int32 → Int32 → Int32 → Int32 → Int32 → Int32 → mj_S → Option (Int32 × mj_S)) (v6 : Int32), b_X3_find_94 K mj_fu (σ.1 36 i) (σ.1 39 i) v6 (mk_lo σ c i) (mk_hi σ c i) (nI m) (mk_lo σ c i) α = K (σ.1 36 i) (σ.1 39 i) v6 (mk_lo σ c i) (mk_hi σ c i) (nI m + 1) α') ∧
    (∀ (K : Int32 → Int32 → Int32 → mj_S → Option mj_S) (v3 : Int32), b_X10_findWhose_78 K mj_fu (nI i) v3 (nI m) 0 β = K (nI i) v3 (nI m + 1) β') := by
  have hc := h.hc
  by_cases hall : mk_bt (σ.1 37 i).toInt 0 (c - 1) = 0
  · obtain ⟨α', β', k1, k2, k3, k4, k5, k6, k7⟩ := mk_allKids h hi hm hall mj_fu 0 α β (by show c < 5000 + 0; omega) (by omega) hα qα hβ qβ r
    rw [nI_0] at k6 k7
    refine ⟨α', β', k1, k2, k3, k4, k5, fun K v6 => ?_, k7⟩
    unfold mk_lo mk_hi
    rw [if_pos hall, if_pos hall]
    exact k6 K v6 0
  · obtain ⟨j0, hj0, ej⟩ := mk_bt_of (x := σ.1 37 i) (n := c) (mk_in_of hall) (by omega)
    have may : ∀ j, j < c → (mk_may σ c i j ↔ j = j0) := fun j hj => by
      constructor
      · intro q
        rcases q with q | q
        · exact absurd q hall
        · rw [ej] at q
          exact ((nI_eq (by omega) (by omega)).mp q).symm
      · intro q
        rw [q]
        exact .inr ej
    obtain ⟨α', β', k1, k2, k3, k4, k5, k6, k7⟩ := mk_one h hi hj0 hm hα qα hβ qβ r
    refine ⟨α', β', k1, k2, k3, k4, k5, fun K v6 => ?_, fun K v3 => ?_⟩
    · unfold mk_lo mk_hi
      rw [if_neg hall, if_neg hall, ej]
      have s := k6 K 4999 v6 (nI j0) (nI j0) (nI_nlt (by omega) (by omega))
      refine Eq.trans s ?_
      show (if nI j0 < nI (j0 + 1) then K (σ.1 36 i) (σ.1 39 i) v6 (nI j0) (nI j0) (nI m + 1) α' else _) = _
      rw [if_pos (nI_lt (by omega) (by omega))]
    · have u := mk_upto10 h hβ qβ hi hj0 (fun j hj q => by have := (may j (by omega)).mp q; omega) K v3 (nI m) (5000 - j0) j0 (by omega)
      rw [show 5000 - j0 + j0 = 5000 by omega, Nat.sub_self, nI_0] at u
      have s := k7 ((may j0 hj0).mpr rfl) K (4999 - j0) v3
      rw [show 4999 - j0 + 1 = 5000 - j0 by omega] at s
      have t := mk_rest10 h k3 k4 hi K v3 (nI m) (4999 - j0) (j0 + 1) (by omega) (by omega) (fun j' h1 h2 q => by have := (may j' h2).mp q; omega)
      exact Eq.trans u (Eq.trans s t)
