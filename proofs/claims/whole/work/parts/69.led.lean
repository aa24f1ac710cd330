theorem mk_frs {Z : Nat → Nat → Prop} {σ α β : mj_S} (h : mk_fr Z σ α) (q : mk_fr Z σ β) : mk_fr Z α β := ⟨fun x y z => (q.1 x y z).trans (h.1 x y z).symm, q.2.trans h.2.symm⟩
theorem mk_ledL {g c w n k d d2 a} {j : Nat} (hj : j < 6) : ∀ (f i : Nat) (v : Int32) (α β : mj_S), k < f + i → i ≤ k → mk_J g c w n k d d2 a α → mk_J g c w n k d d2 a β → mk_fr mk_Zq α β → ∃ x α' β', b_X3_leadingTo_4 f (nI j) v (nI i) α = some (x, α') ∧ b_X10_led_14 f (nI j) v (nI i) β = some (x, β') ∧ mk_J g c w n k d d2 a α' ∧ mk_J g c w n k d d2 a β' ∧ mk_fr mk_Zq α α'
  | 0, i, v, α, β, hf, hi, _, _, _ => absurd hf (by omega)
  | f + 1, i, v, α, β, hf, hi, hα, hβ, q => by
    have hk := hα.hk
    unfold b_X3_leadingTo_4 b_X10_led_14 f_X5_size
    rw [hα.k35, hβ.k64]
    by_cases hik : i = k
    · have l : nI k ≤ nI i := by rw [hik]; exact nI_le (by omega) (by omega)
      exact ⟨v, α, β, by rw [if_pos l], by rw [if_pos l], hα, hβ, ⟨fun _ _ _ => rfl, rfl⟩⟩
    have l : ¬ nI k ≤ nI i := nI_ge (by omega) (by omega)
    obtain ⟨α', β', f9, f10, jα, qα, jβ, qβ, r⟩ := mk_find hα hβ q (show i < k by omega)
    rw [if_neg l, if_neg l, f9, mk_bs, f10, mk_bs, nI_1]
    have next : ∀ v, ∃ x α'' β'', b_X3_leadingTo_4 f (nI j) v (nI (i + 1)) α' = some (x, α'') ∧ b_X10_led_14 f (nI j) v (nI (i + 1)) β' = some (x, β'') ∧ mk_J g c w n k d d2 a α'' ∧ mk_J g c w n k d d2 a β'' ∧ mk_fr mk_Zq α α'' := by
      intro v
      obtain ⟨x, α'', β'', o1, o2, o3, o4, o5⟩ := mk_ledL hj f (i + 1) v α' β' (by omega) (by omega) jα jβ (mk_frs qα qβ)
      exact ⟨x, α'', β'', o1, o2, o3, o4, mk_frt qα o5⟩
    rcases mk_FR0 hα.hc r with ⟨r1, r2, _, _⟩ | ⟨r1, r2, _, _⟩
    · rw [if_pos r1]
      have hne : ¬ (-2 : Int32) = nI j := fun e => by
        have := congrArg Int32.toInt e
        rw [nI_toInt (by omega)] at this
        have z : (-2 : Int32).toInt = -2 := rfl
        omega
      rw [r2, if_neg hne, Int32.add_zero]
      exact next v
    · rw [if_neg r1]
      show ∃ x α'' β'', (if α'.1 40 2 = nI j then b_X3_leadingTo_4 f (nI j) (v + 1) (nI (i + 1)) α' else b_X3_leadingTo_4 f (nI j) v (nI (i + 1)) α') = some (x, α'') ∧ _
      rw [← r2]
      by_cases c1 : α'.1 40 2 = nI j
      · rw [if_pos c1, if_pos c1]
        exact next (v + 1)
      · rw [if_neg c1, if_neg c1, Int32.add_zero]
        exact next v
theorem op_led (σ : mj_S) (x0 : Int32) : mk_I σ → ∃ (v : Int32) (σ1 σ2 : mj_S), f_X9_led σ x0 = some (v, σ1) ∧ f_X10_led σ1 x0 = some (v, σ2) ∧ mk_I σ2 := by
  rintro ⟨g, c, w, n, k, d, d2, a, h⟩
  have hI : mk_I σ := ⟨g, c, w, n, k, d, d2, a, h⟩
  have hc := h.hc
  have hk := h.hk
  unfold f_X9_led f_X10_led
  rw [mk_has2 h]
  by_cases h1 : mk_bt x0.toInt 0 (c - 1) = 0
  · exact ⟨-1, σ, σ, by rw [if_pos h1], by rw [mk_child10 h, if_pos h1], hI⟩
  obtain ⟨j, hj, rfl⟩ := mk_bt_of (x := x0) (n := c) (mk_in_of h1) (by omega)
  obtain ⟨x, α, _, o1, _, jα, _, qα⟩ := mk_ledL (j := j) (by omega) mj_fu 0 0 σ σ (by show k < 5000 + 0; omega) (by omega) h h ⟨fun _ _ _ => rfl, rfl⟩
  obtain ⟨x', α', β, p1, p2, _, jβ, _⟩ := mk_ledL (j := j) (by omega) mj_fu 0 0 σ α (by show k < 5000 + 0; omega) (by omega) h jα qα
  have hv := Option.some.inj (o1.symm.trans p1)
  obtain rfl : x = x' := congrArg Prod.fst hv
  obtain rfl : α = α' := congrArg Prod.snd hv
  rw [nI_0] at o1 p2
  refine ⟨x, α, β, ?_, ?_, g, c, w, n, k, d, d2, a, jβ⟩
  · rw [if_neg h1]
    unfold f_X3_leadingTo
    rw [o1, mk_bs]
  · rw [mk_child10 jα, if_neg h1]
    exact p2
