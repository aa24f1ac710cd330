-- together
theorem op_together (σ : mj_S) (x0 x1 : Int32) : mk_I σ → ∃ (v : Int32) (σ1 σ2 : mj_S), f_X9_together σ x0 x1 = some (v, σ1) ∧ f_X10_together σ1 x0 x1 = some (v, σ2) ∧ mk_I σ2 := by
  rintro ⟨g, c, w, n, k, d, d2, a, h⟩
  have hI : mk_I σ := ⟨g, c, w, n, k, d, d2, a, h⟩
  have hc := h.hc
  have hk := h.hk
  unfold f_X9_together f_X10_together
  simp only [mk_month9, mk_month10]
  by_cases h1 : mk_bt x0.toInt 0 599 = 0
  · exact ⟨-1, σ, σ, by rw [if_pos h1], by rw [if_pos h1], hI⟩
  simp only [if_neg h1]
  have i1 := mk_in_of h1
  obtain ⟨m, hm⟩ : ∃ m, m = x0.toInt.toNat := ⟨_, rfl⟩
  have em : x0 = nI m := by rw [hm]; exact mk_ofNN i1.1
  have hm6 : m < 600 := by omega
  rw [em]
  obtain ⟨G, hGe⟩ : ∃ G, G = (mk_ga (mk_pg σ m) k).1 := ⟨_, rfl⟩
  obtain ⟨q, hqe⟩ : ∃ q, q = (mk_ga (mk_pg σ m) k).2 := ⟨_, rfl⟩
  have gl := mk_ga_le (mk_pg σ m) k
  rw [← hGe, ← hqe] at gl
  have hG := gl.1
  have hq := gl.2
  have fr0 : mk_fr mk_Zs σ σ := ⟨fun _ _ _ => rfl, rfl⟩
  obtain ⟨α1, o1, o2, o3, o4⟩ := mk_gather9 h m mj_fu 0 (mj_sI σ 40 6 0) (by show k < 5000 + 0; omega) (by omega) (mk_frI (by unfold mk_Zs; omega)) rfl (fun u hu => absurd (show u < 0 from hu) (by omega))
  rw [nI_0, ← hGe] at o1
  rw [← hGe] at o3 o4
  rw [← hqe] at o4
  have ga : f_X3_gather σ (nI m) = some (nI G, α1) := o1
  have x10 : ∀ α, mk_fr mk_Zs σ α → ∃ β, b_X10_together_19 mj_fu (nI m) x1 0 0 α = mk_fin10 (nI m) x1 (nI G) β ∧ mk_fr mk_Zs σ β ∧ ∀ u, u < G → β.1 82 u = nI (q u) := by
    intro α fr
    obtain ⟨β, p1, p2, p3⟩ := mk_gather10 h m x1 mj_fu 0 α (by show k < 5000 + 0; omega) (by omega) fr (fun u hu => absurd (show u < 0 from hu) (by omega))
    rw [nI_0, ← hGe] at p1
    rw [← hGe, ← hqe] at p3
    exact ⟨β, p1, p2, p3⟩
  have I1 : ∀ β, mk_fr mk_Zs σ β → mk_I β := fun β fr => ⟨g, c, w, n, k, d, d2, a, mk_JS h fr⟩
  have em1 : (-1 : Int32).toInt = -1 := rfl
  have e0 : (0 : Int32).toInt = 0 := rfl
  rw [ga, mk_bs]
  by_cases h2 : x1 < -1
  · refine ⟨-1, α1, α1, by rw [if_pos h2], ?_, I1 _ o2⟩
    rw [if_neg]
    rw [mk_lee]
    rw [mk_ltt] at h2
    omega
  have h2' : (-1 : Int32) ≤ x1 := by
    rw [mk_lee]
    rw [mk_ltt] at h2
    omega
  simp only [if_neg h2, if_pos h2']
  by_cases h3 : x1 < nI G
  · obtain ⟨α2, x, s1, s2, s3, s4⟩ := mk_shareOut h hm6 hG hq o2 o3 o4
    obtain ⟨β, p1, p2, p3⟩ := x10 α2 s2
    have frb : mk_fr mk_Zs σ (mj_sI β 64 37 (-1)) := mk_frt p2 (mk_frI (by unfold mk_Zs; omega))
    obtain ⟨β', n1, n2, n3⟩ := mk_node h hm6 hG hq G mj_fd 0 0 0 (mj_sI β 64 37 (-1)) (by omega) (by show G < 100; omega) (by omega) (by rw [Nat.pow_zero]; omega) trivial (by omega) (fun e he => ⟨fun _ u hu => absurd hu (by omega), fun _ => mk_bits0 e he⟩) ⟨mk_JS h frb, mk_sq frb, p3, fun u hu => absurd hu (by omega)⟩ (by rw [Nat.zero_mul]; exact .inl ⟨rfl, rfl⟩)
    rw [Nat.zero_add, Nat.one_mul] at n3
    have gt : f_X10_goesTogether (mj_sI β 64 37 (-1)) (nI m) (nI G) 0 0 0 = some β' := n1
    have I2 : mk_I β' := ⟨g, c, w, n, k, d, d2, a, n2.1⟩
    have fin : b_X10_together_19 mj_fu (nI m) x1 0 0 α2 = (if (0 : Int32) ≤ (β'.1 64 37) then (if x1 = (-1) then some (β'.1 64 37, β') else (if 0 ≤ x1.toInt ∧ x1.toInt < 4 then some (β'.1 84 x1.toNatClampNeg, β') else none)) else some ((-2), β')) := by
      rw [p1]
      unfold mk_fin10
      rw [if_pos h3, gt, mk_bs]
    rw [if_pos h3, s1, mk_bs]
    show ∃ v σ1 σ2, (if mj_zb x = 0 then some ((-2 : Int32), α2) else if (0 : Int32) ≤ x1 then (f_X3_sharedChild α2 x1).bind fun r8 => some (r8, α2) else some (f_X3_sharedSum α2, α2)) = some (v, σ1) ∧ _
    rcases s4 with ⟨b1, b2⟩ | ⟨s, r, b1, b2, b3, b4⟩
    · refine ⟨-2, α2, β', ?_, ?_, I2⟩
      · rw [b2, if_pos (show mj_zb 0 = 0 by decide)]
      · rw [fin]
        rcases n3 with ⟨a1, a2⟩ | ⟨s', r', a1, _, _⟩
        · rw [if_neg (show ¬ (0 : Int32) ≤ β'.1 64 37 from by rw [a2]; decide)]
        · rw [b1] at a1
          exact absurd a1 (by intro z; cases z)
    · rcases n3 with ⟨a1, _⟩ | ⟨s', r', a1, a2, a3⟩
      · rw [b1] at a1
        exact absurd a1 (by intro z; cases z)
      · rw [b1] at a1
        have ee := Option.some.inj a1
        have es : s = s' := congrArg Prod.fst ee
        have er : r = r' := congrArg Prod.snd ee
        have sl := mk_bestB h hm6 hG hq (c ^ G) s r (Nat.le_refl _) b1
        rw [b2, if_neg (show ¬ mj_zb 1 = 0 by decide)]
        have ge : (0 : Int32) ≤ β'.1 64 37 := by
          rw [a2, mk_lee, e0, nI_toInt (by omega)]
          omega
        rw [if_pos ge] at fin
        by_cases h4 : (0 : Int32) ≤ x1
        · obtain ⟨u, hu⟩ : ∃ u, u = x1.toInt.toNat := ⟨_, rfl⟩
          have h4' := h4
          rw [mk_lee, e0] at h4'
          have eu : x1 = nI u := by rw [hu]; exact mk_ofNN h4'
          have huG : u < G := by
            rw [mk_ltt, nI_toInt (by omega)] at h3
            omega
          have i4 : 0 ≤ (nI u).toInt ∧ (nI u).toInt < 4 := by
            rw [nI_toInt (by omega)]
            omega
          refine ⟨nI (mk_dg c G r u), α2, β', ?_, ?_, I2⟩
          · have sc : f_X3_sharedChild α2 x1 = some (nI (mk_dg c G r u)) := by
              unfold f_X3_sharedChild
              rw [eu, if_neg (show ¬ nI u < (0 : Int32) from nI_pos (by omega)), s3, if_neg (nI_ge huG (by omega)), if_neg (show ¬ (4 : Int32) ≤ nI u from nI_ge (a := u) (b := 4) (by omega) (by omega)), if_pos i4, nI_clamp (by omega), b4 u huG]
            rw [if_pos h4, sc, mk_bs]
          · rw [fin, if_neg (show ¬ x1 = -1 from fun e => by rw [e] at h4; exact absurd h4 (by decide)), eu, if_pos i4, nI_clamp (by omega), a3 u huG, er]
        · have ex : x1 = -1 := by
            rw [mk_lee, e0] at h4
            rw [mk_lee, em1] at h2'
            exact Int32.toInt_inj.mp (by rw [em1]; omega)
          refine ⟨nI s, α2, β', ?_, ?_, I2⟩
          · rw [if_neg h4]
            show some (α2.1 40 9, α2) = _
            rw [b3]
          · rw [fin, if_pos ex, a2, es]
  · obtain ⟨β, p1, p2, p3⟩ := x10 α1 o2
    refine ⟨-1, α1, β, by rw [if_neg h3], ?_, I1 _ p2⟩
    rw [p1]
    unfold mk_fin10
    rw [if_neg h3]
