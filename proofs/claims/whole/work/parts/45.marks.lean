theorem mk_l32 {x : Int64} (h : -32768 ≤ x.toInt ∧ x.toInt ≤ 32767) : x.toInt32.toInt = x.toInt := by
  rw [Int64.toInt_toInt32]
  exact Int.bmod_eq_of_le_mul_two (by omega) (by omega)
theorem mk_isoneL (σ τ : mj_S) {p q r s : Int64} (hp : -32768 ≤ p.toInt ∧ p.toInt ≤ 32767) (hq : -32768 ≤ q.toInt ∧ q.toInt ≤ 32767) (hr : -32768 ≤ r.toInt ∧ r.toInt ≤ 32767) (hs : -32768 ≤ s.toInt ∧ s.toInt ≤ 32767) : f_X10_isOne σ p q r s = f_X9_isMark τ p.toInt32 q.toInt32 r.toInt32 s.toInt32 := by
  unfold f_X10_isOne f_X9_isMark
  simp only [mk_w10, mk_w9, mk_l32 hp, mk_l32 hq, mk_l32 hr, mk_l32 hs]
  rfl
theorem mk_isMarkσ (σ τ : mj_S) (p q r s : Int32) : f_X9_isMark σ p q r s = f_X9_isMark τ p q r s := by
  unfold f_X9_isMark
  simp only [mk_w9]
theorem mk_fromRow {σ : mj_S} {e z k p : Nat} (he : e < 6) (hz : σ.1 56 e = nI z) (hz6 : z ≤ 60) (hk : k ≤ 30) (h35 : σ.1 35 4 = nI k) (hp : p < 2 ^ 31) (E : Nat → Int32) (hE : ∀ r, r < 4 → E r = (σ.2 (58 + e) (p + r)).toInt32) :
    f_X9_markFromRow σ (nI e) (nI p) = if k < 30 ∧ p + 4 ≤ z ∧ ¬ f_X9_isMark σ (E 0) (E 1) (E 2) (E 3) = 0 then some (1, mk_s9 σ k (E 0) (E 1) (E 2) (E 3)) else some (0, σ) := by
  unfold f_X9_markFromRow f_X5_size
  have e4 : (4 : Int32).toInt = 4 := rfl
  rw [mk_place he hz hz6, e4, nI_toInt hp]
  by_cases h1 : k = 30
  · rw [if_pos (by rw [h35, h1]; exact nI_le (a := 30) (b := 30) (by omega) (by omega)), if_neg (by omega)]
  have hk2 : k < 30 := by omega
  rw [if_neg (show ¬ (30 : Int32) ≤ σ.1 35 4 from by rw [h35]; exact nI_ge (a := k) (b := 30) hk2 (by omega))]
  by_cases h2 : p + 4 ≤ z
  · rw [if_pos (by omega)]
    have p1 : nI p + 1 = nI (p + 1) := nI_add p 1
    have p2 : nI p + 2 = nI (p + 2) := nI_add p 2
    have p3 : nI p + 3 = nI (p + 3) := nI_add p 3
    have g0 := mk_get he hz hz6 (i := p) (by omega)
    have g1 := mk_get he hz hz6 (i := p + 1) (by omega)
    have g2 := mk_get he hz hz6 (i := p + 2) (by omega)
    have g3 := mk_get he hz hz6 (i := p + 3) (by omega)
    rw [p1, p2, p3, g0, g1, g2, g3]
    show (if f_X9_isMark σ (σ.2 (58 + e) (p + 0)).toInt32 (σ.2 (58 + e) (p + 1)).toInt32 (σ.2 (58 + e) (p + 2)).toInt32 (σ.2 (58 + e) (p + 3)).toInt32 = 0 then some (0, σ) else (f_X5_add σ (σ.2 (58 + e) (p + 0)).toInt32 (σ.2 (58 + e) (p + 1)).toInt32 (σ.2 (58 + e) (p + 2)).toInt32 (σ.2 (58 + e) (p + 3)).toInt32).bind fun r9 => some (1, r9.2)) = _
    rw [← hE 0 (by omega), ← hE 1 (by omega), ← hE 2 (by omega), ← hE 3 (by omega), mk_add9 hk2 h35]
    by_cases h3 : f_X9_isMark σ (E 0) (E 1) (E 2) (E 3) = 0
    · rw [if_pos h3, if_neg (fun q => q.2.2 h3)]
    · rw [if_neg h3, if_pos ⟨hk2, h2, h3⟩]
      rfl
  · rw [if_neg (by omega), if_neg (by omega)]
    rfl
theorem mk_stop (f : Nat) (e v2 v3 v4 : Int32) (σ : mj_S) : b_X10_marks_110 (b_X10_marks_69 (f + 1)) e v2 v3 v4 σ = some (v4, σ) := rfl
theorem mk_marksLoop {σ : mj_S} {e z k p L : Nat} (he : e < 6) (hz : σ.1 56 e = nI z) (hz8 : σ.1 88 e = nI z) (hz6 : z ≤ 60) (h35 : σ.1 35 4 = nI k) (hp : p < 2 ^ 31 - 1000) (hL : L ≤ 15) (E : Nat → Nat → Int32) (hE : ∀ t r, r < 4 → E t r = (σ.2 (58 + e) (p + 4 * t + r)).toInt32)
    (hel : ∀ i, i < 60 → σ.2 (58 + e) i = σ.2 89 (60 * e + i)) (hsh : ∀ i, i < 60 → -32768 ≤ (σ.2 (58 + e) i).toInt ∧ (σ.2 (58 + e) i).toInt ≤ 32767) :
    ∀ (f i : Nat), L < f + i → i ≤ L → k + i ≤ 30 → ∃ m, m ≤ L ∧ k + m ≤ 30 ∧ (∀ t, i ≤ t → t < m → mk_r (E t 0) 9999 ∧ mk_r (E t 1) 6 ∧ mk_r (E t 2) 600 ∧ mk_r (E t 3) 4) ∧ b_X9_marks_54 (f + 1) (nI e) (nI p) (nI L) (nI i) (nI i) (mk_A9 σ k E i) = some (nI m, mk_A9 σ k E m) ∧
      ∀ τ : mj_S, τ.1 64 26 = nI k → τ.1 88 e = nI z → τ.2 = σ.2 → b_X10_marks_69 (f + 1) (nI e) (nI p) (nI L) (nI i) 1 (mk_A10 τ k E i) = some (nI m, mk_A10 τ k E m)
  | 0, i, hf, hi, hk => absurd hf (by omega)
  | f + 1, i, hf, hi, hk => by
    have hb := mk_in6 he
    have hcl : (nI e).toNatClampNeg = e := nI_clamp (by omega)
    by_cases hiL : i = L
    · refine ⟨i, by omega, hk, fun t h1 h2 => absurd h1 (by omega), ?_, fun τ t1 t2 t3 => ?_⟩
      · unfold b_X9_marks_54
        rw [if_pos (by rw [hiL]; exact nI_le (by omega) (by omega))]
      · show (if (1 : Int32) = 0 then some (nI i, mk_A10 τ k E i) else _) = _
        rw [if_neg (by decide), if_pos (by rw [hiL]; exact nI_le (by omega) (by omega))]
    · have hiL2 : i < L := by omega
      have e4 : nI p + 4 * nI i = nI (p + 4 * i) := by
        show nI p + nI 4 * nI i = _
        rw [mk_mulN, nI_add]
      have hfr := mk_fromRow (σ := mk_A9 σ k E i) (e := e) (z := z) (k := k + i) (p := p + 4 * i) he (by rw [mk_A9c σ k E 56 (by omega)]; exact hz) hz6 hk (mk_A9n h35 E i) (by omega) (E i) (fun r hr => by rw [mk_A9L]; exact hE i r hr)
      have x10 : ∀ τ : mj_S, τ.1 64 26 = nI k → τ.1 88 e = nI z → τ.2 = σ.2 → b_X10_marks_69 (f + 2) (nI e) (nI p) (nI L) (nI i) 1 (mk_A10 τ k E i) = if k + i < 30 ∧ p + 4 * i + 4 ≤ z ∧ ¬ f_X9_isMark σ (E i 0) (E i 1) (E i 2) (E i 3) = 0 then b_X10_marks_69 (f + 1) (nI e) (nI p) (nI L) (nI (i + 1)) 1 (mk_A10 τ k E (i + 1)) else some (nI i, mk_A10 τ k E i) := by
        intro τ t1 t2 t3
        have n26 := mk_A10n t1 E i
        have n88 : (mk_A10 τ k E i).1 88 e = nI z := by rw [mk_A10c τ k E 88 (by omega)]; exact t2
        have nl : (mk_A10 τ k E i).2 = σ.2 := (mk_A10L τ k E i).trans t3
        show (if (1 : Int32) = 0 then some (nI i, mk_A10 τ k E i) else if nI L ≤ nI i then some (nI i, mk_A10 τ k E i) else if 0 ≤ (nI e).toInt ∧ (nI e).toInt < 6 then if (((mk_A10 τ k E i).1 88 (nI e).toNatClampNeg - 4) - 4 * nI i) < nI p then b_X10_marks_110 (b_X10_marks_69 (f + 1)) (nI e) (nI p) (nI L) (nI i) (mk_A10 τ k E i) else if (30 : Int32) ≤ (mk_A10 τ k E i).1 64 26 then b_X10_marks_110 (b_X10_marks_69 (f + 1)) (nI e) (nI p) (nI L) (nI i) (mk_A10 τ k E i) else b_X10_marks_111 (b_X10_marks_69 (f + 1)) (nI e) (nI p) (nI L) (nI i) 1 (mk_A10 τ k E i) else none) = _
        rw [if_neg (by decide), if_neg (nI_ge hiL2 (by omega)), if_pos hb, hcl, n88, n26, mk_stop]
        have e44 : 4 * nI i = nI (4 * i) := mk_mulN 4 i
        have l1 : ((nI z - 4 - 4 * nI i) < nI p) = (z < p + 4 * i + 4) := by
          have q4 : (4 : Int32).toInt = 4 := rfl
          rw [mk_ltt, e44, mk_sub, mk_sub, nI_toInt (show 4 * i < 2 ^ 31 by omega), nI_toInt (show z < 2 ^ 31 by omega), nI_toInt (show p < 2 ^ 31 by omega), q4]
          · exact propext ⟨fun _ => by omega, fun _ => by omega⟩
          all_goals (try rw [mk_sub])
          all_goals rw [nI_toInt (show z < 2 ^ 31 by omega), q4]
          all_goals (try rw [nI_toInt (show 4 * i < 2 ^ 31 by omega)])
          all_goals omega
        have l2 : ((30 : Int32) ≤ nI (k + i)) = (30 ≤ k + i) := propext (nI_leI (a := 30) (by omega) (by omega))
        simp only [l1, l2]
        by_cases c1 : z < p + 4 * i + 4
        · rw [if_pos c1, if_neg (by omega)]
        rw [if_neg c1]
        by_cases c2 : 30 ≤ k + i
        · rw [if_pos c2, if_neg (by omega)]
        rw [if_neg c2]
        have eb : (60 * nI e + nI p) + 4 * nI i = nI (60 * e + (p + 4 * i)) := by
          rw [mk_sixty he (by omega), e44, nI_add]
          congr 1
          omega
        have eb1 : nI (60 * e + (p + 4 * i)) + 1 = nI (60 * e + (p + 4 * i + 1)) := nI_add _ 1
        have eb2 : nI (60 * e + (p + 4 * i)) + 2 = nI (60 * e + (p + 4 * i + 2)) := nI_add _ 2
        have eb3 : nI (60 * e + (p + 4 * i)) + 3 = nI (60 * e + (p + 4 * i + 3)) := nI_add _ 3
        have inb : ∀ r, r < 4 → 0 ≤ (nI (60 * e + (p + 4 * i + r))).toInt ∧ (nI (60 * e + (p + 4 * i + r))).toInt < 360 := by
          intro r hr
          rw [nI_toInt (by omega)]
          omega
        have cl : ∀ r, r < 4 → (nI (60 * e + (p + 4 * i + r))).toNatClampNeg = 60 * e + (p + 4 * i + r) := fun r hr => nI_clamp (by omega)
        have i0 : 0 ≤ (nI (60 * e + (p + 4 * i))).toInt ∧ (nI (60 * e + (p + 4 * i))).toInt < 360 := inb 0 (by omega)
        have c0 : (nI (60 * e + (p + 4 * i))).toNatClampNeg = 60 * e + (p + 4 * i + 0) := cl 0 (by omega)
        have v : ∀ r, r < 4 → (mk_A10 τ k E i).2 89 (60 * e + (p + 4 * i + r)) = σ.2 (58 + e) (p + 4 * i + r) := by
          intro r hr
          rw [nl, hel _ (by omega)]
        unfold b_X10_marks_111
        rw [if_neg (by decide), eb, if_pos i0, eb1, eb2, eb3, if_pos (inb 1 (by omega)), if_pos (inb 2 (by omega)), if_pos (inb 3 (by omega)), c0, cl 1 (by omega), cl 2 (by omega), cl 3 (by omega), v 0 (by omega), v 1 (by omega), v 2 (by omega), v 3 (by omega), mk_isoneL _ σ (hsh _ (by omega)) (hsh _ (by omega)) (hsh _ (by omega)) (hsh _ (by omega)), ← hE i 0 (by omega), ← hE i 1 (by omega), ← hE i 2 (by omega), ← hE i 3 (by omega)]
        by_cases c3 : f_X9_isMark σ (E i 0) (E i 1) (E i 2) (E i 3) = 0
        · rw [if_pos c3, if_neg (fun q => q.2.2 c3)]
          rfl
        · rw [if_neg c3, if_pos ⟨by omega, by omega, c3⟩]
          unfold b_X10_marks_176
          rw [if_neg (by decide), eb1, eb2, eb3, if_pos i0, if_pos (inb 1 (by omega)), if_pos (inb 2 (by omega)), if_pos (inb 3 (by omega)), c0, cl 1 (by omega), cl 2 (by omega), cl 3 (by omega), v 0 (by omega), v 1 (by omega), v 2 (by omega), v 3 (by omega), ← hE i 0 (by omega), ← hE i 1 (by omega), ← hE i 2 (by omega), ← hE i 3 (by omega), mk_add10 (by omega) n26, nI_1]
          rfl
      unfold b_X9_marks_54
      rw [if_neg (nI_ge hiL2 (by omega)), e4, hfr, mk_isMarkσ _ σ]
      by_cases cc : k + i < 30 ∧ p + 4 * i + 4 ≤ z ∧ ¬ f_X9_isMark σ (E i 0) (E i 1) (E i 2) (E i 3) = 0
      · obtain ⟨m, m1, m2, m3, m4, m5⟩ := mk_marksLoop he hz hz8 hz6 h35 hp hL E hE hel hsh f (i + 1) (by omega) (by omega) (by omega)
        refine ⟨m, m1, m2, fun t t1 t2 => ?_, ?_, fun τ t1 t2 t3 => ?_⟩
        · by_cases hti : t = i
          · rw [hti]
            exact mk_ismark_of cc.2.2
          · exact m3 t (by omega) t2
        · rw [if_pos cc]
          show b_X9_marks_54 (f + 1) (nI e) (nI p) (nI L) (nI i + 1) (nI i + 1) (mk_A9 σ k E (i + 1)) = _
          rw [nI_1]
          exact m4
        · rw [x10 τ t1 t2 t3, if_pos cc]
          exact m5 τ t1 t2 t3
      · refine ⟨i, hi, hk, fun t t1 t2 => absurd t1 (by omega), ?_, fun τ t1 t2 t3 => ?_⟩
        · rw [if_neg cc]
          rfl
        · rw [x10 τ t1 t2 t3, if_neg cc]
theorem op_marks (σ : mj_S) (x0 x1 x2 : Int32) : mk_I σ → ∃ (v : Int32) (σ1 σ2 : mj_S), f_X9_marks σ x0 x1 x2 = some (v, σ1) ∧ f_X10_marks σ1 x0 x1 x2 = some (v, σ2) ∧ mk_I σ2 := by
  rintro ⟨g, c, w, n, k, d, d2, a, h⟩
  have hI : mk_I σ := ⟨g, c, w, n, k, d, d2, a, h⟩
  have hk := h.hk
  have ha := h.ha
  have e1 : (1 : Int32).toInt = 1 := rfl
  have e15 : (15 : Int32).toInt = 15 := rfl
  have e2 : (1 : Int64).toInt = 1 := rfl
  have e3 : (15 : Int64).toInt = 15 := rfl
  have e4 : (4 : Int32).toInt = 4 := rfl
  have e0 : (0 : Int32).toInt = 0 := rfl
  simp only [f_X9_marks, f_X10_marks, mk_has8, mk_shelf10, mk_w9, mk_lit64, e1, e15, e2, e3]
  by_cases h1 : mk_bt x0.toInt 0 5 = 0
  · exact ⟨-1, σ, σ, by rw [if_pos h1], by rw [if_pos h1], hI⟩
  simp only [if_neg h1]
  by_cases h2 : mk_bt x2.toInt 1 15 = 0
  · exact ⟨-1, σ, σ, by rw [if_pos h2], by rw [if_pos h2], hI⟩
  simp only [if_neg h2]
  have h2' := mk_in_of h2
  obtain ⟨e, he, rfl⟩ := mk_sixth h1
  obtain ⟨L, hL, rfl⟩ : ∃ L, L ≤ 15 ∧ x2 = nI L := ⟨x2.toInt.toNat, by omega, mk_ofNN (by omega)⟩
  have tL : (nI L).toInt = L := nI_toInt (by omega)
  rw [tL] at h2'
  have hb := mk_in6 he
  have hcl : (nI e).toNatClampNeg = e := nI_clamp (by omega)
  simp only [if_pos hb, hcl]
  obtain ⟨z, hz, ez⟩ := (h.shelf e he).rsize
  have ez8 := (h.shelf e he).size
  rw [ez] at ez8
  have tz : (nI z).toInt = z := nI_toInt (by omega)
  -- nothing is marked where the first place isn't there
  have none9 : ¬ (0 ≤ x1.toInt ∧ x1.toInt + 4 ≤ z) → b_X9_marks_54 mj_fu (nI e) x1 (nI L) 0 0 σ = some (0, σ) := by
    intro hno
    show (if nI L ≤ 0 then some (0, σ) else (f_X9_markFromRow σ (nI e) (x1 + 4 * 0)).bind fun r6 => if r6.1 = 0 then some (0, r6.2) else b_X9_marks_54 4999 (nI e) x1 (nI L) (0 + 1) (0 + 1) r6.2) = _
    rw [if_neg (show ¬ nI L ≤ 0 from nI_nle (by omega) (by omega))]
    have ex : x1 + 4 * 0 = x1 := by
      show x1 + 0 = x1
      exact Int32.add_zero x1
    have hf : f_X9_markFromRow σ (nI e) x1 = some (0, σ) := by
      unfold f_X9_markFromRow
      by_cases hc : (30 : Int32) ≤ f_X5_size σ
      · rw [if_pos hc]
      · rw [if_neg hc, mk_place he ez hz, e4, if_neg (by omega)]
        rfl
    rw [ex, hf]
    rfl
  rcases mk_sh h he with ⟨q1, q2, q3, q4, q5⟩ | ⟨b, hb2, q1, q2, q3, _, q4, q5⟩ | ⟨s, hs, q1, q2, q3, _, q4⟩
  · have z0 : z = 0 := (nI_eq (b := 0) (by omega) (by omega)).mp (ez.symm.trans q5)
    refine ⟨0, σ, σ, ?_, ?_, hI⟩
    · rw [q1]
      exact none9 (by omega)
    · rw [q3, if_pos (by decide)]
      unfold b_X10_marks_44
      rw [if_pos hb, hcl, q3, if_neg (by decide)]
      rfl
  · refine ⟨-12, σ, σ, by rw [q1, q4]; rfl, ?_, hI⟩
    rw [q3, if_neg (show ¬ nI b < (0 : Int32) from nI_pos (by omega)), if_neg (show ¬ nI b = (51 : Int32) from fun q => by have := (nI_eq (a := b) (b := 51) (by omega) (by omega)).mp q; omega)]
  · by_cases hs1 : s = 1
    · have q51 : σ.1 87 e = 51 := by rw [q3, hs1]; rfl
      rw [if_pos hs1] at q4
      have x10 : ∀ τ : mj_S, τ.1 87 e = 51 → (if τ.1 87 e < 0 then b_X10_marks_44 (nI e) x1 (nI L) τ else if τ.1 87 e = 51 then b_X10_marks_44 (nI e) x1 (nI L) τ else some (-12, τ)) = if x1 < 0 then b_X10_marks_69 mj_fu (nI e) x1 (nI L) 0 0 τ else b_X10_marks_69 mj_fu (nI e) x1 (nI L) 0 1 τ := by
        intro τ ht
        rw [ht, if_neg (by decide), if_pos rfl]
        unfold b_X10_marks_44
        rw [if_pos hb, hcl, ht, if_pos rfl]
      have y9 : ((some (0 : Int32)).bind fun r3 => if r3 = 0 then (some (1 : Int32)).bind fun r8 => if r8 = 0 then some (-12, σ) else b_X9_marks_54 mj_fu (nI e) x1 (nI L) 0 0 σ else b_X9_marks_54 mj_fu (nI e) x1 (nI L) 0 0 σ) = b_X9_marks_54 mj_fu (nI e) x1 (nI L) 0 0 σ := rfl
      rw [q1, q4]
      by_cases hx : x1 < 0
      · refine ⟨0, σ, σ, ?_, ?_, hI⟩
        · rw [y9]
          exact none9 (by rw [mk_ltt, e0] at hx; omega)
        · rw [x10 σ q51, if_pos hx]
          rfl
      · have hx0 : 0 ≤ x1.toInt := by rw [mk_ltt, e0] at hx; omega
        have bx := Int32.toInt_lt x1
        obtain ⟨p, hp, rfl⟩ : ∃ p, p < 2 ^ 31 ∧ x1 = nI p := ⟨x1.toInt.toNat, by omega, mk_ofNN hx0⟩
        by_cases hbig : p < 2 ^ 31 - 1000
        · have sel : ∀ i, mk_sel (σ.2 58) (σ.2 59) (σ.2 60) (σ.2 61) (σ.2 62) (σ.2 63) e i = σ.2 (58 + e) i := fun i => congrFun (mk_selE σ.2 58 e he) i
          obtain ⟨m, m1, m2, m3, m4, m5⟩ := mk_marksLoop he ez ez8.symm hz h.k35 hbig hL (fun t r => (σ.2 (58 + e) (p + 4 * t + r)).toInt32) (fun _ _ _ => rfl) (fun i hi => by rw [← sel]; exact (h.shelf e he).el i hi) (fun i hi => by rw [← sel]; exact (h.shelf e he).short q51 i hi) 4999 0 (by omega) (by omega) (by omega)
          refine ⟨nI m, mk_A9 σ k (fun t r => (σ.2 (58 + e) (p + 4 * t + r)).toInt32) m, _, ?_, ?_, g, c, w, n, k + m, d, d2, a, mk_AJ h (fun t r => (σ.2 (58 + e) (p + 4 * t + r)).toInt32) m m2 (fun t ht => m3 t (by omega) ht)⟩
          · rw [y9]
            exact m4
          · rw [x10 _ (by rw [mk_A9c σ k _ 87 (by omega)]; exact q51), if_neg hx]
            exact m5 (mk_A9 σ k (fun t r => (σ.2 (58 + e) (p + 4 * t + r)).toInt32) m) (by rw [mk_A9c σ k _ 64 (by omega)]; exact h.k64) (by rw [mk_A9c σ k _ 88 (by omega)]; exact ez8.symm) (mk_A9L σ k _ m)
        · refine ⟨0, σ, σ, ?_, ?_, hI⟩
          · rw [y9]
            exact none9 (by rw [nI_toInt hp]; omega)
          · rw [x10 σ q51, if_neg hx]
            show (if (1 : Int32) = 0 then some (0, σ) else if nI L ≤ 0 then some (0, σ) else if 0 ≤ (nI e).toInt ∧ (nI e).toInt < 6 then if ((σ.1 88 (nI e).toNatClampNeg - 4) - 4 * 0) < nI p then b_X10_marks_110 (b_X10_marks_69 4999) (nI e) (nI p) (nI L) 0 σ else _ else none) = _
            have q4' : (4 : Int32).toInt = 4 := rfl
            have e40 : (σ.1 88 (nI e).toNatClampNeg - 4) - 4 * 0 = nI z - 4 := by
              rw [hcl, ← ez8]
              show nI z - 4 - 0 = _
              exact Int32.sub_zero _
            rw [if_neg (by decide), if_neg (show ¬ nI L ≤ 0 from nI_nle (by omega) (by omega)), if_pos hb, e40, if_pos (by rw [mk_ltt, mk_sub (by rw [tz, q4']; omega) (by rw [tz, q4']; omega), tz, q4', nI_toInt hp]; omega)]
            rfl
    · rw [if_neg hs1] at q4
      refine ⟨-12, σ, σ, by rw [q1, q4]; rfl, ?_, hI⟩
      rw [q3, if_neg (show ¬ nI (50 + s) < (0 : Int32) from nI_pos (by omega)), if_neg (show ¬ nI (50 + s) = (51 : Int32) from fun q => by have := (nI_eq (a := 50 + s) (b := 51) (by omega) (by omega)).mp q; omega)]
