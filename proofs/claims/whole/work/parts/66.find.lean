-- whose mark it is: found by both
def mk_E (σ : mj_S) (i : Nat) : Nat → Nat → Int32 := fun j m => mk_D σ (σ.1 36 i) j m (σ.1 39 i)
def mk_FR (E : Nat → Nat → Int32) (c : Nat) (α β : mj_S) : Prop := (α.1 40 2 = -1 ∧ β.1 64 31 = -2 ∧ β.1 64 32 = -2 ∧ β.1 64 33 = -2) ∨ (∃ j m : Nat, j < c ∧ m < 600 ∧ α.1 40 2 = nI j ∧ β.1 64 31 = nI j ∧ α.1 40 3 = nI m ∧ β.1 64 32 = nI m ∧ α.1 40 4 = β.1 64 33 ∧ α.1 40 4 = E j m)
theorem mk_J40 {g c w n k d d2 a σ} (h : mk_J g c w n k d d2 a σ) (x y z : Int32) : mk_J g c w n k d d2 a (mj_sI (mj_sI (mj_sI σ 40 2 x) 40 3 y) 40 4 z) := (mk_J.mk (hc := h.hc) (c9 := h.c9) (c64 := h.c64) (kid := h.kid) (hw := h.hw) (w9 := h.w9) (w64 := h.w64) (want := h.want) (noWant := h.noWant) (hn := h.hn) (n5 := h.n5) (n64 := h.n64) (tape := h.tape) (bytes := h.bytes) (law := h.law) (stale := h.stale) (rows := h.rows) (rowsM := h.rowsM) (grown := h.grown) (hk := h.hk) (k35 := h.k35) (k64 := h.k64) (mark := h.mark) (painted := h.painted) (ahead := h.ahead) (hd := h.hd) (hd2 := h.hd2) (d45 := h.d45) (d64 := h.d64) (e45 := h.e45) (e64 := h.e64) (chg := h.chg) (ha := h.ha) (a50 := h.a50) (a64 := h.a64) (body := h.body) (ran := h.ran) (trace := h.trace) (shelf := h.shelf))
theorem mk_J31 {g c w n k d d2 a σ} (h : mk_J g c w n k d d2 a σ) (x y z : Int32) : mk_J g c w n k d d2 a (mj_sI (mj_sI (mj_sI σ 64 31 x) 64 32 y) 64 33 z) := (mk_J.mk (hc := h.hc) (c9 := h.c9) (c64 := h.c64) (kid := h.kid) (hw := h.hw) (w9 := h.w9) (w64 := h.w64) (want := h.want) (noWant := h.noWant) (hn := h.hn) (n5 := h.n5) (n64 := h.n64) (tape := h.tape) (bytes := h.bytes) (law := h.law) (stale := h.stale) (rows := h.rows) (rowsM := h.rowsM) (grown := h.grown) (hk := h.hk) (k35 := h.k35) (k64 := h.k64) (mark := h.mark) (painted := h.painted) (ahead := h.ahead) (hd := h.hd) (hd2 := h.hd2) (d45 := h.d45) (d64 := h.d64) (e45 := h.e45) (e64 := h.e64) (chg := h.chg) (ha := h.ha) (a50 := h.a50) (a64 := h.a64) (body := h.body) (ran := h.ran) (trace := h.trace) (shelf := h.shelf))
/-- one child at one month, on both sides -/
theorem mk_one {g c w n k d d2 a σ} (h : mk_J g c w n k d d2 a σ) {i j m : Nat} (hi : i < k) (hj : j < c) (hm : m < 600) {α β : mj_S} (hα : mk_J g c w n k d d2 a α) (qα : mk_fr mk_Zq σ α) (hβ : mk_J g c w n k d d2 a β) (qβ : mk_fr mk_Zq σ β) (r : mk_FR (mk_E σ i) c α β) : ∃ α' β', mk_J g c w n k d d2 a α' ∧ mk_fr mk_Zq σ α' ∧ mk_J g c w n k d d2 a β' ∧ mk_fr mk_Zq σ β' ∧ mk_FR (mk_E σ i) c α' β' ∧
    (∀ (K : Int32 → Int32 → Int32 → Int32 → Int32 → Int32 → mj_S → Option (Int32 × mj_S)) (f : Nat) (v6 v7 v8 : Int32), ¬ v8 < nI j → b_X3_find_94 K (f + 1) (σ.1 36 i) (σ.1 39 i) v6 v7 v8 (nI m) (nI j) α = b_X3_find_94 K f (σ.1 36 i) (σ.1 39 i) v6 v7 v8 (nI m) (nI (j + 1)) α') ∧
    (mk_may σ c i j → ∀ (K : Int32 → Int32 → Int32 → mj_S → Option mj_S) (f : Nat) (v3 : Int32), b_X10_findWhose_78 K (f + 1) (nI i) v3 (nI m) (nI j) β = b_X10_findWhose_78 K f (nI i) v3 (nI m) (nI (j + 1)) β') := by
  have hc := h.hc
  obtain ⟨β1, o1, o2, o3, o4⟩ := mk_offOf h hβ qβ hi hj hm
  obtain ⟨D, hD⟩ : ∃ D, D = mk_D σ (σ.1 36 i) j m (σ.1 39 i) := ⟨_, rfl⟩
  have d9 : f_X3_distance α (σ.1 36 i) (nI j) (nI m) (σ.1 39 i) = some D := by
    rw [mk_dist9 hα hj hm, mk_DQ qα _ (by omega), hD]
  have dr := mk_D_r h hj hm (mk_r_in (h.mark i hi).rh (by omega)) (σ.1 39 i)
  rw [← hD] at dr o1
  have e0 : (0 : Int32).toInt = 0 := rfl
  have lj : ¬ nI c ≤ nI j := nI_ge hj (by omega)
  have s9 : ∀ (K : Int32 → Int32 → Int32 → Int32 → Int32 → Int32 → mj_S → Option (Int32 × mj_S)) (f : Nat) (v6 v7 v8 : Int32), ¬ v8 < nI j → b_X3_find_94 K (f + 1) (σ.1 36 i) (σ.1 39 i) v6 v7 v8 (nI m) (nI j) α = if D = -2 then b_X3_find_94 K f (σ.1 36 i) (σ.1 39 i) v6 v7 v8 (nI m) (nI (j + 1)) α else if α.1 40 2 < 0 then b_X3_find_137 (b_X3_find_94 K f) (σ.1 36 i) (σ.1 39 i) v6 v7 v8 (nI m) (nI j) D α else if α.1 40 4 ≤ D then b_X3_find_94 K f (σ.1 36 i) (σ.1 39 i) v6 v7 v8 (nI m) (nI (j + 1)) α else b_X3_find_137 (b_X3_find_94 K f) (σ.1 36 i) (σ.1 39 i) v6 v7 v8 (nI m) (nI j) D α := by
    intro K f v6 v7 v8 hv
    show (if v8 < nI j then _ else (f_X3_distance α (σ.1 36 i) (nI j) (nI m) (σ.1 39 i)).bind _) = _
    rw [if_neg hv, d9, mk_bs, nI_1]
  have s10 : mk_may σ c i j → ∀ (K : Int32 → Int32 → Int32 → mj_S → Option mj_S) (f : Nat) (v3 : Int32), b_X10_findWhose_78 K (f + 1) (nI i) v3 (nI m) (nI j) β = b_X10_findWhose_111 (b_X10_findWhose_78 K f) (nI i) v3 (nI m) (nI j) D β1 := by
    intro hmay K f v3
    show (if β.1 64 7 ≤ nI j then _ else (f_X10_mayBe β (nI i) (nI j)).bind _) = _
    rw [hβ.c64, if_neg lj, mk_mayBe h hβ qβ hi hj, mk_bs, if_pos hmay, if_neg (show ¬ (1 : Int32) = 0 from by decide), o1, mk_bs]
  have b31 : β1.1 64 31 = β.1 64 31 ∧ β1.1 64 32 = β.1 64 32 ∧ β1.1 64 33 = β.1 64 33 := ⟨o3.1 64 31 (by unfold mk_Zh; omega), o3.1 64 32 (by unfold mk_Zh; omega), o3.1 64 33 (by unfold mk_Zh; omega)⟩
  have r1 : mk_FR (mk_E σ i) c α β1 := by
    unfold mk_FR
    rw [b31.1, b31.2.1, b31.2.2]
    exact r
  rcases dr with ⟨dm, _⟩ | ⟨_, d0, _⟩
  · -- not born
    refine ⟨α, β1, hα, qα, o4, o2, r1, fun K f v6 v7 v8 hv => ?_, fun hmay K f v3 => ?_⟩
    · rw [s9 K f v6 v7 v8 hv, if_pos dm]
    · rw [s10 hmay K f v3]
      unfold b_X10_findWhose_111
      rw [if_pos (show D < 0 from by rw [dm]; decide), nI_1]
  · have hn : ¬ D = -2 := fun e => by
      rw [e] at d0
      exact absurd d0 (by decide)
    have hn0 : ¬ D < 0 := by
      rw [mk_ltt, e0]
      omega
    have take : ∃ α' β', mk_J g c w n k d d2 a α' ∧ mk_fr mk_Zq σ α' ∧ mk_J g c w n k d d2 a β' ∧ mk_fr mk_Zq σ β' ∧ mk_FR (mk_E σ i) c α' β' ∧ (∀ (K : Int32 → Int32 → Int32 → Int32 → Int32 → Int32 → mj_S → Option (Int32 × mj_S)) (f : Nat) (v6 v7 v8 : Int32), b_X3_find_137 (b_X3_find_94 K f) (σ.1 36 i) (σ.1 39 i) v6 v7 v8 (nI m) (nI j) D α = b_X3_find_94 K f (σ.1 36 i) (σ.1 39 i) v6 v7 v8 (nI m) (nI (j + 1)) α') ∧ ∀ (K : Int32 → Int32 → Int32 → mj_S → Option mj_S) (f : Nat) (v3 : Int32), b_X10_findWhose_134 (b_X10_findWhose_78 K f) (nI i) v3 (nI m) (nI j) D β1 = b_X10_findWhose_78 K f (nI i) v3 (nI m) (nI (j + 1)) β' := by
      refine ⟨mj_sI (mj_sI (mj_sI α 40 2 (nI j)) 40 3 (nI m)) 40 4 D, mj_sI (mj_sI (mj_sI β1 64 31 (nI j)) 64 32 (nI m)) 64 33 D, mk_J40 hα _ _ _, ?_, mk_J31 o4 _ _ _, ?_, .inr ⟨j, m, hj, hm, rfl, rfl, rfl, rfl, rfl, hD⟩, fun K f v6 v7 v8 => ?_, fun K f v3 => ?_⟩
      · exact mk_frt (mk_frt (mk_frt qα (mk_frI (by unfold mk_Zq; omega))) (mk_frI (by unfold mk_Zq; omega))) (mk_frI (by unfold mk_Zq; omega))
      · exact mk_frt (mk_frt (mk_frt o2 (mk_frI (by unfold mk_Zq; omega))) (mk_frI (by unfold mk_Zq; omega))) (mk_frI (by unfold mk_Zq; omega))
      · unfold b_X3_find_137
        rw [nI_1]
      · unfold b_X10_findWhose_134
        rw [nI_1]
    obtain ⟨α', β', k1, k2, k3, k4, k5, k6, k7⟩ := take
    rcases r1 with ⟨a1, a2, a3, a4⟩ | ⟨j', m', hj', hm', a1, a2, a3, a4, a5, a6⟩
    · refine ⟨α', β', k1, k2, k3, k4, k5, fun K f v6 v7 v8 hv => ?_, fun hmay K f v3 => ?_⟩
      · rw [s9 K f v6 v7 v8 hv, if_neg hn, if_pos (show α.1 40 2 < 0 from by rw [a1]; decide)]
        exact k6 K f v6 v7 v8
      · rw [s10 hmay K f v3]
        unfold b_X10_findWhose_111
        rw [if_neg hn0, if_pos (show β1.1 64 31 < 0 from by rw [a2]; decide)]
        exact k7 K f v3
    · have n9 : ¬ α.1 40 2 < 0 := by
        rw [a1]
        exact nI_pos (by omega)
      have n10 : ¬ β1.1 64 31 < 0 := by
        rw [a2]
        exact nI_pos (by omega)
      by_cases le : α.1 40 4 ≤ D
      · refine ⟨α, β1, hα, qα, o4, o2, .inr ⟨j', m', hj', hm', a1, a2, a3, a4, a5, a6⟩, fun K f v6 v7 v8 hv => ?_, fun hmay K f v3 => ?_⟩
        · rw [s9 K f v6 v7 v8 hv, if_neg hn, if_neg n9, if_pos le]
        · rw [s10 hmay K f v3]
          unfold b_X10_findWhose_111
          rw [if_neg hn0, if_neg n10, if_pos (by rw [← a5]; exact le), nI_1]
      · refine ⟨α', β', k1, k2, k3, k4, k5, fun K f v6 v7 v8 hv => ?_, fun hmay K f v3 => ?_⟩
        · rw [s9 K f v6 v7 v8 hv, if_neg hn, if_neg n9, if_neg le]
          exact k6 K f v6 v7 v8
        · rw [s10 hmay K f v3]
          unfold b_X10_findWhose_111
          rw [if_neg hn0, if_neg n10, if_neg (by rw [← a5]; exact le)]
          exact k7 K f v3
