-- slips
theorem mk_remN {a b : Nat} (ha : a < 2 ^ 31) (hb : b < 2 ^ 31) (h0 : 0 < b) : mj_rem (nI a) (nI b) = nI (a % b) := by
  have hd : a / b * b ≤ a := Nat.div_mul_le_self a b
  have hm : a / b * b + a % b = a := Nat.div_add_mod' a b
  unfold mj_rem
  rw [mk_divN ha hb h0, mk_mulN]
  exact mk_of (by rw [mk_sub (by rw [nI_toInt (by omega), nI_toInt (by omega)]; omega) (by rw [nI_toInt (by omega), nI_toInt (by omega)]; omega), nI_toInt (by omega), nI_toInt (by omega)]; omega) (by omega)
theorem mk_ushr8 (x : Int32) : 0 ≤ (mj_ushr x 8).toInt := by
  unfold mj_ushr
  have e8 : (8 : Int32).toUInt32 &&& Int32.toUInt32 31 = 8 := by decide
  rw [e8]
  have key : ∀ u : UInt32, 0 ≤ ((u >>> 8).toInt32).toInt := by
    intro u
    have h1 : (u >>> 8).toNat < 2 ^ 31 := by
      rw [UInt32.toNat_shiftRight]
      have h2 : u.toNat < 2 ^ 32 := u.toNat_lt
      show u.toNat >>> 8 < 2 ^ 31
      rw [Nat.shiftRight_eq_div_pow]
      omega
    show 0 ≤ ((u >>> 8).toBitVec).toInt
    rw [BitVec.toInt_eq_toNat_of_lt (by show 2 * (u >>> 8).toNat < 2 ^ 32; omega)]
    exact Int.natCast_nonneg _
  exact key _
def mk_NR (c : Nat) (α : mj_S) (v3 v4 : Int32) : Prop := (α.1 40 2 = -1 ∧ v3 = -2) ∨ (∃ j' : Nat, j' < c ∧ α.1 40 2 = nI j' ∧ v3 = nI j' ∧ α.1 40 4 = v4)
theorem mk_near {g c w n k d d2 a σ} (h : mk_J g c w n k d d2 a σ) {m : Nat} (hm : m < 600) {hv : Int32} (hh : -30000 ≤ hv.toInt ∧ hv.toInt ≤ 30000) : ∀ (f j : Nat) (α β : mj_S) (v3 v4 : Int32), c < f + j → j ≤ c → mk_J g c w n k d d2 a α → mk_fr mk_Zq σ α → mk_J g c w n k d d2 a β → mk_fr mk_Zq σ β → mk_NR c α v3 v4 → ∃ α' β' r r4, mk_J g c w n k d d2 a α' ∧ mk_fr mk_Zq σ α' ∧ mk_J g c w n k d d2 a β' ∧ mk_fr mk_Zq σ β' ∧ mk_NR c α' r r4 ∧
    (∀ (K : Int32 → Int32 → Int32 → Int32 → Int32 → Int32 → mj_S → Option (Int32 × mj_S)) (v6 v7 : Int32), b_X3_find_94 K f hv 0 v6 v7 (nI c - 1) (nI m) (nI j) α = K hv 0 v6 v7 (nI c - 1) (nI m + 1) α') ∧
    b_X10_nearest_9 f hv (nI m) v3 v4 (nI j) β = some (r, β')
  | 0, j, α, β, v3, v4, hf, hj, _, _, _, _, _ => absurd hf (by omega)
  | f + 1, j, α, β, v3, v4, hf, hj, hα, qα, hβ, qβ, r => by
    have hc := h.hc
    have ej : nI j + 1 = nI (j + 1) := nI_add j 1
    have e1 : (nI c - 1).toInt = (c : Int) - 1 := pk_sub_toInt (a := c) (b := 1) (by omega) (by omega)
    unfold b_X3_find_94 b_X10_nearest_9
    rw [hβ.c64]
    by_cases hjc : j = c
    · have l : nI c - 1 < nI j := by rw [mk_ltt, e1, nI_toInt (by omega)]; omega
      have l2 : nI c ≤ nI j := by rw [hjc]; exact nI_le (by omega) (by omega)
      exact ⟨α, β, v3, v4, hα, qα, hβ, qβ, r, fun K v6 v7 => by rw [if_pos l], by rw [if_pos l2]⟩
    have l : ¬ nI c - 1 < nI j := by rw [mk_ltt, e1, nI_toInt (by omega)]; omega
    have l2 : ¬ nI c ≤ nI j := nI_ge (by omega) (by omega)
    obtain ⟨β1, o1, o2, o3⟩ := mk_dist10 hβ (show j < c by omega) hm hh 0
    obtain ⟨D, hD⟩ : ∃ D, D = mk_D σ hv j m 0 := ⟨_, rfl⟩
    have d9 : f_X3_distance α hv (nI j) (nI m) 0 = some D := by
      rw [mk_dist9 hα (by omega) hm, mk_DQ qα _ (by omega), hD]
    have dr := mk_D_r h (show j < c by omega) hm hh 0
    rw [mk_DQ qβ _ (by omega), ← hD] at o1
    rw [← hD] at dr
    have q1 : mk_fr mk_Zq σ β1 := mk_frt qβ (mk_hq o2)
    rw [if_neg l2, o1, mk_bs, ej]
    have e0 : (0 : Int32).toInt = 0 := rfl
    have next : ∀ (α1 : mj_S) (w3 w4 : Int32), mk_J g c w n k d d2 a α1 → mk_fr mk_Zq σ α1 → mk_NR c α1 w3 w4 → ∃ α' β' r r4, mk_J g c w n k d d2 a α' ∧ mk_fr mk_Zq σ α' ∧ mk_J g c w n k d d2 a β' ∧ mk_fr mk_Zq σ β' ∧ mk_NR c α' r r4 ∧
        (∀ (K : Int32 → Int32 → Int32 → Int32 → Int32 → Int32 → mj_S → Option (Int32 × mj_S)) (v6 v7 : Int32), b_X3_find_94 K f hv 0 v6 v7 (nI c - 1) (nI m) (nI (j + 1)) α1 = K hv 0 v6 v7 (nI c - 1) (nI m + 1) α') ∧ b_X10_nearest_9 f hv (nI m) w3 w4 (nI (j + 1)) β1 = some (r, β') :=
      fun α1 w3 w4 x1 x2 x3 => mk_near h hm hh f (j + 1) α1 β1 w3 w4 (by omega) (by omega) x1 x2 o3 q1 x3
    rcases dr with ⟨dm, _⟩ | ⟨_, d0, _⟩
    · obtain ⟨α', β', r', r4, k1, k2, k3, k4, k5, k6, k7⟩ := next α v3 v4 hα qα r
      refine ⟨α', β', r', r4, k1, k2, k3, k4, k5, fun K v6 v7 => ?_, ?_⟩
      · rw [if_neg l, d9, mk_bs, if_pos dm]
        exact k6 K v6 v7
      · rw [if_pos (show D < 0 from by rw [dm]; decide)]
        exact k7
    have hn : ¬ D = -2 := fun e => by
      rw [e] at d0
      exact absurd d0 (by decide)
    have hn0 : ¬ D < 0 := by
      rw [mk_ltt, e0]
      omega
    have jt : mk_J g c w n k d d2 a (mj_sI (mj_sI (mj_sI α 40 2 (nI j)) 40 3 (nI m)) 40 4 D) := mk_J40 hα _ _ _
    have qt : mk_fr mk_Zq σ (mj_sI (mj_sI (mj_sI α 40 2 (nI j)) 40 3 (nI m)) 40 4 D) := mk_frt (mk_frt (mk_frt qα (mk_frI (by unfold mk_Zq; omega))) (mk_frI (by unfold mk_Zq; omega))) (mk_frI (by unfold mk_Zq; omega))
    rw [if_neg hn0]
    rcases r with ⟨a1, a2⟩ | ⟨j', hj', a1, a2, a3⟩
    · obtain ⟨α', β', r', r4, k1, k2, k3, k4, k5, k6, k7⟩ := next _ (nI j) D jt qt (.inr ⟨j, by omega, rfl, rfl, rfl⟩)
      refine ⟨α', β', r', r4, k1, k2, k3, k4, k5, fun K v6 v7 => ?_, ?_⟩
      · rw [if_neg l, d9, mk_bs, if_neg hn, if_pos (show α.1 40 2 < 0 from by rw [a1]; decide)]
        unfold b_X3_find_137
        rw [ej]
        exact k6 K v6 v7
      · rw [if_pos (show v3 < 0 from by rw [a2]; decide)]
        exact k7
    have n9 : ¬ α.1 40 2 < 0 := by
      rw [a1]
      exact nI_pos (by omega)
    have n10 : ¬ v3 < 0 := by
      rw [a2]
      exact nI_pos (by omega)
    rw [if_neg n10]
    by_cases le : α.1 40 4 ≤ D
    · obtain ⟨α', β', r', r4, k1, k2, k3, k4, k5, k6, k7⟩ := next α v3 v4 hα qα (.inr ⟨j', hj', a1, a2, a3⟩)
      refine ⟨α', β', r', r4, k1, k2, k3, k4, k5, fun K v6 v7 => ?_, ?_⟩
      · rw [if_neg l, d9, mk_bs, if_neg hn, if_neg n9, if_pos le]
        exact k6 K v6 v7
      · rw [if_pos (by rw [← a3]; exact le)]
        exact k7
    · obtain ⟨α', β', r', r4, k1, k2, k3, k4, k5, k6, k7⟩ := next _ (nI j) D jt qt (.inr ⟨j, by omega, rfl, rfl, rfl⟩)
      refine ⟨α', β', r', r4, k1, k2, k3, k4, k5, fun K v6 v7 => ?_, ?_⟩
      · rw [if_neg l, d9, mk_bs, if_neg hn, if_neg n9, if_neg le]
        unfold b_X3_find_137
        rw [ej]
        exact k6 K v6 v7
      · rw [if_neg (by rw [← a3]; exact le)]
        exact k7
theorem mk_find83 (f : Nat) (hv v4 v7 v8 : Int32) {m : Nat} (hm : m < 600) (α α' : mj_S) (hK : b_X3_find_94 (b_X3_find_83 (f + 1)) mj_fu hv v4 (nI m) v7 v8 (nI m) v7 α = b_X3_find_83 (f + 1) hv v4 (nI m) v7 v8 (nI m + 1) α') : b_X3_find_83 (f + 2) hv v4 (nI m) v7 v8 (nI m) α = some (if α'.1 40 2 < 0 then 0 else 1, α') := by
  show (if nI m < nI m then _ else b_X3_find_94 (b_X3_find_83 (f + 1)) mj_fu hv v4 (nI m) v7 v8 (nI m) v7 α) = _
  rw [if_neg (nI_nlt (by omega) (by omega)), hK, nI_1]
  show (if nI m < nI (m + 1) then (if α'.1 40 2 < 0 then some ((0 : Int32), α') else some (1, α')) else _) = _
  rw [if_pos (nI_lt (by omega) (by omega))]
  by_cases q : α'.1 40 2 < 0
  · rw [if_pos q, if_pos q]
  · rw [if_neg q, if_neg q]
/-- one slip: found by the class, the nearest by the reference -/
theorem mk_slip {g c w n k d d2 a σ α β} (h : mk_J g c w n k d d2 a σ) {m : Nat} (hm : m < 600) {hv : Int32} (hh : -30000 ≤ hv.toInt ∧ hv.toInt ≤ 30000) (hα : mk_J g c w n k d d2 a α) (qα : mk_fr mk_Zq σ α) (hβ : mk_J g c w n k d d2 a β) (qβ : mk_fr mk_Zq σ β) : ∃ α' β' r r4, mk_J g c w n k d d2 a α' ∧ mk_fr mk_Zq σ α' ∧ mk_J g c w n k d d2 a β' ∧ mk_fr mk_Zq σ β' ∧ mk_NR c α' r r4 ∧ f_X3_find α hv 6 (nI m) 0 = some (if α'.1 40 2 < 0 then 0 else 1, α') ∧ f_X10_nearest β hv (nI m) = some (r, β') := by
  have hc := h.hc
  obtain ⟨α0, hα0⟩ : ∃ α0, α0 = mj_sI α 40 2 (-1) := ⟨_, rfl⟩
  have jα : mk_J g c w n k d d2 a α0 := by
    rw [hα0]
    exact mk_JQ hα (mk_frI (by unfold mk_Zq; omega)) hα.grown
  have fα : mk_fr mk_Zq σ α0 := by rw [hα0]; exact mk_frt qα (mk_frI (by unfold mk_Zq; omega))
  have a2 : α0.1 40 2 = -1 := by rw [hα0]; rfl
  obtain ⟨α', β', r, r4, k1, k2, k3, k4, k5, k6, k7⟩ := mk_near h hm hh mj_fu 0 α0 β (-2) 0 (by show c < 5000 + 0; omega) (by omega) jα fα hβ qβ (.inl ⟨a2, rfl⟩)
  rw [nI_0] at k6 k7
  refine ⟨α', β', r, r4, k1, k2, k3, k4, k5, ?_, k7⟩
  have no : f_X2_has α0 6 = 0 := by
    rw [mk_has2 jα]
    have e6 : (6 : Int32).toInt = 6 := rfl
    rw [e6]
    exact mk_bt0.mpr (by omega)
  have mo : ¬ f_X9_isMonth α0 (nI m) = 0 := by
    rw [mk_month9]
    exact mk_btn (by rw [nI_toInt (by omega)]; omega)
  have z := mk_find83 4998 hv 0 0 (nI c - 1) hm α0 α' (k6 (b_X3_find_83 4999) (nI m) 0)
  unfold f_X3_find
  rw [← hα0, if_neg mo]
  unfold b_X3_find_17
  rw [if_neg mo]
  unfold b_X3_find_33 b_X3_find_51 f_X2_size
  rw [if_pos no, if_pos no, jα.c9]
  exact z
theorem mk_slipL {g c w n k d d2 a σ} (h : mk_J g c w n k d d2 a σ) {j m H p P : Nat} (hj : j < c) (hm : m < 600) (hH : H ≤ 8000) (eH : σ.1 (19 + j) m = nI H) (hp : p ≤ 99) (hP : P < 2 ^ 31) (hN : P / 100 ≤ 50) : ∀ (f t : Nat) (s cnt : Int32) (α β : mj_S), 50 < f + t → t ≤ P / 100 → mk_J g c w n k d d2 a α → mk_fr mk_Zq σ α → mk_J g c w n k d d2 a β → mk_fr mk_Zq σ β → ∃ x α' β', b_X3_slipsFound_32 f (nI j) (nI m) (nI (P / 100)) (nI p) (nI H) (nI (2 * p + 1)) s cnt (nI t) α = some (x, α') ∧ b_X10_slips_67 f (nI j) (nI m) (nI P) (nI p) s cnt (nI t) β = some (x, β') ∧ mk_J g c w n k d d2 a α' ∧ mk_fr mk_Zq σ α' ∧ mk_J g c w n k d d2 a β'
  | 0, t, s, cnt, α, β, hf, ht, _, _, _, _ => absurd hf (by omega)
  | f + 1, t, s, cnt, α, β, hf, ht, hα, qα, hβ, qβ => by
    have hc := h.hc
    unfold b_X3_slipsFound_32 b_X10_slips_67
    have ed : nI P / 100 = nI (P / 100) := mk_divN (b := 100) hP (by omega) (by omega)
    rw [ed]
    by_cases htN : t = P / 100
    · have l : nI (P / 100) ≤ nI t := by rw [htN]; exact nI_le (by omega) (by omega)
      exact ⟨cnt, α, β, by rw [if_pos l], by rw [if_pos l], hα, qα, hβ⟩
    have l : ¬ nI (P / 100) ≤ nI t := nI_ge (by omega) (by omega)
    have e2 : 2 * nI p + 1 = nI (2 * p + 1) := by
      show nI 2 * nI p + nI 1 = _
      rw [mk_mulN, nI_add]
    have y0 : ¬ nI (2 * p + 1) = 0 := fun e => by
      have := (nI_eq (a := 2 * p + 1) (b := 0) (by omega) (by omega)).mp e
      omega
    obtain ⟨u, hu⟩ : ∃ u, u = mj_ushr ((s * 1103515245) + 12345) 8 := ⟨_, rfl⟩
    have u0 : 0 ≤ u.toInt := by rw [hu]; exact mk_ushr8 _
    have eu : u = nI u.toInt.toNat := mk_ofNN u0
    have ul : u.toInt.toNat < 2 ^ 31 := by
      have : u.toInt < 2 ^ 31 := Int32.toInt_lt u
      omega
    have er : mj_rem u (nI (2 * p + 1)) = nI (u.toInt.toNat % (2 * p + 1)) := by
      have := mk_remN (a := u.toInt.toNat) (b := 2 * p + 1) ul (by omega) (by omega)
      rw [← eu] at this
      exact this
    have hr : u.toInt.toNat % (2 * p + 1) < 2 * p + 1 := Nat.mod_lt _ (by omega)
    obtain ⟨r, hrr⟩ : ∃ r, r = u.toInt.toNat % (2 * p + 1) := ⟨_, rfl⟩
    rw [← hrr] at er hr
    obtain ⟨hv, ehv⟩ : ∃ hv, hv = nI H + (nI r - nI p) := ⟨_, rfl⟩
    have hh : -30000 ≤ hv.toInt ∧ hv.toInt ≤ 30000 := by
      have x1 : (nI r - nI p).toInt = (r : Int) - p := pk_sub_toInt (a := r) (b := p) (by omega) (by omega)
      have x2 : hv.toInt = (H : Int) + (r - p) := by
        rw [ehv, mk_add (by rw [x1, nI_toInt (by omega)]; omega) (by rw [x1, nI_toInt (by omega)]; omega), x1, nI_toInt (by omega)]
      rw [x2]
      omega
    have ev : nI H + nI r - nI p = hv := by
      rw [ehv, Int32.sub_eq_add_neg, Int32.sub_eq_add_neg, Int32.add_assoc]
    obtain ⟨β1, t1, t2, t3, t4⟩ := mk_heightQ hβ qβ hj hm
    obtain ⟨α', β', q, q4, k1, k2, k3, k4, k5, k6, k7⟩ := mk_slip h hm hh hα qα t4 t2
    have next : ∀ cnt, ∃ x α'' β'', b_X3_slipsFound_32 f (nI j) (nI m) (nI (P / 100)) (nI p) (nI H) (nI (2 * p + 1)) ((s * 1103515245) + 12345) cnt (nI (t + 1)) α' = some (x, α'') ∧ b_X10_slips_67 f (nI j) (nI m) (nI P) (nI p) ((s * 1103515245) + 12345) cnt (nI (t + 1)) β' = some (x, β'') ∧ mk_J g c w n k d d2 a α'' ∧ mk_fr mk_Zq σ α'' ∧ mk_J g c w n k d d2 a β'' :=
      fun cnt => mk_slipL h hj hm hH eH hp hP hN f (t + 1) _ cnt α' β' (by omega) (by omega) k1 k2 k3 k4
    rw [if_neg l, if_neg y0, if_neg l, ← hu, er, ← ehv, k6, mk_bs, t1, mk_bs, e2, if_neg y0, eH]
    show ∃ x α'' β'', _ ∧ ((f_X10_nearest β1 ((nI H + mj_rem u (nI (2 * p + 1))) - nI p) (nI m)).bind _) = _ ∧ _
    rw [er, ev, k7, mk_bs, nI_1]
    rcases k5 with ⟨a1, a2⟩ | ⟨j', hj', a1, a2, _⟩
    · have hne : ¬ q = nI j := fun e => by
        rw [a2] at e
        have := congrArg Int32.toInt e
        rw [nI_toInt (by omega)] at this
        have z : (-2 : Int32).toInt = -2 := rfl
        omega
      have lt0 : α'.1 40 2 < 0 := by rw [a1]; decide
      obtain ⟨x, α'', β'', o1, o2, o3⟩ := next cnt
      refine ⟨x, α'', β'', ?_, ?_, o3⟩
      · rw [if_pos lt0]
        exact o1
      · show (if q = nI j then _ else _) = _
        rw [if_neg hne, Int32.add_zero]
        exact o2
    · have lt0 : ¬ α'.1 40 2 < 0 := by
        rw [a1]
        exact nI_pos (by omega)
      rw [if_neg lt0]
      by_cases e : j' = j
      · obtain ⟨x, α'', β'', o1, o2, o3⟩ := next (cnt + 1)
        refine ⟨x, α'', β'', ?_, ?_, o3⟩
        · show (if α'.1 40 2 = nI j then _ else _) = _
          rw [if_pos (by rw [a1, e])]
          exact o1
        · show (if q = nI j then _ else _) = _
          rw [if_pos (by rw [a2, e])]
          exact o2
      · have hne : ¬ nI j' = nI j := fun z => e ((nI_eq (by omega) (by omega)).mp z)
        obtain ⟨x, α'', β'', o1, o2, o3⟩ := next cnt
        refine ⟨x, α'', β'', ?_, ?_, o3⟩
        · show (if α'.1 40 2 = nI j then _ else _) = _
          rw [if_neg (by rw [a1]; exact hne)]
          exact o1
        · show (if q = nI j then _ else _) = _
          rw [if_neg (by rw [a2]; exact hne), Int32.add_zero]
          exact o2
theorem op_slips (σ : mj_S) (x0 x1 x2 x3 : Int32) : mk_I σ → ∃ (v : Int32) (σ1 σ2 : mj_S), f_X9_slips σ x0 x1 x2 x3 = some (v, σ1) ∧ f_X10_slips σ1 x0 x1 x2 x3 = some (v, σ2) ∧ mk_I σ2 := by
  rintro ⟨g, c, w, n, k, d, d2, a, h⟩
  have hI : mk_I σ := ⟨g, c, w, n, k, d, d2, a, h⟩
  have hc := h.hc
  have e1 : (1 : Int32).toInt = 1 := rfl
  have e50 : (50 : Int32).toInt = 50 := rfl
  have f1 : (1 : Int64).toInt = 1 := rfl
  have f50 : (50 : Int64).toInt = 50 := rfl
  unfold f_X9_slips f_X10_slips
  simp only [mk_has2 h, mk_month9, mk_month10, mk_w9, mk_lit64, e1, e50, f1, f50]
  by_cases h1 : mk_bt x0.toInt 0 (c - 1) = 0
  · exact ⟨_, σ, σ, by rw [if_pos h1], by rw [mk_child10 h, if_pos h1], hI⟩
  simp only [if_neg h1]
  by_cases h2 : mk_bt x1.toInt 0 599 = 0
  · exact ⟨_, σ, σ, by rw [if_pos h2], by rw [mk_child10 h, if_neg h1, if_pos h2], hI⟩
  simp only [if_neg h2]
  by_cases h3 : x3 < 0
  · exact ⟨_, σ, σ, by rw [if_pos h3], by rw [mk_child10 h, if_neg h1, if_pos h3], hI⟩
  simp only [if_neg h3]
  by_cases h4 : mk_bt (x3 / 100).toInt 1 50 = 0
  · exact ⟨_, σ, σ, by rw [if_pos h4], by rw [mk_child10 h, if_neg h1, if_pos h4], hI⟩
  simp only [if_neg h4]
  obtain ⟨j, hj, rfl⟩ := mk_bt_of (x := x0) (n := c) (mk_in_of h1) (by omega)
  have i2 := mk_in_of h2
  obtain ⟨m, hm⟩ : ∃ m, m = x1.toInt.toNat := ⟨_, rfl⟩
  have em : x1 = nI m := by rw [hm]; exact mk_ofNN i2.1
  have hm6 : m < 600 := by omega
  have x30 : 0 ≤ x3.toInt := by
    have e0 : (0 : Int32).toInt = 0 := rfl
    rw [mk_ltt, e0] at h3
    omega
  obtain ⟨P, hP⟩ : ∃ P, P = x3.toInt.toNat := ⟨_, rfl⟩
  have eP : x3 = nI P := by rw [hP]; exact mk_ofNN x30
  have Pl : P < 2 ^ 31 := by
    have : x3.toInt < 2 ^ 31 := Int32.toInt_lt x3
    omega
  have ed : nI P / 100 = nI (P / 100) := mk_divN (b := 100) Pl (by omega) (by omega)
  have er : mj_rem (nI P) 100 = nI (P % 100) := mk_remN (b := 100) Pl (by omega) (by omega)
  have i4 := mk_in_of h4
  rw [eP, ed, nI_toInt (by omega)] at i4
  have p99 : P % 100 ≤ 99 := by omega
  obtain ⟨b0, hb0, eb, H, hH, eH⟩ := mk_hr h hj hm6
  have kd := h.kid j hj
  by_cases h5 : m < b0
  · refine ⟨-2, σ, σ, ?_, ?_, hI⟩
    · rw [(mk_born9 h hj _).1, mk_bs, em, eb, if_pos (nI_lt h5 (by omega)), if_pos rfl]
    · rw [mk_child10 h, if_neg h1, if_pos (mk_in7 (by omega)), nI_clamp (by omega), ← kd.born, eb, em, if_neg (nI_ge h5 (by omega))]
  have born : f_X2_isBorn σ (nI j) x1 = some 1 := by
    rw [(mk_born9 h hj _).1, em, eb, if_neg (nI_nlt (by omega) (by omega))]
  have mx : mj_max 1 (2 * nI (P % 100) + 1) = nI (2 * (P % 100) + 1) := by
    have e2 : 2 * nI (P % 100) + 1 = nI (2 * (P % 100) + 1) := by
      show nI 2 * nI (P % 100) + nI 1 = _
      rw [mk_mulN, nI_add]
    rw [e2]
    unfold mj_max
    by_cases q : (1 : Int32) < nI (2 * (P % 100) + 1)
    · rw [if_pos q]
    · rw [if_neg q]
      by_cases q2 : P % 100 = 0
      · rw [q2]
        rfl
      · exact absurd (nI_lt (a := 1) (b := 2 * (P % 100) + 1) (by omega) (by omega)) q
  have fr0 : mk_fr mk_Zq σ σ := ⟨fun _ _ _ => rfl, rfl⟩
  obtain ⟨x, α, _, o1, _, jα, qα, _⟩ := mk_slipL h hj hm6 hH eH p99 Pl (by omega) mj_fu 0 x2 0 σ σ (by show 50 < 5000 + 0; omega) (by omega) h fr0 h fr0
  obtain ⟨x', α', β, o1', o2, _, _, jβ⟩ := mk_slipL h hj hm6 hH eH p99 Pl (by omega) mj_fu 0 x2 0 σ α (by show 50 < 5000 + 0; omega) (by omega) h fr0 jα qα
  have hv := Option.some.inj (o1.symm.trans o1')
  obtain rfl : x = x' := congrArg Prod.fst hv
  rw [nI_0] at o1 o2
  refine ⟨x, α, β, ?_, ?_, g, c, w, n, k, d, d2, a, jβ⟩
  · rw [born, mk_bs, if_neg (by decide), eP, ed, er]
    unfold f_X3_slipsFound
    rw [em, mk_h9 h hj hm6, mk_bs, eH, mx, o1, mk_bs]
  · rw [mk_child10 jα, if_neg h1, if_pos (mk_in7 (by omega)), nI_clamp (by omega), qα.1 69 j (by unfold mk_Zq; omega), ← kd.born, eb, em, if_pos (nI_le (by omega) (by omega)), eP, er]
    exact o2
