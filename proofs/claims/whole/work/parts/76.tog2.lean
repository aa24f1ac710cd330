-- together: the class's rows
def mk_Dt (σ : mj_S) (m : Nat) (q : Nat → Nat) (t e : Nat) : Nat := (mk_D σ (σ.1 36 (q t)) e m (σ.1 39 (q t))).toInt.toNat
def mk_Bt (σ : mj_S) (m e : Nat) : Prop := ¬ nI m < σ.1 10 e
theorem mk_Dt_eq {g c w n k d d2 a σ} (h : mk_J g c w n k d d2 a σ) {m e t : Nat} {q : Nat → Nat} (hm : m < 600) (he : e < c) (ht : q t < k) : (mk_Bt σ m e → mk_D σ (σ.1 36 (q t)) e m (σ.1 39 (q t)) = nI (mk_Dt σ m q t e)) ∧ (¬ mk_Bt σ m e → mk_D σ (σ.1 36 (q t)) e m (σ.1 39 (q t)) = -2) ∧ mk_Dt σ m q t e ≤ 100000 := by
  unfold mk_Dt mk_Bt
  rcases mk_D_r h he hm (mk_r_in (h.mark (q t) ht).rh (by omega)) (σ.1 39 (q t)) with ⟨r, b⟩ | ⟨b, r1, r2⟩
  · refine ⟨fun z => absurd b z, fun _ => r, ?_⟩
    rw [r]
    decide
  · exact ⟨fun _ => mk_ofNN r1, fun z => absurd b z, by omega⟩
theorem mk_sm_le {g c w n k d d2 a σ} (h : mk_J g c w n k d d2 a σ) {m G : Nat} {q : Nat → Nat} (hm : m < 600) (hc0 : 0 < c) (hq : ∀ u, u < G → q u < k) : ∀ t p, t ≤ G → mk_sm c (mk_Dt σ m q) t p ≤ 100000 * t
  | 0, p, _ => by show 0 ≤ _; omega
  | t + 1, p, ht => by
    have ih := mk_sm_le h hm hc0 hq t (p / c) (by omega)
    have := (mk_Dt_eq h hm (Nat.mod_lt p hc0) (hq t (by omega))).2.2
    show mk_sm c (mk_Dt σ m q) t (p / c) + mk_Dt σ m q t (p % c) ≤ _
    omega
theorem mk_tried {G : Nat} (hG : G ≤ 4) (e : Nat) (α : mj_S) (h6 : α.1 40 6 = nI G) : ∀ (f s : Nat), G < f + s → s ≤ G → ((∃ u, s ≤ u ∧ u < G ∧ α.1 42 u = nI e) ∧ b_X3_isTriedBehind_8 α f (nI e) (nI s) = some 1) ∨ ((∀ u, s ≤ u → u < G → α.1 42 u ≠ nI e) ∧ b_X3_isTriedBehind_8 α f (nI e) (nI s) = some 0)
  | 0, s, hf, hs => absurd hf (by omega)
  | f + 1, s, hf, hs => by
    unfold b_X3_isTriedBehind_8
    rw [h6]
    by_cases hsG : s = G
    · exact .inr ⟨fun u h1 h2 => absurd h1 (by omega), by rw [if_pos (by rw [hsG]; exact nI_le (by omega) (by omega))]⟩
    have i4 : 0 ≤ (nI s).toInt ∧ (nI s).toInt < 4 := by
      rw [nI_toInt (by omega)]
      omega
    rw [if_neg (nI_ge (by omega) (by omega)), if_neg (show ¬ (4 : Int32) ≤ nI s from nI_ge (a := s) (b := 4) (by omega) (by omega)), if_pos i4, nI_clamp (by omega), nI_1]
    by_cases q : α.1 42 s = nI e
    · rw [if_pos q]
      exact .inl ⟨⟨s, by omega, by omega, q⟩, rfl⟩
    · rw [if_neg q]
      rcases mk_tried hG e α h6 f (s + 1) (by omega) (by omega) with ⟨⟨u, u1, u2, u3⟩, r⟩ | ⟨no, r⟩
      · exact .inl ⟨⟨u, by omega, u2, u3⟩, r⟩
      · refine .inr ⟨fun u h1 h2 => ?_, r⟩
        by_cases z : u = s
        · rw [z]
          exact q
        · exact no u (by omega) h2
theorem mk_sumLoop {g c w n k d d2 a σ} (h : mk_J g c w n k d d2 a σ) {m G r : Nat} {q : Nat → Nat} (hm : m < 600) (hc0 : 0 < c) (hG : G ≤ 4) (hq : ∀ u, u < G → q u < k) (hr : r < 2 ^ 31) : ∀ (t f : Nat) (α : mj_S), t < f → t ≤ G → mk_fr mk_Zs σ α → α.1 40 6 = nI G → (∀ u, u < G → α.1 41 u = nI (q u)) → (∀ u, t ≤ u → u < G → α.1 42 u = nI (mk_dg c G r u)) → (∀ u, t ≤ u → u < G → mk_Bt σ m (mk_dg c G r u)) → (∀ v, v < G → ∀ u, t ≤ u → u < v → mk_dg c G r u ≠ mk_dg c G r v) →
    ∃ α' x, b_X3_sumOfRow_30 f (nI m) (nI c) (nI (r / c ^ (G - t))) (nI (mk_sm c (mk_Dt σ m q) G r - mk_sm c (mk_Dt σ m q) t (r / c ^ (G - t)))) (nI t - 1) α = some (x, α') ∧ mk_fr (mk_Z1 42) α α' ∧ ((mk_ok c (mk_Bt σ m) G r ∧ x = nI (mk_sm c (mk_Dt σ m q) G r) ∧ ∀ u, u < G → α'.1 42 u = nI (mk_dg c G r u)) ∨ (¬ mk_ok c (mk_Bt σ m) G r ∧ x = -2))
  | 0, f, α, hf, ht, fr, h6, h41, h42, hB, hD => by
    cases f with
    | zero => exact absurd hf (by omega)
    | succ f =>
      unfold b_X3_sumOfRow_30
      refine ⟨α, _, if_pos (by decide), ⟨fun _ _ _ => rfl, rfl⟩, .inl ⟨(mk_ok_iff c _ G r).mpr ⟨fun u hu => hB u (by omega) hu, fun v hv u hu => hD v hv u (by omega) hu⟩, rfl, fun u hu => h42 u (by omega) hu⟩⟩
  | t + 1, f, α, hf, ht, fr, h6, h41, h42, hB, hD => by
    cases f with
    | zero => exact absurd hf (by omega)
    | succ f =>
      have hc := h.hc
      have jα := mk_JS h fr
      obtain ⟨p, hp⟩ : ∃ p, p = r / c ^ (G - (t + 1)) := ⟨_, rfl⟩
      have hpl : p < 2 ^ 31 := by
        have : r / c ^ (G - (t + 1)) ≤ r := Nat.div_le_self _ _
        omega
      have hp' : r / c ^ (G - t) = p / c := by
        rw [hp, show G - t = (G - (t + 1)) + 1 by omega, Nat.pow_succ, ← Nat.div_div_eq_div_mul]
      have hpc : p % c < c := Nat.mod_lt p hc0
      have hdg : mk_dg c G r t = p % c := by
        have := mk_dg_up c (G - (t + 1)) (t + 1) r t (by omega)
        rw [show t + 1 + (G - (t + 1)) = G by omega, ← hp] at this
        rw [this]
        exact if_pos rfl
      have i4 : 0 ≤ (nI t).toInt ∧ (nI t).toInt < 4 := by
        rw [nI_toInt (by omega)]
        omega
      have n0 : ¬ nI t < (0 : Int32) := nI_nlt (a := t) (b := 0) (by omega) (by omega)
      have cz : ¬ nI c = (0 : Int32) := fun e => by
        have := (nI_eq (a := c) (b := 0) (by omega) (by omega)).mp e
        omega
      have tt := mk_m9 jα (hq t (by omega))
      have e36 : α.1 36 (q t) = σ.1 36 (q t) := fr.1 36 _ (by unfold mk_Zs; omega)
      have e39 : α.1 39 (q t) = σ.1 39 (q t) := fr.1 39 _ (by unfold mk_Zs; omega)
      have dd := mk_Dt_eq h hm hpc (hq t (by omega))
      unfold b_X3_sumOfRow_30
      rw [nI_pred, ← hp, if_neg n0, if_neg cz, if_neg cz, if_pos i4, nI_clamp (by omega), h41 t (by omega), tt.1, mk_bs, tt.2.1, mk_bs, mk_remN hpl (by omega) hc0, mk_divN hpl (by omega) hc0, mk_dist9 jα hpc hm, mk_bs, mk_DQ (mk_sq fr) _ (by omega), e36, e39]
      by_cases b : mk_Bt σ m (p % c)
      · have dv := dd.1 b
        have ne : ¬ nI (mk_Dt σ m q t (p % c)) = (-2 : Int32) := fun e => by
          have := congrArg Int32.toInt e
          have z : (-2 : Int32).toInt = -2 := rfl
          rw [nI_toInt (by omega), z] at this
          omega
        rw [dv, if_neg ne]
        have tr : f_X3_isTriedBehind α (nI t) (nI (p % c)) = b_X3_isTriedBehind_8 α mj_fu (nI (p % c)) (nI (t + 1)) := by
          unfold f_X3_isTriedBehind
          have mx : mj_max (-1) (nI t) = nI t := by
            unfold mj_max
            rw [if_pos ?_]
            rw [mk_ltt, nI_toInt (by omega)]
            show (-1 : Int) < _
            omega
          rw [mx, nI_1]
        rcases mk_tried hG (p % c) α h6 mj_fu (t + 1) (by show G < 5000 + (t + 1); omega) (by omega) with ⟨⟨u, u1, u2, u3⟩, z⟩ | ⟨no, z⟩
        · rw [tr, z, mk_bs, if_neg (by decide)]
          refine ⟨α, -2, rfl, ⟨fun _ _ _ => rfl, rfl⟩, .inr ⟨fun ok => ?_, rfl⟩⟩
          have ok' := ((mk_ok_iff c _ G r).mp ok).2 u u2 t (by omega)
          rw [h42 u (by omega) u2] at u3
          have du : mk_dg c G r u < c := by
            have := mk_dg_up c (G - (u + 1)) (u + 1) r u (by omega)
            rw [show u + 1 + (G - (u + 1)) = G by omega] at this
            rw [this]
            show (if u = u then _ else _) < c
            rw [if_pos rfl]
            exact Nat.mod_lt _ hc0
          have := (nI_eq (by omega) (by omega)).mp u3
          rw [hdg, this] at ok'
          exact ok' rfl
        · rw [tr, z, mk_bs, if_pos rfl, if_pos i4]
          have sle := mk_sm_le h hm hc0 hq G r (by omega)
          have sup := mk_sm_up c (mk_Dt σ m q) (G - (t + 1)) (t + 1) r
          rw [show t + 1 + (G - (t + 1)) = G by omega, ← hp] at sup
          have sdef : mk_sm c (mk_Dt σ m q) (t + 1) p = mk_sm c (mk_Dt σ m q) t (p / c) + mk_Dt σ m q t (p % c) := rfl
          have e5 : nI (mk_sm c (mk_Dt σ m q) G r - mk_sm c (mk_Dt σ m q) (t + 1) p) + nI (mk_Dt σ m q t (p % c)) = nI (mk_sm c (mk_Dt σ m q) G r - mk_sm c (mk_Dt σ m q) t (p / c)) := by
            rw [nI_add]
            congr 1
            omega
          have em : nI t + (-1 : Int32) = nI t - 1 := (Int32.sub_eq_add_neg _ _).symm
          rw [e5, em]
          have u42 : ∀ u, (mj_sI α 42 t (nI (p % c))).1 42 u = if u = t then nI (p % c) else α.1 42 u := fun u => by
            rw [mk_g]
            by_cases y : u = t
            · rw [if_pos ⟨rfl, y⟩, if_pos y]
            · rw [if_neg (fun x => y x.2), if_neg y]
          obtain ⟨α', x, o1, o2, o3⟩ := mk_sumLoop h hm hc0 hG hq hr t f (mj_sI α 42 t (nI (p % c))) (by omega) (by omega) (mk_frt fr (mk_frI (by unfold mk_Zs; omega))) h6 (fun u hu => h41 u hu) (fun u h1 h2 => by
            rw [u42]
            by_cases y : u = t
            · rw [if_pos y, y, hdg]
            · rw [if_neg y]
              exact h42 u (by omega) h2) (fun u h1 h2 => by
            by_cases y : u = t
            · rw [y, hdg]
              exact b
            · exact hB u (by omega) h2) (fun v hv u h1 h2 => by
            by_cases y : u = t
            · intro e
              rw [y, hdg] at e
              exact no v (by omega) hv (by rw [h42 v (by omega) hv, e])
            · exact hD v hv u (by omega) h2)
          rw [hp'] at o1
          exact ⟨α', x, o1, mk_frt (mk_frI rfl) o2, o3⟩
      · rw [dd.2.1 b, if_pos rfl]
        refine ⟨α, -2, rfl, ⟨fun _ _ _ => rfl, rfl⟩, .inr ⟨fun ok => ?_, rfl⟩⟩
        have := ((mk_ok_iff c _ G r).mp ok).1 t (by omega)
        rw [hdg] at this
        exact b this
theorem mk_smB {g c w n k d d2 a σ} (h : mk_J g c w n k d d2 a σ) {m G : Nat} {q : Nat → Nat} (hm : m < 600) (hG : G ≤ 4) (hq : ∀ u, u < G → q u < k) {j r : Nat} (hj : j ≤ G) (hr : r < c ^ j) : mk_sm c (mk_Dt σ m q) j r ≤ 400000 := by
  by_cases hj0 : j = 0
  · rw [hj0]
    show 0 ≤ 400000
    omega
  · have hc0 : 0 < c := by
      by_cases z : c = 0
      · rw [z, Nat.zero_pow (by omega)] at hr
        omega
      · omega
    have := mk_sm_le h hm hc0 hq j r hj
    omega
theorem mk_bestB {g c w n k d d2 a σ} (h : mk_J g c w n k d d2 a σ) {m G : Nat} {q : Nat → Nat} (hm : m < 600) (hG : G ≤ 4) (hq : ∀ u, u < G → q u < k) : ∀ r s r', r ≤ c ^ G → mk_best (mk_ok c (mk_Bt σ m) G) (mk_sm c (mk_Dt σ m q) G) r = some (s, r') → s ≤ 400000
  | 0, s, r', _, e => absurd e (by intro z; cases z)
  | r + 1, s, r', hr, e => by
    by_cases y : mk_ok c (mk_Bt σ m) G r ∧ ∀ s r', mk_best (mk_ok c (mk_Bt σ m) G) (mk_sm c (mk_Dt σ m q) G) r = some (s, r') → mk_sm c (mk_Dt σ m q) G r < s
    · rw [mk_best_yes y] at e
      have e1 : mk_sm c (mk_Dt σ m q) G r = s := congrArg Prod.fst (Option.some.inj e)
      have := mk_smB h hm hG hq (Nat.le_refl G) (show r < c ^ G by omega)
      omega
    · rw [mk_best_no y] at e
      exact mk_bestB h hm hG hq r s r' (by omega) e
/-- the best so far, as the class keeps it -/
def mk_M9 (c G : Nat) (b : Option (Nat × Nat)) (v3 : Int32) (α : mj_S) : Prop := (b = none ∧ v3 = 0) ∨ ∃ s r, b = some (s, r) ∧ v3 = 1 ∧ α.1 40 9 = nI s ∧ ∀ u, u < G → α.1 43 u = nI (mk_dg c G r u)
theorem mk_share9 {g c w n k d d2 a σ} (h : mk_J g c w n k d d2 a σ) {m G : Nat} {q : Nat → Nat} (hm : m < 600) (hG : G ≤ 4) (hq : ∀ u, u < G → q u < k) (hN : c ^ G ≤ 1296) : ∀ (f r : Nat) (v3 : Int32) (α : mj_S), 1296 < f + r → r ≤ c ^ G → mk_fr mk_Zs σ α → α.1 40 6 = nI G → (∀ u, u < G → α.1 41 u = nI (q u)) → mk_M9 c G (mk_best (mk_ok c (mk_Bt σ m) G) (mk_sm c (mk_Dt σ m q) G) r) v3 α →
    ∃ α' x, b_X3_shareOut_33 f (nI m) (nI (c ^ G)) v3 (nI r) α = some (mj_zb x, α') ∧ mk_fr mk_Zs σ α' ∧ α'.1 40 6 = nI G ∧ mk_M9 c G (mk_best (mk_ok c (mk_Bt σ m) G) (mk_sm c (mk_Dt σ m q) G) (c ^ G)) x α'
  | 0, r, v3, α, hf, hr, _, _, _, _ => absurd hf (by omega)
  | f + 1, r, v3, α, hf, hr, fr, h6, h41, hM => by
    have hc := h.hc
    unfold b_X3_shareOut_33
    by_cases hrN : r = c ^ G
    · rw [hrN] at hM
      exact ⟨α, v3, by rw [if_pos (by rw [hrN]; exact nI_le (by omega) (by omega))], fr, h6, hM⟩
    rw [if_neg (nI_ge (by omega) (by omega)), nI_1]
    have jα := mk_JS h fr
    have hs : ∃ α1 x, f_X3_sumOfRow α (nI r) (nI m) = some (x, α1) ∧ mk_fr (mk_Z1 42) α α1 ∧ ((mk_ok c (mk_Bt σ m) G r ∧ x = nI (mk_sm c (mk_Dt σ m q) G r) ∧ ∀ u, u < G → α1.1 42 u = nI (mk_dg c G r u)) ∨ (¬ mk_ok c (mk_Bt σ m) G r ∧ x = -2)) := by
      unfold f_X3_sumOfRow f_X2_size
      rw [jα.c9, h6]
      have mn : mj_min (nI G) 4 = nI G := by
        unfold mj_min
        rw [if_neg (show ¬ (4 : Int32) < nI G from nI_nlt (a := 4) (b := G) hG (by omega))]
      rw [mn]
      by_cases hG0 : G = 0
      · rw [hG0]
        refine ⟨α, 0, ?_, ⟨fun _ _ _ => rfl, rfl⟩, .inl ⟨trivial, rfl, fun u hu => absurd hu (by omega)⟩⟩
        show (if nI 0 - 1 < 0 then some ((0 : Int32), α) else _) = _
        rw [if_pos (by decide)]
      · have hc0 : 0 < c := by
          by_cases z : c = 0
          · rw [z, Nat.zero_pow (by omega)] at hr hrN
            omega
          · omega
        have mx : mj_max 1 (nI c) = nI c := by
          unfold mj_max
          by_cases z : (1 : Int32) < nI c
          · rw [if_pos z]
          · rw [if_neg z]
            by_cases z2 : c = 1
            · rw [z2]
              rfl
            · exact absurd (nI_lt (a := 1) (b := c) (by omega) (by omega)) z
        rw [mx]
        obtain ⟨α', x, o1, o2, o3⟩ := mk_sumLoop (r := r) h hm hc0 hG hq (by omega) G mj_fu α (by show G < 5000; omega) (by omega) fr h6 h41 (fun u h1 h2 => absurd h1 (by omega)) (fun u h1 h2 => absurd h1 (by omega)) (fun v hv u h1 h2 => absurd h1 (by omega))
        rw [Nat.sub_self, Nat.pow_zero, Nat.div_one, Nat.sub_self, nI_0] at o1
        exact ⟨α', x, o1, o2, o3⟩
    obtain ⟨α1, x, s1, s2, s3⟩ := hs
    have fr1 : mk_fr mk_Zs σ α1 := mk_frt fr (mk_frw s2 (fun x y z => by unfold mk_Z1 at z; unfold mk_Zs; omega))
    have h61 : α1.1 40 6 = nI G := (s2.1 40 6 (by unfold mk_Z1; omega)).trans h6
    have h411 : ∀ u, u < G → α1.1 41 u = nI (q u) := fun u hu => (s2.1 41 u (by unfold mk_Z1; omega)).trans (h41 u hu)
    have h409 : α1.1 40 9 = α.1 40 9 := s2.1 40 9 (by unfold mk_Z1; omega)
    have h43 : ∀ u, α1.1 43 u = α.1 43 u := fun u => s2.1 43 u (by unfold mk_Z1; omega)
    rw [s1, mk_bs]
    show ∃ α' y, (if x = -2 then b_X3_shareOut_33 f (nI m) (nI (c ^ G)) v3 (nI (r + 1)) α1 else if v3 = 0 then b_X3_shareOut_68 (b_X3_shareOut_33 f) (nI m) (nI (c ^ G)) (nI r) x α1 else if α1.1 40 9 ≤ x then b_X3_shareOut_33 f (nI m) (nI (c ^ G)) v3 (nI (r + 1)) α1 else b_X3_shareOut_68 (b_X3_shareOut_33 f) (nI m) (nI (c ^ G)) (nI r) x α1) = some (mj_zb y, α') ∧ _
    have keep : mk_best (mk_ok c (mk_Bt σ m) G) (mk_sm c (mk_Dt σ m q) G) (r + 1) = mk_best (mk_ok c (mk_Bt σ m) G) (mk_sm c (mk_Dt σ m q) G) r → ∃ α' y, b_X3_shareOut_33 f (nI m) (nI (c ^ G)) v3 (nI (r + 1)) α1 = some (mj_zb y, α') ∧ mk_fr mk_Zs σ α' ∧ α'.1 40 6 = nI G ∧ mk_M9 c G (mk_best (mk_ok c (mk_Bt σ m) G) (mk_sm c (mk_Dt σ m q) G) (c ^ G)) y α' := by
      intro e
      refine mk_share9 h hm hG hq hN f (r + 1) v3 α1 (by omega) (by omega) fr1 h61 h411 ?_
      rw [e]
      rcases hM with ⟨a1, a2⟩ | ⟨s, r', a1, a2, a3, a4⟩
      · exact .inl ⟨a1, a2⟩
      · exact .inr ⟨s, r', a1, a2, by rw [h409]; exact a3, fun u hu => by rw [h43]; exact a4 u hu⟩
    rcases s3 with ⟨ok, ex, h42⟩ | ⟨no, ex⟩
    · have sle := mk_smB h hm hG hq (Nat.le_refl G) (show r < c ^ G by omega)
      have ne : ¬ nI (mk_sm c (mk_Dt σ m q) G r) = (-2 : Int32) := fun e => by
        have := congrArg Int32.toInt e
        have z : (-2 : Int32).toInt = -2 := rfl
        rw [nI_toInt (by omega), z] at this
        omega
      rw [ex, if_neg ne]
      have take : (∀ s r', mk_best (mk_ok c (mk_Bt σ m) G) (mk_sm c (mk_Dt σ m q) G) r = some (s, r') → mk_sm c (mk_Dt σ m q) G r < s) → ∃ α' y, b_X3_shareOut_68 (b_X3_shareOut_33 f) (nI m) (nI (c ^ G)) (nI r) (nI (mk_sm c (mk_Dt σ m q) G r)) α1 = some (mj_zb y, α') ∧ mk_fr mk_Zs σ α' ∧ α'.1 40 6 = nI G ∧ mk_M9 c G (mk_best (mk_ok c (mk_Bt σ m) G) (mk_sm c (mk_Dt σ m q) G) (c ^ G)) y α' := by
        intro hb
        unfold b_X3_shareOut_68
        rw [if_pos (by decide), nI_1]
        refine mk_share9 h hm hG hq hN f (r + 1) 1 _ (by omega) (by omega) ?_ h61 h411 ?_
        · refine mk_frt (mk_frt fr1 (mk_frI (i := 40) (k := 9) (v := nI (mk_sm c (mk_Dt σ m q) G r)) (by unfold mk_Zs; omega))) ⟨fun x y z => ?_, rfl⟩
          rw [mk_gR, if_neg (fun e => z (by unfold mk_Zs; omega))]
        · rw [mk_best_yes ⟨ok, hb⟩]
          refine .inr ⟨_, r, rfl, rfl, rfl, fun u hu => ?_⟩
          rw [mk_gR, if_pos rfl]
          unfold va_cpy
          have c1 : (0 : Nat) ≤ u ∧ u < 0 + 4 := by omega
          first
            | rw [if_pos c1, show 0 + (u - 0) = u by omega]
              exact h42 u hu
            | rw [if_pos (by omega), show 0 + (u - 0) = u by omega]
              exact h42 u hu
      rcases hM with ⟨a1, a2⟩ | ⟨s, r', a1, a2, a3, a4⟩
      · rw [if_pos a2]
        exact take (fun s r' e => by rw [a1] at e; exact absurd e (by intro z; cases z))
      · rw [if_neg (show ¬ v3 = 0 from by rw [a2]; decide), h409, a3]
        by_cases le : s ≤ mk_sm c (mk_Dt σ m q) G r
        · rw [if_pos (nI_le le (by omega))]
          refine keep (mk_best_no (fun z => ?_))
          have := z.2 s r' a1
          omega
        · have sl := mk_bestB h hm hG hq r s r' hr a1
          rw [if_neg (nI_ge (by omega) (by omega))]
          exact take (fun s2 r2 e => by
            rw [a1] at e
            have : s = s2 := congrArg Prod.fst (Option.some.inj e)
            omega)
    · rw [ex, if_pos rfl]
      exact keep (mk_best_no (fun z => no z.1))
theorem mk_pow4 {c G : Nat} (hc : c ≤ 6) (hG : G ≤ 4) : c ^ G ≤ 1296 := by
  have h1 : c ^ G ≤ 6 ^ G := Nat.pow_le_pow_left hc G
  have h2 : 6 ^ G ≤ 6 ^ 4 := Nat.pow_le_pow_right (by omega) hG
  have h3 : 6 ^ 4 = 1296 := by decide
  omega
theorem mk_powL {g c w n k d d2 a σ} (h : mk_J g c w n k d d2 a σ) {G : Nat} (hG : G ≤ 4) (m : Int32) {α : mj_S} (fr : mk_fr mk_Zs σ α) (h6 : α.1 40 6 = nI G) : ∀ (f t : Nat), G < f + t → t ≤ G → b_X3_shareOut_4 f m (nI (c ^ t)) (nI t) α = b_X3_shareOut_33 mj_fu m (nI (c ^ G)) 0 0 α
  | 0, t, hf, ht => absurd hf (by omega)
  | f + 1, t, hf, ht => by
    have hc := h.hc
    unfold b_X3_shareOut_4 f_X2_size
    rw [h6, (mk_JS h fr).c9]
    by_cases htG : t = G
    · rw [if_pos (by rw [htG]; exact nI_le (by omega) (by omega)), htG]
    · rw [if_neg (nI_ge (by omega) (by omega)), nI_1, mk_mulN, ← Nat.pow_succ]
      exact mk_powL h hG m fr h6 f (t + 1) (by omega) (by omega)
theorem mk_shareOut {g c w n k d d2 a σ} (h : mk_J g c w n k d d2 a σ) {m G : Nat} {q : Nat → Nat} (hm : m < 600) (hG : G ≤ 4) (hq : ∀ u, u < G → q u < k) {α : mj_S} (fr : mk_fr mk_Zs σ α) (h6 : α.1 40 6 = nI G) (h41 : ∀ u, u < G → α.1 41 u = nI (q u)) :
    ∃ α' x, f_X3_shareOut α (nI m) = some (mj_zb x, α') ∧ mk_fr mk_Zs σ α' ∧ α'.1 40 6 = nI G ∧ mk_M9 c G (mk_best (mk_ok c (mk_Bt σ m) G) (mk_sm c (mk_Dt σ m q) G) (c ^ G)) x α' := by
  have hc := h.hc
  have hN := mk_pow4 hc hG
  obtain ⟨α', x, o⟩ := mk_share9 h hm hG hq hN mj_fu 0 0 α (by show 1296 < 5000 + 0; omega) (by omega) fr h6 h41 (.inl ⟨rfl, rfl⟩)
  refine ⟨α', x, ?_, o.2⟩
  unfold f_X3_shareOut
  have := mk_powL h hG (nI m) fr h6 mj_fu 0 (by show G < 5000 + 0; omega) (by omega)
  rw [Nat.pow_zero, nI_0] at this
  rw [show (1 : Int32) = nI 1 from rfl, this, ← nI_0]
  exact o.1
