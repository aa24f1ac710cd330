-- heights of the class: one row, then all that are stale
theorem mk_bs {α β : Type} (a : α) (f : α → Option β) : (some a).bind f = f a := rfl
def mk_Zg (a1 : Nat) (x y : Nat) : Prop := x = a1 ∨ x = 4 ∨ (x = 1 ∧ y = 4) ∨ (x = 34 ∧ (y = 0 ∨ y = 2 ∨ y = 3 ∨ y = 5))
theorem mk_frt {Z : Nat → Nat → Prop} {a b c : mj_S} (h : mk_fr Z a b) (k : mk_fr Z b c) : mk_fr Z a c := ⟨fun x y q => (k.1 x y q).trans (h.1 x y q), k.2.trans h.2⟩
theorem mk_frw {Z Z' : Nat → Nat → Prop} {a b : mj_S} (h : mk_fr Z a b) (w : ∀ x y, Z x y → Z' x y) : mk_fr Z' a b := ⟨fun x y q => h.1 x y (fun z => q (w x y z)), h.2⟩
theorem mk_frI {Z : Nat → Nat → Prop} {a : mj_S} {i k : Nat} {v : Int32} (h : Z i k) : mk_fr Z a (mj_sI a i k v) := ⟨fun x y q => by rw [mk_g, if_neg (fun z => q (by rw [z.1, z.2]; exact h))], rfl⟩
theorem mk_growLoop {g : mk_G} {s13 s15 s18 : Int32} {c2 c3 c76 : Nat → Int32} (hl : mk_law g s13 s15 s18 c2 c3 c76) (a1 a5 : Nat) (h1 : 9 ≤ a1) (h5 : 9 ≤ a5) (h15 : a1 ≠ a5) (h134 : a1 ≠ 34) (h534 : a5 ≠ 34) (b L a s p kd : Int32) (want : Nat → Int32) :
    ∀ (f m : Nat) (x : Int32) (σ : mj_S), 600 < f + m → m ≤ 600 → σ.1 1 3 = s13 → σ.1 1 5 = s15 → σ.1 2 = c2 → σ.1 3 = c3 → σ.1 34 1 = s → σ.1 34 4 = p / 64 → σ.1 34 6 = kd → (∀ i, i < 600 → σ.1 a5 i = want i) → (m < 600 → mk_hh g b L a s p kd want m = mk_hs g b L a s p kd want x m) →
      ∃ τ, b_X2_grow_6 f a1 600 b L a a5 600 x (nI m) σ = some τ ∧ mk_fr (mk_Zg a1) σ τ ∧ ∀ i, i < 600 → τ.1 a1 i = if m ≤ i then mk_hh g b L a s p kd want i else σ.1 a1 i
  | 0, m, x, σ, hf, hm, _, _, _, _, _, _, _, _, _ => absurd hf (by omega)
  | f + 1, m, x, σ, hf, hm, g1, g2, g3, g4, g5, g6, g7, g8, g9 => by
    unfold b_X2_grow_6
    by_cases h6 : m = 600
    · exact ⟨σ, by rw [if_pos (show Int32.ofNat 600 ≤ nI m from by rw [h6]; exact nI_le (a := 600) (b := 600) (by omega) (by omega))], ⟨fun _ _ _ => rfl, rfl⟩, fun i hi => by rw [if_neg (by omega)]⟩
    have hm6 : m < 600 := by omega
    have hng : ¬ Int32.ofNat 600 ≤ nI m := nI_ge (a := m) (b := 600) hm6 (by omega)
    have hb : 0 ≤ (nI m).toInt ∧ (nI m).toInt < ((600 : Nat) : Int) := by
      rw [nI_toInt (by omega)]
      omega
    have hcl : (nI m).toNatClampNeg = m := nI_clamp (by omega)
    rw [if_neg hng, if_neg hng]
    -- one month, its height y known
    have step : ∀ (y : Int32) (σ' : mj_S), y = mk_hs g b L a s p kd want x m → mk_fr (mk_Zg a1) σ σ' → σ'.1 a1 = σ.1 a1 → ∃ τ, b_X2_grow_107 (b_X2_grow_6 f) a1 600 b L a a5 600 y (nI m) σ' = some τ ∧ mk_fr (mk_Zg a1) σ τ ∧ ∀ i, i < 600 → τ.1 a1 i = if m ≤ i then mk_hh g b L a s p kd want i else σ.1 a1 i := by
      intro y σ' hy hfr ha1
      have ne : ∀ x' y', ¬ mk_Zg a1 x' y' → (mj_sI σ' a1 m y).1 x' y' = σ.1 x' y' := by
        intro x' y' hz
        rw [mk_g, if_neg (fun q => hz (.inl q.1))]
        exact hfr.1 x' y' hz
      have eqm : mk_hh g b L a s p kd want m = y := (g9 hm6).trans hy.symm
      obtain ⟨τ, t1, t2, t3⟩ := mk_growLoop hl a1 a5 h1 h5 h15 h134 h534 b L a s p kd want f (m + 1) y (mj_sI σ' a1 m y) (by omega) (by omega) ((ne 1 3 (by unfold mk_Zg; omega)).trans g1) ((ne 1 5 (by unfold mk_Zg; omega)).trans g2) ((funext fun z => ne 2 z (by unfold mk_Zg; omega)).trans g3) ((funext fun z => ne 3 z (by unfold mk_Zg; omega)).trans g4) ((ne 34 1 (by unfold mk_Zg; omega)).trans g5) ((ne 34 4 (by unfold mk_Zg; omega)).trans g6) ((ne 34 6 (by unfold mk_Zg; omega)).trans g7) (fun i hi => (ne a5 i (by unfold mk_Zg; omega)).trans (g8 i hi)) (fun _ => by
        show mk_hs g b L a s p kd want (mk_hh g b L a s p kd want m) (m + 1) = _
        rw [eqm])
      refine ⟨τ, ?_, mk_frt hfr (mk_frt (mk_frI (.inl rfl)) t2), fun i hi => ?_⟩
      · unfold b_X2_grow_107
        rw [if_pos hb, hcl, nI_1]
        exact t1
      · rw [t3 i hi, mk_g]
        by_cases q1 : m + 1 ≤ i
        · rw [if_pos q1, if_pos (by omega)]
        · rw [if_neg q1]
          by_cases q2 : i = m
          · rw [if_pos ⟨rfl, q2⟩, if_pos (by omega), q2, eqm]
          · rw [if_neg (fun q => q2 q.2), if_neg (by omega), ha1]
    by_cases k1 : nI m = b
    · rw [if_pos k1]
      exact step L σ (by unfold mk_hs; rw [if_pos k1]) ⟨fun _ _ _ => rfl, rfl⟩ rfl
    rw [if_neg k1]
    by_cases k2 : nI m ≤ b
    · rw [if_pos k2]
      exact step x σ (by unfold mk_hs; rw [if_neg k1, if_pos k2]) ⟨fun _ _ _ => rfl, rfl⟩ rfl
    rw [if_neg k2, if_pos hb, hcl]
    have hw : (mj_sI σ 34 0 ((nI m - b) - a)).1 a5 m = want m := by
      rw [mk_g, if_neg (fun q => h534 q.1)]
      exact g8 m hm6
    rw [hw]
    obtain ⟨ρ, hρ⟩ : ∃ ρ, ρ = mj_sI (mj_sI (mj_sI (mj_sI σ 34 0 ((nI m - b) - a)) 34 2 (want m)) 34 3 (x / 64)) 34 5 (mj_rem (nI m) 12) := ⟨_, rfl⟩
    rw [← hρ]
    have fρ : mk_fr (mk_Zg a1) σ ρ := by
      rw [hρ]
      exact mk_frt (mk_frt (mk_frt (mk_frI (.inr (.inr (.inr ⟨rfl, .inl rfl⟩)))) (mk_frI (.inr (.inr (.inr ⟨rfl, .inr (.inl rfl)⟩))))) (mk_frI (.inr (.inr (.inr ⟨rfl, .inr (.inr (.inl rfl))⟩))))) (mk_frI (.inr (.inr (.inr ⟨rfl, .inr (.inr (.inr rfl))⟩))))
    obtain ⟨ρ', r1, r2⟩ := hl.cls ρ ((fρ.1 1 3 (by unfold mk_Zg; omega)).trans g1) ((fρ.1 1 5 (by unfold mk_Zg; omega)).trans g2) ((funext fun z => fρ.1 2 z (by unfold mk_Zg; omega)).trans g3) ((funext fun z => fρ.1 3 z (by unfold mk_Zg; omega)).trans g4)
    have n0 : ρ.1 34 0 = (nI m - b) - a := by rw [hρ]; rfl
    have n1 : ρ.1 34 1 = s := by rw [hρ]; exact g5
    have n2 : ρ.1 34 2 = want m := by rw [hρ]; rfl
    have n3 : ρ.1 34 3 = x / 64 := by rw [hρ]; rfl
    have n4 : ρ.1 34 4 = p / 64 := by rw [hρ]; exact g6
    have n5 : ρ.1 34 5 = mj_rem (nI m) 12 := by rw [hρ]; rfl
    have n6 : ρ.1 34 6 = kd := by rw [hρ]; exact g7
    rw [r1, n0, n1, n2, n3, n4, n5, n6]
    refine step _ ρ' ?_ (mk_frt fρ (mk_frw r2 (fun x' y' z => by unfold mk_Z4 at z; unfold mk_Zg; omega))) ?_
    · unfold mk_hs
      rw [if_neg k1, if_neg k2]
    · funext z
      rw [r2.1 a1 z (by unfold mk_Z4; omega), hρ, mk_g, if_neg (fun q => h134 q.1), mk_g, if_neg (fun q => h134 q.1), mk_g, if_neg (fun q => h134 q.1), mk_g, if_neg (fun q => h134 q.1)]
theorem mk_grow {g : mk_G} {σ : mj_S} {s18 : Int32} {c76 : Nat → Int32} (hl : mk_law g (σ.1 1 3) (σ.1 1 5) s18 (σ.1 2) (σ.1 3) c76) (a1 a5 : Nat) (h1 : 9 ≤ a1) (h5 : 9 ≤ a5) (h15 : a1 ≠ a5) (h134 : a1 ≠ 34) (h534 : a5 ≠ 34) (b L a p : Int32) (g6 : σ.1 34 4 = p / 64) :
    ∃ τ, f_X2_grow σ a1 600 b L a a5 600 = some τ ∧ mk_fr (mk_Zg a1) σ τ ∧ ∀ i, i < 600 → τ.1 a1 i = mk_hh g b L a (σ.1 34 1) p (σ.1 34 6) (σ.1 a5) i := by
  obtain ⟨τ, t1, t2, t3⟩ := mk_growLoop hl a1 a5 h1 h5 h15 h134 h534 b L a (σ.1 34 1) p (σ.1 34 6) (σ.1 a5) mj_fu 0 0 σ (by show 600 < 5000 + 0; omega) (by omega) rfl rfl rfl rfl rfl g6 rfl (fun _ _ => rfl) (fun _ => rfl)
  refine ⟨τ, ?_, t2, fun i hi => ?_⟩
  · rw [nI_0] at t1
    have e : f_X2_grow σ a1 600 b L a a5 600 = b_X2_grow_6 mj_fu a1 600 b L a a5 600 0 0 σ := by
      unfold f_X2_grow
      rfl
    exact e.trans t1
  · rw [t3 i hi, if_pos (by omega)]
def mk_Zr (x y : Nat) : Prop := (19 ≤ x ∧ x ≤ 24) ∨ (26 ≤ x ∧ x ≤ 31) ∨ x = 33 ∨ x = 34 ∨ x = 4 ∨ (x = 1 ∧ y = 4)
/-- the two rows of child j are right, by the values told in σ -/
def mk_rr (g : mk_G) (σ τ : mj_S) (j : Nat) : Prop := ∀ m, m < 600 → τ.1 (19 + j) m = mk_hh g (σ.1 10 j) (σ.1 12 j) (σ.1 13 j) (σ.1 11 j) (σ.1 14 j) (nI j) (σ.1 15) m ∧ τ.1 (26 + j) m = mk_hh g (σ.1 10 j) 1280 0 (σ.1 11 j) 4300 6 (σ.1 16) m
theorem mk_refreshLoop {g : mk_G} (σ : mj_S) {s18 : Int32} {c76 : Nat → Int32} (hl : mk_law g (σ.1 1 3) (σ.1 1 5) s18 (σ.1 2) (σ.1 3) c76) {c : Nat} (hc : c ≤ 6) (h9 : σ.1 9 6 = nI c) :
    ∀ (f i : Nat) (α : mj_S), c < f + i → i ≤ c → mk_fr mk_Zr σ α → (∀ j, j < c → (j < i ∨ α.1 33 j = 0) → α.1 33 j = 0 ∧ mk_rr g σ α j) → ∃ τ, b_X2_refresh_2 f (nI i) α = some τ ∧ mk_fr mk_Zr σ τ ∧ ∀ j, j < c → τ.1 33 j = 0 ∧ mk_rr g σ τ j
  | 0, i, α, hf, hi, _, _ => absurd hf (by omega)
  | f + 1, i, α, hf, hi, hfr, hr => by
    unfold b_X2_refresh_2
    have e9 : α.1 9 6 = nI c := (hfr.1 9 6 (by unfold mk_Zr; omega)).trans h9
    rw [e9]
    by_cases hic : i = c
    · exact ⟨α, if_pos (by rw [hic]; exact nI_le (by omega) (by omega)), hfr, fun j hj => hr j hj (.inl (by omega))⟩
    have hi6 : i < 6 := by omega
    have hb := mk_in6 hi6
    have hcl : (nI i).toNatClampNeg = i := nI_clamp (by omega)
    rw [if_neg (nI_ge (by omega) (by omega)), if_neg (show ¬ (6 : Int32) ≤ nI i from nI_ge (a := i) (b := 6) hi6 (by omega)), if_pos hb, hcl, nI_1]
    by_cases hs : α.1 33 i = 0
    · rw [if_pos hs]
      exact mk_refreshLoop σ hl hc h9 f (i + 1) α (by omega) (by omega) hfr (fun j hj q => hr j hj (by
        rcases q with q | q
        · by_cases hji : j = i
          · rw [hji]
            exact .inr hs
          · exact .inl (by omega)
        · exact .inr q))
    rw [if_neg hs]
    simp only [if_pos hb]
    have ce : ∀ x, (9 ≤ x ∧ x ≤ 18) → α.1 x = σ.1 x := fun x hx => funext fun y => hfr.1 x y (by unfold mk_Zr; omega)
    -- the child's own row
    obtain ⟨α1, hα1⟩ : ∃ α1, α1 = mj_sI (mj_sI (mj_sI α 34 1 (α.1 11 i)) 34 4 ((α.1 14 i) / 64)) 34 6 (nI i) := ⟨_, rfl⟩
    have f1 : mk_fr mk_Zr σ α1 := by
      rw [hα1]
      exact mk_frt (mk_frt (mk_frt hfr (mk_frI (.inr (.inr (.inr (.inl rfl)))))) (mk_frI (.inr (.inr (.inr (.inl rfl)))))) (mk_frI (.inr (.inr (.inr (.inl rfl)))))
    have law1 : ∀ β : mj_S, mk_fr mk_Zr σ β → mk_law g (β.1 1 3) (β.1 1 5) s18 (β.1 2) (β.1 3) c76 := by
      intro β hβ
      rw [hβ.1 1 3 (by unfold mk_Zr; omega), hβ.1 1 5 (by unfold mk_Zr; omega), funext fun y => hβ.1 2 y (by unfold mk_Zr; omega), funext fun y => hβ.1 3 y (by unfold mk_Zr; omega)]
      exact hl
    obtain ⟨α2, k1, k2, k3⟩ := mk_grow (law1 α1 f1) (19 + i) 15 (by omega) (by omega) (by omega) (by omega) (by omega) (α1.1 10 i) (α1.1 12 i) (α1.1 13 i) (α.1 14 i) (by rw [hα1]; rfl)
    have f2 : mk_fr mk_Zr σ α2 := mk_frt f1 (mk_frw k2 (fun x y z => by unfold mk_Zg at z; unfold mk_Zr; omega))
    obtain ⟨α3, hα3⟩ : ∃ α3, α3 = mj_sI (mj_sI (mj_sI α2 34 1 (α2.1 11 i)) 34 4 (4300 / 64)) 34 6 6 := ⟨_, rfl⟩
    have f3 : mk_fr mk_Zr σ α3 := by
      rw [hα3]
      exact mk_frt (mk_frt (mk_frt f2 (mk_frI (.inr (.inr (.inr (.inl rfl)))))) (mk_frI (.inr (.inr (.inr (.inl rfl)))))) (mk_frI (.inr (.inr (.inr (.inl rfl)))))
    obtain ⟨α4, k4, k5, k6⟩ := mk_grow (law1 α3 f3) (26 + i) 16 (by omega) (by omega) (by omega) (by omega) (by omega) (α3.1 10 i) 1280 0 4300 (by rw [hα3]; rfl)
    have f4 : mk_fr mk_Zr σ α4 := mk_frt f3 (mk_frw k5 (fun x y z => by unfold mk_Zg at z; unfold mk_Zr; omega))
    have f5 : mk_fr mk_Zr σ (mj_sI α4 33 i 0) := mk_frt f4 (mk_frI (.inr (.inr (.inl rfl))))
    -- α1 .. differ from α in rows and names alone
    have n12 : ∀ x y, x ≠ 34 → ¬ mk_Zg (19 + i) x y → α2.1 x y = α.1 x y := by
      intro x y hx hz
      rw [k2.1 x y hz, hα1, mk_g, if_neg (fun q => hx q.1), mk_g, if_neg (fun q => hx q.1), mk_g, if_neg (fun q => hx q.1)]
    have n34 : ∀ x y, x ≠ 34 → ¬ mk_Zg (26 + i) x y → α4.1 x y = α2.1 x y := by
      intro x y hx hz
      rw [k5.1 x y hz, hα3, mk_g, if_neg (fun q => hx q.1), mk_g, if_neg (fun q => hx q.1), mk_g, if_neg (fun q => hx q.1)]
    obtain ⟨τ, t1, t2, t3⟩ := mk_refreshLoop σ hl hc h9 f (i + 1) (mj_sI α4 33 i 0) (by omega) (by omega) f5 (fun j hj q => by
      by_cases hji : j = i
      · rw [hji]
        refine ⟨by rw [mk_g, if_pos ⟨rfl, rfl⟩], fun m hm => ⟨?_, ?_⟩⟩
        · rw [mk_g, if_neg (by omega), n34 _ _ (by omega) (by unfold mk_Zg; omega), k3 m hm]
          have c10 : α1.1 10 i = σ.1 10 i := f1.1 10 i (by unfold mk_Zr; omega)
          have c12 : α1.1 12 i = σ.1 12 i := f1.1 12 i (by unfold mk_Zr; omega)
          have c13 : α1.1 13 i = σ.1 13 i := f1.1 13 i (by unfold mk_Zr; omega)
          have c15 : α1.1 15 = σ.1 15 := funext fun y => f1.1 15 y (by unfold mk_Zr; omega)
          have m1 : α1.1 34 1 = σ.1 11 i := by
            rw [hα1]
            show α.1 11 i = _
            rw [ce 11 (by omega)]
          have m6 : α1.1 34 6 = nI i := by
            rw [hα1]
            rfl
          rw [c10, c12, c13, c15, m1, m6, ce 14 (by omega)]
        · rw [mk_g, if_neg (by omega), k6 m hm]
          have c10 : α3.1 10 i = σ.1 10 i := f3.1 10 i (by unfold mk_Zr; omega)
          have c16 : α3.1 16 = σ.1 16 := funext fun y => f3.1 16 y (by unfold mk_Zr; omega)
          have m1 : α3.1 34 1 = σ.1 11 i := by
            rw [hα3]
            show α2.1 11 i = _
            exact f2.1 11 i (by unfold mk_Zr; omega)
          have m6 : α3.1 34 6 = 6 := by
            rw [hα3]
            rfl
          rw [c10, c16, m1, m6]
      · have e33 : (mj_sI α4 33 i 0).1 33 j = α.1 33 j := by
          rw [mk_g, if_neg (fun q => hji q.2), n34 _ _ (by omega) (by unfold mk_Zg; omega), n12 _ _ (by omega) (by unfold mk_Zg; omega)]
        rw [e33]
        rw [e33] at q
        have o := hr j hj (by
          rcases q with q | q
          · exact .inl (by omega)
          · exact .inr q)
        refine ⟨o.1, fun m hm => ?_⟩
        rw [mk_g, if_neg (by omega), n34 _ _ (by omega) (by unfold mk_Zg; omega), n12 _ _ (by omega) (by unfold mk_Zg; omega), mk_g, if_neg (by omega), n34 _ _ (by omega) (by unfold mk_Zg; omega), n12 _ _ (by omega) (by unfold mk_Zg; omega)]
        exact o.2 m hm)
    refine ⟨τ, ?_, t2, t3⟩
    have z19 : 18 + 1 + i = 19 + i := by omega
    have z26 : 25 + 1 + i = 26 + i := by omega
    rw [z19, z26]
    have en1 : f_X2_name α (α.1 11 i) (α.1 14 i) (nI i) = some α1 := by
      rw [hα1]
      rfl
    have en2 : f_X2_name α2 (α2.1 11 i) 4300 6 = some α3 := by
      rw [hα3]
      rfl
    rw [en1, mk_bs, k1, mk_bs, en2, mk_bs, k4, mk_bs]
    exact t1
